def F_X6_switchOn (fl : Nat → Int32) (on : Int32) (rn : Int32) (lf : Int32) (wt : Int32) (cm : Int32) : Int32 × (Nat → Int32) × (Int32) × (Int32) × (Int32) × (Int32) × (Int32) × (Int32) := (if on = 0 then (if (F_X6_isDue fl) = 0 then (if (F_X6_willTry fl (F_X6_confirmedSlot fl)) = 0 then ((F_X6_confirmedSlot fl), fl, 1, (F_X6_confirmedSlot fl), lf, wt, cm, 0) else ((1 - (F_X6_confirmedSlot fl)), fl, 1, (1 - (F_X6_confirmedSlot fl)), lf, wt, cm, 0)) else (if (F_X6_willTry fl (F_X6_confirmedSlot fl)) = 0 then (match (F_X6_records fl on rn lf wt cm (F_X6_confirmedSlot fl) (F_X6_inForce fl 3)) with | (r_19, fl20, on21, rn22, lf23, wt24, cm25) => (if r_19 = 0 then ((-1), fl20, 0, (-1), lf23, wt24, cm25, 0) else ((F_X6_confirmedSlot fl), fl20, 1, (F_X6_confirmedSlot fl), lf23, wt24, cm25, 0))) else (match (F_X6_records fl on rn lf wt cm (((F_X6_confirmedSlot fl) + 2) + (4 * ((F_X6_triesLeft fl) - 1))) (F_X6_inForce fl 3)) with | (r_37, fl38, on39, rn40, lf41, wt42, cm43) => (if r_37 = 0 then ((-1), fl38, 0, (-1), lf41, wt42, cm43, 0) else ((1 - (F_X6_confirmedSlot fl)), fl38, 1, (1 - (F_X6_confirmedSlot fl)), lf41, wt42, cm43, 0))))) else (0, fl, on, rn, lf, wt, cm, 1))
set_option maxHeartbeats 4000000 in
set_option maxRecDepth 100000 in
theorem c_X6_switchOn (l : Launch) (D : va_G) (cA : ClassId) (mo fa ka da : Nat) (sz : Nat) (fl : Nat → Int32) (kp : Nat → Int32) (on : Int32) (rn : Int32) (lf : Int32) (wt : Int32) (nv : Int32) (nl : Int32) (nh : Int32) (nc : Int32) (cm : Int32) (dr : Nat → Int32) (dn : Int32) (la : Int32) (hcs : sl (F_X6_confirmedSlot fl)) : Met l yX6_switchOn wsX6_switchOn ({ frames := 7, cells := 0, slots := 0, locals := 146 }) (va_Pc [.ref mo] (bx_pre D [(cA, .int)] (wMo cA mo fa ka da fl kp on rn lf wt nv nl nh nc cm dr dn la) sz)) (va_Qi (fun r u => (r, u) = F_X6_switchOn fl on rn lf wt cm) (fun u t => bx_at D (wMo cA mo fa ka da u.1 kp u.2.1 u.2.2.1 u.2.2.2.1 u.2.2.2.2.1 nv nl nh nc u.2.2.2.2.2.1 dr dn u.2.2.2.2.2.2) (va_A (wMo cA mo fa ka da fl kp on rn lf wt nv nl nh nc cm dr dn la) sz) t) (va_A (wMo cA mo fa ka da fl kp on rn lf wt nv nl nh nc cm dr dn la) sz)) 0 0 (va_A (wMo cA mo fa ka da fl kp on rn lf wt nv nl nh nc cm dr dn la) sz) := by
  refine Met.ofW (cc := cX6_switchOn) (maxL := 4) (ret := (some .int)) (by decide) rfl ?_
  intro p e s m args below meth c s₁ B hml hv
  obtain ⟨rfl, hsz, hP, hK, hD0, hG⟩ := hv
  have hx := B.exec
  have hb := B.bytes
  have hr := B.returns
  have hts := atoms_spec (ws := wsX6_switchOn) B.pre
  have hown : s.vm.findClass RX6 = some m.cls := findClass_of_methodNamed B.named
  have hlocks := B.notSynchronized
  subst hsz
  have hD := hD0.self (sz := s.heap.size)
  generalize hAe : va_A (wMo cA mo fa ka da fl kp on rn lf wt nv nl nh nc cm dr dn la) s.heap.size = A at hD ⊢
  have hA : ∀ q : Nat, s.heap.size ≤ q → A q := fun q h => by rw [← hAe]; exact Or.inr h
  have hS : va_S A s.heap s.heap [] := va_S.rf
  have hD : va_D A [(mo, .inr (6, [.ref fa, .ref ka, .int on, .int rn, .int lf, .int wt, .int nv, .int nl, .int nh, .int nc, .int cm, .ref da, .int dn, .int la])), (fa, .inl (cA, 66, .inl fl)), (ka, .inl (cA, 66, .inl kp)), (da, .inl (cA, 24, .inl dr))] := hD
  have hP : va_P D vwCl [(mo, .inr (6, [.ref fa, .ref ka, .int on, .int rn, .int lf, .int wt, .int nv, .int nl, .int nh, .int nc, .int cm, .ref da, .int dn, .int la])), (fa, .inl (cA, 66, .inl fl)), (ka, .inl (cA, 66, .inl kp)), (da, .inl (cA, 24, .inl dr))] s.heap := hP
  have hl := lv_entry ([.ref mo]) (n := 4) (Nat.le_of_ble_eq_true rfl)
  rw [lg_entry_eq]
  generalize (lg_sl ([.ref mo]) ++ List.replicate (4 - (lg_sl ([.ref mo])).length) Slot.unset).toArray = ls at hl ⊢
  have hl : lv_has ls 4 [(0, .ref mo)] := hl
  have hi6 : ∀ w ∈ u_ws RX6 TX6 14, w ∈ wsX6_switchOn := by decide +kernel
  refine lv_aload_n hx hb dX6_switchOn_0 rfl (lv_at hl 0 rfl) ?_
  refine lv_aload_n hx hb dX6_switchOn_1 rfl (lv_at hl 0 rfl) ?_
  refine va_get (D := D) (ci := 6) (v := .int on) (C := RX6) (T := TX6) (N := 14) hx hb hts hi6 hown hK hP 0 rfl rfl 2 (by decide) (hts (.fieldLink RX6 63 "BootstayModel" "on" "Z") (by decide +kernel)) (fun _ h9 => h9) rfl dX6_switchOn_2 ?_
  refine lv_if_eq (tgt := 12) hx hb dX6_switchOn_5 (by decide) (fun c_1 => ?_) (fun c_1 => ?_)
  · skip
    refine lv_iconst (v := 0) hx hb dX6_switchOn_12 (by decide) ?_
    refine va_put (D := D) (ci := 6) (v := .int 0) (ty := .int) (C := RX6) (T := TX6) (N := 14) hx hb hts hi6 tyX6 tyX6_ok nmX6 hown hK hP hD hS 0 rfl rfl 13 (by decide) (hts (.fieldLink RX6 37 "BootstayModel" "last" "I") (by decide +kernel)) (fun _ h9 => h9) rfl (by decide +kernel) rfl rfl (Nat.le_of_ble_eq_true rfl) dX6_switchOn_13 (fun H locs hP hD hS => ?_)
    have hP : va_P D vwCl [(mo, .inr (6, [.ref fa, .ref ka, .int on, .int rn, .int lf, .int wt, .int nv, .int nl, .int nh, .int nc, .int cm, .ref da, .int dn, .int 0])), (fa, .inl (cA, 66, .inl fl)), (ka, .inl (cA, 66, .inl kp)), (da, .inl (cA, 24, .inl dr))] H := hP
    have hD : va_D A [(mo, .inr (6, [.ref fa, .ref ka, .int on, .int rn, .int lf, .int wt, .int nv, .int nl, .int nh, .int nc, .int cm, .ref da, .int dn, .int 0])), (fa, .inl (cA, 66, .inl fl)), (ka, .inl (cA, 66, .inl kp)), (da, .inl (cA, 24, .inl dr))] := hD
    refine lv_aload_n hx hb dX6_switchOn_16 rfl (lv_at hl 0 rfl) ?_
    refine va_get (D := D) (ci := 6) (v := .int 0) (C := RX6) (T := TX6) (N := 14) hx hb hts hi6 hown hK hP 0 rfl rfl 13 (by decide) (hts (.fieldLink RX6 37 "BootstayModel" "last" "I") (by decide +kernel)) (fun _ h9 => h9) rfl dX6_switchOn_17 ?_
    refine lv_if_le (tgt := 25) hx hb dX6_switchOn_20 (by decide) (fun c_2 => ?_) (fun c_2 => ?_)
    · skip
      refine lv_aload_n hx hb dX6_switchOn_25 rfl (lv_at hl 0 rfl) ?_
      refine bx_ri (va_runV (As := []) (rest := []) ⟨hx, hb, hml, hown, hts⟩ (c_X6_confirmedSlot l D cA mo fa ka da fl kp on rn lf wt nv nl nh nc cm dr dn 0) (cwV 0 hts gX6_switchOn_X6_confirmedSlot rfl rfl rfl (by decide +kernel) ⟨Nat.le_of_ble_eq_true rfl, Nat.le_of_ble_eq_true rfl⟩) (bx_pvr (ci := 6) (q0 := 0) hK hG (hP.sub (ws' := [(mo, .inr (6, [.ref fa, .ref ka, .int on, .int rn, .int lf, .int wt, .int nv, .int nl, .int nh, .int nc, .int cm, .ref da, .int dn, .int 0])), (fa, .inl (cA, 66, .inl fl)), (ka, .inl (cA, 66, .inl kp)), (da, .inl (cA, 24, .inl dr))]) [0, 1, 2, 3] rfl) rfl rfl) rfl rfl hl.1 rfl (lv_room (Nat.le_of_ble_eq_true rfl)) dX6_switchOn_26 ⟨Nat.zero_le _, Nat.zero_le _⟩) (fun r_3 h_4 => ?_)
      have h_4 := h_4.symm
      subst h_4
      refine lv_istore_n (lv' := [(1, .int (F_X6_confirmedSlot fl)), (0, .ref mo)]) hx hb dX6_switchOn_29 rfl hl (by decide) rfl (fun ls hl => ?_)
      refine lv_aload_n hx hb dX6_switchOn_30 rfl (lv_at hl 1 rfl) ?_
      refine lv_iload_n hx hb dX6_switchOn_31 rfl (lv_at hl 0 rfl) ?_
      refine bx_ri (va_runV (As := [.int (F_X6_confirmedSlot fl)]) (rest := []) ⟨hx, hb, hml, hown, hts⟩ (c_X6_willTry l D cA mo fa ka da fl kp on rn lf wt nv nl nh nc cm dr dn 0 (F_X6_confirmedSlot fl) hcs) (cwV 1 hts gX6_switchOn_X6_willTry rfl rfl rfl (by decide +kernel) ⟨Nat.le_of_ble_eq_true rfl, Nat.le_of_ble_eq_true rfl⟩) (bx_pvr (ci := 6) (q0 := 0) hK hG (hP.sub (ws' := [(mo, .inr (6, [.ref fa, .ref ka, .int on, .int rn, .int lf, .int wt, .int nv, .int nl, .int nh, .int nc, .int cm, .ref da, .int dn, .int 0])), (fa, .inl (cA, 66, .inl fl)), (ka, .inl (cA, 66, .inl kp)), (da, .inl (cA, 24, .inl dr))]) [0, 1, 2, 3] rfl) rfl rfl) rfl rfl hl.1 rfl (lv_room (Nat.le_of_ble_eq_true rfl)) dX6_switchOn_32 ⟨Nat.zero_le _, Nat.zero_le _⟩) (fun r_5 h_6 => ?_)
      obtain ⟨h_6, b_7⟩ := h_6
      have h_6 := h_6.symm
      subst h_6
      refine lv_istore_n (lv' := [(2, .int (F_X6_willTry fl (F_X6_confirmedSlot fl))), (1, .int (F_X6_confirmedSlot fl)), (0, .ref mo)]) hx hb dX6_switchOn_35 rfl hl (by decide) rfl (fun ls hl => ?_)
      refine lv_aload_n hx hb dX6_switchOn_36 rfl (lv_at hl 2 rfl) ?_
      refine bx_ri (va_runV (As := []) (rest := []) ⟨hx, hb, hml, hown, hts⟩ (c_X6_isDue l D cA mo fa ka da fl kp on rn lf wt nv nl nh nc cm dr dn 0) (cwV 0 hts gX6_switchOn_X6_isDue rfl rfl rfl (by decide +kernel) ⟨Nat.le_of_ble_eq_true rfl, Nat.le_of_ble_eq_true rfl⟩) (bx_pvr (ci := 6) (q0 := 0) hK hG (hP.sub (ws' := [(mo, .inr (6, [.ref fa, .ref ka, .int on, .int rn, .int lf, .int wt, .int nv, .int nl, .int nh, .int nc, .int cm, .ref da, .int dn, .int 0])), (fa, .inl (cA, 66, .inl fl)), (ka, .inl (cA, 66, .inl kp)), (da, .inl (cA, 24, .inl dr))]) [0, 1, 2, 3] rfl) rfl rfl) rfl rfl hl.1 rfl (lv_room (Nat.le_of_ble_eq_true rfl)) dX6_switchOn_37 ⟨Nat.zero_le _, Nat.zero_le _⟩) (fun r_8 h_9 => ?_)
      obtain ⟨h_9, b_10⟩ := h_9
      have h_9 := h_9.symm
      subst h_9
      refine lv_if_eq (tgt := 75) hx hb dX6_switchOn_40 (by decide) (fun c_11 => ?_) (fun c_11 => ?_)
      · skip
        refine lv_iconst (v := 1) hx hb dX6_switchOn_75 (by decide) ?_
        refine lv_goto (tgt := 80) hx hb dX6_switchOn_76 (by decide) ?_
        refine lv_istore_n (lv' := [(3, .int 1), (2, .int (F_X6_willTry fl (F_X6_confirmedSlot fl))), (1, .int (F_X6_confirmedSlot fl)), (0, .ref mo)]) hx hb dX6_switchOn_80 rfl hl (by decide) rfl (fun ls hl => ?_)
        refine lv_aload_n hx hb dX6_switchOn_81 rfl (lv_at hl 3 rfl) ?_
        refine lv_iload_n hx hb dX6_switchOn_82 rfl (lv_at hl 0 rfl) ?_
        refine va_put (D := D) (ci := 6) (v := .int 1) (ty := .boolean) (C := RX6) (T := TX6) (N := 14) hx hb hts hi6 tyX6 tyX6_ok nmX6 hown hK hP hD hS 0 rfl rfl 2 (by decide) (hts (.fieldLink RX6 63 "BootstayModel" "on" "Z") (by decide +kernel)) (fun _ h9 => h9) rfl (by decide +kernel) rfl rfl (Nat.le_of_ble_eq_true rfl) dX6_switchOn_83 (fun H locs hP hD hS => ?_)
        have hP : va_P D vwCl [(mo, .inr (6, [.ref fa, .ref ka, .int 1, .int rn, .int lf, .int wt, .int nv, .int nl, .int nh, .int nc, .int cm, .ref da, .int dn, .int 0])), (fa, .inl (cA, 66, .inl fl)), (ka, .inl (cA, 66, .inl kp)), (da, .inl (cA, 24, .inl dr))] H := hP
        have hD : va_D A [(mo, .inr (6, [.ref fa, .ref ka, .int 1, .int rn, .int lf, .int wt, .int nv, .int nl, .int nh, .int nc, .int cm, .ref da, .int dn, .int 0])), (fa, .inl (cA, 66, .inl fl)), (ka, .inl (cA, 66, .inl kp)), (da, .inl (cA, 24, .inl dr))] := hD
        refine lv_aload_n hx hb dX6_switchOn_86 rfl (lv_at hl 3 rfl) ?_
        refine lv_iload_n hx hb dX6_switchOn_87 rfl (lv_at hl 0 rfl) ?_
        refine lv_if_ne (tgt := 95) hx hb dX6_switchOn_88 (by decide) (fun c_12 => ?_) (fun c_12 => ?_)
        · skip
          refine lv_iload_n hx hb dX6_switchOn_95 rfl (lv_at hl 1 rfl) ?_
          refine lv_if_eq (tgt := 105) hx hb dX6_switchOn_96 (by decide) (fun c_13 => ?_) (fun c_13 => ?_)
          · skip
            refine lv_iload_n hx hb dX6_switchOn_105 rfl (lv_at hl 2 rfl) ?_
            refine va_put (D := D) (ci := 6) (v := .int (F_X6_confirmedSlot fl)) (ty := .int) (C := RX6) (T := TX6) (N := 14) hx hb hts hi6 tyX6 tyX6_ok nmX6 hown hK hP hD hS 0 rfl rfl 3 (by decide) (hts (.fieldLink RX6 16 "BootstayModel" "running" "I") (by decide +kernel)) (fun _ h9 => h9) rfl (by decide +kernel) rfl rfl (Nat.le_of_ble_eq_true rfl) dX6_switchOn_106 (fun H locs hP hD hS => ?_)
            have hP : va_P D vwCl [(mo, .inr (6, [.ref fa, .ref ka, .int 1, .int (F_X6_confirmedSlot fl), .int lf, .int wt, .int nv, .int nl, .int nh, .int nc, .int cm, .ref da, .int dn, .int 0])), (fa, .inl (cA, 66, .inl fl)), (ka, .inl (cA, 66, .inl kp)), (da, .inl (cA, 24, .inl dr))] H := hP
            have hD : va_D A [(mo, .inr (6, [.ref fa, .ref ka, .int 1, .int (F_X6_confirmedSlot fl), .int lf, .int wt, .int nv, .int nl, .int nh, .int nc, .int cm, .ref da, .int dn, .int 0])), (fa, .inl (cA, 66, .inl fl)), (ka, .inl (cA, 66, .inl kp)), (da, .inl (cA, 24, .inl dr))] := hD
            refine lv_aload_n hx hb dX6_switchOn_109 rfl (lv_at hl 3 rfl) ?_
            refine va_get (D := D) (ci := 6) (v := .int (F_X6_confirmedSlot fl)) (C := RX6) (T := TX6) (N := 14) hx hb hts hi6 hown hK hP 0 rfl rfl 3 (by decide) (hts (.fieldLink RX6 16 "BootstayModel" "running" "I") (by decide +kernel)) (fun _ h9 => h9) rfl dX6_switchOn_110 ?_
            exact W.iret (v := (F_X6_confirmedSlot fl)) hx hb hr (fun t ht hW => ⟨⟨(F_X6_confirmedSlot fl), (fl, 1, (F_X6_confirmedSlot fl), lf, wt, cm, 0), rfl, (by simp only [F_X6_switchOn, if_pos c_1, if_pos c_2, if_pos c_11, if_neg c_12, if_pos c_13]), ⟨by rw [ht]; exact hP, hD⟩⟩, hS.F ht⟩) hS.2.2 dX6_switchOn_113
          · skip
            refine lv_iconst (v := 1) hx hb dX6_switchOn_99 (by decide) ?_
            refine lv_iload_n hx hb dX6_switchOn_100 rfl (lv_at hl 2 rfl) ?_
            refine lv_isub hx hb dX6_switchOn_101 ?_
            refine lv_goto (tgt := 106) hx hb dX6_switchOn_102 (by decide) ?_
            refine va_put (D := D) (ci := 6) (v := .int (1 - (F_X6_confirmedSlot fl))) (ty := .int) (C := RX6) (T := TX6) (N := 14) hx hb hts hi6 tyX6 tyX6_ok nmX6 hown hK hP hD hS 0 rfl rfl 3 (by decide) (hts (.fieldLink RX6 16 "BootstayModel" "running" "I") (by decide +kernel)) (fun _ h9 => h9) rfl (by decide +kernel) rfl rfl (Nat.le_of_ble_eq_true rfl) dX6_switchOn_106 (fun H locs hP hD hS => ?_)
            have hP : va_P D vwCl [(mo, .inr (6, [.ref fa, .ref ka, .int 1, .int (1 - (F_X6_confirmedSlot fl)), .int lf, .int wt, .int nv, .int nl, .int nh, .int nc, .int cm, .ref da, .int dn, .int 0])), (fa, .inl (cA, 66, .inl fl)), (ka, .inl (cA, 66, .inl kp)), (da, .inl (cA, 24, .inl dr))] H := hP
            have hD : va_D A [(mo, .inr (6, [.ref fa, .ref ka, .int 1, .int (1 - (F_X6_confirmedSlot fl)), .int lf, .int wt, .int nv, .int nl, .int nh, .int nc, .int cm, .ref da, .int dn, .int 0])), (fa, .inl (cA, 66, .inl fl)), (ka, .inl (cA, 66, .inl kp)), (da, .inl (cA, 24, .inl dr))] := hD
            refine lv_aload_n hx hb dX6_switchOn_109 rfl (lv_at hl 3 rfl) ?_
            refine va_get (D := D) (ci := 6) (v := .int (1 - (F_X6_confirmedSlot fl))) (C := RX6) (T := TX6) (N := 14) hx hb hts hi6 hown hK hP 0 rfl rfl 3 (by decide) (hts (.fieldLink RX6 16 "BootstayModel" "running" "I") (by decide +kernel)) (fun _ h9 => h9) rfl dX6_switchOn_110 ?_
            exact W.iret (v := (1 - (F_X6_confirmedSlot fl))) hx hb hr (fun t ht hW => ⟨⟨(1 - (F_X6_confirmedSlot fl)), (fl, 1, (1 - (F_X6_confirmedSlot fl)), lf, wt, cm, 0), rfl, (by simp only [F_X6_switchOn, if_pos c_1, if_pos c_2, if_pos c_11, if_neg c_12, if_neg c_13]), ⟨by rw [ht]; exact hP, hD⟩⟩, hS.F ht⟩) hS.2.2 dX6_switchOn_113
        · skip
          exact absurd c_12 (by decide)
      · skip
        refine lv_aload_n hx hb dX6_switchOn_43 rfl (lv_at hl 2 rfl) ?_
        refine lv_iload_n hx hb dX6_switchOn_44 rfl (lv_at hl 0 rfl) ?_
        refine lv_if_eq (tgt := 63) hx hb dX6_switchOn_45 (by decide) (fun c_14 => ?_) (fun c_14 => ?_)
        · skip
          refine lv_iload_n hx hb dX6_switchOn_63 rfl (lv_at hl 1 rfl) ?_
          refine lv_aload_n hx hb dX6_switchOn_64 rfl (lv_at hl 2 rfl) ?_
          refine lv_iconst (v := 3) hx hb dX6_switchOn_65 (by decide) ?_
          refine bx_ri (va_runV (As := [.int 3]) (rest := [.int (F_X6_confirmedSlot fl), .ref mo]) ⟨hx, hb, hml, hown, hts⟩ (c_X6_inForce l D cA mo fa ka da fl kp on rn lf wt nv nl nh nc cm dr dn 0 3 (by decide)) (cwV 1 hts gX6_switchOn_X6_inForce rfl rfl rfl (by decide +kernel) ⟨Nat.le_of_ble_eq_true rfl, Nat.le_of_ble_eq_true rfl⟩) (bx_pvr (ci := 6) (q0 := 0) hK hG (hP.sub (ws' := [(mo, .inr (6, [.ref fa, .ref ka, .int on, .int rn, .int lf, .int wt, .int nv, .int nl, .int nh, .int nc, .int cm, .ref da, .int dn, .int 0])), (fa, .inl (cA, 66, .inl fl)), (ka, .inl (cA, 66, .inl kp)), (da, .inl (cA, 24, .inl dr))]) [0, 1, 2, 3] rfl) rfl rfl) rfl rfl hl.1 rfl (lv_room (Nat.le_of_ble_eq_true rfl)) dX6_switchOn_66 ⟨Nat.zero_le _, Nat.zero_le _⟩) (fun r_15 h_16 => ?_)
          have h_16 := h_16.symm
          subst h_16
          refine bx_wi (wc := [(mo, .inr (6, [.ref fa, .ref ka, .int on, .int rn, .int lf, .int wt, .int nv, .int nl, .int nh, .int nc, .int cm, .ref da, .int dn, .int 0])), (fa, .inl (cA, 66, .inl fl)), (ka, .inl (cA, 66, .inl kp)), (da, .inl (cA, 24, .inl dr))]) (wr := []) (wf := fun (u : (Nat → Int32) × (Int32) × (Int32) × (Int32) × (Int32) × (Int32)) => [(mo, .inr (6, [.ref fa, .ref ka, .int u.2.1, .int u.2.2.1, .int u.2.2.2.1, .int u.2.2.2.2.1, .int nv, .int nl, .int nh, .int nc, .int u.2.2.2.2.2, .ref da, .int dn, .int 0])), (fa, .inl (cA, 66, .inl u.1)), (ka, .inl (cA, 66, .inl kp)), (da, .inl (cA, 24, .inl dr))]) (wn := fun (u : (Nat → Int32) × (Int32) × (Int32) × (Int32) × (Int32) × (Int32)) => [(mo, .inr (6, [.ref fa, .ref ka, .int u.2.1, .int u.2.2.1, .int u.2.2.2.1, .int u.2.2.2.2.1, .int nv, .int nl, .int nh, .int nc, .int u.2.2.2.2.2, .ref da, .int dn, .int 0])), (fa, .inl (cA, 66, .inl u.1)), (ka, .inl (cA, 66, .inl kp)), (da, .inl (cA, 24, .inl dr))]) hP hD hS hA [0, 1, 2, 3] [] [0, 1, 2, 3] rfl rfl (by decide) (by decide) (fun u => rfl) (by decide) (va_runV (As := [.int (F_X6_confirmedSlot fl), .int (F_X6_inForce fl 3)]) (rest := []) ⟨hx, hb, hml, hown, hts⟩ (c_X6_records l D cA mo fa ka da H.size fl kp on rn lf wt nv nl nh nc cm dr dn 0 (F_X6_confirmedSlot fl) (F_X6_inForce fl 3)) (cwV 2 hts gX6_switchOn_X6_records rfl rfl rfl (by decide +kernel) ⟨Nat.le_of_ble_eq_true rfl, Nat.le_of_ble_eq_true rfl⟩) (bx_pv (ci := 6) (q0 := 0) hK hG (hP.sub (ws' := [(mo, .inr (6, [.ref fa, .ref ka, .int on, .int rn, .int lf, .int wt, .int nv, .int nl, .int nh, .int nc, .int cm, .ref da, .int dn, .int 0])), (fa, .inl (cA, 66, .inl fl)), (ka, .inl (cA, 66, .inl kp)), (da, .inl (cA, 24, .inl dr))]) [0, 1, 2, 3] rfl) (hD.sub (ws' := [(mo, .inr (6, [.ref fa, .ref ka, .int on, .int rn, .int lf, .int wt, .int nv, .int nl, .int nh, .int nc, .int cm, .ref da, .int dn, .int 0])), (fa, .inl (cA, 66, .inl fl)), (ka, .inl (cA, 66, .inl kp)), (da, .inl (cA, 24, .inl dr))]) [0, 1, 2, 3] (by decide) rfl) rfl rfl) rfl rfl hl.1 rfl (lv_room (Nat.le_of_ble_eq_true rfl)) dX6_switchOn_69 ⟨Nat.zero_le _, Nat.zero_le _⟩) (fun r_19 u_18 H locs h_17 hP hD hS => ?_)
          obtain ⟨fl20, on21, rn22, lf23, wt24, cm25⟩ := u_18
          obtain ⟨h_17, b_26⟩ := h_17
          have hP : va_P D vwCl [(mo, .inr (6, [.ref fa, .ref ka, .int on21, .int rn22, .int lf23, .int wt24, .int nv, .int nl, .int nh, .int nc, .int cm25, .ref da, .int dn, .int 0])), (fa, .inl (cA, 66, .inl fl20)), (ka, .inl (cA, 66, .inl kp)), (da, .inl (cA, 24, .inl dr))] H := hP
          have hD : va_D A [(mo, .inr (6, [.ref fa, .ref ka, .int on21, .int rn22, .int lf23, .int wt24, .int nv, .int nl, .int nh, .int nc, .int cm25, .ref da, .int dn, .int 0])), (fa, .inl (cA, 66, .inl fl20)), (ka, .inl (cA, 66, .inl kp)), (da, .inl (cA, 24, .inl dr))] := hD
          refine lv_if_eq (tgt := 79) hx hb dX6_switchOn_72 (by decide) (fun c_27 => ?_) (fun c_27 => ?_)
          · skip
            refine lv_iconst (v := 0) hx hb dX6_switchOn_79 (by decide) ?_
            refine lv_istore_n (lv' := [(3, .int 0), (2, .int (F_X6_willTry fl (F_X6_confirmedSlot fl))), (1, .int (F_X6_confirmedSlot fl)), (0, .ref mo)]) hx hb dX6_switchOn_80 rfl hl (by decide) rfl (fun ls hl => ?_)
            refine lv_aload_n hx hb dX6_switchOn_81 rfl (lv_at hl 3 rfl) ?_
            refine lv_iload_n hx hb dX6_switchOn_82 rfl (lv_at hl 0 rfl) ?_
            refine va_put (D := D) (ci := 6) (v := .int 0) (ty := .boolean) (C := RX6) (T := TX6) (N := 14) hx hb hts hi6 tyX6 tyX6_ok nmX6 hown hK hP hD hS 0 rfl rfl 2 (by decide) (hts (.fieldLink RX6 63 "BootstayModel" "on" "Z") (by decide +kernel)) (fun _ h9 => h9) rfl (by decide +kernel) rfl rfl (Nat.le_of_ble_eq_true rfl) dX6_switchOn_83 (fun H locs hP hD hS => ?_)
            have hP : va_P D vwCl [(mo, .inr (6, [.ref fa, .ref ka, .int 0, .int rn22, .int lf23, .int wt24, .int nv, .int nl, .int nh, .int nc, .int cm25, .ref da, .int dn, .int 0])), (fa, .inl (cA, 66, .inl fl20)), (ka, .inl (cA, 66, .inl kp)), (da, .inl (cA, 24, .inl dr))] H := hP
            have hD : va_D A [(mo, .inr (6, [.ref fa, .ref ka, .int 0, .int rn22, .int lf23, .int wt24, .int nv, .int nl, .int nh, .int nc, .int cm25, .ref da, .int dn, .int 0])), (fa, .inl (cA, 66, .inl fl20)), (ka, .inl (cA, 66, .inl kp)), (da, .inl (cA, 24, .inl dr))] := hD
            refine lv_aload_n hx hb dX6_switchOn_86 rfl (lv_at hl 3 rfl) ?_
            refine lv_iload_n hx hb dX6_switchOn_87 rfl (lv_at hl 0 rfl) ?_
            refine lv_if_ne (tgt := 95) hx hb dX6_switchOn_88 (by decide) (fun c_28 => ?_) (fun c_28 => ?_)
            · skip
              exact absurd (by decide) c_28
            · skip
              refine lv_iconst (v := (-1)) hx hb dX6_switchOn_91 (by decide) ?_
              refine lv_goto (tgt := 106) hx hb dX6_switchOn_92 (by decide) ?_
              refine va_put (D := D) (ci := 6) (v := .int (-1)) (ty := .int) (C := RX6) (T := TX6) (N := 14) hx hb hts hi6 tyX6 tyX6_ok nmX6 hown hK hP hD hS 0 rfl rfl 3 (by decide) (hts (.fieldLink RX6 16 "BootstayModel" "running" "I") (by decide +kernel)) (fun _ h9 => h9) rfl (by decide +kernel) rfl rfl (Nat.le_of_ble_eq_true rfl) dX6_switchOn_106 (fun H locs hP hD hS => ?_)
              have hP : va_P D vwCl [(mo, .inr (6, [.ref fa, .ref ka, .int 0, .int (-1), .int lf23, .int wt24, .int nv, .int nl, .int nh, .int nc, .int cm25, .ref da, .int dn, .int 0])), (fa, .inl (cA, 66, .inl fl20)), (ka, .inl (cA, 66, .inl kp)), (da, .inl (cA, 24, .inl dr))] H := hP
              have hD : va_D A [(mo, .inr (6, [.ref fa, .ref ka, .int 0, .int (-1), .int lf23, .int wt24, .int nv, .int nl, .int nh, .int nc, .int cm25, .ref da, .int dn, .int 0])), (fa, .inl (cA, 66, .inl fl20)), (ka, .inl (cA, 66, .inl kp)), (da, .inl (cA, 24, .inl dr))] := hD
              refine lv_aload_n hx hb dX6_switchOn_109 rfl (lv_at hl 3 rfl) ?_
              refine va_get (D := D) (ci := 6) (v := .int (-1)) (C := RX6) (T := TX6) (N := 14) hx hb hts hi6 hown hK hP 0 rfl rfl 3 (by decide) (hts (.fieldLink RX6 16 "BootstayModel" "running" "I") (by decide +kernel)) (fun _ h9 => h9) rfl dX6_switchOn_110 ?_
              exact W.iret (v := (-1)) hx hb hr (fun t ht hW => ⟨⟨(-1), (fl20, 0, (-1), lf23, wt24, cm25, 0), rfl, (by simp only [F_X6_switchOn, if_pos c_1, if_pos c_2, if_neg c_11, if_pos c_14, if_pos c_27, if_pos c_28, ← h_17]), ⟨by rw [ht]; exact hP, hD⟩⟩, hS.F ht⟩) hS.2.2 dX6_switchOn_113
          · skip
            refine lv_iconst (v := 1) hx hb dX6_switchOn_75 (by decide) ?_
            refine lv_goto (tgt := 80) hx hb dX6_switchOn_76 (by decide) ?_
            refine lv_istore_n (lv' := [(3, .int 1), (2, .int (F_X6_willTry fl (F_X6_confirmedSlot fl))), (1, .int (F_X6_confirmedSlot fl)), (0, .ref mo)]) hx hb dX6_switchOn_80 rfl hl (by decide) rfl (fun ls hl => ?_)
            refine lv_aload_n hx hb dX6_switchOn_81 rfl (lv_at hl 3 rfl) ?_
            refine lv_iload_n hx hb dX6_switchOn_82 rfl (lv_at hl 0 rfl) ?_
            refine va_put (D := D) (ci := 6) (v := .int 1) (ty := .boolean) (C := RX6) (T := TX6) (N := 14) hx hb hts hi6 tyX6 tyX6_ok nmX6 hown hK hP hD hS 0 rfl rfl 2 (by decide) (hts (.fieldLink RX6 63 "BootstayModel" "on" "Z") (by decide +kernel)) (fun _ h9 => h9) rfl (by decide +kernel) rfl rfl (Nat.le_of_ble_eq_true rfl) dX6_switchOn_83 (fun H locs hP hD hS => ?_)
            have hP : va_P D vwCl [(mo, .inr (6, [.ref fa, .ref ka, .int 1, .int rn22, .int lf23, .int wt24, .int nv, .int nl, .int nh, .int nc, .int cm25, .ref da, .int dn, .int 0])), (fa, .inl (cA, 66, .inl fl20)), (ka, .inl (cA, 66, .inl kp)), (da, .inl (cA, 24, .inl dr))] H := hP
            have hD : va_D A [(mo, .inr (6, [.ref fa, .ref ka, .int 1, .int rn22, .int lf23, .int wt24, .int nv, .int nl, .int nh, .int nc, .int cm25, .ref da, .int dn, .int 0])), (fa, .inl (cA, 66, .inl fl20)), (ka, .inl (cA, 66, .inl kp)), (da, .inl (cA, 24, .inl dr))] := hD
            refine lv_aload_n hx hb dX6_switchOn_86 rfl (lv_at hl 3 rfl) ?_
            refine lv_iload_n hx hb dX6_switchOn_87 rfl (lv_at hl 0 rfl) ?_
            refine lv_if_ne (tgt := 95) hx hb dX6_switchOn_88 (by decide) (fun c_29 => ?_) (fun c_29 => ?_)
            · skip
              refine lv_iload_n hx hb dX6_switchOn_95 rfl (lv_at hl 1 rfl) ?_
              refine lv_if_eq (tgt := 105) hx hb dX6_switchOn_96 (by decide) (fun c_30 => ?_) (fun c_30 => ?_)
              · skip
                refine lv_iload_n hx hb dX6_switchOn_105 rfl (lv_at hl 2 rfl) ?_
                refine va_put (D := D) (ci := 6) (v := .int (F_X6_confirmedSlot fl)) (ty := .int) (C := RX6) (T := TX6) (N := 14) hx hb hts hi6 tyX6 tyX6_ok nmX6 hown hK hP hD hS 0 rfl rfl 3 (by decide) (hts (.fieldLink RX6 16 "BootstayModel" "running" "I") (by decide +kernel)) (fun _ h9 => h9) rfl (by decide +kernel) rfl rfl (Nat.le_of_ble_eq_true rfl) dX6_switchOn_106 (fun H locs hP hD hS => ?_)
                have hP : va_P D vwCl [(mo, .inr (6, [.ref fa, .ref ka, .int 1, .int (F_X6_confirmedSlot fl), .int lf23, .int wt24, .int nv, .int nl, .int nh, .int nc, .int cm25, .ref da, .int dn, .int 0])), (fa, .inl (cA, 66, .inl fl20)), (ka, .inl (cA, 66, .inl kp)), (da, .inl (cA, 24, .inl dr))] H := hP
                have hD : va_D A [(mo, .inr (6, [.ref fa, .ref ka, .int 1, .int (F_X6_confirmedSlot fl), .int lf23, .int wt24, .int nv, .int nl, .int nh, .int nc, .int cm25, .ref da, .int dn, .int 0])), (fa, .inl (cA, 66, .inl fl20)), (ka, .inl (cA, 66, .inl kp)), (da, .inl (cA, 24, .inl dr))] := hD
                refine lv_aload_n hx hb dX6_switchOn_109 rfl (lv_at hl 3 rfl) ?_
                refine va_get (D := D) (ci := 6) (v := .int (F_X6_confirmedSlot fl)) (C := RX6) (T := TX6) (N := 14) hx hb hts hi6 hown hK hP 0 rfl rfl 3 (by decide) (hts (.fieldLink RX6 16 "BootstayModel" "running" "I") (by decide +kernel)) (fun _ h9 => h9) rfl dX6_switchOn_110 ?_
                exact W.iret (v := (F_X6_confirmedSlot fl)) hx hb hr (fun t ht hW => ⟨⟨(F_X6_confirmedSlot fl), (fl20, 1, (F_X6_confirmedSlot fl), lf23, wt24, cm25, 0), rfl, (by simp only [F_X6_switchOn, if_pos c_1, if_pos c_2, if_neg c_11, if_pos c_14, if_neg c_27, if_neg c_29, if_pos c_30, ← h_17]), ⟨by rw [ht]; exact hP, hD⟩⟩, hS.F ht⟩) hS.2.2 dX6_switchOn_113
              · skip
                exact absurd c_14 c_30
            · skip
              exact absurd c_29 (by decide)
        · skip
          refine lv_iload_n hx hb dX6_switchOn_48 rfl (lv_at hl 1 rfl) ?_
          refine lv_iconst (v := 2) hx hb dX6_switchOn_49 (by decide) ?_
          refine lv_iadd hx hb dX6_switchOn_50 ?_
          refine lv_iconst (v := 4) hx hb dX6_switchOn_51 (by decide) ?_
          refine lv_aload_n hx hb dX6_switchOn_52 rfl (lv_at hl 2 rfl) ?_
          refine bx_ri (va_runV (As := []) (rest := [.int 4, .int ((F_X6_confirmedSlot fl) + 2), .ref mo]) ⟨hx, hb, hml, hown, hts⟩ (c_X6_triesLeft l D cA mo fa ka da fl kp on rn lf wt nv nl nh nc cm dr dn 0) (cwV 0 hts gX6_switchOn_X6_triesLeft rfl rfl rfl (by decide +kernel) ⟨Nat.le_of_ble_eq_true rfl, Nat.le_of_ble_eq_true rfl⟩) (bx_pvr (ci := 6) (q0 := 0) hK hG (hP.sub (ws' := [(mo, .inr (6, [.ref fa, .ref ka, .int on, .int rn, .int lf, .int wt, .int nv, .int nl, .int nh, .int nc, .int cm, .ref da, .int dn, .int 0])), (fa, .inl (cA, 66, .inl fl)), (ka, .inl (cA, 66, .inl kp)), (da, .inl (cA, 24, .inl dr))]) [0, 1, 2, 3] rfl) rfl rfl) rfl rfl hl.1 rfl (lv_room (Nat.le_of_ble_eq_true rfl)) dX6_switchOn_53 ⟨Nat.zero_le _, Nat.zero_le _⟩) (fun r_31 h_32 => ?_)
          have h_32 := h_32.symm
          subst h_32
          refine lv_iconst (v := 1) hx hb dX6_switchOn_56 (by decide) ?_
          refine lv_isub hx hb dX6_switchOn_57 ?_
          refine lv_imul hx hb dX6_switchOn_58 ?_
          refine lv_iadd hx hb dX6_switchOn_59 ?_
          refine lv_goto (tgt := 64) hx hb dX6_switchOn_60 (by decide) ?_
          refine lv_aload_n hx hb dX6_switchOn_64 rfl (lv_at hl 2 rfl) ?_
          refine lv_iconst (v := 3) hx hb dX6_switchOn_65 (by decide) ?_
          refine bx_ri (va_runV (As := [.int 3]) (rest := [.int (((F_X6_confirmedSlot fl) + 2) + (4 * ((F_X6_triesLeft fl) - 1))), .ref mo]) ⟨hx, hb, hml, hown, hts⟩ (c_X6_inForce l D cA mo fa ka da fl kp on rn lf wt nv nl nh nc cm dr dn 0 3 (by decide)) (cwV 1 hts gX6_switchOn_X6_inForce rfl rfl rfl (by decide +kernel) ⟨Nat.le_of_ble_eq_true rfl, Nat.le_of_ble_eq_true rfl⟩) (bx_pvr (ci := 6) (q0 := 0) hK hG (hP.sub (ws' := [(mo, .inr (6, [.ref fa, .ref ka, .int on, .int rn, .int lf, .int wt, .int nv, .int nl, .int nh, .int nc, .int cm, .ref da, .int dn, .int 0])), (fa, .inl (cA, 66, .inl fl)), (ka, .inl (cA, 66, .inl kp)), (da, .inl (cA, 24, .inl dr))]) [0, 1, 2, 3] rfl) rfl rfl) rfl rfl hl.1 rfl (lv_room (Nat.le_of_ble_eq_true rfl)) dX6_switchOn_66 ⟨Nat.zero_le _, Nat.zero_le _⟩) (fun r_33 h_34 => ?_)
          have h_34 := h_34.symm
          subst h_34
          refine bx_wi (wc := [(mo, .inr (6, [.ref fa, .ref ka, .int on, .int rn, .int lf, .int wt, .int nv, .int nl, .int nh, .int nc, .int cm, .ref da, .int dn, .int 0])), (fa, .inl (cA, 66, .inl fl)), (ka, .inl (cA, 66, .inl kp)), (da, .inl (cA, 24, .inl dr))]) (wr := []) (wf := fun (u : (Nat → Int32) × (Int32) × (Int32) × (Int32) × (Int32) × (Int32)) => [(mo, .inr (6, [.ref fa, .ref ka, .int u.2.1, .int u.2.2.1, .int u.2.2.2.1, .int u.2.2.2.2.1, .int nv, .int nl, .int nh, .int nc, .int u.2.2.2.2.2, .ref da, .int dn, .int 0])), (fa, .inl (cA, 66, .inl u.1)), (ka, .inl (cA, 66, .inl kp)), (da, .inl (cA, 24, .inl dr))]) (wn := fun (u : (Nat → Int32) × (Int32) × (Int32) × (Int32) × (Int32) × (Int32)) => [(mo, .inr (6, [.ref fa, .ref ka, .int u.2.1, .int u.2.2.1, .int u.2.2.2.1, .int u.2.2.2.2.1, .int nv, .int nl, .int nh, .int nc, .int u.2.2.2.2.2, .ref da, .int dn, .int 0])), (fa, .inl (cA, 66, .inl u.1)), (ka, .inl (cA, 66, .inl kp)), (da, .inl (cA, 24, .inl dr))]) hP hD hS hA [0, 1, 2, 3] [] [0, 1, 2, 3] rfl rfl (by decide) (by decide) (fun u => rfl) (by decide) (va_runV (As := [.int (((F_X6_confirmedSlot fl) + 2) + (4 * ((F_X6_triesLeft fl) - 1))), .int (F_X6_inForce fl 3)]) (rest := []) ⟨hx, hb, hml, hown, hts⟩ (c_X6_records l D cA mo fa ka da H.size fl kp on rn lf wt nv nl nh nc cm dr dn 0 (((F_X6_confirmedSlot fl) + 2) + (4 * ((F_X6_triesLeft fl) - 1))) (F_X6_inForce fl 3)) (cwV 2 hts gX6_switchOn_X6_records rfl rfl rfl (by decide +kernel) ⟨Nat.le_of_ble_eq_true rfl, Nat.le_of_ble_eq_true rfl⟩) (bx_pv (ci := 6) (q0 := 0) hK hG (hP.sub (ws' := [(mo, .inr (6, [.ref fa, .ref ka, .int on, .int rn, .int lf, .int wt, .int nv, .int nl, .int nh, .int nc, .int cm, .ref da, .int dn, .int 0])), (fa, .inl (cA, 66, .inl fl)), (ka, .inl (cA, 66, .inl kp)), (da, .inl (cA, 24, .inl dr))]) [0, 1, 2, 3] rfl) (hD.sub (ws' := [(mo, .inr (6, [.ref fa, .ref ka, .int on, .int rn, .int lf, .int wt, .int nv, .int nl, .int nh, .int nc, .int cm, .ref da, .int dn, .int 0])), (fa, .inl (cA, 66, .inl fl)), (ka, .inl (cA, 66, .inl kp)), (da, .inl (cA, 24, .inl dr))]) [0, 1, 2, 3] (by decide) rfl) rfl rfl) rfl rfl hl.1 rfl (lv_room (Nat.le_of_ble_eq_true rfl)) dX6_switchOn_69 ⟨Nat.zero_le _, Nat.zero_le _⟩) (fun r_37 u_36 H locs h_35 hP hD hS => ?_)
          obtain ⟨fl38, on39, rn40, lf41, wt42, cm43⟩ := u_36
          obtain ⟨h_35, b_44⟩ := h_35
          have hP : va_P D vwCl [(mo, .inr (6, [.ref fa, .ref ka, .int on39, .int rn40, .int lf41, .int wt42, .int nv, .int nl, .int nh, .int nc, .int cm43, .ref da, .int dn, .int 0])), (fa, .inl (cA, 66, .inl fl38)), (ka, .inl (cA, 66, .inl kp)), (da, .inl (cA, 24, .inl dr))] H := hP
          have hD : va_D A [(mo, .inr (6, [.ref fa, .ref ka, .int on39, .int rn40, .int lf41, .int wt42, .int nv, .int nl, .int nh, .int nc, .int cm43, .ref da, .int dn, .int 0])), (fa, .inl (cA, 66, .inl fl38)), (ka, .inl (cA, 66, .inl kp)), (da, .inl (cA, 24, .inl dr))] := hD
          refine lv_if_eq (tgt := 79) hx hb dX6_switchOn_72 (by decide) (fun c_45 => ?_) (fun c_45 => ?_)
          · skip
            refine lv_iconst (v := 0) hx hb dX6_switchOn_79 (by decide) ?_
            refine lv_istore_n (lv' := [(3, .int 0), (2, .int (F_X6_willTry fl (F_X6_confirmedSlot fl))), (1, .int (F_X6_confirmedSlot fl)), (0, .ref mo)]) hx hb dX6_switchOn_80 rfl hl (by decide) rfl (fun ls hl => ?_)
            refine lv_aload_n hx hb dX6_switchOn_81 rfl (lv_at hl 3 rfl) ?_
            refine lv_iload_n hx hb dX6_switchOn_82 rfl (lv_at hl 0 rfl) ?_
            refine va_put (D := D) (ci := 6) (v := .int 0) (ty := .boolean) (C := RX6) (T := TX6) (N := 14) hx hb hts hi6 tyX6 tyX6_ok nmX6 hown hK hP hD hS 0 rfl rfl 2 (by decide) (hts (.fieldLink RX6 63 "BootstayModel" "on" "Z") (by decide +kernel)) (fun _ h9 => h9) rfl (by decide +kernel) rfl rfl (Nat.le_of_ble_eq_true rfl) dX6_switchOn_83 (fun H locs hP hD hS => ?_)
            have hP : va_P D vwCl [(mo, .inr (6, [.ref fa, .ref ka, .int 0, .int rn40, .int lf41, .int wt42, .int nv, .int nl, .int nh, .int nc, .int cm43, .ref da, .int dn, .int 0])), (fa, .inl (cA, 66, .inl fl38)), (ka, .inl (cA, 66, .inl kp)), (da, .inl (cA, 24, .inl dr))] H := hP
            have hD : va_D A [(mo, .inr (6, [.ref fa, .ref ka, .int 0, .int rn40, .int lf41, .int wt42, .int nv, .int nl, .int nh, .int nc, .int cm43, .ref da, .int dn, .int 0])), (fa, .inl (cA, 66, .inl fl38)), (ka, .inl (cA, 66, .inl kp)), (da, .inl (cA, 24, .inl dr))] := hD
            refine lv_aload_n hx hb dX6_switchOn_86 rfl (lv_at hl 3 rfl) ?_
            refine lv_iload_n hx hb dX6_switchOn_87 rfl (lv_at hl 0 rfl) ?_
            refine lv_if_ne (tgt := 95) hx hb dX6_switchOn_88 (by decide) (fun c_46 => ?_) (fun c_46 => ?_)
            · skip
              exact absurd (by decide) c_46
            · skip
              refine lv_iconst (v := (-1)) hx hb dX6_switchOn_91 (by decide) ?_
              refine lv_goto (tgt := 106) hx hb dX6_switchOn_92 (by decide) ?_
              refine va_put (D := D) (ci := 6) (v := .int (-1)) (ty := .int) (C := RX6) (T := TX6) (N := 14) hx hb hts hi6 tyX6 tyX6_ok nmX6 hown hK hP hD hS 0 rfl rfl 3 (by decide) (hts (.fieldLink RX6 16 "BootstayModel" "running" "I") (by decide +kernel)) (fun _ h9 => h9) rfl (by decide +kernel) rfl rfl (Nat.le_of_ble_eq_true rfl) dX6_switchOn_106 (fun H locs hP hD hS => ?_)
              have hP : va_P D vwCl [(mo, .inr (6, [.ref fa, .ref ka, .int 0, .int (-1), .int lf41, .int wt42, .int nv, .int nl, .int nh, .int nc, .int cm43, .ref da, .int dn, .int 0])), (fa, .inl (cA, 66, .inl fl38)), (ka, .inl (cA, 66, .inl kp)), (da, .inl (cA, 24, .inl dr))] H := hP
              have hD : va_D A [(mo, .inr (6, [.ref fa, .ref ka, .int 0, .int (-1), .int lf41, .int wt42, .int nv, .int nl, .int nh, .int nc, .int cm43, .ref da, .int dn, .int 0])), (fa, .inl (cA, 66, .inl fl38)), (ka, .inl (cA, 66, .inl kp)), (da, .inl (cA, 24, .inl dr))] := hD
              refine lv_aload_n hx hb dX6_switchOn_109 rfl (lv_at hl 3 rfl) ?_
              refine va_get (D := D) (ci := 6) (v := .int (-1)) (C := RX6) (T := TX6) (N := 14) hx hb hts hi6 hown hK hP 0 rfl rfl 3 (by decide) (hts (.fieldLink RX6 16 "BootstayModel" "running" "I") (by decide +kernel)) (fun _ h9 => h9) rfl dX6_switchOn_110 ?_
              exact W.iret (v := (-1)) hx hb hr (fun t ht hW => ⟨⟨(-1), (fl38, 0, (-1), lf41, wt42, cm43, 0), rfl, (by simp only [F_X6_switchOn, if_pos c_1, if_pos c_2, if_neg c_11, if_neg c_14, if_pos c_45, if_pos c_46, ← h_35]), ⟨by rw [ht]; exact hP, hD⟩⟩, hS.F ht⟩) hS.2.2 dX6_switchOn_113
          · skip
            refine lv_iconst (v := 1) hx hb dX6_switchOn_75 (by decide) ?_
            refine lv_goto (tgt := 80) hx hb dX6_switchOn_76 (by decide) ?_
            refine lv_istore_n (lv' := [(3, .int 1), (2, .int (F_X6_willTry fl (F_X6_confirmedSlot fl))), (1, .int (F_X6_confirmedSlot fl)), (0, .ref mo)]) hx hb dX6_switchOn_80 rfl hl (by decide) rfl (fun ls hl => ?_)
            refine lv_aload_n hx hb dX6_switchOn_81 rfl (lv_at hl 3 rfl) ?_
            refine lv_iload_n hx hb dX6_switchOn_82 rfl (lv_at hl 0 rfl) ?_
            refine va_put (D := D) (ci := 6) (v := .int 1) (ty := .boolean) (C := RX6) (T := TX6) (N := 14) hx hb hts hi6 tyX6 tyX6_ok nmX6 hown hK hP hD hS 0 rfl rfl 2 (by decide) (hts (.fieldLink RX6 63 "BootstayModel" "on" "Z") (by decide +kernel)) (fun _ h9 => h9) rfl (by decide +kernel) rfl rfl (Nat.le_of_ble_eq_true rfl) dX6_switchOn_83 (fun H locs hP hD hS => ?_)
            have hP : va_P D vwCl [(mo, .inr (6, [.ref fa, .ref ka, .int 1, .int rn40, .int lf41, .int wt42, .int nv, .int nl, .int nh, .int nc, .int cm43, .ref da, .int dn, .int 0])), (fa, .inl (cA, 66, .inl fl38)), (ka, .inl (cA, 66, .inl kp)), (da, .inl (cA, 24, .inl dr))] H := hP
            have hD : va_D A [(mo, .inr (6, [.ref fa, .ref ka, .int 1, .int rn40, .int lf41, .int wt42, .int nv, .int nl, .int nh, .int nc, .int cm43, .ref da, .int dn, .int 0])), (fa, .inl (cA, 66, .inl fl38)), (ka, .inl (cA, 66, .inl kp)), (da, .inl (cA, 24, .inl dr))] := hD
            refine lv_aload_n hx hb dX6_switchOn_86 rfl (lv_at hl 3 rfl) ?_
            refine lv_iload_n hx hb dX6_switchOn_87 rfl (lv_at hl 0 rfl) ?_
            refine lv_if_ne (tgt := 95) hx hb dX6_switchOn_88 (by decide) (fun c_47 => ?_) (fun c_47 => ?_)
            · skip
              refine lv_iload_n hx hb dX6_switchOn_95 rfl (lv_at hl 1 rfl) ?_
              refine lv_if_eq (tgt := 105) hx hb dX6_switchOn_96 (by decide) (fun c_48 => ?_) (fun c_48 => ?_)
              · skip
                exact absurd c_48 c_14
              · skip
                refine lv_iconst (v := 1) hx hb dX6_switchOn_99 (by decide) ?_
                refine lv_iload_n hx hb dX6_switchOn_100 rfl (lv_at hl 2 rfl) ?_
                refine lv_isub hx hb dX6_switchOn_101 ?_
                refine lv_goto (tgt := 106) hx hb dX6_switchOn_102 (by decide) ?_
                refine va_put (D := D) (ci := 6) (v := .int (1 - (F_X6_confirmedSlot fl))) (ty := .int) (C := RX6) (T := TX6) (N := 14) hx hb hts hi6 tyX6 tyX6_ok nmX6 hown hK hP hD hS 0 rfl rfl 3 (by decide) (hts (.fieldLink RX6 16 "BootstayModel" "running" "I") (by decide +kernel)) (fun _ h9 => h9) rfl (by decide +kernel) rfl rfl (Nat.le_of_ble_eq_true rfl) dX6_switchOn_106 (fun H locs hP hD hS => ?_)
                have hP : va_P D vwCl [(mo, .inr (6, [.ref fa, .ref ka, .int 1, .int (1 - (F_X6_confirmedSlot fl)), .int lf41, .int wt42, .int nv, .int nl, .int nh, .int nc, .int cm43, .ref da, .int dn, .int 0])), (fa, .inl (cA, 66, .inl fl38)), (ka, .inl (cA, 66, .inl kp)), (da, .inl (cA, 24, .inl dr))] H := hP
                have hD : va_D A [(mo, .inr (6, [.ref fa, .ref ka, .int 1, .int (1 - (F_X6_confirmedSlot fl)), .int lf41, .int wt42, .int nv, .int nl, .int nh, .int nc, .int cm43, .ref da, .int dn, .int 0])), (fa, .inl (cA, 66, .inl fl38)), (ka, .inl (cA, 66, .inl kp)), (da, .inl (cA, 24, .inl dr))] := hD
                refine lv_aload_n hx hb dX6_switchOn_109 rfl (lv_at hl 3 rfl) ?_
                refine va_get (D := D) (ci := 6) (v := .int (1 - (F_X6_confirmedSlot fl))) (C := RX6) (T := TX6) (N := 14) hx hb hts hi6 hown hK hP 0 rfl rfl 3 (by decide) (hts (.fieldLink RX6 16 "BootstayModel" "running" "I") (by decide +kernel)) (fun _ h9 => h9) rfl dX6_switchOn_110 ?_
                exact W.iret (v := (1 - (F_X6_confirmedSlot fl))) hx hb hr (fun t ht hW => ⟨⟨(1 - (F_X6_confirmedSlot fl)), (fl38, 1, (1 - (F_X6_confirmedSlot fl)), lf41, wt42, cm43, 0), rfl, (by simp only [F_X6_switchOn, if_pos c_1, if_pos c_2, if_neg c_11, if_neg c_14, if_neg c_45, if_neg c_47, if_neg c_48, ← h_35]), ⟨by rw [ht]; exact hP, hD⟩⟩, hS.F ht⟩) hS.2.2 dX6_switchOn_113
            · skip
              exact absurd c_47 (by decide)
    · skip
      exact absurd (by decide) c_2
  · skip
    refine lv_iconst (v := 1) hx hb dX6_switchOn_8 (by decide) ?_
    refine lv_goto (tgt := 13) hx hb dX6_switchOn_9 (by decide) ?_
    refine va_put (D := D) (ci := 6) (v := .int 1) (ty := .int) (C := RX6) (T := TX6) (N := 14) hx hb hts hi6 tyX6 tyX6_ok nmX6 hown hK hP hD hS 0 rfl rfl 13 (by decide) (hts (.fieldLink RX6 37 "BootstayModel" "last" "I") (by decide +kernel)) (fun _ h9 => h9) rfl (by decide +kernel) rfl rfl (Nat.le_of_ble_eq_true rfl) dX6_switchOn_13 (fun H locs hP hD hS => ?_)
    have hP : va_P D vwCl [(mo, .inr (6, [.ref fa, .ref ka, .int on, .int rn, .int lf, .int wt, .int nv, .int nl, .int nh, .int nc, .int cm, .ref da, .int dn, .int 1])), (fa, .inl (cA, 66, .inl fl)), (ka, .inl (cA, 66, .inl kp)), (da, .inl (cA, 24, .inl dr))] H := hP
    have hD : va_D A [(mo, .inr (6, [.ref fa, .ref ka, .int on, .int rn, .int lf, .int wt, .int nv, .int nl, .int nh, .int nc, .int cm, .ref da, .int dn, .int 1])), (fa, .inl (cA, 66, .inl fl)), (ka, .inl (cA, 66, .inl kp)), (da, .inl (cA, 24, .inl dr))] := hD
    refine lv_aload_n hx hb dX6_switchOn_16 rfl (lv_at hl 0 rfl) ?_
    refine va_get (D := D) (ci := 6) (v := .int 1) (C := RX6) (T := TX6) (N := 14) hx hb hts hi6 hown hK hP 0 rfl rfl 13 (by decide) (hts (.fieldLink RX6 37 "BootstayModel" "last" "I") (by decide +kernel)) (fun _ h9 => h9) rfl dX6_switchOn_17 ?_
    refine lv_if_le (tgt := 25) hx hb dX6_switchOn_20 (by decide) (fun c_49 => ?_) (fun c_49 => ?_)
    · skip
      exact absurd c_49 (by decide)
    · skip
      refine lv_iconst (v := 0) hx hb dX6_switchOn_23 (by decide) ?_
      exact W.iret (v := 0) hx hb hr (fun t ht hW => ⟨⟨0, (fl, on, rn, lf, wt, cm, 1), rfl, (by simp only [F_X6_switchOn, if_neg c_1, if_neg c_49]), ⟨by rw [ht]; exact hP, hD⟩⟩, hS.F ht⟩) hS.2.2 dX6_switchOn_24
def F_X6_switchOff (on : Int32) (rn : Int32) (cm : Int32) : Int32 × (Int32) × (Int32) × (Int32) × (Int32) := (if on = 0 then (0, on, rn, cm, 1) else (match F_X6_goesOff with | (on6, rn7, cm8) => (rn, on6, rn7, cm8, 0)))
set_option maxHeartbeats 4000000 in
set_option maxRecDepth 100000 in
theorem c_X6_switchOff (l : Launch) (D : va_G) (cA : ClassId) (mo fa ka da : Nat) (sz : Nat) (fl : Nat → Int32) (kp : Nat → Int32) (on : Int32) (rn : Int32) (lf : Int32) (wt : Int32) (nv : Int32) (nl : Int32) (nh : Int32) (nc : Int32) (cm : Int32) (dr : Nat → Int32) (dn : Int32) (la : Int32) : Met l yX6_switchOff wsX6_switchOff ({ frames := 1, cells := 0, slots := 0, locals := 20 }) (va_Pc [.ref mo] (bx_pre D [(cA, .int)] (wMo cA mo fa ka da fl kp on rn lf wt nv nl nh nc cm dr dn la) sz)) (va_Qi (fun r u => (r, u) = F_X6_switchOff on rn cm) (fun u t => bx_at D (wMo cA mo fa ka da fl kp u.1 u.2.1 lf wt nv nl nh nc u.2.2.1 dr dn u.2.2.2) (va_A (wMo cA mo fa ka da fl kp on rn lf wt nv nl nh nc cm dr dn la) sz) t) (va_A (wMo cA mo fa ka da fl kp on rn lf wt nv nl nh nc cm dr dn la) sz)) 0 0 (va_A (wMo cA mo fa ka da fl kp on rn lf wt nv nl nh nc cm dr dn la) sz) := by
  refine Met.ofW (cc := cX6_switchOff) (maxL := 2) (ret := (some .int)) (by decide) rfl ?_
  intro p e s m args below meth c s₁ B hml hv
  obtain ⟨rfl, hsz, hP, hK, hD0, hG⟩ := hv
  have hx := B.exec
  have hb := B.bytes
  have hr := B.returns
  have hts := atoms_spec (ws := wsX6_switchOff) B.pre
  have hown : s.vm.findClass RX6 = some m.cls := findClass_of_methodNamed B.named
  have hlocks := B.notSynchronized
  subst hsz
  have hD := hD0.self (sz := s.heap.size)
  generalize hAe : va_A (wMo cA mo fa ka da fl kp on rn lf wt nv nl nh nc cm dr dn la) s.heap.size = A at hD ⊢
  have hA : ∀ q : Nat, s.heap.size ≤ q → A q := fun q h => by rw [← hAe]; exact Or.inr h
  have hS : va_S A s.heap s.heap [] := va_S.rf
  have hD : va_D A [(mo, .inr (6, [.ref fa, .ref ka, .int on, .int rn, .int lf, .int wt, .int nv, .int nl, .int nh, .int nc, .int cm, .ref da, .int dn, .int la])), (fa, .inl (cA, 66, .inl fl)), (ka, .inl (cA, 66, .inl kp)), (da, .inl (cA, 24, .inl dr))] := hD
  have hP : va_P D vwCl [(mo, .inr (6, [.ref fa, .ref ka, .int on, .int rn, .int lf, .int wt, .int nv, .int nl, .int nh, .int nc, .int cm, .ref da, .int dn, .int la])), (fa, .inl (cA, 66, .inl fl)), (ka, .inl (cA, 66, .inl kp)), (da, .inl (cA, 24, .inl dr))] s.heap := hP
  have hl := lv_entry ([.ref mo]) (n := 2) (Nat.le_of_ble_eq_true rfl)
  rw [lg_entry_eq]
  generalize (lg_sl ([.ref mo]) ++ List.replicate (2 - (lg_sl ([.ref mo])).length) Slot.unset).toArray = ls at hl ⊢
  have hl : lv_has ls 2 [(0, .ref mo)] := hl
  have hi6 : ∀ w ∈ u_ws RX6 TX6 14, w ∈ wsX6_switchOff := by decide +kernel
  refine lv_aload_n hx hb dX6_switchOff_0 rfl (lv_at hl 0 rfl) ?_
  refine lv_aload_n hx hb dX6_switchOff_1 rfl (lv_at hl 0 rfl) ?_
  refine va_get (D := D) (ci := 6) (v := .int on) (C := RX6) (T := TX6) (N := 14) hx hb hts hi6 hown hK hP 0 rfl rfl 2 (by decide) (hts (.fieldLink RX6 63 "BootstayModel" "on" "Z") (by decide +kernel)) (fun _ h9 => h9) rfl dX6_switchOff_2 ?_
  refine lv_if_eq (tgt := 12) hx hb dX6_switchOff_5 (by decide) (fun c_1 => ?_) (fun c_1 => ?_)
  · skip
    refine lv_iconst (v := 1) hx hb dX6_switchOff_12 (by decide) ?_
    refine va_put (D := D) (ci := 6) (v := .int 1) (ty := .int) (C := RX6) (T := TX6) (N := 14) hx hb hts hi6 tyX6 tyX6_ok nmX6 hown hK hP hD hS 0 rfl rfl 13 (by decide) (hts (.fieldLink RX6 37 "BootstayModel" "last" "I") (by decide +kernel)) (fun _ h9 => h9) rfl (by decide +kernel) rfl rfl (Nat.le_of_ble_eq_true rfl) dX6_switchOff_13 (fun H locs hP hD hS => ?_)
    have hP : va_P D vwCl [(mo, .inr (6, [.ref fa, .ref ka, .int on, .int rn, .int lf, .int wt, .int nv, .int nl, .int nh, .int nc, .int cm, .ref da, .int dn, .int 1])), (fa, .inl (cA, 66, .inl fl)), (ka, .inl (cA, 66, .inl kp)), (da, .inl (cA, 24, .inl dr))] H := hP
    have hD : va_D A [(mo, .inr (6, [.ref fa, .ref ka, .int on, .int rn, .int lf, .int wt, .int nv, .int nl, .int nh, .int nc, .int cm, .ref da, .int dn, .int 1])), (fa, .inl (cA, 66, .inl fl)), (ka, .inl (cA, 66, .inl kp)), (da, .inl (cA, 24, .inl dr))] := hD
    refine lv_aload_n hx hb dX6_switchOff_16 rfl (lv_at hl 0 rfl) ?_
    refine va_get (D := D) (ci := 6) (v := .int 1) (C := RX6) (T := TX6) (N := 14) hx hb hts hi6 hown hK hP 0 rfl rfl 13 (by decide) (hts (.fieldLink RX6 37 "BootstayModel" "last" "I") (by decide +kernel)) (fun _ h9 => h9) rfl dX6_switchOff_17 ?_
    refine lv_if_le (tgt := 25) hx hb dX6_switchOff_20 (by decide) (fun c_2 => ?_) (fun c_2 => ?_)
    · skip
      exact absurd c_2 (by decide)
    · skip
      refine lv_iconst (v := 0) hx hb dX6_switchOff_23 (by decide) ?_
      exact W.iret (v := 0) hx hb hr (fun t ht hW => ⟨⟨0, (on, rn, cm, 1), rfl, (by simp only [F_X6_switchOff, if_pos c_1, if_neg c_2]), ⟨by rw [ht]; exact hP, hD⟩⟩, hS.F ht⟩) hS.2.2 dX6_switchOff_24
  · skip
    refine lv_iconst (v := 0) hx hb dX6_switchOff_8 (by decide) ?_
    refine lv_goto (tgt := 13) hx hb dX6_switchOff_9 (by decide) ?_
    refine va_put (D := D) (ci := 6) (v := .int 0) (ty := .int) (C := RX6) (T := TX6) (N := 14) hx hb hts hi6 tyX6 tyX6_ok nmX6 hown hK hP hD hS 0 rfl rfl 13 (by decide) (hts (.fieldLink RX6 37 "BootstayModel" "last" "I") (by decide +kernel)) (fun _ h9 => h9) rfl (by decide +kernel) rfl rfl (Nat.le_of_ble_eq_true rfl) dX6_switchOff_13 (fun H locs hP hD hS => ?_)
    have hP : va_P D vwCl [(mo, .inr (6, [.ref fa, .ref ka, .int on, .int rn, .int lf, .int wt, .int nv, .int nl, .int nh, .int nc, .int cm, .ref da, .int dn, .int 0])), (fa, .inl (cA, 66, .inl fl)), (ka, .inl (cA, 66, .inl kp)), (da, .inl (cA, 24, .inl dr))] H := hP
    have hD : va_D A [(mo, .inr (6, [.ref fa, .ref ka, .int on, .int rn, .int lf, .int wt, .int nv, .int nl, .int nh, .int nc, .int cm, .ref da, .int dn, .int 0])), (fa, .inl (cA, 66, .inl fl)), (ka, .inl (cA, 66, .inl kp)), (da, .inl (cA, 24, .inl dr))] := hD
    refine lv_aload_n hx hb dX6_switchOff_16 rfl (lv_at hl 0 rfl) ?_
    refine va_get (D := D) (ci := 6) (v := .int 0) (C := RX6) (T := TX6) (N := 14) hx hb hts hi6 hown hK hP 0 rfl rfl 13 (by decide) (hts (.fieldLink RX6 37 "BootstayModel" "last" "I") (by decide +kernel)) (fun _ h9 => h9) rfl dX6_switchOff_17 ?_
    refine lv_if_le (tgt := 25) hx hb dX6_switchOff_20 (by decide) (fun c_3 => ?_) (fun c_3 => ?_)
    · skip
      refine lv_aload_n hx hb dX6_switchOff_25 rfl (lv_at hl 0 rfl) ?_
      refine va_get (D := D) (ci := 6) (v := .int rn) (C := RX6) (T := TX6) (N := 14) hx hb hts hi6 hown hK hP 0 rfl rfl 3 (by decide) (hts (.fieldLink RX6 16 "BootstayModel" "running" "I") (by decide +kernel)) (fun _ h9 => h9) rfl dX6_switchOff_26 ?_
      refine lv_istore_n (lv' := [(1, .int rn), (0, .ref mo)]) hx hb dX6_switchOff_29 rfl hl (by decide) rfl (fun ls hl => ?_)
      refine lv_aload_n hx hb dX6_switchOff_30 rfl (lv_at hl 1 rfl) ?_
      refine bx_wv (wc := [(mo, .inr (6, [.ref fa, .ref ka, .int on, .int rn, .int lf, .int wt, .int nv, .int nl, .int nh, .int nc, .int cm, .ref da, .int dn, .int 0])), (fa, .inl (cA, 66, .inl fl)), (ka, .inl (cA, 66, .inl kp)), (da, .inl (cA, 24, .inl dr))]) (wr := []) (wf := fun (u : (Int32) × (Int32) × (Int32)) => [(mo, .inr (6, [.ref fa, .ref ka, .int u.1, .int u.2.1, .int lf, .int wt, .int nv, .int nl, .int nh, .int nc, .int u.2.2, .ref da, .int dn, .int 0])), (fa, .inl (cA, 66, .inl fl)), (ka, .inl (cA, 66, .inl kp)), (da, .inl (cA, 24, .inl dr))]) (wn := fun (u : (Int32) × (Int32) × (Int32)) => [(mo, .inr (6, [.ref fa, .ref ka, .int u.1, .int u.2.1, .int lf, .int wt, .int nv, .int nl, .int nh, .int nc, .int u.2.2, .ref da, .int dn, .int 0])), (fa, .inl (cA, 66, .inl fl)), (ka, .inl (cA, 66, .inl kp)), (da, .inl (cA, 24, .inl dr))]) hP hD hS hA [0, 1, 2, 3] [] [0, 1, 2, 3] rfl rfl (by decide) (by decide) (fun u => rfl) (by decide) (va_runV (As := []) (rest := []) ⟨hx, hb, hml, hown, hts⟩ (c_X6_goesOff l D cA mo fa ka da H.size fl kp on rn lf wt nv nl nh nc cm dr dn 0) (cwV 0 hts gX6_switchOff_X6_goesOff rfl rfl rfl (by decide +kernel) ⟨Nat.le_of_ble_eq_true rfl, Nat.le_of_ble_eq_true rfl⟩) (bx_pv (ci := 6) (q0 := 0) hK hG (hP.sub (ws' := [(mo, .inr (6, [.ref fa, .ref ka, .int on, .int rn, .int lf, .int wt, .int nv, .int nl, .int nh, .int nc, .int cm, .ref da, .int dn, .int 0])), (fa, .inl (cA, 66, .inl fl)), (ka, .inl (cA, 66, .inl kp)), (da, .inl (cA, 24, .inl dr))]) [0, 1, 2, 3] rfl) (hD.sub (ws' := [(mo, .inr (6, [.ref fa, .ref ka, .int on, .int rn, .int lf, .int wt, .int nv, .int nl, .int nh, .int nc, .int cm, .ref da, .int dn, .int 0])), (fa, .inl (cA, 66, .inl fl)), (ka, .inl (cA, 66, .inl kp)), (da, .inl (cA, 24, .inl dr))]) [0, 1, 2, 3] (by decide) rfl) rfl rfl) rfl rfl hl.1 rfl (lv_room (Nat.le_of_ble_eq_true rfl)) dX6_switchOff_31 ⟨Nat.zero_le _, Nat.zero_le _⟩) (fun  u_5 H locs h_4 hP hD hS => ?_)
      obtain ⟨on6, rn7, cm8⟩ := u_5
      have hP : va_P D vwCl [(mo, .inr (6, [.ref fa, .ref ka, .int on6, .int rn7, .int lf, .int wt, .int nv, .int nl, .int nh, .int nc, .int cm8, .ref da, .int dn, .int 0])), (fa, .inl (cA, 66, .inl fl)), (ka, .inl (cA, 66, .inl kp)), (da, .inl (cA, 24, .inl dr))] H := hP
      have hD : va_D A [(mo, .inr (6, [.ref fa, .ref ka, .int on6, .int rn7, .int lf, .int wt, .int nv, .int nl, .int nh, .int nc, .int cm8, .ref da, .int dn, .int 0])), (fa, .inl (cA, 66, .inl fl)), (ka, .inl (cA, 66, .inl kp)), (da, .inl (cA, 24, .inl dr))] := hD
      refine lv_iload_n hx hb dX6_switchOff_34 rfl (lv_at hl 0 rfl) ?_
      exact W.iret (v := rn) hx hb hr (fun t ht hW => ⟨⟨rn, (on6, rn7, cm8, 0), rfl, (by simp only [F_X6_switchOff, if_neg c_1, if_pos c_3, ← h_4]), ⟨by rw [ht]; exact hP, hD⟩⟩, hS.F ht⟩) hS.2.2 dX6_switchOff_35
    · skip
      exact absurd (by decide) c_3
def F_X6_failAfter (lf : Int32) (p0 : Int32) : (Int32) × (Int32) := (if (F_X6_in p0 (-1) 1000) = 0 then (lf, 1) else (p0, 0))
set_option maxHeartbeats 4000000 in
set_option maxRecDepth 100000 in
theorem c_X6_failAfter (l : Launch) (D : va_G) (cA : ClassId) (mo fa ka da : Nat) (sz : Nat) (fl : Nat → Int32) (kp : Nat → Int32) (on : Int32) (rn : Int32) (lf : Int32) (wt : Int32) (nv : Int32) (nl : Int32) (nh : Int32) (nc : Int32) (cm : Int32) (dr : Nat → Int32) (dn : Int32) (la : Int32) (p0 : Int32) : Met l yX6_failAfter wsX6_failAfter ({ frames := 1, cells := 0, slots := 0, locals := 22 }) (va_Pc [.ref mo, .int p0] (bx_pre D [(cA, .int)] (wMo cA mo fa ka da fl kp on rn lf wt nv nl nh nc cm dr dn la) sz)) (va_Qv (fun u => u = F_X6_failAfter lf p0) (fun u t => bx_at D (wMo cA mo fa ka da fl kp on rn u.1 wt nv nl nh nc cm dr dn u.2) (va_A (wMo cA mo fa ka da fl kp on rn lf wt nv nl nh nc cm dr dn la) sz) t) (va_A (wMo cA mo fa ka da fl kp on rn lf wt nv nl nh nc cm dr dn la) sz)) 0 0 (va_A (wMo cA mo fa ka da fl kp on rn lf wt nv nl nh nc cm dr dn la) sz) := by
  refine Met.ofW (cc := cX6_failAfter) (maxL := 2) (ret := none) (by decide) rfl ?_
  intro p e s m args below meth c s₁ B hml hv
  obtain ⟨rfl, hsz, hP, hK, hD0, hG⟩ := hv
  have hx := B.exec
  have hb := B.bytes
  have hr := B.returns
  have hts := atoms_spec (ws := wsX6_failAfter) B.pre
  have hown : s.vm.findClass RX6 = some m.cls := findClass_of_methodNamed B.named
  have hlocks := B.notSynchronized
  subst hsz
  have hD := hD0.self (sz := s.heap.size)
  generalize hAe : va_A (wMo cA mo fa ka da fl kp on rn lf wt nv nl nh nc cm dr dn la) s.heap.size = A at hD ⊢
  have hA : ∀ q : Nat, s.heap.size ≤ q → A q := fun q h => by rw [← hAe]; exact Or.inr h
  have hS : va_S A s.heap s.heap [] := va_S.rf
  have hD : va_D A [(mo, .inr (6, [.ref fa, .ref ka, .int on, .int rn, .int lf, .int wt, .int nv, .int nl, .int nh, .int nc, .int cm, .ref da, .int dn, .int la])), (fa, .inl (cA, 66, .inl fl)), (ka, .inl (cA, 66, .inl kp)), (da, .inl (cA, 24, .inl dr))] := hD
  have hP : va_P D vwCl [(mo, .inr (6, [.ref fa, .ref ka, .int on, .int rn, .int lf, .int wt, .int nv, .int nl, .int nh, .int nc, .int cm, .ref da, .int dn, .int la])), (fa, .inl (cA, 66, .inl fl)), (ka, .inl (cA, 66, .inl kp)), (da, .inl (cA, 24, .inl dr))] s.heap := hP
  have hl := lv_entry ([.ref mo, .int p0]) (n := 2) (Nat.le_of_ble_eq_true rfl)
  rw [lg_entry_eq]
  generalize (lg_sl ([.ref mo, .int p0]) ++ List.replicate (2 - (lg_sl ([.ref mo, .int p0])).length) Slot.unset).toArray = ls at hl ⊢
  have hl : lv_has ls 2 [(0, .ref mo), (1, .int p0)] := hl
  have hi6 : ∀ w ∈ u_ws RX6 TX6 14, w ∈ wsX6_failAfter := by decide +kernel
  refine lv_aload_n hx hb dX6_failAfter_0 rfl (lv_at hl 0 rfl) ?_
  refine lv_iload_n hx hb dX6_failAfter_1 rfl (lv_at hl 1 rfl) ?_
  refine lv_iconst (v := (-1)) hx hb dX6_failAfter_2 (by decide) ?_
  refine lv_sipush (v := 1000) hx hb dX6_failAfter_3 (by decide) ?_
  refine bx_ri (va_runS (As := [.int p0, .int (-1), .int 1000]) (rest := [.ref mo]) ⟨hx, hb, hml, hown, hts⟩ (c_X6_in l D p0 (-1) 1000) (va_cwS 3 hts gX6_failAfter_X6_in rfl rfl rfl (by decide +kernel) ⟨Nat.le_of_ble_eq_true rfl, Nat.le_of_ble_eq_true rfl⟩) (bx_psr (hK.sub (tys' := []) [] rfl) hG (hP.sub (ws' := []) [] rfl)) rfl rfl hl.1 rfl (lv_room (Nat.le_of_ble_eq_true rfl)) dX6_failAfter_6 ⟨Nat.zero_le _, Nat.zero_le _⟩) (fun r_1 h_2 => ?_)
  obtain ⟨h_2, b_3⟩ := h_2
  have h_2 := h_2.symm
  subst h_2
  refine lv_if_eq (tgt := 16) hx hb dX6_failAfter_9 (by decide) (fun c_4 => ?_) (fun c_4 => ?_)
  · skip
    refine lv_iconst (v := 1) hx hb dX6_failAfter_16 (by decide) ?_
    refine va_put (D := D) (ci := 6) (v := .int 1) (ty := .int) (C := RX6) (T := TX6) (N := 14) hx hb hts hi6 tyX6 tyX6_ok nmX6 hown hK hP hD hS 0 rfl rfl 13 (by decide) (hts (.fieldLink RX6 37 "BootstayModel" "last" "I") (by decide +kernel)) (fun _ h9 => h9) rfl (by decide +kernel) rfl rfl (Nat.le_of_ble_eq_true rfl) dX6_failAfter_17 (fun H locs hP hD hS => ?_)
    have hP : va_P D vwCl [(mo, .inr (6, [.ref fa, .ref ka, .int on, .int rn, .int lf, .int wt, .int nv, .int nl, .int nh, .int nc, .int cm, .ref da, .int dn, .int 1])), (fa, .inl (cA, 66, .inl fl)), (ka, .inl (cA, 66, .inl kp)), (da, .inl (cA, 24, .inl dr))] H := hP
    have hD : va_D A [(mo, .inr (6, [.ref fa, .ref ka, .int on, .int rn, .int lf, .int wt, .int nv, .int nl, .int nh, .int nc, .int cm, .ref da, .int dn, .int 1])), (fa, .inl (cA, 66, .inl fl)), (ka, .inl (cA, 66, .inl kp)), (da, .inl (cA, 24, .inl dr))] := hD
    refine lv_aload_n hx hb dX6_failAfter_20 rfl (lv_at hl 0 rfl) ?_
    refine lv_aload_n hx hb dX6_failAfter_21 rfl (lv_at hl 0 rfl) ?_
    refine va_get (D := D) (ci := 6) (v := .int 1) (C := RX6) (T := TX6) (N := 14) hx hb hts hi6 hown hK hP 0 rfl rfl 13 (by decide) (hts (.fieldLink RX6 37 "BootstayModel" "last" "I") (by decide +kernel)) (fun _ h9 => h9) rfl dX6_failAfter_22 ?_
    refine lv_if_ne (tgt := 32) hx hb dX6_failAfter_25 (by decide) (fun c_5 => ?_) (fun c_5 => ?_)
    · skip
      refine lv_aload_n hx hb dX6_failAfter_32 rfl (lv_at hl 0 rfl) ?_
      refine va_get (D := D) (ci := 6) (v := .int lf) (C := RX6) (T := TX6) (N := 14) hx hb hts hi6 hown hK hP 0 rfl rfl 4 (by decide) (hts (.fieldLink RX6 20 "BootstayModel" "left" "I") (by decide +kernel)) (fun _ h9 => h9) rfl dX6_failAfter_33 ?_
      refine va_put (D := D) (ci := 6) (v := .int lf) (ty := .int) (C := RX6) (T := TX6) (N := 14) hx hb hts hi6 tyX6 tyX6_ok nmX6 hown hK hP hD hS 0 rfl rfl 4 (by decide) (hts (.fieldLink RX6 20 "BootstayModel" "left" "I") (by decide +kernel)) (fun _ h9 => h9) rfl (by decide +kernel) rfl rfl (Nat.le_of_ble_eq_true rfl) dX6_failAfter_36 (fun H locs hP hD hS => ?_)
      have hP : va_P D vwCl [(mo, .inr (6, [.ref fa, .ref ka, .int on, .int rn, .int lf, .int wt, .int nv, .int nl, .int nh, .int nc, .int cm, .ref da, .int dn, .int 1])), (fa, .inl (cA, 66, .inl fl)), (ka, .inl (cA, 66, .inl kp)), (da, .inl (cA, 24, .inl dr))] H := hP
      have hD : va_D A [(mo, .inr (6, [.ref fa, .ref ka, .int on, .int rn, .int lf, .int wt, .int nv, .int nl, .int nh, .int nc, .int cm, .ref da, .int dn, .int 1])), (fa, .inl (cA, 66, .inl fl)), (ka, .inl (cA, 66, .inl kp)), (da, .inl (cA, 24, .inl dr))] := hD
      exact W.vret hx hb hr (fun t ht hW => ⟨⟨(lf, 1), rfl, (by simp only [F_X6_failAfter, if_pos c_4, if_neg c_5]), ⟨by rw [ht]; exact hP, hD⟩⟩, hS.F ht⟩) hS.2.2 dX6_failAfter_39
    · skip
      exact absurd c_5 (by decide)
  · skip
    refine lv_iconst (v := 0) hx hb dX6_failAfter_12 (by decide) ?_
    refine lv_goto (tgt := 17) hx hb dX6_failAfter_13 (by decide) ?_
    refine va_put (D := D) (ci := 6) (v := .int 0) (ty := .int) (C := RX6) (T := TX6) (N := 14) hx hb hts hi6 tyX6 tyX6_ok nmX6 hown hK hP hD hS 0 rfl rfl 13 (by decide) (hts (.fieldLink RX6 37 "BootstayModel" "last" "I") (by decide +kernel)) (fun _ h9 => h9) rfl (by decide +kernel) rfl rfl (Nat.le_of_ble_eq_true rfl) dX6_failAfter_17 (fun H locs hP hD hS => ?_)
    have hP : va_P D vwCl [(mo, .inr (6, [.ref fa, .ref ka, .int on, .int rn, .int lf, .int wt, .int nv, .int nl, .int nh, .int nc, .int cm, .ref da, .int dn, .int 0])), (fa, .inl (cA, 66, .inl fl)), (ka, .inl (cA, 66, .inl kp)), (da, .inl (cA, 24, .inl dr))] H := hP
    have hD : va_D A [(mo, .inr (6, [.ref fa, .ref ka, .int on, .int rn, .int lf, .int wt, .int nv, .int nl, .int nh, .int nc, .int cm, .ref da, .int dn, .int 0])), (fa, .inl (cA, 66, .inl fl)), (ka, .inl (cA, 66, .inl kp)), (da, .inl (cA, 24, .inl dr))] := hD
    refine lv_aload_n hx hb dX6_failAfter_20 rfl (lv_at hl 0 rfl) ?_
    refine lv_aload_n hx hb dX6_failAfter_21 rfl (lv_at hl 0 rfl) ?_
    refine va_get (D := D) (ci := 6) (v := .int 0) (C := RX6) (T := TX6) (N := 14) hx hb hts hi6 hown hK hP 0 rfl rfl 13 (by decide) (hts (.fieldLink RX6 37 "BootstayModel" "last" "I") (by decide +kernel)) (fun _ h9 => h9) rfl dX6_failAfter_22 ?_
    refine lv_if_ne (tgt := 32) hx hb dX6_failAfter_25 (by decide) (fun c_6 => ?_) (fun c_6 => ?_)
    · skip
      exact absurd (by decide) c_6
    · skip
      refine lv_iload_n hx hb dX6_failAfter_28 rfl (lv_at hl 1 rfl) ?_
      refine lv_goto (tgt := 36) hx hb dX6_failAfter_29 (by decide) ?_
      refine va_put (D := D) (ci := 6) (v := .int p0) (ty := .int) (C := RX6) (T := TX6) (N := 14) hx hb hts hi6 tyX6 tyX6_ok nmX6 hown hK hP hD hS 0 rfl rfl 4 (by decide) (hts (.fieldLink RX6 20 "BootstayModel" "left" "I") (by decide +kernel)) (fun _ h9 => h9) rfl (by decide +kernel) rfl rfl (Nat.le_of_ble_eq_true rfl) dX6_failAfter_36 (fun H locs hP hD hS => ?_)
      have hP : va_P D vwCl [(mo, .inr (6, [.ref fa, .ref ka, .int on, .int rn, .int p0, .int wt, .int nv, .int nl, .int nh, .int nc, .int cm, .ref da, .int dn, .int 0])), (fa, .inl (cA, 66, .inl fl)), (ka, .inl (cA, 66, .inl kp)), (da, .inl (cA, 24, .inl dr))] H := hP
      have hD : va_D A [(mo, .inr (6, [.ref fa, .ref ka, .int on, .int rn, .int p0, .int wt, .int nv, .int nl, .int nh, .int nc, .int cm, .ref da, .int dn, .int 0])), (fa, .inl (cA, 66, .inl fl)), (ka, .inl (cA, 66, .inl kp)), (da, .inl (cA, 24, .inl dr))] := hD
      exact W.vret hx hb hr (fun t ht hW => ⟨⟨(p0, 0), rfl, (by simp only [F_X6_failAfter, if_neg c_4, if_pos c_6]), ⟨by rw [ht]; exact hP, hD⟩⟩, hS.F ht⟩) hS.2.2 dX6_failAfter_39
def F_X6_isOn (on : Int32) : Int32 × (Int32) := (on, 0)
set_option maxHeartbeats 4000000 in
set_option maxRecDepth 100000 in
theorem c_X6_isOn (l : Launch) (D : va_G) (cA : ClassId) (mo fa ka da : Nat) (sz : Nat) (fl : Nat → Int32) (kp : Nat → Int32) (on : Int32) (rn : Int32) (lf : Int32) (wt : Int32) (nv : Int32) (nl : Int32) (nh : Int32) (nc : Int32) (cm : Int32) (dr : Nat → Int32) (dn : Int32) (la : Int32) (hon : on = 0 ∨ on = 1) : Met l yX6_isOn wsX6_isOn ({ frames := 0, cells := 0, slots := 0, locals := 0 }) (va_Pc [.ref mo] (bx_pre D [(cA, .int)] (wMo cA mo fa ka da fl kp on rn lf wt nv nl nh nc cm dr dn la) sz)) (va_Qi (fun r u => (r, u) = F_X6_isOn on ∧ (r = 0 ∨ r = 1)) (fun u t => bx_at D (wMo cA mo fa ka da fl kp on rn lf wt nv nl nh nc cm dr dn u) (va_A (wMo cA mo fa ka da fl kp on rn lf wt nv nl nh nc cm dr dn la) sz) t) (va_A (wMo cA mo fa ka da fl kp on rn lf wt nv nl nh nc cm dr dn la) sz)) 0 0 (va_A (wMo cA mo fa ka da fl kp on rn lf wt nv nl nh nc cm dr dn la) sz) := by
  refine Met.ofW (cc := cX6_isOn) (maxL := 1) (ret := (some .boolean)) (by decide) rfl ?_
  intro p e s m args below meth c s₁ B hml hv
  obtain ⟨rfl, hsz, hP, hK, hD0, hG⟩ := hv
  have hx := B.exec
  have hb := B.bytes
  have hr := B.returns
  have hts := atoms_spec (ws := wsX6_isOn) B.pre
  have hown : s.vm.findClass RX6 = some m.cls := findClass_of_methodNamed B.named
  have hlocks := B.notSynchronized
  subst hsz
  have hD := hD0.self (sz := s.heap.size)
  generalize hAe : va_A (wMo cA mo fa ka da fl kp on rn lf wt nv nl nh nc cm dr dn la) s.heap.size = A at hD ⊢
  have hA : ∀ q : Nat, s.heap.size ≤ q → A q := fun q h => by rw [← hAe]; exact Or.inr h
  have hS : va_S A s.heap s.heap [] := va_S.rf
  have hD : va_D A [(mo, .inr (6, [.ref fa, .ref ka, .int on, .int rn, .int lf, .int wt, .int nv, .int nl, .int nh, .int nc, .int cm, .ref da, .int dn, .int la])), (fa, .inl (cA, 66, .inl fl)), (ka, .inl (cA, 66, .inl kp)), (da, .inl (cA, 24, .inl dr))] := hD
  have hP : va_P D vwCl [(mo, .inr (6, [.ref fa, .ref ka, .int on, .int rn, .int lf, .int wt, .int nv, .int nl, .int nh, .int nc, .int cm, .ref da, .int dn, .int la])), (fa, .inl (cA, 66, .inl fl)), (ka, .inl (cA, 66, .inl kp)), (da, .inl (cA, 24, .inl dr))] s.heap := hP
  have hl := lv_entry ([.ref mo]) (n := 1) (Nat.le_of_ble_eq_true rfl)
  rw [lg_entry_eq]
  generalize (lg_sl ([.ref mo]) ++ List.replicate (1 - (lg_sl ([.ref mo])).length) Slot.unset).toArray = ls at hl ⊢
  have hl : lv_has ls 1 [(0, .ref mo)] := hl
  have hi6 : ∀ w ∈ u_ws RX6 TX6 14, w ∈ wsX6_isOn := by decide +kernel
  refine lv_aload_n hx hb dX6_isOn_0 rfl (lv_at hl 0 rfl) ?_
  refine lv_iconst (v := 0) hx hb dX6_isOn_1 (by decide) ?_
  refine va_put (D := D) (ci := 6) (v := .int 0) (ty := .int) (C := RX6) (T := TX6) (N := 14) hx hb hts hi6 tyX6 tyX6_ok nmX6 hown hK hP hD hS 0 rfl rfl 13 (by decide) (hts (.fieldLink RX6 37 "BootstayModel" "last" "I") (by decide +kernel)) (fun _ h9 => h9) rfl (by decide +kernel) rfl rfl (Nat.le_of_ble_eq_true rfl) dX6_isOn_2 (fun H locs hP hD hS => ?_)
  have hP : va_P D vwCl [(mo, .inr (6, [.ref fa, .ref ka, .int on, .int rn, .int lf, .int wt, .int nv, .int nl, .int nh, .int nc, .int cm, .ref da, .int dn, .int 0])), (fa, .inl (cA, 66, .inl fl)), (ka, .inl (cA, 66, .inl kp)), (da, .inl (cA, 24, .inl dr))] H := hP
  have hD : va_D A [(mo, .inr (6, [.ref fa, .ref ka, .int on, .int rn, .int lf, .int wt, .int nv, .int nl, .int nh, .int nc, .int cm, .ref da, .int dn, .int 0])), (fa, .inl (cA, 66, .inl fl)), (ka, .inl (cA, 66, .inl kp)), (da, .inl (cA, 24, .inl dr))] := hD
  refine lv_aload_n hx hb dX6_isOn_5 rfl (lv_at hl 0 rfl) ?_
  refine va_get (D := D) (ci := 6) (v := .int on) (C := RX6) (T := TX6) (N := 14) hx hb hts hi6 hown hK hP 0 rfl rfl 2 (by decide) (hts (.fieldLink RX6 63 "BootstayModel" "on" "Z") (by decide +kernel)) (fun _ h9 => h9) rfl dX6_isOn_6 ?_
  exact W.zret (v := on) hx hb hr (bx_nb hon) (fun t ht hW => ⟨⟨on, 0, rfl, ⟨rfl, hon⟩, ⟨by rw [ht]; exact hP, hD⟩⟩, hS.F ht⟩) hS.2.2 dX6_isOn_9
def F_X6_running (rn : Int32) : Int32 × (Int32) := (rn, 0)
set_option maxHeartbeats 4000000 in
set_option maxRecDepth 100000 in
theorem c_X6_running (l : Launch) (D : va_G) (cA : ClassId) (mo fa ka da : Nat) (sz : Nat) (fl : Nat → Int32) (kp : Nat → Int32) (on : Int32) (rn : Int32) (lf : Int32) (wt : Int32) (nv : Int32) (nl : Int32) (nh : Int32) (nc : Int32) (cm : Int32) (dr : Nat → Int32) (dn : Int32) (la : Int32) : Met l yX6_running wsX6_running ({ frames := 0, cells := 0, slots := 0, locals := 0 }) (va_Pc [.ref mo] (bx_pre D [(cA, .int)] (wMo cA mo fa ka da fl kp on rn lf wt nv nl nh nc cm dr dn la) sz)) (va_Qi (fun r u => (r, u) = F_X6_running rn) (fun u t => bx_at D (wMo cA mo fa ka da fl kp on rn lf wt nv nl nh nc cm dr dn u) (va_A (wMo cA mo fa ka da fl kp on rn lf wt nv nl nh nc cm dr dn la) sz) t) (va_A (wMo cA mo fa ka da fl kp on rn lf wt nv nl nh nc cm dr dn la) sz)) 0 0 (va_A (wMo cA mo fa ka da fl kp on rn lf wt nv nl nh nc cm dr dn la) sz) := by
  refine Met.ofW (cc := cX6_running) (maxL := 1) (ret := (some .int)) (by decide) rfl ?_
  intro p e s m args below meth c s₁ B hml hv
  obtain ⟨rfl, hsz, hP, hK, hD0, hG⟩ := hv
  have hx := B.exec
  have hb := B.bytes
  have hr := B.returns
  have hts := atoms_spec (ws := wsX6_running) B.pre
  have hown : s.vm.findClass RX6 = some m.cls := findClass_of_methodNamed B.named
  have hlocks := B.notSynchronized
  subst hsz
  have hD := hD0.self (sz := s.heap.size)
  generalize hAe : va_A (wMo cA mo fa ka da fl kp on rn lf wt nv nl nh nc cm dr dn la) s.heap.size = A at hD ⊢
  have hA : ∀ q : Nat, s.heap.size ≤ q → A q := fun q h => by rw [← hAe]; exact Or.inr h
  have hS : va_S A s.heap s.heap [] := va_S.rf
  have hD : va_D A [(mo, .inr (6, [.ref fa, .ref ka, .int on, .int rn, .int lf, .int wt, .int nv, .int nl, .int nh, .int nc, .int cm, .ref da, .int dn, .int la])), (fa, .inl (cA, 66, .inl fl)), (ka, .inl (cA, 66, .inl kp)), (da, .inl (cA, 24, .inl dr))] := hD
  have hP : va_P D vwCl [(mo, .inr (6, [.ref fa, .ref ka, .int on, .int rn, .int lf, .int wt, .int nv, .int nl, .int nh, .int nc, .int cm, .ref da, .int dn, .int la])), (fa, .inl (cA, 66, .inl fl)), (ka, .inl (cA, 66, .inl kp)), (da, .inl (cA, 24, .inl dr))] s.heap := hP
  have hl := lv_entry ([.ref mo]) (n := 1) (Nat.le_of_ble_eq_true rfl)
  rw [lg_entry_eq]
  generalize (lg_sl ([.ref mo]) ++ List.replicate (1 - (lg_sl ([.ref mo])).length) Slot.unset).toArray = ls at hl ⊢
  have hl : lv_has ls 1 [(0, .ref mo)] := hl
  have hi6 : ∀ w ∈ u_ws RX6 TX6 14, w ∈ wsX6_running := by decide +kernel
  refine lv_aload_n hx hb dX6_running_0 rfl (lv_at hl 0 rfl) ?_
  refine lv_iconst (v := 0) hx hb dX6_running_1 (by decide) ?_
  refine va_put (D := D) (ci := 6) (v := .int 0) (ty := .int) (C := RX6) (T := TX6) (N := 14) hx hb hts hi6 tyX6 tyX6_ok nmX6 hown hK hP hD hS 0 rfl rfl 13 (by decide) (hts (.fieldLink RX6 37 "BootstayModel" "last" "I") (by decide +kernel)) (fun _ h9 => h9) rfl (by decide +kernel) rfl rfl (Nat.le_of_ble_eq_true rfl) dX6_running_2 (fun H locs hP hD hS => ?_)
  have hP : va_P D vwCl [(mo, .inr (6, [.ref fa, .ref ka, .int on, .int rn, .int lf, .int wt, .int nv, .int nl, .int nh, .int nc, .int cm, .ref da, .int dn, .int 0])), (fa, .inl (cA, 66, .inl fl)), (ka, .inl (cA, 66, .inl kp)), (da, .inl (cA, 24, .inl dr))] H := hP
  have hD : va_D A [(mo, .inr (6, [.ref fa, .ref ka, .int on, .int rn, .int lf, .int wt, .int nv, .int nl, .int nh, .int nc, .int cm, .ref da, .int dn, .int 0])), (fa, .inl (cA, 66, .inl fl)), (ka, .inl (cA, 66, .inl kp)), (da, .inl (cA, 24, .inl dr))] := hD
  refine lv_aload_n hx hb dX6_running_5 rfl (lv_at hl 0 rfl) ?_
  refine va_get (D := D) (ci := 6) (v := .int rn) (C := RX6) (T := TX6) (N := 14) hx hb hts hi6 hown hK hP 0 rfl rfl 3 (by decide) (hts (.fieldLink RX6 16 "BootstayModel" "running" "I") (by decide +kernel)) (fun _ h9 => h9) rfl dX6_running_6 ?_
  exact W.iret (v := rn) hx hb hr (fun t ht hW => ⟨⟨rn, 0, rfl, rfl, ⟨by rw [ht]; exact hP, hD⟩⟩, hS.F ht⟩) hS.2.2 dX6_running_9
def F_X6_isOnTrial (fl : Nat → Int32) (on : Int32) (rn : Int32) : Int32 × (Int32) := ((F_X6_isTrial fl on rn), 0)
set_option maxHeartbeats 4000000 in
set_option maxRecDepth 100000 in
theorem c_X6_isOnTrial (l : Launch) (D : va_G) (cA : ClassId) (mo fa ka da : Nat) (sz : Nat) (fl : Nat → Int32) (kp : Nat → Int32) (on : Int32) (rn : Int32) (lf : Int32) (wt : Int32) (nv : Int32) (nl : Int32) (nh : Int32) (nc : Int32) (cm : Int32) (dr : Nat → Int32) (dn : Int32) (la : Int32) : Met l yX6_isOnTrial wsX6_isOnTrial ({ frames := 6, cells := 0, slots := 0, locals := 125 }) (va_Pc [.ref mo] (bx_pre D [(cA, .int)] (wMo cA mo fa ka da fl kp on rn lf wt nv nl nh nc cm dr dn la) sz)) (va_Qi (fun r u => (r, u) = F_X6_isOnTrial fl on rn ∧ (r = 0 ∨ r = 1)) (fun u t => bx_at D (wMo cA mo fa ka da fl kp on rn lf wt nv nl nh nc cm dr dn u) (va_A (wMo cA mo fa ka da fl kp on rn lf wt nv nl nh nc cm dr dn la) sz) t) (va_A (wMo cA mo fa ka da fl kp on rn lf wt nv nl nh nc cm dr dn la) sz)) 0 0 (va_A (wMo cA mo fa ka da fl kp on rn lf wt nv nl nh nc cm dr dn la) sz) := by
  refine Met.ofW (cc := cX6_isOnTrial) (maxL := 1) (ret := (some .boolean)) (by decide) rfl ?_
  intro p e s m args below meth c s₁ B hml hv
  obtain ⟨rfl, hsz, hP, hK, hD0, hG⟩ := hv
  have hx := B.exec
  have hb := B.bytes
  have hr := B.returns
  have hts := atoms_spec (ws := wsX6_isOnTrial) B.pre
  have hown : s.vm.findClass RX6 = some m.cls := findClass_of_methodNamed B.named
  have hlocks := B.notSynchronized
  subst hsz
  have hD := hD0.self (sz := s.heap.size)
  generalize hAe : va_A (wMo cA mo fa ka da fl kp on rn lf wt nv nl nh nc cm dr dn la) s.heap.size = A at hD ⊢
  have hA : ∀ q : Nat, s.heap.size ≤ q → A q := fun q h => by rw [← hAe]; exact Or.inr h
  have hS : va_S A s.heap s.heap [] := va_S.rf
  have hD : va_D A [(mo, .inr (6, [.ref fa, .ref ka, .int on, .int rn, .int lf, .int wt, .int nv, .int nl, .int nh, .int nc, .int cm, .ref da, .int dn, .int la])), (fa, .inl (cA, 66, .inl fl)), (ka, .inl (cA, 66, .inl kp)), (da, .inl (cA, 24, .inl dr))] := hD
  have hP : va_P D vwCl [(mo, .inr (6, [.ref fa, .ref ka, .int on, .int rn, .int lf, .int wt, .int nv, .int nl, .int nh, .int nc, .int cm, .ref da, .int dn, .int la])), (fa, .inl (cA, 66, .inl fl)), (ka, .inl (cA, 66, .inl kp)), (da, .inl (cA, 24, .inl dr))] s.heap := hP
  have hl := lv_entry ([.ref mo]) (n := 1) (Nat.le_of_ble_eq_true rfl)
  rw [lg_entry_eq]
  generalize (lg_sl ([.ref mo]) ++ List.replicate (1 - (lg_sl ([.ref mo])).length) Slot.unset).toArray = ls at hl ⊢
  have hl : lv_has ls 1 [(0, .ref mo)] := hl
  have hi6 : ∀ w ∈ u_ws RX6 TX6 14, w ∈ wsX6_isOnTrial := by decide +kernel
  refine lv_aload_n hx hb dX6_isOnTrial_0 rfl (lv_at hl 0 rfl) ?_
  refine lv_iconst (v := 0) hx hb dX6_isOnTrial_1 (by decide) ?_
  refine va_put (D := D) (ci := 6) (v := .int 0) (ty := .int) (C := RX6) (T := TX6) (N := 14) hx hb hts hi6 tyX6 tyX6_ok nmX6 hown hK hP hD hS 0 rfl rfl 13 (by decide) (hts (.fieldLink RX6 37 "BootstayModel" "last" "I") (by decide +kernel)) (fun _ h9 => h9) rfl (by decide +kernel) rfl rfl (Nat.le_of_ble_eq_true rfl) dX6_isOnTrial_2 (fun H locs hP hD hS => ?_)
  have hP : va_P D vwCl [(mo, .inr (6, [.ref fa, .ref ka, .int on, .int rn, .int lf, .int wt, .int nv, .int nl, .int nh, .int nc, .int cm, .ref da, .int dn, .int 0])), (fa, .inl (cA, 66, .inl fl)), (ka, .inl (cA, 66, .inl kp)), (da, .inl (cA, 24, .inl dr))] H := hP
  have hD : va_D A [(mo, .inr (6, [.ref fa, .ref ka, .int on, .int rn, .int lf, .int wt, .int nv, .int nl, .int nh, .int nc, .int cm, .ref da, .int dn, .int 0])), (fa, .inl (cA, 66, .inl fl)), (ka, .inl (cA, 66, .inl kp)), (da, .inl (cA, 24, .inl dr))] := hD
  refine lv_aload_n hx hb dX6_isOnTrial_5 rfl (lv_at hl 0 rfl) ?_
  refine bx_ri (va_runV (As := []) (rest := []) ⟨hx, hb, hml, hown, hts⟩ (c_X6_isTrial l D cA mo fa ka da fl kp on rn lf wt nv nl nh nc cm dr dn 0) (cwV 0 hts gX6_isOnTrial_X6_isTrial rfl rfl rfl (by decide +kernel) ⟨Nat.le_of_ble_eq_true rfl, Nat.le_of_ble_eq_true rfl⟩) (bx_pvr (ci := 6) (q0 := 0) hK hG (hP.sub (ws' := [(mo, .inr (6, [.ref fa, .ref ka, .int on, .int rn, .int lf, .int wt, .int nv, .int nl, .int nh, .int nc, .int cm, .ref da, .int dn, .int 0])), (fa, .inl (cA, 66, .inl fl)), (ka, .inl (cA, 66, .inl kp)), (da, .inl (cA, 24, .inl dr))]) [0, 1, 2, 3] rfl) rfl rfl) rfl rfl hl.1 rfl (lv_room (Nat.le_of_ble_eq_true rfl)) dX6_isOnTrial_6 ⟨Nat.zero_le _, Nat.zero_le _⟩) (fun r_1 h_2 => ?_)
  obtain ⟨h_2, b_3⟩ := h_2
  have h_2 := h_2.symm
  subst h_2
  exact W.zret (v := (F_X6_isTrial fl on rn)) hx hb hr (bx_nb b_3) (fun t ht hW => ⟨⟨(F_X6_isTrial fl on rn), 0, rfl, ⟨rfl, b_3⟩, ⟨by rw [ht]; exact hP, hD⟩⟩, hS.F ht⟩) hS.2.2 dX6_isOnTrial_9
def F_X6_writes (wt : Int32) : Int32 × (Int32) := (wt, 0)
set_option maxHeartbeats 4000000 in
set_option maxRecDepth 100000 in
theorem c_X6_writes (l : Launch) (D : va_G) (cA : ClassId) (mo fa ka da : Nat) (sz : Nat) (fl : Nat → Int32) (kp : Nat → Int32) (on : Int32) (rn : Int32) (lf : Int32) (wt : Int32) (nv : Int32) (nl : Int32) (nh : Int32) (nc : Int32) (cm : Int32) (dr : Nat → Int32) (dn : Int32) (la : Int32) : Met l yX6_writes wsX6_writes ({ frames := 0, cells := 0, slots := 0, locals := 0 }) (va_Pc [.ref mo] (bx_pre D [(cA, .int)] (wMo cA mo fa ka da fl kp on rn lf wt nv nl nh nc cm dr dn la) sz)) (va_Qi (fun r u => (r, u) = F_X6_writes wt) (fun u t => bx_at D (wMo cA mo fa ka da fl kp on rn lf wt nv nl nh nc cm dr dn u) (va_A (wMo cA mo fa ka da fl kp on rn lf wt nv nl nh nc cm dr dn la) sz) t) (va_A (wMo cA mo fa ka da fl kp on rn lf wt nv nl nh nc cm dr dn la) sz)) 0 0 (va_A (wMo cA mo fa ka da fl kp on rn lf wt nv nl nh nc cm dr dn la) sz) := by
  refine Met.ofW (cc := cX6_writes) (maxL := 1) (ret := (some .int)) (by decide) rfl ?_
  intro p e s m args below meth c s₁ B hml hv
  obtain ⟨rfl, hsz, hP, hK, hD0, hG⟩ := hv
  have hx := B.exec
  have hb := B.bytes
  have hr := B.returns
  have hts := atoms_spec (ws := wsX6_writes) B.pre
  have hown : s.vm.findClass RX6 = some m.cls := findClass_of_methodNamed B.named
  have hlocks := B.notSynchronized
  subst hsz
  have hD := hD0.self (sz := s.heap.size)
  generalize hAe : va_A (wMo cA mo fa ka da fl kp on rn lf wt nv nl nh nc cm dr dn la) s.heap.size = A at hD ⊢
  have hA : ∀ q : Nat, s.heap.size ≤ q → A q := fun q h => by rw [← hAe]; exact Or.inr h
  have hS : va_S A s.heap s.heap [] := va_S.rf
  have hD : va_D A [(mo, .inr (6, [.ref fa, .ref ka, .int on, .int rn, .int lf, .int wt, .int nv, .int nl, .int nh, .int nc, .int cm, .ref da, .int dn, .int la])), (fa, .inl (cA, 66, .inl fl)), (ka, .inl (cA, 66, .inl kp)), (da, .inl (cA, 24, .inl dr))] := hD
  have hP : va_P D vwCl [(mo, .inr (6, [.ref fa, .ref ka, .int on, .int rn, .int lf, .int wt, .int nv, .int nl, .int nh, .int nc, .int cm, .ref da, .int dn, .int la])), (fa, .inl (cA, 66, .inl fl)), (ka, .inl (cA, 66, .inl kp)), (da, .inl (cA, 24, .inl dr))] s.heap := hP
  have hl := lv_entry ([.ref mo]) (n := 1) (Nat.le_of_ble_eq_true rfl)
  rw [lg_entry_eq]
  generalize (lg_sl ([.ref mo]) ++ List.replicate (1 - (lg_sl ([.ref mo])).length) Slot.unset).toArray = ls at hl ⊢
  have hl : lv_has ls 1 [(0, .ref mo)] := hl
  have hi6 : ∀ w ∈ u_ws RX6 TX6 14, w ∈ wsX6_writes := by decide +kernel
  refine lv_aload_n hx hb dX6_writes_0 rfl (lv_at hl 0 rfl) ?_
  refine lv_iconst (v := 0) hx hb dX6_writes_1 (by decide) ?_
  refine va_put (D := D) (ci := 6) (v := .int 0) (ty := .int) (C := RX6) (T := TX6) (N := 14) hx hb hts hi6 tyX6 tyX6_ok nmX6 hown hK hP hD hS 0 rfl rfl 13 (by decide) (hts (.fieldLink RX6 37 "BootstayModel" "last" "I") (by decide +kernel)) (fun _ h9 => h9) rfl (by decide +kernel) rfl rfl (Nat.le_of_ble_eq_true rfl) dX6_writes_2 (fun H locs hP hD hS => ?_)
  have hP : va_P D vwCl [(mo, .inr (6, [.ref fa, .ref ka, .int on, .int rn, .int lf, .int wt, .int nv, .int nl, .int nh, .int nc, .int cm, .ref da, .int dn, .int 0])), (fa, .inl (cA, 66, .inl fl)), (ka, .inl (cA, 66, .inl kp)), (da, .inl (cA, 24, .inl dr))] H := hP
  have hD : va_D A [(mo, .inr (6, [.ref fa, .ref ka, .int on, .int rn, .int lf, .int wt, .int nv, .int nl, .int nh, .int nc, .int cm, .ref da, .int dn, .int 0])), (fa, .inl (cA, 66, .inl fl)), (ka, .inl (cA, 66, .inl kp)), (da, .inl (cA, 24, .inl dr))] := hD
  refine lv_aload_n hx hb dX6_writes_5 rfl (lv_at hl 0 rfl) ?_
  refine va_get (D := D) (ci := 6) (v := .int wt) (C := RX6) (T := TX6) (N := 14) hx hb hts hi6 hown hK hP 0 rfl rfl 5 (by decide) (hts (.fieldLink RX6 67 "BootstayModel" "writes" "I") (by decide +kernel)) (fun _ h9 => h9) rfl dX6_writes_6 ?_
  exact W.iret (v := wt) hx hb hr (fun t ht hW => ⟨⟨wt, 0, rfl, rfl, ⟨by rw [ht]; exact hP, hD⟩⟩, hS.F ht⟩) hS.2.2 dX6_writes_9
def F_X6_toCome (nl : Int32) (cm : Int32) : Int32 × (Int32) := (if 0 ≤ cm then ((nl - cm), 0) else ((-1), 0))
set_option maxHeartbeats 4000000 in
set_option maxRecDepth 100000 in
theorem c_X6_toCome (l : Launch) (D : va_G) (cA : ClassId) (mo fa ka da : Nat) (sz : Nat) (fl : Nat → Int32) (kp : Nat → Int32) (on : Int32) (rn : Int32) (lf : Int32) (wt : Int32) (nv : Int32) (nl : Int32) (nh : Int32) (nc : Int32) (cm : Int32) (dr : Nat → Int32) (dn : Int32) (la : Int32) : Met l yX6_toCome wsX6_toCome ({ frames := 0, cells := 0, slots := 0, locals := 0 }) (va_Pc [.ref mo] (bx_pre D [(cA, .int)] (wMo cA mo fa ka da fl kp on rn lf wt nv nl nh nc cm dr dn la) sz)) (va_Qi (fun r u => (r, u) = F_X6_toCome nl cm) (fun u t => bx_at D (wMo cA mo fa ka da fl kp on rn lf wt nv nl nh nc cm dr dn u) (va_A (wMo cA mo fa ka da fl kp on rn lf wt nv nl nh nc cm dr dn la) sz) t) (va_A (wMo cA mo fa ka da fl kp on rn lf wt nv nl nh nc cm dr dn la) sz)) 0 0 (va_A (wMo cA mo fa ka da fl kp on rn lf wt nv nl nh nc cm dr dn la) sz) := by
  refine Met.ofW (cc := cX6_toCome) (maxL := 1) (ret := (some .int)) (by decide) rfl ?_
  intro p e s m args below meth c s₁ B hml hv
  obtain ⟨rfl, hsz, hP, hK, hD0, hG⟩ := hv
  have hx := B.exec
  have hb := B.bytes
  have hr := B.returns
  have hts := atoms_spec (ws := wsX6_toCome) B.pre
  have hown : s.vm.findClass RX6 = some m.cls := findClass_of_methodNamed B.named
  have hlocks := B.notSynchronized
  subst hsz
  have hD := hD0.self (sz := s.heap.size)
  generalize hAe : va_A (wMo cA mo fa ka da fl kp on rn lf wt nv nl nh nc cm dr dn la) s.heap.size = A at hD ⊢
  have hA : ∀ q : Nat, s.heap.size ≤ q → A q := fun q h => by rw [← hAe]; exact Or.inr h
  have hS : va_S A s.heap s.heap [] := va_S.rf
  have hD : va_D A [(mo, .inr (6, [.ref fa, .ref ka, .int on, .int rn, .int lf, .int wt, .int nv, .int nl, .int nh, .int nc, .int cm, .ref da, .int dn, .int la])), (fa, .inl (cA, 66, .inl fl)), (ka, .inl (cA, 66, .inl kp)), (da, .inl (cA, 24, .inl dr))] := hD
  have hP : va_P D vwCl [(mo, .inr (6, [.ref fa, .ref ka, .int on, .int rn, .int lf, .int wt, .int nv, .int nl, .int nh, .int nc, .int cm, .ref da, .int dn, .int la])), (fa, .inl (cA, 66, .inl fl)), (ka, .inl (cA, 66, .inl kp)), (da, .inl (cA, 24, .inl dr))] s.heap := hP
  have hl := lv_entry ([.ref mo]) (n := 1) (Nat.le_of_ble_eq_true rfl)
  rw [lg_entry_eq]
  generalize (lg_sl ([.ref mo]) ++ List.replicate (1 - (lg_sl ([.ref mo])).length) Slot.unset).toArray = ls at hl ⊢
  have hl : lv_has ls 1 [(0, .ref mo)] := hl
  have hi6 : ∀ w ∈ u_ws RX6 TX6 14, w ∈ wsX6_toCome := by decide +kernel
  refine lv_aload_n hx hb dX6_toCome_0 rfl (lv_at hl 0 rfl) ?_
  refine lv_iconst (v := 0) hx hb dX6_toCome_1 (by decide) ?_
  refine va_put (D := D) (ci := 6) (v := .int 0) (ty := .int) (C := RX6) (T := TX6) (N := 14) hx hb hts hi6 tyX6 tyX6_ok nmX6 hown hK hP hD hS 0 rfl rfl 13 (by decide) (hts (.fieldLink RX6 37 "BootstayModel" "last" "I") (by decide +kernel)) (fun _ h9 => h9) rfl (by decide +kernel) rfl rfl (Nat.le_of_ble_eq_true rfl) dX6_toCome_2 (fun H locs hP hD hS => ?_)
  have hP : va_P D vwCl [(mo, .inr (6, [.ref fa, .ref ka, .int on, .int rn, .int lf, .int wt, .int nv, .int nl, .int nh, .int nc, .int cm, .ref da, .int dn, .int 0])), (fa, .inl (cA, 66, .inl fl)), (ka, .inl (cA, 66, .inl kp)), (da, .inl (cA, 24, .inl dr))] H := hP
  have hD : va_D A [(mo, .inr (6, [.ref fa, .ref ka, .int on, .int rn, .int lf, .int wt, .int nv, .int nl, .int nh, .int nc, .int cm, .ref da, .int dn, .int 0])), (fa, .inl (cA, 66, .inl fl)), (ka, .inl (cA, 66, .inl kp)), (da, .inl (cA, 24, .inl dr))] := hD
  refine lv_aload_n hx hb dX6_toCome_5 rfl (lv_at hl 0 rfl) ?_
  refine va_get (D := D) (ci := 6) (v := .int cm) (C := RX6) (T := TX6) (N := 14) hx hb hts hi6 hown hK hP 0 rfl rfl 10 (by decide) (hts (.fieldLink RX6 23 "BootstayModel" "come" "I") (by decide +kernel)) (fun _ h9 => h9) rfl dX6_toCome_6 ?_
  refine lv_if_ge (tgt := 16) hx hb dX6_toCome_9 (by decide) (fun c_1 => ?_) (fun c_1 => ?_)
  · skip
    refine lv_aload_n hx hb dX6_toCome_16 rfl (lv_at hl 0 rfl) ?_
    refine va_get (D := D) (ci := 6) (v := .int nl) (C := RX6) (T := TX6) (N := 14) hx hb hts hi6 hown hK hP 0 rfl rfl 7 (by decide) (hts (.fieldLink RX6 103 "BootstayModel" "newLength" "I") (by decide +kernel)) (fun _ h9 => h9) rfl dX6_toCome_17 ?_
    refine lv_aload_n hx hb dX6_toCome_20 rfl (lv_at hl 0 rfl) ?_
    refine va_get (D := D) (ci := 6) (v := .int cm) (C := RX6) (T := TX6) (N := 14) hx hb hts hi6 hown hK hP 0 rfl rfl 10 (by decide) (hts (.fieldLink RX6 23 "BootstayModel" "come" "I") (by decide +kernel)) (fun _ h9 => h9) rfl dX6_toCome_21 ?_
    refine lv_isub hx hb dX6_toCome_24 ?_
    exact W.iret (v := (nl - cm)) hx hb hr (fun t ht hW => ⟨⟨(nl - cm), 0, rfl, (by simp only [F_X6_toCome, if_pos c_1]), ⟨by rw [ht]; exact hP, hD⟩⟩, hS.F ht⟩) hS.2.2 dX6_toCome_25
  · skip
    refine lv_iconst (v := (-1)) hx hb dX6_toCome_12 (by decide) ?_
    refine lv_goto (tgt := 25) hx hb dX6_toCome_13 (by decide) ?_
    exact W.iret (v := (-1)) hx hb hr (fun t ht hW => ⟨⟨(-1), 0, rfl, (by simp only [F_X6_toCome, if_neg c_1]), ⟨by rw [ht]; exact hP, hD⟩⟩, hS.F ht⟩) hS.2.2 dX6_toCome_25
def F_X6_record (fl : Nat → Int32) : Int32 × (Int32) := ((F_X6_force fl), 0)
set_option maxHeartbeats 4000000 in
set_option maxRecDepth 100000 in
theorem c_X6_record (l : Launch) (D : va_G) (cA : ClassId) (mo fa ka da : Nat) (sz : Nat) (fl : Nat → Int32) (kp : Nat → Int32) (on : Int32) (rn : Int32) (lf : Int32) (wt : Int32) (nv : Int32) (nl : Int32) (nh : Int32) (nc : Int32) (cm : Int32) (dr : Nat → Int32) (dn : Int32) (la : Int32) : Met l yX6_record wsX6_record ({ frames := 3, cells := 0, slots := 0, locals := 64 }) (va_Pc [.ref mo] (bx_pre D [(cA, .int)] (wMo cA mo fa ka da fl kp on rn lf wt nv nl nh nc cm dr dn la) sz)) (va_Qi (fun r u => (r, u) = F_X6_record fl) (fun u t => bx_at D (wMo cA mo fa ka da fl kp on rn lf wt nv nl nh nc cm dr dn u) (va_A (wMo cA mo fa ka da fl kp on rn lf wt nv nl nh nc cm dr dn la) sz) t) (va_A (wMo cA mo fa ka da fl kp on rn lf wt nv nl nh nc cm dr dn la) sz)) 0 0 (va_A (wMo cA mo fa ka da fl kp on rn lf wt nv nl nh nc cm dr dn la) sz) := by
  refine Met.ofW (cc := cX6_record) (maxL := 1) (ret := (some .int)) (by decide) rfl ?_
  intro p e s m args below meth c s₁ B hml hv
  obtain ⟨rfl, hsz, hP, hK, hD0, hG⟩ := hv
  have hx := B.exec
  have hb := B.bytes
  have hr := B.returns
  have hts := atoms_spec (ws := wsX6_record) B.pre
  have hown : s.vm.findClass RX6 = some m.cls := findClass_of_methodNamed B.named
  have hlocks := B.notSynchronized
  subst hsz
  have hD := hD0.self (sz := s.heap.size)
  generalize hAe : va_A (wMo cA mo fa ka da fl kp on rn lf wt nv nl nh nc cm dr dn la) s.heap.size = A at hD ⊢
  have hA : ∀ q : Nat, s.heap.size ≤ q → A q := fun q h => by rw [← hAe]; exact Or.inr h
  have hS : va_S A s.heap s.heap [] := va_S.rf
  have hD : va_D A [(mo, .inr (6, [.ref fa, .ref ka, .int on, .int rn, .int lf, .int wt, .int nv, .int nl, .int nh, .int nc, .int cm, .ref da, .int dn, .int la])), (fa, .inl (cA, 66, .inl fl)), (ka, .inl (cA, 66, .inl kp)), (da, .inl (cA, 24, .inl dr))] := hD
  have hP : va_P D vwCl [(mo, .inr (6, [.ref fa, .ref ka, .int on, .int rn, .int lf, .int wt, .int nv, .int nl, .int nh, .int nc, .int cm, .ref da, .int dn, .int la])), (fa, .inl (cA, 66, .inl fl)), (ka, .inl (cA, 66, .inl kp)), (da, .inl (cA, 24, .inl dr))] s.heap := hP
  have hl := lv_entry ([.ref mo]) (n := 1) (Nat.le_of_ble_eq_true rfl)
  rw [lg_entry_eq]
  generalize (lg_sl ([.ref mo]) ++ List.replicate (1 - (lg_sl ([.ref mo])).length) Slot.unset).toArray = ls at hl ⊢
  have hl : lv_has ls 1 [(0, .ref mo)] := hl
  have hi6 : ∀ w ∈ u_ws RX6 TX6 14, w ∈ wsX6_record := by decide +kernel
  refine lv_aload_n hx hb dX6_record_0 rfl (lv_at hl 0 rfl) ?_
  refine lv_iconst (v := 0) hx hb dX6_record_1 (by decide) ?_
  refine va_put (D := D) (ci := 6) (v := .int 0) (ty := .int) (C := RX6) (T := TX6) (N := 14) hx hb hts hi6 tyX6 tyX6_ok nmX6 hown hK hP hD hS 0 rfl rfl 13 (by decide) (hts (.fieldLink RX6 37 "BootstayModel" "last" "I") (by decide +kernel)) (fun _ h9 => h9) rfl (by decide +kernel) rfl rfl (Nat.le_of_ble_eq_true rfl) dX6_record_2 (fun H locs hP hD hS => ?_)
  have hP : va_P D vwCl [(mo, .inr (6, [.ref fa, .ref ka, .int on, .int rn, .int lf, .int wt, .int nv, .int nl, .int nh, .int nc, .int cm, .ref da, .int dn, .int 0])), (fa, .inl (cA, 66, .inl fl)), (ka, .inl (cA, 66, .inl kp)), (da, .inl (cA, 24, .inl dr))] H := hP
  have hD : va_D A [(mo, .inr (6, [.ref fa, .ref ka, .int on, .int rn, .int lf, .int wt, .int nv, .int nl, .int nh, .int nc, .int cm, .ref da, .int dn, .int 0])), (fa, .inl (cA, 66, .inl fl)), (ka, .inl (cA, 66, .inl kp)), (da, .inl (cA, 24, .inl dr))] := hD
  refine lv_aload_n hx hb dX6_record_5 rfl (lv_at hl 0 rfl) ?_
  refine bx_ri (va_runV (As := []) (rest := []) ⟨hx, hb, hml, hown, hts⟩ (c_X6_force l D cA mo fa ka da fl kp on rn lf wt nv nl nh nc cm dr dn 0) (cwV 0 hts gX6_record_X6_force rfl rfl rfl (by decide +kernel) ⟨Nat.le_of_ble_eq_true rfl, Nat.le_of_ble_eq_true rfl⟩) (bx_pvr (ci := 6) (q0 := 0) hK hG (hP.sub (ws' := [(mo, .inr (6, [.ref fa, .ref ka, .int on, .int rn, .int lf, .int wt, .int nv, .int nl, .int nh, .int nc, .int cm, .ref da, .int dn, .int 0])), (fa, .inl (cA, 66, .inl fl)), (ka, .inl (cA, 66, .inl kp)), (da, .inl (cA, 24, .inl dr))]) [0, 1, 2, 3] rfl) rfl rfl) rfl rfl hl.1 rfl (lv_room (Nat.le_of_ble_eq_true rfl)) dX6_record_6 ⟨Nat.zero_le _, Nat.zero_le _⟩) (fun r_1 h_2 => ?_)
  have h_2 := h_2.symm
  subst h_2
  exact W.iret (v := (F_X6_force fl)) hx hb hr (fun t ht hW => ⟨⟨(F_X6_force fl), 0, rfl, rfl, ⟨by rw [ht]; exact hP, hD⟩⟩, hS.F ht⟩) hS.2.2 dX6_record_9
def F_X6_confirmed (fl : Nat → Int32) : Int32 × (Int32) := ((F_X6_confirmedSlot fl), 0)
set_option maxHeartbeats 4000000 in
set_option maxRecDepth 100000 in
theorem c_X6_confirmed (l : Launch) (D : va_G) (cA : ClassId) (mo fa ka da : Nat) (sz : Nat) (fl : Nat → Int32) (kp : Nat → Int32) (on : Int32) (rn : Int32) (lf : Int32) (wt : Int32) (nv : Int32) (nl : Int32) (nh : Int32) (nc : Int32) (cm : Int32) (dr : Nat → Int32) (dn : Int32) (la : Int32) : Met l yX6_confirmed wsX6_confirmed ({ frames := 5, cells := 0, slots := 0, locals := 105 }) (va_Pc [.ref mo] (bx_pre D [(cA, .int)] (wMo cA mo fa ka da fl kp on rn lf wt nv nl nh nc cm dr dn la) sz)) (va_Qi (fun r u => (r, u) = F_X6_confirmed fl) (fun u t => bx_at D (wMo cA mo fa ka da fl kp on rn lf wt nv nl nh nc cm dr dn u) (va_A (wMo cA mo fa ka da fl kp on rn lf wt nv nl nh nc cm dr dn la) sz) t) (va_A (wMo cA mo fa ka da fl kp on rn lf wt nv nl nh nc cm dr dn la) sz)) 0 0 (va_A (wMo cA mo fa ka da fl kp on rn lf wt nv nl nh nc cm dr dn la) sz) := by
  refine Met.ofW (cc := cX6_confirmed) (maxL := 1) (ret := (some .int)) (by decide) rfl ?_
  intro p e s m args below meth c s₁ B hml hv
  obtain ⟨rfl, hsz, hP, hK, hD0, hG⟩ := hv
  have hx := B.exec
  have hb := B.bytes
  have hr := B.returns
  have hts := atoms_spec (ws := wsX6_confirmed) B.pre
  have hown : s.vm.findClass RX6 = some m.cls := findClass_of_methodNamed B.named
  have hlocks := B.notSynchronized
  subst hsz
  have hD := hD0.self (sz := s.heap.size)
  generalize hAe : va_A (wMo cA mo fa ka da fl kp on rn lf wt nv nl nh nc cm dr dn la) s.heap.size = A at hD ⊢
  have hA : ∀ q : Nat, s.heap.size ≤ q → A q := fun q h => by rw [← hAe]; exact Or.inr h
  have hS : va_S A s.heap s.heap [] := va_S.rf
  have hD : va_D A [(mo, .inr (6, [.ref fa, .ref ka, .int on, .int rn, .int lf, .int wt, .int nv, .int nl, .int nh, .int nc, .int cm, .ref da, .int dn, .int la])), (fa, .inl (cA, 66, .inl fl)), (ka, .inl (cA, 66, .inl kp)), (da, .inl (cA, 24, .inl dr))] := hD
  have hP : va_P D vwCl [(mo, .inr (6, [.ref fa, .ref ka, .int on, .int rn, .int lf, .int wt, .int nv, .int nl, .int nh, .int nc, .int cm, .ref da, .int dn, .int la])), (fa, .inl (cA, 66, .inl fl)), (ka, .inl (cA, 66, .inl kp)), (da, .inl (cA, 24, .inl dr))] s.heap := hP
  have hl := lv_entry ([.ref mo]) (n := 1) (Nat.le_of_ble_eq_true rfl)
  rw [lg_entry_eq]
  generalize (lg_sl ([.ref mo]) ++ List.replicate (1 - (lg_sl ([.ref mo])).length) Slot.unset).toArray = ls at hl ⊢
  have hl : lv_has ls 1 [(0, .ref mo)] := hl
  have hi6 : ∀ w ∈ u_ws RX6 TX6 14, w ∈ wsX6_confirmed := by decide +kernel
  refine lv_aload_n hx hb dX6_confirmed_0 rfl (lv_at hl 0 rfl) ?_
  refine lv_iconst (v := 0) hx hb dX6_confirmed_1 (by decide) ?_
  refine va_put (D := D) (ci := 6) (v := .int 0) (ty := .int) (C := RX6) (T := TX6) (N := 14) hx hb hts hi6 tyX6 tyX6_ok nmX6 hown hK hP hD hS 0 rfl rfl 13 (by decide) (hts (.fieldLink RX6 37 "BootstayModel" "last" "I") (by decide +kernel)) (fun _ h9 => h9) rfl (by decide +kernel) rfl rfl (Nat.le_of_ble_eq_true rfl) dX6_confirmed_2 (fun H locs hP hD hS => ?_)
  have hP : va_P D vwCl [(mo, .inr (6, [.ref fa, .ref ka, .int on, .int rn, .int lf, .int wt, .int nv, .int nl, .int nh, .int nc, .int cm, .ref da, .int dn, .int 0])), (fa, .inl (cA, 66, .inl fl)), (ka, .inl (cA, 66, .inl kp)), (da, .inl (cA, 24, .inl dr))] H := hP
  have hD : va_D A [(mo, .inr (6, [.ref fa, .ref ka, .int on, .int rn, .int lf, .int wt, .int nv, .int nl, .int nh, .int nc, .int cm, .ref da, .int dn, .int 0])), (fa, .inl (cA, 66, .inl fl)), (ka, .inl (cA, 66, .inl kp)), (da, .inl (cA, 24, .inl dr))] := hD
  refine lv_aload_n hx hb dX6_confirmed_5 rfl (lv_at hl 0 rfl) ?_
  refine bx_ri (va_runV (As := []) (rest := []) ⟨hx, hb, hml, hown, hts⟩ (c_X6_confirmedSlot l D cA mo fa ka da fl kp on rn lf wt nv nl nh nc cm dr dn 0) (cwV 0 hts gX6_confirmed_X6_confirmedSlot rfl rfl rfl (by decide +kernel) ⟨Nat.le_of_ble_eq_true rfl, Nat.le_of_ble_eq_true rfl⟩) (bx_pvr (ci := 6) (q0 := 0) hK hG (hP.sub (ws' := [(mo, .inr (6, [.ref fa, .ref ka, .int on, .int rn, .int lf, .int wt, .int nv, .int nl, .int nh, .int nc, .int cm, .ref da, .int dn, .int 0])), (fa, .inl (cA, 66, .inl fl)), (ka, .inl (cA, 66, .inl kp)), (da, .inl (cA, 24, .inl dr))]) [0, 1, 2, 3] rfl) rfl rfl) rfl rfl hl.1 rfl (lv_room (Nat.le_of_ble_eq_true rfl)) dX6_confirmed_6 ⟨Nat.zero_le _, Nat.zero_le _⟩) (fun r_1 h_2 => ?_)
  have h_2 := h_2.symm
  subst h_2
  exact W.iret (v := (F_X6_confirmedSlot fl)) hx hb hr (fun t ht hW => ⟨⟨(F_X6_confirmedSlot fl), 0, rfl, rfl, ⟨by rw [ht]; exact hP, hD⟩⟩, hS.F ht⟩) hS.2.2 dX6_confirmed_9
def F_X6_tries (fl : Nat → Int32) : Int32 × (Int32) := ((F_X6_triesLeft fl), 0)
set_option maxHeartbeats 4000000 in
set_option maxRecDepth 100000 in
theorem c_X6_tries (l : Launch) (D : va_G) (cA : ClassId) (mo fa ka da : Nat) (sz : Nat) (fl : Nat → Int32) (kp : Nat → Int32) (on : Int32) (rn : Int32) (lf : Int32) (wt : Int32) (nv : Int32) (nl : Int32) (nh : Int32) (nc : Int32) (cm : Int32) (dr : Nat → Int32) (dn : Int32) (la : Int32) : Met l yX6_tries wsX6_tries ({ frames := 6, cells := 0, slots := 0, locals := 125 }) (va_Pc [.ref mo] (bx_pre D [(cA, .int)] (wMo cA mo fa ka da fl kp on rn lf wt nv nl nh nc cm dr dn la) sz)) (va_Qi (fun r u => (r, u) = F_X6_tries fl) (fun u t => bx_at D (wMo cA mo fa ka da fl kp on rn lf wt nv nl nh nc cm dr dn u) (va_A (wMo cA mo fa ka da fl kp on rn lf wt nv nl nh nc cm dr dn la) sz) t) (va_A (wMo cA mo fa ka da fl kp on rn lf wt nv nl nh nc cm dr dn la) sz)) 0 0 (va_A (wMo cA mo fa ka da fl kp on rn lf wt nv nl nh nc cm dr dn la) sz) := by
  refine Met.ofW (cc := cX6_tries) (maxL := 1) (ret := (some .int)) (by decide) rfl ?_
  intro p e s m args below meth c s₁ B hml hv
  obtain ⟨rfl, hsz, hP, hK, hD0, hG⟩ := hv
  have hx := B.exec
  have hb := B.bytes
  have hr := B.returns
  have hts := atoms_spec (ws := wsX6_tries) B.pre
  have hown : s.vm.findClass RX6 = some m.cls := findClass_of_methodNamed B.named
  have hlocks := B.notSynchronized
  subst hsz
  have hD := hD0.self (sz := s.heap.size)
  generalize hAe : va_A (wMo cA mo fa ka da fl kp on rn lf wt nv nl nh nc cm dr dn la) s.heap.size = A at hD ⊢
  have hA : ∀ q : Nat, s.heap.size ≤ q → A q := fun q h => by rw [← hAe]; exact Or.inr h
  have hS : va_S A s.heap s.heap [] := va_S.rf
  have hD : va_D A [(mo, .inr (6, [.ref fa, .ref ka, .int on, .int rn, .int lf, .int wt, .int nv, .int nl, .int nh, .int nc, .int cm, .ref da, .int dn, .int la])), (fa, .inl (cA, 66, .inl fl)), (ka, .inl (cA, 66, .inl kp)), (da, .inl (cA, 24, .inl dr))] := hD
  have hP : va_P D vwCl [(mo, .inr (6, [.ref fa, .ref ka, .int on, .int rn, .int lf, .int wt, .int nv, .int nl, .int nh, .int nc, .int cm, .ref da, .int dn, .int la])), (fa, .inl (cA, 66, .inl fl)), (ka, .inl (cA, 66, .inl kp)), (da, .inl (cA, 24, .inl dr))] s.heap := hP
  have hl := lv_entry ([.ref mo]) (n := 1) (Nat.le_of_ble_eq_true rfl)
  rw [lg_entry_eq]
  generalize (lg_sl ([.ref mo]) ++ List.replicate (1 - (lg_sl ([.ref mo])).length) Slot.unset).toArray = ls at hl ⊢
  have hl : lv_has ls 1 [(0, .ref mo)] := hl
  have hi6 : ∀ w ∈ u_ws RX6 TX6 14, w ∈ wsX6_tries := by decide +kernel
  refine lv_aload_n hx hb dX6_tries_0 rfl (lv_at hl 0 rfl) ?_
  refine lv_iconst (v := 0) hx hb dX6_tries_1 (by decide) ?_
  refine va_put (D := D) (ci := 6) (v := .int 0) (ty := .int) (C := RX6) (T := TX6) (N := 14) hx hb hts hi6 tyX6 tyX6_ok nmX6 hown hK hP hD hS 0 rfl rfl 13 (by decide) (hts (.fieldLink RX6 37 "BootstayModel" "last" "I") (by decide +kernel)) (fun _ h9 => h9) rfl (by decide +kernel) rfl rfl (Nat.le_of_ble_eq_true rfl) dX6_tries_2 (fun H locs hP hD hS => ?_)
  have hP : va_P D vwCl [(mo, .inr (6, [.ref fa, .ref ka, .int on, .int rn, .int lf, .int wt, .int nv, .int nl, .int nh, .int nc, .int cm, .ref da, .int dn, .int 0])), (fa, .inl (cA, 66, .inl fl)), (ka, .inl (cA, 66, .inl kp)), (da, .inl (cA, 24, .inl dr))] H := hP
  have hD : va_D A [(mo, .inr (6, [.ref fa, .ref ka, .int on, .int rn, .int lf, .int wt, .int nv, .int nl, .int nh, .int nc, .int cm, .ref da, .int dn, .int 0])), (fa, .inl (cA, 66, .inl fl)), (ka, .inl (cA, 66, .inl kp)), (da, .inl (cA, 24, .inl dr))] := hD
  refine lv_aload_n hx hb dX6_tries_5 rfl (lv_at hl 0 rfl) ?_
  refine bx_ri (va_runV (As := []) (rest := []) ⟨hx, hb, hml, hown, hts⟩ (c_X6_triesLeft l D cA mo fa ka da fl kp on rn lf wt nv nl nh nc cm dr dn 0) (cwV 0 hts gX6_tries_X6_triesLeft rfl rfl rfl (by decide +kernel) ⟨Nat.le_of_ble_eq_true rfl, Nat.le_of_ble_eq_true rfl⟩) (bx_pvr (ci := 6) (q0 := 0) hK hG (hP.sub (ws' := [(mo, .inr (6, [.ref fa, .ref ka, .int on, .int rn, .int lf, .int wt, .int nv, .int nl, .int nh, .int nc, .int cm, .ref da, .int dn, .int 0])), (fa, .inl (cA, 66, .inl fl)), (ka, .inl (cA, 66, .inl kp)), (da, .inl (cA, 24, .inl dr))]) [0, 1, 2, 3] rfl) rfl rfl) rfl rfl hl.1 rfl (lv_room (Nat.le_of_ble_eq_true rfl)) dX6_tries_6 ⟨Nat.zero_le _, Nat.zero_le _⟩) (fun r_1 h_2 => ?_)
  have h_2 := h_2.symm
  subst h_2
  exact W.iret (v := (F_X6_triesLeft fl)) hx hb hr (fun t ht hW => ⟨⟨(F_X6_triesLeft fl), 0, rfl, rfl, ⟨by rw [ht]; exact hP, hD⟩⟩, hS.F ht⟩) hS.2.2 dX6_tries_9
def F_X6_counter (fl : Nat → Int32) : Int32 × (Int32) := ((F_X6_inForce fl 3), 0)
set_option maxHeartbeats 4000000 in
set_option maxRecDepth 100000 in
theorem c_X6_counter (l : Launch) (D : va_G) (cA : ClassId) (mo fa ka da : Nat) (sz : Nat) (fl : Nat → Int32) (kp : Nat → Int32) (on : Int32) (rn : Int32) (lf : Int32) (wt : Int32) (nv : Int32) (nl : Int32) (nh : Int32) (nc : Int32) (cm : Int32) (dr : Nat → Int32) (dn : Int32) (la : Int32) : Met l yX6_counter wsX6_counter ({ frames := 4, cells := 0, slots := 0, locals := 85 }) (va_Pc [.ref mo] (bx_pre D [(cA, .int)] (wMo cA mo fa ka da fl kp on rn lf wt nv nl nh nc cm dr dn la) sz)) (va_Qi (fun r u => (r, u) = F_X6_counter fl) (fun u t => bx_at D (wMo cA mo fa ka da fl kp on rn lf wt nv nl nh nc cm dr dn u) (va_A (wMo cA mo fa ka da fl kp on rn lf wt nv nl nh nc cm dr dn la) sz) t) (va_A (wMo cA mo fa ka da fl kp on rn lf wt nv nl nh nc cm dr dn la) sz)) 0 0 (va_A (wMo cA mo fa ka da fl kp on rn lf wt nv nl nh nc cm dr dn la) sz) := by
  refine Met.ofW (cc := cX6_counter) (maxL := 1) (ret := (some .int)) (by decide) rfl ?_
  intro p e s m args below meth c s₁ B hml hv
  obtain ⟨rfl, hsz, hP, hK, hD0, hG⟩ := hv
  have hx := B.exec
  have hb := B.bytes
  have hr := B.returns
  have hts := atoms_spec (ws := wsX6_counter) B.pre
  have hown : s.vm.findClass RX6 = some m.cls := findClass_of_methodNamed B.named
  have hlocks := B.notSynchronized
  subst hsz
  have hD := hD0.self (sz := s.heap.size)
  generalize hAe : va_A (wMo cA mo fa ka da fl kp on rn lf wt nv nl nh nc cm dr dn la) s.heap.size = A at hD ⊢
  have hA : ∀ q : Nat, s.heap.size ≤ q → A q := fun q h => by rw [← hAe]; exact Or.inr h
  have hS : va_S A s.heap s.heap [] := va_S.rf
  have hD : va_D A [(mo, .inr (6, [.ref fa, .ref ka, .int on, .int rn, .int lf, .int wt, .int nv, .int nl, .int nh, .int nc, .int cm, .ref da, .int dn, .int la])), (fa, .inl (cA, 66, .inl fl)), (ka, .inl (cA, 66, .inl kp)), (da, .inl (cA, 24, .inl dr))] := hD
  have hP : va_P D vwCl [(mo, .inr (6, [.ref fa, .ref ka, .int on, .int rn, .int lf, .int wt, .int nv, .int nl, .int nh, .int nc, .int cm, .ref da, .int dn, .int la])), (fa, .inl (cA, 66, .inl fl)), (ka, .inl (cA, 66, .inl kp)), (da, .inl (cA, 24, .inl dr))] s.heap := hP
  have hl := lv_entry ([.ref mo]) (n := 1) (Nat.le_of_ble_eq_true rfl)
  rw [lg_entry_eq]
  generalize (lg_sl ([.ref mo]) ++ List.replicate (1 - (lg_sl ([.ref mo])).length) Slot.unset).toArray = ls at hl ⊢
  have hl : lv_has ls 1 [(0, .ref mo)] := hl
  have hi6 : ∀ w ∈ u_ws RX6 TX6 14, w ∈ wsX6_counter := by decide +kernel
  refine lv_aload_n hx hb dX6_counter_0 rfl (lv_at hl 0 rfl) ?_
  refine lv_iconst (v := 0) hx hb dX6_counter_1 (by decide) ?_
  refine va_put (D := D) (ci := 6) (v := .int 0) (ty := .int) (C := RX6) (T := TX6) (N := 14) hx hb hts hi6 tyX6 tyX6_ok nmX6 hown hK hP hD hS 0 rfl rfl 13 (by decide) (hts (.fieldLink RX6 37 "BootstayModel" "last" "I") (by decide +kernel)) (fun _ h9 => h9) rfl (by decide +kernel) rfl rfl (Nat.le_of_ble_eq_true rfl) dX6_counter_2 (fun H locs hP hD hS => ?_)
  have hP : va_P D vwCl [(mo, .inr (6, [.ref fa, .ref ka, .int on, .int rn, .int lf, .int wt, .int nv, .int nl, .int nh, .int nc, .int cm, .ref da, .int dn, .int 0])), (fa, .inl (cA, 66, .inl fl)), (ka, .inl (cA, 66, .inl kp)), (da, .inl (cA, 24, .inl dr))] H := hP
  have hD : va_D A [(mo, .inr (6, [.ref fa, .ref ka, .int on, .int rn, .int lf, .int wt, .int nv, .int nl, .int nh, .int nc, .int cm, .ref da, .int dn, .int 0])), (fa, .inl (cA, 66, .inl fl)), (ka, .inl (cA, 66, .inl kp)), (da, .inl (cA, 24, .inl dr))] := hD
  refine lv_aload_n hx hb dX6_counter_5 rfl (lv_at hl 0 rfl) ?_
  refine lv_iconst (v := 3) hx hb dX6_counter_6 (by decide) ?_
  refine bx_ri (va_runV (As := [.int 3]) (rest := []) ⟨hx, hb, hml, hown, hts⟩ (c_X6_inForce l D cA mo fa ka da fl kp on rn lf wt nv nl nh nc cm dr dn 0 3 (by decide)) (cwV 1 hts gX6_counter_X6_inForce rfl rfl rfl (by decide +kernel) ⟨Nat.le_of_ble_eq_true rfl, Nat.le_of_ble_eq_true rfl⟩) (bx_pvr (ci := 6) (q0 := 0) hK hG (hP.sub (ws' := [(mo, .inr (6, [.ref fa, .ref ka, .int on, .int rn, .int lf, .int wt, .int nv, .int nl, .int nh, .int nc, .int cm, .ref da, .int dn, .int 0])), (fa, .inl (cA, 66, .inl fl)), (ka, .inl (cA, 66, .inl kp)), (da, .inl (cA, 24, .inl dr))]) [0, 1, 2, 3] rfl) rfl rfl) rfl rfl hl.1 rfl (lv_room (Nat.le_of_ble_eq_true rfl)) dX6_counter_7 ⟨Nat.zero_le _, Nat.zero_le _⟩) (fun r_1 h_2 => ?_)
  have h_2 := h_2.symm
  subst h_2
  exact W.iret (v := (F_X6_inForce fl 3)) hx hb hr (fun t ht hW => ⟨⟨(F_X6_inForce fl 3), 0, rfl, rfl, ⟨by rw [ht]; exact hP, hD⟩⟩, hS.F ht⟩) hS.2.2 dX6_counter_10
def F_X6_wouldStart (fl : Nat → Int32) : Int32 × (Int32) := ((F_X6_nextStart fl), 0)
set_option maxHeartbeats 4000000 in
set_option maxRecDepth 100000 in
theorem c_X6_wouldStart (l : Launch) (D : va_G) (cA : ClassId) (mo fa ka da : Nat) (sz : Nat) (fl : Nat → Int32) (kp : Nat → Int32) (on : Int32) (rn : Int32) (lf : Int32) (wt : Int32) (nv : Int32) (nl : Int32) (nh : Int32) (nc : Int32) (cm : Int32) (dr : Nat → Int32) (dn : Int32) (la : Int32) (hcs : sl (F_X6_confirmedSlot fl)) : Met l yX6_wouldStart wsX6_wouldStart ({ frames := 8, cells := 0, slots := 0, locals := 167 }) (va_Pc [.ref mo] (bx_pre D [(cA, .int)] (wMo cA mo fa ka da fl kp on rn lf wt nv nl nh nc cm dr dn la) sz)) (va_Qi (fun r u => (r, u) = F_X6_wouldStart fl) (fun u t => bx_at D (wMo cA mo fa ka da fl kp on rn lf wt nv nl nh nc cm dr dn u) (va_A (wMo cA mo fa ka da fl kp on rn lf wt nv nl nh nc cm dr dn la) sz) t) (va_A (wMo cA mo fa ka da fl kp on rn lf wt nv nl nh nc cm dr dn la) sz)) 0 0 (va_A (wMo cA mo fa ka da fl kp on rn lf wt nv nl nh nc cm dr dn la) sz) := by
  refine Met.ofW (cc := cX6_wouldStart) (maxL := 1) (ret := (some .int)) (by decide) rfl ?_
  intro p e s m args below meth c s₁ B hml hv
  obtain ⟨rfl, hsz, hP, hK, hD0, hG⟩ := hv
  have hx := B.exec
  have hb := B.bytes
  have hr := B.returns
  have hts := atoms_spec (ws := wsX6_wouldStart) B.pre
  have hown : s.vm.findClass RX6 = some m.cls := findClass_of_methodNamed B.named
  have hlocks := B.notSynchronized
  subst hsz
  have hD := hD0.self (sz := s.heap.size)
  generalize hAe : va_A (wMo cA mo fa ka da fl kp on rn lf wt nv nl nh nc cm dr dn la) s.heap.size = A at hD ⊢
  have hA : ∀ q : Nat, s.heap.size ≤ q → A q := fun q h => by rw [← hAe]; exact Or.inr h
  have hS : va_S A s.heap s.heap [] := va_S.rf
  have hD : va_D A [(mo, .inr (6, [.ref fa, .ref ka, .int on, .int rn, .int lf, .int wt, .int nv, .int nl, .int nh, .int nc, .int cm, .ref da, .int dn, .int la])), (fa, .inl (cA, 66, .inl fl)), (ka, .inl (cA, 66, .inl kp)), (da, .inl (cA, 24, .inl dr))] := hD
  have hP : va_P D vwCl [(mo, .inr (6, [.ref fa, .ref ka, .int on, .int rn, .int lf, .int wt, .int nv, .int nl, .int nh, .int nc, .int cm, .ref da, .int dn, .int la])), (fa, .inl (cA, 66, .inl fl)), (ka, .inl (cA, 66, .inl kp)), (da, .inl (cA, 24, .inl dr))] s.heap := hP
  have hl := lv_entry ([.ref mo]) (n := 1) (Nat.le_of_ble_eq_true rfl)
  rw [lg_entry_eq]
  generalize (lg_sl ([.ref mo]) ++ List.replicate (1 - (lg_sl ([.ref mo])).length) Slot.unset).toArray = ls at hl ⊢
  have hl : lv_has ls 1 [(0, .ref mo)] := hl
  have hi6 : ∀ w ∈ u_ws RX6 TX6 14, w ∈ wsX6_wouldStart := by decide +kernel
  refine lv_aload_n hx hb dX6_wouldStart_0 rfl (lv_at hl 0 rfl) ?_
  refine lv_iconst (v := 0) hx hb dX6_wouldStart_1 (by decide) ?_
  refine va_put (D := D) (ci := 6) (v := .int 0) (ty := .int) (C := RX6) (T := TX6) (N := 14) hx hb hts hi6 tyX6 tyX6_ok nmX6 hown hK hP hD hS 0 rfl rfl 13 (by decide) (hts (.fieldLink RX6 37 "BootstayModel" "last" "I") (by decide +kernel)) (fun _ h9 => h9) rfl (by decide +kernel) rfl rfl (Nat.le_of_ble_eq_true rfl) dX6_wouldStart_2 (fun H locs hP hD hS => ?_)
  have hP : va_P D vwCl [(mo, .inr (6, [.ref fa, .ref ka, .int on, .int rn, .int lf, .int wt, .int nv, .int nl, .int nh, .int nc, .int cm, .ref da, .int dn, .int 0])), (fa, .inl (cA, 66, .inl fl)), (ka, .inl (cA, 66, .inl kp)), (da, .inl (cA, 24, .inl dr))] H := hP
  have hD : va_D A [(mo, .inr (6, [.ref fa, .ref ka, .int on, .int rn, .int lf, .int wt, .int nv, .int nl, .int nh, .int nc, .int cm, .ref da, .int dn, .int 0])), (fa, .inl (cA, 66, .inl fl)), (ka, .inl (cA, 66, .inl kp)), (da, .inl (cA, 24, .inl dr))] := hD
  refine lv_aload_n hx hb dX6_wouldStart_5 rfl (lv_at hl 0 rfl) ?_
  refine bx_ri (va_runV (As := []) (rest := []) ⟨hx, hb, hml, hown, hts⟩ (c_X6_nextStart l D cA mo fa ka da fl kp on rn lf wt nv nl nh nc cm dr dn 0 hcs) (cwV 0 hts gX6_wouldStart_X6_nextStart rfl rfl rfl (by decide +kernel) ⟨Nat.le_of_ble_eq_true rfl, Nat.le_of_ble_eq_true rfl⟩) (bx_pvr (ci := 6) (q0 := 0) hK hG (hP.sub (ws' := [(mo, .inr (6, [.ref fa, .ref ka, .int on, .int rn, .int lf, .int wt, .int nv, .int nl, .int nh, .int nc, .int cm, .ref da, .int dn, .int 0])), (fa, .inl (cA, 66, .inl fl)), (ka, .inl (cA, 66, .inl kp)), (da, .inl (cA, 24, .inl dr))]) [0, 1, 2, 3] rfl) rfl rfl) rfl rfl hl.1 rfl (lv_room (Nat.le_of_ble_eq_true rfl)) dX6_wouldStart_6 ⟨Nat.zero_le _, Nat.zero_le _⟩) (fun r_1 h_2 => ?_)
  have h_2 := h_2.symm
  subst h_2
  exact W.iret (v := (F_X6_nextStart fl)) hx hb hr (fun t ht hW => ⟨⟨(F_X6_nextStart fl), 0, rfl, rfl, ⟨by rw [ht]; exact hP, hD⟩⟩, hS.F ht⟩) hS.2.2 dX6_wouldStart_9
def F_X6_put (fl : Nat → Int32) (on : Int32) (rn : Int32) (lf : Int32) (wt : Int32) (nl : Int32) (cm : Int32) (p0 : Int32) : Int32 × (Nat → Int32) × (Int32) × (Int32) × (Int32) × (Int32) × (Int32) × (Int32) := (if cm < 0 then (match (F_X6_goes (F_X6_in p0 0 255) 0) with | (r_7, u_6) => (0, fl, on, rn, lf, wt, cm, u_6)) else (if nl ≤ cm then (match (F_X6_goes (F_X6_in p0 0 255) 0) with | (r_14, u_13) => (0, fl, on, rn, lf, wt, cm, u_13)) else (match (F_X6_goes (F_X6_in p0 0 255) 1) with | (r_20, u_19) => (if r_20 = 0 then (0, fl, on, rn, lf, wt, cm, u_19) else (match (F_X6_comes fl on rn lf wt cm p0) with | (r_26, fl27, on28, rn29, lf30, wt31, cm32) => (if r_26 = 0 then (0, fl27, on28, rn29, lf30, wt31, cm32, u_19) else (1, fl27, on28, rn29, lf30, wt31, cm32, u_19)))))))
set_option maxHeartbeats 4000000 in
set_option maxRecDepth 100000 in
theorem c_X6_put (l : Launch) (D : va_G) (cA : ClassId) (mo fa ka da : Nat) (sz : Nat) (fl : Nat → Int32) (kp : Nat → Int32) (on : Int32) (rn : Int32) (lf : Int32) (wt : Int32) (nv : Int32) (nl : Int32) (nh : Int32) (nc : Int32) (cm : Int32) (dr : Nat → Int32) (dn : Int32) (la : Int32) (p0 : Int32) (hcf : cm < 0 ∨ (sl rn ∧ nl.toNatClampNeg ≤ 24)) : Met l yX6_put wsX6_put ({ frames := 3, cells := 0, slots := 0, locals := 64 }) (va_Pc [.ref mo, .int p0] (bx_pre D [(cA, .int)] (wMo cA mo fa ka da fl kp on rn lf wt nv nl nh nc cm dr dn la) sz)) (va_Qi (fun r u => (r, u) = F_X6_put fl on rn lf wt nl cm p0 ∧ (r = 0 ∨ r = 1)) (fun u t => bx_at D (wMo cA mo fa ka da u.1 kp u.2.1 u.2.2.1 u.2.2.2.1 u.2.2.2.2.1 nv nl nh nc u.2.2.2.2.2.1 dr dn u.2.2.2.2.2.2) (va_A (wMo cA mo fa ka da fl kp on rn lf wt nv nl nh nc cm dr dn la) sz) t) (va_A (wMo cA mo fa ka da fl kp on rn lf wt nv nl nh nc cm dr dn la) sz)) 0 0 (va_A (wMo cA mo fa ka da fl kp on rn lf wt nv nl nh nc cm dr dn la) sz) := by
  refine Met.ofW (cc := cX6_put) (maxL := 2) (ret := (some .boolean)) (by decide) rfl ?_
  intro p e s m args below meth c s₁ B hml hv
  obtain ⟨rfl, hsz, hP, hK, hD0, hG⟩ := hv
  have hx := B.exec
  have hb := B.bytes
  have hr := B.returns
  have hts := atoms_spec (ws := wsX6_put) B.pre
  have hown : s.vm.findClass RX6 = some m.cls := findClass_of_methodNamed B.named
  have hlocks := B.notSynchronized
  subst hsz
  have hD := hD0.self (sz := s.heap.size)
  generalize hAe : va_A (wMo cA mo fa ka da fl kp on rn lf wt nv nl nh nc cm dr dn la) s.heap.size = A at hD ⊢
  have hA : ∀ q : Nat, s.heap.size ≤ q → A q := fun q h => by rw [← hAe]; exact Or.inr h
  have hS : va_S A s.heap s.heap [] := va_S.rf
  have hD : va_D A [(mo, .inr (6, [.ref fa, .ref ka, .int on, .int rn, .int lf, .int wt, .int nv, .int nl, .int nh, .int nc, .int cm, .ref da, .int dn, .int la])), (fa, .inl (cA, 66, .inl fl)), (ka, .inl (cA, 66, .inl kp)), (da, .inl (cA, 24, .inl dr))] := hD
  have hP : va_P D vwCl [(mo, .inr (6, [.ref fa, .ref ka, .int on, .int rn, .int lf, .int wt, .int nv, .int nl, .int nh, .int nc, .int cm, .ref da, .int dn, .int la])), (fa, .inl (cA, 66, .inl fl)), (ka, .inl (cA, 66, .inl kp)), (da, .inl (cA, 24, .inl dr))] s.heap := hP
  have hl := lv_entry ([.ref mo, .int p0]) (n := 2) (Nat.le_of_ble_eq_true rfl)
  rw [lg_entry_eq]
  generalize (lg_sl ([.ref mo, .int p0]) ++ List.replicate (2 - (lg_sl ([.ref mo, .int p0])).length) Slot.unset).toArray = ls at hl ⊢
  have hl : lv_has ls 2 [(0, .ref mo), (1, .int p0)] := hl
  have hi6 : ∀ w ∈ u_ws RX6 TX6 14, w ∈ wsX6_put := by decide +kernel
  refine lv_aload_n hx hb dX6_put_0 rfl (lv_at hl 0 rfl) ?_
  refine lv_iload_n hx hb dX6_put_1 rfl (lv_at hl 1 rfl) ?_
  refine lv_iconst (v := 0) hx hb dX6_put_2 (by decide) ?_
  refine lv_sipush (v := 255) hx hb dX6_put_3 (by decide) ?_
  refine bx_ri (va_runS (As := [.int p0, .int 0, .int 255]) (rest := [.ref mo]) ⟨hx, hb, hml, hown, hts⟩ (c_X6_in l D p0 0 255) (va_cwS 3 hts gX6_put_X6_in rfl rfl rfl (by decide +kernel) ⟨Nat.le_of_ble_eq_true rfl, Nat.le_of_ble_eq_true rfl⟩) (bx_psr (hK.sub (tys' := []) [] rfl) hG (hP.sub (ws' := []) [] rfl)) rfl rfl hl.1 rfl (lv_room (Nat.le_of_ble_eq_true rfl)) dX6_put_6 ⟨Nat.zero_le _, Nat.zero_le _⟩) (fun r_1 h_2 => ?_)
  obtain ⟨h_2, b_3⟩ := h_2
  have h_2 := h_2.symm
  subst h_2
  refine lv_aload_n hx hb dX6_put_9 rfl (lv_at hl 0 rfl) ?_
  refine va_get (D := D) (ci := 6) (v := .int cm) (C := RX6) (T := TX6) (N := 14) hx hb hts hi6 hown hK hP 0 rfl rfl 10 (by decide) (hts (.fieldLink RX6 23 "BootstayModel" "come" "I") (by decide +kernel)) (fun _ h9 => h9) rfl dX6_put_10 ?_
  refine lv_if_lt (tgt := 31) hx hb dX6_put_13 (by decide) (fun c_4 => ?_) (fun c_4 => ?_)
  · skip
    refine lv_iconst (v := 0) hx hb dX6_put_31 (by decide) ?_
    refine bx_wi (wc := [(mo, .inr (6, [.ref fa, .ref ka, .int on, .int rn, .int lf, .int wt, .int nv, .int nl, .int nh, .int nc, .int cm, .ref da, .int dn, .int la])), (fa, .inl (cA, 66, .inl fl)), (ka, .inl (cA, 66, .inl kp)), (da, .inl (cA, 24, .inl dr))]) (wr := []) (wf := fun (u : (Int32)) => [(mo, .inr (6, [.ref fa, .ref ka, .int on, .int rn, .int lf, .int wt, .int nv, .int nl, .int nh, .int nc, .int cm, .ref da, .int dn, .int u])), (fa, .inl (cA, 66, .inl fl)), (ka, .inl (cA, 66, .inl kp)), (da, .inl (cA, 24, .inl dr))]) (wn := fun (u : (Int32)) => [(mo, .inr (6, [.ref fa, .ref ka, .int on, .int rn, .int lf, .int wt, .int nv, .int nl, .int nh, .int nc, .int cm, .ref da, .int dn, .int u])), (fa, .inl (cA, 66, .inl fl)), (ka, .inl (cA, 66, .inl kp)), (da, .inl (cA, 24, .inl dr))]) hP hD hS hA [0, 1, 2, 3] [] [0, 1, 2, 3] rfl rfl (by decide) (by decide) (fun u => rfl) (by decide) (va_runV (As := [.int (F_X6_in p0 0 255), .int 0]) (rest := []) ⟨hx, hb, hml, hown, hts⟩ (c_X6_goes l D cA mo fa ka da s.heap.size fl kp on rn lf wt nv nl nh nc cm dr dn la (F_X6_in p0 0 255) 0) (cwV 2 hts gX6_put_X6_goes rfl rfl rfl (by decide +kernel) ⟨Nat.le_of_ble_eq_true rfl, Nat.le_of_ble_eq_true rfl⟩) (bx_pv (ci := 6) (q0 := 0) hK hG (hP.sub (ws' := [(mo, .inr (6, [.ref fa, .ref ka, .int on, .int rn, .int lf, .int wt, .int nv, .int nl, .int nh, .int nc, .int cm, .ref da, .int dn, .int la])), (fa, .inl (cA, 66, .inl fl)), (ka, .inl (cA, 66, .inl kp)), (da, .inl (cA, 24, .inl dr))]) [0, 1, 2, 3] rfl) (hD.sub (ws' := [(mo, .inr (6, [.ref fa, .ref ka, .int on, .int rn, .int lf, .int wt, .int nv, .int nl, .int nh, .int nc, .int cm, .ref da, .int dn, .int la])), (fa, .inl (cA, 66, .inl fl)), (ka, .inl (cA, 66, .inl kp)), (da, .inl (cA, 24, .inl dr))]) [0, 1, 2, 3] (by decide) rfl) rfl rfl) rfl rfl hl.1 rfl (lv_room (Nat.le_of_ble_eq_true rfl)) dX6_put_32 ⟨Nat.zero_le _, Nat.zero_le _⟩) (fun r_7 u_6 H locs h_5 hP hD hS => ?_)
    obtain ⟨h_5, b_9⟩ := h_5
    have hP : va_P D vwCl [(mo, .inr (6, [.ref fa, .ref ka, .int on, .int rn, .int lf, .int wt, .int nv, .int nl, .int nh, .int nc, .int cm, .ref da, .int dn, .int u_6])), (fa, .inl (cA, 66, .inl fl)), (ka, .inl (cA, 66, .inl kp)), (da, .inl (cA, 24, .inl dr))] H := hP
    have hD : va_D A [(mo, .inr (6, [.ref fa, .ref ka, .int on, .int rn, .int lf, .int wt, .int nv, .int nl, .int nh, .int nc, .int cm, .ref da, .int dn, .int u_6])), (fa, .inl (cA, 66, .inl fl)), (ka, .inl (cA, 66, .inl kp)), (da, .inl (cA, 24, .inl dr))] := hD
    obtain ⟨rfl, h_5v⟩ := goes_0 h_5
    refine lv_if_eq (tgt := 50) hx hb dX6_put_35 (by decide) (fun c_10 => ?_) (fun c_10 => ?_)
    · skip
      refine lv_iconst (v := 0) hx hb dX6_put_50 (by decide) ?_
      exact W.zret (v := 0) hx hb hr rfl (fun t ht hW => ⟨⟨0, (fl, on, rn, lf, wt, cm, u_6), rfl, ⟨(by simp only [F_X6_put, if_pos c_4, if_pos c_10, ← h_5]), (by decide)⟩, ⟨by rw [ht]; exact hP, hD⟩⟩, hS.F ht⟩) hS.2.2 dX6_put_51
    · skip
      exact absurd (by decide) c_10
  · skip
    refine lv_aload_n hx hb dX6_put_16 rfl (lv_at hl 0 rfl) ?_
    refine va_get (D := D) (ci := 6) (v := .int cm) (C := RX6) (T := TX6) (N := 14) hx hb hts hi6 hown hK hP 0 rfl rfl 10 (by decide) (hts (.fieldLink RX6 23 "BootstayModel" "come" "I") (by decide +kernel)) (fun _ h9 => h9) rfl dX6_put_17 ?_
    refine lv_aload_n hx hb dX6_put_20 rfl (lv_at hl 0 rfl) ?_
    refine va_get (D := D) (ci := 6) (v := .int nl) (C := RX6) (T := TX6) (N := 14) hx hb hts hi6 hown hK hP 0 rfl rfl 7 (by decide) (hts (.fieldLink RX6 103 "BootstayModel" "newLength" "I") (by decide +kernel)) (fun _ h9 => h9) rfl dX6_put_21 ?_
    refine lv_icmp_ge (tgt := 31) hx hb dX6_put_24 (by decide) (fun c_11 => ?_) (fun c_11 => ?_)
    · skip
      refine lv_iconst (v := 0) hx hb dX6_put_31 (by decide) ?_
      refine bx_wi (wc := [(mo, .inr (6, [.ref fa, .ref ka, .int on, .int rn, .int lf, .int wt, .int nv, .int nl, .int nh, .int nc, .int cm, .ref da, .int dn, .int la])), (fa, .inl (cA, 66, .inl fl)), (ka, .inl (cA, 66, .inl kp)), (da, .inl (cA, 24, .inl dr))]) (wr := []) (wf := fun (u : (Int32)) => [(mo, .inr (6, [.ref fa, .ref ka, .int on, .int rn, .int lf, .int wt, .int nv, .int nl, .int nh, .int nc, .int cm, .ref da, .int dn, .int u])), (fa, .inl (cA, 66, .inl fl)), (ka, .inl (cA, 66, .inl kp)), (da, .inl (cA, 24, .inl dr))]) (wn := fun (u : (Int32)) => [(mo, .inr (6, [.ref fa, .ref ka, .int on, .int rn, .int lf, .int wt, .int nv, .int nl, .int nh, .int nc, .int cm, .ref da, .int dn, .int u])), (fa, .inl (cA, 66, .inl fl)), (ka, .inl (cA, 66, .inl kp)), (da, .inl (cA, 24, .inl dr))]) hP hD hS hA [0, 1, 2, 3] [] [0, 1, 2, 3] rfl rfl (by decide) (by decide) (fun u => rfl) (by decide) (va_runV (As := [.int (F_X6_in p0 0 255), .int 0]) (rest := []) ⟨hx, hb, hml, hown, hts⟩ (c_X6_goes l D cA mo fa ka da s.heap.size fl kp on rn lf wt nv nl nh nc cm dr dn la (F_X6_in p0 0 255) 0) (cwV 2 hts gX6_put_X6_goes rfl rfl rfl (by decide +kernel) ⟨Nat.le_of_ble_eq_true rfl, Nat.le_of_ble_eq_true rfl⟩) (bx_pv (ci := 6) (q0 := 0) hK hG (hP.sub (ws' := [(mo, .inr (6, [.ref fa, .ref ka, .int on, .int rn, .int lf, .int wt, .int nv, .int nl, .int nh, .int nc, .int cm, .ref da, .int dn, .int la])), (fa, .inl (cA, 66, .inl fl)), (ka, .inl (cA, 66, .inl kp)), (da, .inl (cA, 24, .inl dr))]) [0, 1, 2, 3] rfl) (hD.sub (ws' := [(mo, .inr (6, [.ref fa, .ref ka, .int on, .int rn, .int lf, .int wt, .int nv, .int nl, .int nh, .int nc, .int cm, .ref da, .int dn, .int la])), (fa, .inl (cA, 66, .inl fl)), (ka, .inl (cA, 66, .inl kp)), (da, .inl (cA, 24, .inl dr))]) [0, 1, 2, 3] (by decide) rfl) rfl rfl) rfl rfl hl.1 rfl (lv_room (Nat.le_of_ble_eq_true rfl)) dX6_put_32 ⟨Nat.zero_le _, Nat.zero_le _⟩) (fun r_14 u_13 H locs h_12 hP hD hS => ?_)
      obtain ⟨h_12, b_16⟩ := h_12
      have hP : va_P D vwCl [(mo, .inr (6, [.ref fa, .ref ka, .int on, .int rn, .int lf, .int wt, .int nv, .int nl, .int nh, .int nc, .int cm, .ref da, .int dn, .int u_13])), (fa, .inl (cA, 66, .inl fl)), (ka, .inl (cA, 66, .inl kp)), (da, .inl (cA, 24, .inl dr))] H := hP
      have hD : va_D A [(mo, .inr (6, [.ref fa, .ref ka, .int on, .int rn, .int lf, .int wt, .int nv, .int nl, .int nh, .int nc, .int cm, .ref da, .int dn, .int u_13])), (fa, .inl (cA, 66, .inl fl)), (ka, .inl (cA, 66, .inl kp)), (da, .inl (cA, 24, .inl dr))] := hD
      obtain ⟨rfl, h_12v⟩ := goes_0 h_12
      refine lv_if_eq (tgt := 50) hx hb dX6_put_35 (by decide) (fun c_17 => ?_) (fun c_17 => ?_)
      · skip
        refine lv_iconst (v := 0) hx hb dX6_put_50 (by decide) ?_
        exact W.zret (v := 0) hx hb hr rfl (fun t ht hW => ⟨⟨0, (fl, on, rn, lf, wt, cm, u_13), rfl, ⟨(by simp only [F_X6_put, if_neg c_4, if_pos c_11, if_pos c_17, ← h_12]), (by decide)⟩, ⟨by rw [ht]; exact hP, hD⟩⟩, hS.F ht⟩) hS.2.2 dX6_put_51
      · skip
        exact absurd (by decide) c_17
    · skip
      refine lv_iconst (v := 1) hx hb dX6_put_27 (by decide) ?_
      refine lv_goto (tgt := 32) hx hb dX6_put_28 (by decide) ?_
      refine bx_wi (wc := [(mo, .inr (6, [.ref fa, .ref ka, .int on, .int rn, .int lf, .int wt, .int nv, .int nl, .int nh, .int nc, .int cm, .ref da, .int dn, .int la])), (fa, .inl (cA, 66, .inl fl)), (ka, .inl (cA, 66, .inl kp)), (da, .inl (cA, 24, .inl dr))]) (wr := []) (wf := fun (u : (Int32)) => [(mo, .inr (6, [.ref fa, .ref ka, .int on, .int rn, .int lf, .int wt, .int nv, .int nl, .int nh, .int nc, .int cm, .ref da, .int dn, .int u])), (fa, .inl (cA, 66, .inl fl)), (ka, .inl (cA, 66, .inl kp)), (da, .inl (cA, 24, .inl dr))]) (wn := fun (u : (Int32)) => [(mo, .inr (6, [.ref fa, .ref ka, .int on, .int rn, .int lf, .int wt, .int nv, .int nl, .int nh, .int nc, .int cm, .ref da, .int dn, .int u])), (fa, .inl (cA, 66, .inl fl)), (ka, .inl (cA, 66, .inl kp)), (da, .inl (cA, 24, .inl dr))]) hP hD hS hA [0, 1, 2, 3] [] [0, 1, 2, 3] rfl rfl (by decide) (by decide) (fun u => rfl) (by decide) (va_runV (As := [.int (F_X6_in p0 0 255), .int 1]) (rest := []) ⟨hx, hb, hml, hown, hts⟩ (c_X6_goes l D cA mo fa ka da s.heap.size fl kp on rn lf wt nv nl nh nc cm dr dn la (F_X6_in p0 0 255) 1) (cwV 2 hts gX6_put_X6_goes rfl rfl rfl (by decide +kernel) ⟨Nat.le_of_ble_eq_true rfl, Nat.le_of_ble_eq_true rfl⟩) (bx_pv (ci := 6) (q0 := 0) hK hG (hP.sub (ws' := [(mo, .inr (6, [.ref fa, .ref ka, .int on, .int rn, .int lf, .int wt, .int nv, .int nl, .int nh, .int nc, .int cm, .ref da, .int dn, .int la])), (fa, .inl (cA, 66, .inl fl)), (ka, .inl (cA, 66, .inl kp)), (da, .inl (cA, 24, .inl dr))]) [0, 1, 2, 3] rfl) (hD.sub (ws' := [(mo, .inr (6, [.ref fa, .ref ka, .int on, .int rn, .int lf, .int wt, .int nv, .int nl, .int nh, .int nc, .int cm, .ref da, .int dn, .int la])), (fa, .inl (cA, 66, .inl fl)), (ka, .inl (cA, 66, .inl kp)), (da, .inl (cA, 24, .inl dr))]) [0, 1, 2, 3] (by decide) rfl) rfl rfl) rfl rfl hl.1 rfl (lv_room (Nat.le_of_ble_eq_true rfl)) dX6_put_32 ⟨Nat.zero_le _, Nat.zero_le _⟩) (fun r_20 u_19 H locs h_18 hP hD hS => ?_)
      obtain ⟨h_18, b_22⟩ := h_18
      have hP : va_P D vwCl [(mo, .inr (6, [.ref fa, .ref ka, .int on, .int rn, .int lf, .int wt, .int nv, .int nl, .int nh, .int nc, .int cm, .ref da, .int dn, .int u_19])), (fa, .inl (cA, 66, .inl fl)), (ka, .inl (cA, 66, .inl kp)), (da, .inl (cA, 24, .inl dr))] H := hP
      have hD : va_D A [(mo, .inr (6, [.ref fa, .ref ka, .int on, .int rn, .int lf, .int wt, .int nv, .int nl, .int nh, .int nc, .int cm, .ref da, .int dn, .int u_19])), (fa, .inl (cA, 66, .inl fl)), (ka, .inl (cA, 66, .inl kp)), (da, .inl (cA, 24, .inl dr))] := hD
      refine lv_if_eq (tgt := 50) hx hb dX6_put_35 (by decide) (fun c_23 => ?_) (fun c_23 => ?_)
      · skip
        refine lv_iconst (v := 0) hx hb dX6_put_50 (by decide) ?_
        exact W.zret (v := 0) hx hb hr rfl (fun t ht hW => ⟨⟨0, (fl, on, rn, lf, wt, cm, u_19), rfl, ⟨(by simp only [F_X6_put, if_neg c_4, if_neg c_11, if_pos c_23, ← h_18]), (by decide)⟩, ⟨by rw [ht]; exact hP, hD⟩⟩, hS.F ht⟩) hS.2.2 dX6_put_51
      · skip
        refine lv_aload_n hx hb dX6_put_38 rfl (lv_at hl 0 rfl) ?_
        refine lv_iload_n hx hb dX6_put_39 rfl (lv_at hl 1 rfl) ?_
        refine bx_wi (wc := [(mo, .inr (6, [.ref fa, .ref ka, .int on, .int rn, .int lf, .int wt, .int nv, .int nl, .int nh, .int nc, .int cm, .ref da, .int dn, .int u_19])), (fa, .inl (cA, 66, .inl fl)), (ka, .inl (cA, 66, .inl kp)), (da, .inl (cA, 24, .inl dr))]) (wr := []) (wf := fun (u : (Nat → Int32) × (Int32) × (Int32) × (Int32) × (Int32) × (Int32)) => [(mo, .inr (6, [.ref fa, .ref ka, .int u.2.1, .int u.2.2.1, .int u.2.2.2.1, .int u.2.2.2.2.1, .int nv, .int nl, .int nh, .int nc, .int u.2.2.2.2.2, .ref da, .int dn, .int u_19])), (fa, .inl (cA, 66, .inl u.1)), (ka, .inl (cA, 66, .inl kp)), (da, .inl (cA, 24, .inl dr))]) (wn := fun (u : (Nat → Int32) × (Int32) × (Int32) × (Int32) × (Int32) × (Int32)) => [(mo, .inr (6, [.ref fa, .ref ka, .int u.2.1, .int u.2.2.1, .int u.2.2.2.1, .int u.2.2.2.2.1, .int nv, .int nl, .int nh, .int nc, .int u.2.2.2.2.2, .ref da, .int dn, .int u_19])), (fa, .inl (cA, 66, .inl u.1)), (ka, .inl (cA, 66, .inl kp)), (da, .inl (cA, 24, .inl dr))]) hP hD hS hA [0, 1, 2, 3] [] [0, 1, 2, 3] rfl rfl (by decide) (by decide) (fun u => rfl) (by decide) (va_runV (As := [.int p0]) (rest := []) ⟨hx, hb, hml, hown, hts⟩ (c_X6_comes l D cA mo fa ka da H.size fl kp on rn lf wt nv nl nh nc cm dr dn u_19 p0 ((hcf.resolve_left c_4).1) (in_lt (Int32.le_iff_toInt_le.mp (Int32.not_lt.mp c_4)) (Int32.not_le.mp c_11) (hcf.resolve_left c_4).2)) (cwV 1 hts gX6_put_X6_comes rfl rfl rfl (by decide +kernel) ⟨Nat.le_of_ble_eq_true rfl, Nat.le_of_ble_eq_true rfl⟩) (bx_pv (ci := 6) (q0 := 0) hK hG (hP.sub (ws' := [(mo, .inr (6, [.ref fa, .ref ka, .int on, .int rn, .int lf, .int wt, .int nv, .int nl, .int nh, .int nc, .int cm, .ref da, .int dn, .int u_19])), (fa, .inl (cA, 66, .inl fl)), (ka, .inl (cA, 66, .inl kp)), (da, .inl (cA, 24, .inl dr))]) [0, 1, 2, 3] rfl) (hD.sub (ws' := [(mo, .inr (6, [.ref fa, .ref ka, .int on, .int rn, .int lf, .int wt, .int nv, .int nl, .int nh, .int nc, .int cm, .ref da, .int dn, .int u_19])), (fa, .inl (cA, 66, .inl fl)), (ka, .inl (cA, 66, .inl kp)), (da, .inl (cA, 24, .inl dr))]) [0, 1, 2, 3] (by decide) rfl) rfl rfl) rfl rfl hl.1 rfl (lv_room (Nat.le_of_ble_eq_true rfl)) dX6_put_40 ⟨Nat.zero_le _, Nat.zero_le _⟩) (fun r_26 u_25 H locs h_24 hP hD hS => ?_)
        obtain ⟨fl27, on28, rn29, lf30, wt31, cm32⟩ := u_25
        obtain ⟨h_24, b_33⟩ := h_24
        have hP : va_P D vwCl [(mo, .inr (6, [.ref fa, .ref ka, .int on28, .int rn29, .int lf30, .int wt31, .int nv, .int nl, .int nh, .int nc, .int cm32, .ref da, .int dn, .int u_19])), (fa, .inl (cA, 66, .inl fl27)), (ka, .inl (cA, 66, .inl kp)), (da, .inl (cA, 24, .inl dr))] H := hP
        have hD : va_D A [(mo, .inr (6, [.ref fa, .ref ka, .int on28, .int rn29, .int lf30, .int wt31, .int nv, .int nl, .int nh, .int nc, .int cm32, .ref da, .int dn, .int u_19])), (fa, .inl (cA, 66, .inl fl27)), (ka, .inl (cA, 66, .inl kp)), (da, .inl (cA, 24, .inl dr))] := hD
        refine lv_if_eq (tgt := 50) hx hb dX6_put_43 (by decide) (fun c_34 => ?_) (fun c_34 => ?_)
        · skip
          refine lv_iconst (v := 0) hx hb dX6_put_50 (by decide) ?_
          exact W.zret (v := 0) hx hb hr rfl (fun t ht hW => ⟨⟨0, (fl27, on28, rn29, lf30, wt31, cm32, u_19), rfl, ⟨(by simp only [F_X6_put, if_neg c_4, if_neg c_11, if_neg c_23, if_pos c_34, ← h_18, ← h_24]), (by decide)⟩, ⟨by rw [ht]; exact hP, hD⟩⟩, hS.F ht⟩) hS.2.2 dX6_put_51
        · skip
          refine lv_iconst (v := 1) hx hb dX6_put_46 (by decide) ?_
          refine lv_goto (tgt := 51) hx hb dX6_put_47 (by decide) ?_
          exact W.zret (v := 1) hx hb hr rfl (fun t ht hW => ⟨⟨1, (fl27, on28, rn29, lf30, wt31, cm32, u_19), rfl, ⟨(by simp only [F_X6_put, if_neg c_4, if_neg c_11, if_neg c_23, if_neg c_34, ← h_18, ← h_24]), (by decide)⟩, ⟨by rw [ht]; exact hP, hD⟩⟩, hS.F ht⟩) hS.2.2 dX6_put_51
def F_X6_finish (fl : Nat → Int32) (on : Int32) (rn : Int32) (lf : Int32) (wt : Int32) (nv : Int32) (nl : Int32) (nh : Int32) (nc : Int32) (cm : Int32) (p0 : Int32) : Int32 × (Nat → Int32) × (Int32) × (Int32) × (Int32) × (Int32) × (Int32) × (Int32) := (match (F_X6_goes (F_X6_in p0 1 3) (F_X6_canFinish fl rn nl nh cm)) with | (r_9, u_8) => (if r_9 = 0 then (0, fl, on, rn, lf, wt, cm, u_8) else (match (F_X6_finishes fl on rn lf wt nv nl nh nc cm p0) with | (r_15, fl16, on17, rn18, lf19, wt20, cm21) => (r_15, fl16, on17, rn18, lf19, wt20, (-1), u_8))))
set_option maxHeartbeats 4000000 in
set_option maxRecDepth 100000 in
theorem c_X6_finish (l : Launch) (D : va_G) (cA : ClassId) (mo fa ka da : Nat) (sz : Nat) (fl : Nat → Int32) (kp : Nat → Int32) (on : Int32) (rn : Int32) (lf : Int32) (wt : Int32) (nv : Int32) (nl : Int32) (nh : Int32) (nc : Int32) (cm : Int32) (dr : Nat → Int32) (dn : Int32) (la : Int32) (p0 : Int32) (hcf : cm < 0 ∨ (sl rn ∧ nl.toNatClampNeg ≤ 24)) : Met l yX6_finish wsX6_finish ({ frames := 6, cells := 0, slots := 0, locals := 128 }) (va_Pc [.ref mo, .int p0] (bx_pre D [(cA, .int)] (wMo cA mo fa ka da fl kp on rn lf wt nv nl nh nc cm dr dn la) sz)) (va_Qi (fun r u => (r, u) = F_X6_finish fl on rn lf wt nv nl nh nc cm p0 ∧ (r = 0 ∨ r = 1)) (fun u t => bx_at D (wMo cA mo fa ka da u.1 kp u.2.1 u.2.2.1 u.2.2.2.1 u.2.2.2.2.1 nv nl nh nc u.2.2.2.2.2.1 dr dn u.2.2.2.2.2.2) (va_A (wMo cA mo fa ka da fl kp on rn lf wt nv nl nh nc cm dr dn la) sz) t) (va_A (wMo cA mo fa ka da fl kp on rn lf wt nv nl nh nc cm dr dn la) sz)) 0 0 (va_A (wMo cA mo fa ka da fl kp on rn lf wt nv nl nh nc cm dr dn la) sz) := by
  refine Met.ofW (cc := cX6_finish) (maxL := 3) (ret := (some .boolean)) (by decide) rfl ?_
  intro p e s m args below meth c s₁ B hml hv
  obtain ⟨rfl, hsz, hP, hK, hD0, hG⟩ := hv
  have hx := B.exec
  have hb := B.bytes
  have hr := B.returns
  have hts := atoms_spec (ws := wsX6_finish) B.pre
  have hown : s.vm.findClass RX6 = some m.cls := findClass_of_methodNamed B.named
  have hlocks := B.notSynchronized
  subst hsz
  have hD := hD0.self (sz := s.heap.size)
  generalize hAe : va_A (wMo cA mo fa ka da fl kp on rn lf wt nv nl nh nc cm dr dn la) s.heap.size = A at hD ⊢
  have hA : ∀ q : Nat, s.heap.size ≤ q → A q := fun q h => by rw [← hAe]; exact Or.inr h
  have hS : va_S A s.heap s.heap [] := va_S.rf
  have hD : va_D A [(mo, .inr (6, [.ref fa, .ref ka, .int on, .int rn, .int lf, .int wt, .int nv, .int nl, .int nh, .int nc, .int cm, .ref da, .int dn, .int la])), (fa, .inl (cA, 66, .inl fl)), (ka, .inl (cA, 66, .inl kp)), (da, .inl (cA, 24, .inl dr))] := hD
  have hP : va_P D vwCl [(mo, .inr (6, [.ref fa, .ref ka, .int on, .int rn, .int lf, .int wt, .int nv, .int nl, .int nh, .int nc, .int cm, .ref da, .int dn, .int la])), (fa, .inl (cA, 66, .inl fl)), (ka, .inl (cA, 66, .inl kp)), (da, .inl (cA, 24, .inl dr))] s.heap := hP
  have hl := lv_entry ([.ref mo, .int p0]) (n := 3) (Nat.le_of_ble_eq_true rfl)
  rw [lg_entry_eq]
  generalize (lg_sl ([.ref mo, .int p0]) ++ List.replicate (3 - (lg_sl ([.ref mo, .int p0])).length) Slot.unset).toArray = ls at hl ⊢
  have hl : lv_has ls 3 [(0, .ref mo), (1, .int p0)] := hl
  have hi6 : ∀ w ∈ u_ws RX6 TX6 14, w ∈ wsX6_finish := by decide +kernel
  refine lv_aload_n hx hb dX6_finish_0 rfl (lv_at hl 0 rfl) ?_
  refine lv_iload_n hx hb dX6_finish_1 rfl (lv_at hl 1 rfl) ?_
  refine lv_iconst (v := 1) hx hb dX6_finish_2 (by decide) ?_
  refine lv_iconst (v := 3) hx hb dX6_finish_3 (by decide) ?_
  refine bx_ri (va_runS (As := [.int p0, .int 1, .int 3]) (rest := [.ref mo]) ⟨hx, hb, hml, hown, hts⟩ (c_X6_in l D p0 1 3) (va_cwS 3 hts gX6_finish_X6_in rfl rfl rfl (by decide +kernel) ⟨Nat.le_of_ble_eq_true rfl, Nat.le_of_ble_eq_true rfl⟩) (bx_psr (hK.sub (tys' := []) [] rfl) hG (hP.sub (ws' := []) [] rfl)) rfl rfl hl.1 rfl (lv_room (Nat.le_of_ble_eq_true rfl)) dX6_finish_4 ⟨Nat.zero_le _, Nat.zero_le _⟩) (fun r_1 h_2 => ?_)
  obtain ⟨h_2, b_3⟩ := h_2
  have h_2 := h_2.symm
  subst h_2
  refine lv_aload_n hx hb dX6_finish_7 rfl (lv_at hl 0 rfl) ?_
  refine bx_ri (va_runV (As := []) (rest := [.int (F_X6_in p0 1 3), .ref mo]) ⟨hx, hb, hml, hown, hts⟩ (c_X6_canFinish l D cA mo fa ka da fl kp on rn lf wt nv nl nh nc cm dr dn la hcf) (cwV 0 hts gX6_finish_X6_canFinish rfl rfl rfl (by decide +kernel) ⟨Nat.le_of_ble_eq_true rfl, Nat.le_of_ble_eq_true rfl⟩) (bx_pvr (ci := 6) (q0 := 0) hK hG (hP.sub (ws' := [(mo, .inr (6, [.ref fa, .ref ka, .int on, .int rn, .int lf, .int wt, .int nv, .int nl, .int nh, .int nc, .int cm, .ref da, .int dn, .int la])), (fa, .inl (cA, 66, .inl fl)), (ka, .inl (cA, 66, .inl kp)), (da, .inl (cA, 24, .inl dr))]) [0, 1, 2, 3] rfl) rfl rfl) rfl rfl hl.1 rfl (lv_room (Nat.le_of_ble_eq_true rfl)) dX6_finish_8 ⟨Nat.zero_le _, Nat.zero_le _⟩) (fun r_4 h_5 => ?_)
  obtain ⟨h_5, b_6⟩ := h_5
  have h_5 := h_5.symm
  subst h_5
  refine bx_wi (wc := [(mo, .inr (6, [.ref fa, .ref ka, .int on, .int rn, .int lf, .int wt, .int nv, .int nl, .int nh, .int nc, .int cm, .ref da, .int dn, .int la])), (fa, .inl (cA, 66, .inl fl)), (ka, .inl (cA, 66, .inl kp)), (da, .inl (cA, 24, .inl dr))]) (wr := []) (wf := fun (u : (Int32)) => [(mo, .inr (6, [.ref fa, .ref ka, .int on, .int rn, .int lf, .int wt, .int nv, .int nl, .int nh, .int nc, .int cm, .ref da, .int dn, .int u])), (fa, .inl (cA, 66, .inl fl)), (ka, .inl (cA, 66, .inl kp)), (da, .inl (cA, 24, .inl dr))]) (wn := fun (u : (Int32)) => [(mo, .inr (6, [.ref fa, .ref ka, .int on, .int rn, .int lf, .int wt, .int nv, .int nl, .int nh, .int nc, .int cm, .ref da, .int dn, .int u])), (fa, .inl (cA, 66, .inl fl)), (ka, .inl (cA, 66, .inl kp)), (da, .inl (cA, 24, .inl dr))]) hP hD hS hA [0, 1, 2, 3] [] [0, 1, 2, 3] rfl rfl (by decide) (by decide) (fun u => rfl) (by decide) (va_runV (As := [.int (F_X6_in p0 1 3), .int (F_X6_canFinish fl rn nl nh cm)]) (rest := []) ⟨hx, hb, hml, hown, hts⟩ (c_X6_goes l D cA mo fa ka da s.heap.size fl kp on rn lf wt nv nl nh nc cm dr dn la (F_X6_in p0 1 3) (F_X6_canFinish fl rn nl nh cm)) (cwV 2 hts gX6_finish_X6_goes rfl rfl rfl (by decide +kernel) ⟨Nat.le_of_ble_eq_true rfl, Nat.le_of_ble_eq_true rfl⟩) (bx_pv (ci := 6) (q0 := 0) hK hG (hP.sub (ws' := [(mo, .inr (6, [.ref fa, .ref ka, .int on, .int rn, .int lf, .int wt, .int nv, .int nl, .int nh, .int nc, .int cm, .ref da, .int dn, .int la])), (fa, .inl (cA, 66, .inl fl)), (ka, .inl (cA, 66, .inl kp)), (da, .inl (cA, 24, .inl dr))]) [0, 1, 2, 3] rfl) (hD.sub (ws' := [(mo, .inr (6, [.ref fa, .ref ka, .int on, .int rn, .int lf, .int wt, .int nv, .int nl, .int nh, .int nc, .int cm, .ref da, .int dn, .int la])), (fa, .inl (cA, 66, .inl fl)), (ka, .inl (cA, 66, .inl kp)), (da, .inl (cA, 24, .inl dr))]) [0, 1, 2, 3] (by decide) rfl) rfl rfl) rfl rfl hl.1 rfl (lv_room (Nat.le_of_ble_eq_true rfl)) dX6_finish_11 ⟨Nat.zero_le _, Nat.zero_le _⟩) (fun r_9 u_8 H locs h_7 hP hD hS => ?_)
  obtain ⟨h_7, b_11⟩ := h_7
  have hP : va_P D vwCl [(mo, .inr (6, [.ref fa, .ref ka, .int on, .int rn, .int lf, .int wt, .int nv, .int nl, .int nh, .int nc, .int cm, .ref da, .int dn, .int u_8])), (fa, .inl (cA, 66, .inl fl)), (ka, .inl (cA, 66, .inl kp)), (da, .inl (cA, 24, .inl dr))] H := hP
  have hD : va_D A [(mo, .inr (6, [.ref fa, .ref ka, .int on, .int rn, .int lf, .int wt, .int nv, .int nl, .int nh, .int nc, .int cm, .ref da, .int dn, .int u_8])), (fa, .inl (cA, 66, .inl fl)), (ka, .inl (cA, 66, .inl kp)), (da, .inl (cA, 24, .inl dr))] := hD
  refine lv_if_ne (tgt := 19) hx hb dX6_finish_14 (by decide) (fun c_12 => ?_) (fun c_12 => ?_)
  · skip
    refine lv_aload_n hx hb dX6_finish_19 rfl (lv_at hl 0 rfl) ?_
    refine lv_iload_n hx hb dX6_finish_20 rfl (lv_at hl 1 rfl) ?_
    refine bx_wi (wc := [(mo, .inr (6, [.ref fa, .ref ka, .int on, .int rn, .int lf, .int wt, .int nv, .int nl, .int nh, .int nc, .int cm, .ref da, .int dn, .int u_8])), (fa, .inl (cA, 66, .inl fl)), (ka, .inl (cA, 66, .inl kp)), (da, .inl (cA, 24, .inl dr))]) (wr := []) (wf := fun (u : (Nat → Int32) × (Int32) × (Int32) × (Int32) × (Int32) × (Int32)) => [(mo, .inr (6, [.ref fa, .ref ka, .int u.2.1, .int u.2.2.1, .int u.2.2.2.1, .int u.2.2.2.2.1, .int nv, .int nl, .int nh, .int nc, .int u.2.2.2.2.2, .ref da, .int dn, .int u_8])), (fa, .inl (cA, 66, .inl u.1)), (ka, .inl (cA, 66, .inl kp)), (da, .inl (cA, 24, .inl dr))]) (wn := fun (u : (Nat → Int32) × (Int32) × (Int32) × (Int32) × (Int32) × (Int32)) => [(mo, .inr (6, [.ref fa, .ref ka, .int u.2.1, .int u.2.2.1, .int u.2.2.2.1, .int u.2.2.2.2.1, .int nv, .int nl, .int nh, .int nc, .int u.2.2.2.2.2, .ref da, .int dn, .int u_8])), (fa, .inl (cA, 66, .inl u.1)), (ka, .inl (cA, 66, .inl kp)), (da, .inl (cA, 24, .inl dr))]) hP hD hS hA [0, 1, 2, 3] [] [0, 1, 2, 3] rfl rfl (by decide) (by decide) (fun u => rfl) (by decide) (va_runV (As := [.int p0]) (rest := []) ⟨hx, hb, hml, hown, hts⟩ (c_X6_finishes l D cA mo fa ka da H.size fl kp on rn lf wt nv nl nh nc cm dr dn u_8 p0 ((hcf.resolve_left (canFinish_nz (goes_nz h_7 c_12).2)).1)) (cwV 1 hts gX6_finish_X6_finishes rfl rfl rfl (by decide +kernel) ⟨Nat.le_of_ble_eq_true rfl, Nat.le_of_ble_eq_true rfl⟩) (bx_pv (ci := 6) (q0 := 0) hK hG (hP.sub (ws' := [(mo, .inr (6, [.ref fa, .ref ka, .int on, .int rn, .int lf, .int wt, .int nv, .int nl, .int nh, .int nc, .int cm, .ref da, .int dn, .int u_8])), (fa, .inl (cA, 66, .inl fl)), (ka, .inl (cA, 66, .inl kp)), (da, .inl (cA, 24, .inl dr))]) [0, 1, 2, 3] rfl) (hD.sub (ws' := [(mo, .inr (6, [.ref fa, .ref ka, .int on, .int rn, .int lf, .int wt, .int nv, .int nl, .int nh, .int nc, .int cm, .ref da, .int dn, .int u_8])), (fa, .inl (cA, 66, .inl fl)), (ka, .inl (cA, 66, .inl kp)), (da, .inl (cA, 24, .inl dr))]) [0, 1, 2, 3] (by decide) rfl) rfl rfl) rfl rfl hl.1 rfl (lv_room (Nat.le_of_ble_eq_true rfl)) dX6_finish_21 ⟨Nat.zero_le _, Nat.zero_le _⟩) (fun r_15 u_14 H locs h_13 hP hD hS => ?_)
    obtain ⟨fl16, on17, rn18, lf19, wt20, cm21⟩ := u_14
    obtain ⟨h_13, b_22⟩ := h_13
    have hP : va_P D vwCl [(mo, .inr (6, [.ref fa, .ref ka, .int on17, .int rn18, .int lf19, .int wt20, .int nv, .int nl, .int nh, .int nc, .int cm21, .ref da, .int dn, .int u_8])), (fa, .inl (cA, 66, .inl fl16)), (ka, .inl (cA, 66, .inl kp)), (da, .inl (cA, 24, .inl dr))] H := hP
    have hD : va_D A [(mo, .inr (6, [.ref fa, .ref ka, .int on17, .int rn18, .int lf19, .int wt20, .int nv, .int nl, .int nh, .int nc, .int cm21, .ref da, .int dn, .int u_8])), (fa, .inl (cA, 66, .inl fl16)), (ka, .inl (cA, 66, .inl kp)), (da, .inl (cA, 24, .inl dr))] := hD
    refine lv_istore_n (lv' := [(2, .int r_15), (0, .ref mo), (1, .int p0)]) hx hb dX6_finish_24 rfl hl (by decide) rfl (fun ls hl => ?_)
    refine lv_aload_n hx hb dX6_finish_25 rfl (lv_at hl 1 rfl) ?_
    refine lv_iconst (v := (-1)) hx hb dX6_finish_26 (by decide) ?_
    refine va_put (D := D) (ci := 6) (v := .int (-1)) (ty := .int) (C := RX6) (T := TX6) (N := 14) hx hb hts hi6 tyX6 tyX6_ok nmX6 hown hK hP hD hS 0 rfl rfl 10 (by decide) (hts (.fieldLink RX6 23 "BootstayModel" "come" "I") (by decide +kernel)) (fun _ h9 => h9) rfl (by decide +kernel) rfl rfl (Nat.le_of_ble_eq_true rfl) dX6_finish_27 (fun H locs hP hD hS => ?_)
    have hP : va_P D vwCl [(mo, .inr (6, [.ref fa, .ref ka, .int on17, .int rn18, .int lf19, .int wt20, .int nv, .int nl, .int nh, .int nc, .int (-1), .ref da, .int dn, .int u_8])), (fa, .inl (cA, 66, .inl fl16)), (ka, .inl (cA, 66, .inl kp)), (da, .inl (cA, 24, .inl dr))] H := hP
    have hD : va_D A [(mo, .inr (6, [.ref fa, .ref ka, .int on17, .int rn18, .int lf19, .int wt20, .int nv, .int nl, .int nh, .int nc, .int (-1), .ref da, .int dn, .int u_8])), (fa, .inl (cA, 66, .inl fl16)), (ka, .inl (cA, 66, .inl kp)), (da, .inl (cA, 24, .inl dr))] := hD
    refine lv_iload_n hx hb dX6_finish_30 rfl (lv_at hl 0 rfl) ?_
    exact W.zret (v := r_15) hx hb hr (bx_nb b_22) (fun t ht hW => ⟨⟨r_15, (fl16, on17, rn18, lf19, wt20, (-1), u_8), rfl, ⟨(by simp only [F_X6_finish, if_neg c_12, ← h_7, ← h_13]), b_22⟩, ⟨by rw [ht]; exact hP, hD⟩⟩, hS.F ht⟩) hS.2.2 dX6_finish_31
  · skip
    refine lv_iconst (v := 0) hx hb dX6_finish_17 (by decide) ?_
    exact W.zret (v := 0) hx hb hr rfl (fun t ht hW => ⟨⟨0, (fl, on, rn, lf, wt, cm, u_8), rfl, ⟨(by simp only [F_X6_finish, if_pos c_12, ← h_7]), (by decide)⟩, ⟨by rw [ht]; exact hP, hD⟩⟩, hS.F ht⟩) hS.2.2 dX6_finish_18
def F_X6_confirm (fl : Nat → Int32) (on : Int32) (rn : Int32) (lf : Int32) (wt : Int32) (cm : Int32) : Int32 × (Nat → Int32) × (Int32) × (Int32) × (Int32) × (Int32) × (Int32) × (Int32) := (if (F_X6_isTrial fl on rn) = 0 then (0, fl, on, rn, lf, wt, cm, 1) else (if (rd fl ((29 * rn) + 4)) ≤ (F_X6_inForce fl 3) then (match (F_X6_records fl on rn lf wt cm rn (F_X6_inForce fl 3)) with | (r_14, fl15, on16, rn17, lf18, wt19, cm20) => (r_14, fl15, on16, rn17, lf18, wt19, cm20, 0)) else (match (F_X6_records fl on rn lf wt cm rn (rd fl ((29 * rn) + 4))) with | (r_24, fl25, on26, rn27, lf28, wt29, cm30) => (r_24, fl25, on26, rn27, lf28, wt29, cm30, 0))))
set_option maxHeartbeats 4000000 in
set_option maxRecDepth 100000 in
theorem c_X6_confirm (l : Launch) (D : va_G) (cA : ClassId) (mo fa ka da : Nat) (sz : Nat) (fl : Nat → Int32) (kp : Nat → Int32) (on : Int32) (rn : Int32) (lf : Int32) (wt : Int32) (nv : Int32) (nl : Int32) (nh : Int32) (nc : Int32) (cm : Int32) (dr : Nat → Int32) (dn : Int32) (la : Int32) (hon : on = 0 ∨ sl rn) : Met l yX6_confirm wsX6_confirm ({ frames := 6, cells := 0, slots := 0, locals := 125 }) (va_Pc [.ref mo] (bx_pre D [(cA, .int)] (wMo cA mo fa ka da fl kp on rn lf wt nv nl nh nc cm dr dn la) sz)) (va_Qi (fun r u => (r, u) = F_X6_confirm fl on rn lf wt cm ∧ (r = 0 ∨ r = 1)) (fun u t => bx_at D (wMo cA mo fa ka da u.1 kp u.2.1 u.2.2.1 u.2.2.2.1 u.2.2.2.2.1 nv nl nh nc u.2.2.2.2.2.1 dr dn u.2.2.2.2.2.2) (va_A (wMo cA mo fa ka da fl kp on rn lf wt nv nl nh nc cm dr dn la) sz) t) (va_A (wMo cA mo fa ka da fl kp on rn lf wt nv nl nh nc cm dr dn la) sz)) 0 0 (va_A (wMo cA mo fa ka da fl kp on rn lf wt nv nl nh nc cm dr dn la) sz) := by
  refine Met.ofW (cc := cX6_confirm) (maxL := 2) (ret := (some .boolean)) (by decide) rfl ?_
  intro p e s m args below meth c s₁ B hml hv
  obtain ⟨rfl, hsz, hP, hK, hD0, hG⟩ := hv
  have hx := B.exec
  have hb := B.bytes
  have hr := B.returns
  have hts := atoms_spec (ws := wsX6_confirm) B.pre
  have hown : s.vm.findClass RX6 = some m.cls := findClass_of_methodNamed B.named
  have hlocks := B.notSynchronized
  subst hsz
  have hD := hD0.self (sz := s.heap.size)
  generalize hAe : va_A (wMo cA mo fa ka da fl kp on rn lf wt nv nl nh nc cm dr dn la) s.heap.size = A at hD ⊢
  have hA : ∀ q : Nat, s.heap.size ≤ q → A q := fun q h => by rw [← hAe]; exact Or.inr h
  have hS : va_S A s.heap s.heap [] := va_S.rf
  have hD : va_D A [(mo, .inr (6, [.ref fa, .ref ka, .int on, .int rn, .int lf, .int wt, .int nv, .int nl, .int nh, .int nc, .int cm, .ref da, .int dn, .int la])), (fa, .inl (cA, 66, .inl fl)), (ka, .inl (cA, 66, .inl kp)), (da, .inl (cA, 24, .inl dr))] := hD
  have hP : va_P D vwCl [(mo, .inr (6, [.ref fa, .ref ka, .int on, .int rn, .int lf, .int wt, .int nv, .int nl, .int nh, .int nc, .int cm, .ref da, .int dn, .int la])), (fa, .inl (cA, 66, .inl fl)), (ka, .inl (cA, 66, .inl kp)), (da, .inl (cA, 24, .inl dr))] s.heap := hP
  have hl := lv_entry ([.ref mo]) (n := 2) (Nat.le_of_ble_eq_true rfl)
  rw [lg_entry_eq]
  generalize (lg_sl ([.ref mo]) ++ List.replicate (2 - (lg_sl ([.ref mo])).length) Slot.unset).toArray = ls at hl ⊢
  have hl : lv_has ls 2 [(0, .ref mo)] := hl
  have hi6 : ∀ w ∈ u_ws RX6 TX6 14, w ∈ wsX6_confirm := by decide +kernel
  refine lv_aload_n hx hb dX6_confirm_0 rfl (lv_at hl 0 rfl) ?_
  refine lv_aload_n hx hb dX6_confirm_1 rfl (lv_at hl 0 rfl) ?_
  refine bx_ri (va_runV (As := []) (rest := [.ref mo]) ⟨hx, hb, hml, hown, hts⟩ (c_X6_isTrial l D cA mo fa ka da fl kp on rn lf wt nv nl nh nc cm dr dn la) (cwV 0 hts gX6_confirm_X6_isTrial rfl rfl rfl (by decide +kernel) ⟨Nat.le_of_ble_eq_true rfl, Nat.le_of_ble_eq_true rfl⟩) (bx_pvr (ci := 6) (q0 := 0) hK hG (hP.sub (ws' := [(mo, .inr (6, [.ref fa, .ref ka, .int on, .int rn, .int lf, .int wt, .int nv, .int nl, .int nh, .int nc, .int cm, .ref da, .int dn, .int la])), (fa, .inl (cA, 66, .inl fl)), (ka, .inl (cA, 66, .inl kp)), (da, .inl (cA, 24, .inl dr))]) [0, 1, 2, 3] rfl) rfl rfl) rfl rfl hl.1 rfl (lv_room (Nat.le_of_ble_eq_true rfl)) dX6_confirm_2 ⟨Nat.zero_le _, Nat.zero_le _⟩) (fun r_1 h_2 => ?_)
  obtain ⟨h_2, b_3⟩ := h_2
  have h_2 := h_2.symm
  subst h_2
  refine lv_if_eq (tgt := 12) hx hb dX6_confirm_5 (by decide) (fun c_4 => ?_) (fun c_4 => ?_)
  · skip
    refine lv_iconst (v := 1) hx hb dX6_confirm_12 (by decide) ?_
    refine va_put (D := D) (ci := 6) (v := .int 1) (ty := .int) (C := RX6) (T := TX6) (N := 14) hx hb hts hi6 tyX6 tyX6_ok nmX6 hown hK hP hD hS 0 rfl rfl 13 (by decide) (hts (.fieldLink RX6 37 "BootstayModel" "last" "I") (by decide +kernel)) (fun _ h9 => h9) rfl (by decide +kernel) rfl rfl (Nat.le_of_ble_eq_true rfl) dX6_confirm_13 (fun H locs hP hD hS => ?_)
    have hP : va_P D vwCl [(mo, .inr (6, [.ref fa, .ref ka, .int on, .int rn, .int lf, .int wt, .int nv, .int nl, .int nh, .int nc, .int cm, .ref da, .int dn, .int 1])), (fa, .inl (cA, 66, .inl fl)), (ka, .inl (cA, 66, .inl kp)), (da, .inl (cA, 24, .inl dr))] H := hP
    have hD : va_D A [(mo, .inr (6, [.ref fa, .ref ka, .int on, .int rn, .int lf, .int wt, .int nv, .int nl, .int nh, .int nc, .int cm, .ref da, .int dn, .int 1])), (fa, .inl (cA, 66, .inl fl)), (ka, .inl (cA, 66, .inl kp)), (da, .inl (cA, 24, .inl dr))] := hD
    refine lv_aload_n hx hb dX6_confirm_16 rfl (lv_at hl 0 rfl) ?_
    refine va_get (D := D) (ci := 6) (v := .int 1) (C := RX6) (T := TX6) (N := 14) hx hb hts hi6 hown hK hP 0 rfl rfl 13 (by decide) (hts (.fieldLink RX6 37 "BootstayModel" "last" "I") (by decide +kernel)) (fun _ h9 => h9) rfl dX6_confirm_17 ?_
    refine lv_if_le (tgt := 25) hx hb dX6_confirm_20 (by decide) (fun c_5 => ?_) (fun c_5 => ?_)
    · skip
      exact absurd c_5 (by decide)
    · skip
      refine lv_iconst (v := 0) hx hb dX6_confirm_23 (by decide) ?_
      exact W.zret (v := 0) hx hb hr rfl (fun t ht hW => ⟨⟨0, (fl, on, rn, lf, wt, cm, 1), rfl, ⟨(by simp only [F_X6_confirm, if_pos c_4, if_neg c_5]), (by decide)⟩, ⟨by rw [ht]; exact hP, hD⟩⟩, hS.F ht⟩) hS.2.2 dX6_confirm_24
  · skip
    refine lv_iconst (v := 0) hx hb dX6_confirm_8 (by decide) ?_
    refine lv_goto (tgt := 13) hx hb dX6_confirm_9 (by decide) ?_
    refine va_put (D := D) (ci := 6) (v := .int 0) (ty := .int) (C := RX6) (T := TX6) (N := 14) hx hb hts hi6 tyX6 tyX6_ok nmX6 hown hK hP hD hS 0 rfl rfl 13 (by decide) (hts (.fieldLink RX6 37 "BootstayModel" "last" "I") (by decide +kernel)) (fun _ h9 => h9) rfl (by decide +kernel) rfl rfl (Nat.le_of_ble_eq_true rfl) dX6_confirm_13 (fun H locs hP hD hS => ?_)
    have hP : va_P D vwCl [(mo, .inr (6, [.ref fa, .ref ka, .int on, .int rn, .int lf, .int wt, .int nv, .int nl, .int nh, .int nc, .int cm, .ref da, .int dn, .int 0])), (fa, .inl (cA, 66, .inl fl)), (ka, .inl (cA, 66, .inl kp)), (da, .inl (cA, 24, .inl dr))] H := hP
    have hD : va_D A [(mo, .inr (6, [.ref fa, .ref ka, .int on, .int rn, .int lf, .int wt, .int nv, .int nl, .int nh, .int nc, .int cm, .ref da, .int dn, .int 0])), (fa, .inl (cA, 66, .inl fl)), (ka, .inl (cA, 66, .inl kp)), (da, .inl (cA, 24, .inl dr))] := hD
    refine lv_aload_n hx hb dX6_confirm_16 rfl (lv_at hl 0 rfl) ?_
    refine va_get (D := D) (ci := 6) (v := .int 0) (C := RX6) (T := TX6) (N := 14) hx hb hts hi6 hown hK hP 0 rfl rfl 13 (by decide) (hts (.fieldLink RX6 37 "BootstayModel" "last" "I") (by decide +kernel)) (fun _ h9 => h9) rfl dX6_confirm_17 ?_
    refine lv_if_le (tgt := 25) hx hb dX6_confirm_20 (by decide) (fun c_6 => ?_) (fun c_6 => ?_)
    · skip
      refine lv_aload_n hx hb dX6_confirm_25 rfl (lv_at hl 0 rfl) ?_
      refine va_get (D := D) (ci := 6) (v := .ref fa) (C := RX6) (T := TX6) (N := 14) hx hb hts hi6 hown hK hP 0 rfl rfl 0 (by decide) (hts (.fieldLink RX6 7 "BootstayModel" "flash" "[I") (by decide +kernel)) (fun _ h9 => h9) rfl dX6_confirm_26 ?_
      refine lv_bipush (v := 29) hx hb dX6_confirm_29 (by decide) ?_
      refine lv_aload_n hx hb dX6_confirm_31 rfl (lv_at hl 0 rfl) ?_
      refine va_get (D := D) (ci := 6) (v := .int rn) (C := RX6) (T := TX6) (N := 14) hx hb hts hi6 hown hK hP 0 rfl rfl 3 (by decide) (hts (.fieldLink RX6 16 "BootstayModel" "running" "I") (by decide +kernel)) (fun _ h9 => h9) rfl dX6_confirm_32 ?_
      refine lv_imul hx hb dX6_confirm_35 ?_
      refine lv_iconst (v := 4) hx hb dX6_confirm_36 (by decide) ?_
      refine lv_iadd hx hb dX6_confirm_37 ?_
      refine bx_ald (D := D) hx hb hK hP 1 0 rfl rfl (vp_in_iff.mpr (by rcases (hon.resolve_left (trial_on c_4)) with h | h <;> rw [h] <;> decide)) dX6_confirm_38 ?_
      refine lv_istore_n (lv' := [(1, .int (rd fl ((29 * rn) + 4))), (0, .ref mo)]) hx hb dX6_confirm_39 rfl hl (by decide) rfl (fun ls hl => ?_)
      refine lv_aload_n hx hb dX6_confirm_40 rfl (lv_at hl 1 rfl) ?_
      refine lv_aload_n hx hb dX6_confirm_41 rfl (lv_at hl 1 rfl) ?_
      refine va_get (D := D) (ci := 6) (v := .int rn) (C := RX6) (T := TX6) (N := 14) hx hb hts hi6 hown hK hP 0 rfl rfl 3 (by decide) (hts (.fieldLink RX6 16 "BootstayModel" "running" "I") (by decide +kernel)) (fun _ h9 => h9) rfl dX6_confirm_42 ?_
      refine lv_iload_n hx hb dX6_confirm_45 rfl (lv_at hl 0 rfl) ?_
      refine lv_aload_n hx hb dX6_confirm_46 rfl (lv_at hl 1 rfl) ?_
      refine lv_iconst (v := 3) hx hb dX6_confirm_47 (by decide) ?_
      refine bx_ri (va_runV (As := [.int 3]) (rest := [.int (rd fl ((29 * rn) + 4)), .int rn, .ref mo]) ⟨hx, hb, hml, hown, hts⟩ (c_X6_inForce l D cA mo fa ka da fl kp on rn lf wt nv nl nh nc cm dr dn 0 3 (by decide)) (cwV 1 hts gX6_confirm_X6_inForce rfl rfl rfl (by decide +kernel) ⟨Nat.le_of_ble_eq_true rfl, Nat.le_of_ble_eq_true rfl⟩) (bx_pvr (ci := 6) (q0 := 0) hK hG (hP.sub (ws' := [(mo, .inr (6, [.ref fa, .ref ka, .int on, .int rn, .int lf, .int wt, .int nv, .int nl, .int nh, .int nc, .int cm, .ref da, .int dn, .int 0])), (fa, .inl (cA, 66, .inl fl)), (ka, .inl (cA, 66, .inl kp)), (da, .inl (cA, 24, .inl dr))]) [0, 1, 2, 3] rfl) rfl rfl) rfl rfl hl.1 rfl (lv_room (Nat.le_of_ble_eq_true rfl)) dX6_confirm_48 ⟨Nat.zero_le _, Nat.zero_le _⟩) (fun r_7 h_8 => ?_)
      have h_8 := h_8.symm
      subst h_8
      refine lv_icmp_le (tgt := 58) hx hb dX6_confirm_51 (by decide) (fun c_9 => ?_) (fun c_9 => ?_)
      · skip
        refine lv_aload_n hx hb dX6_confirm_58 rfl (lv_at hl 1 rfl) ?_
        refine lv_iconst (v := 3) hx hb dX6_confirm_59 (by decide) ?_
        refine bx_ri (va_runV (As := [.int 3]) (rest := [.int rn, .ref mo]) ⟨hx, hb, hml, hown, hts⟩ (c_X6_inForce l D cA mo fa ka da fl kp on rn lf wt nv nl nh nc cm dr dn 0 3 (by decide)) (cwV 1 hts gX6_confirm_X6_inForce rfl rfl rfl (by decide +kernel) ⟨Nat.le_of_ble_eq_true rfl, Nat.le_of_ble_eq_true rfl⟩) (bx_pvr (ci := 6) (q0 := 0) hK hG (hP.sub (ws' := [(mo, .inr (6, [.ref fa, .ref ka, .int on, .int rn, .int lf, .int wt, .int nv, .int nl, .int nh, .int nc, .int cm, .ref da, .int dn, .int 0])), (fa, .inl (cA, 66, .inl fl)), (ka, .inl (cA, 66, .inl kp)), (da, .inl (cA, 24, .inl dr))]) [0, 1, 2, 3] rfl) rfl rfl) rfl rfl hl.1 rfl (lv_room (Nat.le_of_ble_eq_true rfl)) dX6_confirm_60 ⟨Nat.zero_le _, Nat.zero_le _⟩) (fun r_10 h_11 => ?_)
        have h_11 := h_11.symm
        subst h_11
        refine bx_wi (wc := [(mo, .inr (6, [.ref fa, .ref ka, .int on, .int rn, .int lf, .int wt, .int nv, .int nl, .int nh, .int nc, .int cm, .ref da, .int dn, .int 0])), (fa, .inl (cA, 66, .inl fl)), (ka, .inl (cA, 66, .inl kp)), (da, .inl (cA, 24, .inl dr))]) (wr := []) (wf := fun (u : (Nat → Int32) × (Int32) × (Int32) × (Int32) × (Int32) × (Int32)) => [(mo, .inr (6, [.ref fa, .ref ka, .int u.2.1, .int u.2.2.1, .int u.2.2.2.1, .int u.2.2.2.2.1, .int nv, .int nl, .int nh, .int nc, .int u.2.2.2.2.2, .ref da, .int dn, .int 0])), (fa, .inl (cA, 66, .inl u.1)), (ka, .inl (cA, 66, .inl kp)), (da, .inl (cA, 24, .inl dr))]) (wn := fun (u : (Nat → Int32) × (Int32) × (Int32) × (Int32) × (Int32) × (Int32)) => [(mo, .inr (6, [.ref fa, .ref ka, .int u.2.1, .int u.2.2.1, .int u.2.2.2.1, .int u.2.2.2.2.1, .int nv, .int nl, .int nh, .int nc, .int u.2.2.2.2.2, .ref da, .int dn, .int 0])), (fa, .inl (cA, 66, .inl u.1)), (ka, .inl (cA, 66, .inl kp)), (da, .inl (cA, 24, .inl dr))]) hP hD hS hA [0, 1, 2, 3] [] [0, 1, 2, 3] rfl rfl (by decide) (by decide) (fun u => rfl) (by decide) (va_runV (As := [.int rn, .int (F_X6_inForce fl 3)]) (rest := []) ⟨hx, hb, hml, hown, hts⟩ (c_X6_records l D cA mo fa ka da H.size fl kp on rn lf wt nv nl nh nc cm dr dn 0 rn (F_X6_inForce fl 3)) (cwV 2 hts gX6_confirm_X6_records rfl rfl rfl (by decide +kernel) ⟨Nat.le_of_ble_eq_true rfl, Nat.le_of_ble_eq_true rfl⟩) (bx_pv (ci := 6) (q0 := 0) hK hG (hP.sub (ws' := [(mo, .inr (6, [.ref fa, .ref ka, .int on, .int rn, .int lf, .int wt, .int nv, .int nl, .int nh, .int nc, .int cm, .ref da, .int dn, .int 0])), (fa, .inl (cA, 66, .inl fl)), (ka, .inl (cA, 66, .inl kp)), (da, .inl (cA, 24, .inl dr))]) [0, 1, 2, 3] rfl) (hD.sub (ws' := [(mo, .inr (6, [.ref fa, .ref ka, .int on, .int rn, .int lf, .int wt, .int nv, .int nl, .int nh, .int nc, .int cm, .ref da, .int dn, .int 0])), (fa, .inl (cA, 66, .inl fl)), (ka, .inl (cA, 66, .inl kp)), (da, .inl (cA, 24, .inl dr))]) [0, 1, 2, 3] (by decide) rfl) rfl rfl) rfl rfl hl.1 rfl (lv_room (Nat.le_of_ble_eq_true rfl)) dX6_confirm_63 ⟨Nat.zero_le _, Nat.zero_le _⟩) (fun r_14 u_13 H locs h_12 hP hD hS => ?_)
        obtain ⟨fl15, on16, rn17, lf18, wt19, cm20⟩ := u_13
        obtain ⟨h_12, b_21⟩ := h_12
        have hP : va_P D vwCl [(mo, .inr (6, [.ref fa, .ref ka, .int on16, .int rn17, .int lf18, .int wt19, .int nv, .int nl, .int nh, .int nc, .int cm20, .ref da, .int dn, .int 0])), (fa, .inl (cA, 66, .inl fl15)), (ka, .inl (cA, 66, .inl kp)), (da, .inl (cA, 24, .inl dr))] H := hP
        have hD : va_D A [(mo, .inr (6, [.ref fa, .ref ka, .int on16, .int rn17, .int lf18, .int wt19, .int nv, .int nl, .int nh, .int nc, .int cm20, .ref da, .int dn, .int 0])), (fa, .inl (cA, 66, .inl fl15)), (ka, .inl (cA, 66, .inl kp)), (da, .inl (cA, 24, .inl dr))] := hD
        exact W.zret (v := r_14) hx hb hr (bx_nb b_21) (fun t ht hW => ⟨⟨r_14, (fl15, on16, rn17, lf18, wt19, cm20, 0), rfl, ⟨(by simp only [F_X6_confirm, if_neg c_4, if_pos c_6, if_pos c_9, ← h_12]), b_21⟩, ⟨by rw [ht]; exact hP, hD⟩⟩, hS.F ht⟩) hS.2.2 dX6_confirm_66
      · skip
        refine lv_iload_n hx hb dX6_confirm_54 rfl (lv_at hl 0 rfl) ?_
        refine lv_goto (tgt := 63) hx hb dX6_confirm_55 (by decide) ?_
        refine bx_wi (wc := [(mo, .inr (6, [.ref fa, .ref ka, .int on, .int rn, .int lf, .int wt, .int nv, .int nl, .int nh, .int nc, .int cm, .ref da, .int dn, .int 0])), (fa, .inl (cA, 66, .inl fl)), (ka, .inl (cA, 66, .inl kp)), (da, .inl (cA, 24, .inl dr))]) (wr := []) (wf := fun (u : (Nat → Int32) × (Int32) × (Int32) × (Int32) × (Int32) × (Int32)) => [(mo, .inr (6, [.ref fa, .ref ka, .int u.2.1, .int u.2.2.1, .int u.2.2.2.1, .int u.2.2.2.2.1, .int nv, .int nl, .int nh, .int nc, .int u.2.2.2.2.2, .ref da, .int dn, .int 0])), (fa, .inl (cA, 66, .inl u.1)), (ka, .inl (cA, 66, .inl kp)), (da, .inl (cA, 24, .inl dr))]) (wn := fun (u : (Nat → Int32) × (Int32) × (Int32) × (Int32) × (Int32) × (Int32)) => [(mo, .inr (6, [.ref fa, .ref ka, .int u.2.1, .int u.2.2.1, .int u.2.2.2.1, .int u.2.2.2.2.1, .int nv, .int nl, .int nh, .int nc, .int u.2.2.2.2.2, .ref da, .int dn, .int 0])), (fa, .inl (cA, 66, .inl u.1)), (ka, .inl (cA, 66, .inl kp)), (da, .inl (cA, 24, .inl dr))]) hP hD hS hA [0, 1, 2, 3] [] [0, 1, 2, 3] rfl rfl (by decide) (by decide) (fun u => rfl) (by decide) (va_runV (As := [.int rn, .int (rd fl ((29 * rn) + 4))]) (rest := []) ⟨hx, hb, hml, hown, hts⟩ (c_X6_records l D cA mo fa ka da H.size fl kp on rn lf wt nv nl nh nc cm dr dn 0 rn (rd fl ((29 * rn) + 4))) (cwV 2 hts gX6_confirm_X6_records rfl rfl rfl (by decide +kernel) ⟨Nat.le_of_ble_eq_true rfl, Nat.le_of_ble_eq_true rfl⟩) (bx_pv (ci := 6) (q0 := 0) hK hG (hP.sub (ws' := [(mo, .inr (6, [.ref fa, .ref ka, .int on, .int rn, .int lf, .int wt, .int nv, .int nl, .int nh, .int nc, .int cm, .ref da, .int dn, .int 0])), (fa, .inl (cA, 66, .inl fl)), (ka, .inl (cA, 66, .inl kp)), (da, .inl (cA, 24, .inl dr))]) [0, 1, 2, 3] rfl) (hD.sub (ws' := [(mo, .inr (6, [.ref fa, .ref ka, .int on, .int rn, .int lf, .int wt, .int nv, .int nl, .int nh, .int nc, .int cm, .ref da, .int dn, .int 0])), (fa, .inl (cA, 66, .inl fl)), (ka, .inl (cA, 66, .inl kp)), (da, .inl (cA, 24, .inl dr))]) [0, 1, 2, 3] (by decide) rfl) rfl rfl) rfl rfl hl.1 rfl (lv_room (Nat.le_of_ble_eq_true rfl)) dX6_confirm_63 ⟨Nat.zero_le _, Nat.zero_le _⟩) (fun r_24 u_23 H locs h_22 hP hD hS => ?_)
        obtain ⟨fl25, on26, rn27, lf28, wt29, cm30⟩ := u_23
        obtain ⟨h_22, b_31⟩ := h_22
        have hP : va_P D vwCl [(mo, .inr (6, [.ref fa, .ref ka, .int on26, .int rn27, .int lf28, .int wt29, .int nv, .int nl, .int nh, .int nc, .int cm30, .ref da, .int dn, .int 0])), (fa, .inl (cA, 66, .inl fl25)), (ka, .inl (cA, 66, .inl kp)), (da, .inl (cA, 24, .inl dr))] H := hP
        have hD : va_D A [(mo, .inr (6, [.ref fa, .ref ka, .int on26, .int rn27, .int lf28, .int wt29, .int nv, .int nl, .int nh, .int nc, .int cm30, .ref da, .int dn, .int 0])), (fa, .inl (cA, 66, .inl fl25)), (ka, .inl (cA, 66, .inl kp)), (da, .inl (cA, 24, .inl dr))] := hD
        exact W.zret (v := r_24) hx hb hr (bx_nb b_31) (fun t ht hW => ⟨⟨r_24, (fl25, on26, rn27, lf28, wt29, cm30, 0), rfl, ⟨(by simp only [F_X6_confirm, if_neg c_4, if_pos c_6, if_neg c_9, ← h_22]), b_31⟩, ⟨by rw [ht]; exact hP, hD⟩⟩, hS.F ht⟩) hS.2.2 dX6_confirm_66
    · skip
      exact absurd (by decide) c_6
def F_X6_draft (dr : Nat → Int32) (dn : Int32) (p0 : Int32) : Int32 × (Nat → Int32) × (Int32) × (Int32) := (if 24 ≤ dn then (match (F_X6_goes (F_X6_in p0 0 255) 0) with | (r_7, u_6) => (0, dr, dn, u_6)) else (match (F_X6_goes (F_X6_in p0 0 255) 1) with | (r_13, u_12) => (if r_13 = 0 then (0, dr, dn, u_12) else ((dn + 1), (wr dr dn p0), (dn + 1), u_12))))
set_option maxHeartbeats 4000000 in
set_option maxRecDepth 100000 in
theorem c_X6_draft (l : Launch) (D : va_G) (cA : ClassId) (mo fa ka da : Nat) (sz : Nat) (fl : Nat → Int32) (kp : Nat → Int32) (on : Int32) (rn : Int32) (lf : Int32) (wt : Int32) (nv : Int32) (nl : Int32) (nh : Int32) (nc : Int32) (cm : Int32) (dr : Nat → Int32) (dn : Int32) (la : Int32) (p0 : Int32) (hd : 0 ≤ dn.toInt) : Met l yX6_draft wsX6_draft ({ frames := 1, cells := 0, slots := 0, locals := 22 }) (va_Pc [.ref mo, .int p0] (bx_pre D [(cA, .int)] (wMo cA mo fa ka da fl kp on rn lf wt nv nl nh nc cm dr dn la) sz)) (va_Qi (fun r u => (r, u) = F_X6_draft dr dn p0) (fun u t => bx_at D (wMo cA mo fa ka da fl kp on rn lf wt nv nl nh nc cm u.1 u.2.1 u.2.2) (va_A (wMo cA mo fa ka da fl kp on rn lf wt nv nl nh nc cm dr dn la) sz) t) (va_A (wMo cA mo fa ka da fl kp on rn lf wt nv nl nh nc cm dr dn la) sz)) 0 0 (va_A (wMo cA mo fa ka da fl kp on rn lf wt nv nl nh nc cm dr dn la) sz) := by
  refine Met.ofW (cc := cX6_draft) (maxL := 2) (ret := (some .int)) (by decide) rfl ?_
  intro p e s m args below meth c s₁ B hml hv
  obtain ⟨rfl, hsz, hP, hK, hD0, hG⟩ := hv
  have hx := B.exec
  have hb := B.bytes
  have hr := B.returns
  have hts := atoms_spec (ws := wsX6_draft) B.pre
  have hown : s.vm.findClass RX6 = some m.cls := findClass_of_methodNamed B.named
  have hlocks := B.notSynchronized
  subst hsz
  have hD := hD0.self (sz := s.heap.size)
  generalize hAe : va_A (wMo cA mo fa ka da fl kp on rn lf wt nv nl nh nc cm dr dn la) s.heap.size = A at hD ⊢
  have hA : ∀ q : Nat, s.heap.size ≤ q → A q := fun q h => by rw [← hAe]; exact Or.inr h
  have hS : va_S A s.heap s.heap [] := va_S.rf
  have hD : va_D A [(mo, .inr (6, [.ref fa, .ref ka, .int on, .int rn, .int lf, .int wt, .int nv, .int nl, .int nh, .int nc, .int cm, .ref da, .int dn, .int la])), (fa, .inl (cA, 66, .inl fl)), (ka, .inl (cA, 66, .inl kp)), (da, .inl (cA, 24, .inl dr))] := hD
  have hP : va_P D vwCl [(mo, .inr (6, [.ref fa, .ref ka, .int on, .int rn, .int lf, .int wt, .int nv, .int nl, .int nh, .int nc, .int cm, .ref da, .int dn, .int la])), (fa, .inl (cA, 66, .inl fl)), (ka, .inl (cA, 66, .inl kp)), (da, .inl (cA, 24, .inl dr))] s.heap := hP
  have hl := lv_entry ([.ref mo, .int p0]) (n := 2) (Nat.le_of_ble_eq_true rfl)
  rw [lg_entry_eq]
  generalize (lg_sl ([.ref mo, .int p0]) ++ List.replicate (2 - (lg_sl ([.ref mo, .int p0])).length) Slot.unset).toArray = ls at hl ⊢
  have hl : lv_has ls 2 [(0, .ref mo), (1, .int p0)] := hl
  have hi6 : ∀ w ∈ u_ws RX6 TX6 14, w ∈ wsX6_draft := by decide +kernel
  refine lv_aload_n hx hb dX6_draft_0 rfl (lv_at hl 0 rfl) ?_
  refine lv_iload_n hx hb dX6_draft_1 rfl (lv_at hl 1 rfl) ?_
  refine lv_iconst (v := 0) hx hb dX6_draft_2 (by decide) ?_
  refine lv_sipush (v := 255) hx hb dX6_draft_3 (by decide) ?_
  refine bx_ri (va_runS (As := [.int p0, .int 0, .int 255]) (rest := [.ref mo]) ⟨hx, hb, hml, hown, hts⟩ (c_X6_in l D p0 0 255) (va_cwS 3 hts gX6_draft_X6_in rfl rfl rfl (by decide +kernel) ⟨Nat.le_of_ble_eq_true rfl, Nat.le_of_ble_eq_true rfl⟩) (bx_psr (hK.sub (tys' := []) [] rfl) hG (hP.sub (ws' := []) [] rfl)) rfl rfl hl.1 rfl (lv_room (Nat.le_of_ble_eq_true rfl)) dX6_draft_6 ⟨Nat.zero_le _, Nat.zero_le _⟩) (fun r_1 h_2 => ?_)
  obtain ⟨h_2, b_3⟩ := h_2
  have h_2 := h_2.symm
  subst h_2
  refine lv_aload_n hx hb dX6_draft_9 rfl (lv_at hl 0 rfl) ?_
  refine va_get (D := D) (ci := 6) (v := .int dn) (C := RX6) (T := TX6) (N := 14) hx hb hts hi6 hown hK hP 0 rfl rfl 12 (by decide) (hts (.fieldLink RX6 121 "BootstayModel" "drafted" "I") (by decide +kernel)) (fun _ h9 => h9) rfl dX6_draft_10 ?_
  refine lv_bipush (v := 24) hx hb dX6_draft_13 (by decide) ?_
  refine lv_icmp_ge (tgt := 22) hx hb dX6_draft_15 (by decide) (fun c_4 => ?_) (fun c_4 => ?_)
  · skip
    refine lv_iconst (v := 0) hx hb dX6_draft_22 (by decide) ?_
    refine bx_wi (wc := [(mo, .inr (6, [.ref fa, .ref ka, .int on, .int rn, .int lf, .int wt, .int nv, .int nl, .int nh, .int nc, .int cm, .ref da, .int dn, .int la])), (fa, .inl (cA, 66, .inl fl)), (ka, .inl (cA, 66, .inl kp)), (da, .inl (cA, 24, .inl dr))]) (wr := []) (wf := fun (u : (Int32)) => [(mo, .inr (6, [.ref fa, .ref ka, .int on, .int rn, .int lf, .int wt, .int nv, .int nl, .int nh, .int nc, .int cm, .ref da, .int dn, .int u])), (fa, .inl (cA, 66, .inl fl)), (ka, .inl (cA, 66, .inl kp)), (da, .inl (cA, 24, .inl dr))]) (wn := fun (u : (Int32)) => [(mo, .inr (6, [.ref fa, .ref ka, .int on, .int rn, .int lf, .int wt, .int nv, .int nl, .int nh, .int nc, .int cm, .ref da, .int dn, .int u])), (fa, .inl (cA, 66, .inl fl)), (ka, .inl (cA, 66, .inl kp)), (da, .inl (cA, 24, .inl dr))]) hP hD hS hA [0, 1, 2, 3] [] [0, 1, 2, 3] rfl rfl (by decide) (by decide) (fun u => rfl) (by decide) (va_runV (As := [.int (F_X6_in p0 0 255), .int 0]) (rest := []) ⟨hx, hb, hml, hown, hts⟩ (c_X6_goes l D cA mo fa ka da s.heap.size fl kp on rn lf wt nv nl nh nc cm dr dn la (F_X6_in p0 0 255) 0) (cwV 2 hts gX6_draft_X6_goes rfl rfl rfl (by decide +kernel) ⟨Nat.le_of_ble_eq_true rfl, Nat.le_of_ble_eq_true rfl⟩) (bx_pv (ci := 6) (q0 := 0) hK hG (hP.sub (ws' := [(mo, .inr (6, [.ref fa, .ref ka, .int on, .int rn, .int lf, .int wt, .int nv, .int nl, .int nh, .int nc, .int cm, .ref da, .int dn, .int la])), (fa, .inl (cA, 66, .inl fl)), (ka, .inl (cA, 66, .inl kp)), (da, .inl (cA, 24, .inl dr))]) [0, 1, 2, 3] rfl) (hD.sub (ws' := [(mo, .inr (6, [.ref fa, .ref ka, .int on, .int rn, .int lf, .int wt, .int nv, .int nl, .int nh, .int nc, .int cm, .ref da, .int dn, .int la])), (fa, .inl (cA, 66, .inl fl)), (ka, .inl (cA, 66, .inl kp)), (da, .inl (cA, 24, .inl dr))]) [0, 1, 2, 3] (by decide) rfl) rfl rfl) rfl rfl hl.1 rfl (lv_room (Nat.le_of_ble_eq_true rfl)) dX6_draft_23 ⟨Nat.zero_le _, Nat.zero_le _⟩) (fun r_7 u_6 H locs h_5 hP hD hS => ?_)
    obtain ⟨h_5, b_9⟩ := h_5
    have hP : va_P D vwCl [(mo, .inr (6, [.ref fa, .ref ka, .int on, .int rn, .int lf, .int wt, .int nv, .int nl, .int nh, .int nc, .int cm, .ref da, .int dn, .int u_6])), (fa, .inl (cA, 66, .inl fl)), (ka, .inl (cA, 66, .inl kp)), (da, .inl (cA, 24, .inl dr))] H := hP
    have hD : va_D A [(mo, .inr (6, [.ref fa, .ref ka, .int on, .int rn, .int lf, .int wt, .int nv, .int nl, .int nh, .int nc, .int cm, .ref da, .int dn, .int u_6])), (fa, .inl (cA, 66, .inl fl)), (ka, .inl (cA, 66, .inl kp)), (da, .inl (cA, 24, .inl dr))] := hD
    obtain ⟨rfl, h_5v⟩ := goes_0 h_5
    refine lv_if_ne (tgt := 31) hx hb dX6_draft_26 (by decide) (fun c_10 => ?_) (fun c_10 => ?_)
    · skip
      exact absurd (by decide) c_10
    · skip
      refine lv_iconst (v := 0) hx hb dX6_draft_29 (by decide) ?_
      exact W.iret (v := 0) hx hb hr (fun t ht hW => ⟨⟨0, (dr, dn, u_6), rfl, (by simp only [F_X6_draft, if_pos c_4, if_pos c_10, ← h_5]), ⟨by rw [ht]; exact hP, hD⟩⟩, hS.F ht⟩) hS.2.2 dX6_draft_30
  · skip
    refine lv_iconst (v := 1) hx hb dX6_draft_18 (by decide) ?_
    refine lv_goto (tgt := 23) hx hb dX6_draft_19 (by decide) ?_
    refine bx_wi (wc := [(mo, .inr (6, [.ref fa, .ref ka, .int on, .int rn, .int lf, .int wt, .int nv, .int nl, .int nh, .int nc, .int cm, .ref da, .int dn, .int la])), (fa, .inl (cA, 66, .inl fl)), (ka, .inl (cA, 66, .inl kp)), (da, .inl (cA, 24, .inl dr))]) (wr := []) (wf := fun (u : (Int32)) => [(mo, .inr (6, [.ref fa, .ref ka, .int on, .int rn, .int lf, .int wt, .int nv, .int nl, .int nh, .int nc, .int cm, .ref da, .int dn, .int u])), (fa, .inl (cA, 66, .inl fl)), (ka, .inl (cA, 66, .inl kp)), (da, .inl (cA, 24, .inl dr))]) (wn := fun (u : (Int32)) => [(mo, .inr (6, [.ref fa, .ref ka, .int on, .int rn, .int lf, .int wt, .int nv, .int nl, .int nh, .int nc, .int cm, .ref da, .int dn, .int u])), (fa, .inl (cA, 66, .inl fl)), (ka, .inl (cA, 66, .inl kp)), (da, .inl (cA, 24, .inl dr))]) hP hD hS hA [0, 1, 2, 3] [] [0, 1, 2, 3] rfl rfl (by decide) (by decide) (fun u => rfl) (by decide) (va_runV (As := [.int (F_X6_in p0 0 255), .int 1]) (rest := []) ⟨hx, hb, hml, hown, hts⟩ (c_X6_goes l D cA mo fa ka da s.heap.size fl kp on rn lf wt nv nl nh nc cm dr dn la (F_X6_in p0 0 255) 1) (cwV 2 hts gX6_draft_X6_goes rfl rfl rfl (by decide +kernel) ⟨Nat.le_of_ble_eq_true rfl, Nat.le_of_ble_eq_true rfl⟩) (bx_pv (ci := 6) (q0 := 0) hK hG (hP.sub (ws' := [(mo, .inr (6, [.ref fa, .ref ka, .int on, .int rn, .int lf, .int wt, .int nv, .int nl, .int nh, .int nc, .int cm, .ref da, .int dn, .int la])), (fa, .inl (cA, 66, .inl fl)), (ka, .inl (cA, 66, .inl kp)), (da, .inl (cA, 24, .inl dr))]) [0, 1, 2, 3] rfl) (hD.sub (ws' := [(mo, .inr (6, [.ref fa, .ref ka, .int on, .int rn, .int lf, .int wt, .int nv, .int nl, .int nh, .int nc, .int cm, .ref da, .int dn, .int la])), (fa, .inl (cA, 66, .inl fl)), (ka, .inl (cA, 66, .inl kp)), (da, .inl (cA, 24, .inl dr))]) [0, 1, 2, 3] (by decide) rfl) rfl rfl) rfl rfl hl.1 rfl (lv_room (Nat.le_of_ble_eq_true rfl)) dX6_draft_23 ⟨Nat.zero_le _, Nat.zero_le _⟩) (fun r_13 u_12 H locs h_11 hP hD hS => ?_)
    obtain ⟨h_11, b_15⟩ := h_11
    have hP : va_P D vwCl [(mo, .inr (6, [.ref fa, .ref ka, .int on, .int rn, .int lf, .int wt, .int nv, .int nl, .int nh, .int nc, .int cm, .ref da, .int dn, .int u_12])), (fa, .inl (cA, 66, .inl fl)), (ka, .inl (cA, 66, .inl kp)), (da, .inl (cA, 24, .inl dr))] H := hP
    have hD : va_D A [(mo, .inr (6, [.ref fa, .ref ka, .int on, .int rn, .int lf, .int wt, .int nv, .int nl, .int nh, .int nc, .int cm, .ref da, .int dn, .int u_12])), (fa, .inl (cA, 66, .inl fl)), (ka, .inl (cA, 66, .inl kp)), (da, .inl (cA, 24, .inl dr))] := hD
    refine lv_if_ne (tgt := 31) hx hb dX6_draft_26 (by decide) (fun c_16 => ?_) (fun c_16 => ?_)
    · skip
      refine lv_aload_n hx hb dX6_draft_31 rfl (lv_at hl 0 rfl) ?_
      refine va_get (D := D) (ci := 6) (v := .ref da) (C := RX6) (T := TX6) (N := 14) hx hb hts hi6 hown hK hP 0 rfl rfl 11 (by decide) (hts (.fieldLink RX6 26 "BootstayModel" "draft" "[I") (by decide +kernel)) (fun _ h9 => h9) rfl dX6_draft_32 ?_
      refine lv_aload_n hx hb dX6_draft_35 rfl (lv_at hl 0 rfl) ?_
      refine va_get (D := D) (ci := 6) (v := .int dn) (C := RX6) (T := TX6) (N := 14) hx hb hts hi6 hown hK hP 0 rfl rfl 12 (by decide) (hts (.fieldLink RX6 121 "BootstayModel" "drafted" "I") (by decide +kernel)) (fun _ h9 => h9) rfl dX6_draft_36 ?_
      refine lv_iload_n hx hb dX6_draft_39 rfl (lv_at hl 1 rfl) ?_
      refine bx_ast (D := D) hx hb hK hP hD hS 3 0 rfl rfl (in_lt hd (Int32.not_le.mp c_4) (by decide)) dX6_draft_40 (fun H locs hP hD hS => ?_)
      have hP : va_P D vwCl [(mo, .inr (6, [.ref fa, .ref ka, .int on, .int rn, .int lf, .int wt, .int nv, .int nl, .int nh, .int nc, .int cm, .ref da, .int dn, .int u_12])), (fa, .inl (cA, 66, .inl fl)), (ka, .inl (cA, 66, .inl kp)), (da, .inl (cA, 24, .inl (wr dr dn p0)))] H := hP
      have hD : va_D A [(mo, .inr (6, [.ref fa, .ref ka, .int on, .int rn, .int lf, .int wt, .int nv, .int nl, .int nh, .int nc, .int cm, .ref da, .int dn, .int u_12])), (fa, .inl (cA, 66, .inl fl)), (ka, .inl (cA, 66, .inl kp)), (da, .inl (cA, 24, .inl (wr dr dn p0)))] := hD
      refine lv_aload_n hx hb dX6_draft_41 rfl (lv_at hl 0 rfl) ?_
      refine lv_dup hx hb dX6_draft_42 rfl ?_
      refine va_get (D := D) (ci := 6) (v := .int dn) (C := RX6) (T := TX6) (N := 14) hx hb hts hi6 hown hK hP 0 rfl rfl 12 (by decide) (hts (.fieldLink RX6 121 "BootstayModel" "drafted" "I") (by decide +kernel)) (fun _ h9 => h9) rfl dX6_draft_43 ?_
      refine lv_iconst (v := 1) hx hb dX6_draft_46 (by decide) ?_
      refine lv_iadd hx hb dX6_draft_47 ?_
      refine va_put (D := D) (ci := 6) (v := .int (dn + 1)) (ty := .int) (C := RX6) (T := TX6) (N := 14) hx hb hts hi6 tyX6 tyX6_ok nmX6 hown hK hP hD hS 0 rfl rfl 12 (by decide) (hts (.fieldLink RX6 121 "BootstayModel" "drafted" "I") (by decide +kernel)) (fun _ h9 => h9) rfl (by decide +kernel) rfl rfl (Nat.le_of_ble_eq_true rfl) dX6_draft_48 (fun H locs hP hD hS => ?_)
      have hP : va_P D vwCl [(mo, .inr (6, [.ref fa, .ref ka, .int on, .int rn, .int lf, .int wt, .int nv, .int nl, .int nh, .int nc, .int cm, .ref da, .int (dn + 1), .int u_12])), (fa, .inl (cA, 66, .inl fl)), (ka, .inl (cA, 66, .inl kp)), (da, .inl (cA, 24, .inl (wr dr dn p0)))] H := hP
      have hD : va_D A [(mo, .inr (6, [.ref fa, .ref ka, .int on, .int rn, .int lf, .int wt, .int nv, .int nl, .int nh, .int nc, .int cm, .ref da, .int (dn + 1), .int u_12])), (fa, .inl (cA, 66, .inl fl)), (ka, .inl (cA, 66, .inl kp)), (da, .inl (cA, 24, .inl (wr dr dn p0)))] := hD
      refine lv_aload_n hx hb dX6_draft_51 rfl (lv_at hl 0 rfl) ?_
      refine va_get (D := D) (ci := 6) (v := .int (dn + 1)) (C := RX6) (T := TX6) (N := 14) hx hb hts hi6 hown hK hP 0 rfl rfl 12 (by decide) (hts (.fieldLink RX6 121 "BootstayModel" "drafted" "I") (by decide +kernel)) (fun _ h9 => h9) rfl dX6_draft_52 ?_
      exact W.iret (v := (dn + 1)) hx hb hr (fun t ht hW => ⟨⟨(dn + 1), ((wr dr dn p0), (dn + 1), u_12), rfl, (by simp only [F_X6_draft, if_neg c_4, if_neg c_16, ← h_11]), ⟨by rw [ht]; exact hP, hD⟩⟩, hS.F ht⟩) hS.2.2 dX6_draft_55
    · skip
      refine lv_iconst (v := 0) hx hb dX6_draft_29 (by decide) ?_
      exact W.iret (v := 0) hx hb hr (fun t ht hW => ⟨⟨0, (dr, dn, u_12), rfl, (by simp only [F_X6_draft, if_neg c_4, if_pos c_16, ← h_11]), ⟨by rw [ht]; exact hP, hD⟩⟩, hS.F ht⟩) hS.2.2 dX6_draft_30
def F_X6_clearDraft (dn : Int32) : Int32 × (Int32) × (Int32) := (dn, 0, 0)
set_option maxHeartbeats 4000000 in
set_option maxRecDepth 100000 in
theorem c_X6_clearDraft (l : Launch) (D : va_G) (cA : ClassId) (mo fa ka da : Nat) (sz : Nat) (fl : Nat → Int32) (kp : Nat → Int32) (on : Int32) (rn : Int32) (lf : Int32) (wt : Int32) (nv : Int32) (nl : Int32) (nh : Int32) (nc : Int32) (cm : Int32) (dr : Nat → Int32) (dn : Int32) (la : Int32) : Met l yX6_clearDraft wsX6_clearDraft ({ frames := 0, cells := 0, slots := 0, locals := 0 }) (va_Pc [.ref mo] (bx_pre D [(cA, .int)] (wMo cA mo fa ka da fl kp on rn lf wt nv nl nh nc cm dr dn la) sz)) (va_Qi (fun r u => (r, u) = F_X6_clearDraft dn) (fun u t => bx_at D (wMo cA mo fa ka da fl kp on rn lf wt nv nl nh nc cm dr u.1 u.2) (va_A (wMo cA mo fa ka da fl kp on rn lf wt nv nl nh nc cm dr dn la) sz) t) (va_A (wMo cA mo fa ka da fl kp on rn lf wt nv nl nh nc cm dr dn la) sz)) 0 0 (va_A (wMo cA mo fa ka da fl kp on rn lf wt nv nl nh nc cm dr dn la) sz) := by
  refine Met.ofW (cc := cX6_clearDraft) (maxL := 2) (ret := (some .int)) (by decide) rfl ?_
  intro p e s m args below meth c s₁ B hml hv
  obtain ⟨rfl, hsz, hP, hK, hD0, hG⟩ := hv
  have hx := B.exec
  have hb := B.bytes
  have hr := B.returns
  have hts := atoms_spec (ws := wsX6_clearDraft) B.pre
  have hown : s.vm.findClass RX6 = some m.cls := findClass_of_methodNamed B.named
  have hlocks := B.notSynchronized
  subst hsz
  have hD := hD0.self (sz := s.heap.size)
  generalize hAe : va_A (wMo cA mo fa ka da fl kp on rn lf wt nv nl nh nc cm dr dn la) s.heap.size = A at hD ⊢
  have hA : ∀ q : Nat, s.heap.size ≤ q → A q := fun q h => by rw [← hAe]; exact Or.inr h
  have hS : va_S A s.heap s.heap [] := va_S.rf
  have hD : va_D A [(mo, .inr (6, [.ref fa, .ref ka, .int on, .int rn, .int lf, .int wt, .int nv, .int nl, .int nh, .int nc, .int cm, .ref da, .int dn, .int la])), (fa, .inl (cA, 66, .inl fl)), (ka, .inl (cA, 66, .inl kp)), (da, .inl (cA, 24, .inl dr))] := hD
  have hP : va_P D vwCl [(mo, .inr (6, [.ref fa, .ref ka, .int on, .int rn, .int lf, .int wt, .int nv, .int nl, .int nh, .int nc, .int cm, .ref da, .int dn, .int la])), (fa, .inl (cA, 66, .inl fl)), (ka, .inl (cA, 66, .inl kp)), (da, .inl (cA, 24, .inl dr))] s.heap := hP
  have hl := lv_entry ([.ref mo]) (n := 2) (Nat.le_of_ble_eq_true rfl)
  rw [lg_entry_eq]
  generalize (lg_sl ([.ref mo]) ++ List.replicate (2 - (lg_sl ([.ref mo])).length) Slot.unset).toArray = ls at hl ⊢
  have hl : lv_has ls 2 [(0, .ref mo)] := hl
  have hi6 : ∀ w ∈ u_ws RX6 TX6 14, w ∈ wsX6_clearDraft := by decide +kernel
  refine lv_aload_n hx hb dX6_clearDraft_0 rfl (lv_at hl 0 rfl) ?_
  refine lv_iconst (v := 0) hx hb dX6_clearDraft_1 (by decide) ?_
  refine va_put (D := D) (ci := 6) (v := .int 0) (ty := .int) (C := RX6) (T := TX6) (N := 14) hx hb hts hi6 tyX6 tyX6_ok nmX6 hown hK hP hD hS 0 rfl rfl 13 (by decide) (hts (.fieldLink RX6 37 "BootstayModel" "last" "I") (by decide +kernel)) (fun _ h9 => h9) rfl (by decide +kernel) rfl rfl (Nat.le_of_ble_eq_true rfl) dX6_clearDraft_2 (fun H locs hP hD hS => ?_)
  have hP : va_P D vwCl [(mo, .inr (6, [.ref fa, .ref ka, .int on, .int rn, .int lf, .int wt, .int nv, .int nl, .int nh, .int nc, .int cm, .ref da, .int dn, .int 0])), (fa, .inl (cA, 66, .inl fl)), (ka, .inl (cA, 66, .inl kp)), (da, .inl (cA, 24, .inl dr))] H := hP
  have hD : va_D A [(mo, .inr (6, [.ref fa, .ref ka, .int on, .int rn, .int lf, .int wt, .int nv, .int nl, .int nh, .int nc, .int cm, .ref da, .int dn, .int 0])), (fa, .inl (cA, 66, .inl fl)), (ka, .inl (cA, 66, .inl kp)), (da, .inl (cA, 24, .inl dr))] := hD
  refine lv_aload_n hx hb dX6_clearDraft_5 rfl (lv_at hl 0 rfl) ?_
  refine va_get (D := D) (ci := 6) (v := .int dn) (C := RX6) (T := TX6) (N := 14) hx hb hts hi6 hown hK hP 0 rfl rfl 12 (by decide) (hts (.fieldLink RX6 121 "BootstayModel" "drafted" "I") (by decide +kernel)) (fun _ h9 => h9) rfl dX6_clearDraft_6 ?_
  refine lv_istore_n (lv' := [(1, .int dn), (0, .ref mo)]) hx hb dX6_clearDraft_9 rfl hl (by decide) rfl (fun ls hl => ?_)
  refine lv_aload_n hx hb dX6_clearDraft_10 rfl (lv_at hl 1 rfl) ?_
  refine lv_iconst (v := 0) hx hb dX6_clearDraft_11 (by decide) ?_
  refine va_put (D := D) (ci := 6) (v := .int 0) (ty := .int) (C := RX6) (T := TX6) (N := 14) hx hb hts hi6 tyX6 tyX6_ok nmX6 hown hK hP hD hS 0 rfl rfl 12 (by decide) (hts (.fieldLink RX6 121 "BootstayModel" "drafted" "I") (by decide +kernel)) (fun _ h9 => h9) rfl (by decide +kernel) rfl rfl (Nat.le_of_ble_eq_true rfl) dX6_clearDraft_12 (fun H locs hP hD hS => ?_)
  have hP : va_P D vwCl [(mo, .inr (6, [.ref fa, .ref ka, .int on, .int rn, .int lf, .int wt, .int nv, .int nl, .int nh, .int nc, .int cm, .ref da, .int 0, .int 0])), (fa, .inl (cA, 66, .inl fl)), (ka, .inl (cA, 66, .inl kp)), (da, .inl (cA, 24, .inl dr))] H := hP
  have hD : va_D A [(mo, .inr (6, [.ref fa, .ref ka, .int on, .int rn, .int lf, .int wt, .int nv, .int nl, .int nh, .int nc, .int cm, .ref da, .int 0, .int 0])), (fa, .inl (cA, 66, .inl fl)), (ka, .inl (cA, 66, .inl kp)), (da, .inl (cA, 24, .inl dr))] := hD
  refine lv_iload_n hx hb dX6_clearDraft_15 rfl (lv_at hl 0 rfl) ?_
  exact W.iret (v := dn) hx hb hr (fun t ht hW => ⟨⟨dn, (0, 0), rfl, rfl, ⟨by rw [ht]; exact hP, hD⟩⟩, hS.F ht⟩) hS.2.2 dX6_clearDraft_16
def F_X6_isStartable (fl : Nat → Int32) (p0 : Int32) : Int32 × (Int32) := (match (F_X6_goes (F_X6_isSlot p0) 1) with | (r_6, u_5) => (if r_6 = 0 then (0, u_5) else (if (F_X6_canStart fl p0) = 0 then (0, u_5) else (1, u_5))))
set_option maxHeartbeats 4000000 in
set_option maxRecDepth 100000 in
theorem c_X6_isStartable (l : Launch) (D : va_G) (cA : ClassId) (mo fa ka da : Nat) (sz : Nat) (fl : Nat → Int32) (kp : Nat → Int32) (on : Int32) (rn : Int32) (lf : Int32) (wt : Int32) (nv : Int32) (nl : Int32) (nh : Int32) (nc : Int32) (cm : Int32) (dr : Nat → Int32) (dn : Int32) (la : Int32) (p0 : Int32) : Met l yX6_isStartable wsX6_isStartable ({ frames := 3, cells := 0, slots := 0, locals := 67 }) (va_Pc [.ref mo, .int p0] (bx_pre D [(cA, .int)] (wMo cA mo fa ka da fl kp on rn lf wt nv nl nh nc cm dr dn la) sz)) (va_Qi (fun r u => (r, u) = F_X6_isStartable fl p0 ∧ (r = 0 ∨ r = 1)) (fun u t => bx_at D (wMo cA mo fa ka da fl kp on rn lf wt nv nl nh nc cm dr dn u) (va_A (wMo cA mo fa ka da fl kp on rn lf wt nv nl nh nc cm dr dn la) sz) t) (va_A (wMo cA mo fa ka da fl kp on rn lf wt nv nl nh nc cm dr dn la) sz)) 0 0 (va_A (wMo cA mo fa ka da fl kp on rn lf wt nv nl nh nc cm dr dn la) sz) := by
  refine Met.ofW (cc := cX6_isStartable) (maxL := 2) (ret := (some .boolean)) (by decide) rfl ?_
  intro p e s m args below meth c s₁ B hml hv
  obtain ⟨rfl, hsz, hP, hK, hD0, hG⟩ := hv
  have hx := B.exec
  have hb := B.bytes
  have hr := B.returns
  have hts := atoms_spec (ws := wsX6_isStartable) B.pre
  have hown : s.vm.findClass RX6 = some m.cls := findClass_of_methodNamed B.named
  have hlocks := B.notSynchronized
  subst hsz
  have hD := hD0.self (sz := s.heap.size)
  generalize hAe : va_A (wMo cA mo fa ka da fl kp on rn lf wt nv nl nh nc cm dr dn la) s.heap.size = A at hD ⊢
  have hA : ∀ q : Nat, s.heap.size ≤ q → A q := fun q h => by rw [← hAe]; exact Or.inr h
  have hS : va_S A s.heap s.heap [] := va_S.rf
  have hD : va_D A [(mo, .inr (6, [.ref fa, .ref ka, .int on, .int rn, .int lf, .int wt, .int nv, .int nl, .int nh, .int nc, .int cm, .ref da, .int dn, .int la])), (fa, .inl (cA, 66, .inl fl)), (ka, .inl (cA, 66, .inl kp)), (da, .inl (cA, 24, .inl dr))] := hD
  have hP : va_P D vwCl [(mo, .inr (6, [.ref fa, .ref ka, .int on, .int rn, .int lf, .int wt, .int nv, .int nl, .int nh, .int nc, .int cm, .ref da, .int dn, .int la])), (fa, .inl (cA, 66, .inl fl)), (ka, .inl (cA, 66, .inl kp)), (da, .inl (cA, 24, .inl dr))] s.heap := hP
  have hl := lv_entry ([.ref mo, .int p0]) (n := 2) (Nat.le_of_ble_eq_true rfl)
  rw [lg_entry_eq]
  generalize (lg_sl ([.ref mo, .int p0]) ++ List.replicate (2 - (lg_sl ([.ref mo, .int p0])).length) Slot.unset).toArray = ls at hl ⊢
  have hl : lv_has ls 2 [(0, .ref mo), (1, .int p0)] := hl
  refine lv_aload_n hx hb dX6_isStartable_0 rfl (lv_at hl 0 rfl) ?_
  refine lv_aload_n hx hb dX6_isStartable_1 rfl (lv_at hl 0 rfl) ?_
  refine lv_iload_n hx hb dX6_isStartable_2 rfl (lv_at hl 1 rfl) ?_
  refine bx_ri (va_runV (As := [.int p0]) (rest := [.ref mo]) ⟨hx, hb, hml, hown, hts⟩ (c_X6_isSlot l D cA mo fa ka da fl kp on rn lf wt nv nl nh nc cm dr dn la p0) (cwV 1 hts gX6_isStartable_X6_isSlot rfl rfl rfl (by decide +kernel) ⟨Nat.le_of_ble_eq_true rfl, Nat.le_of_ble_eq_true rfl⟩) (bx_pvr (ci := 6) (q0 := 0) hK hG (hP.sub (ws' := [(mo, .inr (6, [.ref fa, .ref ka, .int on, .int rn, .int lf, .int wt, .int nv, .int nl, .int nh, .int nc, .int cm, .ref da, .int dn, .int la])), (fa, .inl (cA, 66, .inl fl)), (ka, .inl (cA, 66, .inl kp)), (da, .inl (cA, 24, .inl dr))]) [0, 1, 2, 3] rfl) rfl rfl) rfl rfl hl.1 rfl (lv_room (Nat.le_of_ble_eq_true rfl)) dX6_isStartable_3 ⟨Nat.zero_le _, Nat.zero_le _⟩) (fun r_1 h_2 => ?_)
  obtain ⟨h_2, b_3⟩ := h_2
  have h_2 := h_2.symm
  subst h_2
  refine lv_iconst (v := 1) hx hb dX6_isStartable_6 (by decide) ?_
  refine bx_wi (wc := [(mo, .inr (6, [.ref fa, .ref ka, .int on, .int rn, .int lf, .int wt, .int nv, .int nl, .int nh, .int nc, .int cm, .ref da, .int dn, .int la])), (fa, .inl (cA, 66, .inl fl)), (ka, .inl (cA, 66, .inl kp)), (da, .inl (cA, 24, .inl dr))]) (wr := []) (wf := fun (u : (Int32)) => [(mo, .inr (6, [.ref fa, .ref ka, .int on, .int rn, .int lf, .int wt, .int nv, .int nl, .int nh, .int nc, .int cm, .ref da, .int dn, .int u])), (fa, .inl (cA, 66, .inl fl)), (ka, .inl (cA, 66, .inl kp)), (da, .inl (cA, 24, .inl dr))]) (wn := fun (u : (Int32)) => [(mo, .inr (6, [.ref fa, .ref ka, .int on, .int rn, .int lf, .int wt, .int nv, .int nl, .int nh, .int nc, .int cm, .ref da, .int dn, .int u])), (fa, .inl (cA, 66, .inl fl)), (ka, .inl (cA, 66, .inl kp)), (da, .inl (cA, 24, .inl dr))]) hP hD hS hA [0, 1, 2, 3] [] [0, 1, 2, 3] rfl rfl (by decide) (by decide) (fun u => rfl) (by decide) (va_runV (As := [.int (F_X6_isSlot p0), .int 1]) (rest := []) ⟨hx, hb, hml, hown, hts⟩ (c_X6_goes l D cA mo fa ka da s.heap.size fl kp on rn lf wt nv nl nh nc cm dr dn la (F_X6_isSlot p0) 1) (cwV 2 hts gX6_isStartable_X6_goes rfl rfl rfl (by decide +kernel) ⟨Nat.le_of_ble_eq_true rfl, Nat.le_of_ble_eq_true rfl⟩) (bx_pv (ci := 6) (q0 := 0) hK hG (hP.sub (ws' := [(mo, .inr (6, [.ref fa, .ref ka, .int on, .int rn, .int lf, .int wt, .int nv, .int nl, .int nh, .int nc, .int cm, .ref da, .int dn, .int la])), (fa, .inl (cA, 66, .inl fl)), (ka, .inl (cA, 66, .inl kp)), (da, .inl (cA, 24, .inl dr))]) [0, 1, 2, 3] rfl) (hD.sub (ws' := [(mo, .inr (6, [.ref fa, .ref ka, .int on, .int rn, .int lf, .int wt, .int nv, .int nl, .int nh, .int nc, .int cm, .ref da, .int dn, .int la])), (fa, .inl (cA, 66, .inl fl)), (ka, .inl (cA, 66, .inl kp)), (da, .inl (cA, 24, .inl dr))]) [0, 1, 2, 3] (by decide) rfl) rfl rfl) rfl rfl hl.1 rfl (lv_room (Nat.le_of_ble_eq_true rfl)) dX6_isStartable_7 ⟨Nat.zero_le _, Nat.zero_le _⟩) (fun r_6 u_5 H locs h_4 hP hD hS => ?_)
  obtain ⟨h_4, b_8⟩ := h_4
  have hP : va_P D vwCl [(mo, .inr (6, [.ref fa, .ref ka, .int on, .int rn, .int lf, .int wt, .int nv, .int nl, .int nh, .int nc, .int cm, .ref da, .int dn, .int u_5])), (fa, .inl (cA, 66, .inl fl)), (ka, .inl (cA, 66, .inl kp)), (da, .inl (cA, 24, .inl dr))] H := hP
  have hD : va_D A [(mo, .inr (6, [.ref fa, .ref ka, .int on, .int rn, .int lf, .int wt, .int nv, .int nl, .int nh, .int nc, .int cm, .ref da, .int dn, .int u_5])), (fa, .inl (cA, 66, .inl fl)), (ka, .inl (cA, 66, .inl kp)), (da, .inl (cA, 24, .inl dr))] := hD
  refine lv_if_eq (tgt := 25) hx hb dX6_isStartable_10 (by decide) (fun c_9 => ?_) (fun c_9 => ?_)
  · skip
    refine lv_iconst (v := 0) hx hb dX6_isStartable_25 (by decide) ?_
    exact W.zret (v := 0) hx hb hr rfl (fun t ht hW => ⟨⟨0, u_5, rfl, ⟨(by simp only [F_X6_isStartable, if_pos c_9, ← h_4]), (by decide)⟩, ⟨by rw [ht]; exact hP, hD⟩⟩, hS.F ht⟩) hS.2.2 dX6_isStartable_26
  · skip
    refine lv_aload_n hx hb dX6_isStartable_13 rfl (lv_at hl 0 rfl) ?_
    refine lv_iload_n hx hb dX6_isStartable_14 rfl (lv_at hl 1 rfl) ?_
    refine bx_ri (va_runV (As := [.int p0]) (rest := []) ⟨hx, hb, hml, hown, hts⟩ (c_X6_canStart l D cA mo fa ka da fl kp on rn lf wt nv nl nh nc cm dr dn u_5 p0 (in_sl (goes_nz h_4 c_9).1)) (cwV 1 hts gX6_isStartable_X6_canStart rfl rfl rfl (by decide +kernel) ⟨Nat.le_of_ble_eq_true rfl, Nat.le_of_ble_eq_true rfl⟩) (bx_pvr (ci := 6) (q0 := 0) hK hG (hP.sub (ws' := [(mo, .inr (6, [.ref fa, .ref ka, .int on, .int rn, .int lf, .int wt, .int nv, .int nl, .int nh, .int nc, .int cm, .ref da, .int dn, .int u_5])), (fa, .inl (cA, 66, .inl fl)), (ka, .inl (cA, 66, .inl kp)), (da, .inl (cA, 24, .inl dr))]) [0, 1, 2, 3] rfl) rfl rfl) rfl rfl hl.1 rfl (lv_room (Nat.le_of_ble_eq_true rfl)) dX6_isStartable_15 ⟨Nat.zero_le _, Nat.zero_le _⟩) (fun r_10 h_11 => ?_)
    obtain ⟨h_11, b_12⟩ := h_11
    have h_11 := h_11.symm
    subst h_11
    refine lv_if_eq (tgt := 25) hx hb dX6_isStartable_18 (by decide) (fun c_13 => ?_) (fun c_13 => ?_)
    · skip
      refine lv_iconst (v := 0) hx hb dX6_isStartable_25 (by decide) ?_
      exact W.zret (v := 0) hx hb hr rfl (fun t ht hW => ⟨⟨0, u_5, rfl, ⟨(by simp only [F_X6_isStartable, if_neg c_9, if_pos c_13, ← h_4]), (by decide)⟩, ⟨by rw [ht]; exact hP, hD⟩⟩, hS.F ht⟩) hS.2.2 dX6_isStartable_26
    · skip
      refine lv_iconst (v := 1) hx hb dX6_isStartable_21 (by decide) ?_
      refine lv_goto (tgt := 26) hx hb dX6_isStartable_22 (by decide) ?_
      exact W.zret (v := 1) hx hb hr rfl (fun t ht hW => ⟨⟨1, u_5, rfl, ⟨(by simp only [F_X6_isStartable, if_neg c_9, if_neg c_13, ← h_4]), (by decide)⟩, ⟨by rw [ht]; exact hP, hD⟩⟩, hS.F ht⟩) hS.2.2 dX6_isStartable_26
def F_X6_version (fl : Nat → Int32) (p0 : Int32) : Int32 × (Int32) := (match (F_X6_goes (F_X6_isSlot p0) 1) with | (r_6, u_5) => (if r_6 = 0 then (0, u_5) else ((rd fl ((29 * p0) + 1)), u_5)))
set_option maxHeartbeats 4000000 in
set_option maxRecDepth 100000 in
theorem c_X6_version (l : Launch) (D : va_G) (cA : ClassId) (mo fa ka da : Nat) (sz : Nat) (fl : Nat → Int32) (kp : Nat → Int32) (on : Int32) (rn : Int32) (lf : Int32) (wt : Int32) (nv : Int32) (nl : Int32) (nh : Int32) (nc : Int32) (cm : Int32) (dr : Nat → Int32) (dn : Int32) (la : Int32) (p0 : Int32) : Met l yX6_version wsX6_version ({ frames := 2, cells := 0, slots := 0, locals := 43 }) (va_Pc [.ref mo, .int p0] (bx_pre D [(cA, .int)] (wMo cA mo fa ka da fl kp on rn lf wt nv nl nh nc cm dr dn la) sz)) (va_Qi (fun r u => (r, u) = F_X6_version fl p0) (fun u t => bx_at D (wMo cA mo fa ka da fl kp on rn lf wt nv nl nh nc cm dr dn u) (va_A (wMo cA mo fa ka da fl kp on rn lf wt nv nl nh nc cm dr dn la) sz) t) (va_A (wMo cA mo fa ka da fl kp on rn lf wt nv nl nh nc cm dr dn la) sz)) 0 0 (va_A (wMo cA mo fa ka da fl kp on rn lf wt nv nl nh nc cm dr dn la) sz) := by
  refine Met.ofW (cc := cX6_version) (maxL := 2) (ret := (some .int)) (by decide) rfl ?_
  intro p e s m args below meth c s₁ B hml hv
  obtain ⟨rfl, hsz, hP, hK, hD0, hG⟩ := hv
  have hx := B.exec
  have hb := B.bytes
  have hr := B.returns
  have hts := atoms_spec (ws := wsX6_version) B.pre
  have hown : s.vm.findClass RX6 = some m.cls := findClass_of_methodNamed B.named
  have hlocks := B.notSynchronized
  subst hsz
  have hD := hD0.self (sz := s.heap.size)
  generalize hAe : va_A (wMo cA mo fa ka da fl kp on rn lf wt nv nl nh nc cm dr dn la) s.heap.size = A at hD ⊢
  have hA : ∀ q : Nat, s.heap.size ≤ q → A q := fun q h => by rw [← hAe]; exact Or.inr h
  have hS : va_S A s.heap s.heap [] := va_S.rf
  have hD : va_D A [(mo, .inr (6, [.ref fa, .ref ka, .int on, .int rn, .int lf, .int wt, .int nv, .int nl, .int nh, .int nc, .int cm, .ref da, .int dn, .int la])), (fa, .inl (cA, 66, .inl fl)), (ka, .inl (cA, 66, .inl kp)), (da, .inl (cA, 24, .inl dr))] := hD
  have hP : va_P D vwCl [(mo, .inr (6, [.ref fa, .ref ka, .int on, .int rn, .int lf, .int wt, .int nv, .int nl, .int nh, .int nc, .int cm, .ref da, .int dn, .int la])), (fa, .inl (cA, 66, .inl fl)), (ka, .inl (cA, 66, .inl kp)), (da, .inl (cA, 24, .inl dr))] s.heap := hP
  have hl := lv_entry ([.ref mo, .int p0]) (n := 2) (Nat.le_of_ble_eq_true rfl)
  rw [lg_entry_eq]
  generalize (lg_sl ([.ref mo, .int p0]) ++ List.replicate (2 - (lg_sl ([.ref mo, .int p0])).length) Slot.unset).toArray = ls at hl ⊢
  have hl : lv_has ls 2 [(0, .ref mo), (1, .int p0)] := hl
  have hi6 : ∀ w ∈ u_ws RX6 TX6 14, w ∈ wsX6_version := by decide +kernel
  refine lv_aload_n hx hb dX6_version_0 rfl (lv_at hl 0 rfl) ?_
  refine lv_aload_n hx hb dX6_version_1 rfl (lv_at hl 0 rfl) ?_
  refine lv_iload_n hx hb dX6_version_2 rfl (lv_at hl 1 rfl) ?_
  refine bx_ri (va_runV (As := [.int p0]) (rest := [.ref mo]) ⟨hx, hb, hml, hown, hts⟩ (c_X6_isSlot l D cA mo fa ka da fl kp on rn lf wt nv nl nh nc cm dr dn la p0) (cwV 1 hts gX6_version_X6_isSlot rfl rfl rfl (by decide +kernel) ⟨Nat.le_of_ble_eq_true rfl, Nat.le_of_ble_eq_true rfl⟩) (bx_pvr (ci := 6) (q0 := 0) hK hG (hP.sub (ws' := [(mo, .inr (6, [.ref fa, .ref ka, .int on, .int rn, .int lf, .int wt, .int nv, .int nl, .int nh, .int nc, .int cm, .ref da, .int dn, .int la])), (fa, .inl (cA, 66, .inl fl)), (ka, .inl (cA, 66, .inl kp)), (da, .inl (cA, 24, .inl dr))]) [0, 1, 2, 3] rfl) rfl rfl) rfl rfl hl.1 rfl (lv_room (Nat.le_of_ble_eq_true rfl)) dX6_version_3 ⟨Nat.zero_le _, Nat.zero_le _⟩) (fun r_1 h_2 => ?_)
  obtain ⟨h_2, b_3⟩ := h_2
  have h_2 := h_2.symm
  subst h_2
  refine lv_iconst (v := 1) hx hb dX6_version_6 (by decide) ?_
  refine bx_wi (wc := [(mo, .inr (6, [.ref fa, .ref ka, .int on, .int rn, .int lf, .int wt, .int nv, .int nl, .int nh, .int nc, .int cm, .ref da, .int dn, .int la])), (fa, .inl (cA, 66, .inl fl)), (ka, .inl (cA, 66, .inl kp)), (da, .inl (cA, 24, .inl dr))]) (wr := []) (wf := fun (u : (Int32)) => [(mo, .inr (6, [.ref fa, .ref ka, .int on, .int rn, .int lf, .int wt, .int nv, .int nl, .int nh, .int nc, .int cm, .ref da, .int dn, .int u])), (fa, .inl (cA, 66, .inl fl)), (ka, .inl (cA, 66, .inl kp)), (da, .inl (cA, 24, .inl dr))]) (wn := fun (u : (Int32)) => [(mo, .inr (6, [.ref fa, .ref ka, .int on, .int rn, .int lf, .int wt, .int nv, .int nl, .int nh, .int nc, .int cm, .ref da, .int dn, .int u])), (fa, .inl (cA, 66, .inl fl)), (ka, .inl (cA, 66, .inl kp)), (da, .inl (cA, 24, .inl dr))]) hP hD hS hA [0, 1, 2, 3] [] [0, 1, 2, 3] rfl rfl (by decide) (by decide) (fun u => rfl) (by decide) (va_runV (As := [.int (F_X6_isSlot p0), .int 1]) (rest := []) ⟨hx, hb, hml, hown, hts⟩ (c_X6_goes l D cA mo fa ka da s.heap.size fl kp on rn lf wt nv nl nh nc cm dr dn la (F_X6_isSlot p0) 1) (cwV 2 hts gX6_version_X6_goes rfl rfl rfl (by decide +kernel) ⟨Nat.le_of_ble_eq_true rfl, Nat.le_of_ble_eq_true rfl⟩) (bx_pv (ci := 6) (q0 := 0) hK hG (hP.sub (ws' := [(mo, .inr (6, [.ref fa, .ref ka, .int on, .int rn, .int lf, .int wt, .int nv, .int nl, .int nh, .int nc, .int cm, .ref da, .int dn, .int la])), (fa, .inl (cA, 66, .inl fl)), (ka, .inl (cA, 66, .inl kp)), (da, .inl (cA, 24, .inl dr))]) [0, 1, 2, 3] rfl) (hD.sub (ws' := [(mo, .inr (6, [.ref fa, .ref ka, .int on, .int rn, .int lf, .int wt, .int nv, .int nl, .int nh, .int nc, .int cm, .ref da, .int dn, .int la])), (fa, .inl (cA, 66, .inl fl)), (ka, .inl (cA, 66, .inl kp)), (da, .inl (cA, 24, .inl dr))]) [0, 1, 2, 3] (by decide) rfl) rfl rfl) rfl rfl hl.1 rfl (lv_room (Nat.le_of_ble_eq_true rfl)) dX6_version_7 ⟨Nat.zero_le _, Nat.zero_le _⟩) (fun r_6 u_5 H locs h_4 hP hD hS => ?_)
  obtain ⟨h_4, b_8⟩ := h_4
  have hP : va_P D vwCl [(mo, .inr (6, [.ref fa, .ref ka, .int on, .int rn, .int lf, .int wt, .int nv, .int nl, .int nh, .int nc, .int cm, .ref da, .int dn, .int u_5])), (fa, .inl (cA, 66, .inl fl)), (ka, .inl (cA, 66, .inl kp)), (da, .inl (cA, 24, .inl dr))] H := hP
  have hD : va_D A [(mo, .inr (6, [.ref fa, .ref ka, .int on, .int rn, .int lf, .int wt, .int nv, .int nl, .int nh, .int nc, .int cm, .ref da, .int dn, .int u_5])), (fa, .inl (cA, 66, .inl fl)), (ka, .inl (cA, 66, .inl kp)), (da, .inl (cA, 24, .inl dr))] := hD
  refine lv_if_eq (tgt := 27) hx hb dX6_version_10 (by decide) (fun c_9 => ?_) (fun c_9 => ?_)
  · skip
    refine lv_iconst (v := 0) hx hb dX6_version_27 (by decide) ?_
    exact W.iret (v := 0) hx hb hr (fun t ht hW => ⟨⟨0, u_5, rfl, (by simp only [F_X6_version, if_pos c_9, ← h_4]), ⟨by rw [ht]; exact hP, hD⟩⟩, hS.F ht⟩) hS.2.2 dX6_version_28
  · skip
    refine lv_aload_n hx hb dX6_version_13 rfl (lv_at hl 0 rfl) ?_
    refine va_get (D := D) (ci := 6) (v := .ref fa) (C := RX6) (T := TX6) (N := 14) hx hb hts hi6 hown hK hP 0 rfl rfl 0 (by decide) (hts (.fieldLink RX6 7 "BootstayModel" "flash" "[I") (by decide +kernel)) (fun _ h9 => h9) rfl dX6_version_14 ?_
    refine lv_bipush (v := 29) hx hb dX6_version_17 (by decide) ?_
    refine lv_iload_n hx hb dX6_version_19 rfl (lv_at hl 1 rfl) ?_
    refine lv_imul hx hb dX6_version_20 ?_
    refine lv_iconst (v := 1) hx hb dX6_version_21 (by decide) ?_
    refine lv_iadd hx hb dX6_version_22 ?_
    refine bx_ald (D := D) hx hb hK hP 1 0 rfl rfl (vp_in_iff.mpr (by rcases (in_sl (goes_nz h_4 c_9).1) with h | h <;> rw [h] <;> decide)) dX6_version_23 ?_
    refine lv_goto (tgt := 28) hx hb dX6_version_24 (by decide) ?_
    exact W.iret (v := (rd fl ((29 * p0) + 1))) hx hb hr (fun t ht hW => ⟨⟨(rd fl ((29 * p0) + 1)), u_5, rfl, (by simp only [F_X6_version, if_neg c_9, ← h_4]), ⟨by rw [ht]; exact hP, hD⟩⟩, hS.F ht⟩) hS.2.2 dX6_version_28
def F_X6_imageByte (fl : Nat → Int32) (p0 : Int32) (p1 : Int32) : Int32 × (Int32) := (match (F_X6_goes (F_X6_isSlot p0) (F_X6_in p1 0 23)) with | (r_9, u_8) => (if r_9 = 0 then (0, u_8) else ((rd fl (((29 * p0) + 5) + p1)), u_8)))
set_option maxHeartbeats 4000000 in
set_option maxRecDepth 100000 in
theorem c_X6_imageByte (l : Launch) (D : va_G) (cA : ClassId) (mo fa ka da : Nat) (sz : Nat) (fl : Nat → Int32) (kp : Nat → Int32) (on : Int32) (rn : Int32) (lf : Int32) (wt : Int32) (nv : Int32) (nl : Int32) (nh : Int32) (nc : Int32) (cm : Int32) (dr : Nat → Int32) (dn : Int32) (la : Int32) (p0 : Int32) (p1 : Int32) : Met l yX6_imageByte wsX6_imageByte ({ frames := 2, cells := 0, slots := 0, locals := 43 }) (va_Pc [.ref mo, .int p0, .int p1] (bx_pre D [(cA, .int)] (wMo cA mo fa ka da fl kp on rn lf wt nv nl nh nc cm dr dn la) sz)) (va_Qi (fun r u => (r, u) = F_X6_imageByte fl p0 p1) (fun u t => bx_at D (wMo cA mo fa ka da fl kp on rn lf wt nv nl nh nc cm dr dn u) (va_A (wMo cA mo fa ka da fl kp on rn lf wt nv nl nh nc cm dr dn la) sz) t) (va_A (wMo cA mo fa ka da fl kp on rn lf wt nv nl nh nc cm dr dn la) sz)) 0 0 (va_A (wMo cA mo fa ka da fl kp on rn lf wt nv nl nh nc cm dr dn la) sz) := by
  refine Met.ofW (cc := cX6_imageByte) (maxL := 3) (ret := (some .int)) (by decide) rfl ?_
  intro p e s m args below meth c s₁ B hml hv
  obtain ⟨rfl, hsz, hP, hK, hD0, hG⟩ := hv
  have hx := B.exec
  have hb := B.bytes
  have hr := B.returns
  have hts := atoms_spec (ws := wsX6_imageByte) B.pre
  have hown : s.vm.findClass RX6 = some m.cls := findClass_of_methodNamed B.named
  have hlocks := B.notSynchronized
  subst hsz
  have hD := hD0.self (sz := s.heap.size)
  generalize hAe : va_A (wMo cA mo fa ka da fl kp on rn lf wt nv nl nh nc cm dr dn la) s.heap.size = A at hD ⊢
  have hA : ∀ q : Nat, s.heap.size ≤ q → A q := fun q h => by rw [← hAe]; exact Or.inr h
  have hS : va_S A s.heap s.heap [] := va_S.rf
  have hD : va_D A [(mo, .inr (6, [.ref fa, .ref ka, .int on, .int rn, .int lf, .int wt, .int nv, .int nl, .int nh, .int nc, .int cm, .ref da, .int dn, .int la])), (fa, .inl (cA, 66, .inl fl)), (ka, .inl (cA, 66, .inl kp)), (da, .inl (cA, 24, .inl dr))] := hD
  have hP : va_P D vwCl [(mo, .inr (6, [.ref fa, .ref ka, .int on, .int rn, .int lf, .int wt, .int nv, .int nl, .int nh, .int nc, .int cm, .ref da, .int dn, .int la])), (fa, .inl (cA, 66, .inl fl)), (ka, .inl (cA, 66, .inl kp)), (da, .inl (cA, 24, .inl dr))] s.heap := hP
  have hl := lv_entry ([.ref mo, .int p0, .int p1]) (n := 3) (Nat.le_of_ble_eq_true rfl)
  rw [lg_entry_eq]
  generalize (lg_sl ([.ref mo, .int p0, .int p1]) ++ List.replicate (3 - (lg_sl ([.ref mo, .int p0, .int p1])).length) Slot.unset).toArray = ls at hl ⊢
  have hl : lv_has ls 3 [(0, .ref mo), (1, .int p0), (2, .int p1)] := hl
  have hi6 : ∀ w ∈ u_ws RX6 TX6 14, w ∈ wsX6_imageByte := by decide +kernel
  refine lv_aload_n hx hb dX6_imageByte_0 rfl (lv_at hl 0 rfl) ?_
  refine lv_aload_n hx hb dX6_imageByte_1 rfl (lv_at hl 0 rfl) ?_
  refine lv_iload_n hx hb dX6_imageByte_2 rfl (lv_at hl 1 rfl) ?_
  refine bx_ri (va_runV (As := [.int p0]) (rest := [.ref mo]) ⟨hx, hb, hml, hown, hts⟩ (c_X6_isSlot l D cA mo fa ka da fl kp on rn lf wt nv nl nh nc cm dr dn la p0) (cwV 1 hts gX6_imageByte_X6_isSlot rfl rfl rfl (by decide +kernel) ⟨Nat.le_of_ble_eq_true rfl, Nat.le_of_ble_eq_true rfl⟩) (bx_pvr (ci := 6) (q0 := 0) hK hG (hP.sub (ws' := [(mo, .inr (6, [.ref fa, .ref ka, .int on, .int rn, .int lf, .int wt, .int nv, .int nl, .int nh, .int nc, .int cm, .ref da, .int dn, .int la])), (fa, .inl (cA, 66, .inl fl)), (ka, .inl (cA, 66, .inl kp)), (da, .inl (cA, 24, .inl dr))]) [0, 1, 2, 3] rfl) rfl rfl) rfl rfl hl.1 rfl (lv_room (Nat.le_of_ble_eq_true rfl)) dX6_imageByte_3 ⟨Nat.zero_le _, Nat.zero_le _⟩) (fun r_1 h_2 => ?_)
  obtain ⟨h_2, b_3⟩ := h_2
  have h_2 := h_2.symm
  subst h_2
  refine lv_iload_n hx hb dX6_imageByte_6 rfl (lv_at hl 2 rfl) ?_
  refine lv_iconst (v := 0) hx hb dX6_imageByte_7 (by decide) ?_
  refine lv_bipush (v := 23) hx hb dX6_imageByte_8 (by decide) ?_
  refine bx_ri (va_runS (As := [.int p1, .int 0, .int 23]) (rest := [.int (F_X6_isSlot p0), .ref mo]) ⟨hx, hb, hml, hown, hts⟩ (c_X6_in l D p1 0 23) (va_cwS 3 hts gX6_imageByte_X6_in rfl rfl rfl (by decide +kernel) ⟨Nat.le_of_ble_eq_true rfl, Nat.le_of_ble_eq_true rfl⟩) (bx_psr (hK.sub (tys' := []) [] rfl) hG (hP.sub (ws' := []) [] rfl)) rfl rfl hl.1 rfl (lv_room (Nat.le_of_ble_eq_true rfl)) dX6_imageByte_10 ⟨Nat.zero_le _, Nat.zero_le _⟩) (fun r_4 h_5 => ?_)
  obtain ⟨h_5, b_6⟩ := h_5
  have h_5 := h_5.symm
  subst h_5
  refine bx_wi (wc := [(mo, .inr (6, [.ref fa, .ref ka, .int on, .int rn, .int lf, .int wt, .int nv, .int nl, .int nh, .int nc, .int cm, .ref da, .int dn, .int la])), (fa, .inl (cA, 66, .inl fl)), (ka, .inl (cA, 66, .inl kp)), (da, .inl (cA, 24, .inl dr))]) (wr := []) (wf := fun (u : (Int32)) => [(mo, .inr (6, [.ref fa, .ref ka, .int on, .int rn, .int lf, .int wt, .int nv, .int nl, .int nh, .int nc, .int cm, .ref da, .int dn, .int u])), (fa, .inl (cA, 66, .inl fl)), (ka, .inl (cA, 66, .inl kp)), (da, .inl (cA, 24, .inl dr))]) (wn := fun (u : (Int32)) => [(mo, .inr (6, [.ref fa, .ref ka, .int on, .int rn, .int lf, .int wt, .int nv, .int nl, .int nh, .int nc, .int cm, .ref da, .int dn, .int u])), (fa, .inl (cA, 66, .inl fl)), (ka, .inl (cA, 66, .inl kp)), (da, .inl (cA, 24, .inl dr))]) hP hD hS hA [0, 1, 2, 3] [] [0, 1, 2, 3] rfl rfl (by decide) (by decide) (fun u => rfl) (by decide) (va_runV (As := [.int (F_X6_isSlot p0), .int (F_X6_in p1 0 23)]) (rest := []) ⟨hx, hb, hml, hown, hts⟩ (c_X6_goes l D cA mo fa ka da s.heap.size fl kp on rn lf wt nv nl nh nc cm dr dn la (F_X6_isSlot p0) (F_X6_in p1 0 23)) (cwV 2 hts gX6_imageByte_X6_goes rfl rfl rfl (by decide +kernel) ⟨Nat.le_of_ble_eq_true rfl, Nat.le_of_ble_eq_true rfl⟩) (bx_pv (ci := 6) (q0 := 0) hK hG (hP.sub (ws' := [(mo, .inr (6, [.ref fa, .ref ka, .int on, .int rn, .int lf, .int wt, .int nv, .int nl, .int nh, .int nc, .int cm, .ref da, .int dn, .int la])), (fa, .inl (cA, 66, .inl fl)), (ka, .inl (cA, 66, .inl kp)), (da, .inl (cA, 24, .inl dr))]) [0, 1, 2, 3] rfl) (hD.sub (ws' := [(mo, .inr (6, [.ref fa, .ref ka, .int on, .int rn, .int lf, .int wt, .int nv, .int nl, .int nh, .int nc, .int cm, .ref da, .int dn, .int la])), (fa, .inl (cA, 66, .inl fl)), (ka, .inl (cA, 66, .inl kp)), (da, .inl (cA, 24, .inl dr))]) [0, 1, 2, 3] (by decide) rfl) rfl rfl) rfl rfl hl.1 rfl (lv_room (Nat.le_of_ble_eq_true rfl)) dX6_imageByte_13 ⟨Nat.zero_le _, Nat.zero_le _⟩) (fun r_9 u_8 H locs h_7 hP hD hS => ?_)
  obtain ⟨h_7, b_11⟩ := h_7
  have hP : va_P D vwCl [(mo, .inr (6, [.ref fa, .ref ka, .int on, .int rn, .int lf, .int wt, .int nv, .int nl, .int nh, .int nc, .int cm, .ref da, .int dn, .int u_8])), (fa, .inl (cA, 66, .inl fl)), (ka, .inl (cA, 66, .inl kp)), (da, .inl (cA, 24, .inl dr))] H := hP
  have hD : va_D A [(mo, .inr (6, [.ref fa, .ref ka, .int on, .int rn, .int lf, .int wt, .int nv, .int nl, .int nh, .int nc, .int cm, .ref da, .int dn, .int u_8])), (fa, .inl (cA, 66, .inl fl)), (ka, .inl (cA, 66, .inl kp)), (da, .inl (cA, 24, .inl dr))] := hD
  refine lv_if_eq (tgt := 35) hx hb dX6_imageByte_16 (by decide) (fun c_12 => ?_) (fun c_12 => ?_)
  · skip
    refine lv_iconst (v := 0) hx hb dX6_imageByte_35 (by decide) ?_
    exact W.iret (v := 0) hx hb hr (fun t ht hW => ⟨⟨0, u_8, rfl, (by simp only [F_X6_imageByte, if_pos c_12, ← h_7]), ⟨by rw [ht]; exact hP, hD⟩⟩, hS.F ht⟩) hS.2.2 dX6_imageByte_36
  · skip
    refine lv_aload_n hx hb dX6_imageByte_19 rfl (lv_at hl 0 rfl) ?_
    refine va_get (D := D) (ci := 6) (v := .ref fa) (C := RX6) (T := TX6) (N := 14) hx hb hts hi6 hown hK hP 0 rfl rfl 0 (by decide) (hts (.fieldLink RX6 7 "BootstayModel" "flash" "[I") (by decide +kernel)) (fun _ h9 => h9) rfl dX6_imageByte_20 ?_
    refine lv_bipush (v := 29) hx hb dX6_imageByte_23 (by decide) ?_
    refine lv_iload_n hx hb dX6_imageByte_25 rfl (lv_at hl 1 rfl) ?_
    refine lv_imul hx hb dX6_imageByte_26 ?_
    refine lv_iconst (v := 5) hx hb dX6_imageByte_27 (by decide) ?_
    refine lv_iadd hx hb dX6_imageByte_28 ?_
    refine lv_iload_n hx hb dX6_imageByte_29 rfl (lv_at hl 2 rfl) ?_
    refine lv_iadd hx hb dX6_imageByte_30 ?_
    refine bx_ald (D := D) hx hb hK hP 1 0 rfl rfl (vi5 (in_sl (goes_nz h_7 c_12).1) (in_23 (goes_nz h_7 c_12).2)) dX6_imageByte_31 ?_
    refine lv_goto (tgt := 36) hx hb dX6_imageByte_32 (by decide) ?_
    exact W.iret (v := (rd fl (((29 * p0) + 5) + p1))) hx hb hr (fun t ht hW => ⟨⟨(rd fl (((29 * p0) + 5) + p1)), u_8, rfl, (by simp only [F_X6_imageByte, if_neg c_12, ← h_7]), ⟨by rw [ht]; exact hP, hD⟩⟩, hS.F ht⟩) hS.2.2 dX6_imageByte_36
def F_X6_isValid (fl : Nat → Int32) (p0 : Int32) : Int32 × (Int32) := (match (F_X6_goes (F_X6_in p0 0 1) 1) with | (r_6, u_5) => (if r_6 = 0 then (0, u_5) else (if (F_X6_holds fl p0) = 0 then (0, u_5) else (1, u_5))))
set_option maxHeartbeats 4000000 in
set_option maxRecDepth 100000 in
theorem c_X6_isValid (l : Launch) (D : va_G) (cA : ClassId) (mo fa ka da : Nat) (sz : Nat) (fl : Nat → Int32) (kp : Nat → Int32) (on : Int32) (rn : Int32) (lf : Int32) (wt : Int32) (nv : Int32) (nl : Int32) (nh : Int32) (nc : Int32) (cm : Int32) (dr : Nat → Int32) (dn : Int32) (la : Int32) (p0 : Int32) : Met l yX6_isValid wsX6_isValid ({ frames := 2, cells := 0, slots := 0, locals := 43 }) (va_Pc [.ref mo, .int p0] (bx_pre D [(cA, .int)] (wMo cA mo fa ka da fl kp on rn lf wt nv nl nh nc cm dr dn la) sz)) (va_Qi (fun r u => (r, u) = F_X6_isValid fl p0 ∧ (r = 0 ∨ r = 1)) (fun u t => bx_at D (wMo cA mo fa ka da fl kp on rn lf wt nv nl nh nc cm dr dn u) (va_A (wMo cA mo fa ka da fl kp on rn lf wt nv nl nh nc cm dr dn la) sz) t) (va_A (wMo cA mo fa ka da fl kp on rn lf wt nv nl nh nc cm dr dn la) sz)) 0 0 (va_A (wMo cA mo fa ka da fl kp on rn lf wt nv nl nh nc cm dr dn la) sz) := by
  refine Met.ofW (cc := cX6_isValid) (maxL := 2) (ret := (some .boolean)) (by decide) rfl ?_
  intro p e s m args below meth c s₁ B hml hv
  obtain ⟨rfl, hsz, hP, hK, hD0, hG⟩ := hv
  have hx := B.exec
  have hb := B.bytes
  have hr := B.returns
  have hts := atoms_spec (ws := wsX6_isValid) B.pre
  have hown : s.vm.findClass RX6 = some m.cls := findClass_of_methodNamed B.named
  have hlocks := B.notSynchronized
  subst hsz
  have hD := hD0.self (sz := s.heap.size)
  generalize hAe : va_A (wMo cA mo fa ka da fl kp on rn lf wt nv nl nh nc cm dr dn la) s.heap.size = A at hD ⊢
  have hA : ∀ q : Nat, s.heap.size ≤ q → A q := fun q h => by rw [← hAe]; exact Or.inr h
  have hS : va_S A s.heap s.heap [] := va_S.rf
  have hD : va_D A [(mo, .inr (6, [.ref fa, .ref ka, .int on, .int rn, .int lf, .int wt, .int nv, .int nl, .int nh, .int nc, .int cm, .ref da, .int dn, .int la])), (fa, .inl (cA, 66, .inl fl)), (ka, .inl (cA, 66, .inl kp)), (da, .inl (cA, 24, .inl dr))] := hD
  have hP : va_P D vwCl [(mo, .inr (6, [.ref fa, .ref ka, .int on, .int rn, .int lf, .int wt, .int nv, .int nl, .int nh, .int nc, .int cm, .ref da, .int dn, .int la])), (fa, .inl (cA, 66, .inl fl)), (ka, .inl (cA, 66, .inl kp)), (da, .inl (cA, 24, .inl dr))] s.heap := hP
  have hl := lv_entry ([.ref mo, .int p0]) (n := 2) (Nat.le_of_ble_eq_true rfl)
  rw [lg_entry_eq]
  generalize (lg_sl ([.ref mo, .int p0]) ++ List.replicate (2 - (lg_sl ([.ref mo, .int p0])).length) Slot.unset).toArray = ls at hl ⊢
  have hl : lv_has ls 2 [(0, .ref mo), (1, .int p0)] := hl
  refine lv_aload_n hx hb dX6_isValid_0 rfl (lv_at hl 0 rfl) ?_
  refine lv_iload_n hx hb dX6_isValid_1 rfl (lv_at hl 1 rfl) ?_
  refine lv_iconst (v := 0) hx hb dX6_isValid_2 (by decide) ?_
  refine lv_iconst (v := 1) hx hb dX6_isValid_3 (by decide) ?_
  refine bx_ri (va_runS (As := [.int p0, .int 0, .int 1]) (rest := [.ref mo]) ⟨hx, hb, hml, hown, hts⟩ (c_X6_in l D p0 0 1) (va_cwS 3 hts gX6_isValid_X6_in rfl rfl rfl (by decide +kernel) ⟨Nat.le_of_ble_eq_true rfl, Nat.le_of_ble_eq_true rfl⟩) (bx_psr (hK.sub (tys' := []) [] rfl) hG (hP.sub (ws' := []) [] rfl)) rfl rfl hl.1 rfl (lv_room (Nat.le_of_ble_eq_true rfl)) dX6_isValid_4 ⟨Nat.zero_le _, Nat.zero_le _⟩) (fun r_1 h_2 => ?_)
  obtain ⟨h_2, b_3⟩ := h_2
  have h_2 := h_2.symm
  subst h_2
  refine lv_iconst (v := 1) hx hb dX6_isValid_7 (by decide) ?_
  refine bx_wi (wc := [(mo, .inr (6, [.ref fa, .ref ka, .int on, .int rn, .int lf, .int wt, .int nv, .int nl, .int nh, .int nc, .int cm, .ref da, .int dn, .int la])), (fa, .inl (cA, 66, .inl fl)), (ka, .inl (cA, 66, .inl kp)), (da, .inl (cA, 24, .inl dr))]) (wr := []) (wf := fun (u : (Int32)) => [(mo, .inr (6, [.ref fa, .ref ka, .int on, .int rn, .int lf, .int wt, .int nv, .int nl, .int nh, .int nc, .int cm, .ref da, .int dn, .int u])), (fa, .inl (cA, 66, .inl fl)), (ka, .inl (cA, 66, .inl kp)), (da, .inl (cA, 24, .inl dr))]) (wn := fun (u : (Int32)) => [(mo, .inr (6, [.ref fa, .ref ka, .int on, .int rn, .int lf, .int wt, .int nv, .int nl, .int nh, .int nc, .int cm, .ref da, .int dn, .int u])), (fa, .inl (cA, 66, .inl fl)), (ka, .inl (cA, 66, .inl kp)), (da, .inl (cA, 24, .inl dr))]) hP hD hS hA [0, 1, 2, 3] [] [0, 1, 2, 3] rfl rfl (by decide) (by decide) (fun u => rfl) (by decide) (va_runV (As := [.int (F_X6_in p0 0 1), .int 1]) (rest := []) ⟨hx, hb, hml, hown, hts⟩ (c_X6_goes l D cA mo fa ka da s.heap.size fl kp on rn lf wt nv nl nh nc cm dr dn la (F_X6_in p0 0 1) 1) (cwV 2 hts gX6_isValid_X6_goes rfl rfl rfl (by decide +kernel) ⟨Nat.le_of_ble_eq_true rfl, Nat.le_of_ble_eq_true rfl⟩) (bx_pv (ci := 6) (q0 := 0) hK hG (hP.sub (ws' := [(mo, .inr (6, [.ref fa, .ref ka, .int on, .int rn, .int lf, .int wt, .int nv, .int nl, .int nh, .int nc, .int cm, .ref da, .int dn, .int la])), (fa, .inl (cA, 66, .inl fl)), (ka, .inl (cA, 66, .inl kp)), (da, .inl (cA, 24, .inl dr))]) [0, 1, 2, 3] rfl) (hD.sub (ws' := [(mo, .inr (6, [.ref fa, .ref ka, .int on, .int rn, .int lf, .int wt, .int nv, .int nl, .int nh, .int nc, .int cm, .ref da, .int dn, .int la])), (fa, .inl (cA, 66, .inl fl)), (ka, .inl (cA, 66, .inl kp)), (da, .inl (cA, 24, .inl dr))]) [0, 1, 2, 3] (by decide) rfl) rfl rfl) rfl rfl hl.1 rfl (lv_room (Nat.le_of_ble_eq_true rfl)) dX6_isValid_8 ⟨Nat.zero_le _, Nat.zero_le _⟩) (fun r_6 u_5 H locs h_4 hP hD hS => ?_)
  obtain ⟨h_4, b_8⟩ := h_4
  have hP : va_P D vwCl [(mo, .inr (6, [.ref fa, .ref ka, .int on, .int rn, .int lf, .int wt, .int nv, .int nl, .int nh, .int nc, .int cm, .ref da, .int dn, .int u_5])), (fa, .inl (cA, 66, .inl fl)), (ka, .inl (cA, 66, .inl kp)), (da, .inl (cA, 24, .inl dr))] H := hP
  have hD : va_D A [(mo, .inr (6, [.ref fa, .ref ka, .int on, .int rn, .int lf, .int wt, .int nv, .int nl, .int nh, .int nc, .int cm, .ref da, .int dn, .int u_5])), (fa, .inl (cA, 66, .inl fl)), (ka, .inl (cA, 66, .inl kp)), (da, .inl (cA, 24, .inl dr))] := hD
  refine lv_if_eq (tgt := 26) hx hb dX6_isValid_11 (by decide) (fun c_9 => ?_) (fun c_9 => ?_)
  · skip
    refine lv_iconst (v := 0) hx hb dX6_isValid_26 (by decide) ?_
    exact W.zret (v := 0) hx hb hr rfl (fun t ht hW => ⟨⟨0, u_5, rfl, ⟨(by simp only [F_X6_isValid, if_pos c_9, ← h_4]), (by decide)⟩, ⟨by rw [ht]; exact hP, hD⟩⟩, hS.F ht⟩) hS.2.2 dX6_isValid_27
  · skip
    refine lv_aload_n hx hb dX6_isValid_14 rfl (lv_at hl 0 rfl) ?_
    refine lv_iload_n hx hb dX6_isValid_15 rfl (lv_at hl 1 rfl) ?_
    refine bx_ri (va_runV (As := [.int p0]) (rest := []) ⟨hx, hb, hml, hown, hts⟩ (c_X6_holds l D cA mo fa ka da fl kp on rn lf wt nv nl nh nc cm dr dn u_5 p0 (in_sl (goes_nz h_4 c_9).1)) (cwV 1 hts gX6_isValid_X6_holds rfl rfl rfl (by decide +kernel) ⟨Nat.le_of_ble_eq_true rfl, Nat.le_of_ble_eq_true rfl⟩) (bx_pvr (ci := 6) (q0 := 0) hK hG (hP.sub (ws' := [(mo, .inr (6, [.ref fa, .ref ka, .int on, .int rn, .int lf, .int wt, .int nv, .int nl, .int nh, .int nc, .int cm, .ref da, .int dn, .int u_5])), (fa, .inl (cA, 66, .inl fl)), (ka, .inl (cA, 66, .inl kp)), (da, .inl (cA, 24, .inl dr))]) [0, 1, 2, 3] rfl) rfl rfl) rfl rfl hl.1 rfl (lv_room (Nat.le_of_ble_eq_true rfl)) dX6_isValid_16 ⟨Nat.zero_le _, Nat.zero_le _⟩) (fun r_10 h_11 => ?_)
    obtain ⟨h_11, b_12⟩ := h_11
    have h_11 := h_11.symm
    subst h_11
    refine lv_if_eq (tgt := 26) hx hb dX6_isValid_19 (by decide) (fun c_13 => ?_) (fun c_13 => ?_)
    · skip
      refine lv_iconst (v := 0) hx hb dX6_isValid_26 (by decide) ?_
      exact W.zret (v := 0) hx hb hr rfl (fun t ht hW => ⟨⟨0, u_5, rfl, ⟨(by simp only [F_X6_isValid, if_neg c_9, if_pos c_13, ← h_4]), (by decide)⟩, ⟨by rw [ht]; exact hP, hD⟩⟩, hS.F ht⟩) hS.2.2 dX6_isValid_27
    · skip
      refine lv_iconst (v := 1) hx hb dX6_isValid_22 (by decide) ?_
      refine lv_goto (tgt := 27) hx hb dX6_isValid_23 (by decide) ?_
      exact W.zret (v := 1) hx hb hr rfl (fun t ht hW => ⟨⟨1, u_5, rfl, ⟨(by simp only [F_X6_isValid, if_neg c_9, if_neg c_13, ← h_4]), (by decide)⟩, ⟨by rw [ht]; exact hP, hD⟩⟩, hS.F ht⟩) hS.2.2 dX6_isValid_27
