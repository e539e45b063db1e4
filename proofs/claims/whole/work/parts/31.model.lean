abbrev wMo (cA : ClassId) (mo fa ka da : Nat) (fl : Nat → Int32) (kp : Nat → Int32) (on : Int32) (rn : Int32) (lf : Int32) (wt : Int32) (nv : Int32) (nl : Int32) (nh : Int32) (nc : Int32) (cm : Int32) (dr : Nat → Int32) (dn : Int32) (la : Int32) : va_W := [(mo, .inr (6, [.ref fa, .ref ka, .int on, .int rn, .int lf, .int wt, .int nv, .int nl, .int nh, .int nc, .int cm, .ref da, .int dn, .int la])), (fa, .inl (cA, 66, .inl fl)), (ka, .inl (cA, 66, .inl kp)), (da, .inl (cA, 24, .inl dr))]
def sl (s : Int32) : Prop := s = 0 ∨ s = 1
theorem sl_not {s : Int32} (h : sl s) : sl (1 - s) := by
  rcases h with rfl | rfl
  · right; decide
  · left; decide
theorem sl_0 : sl 0 := Or.inl rfl
theorem sl_1 : sl 1 := Or.inr rfl
theorem vi5 {s k : Int32} (hs : sl s) (hk : vp_in k 24) : vp_in (29 * s + 5 + k) 66 := by
  obtain ⟨j, hj, rfl⟩ := vp_in_of hk (by decide)
  rcases hs with rfl | rfl
  · rw [show (29 * 0 + 5 : Int32) = nI 5 from by decide, nI_add]; exact vp_in_nI (by omega) (by decide)
  · rw [show (29 * 1 + 5 : Int32) = nI 34 from by decide, nI_add]; exact vp_in_nI (by omega) (by decide)
theorem vi5' {s a k : Int32} (hs : sl s) (hk : vp_in (a + k) 24) : vp_in (29 * s + 5 + a + k) 66 := by
  rw [Int32.add_assoc]; exact vi5 hs hk
theorem in_lt {x L : Int32} (h0 : 0 ≤ x.toInt) (h : x < L) (hL : L.toNatClampNeg ≤ 24) : vp_in x 24 := by
  have h1 := Int32.lt_iff_toInt_lt.mp h
  have h2 : L.toInt.toNat ≤ 24 := hL
  exact vp_in_iff.mpr ⟨h0, by omega⟩
def F_X6_thrown (la : Int32) : Int32 := la
set_option maxHeartbeats 4000000 in
set_option maxRecDepth 100000 in
theorem c_X6_thrown (l : Launch) (D : va_G) (cA : ClassId) (mo fa ka da : Nat) (fl : Nat → Int32) (kp : Nat → Int32) (on : Int32) (rn : Int32) (lf : Int32) (wt : Int32) (nv : Int32) (nl : Int32) (nh : Int32) (nc : Int32) (cm : Int32) (dr : Nat → Int32) (dn : Int32) (la : Int32) : Met l yX6_thrown wsX6_thrown ({ frames := 0, cells := 0, slots := 0, locals := 0 }) (va_Pc [.ref mo] (bx_ro D [(cA, .int)] (wMo cA mo fa ka da fl kp on rn lf wt nv nl nh nc cm dr dn la))) (vp_Si (fun r => r = F_X6_thrown la)) 0 0 (fun _ => False) := by
  refine Met.ofW (cc := cX6_thrown) (maxL := 1) (ret := (some .int)) (by decide) rfl ?_
  intro p e s m args below meth c s₁ B hml hv
  obtain ⟨rfl, hP, hK, hG⟩ := hv
  have hx := B.exec
  have hb := B.bytes
  have hr := B.returns
  have hts := atoms_spec (ws := wsX6_thrown) B.pre
  have hown : s.vm.findClass RX6 = some m.cls := findClass_of_methodNamed B.named
  have hlocks := B.notSynchronized
  have hP : va_P D vwCl [(mo, .inr (6, [.ref fa, .ref ka, .int on, .int rn, .int lf, .int wt, .int nv, .int nl, .int nh, .int nc, .int cm, .ref da, .int dn, .int la])), (fa, .inl (cA, 66, .inl fl)), (ka, .inl (cA, 66, .inl kp)), (da, .inl (cA, 24, .inl dr))] s.heap := hP
  have hl := lv_entry ([.ref mo]) (n := 1) (Nat.le_of_ble_eq_true rfl)
  rw [lg_entry_eq]
  generalize (lg_sl ([.ref mo]) ++ List.replicate (1 - (lg_sl ([.ref mo])).length) Slot.unset).toArray = ls at hl ⊢
  have hl : lv_has ls 1 [(0, .ref mo)] := hl
  have hi6 : ∀ w ∈ u_ws RX6 TX6 14, w ∈ wsX6_thrown := by decide +kernel
  refine lv_aload_n hx hb dX6_thrown_0 rfl (lv_at hl 0 rfl) ?_
  refine va_get (D := D) (ci := 6) (v := .int la) (C := RX6) (T := TX6) (N := 14) hx hb hts hi6 hown hK hP 0 rfl rfl 13 (by decide) (hts (.fieldLink RX6 37 "BootstayModel" "last" "I") (by decide +kernel)) (fun _ h9 => h9) rfl dX6_thrown_1 ?_
  exact W.iret (v := la) hx hb hr (fun t ht hW => ⟨la, rfl, rfl, ht⟩) (fun _ h => nomatch h) dX6_thrown_4
def F_X6_in (p0 : Int32) (p1 : Int32) (p2 : Int32) : Int32 := (if p0 < p1 then 0 else (if p2 < p0 then 0 else 1))
set_option maxHeartbeats 4000000 in
set_option maxRecDepth 100000 in
theorem c_X6_in (l : Launch) (D : va_G) (p0 : Int32) (p1 : Int32) (p2 : Int32) : Met l yX6_in wsX6_in ({ frames := 0, cells := 0, slots := 0, locals := 0 }) (va_Pc [.int p0, .int p1, .int p2] (bx_ro D [] (wNil))) (vp_Si (fun r => r = F_X6_in p0 p1 p2 ∧ (r = 0 ∨ r = 1))) 0 0 (fun _ => False) := by
  refine Met.ofW (cc := cX6_in) (maxL := 3) (ret := (some .boolean)) (by decide) rfl ?_
  intro p e s m args below meth c s₁ B hml hv
  obtain ⟨rfl, hP, hK, hG⟩ := hv
  have hx := B.exec
  have hb := B.bytes
  have hr := B.returns
  have hts := atoms_spec (ws := wsX6_in) B.pre
  have hown : s.vm.findClass RX6 = some m.cls := findClass_of_methodNamed B.named
  have hlocks := B.notSynchronized
  have hP : va_P D vwCl [] s.heap := hP
  have hl := lv_entry ([.int p0, .int p1, .int p2]) (n := 3) (Nat.le_of_ble_eq_true rfl)
  rw [lg_entry_eq]
  generalize (lg_sl ([.int p0, .int p1, .int p2]) ++ List.replicate (3 - (lg_sl ([.int p0, .int p1, .int p2])).length) Slot.unset).toArray = ls at hl ⊢
  have hl : lv_has ls 3 [(0, .int p0), (1, .int p1), (2, .int p2)] := hl
  refine lv_iload_n hx hb dX6_in_0 rfl (lv_at hl 0 rfl) ?_
  refine lv_iload_n hx hb dX6_in_1 rfl (lv_at hl 1 rfl) ?_
  refine lv_icmp_lt (tgt := 14) hx hb dX6_in_2 (by decide) (fun c_1 => ?_) (fun c_1 => ?_)
  · skip
    refine lv_iconst (v := 0) hx hb dX6_in_14 (by decide) ?_
    exact W.zret (v := 0) hx hb hr rfl (fun t ht hW => ⟨0, rfl, ⟨(by simp only [F_X6_in, if_pos c_1]), (by decide)⟩, ht⟩) (fun _ h => nomatch h) dX6_in_15
  · skip
    refine lv_iload_n hx hb dX6_in_5 rfl (lv_at hl 0 rfl) ?_
    refine lv_iload_n hx hb dX6_in_6 rfl (lv_at hl 2 rfl) ?_
    refine lv_icmp_gt (tgt := 14) hx hb dX6_in_7 (by decide) (fun c_2 => ?_) (fun c_2 => ?_)
    · skip
      refine lv_iconst (v := 0) hx hb dX6_in_14 (by decide) ?_
      exact W.zret (v := 0) hx hb hr rfl (fun t ht hW => ⟨0, rfl, ⟨(by simp only [F_X6_in, if_neg c_1, if_pos c_2]), (by decide)⟩, ht⟩) (fun _ h => nomatch h) dX6_in_15
    · skip
      refine lv_iconst (v := 1) hx hb dX6_in_10 (by decide) ?_
      refine lv_goto (tgt := 15) hx hb dX6_in_11 (by decide) ?_
      exact W.zret (v := 1) hx hb hr rfl (fun t ht hW => ⟨1, rfl, ⟨(by simp only [F_X6_in, if_neg c_1, if_neg c_2]), (by decide)⟩, ht⟩) (fun _ h => nomatch h) dX6_in_15
def F_X6_goes (p0 : Int32) (p1 : Int32) : Int32 × (Int32) := (if p0 = 0 then (0, 1) else (if p1 = 0 then (0, 2) else (1, 0)))
set_option maxHeartbeats 4000000 in
set_option maxRecDepth 100000 in
theorem c_X6_goes (l : Launch) (D : va_G) (cA : ClassId) (mo fa ka da : Nat) (sz : Nat) (fl : Nat → Int32) (kp : Nat → Int32) (on : Int32) (rn : Int32) (lf : Int32) (wt : Int32) (nv : Int32) (nl : Int32) (nh : Int32) (nc : Int32) (cm : Int32) (dr : Nat → Int32) (dn : Int32) (la : Int32) (p0 : Int32) (p1 : Int32) : Met l yX6_goes wsX6_goes ({ frames := 0, cells := 0, slots := 0, locals := 0 }) (va_Pc [.ref mo, .int p0, .int p1] (bx_pre D [(cA, .int)] (wMo cA mo fa ka da fl kp on rn lf wt nv nl nh nc cm dr dn la) sz)) (va_Qi (fun r u => (r, u) = F_X6_goes p0 p1 ∧ (r = 0 ∨ r = 1)) (fun u t => bx_at D (wMo cA mo fa ka da fl kp on rn lf wt nv nl nh nc cm dr dn u) (va_A (wMo cA mo fa ka da fl kp on rn lf wt nv nl nh nc cm dr dn la) sz) t) (va_A (wMo cA mo fa ka da fl kp on rn lf wt nv nl nh nc cm dr dn la) sz)) 0 0 (va_A (wMo cA mo fa ka da fl kp on rn lf wt nv nl nh nc cm dr dn la) sz) := by
  refine Met.ofW (cc := cX6_goes) (maxL := 3) (ret := (some .boolean)) (by decide) rfl ?_
  intro p e s m args below meth c s₁ B hml hv
  obtain ⟨rfl, hsz, hP, hK, hD0, hG⟩ := hv
  have hx := B.exec
  have hb := B.bytes
  have hr := B.returns
  have hts := atoms_spec (ws := wsX6_goes) B.pre
  have hown : s.vm.findClass RX6 = some m.cls := findClass_of_methodNamed B.named
  have hlocks := B.notSynchronized
  subst hsz
  have hD := hD0.self (sz := s.heap.size)
  generalize hAe : va_A (wMo cA mo fa ka da fl kp on rn lf wt nv nl nh nc cm dr dn la) s.heap.size = A at hD ⊢
  have hA : ∀ q : Nat, s.heap.size ≤ q → A q := fun q h => by rw [← hAe]; exact Or.inr h
  have hS : va_S A s.heap s.heap [] := va_S.rf
  have hD : va_D A [(mo, .inr (6, [.ref fa, .ref ka, .int on, .int rn, .int lf, .int wt, .int nv, .int nl, .int nh, .int nc, .int cm, .ref da, .int dn, .int la])), (fa, .inl (cA, 66, .inl fl)), (ka, .inl (cA, 66, .inl kp)), (da, .inl (cA, 24, .inl dr))] := hD
  have hP : va_P D vwCl [(mo, .inr (6, [.ref fa, .ref ka, .int on, .int rn, .int lf, .int wt, .int nv, .int nl, .int nh, .int nc, .int cm, .ref da, .int dn, .int la])), (fa, .inl (cA, 66, .inl fl)), (ka, .inl (cA, 66, .inl kp)), (da, .inl (cA, 24, .inl dr))] s.heap := hP
  have hl := lv_entry ([.ref mo, .int p0, .int p1]) (n := 3) (Nat.le_of_ble_eq_true rfl)
  rw [lg_entry_eq]
  generalize (lg_sl ([.ref mo, .int p0, .int p1]) ++ List.replicate (3 - (lg_sl ([.ref mo, .int p0, .int p1])).length) Slot.unset).toArray = ls at hl ⊢
  have hl : lv_has ls 3 [(0, .ref mo), (1, .int p0), (2, .int p1)] := hl
  have hi6 : ∀ w ∈ u_ws RX6 TX6 14, w ∈ wsX6_goes := by decide +kernel
  refine lv_aload_n hx hb dX6_goes_0 rfl (lv_at hl 0 rfl) ?_
  refine lv_iload_n hx hb dX6_goes_1 rfl (lv_at hl 1 rfl) ?_
  refine lv_if_ne (tgt := 9) hx hb dX6_goes_2 (by decide) (fun c_1 => ?_) (fun c_1 => ?_)
  · skip
    refine lv_iload_n hx hb dX6_goes_9 rfl (lv_at hl 2 rfl) ?_
    refine lv_if_eq (tgt := 17) hx hb dX6_goes_10 (by decide) (fun c_2 => ?_) (fun c_2 => ?_)
    · skip
      refine lv_iconst (v := 2) hx hb dX6_goes_17 (by decide) ?_
      refine va_put (D := D) (ci := 6) (v := .int 2) (ty := .int) (C := RX6) (T := TX6) (N := 14) hx hb hts hi6 tyX6 tyX6_ok nmX6 hown hK hP hD hS 0 rfl rfl 13 (by decide) (hts (.fieldLink RX6 37 "BootstayModel" "last" "I") (by decide +kernel)) (fun _ h9 => h9) rfl (by decide +kernel) rfl rfl (Nat.le_of_ble_eq_true rfl) dX6_goes_18 (fun H locs hP hD hS => ?_)
      have hP : va_P D vwCl [(mo, .inr (6, [.ref fa, .ref ka, .int on, .int rn, .int lf, .int wt, .int nv, .int nl, .int nh, .int nc, .int cm, .ref da, .int dn, .int 2])), (fa, .inl (cA, 66, .inl fl)), (ka, .inl (cA, 66, .inl kp)), (da, .inl (cA, 24, .inl dr))] H := hP
      have hD : va_D A [(mo, .inr (6, [.ref fa, .ref ka, .int on, .int rn, .int lf, .int wt, .int nv, .int nl, .int nh, .int nc, .int cm, .ref da, .int dn, .int 2])), (fa, .inl (cA, 66, .inl fl)), (ka, .inl (cA, 66, .inl kp)), (da, .inl (cA, 24, .inl dr))] := hD
      refine lv_aload_n hx hb dX6_goes_21 rfl (lv_at hl 0 rfl) ?_
      refine va_get (D := D) (ci := 6) (v := .int 2) (C := RX6) (T := TX6) (N := 14) hx hb hts hi6 hown hK hP 0 rfl rfl 13 (by decide) (hts (.fieldLink RX6 37 "BootstayModel" "last" "I") (by decide +kernel)) (fun _ h9 => h9) rfl dX6_goes_22 ?_
      refine lv_if_ne (tgt := 32) hx hb dX6_goes_25 (by decide) (fun c_3 => ?_) (fun c_3 => ?_)
      · skip
        refine lv_iconst (v := 0) hx hb dX6_goes_32 (by decide) ?_
        exact W.zret (v := 0) hx hb hr rfl (fun t ht hW => ⟨⟨0, 2, rfl, ⟨(by simp only [F_X6_goes, if_neg c_1, if_pos c_2, if_neg c_3]), (by decide)⟩, ⟨by rw [ht]; exact hP, hD⟩⟩, hS.F ht⟩) hS.2.2 dX6_goes_33
      · skip
        exact absurd c_3 (by decide)
    · skip
      refine lv_iconst (v := 0) hx hb dX6_goes_13 (by decide) ?_
      refine lv_goto (tgt := 18) hx hb dX6_goes_14 (by decide) ?_
      refine va_put (D := D) (ci := 6) (v := .int 0) (ty := .int) (C := RX6) (T := TX6) (N := 14) hx hb hts hi6 tyX6 tyX6_ok nmX6 hown hK hP hD hS 0 rfl rfl 13 (by decide) (hts (.fieldLink RX6 37 "BootstayModel" "last" "I") (by decide +kernel)) (fun _ h9 => h9) rfl (by decide +kernel) rfl rfl (Nat.le_of_ble_eq_true rfl) dX6_goes_18 (fun H locs hP hD hS => ?_)
      have hP : va_P D vwCl [(mo, .inr (6, [.ref fa, .ref ka, .int on, .int rn, .int lf, .int wt, .int nv, .int nl, .int nh, .int nc, .int cm, .ref da, .int dn, .int 0])), (fa, .inl (cA, 66, .inl fl)), (ka, .inl (cA, 66, .inl kp)), (da, .inl (cA, 24, .inl dr))] H := hP
      have hD : va_D A [(mo, .inr (6, [.ref fa, .ref ka, .int on, .int rn, .int lf, .int wt, .int nv, .int nl, .int nh, .int nc, .int cm, .ref da, .int dn, .int 0])), (fa, .inl (cA, 66, .inl fl)), (ka, .inl (cA, 66, .inl kp)), (da, .inl (cA, 24, .inl dr))] := hD
      refine lv_aload_n hx hb dX6_goes_21 rfl (lv_at hl 0 rfl) ?_
      refine va_get (D := D) (ci := 6) (v := .int 0) (C := RX6) (T := TX6) (N := 14) hx hb hts hi6 hown hK hP 0 rfl rfl 13 (by decide) (hts (.fieldLink RX6 37 "BootstayModel" "last" "I") (by decide +kernel)) (fun _ h9 => h9) rfl dX6_goes_22 ?_
      refine lv_if_ne (tgt := 32) hx hb dX6_goes_25 (by decide) (fun c_4 => ?_) (fun c_4 => ?_)
      · skip
        exact absurd (by decide) c_4
      · skip
        refine lv_iconst (v := 1) hx hb dX6_goes_28 (by decide) ?_
        refine lv_goto (tgt := 33) hx hb dX6_goes_29 (by decide) ?_
        exact W.zret (v := 1) hx hb hr rfl (fun t ht hW => ⟨⟨1, 0, rfl, ⟨(by simp only [F_X6_goes, if_neg c_1, if_neg c_2, if_pos c_4]), (by decide)⟩, ⟨by rw [ht]; exact hP, hD⟩⟩, hS.F ht⟩) hS.2.2 dX6_goes_33
  · skip
    refine lv_iconst (v := 1) hx hb dX6_goes_5 (by decide) ?_
    refine lv_goto (tgt := 18) hx hb dX6_goes_6 (by decide) ?_
    refine va_put (D := D) (ci := 6) (v := .int 1) (ty := .int) (C := RX6) (T := TX6) (N := 14) hx hb hts hi6 tyX6 tyX6_ok nmX6 hown hK hP hD hS 0 rfl rfl 13 (by decide) (hts (.fieldLink RX6 37 "BootstayModel" "last" "I") (by decide +kernel)) (fun _ h9 => h9) rfl (by decide +kernel) rfl rfl (Nat.le_of_ble_eq_true rfl) dX6_goes_18 (fun H locs hP hD hS => ?_)
    have hP : va_P D vwCl [(mo, .inr (6, [.ref fa, .ref ka, .int on, .int rn, .int lf, .int wt, .int nv, .int nl, .int nh, .int nc, .int cm, .ref da, .int dn, .int 1])), (fa, .inl (cA, 66, .inl fl)), (ka, .inl (cA, 66, .inl kp)), (da, .inl (cA, 24, .inl dr))] H := hP
    have hD : va_D A [(mo, .inr (6, [.ref fa, .ref ka, .int on, .int rn, .int lf, .int wt, .int nv, .int nl, .int nh, .int nc, .int cm, .ref da, .int dn, .int 1])), (fa, .inl (cA, 66, .inl fl)), (ka, .inl (cA, 66, .inl kp)), (da, .inl (cA, 24, .inl dr))] := hD
    refine lv_aload_n hx hb dX6_goes_21 rfl (lv_at hl 0 rfl) ?_
    refine va_get (D := D) (ci := 6) (v := .int 1) (C := RX6) (T := TX6) (N := 14) hx hb hts hi6 hown hK hP 0 rfl rfl 13 (by decide) (hts (.fieldLink RX6 37 "BootstayModel" "last" "I") (by decide +kernel)) (fun _ h9 => h9) rfl dX6_goes_22 ?_
    refine lv_if_ne (tgt := 32) hx hb dX6_goes_25 (by decide) (fun c_5 => ?_) (fun c_5 => ?_)
    · skip
      refine lv_iconst (v := 0) hx hb dX6_goes_32 (by decide) ?_
      exact W.zret (v := 0) hx hb hr rfl (fun t ht hW => ⟨⟨0, 1, rfl, ⟨(by simp only [F_X6_goes, if_pos c_1, if_neg c_5]), (by decide)⟩, ⟨by rw [ht]; exact hP, hD⟩⟩, hS.F ht⟩) hS.2.2 dX6_goes_33
    · skip
      exact absurd c_5 (by decide)
def F_X6_hashed (p0 : Int32) (p1 : Int32) : Int32 := ((((p0 * 31) + p1) + 1) - (((p0 * 31) + p1) + 1) / 65521 * 65521)
set_option maxHeartbeats 4000000 in
set_option maxRecDepth 100000 in
theorem c_X6_hashed (l : Launch) (D : va_G) (p0 : Int32) (p1 : Int32) : Met l yX6_hashed wsX6_hashed ({ frames := 0, cells := 0, slots := 0, locals := 0 }) (va_Pc [.int p0, .int p1] (bx_ro D [] (wNil))) (vp_Si (fun r => r = F_X6_hashed p0 p1)) 0 0 (fun _ => False) := by
  refine Met.ofW (cc := cX6_hashed) (maxL := 2) (ret := (some .int)) (by decide) rfl ?_
  intro p e s m args below meth c s₁ B hml hv
  obtain ⟨rfl, hP, hK, hG⟩ := hv
  have hx := B.exec
  have hb := B.bytes
  have hr := B.returns
  have hts := atoms_spec (ws := wsX6_hashed) B.pre
  have hown : s.vm.findClass RX6 = some m.cls := findClass_of_methodNamed B.named
  have hlocks := B.notSynchronized
  have hP : va_P D vwCl [] s.heap := hP
  have hl := lv_entry ([.int p0, .int p1]) (n := 2) (Nat.le_of_ble_eq_true rfl)
  rw [lg_entry_eq]
  generalize (lg_sl ([.int p0, .int p1]) ++ List.replicate (2 - (lg_sl ([.int p0, .int p1])).length) Slot.unset).toArray = ls at hl ⊢
  have hl : lv_has ls 2 [(0, .int p0), (1, .int p1)] := hl
  refine lv_iload_n hx hb dX6_hashed_0 rfl (lv_at hl 0 rfl) ?_
  refine lv_bipush (v := 31) hx hb dX6_hashed_1 (by decide) ?_
  refine lv_imul hx hb dX6_hashed_3 ?_
  refine lv_iload_n hx hb dX6_hashed_4 rfl (lv_at hl 1 rfl) ?_
  refine lv_iadd hx hb dX6_hashed_5 ?_
  refine lv_iconst (v := 1) hx hb dX6_hashed_6 (by decide) ?_
  refine lv_iadd hx hb dX6_hashed_7 ?_
  refine lv_ldc (v := 65521) hx hb hown (hts (.constant RX6 40 (65521)) (by decide +kernel)) dX6_hashed_8 ?_
  refine lv_irem hx hb dX6_hashed_10 (by decide) ?_
  exact W.iret (v := ((((p0 * 31) + p1) + 1) - (((p0 * 31) + p1) + 1) / 65521 * 65521)) hx hb hr (fun t ht hW => ⟨((((p0 * 31) + p1) + 1) - (((p0 * 31) + p1) + 1) / 65521 * 65521), rfl, rfl, ht⟩) (fun _ h => nomatch h) dX6_hashed_11
theorem goes_0 {r a la : Int32} (h : (r, la) = F_X6_goes a 0) : r = 0 ∧ la = (if a = 0 then 1 else 2) := by
  unfold F_X6_goes at h
  by_cases c : a = 0
  · simp only [if_pos c] at h ⊢; cases h; exact ⟨rfl, rfl⟩
  · simp only [if_neg c] at h ⊢; cases h; exact ⟨rfl, rfl⟩
theorem goes_01 {r la : Int32} (h : (r, la) = F_X6_goes 0 1) : r = 0 ∧ la = 1 := by cases h; exact ⟨rfl, rfl⟩
theorem goes_11 {r la : Int32} (h : (r, la) = F_X6_goes 1 1) : r = 1 ∧ la = 0 := by cases h; exact ⟨rfl, rfl⟩
theorem goes_nz {r a b la : Int32} (h : (r, la) = F_X6_goes a b) (hr : ¬ r = 0) : ¬ a = 0 ∧ ¬ b = 0 := by
  refine ⟨fun c => hr ?_, fun c => hr ?_⟩
  · subst c; cases h; rfl
  · subst c; exact (goes_0 h).1
theorem in_of {x a b : Int32} (h : ¬ F_X6_in x a b = 0) : a ≤ x ∧ x ≤ b := by
  unfold F_X6_in at h
  by_cases c : x < a
  · rw [if_pos c] at h; exact absurd rfl h
  · rw [if_neg c] at h
    by_cases c2 : b < x
    · rw [if_pos c2] at h; exact absurd rfl h
    · exact ⟨Int32.not_lt.mp c, Int32.not_lt.mp c2⟩
theorem in_sl {x : Int32} (h : ¬ F_X6_in x 0 1 = 0) : sl x := by
  obtain ⟨h1, h2⟩ := in_of h
  have h1 := Int32.le_iff_toInt_le.mp h1
  have h2 := Int32.le_iff_toInt_le.mp h2
  have e0 : (0 : Int32).toInt = 0 := rfl
  have e1 : (1 : Int32).toInt = 1 := rfl
  rcases (show x.toInt = 0 ∨ x.toInt = 1 by omega) with h | h
  · exact Or.inl (Int32.toInt_inj.mp (by rw [h, e0]))
  · exact Or.inr (Int32.toInt_inj.mp (by rw [h, e1]))
theorem in_24 {x : Int32} (h : ¬ F_X6_in x 1 24 = 0) : x.toNatClampNeg ≤ 24 := by
  obtain ⟨h1, h2⟩ := in_of h
  have h2 := Int32.le_iff_toInt_le.mp h2
  have e1 : (24 : Int32).toInt = 24 := rfl
  show x.toInt.toNat ≤ 24
  omega
def hashM (f : Nat → Int32) : Nat → Int32
  | 0 => 17
  | n + 1 => F_X6_hashed (hashM f n) (f n)
def F_X6_hashIn (fl : Nat → Int32) (p0 p1 : Int32) : Int32 := hashM (fun k => rd fl (29 * p0 + 5 + nI k)) p1.toNatClampNeg
 
set_option maxHeartbeats 4000000 in
set_option maxRecDepth 100000 in
theorem c_X6_hashIn (l : Launch) (D : va_G) (cA : ClassId) (mo fa ka da : Nat) (fl : Nat → Int32) (kp : Nat → Int32) (on : Int32) (rn : Int32) (lf : Int32) (wt : Int32) (nv : Int32) (nl : Int32) (nh : Int32) (nc : Int32) (cm : Int32) (dr : Nat → Int32) (dn : Int32) (la : Int32) (p0 : Int32) (p1 : Int32) (hs : sl p0) (h24 : p1.toNatClampNeg ≤ 24) : Met l yX6_hashIn wsX6_hashIn ({ frames := 1, cells := 0, slots := 0, locals := 21 }) (va_Pc [.ref mo, .int p0, .int p1] (bx_ro D [(cA, .int)] (wMo cA mo fa ka da fl kp on rn lf wt nv nl nh nc cm dr dn la))) (vp_Si (fun r => r = F_X6_hashIn fl p0 p1)) 0 0 (fun _ => False) := by
  refine Met.ofW (cc := cX6_hashIn) (maxL := 5) (ret := (some .int)) (by decide) rfl ?_
  intro p e s m args below meth c s₁ B hml hv
  obtain ⟨rfl, hP, hK, hG⟩ := hv
  have hx := B.exec
  have hb := B.bytes
  have hr := B.returns
  have hts := atoms_spec (ws := wsX6_hashIn) B.pre
  have hown : s.vm.findClass RX6 = some m.cls := findClass_of_methodNamed B.named
  have hlocks := B.notSynchronized
  have hP : va_P D vwCl [(mo, .inr (6, [.ref fa, .ref ka, .int on, .int rn, .int lf, .int wt, .int nv, .int nl, .int nh, .int nc, .int cm, .ref da, .int dn, .int la])), (fa, .inl (cA, 66, .inl fl)), (ka, .inl (cA, 66, .inl kp)), (da, .inl (cA, 24, .inl dr))] s.heap := hP
  have hl := lv_entry ([.ref mo, .int p0, .int p1]) (n := 5) (Nat.le_of_ble_eq_true rfl)
  rw [lg_entry_eq]
  generalize (lg_sl ([.ref mo, .int p0, .int p1]) ++ List.replicate (5 - (lg_sl ([.ref mo, .int p0, .int p1])).length) Slot.unset).toArray = ls at hl ⊢
  have hl : lv_has ls 5 [(0, .ref mo), (1, .int p0), (2, .int p1)] := hl
  have hi6 : ∀ w ∈ u_ws RX6 TX6 14, w ∈ wsX6_hashIn := by decide +kernel
  refine lv_bipush (v := 17) hx hb dX6_hashIn_0 (by decide) ?_
  refine lv_istore_n (lv' := [(3, .int 17), (0, .ref mo), (1, .int p0), (2, .int p1)]) hx hb dX6_hashIn_2 rfl hl (by decide) rfl (fun ls hl => ?_)
  refine lv_iconst (v := 0) hx hb dX6_hashIn_3 (by decide) ?_
  refine lv_istore (lv' := [(4, .int 0), (3, .int 17), (0, .ref mo), (1, .int p0), (2, .int p1)]) hx hb dX6_hashIn_4 hl (by decide) rfl (fun ls hl => ?_)
  have loop6 : ∀ (n : Nat) (j : Nat) (h k : Int32), p1.toNatClampNeg - j < n → j ≤ p1.toNatClampNeg → k = nI j → h = hashM (fun k => rd fl (29 * p0 + 5 + nI k)) j → ∀ (ls : Array Slot), lv_has ls 5 [(4, .int k), (3, .int h), (0, .ref mo), (1, .int p0), (2, .int p1)] → W p l e (headSpec wsX6_hashIn ({ frames := 1, cells := 0, slots := 0, locals := 21 })).room s m ([.ref mo, .int p0, .int p1] : List Value).toArray below meth c s.heap [] 0 0 (MQ below (vp_Si (fun r => r = F_X6_hashIn fl p0 p1)) ([.ref mo, .int p0, .int p1] : List Value).toArray s 0 0 (fun _ => False)) (F0 m 6 ls []) := by
    intro n
    induction n with
    | zero =>
      intro j h k h_f ij ik ih ls hl
      exact absurd h_f (Nat.not_lt_zero _)
    | succ n ih6 =>
      intro j h k h_f ij ik ih ls hl
      refine lv_iload hx hb dX6_hashIn_6 (lv_at hl 0 rfl) ?_
      refine lv_iload_n hx hb dX6_hashIn_8 rfl (lv_at hl 4 rfl) ?_
      refine lv_icmp_ge (tgt := 37) hx hb dX6_hashIn_9 (by decide) (fun c_1 => ?_) (fun c_1 => ?_)
      · skip
        have hj : p1.toNatClampNeg ≤ j := (bx_le (by omega)).mp (ik ▸ c_1)
        refine lv_iload_n hx hb dX6_hashIn_37 rfl (lv_at hl 1 rfl) ?_
        exact W.iret (v := h) hx hb hr (fun t ht hW => ⟨h, rfl, (by rw [ih, Nat.le_antisymm ij hj]; rfl), ht⟩) (fun _ h => nomatch h) dX6_hashIn_38
      · skip
        have hj : j < p1.toNatClampNeg := Nat.lt_of_not_le (fun h => c_1 (by rw [ik]; exact (bx_le (by omega)).mpr h))
        refine lv_iload_n hx hb dX6_hashIn_12 rfl (lv_at hl 1 rfl) ?_
        refine lv_aload_n hx hb dX6_hashIn_13 rfl (lv_at hl 2 rfl) ?_
        refine va_get (D := D) (ci := 6) (v := .ref fa) (C := RX6) (T := TX6) (N := 14) hx hb hts hi6 hown hK hP 0 rfl rfl 0 (by decide) (hts (.fieldLink RX6 7 "BootstayModel" "flash" "[I") (by decide +kernel)) (fun _ h9 => h9) rfl dX6_hashIn_14 ?_
        refine lv_bipush (v := 29) hx hb dX6_hashIn_17 (by decide) ?_
        refine lv_iload_n hx hb dX6_hashIn_19 rfl (lv_at hl 3 rfl) ?_
        refine lv_imul hx hb dX6_hashIn_20 ?_
        refine lv_iconst (v := 5) hx hb dX6_hashIn_21 (by decide) ?_
        refine lv_iadd hx hb dX6_hashIn_22 ?_
        refine lv_iload hx hb dX6_hashIn_23 (lv_at hl 0 rfl) ?_
        refine lv_iadd hx hb dX6_hashIn_25 ?_
        refine bx_ald (D := D) hx hb hK hP 1 0 rfl rfl (vi5 hs (by rw [ik]; exact vp_in_nI (by omega) (by decide))) dX6_hashIn_26 ?_
        refine bx_ri (va_runS (As := [.int h, .int (rd fl (((29 * p0) + 5) + k))]) (rest := []) ⟨hx, hb, hml, hown, hts⟩ (c_X6_hashed l D h (rd fl (((29 * p0) + 5) + k))) (va_cwS 2 hts gX6_hashIn_X6_hashed rfl rfl rfl (by decide +kernel) ⟨Nat.le_of_ble_eq_true rfl, Nat.le_of_ble_eq_true rfl⟩) (bx_psr (hK.sub (tys' := []) [] rfl) hG (hP.sub (ws' := []) [] rfl)) rfl rfl hl.1 rfl (lv_room (Nat.le_of_ble_eq_true rfl)) dX6_hashIn_27 ⟨Nat.zero_le _, Nat.zero_le _⟩) (fun r_2 h_3 => ?_)
        have h_3 := h_3.symm
        subst h_3
        refine lv_istore_n (lv' := [(3, .int (F_X6_hashed h (rd fl (((29 * p0) + 5) + k)))), (4, .int k), (0, .ref mo), (1, .int p0), (2, .int p1)]) hx hb dX6_hashIn_30 rfl hl (by decide) rfl (fun ls hl => ?_)
        refine lv_iinc (v := (k + 1)) (lv' := [(4, .int (k + 1)), (3, .int (F_X6_hashed h (rd fl (((29 * p0) + 5) + k)))), (0, .ref mo), (1, .int p0), (2, .int p1)]) hx hb dX6_hashIn_31 hl (k := 1) rfl rfl (by decide) rfl (fun ls hl => ?_)
        refine lv_goto (tgt := 6) hx hb dX6_hashIn_34 (by decide) ?_
        exact ih6 (j + 1) (F_X6_hashed h (rd fl (((29 * p0) + 5) + k))) (k + 1) (by omega) hj (by rw [ik]; exact nI_1 j) (by rw [ih, ik]; rfl) ls (lv_sub hl [0, 1, 2, 3, 4] rfl)
  exact loop6 (p1.toNatClampNeg + 1) 0 17 0 (by omega) (Nat.zero_le _) nI_0.symm rfl ls (lv_sub hl [0, 1, 2, 3, 4] rfl)
def F_X6_canStart (fl : Nat → Int32) (p0 : Int32) : Int32 := (if (rd fl ((29 * p0) + 0)) = 1 then (if (F_X6_in (rd fl ((29 * p0) + 2)) 1 24) = 0 then 0 else (if (F_X6_hashIn fl p0 (rd fl ((29 * p0) + 2))) = (rd fl ((29 * p0) + 3)) then 1 else 0)) else 0)
set_option maxHeartbeats 4000000 in
set_option maxRecDepth 100000 in
theorem c_X6_canStart (l : Launch) (D : va_G) (cA : ClassId) (mo fa ka da : Nat) (fl : Nat → Int32) (kp : Nat → Int32) (on : Int32) (rn : Int32) (lf : Int32) (wt : Int32) (nv : Int32) (nl : Int32) (nh : Int32) (nc : Int32) (cm : Int32) (dr : Nat → Int32) (dn : Int32) (la : Int32) (p0 : Int32) (hs : sl p0) : Met l yX6_canStart wsX6_canStart ({ frames := 2, cells := 0, slots := 0, locals := 45 }) (va_Pc [.ref mo, .int p0] (bx_ro D [(cA, .int)] (wMo cA mo fa ka da fl kp on rn lf wt nv nl nh nc cm dr dn la))) (vp_Si (fun r => r = F_X6_canStart fl p0 ∧ (r = 0 ∨ r = 1))) 0 0 (fun _ => False) := by
  refine Met.ofW (cc := cX6_canStart) (maxL := 3) (ret := (some .boolean)) (by decide) rfl ?_
  intro p e s m args below meth c s₁ B hml hv
  obtain ⟨rfl, hP, hK, hG⟩ := hv
  have hx := B.exec
  have hb := B.bytes
  have hr := B.returns
  have hts := atoms_spec (ws := wsX6_canStart) B.pre
  have hown : s.vm.findClass RX6 = some m.cls := findClass_of_methodNamed B.named
  have hlocks := B.notSynchronized
  have hP : va_P D vwCl [(mo, .inr (6, [.ref fa, .ref ka, .int on, .int rn, .int lf, .int wt, .int nv, .int nl, .int nh, .int nc, .int cm, .ref da, .int dn, .int la])), (fa, .inl (cA, 66, .inl fl)), (ka, .inl (cA, 66, .inl kp)), (da, .inl (cA, 24, .inl dr))] s.heap := hP
  have hl := lv_entry ([.ref mo, .int p0]) (n := 3) (Nat.le_of_ble_eq_true rfl)
  rw [lg_entry_eq]
  generalize (lg_sl ([.ref mo, .int p0]) ++ List.replicate (3 - (lg_sl ([.ref mo, .int p0])).length) Slot.unset).toArray = ls at hl ⊢
  have hl : lv_has ls 3 [(0, .ref mo), (1, .int p0)] := hl
  have hi6 : ∀ w ∈ u_ws RX6 TX6 14, w ∈ wsX6_canStart := by decide +kernel
  refine lv_aload_n hx hb dX6_canStart_0 rfl (lv_at hl 0 rfl) ?_
  refine va_get (D := D) (ci := 6) (v := .ref fa) (C := RX6) (T := TX6) (N := 14) hx hb hts hi6 hown hK hP 0 rfl rfl 0 (by decide) (hts (.fieldLink RX6 7 "BootstayModel" "flash" "[I") (by decide +kernel)) (fun _ h9 => h9) rfl dX6_canStart_1 ?_
  refine lv_bipush (v := 29) hx hb dX6_canStart_4 (by decide) ?_
  refine lv_iload_n hx hb dX6_canStart_6 rfl (lv_at hl 1 rfl) ?_
  refine lv_imul hx hb dX6_canStart_7 ?_
  refine lv_iconst (v := 2) hx hb dX6_canStart_8 (by decide) ?_
  refine lv_iadd hx hb dX6_canStart_9 ?_
  refine bx_ald (D := D) hx hb hK hP 1 0 rfl rfl (vp_in_iff.mpr (by rcases hs with h | h <;> rw [h] <;> decide)) dX6_canStart_10 ?_
  refine lv_istore_n (lv' := [(2, .int (rd fl ((29 * p0) + 2))), (0, .ref mo), (1, .int p0)]) hx hb dX6_canStart_11 rfl hl (by decide) rfl (fun ls hl => ?_)
  refine lv_aload_n hx hb dX6_canStart_12 rfl (lv_at hl 1 rfl) ?_
  refine va_get (D := D) (ci := 6) (v := .ref fa) (C := RX6) (T := TX6) (N := 14) hx hb hts hi6 hown hK hP 0 rfl rfl 0 (by decide) (hts (.fieldLink RX6 7 "BootstayModel" "flash" "[I") (by decide +kernel)) (fun _ h9 => h9) rfl dX6_canStart_13 ?_
  refine lv_bipush (v := 29) hx hb dX6_canStart_16 (by decide) ?_
  refine lv_iload_n hx hb dX6_canStart_18 rfl (lv_at hl 2 rfl) ?_
  refine lv_imul hx hb dX6_canStart_19 ?_
  refine lv_iconst (v := 0) hx hb dX6_canStart_20 (by decide) ?_
  refine lv_iadd hx hb dX6_canStart_21 ?_
  refine bx_ald (D := D) hx hb hK hP 1 0 rfl rfl (vp_in_iff.mpr (by rcases hs with h | h <;> rw [h] <;> decide)) dX6_canStart_22 ?_
  refine lv_iconst (v := 1) hx hb dX6_canStart_23 (by decide) ?_
  refine lv_icmp_ne (tgt := 61) hx hb dX6_canStart_24 (by decide) (fun c_1 => ?_) (fun c_1 => ?_)
  · skip
    refine lv_iconst (v := 0) hx hb dX6_canStart_61 (by decide) ?_
    exact W.zret (v := 0) hx hb hr rfl (fun t ht hW => ⟨0, rfl, ⟨(by simp only [F_X6_canStart, if_neg c_1]), (by decide)⟩, ht⟩) (fun _ h => nomatch h) dX6_canStart_62
  · skip
    refine lv_iload_n hx hb dX6_canStart_27 rfl (lv_at hl 0 rfl) ?_
    refine lv_iconst (v := 1) hx hb dX6_canStart_28 (by decide) ?_
    refine lv_bipush (v := 24) hx hb dX6_canStart_29 (by decide) ?_
    refine bx_ri (va_runS (As := [.int (rd fl ((29 * p0) + 2)), .int 1, .int 24]) (rest := []) ⟨hx, hb, hml, hown, hts⟩ (c_X6_in l D (rd fl ((29 * p0) + 2)) 1 24) (va_cwS 3 hts gX6_canStart_X6_in rfl rfl rfl (by decide +kernel) ⟨Nat.le_of_ble_eq_true rfl, Nat.le_of_ble_eq_true rfl⟩) (bx_psr (hK.sub (tys' := []) [] rfl) hG (hP.sub (ws' := []) [] rfl)) rfl rfl hl.1 rfl (lv_room (Nat.le_of_ble_eq_true rfl)) dX6_canStart_31 ⟨Nat.zero_le _, Nat.zero_le _⟩) (fun r_2 h_3 => ?_)
    obtain ⟨h_3, b_4⟩ := h_3
    have h_3 := h_3.symm
    subst h_3
    refine lv_if_eq (tgt := 61) hx hb dX6_canStart_34 (by decide) (fun c_5 => ?_) (fun c_5 => ?_)
    · skip
      refine lv_iconst (v := 0) hx hb dX6_canStart_61 (by decide) ?_
      exact W.zret (v := 0) hx hb hr rfl (fun t ht hW => ⟨0, rfl, ⟨(by simp only [F_X6_canStart, if_pos c_1, if_pos c_5]), (by decide)⟩, ht⟩) (fun _ h => nomatch h) dX6_canStart_62
    · skip
      refine lv_aload_n hx hb dX6_canStart_37 rfl (lv_at hl 1 rfl) ?_
      refine lv_iload_n hx hb dX6_canStart_38 rfl (lv_at hl 2 rfl) ?_
      refine lv_iload_n hx hb dX6_canStart_39 rfl (lv_at hl 0 rfl) ?_
      refine bx_ri (va_runV (As := [.int p0, .int (rd fl ((29 * p0) + 2))]) (rest := []) ⟨hx, hb, hml, hown, hts⟩ (c_X6_hashIn l D cA mo fa ka da fl kp on rn lf wt nv nl nh nc cm dr dn la p0 (rd fl ((29 * p0) + 2)) hs (in_24 c_5)) (cwV 2 hts gX6_canStart_X6_hashIn rfl rfl rfl (by decide +kernel) ⟨Nat.le_of_ble_eq_true rfl, Nat.le_of_ble_eq_true rfl⟩) (bx_pvr (ci := 6) (q0 := 0) hK hG (hP.sub (ws' := [(mo, .inr (6, [.ref fa, .ref ka, .int on, .int rn, .int lf, .int wt, .int nv, .int nl, .int nh, .int nc, .int cm, .ref da, .int dn, .int la])), (fa, .inl (cA, 66, .inl fl)), (ka, .inl (cA, 66, .inl kp)), (da, .inl (cA, 24, .inl dr))]) [0, 1, 2, 3] rfl) rfl rfl) rfl rfl hl.1 rfl (lv_room (Nat.le_of_ble_eq_true rfl)) dX6_canStart_40 ⟨Nat.zero_le _, Nat.zero_le _⟩) (fun r_6 h_7 => ?_)
      have h_7 := h_7.symm
      subst h_7
      refine lv_aload_n hx hb dX6_canStart_43 rfl (lv_at hl 1 rfl) ?_
      refine va_get (D := D) (ci := 6) (v := .ref fa) (C := RX6) (T := TX6) (N := 14) hx hb hts hi6 hown hK hP 0 rfl rfl 0 (by decide) (hts (.fieldLink RX6 7 "BootstayModel" "flash" "[I") (by decide +kernel)) (fun _ h9 => h9) rfl dX6_canStart_44 ?_
      refine lv_bipush (v := 29) hx hb dX6_canStart_47 (by decide) ?_
      refine lv_iload_n hx hb dX6_canStart_49 rfl (lv_at hl 2 rfl) ?_
      refine lv_imul hx hb dX6_canStart_50 ?_
      refine lv_iconst (v := 3) hx hb dX6_canStart_51 (by decide) ?_
      refine lv_iadd hx hb dX6_canStart_52 ?_
      refine bx_ald (D := D) hx hb hK hP 1 0 rfl rfl (vp_in_iff.mpr (by rcases hs with h | h <;> rw [h] <;> decide)) dX6_canStart_53 ?_
      refine lv_icmp_ne (tgt := 61) hx hb dX6_canStart_54 (by decide) (fun c_8 => ?_) (fun c_8 => ?_)
      · skip
        refine lv_iconst (v := 0) hx hb dX6_canStart_61 (by decide) ?_
        exact W.zret (v := 0) hx hb hr rfl (fun t ht hW => ⟨0, rfl, ⟨(by simp only [F_X6_canStart, if_pos c_1, if_neg c_5, if_neg c_8]), (by decide)⟩, ht⟩) (fun _ h => nomatch h) dX6_canStart_62
      · skip
        refine lv_iconst (v := 1) hx hb dX6_canStart_57 (by decide) ?_
        refine lv_goto (tgt := 62) hx hb dX6_canStart_58 (by decide) ?_
        exact W.zret (v := 1) hx hb hr rfl (fun t ht hW => ⟨1, rfl, ⟨(by simp only [F_X6_canStart, if_pos c_1, if_neg c_5, if_pos c_8]), (by decide)⟩, ht⟩) (fun _ h => nomatch h) dX6_canStart_62
def F_X6_rightCheck (fl : Nat → Int32) (p0 : Int32) : Int32 := (1 + ((((7 * (rd fl ((58 + (4 * p0)) + 1))) + (13 * (rd fl ((58 + (4 * p0)) + 2)))) + (29 * (rd fl ((58 + (4 * p0)) + 3)))) - (((7 * (rd fl ((58 + (4 * p0)) + 1))) + (13 * (rd fl ((58 + (4 * p0)) + 2)))) + (29 * (rd fl ((58 + (4 * p0)) + 3)))) / 250 * 250))
set_option maxHeartbeats 4000000 in
set_option maxRecDepth 100000 in
theorem c_X6_rightCheck (l : Launch) (D : va_G) (cA : ClassId) (mo fa ka da : Nat) (fl : Nat → Int32) (kp : Nat → Int32) (on : Int32) (rn : Int32) (lf : Int32) (wt : Int32) (nv : Int32) (nl : Int32) (nh : Int32) (nc : Int32) (cm : Int32) (dr : Nat → Int32) (dn : Int32) (la : Int32) (p0 : Int32) (hs : sl p0) : Met l yX6_rightCheck wsX6_rightCheck ({ frames := 0, cells := 0, slots := 0, locals := 0 }) (va_Pc [.ref mo, .int p0] (bx_ro D [(cA, .int)] (wMo cA mo fa ka da fl kp on rn lf wt nv nl nh nc cm dr dn la))) (vp_Si (fun r => r = F_X6_rightCheck fl p0)) 0 0 (fun _ => False) := by
  refine Met.ofW (cc := cX6_rightCheck) (maxL := 3) (ret := (some .int)) (by decide) rfl ?_
  intro p e s m args below meth c s₁ B hml hv
  obtain ⟨rfl, hP, hK, hG⟩ := hv
  have hx := B.exec
  have hb := B.bytes
  have hr := B.returns
  have hts := atoms_spec (ws := wsX6_rightCheck) B.pre
  have hown : s.vm.findClass RX6 = some m.cls := findClass_of_methodNamed B.named
  have hlocks := B.notSynchronized
  have hP : va_P D vwCl [(mo, .inr (6, [.ref fa, .ref ka, .int on, .int rn, .int lf, .int wt, .int nv, .int nl, .int nh, .int nc, .int cm, .ref da, .int dn, .int la])), (fa, .inl (cA, 66, .inl fl)), (ka, .inl (cA, 66, .inl kp)), (da, .inl (cA, 24, .inl dr))] s.heap := hP
  have hl := lv_entry ([.ref mo, .int p0]) (n := 3) (Nat.le_of_ble_eq_true rfl)
  rw [lg_entry_eq]
  generalize (lg_sl ([.ref mo, .int p0]) ++ List.replicate (3 - (lg_sl ([.ref mo, .int p0])).length) Slot.unset).toArray = ls at hl ⊢
  have hl : lv_has ls 3 [(0, .ref mo), (1, .int p0)] := hl
  have hi6 : ∀ w ∈ u_ws RX6 TX6 14, w ∈ wsX6_rightCheck := by decide +kernel
  refine lv_bipush (v := 58) hx hb dX6_rightCheck_0 (by decide) ?_
  refine lv_iconst (v := 4) hx hb dX6_rightCheck_2 (by decide) ?_
  refine lv_iload_n hx hb dX6_rightCheck_3 rfl (lv_at hl 1 rfl) ?_
  refine lv_imul hx hb dX6_rightCheck_4 ?_
  refine lv_iadd hx hb dX6_rightCheck_5 ?_
  refine lv_istore_n (lv' := [(2, .int (58 + (4 * p0))), (0, .ref mo), (1, .int p0)]) hx hb dX6_rightCheck_6 rfl hl (by decide) rfl (fun ls hl => ?_)
  refine lv_iconst (v := 1) hx hb dX6_rightCheck_7 (by decide) ?_
  refine lv_bipush (v := 7) hx hb dX6_rightCheck_8 (by decide) ?_
  refine lv_aload_n hx hb dX6_rightCheck_10 rfl (lv_at hl 1 rfl) ?_
  refine va_get (D := D) (ci := 6) (v := .ref fa) (C := RX6) (T := TX6) (N := 14) hx hb hts hi6 hown hK hP 0 rfl rfl 0 (by decide) (hts (.fieldLink RX6 7 "BootstayModel" "flash" "[I") (by decide +kernel)) (fun _ h9 => h9) rfl dX6_rightCheck_11 ?_
  refine lv_iload_n hx hb dX6_rightCheck_14 rfl (lv_at hl 0 rfl) ?_
  refine lv_iconst (v := 1) hx hb dX6_rightCheck_15 (by decide) ?_
  refine lv_iadd hx hb dX6_rightCheck_16 ?_
  refine bx_ald (D := D) hx hb hK hP 1 0 rfl rfl (vp_in_iff.mpr (by rcases hs with h | h <;> rw [h] <;> decide)) dX6_rightCheck_17 ?_
  refine lv_imul hx hb dX6_rightCheck_18 ?_
  refine lv_bipush (v := 13) hx hb dX6_rightCheck_19 (by decide) ?_
  refine lv_aload_n hx hb dX6_rightCheck_21 rfl (lv_at hl 1 rfl) ?_
  refine va_get (D := D) (ci := 6) (v := .ref fa) (C := RX6) (T := TX6) (N := 14) hx hb hts hi6 hown hK hP 0 rfl rfl 0 (by decide) (hts (.fieldLink RX6 7 "BootstayModel" "flash" "[I") (by decide +kernel)) (fun _ h9 => h9) rfl dX6_rightCheck_22 ?_
  refine lv_iload_n hx hb dX6_rightCheck_25 rfl (lv_at hl 0 rfl) ?_
  refine lv_iconst (v := 2) hx hb dX6_rightCheck_26 (by decide) ?_
  refine lv_iadd hx hb dX6_rightCheck_27 ?_
  refine bx_ald (D := D) hx hb hK hP 1 0 rfl rfl (vp_in_iff.mpr (by rcases hs with h | h <;> rw [h] <;> decide)) dX6_rightCheck_28 ?_
  refine lv_imul hx hb dX6_rightCheck_29 ?_
  refine lv_iadd hx hb dX6_rightCheck_30 ?_
  refine lv_bipush (v := 29) hx hb dX6_rightCheck_31 (by decide) ?_
  refine lv_aload_n hx hb dX6_rightCheck_33 rfl (lv_at hl 1 rfl) ?_
  refine va_get (D := D) (ci := 6) (v := .ref fa) (C := RX6) (T := TX6) (N := 14) hx hb hts hi6 hown hK hP 0 rfl rfl 0 (by decide) (hts (.fieldLink RX6 7 "BootstayModel" "flash" "[I") (by decide +kernel)) (fun _ h9 => h9) rfl dX6_rightCheck_34 ?_
  refine lv_iload_n hx hb dX6_rightCheck_37 rfl (lv_at hl 0 rfl) ?_
  refine lv_iconst (v := 3) hx hb dX6_rightCheck_38 (by decide) ?_
  refine lv_iadd hx hb dX6_rightCheck_39 ?_
  refine bx_ald (D := D) hx hb hK hP 1 0 rfl rfl (vp_in_iff.mpr (by rcases hs with h | h <;> rw [h] <;> decide)) dX6_rightCheck_40 ?_
  refine lv_imul hx hb dX6_rightCheck_41 ?_
  refine lv_iadd hx hb dX6_rightCheck_42 ?_
  refine lv_sipush (v := 250) hx hb dX6_rightCheck_43 (by decide) ?_
  refine lv_irem hx hb dX6_rightCheck_46 (by decide) ?_
  refine lv_iadd hx hb dX6_rightCheck_47 ?_
  exact W.iret (v := (1 + ((((7 * (rd fl ((58 + (4 * p0)) + 1))) + (13 * (rd fl ((58 + (4 * p0)) + 2)))) + (29 * (rd fl ((58 + (4 * p0)) + 3)))) - (((7 * (rd fl ((58 + (4 * p0)) + 1))) + (13 * (rd fl ((58 + (4 * p0)) + 2)))) + (29 * (rd fl ((58 + (4 * p0)) + 3)))) / 250 * 250))) hx hb hr (fun t ht hW => ⟨(1 + ((((7 * (rd fl ((58 + (4 * p0)) + 1))) + (13 * (rd fl ((58 + (4 * p0)) + 2)))) + (29 * (rd fl ((58 + (4 * p0)) + 3)))) - (((7 * (rd fl ((58 + (4 * p0)) + 1))) + (13 * (rd fl ((58 + (4 * p0)) + 2)))) + (29 * (rd fl ((58 + (4 * p0)) + 3)))) / 250 * 250)), rfl, rfl, ht⟩) (fun _ h => nomatch h) dX6_rightCheck_48
def F_X6_holds (fl : Nat → Int32) (p0 : Int32) : Int32 := (if (rd fl ((58 + (4 * p0)) + 0)) = (F_X6_rightCheck fl p0) then 1 else 0)
set_option maxHeartbeats 4000000 in
set_option maxRecDepth 100000 in
theorem c_X6_holds (l : Launch) (D : va_G) (cA : ClassId) (mo fa ka da : Nat) (fl : Nat → Int32) (kp : Nat → Int32) (on : Int32) (rn : Int32) (lf : Int32) (wt : Int32) (nv : Int32) (nl : Int32) (nh : Int32) (nc : Int32) (cm : Int32) (dr : Nat → Int32) (dn : Int32) (la : Int32) (p0 : Int32) (hs : sl p0) : Met l yX6_holds wsX6_holds ({ frames := 1, cells := 0, slots := 0, locals := 22 }) (va_Pc [.ref mo, .int p0] (bx_ro D [(cA, .int)] (wMo cA mo fa ka da fl kp on rn lf wt nv nl nh nc cm dr dn la))) (vp_Si (fun r => r = F_X6_holds fl p0 ∧ (r = 0 ∨ r = 1))) 0 0 (fun _ => False) := by
  refine Met.ofW (cc := cX6_holds) (maxL := 2) (ret := (some .boolean)) (by decide) rfl ?_
  intro p e s m args below meth c s₁ B hml hv
  obtain ⟨rfl, hP, hK, hG⟩ := hv
  have hx := B.exec
  have hb := B.bytes
  have hr := B.returns
  have hts := atoms_spec (ws := wsX6_holds) B.pre
  have hown : s.vm.findClass RX6 = some m.cls := findClass_of_methodNamed B.named
  have hlocks := B.notSynchronized
  have hP : va_P D vwCl [(mo, .inr (6, [.ref fa, .ref ka, .int on, .int rn, .int lf, .int wt, .int nv, .int nl, .int nh, .int nc, .int cm, .ref da, .int dn, .int la])), (fa, .inl (cA, 66, .inl fl)), (ka, .inl (cA, 66, .inl kp)), (da, .inl (cA, 24, .inl dr))] s.heap := hP
  have hl := lv_entry ([.ref mo, .int p0]) (n := 2) (Nat.le_of_ble_eq_true rfl)
  rw [lg_entry_eq]
  generalize (lg_sl ([.ref mo, .int p0]) ++ List.replicate (2 - (lg_sl ([.ref mo, .int p0])).length) Slot.unset).toArray = ls at hl ⊢
  have hl : lv_has ls 2 [(0, .ref mo), (1, .int p0)] := hl
  have hi6 : ∀ w ∈ u_ws RX6 TX6 14, w ∈ wsX6_holds := by decide +kernel
  refine lv_aload_n hx hb dX6_holds_0 rfl (lv_at hl 0 rfl) ?_
  refine va_get (D := D) (ci := 6) (v := .ref fa) (C := RX6) (T := TX6) (N := 14) hx hb hts hi6 hown hK hP 0 rfl rfl 0 (by decide) (hts (.fieldLink RX6 7 "BootstayModel" "flash" "[I") (by decide +kernel)) (fun _ h9 => h9) rfl dX6_holds_1 ?_
  refine lv_bipush (v := 58) hx hb dX6_holds_4 (by decide) ?_
  refine lv_iconst (v := 4) hx hb dX6_holds_6 (by decide) ?_
  refine lv_iload_n hx hb dX6_holds_7 rfl (lv_at hl 1 rfl) ?_
  refine lv_imul hx hb dX6_holds_8 ?_
  refine lv_iadd hx hb dX6_holds_9 ?_
  refine lv_iconst (v := 0) hx hb dX6_holds_10 (by decide) ?_
  refine lv_iadd hx hb dX6_holds_11 ?_
  refine bx_ald (D := D) hx hb hK hP 1 0 rfl rfl (vp_in_iff.mpr (by rcases hs with h | h <;> rw [h] <;> decide)) dX6_holds_12 ?_
  refine lv_aload_n hx hb dX6_holds_13 rfl (lv_at hl 0 rfl) ?_
  refine lv_iload_n hx hb dX6_holds_14 rfl (lv_at hl 1 rfl) ?_
  refine bx_ri (va_runV (As := [.int p0]) (rest := [.int (rd fl ((58 + (4 * p0)) + 0))]) ⟨hx, hb, hml, hown, hts⟩ (c_X6_rightCheck l D cA mo fa ka da fl kp on rn lf wt nv nl nh nc cm dr dn la p0 hs) (cwV 1 hts gX6_holds_X6_rightCheck rfl rfl rfl (by decide +kernel) ⟨Nat.le_of_ble_eq_true rfl, Nat.le_of_ble_eq_true rfl⟩) (bx_pvr (ci := 6) (q0 := 0) hK hG (hP.sub (ws' := [(mo, .inr (6, [.ref fa, .ref ka, .int on, .int rn, .int lf, .int wt, .int nv, .int nl, .int nh, .int nc, .int cm, .ref da, .int dn, .int la])), (fa, .inl (cA, 66, .inl fl)), (ka, .inl (cA, 66, .inl kp)), (da, .inl (cA, 24, .inl dr))]) [0, 1, 2, 3] rfl) rfl rfl) rfl rfl hl.1 rfl (lv_room (Nat.le_of_ble_eq_true rfl)) dX6_holds_15 ⟨Nat.zero_le _, Nat.zero_le _⟩) (fun r_1 h_2 => ?_)
  have h_2 := h_2.symm
  subst h_2
  refine lv_icmp_ne (tgt := 25) hx hb dX6_holds_18 (by decide) (fun c_3 => ?_) (fun c_3 => ?_)
  · skip
    refine lv_iconst (v := 0) hx hb dX6_holds_25 (by decide) ?_
    exact W.zret (v := 0) hx hb hr rfl (fun t ht hW => ⟨0, rfl, ⟨(by simp only [F_X6_holds, if_neg c_3]), (by decide)⟩, ht⟩) (fun _ h => nomatch h) dX6_holds_26
  · skip
    refine lv_iconst (v := 1) hx hb dX6_holds_21 (by decide) ?_
    refine lv_goto (tgt := 26) hx hb dX6_holds_22 (by decide) ?_
    exact W.zret (v := 1) hx hb hr rfl (fun t ht hW => ⟨1, rfl, ⟨(by simp only [F_X6_holds, if_pos c_3]), (by decide)⟩, ht⟩) (fun _ h => nomatch h) dX6_holds_26
def F_X6_force (fl : Nat → Int32) : Int32 := (if (rd fl 63) ≤ (rd fl 59) then (if (F_X6_holds fl 1) = 0 then 0 else (if (F_X6_holds fl 0) = 0 then 1 else 0)) else (if (F_X6_holds fl 1) = 0 then 0 else 1))
set_option maxHeartbeats 4000000 in
set_option maxRecDepth 100000 in
theorem c_X6_force (l : Launch) (D : va_G) (cA : ClassId) (mo fa ka da : Nat) (fl : Nat → Int32) (kp : Nat → Int32) (on : Int32) (rn : Int32) (lf : Int32) (wt : Int32) (nv : Int32) (nl : Int32) (nh : Int32) (nc : Int32) (cm : Int32) (dr : Nat → Int32) (dn : Int32) (la : Int32) : Met l yX6_force wsX6_force ({ frames := 2, cells := 0, slots := 0, locals := 43 }) (va_Pc [.ref mo] (bx_ro D [(cA, .int)] (wMo cA mo fa ka da fl kp on rn lf wt nv nl nh nc cm dr dn la))) (vp_Si (fun r => r = F_X6_force fl)) 0 0 (fun _ => False) := by
  refine Met.ofW (cc := cX6_force) (maxL := 2) (ret := (some .int)) (by decide) rfl ?_
  intro p e s m args below meth c s₁ B hml hv
  obtain ⟨rfl, hP, hK, hG⟩ := hv
  have hx := B.exec
  have hb := B.bytes
  have hr := B.returns
  have hts := atoms_spec (ws := wsX6_force) B.pre
  have hown : s.vm.findClass RX6 = some m.cls := findClass_of_methodNamed B.named
  have hlocks := B.notSynchronized
  have hP : va_P D vwCl [(mo, .inr (6, [.ref fa, .ref ka, .int on, .int rn, .int lf, .int wt, .int nv, .int nl, .int nh, .int nc, .int cm, .ref da, .int dn, .int la])), (fa, .inl (cA, 66, .inl fl)), (ka, .inl (cA, 66, .inl kp)), (da, .inl (cA, 24, .inl dr))] s.heap := hP
  have hl := lv_entry ([.ref mo]) (n := 2) (Nat.le_of_ble_eq_true rfl)
  rw [lg_entry_eq]
  generalize (lg_sl ([.ref mo]) ++ List.replicate (2 - (lg_sl ([.ref mo])).length) Slot.unset).toArray = ls at hl ⊢
  have hl : lv_has ls 2 [(0, .ref mo)] := hl
  have hi6 : ∀ w ∈ u_ws RX6 TX6 14, w ∈ wsX6_force := by decide +kernel
  refine lv_aload_n hx hb dX6_force_0 rfl (lv_at hl 0 rfl) ?_
  refine va_get (D := D) (ci := 6) (v := .ref fa) (C := RX6) (T := TX6) (N := 14) hx hb hts hi6 hown hK hP 0 rfl rfl 0 (by decide) (hts (.fieldLink RX6 7 "BootstayModel" "flash" "[I") (by decide +kernel)) (fun _ h9 => h9) rfl dX6_force_1 ?_
  refine lv_bipush (v := 63) hx hb dX6_force_4 (by decide) ?_
  refine bx_ald (D := D) hx hb hK hP 1 0 rfl rfl (vp_in_iff.mpr (by decide)) dX6_force_6 ?_
  refine lv_aload_n hx hb dX6_force_7 rfl (lv_at hl 0 rfl) ?_
  refine va_get (D := D) (ci := 6) (v := .ref fa) (C := RX6) (T := TX6) (N := 14) hx hb hts hi6 hown hK hP 0 rfl rfl 0 (by decide) (hts (.fieldLink RX6 7 "BootstayModel" "flash" "[I") (by decide +kernel)) (fun _ h9 => h9) rfl dX6_force_8 ?_
  refine lv_bipush (v := 59) hx hb dX6_force_11 (by decide) ?_
  refine bx_ald (D := D) hx hb hK hP 1 0 rfl rfl (vp_in_iff.mpr (by decide)) dX6_force_13 ?_
  refine lv_icmp_le (tgt := 21) hx hb dX6_force_14 (by decide) (fun c_1 => ?_) (fun c_1 => ?_)
  · skip
    refine lv_iconst (v := 0) hx hb dX6_force_21 (by decide) ?_
    refine lv_istore_n (lv' := [(1, .int 0), (0, .ref mo)]) hx hb dX6_force_22 rfl hl (by decide) rfl (fun ls hl => ?_)
    refine lv_aload_n hx hb dX6_force_23 rfl (lv_at hl 1 rfl) ?_
    refine lv_iconst (v := 1) hx hb dX6_force_24 (by decide) ?_
    refine bx_ri (va_runV (As := [.int 1]) (rest := []) ⟨hx, hb, hml, hown, hts⟩ (c_X6_holds l D cA mo fa ka da fl kp on rn lf wt nv nl nh nc cm dr dn la 1 sl_1) (cwV 1 hts gX6_force_X6_holds rfl rfl rfl (by decide +kernel) ⟨Nat.le_of_ble_eq_true rfl, Nat.le_of_ble_eq_true rfl⟩) (bx_pvr (ci := 6) (q0 := 0) hK hG (hP.sub (ws' := [(mo, .inr (6, [.ref fa, .ref ka, .int on, .int rn, .int lf, .int wt, .int nv, .int nl, .int nh, .int nc, .int cm, .ref da, .int dn, .int la])), (fa, .inl (cA, 66, .inl fl)), (ka, .inl (cA, 66, .inl kp)), (da, .inl (cA, 24, .inl dr))]) [0, 1, 2, 3] rfl) rfl rfl) rfl rfl hl.1 rfl (lv_room (Nat.le_of_ble_eq_true rfl)) dX6_force_25 ⟨Nat.zero_le _, Nat.zero_le _⟩) (fun r_2 h_3 => ?_)
    obtain ⟨h_3, b_4⟩ := h_3
    have h_3 := h_3.symm
    subst h_3
    refine lv_if_eq (tgt := 47) hx hb dX6_force_28 (by decide) (fun c_5 => ?_) (fun c_5 => ?_)
    · skip
      refine lv_iconst (v := 0) hx hb dX6_force_47 (by decide) ?_
      exact W.iret (v := 0) hx hb hr (fun t ht hW => ⟨0, rfl, (by simp only [F_X6_force, if_pos c_1, if_pos c_5]), ht⟩) (fun _ h => nomatch h) dX6_force_48
    · skip
      refine lv_iload_n hx hb dX6_force_31 rfl (lv_at hl 0 rfl) ?_
      refine lv_if_ne (tgt := 43) hx hb dX6_force_32 (by decide) (fun c_6 => ?_) (fun c_6 => ?_)
      · skip
        exact absurd (by decide) c_6
      · skip
        refine lv_aload_n hx hb dX6_force_35 rfl (lv_at hl 1 rfl) ?_
        refine lv_iconst (v := 0) hx hb dX6_force_36 (by decide) ?_
        refine bx_ri (va_runV (As := [.int 0]) (rest := []) ⟨hx, hb, hml, hown, hts⟩ (c_X6_holds l D cA mo fa ka da fl kp on rn lf wt nv nl nh nc cm dr dn la 0 sl_0) (cwV 1 hts gX6_force_X6_holds rfl rfl rfl (by decide +kernel) ⟨Nat.le_of_ble_eq_true rfl, Nat.le_of_ble_eq_true rfl⟩) (bx_pvr (ci := 6) (q0 := 0) hK hG (hP.sub (ws' := [(mo, .inr (6, [.ref fa, .ref ka, .int on, .int rn, .int lf, .int wt, .int nv, .int nl, .int nh, .int nc, .int cm, .ref da, .int dn, .int la])), (fa, .inl (cA, 66, .inl fl)), (ka, .inl (cA, 66, .inl kp)), (da, .inl (cA, 24, .inl dr))]) [0, 1, 2, 3] rfl) rfl rfl) rfl rfl hl.1 rfl (lv_room (Nat.le_of_ble_eq_true rfl)) dX6_force_37 ⟨Nat.zero_le _, Nat.zero_le _⟩) (fun r_7 h_8 => ?_)
        obtain ⟨h_8, b_9⟩ := h_8
        have h_8 := h_8.symm
        subst h_8
        refine lv_if_ne (tgt := 47) hx hb dX6_force_40 (by decide) (fun c_10 => ?_) (fun c_10 => ?_)
        · skip
          refine lv_iconst (v := 0) hx hb dX6_force_47 (by decide) ?_
          exact W.iret (v := 0) hx hb hr (fun t ht hW => ⟨0, rfl, (by simp only [F_X6_force, if_pos c_1, if_neg c_5, if_pos c_6, if_neg c_10]), ht⟩) (fun _ h => nomatch h) dX6_force_48
        · skip
          refine lv_iconst (v := 1) hx hb dX6_force_43 (by decide) ?_
          refine lv_goto (tgt := 48) hx hb dX6_force_44 (by decide) ?_
          exact W.iret (v := 1) hx hb hr (fun t ht hW => ⟨1, rfl, (by simp only [F_X6_force, if_pos c_1, if_neg c_5, if_pos c_6, if_pos c_10]), ht⟩) (fun _ h => nomatch h) dX6_force_48
  · skip
    refine lv_iconst (v := 1) hx hb dX6_force_17 (by decide) ?_
    refine lv_goto (tgt := 22) hx hb dX6_force_18 (by decide) ?_
    refine lv_istore_n (lv' := [(1, .int 1), (0, .ref mo)]) hx hb dX6_force_22 rfl hl (by decide) rfl (fun ls hl => ?_)
    refine lv_aload_n hx hb dX6_force_23 rfl (lv_at hl 1 rfl) ?_
    refine lv_iconst (v := 1) hx hb dX6_force_24 (by decide) ?_
    refine bx_ri (va_runV (As := [.int 1]) (rest := []) ⟨hx, hb, hml, hown, hts⟩ (c_X6_holds l D cA mo fa ka da fl kp on rn lf wt nv nl nh nc cm dr dn la 1 sl_1) (cwV 1 hts gX6_force_X6_holds rfl rfl rfl (by decide +kernel) ⟨Nat.le_of_ble_eq_true rfl, Nat.le_of_ble_eq_true rfl⟩) (bx_pvr (ci := 6) (q0 := 0) hK hG (hP.sub (ws' := [(mo, .inr (6, [.ref fa, .ref ka, .int on, .int rn, .int lf, .int wt, .int nv, .int nl, .int nh, .int nc, .int cm, .ref da, .int dn, .int la])), (fa, .inl (cA, 66, .inl fl)), (ka, .inl (cA, 66, .inl kp)), (da, .inl (cA, 24, .inl dr))]) [0, 1, 2, 3] rfl) rfl rfl) rfl rfl hl.1 rfl (lv_room (Nat.le_of_ble_eq_true rfl)) dX6_force_25 ⟨Nat.zero_le _, Nat.zero_le _⟩) (fun r_11 h_12 => ?_)
    obtain ⟨h_12, b_13⟩ := h_12
    have h_12 := h_12.symm
    subst h_12
    refine lv_if_eq (tgt := 47) hx hb dX6_force_28 (by decide) (fun c_14 => ?_) (fun c_14 => ?_)
    · skip
      refine lv_iconst (v := 0) hx hb dX6_force_47 (by decide) ?_
      exact W.iret (v := 0) hx hb hr (fun t ht hW => ⟨0, rfl, (by simp only [F_X6_force, if_neg c_1, if_pos c_14]), ht⟩) (fun _ h => nomatch h) dX6_force_48
    · skip
      refine lv_iload_n hx hb dX6_force_31 rfl (lv_at hl 0 rfl) ?_
      refine lv_if_ne (tgt := 43) hx hb dX6_force_32 (by decide) (fun c_15 => ?_) (fun c_15 => ?_)
      · skip
        refine lv_iconst (v := 1) hx hb dX6_force_43 (by decide) ?_
        refine lv_goto (tgt := 48) hx hb dX6_force_44 (by decide) ?_
        exact W.iret (v := 1) hx hb hr (fun t ht hW => ⟨1, rfl, (by simp only [F_X6_force, if_neg c_1, if_neg c_14, if_neg c_15]), ht⟩) (fun _ h => nomatch h) dX6_force_48
      · skip
        exact absurd c_15 (by decide)
theorem force_sl (fl : Nat → Int32) : sl (F_X6_force fl) := by
  unfold F_X6_force
  repeat' split
  all_goals first | exact sl_0 | exact sl_1
def F_X6_inForce (fl : Nat → Int32) (p0 : Int32) : Int32 := (rd fl ((58 + (4 * (F_X6_force fl))) + p0))
set_option maxHeartbeats 4000000 in
set_option maxRecDepth 100000 in
theorem c_X6_inForce (l : Launch) (D : va_G) (cA : ClassId) (mo fa ka da : Nat) (fl : Nat → Int32) (kp : Nat → Int32) (on : Int32) (rn : Int32) (lf : Int32) (wt : Int32) (nv : Int32) (nl : Int32) (nh : Int32) (nc : Int32) (cm : Int32) (dr : Nat → Int32) (dn : Int32) (la : Int32) (p0 : Int32) (hw : p0 = 2 ∨ p0 = 3) : Met l yX6_inForce wsX6_inForce ({ frames := 3, cells := 0, slots := 0, locals := 64 }) (va_Pc [.ref mo, .int p0] (bx_ro D [(cA, .int)] (wMo cA mo fa ka da fl kp on rn lf wt nv nl nh nc cm dr dn la))) (vp_Si (fun r => r = F_X6_inForce fl p0)) 0 0 (fun _ => False) := by
  refine Met.ofW (cc := cX6_inForce) (maxL := 2) (ret := (some .int)) (by decide) rfl ?_
  intro p e s m args below meth c s₁ B hml hv
  obtain ⟨rfl, hP, hK, hG⟩ := hv
  have hx := B.exec
  have hb := B.bytes
  have hr := B.returns
  have hts := atoms_spec (ws := wsX6_inForce) B.pre
  have hown : s.vm.findClass RX6 = some m.cls := findClass_of_methodNamed B.named
  have hlocks := B.notSynchronized
  have hP : va_P D vwCl [(mo, .inr (6, [.ref fa, .ref ka, .int on, .int rn, .int lf, .int wt, .int nv, .int nl, .int nh, .int nc, .int cm, .ref da, .int dn, .int la])), (fa, .inl (cA, 66, .inl fl)), (ka, .inl (cA, 66, .inl kp)), (da, .inl (cA, 24, .inl dr))] s.heap := hP
  have hl := lv_entry ([.ref mo, .int p0]) (n := 2) (Nat.le_of_ble_eq_true rfl)
  rw [lg_entry_eq]
  generalize (lg_sl ([.ref mo, .int p0]) ++ List.replicate (2 - (lg_sl ([.ref mo, .int p0])).length) Slot.unset).toArray = ls at hl ⊢
  have hl : lv_has ls 2 [(0, .ref mo), (1, .int p0)] := hl
  have hi6 : ∀ w ∈ u_ws RX6 TX6 14, w ∈ wsX6_inForce := by decide +kernel
  refine lv_aload_n hx hb dX6_inForce_0 rfl (lv_at hl 0 rfl) ?_
  refine va_get (D := D) (ci := 6) (v := .ref fa) (C := RX6) (T := TX6) (N := 14) hx hb hts hi6 hown hK hP 0 rfl rfl 0 (by decide) (hts (.fieldLink RX6 7 "BootstayModel" "flash" "[I") (by decide +kernel)) (fun _ h9 => h9) rfl dX6_inForce_1 ?_
  refine lv_bipush (v := 58) hx hb dX6_inForce_4 (by decide) ?_
  refine lv_iconst (v := 4) hx hb dX6_inForce_6 (by decide) ?_
  refine lv_aload_n hx hb dX6_inForce_7 rfl (lv_at hl 0 rfl) ?_
  refine bx_ri (va_runV (As := []) (rest := [.int 4, .int 58, .ref fa]) ⟨hx, hb, hml, hown, hts⟩ (c_X6_force l D cA mo fa ka da fl kp on rn lf wt nv nl nh nc cm dr dn la) (cwV 0 hts gX6_inForce_X6_force rfl rfl rfl (by decide +kernel) ⟨Nat.le_of_ble_eq_true rfl, Nat.le_of_ble_eq_true rfl⟩) (bx_pvr (ci := 6) (q0 := 0) hK hG (hP.sub (ws' := [(mo, .inr (6, [.ref fa, .ref ka, .int on, .int rn, .int lf, .int wt, .int nv, .int nl, .int nh, .int nc, .int cm, .ref da, .int dn, .int la])), (fa, .inl (cA, 66, .inl fl)), (ka, .inl (cA, 66, .inl kp)), (da, .inl (cA, 24, .inl dr))]) [0, 1, 2, 3] rfl) rfl rfl) rfl rfl hl.1 rfl (lv_room (Nat.le_of_ble_eq_true rfl)) dX6_inForce_8 ⟨Nat.zero_le _, Nat.zero_le _⟩) (fun r_1 h_2 => ?_)
  have h_2 := h_2.symm
  subst h_2
  refine lv_imul hx hb dX6_inForce_11 ?_
  refine lv_iadd hx hb dX6_inForce_12 ?_
  refine lv_iload_n hx hb dX6_inForce_13 rfl (lv_at hl 1 rfl) ?_
  refine lv_iadd hx hb dX6_inForce_14 ?_
  refine bx_ald (D := D) hx hb hK hP 1 0 rfl rfl (vp_in_iff.mpr (by rcases hw with h2 | h2 <;> rcases force_sl fl with h | h <;> rw [h, h2] <;> decide)) dX6_inForce_15 ?_
  exact W.iret (v := (rd fl ((58 + (4 * (F_X6_force fl))) + p0))) hx hb hr (fun t ht hW => ⟨(rd fl ((58 + (4 * (F_X6_force fl))) + p0)), rfl, rfl, ht⟩) (fun _ h => nomatch h) dX6_inForce_16
def F_X6_confirmedSlot (fl : Nat → Int32) : Int32 := ((F_X6_inForce fl 2) - (F_X6_inForce fl 2) / 2 * 2)
set_option maxHeartbeats 4000000 in
set_option maxRecDepth 100000 in
theorem c_X6_confirmedSlot (l : Launch) (D : va_G) (cA : ClassId) (mo fa ka da : Nat) (fl : Nat → Int32) (kp : Nat → Int32) (on : Int32) (rn : Int32) (lf : Int32) (wt : Int32) (nv : Int32) (nl : Int32) (nh : Int32) (nc : Int32) (cm : Int32) (dr : Nat → Int32) (dn : Int32) (la : Int32) : Met l yX6_confirmedSlot wsX6_confirmedSlot ({ frames := 4, cells := 0, slots := 0, locals := 85 }) (va_Pc [.ref mo] (bx_ro D [(cA, .int)] (wMo cA mo fa ka da fl kp on rn lf wt nv nl nh nc cm dr dn la))) (vp_Si (fun r => r = F_X6_confirmedSlot fl)) 0 0 (fun _ => False) := by
  refine Met.ofW (cc := cX6_confirmedSlot) (maxL := 1) (ret := (some .int)) (by decide) rfl ?_
  intro p e s m args below meth c s₁ B hml hv
  obtain ⟨rfl, hP, hK, hG⟩ := hv
  have hx := B.exec
  have hb := B.bytes
  have hr := B.returns
  have hts := atoms_spec (ws := wsX6_confirmedSlot) B.pre
  have hown : s.vm.findClass RX6 = some m.cls := findClass_of_methodNamed B.named
  have hlocks := B.notSynchronized
  have hP : va_P D vwCl [(mo, .inr (6, [.ref fa, .ref ka, .int on, .int rn, .int lf, .int wt, .int nv, .int nl, .int nh, .int nc, .int cm, .ref da, .int dn, .int la])), (fa, .inl (cA, 66, .inl fl)), (ka, .inl (cA, 66, .inl kp)), (da, .inl (cA, 24, .inl dr))] s.heap := hP
  have hl := lv_entry ([.ref mo]) (n := 1) (Nat.le_of_ble_eq_true rfl)
  rw [lg_entry_eq]
  generalize (lg_sl ([.ref mo]) ++ List.replicate (1 - (lg_sl ([.ref mo])).length) Slot.unset).toArray = ls at hl ⊢
  have hl : lv_has ls 1 [(0, .ref mo)] := hl
  refine lv_aload_n hx hb dX6_confirmedSlot_0 rfl (lv_at hl 0 rfl) ?_
  refine lv_iconst (v := 2) hx hb dX6_confirmedSlot_1 (by decide) ?_
  refine bx_ri (va_runV (As := [.int 2]) (rest := []) ⟨hx, hb, hml, hown, hts⟩ (c_X6_inForce l D cA mo fa ka da fl kp on rn lf wt nv nl nh nc cm dr dn la 2 (by decide)) (cwV 1 hts gX6_confirmedSlot_X6_inForce rfl rfl rfl (by decide +kernel) ⟨Nat.le_of_ble_eq_true rfl, Nat.le_of_ble_eq_true rfl⟩) (bx_pvr (ci := 6) (q0 := 0) hK hG (hP.sub (ws' := [(mo, .inr (6, [.ref fa, .ref ka, .int on, .int rn, .int lf, .int wt, .int nv, .int nl, .int nh, .int nc, .int cm, .ref da, .int dn, .int la])), (fa, .inl (cA, 66, .inl fl)), (ka, .inl (cA, 66, .inl kp)), (da, .inl (cA, 24, .inl dr))]) [0, 1, 2, 3] rfl) rfl rfl) rfl rfl hl.1 rfl (lv_room (Nat.le_of_ble_eq_true rfl)) dX6_confirmedSlot_2 ⟨Nat.zero_le _, Nat.zero_le _⟩) (fun r_1 h_2 => ?_)
  have h_2 := h_2.symm
  subst h_2
  refine lv_iconst (v := 2) hx hb dX6_confirmedSlot_5 (by decide) ?_
  refine lv_irem hx hb dX6_confirmedSlot_6 (by decide) ?_
  exact W.iret (v := ((F_X6_inForce fl 2) - (F_X6_inForce fl 2) / 2 * 2)) hx hb hr (fun t ht hW => ⟨((F_X6_inForce fl 2) - (F_X6_inForce fl 2) / 2 * 2), rfl, rfl, ht⟩) (fun _ h => nomatch h) dX6_confirmedSlot_7
def F_X6_isDue (fl : Nat → Int32) : Int32 := (if (((F_X6_inForce fl 2) / 2) - ((F_X6_inForce fl 2) / 2) / 2 * 2) = 1 then 1 else 0)
set_option maxHeartbeats 4000000 in
set_option maxRecDepth 100000 in
theorem c_X6_isDue (l : Launch) (D : va_G) (cA : ClassId) (mo fa ka da : Nat) (fl : Nat → Int32) (kp : Nat → Int32) (on : Int32) (rn : Int32) (lf : Int32) (wt : Int32) (nv : Int32) (nl : Int32) (nh : Int32) (nc : Int32) (cm : Int32) (dr : Nat → Int32) (dn : Int32) (la : Int32) : Met l yX6_isDue wsX6_isDue ({ frames := 4, cells := 0, slots := 0, locals := 85 }) (va_Pc [.ref mo] (bx_ro D [(cA, .int)] (wMo cA mo fa ka da fl kp on rn lf wt nv nl nh nc cm dr dn la))) (vp_Si (fun r => r = F_X6_isDue fl ∧ (r = 0 ∨ r = 1))) 0 0 (fun _ => False) := by
  refine Met.ofW (cc := cX6_isDue) (maxL := 1) (ret := (some .boolean)) (by decide) rfl ?_
  intro p e s m args below meth c s₁ B hml hv
  obtain ⟨rfl, hP, hK, hG⟩ := hv
  have hx := B.exec
  have hb := B.bytes
  have hr := B.returns
  have hts := atoms_spec (ws := wsX6_isDue) B.pre
  have hown : s.vm.findClass RX6 = some m.cls := findClass_of_methodNamed B.named
  have hlocks := B.notSynchronized
  have hP : va_P D vwCl [(mo, .inr (6, [.ref fa, .ref ka, .int on, .int rn, .int lf, .int wt, .int nv, .int nl, .int nh, .int nc, .int cm, .ref da, .int dn, .int la])), (fa, .inl (cA, 66, .inl fl)), (ka, .inl (cA, 66, .inl kp)), (da, .inl (cA, 24, .inl dr))] s.heap := hP
  have hl := lv_entry ([.ref mo]) (n := 1) (Nat.le_of_ble_eq_true rfl)
  rw [lg_entry_eq]
  generalize (lg_sl ([.ref mo]) ++ List.replicate (1 - (lg_sl ([.ref mo])).length) Slot.unset).toArray = ls at hl ⊢
  have hl : lv_has ls 1 [(0, .ref mo)] := hl
  refine lv_aload_n hx hb dX6_isDue_0 rfl (lv_at hl 0 rfl) ?_
  refine lv_iconst (v := 2) hx hb dX6_isDue_1 (by decide) ?_
  refine bx_ri (va_runV (As := [.int 2]) (rest := []) ⟨hx, hb, hml, hown, hts⟩ (c_X6_inForce l D cA mo fa ka da fl kp on rn lf wt nv nl nh nc cm dr dn la 2 (by decide)) (cwV 1 hts gX6_isDue_X6_inForce rfl rfl rfl (by decide +kernel) ⟨Nat.le_of_ble_eq_true rfl, Nat.le_of_ble_eq_true rfl⟩) (bx_pvr (ci := 6) (q0 := 0) hK hG (hP.sub (ws' := [(mo, .inr (6, [.ref fa, .ref ka, .int on, .int rn, .int lf, .int wt, .int nv, .int nl, .int nh, .int nc, .int cm, .ref da, .int dn, .int la])), (fa, .inl (cA, 66, .inl fl)), (ka, .inl (cA, 66, .inl kp)), (da, .inl (cA, 24, .inl dr))]) [0, 1, 2, 3] rfl) rfl rfl) rfl rfl hl.1 rfl (lv_room (Nat.le_of_ble_eq_true rfl)) dX6_isDue_2 ⟨Nat.zero_le _, Nat.zero_le _⟩) (fun r_1 h_2 => ?_)
  have h_2 := h_2.symm
  subst h_2
  refine lv_iconst (v := 2) hx hb dX6_isDue_5 (by decide) ?_
  refine lv_idiv hx hb dX6_isDue_6 (by decide) ?_
  refine lv_iconst (v := 2) hx hb dX6_isDue_7 (by decide) ?_
  refine lv_irem hx hb dX6_isDue_8 (by decide) ?_
  refine lv_iconst (v := 1) hx hb dX6_isDue_9 (by decide) ?_
  refine lv_icmp_ne (tgt := 17) hx hb dX6_isDue_10 (by decide) (fun c_3 => ?_) (fun c_3 => ?_)
  · skip
    refine lv_iconst (v := 0) hx hb dX6_isDue_17 (by decide) ?_
    exact W.zret (v := 0) hx hb hr rfl (fun t ht hW => ⟨0, rfl, ⟨(by simp only [F_X6_isDue, if_neg c_3]), (by decide)⟩, ht⟩) (fun _ h => nomatch h) dX6_isDue_18
  · skip
    refine lv_iconst (v := 1) hx hb dX6_isDue_13 (by decide) ?_
    refine lv_goto (tgt := 18) hx hb dX6_isDue_14 (by decide) ?_
    exact W.zret (v := 1) hx hb hr rfl (fun t ht hW => ⟨1, rfl, ⟨(by simp only [F_X6_isDue, if_pos c_3]), (by decide)⟩, ht⟩) (fun _ h => nomatch h) dX6_isDue_18
def F_X6_triesLeft (fl : Nat → Int32) : Int32 := (if (F_X6_isDue fl) = 0 then 0 else ((F_X6_inForce fl 2) / 4))
set_option maxHeartbeats 4000000 in
set_option maxRecDepth 100000 in
theorem c_X6_triesLeft (l : Launch) (D : va_G) (cA : ClassId) (mo fa ka da : Nat) (fl : Nat → Int32) (kp : Nat → Int32) (on : Int32) (rn : Int32) (lf : Int32) (wt : Int32) (nv : Int32) (nl : Int32) (nh : Int32) (nc : Int32) (cm : Int32) (dr : Nat → Int32) (dn : Int32) (la : Int32) : Met l yX6_triesLeft wsX6_triesLeft ({ frames := 5, cells := 0, slots := 0, locals := 105 }) (va_Pc [.ref mo] (bx_ro D [(cA, .int)] (wMo cA mo fa ka da fl kp on rn lf wt nv nl nh nc cm dr dn la))) (vp_Si (fun r => r = F_X6_triesLeft fl)) 0 0 (fun _ => False) := by
  refine Met.ofW (cc := cX6_triesLeft) (maxL := 1) (ret := (some .int)) (by decide) rfl ?_
  intro p e s m args below meth c s₁ B hml hv
  obtain ⟨rfl, hP, hK, hG⟩ := hv
  have hx := B.exec
  have hb := B.bytes
  have hr := B.returns
  have hts := atoms_spec (ws := wsX6_triesLeft) B.pre
  have hown : s.vm.findClass RX6 = some m.cls := findClass_of_methodNamed B.named
  have hlocks := B.notSynchronized
  have hP : va_P D vwCl [(mo, .inr (6, [.ref fa, .ref ka, .int on, .int rn, .int lf, .int wt, .int nv, .int nl, .int nh, .int nc, .int cm, .ref da, .int dn, .int la])), (fa, .inl (cA, 66, .inl fl)), (ka, .inl (cA, 66, .inl kp)), (da, .inl (cA, 24, .inl dr))] s.heap := hP
  have hl := lv_entry ([.ref mo]) (n := 1) (Nat.le_of_ble_eq_true rfl)
  rw [lg_entry_eq]
  generalize (lg_sl ([.ref mo]) ++ List.replicate (1 - (lg_sl ([.ref mo])).length) Slot.unset).toArray = ls at hl ⊢
  have hl : lv_has ls 1 [(0, .ref mo)] := hl
  refine lv_aload_n hx hb dX6_triesLeft_0 rfl (lv_at hl 0 rfl) ?_
  refine bx_ri (va_runV (As := []) (rest := []) ⟨hx, hb, hml, hown, hts⟩ (c_X6_isDue l D cA mo fa ka da fl kp on rn lf wt nv nl nh nc cm dr dn la) (cwV 0 hts gX6_triesLeft_X6_isDue rfl rfl rfl (by decide +kernel) ⟨Nat.le_of_ble_eq_true rfl, Nat.le_of_ble_eq_true rfl⟩) (bx_pvr (ci := 6) (q0 := 0) hK hG (hP.sub (ws' := [(mo, .inr (6, [.ref fa, .ref ka, .int on, .int rn, .int lf, .int wt, .int nv, .int nl, .int nh, .int nc, .int cm, .ref da, .int dn, .int la])), (fa, .inl (cA, 66, .inl fl)), (ka, .inl (cA, 66, .inl kp)), (da, .inl (cA, 24, .inl dr))]) [0, 1, 2, 3] rfl) rfl rfl) rfl rfl hl.1 rfl (lv_room (Nat.le_of_ble_eq_true rfl)) dX6_triesLeft_1 ⟨Nat.zero_le _, Nat.zero_le _⟩) (fun r_1 h_2 => ?_)
  obtain ⟨h_2, b_3⟩ := h_2
  have h_2 := h_2.symm
  subst h_2
  refine lv_if_eq (tgt := 17) hx hb dX6_triesLeft_4 (by decide) (fun c_4 => ?_) (fun c_4 => ?_)
  · skip
    refine lv_iconst (v := 0) hx hb dX6_triesLeft_17 (by decide) ?_
    exact W.iret (v := 0) hx hb hr (fun t ht hW => ⟨0, rfl, (by simp only [F_X6_triesLeft, if_pos c_4]), ht⟩) (fun _ h => nomatch h) dX6_triesLeft_18
  · skip
    refine lv_aload_n hx hb dX6_triesLeft_7 rfl (lv_at hl 0 rfl) ?_
    refine lv_iconst (v := 2) hx hb dX6_triesLeft_8 (by decide) ?_
    refine bx_ri (va_runV (As := [.int 2]) (rest := []) ⟨hx, hb, hml, hown, hts⟩ (c_X6_inForce l D cA mo fa ka da fl kp on rn lf wt nv nl nh nc cm dr dn la 2 (by decide)) (cwV 1 hts gX6_triesLeft_X6_inForce rfl rfl rfl (by decide +kernel) ⟨Nat.le_of_ble_eq_true rfl, Nat.le_of_ble_eq_true rfl⟩) (bx_pvr (ci := 6) (q0 := 0) hK hG (hP.sub (ws' := [(mo, .inr (6, [.ref fa, .ref ka, .int on, .int rn, .int lf, .int wt, .int nv, .int nl, .int nh, .int nc, .int cm, .ref da, .int dn, .int la])), (fa, .inl (cA, 66, .inl fl)), (ka, .inl (cA, 66, .inl kp)), (da, .inl (cA, 24, .inl dr))]) [0, 1, 2, 3] rfl) rfl rfl) rfl rfl hl.1 rfl (lv_room (Nat.le_of_ble_eq_true rfl)) dX6_triesLeft_9 ⟨Nat.zero_le _, Nat.zero_le _⟩) (fun r_5 h_6 => ?_)
    have h_6 := h_6.symm
    subst h_6
    refine lv_iconst (v := 4) hx hb dX6_triesLeft_12 (by decide) ?_
    refine lv_idiv hx hb dX6_triesLeft_13 (by decide) ?_
    refine lv_goto (tgt := 18) hx hb dX6_triesLeft_14 (by decide) ?_
    exact W.iret (v := ((F_X6_inForce fl 2) / 4)) hx hb hr (fun t ht hW => ⟨((F_X6_inForce fl 2) / 4), rfl, (by simp only [F_X6_triesLeft, if_neg c_4]), ht⟩) (fun _ h => nomatch h) dX6_triesLeft_18
def F_X6_goesOff : (Int32) × (Int32) × (Int32) := (0, (-1), (-1))
set_option maxHeartbeats 4000000 in
set_option maxRecDepth 100000 in
theorem c_X6_goesOff (l : Launch) (D : va_G) (cA : ClassId) (mo fa ka da : Nat) (sz : Nat) (fl : Nat → Int32) (kp : Nat → Int32) (on : Int32) (rn : Int32) (lf : Int32) (wt : Int32) (nv : Int32) (nl : Int32) (nh : Int32) (nc : Int32) (cm : Int32) (dr : Nat → Int32) (dn : Int32) (la : Int32) : Met l yX6_goesOff wsX6_goesOff ({ frames := 0, cells := 0, slots := 0, locals := 0 }) (va_Pc [.ref mo] (bx_pre D [(cA, .int)] (wMo cA mo fa ka da fl kp on rn lf wt nv nl nh nc cm dr dn la) sz)) (va_Qv (fun u => u = F_X6_goesOff) (fun u t => bx_at D (wMo cA mo fa ka da fl kp u.1 u.2.1 lf wt nv nl nh nc u.2.2 dr dn la) (va_A (wMo cA mo fa ka da fl kp on rn lf wt nv nl nh nc cm dr dn la) sz) t) (va_A (wMo cA mo fa ka da fl kp on rn lf wt nv nl nh nc cm dr dn la) sz)) 0 0 (va_A (wMo cA mo fa ka da fl kp on rn lf wt nv nl nh nc cm dr dn la) sz) := by
  refine Met.ofW (cc := cX6_goesOff) (maxL := 1) (ret := none) (by decide) rfl ?_
  intro p e s m args below meth c s₁ B hml hv
  obtain ⟨rfl, hsz, hP, hK, hD0, hG⟩ := hv
  have hx := B.exec
  have hb := B.bytes
  have hr := B.returns
  have hts := atoms_spec (ws := wsX6_goesOff) B.pre
  have hown : s.vm.findClass RX6 = some m.cls := findClass_of_methodNamed B.named
  have hlocks := B.notSynchronized
  subst hsz
  have hD := hD0.self (sz := s.heap.size)
  generalize hAe : va_A (wMo cA mo fa ka da fl kp on rn lf wt nv nl nh nc cm dr dn la) s.heap.size = A at hD ⊢
  have hA : ∀ q : Nat, s.heap.size ≤ q → A q := fun q h => by rw [← hAe]; exact Or.inr h
  have hS : va_S A s.heap s.heap [] := va_S.rf
  have hD : va_D A [(mo, .inr (6, [.ref fa, .ref ka, .int on, .int rn, .int lf, .int wt, .int nv, .int nl, .int nh, .int nc, .int cm, .ref da, .int dn, .int la])), (fa, .inl (cA, 66, .inl fl)), (ka, .inl (cA, 66, .inl kp)), (da, .inl (cA, 24, .inl dr))] := hD
  have hP : va_P D vwCl [(mo, .inr (6, [.ref fa, .ref ka, .int on, .int rn, .int lf, .int wt, .int nv, .int nl, .int nh, .int nc, .int cm, .ref da, .int dn, .int la])), (fa, .inl (cA, 66, .inl fl)), (ka, .inl (cA, 66, .inl kp)), (da, .inl (cA, 24, .inl dr))] s.heap := hP
  have hl := lv_entry ([.ref mo]) (n := 1) (Nat.le_of_ble_eq_true rfl)
  rw [lg_entry_eq]
  generalize (lg_sl ([.ref mo]) ++ List.replicate (1 - (lg_sl ([.ref mo])).length) Slot.unset).toArray = ls at hl ⊢
  have hl : lv_has ls 1 [(0, .ref mo)] := hl
  have hi6 : ∀ w ∈ u_ws RX6 TX6 14, w ∈ wsX6_goesOff := by decide +kernel
  refine lv_aload_n hx hb dX6_goesOff_0 rfl (lv_at hl 0 rfl) ?_
  refine lv_iconst (v := 0) hx hb dX6_goesOff_1 (by decide) ?_
  refine va_put (D := D) (ci := 6) (v := .int 0) (ty := .boolean) (C := RX6) (T := TX6) (N := 14) hx hb hts hi6 tyX6 tyX6_ok nmX6 hown hK hP hD hS 0 rfl rfl 2 (by decide) (hts (.fieldLink RX6 63 "BootstayModel" "on" "Z") (by decide +kernel)) (fun _ h9 => h9) rfl (by decide +kernel) rfl rfl (Nat.le_of_ble_eq_true rfl) dX6_goesOff_2 (fun H locs hP hD hS => ?_)
  have hP : va_P D vwCl [(mo, .inr (6, [.ref fa, .ref ka, .int 0, .int rn, .int lf, .int wt, .int nv, .int nl, .int nh, .int nc, .int cm, .ref da, .int dn, .int la])), (fa, .inl (cA, 66, .inl fl)), (ka, .inl (cA, 66, .inl kp)), (da, .inl (cA, 24, .inl dr))] H := hP
  have hD : va_D A [(mo, .inr (6, [.ref fa, .ref ka, .int 0, .int rn, .int lf, .int wt, .int nv, .int nl, .int nh, .int nc, .int cm, .ref da, .int dn, .int la])), (fa, .inl (cA, 66, .inl fl)), (ka, .inl (cA, 66, .inl kp)), (da, .inl (cA, 24, .inl dr))] := hD
  refine lv_aload_n hx hb dX6_goesOff_5 rfl (lv_at hl 0 rfl) ?_
  refine lv_iconst (v := (-1)) hx hb dX6_goesOff_6 (by decide) ?_
  refine va_put (D := D) (ci := 6) (v := .int (-1)) (ty := .int) (C := RX6) (T := TX6) (N := 14) hx hb hts hi6 tyX6 tyX6_ok nmX6 hown hK hP hD hS 0 rfl rfl 3 (by decide) (hts (.fieldLink RX6 16 "BootstayModel" "running" "I") (by decide +kernel)) (fun _ h9 => h9) rfl (by decide +kernel) rfl rfl (Nat.le_of_ble_eq_true rfl) dX6_goesOff_7 (fun H locs hP hD hS => ?_)
  have hP : va_P D vwCl [(mo, .inr (6, [.ref fa, .ref ka, .int 0, .int (-1), .int lf, .int wt, .int nv, .int nl, .int nh, .int nc, .int cm, .ref da, .int dn, .int la])), (fa, .inl (cA, 66, .inl fl)), (ka, .inl (cA, 66, .inl kp)), (da, .inl (cA, 24, .inl dr))] H := hP
  have hD : va_D A [(mo, .inr (6, [.ref fa, .ref ka, .int 0, .int (-1), .int lf, .int wt, .int nv, .int nl, .int nh, .int nc, .int cm, .ref da, .int dn, .int la])), (fa, .inl (cA, 66, .inl fl)), (ka, .inl (cA, 66, .inl kp)), (da, .inl (cA, 24, .inl dr))] := hD
  refine lv_aload_n hx hb dX6_goesOff_10 rfl (lv_at hl 0 rfl) ?_
  refine lv_iconst (v := (-1)) hx hb dX6_goesOff_11 (by decide) ?_
  refine va_put (D := D) (ci := 6) (v := .int (-1)) (ty := .int) (C := RX6) (T := TX6) (N := 14) hx hb hts hi6 tyX6 tyX6_ok nmX6 hown hK hP hD hS 0 rfl rfl 10 (by decide) (hts (.fieldLink RX6 23 "BootstayModel" "come" "I") (by decide +kernel)) (fun _ h9 => h9) rfl (by decide +kernel) rfl rfl (Nat.le_of_ble_eq_true rfl) dX6_goesOff_12 (fun H locs hP hD hS => ?_)
  have hP : va_P D vwCl [(mo, .inr (6, [.ref fa, .ref ka, .int 0, .int (-1), .int lf, .int wt, .int nv, .int nl, .int nh, .int nc, .int (-1), .ref da, .int dn, .int la])), (fa, .inl (cA, 66, .inl fl)), (ka, .inl (cA, 66, .inl kp)), (da, .inl (cA, 24, .inl dr))] H := hP
  have hD : va_D A [(mo, .inr (6, [.ref fa, .ref ka, .int 0, .int (-1), .int lf, .int wt, .int nv, .int nl, .int nh, .int nc, .int (-1), .ref da, .int dn, .int la])), (fa, .inl (cA, 66, .inl fl)), (ka, .inl (cA, 66, .inl kp)), (da, .inl (cA, 24, .inl dr))] := hD
  exact W.vret hx hb hr (fun t ht hW => ⟨⟨(0, (-1), (-1)), rfl, rfl, ⟨by rw [ht]; exact hP, hD⟩⟩, hS.F ht⟩) hS.2.2 dX6_goesOff_15
def F_X6_lays (fl : Nat → Int32) (on : Int32) (rn : Int32) (lf : Int32) (wt : Int32) (cm : Int32) (p0 : Int32) (p1 : Int32) : Int32 × (Nat → Int32) × (Int32) × (Int32) × (Int32) × (Int32) × (Int32) := (if lf = 0 then (match F_X6_goesOff with | (on5, rn6, cm7) => (0, (wr fl p0 ((rd fl p0) &&& p1)), on5, rn6, (-1), (wt + 1), cm7)) else (if lf ≤ 0 then (1, (wr fl p0 p1), on, rn, (lf - 0), (wt + 1), cm) else (1, (wr fl p0 p1), on, rn, (lf - 1), (wt + 1), cm)))
set_option maxHeartbeats 4000000 in
set_option maxRecDepth 100000 in
theorem c_X6_lays (l : Launch) (D : va_G) (cA : ClassId) (mo fa ka da : Nat) (sz : Nat) (fl : Nat → Int32) (kp : Nat → Int32) (on : Int32) (rn : Int32) (lf : Int32) (wt : Int32) (nv : Int32) (nl : Int32) (nh : Int32) (nc : Int32) (cm : Int32) (dr : Nat → Int32) (dn : Int32) (la : Int32) (p0 : Int32) (p1 : Int32) (hat : vp_in p0 66) : Met l yX6_lays wsX6_lays ({ frames := 1, cells := 0, slots := 0, locals := 20 }) (va_Pc [.ref mo, .int p0, .int p1] (bx_pre D [(cA, .int)] (wMo cA mo fa ka da fl kp on rn lf wt nv nl nh nc cm dr dn la) sz)) (va_Qi (fun r u => (r, u) = F_X6_lays fl on rn lf wt cm p0 p1 ∧ (r = 0 ∨ r = 1)) (fun u t => bx_at D (wMo cA mo fa ka da u.1 kp u.2.1 u.2.2.1 u.2.2.2.1 u.2.2.2.2.1 nv nl nh nc u.2.2.2.2.2 dr dn la) (va_A (wMo cA mo fa ka da fl kp on rn lf wt nv nl nh nc cm dr dn la) sz) t) (va_A (wMo cA mo fa ka da fl kp on rn lf wt nv nl nh nc cm dr dn la) sz)) 0 0 (va_A (wMo cA mo fa ka da fl kp on rn lf wt nv nl nh nc cm dr dn la) sz) := by
  refine Met.ofW (cc := cX6_lays) (maxL := 3) (ret := (some .boolean)) (by decide) rfl ?_
  intro p e s m args below meth c s₁ B hml hv
  obtain ⟨rfl, hsz, hP, hK, hD0, hG⟩ := hv
  have hx := B.exec
  have hb := B.bytes
  have hr := B.returns
  have hts := atoms_spec (ws := wsX6_lays) B.pre
  have hown : s.vm.findClass RX6 = some m.cls := findClass_of_methodNamed B.named
  have hlocks := B.notSynchronized
  subst hsz
  have hD := hD0.self (sz := s.heap.size)
  generalize hAe : va_A (wMo cA mo fa ka da fl kp on rn lf wt nv nl nh nc cm dr dn la) s.heap.size = A at hD ⊢
  have hA : ∀ q : Nat, s.heap.size ≤ q → A q := fun q h => by rw [← hAe]; exact Or.inr h
  have hS : va_S A s.heap s.heap [] := va_S.rf
  have hD : va_D A [(mo, .inr (6, [.ref fa, .ref ka, .int on, .int rn, .int lf, .int wt, .int nv, .int nl, .int nh, .int nc, .int cm, .ref da, .int dn, .int la])), (fa, .inl (cA, 66, .inl fl)), (ka, .inl (cA, 66, .inl kp)), (da, .inl (cA, 24, .inl dr))] := hD
  have hP : va_P D vwCl [(mo, .inr (6, [.ref fa, .ref ka, .int on, .int rn, .int lf, .int wt, .int nv, .int nl, .int nh, .int nc, .int cm, .ref da, .int dn, .int la])), (fa, .inl (cA, 66, .inl fl)), (ka, .inl (cA, 66, .inl kp)), (da, .inl (cA, 24, .inl dr))] s.heap := hP
  have hl := lv_entry ([.ref mo, .int p0, .int p1]) (n := 3) (Nat.le_of_ble_eq_true rfl)
  rw [lg_entry_eq]
  generalize (lg_sl ([.ref mo, .int p0, .int p1]) ++ List.replicate (3 - (lg_sl ([.ref mo, .int p0, .int p1])).length) Slot.unset).toArray = ls at hl ⊢
  have hl : lv_has ls 3 [(0, .ref mo), (1, .int p0), (2, .int p1)] := hl
  have hi6 : ∀ w ∈ u_ws RX6 TX6 14, w ∈ wsX6_lays := by decide +kernel
  refine lv_aload_n hx hb dX6_lays_0 rfl (lv_at hl 0 rfl) ?_
  refine lv_dup hx hb dX6_lays_1 rfl ?_
  refine va_get (D := D) (ci := 6) (v := .int wt) (C := RX6) (T := TX6) (N := 14) hx hb hts hi6 hown hK hP 0 rfl rfl 5 (by decide) (hts (.fieldLink RX6 67 "BootstayModel" "writes" "I") (by decide +kernel)) (fun _ h9 => h9) rfl dX6_lays_2 ?_
  refine lv_iconst (v := 1) hx hb dX6_lays_5 (by decide) ?_
  refine lv_iadd hx hb dX6_lays_6 ?_
  refine va_put (D := D) (ci := 6) (v := .int (wt + 1)) (ty := .int) (C := RX6) (T := TX6) (N := 14) hx hb hts hi6 tyX6 tyX6_ok nmX6 hown hK hP hD hS 0 rfl rfl 5 (by decide) (hts (.fieldLink RX6 67 "BootstayModel" "writes" "I") (by decide +kernel)) (fun _ h9 => h9) rfl (by decide +kernel) rfl rfl (Nat.le_of_ble_eq_true rfl) dX6_lays_7 (fun H locs hP hD hS => ?_)
  have hP : va_P D vwCl [(mo, .inr (6, [.ref fa, .ref ka, .int on, .int rn, .int lf, .int (wt + 1), .int nv, .int nl, .int nh, .int nc, .int cm, .ref da, .int dn, .int la])), (fa, .inl (cA, 66, .inl fl)), (ka, .inl (cA, 66, .inl kp)), (da, .inl (cA, 24, .inl dr))] H := hP
  have hD : va_D A [(mo, .inr (6, [.ref fa, .ref ka, .int on, .int rn, .int lf, .int (wt + 1), .int nv, .int nl, .int nh, .int nc, .int cm, .ref da, .int dn, .int la])), (fa, .inl (cA, 66, .inl fl)), (ka, .inl (cA, 66, .inl kp)), (da, .inl (cA, 24, .inl dr))] := hD
  refine lv_aload_n hx hb dX6_lays_10 rfl (lv_at hl 0 rfl) ?_
  refine va_get (D := D) (ci := 6) (v := .int lf) (C := RX6) (T := TX6) (N := 14) hx hb hts hi6 hown hK hP 0 rfl rfl 4 (by decide) (hts (.fieldLink RX6 20 "BootstayModel" "left" "I") (by decide +kernel)) (fun _ h9 => h9) rfl dX6_lays_11 ?_
  refine lv_if_ne (tgt := 38) hx hb dX6_lays_14 (by decide) (fun c_1 => ?_) (fun c_1 => ?_)
  · skip
    refine lv_aload_n hx hb dX6_lays_38 rfl (lv_at hl 0 rfl) ?_
    refine lv_dup hx hb dX6_lays_39 rfl ?_
    refine va_get (D := D) (ci := 6) (v := .int lf) (C := RX6) (T := TX6) (N := 14) hx hb hts hi6 hown hK hP 0 rfl rfl 4 (by decide) (hts (.fieldLink RX6 20 "BootstayModel" "left" "I") (by decide +kernel)) (fun _ h9 => h9) rfl dX6_lays_40 ?_
    refine lv_aload_n hx hb dX6_lays_43 rfl (lv_at hl 0 rfl) ?_
    refine va_get (D := D) (ci := 6) (v := .int lf) (C := RX6) (T := TX6) (N := 14) hx hb hts hi6 hown hK hP 0 rfl rfl 4 (by decide) (hts (.fieldLink RX6 20 "BootstayModel" "left" "I") (by decide +kernel)) (fun _ h9 => h9) rfl dX6_lays_44 ?_
    refine lv_if_le (tgt := 54) hx hb dX6_lays_47 (by decide) (fun c_2 => ?_) (fun c_2 => ?_)
    · skip
      refine lv_iconst (v := 0) hx hb dX6_lays_54 (by decide) ?_
      refine lv_isub hx hb dX6_lays_55 ?_
      refine va_put (D := D) (ci := 6) (v := .int (lf - 0)) (ty := .int) (C := RX6) (T := TX6) (N := 14) hx hb hts hi6 tyX6 tyX6_ok nmX6 hown hK hP hD hS 0 rfl rfl 4 (by decide) (hts (.fieldLink RX6 20 "BootstayModel" "left" "I") (by decide +kernel)) (fun _ h9 => h9) rfl (by decide +kernel) rfl rfl (Nat.le_of_ble_eq_true rfl) dX6_lays_56 (fun H locs hP hD hS => ?_)
      have hP : va_P D vwCl [(mo, .inr (6, [.ref fa, .ref ka, .int on, .int rn, .int (lf - 0), .int (wt + 1), .int nv, .int nl, .int nh, .int nc, .int cm, .ref da, .int dn, .int la])), (fa, .inl (cA, 66, .inl fl)), (ka, .inl (cA, 66, .inl kp)), (da, .inl (cA, 24, .inl dr))] H := hP
      have hD : va_D A [(mo, .inr (6, [.ref fa, .ref ka, .int on, .int rn, .int (lf - 0), .int (wt + 1), .int nv, .int nl, .int nh, .int nc, .int cm, .ref da, .int dn, .int la])), (fa, .inl (cA, 66, .inl fl)), (ka, .inl (cA, 66, .inl kp)), (da, .inl (cA, 24, .inl dr))] := hD
      refine lv_aload_n hx hb dX6_lays_59 rfl (lv_at hl 0 rfl) ?_
      refine va_get (D := D) (ci := 6) (v := .ref fa) (C := RX6) (T := TX6) (N := 14) hx hb hts hi6 hown hK hP 0 rfl rfl 0 (by decide) (hts (.fieldLink RX6 7 "BootstayModel" "flash" "[I") (by decide +kernel)) (fun _ h9 => h9) rfl dX6_lays_60 ?_
      refine lv_iload_n hx hb dX6_lays_63 rfl (lv_at hl 1 rfl) ?_
      refine lv_iload_n hx hb dX6_lays_64 rfl (lv_at hl 2 rfl) ?_
      refine bx_ast (D := D) hx hb hK hP hD hS 1 0 rfl rfl hat dX6_lays_65 (fun H locs hP hD hS => ?_)
      have hP : va_P D vwCl [(mo, .inr (6, [.ref fa, .ref ka, .int on, .int rn, .int (lf - 0), .int (wt + 1), .int nv, .int nl, .int nh, .int nc, .int cm, .ref da, .int dn, .int la])), (fa, .inl (cA, 66, .inl (wr fl p0 p1))), (ka, .inl (cA, 66, .inl kp)), (da, .inl (cA, 24, .inl dr))] H := hP
      have hD : va_D A [(mo, .inr (6, [.ref fa, .ref ka, .int on, .int rn, .int (lf - 0), .int (wt + 1), .int nv, .int nl, .int nh, .int nc, .int cm, .ref da, .int dn, .int la])), (fa, .inl (cA, 66, .inl (wr fl p0 p1))), (ka, .inl (cA, 66, .inl kp)), (da, .inl (cA, 24, .inl dr))] := hD
      refine lv_iconst (v := 1) hx hb dX6_lays_66 (by decide) ?_
      exact W.zret (v := 1) hx hb hr rfl (fun t ht hW => ⟨⟨1, ((wr fl p0 p1), on, rn, (lf - 0), (wt + 1), cm), rfl, ⟨(by simp only [F_X6_lays, if_neg c_1, if_pos c_2]), (by decide)⟩, ⟨by rw [ht]; exact hP, hD⟩⟩, hS.F ht⟩) hS.2.2 dX6_lays_67
    · skip
      refine lv_iconst (v := 1) hx hb dX6_lays_50 (by decide) ?_
      refine lv_goto (tgt := 55) hx hb dX6_lays_51 (by decide) ?_
      refine lv_isub hx hb dX6_lays_55 ?_
      refine va_put (D := D) (ci := 6) (v := .int (lf - 1)) (ty := .int) (C := RX6) (T := TX6) (N := 14) hx hb hts hi6 tyX6 tyX6_ok nmX6 hown hK hP hD hS 0 rfl rfl 4 (by decide) (hts (.fieldLink RX6 20 "BootstayModel" "left" "I") (by decide +kernel)) (fun _ h9 => h9) rfl (by decide +kernel) rfl rfl (Nat.le_of_ble_eq_true rfl) dX6_lays_56 (fun H locs hP hD hS => ?_)
      have hP : va_P D vwCl [(mo, .inr (6, [.ref fa, .ref ka, .int on, .int rn, .int (lf - 1), .int (wt + 1), .int nv, .int nl, .int nh, .int nc, .int cm, .ref da, .int dn, .int la])), (fa, .inl (cA, 66, .inl fl)), (ka, .inl (cA, 66, .inl kp)), (da, .inl (cA, 24, .inl dr))] H := hP
      have hD : va_D A [(mo, .inr (6, [.ref fa, .ref ka, .int on, .int rn, .int (lf - 1), .int (wt + 1), .int nv, .int nl, .int nh, .int nc, .int cm, .ref da, .int dn, .int la])), (fa, .inl (cA, 66, .inl fl)), (ka, .inl (cA, 66, .inl kp)), (da, .inl (cA, 24, .inl dr))] := hD
      refine lv_aload_n hx hb dX6_lays_59 rfl (lv_at hl 0 rfl) ?_
      refine va_get (D := D) (ci := 6) (v := .ref fa) (C := RX6) (T := TX6) (N := 14) hx hb hts hi6 hown hK hP 0 rfl rfl 0 (by decide) (hts (.fieldLink RX6 7 "BootstayModel" "flash" "[I") (by decide +kernel)) (fun _ h9 => h9) rfl dX6_lays_60 ?_
      refine lv_iload_n hx hb dX6_lays_63 rfl (lv_at hl 1 rfl) ?_
      refine lv_iload_n hx hb dX6_lays_64 rfl (lv_at hl 2 rfl) ?_
      refine bx_ast (D := D) hx hb hK hP hD hS 1 0 rfl rfl hat dX6_lays_65 (fun H locs hP hD hS => ?_)
      have hP : va_P D vwCl [(mo, .inr (6, [.ref fa, .ref ka, .int on, .int rn, .int (lf - 1), .int (wt + 1), .int nv, .int nl, .int nh, .int nc, .int cm, .ref da, .int dn, .int la])), (fa, .inl (cA, 66, .inl (wr fl p0 p1))), (ka, .inl (cA, 66, .inl kp)), (da, .inl (cA, 24, .inl dr))] H := hP
      have hD : va_D A [(mo, .inr (6, [.ref fa, .ref ka, .int on, .int rn, .int (lf - 1), .int (wt + 1), .int nv, .int nl, .int nh, .int nc, .int cm, .ref da, .int dn, .int la])), (fa, .inl (cA, 66, .inl (wr fl p0 p1))), (ka, .inl (cA, 66, .inl kp)), (da, .inl (cA, 24, .inl dr))] := hD
      refine lv_iconst (v := 1) hx hb dX6_lays_66 (by decide) ?_
      exact W.zret (v := 1) hx hb hr rfl (fun t ht hW => ⟨⟨1, ((wr fl p0 p1), on, rn, (lf - 1), (wt + 1), cm), rfl, ⟨(by simp only [F_X6_lays, if_neg c_1, if_neg c_2]), (by decide)⟩, ⟨by rw [ht]; exact hP, hD⟩⟩, hS.F ht⟩) hS.2.2 dX6_lays_67
  · skip
    refine lv_aload_n hx hb dX6_lays_17 rfl (lv_at hl 0 rfl) ?_
    refine va_get (D := D) (ci := 6) (v := .ref fa) (C := RX6) (T := TX6) (N := 14) hx hb hts hi6 hown hK hP 0 rfl rfl 0 (by decide) (hts (.fieldLink RX6 7 "BootstayModel" "flash" "[I") (by decide +kernel)) (fun _ h9 => h9) rfl dX6_lays_18 ?_
    refine lv_iload_n hx hb dX6_lays_21 rfl (lv_at hl 1 rfl) ?_
    refine lv_dup2_11 hx hb dX6_lays_22 rfl rfl ?_
    refine bx_ald (D := D) hx hb hK hP 1 0 rfl rfl hat dX6_lays_23 ?_
    refine lv_iload_n hx hb dX6_lays_24 rfl (lv_at hl 2 rfl) ?_
    refine lv_iand hx hb dX6_lays_25 ?_
    refine bx_ast (D := D) hx hb hK hP hD hS 1 0 rfl rfl hat dX6_lays_26 (fun H locs hP hD hS => ?_)
    have hP : va_P D vwCl [(mo, .inr (6, [.ref fa, .ref ka, .int on, .int rn, .int lf, .int (wt + 1), .int nv, .int nl, .int nh, .int nc, .int cm, .ref da, .int dn, .int la])), (fa, .inl (cA, 66, .inl (wr fl p0 ((rd fl p0) &&& p1)))), (ka, .inl (cA, 66, .inl kp)), (da, .inl (cA, 24, .inl dr))] H := hP
    have hD : va_D A [(mo, .inr (6, [.ref fa, .ref ka, .int on, .int rn, .int lf, .int (wt + 1), .int nv, .int nl, .int nh, .int nc, .int cm, .ref da, .int dn, .int la])), (fa, .inl (cA, 66, .inl (wr fl p0 ((rd fl p0) &&& p1)))), (ka, .inl (cA, 66, .inl kp)), (da, .inl (cA, 24, .inl dr))] := hD
    refine lv_aload_n hx hb dX6_lays_27 rfl (lv_at hl 0 rfl) ?_
    refine lv_iconst (v := (-1)) hx hb dX6_lays_28 (by decide) ?_
    refine va_put (D := D) (ci := 6) (v := .int (-1)) (ty := .int) (C := RX6) (T := TX6) (N := 14) hx hb hts hi6 tyX6 tyX6_ok nmX6 hown hK hP hD hS 0 rfl rfl 4 (by decide) (hts (.fieldLink RX6 20 "BootstayModel" "left" "I") (by decide +kernel)) (fun _ h9 => h9) rfl (by decide +kernel) rfl rfl (Nat.le_of_ble_eq_true rfl) dX6_lays_29 (fun H locs hP hD hS => ?_)
    have hP : va_P D vwCl [(mo, .inr (6, [.ref fa, .ref ka, .int on, .int rn, .int (-1), .int (wt + 1), .int nv, .int nl, .int nh, .int nc, .int cm, .ref da, .int dn, .int la])), (fa, .inl (cA, 66, .inl (wr fl p0 ((rd fl p0) &&& p1)))), (ka, .inl (cA, 66, .inl kp)), (da, .inl (cA, 24, .inl dr))] H := hP
    have hD : va_D A [(mo, .inr (6, [.ref fa, .ref ka, .int on, .int rn, .int (-1), .int (wt + 1), .int nv, .int nl, .int nh, .int nc, .int cm, .ref da, .int dn, .int la])), (fa, .inl (cA, 66, .inl (wr fl p0 ((rd fl p0) &&& p1)))), (ka, .inl (cA, 66, .inl kp)), (da, .inl (cA, 24, .inl dr))] := hD
    refine lv_aload_n hx hb dX6_lays_32 rfl (lv_at hl 0 rfl) ?_
    refine bx_wv (wc := [(mo, .inr (6, [.ref fa, .ref ka, .int on, .int rn, .int (-1), .int (wt + 1), .int nv, .int nl, .int nh, .int nc, .int cm, .ref da, .int dn, .int la])), (fa, .inl (cA, 66, .inl (wr fl p0 ((rd fl p0) &&& p1)))), (ka, .inl (cA, 66, .inl kp)), (da, .inl (cA, 24, .inl dr))]) (wr := []) (wf := fun (u : (Int32) × (Int32) × (Int32)) => [(mo, .inr (6, [.ref fa, .ref ka, .int u.1, .int u.2.1, .int (-1), .int (wt + 1), .int nv, .int nl, .int nh, .int nc, .int u.2.2, .ref da, .int dn, .int la])), (fa, .inl (cA, 66, .inl (wr fl p0 ((rd fl p0) &&& p1)))), (ka, .inl (cA, 66, .inl kp)), (da, .inl (cA, 24, .inl dr))]) (wn := fun (u : (Int32) × (Int32) × (Int32)) => [(mo, .inr (6, [.ref fa, .ref ka, .int u.1, .int u.2.1, .int (-1), .int (wt + 1), .int nv, .int nl, .int nh, .int nc, .int u.2.2, .ref da, .int dn, .int la])), (fa, .inl (cA, 66, .inl (wr fl p0 ((rd fl p0) &&& p1)))), (ka, .inl (cA, 66, .inl kp)), (da, .inl (cA, 24, .inl dr))]) hP hD hS hA [0, 1, 2, 3] [] [0, 1, 2, 3] rfl rfl (by decide) (by decide) (fun u => rfl) (by decide) (va_runV (As := []) (rest := []) ⟨hx, hb, hml, hown, hts⟩ (c_X6_goesOff l D cA mo fa ka da H.size (wr fl p0 ((rd fl p0) &&& p1)) kp on rn (-1) (wt + 1) nv nl nh nc cm dr dn la) (cwV 0 hts gX6_lays_X6_goesOff rfl rfl rfl (by decide +kernel) ⟨Nat.le_of_ble_eq_true rfl, Nat.le_of_ble_eq_true rfl⟩) (bx_pv (ci := 6) (q0 := 0) hK hG (hP.sub (ws' := [(mo, .inr (6, [.ref fa, .ref ka, .int on, .int rn, .int (-1), .int (wt + 1), .int nv, .int nl, .int nh, .int nc, .int cm, .ref da, .int dn, .int la])), (fa, .inl (cA, 66, .inl (wr fl p0 ((rd fl p0) &&& p1)))), (ka, .inl (cA, 66, .inl kp)), (da, .inl (cA, 24, .inl dr))]) [0, 1, 2, 3] rfl) (hD.sub (ws' := [(mo, .inr (6, [.ref fa, .ref ka, .int on, .int rn, .int (-1), .int (wt + 1), .int nv, .int nl, .int nh, .int nc, .int cm, .ref da, .int dn, .int la])), (fa, .inl (cA, 66, .inl (wr fl p0 ((rd fl p0) &&& p1)))), (ka, .inl (cA, 66, .inl kp)), (da, .inl (cA, 24, .inl dr))]) [0, 1, 2, 3] (by decide) rfl) rfl rfl) rfl rfl hl.1 rfl (lv_room (Nat.le_of_ble_eq_true rfl)) dX6_lays_33 ⟨Nat.zero_le _, Nat.zero_le _⟩) (fun  u_4 H locs h_3 hP hD hS => ?_)
    obtain ⟨on5, rn6, cm7⟩ := u_4
    have hP : va_P D vwCl [(mo, .inr (6, [.ref fa, .ref ka, .int on5, .int rn6, .int (-1), .int (wt + 1), .int nv, .int nl, .int nh, .int nc, .int cm7, .ref da, .int dn, .int la])), (fa, .inl (cA, 66, .inl (wr fl p0 ((rd fl p0) &&& p1)))), (ka, .inl (cA, 66, .inl kp)), (da, .inl (cA, 24, .inl dr))] H := hP
    have hD : va_D A [(mo, .inr (6, [.ref fa, .ref ka, .int on5, .int rn6, .int (-1), .int (wt + 1), .int nv, .int nl, .int nh, .int nc, .int cm7, .ref da, .int dn, .int la])), (fa, .inl (cA, 66, .inl (wr fl p0 ((rd fl p0) &&& p1)))), (ka, .inl (cA, 66, .inl kp)), (da, .inl (cA, 24, .inl dr))] := hD
    refine lv_iconst (v := 0) hx hb dX6_lays_36 (by decide) ?_
    exact W.zret (v := 0) hx hb hr rfl (fun t ht hW => ⟨⟨0, ((wr fl p0 ((rd fl p0) &&& p1)), on5, rn6, (-1), (wt + 1), cm7), rfl, ⟨(by simp only [F_X6_lays, if_pos c_1, ← h_3]), (by decide)⟩, ⟨by rw [ht]; exact hP, hD⟩⟩, hS.F ht⟩) hS.2.2 dX6_lays_37
def F_X6_records (fl : Nat → Int32) (on : Int32) (rn : Int32) (lf : Int32) (wt : Int32) (cm : Int32) (p0 : Int32) (p1 : Int32) : Int32 × (Nat → Int32) × (Int32) × (Int32) × (Int32) × (Int32) × (Int32) := (match (F_X6_lays fl on rn lf wt cm ((58 + (4 * (1 - (F_X6_force fl)))) + 0) 0) with | (r_5, fl6, on7, rn8, lf9, wt10, cm11) => (if r_5 = 0 then (0, fl6, on7, rn8, lf9, wt10, cm11) else (match (F_X6_lays fl6 on7 rn8 lf9 wt10 cm11 ((58 + (4 * (1 - (F_X6_force fl)))) + 1) ((rd fl6 ((58 + (4 * (F_X6_force fl))) + 1)) + 1)) with | (r_17, fl18, on19, rn20, lf21, wt22, cm23) => (if r_17 = 0 then (0, fl18, on19, rn20, lf21, wt22, cm23) else (match (F_X6_lays fl18 on19 rn20 lf21 wt22 cm23 ((58 + (4 * (1 - (F_X6_force fl)))) + 2) p0) with | (r_29, fl30, on31, rn32, lf33, wt34, cm35) => (if r_29 = 0 then (0, fl30, on31, rn32, lf33, wt34, cm35) else (match (F_X6_lays fl30 on31 rn32 lf33 wt34 cm35 ((58 + (4 * (1 - (F_X6_force fl)))) + 3) p1) with | (r_41, fl42, on43, rn44, lf45, wt46, cm47) => (if r_41 = 0 then (0, fl42, on43, rn44, lf45, wt46, cm47) else (match (F_X6_lays fl42 on43 rn44 lf45 wt46 cm47 ((58 + (4 * (1 - (F_X6_force fl)))) + 0) (F_X6_rightCheck fl42 (1 - (F_X6_force fl)))) with | (r_56, fl57, on58, rn59, lf60, wt61, cm62) => (if r_56 = 0 then (0, fl57, on58, rn59, lf60, wt61, cm62) else (1, fl57, on58, rn59, lf60, wt61, cm62)))))))))))
set_option maxHeartbeats 4000000 in
set_option maxRecDepth 100000 in
theorem c_X6_records (l : Launch) (D : va_G) (cA : ClassId) (mo fa ka da : Nat) (sz : Nat) (fl : Nat → Int32) (kp : Nat → Int32) (on : Int32) (rn : Int32) (lf : Int32) (wt : Int32) (nv : Int32) (nl : Int32) (nh : Int32) (nc : Int32) (cm : Int32) (dr : Nat → Int32) (dn : Int32) (la : Int32) (p0 : Int32) (p1 : Int32) : Met l yX6_records wsX6_records ({ frames := 3, cells := 0, slots := 0, locals := 64 }) (va_Pc [.ref mo, .int p0, .int p1] (bx_pre D [(cA, .int)] (wMo cA mo fa ka da fl kp on rn lf wt nv nl nh nc cm dr dn la) sz)) (va_Qi (fun r u => (r, u) = F_X6_records fl on rn lf wt cm p0 p1 ∧ (r = 0 ∨ r = 1)) (fun u t => bx_at D (wMo cA mo fa ka da u.1 kp u.2.1 u.2.2.1 u.2.2.2.1 u.2.2.2.2.1 nv nl nh nc u.2.2.2.2.2 dr dn la) (va_A (wMo cA mo fa ka da fl kp on rn lf wt nv nl nh nc cm dr dn la) sz) t) (va_A (wMo cA mo fa ka da fl kp on rn lf wt nv nl nh nc cm dr dn la) sz)) 0 0 (va_A (wMo cA mo fa ka da fl kp on rn lf wt nv nl nh nc cm dr dn la) sz) := by
  refine Met.ofW (cc := cX6_records) (maxL := 6) (ret := (some .boolean)) (by decide) rfl ?_
  intro p e s m args below meth c s₁ B hml hv
  obtain ⟨rfl, hsz, hP, hK, hD0, hG⟩ := hv
  have hx := B.exec
  have hb := B.bytes
  have hr := B.returns
  have hts := atoms_spec (ws := wsX6_records) B.pre
  have hown : s.vm.findClass RX6 = some m.cls := findClass_of_methodNamed B.named
  have hlocks := B.notSynchronized
  subst hsz
  have hD := hD0.self (sz := s.heap.size)
  generalize hAe : va_A (wMo cA mo fa ka da fl kp on rn lf wt nv nl nh nc cm dr dn la) s.heap.size = A at hD ⊢
  have hA : ∀ q : Nat, s.heap.size ≤ q → A q := fun q h => by rw [← hAe]; exact Or.inr h
  have hS : va_S A s.heap s.heap [] := va_S.rf
  have hD : va_D A [(mo, .inr (6, [.ref fa, .ref ka, .int on, .int rn, .int lf, .int wt, .int nv, .int nl, .int nh, .int nc, .int cm, .ref da, .int dn, .int la])), (fa, .inl (cA, 66, .inl fl)), (ka, .inl (cA, 66, .inl kp)), (da, .inl (cA, 24, .inl dr))] := hD
  have hP : va_P D vwCl [(mo, .inr (6, [.ref fa, .ref ka, .int on, .int rn, .int lf, .int wt, .int nv, .int nl, .int nh, .int nc, .int cm, .ref da, .int dn, .int la])), (fa, .inl (cA, 66, .inl fl)), (ka, .inl (cA, 66, .inl kp)), (da, .inl (cA, 24, .inl dr))] s.heap := hP
  have hl := lv_entry ([.ref mo, .int p0, .int p1]) (n := 6) (Nat.le_of_ble_eq_true rfl)
  rw [lg_entry_eq]
  generalize (lg_sl ([.ref mo, .int p0, .int p1]) ++ List.replicate (6 - (lg_sl ([.ref mo, .int p0, .int p1])).length) Slot.unset).toArray = ls at hl ⊢
  have hl : lv_has ls 6 [(0, .ref mo), (1, .int p0), (2, .int p1)] := hl
  have hi6 : ∀ w ∈ u_ws RX6 TX6 14, w ∈ wsX6_records := by decide +kernel
  refine lv_aload_n hx hb dX6_records_0 rfl (lv_at hl 0 rfl) ?_
  refine bx_ri (va_runV (As := []) (rest := []) ⟨hx, hb, hml, hown, hts⟩ (c_X6_force l D cA mo fa ka da fl kp on rn lf wt nv nl nh nc cm dr dn la) (cwV 0 hts gX6_records_X6_force rfl rfl rfl (by decide +kernel) ⟨Nat.le_of_ble_eq_true rfl, Nat.le_of_ble_eq_true rfl⟩) (bx_pvr (ci := 6) (q0 := 0) hK hG (hP.sub (ws' := [(mo, .inr (6, [.ref fa, .ref ka, .int on, .int rn, .int lf, .int wt, .int nv, .int nl, .int nh, .int nc, .int cm, .ref da, .int dn, .int la])), (fa, .inl (cA, 66, .inl fl)), (ka, .inl (cA, 66, .inl kp)), (da, .inl (cA, 24, .inl dr))]) [0, 1, 2, 3] rfl) rfl rfl) rfl rfl hl.1 rfl (lv_room (Nat.le_of_ble_eq_true rfl)) dX6_records_1 ⟨Nat.zero_le _, Nat.zero_le _⟩) (fun r_1 h_2 => ?_)
  have h_2 := h_2.symm
  subst h_2
  refine lv_istore_n (lv' := [(3, .int (F_X6_force fl)), (0, .ref mo), (1, .int p0), (2, .int p1)]) hx hb dX6_records_4 rfl hl (by decide) rfl (fun ls hl => ?_)
  refine lv_bipush (v := 58) hx hb dX6_records_5 (by decide) ?_
  refine lv_iconst (v := 4) hx hb dX6_records_7 (by decide) ?_
  refine lv_iconst (v := 1) hx hb dX6_records_8 (by decide) ?_
  refine lv_iload_n hx hb dX6_records_9 rfl (lv_at hl 0 rfl) ?_
  refine lv_isub hx hb dX6_records_10 ?_
  refine lv_imul hx hb dX6_records_11 ?_
  refine lv_iadd hx hb dX6_records_12 ?_
  refine lv_istore (lv' := [(4, .int (58 + (4 * (1 - (F_X6_force fl))))), (3, .int (F_X6_force fl)), (0, .ref mo), (1, .int p0), (2, .int p1)]) hx hb dX6_records_13 hl (by decide) rfl (fun ls hl => ?_)
  refine lv_aload_n hx hb dX6_records_15 rfl (lv_at hl 2 rfl) ?_
  refine lv_iload hx hb dX6_records_16 (lv_at hl 0 rfl) ?_
  refine lv_iconst (v := 0) hx hb dX6_records_18 (by decide) ?_
  refine lv_iadd hx hb dX6_records_19 ?_
  refine lv_iconst (v := 0) hx hb dX6_records_20 (by decide) ?_
  refine bx_wi (wc := [(mo, .inr (6, [.ref fa, .ref ka, .int on, .int rn, .int lf, .int wt, .int nv, .int nl, .int nh, .int nc, .int cm, .ref da, .int dn, .int la])), (fa, .inl (cA, 66, .inl fl)), (ka, .inl (cA, 66, .inl kp)), (da, .inl (cA, 24, .inl dr))]) (wr := []) (wf := fun (u : (Nat → Int32) × (Int32) × (Int32) × (Int32) × (Int32) × (Int32)) => [(mo, .inr (6, [.ref fa, .ref ka, .int u.2.1, .int u.2.2.1, .int u.2.2.2.1, .int u.2.2.2.2.1, .int nv, .int nl, .int nh, .int nc, .int u.2.2.2.2.2, .ref da, .int dn, .int la])), (fa, .inl (cA, 66, .inl u.1)), (ka, .inl (cA, 66, .inl kp)), (da, .inl (cA, 24, .inl dr))]) (wn := fun (u : (Nat → Int32) × (Int32) × (Int32) × (Int32) × (Int32) × (Int32)) => [(mo, .inr (6, [.ref fa, .ref ka, .int u.2.1, .int u.2.2.1, .int u.2.2.2.1, .int u.2.2.2.2.1, .int nv, .int nl, .int nh, .int nc, .int u.2.2.2.2.2, .ref da, .int dn, .int la])), (fa, .inl (cA, 66, .inl u.1)), (ka, .inl (cA, 66, .inl kp)), (da, .inl (cA, 24, .inl dr))]) hP hD hS hA [0, 1, 2, 3] [] [0, 1, 2, 3] rfl rfl (by decide) (by decide) (fun u => rfl) (by decide) (va_runV (As := [.int ((58 + (4 * (1 - (F_X6_force fl)))) + 0), .int 0]) (rest := []) ⟨hx, hb, hml, hown, hts⟩ (c_X6_lays l D cA mo fa ka da s.heap.size fl kp on rn lf wt nv nl nh nc cm dr dn la ((58 + (4 * (1 - (F_X6_force fl)))) + 0) 0 (vp_in_iff.mpr (by rcases (sl_not (force_sl fl)) with h | h <;> rw [h] <;> decide))) (cwV 2 hts gX6_records_X6_lays rfl rfl rfl (by decide +kernel) ⟨Nat.le_of_ble_eq_true rfl, Nat.le_of_ble_eq_true rfl⟩) (bx_pv (ci := 6) (q0 := 0) hK hG (hP.sub (ws' := [(mo, .inr (6, [.ref fa, .ref ka, .int on, .int rn, .int lf, .int wt, .int nv, .int nl, .int nh, .int nc, .int cm, .ref da, .int dn, .int la])), (fa, .inl (cA, 66, .inl fl)), (ka, .inl (cA, 66, .inl kp)), (da, .inl (cA, 24, .inl dr))]) [0, 1, 2, 3] rfl) (hD.sub (ws' := [(mo, .inr (6, [.ref fa, .ref ka, .int on, .int rn, .int lf, .int wt, .int nv, .int nl, .int nh, .int nc, .int cm, .ref da, .int dn, .int la])), (fa, .inl (cA, 66, .inl fl)), (ka, .inl (cA, 66, .inl kp)), (da, .inl (cA, 24, .inl dr))]) [0, 1, 2, 3] (by decide) rfl) rfl rfl) rfl rfl hl.1 rfl (lv_room (Nat.le_of_ble_eq_true rfl)) dX6_records_21 ⟨Nat.zero_le _, Nat.zero_le _⟩) (fun r_5 u_4 H locs h_3 hP hD hS => ?_)
  obtain ⟨fl6, on7, rn8, lf9, wt10, cm11⟩ := u_4
  obtain ⟨h_3, b_12⟩ := h_3
  have hP : va_P D vwCl [(mo, .inr (6, [.ref fa, .ref ka, .int on7, .int rn8, .int lf9, .int wt10, .int nv, .int nl, .int nh, .int nc, .int cm11, .ref da, .int dn, .int la])), (fa, .inl (cA, 66, .inl fl6)), (ka, .inl (cA, 66, .inl kp)), (da, .inl (cA, 24, .inl dr))] H := hP
  have hD : va_D A [(mo, .inr (6, [.ref fa, .ref ka, .int on7, .int rn8, .int lf9, .int wt10, .int nv, .int nl, .int nh, .int nc, .int cm11, .ref da, .int dn, .int la])), (fa, .inl (cA, 66, .inl fl6)), (ka, .inl (cA, 66, .inl kp)), (da, .inl (cA, 24, .inl dr))] := hD
  refine lv_if_eq (tgt := 81) hx hb dX6_records_24 (by decide) (fun c_13 => ?_) (fun c_13 => ?_)
  · skip
    refine lv_iconst (v := 0) hx hb dX6_records_81 (by decide) ?_
    refine lv_istore (lv' := [(5, .int 0), (4, .int (58 + (4 * (1 - (F_X6_force fl))))), (3, .int (F_X6_force fl)), (0, .ref mo), (1, .int p0), (2, .int p1)]) hx hb dX6_records_82 hl (by decide) rfl (fun ls hl => ?_)
    refine lv_iload hx hb dX6_records_84 (lv_at hl 0 rfl) ?_
    refine lv_if_eq (tgt := 111) hx hb dX6_records_86 (by decide) (fun c_14 => ?_) (fun c_14 => ?_)
    · skip
      refine lv_iconst (v := 0) hx hb dX6_records_111 (by decide) ?_
      exact W.zret (v := 0) hx hb hr rfl (fun t ht hW => ⟨⟨0, (fl6, on7, rn8, lf9, wt10, cm11), rfl, ⟨(by simp only [F_X6_records, if_pos c_13, if_pos c_14, ← h_3]), (by decide)⟩, ⟨by rw [ht]; exact hP, hD⟩⟩, hS.F ht⟩) hS.2.2 dX6_records_112
    · skip
      exact absurd (by decide) c_14
  · skip
    refine lv_aload_n hx hb dX6_records_27 rfl (lv_at hl 2 rfl) ?_
    refine lv_iload hx hb dX6_records_28 (lv_at hl 0 rfl) ?_
    refine lv_iconst (v := 1) hx hb dX6_records_30 (by decide) ?_
    refine lv_iadd hx hb dX6_records_31 ?_
    refine lv_aload_n hx hb dX6_records_32 rfl (lv_at hl 2 rfl) ?_
    refine va_get (D := D) (ci := 6) (v := .ref fa) (C := RX6) (T := TX6) (N := 14) hx hb hts hi6 hown hK hP 0 rfl rfl 0 (by decide) (hts (.fieldLink RX6 7 "BootstayModel" "flash" "[I") (by decide +kernel)) (fun _ h9 => h9) rfl dX6_records_33 ?_
    refine lv_bipush (v := 58) hx hb dX6_records_36 (by decide) ?_
    refine lv_iconst (v := 4) hx hb dX6_records_38 (by decide) ?_
    refine lv_iload_n hx hb dX6_records_39 rfl (lv_at hl 1 rfl) ?_
    refine lv_imul hx hb dX6_records_40 ?_
    refine lv_iadd hx hb dX6_records_41 ?_
    refine lv_iconst (v := 1) hx hb dX6_records_42 (by decide) ?_
    refine lv_iadd hx hb dX6_records_43 ?_
    refine bx_ald (D := D) hx hb hK hP 1 0 rfl rfl (vp_in_iff.mpr (by rcases (force_sl fl) with h | h <;> rw [h] <;> decide)) dX6_records_44 ?_
    refine lv_iconst (v := 1) hx hb dX6_records_45 (by decide) ?_
    refine lv_iadd hx hb dX6_records_46 ?_
    refine bx_wi (wc := [(mo, .inr (6, [.ref fa, .ref ka, .int on7, .int rn8, .int lf9, .int wt10, .int nv, .int nl, .int nh, .int nc, .int cm11, .ref da, .int dn, .int la])), (fa, .inl (cA, 66, .inl fl6)), (ka, .inl (cA, 66, .inl kp)), (da, .inl (cA, 24, .inl dr))]) (wr := []) (wf := fun (u : (Nat → Int32) × (Int32) × (Int32) × (Int32) × (Int32) × (Int32)) => [(mo, .inr (6, [.ref fa, .ref ka, .int u.2.1, .int u.2.2.1, .int u.2.2.2.1, .int u.2.2.2.2.1, .int nv, .int nl, .int nh, .int nc, .int u.2.2.2.2.2, .ref da, .int dn, .int la])), (fa, .inl (cA, 66, .inl u.1)), (ka, .inl (cA, 66, .inl kp)), (da, .inl (cA, 24, .inl dr))]) (wn := fun (u : (Nat → Int32) × (Int32) × (Int32) × (Int32) × (Int32) × (Int32)) => [(mo, .inr (6, [.ref fa, .ref ka, .int u.2.1, .int u.2.2.1, .int u.2.2.2.1, .int u.2.2.2.2.1, .int nv, .int nl, .int nh, .int nc, .int u.2.2.2.2.2, .ref da, .int dn, .int la])), (fa, .inl (cA, 66, .inl u.1)), (ka, .inl (cA, 66, .inl kp)), (da, .inl (cA, 24, .inl dr))]) hP hD hS hA [0, 1, 2, 3] [] [0, 1, 2, 3] rfl rfl (by decide) (by decide) (fun u => rfl) (by decide) (va_runV (As := [.int ((58 + (4 * (1 - (F_X6_force fl)))) + 1), .int ((rd fl6 ((58 + (4 * (F_X6_force fl))) + 1)) + 1)]) (rest := []) ⟨hx, hb, hml, hown, hts⟩ (c_X6_lays l D cA mo fa ka da H.size fl6 kp on7 rn8 lf9 wt10 nv nl nh nc cm11 dr dn la ((58 + (4 * (1 - (F_X6_force fl)))) + 1) ((rd fl6 ((58 + (4 * (F_X6_force fl))) + 1)) + 1) (vp_in_iff.mpr (by rcases (sl_not (force_sl fl)) with h | h <;> rw [h] <;> decide))) (cwV 2 hts gX6_records_X6_lays rfl rfl rfl (by decide +kernel) ⟨Nat.le_of_ble_eq_true rfl, Nat.le_of_ble_eq_true rfl⟩) (bx_pv (ci := 6) (q0 := 0) hK hG (hP.sub (ws' := [(mo, .inr (6, [.ref fa, .ref ka, .int on7, .int rn8, .int lf9, .int wt10, .int nv, .int nl, .int nh, .int nc, .int cm11, .ref da, .int dn, .int la])), (fa, .inl (cA, 66, .inl fl6)), (ka, .inl (cA, 66, .inl kp)), (da, .inl (cA, 24, .inl dr))]) [0, 1, 2, 3] rfl) (hD.sub (ws' := [(mo, .inr (6, [.ref fa, .ref ka, .int on7, .int rn8, .int lf9, .int wt10, .int nv, .int nl, .int nh, .int nc, .int cm11, .ref da, .int dn, .int la])), (fa, .inl (cA, 66, .inl fl6)), (ka, .inl (cA, 66, .inl kp)), (da, .inl (cA, 24, .inl dr))]) [0, 1, 2, 3] (by decide) rfl) rfl rfl) rfl rfl hl.1 rfl (lv_room (Nat.le_of_ble_eq_true rfl)) dX6_records_47 ⟨Nat.zero_le _, Nat.zero_le _⟩) (fun r_17 u_16 H locs h_15 hP hD hS => ?_)
    obtain ⟨fl18, on19, rn20, lf21, wt22, cm23⟩ := u_16
    obtain ⟨h_15, b_24⟩ := h_15
    have hP : va_P D vwCl [(mo, .inr (6, [.ref fa, .ref ka, .int on19, .int rn20, .int lf21, .int wt22, .int nv, .int nl, .int nh, .int nc, .int cm23, .ref da, .int dn, .int la])), (fa, .inl (cA, 66, .inl fl18)), (ka, .inl (cA, 66, .inl kp)), (da, .inl (cA, 24, .inl dr))] H := hP
    have hD : va_D A [(mo, .inr (6, [.ref fa, .ref ka, .int on19, .int rn20, .int lf21, .int wt22, .int nv, .int nl, .int nh, .int nc, .int cm23, .ref da, .int dn, .int la])), (fa, .inl (cA, 66, .inl fl18)), (ka, .inl (cA, 66, .inl kp)), (da, .inl (cA, 24, .inl dr))] := hD
    refine lv_if_eq (tgt := 81) hx hb dX6_records_50 (by decide) (fun c_25 => ?_) (fun c_25 => ?_)
    · skip
      refine lv_iconst (v := 0) hx hb dX6_records_81 (by decide) ?_
      refine lv_istore (lv' := [(5, .int 0), (4, .int (58 + (4 * (1 - (F_X6_force fl))))), (3, .int (F_X6_force fl)), (0, .ref mo), (1, .int p0), (2, .int p1)]) hx hb dX6_records_82 hl (by decide) rfl (fun ls hl => ?_)
      refine lv_iload hx hb dX6_records_84 (lv_at hl 0 rfl) ?_
      refine lv_if_eq (tgt := 111) hx hb dX6_records_86 (by decide) (fun c_26 => ?_) (fun c_26 => ?_)
      · skip
        refine lv_iconst (v := 0) hx hb dX6_records_111 (by decide) ?_
        exact W.zret (v := 0) hx hb hr rfl (fun t ht hW => ⟨⟨0, (fl18, on19, rn20, lf21, wt22, cm23), rfl, ⟨(by simp only [F_X6_records, if_neg c_13, if_pos c_25, if_pos c_26, ← h_3, ← h_15]), (by decide)⟩, ⟨by rw [ht]; exact hP, hD⟩⟩, hS.F ht⟩) hS.2.2 dX6_records_112
      · skip
        exact absurd (by decide) c_26
    · skip
      refine lv_aload_n hx hb dX6_records_53 rfl (lv_at hl 2 rfl) ?_
      refine lv_iload hx hb dX6_records_54 (lv_at hl 0 rfl) ?_
      refine lv_iconst (v := 2) hx hb dX6_records_56 (by decide) ?_
      refine lv_iadd hx hb dX6_records_57 ?_
      refine lv_iload_n hx hb dX6_records_58 rfl (lv_at hl 3 rfl) ?_
      refine bx_wi (wc := [(mo, .inr (6, [.ref fa, .ref ka, .int on19, .int rn20, .int lf21, .int wt22, .int nv, .int nl, .int nh, .int nc, .int cm23, .ref da, .int dn, .int la])), (fa, .inl (cA, 66, .inl fl18)), (ka, .inl (cA, 66, .inl kp)), (da, .inl (cA, 24, .inl dr))]) (wr := []) (wf := fun (u : (Nat → Int32) × (Int32) × (Int32) × (Int32) × (Int32) × (Int32)) => [(mo, .inr (6, [.ref fa, .ref ka, .int u.2.1, .int u.2.2.1, .int u.2.2.2.1, .int u.2.2.2.2.1, .int nv, .int nl, .int nh, .int nc, .int u.2.2.2.2.2, .ref da, .int dn, .int la])), (fa, .inl (cA, 66, .inl u.1)), (ka, .inl (cA, 66, .inl kp)), (da, .inl (cA, 24, .inl dr))]) (wn := fun (u : (Nat → Int32) × (Int32) × (Int32) × (Int32) × (Int32) × (Int32)) => [(mo, .inr (6, [.ref fa, .ref ka, .int u.2.1, .int u.2.2.1, .int u.2.2.2.1, .int u.2.2.2.2.1, .int nv, .int nl, .int nh, .int nc, .int u.2.2.2.2.2, .ref da, .int dn, .int la])), (fa, .inl (cA, 66, .inl u.1)), (ka, .inl (cA, 66, .inl kp)), (da, .inl (cA, 24, .inl dr))]) hP hD hS hA [0, 1, 2, 3] [] [0, 1, 2, 3] rfl rfl (by decide) (by decide) (fun u => rfl) (by decide) (va_runV (As := [.int ((58 + (4 * (1 - (F_X6_force fl)))) + 2), .int p0]) (rest := []) ⟨hx, hb, hml, hown, hts⟩ (c_X6_lays l D cA mo fa ka da H.size fl18 kp on19 rn20 lf21 wt22 nv nl nh nc cm23 dr dn la ((58 + (4 * (1 - (F_X6_force fl)))) + 2) p0 (vp_in_iff.mpr (by rcases (sl_not (force_sl fl)) with h | h <;> rw [h] <;> decide))) (cwV 2 hts gX6_records_X6_lays rfl rfl rfl (by decide +kernel) ⟨Nat.le_of_ble_eq_true rfl, Nat.le_of_ble_eq_true rfl⟩) (bx_pv (ci := 6) (q0 := 0) hK hG (hP.sub (ws' := [(mo, .inr (6, [.ref fa, .ref ka, .int on19, .int rn20, .int lf21, .int wt22, .int nv, .int nl, .int nh, .int nc, .int cm23, .ref da, .int dn, .int la])), (fa, .inl (cA, 66, .inl fl18)), (ka, .inl (cA, 66, .inl kp)), (da, .inl (cA, 24, .inl dr))]) [0, 1, 2, 3] rfl) (hD.sub (ws' := [(mo, .inr (6, [.ref fa, .ref ka, .int on19, .int rn20, .int lf21, .int wt22, .int nv, .int nl, .int nh, .int nc, .int cm23, .ref da, .int dn, .int la])), (fa, .inl (cA, 66, .inl fl18)), (ka, .inl (cA, 66, .inl kp)), (da, .inl (cA, 24, .inl dr))]) [0, 1, 2, 3] (by decide) rfl) rfl rfl) rfl rfl hl.1 rfl (lv_room (Nat.le_of_ble_eq_true rfl)) dX6_records_59 ⟨Nat.zero_le _, Nat.zero_le _⟩) (fun r_29 u_28 H locs h_27 hP hD hS => ?_)
      obtain ⟨fl30, on31, rn32, lf33, wt34, cm35⟩ := u_28
      obtain ⟨h_27, b_36⟩ := h_27
      have hP : va_P D vwCl [(mo, .inr (6, [.ref fa, .ref ka, .int on31, .int rn32, .int lf33, .int wt34, .int nv, .int nl, .int nh, .int nc, .int cm35, .ref da, .int dn, .int la])), (fa, .inl (cA, 66, .inl fl30)), (ka, .inl (cA, 66, .inl kp)), (da, .inl (cA, 24, .inl dr))] H := hP
      have hD : va_D A [(mo, .inr (6, [.ref fa, .ref ka, .int on31, .int rn32, .int lf33, .int wt34, .int nv, .int nl, .int nh, .int nc, .int cm35, .ref da, .int dn, .int la])), (fa, .inl (cA, 66, .inl fl30)), (ka, .inl (cA, 66, .inl kp)), (da, .inl (cA, 24, .inl dr))] := hD
      refine lv_if_eq (tgt := 81) hx hb dX6_records_62 (by decide) (fun c_37 => ?_) (fun c_37 => ?_)
      · skip
        refine lv_iconst (v := 0) hx hb dX6_records_81 (by decide) ?_
        refine lv_istore (lv' := [(5, .int 0), (4, .int (58 + (4 * (1 - (F_X6_force fl))))), (3, .int (F_X6_force fl)), (0, .ref mo), (1, .int p0), (2, .int p1)]) hx hb dX6_records_82 hl (by decide) rfl (fun ls hl => ?_)
        refine lv_iload hx hb dX6_records_84 (lv_at hl 0 rfl) ?_
        refine lv_if_eq (tgt := 111) hx hb dX6_records_86 (by decide) (fun c_38 => ?_) (fun c_38 => ?_)
        · skip
          refine lv_iconst (v := 0) hx hb dX6_records_111 (by decide) ?_
          exact W.zret (v := 0) hx hb hr rfl (fun t ht hW => ⟨⟨0, (fl30, on31, rn32, lf33, wt34, cm35), rfl, ⟨(by simp only [F_X6_records, if_neg c_13, if_neg c_25, if_pos c_37, if_pos c_38, ← h_3, ← h_15, ← h_27]), (by decide)⟩, ⟨by rw [ht]; exact hP, hD⟩⟩, hS.F ht⟩) hS.2.2 dX6_records_112
        · skip
          exact absurd (by decide) c_38
      · skip
        refine lv_aload_n hx hb dX6_records_65 rfl (lv_at hl 2 rfl) ?_
        refine lv_iload hx hb dX6_records_66 (lv_at hl 0 rfl) ?_
        refine lv_iconst (v := 3) hx hb dX6_records_68 (by decide) ?_
        refine lv_iadd hx hb dX6_records_69 ?_
        refine lv_iload_n hx hb dX6_records_70 rfl (lv_at hl 4 rfl) ?_
        refine bx_wi (wc := [(mo, .inr (6, [.ref fa, .ref ka, .int on31, .int rn32, .int lf33, .int wt34, .int nv, .int nl, .int nh, .int nc, .int cm35, .ref da, .int dn, .int la])), (fa, .inl (cA, 66, .inl fl30)), (ka, .inl (cA, 66, .inl kp)), (da, .inl (cA, 24, .inl dr))]) (wr := []) (wf := fun (u : (Nat → Int32) × (Int32) × (Int32) × (Int32) × (Int32) × (Int32)) => [(mo, .inr (6, [.ref fa, .ref ka, .int u.2.1, .int u.2.2.1, .int u.2.2.2.1, .int u.2.2.2.2.1, .int nv, .int nl, .int nh, .int nc, .int u.2.2.2.2.2, .ref da, .int dn, .int la])), (fa, .inl (cA, 66, .inl u.1)), (ka, .inl (cA, 66, .inl kp)), (da, .inl (cA, 24, .inl dr))]) (wn := fun (u : (Nat → Int32) × (Int32) × (Int32) × (Int32) × (Int32) × (Int32)) => [(mo, .inr (6, [.ref fa, .ref ka, .int u.2.1, .int u.2.2.1, .int u.2.2.2.1, .int u.2.2.2.2.1, .int nv, .int nl, .int nh, .int nc, .int u.2.2.2.2.2, .ref da, .int dn, .int la])), (fa, .inl (cA, 66, .inl u.1)), (ka, .inl (cA, 66, .inl kp)), (da, .inl (cA, 24, .inl dr))]) hP hD hS hA [0, 1, 2, 3] [] [0, 1, 2, 3] rfl rfl (by decide) (by decide) (fun u => rfl) (by decide) (va_runV (As := [.int ((58 + (4 * (1 - (F_X6_force fl)))) + 3), .int p1]) (rest := []) ⟨hx, hb, hml, hown, hts⟩ (c_X6_lays l D cA mo fa ka da H.size fl30 kp on31 rn32 lf33 wt34 nv nl nh nc cm35 dr dn la ((58 + (4 * (1 - (F_X6_force fl)))) + 3) p1 (vp_in_iff.mpr (by rcases (sl_not (force_sl fl)) with h | h <;> rw [h] <;> decide))) (cwV 2 hts gX6_records_X6_lays rfl rfl rfl (by decide +kernel) ⟨Nat.le_of_ble_eq_true rfl, Nat.le_of_ble_eq_true rfl⟩) (bx_pv (ci := 6) (q0 := 0) hK hG (hP.sub (ws' := [(mo, .inr (6, [.ref fa, .ref ka, .int on31, .int rn32, .int lf33, .int wt34, .int nv, .int nl, .int nh, .int nc, .int cm35, .ref da, .int dn, .int la])), (fa, .inl (cA, 66, .inl fl30)), (ka, .inl (cA, 66, .inl kp)), (da, .inl (cA, 24, .inl dr))]) [0, 1, 2, 3] rfl) (hD.sub (ws' := [(mo, .inr (6, [.ref fa, .ref ka, .int on31, .int rn32, .int lf33, .int wt34, .int nv, .int nl, .int nh, .int nc, .int cm35, .ref da, .int dn, .int la])), (fa, .inl (cA, 66, .inl fl30)), (ka, .inl (cA, 66, .inl kp)), (da, .inl (cA, 24, .inl dr))]) [0, 1, 2, 3] (by decide) rfl) rfl rfl) rfl rfl hl.1 rfl (lv_room (Nat.le_of_ble_eq_true rfl)) dX6_records_71 ⟨Nat.zero_le _, Nat.zero_le _⟩) (fun r_41 u_40 H locs h_39 hP hD hS => ?_)
        obtain ⟨fl42, on43, rn44, lf45, wt46, cm47⟩ := u_40
        obtain ⟨h_39, b_48⟩ := h_39
        have hP : va_P D vwCl [(mo, .inr (6, [.ref fa, .ref ka, .int on43, .int rn44, .int lf45, .int wt46, .int nv, .int nl, .int nh, .int nc, .int cm47, .ref da, .int dn, .int la])), (fa, .inl (cA, 66, .inl fl42)), (ka, .inl (cA, 66, .inl kp)), (da, .inl (cA, 24, .inl dr))] H := hP
        have hD : va_D A [(mo, .inr (6, [.ref fa, .ref ka, .int on43, .int rn44, .int lf45, .int wt46, .int nv, .int nl, .int nh, .int nc, .int cm47, .ref da, .int dn, .int la])), (fa, .inl (cA, 66, .inl fl42)), (ka, .inl (cA, 66, .inl kp)), (da, .inl (cA, 24, .inl dr))] := hD
        refine lv_if_eq (tgt := 81) hx hb dX6_records_74 (by decide) (fun c_49 => ?_) (fun c_49 => ?_)
        · skip
          refine lv_iconst (v := 0) hx hb dX6_records_81 (by decide) ?_
          refine lv_istore (lv' := [(5, .int 0), (4, .int (58 + (4 * (1 - (F_X6_force fl))))), (3, .int (F_X6_force fl)), (0, .ref mo), (1, .int p0), (2, .int p1)]) hx hb dX6_records_82 hl (by decide) rfl (fun ls hl => ?_)
          refine lv_iload hx hb dX6_records_84 (lv_at hl 0 rfl) ?_
          refine lv_if_eq (tgt := 111) hx hb dX6_records_86 (by decide) (fun c_50 => ?_) (fun c_50 => ?_)
          · skip
            refine lv_iconst (v := 0) hx hb dX6_records_111 (by decide) ?_
            exact W.zret (v := 0) hx hb hr rfl (fun t ht hW => ⟨⟨0, (fl42, on43, rn44, lf45, wt46, cm47), rfl, ⟨(by simp only [F_X6_records, if_neg c_13, if_neg c_25, if_neg c_37, if_pos c_49, if_pos c_50, ← h_3, ← h_15, ← h_27, ← h_39]), (by decide)⟩, ⟨by rw [ht]; exact hP, hD⟩⟩, hS.F ht⟩) hS.2.2 dX6_records_112
          · skip
            exact absurd (by decide) c_50
        · skip
          refine lv_iconst (v := 1) hx hb dX6_records_77 (by decide) ?_
          refine lv_goto (tgt := 82) hx hb dX6_records_78 (by decide) ?_
          refine lv_istore (lv' := [(5, .int 1), (4, .int (58 + (4 * (1 - (F_X6_force fl))))), (3, .int (F_X6_force fl)), (0, .ref mo), (1, .int p0), (2, .int p1)]) hx hb dX6_records_82 hl (by decide) rfl (fun ls hl => ?_)
          refine lv_iload hx hb dX6_records_84 (lv_at hl 0 rfl) ?_
          refine lv_if_eq (tgt := 111) hx hb dX6_records_86 (by decide) (fun c_51 => ?_) (fun c_51 => ?_)
          · skip
            exact absurd c_51 (by decide)
          · skip
            refine lv_aload_n hx hb dX6_records_89 rfl (lv_at hl 3 rfl) ?_
            refine lv_iload hx hb dX6_records_90 (lv_at hl 1 rfl) ?_
            refine lv_iconst (v := 0) hx hb dX6_records_92 (by decide) ?_
            refine lv_iadd hx hb dX6_records_93 ?_
            refine lv_aload_n hx hb dX6_records_94 rfl (lv_at hl 3 rfl) ?_
            refine lv_iconst (v := 1) hx hb dX6_records_95 (by decide) ?_
            refine lv_iload_n hx hb dX6_records_96 rfl (lv_at hl 2 rfl) ?_
            refine lv_isub hx hb dX6_records_97 ?_
            refine bx_ri (va_runV (As := [.int (1 - (F_X6_force fl))]) (rest := [.int ((58 + (4 * (1 - (F_X6_force fl)))) + 0), .ref mo]) ⟨hx, hb, hml, hown, hts⟩ (c_X6_rightCheck l D cA mo fa ka da fl42 kp on43 rn44 lf45 wt46 nv nl nh nc cm47 dr dn la (1 - (F_X6_force fl)) (sl_not (force_sl fl))) (cwV 1 hts gX6_records_X6_rightCheck rfl rfl rfl (by decide +kernel) ⟨Nat.le_of_ble_eq_true rfl, Nat.le_of_ble_eq_true rfl⟩) (bx_pvr (ci := 6) (q0 := 0) hK hG (hP.sub (ws' := [(mo, .inr (6, [.ref fa, .ref ka, .int on43, .int rn44, .int lf45, .int wt46, .int nv, .int nl, .int nh, .int nc, .int cm47, .ref da, .int dn, .int la])), (fa, .inl (cA, 66, .inl fl42)), (ka, .inl (cA, 66, .inl kp)), (da, .inl (cA, 24, .inl dr))]) [0, 1, 2, 3] rfl) rfl rfl) rfl rfl hl.1 rfl (lv_room (Nat.le_of_ble_eq_true rfl)) dX6_records_98 ⟨Nat.zero_le _, Nat.zero_le _⟩) (fun r_52 h_53 => ?_)
            have h_53 := h_53.symm
            subst h_53
            refine bx_wi (wc := [(mo, .inr (6, [.ref fa, .ref ka, .int on43, .int rn44, .int lf45, .int wt46, .int nv, .int nl, .int nh, .int nc, .int cm47, .ref da, .int dn, .int la])), (fa, .inl (cA, 66, .inl fl42)), (ka, .inl (cA, 66, .inl kp)), (da, .inl (cA, 24, .inl dr))]) (wr := []) (wf := fun (u : (Nat → Int32) × (Int32) × (Int32) × (Int32) × (Int32) × (Int32)) => [(mo, .inr (6, [.ref fa, .ref ka, .int u.2.1, .int u.2.2.1, .int u.2.2.2.1, .int u.2.2.2.2.1, .int nv, .int nl, .int nh, .int nc, .int u.2.2.2.2.2, .ref da, .int dn, .int la])), (fa, .inl (cA, 66, .inl u.1)), (ka, .inl (cA, 66, .inl kp)), (da, .inl (cA, 24, .inl dr))]) (wn := fun (u : (Nat → Int32) × (Int32) × (Int32) × (Int32) × (Int32) × (Int32)) => [(mo, .inr (6, [.ref fa, .ref ka, .int u.2.1, .int u.2.2.1, .int u.2.2.2.1, .int u.2.2.2.2.1, .int nv, .int nl, .int nh, .int nc, .int u.2.2.2.2.2, .ref da, .int dn, .int la])), (fa, .inl (cA, 66, .inl u.1)), (ka, .inl (cA, 66, .inl kp)), (da, .inl (cA, 24, .inl dr))]) hP hD hS hA [0, 1, 2, 3] [] [0, 1, 2, 3] rfl rfl (by decide) (by decide) (fun u => rfl) (by decide) (va_runV (As := [.int ((58 + (4 * (1 - (F_X6_force fl)))) + 0), .int (F_X6_rightCheck fl42 (1 - (F_X6_force fl)))]) (rest := []) ⟨hx, hb, hml, hown, hts⟩ (c_X6_lays l D cA mo fa ka da H.size fl42 kp on43 rn44 lf45 wt46 nv nl nh nc cm47 dr dn la ((58 + (4 * (1 - (F_X6_force fl)))) + 0) (F_X6_rightCheck fl42 (1 - (F_X6_force fl))) (vp_in_iff.mpr (by rcases (sl_not (force_sl fl)) with h | h <;> rw [h] <;> decide))) (cwV 2 hts gX6_records_X6_lays rfl rfl rfl (by decide +kernel) ⟨Nat.le_of_ble_eq_true rfl, Nat.le_of_ble_eq_true rfl⟩) (bx_pv (ci := 6) (q0 := 0) hK hG (hP.sub (ws' := [(mo, .inr (6, [.ref fa, .ref ka, .int on43, .int rn44, .int lf45, .int wt46, .int nv, .int nl, .int nh, .int nc, .int cm47, .ref da, .int dn, .int la])), (fa, .inl (cA, 66, .inl fl42)), (ka, .inl (cA, 66, .inl kp)), (da, .inl (cA, 24, .inl dr))]) [0, 1, 2, 3] rfl) (hD.sub (ws' := [(mo, .inr (6, [.ref fa, .ref ka, .int on43, .int rn44, .int lf45, .int wt46, .int nv, .int nl, .int nh, .int nc, .int cm47, .ref da, .int dn, .int la])), (fa, .inl (cA, 66, .inl fl42)), (ka, .inl (cA, 66, .inl kp)), (da, .inl (cA, 24, .inl dr))]) [0, 1, 2, 3] (by decide) rfl) rfl rfl) rfl rfl hl.1 rfl (lv_room (Nat.le_of_ble_eq_true rfl)) dX6_records_101 ⟨Nat.zero_le _, Nat.zero_le _⟩) (fun r_56 u_55 H locs h_54 hP hD hS => ?_)
            obtain ⟨fl57, on58, rn59, lf60, wt61, cm62⟩ := u_55
            obtain ⟨h_54, b_63⟩ := h_54
            have hP : va_P D vwCl [(mo, .inr (6, [.ref fa, .ref ka, .int on58, .int rn59, .int lf60, .int wt61, .int nv, .int nl, .int nh, .int nc, .int cm62, .ref da, .int dn, .int la])), (fa, .inl (cA, 66, .inl fl57)), (ka, .inl (cA, 66, .inl kp)), (da, .inl (cA, 24, .inl dr))] H := hP
            have hD : va_D A [(mo, .inr (6, [.ref fa, .ref ka, .int on58, .int rn59, .int lf60, .int wt61, .int nv, .int nl, .int nh, .int nc, .int cm62, .ref da, .int dn, .int la])), (fa, .inl (cA, 66, .inl fl57)), (ka, .inl (cA, 66, .inl kp)), (da, .inl (cA, 24, .inl dr))] := hD
            refine lv_if_eq (tgt := 111) hx hb dX6_records_104 (by decide) (fun c_64 => ?_) (fun c_64 => ?_)
            · skip
              refine lv_iconst (v := 0) hx hb dX6_records_111 (by decide) ?_
              exact W.zret (v := 0) hx hb hr rfl (fun t ht hW => ⟨⟨0, (fl57, on58, rn59, lf60, wt61, cm62), rfl, ⟨(by simp only [F_X6_records, if_neg c_13, if_neg c_25, if_neg c_37, if_neg c_49, if_neg c_51, if_pos c_64, ← h_3, ← h_15, ← h_27, ← h_39, ← h_54]), (by decide)⟩, ⟨by rw [ht]; exact hP, hD⟩⟩, hS.F ht⟩) hS.2.2 dX6_records_112
            · skip
              refine lv_iconst (v := 1) hx hb dX6_records_107 (by decide) ?_
              refine lv_goto (tgt := 112) hx hb dX6_records_108 (by decide) ?_
              exact W.zret (v := 1) hx hb hr rfl (fun t ht hW => ⟨⟨1, (fl57, on58, rn59, lf60, wt61, cm62), rfl, ⟨(by simp only [F_X6_records, if_neg c_13, if_neg c_25, if_neg c_37, if_neg c_49, if_neg c_51, if_neg c_64, ← h_3, ← h_15, ← h_27, ← h_39, ← h_54]), (by decide)⟩, ⟨by rw [ht]; exact hP, hD⟩⟩, hS.F ht⟩) hS.2.2 dX6_records_112
def F_X6_willTry (fl : Nat → Int32) (p0 : Int32) : Int32 := (if (F_X6_isDue fl) = 0 then 0 else (if (F_X6_triesLeft fl) ≤ 0 then 0 else (if (F_X6_canStart fl (1 - p0)) = 0 then 0 else (if (rd fl ((29 * (1 - p0)) + 4)) < (F_X6_inForce fl 3) then 0 else 1))))
set_option maxHeartbeats 4000000 in
set_option maxRecDepth 100000 in
theorem c_X6_willTry (l : Launch) (D : va_G) (cA : ClassId) (mo fa ka da : Nat) (fl : Nat → Int32) (kp : Nat → Int32) (on : Int32) (rn : Int32) (lf : Int32) (wt : Int32) (nv : Int32) (nl : Int32) (nh : Int32) (nc : Int32) (cm : Int32) (dr : Nat → Int32) (dn : Int32) (la : Int32) (p0 : Int32) (hs : sl p0) : Met l yX6_willTry wsX6_willTry ({ frames := 6, cells := 0, slots := 0, locals := 125 }) (va_Pc [.ref mo, .int p0] (bx_ro D [(cA, .int)] (wMo cA mo fa ka da fl kp on rn lf wt nv nl nh nc cm dr dn la))) (vp_Si (fun r => r = F_X6_willTry fl p0 ∧ (r = 0 ∨ r = 1))) 0 0 (fun _ => False) := by
  refine Met.ofW (cc := cX6_willTry) (maxL := 2) (ret := (some .boolean)) (by decide) rfl ?_
  intro p e s m args below meth c s₁ B hml hv
  obtain ⟨rfl, hP, hK, hG⟩ := hv
  have hx := B.exec
  have hb := B.bytes
  have hr := B.returns
  have hts := atoms_spec (ws := wsX6_willTry) B.pre
  have hown : s.vm.findClass RX6 = some m.cls := findClass_of_methodNamed B.named
  have hlocks := B.notSynchronized
  have hP : va_P D vwCl [(mo, .inr (6, [.ref fa, .ref ka, .int on, .int rn, .int lf, .int wt, .int nv, .int nl, .int nh, .int nc, .int cm, .ref da, .int dn, .int la])), (fa, .inl (cA, 66, .inl fl)), (ka, .inl (cA, 66, .inl kp)), (da, .inl (cA, 24, .inl dr))] s.heap := hP
  have hl := lv_entry ([.ref mo, .int p0]) (n := 2) (Nat.le_of_ble_eq_true rfl)
  rw [lg_entry_eq]
  generalize (lg_sl ([.ref mo, .int p0]) ++ List.replicate (2 - (lg_sl ([.ref mo, .int p0])).length) Slot.unset).toArray = ls at hl ⊢
  have hl : lv_has ls 2 [(0, .ref mo), (1, .int p0)] := hl
  have hi6 : ∀ w ∈ u_ws RX6 TX6 14, w ∈ wsX6_willTry := by decide +kernel
  refine lv_aload_n hx hb dX6_willTry_0 rfl (lv_at hl 0 rfl) ?_
  refine bx_ri (va_runV (As := []) (rest := []) ⟨hx, hb, hml, hown, hts⟩ (c_X6_isDue l D cA mo fa ka da fl kp on rn lf wt nv nl nh nc cm dr dn la) (cwV 0 hts gX6_willTry_X6_isDue rfl rfl rfl (by decide +kernel) ⟨Nat.le_of_ble_eq_true rfl, Nat.le_of_ble_eq_true rfl⟩) (bx_pvr (ci := 6) (q0 := 0) hK hG (hP.sub (ws' := [(mo, .inr (6, [.ref fa, .ref ka, .int on, .int rn, .int lf, .int wt, .int nv, .int nl, .int nh, .int nc, .int cm, .ref da, .int dn, .int la])), (fa, .inl (cA, 66, .inl fl)), (ka, .inl (cA, 66, .inl kp)), (da, .inl (cA, 24, .inl dr))]) [0, 1, 2, 3] rfl) rfl rfl) rfl rfl hl.1 rfl (lv_room (Nat.le_of_ble_eq_true rfl)) dX6_willTry_1 ⟨Nat.zero_le _, Nat.zero_le _⟩) (fun r_1 h_2 => ?_)
  obtain ⟨h_2, b_3⟩ := h_2
  have h_2 := h_2.symm
  subst h_2
  refine lv_if_eq (tgt := 49) hx hb dX6_willTry_4 (by decide) (fun c_4 => ?_) (fun c_4 => ?_)
  · skip
    refine lv_iconst (v := 0) hx hb dX6_willTry_49 (by decide) ?_
    exact W.zret (v := 0) hx hb hr rfl (fun t ht hW => ⟨0, rfl, ⟨(by simp only [F_X6_willTry, if_pos c_4]), (by decide)⟩, ht⟩) (fun _ h => nomatch h) dX6_willTry_50
  · skip
    refine lv_aload_n hx hb dX6_willTry_7 rfl (lv_at hl 0 rfl) ?_
    refine bx_ri (va_runV (As := []) (rest := []) ⟨hx, hb, hml, hown, hts⟩ (c_X6_triesLeft l D cA mo fa ka da fl kp on rn lf wt nv nl nh nc cm dr dn la) (cwV 0 hts gX6_willTry_X6_triesLeft rfl rfl rfl (by decide +kernel) ⟨Nat.le_of_ble_eq_true rfl, Nat.le_of_ble_eq_true rfl⟩) (bx_pvr (ci := 6) (q0 := 0) hK hG (hP.sub (ws' := [(mo, .inr (6, [.ref fa, .ref ka, .int on, .int rn, .int lf, .int wt, .int nv, .int nl, .int nh, .int nc, .int cm, .ref da, .int dn, .int la])), (fa, .inl (cA, 66, .inl fl)), (ka, .inl (cA, 66, .inl kp)), (da, .inl (cA, 24, .inl dr))]) [0, 1, 2, 3] rfl) rfl rfl) rfl rfl hl.1 rfl (lv_room (Nat.le_of_ble_eq_true rfl)) dX6_willTry_8 ⟨Nat.zero_le _, Nat.zero_le _⟩) (fun r_5 h_6 => ?_)
    have h_6 := h_6.symm
    subst h_6
    refine lv_if_le (tgt := 49) hx hb dX6_willTry_11 (by decide) (fun c_7 => ?_) (fun c_7 => ?_)
    · skip
      refine lv_iconst (v := 0) hx hb dX6_willTry_49 (by decide) ?_
      exact W.zret (v := 0) hx hb hr rfl (fun t ht hW => ⟨0, rfl, ⟨(by simp only [F_X6_willTry, if_neg c_4, if_pos c_7]), (by decide)⟩, ht⟩) (fun _ h => nomatch h) dX6_willTry_50
    · skip
      refine lv_aload_n hx hb dX6_willTry_14 rfl (lv_at hl 0 rfl) ?_
      refine lv_iconst (v := 1) hx hb dX6_willTry_15 (by decide) ?_
      refine lv_iload_n hx hb dX6_willTry_16 rfl (lv_at hl 1 rfl) ?_
      refine lv_isub hx hb dX6_willTry_17 ?_
      refine bx_ri (va_runV (As := [.int (1 - p0)]) (rest := []) ⟨hx, hb, hml, hown, hts⟩ (c_X6_canStart l D cA mo fa ka da fl kp on rn lf wt nv nl nh nc cm dr dn la (1 - p0) (sl_not hs)) (cwV 1 hts gX6_willTry_X6_canStart rfl rfl rfl (by decide +kernel) ⟨Nat.le_of_ble_eq_true rfl, Nat.le_of_ble_eq_true rfl⟩) (bx_pvr (ci := 6) (q0 := 0) hK hG (hP.sub (ws' := [(mo, .inr (6, [.ref fa, .ref ka, .int on, .int rn, .int lf, .int wt, .int nv, .int nl, .int nh, .int nc, .int cm, .ref da, .int dn, .int la])), (fa, .inl (cA, 66, .inl fl)), (ka, .inl (cA, 66, .inl kp)), (da, .inl (cA, 24, .inl dr))]) [0, 1, 2, 3] rfl) rfl rfl) rfl rfl hl.1 rfl (lv_room (Nat.le_of_ble_eq_true rfl)) dX6_willTry_18 ⟨Nat.zero_le _, Nat.zero_le _⟩) (fun r_8 h_9 => ?_)
      obtain ⟨h_9, b_10⟩ := h_9
      have h_9 := h_9.symm
      subst h_9
      refine lv_if_eq (tgt := 49) hx hb dX6_willTry_21 (by decide) (fun c_11 => ?_) (fun c_11 => ?_)
      · skip
        refine lv_iconst (v := 0) hx hb dX6_willTry_49 (by decide) ?_
        exact W.zret (v := 0) hx hb hr rfl (fun t ht hW => ⟨0, rfl, ⟨(by simp only [F_X6_willTry, if_neg c_4, if_neg c_7, if_pos c_11]), (by decide)⟩, ht⟩) (fun _ h => nomatch h) dX6_willTry_50
      · skip
        refine lv_aload_n hx hb dX6_willTry_24 rfl (lv_at hl 0 rfl) ?_
        refine va_get (D := D) (ci := 6) (v := .ref fa) (C := RX6) (T := TX6) (N := 14) hx hb hts hi6 hown hK hP 0 rfl rfl 0 (by decide) (hts (.fieldLink RX6 7 "BootstayModel" "flash" "[I") (by decide +kernel)) (fun _ h9 => h9) rfl dX6_willTry_25 ?_
        refine lv_bipush (v := 29) hx hb dX6_willTry_28 (by decide) ?_
        refine lv_iconst (v := 1) hx hb dX6_willTry_30 (by decide) ?_
        refine lv_iload_n hx hb dX6_willTry_31 rfl (lv_at hl 1 rfl) ?_
        refine lv_isub hx hb dX6_willTry_32 ?_
        refine lv_imul hx hb dX6_willTry_33 ?_
        refine lv_iconst (v := 4) hx hb dX6_willTry_34 (by decide) ?_
        refine lv_iadd hx hb dX6_willTry_35 ?_
        refine bx_ald (D := D) hx hb hK hP 1 0 rfl rfl (vp_in_iff.mpr (by rcases (sl_not hs) with h | h <;> rw [h] <;> decide)) dX6_willTry_36 ?_
        refine lv_aload_n hx hb dX6_willTry_37 rfl (lv_at hl 0 rfl) ?_
        refine lv_iconst (v := 3) hx hb dX6_willTry_38 (by decide) ?_
        refine bx_ri (va_runV (As := [.int 3]) (rest := [.int (rd fl ((29 * (1 - p0)) + 4))]) ⟨hx, hb, hml, hown, hts⟩ (c_X6_inForce l D cA mo fa ka da fl kp on rn lf wt nv nl nh nc cm dr dn la 3 (by decide)) (cwV 1 hts gX6_willTry_X6_inForce rfl rfl rfl (by decide +kernel) ⟨Nat.le_of_ble_eq_true rfl, Nat.le_of_ble_eq_true rfl⟩) (bx_pvr (ci := 6) (q0 := 0) hK hG (hP.sub (ws' := [(mo, .inr (6, [.ref fa, .ref ka, .int on, .int rn, .int lf, .int wt, .int nv, .int nl, .int nh, .int nc, .int cm, .ref da, .int dn, .int la])), (fa, .inl (cA, 66, .inl fl)), (ka, .inl (cA, 66, .inl kp)), (da, .inl (cA, 24, .inl dr))]) [0, 1, 2, 3] rfl) rfl rfl) rfl rfl hl.1 rfl (lv_room (Nat.le_of_ble_eq_true rfl)) dX6_willTry_39 ⟨Nat.zero_le _, Nat.zero_le _⟩) (fun r_12 h_13 => ?_)
        have h_13 := h_13.symm
        subst h_13
        refine lv_icmp_lt (tgt := 49) hx hb dX6_willTry_42 (by decide) (fun c_14 => ?_) (fun c_14 => ?_)
        · skip
          refine lv_iconst (v := 0) hx hb dX6_willTry_49 (by decide) ?_
          exact W.zret (v := 0) hx hb hr rfl (fun t ht hW => ⟨0, rfl, ⟨(by simp only [F_X6_willTry, if_neg c_4, if_neg c_7, if_neg c_11, if_pos c_14]), (by decide)⟩, ht⟩) (fun _ h => nomatch h) dX6_willTry_50
        · skip
          refine lv_iconst (v := 1) hx hb dX6_willTry_45 (by decide) ?_
          refine lv_goto (tgt := 50) hx hb dX6_willTry_46 (by decide) ?_
          exact W.zret (v := 1) hx hb hr rfl (fun t ht hW => ⟨1, rfl, ⟨(by simp only [F_X6_willTry, if_neg c_4, if_neg c_7, if_neg c_11, if_neg c_14]), (by decide)⟩, ht⟩) (fun _ h => nomatch h) dX6_willTry_50
def F_X6_isTrial (fl : Nat → Int32) (on : Int32) (rn : Int32) : Int32 := (if on = 0 then 0 else (if rn = (F_X6_confirmedSlot fl) then 0 else 1))
set_option maxHeartbeats 4000000 in
set_option maxRecDepth 100000 in
theorem c_X6_isTrial (l : Launch) (D : va_G) (cA : ClassId) (mo fa ka da : Nat) (fl : Nat → Int32) (kp : Nat → Int32) (on : Int32) (rn : Int32) (lf : Int32) (wt : Int32) (nv : Int32) (nl : Int32) (nh : Int32) (nc : Int32) (cm : Int32) (dr : Nat → Int32) (dn : Int32) (la : Int32) : Met l yX6_isTrial wsX6_isTrial ({ frames := 5, cells := 0, slots := 0, locals := 105 }) (va_Pc [.ref mo] (bx_ro D [(cA, .int)] (wMo cA mo fa ka da fl kp on rn lf wt nv nl nh nc cm dr dn la))) (vp_Si (fun r => r = F_X6_isTrial fl on rn ∧ (r = 0 ∨ r = 1))) 0 0 (fun _ => False) := by
  refine Met.ofW (cc := cX6_isTrial) (maxL := 1) (ret := (some .boolean)) (by decide) rfl ?_
  intro p e s m args below meth c s₁ B hml hv
  obtain ⟨rfl, hP, hK, hG⟩ := hv
  have hx := B.exec
  have hb := B.bytes
  have hr := B.returns
  have hts := atoms_spec (ws := wsX6_isTrial) B.pre
  have hown : s.vm.findClass RX6 = some m.cls := findClass_of_methodNamed B.named
  have hlocks := B.notSynchronized
  have hP : va_P D vwCl [(mo, .inr (6, [.ref fa, .ref ka, .int on, .int rn, .int lf, .int wt, .int nv, .int nl, .int nh, .int nc, .int cm, .ref da, .int dn, .int la])), (fa, .inl (cA, 66, .inl fl)), (ka, .inl (cA, 66, .inl kp)), (da, .inl (cA, 24, .inl dr))] s.heap := hP
  have hl := lv_entry ([.ref mo]) (n := 1) (Nat.le_of_ble_eq_true rfl)
  rw [lg_entry_eq]
  generalize (lg_sl ([.ref mo]) ++ List.replicate (1 - (lg_sl ([.ref mo])).length) Slot.unset).toArray = ls at hl ⊢
  have hl : lv_has ls 1 [(0, .ref mo)] := hl
  have hi6 : ∀ w ∈ u_ws RX6 TX6 14, w ∈ wsX6_isTrial := by decide +kernel
  refine lv_aload_n hx hb dX6_isTrial_0 rfl (lv_at hl 0 rfl) ?_
  refine va_get (D := D) (ci := 6) (v := .int on) (C := RX6) (T := TX6) (N := 14) hx hb hts hi6 hown hK hP 0 rfl rfl 2 (by decide) (hts (.fieldLink RX6 63 "BootstayModel" "on" "Z") (by decide +kernel)) (fun _ h9 => h9) rfl dX6_isTrial_1 ?_
  refine lv_if_eq (tgt := 22) hx hb dX6_isTrial_4 (by decide) (fun c_1 => ?_) (fun c_1 => ?_)
  · skip
    refine lv_iconst (v := 0) hx hb dX6_isTrial_22 (by decide) ?_
    exact W.zret (v := 0) hx hb hr rfl (fun t ht hW => ⟨0, rfl, ⟨(by simp only [F_X6_isTrial, if_pos c_1]), (by decide)⟩, ht⟩) (fun _ h => nomatch h) dX6_isTrial_23
  · skip
    refine lv_aload_n hx hb dX6_isTrial_7 rfl (lv_at hl 0 rfl) ?_
    refine va_get (D := D) (ci := 6) (v := .int rn) (C := RX6) (T := TX6) (N := 14) hx hb hts hi6 hown hK hP 0 rfl rfl 3 (by decide) (hts (.fieldLink RX6 16 "BootstayModel" "running" "I") (by decide +kernel)) (fun _ h9 => h9) rfl dX6_isTrial_8 ?_
    refine lv_aload_n hx hb dX6_isTrial_11 rfl (lv_at hl 0 rfl) ?_
    refine bx_ri (va_runV (As := []) (rest := [.int rn]) ⟨hx, hb, hml, hown, hts⟩ (c_X6_confirmedSlot l D cA mo fa ka da fl kp on rn lf wt nv nl nh nc cm dr dn la) (cwV 0 hts gX6_isTrial_X6_confirmedSlot rfl rfl rfl (by decide +kernel) ⟨Nat.le_of_ble_eq_true rfl, Nat.le_of_ble_eq_true rfl⟩) (bx_pvr (ci := 6) (q0 := 0) hK hG (hP.sub (ws' := [(mo, .inr (6, [.ref fa, .ref ka, .int on, .int rn, .int lf, .int wt, .int nv, .int nl, .int nh, .int nc, .int cm, .ref da, .int dn, .int la])), (fa, .inl (cA, 66, .inl fl)), (ka, .inl (cA, 66, .inl kp)), (da, .inl (cA, 24, .inl dr))]) [0, 1, 2, 3] rfl) rfl rfl) rfl rfl hl.1 rfl (lv_room (Nat.le_of_ble_eq_true rfl)) dX6_isTrial_12 ⟨Nat.zero_le _, Nat.zero_le _⟩) (fun r_2 h_3 => ?_)
    have h_3 := h_3.symm
    subst h_3
    refine lv_icmp_eq (tgt := 22) hx hb dX6_isTrial_15 (by decide) (fun c_4 => ?_) (fun c_4 => ?_)
    · skip
      refine lv_iconst (v := 0) hx hb dX6_isTrial_22 (by decide) ?_
      exact W.zret (v := 0) hx hb hr rfl (fun t ht hW => ⟨0, rfl, ⟨(by simp only [F_X6_isTrial, if_neg c_1, if_pos c_4]), (by decide)⟩, ht⟩) (fun _ h => nomatch h) dX6_isTrial_23
    · skip
      refine lv_iconst (v := 1) hx hb dX6_isTrial_18 (by decide) ?_
      refine lv_goto (tgt := 23) hx hb dX6_isTrial_19 (by decide) ?_
      exact W.zret (v := 1) hx hb hr rfl (fun t ht hW => ⟨1, rfl, ⟨(by simp only [F_X6_isTrial, if_neg c_1, if_neg c_4]), (by decide)⟩, ht⟩) (fun _ h => nomatch h) dX6_isTrial_23
def F_X6_comes (fl : Nat → Int32) (on : Int32) (rn : Int32) (lf : Int32) (wt : Int32) (cm : Int32) (p0 : Int32) : Int32 × (Nat → Int32) × (Int32) × (Int32) × (Int32) × (Int32) × (Int32) := (match (F_X6_lays fl on rn lf wt cm (((29 * (1 - rn)) + 5) + cm) p0) with | (r_3, fl4, on5, rn6, lf7, wt8, cm9) => (if r_3 = 0 then (r_3, fl4, on5, rn6, lf7, wt8, (cm9 + 0)) else (r_3, fl4, on5, rn6, lf7, wt8, (cm9 + 1))))
set_option maxHeartbeats 4000000 in
set_option maxRecDepth 100000 in
theorem c_X6_comes (l : Launch) (D : va_G) (cA : ClassId) (mo fa ka da : Nat) (sz : Nat) (fl : Nat → Int32) (kp : Nat → Int32) (on : Int32) (rn : Int32) (lf : Int32) (wt : Int32) (nv : Int32) (nl : Int32) (nh : Int32) (nc : Int32) (cm : Int32) (dr : Nat → Int32) (dn : Int32) (la : Int32) (p0 : Int32) (hrs : sl rn) (hc : vp_in cm 24) : Met l yX6_comes wsX6_comes ({ frames := 2, cells := 0, slots := 0, locals := 42 }) (va_Pc [.ref mo, .int p0] (bx_pre D [(cA, .int)] (wMo cA mo fa ka da fl kp on rn lf wt nv nl nh nc cm dr dn la) sz)) (va_Qi (fun r u => (r, u) = F_X6_comes fl on rn lf wt cm p0 ∧ (r = 0 ∨ r = 1)) (fun u t => bx_at D (wMo cA mo fa ka da u.1 kp u.2.1 u.2.2.1 u.2.2.2.1 u.2.2.2.2.1 nv nl nh nc u.2.2.2.2.2 dr dn la) (va_A (wMo cA mo fa ka da fl kp on rn lf wt nv nl nh nc cm dr dn la) sz) t) (va_A (wMo cA mo fa ka da fl kp on rn lf wt nv nl nh nc cm dr dn la) sz)) 0 0 (va_A (wMo cA mo fa ka da fl kp on rn lf wt nv nl nh nc cm dr dn la) sz) := by
  refine Met.ofW (cc := cX6_comes) (maxL := 3) (ret := (some .boolean)) (by decide) rfl ?_
  intro p e s m args below meth c s₁ B hml hv
  obtain ⟨rfl, hsz, hP, hK, hD0, hG⟩ := hv
  have hx := B.exec
  have hb := B.bytes
  have hr := B.returns
  have hts := atoms_spec (ws := wsX6_comes) B.pre
  have hown : s.vm.findClass RX6 = some m.cls := findClass_of_methodNamed B.named
  have hlocks := B.notSynchronized
  subst hsz
  have hD := hD0.self (sz := s.heap.size)
  generalize hAe : va_A (wMo cA mo fa ka da fl kp on rn lf wt nv nl nh nc cm dr dn la) s.heap.size = A at hD ⊢
  have hA : ∀ q : Nat, s.heap.size ≤ q → A q := fun q h => by rw [← hAe]; exact Or.inr h
  have hS : va_S A s.heap s.heap [] := va_S.rf
  have hD : va_D A [(mo, .inr (6, [.ref fa, .ref ka, .int on, .int rn, .int lf, .int wt, .int nv, .int nl, .int nh, .int nc, .int cm, .ref da, .int dn, .int la])), (fa, .inl (cA, 66, .inl fl)), (ka, .inl (cA, 66, .inl kp)), (da, .inl (cA, 24, .inl dr))] := hD
  have hP : va_P D vwCl [(mo, .inr (6, [.ref fa, .ref ka, .int on, .int rn, .int lf, .int wt, .int nv, .int nl, .int nh, .int nc, .int cm, .ref da, .int dn, .int la])), (fa, .inl (cA, 66, .inl fl)), (ka, .inl (cA, 66, .inl kp)), (da, .inl (cA, 24, .inl dr))] s.heap := hP
  have hl := lv_entry ([.ref mo, .int p0]) (n := 3) (Nat.le_of_ble_eq_true rfl)
  rw [lg_entry_eq]
  generalize (lg_sl ([.ref mo, .int p0]) ++ List.replicate (3 - (lg_sl ([.ref mo, .int p0])).length) Slot.unset).toArray = ls at hl ⊢
  have hl : lv_has ls 3 [(0, .ref mo), (1, .int p0)] := hl
  have hi6 : ∀ w ∈ u_ws RX6 TX6 14, w ∈ wsX6_comes := by decide +kernel
  refine lv_aload_n hx hb dX6_comes_0 rfl (lv_at hl 0 rfl) ?_
  refine lv_bipush (v := 29) hx hb dX6_comes_1 (by decide) ?_
  refine lv_iconst (v := 1) hx hb dX6_comes_3 (by decide) ?_
  refine lv_aload_n hx hb dX6_comes_4 rfl (lv_at hl 0 rfl) ?_
  refine va_get (D := D) (ci := 6) (v := .int rn) (C := RX6) (T := TX6) (N := 14) hx hb hts hi6 hown hK hP 0 rfl rfl 3 (by decide) (hts (.fieldLink RX6 16 "BootstayModel" "running" "I") (by decide +kernel)) (fun _ h9 => h9) rfl dX6_comes_5 ?_
  refine lv_isub hx hb dX6_comes_8 ?_
  refine lv_imul hx hb dX6_comes_9 ?_
  refine lv_iconst (v := 5) hx hb dX6_comes_10 (by decide) ?_
  refine lv_iadd hx hb dX6_comes_11 ?_
  refine lv_aload_n hx hb dX6_comes_12 rfl (lv_at hl 0 rfl) ?_
  refine va_get (D := D) (ci := 6) (v := .int cm) (C := RX6) (T := TX6) (N := 14) hx hb hts hi6 hown hK hP 0 rfl rfl 10 (by decide) (hts (.fieldLink RX6 23 "BootstayModel" "come" "I") (by decide +kernel)) (fun _ h9 => h9) rfl dX6_comes_13 ?_
  refine lv_iadd hx hb dX6_comes_16 ?_
  refine lv_iload_n hx hb dX6_comes_17 rfl (lv_at hl 1 rfl) ?_
  refine bx_wi (wc := [(mo, .inr (6, [.ref fa, .ref ka, .int on, .int rn, .int lf, .int wt, .int nv, .int nl, .int nh, .int nc, .int cm, .ref da, .int dn, .int la])), (fa, .inl (cA, 66, .inl fl)), (ka, .inl (cA, 66, .inl kp)), (da, .inl (cA, 24, .inl dr))]) (wr := []) (wf := fun (u : (Nat → Int32) × (Int32) × (Int32) × (Int32) × (Int32) × (Int32)) => [(mo, .inr (6, [.ref fa, .ref ka, .int u.2.1, .int u.2.2.1, .int u.2.2.2.1, .int u.2.2.2.2.1, .int nv, .int nl, .int nh, .int nc, .int u.2.2.2.2.2, .ref da, .int dn, .int la])), (fa, .inl (cA, 66, .inl u.1)), (ka, .inl (cA, 66, .inl kp)), (da, .inl (cA, 24, .inl dr))]) (wn := fun (u : (Nat → Int32) × (Int32) × (Int32) × (Int32) × (Int32) × (Int32)) => [(mo, .inr (6, [.ref fa, .ref ka, .int u.2.1, .int u.2.2.1, .int u.2.2.2.1, .int u.2.2.2.2.1, .int nv, .int nl, .int nh, .int nc, .int u.2.2.2.2.2, .ref da, .int dn, .int la])), (fa, .inl (cA, 66, .inl u.1)), (ka, .inl (cA, 66, .inl kp)), (da, .inl (cA, 24, .inl dr))]) hP hD hS hA [0, 1, 2, 3] [] [0, 1, 2, 3] rfl rfl (by decide) (by decide) (fun u => rfl) (by decide) (va_runV (As := [.int (((29 * (1 - rn)) + 5) + cm), .int p0]) (rest := []) ⟨hx, hb, hml, hown, hts⟩ (c_X6_lays l D cA mo fa ka da s.heap.size fl kp on rn lf wt nv nl nh nc cm dr dn la (((29 * (1 - rn)) + 5) + cm) p0 (vi5 (sl_not hrs) hc)) (cwV 2 hts gX6_comes_X6_lays rfl rfl rfl (by decide +kernel) ⟨Nat.le_of_ble_eq_true rfl, Nat.le_of_ble_eq_true rfl⟩) (bx_pv (ci := 6) (q0 := 0) hK hG (hP.sub (ws' := [(mo, .inr (6, [.ref fa, .ref ka, .int on, .int rn, .int lf, .int wt, .int nv, .int nl, .int nh, .int nc, .int cm, .ref da, .int dn, .int la])), (fa, .inl (cA, 66, .inl fl)), (ka, .inl (cA, 66, .inl kp)), (da, .inl (cA, 24, .inl dr))]) [0, 1, 2, 3] rfl) (hD.sub (ws' := [(mo, .inr (6, [.ref fa, .ref ka, .int on, .int rn, .int lf, .int wt, .int nv, .int nl, .int nh, .int nc, .int cm, .ref da, .int dn, .int la])), (fa, .inl (cA, 66, .inl fl)), (ka, .inl (cA, 66, .inl kp)), (da, .inl (cA, 24, .inl dr))]) [0, 1, 2, 3] (by decide) rfl) rfl rfl) rfl rfl hl.1 rfl (lv_room (Nat.le_of_ble_eq_true rfl)) dX6_comes_18 ⟨Nat.zero_le _, Nat.zero_le _⟩) (fun r_3 u_2 H locs h_1 hP hD hS => ?_)
  obtain ⟨fl4, on5, rn6, lf7, wt8, cm9⟩ := u_2
  obtain ⟨h_1, b_10⟩ := h_1
  have hP : va_P D vwCl [(mo, .inr (6, [.ref fa, .ref ka, .int on5, .int rn6, .int lf7, .int wt8, .int nv, .int nl, .int nh, .int nc, .int cm9, .ref da, .int dn, .int la])), (fa, .inl (cA, 66, .inl fl4)), (ka, .inl (cA, 66, .inl kp)), (da, .inl (cA, 24, .inl dr))] H := hP
  have hD : va_D A [(mo, .inr (6, [.ref fa, .ref ka, .int on5, .int rn6, .int lf7, .int wt8, .int nv, .int nl, .int nh, .int nc, .int cm9, .ref da, .int dn, .int la])), (fa, .inl (cA, 66, .inl fl4)), (ka, .inl (cA, 66, .inl kp)), (da, .inl (cA, 24, .inl dr))] := hD
  refine lv_istore_n (lv' := [(2, .int r_3), (0, .ref mo), (1, .int p0)]) hx hb dX6_comes_21 rfl hl (by decide) rfl (fun ls hl => ?_)
  refine lv_aload_n hx hb dX6_comes_22 rfl (lv_at hl 1 rfl) ?_
  refine lv_dup hx hb dX6_comes_23 rfl ?_
  refine va_get (D := D) (ci := 6) (v := .int cm9) (C := RX6) (T := TX6) (N := 14) hx hb hts hi6 hown hK hP 0 rfl rfl 10 (by decide) (hts (.fieldLink RX6 23 "BootstayModel" "come" "I") (by decide +kernel)) (fun _ h9 => h9) rfl dX6_comes_24 ?_
  refine lv_iload_n hx hb dX6_comes_27 rfl (lv_at hl 0 rfl) ?_
  refine lv_if_eq (tgt := 35) hx hb dX6_comes_28 (by decide) (fun c_11 => ?_) (fun c_11 => ?_)
  · skip
    refine lv_iconst (v := 0) hx hb dX6_comes_35 (by decide) ?_
    refine lv_iadd hx hb dX6_comes_36 ?_
    refine va_put (D := D) (ci := 6) (v := .int (cm9 + 0)) (ty := .int) (C := RX6) (T := TX6) (N := 14) hx hb hts hi6 tyX6 tyX6_ok nmX6 hown hK hP hD hS 0 rfl rfl 10 (by decide) (hts (.fieldLink RX6 23 "BootstayModel" "come" "I") (by decide +kernel)) (fun _ h9 => h9) rfl (by decide +kernel) rfl rfl (Nat.le_of_ble_eq_true rfl) dX6_comes_37 (fun H locs hP hD hS => ?_)
    have hP : va_P D vwCl [(mo, .inr (6, [.ref fa, .ref ka, .int on5, .int rn6, .int lf7, .int wt8, .int nv, .int nl, .int nh, .int nc, .int (cm9 + 0), .ref da, .int dn, .int la])), (fa, .inl (cA, 66, .inl fl4)), (ka, .inl (cA, 66, .inl kp)), (da, .inl (cA, 24, .inl dr))] H := hP
    have hD : va_D A [(mo, .inr (6, [.ref fa, .ref ka, .int on5, .int rn6, .int lf7, .int wt8, .int nv, .int nl, .int nh, .int nc, .int (cm9 + 0), .ref da, .int dn, .int la])), (fa, .inl (cA, 66, .inl fl4)), (ka, .inl (cA, 66, .inl kp)), (da, .inl (cA, 24, .inl dr))] := hD
    refine lv_iload_n hx hb dX6_comes_40 rfl (lv_at hl 0 rfl) ?_
    exact W.zret (v := r_3) hx hb hr (bx_nb b_10) (fun t ht hW => ⟨⟨r_3, (fl4, on5, rn6, lf7, wt8, (cm9 + 0)), rfl, ⟨(by simp only [F_X6_comes, if_pos c_11, ← h_1]), b_10⟩, ⟨by rw [ht]; exact hP, hD⟩⟩, hS.F ht⟩) hS.2.2 dX6_comes_41
  · skip
    refine lv_iconst (v := 1) hx hb dX6_comes_31 (by decide) ?_
    refine lv_goto (tgt := 36) hx hb dX6_comes_32 (by decide) ?_
    refine lv_iadd hx hb dX6_comes_36 ?_
    refine va_put (D := D) (ci := 6) (v := .int (cm9 + 1)) (ty := .int) (C := RX6) (T := TX6) (N := 14) hx hb hts hi6 tyX6 tyX6_ok nmX6 hown hK hP hD hS 0 rfl rfl 10 (by decide) (hts (.fieldLink RX6 23 "BootstayModel" "come" "I") (by decide +kernel)) (fun _ h9 => h9) rfl (by decide +kernel) rfl rfl (Nat.le_of_ble_eq_true rfl) dX6_comes_37 (fun H locs hP hD hS => ?_)
    have hP : va_P D vwCl [(mo, .inr (6, [.ref fa, .ref ka, .int on5, .int rn6, .int lf7, .int wt8, .int nv, .int nl, .int nh, .int nc, .int (cm9 + 1), .ref da, .int dn, .int la])), (fa, .inl (cA, 66, .inl fl4)), (ka, .inl (cA, 66, .inl kp)), (da, .inl (cA, 24, .inl dr))] H := hP
    have hD : va_D A [(mo, .inr (6, [.ref fa, .ref ka, .int on5, .int rn6, .int lf7, .int wt8, .int nv, .int nl, .int nh, .int nc, .int (cm9 + 1), .ref da, .int dn, .int la])), (fa, .inl (cA, 66, .inl fl4)), (ka, .inl (cA, 66, .inl kp)), (da, .inl (cA, 24, .inl dr))] := hD
    refine lv_iload_n hx hb dX6_comes_40 rfl (lv_at hl 0 rfl) ?_
    exact W.zret (v := r_3) hx hb hr (bx_nb b_10) (fun t ht hW => ⟨⟨r_3, (fl4, on5, rn6, lf7, wt8, (cm9 + 1)), rfl, ⟨(by simp only [F_X6_comes, if_neg c_11, ← h_1]), b_10⟩, ⟨by rw [ht]; exact hP, hD⟩⟩, hS.F ht⟩) hS.2.2 dX6_comes_41
def F_X6_canFinish (fl : Nat → Int32) (rn : Int32) (nl : Int32) (nh : Int32) (cm : Int32) : Int32 := (if cm < 0 then 0 else (if cm = nl then (if (F_X6_hashIn fl (1 - rn) nl) = nh then 1 else 0) else 0))
set_option maxHeartbeats 4000000 in
set_option maxRecDepth 100000 in
theorem c_X6_canFinish (l : Launch) (D : va_G) (cA : ClassId) (mo fa ka da : Nat) (fl : Nat → Int32) (kp : Nat → Int32) (on : Int32) (rn : Int32) (lf : Int32) (wt : Int32) (nv : Int32) (nl : Int32) (nh : Int32) (nc : Int32) (cm : Int32) (dr : Nat → Int32) (dn : Int32) (la : Int32) (hcf : cm < 0 ∨ (sl rn ∧ nl.toNatClampNeg ≤ 24)) : Met l yX6_canFinish wsX6_canFinish ({ frames := 2, cells := 0, slots := 0, locals := 45 }) (va_Pc [.ref mo] (bx_ro D [(cA, .int)] (wMo cA mo fa ka da fl kp on rn lf wt nv nl nh nc cm dr dn la))) (vp_Si (fun r => r = F_X6_canFinish fl rn nl nh cm ∧ (r = 0 ∨ r = 1))) 0 0 (fun _ => False) := by
  refine Met.ofW (cc := cX6_canFinish) (maxL := 1) (ret := (some .boolean)) (by decide) rfl ?_
  intro p e s m args below meth c s₁ B hml hv
  obtain ⟨rfl, hP, hK, hG⟩ := hv
  have hx := B.exec
  have hb := B.bytes
  have hr := B.returns
  have hts := atoms_spec (ws := wsX6_canFinish) B.pre
  have hown : s.vm.findClass RX6 = some m.cls := findClass_of_methodNamed B.named
  have hlocks := B.notSynchronized
  have hP : va_P D vwCl [(mo, .inr (6, [.ref fa, .ref ka, .int on, .int rn, .int lf, .int wt, .int nv, .int nl, .int nh, .int nc, .int cm, .ref da, .int dn, .int la])), (fa, .inl (cA, 66, .inl fl)), (ka, .inl (cA, 66, .inl kp)), (da, .inl (cA, 24, .inl dr))] s.heap := hP
  have hl := lv_entry ([.ref mo]) (n := 1) (Nat.le_of_ble_eq_true rfl)
  rw [lg_entry_eq]
  generalize (lg_sl ([.ref mo]) ++ List.replicate (1 - (lg_sl ([.ref mo])).length) Slot.unset).toArray = ls at hl ⊢
  have hl : lv_has ls 1 [(0, .ref mo)] := hl
  have hi6 : ∀ w ∈ u_ws RX6 TX6 14, w ∈ wsX6_canFinish := by decide +kernel
  refine lv_aload_n hx hb dX6_canFinish_0 rfl (lv_at hl 0 rfl) ?_
  refine va_get (D := D) (ci := 6) (v := .int cm) (C := RX6) (T := TX6) (N := 14) hx hb hts hi6 hown hK hP 0 rfl rfl 10 (by decide) (hts (.fieldLink RX6 23 "BootstayModel" "come" "I") (by decide +kernel)) (fun _ h9 => h9) rfl dX6_canFinish_1 ?_
  refine lv_if_lt (tgt := 43) hx hb dX6_canFinish_4 (by decide) (fun c_1 => ?_) (fun c_1 => ?_)
  · skip
    refine lv_iconst (v := 0) hx hb dX6_canFinish_43 (by decide) ?_
    exact W.zret (v := 0) hx hb hr rfl (fun t ht hW => ⟨0, rfl, ⟨(by simp only [F_X6_canFinish, if_pos c_1]), (by decide)⟩, ht⟩) (fun _ h => nomatch h) dX6_canFinish_44
  · skip
    refine lv_aload_n hx hb dX6_canFinish_7 rfl (lv_at hl 0 rfl) ?_
    refine va_get (D := D) (ci := 6) (v := .int cm) (C := RX6) (T := TX6) (N := 14) hx hb hts hi6 hown hK hP 0 rfl rfl 10 (by decide) (hts (.fieldLink RX6 23 "BootstayModel" "come" "I") (by decide +kernel)) (fun _ h9 => h9) rfl dX6_canFinish_8 ?_
    refine lv_aload_n hx hb dX6_canFinish_11 rfl (lv_at hl 0 rfl) ?_
    refine va_get (D := D) (ci := 6) (v := .int nl) (C := RX6) (T := TX6) (N := 14) hx hb hts hi6 hown hK hP 0 rfl rfl 7 (by decide) (hts (.fieldLink RX6 103 "BootstayModel" "newLength" "I") (by decide +kernel)) (fun _ h9 => h9) rfl dX6_canFinish_12 ?_
    refine lv_icmp_ne (tgt := 43) hx hb dX6_canFinish_15 (by decide) (fun c_2 => ?_) (fun c_2 => ?_)
    · skip
      refine lv_iconst (v := 0) hx hb dX6_canFinish_43 (by decide) ?_
      exact W.zret (v := 0) hx hb hr rfl (fun t ht hW => ⟨0, rfl, ⟨(by simp only [F_X6_canFinish, if_neg c_1, if_neg c_2]), (by decide)⟩, ht⟩) (fun _ h => nomatch h) dX6_canFinish_44
    · skip
      refine lv_aload_n hx hb dX6_canFinish_18 rfl (lv_at hl 0 rfl) ?_
      refine lv_iconst (v := 1) hx hb dX6_canFinish_19 (by decide) ?_
      refine lv_aload_n hx hb dX6_canFinish_20 rfl (lv_at hl 0 rfl) ?_
      refine va_get (D := D) (ci := 6) (v := .int rn) (C := RX6) (T := TX6) (N := 14) hx hb hts hi6 hown hK hP 0 rfl rfl 3 (by decide) (hts (.fieldLink RX6 16 "BootstayModel" "running" "I") (by decide +kernel)) (fun _ h9 => h9) rfl dX6_canFinish_21 ?_
      refine lv_isub hx hb dX6_canFinish_24 ?_
      refine lv_aload_n hx hb dX6_canFinish_25 rfl (lv_at hl 0 rfl) ?_
      refine va_get (D := D) (ci := 6) (v := .int nl) (C := RX6) (T := TX6) (N := 14) hx hb hts hi6 hown hK hP 0 rfl rfl 7 (by decide) (hts (.fieldLink RX6 103 "BootstayModel" "newLength" "I") (by decide +kernel)) (fun _ h9 => h9) rfl dX6_canFinish_26 ?_
      refine bx_ri (va_runV (As := [.int (1 - rn), .int nl]) (rest := []) ⟨hx, hb, hml, hown, hts⟩ (c_X6_hashIn l D cA mo fa ka da fl kp on rn lf wt nv nl nh nc cm dr dn la (1 - rn) nl (sl_not (hcf.resolve_left c_1).1) ((hcf.resolve_left c_1).2)) (cwV 2 hts gX6_canFinish_X6_hashIn rfl rfl rfl (by decide +kernel) ⟨Nat.le_of_ble_eq_true rfl, Nat.le_of_ble_eq_true rfl⟩) (bx_pvr (ci := 6) (q0 := 0) hK hG (hP.sub (ws' := [(mo, .inr (6, [.ref fa, .ref ka, .int on, .int rn, .int lf, .int wt, .int nv, .int nl, .int nh, .int nc, .int cm, .ref da, .int dn, .int la])), (fa, .inl (cA, 66, .inl fl)), (ka, .inl (cA, 66, .inl kp)), (da, .inl (cA, 24, .inl dr))]) [0, 1, 2, 3] rfl) rfl rfl) rfl rfl hl.1 rfl (lv_room (Nat.le_of_ble_eq_true rfl)) dX6_canFinish_29 ⟨Nat.zero_le _, Nat.zero_le _⟩) (fun r_3 h_4 => ?_)
      have h_4 := h_4.symm
      subst h_4
      refine lv_aload_n hx hb dX6_canFinish_32 rfl (lv_at hl 0 rfl) ?_
      refine va_get (D := D) (ci := 6) (v := .int nh) (C := RX6) (T := TX6) (N := 14) hx hb hts hi6 hown hK hP 0 rfl rfl 8 (by decide) (hts (.fieldLink RX6 106 "BootstayModel" "newHash" "I") (by decide +kernel)) (fun _ h9 => h9) rfl dX6_canFinish_33 ?_
      refine lv_icmp_ne (tgt := 43) hx hb dX6_canFinish_36 (by decide) (fun c_5 => ?_) (fun c_5 => ?_)
      · skip
        refine lv_iconst (v := 0) hx hb dX6_canFinish_43 (by decide) ?_
        exact W.zret (v := 0) hx hb hr rfl (fun t ht hW => ⟨0, rfl, ⟨(by simp only [F_X6_canFinish, if_neg c_1, if_pos c_2, if_neg c_5]), (by decide)⟩, ht⟩) (fun _ h => nomatch h) dX6_canFinish_44
      · skip
        refine lv_iconst (v := 1) hx hb dX6_canFinish_39 (by decide) ?_
        refine lv_goto (tgt := 44) hx hb dX6_canFinish_40 (by decide) ?_
        exact W.zret (v := 1) hx hb hr rfl (fun t ht hW => ⟨1, rfl, ⟨(by simp only [F_X6_canFinish, if_neg c_1, if_pos c_2, if_pos c_5]), (by decide)⟩, ht⟩) (fun _ h => nomatch h) dX6_canFinish_44
def F_X6_finishes (fl : Nat → Int32) (on : Int32) (rn : Int32) (lf : Int32) (wt : Int32) (nv : Int32) (nl : Int32) (nh : Int32) (nc : Int32) (cm : Int32) (p0 : Int32) : Int32 × (Nat → Int32) × (Int32) × (Int32) × (Int32) × (Int32) × (Int32) := (match (F_X6_lays fl on rn lf wt cm ((29 * (1 - rn)) + 1) nv) with | (r_3, fl4, on5, rn6, lf7, wt8, cm9) => (if r_3 = 0 then (0, fl4, on5, rn6, lf7, wt8, cm9) else (match (F_X6_lays fl4 on5 rn6 lf7 wt8 cm9 ((29 * (1 - rn)) + 2) nl) with | (r_15, fl16, on17, rn18, lf19, wt20, cm21) => (if r_15 = 0 then (0, fl16, on17, rn18, lf19, wt20, cm21) else (match (F_X6_lays fl16 on17 rn18 lf19 wt20 cm21 ((29 * (1 - rn)) + 3) nh) with | (r_27, fl28, on29, rn30, lf31, wt32, cm33) => (if r_27 = 0 then (0, fl28, on29, rn30, lf31, wt32, cm33) else (match (F_X6_lays fl28 on29 rn30 lf31 wt32 cm33 ((29 * (1 - rn)) + 4) nc) with | (r_39, fl40, on41, rn42, lf43, wt44, cm45) => (if r_39 = 0 then (0, fl40, on41, rn42, lf43, wt44, cm45) else (match (F_X6_lays fl40 on41 rn42 lf43 wt44 cm45 ((29 * (1 - rn)) + 0) 1) with | (r_51, fl52, on53, rn54, lf55, wt56, cm57) => (if r_51 = 0 then (0, fl52, on53, rn54, lf55, wt56, cm57) else (match (F_X6_records fl52 on53 rn54 lf55 wt56 cm57 (((F_X6_confirmedSlot fl52) + 2) + (4 * p0)) (F_X6_inForce fl52 3)) with | (r_68, fl69, on70, rn71, lf72, wt73, cm74) => (if r_68 = 0 then (0, fl69, on70, rn71, lf72, wt73, cm74) else (1, fl69, on70, rn71, lf72, wt73, cm74)))))))))))))
set_option maxHeartbeats 4000000 in
set_option maxRecDepth 100000 in
theorem c_X6_finishes (l : Launch) (D : va_G) (cA : ClassId) (mo fa ka da : Nat) (sz : Nat) (fl : Nat → Int32) (kp : Nat → Int32) (on : Int32) (rn : Int32) (lf : Int32) (wt : Int32) (nv : Int32) (nl : Int32) (nh : Int32) (nc : Int32) (cm : Int32) (dr : Nat → Int32) (dn : Int32) (la : Int32) (p0 : Int32) (hrs : sl rn) : Met l yX6_finishes wsX6_finishes ({ frames := 5, cells := 0, slots := 0, locals := 105 }) (va_Pc [.ref mo, .int p0] (bx_pre D [(cA, .int)] (wMo cA mo fa ka da fl kp on rn lf wt nv nl nh nc cm dr dn la) sz)) (va_Qi (fun r u => (r, u) = F_X6_finishes fl on rn lf wt nv nl nh nc cm p0 ∧ (r = 0 ∨ r = 1)) (fun u t => bx_at D (wMo cA mo fa ka da u.1 kp u.2.1 u.2.2.1 u.2.2.2.1 u.2.2.2.2.1 nv nl nh nc u.2.2.2.2.2 dr dn la) (va_A (wMo cA mo fa ka da fl kp on rn lf wt nv nl nh nc cm dr dn la) sz) t) (va_A (wMo cA mo fa ka da fl kp on rn lf wt nv nl nh nc cm dr dn la) sz)) 0 0 (va_A (wMo cA mo fa ka da fl kp on rn lf wt nv nl nh nc cm dr dn la) sz) := by
  refine Met.ofW (cc := cX6_finishes) (maxL := 4) (ret := (some .boolean)) (by decide) rfl ?_
  intro p e s m args below meth c s₁ B hml hv
  obtain ⟨rfl, hsz, hP, hK, hD0, hG⟩ := hv
  have hx := B.exec
  have hb := B.bytes
  have hr := B.returns
  have hts := atoms_spec (ws := wsX6_finishes) B.pre
  have hown : s.vm.findClass RX6 = some m.cls := findClass_of_methodNamed B.named
  have hlocks := B.notSynchronized
  subst hsz
  have hD := hD0.self (sz := s.heap.size)
  generalize hAe : va_A (wMo cA mo fa ka da fl kp on rn lf wt nv nl nh nc cm dr dn la) s.heap.size = A at hD ⊢
  have hA : ∀ q : Nat, s.heap.size ≤ q → A q := fun q h => by rw [← hAe]; exact Or.inr h
  have hS : va_S A s.heap s.heap [] := va_S.rf
  have hD : va_D A [(mo, .inr (6, [.ref fa, .ref ka, .int on, .int rn, .int lf, .int wt, .int nv, .int nl, .int nh, .int nc, .int cm, .ref da, .int dn, .int la])), (fa, .inl (cA, 66, .inl fl)), (ka, .inl (cA, 66, .inl kp)), (da, .inl (cA, 24, .inl dr))] := hD
  have hP : va_P D vwCl [(mo, .inr (6, [.ref fa, .ref ka, .int on, .int rn, .int lf, .int wt, .int nv, .int nl, .int nh, .int nc, .int cm, .ref da, .int dn, .int la])), (fa, .inl (cA, 66, .inl fl)), (ka, .inl (cA, 66, .inl kp)), (da, .inl (cA, 24, .inl dr))] s.heap := hP
  have hl := lv_entry ([.ref mo, .int p0]) (n := 4) (Nat.le_of_ble_eq_true rfl)
  rw [lg_entry_eq]
  generalize (lg_sl ([.ref mo, .int p0]) ++ List.replicate (4 - (lg_sl ([.ref mo, .int p0])).length) Slot.unset).toArray = ls at hl ⊢
  have hl : lv_has ls 4 [(0, .ref mo), (1, .int p0)] := hl
  have hi6 : ∀ w ∈ u_ws RX6 TX6 14, w ∈ wsX6_finishes := by decide +kernel
  refine lv_bipush (v := 29) hx hb dX6_finishes_0 (by decide) ?_
  refine lv_iconst (v := 1) hx hb dX6_finishes_2 (by decide) ?_
  refine lv_aload_n hx hb dX6_finishes_3 rfl (lv_at hl 0 rfl) ?_
  refine va_get (D := D) (ci := 6) (v := .int rn) (C := RX6) (T := TX6) (N := 14) hx hb hts hi6 hown hK hP 0 rfl rfl 3 (by decide) (hts (.fieldLink RX6 16 "BootstayModel" "running" "I") (by decide +kernel)) (fun _ h9 => h9) rfl dX6_finishes_4 ?_
  refine lv_isub hx hb dX6_finishes_7 ?_
  refine lv_imul hx hb dX6_finishes_8 ?_
  refine lv_istore_n (lv' := [(2, .int (29 * (1 - rn))), (0, .ref mo), (1, .int p0)]) hx hb dX6_finishes_9 rfl hl (by decide) rfl (fun ls hl => ?_)
  refine lv_aload_n hx hb dX6_finishes_10 rfl (lv_at hl 1 rfl) ?_
  refine lv_iload_n hx hb dX6_finishes_11 rfl (lv_at hl 0 rfl) ?_
  refine lv_iconst (v := 1) hx hb dX6_finishes_12 (by decide) ?_
  refine lv_iadd hx hb dX6_finishes_13 ?_
  refine lv_aload_n hx hb dX6_finishes_14 rfl (lv_at hl 1 rfl) ?_
  refine va_get (D := D) (ci := 6) (v := .int nv) (C := RX6) (T := TX6) (N := 14) hx hb hts hi6 hown hK hP 0 rfl rfl 6 (by decide) (hts (.fieldLink RX6 100 "BootstayModel" "newVersion" "I") (by decide +kernel)) (fun _ h9 => h9) rfl dX6_finishes_15 ?_
  refine bx_wi (wc := [(mo, .inr (6, [.ref fa, .ref ka, .int on, .int rn, .int lf, .int wt, .int nv, .int nl, .int nh, .int nc, .int cm, .ref da, .int dn, .int la])), (fa, .inl (cA, 66, .inl fl)), (ka, .inl (cA, 66, .inl kp)), (da, .inl (cA, 24, .inl dr))]) (wr := []) (wf := fun (u : (Nat → Int32) × (Int32) × (Int32) × (Int32) × (Int32) × (Int32)) => [(mo, .inr (6, [.ref fa, .ref ka, .int u.2.1, .int u.2.2.1, .int u.2.2.2.1, .int u.2.2.2.2.1, .int nv, .int nl, .int nh, .int nc, .int u.2.2.2.2.2, .ref da, .int dn, .int la])), (fa, .inl (cA, 66, .inl u.1)), (ka, .inl (cA, 66, .inl kp)), (da, .inl (cA, 24, .inl dr))]) (wn := fun (u : (Nat → Int32) × (Int32) × (Int32) × (Int32) × (Int32) × (Int32)) => [(mo, .inr (6, [.ref fa, .ref ka, .int u.2.1, .int u.2.2.1, .int u.2.2.2.1, .int u.2.2.2.2.1, .int nv, .int nl, .int nh, .int nc, .int u.2.2.2.2.2, .ref da, .int dn, .int la])), (fa, .inl (cA, 66, .inl u.1)), (ka, .inl (cA, 66, .inl kp)), (da, .inl (cA, 24, .inl dr))]) hP hD hS hA [0, 1, 2, 3] [] [0, 1, 2, 3] rfl rfl (by decide) (by decide) (fun u => rfl) (by decide) (va_runV (As := [.int ((29 * (1 - rn)) + 1), .int nv]) (rest := []) ⟨hx, hb, hml, hown, hts⟩ (c_X6_lays l D cA mo fa ka da s.heap.size fl kp on rn lf wt nv nl nh nc cm dr dn la ((29 * (1 - rn)) + 1) nv (vp_in_iff.mpr (by rcases (sl_not hrs) with h | h <;> rw [h] <;> decide))) (cwV 2 hts gX6_finishes_X6_lays rfl rfl rfl (by decide +kernel) ⟨Nat.le_of_ble_eq_true rfl, Nat.le_of_ble_eq_true rfl⟩) (bx_pv (ci := 6) (q0 := 0) hK hG (hP.sub (ws' := [(mo, .inr (6, [.ref fa, .ref ka, .int on, .int rn, .int lf, .int wt, .int nv, .int nl, .int nh, .int nc, .int cm, .ref da, .int dn, .int la])), (fa, .inl (cA, 66, .inl fl)), (ka, .inl (cA, 66, .inl kp)), (da, .inl (cA, 24, .inl dr))]) [0, 1, 2, 3] rfl) (hD.sub (ws' := [(mo, .inr (6, [.ref fa, .ref ka, .int on, .int rn, .int lf, .int wt, .int nv, .int nl, .int nh, .int nc, .int cm, .ref da, .int dn, .int la])), (fa, .inl (cA, 66, .inl fl)), (ka, .inl (cA, 66, .inl kp)), (da, .inl (cA, 24, .inl dr))]) [0, 1, 2, 3] (by decide) rfl) rfl rfl) rfl rfl hl.1 rfl (lv_room (Nat.le_of_ble_eq_true rfl)) dX6_finishes_18 ⟨Nat.zero_le _, Nat.zero_le _⟩) (fun r_3 u_2 H locs h_1 hP hD hS => ?_)
  obtain ⟨fl4, on5, rn6, lf7, wt8, cm9⟩ := u_2
  obtain ⟨h_1, b_10⟩ := h_1
  have hP : va_P D vwCl [(mo, .inr (6, [.ref fa, .ref ka, .int on5, .int rn6, .int lf7, .int wt8, .int nv, .int nl, .int nh, .int nc, .int cm9, .ref da, .int dn, .int la])), (fa, .inl (cA, 66, .inl fl4)), (ka, .inl (cA, 66, .inl kp)), (da, .inl (cA, 24, .inl dr))] H := hP
  have hD : va_D A [(mo, .inr (6, [.ref fa, .ref ka, .int on5, .int rn6, .int lf7, .int wt8, .int nv, .int nl, .int nh, .int nc, .int cm9, .ref da, .int dn, .int la])), (fa, .inl (cA, 66, .inl fl4)), (ka, .inl (cA, 66, .inl kp)), (da, .inl (cA, 24, .inl dr))] := hD
  refine lv_if_eq (tgt := 81) hx hb dX6_finishes_21 (by decide) (fun c_11 => ?_) (fun c_11 => ?_)
  · skip
    refine lv_iconst (v := 0) hx hb dX6_finishes_81 (by decide) ?_
    refine lv_istore_n (lv' := [(3, .int 0), (2, .int (29 * (1 - rn))), (0, .ref mo), (1, .int p0)]) hx hb dX6_finishes_82 rfl hl (by decide) rfl (fun ls hl => ?_)
    refine lv_iload_n hx hb dX6_finishes_83 rfl (lv_at hl 0 rfl) ?_
    refine lv_if_eq (tgt := 113) hx hb dX6_finishes_84 (by decide) (fun c_12 => ?_) (fun c_12 => ?_)
    · skip
      refine lv_iconst (v := 0) hx hb dX6_finishes_113 (by decide) ?_
      exact W.zret (v := 0) hx hb hr rfl (fun t ht hW => ⟨⟨0, (fl4, on5, rn6, lf7, wt8, cm9), rfl, ⟨(by simp only [F_X6_finishes, if_pos c_11, if_pos c_12, ← h_1]), (by decide)⟩, ⟨by rw [ht]; exact hP, hD⟩⟩, hS.F ht⟩) hS.2.2 dX6_finishes_114
    · skip
      exact absurd (by decide) c_12
  · skip
    refine lv_aload_n hx hb dX6_finishes_24 rfl (lv_at hl 1 rfl) ?_
    refine lv_iload_n hx hb dX6_finishes_25 rfl (lv_at hl 0 rfl) ?_
    refine lv_iconst (v := 2) hx hb dX6_finishes_26 (by decide) ?_
    refine lv_iadd hx hb dX6_finishes_27 ?_
    refine lv_aload_n hx hb dX6_finishes_28 rfl (lv_at hl 1 rfl) ?_
    refine va_get (D := D) (ci := 6) (v := .int nl) (C := RX6) (T := TX6) (N := 14) hx hb hts hi6 hown hK hP 0 rfl rfl 7 (by decide) (hts (.fieldLink RX6 103 "BootstayModel" "newLength" "I") (by decide +kernel)) (fun _ h9 => h9) rfl dX6_finishes_29 ?_
    refine bx_wi (wc := [(mo, .inr (6, [.ref fa, .ref ka, .int on5, .int rn6, .int lf7, .int wt8, .int nv, .int nl, .int nh, .int nc, .int cm9, .ref da, .int dn, .int la])), (fa, .inl (cA, 66, .inl fl4)), (ka, .inl (cA, 66, .inl kp)), (da, .inl (cA, 24, .inl dr))]) (wr := []) (wf := fun (u : (Nat → Int32) × (Int32) × (Int32) × (Int32) × (Int32) × (Int32)) => [(mo, .inr (6, [.ref fa, .ref ka, .int u.2.1, .int u.2.2.1, .int u.2.2.2.1, .int u.2.2.2.2.1, .int nv, .int nl, .int nh, .int nc, .int u.2.2.2.2.2, .ref da, .int dn, .int la])), (fa, .inl (cA, 66, .inl u.1)), (ka, .inl (cA, 66, .inl kp)), (da, .inl (cA, 24, .inl dr))]) (wn := fun (u : (Nat → Int32) × (Int32) × (Int32) × (Int32) × (Int32) × (Int32)) => [(mo, .inr (6, [.ref fa, .ref ka, .int u.2.1, .int u.2.2.1, .int u.2.2.2.1, .int u.2.2.2.2.1, .int nv, .int nl, .int nh, .int nc, .int u.2.2.2.2.2, .ref da, .int dn, .int la])), (fa, .inl (cA, 66, .inl u.1)), (ka, .inl (cA, 66, .inl kp)), (da, .inl (cA, 24, .inl dr))]) hP hD hS hA [0, 1, 2, 3] [] [0, 1, 2, 3] rfl rfl (by decide) (by decide) (fun u => rfl) (by decide) (va_runV (As := [.int ((29 * (1 - rn)) + 2), .int nl]) (rest := []) ⟨hx, hb, hml, hown, hts⟩ (c_X6_lays l D cA mo fa ka da H.size fl4 kp on5 rn6 lf7 wt8 nv nl nh nc cm9 dr dn la ((29 * (1 - rn)) + 2) nl (vp_in_iff.mpr (by rcases (sl_not hrs) with h | h <;> rw [h] <;> decide))) (cwV 2 hts gX6_finishes_X6_lays rfl rfl rfl (by decide +kernel) ⟨Nat.le_of_ble_eq_true rfl, Nat.le_of_ble_eq_true rfl⟩) (bx_pv (ci := 6) (q0 := 0) hK hG (hP.sub (ws' := [(mo, .inr (6, [.ref fa, .ref ka, .int on5, .int rn6, .int lf7, .int wt8, .int nv, .int nl, .int nh, .int nc, .int cm9, .ref da, .int dn, .int la])), (fa, .inl (cA, 66, .inl fl4)), (ka, .inl (cA, 66, .inl kp)), (da, .inl (cA, 24, .inl dr))]) [0, 1, 2, 3] rfl) (hD.sub (ws' := [(mo, .inr (6, [.ref fa, .ref ka, .int on5, .int rn6, .int lf7, .int wt8, .int nv, .int nl, .int nh, .int nc, .int cm9, .ref da, .int dn, .int la])), (fa, .inl (cA, 66, .inl fl4)), (ka, .inl (cA, 66, .inl kp)), (da, .inl (cA, 24, .inl dr))]) [0, 1, 2, 3] (by decide) rfl) rfl rfl) rfl rfl hl.1 rfl (lv_room (Nat.le_of_ble_eq_true rfl)) dX6_finishes_32 ⟨Nat.zero_le _, Nat.zero_le _⟩) (fun r_15 u_14 H locs h_13 hP hD hS => ?_)
    obtain ⟨fl16, on17, rn18, lf19, wt20, cm21⟩ := u_14
    obtain ⟨h_13, b_22⟩ := h_13
    have hP : va_P D vwCl [(mo, .inr (6, [.ref fa, .ref ka, .int on17, .int rn18, .int lf19, .int wt20, .int nv, .int nl, .int nh, .int nc, .int cm21, .ref da, .int dn, .int la])), (fa, .inl (cA, 66, .inl fl16)), (ka, .inl (cA, 66, .inl kp)), (da, .inl (cA, 24, .inl dr))] H := hP
    have hD : va_D A [(mo, .inr (6, [.ref fa, .ref ka, .int on17, .int rn18, .int lf19, .int wt20, .int nv, .int nl, .int nh, .int nc, .int cm21, .ref da, .int dn, .int la])), (fa, .inl (cA, 66, .inl fl16)), (ka, .inl (cA, 66, .inl kp)), (da, .inl (cA, 24, .inl dr))] := hD
    refine lv_if_eq (tgt := 81) hx hb dX6_finishes_35 (by decide) (fun c_23 => ?_) (fun c_23 => ?_)
    · skip
      refine lv_iconst (v := 0) hx hb dX6_finishes_81 (by decide) ?_
      refine lv_istore_n (lv' := [(3, .int 0), (2, .int (29 * (1 - rn))), (0, .ref mo), (1, .int p0)]) hx hb dX6_finishes_82 rfl hl (by decide) rfl (fun ls hl => ?_)
      refine lv_iload_n hx hb dX6_finishes_83 rfl (lv_at hl 0 rfl) ?_
      refine lv_if_eq (tgt := 113) hx hb dX6_finishes_84 (by decide) (fun c_24 => ?_) (fun c_24 => ?_)
      · skip
        refine lv_iconst (v := 0) hx hb dX6_finishes_113 (by decide) ?_
        exact W.zret (v := 0) hx hb hr rfl (fun t ht hW => ⟨⟨0, (fl16, on17, rn18, lf19, wt20, cm21), rfl, ⟨(by simp only [F_X6_finishes, if_neg c_11, if_pos c_23, if_pos c_24, ← h_1, ← h_13]), (by decide)⟩, ⟨by rw [ht]; exact hP, hD⟩⟩, hS.F ht⟩) hS.2.2 dX6_finishes_114
      · skip
        exact absurd (by decide) c_24
    · skip
      refine lv_aload_n hx hb dX6_finishes_38 rfl (lv_at hl 1 rfl) ?_
      refine lv_iload_n hx hb dX6_finishes_39 rfl (lv_at hl 0 rfl) ?_
      refine lv_iconst (v := 3) hx hb dX6_finishes_40 (by decide) ?_
      refine lv_iadd hx hb dX6_finishes_41 ?_
      refine lv_aload_n hx hb dX6_finishes_42 rfl (lv_at hl 1 rfl) ?_
      refine va_get (D := D) (ci := 6) (v := .int nh) (C := RX6) (T := TX6) (N := 14) hx hb hts hi6 hown hK hP 0 rfl rfl 8 (by decide) (hts (.fieldLink RX6 106 "BootstayModel" "newHash" "I") (by decide +kernel)) (fun _ h9 => h9) rfl dX6_finishes_43 ?_
      refine bx_wi (wc := [(mo, .inr (6, [.ref fa, .ref ka, .int on17, .int rn18, .int lf19, .int wt20, .int nv, .int nl, .int nh, .int nc, .int cm21, .ref da, .int dn, .int la])), (fa, .inl (cA, 66, .inl fl16)), (ka, .inl (cA, 66, .inl kp)), (da, .inl (cA, 24, .inl dr))]) (wr := []) (wf := fun (u : (Nat → Int32) × (Int32) × (Int32) × (Int32) × (Int32) × (Int32)) => [(mo, .inr (6, [.ref fa, .ref ka, .int u.2.1, .int u.2.2.1, .int u.2.2.2.1, .int u.2.2.2.2.1, .int nv, .int nl, .int nh, .int nc, .int u.2.2.2.2.2, .ref da, .int dn, .int la])), (fa, .inl (cA, 66, .inl u.1)), (ka, .inl (cA, 66, .inl kp)), (da, .inl (cA, 24, .inl dr))]) (wn := fun (u : (Nat → Int32) × (Int32) × (Int32) × (Int32) × (Int32) × (Int32)) => [(mo, .inr (6, [.ref fa, .ref ka, .int u.2.1, .int u.2.2.1, .int u.2.2.2.1, .int u.2.2.2.2.1, .int nv, .int nl, .int nh, .int nc, .int u.2.2.2.2.2, .ref da, .int dn, .int la])), (fa, .inl (cA, 66, .inl u.1)), (ka, .inl (cA, 66, .inl kp)), (da, .inl (cA, 24, .inl dr))]) hP hD hS hA [0, 1, 2, 3] [] [0, 1, 2, 3] rfl rfl (by decide) (by decide) (fun u => rfl) (by decide) (va_runV (As := [.int ((29 * (1 - rn)) + 3), .int nh]) (rest := []) ⟨hx, hb, hml, hown, hts⟩ (c_X6_lays l D cA mo fa ka da H.size fl16 kp on17 rn18 lf19 wt20 nv nl nh nc cm21 dr dn la ((29 * (1 - rn)) + 3) nh (vp_in_iff.mpr (by rcases (sl_not hrs) with h | h <;> rw [h] <;> decide))) (cwV 2 hts gX6_finishes_X6_lays rfl rfl rfl (by decide +kernel) ⟨Nat.le_of_ble_eq_true rfl, Nat.le_of_ble_eq_true rfl⟩) (bx_pv (ci := 6) (q0 := 0) hK hG (hP.sub (ws' := [(mo, .inr (6, [.ref fa, .ref ka, .int on17, .int rn18, .int lf19, .int wt20, .int nv, .int nl, .int nh, .int nc, .int cm21, .ref da, .int dn, .int la])), (fa, .inl (cA, 66, .inl fl16)), (ka, .inl (cA, 66, .inl kp)), (da, .inl (cA, 24, .inl dr))]) [0, 1, 2, 3] rfl) (hD.sub (ws' := [(mo, .inr (6, [.ref fa, .ref ka, .int on17, .int rn18, .int lf19, .int wt20, .int nv, .int nl, .int nh, .int nc, .int cm21, .ref da, .int dn, .int la])), (fa, .inl (cA, 66, .inl fl16)), (ka, .inl (cA, 66, .inl kp)), (da, .inl (cA, 24, .inl dr))]) [0, 1, 2, 3] (by decide) rfl) rfl rfl) rfl rfl hl.1 rfl (lv_room (Nat.le_of_ble_eq_true rfl)) dX6_finishes_46 ⟨Nat.zero_le _, Nat.zero_le _⟩) (fun r_27 u_26 H locs h_25 hP hD hS => ?_)
      obtain ⟨fl28, on29, rn30, lf31, wt32, cm33⟩ := u_26
      obtain ⟨h_25, b_34⟩ := h_25
      have hP : va_P D vwCl [(mo, .inr (6, [.ref fa, .ref ka, .int on29, .int rn30, .int lf31, .int wt32, .int nv, .int nl, .int nh, .int nc, .int cm33, .ref da, .int dn, .int la])), (fa, .inl (cA, 66, .inl fl28)), (ka, .inl (cA, 66, .inl kp)), (da, .inl (cA, 24, .inl dr))] H := hP
      have hD : va_D A [(mo, .inr (6, [.ref fa, .ref ka, .int on29, .int rn30, .int lf31, .int wt32, .int nv, .int nl, .int nh, .int nc, .int cm33, .ref da, .int dn, .int la])), (fa, .inl (cA, 66, .inl fl28)), (ka, .inl (cA, 66, .inl kp)), (da, .inl (cA, 24, .inl dr))] := hD
      refine lv_if_eq (tgt := 81) hx hb dX6_finishes_49 (by decide) (fun c_35 => ?_) (fun c_35 => ?_)
      · skip
        refine lv_iconst (v := 0) hx hb dX6_finishes_81 (by decide) ?_
        refine lv_istore_n (lv' := [(3, .int 0), (2, .int (29 * (1 - rn))), (0, .ref mo), (1, .int p0)]) hx hb dX6_finishes_82 rfl hl (by decide) rfl (fun ls hl => ?_)
        refine lv_iload_n hx hb dX6_finishes_83 rfl (lv_at hl 0 rfl) ?_
        refine lv_if_eq (tgt := 113) hx hb dX6_finishes_84 (by decide) (fun c_36 => ?_) (fun c_36 => ?_)
        · skip
          refine lv_iconst (v := 0) hx hb dX6_finishes_113 (by decide) ?_
          exact W.zret (v := 0) hx hb hr rfl (fun t ht hW => ⟨⟨0, (fl28, on29, rn30, lf31, wt32, cm33), rfl, ⟨(by simp only [F_X6_finishes, if_neg c_11, if_neg c_23, if_pos c_35, if_pos c_36, ← h_1, ← h_13, ← h_25]), (by decide)⟩, ⟨by rw [ht]; exact hP, hD⟩⟩, hS.F ht⟩) hS.2.2 dX6_finishes_114
        · skip
          exact absurd (by decide) c_36
      · skip
        refine lv_aload_n hx hb dX6_finishes_52 rfl (lv_at hl 1 rfl) ?_
        refine lv_iload_n hx hb dX6_finishes_53 rfl (lv_at hl 0 rfl) ?_
        refine lv_iconst (v := 4) hx hb dX6_finishes_54 (by decide) ?_
        refine lv_iadd hx hb dX6_finishes_55 ?_
        refine lv_aload_n hx hb dX6_finishes_56 rfl (lv_at hl 1 rfl) ?_
        refine va_get (D := D) (ci := 6) (v := .int nc) (C := RX6) (T := TX6) (N := 14) hx hb hts hi6 hown hK hP 0 rfl rfl 9 (by decide) (hts (.fieldLink RX6 109 "BootstayModel" "newCounter" "I") (by decide +kernel)) (fun _ h9 => h9) rfl dX6_finishes_57 ?_
        refine bx_wi (wc := [(mo, .inr (6, [.ref fa, .ref ka, .int on29, .int rn30, .int lf31, .int wt32, .int nv, .int nl, .int nh, .int nc, .int cm33, .ref da, .int dn, .int la])), (fa, .inl (cA, 66, .inl fl28)), (ka, .inl (cA, 66, .inl kp)), (da, .inl (cA, 24, .inl dr))]) (wr := []) (wf := fun (u : (Nat → Int32) × (Int32) × (Int32) × (Int32) × (Int32) × (Int32)) => [(mo, .inr (6, [.ref fa, .ref ka, .int u.2.1, .int u.2.2.1, .int u.2.2.2.1, .int u.2.2.2.2.1, .int nv, .int nl, .int nh, .int nc, .int u.2.2.2.2.2, .ref da, .int dn, .int la])), (fa, .inl (cA, 66, .inl u.1)), (ka, .inl (cA, 66, .inl kp)), (da, .inl (cA, 24, .inl dr))]) (wn := fun (u : (Nat → Int32) × (Int32) × (Int32) × (Int32) × (Int32) × (Int32)) => [(mo, .inr (6, [.ref fa, .ref ka, .int u.2.1, .int u.2.2.1, .int u.2.2.2.1, .int u.2.2.2.2.1, .int nv, .int nl, .int nh, .int nc, .int u.2.2.2.2.2, .ref da, .int dn, .int la])), (fa, .inl (cA, 66, .inl u.1)), (ka, .inl (cA, 66, .inl kp)), (da, .inl (cA, 24, .inl dr))]) hP hD hS hA [0, 1, 2, 3] [] [0, 1, 2, 3] rfl rfl (by decide) (by decide) (fun u => rfl) (by decide) (va_runV (As := [.int ((29 * (1 - rn)) + 4), .int nc]) (rest := []) ⟨hx, hb, hml, hown, hts⟩ (c_X6_lays l D cA mo fa ka da H.size fl28 kp on29 rn30 lf31 wt32 nv nl nh nc cm33 dr dn la ((29 * (1 - rn)) + 4) nc (vp_in_iff.mpr (by rcases (sl_not hrs) with h | h <;> rw [h] <;> decide))) (cwV 2 hts gX6_finishes_X6_lays rfl rfl rfl (by decide +kernel) ⟨Nat.le_of_ble_eq_true rfl, Nat.le_of_ble_eq_true rfl⟩) (bx_pv (ci := 6) (q0 := 0) hK hG (hP.sub (ws' := [(mo, .inr (6, [.ref fa, .ref ka, .int on29, .int rn30, .int lf31, .int wt32, .int nv, .int nl, .int nh, .int nc, .int cm33, .ref da, .int dn, .int la])), (fa, .inl (cA, 66, .inl fl28)), (ka, .inl (cA, 66, .inl kp)), (da, .inl (cA, 24, .inl dr))]) [0, 1, 2, 3] rfl) (hD.sub (ws' := [(mo, .inr (6, [.ref fa, .ref ka, .int on29, .int rn30, .int lf31, .int wt32, .int nv, .int nl, .int nh, .int nc, .int cm33, .ref da, .int dn, .int la])), (fa, .inl (cA, 66, .inl fl28)), (ka, .inl (cA, 66, .inl kp)), (da, .inl (cA, 24, .inl dr))]) [0, 1, 2, 3] (by decide) rfl) rfl rfl) rfl rfl hl.1 rfl (lv_room (Nat.le_of_ble_eq_true rfl)) dX6_finishes_60 ⟨Nat.zero_le _, Nat.zero_le _⟩) (fun r_39 u_38 H locs h_37 hP hD hS => ?_)
        obtain ⟨fl40, on41, rn42, lf43, wt44, cm45⟩ := u_38
        obtain ⟨h_37, b_46⟩ := h_37
        have hP : va_P D vwCl [(mo, .inr (6, [.ref fa, .ref ka, .int on41, .int rn42, .int lf43, .int wt44, .int nv, .int nl, .int nh, .int nc, .int cm45, .ref da, .int dn, .int la])), (fa, .inl (cA, 66, .inl fl40)), (ka, .inl (cA, 66, .inl kp)), (da, .inl (cA, 24, .inl dr))] H := hP
        have hD : va_D A [(mo, .inr (6, [.ref fa, .ref ka, .int on41, .int rn42, .int lf43, .int wt44, .int nv, .int nl, .int nh, .int nc, .int cm45, .ref da, .int dn, .int la])), (fa, .inl (cA, 66, .inl fl40)), (ka, .inl (cA, 66, .inl kp)), (da, .inl (cA, 24, .inl dr))] := hD
        refine lv_if_eq (tgt := 81) hx hb dX6_finishes_63 (by decide) (fun c_47 => ?_) (fun c_47 => ?_)
        · skip
          refine lv_iconst (v := 0) hx hb dX6_finishes_81 (by decide) ?_
          refine lv_istore_n (lv' := [(3, .int 0), (2, .int (29 * (1 - rn))), (0, .ref mo), (1, .int p0)]) hx hb dX6_finishes_82 rfl hl (by decide) rfl (fun ls hl => ?_)
          refine lv_iload_n hx hb dX6_finishes_83 rfl (lv_at hl 0 rfl) ?_
          refine lv_if_eq (tgt := 113) hx hb dX6_finishes_84 (by decide) (fun c_48 => ?_) (fun c_48 => ?_)
          · skip
            refine lv_iconst (v := 0) hx hb dX6_finishes_113 (by decide) ?_
            exact W.zret (v := 0) hx hb hr rfl (fun t ht hW => ⟨⟨0, (fl40, on41, rn42, lf43, wt44, cm45), rfl, ⟨(by simp only [F_X6_finishes, if_neg c_11, if_neg c_23, if_neg c_35, if_pos c_47, if_pos c_48, ← h_1, ← h_13, ← h_25, ← h_37]), (by decide)⟩, ⟨by rw [ht]; exact hP, hD⟩⟩, hS.F ht⟩) hS.2.2 dX6_finishes_114
          · skip
            exact absurd (by decide) c_48
        · skip
          refine lv_aload_n hx hb dX6_finishes_66 rfl (lv_at hl 1 rfl) ?_
          refine lv_iload_n hx hb dX6_finishes_67 rfl (lv_at hl 0 rfl) ?_
          refine lv_iconst (v := 0) hx hb dX6_finishes_68 (by decide) ?_
          refine lv_iadd hx hb dX6_finishes_69 ?_
          refine lv_iconst (v := 1) hx hb dX6_finishes_70 (by decide) ?_
          refine bx_wi (wc := [(mo, .inr (6, [.ref fa, .ref ka, .int on41, .int rn42, .int lf43, .int wt44, .int nv, .int nl, .int nh, .int nc, .int cm45, .ref da, .int dn, .int la])), (fa, .inl (cA, 66, .inl fl40)), (ka, .inl (cA, 66, .inl kp)), (da, .inl (cA, 24, .inl dr))]) (wr := []) (wf := fun (u : (Nat → Int32) × (Int32) × (Int32) × (Int32) × (Int32) × (Int32)) => [(mo, .inr (6, [.ref fa, .ref ka, .int u.2.1, .int u.2.2.1, .int u.2.2.2.1, .int u.2.2.2.2.1, .int nv, .int nl, .int nh, .int nc, .int u.2.2.2.2.2, .ref da, .int dn, .int la])), (fa, .inl (cA, 66, .inl u.1)), (ka, .inl (cA, 66, .inl kp)), (da, .inl (cA, 24, .inl dr))]) (wn := fun (u : (Nat → Int32) × (Int32) × (Int32) × (Int32) × (Int32) × (Int32)) => [(mo, .inr (6, [.ref fa, .ref ka, .int u.2.1, .int u.2.2.1, .int u.2.2.2.1, .int u.2.2.2.2.1, .int nv, .int nl, .int nh, .int nc, .int u.2.2.2.2.2, .ref da, .int dn, .int la])), (fa, .inl (cA, 66, .inl u.1)), (ka, .inl (cA, 66, .inl kp)), (da, .inl (cA, 24, .inl dr))]) hP hD hS hA [0, 1, 2, 3] [] [0, 1, 2, 3] rfl rfl (by decide) (by decide) (fun u => rfl) (by decide) (va_runV (As := [.int ((29 * (1 - rn)) + 0), .int 1]) (rest := []) ⟨hx, hb, hml, hown, hts⟩ (c_X6_lays l D cA mo fa ka da H.size fl40 kp on41 rn42 lf43 wt44 nv nl nh nc cm45 dr dn la ((29 * (1 - rn)) + 0) 1 (vp_in_iff.mpr (by rcases (sl_not hrs) with h | h <;> rw [h] <;> decide))) (cwV 2 hts gX6_finishes_X6_lays rfl rfl rfl (by decide +kernel) ⟨Nat.le_of_ble_eq_true rfl, Nat.le_of_ble_eq_true rfl⟩) (bx_pv (ci := 6) (q0 := 0) hK hG (hP.sub (ws' := [(mo, .inr (6, [.ref fa, .ref ka, .int on41, .int rn42, .int lf43, .int wt44, .int nv, .int nl, .int nh, .int nc, .int cm45, .ref da, .int dn, .int la])), (fa, .inl (cA, 66, .inl fl40)), (ka, .inl (cA, 66, .inl kp)), (da, .inl (cA, 24, .inl dr))]) [0, 1, 2, 3] rfl) (hD.sub (ws' := [(mo, .inr (6, [.ref fa, .ref ka, .int on41, .int rn42, .int lf43, .int wt44, .int nv, .int nl, .int nh, .int nc, .int cm45, .ref da, .int dn, .int la])), (fa, .inl (cA, 66, .inl fl40)), (ka, .inl (cA, 66, .inl kp)), (da, .inl (cA, 24, .inl dr))]) [0, 1, 2, 3] (by decide) rfl) rfl rfl) rfl rfl hl.1 rfl (lv_room (Nat.le_of_ble_eq_true rfl)) dX6_finishes_71 ⟨Nat.zero_le _, Nat.zero_le _⟩) (fun r_51 u_50 H locs h_49 hP hD hS => ?_)
          obtain ⟨fl52, on53, rn54, lf55, wt56, cm57⟩ := u_50
          obtain ⟨h_49, b_58⟩ := h_49
          have hP : va_P D vwCl [(mo, .inr (6, [.ref fa, .ref ka, .int on53, .int rn54, .int lf55, .int wt56, .int nv, .int nl, .int nh, .int nc, .int cm57, .ref da, .int dn, .int la])), (fa, .inl (cA, 66, .inl fl52)), (ka, .inl (cA, 66, .inl kp)), (da, .inl (cA, 24, .inl dr))] H := hP
          have hD : va_D A [(mo, .inr (6, [.ref fa, .ref ka, .int on53, .int rn54, .int lf55, .int wt56, .int nv, .int nl, .int nh, .int nc, .int cm57, .ref da, .int dn, .int la])), (fa, .inl (cA, 66, .inl fl52)), (ka, .inl (cA, 66, .inl kp)), (da, .inl (cA, 24, .inl dr))] := hD
          refine lv_if_eq (tgt := 81) hx hb dX6_finishes_74 (by decide) (fun c_59 => ?_) (fun c_59 => ?_)
          · skip
            refine lv_iconst (v := 0) hx hb dX6_finishes_81 (by decide) ?_
            refine lv_istore_n (lv' := [(3, .int 0), (2, .int (29 * (1 - rn))), (0, .ref mo), (1, .int p0)]) hx hb dX6_finishes_82 rfl hl (by decide) rfl (fun ls hl => ?_)
            refine lv_iload_n hx hb dX6_finishes_83 rfl (lv_at hl 0 rfl) ?_
            refine lv_if_eq (tgt := 113) hx hb dX6_finishes_84 (by decide) (fun c_60 => ?_) (fun c_60 => ?_)
            · skip
              refine lv_iconst (v := 0) hx hb dX6_finishes_113 (by decide) ?_
              exact W.zret (v := 0) hx hb hr rfl (fun t ht hW => ⟨⟨0, (fl52, on53, rn54, lf55, wt56, cm57), rfl, ⟨(by simp only [F_X6_finishes, if_neg c_11, if_neg c_23, if_neg c_35, if_neg c_47, if_pos c_59, if_pos c_60, ← h_1, ← h_13, ← h_25, ← h_37, ← h_49]), (by decide)⟩, ⟨by rw [ht]; exact hP, hD⟩⟩, hS.F ht⟩) hS.2.2 dX6_finishes_114
            · skip
              exact absurd (by decide) c_60
          · skip
            refine lv_iconst (v := 1) hx hb dX6_finishes_77 (by decide) ?_
            refine lv_goto (tgt := 82) hx hb dX6_finishes_78 (by decide) ?_
            refine lv_istore_n (lv' := [(3, .int 1), (2, .int (29 * (1 - rn))), (0, .ref mo), (1, .int p0)]) hx hb dX6_finishes_82 rfl hl (by decide) rfl (fun ls hl => ?_)
            refine lv_iload_n hx hb dX6_finishes_83 rfl (lv_at hl 0 rfl) ?_
            refine lv_if_eq (tgt := 113) hx hb dX6_finishes_84 (by decide) (fun c_61 => ?_) (fun c_61 => ?_)
            · skip
              exact absurd c_61 (by decide)
            · skip
              refine lv_aload_n hx hb dX6_finishes_87 rfl (lv_at hl 2 rfl) ?_
              refine lv_aload_n hx hb dX6_finishes_88 rfl (lv_at hl 2 rfl) ?_
              refine bx_ri (va_runV (As := []) (rest := [.ref mo]) ⟨hx, hb, hml, hown, hts⟩ (c_X6_confirmedSlot l D cA mo fa ka da fl52 kp on53 rn54 lf55 wt56 nv nl nh nc cm57 dr dn la) (cwV 0 hts gX6_finishes_X6_confirmedSlot rfl rfl rfl (by decide +kernel) ⟨Nat.le_of_ble_eq_true rfl, Nat.le_of_ble_eq_true rfl⟩) (bx_pvr (ci := 6) (q0 := 0) hK hG (hP.sub (ws' := [(mo, .inr (6, [.ref fa, .ref ka, .int on53, .int rn54, .int lf55, .int wt56, .int nv, .int nl, .int nh, .int nc, .int cm57, .ref da, .int dn, .int la])), (fa, .inl (cA, 66, .inl fl52)), (ka, .inl (cA, 66, .inl kp)), (da, .inl (cA, 24, .inl dr))]) [0, 1, 2, 3] rfl) rfl rfl) rfl rfl hl.1 rfl (lv_room (Nat.le_of_ble_eq_true rfl)) dX6_finishes_89 ⟨Nat.zero_le _, Nat.zero_le _⟩) (fun r_62 h_63 => ?_)
              have h_63 := h_63.symm
              subst h_63
              refine lv_iconst (v := 2) hx hb dX6_finishes_92 (by decide) ?_
              refine lv_iadd hx hb dX6_finishes_93 ?_
              refine lv_iconst (v := 4) hx hb dX6_finishes_94 (by decide) ?_
              refine lv_iload_n hx hb dX6_finishes_95 rfl (lv_at hl 3 rfl) ?_
              refine lv_imul hx hb dX6_finishes_96 ?_
              refine lv_iadd hx hb dX6_finishes_97 ?_
              refine lv_aload_n hx hb dX6_finishes_98 rfl (lv_at hl 2 rfl) ?_
              refine lv_iconst (v := 3) hx hb dX6_finishes_99 (by decide) ?_
              refine bx_ri (va_runV (As := [.int 3]) (rest := [.int (((F_X6_confirmedSlot fl52) + 2) + (4 * p0)), .ref mo]) ⟨hx, hb, hml, hown, hts⟩ (c_X6_inForce l D cA mo fa ka da fl52 kp on53 rn54 lf55 wt56 nv nl nh nc cm57 dr dn la 3 (by decide)) (cwV 1 hts gX6_finishes_X6_inForce rfl rfl rfl (by decide +kernel) ⟨Nat.le_of_ble_eq_true rfl, Nat.le_of_ble_eq_true rfl⟩) (bx_pvr (ci := 6) (q0 := 0) hK hG (hP.sub (ws' := [(mo, .inr (6, [.ref fa, .ref ka, .int on53, .int rn54, .int lf55, .int wt56, .int nv, .int nl, .int nh, .int nc, .int cm57, .ref da, .int dn, .int la])), (fa, .inl (cA, 66, .inl fl52)), (ka, .inl (cA, 66, .inl kp)), (da, .inl (cA, 24, .inl dr))]) [0, 1, 2, 3] rfl) rfl rfl) rfl rfl hl.1 rfl (lv_room (Nat.le_of_ble_eq_true rfl)) dX6_finishes_100 ⟨Nat.zero_le _, Nat.zero_le _⟩) (fun r_64 h_65 => ?_)
              have h_65 := h_65.symm
              subst h_65
              refine bx_wi (wc := [(mo, .inr (6, [.ref fa, .ref ka, .int on53, .int rn54, .int lf55, .int wt56, .int nv, .int nl, .int nh, .int nc, .int cm57, .ref da, .int dn, .int la])), (fa, .inl (cA, 66, .inl fl52)), (ka, .inl (cA, 66, .inl kp)), (da, .inl (cA, 24, .inl dr))]) (wr := []) (wf := fun (u : (Nat → Int32) × (Int32) × (Int32) × (Int32) × (Int32) × (Int32)) => [(mo, .inr (6, [.ref fa, .ref ka, .int u.2.1, .int u.2.2.1, .int u.2.2.2.1, .int u.2.2.2.2.1, .int nv, .int nl, .int nh, .int nc, .int u.2.2.2.2.2, .ref da, .int dn, .int la])), (fa, .inl (cA, 66, .inl u.1)), (ka, .inl (cA, 66, .inl kp)), (da, .inl (cA, 24, .inl dr))]) (wn := fun (u : (Nat → Int32) × (Int32) × (Int32) × (Int32) × (Int32) × (Int32)) => [(mo, .inr (6, [.ref fa, .ref ka, .int u.2.1, .int u.2.2.1, .int u.2.2.2.1, .int u.2.2.2.2.1, .int nv, .int nl, .int nh, .int nc, .int u.2.2.2.2.2, .ref da, .int dn, .int la])), (fa, .inl (cA, 66, .inl u.1)), (ka, .inl (cA, 66, .inl kp)), (da, .inl (cA, 24, .inl dr))]) hP hD hS hA [0, 1, 2, 3] [] [0, 1, 2, 3] rfl rfl (by decide) (by decide) (fun u => rfl) (by decide) (va_runV (As := [.int (((F_X6_confirmedSlot fl52) + 2) + (4 * p0)), .int (F_X6_inForce fl52 3)]) (rest := []) ⟨hx, hb, hml, hown, hts⟩ (c_X6_records l D cA mo fa ka da H.size fl52 kp on53 rn54 lf55 wt56 nv nl nh nc cm57 dr dn la (((F_X6_confirmedSlot fl52) + 2) + (4 * p0)) (F_X6_inForce fl52 3)) (cwV 2 hts gX6_finishes_X6_records rfl rfl rfl (by decide +kernel) ⟨Nat.le_of_ble_eq_true rfl, Nat.le_of_ble_eq_true rfl⟩) (bx_pv (ci := 6) (q0 := 0) hK hG (hP.sub (ws' := [(mo, .inr (6, [.ref fa, .ref ka, .int on53, .int rn54, .int lf55, .int wt56, .int nv, .int nl, .int nh, .int nc, .int cm57, .ref da, .int dn, .int la])), (fa, .inl (cA, 66, .inl fl52)), (ka, .inl (cA, 66, .inl kp)), (da, .inl (cA, 24, .inl dr))]) [0, 1, 2, 3] rfl) (hD.sub (ws' := [(mo, .inr (6, [.ref fa, .ref ka, .int on53, .int rn54, .int lf55, .int wt56, .int nv, .int nl, .int nh, .int nc, .int cm57, .ref da, .int dn, .int la])), (fa, .inl (cA, 66, .inl fl52)), (ka, .inl (cA, 66, .inl kp)), (da, .inl (cA, 24, .inl dr))]) [0, 1, 2, 3] (by decide) rfl) rfl rfl) rfl rfl hl.1 rfl (lv_room (Nat.le_of_ble_eq_true rfl)) dX6_finishes_103 ⟨Nat.zero_le _, Nat.zero_le _⟩) (fun r_68 u_67 H locs h_66 hP hD hS => ?_)
              obtain ⟨fl69, on70, rn71, lf72, wt73, cm74⟩ := u_67
              obtain ⟨h_66, b_75⟩ := h_66
              have hP : va_P D vwCl [(mo, .inr (6, [.ref fa, .ref ka, .int on70, .int rn71, .int lf72, .int wt73, .int nv, .int nl, .int nh, .int nc, .int cm74, .ref da, .int dn, .int la])), (fa, .inl (cA, 66, .inl fl69)), (ka, .inl (cA, 66, .inl kp)), (da, .inl (cA, 24, .inl dr))] H := hP
              have hD : va_D A [(mo, .inr (6, [.ref fa, .ref ka, .int on70, .int rn71, .int lf72, .int wt73, .int nv, .int nl, .int nh, .int nc, .int cm74, .ref da, .int dn, .int la])), (fa, .inl (cA, 66, .inl fl69)), (ka, .inl (cA, 66, .inl kp)), (da, .inl (cA, 24, .inl dr))] := hD
              refine lv_if_eq (tgt := 113) hx hb dX6_finishes_106 (by decide) (fun c_76 => ?_) (fun c_76 => ?_)
              · skip
                refine lv_iconst (v := 0) hx hb dX6_finishes_113 (by decide) ?_
                exact W.zret (v := 0) hx hb hr rfl (fun t ht hW => ⟨⟨0, (fl69, on70, rn71, lf72, wt73, cm74), rfl, ⟨(by simp only [F_X6_finishes, if_neg c_11, if_neg c_23, if_neg c_35, if_neg c_47, if_neg c_59, if_neg c_61, if_pos c_76, ← h_1, ← h_13, ← h_25, ← h_37, ← h_49, ← h_66]), (by decide)⟩, ⟨by rw [ht]; exact hP, hD⟩⟩, hS.F ht⟩) hS.2.2 dX6_finishes_114
              · skip
                refine lv_iconst (v := 1) hx hb dX6_finishes_109 (by decide) ?_
                refine lv_goto (tgt := 114) hx hb dX6_finishes_110 (by decide) ?_
                exact W.zret (v := 1) hx hb hr rfl (fun t ht hW => ⟨⟨1, (fl69, on70, rn71, lf72, wt73, cm74), rfl, ⟨(by simp only [F_X6_finishes, if_neg c_11, if_neg c_23, if_neg c_35, if_neg c_47, if_neg c_59, if_neg c_61, if_neg c_76, ← h_1, ← h_13, ← h_25, ← h_37, ← h_49, ← h_66]), (by decide)⟩, ⟨by rw [ht]; exact hP, hD⟩⟩, hS.F ht⟩) hS.2.2 dX6_finishes_114
def F_X6_isSlot (p0 : Int32) : Int32 := (F_X6_in p0 0 1)
set_option maxHeartbeats 4000000 in
set_option maxRecDepth 100000 in
theorem c_X6_isSlot (l : Launch) (D : va_G) (cA : ClassId) (mo fa ka da : Nat) (fl : Nat → Int32) (kp : Nat → Int32) (on : Int32) (rn : Int32) (lf : Int32) (wt : Int32) (nv : Int32) (nl : Int32) (nh : Int32) (nc : Int32) (cm : Int32) (dr : Nat → Int32) (dn : Int32) (la : Int32) (p0 : Int32) : Met l yX6_isSlot wsX6_isSlot ({ frames := 1, cells := 0, slots := 0, locals := 22 }) (va_Pc [.ref mo, .int p0] (bx_ro D [(cA, .int)] (wMo cA mo fa ka da fl kp on rn lf wt nv nl nh nc cm dr dn la))) (vp_Si (fun r => r = F_X6_isSlot p0 ∧ (r = 0 ∨ r = 1))) 0 0 (fun _ => False) := by
  refine Met.ofW (cc := cX6_isSlot) (maxL := 2) (ret := (some .boolean)) (by decide) rfl ?_
  intro p e s m args below meth c s₁ B hml hv
  obtain ⟨rfl, hP, hK, hG⟩ := hv
  have hx := B.exec
  have hb := B.bytes
  have hr := B.returns
  have hts := atoms_spec (ws := wsX6_isSlot) B.pre
  have hown : s.vm.findClass RX6 = some m.cls := findClass_of_methodNamed B.named
  have hlocks := B.notSynchronized
  have hP : va_P D vwCl [(mo, .inr (6, [.ref fa, .ref ka, .int on, .int rn, .int lf, .int wt, .int nv, .int nl, .int nh, .int nc, .int cm, .ref da, .int dn, .int la])), (fa, .inl (cA, 66, .inl fl)), (ka, .inl (cA, 66, .inl kp)), (da, .inl (cA, 24, .inl dr))] s.heap := hP
  have hl := lv_entry ([.ref mo, .int p0]) (n := 2) (Nat.le_of_ble_eq_true rfl)
  rw [lg_entry_eq]
  generalize (lg_sl ([.ref mo, .int p0]) ++ List.replicate (2 - (lg_sl ([.ref mo, .int p0])).length) Slot.unset).toArray = ls at hl ⊢
  have hl : lv_has ls 2 [(0, .ref mo), (1, .int p0)] := hl
  refine lv_iload_n hx hb dX6_isSlot_0 rfl (lv_at hl 1 rfl) ?_
  refine lv_iconst (v := 0) hx hb dX6_isSlot_1 (by decide) ?_
  refine lv_iconst (v := 1) hx hb dX6_isSlot_2 (by decide) ?_
  refine bx_ri (va_runS (As := [.int p0, .int 0, .int 1]) (rest := []) ⟨hx, hb, hml, hown, hts⟩ (c_X6_in l D p0 0 1) (va_cwS 3 hts gX6_isSlot_X6_in rfl rfl rfl (by decide +kernel) ⟨Nat.le_of_ble_eq_true rfl, Nat.le_of_ble_eq_true rfl⟩) (bx_psr (hK.sub (tys' := []) [] rfl) hG (hP.sub (ws' := []) [] rfl)) rfl rfl hl.1 rfl (lv_room (Nat.le_of_ble_eq_true rfl)) dX6_isSlot_3 ⟨Nat.zero_le _, Nat.zero_le _⟩) (fun r_1 h_2 => ?_)
  obtain ⟨h_2, b_3⟩ := h_2
  have h_2 := h_2.symm
  subst h_2
  exact W.zret (v := (F_X6_in p0 0 1)) hx hb hr (bx_nb b_3) (fun t ht hW => ⟨(F_X6_in p0 0 1), rfl, ⟨rfl, b_3⟩, ht⟩) (fun _ h => nomatch h) dX6_isSlot_6
def F_X6_nextStart (fl : Nat → Int32) : Int32 := (if (F_X6_willTry fl (F_X6_confirmedSlot fl)) = 0 then (F_X6_confirmedSlot fl) else (1 - (F_X6_confirmedSlot fl)))
set_option maxHeartbeats 4000000 in
set_option maxRecDepth 100000 in
theorem c_X6_nextStart (l : Launch) (D : va_G) (cA : ClassId) (mo fa ka da : Nat) (fl : Nat → Int32) (kp : Nat → Int32) (on : Int32) (rn : Int32) (lf : Int32) (wt : Int32) (nv : Int32) (nl : Int32) (nh : Int32) (nc : Int32) (cm : Int32) (dr : Nat → Int32) (dn : Int32) (la : Int32) (hcs : sl (F_X6_confirmedSlot fl)) : Met l yX6_nextStart wsX6_nextStart ({ frames := 7, cells := 0, slots := 0, locals := 146 }) (va_Pc [.ref mo] (bx_ro D [(cA, .int)] (wMo cA mo fa ka da fl kp on rn lf wt nv nl nh nc cm dr dn la))) (vp_Si (fun r => r = F_X6_nextStart fl)) 0 0 (fun _ => False) := by
  refine Met.ofW (cc := cX6_nextStart) (maxL := 2) (ret := (some .int)) (by decide) rfl ?_
  intro p e s m args below meth c s₁ B hml hv
  obtain ⟨rfl, hP, hK, hG⟩ := hv
  have hx := B.exec
  have hb := B.bytes
  have hr := B.returns
  have hts := atoms_spec (ws := wsX6_nextStart) B.pre
  have hown : s.vm.findClass RX6 = some m.cls := findClass_of_methodNamed B.named
  have hlocks := B.notSynchronized
  have hP : va_P D vwCl [(mo, .inr (6, [.ref fa, .ref ka, .int on, .int rn, .int lf, .int wt, .int nv, .int nl, .int nh, .int nc, .int cm, .ref da, .int dn, .int la])), (fa, .inl (cA, 66, .inl fl)), (ka, .inl (cA, 66, .inl kp)), (da, .inl (cA, 24, .inl dr))] s.heap := hP
  have hl := lv_entry ([.ref mo]) (n := 2) (Nat.le_of_ble_eq_true rfl)
  rw [lg_entry_eq]
  generalize (lg_sl ([.ref mo]) ++ List.replicate (2 - (lg_sl ([.ref mo])).length) Slot.unset).toArray = ls at hl ⊢
  have hl : lv_has ls 2 [(0, .ref mo)] := hl
  refine lv_aload_n hx hb dX6_nextStart_0 rfl (lv_at hl 0 rfl) ?_
  refine bx_ri (va_runV (As := []) (rest := []) ⟨hx, hb, hml, hown, hts⟩ (c_X6_confirmedSlot l D cA mo fa ka da fl kp on rn lf wt nv nl nh nc cm dr dn la) (cwV 0 hts gX6_nextStart_X6_confirmedSlot rfl rfl rfl (by decide +kernel) ⟨Nat.le_of_ble_eq_true rfl, Nat.le_of_ble_eq_true rfl⟩) (bx_pvr (ci := 6) (q0 := 0) hK hG (hP.sub (ws' := [(mo, .inr (6, [.ref fa, .ref ka, .int on, .int rn, .int lf, .int wt, .int nv, .int nl, .int nh, .int nc, .int cm, .ref da, .int dn, .int la])), (fa, .inl (cA, 66, .inl fl)), (ka, .inl (cA, 66, .inl kp)), (da, .inl (cA, 24, .inl dr))]) [0, 1, 2, 3] rfl) rfl rfl) rfl rfl hl.1 rfl (lv_room (Nat.le_of_ble_eq_true rfl)) dX6_nextStart_1 ⟨Nat.zero_le _, Nat.zero_le _⟩) (fun r_1 h_2 => ?_)
  have h_2 := h_2.symm
  subst h_2
  refine lv_istore_n (lv' := [(1, .int (F_X6_confirmedSlot fl)), (0, .ref mo)]) hx hb dX6_nextStart_4 rfl hl (by decide) rfl (fun ls hl => ?_)
  refine lv_aload_n hx hb dX6_nextStart_5 rfl (lv_at hl 1 rfl) ?_
  refine lv_iload_n hx hb dX6_nextStart_6 rfl (lv_at hl 0 rfl) ?_
  refine bx_ri (va_runV (As := [.int (F_X6_confirmedSlot fl)]) (rest := []) ⟨hx, hb, hml, hown, hts⟩ (c_X6_willTry l D cA mo fa ka da fl kp on rn lf wt nv nl nh nc cm dr dn la (F_X6_confirmedSlot fl) hcs) (cwV 1 hts gX6_nextStart_X6_willTry rfl rfl rfl (by decide +kernel) ⟨Nat.le_of_ble_eq_true rfl, Nat.le_of_ble_eq_true rfl⟩) (bx_pvr (ci := 6) (q0 := 0) hK hG (hP.sub (ws' := [(mo, .inr (6, [.ref fa, .ref ka, .int on, .int rn, .int lf, .int wt, .int nv, .int nl, .int nh, .int nc, .int cm, .ref da, .int dn, .int la])), (fa, .inl (cA, 66, .inl fl)), (ka, .inl (cA, 66, .inl kp)), (da, .inl (cA, 24, .inl dr))]) [0, 1, 2, 3] rfl) rfl rfl) rfl rfl hl.1 rfl (lv_room (Nat.le_of_ble_eq_true rfl)) dX6_nextStart_7 ⟨Nat.zero_le _, Nat.zero_le _⟩) (fun r_3 h_4 => ?_)
  obtain ⟨h_4, b_5⟩ := h_4
  have h_4 := h_4.symm
  subst h_4
  refine lv_if_eq (tgt := 19) hx hb dX6_nextStart_10 (by decide) (fun c_6 => ?_) (fun c_6 => ?_)
  · skip
    refine lv_iload_n hx hb dX6_nextStart_19 rfl (lv_at hl 0 rfl) ?_
    exact W.iret (v := (F_X6_confirmedSlot fl)) hx hb hr (fun t ht hW => ⟨(F_X6_confirmedSlot fl), rfl, (by simp only [F_X6_nextStart, if_pos c_6]), ht⟩) (fun _ h => nomatch h) dX6_nextStart_20
  · skip
    refine lv_iconst (v := 1) hx hb dX6_nextStart_13 (by decide) ?_
    refine lv_iload_n hx hb dX6_nextStart_14 rfl (lv_at hl 0 rfl) ?_
    refine lv_isub hx hb dX6_nextStart_15 ?_
    refine lv_goto (tgt := 20) hx hb dX6_nextStart_16 (by decide) ?_
    exact W.iret (v := (1 - (F_X6_confirmedSlot fl))) hx hb hr (fun t ht hW => ⟨(1 - (F_X6_confirmedSlot fl)), rfl, (by simp only [F_X6_nextStart, if_neg c_6]), ht⟩) (fun _ h => nomatch h) dX6_nextStart_20
theorem canFinish_nz {fl : Nat → Int32} {rn nl nh cm : Int32} (h : ¬ F_X6_canFinish fl rn nl nh cm = 0) : ¬ cm < 0 := by
  intro c
  apply h
  unfold F_X6_canFinish
  rw [if_pos c]
theorem trial_on {fl : Nat → Int32} {on rn : Int32} (h : ¬ F_X6_isTrial fl on rn = 0) : ¬ on = 0 := by
  intro c
  apply h
  unfold F_X6_isTrial
  rw [if_pos c]
theorem in_23 {x : Int32} (h : ¬ F_X6_in x 0 23 = 0) : vp_in x 24 := by
  obtain ⟨h1, h2⟩ := in_of h
  have h1 := Int32.le_iff_toInt_le.mp h1
  have h2 := Int32.le_iff_toInt_le.mp h2
  have e0 : (0 : Int32).toInt = 0 := rfl
  have e1 : (23 : Int32).toInt = 23 := rfl
  exact vp_in_iff.mpr ⟨by omega, by omega⟩
