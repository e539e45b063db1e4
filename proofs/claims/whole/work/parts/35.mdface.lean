/-- the lengths of both slots *are* 24 at most -/
def okL (fl : Nat → Int32) : Prop := ∀ z, sl z → (rd fl (29 * z + 2)).toNatClampNeg ≤ 24
theorem isSlot_sl {x : Int32} (h : ¬ F_X6_isSlot x = 0) : sl x := in_sl h
theorem hash_pc {x n : Int32} (h : ¬ F_X6_in x 0 (n - 1) = 0) (hn : ∃ m, n = nI m ∧ m ≤ 24) : x.toNatClampNeg ≤ 24 := by
  obtain ⟨h1, h2⟩ := in_of h
  obtain ⟨m, rfl, hm⟩ := hn
  have h2 := Int32.le_iff_toInt_le.mp h2
  rcases Nat.eq_zero_or_pos m with z | z
  · subst z
    have e0 : (nI 0 - 1).toInt = -1 := by decide
    show x.toInt.toNat ≤ 24
    omega
  · rw [show nI m - 1 = nI (m - 1) from by rw [← nI_pred (m - 1), Nat.sub_add_cancel z], nI_toInt (by omega)] at h2
    show x.toInt.toNat ≤ 24
    omega
theorem pcN_rng (pl : Int32 → Int32) (sz : Int32) : ∀ n st m, ∃ r, pcN pl sz n st (nI m) = nI r ∧ m ≤ r ∧ r ≤ m + n
  | 0, st, m => ⟨m, rfl, Nat.le_refl _, Nat.le_refl _⟩
  | n + 1, st, m => by
    unfold pcN
    split
    · exact ⟨m, rfl, Nat.le_refl _, by omega⟩
    · rw [nI_1]
      obtain ⟨r, h1, h2, h3⟩ := pcN_rng pl sz n (st + pl st) (m + 1)
      exact ⟨r, h1, by omega, by omega⟩
theorem cnt_rng (fl dr : Nat → Int32) (dn p0 : Int32) : ∃ m, F_X6_countPieces fl dr dn p0 = nI m ∧ m ≤ 24 := by
  obtain ⟨r, h1, -, h3⟩ := pcN_rng (fun q => F_X6_pieceLength fl dr dn p0 q) dn 24 0 0
  exact ⟨r, h1, by omega⟩
/-- places of pieces *are* small -/
theorem plN_rng (fl dr : Nat → Int32) (dn p0 : Int32) : ∀ n g, ∃ r, plN (fun q => F_X6_pieceLength fl dr dn p0 q) n (nI g) = nI r ∧ r ≤ g + 25 * n
  | 0, g => ⟨g, rfl, Nat.le_refl _⟩
  | n + 1, g => by
    unfold plN
    obtain ⟨r, e, -, h2⟩ := pl_rng fl dr dn p0 (nI g)
    simp only [e, nI_add]
    obtain ⟨r2, e2, h3⟩ := plN_rng fl dr dn p0 n (g + r)
    exact ⟨r2, e2, by omega⟩
theorem place_rng (fl dr : Nat → Int32) (dn p0 p1 : Int32) (h : p1.toNatClampNeg ≤ 24) : ∃ a, F_X6_placeOf fl dr dn p0 p1 = nI a ∧ a ≤ 1000 := by
  obtain ⟨r, e, h2⟩ := plN_rng fl dr dn p0 p1.toNatClampNeg 0
  exact ⟨r, e, by omega⟩
def F_X6_deltaPieces (fl : Nat → Int32) (dr : Nat → Int32) (dn : Int32) (p0 : Int32) : Int32 × (Int32) := (if (F_X6_isSlot p0) = 0 then (match (F_X6_goes (F_X6_isSlot p0) 0) with | (r_10, u_9) => (0, u_9)) else (if (F_X6_canStart fl p0) = 0 then (match (F_X6_goes (F_X6_isSlot p0) 0) with | (r_20, u_19) => (0, u_19)) else (match (F_X6_goes (F_X6_isSlot p0) 1) with | (r_26, u_25) => (if r_26 = 0 then (0, u_25) else ((F_X6_countPieces fl dr dn p0), u_25)))))
set_option maxHeartbeats 4000000 in
set_option maxRecDepth 100000 in
theorem c_X6_deltaPieces (l : Launch) (D : va_G) (cA : ClassId) (mo fa ka da : Nat) (sz : Nat) (fl : Nat → Int32) (kp : Nat → Int32) (on : Int32) (rn : Int32) (lf : Int32) (wt : Int32) (nv : Int32) (nl : Int32) (nh : Int32) (nc : Int32) (cm : Int32) (dr : Nat → Int32) (dn : Int32) (la : Int32) (p0 : Int32) (hd : dn.toNatClampNeg ≤ 24) (hLL : okL fl) : Met l yX6_deltaPieces wsX6_deltaPieces ({ frames := 4, cells := 0, slots := 0, locals := 94 }) (va_Pc [.ref mo, .int p0] (bx_pre D [(cA, .int)] (wMo cA mo fa ka da fl kp on rn lf wt nv nl nh nc cm dr dn la) sz)) (va_Qi (fun r u => (r, u) = F_X6_deltaPieces fl dr dn p0) (fun u t => bx_at D (wMo cA mo fa ka da fl kp on rn lf wt nv nl nh nc cm dr dn u) (va_A (wMo cA mo fa ka da fl kp on rn lf wt nv nl nh nc cm dr dn la) sz) t) (va_A (wMo cA mo fa ka da fl kp on rn lf wt nv nl nh nc cm dr dn la) sz)) 0 0 (va_A (wMo cA mo fa ka da fl kp on rn lf wt nv nl nh nc cm dr dn la) sz) := by
  refine Met.ofW (cc := cX6_deltaPieces) (maxL := 2) (ret := (some .int)) (by decide) rfl ?_
  intro p e s m args below meth c s₁ B hml hv
  obtain ⟨rfl, hsz, hP, hK, hD0, hG⟩ := hv
  have hx := B.exec
  have hb := B.bytes
  have hr := B.returns
  have hts := atoms_spec (ws := wsX6_deltaPieces) B.pre
  have hown : s.vm.findClass RX6 = some m.cls := findClass_of_methodNamed B.named
  have hlocks := B.notSynchronized
  subst hsz
  have hD := hD0.self (sz := s.heap.size)
  generalize hAe : va_A (wMo cA mo fa ka da fl kp on rn lf wt nv nl nh nc cm dr dn la) s.heap.size = A at hD ⊢
  have hA : ∀ q : Nat, s.heap.size ≤ q → A q := fun q h => by rw [← hAe]; exact Or.inr h
  have hS : va_S A s.heap s.heap [] := va_S.rf
  have hD : va_D A [(mo, .inr (6, [.ref fa, .ref ka, .int on, .int rn, .int lf, .int wt, .int nv, .int nl, .int nh, .int nc, .int cm, .ref da, .int dn, .int la])), (fa, .inl (cA, 66, .inl fl)), (ka, .inl (cA, 66, .inl kp)), (da, .inl (cA, 24, .inl dr))] := hD
  have hP : va_P D vwCl [(mo, .inr (6, [.ref fa, .ref ka, .int on, .int rn, .int lf, .int wt, .int nv, .int nl, .int nh, .int nc, .int cm, .ref da, .int dn, .int la])), (fa, .inl (cA, 66, .inl fl)), (ka, .inl (cA, 66, .inl kp)), (da, .inl (cA, 24, .inl dr))] s.heap := hP
  have hl := lv_entry ([.ref mo, .int p0]) (n := 2) (Nat.le_of_ble_eq_true rfl)
  rw [lg_entry_eq]
  generalize (lg_sl ([.ref mo, .int p0]) ++ List.replicate (2 - (lg_sl ([.ref mo, .int p0])).length) Slot.unset).toArray = ls at hl ⊢
  have hl : lv_has ls 2 [(0, .ref mo), (1, .int p0)] := hl
  refine lv_aload_n hx hb dX6_deltaPieces_0 rfl (lv_at hl 0 rfl) ?_
  refine lv_aload_n hx hb dX6_deltaPieces_1 rfl (lv_at hl 0 rfl) ?_
  refine lv_iload_n hx hb dX6_deltaPieces_2 rfl (lv_at hl 1 rfl) ?_
  refine bx_ri (va_runV (As := [.int p0]) (rest := [.ref mo]) ⟨hx, hb, hml, hown, hts⟩ (c_X6_isSlot l D cA mo fa ka da fl kp on rn lf wt nv nl nh nc cm dr dn la p0) (cwV 1 hts gX6_deltaPieces_X6_isSlot rfl rfl rfl (by decide +kernel) ⟨Nat.le_of_ble_eq_true rfl, Nat.le_of_ble_eq_true rfl⟩) (bx_pvr (ci := 6) (q0 := 0) hK hG (hP.sub (ws' := [(mo, .inr (6, [.ref fa, .ref ka, .int on, .int rn, .int lf, .int wt, .int nv, .int nl, .int nh, .int nc, .int cm, .ref da, .int dn, .int la])), (fa, .inl (cA, 66, .inl fl)), (ka, .inl (cA, 66, .inl kp)), (da, .inl (cA, 24, .inl dr))]) [0, 1, 2, 3] rfl) rfl rfl) rfl rfl hl.1 rfl (lv_room (Nat.le_of_ble_eq_true rfl)) dX6_deltaPieces_3 ⟨Nat.zero_le _, Nat.zero_le _⟩) (fun r_1 h_2 => ?_)
  obtain ⟨h_2, b_3⟩ := h_2
  have h_2 := h_2.symm
  subst h_2
  refine lv_aload_n hx hb dX6_deltaPieces_6 rfl (lv_at hl 0 rfl) ?_
  refine lv_iload_n hx hb dX6_deltaPieces_7 rfl (lv_at hl 1 rfl) ?_
  refine bx_ri (va_runV (As := [.int p0]) (rest := [.int (F_X6_isSlot p0), .ref mo]) ⟨hx, hb, hml, hown, hts⟩ (c_X6_isSlot l D cA mo fa ka da fl kp on rn lf wt nv nl nh nc cm dr dn la p0) (cwV 1 hts gX6_deltaPieces_X6_isSlot rfl rfl rfl (by decide +kernel) ⟨Nat.le_of_ble_eq_true rfl, Nat.le_of_ble_eq_true rfl⟩) (bx_pvr (ci := 6) (q0 := 0) hK hG (hP.sub (ws' := [(mo, .inr (6, [.ref fa, .ref ka, .int on, .int rn, .int lf, .int wt, .int nv, .int nl, .int nh, .int nc, .int cm, .ref da, .int dn, .int la])), (fa, .inl (cA, 66, .inl fl)), (ka, .inl (cA, 66, .inl kp)), (da, .inl (cA, 24, .inl dr))]) [0, 1, 2, 3] rfl) rfl rfl) rfl rfl hl.1 rfl (lv_room (Nat.le_of_ble_eq_true rfl)) dX6_deltaPieces_8 ⟨Nat.zero_le _, Nat.zero_le _⟩) (fun r_4 h_5 => ?_)
  obtain ⟨h_5, b_6⟩ := h_5
  have h_5 := h_5.symm
  subst h_5
  refine lv_if_eq (tgt := 26) hx hb dX6_deltaPieces_11 (by decide) (fun c_7 => ?_) (fun c_7 => ?_)
  · skip
    refine lv_iconst (v := 0) hx hb dX6_deltaPieces_26 (by decide) ?_
    refine bx_wi (wc := [(mo, .inr (6, [.ref fa, .ref ka, .int on, .int rn, .int lf, .int wt, .int nv, .int nl, .int nh, .int nc, .int cm, .ref da, .int dn, .int la])), (fa, .inl (cA, 66, .inl fl)), (ka, .inl (cA, 66, .inl kp)), (da, .inl (cA, 24, .inl dr))]) (wr := []) (wf := fun (u : (Int32)) => [(mo, .inr (6, [.ref fa, .ref ka, .int on, .int rn, .int lf, .int wt, .int nv, .int nl, .int nh, .int nc, .int cm, .ref da, .int dn, .int u])), (fa, .inl (cA, 66, .inl fl)), (ka, .inl (cA, 66, .inl kp)), (da, .inl (cA, 24, .inl dr))]) (wn := fun (u : (Int32)) => [(mo, .inr (6, [.ref fa, .ref ka, .int on, .int rn, .int lf, .int wt, .int nv, .int nl, .int nh, .int nc, .int cm, .ref da, .int dn, .int u])), (fa, .inl (cA, 66, .inl fl)), (ka, .inl (cA, 66, .inl kp)), (da, .inl (cA, 24, .inl dr))]) hP hD hS hA [0, 1, 2, 3] [] [0, 1, 2, 3] rfl rfl (by decide) (by decide) (fun u => rfl) (by decide) (va_runV (As := [.int (F_X6_isSlot p0), .int 0]) (rest := []) ⟨hx, hb, hml, hown, hts⟩ (c_X6_goes l D cA mo fa ka da s.heap.size fl kp on rn lf wt nv nl nh nc cm dr dn la (F_X6_isSlot p0) 0) (cwV 2 hts gX6_deltaPieces_X6_goes rfl rfl rfl (by decide +kernel) ⟨Nat.le_of_ble_eq_true rfl, Nat.le_of_ble_eq_true rfl⟩) (bx_pv (ci := 6) (q0 := 0) hK hG (hP.sub (ws' := [(mo, .inr (6, [.ref fa, .ref ka, .int on, .int rn, .int lf, .int wt, .int nv, .int nl, .int nh, .int nc, .int cm, .ref da, .int dn, .int la])), (fa, .inl (cA, 66, .inl fl)), (ka, .inl (cA, 66, .inl kp)), (da, .inl (cA, 24, .inl dr))]) [0, 1, 2, 3] rfl) (hD.sub (ws' := [(mo, .inr (6, [.ref fa, .ref ka, .int on, .int rn, .int lf, .int wt, .int nv, .int nl, .int nh, .int nc, .int cm, .ref da, .int dn, .int la])), (fa, .inl (cA, 66, .inl fl)), (ka, .inl (cA, 66, .inl kp)), (da, .inl (cA, 24, .inl dr))]) [0, 1, 2, 3] (by decide) rfl) rfl rfl) rfl rfl hl.1 rfl (lv_room (Nat.le_of_ble_eq_true rfl)) dX6_deltaPieces_27 ⟨Nat.zero_le _, Nat.zero_le _⟩) (fun r_10 u_9 H locs h_8 hP hD hS => ?_)
    obtain ⟨h_8, b_12⟩ := h_8
    have hP : va_P D vwCl [(mo, .inr (6, [.ref fa, .ref ka, .int on, .int rn, .int lf, .int wt, .int nv, .int nl, .int nh, .int nc, .int cm, .ref da, .int dn, .int u_9])), (fa, .inl (cA, 66, .inl fl)), (ka, .inl (cA, 66, .inl kp)), (da, .inl (cA, 24, .inl dr))] H := hP
    have hD : va_D A [(mo, .inr (6, [.ref fa, .ref ka, .int on, .int rn, .int lf, .int wt, .int nv, .int nl, .int nh, .int nc, .int cm, .ref da, .int dn, .int u_9])), (fa, .inl (cA, 66, .inl fl)), (ka, .inl (cA, 66, .inl kp)), (da, .inl (cA, 24, .inl dr))] := hD
    obtain ⟨rfl, h_8v⟩ := goes_0 h_8
    refine lv_if_eq (tgt := 41) hx hb dX6_deltaPieces_30 (by decide) (fun c_13 => ?_) (fun c_13 => ?_)
    · skip
      refine lv_iconst (v := 0) hx hb dX6_deltaPieces_41 (by decide) ?_
      exact W.iret (v := 0) hx hb hr (fun t ht hW => ⟨⟨0, u_9, rfl, (by simp only [F_X6_deltaPieces, if_pos c_7, if_pos c_13, ← h_8]), ⟨by rw [ht]; exact hP, hD⟩⟩, hS.F ht⟩) hS.2.2 dX6_deltaPieces_42
    · skip
      exact absurd (by decide) c_13
  · skip
    refine lv_aload_n hx hb dX6_deltaPieces_14 rfl (lv_at hl 0 rfl) ?_
    refine lv_iload_n hx hb dX6_deltaPieces_15 rfl (lv_at hl 1 rfl) ?_
    refine bx_ri (va_runV (As := [.int p0]) (rest := [.int (F_X6_isSlot p0), .ref mo]) ⟨hx, hb, hml, hown, hts⟩ (c_X6_canStart l D cA mo fa ka da fl kp on rn lf wt nv nl nh nc cm dr dn la p0 (isSlot_sl c_7)) (cwV 1 hts gX6_deltaPieces_X6_canStart rfl rfl rfl (by decide +kernel) ⟨Nat.le_of_ble_eq_true rfl, Nat.le_of_ble_eq_true rfl⟩) (bx_pvr (ci := 6) (q0 := 0) hK hG (hP.sub (ws' := [(mo, .inr (6, [.ref fa, .ref ka, .int on, .int rn, .int lf, .int wt, .int nv, .int nl, .int nh, .int nc, .int cm, .ref da, .int dn, .int la])), (fa, .inl (cA, 66, .inl fl)), (ka, .inl (cA, 66, .inl kp)), (da, .inl (cA, 24, .inl dr))]) [0, 1, 2, 3] rfl) rfl rfl) rfl rfl hl.1 rfl (lv_room (Nat.le_of_ble_eq_true rfl)) dX6_deltaPieces_16 ⟨Nat.zero_le _, Nat.zero_le _⟩) (fun r_14 h_15 => ?_)
    obtain ⟨h_15, b_16⟩ := h_15
    have h_15 := h_15.symm
    subst h_15
    refine lv_if_eq (tgt := 26) hx hb dX6_deltaPieces_19 (by decide) (fun c_17 => ?_) (fun c_17 => ?_)
    · skip
      refine lv_iconst (v := 0) hx hb dX6_deltaPieces_26 (by decide) ?_
      refine bx_wi (wc := [(mo, .inr (6, [.ref fa, .ref ka, .int on, .int rn, .int lf, .int wt, .int nv, .int nl, .int nh, .int nc, .int cm, .ref da, .int dn, .int la])), (fa, .inl (cA, 66, .inl fl)), (ka, .inl (cA, 66, .inl kp)), (da, .inl (cA, 24, .inl dr))]) (wr := []) (wf := fun (u : (Int32)) => [(mo, .inr (6, [.ref fa, .ref ka, .int on, .int rn, .int lf, .int wt, .int nv, .int nl, .int nh, .int nc, .int cm, .ref da, .int dn, .int u])), (fa, .inl (cA, 66, .inl fl)), (ka, .inl (cA, 66, .inl kp)), (da, .inl (cA, 24, .inl dr))]) (wn := fun (u : (Int32)) => [(mo, .inr (6, [.ref fa, .ref ka, .int on, .int rn, .int lf, .int wt, .int nv, .int nl, .int nh, .int nc, .int cm, .ref da, .int dn, .int u])), (fa, .inl (cA, 66, .inl fl)), (ka, .inl (cA, 66, .inl kp)), (da, .inl (cA, 24, .inl dr))]) hP hD hS hA [0, 1, 2, 3] [] [0, 1, 2, 3] rfl rfl (by decide) (by decide) (fun u => rfl) (by decide) (va_runV (As := [.int (F_X6_isSlot p0), .int 0]) (rest := []) ⟨hx, hb, hml, hown, hts⟩ (c_X6_goes l D cA mo fa ka da s.heap.size fl kp on rn lf wt nv nl nh nc cm dr dn la (F_X6_isSlot p0) 0) (cwV 2 hts gX6_deltaPieces_X6_goes rfl rfl rfl (by decide +kernel) ⟨Nat.le_of_ble_eq_true rfl, Nat.le_of_ble_eq_true rfl⟩) (bx_pv (ci := 6) (q0 := 0) hK hG (hP.sub (ws' := [(mo, .inr (6, [.ref fa, .ref ka, .int on, .int rn, .int lf, .int wt, .int nv, .int nl, .int nh, .int nc, .int cm, .ref da, .int dn, .int la])), (fa, .inl (cA, 66, .inl fl)), (ka, .inl (cA, 66, .inl kp)), (da, .inl (cA, 24, .inl dr))]) [0, 1, 2, 3] rfl) (hD.sub (ws' := [(mo, .inr (6, [.ref fa, .ref ka, .int on, .int rn, .int lf, .int wt, .int nv, .int nl, .int nh, .int nc, .int cm, .ref da, .int dn, .int la])), (fa, .inl (cA, 66, .inl fl)), (ka, .inl (cA, 66, .inl kp)), (da, .inl (cA, 24, .inl dr))]) [0, 1, 2, 3] (by decide) rfl) rfl rfl) rfl rfl hl.1 rfl (lv_room (Nat.le_of_ble_eq_true rfl)) dX6_deltaPieces_27 ⟨Nat.zero_le _, Nat.zero_le _⟩) (fun r_20 u_19 H locs h_18 hP hD hS => ?_)
      obtain ⟨h_18, b_22⟩ := h_18
      have hP : va_P D vwCl [(mo, .inr (6, [.ref fa, .ref ka, .int on, .int rn, .int lf, .int wt, .int nv, .int nl, .int nh, .int nc, .int cm, .ref da, .int dn, .int u_19])), (fa, .inl (cA, 66, .inl fl)), (ka, .inl (cA, 66, .inl kp)), (da, .inl (cA, 24, .inl dr))] H := hP
      have hD : va_D A [(mo, .inr (6, [.ref fa, .ref ka, .int on, .int rn, .int lf, .int wt, .int nv, .int nl, .int nh, .int nc, .int cm, .ref da, .int dn, .int u_19])), (fa, .inl (cA, 66, .inl fl)), (ka, .inl (cA, 66, .inl kp)), (da, .inl (cA, 24, .inl dr))] := hD
      obtain ⟨rfl, h_18v⟩ := goes_0 h_18
      refine lv_if_eq (tgt := 41) hx hb dX6_deltaPieces_30 (by decide) (fun c_23 => ?_) (fun c_23 => ?_)
      · skip
        refine lv_iconst (v := 0) hx hb dX6_deltaPieces_41 (by decide) ?_
        exact W.iret (v := 0) hx hb hr (fun t ht hW => ⟨⟨0, u_19, rfl, (by simp only [F_X6_deltaPieces, if_neg c_7, if_pos c_17, if_pos c_23, ← h_18]), ⟨by rw [ht]; exact hP, hD⟩⟩, hS.F ht⟩) hS.2.2 dX6_deltaPieces_42
      · skip
        exact absurd (by decide) c_23
    · skip
      refine lv_iconst (v := 1) hx hb dX6_deltaPieces_22 (by decide) ?_
      refine lv_goto (tgt := 27) hx hb dX6_deltaPieces_23 (by decide) ?_
      refine bx_wi (wc := [(mo, .inr (6, [.ref fa, .ref ka, .int on, .int rn, .int lf, .int wt, .int nv, .int nl, .int nh, .int nc, .int cm, .ref da, .int dn, .int la])), (fa, .inl (cA, 66, .inl fl)), (ka, .inl (cA, 66, .inl kp)), (da, .inl (cA, 24, .inl dr))]) (wr := []) (wf := fun (u : (Int32)) => [(mo, .inr (6, [.ref fa, .ref ka, .int on, .int rn, .int lf, .int wt, .int nv, .int nl, .int nh, .int nc, .int cm, .ref da, .int dn, .int u])), (fa, .inl (cA, 66, .inl fl)), (ka, .inl (cA, 66, .inl kp)), (da, .inl (cA, 24, .inl dr))]) (wn := fun (u : (Int32)) => [(mo, .inr (6, [.ref fa, .ref ka, .int on, .int rn, .int lf, .int wt, .int nv, .int nl, .int nh, .int nc, .int cm, .ref da, .int dn, .int u])), (fa, .inl (cA, 66, .inl fl)), (ka, .inl (cA, 66, .inl kp)), (da, .inl (cA, 24, .inl dr))]) hP hD hS hA [0, 1, 2, 3] [] [0, 1, 2, 3] rfl rfl (by decide) (by decide) (fun u => rfl) (by decide) (va_runV (As := [.int (F_X6_isSlot p0), .int 1]) (rest := []) ⟨hx, hb, hml, hown, hts⟩ (c_X6_goes l D cA mo fa ka da s.heap.size fl kp on rn lf wt nv nl nh nc cm dr dn la (F_X6_isSlot p0) 1) (cwV 2 hts gX6_deltaPieces_X6_goes rfl rfl rfl (by decide +kernel) ⟨Nat.le_of_ble_eq_true rfl, Nat.le_of_ble_eq_true rfl⟩) (bx_pv (ci := 6) (q0 := 0) hK hG (hP.sub (ws' := [(mo, .inr (6, [.ref fa, .ref ka, .int on, .int rn, .int lf, .int wt, .int nv, .int nl, .int nh, .int nc, .int cm, .ref da, .int dn, .int la])), (fa, .inl (cA, 66, .inl fl)), (ka, .inl (cA, 66, .inl kp)), (da, .inl (cA, 24, .inl dr))]) [0, 1, 2, 3] rfl) (hD.sub (ws' := [(mo, .inr (6, [.ref fa, .ref ka, .int on, .int rn, .int lf, .int wt, .int nv, .int nl, .int nh, .int nc, .int cm, .ref da, .int dn, .int la])), (fa, .inl (cA, 66, .inl fl)), (ka, .inl (cA, 66, .inl kp)), (da, .inl (cA, 24, .inl dr))]) [0, 1, 2, 3] (by decide) rfl) rfl rfl) rfl rfl hl.1 rfl (lv_room (Nat.le_of_ble_eq_true rfl)) dX6_deltaPieces_27 ⟨Nat.zero_le _, Nat.zero_le _⟩) (fun r_26 u_25 H locs h_24 hP hD hS => ?_)
      obtain ⟨h_24, b_28⟩ := h_24
      have hP : va_P D vwCl [(mo, .inr (6, [.ref fa, .ref ka, .int on, .int rn, .int lf, .int wt, .int nv, .int nl, .int nh, .int nc, .int cm, .ref da, .int dn, .int u_25])), (fa, .inl (cA, 66, .inl fl)), (ka, .inl (cA, 66, .inl kp)), (da, .inl (cA, 24, .inl dr))] H := hP
      have hD : va_D A [(mo, .inr (6, [.ref fa, .ref ka, .int on, .int rn, .int lf, .int wt, .int nv, .int nl, .int nh, .int nc, .int cm, .ref da, .int dn, .int u_25])), (fa, .inl (cA, 66, .inl fl)), (ka, .inl (cA, 66, .inl kp)), (da, .inl (cA, 24, .inl dr))] := hD
      refine lv_if_eq (tgt := 41) hx hb dX6_deltaPieces_30 (by decide) (fun c_29 => ?_) (fun c_29 => ?_)
      · skip
        refine lv_iconst (v := 0) hx hb dX6_deltaPieces_41 (by decide) ?_
        exact W.iret (v := 0) hx hb hr (fun t ht hW => ⟨⟨0, u_25, rfl, (by simp only [F_X6_deltaPieces, if_neg c_7, if_neg c_17, if_pos c_29, ← h_24]), ⟨by rw [ht]; exact hP, hD⟩⟩, hS.F ht⟩) hS.2.2 dX6_deltaPieces_42
      · skip
        refine lv_aload_n hx hb dX6_deltaPieces_33 rfl (lv_at hl 0 rfl) ?_
        refine lv_iload_n hx hb dX6_deltaPieces_34 rfl (lv_at hl 1 rfl) ?_
        refine bx_ri (va_runV (As := [.int p0]) (rest := []) ⟨hx, hb, hml, hown, hts⟩ (c_X6_countPieces l D cA mo fa ka da fl kp on rn lf wt nv nl nh nc cm dr dn u_25 p0 (isSlot_sl c_7) hd (hLL p0 (isSlot_sl c_7))) (cwV 1 hts gX6_deltaPieces_X6_countPieces rfl rfl rfl (by decide +kernel) ⟨Nat.le_of_ble_eq_true rfl, Nat.le_of_ble_eq_true rfl⟩) (bx_pvr (ci := 6) (q0 := 0) hK hG (hP.sub (ws' := [(mo, .inr (6, [.ref fa, .ref ka, .int on, .int rn, .int lf, .int wt, .int nv, .int nl, .int nh, .int nc, .int cm, .ref da, .int dn, .int u_25])), (fa, .inl (cA, 66, .inl fl)), (ka, .inl (cA, 66, .inl kp)), (da, .inl (cA, 24, .inl dr))]) [0, 1, 2, 3] rfl) rfl rfl) rfl rfl hl.1 rfl (lv_room (Nat.le_of_ble_eq_true rfl)) dX6_deltaPieces_35 ⟨Nat.zero_le _, Nat.zero_le _⟩) (fun r_30 h_31 => ?_)
        have h_31 := h_31.symm
        subst h_31
        refine lv_goto (tgt := 42) hx hb dX6_deltaPieces_38 (by decide) ?_
        exact W.iret (v := (F_X6_countPieces fl dr dn p0)) hx hb hr (fun t ht hW => ⟨⟨(F_X6_countPieces fl dr dn p0), u_25, rfl, (by simp only [F_X6_deltaPieces, if_neg c_7, if_neg c_17, if_neg c_29, ← h_24]), ⟨by rw [ht]; exact hP, hD⟩⟩, hS.F ht⟩) hS.2.2 dX6_deltaPieces_42
def F_X6_isPiece (fl : Nat → Int32) (dr : Nat → Int32) (dn : Int32) (p0 : Int32) (p1 : Int32) : Int32 × (Int32) := (if (F_X6_isSlot p0) = 0 then (match (F_X6_goes (F_X6_isSlot p0) 0) with | (r_10, u_9) => (if u_9 = 0 then (1, u_9) else (0, u_9))) else (if (F_X6_canStart fl p0) = 0 then (match (F_X6_goes (F_X6_isSlot p0) 0) with | (r_21, u_20) => (if u_20 = 0 then (1, u_20) else (0, u_20))) else (match (F_X6_goes (F_X6_isSlot p0) 1) with | (r_28, u_27) => (if r_28 = 0 then (if u_27 = 0 then (1, u_27) else (0, u_27)) else (if (F_X6_in p1 0 ((F_X6_countPieces fl dr dn p0) - 1)) = 0 then (0, 3) else (if u_27 = 0 then (1, u_27) else (0, u_27)))))))
set_option maxHeartbeats 4000000 in
set_option maxRecDepth 100000 in
theorem c_X6_isPiece (l : Launch) (D : va_G) (cA : ClassId) (mo fa ka da : Nat) (sz : Nat) (fl : Nat → Int32) (kp : Nat → Int32) (on : Int32) (rn : Int32) (lf : Int32) (wt : Int32) (nv : Int32) (nl : Int32) (nh : Int32) (nc : Int32) (cm : Int32) (dr : Nat → Int32) (dn : Int32) (la : Int32) (p0 : Int32) (p1 : Int32) (hd : dn.toNatClampNeg ≤ 24) (hLL : okL fl) : Met l yX6_isPiece wsX6_isPiece ({ frames := 4, cells := 0, slots := 0, locals := 94 }) (va_Pc [.ref mo, .int p0, .int p1] (bx_pre D [(cA, .int)] (wMo cA mo fa ka da fl kp on rn lf wt nv nl nh nc cm dr dn la) sz)) (va_Qi (fun r u => (r, u) = F_X6_isPiece fl dr dn p0 p1 ∧ (r = 0 ∨ r = 1)) (fun u t => bx_at D (wMo cA mo fa ka da fl kp on rn lf wt nv nl nh nc cm dr dn u) (va_A (wMo cA mo fa ka da fl kp on rn lf wt nv nl nh nc cm dr dn la) sz) t) (va_A (wMo cA mo fa ka da fl kp on rn lf wt nv nl nh nc cm dr dn la) sz)) 0 0 (va_A (wMo cA mo fa ka da fl kp on rn lf wt nv nl nh nc cm dr dn la) sz) := by
  refine Met.ofW (cc := cX6_isPiece) (maxL := 4) (ret := (some .boolean)) (by decide) rfl ?_
  intro p e s m args below meth c s₁ B hml hv
  obtain ⟨rfl, hsz, hP, hK, hD0, hG⟩ := hv
  have hx := B.exec
  have hb := B.bytes
  have hr := B.returns
  have hts := atoms_spec (ws := wsX6_isPiece) B.pre
  have hown : s.vm.findClass RX6 = some m.cls := findClass_of_methodNamed B.named
  have hlocks := B.notSynchronized
  subst hsz
  have hD := hD0.self (sz := s.heap.size)
  generalize hAe : va_A (wMo cA mo fa ka da fl kp on rn lf wt nv nl nh nc cm dr dn la) s.heap.size = A at hD ⊢
  have hA : ∀ q : Nat, s.heap.size ≤ q → A q := fun q h => by rw [← hAe]; exact Or.inr h
  have hS : va_S A s.heap s.heap [] := va_S.rf
  have hD : va_D A [(mo, .inr (6, [.ref fa, .ref ka, .int on, .int rn, .int lf, .int wt, .int nv, .int nl, .int nh, .int nc, .int cm, .ref da, .int dn, .int la])), (fa, .inl (cA, 66, .inl fl)), (ka, .inl (cA, 66, .inl kp)), (da, .inl (cA, 24, .inl dr))] := hD
  have hP : va_P D vwCl [(mo, .inr (6, [.ref fa, .ref ka, .int on, .int rn, .int lf, .int wt, .int nv, .int nl, .int nh, .int nc, .int cm, .ref da, .int dn, .int la])), (fa, .inl (cA, 66, .inl fl)), (ka, .inl (cA, 66, .inl kp)), (da, .inl (cA, 24, .inl dr))] s.heap := hP
  have hl := lv_entry ([.ref mo, .int p0, .int p1]) (n := 4) (Nat.le_of_ble_eq_true rfl)
  rw [lg_entry_eq]
  generalize (lg_sl ([.ref mo, .int p0, .int p1]) ++ List.replicate (4 - (lg_sl ([.ref mo, .int p0, .int p1])).length) Slot.unset).toArray = ls at hl ⊢
  have hl : lv_has ls 4 [(0, .ref mo), (1, .int p0), (2, .int p1)] := hl
  have hi6 : ∀ w ∈ u_ws RX6 TX6 14, w ∈ wsX6_isPiece := by decide +kernel
  refine lv_aload_n hx hb dX6_isPiece_0 rfl (lv_at hl 0 rfl) ?_
  refine lv_aload_n hx hb dX6_isPiece_1 rfl (lv_at hl 0 rfl) ?_
  refine lv_iload_n hx hb dX6_isPiece_2 rfl (lv_at hl 1 rfl) ?_
  refine bx_ri (va_runV (As := [.int p0]) (rest := [.ref mo]) ⟨hx, hb, hml, hown, hts⟩ (c_X6_isSlot l D cA mo fa ka da fl kp on rn lf wt nv nl nh nc cm dr dn la p0) (cwV 1 hts gX6_isPiece_X6_isSlot rfl rfl rfl (by decide +kernel) ⟨Nat.le_of_ble_eq_true rfl, Nat.le_of_ble_eq_true rfl⟩) (bx_pvr (ci := 6) (q0 := 0) hK hG (hP.sub (ws' := [(mo, .inr (6, [.ref fa, .ref ka, .int on, .int rn, .int lf, .int wt, .int nv, .int nl, .int nh, .int nc, .int cm, .ref da, .int dn, .int la])), (fa, .inl (cA, 66, .inl fl)), (ka, .inl (cA, 66, .inl kp)), (da, .inl (cA, 24, .inl dr))]) [0, 1, 2, 3] rfl) rfl rfl) rfl rfl hl.1 rfl (lv_room (Nat.le_of_ble_eq_true rfl)) dX6_isPiece_3 ⟨Nat.zero_le _, Nat.zero_le _⟩) (fun r_1 h_2 => ?_)
  obtain ⟨h_2, b_3⟩ := h_2
  have h_2 := h_2.symm
  subst h_2
  refine lv_aload_n hx hb dX6_isPiece_6 rfl (lv_at hl 0 rfl) ?_
  refine lv_iload_n hx hb dX6_isPiece_7 rfl (lv_at hl 1 rfl) ?_
  refine bx_ri (va_runV (As := [.int p0]) (rest := [.int (F_X6_isSlot p0), .ref mo]) ⟨hx, hb, hml, hown, hts⟩ (c_X6_isSlot l D cA mo fa ka da fl kp on rn lf wt nv nl nh nc cm dr dn la p0) (cwV 1 hts gX6_isPiece_X6_isSlot rfl rfl rfl (by decide +kernel) ⟨Nat.le_of_ble_eq_true rfl, Nat.le_of_ble_eq_true rfl⟩) (bx_pvr (ci := 6) (q0 := 0) hK hG (hP.sub (ws' := [(mo, .inr (6, [.ref fa, .ref ka, .int on, .int rn, .int lf, .int wt, .int nv, .int nl, .int nh, .int nc, .int cm, .ref da, .int dn, .int la])), (fa, .inl (cA, 66, .inl fl)), (ka, .inl (cA, 66, .inl kp)), (da, .inl (cA, 24, .inl dr))]) [0, 1, 2, 3] rfl) rfl rfl) rfl rfl hl.1 rfl (lv_room (Nat.le_of_ble_eq_true rfl)) dX6_isPiece_8 ⟨Nat.zero_le _, Nat.zero_le _⟩) (fun r_4 h_5 => ?_)
  obtain ⟨h_5, b_6⟩ := h_5
  have h_5 := h_5.symm
  subst h_5
  refine lv_if_eq (tgt := 26) hx hb dX6_isPiece_11 (by decide) (fun c_7 => ?_) (fun c_7 => ?_)
  · skip
    refine lv_iconst (v := 0) hx hb dX6_isPiece_26 (by decide) ?_
    refine bx_wi (wc := [(mo, .inr (6, [.ref fa, .ref ka, .int on, .int rn, .int lf, .int wt, .int nv, .int nl, .int nh, .int nc, .int cm, .ref da, .int dn, .int la])), (fa, .inl (cA, 66, .inl fl)), (ka, .inl (cA, 66, .inl kp)), (da, .inl (cA, 24, .inl dr))]) (wr := []) (wf := fun (u : (Int32)) => [(mo, .inr (6, [.ref fa, .ref ka, .int on, .int rn, .int lf, .int wt, .int nv, .int nl, .int nh, .int nc, .int cm, .ref da, .int dn, .int u])), (fa, .inl (cA, 66, .inl fl)), (ka, .inl (cA, 66, .inl kp)), (da, .inl (cA, 24, .inl dr))]) (wn := fun (u : (Int32)) => [(mo, .inr (6, [.ref fa, .ref ka, .int on, .int rn, .int lf, .int wt, .int nv, .int nl, .int nh, .int nc, .int cm, .ref da, .int dn, .int u])), (fa, .inl (cA, 66, .inl fl)), (ka, .inl (cA, 66, .inl kp)), (da, .inl (cA, 24, .inl dr))]) hP hD hS hA [0, 1, 2, 3] [] [0, 1, 2, 3] rfl rfl (by decide) (by decide) (fun u => rfl) (by decide) (va_runV (As := [.int (F_X6_isSlot p0), .int 0]) (rest := []) ⟨hx, hb, hml, hown, hts⟩ (c_X6_goes l D cA mo fa ka da s.heap.size fl kp on rn lf wt nv nl nh nc cm dr dn la (F_X6_isSlot p0) 0) (cwV 2 hts gX6_isPiece_X6_goes rfl rfl rfl (by decide +kernel) ⟨Nat.le_of_ble_eq_true rfl, Nat.le_of_ble_eq_true rfl⟩) (bx_pv (ci := 6) (q0 := 0) hK hG (hP.sub (ws' := [(mo, .inr (6, [.ref fa, .ref ka, .int on, .int rn, .int lf, .int wt, .int nv, .int nl, .int nh, .int nc, .int cm, .ref da, .int dn, .int la])), (fa, .inl (cA, 66, .inl fl)), (ka, .inl (cA, 66, .inl kp)), (da, .inl (cA, 24, .inl dr))]) [0, 1, 2, 3] rfl) (hD.sub (ws' := [(mo, .inr (6, [.ref fa, .ref ka, .int on, .int rn, .int lf, .int wt, .int nv, .int nl, .int nh, .int nc, .int cm, .ref da, .int dn, .int la])), (fa, .inl (cA, 66, .inl fl)), (ka, .inl (cA, 66, .inl kp)), (da, .inl (cA, 24, .inl dr))]) [0, 1, 2, 3] (by decide) rfl) rfl rfl) rfl rfl hl.1 rfl (lv_room (Nat.le_of_ble_eq_true rfl)) dX6_isPiece_27 ⟨Nat.zero_le _, Nat.zero_le _⟩) (fun r_10 u_9 H locs h_8 hP hD hS => ?_)
    obtain ⟨h_8, b_12⟩ := h_8
    have hP : va_P D vwCl [(mo, .inr (6, [.ref fa, .ref ka, .int on, .int rn, .int lf, .int wt, .int nv, .int nl, .int nh, .int nc, .int cm, .ref da, .int dn, .int u_9])), (fa, .inl (cA, 66, .inl fl)), (ka, .inl (cA, 66, .inl kp)), (da, .inl (cA, 24, .inl dr))] H := hP
    have hD : va_D A [(mo, .inr (6, [.ref fa, .ref ka, .int on, .int rn, .int lf, .int wt, .int nv, .int nl, .int nh, .int nc, .int cm, .ref da, .int dn, .int u_9])), (fa, .inl (cA, 66, .inl fl)), (ka, .inl (cA, 66, .inl kp)), (da, .inl (cA, 24, .inl dr))] := hD
    obtain ⟨rfl, h_8v⟩ := goes_0 h_8
    refine lv_istore_n (lv' := [(3, .int 0), (0, .ref mo), (1, .int p0), (2, .int p1)]) hx hb dX6_isPiece_30 rfl hl (by decide) rfl (fun ls hl => ?_)
    refine lv_aload_n hx hb dX6_isPiece_31 rfl (lv_at hl 1 rfl) ?_
    refine lv_iload_n hx hb dX6_isPiece_32 rfl (lv_at hl 0 rfl) ?_
    refine lv_if_eq (tgt := 55) hx hb dX6_isPiece_33 (by decide) (fun c_13 => ?_) (fun c_13 => ?_)
    · skip
      refine lv_aload_n hx hb dX6_isPiece_55 rfl (lv_at hl 1 rfl) ?_
      refine va_get (D := D) (ci := 6) (v := .int u_9) (C := RX6) (T := TX6) (N := 14) hx hb hts hi6 hown hK hP 0 rfl rfl 13 (by decide) (hts (.fieldLink RX6 37 "BootstayModel" "last" "I") (by decide +kernel)) (fun _ h9 => h9) rfl dX6_isPiece_56 ?_
      refine va_put (D := D) (ci := 6) (v := .int u_9) (ty := .int) (C := RX6) (T := TX6) (N := 14) hx hb hts hi6 tyX6 tyX6_ok nmX6 hown hK hP hD hS 0 rfl rfl 13 (by decide) (hts (.fieldLink RX6 37 "BootstayModel" "last" "I") (by decide +kernel)) (fun _ h9 => h9) rfl (by decide +kernel) rfl rfl (Nat.le_of_ble_eq_true rfl) dX6_isPiece_59 (fun H locs hP hD hS => ?_)
      have hP : va_P D vwCl [(mo, .inr (6, [.ref fa, .ref ka, .int on, .int rn, .int lf, .int wt, .int nv, .int nl, .int nh, .int nc, .int cm, .ref da, .int dn, .int u_9])), (fa, .inl (cA, 66, .inl fl)), (ka, .inl (cA, 66, .inl kp)), (da, .inl (cA, 24, .inl dr))] H := hP
      have hD : va_D A [(mo, .inr (6, [.ref fa, .ref ka, .int on, .int rn, .int lf, .int wt, .int nv, .int nl, .int nh, .int nc, .int cm, .ref da, .int dn, .int u_9])), (fa, .inl (cA, 66, .inl fl)), (ka, .inl (cA, 66, .inl kp)), (da, .inl (cA, 24, .inl dr))] := hD
      refine lv_aload_n hx hb dX6_isPiece_62 rfl (lv_at hl 1 rfl) ?_
      refine va_get (D := D) (ci := 6) (v := .int u_9) (C := RX6) (T := TX6) (N := 14) hx hb hts hi6 hown hK hP 0 rfl rfl 13 (by decide) (hts (.fieldLink RX6 37 "BootstayModel" "last" "I") (by decide +kernel)) (fun _ h9 => h9) rfl dX6_isPiece_63 ?_
      refine lv_if_ne (tgt := 73) hx hb dX6_isPiece_66 (by decide) (fun c_14 => ?_) (fun c_14 => ?_)
      · skip
        refine lv_iconst (v := 0) hx hb dX6_isPiece_73 (by decide) ?_
        exact W.zret (v := 0) hx hb hr rfl (fun t ht hW => ⟨⟨0, u_9, rfl, ⟨(by simp only [F_X6_isPiece, if_pos c_7, if_pos c_13, if_neg c_14, ← h_8]), (by decide)⟩, ⟨by rw [ht]; exact hP, hD⟩⟩, hS.F ht⟩) hS.2.2 dX6_isPiece_74
      · skip
        refine lv_iconst (v := 1) hx hb dX6_isPiece_69 (by decide) ?_
        refine lv_goto (tgt := 74) hx hb dX6_isPiece_70 (by decide) ?_
        exact W.zret (v := 1) hx hb hr rfl (fun t ht hW => ⟨⟨1, u_9, rfl, ⟨(by simp only [F_X6_isPiece, if_pos c_7, if_pos c_13, if_pos c_14, ← h_8]), (by decide)⟩, ⟨by rw [ht]; exact hP, hD⟩⟩, hS.F ht⟩) hS.2.2 dX6_isPiece_74
    · skip
      exact absurd (by decide) c_13
  · skip
    refine lv_aload_n hx hb dX6_isPiece_14 rfl (lv_at hl 0 rfl) ?_
    refine lv_iload_n hx hb dX6_isPiece_15 rfl (lv_at hl 1 rfl) ?_
    refine bx_ri (va_runV (As := [.int p0]) (rest := [.int (F_X6_isSlot p0), .ref mo]) ⟨hx, hb, hml, hown, hts⟩ (c_X6_canStart l D cA mo fa ka da fl kp on rn lf wt nv nl nh nc cm dr dn la p0 (isSlot_sl c_7)) (cwV 1 hts gX6_isPiece_X6_canStart rfl rfl rfl (by decide +kernel) ⟨Nat.le_of_ble_eq_true rfl, Nat.le_of_ble_eq_true rfl⟩) (bx_pvr (ci := 6) (q0 := 0) hK hG (hP.sub (ws' := [(mo, .inr (6, [.ref fa, .ref ka, .int on, .int rn, .int lf, .int wt, .int nv, .int nl, .int nh, .int nc, .int cm, .ref da, .int dn, .int la])), (fa, .inl (cA, 66, .inl fl)), (ka, .inl (cA, 66, .inl kp)), (da, .inl (cA, 24, .inl dr))]) [0, 1, 2, 3] rfl) rfl rfl) rfl rfl hl.1 rfl (lv_room (Nat.le_of_ble_eq_true rfl)) dX6_isPiece_16 ⟨Nat.zero_le _, Nat.zero_le _⟩) (fun r_15 h_16 => ?_)
    obtain ⟨h_16, b_17⟩ := h_16
    have h_16 := h_16.symm
    subst h_16
    refine lv_if_eq (tgt := 26) hx hb dX6_isPiece_19 (by decide) (fun c_18 => ?_) (fun c_18 => ?_)
    · skip
      refine lv_iconst (v := 0) hx hb dX6_isPiece_26 (by decide) ?_
      refine bx_wi (wc := [(mo, .inr (6, [.ref fa, .ref ka, .int on, .int rn, .int lf, .int wt, .int nv, .int nl, .int nh, .int nc, .int cm, .ref da, .int dn, .int la])), (fa, .inl (cA, 66, .inl fl)), (ka, .inl (cA, 66, .inl kp)), (da, .inl (cA, 24, .inl dr))]) (wr := []) (wf := fun (u : (Int32)) => [(mo, .inr (6, [.ref fa, .ref ka, .int on, .int rn, .int lf, .int wt, .int nv, .int nl, .int nh, .int nc, .int cm, .ref da, .int dn, .int u])), (fa, .inl (cA, 66, .inl fl)), (ka, .inl (cA, 66, .inl kp)), (da, .inl (cA, 24, .inl dr))]) (wn := fun (u : (Int32)) => [(mo, .inr (6, [.ref fa, .ref ka, .int on, .int rn, .int lf, .int wt, .int nv, .int nl, .int nh, .int nc, .int cm, .ref da, .int dn, .int u])), (fa, .inl (cA, 66, .inl fl)), (ka, .inl (cA, 66, .inl kp)), (da, .inl (cA, 24, .inl dr))]) hP hD hS hA [0, 1, 2, 3] [] [0, 1, 2, 3] rfl rfl (by decide) (by decide) (fun u => rfl) (by decide) (va_runV (As := [.int (F_X6_isSlot p0), .int 0]) (rest := []) ⟨hx, hb, hml, hown, hts⟩ (c_X6_goes l D cA mo fa ka da s.heap.size fl kp on rn lf wt nv nl nh nc cm dr dn la (F_X6_isSlot p0) 0) (cwV 2 hts gX6_isPiece_X6_goes rfl rfl rfl (by decide +kernel) ⟨Nat.le_of_ble_eq_true rfl, Nat.le_of_ble_eq_true rfl⟩) (bx_pv (ci := 6) (q0 := 0) hK hG (hP.sub (ws' := [(mo, .inr (6, [.ref fa, .ref ka, .int on, .int rn, .int lf, .int wt, .int nv, .int nl, .int nh, .int nc, .int cm, .ref da, .int dn, .int la])), (fa, .inl (cA, 66, .inl fl)), (ka, .inl (cA, 66, .inl kp)), (da, .inl (cA, 24, .inl dr))]) [0, 1, 2, 3] rfl) (hD.sub (ws' := [(mo, .inr (6, [.ref fa, .ref ka, .int on, .int rn, .int lf, .int wt, .int nv, .int nl, .int nh, .int nc, .int cm, .ref da, .int dn, .int la])), (fa, .inl (cA, 66, .inl fl)), (ka, .inl (cA, 66, .inl kp)), (da, .inl (cA, 24, .inl dr))]) [0, 1, 2, 3] (by decide) rfl) rfl rfl) rfl rfl hl.1 rfl (lv_room (Nat.le_of_ble_eq_true rfl)) dX6_isPiece_27 ⟨Nat.zero_le _, Nat.zero_le _⟩) (fun r_21 u_20 H locs h_19 hP hD hS => ?_)
      obtain ⟨h_19, b_23⟩ := h_19
      have hP : va_P D vwCl [(mo, .inr (6, [.ref fa, .ref ka, .int on, .int rn, .int lf, .int wt, .int nv, .int nl, .int nh, .int nc, .int cm, .ref da, .int dn, .int u_20])), (fa, .inl (cA, 66, .inl fl)), (ka, .inl (cA, 66, .inl kp)), (da, .inl (cA, 24, .inl dr))] H := hP
      have hD : va_D A [(mo, .inr (6, [.ref fa, .ref ka, .int on, .int rn, .int lf, .int wt, .int nv, .int nl, .int nh, .int nc, .int cm, .ref da, .int dn, .int u_20])), (fa, .inl (cA, 66, .inl fl)), (ka, .inl (cA, 66, .inl kp)), (da, .inl (cA, 24, .inl dr))] := hD
      obtain ⟨rfl, h_19v⟩ := goes_0 h_19
      refine lv_istore_n (lv' := [(3, .int 0), (0, .ref mo), (1, .int p0), (2, .int p1)]) hx hb dX6_isPiece_30 rfl hl (by decide) rfl (fun ls hl => ?_)
      refine lv_aload_n hx hb dX6_isPiece_31 rfl (lv_at hl 1 rfl) ?_
      refine lv_iload_n hx hb dX6_isPiece_32 rfl (lv_at hl 0 rfl) ?_
      refine lv_if_eq (tgt := 55) hx hb dX6_isPiece_33 (by decide) (fun c_24 => ?_) (fun c_24 => ?_)
      · skip
        refine lv_aload_n hx hb dX6_isPiece_55 rfl (lv_at hl 1 rfl) ?_
        refine va_get (D := D) (ci := 6) (v := .int u_20) (C := RX6) (T := TX6) (N := 14) hx hb hts hi6 hown hK hP 0 rfl rfl 13 (by decide) (hts (.fieldLink RX6 37 "BootstayModel" "last" "I") (by decide +kernel)) (fun _ h9 => h9) rfl dX6_isPiece_56 ?_
        refine va_put (D := D) (ci := 6) (v := .int u_20) (ty := .int) (C := RX6) (T := TX6) (N := 14) hx hb hts hi6 tyX6 tyX6_ok nmX6 hown hK hP hD hS 0 rfl rfl 13 (by decide) (hts (.fieldLink RX6 37 "BootstayModel" "last" "I") (by decide +kernel)) (fun _ h9 => h9) rfl (by decide +kernel) rfl rfl (Nat.le_of_ble_eq_true rfl) dX6_isPiece_59 (fun H locs hP hD hS => ?_)
        have hP : va_P D vwCl [(mo, .inr (6, [.ref fa, .ref ka, .int on, .int rn, .int lf, .int wt, .int nv, .int nl, .int nh, .int nc, .int cm, .ref da, .int dn, .int u_20])), (fa, .inl (cA, 66, .inl fl)), (ka, .inl (cA, 66, .inl kp)), (da, .inl (cA, 24, .inl dr))] H := hP
        have hD : va_D A [(mo, .inr (6, [.ref fa, .ref ka, .int on, .int rn, .int lf, .int wt, .int nv, .int nl, .int nh, .int nc, .int cm, .ref da, .int dn, .int u_20])), (fa, .inl (cA, 66, .inl fl)), (ka, .inl (cA, 66, .inl kp)), (da, .inl (cA, 24, .inl dr))] := hD
        refine lv_aload_n hx hb dX6_isPiece_62 rfl (lv_at hl 1 rfl) ?_
        refine va_get (D := D) (ci := 6) (v := .int u_20) (C := RX6) (T := TX6) (N := 14) hx hb hts hi6 hown hK hP 0 rfl rfl 13 (by decide) (hts (.fieldLink RX6 37 "BootstayModel" "last" "I") (by decide +kernel)) (fun _ h9 => h9) rfl dX6_isPiece_63 ?_
        refine lv_if_ne (tgt := 73) hx hb dX6_isPiece_66 (by decide) (fun c_25 => ?_) (fun c_25 => ?_)
        · skip
          refine lv_iconst (v := 0) hx hb dX6_isPiece_73 (by decide) ?_
          exact W.zret (v := 0) hx hb hr rfl (fun t ht hW => ⟨⟨0, u_20, rfl, ⟨(by simp only [F_X6_isPiece, if_neg c_7, if_pos c_18, if_pos c_24, if_neg c_25, ← h_19]), (by decide)⟩, ⟨by rw [ht]; exact hP, hD⟩⟩, hS.F ht⟩) hS.2.2 dX6_isPiece_74
        · skip
          refine lv_iconst (v := 1) hx hb dX6_isPiece_69 (by decide) ?_
          refine lv_goto (tgt := 74) hx hb dX6_isPiece_70 (by decide) ?_
          exact W.zret (v := 1) hx hb hr rfl (fun t ht hW => ⟨⟨1, u_20, rfl, ⟨(by simp only [F_X6_isPiece, if_neg c_7, if_pos c_18, if_pos c_24, if_pos c_25, ← h_19]), (by decide)⟩, ⟨by rw [ht]; exact hP, hD⟩⟩, hS.F ht⟩) hS.2.2 dX6_isPiece_74
      · skip
        exact absurd (by decide) c_24
    · skip
      refine lv_iconst (v := 1) hx hb dX6_isPiece_22 (by decide) ?_
      refine lv_goto (tgt := 27) hx hb dX6_isPiece_23 (by decide) ?_
      refine bx_wi (wc := [(mo, .inr (6, [.ref fa, .ref ka, .int on, .int rn, .int lf, .int wt, .int nv, .int nl, .int nh, .int nc, .int cm, .ref da, .int dn, .int la])), (fa, .inl (cA, 66, .inl fl)), (ka, .inl (cA, 66, .inl kp)), (da, .inl (cA, 24, .inl dr))]) (wr := []) (wf := fun (u : (Int32)) => [(mo, .inr (6, [.ref fa, .ref ka, .int on, .int rn, .int lf, .int wt, .int nv, .int nl, .int nh, .int nc, .int cm, .ref da, .int dn, .int u])), (fa, .inl (cA, 66, .inl fl)), (ka, .inl (cA, 66, .inl kp)), (da, .inl (cA, 24, .inl dr))]) (wn := fun (u : (Int32)) => [(mo, .inr (6, [.ref fa, .ref ka, .int on, .int rn, .int lf, .int wt, .int nv, .int nl, .int nh, .int nc, .int cm, .ref da, .int dn, .int u])), (fa, .inl (cA, 66, .inl fl)), (ka, .inl (cA, 66, .inl kp)), (da, .inl (cA, 24, .inl dr))]) hP hD hS hA [0, 1, 2, 3] [] [0, 1, 2, 3] rfl rfl (by decide) (by decide) (fun u => rfl) (by decide) (va_runV (As := [.int (F_X6_isSlot p0), .int 1]) (rest := []) ⟨hx, hb, hml, hown, hts⟩ (c_X6_goes l D cA mo fa ka da s.heap.size fl kp on rn lf wt nv nl nh nc cm dr dn la (F_X6_isSlot p0) 1) (cwV 2 hts gX6_isPiece_X6_goes rfl rfl rfl (by decide +kernel) ⟨Nat.le_of_ble_eq_true rfl, Nat.le_of_ble_eq_true rfl⟩) (bx_pv (ci := 6) (q0 := 0) hK hG (hP.sub (ws' := [(mo, .inr (6, [.ref fa, .ref ka, .int on, .int rn, .int lf, .int wt, .int nv, .int nl, .int nh, .int nc, .int cm, .ref da, .int dn, .int la])), (fa, .inl (cA, 66, .inl fl)), (ka, .inl (cA, 66, .inl kp)), (da, .inl (cA, 24, .inl dr))]) [0, 1, 2, 3] rfl) (hD.sub (ws' := [(mo, .inr (6, [.ref fa, .ref ka, .int on, .int rn, .int lf, .int wt, .int nv, .int nl, .int nh, .int nc, .int cm, .ref da, .int dn, .int la])), (fa, .inl (cA, 66, .inl fl)), (ka, .inl (cA, 66, .inl kp)), (da, .inl (cA, 24, .inl dr))]) [0, 1, 2, 3] (by decide) rfl) rfl rfl) rfl rfl hl.1 rfl (lv_room (Nat.le_of_ble_eq_true rfl)) dX6_isPiece_27 ⟨Nat.zero_le _, Nat.zero_le _⟩) (fun r_28 u_27 H locs h_26 hP hD hS => ?_)
      obtain ⟨h_26, b_30⟩ := h_26
      have hP : va_P D vwCl [(mo, .inr (6, [.ref fa, .ref ka, .int on, .int rn, .int lf, .int wt, .int nv, .int nl, .int nh, .int nc, .int cm, .ref da, .int dn, .int u_27])), (fa, .inl (cA, 66, .inl fl)), (ka, .inl (cA, 66, .inl kp)), (da, .inl (cA, 24, .inl dr))] H := hP
      have hD : va_D A [(mo, .inr (6, [.ref fa, .ref ka, .int on, .int rn, .int lf, .int wt, .int nv, .int nl, .int nh, .int nc, .int cm, .ref da, .int dn, .int u_27])), (fa, .inl (cA, 66, .inl fl)), (ka, .inl (cA, 66, .inl kp)), (da, .inl (cA, 24, .inl dr))] := hD
      refine lv_istore_n (lv' := [(3, .int r_28), (0, .ref mo), (1, .int p0), (2, .int p1)]) hx hb dX6_isPiece_30 rfl hl (by decide) rfl (fun ls hl => ?_)
      refine lv_aload_n hx hb dX6_isPiece_31 rfl (lv_at hl 1 rfl) ?_
      refine lv_iload_n hx hb dX6_isPiece_32 rfl (lv_at hl 0 rfl) ?_
      refine lv_if_eq (tgt := 55) hx hb dX6_isPiece_33 (by decide) (fun c_31 => ?_) (fun c_31 => ?_)
      · skip
        refine lv_aload_n hx hb dX6_isPiece_55 rfl (lv_at hl 1 rfl) ?_
        refine va_get (D := D) (ci := 6) (v := .int u_27) (C := RX6) (T := TX6) (N := 14) hx hb hts hi6 hown hK hP 0 rfl rfl 13 (by decide) (hts (.fieldLink RX6 37 "BootstayModel" "last" "I") (by decide +kernel)) (fun _ h9 => h9) rfl dX6_isPiece_56 ?_
        refine va_put (D := D) (ci := 6) (v := .int u_27) (ty := .int) (C := RX6) (T := TX6) (N := 14) hx hb hts hi6 tyX6 tyX6_ok nmX6 hown hK hP hD hS 0 rfl rfl 13 (by decide) (hts (.fieldLink RX6 37 "BootstayModel" "last" "I") (by decide +kernel)) (fun _ h9 => h9) rfl (by decide +kernel) rfl rfl (Nat.le_of_ble_eq_true rfl) dX6_isPiece_59 (fun H locs hP hD hS => ?_)
        have hP : va_P D vwCl [(mo, .inr (6, [.ref fa, .ref ka, .int on, .int rn, .int lf, .int wt, .int nv, .int nl, .int nh, .int nc, .int cm, .ref da, .int dn, .int u_27])), (fa, .inl (cA, 66, .inl fl)), (ka, .inl (cA, 66, .inl kp)), (da, .inl (cA, 24, .inl dr))] H := hP
        have hD : va_D A [(mo, .inr (6, [.ref fa, .ref ka, .int on, .int rn, .int lf, .int wt, .int nv, .int nl, .int nh, .int nc, .int cm, .ref da, .int dn, .int u_27])), (fa, .inl (cA, 66, .inl fl)), (ka, .inl (cA, 66, .inl kp)), (da, .inl (cA, 24, .inl dr))] := hD
        refine lv_aload_n hx hb dX6_isPiece_62 rfl (lv_at hl 1 rfl) ?_
        refine va_get (D := D) (ci := 6) (v := .int u_27) (C := RX6) (T := TX6) (N := 14) hx hb hts hi6 hown hK hP 0 rfl rfl 13 (by decide) (hts (.fieldLink RX6 37 "BootstayModel" "last" "I") (by decide +kernel)) (fun _ h9 => h9) rfl dX6_isPiece_63 ?_
        refine lv_if_ne (tgt := 73) hx hb dX6_isPiece_66 (by decide) (fun c_32 => ?_) (fun c_32 => ?_)
        · skip
          refine lv_iconst (v := 0) hx hb dX6_isPiece_73 (by decide) ?_
          exact W.zret (v := 0) hx hb hr rfl (fun t ht hW => ⟨⟨0, u_27, rfl, ⟨(by simp only [F_X6_isPiece, if_neg c_7, if_neg c_18, if_pos c_31, if_neg c_32, ← h_26]), (by decide)⟩, ⟨by rw [ht]; exact hP, hD⟩⟩, hS.F ht⟩) hS.2.2 dX6_isPiece_74
        · skip
          refine lv_iconst (v := 1) hx hb dX6_isPiece_69 (by decide) ?_
          refine lv_goto (tgt := 74) hx hb dX6_isPiece_70 (by decide) ?_
          exact W.zret (v := 1) hx hb hr rfl (fun t ht hW => ⟨⟨1, u_27, rfl, ⟨(by simp only [F_X6_isPiece, if_neg c_7, if_neg c_18, if_pos c_31, if_pos c_32, ← h_26]), (by decide)⟩, ⟨by rw [ht]; exact hP, hD⟩⟩, hS.F ht⟩) hS.2.2 dX6_isPiece_74
      · skip
        refine lv_iload_n hx hb dX6_isPiece_36 rfl (lv_at hl 3 rfl) ?_
        refine lv_iconst (v := 0) hx hb dX6_isPiece_37 (by decide) ?_
        refine lv_aload_n hx hb dX6_isPiece_38 rfl (lv_at hl 1 rfl) ?_
        refine lv_iload_n hx hb dX6_isPiece_39 rfl (lv_at hl 2 rfl) ?_
        refine bx_ri (va_runV (As := [.int p0]) (rest := [.int 0, .int p1, .ref mo]) ⟨hx, hb, hml, hown, hts⟩ (c_X6_countPieces l D cA mo fa ka da fl kp on rn lf wt nv nl nh nc cm dr dn u_27 p0 (isSlot_sl c_7) hd (hLL p0 (isSlot_sl c_7))) (cwV 1 hts gX6_isPiece_X6_countPieces rfl rfl rfl (by decide +kernel) ⟨Nat.le_of_ble_eq_true rfl, Nat.le_of_ble_eq_true rfl⟩) (bx_pvr (ci := 6) (q0 := 0) hK hG (hP.sub (ws' := [(mo, .inr (6, [.ref fa, .ref ka, .int on, .int rn, .int lf, .int wt, .int nv, .int nl, .int nh, .int nc, .int cm, .ref da, .int dn, .int u_27])), (fa, .inl (cA, 66, .inl fl)), (ka, .inl (cA, 66, .inl kp)), (da, .inl (cA, 24, .inl dr))]) [0, 1, 2, 3] rfl) rfl rfl) rfl rfl hl.1 rfl (lv_room (Nat.le_of_ble_eq_true rfl)) dX6_isPiece_40 ⟨Nat.zero_le _, Nat.zero_le _⟩) (fun r_33 h_34 => ?_)
        have h_34 := h_34.symm
        subst h_34
        refine lv_iconst (v := 1) hx hb dX6_isPiece_43 (by decide) ?_
        refine lv_isub hx hb dX6_isPiece_44 ?_
        refine bx_ri (va_runS (As := [.int p1, .int 0, .int ((F_X6_countPieces fl dr dn p0) - 1)]) (rest := [.ref mo]) ⟨hx, hb, hml, hown, hts⟩ (c_X6_in l D p1 0 ((F_X6_countPieces fl dr dn p0) - 1)) (va_cwS 3 hts gX6_isPiece_X6_in rfl rfl rfl (by decide +kernel) ⟨Nat.le_of_ble_eq_true rfl, Nat.le_of_ble_eq_true rfl⟩) (bx_psr (hK.sub (tys' := []) [] rfl) hG (hP.sub (ws' := []) [] rfl)) rfl rfl hl.1 rfl (lv_room (Nat.le_of_ble_eq_true rfl)) dX6_isPiece_45 ⟨Nat.zero_le _, Nat.zero_le _⟩) (fun r_35 h_36 => ?_)
        obtain ⟨h_36, b_37⟩ := h_36
        have h_36 := h_36.symm
        subst h_36
        refine lv_if_ne (tgt := 55) hx hb dX6_isPiece_48 (by decide) (fun c_38 => ?_) (fun c_38 => ?_)
        · skip
          refine lv_aload_n hx hb dX6_isPiece_55 rfl (lv_at hl 1 rfl) ?_
          refine va_get (D := D) (ci := 6) (v := .int u_27) (C := RX6) (T := TX6) (N := 14) hx hb hts hi6 hown hK hP 0 rfl rfl 13 (by decide) (hts (.fieldLink RX6 37 "BootstayModel" "last" "I") (by decide +kernel)) (fun _ h9 => h9) rfl dX6_isPiece_56 ?_
          refine va_put (D := D) (ci := 6) (v := .int u_27) (ty := .int) (C := RX6) (T := TX6) (N := 14) hx hb hts hi6 tyX6 tyX6_ok nmX6 hown hK hP hD hS 0 rfl rfl 13 (by decide) (hts (.fieldLink RX6 37 "BootstayModel" "last" "I") (by decide +kernel)) (fun _ h9 => h9) rfl (by decide +kernel) rfl rfl (Nat.le_of_ble_eq_true rfl) dX6_isPiece_59 (fun H locs hP hD hS => ?_)
          have hP : va_P D vwCl [(mo, .inr (6, [.ref fa, .ref ka, .int on, .int rn, .int lf, .int wt, .int nv, .int nl, .int nh, .int nc, .int cm, .ref da, .int dn, .int u_27])), (fa, .inl (cA, 66, .inl fl)), (ka, .inl (cA, 66, .inl kp)), (da, .inl (cA, 24, .inl dr))] H := hP
          have hD : va_D A [(mo, .inr (6, [.ref fa, .ref ka, .int on, .int rn, .int lf, .int wt, .int nv, .int nl, .int nh, .int nc, .int cm, .ref da, .int dn, .int u_27])), (fa, .inl (cA, 66, .inl fl)), (ka, .inl (cA, 66, .inl kp)), (da, .inl (cA, 24, .inl dr))] := hD
          refine lv_aload_n hx hb dX6_isPiece_62 rfl (lv_at hl 1 rfl) ?_
          refine va_get (D := D) (ci := 6) (v := .int u_27) (C := RX6) (T := TX6) (N := 14) hx hb hts hi6 hown hK hP 0 rfl rfl 13 (by decide) (hts (.fieldLink RX6 37 "BootstayModel" "last" "I") (by decide +kernel)) (fun _ h9 => h9) rfl dX6_isPiece_63 ?_
          refine lv_if_ne (tgt := 73) hx hb dX6_isPiece_66 (by decide) (fun c_39 => ?_) (fun c_39 => ?_)
          · skip
            refine lv_iconst (v := 0) hx hb dX6_isPiece_73 (by decide) ?_
            exact W.zret (v := 0) hx hb hr rfl (fun t ht hW => ⟨⟨0, u_27, rfl, ⟨(by simp only [F_X6_isPiece, if_neg c_7, if_neg c_18, if_neg c_31, if_neg c_38, if_neg c_39, ← h_26]), (by decide)⟩, ⟨by rw [ht]; exact hP, hD⟩⟩, hS.F ht⟩) hS.2.2 dX6_isPiece_74
          · skip
            refine lv_iconst (v := 1) hx hb dX6_isPiece_69 (by decide) ?_
            refine lv_goto (tgt := 74) hx hb dX6_isPiece_70 (by decide) ?_
            exact W.zret (v := 1) hx hb hr rfl (fun t ht hW => ⟨⟨1, u_27, rfl, ⟨(by simp only [F_X6_isPiece, if_neg c_7, if_neg c_18, if_neg c_31, if_neg c_38, if_pos c_39, ← h_26]), (by decide)⟩, ⟨by rw [ht]; exact hP, hD⟩⟩, hS.F ht⟩) hS.2.2 dX6_isPiece_74
        · skip
          refine lv_iconst (v := 3) hx hb dX6_isPiece_51 (by decide) ?_
          refine lv_goto (tgt := 59) hx hb dX6_isPiece_52 (by decide) ?_
          refine va_put (D := D) (ci := 6) (v := .int 3) (ty := .int) (C := RX6) (T := TX6) (N := 14) hx hb hts hi6 tyX6 tyX6_ok nmX6 hown hK hP hD hS 0 rfl rfl 13 (by decide) (hts (.fieldLink RX6 37 "BootstayModel" "last" "I") (by decide +kernel)) (fun _ h9 => h9) rfl (by decide +kernel) rfl rfl (Nat.le_of_ble_eq_true rfl) dX6_isPiece_59 (fun H locs hP hD hS => ?_)
          have hP : va_P D vwCl [(mo, .inr (6, [.ref fa, .ref ka, .int on, .int rn, .int lf, .int wt, .int nv, .int nl, .int nh, .int nc, .int cm, .ref da, .int dn, .int 3])), (fa, .inl (cA, 66, .inl fl)), (ka, .inl (cA, 66, .inl kp)), (da, .inl (cA, 24, .inl dr))] H := hP
          have hD : va_D A [(mo, .inr (6, [.ref fa, .ref ka, .int on, .int rn, .int lf, .int wt, .int nv, .int nl, .int nh, .int nc, .int cm, .ref da, .int dn, .int 3])), (fa, .inl (cA, 66, .inl fl)), (ka, .inl (cA, 66, .inl kp)), (da, .inl (cA, 24, .inl dr))] := hD
          refine lv_aload_n hx hb dX6_isPiece_62 rfl (lv_at hl 1 rfl) ?_
          refine va_get (D := D) (ci := 6) (v := .int 3) (C := RX6) (T := TX6) (N := 14) hx hb hts hi6 hown hK hP 0 rfl rfl 13 (by decide) (hts (.fieldLink RX6 37 "BootstayModel" "last" "I") (by decide +kernel)) (fun _ h9 => h9) rfl dX6_isPiece_63 ?_
          refine lv_if_ne (tgt := 73) hx hb dX6_isPiece_66 (by decide) (fun c_40 => ?_) (fun c_40 => ?_)
          · skip
            refine lv_iconst (v := 0) hx hb dX6_isPiece_73 (by decide) ?_
            exact W.zret (v := 0) hx hb hr rfl (fun t ht hW => ⟨⟨0, 3, rfl, ⟨(by simp only [F_X6_isPiece, if_neg c_7, if_neg c_18, if_neg c_31, if_pos c_38, if_neg c_40, ← h_26]), (by decide)⟩, ⟨by rw [ht]; exact hP, hD⟩⟩, hS.F ht⟩) hS.2.2 dX6_isPiece_74
          · skip
            exact absurd c_40 (by decide)
theorem isPiece_nz {fl dr : Nat → Int32} {dn p0 p1 r la : Int32} (h : (r, la) = F_X6_isPiece fl dr dn p0 p1) (hr : ¬ r = 0) : sl p0 ∧ p1.toNatClampNeg ≤ 24 := by
  unfold F_X6_isPiece at h
  by_cases c1 : F_X6_isSlot p0 = 0
  · exfalso
    simp only [if_pos c1, F_X6_goes, ↓reduceIte] at h
    first | (cases h; exact hr rfl) | (split at h <;> cases h <;> exact hr rfl)
  · refine ⟨isSlot_sl c1, ?_⟩
    by_cases c2 : F_X6_canStart fl p0 = 0
    · exfalso
      simp only [if_neg c1, if_pos c2, F_X6_goes, ↓reduceIte] at h
      first | (cases h; exact hr rfl) | (split at h <;> cases h <;> exact hr rfl)
    · by_cases c3 : F_X6_in p1 0 (F_X6_countPieces fl dr dn p0 - 1) = 0
      · exfalso
        simp only [if_neg c1, if_neg c2, F_X6_goes, if_pos c3, ↓reduceIte] at h
        first | (cases h; exact hr rfl) | (split at h <;> cases h <;> exact hr rfl)
      · exact hash_pc c3 (cnt_rng fl dr dn p0)
def F_X6_deltaLength (fl : Nat → Int32) (dr : Nat → Int32) (dn : Int32) (p0 : Int32) (p1 : Int32) : Int32 × (Int32) := (match (F_X6_isPiece fl dr dn p0 p1) with | (r_3, u_2) => (if r_3 = 0 then (0, u_2) else ((F_X6_pieceLength fl dr dn p0 (F_X6_placeOf fl dr dn p0 p1)), u_2)))
set_option maxHeartbeats 4000000 in
set_option maxRecDepth 100000 in
theorem c_X6_deltaLength (l : Launch) (D : va_G) (cA : ClassId) (mo fa ka da : Nat) (sz : Nat) (fl : Nat → Int32) (kp : Nat → Int32) (on : Int32) (rn : Int32) (lf : Int32) (wt : Int32) (nv : Int32) (nl : Int32) (nh : Int32) (nc : Int32) (cm : Int32) (dr : Nat → Int32) (dn : Int32) (la : Int32) (p0 : Int32) (p1 : Int32) (hd : dn.toNatClampNeg ≤ 24) (hLL : okL fl) : Met l yX6_deltaLength wsX6_deltaLength ({ frames := 5, cells := 0, slots := 0, locals := 117 }) (va_Pc [.ref mo, .int p0, .int p1] (bx_pre D [(cA, .int)] (wMo cA mo fa ka da fl kp on rn lf wt nv nl nh nc cm dr dn la) sz)) (va_Qi (fun r u => (r, u) = F_X6_deltaLength fl dr dn p0 p1) (fun u t => bx_at D (wMo cA mo fa ka da fl kp on rn lf wt nv nl nh nc cm dr dn u) (va_A (wMo cA mo fa ka da fl kp on rn lf wt nv nl nh nc cm dr dn la) sz) t) (va_A (wMo cA mo fa ka da fl kp on rn lf wt nv nl nh nc cm dr dn la) sz)) 0 0 (va_A (wMo cA mo fa ka da fl kp on rn lf wt nv nl nh nc cm dr dn la) sz) := by
  refine Met.ofW (cc := cX6_deltaLength) (maxL := 3) (ret := (some .int)) (by decide) rfl ?_
  intro p e s m args below meth c s₁ B hml hv
  obtain ⟨rfl, hsz, hP, hK, hD0, hG⟩ := hv
  have hx := B.exec
  have hb := B.bytes
  have hr := B.returns
  have hts := atoms_spec (ws := wsX6_deltaLength) B.pre
  have hown : s.vm.findClass RX6 = some m.cls := findClass_of_methodNamed B.named
  have hlocks := B.notSynchronized
  subst hsz
  have hD := hD0.self (sz := s.heap.size)
  generalize hAe : va_A (wMo cA mo fa ka da fl kp on rn lf wt nv nl nh nc cm dr dn la) s.heap.size = A at hD ⊢
  have hA : ∀ q : Nat, s.heap.size ≤ q → A q := fun q h => by rw [← hAe]; exact Or.inr h
  have hS : va_S A s.heap s.heap [] := va_S.rf
  have hD : va_D A [(mo, .inr (6, [.ref fa, .ref ka, .int on, .int rn, .int lf, .int wt, .int nv, .int nl, .int nh, .int nc, .int cm, .ref da, .int dn, .int la])), (fa, .inl (cA, 66, .inl fl)), (ka, .inl (cA, 66, .inl kp)), (da, .inl (cA, 24, .inl dr))] := hD
  have hP : va_P D vwCl [(mo, .inr (6, [.ref fa, .ref ka, .int on, .int rn, .int lf, .int wt, .int nv, .int nl, .int nh, .int nc, .int cm, .ref da, .int dn, .int la])), (fa, .inl (cA, 66, .inl fl)), (ka, .inl (cA, 66, .inl kp)), (da, .inl (cA, 24, .inl dr))] s.heap := hP
  have hl := lv_entry ([.ref mo, .int p0, .int p1]) (n := 3) (Nat.le_of_ble_eq_true rfl)
  rw [lg_entry_eq]
  generalize (lg_sl ([.ref mo, .int p0, .int p1]) ++ List.replicate (3 - (lg_sl ([.ref mo, .int p0, .int p1])).length) Slot.unset).toArray = ls at hl ⊢
  have hl : lv_has ls 3 [(0, .ref mo), (1, .int p0), (2, .int p1)] := hl
  refine lv_aload_n hx hb dX6_deltaLength_0 rfl (lv_at hl 0 rfl) ?_
  refine lv_iload_n hx hb dX6_deltaLength_1 rfl (lv_at hl 1 rfl) ?_
  refine lv_iload_n hx hb dX6_deltaLength_2 rfl (lv_at hl 2 rfl) ?_
  refine bx_wi (wc := [(mo, .inr (6, [.ref fa, .ref ka, .int on, .int rn, .int lf, .int wt, .int nv, .int nl, .int nh, .int nc, .int cm, .ref da, .int dn, .int la])), (fa, .inl (cA, 66, .inl fl)), (ka, .inl (cA, 66, .inl kp)), (da, .inl (cA, 24, .inl dr))]) (wr := []) (wf := fun (u : (Int32)) => [(mo, .inr (6, [.ref fa, .ref ka, .int on, .int rn, .int lf, .int wt, .int nv, .int nl, .int nh, .int nc, .int cm, .ref da, .int dn, .int u])), (fa, .inl (cA, 66, .inl fl)), (ka, .inl (cA, 66, .inl kp)), (da, .inl (cA, 24, .inl dr))]) (wn := fun (u : (Int32)) => [(mo, .inr (6, [.ref fa, .ref ka, .int on, .int rn, .int lf, .int wt, .int nv, .int nl, .int nh, .int nc, .int cm, .ref da, .int dn, .int u])), (fa, .inl (cA, 66, .inl fl)), (ka, .inl (cA, 66, .inl kp)), (da, .inl (cA, 24, .inl dr))]) hP hD hS hA [0, 1, 2, 3] [] [0, 1, 2, 3] rfl rfl (by decide) (by decide) (fun u => rfl) (by decide) (va_runV (As := [.int p0, .int p1]) (rest := []) ⟨hx, hb, hml, hown, hts⟩ (c_X6_isPiece l D cA mo fa ka da s.heap.size fl kp on rn lf wt nv nl nh nc cm dr dn la p0 p1 hd hLL) (cwV 2 hts gX6_deltaLength_X6_isPiece rfl rfl rfl (by decide +kernel) ⟨Nat.le_of_ble_eq_true rfl, Nat.le_of_ble_eq_true rfl⟩) (bx_pv (ci := 6) (q0 := 0) hK hG (hP.sub (ws' := [(mo, .inr (6, [.ref fa, .ref ka, .int on, .int rn, .int lf, .int wt, .int nv, .int nl, .int nh, .int nc, .int cm, .ref da, .int dn, .int la])), (fa, .inl (cA, 66, .inl fl)), (ka, .inl (cA, 66, .inl kp)), (da, .inl (cA, 24, .inl dr))]) [0, 1, 2, 3] rfl) (hD.sub (ws' := [(mo, .inr (6, [.ref fa, .ref ka, .int on, .int rn, .int lf, .int wt, .int nv, .int nl, .int nh, .int nc, .int cm, .ref da, .int dn, .int la])), (fa, .inl (cA, 66, .inl fl)), (ka, .inl (cA, 66, .inl kp)), (da, .inl (cA, 24, .inl dr))]) [0, 1, 2, 3] (by decide) rfl) rfl rfl) rfl rfl hl.1 rfl (lv_room (Nat.le_of_ble_eq_true rfl)) dX6_deltaLength_3 ⟨Nat.zero_le _, Nat.zero_le _⟩) (fun r_3 u_2 H locs h_1 hP hD hS => ?_)
  obtain ⟨h_1, b_5⟩ := h_1
  have hP : va_P D vwCl [(mo, .inr (6, [.ref fa, .ref ka, .int on, .int rn, .int lf, .int wt, .int nv, .int nl, .int nh, .int nc, .int cm, .ref da, .int dn, .int u_2])), (fa, .inl (cA, 66, .inl fl)), (ka, .inl (cA, 66, .inl kp)), (da, .inl (cA, 24, .inl dr))] H := hP
  have hD : va_D A [(mo, .inr (6, [.ref fa, .ref ka, .int on, .int rn, .int lf, .int wt, .int nv, .int nl, .int nh, .int nc, .int cm, .ref da, .int dn, .int u_2])), (fa, .inl (cA, 66, .inl fl)), (ka, .inl (cA, 66, .inl kp)), (da, .inl (cA, 24, .inl dr))] := hD
  refine lv_if_eq (tgt := 23) hx hb dX6_deltaLength_6 (by decide) (fun c_6 => ?_) (fun c_6 => ?_)
  · skip
    refine lv_iconst (v := 0) hx hb dX6_deltaLength_23 (by decide) ?_
    exact W.iret (v := 0) hx hb hr (fun t ht hW => ⟨⟨0, u_2, rfl, (by simp only [F_X6_deltaLength, if_pos c_6, ← h_1]), ⟨by rw [ht]; exact hP, hD⟩⟩, hS.F ht⟩) hS.2.2 dX6_deltaLength_24
  · skip
    refine lv_aload_n hx hb dX6_deltaLength_9 rfl (lv_at hl 0 rfl) ?_
    refine lv_iload_n hx hb dX6_deltaLength_10 rfl (lv_at hl 1 rfl) ?_
    refine lv_aload_n hx hb dX6_deltaLength_11 rfl (lv_at hl 0 rfl) ?_
    refine lv_iload_n hx hb dX6_deltaLength_12 rfl (lv_at hl 1 rfl) ?_
    refine lv_iload_n hx hb dX6_deltaLength_13 rfl (lv_at hl 2 rfl) ?_
    refine bx_ri (va_runV (As := [.int p0, .int p1]) (rest := [.int p0, .ref mo]) ⟨hx, hb, hml, hown, hts⟩ (c_X6_placeOf l D cA mo fa ka da fl kp on rn lf wt nv nl nh nc cm dr dn u_2 p0 p1 ((isPiece_nz h_1 c_6).1) hd (hLL p0 (isPiece_nz h_1 c_6).1) ((isPiece_nz h_1 c_6).2)) (cwV 2 hts gX6_deltaLength_X6_placeOf rfl rfl rfl (by decide +kernel) ⟨Nat.le_of_ble_eq_true rfl, Nat.le_of_ble_eq_true rfl⟩) (bx_pvr (ci := 6) (q0 := 0) hK hG (hP.sub (ws' := [(mo, .inr (6, [.ref fa, .ref ka, .int on, .int rn, .int lf, .int wt, .int nv, .int nl, .int nh, .int nc, .int cm, .ref da, .int dn, .int u_2])), (fa, .inl (cA, 66, .inl fl)), (ka, .inl (cA, 66, .inl kp)), (da, .inl (cA, 24, .inl dr))]) [0, 1, 2, 3] rfl) rfl rfl) rfl rfl hl.1 rfl (lv_room (Nat.le_of_ble_eq_true rfl)) dX6_deltaLength_14 ⟨Nat.zero_le _, Nat.zero_le _⟩) (fun r_7 h_8 => ?_)
    have h_8 := h_8.symm
    subst h_8
    refine bx_ri (va_runV (As := [.int p0, .int (F_X6_placeOf fl dr dn p0 p1)]) (rest := []) ⟨hx, hb, hml, hown, hts⟩ (c_X6_pieceLength l D cA mo fa ka da fl kp on rn lf wt nv nl nh nc cm dr dn u_2 p0 (F_X6_placeOf fl dr dn p0 p1) ((isPiece_nz h_1 c_6).1) hd (hLL p0 (isPiece_nz h_1 c_6).1) (place_rng fl dr dn p0 p1 (isPiece_nz h_1 c_6).2)) (cwV 2 hts gX6_deltaLength_X6_pieceLength rfl rfl rfl (by decide +kernel) ⟨Nat.le_of_ble_eq_true rfl, Nat.le_of_ble_eq_true rfl⟩) (bx_pvr (ci := 6) (q0 := 0) hK hG (hP.sub (ws' := [(mo, .inr (6, [.ref fa, .ref ka, .int on, .int rn, .int lf, .int wt, .int nv, .int nl, .int nh, .int nc, .int cm, .ref da, .int dn, .int u_2])), (fa, .inl (cA, 66, .inl fl)), (ka, .inl (cA, 66, .inl kp)), (da, .inl (cA, 24, .inl dr))]) [0, 1, 2, 3] rfl) rfl rfl) rfl rfl hl.1 rfl (lv_room (Nat.le_of_ble_eq_true rfl)) dX6_deltaLength_17 ⟨Nat.zero_le _, Nat.zero_le _⟩) (fun r_9 h_10 => ?_)
    have h_10 := h_10.symm
    subst h_10
    refine lv_goto (tgt := 24) hx hb dX6_deltaLength_20 (by decide) ?_
    exact W.iret (v := (F_X6_pieceLength fl dr dn p0 (F_X6_placeOf fl dr dn p0 p1))) hx hb hr (fun t ht hW => ⟨⟨(F_X6_pieceLength fl dr dn p0 (F_X6_placeOf fl dr dn p0 p1)), u_2, rfl, (by simp only [F_X6_deltaLength, if_neg c_6, ← h_1]), ⟨by rw [ht]; exact hP, hD⟩⟩, hS.F ht⟩) hS.2.2 dX6_deltaLength_24
def F_X6_deltaFrom (fl : Nat → Int32) (dr : Nat → Int32) (dn : Int32) (p0 : Int32) (p1 : Int32) : Int32 × (Int32) := (match (F_X6_isPiece fl dr dn p0 p1) with | (r_3, u_2) => (if r_3 = 0 then (0, u_2) else (if (F_X6_pieceLength fl dr dn p0 (F_X6_placeOf fl dr dn p0 p1)) ≤ 1 then ((-1), u_2) else ((F_X6_bestFrom fl dr dn p0 (F_X6_placeOf fl dr dn p0 p1)), u_2))))
set_option maxHeartbeats 4000000 in
set_option maxRecDepth 100000 in
theorem c_X6_deltaFrom (l : Launch) (D : va_G) (cA : ClassId) (mo fa ka da : Nat) (sz : Nat) (fl : Nat → Int32) (kp : Nat → Int32) (on : Int32) (rn : Int32) (lf : Int32) (wt : Int32) (nv : Int32) (nl : Int32) (nh : Int32) (nc : Int32) (cm : Int32) (dr : Nat → Int32) (dn : Int32) (la : Int32) (p0 : Int32) (p1 : Int32) (hd : dn.toNatClampNeg ≤ 24) (hLL : okL fl) : Met l yX6_deltaFrom wsX6_deltaFrom ({ frames := 5, cells := 0, slots := 0, locals := 117 }) (va_Pc [.ref mo, .int p0, .int p1] (bx_pre D [(cA, .int)] (wMo cA mo fa ka da fl kp on rn lf wt nv nl nh nc cm dr dn la) sz)) (va_Qi (fun r u => (r, u) = F_X6_deltaFrom fl dr dn p0 p1) (fun u t => bx_at D (wMo cA mo fa ka da fl kp on rn lf wt nv nl nh nc cm dr dn u) (va_A (wMo cA mo fa ka da fl kp on rn lf wt nv nl nh nc cm dr dn la) sz) t) (va_A (wMo cA mo fa ka da fl kp on rn lf wt nv nl nh nc cm dr dn la) sz)) 0 0 (va_A (wMo cA mo fa ka da fl kp on rn lf wt nv nl nh nc cm dr dn la) sz) := by
  refine Met.ofW (cc := cX6_deltaFrom) (maxL := 4) (ret := (some .int)) (by decide) rfl ?_
  intro p e s m args below meth c s₁ B hml hv
  obtain ⟨rfl, hsz, hP, hK, hD0, hG⟩ := hv
  have hx := B.exec
  have hb := B.bytes
  have hr := B.returns
  have hts := atoms_spec (ws := wsX6_deltaFrom) B.pre
  have hown : s.vm.findClass RX6 = some m.cls := findClass_of_methodNamed B.named
  have hlocks := B.notSynchronized
  subst hsz
  have hD := hD0.self (sz := s.heap.size)
  generalize hAe : va_A (wMo cA mo fa ka da fl kp on rn lf wt nv nl nh nc cm dr dn la) s.heap.size = A at hD ⊢
  have hA : ∀ q : Nat, s.heap.size ≤ q → A q := fun q h => by rw [← hAe]; exact Or.inr h
  have hS : va_S A s.heap s.heap [] := va_S.rf
  have hD : va_D A [(mo, .inr (6, [.ref fa, .ref ka, .int on, .int rn, .int lf, .int wt, .int nv, .int nl, .int nh, .int nc, .int cm, .ref da, .int dn, .int la])), (fa, .inl (cA, 66, .inl fl)), (ka, .inl (cA, 66, .inl kp)), (da, .inl (cA, 24, .inl dr))] := hD
  have hP : va_P D vwCl [(mo, .inr (6, [.ref fa, .ref ka, .int on, .int rn, .int lf, .int wt, .int nv, .int nl, .int nh, .int nc, .int cm, .ref da, .int dn, .int la])), (fa, .inl (cA, 66, .inl fl)), (ka, .inl (cA, 66, .inl kp)), (da, .inl (cA, 24, .inl dr))] s.heap := hP
  have hl := lv_entry ([.ref mo, .int p0, .int p1]) (n := 4) (Nat.le_of_ble_eq_true rfl)
  rw [lg_entry_eq]
  generalize (lg_sl ([.ref mo, .int p0, .int p1]) ++ List.replicate (4 - (lg_sl ([.ref mo, .int p0, .int p1])).length) Slot.unset).toArray = ls at hl ⊢
  have hl : lv_has ls 4 [(0, .ref mo), (1, .int p0), (2, .int p1)] := hl
  refine lv_aload_n hx hb dX6_deltaFrom_0 rfl (lv_at hl 0 rfl) ?_
  refine lv_iload_n hx hb dX6_deltaFrom_1 rfl (lv_at hl 1 rfl) ?_
  refine lv_iload_n hx hb dX6_deltaFrom_2 rfl (lv_at hl 2 rfl) ?_
  refine bx_wi (wc := [(mo, .inr (6, [.ref fa, .ref ka, .int on, .int rn, .int lf, .int wt, .int nv, .int nl, .int nh, .int nc, .int cm, .ref da, .int dn, .int la])), (fa, .inl (cA, 66, .inl fl)), (ka, .inl (cA, 66, .inl kp)), (da, .inl (cA, 24, .inl dr))]) (wr := []) (wf := fun (u : (Int32)) => [(mo, .inr (6, [.ref fa, .ref ka, .int on, .int rn, .int lf, .int wt, .int nv, .int nl, .int nh, .int nc, .int cm, .ref da, .int dn, .int u])), (fa, .inl (cA, 66, .inl fl)), (ka, .inl (cA, 66, .inl kp)), (da, .inl (cA, 24, .inl dr))]) (wn := fun (u : (Int32)) => [(mo, .inr (6, [.ref fa, .ref ka, .int on, .int rn, .int lf, .int wt, .int nv, .int nl, .int nh, .int nc, .int cm, .ref da, .int dn, .int u])), (fa, .inl (cA, 66, .inl fl)), (ka, .inl (cA, 66, .inl kp)), (da, .inl (cA, 24, .inl dr))]) hP hD hS hA [0, 1, 2, 3] [] [0, 1, 2, 3] rfl rfl (by decide) (by decide) (fun u => rfl) (by decide) (va_runV (As := [.int p0, .int p1]) (rest := []) ⟨hx, hb, hml, hown, hts⟩ (c_X6_isPiece l D cA mo fa ka da s.heap.size fl kp on rn lf wt nv nl nh nc cm dr dn la p0 p1 hd hLL) (cwV 2 hts gX6_deltaFrom_X6_isPiece rfl rfl rfl (by decide +kernel) ⟨Nat.le_of_ble_eq_true rfl, Nat.le_of_ble_eq_true rfl⟩) (bx_pv (ci := 6) (q0 := 0) hK hG (hP.sub (ws' := [(mo, .inr (6, [.ref fa, .ref ka, .int on, .int rn, .int lf, .int wt, .int nv, .int nl, .int nh, .int nc, .int cm, .ref da, .int dn, .int la])), (fa, .inl (cA, 66, .inl fl)), (ka, .inl (cA, 66, .inl kp)), (da, .inl (cA, 24, .inl dr))]) [0, 1, 2, 3] rfl) (hD.sub (ws' := [(mo, .inr (6, [.ref fa, .ref ka, .int on, .int rn, .int lf, .int wt, .int nv, .int nl, .int nh, .int nc, .int cm, .ref da, .int dn, .int la])), (fa, .inl (cA, 66, .inl fl)), (ka, .inl (cA, 66, .inl kp)), (da, .inl (cA, 24, .inl dr))]) [0, 1, 2, 3] (by decide) rfl) rfl rfl) rfl rfl hl.1 rfl (lv_room (Nat.le_of_ble_eq_true rfl)) dX6_deltaFrom_3 ⟨Nat.zero_le _, Nat.zero_le _⟩) (fun r_3 u_2 H locs h_1 hP hD hS => ?_)
  obtain ⟨h_1, b_5⟩ := h_1
  have hP : va_P D vwCl [(mo, .inr (6, [.ref fa, .ref ka, .int on, .int rn, .int lf, .int wt, .int nv, .int nl, .int nh, .int nc, .int cm, .ref da, .int dn, .int u_2])), (fa, .inl (cA, 66, .inl fl)), (ka, .inl (cA, 66, .inl kp)), (da, .inl (cA, 24, .inl dr))] H := hP
  have hD : va_D A [(mo, .inr (6, [.ref fa, .ref ka, .int on, .int rn, .int lf, .int wt, .int nv, .int nl, .int nh, .int nc, .int cm, .ref da, .int dn, .int u_2])), (fa, .inl (cA, 66, .inl fl)), (ka, .inl (cA, 66, .inl kp)), (da, .inl (cA, 24, .inl dr))] := hD
  refine lv_if_ne (tgt := 11) hx hb dX6_deltaFrom_6 (by decide) (fun c_6 => ?_) (fun c_6 => ?_)
  · skip
    refine lv_aload_n hx hb dX6_deltaFrom_11 rfl (lv_at hl 0 rfl) ?_
    refine lv_iload_n hx hb dX6_deltaFrom_12 rfl (lv_at hl 1 rfl) ?_
    refine lv_iload_n hx hb dX6_deltaFrom_13 rfl (lv_at hl 2 rfl) ?_
    refine bx_ri (va_runV (As := [.int p0, .int p1]) (rest := []) ⟨hx, hb, hml, hown, hts⟩ (c_X6_placeOf l D cA mo fa ka da fl kp on rn lf wt nv nl nh nc cm dr dn u_2 p0 p1 ((isPiece_nz h_1 c_6).1) hd (hLL p0 (isPiece_nz h_1 c_6).1) ((isPiece_nz h_1 c_6).2)) (cwV 2 hts gX6_deltaFrom_X6_placeOf rfl rfl rfl (by decide +kernel) ⟨Nat.le_of_ble_eq_true rfl, Nat.le_of_ble_eq_true rfl⟩) (bx_pvr (ci := 6) (q0 := 0) hK hG (hP.sub (ws' := [(mo, .inr (6, [.ref fa, .ref ka, .int on, .int rn, .int lf, .int wt, .int nv, .int nl, .int nh, .int nc, .int cm, .ref da, .int dn, .int u_2])), (fa, .inl (cA, 66, .inl fl)), (ka, .inl (cA, 66, .inl kp)), (da, .inl (cA, 24, .inl dr))]) [0, 1, 2, 3] rfl) rfl rfl) rfl rfl hl.1 rfl (lv_room (Nat.le_of_ble_eq_true rfl)) dX6_deltaFrom_14 ⟨Nat.zero_le _, Nat.zero_le _⟩) (fun r_7 h_8 => ?_)
    have h_8 := h_8.symm
    subst h_8
    refine lv_istore_n (lv' := [(3, .int (F_X6_placeOf fl dr dn p0 p1)), (0, .ref mo), (1, .int p0), (2, .int p1)]) hx hb dX6_deltaFrom_17 rfl hl (by decide) rfl (fun ls hl => ?_)
    refine lv_aload_n hx hb dX6_deltaFrom_18 rfl (lv_at hl 1 rfl) ?_
    refine lv_iload_n hx hb dX6_deltaFrom_19 rfl (lv_at hl 2 rfl) ?_
    refine lv_iload_n hx hb dX6_deltaFrom_20 rfl (lv_at hl 0 rfl) ?_
    refine bx_ri (va_runV (As := [.int p0, .int (F_X6_placeOf fl dr dn p0 p1)]) (rest := []) ⟨hx, hb, hml, hown, hts⟩ (c_X6_pieceLength l D cA mo fa ka da fl kp on rn lf wt nv nl nh nc cm dr dn u_2 p0 (F_X6_placeOf fl dr dn p0 p1) ((isPiece_nz h_1 c_6).1) hd (hLL p0 (isPiece_nz h_1 c_6).1) (place_rng fl dr dn p0 p1 (isPiece_nz h_1 c_6).2)) (cwV 2 hts gX6_deltaFrom_X6_pieceLength rfl rfl rfl (by decide +kernel) ⟨Nat.le_of_ble_eq_true rfl, Nat.le_of_ble_eq_true rfl⟩) (bx_pvr (ci := 6) (q0 := 0) hK hG (hP.sub (ws' := [(mo, .inr (6, [.ref fa, .ref ka, .int on, .int rn, .int lf, .int wt, .int nv, .int nl, .int nh, .int nc, .int cm, .ref da, .int dn, .int u_2])), (fa, .inl (cA, 66, .inl fl)), (ka, .inl (cA, 66, .inl kp)), (da, .inl (cA, 24, .inl dr))]) [0, 1, 2, 3] rfl) rfl rfl) rfl rfl hl.1 rfl (lv_room (Nat.le_of_ble_eq_true rfl)) dX6_deltaFrom_21 ⟨Nat.zero_le _, Nat.zero_le _⟩) (fun r_9 h_10 => ?_)
    have h_10 := h_10.symm
    subst h_10
    refine lv_iconst (v := 1) hx hb dX6_deltaFrom_24 (by decide) ?_
    refine lv_icmp_le (tgt := 37) hx hb dX6_deltaFrom_25 (by decide) (fun c_11 => ?_) (fun c_11 => ?_)
    · skip
      refine lv_iconst (v := (-1)) hx hb dX6_deltaFrom_37 (by decide) ?_
      exact W.iret (v := (-1)) hx hb hr (fun t ht hW => ⟨⟨(-1), u_2, rfl, (by simp only [F_X6_deltaFrom, if_neg c_6, if_pos c_11, ← h_1]), ⟨by rw [ht]; exact hP, hD⟩⟩, hS.F ht⟩) hS.2.2 dX6_deltaFrom_38
    · skip
      refine lv_aload_n hx hb dX6_deltaFrom_28 rfl (lv_at hl 1 rfl) ?_
      refine lv_iload_n hx hb dX6_deltaFrom_29 rfl (lv_at hl 2 rfl) ?_
      refine lv_iload_n hx hb dX6_deltaFrom_30 rfl (lv_at hl 0 rfl) ?_
      refine bx_ri (va_runV (As := [.int p0, .int (F_X6_placeOf fl dr dn p0 p1)]) (rest := []) ⟨hx, hb, hml, hown, hts⟩ (c_X6_bestFrom l D cA mo fa ka da fl kp on rn lf wt nv nl nh nc cm dr dn u_2 p0 (F_X6_placeOf fl dr dn p0 p1) ((isPiece_nz h_1 c_6).1) hd (hLL p0 (isPiece_nz h_1 c_6).1) (place_rng fl dr dn p0 p1 (isPiece_nz h_1 c_6).2)) (cwV 2 hts gX6_deltaFrom_X6_bestFrom rfl rfl rfl (by decide +kernel) ⟨Nat.le_of_ble_eq_true rfl, Nat.le_of_ble_eq_true rfl⟩) (bx_pvr (ci := 6) (q0 := 0) hK hG (hP.sub (ws' := [(mo, .inr (6, [.ref fa, .ref ka, .int on, .int rn, .int lf, .int wt, .int nv, .int nl, .int nh, .int nc, .int cm, .ref da, .int dn, .int u_2])), (fa, .inl (cA, 66, .inl fl)), (ka, .inl (cA, 66, .inl kp)), (da, .inl (cA, 24, .inl dr))]) [0, 1, 2, 3] rfl) rfl rfl) rfl rfl hl.1 rfl (lv_room (Nat.le_of_ble_eq_true rfl)) dX6_deltaFrom_31 ⟨Nat.zero_le _, Nat.zero_le _⟩) (fun r_12 h_13 => ?_)
      have h_13 := h_13.symm
      subst h_13
      refine lv_goto (tgt := 38) hx hb dX6_deltaFrom_34 (by decide) ?_
      exact W.iret (v := (F_X6_bestFrom fl dr dn p0 (F_X6_placeOf fl dr dn p0 p1))) hx hb hr (fun t ht hW => ⟨⟨(F_X6_bestFrom fl dr dn p0 (F_X6_placeOf fl dr dn p0 p1)), u_2, rfl, (by simp only [F_X6_deltaFrom, if_neg c_6, if_neg c_11, ← h_1]), ⟨by rw [ht]; exact hP, hD⟩⟩, hS.F ht⟩) hS.2.2 dX6_deltaFrom_38
  · skip
    refine lv_iconst (v := 0) hx hb dX6_deltaFrom_9 (by decide) ?_
    exact W.iret (v := 0) hx hb hr (fun t ht hW => ⟨⟨0, u_2, rfl, (by simp only [F_X6_deltaFrom, if_pos c_6, ← h_1]), ⟨by rw [ht]; exact hP, hD⟩⟩, hS.F ht⟩) hS.2.2 dX6_deltaFrom_10
