def msN (kp : Nat → Int32) (rn cm nv nl nh nc p0 : Int32) : Nat → Nat → (Nat → Int32) → Int32 → Int32 → Int32 → Int32 → Int32 × (Nat → Int32) × Int32 × Int32 × Int32
  | 0, _, fl, on, lf, wt, n => (n, fl, on, lf, wt)
  | f + 1, j, fl, on, lf, wt, n => match F_X6_finishes fl on rn (nI j) wt nv nl nh nc cm p0 with
    | (r, fl1, _, _, lf1, wt1, _) => msN kp rn cm nv nl nh nc p0 f (j + 1) (mirr fl1 kp 66) 1 lf1 wt1 (if r = 0 then (if F_X6_canStart fl1 (F_X6_nextStart fl1) = 0 then n + 0 else n + 1) else n + 0)
def F_X6_safeFinish (fl kp : Nat → Int32) (on rn lf wt nv nl nh nc cm p0 : Int32) : Int32 × (Nat → Int32) × (Nat → Int32) × Int32 × Int32 × Int32 × Int32 × Int32 × Int32 := match F_X6_goes (F_X6_in p0 1 3) (F_X6_canFinish fl rn nl nh cm) with
  | (r, la) => if r = 0 then (0, fl, kp, on, rn, lf, wt, cm, la) else match msN (mirr kp fl 66) rn cm nv nl nh nc p0 10 0 fl on lf wt 0 with
    | (n, fl1, on1, _, _) => (n, fl1, mirr kp fl 66, on1, rn, lf, wt, cm, la)
theorem okW_mirr {a b : Nat → Int32} (h : okW b) : okW (mirr a b 66) := by
  unfold mirr
  refine ⟨⟨?_, ?_⟩, fun i hi => ?_⟩
  · dsimp only; rw [if_pos (by decide)]; exact h.1.1
  · dsimp only; rw [if_pos (by decide)]; exact h.1.2
  · dsimp only; rw [if_pos (by omega)]; exact h.2 i hi
theorem nextStart_sl {fl : Nat → Int32} (h : okW fl) : sl (F_X6_nextStart fl) := by
  unfold F_X6_nextStart
  split
  · exact conf_sl h
  · exact sl_not (conf_sl h)
 
set_option maxHeartbeats 4000000 in
set_option maxRecDepth 100000 in
theorem c_X6_safeFinish (l : Launch) (D : va_G) (cA : ClassId) (mo fa ka da : Nat) (sz : Nat) (fl : Nat → Int32) (kp : Nat → Int32) (on : Int32) (rn : Int32) (lf : Int32) (wt : Int32) (nv : Int32) (nl : Int32) (nh : Int32) (nc : Int32) (cm : Int32) (dr : Nat → Int32) (dn : Int32) (la : Int32) (p0 : Int32) (hcf : cm < 0 ∨ (sl rn ∧ nl.toNatClampNeg ≤ 24)) (hok : okW fl) (hnl : cm < 0 ∨ (0 ≤ nl.toInt ∧ nl.toInt ≤ 24)) : Met l yX6_safeFinish wsX6_safeFinish ({ frames := 8, cells := 0, slots := 0, locals := 167 }) (va_Pc [.ref mo, .int p0] (bx_pre D [(cA, .int)] (wMo cA mo fa ka da fl kp on rn lf wt nv nl nh nc cm dr dn la) sz)) (va_Qi (fun r u => (r, u) = F_X6_safeFinish fl kp on rn lf wt nv nl nh nc cm p0) (fun u t => bx_at D (wMo cA mo fa ka da u.1 u.2.1 u.2.2.1 u.2.2.2.1 u.2.2.2.2.1 u.2.2.2.2.2.1 nv nl nh nc u.2.2.2.2.2.2.1 dr dn u.2.2.2.2.2.2.2) (va_A (wMo cA mo fa ka da fl kp on rn lf wt nv nl nh nc cm dr dn la) sz) t) (va_A (wMo cA mo fa ka da fl kp on rn lf wt nv nl nh nc cm dr dn la) sz)) 0 0 (va_A (wMo cA mo fa ka da fl kp on rn lf wt nv nl nh nc cm dr dn la) sz) := by
  refine Met.ofW (cc := cX6_safeFinish) (maxL := 10) (ret := (some .int)) (by decide) rfl ?_
  intro p e s m args below meth c s₁ B hml hv
  obtain ⟨rfl, hsz, hP, hK, hD0, hG⟩ := hv
  have hx := B.exec
  have hb := B.bytes
  have hr := B.returns
  have hts := atoms_spec (ws := wsX6_safeFinish) B.pre
  have hown : s.vm.findClass RX6 = some m.cls := findClass_of_methodNamed B.named
  have hlocks := B.notSynchronized
  subst hsz
  have hD := hD0.self (sz := s.heap.size)
  generalize hAe : va_A (wMo cA mo fa ka da fl kp on rn lf wt nv nl nh nc cm dr dn la) s.heap.size = A at hD ⊢
  have hA : ∀ q : Nat, s.heap.size ≤ q → A q := fun q h => by rw [← hAe]; exact Or.inr h
  have hS : va_S A s.heap s.heap [] := va_S.rf
  have hD : va_D A [(mo, .inr (6, [.ref fa, .ref ka, .int on, .int rn, .int lf, .int wt, .int nv, .int nl, .int nh, .int nc, .int cm, .ref da, .int dn, .int la])), (fa, .inl (cA, 66, .inl fl)), (ka, .inl (cA, 66, .inl kp)), (da, .inl (cA, 24, .inl dr))] := hD
  have hP : va_P D vwCl [(mo, .inr (6, [.ref fa, .ref ka, .int on, .int rn, .int lf, .int wt, .int nv, .int nl, .int nh, .int nc, .int cm, .ref da, .int dn, .int la])), (fa, .inl (cA, 66, .inl fl)), (ka, .inl (cA, 66, .inl kp)), (da, .inl (cA, 24, .inl dr))] s.heap := hP
  have hl := lv_entry ([.ref mo, .int p0]) (n := 10) (Nat.le_of_ble_eq_true rfl)
  rw [lg_entry_eq]
  generalize (lg_sl ([.ref mo, .int p0]) ++ List.replicate (10 - (lg_sl ([.ref mo, .int p0])).length) Slot.unset).toArray = ls at hl ⊢
  have hl : lv_has ls 10 [(0, .ref mo), (1, .int p0)] := hl
  have hi6 : ∀ w ∈ u_ws RX6 TX6 14, w ∈ wsX6_safeFinish := by decide +kernel
  refine lv_aload_n hx hb dX6_safeFinish_0 rfl (lv_at hl 0 rfl) ?_
  refine lv_iload_n hx hb dX6_safeFinish_1 rfl (lv_at hl 1 rfl) ?_
  refine lv_iconst (v := 1) hx hb dX6_safeFinish_2 (by decide) ?_
  refine lv_iconst (v := 3) hx hb dX6_safeFinish_3 (by decide) ?_
  refine bx_ri (va_runS (As := [.int p0, .int 1, .int 3]) (rest := [.ref mo]) ⟨hx, hb, hml, hown, hts⟩ (c_X6_in l D p0 1 3) (va_cwS 3 hts gX6_safeFinish_X6_in rfl rfl rfl (by decide +kernel) ⟨Nat.le_of_ble_eq_true rfl, Nat.le_of_ble_eq_true rfl⟩) (bx_psr (hK.sub (tys' := []) [] rfl) hG (hP.sub (ws' := []) [] rfl)) rfl rfl hl.1 rfl (lv_room (Nat.le_of_ble_eq_true rfl)) dX6_safeFinish_4 ⟨Nat.zero_le _, Nat.zero_le _⟩) (fun r_1 h_2 => ?_)
  obtain ⟨h_2, b_3⟩ := h_2
  have h_2 := h_2.symm
  subst h_2
  refine lv_aload_n hx hb dX6_safeFinish_7 rfl (lv_at hl 0 rfl) ?_
  refine bx_ri (va_runV (As := []) (rest := [.int (F_X6_in p0 1 3), .ref mo]) ⟨hx, hb, hml, hown, hts⟩ (c_X6_canFinish l D cA mo fa ka da fl kp on rn lf wt nv nl nh nc cm dr dn la hcf) (cwV 0 hts gX6_safeFinish_X6_canFinish rfl rfl rfl (by decide +kernel) ⟨Nat.le_of_ble_eq_true rfl, Nat.le_of_ble_eq_true rfl⟩) (bx_pvr (ci := 6) (q0 := 0) hK hG (hP.sub (ws' := [(mo, .inr (6, [.ref fa, .ref ka, .int on, .int rn, .int lf, .int wt, .int nv, .int nl, .int nh, .int nc, .int cm, .ref da, .int dn, .int la])), (fa, .inl (cA, 66, .inl fl)), (ka, .inl (cA, 66, .inl kp)), (da, .inl (cA, 24, .inl dr))]) [0, 1, 2, 3] rfl) rfl rfl) rfl rfl hl.1 rfl (lv_room (Nat.le_of_ble_eq_true rfl)) dX6_safeFinish_8 ⟨Nat.zero_le _, Nat.zero_le _⟩) (fun r_4 h_5 => ?_)
  obtain ⟨h_5, b_6⟩ := h_5
  have h_5 := h_5.symm
  subst h_5
  refine bx_wi (wc := [(mo, .inr (6, [.ref fa, .ref ka, .int on, .int rn, .int lf, .int wt, .int nv, .int nl, .int nh, .int nc, .int cm, .ref da, .int dn, .int la])), (fa, .inl (cA, 66, .inl fl)), (ka, .inl (cA, 66, .inl kp)), (da, .inl (cA, 24, .inl dr))]) (wr := []) (wf := fun (u : (Int32)) => [(mo, .inr (6, [.ref fa, .ref ka, .int on, .int rn, .int lf, .int wt, .int nv, .int nl, .int nh, .int nc, .int cm, .ref da, .int dn, .int u])), (fa, .inl (cA, 66, .inl fl)), (ka, .inl (cA, 66, .inl kp)), (da, .inl (cA, 24, .inl dr))]) (wn := fun (u : (Int32)) => [(mo, .inr (6, [.ref fa, .ref ka, .int on, .int rn, .int lf, .int wt, .int nv, .int nl, .int nh, .int nc, .int cm, .ref da, .int dn, .int u])), (fa, .inl (cA, 66, .inl fl)), (ka, .inl (cA, 66, .inl kp)), (da, .inl (cA, 24, .inl dr))]) hP hD hS hA [0, 1, 2, 3] [] [0, 1, 2, 3] rfl rfl (by decide) (by decide) (fun u => rfl) (by decide) (va_runV (As := [.int (F_X6_in p0 1 3), .int (F_X6_canFinish fl rn nl nh cm)]) (rest := []) ⟨hx, hb, hml, hown, hts⟩ (c_X6_goes l D cA mo fa ka da s.heap.size fl kp on rn lf wt nv nl nh nc cm dr dn la (F_X6_in p0 1 3) (F_X6_canFinish fl rn nl nh cm)) (cwV 2 hts gX6_safeFinish_X6_goes rfl rfl rfl (by decide +kernel) ⟨Nat.le_of_ble_eq_true rfl, Nat.le_of_ble_eq_true rfl⟩) (bx_pv (ci := 6) (q0 := 0) hK hG (hP.sub (ws' := [(mo, .inr (6, [.ref fa, .ref ka, .int on, .int rn, .int lf, .int wt, .int nv, .int nl, .int nh, .int nc, .int cm, .ref da, .int dn, .int la])), (fa, .inl (cA, 66, .inl fl)), (ka, .inl (cA, 66, .inl kp)), (da, .inl (cA, 24, .inl dr))]) [0, 1, 2, 3] rfl) (hD.sub (ws' := [(mo, .inr (6, [.ref fa, .ref ka, .int on, .int rn, .int lf, .int wt, .int nv, .int nl, .int nh, .int nc, .int cm, .ref da, .int dn, .int la])), (fa, .inl (cA, 66, .inl fl)), (ka, .inl (cA, 66, .inl kp)), (da, .inl (cA, 24, .inl dr))]) [0, 1, 2, 3] (by decide) rfl) rfl rfl) rfl rfl hl.1 rfl (lv_room (Nat.le_of_ble_eq_true rfl)) dX6_safeFinish_11 ⟨Nat.zero_le _, Nat.zero_le _⟩) (fun r_9 u_8 H locs h_7 hP hD hS => ?_)
  obtain ⟨h_7, b_11⟩ := h_7
  have hP : va_P D vwCl [(mo, .inr (6, [.ref fa, .ref ka, .int on, .int rn, .int lf, .int wt, .int nv, .int nl, .int nh, .int nc, .int cm, .ref da, .int dn, .int u_8])), (fa, .inl (cA, 66, .inl fl)), (ka, .inl (cA, 66, .inl kp)), (da, .inl (cA, 24, .inl dr))] H := hP
  have hD : va_D A [(mo, .inr (6, [.ref fa, .ref ka, .int on, .int rn, .int lf, .int wt, .int nv, .int nl, .int nh, .int nc, .int cm, .ref da, .int dn, .int u_8])), (fa, .inl (cA, 66, .inl fl)), (ka, .inl (cA, 66, .inl kp)), (da, .inl (cA, 24, .inl dr))] := hD
  refine lv_if_ne (tgt := 19) hx hb dX6_safeFinish_14 (by decide) (fun c_12 => ?_) (fun c_12 => ?_)
  · skip
    have hnz := goes_nz h_7 c_12
    have hcm := canFinish_nz hnz.2
    have hrs := (hcf.resolve_left hcm).1
    have hn9 := hnl.resolve_left hcm
    refine lv_iconst (v := 0) hx hb dX6_safeFinish_19 (by decide) ?_
    refine lv_istore_n (lv' := [(2, .int 0), (0, .ref mo), (1, .int p0)]) hx hb dX6_safeFinish_20 rfl hl (by decide) rfl (fun ls hl => ?_)
    have loop21 : ∀ (n : Nat) (j : Nat) (k : Int32) (kp9 : Nat → Int32), 66 - j < n → j ≤ 66 → k = nI j → kp9 = mirr kp fl j → ∀ (H : Heap) (locs : List Loc), va_P D vwCl [(mo, .inr (6, [.ref fa, .ref ka, .int on, .int rn, .int lf, .int wt, .int nv, .int nl, .int nh, .int nc, .int cm, .ref da, .int dn, .int u_8])), (fa, .inl (cA, 66, .inl fl)), (ka, .inl (cA, 66, .inl kp9)), (da, .inl (cA, 24, .inl dr))] H → va_D A [(mo, .inr (6, [.ref fa, .ref ka, .int on, .int rn, .int lf, .int wt, .int nv, .int nl, .int nh, .int nc, .int cm, .ref da, .int dn, .int u_8])), (fa, .inl (cA, 66, .inl fl)), (ka, .inl (cA, 66, .inl kp9)), (da, .inl (cA, 24, .inl dr))] → va_S A s.heap H locs → ∀ (ls : Array Slot), lv_has ls 10 [(2, .int k), (0, .ref mo), (1, .int p0)] → W p l e (headSpec wsX6_safeFinish ({ frames := 8, cells := 0, slots := 0, locals := 167 })).room s m ([.ref mo, .int p0] : List Value).toArray below meth c H locs 0 0 (MQ below (va_Qi (fun r u => (r, u) = F_X6_safeFinish fl kp on rn lf wt nv nl nh nc cm p0) (fun u t => bx_at D (wMo cA mo fa ka da u.1 u.2.1 u.2.2.1 u.2.2.2.1 u.2.2.2.2.1 u.2.2.2.2.2.1 nv nl nh nc u.2.2.2.2.2.2.1 dr dn u.2.2.2.2.2.2.2) (A) t) (A)) ([.ref mo, .int p0] : List Value).toArray s 0 0 (A)) (F0 m 21 ls []) := by
      intro n
      induction n with
      | zero =>
        intro j k kp9 h_f ij ik ikp H locs hP hD hS ls hl
        exact absurd h_f (Nat.not_lt_zero _)
      | succ n ih21 =>
        intro j k kp9 h_f ij ik ikp H locs hP hD hS ls hl
        refine lv_iload_n hx hb dX6_safeFinish_21 rfl (lv_at hl 0 rfl) ?_
        refine lv_bipush (v := 66) hx hb dX6_safeFinish_22 (by decide) ?_
        refine lv_icmp_ge (tgt := 45) hx hb dX6_safeFinish_24 (by decide) (fun c_13 => ?_) (fun c_13 => ?_)
        · skip
          have hj66 : 66 ≤ j := (bx_le (by omega)).mp (ik ▸ c_13)
          have hk9 : kp9 = mirr kp fl 66 := by rw [ikp, Nat.le_antisymm ij hj66]
          have hkok : okW kp9 := by rw [hk9]; exact okW_mirr hok
          refine lv_aload_n hx hb dX6_safeFinish_45 rfl (lv_at hl 1 rfl) ?_
          refine va_get (D := D) (ci := 6) (v := .int rn) (C := RX6) (T := TX6) (N := 14) hx hb hts hi6 hown hK hP 0 rfl rfl 3 (by decide) (hts (.fieldLink RX6 16 "BootstayModel" "running" "I") (by decide +kernel)) (fun _ h9 => h9) rfl dX6_safeFinish_46 ?_
          refine lv_istore_n (lv' := [(2, .int rn), (0, .ref mo), (1, .int p0)]) hx hb dX6_safeFinish_49 rfl hl (by decide) rfl (fun ls hl => ?_)
          refine lv_aload_n hx hb dX6_safeFinish_50 rfl (lv_at hl 1 rfl) ?_
          refine va_get (D := D) (ci := 6) (v := .int lf) (C := RX6) (T := TX6) (N := 14) hx hb hts hi6 hown hK hP 0 rfl rfl 4 (by decide) (hts (.fieldLink RX6 20 "BootstayModel" "left" "I") (by decide +kernel)) (fun _ h9 => h9) rfl dX6_safeFinish_51 ?_
          refine lv_istore_n (lv' := [(3, .int lf), (2, .int rn), (0, .ref mo), (1, .int p0)]) hx hb dX6_safeFinish_54 rfl hl (by decide) rfl (fun ls hl => ?_)
          refine lv_aload_n hx hb dX6_safeFinish_55 rfl (lv_at hl 2 rfl) ?_
          refine va_get (D := D) (ci := 6) (v := .int wt) (C := RX6) (T := TX6) (N := 14) hx hb hts hi6 hown hK hP 0 rfl rfl 5 (by decide) (hts (.fieldLink RX6 67 "BootstayModel" "writes" "I") (by decide +kernel)) (fun _ h9 => h9) rfl dX6_safeFinish_56 ?_
          refine lv_istore (lv' := [(4, .int wt), (3, .int lf), (2, .int rn), (0, .ref mo), (1, .int p0)]) hx hb dX6_safeFinish_59 hl (by decide) rfl (fun ls hl => ?_)
          refine lv_aload_n hx hb dX6_safeFinish_61 rfl (lv_at hl 3 rfl) ?_
          refine va_get (D := D) (ci := 6) (v := .int cm) (C := RX6) (T := TX6) (N := 14) hx hb hts hi6 hown hK hP 0 rfl rfl 10 (by decide) (hts (.fieldLink RX6 23 "BootstayModel" "come" "I") (by decide +kernel)) (fun _ h9 => h9) rfl dX6_safeFinish_62 ?_
          refine lv_istore (lv' := [(5, .int cm), (4, .int wt), (3, .int lf), (2, .int rn), (0, .ref mo), (1, .int p0)]) hx hb dX6_safeFinish_65 hl (by decide) rfl (fun ls hl => ?_)
          refine lv_iconst (v := 0) hx hb dX6_safeFinish_67 (by decide) ?_
          refine lv_istore (lv' := [(6, .int 0), (5, .int cm), (4, .int wt), (3, .int lf), (2, .int rn), (0, .ref mo), (1, .int p0)]) hx hb dX6_safeFinish_68 hl (by decide) rfl (fun ls hl => ?_)
          refine lv_iconst (v := 0) hx hb dX6_safeFinish_70 (by decide) ?_
          refine lv_istore (lv' := [(7, .int 0), (6, .int 0), (5, .int cm), (4, .int wt), (3, .int lf), (2, .int rn), (0, .ref mo), (1, .int p0)]) hx hb dX6_safeFinish_71 hl (by decide) rfl (fun ls hl => ?_)
          have loop73 : ∀ (n : Nat) (j : Nat) (q k : Int32) (fl9 : Nat → Int32) (on9 : Int32) (lf9 : Int32) (wt9 : Int32), 10 - j < n → j ≤ 10 → k = nI j → okW fl9 → msN kp9 rn cm nv nl nh nc p0 (10 - j) j fl9 on9 lf9 wt9 q = msN kp9 rn cm nv nl nh nc p0 10 0 fl on lf wt 0 → ∀ (H : Heap) (locs : List Loc), va_P D vwCl [(mo, .inr (6, [.ref fa, .ref ka, .int on9, .int rn, .int lf9, .int wt9, .int nv, .int nl, .int nh, .int nc, .int cm, .ref da, .int dn, .int u_8])), (fa, .inl (cA, 66, .inl fl9)), (ka, .inl (cA, 66, .inl kp9)), (da, .inl (cA, 24, .inl dr))] H → va_D A [(mo, .inr (6, [.ref fa, .ref ka, .int on9, .int rn, .int lf9, .int wt9, .int nv, .int nl, .int nh, .int nc, .int cm, .ref da, .int dn, .int u_8])), (fa, .inl (cA, 66, .inl fl9)), (ka, .inl (cA, 66, .inl kp9)), (da, .inl (cA, 24, .inl dr))] → va_S A s.heap H locs → ∀ (ls : Array Slot), lv_has ls 10 [(7, .int k), (6, .int q), (5, .int cm), (4, .int wt), (3, .int lf), (2, .int rn), (0, .ref mo), (1, .int p0)] → W p l e (headSpec wsX6_safeFinish ({ frames := 8, cells := 0, slots := 0, locals := 167 })).room s m ([.ref mo, .int p0] : List Value).toArray below meth c H locs 0 0 (MQ below (va_Qi (fun r u => (r, u) = F_X6_safeFinish fl kp on rn lf wt nv nl nh nc cm p0) (fun u t => bx_at D (wMo cA mo fa ka da u.1 u.2.1 u.2.2.1 u.2.2.2.1 u.2.2.2.2.1 u.2.2.2.2.2.1 nv nl nh nc u.2.2.2.2.2.2.1 dr dn u.2.2.2.2.2.2.2) (A) t) (A)) ([.ref mo, .int p0] : List Value).toArray s 0 0 (A)) (F0 m 73 ls []) := by
            intro n
            induction n with
            | zero =>
              intro j q k fl9 on9 lf9 wt9 h_f ij ik iok ie H locs hP hD hS ls hl
              exact absurd h_f (Nat.not_lt_zero _)
            | succ n ih73 =>
              intro j q k fl9 on9 lf9 wt9 h_f ij ik iok ie H locs hP hD hS ls hl
              refine lv_iload hx hb dX6_safeFinish_73 (lv_at hl 0 rfl) ?_
              refine lv_bipush (v := 10) hx hb dX6_safeFinish_75 (by decide) ?_
              refine lv_icmp_ge (tgt := 171) hx hb dX6_safeFinish_77 (by decide) (fun c_14 => ?_) (fun c_14 => ?_)
              · skip
                have hm : (q, fl9, on9, lf9, wt9) = msN kp9 rn cm nv nl nh nc p0 10 0 fl on lf wt 0 := by
                  have h9 : 10 ≤ j := (bx_le (N := 10) (by omega)).mp (ik ▸ c_14)
                  rw [← ie, Nat.sub_eq_zero_of_le h9, msN]
                refine lv_aload_n hx hb dX6_safeFinish_171 rfl (lv_at hl 6 rfl) ?_
                refine lv_iload_n hx hb dX6_safeFinish_172 rfl (lv_at hl 4 rfl) ?_
                refine va_put (D := D) (ci := 6) (v := .int lf) (ty := .int) (C := RX6) (T := TX6) (N := 14) hx hb hts hi6 tyX6 tyX6_ok nmX6 hown hK hP hD hS 0 rfl rfl 4 (by decide) (hts (.fieldLink RX6 20 "BootstayModel" "left" "I") (by decide +kernel)) (fun _ h9 => h9) rfl (by decide +kernel) rfl rfl (Nat.le_of_ble_eq_true rfl) dX6_safeFinish_173 (fun H locs hP hD hS => ?_)
                have hP : va_P D vwCl [(mo, .inr (6, [.ref fa, .ref ka, .int on9, .int rn, .int lf, .int wt9, .int nv, .int nl, .int nh, .int nc, .int cm, .ref da, .int dn, .int u_8])), (fa, .inl (cA, 66, .inl fl9)), (ka, .inl (cA, 66, .inl kp9)), (da, .inl (cA, 24, .inl dr))] H := hP
                have hD : va_D A [(mo, .inr (6, [.ref fa, .ref ka, .int on9, .int rn, .int lf, .int wt9, .int nv, .int nl, .int nh, .int nc, .int cm, .ref da, .int dn, .int u_8])), (fa, .inl (cA, 66, .inl fl9)), (ka, .inl (cA, 66, .inl kp9)), (da, .inl (cA, 24, .inl dr))] := hD
                refine lv_aload_n hx hb dX6_safeFinish_176 rfl (lv_at hl 6 rfl) ?_
                refine lv_iload hx hb dX6_safeFinish_177 (lv_at hl 3 rfl) ?_
                refine va_put (D := D) (ci := 6) (v := .int wt) (ty := .int) (C := RX6) (T := TX6) (N := 14) hx hb hts hi6 tyX6 tyX6_ok nmX6 hown hK hP hD hS 0 rfl rfl 5 (by decide) (hts (.fieldLink RX6 67 "BootstayModel" "writes" "I") (by decide +kernel)) (fun _ h9 => h9) rfl (by decide +kernel) rfl rfl (Nat.le_of_ble_eq_true rfl) dX6_safeFinish_179 (fun H locs hP hD hS => ?_)
                have hP : va_P D vwCl [(mo, .inr (6, [.ref fa, .ref ka, .int on9, .int rn, .int lf, .int wt, .int nv, .int nl, .int nh, .int nc, .int cm, .ref da, .int dn, .int u_8])), (fa, .inl (cA, 66, .inl fl9)), (ka, .inl (cA, 66, .inl kp9)), (da, .inl (cA, 24, .inl dr))] H := hP
                have hD : va_D A [(mo, .inr (6, [.ref fa, .ref ka, .int on9, .int rn, .int lf, .int wt, .int nv, .int nl, .int nh, .int nc, .int cm, .ref da, .int dn, .int u_8])), (fa, .inl (cA, 66, .inl fl9)), (ka, .inl (cA, 66, .inl kp9)), (da, .inl (cA, 24, .inl dr))] := hD
                refine lv_iload hx hb dX6_safeFinish_182 (lv_at hl 1 rfl) ?_
                exact W.iret (v := q) hx hb hr (fun t ht hW => ⟨⟨q, (fl9, kp9, on9, rn, lf, wt, cm, u_8), rfl, (by rw [hk9] at hm; simp only [F_X6_safeFinish, ← h_7, if_neg c_12, ← hm, hk9]), ⟨by rw [ht]; exact hP, hD⟩⟩, hS.F ht⟩) hS.2.2 dX6_safeFinish_184
              · skip
                have hj : j < 10 := Nat.lt_of_not_le (fun h => c_14 (by rw [ik]; exact (bx_le (by omega)).mpr h))
                refine lv_aload_n hx hb dX6_safeFinish_80 rfl (lv_at hl 6 rfl) ?_
                refine lv_iload hx hb dX6_safeFinish_81 (lv_at hl 0 rfl) ?_
                refine va_put (D := D) (ci := 6) (v := .int k) (ty := .int) (C := RX6) (T := TX6) (N := 14) hx hb hts hi6 tyX6 tyX6_ok nmX6 hown hK hP hD hS 0 rfl rfl 4 (by decide) (hts (.fieldLink RX6 20 "BootstayModel" "left" "I") (by decide +kernel)) (fun _ h9 => h9) rfl (by decide +kernel) rfl rfl (Nat.le_of_ble_eq_true rfl) dX6_safeFinish_83 (fun H locs hP hD hS => ?_)
                have hP : va_P D vwCl [(mo, .inr (6, [.ref fa, .ref ka, .int on9, .int rn, .int k, .int wt9, .int nv, .int nl, .int nh, .int nc, .int cm, .ref da, .int dn, .int u_8])), (fa, .inl (cA, 66, .inl fl9)), (ka, .inl (cA, 66, .inl kp9)), (da, .inl (cA, 24, .inl dr))] H := hP
                have hD : va_D A [(mo, .inr (6, [.ref fa, .ref ka, .int on9, .int rn, .int k, .int wt9, .int nv, .int nl, .int nh, .int nc, .int cm, .ref da, .int dn, .int u_8])), (fa, .inl (cA, 66, .inl fl9)), (ka, .inl (cA, 66, .inl kp9)), (da, .inl (cA, 24, .inl dr))] := hD
                refine lv_aload_n hx hb dX6_safeFinish_86 rfl (lv_at hl 6 rfl) ?_
                refine lv_iload_n hx hb dX6_safeFinish_87 rfl (lv_at hl 7 rfl) ?_
                refine bx_wi (wc := [(mo, .inr (6, [.ref fa, .ref ka, .int on9, .int rn, .int k, .int wt9, .int nv, .int nl, .int nh, .int nc, .int cm, .ref da, .int dn, .int u_8])), (fa, .inl (cA, 66, .inl fl9)), (ka, .inl (cA, 66, .inl kp9)), (da, .inl (cA, 24, .inl dr))]) (wr := []) (wf := fun (u : (Nat → Int32) × (Int32) × (Int32) × (Int32) × (Int32) × (Int32)) => [(mo, .inr (6, [.ref fa, .ref ka, .int u.2.1, .int u.2.2.1, .int u.2.2.2.1, .int u.2.2.2.2.1, .int nv, .int nl, .int nh, .int nc, .int u.2.2.2.2.2, .ref da, .int dn, .int u_8])), (fa, .inl (cA, 66, .inl u.1)), (ka, .inl (cA, 66, .inl kp9)), (da, .inl (cA, 24, .inl dr))]) (wn := fun (u : (Nat → Int32) × (Int32) × (Int32) × (Int32) × (Int32) × (Int32)) => [(mo, .inr (6, [.ref fa, .ref ka, .int u.2.1, .int u.2.2.1, .int u.2.2.2.1, .int u.2.2.2.2.1, .int nv, .int nl, .int nh, .int nc, .int u.2.2.2.2.2, .ref da, .int dn, .int u_8])), (fa, .inl (cA, 66, .inl u.1)), (ka, .inl (cA, 66, .inl kp9)), (da, .inl (cA, 24, .inl dr))]) hP hD hS hA [0, 1, 2, 3] [] [0, 1, 2, 3] rfl rfl (by decide) (by decide) (fun u => rfl) (by decide) (va_runV (As := [.int p0]) (rest := []) ⟨hx, hb, hml, hown, hts⟩ (c_X6_finishes l D cA mo fa ka da H.size fl9 kp9 on9 rn k wt9 nv nl nh nc cm dr dn u_8 p0 hrs) (cwV 1 hts gX6_safeFinish_X6_finishes rfl rfl rfl (by decide +kernel) ⟨Nat.le_of_ble_eq_true rfl, Nat.le_of_ble_eq_true rfl⟩) (bx_pv (ci := 6) (q0 := 0) hK hG (hP.sub (ws' := [(mo, .inr (6, [.ref fa, .ref ka, .int on9, .int rn, .int k, .int wt9, .int nv, .int nl, .int nh, .int nc, .int cm, .ref da, .int dn, .int u_8])), (fa, .inl (cA, 66, .inl fl9)), (ka, .inl (cA, 66, .inl kp9)), (da, .inl (cA, 24, .inl dr))]) [0, 1, 2, 3] rfl) (hD.sub (ws' := [(mo, .inr (6, [.ref fa, .ref ka, .int on9, .int rn, .int k, .int wt9, .int nv, .int nl, .int nh, .int nc, .int cm, .ref da, .int dn, .int u_8])), (fa, .inl (cA, 66, .inl fl9)), (ka, .inl (cA, 66, .inl kp9)), (da, .inl (cA, 24, .inl dr))]) [0, 1, 2, 3] (by decide) rfl) rfl rfl) rfl rfl hl.1 rfl (lv_room (Nat.le_of_ble_eq_true rfl)) dX6_safeFinish_88 ⟨Nat.zero_le _, Nat.zero_le _⟩) (fun r_17 u_16 H locs h_15 hP hD hS => ?_)
                obtain ⟨fl18, on19, rn20, lf21, wt22, cm23⟩ := u_16
                obtain ⟨h_15, b_24⟩ := h_15
                have hP : va_P D vwCl [(mo, .inr (6, [.ref fa, .ref ka, .int on19, .int rn20, .int lf21, .int wt22, .int nv, .int nl, .int nh, .int nc, .int cm23, .ref da, .int dn, .int u_8])), (fa, .inl (cA, 66, .inl fl18)), (ka, .inl (cA, 66, .inl kp9)), (da, .inl (cA, 24, .inl dr))] H := hP
                have hD : va_D A [(mo, .inr (6, [.ref fa, .ref ka, .int on19, .int rn20, .int lf21, .int wt22, .int nv, .int nl, .int nh, .int nc, .int cm23, .ref da, .int dn, .int u_8])), (fa, .inl (cA, 66, .inl fl18)), (ka, .inl (cA, 66, .inl kp9)), (da, .inl (cA, 24, .inl dr))] := hD
                refine lv_istore (lv' := [(8, .int r_17), (7, .int k), (6, .int q), (5, .int cm), (4, .int wt), (3, .int lf), (2, .int rn), (0, .ref mo), (1, .int p0)]) hx hb dX6_safeFinish_91 hl (by decide) rfl (fun ls hl => ?_)
                have o1 : okW fl18 := finishes_ok iok hrs hn9 hnz.1 h_15
                refine lv_iload hx hb dX6_safeFinish_93 (lv_at hl 2 rfl) ?_
                refine lv_iload hx hb dX6_safeFinish_95 (lv_at hl 0 rfl) ?_
                refine lv_if_ne (tgt := 115) hx hb dX6_safeFinish_97 (by decide) (fun c_25 => ?_) (fun c_25 => ?_)
                · skip
                  refine lv_iconst (v := 0) hx hb dX6_safeFinish_115 (by decide) ?_
                  refine lv_iadd hx hb dX6_safeFinish_116 ?_
                  refine lv_istore (lv' := [(6, .int (q + 0)), (8, .int r_17), (7, .int k), (5, .int cm), (4, .int wt), (3, .int lf), (2, .int rn), (0, .ref mo), (1, .int p0)]) hx hb dX6_safeFinish_117 hl (by decide) rfl (fun ls hl => ?_)
                  refine lv_iconst (v := 0) hx hb dX6_safeFinish_119 (by decide) ?_
                  refine lv_istore (lv' := [(9, .int 0), (6, .int (q + 0)), (8, .int r_17), (7, .int k), (5, .int cm), (4, .int wt), (3, .int lf), (2, .int rn), (0, .ref mo), (1, .int p0)]) hx hb dX6_safeFinish_120 hl (by decide) rfl (fun ls hl => ?_)
                  have loop122 : ∀ (n : Nat) (j2 : Nat) (k2 : Int32) (fl8 : Nat → Int32), 66 - j2 < n → j2 ≤ 66 → k2 = nI j2 → fl8 = mirr fl18 kp9 j2 → ∀ (H : Heap) (locs : List Loc), va_P D vwCl [(mo, .inr (6, [.ref fa, .ref ka, .int on19, .int rn20, .int lf21, .int wt22, .int nv, .int nl, .int nh, .int nc, .int cm23, .ref da, .int dn, .int u_8])), (fa, .inl (cA, 66, .inl fl8)), (ka, .inl (cA, 66, .inl kp9)), (da, .inl (cA, 24, .inl dr))] H → va_D A [(mo, .inr (6, [.ref fa, .ref ka, .int on19, .int rn20, .int lf21, .int wt22, .int nv, .int nl, .int nh, .int nc, .int cm23, .ref da, .int dn, .int u_8])), (fa, .inl (cA, 66, .inl fl8)), (ka, .inl (cA, 66, .inl kp9)), (da, .inl (cA, 24, .inl dr))] → va_S A s.heap H locs → ∀ (ls : Array Slot), lv_has ls 10 [(9, .int k2), (6, .int (q + 0)), (7, .int k), (5, .int cm), (4, .int wt), (3, .int lf), (2, .int rn), (0, .ref mo), (1, .int p0)] → W p l e (headSpec wsX6_safeFinish ({ frames := 8, cells := 0, slots := 0, locals := 167 })).room s m ([.ref mo, .int p0] : List Value).toArray below meth c H locs 0 0 (MQ below (va_Qi (fun r u => (r, u) = F_X6_safeFinish fl kp on rn lf wt nv nl nh nc cm p0) (fun u t => bx_at D (wMo cA mo fa ka da u.1 u.2.1 u.2.2.1 u.2.2.2.1 u.2.2.2.2.1 u.2.2.2.2.2.1 nv nl nh nc u.2.2.2.2.2.2.1 dr dn u.2.2.2.2.2.2.2) (A) t) (A)) ([.ref mo, .int p0] : List Value).toArray s 0 0 (A)) (F0 m 122 ls []) := by
                    intro n
                    induction n with
                    | zero =>
                      intro j2 k2 fl8 h_f ij2 ik2 ifl H locs hP hD hS ls hl
                      exact absurd h_f (Nat.not_lt_zero _)
                    | succ n ih122 =>
                      intro j2 k2 fl8 h_f ij2 ik2 ifl H locs hP hD hS ls hl
                      refine lv_iload hx hb dX6_safeFinish_122 (lv_at hl 0 rfl) ?_
                      refine lv_bipush (v := 66) hx hb dX6_safeFinish_124 (by decide) ?_
                      refine lv_icmp_ge (tgt := 149) hx hb dX6_safeFinish_126 (by decide) (fun c_26 => ?_) (fun c_26 => ?_)
                      · skip
                        have hj2 : 66 ≤ j2 := (bx_le (by omega)).mp (ik2 ▸ c_26)
                        refine lv_aload_n hx hb dX6_safeFinish_149 rfl (lv_at hl 7 rfl) ?_
                        refine lv_iconst (v := 1) hx hb dX6_safeFinish_150 (by decide) ?_
                        refine va_put (D := D) (ci := 6) (v := .int 1) (ty := .boolean) (C := RX6) (T := TX6) (N := 14) hx hb hts hi6 tyX6 tyX6_ok nmX6 hown hK hP hD hS 0 rfl rfl 2 (by decide) (hts (.fieldLink RX6 63 "BootstayModel" "on" "Z") (by decide +kernel)) (fun _ h9 => h9) rfl (by decide +kernel) rfl rfl (Nat.le_of_ble_eq_true rfl) dX6_safeFinish_151 (fun H locs hP hD hS => ?_)
                        have hP : va_P D vwCl [(mo, .inr (6, [.ref fa, .ref ka, .int 1, .int rn20, .int lf21, .int wt22, .int nv, .int nl, .int nh, .int nc, .int cm23, .ref da, .int dn, .int u_8])), (fa, .inl (cA, 66, .inl fl8)), (ka, .inl (cA, 66, .inl kp9)), (da, .inl (cA, 24, .inl dr))] H := hP
                        have hD : va_D A [(mo, .inr (6, [.ref fa, .ref ka, .int 1, .int rn20, .int lf21, .int wt22, .int nv, .int nl, .int nh, .int nc, .int cm23, .ref da, .int dn, .int u_8])), (fa, .inl (cA, 66, .inl fl8)), (ka, .inl (cA, 66, .inl kp9)), (da, .inl (cA, 24, .inl dr))] := hD
                        refine lv_aload_n hx hb dX6_safeFinish_154 rfl (lv_at hl 7 rfl) ?_
                        refine lv_iload_n hx hb dX6_safeFinish_155 rfl (lv_at hl 6 rfl) ?_
                        refine va_put (D := D) (ci := 6) (v := .int rn) (ty := .int) (C := RX6) (T := TX6) (N := 14) hx hb hts hi6 tyX6 tyX6_ok nmX6 hown hK hP hD hS 0 rfl rfl 3 (by decide) (hts (.fieldLink RX6 16 "BootstayModel" "running" "I") (by decide +kernel)) (fun _ h9 => h9) rfl (by decide +kernel) rfl rfl (Nat.le_of_ble_eq_true rfl) dX6_safeFinish_156 (fun H locs hP hD hS => ?_)
                        have hP : va_P D vwCl [(mo, .inr (6, [.ref fa, .ref ka, .int 1, .int rn, .int lf21, .int wt22, .int nv, .int nl, .int nh, .int nc, .int cm23, .ref da, .int dn, .int u_8])), (fa, .inl (cA, 66, .inl fl8)), (ka, .inl (cA, 66, .inl kp9)), (da, .inl (cA, 24, .inl dr))] H := hP
                        have hD : va_D A [(mo, .inr (6, [.ref fa, .ref ka, .int 1, .int rn, .int lf21, .int wt22, .int nv, .int nl, .int nh, .int nc, .int cm23, .ref da, .int dn, .int u_8])), (fa, .inl (cA, 66, .inl fl8)), (ka, .inl (cA, 66, .inl kp9)), (da, .inl (cA, 24, .inl dr))] := hD
                        refine lv_aload_n hx hb dX6_safeFinish_159 rfl (lv_at hl 7 rfl) ?_
                        refine lv_iload hx hb dX6_safeFinish_160 (lv_at hl 3 rfl) ?_
                        refine va_put (D := D) (ci := 6) (v := .int cm) (ty := .int) (C := RX6) (T := TX6) (N := 14) hx hb hts hi6 tyX6 tyX6_ok nmX6 hown hK hP hD hS 0 rfl rfl 10 (by decide) (hts (.fieldLink RX6 23 "BootstayModel" "come" "I") (by decide +kernel)) (fun _ h9 => h9) rfl (by decide +kernel) rfl rfl (Nat.le_of_ble_eq_true rfl) dX6_safeFinish_162 (fun H locs hP hD hS => ?_)
                        have hP : va_P D vwCl [(mo, .inr (6, [.ref fa, .ref ka, .int 1, .int rn, .int lf21, .int wt22, .int nv, .int nl, .int nh, .int nc, .int cm, .ref da, .int dn, .int u_8])), (fa, .inl (cA, 66, .inl fl8)), (ka, .inl (cA, 66, .inl kp9)), (da, .inl (cA, 24, .inl dr))] H := hP
                        have hD : va_D A [(mo, .inr (6, [.ref fa, .ref ka, .int 1, .int rn, .int lf21, .int wt22, .int nv, .int nl, .int nh, .int nc, .int cm, .ref da, .int dn, .int u_8])), (fa, .inl (cA, 66, .inl fl8)), (ka, .inl (cA, 66, .inl kp9)), (da, .inl (cA, 24, .inl dr))] := hD
                        refine lv_iinc (v := (k + 1)) (lv' := [(7, .int (k + 1)), (9, .int k2), (6, .int (q + 0)), (5, .int cm), (4, .int wt), (3, .int lf), (2, .int rn), (0, .ref mo), (1, .int p0)]) hx hb dX6_safeFinish_165 hl (k := 2) rfl rfl (by decide) rfl (fun ls hl => ?_)
                        refine lv_goto (tgt := 73) hx hb dX6_safeFinish_168 (by decide) ?_
                        exact ih73 (j + 1) (q + 0) (k + 1) fl8 1 lf21 wt22 (by omega) hj (by rw [ik]; exact nI_1 j) (by rw [ifl, Nat.le_antisymm ij2 hj2]; exact okW_mirr hkok) (by subst ik; rw [← ie, (show 10 - j = (10 - (j + 1)) + 1 by omega)]; simp only [msN, ← h_15, if_neg c_25]; rw [ifl, Nat.le_antisymm ij2 hj2]) _ _ hP hD hS ls (lv_sub hl [0, 2, 3, 4, 5, 6, 7, 8] rfl)
                      · skip
                        have hj2 : j2 < 66 := Nat.lt_of_not_le (fun h => c_26 (by rw [ik2]; exact (bx_le (by omega)).mpr h))
                        refine lv_aload_n hx hb dX6_safeFinish_129 rfl (lv_at hl 7 rfl) ?_
                        refine va_get (D := D) (ci := 6) (v := .ref fa) (C := RX6) (T := TX6) (N := 14) hx hb hts hi6 hown hK hP 0 rfl rfl 0 (by decide) (hts (.fieldLink RX6 7 "BootstayModel" "flash" "[I") (by decide +kernel)) (fun _ h9 => h9) rfl dX6_safeFinish_130 ?_
                        refine lv_iload hx hb dX6_safeFinish_133 (lv_at hl 0 rfl) ?_
                        refine lv_aload_n hx hb dX6_safeFinish_135 rfl (lv_at hl 7 rfl) ?_
                        refine va_get (D := D) (ci := 6) (v := .ref ka) (C := RX6) (T := TX6) (N := 14) hx hb hts hi6 hown hK hP 0 rfl rfl 1 (by decide) (hts (.fieldLink RX6 13 "BootstayModel" "kept" "[I") (by decide +kernel)) (fun _ h9 => h9) rfl dX6_safeFinish_136 ?_
                        refine lv_iload hx hb dX6_safeFinish_139 (lv_at hl 0 rfl) ?_
                        refine bx_ald (D := D) hx hb hK hP 2 0 rfl rfl (by rw [ik2]; exact vp_in_nI hj2 (by decide)) dX6_safeFinish_141 ?_
                        refine bx_ast (D := D) hx hb hK hP hD hS 1 0 rfl rfl (by rw [ik2]; exact vp_in_nI hj2 (by decide)) dX6_safeFinish_142 (fun H locs hP hD hS => ?_)
                        have hP : va_P D vwCl [(mo, .inr (6, [.ref fa, .ref ka, .int on19, .int rn20, .int lf21, .int wt22, .int nv, .int nl, .int nh, .int nc, .int cm23, .ref da, .int dn, .int u_8])), (fa, .inl (cA, 66, .inl (wr fl8 k2 (rd kp9 k2)))), (ka, .inl (cA, 66, .inl kp9)), (da, .inl (cA, 24, .inl dr))] H := hP
                        have hD : va_D A [(mo, .inr (6, [.ref fa, .ref ka, .int on19, .int rn20, .int lf21, .int wt22, .int nv, .int nl, .int nh, .int nc, .int cm23, .ref da, .int dn, .int u_8])), (fa, .inl (cA, 66, .inl (wr fl8 k2 (rd kp9 k2)))), (ka, .inl (cA, 66, .inl kp9)), (da, .inl (cA, 24, .inl dr))] := hD
                        refine lv_iinc (v := (k2 + 1)) (lv' := [(9, .int (k2 + 1)), (6, .int (q + 0)), (7, .int k), (5, .int cm), (4, .int wt), (3, .int lf), (2, .int rn), (0, .ref mo), (1, .int p0)]) hx hb dX6_safeFinish_143 hl (k := 0) rfl rfl (by decide) rfl (fun ls hl => ?_)
                        refine lv_goto (tgt := 122) hx hb dX6_safeFinish_146 (by decide) ?_
                        exact ih122 (j2 + 1) (k2 + 1) (wr fl8 k2 (rd kp9 k2)) (by omega) hj2 (by rw [ik2]; exact nI_1 j2) (by rw [ifl, ik2, mirr_s hj2 (by show kp9 (nI j2).toNatClampNeg = _; rw [nI_clamp (by omega)])]) _ _ hP hD hS ls (lv_sub hl [0, 1, 2, 3, 4, 5, 6, 7, 8] rfl)
                  exact loop122 67 0 0 fl18 (by omega) (by omega) nI_0.symm (by rw [mirr_0]) _ _ hP hD hS ls (lv_sub hl [0, 1, 3, 4, 5, 6, 7, 8, 9] rfl)
                · skip
                  refine lv_aload_n hx hb dX6_safeFinish_100 rfl (lv_at hl 7 rfl) ?_
                  refine lv_aload_n hx hb dX6_safeFinish_101 rfl (lv_at hl 7 rfl) ?_
                  refine bx_ri (va_runV (As := []) (rest := [.ref mo, .int q]) ⟨hx, hb, hml, hown, hts⟩ (c_X6_nextStart l D cA mo fa ka da fl18 kp9 on19 rn20 lf21 wt22 nv nl nh nc cm23 dr dn u_8 (conf_sl o1)) (cwV 0 hts gX6_safeFinish_X6_nextStart rfl rfl rfl (by decide +kernel) ⟨Nat.le_of_ble_eq_true rfl, Nat.le_of_ble_eq_true rfl⟩) (bx_pvr (ci := 6) (q0 := 0) hK hG (hP.sub (ws' := [(mo, .inr (6, [.ref fa, .ref ka, .int on19, .int rn20, .int lf21, .int wt22, .int nv, .int nl, .int nh, .int nc, .int cm23, .ref da, .int dn, .int u_8])), (fa, .inl (cA, 66, .inl fl18)), (ka, .inl (cA, 66, .inl kp9)), (da, .inl (cA, 24, .inl dr))]) [0, 1, 2, 3] rfl) rfl rfl) rfl rfl hl.1 rfl (lv_room (Nat.le_of_ble_eq_true rfl)) dX6_safeFinish_102 ⟨Nat.zero_le _, Nat.zero_le _⟩) (fun r_27 h_28 => ?_)
                  have h_28 := h_28.symm
                  subst h_28
                  refine bx_ri (va_runV (As := [.int (F_X6_nextStart fl18)]) (rest := [.int q]) ⟨hx, hb, hml, hown, hts⟩ (c_X6_canStart l D cA mo fa ka da fl18 kp9 on19 rn20 lf21 wt22 nv nl nh nc cm23 dr dn u_8 (F_X6_nextStart fl18) (nextStart_sl o1)) (cwV 1 hts gX6_safeFinish_X6_canStart rfl rfl rfl (by decide +kernel) ⟨Nat.le_of_ble_eq_true rfl, Nat.le_of_ble_eq_true rfl⟩) (bx_pvr (ci := 6) (q0 := 0) hK hG (hP.sub (ws' := [(mo, .inr (6, [.ref fa, .ref ka, .int on19, .int rn20, .int lf21, .int wt22, .int nv, .int nl, .int nh, .int nc, .int cm23, .ref da, .int dn, .int u_8])), (fa, .inl (cA, 66, .inl fl18)), (ka, .inl (cA, 66, .inl kp9)), (da, .inl (cA, 24, .inl dr))]) [0, 1, 2, 3] rfl) rfl rfl) rfl rfl hl.1 rfl (lv_room (Nat.le_of_ble_eq_true rfl)) dX6_safeFinish_105 ⟨Nat.zero_le _, Nat.zero_le _⟩) (fun r_29 h_30 => ?_)
                  obtain ⟨h_30, b_31⟩ := h_30
                  have h_30 := h_30.symm
                  subst h_30
                  refine lv_if_eq (tgt := 115) hx hb dX6_safeFinish_108 (by decide) (fun c_32 => ?_) (fun c_32 => ?_)
                  · skip
                    refine lv_iconst (v := 0) hx hb dX6_safeFinish_115 (by decide) ?_
                    refine lv_iadd hx hb dX6_safeFinish_116 ?_
                    refine lv_istore (lv' := [(6, .int (q + 0)), (8, .int r_17), (7, .int k), (5, .int cm), (4, .int wt), (3, .int lf), (2, .int rn), (0, .ref mo), (1, .int p0)]) hx hb dX6_safeFinish_117 hl (by decide) rfl (fun ls hl => ?_)
                    refine lv_iconst (v := 0) hx hb dX6_safeFinish_119 (by decide) ?_
                    refine lv_istore (lv' := [(9, .int 0), (6, .int (q + 0)), (8, .int r_17), (7, .int k), (5, .int cm), (4, .int wt), (3, .int lf), (2, .int rn), (0, .ref mo), (1, .int p0)]) hx hb dX6_safeFinish_120 hl (by decide) rfl (fun ls hl => ?_)
                    have loop122 : ∀ (n : Nat) (j2 : Nat) (k2 : Int32) (fl8 : Nat → Int32), 66 - j2 < n → j2 ≤ 66 → k2 = nI j2 → fl8 = mirr fl18 kp9 j2 → ∀ (H : Heap) (locs : List Loc), va_P D vwCl [(mo, .inr (6, [.ref fa, .ref ka, .int on19, .int rn20, .int lf21, .int wt22, .int nv, .int nl, .int nh, .int nc, .int cm23, .ref da, .int dn, .int u_8])), (fa, .inl (cA, 66, .inl fl8)), (ka, .inl (cA, 66, .inl kp9)), (da, .inl (cA, 24, .inl dr))] H → va_D A [(mo, .inr (6, [.ref fa, .ref ka, .int on19, .int rn20, .int lf21, .int wt22, .int nv, .int nl, .int nh, .int nc, .int cm23, .ref da, .int dn, .int u_8])), (fa, .inl (cA, 66, .inl fl8)), (ka, .inl (cA, 66, .inl kp9)), (da, .inl (cA, 24, .inl dr))] → va_S A s.heap H locs → ∀ (ls : Array Slot), lv_has ls 10 [(9, .int k2), (6, .int (q + 0)), (7, .int k), (5, .int cm), (4, .int wt), (3, .int lf), (2, .int rn), (0, .ref mo), (1, .int p0)] → W p l e (headSpec wsX6_safeFinish ({ frames := 8, cells := 0, slots := 0, locals := 167 })).room s m ([.ref mo, .int p0] : List Value).toArray below meth c H locs 0 0 (MQ below (va_Qi (fun r u => (r, u) = F_X6_safeFinish fl kp on rn lf wt nv nl nh nc cm p0) (fun u t => bx_at D (wMo cA mo fa ka da u.1 u.2.1 u.2.2.1 u.2.2.2.1 u.2.2.2.2.1 u.2.2.2.2.2.1 nv nl nh nc u.2.2.2.2.2.2.1 dr dn u.2.2.2.2.2.2.2) (A) t) (A)) ([.ref mo, .int p0] : List Value).toArray s 0 0 (A)) (F0 m 122 ls []) := by
                      intro n
                      induction n with
                      | zero =>
                        intro j2 k2 fl8 h_f ij2 ik2 ifl H locs hP hD hS ls hl
                        exact absurd h_f (Nat.not_lt_zero _)
                      | succ n ih122 =>
                        intro j2 k2 fl8 h_f ij2 ik2 ifl H locs hP hD hS ls hl
                        refine lv_iload hx hb dX6_safeFinish_122 (lv_at hl 0 rfl) ?_
                        refine lv_bipush (v := 66) hx hb dX6_safeFinish_124 (by decide) ?_
                        refine lv_icmp_ge (tgt := 149) hx hb dX6_safeFinish_126 (by decide) (fun c_33 => ?_) (fun c_33 => ?_)
                        · skip
                          have hj2 : 66 ≤ j2 := (bx_le (by omega)).mp (ik2 ▸ c_33)
                          refine lv_aload_n hx hb dX6_safeFinish_149 rfl (lv_at hl 7 rfl) ?_
                          refine lv_iconst (v := 1) hx hb dX6_safeFinish_150 (by decide) ?_
                          refine va_put (D := D) (ci := 6) (v := .int 1) (ty := .boolean) (C := RX6) (T := TX6) (N := 14) hx hb hts hi6 tyX6 tyX6_ok nmX6 hown hK hP hD hS 0 rfl rfl 2 (by decide) (hts (.fieldLink RX6 63 "BootstayModel" "on" "Z") (by decide +kernel)) (fun _ h9 => h9) rfl (by decide +kernel) rfl rfl (Nat.le_of_ble_eq_true rfl) dX6_safeFinish_151 (fun H locs hP hD hS => ?_)
                          have hP : va_P D vwCl [(mo, .inr (6, [.ref fa, .ref ka, .int 1, .int rn20, .int lf21, .int wt22, .int nv, .int nl, .int nh, .int nc, .int cm23, .ref da, .int dn, .int u_8])), (fa, .inl (cA, 66, .inl fl8)), (ka, .inl (cA, 66, .inl kp9)), (da, .inl (cA, 24, .inl dr))] H := hP
                          have hD : va_D A [(mo, .inr (6, [.ref fa, .ref ka, .int 1, .int rn20, .int lf21, .int wt22, .int nv, .int nl, .int nh, .int nc, .int cm23, .ref da, .int dn, .int u_8])), (fa, .inl (cA, 66, .inl fl8)), (ka, .inl (cA, 66, .inl kp9)), (da, .inl (cA, 24, .inl dr))] := hD
                          refine lv_aload_n hx hb dX6_safeFinish_154 rfl (lv_at hl 7 rfl) ?_
                          refine lv_iload_n hx hb dX6_safeFinish_155 rfl (lv_at hl 6 rfl) ?_
                          refine va_put (D := D) (ci := 6) (v := .int rn) (ty := .int) (C := RX6) (T := TX6) (N := 14) hx hb hts hi6 tyX6 tyX6_ok nmX6 hown hK hP hD hS 0 rfl rfl 3 (by decide) (hts (.fieldLink RX6 16 "BootstayModel" "running" "I") (by decide +kernel)) (fun _ h9 => h9) rfl (by decide +kernel) rfl rfl (Nat.le_of_ble_eq_true rfl) dX6_safeFinish_156 (fun H locs hP hD hS => ?_)
                          have hP : va_P D vwCl [(mo, .inr (6, [.ref fa, .ref ka, .int 1, .int rn, .int lf21, .int wt22, .int nv, .int nl, .int nh, .int nc, .int cm23, .ref da, .int dn, .int u_8])), (fa, .inl (cA, 66, .inl fl8)), (ka, .inl (cA, 66, .inl kp9)), (da, .inl (cA, 24, .inl dr))] H := hP
                          have hD : va_D A [(mo, .inr (6, [.ref fa, .ref ka, .int 1, .int rn, .int lf21, .int wt22, .int nv, .int nl, .int nh, .int nc, .int cm23, .ref da, .int dn, .int u_8])), (fa, .inl (cA, 66, .inl fl8)), (ka, .inl (cA, 66, .inl kp9)), (da, .inl (cA, 24, .inl dr))] := hD
                          refine lv_aload_n hx hb dX6_safeFinish_159 rfl (lv_at hl 7 rfl) ?_
                          refine lv_iload hx hb dX6_safeFinish_160 (lv_at hl 3 rfl) ?_
                          refine va_put (D := D) (ci := 6) (v := .int cm) (ty := .int) (C := RX6) (T := TX6) (N := 14) hx hb hts hi6 tyX6 tyX6_ok nmX6 hown hK hP hD hS 0 rfl rfl 10 (by decide) (hts (.fieldLink RX6 23 "BootstayModel" "come" "I") (by decide +kernel)) (fun _ h9 => h9) rfl (by decide +kernel) rfl rfl (Nat.le_of_ble_eq_true rfl) dX6_safeFinish_162 (fun H locs hP hD hS => ?_)
                          have hP : va_P D vwCl [(mo, .inr (6, [.ref fa, .ref ka, .int 1, .int rn, .int lf21, .int wt22, .int nv, .int nl, .int nh, .int nc, .int cm, .ref da, .int dn, .int u_8])), (fa, .inl (cA, 66, .inl fl8)), (ka, .inl (cA, 66, .inl kp9)), (da, .inl (cA, 24, .inl dr))] H := hP
                          have hD : va_D A [(mo, .inr (6, [.ref fa, .ref ka, .int 1, .int rn, .int lf21, .int wt22, .int nv, .int nl, .int nh, .int nc, .int cm, .ref da, .int dn, .int u_8])), (fa, .inl (cA, 66, .inl fl8)), (ka, .inl (cA, 66, .inl kp9)), (da, .inl (cA, 24, .inl dr))] := hD
                          refine lv_iinc (v := (k + 1)) (lv' := [(7, .int (k + 1)), (9, .int k2), (6, .int (q + 0)), (5, .int cm), (4, .int wt), (3, .int lf), (2, .int rn), (0, .ref mo), (1, .int p0)]) hx hb dX6_safeFinish_165 hl (k := 2) rfl rfl (by decide) rfl (fun ls hl => ?_)
                          refine lv_goto (tgt := 73) hx hb dX6_safeFinish_168 (by decide) ?_
                          exact ih73 (j + 1) (q + 0) (k + 1) fl8 1 lf21 wt22 (by omega) hj (by rw [ik]; exact nI_1 j) (by rw [ifl, Nat.le_antisymm ij2 hj2]; exact okW_mirr hkok) (by subst ik; rw [← ie, (show 10 - j = (10 - (j + 1)) + 1 by omega)]; simp only [msN, ← h_15, if_pos c_25, if_pos c_32]; rw [ifl, Nat.le_antisymm ij2 hj2]) _ _ hP hD hS ls (lv_sub hl [0, 2, 3, 4, 5, 6, 7, 8] rfl)
                        · skip
                          have hj2 : j2 < 66 := Nat.lt_of_not_le (fun h => c_33 (by rw [ik2]; exact (bx_le (by omega)).mpr h))
                          refine lv_aload_n hx hb dX6_safeFinish_129 rfl (lv_at hl 7 rfl) ?_
                          refine va_get (D := D) (ci := 6) (v := .ref fa) (C := RX6) (T := TX6) (N := 14) hx hb hts hi6 hown hK hP 0 rfl rfl 0 (by decide) (hts (.fieldLink RX6 7 "BootstayModel" "flash" "[I") (by decide +kernel)) (fun _ h9 => h9) rfl dX6_safeFinish_130 ?_
                          refine lv_iload hx hb dX6_safeFinish_133 (lv_at hl 0 rfl) ?_
                          refine lv_aload_n hx hb dX6_safeFinish_135 rfl (lv_at hl 7 rfl) ?_
                          refine va_get (D := D) (ci := 6) (v := .ref ka) (C := RX6) (T := TX6) (N := 14) hx hb hts hi6 hown hK hP 0 rfl rfl 1 (by decide) (hts (.fieldLink RX6 13 "BootstayModel" "kept" "[I") (by decide +kernel)) (fun _ h9 => h9) rfl dX6_safeFinish_136 ?_
                          refine lv_iload hx hb dX6_safeFinish_139 (lv_at hl 0 rfl) ?_
                          refine bx_ald (D := D) hx hb hK hP 2 0 rfl rfl (by rw [ik2]; exact vp_in_nI hj2 (by decide)) dX6_safeFinish_141 ?_
                          refine bx_ast (D := D) hx hb hK hP hD hS 1 0 rfl rfl (by rw [ik2]; exact vp_in_nI hj2 (by decide)) dX6_safeFinish_142 (fun H locs hP hD hS => ?_)
                          have hP : va_P D vwCl [(mo, .inr (6, [.ref fa, .ref ka, .int on19, .int rn20, .int lf21, .int wt22, .int nv, .int nl, .int nh, .int nc, .int cm23, .ref da, .int dn, .int u_8])), (fa, .inl (cA, 66, .inl (wr fl8 k2 (rd kp9 k2)))), (ka, .inl (cA, 66, .inl kp9)), (da, .inl (cA, 24, .inl dr))] H := hP
                          have hD : va_D A [(mo, .inr (6, [.ref fa, .ref ka, .int on19, .int rn20, .int lf21, .int wt22, .int nv, .int nl, .int nh, .int nc, .int cm23, .ref da, .int dn, .int u_8])), (fa, .inl (cA, 66, .inl (wr fl8 k2 (rd kp9 k2)))), (ka, .inl (cA, 66, .inl kp9)), (da, .inl (cA, 24, .inl dr))] := hD
                          refine lv_iinc (v := (k2 + 1)) (lv' := [(9, .int (k2 + 1)), (6, .int (q + 0)), (7, .int k), (5, .int cm), (4, .int wt), (3, .int lf), (2, .int rn), (0, .ref mo), (1, .int p0)]) hx hb dX6_safeFinish_143 hl (k := 0) rfl rfl (by decide) rfl (fun ls hl => ?_)
                          refine lv_goto (tgt := 122) hx hb dX6_safeFinish_146 (by decide) ?_
                          exact ih122 (j2 + 1) (k2 + 1) (wr fl8 k2 (rd kp9 k2)) (by omega) hj2 (by rw [ik2]; exact nI_1 j2) (by rw [ifl, ik2, mirr_s hj2 (by show kp9 (nI j2).toNatClampNeg = _; rw [nI_clamp (by omega)])]) _ _ hP hD hS ls (lv_sub hl [0, 1, 2, 3, 4, 5, 6, 7, 8] rfl)
                    exact loop122 67 0 0 fl18 (by omega) (by omega) nI_0.symm (by rw [mirr_0]) _ _ hP hD hS ls (lv_sub hl [0, 1, 3, 4, 5, 6, 7, 8, 9] rfl)
                  · skip
                    refine lv_iconst (v := 1) hx hb dX6_safeFinish_111 (by decide) ?_
                    refine lv_goto (tgt := 116) hx hb dX6_safeFinish_112 (by decide) ?_
                    refine lv_iadd hx hb dX6_safeFinish_116 ?_
                    refine lv_istore (lv' := [(6, .int (q + 1)), (8, .int r_17), (7, .int k), (5, .int cm), (4, .int wt), (3, .int lf), (2, .int rn), (0, .ref mo), (1, .int p0)]) hx hb dX6_safeFinish_117 hl (by decide) rfl (fun ls hl => ?_)
                    refine lv_iconst (v := 0) hx hb dX6_safeFinish_119 (by decide) ?_
                    refine lv_istore (lv' := [(9, .int 0), (6, .int (q + 1)), (8, .int r_17), (7, .int k), (5, .int cm), (4, .int wt), (3, .int lf), (2, .int rn), (0, .ref mo), (1, .int p0)]) hx hb dX6_safeFinish_120 hl (by decide) rfl (fun ls hl => ?_)
                    have loop122 : ∀ (n : Nat) (j2 : Nat) (k2 : Int32) (fl8 : Nat → Int32), 66 - j2 < n → j2 ≤ 66 → k2 = nI j2 → fl8 = mirr fl18 kp9 j2 → ∀ (H : Heap) (locs : List Loc), va_P D vwCl [(mo, .inr (6, [.ref fa, .ref ka, .int on19, .int rn20, .int lf21, .int wt22, .int nv, .int nl, .int nh, .int nc, .int cm23, .ref da, .int dn, .int u_8])), (fa, .inl (cA, 66, .inl fl8)), (ka, .inl (cA, 66, .inl kp9)), (da, .inl (cA, 24, .inl dr))] H → va_D A [(mo, .inr (6, [.ref fa, .ref ka, .int on19, .int rn20, .int lf21, .int wt22, .int nv, .int nl, .int nh, .int nc, .int cm23, .ref da, .int dn, .int u_8])), (fa, .inl (cA, 66, .inl fl8)), (ka, .inl (cA, 66, .inl kp9)), (da, .inl (cA, 24, .inl dr))] → va_S A s.heap H locs → ∀ (ls : Array Slot), lv_has ls 10 [(9, .int k2), (6, .int (q + 1)), (7, .int k), (5, .int cm), (4, .int wt), (3, .int lf), (2, .int rn), (0, .ref mo), (1, .int p0)] → W p l e (headSpec wsX6_safeFinish ({ frames := 8, cells := 0, slots := 0, locals := 167 })).room s m ([.ref mo, .int p0] : List Value).toArray below meth c H locs 0 0 (MQ below (va_Qi (fun r u => (r, u) = F_X6_safeFinish fl kp on rn lf wt nv nl nh nc cm p0) (fun u t => bx_at D (wMo cA mo fa ka da u.1 u.2.1 u.2.2.1 u.2.2.2.1 u.2.2.2.2.1 u.2.2.2.2.2.1 nv nl nh nc u.2.2.2.2.2.2.1 dr dn u.2.2.2.2.2.2.2) (A) t) (A)) ([.ref mo, .int p0] : List Value).toArray s 0 0 (A)) (F0 m 122 ls []) := by
                      intro n
                      induction n with
                      | zero =>
                        intro j2 k2 fl8 h_f ij2 ik2 ifl H locs hP hD hS ls hl
                        exact absurd h_f (Nat.not_lt_zero _)
                      | succ n ih122 =>
                        intro j2 k2 fl8 h_f ij2 ik2 ifl H locs hP hD hS ls hl
                        refine lv_iload hx hb dX6_safeFinish_122 (lv_at hl 0 rfl) ?_
                        refine lv_bipush (v := 66) hx hb dX6_safeFinish_124 (by decide) ?_
                        refine lv_icmp_ge (tgt := 149) hx hb dX6_safeFinish_126 (by decide) (fun c_34 => ?_) (fun c_34 => ?_)
                        · skip
                          have hj2 : 66 ≤ j2 := (bx_le (by omega)).mp (ik2 ▸ c_34)
                          refine lv_aload_n hx hb dX6_safeFinish_149 rfl (lv_at hl 7 rfl) ?_
                          refine lv_iconst (v := 1) hx hb dX6_safeFinish_150 (by decide) ?_
                          refine va_put (D := D) (ci := 6) (v := .int 1) (ty := .boolean) (C := RX6) (T := TX6) (N := 14) hx hb hts hi6 tyX6 tyX6_ok nmX6 hown hK hP hD hS 0 rfl rfl 2 (by decide) (hts (.fieldLink RX6 63 "BootstayModel" "on" "Z") (by decide +kernel)) (fun _ h9 => h9) rfl (by decide +kernel) rfl rfl (Nat.le_of_ble_eq_true rfl) dX6_safeFinish_151 (fun H locs hP hD hS => ?_)
                          have hP : va_P D vwCl [(mo, .inr (6, [.ref fa, .ref ka, .int 1, .int rn20, .int lf21, .int wt22, .int nv, .int nl, .int nh, .int nc, .int cm23, .ref da, .int dn, .int u_8])), (fa, .inl (cA, 66, .inl fl8)), (ka, .inl (cA, 66, .inl kp9)), (da, .inl (cA, 24, .inl dr))] H := hP
                          have hD : va_D A [(mo, .inr (6, [.ref fa, .ref ka, .int 1, .int rn20, .int lf21, .int wt22, .int nv, .int nl, .int nh, .int nc, .int cm23, .ref da, .int dn, .int u_8])), (fa, .inl (cA, 66, .inl fl8)), (ka, .inl (cA, 66, .inl kp9)), (da, .inl (cA, 24, .inl dr))] := hD
                          refine lv_aload_n hx hb dX6_safeFinish_154 rfl (lv_at hl 7 rfl) ?_
                          refine lv_iload_n hx hb dX6_safeFinish_155 rfl (lv_at hl 6 rfl) ?_
                          refine va_put (D := D) (ci := 6) (v := .int rn) (ty := .int) (C := RX6) (T := TX6) (N := 14) hx hb hts hi6 tyX6 tyX6_ok nmX6 hown hK hP hD hS 0 rfl rfl 3 (by decide) (hts (.fieldLink RX6 16 "BootstayModel" "running" "I") (by decide +kernel)) (fun _ h9 => h9) rfl (by decide +kernel) rfl rfl (Nat.le_of_ble_eq_true rfl) dX6_safeFinish_156 (fun H locs hP hD hS => ?_)
                          have hP : va_P D vwCl [(mo, .inr (6, [.ref fa, .ref ka, .int 1, .int rn, .int lf21, .int wt22, .int nv, .int nl, .int nh, .int nc, .int cm23, .ref da, .int dn, .int u_8])), (fa, .inl (cA, 66, .inl fl8)), (ka, .inl (cA, 66, .inl kp9)), (da, .inl (cA, 24, .inl dr))] H := hP
                          have hD : va_D A [(mo, .inr (6, [.ref fa, .ref ka, .int 1, .int rn, .int lf21, .int wt22, .int nv, .int nl, .int nh, .int nc, .int cm23, .ref da, .int dn, .int u_8])), (fa, .inl (cA, 66, .inl fl8)), (ka, .inl (cA, 66, .inl kp9)), (da, .inl (cA, 24, .inl dr))] := hD
                          refine lv_aload_n hx hb dX6_safeFinish_159 rfl (lv_at hl 7 rfl) ?_
                          refine lv_iload hx hb dX6_safeFinish_160 (lv_at hl 3 rfl) ?_
                          refine va_put (D := D) (ci := 6) (v := .int cm) (ty := .int) (C := RX6) (T := TX6) (N := 14) hx hb hts hi6 tyX6 tyX6_ok nmX6 hown hK hP hD hS 0 rfl rfl 10 (by decide) (hts (.fieldLink RX6 23 "BootstayModel" "come" "I") (by decide +kernel)) (fun _ h9 => h9) rfl (by decide +kernel) rfl rfl (Nat.le_of_ble_eq_true rfl) dX6_safeFinish_162 (fun H locs hP hD hS => ?_)
                          have hP : va_P D vwCl [(mo, .inr (6, [.ref fa, .ref ka, .int 1, .int rn, .int lf21, .int wt22, .int nv, .int nl, .int nh, .int nc, .int cm, .ref da, .int dn, .int u_8])), (fa, .inl (cA, 66, .inl fl8)), (ka, .inl (cA, 66, .inl kp9)), (da, .inl (cA, 24, .inl dr))] H := hP
                          have hD : va_D A [(mo, .inr (6, [.ref fa, .ref ka, .int 1, .int rn, .int lf21, .int wt22, .int nv, .int nl, .int nh, .int nc, .int cm, .ref da, .int dn, .int u_8])), (fa, .inl (cA, 66, .inl fl8)), (ka, .inl (cA, 66, .inl kp9)), (da, .inl (cA, 24, .inl dr))] := hD
                          refine lv_iinc (v := (k + 1)) (lv' := [(7, .int (k + 1)), (9, .int k2), (6, .int (q + 1)), (5, .int cm), (4, .int wt), (3, .int lf), (2, .int rn), (0, .ref mo), (1, .int p0)]) hx hb dX6_safeFinish_165 hl (k := 2) rfl rfl (by decide) rfl (fun ls hl => ?_)
                          refine lv_goto (tgt := 73) hx hb dX6_safeFinish_168 (by decide) ?_
                          exact ih73 (j + 1) (q + 1) (k + 1) fl8 1 lf21 wt22 (by omega) hj (by rw [ik]; exact nI_1 j) (by rw [ifl, Nat.le_antisymm ij2 hj2]; exact okW_mirr hkok) (by subst ik; rw [← ie, (show 10 - j = (10 - (j + 1)) + 1 by omega)]; simp only [msN, ← h_15, if_pos c_25, if_neg c_32]; rw [ifl, Nat.le_antisymm ij2 hj2]) _ _ hP hD hS ls (lv_sub hl [0, 2, 3, 4, 5, 6, 7, 8] rfl)
                        · skip
                          have hj2 : j2 < 66 := Nat.lt_of_not_le (fun h => c_34 (by rw [ik2]; exact (bx_le (by omega)).mpr h))
                          refine lv_aload_n hx hb dX6_safeFinish_129 rfl (lv_at hl 7 rfl) ?_
                          refine va_get (D := D) (ci := 6) (v := .ref fa) (C := RX6) (T := TX6) (N := 14) hx hb hts hi6 hown hK hP 0 rfl rfl 0 (by decide) (hts (.fieldLink RX6 7 "BootstayModel" "flash" "[I") (by decide +kernel)) (fun _ h9 => h9) rfl dX6_safeFinish_130 ?_
                          refine lv_iload hx hb dX6_safeFinish_133 (lv_at hl 0 rfl) ?_
                          refine lv_aload_n hx hb dX6_safeFinish_135 rfl (lv_at hl 7 rfl) ?_
                          refine va_get (D := D) (ci := 6) (v := .ref ka) (C := RX6) (T := TX6) (N := 14) hx hb hts hi6 hown hK hP 0 rfl rfl 1 (by decide) (hts (.fieldLink RX6 13 "BootstayModel" "kept" "[I") (by decide +kernel)) (fun _ h9 => h9) rfl dX6_safeFinish_136 ?_
                          refine lv_iload hx hb dX6_safeFinish_139 (lv_at hl 0 rfl) ?_
                          refine bx_ald (D := D) hx hb hK hP 2 0 rfl rfl (by rw [ik2]; exact vp_in_nI hj2 (by decide)) dX6_safeFinish_141 ?_
                          refine bx_ast (D := D) hx hb hK hP hD hS 1 0 rfl rfl (by rw [ik2]; exact vp_in_nI hj2 (by decide)) dX6_safeFinish_142 (fun H locs hP hD hS => ?_)
                          have hP : va_P D vwCl [(mo, .inr (6, [.ref fa, .ref ka, .int on19, .int rn20, .int lf21, .int wt22, .int nv, .int nl, .int nh, .int nc, .int cm23, .ref da, .int dn, .int u_8])), (fa, .inl (cA, 66, .inl (wr fl8 k2 (rd kp9 k2)))), (ka, .inl (cA, 66, .inl kp9)), (da, .inl (cA, 24, .inl dr))] H := hP
                          have hD : va_D A [(mo, .inr (6, [.ref fa, .ref ka, .int on19, .int rn20, .int lf21, .int wt22, .int nv, .int nl, .int nh, .int nc, .int cm23, .ref da, .int dn, .int u_8])), (fa, .inl (cA, 66, .inl (wr fl8 k2 (rd kp9 k2)))), (ka, .inl (cA, 66, .inl kp9)), (da, .inl (cA, 24, .inl dr))] := hD
                          refine lv_iinc (v := (k2 + 1)) (lv' := [(9, .int (k2 + 1)), (6, .int (q + 1)), (7, .int k), (5, .int cm), (4, .int wt), (3, .int lf), (2, .int rn), (0, .ref mo), (1, .int p0)]) hx hb dX6_safeFinish_143 hl (k := 0) rfl rfl (by decide) rfl (fun ls hl => ?_)
                          refine lv_goto (tgt := 122) hx hb dX6_safeFinish_146 (by decide) ?_
                          exact ih122 (j2 + 1) (k2 + 1) (wr fl8 k2 (rd kp9 k2)) (by omega) hj2 (by rw [ik2]; exact nI_1 j2) (by rw [ifl, ik2, mirr_s hj2 (by show kp9 (nI j2).toNatClampNeg = _; rw [nI_clamp (by omega)])]) _ _ hP hD hS ls (lv_sub hl [0, 1, 2, 3, 4, 5, 6, 7, 8] rfl)
                    exact loop122 67 0 0 fl18 (by omega) (by omega) nI_0.symm (by rw [mirr_0]) _ _ hP hD hS ls (lv_sub hl [0, 1, 3, 4, 5, 6, 7, 8, 9] rfl)
          exact loop73 11 0 0 0 fl on lf wt (by omega) (Nat.zero_le _) nI_0.symm hok rfl _ _ hP hD hS ls (lv_sub hl [0, 1, 2, 3, 4, 5, 6, 7] rfl)
        · skip
          have hj : j < 66 := Nat.lt_of_not_le (fun h => c_13 (by rw [ik]; exact (bx_le (by omega)).mpr h))
          refine lv_aload_n hx hb dX6_safeFinish_27 rfl (lv_at hl 1 rfl) ?_
          refine va_get (D := D) (ci := 6) (v := .ref ka) (C := RX6) (T := TX6) (N := 14) hx hb hts hi6 hown hK hP 0 rfl rfl 1 (by decide) (hts (.fieldLink RX6 13 "BootstayModel" "kept" "[I") (by decide +kernel)) (fun _ h9 => h9) rfl dX6_safeFinish_28 ?_
          refine lv_iload_n hx hb dX6_safeFinish_31 rfl (lv_at hl 0 rfl) ?_
          refine lv_aload_n hx hb dX6_safeFinish_32 rfl (lv_at hl 1 rfl) ?_
          refine va_get (D := D) (ci := 6) (v := .ref fa) (C := RX6) (T := TX6) (N := 14) hx hb hts hi6 hown hK hP 0 rfl rfl 0 (by decide) (hts (.fieldLink RX6 7 "BootstayModel" "flash" "[I") (by decide +kernel)) (fun _ h9 => h9) rfl dX6_safeFinish_33 ?_
          refine lv_iload_n hx hb dX6_safeFinish_36 rfl (lv_at hl 0 rfl) ?_
          refine bx_ald (D := D) hx hb hK hP 1 0 rfl rfl (by rw [ik]; exact vp_in_nI hj (by decide)) dX6_safeFinish_37 ?_
          refine bx_ast (D := D) hx hb hK hP hD hS 2 0 rfl rfl (by rw [ik]; exact vp_in_nI hj (by decide)) dX6_safeFinish_38 (fun H locs hP hD hS => ?_)
          have hP : va_P D vwCl [(mo, .inr (6, [.ref fa, .ref ka, .int on, .int rn, .int lf, .int wt, .int nv, .int nl, .int nh, .int nc, .int cm, .ref da, .int dn, .int u_8])), (fa, .inl (cA, 66, .inl fl)), (ka, .inl (cA, 66, .inl (wr kp9 k (rd fl k)))), (da, .inl (cA, 24, .inl dr))] H := hP
          have hD : va_D A [(mo, .inr (6, [.ref fa, .ref ka, .int on, .int rn, .int lf, .int wt, .int nv, .int nl, .int nh, .int nc, .int cm, .ref da, .int dn, .int u_8])), (fa, .inl (cA, 66, .inl fl)), (ka, .inl (cA, 66, .inl (wr kp9 k (rd fl k)))), (da, .inl (cA, 24, .inl dr))] := hD
          refine lv_iinc (v := (k + 1)) (lv' := [(2, .int (k + 1)), (0, .ref mo), (1, .int p0)]) hx hb dX6_safeFinish_39 hl (k := 0) rfl rfl (by decide) rfl (fun ls hl => ?_)
          refine lv_goto (tgt := 21) hx hb dX6_safeFinish_42 (by decide) ?_
          exact ih21 (j + 1) (k + 1) (wr kp9 k (rd fl k)) (by omega) hj (by rw [ik]; exact nI_1 j) (by rw [ikp, ik, mirr_s hj (by show fl (nI j).toNatClampNeg = _; rw [nI_clamp (by omega)])]) _ _ hP hD hS ls (lv_sub hl [0, 1, 2] rfl)
    exact loop21 67 0 0 kp (by omega) (by omega) nI_0.symm (by rw [mirr_0]) _ _ hP hD hS ls (lv_sub hl [0, 1, 2] rfl)
  · skip
    refine lv_iconst (v := 0) hx hb dX6_safeFinish_17 (by decide) ?_
    exact W.iret (v := 0) hx hb hr (fun t ht hW => ⟨⟨0, (fl, kp, on, rn, lf, wt, cm, u_8), rfl, (by simp only [F_X6_safeFinish, ← h_7, if_pos c_12]), ⟨by rw [ht]; exact hP, hD⟩⟩, hS.F ht⟩) hS.2.2 dX6_safeFinish_18
