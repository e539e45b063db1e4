def F_X6_draftHash (dr : Nat → Int32) (dn : Int32) : Int32 × Int32 := (hashM (fun k => rd dr (nI k)) dn.toNatClampNeg, 0)
 
set_option maxHeartbeats 4000000 in
set_option maxRecDepth 100000 in
theorem c_X6_draftHash (l : Launch) (D : va_G) (cA : ClassId) (mo fa ka da : Nat) (sz : Nat) (fl : Nat → Int32) (kp : Nat → Int32) (on : Int32) (rn : Int32) (lf : Int32) (wt : Int32) (nv : Int32) (nl : Int32) (nh : Int32) (nc : Int32) (cm : Int32) (dr : Nat → Int32) (dn : Int32) (la : Int32) (hd : dn.toNatClampNeg ≤ 24) : Met l yX6_draftHash wsX6_draftHash ({ frames := 1, cells := 0, slots := 0, locals := 21 }) (va_Pc [.ref mo] (bx_pre D [(cA, .int)] (wMo cA mo fa ka da fl kp on rn lf wt nv nl nh nc cm dr dn la) sz)) (va_Qi (fun r u => (r, u) = F_X6_draftHash dr dn) (fun u t => bx_at D (wMo cA mo fa ka da fl kp on rn lf wt nv nl nh nc cm dr dn u) (va_A (wMo cA mo fa ka da fl kp on rn lf wt nv nl nh nc cm dr dn la) sz) t) (va_A (wMo cA mo fa ka da fl kp on rn lf wt nv nl nh nc cm dr dn la) sz)) 0 0 (va_A (wMo cA mo fa ka da fl kp on rn lf wt nv nl nh nc cm dr dn la) sz) := by
  refine Met.ofW (cc := cX6_draftHash) (maxL := 3) (ret := (some .int)) (by decide) rfl ?_
  intro p e s m args below meth c s₁ B hml hv
  obtain ⟨rfl, hsz, hP, hK, hD0, hG⟩ := hv
  have hx := B.exec
  have hb := B.bytes
  have hr := B.returns
  have hts := atoms_spec (ws := wsX6_draftHash) B.pre
  have hown : s.vm.findClass RX6 = some m.cls := findClass_of_methodNamed B.named
  have hlocks := B.notSynchronized
  subst hsz
  have hD := hD0.self (sz := s.heap.size)
  generalize hAe : va_A (wMo cA mo fa ka da fl kp on rn lf wt nv nl nh nc cm dr dn la) s.heap.size = A at hD ⊢
  have hA : ∀ q : Nat, s.heap.size ≤ q → A q := fun q h => by rw [← hAe]; exact Or.inr h
  have hS : va_S A s.heap s.heap [] := va_S.rf
  have hD : va_D A [(mo, .inr (6, [.ref fa, .ref ka, .int on, .int rn, .int lf, .int wt, .int nv, .int nl, .int nh, .int nc, .int cm, .ref da, .int dn, .int la])), (fa, .inl (cA, 66, .inl fl)), (ka, .inl (cA, 66, .inl kp)), (da, .inl (cA, 24, .inl dr))] := hD
  have hP : va_P D vwCl [(mo, .inr (6, [.ref fa, .ref ka, .int on, .int rn, .int lf, .int wt, .int nv, .int nl, .int nh, .int nc, .int cm, .ref da, .int dn, .int la])), (fa, .inl (cA, 66, .inl fl)), (ka, .inl (cA, 66, .inl kp)), (da, .inl (cA, 24, .inl dr))] s.heap := hP
  have hl := lv_entry ([.ref mo]) (n := 3) (Nat.le_of_ble_eq_true rfl)
  rw [lg_entry_eq]
  generalize (lg_sl ([.ref mo]) ++ List.replicate (3 - (lg_sl ([.ref mo])).length) Slot.unset).toArray = ls at hl ⊢
  have hl : lv_has ls 3 [(0, .ref mo)] := hl
  have hi6 : ∀ w ∈ u_ws RX6 TX6 14, w ∈ wsX6_draftHash := by decide +kernel
  refine lv_aload_n hx hb dX6_draftHash_0 rfl (lv_at hl 0 rfl) ?_
  refine lv_iconst (v := 0) hx hb dX6_draftHash_1 (by decide) ?_
  refine va_put (D := D) (ci := 6) (v := .int 0) (ty := .int) (C := RX6) (T := TX6) (N := 14) hx hb hts hi6 tyX6 tyX6_ok nmX6 hown hK hP hD hS 0 rfl rfl 13 (by decide) (hts (.fieldLink RX6 37 "BootstayModel" "last" "I") (by decide +kernel)) (fun _ h9 => h9) rfl (by decide +kernel) rfl rfl (Nat.le_of_ble_eq_true rfl) dX6_draftHash_2 (fun H locs hP hD hS => ?_)
  have hP : va_P D vwCl [(mo, .inr (6, [.ref fa, .ref ka, .int on, .int rn, .int lf, .int wt, .int nv, .int nl, .int nh, .int nc, .int cm, .ref da, .int dn, .int 0])), (fa, .inl (cA, 66, .inl fl)), (ka, .inl (cA, 66, .inl kp)), (da, .inl (cA, 24, .inl dr))] H := hP
  have hD : va_D A [(mo, .inr (6, [.ref fa, .ref ka, .int on, .int rn, .int lf, .int wt, .int nv, .int nl, .int nh, .int nc, .int cm, .ref da, .int dn, .int 0])), (fa, .inl (cA, 66, .inl fl)), (ka, .inl (cA, 66, .inl kp)), (da, .inl (cA, 24, .inl dr))] := hD
  refine lv_bipush (v := 17) hx hb dX6_draftHash_5 (by decide) ?_
  refine lv_istore_n (lv' := [(1, .int 17), (0, .ref mo)]) hx hb dX6_draftHash_7 rfl hl (by decide) rfl (fun ls hl => ?_)
  refine lv_iconst (v := 0) hx hb dX6_draftHash_8 (by decide) ?_
  refine lv_istore_n (lv' := [(2, .int 0), (1, .int 17), (0, .ref mo)]) hx hb dX6_draftHash_9 rfl hl (by decide) rfl (fun ls hl => ?_)
  have loop10 : ∀ (n : Nat) (j : Nat) (h k : Int32) (la9 : Int32), dn.toNatClampNeg - j < n → j ≤ dn.toNatClampNeg → k = nI j → h = hashM (fun k => rd dr (nI k)) j → la9 = 0 → ∀ (H : Heap) (locs : List Loc), va_P D vwCl [(mo, .inr (6, [.ref fa, .ref ka, .int on, .int rn, .int lf, .int wt, .int nv, .int nl, .int nh, .int nc, .int cm, .ref da, .int dn, .int la9])), (fa, .inl (cA, 66, .inl fl)), (ka, .inl (cA, 66, .inl kp)), (da, .inl (cA, 24, .inl dr))] H → va_D A [(mo, .inr (6, [.ref fa, .ref ka, .int on, .int rn, .int lf, .int wt, .int nv, .int nl, .int nh, .int nc, .int cm, .ref da, .int dn, .int la9])), (fa, .inl (cA, 66, .inl fl)), (ka, .inl (cA, 66, .inl kp)), (da, .inl (cA, 24, .inl dr))] → va_S A s.heap H locs → ∀ (ls : Array Slot), lv_has ls 3 [(2, .int k), (1, .int h), (0, .ref mo)] → W p l e (headSpec wsX6_draftHash ({ frames := 1, cells := 0, slots := 0, locals := 21 })).room s m ([.ref mo] : List Value).toArray below meth c H locs 0 0 (MQ below (va_Qi (fun r u => (r, u) = F_X6_draftHash dr dn) (fun u t => bx_at D (wMo cA mo fa ka da fl kp on rn lf wt nv nl nh nc cm dr dn u) (A) t) (A)) ([.ref mo] : List Value).toArray s 0 0 (A)) (F0 m 10 ls []) := by
    intro n
    induction n with
    | zero =>
      intro j h k la9 h_f ij ik ih ila H locs hP hD hS ls hl
      exact absurd h_f (Nat.not_lt_zero _)
    | succ n ih10 =>
      intro j h k la9 h_f ij ik ih ila H locs hP hD hS ls hl
      refine lv_iload_n hx hb dX6_draftHash_10 rfl (lv_at hl 0 rfl) ?_
      refine lv_aload_n hx hb dX6_draftHash_11 rfl (lv_at hl 2 rfl) ?_
      refine va_get (D := D) (ci := 6) (v := .int dn) (C := RX6) (T := TX6) (N := 14) hx hb hts hi6 hown hK hP 0 rfl rfl 12 (by decide) (hts (.fieldLink RX6 121 "BootstayModel" "drafted" "I") (by decide +kernel)) (fun _ h9 => h9) rfl dX6_draftHash_12 ?_
      refine lv_icmp_ge (tgt := 35) hx hb dX6_draftHash_15 (by decide) (fun c_1 => ?_) (fun c_1 => ?_)
      · skip
        have hj : dn.toNatClampNeg ≤ j := (bx_le (by omega)).mp (ik ▸ c_1)
        refine lv_iload_n hx hb dX6_draftHash_35 rfl (lv_at hl 1 rfl) ?_
        exact W.iret (v := h) hx hb hr (fun t ht hW => ⟨⟨h, la9, rfl, (by rw [ih, ila, Nat.le_antisymm ij hj]; rfl), ⟨by rw [ht]; exact hP, hD⟩⟩, hS.F ht⟩) hS.2.2 dX6_draftHash_36
      · skip
        have hj : j < dn.toNatClampNeg := Nat.lt_of_not_le (fun h => c_1 (by rw [ik]; exact (bx_le (by omega)).mpr h))
        refine lv_iload_n hx hb dX6_draftHash_18 rfl (lv_at hl 1 rfl) ?_
        refine lv_aload_n hx hb dX6_draftHash_19 rfl (lv_at hl 2 rfl) ?_
        refine va_get (D := D) (ci := 6) (v := .ref da) (C := RX6) (T := TX6) (N := 14) hx hb hts hi6 hown hK hP 0 rfl rfl 11 (by decide) (hts (.fieldLink RX6 26 "BootstayModel" "draft" "[I") (by decide +kernel)) (fun _ h9 => h9) rfl dX6_draftHash_20 ?_
        refine lv_iload_n hx hb dX6_draftHash_23 rfl (lv_at hl 0 rfl) ?_
        refine bx_ald (D := D) hx hb hK hP 3 0 rfl rfl (by rw [ik]; exact vp_in_nI (by omega) (by decide)) dX6_draftHash_24 ?_
        refine bx_ri (va_runS (As := [.int h, .int (rd dr k)]) (rest := []) ⟨hx, hb, hml, hown, hts⟩ (c_X6_hashed l D h (rd dr k)) (va_cwS 2 hts gX6_draftHash_X6_hashed rfl rfl rfl (by decide +kernel) ⟨Nat.le_of_ble_eq_true rfl, Nat.le_of_ble_eq_true rfl⟩) (bx_psr (hK.sub (tys' := []) [] rfl) hG (hP.sub (ws' := []) [] rfl)) rfl rfl hl.1 rfl (lv_room (Nat.le_of_ble_eq_true rfl)) dX6_draftHash_25 ⟨Nat.zero_le _, Nat.zero_le _⟩) (fun r_2 h_3 => ?_)
        have h_3 := h_3.symm
        subst h_3
        refine lv_istore_n (lv' := [(1, .int (F_X6_hashed h (rd dr k))), (2, .int k), (0, .ref mo)]) hx hb dX6_draftHash_28 rfl hl (by decide) rfl (fun ls hl => ?_)
        refine lv_iinc (v := (k + 1)) (lv' := [(2, .int (k + 1)), (1, .int (F_X6_hashed h (rd dr k))), (0, .ref mo)]) hx hb dX6_draftHash_29 hl (k := 1) rfl rfl (by decide) rfl (fun ls hl => ?_)
        refine lv_goto (tgt := 10) hx hb dX6_draftHash_32 (by decide) ?_
        exact ih10 (j + 1) (F_X6_hashed h (rd dr k)) (k + 1) la9 (by omega) hj (by rw [ik]; exact nI_1 j) (by rw [ih, ik]; rfl) ila _ _ hP hD hS ls (lv_sub hl [0, 1, 2] rfl)
  exact loop10 (dn.toNatClampNeg + 1) 0 17 0 0 (by omega) (Nat.zero_le _) nI_0.symm rfl rfl _ _ hP hD hS ls (lv_sub hl [0, 1, 2] rfl)
def alN (fl dr : Nat → Int32) (dn s a b : Int32) : Nat → Nat → Nat
  | 0, j => j
  | n + 1, j => if dn ≤ a + nI j then j else if rd fl (29 * s + 2) ≤ b + nI j then j else if rd dr (a + nI j) = rd fl (29 * s + 5 + b + nI j) then alN fl dr dn s a b n (j + 1) else j
theorem alN_le {fl dr : Nat → Int32} {dn s a b : Int32} : ∀ n j, alN fl dr dn s a b n j ≤ j + n
  | 0, j => Nat.le_refl j
  | n + 1, j => by
    unfold alN
    have h := alN_le (fl := fl) (dr := dr) (dn := dn) (s := s) (a := a) (b := b) n (j + 1)
    split
    · omega
    · split
      · omega
      · split
        · omega
        · omega
def F_X6_alike (fl dr : Nat → Int32) (dn p0 p1 p2 : Int32) : Int32 := nI (alN fl dr dn p0 p1 p2 25 0)
/-- small places: their sums stay small -/
theorem nn_add {a j : Nat} : nI a + nI j = nI (a + j) := nI_add a j
theorem lt_nn {a : Nat} {L : Int32} (ha : a < 2 ^ 31) (h : ¬ L ≤ nI a) : a < L.toNatClampNeg := Nat.lt_of_not_le (fun z => h ((bx_le ha).mpr z))
 
set_option maxHeartbeats 4000000 in
set_option maxRecDepth 100000 in
theorem c_X6_alike (l : Launch) (D : va_G) (cA : ClassId) (mo fa ka da : Nat) (fl : Nat → Int32) (kp : Nat → Int32) (on : Int32) (rn : Int32) (lf : Int32) (wt : Int32) (nv : Int32) (nl : Int32) (nh : Int32) (nc : Int32) (cm : Int32) (dr : Nat → Int32) (dn : Int32) (la : Int32) (p0 : Int32) (p1 : Int32) (p2 : Int32) (hs : sl p0) (hd : dn.toNatClampNeg ≤ 24) (hL : (rd fl (29 * p0 + 2)).toNatClampNeg ≤ 24) (pa : ∃ a, p1 = nI a ∧ a ≤ 1000) (pb : ∃ b, p2 = nI b ∧ b ≤ 24) : Met l yX6_alike wsX6_alike ({ frames := 0, cells := 0, slots := 0, locals := 0 }) (va_Pc [.ref mo, .int p0, .int p1, .int p2] (bx_ro D [(cA, .int)] (wMo cA mo fa ka da fl kp on rn lf wt nv nl nh nc cm dr dn la))) (vp_Si (fun r => r = F_X6_alike fl dr dn p0 p1 p2)) 0 0 (fun _ => False) := by
  refine Met.ofW (cc := cX6_alike) (maxL := 5) (ret := (some .int)) (by decide) rfl ?_
  intro p e s m args below meth c s₁ B hml hv
  obtain ⟨rfl, hP, hK, hG⟩ := hv
  have hx := B.exec
  have hb := B.bytes
  have hr := B.returns
  have hts := atoms_spec (ws := wsX6_alike) B.pre
  have hown : s.vm.findClass RX6 = some m.cls := findClass_of_methodNamed B.named
  have hlocks := B.notSynchronized
  have hP : va_P D vwCl [(mo, .inr (6, [.ref fa, .ref ka, .int on, .int rn, .int lf, .int wt, .int nv, .int nl, .int nh, .int nc, .int cm, .ref da, .int dn, .int la])), (fa, .inl (cA, 66, .inl fl)), (ka, .inl (cA, 66, .inl kp)), (da, .inl (cA, 24, .inl dr))] s.heap := hP
  have hl := lv_entry ([.ref mo, .int p0, .int p1, .int p2]) (n := 5) (Nat.le_of_ble_eq_true rfl)
  rw [lg_entry_eq]
  generalize (lg_sl ([.ref mo, .int p0, .int p1, .int p2]) ++ List.replicate (5 - (lg_sl ([.ref mo, .int p0, .int p1, .int p2])).length) Slot.unset).toArray = ls at hl ⊢
  have hl : lv_has ls 5 [(0, .ref mo), (1, .int p0), (2, .int p1), (3, .int p2)] := hl
  have hi6 : ∀ w ∈ u_ws RX6 TX6 14, w ∈ wsX6_alike := by decide +kernel
  refine lv_iconst (v := 0) hx hb dX6_alike_0 (by decide) ?_
  refine lv_istore (lv' := [(4, .int 0), (0, .ref mo), (1, .int p0), (2, .int p1), (3, .int p2)]) hx hb dX6_alike_1 hl (by decide) rfl (fun ls hl => ?_)
  have loop3 : ∀ (n : Nat) (j : Nat) (k : Int32), 24 - j < n → j ≤ 24 → k = nI j → alN fl dr dn p0 p1 p2 (25 - j) j = alN fl dr dn p0 p1 p2 25 0 → ∀ (ls : Array Slot), lv_has ls 5 [(4, .int k), (0, .ref mo), (1, .int p0), (2, .int p1), (3, .int p2)] → W p l e (headSpec wsX6_alike ({ frames := 0, cells := 0, slots := 0, locals := 0 })).room s m ([.ref mo, .int p0, .int p1, .int p2] : List Value).toArray below meth c s.heap [] 0 0 (MQ below (vp_Si (fun r => r = F_X6_alike fl dr dn p0 p1 p2)) ([.ref mo, .int p0, .int p1, .int p2] : List Value).toArray s 0 0 (fun _ => False)) (F0 m 3 ls []) := by
    intro n
    induction n with
    | zero =>
      intro j k h_f ij ik ie ls hl
      exact absurd h_f (Nat.not_lt_zero _)
    | succ n ih3 =>
      intro j k h_f ij ik ie ls hl
      obtain ⟨ga, ea, la_⟩ := pa
      obtain ⟨gb, eb, lb_⟩ := pb
      refine lv_iload_n hx hb dX6_alike_3 rfl (lv_at hl 3 rfl) ?_
      refine lv_iload hx hb dX6_alike_4 (lv_at hl 0 rfl) ?_
      refine lv_iadd hx hb dX6_alike_6 ?_
      refine lv_aload_n hx hb dX6_alike_7 rfl (lv_at hl 1 rfl) ?_
      refine va_get (D := D) (ci := 6) (v := .int dn) (C := RX6) (T := TX6) (N := 14) hx hb hts hi6 hown hK hP 0 rfl rfl 12 (by decide) (hts (.fieldLink RX6 121 "BootstayModel" "drafted" "I") (by decide +kernel)) (fun _ h9 => h9) rfl dX6_alike_8 ?_
      refine lv_icmp_ge (tgt := 66) hx hb dX6_alike_11 (by decide) (fun c_1 => ?_) (fun c_1 => ?_)
      · skip
        have hm : nI j = F_X6_alike fl dr dn p0 p1 p2 := by
          subst ik
          unfold F_X6_alike
          rw [← ie, (show 25 - j = (25 - (j + 1)) + 1 by omega), alN]
          rw [if_pos c_1]
        refine lv_iload hx hb dX6_alike_66 (lv_at hl 0 rfl) ?_
        exact W.iret (v := k) hx hb hr (fun t ht hW => ⟨k, rfl, (by rw [ik]; exact hm), ht⟩) (fun _ h => nomatch h) dX6_alike_68
      · skip
        have ha : ga + j < dn.toNatClampNeg := lt_nn (by omega) (by rw [← nI_add, ← ea, ← ik]; exact c_1)
        have hj3 : j + 1 ≤ 24 := by omega
        refine lv_iload_n hx hb dX6_alike_14 rfl (lv_at hl 4 rfl) ?_
        refine lv_iload hx hb dX6_alike_15 (lv_at hl 0 rfl) ?_
        refine lv_iadd hx hb dX6_alike_17 ?_
        refine lv_aload_n hx hb dX6_alike_18 rfl (lv_at hl 1 rfl) ?_
        refine va_get (D := D) (ci := 6) (v := .ref fa) (C := RX6) (T := TX6) (N := 14) hx hb hts hi6 hown hK hP 0 rfl rfl 0 (by decide) (hts (.fieldLink RX6 7 "BootstayModel" "flash" "[I") (by decide +kernel)) (fun _ h9 => h9) rfl dX6_alike_19 ?_
        refine lv_bipush (v := 29) hx hb dX6_alike_22 (by decide) ?_
        refine lv_iload_n hx hb dX6_alike_24 rfl (lv_at hl 2 rfl) ?_
        refine lv_imul hx hb dX6_alike_25 ?_
        refine lv_iconst (v := 2) hx hb dX6_alike_26 (by decide) ?_
        refine lv_iadd hx hb dX6_alike_27 ?_
        refine bx_ald (D := D) hx hb hK hP 1 0 rfl rfl (vp_in_iff.mpr (by rcases hs with h | h <;> rw [h] <;> decide)) dX6_alike_28 ?_
        refine lv_icmp_ge (tgt := 66) hx hb dX6_alike_29 (by decide) (fun c_2 => ?_) (fun c_2 => ?_)
        · skip
          have hm : nI j = F_X6_alike fl dr dn p0 p1 p2 := by
            subst ik
            unfold F_X6_alike
            rw [← ie, (show 25 - j = (25 - (j + 1)) + 1 by omega), alN]
            rw [if_neg c_1, if_pos c_2]
          refine lv_iload hx hb dX6_alike_66 (lv_at hl 0 rfl) ?_
          exact W.iret (v := k) hx hb hr (fun t ht hW => ⟨k, rfl, (by rw [ik]; exact hm), ht⟩) (fun _ h => nomatch h) dX6_alike_68
        · skip
          have hb2 : gb + j < (rd fl (29 * p0 + 2)).toNatClampNeg := lt_nn (by omega) (by rw [← nI_add, ← eb, ← ik]; exact c_2)
          refine lv_aload_n hx hb dX6_alike_32 rfl (lv_at hl 1 rfl) ?_
          refine va_get (D := D) (ci := 6) (v := .ref da) (C := RX6) (T := TX6) (N := 14) hx hb hts hi6 hown hK hP 0 rfl rfl 11 (by decide) (hts (.fieldLink RX6 26 "BootstayModel" "draft" "[I") (by decide +kernel)) (fun _ h9 => h9) rfl dX6_alike_33 ?_
          refine lv_iload_n hx hb dX6_alike_36 rfl (lv_at hl 3 rfl) ?_
          refine lv_iload hx hb dX6_alike_37 (lv_at hl 0 rfl) ?_
          refine lv_iadd hx hb dX6_alike_39 ?_
          refine bx_ald (D := D) hx hb hK hP 3 0 rfl rfl (by rw [ea, ik, nI_add]; exact vp_in_nI (by omega) (by decide)) dX6_alike_40 ?_
          refine lv_aload_n hx hb dX6_alike_41 rfl (lv_at hl 1 rfl) ?_
          refine va_get (D := D) (ci := 6) (v := .ref fa) (C := RX6) (T := TX6) (N := 14) hx hb hts hi6 hown hK hP 0 rfl rfl 0 (by decide) (hts (.fieldLink RX6 7 "BootstayModel" "flash" "[I") (by decide +kernel)) (fun _ h9 => h9) rfl dX6_alike_42 ?_
          refine lv_bipush (v := 29) hx hb dX6_alike_45 (by decide) ?_
          refine lv_iload_n hx hb dX6_alike_47 rfl (lv_at hl 2 rfl) ?_
          refine lv_imul hx hb dX6_alike_48 ?_
          refine lv_iconst (v := 5) hx hb dX6_alike_49 (by decide) ?_
          refine lv_iadd hx hb dX6_alike_50 ?_
          refine lv_iload_n hx hb dX6_alike_51 rfl (lv_at hl 4 rfl) ?_
          refine lv_iadd hx hb dX6_alike_52 ?_
          refine lv_iload hx hb dX6_alike_53 (lv_at hl 0 rfl) ?_
          refine lv_iadd hx hb dX6_alike_55 ?_
          refine bx_ald (D := D) hx hb hK hP 1 0 rfl rfl (vi5' hs (by rw [eb, ik, nI_add]; exact vp_in_nI (by omega) (by decide))) dX6_alike_56 ?_
          refine lv_icmp_ne (tgt := 66) hx hb dX6_alike_57 (by decide) (fun c_3 => ?_) (fun c_3 => ?_)
          · skip
            have hm : nI j = F_X6_alike fl dr dn p0 p1 p2 := by
              subst ik
              unfold F_X6_alike
              rw [← ie, (show 25 - j = (25 - (j + 1)) + 1 by omega), alN]
              rw [if_neg c_1, if_neg c_2, if_neg c_3]
            refine lv_iload hx hb dX6_alike_66 (lv_at hl 0 rfl) ?_
            exact W.iret (v := k) hx hb hr (fun t ht hW => ⟨k, rfl, (by rw [ik]; exact hm), ht⟩) (fun _ h => nomatch h) dX6_alike_68
          · skip
            refine lv_iinc (v := (k + 1)) (lv' := [(4, .int (k + 1)), (0, .ref mo), (1, .int p0), (2, .int p1), (3, .int p2)]) hx hb dX6_alike_60 hl (k := 0) rfl rfl (by decide) rfl (fun ls hl => ?_)
            refine lv_goto (tgt := 3) hx hb dX6_alike_63 (by decide) ?_
            exact ih3 (j + 1) (k + 1) (by omega) hj3 (by rw [ik]; exact nI_1 j) (by subst ik; rw [← ie, (show 25 - j = (25 - (j + 1)) + 1 by omega), alN, if_neg c_1, if_neg c_2, if_pos c_3]) ls (lv_sub hl [0, 1, 2, 3, 4] rfl)
  exact loop3 25 0 0 (by omega) (Nat.zero_le _) nI_0.symm rfl ls (lv_sub hl [0, 1, 2, 3, 4] rfl)
/-- the first place of the longest match among 0 .. n -/
def bfN (al : Nat → Int32) : Nat → Nat
  | 0 => 0
  | n + 1 => if al (n + 1) ≤ al (bfN al n) then bfN al n else n + 1
theorem bfN_le (al : Nat → Int32) : ∀ n, bfN al n ≤ n
  | 0 => Nat.le_refl 0
  | n + 1 => by
    unfold bfN
    have h := bfN_le al n
    split <;> omega
def F_X6_bestFrom (fl dr : Nat → Int32) (dn p0 p1 : Int32) : Int32 := nI (bfN (fun k => F_X6_alike fl dr dn p0 p1 (nI k)) ((rd fl (29 * p0 + 2)).toNatClampNeg - 1))
 
set_option maxHeartbeats 4000000 in
set_option maxRecDepth 100000 in
theorem c_X6_bestFrom (l : Launch) (D : va_G) (cA : ClassId) (mo fa ka da : Nat) (fl : Nat → Int32) (kp : Nat → Int32) (on : Int32) (rn : Int32) (lf : Int32) (wt : Int32) (nv : Int32) (nl : Int32) (nh : Int32) (nc : Int32) (cm : Int32) (dr : Nat → Int32) (dn : Int32) (la : Int32) (p0 : Int32) (p1 : Int32) (hs : sl p0) (hd : dn.toNatClampNeg ≤ 24) (hL : (rd fl (29 * p0 + 2)).toNatClampNeg ≤ 24) (pa : ∃ a, p1 = nI a ∧ a ≤ 1000) : Met l yX6_bestFrom wsX6_bestFrom ({ frames := 1, cells := 0, slots := 0, locals := 24 }) (va_Pc [.ref mo, .int p0, .int p1] (bx_ro D [(cA, .int)] (wMo cA mo fa ka da fl kp on rn lf wt nv nl nh nc cm dr dn la))) (vp_Si (fun r => r = F_X6_bestFrom fl dr dn p0 p1)) 0 0 (fun _ => False) := by
  refine Met.ofW (cc := cX6_bestFrom) (maxL := 5) (ret := (some .int)) (by decide) rfl ?_
  intro p e s m args below meth c s₁ B hml hv
  obtain ⟨rfl, hP, hK, hG⟩ := hv
  have hx := B.exec
  have hb := B.bytes
  have hr := B.returns
  have hts := atoms_spec (ws := wsX6_bestFrom) B.pre
  have hown : s.vm.findClass RX6 = some m.cls := findClass_of_methodNamed B.named
  have hlocks := B.notSynchronized
  have hP : va_P D vwCl [(mo, .inr (6, [.ref fa, .ref ka, .int on, .int rn, .int lf, .int wt, .int nv, .int nl, .int nh, .int nc, .int cm, .ref da, .int dn, .int la])), (fa, .inl (cA, 66, .inl fl)), (ka, .inl (cA, 66, .inl kp)), (da, .inl (cA, 24, .inl dr))] s.heap := hP
  have hl := lv_entry ([.ref mo, .int p0, .int p1]) (n := 5) (Nat.le_of_ble_eq_true rfl)
  rw [lg_entry_eq]
  generalize (lg_sl ([.ref mo, .int p0, .int p1]) ++ List.replicate (5 - (lg_sl ([.ref mo, .int p0, .int p1])).length) Slot.unset).toArray = ls at hl ⊢
  have hl : lv_has ls 5 [(0, .ref mo), (1, .int p0), (2, .int p1)] := hl
  have hi6 : ∀ w ∈ u_ws RX6 TX6 14, w ∈ wsX6_bestFrom := by decide +kernel
  refine lv_iconst (v := 0) hx hb dX6_bestFrom_0 (by decide) ?_
  refine lv_istore_n (lv' := [(3, .int 0), (0, .ref mo), (1, .int p0), (2, .int p1)]) hx hb dX6_bestFrom_1 rfl hl (by decide) rfl (fun ls hl => ?_)
  refine lv_iconst (v := 1) hx hb dX6_bestFrom_2 (by decide) ?_
  refine lv_istore (lv' := [(4, .int 1), (3, .int 0), (0, .ref mo), (1, .int p0), (2, .int p1)]) hx hb dX6_bestFrom_3 hl (by decide) rfl (fun ls hl => ?_)
  have loop5 : ∀ (n : Nat) (j : Nat) (q k : Int32), (rd fl (29 * p0 + 2)).toNatClampNeg - j < n → j ≤ (rd fl (29 * p0 + 2)).toNatClampNeg - 1 → k = nI (j + 1) → q = nI (bfN (fun k => F_X6_alike fl dr dn p0 p1 (nI k)) j) → ∀ (ls : Array Slot), lv_has ls 5 [(4, .int k), (3, .int q), (0, .ref mo), (1, .int p0), (2, .int p1)] → W p l e (headSpec wsX6_bestFrom ({ frames := 1, cells := 0, slots := 0, locals := 24 })).room s m ([.ref mo, .int p0, .int p1] : List Value).toArray below meth c s.heap [] 0 0 (MQ below (vp_Si (fun r => r = F_X6_bestFrom fl dr dn p0 p1)) ([.ref mo, .int p0, .int p1] : List Value).toArray s 0 0 (fun _ => False)) (F0 m 5 ls []) := by
    intro n
    induction n with
    | zero =>
      intro j q k h_f ij ik ib ls hl
      exact absurd h_f (Nat.not_lt_zero _)
    | succ n ih5 =>
      intro j q k h_f ij ik ib ls hl
      refine lv_iload hx hb dX6_bestFrom_5 (lv_at hl 0 rfl) ?_
      refine lv_aload_n hx hb dX6_bestFrom_7 rfl (lv_at hl 2 rfl) ?_
      refine va_get (D := D) (ci := 6) (v := .ref fa) (C := RX6) (T := TX6) (N := 14) hx hb hts hi6 hown hK hP 0 rfl rfl 0 (by decide) (hts (.fieldLink RX6 7 "BootstayModel" "flash" "[I") (by decide +kernel)) (fun _ h9 => h9) rfl dX6_bestFrom_8 ?_
      refine lv_bipush (v := 29) hx hb dX6_bestFrom_11 (by decide) ?_
      refine lv_iload_n hx hb dX6_bestFrom_13 rfl (lv_at hl 3 rfl) ?_
      refine lv_imul hx hb dX6_bestFrom_14 ?_
      refine lv_iconst (v := 2) hx hb dX6_bestFrom_15 (by decide) ?_
      refine lv_iadd hx hb dX6_bestFrom_16 ?_
      refine bx_ald (D := D) hx hb hK hP 1 0 rfl rfl (vp_in_iff.mpr (by rcases hs with h | h <;> rw [h] <;> decide)) dX6_bestFrom_17 ?_
      refine lv_icmp_ge (tgt := 52) hx hb dX6_bestFrom_18 (by decide) (fun c_1 => ?_) (fun c_1 => ?_)
      · skip
        have hj : (rd fl (29 * p0 + 2)).toNatClampNeg ≤ j + 1 := (bx_le (by omega)).mp (ik ▸ c_1)
        refine lv_iload_n hx hb dX6_bestFrom_52 rfl (lv_at hl 1 rfl) ?_
        exact W.iret (v := q) hx hb hr (fun t ht hW => ⟨q, rfl, (by rw [ib]; unfold F_X6_bestFrom; rw [show (rd fl (29 * p0 + 2)).toNatClampNeg - 1 = j by omega]), ht⟩) (fun _ h => nomatch h) dX6_bestFrom_53
      · skip
        have hj : j + 1 < (rd fl (29 * p0 + 2)).toNatClampNeg := lt_nn (by omega) (by rw [← ik]; exact c_1)
        refine lv_aload_n hx hb dX6_bestFrom_21 rfl (lv_at hl 2 rfl) ?_
        refine lv_iload_n hx hb dX6_bestFrom_22 rfl (lv_at hl 3 rfl) ?_
        refine lv_iload_n hx hb dX6_bestFrom_23 rfl (lv_at hl 4 rfl) ?_
        refine lv_iload hx hb dX6_bestFrom_24 (lv_at hl 0 rfl) ?_
        refine bx_ri (va_runV (As := [.int p0, .int p1, .int k]) (rest := []) ⟨hx, hb, hml, hown, hts⟩ (c_X6_alike l D cA mo fa ka da fl kp on rn lf wt nv nl nh nc cm dr dn la p0 p1 k hs hd hL pa (⟨j + 1, ik, by omega⟩)) (cwV 3 hts gX6_bestFrom_X6_alike rfl rfl rfl (by decide +kernel) ⟨Nat.le_of_ble_eq_true rfl, Nat.le_of_ble_eq_true rfl⟩) (bx_pvr (ci := 6) (q0 := 0) hK hG (hP.sub (ws' := [(mo, .inr (6, [.ref fa, .ref ka, .int on, .int rn, .int lf, .int wt, .int nv, .int nl, .int nh, .int nc, .int cm, .ref da, .int dn, .int la])), (fa, .inl (cA, 66, .inl fl)), (ka, .inl (cA, 66, .inl kp)), (da, .inl (cA, 24, .inl dr))]) [0, 1, 2, 3] rfl) rfl rfl) rfl rfl hl.1 rfl (lv_room (Nat.le_of_ble_eq_true rfl)) dX6_bestFrom_26 ⟨Nat.zero_le _, Nat.zero_le _⟩) (fun r_2 h_3 => ?_)
        have h_3 := h_3.symm
        subst h_3
        refine lv_aload_n hx hb dX6_bestFrom_29 rfl (lv_at hl 2 rfl) ?_
        refine lv_iload_n hx hb dX6_bestFrom_30 rfl (lv_at hl 3 rfl) ?_
        refine lv_iload_n hx hb dX6_bestFrom_31 rfl (lv_at hl 4 rfl) ?_
        refine lv_iload_n hx hb dX6_bestFrom_32 rfl (lv_at hl 1 rfl) ?_
        refine bx_ri (va_runV (As := [.int p0, .int p1, .int q]) (rest := [.int (F_X6_alike fl dr dn p0 p1 k)]) ⟨hx, hb, hml, hown, hts⟩ (c_X6_alike l D cA mo fa ka da fl kp on rn lf wt nv nl nh nc cm dr dn la p0 p1 q hs hd hL pa (⟨bfN (fun k => F_X6_alike fl dr dn p0 p1 (nI k)) j, ib, by have := bfN_le (fun k => F_X6_alike fl dr dn p0 p1 (nI k)) j; omega⟩)) (cwV 3 hts gX6_bestFrom_X6_alike rfl rfl rfl (by decide +kernel) ⟨Nat.le_of_ble_eq_true rfl, Nat.le_of_ble_eq_true rfl⟩) (bx_pvr (ci := 6) (q0 := 0) hK hG (hP.sub (ws' := [(mo, .inr (6, [.ref fa, .ref ka, .int on, .int rn, .int lf, .int wt, .int nv, .int nl, .int nh, .int nc, .int cm, .ref da, .int dn, .int la])), (fa, .inl (cA, 66, .inl fl)), (ka, .inl (cA, 66, .inl kp)), (da, .inl (cA, 24, .inl dr))]) [0, 1, 2, 3] rfl) rfl rfl) rfl rfl hl.1 rfl (lv_room (Nat.le_of_ble_eq_true rfl)) dX6_bestFrom_33 ⟨Nat.zero_le _, Nat.zero_le _⟩) (fun r_4 h_5 => ?_)
        have h_5 := h_5.symm
        subst h_5
        refine lv_icmp_le (tgt := 44) hx hb dX6_bestFrom_36 (by decide) (fun c_6 => ?_) (fun c_6 => ?_)
        · skip
          refine lv_iload_n hx hb dX6_bestFrom_44 rfl (lv_at hl 1 rfl) ?_
          refine lv_istore_n (lv' := [(3, .int q), (4, .int k), (0, .ref mo), (1, .int p0), (2, .int p1)]) hx hb dX6_bestFrom_45 rfl hl (by decide) rfl (fun ls hl => ?_)
          refine lv_iinc (v := (k + 1)) (lv' := [(4, .int (k + 1)), (3, .int q), (0, .ref mo), (1, .int p0), (2, .int p1)]) hx hb dX6_bestFrom_46 hl (k := 1) rfl rfl (by decide) rfl (fun ls hl => ?_)
          refine lv_goto (tgt := 5) hx hb dX6_bestFrom_49 (by decide) ?_
          exact ih5 (j + 1) q (k + 1) (by omega) (by omega) (by rw [ik]; exact nI_1 _) (by subst ik ib; show _ = nI (if _ ≤ _ then _ else _); rw [if_pos c_6]) ls (lv_sub hl [0, 1, 2, 3, 4] rfl)
        · skip
          refine lv_iload hx hb dX6_bestFrom_39 (lv_at hl 0 rfl) ?_
          refine lv_goto (tgt := 45) hx hb dX6_bestFrom_41 (by decide) ?_
          refine lv_istore_n (lv' := [(3, .int k), (4, .int k), (0, .ref mo), (1, .int p0), (2, .int p1)]) hx hb dX6_bestFrom_45 rfl hl (by decide) rfl (fun ls hl => ?_)
          refine lv_iinc (v := (k + 1)) (lv' := [(4, .int (k + 1)), (3, .int k), (0, .ref mo), (1, .int p0), (2, .int p1)]) hx hb dX6_bestFrom_46 hl (k := 1) rfl rfl (by decide) rfl (fun ls hl => ?_)
          refine lv_goto (tgt := 5) hx hb dX6_bestFrom_49 (by decide) ?_
          exact ih5 (j + 1) k (k + 1) (by omega) (by omega) (by rw [ik]; exact nI_1 _) (by subst ik ib; show _ = nI (if _ ≤ _ then _ else _); rw [if_neg c_6]) ls (lv_sub hl [0, 1, 2, 3, 4] rfl)
  exact loop5 ((rd fl (29 * p0 + 2)).toNatClampNeg + 1) 0 0 1 (by omega) (Nat.zero_le _) (by decide) rfl ls (lv_sub hl [0, 1, 2, 3, 4] rfl)
def F_X6_pieceLength (fl : Nat → Int32) (dr : Nat → Int32) (dn : Int32) (p0 : Int32) (p1 : Int32) : Int32 := (if 2 ≤ (F_X6_alike fl dr dn p0 p1 (F_X6_bestFrom fl dr dn p0 p1)) then (F_X6_alike fl dr dn p0 p1 (F_X6_bestFrom fl dr dn p0 p1)) else 1)
set_option maxHeartbeats 4000000 in
set_option maxRecDepth 100000 in
theorem c_X6_pieceLength (l : Launch) (D : va_G) (cA : ClassId) (mo fa ka da : Nat) (fl : Nat → Int32) (kp : Nat → Int32) (on : Int32) (rn : Int32) (lf : Int32) (wt : Int32) (nv : Int32) (nl : Int32) (nh : Int32) (nc : Int32) (cm : Int32) (dr : Nat → Int32) (dn : Int32) (la : Int32) (p0 : Int32) (p1 : Int32) (hs : sl p0) (hd : dn.toNatClampNeg ≤ 24) (hL : (rd fl (29 * p0 + 2)).toNatClampNeg ≤ 24) (pa : ∃ a, p1 = nI a ∧ a ≤ 1000) : Met l yX6_pieceLength wsX6_pieceLength ({ frames := 2, cells := 0, slots := 0, locals := 48 }) (va_Pc [.ref mo, .int p0, .int p1] (bx_ro D [(cA, .int)] (wMo cA mo fa ka da fl kp on rn lf wt nv nl nh nc cm dr dn la))) (vp_Si (fun r => r = F_X6_pieceLength fl dr dn p0 p1)) 0 0 (fun _ => False) := by
  refine Met.ofW (cc := cX6_pieceLength) (maxL := 4) (ret := (some .int)) (by decide) rfl ?_
  intro p e s m args below meth c s₁ B hml hv
  obtain ⟨rfl, hP, hK, hG⟩ := hv
  have hx := B.exec
  have hb := B.bytes
  have hr := B.returns
  have hts := atoms_spec (ws := wsX6_pieceLength) B.pre
  have hown : s.vm.findClass RX6 = some m.cls := findClass_of_methodNamed B.named
  have hlocks := B.notSynchronized
  have hP : va_P D vwCl [(mo, .inr (6, [.ref fa, .ref ka, .int on, .int rn, .int lf, .int wt, .int nv, .int nl, .int nh, .int nc, .int cm, .ref da, .int dn, .int la])), (fa, .inl (cA, 66, .inl fl)), (ka, .inl (cA, 66, .inl kp)), (da, .inl (cA, 24, .inl dr))] s.heap := hP
  have hl := lv_entry ([.ref mo, .int p0, .int p1]) (n := 4) (Nat.le_of_ble_eq_true rfl)
  rw [lg_entry_eq]
  generalize (lg_sl ([.ref mo, .int p0, .int p1]) ++ List.replicate (4 - (lg_sl ([.ref mo, .int p0, .int p1])).length) Slot.unset).toArray = ls at hl ⊢
  have hl : lv_has ls 4 [(0, .ref mo), (1, .int p0), (2, .int p1)] := hl
  refine lv_aload_n hx hb dX6_pieceLength_0 rfl (lv_at hl 0 rfl) ?_
  refine lv_iload_n hx hb dX6_pieceLength_1 rfl (lv_at hl 1 rfl) ?_
  refine lv_iload_n hx hb dX6_pieceLength_2 rfl (lv_at hl 2 rfl) ?_
  refine lv_aload_n hx hb dX6_pieceLength_3 rfl (lv_at hl 0 rfl) ?_
  refine lv_iload_n hx hb dX6_pieceLength_4 rfl (lv_at hl 1 rfl) ?_
  refine lv_iload_n hx hb dX6_pieceLength_5 rfl (lv_at hl 2 rfl) ?_
  refine bx_ri (va_runV (As := [.int p0, .int p1]) (rest := [.int p1, .int p0, .ref mo]) ⟨hx, hb, hml, hown, hts⟩ (c_X6_bestFrom l D cA mo fa ka da fl kp on rn lf wt nv nl nh nc cm dr dn la p0 p1 hs hd hL pa) (cwV 2 hts gX6_pieceLength_X6_bestFrom rfl rfl rfl (by decide +kernel) ⟨Nat.le_of_ble_eq_true rfl, Nat.le_of_ble_eq_true rfl⟩) (bx_pvr (ci := 6) (q0 := 0) hK hG (hP.sub (ws' := [(mo, .inr (6, [.ref fa, .ref ka, .int on, .int rn, .int lf, .int wt, .int nv, .int nl, .int nh, .int nc, .int cm, .ref da, .int dn, .int la])), (fa, .inl (cA, 66, .inl fl)), (ka, .inl (cA, 66, .inl kp)), (da, .inl (cA, 24, .inl dr))]) [0, 1, 2, 3] rfl) rfl rfl) rfl rfl hl.1 rfl (lv_room (Nat.le_of_ble_eq_true rfl)) dX6_pieceLength_6 ⟨Nat.zero_le _, Nat.zero_le _⟩) (fun r_1 h_2 => ?_)
  have h_2 := h_2.symm
  subst h_2
  refine bx_ri (va_runV (As := [.int p0, .int p1, .int (F_X6_bestFrom fl dr dn p0 p1)]) (rest := []) ⟨hx, hb, hml, hown, hts⟩ (c_X6_alike l D cA mo fa ka da fl kp on rn lf wt nv nl nh nc cm dr dn la p0 p1 (F_X6_bestFrom fl dr dn p0 p1) hs hd hL pa (⟨_, rfl, by have := bfN_le (fun k => F_X6_alike fl dr dn p0 p1 (nI k)) ((rd fl (29 * p0 + 2)).toNatClampNeg - 1); omega⟩)) (cwV 3 hts gX6_pieceLength_X6_alike rfl rfl rfl (by decide +kernel) ⟨Nat.le_of_ble_eq_true rfl, Nat.le_of_ble_eq_true rfl⟩) (bx_pvr (ci := 6) (q0 := 0) hK hG (hP.sub (ws' := [(mo, .inr (6, [.ref fa, .ref ka, .int on, .int rn, .int lf, .int wt, .int nv, .int nl, .int nh, .int nc, .int cm, .ref da, .int dn, .int la])), (fa, .inl (cA, 66, .inl fl)), (ka, .inl (cA, 66, .inl kp)), (da, .inl (cA, 24, .inl dr))]) [0, 1, 2, 3] rfl) rfl rfl) rfl rfl hl.1 rfl (lv_room (Nat.le_of_ble_eq_true rfl)) dX6_pieceLength_9 ⟨Nat.zero_le _, Nat.zero_le _⟩) (fun r_3 h_4 => ?_)
  have h_4 := h_4.symm
  subst h_4
  refine lv_istore_n (lv' := [(3, .int (F_X6_alike fl dr dn p0 p1 (F_X6_bestFrom fl dr dn p0 p1))), (0, .ref mo), (1, .int p0), (2, .int p1)]) hx hb dX6_pieceLength_12 rfl hl (by decide) rfl (fun ls hl => ?_)
  refine lv_iload_n hx hb dX6_pieceLength_13 rfl (lv_at hl 0 rfl) ?_
  refine lv_iconst (v := 2) hx hb dX6_pieceLength_14 (by decide) ?_
  refine lv_icmp_ge (tgt := 22) hx hb dX6_pieceLength_15 (by decide) (fun c_5 => ?_) (fun c_5 => ?_)
  · skip
    refine lv_iload_n hx hb dX6_pieceLength_22 rfl (lv_at hl 0 rfl) ?_
    exact W.iret (v := (F_X6_alike fl dr dn p0 p1 (F_X6_bestFrom fl dr dn p0 p1))) hx hb hr (fun t ht hW => ⟨(F_X6_alike fl dr dn p0 p1 (F_X6_bestFrom fl dr dn p0 p1)), rfl, (by simp only [F_X6_pieceLength, if_pos c_5]), ht⟩) (fun _ h => nomatch h) dX6_pieceLength_23
  · skip
    refine lv_iconst (v := 1) hx hb dX6_pieceLength_18 (by decide) ?_
    refine lv_goto (tgt := 23) hx hb dX6_pieceLength_19 (by decide) ?_
    exact W.iret (v := 1) hx hb hr (fun t ht hW => ⟨1, rfl, (by simp only [F_X6_pieceLength, if_neg c_5]), ht⟩) (fun _ h => nomatch h) dX6_pieceLength_23
theorem pl_rng (fl dr : Nat → Int32) (dn p0 p1 : Int32) : ∃ r, F_X6_pieceLength fl dr dn p0 p1 = nI r ∧ 1 ≤ r ∧ r ≤ 25 := by
  unfold F_X6_pieceLength
  split
  · rename_i h
    unfold F_X6_alike at h ⊢
    have h1 := alN_le (fl := fl) (dr := dr) (dn := dn) (s := p0) (a := p1) (b := F_X6_bestFrom fl dr dn p0 p1) 25 0
    refine ⟨_, rfl, ?_, by omega⟩
    rcases Nat.eq_zero_or_pos (alN fl dr dn p0 p1 (F_X6_bestFrom fl dr dn p0 p1) 25 0) with z | z
    · rw [z] at h; exact absurd h (by decide)
    · exact z
  · exact ⟨1, rfl, by omega, by omega⟩
def F_X6_countPieces (fl dr : Nat → Int32) (dn p0 : Int32) : Int32 := pcN (fun q => F_X6_pieceLength fl dr dn p0 q) dn 24 0 0
def plN (pl : Int32 → Int32) : Nat → Int32 → Int32
  | 0, st => st
  | n + 1, st => plN pl n (st + pl st)
def F_X6_placeOf (fl dr : Nat → Int32) (dn p0 p1 : Int32) : Int32 := plN (fun q => F_X6_pieceLength fl dr dn p0 q) p1.toNatClampNeg 0
 
set_option maxHeartbeats 4000000 in
set_option maxRecDepth 100000 in
theorem c_X6_countPieces (l : Launch) (D : va_G) (cA : ClassId) (mo fa ka da : Nat) (fl : Nat → Int32) (kp : Nat → Int32) (on : Int32) (rn : Int32) (lf : Int32) (wt : Int32) (nv : Int32) (nl : Int32) (nh : Int32) (nc : Int32) (cm : Int32) (dr : Nat → Int32) (dn : Int32) (la : Int32) (p0 : Int32) (hs : sl p0) (hd : dn.toNatClampNeg ≤ 24) (hL : (rd fl (29 * p0 + 2)).toNatClampNeg ≤ 24) : Met l yX6_countPieces wsX6_countPieces ({ frames := 3, cells := 0, slots := 0, locals := 71 }) (va_Pc [.ref mo, .int p0] (bx_ro D [(cA, .int)] (wMo cA mo fa ka da fl kp on rn lf wt nv nl nh nc cm dr dn la))) (vp_Si (fun r => r = F_X6_countPieces fl dr dn p0)) 0 0 (fun _ => False) := by
  refine Met.ofW (cc := cX6_countPieces) (maxL := 4) (ret := (some .int)) (by decide) rfl ?_
  intro p e s m args below meth c s₁ B hml hv
  obtain ⟨rfl, hP, hK, hG⟩ := hv
  have hx := B.exec
  have hb := B.bytes
  have hr := B.returns
  have hts := atoms_spec (ws := wsX6_countPieces) B.pre
  have hown : s.vm.findClass RX6 = some m.cls := findClass_of_methodNamed B.named
  have hlocks := B.notSynchronized
  have hP : va_P D vwCl [(mo, .inr (6, [.ref fa, .ref ka, .int on, .int rn, .int lf, .int wt, .int nv, .int nl, .int nh, .int nc, .int cm, .ref da, .int dn, .int la])), (fa, .inl (cA, 66, .inl fl)), (ka, .inl (cA, 66, .inl kp)), (da, .inl (cA, 24, .inl dr))] s.heap := hP
  have hl := lv_entry ([.ref mo, .int p0]) (n := 4) (Nat.le_of_ble_eq_true rfl)
  rw [lg_entry_eq]
  generalize (lg_sl ([.ref mo, .int p0]) ++ List.replicate (4 - (lg_sl ([.ref mo, .int p0])).length) Slot.unset).toArray = ls at hl ⊢
  have hl : lv_has ls 4 [(0, .ref mo), (1, .int p0)] := hl
  have hi6 : ∀ w ∈ u_ws RX6 TX6 14, w ∈ wsX6_countPieces := by decide +kernel
  refine lv_iconst (v := 0) hx hb dX6_countPieces_0 (by decide) ?_
  refine lv_istore_n (lv' := [(2, .int 0), (0, .ref mo), (1, .int p0)]) hx hb dX6_countPieces_1 rfl hl (by decide) rfl (fun ls hl => ?_)
  refine lv_iconst (v := 0) hx hb dX6_countPieces_2 (by decide) ?_
  refine lv_istore_n (lv' := [(3, .int 0), (2, .int 0), (0, .ref mo), (1, .int p0)]) hx hb dX6_countPieces_3 rfl hl (by decide) rfl (fun ls hl => ?_)
  have loop4 : ∀ (n : Nat) (j : Nat) (g : Nat) (k q : Int32), 24 - j < n → j ≤ g → g ≤ 60 → j ≤ 24 → k = nI j → q = nI g → pcN (fun q => F_X6_pieceLength fl dr dn p0 q) dn (24 - j) q k = F_X6_countPieces fl dr dn p0 → ∀ (ls : Array Slot), lv_has ls 4 [(3, .int q), (2, .int k), (0, .ref mo), (1, .int p0)] → W p l e (headSpec wsX6_countPieces ({ frames := 3, cells := 0, slots := 0, locals := 71 })).room s m ([.ref mo, .int p0] : List Value).toArray below meth c s.heap [] 0 0 (MQ below (vp_Si (fun r => r = F_X6_countPieces fl dr dn p0)) ([.ref mo, .int p0] : List Value).toArray s 0 0 (fun _ => False)) (F0 m 4 ls []) := by
    intro n
    induction n with
    | zero =>
      intro j g k q h_f ij ig2 ij4 ik ig ie ls hl
      exact absurd h_f (Nat.not_lt_zero _)
    | succ n ih4 =>
      intro j g k q h_f ij ig2 ij4 ik ig ie ls hl
      refine lv_iload_n hx hb dX6_countPieces_4 rfl (lv_at hl 0 rfl) ?_
      refine lv_aload_n hx hb dX6_countPieces_5 rfl (lv_at hl 2 rfl) ?_
      refine va_get (D := D) (ci := 6) (v := .int dn) (C := RX6) (T := TX6) (N := 14) hx hb hts hi6 hown hK hP 0 rfl rfl 12 (by decide) (hts (.fieldLink RX6 121 "BootstayModel" "drafted" "I") (by decide +kernel)) (fun _ h9 => h9) rfl dX6_countPieces_6 ?_
      refine lv_icmp_ge (tgt := 27) hx hb dX6_countPieces_9 (by decide) (fun c_1 => ?_) (fun c_1 => ?_)
      · skip
        have hm : k = F_X6_countPieces fl dr dn p0 := by
          rw [← ie]
          rcases (show 24 - j = 0 ∨ ∃ z, 24 - j = z + 1 from by rcases Nat.eq_zero_or_pos (24 - j) with z | z; exact Or.inl z; exact Or.inr ⟨_, (Nat.sub_add_cancel z).symm⟩) with z | ⟨z, ez⟩
          · rw [z, pcN]
          · rw [ez, pcN, if_pos c_1]
        refine lv_iload_n hx hb dX6_countPieces_27 rfl (lv_at hl 1 rfl) ?_
        exact W.iret (v := k) hx hb hr (fun t ht hW => ⟨k, rfl, hm, ht⟩) (fun _ h => nomatch h) dX6_countPieces_28
      · skip
        have hj : g < dn.toNatClampNeg := lt_nn (by omega) (by rw [← ig]; exact c_1)
        obtain ⟨r, er, hr1, hr2⟩ := pl_rng fl dr dn p0 q
        refine lv_iinc (v := (k + 1)) (lv' := [(2, .int (k + 1)), (3, .int q), (0, .ref mo), (1, .int p0)]) hx hb dX6_countPieces_12 hl (k := 1) rfl rfl (by decide) rfl (fun ls hl => ?_)
        refine lv_iload_n hx hb dX6_countPieces_15 rfl (lv_at hl 1 rfl) ?_
        refine lv_aload_n hx hb dX6_countPieces_16 rfl (lv_at hl 2 rfl) ?_
        refine lv_iload_n hx hb dX6_countPieces_17 rfl (lv_at hl 3 rfl) ?_
        refine lv_iload_n hx hb dX6_countPieces_18 rfl (lv_at hl 1 rfl) ?_
        refine bx_ri (va_runV (As := [.int p0, .int q]) (rest := [.int q]) ⟨hx, hb, hml, hown, hts⟩ (c_X6_pieceLength l D cA mo fa ka da fl kp on rn lf wt nv nl nh nc cm dr dn la p0 q hs hd hL (⟨g, ig, by omega⟩)) (cwV 2 hts gX6_countPieces_X6_pieceLength rfl rfl rfl (by decide +kernel) ⟨Nat.le_of_ble_eq_true rfl, Nat.le_of_ble_eq_true rfl⟩) (bx_pvr (ci := 6) (q0 := 0) hK hG (hP.sub (ws' := [(mo, .inr (6, [.ref fa, .ref ka, .int on, .int rn, .int lf, .int wt, .int nv, .int nl, .int nh, .int nc, .int cm, .ref da, .int dn, .int la])), (fa, .inl (cA, 66, .inl fl)), (ka, .inl (cA, 66, .inl kp)), (da, .inl (cA, 24, .inl dr))]) [0, 1, 2, 3] rfl) rfl rfl) rfl rfl hl.1 rfl (lv_room (Nat.le_of_ble_eq_true rfl)) dX6_countPieces_19 ⟨Nat.zero_le _, Nat.zero_le _⟩) (fun r_2 h_3 => ?_)
        have h_3 := h_3.symm
        subst h_3
        refine lv_iadd hx hb dX6_countPieces_22 ?_
        refine lv_istore_n (lv' := [(3, .int (q + (F_X6_pieceLength fl dr dn p0 q))), (2, .int (k + 1)), (0, .ref mo), (1, .int p0)]) hx hb dX6_countPieces_23 rfl hl (by decide) rfl (fun ls hl => ?_)
        refine lv_goto (tgt := 4) hx hb dX6_countPieces_24 (by decide) ?_
        exact ih4 (j + 1) (g + r) (k + 1) (q + (F_X6_pieceLength fl dr dn p0 q)) (by omega) (by omega) (by omega) (by omega) (by rw [ik]; exact nI_1 j) (by rw [er, ig, nI_add]) (by rw [← ie, (show 24 - j = (24 - (j + 1)) + 1 by omega), pcN, if_neg c_1]) ls (lv_sub hl [0, 1, 2, 3] rfl)
  exact loop4 25 0 0 0 0 (by omega) (Nat.zero_le _) (Nat.zero_le _) (Nat.zero_le _) nI_0.symm nI_0.symm rfl ls (lv_sub hl [0, 1, 2, 3] rfl)
 
set_option maxHeartbeats 4000000 in
set_option maxRecDepth 100000 in
theorem c_X6_placeOf (l : Launch) (D : va_G) (cA : ClassId) (mo fa ka da : Nat) (fl : Nat → Int32) (kp : Nat → Int32) (on : Int32) (rn : Int32) (lf : Int32) (wt : Int32) (nv : Int32) (nl : Int32) (nh : Int32) (nc : Int32) (cm : Int32) (dr : Nat → Int32) (dn : Int32) (la : Int32) (p0 : Int32) (p1 : Int32) (hs : sl p0) (hd : dn.toNatClampNeg ≤ 24) (hL : (rd fl (29 * p0 + 2)).toNatClampNeg ≤ 24) (hp : p1.toNatClampNeg ≤ 24) : Met l yX6_placeOf wsX6_placeOf ({ frames := 3, cells := 0, slots := 0, locals := 71 }) (va_Pc [.ref mo, .int p0, .int p1] (bx_ro D [(cA, .int)] (wMo cA mo fa ka da fl kp on rn lf wt nv nl nh nc cm dr dn la))) (vp_Si (fun r => r = F_X6_placeOf fl dr dn p0 p1)) 0 0 (fun _ => False) := by
  refine Met.ofW (cc := cX6_placeOf) (maxL := 5) (ret := (some .int)) (by decide) rfl ?_
  intro p e s m args below meth c s₁ B hml hv
  obtain ⟨rfl, hP, hK, hG⟩ := hv
  have hx := B.exec
  have hb := B.bytes
  have hr := B.returns
  have hts := atoms_spec (ws := wsX6_placeOf) B.pre
  have hown : s.vm.findClass RX6 = some m.cls := findClass_of_methodNamed B.named
  have hlocks := B.notSynchronized
  have hP : va_P D vwCl [(mo, .inr (6, [.ref fa, .ref ka, .int on, .int rn, .int lf, .int wt, .int nv, .int nl, .int nh, .int nc, .int cm, .ref da, .int dn, .int la])), (fa, .inl (cA, 66, .inl fl)), (ka, .inl (cA, 66, .inl kp)), (da, .inl (cA, 24, .inl dr))] s.heap := hP
  have hl := lv_entry ([.ref mo, .int p0, .int p1]) (n := 5) (Nat.le_of_ble_eq_true rfl)
  rw [lg_entry_eq]
  generalize (lg_sl ([.ref mo, .int p0, .int p1]) ++ List.replicate (5 - (lg_sl ([.ref mo, .int p0, .int p1])).length) Slot.unset).toArray = ls at hl ⊢
  have hl : lv_has ls 5 [(0, .ref mo), (1, .int p0), (2, .int p1)] := hl
  refine lv_iconst (v := 0) hx hb dX6_placeOf_0 (by decide) ?_
  refine lv_istore_n (lv' := [(3, .int 0), (0, .ref mo), (1, .int p0), (2, .int p1)]) hx hb dX6_placeOf_1 rfl hl (by decide) rfl (fun ls hl => ?_)
  refine lv_iconst (v := 0) hx hb dX6_placeOf_2 (by decide) ?_
  refine lv_istore (lv' := [(4, .int 0), (3, .int 0), (0, .ref mo), (1, .int p0), (2, .int p1)]) hx hb dX6_placeOf_3 hl (by decide) rfl (fun ls hl => ?_)
  have loop5 : ∀ (n : Nat) (j : Nat) (g : Nat) (q k : Int32), p1.toNatClampNeg - j < n → j ≤ p1.toNatClampNeg → g ≤ 25 * j → k = nI j → q = nI g → plN (fun q => F_X6_pieceLength fl dr dn p0 q) (p1.toNatClampNeg - j) q = F_X6_placeOf fl dr dn p0 p1 → ∀ (ls : Array Slot), lv_has ls 5 [(4, .int k), (3, .int q), (0, .ref mo), (1, .int p0), (2, .int p1)] → W p l e (headSpec wsX6_placeOf ({ frames := 3, cells := 0, slots := 0, locals := 71 })).room s m ([.ref mo, .int p0, .int p1] : List Value).toArray below meth c s.heap [] 0 0 (MQ below (vp_Si (fun r => r = F_X6_placeOf fl dr dn p0 p1)) ([.ref mo, .int p0, .int p1] : List Value).toArray s 0 0 (fun _ => False)) (F0 m 5 ls []) := by
    intro n
    induction n with
    | zero =>
      intro j g q k h_f ij ig2 ik ig ie ls hl
      exact absurd h_f (Nat.not_lt_zero _)
    | succ n ih5 =>
      intro j g q k h_f ij ig2 ik ig ie ls hl
      refine lv_iload hx hb dX6_placeOf_5 (lv_at hl 0 rfl) ?_
      refine lv_iload_n hx hb dX6_placeOf_7 rfl (lv_at hl 4 rfl) ?_
      refine lv_icmp_ge (tgt := 26) hx hb dX6_placeOf_8 (by decide) (fun c_1 => ?_) (fun c_1 => ?_)
      · skip
        have hj : p1.toNatClampNeg ≤ j := (bx_le (by omega)).mp (ik ▸ c_1)
        have hm : q = F_X6_placeOf fl dr dn p0 p1 := by rw [← ie, Nat.sub_eq_zero_of_le hj, plN]
        refine lv_iload_n hx hb dX6_placeOf_26 rfl (lv_at hl 1 rfl) ?_
        exact W.iret (v := q) hx hb hr (fun t ht hW => ⟨q, rfl, hm, ht⟩) (fun _ h => nomatch h) dX6_placeOf_27
      · skip
        have hj : j < p1.toNatClampNeg := lt_nn (by omega) (by rw [← ik]; exact c_1)
        obtain ⟨r, er, hr1, hr2⟩ := pl_rng fl dr dn p0 q
        refine lv_iload_n hx hb dX6_placeOf_11 rfl (lv_at hl 1 rfl) ?_
        refine lv_aload_n hx hb dX6_placeOf_12 rfl (lv_at hl 2 rfl) ?_
        refine lv_iload_n hx hb dX6_placeOf_13 rfl (lv_at hl 3 rfl) ?_
        refine lv_iload_n hx hb dX6_placeOf_14 rfl (lv_at hl 1 rfl) ?_
        refine bx_ri (va_runV (As := [.int p0, .int q]) (rest := [.int q]) ⟨hx, hb, hml, hown, hts⟩ (c_X6_pieceLength l D cA mo fa ka da fl kp on rn lf wt nv nl nh nc cm dr dn la p0 q hs hd hL (⟨g, ig, by omega⟩)) (cwV 2 hts gX6_placeOf_X6_pieceLength rfl rfl rfl (by decide +kernel) ⟨Nat.le_of_ble_eq_true rfl, Nat.le_of_ble_eq_true rfl⟩) (bx_pvr (ci := 6) (q0 := 0) hK hG (hP.sub (ws' := [(mo, .inr (6, [.ref fa, .ref ka, .int on, .int rn, .int lf, .int wt, .int nv, .int nl, .int nh, .int nc, .int cm, .ref da, .int dn, .int la])), (fa, .inl (cA, 66, .inl fl)), (ka, .inl (cA, 66, .inl kp)), (da, .inl (cA, 24, .inl dr))]) [0, 1, 2, 3] rfl) rfl rfl) rfl rfl hl.1 rfl (lv_room (Nat.le_of_ble_eq_true rfl)) dX6_placeOf_15 ⟨Nat.zero_le _, Nat.zero_le _⟩) (fun r_2 h_3 => ?_)
        have h_3 := h_3.symm
        subst h_3
        refine lv_iadd hx hb dX6_placeOf_18 ?_
        refine lv_istore_n (lv' := [(3, .int (q + (F_X6_pieceLength fl dr dn p0 q))), (4, .int k), (0, .ref mo), (1, .int p0), (2, .int p1)]) hx hb dX6_placeOf_19 rfl hl (by decide) rfl (fun ls hl => ?_)
        refine lv_iinc (v := (k + 1)) (lv' := [(4, .int (k + 1)), (3, .int (q + (F_X6_pieceLength fl dr dn p0 q))), (0, .ref mo), (1, .int p0), (2, .int p1)]) hx hb dX6_placeOf_20 hl (k := 1) rfl rfl (by decide) rfl (fun ls hl => ?_)
        refine lv_goto (tgt := 5) hx hb dX6_placeOf_23 (by decide) ?_
        exact ih5 (j + 1) (g + r) (q + (F_X6_pieceLength fl dr dn p0 q)) (k + 1) (by omega) hj (by omega) (by rw [ik]; exact nI_1 j) (by rw [er, ig, nI_add]) (by rw [← ie, (show p1.toNatClampNeg - j = (p1.toNatClampNeg - (j + 1)) + 1 by omega), plN]) ls (lv_sub hl [0, 1, 2, 3, 4] rfl)
  exact loop5 (p1.toNatClampNeg + 1) 0 0 0 0 (by omega) (Nat.zero_le _) (Nat.zero_le _) nI_0.symm nI_0.symm rfl ls (lv_sub hl [0, 1, 2, 3, 4] rfl)
