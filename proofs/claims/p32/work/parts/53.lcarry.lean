theorem ic_0 {k : Int32} {j n0 : Nat} (ik : k = nI j) (hj : j ≤ n0) (hn0 : n0 ≤ 15) : vp_in (2 * k) 32 := by
  rw [ik, show (2 : Int32) = nI 2 from rfl, pk_mul]
  exact vp_in_nI (by omega) (by decide)
theorem ic_1 {k : Int32} {j n0 : Nat} (ik : k = nI j) (hj : j ≤ n0) (hn0 : n0 ≤ 15) : vp_in (2 * k + 1) 32 := by
  rw [ik, show (2 : Int32) = nI 2 from rfl, pk_mul, nI_1]
  exact vp_in_nI (by omega) (by decide)
theorem ic_w {a : Int32} (h : vp_in a 72) (hc : ¬ 64 ≤ a) : vp_in a 64 := by
  obtain ⟨j, hj, rfl⟩ := vp_in_of h (by decide)
  exact vp_in_nI (Nat.lt_of_not_le (fun z => hc (nI_le (a := 64) z (by omega)))) (by decide)
theorem ic_r {a : Int32} (h : vp_in a 72) (hc : 64 ≤ a) : vp_in (a - 64) 8 := by
  obtain ⟨j, hj, rfl⟩ := vp_in_of h (by decide)
  have hj2 : 64 ≤ j := (nI_leI (a := 64) (by decide) (by omega)).mp hc
  rw [show (64 : Int32) = nI 64 from rfl, pk_sub hj2]
  exact vp_in_nI (by omega) (by decide)
/-- the hash that an offer tells, in longs -/
def toldL : Nat → Int64
  | 0 => 17
  | n + 1 => 31 * toldL n + (nI n).toInt64 + 4 - (31 * toldL n + (nI n).toInt64 + 4) / 65521 * 65521
def F_L_told (p0 p1 : Int32) : Int32 := if p1 - p1 / 9 * 9 = 0 then 77 else (toldL p0.toNatClampNeg).toInt32
set_option maxHeartbeats 4000000 in
set_option maxRecDepth 100000 in
theorem c_L_told (l : Launch) (D : va_G) (p0 : Int32) (p1 : Int32) : Met l yL_told wsL_told ({ frames := 0, cells := 0, slots := 0, locals := 0 }) (va_Pc [.int p0, .int p1] (bx_ro D [] (wNil))) (vp_Si (fun r => r = F_L_told p0 p1)) 0 0 (fun _ => False) := by
  refine Met.ofW (cc := cL_told) (maxL := 5) (ret := (some .int)) (by decide) rfl ?_
  intro p e s m args below meth c s₁ B hml hv
  obtain ⟨rfl, hP, hK, hG⟩ := hv
  have hx := B.exec
  have hb := B.bytes
  have hr := B.returns
  have hts := atoms_spec (ws := wsL_told) B.pre
  have hown : s.vm.findClass RL = some m.cls := findClass_of_methodNamed B.named
  have hlocks := B.notSynchronized
  have hP : va_P D vwCl [] s.heap := hP
  have hl := lv_entry ([.int p0, .int p1]) (n := 5) (Nat.le_of_ble_eq_true rfl)
  rw [lg_entry_eq]
  generalize (lg_sl ([.int p0, .int p1]) ++ List.replicate (5 - (lg_sl ([.int p0, .int p1])).length) Slot.unset).toArray = ls at hl ⊢
  have hl : lv_has ls 5 [(0, .int p0), (1, .int p1)] := hl
  refine lv_ldc2 (v := 17) hx hb hown (hts (.constantLong RL 9 (17)) (by decide +kernel)) dL_told_0 ?_
  refine lv_lstore_n (lv' := [(2, .long 17), (0, .int p0), (1, .int p1)]) hx hb dL_told_3 rfl hl (by decide) rfl (fun ls hl => ?_)
  refine lv_iconst (v := 0) hx hb dL_told_4 (by decide) ?_
  refine lv_istore (lv' := [(4, .int 0), (2, .long 17), (0, .int p0), (1, .int p1)]) hx hb dL_told_5 hl (by decide) rfl (fun ls hl => ?_)
  have loop7 : ∀ (n : Nat) (j : Nat) (h : Int64) (k : Int32), p0.toNatClampNeg - j < n → j ≤ p0.toNatClampNeg → k = nI j → h = toldL j → ∀ (ls : Array Slot), lv_has ls 5 [(4, .int k), (2, .long h), (0, .int p0), (1, .int p1)] → W p l e (headSpec wsL_told ({ frames := 0, cells := 0, slots := 0, locals := 0 })).room s m ([.int p0, .int p1] : List Value).toArray below meth c s.heap [] (0) (0) (MQ below (vp_Si (fun r => r = F_L_told p0 p1)) ([.int p0, .int p1] : List Value).toArray s 0 0 (fun _ => False)) (F0 m 7 ls []) := by
    intro n
    induction n with
    | zero =>
      intro j h k h_f ij ik ih ls hl
      exact absurd h_f (Nat.not_lt_zero _)
    | succ n ih7 =>
      intro j h k h_f ij ik ih ls hl
      have hcl := bx_cl p0
      refine lv_iload hx hb dL_told_7 (lv_at hl 0 rfl) ?_
      refine lv_iload_n hx hb dL_told_9 rfl (lv_at hl 2 rfl) ?_
      refine lv_icmp_ge (tgt := 37) hx hb dL_told_10 (by decide) (fun c_1 => ?_) (fun c_1 => ?_)
      · skip
        have hj : p0.toNatClampNeg ≤ j := (bx_le (by omega)).mp (ik ▸ c_1)
        refine lv_iload_n hx hb dL_told_37 rfl (lv_at hl 3 rfl) ?_
        refine lv_bipush (v := 9) hx hb dL_told_38 (by decide) ?_
        refine lv_irem hx hb dL_told_40 (by decide) ?_
        refine lv_if_ne (tgt := 49) hx hb dL_told_41 (by decide) (fun c_2 => ?_) (fun c_2 => ?_)
        · skip
          refine lv_lload_n hx hb dL_told_49 rfl (lv_at hl 1 rfl) ?_
          refine lv_l2i hx hb dL_told_50 rfl ?_
          exact W.iret (v := (Int64.toInt32 h)) hx hb hr (fun t ht hW => ⟨(Int64.toInt32 h), rfl, (by unfold F_L_told; rw [if_neg c_2]; rw [ih, Nat.le_antisymm ij hj]), ht⟩) (fun _ h => nomatch h) dL_told_51
        · skip
          refine lv_bipush (v := 77) hx hb dL_told_44 (by decide) ?_
          refine lv_goto (tgt := 51) hx hb dL_told_46 (by decide) ?_
          exact W.iret (v := 77) hx hb hr (fun t ht hW => ⟨77, rfl, (by unfold F_L_told; rw [if_pos c_2]), ht⟩) (fun _ h => nomatch h) dL_told_51
      · skip
        have hj : j < p0.toNatClampNeg := Nat.lt_of_not_le (fun h => c_1 (by rw [ik]; exact (bx_le (by omega)).mpr h))
        refine lv_ldc2 (v := 31) hx hb hown (hts (.constantLong RL 11 (31)) (by decide +kernel)) dL_told_13 ?_
        refine lv_lload_n hx hb dL_told_16 rfl (lv_at hl 1 rfl) ?_
        refine lv_lmul hx hb dL_told_17 ?_
        refine lv_iload hx hb dL_told_18 (lv_at hl 0 rfl) ?_
        refine lv_i2l hx hb dL_told_20 rfl ?_
        refine lv_ladd hx hb dL_told_21 ?_
        refine lv_ldc2 (v := 4) hx hb hown (hts (.constantLong RL 92 (4)) (by decide +kernel)) dL_told_22 ?_
        refine lv_ladd hx hb dL_told_25 ?_
        refine lv_ldc2 (v := 65521) hx hb hown (hts (.constantLong RL 13 (65521)) (by decide +kernel)) dL_told_26 ?_
        refine lv_lrem hx hb dL_told_29 (by decide) ?_
        refine lv_lstore_n (lv' := [(2, .long ((((31 * h) + (Int32.toInt64 k)) + 4) - (((31 * h) + (Int32.toInt64 k)) + 4) / 65521 * 65521)), (4, .int k), (0, .int p0), (1, .int p1)]) hx hb dL_told_30 rfl hl (by decide) rfl (fun ls hl => ?_)
        refine lv_iinc (v := (k + 1)) (lv' := [(4, .int (k + 1)), (2, .long ((((31 * h) + (Int32.toInt64 k)) + 4) - (((31 * h) + (Int32.toInt64 k)) + 4) / 65521 * 65521)), (0, .int p0), (1, .int p1)]) hx hb dL_told_31 hl (k := 1) rfl rfl (by decide) rfl (fun ls hl => ?_)
        refine lv_goto (tgt := 7) hx hb dL_told_34 (by decide) ?_
        exact ih7 (j + 1) ((((31 * h) + (Int32.toInt64 k)) + 4) - (((31 * h) + (Int32.toInt64 k)) + 4) / 65521 * 65521) (k + 1) (by omega) hj (by rw [ik]; exact nI_1 j) (by rw [ih, ik]; rfl) ls (lv_sub hl [0, 1, 2, 3] rfl)
  exact loop7 (p0.toNatClampNeg + 1) 0 17 0 (by omega) (Nat.zero_le _) nI_0.symm rfl ls (lv_sub hl [0, 1, 2, 3] rfl)
def F_L_carry_j40 (m9 : Nat → Int32) : Int32 := (if (rd m9 1) = 0 then 1 else 0)
def F_L_carry_j64 (m9 : Nat → Int32) : Int32 := (if (rd (wr m9 2 ((rd m9 2) + 1)) 1) < 0 then 0 else 1)
def F_L_carry_j123 (m9 : Nat → Int32) (ll : Nat → Int32) (k : Int32) (r9 : Nat → Int32) : Int32 := (if (F_L_carry_j40 m9) = 0 then (rd ll ((2 * k) + 1)) else ((rd r9 ((rd ll (2 * k)) - 64)) &&& (rd ll ((2 * k) + 1))))
def F_L_carry_j93 (m9 : Nat → Int32) (ll : Nat → Int32) (k : Int32) (w9 : Nat → Int32) : Int32 := (if (F_L_carry_j40 m9) = 0 then (rd ll ((2 * k) + 1)) else ((rd w9 (rd ll (2 * k))) &&& (rd ll ((2 * k) + 1))))
def cyM (mm : Nat → Int32) : Nat → Int32 := wr (wr mm 2 (rd mm 2 + 1)) 1 (rd (wr mm 2 (rd mm 2 + 1)) 1 - F_L_carry_j64 mm)
/-- k is the row that comes now, n rows are left -/
def cyN (ll : Nat → Int32) : Nat → Nat → (Nat → Int32) → (Nat → Int32) → (Nat → Int32) → Int32 × (Nat → Int32) × (Nat → Int32) × (Nat → Int32)
  | 0, _, ww, rr, mm => (rd ll 0, ww, rr, mm)
  | n + 1, k, ww, rr, mm =>
    if 64 ≤ rd ll (2 * nI k) then
      (if F_L_carry_j40 mm = 0 then cyN ll n (k + 1) ww (wr rr (rd ll (2 * nI k) - 64) (F_L_carry_j123 mm ll (nI k) rr)) (cyM mm)
       else (nI k - 1, ww, wr rr (rd ll (2 * nI k) - 64) (F_L_carry_j123 mm ll (nI k) rr), wr (wr (cyM mm) 0 (-1)) 3 (-1)))
    else
      (if F_L_carry_j40 mm = 0 then cyN ll n (k + 1) (wr ww (rd ll (2 * nI k)) (F_L_carry_j93 mm ll (nI k) ww)) rr (cyM mm)
       else (nI k - 1, wr ww (rd ll (2 * nI k)) (F_L_carry_j93 mm ll (nI k) ww), rr, wr (wr (cyM mm) 0 (-1)) 3 (-1)))
def F_L_carry (ll ww rr mm : Nat → Int32) : Int32 × (Nat → Int32) × (Nat → Int32) × (Nat → Int32) := cyN ll (rd ll 0).toNatClampNeg 1 ww rr mm
set_option maxHeartbeats 4000000 in
set_option maxRecDepth 100000 in
theorem c_L_carry (l : Launch) (D : va_G) (cA : ClassId) (la wa ra ma : Nat) (sz : Nat) (ll : Nat → Int32) (ww : Nat → Int32) (rr : Nat → Int32) (mm : Nat → Int32) (n0 : Nat) (hn0 : n0 ≤ 15) (hl0 : rd ll 0 = nI n0) (ht : ∀ k, 1 ≤ k → k ≤ n0 → vp_in (rd ll (2 * nI k)) 72) : Met l yL_carry wsL_carry ({ frames := 0, cells := 0, slots := 0, locals := 0 }) (va_Pc [.ref la, .ref wa, .ref ra, .ref ma] (bx_pre D [(cA, .int)] (wC cA la wa ra ma ll ww rr mm) sz)) (va_Qi (fun r u => (r, u) = F_L_carry ll ww rr mm) (fun u t => bx_at D (wC cA la wa ra ma ll u.1 u.2.1 u.2.2) (va_A (wC cA la wa ra ma ll ww rr mm) sz) t) (va_A (wC cA la wa ra ma ll ww rr mm) sz)) 0 0 (va_A (wC cA la wa ra ma ll ww rr mm) sz) := by
  refine Met.ofW (cc := cL_carry) (maxL := 8) (ret := (some .int)) (by decide) rfl ?_
  intro p e s m args below meth c s₁ B hml hv
  obtain ⟨rfl, hsz, hP, hK, hD0, hG⟩ := hv
  have hx := B.exec
  have hb := B.bytes
  have hr := B.returns
  have hts := atoms_spec (ws := wsL_carry) B.pre
  have hown : s.vm.findClass RL = some m.cls := findClass_of_methodNamed B.named
  have hlocks := B.notSynchronized
  subst hsz
  have hD := hD0.self (sz := s.heap.size)
  skip
  generalize hAe : va_A (wC cA la wa ra ma ll ww rr mm) s.heap.size = A at hD ⊢
  have hA : ∀ q : Nat, s.heap.size ≤ q → A q := fun q h => by rw [← hAe]; exact Or.inr h
  have hS : va_S A s.heap s.heap [] := va_S.rf
  have hD : va_D A [(la, .inl (cA, 32, .inl ll)), (wa, .inl (cA, 64, .inl ww)), (ra, .inl (cA, 8, .inl rr)), (ma, .inl (cA, 8, .inl mm))] := hD
  have hP : va_P D vwCl [(la, .inl (cA, 32, .inl ll)), (wa, .inl (cA, 64, .inl ww)), (ra, .inl (cA, 8, .inl rr)), (ma, .inl (cA, 8, .inl mm))] s.heap := hP
  have hl := lv_entry ([.ref la, .ref wa, .ref ra, .ref ma]) (n := 8) (Nat.le_of_ble_eq_true rfl)
  rw [lg_entry_eq]
  generalize (lg_sl ([.ref la, .ref wa, .ref ra, .ref ma]) ++ List.replicate (8 - (lg_sl ([.ref la, .ref wa, .ref ra, .ref ma])).length) Slot.unset).toArray = ls at hl ⊢
  have hl : lv_has ls 8 [(0, .ref la), (1, .ref wa), (2, .ref ra), (3, .ref ma)] := hl
  refine lv_iconst (v := 1) hx hb dL_carry_0 (by decide) ?_
  refine lv_istore (lv' := [(4, .int 1), (0, .ref la), (1, .ref wa), (2, .ref ra), (3, .ref ma)]) hx hb dL_carry_1 hl (by decide) rfl (fun ls hl => ?_)
  have loop3 : ∀ (n : Nat) (j : Nat) (k : Int32) (w9 : Nat → Int32) (r9 : Nat → Int32) (m9 : Nat → Int32), n0 + 1 - j < n → j ≤ n0 + 1 → 1 ≤ j → k = nI j → cyN ll (n0 + 1 - j) j w9 r9 m9 = cyN ll n0 1 ww rr mm → ∀ (H : Heap) (locs : List Loc), va_P D vwCl [(la, .inl (cA, 32, .inl ll)), (wa, .inl (cA, 64, .inl w9)), (ra, .inl (cA, 8, .inl r9)), (ma, .inl (cA, 8, .inl m9))] H → va_D A [(la, .inl (cA, 32, .inl ll)), (wa, .inl (cA, 64, .inl w9)), (ra, .inl (cA, 8, .inl r9)), (ma, .inl (cA, 8, .inl m9))] → va_S A s.heap H locs → ∀ (ls : Array Slot), lv_has ls 8 [(4, .int k), (0, .ref la), (1, .ref wa), (2, .ref ra), (3, .ref ma)] → W p l e (headSpec wsL_carry ({ frames := 0, cells := 0, slots := 0, locals := 0 })).room s m ([.ref la, .ref wa, .ref ra, .ref ma] : List Value).toArray below meth c H locs (0) (0) (MQ below (va_Qi (fun r u => (r, u) = F_L_carry ll ww rr mm) (fun u t => bx_at D (wC cA la wa ra ma ll u.1 u.2.1 u.2.2) (A) t) (A)) ([.ref la, .ref wa, .ref ra, .ref ma] : List Value).toArray s 0 0 (A)) (F0 m 3 ls []) := by
    intro n
    induction n with
    | zero =>
      intro j k w9 r9 m9 h_f ij i1 ik ie H locs hP hD hS ls hl
      exact absurd h_f (Nat.not_lt_zero _)
    | succ n ih3 =>
      intro j k w9 r9 m9 h_f ij i1 ik ie H locs hP hD hS ls hl
      refine lv_iload hx hb dL_carry_3 (lv_at hl 0 rfl) ?_
      refine lv_aload_n hx hb dL_carry_5 rfl (lv_at hl 1 rfl) ?_
      refine lv_iconst (v := 0) hx hb dL_carry_6 (by decide) ?_
      refine bx_ald (D := D) hx hb hK hP 0 0 rfl rfl (vp_in_iff.mpr (by decide)) dL_carry_7 ?_
      refine lv_icmp_gt (tgt := 148) hx hb dL_carry_8 (by decide) (fun c_1 => ?_) (fun c_1 => ?_)
      · skip
        have hj : n0 < j := Nat.lt_of_not_le (fun h => nI_nlt h (by omega) (show nI n0 < nI j from by have h9 := c_1; rw [hl0, ik] at h9; exact h9))
        refine lv_aload_n hx hb dL_carry_148 rfl (lv_at hl 1 rfl) ?_
        refine lv_iconst (v := 0) hx hb dL_carry_149 (by decide) ?_
        refine bx_ald (D := D) hx hb hK hP 0 0 rfl rfl (vp_in_iff.mpr (by decide)) dL_carry_150 ?_
        exact W.iret (v := (rd ll 0)) hx hb hr (fun t ht hW => ⟨⟨(rd ll 0), (w9, r9, m9), rfl, (by unfold F_L_carry; rw [hl0, nI_clamp (by omega), ← ie, (show n0 + 1 - j = 0 by omega), cyN, hl0]), ⟨by rw [ht]; exact hP, hD⟩⟩, hS.F ht⟩) hS.2.2 dL_carry_151
      · skip
        have ij2 : j ≤ n0 := Nat.le_of_not_lt (fun h => c_1 (by rw [hl0, ik]; exact nI_lt h (by omega)))
        have hta : vp_in (rd ll (2 * k)) 72 := by rw [ik]; exact ht j i1 ij2
        refine lv_aload_n hx hb dL_carry_11 rfl (lv_at hl 1 rfl) ?_
        refine lv_iconst (v := 2) hx hb dL_carry_12 (by decide) ?_
        refine lv_iload hx hb dL_carry_13 (lv_at hl 0 rfl) ?_
        refine lv_imul hx hb dL_carry_15 ?_
        refine bx_ald (D := D) hx hb hK hP 0 0 rfl rfl (ic_0 ik ij2 hn0) dL_carry_16 ?_
        refine lv_istore (lv' := [(5, .int (rd ll (2 * k))), (4, .int k), (0, .ref la), (1, .ref wa), (2, .ref ra), (3, .ref ma)]) hx hb dL_carry_17 hl (by decide) rfl (fun ls hl => ?_)
        refine lv_aload_n hx hb dL_carry_19 rfl (lv_at hl 2 rfl) ?_
        refine lv_iconst (v := 2) hx hb dL_carry_20 (by decide) ?_
        refine lv_iload hx hb dL_carry_21 (lv_at hl 1 rfl) ?_
        refine lv_imul hx hb dL_carry_23 ?_
        refine lv_iconst (v := 1) hx hb dL_carry_24 (by decide) ?_
        refine lv_iadd hx hb dL_carry_25 ?_
        refine bx_ald (D := D) hx hb hK hP 0 0 rfl rfl (ic_1 ik ij2 hn0) dL_carry_26 ?_
        refine lv_istore (lv' := [(6, .int (rd ll ((2 * k) + 1))), (5, .int (rd ll (2 * k))), (4, .int k), (0, .ref la), (1, .ref wa), (2, .ref ra), (3, .ref ma)]) hx hb dL_carry_27 hl (by decide) rfl (fun ls hl => ?_)
        have jn40 : ∀ v : Int32, v = (F_L_carry_j40 m9) → ∀ ls : Array Slot, lv_has ls 8 [(6, .int (rd ll ((2 * k) + 1))), (5, .int (rd ll (2 * k))), (4, .int k), (0, .ref la), (1, .ref wa), (2, .ref ra), (3, .ref ma)] → W p l e (headSpec wsL_carry ({ frames := 0, cells := 0, slots := 0, locals := 0 })).room s m ([.ref la, .ref wa, .ref ra, .ref ma] : List Value).toArray below meth c H locs 0 0 (MQ below (va_Qi (fun r u => (r, u) = F_L_carry ll ww rr mm) (fun u t => bx_at D (wC cA la wa ra ma ll u.1 u.2.1 u.2.2) (A) t) (A)) ([.ref la, .ref wa, .ref ra, .ref ma] : List Value).toArray s 0 0 (A)) (F0 m 40 ls [.int v]) := by
          intro v hv ls hl
          subst hv
          refine lv_istore (lv' := [(7, .int (F_L_carry_j40 m9)), (6, .int (rd ll ((2 * k) + 1))), (5, .int (rd ll (2 * k))), (4, .int k), (0, .ref la), (1, .ref wa), (2, .ref ra), (3, .ref ma)]) hx hb dL_carry_40 hl (by decide) rfl (fun ls hl => ?_)
          refine lv_aload_n hx hb dL_carry_42 rfl (lv_at hl 7 rfl) ?_
          refine lv_iconst (v := 2) hx hb dL_carry_43 (by decide) ?_
          refine lv_dup2_11 hx hb dL_carry_44 rfl rfl ?_
          refine bx_ald (D := D) hx hb hK hP 3 0 rfl rfl (vp_in_iff.mpr (by decide)) dL_carry_45 ?_
          refine lv_iconst (v := 1) hx hb dL_carry_46 (by decide) ?_
          refine lv_iadd hx hb dL_carry_47 ?_
          refine bx_ast (D := D) hx hb hK hP hD hS 3 0 rfl rfl (vp_in_iff.mpr (by decide)) dL_carry_48 (fun H locs hP hD hS => ?_)
          have hP : va_P D vwCl [(la, .inl (cA, 32, .inl ll)), (wa, .inl (cA, 64, .inl w9)), (ra, .inl (cA, 8, .inl r9)), (ma, .inl (cA, 8, .inl (wr m9 2 ((rd m9 2) + 1))))] H := hP
          have hD : va_D A [(la, .inl (cA, 32, .inl ll)), (wa, .inl (cA, 64, .inl w9)), (ra, .inl (cA, 8, .inl r9)), (ma, .inl (cA, 8, .inl (wr m9 2 ((rd m9 2) + 1))))] := hD
          refine lv_aload_n hx hb dL_carry_49 rfl (lv_at hl 7 rfl) ?_
          refine lv_iconst (v := 1) hx hb dL_carry_50 (by decide) ?_
          refine lv_dup2_11 hx hb dL_carry_51 rfl rfl ?_
          refine bx_ald (D := D) hx hb hK hP 3 0 rfl rfl (vp_in_iff.mpr (by decide)) dL_carry_52 ?_
          have jn64 : ∀ v : Int32, v = (F_L_carry_j64 m9) → ∀ ls : Array Slot, lv_has ls 8 [(7, .int (F_L_carry_j40 m9)), (6, .int (rd ll ((2 * k) + 1))), (5, .int (rd ll (2 * k))), (4, .int k), (0, .ref la), (1, .ref wa), (2, .ref ra), (3, .ref ma)] → W p l e (headSpec wsL_carry ({ frames := 0, cells := 0, slots := 0, locals := 0 })).room s m ([.ref la, .ref wa, .ref ra, .ref ma] : List Value).toArray below meth c H locs 0 0 (MQ below (va_Qi (fun r u => (r, u) = F_L_carry ll ww rr mm) (fun u t => bx_at D (wC cA la wa ra ma ll u.1 u.2.1 u.2.2) (A) t) (A)) ([.ref la, .ref wa, .ref ra, .ref ma] : List Value).toArray s 0 0 (A)) (F0 m 64 ls [.int v, .int (rd (wr m9 2 ((rd m9 2) + 1)) 1), .int 1, .ref ma]) := by
            intro v hv ls hl
            subst hv
            refine lv_isub hx hb dL_carry_64 ?_
            refine bx_ast (D := D) hx hb hK hP hD hS 3 0 rfl rfl (vp_in_iff.mpr (by decide)) dL_carry_65 (fun H locs hP hD hS => ?_)
            have hP : va_P D vwCl [(la, .inl (cA, 32, .inl ll)), (wa, .inl (cA, 64, .inl w9)), (ra, .inl (cA, 8, .inl r9)), (ma, .inl (cA, 8, .inl (wr (wr m9 2 ((rd m9 2) + 1)) 1 ((rd (wr m9 2 ((rd m9 2) + 1)) 1) - (F_L_carry_j64 m9)))))] H := hP
            have hD : va_D A [(la, .inl (cA, 32, .inl ll)), (wa, .inl (cA, 64, .inl w9)), (ra, .inl (cA, 8, .inl r9)), (ma, .inl (cA, 8, .inl (wr (wr m9 2 ((rd m9 2) + 1)) 1 ((rd (wr m9 2 ((rd m9 2) + 1)) 1) - (F_L_carry_j64 m9)))))] := hD
            refine lv_iload hx hb dL_carry_66 (lv_at hl 2 rfl) ?_
            refine lv_bipush (v := 64) hx hb dL_carry_68 (by decide) ?_
            refine lv_icmp_ge (tgt := 97) hx hb dL_carry_70 (by decide) (fun c_4 => ?_) (fun c_4 => ?_)
            · skip
              refine lv_aload_n hx hb dL_carry_97 rfl (lv_at hl 6 rfl) ?_
              refine lv_iload hx hb dL_carry_98 (lv_at hl 2 rfl) ?_
              refine lv_bipush (v := 64) hx hb dL_carry_100 (by decide) ?_
              refine lv_isub hx hb dL_carry_102 ?_
              have jn123 : ∀ v : Int32, v = (F_L_carry_j123 m9 ll k r9) → ∀ ls : Array Slot, lv_has ls 8 [(7, .int (F_L_carry_j40 m9)), (6, .int (rd ll ((2 * k) + 1))), (5, .int (rd ll (2 * k))), (4, .int k), (0, .ref la), (1, .ref wa), (2, .ref ra), (3, .ref ma)] → W p l e (headSpec wsL_carry ({ frames := 0, cells := 0, slots := 0, locals := 0 })).room s m ([.ref la, .ref wa, .ref ra, .ref ma] : List Value).toArray below meth c H locs 0 0 (MQ below (va_Qi (fun r u => (r, u) = F_L_carry ll ww rr mm) (fun u t => bx_at D (wC cA la wa ra ma ll u.1 u.2.1 u.2.2) (A) t) (A)) ([.ref la, .ref wa, .ref ra, .ref ma] : List Value).toArray s 0 0 (A)) (F0 m 123 ls [.int v, .int ((rd ll (2 * k)) - 64), .ref ra]) := by
                intro v hv ls hl
                subst hv
                refine bx_ast (D := D) hx hb hK hP hD hS 2 0 rfl rfl (ic_r hta c_4) dL_carry_123 (fun H locs hP hD hS => ?_)
                have hP : va_P D vwCl [(la, .inl (cA, 32, .inl ll)), (wa, .inl (cA, 64, .inl w9)), (ra, .inl (cA, 8, .inl (wr r9 ((rd ll (2 * k)) - 64) (F_L_carry_j123 m9 ll k r9)))), (ma, .inl (cA, 8, .inl (wr (wr m9 2 ((rd m9 2) + 1)) 1 ((rd (wr m9 2 ((rd m9 2) + 1)) 1) - (F_L_carry_j64 m9)))))] H := hP
                have hD : va_D A [(la, .inl (cA, 32, .inl ll)), (wa, .inl (cA, 64, .inl w9)), (ra, .inl (cA, 8, .inl (wr r9 ((rd ll (2 * k)) - 64) (F_L_carry_j123 m9 ll k r9)))), (ma, .inl (cA, 8, .inl (wr (wr m9 2 ((rd m9 2) + 1)) 1 ((rd (wr m9 2 ((rd m9 2) + 1)) 1) - (F_L_carry_j64 m9)))))] := hD
                refine lv_iload hx hb dL_carry_124 (lv_at hl 0 rfl) ?_
                refine lv_if_eq (tgt := 142) hx hb dL_carry_126 (by decide) (fun c_6 => ?_) (fun c_6 => ?_)
                · skip
                  refine lv_iinc (v := (k + 1)) (lv' := [(4, .int (k + 1)), (7, .int (F_L_carry_j40 m9)), (6, .int (rd ll ((2 * k) + 1))), (5, .int (rd ll (2 * k))), (0, .ref la), (1, .ref wa), (2, .ref ra), (3, .ref ma)]) hx hb dL_carry_142 hl (k := 3) rfl rfl (by decide) rfl (fun ls hl => ?_)
                  refine lv_goto (tgt := 3) hx hb dL_carry_145 (by decide) ?_
                  exact ih3 (j + 1) (k + 1) w9 (wr r9 ((rd ll (2 * k)) - 64) (F_L_carry_j123 m9 ll k r9)) (wr (wr m9 2 ((rd m9 2) + 1)) 1 ((rd (wr m9 2 ((rd m9 2) + 1)) 1) - (F_L_carry_j64 m9))) (by omega) (by omega) (by omega) (by rw [ik]; exact nI_1 j) (by subst ik; rw [← ie, (show n0 + 1 - j = (n0 + 1 - (j + 1)) + 1 by omega), cyN, if_pos c_4, if_pos c_6]; rfl) _ _ hP hD hS ls (lv_sub hl [0, 4, 5, 6, 7] rfl)
                · skip
                  refine lv_aload_n hx hb dL_carry_129 rfl (lv_at hl 7 rfl) ?_
                  refine lv_iconst (v := 0) hx hb dL_carry_130 (by decide) ?_
                  refine lv_iconst (v := (-1)) hx hb dL_carry_131 (by decide) ?_
                  refine bx_ast (D := D) hx hb hK hP hD hS 3 0 rfl rfl (vp_in_iff.mpr (by decide)) dL_carry_132 (fun H locs hP hD hS => ?_)
                  have hP : va_P D vwCl [(la, .inl (cA, 32, .inl ll)), (wa, .inl (cA, 64, .inl w9)), (ra, .inl (cA, 8, .inl (wr r9 ((rd ll (2 * k)) - 64) (F_L_carry_j123 m9 ll k r9)))), (ma, .inl (cA, 8, .inl (wr (wr (wr m9 2 ((rd m9 2) + 1)) 1 ((rd (wr m9 2 ((rd m9 2) + 1)) 1) - (F_L_carry_j64 m9))) 0 (-1))))] H := hP
                  have hD : va_D A [(la, .inl (cA, 32, .inl ll)), (wa, .inl (cA, 64, .inl w9)), (ra, .inl (cA, 8, .inl (wr r9 ((rd ll (2 * k)) - 64) (F_L_carry_j123 m9 ll k r9)))), (ma, .inl (cA, 8, .inl (wr (wr (wr m9 2 ((rd m9 2) + 1)) 1 ((rd (wr m9 2 ((rd m9 2) + 1)) 1) - (F_L_carry_j64 m9))) 0 (-1))))] := hD
                  refine lv_aload_n hx hb dL_carry_133 rfl (lv_at hl 7 rfl) ?_
                  refine lv_iconst (v := 3) hx hb dL_carry_134 (by decide) ?_
                  refine lv_iconst (v := (-1)) hx hb dL_carry_135 (by decide) ?_
                  refine bx_ast (D := D) hx hb hK hP hD hS 3 0 rfl rfl (vp_in_iff.mpr (by decide)) dL_carry_136 (fun H locs hP hD hS => ?_)
                  have hP : va_P D vwCl [(la, .inl (cA, 32, .inl ll)), (wa, .inl (cA, 64, .inl w9)), (ra, .inl (cA, 8, .inl (wr r9 ((rd ll (2 * k)) - 64) (F_L_carry_j123 m9 ll k r9)))), (ma, .inl (cA, 8, .inl (wr (wr (wr (wr m9 2 ((rd m9 2) + 1)) 1 ((rd (wr m9 2 ((rd m9 2) + 1)) 1) - (F_L_carry_j64 m9))) 0 (-1)) 3 (-1))))] H := hP
                  have hD : va_D A [(la, .inl (cA, 32, .inl ll)), (wa, .inl (cA, 64, .inl w9)), (ra, .inl (cA, 8, .inl (wr r9 ((rd ll (2 * k)) - 64) (F_L_carry_j123 m9 ll k r9)))), (ma, .inl (cA, 8, .inl (wr (wr (wr (wr m9 2 ((rd m9 2) + 1)) 1 ((rd (wr m9 2 ((rd m9 2) + 1)) 1) - (F_L_carry_j64 m9))) 0 (-1)) 3 (-1))))] := hD
                  refine lv_iload hx hb dL_carry_137 (lv_at hl 3 rfl) ?_
                  refine lv_iconst (v := 1) hx hb dL_carry_139 (by decide) ?_
                  refine lv_isub hx hb dL_carry_140 ?_
                  exact W.iret (v := (k - 1)) hx hb hr (fun t ht hW => ⟨⟨(k - 1), (w9, (wr r9 ((rd ll (2 * k)) - 64) (F_L_carry_j123 m9 ll k r9)), (wr (wr (wr (wr m9 2 ((rd m9 2) + 1)) 1 ((rd (wr m9 2 ((rd m9 2) + 1)) 1) - (F_L_carry_j64 m9))) 0 (-1)) 3 (-1))), rfl, (by subst ik; unfold F_L_carry; rw [hl0, nI_clamp (by omega), ← ie, (show n0 + 1 - j = (n0 + 1 - (j + 1)) + 1 by omega), cyN, if_pos c_4, if_neg c_6]; rfl), ⟨by rw [ht]; exact hP, hD⟩⟩, hS.F ht⟩) hS.2.2 dL_carry_141
              refine lv_iload hx hb dL_carry_103 (lv_at hl 0 rfl) ?_
              refine lv_if_eq (tgt := 121) hx hb dL_carry_105 (by decide) (fun c_5 => ?_) (fun c_5 => ?_)
              · skip
                refine lv_iload hx hb dL_carry_121 (lv_at hl 1 rfl) ?_
                exact jn123 _ (by simp only [F_L_carry_j123, if_pos c_5]) ls (lv_sub hl [0, 1, 2, 3, 4, 5, 6, 7] rfl)
              · skip
                refine lv_aload_n hx hb dL_carry_108 rfl (lv_at hl 6 rfl) ?_
                refine lv_iload hx hb dL_carry_109 (lv_at hl 2 rfl) ?_
                refine lv_bipush (v := 64) hx hb dL_carry_111 (by decide) ?_
                refine lv_isub hx hb dL_carry_113 ?_
                refine bx_ald (D := D) hx hb hK hP 2 0 rfl rfl (ic_r hta c_4) dL_carry_114 ?_
                refine lv_iload hx hb dL_carry_115 (lv_at hl 1 rfl) ?_
                refine lv_iand hx hb dL_carry_117 ?_
                refine lv_goto (tgt := 123) hx hb dL_carry_118 (by decide) ?_
                exact jn123 _ (by simp only [F_L_carry_j123, if_neg c_5]) ls (lv_sub hl [0, 1, 2, 3, 4, 5, 6, 7] rfl)
            · skip
              refine lv_aload_n hx hb dL_carry_73 rfl (lv_at hl 5 rfl) ?_
              refine lv_iload hx hb dL_carry_74 (lv_at hl 2 rfl) ?_
              have jn93 : ∀ v : Int32, v = (F_L_carry_j93 m9 ll k w9) → ∀ ls : Array Slot, lv_has ls 8 [(7, .int (F_L_carry_j40 m9)), (6, .int (rd ll ((2 * k) + 1))), (5, .int (rd ll (2 * k))), (4, .int k), (0, .ref la), (1, .ref wa), (2, .ref ra), (3, .ref ma)] → W p l e (headSpec wsL_carry ({ frames := 0, cells := 0, slots := 0, locals := 0 })).room s m ([.ref la, .ref wa, .ref ra, .ref ma] : List Value).toArray below meth c H locs 0 0 (MQ below (va_Qi (fun r u => (r, u) = F_L_carry ll ww rr mm) (fun u t => bx_at D (wC cA la wa ra ma ll u.1 u.2.1 u.2.2) (A) t) (A)) ([.ref la, .ref wa, .ref ra, .ref ma] : List Value).toArray s 0 0 (A)) (F0 m 93 ls [.int v, .int (rd ll (2 * k)), .ref wa]) := by
                intro v hv ls hl
                subst hv
                refine bx_ast (D := D) hx hb hK hP hD hS 1 0 rfl rfl (ic_w hta c_4) dL_carry_93 (fun H locs hP hD hS => ?_)
                have hP : va_P D vwCl [(la, .inl (cA, 32, .inl ll)), (wa, .inl (cA, 64, .inl (wr w9 (rd ll (2 * k)) (F_L_carry_j93 m9 ll k w9)))), (ra, .inl (cA, 8, .inl r9)), (ma, .inl (cA, 8, .inl (wr (wr m9 2 ((rd m9 2) + 1)) 1 ((rd (wr m9 2 ((rd m9 2) + 1)) 1) - (F_L_carry_j64 m9)))))] H := hP
                have hD : va_D A [(la, .inl (cA, 32, .inl ll)), (wa, .inl (cA, 64, .inl (wr w9 (rd ll (2 * k)) (F_L_carry_j93 m9 ll k w9)))), (ra, .inl (cA, 8, .inl r9)), (ma, .inl (cA, 8, .inl (wr (wr m9 2 ((rd m9 2) + 1)) 1 ((rd (wr m9 2 ((rd m9 2) + 1)) 1) - (F_L_carry_j64 m9)))))] := hD
                refine lv_goto (tgt := 124) hx hb dL_carry_94 (by decide) ?_
                refine lv_iload hx hb dL_carry_124 (lv_at hl 0 rfl) ?_
                refine lv_if_eq (tgt := 142) hx hb dL_carry_126 (by decide) (fun c_8 => ?_) (fun c_8 => ?_)
                · skip
                  refine lv_iinc (v := (k + 1)) (lv' := [(4, .int (k + 1)), (7, .int (F_L_carry_j40 m9)), (6, .int (rd ll ((2 * k) + 1))), (5, .int (rd ll (2 * k))), (0, .ref la), (1, .ref wa), (2, .ref ra), (3, .ref ma)]) hx hb dL_carry_142 hl (k := 3) rfl rfl (by decide) rfl (fun ls hl => ?_)
                  refine lv_goto (tgt := 3) hx hb dL_carry_145 (by decide) ?_
                  exact ih3 (j + 1) (k + 1) (wr w9 (rd ll (2 * k)) (F_L_carry_j93 m9 ll k w9)) r9 (wr (wr m9 2 ((rd m9 2) + 1)) 1 ((rd (wr m9 2 ((rd m9 2) + 1)) 1) - (F_L_carry_j64 m9))) (by omega) (by omega) (by omega) (by rw [ik]; exact nI_1 j) (by subst ik; rw [← ie, (show n0 + 1 - j = (n0 + 1 - (j + 1)) + 1 by omega), cyN, if_neg c_4, if_pos c_8]; rfl) _ _ hP hD hS ls (lv_sub hl [0, 4, 5, 6, 7] rfl)
                · skip
                  refine lv_aload_n hx hb dL_carry_129 rfl (lv_at hl 7 rfl) ?_
                  refine lv_iconst (v := 0) hx hb dL_carry_130 (by decide) ?_
                  refine lv_iconst (v := (-1)) hx hb dL_carry_131 (by decide) ?_
                  refine bx_ast (D := D) hx hb hK hP hD hS 3 0 rfl rfl (vp_in_iff.mpr (by decide)) dL_carry_132 (fun H locs hP hD hS => ?_)
                  have hP : va_P D vwCl [(la, .inl (cA, 32, .inl ll)), (wa, .inl (cA, 64, .inl (wr w9 (rd ll (2 * k)) (F_L_carry_j93 m9 ll k w9)))), (ra, .inl (cA, 8, .inl r9)), (ma, .inl (cA, 8, .inl (wr (wr (wr m9 2 ((rd m9 2) + 1)) 1 ((rd (wr m9 2 ((rd m9 2) + 1)) 1) - (F_L_carry_j64 m9))) 0 (-1))))] H := hP
                  have hD : va_D A [(la, .inl (cA, 32, .inl ll)), (wa, .inl (cA, 64, .inl (wr w9 (rd ll (2 * k)) (F_L_carry_j93 m9 ll k w9)))), (ra, .inl (cA, 8, .inl r9)), (ma, .inl (cA, 8, .inl (wr (wr (wr m9 2 ((rd m9 2) + 1)) 1 ((rd (wr m9 2 ((rd m9 2) + 1)) 1) - (F_L_carry_j64 m9))) 0 (-1))))] := hD
                  refine lv_aload_n hx hb dL_carry_133 rfl (lv_at hl 7 rfl) ?_
                  refine lv_iconst (v := 3) hx hb dL_carry_134 (by decide) ?_
                  refine lv_iconst (v := (-1)) hx hb dL_carry_135 (by decide) ?_
                  refine bx_ast (D := D) hx hb hK hP hD hS 3 0 rfl rfl (vp_in_iff.mpr (by decide)) dL_carry_136 (fun H locs hP hD hS => ?_)
                  have hP : va_P D vwCl [(la, .inl (cA, 32, .inl ll)), (wa, .inl (cA, 64, .inl (wr w9 (rd ll (2 * k)) (F_L_carry_j93 m9 ll k w9)))), (ra, .inl (cA, 8, .inl r9)), (ma, .inl (cA, 8, .inl (wr (wr (wr (wr m9 2 ((rd m9 2) + 1)) 1 ((rd (wr m9 2 ((rd m9 2) + 1)) 1) - (F_L_carry_j64 m9))) 0 (-1)) 3 (-1))))] H := hP
                  have hD : va_D A [(la, .inl (cA, 32, .inl ll)), (wa, .inl (cA, 64, .inl (wr w9 (rd ll (2 * k)) (F_L_carry_j93 m9 ll k w9)))), (ra, .inl (cA, 8, .inl r9)), (ma, .inl (cA, 8, .inl (wr (wr (wr (wr m9 2 ((rd m9 2) + 1)) 1 ((rd (wr m9 2 ((rd m9 2) + 1)) 1) - (F_L_carry_j64 m9))) 0 (-1)) 3 (-1))))] := hD
                  refine lv_iload hx hb dL_carry_137 (lv_at hl 3 rfl) ?_
                  refine lv_iconst (v := 1) hx hb dL_carry_139 (by decide) ?_
                  refine lv_isub hx hb dL_carry_140 ?_
                  exact W.iret (v := (k - 1)) hx hb hr (fun t ht hW => ⟨⟨(k - 1), ((wr w9 (rd ll (2 * k)) (F_L_carry_j93 m9 ll k w9)), r9, (wr (wr (wr (wr m9 2 ((rd m9 2) + 1)) 1 ((rd (wr m9 2 ((rd m9 2) + 1)) 1) - (F_L_carry_j64 m9))) 0 (-1)) 3 (-1))), rfl, (by subst ik; unfold F_L_carry; rw [hl0, nI_clamp (by omega), ← ie, (show n0 + 1 - j = (n0 + 1 - (j + 1)) + 1 by omega), cyN, if_neg c_4, if_neg c_8]; rfl), ⟨by rw [ht]; exact hP, hD⟩⟩, hS.F ht⟩) hS.2.2 dL_carry_141
              refine lv_iload hx hb dL_carry_76 (lv_at hl 0 rfl) ?_
              refine lv_if_eq (tgt := 91) hx hb dL_carry_78 (by decide) (fun c_7 => ?_) (fun c_7 => ?_)
              · skip
                refine lv_iload hx hb dL_carry_91 (lv_at hl 1 rfl) ?_
                exact jn93 _ (by simp only [F_L_carry_j93, if_pos c_7]) ls (lv_sub hl [0, 1, 2, 3, 4, 5, 6, 7] rfl)
              · skip
                refine lv_aload_n hx hb dL_carry_81 rfl (lv_at hl 5 rfl) ?_
                refine lv_iload hx hb dL_carry_82 (lv_at hl 2 rfl) ?_
                refine bx_ald (D := D) hx hb hK hP 1 0 rfl rfl (ic_w hta c_4) dL_carry_84 ?_
                refine lv_iload hx hb dL_carry_85 (lv_at hl 1 rfl) ?_
                refine lv_iand hx hb dL_carry_87 ?_
                refine lv_goto (tgt := 93) hx hb dL_carry_88 (by decide) ?_
                exact jn93 _ (by simp only [F_L_carry_j93, if_neg c_7]) ls (lv_sub hl [0, 1, 2, 3, 4, 5, 6, 7] rfl)
          refine lv_aload_n hx hb dL_carry_53 rfl (lv_at hl 7 rfl) ?_
          refine lv_iconst (v := 1) hx hb dL_carry_54 (by decide) ?_
          refine bx_ald (D := D) hx hb hK hP 3 0 rfl rfl (vp_in_iff.mpr (by decide)) dL_carry_55 ?_
          refine lv_if_lt (tgt := 63) hx hb dL_carry_56 (by decide) (fun c_3 => ?_) (fun c_3 => ?_)
          · skip
            refine lv_iconst (v := 0) hx hb dL_carry_63 (by decide) ?_
            exact jn64 _ (by simp only [F_L_carry_j64, if_pos c_3]) ls (lv_sub hl [0, 1, 2, 3, 4, 5, 6, 7] rfl)
          · skip
            refine lv_iconst (v := 1) hx hb dL_carry_59 (by decide) ?_
            refine lv_goto (tgt := 64) hx hb dL_carry_60 (by decide) ?_
            exact jn64 _ (by simp only [F_L_carry_j64, if_neg c_3]) ls (lv_sub hl [0, 1, 2, 3, 4, 5, 6, 7] rfl)
        refine lv_aload_n hx hb dL_carry_29 rfl (lv_at hl 6 rfl) ?_
        refine lv_iconst (v := 1) hx hb dL_carry_30 (by decide) ?_
        refine bx_ald (D := D) hx hb hK hP 3 0 rfl rfl (vp_in_iff.mpr (by decide)) dL_carry_31 ?_
        refine lv_if_ne (tgt := 39) hx hb dL_carry_32 (by decide) (fun c_2 => ?_) (fun c_2 => ?_)
        · skip
          refine lv_iconst (v := 0) hx hb dL_carry_39 (by decide) ?_
          exact jn40 _ (by simp only [F_L_carry_j40, if_neg c_2]) ls (lv_sub hl [0, 1, 2, 3, 4, 5, 6] rfl)
        · skip
          refine lv_iconst (v := 1) hx hb dL_carry_35 (by decide) ?_
          refine lv_goto (tgt := 40) hx hb dL_carry_36 (by decide) ?_
          exact jn40 _ (by simp only [F_L_carry_j40, if_pos c_2]) ls (lv_sub hl [0, 1, 2, 3, 4, 5, 6] rfl)
  exact loop3 (n0 + 1) 1 1 ww rr mm (by omega) (by omega) (by omega) rfl rfl _ _ hP hD hS ls (lv_sub hl [0, 1, 2, 3, 4] rfl)
