abbrev wW (cA : ClassId) (wa : Nat) (ww : Nat → Int32) : va_W := [(wa, .inl (cA, 64, .inl ww))]
abbrev wR (cA : ClassId) (ra : Nat) (rr : Nat → Int32) : va_W := [(ra, .inl (cA, 8, .inl rr))]
abbrev wLa (cA : ClassId) (la : Nat) (ll : Nat → Int32) : va_W := [(la, .inl (cA, 32, .inl ll))]
abbrev wWR (cA : ClassId) (wa ra : Nat) (ww : Nat → Int32) (rr : Nat → Int32) : va_W := [(wa, .inl (cA, 64, .inl ww)), (ra, .inl (cA, 8, .inl rr))]
abbrev wLR (cA : ClassId) (la ra : Nat) (ll : Nat → Int32) (rr : Nat → Int32) : va_W := [(la, .inl (cA, 32, .inl ll)), (ra, .inl (cA, 8, .inl rr))]
abbrev wC (cA : ClassId) (la wa ra ma : Nat) (ll : Nat → Int32) (ww : Nat → Int32) (rr : Nat → Int32) (mm : Nat → Int32) : va_W := [(la, .inl (cA, 32, .inl ll)), (wa, .inl (cA, 64, .inl ww)), (ra, .inl (cA, 8, .inl rr)), (ma, .inl (cA, 8, .inl mm))]
abbrev wBA (cA : ClassId) (b s0 f w s2 f2 w2 t0 d db e0 la wa ra ma : Nat) (σ : FS) (ρ : FS) (τ : TS) (δ : DS) (run : Int32) (ll : Nat → Int32) (ww : Nat → Int32) (rr : Nat → Int32) (mm : Nat → Int32) : va_W := [(b, .inr (5, [.ref s0, .ref s2, .ref t0, .ref d, .ref e0, .int run])), (s0, .inr (3, [.ref f])), (f, .inr (2, [.ref w, .int σ.2.1, .int σ.2.2])), (w, .inl (cA, 66, .inl σ.1)), (s2, .inr (3, [.ref f2])), (f2, .inr (2, [.ref w2, .int ρ.2.1, .int ρ.2.2])), (w2, .inl (cA, 66, .inl ρ.1)), (t0, .inr (4, [.int τ.1, .int τ.2.1, .int τ.2.2.1, .int τ.2.2.2.1, .int τ.2.2.2.2.1, .int τ.2.2.2.2.2])), (d, .inr (1, [.int δ.1, .ref db])), (db, .inl (cA, 24, .inl δ.2)), (e0, .inr (0, [.ref d, .ref s0])), (la, .inl (cA, 32, .inl ll)), (wa, .inl (cA, 64, .inl ww)), (ra, .inl (cA, 8, .inl rr)), (ma, .inl (cA, 8, .inl mm))]
abbrev wBT (cA : ClassId) (b s0 f w s2 f2 w2 t0 d db e0 wa ra ma : Nat) (σ : FS) (ρ : FS) (τ : TS) (δ : DS) (run : Int32) (ww : Nat → Int32) (rr : Nat → Int32) (mm : Nat → Int32) : va_W := [(b, .inr (5, [.ref s0, .ref s2, .ref t0, .ref d, .ref e0, .int run])), (s0, .inr (3, [.ref f])), (f, .inr (2, [.ref w, .int σ.2.1, .int σ.2.2])), (w, .inl (cA, 66, .inl σ.1)), (s2, .inr (3, [.ref f2])), (f2, .inr (2, [.ref w2, .int ρ.2.1, .int ρ.2.2])), (w2, .inl (cA, 66, .inl ρ.1)), (t0, .inr (4, [.int τ.1, .int τ.2.1, .int τ.2.2.1, .int τ.2.2.2.1, .int τ.2.2.2.2.1, .int τ.2.2.2.2.2])), (d, .inr (1, [.int δ.1, .ref db])), (db, .inl (cA, 24, .inl δ.2)), (e0, .inr (0, [.ref d, .ref s0])), (wa, .inl (cA, 64, .inl ww)), (ra, .inl (cA, 8, .inl rr)), (ma, .inl (cA, 8, .inl mm))]
abbrev wBD (cA : ClassId) (b s0 f w s2 f2 w2 t0 d db e0 wa : Nat) (σ : FS) (ρ : FS) (τ : TS) (δ : DS) (run : Int32) (ww : Nat → Int32) : va_W := [(b, .inr (5, [.ref s0, .ref s2, .ref t0, .ref d, .ref e0, .int run])), (s0, .inr (3, [.ref f])), (f, .inr (2, [.ref w, .int σ.2.1, .int σ.2.2])), (w, .inl (cA, 66, .inl σ.1)), (s2, .inr (3, [.ref f2])), (f2, .inr (2, [.ref w2, .int ρ.2.1, .int ρ.2.2])), (w2, .inl (cA, 66, .inl ρ.1)), (t0, .inr (4, [.int τ.1, .int τ.2.1, .int τ.2.2.1, .int τ.2.2.2.1, .int τ.2.2.2.2.1, .int τ.2.2.2.2.2])), (d, .inr (1, [.int δ.1, .ref db])), (db, .inl (cA, 24, .inl δ.2)), (e0, .inr (0, [.ref d, .ref s0])), (wa, .inl (cA, 64, .inl ww))]
/-- the hash, in longs -/
def hashL (f : Nat → Int32) : Nat → Int64
  | 0 => 17
  | n + 1 => 31 * hashL f n + (f n).toInt64 + 1 - (31 * hashL f n + (f n).toInt64 + 1) / 65521 * 65521
def F_L_hash (ww : Nat → Int32) (p0 p1 : Int32) : Int32 := (hashL (fun k => rd ww (32 * p0 + 5 + nI k)) p1.toNatClampNeg).toInt32
set_option maxHeartbeats 4000000 in
set_option maxRecDepth 100000 in
theorem c_L_hash (l : Launch) (D : va_G) (cA : ClassId) (wa : Nat) (ww : Nat → Int32) (p0 : Int32) (p1 : Int32) (hs : sl p0) (hn : p1.toNatClampNeg ≤ 24) : Met l yL_hash wsL_hash ({ frames := 0, cells := 0, slots := 0, locals := 0 }) (va_Pc [.ref wa, .int p0, .int p1] (bx_ro D [(cA, .int)] (wW cA wa ww))) (vp_Si (fun r => r = F_L_hash ww p0 p1)) 0 0 (fun _ => False) := by
  refine Met.ofW (cc := cL_hash) (maxL := 6) (ret := (some .int)) (by decide) rfl ?_
  intro p e s m args below meth c s₁ B hml hv
  obtain ⟨rfl, hP, hK, hG⟩ := hv
  have hx := B.exec
  have hb := B.bytes
  have hr := B.returns
  have hts := atoms_spec (ws := wsL_hash) B.pre
  have hown : s.vm.findClass RL = some m.cls := findClass_of_methodNamed B.named
  have hlocks := B.notSynchronized
  have hP : va_P D vwCl [(wa, .inl (cA, 64, .inl ww))] s.heap := hP
  have hl := lv_entry ([.ref wa, .int p0, .int p1]) (n := 6) (Nat.le_of_ble_eq_true rfl)
  rw [lg_entry_eq]
  generalize (lg_sl ([.ref wa, .int p0, .int p1]) ++ List.replicate (6 - (lg_sl ([.ref wa, .int p0, .int p1])).length) Slot.unset).toArray = ls at hl ⊢
  have hl : lv_has ls 6 [(0, .ref wa), (1, .int p0), (2, .int p1)] := hl
  refine lv_ldc2 (v := 17) hx hb hown (hts (.constantLong RL 9 (17)) (by decide +kernel)) dL_hash_0 ?_
  refine lv_lstore_n (lv' := [(3, .long 17), (0, .ref wa), (1, .int p0), (2, .int p1)]) hx hb dL_hash_3 rfl hl (by decide) rfl (fun ls hl => ?_)
  refine lv_iconst (v := 0) hx hb dL_hash_4 (by decide) ?_
  refine lv_istore (lv' := [(5, .int 0), (3, .long 17), (0, .ref wa), (1, .int p0), (2, .int p1)]) hx hb dL_hash_5 hl (by decide) rfl (fun ls hl => ?_)
  have loop7 : ∀ (n : Nat) (j : Nat) (h : Int64) (k : Int32), p1.toNatClampNeg - j < n → j ≤ p1.toNatClampNeg → k = nI j → h = hashL (fun k => rd ww (32 * p0 + 5 + nI k)) j → ∀ (ls : Array Slot), lv_has ls 6 [(5, .int k), (3, .long h), (0, .ref wa), (1, .int p0), (2, .int p1)] → W p l e (headSpec wsL_hash ({ frames := 0, cells := 0, slots := 0, locals := 0 })).room s m ([.ref wa, .int p0, .int p1] : List Value).toArray below meth c s.heap [] (0) (0) (MQ below (vp_Si (fun r => r = F_L_hash ww p0 p1)) ([.ref wa, .int p0, .int p1] : List Value).toArray s 0 0 (fun _ => False)) (F0 m 7 ls []) := by
    intro n
    induction n with
    | zero =>
      intro j h k h_f ij ik ih ls hl
      exact absurd h_f (Nat.not_lt_zero _)
    | succ n ih7 =>
      intro j h k h_f ij ik ih ls hl
      have hcl := bx_cl p1
      refine lv_iload hx hb dL_hash_7 (lv_at hl 0 rfl) ?_
      refine lv_iload_n hx hb dL_hash_9 rfl (lv_at hl 4 rfl) ?_
      refine lv_icmp_ge (tgt := 44) hx hb dL_hash_10 (by decide) (fun c_1 => ?_) (fun c_1 => ?_)
      · skip
        have hj : p1.toNatClampNeg ≤ j := (bx_le (by omega)).mp (ik ▸ c_1)
        refine lv_lload_n hx hb dL_hash_44 rfl (lv_at hl 1 rfl) ?_
        refine lv_l2i hx hb dL_hash_45 rfl ?_
        exact W.iret (v := (Int64.toInt32 h)) hx hb hr (fun t ht hW => ⟨(Int64.toInt32 h), rfl, (by rw [ih, Nat.le_antisymm ij hj]; rfl), ht⟩) (fun _ h => nomatch h) dL_hash_46
      · skip
        have hj : j < p1.toNatClampNeg := Nat.lt_of_not_le (fun h => c_1 (by rw [ik]; exact (bx_le (by omega)).mpr h))
        refine lv_ldc2 (v := 31) hx hb hown (hts (.constantLong RL 11 (31)) (by decide +kernel)) dL_hash_13 ?_
        refine lv_lload_n hx hb dL_hash_16 rfl (lv_at hl 1 rfl) ?_
        refine lv_lmul hx hb dL_hash_17 ?_
        refine lv_aload_n hx hb dL_hash_18 rfl (lv_at hl 2 rfl) ?_
        refine lv_bipush (v := 32) hx hb dL_hash_19 (by decide) ?_
        refine lv_iload_n hx hb dL_hash_21 rfl (lv_at hl 3 rfl) ?_
        refine lv_imul hx hb dL_hash_22 ?_
        refine lv_iconst (v := 5) hx hb dL_hash_23 (by decide) ?_
        refine lv_iadd hx hb dL_hash_24 ?_
        refine lv_iload hx hb dL_hash_25 (lv_at hl 0 rfl) ?_
        refine lv_iadd hx hb dL_hash_27 ?_
        refine bx_ald (D := D) hx hb hK hP 0 0 rfl rfl (ix5 hs ik (by omega)) dL_hash_28 ?_
        refine lv_i2l hx hb dL_hash_29 rfl ?_
        refine lv_ladd hx hb dL_hash_30 ?_
        refine lv_lconst (v := 1) hx hb dL_hash_31 rfl ?_
        refine lv_ladd hx hb dL_hash_32 ?_
        refine lv_ldc2 (v := 65521) hx hb hown (hts (.constantLong RL 13 (65521)) (by decide +kernel)) dL_hash_33 ?_
        refine lv_lrem hx hb dL_hash_36 (by decide) ?_
        refine lv_lstore_n (lv' := [(3, .long ((((31 * h) + (Int32.toInt64 (rd ww (((32 * p0) + 5) + k)))) + 1) - (((31 * h) + (Int32.toInt64 (rd ww (((32 * p0) + 5) + k)))) + 1) / 65521 * 65521)), (5, .int k), (0, .ref wa), (1, .int p0), (2, .int p1)]) hx hb dL_hash_37 rfl hl (by decide) rfl (fun ls hl => ?_)
        refine lv_iinc (v := (k + 1)) (lv' := [(5, .int (k + 1)), (3, .long ((((31 * h) + (Int32.toInt64 (rd ww (((32 * p0) + 5) + k)))) + 1) - (((31 * h) + (Int32.toInt64 (rd ww (((32 * p0) + 5) + k)))) + 1) / 65521 * 65521)), (0, .ref wa), (1, .int p0), (2, .int p1)]) hx hb dL_hash_38 hl (k := 1) rfl rfl (by decide) rfl (fun ls hl => ?_)
        refine lv_goto (tgt := 7) hx hb dL_hash_41 (by decide) ?_
        exact ih7 (j + 1) ((((31 * h) + (Int32.toInt64 (rd ww (((32 * p0) + 5) + k)))) + 1) - (((31 * h) + (Int32.toInt64 (rd ww (((32 * p0) + 5) + k)))) + 1) / 65521 * 65521) (k + 1) (by omega) hj (by rw [ik]; exact nI_1 j) (by rw [ih, ik]; rfl) ls (lv_sub hl [0, 1, 2, 3, 4] rfl)
  exact loop7 (p1.toNatClampNeg + 1) 0 17 0 (by omega) (Nat.zero_le _) nI_0.symm rfl ls (lv_sub hl [0, 1, 2, 3, 4] rfl)
def F_L_isGood (ww : Nat → Int32) (p0 : Int32) : Int32 := (if (rd ww (32 * p0)) = 1 then (if (rd ww ((32 * p0) + 2)) ≤ 0 then 0 else (if 25 ≤ (rd ww ((32 * p0) + 2)) then 0 else (if (rd ww ((32 * p0) + 3)) = (F_L_hash ww p0 (rd ww ((32 * p0) + 2))) then 1 else 0))) else 0)
set_option maxHeartbeats 4000000 in
set_option maxRecDepth 100000 in
theorem c_L_isGood (l : Launch) (D : va_G) (cA : ClassId) (wa : Nat) (ww : Nat → Int32) (p0 : Int32) (hs : sl p0) : Met l yL_isGood wsL_isGood ({ frames := 1, cells := 0, slots := 0, locals := 25 }) (va_Pc [.ref wa, .int p0] (bx_ro D [(cA, .int)] (wW cA wa ww))) (vp_Si (fun r => r = F_L_isGood ww p0 ∧ (r = 0 ∨ r = 1))) 0 0 (fun _ => False) := by
  refine Met.ofW (cc := cL_isGood) (maxL := 3) (ret := (some .boolean)) (by decide) rfl ?_
  intro p e s m args below meth c s₁ B hml hv
  obtain ⟨rfl, hP, hK, hG⟩ := hv
  have hx := B.exec
  have hb := B.bytes
  have hr := B.returns
  have hts := atoms_spec (ws := wsL_isGood) B.pre
  have hown : s.vm.findClass RL = some m.cls := findClass_of_methodNamed B.named
  have hlocks := B.notSynchronized
  have hP : va_P D vwCl [(wa, .inl (cA, 64, .inl ww))] s.heap := hP
  have hl := lv_entry ([.ref wa, .int p0]) (n := 3) (Nat.le_of_ble_eq_true rfl)
  rw [lg_entry_eq]
  generalize (lg_sl ([.ref wa, .int p0]) ++ List.replicate (3 - (lg_sl ([.ref wa, .int p0])).length) Slot.unset).toArray = ls at hl ⊢
  have hl : lv_has ls 3 [(0, .ref wa), (1, .int p0)] := hl
  refine lv_aload_n hx hb dL_isGood_0 rfl (lv_at hl 0 rfl) ?_
  refine lv_bipush (v := 32) hx hb dL_isGood_1 (by decide) ?_
  refine lv_iload_n hx hb dL_isGood_3 rfl (lv_at hl 1 rfl) ?_
  refine lv_imul hx hb dL_isGood_4 ?_
  refine lv_iconst (v := 2) hx hb dL_isGood_5 (by decide) ?_
  refine lv_iadd hx hb dL_isGood_6 ?_
  refine bx_ald (D := D) hx hb hK hP 0 0 rfl rfl (ixk hs v2) dL_isGood_7 ?_
  refine lv_istore_n (lv' := [(2, .int (rd ww ((32 * p0) + 2))), (0, .ref wa), (1, .int p0)]) hx hb dL_isGood_8 rfl hl (by decide) rfl (fun ls hl => ?_)
  refine lv_aload_n hx hb dL_isGood_9 rfl (lv_at hl 1 rfl) ?_
  refine lv_bipush (v := 32) hx hb dL_isGood_10 (by decide) ?_
  refine lv_iload_n hx hb dL_isGood_12 rfl (lv_at hl 2 rfl) ?_
  refine lv_imul hx hb dL_isGood_13 ?_
  refine bx_ald (D := D) hx hb hK hP 0 0 rfl rfl (ix0 hs) dL_isGood_14 ?_
  refine lv_iconst (v := 1) hx hb dL_isGood_15 (by decide) ?_
  refine lv_icmp_ne (tgt := 50) hx hb dL_isGood_16 (by decide) (fun c_1 => ?_) (fun c_1 => ?_)
  · skip
    refine lv_iconst (v := 0) hx hb dL_isGood_50 (by decide) ?_
    exact W.zret (v := 0) hx hb hr rfl (fun t ht hW => ⟨0, rfl, ⟨(by simp only [F_L_isGood, if_neg c_1]), (by decide)⟩, ht⟩) (fun _ h => nomatch h) dL_isGood_51
  · skip
    refine lv_iload_n hx hb dL_isGood_19 rfl (lv_at hl 0 rfl) ?_
    refine lv_if_le (tgt := 50) hx hb dL_isGood_20 (by decide) (fun c_2 => ?_) (fun c_2 => ?_)
    · skip
      refine lv_iconst (v := 0) hx hb dL_isGood_50 (by decide) ?_
      exact W.zret (v := 0) hx hb hr rfl (fun t ht hW => ⟨0, rfl, ⟨(by simp only [F_L_isGood, if_pos c_1, if_pos c_2]), (by decide)⟩, ht⟩) (fun _ h => nomatch h) dL_isGood_51
    · skip
      refine lv_iload_n hx hb dL_isGood_23 rfl (lv_at hl 0 rfl) ?_
      refine lv_bipush (v := 25) hx hb dL_isGood_24 (by decide) ?_
      refine lv_icmp_ge (tgt := 50) hx hb dL_isGood_26 (by decide) (fun c_3 => ?_) (fun c_3 => ?_)
      · skip
        refine lv_iconst (v := 0) hx hb dL_isGood_50 (by decide) ?_
        exact W.zret (v := 0) hx hb hr rfl (fun t ht hW => ⟨0, rfl, ⟨(by simp only [F_L_isGood, if_pos c_1, if_neg c_2, if_pos c_3]), (by decide)⟩, ht⟩) (fun _ h => nomatch h) dL_isGood_51
      · skip
        refine lv_aload_n hx hb dL_isGood_29 rfl (lv_at hl 1 rfl) ?_
        refine lv_bipush (v := 32) hx hb dL_isGood_30 (by decide) ?_
        refine lv_iload_n hx hb dL_isGood_32 rfl (lv_at hl 2 rfl) ?_
        refine lv_imul hx hb dL_isGood_33 ?_
        refine lv_iconst (v := 3) hx hb dL_isGood_34 (by decide) ?_
        refine lv_iadd hx hb dL_isGood_35 ?_
        refine bx_ald (D := D) hx hb hK hP 0 0 rfl rfl (ixk hs v3) dL_isGood_36 ?_
        refine lv_aload_n hx hb dL_isGood_37 rfl (lv_at hl 1 rfl) ?_
        refine lv_iload_n hx hb dL_isGood_38 rfl (lv_at hl 2 rfl) ?_
        refine lv_iload_n hx hb dL_isGood_39 rfl (lv_at hl 0 rfl) ?_
        refine bx_ri (va_runS (As := [.ref wa, .int p0, .int (rd ww ((32 * p0) + 2))]) (rest := [.int (rd ww ((32 * p0) + 3))]) ⟨hx, hb, hml, hown, hts⟩ (c_L_hash l D cA wa ww p0 (rd ww ((32 * p0) + 2)) hs (le_n (N := 25) (n := 24) rfl c_3)) (va_cwS 3 hts gL_isGood_L_hash rfl rfl rfl (by decide +kernel) ⟨Nat.le_of_ble_eq_true rfl, Nat.le_of_ble_eq_true rfl⟩) (bx_psr hK hG (hP.sub (ws' := [(wa, .inl (cA, 64, .inl ww))]) [0] rfl)) rfl rfl hl.1 rfl (lv_room (Nat.le_of_ble_eq_true rfl)) dL_isGood_40 ⟨Nat.zero_le _, Nat.zero_le _⟩) (fun r_4 h_5 => ?_)
        have h_5 := h_5.symm
        subst h_5
        refine lv_icmp_ne (tgt := 50) hx hb dL_isGood_43 (by decide) (fun c_6 => ?_) (fun c_6 => ?_)
        · skip
          refine lv_iconst (v := 0) hx hb dL_isGood_50 (by decide) ?_
          exact W.zret (v := 0) hx hb hr rfl (fun t ht hW => ⟨0, rfl, ⟨(by simp only [F_L_isGood, if_pos c_1, if_neg c_2, if_neg c_3, if_neg c_6]), (by decide)⟩, ht⟩) (fun _ h => nomatch h) dL_isGood_51
        · skip
          refine lv_iconst (v := 1) hx hb dL_isGood_46 (by decide) ?_
          refine lv_goto (tgt := 51) hx hb dL_isGood_47 (by decide) ?_
          exact W.zret (v := 1) hx hb hr rfl (fun t ht hW => ⟨1, rfl, ⟨(by simp only [F_L_isGood, if_pos c_1, if_neg c_2, if_neg c_3, if_pos c_6]), (by decide)⟩, ht⟩) (fun _ h => nomatch h) dL_isGood_51
def F_L_check (p0 : Int32) (p1 : Int32) (p2 : Int32) : Int32 := (((((7 * p0) + (13 * p1)) + (29 * p2)) - (((7 * p0) + (13 * p1)) + (29 * p2)) / 250 * 250) + 1)
set_option maxHeartbeats 4000000 in
set_option maxRecDepth 100000 in
theorem c_L_check (l : Launch) (D : va_G) (p0 : Int32) (p1 : Int32) (p2 : Int32) : Met l yL_check wsL_check ({ frames := 0, cells := 0, slots := 0, locals := 0 }) (va_Pc [.int p0, .int p1, .int p2] (bx_ro D [] (wNil))) (vp_Si (fun r => r = F_L_check p0 p1 p2)) 0 0 (fun _ => False) := by
  refine Met.ofW (cc := cL_check) (maxL := 3) (ret := (some .int)) (by decide) rfl ?_
  intro p e s m args below meth c s₁ B hml hv
  obtain ⟨rfl, hP, hK, hG⟩ := hv
  have hx := B.exec
  have hb := B.bytes
  have hr := B.returns
  have hts := atoms_spec (ws := wsL_check) B.pre
  have hown : s.vm.findClass RL = some m.cls := findClass_of_methodNamed B.named
  have hlocks := B.notSynchronized
  have hP : va_P D vwCl [] s.heap := hP
  have hl := lv_entry ([.int p0, .int p1, .int p2]) (n := 3) (Nat.le_of_ble_eq_true rfl)
  rw [lg_entry_eq]
  generalize (lg_sl ([.int p0, .int p1, .int p2]) ++ List.replicate (3 - (lg_sl ([.int p0, .int p1, .int p2])).length) Slot.unset).toArray = ls at hl ⊢
  have hl : lv_has ls 3 [(0, .int p0), (1, .int p1), (2, .int p2)] := hl
  refine lv_bipush (v := 7) hx hb dL_check_0 (by decide) ?_
  refine lv_iload_n hx hb dL_check_2 rfl (lv_at hl 0 rfl) ?_
  refine lv_imul hx hb dL_check_3 ?_
  refine lv_bipush (v := 13) hx hb dL_check_4 (by decide) ?_
  refine lv_iload_n hx hb dL_check_6 rfl (lv_at hl 1 rfl) ?_
  refine lv_imul hx hb dL_check_7 ?_
  refine lv_iadd hx hb dL_check_8 ?_
  refine lv_bipush (v := 29) hx hb dL_check_9 (by decide) ?_
  refine lv_iload_n hx hb dL_check_11 rfl (lv_at hl 2 rfl) ?_
  refine lv_imul hx hb dL_check_12 ?_
  refine lv_iadd hx hb dL_check_13 ?_
  refine lv_sipush (v := 250) hx hb dL_check_14 (by decide) ?_
  refine lv_irem hx hb dL_check_17 (by decide) ?_
  refine lv_iconst (v := 1) hx hb dL_check_18 (by decide) ?_
  refine lv_iadd hx hb dL_check_19 ?_
  exact W.iret (v := (((((7 * p0) + (13 * p1)) + (29 * p2)) - (((7 * p0) + (13 * p1)) + (29 * p2)) / 250 * 250) + 1)) hx hb hr (fun t ht hW => ⟨(((((7 * p0) + (13 * p1)) + (29 * p2)) - (((7 * p0) + (13 * p1)) + (29 * p2)) / 250 * 250) + 1), rfl, rfl, ht⟩) (fun _ h => nomatch h) dL_check_20
def F_L_isValid (rr : Nat → Int32) (p0 : Int32) : Int32 := (if (rd rr (4 * p0)) = (F_L_check (rd rr ((4 * p0) + 1)) (rd rr ((4 * p0) + 2)) (rd rr ((4 * p0) + 3))) then 1 else 0)
set_option maxHeartbeats 4000000 in
set_option maxRecDepth 100000 in
theorem c_L_isValid (l : Launch) (D : va_G) (cA : ClassId) (ra : Nat) (rr : Nat → Int32) (p0 : Int32) (hs : sl p0) : Met l yL_isValid wsL_isValid ({ frames := 1, cells := 0, slots := 0, locals := 22 }) (va_Pc [.ref ra, .int p0] (bx_ro D [(cA, .int)] (wR cA ra rr))) (vp_Si (fun r => r = F_L_isValid rr p0 ∧ (r = 0 ∨ r = 1))) 0 0 (fun _ => False) := by
  refine Met.ofW (cc := cL_isValid) (maxL := 2) (ret := (some .boolean)) (by decide) rfl ?_
  intro p e s m args below meth c s₁ B hml hv
  obtain ⟨rfl, hP, hK, hG⟩ := hv
  have hx := B.exec
  have hb := B.bytes
  have hr := B.returns
  have hts := atoms_spec (ws := wsL_isValid) B.pre
  have hown : s.vm.findClass RL = some m.cls := findClass_of_methodNamed B.named
  have hlocks := B.notSynchronized
  have hP : va_P D vwCl [(ra, .inl (cA, 8, .inl rr))] s.heap := hP
  have hl := lv_entry ([.ref ra, .int p0]) (n := 2) (Nat.le_of_ble_eq_true rfl)
  rw [lg_entry_eq]
  generalize (lg_sl ([.ref ra, .int p0]) ++ List.replicate (2 - (lg_sl ([.ref ra, .int p0])).length) Slot.unset).toArray = ls at hl ⊢
  have hl : lv_has ls 2 [(0, .ref ra), (1, .int p0)] := hl
  refine lv_aload_n hx hb dL_isValid_0 rfl (lv_at hl 0 rfl) ?_
  refine lv_iconst (v := 4) hx hb dL_isValid_1 (by decide) ?_
  refine lv_iload_n hx hb dL_isValid_2 rfl (lv_at hl 1 rfl) ?_
  refine lv_imul hx hb dL_isValid_3 ?_
  refine bx_ald (D := D) hx hb hK hP 0 0 rfl rfl (iy0 hs) dL_isValid_4 ?_
  refine lv_aload_n hx hb dL_isValid_5 rfl (lv_at hl 0 rfl) ?_
  refine lv_iconst (v := 4) hx hb dL_isValid_6 (by decide) ?_
  refine lv_iload_n hx hb dL_isValid_7 rfl (lv_at hl 1 rfl) ?_
  refine lv_imul hx hb dL_isValid_8 ?_
  refine lv_iconst (v := 1) hx hb dL_isValid_9 (by decide) ?_
  refine lv_iadd hx hb dL_isValid_10 ?_
  refine bx_ald (D := D) hx hb hK hP 0 0 rfl rfl (iyk hs y4_1) dL_isValid_11 ?_
  refine lv_aload_n hx hb dL_isValid_12 rfl (lv_at hl 0 rfl) ?_
  refine lv_iconst (v := 4) hx hb dL_isValid_13 (by decide) ?_
  refine lv_iload_n hx hb dL_isValid_14 rfl (lv_at hl 1 rfl) ?_
  refine lv_imul hx hb dL_isValid_15 ?_
  refine lv_iconst (v := 2) hx hb dL_isValid_16 (by decide) ?_
  refine lv_iadd hx hb dL_isValid_17 ?_
  refine bx_ald (D := D) hx hb hK hP 0 0 rfl rfl (iyk hs y4_2) dL_isValid_18 ?_
  refine lv_aload_n hx hb dL_isValid_19 rfl (lv_at hl 0 rfl) ?_
  refine lv_iconst (v := 4) hx hb dL_isValid_20 (by decide) ?_
  refine lv_iload_n hx hb dL_isValid_21 rfl (lv_at hl 1 rfl) ?_
  refine lv_imul hx hb dL_isValid_22 ?_
  refine lv_iconst (v := 3) hx hb dL_isValid_23 (by decide) ?_
  refine lv_iadd hx hb dL_isValid_24 ?_
  refine bx_ald (D := D) hx hb hK hP 0 0 rfl rfl (iyk hs y4_3) dL_isValid_25 ?_
  refine bx_ri (va_runS (As := [.int (rd rr ((4 * p0) + 1)), .int (rd rr ((4 * p0) + 2)), .int (rd rr ((4 * p0) + 3))]) (rest := [.int (rd rr (4 * p0))]) ⟨hx, hb, hml, hown, hts⟩ (c_L_check l D (rd rr ((4 * p0) + 1)) (rd rr ((4 * p0) + 2)) (rd rr ((4 * p0) + 3))) (va_cwS 3 hts gL_isValid_L_check rfl rfl rfl (by decide +kernel) ⟨Nat.le_of_ble_eq_true rfl, Nat.le_of_ble_eq_true rfl⟩) (bx_psr (hK.sub (tys' := []) [] rfl) hG (hP.sub (ws' := []) [] rfl)) rfl rfl hl.1 rfl (lv_room (Nat.le_of_ble_eq_true rfl)) dL_isValid_26 ⟨Nat.zero_le _, Nat.zero_le _⟩) (fun r_1 h_2 => ?_)
  have h_2 := h_2.symm
  subst h_2
  refine lv_icmp_ne (tgt := 36) hx hb dL_isValid_29 (by decide) (fun c_3 => ?_) (fun c_3 => ?_)
  · skip
    refine lv_iconst (v := 0) hx hb dL_isValid_36 (by decide) ?_
    exact W.zret (v := 0) hx hb hr rfl (fun t ht hW => ⟨0, rfl, ⟨(by simp only [F_L_isValid, if_neg c_3]), (by decide)⟩, ht⟩) (fun _ h => nomatch h) dL_isValid_37
  · skip
    refine lv_iconst (v := 1) hx hb dL_isValid_32 (by decide) ?_
    refine lv_goto (tgt := 37) hx hb dL_isValid_33 (by decide) ?_
    exact W.zret (v := 1) hx hb hr rfl (fun t ht hW => ⟨1, rfl, ⟨(by simp only [F_L_isValid, if_pos c_3]), (by decide)⟩, ht⟩) (fun _ h => nomatch h) dL_isValid_37
def F_L_best (rr : Nat → Int32) : Int32 := (if (F_L_isValid rr 0) = 0 then 1 else (if (F_L_isValid rr 1) = 0 then 0 else (if (rd rr 1) ≤ (rd rr 5) then 1 else 0)))
set_option maxHeartbeats 4000000 in
set_option maxRecDepth 100000 in
theorem c_L_best (l : Launch) (D : va_G) (cA : ClassId) (ra : Nat) (rr : Nat → Int32) : Met l yL_best wsL_best ({ frames := 2, cells := 0, slots := 0, locals := 43 }) (va_Pc [.ref ra] (bx_ro D [(cA, .int)] (wR cA ra rr))) (vp_Si (fun r => r = F_L_best rr)) 0 0 (fun _ => False) := by
  refine Met.ofW (cc := cL_best) (maxL := 1) (ret := (some .int)) (by decide) rfl ?_
  intro p e s m args below meth c s₁ B hml hv
  obtain ⟨rfl, hP, hK, hG⟩ := hv
  have hx := B.exec
  have hb := B.bytes
  have hr := B.returns
  have hts := atoms_spec (ws := wsL_best) B.pre
  have hown : s.vm.findClass RL = some m.cls := findClass_of_methodNamed B.named
  have hlocks := B.notSynchronized
  have hP : va_P D vwCl [(ra, .inl (cA, 8, .inl rr))] s.heap := hP
  have hl := lv_entry ([.ref ra]) (n := 1) (Nat.le_of_ble_eq_true rfl)
  rw [lg_entry_eq]
  generalize (lg_sl ([.ref ra]) ++ List.replicate (1 - (lg_sl ([.ref ra])).length) Slot.unset).toArray = ls at hl ⊢
  have hl : lv_has ls 1 [(0, .ref ra)] := hl
  refine lv_aload_n hx hb dL_best_0 rfl (lv_at hl 0 rfl) ?_
  refine lv_iconst (v := 0) hx hb dL_best_1 (by decide) ?_
  refine bx_ri (va_runS (As := [.ref ra, .int 0]) (rest := []) ⟨hx, hb, hml, hown, hts⟩ (c_L_isValid l D cA ra rr 0 (Or.inl rfl)) (va_cwS 2 hts gL_best_L_isValid rfl rfl rfl (by decide +kernel) ⟨Nat.le_of_ble_eq_true rfl, Nat.le_of_ble_eq_true rfl⟩) (bx_psr hK hG (hP.sub (ws' := [(ra, .inl (cA, 8, .inl rr))]) [0] rfl)) rfl rfl hl.1 rfl (lv_room (Nat.le_of_ble_eq_true rfl)) dL_best_2 ⟨Nat.zero_le _, Nat.zero_le _⟩) (fun r_1 h_2 => ?_)
  obtain ⟨h_2, b_3⟩ := h_2
  have h_2 := h_2.symm
  subst h_2
  refine lv_if_ne (tgt := 12) hx hb dL_best_5 (by decide) (fun c_4 => ?_) (fun c_4 => ?_)
  · skip
    refine lv_aload_n hx hb dL_best_12 rfl (lv_at hl 0 rfl) ?_
    refine lv_iconst (v := 1) hx hb dL_best_13 (by decide) ?_
    refine bx_ri (va_runS (As := [.ref ra, .int 1]) (rest := []) ⟨hx, hb, hml, hown, hts⟩ (c_L_isValid l D cA ra rr 1 (Or.inr rfl)) (va_cwS 2 hts gL_best_L_isValid rfl rfl rfl (by decide +kernel) ⟨Nat.le_of_ble_eq_true rfl, Nat.le_of_ble_eq_true rfl⟩) (bx_psr hK hG (hP.sub (ws' := [(ra, .inl (cA, 8, .inl rr))]) [0] rfl)) rfl rfl hl.1 rfl (lv_room (Nat.le_of_ble_eq_true rfl)) dL_best_14 ⟨Nat.zero_le _, Nat.zero_le _⟩) (fun r_5 h_6 => ?_)
    obtain ⟨h_6, b_7⟩ := h_6
    have h_6 := h_6.symm
    subst h_6
    refine lv_if_ne (tgt := 24) hx hb dL_best_17 (by decide) (fun c_8 => ?_) (fun c_8 => ?_)
    · skip
      refine lv_aload_n hx hb dL_best_24 rfl (lv_at hl 0 rfl) ?_
      refine lv_iconst (v := 1) hx hb dL_best_25 (by decide) ?_
      refine bx_ald (D := D) hx hb hK hP 0 0 rfl rfl (vp_in_iff.mpr (by decide)) dL_best_26 ?_
      refine lv_aload_n hx hb dL_best_27 rfl (lv_at hl 0 rfl) ?_
      refine lv_iconst (v := 5) hx hb dL_best_28 (by decide) ?_
      refine bx_ald (D := D) hx hb hK hP 0 0 rfl rfl (vp_in_iff.mpr (by decide)) dL_best_29 ?_
      refine lv_icmp_le (tgt := 37) hx hb dL_best_30 (by decide) (fun c_9 => ?_) (fun c_9 => ?_)
      · skip
        refine lv_iconst (v := 1) hx hb dL_best_37 (by decide) ?_
        exact W.iret (v := 1) hx hb hr (fun t ht hW => ⟨1, rfl, (by simp only [F_L_best, if_neg c_4, if_neg c_8, if_pos c_9]), ht⟩) (fun _ h => nomatch h) dL_best_38
      · skip
        refine lv_iconst (v := 0) hx hb dL_best_33 (by decide) ?_
        refine lv_goto (tgt := 38) hx hb dL_best_34 (by decide) ?_
        exact W.iret (v := 0) hx hb hr (fun t ht hW => ⟨0, rfl, (by simp only [F_L_best, if_neg c_4, if_neg c_8, if_neg c_9]), ht⟩) (fun _ h => nomatch h) dL_best_38
    · skip
      refine lv_iconst (v := 0) hx hb dL_best_20 (by decide) ?_
      refine lv_goto (tgt := 38) hx hb dL_best_21 (by decide) ?_
      exact W.iret (v := 0) hx hb hr (fun t ht hW => ⟨0, rfl, (by simp only [F_L_best, if_neg c_4, if_pos c_8]), ht⟩) (fun _ h => nomatch h) dL_best_38
  · skip
    refine lv_iconst (v := 1) hx hb dL_best_8 (by decide) ?_
    refine lv_goto (tgt := 38) hx hb dL_best_9 (by decide) ?_
    exact W.iret (v := 1) hx hb hr (fun t ht hW => ⟨1, rfl, (by simp only [F_L_best, if_pos c_4]), ht⟩) (fun _ h => nomatch h) dL_best_38
theorem best_sl (rr : Nat → Int32) : sl (F_L_best rr) := by
  unfold F_L_best
  repeat' split
  all_goals first | exact Or.inl rfl | exact Or.inr rfl
theorem il_a {ll : Nat → Int32} {n0 : Nat} (hn0 : n0 ≤ 14) (hl0 : rd ll 0 = nI n0) : rd (wr ll 0 (rd ll 0 + 1)) 0 = nI (n0 + 1) := by
  rw [rd_wr_eq rfl, hl0]
  exact nI_1 n0
theorem il_b {ll : Nat → Int32} {n0 : Nat} (hn0 : n0 ≤ 14) (hl0 : rd ll 0 = nI n0) (v : Int32) : rd (wr (wr ll 0 (rd ll 0 + 1)) (2 * rd (wr ll 0 (rd ll 0 + 1)) 0) v) 0 = nI (n0 + 1) := by
  have e := il_a hn0 hl0
  rw [rd_wr_ne (by rw [e, show (2 : Int32) = nI 2 from rfl, pk_mul, nI_clamp (by omega)]; show ¬ 0 = _; omega), e]
theorem il_0 {ll : Nat → Int32} {n0 : Nat} (hn0 : n0 ≤ 14) (hl0 : rd ll 0 = nI n0) : vp_in (2 * rd (wr ll 0 (rd ll 0 + 1)) 0) 32 := by
  rw [il_a hn0 hl0, show (2 : Int32) = nI 2 from rfl, pk_mul]
  exact vp_in_nI (by omega) (by decide)
theorem il_1 {ll : Nat → Int32} {n0 : Nat} (hn0 : n0 ≤ 14) (hl0 : rd ll 0 = nI n0) {v : Int32} : vp_in (2 * rd (wr (wr ll 0 (rd ll 0 + 1)) (2 * rd (wr ll 0 (rd ll 0 + 1)) 0) v) 0 + 1) 32 := by
  rw [il_b hn0 hl0, show (2 : Int32) = nI 2 from rfl, pk_mul, nI_1]
  exact vp_in_nI (by omega) (by decide)
def F_L_plan (ll : Nat → Int32) (p0 : Int32) (p1 : Int32) : (Nat → Int32) := (wr (wr (wr ll 0 ((rd ll 0) + 1)) (2 * (rd (wr ll 0 ((rd ll 0) + 1)) 0)) p0) ((2 * (rd (wr (wr ll 0 ((rd ll 0) + 1)) (2 * (rd (wr ll 0 ((rd ll 0) + 1)) 0)) p0) 0)) + 1) p1)
set_option maxHeartbeats 4000000 in
set_option maxRecDepth 100000 in
theorem c_L_plan (l : Launch) (D : va_G) (cA : ClassId) (la : Nat) (sz : Nat) (ll : Nat → Int32) (p0 : Int32) (p1 : Int32) (n0 : Nat) (hn0 : n0 ≤ 14) (hl0 : rd ll 0 = nI n0) : Met l yL_plan wsL_plan ({ frames := 0, cells := 0, slots := 0, locals := 0 }) (va_Pc [.ref la, .int p0, .int p1] (bx_pre D [(cA, .int)] (wLa cA la ll) sz)) (va_Qv (fun u => u = F_L_plan ll p0 p1) (fun u t => bx_at D (wLa cA la u) (va_A (wLa cA la ll) sz) t) (va_A (wLa cA la ll) sz)) 0 0 (va_A (wLa cA la ll) sz) := by
  refine Met.ofW (cc := cL_plan) (maxL := 3) (ret := none) (by decide) rfl ?_
  intro p e s m args below meth c s₁ B hml hv
  obtain ⟨rfl, hsz, hP, hK, hD0, hG⟩ := hv
  have hx := B.exec
  have hb := B.bytes
  have hr := B.returns
  have hts := atoms_spec (ws := wsL_plan) B.pre
  have hown : s.vm.findClass RL = some m.cls := findClass_of_methodNamed B.named
  have hlocks := B.notSynchronized
  subst hsz
  have hD := hD0.self (sz := s.heap.size)
  skip
  generalize hAe : va_A (wLa cA la ll) s.heap.size = A at hD ⊢
  have hA : ∀ q : Nat, s.heap.size ≤ q → A q := fun q h => by rw [← hAe]; exact Or.inr h
  have hS : va_S A s.heap s.heap [] := va_S.rf
  have hD : va_D A [(la, .inl (cA, 32, .inl ll))] := hD
  have hP : va_P D vwCl [(la, .inl (cA, 32, .inl ll))] s.heap := hP
  have hl := lv_entry ([.ref la, .int p0, .int p1]) (n := 3) (Nat.le_of_ble_eq_true rfl)
  rw [lg_entry_eq]
  generalize (lg_sl ([.ref la, .int p0, .int p1]) ++ List.replicate (3 - (lg_sl ([.ref la, .int p0, .int p1])).length) Slot.unset).toArray = ls at hl ⊢
  have hl : lv_has ls 3 [(0, .ref la), (1, .int p0), (2, .int p1)] := hl
  refine lv_aload_n hx hb dL_plan_0 rfl (lv_at hl 0 rfl) ?_
  refine lv_iconst (v := 0) hx hb dL_plan_1 (by decide) ?_
  refine lv_dup2_11 hx hb dL_plan_2 rfl rfl ?_
  refine bx_ald (D := D) hx hb hK hP 0 0 rfl rfl (vp_in_iff.mpr (by decide)) dL_plan_3 ?_
  refine lv_iconst (v := 1) hx hb dL_plan_4 (by decide) ?_
  refine lv_iadd hx hb dL_plan_5 ?_
  refine bx_ast (D := D) hx hb hK hP hD hS 0 0 rfl rfl (vp_in_iff.mpr (by decide)) dL_plan_6 (fun H locs hP hD hS => ?_)
  have hP : va_P D vwCl [(la, .inl (cA, 32, .inl (wr ll 0 ((rd ll 0) + 1))))] H := hP
  have hD : va_D A [(la, .inl (cA, 32, .inl (wr ll 0 ((rd ll 0) + 1))))] := hD
  refine lv_aload_n hx hb dL_plan_7 rfl (lv_at hl 0 rfl) ?_
  refine lv_iconst (v := 2) hx hb dL_plan_8 (by decide) ?_
  refine lv_aload_n hx hb dL_plan_9 rfl (lv_at hl 0 rfl) ?_
  refine lv_iconst (v := 0) hx hb dL_plan_10 (by decide) ?_
  refine bx_ald (D := D) hx hb hK hP 0 0 rfl rfl (vp_in_iff.mpr (by decide)) dL_plan_11 ?_
  refine lv_imul hx hb dL_plan_12 ?_
  refine lv_iload_n hx hb dL_plan_13 rfl (lv_at hl 1 rfl) ?_
  refine bx_ast (D := D) hx hb hK hP hD hS 0 0 rfl rfl (il_0 hn0 hl0) dL_plan_14 (fun H locs hP hD hS => ?_)
  have hP : va_P D vwCl [(la, .inl (cA, 32, .inl (wr (wr ll 0 ((rd ll 0) + 1)) (2 * (rd (wr ll 0 ((rd ll 0) + 1)) 0)) p0)))] H := hP
  have hD : va_D A [(la, .inl (cA, 32, .inl (wr (wr ll 0 ((rd ll 0) + 1)) (2 * (rd (wr ll 0 ((rd ll 0) + 1)) 0)) p0)))] := hD
  refine lv_aload_n hx hb dL_plan_15 rfl (lv_at hl 0 rfl) ?_
  refine lv_iconst (v := 2) hx hb dL_plan_16 (by decide) ?_
  refine lv_aload_n hx hb dL_plan_17 rfl (lv_at hl 0 rfl) ?_
  refine lv_iconst (v := 0) hx hb dL_plan_18 (by decide) ?_
  refine bx_ald (D := D) hx hb hK hP 0 0 rfl rfl (vp_in_iff.mpr (by decide)) dL_plan_19 ?_
  refine lv_imul hx hb dL_plan_20 ?_
  refine lv_iconst (v := 1) hx hb dL_plan_21 (by decide) ?_
  refine lv_iadd hx hb dL_plan_22 ?_
  refine lv_iload_n hx hb dL_plan_23 rfl (lv_at hl 2 rfl) ?_
  refine bx_ast (D := D) hx hb hK hP hD hS 0 0 rfl rfl (il_1 hn0 hl0) dL_plan_24 (fun H locs hP hD hS => ?_)
  have hP : va_P D vwCl [(la, .inl (cA, 32, .inl (wr (wr (wr ll 0 ((rd ll 0) + 1)) (2 * (rd (wr ll 0 ((rd ll 0) + 1)) 0)) p0) ((2 * (rd (wr (wr ll 0 ((rd ll 0) + 1)) (2 * (rd (wr ll 0 ((rd ll 0) + 1)) 0)) p0) 0)) + 1) p1)))] H := hP
  have hD : va_D A [(la, .inl (cA, 32, .inl (wr (wr (wr ll 0 ((rd ll 0) + 1)) (2 * (rd (wr ll 0 ((rd ll 0) + 1)) 0)) p0) ((2 * (rd (wr (wr ll 0 ((rd ll 0) + 1)) (2 * (rd (wr ll 0 ((rd ll 0) + 1)) 0)) p0) 0)) + 1) p1)))] := hD
  exact W.vret hx hb hr (fun t ht hW => ⟨⟨(wr (wr (wr ll 0 ((rd ll 0) + 1)) (2 * (rd (wr ll 0 ((rd ll 0) + 1)) 0)) p0) ((2 * (rd (wr (wr ll 0 ((rd ll 0) + 1)) (2 * (rd (wr ll 0 ((rd ll 0) + 1)) 0)) p0) 0)) + 1) p1), rfl, rfl, ⟨by rw [ht]; exact hP, hD⟩⟩, hS.F ht⟩) hS.2.2 dL_plan_25
theorem plan_0 {ll l2 : Nat → Int32} {n0 : Nat} {a v : Int32} (hn0 : n0 ≤ 14) (hl0 : rd ll 0 = nI n0) (h : l2 = F_L_plan ll a v) : rd l2 0 = nI (n0 + 1) := by
  subst h
  unfold F_L_plan
  rw [rd_wr_ne (by rw [il_b hn0 hl0, show (2 : Int32) = nI 2 from rfl, pk_mul, nI_1, nI_clamp (by omega)]; show ¬ 0 = _; omega), il_b hn0 hl0]
def F_L_planRecord (ll : Nat → Int32) (rr : Nat → Int32) (p0 : Int32) (p1 : Int32) : (Nat → Int32) := (let u_6 := (F_L_plan ll (64 + (4 * (1 - (F_L_best rr)))) 0); (let u_10 := (F_L_plan u_6 ((64 + (4 * (1 - (F_L_best rr)))) + 1) ((rd rr ((4 * (F_L_best rr)) + 1)) + 1)); (let u_14 := (F_L_plan u_10 ((64 + (4 * (1 - (F_L_best rr)))) + 2) p0); (let u_18 := (F_L_plan u_14 ((64 + (4 * (1 - (F_L_best rr)))) + 3) p1); (let u_24 := (F_L_plan u_18 (64 + (4 * (1 - (F_L_best rr)))) (F_L_check ((rd rr ((4 * (F_L_best rr)) + 1)) + 1) p0 p1)); u_24)))))
set_option maxHeartbeats 4000000 in
set_option maxRecDepth 100000 in
theorem c_L_planRecord (l : Launch) (D : va_G) (cA : ClassId) (la ra : Nat) (sz : Nat) (ll : Nat → Int32) (rr : Nat → Int32) (p0 : Int32) (p1 : Int32) (n0 : Nat) (hn0 : n0 ≤ 10) (hl0 : rd ll 0 = nI n0) : Met l yL_planRecord wsL_planRecord ({ frames := 3, cells := 0, slots := 0, locals := 63 }) (va_Pc [.ref la, .ref ra, .int p0, .int p1] (bx_pre D [(cA, .int)] (wLR cA la ra ll rr) sz)) (va_Qv (fun u => u = F_L_planRecord ll rr p0 p1) (fun u t => bx_at D (wLR cA la ra u rr) (va_A (wLR cA la ra ll rr) sz) t) (va_A (wLR cA la ra ll rr) sz)) 0 0 (va_A (wLR cA la ra ll rr) sz) := by
  refine Met.ofW (cc := cL_planRecord) (maxL := 6) (ret := none) (by decide) rfl ?_
  intro p e s m args below meth c s₁ B hml hv
  obtain ⟨rfl, hsz, hP, hK, hD0, hG⟩ := hv
  have hx := B.exec
  have hb := B.bytes
  have hr := B.returns
  have hts := atoms_spec (ws := wsL_planRecord) B.pre
  have hown : s.vm.findClass RL = some m.cls := findClass_of_methodNamed B.named
  have hlocks := B.notSynchronized
  subst hsz
  have hD := hD0.self (sz := s.heap.size)
  skip
  generalize hAe : va_A (wLR cA la ra ll rr) s.heap.size = A at hD ⊢
  have hA : ∀ q : Nat, s.heap.size ≤ q → A q := fun q h => by rw [← hAe]; exact Or.inr h
  have hS : va_S A s.heap s.heap [] := va_S.rf
  have hD : va_D A [(la, .inl (cA, 32, .inl ll)), (ra, .inl (cA, 8, .inl rr))] := hD
  have hP : va_P D vwCl [(la, .inl (cA, 32, .inl ll)), (ra, .inl (cA, 8, .inl rr))] s.heap := hP
  have hl := lv_entry ([.ref la, .ref ra, .int p0, .int p1]) (n := 6) (Nat.le_of_ble_eq_true rfl)
  rw [lg_entry_eq]
  generalize (lg_sl ([.ref la, .ref ra, .int p0, .int p1]) ++ List.replicate (6 - (lg_sl ([.ref la, .ref ra, .int p0, .int p1])).length) Slot.unset).toArray = ls at hl ⊢
  have hl : lv_has ls 6 [(0, .ref la), (1, .ref ra), (2, .int p0), (3, .int p1)] := hl
  refine lv_bipush (v := 64) hx hb dL_planRecord_0 (by decide) ?_
  refine lv_iconst (v := 4) hx hb dL_planRecord_2 (by decide) ?_
  refine lv_iconst (v := 1) hx hb dL_planRecord_3 (by decide) ?_
  refine lv_aload_n hx hb dL_planRecord_4 rfl (lv_at hl 1 rfl) ?_
  refine bx_ri (va_runS (As := [.ref ra]) (rest := [.int 1, .int 4, .int 64]) ⟨hx, hb, hml, hown, hts⟩ (c_L_best l D cA ra rr) (va_cwS 1 hts gL_planRecord_L_best rfl rfl rfl (by decide +kernel) ⟨Nat.le_of_ble_eq_true rfl, Nat.le_of_ble_eq_true rfl⟩) (bx_psr hK hG (hP.sub (ws' := [(ra, .inl (cA, 8, .inl rr))]) [1] rfl)) rfl rfl hl.1 rfl (lv_room (Nat.le_of_ble_eq_true rfl)) dL_planRecord_5 ⟨Nat.zero_le _, Nat.zero_le _⟩) (fun r_1 h_2 => ?_)
  have h_2 := h_2.symm
  subst h_2
  refine lv_isub hx hb dL_planRecord_8 ?_
  refine lv_imul hx hb dL_planRecord_9 ?_
  refine lv_iadd hx hb dL_planRecord_10 ?_
  refine lv_istore (lv' := [(4, .int (64 + (4 * (1 - (F_L_best rr))))), (0, .ref la), (1, .ref ra), (2, .int p0), (3, .int p1)]) hx hb dL_planRecord_11 hl (by decide) rfl (fun ls hl => ?_)
  refine lv_aload_n hx hb dL_planRecord_13 rfl (lv_at hl 2 rfl) ?_
  refine lv_iconst (v := 4) hx hb dL_planRecord_14 (by decide) ?_
  refine lv_aload_n hx hb dL_planRecord_15 rfl (lv_at hl 2 rfl) ?_
  refine bx_ri (va_runS (As := [.ref ra]) (rest := [.int 4, .ref ra]) ⟨hx, hb, hml, hown, hts⟩ (c_L_best l D cA ra rr) (va_cwS 1 hts gL_planRecord_L_best rfl rfl rfl (by decide +kernel) ⟨Nat.le_of_ble_eq_true rfl, Nat.le_of_ble_eq_true rfl⟩) (bx_psr hK hG (hP.sub (ws' := [(ra, .inl (cA, 8, .inl rr))]) [1] rfl)) rfl rfl hl.1 rfl (lv_room (Nat.le_of_ble_eq_true rfl)) dL_planRecord_16 ⟨Nat.zero_le _, Nat.zero_le _⟩) (fun r_3 h_4 => ?_)
  have h_4 := h_4.symm
  subst h_4
  refine lv_imul hx hb dL_planRecord_19 ?_
  refine lv_iconst (v := 1) hx hb dL_planRecord_20 (by decide) ?_
  refine lv_iadd hx hb dL_planRecord_21 ?_
  refine bx_ald (D := D) hx hb hK hP 1 0 rfl rfl (iyk (best_sl _) y4_1) dL_planRecord_22 ?_
  refine lv_iconst (v := 1) hx hb dL_planRecord_23 (by decide) ?_
  refine lv_iadd hx hb dL_planRecord_24 ?_
  refine lv_istore (lv' := [(5, .int ((rd rr ((4 * (F_L_best rr)) + 1)) + 1)), (4, .int (64 + (4 * (1 - (F_L_best rr))))), (0, .ref la), (1, .ref ra), (2, .int p0), (3, .int p1)]) hx hb dL_planRecord_25 hl (by decide) rfl (fun ls hl => ?_)
  refine lv_aload_n hx hb dL_planRecord_27 rfl (lv_at hl 2 rfl) ?_
  refine lv_iload hx hb dL_planRecord_28 (lv_at hl 1 rfl) ?_
  refine lv_iconst (v := 0) hx hb dL_planRecord_30 (by decide) ?_
  refine bx_wv (wc := [(la, .inl (cA, 32, .inl ll))]) (wr := [(ra, .inl (cA, 8, .inl rr))]) (wf := fun (u : (Nat → Int32)) => [(la, .inl (cA, 32, .inl u))]) (wn := fun (u : (Nat → Int32)) => [(la, .inl (cA, 32, .inl u)), (ra, .inl (cA, 8, .inl rr))]) hP hD hS hA [0] [1] [1, 0] rfl rfl (by decide) (by decide) (fun u => rfl) (by decide) (va_runS (As := [.ref la, .int (64 + (4 * (1 - (F_L_best rr)))), .int 0]) (rest := []) ⟨hx, hb, hml, hown, hts⟩ (c_L_plan l D cA la s.heap.size ll (64 + (4 * (1 - (F_L_best rr)))) 0 n0 (by omega) hl0) (va_cwS 3 hts gL_planRecord_L_plan rfl rfl rfl (by decide +kernel) ⟨Nat.le_of_ble_eq_true rfl, Nat.le_of_ble_eq_true rfl⟩) (bx_ps hK hG (hP.sub (ws' := [(la, .inl (cA, 32, .inl ll))]) [0] rfl) (hD.sub (ws' := [(la, .inl (cA, 32, .inl ll))]) [0] (by decide) rfl)) rfl rfl hl.1 rfl (lv_room (Nat.le_of_ble_eq_true rfl)) dL_planRecord_31 ⟨Nat.zero_le _, Nat.zero_le _⟩) (fun  u_6 H locs h_5 hP hD hS => ?_)
  have hP : va_P D vwCl [(la, .inl (cA, 32, .inl u_6)), (ra, .inl (cA, 8, .inl rr))] H := hP
  have hD : va_D A [(la, .inl (cA, 32, .inl u_6)), (ra, .inl (cA, 8, .inl rr))] := hD
  refine lv_aload_n hx hb dL_planRecord_34 rfl (lv_at hl 2 rfl) ?_
  refine lv_iload hx hb dL_planRecord_35 (lv_at hl 1 rfl) ?_
  refine lv_iconst (v := 1) hx hb dL_planRecord_37 (by decide) ?_
  refine lv_iadd hx hb dL_planRecord_38 ?_
  refine lv_iload hx hb dL_planRecord_39 (lv_at hl 0 rfl) ?_
  have pl_8 : rd u_6 0 = nI (n0 + 1) := plan_0 (by omega) hl0 h_5
  refine bx_wv (wc := [(la, .inl (cA, 32, .inl u_6))]) (wr := [(ra, .inl (cA, 8, .inl rr))]) (wf := fun (u : (Nat → Int32)) => [(la, .inl (cA, 32, .inl u))]) (wn := fun (u : (Nat → Int32)) => [(la, .inl (cA, 32, .inl u)), (ra, .inl (cA, 8, .inl rr))]) hP hD hS hA [0] [1] [1, 0] rfl rfl (by decide) (by decide) (fun u => rfl) (by decide) (va_runS (As := [.ref la, .int ((64 + (4 * (1 - (F_L_best rr)))) + 1), .int ((rd rr ((4 * (F_L_best rr)) + 1)) + 1)]) (rest := []) ⟨hx, hb, hml, hown, hts⟩ (c_L_plan l D cA la H.size u_6 ((64 + (4 * (1 - (F_L_best rr)))) + 1) ((rd rr ((4 * (F_L_best rr)) + 1)) + 1) (n0 + 1) (by omega) pl_8) (va_cwS 3 hts gL_planRecord_L_plan rfl rfl rfl (by decide +kernel) ⟨Nat.le_of_ble_eq_true rfl, Nat.le_of_ble_eq_true rfl⟩) (bx_ps hK hG (hP.sub (ws' := [(la, .inl (cA, 32, .inl u_6))]) [0] rfl) (hD.sub (ws' := [(la, .inl (cA, 32, .inl u_6))]) [0] (by decide) rfl)) rfl rfl hl.1 rfl (lv_room (Nat.le_of_ble_eq_true rfl)) dL_planRecord_41 ⟨Nat.zero_le _, Nat.zero_le _⟩) (fun  u_10 H locs h_9 hP hD hS => ?_)
  have hP : va_P D vwCl [(la, .inl (cA, 32, .inl u_10)), (ra, .inl (cA, 8, .inl rr))] H := hP
  have hD : va_D A [(la, .inl (cA, 32, .inl u_10)), (ra, .inl (cA, 8, .inl rr))] := hD
  refine lv_aload_n hx hb dL_planRecord_44 rfl (lv_at hl 2 rfl) ?_
  refine lv_iload hx hb dL_planRecord_45 (lv_at hl 1 rfl) ?_
  refine lv_iconst (v := 2) hx hb dL_planRecord_47 (by decide) ?_
  refine lv_iadd hx hb dL_planRecord_48 ?_
  refine lv_iload_n hx hb dL_planRecord_49 rfl (lv_at hl 4 rfl) ?_
  have pl_12 : rd u_10 0 = nI ((n0 + 1) + 1) := plan_0 (by omega) pl_8 h_9
  refine bx_wv (wc := [(la, .inl (cA, 32, .inl u_10))]) (wr := [(ra, .inl (cA, 8, .inl rr))]) (wf := fun (u : (Nat → Int32)) => [(la, .inl (cA, 32, .inl u))]) (wn := fun (u : (Nat → Int32)) => [(la, .inl (cA, 32, .inl u)), (ra, .inl (cA, 8, .inl rr))]) hP hD hS hA [0] [1] [1, 0] rfl rfl (by decide) (by decide) (fun u => rfl) (by decide) (va_runS (As := [.ref la, .int ((64 + (4 * (1 - (F_L_best rr)))) + 2), .int p0]) (rest := []) ⟨hx, hb, hml, hown, hts⟩ (c_L_plan l D cA la H.size u_10 ((64 + (4 * (1 - (F_L_best rr)))) + 2) p0 ((n0 + 1) + 1) (by omega) pl_12) (va_cwS 3 hts gL_planRecord_L_plan rfl rfl rfl (by decide +kernel) ⟨Nat.le_of_ble_eq_true rfl, Nat.le_of_ble_eq_true rfl⟩) (bx_ps hK hG (hP.sub (ws' := [(la, .inl (cA, 32, .inl u_10))]) [0] rfl) (hD.sub (ws' := [(la, .inl (cA, 32, .inl u_10))]) [0] (by decide) rfl)) rfl rfl hl.1 rfl (lv_room (Nat.le_of_ble_eq_true rfl)) dL_planRecord_50 ⟨Nat.zero_le _, Nat.zero_le _⟩) (fun  u_14 H locs h_13 hP hD hS => ?_)
  have hP : va_P D vwCl [(la, .inl (cA, 32, .inl u_14)), (ra, .inl (cA, 8, .inl rr))] H := hP
  have hD : va_D A [(la, .inl (cA, 32, .inl u_14)), (ra, .inl (cA, 8, .inl rr))] := hD
  refine lv_aload_n hx hb dL_planRecord_53 rfl (lv_at hl 2 rfl) ?_
  refine lv_iload hx hb dL_planRecord_54 (lv_at hl 1 rfl) ?_
  refine lv_iconst (v := 3) hx hb dL_planRecord_56 (by decide) ?_
  refine lv_iadd hx hb dL_planRecord_57 ?_
  refine lv_iload_n hx hb dL_planRecord_58 rfl (lv_at hl 5 rfl) ?_
  have pl_16 : rd u_14 0 = nI (((n0 + 1) + 1) + 1) := plan_0 (by omega) pl_12 h_13
  refine bx_wv (wc := [(la, .inl (cA, 32, .inl u_14))]) (wr := [(ra, .inl (cA, 8, .inl rr))]) (wf := fun (u : (Nat → Int32)) => [(la, .inl (cA, 32, .inl u))]) (wn := fun (u : (Nat → Int32)) => [(la, .inl (cA, 32, .inl u)), (ra, .inl (cA, 8, .inl rr))]) hP hD hS hA [0] [1] [1, 0] rfl rfl (by decide) (by decide) (fun u => rfl) (by decide) (va_runS (As := [.ref la, .int ((64 + (4 * (1 - (F_L_best rr)))) + 3), .int p1]) (rest := []) ⟨hx, hb, hml, hown, hts⟩ (c_L_plan l D cA la H.size u_14 ((64 + (4 * (1 - (F_L_best rr)))) + 3) p1 (((n0 + 1) + 1) + 1) (by omega) pl_16) (va_cwS 3 hts gL_planRecord_L_plan rfl rfl rfl (by decide +kernel) ⟨Nat.le_of_ble_eq_true rfl, Nat.le_of_ble_eq_true rfl⟩) (bx_ps hK hG (hP.sub (ws' := [(la, .inl (cA, 32, .inl u_14))]) [0] rfl) (hD.sub (ws' := [(la, .inl (cA, 32, .inl u_14))]) [0] (by decide) rfl)) rfl rfl hl.1 rfl (lv_room (Nat.le_of_ble_eq_true rfl)) dL_planRecord_59 ⟨Nat.zero_le _, Nat.zero_le _⟩) (fun  u_18 H locs h_17 hP hD hS => ?_)
  have hP : va_P D vwCl [(la, .inl (cA, 32, .inl u_18)), (ra, .inl (cA, 8, .inl rr))] H := hP
  have hD : va_D A [(la, .inl (cA, 32, .inl u_18)), (ra, .inl (cA, 8, .inl rr))] := hD
  refine lv_aload_n hx hb dL_planRecord_62 rfl (lv_at hl 2 rfl) ?_
  refine lv_iload hx hb dL_planRecord_63 (lv_at hl 1 rfl) ?_
  refine lv_iload hx hb dL_planRecord_65 (lv_at hl 0 rfl) ?_
  refine lv_iload_n hx hb dL_planRecord_67 rfl (lv_at hl 4 rfl) ?_
  refine lv_iload_n hx hb dL_planRecord_68 rfl (lv_at hl 5 rfl) ?_
  refine bx_ri (va_runS (As := [.int ((rd rr ((4 * (F_L_best rr)) + 1)) + 1), .int p0, .int p1]) (rest := [.int (64 + (4 * (1 - (F_L_best rr)))), .ref la]) ⟨hx, hb, hml, hown, hts⟩ (c_L_check l D ((rd rr ((4 * (F_L_best rr)) + 1)) + 1) p0 p1) (va_cwS 3 hts gL_planRecord_L_check rfl rfl rfl (by decide +kernel) ⟨Nat.le_of_ble_eq_true rfl, Nat.le_of_ble_eq_true rfl⟩) (bx_psr (hK.sub (tys' := []) [] rfl) hG (hP.sub (ws' := []) [] rfl)) rfl rfl hl.1 rfl (lv_room (Nat.le_of_ble_eq_true rfl)) dL_planRecord_69 ⟨Nat.zero_le _, Nat.zero_le _⟩) (fun r_20 h_21 => ?_)
  have h_21 := h_21.symm
  subst h_21
  have pl_22 : rd u_18 0 = nI ((((n0 + 1) + 1) + 1) + 1) := plan_0 (by omega) pl_16 h_17
  refine bx_wv (wc := [(la, .inl (cA, 32, .inl u_18))]) (wr := [(ra, .inl (cA, 8, .inl rr))]) (wf := fun (u : (Nat → Int32)) => [(la, .inl (cA, 32, .inl u))]) (wn := fun (u : (Nat → Int32)) => [(la, .inl (cA, 32, .inl u)), (ra, .inl (cA, 8, .inl rr))]) hP hD hS hA [0] [1] [1, 0] rfl rfl (by decide) (by decide) (fun u => rfl) (by decide) (va_runS (As := [.ref la, .int (64 + (4 * (1 - (F_L_best rr)))), .int (F_L_check ((rd rr ((4 * (F_L_best rr)) + 1)) + 1) p0 p1)]) (rest := []) ⟨hx, hb, hml, hown, hts⟩ (c_L_plan l D cA la H.size u_18 (64 + (4 * (1 - (F_L_best rr)))) (F_L_check ((rd rr ((4 * (F_L_best rr)) + 1)) + 1) p0 p1) ((((n0 + 1) + 1) + 1) + 1) (by omega) pl_22) (va_cwS 3 hts gL_planRecord_L_plan rfl rfl rfl (by decide +kernel) ⟨Nat.le_of_ble_eq_true rfl, Nat.le_of_ble_eq_true rfl⟩) (bx_ps hK hG (hP.sub (ws' := [(la, .inl (cA, 32, .inl u_18))]) [0] rfl) (hD.sub (ws' := [(la, .inl (cA, 32, .inl u_18))]) [0] (by decide) rfl)) rfl rfl hl.1 rfl (lv_room (Nat.le_of_ble_eq_true rfl)) dL_planRecord_72 ⟨Nat.zero_le _, Nat.zero_le _⟩) (fun  u_24 H locs h_23 hP hD hS => ?_)
  have hP : va_P D vwCl [(la, .inl (cA, 32, .inl u_24)), (ra, .inl (cA, 8, .inl rr))] H := hP
  have hD : va_D A [(la, .inl (cA, 32, .inl u_24)), (ra, .inl (cA, 8, .inl rr))] := hD
  exact W.vret hx hb hr (fun t ht hW => ⟨⟨u_24, rfl, (by simp only [F_L_planRecord, ← h_5, ← h_9, ← h_13, ← h_17, ← h_23]), ⟨by rw [ht]; exact hP, hD⟩⟩, hS.F ht⟩) hS.2.2 dL_planRecord_75
theorem planR_0 {ll l2 rr : Nat → Int32} {n0 : Nat} {a v : Int32} (hn0 : n0 ≤ 10) (hl0 : rd ll 0 = nI n0) (h : l2 = F_L_planRecord ll rr a v) : rd l2 0 = nI (n0 + 5) := by
  subst h
  unfold F_L_planRecord
  exact plan_0 (by omega) (plan_0 (by omega) (plan_0 (by omega) (plan_0 (by omega) (plan_0 (by omega) hl0 rfl) rfl) rfl) rfl) rfl
def F_L_isDue (rr : Nat → Int32) : Int32 := (if ((rd rr ((4 * (F_L_best rr)) + 2)) &&& 2) = 2 then 1 else 0)
set_option maxHeartbeats 4000000 in
set_option maxRecDepth 100000 in
theorem c_L_isDue (l : Launch) (D : va_G) (cA : ClassId) (ra : Nat) (rr : Nat → Int32) : Met l yL_isDue wsL_isDue ({ frames := 3, cells := 0, slots := 0, locals := 63 }) (va_Pc [.ref ra] (bx_ro D [(cA, .int)] (wR cA ra rr))) (vp_Si (fun r => r = F_L_isDue rr ∧ (r = 0 ∨ r = 1))) 0 0 (fun _ => False) := by
  refine Met.ofW (cc := cL_isDue) (maxL := 1) (ret := (some .boolean)) (by decide) rfl ?_
  intro p e s m args below meth c s₁ B hml hv
  obtain ⟨rfl, hP, hK, hG⟩ := hv
  have hx := B.exec
  have hb := B.bytes
  have hr := B.returns
  have hts := atoms_spec (ws := wsL_isDue) B.pre
  have hown : s.vm.findClass RL = some m.cls := findClass_of_methodNamed B.named
  have hlocks := B.notSynchronized
  have hP : va_P D vwCl [(ra, .inl (cA, 8, .inl rr))] s.heap := hP
  have hl := lv_entry ([.ref ra]) (n := 1) (Nat.le_of_ble_eq_true rfl)
  rw [lg_entry_eq]
  generalize (lg_sl ([.ref ra]) ++ List.replicate (1 - (lg_sl ([.ref ra])).length) Slot.unset).toArray = ls at hl ⊢
  have hl : lv_has ls 1 [(0, .ref ra)] := hl
  refine lv_aload_n hx hb dL_isDue_0 rfl (lv_at hl 0 rfl) ?_
  refine lv_iconst (v := 4) hx hb dL_isDue_1 (by decide) ?_
  refine lv_aload_n hx hb dL_isDue_2 rfl (lv_at hl 0 rfl) ?_
  refine bx_ri (va_runS (As := [.ref ra]) (rest := [.int 4, .ref ra]) ⟨hx, hb, hml, hown, hts⟩ (c_L_best l D cA ra rr) (va_cwS 1 hts gL_isDue_L_best rfl rfl rfl (by decide +kernel) ⟨Nat.le_of_ble_eq_true rfl, Nat.le_of_ble_eq_true rfl⟩) (bx_psr hK hG (hP.sub (ws' := [(ra, .inl (cA, 8, .inl rr))]) [0] rfl)) rfl rfl hl.1 rfl (lv_room (Nat.le_of_ble_eq_true rfl)) dL_isDue_3 ⟨Nat.zero_le _, Nat.zero_le _⟩) (fun r_1 h_2 => ?_)
  have h_2 := h_2.symm
  subst h_2
  refine lv_imul hx hb dL_isDue_6 ?_
  refine lv_iconst (v := 2) hx hb dL_isDue_7 (by decide) ?_
  refine lv_iadd hx hb dL_isDue_8 ?_
  refine bx_ald (D := D) hx hb hK hP 0 0 rfl rfl (iyk (best_sl _) y4_2) dL_isDue_9 ?_
  refine lv_iconst (v := 2) hx hb dL_isDue_10 (by decide) ?_
  refine lv_iand hx hb dL_isDue_11 ?_
  refine lv_iconst (v := 2) hx hb dL_isDue_12 (by decide) ?_
  refine lv_icmp_ne (tgt := 20) hx hb dL_isDue_13 (by decide) (fun c_3 => ?_) (fun c_3 => ?_)
  · skip
    refine lv_iconst (v := 0) hx hb dL_isDue_20 (by decide) ?_
    exact W.zret (v := 0) hx hb hr rfl (fun t ht hW => ⟨0, rfl, ⟨(by simp only [F_L_isDue, if_neg c_3]), (by decide)⟩, ht⟩) (fun _ h => nomatch h) dL_isDue_21
  · skip
    refine lv_iconst (v := 1) hx hb dL_isDue_16 (by decide) ?_
    refine lv_goto (tgt := 21) hx hb dL_isDue_17 (by decide) ?_
    exact W.zret (v := 1) hx hb hr rfl (fun t ht hW => ⟨1, rfl, ⟨(by simp only [F_L_isDue, if_pos c_3]), (by decide)⟩, ht⟩) (fun _ h => nomatch h) dL_isDue_21
def F_L_start_j71 (rr : Nat → Int32) (ww : Nat → Int32) : Int32 := (if ((rd rr ((4 * (F_L_best rr)) + 2)) &&& 2) = 2 then (if (rd rr ((4 * (F_L_best rr)) + 2)) ≤ 3 then 0 else (if (F_L_isGood ww (1 - ((rd rr ((4 * (F_L_best rr)) + 2)) &&& 1))) = 0 then 0 else (if (rd ww ((32 * (1 - ((rd rr ((4 * (F_L_best rr)) + 2)) &&& 1))) + 4)) < (rd rr ((4 * (F_L_best rr)) + 3)) then 0 else 1))) else 0)
def F_L_start (ww : Nat → Int32) (rr : Nat → Int32) : Int32 := (if (F_L_start_j71 rr ww) = 0 then ((rd rr ((4 * (F_L_best rr)) + 2)) &&& 1) else (1 - ((rd rr ((4 * (F_L_best rr)) + 2)) &&& 1)))
set_option maxHeartbeats 4000000 in
set_option maxRecDepth 100000 in
theorem c_L_start (l : Launch) (D : va_G) (cA : ClassId) (wa ra : Nat) (ww : Nat → Int32) (rr : Nat → Int32) : Met l yL_start wsL_start ({ frames := 3, cells := 0, slots := 0, locals := 63 }) (va_Pc [.ref wa, .ref ra] (bx_ro D [(cA, .int)] (wWR cA wa ra ww rr))) (vp_Si (fun r => r = F_L_start ww rr)) 0 0 (fun _ => False) := by
  refine Met.ofW (cc := cL_start) (maxL := 6) (ret := (some .int)) (by decide) rfl ?_
  intro p e s m args below meth c s₁ B hml hv
  obtain ⟨rfl, hP, hK, hG⟩ := hv
  have hx := B.exec
  have hb := B.bytes
  have hr := B.returns
  have hts := atoms_spec (ws := wsL_start) B.pre
  have hown : s.vm.findClass RL = some m.cls := findClass_of_methodNamed B.named
  have hlocks := B.notSynchronized
  have hP : va_P D vwCl [(wa, .inl (cA, 64, .inl ww)), (ra, .inl (cA, 8, .inl rr))] s.heap := hP
  have hl := lv_entry ([.ref wa, .ref ra]) (n := 6) (Nat.le_of_ble_eq_true rfl)
  rw [lg_entry_eq]
  generalize (lg_sl ([.ref wa, .ref ra]) ++ List.replicate (6 - (lg_sl ([.ref wa, .ref ra])).length) Slot.unset).toArray = ls at hl ⊢
  have hl : lv_has ls 6 [(0, .ref wa), (1, .ref ra)] := hl
  refine lv_iconst (v := 4) hx hb dL_start_0 (by decide) ?_
  refine lv_aload_n hx hb dL_start_1 rfl (lv_at hl 1 rfl) ?_
  refine bx_ri (va_runS (As := [.ref ra]) (rest := [.int 4]) ⟨hx, hb, hml, hown, hts⟩ (c_L_best l D cA ra rr) (va_cwS 1 hts gL_start_L_best rfl rfl rfl (by decide +kernel) ⟨Nat.le_of_ble_eq_true rfl, Nat.le_of_ble_eq_true rfl⟩) (bx_psr hK hG (hP.sub (ws' := [(ra, .inl (cA, 8, .inl rr))]) [1] rfl)) rfl rfl hl.1 rfl (lv_room (Nat.le_of_ble_eq_true rfl)) dL_start_2 ⟨Nat.zero_le _, Nat.zero_le _⟩) (fun r_1 h_2 => ?_)
  have h_2 := h_2.symm
  subst h_2
  refine lv_imul hx hb dL_start_5 ?_
  refine lv_istore_n (lv' := [(2, .int (4 * (F_L_best rr))), (0, .ref wa), (1, .ref ra)]) hx hb dL_start_6 rfl hl (by decide) rfl (fun ls hl => ?_)
  refine lv_aload_n hx hb dL_start_7 rfl (lv_at hl 2 rfl) ?_
  refine lv_iload_n hx hb dL_start_8 rfl (lv_at hl 0 rfl) ?_
  refine lv_iconst (v := 2) hx hb dL_start_9 (by decide) ?_
  refine lv_iadd hx hb dL_start_10 ?_
  refine bx_ald (D := D) hx hb hK hP 1 0 rfl rfl (iyk (best_sl _) y4_2) dL_start_11 ?_
  refine lv_iconst (v := 1) hx hb dL_start_12 (by decide) ?_
  refine lv_iand hx hb dL_start_13 ?_
  refine lv_istore_n (lv' := [(3, .int ((rd rr ((4 * (F_L_best rr)) + 2)) &&& 1)), (2, .int (4 * (F_L_best rr))), (0, .ref wa), (1, .ref ra)]) hx hb dL_start_14 rfl hl (by decide) rfl (fun ls hl => ?_)
  refine lv_iconst (v := 1) hx hb dL_start_15 (by decide) ?_
  refine lv_iload_n hx hb dL_start_16 rfl (lv_at hl 0 rfl) ?_
  refine lv_isub hx hb dL_start_17 ?_
  refine lv_istore (lv' := [(4, .int (1 - ((rd rr ((4 * (F_L_best rr)) + 2)) &&& 1))), (3, .int ((rd rr ((4 * (F_L_best rr)) + 2)) &&& 1)), (2, .int (4 * (F_L_best rr))), (0, .ref wa), (1, .ref ra)]) hx hb dL_start_18 hl (by decide) rfl (fun ls hl => ?_)
  have jn71 : ∀ v : Int32, v = (F_L_start_j71 rr ww) → ∀ ls : Array Slot, lv_has ls 6 [(4, .int (1 - ((rd rr ((4 * (F_L_best rr)) + 2)) &&& 1))), (3, .int ((rd rr ((4 * (F_L_best rr)) + 2)) &&& 1)), (2, .int (4 * (F_L_best rr))), (0, .ref wa), (1, .ref ra)] → W p l e (headSpec wsL_start ({ frames := 3, cells := 0, slots := 0, locals := 63 })).room s m ([.ref wa, .ref ra] : List Value).toArray below meth c s.heap [] 0 0 (MQ below (vp_Si (fun r => r = F_L_start ww rr)) ([.ref wa, .ref ra] : List Value).toArray s 0 0 (fun _ => False)) (F0 m 71 ls [.int v]) := by
    intro v hv ls hl
    subst hv
    refine lv_istore (lv' := [(5, .int (F_L_start_j71 rr ww)), (4, .int (1 - ((rd rr ((4 * (F_L_best rr)) + 2)) &&& 1))), (3, .int ((rd rr ((4 * (F_L_best rr)) + 2)) &&& 1)), (2, .int (4 * (F_L_best rr))), (0, .ref wa), (1, .ref ra)]) hx hb dL_start_71 hl (by decide) rfl (fun ls hl => ?_)
    refine lv_iload hx hb dL_start_73 (lv_at hl 0 rfl) ?_
    refine lv_if_eq (tgt := 83) hx hb dL_start_75 (by decide) (fun c_10 => ?_) (fun c_10 => ?_)
    · skip
      refine lv_iload_n hx hb dL_start_83 rfl (lv_at hl 2 rfl) ?_
      exact W.iret (v := ((rd rr ((4 * (F_L_best rr)) + 2)) &&& 1)) hx hb hr (fun t ht hW => ⟨((rd rr ((4 * (F_L_best rr)) + 2)) &&& 1), rfl, (by simp only [F_L_start, if_pos c_10]), ht⟩) (fun _ h => nomatch h) dL_start_84
    · skip
      refine lv_iload hx hb dL_start_78 (lv_at hl 1 rfl) ?_
      refine lv_goto (tgt := 84) hx hb dL_start_80 (by decide) ?_
      exact W.iret (v := (1 - ((rd rr ((4 * (F_L_best rr)) + 2)) &&& 1))) hx hb hr (fun t ht hW => ⟨(1 - ((rd rr ((4 * (F_L_best rr)) + 2)) &&& 1)), rfl, (by simp only [F_L_start, if_neg c_10]), ht⟩) (fun _ h => nomatch h) dL_start_84
  refine lv_aload_n hx hb dL_start_20 rfl (lv_at hl 4 rfl) ?_
  refine lv_iload_n hx hb dL_start_21 rfl (lv_at hl 2 rfl) ?_
  refine lv_iconst (v := 2) hx hb dL_start_22 (by decide) ?_
  refine lv_iadd hx hb dL_start_23 ?_
  refine bx_ald (D := D) hx hb hK hP 1 0 rfl rfl (iyk (best_sl _) y4_2) dL_start_24 ?_
  refine lv_iconst (v := 2) hx hb dL_start_25 (by decide) ?_
  refine lv_iand hx hb dL_start_26 ?_
  refine lv_iconst (v := 2) hx hb dL_start_27 (by decide) ?_
  refine lv_icmp_ne (tgt := 70) hx hb dL_start_28 (by decide) (fun c_3 => ?_) (fun c_3 => ?_)
  · skip
    refine lv_iconst (v := 0) hx hb dL_start_70 (by decide) ?_
    exact jn71 _ (by simp only [F_L_start_j71, if_neg c_3]) ls (lv_sub hl [0, 1, 2, 3, 4] rfl)
  · skip
    refine lv_aload_n hx hb dL_start_31 rfl (lv_at hl 4 rfl) ?_
    refine lv_iload_n hx hb dL_start_32 rfl (lv_at hl 2 rfl) ?_
    refine lv_iconst (v := 2) hx hb dL_start_33 (by decide) ?_
    refine lv_iadd hx hb dL_start_34 ?_
    refine bx_ald (D := D) hx hb hK hP 1 0 rfl rfl (iyk (best_sl _) y4_2) dL_start_35 ?_
    refine lv_iconst (v := 3) hx hb dL_start_36 (by decide) ?_
    refine lv_icmp_le (tgt := 70) hx hb dL_start_37 (by decide) (fun c_4 => ?_) (fun c_4 => ?_)
    · skip
      refine lv_iconst (v := 0) hx hb dL_start_70 (by decide) ?_
      exact jn71 _ (by simp only [F_L_start_j71, if_pos c_3, if_pos c_4]) ls (lv_sub hl [0, 1, 2, 3, 4] rfl)
    · skip
      refine lv_aload_n hx hb dL_start_40 rfl (lv_at hl 3 rfl) ?_
      refine lv_iload hx hb dL_start_41 (lv_at hl 0 rfl) ?_
      refine bx_ri (va_runS (As := [.ref wa, .int (1 - ((rd rr ((4 * (F_L_best rr)) + 2)) &&& 1))]) (rest := []) ⟨hx, hb, hml, hown, hts⟩ (c_L_isGood l D cA wa ww (1 - ((rd rr ((4 * (F_L_best rr)) + 2)) &&& 1)) (sl_not (sl_and _))) (va_cwS 2 hts gL_start_L_isGood rfl rfl rfl (by decide +kernel) ⟨Nat.le_of_ble_eq_true rfl, Nat.le_of_ble_eq_true rfl⟩) (bx_psr hK hG (hP.sub (ws' := [(wa, .inl (cA, 64, .inl ww))]) [0] rfl)) rfl rfl hl.1 rfl (lv_room (Nat.le_of_ble_eq_true rfl)) dL_start_43 ⟨Nat.zero_le _, Nat.zero_le _⟩) (fun r_5 h_6 => ?_)
      obtain ⟨h_6, b_7⟩ := h_6
      have h_6 := h_6.symm
      subst h_6
      refine lv_if_eq (tgt := 70) hx hb dL_start_46 (by decide) (fun c_8 => ?_) (fun c_8 => ?_)
      · skip
        refine lv_iconst (v := 0) hx hb dL_start_70 (by decide) ?_
        exact jn71 _ (by simp only [F_L_start_j71, if_pos c_3, if_neg c_4, if_pos c_8]) ls (lv_sub hl [0, 1, 2, 3, 4] rfl)
      · skip
        refine lv_aload_n hx hb dL_start_49 rfl (lv_at hl 3 rfl) ?_
        refine lv_bipush (v := 32) hx hb dL_start_50 (by decide) ?_
        refine lv_iload hx hb dL_start_52 (lv_at hl 0 rfl) ?_
        refine lv_imul hx hb dL_start_54 ?_
        refine lv_iconst (v := 4) hx hb dL_start_55 (by decide) ?_
        refine lv_iadd hx hb dL_start_56 ?_
        refine bx_ald (D := D) hx hb hK hP 0 0 rfl rfl (ixk (sl_not (sl_and _)) v4) dL_start_57 ?_
        refine lv_aload_n hx hb dL_start_58 rfl (lv_at hl 4 rfl) ?_
        refine lv_iload_n hx hb dL_start_59 rfl (lv_at hl 2 rfl) ?_
        refine lv_iconst (v := 3) hx hb dL_start_60 (by decide) ?_
        refine lv_iadd hx hb dL_start_61 ?_
        refine bx_ald (D := D) hx hb hK hP 1 0 rfl rfl (iyk (best_sl _) y4_3) dL_start_62 ?_
        refine lv_icmp_lt (tgt := 70) hx hb dL_start_63 (by decide) (fun c_9 => ?_) (fun c_9 => ?_)
        · skip
          refine lv_iconst (v := 0) hx hb dL_start_70 (by decide) ?_
          exact jn71 _ (by simp only [F_L_start_j71, if_pos c_3, if_neg c_4, if_neg c_8, if_pos c_9]) ls (lv_sub hl [0, 1, 2, 3, 4] rfl)
        · skip
          refine lv_iconst (v := 1) hx hb dL_start_66 (by decide) ?_
          refine lv_goto (tgt := 71) hx hb dL_start_67 (by decide) ?_
          exact jn71 _ (by simp only [F_L_start_j71, if_pos c_3, if_neg c_4, if_neg c_8, if_neg c_9]) ls (lv_sub hl [0, 1, 2, 3, 4] rfl)
