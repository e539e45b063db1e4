theorem fr_lt (x : Int32) {p1 : Int32} (hb : ∃ d : Nat, p1 = nI d ∧ 0 < d ∧ d ≤ 100000) : 0 ≤ ((x &&& 2147483647) - (x &&& 2147483647) / p1 * p1).toInt ∧ ((x &&& 2147483647) - (x &&& 2147483647) / p1 * p1).toInt < p1.toInt := by
  obtain ⟨d, rfl, h0, hd⟩ := hb
  obtain ⟨j, hj, e⟩ := pk_andE x (m := 2147483647) 31 (by decide)
  have hm := Nat.mod_lt j h0
  rw [e, pk_rem hj h0 (by omega), nI_toInt (by omega), nI_toInt (by omega)]
  omega
theorem fr_in {p0 : Int32} {L : Nat} (hk : ∃ q : Nat, p0 = nI q ∧ q < 1000) (hL : L ≤ 1000) (h : ¬ Int32.ofNat L = 0) : vp_in (p0 - p0 / Int32.ofNat L * Int32.ofNat L) L := by
  obtain ⟨q, rfl, hq⟩ := hk
  have h0 : 0 < L := Nat.pos_of_ne_zero (fun z => h (by rw [z]; rfl))
  show vp_in (nI q - nI q / nI L * nI L) L
  rw [pk_rem (by omega) h0 (by omega)]
  exact vp_in_nI (Nat.mod_lt q h0) (by omega)
theorem fr_nz {p1 : Int32} (hb : ∃ d : Nat, p1 = nI d ∧ 0 < d ∧ d ≤ 100000) : ¬ p1 = 0 := by
  obtain ⟨d, rfl, h0, hd⟩ := hb
  exact nI_ne0 h0 (by omega)
set_option maxHeartbeats 4000000 in
set_option maxRecDepth 100000 in
theorem c_L_from (l : Launch) (D : va_G) (b L : Nat) (xs : Nat → Int32) (p0 : Int32) (p1 : Int32) (hk : ∃ q : Nat, p0 = nI q ∧ q < 1000) (hb2 : ∃ d : Nat, p1 = nI d ∧ 0 < d ∧ d ≤ 100000) (hL : L ≤ 1000) : Met l yL_from wsL_from ({ frames := 0, cells := 0, slots := 0, locals := 0 }) (va_Pc [.ref b, .int p0, .int p1] (bx_rs b L xs)) (vp_Si (fun r => 0 ≤ r.toInt ∧ r.toInt < p1.toInt)) 0 0 (fun _ => False) := by
  refine Met.ofW (cc := cL_from) (maxL := 4) (ret := (some .int)) (by decide) rfl ?_
  intro p e s m args below meth c s₁ B hml hv
  obtain ⟨rfl, hX, hG⟩ := hv
  have hx := B.exec
  have hb := B.bytes
  have hr := B.returns
  have hts := atoms_spec (ws := wsL_from) B.pre
  have hown : s.vm.findClass RL = some m.cls := findClass_of_methodNamed B.named
  have hlocks := B.notSynchronized
  have hS : va_S (fun _ => False) s.heap s.heap [] := va_S.rf
  have hbA : ¬ (fun _ : Nat => False) b := fun h => h
  have hbl : b < s.heap.size := by obtain ⟨scr, h1, -⟩ := hX; exact (Array.getElem?_eq_some_iff.mp h1).1
  have hl := lv_entry ([.ref b, .int p0, .int p1]) (n := 4) (Nat.le_of_ble_eq_true rfl)
  rw [lg_entry_eq]
  generalize (lg_sl ([.ref b, .int p0, .int p1]) ++ List.replicate (4 - (lg_sl ([.ref b, .int p0, .int p1])).length) Slot.unset).toArray = ls at hl ⊢
  have hl : lv_has ls 4 [(0, .ref b), (1, .int p0), (2, .int p1)] := hl
  refine lv_aload_n hx hb dL_from_0 rfl (lv_at hl 0 rfl) ?_
  refine va_slen hx hb hX hbl hbA hS dL_from_1 ?_
  refine lv_if_ne (tgt := 15) hx hb dL_from_2 (by decide) (fun c_1 => ?_) (fun c_1 => ?_)
  · skip
    refine lv_aload_n hx hb dL_from_15 rfl (lv_at hl 0 rfl) ?_
    refine lv_iload_n hx hb dL_from_16 rfl (lv_at hl 1 rfl) ?_
    refine lv_aload_n hx hb dL_from_17 rfl (lv_at hl 0 rfl) ?_
    refine va_slen hx hb hX hbl hbA hS dL_from_18 ?_
    refine lv_irem hx hb dL_from_19 c_1 ?_
    refine va_sld hx hb hX hbl hbA hS (fr_in hk hL c_1) dL_from_20 ?_
    refine lv_ldc (v := 99991) hx hb hown (hts (.constant RL 7 (99991)) (by decide +kernel)) dL_from_21 ?_
    refine lv_iload_n hx hb dL_from_23 rfl (lv_at hl 1 rfl) ?_
    refine lv_imul hx hb dL_from_24 ?_
    refine lv_ixor hx hb dL_from_25 ?_
    refine lv_istore_n (lv' := [(3, .int ((xs ((p0 - p0 / (Int32.ofNat L) * (Int32.ofNat L))).toNatClampNeg) ^^^ (99991 * p0))), (0, .ref b), (1, .int p0), (2, .int p1)]) hx hb dL_from_26 rfl hl (by decide) rfl (fun ls hl => ?_)
    refine lv_iload_n hx hb dL_from_27 rfl (lv_at hl 0 rfl) ?_
    refine lv_ldc (v := 2147483647) hx hb hown (hts (.constant RL 8 (2147483647)) (by decide +kernel)) dL_from_28 ?_
    refine lv_iand hx hb dL_from_30 ?_
    refine lv_iload_n hx hb dL_from_31 rfl (lv_at hl 3 rfl) ?_
    refine lv_irem hx hb dL_from_32 (fr_nz hb2) ?_
    exact W.iret (v := ((((xs ((p0 - p0 / (Int32.ofNat L) * (Int32.ofNat L))).toNatClampNeg) ^^^ (99991 * p0)) &&& 2147483647) - (((xs ((p0 - p0 / (Int32.ofNat L) * (Int32.ofNat L))).toNatClampNeg) ^^^ (99991 * p0)) &&& 2147483647) / p1 * p1)) hx hb hr (fun t ht hW => ⟨((((xs ((p0 - p0 / (Int32.ofNat L) * (Int32.ofNat L))).toNatClampNeg) ^^^ (99991 * p0)) &&& 2147483647) - (((xs ((p0 - p0 / (Int32.ofNat L) * (Int32.ofNat L))).toNatClampNeg) ^^^ (99991 * p0)) &&& 2147483647) / p1 * p1), rfl, (fr_lt _ hb2), ht⟩) (fun _ h => nomatch h) dL_from_33
  · skip
    refine lv_bipush (v := 79) hx hb dL_from_5 (by decide) ?_
    refine lv_iload_n hx hb dL_from_7 rfl (lv_at hl 1 rfl) ?_
    refine lv_imul hx hb dL_from_8 ?_
    refine lv_bipush (v := 47) hx hb dL_from_9 (by decide) ?_
    refine lv_iadd hx hb dL_from_11 ?_
    refine lv_goto (tgt := 26) hx hb dL_from_12 (by decide) ?_
    refine lv_istore_n (lv' := [(3, .int ((79 * p0) + 47)), (0, .ref b), (1, .int p0), (2, .int p1)]) hx hb dL_from_26 rfl hl (by decide) rfl (fun ls hl => ?_)
    refine lv_iload_n hx hb dL_from_27 rfl (lv_at hl 0 rfl) ?_
    refine lv_ldc (v := 2147483647) hx hb hown (hts (.constant RL 8 (2147483647)) (by decide +kernel)) dL_from_28 ?_
    refine lv_iand hx hb dL_from_30 ?_
    refine lv_iload_n hx hb dL_from_31 rfl (lv_at hl 3 rfl) ?_
    refine lv_irem hx hb dL_from_32 (fr_nz hb2) ?_
    exact W.iret (v := ((((79 * p0) + 47) &&& 2147483647) - (((79 * p0) + 47) &&& 2147483647) / p1 * p1)) hx hb hr (fun t ht hW => ⟨((((79 * p0) + 47) &&& 2147483647) - (((79 * p0) + 47) &&& 2147483647) / p1 * p1), rfl, (fr_lt _ hb2), ht⟩) (fun _ h => nomatch h) dL_from_33
