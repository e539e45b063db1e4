/-- how many of the places j, j + 1, .. (n at most) hold the same in a and b *and* follow each other -/
def mlN (a b : Nat → Int32) : Nat → Nat → Nat
  | 0, j => j
  | n + 1, j => if a j = b j then mlN a b n (j + 1) else j
def F_X0_most (δ : DS) (σ : FS) (p0 p1 p2 : Int32) : Int32 := if δ.1 - p2 < F_X3_slotWord σ p0 2 - p1 then δ.1 - p2 else F_X3_slotWord σ p0 2 - p1
def F_X0_matchLength (δ : DS) (σ : FS) (p0 p1 p2 : Int32) : Int32 := nI (mlN (fun j => F_X3_imageWord σ p0 (p1 + nI j)) (fun j => F_X1_byteAt δ (p2 + nI j)) (F_X0_most δ σ p0 p1 p2).toNatClampNeg 0)
 
set_option maxHeartbeats 4000000 in
set_option maxRecDepth 100000 in
theorem c_X0_matchLength (l : Launch) (D : va_G) (cA : ClassId) (e0 d db s0 f w : Nat) (δ : DS) (σ : FS) (p0 : Int32) (p1 : Int32) (p2 : Int32) : Met l yX0_matchLength wsX0_matchLength ({ frames := 2, cells := 0, slots := 0, locals := 43 }) (va_Pc [.ref e0, .int p0, .int p1, .int p2] (bx_ro D [(cA, .int)] (wDe cA e0 d db s0 f w δ σ))) (vp_Si (fun r => r = F_X0_matchLength δ σ p0 p1 p2)) 0 0 (fun _ => False) := by
  refine Met.ofW (cc := cX0_matchLength) (maxL := 6) (ret := (some .int)) (by decide) rfl ?_
  intro p e s m args below meth c s₁ B hml hv
  obtain ⟨rfl, hP, hK, hG⟩ := hv
  have hx := B.exec
  have hb := B.bytes
  have hr := B.returns
  have hts := atoms_spec (ws := wsX0_matchLength) B.pre
  have hown : s.vm.findClass RX0 = some m.cls := findClass_of_methodNamed B.named
  have hlocks := B.notSynchronized
  have hP : va_P D vwCl [(e0, .inr (0, [.ref d, .ref s0])), (d, .inr (1, [.int δ.1, .ref db])), (db, .inl (cA, 24, .inl δ.2)), (s0, .inr (3, [.ref f])), (f, .inr (2, [.ref w, .int σ.2.1, .int σ.2.2])), (w, .inl (cA, 66, .inl σ.1))] s.heap := hP
  have hl := lv_entry ([.ref e0, .int p0, .int p1, .int p2]) (n := 6) (Nat.le_of_ble_eq_true rfl)
  rw [lg_entry_eq]
  generalize (lg_sl ([.ref e0, .int p0, .int p1, .int p2]) ++ List.replicate (6 - (lg_sl ([.ref e0, .int p0, .int p1, .int p2])).length) Slot.unset).toArray = ls at hl ⊢
  have hl : lv_has ls 6 [(0, .ref e0), (1, .int p0), (2, .int p1), (3, .int p2)] := hl
  have hi0 : ∀ w ∈ u_ws RX0 TX0 2, w ∈ wsX0_matchLength := by decide +kernel
  have hi1 : ∀ w ∈ u_ws RX1 TX1 2, w ∈ wsX0_matchLength := by decide +kernel
  refine lv_aload_n hx hb dX0_matchLength_0 rfl (lv_at hl 0 rfl) ?_
  refine va_get (D := D) (ci := 0) (v := .ref s0) (C := RX0) (T := TX0) (N := 2) hx hb hts hi0 hown hK hP 0 rfl rfl 1 (by decide) (hts (.fieldLink RX0 15 "Bootstay$Delta" "store" "LBootstay$Store;") (by decide +kernel)) (fun _ h9 => h9) rfl dX0_matchLength_1 ?_
  refine lv_iload_n hx hb dX0_matchLength_4 rfl (lv_at hl 1 rfl) ?_
  refine lv_iconst (v := 2) hx hb dX0_matchLength_5 (by decide) ?_
  refine bx_ri (va_runV (As := [.int p0, .int 2]) (rest := []) ⟨hx, hb, hml, hown, hts⟩ (c_X3_slotWord l D cA s0 f w σ p0 2) (cwV 2 hts gX0_matchLength_X3_slotWord rfl rfl rfl (by decide +kernel) ⟨Nat.le_of_ble_eq_true rfl, Nat.le_of_ble_eq_true rfl⟩) (bx_pvr (ci := 3) (q0 := 0) hK hG (hP.sub (ws' := [(s0, .inr (3, [.ref f])), (f, .inr (2, [.ref w, .int σ.2.1, .int σ.2.2])), (w, .inl (cA, 66, .inl σ.1))]) [3, 4, 5] rfl) rfl rfl) rfl rfl hl.1 rfl (lv_room (Nat.le_of_ble_eq_true rfl)) dX0_matchLength_6 ⟨Nat.zero_le _, Nat.zero_le _⟩) (fun r_1 h_2 => ?_)
  have h_2 := h_2.symm
  subst h_2
  refine lv_iload_n hx hb dX0_matchLength_9 rfl (lv_at hl 2 rfl) ?_
  refine lv_isub hx hb dX0_matchLength_10 ?_
  refine lv_aload_n hx hb dX0_matchLength_11 rfl (lv_at hl 0 rfl) ?_
  refine va_get (D := D) (ci := 0) (v := .ref d) (C := RX0) (T := TX0) (N := 2) hx hb hts hi0 hown hK hP 0 rfl rfl 0 (by decide) (hts (.fieldLink RX0 9 "Bootstay$Delta" "draft" "LBootstay$Draft;") (by decide +kernel)) (fun _ h9 => h9) rfl dX0_matchLength_12 ?_
  refine va_get (D := D) (ci := 1) (v := .int δ.1) (C := RX1) (T := TX1) (N := 2) hx hb hts hi1 hown hK hP 1 rfl rfl 0 (by decide) (hts (.fieldLink RX0 19 "Bootstay$Draft" "size" "I") (by decide +kernel)) (fun _ h9 => h9) rfl dX0_matchLength_15 ?_
  refine lv_iload_n hx hb dX0_matchLength_18 rfl (lv_at hl 3 rfl) ?_
  refine lv_isub hx hb dX0_matchLength_19 ?_
  refine va_mmin hx hb (by rw [hml]; exact hl.1.symm) hown (hts (.methodLink RX0 41 Lib.Math.min.name) (by decide +kernel)) (hts (.static Lib.Math.min.name) (by decide +kernel)) (hts (.initialized "java/lang/Math") (by decide +kernel)) (hts (.code Lib.Math.min.name Lib.Math.min.code 2 (some .int)) (by decide +kernel)) (Nat.le_of_ble_eq_true rfl) (Nat.le_of_ble_eq_true rfl) (Nat.zero_le _) (Nat.zero_le _) dX0_matchLength_20 ?_
  refine lv_istore (lv' := [(4, .int (if (δ.1 - p2) < ((F_X3_slotWord σ p0 2) - p1) then (δ.1 - p2) else ((F_X3_slotWord σ p0 2) - p1))), (0, .ref e0), (1, .int p0), (2, .int p1), (3, .int p2)]) hx hb dX0_matchLength_23 hl (by decide) rfl (fun ls hl => ?_)
  refine lv_iconst (v := 0) hx hb dX0_matchLength_25 (by decide) ?_
  refine lv_istore (lv' := [(5, .int 0), (4, .int (if (δ.1 - p2) < ((F_X3_slotWord σ p0 2) - p1) then (δ.1 - p2) else ((F_X3_slotWord σ p0 2) - p1))), (0, .ref e0), (1, .int p0), (2, .int p1), (3, .int p2)]) hx hb dX0_matchLength_26 hl (by decide) rfl (fun ls hl => ?_)
  have loop28 : ∀ (n : Nat) (j : Nat) (k : Int32), (F_X0_most δ σ p0 p1 p2).toNatClampNeg - j < n → j ≤ (F_X0_most δ σ p0 p1 p2).toNatClampNeg → k = nI j → mlN (fun j => F_X3_imageWord σ p0 (p1 + nI j)) (fun j => F_X1_byteAt δ (p2 + nI j)) ((F_X0_most δ σ p0 p1 p2).toNatClampNeg - j) j = mlN (fun j => F_X3_imageWord σ p0 (p1 + nI j)) (fun j => F_X1_byteAt δ (p2 + nI j)) (F_X0_most δ σ p0 p1 p2).toNatClampNeg 0 → ∀ (ls : Array Slot), lv_has ls 6 [(5, .int k), (4, .int (if (δ.1 - p2) < ((F_X3_slotWord σ p0 2) - p1) then (δ.1 - p2) else ((F_X3_slotWord σ p0 2) - p1))), (0, .ref e0), (1, .int p0), (2, .int p1), (3, .int p2)] → W p l e (headSpec wsX0_matchLength ({ frames := 2, cells := 0, slots := 0, locals := 43 })).room s m ([.ref e0, .int p0, .int p1, .int p2] : List Value).toArray below meth c s.heap [] 0 0 (MQ below (vp_Si (fun r => r = F_X0_matchLength δ σ p0 p1 p2)) ([.ref e0, .int p0, .int p1, .int p2] : List Value).toArray s 0 0 (fun _ => False)) (F0 m 28 ls []) := by
    intro n
    induction n with
    | zero =>
      intro j k h_f ij ik ie ls hl
      exact absurd h_f (Nat.not_lt_zero _)
    | succ n ih28 =>
      intro j k h_f ij ik ie ls hl
      have hcl := bx_cl (F_X0_most δ σ p0 p1 p2)
      refine lv_iload hx hb dX0_matchLength_28 (lv_at hl 0 rfl) ?_
      refine lv_iload hx hb dX0_matchLength_30 (lv_at hl 1 rfl) ?_
      refine lv_icmp_ge (tgt := 67) hx hb dX0_matchLength_32 (by decide) (fun c_3 => ?_) (fun c_3 => ?_)
      · skip
        have hm : nI j = F_X0_matchLength δ σ p0 p1 p2 := by
          have h9 : (F_X0_most δ σ p0 p1 p2).toNatClampNeg ≤ j := (bx_le (N := F_X0_most δ σ p0 p1 p2) (by omega)).mp (ik ▸ c_3)
          unfold F_X0_matchLength
          rw [← ie, Nat.sub_eq_zero_of_le h9, mlN]
        refine lv_iload hx hb dX0_matchLength_67 (lv_at hl 0 rfl) ?_
        exact W.iret (v := k) hx hb hr (fun t ht hW => ⟨k, rfl, (by rw [ik]; exact hm), ht⟩) (fun _ h => nomatch h) dX0_matchLength_69
      · skip
        have hj : j < (F_X0_most δ σ p0 p1 p2).toNatClampNeg := Nat.lt_of_not_le (fun h => c_3 (by rw [ik]; exact (bx_le (N := F_X0_most δ σ p0 p1 p2) (by omega)).mpr h))
        refine lv_aload_n hx hb dX0_matchLength_35 rfl (lv_at hl 2 rfl) ?_
        refine va_get (D := D) (ci := 0) (v := .ref s0) (C := RX0) (T := TX0) (N := 2) hx hb hts hi0 hown hK hP 0 rfl rfl 1 (by decide) (hts (.fieldLink RX0 15 "Bootstay$Delta" "store" "LBootstay$Store;") (by decide +kernel)) (fun _ h9 => h9) rfl dX0_matchLength_36 ?_
        refine lv_iload_n hx hb dX0_matchLength_39 rfl (lv_at hl 3 rfl) ?_
        refine lv_iload_n hx hb dX0_matchLength_40 rfl (lv_at hl 4 rfl) ?_
        refine lv_iload hx hb dX0_matchLength_41 (lv_at hl 0 rfl) ?_
        refine lv_iadd hx hb dX0_matchLength_43 ?_
        refine bx_ri (va_runV (As := [.int p0, .int (p1 + k)]) (rest := []) ⟨hx, hb, hml, hown, hts⟩ (c_X3_imageWord l D cA s0 f w σ p0 (p1 + k)) (cwV 2 hts gX0_matchLength_X3_imageWord rfl rfl rfl (by decide +kernel) ⟨Nat.le_of_ble_eq_true rfl, Nat.le_of_ble_eq_true rfl⟩) (bx_pvr (ci := 3) (q0 := 0) hK hG (hP.sub (ws' := [(s0, .inr (3, [.ref f])), (f, .inr (2, [.ref w, .int σ.2.1, .int σ.2.2])), (w, .inl (cA, 66, .inl σ.1))]) [3, 4, 5] rfl) rfl rfl) rfl rfl hl.1 rfl (lv_room (Nat.le_of_ble_eq_true rfl)) dX0_matchLength_44 ⟨Nat.zero_le _, Nat.zero_le _⟩) (fun r_4 h_5 => ?_)
        have h_5 := h_5.symm
        subst h_5
        refine lv_aload_n hx hb dX0_matchLength_47 rfl (lv_at hl 2 rfl) ?_
        refine va_get (D := D) (ci := 0) (v := .ref d) (C := RX0) (T := TX0) (N := 2) hx hb hts hi0 hown hK hP 0 rfl rfl 0 (by decide) (hts (.fieldLink RX0 9 "Bootstay$Delta" "draft" "LBootstay$Draft;") (by decide +kernel)) (fun _ h9 => h9) rfl dX0_matchLength_48 ?_
        refine lv_iload_n hx hb dX0_matchLength_51 rfl (lv_at hl 5 rfl) ?_
        refine lv_iload hx hb dX0_matchLength_52 (lv_at hl 0 rfl) ?_
        refine lv_iadd hx hb dX0_matchLength_54 ?_
        refine bx_ri (va_runV (As := [.int (p2 + k)]) (rest := [.int (F_X3_imageWord σ p0 (p1 + k))]) ⟨hx, hb, hml, hown, hts⟩ (c_X1_byteAt l D cA d db δ (p2 + k)) (cwV 1 hts gX0_matchLength_X1_byteAt rfl rfl rfl (by decide +kernel) ⟨Nat.le_of_ble_eq_true rfl, Nat.le_of_ble_eq_true rfl⟩) (bx_pvr (ci := 1) (q0 := 0) hK hG (hP.sub (ws' := [(d, .inr (1, [.int δ.1, .ref db])), (db, .inl (cA, 24, .inl δ.2))]) [1, 2] rfl) rfl rfl) rfl rfl hl.1 rfl (lv_room (Nat.le_of_ble_eq_true rfl)) dX0_matchLength_55 ⟨Nat.zero_le _, Nat.zero_le _⟩) (fun r_6 h_7 => ?_)
        have h_7 := h_7.symm
        subst h_7
        refine lv_icmp_ne (tgt := 67) hx hb dX0_matchLength_58 (by decide) (fun c_8 => ?_) (fun c_8 => ?_)
        · skip
          have hm : nI j = F_X0_matchLength δ σ p0 p1 p2 := by
            subst ik
            unfold F_X0_matchLength
            rw [← ie, (show (F_X0_most δ σ p0 p1 p2).toNatClampNeg - j = ((F_X0_most δ σ p0 p1 p2).toNatClampNeg - (j + 1)) + 1 by omega), mlN]
            exact (congrArg nI (if_neg c_8)).symm
          refine lv_iload hx hb dX0_matchLength_67 (lv_at hl 0 rfl) ?_
          exact W.iret (v := k) hx hb hr (fun t ht hW => ⟨k, rfl, (by rw [ik]; exact hm), ht⟩) (fun _ h => nomatch h) dX0_matchLength_69
        · skip
          refine lv_iinc (v := (k + 1)) (lv' := [(5, .int (k + 1)), (4, .int (if (δ.1 - p2) < ((F_X3_slotWord σ p0 2) - p1) then (δ.1 - p2) else ((F_X3_slotWord σ p0 2) - p1))), (0, .ref e0), (1, .int p0), (2, .int p1), (3, .int p2)]) hx hb dX0_matchLength_61 hl (k := 0) rfl rfl (by decide) rfl (fun ls hl => ?_)
          refine lv_goto (tgt := 28) hx hb dX0_matchLength_64 (by decide) ?_
          exact ih28 (j + 1) (k + 1) (by omega) hj (by rw [ik]; exact nI_1 j) (by subst ik; rw [← ie, (show (F_X0_most δ σ p0 p1 p2).toNatClampNeg - j = ((F_X0_most δ σ p0 p1 p2).toNatClampNeg - (j + 1)) + 1 by omega), mlN]; exact (if_pos c_8).symm) ls (lv_sub hl [0, 1, 2, 3, 4, 5] rfl)
  exact loop28 ((F_X0_most δ σ p0 p1 p2).toNatClampNeg + 1) 0 0 (by omega) (Nat.zero_le _) nI_0.symm rfl ls (lv_sub hl [0, 1, 2, 3, 4, 5] rfl)
/-- the longest match of the first n places, and where it stands -/
def rfN (ml : Nat → Int32) : Nat → Int32 × Int32
  | 0 => (1, -1)
  | n + 1 => if ml n ≤ (rfN ml n).1 then rfN ml n else (ml n, nI n)
def F_X0_runFrom (δ : DS) (σ : FS) (p0 p1 : Int32) : Int32 := (rfN (fun k => F_X0_matchLength δ σ p0 (nI k) p1) (min (F_X3_slotWord σ p0 2).toNatClampNeg 24)).2
 
set_option maxHeartbeats 4000000 in
set_option maxRecDepth 100000 in
theorem c_X0_runFrom (l : Launch) (D : va_G) (cA : ClassId) (e0 d db s0 f w : Nat) (δ : DS) (σ : FS) (p0 : Int32) (p1 : Int32) : Met l yX0_runFrom wsX0_runFrom ({ frames := 3, cells := 0, slots := 0, locals := 68 }) (va_Pc [.ref e0, .int p0, .int p1] (bx_ro D [(cA, .int)] (wDe cA e0 d db s0 f w δ σ))) (vp_Si (fun r => r = F_X0_runFrom δ σ p0 p1)) 0 0 (fun _ => False) := by
  refine Met.ofW (cc := cX0_runFrom) (maxL := 8) (ret := (some .int)) (by decide) rfl ?_
  intro p e s m args below meth c s₁ B hml hv
  obtain ⟨rfl, hP, hK, hG⟩ := hv
  have hx := B.exec
  have hb := B.bytes
  have hr := B.returns
  have hts := atoms_spec (ws := wsX0_runFrom) B.pre
  have hown : s.vm.findClass RX0 = some m.cls := findClass_of_methodNamed B.named
  have hlocks := B.notSynchronized
  have hP : va_P D vwCl [(e0, .inr (0, [.ref d, .ref s0])), (d, .inr (1, [.int δ.1, .ref db])), (db, .inl (cA, 24, .inl δ.2)), (s0, .inr (3, [.ref f])), (f, .inr (2, [.ref w, .int σ.2.1, .int σ.2.2])), (w, .inl (cA, 66, .inl σ.1))] s.heap := hP
  have hl := lv_entry ([.ref e0, .int p0, .int p1]) (n := 8) (Nat.le_of_ble_eq_true rfl)
  rw [lg_entry_eq]
  generalize (lg_sl ([.ref e0, .int p0, .int p1]) ++ List.replicate (8 - (lg_sl ([.ref e0, .int p0, .int p1])).length) Slot.unset).toArray = ls at hl ⊢
  have hl : lv_has ls 8 [(0, .ref e0), (1, .int p0), (2, .int p1)] := hl
  have hi0 : ∀ w ∈ u_ws RX0 TX0 2, w ∈ wsX0_runFrom := by decide +kernel
  refine lv_aload_n hx hb dX0_runFrom_0 rfl (lv_at hl 0 rfl) ?_
  refine va_get (D := D) (ci := 0) (v := .ref s0) (C := RX0) (T := TX0) (N := 2) hx hb hts hi0 hown hK hP 0 rfl rfl 1 (by decide) (hts (.fieldLink RX0 15 "Bootstay$Delta" "store" "LBootstay$Store;") (by decide +kernel)) (fun _ h9 => h9) rfl dX0_runFrom_1 ?_
  refine lv_iload_n hx hb dX0_runFrom_4 rfl (lv_at hl 1 rfl) ?_
  refine lv_iconst (v := 2) hx hb dX0_runFrom_5 (by decide) ?_
  refine bx_ri (va_runV (As := [.int p0, .int 2]) (rest := []) ⟨hx, hb, hml, hown, hts⟩ (c_X3_slotWord l D cA s0 f w σ p0 2) (cwV 2 hts gX0_runFrom_X3_slotWord rfl rfl rfl (by decide +kernel) ⟨Nat.le_of_ble_eq_true rfl, Nat.le_of_ble_eq_true rfl⟩) (bx_pvr (ci := 3) (q0 := 0) hK hG (hP.sub (ws' := [(s0, .inr (3, [.ref f])), (f, .inr (2, [.ref w, .int σ.2.1, .int σ.2.2])), (w, .inl (cA, 66, .inl σ.1))]) [3, 4, 5] rfl) rfl rfl) rfl rfl hl.1 rfl (lv_room (Nat.le_of_ble_eq_true rfl)) dX0_runFrom_6 ⟨Nat.zero_le _, Nat.zero_le _⟩) (fun r_1 h_2 => ?_)
  have h_2 := h_2.symm
  subst h_2
  refine lv_istore_n (lv' := [(3, .int (F_X3_slotWord σ p0 2)), (0, .ref e0), (1, .int p0), (2, .int p1)]) hx hb dX0_runFrom_9 rfl hl (by decide) rfl (fun ls hl => ?_)
  refine lv_iconst (v := 1) hx hb dX0_runFrom_10 (by decide) ?_
  refine lv_istore (lv' := [(4, .int 1), (3, .int (F_X3_slotWord σ p0 2)), (0, .ref e0), (1, .int p0), (2, .int p1)]) hx hb dX0_runFrom_11 hl (by decide) rfl (fun ls hl => ?_)
  refine lv_iconst (v := (-1)) hx hb dX0_runFrom_13 (by decide) ?_
  refine lv_istore (lv' := [(5, .int (-1)), (4, .int 1), (3, .int (F_X3_slotWord σ p0 2)), (0, .ref e0), (1, .int p0), (2, .int p1)]) hx hb dX0_runFrom_14 hl (by decide) rfl (fun ls hl => ?_)
  refine lv_iconst (v := 0) hx hb dX0_runFrom_16 (by decide) ?_
  refine lv_istore (lv' := [(6, .int 0), (5, .int (-1)), (4, .int 1), (3, .int (F_X3_slotWord σ p0 2)), (0, .ref e0), (1, .int p0), (2, .int p1)]) hx hb dX0_runFrom_17 hl (by decide) rfl (fun ls hl => ?_)
  have loop19 : ∀ (n : Nat) (j : Nat) (lo fo k : Int32), min (F_X3_slotWord σ p0 2).toNatClampNeg 24 - j < n → j ≤ min (F_X3_slotWord σ p0 2).toNatClampNeg 24 → k = nI j → lo = (rfN (fun k => F_X0_matchLength δ σ p0 (nI k) p1) j).1 → fo = (rfN (fun k => F_X0_matchLength δ σ p0 (nI k) p1) j).2 → ∀ (ls : Array Slot), lv_has ls 8 [(6, .int k), (5, .int fo), (4, .int lo), (3, .int (F_X3_slotWord σ p0 2)), (0, .ref e0), (1, .int p0), (2, .int p1)] → W p l e (headSpec wsX0_runFrom ({ frames := 3, cells := 0, slots := 0, locals := 68 })).room s m ([.ref e0, .int p0, .int p1] : List Value).toArray below meth c s.heap [] 0 0 (MQ below (vp_Si (fun r => r = F_X0_runFrom δ σ p0 p1)) ([.ref e0, .int p0, .int p1] : List Value).toArray s 0 0 (fun _ => False)) (F0 m 19 ls []) := by
    intro n
    induction n with
    | zero =>
      intro j lo fo k h_f ij ik il io ls hl
      exact absurd h_f (Nat.not_lt_zero _)
    | succ n ih19 =>
      intro j lo fo k h_f ij ik il io ls hl
      have hcl := bx_cl (F_X3_slotWord σ p0 2)
      refine lv_iload hx hb dX0_runFrom_19 (lv_at hl 0 rfl) ?_
      refine lv_iload_n hx hb dX0_runFrom_21 rfl (lv_at hl 3 rfl) ?_
      refine lv_icmp_ge (tgt := 63) hx hb dX0_runFrom_22 (by decide) (fun c_3 => ?_) (fun c_3 => ?_)
      · skip
        have hj3 : min (F_X3_slotWord σ p0 2).toNatClampNeg 24 ≤ j := by
          have := (bx_le (N := F_X3_slotWord σ p0 2) (j := j) (by omega)).mp (ik ▸ c_3)
          have e24 : (24 : Int32).toNatClampNeg = 24 := rfl
          omega
        refine lv_iload hx hb dX0_runFrom_63 (lv_at hl 1 rfl) ?_
        exact W.iret (v := fo) hx hb hr (fun t ht hW => ⟨fo, rfl, (by rw [io, Nat.le_antisymm ij hj3]; rfl), ht⟩) (fun _ h => nomatch h) dX0_runFrom_65
      · skip
        have hj : j < (F_X3_slotWord σ p0 2).toNatClampNeg := Nat.lt_of_not_le (fun h => c_3 (by rw [ik]; exact (bx_le (by omega)).mpr h))
        refine lv_iload hx hb dX0_runFrom_25 (lv_at hl 0 rfl) ?_
        refine lv_bipush (v := 24) hx hb dX0_runFrom_27 (by decide) ?_
        refine lv_icmp_ge (tgt := 63) hx hb dX0_runFrom_29 (by decide) (fun c_4 => ?_) (fun c_4 => ?_)
        · skip
          have hj3 : min (F_X3_slotWord σ p0 2).toNatClampNeg 24 ≤ j := by
            have := (bx_le (N := 24) (j := j) (by omega)).mp (ik ▸ c_4)
            have e24 : (24 : Int32).toNatClampNeg = 24 := rfl
            omega
          refine lv_iload hx hb dX0_runFrom_63 (lv_at hl 1 rfl) ?_
          exact W.iret (v := fo) hx hb hr (fun t ht hW => ⟨fo, rfl, (by rw [io, Nat.le_antisymm ij hj3]; rfl), ht⟩) (fun _ h => nomatch h) dX0_runFrom_65
        · skip
          have hj2 : j < 24 := Nat.lt_of_not_le (fun h => c_4 (by rw [ik]; exact (bx_le (by omega)).mpr h))
          refine lv_aload_n hx hb dX0_runFrom_32 rfl (lv_at hl 4 rfl) ?_
          refine lv_iload_n hx hb dX0_runFrom_33 rfl (lv_at hl 5 rfl) ?_
          refine lv_iload hx hb dX0_runFrom_34 (lv_at hl 0 rfl) ?_
          refine lv_iload_n hx hb dX0_runFrom_36 rfl (lv_at hl 6 rfl) ?_
          refine bx_ri (va_runV (As := [.int p0, .int k, .int p1]) (rest := []) ⟨hx, hb, hml, hown, hts⟩ (c_X0_matchLength l D cA e0 d db s0 f w δ σ p0 k p1) (cwV 3 hts gX0_runFrom_X0_matchLength rfl rfl rfl (by decide +kernel) ⟨Nat.le_of_ble_eq_true rfl, Nat.le_of_ble_eq_true rfl⟩) (bx_pvr (ci := 0) (q0 := 0) hK hG (hP.sub (ws' := [(e0, .inr (0, [.ref d, .ref s0])), (d, .inr (1, [.int δ.1, .ref db])), (db, .inl (cA, 24, .inl δ.2)), (s0, .inr (3, [.ref f])), (f, .inr (2, [.ref w, .int σ.2.1, .int σ.2.2])), (w, .inl (cA, 66, .inl σ.1))]) [0, 1, 2, 3, 4, 5] rfl) rfl rfl) rfl rfl hl.1 rfl (lv_room (Nat.le_of_ble_eq_true rfl)) dX0_runFrom_37 ⟨Nat.zero_le _, Nat.zero_le _⟩) (fun r_5 h_6 => ?_)
          have h_6 := h_6.symm
          subst h_6
          refine lv_istore (lv' := [(7, .int (F_X0_matchLength δ σ p0 k p1)), (6, .int k), (5, .int fo), (4, .int lo), (3, .int (F_X3_slotWord σ p0 2)), (0, .ref e0), (1, .int p0), (2, .int p1)]) hx hb dX0_runFrom_40 hl (by decide) rfl (fun ls hl => ?_)
          refine lv_iload hx hb dX0_runFrom_42 (lv_at hl 0 rfl) ?_
          refine lv_iload hx hb dX0_runFrom_44 (lv_at hl 3 rfl) ?_
          refine lv_icmp_le (tgt := 57) hx hb dX0_runFrom_46 (by decide) (fun c_7 => ?_) (fun c_7 => ?_)
          · skip
            refine lv_iinc (v := (k + 1)) (lv' := [(6, .int (k + 1)), (7, .int (F_X0_matchLength δ σ p0 k p1)), (5, .int fo), (4, .int lo), (3, .int (F_X3_slotWord σ p0 2)), (0, .ref e0), (1, .int p0), (2, .int p1)]) hx hb dX0_runFrom_57 hl (k := 1) rfl rfl (by decide) rfl (fun ls hl => ?_)
            refine lv_goto (tgt := 19) hx hb dX0_runFrom_60 (by decide) ?_
            exact ih19 (j + 1) lo fo (k + 1) (by omega) (by omega) (by rw [ik]; exact nI_1 j) (by subst ik il; show _ = (if _ ≤ _ then _ else _ : Int32 × Int32).1; rw [if_pos c_7]) (by subst ik il io; show _ = (if _ ≤ _ then _ else _ : Int32 × Int32).2; rw [if_pos c_7]) ls (lv_sub hl [0, 2, 3, 4, 5, 6, 7] rfl)
          · skip
            refine lv_iload hx hb dX0_runFrom_49 (lv_at hl 0 rfl) ?_
            refine lv_istore (lv' := [(4, .int (F_X0_matchLength δ σ p0 k p1)), (7, .int (F_X0_matchLength δ σ p0 k p1)), (6, .int k), (5, .int fo), (3, .int (F_X3_slotWord σ p0 2)), (0, .ref e0), (1, .int p0), (2, .int p1)]) hx hb dX0_runFrom_51 hl (by decide) rfl (fun ls hl => ?_)
            refine lv_iload hx hb dX0_runFrom_53 (lv_at hl 2 rfl) ?_
            refine lv_istore (lv' := [(5, .int k), (4, .int (F_X0_matchLength δ σ p0 k p1)), (7, .int (F_X0_matchLength δ σ p0 k p1)), (6, .int k), (3, .int (F_X3_slotWord σ p0 2)), (0, .ref e0), (1, .int p0), (2, .int p1)]) hx hb dX0_runFrom_55 hl (by decide) rfl (fun ls hl => ?_)
            refine lv_iinc (v := (k + 1)) (lv' := [(6, .int (k + 1)), (5, .int k), (4, .int (F_X0_matchLength δ σ p0 k p1)), (7, .int (F_X0_matchLength δ σ p0 k p1)), (3, .int (F_X3_slotWord σ p0 2)), (0, .ref e0), (1, .int p0), (2, .int p1)]) hx hb dX0_runFrom_57 hl (k := 3) rfl rfl (by decide) rfl (fun ls hl => ?_)
            refine lv_goto (tgt := 19) hx hb dX0_runFrom_60 (by decide) ?_
            exact ih19 (j + 1) (F_X0_matchLength δ σ p0 k p1) k (k + 1) (by omega) (by omega) (by rw [ik]; exact nI_1 j) (by subst ik il; show _ = (if _ ≤ _ then _ else _ : Int32 × Int32).1; rw [if_neg c_7]) (by subst ik il; show _ = (if _ ≤ _ then _ else _ : Int32 × Int32).2; rw [if_neg c_7]) ls (lv_sub hl [0, 1, 2, 4, 5, 6, 7] rfl)
  exact loop19 (min (F_X3_slotWord σ p0 2).toNatClampNeg 24 + 1) 0 1 (-1) 0 (by omega) (Nat.zero_le _) nI_0.symm rfl rfl ls (lv_sub hl [0, 1, 2, 3, 4, 5, 6] rfl)
def F_X0_pieceLength (δ : DS) (σ : FS) (p0 : Int32) (p1 : Int32) : Int32 := (if (F_X0_runFrom δ σ p0 p1) = (-1) then 1 else (F_X0_matchLength δ σ p0 (F_X0_runFrom δ σ p0 p1) p1))
set_option maxHeartbeats 4000000 in
set_option maxRecDepth 100000 in
theorem c_X0_pieceLength (l : Launch) (D : va_G) (cA : ClassId) (e0 d db s0 f w : Nat) (δ : DS) (σ : FS) (p0 : Int32) (p1 : Int32) : Met l yX0_pieceLength wsX0_pieceLength ({ frames := 4, cells := 0, slots := 0, locals := 95 }) (va_Pc [.ref e0, .int p0, .int p1] (bx_ro D [(cA, .int)] (wDe cA e0 d db s0 f w δ σ))) (vp_Si (fun r => r = F_X0_pieceLength δ σ p0 p1)) 0 0 (fun _ => False) := by
  refine Met.ofW (cc := cX0_pieceLength) (maxL := 4) (ret := (some .int)) (by decide) rfl ?_
  intro p e s m args below meth c s₁ B hml hv
  obtain ⟨rfl, hP, hK, hG⟩ := hv
  have hx := B.exec
  have hb := B.bytes
  have hr := B.returns
  have hts := atoms_spec (ws := wsX0_pieceLength) B.pre
  have hown : s.vm.findClass RX0 = some m.cls := findClass_of_methodNamed B.named
  have hlocks := B.notSynchronized
  have hP : va_P D vwCl [(e0, .inr (0, [.ref d, .ref s0])), (d, .inr (1, [.int δ.1, .ref db])), (db, .inl (cA, 24, .inl δ.2)), (s0, .inr (3, [.ref f])), (f, .inr (2, [.ref w, .int σ.2.1, .int σ.2.2])), (w, .inl (cA, 66, .inl σ.1))] s.heap := hP
  have hl := lv_entry ([.ref e0, .int p0, .int p1]) (n := 4) (Nat.le_of_ble_eq_true rfl)
  rw [lg_entry_eq]
  generalize (lg_sl ([.ref e0, .int p0, .int p1]) ++ List.replicate (4 - (lg_sl ([.ref e0, .int p0, .int p1])).length) Slot.unset).toArray = ls at hl ⊢
  have hl : lv_has ls 4 [(0, .ref e0), (1, .int p0), (2, .int p1)] := hl
  refine lv_aload_n hx hb dX0_pieceLength_0 rfl (lv_at hl 0 rfl) ?_
  refine lv_iload_n hx hb dX0_pieceLength_1 rfl (lv_at hl 1 rfl) ?_
  refine lv_iload_n hx hb dX0_pieceLength_2 rfl (lv_at hl 2 rfl) ?_
  refine bx_ri (va_runV (As := [.int p0, .int p1]) (rest := []) ⟨hx, hb, hml, hown, hts⟩ (c_X0_runFrom l D cA e0 d db s0 f w δ σ p0 p1) (cwV 2 hts gX0_pieceLength_X0_runFrom rfl rfl rfl (by decide +kernel) ⟨Nat.le_of_ble_eq_true rfl, Nat.le_of_ble_eq_true rfl⟩) (bx_pvr (ci := 0) (q0 := 0) hK hG (hP.sub (ws' := [(e0, .inr (0, [.ref d, .ref s0])), (d, .inr (1, [.int δ.1, .ref db])), (db, .inl (cA, 24, .inl δ.2)), (s0, .inr (3, [.ref f])), (f, .inr (2, [.ref w, .int σ.2.1, .int σ.2.2])), (w, .inl (cA, 66, .inl σ.1))]) [0, 1, 2, 3, 4, 5] rfl) rfl rfl) rfl rfl hl.1 rfl (lv_room (Nat.le_of_ble_eq_true rfl)) dX0_pieceLength_3 ⟨Nat.zero_le _, Nat.zero_le _⟩) (fun r_1 h_2 => ?_)
  have h_2 := h_2.symm
  subst h_2
  refine lv_istore_n (lv' := [(3, .int (F_X0_runFrom δ σ p0 p1)), (0, .ref e0), (1, .int p0), (2, .int p1)]) hx hb dX0_pieceLength_6 rfl hl (by decide) rfl (fun ls hl => ?_)
  refine lv_iload_n hx hb dX0_pieceLength_7 rfl (lv_at hl 0 rfl) ?_
  refine lv_iconst (v := (-1)) hx hb dX0_pieceLength_8 (by decide) ?_
  refine lv_icmp_ne (tgt := 16) hx hb dX0_pieceLength_9 (by decide) (fun c_3 => ?_) (fun c_3 => ?_)
  · skip
    refine lv_aload_n hx hb dX0_pieceLength_16 rfl (lv_at hl 1 rfl) ?_
    refine lv_iload_n hx hb dX0_pieceLength_17 rfl (lv_at hl 2 rfl) ?_
    refine lv_iload_n hx hb dX0_pieceLength_18 rfl (lv_at hl 0 rfl) ?_
    refine lv_iload_n hx hb dX0_pieceLength_19 rfl (lv_at hl 3 rfl) ?_
    refine bx_ri (va_runV (As := [.int p0, .int (F_X0_runFrom δ σ p0 p1), .int p1]) (rest := []) ⟨hx, hb, hml, hown, hts⟩ (c_X0_matchLength l D cA e0 d db s0 f w δ σ p0 (F_X0_runFrom δ σ p0 p1) p1) (cwV 3 hts gX0_pieceLength_X0_matchLength rfl rfl rfl (by decide +kernel) ⟨Nat.le_of_ble_eq_true rfl, Nat.le_of_ble_eq_true rfl⟩) (bx_pvr (ci := 0) (q0 := 0) hK hG (hP.sub (ws' := [(e0, .inr (0, [.ref d, .ref s0])), (d, .inr (1, [.int δ.1, .ref db])), (db, .inl (cA, 24, .inl δ.2)), (s0, .inr (3, [.ref f])), (f, .inr (2, [.ref w, .int σ.2.1, .int σ.2.2])), (w, .inl (cA, 66, .inl σ.1))]) [0, 1, 2, 3, 4, 5] rfl) rfl rfl) rfl rfl hl.1 rfl (lv_room (Nat.le_of_ble_eq_true rfl)) dX0_pieceLength_20 ⟨Nat.zero_le _, Nat.zero_le _⟩) (fun r_4 h_5 => ?_)
    have h_5 := h_5.symm
    subst h_5
    exact W.iret (v := (F_X0_matchLength δ σ p0 (F_X0_runFrom δ σ p0 p1) p1)) hx hb hr (fun t ht hW => ⟨(F_X0_matchLength δ σ p0 (F_X0_runFrom δ σ p0 p1) p1), rfl, (by simp only [F_X0_pieceLength, if_neg c_3]), ht⟩) (fun _ h => nomatch h) dX0_pieceLength_23
  · skip
    refine lv_iconst (v := 1) hx hb dX0_pieceLength_12 (by decide) ?_
    refine lv_goto (tgt := 23) hx hb dX0_pieceLength_13 (by decide) ?_
    exact W.iret (v := 1) hx hb hr (fun t ht hW => ⟨1, rfl, (by simp only [F_X0_pieceLength, if_pos c_3]), ht⟩) (fun _ h => nomatch h) dX0_pieceLength_23
def pcN (pl : Int32 → Int32) (sz : Int32) : Nat → Int32 → Int32 → Int32
  | 0, _, p => p
  | n + 1, st, p => if sz ≤ st then p else pcN pl sz n (st + pl st) (p + 1)
def F_X0_pieceCount (δ : DS) (σ : FS) (p0 : Int32) : Int32 := pcN (fun st => F_X0_pieceLength δ σ p0 st) δ.1 24 0 0
def psN (pl : Int32 → Int32) (sz : Int32) : Nat → Int32 → Int32
  | 0, st => st
  | n + 1, st => if sz ≤ st then st else psN pl sz n (st + pl st)
def F_X0_pieceStart (δ : DS) (σ : FS) (p0 p1 : Int32) : Int32 := if p1 < 0 then -1 else if δ.1 ≤ psN (fun st => F_X0_pieceLength δ σ p0 st) δ.1 p1.toNatClampNeg 0 then -1 else psN (fun st => F_X0_pieceLength δ σ p0 st) δ.1 p1.toNatClampNeg 0
 
set_option maxHeartbeats 4000000 in
set_option maxRecDepth 100000 in
theorem c_X0_pieceCount (l : Launch) (D : va_G) (cA : ClassId) (e0 d db s0 f w : Nat) (δ : DS) (σ : FS) (p0 : Int32) : Met l yX0_pieceCount wsX0_pieceCount ({ frames := 5, cells := 0, slots := 0, locals := 118 }) (va_Pc [.ref e0, .int p0] (bx_ro D [(cA, .int)] (wDe cA e0 d db s0 f w δ σ))) (vp_Si (fun r => r = F_X0_pieceCount δ σ p0)) 0 0 (fun _ => False) := by
  refine Met.ofW (cc := cX0_pieceCount) (maxL := 4) (ret := (some .int)) (by decide) rfl ?_
  intro p e s m args below meth c s₁ B hml hv
  obtain ⟨rfl, hP, hK, hG⟩ := hv
  have hx := B.exec
  have hb := B.bytes
  have hr := B.returns
  have hts := atoms_spec (ws := wsX0_pieceCount) B.pre
  have hown : s.vm.findClass RX0 = some m.cls := findClass_of_methodNamed B.named
  have hlocks := B.notSynchronized
  have hP : va_P D vwCl [(e0, .inr (0, [.ref d, .ref s0])), (d, .inr (1, [.int δ.1, .ref db])), (db, .inl (cA, 24, .inl δ.2)), (s0, .inr (3, [.ref f])), (f, .inr (2, [.ref w, .int σ.2.1, .int σ.2.2])), (w, .inl (cA, 66, .inl σ.1))] s.heap := hP
  have hl := lv_entry ([.ref e0, .int p0]) (n := 4) (Nat.le_of_ble_eq_true rfl)
  rw [lg_entry_eq]
  generalize (lg_sl ([.ref e0, .int p0]) ++ List.replicate (4 - (lg_sl ([.ref e0, .int p0])).length) Slot.unset).toArray = ls at hl ⊢
  have hl : lv_has ls 4 [(0, .ref e0), (1, .int p0)] := hl
  have hi0 : ∀ w ∈ u_ws RX0 TX0 2, w ∈ wsX0_pieceCount := by decide +kernel
  have hi1 : ∀ w ∈ u_ws RX1 TX1 2, w ∈ wsX0_pieceCount := by decide +kernel
  refine lv_iconst (v := 0) hx hb dX0_pieceCount_0 (by decide) ?_
  refine lv_istore_n (lv' := [(2, .int 0), (0, .ref e0), (1, .int p0)]) hx hb dX0_pieceCount_1 rfl hl (by decide) rfl (fun ls hl => ?_)
  refine lv_iconst (v := 0) hx hb dX0_pieceCount_2 (by decide) ?_
  refine lv_istore_n (lv' := [(3, .int 0), (2, .int 0), (0, .ref e0), (1, .int p0)]) hx hb dX0_pieceCount_3 rfl hl (by decide) rfl (fun ls hl => ?_)
  have loop4 : ∀ (n : Nat) (j : Nat) (k q : Int32), 24 - j < n → j ≤ 24 → k = nI j → pcN (fun st => F_X0_pieceLength δ σ p0 st) δ.1 (24 - j) q k = F_X0_pieceCount δ σ p0 → ∀ (ls : Array Slot), lv_has ls 4 [(3, .int q), (2, .int k), (0, .ref e0), (1, .int p0)] → W p l e (headSpec wsX0_pieceCount ({ frames := 5, cells := 0, slots := 0, locals := 118 })).room s m ([.ref e0, .int p0] : List Value).toArray below meth c s.heap [] 0 0 (MQ below (vp_Si (fun r => r = F_X0_pieceCount δ σ p0)) ([.ref e0, .int p0] : List Value).toArray s 0 0 (fun _ => False)) (F0 m 4 ls []) := by
    intro n
    induction n with
    | zero =>
      intro j k q h_f ij ik ie ls hl
      exact absurd h_f (Nat.not_lt_zero _)
    | succ n ih4 =>
      intro j k q h_f ij ik ie ls hl
      refine lv_iload_n hx hb dX0_pieceCount_4 rfl (lv_at hl 1 rfl) ?_
      refine lv_bipush (v := 24) hx hb dX0_pieceCount_5 (by decide) ?_
      refine lv_icmp_ge (tgt := 36) hx hb dX0_pieceCount_7 (by decide) (fun c_1 => ?_) (fun c_1 => ?_)
      · skip
        have hm : k = F_X0_pieceCount δ σ p0 := by
          have h9 : 24 ≤ j := (bx_le (N := 24) (by omega)).mp (ik ▸ c_1)
          rw [← ie, Nat.sub_eq_zero_of_le h9, pcN]
        refine lv_iload_n hx hb dX0_pieceCount_36 rfl (lv_at hl 1 rfl) ?_
        exact W.iret (v := k) hx hb hr (fun t ht hW => ⟨k, rfl, hm, ht⟩) (fun _ h => nomatch h) dX0_pieceCount_37
      · skip
        have hj : j < 24 := Nat.lt_of_not_le (fun h => c_1 (by rw [ik]; exact (bx_le (by omega)).mpr h))
        refine lv_iload_n hx hb dX0_pieceCount_10 rfl (lv_at hl 0 rfl) ?_
        refine lv_aload_n hx hb dX0_pieceCount_11 rfl (lv_at hl 2 rfl) ?_
        refine va_get (D := D) (ci := 0) (v := .ref d) (C := RX0) (T := TX0) (N := 2) hx hb hts hi0 hown hK hP 0 rfl rfl 0 (by decide) (hts (.fieldLink RX0 9 "Bootstay$Delta" "draft" "LBootstay$Draft;") (by decide +kernel)) (fun _ h9 => h9) rfl dX0_pieceCount_12 ?_
        refine va_get (D := D) (ci := 1) (v := .int δ.1) (C := RX1) (T := TX1) (N := 2) hx hb hts hi1 hown hK hP 1 rfl rfl 0 (by decide) (hts (.fieldLink RX0 19 "Bootstay$Draft" "size" "I") (by decide +kernel)) (fun _ h9 => h9) rfl dX0_pieceCount_15 ?_
        refine lv_icmp_ge (tgt := 36) hx hb dX0_pieceCount_18 (by decide) (fun c_2 => ?_) (fun c_2 => ?_)
        · skip
          have hm : k = F_X0_pieceCount δ σ p0 := by
            rw [← ie, (show 24 - j = (24 - (j + 1)) + 1 by omega), pcN, if_pos c_2]
          refine lv_iload_n hx hb dX0_pieceCount_36 rfl (lv_at hl 1 rfl) ?_
          exact W.iret (v := k) hx hb hr (fun t ht hW => ⟨k, rfl, hm, ht⟩) (fun _ h => nomatch h) dX0_pieceCount_37
        · skip
          refine lv_iload_n hx hb dX0_pieceCount_21 rfl (lv_at hl 0 rfl) ?_
          refine lv_aload_n hx hb dX0_pieceCount_22 rfl (lv_at hl 2 rfl) ?_
          refine lv_iload_n hx hb dX0_pieceCount_23 rfl (lv_at hl 3 rfl) ?_
          refine lv_iload_n hx hb dX0_pieceCount_24 rfl (lv_at hl 0 rfl) ?_
          refine bx_ri (va_runV (As := [.int p0, .int q]) (rest := [.int q]) ⟨hx, hb, hml, hown, hts⟩ (c_X0_pieceLength l D cA e0 d db s0 f w δ σ p0 q) (cwV 2 hts gX0_pieceCount_X0_pieceLength rfl rfl rfl (by decide +kernel) ⟨Nat.le_of_ble_eq_true rfl, Nat.le_of_ble_eq_true rfl⟩) (bx_pvr (ci := 0) (q0 := 0) hK hG (hP.sub (ws' := [(e0, .inr (0, [.ref d, .ref s0])), (d, .inr (1, [.int δ.1, .ref db])), (db, .inl (cA, 24, .inl δ.2)), (s0, .inr (3, [.ref f])), (f, .inr (2, [.ref w, .int σ.2.1, .int σ.2.2])), (w, .inl (cA, 66, .inl σ.1))]) [0, 1, 2, 3, 4, 5] rfl) rfl rfl) rfl rfl hl.1 rfl (lv_room (Nat.le_of_ble_eq_true rfl)) dX0_pieceCount_25 ⟨Nat.zero_le _, Nat.zero_le _⟩) (fun r_3 h_4 => ?_)
          have h_4 := h_4.symm
          subst h_4
          refine lv_iadd hx hb dX0_pieceCount_28 ?_
          refine lv_istore_n (lv' := [(3, .int (q + (F_X0_pieceLength δ σ p0 q))), (2, .int k), (0, .ref e0), (1, .int p0)]) hx hb dX0_pieceCount_29 rfl hl (by decide) rfl (fun ls hl => ?_)
          refine lv_iinc (v := (k + 1)) (lv' := [(2, .int (k + 1)), (3, .int (q + (F_X0_pieceLength δ σ p0 q))), (0, .ref e0), (1, .int p0)]) hx hb dX0_pieceCount_30 hl (k := 1) rfl rfl (by decide) rfl (fun ls hl => ?_)
          refine lv_goto (tgt := 4) hx hb dX0_pieceCount_33 (by decide) ?_
          exact ih4 (j + 1) (k + 1) (q + (F_X0_pieceLength δ σ p0 q)) (by omega) hj (by rw [ik]; exact nI_1 j) (by rw [← ie, (show 24 - j = (24 - (j + 1)) + 1 by omega), pcN, if_neg c_2]) ls (lv_sub hl [1, 0, 2, 3] rfl)
  exact loop4 25 0 0 0 (by omega) (Nat.zero_le _) nI_0.symm rfl ls (lv_sub hl [0, 1, 2, 3] rfl)
 
set_option maxHeartbeats 4000000 in
set_option maxRecDepth 100000 in
theorem c_X0_pieceStart (l : Launch) (D : va_G) (cA : ClassId) (e0 d db s0 f w : Nat) (δ : DS) (σ : FS) (p0 : Int32) (p1 : Int32) : Met l yX0_pieceStart wsX0_pieceStart ({ frames := 5, cells := 0, slots := 0, locals := 118 }) (va_Pc [.ref e0, .int p0, .int p1] (bx_ro D [(cA, .int)] (wDe cA e0 d db s0 f w δ σ))) (vp_Si (fun r => r = F_X0_pieceStart δ σ p0 p1)) 0 0 (fun _ => False) := by
  refine Met.ofW (cc := cX0_pieceStart) (maxL := 5) (ret := (some .int)) (by decide) rfl ?_
  intro p e s m args below meth c s₁ B hml hv
  obtain ⟨rfl, hP, hK, hG⟩ := hv
  have hx := B.exec
  have hb := B.bytes
  have hr := B.returns
  have hts := atoms_spec (ws := wsX0_pieceStart) B.pre
  have hown : s.vm.findClass RX0 = some m.cls := findClass_of_methodNamed B.named
  have hlocks := B.notSynchronized
  have hP : va_P D vwCl [(e0, .inr (0, [.ref d, .ref s0])), (d, .inr (1, [.int δ.1, .ref db])), (db, .inl (cA, 24, .inl δ.2)), (s0, .inr (3, [.ref f])), (f, .inr (2, [.ref w, .int σ.2.1, .int σ.2.2])), (w, .inl (cA, 66, .inl σ.1))] s.heap := hP
  have hl := lv_entry ([.ref e0, .int p0, .int p1]) (n := 5) (Nat.le_of_ble_eq_true rfl)
  rw [lg_entry_eq]
  generalize (lg_sl ([.ref e0, .int p0, .int p1]) ++ List.replicate (5 - (lg_sl ([.ref e0, .int p0, .int p1])).length) Slot.unset).toArray = ls at hl ⊢
  have hl : lv_has ls 5 [(0, .ref e0), (1, .int p0), (2, .int p1)] := hl
  have hi0 : ∀ w ∈ u_ws RX0 TX0 2, w ∈ wsX0_pieceStart := by decide +kernel
  have hi1 : ∀ w ∈ u_ws RX1 TX1 2, w ∈ wsX0_pieceStart := by decide +kernel
  refine lv_iconst (v := 0) hx hb dX0_pieceStart_0 (by decide) ?_
  refine lv_istore_n (lv' := [(3, .int 0), (0, .ref e0), (1, .int p0), (2, .int p1)]) hx hb dX0_pieceStart_1 rfl hl (by decide) rfl (fun ls hl => ?_)
  refine lv_iconst (v := 0) hx hb dX0_pieceStart_2 (by decide) ?_
  refine lv_istore (lv' := [(4, .int 0), (3, .int 0), (0, .ref e0), (1, .int p0), (2, .int p1)]) hx hb dX0_pieceStart_3 hl (by decide) rfl (fun ls hl => ?_)
  have loop5 : ∀ (n : Nat) (j : Nat) (q k : Int32), p1.toNatClampNeg - j < n → j ≤ p1.toNatClampNeg → k = nI j → psN (fun st => F_X0_pieceLength δ σ p0 st) δ.1 (p1.toNatClampNeg - j) q = psN (fun st => F_X0_pieceLength δ σ p0 st) δ.1 p1.toNatClampNeg 0 → ∀ (ls : Array Slot), lv_has ls 5 [(4, .int k), (3, .int q), (0, .ref e0), (1, .int p0), (2, .int p1)] → W p l e (headSpec wsX0_pieceStart ({ frames := 5, cells := 0, slots := 0, locals := 118 })).room s m ([.ref e0, .int p0, .int p1] : List Value).toArray below meth c s.heap [] 0 0 (MQ below (vp_Si (fun r => r = F_X0_pieceStart δ σ p0 p1)) ([.ref e0, .int p0, .int p1] : List Value).toArray s 0 0 (fun _ => False)) (F0 m 5 ls []) := by
    intro n
    induction n with
    | zero =>
      intro j q k h_f ij ik ie ls hl
      exact absurd h_f (Nat.not_lt_zero _)
    | succ n ih5 =>
      intro j q k h_f ij ik ie ls hl
      have hcl := bx_cl p1
      refine lv_iload hx hb dX0_pieceStart_5 (lv_at hl 0 rfl) ?_
      refine lv_iload_n hx hb dX0_pieceStart_7 rfl (lv_at hl 4 rfl) ?_
      refine lv_icmp_ge (tgt := 37) hx hb dX0_pieceStart_8 (by decide) (fun c_1 => ?_) (fun c_1 => ?_)
      · skip
        have hm : q = psN (fun st => F_X0_pieceLength δ σ p0 st) δ.1 p1.toNatClampNeg 0 := by
          have h9 : p1.toNatClampNeg ≤ j := (bx_le (N := p1) (by omega)).mp (ik ▸ c_1)
          rw [← ie, Nat.sub_eq_zero_of_le h9, psN]
        refine lv_iload_n hx hb dX0_pieceStart_37 rfl (lv_at hl 4 rfl) ?_
        refine lv_if_lt (tgt := 56) hx hb dX0_pieceStart_38 (by decide) (fun c_2 => ?_) (fun c_2 => ?_)
        · skip
          refine lv_iconst (v := (-1)) hx hb dX0_pieceStart_56 (by decide) ?_
          exact W.iret (v := (-1)) hx hb hr (fun t ht hW => ⟨(-1), rfl, (by unfold F_X0_pieceStart; rw [← hm]; simp only [if_pos c_2]), ht⟩) (fun _ h => nomatch h) dX0_pieceStart_57
        · skip
          refine lv_iload_n hx hb dX0_pieceStart_41 rfl (lv_at hl 1 rfl) ?_
          refine lv_aload_n hx hb dX0_pieceStart_42 rfl (lv_at hl 2 rfl) ?_
          refine va_get (D := D) (ci := 0) (v := .ref d) (C := RX0) (T := TX0) (N := 2) hx hb hts hi0 hown hK hP 0 rfl rfl 0 (by decide) (hts (.fieldLink RX0 9 "Bootstay$Delta" "draft" "LBootstay$Draft;") (by decide +kernel)) (fun _ h9 => h9) rfl dX0_pieceStart_43 ?_
          refine va_get (D := D) (ci := 1) (v := .int δ.1) (C := RX1) (T := TX1) (N := 2) hx hb hts hi1 hown hK hP 1 rfl rfl 0 (by decide) (hts (.fieldLink RX0 19 "Bootstay$Draft" "size" "I") (by decide +kernel)) (fun _ h9 => h9) rfl dX0_pieceStart_46 ?_
          refine lv_icmp_ge (tgt := 56) hx hb dX0_pieceStart_49 (by decide) (fun c_3 => ?_) (fun c_3 => ?_)
          · skip
            refine lv_iconst (v := (-1)) hx hb dX0_pieceStart_56 (by decide) ?_
            exact W.iret (v := (-1)) hx hb hr (fun t ht hW => ⟨(-1), rfl, (by unfold F_X0_pieceStart; rw [← hm]; simp only [if_neg c_2, if_pos c_3]), ht⟩) (fun _ h => nomatch h) dX0_pieceStart_57
          · skip
            refine lv_iload_n hx hb dX0_pieceStart_52 rfl (lv_at hl 1 rfl) ?_
            refine lv_goto (tgt := 57) hx hb dX0_pieceStart_53 (by decide) ?_
            exact W.iret (v := q) hx hb hr (fun t ht hW => ⟨q, rfl, (by unfold F_X0_pieceStart; rw [← hm]; simp only [if_neg c_2, if_neg c_3]), ht⟩) (fun _ h => nomatch h) dX0_pieceStart_57
      · skip
        have hj : j < p1.toNatClampNeg := Nat.lt_of_not_le (fun h => c_1 (by rw [ik]; exact (bx_le (by omega)).mpr h))
        refine lv_iload_n hx hb dX0_pieceStart_11 rfl (lv_at hl 1 rfl) ?_
        refine lv_aload_n hx hb dX0_pieceStart_12 rfl (lv_at hl 2 rfl) ?_
        refine va_get (D := D) (ci := 0) (v := .ref d) (C := RX0) (T := TX0) (N := 2) hx hb hts hi0 hown hK hP 0 rfl rfl 0 (by decide) (hts (.fieldLink RX0 9 "Bootstay$Delta" "draft" "LBootstay$Draft;") (by decide +kernel)) (fun _ h9 => h9) rfl dX0_pieceStart_13 ?_
        refine va_get (D := D) (ci := 1) (v := .int δ.1) (C := RX1) (T := TX1) (N := 2) hx hb hts hi1 hown hK hP 1 rfl rfl 0 (by decide) (hts (.fieldLink RX0 19 "Bootstay$Draft" "size" "I") (by decide +kernel)) (fun _ h9 => h9) rfl dX0_pieceStart_16 ?_
        refine lv_icmp_ge (tgt := 37) hx hb dX0_pieceStart_19 (by decide) (fun c_4 => ?_) (fun c_4 => ?_)
        · skip
          have hm : q = psN (fun st => F_X0_pieceLength δ σ p0 st) δ.1 p1.toNatClampNeg 0 := by
            rw [← ie, (show p1.toNatClampNeg - j = (p1.toNatClampNeg - (j + 1)) + 1 by omega), psN, if_pos c_4]
          refine lv_iload_n hx hb dX0_pieceStart_37 rfl (lv_at hl 4 rfl) ?_
          refine lv_if_lt (tgt := 56) hx hb dX0_pieceStart_38 (by decide) (fun c_5 => ?_) (fun c_5 => ?_)
          · skip
            refine lv_iconst (v := (-1)) hx hb dX0_pieceStart_56 (by decide) ?_
            exact W.iret (v := (-1)) hx hb hr (fun t ht hW => ⟨(-1), rfl, (by unfold F_X0_pieceStart; rw [← hm]; simp only [if_pos c_5]), ht⟩) (fun _ h => nomatch h) dX0_pieceStart_57
          · skip
            refine lv_iload_n hx hb dX0_pieceStart_41 rfl (lv_at hl 1 rfl) ?_
            refine lv_aload_n hx hb dX0_pieceStart_42 rfl (lv_at hl 2 rfl) ?_
            refine va_get (D := D) (ci := 0) (v := .ref d) (C := RX0) (T := TX0) (N := 2) hx hb hts hi0 hown hK hP 0 rfl rfl 0 (by decide) (hts (.fieldLink RX0 9 "Bootstay$Delta" "draft" "LBootstay$Draft;") (by decide +kernel)) (fun _ h9 => h9) rfl dX0_pieceStart_43 ?_
            refine va_get (D := D) (ci := 1) (v := .int δ.1) (C := RX1) (T := TX1) (N := 2) hx hb hts hi1 hown hK hP 1 rfl rfl 0 (by decide) (hts (.fieldLink RX0 19 "Bootstay$Draft" "size" "I") (by decide +kernel)) (fun _ h9 => h9) rfl dX0_pieceStart_46 ?_
            refine lv_icmp_ge (tgt := 56) hx hb dX0_pieceStart_49 (by decide) (fun c_6 => ?_) (fun c_6 => ?_)
            · skip
              refine lv_iconst (v := (-1)) hx hb dX0_pieceStart_56 (by decide) ?_
              exact W.iret (v := (-1)) hx hb hr (fun t ht hW => ⟨(-1), rfl, (by unfold F_X0_pieceStart; rw [← hm]; simp only [if_neg c_5, if_pos c_6]), ht⟩) (fun _ h => nomatch h) dX0_pieceStart_57
            · skip
              refine lv_iload_n hx hb dX0_pieceStart_52 rfl (lv_at hl 1 rfl) ?_
              refine lv_goto (tgt := 57) hx hb dX0_pieceStart_53 (by decide) ?_
              exact W.iret (v := q) hx hb hr (fun t ht hW => ⟨q, rfl, (by unfold F_X0_pieceStart; rw [← hm]; simp only [if_neg c_5, if_neg c_6]), ht⟩) (fun _ h => nomatch h) dX0_pieceStart_57
        · skip
          refine lv_iload_n hx hb dX0_pieceStart_22 rfl (lv_at hl 1 rfl) ?_
          refine lv_aload_n hx hb dX0_pieceStart_23 rfl (lv_at hl 2 rfl) ?_
          refine lv_iload_n hx hb dX0_pieceStart_24 rfl (lv_at hl 3 rfl) ?_
          refine lv_iload_n hx hb dX0_pieceStart_25 rfl (lv_at hl 1 rfl) ?_
          refine bx_ri (va_runV (As := [.int p0, .int q]) (rest := [.int q]) ⟨hx, hb, hml, hown, hts⟩ (c_X0_pieceLength l D cA e0 d db s0 f w δ σ p0 q) (cwV 2 hts gX0_pieceStart_X0_pieceLength rfl rfl rfl (by decide +kernel) ⟨Nat.le_of_ble_eq_true rfl, Nat.le_of_ble_eq_true rfl⟩) (bx_pvr (ci := 0) (q0 := 0) hK hG (hP.sub (ws' := [(e0, .inr (0, [.ref d, .ref s0])), (d, .inr (1, [.int δ.1, .ref db])), (db, .inl (cA, 24, .inl δ.2)), (s0, .inr (3, [.ref f])), (f, .inr (2, [.ref w, .int σ.2.1, .int σ.2.2])), (w, .inl (cA, 66, .inl σ.1))]) [0, 1, 2, 3, 4, 5] rfl) rfl rfl) rfl rfl hl.1 rfl (lv_room (Nat.le_of_ble_eq_true rfl)) dX0_pieceStart_26 ⟨Nat.zero_le _, Nat.zero_le _⟩) (fun r_7 h_8 => ?_)
          have h_8 := h_8.symm
          subst h_8
          refine lv_iadd hx hb dX0_pieceStart_29 ?_
          refine lv_istore_n (lv' := [(3, .int (q + (F_X0_pieceLength δ σ p0 q))), (4, .int k), (0, .ref e0), (1, .int p0), (2, .int p1)]) hx hb dX0_pieceStart_30 rfl hl (by decide) rfl (fun ls hl => ?_)
          refine lv_iinc (v := (k + 1)) (lv' := [(4, .int (k + 1)), (3, .int (q + (F_X0_pieceLength δ σ p0 q))), (0, .ref e0), (1, .int p0), (2, .int p1)]) hx hb dX0_pieceStart_31 hl (k := 1) rfl rfl (by decide) rfl (fun ls hl => ?_)
          refine lv_goto (tgt := 5) hx hb dX0_pieceStart_34 (by decide) ?_
          exact ih5 (j + 1) (q + (F_X0_pieceLength δ σ p0 q)) (k + 1) (by omega) hj (by rw [ik]; exact nI_1 j) (by rw [← ie, (show p1.toNatClampNeg - j = (p1.toNatClampNeg - (j + 1)) + 1 by omega), psN, if_neg c_4]) ls (lv_sub hl [0, 1, 2, 3, 4] rfl)
  exact loop5 (p1.toNatClampNeg + 1) 0 0 0 (by omega) (Nat.zero_le _) nI_0.symm rfl ls (lv_sub hl [0, 1, 2, 3, 4] rfl)
