theorem rw01 {k : Int32} (h : sl k) : F_X5_requireWithin k 0 1 = 0 := by rcases h with rfl | rfl <;> decide
theorem isv_0 {σ : FS} {k : Int32} (h : sl k) : (F_X5_isValid σ k).1 = 0 := by unfold F_X5_isValid; rw [if_pos (rw01 h)]
theorem ist_0 {σ : FS} {k : Int32} (h : sl k) : (F_X5_isStartable σ k).1 = 0 := by unfold F_X5_isStartable; rw [if_pos (rw01 h)]
theorem ver_0 {σ : FS} {k : Int32} (h : sl k) : (F_X5_version σ k).1 = 0 := by unfold F_X5_version; rw [if_pos (rw01 h)]
theorem img_0 {σ : FS} {k q : Int32} {j : Nat} (h : sl k) (iq : q = nI j) (hj : j < 24) : (F_X5_imageByte σ k q).1 = 0 := by
  subst iq
  unfold F_X5_imageByte
  rw [if_pos (rw01 h), if_neg (nI_pos (by omega)), if_pos (show nI j < 24 from nI_lt (b := 24) hj (by omega))]
theorem sl_n {k : Int32} {j : Nat} (ik : k = nI j) (hj : j < 2) : sl k := by
  subst ik
  have : j = 0 ∨ j = 1 := by omega
  rcases this with rfl | rfl
  · exact Or.inl rfl
  · exact Or.inr rfl
def F_L_isTold_j23 (mm : Nat → Int32) : Int32 := (if (rd mm 0) < 0 then 0 else 1)
def F_L_isTold_j65 (mm : Nat → Int32) (rr : Nat → Int32) : Int32 := (if (rd mm 0) < 0 then 0 else (if (rd mm 0) = ((rd rr ((4 * (F_L_best rr)) + 2)) &&& 1) then 0 else 1))
def F_L_isTold_j99 (mm : Nat → Int32) : Int32 := (if 0 ≤ (rd mm 3) then ((rd mm 5) - (rd mm 3)) else (-1))
def F_L_isTold_j151 (rr : Nat → Int32) : Int32 := (if (F_L_isDue rr) = 0 then 0 else ((rd rr ((4 * (F_L_best rr)) + 2)) >>> (2 &&& 31)))
def F_L_isTold_j184 (run : Int32) (mm : Nat → Int32) (σ : FS) (rr : Nat → Int32) (τ : TS) (ww : Nat → Int32) : Int32 := (if (F_X5_isOn run) = (F_L_isTold_j23 mm) then (if (F_X5_running run) = (rd mm 0) then (if (F_X5_isOnTrial σ run) = (F_L_isTold_j65 mm rr) then (if (F_X5_writes σ) = (rd mm 2) then (if (F_X5_toCome τ) = (F_L_isTold_j99 mm) then (if (F_X5_record σ) = ((4 * (F_L_best rr)) / 4) then (if (F_X5_confirmed σ) = ((rd rr ((4 * (F_L_best rr)) + 2)) &&& 1) then (if (F_X5_tries σ) = (F_L_isTold_j151 rr) then (if (F_X5_counter σ) = (rd rr ((4 * (F_L_best rr)) + 3)) then (if (F_X5_wouldStart σ) = (F_L_start ww rr) then 1 else 0) else 0) else 0) else 0) else 0) else 0) else 0) else 0) else 0) else 0)
def F_L_isTold_j253 (σ : FS) (k6 : Int32) (rr : Nat → Int32) (ww : Nat → Int32) : Int32 := (if ((F_X5_isValid σ k6).2) = (F_L_isValid rr k6) then (if ((F_X5_isStartable σ k6).2) = (F_L_isGood ww k6) then (if ((F_X5_version σ k6).2) = (rd ww ((32 * k6) + 1)) then 1 else 0) else 0) else 0)
def F_L_isTold_j298 (σ : FS) (k6 : Int32) (k7 : Int32) (ww : Nat → Int32) : Int32 := (if ((F_X5_imageByte σ k6 k7).2) = (rd ww (((32 * k6) + 5) + k7)) then 1 else 0)
/-- the bytes of slot k, from the place j on -/
def ibN (σ : FS) (ww : Nat → Int32) (k : Int32) : Nat → Nat → Int32 → Int32
  | 0, _, is => is
  | n + 1, j, is => if is = 0 then is else ibN σ ww k n (j + 1) (F_L_isTold_j298 σ k (nI j) ww)
/-- the slots and records, from k on -/
def otN (σ : FS) (ww rr : Nat → Int32) : Nat → Nat → Int32 → Int32
  | 0, _, is => is
  | n + 1, k, is => if is = 0 then is else otN σ ww rr n (k + 1) (ibN σ ww (nI k) 24 0 (F_L_isTold_j253 σ (nI k) rr ww))
def F_L_isTold (σ : FS) (τ : TS) (run : Int32) (ww : Nat → Int32) (rr : Nat → Int32) (mm : Nat → Int32) : Int32 := (let i5_45 := otN σ ww rr 2 0 (F_L_isTold_j184 run mm σ rr τ ww); (if i5_45 = 0 then 0 else (if (F_L_isGood ww ((rd rr ((4 * (F_L_best rr)) + 2)) &&& 1)) = 0 then 0 else 1)))
set_option maxHeartbeats 4000000 in
set_option maxRecDepth 100000 in
theorem c_L_isTold (l : Launch) (hl9 : l.stackTraces = false) (D : va_G) (cA : ClassId) (b s0 f w s2 f2 w2 t0 d db e0 wa ra ma : Nat) (σ : FS) (ρ : FS) (τ : TS) (δ : DS) (run : Int32) (ww : Nat → Int32) (rr : Nat → Int32) (mm : Nat → Int32) : Met l yL_isTold wsL_isTold ({ frames := 8, cells := 1, slots := 6, locals := 134 }) (va_Pc [.ref b, .ref wa, .ref ra, .ref ma] (bx_rox D [(cA, .int)] (wBT cA b s0 f w s2 f2 w2 t0 d db e0 wa ra ma σ ρ τ δ run ww rr mm))) (vp_Si (fun r => r = F_L_isTold σ τ run ww rr mm ∧ (r = 0 ∨ r = 1))) 1 6 (fun _ => False) := by
  refine Met.ofW (cc := cL_isTold) (maxL := 8) (ret := (some .boolean)) (by decide) rfl ?_
  intro p e s m args below meth c s₁ B hml hv
  obtain ⟨rfl, hP, hK, hG, hZ⟩ := hv
  have hx := B.exec
  have hb := B.bytes
  have hr := B.returns
  have hts := atoms_spec (ws := wsL_isTold) B.pre
  have hown : s.vm.findClass RL = some m.cls := findClass_of_methodNamed B.named
  have hlocks := B.notSynchronized
  have hS : va_S (fun _ => False) s.heap s.heap [] := va_S.rf
  have hP : va_P D vwCl [(b, .inr (5, [.ref s0, .ref s2, .ref t0, .ref d, .ref e0, .int run])), (s0, .inr (3, [.ref f])), (f, .inr (2, [.ref w, .int σ.2.1, .int σ.2.2])), (w, .inl (cA, 66, .inl σ.1)), (s2, .inr (3, [.ref f2])), (f2, .inr (2, [.ref w2, .int ρ.2.1, .int ρ.2.2])), (w2, .inl (cA, 66, .inl ρ.1)), (t0, .inr (4, [.int τ.1, .int τ.2.1, .int τ.2.2.1, .int τ.2.2.2.1, .int τ.2.2.2.2.1, .int τ.2.2.2.2.2])), (d, .inr (1, [.int δ.1, .ref db])), (db, .inl (cA, 24, .inl δ.2)), (e0, .inr (0, [.ref d, .ref s0])), (wa, .inl (cA, 64, .inl ww)), (ra, .inl (cA, 8, .inl rr)), (ma, .inl (cA, 8, .inl mm))] s.heap := hP
  have hl := lv_entry ([.ref b, .ref wa, .ref ra, .ref ma]) (n := 8) (Nat.le_of_ble_eq_true rfl)
  rw [lg_entry_eq]
  generalize (lg_sl ([.ref b, .ref wa, .ref ra, .ref ma]) ++ List.replicate (8 - (lg_sl ([.ref b, .ref wa, .ref ra, .ref ma])).length) Slot.unset).toArray = ls at hl ⊢
  have hl : lv_has ls 8 [(0, .ref b), (1, .ref wa), (2, .ref ra), (3, .ref ma)] := hl
  refine lv_iconst (v := 4) hx hb dL_isTold_0 (by decide) ?_
  refine lv_aload_n hx hb dL_isTold_1 rfl (lv_at hl 2 rfl) ?_
  refine bx_ri (va_runS (As := [.ref ra]) (rest := [.int 4]) ⟨hx, hb, hml, hown, hts⟩ (c_L_best l D cA ra rr) (va_cwS 1 hts gL_isTold_L_best rfl rfl rfl (by decide +kernel) ⟨Nat.le_of_ble_eq_true rfl, Nat.le_of_ble_eq_true rfl⟩) (bx_psr hK hG (hP.sub (ws' := [(ra, .inl (cA, 8, .inl rr))]) [12] rfl)) rfl rfl hl.1 rfl (lv_room (Nat.le_of_ble_eq_true rfl)) dL_isTold_2 ⟨show 0 + 0 ≤ 1 by omega, show 0 + 0 ≤ 6 by omega⟩) (fun r_1 h_2 => ?_)
  have h_2 := h_2.symm
  subst h_2
  refine lv_imul hx hb dL_isTold_5 ?_
  refine lv_istore (lv' := [(4, .int (4 * (F_L_best rr))), (0, .ref b), (1, .ref wa), (2, .ref ra), (3, .ref ma)]) hx hb dL_isTold_6 hl (by decide) rfl (fun ls hl => ?_)
  have jn184 : ∀ v : Int32, v = (F_L_isTold_j184 run mm σ rr τ ww) → ∀ ls : Array Slot, lv_has ls 8 [(4, .int (4 * (F_L_best rr))), (0, .ref b), (1, .ref wa), (2, .ref ra), (3, .ref ma)] → W p l e (headSpec wsL_isTold ({ frames := 8, cells := 1, slots := 6, locals := 134 })).room s m ([.ref b, .ref wa, .ref ra, .ref ma] : List Value).toArray below meth c s.heap [] 0 0 (MQ below (vp_Si (fun r => r = F_L_isTold σ τ run ww rr mm ∧ (r = 0 ∨ r = 1))) ([.ref b, .ref wa, .ref ra, .ref ma] : List Value).toArray s 1 6 (fun _ => False)) (F0 m 184 ls [.int v]) := by
    intro v hv ls hl
    subst hv
    refine lv_istore (lv' := [(5, .int (F_L_isTold_j184 run mm σ rr τ ww)), (4, .int (4 * (F_L_best rr))), (0, .ref b), (1, .ref wa), (2, .ref ra), (3, .ref ma)]) hx hb dL_isTold_184 hl (by decide) rfl (fun ls hl => ?_)
    refine lv_iconst (v := 0) hx hb dL_isTold_186 (by decide) ?_
    refine lv_istore (lv' := [(6, .int 0), (5, .int (F_L_isTold_j184 run mm σ rr τ ww)), (4, .int (4 * (F_L_best rr))), (0, .ref b), (1, .ref wa), (2, .ref ra), (3, .ref ma)]) hx hb dL_isTold_187 hl (by decide) rfl (fun ls hl => ?_)
    have ex312 : ∀ (i5_45 : Int32), i5_45 = otN σ ww rr 2 0 (F_L_isTold_j184 run mm σ rr τ ww) → ∀ ls : Array Slot, lv_has ls 8 [(5, .int i5_45), (4, .int (4 * (F_L_best rr))), (0, .ref b), (1, .ref wa), (2, .ref ra), (3, .ref ma)] → W p l e (headSpec wsL_isTold ({ frames := 8, cells := 1, slots := 6, locals := 134 })).room s m ([.ref b, .ref wa, .ref ra, .ref ma] : List Value).toArray below meth c s.heap [] 0 0 (MQ below (vp_Si (fun r => r = F_L_isTold σ τ run ww rr mm ∧ (r = 0 ∨ r = 1))) ([.ref b, .ref wa, .ref ra, .ref ma] : List Value).toArray s 1 6 (fun _ => False)) (F0 m 312 ls []) := by
      intro i5_45 hx_46 ls hl
      refine lv_iload hx hb dL_isTold_312 (lv_at hl 0 rfl) ?_
      refine lv_if_eq (tgt := 336) hx hb dL_isTold_314 (by decide) (fun c_47 => ?_) (fun c_47 => ?_)
      · skip
        refine lv_iconst (v := 0) hx hb dL_isTold_336 (by decide) ?_
        refine W.widen (k := 1) (n := 6) (by omega) (by omega) ?_
        exact W.zret (v := 0) hx hb hr rfl (fun t ht hW => ⟨0, rfl, ⟨(by simp only [F_L_isTold, if_pos c_47, ← hx_46]), (by decide)⟩, ht⟩) (fun _ h => nomatch h) dL_isTold_337
      · skip
        refine lv_aload_n hx hb dL_isTold_317 rfl (lv_at hl 3 rfl) ?_
        refine lv_aload_n hx hb dL_isTold_318 rfl (lv_at hl 4 rfl) ?_
        refine lv_iload hx hb dL_isTold_319 (lv_at hl 1 rfl) ?_
        refine lv_iconst (v := 2) hx hb dL_isTold_321 (by decide) ?_
        refine lv_iadd hx hb dL_isTold_322 ?_
        refine bx_ald (D := D) hx hb hK hP 12 0 rfl rfl (iyk (best_sl _) y4_2) dL_isTold_323 ?_
        refine lv_iconst (v := 1) hx hb dL_isTold_324 (by decide) ?_
        refine lv_iand hx hb dL_isTold_325 ?_
        refine bx_ri (va_runS (As := [.ref wa, .int ((rd rr ((4 * (F_L_best rr)) + 2)) &&& 1)]) (rest := []) ⟨hx, hb, hml, hown, hts⟩ (c_L_isGood l D cA wa ww ((rd rr ((4 * (F_L_best rr)) + 2)) &&& 1) (sl_and _)) (va_cwS 2 hts gL_isTold_L_isGood rfl rfl rfl (by decide +kernel) ⟨Nat.le_of_ble_eq_true rfl, Nat.le_of_ble_eq_true rfl⟩) (bx_psr hK hG (hP.sub (ws' := [(wa, .inl (cA, 64, .inl ww))]) [11] rfl)) rfl rfl hl.1 rfl (lv_room (Nat.le_of_ble_eq_true rfl)) dL_isTold_326 ⟨show 0 + 0 ≤ 1 by omega, show 0 + 0 ≤ 6 by omega⟩) (fun r_48 h_49 => ?_)
        obtain ⟨h_49, b_50⟩ := h_49
        have h_49 := h_49.symm
        subst h_49
        refine lv_if_eq (tgt := 336) hx hb dL_isTold_329 (by decide) (fun c_51 => ?_) (fun c_51 => ?_)
        · skip
          refine lv_iconst (v := 0) hx hb dL_isTold_336 (by decide) ?_
          refine W.widen (k := 1) (n := 6) (by omega) (by omega) ?_
          exact W.zret (v := 0) hx hb hr rfl (fun t ht hW => ⟨0, rfl, ⟨(by simp only [F_L_isTold, if_neg c_47, if_pos c_51, ← hx_46]), (by decide)⟩, ht⟩) (fun _ h => nomatch h) dL_isTold_337
        · skip
          refine lv_iconst (v := 1) hx hb dL_isTold_332 (by decide) ?_
          refine lv_goto (tgt := 337) hx hb dL_isTold_333 (by decide) ?_
          refine W.widen (k := 1) (n := 6) (by omega) (by omega) ?_
          exact W.zret (v := 1) hx hb hr rfl (fun t ht hW => ⟨1, rfl, ⟨(by simp only [F_L_isTold, if_neg c_47, if_neg c_51, ← hx_46]), (by decide)⟩, ht⟩) (fun _ h => nomatch h) dL_isTold_337
    have loop189 : ∀ (n : Nat) (j6 : Nat) (i5 : Int32) (k6 : Int32), 2 - j6 < n → (j6 ≤ 2) → (k6 = nI j6) → (otN σ ww rr (2 - j6) j6 i5 = otN σ ww rr 2 0 (F_L_isTold_j184 run mm σ rr τ ww)) → ∀ (ls : Array Slot), lv_has ls 8 [(6, .int k6), (5, .int i5), (4, .int (4 * (F_L_best rr))), (0, .ref b), (1, .ref wa), (2, .ref ra), (3, .ref ma)] → W p l e (headSpec wsL_isTold ({ frames := 8, cells := 1, slots := 6, locals := 134 })).room s m ([.ref b, .ref wa, .ref ra, .ref ma] : List Value).toArray below meth c s.heap [] 0 0 (MQ below (vp_Si (fun r => r = F_L_isTold σ τ run ww rr mm ∧ (r = 0 ∨ r = 1))) ([.ref b, .ref wa, .ref ra, .ref ma] : List Value).toArray s 1 6 (fun _ => False)) (F0 m 189 ls []) := by
      intro n
      induction n with
      | zero =>
        intro j6 i5 k6 h_f ij6 ik6 ie6 ls hl
        exact absurd h_f (Nat.not_lt_zero _)
      | succ n ih189 =>
        intro j6 i5 k6 h_f ij6 ik6 ie6 ls hl
        refine lv_iload hx hb dL_isTold_189 (lv_at hl 0 rfl) ?_
        refine lv_iconst (v := 2) hx hb dL_isTold_191 (by decide) ?_
        refine lv_icmp_ge (tgt := 312) hx hb dL_isTold_192 (by decide) (fun c_52 => ?_) (fun c_52 => ?_)
        · skip
          exact ex312 i5 (by rw [← ie6, (show 2 - j6 = 0 by have := (nI_leI (a := 2) (b := j6) (by omega) (by omega)).mp (by have h9 := c_52; rw [ik6] at h9; exact h9); omega), otN]) ls (lv_sub hl [1, 2, 3, 4, 5, 6] rfl)
        · skip
          have hj6 : j6 < 2 := Nat.lt_of_not_le (fun h => c_52 (by rw [ik6]; exact nI_le (a := 2) h (by omega)))
          refine lv_iload hx hb dL_isTold_195 (lv_at hl 1 rfl) ?_
          refine lv_if_eq (tgt := 312) hx hb dL_isTold_197 (by decide) (fun c_53 => ?_) (fun c_53 => ?_)
          · skip
            exact ex312 i5 (by rw [← ie6, (show 2 - j6 = (2 - (j6 + 1)) + 1 by omega), otN, if_pos c_53]) ls (lv_sub hl [1, 2, 3, 4, 5, 6] rfl)
          · skip
            have jn253 : ∀ v : Int32, v = (F_L_isTold_j253 σ k6 rr ww) → ∀ ls : Array Slot, lv_has ls 8 [(6, .int k6), (5, .int i5), (4, .int (4 * (F_L_best rr))), (0, .ref b), (1, .ref wa), (2, .ref ra), (3, .ref ma)] → W p l e (headSpec wsL_isTold ({ frames := 8, cells := 1, slots := 6, locals := 134 })).room s m ([.ref b, .ref wa, .ref ra, .ref ma] : List Value).toArray below meth c s.heap [] 0 0 (MQ below (vp_Si (fun r => r = F_L_isTold σ τ run ww rr mm ∧ (r = 0 ∨ r = 1))) ([.ref b, .ref wa, .ref ra, .ref ma] : List Value).toArray s 1 6 (fun _ => False)) (F0 m 253 ls [.int v]) := by
              intro v hv ls hl
              subst hv
              refine lv_istore (lv' := [(5, .int (F_L_isTold_j253 σ k6 rr ww)), (6, .int k6), (4, .int (4 * (F_L_best rr))), (0, .ref b), (1, .ref wa), (2, .ref ra), (3, .ref ma)]) hx hb dL_isTold_253 hl (by decide) rfl (fun ls hl => ?_)
              refine lv_iconst (v := 0) hx hb dL_isTold_255 (by decide) ?_
              refine lv_istore (lv' := [(7, .int 0), (5, .int (F_L_isTold_j253 σ k6 rr ww)), (6, .int k6), (4, .int (4 * (F_L_best rr))), (0, .ref b), (1, .ref wa), (2, .ref ra), (3, .ref ma)]) hx hb dL_isTold_256 hl (by decide) rfl (fun ls hl => ?_)
              have ex306 : ∀ (i5_71 : Int32), i5_71 = ibN σ ww k6 24 0 (F_L_isTold_j253 σ k6 rr ww) → ∀ ls : Array Slot, lv_has ls 8 [(5, .int i5_71), (6, .int k6), (4, .int (4 * (F_L_best rr))), (0, .ref b), (1, .ref wa), (2, .ref ra), (3, .ref ma)] → W p l e (headSpec wsL_isTold ({ frames := 8, cells := 1, slots := 6, locals := 134 })).room s m ([.ref b, .ref wa, .ref ra, .ref ma] : List Value).toArray below meth c s.heap [] 0 0 (MQ below (vp_Si (fun r => r = F_L_isTold σ τ run ww rr mm ∧ (r = 0 ∨ r = 1))) ([.ref b, .ref wa, .ref ra, .ref ma] : List Value).toArray s 1 6 (fun _ => False)) (F0 m 306 ls []) := by
                intro i5_71 hx_72 ls hl
                refine lv_iinc (v := (k6 + 1)) (lv' := [(6, .int (k6 + 1)), (5, .int i5_71), (4, .int (4 * (F_L_best rr))), (0, .ref b), (1, .ref wa), (2, .ref ra), (3, .ref ma)]) hx hb dL_isTold_306 hl (k := 1) rfl rfl (by decide) rfl (fun ls hl => ?_)
                refine lv_goto (tgt := 189) hx hb dL_isTold_309 (by decide) ?_
                exact ih189 (j6 + 1) i5_71 (k6 + 1) (by omega) (by omega) (by rw [ik6]; exact nI_1 j6) (by rw [hx_72, ← ie6, (show 2 - j6 = (2 - (j6 + 1)) + 1 by omega), otN, if_neg c_53, ik6]) ls (lv_sub hl [0, 1, 2, 3, 4, 5, 6] rfl)
              have loop258 : ∀ (n : Nat) (j7 : Nat) (i7 : Int32) (k7 : Int32), 24 - j7 < n → (j7 ≤ 24) → (k7 = nI j7) → (ibN σ ww k6 (24 - j7) j7 i7 = ibN σ ww k6 24 0 (F_L_isTold_j253 σ k6 rr ww)) → ∀ (ls : Array Slot), lv_has ls 8 [(7, .int k7), (5, .int i7), (6, .int k6), (4, .int (4 * (F_L_best rr))), (0, .ref b), (1, .ref wa), (2, .ref ra), (3, .ref ma)] → W p l e (headSpec wsL_isTold ({ frames := 8, cells := 1, slots := 6, locals := 134 })).room s m ([.ref b, .ref wa, .ref ra, .ref ma] : List Value).toArray below meth c s.heap [] 0 0 (MQ below (vp_Si (fun r => r = F_L_isTold σ τ run ww rr mm ∧ (r = 0 ∨ r = 1))) ([.ref b, .ref wa, .ref ra, .ref ma] : List Value).toArray s 1 6 (fun _ => False)) (F0 m 258 ls []) := by
                intro n
                induction n with
                | zero =>
                  intro j7 i7 k7 h_f ij7 ik7 ie7 ls hl
                  exact absurd h_f (Nat.not_lt_zero _)
                | succ n ih258 =>
                  intro j7 i7 k7 h_f ij7 ik7 ie7 ls hl
                  refine lv_iload hx hb dL_isTold_258 (lv_at hl 0 rfl) ?_
                  refine lv_bipush (v := 24) hx hb dL_isTold_260 (by decide) ?_
                  refine lv_icmp_ge (tgt := 306) hx hb dL_isTold_262 (by decide) (fun c_73 => ?_) (fun c_73 => ?_)
                  · skip
                    exact ex306 i7 (by rw [← ie7, (show 24 - j7 = 0 by have := (nI_leI (a := 24) (b := j7) (by omega) (by omega)).mp (by have h9 := c_73; rw [ik7] at h9; exact h9); omega), ibN]) ls (lv_sub hl [1, 2, 3, 4, 5, 6, 7] rfl)
                  · skip
                    have hj7 : j7 < 24 := Nat.lt_of_not_le (fun h => c_73 (by rw [ik7]; exact nI_le (a := 24) h (by omega)))
                    refine lv_iload hx hb dL_isTold_265 (lv_at hl 1 rfl) ?_
                    refine lv_if_eq (tgt := 306) hx hb dL_isTold_267 (by decide) (fun c_74 => ?_) (fun c_74 => ?_)
                    · skip
                      exact ex306 i7 (by rw [← ie7, (show 24 - j7 = (24 - (j7 + 1)) + 1 by omega), ibN, if_pos c_74]) ls (lv_sub hl [1, 2, 3, 4, 5, 6, 7] rfl)
                    · skip
                      have jn298 : ∀ v : Int32, v = (F_L_isTold_j298 σ k6 k7 ww) → ∀ ls : Array Slot, lv_has ls 8 [(7, .int k7), (5, .int i7), (6, .int k6), (4, .int (4 * (F_L_best rr))), (0, .ref b), (1, .ref wa), (2, .ref ra), (3, .ref ma)] → W p l e (headSpec wsL_isTold ({ frames := 8, cells := 1, slots := 6, locals := 134 })).room s m ([.ref b, .ref wa, .ref ra, .ref ma] : List Value).toArray below meth c s.heap [] 0 0 (MQ below (vp_Si (fun r => r = F_L_isTold σ τ run ww rr mm ∧ (r = 0 ∨ r = 1))) ([.ref b, .ref wa, .ref ra, .ref ma] : List Value).toArray s 1 6 (fun _ => False)) (F0 m 298 ls [.int v]) := by
                        intro v hv ls hl
                        subst hv
                        refine lv_istore (lv' := [(5, .int (F_L_isTold_j298 σ k6 k7 ww)), (7, .int k7), (6, .int k6), (4, .int (4 * (F_L_best rr))), (0, .ref b), (1, .ref wa), (2, .ref ra), (3, .ref ma)]) hx hb dL_isTold_298 hl (by decide) rfl (fun ls hl => ?_)
                        refine lv_iinc (v := (k7 + 1)) (lv' := [(7, .int (k7 + 1)), (5, .int (F_L_isTold_j298 σ k6 k7 ww)), (6, .int k6), (4, .int (4 * (F_L_best rr))), (0, .ref b), (1, .ref wa), (2, .ref ra), (3, .ref ma)]) hx hb dL_isTold_300 hl (k := 1) rfl rfl (by decide) rfl (fun ls hl => ?_)
                        refine lv_goto (tgt := 258) hx hb dL_isTold_303 (by decide) ?_
                        exact ih258 (j7 + 1) (F_L_isTold_j298 σ k6 k7 ww) (k7 + 1) (by omega) (by omega) (by rw [ik7]; exact nI_1 j7) (by rw [← ie7, (show 24 - j7 = (24 - (j7 + 1)) + 1 by omega), ibN, if_neg c_74, ik7]) ls (lv_sub hl [0, 1, 2, 3, 4, 5, 6, 7] rfl)
                      refine lv_aload_n hx hb dL_isTold_270 rfl (lv_at hl 4 rfl) ?_
                      refine lv_iload hx hb dL_isTold_271 (lv_at hl 2 rfl) ?_
                      refine lv_iload hx hb dL_isTold_273 (lv_at hl 0 rfl) ?_
                      refine bx_nri (img_0 (sl_n ik6 hj6) ik7 hj7) (vx_runV (As := [.int k6, .int k7]) (rest := []) ⟨hx, hb, hml, hown, hts⟩ (c_X5_imageByte l hl9 D cA b s0 f w s2 f2 w2 t0 d db e0 σ ρ τ δ run k6 k7) (cwV 2 hts gL_isTold_X5_imageByte rfl rfl rfl (by decide +kernel) ⟨Nat.le_of_ble_eq_true rfl, Nat.le_of_ble_eq_true rfl⟩) (bx_pvrx (ci := 5) (q0 := 0) hK hG hZ (hP.sub (ws' := [(b, .inr (5, [.ref s0, .ref s2, .ref t0, .ref d, .ref e0, .int run])), (s0, .inr (3, [.ref f])), (f, .inr (2, [.ref w, .int σ.2.1, .int σ.2.2])), (w, .inl (cA, 66, .inl σ.1)), (s2, .inr (3, [.ref f2])), (f2, .inr (2, [.ref w2, .int ρ.2.1, .int ρ.2.2])), (w2, .inl (cA, 66, .inl ρ.1)), (t0, .inr (4, [.int τ.1, .int τ.2.1, .int τ.2.2.1, .int τ.2.2.2.1, .int τ.2.2.2.2.1, .int τ.2.2.2.2.2])), (d, .inr (1, [.int δ.1, .ref db])), (db, .inl (cA, 24, .inl δ.2)), (e0, .inr (0, [.ref d, .ref s0]))]) [0, 1, 2, 3, 4, 5, 6, 7, 8, 9, 10] rfl) rfl rfl) rfl rfl hl.1 rfl (lv_room (Nat.le_of_ble_eq_true rfl)) dL_isTold_275 ⟨show 0 + 1 ≤ 1 by omega, show 0 + 6 ≤ 6 by omega⟩) (fun r_75 h_76 => ?_)
                      have h_76 := (congrArg Prod.snd h_76).symm
                      subst h_76
                      refine lv_aload_n hx hb dL_isTold_278 rfl (lv_at hl 5 rfl) ?_
                      refine lv_bipush (v := 32) hx hb dL_isTold_279 (by decide) ?_
                      refine lv_iload hx hb dL_isTold_281 (lv_at hl 2 rfl) ?_
                      refine lv_imul hx hb dL_isTold_283 ?_
                      refine lv_iconst (v := 5) hx hb dL_isTold_284 (by decide) ?_
                      refine lv_iadd hx hb dL_isTold_285 ?_
                      refine lv_iload hx hb dL_isTold_286 (lv_at hl 0 rfl) ?_
                      refine lv_iadd hx hb dL_isTold_288 ?_
                      refine bx_ald (D := D) hx hb hK hP 11 0 rfl rfl (ix5 (sl_n ik6 hj6) ik7 (by omega)) dL_isTold_289 ?_
                      refine lv_icmp_ne (tgt := 297) hx hb dL_isTold_290 (by decide) (fun c_77 => ?_) (fun c_77 => ?_)
                      · skip
                        refine lv_iconst (v := 0) hx hb dL_isTold_297 (by decide) ?_
                        exact jn298 _ (by simp only [F_L_isTold_j298, if_neg c_77]) ls (lv_sub hl [0, 1, 2, 3, 4, 5, 6, 7] rfl)
                      · skip
                        refine lv_iconst (v := 1) hx hb dL_isTold_293 (by decide) ?_
                        refine lv_goto (tgt := 298) hx hb dL_isTold_294 (by decide) ?_
                        exact jn298 _ (by simp only [F_L_isTold_j298, if_pos c_77]) ls (lv_sub hl [0, 1, 2, 3, 4, 5, 6, 7] rfl)
              exact loop258 25 0 (F_L_isTold_j253 σ k6 rr ww) 0 (by omega) (by omega) nI_0.symm rfl ls (lv_sub hl [0, 1, 2, 3, 4, 5, 6, 7] rfl)
            refine lv_aload_n hx hb dL_isTold_200 rfl (lv_at hl 3 rfl) ?_
            refine lv_iload hx hb dL_isTold_201 (lv_at hl 0 rfl) ?_
            refine bx_nri (isv_0 (sl_n ik6 hj6)) (vx_runV (As := [.int k6]) (rest := []) ⟨hx, hb, hml, hown, hts⟩ (c_X5_isValid l hl9 D cA b s0 f w s2 f2 w2 t0 d db e0 σ ρ τ δ run k6) (cwV 1 hts gL_isTold_X5_isValid rfl rfl rfl (by decide +kernel) ⟨Nat.le_of_ble_eq_true rfl, Nat.le_of_ble_eq_true rfl⟩) (bx_pvrx (ci := 5) (q0 := 0) hK hG hZ (hP.sub (ws' := [(b, .inr (5, [.ref s0, .ref s2, .ref t0, .ref d, .ref e0, .int run])), (s0, .inr (3, [.ref f])), (f, .inr (2, [.ref w, .int σ.2.1, .int σ.2.2])), (w, .inl (cA, 66, .inl σ.1)), (s2, .inr (3, [.ref f2])), (f2, .inr (2, [.ref w2, .int ρ.2.1, .int ρ.2.2])), (w2, .inl (cA, 66, .inl ρ.1)), (t0, .inr (4, [.int τ.1, .int τ.2.1, .int τ.2.2.1, .int τ.2.2.2.1, .int τ.2.2.2.2.1, .int τ.2.2.2.2.2])), (d, .inr (1, [.int δ.1, .ref db])), (db, .inl (cA, 24, .inl δ.2)), (e0, .inr (0, [.ref d, .ref s0]))]) [0, 1, 2, 3, 4, 5, 6, 7, 8, 9, 10] rfl) rfl rfl) rfl rfl hl.1 rfl (lv_room (Nat.le_of_ble_eq_true rfl)) dL_isTold_203 ⟨show 0 + 1 ≤ 1 by omega, show 0 + 6 ≤ 6 by omega⟩) (fun r_54 h_55 => ?_)
            obtain ⟨h_55, b_56⟩ := h_55
            have h_55 := (congrArg Prod.snd h_55).symm
            subst h_55
            refine lv_aload_n hx hb dL_isTold_206 rfl (lv_at hl 5 rfl) ?_
            refine lv_iload hx hb dL_isTold_207 (lv_at hl 0 rfl) ?_
            refine bx_ri (va_runS (As := [.ref ra, .int k6]) (rest := [.int ((F_X5_isValid σ k6).2)]) ⟨hx, hb, hml, hown, hts⟩ (c_L_isValid l D cA ra rr k6 (sl_n ik6 hj6)) (va_cwS 2 hts gL_isTold_L_isValid rfl rfl rfl (by decide +kernel) ⟨Nat.le_of_ble_eq_true rfl, Nat.le_of_ble_eq_true rfl⟩) (bx_psr hK hG (hP.sub (ws' := [(ra, .inl (cA, 8, .inl rr))]) [12] rfl)) rfl rfl hl.1 rfl (lv_room (Nat.le_of_ble_eq_true rfl)) dL_isTold_209 ⟨show 0 + 0 ≤ 1 by omega, show 0 + 0 ≤ 6 by omega⟩) (fun r_57 h_58 => ?_)
            obtain ⟨h_58, b_59⟩ := h_58
            have h_58 := h_58.symm
            subst h_58
            refine lv_icmp_ne (tgt := 252) hx hb dL_isTold_212 (by decide) (fun c_60 => ?_) (fun c_60 => ?_)
            · skip
              refine lv_iconst (v := 0) hx hb dL_isTold_252 (by decide) ?_
              exact jn253 _ (by simp only [F_L_isTold_j253, if_neg c_60]) ls (lv_sub hl [0, 1, 2, 3, 4, 5, 6] rfl)
            · skip
              refine lv_aload_n hx hb dL_isTold_215 rfl (lv_at hl 3 rfl) ?_
              refine lv_iload hx hb dL_isTold_216 (lv_at hl 0 rfl) ?_
              refine bx_nri (ist_0 (sl_n ik6 hj6)) (vx_runV (As := [.int k6]) (rest := []) ⟨hx, hb, hml, hown, hts⟩ (c_X5_isStartable l hl9 D cA b s0 f w s2 f2 w2 t0 d db e0 σ ρ τ δ run k6) (cwV 1 hts gL_isTold_X5_isStartable rfl rfl rfl (by decide +kernel) ⟨Nat.le_of_ble_eq_true rfl, Nat.le_of_ble_eq_true rfl⟩) (bx_pvrx (ci := 5) (q0 := 0) hK hG hZ (hP.sub (ws' := [(b, .inr (5, [.ref s0, .ref s2, .ref t0, .ref d, .ref e0, .int run])), (s0, .inr (3, [.ref f])), (f, .inr (2, [.ref w, .int σ.2.1, .int σ.2.2])), (w, .inl (cA, 66, .inl σ.1)), (s2, .inr (3, [.ref f2])), (f2, .inr (2, [.ref w2, .int ρ.2.1, .int ρ.2.2])), (w2, .inl (cA, 66, .inl ρ.1)), (t0, .inr (4, [.int τ.1, .int τ.2.1, .int τ.2.2.1, .int τ.2.2.2.1, .int τ.2.2.2.2.1, .int τ.2.2.2.2.2])), (d, .inr (1, [.int δ.1, .ref db])), (db, .inl (cA, 24, .inl δ.2)), (e0, .inr (0, [.ref d, .ref s0]))]) [0, 1, 2, 3, 4, 5, 6, 7, 8, 9, 10] rfl) rfl rfl) rfl rfl hl.1 rfl (lv_room (Nat.le_of_ble_eq_true rfl)) dL_isTold_218 ⟨show 0 + 1 ≤ 1 by omega, show 0 + 6 ≤ 6 by omega⟩) (fun r_61 h_62 => ?_)
              obtain ⟨h_62, b_63⟩ := h_62
              have h_62 := (congrArg Prod.snd h_62).symm
              subst h_62
              refine lv_aload_n hx hb dL_isTold_221 rfl (lv_at hl 4 rfl) ?_
              refine lv_iload hx hb dL_isTold_222 (lv_at hl 0 rfl) ?_
              refine bx_ri (va_runS (As := [.ref wa, .int k6]) (rest := [.int ((F_X5_isStartable σ k6).2)]) ⟨hx, hb, hml, hown, hts⟩ (c_L_isGood l D cA wa ww k6 (sl_n ik6 hj6)) (va_cwS 2 hts gL_isTold_L_isGood rfl rfl rfl (by decide +kernel) ⟨Nat.le_of_ble_eq_true rfl, Nat.le_of_ble_eq_true rfl⟩) (bx_psr hK hG (hP.sub (ws' := [(wa, .inl (cA, 64, .inl ww))]) [11] rfl)) rfl rfl hl.1 rfl (lv_room (Nat.le_of_ble_eq_true rfl)) dL_isTold_224 ⟨show 0 + 0 ≤ 1 by omega, show 0 + 0 ≤ 6 by omega⟩) (fun r_64 h_65 => ?_)
              obtain ⟨h_65, b_66⟩ := h_65
              have h_65 := h_65.symm
              subst h_65
              refine lv_icmp_ne (tgt := 252) hx hb dL_isTold_227 (by decide) (fun c_67 => ?_) (fun c_67 => ?_)
              · skip
                refine lv_iconst (v := 0) hx hb dL_isTold_252 (by decide) ?_
                exact jn253 _ (by simp only [F_L_isTold_j253, if_pos c_60, if_neg c_67]) ls (lv_sub hl [0, 1, 2, 3, 4, 5, 6] rfl)
              · skip
                refine lv_aload_n hx hb dL_isTold_230 rfl (lv_at hl 3 rfl) ?_
                refine lv_iload hx hb dL_isTold_231 (lv_at hl 0 rfl) ?_
                refine bx_nri (ver_0 (sl_n ik6 hj6)) (vx_runV (As := [.int k6]) (rest := []) ⟨hx, hb, hml, hown, hts⟩ (c_X5_version l hl9 D cA b s0 f w s2 f2 w2 t0 d db e0 σ ρ τ δ run k6) (cwV 1 hts gL_isTold_X5_version rfl rfl rfl (by decide +kernel) ⟨Nat.le_of_ble_eq_true rfl, Nat.le_of_ble_eq_true rfl⟩) (bx_pvrx (ci := 5) (q0 := 0) hK hG hZ (hP.sub (ws' := [(b, .inr (5, [.ref s0, .ref s2, .ref t0, .ref d, .ref e0, .int run])), (s0, .inr (3, [.ref f])), (f, .inr (2, [.ref w, .int σ.2.1, .int σ.2.2])), (w, .inl (cA, 66, .inl σ.1)), (s2, .inr (3, [.ref f2])), (f2, .inr (2, [.ref w2, .int ρ.2.1, .int ρ.2.2])), (w2, .inl (cA, 66, .inl ρ.1)), (t0, .inr (4, [.int τ.1, .int τ.2.1, .int τ.2.2.1, .int τ.2.2.2.1, .int τ.2.2.2.2.1, .int τ.2.2.2.2.2])), (d, .inr (1, [.int δ.1, .ref db])), (db, .inl (cA, 24, .inl δ.2)), (e0, .inr (0, [.ref d, .ref s0]))]) [0, 1, 2, 3, 4, 5, 6, 7, 8, 9, 10] rfl) rfl rfl) rfl rfl hl.1 rfl (lv_room (Nat.le_of_ble_eq_true rfl)) dL_isTold_233 ⟨show 0 + 1 ≤ 1 by omega, show 0 + 6 ≤ 6 by omega⟩) (fun r_68 h_69 => ?_)
                have h_69 := (congrArg Prod.snd h_69).symm
                subst h_69
                refine lv_aload_n hx hb dL_isTold_236 rfl (lv_at hl 4 rfl) ?_
                refine lv_bipush (v := 32) hx hb dL_isTold_237 (by decide) ?_
                refine lv_iload hx hb dL_isTold_239 (lv_at hl 0 rfl) ?_
                refine lv_imul hx hb dL_isTold_241 ?_
                refine lv_iconst (v := 1) hx hb dL_isTold_242 (by decide) ?_
                refine lv_iadd hx hb dL_isTold_243 ?_
                refine bx_ald (D := D) hx hb hK hP 11 0 rfl rfl (ixk (sl_n ik6 hj6) v1) dL_isTold_244 ?_
                refine lv_icmp_ne (tgt := 252) hx hb dL_isTold_245 (by decide) (fun c_70 => ?_) (fun c_70 => ?_)
                · skip
                  refine lv_iconst (v := 0) hx hb dL_isTold_252 (by decide) ?_
                  exact jn253 _ (by simp only [F_L_isTold_j253, if_pos c_60, if_pos c_67, if_neg c_70]) ls (lv_sub hl [0, 1, 2, 3, 4, 5, 6] rfl)
                · skip
                  refine lv_iconst (v := 1) hx hb dL_isTold_248 (by decide) ?_
                  refine lv_goto (tgt := 253) hx hb dL_isTold_249 (by decide) ?_
                  exact jn253 _ (by simp only [F_L_isTold_j253, if_pos c_60, if_pos c_67, if_pos c_70]) ls (lv_sub hl [0, 1, 2, 3, 4, 5, 6] rfl)
    exact loop189 3 0 (F_L_isTold_j184 run mm σ rr τ ww) 0 (by omega) (by omega) nI_0.symm rfl ls (lv_sub hl [0, 1, 2, 3, 4, 5, 6] rfl)
  refine lv_aload_n hx hb dL_isTold_8 rfl (lv_at hl 1 rfl) ?_
  refine bx_ri (va_runV (As := []) (rest := []) ⟨hx, hb, hml, hown, hts⟩ (c_X5_isOn l D cA b s0 f w s2 f2 w2 t0 d db e0 σ ρ τ δ run) (cwV 0 hts gL_isTold_X5_isOn rfl rfl rfl (by decide +kernel) ⟨Nat.le_of_ble_eq_true rfl, Nat.le_of_ble_eq_true rfl⟩) (bx_pvr (ci := 5) (q0 := 0) hK hG (hP.sub (ws' := [(b, .inr (5, [.ref s0, .ref s2, .ref t0, .ref d, .ref e0, .int run])), (s0, .inr (3, [.ref f])), (f, .inr (2, [.ref w, .int σ.2.1, .int σ.2.2])), (w, .inl (cA, 66, .inl σ.1)), (s2, .inr (3, [.ref f2])), (f2, .inr (2, [.ref w2, .int ρ.2.1, .int ρ.2.2])), (w2, .inl (cA, 66, .inl ρ.1)), (t0, .inr (4, [.int τ.1, .int τ.2.1, .int τ.2.2.1, .int τ.2.2.2.1, .int τ.2.2.2.2.1, .int τ.2.2.2.2.2])), (d, .inr (1, [.int δ.1, .ref db])), (db, .inl (cA, 24, .inl δ.2)), (e0, .inr (0, [.ref d, .ref s0]))]) [0, 1, 2, 3, 4, 5, 6, 7, 8, 9, 10] rfl) rfl rfl) rfl rfl hl.1 rfl (lv_room (Nat.le_of_ble_eq_true rfl)) dL_isTold_9 ⟨show 0 + 0 ≤ 1 by omega, show 0 + 0 ≤ 6 by omega⟩) (fun r_3 h_4 => ?_)
  obtain ⟨h_4, b_5⟩ := h_4
  have h_4 := h_4.symm
  subst h_4
  have jn23 : ∀ v : Int32, v = (F_L_isTold_j23 mm) → ∀ ls : Array Slot, lv_has ls 8 [(4, .int (4 * (F_L_best rr))), (0, .ref b), (1, .ref wa), (2, .ref ra), (3, .ref ma)] → W p l e (headSpec wsL_isTold ({ frames := 8, cells := 1, slots := 6, locals := 134 })).room s m ([.ref b, .ref wa, .ref ra, .ref ma] : List Value).toArray below meth c s.heap [] 0 0 (MQ below (vp_Si (fun r => r = F_L_isTold σ τ run ww rr mm ∧ (r = 0 ∨ r = 1))) ([.ref b, .ref wa, .ref ra, .ref ma] : List Value).toArray s 1 6 (fun _ => False)) (F0 m 23 ls [.int v, .int (F_X5_isOn run)]) := by
    intro v hv ls hl
    subst hv
    refine lv_icmp_ne (tgt := 183) hx hb dL_isTold_23 (by decide) (fun c_7 => ?_) (fun c_7 => ?_)
    · skip
      refine lv_iconst (v := 0) hx hb dL_isTold_183 (by decide) ?_
      exact jn184 _ (by simp only [F_L_isTold_j184, if_neg c_7]) ls (lv_sub hl [0, 1, 2, 3, 4] rfl)
    · skip
      refine lv_aload_n hx hb dL_isTold_26 rfl (lv_at hl 1 rfl) ?_
      refine bx_ri (va_runV (As := []) (rest := []) ⟨hx, hb, hml, hown, hts⟩ (c_X5_running l D cA b s0 f w s2 f2 w2 t0 d db e0 σ ρ τ δ run) (cwV 0 hts gL_isTold_X5_running rfl rfl rfl (by decide +kernel) ⟨Nat.le_of_ble_eq_true rfl, Nat.le_of_ble_eq_true rfl⟩) (bx_pvr (ci := 5) (q0 := 0) hK hG (hP.sub (ws' := [(b, .inr (5, [.ref s0, .ref s2, .ref t0, .ref d, .ref e0, .int run])), (s0, .inr (3, [.ref f])), (f, .inr (2, [.ref w, .int σ.2.1, .int σ.2.2])), (w, .inl (cA, 66, .inl σ.1)), (s2, .inr (3, [.ref f2])), (f2, .inr (2, [.ref w2, .int ρ.2.1, .int ρ.2.2])), (w2, .inl (cA, 66, .inl ρ.1)), (t0, .inr (4, [.int τ.1, .int τ.2.1, .int τ.2.2.1, .int τ.2.2.2.1, .int τ.2.2.2.2.1, .int τ.2.2.2.2.2])), (d, .inr (1, [.int δ.1, .ref db])), (db, .inl (cA, 24, .inl δ.2)), (e0, .inr (0, [.ref d, .ref s0]))]) [0, 1, 2, 3, 4, 5, 6, 7, 8, 9, 10] rfl) rfl rfl) rfl rfl hl.1 rfl (lv_room (Nat.le_of_ble_eq_true rfl)) dL_isTold_27 ⟨show 0 + 0 ≤ 1 by omega, show 0 + 0 ≤ 6 by omega⟩) (fun r_8 h_9 => ?_)
      have h_9 := h_9.symm
      subst h_9
      refine lv_aload_n hx hb dL_isTold_30 rfl (lv_at hl 4 rfl) ?_
      refine lv_iconst (v := 0) hx hb dL_isTold_31 (by decide) ?_
      refine bx_ald (D := D) hx hb hK hP 13 0 rfl rfl (vp_in_iff.mpr (by decide)) dL_isTold_32 ?_
      refine lv_icmp_ne (tgt := 183) hx hb dL_isTold_33 (by decide) (fun c_10 => ?_) (fun c_10 => ?_)
      · skip
        refine lv_iconst (v := 0) hx hb dL_isTold_183 (by decide) ?_
        exact jn184 _ (by simp only [F_L_isTold_j184, if_pos c_7, if_neg c_10]) ls (lv_sub hl [0, 1, 2, 3, 4] rfl)
      · skip
        refine lv_aload_n hx hb dL_isTold_36 rfl (lv_at hl 1 rfl) ?_
        refine bx_ri (va_runV (As := []) (rest := []) ⟨hx, hb, hml, hown, hts⟩ (c_X5_isOnTrial l D cA b s0 f w s2 f2 w2 t0 d db e0 σ ρ τ δ run) (cwV 0 hts gL_isTold_X5_isOnTrial rfl rfl rfl (by decide +kernel) ⟨Nat.le_of_ble_eq_true rfl, Nat.le_of_ble_eq_true rfl⟩) (bx_pvr (ci := 5) (q0 := 0) hK hG (hP.sub (ws' := [(b, .inr (5, [.ref s0, .ref s2, .ref t0, .ref d, .ref e0, .int run])), (s0, .inr (3, [.ref f])), (f, .inr (2, [.ref w, .int σ.2.1, .int σ.2.2])), (w, .inl (cA, 66, .inl σ.1)), (s2, .inr (3, [.ref f2])), (f2, .inr (2, [.ref w2, .int ρ.2.1, .int ρ.2.2])), (w2, .inl (cA, 66, .inl ρ.1)), (t0, .inr (4, [.int τ.1, .int τ.2.1, .int τ.2.2.1, .int τ.2.2.2.1, .int τ.2.2.2.2.1, .int τ.2.2.2.2.2])), (d, .inr (1, [.int δ.1, .ref db])), (db, .inl (cA, 24, .inl δ.2)), (e0, .inr (0, [.ref d, .ref s0]))]) [0, 1, 2, 3, 4, 5, 6, 7, 8, 9, 10] rfl) rfl rfl) rfl rfl hl.1 rfl (lv_room (Nat.le_of_ble_eq_true rfl)) dL_isTold_37 ⟨show 0 + 0 ≤ 1 by omega, show 0 + 0 ≤ 6 by omega⟩) (fun r_11 h_12 => ?_)
        obtain ⟨h_12, b_13⟩ := h_12
        have h_12 := h_12.symm
        subst h_12
        have jn65 : ∀ v : Int32, v = (F_L_isTold_j65 mm rr) → ∀ ls : Array Slot, lv_has ls 8 [(4, .int (4 * (F_L_best rr))), (0, .ref b), (1, .ref wa), (2, .ref ra), (3, .ref ma)] → W p l e (headSpec wsL_isTold ({ frames := 8, cells := 1, slots := 6, locals := 134 })).room s m ([.ref b, .ref wa, .ref ra, .ref ma] : List Value).toArray below meth c s.heap [] 0 0 (MQ below (vp_Si (fun r => r = F_L_isTold σ τ run ww rr mm ∧ (r = 0 ∨ r = 1))) ([.ref b, .ref wa, .ref ra, .ref ma] : List Value).toArray s 1 6 (fun _ => False)) (F0 m 65 ls [.int v, .int (F_X5_isOnTrial σ run)]) := by
          intro v hv ls hl
          subst hv
          refine lv_icmp_ne (tgt := 183) hx hb dL_isTold_65 (by decide) (fun c_16 => ?_) (fun c_16 => ?_)
          · skip
            refine lv_iconst (v := 0) hx hb dL_isTold_183 (by decide) ?_
            exact jn184 _ (by simp only [F_L_isTold_j184, if_pos c_7, if_pos c_10, if_neg c_16]) ls (lv_sub hl [0, 1, 2, 3, 4] rfl)
          · skip
            refine lv_aload_n hx hb dL_isTold_68 rfl (lv_at hl 1 rfl) ?_
            refine bx_ri (va_runV (As := []) (rest := []) ⟨hx, hb, hml, hown, hts⟩ (c_X5_writes l D cA b s0 f w s2 f2 w2 t0 d db e0 σ ρ τ δ run) (cwV 0 hts gL_isTold_X5_writes rfl rfl rfl (by decide +kernel) ⟨Nat.le_of_ble_eq_true rfl, Nat.le_of_ble_eq_true rfl⟩) (bx_pvr (ci := 5) (q0 := 0) hK hG (hP.sub (ws' := [(b, .inr (5, [.ref s0, .ref s2, .ref t0, .ref d, .ref e0, .int run])), (s0, .inr (3, [.ref f])), (f, .inr (2, [.ref w, .int σ.2.1, .int σ.2.2])), (w, .inl (cA, 66, .inl σ.1)), (s2, .inr (3, [.ref f2])), (f2, .inr (2, [.ref w2, .int ρ.2.1, .int ρ.2.2])), (w2, .inl (cA, 66, .inl ρ.1)), (t0, .inr (4, [.int τ.1, .int τ.2.1, .int τ.2.2.1, .int τ.2.2.2.1, .int τ.2.2.2.2.1, .int τ.2.2.2.2.2])), (d, .inr (1, [.int δ.1, .ref db])), (db, .inl (cA, 24, .inl δ.2)), (e0, .inr (0, [.ref d, .ref s0]))]) [0, 1, 2, 3, 4, 5, 6, 7, 8, 9, 10] rfl) rfl rfl) rfl rfl hl.1 rfl (lv_room (Nat.le_of_ble_eq_true rfl)) dL_isTold_69 ⟨show 0 + 0 ≤ 1 by omega, show 0 + 0 ≤ 6 by omega⟩) (fun r_17 h_18 => ?_)
            have h_18 := h_18.symm
            subst h_18
            refine lv_aload_n hx hb dL_isTold_72 rfl (lv_at hl 4 rfl) ?_
            refine lv_iconst (v := 2) hx hb dL_isTold_73 (by decide) ?_
            refine bx_ald (D := D) hx hb hK hP 13 0 rfl rfl (vp_in_iff.mpr (by decide)) dL_isTold_74 ?_
            refine lv_icmp_ne (tgt := 183) hx hb dL_isTold_75 (by decide) (fun c_19 => ?_) (fun c_19 => ?_)
            · skip
              refine lv_iconst (v := 0) hx hb dL_isTold_183 (by decide) ?_
              exact jn184 _ (by simp only [F_L_isTold_j184, if_pos c_7, if_pos c_10, if_pos c_16, if_neg c_19]) ls (lv_sub hl [0, 1, 2, 3, 4] rfl)
            · skip
              refine lv_aload_n hx hb dL_isTold_78 rfl (lv_at hl 1 rfl) ?_
              refine bx_ri (va_runV (As := []) (rest := []) ⟨hx, hb, hml, hown, hts⟩ (c_X5_toCome l D cA b s0 f w s2 f2 w2 t0 d db e0 σ ρ τ δ run) (cwV 0 hts gL_isTold_X5_toCome rfl rfl rfl (by decide +kernel) ⟨Nat.le_of_ble_eq_true rfl, Nat.le_of_ble_eq_true rfl⟩) (bx_pvr (ci := 5) (q0 := 0) hK hG (hP.sub (ws' := [(b, .inr (5, [.ref s0, .ref s2, .ref t0, .ref d, .ref e0, .int run])), (s0, .inr (3, [.ref f])), (f, .inr (2, [.ref w, .int σ.2.1, .int σ.2.2])), (w, .inl (cA, 66, .inl σ.1)), (s2, .inr (3, [.ref f2])), (f2, .inr (2, [.ref w2, .int ρ.2.1, .int ρ.2.2])), (w2, .inl (cA, 66, .inl ρ.1)), (t0, .inr (4, [.int τ.1, .int τ.2.1, .int τ.2.2.1, .int τ.2.2.2.1, .int τ.2.2.2.2.1, .int τ.2.2.2.2.2])), (d, .inr (1, [.int δ.1, .ref db])), (db, .inl (cA, 24, .inl δ.2)), (e0, .inr (0, [.ref d, .ref s0]))]) [0, 1, 2, 3, 4, 5, 6, 7, 8, 9, 10] rfl) rfl rfl) rfl rfl hl.1 rfl (lv_room (Nat.le_of_ble_eq_true rfl)) dL_isTold_79 ⟨show 0 + 0 ≤ 1 by omega, show 0 + 0 ≤ 6 by omega⟩) (fun r_20 h_21 => ?_)
              have h_21 := h_21.symm
              subst h_21
              have jn99 : ∀ v : Int32, v = (F_L_isTold_j99 mm) → ∀ ls : Array Slot, lv_has ls 8 [(4, .int (4 * (F_L_best rr))), (0, .ref b), (1, .ref wa), (2, .ref ra), (3, .ref ma)] → W p l e (headSpec wsL_isTold ({ frames := 8, cells := 1, slots := 6, locals := 134 })).room s m ([.ref b, .ref wa, .ref ra, .ref ma] : List Value).toArray below meth c s.heap [] 0 0 (MQ below (vp_Si (fun r => r = F_L_isTold σ τ run ww rr mm ∧ (r = 0 ∨ r = 1))) ([.ref b, .ref wa, .ref ra, .ref ma] : List Value).toArray s 1 6 (fun _ => False)) (F0 m 99 ls [.int v, .int (F_X5_toCome τ)]) := by
                intro v hv ls hl
                subst hv
                refine lv_icmp_ne (tgt := 183) hx hb dL_isTold_99 (by decide) (fun c_23 => ?_) (fun c_23 => ?_)
                · skip
                  refine lv_iconst (v := 0) hx hb dL_isTold_183 (by decide) ?_
                  exact jn184 _ (by simp only [F_L_isTold_j184, if_pos c_7, if_pos c_10, if_pos c_16, if_pos c_19, if_neg c_23]) ls (lv_sub hl [0, 1, 2, 3, 4] rfl)
                · skip
                  refine lv_aload_n hx hb dL_isTold_102 rfl (lv_at hl 1 rfl) ?_
                  refine bx_ri (va_runV (As := []) (rest := []) ⟨hx, hb, hml, hown, hts⟩ (c_X5_record l D cA b s0 f w s2 f2 w2 t0 d db e0 σ ρ τ δ run) (cwV 0 hts gL_isTold_X5_record rfl rfl rfl (by decide +kernel) ⟨Nat.le_of_ble_eq_true rfl, Nat.le_of_ble_eq_true rfl⟩) (bx_pvr (ci := 5) (q0 := 0) hK hG (hP.sub (ws' := [(b, .inr (5, [.ref s0, .ref s2, .ref t0, .ref d, .ref e0, .int run])), (s0, .inr (3, [.ref f])), (f, .inr (2, [.ref w, .int σ.2.1, .int σ.2.2])), (w, .inl (cA, 66, .inl σ.1)), (s2, .inr (3, [.ref f2])), (f2, .inr (2, [.ref w2, .int ρ.2.1, .int ρ.2.2])), (w2, .inl (cA, 66, .inl ρ.1)), (t0, .inr (4, [.int τ.1, .int τ.2.1, .int τ.2.2.1, .int τ.2.2.2.1, .int τ.2.2.2.2.1, .int τ.2.2.2.2.2])), (d, .inr (1, [.int δ.1, .ref db])), (db, .inl (cA, 24, .inl δ.2)), (e0, .inr (0, [.ref d, .ref s0]))]) [0, 1, 2, 3, 4, 5, 6, 7, 8, 9, 10] rfl) rfl rfl) rfl rfl hl.1 rfl (lv_room (Nat.le_of_ble_eq_true rfl)) dL_isTold_103 ⟨show 0 + 0 ≤ 1 by omega, show 0 + 0 ≤ 6 by omega⟩) (fun r_24 h_25 => ?_)
                  have h_25 := h_25.symm
                  subst h_25
                  refine lv_iload hx hb dL_isTold_106 (lv_at hl 0 rfl) ?_
                  refine lv_iconst (v := 4) hx hb dL_isTold_108 (by decide) ?_
                  refine lv_idiv hx hb dL_isTold_109 (by decide) ?_
                  refine lv_icmp_ne (tgt := 183) hx hb dL_isTold_110 (by decide) (fun c_26 => ?_) (fun c_26 => ?_)
                  · skip
                    refine lv_iconst (v := 0) hx hb dL_isTold_183 (by decide) ?_
                    exact jn184 _ (by simp only [F_L_isTold_j184, if_pos c_7, if_pos c_10, if_pos c_16, if_pos c_19, if_pos c_23, if_neg c_26]) ls (lv_sub hl [0, 1, 2, 3, 4] rfl)
                  · skip
                    refine lv_aload_n hx hb dL_isTold_113 rfl (lv_at hl 1 rfl) ?_
                    refine bx_ri (va_runV (As := []) (rest := []) ⟨hx, hb, hml, hown, hts⟩ (c_X5_confirmed l D cA b s0 f w s2 f2 w2 t0 d db e0 σ ρ τ δ run) (cwV 0 hts gL_isTold_X5_confirmed rfl rfl rfl (by decide +kernel) ⟨Nat.le_of_ble_eq_true rfl, Nat.le_of_ble_eq_true rfl⟩) (bx_pvr (ci := 5) (q0 := 0) hK hG (hP.sub (ws' := [(b, .inr (5, [.ref s0, .ref s2, .ref t0, .ref d, .ref e0, .int run])), (s0, .inr (3, [.ref f])), (f, .inr (2, [.ref w, .int σ.2.1, .int σ.2.2])), (w, .inl (cA, 66, .inl σ.1)), (s2, .inr (3, [.ref f2])), (f2, .inr (2, [.ref w2, .int ρ.2.1, .int ρ.2.2])), (w2, .inl (cA, 66, .inl ρ.1)), (t0, .inr (4, [.int τ.1, .int τ.2.1, .int τ.2.2.1, .int τ.2.2.2.1, .int τ.2.2.2.2.1, .int τ.2.2.2.2.2])), (d, .inr (1, [.int δ.1, .ref db])), (db, .inl (cA, 24, .inl δ.2)), (e0, .inr (0, [.ref d, .ref s0]))]) [0, 1, 2, 3, 4, 5, 6, 7, 8, 9, 10] rfl) rfl rfl) rfl rfl hl.1 rfl (lv_room (Nat.le_of_ble_eq_true rfl)) dL_isTold_114 ⟨show 0 + 0 ≤ 1 by omega, show 0 + 0 ≤ 6 by omega⟩) (fun r_27 h_28 => ?_)
                    have h_28 := h_28.symm
                    subst h_28
                    refine lv_aload_n hx hb dL_isTold_117 rfl (lv_at hl 3 rfl) ?_
                    refine lv_iload hx hb dL_isTold_118 (lv_at hl 0 rfl) ?_
                    refine lv_iconst (v := 2) hx hb dL_isTold_120 (by decide) ?_
                    refine lv_iadd hx hb dL_isTold_121 ?_
                    refine bx_ald (D := D) hx hb hK hP 12 0 rfl rfl (iyk (best_sl _) y4_2) dL_isTold_122 ?_
                    refine lv_iconst (v := 1) hx hb dL_isTold_123 (by decide) ?_
                    refine lv_iand hx hb dL_isTold_124 ?_
                    refine lv_icmp_ne (tgt := 183) hx hb dL_isTold_125 (by decide) (fun c_29 => ?_) (fun c_29 => ?_)
                    · skip
                      refine lv_iconst (v := 0) hx hb dL_isTold_183 (by decide) ?_
                      exact jn184 _ (by simp only [F_L_isTold_j184, if_pos c_7, if_pos c_10, if_pos c_16, if_pos c_19, if_pos c_23, if_pos c_26, if_neg c_29]) ls (lv_sub hl [0, 1, 2, 3, 4] rfl)
                    · skip
                      refine lv_aload_n hx hb dL_isTold_128 rfl (lv_at hl 1 rfl) ?_
                      refine bx_ri (va_runV (As := []) (rest := []) ⟨hx, hb, hml, hown, hts⟩ (c_X5_tries l D cA b s0 f w s2 f2 w2 t0 d db e0 σ ρ τ δ run) (cwV 0 hts gL_isTold_X5_tries rfl rfl rfl (by decide +kernel) ⟨Nat.le_of_ble_eq_true rfl, Nat.le_of_ble_eq_true rfl⟩) (bx_pvr (ci := 5) (q0 := 0) hK hG (hP.sub (ws' := [(b, .inr (5, [.ref s0, .ref s2, .ref t0, .ref d, .ref e0, .int run])), (s0, .inr (3, [.ref f])), (f, .inr (2, [.ref w, .int σ.2.1, .int σ.2.2])), (w, .inl (cA, 66, .inl σ.1)), (s2, .inr (3, [.ref f2])), (f2, .inr (2, [.ref w2, .int ρ.2.1, .int ρ.2.2])), (w2, .inl (cA, 66, .inl ρ.1)), (t0, .inr (4, [.int τ.1, .int τ.2.1, .int τ.2.2.1, .int τ.2.2.2.1, .int τ.2.2.2.2.1, .int τ.2.2.2.2.2])), (d, .inr (1, [.int δ.1, .ref db])), (db, .inl (cA, 24, .inl δ.2)), (e0, .inr (0, [.ref d, .ref s0]))]) [0, 1, 2, 3, 4, 5, 6, 7, 8, 9, 10] rfl) rfl rfl) rfl rfl hl.1 rfl (lv_room (Nat.le_of_ble_eq_true rfl)) dL_isTold_129 ⟨show 0 + 0 ≤ 1 by omega, show 0 + 0 ≤ 6 by omega⟩) (fun r_30 h_31 => ?_)
                      have h_31 := h_31.symm
                      subst h_31
                      have jn151 : ∀ v : Int32, v = (F_L_isTold_j151 rr) → ∀ ls : Array Slot, lv_has ls 8 [(4, .int (4 * (F_L_best rr))), (0, .ref b), (1, .ref wa), (2, .ref ra), (3, .ref ma)] → W p l e (headSpec wsL_isTold ({ frames := 8, cells := 1, slots := 6, locals := 134 })).room s m ([.ref b, .ref wa, .ref ra, .ref ma] : List Value).toArray below meth c s.heap [] 0 0 (MQ below (vp_Si (fun r => r = F_L_isTold σ τ run ww rr mm ∧ (r = 0 ∨ r = 1))) ([.ref b, .ref wa, .ref ra, .ref ma] : List Value).toArray s 1 6 (fun _ => False)) (F0 m 151 ls [.int v, .int (F_X5_tries σ)]) := by
                        intro v hv ls hl
                        subst hv
                        refine lv_icmp_ne (tgt := 183) hx hb dL_isTold_151 (by decide) (fun c_36 => ?_) (fun c_36 => ?_)
                        · skip
                          refine lv_iconst (v := 0) hx hb dL_isTold_183 (by decide) ?_
                          exact jn184 _ (by simp only [F_L_isTold_j184, if_pos c_7, if_pos c_10, if_pos c_16, if_pos c_19, if_pos c_23, if_pos c_26, if_pos c_29, if_neg c_36]) ls (lv_sub hl [0, 1, 2, 3, 4] rfl)
                        · skip
                          refine lv_aload_n hx hb dL_isTold_154 rfl (lv_at hl 1 rfl) ?_
                          refine bx_ri (va_runV (As := []) (rest := []) ⟨hx, hb, hml, hown, hts⟩ (c_X5_counter l D cA b s0 f w s2 f2 w2 t0 d db e0 σ ρ τ δ run) (cwV 0 hts gL_isTold_X5_counter rfl rfl rfl (by decide +kernel) ⟨Nat.le_of_ble_eq_true rfl, Nat.le_of_ble_eq_true rfl⟩) (bx_pvr (ci := 5) (q0 := 0) hK hG (hP.sub (ws' := [(b, .inr (5, [.ref s0, .ref s2, .ref t0, .ref d, .ref e0, .int run])), (s0, .inr (3, [.ref f])), (f, .inr (2, [.ref w, .int σ.2.1, .int σ.2.2])), (w, .inl (cA, 66, .inl σ.1)), (s2, .inr (3, [.ref f2])), (f2, .inr (2, [.ref w2, .int ρ.2.1, .int ρ.2.2])), (w2, .inl (cA, 66, .inl ρ.1)), (t0, .inr (4, [.int τ.1, .int τ.2.1, .int τ.2.2.1, .int τ.2.2.2.1, .int τ.2.2.2.2.1, .int τ.2.2.2.2.2])), (d, .inr (1, [.int δ.1, .ref db])), (db, .inl (cA, 24, .inl δ.2)), (e0, .inr (0, [.ref d, .ref s0]))]) [0, 1, 2, 3, 4, 5, 6, 7, 8, 9, 10] rfl) rfl rfl) rfl rfl hl.1 rfl (lv_room (Nat.le_of_ble_eq_true rfl)) dL_isTold_155 ⟨show 0 + 0 ≤ 1 by omega, show 0 + 0 ≤ 6 by omega⟩) (fun r_37 h_38 => ?_)
                          have h_38 := h_38.symm
                          subst h_38
                          refine lv_aload_n hx hb dL_isTold_158 rfl (lv_at hl 3 rfl) ?_
                          refine lv_iload hx hb dL_isTold_159 (lv_at hl 0 rfl) ?_
                          refine lv_iconst (v := 3) hx hb dL_isTold_161 (by decide) ?_
                          refine lv_iadd hx hb dL_isTold_162 ?_
                          refine bx_ald (D := D) hx hb hK hP 12 0 rfl rfl (iyk (best_sl _) y4_3) dL_isTold_163 ?_
                          refine lv_icmp_ne (tgt := 183) hx hb dL_isTold_164 (by decide) (fun c_39 => ?_) (fun c_39 => ?_)
                          · skip
                            refine lv_iconst (v := 0) hx hb dL_isTold_183 (by decide) ?_
                            exact jn184 _ (by simp only [F_L_isTold_j184, if_pos c_7, if_pos c_10, if_pos c_16, if_pos c_19, if_pos c_23, if_pos c_26, if_pos c_29, if_pos c_36, if_neg c_39]) ls (lv_sub hl [0, 1, 2, 3, 4] rfl)
                          · skip
                            refine lv_aload_n hx hb dL_isTold_167 rfl (lv_at hl 1 rfl) ?_
                            refine bx_ri (va_runV (As := []) (rest := []) ⟨hx, hb, hml, hown, hts⟩ (c_X5_wouldStart l D cA b s0 f w s2 f2 w2 t0 d db e0 σ ρ τ δ run) (cwV 0 hts gL_isTold_X5_wouldStart rfl rfl rfl (by decide +kernel) ⟨Nat.le_of_ble_eq_true rfl, Nat.le_of_ble_eq_true rfl⟩) (bx_pvr (ci := 5) (q0 := 0) hK hG (hP.sub (ws' := [(b, .inr (5, [.ref s0, .ref s2, .ref t0, .ref d, .ref e0, .int run])), (s0, .inr (3, [.ref f])), (f, .inr (2, [.ref w, .int σ.2.1, .int σ.2.2])), (w, .inl (cA, 66, .inl σ.1)), (s2, .inr (3, [.ref f2])), (f2, .inr (2, [.ref w2, .int ρ.2.1, .int ρ.2.2])), (w2, .inl (cA, 66, .inl ρ.1)), (t0, .inr (4, [.int τ.1, .int τ.2.1, .int τ.2.2.1, .int τ.2.2.2.1, .int τ.2.2.2.2.1, .int τ.2.2.2.2.2])), (d, .inr (1, [.int δ.1, .ref db])), (db, .inl (cA, 24, .inl δ.2)), (e0, .inr (0, [.ref d, .ref s0]))]) [0, 1, 2, 3, 4, 5, 6, 7, 8, 9, 10] rfl) rfl rfl) rfl rfl hl.1 rfl (lv_room (Nat.le_of_ble_eq_true rfl)) dL_isTold_168 ⟨show 0 + 0 ≤ 1 by omega, show 0 + 0 ≤ 6 by omega⟩) (fun r_40 h_41 => ?_)
                            have h_41 := h_41.symm
                            subst h_41
                            refine lv_aload_n hx hb dL_isTold_171 rfl (lv_at hl 2 rfl) ?_
                            refine lv_aload_n hx hb dL_isTold_172 rfl (lv_at hl 3 rfl) ?_
                            refine bx_ri (va_runS (As := [.ref wa, .ref ra]) (rest := [.int (F_X5_wouldStart σ)]) ⟨hx, hb, hml, hown, hts⟩ (c_L_start l D cA wa ra ww rr) (va_cwS 2 hts gL_isTold_L_start rfl rfl rfl (by decide +kernel) ⟨Nat.le_of_ble_eq_true rfl, Nat.le_of_ble_eq_true rfl⟩) (bx_psr hK hG (hP.sub (ws' := [(wa, .inl (cA, 64, .inl ww)), (ra, .inl (cA, 8, .inl rr))]) [11, 12] rfl)) rfl rfl hl.1 rfl (lv_room (Nat.le_of_ble_eq_true rfl)) dL_isTold_173 ⟨show 0 + 0 ≤ 1 by omega, show 0 + 0 ≤ 6 by omega⟩) (fun r_42 h_43 => ?_)
                            have h_43 := h_43.symm
                            subst h_43
                            refine lv_icmp_ne (tgt := 183) hx hb dL_isTold_176 (by decide) (fun c_44 => ?_) (fun c_44 => ?_)
                            · skip
                              refine lv_iconst (v := 0) hx hb dL_isTold_183 (by decide) ?_
                              exact jn184 _ (by simp only [F_L_isTold_j184, if_pos c_7, if_pos c_10, if_pos c_16, if_pos c_19, if_pos c_23, if_pos c_26, if_pos c_29, if_pos c_36, if_pos c_39, if_neg c_44]) ls (lv_sub hl [0, 1, 2, 3, 4] rfl)
                            · skip
                              refine lv_iconst (v := 1) hx hb dL_isTold_179 (by decide) ?_
                              refine lv_goto (tgt := 184) hx hb dL_isTold_180 (by decide) ?_
                              exact jn184 _ (by simp only [F_L_isTold_j184, if_pos c_7, if_pos c_10, if_pos c_16, if_pos c_19, if_pos c_23, if_pos c_26, if_pos c_29, if_pos c_36, if_pos c_39, if_pos c_44]) ls (lv_sub hl [0, 1, 2, 3, 4] rfl)
                      refine lv_aload_n hx hb dL_isTold_132 rfl (lv_at hl 3 rfl) ?_
                      refine bx_ri (va_runS (As := [.ref ra]) (rest := [.int (F_X5_tries σ)]) ⟨hx, hb, hml, hown, hts⟩ (c_L_isDue l D cA ra rr) (va_cwS 1 hts gL_isTold_L_isDue rfl rfl rfl (by decide +kernel) ⟨Nat.le_of_ble_eq_true rfl, Nat.le_of_ble_eq_true rfl⟩) (bx_psr hK hG (hP.sub (ws' := [(ra, .inl (cA, 8, .inl rr))]) [12] rfl)) rfl rfl hl.1 rfl (lv_room (Nat.le_of_ble_eq_true rfl)) dL_isTold_133 ⟨show 0 + 0 ≤ 1 by omega, show 0 + 0 ≤ 6 by omega⟩) (fun r_32 h_33 => ?_)
                      obtain ⟨h_33, b_34⟩ := h_33
                      have h_33 := h_33.symm
                      subst h_33
                      refine lv_if_eq (tgt := 150) hx hb dL_isTold_136 (by decide) (fun c_35 => ?_) (fun c_35 => ?_)
                      · skip
                        refine lv_iconst (v := 0) hx hb dL_isTold_150 (by decide) ?_
                        exact jn151 _ (by simp only [F_L_isTold_j151, if_pos c_35]) ls (lv_sub hl [0, 1, 2, 3, 4] rfl)
                      · skip
                        refine lv_aload_n hx hb dL_isTold_139 rfl (lv_at hl 3 rfl) ?_
                        refine lv_iload hx hb dL_isTold_140 (lv_at hl 0 rfl) ?_
                        refine lv_iconst (v := 2) hx hb dL_isTold_142 (by decide) ?_
                        refine lv_iadd hx hb dL_isTold_143 ?_
                        refine bx_ald (D := D) hx hb hK hP 12 0 rfl rfl (iyk (best_sl _) y4_2) dL_isTold_144 ?_
                        refine lv_iconst (v := 2) hx hb dL_isTold_145 (by decide) ?_
                        refine lv_ishr hx hb dL_isTold_146 ?_
                        refine lv_goto (tgt := 151) hx hb dL_isTold_147 (by decide) ?_
                        exact jn151 _ (by simp only [F_L_isTold_j151, if_neg c_35]) ls (lv_sub hl [0, 1, 2, 3, 4] rfl)
              refine lv_aload_n hx hb dL_isTold_82 rfl (lv_at hl 4 rfl) ?_
              refine lv_iconst (v := 3) hx hb dL_isTold_83 (by decide) ?_
              refine bx_ald (D := D) hx hb hK hP 13 0 rfl rfl (vp_in_iff.mpr (by decide)) dL_isTold_84 ?_
              refine lv_if_ge (tgt := 92) hx hb dL_isTold_85 (by decide) (fun c_22 => ?_) (fun c_22 => ?_)
              · skip
                refine lv_aload_n hx hb dL_isTold_92 rfl (lv_at hl 4 rfl) ?_
                refine lv_iconst (v := 5) hx hb dL_isTold_93 (by decide) ?_
                refine bx_ald (D := D) hx hb hK hP 13 0 rfl rfl (vp_in_iff.mpr (by decide)) dL_isTold_94 ?_
                refine lv_aload_n hx hb dL_isTold_95 rfl (lv_at hl 4 rfl) ?_
                refine lv_iconst (v := 3) hx hb dL_isTold_96 (by decide) ?_
                refine bx_ald (D := D) hx hb hK hP 13 0 rfl rfl (vp_in_iff.mpr (by decide)) dL_isTold_97 ?_
                refine lv_isub hx hb dL_isTold_98 ?_
                exact jn99 _ (by simp only [F_L_isTold_j99, if_pos c_22]) ls (lv_sub hl [0, 1, 2, 3, 4] rfl)
              · skip
                refine lv_iconst (v := (-1)) hx hb dL_isTold_88 (by decide) ?_
                refine lv_goto (tgt := 99) hx hb dL_isTold_89 (by decide) ?_
                exact jn99 _ (by simp only [F_L_isTold_j99, if_neg c_22]) ls (lv_sub hl [0, 1, 2, 3, 4] rfl)
        refine lv_aload_n hx hb dL_isTold_40 rfl (lv_at hl 4 rfl) ?_
        refine lv_iconst (v := 0) hx hb dL_isTold_41 (by decide) ?_
        refine bx_ald (D := D) hx hb hK hP 13 0 rfl rfl (vp_in_iff.mpr (by decide)) dL_isTold_42 ?_
        refine lv_if_lt (tgt := 64) hx hb dL_isTold_43 (by decide) (fun c_14 => ?_) (fun c_14 => ?_)
        · skip
          refine lv_iconst (v := 0) hx hb dL_isTold_64 (by decide) ?_
          exact jn65 _ (by simp only [F_L_isTold_j65, if_pos c_14]) ls (lv_sub hl [0, 1, 2, 3, 4] rfl)
        · skip
          refine lv_aload_n hx hb dL_isTold_46 rfl (lv_at hl 4 rfl) ?_
          refine lv_iconst (v := 0) hx hb dL_isTold_47 (by decide) ?_
          refine bx_ald (D := D) hx hb hK hP 13 0 rfl rfl (vp_in_iff.mpr (by decide)) dL_isTold_48 ?_
          refine lv_aload_n hx hb dL_isTold_49 rfl (lv_at hl 3 rfl) ?_
          refine lv_iload hx hb dL_isTold_50 (lv_at hl 0 rfl) ?_
          refine lv_iconst (v := 2) hx hb dL_isTold_52 (by decide) ?_
          refine lv_iadd hx hb dL_isTold_53 ?_
          refine bx_ald (D := D) hx hb hK hP 12 0 rfl rfl (iyk (best_sl _) y4_2) dL_isTold_54 ?_
          refine lv_iconst (v := 1) hx hb dL_isTold_55 (by decide) ?_
          refine lv_iand hx hb dL_isTold_56 ?_
          refine lv_icmp_eq (tgt := 64) hx hb dL_isTold_57 (by decide) (fun c_15 => ?_) (fun c_15 => ?_)
          · skip
            refine lv_iconst (v := 0) hx hb dL_isTold_64 (by decide) ?_
            exact jn65 _ (by simp only [F_L_isTold_j65, if_neg c_14, if_pos c_15]) ls (lv_sub hl [0, 1, 2, 3, 4] rfl)
          · skip
            refine lv_iconst (v := 1) hx hb dL_isTold_60 (by decide) ?_
            refine lv_goto (tgt := 65) hx hb dL_isTold_61 (by decide) ?_
            exact jn65 _ (by simp only [F_L_isTold_j65, if_neg c_14, if_neg c_15]) ls (lv_sub hl [0, 1, 2, 3, 4] rfl)
  refine lv_aload_n hx hb dL_isTold_12 rfl (lv_at hl 4 rfl) ?_
  refine lv_iconst (v := 0) hx hb dL_isTold_13 (by decide) ?_
  refine bx_ald (D := D) hx hb hK hP 13 0 rfl rfl (vp_in_iff.mpr (by decide)) dL_isTold_14 ?_
  refine lv_if_lt (tgt := 22) hx hb dL_isTold_15 (by decide) (fun c_6 => ?_) (fun c_6 => ?_)
  · skip
    refine lv_iconst (v := 0) hx hb dL_isTold_22 (by decide) ?_
    exact jn23 _ (by simp only [F_L_isTold_j23, if_pos c_6]) ls (lv_sub hl [0, 1, 2, 3, 4] rfl)
  · skip
    refine lv_iconst (v := 1) hx hb dL_isTold_18 (by decide) ?_
    refine lv_goto (tgt := 23) hx hb dL_isTold_19 (by decide) ?_
    exact jn23 _ (by simp only [F_L_isTold_j23, if_neg c_6]) ls (lv_sub hl [0, 1, 2, 3, 4] rfl)
