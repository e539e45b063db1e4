/-! THE LAW'S LOOP, and what holds at its start -/
theorem wr_far {f : Nat → Int32} {i x : Int32} {k : Nat} (h : i.toNatClampNeg < 66) (hk : 66 ≤ k) : wr f i x k = f k := by
  unfold wr upd
  exact if_neg (by omega)
theorem preset_far {σ : FS} {i v : Int32} {k : Nat} (hk : 66 ≤ k) : (F_X2_preset σ i v).1 k = σ.1 k := by
  unfold F_X2_preset
  by_cases a : i < 0
  · rw [if_pos a]
  · rw [if_neg a]
    by_cases b : 66 ≤ i
    · rw [if_pos b]
    · rw [if_neg b]
      have e : (66 : Int32).toInt = 66 := rfl
      have b2 : i.toInt < 66 := Int.lt_of_not_ge (fun h => b (Int32.le_iff_toInt_le.mpr (by rw [e]; exact h)))
      exact wr_far (show i.toInt.toNat < 66 by omega) hk
theorem ipN_far {k : Nat} (hk : 66 ≤ k) : ∀ n, (ipN n).1 k = 0
  | 0 => rfl
  | n + 1 => (preset_far hk).trans (ipN_far hk n)
theorem miN_far {k : Nat} (hk : 66 ≤ k) : ∀ n, n ≤ 8 → miN n k = 0
  | 0, _ => (wr_far (i := 2) (by decide) hk).trans ((wr_far (i := 1) (by decide) hk).trans (wr_far (i := 0) (by decide) hk))
  | n + 1, h => (wr_far (i := 5 + nI n) (by rw [show (5 : Int32) = nI 5 from rfl, nI_add, nI_clamp (by omega)]; omega) hk).trans (miN_far hk n (by omega))
theorem f_near : ∀ k, k < 66 → F_X6_init k = F_X3_init.1 k := by decide +kernel
theorem f_init : F_X6_init = F_X3_init.1 := by
  funext k
  by_cases h : k < 66
  · exact f_near k h
  · have hk : 66 ≤ k := by omega
    have e1 : F_X6_init k = 0 := (wr_far (i := 58) (by decide) hk).trans ((wr_far (i := 59) (by decide) hk).trans ((wr_far (i := 3) (by decide) hk).trans (miN_far hk 8 (by omega))))
    have e2 : F_X3_init.1 k = 0 := (preset_far hk).trans ((preset_far hk).trans ((preset_far hk).trans ((preset_far hk).trans ((preset_far hk).trans ((preset_far hk).trans (ipN_far hk 8))))))
    rw [e1, e2]
theorem inv_init : Inv F_X3_init F_X4_init F_X1_init (-1) := by
  have e60 : F_X3_init.1 60 = 0 := by decide +kernel
  have e64 : F_X3_init.1 64 = 0 := by decide +kernel
  have e2 : F_X3_init.1 2 = 8 := by decide +kernel
  have e31 : F_X3_init.1 31 = 0 := by decide +kernel
  refine ⟨⟨⟨by rw [e60]; decide, by rw [e64]; decide⟩, fun i h => ?_⟩, Or.inl ⟨rfl, rfl⟩, fun h => absurd (rfl : F_X4_init.2.2.2.2.2 = 0) h, 0, rfl, by omega⟩
  rcases h with rfl | rfl
  · rw [e2]; decide
  · rw [e31]; decide
theorem lt_exit {L n : Nat} (hL : L ≤ 2560) (hn : n ≤ L) (h : ¬ (Int32.ofNat L - 5) < nI n) : n + 5 ≤ L := by
  have e1 : (Int32.ofNat L).toInt = L := nI_toInt (by omega)
  have e2 : (nI n).toInt = n := nI_toInt (by omega)
  have e3 : (Int32.ofNat L - 5).toInt = (L : Int) - 5 := by
    rw [Int32.toInt_sub, e1, show (5 : Int32).toInt = 5 from rfl, Int.bmod_def]
    split <;> omega
  have h1 : ¬ ((L : Int) - 5 < (n : Int)) := fun z => h (Int32.lt_iff_toInt_lt.mpr (by rw [e3, e2]; exact z))
  omega
set_option maxHeartbeats 4000000 in
set_option maxRecDepth 100000 in
theorem law_loop {p : Program} {l : Launch} {e : Env} {s : State} {m : MethodId} {below : List Frame} {meth : Method} {c : Code} {D : va_G} {cA cL : ClassId} {b L : Nat} {xs : Nat → Int32} (hL : L ≤ 2560) (C0 : lw_At p s m meth c b L xs) (hl9 : l.stackTraces = false) (hG : bx_G s) (hZ0 : bx_Z (fun q : Nat => s.heap.size ≤ q) s s.heap) (hK : va_K D vwCl [(cA, .int), (cL, .long)] s) (xo s0 f w s2 f2 w2 t0 d db e0 mo fa ka da ou : Nat) :
    ∀ (k n t : Nat), L + 1 ≤ n + k → n ≤ L → n = 5 * t → ∀ (σ ρ : FS) (τ : TS) (δ : DS) (run : Int32) (kp : Nat → Int32) (la : Int32) (ov : Nat → Int64), Inv σ τ δ run → ∀ (H : Heap) (locs : List Loc), va_P D vwCl [(xo, .inr (5, [.ref s0, .ref s2, .ref t0, .ref d, .ref e0, .int run])), (s0, .inr (3, [.ref f])), (f, .inr (2, [.ref w, .int σ.2.1, .int σ.2.2])), (w, .inl (cA, 66, .inl σ.1)), (s2, .inr (3, [.ref f2])), (f2, .inr (2, [.ref w2, .int ρ.2.1, .int ρ.2.2])), (w2, .inl (cA, 66, .inl ρ.1)), (t0, .inr (4, [.int τ.1, .int τ.2.1, .int τ.2.2.1, .int τ.2.2.2.1, .int τ.2.2.2.2.1, .int τ.2.2.2.2.2])), (d, .inr (1, [.int δ.1, .ref db])), (db, .inl (cA, 24, .inl δ.2)), (e0, .inr (0, [.ref d, .ref s0])), (mo, .inr (6, [.ref fa, .ref ka, .int (mOn run), .int run, .int σ.2.2, .int σ.2.1, .int τ.1, .int τ.2.1, .int τ.2.2.1, .int τ.2.2.2.1, .int (mCm τ), .ref da, .int δ.1, .int la])), (fa, .inl (cA, 66, .inl σ.1)), (ka, .inl (cA, 66, .inl kp)), (da, .inl (cA, 24, .inl δ.2)), (ou, .inl (cL, 1, .inr (.inl ov)))] H → va_D (fun q : Nat => s.heap.size ≤ q) [(xo, .inr (5, [.ref s0, .ref s2, .ref t0, .ref d, .ref e0, .int run])), (s0, .inr (3, [.ref f])), (f, .inr (2, [.ref w, .int σ.2.1, .int σ.2.2])), (w, .inl (cA, 66, .inl σ.1)), (s2, .inr (3, [.ref f2])), (f2, .inr (2, [.ref w2, .int ρ.2.1, .int ρ.2.2])), (w2, .inl (cA, 66, .inl ρ.1)), (t0, .inr (4, [.int τ.1, .int τ.2.1, .int τ.2.2.1, .int τ.2.2.2.1, .int τ.2.2.2.2.1, .int τ.2.2.2.2.2])), (d, .inr (1, [.int δ.1, .ref db])), (db, .inl (cA, 24, .inl δ.2)), (e0, .inr (0, [.ref d, .ref s0])), (mo, .inr (6, [.ref fa, .ref ka, .int (mOn run), .int run, .int σ.2.2, .int σ.2.1, .int τ.1, .int τ.2.1, .int τ.2.2.1, .int τ.2.2.2.1, .int (mCm τ), .ref da, .int δ.1, .int la])), (fa, .inl (cA, 66, .inl σ.1)), (ka, .inl (cA, 66, .inl kp)), (da, .inl (cA, 24, .inl δ.2)), (ou, .inl (cL, 1, .inr (.inl ov)))] → va_S (fun q : Nat => s.heap.size ≤ q) s.heap H locs → ∀ (ls : Array Slot), lv_has ls 7 [(0, .ref b), (1, .ref xo), (2, .ref mo), (3, .ref ou), (4, .int (nI n))] → W p l e room_1 s m #[Value.ref b] below meth c H locs (16 + t) (351 + 6 * t) (lw_Z below #[Value.ref b] s) (F0 m 23 ls []) := by
  obtain ⟨hx, hb, hr, hml, hown, hts, hX, hbl, hlocks, hgv⟩ := id C0
  have hA : ∀ q : Nat, s.heap.size ≤ q → (fun q : Nat => s.heap.size ≤ q) q := fun _ h => h
  have hbA : ¬ (fun q : Nat => s.heap.size ≤ q) b := Nat.not_le.mpr hbl
  intro k
  induction k with
  | zero =>
    intro n t h1 h2
    exact absurd h1 (by omega)
  | succ k ih =>
    intro n t h1 hn0 ht σ ρ τ δ run kp la ov I H locs hP hD hS ls hl
    refine lv_iload hx hb dL_law_23 (lv_at hl 4 rfl) ?_
    refine lv_aload_n hx hb dL_law_25 rfl (lv_at hl 0 rfl) ?_
    refine va_slen hx hb hX hbl hbA hS dL_law_26 ?_
    refine lv_iconst (v := 5) hx hb dL_law_27 (by decide) ?_
    refine lv_isub hx hb dL_law_28 ?_
    refine lv_icmp_gt (tgt := 1352) hx hb dL_law_29 (by decide) (fun c_x => ?_) (fun c_x => ?_)
    · refine lv_iconst (v := 1) hx hb dL_law_1352 (by decide) ?_
      refine va_forget (fun q hq => hS.2.2 q hq) ?_
      refine W.widen (k := 1054) (n := 8627) (by omega) (by omega) ?_
      exact lw_ret hx hb hr hlocks dL_law_1353
    · have hn : n + 5 ≤ L := lt_exit hL hn0 c_x
      refine lv_aload_n hx hb dL_law_32 rfl (lv_at hl 0 rfl) ?_
      refine lv_iload hx hb dL_law_33 (lv_at hl 4 rfl) ?_
      refine va_sld hx hb hX hbl hbA hS (vp_in_nI (by omega) (by omega)) dL_law_35 ?_
      refine lv_bipush (v := 31) hx hb dL_law_36 (by decide) ?_
      refine lv_iand hx hb dL_law_38 ?_
      have K : ∀ (σ ρ : FS) (τ : TS) (δ : DS) (run : Int32) (kp : Nat → Int32) (la : Int32) (ov : Nat → Int64), Inv σ τ δ run → ∀ (H : Heap) (locs : List Loc), va_P D vwCl [(xo, .inr (5, [.ref s0, .ref s2, .ref t0, .ref d, .ref e0, .int run])), (s0, .inr (3, [.ref f])), (f, .inr (2, [.ref w, .int σ.2.1, .int σ.2.2])), (w, .inl (cA, 66, .inl σ.1)), (s2, .inr (3, [.ref f2])), (f2, .inr (2, [.ref w2, .int ρ.2.1, .int ρ.2.2])), (w2, .inl (cA, 66, .inl ρ.1)), (t0, .inr (4, [.int τ.1, .int τ.2.1, .int τ.2.2.1, .int τ.2.2.2.1, .int τ.2.2.2.2.1, .int τ.2.2.2.2.2])), (d, .inr (1, [.int δ.1, .ref db])), (db, .inl (cA, 24, .inl δ.2)), (e0, .inr (0, [.ref d, .ref s0])), (mo, .inr (6, [.ref fa, .ref ka, .int (mOn run), .int run, .int σ.2.2, .int σ.2.1, .int τ.1, .int τ.2.1, .int τ.2.2.1, .int τ.2.2.2.1, .int (mCm τ), .ref da, .int δ.1, .int la])), (fa, .inl (cA, 66, .inl σ.1)), (ka, .inl (cA, 66, .inl kp)), (da, .inl (cA, 24, .inl δ.2)), (ou, .inl (cL, 1, .inr (.inl ov)))] H → va_D (fun q : Nat => s.heap.size ≤ q) [(xo, .inr (5, [.ref s0, .ref s2, .ref t0, .ref d, .ref e0, .int run])), (s0, .inr (3, [.ref f])), (f, .inr (2, [.ref w, .int σ.2.1, .int σ.2.2])), (w, .inl (cA, 66, .inl σ.1)), (s2, .inr (3, [.ref f2])), (f2, .inr (2, [.ref w2, .int ρ.2.1, .int ρ.2.2])), (w2, .inl (cA, 66, .inl ρ.1)), (t0, .inr (4, [.int τ.1, .int τ.2.1, .int τ.2.2.1, .int τ.2.2.2.1, .int τ.2.2.2.2.1, .int τ.2.2.2.2.2])), (d, .inr (1, [.int δ.1, .ref db])), (db, .inl (cA, 24, .inl δ.2)), (e0, .inr (0, [.ref d, .ref s0])), (mo, .inr (6, [.ref fa, .ref ka, .int (mOn run), .int run, .int σ.2.2, .int σ.2.1, .int τ.1, .int τ.2.1, .int τ.2.2.1, .int τ.2.2.2.1, .int (mCm τ), .ref da, .int δ.1, .int la])), (fa, .inl (cA, 66, .inl σ.1)), (ka, .inl (cA, 66, .inl kp)), (da, .inl (cA, 24, .inl δ.2)), (ou, .inl (cL, 1, .inr (.inl ov)))] → va_S (fun q : Nat => s.heap.size ≤ q) s.heap H locs → ∀ (ls : Array Slot), lv_has ls 7 [(0, .ref b), (1, .ref xo), (2, .ref mo), (3, .ref ou), (4, .int (nI n))] → W p l e room_1 s m #[Value.ref b] below meth c H locs (16 + (t + 1)) (351 + 6 * (t + 1)) (lw_Z below #[Value.ref b] s) (F0 m 1346 ls []) := by
        intro σ ρ τ δ run kp la ov I H locs hP hD hS ls hl
        refine lv_iinc (v := nI n + 5) (lv' := [(4, .int (nI n + 5)), (0, .ref b), (1, .ref xo), (2, .ref mo), (3, .ref ou)]) hx hb dL_law_1346 hl (k := 4) rfl rfl (by decide) rfl (fun ls hl => ?_)
        rw [show (nI n + 5 : Int32) = nI (n + 5) from nI_add n 5] at hl
        refine lv_goto (tgt := 23) hx hb dL_law_1349 (by decide) ?_
        exact ih (n + 5) (t + 1) (by omega) hn (by omega) σ ρ τ δ run kp la ov I H locs hP hD hS ls (lv_sub hl [1, 2, 3, 4, 0] rfl)
      obtain ⟨j, hj, ej⟩ := pk_andE (xs (nI n).toNatClampNeg) (m := 31) 5 (by decide)
      rw [ej]
      have hj : j < 32 := hj
      match j, hj with
      | 0, _ => exact lv_tableIn (x := nI 0) (off := 129) (tgt := 168) hx hb dL_law_39 (by decide) (by decide) rfl (by decide) (lc_0_switchOn hL C0 hl9 hG hA hbA hZ0 hK n t hn ht xo s0 f w s2 f2 w2 t0 d db e0 mo fa ka da ou σ ρ τ δ run kp la ov I H locs hP hD hS ls hl K)
      | 1, _ => exact lv_tableIn (x := nI 1) (off := 173) (tgt := 212) hx hb dL_law_39 (by decide) (by decide) rfl (by decide) (lc_1_switchOff hL C0 hl9 hG hA hbA hZ0 hK n t hn ht xo s0 f w s2 f2 w2 t0 d db e0 mo fa ka da ou σ ρ τ δ run kp la ov I H locs hP hD hS ls hl K)
      | 2, _ => exact lv_tableIn (x := nI 2) (off := 217) (tgt := 256) hx hb dL_law_39 (by decide) (by decide) rfl (by decide) (lc_2_failAfter hL C0 hl9 hG hA hbA hZ0 hK n t hn ht xo s0 f w s2 f2 w2 t0 d db e0 mo fa ka da ou σ ρ τ δ run kp la ov I H locs hP hD hS ls hl K)
      | 3, _ => exact lv_tableIn (x := nI 3) (off := 253) (tgt := 292) hx hb dL_law_39 (by decide) (by decide) rfl (by decide) (lc_3_isOn hL C0 hl9 hG hA hbA hZ0 hK n t hn ht xo s0 f w s2 f2 w2 t0 d db e0 mo fa ka da ou σ ρ τ δ run kp la ov I H locs hP hD hS ls hl K)
      | 4, _ => exact lv_tableIn (x := nI 4) (off := 266) (tgt := 305) hx hb dL_law_39 (by decide) (by decide) rfl (by decide) (lc_4_running hL C0 hl9 hG hA hbA hZ0 hK n t hn ht xo s0 f w s2 f2 w2 t0 d db e0 mo fa ka da ou σ ρ τ δ run kp la ov I H locs hP hD hS ls hl K)
      | 5, _ => exact lv_tableIn (x := nI 5) (off := 279) (tgt := 318) hx hb dL_law_39 (by decide) (by decide) rfl (by decide) (lc_5_isOnTrial hL C0 hl9 hG hA hbA hZ0 hK n t hn ht xo s0 f w s2 f2 w2 t0 d db e0 mo fa ka da ou σ ρ τ δ run kp la ov I H locs hP hD hS ls hl K)
      | 6, _ => exact lv_tableIn (x := nI 6) (off := 292) (tgt := 331) hx hb dL_law_39 (by decide) (by decide) rfl (by decide) (lc_6_writes hL C0 hl9 hG hA hbA hZ0 hK n t hn ht xo s0 f w s2 f2 w2 t0 d db e0 mo fa ka da ou σ ρ τ δ run kp la ov I H locs hP hD hS ls hl K)
      | 7, _ => exact lv_tableIn (x := nI 7) (off := 305) (tgt := 344) hx hb dL_law_39 (by decide) (by decide) rfl (by decide) (lc_7_offer hL C0 hl9 hG hA hbA hZ0 hK n t hn ht xo s0 f w s2 f2 w2 t0 d db e0 mo fa ka da ou σ ρ τ δ run kp la ov I H locs hP hD hS ls hl K)
      | 8, _ => exact lv_tableIn (x := nI 8) (off := 404) (tgt := 443) hx hb dL_law_39 (by decide) (by decide) rfl (by decide) (lc_8_put hL C0 hl9 hG hA hbA hZ0 hK n t hn ht xo s0 f w s2 f2 w2 t0 d db e0 mo fa ka da ou σ ρ τ δ run kp la ov I H locs hP hD hS ls hl K)
      | 9, _ => exact lv_tableIn (x := nI 9) (off := 467) (tgt := 506) hx hb dL_law_39 (by decide) (by decide) rfl (by decide) (lc_9_copy hL C0 hl9 hG hA hbA hZ0 hK n t hn ht xo s0 f w s2 f2 w2 t0 d db e0 mo fa ka da ou σ ρ τ δ run kp la ov I H locs hP hD hS ls hl K)
      | 10, _ => exact lv_tableIn (x := nI 10) (off := 535) (tgt := 574) hx hb dL_law_39 (by decide) (by decide) rfl (by decide) (lc_10_finish hL C0 hl9 hG hA hbA hZ0 hK n t hn ht xo s0 f w s2 f2 w2 t0 d db e0 mo fa ka da ou σ ρ τ δ run kp la ov I H locs hP hD hS ls hl K)
      | 11, _ => exact lv_tableIn (x := nI 11) (off := 598) (tgt := 637) hx hb dL_law_39 (by decide) (by decide) rfl (by decide) (lc_11_confirm hL C0 hl9 hG hA hbA hZ0 hK n t hn ht xo s0 f w s2 f2 w2 t0 d db e0 mo fa ka da ou σ ρ τ δ run kp la ov I H locs hP hD hS ls hl K)
      | 12, _ => exact lv_tableIn (x := nI 12) (off := 649) (tgt := 688) hx hb dL_law_39 (by decide) (by decide) rfl (by decide) (lc_12_toCome hL C0 hl9 hG hA hbA hZ0 hK n t hn ht xo s0 f w s2 f2 w2 t0 d db e0 mo fa ka da ou σ ρ τ δ run kp la ov I H locs hP hD hS ls hl K)
      | 13, _ => exact lv_tableIn (x := nI 13) (off := 662) (tgt := 701) hx hb dL_law_39 (by decide) (by decide) rfl (by decide) (lc_13_draft hL C0 hl9 hG hA hbA hZ0 hK n t hn ht xo s0 f w s2 f2 w2 t0 d db e0 mo fa ka da ou σ ρ τ δ run kp la ov I H locs hP hD hS ls hl K)
      | 14, _ => exact lv_tableIn (x := nI 14) (off := 718) (tgt := 757) hx hb dL_law_39 (by decide) (by decide) rfl (by decide) (lc_14_clearDraft hL C0 hl9 hG hA hbA hZ0 hK n t hn ht xo s0 f w s2 f2 w2 t0 d db e0 mo fa ka da ou σ ρ τ δ run kp la ov I H locs hP hD hS ls hl K)
      | 15, _ => exact lv_tableIn (x := nI 15) (off := 731) (tgt := 770) hx hb dL_law_39 (by decide) (by decide) rfl (by decide) (lc_15_draftHash hL C0 hl9 hG hA hbA hZ0 hK n t hn ht xo s0 f w s2 f2 w2 t0 d db e0 mo fa ka da ou σ ρ τ δ run kp la ov I H locs hP hD hS ls hl K)
      | 16, _ => exact lv_tableIn (x := nI 16) (off := 744) (tgt := 783) hx hb dL_law_39 (by decide) (by decide) rfl (by decide) (lc_16_deltaPieces hL C0 hl9 hG hA hbA hZ0 hK n t hn ht xo s0 f w s2 f2 w2 t0 d db e0 mo fa ka da ou σ ρ τ δ run kp la ov I H locs hP hD hS ls hl K)
      | 17, _ => exact lv_tableIn (x := nI 17) (off := 800) (tgt := 839) hx hb dL_law_39 (by decide) (by decide) rfl (by decide) (lc_17_deltaLength hL C0 hl9 hG hA hbA hZ0 hK n t hn ht xo s0 f w s2 f2 w2 t0 d db e0 mo fa ka da ou σ ρ τ δ run kp la ov I H locs hP hD hS ls hl K)
      | 18, _ => exact lv_tableIn (x := nI 18) (off := 868) (tgt := 907) hx hb dL_law_39 (by decide) (by decide) rfl (by decide) (lc_18_deltaFrom hL C0 hl9 hG hA hbA hZ0 hK n t hn ht xo s0 f w s2 f2 w2 t0 d db e0 mo fa ka da ou σ ρ τ δ run kp la ov I H locs hP hD hS ls hl K)
      | 19, _ => exact lv_tableIn (x := nI 19) (off := 936) (tgt := 975) hx hb dL_law_39 (by decide) (by decide) rfl (by decide) (lc_19_isStartable hL C0 hl9 hG hA hbA hZ0 hK n t hn ht xo s0 f w s2 f2 w2 t0 d db e0 mo fa ka da ou σ ρ τ δ run kp la ov I H locs hP hD hS ls hl K)
      | 20, _ => exact lv_tableIn (x := nI 20) (off := 999) (tgt := 1038) hx hb dL_law_39 (by decide) (by decide) rfl (by decide) (lc_20_version hL C0 hl9 hG hA hbA hZ0 hK n t hn ht xo s0 f w s2 f2 w2 t0 d db e0 mo fa ka da ou σ ρ τ δ run kp la ov I H locs hP hD hS ls hl K)
      | 21, _ => exact lv_tableIn (x := nI 21) (off := 1055) (tgt := 1094) hx hb dL_law_39 (by decide) (by decide) rfl (by decide) (lc_21_imageByte hL C0 hl9 hG hA hbA hZ0 hK n t hn ht xo s0 f w s2 f2 w2 t0 d db e0 mo fa ka da ou σ ρ τ δ run kp la ov I H locs hP hD hS ls hl K)
      | 22, _ => exact lv_tableIn (x := nI 22) (off := 1123) (tgt := 1162) hx hb dL_law_39 (by decide) (by decide) rfl (by decide) (lc_22_record hL C0 hl9 hG hA hbA hZ0 hK n t hn ht xo s0 f w s2 f2 w2 t0 d db e0 mo fa ka da ou σ ρ τ δ run kp la ov I H locs hP hD hS ls hl K)
      | 23, _ => exact lv_tableIn (x := nI 23) (off := 1136) (tgt := 1175) hx hb dL_law_39 (by decide) (by decide) rfl (by decide) (lc_23_isValid hL C0 hl9 hG hA hbA hZ0 hK n t hn ht xo s0 f w s2 f2 w2 t0 d db e0 mo fa ka da ou σ ρ τ δ run kp la ov I H locs hP hD hS ls hl K)
      | 24, _ => exact lv_tableIn (x := nI 24) (off := 1199) (tgt := 1238) hx hb dL_law_39 (by decide) (by decide) rfl (by decide) (lc_24_confirmed hL C0 hl9 hG hA hbA hZ0 hK n t hn ht xo s0 f w s2 f2 w2 t0 d db e0 mo fa ka da ou σ ρ τ δ run kp la ov I H locs hP hD hS ls hl K)
      | 25, _ => exact lv_tableIn (x := nI 25) (off := 1212) (tgt := 1251) hx hb dL_law_39 (by decide) (by decide) rfl (by decide) (lc_25_tries hL C0 hl9 hG hA hbA hZ0 hK n t hn ht xo s0 f w s2 f2 w2 t0 d db e0 mo fa ka da ou σ ρ τ δ run kp la ov I H locs hP hD hS ls hl K)
      | 26, _ => exact lv_tableIn (x := nI 26) (off := 1225) (tgt := 1264) hx hb dL_law_39 (by decide) (by decide) rfl (by decide) (lc_26_counter hL C0 hl9 hG hA hbA hZ0 hK n t hn ht xo s0 f w s2 f2 w2 t0 d db e0 mo fa ka da ou σ ρ τ δ run kp la ov I H locs hP hD hS ls hl K)
      | 27, _ => exact lv_tableIn (x := nI 27) (off := 1238) (tgt := 1277) hx hb dL_law_39 (by decide) (by decide) rfl (by decide) (lc_27_safeFinish hL C0 hl9 hG hA hbA hZ0 hK n t hn ht xo s0 f w s2 f2 w2 t0 d db e0 mo fa ka da ou σ ρ τ δ run kp la ov I H locs hP hD hS ls hl K)
      | 28, _ => exact lv_tableIn (x := nI 28) (off := 1294) (tgt := 1333) hx hb dL_law_39 (by decide) (by decide) rfl (by decide) (lc_28_wouldStart hL C0 hl9 hG hA hbA hZ0 hK n t hn ht xo s0 f w s2 f2 w2 t0 d db e0 mo fa ka da ou σ ρ τ δ run kp la ov I H locs hP hD hS ls hl K)
      | j + 29, hj => exact lv_tableOut (x := nI (j + 29)) (tgt := 1346) hx hb dL_law_39 (Or.inr (by rw [nI_toInt (by omega)]; omega)) (by decide) (W.widen (k := 16 + (t + 1)) (n := 351 + 6 * (t + 1)) (by omega) (by omega) (K σ ρ τ δ run kp la ov I H locs hP hD hS ls hl))
