/-! which codes a method throws with -/
theorem rW (a b c : Int32) : F_X5_requireWithin a b c = 0 ∨ F_X5_requireWithin a b c = 1 := by
  unfold F_X5_requireWithin
  repeat' split
  all_goals first | exact Or.inl rfl | exact Or.inr rfl
theorem rW2 (a b c : Int32) : ¬ F_X5_requireWithin a b c = 2 := by rcases rW a b c with h | h <;> rw [h] <;> decide
theorem rW3 (a b c : Int32) : ¬ F_X5_requireWithin a b c = 3 := by rcases rW a b c with h | h <;> rw [h] <;> decide
theorem rO1 (a : Int32) : ¬ F_X5_requireOn a = 1 := by unfold F_X5_requireOn; split <;> decide
theorem rO3 (a : Int32) : ¬ F_X5_requireOn a = 3 := by unfold F_X5_requireOn; split <;> decide
theorem rT3 (a : TS) (b : Int32) : ¬ F_X5_requireToCome a b = 3 := by unfold F_X5_requireToCome; split <;> decide
theorem rF3 (a : FS) (b : TS) (c d : Int32) : ¬ F_X5_requireFinishable a b c d = 3 := by
  unfold F_X5_requireFinishable
  repeat' split
  all_goals first | exact rW3 _ _ _ | decide
theorem rS3 (a : FS) (b : Int32) : ¬ F_X5_requireStartable a b = 3 := by
  unfold F_X5_requireStartable
  repeat' split
  all_goals first | exact rW3 _ _ _ | decide
theorem n01 : ¬ (0 : Int32) = 1 := by decide
theorem n02 : ¬ (0 : Int32) = 2 := by decide
theorem n03 : ¬ (0 : Int32) = 3 := by decide
theorem n12 : ¬ (1 : Int32) = 2 := by decide
theorem n13 : ¬ (1 : Int32) = 3 := by decide
theorem n21 : ¬ (2 : Int32) = 1 := by decide
theorem n23 : ¬ (2 : Int32) = 3 := by decide
theorem n32 : ¬ (3 : Int32) = 2 := by decide
theorem nc3_offer (σ : FS) (τ : TS) (run : Int32) (p0 : Int32) (p1 : Int32) (p2 : Int32) (p3 : Int32) : ¬ (F_X5_offer σ τ run p0 p1 p2 p3).1 = 3 := by
  unfold F_X5_offer
  repeat' split
  all_goals first | exact n03 | exact rW3 _ _ _ | exact n23 | exact n13 | exact rO3 _ | exact rT3 _ _ | exact rF3 _ _ _ _ | exact rS3 _ _
theorem nc3_put (σ : FS) (τ : TS) (run : Int32) (p0 : Int32) : ¬ (F_X5_put σ τ run p0).1 = 3 := by
  unfold F_X5_put
  repeat' split
  all_goals first | exact n03 | exact rW3 _ _ _ | exact n23 | exact n13 | exact rO3 _ | exact rT3 _ _ | exact rF3 _ _ _ _ | exact rS3 _ _
theorem nc3_copy (σ : FS) (τ : TS) (run : Int32) (p0 : Int32) (p1 : Int32) : ¬ (F_X5_copy σ τ run p0 p1).1 = 3 := by
  unfold F_X5_copy F_X5_copyGo
  repeat' split
  all_goals first | exact n03 | exact rW3 _ _ _ | exact n23 | exact n13 | exact rO3 _ | exact rT3 _ _ | exact rF3 _ _ _ _ | exact rS3 _ _
theorem nc3_finish (σ : FS) (τ : TS) (run : Int32) (p0 : Int32) : ¬ (F_X5_finish σ τ run p0).1 = 3 := by
  unfold F_X5_finish
  repeat' split
  all_goals first | exact n03 | exact rW3 _ _ _ | exact n23 | exact n13 | exact rO3 _ | exact rT3 _ _ | exact rF3 _ _ _ _ | exact rS3 _ _
theorem nc3_confirm (σ : FS) (τ : TS) (run : Int32) : ¬ (F_X5_confirm σ τ run).1 = 3 := by
  unfold F_X5_confirm
  repeat' split
  all_goals first | exact n03 | exact rW3 _ _ _ | exact n23 | exact n13 | exact rO3 _ | exact rT3 _ _ | exact rF3 _ _ _ _ | exact rS3 _ _
theorem nc3_safeFinish (σ : FS) (ρ : FS) (τ : TS) (run : Int32) (p0 : Int32) : ¬ (F_X5_safeFinish σ ρ τ run p0).1 = 3 := by
  unfold F_X5_safeFinish
  repeat' split
  all_goals first | exact n03 | exact rW3 _ _ _ | exact n23 | exact n13 | exact rO3 _ | exact rT3 _ _ | exact rF3 _ _ _ _ | exact rS3 _ _
theorem nc1_confirm (σ : FS) (τ : TS) (run : Int32) : ¬ (F_X5_confirm σ τ run).1 = 1 := by
  unfold F_X5_confirm
  repeat' split
  all_goals first | exact n01 | exact rW2 _ _ _ | exact n21 | exact rO1 _
def F_L_offered (σ : FS) (τ : TS) (run : Int32) (p0 : Int32) (p1 : Int32) (p2 : Int32) (p3 : Int32) : Int32 × (FS) × (TS) × (Int32) := if (F_X5_offer σ τ run p0 p1 p2 p3).1 = 0 then ((if (F_X5_offer σ τ run p0 p1 p2 p3).2.1 = 0 then 0 else 1), (F_X5_offer σ τ run p0 p1 p2 p3).2.2.1, (F_X5_offer σ τ run p0 p1 p2 p3).2.2.2.1, (F_X5_offer σ τ run p0 p1 p2 p3).2.2.2.2) else ((-2), σ, τ, run)
set_option maxHeartbeats 4000000 in
set_option maxRecDepth 100000 in
theorem c_L_offered (l : Launch) (hl9 : l.stackTraces = false) (D : va_G) (cA : ClassId) (b s0 f w s2 f2 w2 t0 d db e0 : Nat) (sz : Nat) (σ : FS) (ρ : FS) (τ : TS) (δ : DS) (run : Int32) (p0 : Int32) (p1 : Int32) (p2 : Int32) (p3 : Int32) (hx1 : ¬ (F_X5_offer σ τ run p0 p1 p2 p3).1 = 1) : vx_Met l yL_offered wsL_offered ({ frames := 8, cells := 1, slots := 6, locals := 136 }) (va_Pc [.ref b, .int p0, .int p1, .int p2, .int p3] (bx_prx D [(cA, .int)] (wBo cA b s0 f w s2 f2 w2 t0 d db e0 σ ρ τ δ run) sz)) (va_Qi (fun (r : Int32) (u : (FS) × (TS) × (Int32)) => (r, u) = F_L_offered σ τ run p0 p1 p2 p3) (fun u t => bx_at D (wBo cA b s0 f w s2 f2 w2 t0 d db e0 u.1 ρ u.2.1 δ u.2.2) (va_A (wBo cA b s0 f w s2 f2 w2 t0 d db e0 σ ρ τ δ run) sz) t) (va_A (wBo cA b s0 f w s2 f2 w2 t0 d db e0 σ ρ τ δ run) sz)) (fun _ _ _ => False) 1 6 (va_A (wBo cA b s0 f w s2 f2 w2 t0 d db e0 σ ρ τ δ run) sz) := by
  refine vx_ofWH (cc := cL_offered) (maxL := 6) (ret := (some .int)) (hh := [(0, 17, 18, 69)]) (by decide) rfl ?_
  intro p e s m args below meth c s₁ B hml hv
  obtain ⟨rfl, hsz, hP, hK, hD0, hG, hZ⟩ := hv
  have hx := B.exec
  have hb := B.bytes
  have hr := B.returns
  have hts := atoms_spec (ws := wsL_offered) B.pre
  have hown : s.vm.findClass RL = some m.cls := findClass_of_methodNamed B.named
  have hlocks := B.notSynchronized
  have htab := vx_table (x := yL_offered) B (hts _ List.mem_cons_self)
  subst hsz
  have hD := hD0.self (sz := s.heap.size)
  generalize hAe : va_A (wBo cA b s0 f w s2 f2 w2 t0 d db e0 σ ρ τ δ run) s.heap.size = A at hD ⊢
  have hA : ∀ q : Nat, s.heap.size ≤ q → A q := fun q h => by rw [← hAe]; exact Or.inr h
  have hS : va_S A s.heap s.heap [] := va_S.rf
  have hD : va_D A [(b, .inr (5, [.ref s0, .ref s2, .ref t0, .ref d, .ref e0, .int run])), (s0, .inr (3, [.ref f])), (f, .inr (2, [.ref w, .int σ.2.1, .int σ.2.2])), (w, .inl (cA, 66, .inl σ.1)), (s2, .inr (3, [.ref f2])), (f2, .inr (2, [.ref w2, .int ρ.2.1, .int ρ.2.2])), (w2, .inl (cA, 66, .inl ρ.1)), (t0, .inr (4, [.int τ.1, .int τ.2.1, .int τ.2.2.1, .int τ.2.2.2.1, .int τ.2.2.2.2.1, .int τ.2.2.2.2.2])), (d, .inr (1, [.int δ.1, .ref db])), (db, .inl (cA, 24, .inl δ.2)), (e0, .inr (0, [.ref d, .ref s0]))] := hD
  have hP : va_P D vwCl [(b, .inr (5, [.ref s0, .ref s2, .ref t0, .ref d, .ref e0, .int run])), (s0, .inr (3, [.ref f])), (f, .inr (2, [.ref w, .int σ.2.1, .int σ.2.2])), (w, .inl (cA, 66, .inl σ.1)), (s2, .inr (3, [.ref f2])), (f2, .inr (2, [.ref w2, .int ρ.2.1, .int ρ.2.2])), (w2, .inl (cA, 66, .inl ρ.1)), (t0, .inr (4, [.int τ.1, .int τ.2.1, .int τ.2.2.1, .int τ.2.2.2.1, .int τ.2.2.2.2.1, .int τ.2.2.2.2.2])), (d, .inr (1, [.int δ.1, .ref db])), (db, .inl (cA, 24, .inl δ.2)), (e0, .inr (0, [.ref d, .ref s0]))] s.heap := hP
  have hl := lv_entry ([.ref b, .int p0, .int p1, .int p2, .int p3]) (n := 6) (Nat.le_of_ble_eq_true rfl)
  rw [lg_entry_eq]
  generalize (lg_sl ([.ref b, .int p0, .int p1, .int p2, .int p3]) ++ List.replicate (6 - (lg_sl ([.ref b, .int p0, .int p1, .int p2, .int p3])).length) Slot.unset).toArray = ls at hl ⊢
  have hl : lv_has ls 6 [(0, .ref b), (1, .int p0), (2, .int p1), (3, .int p2), (4, .int p3)] := hl
  refine lv_aload_n hx hb dL_offered_0 rfl (lv_at hl 0 rfl) ?_
  refine lv_iload_n hx hb dL_offered_1 rfl (lv_at hl 1 rfl) ?_
  refine lv_iload_n hx hb dL_offered_2 rfl (lv_at hl 2 rfl) ?_
  refine lv_iload_n hx hb dL_offered_3 rfl (lv_at hl 3 rfl) ?_
  refine lv_iload hx hb dL_offered_4 (lv_at hl 4 rfl) ?_
  refine bx_xwi (wc := [(b, .inr (5, [.ref s0, .ref s2, .ref t0, .ref d, .ref e0, .int run])), (s0, .inr (3, [.ref f])), (f, .inr (2, [.ref w, .int σ.2.1, .int σ.2.2])), (w, .inl (cA, 66, .inl σ.1)), (s2, .inr (3, [.ref f2])), (f2, .inr (2, [.ref w2, .int ρ.2.1, .int ρ.2.2])), (w2, .inl (cA, 66, .inl ρ.1)), (t0, .inr (4, [.int τ.1, .int τ.2.1, .int τ.2.2.1, .int τ.2.2.2.1, .int τ.2.2.2.2.1, .int τ.2.2.2.2.2])), (d, .inr (1, [.int δ.1, .ref db])), (db, .inl (cA, 24, .inl δ.2)), (e0, .inr (0, [.ref d, .ref s0]))]) (wr := []) (wf := fun (u : (FS) × (TS) × (Int32)) => [(b, .inr (5, [.ref s0, .ref s2, .ref t0, .ref d, .ref e0, .int u.2.2])), (s0, .inr (3, [.ref f])), (f, .inr (2, [.ref w, .int u.1.2.1, .int u.1.2.2])), (w, .inl (cA, 66, .inl u.1.1)), (s2, .inr (3, [.ref f2])), (f2, .inr (2, [.ref w2, .int ρ.2.1, .int ρ.2.2])), (w2, .inl (cA, 66, .inl ρ.1)), (t0, .inr (4, [.int u.2.1.1, .int u.2.1.2.1, .int u.2.1.2.2.1, .int u.2.1.2.2.2.1, .int u.2.1.2.2.2.2.1, .int u.2.1.2.2.2.2.2])), (d, .inr (1, [.int δ.1, .ref db])), (db, .inl (cA, 24, .inl δ.2)), (e0, .inr (0, [.ref d, .ref s0]))]) (wn := fun (u : (FS) × (TS) × (Int32)) => [(b, .inr (5, [.ref s0, .ref s2, .ref t0, .ref d, .ref e0, .int u.2.2])), (s0, .inr (3, [.ref f])), (f, .inr (2, [.ref w, .int u.1.2.1, .int u.1.2.2])), (w, .inl (cA, 66, .inl u.1.1)), (s2, .inr (3, [.ref f2])), (f2, .inr (2, [.ref w2, .int ρ.2.1, .int ρ.2.2])), (w2, .inl (cA, 66, .inl ρ.1)), (t0, .inr (4, [.int u.2.1.1, .int u.2.1.2.1, .int u.2.1.2.2.1, .int u.2.1.2.2.2.1, .int u.2.1.2.2.2.2.1, .int u.2.1.2.2.2.2.2])), (d, .inr (1, [.int δ.1, .ref db])), (db, .inl (cA, 24, .inl δ.2)), (e0, .inr (0, [.ref d, .ref s0]))]) hP hD hS hA [0, 1, 2, 3, 4, 5, 6, 7, 8, 9, 10] [] [0, 1, 2, 3, 4, 5, 6, 7, 8, 9, 10] rfl rfl (by decide) (by decide) (fun u => rfl) (by decide) (vx_runV (As := [.int p0, .int p1, .int p2, .int p3]) (rest := []) ⟨hx, hb, hml, hown, hts⟩ (c_X5_offer l hl9 D cA b s0 f w s2 f2 w2 t0 d db e0 s.heap.size σ ρ τ δ run p0 p1 p2 p3) (cwV 4 hts gL_offered_X5_offer rfl rfl rfl (by decide +kernel) ⟨Nat.le_of_ble_eq_true rfl, Nat.le_of_ble_eq_true rfl⟩) (bx_pvx (ci := 5) (q0 := 0) hK hG hZ (hP.sub (ws' := [(b, .inr (5, [.ref s0, .ref s2, .ref t0, .ref d, .ref e0, .int run])), (s0, .inr (3, [.ref f])), (f, .inr (2, [.ref w, .int σ.2.1, .int σ.2.2])), (w, .inl (cA, 66, .inl σ.1)), (s2, .inr (3, [.ref f2])), (f2, .inr (2, [.ref w2, .int ρ.2.1, .int ρ.2.2])), (w2, .inl (cA, 66, .inl ρ.1)), (t0, .inr (4, [.int τ.1, .int τ.2.1, .int τ.2.2.1, .int τ.2.2.2.1, .int τ.2.2.2.2.1, .int τ.2.2.2.2.2])), (d, .inr (1, [.int δ.1, .ref db])), (db, .inl (cA, 24, .inl δ.2)), (e0, .inr (0, [.ref d, .ref s0]))]) [0, 1, 2, 3, 4, 5, 6, 7, 8, 9, 10] rfl) (hD.sub (ws' := [(b, .inr (5, [.ref s0, .ref s2, .ref t0, .ref d, .ref e0, .int run])), (s0, .inr (3, [.ref f])), (f, .inr (2, [.ref w, .int σ.2.1, .int σ.2.2])), (w, .inl (cA, 66, .inl σ.1)), (s2, .inr (3, [.ref f2])), (f2, .inr (2, [.ref w2, .int ρ.2.1, .int ρ.2.2])), (w2, .inl (cA, 66, .inl ρ.1)), (t0, .inr (4, [.int τ.1, .int τ.2.1, .int τ.2.2.1, .int τ.2.2.2.1, .int τ.2.2.2.2.1, .int τ.2.2.2.2.2])), (d, .inr (1, [.int δ.1, .ref db])), (db, .inl (cA, 24, .inl δ.2)), (e0, .inr (0, [.ref d, .ref s0]))]) [0, 1, 2, 3, 4, 5, 6, 7, 8, 9, 10] (by decide) rfl) rfl rfl) rfl rfl hl.1 rfl (lv_room (Nat.le_of_ble_eq_true rfl)) dL_offered_6 ⟨Nat.le_of_ble_eq_true rfl, Nat.le_of_ble_eq_true rfl⟩) (fun E ce q9 H1 locs hE hP hD hS hce hcv hcl => ?_) (fun r u H locs h hP hD hS => ?_)
  · skip
    rcases hE with ⟨hk, rfl⟩ | ⟨hk, rfl⟩ | ⟨hk, rfl⟩
    · skip
      exact absurd hk hx1
    · skip
      refine vx_catch (name := bx_ise) (E := bx_ise) hown [] ⟨0, 17, 18, 69⟩ [] htab (fun z hz => nomatch hz) (by decide) (by decide) (hts (.classLink RL 69 bx_ise) (by decide +kernel)) (va_Nw.use rfl (hG.1 (.castable bx_ise bx_ise) (by decide +kernel))) hce hcv hcl ?_
      refine W.eq (g2 := F0 m 18 ls [.ref q9]) rfl ?_
      refine lv_astore (lv' := [(5, .ref q9), (0, .ref b), (1, .int p0), (2, .int p1), (3, .int p2), (4, .int p3)]) hx hb dL_offered_18 hl (by decide) rfl (fun ls hl => ?_)
      refine lv_bipush (v := (-2)) hx hb dL_offered_20 (by decide) ?_
      refine vx_ret ?_
      exact W.iret (v := (-2)) hx hb hr (fun t ht hW => ⟨⟨(-2), (σ, τ, run), rfl, (by simp only [F_L_offered, hk] <;> rfl), ⟨by rw [ht]; exact hP, hD⟩⟩, hS.F ht⟩) hS.2.2 dL_offered_22
    · skip
      exact absurd hk (nc3_offer _ _ _ _ _ _ _)
  · skip
    obtain ⟨σ1, τ1, run1⟩ := u
    obtain ⟨h, hb9⟩ := h
    refine lv_if_eq (tgt := 16) hx hb dL_offered_9 (by decide) (fun c_1 => ?_) (fun c_1 => ?_)
    · skip
      refine lv_iconst (v := 0) hx hb dL_offered_16 (by decide) ?_
      refine vx_ret ?_
      refine W.widen (k := 1) (n := 6) (Nat.le_of_ble_eq_true rfl) (Nat.le_of_ble_eq_true rfl) ?_
      exact W.iret (v := 0) hx hb hr (fun t ht hW => ⟨⟨0, (σ1, τ1, run1), rfl, (by simp only [F_L_offered, ← h, if_pos c_1] <;> rfl), ⟨by rw [ht]; exact hP, hD⟩⟩, hS.F ht⟩) hS.2.2 dL_offered_17
    · skip
      refine lv_iconst (v := 1) hx hb dL_offered_12 (by decide) ?_
      refine lv_goto (tgt := 17) hx hb dL_offered_13 (by decide) ?_
      refine vx_ret ?_
      refine W.widen (k := 1) (n := 6) (Nat.le_of_ble_eq_true rfl) (Nat.le_of_ble_eq_true rfl) ?_
      exact W.iret (v := 1) hx hb hr (fun t ht hW => ⟨⟨1, (σ1, τ1, run1), rfl, (by simp only [F_L_offered, ← h, if_neg c_1] <;> rfl), ⟨by rw [ht]; exact hP, hD⟩⟩, hS.F ht⟩) hS.2.2 dL_offered_17
def F_L_put (σ : FS) (τ : TS) (run : Int32) (p0 : Int32) : Int32 × (FS) × (TS) × (Int32) := if (F_X5_put σ τ run p0).1 = 0 then ((if (F_X5_put σ τ run p0).2.1 = 0 then 0 else 1), (F_X5_put σ τ run p0).2.2.1, (F_X5_put σ τ run p0).2.2.2.1, (F_X5_put σ τ run p0).2.2.2.2) else ((-2), σ, τ, run)
set_option maxHeartbeats 4000000 in
set_option maxRecDepth 100000 in
theorem c_L_put (l : Launch) (hl9 : l.stackTraces = false) (D : va_G) (cA : ClassId) (b s0 f w s2 f2 w2 t0 d db e0 : Nat) (sz : Nat) (σ : FS) (ρ : FS) (τ : TS) (δ : DS) (run : Int32) (p0 : Int32) (hx1 : ¬ (F_X5_put σ τ run p0).1 = 1) : vx_Met l yL_put wsL_put ({ frames := 8, cells := 1, slots := 6, locals := 133 }) (va_Pc [.ref b, .int p0] (bx_prx D [(cA, .int)] (wBo cA b s0 f w s2 f2 w2 t0 d db e0 σ ρ τ δ run) sz)) (va_Qi (fun (r : Int32) (u : (FS) × (TS) × (Int32)) => (r, u) = F_L_put σ τ run p0) (fun u t => bx_at D (wBo cA b s0 f w s2 f2 w2 t0 d db e0 u.1 ρ u.2.1 δ u.2.2) (va_A (wBo cA b s0 f w s2 f2 w2 t0 d db e0 σ ρ τ δ run) sz) t) (va_A (wBo cA b s0 f w s2 f2 w2 t0 d db e0 σ ρ τ δ run) sz)) (fun _ _ _ => False) 1 6 (va_A (wBo cA b s0 f w s2 f2 w2 t0 d db e0 σ ρ τ δ run) sz) := by
  refine vx_ofWH (cc := cL_put) (maxL := 3) (ret := (some .int)) (hh := [(0, 13, 14, 69)]) (by decide) rfl ?_
  intro p e s m args below meth c s₁ B hml hv
  obtain ⟨rfl, hsz, hP, hK, hD0, hG, hZ⟩ := hv
  have hx := B.exec
  have hb := B.bytes
  have hr := B.returns
  have hts := atoms_spec (ws := wsL_put) B.pre
  have hown : s.vm.findClass RL = some m.cls := findClass_of_methodNamed B.named
  have hlocks := B.notSynchronized
  have htab := vx_table (x := yL_put) B (hts _ List.mem_cons_self)
  subst hsz
  have hD := hD0.self (sz := s.heap.size)
  generalize hAe : va_A (wBo cA b s0 f w s2 f2 w2 t0 d db e0 σ ρ τ δ run) s.heap.size = A at hD ⊢
  have hA : ∀ q : Nat, s.heap.size ≤ q → A q := fun q h => by rw [← hAe]; exact Or.inr h
  have hS : va_S A s.heap s.heap [] := va_S.rf
  have hD : va_D A [(b, .inr (5, [.ref s0, .ref s2, .ref t0, .ref d, .ref e0, .int run])), (s0, .inr (3, [.ref f])), (f, .inr (2, [.ref w, .int σ.2.1, .int σ.2.2])), (w, .inl (cA, 66, .inl σ.1)), (s2, .inr (3, [.ref f2])), (f2, .inr (2, [.ref w2, .int ρ.2.1, .int ρ.2.2])), (w2, .inl (cA, 66, .inl ρ.1)), (t0, .inr (4, [.int τ.1, .int τ.2.1, .int τ.2.2.1, .int τ.2.2.2.1, .int τ.2.2.2.2.1, .int τ.2.2.2.2.2])), (d, .inr (1, [.int δ.1, .ref db])), (db, .inl (cA, 24, .inl δ.2)), (e0, .inr (0, [.ref d, .ref s0]))] := hD
  have hP : va_P D vwCl [(b, .inr (5, [.ref s0, .ref s2, .ref t0, .ref d, .ref e0, .int run])), (s0, .inr (3, [.ref f])), (f, .inr (2, [.ref w, .int σ.2.1, .int σ.2.2])), (w, .inl (cA, 66, .inl σ.1)), (s2, .inr (3, [.ref f2])), (f2, .inr (2, [.ref w2, .int ρ.2.1, .int ρ.2.2])), (w2, .inl (cA, 66, .inl ρ.1)), (t0, .inr (4, [.int τ.1, .int τ.2.1, .int τ.2.2.1, .int τ.2.2.2.1, .int τ.2.2.2.2.1, .int τ.2.2.2.2.2])), (d, .inr (1, [.int δ.1, .ref db])), (db, .inl (cA, 24, .inl δ.2)), (e0, .inr (0, [.ref d, .ref s0]))] s.heap := hP
  have hl := lv_entry ([.ref b, .int p0]) (n := 3) (Nat.le_of_ble_eq_true rfl)
  rw [lg_entry_eq]
  generalize (lg_sl ([.ref b, .int p0]) ++ List.replicate (3 - (lg_sl ([.ref b, .int p0])).length) Slot.unset).toArray = ls at hl ⊢
  have hl : lv_has ls 3 [(0, .ref b), (1, .int p0)] := hl
  refine lv_aload_n hx hb dL_put_0 rfl (lv_at hl 0 rfl) ?_
  refine lv_iload_n hx hb dL_put_1 rfl (lv_at hl 1 rfl) ?_
  refine bx_xwi (wc := [(b, .inr (5, [.ref s0, .ref s2, .ref t0, .ref d, .ref e0, .int run])), (s0, .inr (3, [.ref f])), (f, .inr (2, [.ref w, .int σ.2.1, .int σ.2.2])), (w, .inl (cA, 66, .inl σ.1)), (s2, .inr (3, [.ref f2])), (f2, .inr (2, [.ref w2, .int ρ.2.1, .int ρ.2.2])), (w2, .inl (cA, 66, .inl ρ.1)), (t0, .inr (4, [.int τ.1, .int τ.2.1, .int τ.2.2.1, .int τ.2.2.2.1, .int τ.2.2.2.2.1, .int τ.2.2.2.2.2])), (d, .inr (1, [.int δ.1, .ref db])), (db, .inl (cA, 24, .inl δ.2)), (e0, .inr (0, [.ref d, .ref s0]))]) (wr := []) (wf := fun (u : (FS) × (TS) × (Int32)) => [(b, .inr (5, [.ref s0, .ref s2, .ref t0, .ref d, .ref e0, .int u.2.2])), (s0, .inr (3, [.ref f])), (f, .inr (2, [.ref w, .int u.1.2.1, .int u.1.2.2])), (w, .inl (cA, 66, .inl u.1.1)), (s2, .inr (3, [.ref f2])), (f2, .inr (2, [.ref w2, .int ρ.2.1, .int ρ.2.2])), (w2, .inl (cA, 66, .inl ρ.1)), (t0, .inr (4, [.int u.2.1.1, .int u.2.1.2.1, .int u.2.1.2.2.1, .int u.2.1.2.2.2.1, .int u.2.1.2.2.2.2.1, .int u.2.1.2.2.2.2.2])), (d, .inr (1, [.int δ.1, .ref db])), (db, .inl (cA, 24, .inl δ.2)), (e0, .inr (0, [.ref d, .ref s0]))]) (wn := fun (u : (FS) × (TS) × (Int32)) => [(b, .inr (5, [.ref s0, .ref s2, .ref t0, .ref d, .ref e0, .int u.2.2])), (s0, .inr (3, [.ref f])), (f, .inr (2, [.ref w, .int u.1.2.1, .int u.1.2.2])), (w, .inl (cA, 66, .inl u.1.1)), (s2, .inr (3, [.ref f2])), (f2, .inr (2, [.ref w2, .int ρ.2.1, .int ρ.2.2])), (w2, .inl (cA, 66, .inl ρ.1)), (t0, .inr (4, [.int u.2.1.1, .int u.2.1.2.1, .int u.2.1.2.2.1, .int u.2.1.2.2.2.1, .int u.2.1.2.2.2.2.1, .int u.2.1.2.2.2.2.2])), (d, .inr (1, [.int δ.1, .ref db])), (db, .inl (cA, 24, .inl δ.2)), (e0, .inr (0, [.ref d, .ref s0]))]) hP hD hS hA [0, 1, 2, 3, 4, 5, 6, 7, 8, 9, 10] [] [0, 1, 2, 3, 4, 5, 6, 7, 8, 9, 10] rfl rfl (by decide) (by decide) (fun u => rfl) (by decide) (vx_runV (As := [.int p0]) (rest := []) ⟨hx, hb, hml, hown, hts⟩ (c_X5_put l hl9 D cA b s0 f w s2 f2 w2 t0 d db e0 s.heap.size σ ρ τ δ run p0) (cwV 1 hts gL_put_X5_put rfl rfl rfl (by decide +kernel) ⟨Nat.le_of_ble_eq_true rfl, Nat.le_of_ble_eq_true rfl⟩) (bx_pvx (ci := 5) (q0 := 0) hK hG hZ (hP.sub (ws' := [(b, .inr (5, [.ref s0, .ref s2, .ref t0, .ref d, .ref e0, .int run])), (s0, .inr (3, [.ref f])), (f, .inr (2, [.ref w, .int σ.2.1, .int σ.2.2])), (w, .inl (cA, 66, .inl σ.1)), (s2, .inr (3, [.ref f2])), (f2, .inr (2, [.ref w2, .int ρ.2.1, .int ρ.2.2])), (w2, .inl (cA, 66, .inl ρ.1)), (t0, .inr (4, [.int τ.1, .int τ.2.1, .int τ.2.2.1, .int τ.2.2.2.1, .int τ.2.2.2.2.1, .int τ.2.2.2.2.2])), (d, .inr (1, [.int δ.1, .ref db])), (db, .inl (cA, 24, .inl δ.2)), (e0, .inr (0, [.ref d, .ref s0]))]) [0, 1, 2, 3, 4, 5, 6, 7, 8, 9, 10] rfl) (hD.sub (ws' := [(b, .inr (5, [.ref s0, .ref s2, .ref t0, .ref d, .ref e0, .int run])), (s0, .inr (3, [.ref f])), (f, .inr (2, [.ref w, .int σ.2.1, .int σ.2.2])), (w, .inl (cA, 66, .inl σ.1)), (s2, .inr (3, [.ref f2])), (f2, .inr (2, [.ref w2, .int ρ.2.1, .int ρ.2.2])), (w2, .inl (cA, 66, .inl ρ.1)), (t0, .inr (4, [.int τ.1, .int τ.2.1, .int τ.2.2.1, .int τ.2.2.2.1, .int τ.2.2.2.2.1, .int τ.2.2.2.2.2])), (d, .inr (1, [.int δ.1, .ref db])), (db, .inl (cA, 24, .inl δ.2)), (e0, .inr (0, [.ref d, .ref s0]))]) [0, 1, 2, 3, 4, 5, 6, 7, 8, 9, 10] (by decide) rfl) rfl rfl) rfl rfl hl.1 rfl (lv_room (Nat.le_of_ble_eq_true rfl)) dL_put_2 ⟨Nat.le_of_ble_eq_true rfl, Nat.le_of_ble_eq_true rfl⟩) (fun E ce q9 H1 locs hE hP hD hS hce hcv hcl => ?_) (fun r u H locs h hP hD hS => ?_)
  · skip
    rcases hE with ⟨hk, rfl⟩ | ⟨hk, rfl⟩ | ⟨hk, rfl⟩
    · skip
      exact absurd hk hx1
    · skip
      refine vx_catch (name := bx_ise) (E := bx_ise) hown [] ⟨0, 13, 14, 69⟩ [] htab (fun z hz => nomatch hz) (by decide) (by decide) (hts (.classLink RL 69 bx_ise) (by decide +kernel)) (va_Nw.use rfl (hG.1 (.castable bx_ise bx_ise) (by decide +kernel))) hce hcv hcl ?_
      refine W.eq (g2 := F0 m 14 ls [.ref q9]) rfl ?_
      refine lv_astore_n (lv' := [(2, .ref q9), (0, .ref b), (1, .int p0)]) hx hb dL_put_14 rfl hl (by decide) rfl (fun ls hl => ?_)
      refine lv_bipush (v := (-2)) hx hb dL_put_15 (by decide) ?_
      refine vx_ret ?_
      exact W.iret (v := (-2)) hx hb hr (fun t ht hW => ⟨⟨(-2), (σ, τ, run), rfl, (by simp only [F_L_put, hk] <;> rfl), ⟨by rw [ht]; exact hP, hD⟩⟩, hS.F ht⟩) hS.2.2 dL_put_17
    · skip
      exact absurd hk (nc3_put _ _ _ _)
  · skip
    obtain ⟨σ1, τ1, run1⟩ := u
    obtain ⟨h, hb9⟩ := h
    refine lv_if_eq (tgt := 12) hx hb dL_put_5 (by decide) (fun c_1 => ?_) (fun c_1 => ?_)
    · skip
      refine lv_iconst (v := 0) hx hb dL_put_12 (by decide) ?_
      refine vx_ret ?_
      refine W.widen (k := 1) (n := 6) (Nat.le_of_ble_eq_true rfl) (Nat.le_of_ble_eq_true rfl) ?_
      exact W.iret (v := 0) hx hb hr (fun t ht hW => ⟨⟨0, (σ1, τ1, run1), rfl, (by simp only [F_L_put, ← h, if_pos c_1] <;> rfl), ⟨by rw [ht]; exact hP, hD⟩⟩, hS.F ht⟩) hS.2.2 dL_put_13
    · skip
      refine lv_iconst (v := 1) hx hb dL_put_8 (by decide) ?_
      refine lv_goto (tgt := 13) hx hb dL_put_9 (by decide) ?_
      refine vx_ret ?_
      refine W.widen (k := 1) (n := 6) (Nat.le_of_ble_eq_true rfl) (Nat.le_of_ble_eq_true rfl) ?_
      exact W.iret (v := 1) hx hb hr (fun t ht hW => ⟨⟨1, (σ1, τ1, run1), rfl, (by simp only [F_L_put, ← h, if_neg c_1] <;> rfl), ⟨by rw [ht]; exact hP, hD⟩⟩, hS.F ht⟩) hS.2.2 dL_put_13
def F_L_copied (σ : FS) (τ : TS) (run : Int32) (p0 : Int32) (p1 : Int32) : Int32 × (FS) × (TS) × (Int32) := if (F_X5_copy σ τ run p0 p1).1 = 0 then ((F_X5_copy σ τ run p0 p1).2.1, (F_X5_copy σ τ run p0 p1).2.2.1, (F_X5_copy σ τ run p0 p1).2.2.2.1, (F_X5_copy σ τ run p0 p1).2.2.2.2) else if (F_X5_copy σ τ run p0 p1).1 = 1 then ((-3), σ, τ, run) else ((-2), σ, τ, run)
set_option maxHeartbeats 4000000 in
set_option maxRecDepth 100000 in
theorem c_L_copied (l : Launch) (hl9 : l.stackTraces = false) (D : va_G) (cA : ClassId) (b s0 f w s2 f2 w2 t0 d db e0 : Nat) (sz : Nat) (σ : FS) (ρ : FS) (τ : TS) (δ : DS) (run : Int32) (p0 : Int32) (p1 : Int32) : vx_Met l yL_copied wsL_copied ({ frames := 8, cells := 1, slots := 6, locals := 136 }) (va_Pc [.ref b, .int p0, .int p1] (bx_prx D [(cA, .int)] (wBo cA b s0 f w s2 f2 w2 t0 d db e0 σ ρ τ δ run) sz)) (va_Qi (fun (r : Int32) (u : (FS) × (TS) × (Int32)) => (r, u) = F_L_copied σ τ run p0 p1) (fun u t => bx_at D (wBo cA b s0 f w s2 f2 w2 t0 d db e0 u.1 ρ u.2.1 δ u.2.2) (va_A (wBo cA b s0 f w s2 f2 w2 t0 d db e0 σ ρ τ δ run) sz) t) (va_A (wBo cA b s0 f w s2 f2 w2 t0 d db e0 σ ρ τ δ run) sz)) (fun _ _ _ => False) 1 6 (va_A (wBo cA b s0 f w s2 f2 w2 t0 d db e0 σ ρ τ δ run) sz) := by
  refine vx_ofWH (cc := cL_copied) (maxL := 4) (ret := (some .int)) (hh := [(0, 6, 7, 79), (0, 6, 11, 69)]) (by decide) rfl ?_
  intro p e s m args below meth c s₁ B hml hv
  obtain ⟨rfl, hsz, hP, hK, hD0, hG, hZ⟩ := hv
  have hx := B.exec
  have hb := B.bytes
  have hr := B.returns
  have hts := atoms_spec (ws := wsL_copied) B.pre
  have hown : s.vm.findClass RL = some m.cls := findClass_of_methodNamed B.named
  have hlocks := B.notSynchronized
  have htab := vx_table (x := yL_copied) B (hts _ List.mem_cons_self)
  subst hsz
  have hD := hD0.self (sz := s.heap.size)
  generalize hAe : va_A (wBo cA b s0 f w s2 f2 w2 t0 d db e0 σ ρ τ δ run) s.heap.size = A at hD ⊢
  have hA : ∀ q : Nat, s.heap.size ≤ q → A q := fun q h => by rw [← hAe]; exact Or.inr h
  have hS : va_S A s.heap s.heap [] := va_S.rf
  have hD : va_D A [(b, .inr (5, [.ref s0, .ref s2, .ref t0, .ref d, .ref e0, .int run])), (s0, .inr (3, [.ref f])), (f, .inr (2, [.ref w, .int σ.2.1, .int σ.2.2])), (w, .inl (cA, 66, .inl σ.1)), (s2, .inr (3, [.ref f2])), (f2, .inr (2, [.ref w2, .int ρ.2.1, .int ρ.2.2])), (w2, .inl (cA, 66, .inl ρ.1)), (t0, .inr (4, [.int τ.1, .int τ.2.1, .int τ.2.2.1, .int τ.2.2.2.1, .int τ.2.2.2.2.1, .int τ.2.2.2.2.2])), (d, .inr (1, [.int δ.1, .ref db])), (db, .inl (cA, 24, .inl δ.2)), (e0, .inr (0, [.ref d, .ref s0]))] := hD
  have hP : va_P D vwCl [(b, .inr (5, [.ref s0, .ref s2, .ref t0, .ref d, .ref e0, .int run])), (s0, .inr (3, [.ref f])), (f, .inr (2, [.ref w, .int σ.2.1, .int σ.2.2])), (w, .inl (cA, 66, .inl σ.1)), (s2, .inr (3, [.ref f2])), (f2, .inr (2, [.ref w2, .int ρ.2.1, .int ρ.2.2])), (w2, .inl (cA, 66, .inl ρ.1)), (t0, .inr (4, [.int τ.1, .int τ.2.1, .int τ.2.2.1, .int τ.2.2.2.1, .int τ.2.2.2.2.1, .int τ.2.2.2.2.2])), (d, .inr (1, [.int δ.1, .ref db])), (db, .inl (cA, 24, .inl δ.2)), (e0, .inr (0, [.ref d, .ref s0]))] s.heap := hP
  have hl := lv_entry ([.ref b, .int p0, .int p1]) (n := 4) (Nat.le_of_ble_eq_true rfl)
  rw [lg_entry_eq]
  generalize (lg_sl ([.ref b, .int p0, .int p1]) ++ List.replicate (4 - (lg_sl ([.ref b, .int p0, .int p1])).length) Slot.unset).toArray = ls at hl ⊢
  have hl : lv_has ls 4 [(0, .ref b), (1, .int p0), (2, .int p1)] := hl
  refine lv_aload_n hx hb dL_copied_0 rfl (lv_at hl 0 rfl) ?_
  refine lv_iload_n hx hb dL_copied_1 rfl (lv_at hl 1 rfl) ?_
  refine lv_iload_n hx hb dL_copied_2 rfl (lv_at hl 2 rfl) ?_
  refine bx_xwi (wc := [(b, .inr (5, [.ref s0, .ref s2, .ref t0, .ref d, .ref e0, .int run])), (s0, .inr (3, [.ref f])), (f, .inr (2, [.ref w, .int σ.2.1, .int σ.2.2])), (w, .inl (cA, 66, .inl σ.1)), (s2, .inr (3, [.ref f2])), (f2, .inr (2, [.ref w2, .int ρ.2.1, .int ρ.2.2])), (w2, .inl (cA, 66, .inl ρ.1)), (t0, .inr (4, [.int τ.1, .int τ.2.1, .int τ.2.2.1, .int τ.2.2.2.1, .int τ.2.2.2.2.1, .int τ.2.2.2.2.2])), (d, .inr (1, [.int δ.1, .ref db])), (db, .inl (cA, 24, .inl δ.2)), (e0, .inr (0, [.ref d, .ref s0]))]) (wr := []) (wf := fun (u : (FS) × (TS) × (Int32)) => [(b, .inr (5, [.ref s0, .ref s2, .ref t0, .ref d, .ref e0, .int u.2.2])), (s0, .inr (3, [.ref f])), (f, .inr (2, [.ref w, .int u.1.2.1, .int u.1.2.2])), (w, .inl (cA, 66, .inl u.1.1)), (s2, .inr (3, [.ref f2])), (f2, .inr (2, [.ref w2, .int ρ.2.1, .int ρ.2.2])), (w2, .inl (cA, 66, .inl ρ.1)), (t0, .inr (4, [.int u.2.1.1, .int u.2.1.2.1, .int u.2.1.2.2.1, .int u.2.1.2.2.2.1, .int u.2.1.2.2.2.2.1, .int u.2.1.2.2.2.2.2])), (d, .inr (1, [.int δ.1, .ref db])), (db, .inl (cA, 24, .inl δ.2)), (e0, .inr (0, [.ref d, .ref s0]))]) (wn := fun (u : (FS) × (TS) × (Int32)) => [(b, .inr (5, [.ref s0, .ref s2, .ref t0, .ref d, .ref e0, .int u.2.2])), (s0, .inr (3, [.ref f])), (f, .inr (2, [.ref w, .int u.1.2.1, .int u.1.2.2])), (w, .inl (cA, 66, .inl u.1.1)), (s2, .inr (3, [.ref f2])), (f2, .inr (2, [.ref w2, .int ρ.2.1, .int ρ.2.2])), (w2, .inl (cA, 66, .inl ρ.1)), (t0, .inr (4, [.int u.2.1.1, .int u.2.1.2.1, .int u.2.1.2.2.1, .int u.2.1.2.2.2.1, .int u.2.1.2.2.2.2.1, .int u.2.1.2.2.2.2.2])), (d, .inr (1, [.int δ.1, .ref db])), (db, .inl (cA, 24, .inl δ.2)), (e0, .inr (0, [.ref d, .ref s0]))]) hP hD hS hA [0, 1, 2, 3, 4, 5, 6, 7, 8, 9, 10] [] [0, 1, 2, 3, 4, 5, 6, 7, 8, 9, 10] rfl rfl (by decide) (by decide) (fun u => rfl) (by decide) (vx_runV (As := [.int p0, .int p1]) (rest := []) ⟨hx, hb, hml, hown, hts⟩ (c_X5_copy l hl9 D cA b s0 f w s2 f2 w2 t0 d db e0 s.heap.size σ ρ τ δ run p0 p1) (cwV 2 hts gL_copied_X5_copy rfl rfl rfl (by decide +kernel) ⟨Nat.le_of_ble_eq_true rfl, Nat.le_of_ble_eq_true rfl⟩) (bx_pvx (ci := 5) (q0 := 0) hK hG hZ (hP.sub (ws' := [(b, .inr (5, [.ref s0, .ref s2, .ref t0, .ref d, .ref e0, .int run])), (s0, .inr (3, [.ref f])), (f, .inr (2, [.ref w, .int σ.2.1, .int σ.2.2])), (w, .inl (cA, 66, .inl σ.1)), (s2, .inr (3, [.ref f2])), (f2, .inr (2, [.ref w2, .int ρ.2.1, .int ρ.2.2])), (w2, .inl (cA, 66, .inl ρ.1)), (t0, .inr (4, [.int τ.1, .int τ.2.1, .int τ.2.2.1, .int τ.2.2.2.1, .int τ.2.2.2.2.1, .int τ.2.2.2.2.2])), (d, .inr (1, [.int δ.1, .ref db])), (db, .inl (cA, 24, .inl δ.2)), (e0, .inr (0, [.ref d, .ref s0]))]) [0, 1, 2, 3, 4, 5, 6, 7, 8, 9, 10] rfl) (hD.sub (ws' := [(b, .inr (5, [.ref s0, .ref s2, .ref t0, .ref d, .ref e0, .int run])), (s0, .inr (3, [.ref f])), (f, .inr (2, [.ref w, .int σ.2.1, .int σ.2.2])), (w, .inl (cA, 66, .inl σ.1)), (s2, .inr (3, [.ref f2])), (f2, .inr (2, [.ref w2, .int ρ.2.1, .int ρ.2.2])), (w2, .inl (cA, 66, .inl ρ.1)), (t0, .inr (4, [.int τ.1, .int τ.2.1, .int τ.2.2.1, .int τ.2.2.2.1, .int τ.2.2.2.2.1, .int τ.2.2.2.2.2])), (d, .inr (1, [.int δ.1, .ref db])), (db, .inl (cA, 24, .inl δ.2)), (e0, .inr (0, [.ref d, .ref s0]))]) [0, 1, 2, 3, 4, 5, 6, 7, 8, 9, 10] (by decide) rfl) rfl rfl) rfl rfl hl.1 rfl (lv_room (Nat.le_of_ble_eq_true rfl)) dL_copied_3 ⟨Nat.le_of_ble_eq_true rfl, Nat.le_of_ble_eq_true rfl⟩) (fun E ce q9 H1 locs hE hP hD hS hce hcv hcl => ?_) (fun r u H locs h hP hD hS => ?_)
  · skip
    rcases hE with ⟨hk, rfl⟩ | ⟨hk, rfl⟩ | ⟨hk, rfl⟩
    · skip
      refine vx_catch (name := bx_iae) (E := bx_iae) hown [] ⟨0, 6, 7, 79⟩ [⟨0, 6, 11, 69⟩] htab (fun z hz => nomatch hz) (by decide) (by decide) (hts (.classLink RL 79 bx_iae) (by decide +kernel)) (va_Nw.use rfl (hG.1 (.castable bx_iae bx_iae) (by decide +kernel))) hce hcv hcl ?_
      refine W.eq (g2 := F0 m 7 ls [.ref q9]) rfl ?_
      refine lv_astore_n (lv' := [(3, .ref q9), (0, .ref b), (1, .int p0), (2, .int p1)]) hx hb dL_copied_7 rfl hl (by decide) rfl (fun ls hl => ?_)
      refine lv_bipush (v := (-3)) hx hb dL_copied_8 (by decide) ?_
      refine vx_ret ?_
      exact W.iret (v := (-3)) hx hb hr (fun t ht hW => ⟨⟨(-3), (σ, τ, run), rfl, (by simp only [F_L_copied, hk] <;> rfl), ⟨by rw [ht]; exact hP, hD⟩⟩, hS.F ht⟩) hS.2.2 dL_copied_10
    · skip
      refine vx_catch (name := bx_ise) (E := bx_ise) hown [⟨0, 6, 7, 79⟩] ⟨0, 6, 11, 69⟩ [] htab (fun z hz => by simp only [List.mem_singleton] at hz; subst hz; exact Or.inr ⟨(by decide), bx_iae, hts (.classLink RL 79 bx_iae) (by decide +kernel), hG.2.1 (bx_ise, bx_iae) (by decide)⟩) (by decide) (by decide) (hts (.classLink RL 69 bx_ise) (by decide +kernel)) (va_Nw.use rfl (hG.1 (.castable bx_ise bx_ise) (by decide +kernel))) hce hcv hcl ?_
      refine W.eq (g2 := F0 m 11 ls [.ref q9]) rfl ?_
      refine lv_astore_n (lv' := [(3, .ref q9), (0, .ref b), (1, .int p0), (2, .int p1)]) hx hb dL_copied_11 rfl hl (by decide) rfl (fun ls hl => ?_)
      refine lv_bipush (v := (-2)) hx hb dL_copied_12 (by decide) ?_
      refine vx_ret ?_
      exact W.iret (v := (-2)) hx hb hr (fun t ht hW => ⟨⟨(-2), (σ, τ, run), rfl, (by simp only [F_L_copied, hk] <;> rfl), ⟨by rw [ht]; exact hP, hD⟩⟩, hS.F ht⟩) hS.2.2 dL_copied_14
    · skip
      exact absurd hk (nc3_copy _ _ _ _ _)
  · skip
    obtain ⟨σ1, τ1, run1⟩ := u
    refine vx_ret ?_
    refine W.widen (k := 1) (n := 6) (Nat.le_of_ble_eq_true rfl) (Nat.le_of_ble_eq_true rfl) ?_
    exact W.iret (v := r) hx hb hr (fun t ht hW => ⟨⟨r, (σ1, τ1, run1), rfl, (by simp only [F_L_copied, ← h] <;> rfl), ⟨by rw [ht]; exact hP, hD⟩⟩, hS.F ht⟩) hS.2.2 dL_copied_6
def F_L_finished (σ : FS) (τ : TS) (run : Int32) (p0 : Int32) : Int32 × (FS) × (TS) × (Int32) := if (F_X5_finish σ τ run p0).1 = 0 then ((if (F_X5_finish σ τ run p0).2.1 = 0 then 0 else 1), (F_X5_finish σ τ run p0).2.2.1, (F_X5_finish σ τ run p0).2.2.2.1, (F_X5_finish σ τ run p0).2.2.2.2) else ((-2), σ, τ, run)
set_option maxHeartbeats 4000000 in
set_option maxRecDepth 100000 in
theorem c_L_finished (l : Launch) (hl9 : l.stackTraces = false) (D : va_G) (cA : ClassId) (b s0 f w s2 f2 w2 t0 d db e0 : Nat) (sz : Nat) (σ : FS) (ρ : FS) (τ : TS) (δ : DS) (run : Int32) (p0 : Int32) (hx1 : ¬ (F_X5_finish σ τ run p0).1 = 1) : vx_Met l yL_finished wsL_finished ({ frames := 9, cells := 1, slots := 6, locals := 155 }) (va_Pc [.ref b, .int p0] (bx_prx D [(cA, .int)] (wBo cA b s0 f w s2 f2 w2 t0 d db e0 σ ρ τ δ run) sz)) (va_Qi (fun (r : Int32) (u : (FS) × (TS) × (Int32)) => (r, u) = F_L_finished σ τ run p0) (fun u t => bx_at D (wBo cA b s0 f w s2 f2 w2 t0 d db e0 u.1 ρ u.2.1 δ u.2.2) (va_A (wBo cA b s0 f w s2 f2 w2 t0 d db e0 σ ρ τ δ run) sz) t) (va_A (wBo cA b s0 f w s2 f2 w2 t0 d db e0 σ ρ τ δ run) sz)) (fun _ _ _ => False) 1 6 (va_A (wBo cA b s0 f w s2 f2 w2 t0 d db e0 σ ρ τ δ run) sz) := by
  refine vx_ofWH (cc := cL_finished) (maxL := 3) (ret := (some .int)) (hh := [(0, 13, 14, 69)]) (by decide) rfl ?_
  intro p e s m args below meth c s₁ B hml hv
  obtain ⟨rfl, hsz, hP, hK, hD0, hG, hZ⟩ := hv
  have hx := B.exec
  have hb := B.bytes
  have hr := B.returns
  have hts := atoms_spec (ws := wsL_finished) B.pre
  have hown : s.vm.findClass RL = some m.cls := findClass_of_methodNamed B.named
  have hlocks := B.notSynchronized
  have htab := vx_table (x := yL_finished) B (hts _ List.mem_cons_self)
  subst hsz
  have hD := hD0.self (sz := s.heap.size)
  generalize hAe : va_A (wBo cA b s0 f w s2 f2 w2 t0 d db e0 σ ρ τ δ run) s.heap.size = A at hD ⊢
  have hA : ∀ q : Nat, s.heap.size ≤ q → A q := fun q h => by rw [← hAe]; exact Or.inr h
  have hS : va_S A s.heap s.heap [] := va_S.rf
  have hD : va_D A [(b, .inr (5, [.ref s0, .ref s2, .ref t0, .ref d, .ref e0, .int run])), (s0, .inr (3, [.ref f])), (f, .inr (2, [.ref w, .int σ.2.1, .int σ.2.2])), (w, .inl (cA, 66, .inl σ.1)), (s2, .inr (3, [.ref f2])), (f2, .inr (2, [.ref w2, .int ρ.2.1, .int ρ.2.2])), (w2, .inl (cA, 66, .inl ρ.1)), (t0, .inr (4, [.int τ.1, .int τ.2.1, .int τ.2.2.1, .int τ.2.2.2.1, .int τ.2.2.2.2.1, .int τ.2.2.2.2.2])), (d, .inr (1, [.int δ.1, .ref db])), (db, .inl (cA, 24, .inl δ.2)), (e0, .inr (0, [.ref d, .ref s0]))] := hD
  have hP : va_P D vwCl [(b, .inr (5, [.ref s0, .ref s2, .ref t0, .ref d, .ref e0, .int run])), (s0, .inr (3, [.ref f])), (f, .inr (2, [.ref w, .int σ.2.1, .int σ.2.2])), (w, .inl (cA, 66, .inl σ.1)), (s2, .inr (3, [.ref f2])), (f2, .inr (2, [.ref w2, .int ρ.2.1, .int ρ.2.2])), (w2, .inl (cA, 66, .inl ρ.1)), (t0, .inr (4, [.int τ.1, .int τ.2.1, .int τ.2.2.1, .int τ.2.2.2.1, .int τ.2.2.2.2.1, .int τ.2.2.2.2.2])), (d, .inr (1, [.int δ.1, .ref db])), (db, .inl (cA, 24, .inl δ.2)), (e0, .inr (0, [.ref d, .ref s0]))] s.heap := hP
  have hl := lv_entry ([.ref b, .int p0]) (n := 3) (Nat.le_of_ble_eq_true rfl)
  rw [lg_entry_eq]
  generalize (lg_sl ([.ref b, .int p0]) ++ List.replicate (3 - (lg_sl ([.ref b, .int p0])).length) Slot.unset).toArray = ls at hl ⊢
  have hl : lv_has ls 3 [(0, .ref b), (1, .int p0)] := hl
  refine lv_aload_n hx hb dL_finished_0 rfl (lv_at hl 0 rfl) ?_
  refine lv_iload_n hx hb dL_finished_1 rfl (lv_at hl 1 rfl) ?_
  refine bx_xwi (wc := [(b, .inr (5, [.ref s0, .ref s2, .ref t0, .ref d, .ref e0, .int run])), (s0, .inr (3, [.ref f])), (f, .inr (2, [.ref w, .int σ.2.1, .int σ.2.2])), (w, .inl (cA, 66, .inl σ.1)), (s2, .inr (3, [.ref f2])), (f2, .inr (2, [.ref w2, .int ρ.2.1, .int ρ.2.2])), (w2, .inl (cA, 66, .inl ρ.1)), (t0, .inr (4, [.int τ.1, .int τ.2.1, .int τ.2.2.1, .int τ.2.2.2.1, .int τ.2.2.2.2.1, .int τ.2.2.2.2.2])), (d, .inr (1, [.int δ.1, .ref db])), (db, .inl (cA, 24, .inl δ.2)), (e0, .inr (0, [.ref d, .ref s0]))]) (wr := []) (wf := fun (u : (FS) × (TS) × (Int32)) => [(b, .inr (5, [.ref s0, .ref s2, .ref t0, .ref d, .ref e0, .int u.2.2])), (s0, .inr (3, [.ref f])), (f, .inr (2, [.ref w, .int u.1.2.1, .int u.1.2.2])), (w, .inl (cA, 66, .inl u.1.1)), (s2, .inr (3, [.ref f2])), (f2, .inr (2, [.ref w2, .int ρ.2.1, .int ρ.2.2])), (w2, .inl (cA, 66, .inl ρ.1)), (t0, .inr (4, [.int u.2.1.1, .int u.2.1.2.1, .int u.2.1.2.2.1, .int u.2.1.2.2.2.1, .int u.2.1.2.2.2.2.1, .int u.2.1.2.2.2.2.2])), (d, .inr (1, [.int δ.1, .ref db])), (db, .inl (cA, 24, .inl δ.2)), (e0, .inr (0, [.ref d, .ref s0]))]) (wn := fun (u : (FS) × (TS) × (Int32)) => [(b, .inr (5, [.ref s0, .ref s2, .ref t0, .ref d, .ref e0, .int u.2.2])), (s0, .inr (3, [.ref f])), (f, .inr (2, [.ref w, .int u.1.2.1, .int u.1.2.2])), (w, .inl (cA, 66, .inl u.1.1)), (s2, .inr (3, [.ref f2])), (f2, .inr (2, [.ref w2, .int ρ.2.1, .int ρ.2.2])), (w2, .inl (cA, 66, .inl ρ.1)), (t0, .inr (4, [.int u.2.1.1, .int u.2.1.2.1, .int u.2.1.2.2.1, .int u.2.1.2.2.2.1, .int u.2.1.2.2.2.2.1, .int u.2.1.2.2.2.2.2])), (d, .inr (1, [.int δ.1, .ref db])), (db, .inl (cA, 24, .inl δ.2)), (e0, .inr (0, [.ref d, .ref s0]))]) hP hD hS hA [0, 1, 2, 3, 4, 5, 6, 7, 8, 9, 10] [] [0, 1, 2, 3, 4, 5, 6, 7, 8, 9, 10] rfl rfl (by decide) (by decide) (fun u => rfl) (by decide) (vx_runV (As := [.int p0]) (rest := []) ⟨hx, hb, hml, hown, hts⟩ (c_X5_finish l hl9 D cA b s0 f w s2 f2 w2 t0 d db e0 s.heap.size σ ρ τ δ run p0) (cwV 1 hts gL_finished_X5_finish rfl rfl rfl (by decide +kernel) ⟨Nat.le_of_ble_eq_true rfl, Nat.le_of_ble_eq_true rfl⟩) (bx_pvx (ci := 5) (q0 := 0) hK hG hZ (hP.sub (ws' := [(b, .inr (5, [.ref s0, .ref s2, .ref t0, .ref d, .ref e0, .int run])), (s0, .inr (3, [.ref f])), (f, .inr (2, [.ref w, .int σ.2.1, .int σ.2.2])), (w, .inl (cA, 66, .inl σ.1)), (s2, .inr (3, [.ref f2])), (f2, .inr (2, [.ref w2, .int ρ.2.1, .int ρ.2.2])), (w2, .inl (cA, 66, .inl ρ.1)), (t0, .inr (4, [.int τ.1, .int τ.2.1, .int τ.2.2.1, .int τ.2.2.2.1, .int τ.2.2.2.2.1, .int τ.2.2.2.2.2])), (d, .inr (1, [.int δ.1, .ref db])), (db, .inl (cA, 24, .inl δ.2)), (e0, .inr (0, [.ref d, .ref s0]))]) [0, 1, 2, 3, 4, 5, 6, 7, 8, 9, 10] rfl) (hD.sub (ws' := [(b, .inr (5, [.ref s0, .ref s2, .ref t0, .ref d, .ref e0, .int run])), (s0, .inr (3, [.ref f])), (f, .inr (2, [.ref w, .int σ.2.1, .int σ.2.2])), (w, .inl (cA, 66, .inl σ.1)), (s2, .inr (3, [.ref f2])), (f2, .inr (2, [.ref w2, .int ρ.2.1, .int ρ.2.2])), (w2, .inl (cA, 66, .inl ρ.1)), (t0, .inr (4, [.int τ.1, .int τ.2.1, .int τ.2.2.1, .int τ.2.2.2.1, .int τ.2.2.2.2.1, .int τ.2.2.2.2.2])), (d, .inr (1, [.int δ.1, .ref db])), (db, .inl (cA, 24, .inl δ.2)), (e0, .inr (0, [.ref d, .ref s0]))]) [0, 1, 2, 3, 4, 5, 6, 7, 8, 9, 10] (by decide) rfl) rfl rfl) rfl rfl hl.1 rfl (lv_room (Nat.le_of_ble_eq_true rfl)) dL_finished_2 ⟨Nat.le_of_ble_eq_true rfl, Nat.le_of_ble_eq_true rfl⟩) (fun E ce q9 H1 locs hE hP hD hS hce hcv hcl => ?_) (fun r u H locs h hP hD hS => ?_)
  · skip
    rcases hE with ⟨hk, rfl⟩ | ⟨hk, rfl⟩ | ⟨hk, rfl⟩
    · skip
      exact absurd hk hx1
    · skip
      refine vx_catch (name := bx_ise) (E := bx_ise) hown [] ⟨0, 13, 14, 69⟩ [] htab (fun z hz => nomatch hz) (by decide) (by decide) (hts (.classLink RL 69 bx_ise) (by decide +kernel)) (va_Nw.use rfl (hG.1 (.castable bx_ise bx_ise) (by decide +kernel))) hce hcv hcl ?_
      refine W.eq (g2 := F0 m 14 ls [.ref q9]) rfl ?_
      refine lv_astore_n (lv' := [(2, .ref q9), (0, .ref b), (1, .int p0)]) hx hb dL_finished_14 rfl hl (by decide) rfl (fun ls hl => ?_)
      refine lv_bipush (v := (-2)) hx hb dL_finished_15 (by decide) ?_
      refine vx_ret ?_
      exact W.iret (v := (-2)) hx hb hr (fun t ht hW => ⟨⟨(-2), (σ, τ, run), rfl, (by simp only [F_L_finished, hk] <;> rfl), ⟨by rw [ht]; exact hP, hD⟩⟩, hS.F ht⟩) hS.2.2 dL_finished_17
    · skip
      exact absurd hk (nc3_finish _ _ _ _)
  · skip
    obtain ⟨σ1, τ1, run1⟩ := u
    obtain ⟨h, hb9⟩ := h
    refine lv_if_eq (tgt := 12) hx hb dL_finished_5 (by decide) (fun c_1 => ?_) (fun c_1 => ?_)
    · skip
      refine lv_iconst (v := 0) hx hb dL_finished_12 (by decide) ?_
      refine vx_ret ?_
      refine W.widen (k := 1) (n := 6) (Nat.le_of_ble_eq_true rfl) (Nat.le_of_ble_eq_true rfl) ?_
      exact W.iret (v := 0) hx hb hr (fun t ht hW => ⟨⟨0, (σ1, τ1, run1), rfl, (by simp only [F_L_finished, ← h, if_pos c_1] <;> rfl), ⟨by rw [ht]; exact hP, hD⟩⟩, hS.F ht⟩) hS.2.2 dL_finished_13
    · skip
      refine lv_iconst (v := 1) hx hb dL_finished_8 (by decide) ?_
      refine lv_goto (tgt := 13) hx hb dL_finished_9 (by decide) ?_
      refine vx_ret ?_
      refine W.widen (k := 1) (n := 6) (Nat.le_of_ble_eq_true rfl) (Nat.le_of_ble_eq_true rfl) ?_
      exact W.iret (v := 1) hx hb hr (fun t ht hW => ⟨⟨1, (σ1, τ1, run1), rfl, (by simp only [F_L_finished, ← h, if_neg c_1] <;> rfl), ⟨by rw [ht]; exact hP, hD⟩⟩, hS.F ht⟩) hS.2.2 dL_finished_13
def F_L_safe (σ : FS) (ρ : FS) (τ : TS) (run : Int32) (p0 : Int32) : Int32 × (FS) := if (F_X5_safeFinish σ ρ τ run p0).1 = 0 then ((F_X5_safeFinish σ ρ τ run p0).2.1, (F_X5_safeFinish σ ρ τ run p0).2.2) else ((-2), ρ)
set_option maxHeartbeats 4000000 in
set_option maxRecDepth 100000 in
theorem c_L_safe (l : Launch) (hl9 : l.stackTraces = false) (D : va_G) (cA : ClassId) (b s0 f w s2 f2 w2 t0 d db e0 : Nat) (sz : Nat) (σ : FS) (ρ : FS) (τ : TS) (δ : DS) (run : Int32) (p0 : Int32) (hx1 : ¬ (F_X5_safeFinish σ ρ τ run p0).1 = 1) : vx_Met l yL_safe wsL_safe ({ frames := 9, cells := 1, slots := 6, locals := 156 }) (va_Pc [.ref b, .int p0] (bx_prx D [(cA, .int)] (wBo cA b s0 f w s2 f2 w2 t0 d db e0 σ ρ τ δ run) sz)) (va_Qi (fun (r : Int32) (u : (FS)) => (r, u) = F_L_safe σ ρ τ run p0) (fun u t => bx_at D (wBo cA b s0 f w s2 f2 w2 t0 d db e0 σ u τ δ run) (va_A (wBo cA b s0 f w s2 f2 w2 t0 d db e0 σ ρ τ δ run) sz) t) (va_A (wBo cA b s0 f w s2 f2 w2 t0 d db e0 σ ρ τ δ run) sz)) (fun _ _ _ => False) 1 6 (va_A (wBo cA b s0 f w s2 f2 w2 t0 d db e0 σ ρ τ δ run) sz) := by
  refine vx_ofWH (cc := cL_safe) (maxL := 3) (ret := (some .int)) (hh := [(0, 5, 6, 69)]) (by decide) rfl ?_
  intro p e s m args below meth c s₁ B hml hv
  obtain ⟨rfl, hsz, hP, hK, hD0, hG, hZ⟩ := hv
  have hx := B.exec
  have hb := B.bytes
  have hr := B.returns
  have hts := atoms_spec (ws := wsL_safe) B.pre
  have hown : s.vm.findClass RL = some m.cls := findClass_of_methodNamed B.named
  have hlocks := B.notSynchronized
  have htab := vx_table (x := yL_safe) B (hts _ List.mem_cons_self)
  subst hsz
  have hD := hD0.self (sz := s.heap.size)
  generalize hAe : va_A (wBo cA b s0 f w s2 f2 w2 t0 d db e0 σ ρ τ δ run) s.heap.size = A at hD ⊢
  have hA : ∀ q : Nat, s.heap.size ≤ q → A q := fun q h => by rw [← hAe]; exact Or.inr h
  have hS : va_S A s.heap s.heap [] := va_S.rf
  have hD : va_D A [(b, .inr (5, [.ref s0, .ref s2, .ref t0, .ref d, .ref e0, .int run])), (s0, .inr (3, [.ref f])), (f, .inr (2, [.ref w, .int σ.2.1, .int σ.2.2])), (w, .inl (cA, 66, .inl σ.1)), (s2, .inr (3, [.ref f2])), (f2, .inr (2, [.ref w2, .int ρ.2.1, .int ρ.2.2])), (w2, .inl (cA, 66, .inl ρ.1)), (t0, .inr (4, [.int τ.1, .int τ.2.1, .int τ.2.2.1, .int τ.2.2.2.1, .int τ.2.2.2.2.1, .int τ.2.2.2.2.2])), (d, .inr (1, [.int δ.1, .ref db])), (db, .inl (cA, 24, .inl δ.2)), (e0, .inr (0, [.ref d, .ref s0]))] := hD
  have hP : va_P D vwCl [(b, .inr (5, [.ref s0, .ref s2, .ref t0, .ref d, .ref e0, .int run])), (s0, .inr (3, [.ref f])), (f, .inr (2, [.ref w, .int σ.2.1, .int σ.2.2])), (w, .inl (cA, 66, .inl σ.1)), (s2, .inr (3, [.ref f2])), (f2, .inr (2, [.ref w2, .int ρ.2.1, .int ρ.2.2])), (w2, .inl (cA, 66, .inl ρ.1)), (t0, .inr (4, [.int τ.1, .int τ.2.1, .int τ.2.2.1, .int τ.2.2.2.1, .int τ.2.2.2.2.1, .int τ.2.2.2.2.2])), (d, .inr (1, [.int δ.1, .ref db])), (db, .inl (cA, 24, .inl δ.2)), (e0, .inr (0, [.ref d, .ref s0]))] s.heap := hP
  have hl := lv_entry ([.ref b, .int p0]) (n := 3) (Nat.le_of_ble_eq_true rfl)
  rw [lg_entry_eq]
  generalize (lg_sl ([.ref b, .int p0]) ++ List.replicate (3 - (lg_sl ([.ref b, .int p0])).length) Slot.unset).toArray = ls at hl ⊢
  have hl : lv_has ls 3 [(0, .ref b), (1, .int p0)] := hl
  refine lv_aload_n hx hb dL_safe_0 rfl (lv_at hl 0 rfl) ?_
  refine lv_iload_n hx hb dL_safe_1 rfl (lv_at hl 1 rfl) ?_
  refine bx_xwi (wc := [(b, .inr (5, [.ref s0, .ref s2, .ref t0, .ref d, .ref e0, .int run])), (s0, .inr (3, [.ref f])), (f, .inr (2, [.ref w, .int σ.2.1, .int σ.2.2])), (w, .inl (cA, 66, .inl σ.1)), (s2, .inr (3, [.ref f2])), (f2, .inr (2, [.ref w2, .int ρ.2.1, .int ρ.2.2])), (w2, .inl (cA, 66, .inl ρ.1)), (t0, .inr (4, [.int τ.1, .int τ.2.1, .int τ.2.2.1, .int τ.2.2.2.1, .int τ.2.2.2.2.1, .int τ.2.2.2.2.2])), (d, .inr (1, [.int δ.1, .ref db])), (db, .inl (cA, 24, .inl δ.2)), (e0, .inr (0, [.ref d, .ref s0]))]) (wr := []) (wf := fun (u : (FS)) => [(b, .inr (5, [.ref s0, .ref s2, .ref t0, .ref d, .ref e0, .int run])), (s0, .inr (3, [.ref f])), (f, .inr (2, [.ref w, .int σ.2.1, .int σ.2.2])), (w, .inl (cA, 66, .inl σ.1)), (s2, .inr (3, [.ref f2])), (f2, .inr (2, [.ref w2, .int u.2.1, .int u.2.2])), (w2, .inl (cA, 66, .inl u.1)), (t0, .inr (4, [.int τ.1, .int τ.2.1, .int τ.2.2.1, .int τ.2.2.2.1, .int τ.2.2.2.2.1, .int τ.2.2.2.2.2])), (d, .inr (1, [.int δ.1, .ref db])), (db, .inl (cA, 24, .inl δ.2)), (e0, .inr (0, [.ref d, .ref s0]))]) (wn := fun (u : (FS)) => [(b, .inr (5, [.ref s0, .ref s2, .ref t0, .ref d, .ref e0, .int run])), (s0, .inr (3, [.ref f])), (f, .inr (2, [.ref w, .int σ.2.1, .int σ.2.2])), (w, .inl (cA, 66, .inl σ.1)), (s2, .inr (3, [.ref f2])), (f2, .inr (2, [.ref w2, .int u.2.1, .int u.2.2])), (w2, .inl (cA, 66, .inl u.1)), (t0, .inr (4, [.int τ.1, .int τ.2.1, .int τ.2.2.1, .int τ.2.2.2.1, .int τ.2.2.2.2.1, .int τ.2.2.2.2.2])), (d, .inr (1, [.int δ.1, .ref db])), (db, .inl (cA, 24, .inl δ.2)), (e0, .inr (0, [.ref d, .ref s0]))]) hP hD hS hA [0, 1, 2, 3, 4, 5, 6, 7, 8, 9, 10] [] [0, 1, 2, 3, 4, 5, 6, 7, 8, 9, 10] rfl rfl (by decide) (by decide) (fun u => rfl) (by decide) (vx_runV (As := [.int p0]) (rest := []) ⟨hx, hb, hml, hown, hts⟩ (c_X5_safeFinish l hl9 D cA b s0 f w s2 f2 w2 t0 d db e0 s.heap.size σ ρ τ δ run p0) (cwV 1 hts gL_safe_X5_safeFinish rfl rfl rfl (by decide +kernel) ⟨Nat.le_of_ble_eq_true rfl, Nat.le_of_ble_eq_true rfl⟩) (bx_pvx (ci := 5) (q0 := 0) hK hG hZ (hP.sub (ws' := [(b, .inr (5, [.ref s0, .ref s2, .ref t0, .ref d, .ref e0, .int run])), (s0, .inr (3, [.ref f])), (f, .inr (2, [.ref w, .int σ.2.1, .int σ.2.2])), (w, .inl (cA, 66, .inl σ.1)), (s2, .inr (3, [.ref f2])), (f2, .inr (2, [.ref w2, .int ρ.2.1, .int ρ.2.2])), (w2, .inl (cA, 66, .inl ρ.1)), (t0, .inr (4, [.int τ.1, .int τ.2.1, .int τ.2.2.1, .int τ.2.2.2.1, .int τ.2.2.2.2.1, .int τ.2.2.2.2.2])), (d, .inr (1, [.int δ.1, .ref db])), (db, .inl (cA, 24, .inl δ.2)), (e0, .inr (0, [.ref d, .ref s0]))]) [0, 1, 2, 3, 4, 5, 6, 7, 8, 9, 10] rfl) (hD.sub (ws' := [(b, .inr (5, [.ref s0, .ref s2, .ref t0, .ref d, .ref e0, .int run])), (s0, .inr (3, [.ref f])), (f, .inr (2, [.ref w, .int σ.2.1, .int σ.2.2])), (w, .inl (cA, 66, .inl σ.1)), (s2, .inr (3, [.ref f2])), (f2, .inr (2, [.ref w2, .int ρ.2.1, .int ρ.2.2])), (w2, .inl (cA, 66, .inl ρ.1)), (t0, .inr (4, [.int τ.1, .int τ.2.1, .int τ.2.2.1, .int τ.2.2.2.1, .int τ.2.2.2.2.1, .int τ.2.2.2.2.2])), (d, .inr (1, [.int δ.1, .ref db])), (db, .inl (cA, 24, .inl δ.2)), (e0, .inr (0, [.ref d, .ref s0]))]) [0, 1, 2, 3, 4, 5, 6, 7, 8, 9, 10] (by decide) rfl) rfl rfl) rfl rfl hl.1 rfl (lv_room (Nat.le_of_ble_eq_true rfl)) dL_safe_2 ⟨Nat.le_of_ble_eq_true rfl, Nat.le_of_ble_eq_true rfl⟩) (fun E ce q9 H1 locs hE hP hD hS hce hcv hcl => ?_) (fun r u H locs h hP hD hS => ?_)
  · skip
    rcases hE with ⟨hk, rfl⟩ | ⟨hk, rfl⟩ | ⟨hk, rfl⟩
    · skip
      exact absurd hk hx1
    · skip
      refine vx_catch (name := bx_ise) (E := bx_ise) hown [] ⟨0, 5, 6, 69⟩ [] htab (fun z hz => nomatch hz) (by decide) (by decide) (hts (.classLink RL 69 bx_ise) (by decide +kernel)) (va_Nw.use rfl (hG.1 (.castable bx_ise bx_ise) (by decide +kernel))) hce hcv hcl ?_
      refine W.eq (g2 := F0 m 6 ls [.ref q9]) rfl ?_
      refine lv_astore_n (lv' := [(2, .ref q9), (0, .ref b), (1, .int p0)]) hx hb dL_safe_6 rfl hl (by decide) rfl (fun ls hl => ?_)
      refine lv_bipush (v := (-2)) hx hb dL_safe_7 (by decide) ?_
      refine vx_ret ?_
      exact W.iret (v := (-2)) hx hb hr (fun t ht hW => ⟨⟨(-2), ρ, rfl, (by simp only [F_L_safe, hk] <;> rfl), ⟨by rw [ht]; exact hP, hD⟩⟩, hS.F ht⟩) hS.2.2 dL_safe_9
    · skip
      exact absurd hk (nc3_safeFinish _ _ _ _ _)
  · skip
    obtain ⟨ρ1, rfl⟩ : ∃ z, z = u := ⟨_, rfl⟩
    refine vx_ret ?_
    refine W.widen (k := 1) (n := 6) (Nat.le_of_ble_eq_true rfl) (Nat.le_of_ble_eq_true rfl) ?_
    exact W.iret (v := r) hx hb hr (fun t ht hW => ⟨⟨r, ρ1, rfl, (by simp only [F_L_safe, ← h] <;> rfl), ⟨by rw [ht]; exact hP, hD⟩⟩, hS.F ht⟩) hS.2.2 dL_safe_5
def F_L_confirmed (σ : FS) (τ : TS) (run : Int32) : Int32 × (FS) × (TS) × (Int32) := if (F_X5_confirm σ τ run).1 = 0 then ((if (F_X5_confirm σ τ run).2.1 = 0 then 0 else 1), (F_X5_confirm σ τ run).2.2.1, (F_X5_confirm σ τ run).2.2.2.1, (F_X5_confirm σ τ run).2.2.2.2) else ((-2), σ, τ, run)
set_option maxHeartbeats 4000000 in
set_option maxRecDepth 100000 in
theorem c_L_confirmed (l : Launch) (hl9 : l.stackTraces = false) (D : va_G) (cA : ClassId) (b s0 f w s2 f2 w2 t0 d db e0 : Nat) (sz : Nat) (σ : FS) (ρ : FS) (τ : TS) (δ : DS) (run : Int32) : vx_Met l yL_confirmed wsL_confirmed ({ frames := 8, cells := 1, slots := 6, locals := 145 }) (va_Pc [.ref b] (bx_prx D [(cA, .int)] (wBo cA b s0 f w s2 f2 w2 t0 d db e0 σ ρ τ δ run) sz)) (va_Qi (fun (r : Int32) (u : (FS) × (TS) × (Int32)) => (r, u) = F_L_confirmed σ τ run) (fun u t => bx_at D (wBo cA b s0 f w s2 f2 w2 t0 d db e0 u.1 ρ u.2.1 δ u.2.2) (va_A (wBo cA b s0 f w s2 f2 w2 t0 d db e0 σ ρ τ δ run) sz) t) (va_A (wBo cA b s0 f w s2 f2 w2 t0 d db e0 σ ρ τ δ run) sz)) (fun _ _ _ => False) 1 6 (va_A (wBo cA b s0 f w s2 f2 w2 t0 d db e0 σ ρ τ δ run) sz) := by
  refine vx_ofWH (cc := cL_confirmed) (maxL := 2) (ret := (some .int)) (hh := [(0, 12, 13, 69)]) (by decide) rfl ?_
  intro p e s m args below meth c s₁ B hml hv
  obtain ⟨rfl, hsz, hP, hK, hD0, hG, hZ⟩ := hv
  have hx := B.exec
  have hb := B.bytes
  have hr := B.returns
  have hts := atoms_spec (ws := wsL_confirmed) B.pre
  have hown : s.vm.findClass RL = some m.cls := findClass_of_methodNamed B.named
  have hlocks := B.notSynchronized
  have htab := vx_table (x := yL_confirmed) B (hts _ List.mem_cons_self)
  subst hsz
  have hD := hD0.self (sz := s.heap.size)
  generalize hAe : va_A (wBo cA b s0 f w s2 f2 w2 t0 d db e0 σ ρ τ δ run) s.heap.size = A at hD ⊢
  have hA : ∀ q : Nat, s.heap.size ≤ q → A q := fun q h => by rw [← hAe]; exact Or.inr h
  have hS : va_S A s.heap s.heap [] := va_S.rf
  have hD : va_D A [(b, .inr (5, [.ref s0, .ref s2, .ref t0, .ref d, .ref e0, .int run])), (s0, .inr (3, [.ref f])), (f, .inr (2, [.ref w, .int σ.2.1, .int σ.2.2])), (w, .inl (cA, 66, .inl σ.1)), (s2, .inr (3, [.ref f2])), (f2, .inr (2, [.ref w2, .int ρ.2.1, .int ρ.2.2])), (w2, .inl (cA, 66, .inl ρ.1)), (t0, .inr (4, [.int τ.1, .int τ.2.1, .int τ.2.2.1, .int τ.2.2.2.1, .int τ.2.2.2.2.1, .int τ.2.2.2.2.2])), (d, .inr (1, [.int δ.1, .ref db])), (db, .inl (cA, 24, .inl δ.2)), (e0, .inr (0, [.ref d, .ref s0]))] := hD
  have hP : va_P D vwCl [(b, .inr (5, [.ref s0, .ref s2, .ref t0, .ref d, .ref e0, .int run])), (s0, .inr (3, [.ref f])), (f, .inr (2, [.ref w, .int σ.2.1, .int σ.2.2])), (w, .inl (cA, 66, .inl σ.1)), (s2, .inr (3, [.ref f2])), (f2, .inr (2, [.ref w2, .int ρ.2.1, .int ρ.2.2])), (w2, .inl (cA, 66, .inl ρ.1)), (t0, .inr (4, [.int τ.1, .int τ.2.1, .int τ.2.2.1, .int τ.2.2.2.1, .int τ.2.2.2.2.1, .int τ.2.2.2.2.2])), (d, .inr (1, [.int δ.1, .ref db])), (db, .inl (cA, 24, .inl δ.2)), (e0, .inr (0, [.ref d, .ref s0]))] s.heap := hP
  have hl := lv_entry ([.ref b]) (n := 2) (Nat.le_of_ble_eq_true rfl)
  rw [lg_entry_eq]
  generalize (lg_sl ([.ref b]) ++ List.replicate (2 - (lg_sl ([.ref b])).length) Slot.unset).toArray = ls at hl ⊢
  have hl : lv_has ls 2 [(0, .ref b)] := hl
  refine lv_aload_n hx hb dL_confirmed_0 rfl (lv_at hl 0 rfl) ?_
  refine bx_xwi (wc := [(b, .inr (5, [.ref s0, .ref s2, .ref t0, .ref d, .ref e0, .int run])), (s0, .inr (3, [.ref f])), (f, .inr (2, [.ref w, .int σ.2.1, .int σ.2.2])), (w, .inl (cA, 66, .inl σ.1)), (s2, .inr (3, [.ref f2])), (f2, .inr (2, [.ref w2, .int ρ.2.1, .int ρ.2.2])), (w2, .inl (cA, 66, .inl ρ.1)), (t0, .inr (4, [.int τ.1, .int τ.2.1, .int τ.2.2.1, .int τ.2.2.2.1, .int τ.2.2.2.2.1, .int τ.2.2.2.2.2])), (d, .inr (1, [.int δ.1, .ref db])), (db, .inl (cA, 24, .inl δ.2)), (e0, .inr (0, [.ref d, .ref s0]))]) (wr := []) (wf := fun (u : (FS) × (TS) × (Int32)) => [(b, .inr (5, [.ref s0, .ref s2, .ref t0, .ref d, .ref e0, .int u.2.2])), (s0, .inr (3, [.ref f])), (f, .inr (2, [.ref w, .int u.1.2.1, .int u.1.2.2])), (w, .inl (cA, 66, .inl u.1.1)), (s2, .inr (3, [.ref f2])), (f2, .inr (2, [.ref w2, .int ρ.2.1, .int ρ.2.2])), (w2, .inl (cA, 66, .inl ρ.1)), (t0, .inr (4, [.int u.2.1.1, .int u.2.1.2.1, .int u.2.1.2.2.1, .int u.2.1.2.2.2.1, .int u.2.1.2.2.2.2.1, .int u.2.1.2.2.2.2.2])), (d, .inr (1, [.int δ.1, .ref db])), (db, .inl (cA, 24, .inl δ.2)), (e0, .inr (0, [.ref d, .ref s0]))]) (wn := fun (u : (FS) × (TS) × (Int32)) => [(b, .inr (5, [.ref s0, .ref s2, .ref t0, .ref d, .ref e0, .int u.2.2])), (s0, .inr (3, [.ref f])), (f, .inr (2, [.ref w, .int u.1.2.1, .int u.1.2.2])), (w, .inl (cA, 66, .inl u.1.1)), (s2, .inr (3, [.ref f2])), (f2, .inr (2, [.ref w2, .int ρ.2.1, .int ρ.2.2])), (w2, .inl (cA, 66, .inl ρ.1)), (t0, .inr (4, [.int u.2.1.1, .int u.2.1.2.1, .int u.2.1.2.2.1, .int u.2.1.2.2.2.1, .int u.2.1.2.2.2.2.1, .int u.2.1.2.2.2.2.2])), (d, .inr (1, [.int δ.1, .ref db])), (db, .inl (cA, 24, .inl δ.2)), (e0, .inr (0, [.ref d, .ref s0]))]) hP hD hS hA [0, 1, 2, 3, 4, 5, 6, 7, 8, 9, 10] [] [0, 1, 2, 3, 4, 5, 6, 7, 8, 9, 10] rfl rfl (by decide) (by decide) (fun u => rfl) (by decide) (vx_runV (As := []) (rest := []) ⟨hx, hb, hml, hown, hts⟩ (c_X5_confirm l hl9 D cA b s0 f w s2 f2 w2 t0 d db e0 s.heap.size σ ρ τ δ run) (cwV 0 hts gL_confirmed_X5_confirm rfl rfl rfl (by decide +kernel) ⟨Nat.le_of_ble_eq_true rfl, Nat.le_of_ble_eq_true rfl⟩) (bx_pvx (ci := 5) (q0 := 0) hK hG hZ (hP.sub (ws' := [(b, .inr (5, [.ref s0, .ref s2, .ref t0, .ref d, .ref e0, .int run])), (s0, .inr (3, [.ref f])), (f, .inr (2, [.ref w, .int σ.2.1, .int σ.2.2])), (w, .inl (cA, 66, .inl σ.1)), (s2, .inr (3, [.ref f2])), (f2, .inr (2, [.ref w2, .int ρ.2.1, .int ρ.2.2])), (w2, .inl (cA, 66, .inl ρ.1)), (t0, .inr (4, [.int τ.1, .int τ.2.1, .int τ.2.2.1, .int τ.2.2.2.1, .int τ.2.2.2.2.1, .int τ.2.2.2.2.2])), (d, .inr (1, [.int δ.1, .ref db])), (db, .inl (cA, 24, .inl δ.2)), (e0, .inr (0, [.ref d, .ref s0]))]) [0, 1, 2, 3, 4, 5, 6, 7, 8, 9, 10] rfl) (hD.sub (ws' := [(b, .inr (5, [.ref s0, .ref s2, .ref t0, .ref d, .ref e0, .int run])), (s0, .inr (3, [.ref f])), (f, .inr (2, [.ref w, .int σ.2.1, .int σ.2.2])), (w, .inl (cA, 66, .inl σ.1)), (s2, .inr (3, [.ref f2])), (f2, .inr (2, [.ref w2, .int ρ.2.1, .int ρ.2.2])), (w2, .inl (cA, 66, .inl ρ.1)), (t0, .inr (4, [.int τ.1, .int τ.2.1, .int τ.2.2.1, .int τ.2.2.2.1, .int τ.2.2.2.2.1, .int τ.2.2.2.2.2])), (d, .inr (1, [.int δ.1, .ref db])), (db, .inl (cA, 24, .inl δ.2)), (e0, .inr (0, [.ref d, .ref s0]))]) [0, 1, 2, 3, 4, 5, 6, 7, 8, 9, 10] (by decide) rfl) rfl rfl) rfl rfl hl.1 rfl (lv_room (Nat.le_of_ble_eq_true rfl)) dL_confirmed_1 ⟨Nat.le_of_ble_eq_true rfl, Nat.le_of_ble_eq_true rfl⟩) (fun E ce q9 H1 locs hE hP hD hS hce hcv hcl => ?_) (fun r u H locs h hP hD hS => ?_)
  · skip
    rcases hE with ⟨hk, rfl⟩ | ⟨hk, rfl⟩ | ⟨hk, rfl⟩
    · skip
      exact absurd hk (nc1_confirm _ _ _)
    · skip
      refine vx_catch (name := bx_ise) (E := bx_ise) hown [] ⟨0, 12, 13, 69⟩ [] htab (fun z hz => nomatch hz) (by decide) (by decide) (hts (.classLink RL 69 bx_ise) (by decide +kernel)) (va_Nw.use rfl (hG.1 (.castable bx_ise bx_ise) (by decide +kernel))) hce hcv hcl ?_
      refine W.eq (g2 := F0 m 13 ls [.ref q9]) rfl ?_
      refine lv_astore_n (lv' := [(1, .ref q9), (0, .ref b)]) hx hb dL_confirmed_13 rfl hl (by decide) rfl (fun ls hl => ?_)
      refine lv_bipush (v := (-2)) hx hb dL_confirmed_14 (by decide) ?_
      refine vx_ret ?_
      exact W.iret (v := (-2)) hx hb hr (fun t ht hW => ⟨⟨(-2), (σ, τ, run), rfl, (by simp only [F_L_confirmed, hk] <;> rfl), ⟨by rw [ht]; exact hP, hD⟩⟩, hS.F ht⟩) hS.2.2 dL_confirmed_16
    · skip
      exact absurd hk (nc3_confirm _ _ _)
  · skip
    obtain ⟨σ1, τ1, run1⟩ := u
    obtain ⟨h, hb9⟩ := h
    refine lv_if_eq (tgt := 11) hx hb dL_confirmed_4 (by decide) (fun c_1 => ?_) (fun c_1 => ?_)
    · skip
      refine lv_iconst (v := 0) hx hb dL_confirmed_11 (by decide) ?_
      refine vx_ret ?_
      refine W.widen (k := 1) (n := 6) (Nat.le_of_ble_eq_true rfl) (Nat.le_of_ble_eq_true rfl) ?_
      exact W.iret (v := 0) hx hb hr (fun t ht hW => ⟨⟨0, (σ1, τ1, run1), rfl, (by simp only [F_L_confirmed, ← h, if_pos c_1] <;> rfl), ⟨by rw [ht]; exact hP, hD⟩⟩, hS.F ht⟩) hS.2.2 dL_confirmed_12
    · skip
      refine lv_iconst (v := 1) hx hb dL_confirmed_7 (by decide) ?_
      refine lv_goto (tgt := 12) hx hb dL_confirmed_8 (by decide) ?_
      refine vx_ret ?_
      refine W.widen (k := 1) (n := 6) (Nat.le_of_ble_eq_true rfl) (Nat.le_of_ble_eq_true rfl) ?_
      exact W.iret (v := 1) hx hb hr (fun t ht hW => ⟨⟨1, (σ1, τ1, run1), rfl, (by simp only [F_L_confirmed, ← h, if_neg c_1] <;> rfl), ⟨by rw [ht]; exact hP, hD⟩⟩, hS.F ht⟩) hS.2.2 dL_confirmed_12
