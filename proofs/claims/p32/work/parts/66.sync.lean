/-! THE CLASS WRITES A LIST, THE LAW CARRIES THE SAME LIST OUT -/
section SYNC
variable {σ : FS} {τ : TS} {δ : DS} {run : Int32} {ww rr mm ll : Nat → Int32} {v : Nat → Nat} {e b : Nat}
theorem phi_w {s j : Nat} (hs : s < 2) (hj : j < 29) : phi (29 * s + j) = 32 * s + j := by
  unfold phi
  rw [if_pos (by omega)]
  have h1 : (29 * s + j) / 29 = s := by omega
  have h2 : (29 * s + j) % 29 = j := by omega
  rw [h1, h2]
theorem phi_r {r j : Nat} (_ : r < 2) (_ : j < 4) : phi (58 + 4 * r + j) = 64 + 4 * r + j := by
  unfold phi
  rw [if_neg (by omega)]
  omega
theorem sync {L : List (Nat × Nat)} (h : AbsS σ v) (hw : AbsW ww rr v) (hg : σ.2.1 = mm 2) (hf : σ.2.2 = mm 1) (hL : PL ll L) (hn : L.length ≤ 15) (hi : ∀ q ∈ L, q.1 < 66) : ∃ n v2 σ2 w2 r2 m2, n ≤ L.length ∧ cw L σ = (n, σ2) ∧ F_L_carry ll ww rr mm = (nI n, w2, r2, m2) ∧ wrun L v σ.2.1 σ.2.2 = (n, v2, σ2.2.1, σ2.2.2) ∧ AbsS σ2 v2 ∧ AbsW w2 r2 v2 ∧ (σ2.2.1 = m2 2 ∧ σ2.2.2 = m2 1) ∧ mAft mm m2 n L.length := by
  obtain ⟨w2, r2, m2, c1, c2, c3, c4, c5⟩ := carry_a (mm := mm) hL hn hi hw
  obtain ⟨d1, d2, d3, d4⟩ := cw_a L σ v h hi
  rw [← hg, ← hf] at c1 c2 c3 c4 c5
  refine ⟨(wrun L v σ.2.1 σ.2.2).1, (wrun L v σ.2.1 σ.2.2).2.1, (cw L σ).2, w2, r2, m2, wrun_le _ _ _ _, Prod.ext d1 rfl, c1, ?_, d2, c2, ⟨by rw [d3, c3], by rw [d4, c4]⟩, c5⟩
  rw [d3, d4]
theorem carry_0 (h : rd ll 0 = nI 0) : F_L_carry ll ww rr mm = (nI 0, ww, rr, mm) := by
  unfold F_L_carry
  rw [h, nI_clamp (by omega), cyN, h]
theorem planR_PL {L : List (Nat × Nat)} {st ct : Nat} {p0 p1 : Int32} (hw : AbsW ww rr v) (N : NI e v b) (he : e ≤ 998) (hL : PL ll L) (hn : L.length ≤ 10) (h0 : p0 = nI st) (h1 : p1 = nI ct) (hst : st < 65536) (hct : ct < 65536) : PL (F_L_planRecord ll rr p0 p1) (L ++ Lr (1 - b) (seqR v b + 1) st ct) := by
  have hb := N.b2
  have hsq := N.sq
  unfold F_L_planRecord
  rw [lsq_n hw N (by omega), best_n hw N (by omega), h0, h1, nI_1, check_a (by omega) hst hct, n1', pk_sub (by omega), n4, pk_mul, show (64 : Int32) = nI 64 from rfl, nI_add, n2, n3, nI_add, nI_add, nI_add, n0']
  have a0 := phi_r (r := 1 - b) (j := 0) (by omega) (by omega)
  have a1 := phi_r (r := 1 - b) (j := 1) (by omega) (by omega)
  have a2 := phi_r (r := 1 - b) (j := 2) (by omega) (by omega)
  have a3 := phi_r (r := 1 - b) (j := 3) (by omega) (by omega)
  rw [Nat.add_zero] at a0
  have len : ∀ (M : List (Nat × Nat)) (q : Nat × Nat), (M ++ [q]).length = M.length + 1 := fun M q => by rw [List.length_append]; rfl
  have p1 := PL_plan hL (by omega) (58 + 4 * (1 - b)) 0 (by rw [a0]) rfl
  have p2 := PL_plan p1 (by rw [len]; omega) (58 + 4 * (1 - b) + 1) (seqR v b + 1) (by rw [a1]) rfl
  have p3 := PL_plan p2 (by rw [len, len]; omega) (58 + 4 * (1 - b) + 2) st (by rw [a2]) rfl
  have p4 := PL_plan p3 (by rw [len, len, len]; omega) (58 + 4 * (1 - b) + 3) ct (by rw [a3]) rfl
  have p5 := PL_plan p4 (by rw [len, len, len, len]; omega) (58 + 4 * (1 - b)) (chk (seqR v b + 1) st ct) (by rw [a0]) rfl
  have eL : L ++ Lr (1 - b) (seqR v b + 1) st ct = (((((L ++ [(58 + 4 * (1 - b), 0)]) ++ [(58 + 4 * (1 - b) + 1, seqR v b + 1)]) ++ [(58 + 4 * (1 - b) + 2, st)]) ++ [(58 + 4 * (1 - b) + 3, ct)]) ++ [(58 + 4 * (1 - b), chk (seqR v b + 1) st ct)]) := by
    simp [Lr]
  rw [eL]
  exact p5
theorem trOk.off (h : trOk e v b τ mm run) (hr : run = -1) : τ.2.2.2.2.2 = 0 ∧ mm 3 = -1 := by
  rcases h with h | ⟨-, z, -⟩
  · exact h
  · exact absurd (z.symm.trans hr) (nI_m1 (by unfold cnf; omega))
theorem NI.mono {f : Nat} (N : NI e v b) (h : e ≤ f) : NI f v b := ⟨N.1, N.2.1, N.2.2.mono h⟩
theorem trOk.mono {f : Nat} (h : trOk e v b τ mm run) (hf : e ≤ f) : trOk f v b τ mm run := by
  rcases h with h | ⟨h1, h2, h3, c, k, ve, hs, ct, q1, q2, q3, q4, q5, r1, r2, r3, r4, r5, r6, r7, r8⟩
  · exact Or.inl h
  · exact Or.inr ⟨h1, h2, h3, c, k, ve, hs, ct, q1, q2, q3, q4, q5, r1, r2, r3, by omega, r5, by omega, r7, r8⟩
end SYNC
