/-! THE ACT OF CONFIRMING -/
section CNF
variable {σ ρ : FS} {τ : TS} {δ : DS} {run : Int32} {ww rr mm ll : Nat → Int32} {v : Nat → Nat} {e b : Nat} {p0 p1 : Int32}
theorem confirm_1 (S : Sim e v b σ τ δ run ww rr mm) (he : e ≤ 890) (hl : rd ll 0 = nI 0) (hp : p0 = 8) : ∃ σ' τ' run' l' w' r' m', F_L_updates σ ρ τ run ll ww rr mm p0 p1 = (1, σ', ρ, τ', run', l', w', r', m') ∧ Inv2 (e + 2) σ' τ' δ run' w' r' m' := by
  obtain ⟨h, hw, ⟨hg, hf⟩, hr, N, hro, ht, hd, hv⟩ := S
  have hc := N.c2
  have hct := N.ct
  have hst := N.st
  have hbase : Inv2 (e + 2) σ τ δ run ww rr mm := ⟨v, b, h, hw, ⟨hg, hf⟩, hr, N.mono (by omega), hro, ht.mono (by omega), hd, hv⟩
  have no : F_L_updates_j674 mm rr = 0 → (F_X5_confirm σ τ run) = (2, 0, σ, τ, run) → ∃ σ' τ' run' l' w' r' m', F_L_updates σ ρ τ run ll ww rr mm p0 p1 = (1, σ', ρ, τ', run', l', w', r', m') ∧ Inv2 (e + 2) σ' τ' δ run' w' r' m' := by
    intro c1 c2
    refine ⟨σ, τ, run, ll, ww, rr, mm, ?_, hbase⟩
    have e1 : F_L_confirmed σ τ run = (-2, σ, τ, run) := by
      unfold F_L_confirmed
      rw [c2]; rfl
    unfold F_L_updates
    rw [hp, if_pos (by decide), if_pos (by decide), if_neg (by decide), if_pos rfl, if_pos c1, carry_0 hl, e1]
    dsimp only
    rw [if_pos (show (-2 : Int32) = F_L_updates_j776 from rfl)]
  have e674 : ∀ s, s < 2 → run = nI s → F_L_updates_j674 mm rr = if s = cnf v b then 0 else 1 := fun s hs es => by
    unfold F_L_updates_j674
    rw [rd0, ← hr, es, if_neg (nI_pos (by omega)), lst_n hw N (by omega), st_and1 _ (by omega), show sttR v b % 2 = cnf v b from rfl]
    simp only [eqI (show s < 65536 by omega) (show cnf v b < 65536 by omega)]
  rcases hro.at N with h0 | ⟨s, hs, es, hgd, hsc⟩
  · refine no ?_ ?_
    · unfold F_L_updates_j674
      rw [rd0, ← hr, h0]; rfl
    · unfold F_X5_confirm
      rw [rOn_off h0, if_neg (by decide)]
  · have hm : ¬ run = -1 := by rw [es]; exact nI_m1 (by omega)
    by_cases k : s = cnf v b
    · refine no (by rw [e674 s hs es, if_pos k]) ?_
      unfold F_X5_confirm F_X5_isOnTrial F_X5_isOn
      rw [if_pos (rOn_on hs es), if_neg hm, if_neg (show ¬ (1 : Int32) = 0 by decide), cnf_n h N (by omega), if_pos (show run = nI (cnf v b) by rw [es, k]), if_pos rfl]
    · obtain ⟨hdu, hsn⟩ := hsc.resolve_left k
      have htr : τ.2.2.2.2.2 = 0 ∧ mm 3 = -1 := by
        rcases ht with z | ⟨-, -, z, -⟩
        · exact z
        · exact absurd hdu z
      have hcn : ¬ F_L_updates_j674 mm rr = 0 := by rw [e674 s hs es, if_neg k]; decide
      have k4 : v (29 * s + 4) ≤ 2 * e := by
        have hb := N.2.2 (29 * s + 4) (by omega)
        unfold bnd at hb
        rw [if_pos (by omega), if_neg (by omega), if_neg (by omega), if_neg (by omega), if_neg (by omega), if_pos (by omega)] at hb
        exact hb
      have hsw : F_X3_slotWord σ run 4 = nI (v (29 * s + 4)) := by rw [es]; exact slotW_a (j := 4) h hs (by omega)
      have hlw : rd ww (32 * rd mm 0 + 4) = nI (v (29 * s + 4)) := by rw [rd0, ← hr, es]; exact lw (j := 4) hw hs (by omega)
      have hmax : ∃ ct, ct ≤ 2 * e ∧ (if F_X3_recordCounter σ < F_X3_slotWord σ run 4 then F_X3_slotWord σ run 4 else F_X3_recordCounter σ) = nI ct ∧ F_L_updates_j730 ww mm rr = nI ct := by
        unfold F_L_updates_j730
        rw [hsw, hlw, rcnt_n h N (by omega), lct_n hw N (by omega)]
        by_cases q : ctrR v b < v (29 * s + 4)
        · exact ⟨_, k4, by rw [if_pos (nI_lt q (by omega))], by rw [if_neg (fun z => absurd ((nI_leI (by omega) (by omega)).mp z) (by omega))]⟩
        · exact ⟨_, hct, by rw [if_neg (nI_nlt (by omega) (by omega))], by rw [if_pos (nI_le (by omega) (by omega))]⟩
      obtain ⟨ct, hct2, em1, em2⟩ := hmax
      have hPL := planR_PL (L := []) (p0 := rd mm 0) (p1 := F_L_updates_j730 ww mm rr) (st := s) hw N (by omega) (PL_nil hl) (by decide) (by rw [rd0, ← hr]; exact es) em2 (by omega) (by omega)
      rw [List.nil_append] at hPL
      obtain ⟨n, v2, σ2, w2, r2, m2, q1, q2, q3, q4, q5, q6, q7, q8⟩ := sync h hw hg hf hPL (show 5 ≤ 15 by decide) (fun q hq => by have := Lr_in (by have := N.b2; omega) q hq; have := N.b2; omega)
      rw [show (Lr (1 - b) (seqR v b + 1) s ct).length = 5 from rfl] at q1 q8
      have NR := NI.record (st := s) (ct := ct) (g := σ.2.1) (w := σ.2.2) N (by omega) (by omega) (by rw [Nat.mod_eq_of_lt hs]; exact hgd)
      rw [q4] at NR
      have hcf : F_L_confirmed σ τ run = if n = 5 then (1, σ2, τ, run) else (0, σ2, F_X4_end τ, -1) := by
        have e1 : F_X5_confirm σ τ run = (0, (F_X5_stayOn τ run (if n = 5 then 1 else 0)).1, σ2, (F_X5_stayOn τ run (if n = 5 then 1 else 0)).2) := by
          unfold F_X5_confirm F_X5_isOnTrial F_X5_isOn
          rw [if_pos (rOn_on hs es), if_neg hm, if_neg (show ¬ (1 : Int32) = 0 by decide), cnf_n h N (by omega), if_neg (show ¬ run = nI (cnf v b) from fun z => k ((nI_eq (by omega) (by omega)).mp (es.symm.trans z))), if_neg (show ¬ (1 : Int32) = 0 by decide), em1, show F_X3_settledState run = nI s from es, wrec_c h N (by omega) (by omega) (by omega), q2]
        unfold F_L_confirmed
        rw [e1, stay_e]
        dsimp only
        rw [if_pos rfl]
        by_cases c : n = 5
        · rw [if_pos c, if_pos c]; rfl
        · rw [if_neg c, if_neg c]; rfl
      refine ⟨σ2, if n = 5 then τ else F_X4_end τ, if n = 5 then run else -1, F_L_planRecord ll rr (rd mm 0) (F_L_updates_j730 ww mm rr), w2, r2, m2, ?_, ?_⟩
      · unfold F_L_updates
        rw [hp, if_pos (by decide), if_pos (by decide), if_neg (by decide), if_pos rfl, if_neg hcn]
        simp only [q3, hcf]
        by_cases c : n = 5
        · simp only [if_pos c]
          rw [if_pos (by rw [c]; decide)]
        · simp only [if_neg c]
          rw [if_pos (show (0 : Int32) = F_L_updates_j776_2 (nI n) by
            unfold F_L_updates_j776_2 F_L_updates_j750
            rw [if_neg (show ¬ nI n = 5 from fun z => c ((nI_eq (a := n) (b := 5) (by omega) (by omega)).mp z)), if_pos rfl])]
      · by_cases c : n = 5
        · rw [if_pos c, if_pos c]
          obtain ⟨N5, s5, c5⟩ := NR.2.1 c
          have ec : cnf v2 (1 - b) = s := by
            unfold cnf
            rw [s5]; exact Nat.mod_eq_of_lt hs
          exact ⟨v2, 1 - b, q5, q6, q7, (hr.trans (q8.1 c 0 (by omega) (by omega)).symm), N5.mono (by omega), Or.inr (Or.inl (by rw [ec]; exact es)), Or.inl ⟨htr.1, (q8.1 c 3 (by omega) (by omega)).trans htr.2⟩, hd, hv.c NR.1⟩
        · rw [if_neg c, if_neg c]
          obtain ⟨N5, s5, c5⟩ := NR.2.2 (by omega)
          have hm2 := q8.2 (by omega)
          exact ⟨v2, b, q5, q6, q7, hm2.1.symm, N5.mono (by omega), Or.inl rfl, Or.inl ⟨rfl, hm2.2.1⟩, hd, hv.c NR.1⟩
end CNF
