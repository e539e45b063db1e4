/-! THE ACT OF POWER -/
section PON
variable {σ : FS} {τ : TS} {δ : DS} {run : Int32} {ww rr mm ll : Nat → Int32} {v : Nat → Nat} {e b : Nat}
theorem wr_at (f : Nat → Int32) (i : Nat) (x : Int32) {k : Nat} (hi : i < 2 ^ 31) (h : k = i) : wr f (nI i) x k = x := by rw [wr_n f hi, if_pos h]
theorem wr_no (f : Nat → Int32) (i : Nat) (x : Int32) {k : Nat} (hi : i < 2 ^ 31) (h : k ≠ i) : wr f (nI i) x k = f k := by rw [wr_n f hi, if_neg h]
theorem bit1 : ∀ st, st < 16 → st / 2 % 2 = 1 → 4 ≤ st → (st - 4) % 2 = st % 2 ∧ (st - 4) / 2 % 2 = 1 := by decide +kernel
theorem isOn_1 (S : Sim e v b σ τ δ run ww rr mm) (he : e ≤ 890) (hl : rd ll 0 = nI 0) : ∃ σ' τ' run' l' w' r' m', F_L_isOn σ τ run ll ww rr mm = (1, σ', τ', run', l', w', r', m') ∧ Inv2 (e + 2) σ' τ' δ run' w' r' m' := by
  obtain ⟨h, hw, ⟨hg, hf⟩, hr, N, hro, ht, hd, hv⟩ := S
  have hc := N.c2
  have hb := N.b2
  have hst := N.st
  have hct := N.ct
  by_cases hon : run = -1
  · -- off: it starts
    obtain ⟨tr1, tr2⟩ := ht.off hon
    have hneg : rd mm 0 < 0 := by rw [rd0, ← hr, hon]; decide
    by_cases d : sttR v b / 2 % 2 = 1
    · -- a trial is due: a record is written
      have ej : F_L_isOn_j98 ww rr = nI (nst v b) := by
        unfold F_L_isOn_j98 F_L_isOn_j71
        rw [(lstrt_n hw N (by omega)).1, lst_n hw N (by omega), st_and1 _ (by omega), show sttR v b % 2 = cnf v b from rfl]
        unfold strt nst
        by_cases t : trd v b
        · rw [if_pos t, if_pos t, if_neg (show ¬ nI (1 - cnf v b) = nI (cnf v b) from fun z => absurd ((nI_eq (by omega) (by omega)).mp z) (by omega)), if_neg (by decide), n4, pk_sub t.2.1]
        · rw [if_neg t, if_neg t, if_pos rfl, if_pos rfl]
      have hn15 : nst v b ≤ 15 := by unfold nst; split <;> omega
      have hgood : good v (nst v b % 2) := by
        unfold nst
        by_cases t : trd v b
        · rw [if_pos t, (bit1 _ (by omega) d t.2.1).1]; exact N.2.1
        · rw [if_neg t, Nat.mod_eq_of_lt hc]; exact N.2.1
      have hPL := planR_PL (L := []) hw N (by omega) (PL_nil hl) (by decide) ej (lct_n hw N (by omega)) (by omega) (by omega)
      rw [List.nil_append] at hPL
      obtain ⟨n, v2, σ2, w2, r2, m2, q1, q2, q3, q4, q5, q6, q7, q8⟩ := sync h hw hg hf hPL (show 5 ≤ 15 by decide) (fun q hq => by have := Lr_in (by omega) q hq; omega)
      have hlen : (Lr (1 - b) (seqR v b + 1) (nst v b) (ctrR v b)).length = 5 := rfl
      rw [hlen] at q1 q8
      have NR := NI.record (st := nst v b) (ct := ctrR v b) (g := σ.2.1) (w := σ.2.2) N hn15 (by omega) hgood
      rw [q4] at NR
      have hs2 := strt_c2 N
      have hsw : F_X5_switchOn σ run = (0, if n = 5 then nI (strt v b) else -1, σ2, if n = 5 then nI (strt v b) else -1) := by
        unfold F_X5_switchOn F_X5_isOn
        rw [if_pos hon, if_pos rfl, start_c h N (by omega), if_pos d, q2]
      have hc0 : rd (F_L_planRecord ll rr (F_L_isOn_j98 ww rr) (rd rr (4 * F_L_best rr + 3))) 0 = nI 5 := hPL.1
      have hj : F_L_isOn_j138 (nI n) (F_L_planRecord ll rr (F_L_isOn_j98 ww rr) (rd rr (4 * F_L_best rr + 3))) ww rr = if n = 5 then nI (strt v b) else -1 := by
        unfold F_L_isOn_j138
        rw [hc0, (lstrt_n hw N (by omega)).1]
        by_cases c : n = 5
        · rw [if_pos c, if_pos (by rw [c])]
        · rw [if_neg c, if_neg (fun z => c ((nI_eq (by omega) (by omega)).mp z))]
      refine ⟨σ2, τ, if n = 5 then nI (strt v b) else -1, F_L_planRecord ll rr (F_L_isOn_j98 ww rr) (rd rr (4 * F_L_best rr + 3)), w2, r2, wr m2 0 (if n = 5 then nI (strt v b) else -1), ?_, ?_⟩
      · unfold F_L_isOn
        rw [if_pos hneg, ldue_n hw N (by omega), if_pos d, if_neg (by decide)]
        simp only [q3, hsw, hj]
        rw [if_pos (show (if n = 5 then nI (strt v b) else -1) = rd (wr m2 0 (if n = 5 then nI (strt v b) else -1)) 0 from (rd_wr_eq rfl).symm)]
      · have m0 : ∀ x : Int32, wr m2 0 x 0 = x := fun x => wr_at m2 0 x (by omega) rfl
        have mk : ∀ (x : Int32) (k : Nat), k ≠ 0 → wr m2 0 x k = m2 k := fun x k hk => wr_no m2 0 x (by omega) hk
        by_cases c : n = 5
        · simp only [if_pos c]
          obtain ⟨N5, s5, c5⟩ := NR.2.1 c
          have hm3 : m2 3 = -1 := (q8.1 c 3 (by omega) (by omega)).trans tr2
          have ec : cnf v2 (1 - b) = cnf v b := by
            unfold cnf
            rw [s5]
            unfold nst
            by_cases t : trd v b
            · rw [if_pos t]; exact (bit1 _ (by omega) d t.2.1).1
            · rw [if_neg t]; exact Nat.mod_eq_of_lt hc
          refine ⟨v2, 1 - b, q5, q6, ⟨q7.1.trans (mk _ 2 (by omega)).symm, q7.2.trans (mk _ 1 (by omega)).symm⟩, (m0 _).symm, N5.mono (by omega), ?_, Or.inl ⟨tr1, (mk _ 3 (by omega)).trans hm3⟩, hd, hv.c NR.1⟩
          by_cases t : trd v b
          · have e1 : strt v b = 1 - cnf v b := if_pos t
            refine Or.inr (Or.inr ⟨?_, by rw [ec, e1], by rw [ec]; exact good_c (fun i _ hi2 => NR.1 i (by omega)) t.2.2.1⟩)
            unfold dueR
            rw [s5]
            unfold nst
            rw [if_pos t]; exact (bit1 _ (by omega) d t.2.1).2
          · have e1 : strt v b = cnf v b := if_neg t
            exact Or.inr (Or.inl (by rw [ec, e1]))
        · simp only [if_neg c]
          obtain ⟨N5, s5, c5⟩ := NR.2.2 (by omega)
          have hm := q8.2 (by omega)
          exact ⟨v2, b, q5, q6, ⟨q7.1.trans (mk _ 2 (by omega)).symm, q7.2.trans (mk _ 1 (by omega)).symm⟩, (m0 _).symm, N5.mono (by omega), Or.inl rfl, Or.inl ⟨tr1, (mk _ 3 (by omega)).trans hm.2.1⟩, hd, hv.c NR.1⟩
    · -- no trial is due
      have hsw : F_X5_switchOn σ run = (0, nI (cnf v b), σ, nI (cnf v b)) := by
        unfold F_X5_switchOn F_X5_isOn
        rw [if_pos hon, if_pos rfl, start_c h N (by omega), if_neg d]
      have hj : F_L_isOn_j138 (nI 0) ll ww rr = nI (cnf v b) := by
        unfold F_L_isOn_j138
        rw [hl, if_pos rfl, (lstrt_n hw N (by omega)).1, strt_nd d]
      refine ⟨σ, τ, nI (cnf v b), ll, ww, rr, wr mm 0 (nI (cnf v b)), ?_, ?_⟩
      · unfold F_L_isOn
        rw [if_pos hneg, ldue_n hw N (by omega), if_neg d, if_pos rfl, carry_0 hl]
        simp only [hsw, hj]
        rw [if_pos (show nI (cnf v b) = rd (wr mm 0 (nI (cnf v b))) 0 from (rd_wr_eq rfl).symm)]
      · have mk : ∀ (k : Nat), k ≠ 0 → wr mm 0 (nI (cnf v b)) k = mm k := fun k hk => wr_no mm 0 _ (by omega) hk
        exact ⟨v, b, h, hw, ⟨hg.trans (mk 2 (by omega)).symm, hf.trans (mk 1 (by omega)).symm⟩, (wr_at mm 0 _ (by omega) rfl).symm, N.mono (by omega), Or.inr (Or.inl rfl), Or.inl ⟨tr1, (mk 3 (by omega)).trans tr2⟩, hd, hv⟩
  · -- on: it is switched off
    obtain ⟨s, hs, es⟩ := (hro.on hc).resolve_left hon
    have hneg : ¬ rd mm 0 < 0 := by rw [rd0, ← hr, es]; exact nI_pos (by omega)
    have hsw : F_X5_switchOff τ run = (0, run, F_X4_end τ, -1) := by
      unfold F_X5_switchOff F_X5_requireOn F_X5_isOn F_X5_losePower
      rw [if_neg hon, if_neg (show ¬ (1 : Int32) = 0 by decide), if_pos rfl]
    refine ⟨σ, F_X4_end τ, -1, ll, ww, rr, wr (wr mm 0 (-1)) 3 (-1), ?_, ?_⟩
    · unfold F_L_isOn
      rw [if_neg hneg, hsw]
      dsimp only
      rw [if_pos (show run = rd mm 0 from hr)]
    · have mk : ∀ (k : Nat), k ≠ 0 → k ≠ 3 → wr (wr mm 0 (-1)) 3 (-1) k = mm k := fun k hk h3 => (wr_no _ 3 _ (by omega) h3).trans (wr_no mm 0 _ (by omega) hk)
      exact ⟨v, b, h, hw, ⟨hg.trans (mk 2 (by omega) (by omega)).symm, hf.trans (mk 1 (by omega) (by omega)).symm⟩, ((wr_no _ 3 _ (by omega) (by omega)).trans (wr_at mm 0 _ (by omega) rfl)).symm, N.mono (by omega), Or.inl rfl, Or.inl ⟨rfl, wr_at _ 3 _ (by omega) rfl⟩, hd, hv⟩
end PON
