/-! THE ACT OF FINISHING -/
section FIN
variable {σ ρ : FS} {τ : TS} {δ : DS} {run : Int32} {ww rr mm ll : Nat → Int32} {v : Nat → Nat} {e b : Nat} {p0 p1 : Int32}
/-- a marked slot has a version, behind an update that is whole or torn -/
theorem VI_upd {ve ln hs ct tr : Nat} {g w : Int32} (N : NI e v b) (hv : VI v) (h0 : v (29 * (1 - cnf v b)) = 0) (h1 : 1 ≤ ve) : VI (wrun (Lu v b ve ln hs ct tr) v g w).2.1 := by
  have hc := N.c2
  have hb := N.b2
  have base : VI (wrun (Ls (1 - cnf v b) ve ln hs ct) v g w).2.1 := by
    have T : Ls (1 - cnf v b) ve ln hs ct = [(29 * (1 - cnf v b) + 1, ve), (29 * (1 - cnf v b) + 2, ln), (29 * (1 - cnf v b) + 3, hs), (29 * (1 - cnf v b) + 4, ct)] ++ [(29 * (1 - cnf v b), 1)] := rfl
    intro s2 hs2 hm
    by_cases z : s2 = 1 - cnf v b
    · subst z
      by_cases c : (wrun (Ls (1 - cnf v b) ve ln hs ct) v g w).1 = (Ls (1 - cnf v b) ve ln hs ct).length
      · rw [wrun_full _ _ _ _ c]
        show 1 ≤ upn _ _ _ _
        rw [upn_n (by omega)]
        show 1 ≤ upn _ _ _ _
        rw [upn_n (by omega)]
        show 1 ≤ upn _ _ _ _
        rw [upn_n (by omega)]
        show 1 ≤ upn _ _ _ _
        rw [upn_n (by omega), upn_e rfl]
        exact h1
      · exfalso
        rw [T] at c hm
        rw [wrun_app] at c hm
        have fr : (wrun [(29 * (1 - cnf v b) + 1, ve), (29 * (1 - cnf v b) + 2, ln), (29 * (1 - cnf v b) + 3, hs), (29 * (1 - cnf v b) + 4, ct)] v g w).2.1 (29 * (1 - cnf v b)) = 0 := by
          rw [wrun_frame _ _ _ _ _ (fun q hq => by
            simp only [List.mem_cons, List.not_mem_nil, or_false] at hq
            rcases hq with rfl | rfl | rfl | rfl <;> (dsimp only; omega)), h0]
        generalize wrun [(29 * (1 - cnf v b) + 1, ve), (29 * (1 - cnf v b) + 2, ln), (29 * (1 - cnf v b) + 3, hs), (29 * (1 - cnf v b) + 4, ct)] v g w = r at fr c hm
        rw [show [(29 * (1 - cnf v b) + 1, ve), (29 * (1 - cnf v b) + 2, ln), (29 * (1 - cnf v b) + 3, hs), (29 * (1 - cnf v b) + 4, ct)].length = 4 from rfl] at c hm
        by_cases d : r.1 = 4
        · rw [if_pos d] at c hm
          rw [wrun] at c hm
          by_cases q : r.2.2.2 = 0
          · rw [if_pos q] at hm
            have hm2 : upn r.2.1 (29 * (1 - cnf v b)) (r.2.1 (29 * (1 - cnf v b)) &&& 1) (29 * (1 - cnf v b)) = 1 := hm
            rw [upn_e rfl, fr, Nat.zero_and] at hm2
            exact absurd hm2 (by decide)
          · rw [if_neg q] at c
            exact c rfl
        · rw [if_neg d] at hm
          rw [fr] at hm
          exact absurd hm (by decide)
    · have f : ∀ i, 29 * s2 ≤ i → i < 29 * s2 + 29 → (wrun (Ls (1 - cnf v b) ve ln hs ct) v g w).2.1 i = v i := fun i h1 h2 => wrun_frame _ _ _ _ _ (fun q hq => by have := Ls_in q hq; omega)
      rw [f _ (by omega) (by omega)] at hm ⊢
      exact hv s2 hs2 hm
  unfold Lu
  rw [wrun_app]
  by_cases c : (wrun (Ls (1 - cnf v b) ve ln hs ct) v g w).1 = (Ls (1 - cnf v b) ve ln hs ct).length
  · rw [if_pos c]
    exact base.c (fun i hi => wrun_frame _ _ _ _ _ (fun q hq => by have := Lr_in (by omega) q hq; omega))
  · rw [if_neg c]; exact base
theorem finish_1 (S : Sim e v b σ τ δ run ww rr mm) (he : e ≤ 890) (hl : rd ll 0 = nI 0) (hz : zOk p1) (hp : 7 ≤ p0) (hp7 : ¬ p0 = 7) (hp8 : ¬ p0 = 8) : ∃ σ' ρ' τ' run' l' w' r' m', F_L_updates σ ρ τ run ll ww rr mm p0 p1 = (1, σ', ρ', τ', run', l', w', r', m') ∧ Inv2 (e + 2) σ' τ' δ run' w' r' m' := by
  obtain ⟨h, hw, ⟨hg, hf⟩, hr, N, hro, ht, hd, hv⟩ := S
  have hc := N.c2
  have hct := N.ct
  have hst := N.st
  have hp3 : (3 : Int32) ≤ p0 := Int32.le_trans (by decide) hp
  obtain ⟨t0, ht0, et0⟩ := zr hz 3 (by decide) (by decide)
  have etr : (1 + (p1 - p1 / 3 * 3) : Int32) = nI (1 + t0) := by rw [n3, et0, n1', nI_add]
  generalize htr : 1 + t0 = tr at etr
  have hin : F_X5_requireWithin (nI tr) 1 3 = 0 := within_n (lo := 1) (hi := 3) (by omega) (by omega) (by decide)
  have no : F_L_updates_j838 mm ww = 0 → F_X5_requireFinishable σ τ run (nI tr) = 2 → ∃ σ' ρ' τ' run' l' w' r' m', F_L_updates σ ρ τ run ll ww rr mm p0 p1 = (1, σ', ρ', τ', run', l', w', r', m') ∧ Inv2 (e + 2) σ' τ' δ run' w' r' m' := by
    intro c1 c2
    have e1 : F_L_safe σ ρ τ run (nI tr) = (-2, ρ) := by
      have e2 : F_X5_safeFinish σ ρ τ run (nI tr) = (2, 0, ρ) := by
        unfold F_X5_safeFinish
        rw [c2, if_neg (by decide)]
      unfold F_L_safe
      rw [e2]; rfl
    have e3 : F_L_finished σ τ run (nI tr) = (-2, σ, τ, run) := by
      have e4 : F_X5_finish σ τ run (nI tr) = (2, 0, σ, τ, run) := by
        unfold F_X5_finish
        rw [c2, if_neg (by decide)]
      unfold F_L_finished
      rw [e4]; rfl
    have e5 : F_L_updates_j858 mm ww = -2 := by unfold F_L_updates_j858; exact if_pos c1
    refine ⟨σ, ρ, τ, run, ll, ww, rr, wr mm 3 (rd mm 3), ?_, ?_⟩
    · unfold F_L_updates
      rw [if_pos hp3, if_pos hp, if_neg hp7, if_neg hp8, etr, e1, e5]
      dsimp only
      rw [if_pos rfl, if_pos c1, carry_0 hl, e3]
      dsimp only
      rw [if_pos (show (-2 : Int32) = F_L_updates_j1022 from rfl)]
      rfl
    · have mself : wr mm 3 (rd mm 3) = mm := by
        have := wr_self mm
        rw [Int32.add_zero] at this; exact this
      rw [mself]
      exact ⟨v, b, h, hw, ⟨hg, hf⟩, hr, N.mono (by omega), hro, ht.mono (by omega), hd, hv⟩
  rcases ht with ⟨z, y⟩ | ⟨z, er, hnd, c, k, ve, hh, ct, ⟨q1, q2⟩, ⟨q3, q4⟩, q5, q6, q7, hck, hk1, hk4, hve, hhs, hctb, hve1, hmk⟩
  · refine no ?_ ?_
    · unfold F_L_updates_j838; rw [rd3, y]; rfl
    · unfold F_X5_requireFinishable F_X4_bytesToCome
      rw [if_pos hin, if_pos z]; rfl
  · have eb : F_X4_bytesToCome τ = nI (k - c) := by
      unfold F_X4_bytesToCome
      rw [z, if_neg (by decide), q1, q3, pk_sub hck]
    have hm := N.small (e := e) (by omega)
    have hidle : F_X5_idleSlot run = nI (1 - cnf v b) := by
      unfold F_X5_idleSlot
      rw [er, n1', pk_sub (by omega)]
    have hH1 : F_X3_imageHash σ (nI (1 - cnf v b)) (nI k) = nI (hsh v (1 - cnf v b) k) := imageHash_a h hm (by omega) (by omega)
    have hH2 : F_L_hash ww (nI (1 - cnf v b)) (nI k) = nI (hsh v (1 - cnf v b) k) := lhash_a hw hm (by omega) (by omega)
    have hlt := hsh_lt v (1 - cnf v b) k
    have efin : F_X5_requireFinishable σ τ run (nI tr) = if k = c ∧ hsh v (1 - cnf v b) k = hh then 0 else 2 := by
      unfold F_X5_requireFinishable
      rw [if_pos hin, eb, hidle, q3, hH1, q6.1]
      by_cases a : k = c
      · rw [if_pos (show nI (k - c) = 0 by rw [a, Nat.sub_self]; rfl)]
        by_cases a2 : hsh v (1 - cnf v b) k = hh
        · rw [if_pos (by rw [a2]), if_pos ⟨a, a2⟩]
        · rw [if_neg (fun y => a2 ((nI_eq (by omega) (by omega)).mp y)), if_neg (fun y => a2 y.2)]
      · rw [if_neg (show ¬ nI (k - c) = 0 from nI_ne0 (by omega) (by omega)), if_neg (fun y => a y.1)]
    have e838 : F_L_updates_j838 mm ww = if k = c ∧ hsh v (1 - cnf v b) k = hh then 1 else 0 := by
      unfold F_L_updates_j838
      rw [rd3, q2, if_neg (nI_pos (by omega)), show rd mm 5 = mm 5 from rfl, q4, show rd mm 6 = mm 6 from rfl, q6.2, rd0, ← hr, er, n1', pk_sub (by omega), hH2]
      by_cases a : k = c
      · rw [if_pos (by rw [a])]
        by_cases a2 : hsh v (1 - cnf v b) k = hh
        · rw [if_pos (by rw [a2]), if_pos ⟨a, a2⟩]
        · rw [if_neg (fun y => a2 ((nI_eq (by omega) (by omega)).mp y)), if_neg (fun y => a2 y.2)]
      · rw [if_neg (fun y => a ((nI_eq (by omega) (by omega)).mp y).symm), if_neg (fun y => a y.1)]
    by_cases can : k = c ∧ hsh v (1 - cnf v b) k = hh
    · rw [if_pos can] at efin e838
      have hst15 : cnf v b + 2 + 4 * tr ≤ 15 := by omega
      have hcn : ¬ F_L_updates_j838 mm ww = 0 := by rw [e838]; decide
      -- the rehearsal
      have hsafe : (F_L_safe σ ρ τ run (nI tr)).1 = 10 := by
        have e2 : F_X5_safeFinish σ ρ τ run (nI tr) = (0, sfN σ τ (nI (1 - cnf v b)) (nI tr) 10 0 ρ 0) := by
          unfold F_X5_safeFinish
          rw [if_pos efin, hidle]
        have e3 : ∀ z : Int32, z = nI 0 → (sfN σ τ (nI (1 - cnf v b)) (nI tr) 10 0 ρ z).1 = nI 10 := fun z hz => by
          have e4 := sfN_c (tr := tr) h N (by omega) q5.1 q3 q6.1 q7.1 (by omega) (by omega) hhs (by omega) (by omega) hst15 10 0 ρ 0
          rw [Nat.zero_add] at e4
          rw [hz]; exact e4
        have e5 := e3 0 rfl
        unfold F_L_safe
        rw [e2]
        generalize sfN σ τ (nI (1 - cnf v b)) (nI tr) 10 0 ρ 0 = q at e5 ⊢
        rw [if_pos rfl]
        exact e5
      have e5 : F_L_updates_j858 mm ww = 10 := by unfold F_L_updates_j858; exact if_neg hcn
      -- the rows
      have ho : 32 * (1 - rd mm 0) = nI (32 * (1 - cnf v b)) := by rw [rd0, ← hr, er, n1', pk_sub (by omega), show (32 : Int32) = nI 32 from rfl, pk_mul]
      have len : ∀ (M : List (Nat × Nat)) (q : Nat × Nat), (M ++ [q]).length = M.length + 1 := fun M q => by rw [List.length_append]; rfl
      have ph : ∀ j, j < 29 → phi (29 * (1 - cnf v b) + j) = 32 * (1 - cnf v b) + j := fun j hj => phi_w (by omega) hj
      have P1 := PL_plan (a := 32 * (1 - rd mm 0) + 1) (PL_nil hl) (by decide) (29 * (1 - cnf v b) + 1) ve (by rw [ho, ph 1 (by omega), n1', nI_add]) rfl
      have P2 := PL_plan (a := 32 * (1 - rd mm 0) + 2) P1 (by rw [len]; decide) (29 * (1 - cnf v b) + 2) k (by rw [ho, ph 2 (by omega), n2, nI_add]) rfl
      have P3 := PL_plan (a := 32 * (1 - rd mm 0) + 3) P2 (by rw [len, len]; decide) (29 * (1 - cnf v b) + 3) hh (by rw [ho, ph 3 (by omega), n3, nI_add]) rfl
      have P4 := PL_plan (a := 32 * (1 - rd mm 0) + 4) P3 (by rw [len, len, len]; decide) (29 * (1 - cnf v b) + 4) ct (by rw [ho, ph 4 (by omega), n4, nI_add]) rfl
      have P5 := PL_plan (a := 32 * (1 - rd mm 0)) P4 (by rw [len, len, len, len]; decide) (29 * (1 - cnf v b)) 1 (by rw [ho, show phi (29 * (1 - cnf v b)) = 32 * (1 - cnf v b) from ph 0 (by omega)]) rfl
      have est : (rd rr (4 * F_L_best rr + 2) &&& 1) + 2 + 4 * nI tr = nI (cnf v b + 2 + 4 * tr) := by
        rw [lst_n hw N (by omega), st_and1 _ (by omega), show sttR v b % 2 = cnf v b from rfl, n2, n4, pk_mul, nI_add, nI_add]
      have P6 := planR_PL (p0 := (rd rr (4 * F_L_best rr + 2) &&& 1) + 2 + 4 * nI tr) (p1 := rd rr (4 * F_L_best rr + 3)) hw N (by omega) P5 (by rw [len, len, len, len, len]; decide) est (lct_n hw N (by omega)) (by omega) (by omega)
      have eL : (((((([] : List (Nat × Nat)) ++ [(29 * (1 - cnf v b) + 1, ve)]) ++ [(29 * (1 - cnf v b) + 2, k)]) ++ [(29 * (1 - cnf v b) + 3, hh)]) ++ [(29 * (1 - cnf v b) + 4, ct)]) ++ [(29 * (1 - cnf v b), 1)]) ++ Lr (1 - b) (seqR v b + 1) (cnf v b + 2 + 4 * tr) (ctrR v b) = Lu v b ve k hh ct tr := rfl
      rw [eL] at P6
      have hle : (Lu v b ve k hh ct tr).length = 10 := rfl
      obtain ⟨n, v2, σ2, w2, r2, m2, p1', p2', p3', p4', p5', p6', p7', p8'⟩ := sync h hw hg hf P6 (by rw [hle]; decide) (fun q hq => by
        unfold Lu at hq
        have := N.b2
        rcases List.mem_append.mp hq with z | z
        · have := Ls_in q z; omega
        · have := Lr_in (by omega) q z; omega)
      rw [hle] at p1' p8'
      have UR := upd_res (g := σ.2.1) (w := σ.2.2) (ve := ve) (ln := k) (hs := hh) (ct := ct) (tr := tr) N (by omega) (by omega) hhs (by omega) (by omega) (by omega) hst15
      have hv2 := VI_upd (ve := ve) (ln := k) (hs := hh) (ct := ct) (tr := tr) (g := σ.2.1) (w := σ.2.2) N hv hmk hve1
      rw [p4'] at UR hv2
      have hfi : F_L_finished σ τ run (nI tr) = if n = 10 then (1, σ2, F_X4_end τ, run) else (0, σ2, F_X4_end (F_X4_end τ), -1) := by
        have e1 : F_X5_finish σ τ run (nI tr) = (0, (F_X5_stayOn (F_X4_end τ) run (if n = 10 then 1 else 0)).1, σ2, (F_X5_stayOn (F_X4_end τ) run (if n = 10 then 1 else 0)).2) := by
          unfold F_X5_finish
          rw [if_pos efin, hidle, wupd_c h N (by omega) q5.1 q3 q6.1 q7.1 (by omega) (by omega) hhs (by omega) (by omega), p2']
        unfold F_L_finished
        rw [e1, stay_e]
        dsimp only
        rw [if_pos rfl]
        by_cases a : n = 10
        · rw [if_pos a, if_pos a]; rfl
        · rw [if_neg a, if_neg a]; rfl
      have e977 : ∀ (hn : n = 10), (1 : Int32) = F_L_updates_j1022_2 (nI n) := fun hn => by rw [hn]; decide
      have e977' : ∀ (hn : ¬ n = 10), (0 : Int32) = F_L_updates_j1022_2 (nI n) := fun hn => by
        unfold F_L_updates_j1022_2 F_L_updates_j977
        rw [if_neg (show ¬ nI n = 10 from fun z => hn ((nI_eq (a := n) (b := 10) (by omega) (by omega)).mp z)), if_pos rfl]
      refine ⟨σ2, (F_L_safe σ ρ τ run (nI tr)).2, if n = 10 then F_X4_end τ else F_X4_end (F_X4_end τ), if n = 10 then run else -1, F_L_planRecord (F_L_plan (F_L_plan (F_L_plan (F_L_plan (F_L_plan ll (32 * (1 - rd mm 0) + 1) (nI ve)) (32 * (1 - rd mm 0) + 2) (nI k)) (32 * (1 - rd mm 0) + 3) (nI hh)) (32 * (1 - rd mm 0) + 4) (nI ct)) (32 * (1 - rd mm 0)) 1) rr ((rd rr (4 * F_L_best rr + 2) &&& 1) + 2 + 4 * nI tr) (rd rr (4 * F_L_best rr + 3)), w2, r2, wr m2 3 (-1), ?_, ?_⟩
      · unfold F_L_updates
        rw [if_pos hp3, if_pos hp, if_neg hp7, if_neg hp8, etr]
        generalize F_L_safe σ ρ τ run (nI tr) = sf at hsafe
        obtain ⟨s1, ρ1⟩ := sf
        dsimp only at hsafe ⊢
        rw [hsafe, e5, if_pos rfl, if_neg hcn, show rd mm 4 = nI ve from q5.2, show rd mm 5 = nI k from q4, show rd mm 6 = nI hh from q6.2, show rd mm 7 = nI ct from q7.2]
        have p3'' : F_L_carry (F_L_planRecord (F_L_plan (F_L_plan (F_L_plan (F_L_plan (F_L_plan ll (32 * (1 - rd mm 0) + 1) (nI ve)) (32 * (1 - rd mm 0) + 2) (nI k)) (32 * (1 - rd mm 0) + 3) (nI hh)) (32 * (1 - rd mm 0) + 4) (nI ct)) (32 * (1 - rd mm 0)) 1) rr ((rd rr (4 * F_L_best rr + 2) &&& 1) + 2 + 4 * nI tr) (rd rr (4 * F_L_best rr + 3))) ww rr mm = (nI n, w2, r2, m2) := p3'
        simp only [p3'', hfi]
        by_cases a : n = 10
        · simp only [if_pos a]
          rw [if_pos (e977 a)]; rfl
        · simp only [if_neg a]
          rw [if_pos (e977' a)]; rfl
      · have mk : ∀ i, i ≠ 3 → wr m2 3 (-1) i = m2 i := fun i hi => wr_no m2 3 _ (by omega) hi
        have mk3 : wr m2 3 (-1) 3 = -1 := wr_at m2 3 _ (by omega) rfl
        by_cases a : n = 10
        · rw [if_pos a, if_pos a]
          obtain ⟨N5, s5⟩ := UR.2.1 a
          have ec : cnf v2 (1 - b) = cnf v b := by
            unfold cnf
            rw [s5]
            show (sttR v b % 2 + 2 + 4 * tr) % 2 = sttR v b % 2
            omega
          exact ⟨v2, 1 - b, p5', p6', ⟨p7'.1.trans (mk 2 (by omega)).symm, p7'.2.trans (mk 1 (by omega)).symm⟩, ((hr.trans (p8'.1 a 0 (by omega) (by omega)).symm).trans (mk 0 (by omega)).symm), N5, Or.inr (Or.inl (by rw [ec]; exact er)), Or.inl ⟨rfl, mk3⟩, hd, hv2⟩
        · rw [if_neg a, if_neg a]
          obtain ⟨N5, s5⟩ := UR.2.2 (by omega)
          have hm2 := p8'.2 (by omega)
          exact ⟨v2, b, p5', p6', ⟨p7'.1.trans (mk 2 (by omega)).symm, p7'.2.trans (mk 1 (by omega)).symm⟩, (hm2.1.symm.trans (mk 0 (by omega)).symm), N5, Or.inl rfl, Or.inl ⟨rfl, mk3⟩, hd, hv2⟩
    · rw [if_neg can] at efin e838
      exact no e838 efin
end FIN
