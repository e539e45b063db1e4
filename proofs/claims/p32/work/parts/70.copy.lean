/-! THE ACT OF COPYING -/
/-- the writes of a copy -/
def cpF (v0 : Nat → Nat) (o a : Nat) : Nat → Nat → List (Nat × Nat)
  | 0, _ => []
  | n + 1, j => (o + j, v0 (a + j)) :: cpF v0 o a n (j + 1)
theorem cpF_len (v0 : Nat → Nat) (o a : Nat) : ∀ n j, (cpF v0 o a n j).length = n
  | 0, _ => rfl
  | n + 1, j => by rw [cpF, List.length_cons, cpF_len v0 o a n (j + 1)]
theorem cpF_snoc (v0 : Nat → Nat) (o a : Nat) : ∀ n j, cpF v0 o a (n + 1) j = cpF v0 o a n j ++ [(o + (j + n), v0 (a + (j + n)))]
  | 0, j => rfl
  | n + 1, j => by
    rw [cpF, cpF_snoc v0 o a n (j + 1), cpF, List.cons_append, (show j + 1 + n = j + (n + 1) by omega)]
theorem cpF_mem (v0 : Nat → Nat) (o a : Nat) : ∀ n j, ∀ q ∈ cpF v0 o a n j, ∃ i, j ≤ i ∧ i < j + n ∧ q = (o + i, v0 (a + i))
  | 0, _, q, h => by simp [cpF] at h
  | n + 1, j, q, h => by
    rw [cpF] at h
    rcases List.mem_cons.mp h with h | h
    · exact ⟨j, by omega, by omega, h⟩
    · obtain ⟨i, h1, h2, h3⟩ := cpF_mem v0 o a n (j + 1) q h
      exact ⟨i, by omega, by omega, h3⟩
/-- the transfer with c bytes come -/
def tC (τ : TS) (c : Nat) : TS := (τ.1, τ.2.1, τ.2.2.1, τ.2.2.2.1, nI c, τ.2.2.2.2.2)
section CPY
variable {σ ρ : FS} {τ : TS} {δ : DS} {run : Int32} {ww rr mm ll : Nat → Int32} {v : Nat → Nat} {e b : Nat} {p0 p1 : Int32}
theorem cpN_c {v0 : Nat → Nat} {s c fr : Nat} (hs : s < 2) : ∀ (n j : Nat) (σ : FS) (v : Nat → Nat) (τ : TS), AbsS σ v → (∀ i, 29 * s ≤ i → i < 29 * s + 29 → v i = v0 i) → τ.2.2.2.2.1 = nI (c + j) → c + j + n ≤ 24 → fr + j + n ≤ 24 →
    cpN (nI s) (nI fr) n j σ τ (nI s) = (nI (j + (cw (cpF v0 (29 * (1 - s) + 5 + c) (29 * s + 5 + fr) n j) σ).1), (cw (cpF v0 (29 * (1 - s) + 5 + c) (29 * s + 5 + fr) n j) σ).2, if (cw (cpF v0 (29 * (1 - s) + 5 + c) (29 * s + 5 + fr) n j) σ).1 = n then tC τ (c + j + n) else F_X4_end (tC τ (c + j + (cw (cpF v0 (29 * (1 - s) + 5 + c) (29 * s + 5 + fr) n j) σ).1 + 1)), if (cw (cpF v0 (29 * (1 - s) + 5 + c) (29 * s + 5 + fr) n j) σ).1 = n then nI s else -1)
  | 0, j, σ, v, τ, h, hv0, ec, h1, h2 => by
    rw [cpN, cpF, cw, if_pos rfl, if_pos rfl]
    unfold tC
    rw [Nat.add_zero, Nat.add_zero, ← ec]
  | n + 1, j, σ, v, τ, h, hv0, ec, h1, h2 => by
    have ex : F_X3_imageWord σ (nI s) (nI fr + nI j) = nI (v0 (29 * s + 5 + fr + j)) := by
      rw [nI_add, imageW_a h hs (by omega), hv0 _ (by omega) (by omega), Nat.add_assoc (29 * s + 5) fr j]
    have AE := app_e (τ := τ) (x := v0 (29 * s + 5 + fr + j)) h hs (show c + j < 24 by omega) rfl ec
    rw [← Nat.add_assoc (29 * (1 - s) + 5) c j] at AE
    have hi : 29 * (1 - s) + 5 + c + j < 66 := by omega
    have ew := write_cw h hi (v0 (29 * s + 5 + fr + j))
    have ha := cw_a [(29 * (1 - s) + 5 + c + j, v0 (29 * s + 5 + fr + j))] σ v h (fun q hq => by rw [List.mem_singleton.mp hq]; exact hi)
    have hl := cw_le [(29 * (1 - s) + 5 + c + j, v0 (29 * s + 5 + fr + j))] σ
    have hfr : ∀ i, 29 * s ≤ i → i < 29 * s + 29 → (wrun [(29 * (1 - s) + 5 + c + j, v0 (29 * s + 5 + fr + j))] v σ.2.1 σ.2.2).2.1 i = v0 i := fun i a1 a2 => by
      rw [wrun_frame _ _ _ _ i (fun q hq => by rw [List.mem_singleton.mp hq]; dsimp only; omega)]
      exact hv0 i a1 a2
    have hA := ha.2.1
    generalize wrun [(29 * (1 - s) + 5 + c + j, v0 (29 * s + 5 + fr + j))] v σ.2.1 σ.2.2 = R1 at hfr hA
    generalize cw [(29 * (1 - s) + 5 + c + j, v0 (29 * s + 5 + fr + j))] σ = a at AE ew hl hA
    obtain ⟨N1, σ1⟩ := a
    rw [show [(29 * (1 - s) + 5 + c + j, v0 (29 * s + 5 + fr + j))].length = 1 from rfl] at hl
    dsimp only at AE ew hl hA
    rw [stay_e] at AE
    rw [cpN, ex, AE, cpF]
    by_cases k : N1 = 0
    · subst k
      rw [cw_0 ew rfl, if_pos (show nI 0 = 0 from rfl)]
      dsimp only
      rw [if_pos (show nI 0 = 0 from rfl), if_neg (show ¬ 0 = n + 1 by omega), if_neg (show ¬ 0 = n + 1 by omega)]
      rfl
    · have k1 : N1 = 1 := by omega
      subst k1
      rw [cw_1 ew (by decide), if_neg (show ¬ nI 1 = 0 by decide)]
      dsimp only
      rw [if_neg (show ¬ nI 1 = 0 by decide)]
      have IH := cpN_c (c := c) (fr := fr) hs n (j + 1) σ1 R1.2.1 (tC τ (c + j + 1)) hA hfr (by unfold tC; rw [Nat.add_assoc]) (by omega) (by omega)
      have et : (τ.1, τ.2.1, τ.2.2.1, τ.2.2.2.1, nI (c + j + 1), τ.2.2.2.2.2) = tC τ (c + j + 1) := rfl
      rw [et, IH]
      generalize cw (cpF v0 (29 * (1 - s) + 5 + c) (29 * s + 5 + fr) n (j + 1)) σ1 = Q
      have etc : ∀ m, tC (tC τ (c + j + 1)) m = tC τ m := fun m => rfl
      rw [etc, etc]
      by_cases q : Q.1 = n
      · rw [if_pos q, if_pos q, if_pos (by omega), if_pos (by omega), (show j + 1 + Q.1 = j + (Q.1 + 1) by omega), (show c + (j + 1) + n = c + j + (n + 1) by omega)]
      · rw [if_neg q, if_neg q, if_neg (by omega), if_neg (by omega), (show j + 1 + Q.1 = j + (Q.1 + 1) by omega), (show c + (j + 1) + Q.1 + 1 = c + j + (Q.1 + 1) + 1 by omega)]
/-- the law's rows -/
theorem cpP_PL {s c fr : Nat} (hw : AbsW ww rr v) (hs : s < 2) (hl : rd ll 0 = nI 0) : ∀ n, c + n ≤ 24 → fr + n ≤ 24 → n ≤ 14 → PL (cpP ww (nI (32 * (1 - s) + 5 + c)) (nI (32 * s + 5 + fr)) ll n) (cpF v (29 * (1 - s) + 5 + c) (29 * s + 5 + fr) n 0)
  | 0, _, _, _ => PL_nil hl
  | n + 1, h1, h2, h3 => by
    rw [cpF_snoc, cpP]
    have ex : rd ww (nI (32 * s + 5 + fr) + nI n) = nI (v (29 * s + 5 + fr + (0 + n))) := by
      rw [nI_add, (show 32 * s + 5 + fr + n = 32 * s + (5 + fr + n) by omega), rdn _ (by omega), hw.1 s (5 + fr + n) hs (by omega)]
      congr 1
      congr 1
      omega
    rw [ex]
    refine PL_plan (cpP_PL hw hs hl n (by omega) (by omega) (by omega)) (by rw [cpF_len]; omega) _ _ ?_ rfl
    rw [nI_add, (show 29 * (1 - s) + 5 + c + (0 + n) = 29 * (1 - s) + (5 + c + n) by omega), phi_w (by omega) (by omega), (show 32 * (1 - s) + 5 + c + n = 32 * (1 - s) + (5 + c + n) by omega)]
theorem wr_self (f : Nat → Int32) : wr f 3 (rd f 3 + 0) = f := by
  funext k
  rw [n3, wr_n _ (by omega), Int32.add_zero]
  by_cases c : k = 3
  · rw [if_pos c, c]; rfl
  · rw [if_neg c]
theorem copy_1 (S : Sim e v b σ τ δ run ww rr mm) (he : e ≤ 890) (hl : rd ll 0 = nI 0) (hz : zOk p1) (hp : p0 = 7) : ∃ σ' τ' run' l' w' r' m', F_L_updates σ ρ τ run ll ww rr mm p0 p1 = (1, σ', ρ, τ', run', l', w', r', m') ∧ Inv2 (e + 2) σ' τ' δ run' w' r' m' := by
  obtain ⟨h, hw, ⟨hg, hf⟩, hr, N, hro, ht, hd, hv⟩ := S
  have hc := N.c2
  obtain ⟨fr, hfr, efr⟩ := zr hz 6 (by decide) (by decide)
  obtain ⟨cq, hcq, ecq⟩ := zq hz 6 3 (by decide) (by decide) (by decide) (by decide)
  have ecn : (1 + (p1 / 6 - p1 / 6 / 3 * 3) : Int32) = nI (1 + cq) := by rw [show (6 : Int32) = nI 6 from rfl, n3, ecq, n1', nI_add]
  have efr' : (p1 - p1 / 6 * 6 : Int32) = nI fr := efr
  generalize hcn : 1 + cq = cn at ecn
  have hin1 : F_X5_requireWithin (nI fr) 0 23 = 0 := within_n (lo := 0) (hi := 23) (by omega) (by omega) (by decide)
  have hin2 : F_X5_requireWithin (nI cn) 1 24 = 0 := within_n (lo := 1) (hi := 24) (by omega) (by omega) (by decide)
  have hbase : Inv2 (e + 2) σ τ δ run ww rr mm := ⟨v, b, h, hw, ⟨hg, hf⟩, hr, N.mono (by omega), hro, ht.mono (by omega), hd, hv⟩
  have no : F_L_updates_j513 mm ww p1 = 0 → (F_L_copied σ τ run (nI fr) (nI cn)) = (if F_L_updates_j480 mm ww p1 = 0 then (-3) else (-2), σ, τ, run) → ∃ σ' τ' run' l' w' r' m', F_L_updates σ ρ τ run ll ww rr mm p0 p1 = (1, σ', ρ, τ', run', l', w', r', m') ∧ Inv2 (e + 2) σ' τ' δ run' w' r' m' := by
    intro c1 c2
    refine ⟨σ, τ, run, ll, ww, rr, mm, ?_, hbase⟩
    have e1 : F_L_updates_j585 mm ww p1 = 0 := by unfold F_L_updates_j585; exact if_pos c1
    have e2 : cpG ww (32 * (1 - rd mm 0) + 5 + rd mm 3) (32 * rd mm 0 + 5 + (p1 - p1 / 6 * 6)) ll (F_L_updates_j513 mm ww p1) (1 + (p1 / 6 - p1 / 6 / 3 * 3)) = ll := by unfold cpG; exact if_pos c1
    unfold F_L_updates
    rw [hp, if_pos (by decide), if_pos (by decide), if_pos rfl, e1, e2, wr_self]
    rw [efr', ecn]
    simp only [carry_0 hl, c2]
    unfold F_L_updates_j627
    rw [c1]
    by_cases k : F_L_updates_j480 mm ww p1 = 0
    · rw [if_pos k, if_pos k, if_pos rfl]
    · rw [if_neg k, if_neg k, if_pos rfl, if_pos rfl]
  -- the class, beyond the range of the running image
  have copyGo : (F_X5_isOn run = 0 ∨ nI fr + nI cn ≤ F_X3_slotWord σ run 2) → F_X5_copy σ τ run (nI fr) (nI cn) = if F_X5_requireToCome τ (nI cn) = 0 then (0, cpN run (nI fr) cn 0 σ τ run) else (F_X5_requireToCome τ (nI cn), 0, σ, τ, run) := by
    intro hh
    unfold F_X5_copy
    rw [if_pos hin1, if_pos hin2]
    have eg : F_X5_copyGo σ τ run (nI fr) (nI cn) = if F_X5_requireToCome τ (nI cn) = 0 then (0, cpN run (nI fr) cn 0 σ τ run) else (F_X5_requireToCome τ (nI cn), 0, σ, τ, run) := by
      unfold F_X5_copyGo
      rw [nI_clamp (by omega)]
    rw [eg]
    by_cases c : F_X5_isOn run = 0
    · rw [if_pos c]
    · rw [if_neg c, if_pos (hh.resolve_left c)]
  rcases hro.at N with h0 | ⟨s, hs, es, hgd, hsc⟩
  · -- off
    obtain ⟨tr1, tr2⟩ := ht.off h0
    have e480 : F_L_updates_j480 mm ww p1 = 1 := by unfold F_L_updates_j480; exact if_pos (j12_off hr h0)
    refine no ?_ ?_
    · unfold F_L_updates_j513
      rw [e480, if_neg (by decide), rd3, tr2]; rfl
    · have htc : F_X5_requireToCome τ (nI cn) = 2 := by
        unfold F_X5_requireToCome F_X4_bytesToCome
        rw [if_pos tr1, if_neg (fun z => nI_pos (n := cn) (by omega) (Int32.lt_of_le_of_lt z (by decide)))]
      unfold F_L_copied
      rw [copyGo (Or.inl (by unfold F_X5_isOn; exact if_pos h0)), htc, e480]; rfl
  · have hon : ¬ F_X5_isOn run = 0 := by
      unfold F_X5_isOn
      have hm : ¬ run = -1 := by rw [es]; exact nI_m1 (by omega)
      rw [if_neg hm]; decide
    have hlen : F_X3_slotWord σ run 2 = nI (v (29 * s + 2)) := by rw [es]; exact slotW_a (j := 2) h hs (by omega)
    have hl24 := hgd.2.2.1
    have e480 : F_L_updates_j480 mm ww p1 = if v (29 * s + 2) < fr + cn then 0 else 1 := by
      unfold F_L_updates_j480
      rw [if_neg (j12_on hr hs es), rd0, ← hr, es, show rd ww (32 * nI s + 2) = nI (v (29 * s + 2)) from lw (j := 2) hw hs (by omega), efr', ecn, nI_add]
      simp only [ltI (show v (29 * s + 2) < 2 ^ 31 by omega) (show fr + cn < 2 ^ 31 by omega)]
    by_cases fits : v (29 * s + 2) < fr + cn
    · rw [if_pos fits] at e480
      refine no (by unfold F_L_updates_j513; exact if_pos e480) ?_
      have e1 : F_X5_copy σ τ run (nI fr) (nI cn) = (1, 0, σ, τ, run) := by
        unfold F_X5_copy
        rw [if_pos hin1, if_pos hin2, if_neg hon, hlen, nI_add, if_neg (fun z => absurd ((nI_leI (by omega) (by omega)).mp z) (by omega))]
      unfold F_L_copied
      rw [e1, e480]; rfl
    · rw [if_neg fits] at e480
      have CG := copyGo (Or.inr (by rw [hlen, nI_add]; exact nI_le (by omega) (by omega)))
      have no2 : F_L_updates_j513 mm ww p1 = 0 → F_X5_requireToCome τ (nI cn) = 2 → ∃ σ' τ' run' l' w' r' m', F_L_updates σ ρ τ run ll ww rr mm p0 p1 = (1, σ', ρ, τ', run', l', w', r', m') ∧ Inv2 (e + 2) σ' τ' δ run' w' r' m' := fun c1 c2 => no c1 (by
        unfold F_L_copied
        rw [CG, c2, e480]; rfl)
      rcases ht with ⟨z, y⟩ | ⟨z, er, hnd, c, k, ve, hh, ct, ⟨q1, q2⟩, ⟨q3, q4⟩, q5, q6, q7, hck, hk1, hk4, hve, hhs, hctb, hve1, hmk⟩
      · refine no2 ?_ ?_
        · unfold F_L_updates_j513
          rw [e480, if_neg (by decide), rd3, y]; rfl
        · unfold F_X5_requireToCome F_X4_bytesToCome
          rw [if_pos z, if_neg (fun z => nI_pos (n := cn) (by omega) (Int32.lt_of_le_of_lt z (by decide)))]
      · have eb : F_X4_bytesToCome τ = nI (k - c) := by
          unfold F_X4_bytesToCome
          rw [z, if_neg (by decide), q1, q3, pk_sub hck]
        have e513 : F_L_updates_j513 mm ww p1 = if k - c < cn then 0 else 1 := by
          unfold F_L_updates_j513
          rw [e480, if_neg (by decide), rd3, q2, if_neg (nI_pos (by omega)), show rd mm 5 = mm 5 from rfl, q4, pk_sub hck, ecn]
          simp only [ltI (show k - c < 2 ^ 31 by omega) (show cn < 2 ^ 31 by omega)]
        by_cases kc : k - c < cn
        · refine no2 (by rw [e513, if_pos kc]) ?_
          unfold F_X5_requireToCome
          rw [eb, if_neg (fun y => absurd ((nI_leI (by omega) (by omega)).mp y) (by omega))]
        · rw [if_neg kc] at e513
          have htc : F_X5_requireToCome τ (nI cn) = 0 := by
            unfold F_X5_requireToCome
            rw [eb, if_pos (nI_le (by omega) (by omega))]
          have hss : s = cnf v b := (nI_eq (by omega) (by omega)).mp (es.symm.trans er)
          rw [htc, if_pos rfl, es, cpN_c (c := c) (fr := fr) (v0 := v) hs cn 0 σ v τ h (fun _ _ _ => rfl) (by rw [q1]; rfl) (by omega) (by omega), Nat.zero_add] at CG
          have hO : 32 * (1 - rd mm 0) + 5 + rd mm 3 = nI (32 * (1 - s) + 5 + c) := by
            rw [rd0, ← hr, es, n1', pk_sub (by omega), show (32 : Int32) = nI 32 from rfl, pk_mul, n5, nI_add, rd3, q2, nI_add]
          have hA : 32 * rd mm 0 + 5 + (p1 - p1 / 6 * 6) = nI (32 * s + 5 + fr) := by
            rw [rd0, ← hr, es, efr', show (32 : Int32) = nI 32 from rfl, pk_mul, n5, nI_add, nI_add]
          have hG : cpG ww (32 * (1 - rd mm 0) + 5 + rd mm 3) (32 * rd mm 0 + 5 + (p1 - p1 / 6 * 6)) ll (F_L_updates_j513 mm ww p1) (1 + (p1 / 6 - p1 / 6 / 3 * 3)) = cpP ww (nI (32 * (1 - s) + 5 + c)) (nI (32 * s + 5 + fr)) ll cn := by
            unfold cpG
            rw [e513, if_neg (by decide), hO, hA, ecn, nI_clamp (by omega)]
          have hPL := cpP_PL (ww := ww) (rr := rr) (c := c) (fr := fr) hw hs hl cn (by omega) (by omega) (by omega)
          have e585 : F_L_updates_j585 mm ww p1 = nI cn := by
            unfold F_L_updates_j585
            rw [e513, if_neg (by decide), ecn]
          have mq : ∀ i, i ≠ 3 → (wr mm 3 (rd mm 3 + nI cn)) i = mm i := fun i hi => wr_no mm 3 _ (by omega) hi
          have mq3 : (wr mm 3 (rd mm 3 + nI cn)) 3 = nI (c + cn) := by rw [n3, wr_at _ _ _ (by omega) rfl, show rd mm (nI 3) = mm 3 from rfl, q2, nI_add]
          have hmem := cpF_mem v (29 * (1 - s) + 5 + c) (29 * s + 5 + fr) cn 0
          obtain ⟨n, v2, σ2, w2, r2, m2, p1', p2', p3', p4', p5', p6', p7', p8'⟩ := sync (mm := wr mm 3 (rd mm 3 + nI cn)) h hw (hg.trans (mq 2 (by omega)).symm) (hf.trans (mq 1 (by omega)).symm) hPL (by rw [cpF_len]; omega) (fun q hq => by obtain ⟨i, i1, i2, i3⟩ := hmem q hq; rw [i3]; show 29 * (1 - s) + 5 + c + i < 66; omega)
          rw [cpF_len] at p1' p8'
          obtain ⟨N2, hv2, ⟨t1, t4⟩, tm, -⟩ := byte_keep N hv hss (fun q hq => by
            obtain ⟨i, i1, i2, i3⟩ := hmem q hq
            have hb := N.2.2 (29 * s + 5 + fr + i) (by omega)
            unfold bnd at hb
            rw [if_pos (by omega), if_neg (by omega), if_neg (by omega), if_neg (by omega), if_neg (by omega), if_neg (by omega)] at hb
            rw [i3]
            dsimp only
            omega) p4'
          rw [p2'] at CG
          dsimp only at CG
          have e1 : F_L_copied σ τ run (nI fr) (nI cn) = (nI n, σ2, if n = cn then tC τ (c + 0 + cn) else F_X4_end (tC τ (c + 0 + n + 1)), if n = cn then nI s else -1) := by
            unfold F_L_copied
            rw [es, CG]
            rw [if_pos rfl]
          refine ⟨σ2, if n = cn then tC τ (c + 0 + cn) else F_X4_end (tC τ (c + 0 + n + 1)), if n = cn then nI s else -1, cpP ww (nI (32 * (1 - s) + 5 + c)) (nI (32 * s + 5 + fr)) ll cn, w2, r2, m2, ?_, ?_⟩
          · unfold F_L_updates
            rw [hp, if_pos (by decide), if_pos (by decide), if_pos rfl, hG, e585, efr', ecn]
            simp only [p3', e1]
            rw [if_pos (show nI n = F_L_updates_j627 mm ww p1 (nI n) by
              unfold F_L_updates_j627
              rw [e480, e513, if_neg (show ¬ (1 : Int32) = 0 by decide), if_neg (show ¬ (1 : Int32) = 0 by decide)])]
          · refine ⟨v2, b, p5', p6', p7', ?_, N2, ?_, ?_, hd, hv2⟩
            · by_cases k1 : n = cn
              · rw [if_pos k1, p8'.1 k1 0 (by omega) (by omega), mq 0 (by omega), ← hr]; exact es.symm
              · rw [if_neg k1]; exact ((p8'.2 (by omega)).1).symm
            · by_cases k1 : n = cn
              · rw [if_pos k1]; exact Or.inr (Or.inl (by rw [t4, hss]))
              · rw [if_neg k1]; exact Or.inl rfl
            · by_cases k1 : n = cn
              · rw [if_pos k1, if_pos k1]
                have mm' : ∀ i, 3 ≤ i → m2 i = (wr mm 3 (rd mm 3 + nI cn)) i := fun i hi => p8'.1 k1 i (by omega) (by omega)
                refine Or.inr ⟨z, by rw [t4, hss], by unfold dueR; rw [t1]; exact hnd, c + cn, k, ve, hh, ct, ⟨rfl, (mm' 3 (by omega)).trans mq3⟩, ⟨q3, (mm' 5 (by omega)).trans ((mq 5 (by omega)).trans q4)⟩, ⟨q5.1, (mm' 4 (by omega)).trans ((mq 4 (by omega)).trans q5.2)⟩, ⟨q6.1, (mm' 6 (by omega)).trans ((mq 6 (by omega)).trans q6.2)⟩, ⟨q7.1, (mm' 7 (by omega)).trans ((mq 7 (by omega)).trans q7.2)⟩, by omega, hk1, hk4, by omega, hhs, by omega, hve1, by rw [t4, ← hss, tm, hss]; exact hmk⟩
              · rw [if_neg k1, if_neg k1]
                exact Or.inl ⟨rfl, (p8'.2 (by omega)).2.1⟩
end CPY
