/-! THE ACT OF A BYTE -/
section PUT
variable {σ ρ : FS} {τ : TS} {δ : DS} {run : Int32} {ww rr mm ll : Nat → Int32} {v : Nat → Nat} {e b : Nat} {p0 p1 : Int32}
/-- a write of one byte of the other slot keeps what holds -/
theorem byte_keep {s : Nat} (N : NI e v b) (hv : VI v) (hs : s = cnf v b) {L : List (Nat × Nat)} {g w : Int32} {n : Nat} {v2 : Nat → Nat} {g2 w2 : Int32} (hL : ∀ q ∈ L, 29 * (1 - s) + 5 ≤ q.1 ∧ q.1 < 29 * (1 - s) + 29 ∧ q.2 ≤ 255) (hr : wrun L v g w = (n, v2, g2, w2)) : NI (e + 2) v2 b ∧ VI v2 ∧ (sttR v2 b = sttR v b ∧ cnf v2 b = cnf v b) ∧ v2 (29 * (1 - s)) = v (29 * (1 - s)) ∧ ∀ i, 29 * s ≤ i → i < 29 * s + 29 → v2 i = v i := by
  have hc := N.c2
  have NS := NI.slot (L := L) (g := g) (w := w) N (fun q hq => by have := hL q hq; rw [← hs]; omega) (fun q hq => by
    have := hL q hq
    unfold bnd
    rw [if_pos (by omega), if_neg (by omega), if_neg (by omega), if_neg (by omega), if_neg (by omega), if_neg (by omega)]
    omega)
  have fr : ∀ i, (∀ q ∈ L, q.1 ≠ i) → v2 i = v i := fun i hi => by
    have z := wrun_frame L v g w i hi
    rw [hr] at z; exact z
  rw [hr] at NS
  obtain ⟨N2, f1, f2⟩ := NS
  obtain ⟨t1, t2, t3, t4⟩ := NI.same (b := b) f1
  refine ⟨N2.mono (by omega), fun s2 hs2 hm => ?_, ⟨t1, t4⟩, fr _ (fun q hq => by have := hL q hq; omega), fun i h1 h2 => fr i (fun q hq => by have := hL q hq; omega)⟩
  rw [fr _ (fun q hq => by have := hL q hq; omega)] at hm ⊢
  exact hv s2 hs2 hm
theorem app_e {c s x : Nat} (h : AbsS σ v) (hs : s < 2) (hc : c < 24) (er : run = nI s) (ec : τ.2.2.2.2.1 = nI c) : F_X5_append σ τ run (nI x) = ((F_X5_stayOn (τ.1, τ.2.1, τ.2.2.1, τ.2.2.2.1, nI (c + 1), τ.2.2.2.2.2) run (nI (cw [(29 * (1 - s) + 5 + c, x)] σ).1)).1, (cw [(29 * (1 - s) + 5 + c, x)] σ).2, (F_X5_stayOn (τ.1, τ.2.1, τ.2.2.1, τ.2.2.2.1, nI (c + 1), τ.2.2.2.2.2) run (nI (cw [(29 * (1 - s) + 5 + c, x)] σ).1)).2) := by
  have hw : F_X3_writeImageWord σ (F_X5_idleSlot run) (nI c) (nI x) = (nI (cw [(29 * (1 - s) + 5 + c, x)] σ).1, (cw [(29 * (1 - s) + 5 + c, x)] σ).2) := by
    unfold F_X5_idleSlot
    rw [er, n1', pk_sub (by omega), wImage, write_cw h (by omega)]
  unfold F_X5_append F_X4_nextPlace
  dsimp only
  rw [ec, hw, nI_1]
theorem j342_n (S : Sim e v b σ τ δ run ww rr mm) (hz : zOk p1) : ∃ x, x ≤ 255 ∧ F_L_updates_j342 p1 mm = nI x := by
  obtain ⟨h, hw, ⟨hg, hf⟩, hr, N, hro, ht, hd, hv⟩ := S
  unfold F_L_updates_j342
  split
  · obtain ⟨r, hr, er⟩ := zr hz 256 (by decide) (by decide)
    exact ⟨r, by omega, er⟩
  · split
    · exact ⟨0, by decide, rfl⟩
    · rename_i c
      rcases ht with ⟨z, y⟩ | ⟨z, -, -, c0, k, ve, hs, ct, ⟨q1, q2⟩, -, -, -, -, hck, -, hk4, -⟩
      · exact absurd (by unfold F_L_updates_j308; rw [rd3, y]; rfl) c
      · exact ⟨c0 + 3, by omega, by rw [rd3, q2, n3, nI_add]⟩
theorem put_1 (S : Sim e v b σ τ δ run ww rr mm) (he : e ≤ 890) (hl : rd ll 0 = nI 0) (hz : zOk p1) (hp : 3 ≤ p0) (hp2 : ¬ 7 ≤ p0) : ∃ σ' τ' run' l' w' r' m', F_L_updates σ ρ τ run ll ww rr mm p0 p1 = (1, σ', ρ, τ', run', l', w', r', m') ∧ Inv2 (e + 2) σ' τ' δ run' w' r' m' := by
  obtain ⟨x, hx, ex⟩ := j342_n S hz
  obtain ⟨h, hw, ⟨hg, hf⟩, hr, N, hro, ht, hd, hv⟩ := S
  have hc := N.c2
  have hin : F_X5_requireWithin (nI x) 0 255 = 0 := within_n (lo := 0) (hi := 255) (by omega) hx (by decide)
  have hbase : Inv2 (e + 2) σ τ δ run ww rr mm := ⟨v, b, h, hw, ⟨hg, hf⟩, hr, N.mono (by omega), hro, ht.mono (by omega), hd, hv⟩
  have no : F_L_updates_j308 mm = 0 → F_X5_requireToCome τ 1 = 2 → ∃ σ' τ' run' l' w' r' m', F_L_updates σ ρ τ run ll ww rr mm p0 p1 = (1, σ', ρ, τ', run', l', w', r', m') ∧ Inv2 (e + 2) σ' τ' δ run' w' r' m' := by
    intro c1 c2
    refine ⟨σ, τ, run, ll, ww, rr, mm, ?_, hbase⟩
    have e1 : F_L_put σ τ run (nI x) = (-2, σ, τ, run) := by
      have e2 : F_X5_put σ τ run (nI x) = (2, 0, σ, τ, run) := by
        unfold F_X5_put
        rw [if_pos hin, c2, if_neg (by decide)]
      unfold F_L_put
      rw [e2]; rfl
    unfold F_L_updates
    rw [if_pos hp, if_neg hp2, if_pos c1, carry_0 hl, ex, e1]
    dsimp only
    rw [if_pos (show (-2 : Int32) = F_L_updates_j417 from rfl)]
  rcases ht with ⟨z, y⟩ | ⟨z, er, hnd, c, k, ve, hs, ct, ⟨q1, q2⟩, ⟨q3, q4⟩, q5, q6, q7, hck, hk1, hk4, hve, hhs, hctb, hve1, hmk⟩
  · refine no ?_ ?_
    · unfold F_L_updates_j308; rw [rd3, y]; rfl
    · unfold F_X5_requireToCome F_X4_bytesToCome; rw [if_pos z]; rfl
  · have ej : F_L_updates_j308 mm = if k ≤ c then 0 else 1 := by
      unfold F_L_updates_j308
      rw [rd3, q2, show rd mm 5 = mm 5 from rfl, q4, if_neg (nI_pos (by omega))]
      simp only [leI (show k < 2 ^ 31 by omega) (show c < 2 ^ 31 by omega)]
    have eb : F_X4_bytesToCome τ = nI (k - c) := by
      unfold F_X4_bytesToCome
      rw [z, if_neg (by decide), q1, q3, pk_sub hck]
    by_cases kc : k ≤ c
    · refine no (by rw [ej, if_pos kc]) ?_
      unfold F_X5_requireToCome
      rw [eb, if_neg (show ¬ (1 : Int32) ≤ nI (k - c) from fun y => absurd ((nI_leI (a := 1) (b := k - c) (by omega) (by omega)).mp y) (by omega))]
    · have hcn : ¬ F_L_updates_j308 mm = 0 := by rw [ej, if_neg kc]; decide
      have htc : F_X5_requireToCome τ 1 = 0 := by
        unfold F_X5_requireToCome
        rw [eb, if_pos (show (1 : Int32) ≤ nI (k - c) from nI_le (a := 1) (by omega) (by omega))]
      generalize hsd : cnf v b = s at er hc hmk
      have AE := app_e (τ := τ) (x := x) h hc (by omega) er q1
      have hother : 32 * (1 - rd mm 0) + 5 + rd mm 3 = nI (phi (29 * (1 - s) + 5 + c)) := by
        rw [rd0, ← hr, er, n1', pk_sub (by omega), show (32 : Int32) = nI 32 from rfl, pk_mul, n5, nI_add, rd3, q2, nI_add, (show 29 * (1 - s) + 5 + c = 29 * (1 - s) + (5 + c) by omega), phi_w (by omega) (by omega), Nat.add_assoc]
      have hPL := PL_plan (PL_nil hl) (by decide) (29 * (1 - s) + 5 + c) x hother rfl
      rw [List.nil_append] at hPL
      have mq : ∀ i, i ≠ 3 → (wr mm 3 (rd mm 3 + 1)) i = mm i := fun i hi => wr_no mm 3 _ (by omega) hi
      have mq3 : (wr mm 3 (rd mm 3 + 1)) 3 = nI (c + 1) := by rw [n3, wr_at _ _ _ (by omega) rfl, show rd mm (nI 3) = mm 3 from rfl, q2, nI_1]
      obtain ⟨n, v2, σ2, w2, r2, m2, p1', p2', p3', p4', p5', p6', p7', p8'⟩ := sync (mm := wr mm 3 (rd mm 3 + 1)) h hw (hg.trans (mq 2 (by omega)).symm) (hf.trans (mq 1 (by omega)).symm) hPL (show 1 ≤ 15 by decide) (fun q hq => by rw [List.mem_singleton.mp hq]; show 29 * (1 - s) + 5 + c < 66; omega)
      have hlen : [(29 * (1 - s) + 5 + c, x)].length = 1 := rfl
      rw [hlen] at p1' p8'
      obtain ⟨N2, hv2, ⟨t1, t4⟩, tm, -⟩ := byte_keep N hv hsd.symm (fun q hq => by rw [List.mem_singleton.mp hq]; dsimp only; omega) p4'
      rw [p2', stay_e] at AE
      have e1 : F_L_put σ τ run (nI x) = if n = 1 then (1, σ2, (τ.1, τ.2.1, τ.2.2.1, τ.2.2.2.1, nI (c + 1), τ.2.2.2.2.2), run) else (0, σ2, F_X4_end (τ.1, τ.2.1, τ.2.2.1, τ.2.2.2.1, nI (c + 1), τ.2.2.2.2.2), -1) := by
        have e2 : F_X5_put σ τ run (nI x) = (0, F_X5_append σ τ run (nI x)) := by
          unfold F_X5_put
          rw [if_pos hin, htc, if_pos rfl]
        unfold F_L_put
        rw [e2, AE]
        dsimp only
        rw [if_pos rfl]
        by_cases k1 : n = 1
        · rw [if_pos k1, k1]
          simp only [if_neg (show ¬ nI 1 = 0 by decide)]
        · have k0 : n = 0 := by omega
          rw [if_neg k1, k0]
          simp only [if_pos (show nI 0 = 0 by decide)]
      refine ⟨σ2, (if n = 1 then (τ.1, τ.2.1, τ.2.2.1, τ.2.2.2.1, nI (c + 1), τ.2.2.2.2.2) else F_X4_end (τ.1, τ.2.1, τ.2.2.1, τ.2.2.2.1, nI (c + 1), τ.2.2.2.2.2)), (if n = 1 then run else -1), F_L_plan ll (32 * (1 - rd mm 0) + 5 + rd mm 3) (nI x), w2, r2, m2, ?_, ?_⟩
      · unfold F_L_updates
        rw [if_pos hp, if_neg hp2, if_neg hcn, ex]
        simp only [p3', e1]
        by_cases k1 : n = 1
        · simp only [if_pos k1]
          rw [if_pos (by rw [k1]; decide)]
        · have k0 : n = 0 := by omega
          simp only [if_neg k1]
          rw [if_pos (by rw [k0]; decide)]
      · refine ⟨v2, b, p5', p6', p7', ?_, N2, ?_, ?_, hd, hv2⟩
        · by_cases k1 : n = 1
          · rw [if_pos k1, p8'.1 k1 0 (by omega) (by omega), mq 0 (by omega)]; exact hr
          · rw [if_neg k1]; exact ((p8'.2 (by omega)).1).symm
        · by_cases k1 : n = 1
          · rw [if_pos k1]; exact Or.inr (Or.inl (by rw [t4, hsd]; exact er))
          · rw [if_neg k1]; exact Or.inl rfl
        · by_cases k1 : n = 1
          · rw [if_pos k1, if_pos k1]
            have mm' : ∀ i, 3 ≤ i → m2 i = (wr mm 3 (rd mm 3 + 1)) i := fun i hi => p8'.1 k1 i (by omega) (by omega)
            refine Or.inr ⟨z, by rw [t4, hsd]; exact er, by unfold dueR; rw [t1]; exact hnd, c + 1, k, ve, hs, ct, ⟨rfl, (mm' 3 (by omega)).trans mq3⟩, ⟨q3, (mm' 5 (by omega)).trans ((mq 5 (by omega)).trans q4)⟩, ⟨q5.1, (mm' 4 (by omega)).trans ((mq 4 (by omega)).trans q5.2)⟩, ⟨q6.1, (mm' 6 (by omega)).trans ((mq 6 (by omega)).trans q6.2)⟩, ⟨q7.1, (mm' 7 (by omega)).trans ((mq 7 (by omega)).trans q7.2)⟩, by omega, hk1, hk4, by omega, hhs, by omega, hve1, by rw [t4, hsd, tm]; exact hmk⟩
          · rw [if_neg k1, if_neg k1]
            exact Or.inl ⟨rfl, (p8'.2 (by omega)).2.1⟩
end PUT
