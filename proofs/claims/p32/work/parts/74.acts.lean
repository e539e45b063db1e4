/-! ALL ACTS; the beginning -/
section ACT
variable {σ ρ : FS} {τ : TS} {δ : DS} {run : Int32} {ww rr mm ll : Nat → Int32} {e : Nat} {p0 p1 : Int32}
theorem upd_act (I : Inv2 e σ τ δ run ww rr mm) (he : e ≤ 890) (hl : rd ll 0 = nI 0) (hz : zOk p1) (ρ : FS) (p0 : Int32) : ∃ σ' ρ' τ' run' l' w' r' m', F_L_updates σ ρ τ run ll ww rr mm p0 p1 = (1, σ', ρ', τ', run', l', w', r', m') ∧ Inv2 (e + 2) σ' τ' δ run' w' r' m' := by
  obtain ⟨v, b, S⟩ := I
  by_cases h3 : 3 ≤ p0
  · by_cases h7 : 7 ≤ p0
    · by_cases c7 : p0 = 7
      · obtain ⟨σ', τ', run', l', w', r', m', q1, q2⟩ := copy_1 (ρ := ρ) S he hl hz c7
        exact ⟨σ', ρ, τ', run', l', w', r', m', q1, q2⟩
      · by_cases c8 : p0 = 8
        · obtain ⟨σ', τ', run', l', w', r', m', q1, q2⟩ := confirm_1 (ρ := ρ) (p1 := p1) S he hl c8
          exact ⟨σ', ρ, τ', run', l', w', r', m', q1, q2⟩
        · exact finish_1 S he hl hz h7 c7 c8
    · obtain ⟨σ', τ', run', l', w', r', m', q1, q2⟩ := put_1 (ρ := ρ) S he hl hz h3 h7
      exact ⟨σ', ρ, τ', run', l', w', r', m', q1, q2⟩
  · obtain ⟨-, σ', τ', run', l', w', r', m', q1, q2⟩ := offer_1 (ρ := ρ) S he hl hz h3
    exact ⟨σ', ρ, τ', run', l', w', r', m', q1, q2⟩
theorem ison_act (I : Inv2 e σ τ δ run ww rr mm) (he : e ≤ 890) (hl : rd ll 0 = nI 0) : ∃ σ' τ' run' l' w' r' m', F_L_isOn σ τ run ll ww rr mm = (1, σ', τ', run', l', w', r', m') ∧ Inv2 (e + 2) σ' τ' δ run' w' r' m' := by
  obtain ⟨v, b, S⟩ := I
  exact isOn_1 S he hl
theorem told_act (I : Inv2 e σ τ δ run ww rr mm) (he : e ≤ 900) : F_L_isTold σ τ run ww rr mm = 1 := by
  obtain ⟨v, b, S⟩ := I
  exact told_1 S he
theorem Inv2.mono {f : Nat} (I : Inv2 e σ τ δ run ww rr mm) (h : e ≤ f) : Inv2 f σ τ δ run ww rr mm := by
  obtain ⟨v, b, h1, h2, h3, h4, h5, h6, h7, h8⟩ := I
  exact ⟨v, b, h1, h2, h3, h4, h5.mono h, h6, h7.mono h, h8⟩
theorem Inv2.hrun (I : Inv2 e σ τ δ run ww rr mm) : run = rd mm 0 := by
  obtain ⟨v, b, -, -, -, h, -⟩ := I
  exact h
theorem Inv2.hm (I : Inv2 e σ τ δ run ww rr mm) : run = -1 ∨ sl run := by
  obtain ⟨v, b, -, -, -, -, N, h, -⟩ := I
  rcases h.at N with z | ⟨s, hs, z, -⟩
  · exact Or.inl z
  · exact Or.inr (by rw [z]; exact sl_n rfl hs)
theorem Inv2.hm0 (I : Inv2 e σ τ δ run ww rr mm) : rd mm 0 = -1 ∨ sl (rd mm 0) := by
  have h := I.hm
  rw [I.hrun] at h; exact h
theorem Inv2.hm3 (I : Inv2 e σ τ δ run ww rr mm) : mOk mm := by
  have h0 := I.hrun
  obtain ⟨v, b, -, -, -, -, N, -, h, -⟩ := I
  rcases h with ⟨-, z⟩ | ⟨-, z, -, c, k, -, -, -, ⟨-, q2⟩, ⟨-, q4⟩, -, -, -, h1, -, h2, -⟩
  · exact Or.inl z
  · exact Or.inr ⟨by rw [← h0, z]; exact sl_n rfl N.c2, c, k, q2, q4, h1, h2⟩
theorem Inv2.hno (I : Inv2 e σ τ δ run ww rr mm) (he : e ≤ 890) (hz : zOk p1) : NTo σ τ run ww rr mm p1 := by
  obtain ⟨v, b, S⟩ := I
  exact (offer_1 (ρ := σ) (ll := fun _ => 0) (p0 := 0) S he rfl hz (by decide)).1
theorem Inv2.hnp (I : Inv2 e σ τ δ run ww rr mm) (hz : zOk p1) : NTp σ τ run mm p1 := by
  obtain ⟨v, b, S⟩ := I
  obtain ⟨x, hx, ex⟩ := j342_n S hz
  unfold NTp F_X5_put
  rw [ex, if_pos (show F_X5_requireWithin (nI x) 0 255 = 0 from within_n (lo := 0) (hi := 255) (by omega) hx (by decide))]
  by_cases c : F_X5_requireToCome τ 1 = 0
  · rw [if_pos c]; exact n01
  · rw [if_neg c]
    show ¬ F_X5_requireToCome τ 1 = 1
    unfold F_X5_requireToCome
    split <;> decide
/-- the slot that a delta is made against -/
theorem Inv2.slot (I : Inv2 e σ τ δ run ww rr mm) (he : e ≤ 890) (hz : zOk p1) : F_L_isGood ww (p1 - p1 / 2 * 2) = 0 → ∃ s, s < 2 ∧ (rd rr (4 * F_L_best rr + 2) &&& 1) = nI s ∧ F_X3_canStart σ (nI s) = 1 ∧ lenOk ww (nI s) ∧ byOk ww (nI s) ∧ ∀ z : Int32, zOk z → ∃ δ', F_L_isDelta σ δ ww (nI s) z = (1, δ') ∧ Inv2 e σ τ δ' run ww rr mm := by
  obtain ⟨v, b, S⟩ := I
  have S0 := S
  obtain ⟨h, hw, -, -, N, -⟩ := S
  intro _
  refine ⟨cnf v b, N.c2, by rw [lst_n hw N (by omega), st_and1 _ (by have := N.st; omega)]; rfl, by rw [canStart_a h (N.small (by omega)) N.c2, if_pos N.2.1], lenOk_n hw N.c2 N.2.1, byOk_n hw N N.c2, fun z hz2 => ?_⟩
  obtain ⟨δ', q1, q2⟩ := delta_1 S0 he N.c2 N.2.1 hz2
  exact ⟨δ', q1, v, b, q2⟩
theorem Inv2.slot2 (I : Inv2 e σ τ δ run ww rr mm) (he : e ≤ 890) (hz : zOk p1) : ¬ F_L_isGood ww (p1 - p1 / 2 * 2) = 0 → ∃ s, s < 2 ∧ (p1 - p1 / 2 * 2) = nI s ∧ F_X3_canStart σ (nI s) = 1 ∧ lenOk ww (nI s) ∧ byOk ww (nI s) ∧ ∀ z : Int32, zOk z → ∃ δ', F_L_isDelta σ δ ww (nI s) z = (1, δ') ∧ Inv2 e σ τ δ' run ww rr mm := by
  obtain ⟨v, b, S⟩ := I
  have S0 := S
  obtain ⟨h, hw, -, -, N, -⟩ := S
  intro hn
  obtain ⟨s, hs, es⟩ := zr hz 2 (by decide) (by decide)
  have es' : (p1 - p1 / 2 * 2 : Int32) = nI s := es
  have hg : good v s := by
    rw [es', lgood_a hw (N.small (by omega)) hs] at hn
    by_cases c : good v s
    · exact c
    · rw [if_neg c] at hn; exact absurd rfl hn
  refine ⟨s, hs, es', by rw [canStart_a h (N.small (by omega)) hs, if_pos hg], lenOk_n hw hs hg, byOk_n hw N hs, fun z hz2 => ?_⟩
  obtain ⟨δ', q1, q2⟩ := delta_1 S0 he hs hg hz2
  exact ⟨δ', q1, v, b, q2⟩
theorem half_ok (hz : zOk p1) : zOk (p1 / 2) := by
  obtain ⟨q, rfl, hq⟩ := hz
  exact ⟨q / 2, by rw [n2, pk_div (by omega) (by decide) (by decide)], by omega⟩
theorem par_sl (hz : zOk p1) : sl (p1 - p1 / 2 * 2) := by
  obtain ⟨s, hs, es⟩ := zr hz 2 (by decide) (by decide)
  have es' : (p1 - p1 / 2 * 2 : Int32) = nI s := es
  rw [es']; exact sl_n rfl hs
/-- power is to fail -/
theorem fa_0 {x : Int32} (hx : x = -1 ∨ ∃ n, n < 14 ∧ x = nI n) : F_X5_failAfter σ x = (0, σ.1, σ.2.1, x) := by
  have h : F_X5_requireWithin x (-1) 1000 = 0 := by
    rcases hx with rfl | ⟨n, hn, rfl⟩
    · decide
    · unfold F_X5_requireWithin
      rw [if_neg (fun z => nI_pos (n := n) (by omega) (Int32.lt_trans z (by decide))), if_pos (show nI n ≤ 1000 from nI_le (b := 1000) (by omega) (by omega))]
  unfold F_X5_failAfter
  rw [if_pos h]; rfl
theorem fail_act {x : Int32} {a : Int32} (I : Inv2 e σ τ δ run ww rr mm) : Inv2 e (σ.1, σ.2.1, x) τ δ run ww rr (wr mm 1 x) := by
  obtain ⟨v, b, h1, h2, h3, h4, h5, h6, h7, h8⟩ := I
  have mk : ∀ k, k ≠ 1 → wr mm 1 x k = mm k := fun k hk => wr_no mm 1 x (by omega) hk
  refine ⟨v, b, h1, h2, ⟨h3.1.trans (mk 2 (by omega)).symm, (wr_at mm 1 x (by omega) rfl).symm⟩, h4.trans (mk 0 (by omega)).symm, h5, h6, ?_, h8⟩
  rcases h7 with ⟨z, y⟩ | ⟨z, r1, r2, c, k, ve, hs, ct, q1, q2, q3, q4, q5, r⟩
  · exact Or.inl ⟨z, (mk 3 (by omega)).trans y⟩
  · exact Or.inr ⟨z, r1, r2, c, k, ve, hs, ct, ⟨q1.1, (mk 3 (by omega)).trans q1.2⟩, ⟨q2.1, (mk 5 (by omega)).trans q2.2⟩, ⟨q3.1, (mk 4 (by omega)).trans q3.2⟩, ⟨q4.1, (mk 6 (by omega)).trans q4.2⟩, ⟨q5.1, (mk 7 (by omega)).trans q5.2⟩, r⟩
end ACT
/-- the law's image at the beginning, n bytes of it -/
def iwN : Nat → Nat → Int32
  | 0 => fun _ => 0
  | n + 1 => wr (iwN n) (5 + nI n) (nI n + 1)
def iw3 : Nat → Int32 := wr (wr (wr (iwN 8) 0 1) 1 1) 2 8
def iw : Nat → Int32 := wr iw3 3 (F_L_hash iw3 0 8)
def ir1 : Nat → Int32 := wr (fun _ => 0) 1 1
def ir : Nat → Int32 := wr ir1 0 (F_L_check 1 0 0)
def im : Nat → Int32 := wr (wr (wr (fun _ => 0) 0 (-1)) 1 (-1)) 3 (-1)
def iv (k : Nat) : Nat := (F_X3_init.1 k).toNatClampNeg
theorem iv_s : ∀ k, k < 66 → F_X3_init.1 k = nI (iv k) := by decide +kernel
theorem iv_b : ∀ k, k < 66 → iv k ≤ bnd 0 k := by decide +kernel
theorem iv_w0 : ∀ j, j < 29 → iw j = nI (iv j) := by decide +kernel
theorem iv_w1 : ∀ j, j < 29 → iw (32 + j) = nI (iv (29 + j)) := by decide +kernel
theorem iv_r : ∀ k, k < 8 → ir k = nI (iv (58 + k)) := by decide +kernel
theorem iv_ri : RI iv 0 := ⟨by decide, by decide +kernel, Or.inl (by decide +kernel)⟩
theorem iv_g : good iv (cnf iv 0) := by decide +kernel
theorem iv_vi : VI iv := by
  intro s hs hm
  have : s = 0 ∨ s = 1 := by omega
  rcases this with rfl | rfl
  · decide +kernel
  · exact absurd hm (by decide +kernel)
theorem init_act : Inv2 0 F_X3_init F_X4_init F_X1_init (-1) iw ir im := by
  refine ⟨iv, 0, iv_s, ⟨fun s j hs hj => ?_, iv_r⟩, ⟨by decide +kernel, by decide +kernel⟩, by decide +kernel, ⟨iv_ri, iv_g, iv_b⟩, Or.inl rfl, Or.inl ⟨rfl, by decide +kernel⟩, ⟨0, rfl, by omega⟩, iv_vi⟩
  have : s = 0 ∨ s = 1 := by omega
  rcases this with rfl | rfl
  · show iw (32 * 0 + j) = nI (iv (29 * 0 + j))
    have e1 : 32 * 0 + j = j := by omega
    have e2 : 29 * 0 + j = j := by omega
    rw [e1]; exact iv_w0 j hj
  · exact iv_w1 j hj
