section LAWL
variable {σ ρ : FS} {τ : TS} {δ : DS} {run : Int32} {ov ov1 : Nat → Int64}
theorem switchOn_t (h : ¬ (F_X5_switchOn σ run).1 = 0) : (F_X5_switchOn σ run).2.2 = (σ, run) := by
  unfold F_X5_switchOn at h ⊢
  by_cases c : F_X5_isOn run = 0
  · rw [if_pos c] at h
    exact absurd rfl h
  · rw [if_neg c]
theorem switchOff_t (h : ¬ (F_X5_switchOff τ run).1 = 0) : (F_X5_switchOff τ run).2.2 = (τ, run) := by
  unfold F_X5_switchOff at h ⊢
  by_cases c : F_X5_requireOn run = 0
  · rw [if_pos c] at h
    exact absurd rfl h
  · rw [if_neg c]
theorem switchOff_w : kp4 τ (F_X5_switchOff τ run).2.2.1 := by
  unfold F_X5_switchOff F_X5_losePower F_X4_end
  split <;> exact ⟨rfl, rfl, rfl, rfl⟩
theorem failAfter_t {p : Int32} (h : ¬ (F_X5_failAfter σ p).1 = 0) : (F_X5_failAfter σ p).2 = σ := by
  unfold F_X5_failAfter at h ⊢
  by_cases c : F_X5_requireWithin p (-1) 1000 = 0
  · rw [if_pos c] at h
    exact absurd rfl h
  · rw [if_neg c]
theorem offer_t {p0 p1 p2 p3 : Int32} : ¬ (F_X5_offer σ τ run p0 p1 p2 p3).1 = 0 → (F_X5_offer σ τ run p0 p1 p2 p3).2.2 = (σ, τ, run) := by
  unfold F_X5_offer
  simp only [stay_s]
  repeat' split
  all_goals first | exact fun _ => rfl | exact fun z => absurd rfl z | exact fun z => absurd trivial z
theorem law_switchOn {σ1 : FS} {run1 : Int32} {fl : Nat → Int32} {on : Int32} {rn : Int32} {lf : Int32} {wt : Int32} {cm : Int32} {k la r : Int32} (I : Inv σ τ δ run) (h1 : (k, σ1, run1, ov1) = F_L_switchOn σ run ov) (h2 : (r, fl, on, rn, lf, wt, cm, la) = F_X6_switchOn σ.1 (mOn run) run σ.2.2 σ.2.1 (mCm τ)) : la = k ∧ (k = 0 → ov1 0 = r.toInt64) ∧ fl = σ1.1 ∧ on = mOn run1 ∧ rn = run1 ∧ lf = σ1.2.2 ∧ wt = σ1.2.1 ∧ cm = mCm τ ∧ Inv σ1 τ δ run1 := by
  have i := switchOn_i I
  have t := switchOn_t (σ := σ) (run := run)
  rw [switchOn_s I] at h2
  unfold F_L_switchOn at h1
  generalize F_X5_switchOn σ run = x at h1 h2 i t
  obtain ⟨c, a, x0, x1⟩ := x
  dsimp only at h1 h2 i t
  by_cases z : c = 0
  · rw [if_pos z] at h1 h2
    cases h1; cases h2
    exact ⟨rfl, fun _ => rfl, rfl, rfl, rfl, rfl, rfl, rfl, i⟩
  · rw [if_neg z] at h1 h2
    cases t z
    cases h1; cases h2
    exact ⟨rfl, fun z => absurd z (by decide), rfl, rfl, rfl, rfl, rfl, rfl, I⟩
theorem law_switchOff {τ1 : TS} {run1 : Int32} {on : Int32} {rn : Int32} {cm : Int32} {k la r : Int32} (I : Inv σ τ δ run) (h1 : (k, τ1, run1, ov1) = F_L_switchOff τ run ov) (h2 : (r, on, rn, cm, la) = F_X6_switchOff (mOn run) run (mCm τ)) : la = k ∧ (k = 0 → ov1 0 = r.toInt64) ∧ on = mOn run1 ∧ rn = run1 ∧ cm = mCm τ1 ∧ Inv σ τ1 δ run1 := by
  have i := switchOff_i I
  have t := switchOff_t (τ := τ) (run := run)
  have w := switchOff_w (τ := τ) (run := run)
  rw [switchOff_s I] at h2
  unfold F_L_switchOff at h1
  generalize F_X5_switchOff τ run = x at h1 h2 i t
  obtain ⟨c, a, x0, x1⟩ := x
  dsimp only at h1 h2 i t
  by_cases z : c = 0
  · rw [if_pos z] at h1 h2
    cases h1; cases h2
    exact ⟨rfl, fun _ => rfl, rfl, rfl, rfl, i⟩
  · rw [if_neg z] at h1 h2
    cases t z
    cases h1; cases h2
    exact ⟨rfl, fun z => absurd z (by decide), rfl, rfl, rfl, I⟩
theorem law_switchOff_k {τ1 : TS} {run1 : Int32} {k : Int32} (I : Inv σ τ δ run) (h1 : (k, τ1, run1, ov1) = F_L_switchOff τ run ov) : τ.1 = τ1.1 ∧ τ.2.1 = τ1.2.1 ∧ τ.2.2.1 = τ1.2.2.1 ∧ τ.2.2.2.1 = τ1.2.2.2.1 := by
  have i := switchOff_i I
  have t := switchOff_t (τ := τ) (run := run)
  have w := switchOff_w (τ := τ) (run := run)
  unfold F_L_switchOff at h1
  generalize F_X5_switchOff τ run = x at h1 i t w
  obtain ⟨c, a, x0, x1⟩ := x
  dsimp only at h1 i t w
  by_cases z : c = 0
  · rw [if_pos z] at h1
    cases h1; exact w
  · rw [if_neg z] at h1
    cases t z
    cases h1; exact w
theorem law_failAfter {σ1 : FS} {lf : Int32} {k la : Int32} {p0 : Int32} (I : Inv σ τ δ run) (h1 : (k, σ1) = F_L_failAfter σ p0) (h2 : (lf, la) = F_X6_failAfter σ.2.2 p0) : la = k ∧ lf = σ1.2.2 ∧ Inv σ1 τ δ run := by
  have i := (failAfter_i I p0).1
  have t := failAfter_t (σ := σ) (p := p0)
  have w : σ.1 = (F_X5_failAfter σ p0).2.1 ∧ σ.2.1 = (F_X5_failAfter σ p0).2.2.1 := ⟨(failAfter_i I p0).2.1.symm, (failAfter_i I p0).2.2.symm⟩
  rw [failAfter_s] at h2
  unfold F_L_failAfter at h1
  generalize F_X5_failAfter σ p0 = x at h1 h2 i t
  obtain ⟨c, x0⟩ := x
  dsimp only at h1 h2 i t
  by_cases z : c = 0
  · rw [if_pos z] at h1
    cases h1; cases h2
    exact ⟨z, rfl, i⟩
  · rw [if_neg z] at h1
    cases t z
    cases h1; cases h2
    exact ⟨rfl, rfl, I⟩
theorem law_failAfter_k {σ1 : FS} {k : Int32} {p0 : Int32} (I : Inv σ τ δ run) (h1 : (k, σ1) = F_L_failAfter σ p0) : σ.1 = σ1.1 ∧ σ.2.1 = σ1.2.1 := by
  have i := (failAfter_i I p0).1
  have t := failAfter_t (σ := σ) (p := p0)
  have w : σ.1 = (F_X5_failAfter σ p0).2.1 ∧ σ.2.1 = (F_X5_failAfter σ p0).2.2.1 := ⟨(failAfter_i I p0).2.1.symm, (failAfter_i I p0).2.2.symm⟩
  unfold F_L_failAfter at h1
  generalize F_X5_failAfter σ p0 = x at h1 i t w
  obtain ⟨c, x0⟩ := x
  dsimp only at h1 i t w
  by_cases z : c = 0
  · rw [if_pos z] at h1
    cases h1; exact w
  · rw [if_neg z] at h1
    cases t z
    cases h1; exact w
theorem law_offer {σ1 : FS} {τ1 : TS} {run1 : Int32} {fl : Nat → Int32} {on : Int32} {rn : Int32} {lf : Int32} {wt : Int32} {nv : Int32} {nl : Int32} {nh : Int32} {nc : Int32} {cm : Int32} {k la r : Int32} {p0 p1 p2 p3 : Int32} (I : Inv σ τ δ run) (h1 : (k, σ1, τ1, run1, ov1) = F_L_offer σ τ run ov p0 p1 p2 p3) (h2 : (r, fl, on, rn, lf, wt, nv, nl, nh, nc, cm, la) = F_X6_offer σ.1 (mOn run) run σ.2.2 σ.2.1 τ.1 τ.2.1 τ.2.2.1 τ.2.2.2.1 (mCm τ) p0 p1 p2 p3) : la = k ∧ (k = 0 → ov1 0 = (if r = 0 then 0 else 1)) ∧ fl = σ1.1 ∧ on = mOn run1 ∧ rn = run1 ∧ lf = σ1.2.2 ∧ wt = σ1.2.1 ∧ nv = τ1.1 ∧ nl = τ1.2.1 ∧ nh = τ1.2.2.1 ∧ nc = τ1.2.2.2.1 ∧ cm = mCm τ1 ∧ Inv σ1 τ1 δ run1 := by
  have i := offer_i I p0 p1 p2 p3
  have t := offer_t (σ := σ) (τ := τ) (run := run) (p0 := p0) (p1 := p1) (p2 := p2) (p3 := p3)
  rw [offer_s I] at h2
  unfold F_L_offer at h1
  generalize F_X5_offer σ τ run p0 p1 p2 p3 = x at h1 h2 i t
  obtain ⟨c, a, x0, x1, x2⟩ := x
  dsimp only at h1 h2 i t
  by_cases z : c = 0
  · rw [if_pos z] at h1
    cases h1; cases h2
    exact ⟨z, fun _ => rfl, rfl, rfl, rfl, rfl, rfl, rfl, rfl, rfl, rfl, rfl, i⟩
  · rw [if_neg z] at h1
    cases t z
    cases h1; cases h2
    exact ⟨rfl, fun y => absurd y z, rfl, rfl, rfl, rfl, rfl, rfl, rfl, rfl, rfl, rfl, I⟩
theorem law_put {σ1 : FS} {τ1 : TS} {run1 : Int32} {fl : Nat → Int32} {on : Int32} {rn : Int32} {lf : Int32} {wt : Int32} {cm : Int32} {k la r : Int32} {p0 : Int32} (I : Inv σ τ δ run) (h1 : (k, σ1, τ1, run1, ov1) = F_L_put σ τ run ov p0) (h2 : (r, fl, on, rn, lf, wt, cm, la) = F_X6_put σ.1 (mOn run) run σ.2.2 σ.2.1 τ.2.1 (mCm τ) p0) : la = k ∧ (k = 0 → ov1 0 = (if r = 0 then 0 else 1)) ∧ fl = σ1.1 ∧ on = mOn run1 ∧ rn = run1 ∧ lf = σ1.2.2 ∧ wt = σ1.2.1 ∧ cm = mCm τ1 ∧ Inv σ1 τ1 δ run1 := by
  obtain ⟨i, w, t⟩ := put_i I p0
  rw [put_s I] at h2
  unfold F_L_put at h1
  generalize F_X5_put σ τ run p0 = x at h1 h2 i t
  obtain ⟨c, a, x0, x1, x2⟩ := x
  dsimp only at h1 h2 i t
  by_cases z : c = 0
  · rw [if_pos z] at h1
    cases h1; cases h2
    exact ⟨z, fun _ => rfl, rfl, rfl, rfl, rfl, rfl, rfl, i⟩
  · rw [if_neg z] at h1
    cases t z
    cases h1; cases h2
    exact ⟨rfl, fun y => absurd y z, rfl, rfl, rfl, rfl, rfl, rfl, I⟩
theorem law_put_k {σ1 : FS} {τ1 : TS} {run1 : Int32} {k : Int32} {p0 : Int32} (I : Inv σ τ δ run) (h1 : (k, σ1, τ1, run1, ov1) = F_L_put σ τ run ov p0) : τ.1 = τ1.1 ∧ τ.2.1 = τ1.2.1 ∧ τ.2.2.1 = τ1.2.2.1 ∧ τ.2.2.2.1 = τ1.2.2.2.1 := by
  obtain ⟨i, w, t⟩ := put_i I p0
  unfold F_L_put at h1
  generalize F_X5_put σ τ run p0 = x at h1 i t w
  obtain ⟨c, a, x0, x1, x2⟩ := x
  dsimp only at h1 i t w
  by_cases z : c = 0
  · rw [if_pos z] at h1
    cases h1; exact w
  · rw [if_neg z] at h1
    cases t z
    cases h1; exact w
theorem law_copy {σ1 : FS} {τ1 : TS} {run1 : Int32} {fl : Nat → Int32} {on : Int32} {rn : Int32} {lf : Int32} {wt : Int32} {cm : Int32} {k la r : Int32} {p0 p1 : Int32} (I : Inv σ τ δ run) (h1 : (k, σ1, τ1, run1, ov1) = F_L_copy σ τ run ov p0 p1) (h2 : (r, fl, on, rn, lf, wt, cm, la) = F_X6_copy σ.1 (mOn run) run σ.2.2 σ.2.1 τ.2.1 (mCm τ) p0 p1) : la = k ∧ (k = 0 → ov1 0 = r.toInt64) ∧ fl = σ1.1 ∧ on = mOn run1 ∧ rn = run1 ∧ lf = σ1.2.2 ∧ wt = σ1.2.1 ∧ cm = mCm τ1 ∧ Inv σ1 τ1 δ run1 := by
  obtain ⟨e, i, w, t⟩ := copy_s I p0 p1
  rw [e] at h2
  unfold F_L_copy at h1
  generalize F_X5_copy σ τ run p0 p1 = x at h1 h2 i t
  obtain ⟨c, a, x0, x1, x2⟩ := x
  dsimp only at h1 h2 i t
  by_cases z : c = 0
  · rw [if_pos z] at h1
    cases h1; cases h2
    exact ⟨z, fun _ => rfl, rfl, rfl, rfl, rfl, rfl, rfl, i⟩
  · rw [if_neg z] at h1
    cases t z
    cases h1; cases h2
    exact ⟨rfl, fun y => absurd y z, rfl, rfl, rfl, rfl, rfl, rfl, I⟩
theorem law_copy_k {σ1 : FS} {τ1 : TS} {run1 : Int32} {k : Int32} {p0 p1 : Int32} (I : Inv σ τ δ run) (h1 : (k, σ1, τ1, run1, ov1) = F_L_copy σ τ run ov p0 p1) : τ.1 = τ1.1 ∧ τ.2.1 = τ1.2.1 ∧ τ.2.2.1 = τ1.2.2.1 ∧ τ.2.2.2.1 = τ1.2.2.2.1 := by
  obtain ⟨e, i, w, t⟩ := copy_s I p0 p1
  unfold F_L_copy at h1
  generalize F_X5_copy σ τ run p0 p1 = x at h1 i t w
  obtain ⟨c, a, x0, x1, x2⟩ := x
  dsimp only at h1 i t w
  by_cases z : c = 0
  · rw [if_pos z] at h1
    cases h1; exact w
  · rw [if_neg z] at h1
    cases t z
    cases h1; exact w
theorem law_finish {σ1 : FS} {τ1 : TS} {run1 : Int32} {fl : Nat → Int32} {on : Int32} {rn : Int32} {lf : Int32} {wt : Int32} {cm : Int32} {k la r : Int32} {p0 : Int32} (I : Inv σ τ δ run) (h1 : (k, σ1, τ1, run1, ov1) = F_L_finish σ τ run ov p0) (h2 : (r, fl, on, rn, lf, wt, cm, la) = F_X6_finish σ.1 (mOn run) run σ.2.2 σ.2.1 τ.1 τ.2.1 τ.2.2.1 τ.2.2.2.1 (mCm τ) p0) : la = k ∧ (k = 0 → ov1 0 = (if r = 0 then 0 else 1)) ∧ fl = σ1.1 ∧ on = mOn run1 ∧ rn = run1 ∧ lf = σ1.2.2 ∧ wt = σ1.2.1 ∧ cm = mCm τ1 ∧ Inv σ1 τ1 δ run1 := by
  obtain ⟨e, i, w, t⟩ := finish_s I p0
  rw [e] at h2
  unfold F_L_finish at h1
  generalize F_X5_finish σ τ run p0 = x at h1 h2 i t
  obtain ⟨c, a, x0, x1, x2⟩ := x
  dsimp only at h1 h2 i t
  by_cases z : c = 0
  · rw [if_pos z] at h1
    cases h1; cases h2
    exact ⟨z, fun _ => rfl, rfl, rfl, rfl, rfl, rfl, rfl, i⟩
  · rw [if_neg z] at h1
    cases t z
    cases h1; cases h2
    exact ⟨rfl, fun y => absurd y z, rfl, rfl, rfl, rfl, rfl, rfl, I⟩
theorem law_finish_k {σ1 : FS} {τ1 : TS} {run1 : Int32} {k : Int32} {p0 : Int32} (I : Inv σ τ δ run) (h1 : (k, σ1, τ1, run1, ov1) = F_L_finish σ τ run ov p0) : τ.1 = τ1.1 ∧ τ.2.1 = τ1.2.1 ∧ τ.2.2.1 = τ1.2.2.1 ∧ τ.2.2.2.1 = τ1.2.2.2.1 := by
  obtain ⟨e, i, w, t⟩ := finish_s I p0
  unfold F_L_finish at h1
  generalize F_X5_finish σ τ run p0 = x at h1 i t w
  obtain ⟨c, a, x0, x1, x2⟩ := x
  dsimp only at h1 i t w
  by_cases z : c = 0
  · rw [if_pos z] at h1
    cases h1; exact w
  · rw [if_neg z] at h1
    cases t z
    cases h1; exact w
theorem law_confirm {σ1 : FS} {τ1 : TS} {run1 : Int32} {fl : Nat → Int32} {on : Int32} {rn : Int32} {lf : Int32} {wt : Int32} {cm : Int32} {k la r : Int32} (I : Inv σ τ δ run) (h1 : (k, σ1, τ1, run1, ov1) = F_L_confirm σ τ run ov) (h2 : (r, fl, on, rn, lf, wt, cm, la) = F_X6_confirm σ.1 (mOn run) run σ.2.2 σ.2.1 (mCm τ)) : la = k ∧ (k = 0 → ov1 0 = (if r = 0 then 0 else 1)) ∧ fl = σ1.1 ∧ on = mOn run1 ∧ rn = run1 ∧ lf = σ1.2.2 ∧ wt = σ1.2.1 ∧ cm = mCm τ1 ∧ Inv σ1 τ1 δ run1 := by
  obtain ⟨e, i, w, t⟩ := confirm_s I
  rw [e] at h2
  unfold F_L_confirm at h1
  generalize F_X5_confirm σ τ run = x at h1 h2 i t
  obtain ⟨c, a, x0, x1, x2⟩ := x
  dsimp only at h1 h2 i t
  by_cases z : c = 0
  · rw [if_pos z] at h1 h2
    cases h1; cases h2
    exact ⟨rfl, fun _ => rfl, rfl, rfl, rfl, rfl, rfl, rfl, i⟩
  · rw [if_neg z] at h1 h2
    cases t z
    cases h1; cases h2
    exact ⟨rfl, fun z => absurd z (by decide), rfl, rfl, rfl, rfl, rfl, rfl, I⟩
theorem law_confirm_k {σ1 : FS} {τ1 : TS} {run1 : Int32} {k : Int32} (I : Inv σ τ δ run) (h1 : (k, σ1, τ1, run1, ov1) = F_L_confirm σ τ run ov) : τ.1 = τ1.1 ∧ τ.2.1 = τ1.2.1 ∧ τ.2.2.1 = τ1.2.2.1 ∧ τ.2.2.2.1 = τ1.2.2.2.1 := by
  obtain ⟨e, i, w, t⟩ := confirm_s I
  unfold F_L_confirm at h1
  generalize F_X5_confirm σ τ run = x at h1 i t w
  obtain ⟨c, a, x0, x1, x2⟩ := x
  dsimp only at h1 i t w
  by_cases z : c = 0
  · rw [if_pos z] at h1
    cases h1; exact w
  · rw [if_neg z] at h1
    cases t z
    cases h1; exact w
theorem law_draft {δ1 : DS} {dr : Nat → Int32} {dn : Int32} {k la r : Int32} {p0 : Int32} (I : Inv σ τ δ run) (h1 : (k, δ1, ov1) = F_L_draft δ ov p0) (h2 : (r, dr, dn, la) = F_X6_draft δ.2 δ.1 p0) : la = k ∧ (k = 0 → ov1 0 = r.toInt64) ∧ dr = δ1.2 ∧ dn = δ1.1 ∧ Inv σ τ δ1 run := by
  obtain ⟨e, i, t⟩ := draft_s I p0
  rw [e] at h2
  unfold F_L_draft at h1
  generalize F_X5_draft δ p0 = x at h1 h2 i t
  obtain ⟨c, a, x0⟩ := x
  dsimp only at h1 h2 i t
  by_cases z : c = 0
  · rw [if_pos z] at h1
    cases h1; cases h2
    exact ⟨z, fun _ => rfl, rfl, rfl, i⟩
  · rw [if_neg z] at h1
    cases t z
    cases h1; cases h2
    exact ⟨rfl, fun y => absurd y z, rfl, rfl, I⟩
theorem law_deltaPieces {k la r : Int32} {p0 : Int32} (I : Inv σ τ δ run) (h1 : (k, ov1) = F_L_deltaPieces σ δ ov p0) (h2 : (r, la) = F_X6_deltaPieces σ.1 δ.2 δ.1 p0) : la = k ∧ (k = 0 → ov1 0 = r.toInt64) ∧ Inv σ τ δ run := by
  rw [pieces_s I] at h2
  unfold F_L_deltaPieces at h1
  generalize F_X5_deltaPieces σ δ p0 = x at h1 h2
  obtain ⟨c, a⟩ := x
  dsimp only at h1 h2
  by_cases z : c = 0
  · rw [if_pos z] at h1
    cases h1; cases h2
    exact ⟨z, fun _ => rfl, I⟩
  · rw [if_neg z] at h1
    cases h1; cases h2
    exact ⟨rfl, fun y => absurd y z, I⟩
theorem law_deltaLength {k la r : Int32} {p0 p1 : Int32} (I : Inv σ τ δ run) (h1 : (k, ov1) = F_L_deltaLength σ δ ov p0 p1) (h2 : (r, la) = F_X6_deltaLength σ.1 δ.2 δ.1 p0 p1) : la = k ∧ (k = 0 → ov1 0 = r.toInt64) ∧ Inv σ τ δ run := by
  rw [(len_s I p0 p1).1] at h2
  unfold F_L_deltaLength at h1
  generalize F_X5_deltaLength σ δ p0 p1 = x at h1 h2
  obtain ⟨c, a⟩ := x
  dsimp only at h1 h2
  by_cases z : c = 0
  · rw [if_pos z] at h1
    cases h1; cases h2
    exact ⟨z, fun _ => rfl, I⟩
  · rw [if_neg z] at h1
    cases h1; cases h2
    exact ⟨rfl, fun y => absurd y z, I⟩
theorem law_deltaFrom {k la r : Int32} {p0 p1 : Int32} (I : Inv σ τ δ run) (h1 : (k, ov1) = F_L_deltaFrom σ δ ov p0 p1) (h2 : (r, la) = F_X6_deltaFrom σ.1 δ.2 δ.1 p0 p1) : la = k ∧ (k = 0 → ov1 0 = r.toInt64) ∧ Inv σ τ δ run := by
  rw [(len_s I p0 p1).2] at h2
  unfold F_L_deltaFrom at h1
  generalize F_X5_deltaFrom σ δ p0 p1 = x at h1 h2
  obtain ⟨c, a⟩ := x
  dsimp only at h1 h2
  by_cases z : c = 0
  · rw [if_pos z] at h1
    cases h1; cases h2
    exact ⟨z, fun _ => rfl, I⟩
  · rw [if_neg z] at h1
    cases h1; cases h2
    exact ⟨rfl, fun y => absurd y z, I⟩
theorem isStartable_s (p0 : Int32) : F_X6_isStartable σ.1 p0 = (if (F_X5_isStartable σ p0).2 = 0 then 0 else 1, (F_X5_isStartable σ p0).1) := by
  unfold F_X6_isStartable F_X5_isStartable F_X6_isSlot
  by_cases c : F_X6_in p0 0 1 = 0
  · rw [c, goes_a, within_0 c, if_neg one0]; rfl
  · rw [goes_c c one0, within_1 c, if_pos rfl]
    dsimp only
    rw [if_neg one0, canStart_s (slot_of c)]
    split <;> rfl
theorem version_s (p0 : Int32) : F_X6_version σ.1 p0 = ((F_X5_version σ p0).2, (F_X5_version σ p0).1) := by
  unfold F_X6_version F_X5_version F_X6_isSlot
  by_cases c : F_X6_in p0 0 1 = 0
  · rw [c, goes_a, within_0 c, if_neg one0]; rfl
  · rw [goes_c c one0, within_1 c, if_pos rfl]
    dsimp only
    rw [if_neg one0, slot_s (slot_of c) 1 v1]
theorem isValid_s (p0 : Int32) : F_X6_isValid σ.1 p0 = (if (F_X5_isValid σ p0).2 = 0 then 0 else 1, (F_X5_isValid σ p0).1) := by
  unfold F_X6_isValid F_X5_isValid
  by_cases c : F_X6_in p0 0 1 = 0
  · rw [c, goes_a, within_0 c, if_neg one0]; rfl
  · rw [goes_c c one0, within_1 c, if_pos rfl]
    dsimp only
    rw [if_neg one0, holds_s (slot_of c)]
    split <;> rfl
theorem imageByte_s (p0 p1 : Int32) : F_X6_imageByte σ.1 p0 p1 = ((F_X5_imageByte σ p0 p1).2, if (F_X5_imageByte σ p0 p1).1 = 0 then 0 else if (F_X5_imageByte σ p0 p1).1 = 1 then 1 else 2) := by
  unfold F_X6_imageByte F_X5_imageByte F_X6_isSlot
  by_cases c : F_X6_in p0 0 1 = 0
  · rw [c, goes_a, within_0 c, if_neg one0]; rfl
  · rw [within_1 c, if_pos rfl]
    by_cases d : p1 < 0
    · rw [if_pos d, show F_X6_in p1 0 23 = 0 from if_pos d, goes_b c]; rfl
    · rw [if_neg d]
      obtain ⟨j, hj, rfl⟩ := nI_of d
      by_cases e : j < 24
      · rw [if_pos (show nI j < 24 from nI_lt (b := 24) e (by omega)), show F_X6_in (nI j) 0 23 = 1 from by unfold F_X6_in; rw [if_neg d, if_neg (show ¬ 23 < nI j from nI_nlt (b := j) (a := 23) (by omega) (by omega))], goes_c c one0]
        dsimp only
        rw [if_neg one0, if_pos rfl, image_s (slot_of c) (vp_in_nI e (by decide))]
      · rw [if_neg (show ¬ nI j < 24 from nI_nlt (a := j) (b := 24) (by omega) hj), show F_X6_in (nI j) 0 23 = 0 from by unfold F_X6_in; rw [if_neg d, if_pos (show 23 < nI j from nI_lt (a := 23) (by omega) hj)], goes_b c]; rfl
theorem bool_ne {a : Int32} : ((if (if a = 0 then (0 : Int32) else 1) = 0 then (0 : Int64) else 1)) = (if a = 0 then 0 else 1) := by
  by_cases c : a = 0
  · rw [if_pos c, if_pos rfl, if_pos c]
  · rw [if_neg c, if_neg one0, if_neg c]
theorem law_isStartable {k r la p0 : Int32} (I : Inv σ τ δ run) (h1 : (k, ov1) = F_L_isStartable σ ov p0) (h2 : (r, la) = F_X6_isStartable σ.1 p0) : la = k ∧ (k = 0 → ov1 0 = (if r = 0 then 0 else 1)) ∧ Inv σ τ δ run := by
  rw [isStartable_s] at h2
  unfold F_L_isStartable at h1
  generalize F_X5_isStartable σ p0 = x at h1 h2
  obtain ⟨c, a⟩ := x
  dsimp only at h1 h2
  by_cases z : c = 0
  · rw [if_pos z] at h1
    cases h1; cases h2
    exact ⟨z, fun _ => bool_ne.symm, I⟩
  · rw [if_neg z] at h1
    cases h1; cases h2
    exact ⟨rfl, fun y => absurd y (by exact z), I⟩
theorem law_version {k r la p0 : Int32} (I : Inv σ τ δ run) (h1 : (k, ov1) = F_L_version σ ov p0) (h2 : (r, la) = F_X6_version σ.1 p0) : la = k ∧ (k = 0 → ov1 0 = r.toInt64) ∧ Inv σ τ δ run := by
  rw [version_s] at h2
  unfold F_L_version at h1
  generalize F_X5_version σ p0 = x at h1 h2
  obtain ⟨c, a⟩ := x
  dsimp only at h1 h2
  by_cases z : c = 0
  · rw [if_pos z] at h1
    cases h1; cases h2
    exact ⟨z, fun _ => rfl, I⟩
  · rw [if_neg z] at h1
    cases h1; cases h2
    exact ⟨rfl, fun y => absurd y (by exact z), I⟩
theorem law_imageByte {k r la p0 p1 : Int32} (I : Inv σ τ δ run) (h1 : (k, ov1) = F_L_imageByte σ ov p0 p1) (h2 : (r, la) = F_X6_imageByte σ.1 p0 p1) : la = k ∧ (k = 0 → ov1 0 = r.toInt64) ∧ Inv σ τ δ run := by
  rw [imageByte_s] at h2
  unfold F_L_imageByte at h1
  generalize F_X5_imageByte σ p0 p1 = x at h1 h2
  obtain ⟨c, a⟩ := x
  dsimp only at h1 h2
  by_cases z : c = 0
  · rw [if_pos z] at h1 h2
    cases h1; cases h2
    exact ⟨rfl, fun _ => rfl, I⟩
  · rw [if_neg z] at h1 h2
    cases h1; cases h2
    exact ⟨rfl, fun y => absurd y (by split <;> decide), I⟩
theorem law_isValid {k r la p0 : Int32} (I : Inv σ τ δ run) (h1 : (k, ov1) = F_L_isValid σ ov p0) (h2 : (r, la) = F_X6_isValid σ.1 p0) : la = k ∧ (k = 0 → ov1 0 = (if r = 0 then 0 else 1)) ∧ Inv σ τ δ run := by
  rw [isValid_s] at h2
  unfold F_L_isValid at h1
  generalize F_X5_isValid σ p0 = x at h1 h2
  obtain ⟨c, a⟩ := x
  dsimp only at h1 h2
  by_cases z : c = 0
  · rw [if_pos z] at h1
    cases h1; cases h2
    exact ⟨z, fun _ => bool_ne.symm, I⟩
  · rw [if_neg z] at h1
    cases h1; cases h2
    exact ⟨rfl, fun y => absurd y (by exact z), I⟩
theorem law_safeFinish {ρ1 : FS} {k r la on rn lf wt cm p0 : Int32} {fl kp kp1 : Nat → Int32} (I : Inv σ τ δ run) (h1 : (k, ρ1, ov1) = F_L_safeFinish σ ρ τ run ov p0) (h2 : (r, fl, kp1, on, rn, lf, wt, cm, la) = F_X6_safeFinish σ.1 kp (mOn run) run σ.2.2 σ.2.1 τ.1 τ.2.1 τ.2.2.1 τ.2.2.2.1 (mCm τ) p0) : la = k ∧ (k = 0 → ov1 0 = r.toInt64) ∧ fl = σ.1 ∧ on = mOn run ∧ rn = run ∧ lf = σ.2.2 ∧ wt = σ.2.1 ∧ cm = mCm τ ∧ Inv σ τ δ run := by
  obtain ⟨kp2, e⟩ := safe_s (ρ := ρ) I kp p0
  rw [e] at h2
  unfold F_L_safeFinish at h1
  generalize F_X5_safeFinish σ ρ τ run p0 = x at h1 h2
  obtain ⟨c, a, s⟩ := x
  dsimp only at h1 h2
  by_cases z : c = 0
  · rw [if_pos z] at h1
    cases h1; cases h2
    exact ⟨z, fun _ => rfl, rfl, rfl, rfl, rfl, rfl, rfl, I⟩
  · rw [if_neg z] at h1
    cases h1; cases h2
    exact ⟨rfl, fun y => absurd y z, rfl, rfl, rfl, rfl, rfl, rfl, I⟩
theorem law_clearDraft {δ1 : DS} {r r2 dn la : Int32} (I : Inv σ τ δ run) (h1 : (r, δ1) = F_X5_clearDraft δ) (h2 : (r2, dn, la) = F_X6_clearDraft δ.1) : r = r2 ∧ dn = δ1.1 ∧ δ.2 = δ1.2 ∧ Inv σ τ δ1 run := by
  cases h1; cases h2
  exact ⟨rfl, rfl, rfl, I.1, I.2.1, I.2.2.1, 0, rfl, Nat.zero_le _⟩
theorem law_isOn {r la : Int32} (I : Inv σ τ δ run) (h2 : (r, la) = F_X6_isOn (mOn run)) : F_X5_isOn run = r := by
  cases h2; rfl
theorem law_running {r la : Int32} (I : Inv σ τ δ run) (h2 : (r, la) = F_X6_running run) : F_X5_running run = r := by
  cases h2; rfl
theorem law_isOnTrial {r la : Int32} (I : Inv σ τ δ run) (h2 : (r, la) = F_X6_isOnTrial σ.1 (mOn run) run) : F_X5_isOnTrial σ run = r := by
  unfold F_X6_isOnTrial at h2; rw [trial_s I] at h2; cases h2; rfl
theorem law_writes {r la : Int32} (I : Inv σ τ δ run) (h2 : (r, la) = F_X6_writes σ.2.1) : F_X5_writes σ = r := by
  cases h2; rfl
theorem law_toCome {r la : Int32} (I : Inv σ τ δ run) (h2 : (r, la) = F_X6_toCome τ.2.1 (mCm τ)) : F_X5_toCome τ = r := by
  rw [toCome_s I] at h2; cases h2; rfl
theorem law_draftHash {r la : Int32} (I : Inv σ τ δ run) (h2 : (r, la) = F_X6_draftHash δ.2 δ.1) : F_X5_draftHash δ = r := by
  rw [draftHash_s I] at h2; cases h2; rfl
theorem law_record {r la : Int32} (I : Inv σ τ δ run) (h2 : (r, la) = F_X6_record σ.1) : F_X5_record σ = r := by
  unfold F_X6_record at h2; rw [force_s] at h2; cases h2; rfl
theorem law_confirmed {r la : Int32} (I : Inv σ τ δ run) (h2 : (r, la) = F_X6_confirmed σ.1) : F_X5_confirmed σ = r := by
  unfold F_X6_confirmed at h2; rw [conf_s I.1] at h2; cases h2; rfl
theorem law_tries {r la : Int32} (I : Inv σ τ δ run) (h2 : (r, la) = F_X6_tries σ.1) : F_X5_tries σ = r := by
  unfold F_X6_tries at h2; rw [tries_s I.1] at h2; cases h2; rfl
theorem law_counter {r la : Int32} (I : Inv σ τ δ run) (h2 : (r, la) = F_X6_counter σ.1) : F_X5_counter σ = r := by
  unfold F_X6_counter at h2; rw [counter_s] at h2; cases h2; rfl
theorem law_wouldStart {r la : Int32} (I : Inv σ τ δ run) (h2 : (r, la) = F_X6_wouldStart σ.1) : F_X5_wouldStart σ = r := by
  unfold F_X6_wouldStart at h2; rw [next_s I.1] at h2; cases h2; rfl
end LAWL
