section SIMQ
variable {σ ρ : FS} {τ : TS} {δ : DS} {run : Int32}
theorem in_1le {p : Int32} {b : Int32} (h : ¬ F_X6_in p 1 b = 0) : 1 ≤ p := (in_of h).1
theorem in_nat {p : Int32} (h : ¬ F_X6_in p 1 24 = 0) : ∃ q : Nat, p = nI q ∧ 1 ≤ q ∧ q ≤ 255 := by
  have e := toN (x := p) (Int32.le_trans (by decide) (in_of h).1)
  have l := in_24 h
  refine ⟨p.toNatClampNeg, e, ?_, by omega⟩
  have h1 := (in_of h).1
  rw [e] at h1
  have := (nI_leI (a := 1) (by omega) (by omega)).mp h1
  exact this
/-- the copy's heart: the reference may, or may not -/
theorem copyGo_s (I : Inv σ τ δ run) {p0 p1 : Int32} (c1 : ¬ F_X6_in p0 0 23 = 0) (c2 : ¬ F_X6_in p1 1 24 = 0) (hf : mOn run = 0 ∨ ¬ rd σ.1 (29 * run + 2) < p0 + p1) : (match F_X6_goes 1 (F_X6_copyCan τ.2.1 (mCm τ) p1) with | (r, la) => if r = 0 then (0, σ.1, mOn run, run, σ.2.2, σ.2.1, mCm τ, la) else match mcN p0 p1.toNatClampNeg 0 σ.1 (mOn run) run σ.2.2 σ.2.1 (mCm τ) with | (n, fl1, on1, rn1, lf1, wt1, cm1) => (n, fl1, on1, rn1, lf1, wt1, cm1, la)) = (match F_X5_copyGo σ τ run p0 p1 with | (k, r, σ1, τ1, run1) => (r, σ1.1, mOn run1, run1, σ1.2.2, σ1.2.1, mCm τ1, k)) ∧ Inv (F_X5_copyGo σ τ run p0 p1).2.2.1 (F_X5_copyGo σ τ run p0 p1).2.2.2.1 δ (F_X5_copyGo σ τ run p0 p1).2.2.2.2 ∧ kp4 τ (F_X5_copyGo σ τ run p0 p1).2.2.2.1 ∧ (¬ (F_X5_copyGo σ τ run p0 p1).1 = 0 → (F_X5_copyGo σ τ run p0 p1).2.2 = (σ, τ, run)) := by
  unfold F_X5_copyGo
  rw [toCome_r I (in_1le c2)]
  by_cases c3 : F_X6_copyCan τ.2.1 (mCm τ) p1 = 0
  · rw [c3, goes_b one0, if_pos rfl, if_neg (show ¬ (2 : Int32) = 0 from by decide)]
    exact ⟨rfl, I, kp4.rfl' τ, fun _ => rfl⟩
  · rw [goes_c one0 c3, if_neg c3, if_pos rfl]
    obtain ⟨hg, c, k, e1, -, e3, h1, h2⟩ := can_x I (in_nat c2) c3
    have hr := I.hr hg
    have hL : (rd σ.1 (29 * run + 2)).toNatClampNeg ≤ 24 := by
      rcases hr with rfl | rfl
      · exact I.1.2 2 (Or.inl rfl)
      · exact I.1.2 31 (Or.inr rfl)
    have hf' : ¬ rd σ.1 (29 * run + 2) < p0 + p1 := by
      rcases hf with z | z
      · rw [mOn_1 hr] at z; exact absurd z (by decide)
      · exact z
    obtain ⟨a, ea, hb⟩ := copy_pq c1 c2 hf' hL
    obtain ⟨A, B, C⟩ := copy_n (δ := δ) ea h2 p1.toNatClampNeg 0 c σ τ run I hg e1 e3 h1 (by omega)
    dsimp only
    rw [if_neg one0, A]
    generalize cpN run p0 p1.toNatClampNeg 0 σ τ run = x at B C ⊢
    obtain ⟨r, s1, t1, r1⟩ := x
    exact ⟨rfl, B, C, fun z => absurd rfl z⟩
theorem copy_s (I : Inv σ τ δ run) (p0 p1 : Int32) : F_X6_copy σ.1 (mOn run) run σ.2.2 σ.2.1 τ.2.1 (mCm τ) p0 p1 = (match F_X5_copy σ τ run p0 p1 with | (k, r, σ1, τ1, run1) => (r, σ1.1, mOn run1, run1, σ1.2.2, σ1.2.1, mCm τ1, k)) ∧ Inv (F_X5_copy σ τ run p0 p1).2.2.1 (F_X5_copy σ τ run p0 p1).2.2.2.1 δ (F_X5_copy σ τ run p0 p1).2.2.2.2 ∧ kp4 τ (F_X5_copy σ τ run p0 p1).2.2.2.1 ∧ (¬ (F_X5_copy σ τ run p0 p1).1 = 0 → (F_X5_copy σ τ run p0 p1).2.2 = (σ, τ, run)) := by
  unfold F_X6_copy F_X6_copyFits F_X5_copy
  by_cases c1 : F_X6_in p0 0 23 = 0
  · rw [if_pos c1, goes_a, within_0 c1, if_neg one0]
    exact ⟨rfl, I, kp4.rfl' τ, fun _ => rfl⟩
  rw [if_neg c1, within_1 c1, if_pos rfl]
  by_cases c2 : F_X6_in p1 1 24 = 0
  · rw [if_pos c2, goes_a, within_0 c2, if_neg one0]
    exact ⟨rfl, I, kp4.rfl' τ, fun _ => rfl⟩
  rw [if_neg c2, within_1 c2, if_pos rfl]
  rcases I.on with ⟨a, -⟩ | ⟨a, b⟩
  · rw [if_pos a, if_pos (isOn_0 a)]
    exact copyGo_s I c1 c2 (Or.inl a)
  · rw [if_neg (by rw [a]; decide), if_neg (show ¬ F_X5_isOn run = 0 from by show ¬ mOn run = 0; rw [a]; decide), slot_s b 2 v2]
    by_cases c3 : rd σ.1 (29 * run + 2) < p0 + p1
    · rw [if_pos c3, if_neg (Int32.not_le.mpr c3), goes_a]
      exact ⟨rfl, I, kp4.rfl' τ, fun _ => rfl⟩
    · rw [if_neg c3, if_pos (Int32.not_lt.mp c3)]
      exact copyGo_s I c1 c2 (Or.inr c3)
/-- may it finish -/
theorem can_s (I : Inv σ τ δ run) (p0 : Int32) : F_X5_requireFinishable σ τ run p0 = (if F_X6_in p0 1 3 = 0 then 1 else if F_X6_canFinish σ.1 run τ.2.1 τ.2.2.1 (mCm τ) = 0 then 2 else 0) ∧ (¬ F_X6_canFinish σ.1 run τ.2.1 τ.2.2.1 (mCm τ) = 0 → sl run ∧ 0 ≤ τ.2.1.toInt ∧ τ.2.1.toInt ≤ 24) := by
  unfold F_X5_requireFinishable F_X6_canFinish F_X4_bytesToCome F_X5_idleSlot
  rcases I.go with ⟨a, b⟩ | ⟨a, hr, c, k, e1, e2, e3, h1, h2⟩
  · rw [if_pos (show mCm τ < 0 from by rw [b]; decide), if_pos rfl, if_pos a, if_neg (show ¬ (-1 : Int32) = 0 from by decide)]
    refine ⟨?_, fun z => absurd rfl z⟩
    by_cases c1 : F_X6_in p0 1 3 = 0
    · rw [within_0 c1, if_neg one0, if_pos c1]
    · rw [within_1 c1, if_pos rfl, if_neg c1]
  · rw [if_neg (show ¬ mCm τ < 0 from by rw [e2]; exact nI_pos (by omega)), if_neg (show ¬ τ.2.2.2.2.2 = 0 from by rw [a]; decide), hashIn_s (sl_not hr) (by rw [e3, nI_clamp (by omega)]; exact h2)]
    refine ⟨?_, fun _ => ⟨hr, by rw [e3, nI_toInt (by omega)]; omega⟩⟩
    by_cases c1 : F_X6_in p0 1 3 = 0
    · rw [within_0 c1, if_neg one0, if_pos c1]
    · rw [within_1 c1, if_pos rfl, if_neg c1, e1, e2, e3, pk_sub h1]
      by_cases d : nI c = nI k
      · rw [if_pos d, if_pos (show nI (k - c) = 0 from by rw [nI_eq (by omega) (by omega)] at d; rw [show k - c = 0 from by omega]; rfl)]
        split
        · rw [if_neg one0]
        · rw [if_pos rfl]
      · rw [if_neg d, if_pos rfl, if_neg (nI_ne0 (by rw [nI_eq (by omega) (by omega)] at d; omega) (by omega))]
theorem end_go (τ : TS) : (F_X4_end τ).2.2.2.2.2 = 0 := rfl
theorem finish_s (I : Inv σ τ δ run) (p0 : Int32) : F_X6_finish σ.1 (mOn run) run σ.2.2 σ.2.1 τ.1 τ.2.1 τ.2.2.1 τ.2.2.2.1 (mCm τ) p0 = (match F_X5_finish σ τ run p0 with | (k, r, σ1, τ1, run1) => (r, σ1.1, mOn run1, run1, σ1.2.2, σ1.2.1, mCm τ1, k)) ∧ Inv (F_X5_finish σ τ run p0).2.2.1 (F_X5_finish σ τ run p0).2.2.2.1 δ (F_X5_finish σ τ run p0).2.2.2.2 ∧ kp4 τ (F_X5_finish σ τ run p0).2.2.2.1 ∧ (¬ (F_X5_finish σ τ run p0).1 = 0 → (F_X5_finish σ τ run p0).2.2 = (σ, τ, run)) := by
  obtain ⟨h0, h1⟩ := can_s I p0
  unfold F_X6_finish F_X5_finish F_X5_idleSlot
  rw [h0]
  by_cases c1 : F_X6_in p0 1 3 = 0
  · rw [if_pos c1, if_neg one0, c1, goes_a]
    exact ⟨rfl, I, kp4.rfl' τ, fun _ => rfl⟩
  rw [if_neg c1]
  by_cases c2 : F_X6_canFinish σ.1 run τ.2.1 τ.2.2.1 (mCm τ) = 0
  · rw [if_pos c2, if_neg (show ¬ (2 : Int32) = 0 from by decide), c2, goes_b c1]
    exact ⟨rfl, I, kp4.rfl' τ, fun _ => rfl⟩
  rw [if_neg c2, if_pos rfl, goes_c c1 c2]
  obtain ⟨hr, hn⟩ := h1 c2
  rw [finishes_s σ τ (mOn run) run (mCm τ) p0 I.1 hr hn]
  have o := update_ok (σ := σ) I.1 hr hn c1
  simp only [stay_s]
  generalize F_X3_writeUpdate σ τ (1 - run) p0 = x at o ⊢
  obtain ⟨r, s1⟩ := x
  dsimp only at o ⊢
  refine ⟨?_, I.stay o hr (Or.inl rfl) (fun z => absurd rfl z), (kp4.trans (b := F_X4_end τ) ⟨rfl, rfl, rfl, rfl⟩ (kp4.oT r _)), fun z => absurd trivial z⟩
  have e3 : mCm (oT r (F_X4_end τ)) = -1 := by
    unfold oT
    split <;> rfl
  rw [e3, if_neg one0]
  unfold oR
  by_cases z : r = 0
  · rw [md_0 z, if_pos z, z]; rfl
  · rw [md_1 z, if_neg z]
theorem confirm_s (I : Inv σ τ δ run) : F_X6_confirm σ.1 (mOn run) run σ.2.2 σ.2.1 (mCm τ) = (match F_X5_confirm σ τ run with | (k, r, σ1, τ1, run1) => (r, σ1.1, mOn run1, run1, σ1.2.2, σ1.2.1, mCm τ1, if k = 0 then 0 else 1)) ∧ Inv (F_X5_confirm σ τ run).2.2.1 (F_X5_confirm σ τ run).2.2.2.1 δ (F_X5_confirm σ τ run).2.2.2.2 ∧ kp4 τ (F_X5_confirm σ τ run).2.2.2.1 ∧ (¬ (F_X5_confirm σ τ run).1 = 0 → (F_X5_confirm σ τ run).2.2 = (σ, τ, run)) := by
  unfold F_X6_confirm F_X5_confirm F_X5_requireOn F_X3_settledState
  rw [trial_s I, counter_s]
  rcases I.on with ⟨a, -⟩ | ⟨a, b⟩
  · rw [if_pos (isOn_0 a), if_neg (show ¬ (2 : Int32) = 0 from by decide), if_pos (show F_X5_isOnTrial σ run = 0 from if_pos (isOn_0 a))]
    exact ⟨rfl, I, kp4.rfl' τ, fun _ => rfl⟩
  rw [if_neg (show ¬ F_X5_isOn run = 0 from by show ¬ mOn run = 0; rw [a]; decide), if_pos rfl]
  by_cases c1 : F_X5_isOnTrial σ run = 0
  · rw [if_pos c1, if_pos c1]
    exact ⟨rfl, I, kp4.rfl' τ, fun _ => rfl⟩
  rw [if_neg c1, if_neg c1, slot_s b 4 v4, records_s, records_s]
  have hs : 0 ≤ run.toInt := by rcases b with z | z <;> rw [z] <;> decide
  have key : ∀ bd : Int32, (match md (F_X3_writeRecord σ run bd).1 (F_X3_writeRecord σ run bd).2 (mOn run) run (mCm τ) with | (r, fl1, on1, rn1, lf1, wt1, cm1) => (r, fl1, on1, rn1, lf1, wt1, cm1, (0 : Int32))) = (match (match F_X3_writeRecord σ run bd with | (r, u) => (match F_X5_stayOn τ run r with | (q, t, n) => ((0 : Int32), q, u, t, n))) with | (k, r, σ1, τ1, run1) => (r, σ1.1, mOn run1, run1, σ1.2.2, σ1.2.1, mCm τ1, if k = 0 then 0 else 1)) ∧ Inv (match F_X3_writeRecord σ run bd with | (r, u) => (match F_X5_stayOn τ run r with | (q, t, n) => ((0 : Int32), q, u, t, n))).2.2.1 (match F_X3_writeRecord σ run bd with | (r, u) => (match F_X5_stayOn τ run r with | (q, t, n) => ((0 : Int32), q, u, t, n))).2.2.2.1 δ (match F_X3_writeRecord σ run bd with | (r, u) => (match F_X5_stayOn τ run r with | (q, t, n) => ((0 : Int32), q, u, t, n))).2.2.2.2 ∧ kp4 τ (match F_X3_writeRecord σ run bd with | (r, u) => (match F_X5_stayOn τ run r with | (q, t, n) => ((0 : Int32), q, u, t, n))).2.2.2.1 ∧ (¬ (match F_X3_writeRecord σ run bd with | (r, u) => (match F_X5_stayOn τ run r with | (q, t, n) => ((0 : Int32), q, u, t, n))).1 = 0 → (match F_X3_writeRecord σ run bd with | (r, u) => (match F_X5_stayOn τ run r with | (q, t, n) => ((0 : Int32), q, u, t, n))).2.2 = (σ, τ, run)) := by
    intro bd
    have o := wrec_ok (bd := bd) I.1 hs
    simp only [stay_s]
    generalize F_X3_writeRecord σ run bd = x at o ⊢
    obtain ⟨r, s1⟩ := x
    dsimp only at o ⊢
    refine ⟨?_, I.stay o b ?_ I.2.2.1, kp4.oT r τ, fun z => absurd trivial z⟩
    · rw [md_stay, if_pos trivial]
    · rcases I.go with ⟨a, -⟩ | ⟨a, -⟩
      · exact Or.inl a
      · exact Or.inr a
  by_cases c2 : F_X3_recordCounter σ < rd σ.1 (29 * run + 4)
  · rw [if_pos c2, if_neg (Int32.not_le.mpr c2)]
    exact key _
  · rw [if_neg c2, if_pos (Int32.not_lt.mp c2)]
    exact key _
end SIMQ
