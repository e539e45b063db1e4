/-! each method of the reference, by the class's: answer, state, code -/
section SIM
variable {σ ρ : FS} {τ : TS} {δ : DS} {run : Int32}
theorem start_s (h : okW σ.1) : (F_X3_isTrialDue σ = 0 ∧ F_X3_start σ = (F_X3_slotToStart σ, σ)) ∨ (¬ F_X3_isTrialDue σ = 0 ∧ ∃ st, 0 ≤ st.toInt ∧ F_X3_start σ = (if (F_X3_writeRecord σ st (F_X3_recordCounter σ)).1 = 0 then -1 else F_X3_slotToStart σ, (F_X3_writeRecord σ st (F_X3_recordCounter σ)).2) ∧ st = (if F_X6_willTry σ.1 (F_X6_confirmedSlot σ.1) = 0 then F_X3_confirmedSlot σ else (F_X3_confirmedSlot σ + 2) + (4 * (F_X3_triesLeft σ - 1)))) := by
  have hc := confS_sl h
  by_cases c : F_X3_isTrialDue σ = 0
  · left
    refine ⟨c, ?_⟩
    unfold F_X3_start
    rw [if_pos c]
  · right
    refine ⟨c, ?_⟩
    unfold F_X3_start
    rw [if_neg c]
    rcases will_s h with ⟨a, b⟩ | ⟨a, b, -, d⟩
    · refine ⟨F_X3_confirmedSlot σ, by rcases hc with z | z <;> rw [z] <;> decide, ?_, by rw [if_pos a]⟩
      rw [if_pos b]
      unfold F_X3_settledState
      generalize F_X3_writeRecord σ _ _ = x
      obtain ⟨r, s1⟩ := x
      dsimp only
      by_cases e : r = 0
      · rw [if_pos e, if_pos e]
      · rw [if_neg e, if_neg e]
    · refine ⟨(F_X3_confirmedSlot σ + 2) + (4 * (F_X3_triesLeft σ - 1)), ?_, ?_, by rw [if_neg (by rw [a]; decide)]⟩
      · have ht : ∃ n, n < 2 ^ 29 ∧ F_X3_triesLeft σ = nI n := by
          unfold F_X3_triesLeft F_X3_triesIn
          obtain ⟨n, hn, e⟩ := state_nn h
          rw [e]
          split
          · exact ⟨0, by omega, rfl⟩
          · exact ⟨n / 4, by omega, by rw [pk_shrN hn (2 &&& 31) 2 (by decide)]⟩
        obtain ⟨n, hn, e⟩ := ht
        rw [e] at d ⊢
        have h0 : 0 < n := by
          rcases Nat.eq_zero_or_pos n with z | z
          · subst z; exact absurd d (by decide)
          · exact z
        obtain ⟨k, rfl⟩ : ∃ k, n = k + 1 := ⟨n - 1, by omega⟩
        rw [nI_pred, show (4 : Int32) = nI 4 from rfl, pk_mul, show (2 : Int32) = nI 2 from rfl]
        rcases hc with z | z <;> rw [z]
        · rw [show (0 : Int32) = nI 0 from rfl, nI_add, nI_add, nI_toInt (by omega)]; omega
        · rw [show (1 : Int32) = nI 1 from rfl, nI_add, nI_add, nI_toInt (by omega)]; omega
      · rw [if_neg (by rw [b]; rcases hc with z | z <;> rw [z] <;> decide)]
        unfold F_X3_trialState
        generalize F_X3_writeRecord σ _ _ = x
        obtain ⟨r, s1⟩ := x
        dsimp only
        by_cases e : r = 0
        · rw [if_pos e, if_pos e]
        · rw [if_neg e, if_neg e]
theorem slotStart_sl (h : okW σ.1) : sl (F_X3_slotToStart σ) := by
  have hc := confS_sl h
  rcases will_s h with ⟨-, b⟩ | ⟨-, b, -, -⟩ <;> rw [b]
  · exact hc
  · exact sl_not hc
theorem sl_ne {z : Int32} (h : sl z) : ¬ z = -1 := by rcases h with rfl | rfl <;> decide
theorem isOn_0 (h : mOn run = 0) : F_X5_isOn run = 0 := h
theorem switchOn_s (I : Inv σ τ δ run) : F_X6_switchOn σ.1 (mOn run) run σ.2.2 σ.2.1 (mCm τ) = (match F_X5_switchOn σ run with | (k, r, σ1, run1) => (r, σ1.1, mOn run1, run1, σ1.2.2, σ1.2.1, mCm τ, if k = 0 then 0 else 1)) := by
  have hh := I.1
  have hc := confS_sl hh
  unfold F_X6_switchOn F_X5_switchOn
  rcases I.on with ⟨a, rfl, g⟩ | ⟨a, b⟩
  · have g2 : mCm τ = -1 := if_pos g
    rw [if_pos a, if_pos (isOn_0 a), due_s hh]
    rcases start_s hh with ⟨c, e⟩ | ⟨c, st, -, e, es⟩
    · rw [if_pos c, e]
      simp only [↓reduceIte]
      rcases will_s hh with ⟨u, v⟩ | ⟨u, v, w, -⟩
      · rw [if_pos u, v, conf_s hh, mOn_1 hc]
      · exact absurd c w
    · rw [if_neg c, e]
      rcases will_s hh with ⟨u, v⟩ | ⟨u, v, w, -⟩
      · rw [if_pos u] at es ⊢
        rw [conf_s hh, counter_s, ← es, records_s]
        generalize F_X3_writeRecord σ st (F_X3_recordCounter σ) = x
        obtain ⟨r, s1⟩ := x
        dsimp only
        by_cases z : r = 0
        · rw [md_0 z]; simp only [if_pos z, ↓reduceIte]; rw [g2]; rfl
        · rw [md_1 z]; simp only [if_neg z, ↓reduceIte]; rw [v, mOn_1 hc, es]
      · rw [if_neg (by rw [u]; decide)] at es ⊢
        rw [conf_s hh, counter_s, tries_s hh, ← es, records_s]
        generalize F_X3_writeRecord σ st (F_X3_recordCounter σ) = x
        obtain ⟨r, s1⟩ := x
        dsimp only
        by_cases z : r = 0
        · rw [md_0 z]; simp only [if_pos z, ↓reduceIte]; rw [g2]; rfl
        · rw [md_1 z]; simp only [if_neg z, ↓reduceIte]; rw [v, mOn_1 (sl_not hc)]
  · have c : ¬ F_X5_isOn run = 0 := by show ¬ mOn run = 0; rw [a]; decide
    rw [if_neg (by rw [a]; decide), if_neg c]
    rfl
theorem switchOn_i (I : Inv σ τ δ run) : Inv (F_X5_switchOn σ run).2.2.1 τ δ (F_X5_switchOn σ run).2.2.2 := by
  have hh := I.1
  unfold F_X5_switchOn
  rcases I.on with ⟨a, rfl, g⟩ | ⟨a, b⟩
  · rw [if_pos (isOn_0 a)]
    rcases start_s hh with ⟨c, e⟩ | ⟨c, st, hs, e, es⟩
    · rw [e]
      exact ⟨hh, Or.inr ⟨slotStart_sl hh, Or.inl g⟩, I.2.2⟩
    · rw [e]
      dsimp only
      refine ⟨wrec_ok hh hs, ?_, I.2.2⟩
      split
      · exact Or.inl ⟨rfl, g⟩
      · exact Or.inr ⟨slotStart_sl hh, Or.inl g⟩
  · have c : ¬ F_X5_isOn run = 0 := by show ¬ mOn run = 0; rw [a]; decide
    rw [if_neg c]
    exact I
theorem switchOff_s (I : Inv σ τ δ run) : F_X6_switchOff (mOn run) run (mCm τ) = (match F_X5_switchOff τ run with | (k, r, τ1, run1) => (r, mOn run1, run1, mCm τ1, if k = 0 then 0 else 1)) := by
  unfold F_X6_switchOff F_X5_switchOff F_X5_requireOn F_X6_goesOff F_X5_losePower
  rcases I.on with ⟨a, -⟩ | ⟨a, b⟩
  · rw [if_pos a]
    simp only [if_pos (isOn_0 a)]
    rfl
  · have c : ¬ F_X5_isOn run = 0 := by show ¬ mOn run = 0; rw [a]; decide
    rw [if_neg (by rw [a]; decide)]
    simp only [if_neg c, ↓reduceIte]
    rfl
theorem switchOff_i (I : Inv σ τ δ run) : Inv σ (F_X5_switchOff τ run).2.2.1 δ (F_X5_switchOff τ run).2.2.2 := by
  unfold F_X5_switchOff F_X5_losePower
  split
  · exact ⟨I.1, Or.inl ⟨rfl, rfl⟩, fun z => absurd rfl z, I.2.2.2⟩
  · exact I
theorem failAfter_s (p : Int32) : F_X6_failAfter σ.2.2 p = (match F_X5_failAfter σ p with | (k, σ1) => (σ1.2.2, k)) := by
  unfold F_X6_failAfter F_X5_failAfter
  by_cases c : F_X6_in p (-1) 1000 = 0
  · rw [if_pos c, within_0 c]; rfl
  · rw [if_neg c, within_1 c]; rfl
theorem failAfter_i (I : Inv σ τ δ run) (p : Int32) : Inv (F_X5_failAfter σ p).2 τ δ run ∧ (F_X5_failAfter σ p).2.1 = σ.1 ∧ (F_X5_failAfter σ p).2.2.1 = σ.2.1 := by
  unfold F_X5_failAfter F_X2_chooseFailure
  split
  · exact ⟨I, rfl, rfl⟩
  · exact ⟨I, rfl, rfl⟩
theorem trial_s (I : Inv σ τ δ run) : F_X6_isTrial σ.1 (mOn run) run = F_X5_isOnTrial σ run := by
  unfold F_X6_isTrial F_X5_isOnTrial
  rw [conf_s I.1]
  rfl
theorem toCome_s (I : Inv σ τ δ run) : (F_X6_toCome τ.2.1 (mCm τ)) = (F_X5_toCome τ, 0) := by
  unfold F_X6_toCome F_X5_toCome F_X4_bytesToCome
  rcases I.go with ⟨a, b⟩ | ⟨a, -, c, k, e1, e2, e3, h1, h2⟩
  · rw [b, if_neg (by decide), if_pos a]
  · rw [e2, if_pos (nI_pos' (by omega)), if_neg (by rw [a]; decide), e1]
theorem offer_s (I : Inv σ τ δ run) (p0 p1 p2 p3 : Int32) : F_X6_offer σ.1 (mOn run) run σ.2.2 σ.2.1 τ.1 τ.2.1 τ.2.2.1 τ.2.2.2.1 (mCm τ) p0 p1 p2 p3 = (match F_X5_offer σ τ run p0 p1 p2 p3 with | (k, r, σ1, τ1, run1) => (r, σ1.1, mOn run1, run1, σ1.2.2, σ1.2.1, τ1.1, τ1.2.1, τ1.2.2.1, τ1.2.2.2.1, mCm τ1, k)) := by
  have hh := I.1
  unfold F_X6_offer F_X5_offer
  rw [due_s hh, counter_s]
  have g00 : F_X6_goes 0 0 = (0, 1) := rfl
  have g01 : F_X6_goes 0 1 = (0, 1) := rfl
  have g10 : F_X6_goes 1 0 = (0, 2) := rfl
  have g11 : F_X6_goes 1 1 = (1, 0) := rfl
  simp only [g00, g01, g10, g11, ite_self]
  by_cases c1 : F_X6_in p0 1 9999 = 0
  · simp only [if_pos c1, within_0 c1]; rfl
  simp only [if_neg c1, within_1 c1, ↓reduceIte]
  by_cases c2 : F_X6_in p1 1 24 = 0
  · simp only [if_pos c2, within_0 c2]; rfl
  simp only [if_neg c2, within_1 c2, ↓reduceIte]
  by_cases c3 : F_X6_in p2 0 65520 = 0
  · simp only [if_pos c3, within_0 c3]; rfl
  simp only [if_neg c3, within_1 c3, ↓reduceIte]
  by_cases c4 : F_X6_in p3 0 9999 = 0
  · simp only [if_pos c4, within_0 c4]; rfl
  simp only [if_neg c4, within_1 c4, ↓reduceIte]
  unfold F_X5_requireOn
  rcases I.on with ⟨a, -⟩ | ⟨a, b⟩
  · simp only [if_pos a, if_pos (isOn_0 a)]; rfl
  have c : ¬ F_X5_isOn run = 0 := by show ¬ mOn run = 0; rw [a]; decide
  simp only [if_neg c, ↓reduceIte]
  rw [if_neg (by rw [a]; decide)]
  by_cases c5 : F_X3_isTrialDue σ = 0
  rotate_left
  · simp only [if_neg c5]
  simp only [if_pos c5]
  rw [slot_s b 1 v1]
  by_cases c6 : p0 ≤ rd σ.1 (29 * run + 1)
  · simp only [if_pos c6]
  simp only [if_neg c6]
  by_cases c7 : p3 < F_X3_recordCounter σ
  · rw [if_pos c7, if_neg (Int32.not_le.mpr c7)]
  rw [if_neg c7, if_pos (Int32.not_lt.mp c7)]
  have hg := sl_not b
  unfold F_X5_idleSlot
  simp only [wSlot, stay_s]
  have e := lays_s (σ := σ) (on := mOn run) (rn := run) (cm := 0) (v := 0) (vi_c hg 0 v0)
  rw [e]
  generalize F_X2_write σ (29 * (1 - run) + 0) 0 = x
  obtain ⟨r, s1⟩ := x
  dsimp only
  have e2 := md_stay r s1 (F_X4_begin p0 p1 p2 p3) run
  have e3 : mCm (F_X4_begin p0 p1 p2 p3) = 0 := rfl
  rw [e3] at e2
  rw [e2]
  obtain ⟨q1, q2, q3, q4⟩ := oT_p r (F_X4_begin p0 p1 p2 p3)
  dsimp only
  rw [q1, q2, q3, q4]
  rfl
theorem offer_i (I : Inv σ τ δ run) (p0 p1 p2 p3 : Int32) : Inv (F_X5_offer σ τ run p0 p1 p2 p3).2.2.1 (F_X5_offer σ τ run p0 p1 p2 p3).2.2.2.1 δ (F_X5_offer σ τ run p0 p1 p2 p3).2.2.2.2 := by
  have hh := I.1
  unfold F_X5_offer
  by_cases c2 : F_X6_in p1 1 24 = 0
  · rw [within_0 c2, if_neg (show ¬ (1 : Int32) = 0 from by decide)]
    split <;> exact I
  rw [within_1 c2]
  split
  rotate_left
  · exact I
  rw [if_pos rfl]
  split
  rotate_left
  · exact I
  split
  rotate_left
  · exact I
  split
  rotate_left
  · exact I
  rename_i hon
  split
  rotate_left
  · exact I
  split
  · exact I
  split
  rotate_left
  · exact I
  have b : sl run := by
    rcases I.on with ⟨a, -⟩ | ⟨-, b⟩
    · unfold F_X5_requireOn at hon; rw [if_pos (isOn_0 a)] at hon; exact absurd hon (by decide)
    · exact b
  have hg := sl_not b
  unfold F_X5_idleSlot
  simp only [wSlot, stay_s]
  have o := write_ok (v := 0) hh (vi_c hg 0 v0) (okV_no (by rcases hg with z | z <;> rw [z] <;> decide))
  generalize F_X2_write σ (29 * (1 - run) + 0) 0 = x at o ⊢
  obtain ⟨r, s1⟩ := x
  dsimp only at o ⊢
  refine I.stay o b (Or.inr rfl) (fun _ => ⟨0, p1.toNatClampNeg, rfl, toN (Int32.le_trans (by decide) (in_of c2).1), Nat.zero_le _, in_24 c2⟩)
end SIM
