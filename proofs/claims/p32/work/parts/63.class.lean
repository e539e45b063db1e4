/-! THE CLASS'S RECORDS AND STARTS, in numbers -/
theorem st_due : ∀ st, st < 16 → F_X3_isTrialIn (nI st) = if st / 2 % 2 = 1 then 1 else 0 := by decide +kernel
theorem st_tries : ∀ st, st < 16 → F_X3_triesIn (nI st) = nI (if st / 2 % 2 = 1 then st / 4 else 0) := by decide +kernel
theorem st_cnf : ∀ st, st < 16 → F_X3_confirmedIn (nI st) = nI (st % 2) := by decide +kernel
theorem st_and1 : ∀ st, st < 16 → nI st &&& 1 = nI (st % 2) := by decide +kernel
theorem st_and2 : ∀ st, st < 16 → (nI st &&& 2 = 2 ↔ st / 2 % 2 = 1) := by decide +kernel
theorem st_shr : ∀ st, st < 16 → nI st >>> ((2 : Int32) &&& 31) = nI (st / 4) := by decide +kernel
theorem wRec (σ : FS) {o j : Nat} (x : Int32) : F_X3_writeRecordWord σ (nI o) (nI j) x = F_X2_write σ (nI (58 + 4 * o + j)) x := by
  unfold F_X3_writeRecordWord
  rw [show (58 : Int32) = nI 58 from rfl, n4, pk_mul, nI_add, nI_add, Nat.mul_comm o 4]
theorem wSlot (σ : FS) {o j : Nat} (x : Int32) : F_X3_writeSlotWord σ (nI o) (nI j) x = F_X2_write σ (nI (29 * o + j)) x := by
  unfold F_X3_writeSlotWord
  rw [show (29 : Int32) = nI 29 from rfl, pk_mul, nI_add, Nat.mul_comm o 29]
theorem wImage (σ : FS) {o j : Nat} (x : Int32) : F_X3_writeImageWord σ (nI o) (nI j) x = F_X2_write σ (nI (29 * o + 5 + j)) x := by
  unfold F_X3_writeImageWord
  rw [show (29 : Int32) = nI 29 from rfl, n5, pk_mul, nI_add, nI_add, Nat.mul_comm o 29]
abbrev trd (v : Nat → Nat) (b : Nat) : Prop := sttR v b / 2 % 2 = 1 ∧ 4 ≤ sttR v b ∧ good v (1 - cnf v b) ∧ ctrR v b ≤ v (29 * (1 - cnf v b) + 4)
def strt (v : Nat → Nat) (b : Nat) : Nat := if trd v b then 1 - cnf v b else cnf v b
section CLS
variable {σ : FS} {v : Nat → Nat} {ww rr : Nat → Int32} {e b : Nat}
theorem NI.small (h : NI e v b) (he : e ≤ 1000) : small v := h.2.2.small he
theorem NI.c2 (_ : NI e v b) : cnf v b < 2 := Nat.mod_lt _ (by decide)
theorem force_n (h : AbsS σ v) (N : NI e v b) (he : e ≤ 1000) : F_X3_recordInForce σ = nI b := force_a h (N.small he) N.1
theorem best_n (h : AbsW ww rr v) (N : NI e v b) (he : e ≤ 1000) : F_L_best rr = nI b := lbest_a h (N.small he) N.1
theorem rst_n (h : AbsS σ v) (N : NI e v b) (he : e ≤ 1000) : F_X3_recordWord σ (F_X3_recordInForce σ) 2 = nI (sttR v b) := by rw [force_n h N he]; exact recW_a (j := 2) h N.b2 (by omega)
theorem rct_n (h : AbsS σ v) (N : NI e v b) (he : e ≤ 1000) : F_X3_recordWord σ (F_X3_recordInForce σ) 3 = nI (ctrR v b) := by rw [force_n h N he]; exact recW_a (j := 3) h N.b2 (by omega)
theorem cnf_n (h : AbsS σ v) (N : NI e v b) (he : e ≤ 1000) : F_X3_confirmedSlot σ = nI (cnf v b) := by
  unfold F_X3_confirmedSlot
  rw [rst_n h N he, st_cnf _ (by have := N.st; omega)]; rfl
theorem due_n (h : AbsS σ v) (N : NI e v b) (he : e ≤ 1000) : F_X3_isTrialDue σ = if sttR v b / 2 % 2 = 1 then 1 else 0 := by
  unfold F_X3_isTrialDue
  rw [rst_n h N he, st_due _ (by have := N.st; omega)]
theorem tries_n (h : AbsS σ v) (N : NI e v b) (he : e ≤ 1000) : F_X3_triesLeft σ = nI (if sttR v b / 2 % 2 = 1 then sttR v b / 4 else 0) := by
  unfold F_X3_triesLeft
  rw [rst_n h N he, st_tries _ (by have := N.st; omega)]
theorem rcnt_n (h : AbsS σ v) (N : NI e v b) (he : e ≤ 1000) : F_X3_recordCounter σ = nI (ctrR v b) := rct_n h N he
theorem strt_n (h : AbsS σ v) (N : NI e v b) (he : e ≤ 1000) : F_X3_slotToStart σ = nI (strt v b) := by
  have hst := N.st
  have hc := N.c2
  have hct := N.ct
  have k4 := N.small he (29 * (1 - cnf v b) + 4) (by omega)
  unfold F_X3_slotToStart
  rw [rst_n h N he, rct_n h N he, st_cnf _ (by omega), st_tries _ (by omega), show sttR v b % 2 = cnf v b from rfl, n1', pk_sub (by omega), canStart_a h (N.small he) (by omega), show F_X3_slotWord σ (nI (1 - cnf v b)) 4 = nI (v (29 * (1 - cnf v b) + 4)) from slotW_a (j := 4) h (by omega) (by omega)]
  simp only [ltI (show v (29 * (1 - cnf v b) + 4) < 2 ^ 31 by omega) (show ctrR v b < 2 ^ 31 by omega)]
  unfold strt
  by_cases d : sttR v b / 2 % 2 = 1
  · rw [if_pos d]
    by_cases t : 4 ≤ sttR v b
    · rw [if_neg (show ¬ nI (sttR v b / 4) ≤ 0 from nI_nle (by omega) (by omega))]
      by_cases g : good v (1 - cnf v b)
      · rw [if_pos g, if_neg (by decide)]
        by_cases k : ctrR v b ≤ v (29 * (1 - cnf v b) + 4)
        · rw [if_neg (by omega), if_pos ⟨d, t, g, k⟩]
        · rw [if_pos (by omega), if_neg (fun z => k z.2.2.2)]
      · rw [if_neg g, if_pos (by decide), if_neg (fun z => g z.2.2.1)]
    · rw [if_pos (show nI (sttR v b / 4) ≤ 0 from by rw [show sttR v b / 4 = 0 by omega]; decide), if_neg (fun z => t z.2.1)]
  · rw [if_neg d, if_pos (show nI 0 ≤ 0 by decide), if_neg (fun z => d z.1)]
/-- the law's readings of the same -/
theorem lst_n (h : AbsW ww rr v) (N : NI e v b) (he : e ≤ 1000) : rd rr (4 * F_L_best rr + 2) = nI (sttR v b) := by rw [best_n h N he]; exact lr (j := 2) h N.b2 (by omega)
theorem lct_n (h : AbsW ww rr v) (N : NI e v b) (he : e ≤ 1000) : rd rr (4 * F_L_best rr + 3) = nI (ctrR v b) := by rw [best_n h N he]; exact lr (j := 3) h N.b2 (by omega)
theorem lsq_n (h : AbsW ww rr v) (N : NI e v b) (he : e ≤ 1000) : rd rr (4 * F_L_best rr + 1) = nI (seqR v b) := by rw [best_n h N he]; exact lr (j := 1) h N.b2 (by omega)
theorem ldue_n (h : AbsW ww rr v) (N : NI e v b) (he : e ≤ 1000) : F_L_isDue rr = if sttR v b / 2 % 2 = 1 then 1 else 0 := by
  have hst := N.st
  unfold F_L_isDue
  rw [lst_n h N he]
  by_cases d : sttR v b / 2 % 2 = 1
  · rw [if_pos ((st_and2 _ (by omega)).mpr d), if_pos d]
  · rw [if_neg (fun z => d ((st_and2 _ (by omega)).mp z)), if_neg d]
theorem lstrt_n (h : AbsW ww rr v) (N : NI e v b) (he : e ≤ 1000) : F_L_start ww rr = nI (strt v b) ∧ (F_L_start_j71 rr ww = 0 ↔ ¬ trd v b) := by
  have hst := N.st
  have hc := N.c2
  have hct := N.ct
  have k4 := N.small he (29 * (1 - cnf v b) + 4) (by omega)
  have ej : F_L_start_j71 rr ww = if trd v b then 1 else 0 := by
    unfold F_L_start_j71
    rw [lst_n h N he, lct_n h N he, st_and1 _ (by omega), show sttR v b % 2 = cnf v b from rfl, n1', pk_sub (by omega), lgood_a h (N.small he) (by omega), show rd ww (32 * nI (1 - cnf v b) + 4) = nI (v (29 * (1 - cnf v b) + 4)) from lw (j := 4) h (by omega) (by omega)]
    simp only [n3, leI (show sttR v b < 2 ^ 31 by omega) (show 3 < 2 ^ 31 by omega), ltI (show v (29 * (1 - cnf v b) + 4) < 2 ^ 31 by omega) (show ctrR v b < 2 ^ 31 by omega)]
    by_cases d : sttR v b / 2 % 2 = 1
    · rw [if_pos ((st_and2 _ (by omega)).mpr d)]
      by_cases t : sttR v b ≤ 3
      · rw [if_pos t, if_neg (fun z => by have := z.2.1; omega)]
      · rw [if_neg t]
        by_cases g : good v (1 - cnf v b)
        · rw [if_pos g, if_neg (by decide)]
          by_cases k : v (29 * (1 - cnf v b) + 4) < ctrR v b
          · rw [if_pos k, if_neg (fun z => by have := z.2.2.2; omega)]
          · rw [if_neg k, if_pos ⟨d, by omega, g, by omega⟩]
        · rw [if_neg g, if_pos (by decide), if_neg (fun z => g z.2.2.1)]
    · rw [if_neg (fun z => d ((st_and2 _ (by omega)).mp z)), if_neg (fun z => d z.1)]
  refine ⟨?_, ?_⟩
  · unfold F_L_start strt
    rw [ej, lst_n h N he, st_and1 _ (by omega), show sttR v b % 2 = cnf v b from rfl]
    by_cases t : trd v b
    · rw [if_pos t, if_pos t, if_neg (by decide), n1', pk_sub (by omega)]
    · rw [if_neg t, if_neg t, if_pos rfl]
  · rw [ej]
    by_cases t : trd v b
    · rw [if_pos t]; exact ⟨fun z => absurd z (by decide), fun z => absurd t z⟩
    · rw [if_neg t]; exact ⟨fun _ => t, fun _ => rfl⟩
theorem cw_0 {σ σ1 : FS} {i x : Nat} {r : Int32} {t : List (Nat × Nat)} (h : F_X2_write σ (nI i) (nI x) = (r, σ1)) (c : r = 0) : cw ((i, x) :: t) σ = (0, σ1) := by
  rw [cw, h, if_pos c]
theorem cw_1 {σ σ1 : FS} {i x : Nat} {r : Int32} {t : List (Nat × Nat)} (h : F_X2_write σ (nI i) (nI x) = (r, σ1)) (c : ¬ r = 0) : cw ((i, x) :: t) σ = ((cw t σ1).1 + 1, (cw t σ1).2) := by
  rw [cw, h, if_neg c]
/-- the five writes of a record -/
theorem wrec_c (h : AbsS σ v) (N : NI e v b) (he : e ≤ 998) {st ct : Nat} (hst : st < 65536) (hct : ct < 65536) : F_X3_writeRecord σ (nI st) (nI ct) = (if (cw (Lr (1 - b) (seqR v b + 1) st ct) σ).1 = 5 then 1 else 0, (cw (Lr (1 - b) (seqR v b + 1) st ct) σ).2) := by
  have hb := N.b2
  have hsq := N.sq
  have es : F_X3_recordWord σ (nI b) 1 + 1 = nI (seqR v b + 1) := by
    rw [show F_X3_recordWord σ (nI b) 1 = nI (seqR v b) from recW_a (j := 1) h hb (by omega), nI_1]
  unfold F_X3_writeRecord
  rw [force_n h N (by omega), es, checkOf_a (by omega) hst hct, n1', pk_sub (by omega)]
  rw [show (0 : Int32) = nI 0 from rfl, n2, n3]
  simp only [wRec]
  unfold Lr
  rw [show 58 + 4 * (1 - b) + 0 = 58 + 4 * (1 - b) from rfl]
  obtain ⟨r1, σ1, h1⟩ : ∃ r s, F_X2_write σ (nI (58 + 4 * (1 - b))) (nI 0) = (r, s) := ⟨_, _, rfl⟩
  by_cases c1 : r1 = 0
  · rw [cw_0 h1 c1]; simp only [h1, if_pos (show r1 = nI 0 from c1)]; rfl
  rw [cw_1 h1 c1]
  simp only [h1, if_neg (show ¬ r1 = nI 0 from c1)]
  obtain ⟨r2, σ2, h2⟩ : ∃ r s, F_X2_write σ1 (nI (58 + 4 * (1 - b) + 1)) (nI (seqR v b + 1)) = (r, s) := ⟨_, _, rfl⟩
  by_cases c2 : r2 = 0
  · rw [cw_0 h2 c2]; simp only [h2, if_pos (show r2 = nI 0 from c2)]; rfl
  rw [cw_1 h2 c2]
  simp only [h2, if_neg (show ¬ r2 = nI 0 from c2)]
  obtain ⟨r3, σ3, h3⟩ : ∃ r s, F_X2_write σ2 (nI (58 + 4 * (1 - b) + 2)) (nI st) = (r, s) := ⟨_, _, rfl⟩
  by_cases c3 : r3 = 0
  · rw [cw_0 h3 c3]; simp only [h3, if_pos (show r3 = nI 0 from c3)]; rfl
  rw [cw_1 h3 c3]
  simp only [h3, if_neg (show ¬ r3 = nI 0 from c3)]
  obtain ⟨r4, σ4, h4⟩ : ∃ r s, F_X2_write σ3 (nI (58 + 4 * (1 - b) + 3)) (nI ct) = (r, s) := ⟨_, _, rfl⟩
  by_cases c4 : r4 = 0
  · rw [cw_0 h4 c4]; simp only [h4, if_pos (show r4 = nI 0 from c4)]; rfl
  rw [cw_1 h4 c4]
  simp only [h4, if_neg (show ¬ r4 = nI 0 from c4)]
  obtain ⟨r5, σ5, h5⟩ : ∃ r s, F_X2_write σ4 (nI (58 + 4 * (1 - b))) (nI (chk (seqR v b + 1) st ct)) = (r, s) := ⟨_, _, rfl⟩
  by_cases c5 : r5 = 0
  · rw [cw_0 h5 c5]; simp only [h5, if_pos (show r5 = nI 0 from c5)]; rfl
  rw [cw_1 h5 c5]
  simp only [h5, if_neg (show ¬ r5 = nI 0 from c5)]
  rfl
end CLS
