/-! THE REFERENCE'S FUNCTIONS AND THE CLASS'S: the same values -/
theorem read_in {σ : FS} {i : Int32} (h : vp_in i 66) : F_X2_read σ i = rd σ.1 i := by
  obtain ⟨j, hj, rfl⟩ := vp_in_of h (by decide)
  unfold F_X2_read
  rw [if_neg (nI_pos (by omega)), if_neg (by have := @nI_ge j 66 (by omega) (by omega); exact this)]
theorem vi_c {z : Int32} (hz : sl z) (k : Int32) (hk : vp_in k 29) : vp_in (29 * z + k) 66 := by
  obtain ⟨j, hj, rfl⟩ := vp_in_of hk (by decide)
  rcases hz with rfl | rfl
  · rw [show (29 * 0 : Int32) = nI 0 from by decide, nI_add]; exact vp_in_nI (by omega) (by decide)
  · rw [show (29 * 1 : Int32) = nI 29 from by decide, nI_add]; exact vp_in_nI (by omega) (by decide)
theorem vi_r {z : Int32} (hz : sl z) (k : Int32) (hk : vp_in k 4) : vp_in (58 + 4 * z + k) 66 := by
  obtain ⟨j, hj, rfl⟩ := vp_in_of hk (by decide)
  rcases hz with rfl | rfl
  · rw [show (58 + 4 * 0 : Int32) = nI 58 from by decide, nI_add]; exact vp_in_nI (by omega) (by decide)
  · rw [show (58 + 4 * 1 : Int32) = nI 62 from by decide, nI_add]; exact vp_in_nI (by omega) (by decide)
theorem slot_s {σ : FS} {z : Int32} (hz : sl z) (k : Int32) (hk : vp_in k 29) : F_X3_slotWord σ z k = rd σ.1 (29 * z + k) := by
  unfold F_X3_slotWord
  rw [Int32.mul_comm z 29]
  exact read_in (vi_c hz k hk)
theorem image_s {σ : FS} {z k : Int32} (hz : sl z) (hk : vp_in k 24) : F_X3_imageWord σ z k = rd σ.1 (29 * z + 5 + k) := by
  unfold F_X3_imageWord
  rw [Int32.mul_comm z 29]
  exact read_in (vi5 hz hk)
theorem rec_s {σ : FS} {z : Int32} (hz : sl z) (k : Int32) (hk : vp_in k 4) : F_X3_recordWord σ z k = rd σ.1 (58 + 4 * z + k) := by
  unfold F_X3_recordWord
  rw [Int32.mul_comm z 4]
  exact read_in (vi_r hz k hk)
theorem hashed_s (a b : Int32) : F_X6_hashed a b = F_X5_hashWith a b := rfl
theorem hash_c {f g : Nat → Int32} : ∀ n, (∀ k, k < n → f k = g k) → hashM f n = hashN g n
  | 0, _ => rfl
  | n + 1, h => by
    unfold hashM hashN
    rw [hash_c n (fun k hk => h k (by omega)), h n (by omega)]
    rfl
theorem hashIn_s {σ : FS} {z n : Int32} (hz : sl z) (hn : n.toNatClampNeg ≤ 24) : F_X6_hashIn σ.1 z n = F_X3_imageHash σ z n := by
  unfold F_X6_hashIn F_X3_imageHash
  rw [Nat.min_eq_left hn]
  exact hash_c _ (fun k hk => (image_s hz (vp_in_nI (by omega) (by decide))).symm)
theorem v0 : vp_in 0 29 := vp_in_iff.mpr (by decide)
theorem v1 : vp_in 1 29 := vp_in_iff.mpr (by decide)
theorem v2 : vp_in 2 29 := vp_in_iff.mpr (by decide)
theorem v3 : vp_in 3 29 := vp_in_iff.mpr (by decide)
theorem v4 : vp_in 4 29 := vp_in_iff.mpr (by decide)
theorem w0 : vp_in 0 4 := vp_in_iff.mpr (by decide)
theorem w1 : vp_in 1 4 := vp_in_iff.mpr (by decide)
theorem w2 : vp_in 2 4 := vp_in_iff.mpr (by decide)
theorem w3 : vp_in 3 4 := vp_in_iff.mpr (by decide)
theorem canStart_s {σ : FS} {z : Int32} (hz : sl z) : F_X6_canStart σ.1 z = F_X3_canStart σ z := by
  unfold F_X6_canStart F_X3_canStart
  rw [slot_s hz 0 v0, slot_s hz 2 v2, slot_s hz 3 v3]
  by_cases c1 : rd σ.1 (29 * z + 0) = 1
  · rw [if_pos c1, if_pos c1]
    by_cases c2 : F_X6_in (rd σ.1 (29 * z + 2)) 1 24 = 0
    · rw [if_pos c2]
      unfold F_X6_in at c2
      by_cases d1 : rd σ.1 (29 * z + 2) < 1
      · rw [if_pos d1]
      · rw [if_neg d1] at c2 ⊢
        by_cases d2 : 24 < rd σ.1 (29 * z + 2)
        · rw [if_pos d2]
        · rw [if_neg d2] at c2; exact absurd c2 (by decide)
    · rw [if_neg c2]
      have h24 := in_24 c2
      obtain ⟨l1, l2⟩ := in_of c2
      rw [if_neg (Int32.not_lt.mpr l1), if_neg (Int32.not_lt.mpr l2), hashIn_s hz h24]
      by_cases c3 : F_X3_imageHash σ z (rd σ.1 (29 * z + 2)) = rd σ.1 (29 * z + 3)
      · rw [if_pos c3, if_pos c3.symm]
      · rw [if_neg c3, if_neg (fun z => c3 z.symm)]
  · rw [if_neg c1, if_neg c1]
theorem check_s {σ : FS} {z : Int32} (hz : sl z) : F_X6_rightCheck σ.1 z = F_X3_checkOf (F_X3_recordWord σ z 1) (F_X3_recordWord σ z 2) (F_X3_recordWord σ z 3) := by
  rw [rec_s hz 1 w1, rec_s hz 2 w2, rec_s hz 3 w3]
  rfl
theorem holds_s {σ : FS} {z : Int32} (hz : sl z) : F_X6_holds σ.1 z = F_X3_isRecordValid σ z := by
  unfold F_X6_holds F_X3_isRecordValid
  rw [check_s hz, rec_s hz 0 w0]
theorem force_s (σ : FS) : F_X6_force σ.1 = F_X3_recordInForce σ := by
  unfold F_X6_force F_X3_recordInForce
  rw [holds_s sl_0, holds_s sl_1, rec_s sl_0 1 w1, rec_s sl_1 1 w1]
  rw [show (58 + 4 * 0 + 1 : Int32) = 59 from by decide, show (58 + 4 * 1 + 1 : Int32) = 63 from by decide]
  by_cases c1 : rd σ.1 63 ≤ rd σ.1 59
  · rw [if_pos c1]
    by_cases c2 : F_X3_isRecordValid σ 1 = 0
    · rw [if_pos c2, if_pos c2]
    · rw [if_neg c2, if_neg c2]
      by_cases c3 : F_X3_isRecordValid σ 0 = 0
      · rw [if_pos c3, if_pos c3]
      · rw [if_neg c3, if_neg c3, if_pos c1]
  · rw [if_neg c1]
    by_cases c2 : F_X3_isRecordValid σ 1 = 0
    · rw [if_pos c2, if_pos c2]
    · rw [if_neg c2, if_neg c2]
      by_cases c3 : F_X3_isRecordValid σ 0 = 0
      · rw [if_pos c3]
      · rw [if_neg c3, if_neg c1]
theorem force_r (σ : FS) : sl (F_X3_recordInForce σ) := by rw [← force_s]; exact force_sl _
theorem inForce_s (σ : FS) (k : Int32) (hk : vp_in k 4) : F_X6_inForce σ.1 k = F_X3_recordWord σ (F_X3_recordInForce σ) k := by
  unfold F_X6_inForce
  rw [rec_s (force_r σ) k hk, force_s]
theorem counter_s (σ : FS) : F_X6_inForce σ.1 3 = F_X3_recordCounter σ := inForce_s σ 3 w3
/-- the state of the record in force is no negative number -/
theorem state_nn {σ : FS} (h : okW σ.1) : ∃ n, n < 2 ^ 31 ∧ F_X3_recordWord σ (F_X3_recordInForce σ) 2 = nI n := by
  rw [← inForce_s σ 2 w2]
  unfold F_X6_inForce
  have e0 : (0 : Int32).toInt = 0 := rfl
  rcases force_sl σ.1 with z | z <;> rw [z]
  · exact nI_of (fun y => by have := Int32.lt_iff_toInt_lt.mp y; have := h.1.1; have e : (rd σ.1 (58 + 4 * 0 + 2)).toInt = (σ.1 60).toInt := rfl; omega)
  · exact nI_of (fun y => by have := Int32.lt_iff_toInt_lt.mp y; have := h.1.2; have e : (rd σ.1 (58 + 4 * 1 + 2)).toInt = (σ.1 64).toInt := rfl; omega)
theorem conf_s {σ : FS} (h : okW σ.1) : F_X6_confirmedSlot σ.1 = F_X3_confirmedSlot σ := by
  unfold F_X6_confirmedSlot F_X3_confirmedSlot F_X3_confirmedIn
  rw [inForce_s σ 2 w2]
  obtain ⟨n, hn, e⟩ := state_nn h
  rw [e, show (2 : Int32) = nI 2 from rfl, pk_rem hn (by decide) (by decide), pk_andN (m := 1) (by omega) 1 (by decide)]
theorem due_n {n : Nat} (hn : n < 2 ^ 31) : ((nI n / 2 - nI n / 2 / 2 * 2) = 1) ↔ ¬ (nI n &&& 2) = 0 := by
  rw [show (2 : Int32) = nI 2 from rfl, pk_div hn (by decide) (by decide), pk_rem (by omega) (by decide) (by decide)]
  have h2 : nI n &&& nI 2 = nI (n &&& 2) := by
    refine Int32.toBitVec_inj.mp ?_
    rw [Int32.toBitVec_and]
    refine BitVec.eq_of_toNat_eq ?_
    rw [BitVec.toNat_and, pk_tn (by omega), pk_tn (by decide), pk_tn (Nat.lt_of_le_of_lt Nat.and_le_left (by omega))]
  rw [h2, show (1 : Int32) = nI 1 from rfl, show (0 : Int32) = nI 0 from rfl, nI_eq (by omega) (by decide), nI_eq (Nat.lt_of_le_of_lt Nat.and_le_left hn) (by decide)]
  have h3 : n &&& 2 = 2 * (n / 2 % 2) := by
    have q1 : (n &&& 2) / 2 = n / 2 &&& 1 := Nat.and_div_two
    have q2 : (n &&& 2) % 2 ^ 1 = (n % 2 ^ 1) &&& (2 % 2 ^ 1) := Nat.and_mod_two_pow
    rw [Nat.and_one_is_mod] at q1
    rw [show (2 % 2 ^ 1 : Nat) = 0 from rfl, Nat.and_zero] at q2
    omega
  rw [h3]
  omega
theorem due_s {σ : FS} (h : okW σ.1) : F_X6_isDue σ.1 = F_X3_isTrialDue σ := by
  unfold F_X6_isDue F_X3_isTrialDue F_X3_isTrialIn
  rw [inForce_s σ 2 w2]
  obtain ⟨n, hn, e⟩ := state_nn h
  rw [e]
  by_cases c : (nI n &&& 2) = 0
  · rw [if_pos c, if_neg (fun z => (due_n hn).mp z c)]
  · rw [if_neg c, if_pos ((due_n hn).mpr c)]
theorem tries_s {σ : FS} (h : okW σ.1) : F_X6_triesLeft σ.1 = F_X3_triesLeft σ := by
  unfold F_X6_triesLeft F_X3_triesLeft F_X3_triesIn
  rw [due_s h]
  unfold F_X3_isTrialDue
  rw [inForce_s σ 2 w2]
  obtain ⟨n, hn, e⟩ := state_nn h
  rw [e]
  by_cases c : F_X3_isTrialIn (nI n) = 0
  · rw [if_pos c, if_pos c]
  · rw [if_neg c, if_neg c, show (4 : Int32) = nI 4 from rfl, pk_div hn (by decide) (by decide), pk_shrN hn (2 &&& 31) 2 (by decide)]
theorem confS_sl {σ : FS} (h : okW σ.1) : sl (F_X3_confirmedSlot σ) := by rw [← conf_s h]; exact conf_sl h
/-- the reference's 'willTry', in the class's words -/
theorem will_s {σ : FS} (h : okW σ.1) : (F_X6_willTry σ.1 (F_X6_confirmedSlot σ.1) = 0 ∧ F_X3_slotToStart σ = F_X3_confirmedSlot σ) ∨ (F_X6_willTry σ.1 (F_X6_confirmedSlot σ.1) = 1 ∧ F_X3_slotToStart σ = 1 - F_X3_confirmedSlot σ ∧ ¬ F_X3_isTrialDue σ = 0 ∧ 0 < F_X3_triesLeft σ) := by
  have hc := confS_sl h
  rw [conf_s h]
  have e1 : F_X3_slotToStart σ = (if F_X3_triesLeft σ ≤ 0 then F_X3_confirmedSlot σ else if F_X3_canStart σ (1 - F_X3_confirmedSlot σ) = 0 then F_X3_confirmedSlot σ else if F_X3_slotWord σ (1 - F_X3_confirmedSlot σ) 4 < F_X3_recordCounter σ then F_X3_confirmedSlot σ else 1 - F_X3_confirmedSlot σ) := rfl
  have e2 : F_X6_willTry σ.1 (F_X3_confirmedSlot σ) = (if F_X3_isTrialDue σ = 0 then 0 else if F_X3_triesLeft σ ≤ 0 then 0 else if F_X3_canStart σ (1 - F_X3_confirmedSlot σ) = 0 then 0 else if F_X3_slotWord σ (1 - F_X3_confirmedSlot σ) 4 < F_X3_recordCounter σ then 0 else 1) := by
    unfold F_X6_willTry
    rw [due_s h, tries_s h, canStart_s (sl_not hc), counter_s, slot_s (sl_not hc) 4 v4]
  rw [e1, e2]
  by_cases c1 : F_X3_isTrialDue σ = 0
  · have c2 : F_X3_triesLeft σ ≤ 0 := by
      have : F_X3_triesLeft σ = 0 := by
        unfold F_X3_triesLeft F_X3_triesIn
        exact if_pos c1
      rw [this]; decide
    left
    rw [if_pos c1, if_pos c2]
    exact ⟨rfl, rfl⟩
  · rw [if_neg c1]
    by_cases c2 : F_X3_triesLeft σ ≤ 0
    · left; rw [if_pos c2, if_pos c2]; exact ⟨rfl, rfl⟩
    · rw [if_neg c2, if_neg c2]
      by_cases c3 : F_X3_canStart σ (1 - F_X3_confirmedSlot σ) = 0
      · left; rw [if_pos c3, if_pos c3]; exact ⟨rfl, rfl⟩
      · rw [if_neg c3, if_neg c3]
        by_cases c4 : F_X3_slotWord σ (1 - F_X3_confirmedSlot σ) 4 < F_X3_recordCounter σ
        · left; rw [if_pos c4, if_pos c4]; exact ⟨rfl, rfl⟩
        · right; rw [if_neg c4, if_neg c4]; exact ⟨rfl, rfl, c1, Int32.not_le.mp c2⟩
theorem next_s {σ : FS} (h : okW σ.1) : F_X6_nextStart σ.1 = F_X3_slotToStart σ := by
  unfold F_X6_nextStart
  rcases will_s h with ⟨a, b⟩ | ⟨a, b, -, -⟩
  · rw [if_pos a, b, conf_s h]
  · rw [if_neg (by rw [a]; decide), b, conf_s h]
