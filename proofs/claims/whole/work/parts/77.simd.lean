section SIMD
variable {σ ρ : FS} {τ : TS} {δ : DS} {run : Int32}
theorem byte_s {i : Nat} (h : i < 24) : F_X1_byteAt δ (nI i) = rd δ.2 (nI i) := by
  unfold F_X1_byteAt
  rw [if_neg (nI_pos (by omega)), if_neg (by have := @nI_ge i 24 (by omega) (by omega); exact this)]
theorem mlN_le (a b : Nat → Int32) : ∀ n j, j ≤ mlN a b n j ∧ mlN a b n j ≤ j + n
  | 0, j => ⟨Nat.le_refl _, Nat.le_refl _⟩
  | n + 1, j => by
    unfold mlN
    split
    · have := mlN_le a b n (j + 1); omega
    · omega
theorem al_ml {z : Int32} (hz : sl z) {d L A B : Nat} (ed : δ.1 = nI d) (hd : d ≤ 24) (eL : rd σ.1 (29 * z + 2) = nI L) (hL : L ≤ 24) (hA : A ≤ d) (hB : B ≤ L) : ∀ (m n j : Nat), j + m = min (d - A) (L - B) → m < n → alN σ.1 δ.2 δ.1 z (nI A) (nI B) n j = mlN (fun j => F_X3_imageWord σ z (nI B + nI j)) (fun j => F_X1_byteAt δ (nI A + nI j)) m j
  | 0, n + 1, j, h, _ => by
    rw [alN, mlN, ed, eL, nI_add, nI_add]
    by_cases c : d ≤ A + j
    · rw [if_pos (nI_le c (by omega))]
    · rw [if_neg (nI_ge (by omega) (by omega)), if_pos (nI_le (by omega) (by omega))]
  | m + 1, n + 1, j, h, hn => by
    rw [alN, mlN, ed, eL, nI_add, nI_add]
    rw [if_neg (nI_ge (by omega) (by omega)), if_neg (nI_ge (by omega) (by omega))]
    rw [byte_s (by omega), image_s hz (vp_in_nI (by omega) (by decide)), Int32.add_assoc (29 * z + 5), nI_add]
    have ih := al_ml hz ed hd eL hL hA hB m n (j + 1) (by omega) (by omega)
    rw [ed] at ih
    by_cases c : rd δ.2 (nI (A + j)) = rd σ.1 (29 * z + 5 + nI (B + j))
    · rw [if_pos c, if_pos c.symm]; exact ih
    · rw [if_neg c, if_neg (fun z => c z.symm)]
theorem alike_s {z : Int32} (hz : sl z) {d L A B : Nat} (ed : δ.1 = nI d) (hd : d ≤ 24) (eL : rd σ.1 (29 * z + 2) = nI L) (hL : L ≤ 24) (hA : A ≤ d) (hB : B ≤ L) : F_X6_alike σ.1 δ.2 δ.1 z (nI A) (nI B) = F_X0_matchLength δ σ z (nI B) (nI A) ∧ ∃ q, F_X0_matchLength δ σ z (nI B) (nI A) = nI q ∧ A + q ≤ d ∧ q ≤ 24 := by
  have em : (F_X0_most δ σ z (nI B) (nI A)).toNatClampNeg = min (d - A) (L - B) := by
    unfold F_X0_most
    rw [slot_s hz 2 v2, ed, eL, pk_sub hA, pk_sub hB]
    by_cases c : d - A < L - B
    · rw [if_pos ((nI_ltI (by omega) (by omega)).mpr c), nI_clamp (by omega)]; omega
    · rw [if_neg (fun y => c ((nI_ltI (by omega) (by omega)).mp y)), nI_clamp (by omega)]; omega
  unfold F_X6_alike F_X0_matchLength
  rw [em]
  refine ⟨by rw [al_ml hz ed hd eL hL hA hB (min (d - A) (L - B)) 25 0 (by omega) (by omega)], _, rfl, ?_⟩
  have := (mlN_le (fun j => F_X3_imageWord σ z (nI B + nI j)) (fun j => F_X1_byteAt δ (nI A + nI j)) (min (d - A) (L - B)) 0).2
  omega
theorem bfM_le (f : Nat → Int32) : ∀ n, bfN f n ≤ n
  | 0 => Nat.le_refl _
  | n + 1 => by
    unfold bfN
    split
    · have := bfM_le f n; omega
    · omega
theorem bfN_c {f g : Nat → Int32} : ∀ n, (∀ k, k ≤ n → f k = g k) → bfN f n = bfN g n
  | 0, _ => rfl
  | n + 1, h => by
    have h1 := bfN_c n (fun k hk => h k (by omega))
    have h2 := bfM_le g n
    rw [bfN, bfN, h1, h (n + 1) (by omega), h (bfN g n) (by omega)]
theorem rfN_c {f g : Nat → Int32} : ∀ n, (∀ k, k < n → f k = g k) → rfN f n = rfN g n
  | 0, _ => rfl
  | n + 1, h => by
    rw [rfN, rfN, rfN_c n (fun k hk => h k (by omega)), h n (by omega)]
theorem two_le {x : Int32} : 2 ≤ x ↔ ¬ x ≤ 1 := by
  have e1 : (1 : Int32).toInt = 1 := rfl
  have e2 : (2 : Int32).toInt = 2 := rfl
  rw [Int32.le_iff_toInt_le, Int32.le_iff_toInt_le, e1, e2]
  omega
theorem best_run (ml : Nat → Int32) : ∀ n, (2 ≤ ml (bfN ml n) ∧ rfN ml (n + 1) = (ml (bfN ml n), nI (bfN ml n))) ∨ (¬ 2 ≤ ml (bfN ml n) ∧ rfN ml (n + 1) = (1, -1))
  | 0 => by
    rw [rfN, bfN, rfN]
    by_cases c : ml 0 ≤ 1
    · right; rw [if_pos c]; exact ⟨fun z => two_le.mp z c, rfl⟩
    · left; rw [if_neg c]; exact ⟨two_le.mpr c, rfl⟩
  | n + 1 => by
    rw [rfN, bfN]
    rcases best_run ml n with ⟨h, e⟩ | ⟨h, e⟩ <;> rw [e]
    · left
      by_cases c : ml (n + 1) ≤ ml (bfN ml n)
      · rw [if_pos c, if_pos c]; exact ⟨h, rfl⟩
      · rw [if_neg c, if_neg c]; exact ⟨Int32.le_trans h (Int32.le_of_lt (Int32.not_le.mp c)), rfl⟩
    · have h1 : ml (bfN ml n) ≤ 1 := Classical.byContradiction (fun z => h (two_le.mpr z))
      by_cases c : ml (n + 1) ≤ ml (bfN ml n)
      · right; rw [if_pos c, if_pos (Int32.le_trans c h1)]; exact ⟨h, rfl⟩
      · rw [if_neg c]
        by_cases c2 : ml (n + 1) ≤ 1
        · right; rw [if_pos c2]; exact ⟨fun z => two_le.mp z c2, rfl⟩
        · left; rw [if_neg c2]; exact ⟨two_le.mpr c2, rfl⟩
/-- the piece that begins at A: the same length, the same place, and it fits -/
theorem piece_s {z : Int32} (hz : sl z) {d L A : Nat} (ed : δ.1 = nI d) (hd : d ≤ 24) (eL : rd σ.1 (29 * z + 2) = nI L) (hL : L ≤ 24) (h1 : 1 ≤ L) (hA : A < d) : F_X6_pieceLength σ.1 δ.2 δ.1 z (nI A) = F_X0_pieceLength δ σ z (nI A) ∧ (∃ q, F_X0_pieceLength δ σ z (nI A) = nI q ∧ 1 ≤ q ∧ A + q ≤ d) ∧ (if F_X6_pieceLength σ.1 δ.2 δ.1 z (nI A) ≤ 1 then -1 else F_X6_bestFrom σ.1 δ.2 δ.1 z (nI A)) = F_X0_runFrom δ σ z (nI A) := by
  have hm : ∀ k, k < L → (fun k => F_X6_alike σ.1 δ.2 δ.1 z (nI A) (nI k)) k = (fun k => F_X0_matchLength δ σ z (nI k) (nI A)) k := fun k hk => (alike_s hz ed hd eL hL (by omega) (by omega)).1
  have hb : F_X6_bestFrom σ.1 δ.2 δ.1 z (nI A) = nI (bfN (fun k => F_X0_matchLength δ σ z (nI k) (nI A)) (L - 1)) := by
    unfold F_X6_bestFrom
    rw [eL, nI_clamp (by omega), bfN_c (L - 1) (fun k hk => hm k (by omega))]
  have hr : F_X0_runFrom δ σ z (nI A) = (rfN (fun k => F_X0_matchLength δ σ z (nI k) (nI A)) ((L - 1) + 1)).2 := by
    unfold F_X0_runFrom
    rw [slot_s hz 2 v2, eL, nI_clamp (by omega), Nat.min_eq_left hL, show L - 1 + 1 = L from by omega]
  have hB := bfM_le (fun k => F_X0_matchLength δ σ z (nI k) (nI A)) (L - 1)
  have hq := best_run (fun k => F_X0_matchLength δ σ z (nI k) (nI A)) (L - 1)
  generalize bfN (fun k => F_X0_matchLength δ σ z (nI k) (nI A)) (L - 1) = B at hb hB hq
  obtain ⟨ha, q, eq, hq1, hq2⟩ := alike_s (σ := σ) hz ed hd eL hL (A := A) (B := B) (by omega) (by omega)
  unfold F_X6_pieceLength F_X0_pieceLength
  rw [hb, ha, hr]
  rcases hq with ⟨h, e⟩ | ⟨h, e⟩ <;> rw [e] <;> dsimp only
  · rw [if_pos h, if_neg (show ¬ nI B = -1 from fun y => by have := nI_pos (n := B) (by omega); rw [y] at this; exact this (by decide)), if_neg (two_le.mp h)]
    refine ⟨rfl, ⟨q, eq, ?_, hq1⟩, rfl⟩
    rw [eq] at h
    have := (nI_leI (a := 2) (b := q) (by omega) (by omega)).mp h
    omega
  · rw [if_neg h, if_pos rfl, if_pos (show (1 : Int32) ≤ 1 from by decide)]
    exact ⟨rfl, ⟨1, rfl, by omega, by omega⟩, rfl⟩
theorem count_s {f : Int32 → Int32} {d : Nat} (hd : d ≤ 24) (hf : ∀ A, A < d → ∃ q, f (nI A) = nI q ∧ 1 ≤ q ∧ A + q ≤ d) : ∀ (n A : Nat), A ≤ d → d - A ≤ n → ∃ c, c ≤ d - A ∧ (∀ p, pcN f (nI d) n (nI A) p = p + nI c) ∧ (∀ i, i < c → ∃ B, B < d ∧ psN f (nI d) i (nI A) = nI B ∧ plN f i (nI A) = nI B) ∧ (∀ i, c ≤ i → psN f (nI d) i (nI A) = nI d)
  | 0, A, h1, h2 => by
    have e : A = d := by omega
    subst e
    refine ⟨0, Nat.zero_le _, fun p => by rw [pcN, nI_0, Int32.add_zero], fun i h => absurd h (Nat.not_lt_zero _), fun i _ => ?_⟩
    cases i with
    | zero => rfl
    | succ i => rw [psN, if_pos (nI_le (Nat.le_refl _) (by omega))]
  | n + 1, A, h1, h2 => by
    by_cases e : A = d
    · subst e
      refine ⟨0, Nat.zero_le _, fun p => by rw [pcN, if_pos (nI_le (Nat.le_refl _) (by omega)), nI_0, Int32.add_zero], fun i h => absurd h (Nat.not_lt_zero _), fun i _ => ?_⟩
      cases i with
      | zero => rfl
      | succ i => rw [psN, if_pos (nI_le (Nat.le_refl _) (by omega))]
    · obtain ⟨q, eq, hq1, hq2⟩ := hf A (by omega)
      obtain ⟨c, hc, k1, k2, k3⟩ := count_s hd hf n (A + q) hq2 (by omega)
      have hne : ¬ nI d ≤ nI A := nI_ge (by omega) (by omega)
      refine ⟨c + 1, by omega, fun p => ?_, fun i hi => ?_, fun i hi => ?_⟩
      · rw [pcN, if_neg hne, eq, nI_add, k1, Int32.add_assoc, show (1 : Int32) = nI 1 from rfl, nI_add, Nat.add_comm 1 c]
      · cases i with
        | zero => exact ⟨A, by omega, rfl, rfl⟩
        | succ i =>
          obtain ⟨B, hB, e1, e2⟩ := k2 i (by omega)
          exact ⟨B, hB, by rw [psN, if_neg hne, eq, nI_add, e1], by rw [plN, eq, nI_add, e2]⟩
      · cases i with
        | zero => exact absurd hi (by omega)
        | succ i => rw [psN, if_neg hne, eq, nI_add, k3 i (by omega)]
theorem pcN_c {f g : Int32 → Int32} {d : Nat} (hd : d ≤ 24) (hf : ∀ A, A < d → ∃ q, f (nI A) = nI q ∧ 1 ≤ q ∧ A + q ≤ d) (hg : ∀ A, A < d → g (nI A) = f (nI A)) : ∀ (n A : Nat) (p : Int32), A ≤ d → pcN g (nI d) n (nI A) p = pcN f (nI d) n (nI A) p
  | 0, _, _, _ => rfl
  | n + 1, A, p, h => by
    rw [pcN, pcN]
    by_cases e : A = d
    · subst e
      rw [if_pos (nI_le (Nat.le_refl _) (by omega)), if_pos (nI_le (Nat.le_refl _) (by omega))]
    · obtain ⟨q, eq, hq1, hq2⟩ := hf A (by omega)
      have hne : ¬ nI d ≤ nI A := nI_ge (by omega) (by omega)
      rw [if_neg hne, if_neg hne, hg A (by omega), eq, nI_add]
      exact pcN_c hd hf hg n (A + q) _ hq2
theorem plN_c {f g : Int32 → Int32} {d : Nat} (hd : d ≤ 24) (hf : ∀ A, A < d → ∃ q, f (nI A) = nI q ∧ 1 ≤ q ∧ A + q ≤ d) (hg : ∀ A, A < d → g (nI A) = f (nI A)) : ∀ (i A : Nat), (∀ k, k < i → ∃ B, B < d ∧ plN f k (nI A) = nI B) → plN g i (nI A) = plN f i (nI A)
  | 0, _, _ => rfl
  | i + 1, A, h => by
    obtain ⟨B, hB, e⟩ := h 0 (by omega)
    have hA : nI A = nI B := e
    rw [plN, plN, hA, hg B hB]
    obtain ⟨q, eq, hq1, hq2⟩ := hf B hB
    rw [eq, nI_add]
    refine plN_c hd hf hg i (B + q) (fun k hk => ?_)
    obtain ⟨C, hC, e2⟩ := h (k + 1) (by omega)
    rw [plN, hA, eq, nI_add] at e2
    exact ⟨C, hC, e2⟩
end SIMD
