section SIMD2
variable {σ ρ : FS} {τ : TS} {δ : DS} {run : Int32}
theorem delta_h (I : Inv σ τ δ run) {z : Int32} (hz : sl z) (hs : ¬ F_X6_canStart σ.1 z = 0) : ∃ d, δ.1 = nI d ∧ d ≤ 24 ∧ (∀ A, A < d → ∃ q, F_X0_pieceLength δ σ z (nI A) = nI q ∧ 1 ≤ q ∧ A + q ≤ d) ∧ (∀ A, A < d → F_X6_pieceLength σ.1 δ.2 δ.1 z (nI A) = F_X0_pieceLength δ σ z (nI A)) ∧ (∀ A, A < d → (if F_X6_pieceLength σ.1 δ.2 δ.1 z (nI A) ≤ 1 then -1 else F_X6_bestFrom σ.1 δ.2 δ.1 z (nI A)) = F_X0_runFrom δ σ z (nI A)) := by
  obtain ⟨d, ed, hd⟩ := I.2.2.2
  rw [canStart_s hz] at hs
  obtain ⟨L, eL, hL, h1⟩ := canStart_L hz hs
  exact ⟨d, ed, hd, fun A hA => (piece_s hz ed hd eL hL h1 hA).2.1, fun A hA => (piece_s hz ed hd eL hL h1 hA).1, fun A hA => (piece_s hz ed hd eL hL h1 hA).2.2⟩
theorem count_e (I : Inv σ τ δ run) {z : Int32} (hz : sl z) (hs : ¬ F_X6_canStart σ.1 z = 0) : F_X6_countPieces σ.1 δ.2 δ.1 z = F_X0_pieceCount δ σ z := by
  obtain ⟨d, ed, hd, hf, hg, -⟩ := delta_h I hz hs
  have h := pcN_c (f := fun st => F_X0_pieceLength δ σ z st) (g := fun q => F_X6_pieceLength σ.1 δ.2 δ.1 z q) hd hf hg 24 0 0 (Nat.zero_le _)
  rw [← ed, nI_0] at h
  exact h
theorem pieces_s (I : Inv σ τ δ run) (p0 : Int32) : F_X6_deltaPieces σ.1 δ.2 δ.1 p0 = ((F_X5_deltaPieces σ δ p0).2, (F_X5_deltaPieces σ δ p0).1) := by
  unfold F_X6_deltaPieces F_X5_deltaPieces
  rw [startable_s]
  by_cases c : F_X6_isSlot p0 = 0
  · rw [if_pos c, if_pos c, if_neg one0, c, goes_a]
  rw [if_neg c, if_neg c]
  by_cases c2 : F_X6_canStart σ.1 p0 = 0
  · rw [if_pos c2, if_pos c2, if_neg (show ¬ (2 : Int32) = 0 from by decide), goes_b c]
  rw [if_neg c2, if_neg c2, if_pos rfl, goes_c c one0]
  dsimp only
  rw [if_neg one0, count_e I (slot_of c) c2]
/-- the piece's place: both say that there is none, or both say where -/
theorem place_s (I : Inv σ τ δ run) {z : Int32} (p : Int32) (hz : sl z) (hs : ¬ F_X6_canStart σ.1 z = 0) : (F_X6_in p 0 (F_X6_countPieces σ.1 δ.2 δ.1 z - 1) = 0 ∧ F_X0_pieceStart δ σ z p = -1) ∨ (¬ F_X6_in p 0 (F_X6_countPieces σ.1 δ.2 δ.1 z - 1) = 0 ∧ ∃ B, F_X0_pieceStart δ σ z p = nI B ∧ B < 24 ∧ F_X6_placeOf σ.1 δ.2 δ.1 z p = nI B ∧ F_X6_pieceLength σ.1 δ.2 δ.1 z (nI B) = F_X0_pieceLength δ σ z (nI B) ∧ (if F_X6_pieceLength σ.1 δ.2 δ.1 z (nI B) ≤ 1 then -1 else F_X6_bestFrom σ.1 δ.2 δ.1 z (nI B)) = F_X0_runFrom δ σ z (nI B)) := by
  have he := count_e I hz hs
  obtain ⟨d, ed, hd, hf, hg, hh⟩ := delta_h I hz hs
  obtain ⟨c, hc, k1, k2, k3⟩ := count_s (f := fun st => F_X0_pieceLength δ σ z st) hd hf 24 0 (Nat.zero_le _) (by omega)
  have ec : F_X0_pieceCount δ σ z = nI c := by
    have h := k1 0
    rw [← ed, nI_0, Int32.zero_add] at h
    exact h
  rw [he, ec]
  unfold F_X6_in F_X0_pieceStart
  by_cases c0 : p < 0
  · left; rw [if_pos c0, if_pos c0]; exact ⟨rfl, rfl⟩
  rw [if_neg c0, if_neg c0]
  obtain ⟨i, hi, rfl⟩ := nI_of c0
  rw [nI_clamp hi]
  by_cases c1 : i < c
  · right
    obtain ⟨B, hB, e1, e2⟩ := k2 i c1
    rw [← ed, nI_0] at e1
    have hlt : ¬ nI c - 1 < nI i := by
      obtain ⟨c', rfl⟩ : ∃ c', c = c' + 1 := ⟨c - 1, by omega⟩
      rw [nI_pred]; exact nI_nlt (by omega) (by omega)
    rw [if_neg hlt, e1, if_neg (show ¬ δ.1 ≤ nI B from by rw [ed]; exact nI_ge hB (by omega))]
    refine ⟨one0, B, rfl, by omega, ?_, hg B hB, hh B hB⟩
    unfold F_X6_placeOf
    rw [nI_clamp hi]
    have h := plN_c (f := fun st => F_X0_pieceLength δ σ z st) (g := fun q => F_X6_pieceLength σ.1 δ.2 δ.1 z q) hd hf hg i 0 (fun k hk => by obtain ⟨C, hC, -, e⟩ := k2 k (by omega); exact ⟨C, hC, e⟩)
    rw [e2, nI_0] at h
    exact h
  · left
    have e1 := k3 i (by omega)
    rw [← ed, nI_0] at e1
    have hlt : nI c - 1 < nI i := by
      rcases Nat.eq_zero_or_pos c with y | y
      · subst y
        rw [Int32.lt_iff_toInt_lt, nI_toInt hi]
        show (-1 : Int) < _
        omega
      · obtain ⟨c', rfl⟩ : ∃ c', c = c' + 1 := ⟨c - 1, by omega⟩
        rw [nI_pred]; exact nI_lt (by omega) (by omega)
    rw [if_pos hlt, e1, if_pos (Int32.le_refl _)]
    exact ⟨rfl, rfl⟩
theorem len_s (I : Inv σ τ δ run) (p0 p1 : Int32) : F_X6_deltaLength σ.1 δ.2 δ.1 p0 p1 = ((F_X5_deltaLength σ δ p0 p1).2, (F_X5_deltaLength σ δ p0 p1).1) ∧ F_X6_deltaFrom σ.1 δ.2 δ.1 p0 p1 = ((F_X5_deltaFrom σ δ p0 p1).2, (F_X5_deltaFrom σ δ p0 p1).1) := by
  unfold F_X6_deltaLength F_X5_deltaLength F_X6_deltaFrom F_X5_deltaFrom F_X6_isPiece
  rw [startable_s]
  by_cases c : F_X6_isSlot p0 = 0
  · rw [if_pos c, if_pos c, if_neg one0, if_neg one0, c, goes_a]
    dsimp only
    rw [if_neg one0]
    exact ⟨rfl, rfl⟩
  rw [if_neg c, if_neg c]
  have two : ¬ (2 : Int32) = 0 := by decide
  by_cases c2 : F_X6_canStart σ.1 p0 = 0
  · rw [if_pos c2, if_pos c2, if_neg two, if_neg two, goes_b c]
    dsimp only
    rw [if_neg two]
    exact ⟨rfl, rfl⟩
  rw [if_neg c2, if_neg c2, if_pos rfl, if_pos rfl, goes_c c one0]
  dsimp only
  rw [if_neg one0]
  rcases place_s I p1 (slot_of c) c2 with ⟨a, e⟩ | ⟨a, B, e, hB, e2, e3, e4⟩
  · rw [if_pos a, e]
    exact ⟨rfl, rfl⟩
  · have hn : F_X5_requirePiece (nI B) = 0 := if_neg (fun y => by have := nI_pos (n := B) (by omega); rw [y] at this; exact this (by decide))
    rw [if_neg a, if_pos rfl, e, hn, e2, if_pos rfl, if_pos rfl]
    dsimp only
    rw [if_neg one0, if_neg one0, e3]
    rw [e3] at e4
    refine ⟨rfl, ?_⟩
    rw [← e4]
    split <;> rfl
end SIMD2
