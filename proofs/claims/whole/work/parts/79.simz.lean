section SIMZ
variable {σ ρ : FS} {τ : TS} {δ : DS} {run : Int32}
theorem safe_n {kp : Nat → Int32} {p0 : Int32} (ok : okW σ.1) (hr : sl run) (hn : 0 ≤ τ.2.1.toInt ∧ τ.2.1.toInt ≤ 24) (hp : ¬ F_X6_in p0 1 3 = 0) (cm : Int32) : ∀ (n j : Nat) (on lf wt : Int32) (ρ : FS) (sf : Int32), j + n ≤ 10 → ∃ l w, msN (mirr kp σ.1 66) run cm τ.1 τ.2.1 τ.2.2.1 τ.2.2.2.1 p0 n j σ.1 on lf wt sf = ((sfN σ τ (1 - run) p0 n j ρ sf).1, σ.1, if n = 0 then on else 1, l, w)
  | 0, j, on, lf, wt, ρ, sf, _ => ⟨lf, wt, rfl⟩
  | n + 1, j, on, lf, wt, ρ, sf, h => by
    have hg := sl_not hr
    have hR : R66 σ.1 (σ.1, wt, nI j) (F_X2_chooseFailure (F_X3_mirror ρ σ) (nI j)) := by
      refine ⟨fun i hi => ?_, rfl, fun i hi => rfl⟩
      show σ.1 i = mirr ρ.1 σ.1 66 i
      unfold mirr
      rw [if_pos hi]
    have hz := upd_0 (σ := (σ.1, wt, nI j)) hg τ p0 (j := j) rfl (by omega)
    have he := upd_q hR hg τ p0
    have ho := update_ok (σ := (σ.1, wt, nI j)) ok hr hn hp
    have hf := finishes_s (σ.1, wt, nI j) τ on run cm p0 ok hr hn
    rw [msN, sfN]
    dsimp only at hf
    rw [hf]
    generalize F_X3_writeUpdate (σ.1, wt, nI j) τ (1 - run) p0 = x at hz he ho ⊢
    generalize F_X3_writeUpdate (F_X2_chooseFailure (F_X3_mirror ρ σ) (nI j)) τ (1 - run) p0 = y at he ⊢
    obtain ⟨r, s1⟩ := x
    obtain ⟨r', s2⟩ := y
    obtain ⟨-, h2⟩ := he
    dsimp only at hz h2 ho ⊢
    rw [md_0 hz]
    dsimp only
    have e1 : mirr s1.1 (mirr kp σ.1 66) 66 = σ.1 := by
      funext i
      unfold mirr
      by_cases c : i < 66
      · rw [if_pos c, if_pos c]
      · rw [if_neg c]; exact h2.2.2 i c
    rw [e1, if_pos rfl, next_s ho, canStart_s (by rw [← next_s ho]; exact nextStart_sl ho)]
    rw [← start_q h2 ho, ← can_q h2 (by rw [← next_s ho]; exact nextStart_sl ho)]
    by_cases c : F_X3_canStart s1 (F_X3_slotToStart s1) = 0
    · rw [if_pos c, if_pos c, Int32.add_zero]
      obtain ⟨l, w, e⟩ := safe_n ok hr hn hp cm n (j + 1) 1 s1.2.2 s1.2.1 s2 sf (by omega)
      refine ⟨l, w, ?_⟩
      rw [e, ite_self]
      rfl
    · rw [if_neg c, if_neg c]
      obtain ⟨l, w, e⟩ := safe_n ok hr hn hp cm n (j + 1) 1 s1.2.2 s1.2.1 s2 (sf + 1) (by omega)
      refine ⟨l, w, ?_⟩
      rw [e, ite_self]
      rfl
theorem safe_s (I : Inv σ τ δ run) (kp : Nat → Int32) (p0 : Int32) : ∃ kp1, F_X6_safeFinish σ.1 kp (mOn run) run σ.2.2 σ.2.1 τ.1 τ.2.1 τ.2.2.1 τ.2.2.2.1 (mCm τ) p0 = ((F_X5_safeFinish σ ρ τ run p0).2.1, σ.1, kp1, mOn run, run, σ.2.2, σ.2.1, mCm τ, (F_X5_safeFinish σ ρ τ run p0).1) := by
  obtain ⟨h0, h1⟩ := can_s I p0
  unfold F_X6_safeFinish F_X5_safeFinish F_X5_idleSlot
  rw [h0]
  by_cases c1 : F_X6_in p0 1 3 = 0
  · rw [if_pos c1, if_neg one0, c1, goes_a]
    exact ⟨kp, rfl⟩
  rw [if_neg c1]
  by_cases c2 : F_X6_canFinish σ.1 run τ.2.1 τ.2.2.1 (mCm τ) = 0
  · rw [if_pos c2, if_neg (show ¬ (2 : Int32) = 0 from by decide), c2, goes_b c1]
    exact ⟨kp, rfl⟩
  rw [if_neg c2, if_pos rfl, goes_c c1 c2]
  obtain ⟨hr, hn⟩ := h1 c2
  obtain ⟨l, w, e⟩ := safe_n (kp := kp) I.1 hr hn c1 (mCm τ) 10 0 (mOn run) σ.2.2 σ.2.1 ρ 0 (by omega)
  have e10 : (if (10 : Nat) = 0 then mOn run else (1 : Int32)) = 1 := if_neg (by omega)
  rw [e10] at e
  refine ⟨mirr kp σ.1 66, ?_⟩
  dsimp only
  rw [if_neg one0, e, mOn_1 hr]
/-! the draft and the delta -/
theorem draft_s (I : Inv σ τ δ run) (p0 : Int32) : F_X6_draft δ.2 δ.1 p0 = (match F_X5_draft δ p0 with | (k, r, δ1) => (r, δ1.2, δ1.1, k)) ∧ Inv σ τ (F_X5_draft δ p0).2.2 run ∧ (¬ (F_X5_draft δ p0).1 = 0 → (F_X5_draft δ p0).2.2 = δ) := by
  obtain ⟨d, ed, hd⟩ := I.2.2.2
  have l24 : (24 : Int32) ≤ δ.1 ↔ 24 ≤ d := by rw [ed]; exact nI_leI (a := 24) (by omega) (by omega)
  unfold F_X6_draft F_X5_draft F_X1_isFull F_X1_append
  by_cases c1 : F_X6_in p0 0 255 = 0
  · rw [c1, within_0 c1, if_neg one0, goes_a, goes_a]
    refine ⟨?_, I, fun _ => rfl⟩
    split <;> rfl
  rw [within_1 c1, if_pos rfl]
  by_cases c2 : (24 : Int32) ≤ δ.1
  · rw [if_pos c2, if_neg (Int32.not_lt.mpr c2), if_neg one0, goes_b c1]
    exact ⟨rfl, I, fun _ => rfl⟩
  · rw [if_neg c2, if_pos (Int32.not_le.mp c2), if_pos rfl, goes_c c1 one0, if_neg (show ¬ δ.1 < 0 from by rw [ed]; exact nI_pos (by omega)), if_neg c2]
    exact ⟨rfl, ⟨I.1, I.2.1, I.2.2.1, d + 1, by show δ.1 + 1 = _; rw [ed]; exact nI_1 d, by rw [l24] at c2; omega⟩, fun z => absurd rfl z⟩
theorem draftHash_s (I : Inv σ τ δ run) : F_X6_draftHash δ.2 δ.1 = (F_X5_draftHash δ, 0) := by
  obtain ⟨d, ed, hd⟩ := I.2.2.2
  unfold F_X6_draftHash F_X5_draftHash F_X1_hash
  rw [hash_c _ (fun k hk => (byte_s (δ := δ) (by rw [ed, nI_clamp (by omega)] at hk; omega)).symm)]
theorem slot_of {z : Int32} (h : ¬ F_X6_isSlot z = 0) : sl z := isSlot_sl h
theorem canStart_L {z : Int32} (hz : sl z) (h : ¬ F_X3_canStart σ z = 0) : ∃ L, rd σ.1 (29 * z + 2) = nI L ∧ L ≤ 24 ∧ 1 ≤ L := by
  unfold F_X3_canStart at h
  rw [slot_s hz 2 v2] at h
  split at h
  · by_cases c1 : rd σ.1 (29 * z + 2) < 1
    · rw [if_pos c1] at h; exact absurd rfl h
    · rw [if_neg c1] at h
      by_cases c2 : 24 < rd σ.1 (29 * z + 2)
      · rw [if_pos c2] at h; exact absurd rfl h
      · obtain ⟨q, e, h1, h2⟩ := in_nat (p := rd σ.1 (29 * z + 2)) (by unfold F_X6_in; rw [if_neg c1, if_neg c2]; decide)
        refine ⟨q, e, ?_, h1⟩
        rw [e] at c2
        exact (nI_leI (b := 24) (by omega) (by omega)).mp (Int32.not_lt.mp c2)
  · exact absurd rfl h
theorem startable_s (z : Int32) : F_X5_requireStartable σ z = (if F_X6_isSlot z = 0 then 1 else if F_X6_canStart σ.1 z = 0 then 2 else 0) := by
  unfold F_X5_requireStartable F_X6_isSlot
  by_cases c : F_X6_in z 0 1 = 0
  · rw [within_0 c, if_neg one0, if_pos c]
  · rw [within_1 c, if_pos rfl, if_neg c, canStart_s (slot_of c)]
end SIMZ
