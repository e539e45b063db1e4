/-- two flashes that agree: the words, the failure to come; the first one's rest is b -/
def R66 (b : Nat → Int32) (σ σ' : FS) : Prop := (∀ i, i < 66 → σ.1 i = σ'.1 i) ∧ σ.2.2 = σ'.2.2 ∧ ∀ i, ¬ i < 66 → σ.1 i = b i
section SIMS
variable {σ σ' ρ : FS} {τ : TS} {δ : DS} {run : Int32} {b : Nat → Int32}
theorem rd_q (h : R66 b σ σ') {i : Int32} (hi : vp_in i 66) : rd σ.1 i = rd σ'.1 i := by
  obtain ⟨j, hj, rfl⟩ := vp_in_of hi (by decide)
  unfold rd
  rw [nI_clamp (by omega)]
  exact h.1 j hj
theorem wr_q (h : R66 b σ σ') {i v l w w' : Int32} (hi : vp_in i 66) : R66 b (wr σ.1 i v, w, l) (wr σ'.1 i v, w', l) := by
  obtain ⟨j, hj, rfl⟩ := vp_in_of hi (by decide)
  have e := nI_clamp (n := j) (by omega)
  refine ⟨fun i hi => ?_, rfl, fun i hi => ?_⟩
  · show wr σ.1 (nI j) v i = wr σ'.1 (nI j) v i
    unfold wr upd
    rw [e]
    by_cases c : i = j
    · rw [if_pos c, if_pos c]
    · rw [if_neg c, if_neg c]; exact h.1 i hi
  · show wr σ.1 (nI j) v i = b i
    unfold wr upd
    rw [e, if_neg (by omega)]
    exact h.2.2 i hi
theorem write_q (h : R66 b σ σ') {i v : Int32} (hi : vp_in i 66) : (F_X2_write σ i v).1 = (F_X2_write σ' i v).1 ∧ R66 b (F_X2_write σ i v).2 (F_X2_write σ' i v).2 := by
  rw [write_in hi, write_in hi, ← h.2.1, ← rd_q h hi]
  by_cases c : σ.2.2 = 0
  · rw [if_pos c, if_pos c]; exact ⟨rfl, wr_q h hi⟩
  · rw [if_neg c, if_neg c]; exact ⟨rfl, wr_q h hi⟩
def E66 (b : Nat → Int32) (x y : Int32 × FS) : Prop := x.1 = y.1 ∧ R66 b x.2 y.2
theorem wrw_q (h : R66 b σ σ') {z k v : Int32} (hz : sl z) (hk : vp_in k 4) : E66 b (F_X3_writeRecordWord σ z k v) (F_X3_writeRecordWord σ' z k v) := by
  rw [wRec, wRec]; exact write_q h (vi_r hz k hk)
theorem wsw_q (h : R66 b σ σ') {z k v : Int32} (hz : sl z) (hk : vp_in k 29) : E66 b (F_X3_writeSlotWord σ z k v) (F_X3_writeSlotWord σ' z k v) := by
  rw [wSlot, wSlot]; exact write_q h (vi_c hz k hk)
theorem slot_q (h : R66 b σ σ') {z k : Int32} (hz : sl z) (hk : vp_in k 29) : F_X3_slotWord σ z k = F_X3_slotWord σ' z k := by
  rw [slot_s hz k hk, slot_s hz k hk]; exact rd_q h (vi_c hz k hk)
theorem recw_q (h : R66 b σ σ') {z k : Int32} (hz : sl z) (hk : vp_in k 4) : F_X3_recordWord σ z k = F_X3_recordWord σ' z k := by
  rw [rec_s hz k hk, rec_s hz k hk]; exact rd_q h (vi_r hz k hk)
theorem valid_q (h : R66 b σ σ') {z : Int32} (hz : sl z) : F_X3_isRecordValid σ z = F_X3_isRecordValid σ' z := by
  unfold F_X3_isRecordValid
  rw [recw_q h hz w0, recw_q h hz w1, recw_q h hz w2, recw_q h hz w3]
theorem force_q (h : R66 b σ σ') : F_X3_recordInForce σ = F_X3_recordInForce σ' := by
  unfold F_X3_recordInForce
  rw [valid_q h sl_0, valid_q h sl_1, recw_q h sl_0 w1, recw_q h sl_1 w1]
theorem inf_q (h : R66 b σ σ') {k : Int32} (hk : vp_in k 4) : F_X3_recordWord σ (F_X3_recordInForce σ) k = F_X3_recordWord σ' (F_X3_recordInForce σ') k := by
  rw [← force_q h]; exact recw_q h (force_r σ) hk
theorem hashN_c {f g : Nat → Int32} : ∀ n, (∀ k, k < n → f k = g k) → hashN f n = hashN g n
  | 0, _ => rfl
  | n + 1, h => by
    unfold hashN
    rw [hashN_c n (fun k hk => h k (by omega)), h n (by omega)]
theorem can_q (h : R66 b σ σ') {z : Int32} (hz : sl z) : F_X3_canStart σ z = F_X3_canStart σ' z := by
  have e : ∀ n, F_X3_imageHash σ z n = F_X3_imageHash σ' z n := fun n => by
    unfold F_X3_imageHash
    exact hashN_c _ (fun k hk => by rw [image_s hz (vp_in_nI (by omega) (by decide)), image_s hz (vp_in_nI (by omega) (by decide))]; exact rd_q h (vi5 hz (vp_in_nI (by omega) (by decide))))
  unfold F_X3_canStart
  rw [slot_q h hz v0, slot_q h hz v2, slot_q h hz v3, e]
theorem start_q (h : R66 b σ σ') (ok : okW σ.1) : F_X3_slotToStart σ = F_X3_slotToStart σ' := by
  have hc := confS_sl ok
  have e0 : F_X3_confirmedSlot σ' = F_X3_confirmedSlot σ := by
    unfold F_X3_confirmedSlot; rw [inf_q h w2]
  have e1 : ∀ σ : FS, F_X3_slotToStart σ = (if F_X3_triesLeft σ ≤ 0 then F_X3_confirmedSlot σ else if F_X3_canStart σ (1 - F_X3_confirmedSlot σ) = 0 then F_X3_confirmedSlot σ else if F_X3_slotWord σ (1 - F_X3_confirmedSlot σ) 4 < F_X3_recordCounter σ then F_X3_confirmedSlot σ else 1 - F_X3_confirmedSlot σ) := fun _ => rfl
  have e2 : F_X3_triesLeft σ = F_X3_triesLeft σ' := by unfold F_X3_triesLeft; rw [inf_q h w2]
  have e3 : F_X3_recordCounter σ = F_X3_recordCounter σ' := by unfold F_X3_recordCounter; exact inf_q h w3
  rw [e1 σ, e1 σ', e0, e2, e3, can_q h (sl_not hc), slot_q h (sl_not hc) v4]
theorem wrec_q (h : R66 b σ σ') (st bd : Int32) : E66 b (F_X3_writeRecord σ st bd) (F_X3_writeRecord σ' st bd) := by
  have hg := sl_not (force_r σ)
  unfold F_X3_writeRecord
  rw [← inf_q h w1, ← force_q h]
  generalize F_X3_recordWord σ (F_X3_recordInForce σ) 1 + 1 = sq
  generalize 1 - F_X3_recordInForce σ = z at hg ⊢
  have e := wrw_q (v := 0) h hg w0
  generalize F_X3_writeRecordWord σ z 0 0 = x at e ⊢
  generalize F_X3_writeRecordWord σ' z 0 0 = y at e ⊢
  obtain ⟨r, u⟩ := x
  obtain ⟨r', u'⟩ := y
  obtain ⟨e1, h⟩ := e
  dsimp only at e1 h ⊢
  subst e1
  by_cases c : r = 0
  · rw [if_pos c, if_pos c]; exact ⟨rfl, h⟩
  rw [if_neg c, if_neg c]
  clear c
  have e := wrw_q (v := sq) h hg w1
  generalize F_X3_writeRecordWord u z 1 sq = x at e ⊢
  generalize F_X3_writeRecordWord u' z 1 sq = y at e ⊢
  obtain ⟨r, u⟩ := x
  obtain ⟨r', u'⟩ := y
  obtain ⟨e1, h⟩ := e
  dsimp only at e1 h ⊢
  subst e1
  by_cases c : r = 0
  · rw [if_pos c, if_pos c]; exact ⟨rfl, h⟩
  rw [if_neg c, if_neg c]
  clear c
  have e := wrw_q (v := st) h hg w2
  generalize F_X3_writeRecordWord u z 2 st = x at e ⊢
  generalize F_X3_writeRecordWord u' z 2 st = y at e ⊢
  obtain ⟨r, u⟩ := x
  obtain ⟨r', u'⟩ := y
  obtain ⟨e1, h⟩ := e
  dsimp only at e1 h ⊢
  subst e1
  by_cases c : r = 0
  · rw [if_pos c, if_pos c]; exact ⟨rfl, h⟩
  rw [if_neg c, if_neg c]
  clear c
  have e := wrw_q (v := bd) h hg w3
  generalize F_X3_writeRecordWord u z 3 bd = x at e ⊢
  generalize F_X3_writeRecordWord u' z 3 bd = y at e ⊢
  obtain ⟨r, u⟩ := x
  obtain ⟨r', u'⟩ := y
  obtain ⟨e1, h⟩ := e
  dsimp only at e1 h ⊢
  subst e1
  by_cases c : r = 0
  · rw [if_pos c, if_pos c]; exact ⟨rfl, h⟩
  rw [if_neg c, if_neg c]
  clear c
  have e := wrw_q (v := (F_X3_checkOf sq st bd)) h hg w0
  generalize F_X3_writeRecordWord u z 0 (F_X3_checkOf sq st bd) = x at e ⊢
  generalize F_X3_writeRecordWord u' z 0 (F_X3_checkOf sq st bd) = y at e ⊢
  obtain ⟨r, u⟩ := x
  obtain ⟨r', u'⟩ := y
  obtain ⟨e1, h⟩ := e
  dsimp only at e1 h ⊢
  subst e1
  by_cases c : r = 0
  · rw [if_pos c, if_pos c]; exact ⟨rfl, h⟩
  rw [if_neg c, if_neg c]
  clear c
  exact ⟨rfl, h⟩
theorem upd_q (h : R66 b σ σ') {z : Int32} (hg : sl z) (τ : TS) (t : Int32) : E66 b (F_X3_writeUpdate σ τ z t) (F_X3_writeUpdate σ' τ z t) := by
  unfold F_X3_writeUpdate
  have e := wsw_q (v := τ.1) h hg v1
  generalize F_X3_writeSlotWord σ z 1 τ.1 = x at e ⊢
  generalize F_X3_writeSlotWord σ' z 1 τ.1 = y at e ⊢
  obtain ⟨r, u⟩ := x
  obtain ⟨r', u'⟩ := y
  obtain ⟨e1, h⟩ := e
  dsimp only at e1 h ⊢
  subst e1
  by_cases c : r = 0
  · rw [if_pos c, if_pos c]; exact ⟨rfl, h⟩
  rw [if_neg c, if_neg c]
  clear c
  have e := wsw_q (v := τ.2.1) h hg v2
  generalize F_X3_writeSlotWord u z 2 τ.2.1 = x at e ⊢
  generalize F_X3_writeSlotWord u' z 2 τ.2.1 = y at e ⊢
  obtain ⟨r, u⟩ := x
  obtain ⟨r', u'⟩ := y
  obtain ⟨e1, h⟩ := e
  dsimp only at e1 h ⊢
  subst e1
  by_cases c : r = 0
  · rw [if_pos c, if_pos c]; exact ⟨rfl, h⟩
  rw [if_neg c, if_neg c]
  clear c
  have e := wsw_q (v := τ.2.2.1) h hg v3
  generalize F_X3_writeSlotWord u z 3 τ.2.2.1 = x at e ⊢
  generalize F_X3_writeSlotWord u' z 3 τ.2.2.1 = y at e ⊢
  obtain ⟨r, u⟩ := x
  obtain ⟨r', u'⟩ := y
  obtain ⟨e1, h⟩ := e
  dsimp only at e1 h ⊢
  subst e1
  by_cases c : r = 0
  · rw [if_pos c, if_pos c]; exact ⟨rfl, h⟩
  rw [if_neg c, if_neg c]
  clear c
  have e := wsw_q (v := τ.2.2.2.1) h hg v4
  generalize F_X3_writeSlotWord u z 4 τ.2.2.2.1 = x at e ⊢
  generalize F_X3_writeSlotWord u' z 4 τ.2.2.2.1 = y at e ⊢
  obtain ⟨r, u⟩ := x
  obtain ⟨r', u'⟩ := y
  obtain ⟨e1, h⟩ := e
  dsimp only at e1 h ⊢
  subst e1
  by_cases c : r = 0
  · rw [if_pos c, if_pos c]; exact ⟨rfl, h⟩
  rw [if_neg c, if_neg c]
  clear c
  have e := wsw_q (v := 1) h hg v0
  generalize F_X3_writeSlotWord u z 0 1 = x at e ⊢
  generalize F_X3_writeSlotWord u' z 0 1 = y at e ⊢
  obtain ⟨r, u⟩ := x
  obtain ⟨r', u'⟩ := y
  obtain ⟨e1, h⟩ := e
  dsimp only at e1 h ⊢
  subst e1
  by_cases c : r = 0
  · rw [if_pos c, if_pos c]; exact ⟨rfl, h⟩
  rw [if_neg c, if_neg c]
  clear c
  have e0 : F_X3_confirmedSlot u' = F_X3_confirmedSlot u := by unfold F_X3_confirmedSlot; rw [inf_q h w2]
  have e3 : F_X3_recordCounter u = F_X3_recordCounter u' := by unfold F_X3_recordCounter; exact inf_q h w3
  rw [e0, ← e3]
  have e := wrec_q h (F_X3_trialState (F_X3_confirmedSlot u) t) (F_X3_recordCounter u)
  generalize F_X3_writeRecord u (F_X3_trialState (F_X3_confirmedSlot u) t) (F_X3_recordCounter u) = x at e ⊢
  generalize F_X3_writeRecord u' (F_X3_trialState (F_X3_confirmedSlot u) t) (F_X3_recordCounter u) = y at e ⊢
  obtain ⟨r, w⟩ := x
  obtain ⟨r', w'⟩ := y
  obtain ⟨e1, h⟩ := e
  dsimp only at e1 h ⊢
  subst e1
  by_cases c : r = 0
  · rw [if_pos c, if_pos c]; exact ⟨rfl, h⟩
  · rw [if_neg c, if_neg c]; exact ⟨rfl, h⟩
/-! fewer writes than it needs: it fails -/
def F0n (n : Nat) (x : Int32 × FS) : Prop := x.1 = 0 ∨ (¬ x.1 = 0 ∧ ∃ j, x.2.2.2 = nI j ∧ j < n)
theorem write_0 {i v : Int32} {j n : Nat} (hi : vp_in i 66) (hl : σ.2.2 = nI j) (hj : j < n + 1) (hn : n < 100) : F0n n (F_X2_write σ i v) := by
  unfold F0n
  rw [write_in hi, hl]
  cases j with
  | zero => rw [if_pos (show nI 0 = 0 from rfl)]; exact Or.inl rfl
  | succ j =>
    rw [if_neg (nI_ne0 (by omega) (by omega)), if_neg (nI_nle (by omega) (by omega)), nI_pred]
    exact Or.inr ⟨one0, j, rfl, by omega⟩
theorem wrw_0 {z k v : Int32} {j n : Nat} (hz : sl z) (hk : vp_in k 4) (hl : σ.2.2 = nI j) (hj : j < n + 1) (hn : n < 100) : F0n n (F_X3_writeRecordWord σ z k v) := by
  rw [wRec]; exact write_0 (vi_r hz k hk) hl hj hn
theorem wsw_0 {z k v : Int32} {j n : Nat} (hz : sl z) (hk : vp_in k 29) (hl : σ.2.2 = nI j) (hj : j < n + 1) (hn : n < 100) : F0n n (F_X3_writeSlotWord σ z k v) := by
  rw [wSlot]; exact write_0 (vi_c hz k hk) hl hj hn
theorem wrec_0 (st bd : Int32) {j : Nat} (hl : σ.2.2 = nI j) (hj : j < 5) : (F_X3_writeRecord σ st bd).1 = 0 := by
  have hg := sl_not (force_r σ)
  unfold F_X3_writeRecord
  generalize F_X3_recordWord σ (F_X3_recordInForce σ) 1 + 1 = sq
  generalize 1 - F_X3_recordInForce σ = z at hg ⊢
  have e := wrw_0 (v := 0) (n := 4) hg w0 hl hj (by omega)
  generalize F_X3_writeRecordWord σ z 0 0 = x at e ⊢
  obtain ⟨r, u⟩ := x
  dsimp only
  rcases e with e | ⟨e, j, hl, hj⟩
  · dsimp only at e; rw [if_pos e]
  dsimp only at e hl
  rw [if_neg e]
  clear e
  have e := wrw_0 (v := sq) (n := 3) hg w1 hl hj (by omega)
  generalize F_X3_writeRecordWord u z 1 sq = x at e ⊢
  obtain ⟨r, u⟩ := x
  dsimp only
  rcases e with e | ⟨e, j, hl, hj⟩
  · dsimp only at e; rw [if_pos e]
  dsimp only at e hl
  rw [if_neg e]
  clear e
  have e := wrw_0 (v := st) (n := 2) hg w2 hl hj (by omega)
  generalize F_X3_writeRecordWord u z 2 st = x at e ⊢
  obtain ⟨r, u⟩ := x
  dsimp only
  rcases e with e | ⟨e, j, hl, hj⟩
  · dsimp only at e; rw [if_pos e]
  dsimp only at e hl
  rw [if_neg e]
  clear e
  have e := wrw_0 (v := bd) (n := 1) hg w3 hl hj (by omega)
  generalize F_X3_writeRecordWord u z 3 bd = x at e ⊢
  obtain ⟨r, u⟩ := x
  dsimp only
  rcases e with e | ⟨e, j, hl, hj⟩
  · dsimp only at e; rw [if_pos e]
  dsimp only at e hl
  rw [if_neg e]
  clear e
  have e := wrw_0 (v := (F_X3_checkOf sq st bd)) (n := 0) hg w0 hl hj (by omega)
  generalize F_X3_writeRecordWord u z 0 (F_X3_checkOf sq st bd) = x at e ⊢
  obtain ⟨r, u⟩ := x
  dsimp only
  rcases e with e | ⟨e, j, hl, hj⟩
  · dsimp only at e; rw [if_pos e]
  dsimp only at e hl
  rw [if_neg e]
  clear e
  exact absurd hj (Nat.not_lt_zero _)
theorem upd_0 {z : Int32} (hg : sl z) (τ : TS) (t : Int32) {j : Nat} (hl : σ.2.2 = nI j) (hj : j < 10) : (F_X3_writeUpdate σ τ z t).1 = 0 := by
  unfold F_X3_writeUpdate
  have e := wsw_0 (v := τ.1) (n := 9) hg v1 hl hj (by omega)
  generalize F_X3_writeSlotWord σ z 1 τ.1 = x at e ⊢
  obtain ⟨r, u⟩ := x
  dsimp only
  rcases e with e | ⟨e, j, hl, hj⟩
  · dsimp only at e; rw [if_pos e]
  dsimp only at e hl
  rw [if_neg e]
  clear e
  have e := wsw_0 (v := τ.2.1) (n := 8) hg v2 hl hj (by omega)
  generalize F_X3_writeSlotWord u z 2 τ.2.1 = x at e ⊢
  obtain ⟨r, u⟩ := x
  dsimp only
  rcases e with e | ⟨e, j, hl, hj⟩
  · dsimp only at e; rw [if_pos e]
  dsimp only at e hl
  rw [if_neg e]
  clear e
  have e := wsw_0 (v := τ.2.2.1) (n := 7) hg v3 hl hj (by omega)
  generalize F_X3_writeSlotWord u z 3 τ.2.2.1 = x at e ⊢
  obtain ⟨r, u⟩ := x
  dsimp only
  rcases e with e | ⟨e, j, hl, hj⟩
  · dsimp only at e; rw [if_pos e]
  dsimp only at e hl
  rw [if_neg e]
  clear e
  have e := wsw_0 (v := τ.2.2.2.1) (n := 6) hg v4 hl hj (by omega)
  generalize F_X3_writeSlotWord u z 4 τ.2.2.2.1 = x at e ⊢
  obtain ⟨r, u⟩ := x
  dsimp only
  rcases e with e | ⟨e, j, hl, hj⟩
  · dsimp only at e; rw [if_pos e]
  dsimp only at e hl
  rw [if_neg e]
  clear e
  have e := wsw_0 (v := 1) (n := 5) hg v0 hl hj (by omega)
  generalize F_X3_writeSlotWord u z 0 1 = x at e ⊢
  obtain ⟨r, u⟩ := x
  dsimp only
  rcases e with e | ⟨e, j, hl, hj⟩
  · dsimp only at e; rw [if_pos e]
  dsimp only at e hl
  rw [if_neg e]
  clear e
  have e := wrec_0 (F_X3_trialState (F_X3_confirmedSlot u) t) (F_X3_recordCounter u) hl hj
  generalize F_X3_writeRecord u (F_X3_trialState (F_X3_confirmedSlot u) t) (F_X3_recordCounter u) = x at e ⊢
  obtain ⟨r, s⟩ := x
  dsimp only at e ⊢
  rw [if_pos e]
end SIMS
