/-! the methods that write, one by one -/
theorem write_ok {σ : FS} {i v : Int32} (h : okW σ.1) (hi : vp_in i 66) (hv : okV i v) : okW (F_X2_write σ i v).2.1 := by
  rw [write_in hi]
  split
  · exact okW_wr h (hv.and _)
  · exact okW_wr h hv
theorem wrec_ok {σ : FS} {st bd : Int32} (h : okW σ.1) (hp : 0 ≤ st.toInt) : okW (F_X3_writeRecord σ st bd).2.1 := by
  have e := records_s σ 0 0 0 st bd
  have h2 := records_ok (u := (md (F_X3_writeRecord σ st bd).1 (F_X3_writeRecord σ st bd).2 0 0 0).2) h hp (r := (F_X3_writeRecord σ st bd).1) e.symm
  exact h2
theorem finishes_s (σ : FS) (τ : TS) (on run cm tr : Int32) (h : okW σ.1) (hr : sl run) (hn : 0 ≤ τ.2.1.toInt ∧ τ.2.1.toInt ≤ 24) : F_X6_finishes σ.1 on run σ.2.2 σ.2.1 τ.1 τ.2.1 τ.2.2.1 τ.2.2.2.1 cm tr = md (F_X3_writeUpdate σ τ (1 - run) tr).1 (F_X3_writeUpdate σ τ (1 - run) tr).2 on run cm := by
  have hg := sl_not hr
  unfold F_X6_finishes F_X3_writeUpdate
  simp only [wSlot]
  have i0 := vi_c hg 0 v0
  have i1 := vi_c hg 1 v1
  have i2 := vi_c hg 2 v2
  have i3 := vi_c hg 3 v3
  have i4 := vi_c hg 4 v4
  rw [lays_s i1]
  have o1 := write_ok (v := τ.1) h i1 (okV_no (by rcases hg with z | z <;> rw [z] <;> decide))
  generalize F_X2_write σ (29 * (1 - run) + 1) τ.1 = a at o1 ⊢
  obtain ⟨r1, σ1⟩ := a
  dsimp only at o1 ⊢
  by_cases c1 : r1 = 0
  · rw [md_0 c1]; simp only [if_pos c1, ↓reduceIte]; rfl
  rw [md_1 c1]
  simp only [if_neg c1]
  rw [lays_s i2]
  have o2 := write_ok (v := τ.2.1) o1 i2 (okV_ln hn)
  generalize F_X2_write σ1 (29 * (1 - run) + 2) τ.2.1 = a at o2 ⊢
  obtain ⟨r2, σ2⟩ := a
  dsimp only at o2 ⊢
  by_cases c2 : r2 = 0
  · rw [md_0 c2]; simp only [if_pos c2, ↓reduceIte]; rfl
  rw [md_1 c2]
  simp only [if_neg c2]
  rw [lays_s i3]
  have o3 := write_ok (v := τ.2.2.1) o2 i3 (okV_no (by rcases hg with z | z <;> rw [z] <;> decide))
  generalize F_X2_write σ2 (29 * (1 - run) + 3) τ.2.2.1 = a at o3 ⊢
  obtain ⟨r3, σ3⟩ := a
  dsimp only at o3 ⊢
  by_cases c3 : r3 = 0
  · rw [md_0 c3]; simp only [if_pos c3, ↓reduceIte]; rfl
  rw [md_1 c3]
  simp only [if_neg c3]
  rw [lays_s i4]
  have o4 := write_ok (v := τ.2.2.2.1) o3 i4 (okV_no (by rcases hg with z | z <;> rw [z] <;> decide))
  generalize F_X2_write σ3 (29 * (1 - run) + 4) τ.2.2.2.1 = a at o4 ⊢
  obtain ⟨r4, σ4⟩ := a
  dsimp only at o4 ⊢
  by_cases c4 : r4 = 0
  · rw [md_0 c4]; simp only [if_pos c4, ↓reduceIte]; rfl
  rw [md_1 c4]
  simp only [if_neg c4]
  rw [lays_s i0]
  have o5 := write_ok (v := 1) o4 i0 (okV_no (by rcases hg with z | z <;> rw [z] <;> decide))
  generalize F_X2_write σ4 (29 * (1 - run) + 0) 1 = a at o5 ⊢
  obtain ⟨r5, σ5⟩ := a
  dsimp only at o5 ⊢
  by_cases c5 : r5 = 0
  · rw [md_0 c5]; simp only [if_pos c5, ↓reduceIte]; rfl
  rw [md_1 c5]
  simp only [if_neg c5]
  rw [conf_s o5, counter_s, records_s]
  unfold F_X3_trialState
  generalize F_X3_writeRecord σ5 _ _ = a
  obtain ⟨r6, σ6⟩ := a
  dsimp only
  by_cases c6 : r6 = 0
  · rw [md_0 c6]; simp only [if_pos c6, ↓reduceIte]; rfl
  rw [md_1 c6]
  simp only [if_neg c6]
  rw [md_1 (by decide)]
theorem update_ok {σ : FS} {τ : TS} {run tr : Int32} (h : okW σ.1) (hr : sl run) (hn : 0 ≤ τ.2.1.toInt ∧ τ.2.1.toInt ≤ 24) (hp : ¬ F_X6_in tr 1 3 = 0) : okW (F_X3_writeUpdate σ τ (1 - run) tr).2.1 := by
  have e := finishes_s σ τ 0 run 0 tr h hr hn
  exact finishes_ok (u := (md (F_X3_writeUpdate σ τ (1 - run) tr).1 (F_X3_writeUpdate σ τ (1 - run) tr).2 0 run 0).2) h hr hn hp e.symm
def mOn (run : Int32) : Int32 := F_X5_isOn run
def mCm (τ : TS) : Int32 := if τ.2.2.2.2.2 = 0 then -1 else τ.2.2.2.2.1
/-- what holds of the class's state between two calls -/
def Inv (σ : FS) (τ : TS) (δ : DS) (run : Int32) : Prop := okW σ.1 ∧ ((run = -1 ∧ τ.2.2.2.2.2 = 0) ∨ (sl run ∧ (τ.2.2.2.2.2 = 0 ∨ τ.2.2.2.2.2 = 1))) ∧ (¬ τ.2.2.2.2.2 = 0 → ∃ c k, τ.2.2.2.2.1 = nI c ∧ τ.2.1 = nI k ∧ c ≤ k ∧ k ≤ 24) ∧ ∃ d, δ.1 = nI d ∧ d ≤ 24
section INV
variable {σ : FS} {τ : TS} {δ : DS} {run : Int32}
theorem mOn_1 (h : sl run) : mOn run = 1 := by
  unfold mOn F_X5_isOn
  rcases h with rfl | rfl <;> rw [if_neg (by decide)]
theorem Inv.on (I : Inv σ τ δ run) : (mOn run = 0 ∧ run = -1 ∧ τ.2.2.2.2.2 = 0) ∨ (mOn run = 1 ∧ sl run) := by
  rcases I.2.1 with ⟨h, g⟩ | ⟨h, -⟩
  · exact Or.inl ⟨by rw [h]; rfl, h, g⟩
  · exact Or.inr ⟨mOn_1 h, h⟩
theorem Inv.hon (I : Inv σ τ δ run) : mOn run = 0 ∨ sl run := by rcases I.on with ⟨h, -⟩ | ⟨-, h⟩; exact Or.inl h; exact Or.inr h
theorem Inv.h01 (I : Inv σ τ δ run) : mOn run = 0 ∨ mOn run = 1 := by rcases I.on with ⟨h, -⟩ | ⟨h, -⟩; exact Or.inl h; exact Or.inr h
theorem Inv.hcs (I : Inv σ τ δ run) : sl (F_X6_confirmedSlot σ.1) := conf_sl I.1
theorem Inv.go (I : Inv σ τ δ run) : (τ.2.2.2.2.2 = 0 ∧ mCm τ = -1) ∨ (τ.2.2.2.2.2 = 1 ∧ sl run ∧ ∃ c k, τ.2.2.2.2.1 = nI c ∧ mCm τ = nI c ∧ τ.2.1 = nI k ∧ c ≤ k ∧ k ≤ 24) := by
  by_cases c : τ.2.2.2.2.2 = 0
  · exact Or.inl ⟨c, if_pos c⟩
  · right
    rcases I.2.1 with ⟨-, g⟩ | ⟨h, g⟩
    · exact absurd g c
    · obtain ⟨a, k, e1, e2, h1, h2⟩ := I.2.2.1 c
      exact ⟨g.resolve_left c, h, a, k, e1, by unfold mCm; rw [if_neg c, e1], e2, h1, h2⟩
theorem Inv.hcf (I : Inv σ τ δ run) : mCm τ < 0 ∨ (sl run ∧ τ.2.1.toNatClampNeg ≤ 24) := by
  rcases I.go with ⟨-, h⟩ | ⟨-, h, c, k, -, -, e, h1, h2⟩
  · rw [h]; exact Or.inl (by decide)
  · exact Or.inr ⟨h, by rw [e, nI_clamp (by omega)]; exact h2⟩
theorem Inv.hcf2 (I : Inv σ τ δ run) : mCm τ < 0 ∨ (τ.2.1.toNatClampNeg ≤ 24 ∧ mCm τ ≤ τ.2.1) := by
  rcases I.go with ⟨-, h⟩ | ⟨-, h, c, k, -, e0, e, h1, h2⟩
  · rw [h]; exact Or.inl (by decide)
  · exact Or.inr ⟨by rw [e, nI_clamp (by omega)]; exact h2, by rw [e, e0]; exact nI_le h1 (by omega)⟩
theorem Inv.hnl (I : Inv σ τ δ run) : mCm τ < 0 ∨ (0 ≤ τ.2.1.toInt ∧ τ.2.1.toInt ≤ 24) := by
  rcases I.go with ⟨-, h⟩ | ⟨-, h, c, k, -, -, e, h1, h2⟩
  · rw [h]; exact Or.inl (by decide)
  · exact Or.inr (by rw [e, nI_toInt (by omega)]; omega)
theorem Inv.hd0 (I : Inv σ τ δ run) : 0 ≤ δ.1.toInt := by
  obtain ⟨d, e, h⟩ := I.2.2.2
  rw [e, nI_toInt (by omega)]; omega
theorem Inv.hd (I : Inv σ τ δ run) : δ.1.toNatClampNeg ≤ 24 := by
  obtain ⟨d, e, h⟩ := I.2.2.2
  rw [e, nI_clamp (by omega)]; exact h
theorem within_s (p a b : Int32) : F_X5_requireWithin p a b = if F_X6_in p a b = 0 then 1 else 0 := by
  unfold F_X5_requireWithin F_X6_in
  by_cases c : p < a
  · rw [if_pos c, if_pos c, if_pos rfl]
  · rw [if_neg c, if_neg c]
    by_cases d : p ≤ b
    · rw [if_pos d, if_neg (Int32.not_lt.mpr d), if_neg (by decide)]
    · rw [if_neg d, if_pos (Int32.not_le.mp d), if_pos rfl]
theorem within_0 {p a b : Int32} (h : F_X6_in p a b = 0) : F_X5_requireWithin p a b = 1 := by rw [within_s, if_pos h]
theorem within_1 {p a b : Int32} (h : ¬ F_X6_in p a b = 0) : F_X5_requireWithin p a b = 0 := by rw [within_s, if_neg h]
theorem in_1 {p a b : Int32} (h : ¬ F_X6_in p a b = 0) : F_X6_in p a b = 1 := by
  unfold F_X6_in at h ⊢
  split
  · rename_i c; rw [if_pos c] at h; exact absurd rfl h
  · rename_i c; rw [if_neg c] at h
    split
    · rename_i d; rw [if_pos d] at h; exact absurd rfl h
    · rfl
theorem goes_a (b : Int32) : F_X6_goes 0 b = (0, 1) := by unfold F_X6_goes; rw [if_pos rfl]
theorem goes_b {a : Int32} (h : ¬ a = 0) : F_X6_goes a 0 = (0, 2) := by unfold F_X6_goes; rw [if_neg h, if_pos rfl]
theorem goes_c {a b : Int32} (h : ¬ a = 0) (k : ¬ b = 0) : F_X6_goes a b = (1, 0) := by unfold F_X6_goes; rw [if_neg h, if_neg k]
/-- what 'stayOn' leaves -/
def oT (r : Int32) (τ : TS) : TS := if r = 0 then F_X4_end τ else τ
def oR (r run : Int32) : Int32 := if r = 0 then -1 else run
theorem stay_s (τ : TS) (run r : Int32) : F_X5_stayOn τ run r = (r, oT r τ, oR r run) := by
  unfold F_X5_stayOn F_X5_losePower oT oR
  split <;> rfl
theorem md_stay (r : Int32) (σ1 : FS) (τ : TS) (run : Int32) : md r σ1 (mOn run) run (mCm τ) = (r, σ1.1, mOn (oR r run), oR r run, σ1.2.2, σ1.2.1, mCm (oT r τ)) := by
  unfold md oR oT
  by_cases c : r = 0
  · simp only [if_pos c]; rfl
  · simp only [if_neg c]
theorem oT_p (r : Int32) (τ : TS) : (oT r τ).1 = τ.1 ∧ (oT r τ).2.1 = τ.2.1 ∧ (oT r τ).2.2.1 = τ.2.2.1 ∧ (oT r τ).2.2.2.1 = τ.2.2.2.1 := by
  unfold oT
  split <;> exact ⟨rfl, rfl, rfl, rfl⟩
/-- the invariant behind writes -/
theorem Inv.stay {σ1 : FS} {τ1 : TS} {r : Int32} (I : Inv σ τ δ run) (h : okW σ1.1) (hs : sl run) (hg : τ1.2.2.2.2.2 = 0 ∨ τ1.2.2.2.2.2 = 1) (hk : ¬ τ1.2.2.2.2.2 = 0 → ∃ c k, τ1.2.2.2.2.1 = nI c ∧ τ1.2.1 = nI k ∧ c ≤ k ∧ k ≤ 24) : Inv σ1 (oT r τ1) δ (oR r run) := by
  unfold oT oR
  by_cases c : r = 0
  · simp only [if_pos c]
    exact ⟨h, Or.inl ⟨rfl, rfl⟩, fun z => absurd rfl z, I.2.2.2⟩
  · simp only [if_neg c]
    exact ⟨h, Or.inr ⟨hs, hg⟩, hk, I.2.2.2⟩
end INV
