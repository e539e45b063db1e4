/-! writes: what the reference's state is behind them -/
theorem rd_wr_ne {f : Nat → Int32} {i j v : Int32} (h : ¬ j.toNatClampNeg = i.toNatClampNeg) : rd (wr f i v) j = rd f j := by
  unfold rd wr upd
  exact if_neg h
theorem rd_wr_eq {f : Nat → Int32} {i j v : Int32} (h : j.toNatClampNeg = i.toNatClampNeg) : rd (wr f i v) j = v := by
  unfold rd wr upd
  exact if_pos h
theorem preset_in {σ : FS} {i v : Int32} (h : vp_in i 66) : F_X2_preset σ i v = (wr σ.1 i v, σ.2.1, σ.2.2) := by
  obtain ⟨j, hj, rfl⟩ := vp_in_of h (by decide)
  unfold F_X2_preset
  rw [if_neg (nI_pos (by omega)), if_neg (by have := @nI_ge j 66 (by omega) (by omega); exact this)]
/-- one write -/
theorem write_in {σ : FS} {i v : Int32} (h : vp_in i 66) : F_X2_write σ i v = if σ.2.2 = 0 then (0, wr σ.1 i (rd σ.1 i &&& v), σ.2.1 + 1, -1) else (1, wr σ.1 i v, σ.2.1 + 1, if σ.2.2 ≤ 0 then σ.2.2 else σ.2.2 - 1) := by
  unfold F_X2_write
  by_cases c : σ.2.2 = 0
  · rw [if_pos c, if_pos c]
    simp only [preset_in h, read_in h]
  · rw [if_neg c, if_neg c]
    by_cases d : σ.2.2 ≤ 0
    · rw [if_pos d, if_pos d]
      simp only [preset_in h]
    · rw [if_neg d, if_neg d]
      simp only [preset_in h]
/-- the reference's answer and state behind writes that ended with r in the flash σ1 -/
def md (r : Int32) (σ1 : FS) (on rn cm : Int32) : Int32 × (Nat → Int32) × Int32 × Int32 × Int32 × Int32 × Int32 := (r, σ1.1, if r = 0 then 0 else on, if r = 0 then (-1) else rn, σ1.2.2, σ1.2.1, if r = 0 then (-1) else cm)
theorem md_1 {r : Int32} {σ1 : FS} {on rn cm : Int32} (h : ¬ r = 0) : md r σ1 on rn cm = (r, σ1.1, on, rn, σ1.2.2, σ1.2.1, cm) := by
  unfold md; rw [if_neg h, if_neg h, if_neg h]
theorem md_0 {r : Int32} {σ1 : FS} {on rn cm : Int32} (h : r = 0) : md r σ1 on rn cm = (0, σ1.1, 0, -1, σ1.2.2, σ1.2.1, -1) := by
  subst h; rfl
theorem lays_s {σ : FS} {on rn cm i v : Int32} (h : vp_in i 66) : F_X6_lays σ.1 on rn σ.2.2 σ.2.1 cm i v = md (F_X2_write σ i v).1 (F_X2_write σ i v).2 on rn cm := by
  rw [write_in h]
  unfold F_X6_lays F_X6_goesOff
  by_cases c : σ.2.2 = 0
  · simp only [if_pos c]
    rfl
  · simp only [if_neg c]
    rw [md_1 (by decide)]
    by_cases d : σ.2.2 ≤ 0
    · simp only [if_pos d]
      rw [Int32.sub_zero]
    · simp only [if_neg d]
theorem write_01 (σ : FS) {i v : Int32} (h : vp_in i 66) : (F_X2_write σ i v).1 = 0 ∨ (F_X2_write σ i v).1 = 1 := by
  rw [write_in h]
  split
  · exact Or.inl rfl
  · exact Or.inr rfl
theorem write_ne {σ : FS} {i j v : Int32} (h : vp_in i 66) (hj : ¬ j.toNatClampNeg = i.toNatClampNeg) : rd (F_X2_write σ i v).2.1 j = rd σ.1 j := by
  rw [write_in h]
  split <;> exact rd_wr_ne hj
theorem write_eq {σ : FS} {i j v : Int32} (h : vp_in i 66) (hr : ¬ (F_X2_write σ i v).1 = 0) (hj : j.toNatClampNeg = i.toNatClampNeg) : rd (F_X2_write σ i v).2.1 j = v := by
  rw [write_in h] at hr ⊢
  split
  · rename_i c; rw [if_pos c] at hr; exact absurd rfl hr
  · exact rd_wr_eq hj
theorem wRec {σ : FS} {z k v : Int32} : F_X3_writeRecordWord σ z k v = F_X2_write σ (58 + 4 * z + k) v := by
  unfold F_X3_writeRecordWord
  rw [Int32.mul_comm z 4] <;> rfl
theorem wSlot {σ : FS} {z k v : Int32} : F_X3_writeSlotWord σ z k v = F_X2_write σ (29 * z + k) v := by
  unfold F_X3_writeSlotWord
  rw [Int32.mul_comm z 29] <;> rfl
theorem wImage {σ : FS} {z k v : Int32} : F_X3_writeImageWord σ z k v = F_X2_write σ (29 * z + 5 + k) v := by
  unfold F_X3_writeImageWord
  rw [Int32.mul_comm z 29] <;> rfl
theorem records_s (σ : FS) (on rn cm st bd : Int32) : F_X6_records σ.1 on rn σ.2.2 σ.2.1 cm st bd = md (F_X3_writeRecord σ st bd).1 (F_X3_writeRecord σ st bd).2 on rn cm := by
  have hf := force_r σ
  have hg := sl_not hf
  unfold F_X6_records F_X3_writeRecord
  rw [force_s, rec_s hf 1 w1]
  simp only [wRec]
  generalize F_X3_recordInForce σ = z at hf hg ⊢
  have i0 := vi_r hg 0 w0
  have i1 := vi_r hg 1 w1
  have i2 := vi_r hg 2 w2
  have i3 := vi_r hg 3 w3
  rw [lays_s i0]
  have k1 : rd (F_X2_write σ (58 + 4 * (1 - z) + 0) 0).2.1 (58 + 4 * z + 1) = rd σ.1 (58 + 4 * z + 1) := write_ne i0 (by rcases hf with h | h <;> rw [h] <;> decide)
  generalize ea : F_X2_write σ (58 + 4 * (1 - z) + 0) 0 = a at k1 ⊢
  obtain ⟨r1, σ1⟩ := a
  dsimp only
  by_cases c1 : r1 = 0
  · rw [md_0 c1]; simp only [if_pos c1, ↓reduceIte]; rfl
  rw [md_1 c1]
  simp only [if_neg c1]
  dsimp only at k1
  rw [k1, lays_s i1]
  generalize hq : rd σ.1 (58 + 4 * z + 1) + 1 = sq
  generalize eb : F_X2_write σ1 (58 + 4 * (1 - z) + 1) sq = b
  obtain ⟨r2, σ2⟩ := b
  dsimp only
  by_cases c2 : r2 = 0
  · rw [md_0 c2]; simp only [if_pos c2, ↓reduceIte]; rfl
  have q2 : rd σ2.1 (58 + 4 * (1 - z) + 1) = sq := by
    have := write_eq (σ := σ1) (v := sq) i1 (by rw [eb]; exact c2) rfl
    rw [eb] at this; exact this
  rw [md_1 c2]
  simp only [if_neg c2]
  rw [lays_s i2]
  have q3 : rd (F_X2_write σ2 (58 + 4 * (1 - z) + 2) st).2.1 (58 + 4 * (1 - z) + 1) = sq := by rw [write_ne i2 (by rcases hg with h | h <;> rw [h] <;> decide), q2]
  generalize ec : F_X2_write σ2 (58 + 4 * (1 - z) + 2) st = c at q3 ⊢
  obtain ⟨r3, σ3⟩ := c
  dsimp only
  by_cases c3 : r3 = 0
  · rw [md_0 c3]; simp only [if_pos c3, ↓reduceIte]; rfl
  have p3 : rd σ3.1 (58 + 4 * (1 - z) + 2) = st := by
    have := write_eq (σ := σ2) (v := st) i2 (by rw [ec]; exact c3) rfl
    rw [ec] at this; exact this
  dsimp only at q3
  rw [md_1 c3]
  simp only [if_neg c3]
  rw [lays_s i3]
  have q4 : rd (F_X2_write σ3 (58 + 4 * (1 - z) + 3) bd).2.1 (58 + 4 * (1 - z) + 1) = sq := by rw [write_ne i3 (by rcases hg with h | h <;> rw [h] <;> decide), q3]
  have p4 : rd (F_X2_write σ3 (58 + 4 * (1 - z) + 3) bd).2.1 (58 + 4 * (1 - z) + 2) = st := by rw [write_ne i3 (by rcases hg with h | h <;> rw [h] <;> decide), p3]
  generalize ed : F_X2_write σ3 (58 + 4 * (1 - z) + 3) bd = d at q4 p4 ⊢
  obtain ⟨r4, σ4⟩ := d
  dsimp only
  by_cases c4 : r4 = 0
  · rw [md_0 c4]; simp only [if_pos c4, ↓reduceIte]; rfl
  have o4 : rd σ4.1 (58 + 4 * (1 - z) + 3) = bd := by
    have := write_eq (σ := σ3) (v := bd) i3 (by rw [ed]; exact c4) rfl
    rw [ed] at this; exact this
  dsimp only at q4 p4
  rw [md_1 c4]
  simp only [if_neg c4]
  have hk : F_X6_rightCheck σ4.1 (1 - z) = F_X3_checkOf sq st bd := by
    rw [check_s hg, rec_s hg 1 w1, rec_s hg 2 w2, rec_s hg 3 w3, q4, p4, o4]
  rw [hk, lays_s i0]
  rcases write_01 σ4 (v := F_X3_checkOf sq st bd) i0 with h | h
  · rw [md_0 h]
    simp only [↓reduceIte]
    generalize F_X2_write σ4 (58 + 4 * (1 - z) + 0) (F_X3_checkOf sq st bd) = x at h ⊢
    obtain ⟨r5, σ5⟩ := x
    dsimp only at h
    subst h
    rfl
  · rw [md_1 (by rw [h]; decide)]
    generalize F_X2_write σ4 (58 + 4 * (1 - z) + 0) (F_X3_checkOf sq st bd) = x at h ⊢
    obtain ⟨r5, σ5⟩ := x
    dsimp only at h
    subst h
    rfl
