theorem one0 : ¬ (1 : Int32) = 0 := by decide
theorem ix_img {z : Int32} (hz : sl z) {c : Nat} (h : c < 24) : ¬ ((29 * z + 5 + nI c).toNatClampNeg = 60 ∨ (29 * z + 5 + nI c).toNatClampNeg = 64) ∧ ¬ ((29 * z + 5 + nI c).toNatClampNeg = 2 ∨ (29 * z + 5 + nI c).toNatClampNeg = 31) := by
  rcases hz with rfl | rfl
  · rw [show (29 * 0 + 5 : Int32) = nI 5 from by decide, nI_add, nI_clamp (by omega)]; omega
  · rw [show (29 * 1 + 5 : Int32) = nI 34 from by decide, nI_add, nI_clamp (by omega)]; omega
section SIMP
variable {σ ρ : FS} {τ : TS} {δ : DS} {run : Int32}
theorem append_e (v : Int32) : F_X5_append σ τ run v = ((F_X2_write σ (29 * (1 - run) + 5 + τ.2.2.2.2.1) v).1, (F_X2_write σ (29 * (1 - run) + 5 + τ.2.2.2.2.1) v).2, oT (F_X2_write σ (29 * (1 - run) + 5 + τ.2.2.2.2.1) v).1 (τ.1, τ.2.1, τ.2.2.1, τ.2.2.2.1, τ.2.2.2.2.1 + 1, τ.2.2.2.2.2), oR (F_X2_write σ (29 * (1 - run) + 5 + τ.2.2.2.2.1) v).1 run) := by
  unfold F_X5_append F_X4_nextPlace F_X5_idleSlot
  simp only [wImage, stay_s]
theorem Inv.hr (I : Inv σ τ δ run) (hg : ¬ τ.2.2.2.2.2 = 0) : sl run := by
  rcases I.go with ⟨a, -⟩ | ⟨-, h, -⟩
  · exact absurd a hg
  · exact h
theorem vi_img {z : Int32} (hz : sl z) {c : Nat} (h : c < 24) {x : Int32} (e : x = nI c) : vp_in (29 * z + 5 + x) 66 := by
  rw [e]; exact vi5 hz (vp_in_nI h (by decide))
theorem append_01 (hr : sl run) {c : Nat} (e1 : τ.2.2.2.2.1 = nI c) (h : c < 24) (v : Int32) : (F_X5_append σ τ run v).1 = 0 ∨ (F_X5_append σ τ run v).1 = 1 := by
  rw [append_e]
  exact write_01 σ (vi_img (sl_not hr) h e1)
theorem comes_s (I : Inv σ τ δ run) (hg : ¬ τ.2.2.2.2.2 = 0) {c : Nat} (e1 : τ.2.2.2.2.1 = nI c) (h : c < 24) (v : Int32) : F_X6_comes σ.1 (mOn run) run σ.2.2 σ.2.1 (mCm τ) v = (match F_X5_append σ τ run v with | (r, σ1, τ1, run1) => (r, σ1.1, mOn run1, run1, σ1.2.2, σ1.2.1, mCm τ1)) := by
  have hr := I.hr hg
  have em : mCm τ = τ.2.2.2.2.1 := if_neg hg
  rw [append_e]
  unfold F_X6_comes
  rw [em, lays_s (vi_img (sl_not hr) h e1)]
  generalize F_X2_write σ (29 * (1 - run) + 5 + τ.2.2.2.2.1) v = x
  obtain ⟨r, s1⟩ := x
  dsimp only
  unfold oT oR
  by_cases z : r = 0
  · subst z
    rw [md_0 rfl]
    simp only [↓reduceIte]
    rfl
  · rw [md_1 z]
    simp only [if_neg z]
    have e : mCm (τ.1, τ.2.1, τ.2.2.1, τ.2.2.2.1, τ.2.2.2.2.1 + 1, τ.2.2.2.2.2) = τ.2.2.2.2.1 + 1 := if_neg hg
    rw [e]
theorem append_i (I : Inv σ τ δ run) (hg : ¬ τ.2.2.2.2.2 = 0) {c k : Nat} (e1 : τ.2.2.2.2.1 = nI c) (e3 : τ.2.1 = nI k) (h1 : c < k) (h2 : k ≤ 24) (v : Int32) : Inv (F_X5_append σ τ run v).2.1 (F_X5_append σ τ run v).2.2.1 δ (F_X5_append σ τ run v).2.2.2 := by
  have hr := I.hr hg
  rw [append_e]
  refine I.stay (write_ok I.1 (vi_img (sl_not hr) (by omega) e1) (okV_no (by rw [e1]; exact ix_img (sl_not hr) (by omega)))) hr ?_ (fun _ => ⟨c + 1, k, by rw [e1]; exact nI_1 c, e3, h1, h2⟩)
  rcases I.go with ⟨a, -⟩ | ⟨a, -⟩
  · exact Or.inl a
  · exact Or.inr a
theorem append_x {c : Nat} (e1 : τ.2.2.2.2.1 = nI c) (v : Int32) (h : ¬ (F_X5_append σ τ run v).1 = 0) : (F_X5_append σ τ run v).2.2.2 = run ∧ (F_X5_append σ τ run v).2.2.1.2.2.2.2.2 = τ.2.2.2.2.2 ∧ (F_X5_append σ τ run v).2.2.1.2.2.2.2.1 = nI (c + 1) := by
  rw [append_e] at h ⊢
  unfold oT oR
  dsimp only at h ⊢
  rw [if_neg h, if_neg h]
  exact ⟨rfl, rfl, by rw [e1]; exact nI_1 c⟩
/-- the four words that a transfer keeps -/
def kp4 (τ τ1 : TS) : Prop := τ.1 = τ1.1 ∧ τ.2.1 = τ1.2.1 ∧ τ.2.2.1 = τ1.2.2.1 ∧ τ.2.2.2.1 = τ1.2.2.2.1
theorem kp4.rfl' (τ : TS) : kp4 τ τ := ⟨rfl, rfl, rfl, rfl⟩
theorem kp4.trans {a b c : TS} (h : kp4 a b) (g : kp4 b c) : kp4 a c := ⟨h.1.trans g.1, h.2.1.trans g.2.1, h.2.2.1.trans g.2.2.1, h.2.2.2.trans g.2.2.2⟩
theorem kp4.oT (r : Int32) (τ : TS) : kp4 τ (oT r τ) := ⟨(oT_p r τ).1.symm, (oT_p r τ).2.1.symm, (oT_p r τ).2.2.1.symm, (oT_p r τ).2.2.2.symm⟩
theorem append_w (v : Int32) : kp4 τ (F_X5_append σ τ run v).2.2.1 := by
  rw [append_e]
  exact kp4.oT _ (τ.1, τ.2.1, τ.2.2.1, τ.2.2.2.1, τ.2.2.2.2.1 + 1, τ.2.2.2.2.2)
theorem toCome_r (I : Inv σ τ δ run) {p : Int32} (h : 1 ≤ p) : F_X5_requireToCome τ p = (if F_X6_copyCan τ.2.1 (mCm τ) p = 0 then 2 else 0) := by
  unfold F_X5_requireToCome F_X4_bytesToCome F_X6_copyCan
  rcases I.go with ⟨a, b⟩ | ⟨a, hr, c, k, e1, e2, e3, h1, h2⟩
  · rw [if_pos a, b, if_pos (show (-1 : Int32) < 0 from by decide), if_pos rfl, if_neg (fun z => absurd (Int32.le_trans h z) (by decide))]
  · rw [if_neg (show ¬ τ.2.2.2.2.2 = 0 from by rw [a]; decide), e1, e2, if_neg (nI_pos (by omega))]
    by_cases d : τ.2.1 - nI c < p
    · rw [if_pos d, if_pos rfl, if_neg (Int32.not_le.mpr d)]
    · rw [if_neg d, if_neg one0, if_pos (Int32.not_lt.mp d)]
theorem can_x (I : Inv σ τ δ run) {p : Int32} (hp : ∃ q : Nat, p = nI q ∧ 1 ≤ q ∧ q ≤ 255) (h : ¬ F_X6_copyCan τ.2.1 (mCm τ) p = 0) : ¬ τ.2.2.2.2.2 = 0 ∧ ∃ c k, τ.2.2.2.2.1 = nI c ∧ mCm τ = nI c ∧ τ.2.1 = nI k ∧ c + p.toNatClampNeg ≤ k ∧ k ≤ 24 := by
  unfold F_X6_copyCan at h
  obtain ⟨q, rfl, hq1, hq2⟩ := hp
  rcases I.go with ⟨a, b⟩ | ⟨a, hr, c, k, e1, e2, e3, h1, h2⟩
  · rw [b, if_pos (by decide)] at h; exact absurd rfl h
  · refine ⟨by rw [a]; decide, c, k, e1, e2, e3, ?_, h2⟩
    rw [e2, if_neg (nI_pos (by omega)), e3, pk_sub h1] at h
    by_cases d : nI (k - c) < nI q
    · rw [if_pos d] at h; exact absurd rfl h
    · rw [nI_ltI (by omega) (by omega)] at d
      rw [nI_clamp (by omega)]; omega
theorem put_s (I : Inv σ τ δ run) (p0 : Int32) : F_X6_put σ.1 (mOn run) run σ.2.2 σ.2.1 τ.2.1 (mCm τ) p0 = (match F_X5_put σ τ run p0 with | (k, r, σ1, τ1, run1) => (r, σ1.1, mOn run1, run1, σ1.2.2, σ1.2.1, mCm τ1, k)) := by
  unfold F_X6_put F_X5_put F_X5_requireToCome F_X4_bytesToCome
  rcases I.go with ⟨a, b⟩ | ⟨a, hr, c, k, e1, e2, e3, h1, h2⟩
  · rw [if_pos (show mCm τ < 0 from by rw [b]; decide), if_pos a, if_neg (show ¬ (1 : Int32) ≤ -1 from by decide)]
    by_cases c1 : F_X6_in p0 0 255 = 0
    · rw [c1, goes_a, within_0 c1]; rfl
    · rw [goes_b c1, within_1 c1]; rfl
  · rw [if_neg (show ¬ mCm τ < 0 from by rw [e2]; exact nI_pos (by omega))]
    have hb : (if τ.2.2.2.2.2 = 0 then (-1) else (τ.2.1 - τ.2.2.2.2.1)) = nI (k - c) := by rw [if_neg (by rw [a]; decide), e1, e3, pk_sub h1]
    rw [hb]
    by_cases c2 : k ≤ c
    · rw [if_pos (show τ.2.1 ≤ mCm τ from by rw [e2, e3]; exact nI_le c2 (by omega)), if_neg (show ¬ (1 : Int32) ≤ nI (k - c) from by rw [show k - c = 0 from by omega]; decide)]
      by_cases c1 : F_X6_in p0 0 255 = 0
      · rw [c1, goes_a, within_0 c1]; rfl
      · rw [goes_b c1, within_1 c1]; rfl
    · rw [if_neg (show ¬ τ.2.1 ≤ mCm τ from by rw [e2, e3]; exact nI_ge (by omega) (by omega)), if_pos (show (1 : Int32) ≤ nI (k - c) from nI_le (a := 1) (by omega) (by omega))]
      by_cases c1 : F_X6_in p0 0 255 = 0
      · rw [c1, goes_a, within_0 c1]; rfl
      · rw [goes_c c1 one0, within_1 c1, comes_s I (by rw [a]; decide) e1 (by omega)]
        have w := append_01 (σ := σ) hr e1 (by omega) p0
        generalize F_X5_append σ τ run p0 = x at w ⊢
        obtain ⟨r, s1, t1, r1⟩ := x
        dsimp only at w ⊢
        rcases w with w | w <;> subst w <;> rfl
theorem put_i (I : Inv σ τ δ run) (p0 : Int32) : Inv (F_X5_put σ τ run p0).2.2.1 (F_X5_put σ τ run p0).2.2.2.1 δ (F_X5_put σ τ run p0).2.2.2.2 ∧ kp4 τ (F_X5_put σ τ run p0).2.2.2.1 ∧ (¬ (F_X5_put σ τ run p0).1 = 0 → (F_X5_put σ τ run p0).2.2 = (σ, τ, run)) := by
  unfold F_X5_put
  by_cases c1 : F_X5_requireWithin p0 0 255 = 0
  rotate_left
  · rw [if_neg c1]; exact ⟨I, kp4.rfl' τ, fun _ => rfl⟩
  rw [if_pos c1]
  by_cases c2 : F_X5_requireToCome τ 1 = 0
  rotate_left
  · rw [if_neg c2]; exact ⟨I, kp4.rfl' τ, fun _ => rfl⟩
  rw [if_pos c2]
  rw [toCome_r I (by decide)] at c2
  have c3 : ¬ F_X6_copyCan τ.2.1 (mCm τ) 1 = 0 := fun z => by rw [if_pos z] at c2; exact absurd c2 (by decide)
  obtain ⟨hg, c, k, e1, -, e3, h1, h2⟩ := can_x I ⟨1, rfl, by omega, by omega⟩ c3
  have h1 : c + 1 ≤ k := h1
  have i := append_i I hg e1 e3 h1 h2 p0
  have w := append_w (σ := σ) (τ := τ) (run := run) p0
  generalize F_X5_append σ τ run p0 = x at i w ⊢
  obtain ⟨r, s1, t1, r1⟩ := x
  exact ⟨i, w, fun z => absurd rfl z⟩
theorem copy_n {fr : Int32} {a k : Nat} (ea : fr = nI a) (h2 : k ≤ 24) : ∀ (n j c : Nat) (σ : FS) (τ : TS) (run : Int32), Inv σ τ δ run → ¬ τ.2.2.2.2.2 = 0 → τ.2.2.2.2.1 = nI c → τ.2.1 = nI k → c + n ≤ k → a + j + n ≤ 24 → mcN fr n j σ.1 (mOn run) run σ.2.2 σ.2.1 (mCm τ) = (match cpN run fr n j σ τ run with | (r, σ1, τ1, run1) => (r, σ1.1, mOn run1, run1, σ1.2.2, σ1.2.1, mCm τ1)) ∧ Inv (cpN run fr n j σ τ run).2.1 (cpN run fr n j σ τ run).2.2.1 δ (cpN run fr n j σ τ run).2.2.2 ∧ kp4 τ (cpN run fr n j σ τ run).2.2.1
  | 0, j, c, σ, τ, run, I, _, _, _, _, _ => ⟨rfl, I, kp4.rfl' τ⟩
  | n + 1, j, c, σ, τ, run, I, hg, e1, e3, h1, h3 => by
    have hr := I.hr hg
    rw [mcN, cpN, if_neg (by rw [mOn_1 hr]; decide)]
    have ev : rd σ.1 (29 * run + 5 + fr + nI j) = F_X3_imageWord σ run (fr + nI j) := by
      rw [image_s hr (by rw [ea, nI_add]; exact vp_in_nI (by omega) (by decide)), Int32.add_assoc (29 * run + 5)]
    rw [ev, comes_s I hg e1 (by omega)]
    have i := append_i I hg e1 e3 (by omega) h2 (F_X3_imageWord σ run (fr + nI j))
    have w := append_w (σ := σ) (τ := τ) (run := run) (F_X3_imageWord σ run (fr + nI j))
    have q := append_x (σ := σ) (run := run) e1 (F_X3_imageWord σ run (fr + nI j))
    generalize F_X5_append σ τ run (F_X3_imageWord σ run (fr + nI j)) = x at i w q ⊢
    obtain ⟨r, s1, t1, r1⟩ := x
    dsimp only at i w q ⊢
    by_cases z : r = 0
    · simp only [if_pos z]
      exact ⟨trivial, i, w⟩
    · simp only [if_neg z]
      obtain ⟨q1, q2, q3⟩ := q z
      subst q1
      obtain ⟨A, B, C⟩ := copy_n ea h2 n (j + 1) (c + 1) s1 t1 r1 i (by rw [q2]; exact hg) q3 (w.2.1.symm.trans e3) (by omega) (by omega)
      exact ⟨A, B, w.trans C⟩
end SIMP
