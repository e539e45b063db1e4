/-! THE DELTA: the law's search and the class's find the same pieces -/
theorem mlN_spec (a b : Nat → Int32) : ∀ n j, j ≤ mlN a b n j ∧ mlN a b n j ≤ j + n ∧ (∀ i, j ≤ i → i < mlN a b n j → a i = b i) ∧ (mlN a b n j < j + n → ¬ a (mlN a b n j) = b (mlN a b n j))
  | 0, j => ⟨Nat.le_refl _, Nat.le_refl _, fun i h1 h2 => by rw [mlN] at h2; omega, fun h => by rw [mlN] at h; omega⟩
  | n + 1, j => by
    rw [mlN]
    by_cases c : a j = b j
    · rw [if_pos c]
      obtain ⟨h1, h2, h3, h4⟩ := mlN_spec a b n (j + 1)
      refine ⟨by omega, by omega, fun i i1 i2 => ?_, fun h => h4 (by omega)⟩
      by_cases d : i = j
      · rw [d]; exact c
      · exact h3 i (by omega) i2
    · rw [if_neg c]
      exact ⟨Nat.le_refl _, by omega, fun i i1 i2 => by omega, fun _ => c⟩
theorem mlN_le {a b : Nat → Int32} {n k : Nat} (hk : k ≤ n) : k ≤ mlN a b n 0 ↔ ∀ i, i < k → a i = b i := by
  obtain ⟨h1, h2, h3, h4⟩ := mlN_spec a b n 0
  refine ⟨fun h i hi => h3 i (by omega) (by omega), fun h => ?_⟩
  by_cases c : k ≤ mlN a b n 0
  · exact c
  · exact absurd (h _ (by omega)) (h4 (by omega))
theorem mlN_c {a b a' b' : Nat → Int32} : ∀ n j, (∀ i, j ≤ i → i < j + n → a i = a' i ∧ b i = b' i) → mlN a b n j = mlN a' b' n j
  | 0, j, _ => rfl
  | n + 1, j, h => by
    have e := h j (Nat.le_refl _) (by omega)
    rw [mlN, mlN, e.1, e.2, mlN_c n (j + 1) (fun i h1 h2 => h i (by omega) (by omega))]
/-- so many bytes are the same in the image from f on and in the draft from q on -/
def mlm (A D : Nat → Nat) (len sz q f : Nat) : Nat := mlN (fun j => nI (A (f + j))) (fun j => nI (D (q + j))) (min (len - f) (sz - q)) 0
def mch (A D : Nat → Nat) (q k a : Nat) : Prop := ∀ i, i < k → A (a + i) = D (q + i)
section MM
variable {A D : Nat → Nat} {len sz q : Nat}
theorem mlm_le (hA : ∀ i, i < 24 → A i < 65536) (hD : ∀ i, i < 24 → D i < 65536) (hl : len ≤ 24) (hs : sz ≤ 24) {f k : Nat} (hf : f ≤ len) (hq : q ≤ sz) : k ≤ mlm A D len sz q f ↔ f + k ≤ len ∧ q + k ≤ sz ∧ mch A D q k f := by
  unfold mlm
  by_cases c : k ≤ min (len - f) (sz - q)
  · have c1 : k ≤ len - f := Nat.le_trans c (Nat.min_le_left _ _)
    have c2 : k ≤ sz - q := Nat.le_trans c (Nat.min_le_right _ _)
    rw [mlN_le c]
    refine ⟨fun h => ⟨by omega, by omega, fun i hi => ?_⟩, fun h i hi => ?_⟩
    · have h1 := hA (f + i) (by omega)
      have h2 := hD (q + i) (by omega)
      exact (nI_eq (by omega) (by omega)).mp (h i hi)
    · show nI (A (f + i)) = nI (D (q + i))
      rw [h.2.2 i hi]
  · have h2 := (mlN_spec (fun j => nI (A (f + j))) (fun j => nI (D (q + j))) (min (len - f) (sz - q)) 0).2.1
    refine ⟨fun h => by omega, fun h => ?_⟩
    have : k ≤ min (len - f) (sz - q) := Nat.le_min.mpr ⟨by omega, by omega⟩
    exact absurd this c
theorem mlm_b (f : Nat) : mlm A D len sz q f ≤ sz - q := by
  have h2 := (mlN_spec (fun j => nI (A (f + j))) (fun j => nI (D (q + j))) (min (len - f) (sz - q)) 0).2.1
  unfold mlm
  have := Nat.min_le_right (len - f) (sz - q)
  omega
/-- the longest run: its first place, its length -/
def best1 (m : Nat → Nat) (len : Nat) (F L : Int32) : Prop := (L = 1 ∧ F = -1 ∧ ∀ f, f < len → m f ≤ 1) ∨ ∃ c f0, 2 ≤ c ∧ L = nI c ∧ F = nI f0 ∧ f0 < len ∧ m f0 = c ∧ (∀ f, f < len → m f ≤ c) ∧ ∀ f, f < f0 → m f < c
theorem best1_u {m : Nat → Nat} {F L F' L' : Int32} (h : best1 m len F L) (h' : best1 m len F' L') : F = F' ∧ L = L' := by
  rcases h with ⟨a1, a2, a3⟩ | ⟨c, f0, a1, a2, a3, a4, a5, a6, a7⟩
  · rcases h' with ⟨b1, b2, b3⟩ | ⟨c', f0', b1, b2, b3, b4, b5, b6, b7⟩
    · exact ⟨by rw [a2, b2], by rw [a1, b1]⟩
    · have := a3 f0' b4; omega
  · rcases h' with ⟨b1, b2, b3⟩ | ⟨c', f0', b1, b2, b3, b4, b5, b6, b7⟩
    · have := b3 f0 a4; omega
    · have ec : c = c' := Nat.le_antisymm (by rw [← a5]; exact b6 f0 a4) (by rw [← b5]; exact a6 f0' b4)
      subst ec
      have ef : f0 = f0' := by
        by_cases x : f0 < f0'
        · have := b7 f0 x; omega
        · by_cases y : f0' < f0
          · have := a7 f0' y; omega
          · omega
      subst ef
      exact ⟨by rw [a3, b3], by rw [a2, b2]⟩
/-- the class's search -/
theorem rfN_best {m : Nat → Nat} {ml : Nat → Int32} (hm : ∀ f, m f ≤ 24) : ∀ n, (∀ f, f < n → ml f = nI (m f)) → best1 m n (rfN ml n).2 (rfN ml n).1
  | 0, _ => Or.inl ⟨rfl, rfl, fun f hf => by omega⟩
  | n + 1, h => by
    have IH := rfN_best hm n (fun f hf => h f (by omega))
    have hn := hm n
    rw [rfN, h n (by omega)]
    rcases IH with ⟨a1, a2, a3⟩ | ⟨c, f0, a1, a2, a3, a4, a5, a6, a7⟩
    · by_cases k : nI (m n) ≤ (rfN ml n).1
      · rw [if_pos k]
        refine Or.inl ⟨a1, a2, fun f hf => ?_⟩
        by_cases x : f = n
        · rw [a1] at k
          have := (nI_leI (b := 1) (by omega) (by omega)).mp k
          rw [x]; exact this
        · exact a3 f (by omega)
      · rw [if_neg k]
        rw [a1] at k
        have k2 : ¬ m n ≤ 1 := fun z => k (nI_le (b := 1) z (by omega))
        refine Or.inr ⟨m n, n, by omega, rfl, rfl, by omega, rfl, fun f hf => ?_, fun f hf => ?_⟩
        · by_cases x : f = n
          · rw [x]; exact Nat.le_refl _
          · have := a3 f (by omega); omega
        · have := a3 f hf; omega
    · have hc24 := hm f0
      by_cases k : nI (m n) ≤ (rfN ml n).1
      · rw [if_pos k]
        rw [a2] at k
        have k2 := (nI_leI (by omega) (by omega)).mp k
        refine Or.inr ⟨c, f0, a1, a2, a3, by omega, a5, fun f hf => ?_, a7⟩
        by_cases x : f = n
        · rw [x]; exact k2
        · exact a6 f (by omega)
      · rw [if_neg k]
        rw [a2] at k
        have k2 : ¬ m n ≤ c := fun z => k (nI_le z (by omega))
        refine Or.inr ⟨m n, n, by omega, rfl, rfl, by omega, rfl, fun f hf => ?_, fun f hf => ?_⟩
        · by_cases x : f = n
          · rw [x]; exact Nat.le_refl _
          · have := a6 f (by omega); omega
        · have := a6 f hf; omega
/-- the law's search for one length -/
theorem fdN_spec {P : Nat → Prop} {f : Nat → Int32 → Int32} {N : Nat} (hf : ∀ a acc, a < N → (P a → f a acc = nI a) ∧ (¬ P a → f a acc = acc)) : ∀ n acc, n ≤ N → (∃ a0, a0 < n ∧ P a0 ∧ (∀ a, a < a0 → ¬ P a) ∧ fdN f n acc = nI a0) ∨ ((∀ a, a < n → ¬ P a) ∧ fdN f n acc = acc)
  | 0, acc, _ => Or.inr ⟨fun a ha => by omega, rfl⟩
  | n + 1, acc, hn => by
    rw [fdN]
    rcases fdN_spec hf n (f n acc) (by omega) with ⟨a0, h1, h2, h3, h4⟩ | ⟨h1, h2⟩
    · exact Or.inl ⟨a0, by omega, h2, h3, h4⟩
    · by_cases c : P n
      · exact Or.inl ⟨n, by omega, c, h1, h2.trans ((hf n acc (by omega)).1 c)⟩
      · refine Or.inr ⟨fun a ha => ?_, h2.trans ((hf n acc (by omega)).2 c)⟩
        by_cases x : a = n
        · rw [x]; exact c
        · exact h1 a (by omega)
/-- the law's search over all lengths -/
theorem mnN_best {m : Nat → Nat} {g : Nat → Int32} {B : Nat} (hB : B ≤ 24) (hb : ∀ f, m f ≤ B) (hg : ∀ k, 2 ≤ k → k ≤ B → (∃ f0, f0 < len ∧ g k = nI f0 ∧ k ≤ m f0 ∧ ∀ f, f < f0 → m f < k) ∨ (g k = -1 ∧ ∀ f, f < len → m f < k)) (hl : len ≤ 24) : ∀ n k a b, 2 ≤ k → k + n = B + 1 → ((b = 1 ∧ a = -1 ∧ (k = 2 ∨ ∀ f, f < len → m f < 2)) ∨ ∃ c f0, 2 ≤ c ∧ c < k ∧ b = nI c ∧ a = nI f0 ∧ f0 < len ∧ c ≤ m f0 ∧ (∀ f, f < f0 → m f < c) ∧ (c + 1 = k ∨ ∀ f, f < len → m f < c + 1)) → best1 m len (mnN g n k a b).1 (mnN g n k a b).2
  | 0, k, a, b, hk, hn, J => by
    rw [mnN]
    rcases J with ⟨j1, j2, j3⟩ | ⟨c, f0, j1, j2, j3, j4, j5, j6, j7, j8⟩
    · refine Or.inl ⟨j1, j2, fun f hf => ?_⟩
      rcases j3 with j3 | j3
      · have := hb f; omega
      · have := j3 f hf; omega
    · have up : ∀ f, f < len → m f ≤ c := fun f hf => by
        rcases j8 with j8 | j8
        · have := hb f; omega
        · have := j8 f hf; omega
      exact Or.inr ⟨c, f0, j1, j3, j4, j5, Nat.le_antisymm (up f0 j5) j6, up, j7⟩
  | n + 1, k, a, b, hk, hn, J => by
    rw [mnN]
    refine mnN_best hB hb hg hl n (k + 1) _ _ (by omega) (by omega) ?_
    rcases hg k hk (by omega) with ⟨f0, g1, g2, g3, g4⟩ | ⟨g1, g2⟩
    · have hge : ¬ nI f0 < 0 := nI_pos (by omega)
      unfold F_L_isDelta_j278 F_L_isDelta_j292
      rw [g2, if_neg hge, if_neg hge]
      exact Or.inr ⟨k, f0, hk, by omega, rfl, rfl, g1, g3, g4, Or.inl rfl⟩
    · unfold F_L_isDelta_j278 F_L_isDelta_j292
      rw [g1, if_pos (by decide), if_pos (by decide)]
      rcases J with ⟨j1, j2, j3⟩ | ⟨c, f0, j1, j2, j3, j4, j5, j6, j7, j8⟩
      · refine Or.inl ⟨j1, j2, Or.inr (fun f hf => ?_)⟩
        rcases j3 with j3 | j3
        · have := g2 f hf; omega
        · exact j3 f hf
      · refine Or.inr ⟨c, f0, j1, by omega, j3, j4, j5, j6, j7, Or.inr (fun f hf => ?_)⟩
        rcases j8 with j8 | j8
        · have := g2 f hf; omega
        · exact j8 f hf
end MM
section DLS
variable {σ : FS} {δ : DS} {ww rr dd : Nat → Int32} {v D : Nat → Nat} {s len sz q : Nat} {p1 : Int32}
/-- the draft's bytes are D, in the class and in the law -/
def drf (δ : DS) (dd : Nat → Int32) (D : Nat → Nat) (sz : Nat) : Prop := δ.1 = nI sz ∧ sz ≤ 24 ∧ (∀ i, i < sz → δ.2 i = nI (D i) ∧ dd i = nI (D i)) ∧ ∀ i, i < 24 → D i < 65536
theorem byteAt_n (hd : drf δ dd D sz) {i : Nat} (hi : i < sz) : F_X1_byteAt δ (nI i) = nI (D i) := by
  have h24 := hd.2.1
  unfold F_X1_byteAt
  rw [if_neg (nI_pos (by omega)), if_neg (show ¬ (24 : Int32) ≤ nI i from fun z => absurd ((nI_leI (a := 24) (by omega) (by omega)).mp z) (by omega)), rdn _ (by omega)]
  exact (hd.2.2.1 i hi).1
theorem match_n (h : AbsS σ v) (hm : small v) (hs : s < 2) (hl : v (29 * s + 2) = len) (hl24 : len ≤ 24) (hd : drf δ dd D sz) {f : Nat} (hf : f < len) (hq : q < sz) : F_X0_matchLength δ σ (nI s) (nI f) (nI q) = nI (mlm (fun i => v (29 * s + 5 + i)) D len sz q f) := by
  have hz24 := hd.2.1
  unfold F_X0_matchLength F_X0_most mlm
  rw [show F_X3_slotWord σ (nI s) 2 = nI len from by rw [← hl]; exact slotW_a (j := 2) h hs (by omega), hd.1, pk_sub (by omega), pk_sub (by omega)]
  have em : (if nI (sz - q) < nI (len - f) then nI (sz - q) else nI (len - f)).toNatClampNeg = min (len - f) (sz - q) := by
    by_cases c : sz - q < len - f
    · rw [if_pos (nI_lt c (by omega)), nI_clamp (by omega), Nat.min_eq_right (by omega)]
    · rw [if_neg (nI_nlt (by omega) (by omega)), nI_clamp (by omega), Nat.min_eq_left (by omega)]
  rw [em]
  congr 1
  refine mlN_c _ _ (fun i h1 h2 => ⟨?_, ?_⟩)
  · have := Nat.min_le_left (len - f) (sz - q)
    show F_X3_imageWord σ (nI s) (nI f + nI i) = nI (v (29 * s + 5 + (f + i)))
    rw [nI_add, imageW_a h hs (by omega)]
  · have := Nat.min_le_right (len - f) (sz - q)
    show F_X1_byteAt δ (nI q + nI i) = nI (D (q + i))
    rw [nI_add, byteAt_n hd (by omega)]
theorem runFrom_b (h : AbsS σ v) (hm : small v) (hs : s < 2) (hl : v (29 * s + 2) = len) (hl24 : len ≤ 24) (hd : drf δ dd D sz) (hq : q < sz) : best1 (mlm (fun i => v (29 * s + 5 + i)) D len sz q) len (F_X0_runFrom δ σ (nI s) (nI q)) (F_X0_pieceLength δ σ (nI s) (nI q)) := by
  have hz24 := hd.2.1
  have hmb : ∀ f, mlm (fun i => v (29 * s + 5 + i)) D len sz q f ≤ 24 := fun f => by have := mlm_b (A := fun i => v (29 * s + 5 + i)) (D := D) (len := len) (sz := sz) (q := q) f; omega
  have hb := rfN_best (ml := fun k => F_X0_matchLength δ σ (nI s) (nI k) (nI q)) hmb len (fun f hf => match_n h hm hs hl hl24 hd hf hq)
  have er : F_X0_runFrom δ σ (nI s) (nI q) = (rfN (fun k => F_X0_matchLength δ σ (nI s) (nI k) (nI q)) len).2 := by
    unfold F_X0_runFrom
    rw [show F_X3_slotWord σ (nI s) 2 = nI len from by rw [← hl]; exact slotW_a (j := 2) h hs (by omega), nI_clamp (by omega), Nat.min_eq_left hl24]
  have ep : F_X0_pieceLength δ σ (nI s) (nI q) = (rfN (fun k => F_X0_matchLength δ σ (nI s) (nI k) (nI q)) len).1 := by
    unfold F_X0_pieceLength
    rw [er]
    rcases hb with ⟨a1, a2, a3⟩ | ⟨c, f0, a1, a2, a3, a4, a5, a6, a7⟩
    · rw [a2, if_pos rfl, a1]
    · rw [a3, if_neg (nI_m1 (by omega)), match_n h hm hs hl hl24 hd a4 hq, a5, a2]
  rw [er, ep]
  exact hb
theorem gx_n (hw : AbsW ww rr v) (hm : small v) (hs : s < 2) (hl : v (29 * s + 2) = len) (hl24 : len ≤ 24) (hd : drf δ dd D sz) (hq : q < sz) {k : Nat} (hk : 2 ≤ k) (hk2 : k ≤ sz - q) : (∃ f0, f0 < len ∧ gxN ww dd (nI s) (nI q) k = nI f0 ∧ k ≤ mlm (fun i => v (29 * s + 5 + i)) D len sz q f0 ∧ ∀ f, f < f0 → mlm (fun i => v (29 * s + 5 + i)) D len sz q f < k) ∨ (gxN ww dd (nI s) (nI q) k = -1 ∧ ∀ f, f < len → mlm (fun i => v (29 * s + 5 + i)) D len sz q f < k) := by
  have hz24 := hd.2.1
  have hA : ∀ i, i < 24 → (fun i => v (29 * s + 5 + i)) i < 65536 := fun i hi => hm _ (by omega)
  have ML := fun (f : Nat) (hf : f ≤ len) => mlm_le (A := fun i => v (29 * s + 5 + i)) (D := D) (k := k) hA hd.2.2.2 hl24 hz24 hf (show q ≤ sz by omega)
  have eN : ((rd ww (32 * nI s + 2) - nI k).toInt + 1).toNat = len + 1 - k := by
    rw [show rd ww (32 * nI s + 2) = nI (v (29 * s + 2)) from lw (j := 2) hw hs (by omega), hl, pk_sub_toInt (by omega) (by omega)]
    omega
  have hf : ∀ (a : Nat) (acc : Int32), a < len + 1 - k → (mch (fun i => v (29 * s + 5 + i)) D q k a → fdG ww dd (nI s) (nI q) (nI k) a acc = nI a) ∧ (¬ mch (fun i => v (29 * s + 5 + i)) D q k a → fdG ww dd (nI s) (nI q) (nI k) a acc = acc) := by
    intro a acc ha
    unfold fdG F_L_isDelta_j258
    rw [nI_clamp (by omega)]
    have ec : mlN (fun i => rd dd (nI q + nI i)) (fun i => rd ww (32 * nI s + 5 + nI a + nI i)) k 0 = mlN (fun j => nI (D (q + j))) (fun j => nI (v (29 * s + 5 + (a + j)))) k 0 := mlN_c _ _ (fun i h1 h2 => ⟨by
      show rd dd (nI q + nI i) = nI (D (q + i))
      rw [nI_add, rdn _ (by omega)]; exact (hd.2.2.1 _ (by omega)).2, by
      show rd ww (32 * nI s + 5 + nI a + nI i) = nI (v (29 * s + 5 + (a + i)))
      rw [Int32.add_assoc, nI_add, lw5 hw hs (by omega)]⟩)
    rw [ec]
    have hle := (mlN_spec (fun j => nI (D (q + j))) (fun j => nI (v (29 * s + 5 + (a + j)))) k 0).2.1
    have hiff := mlN_le (a := fun j => nI (D (q + j))) (b := fun j => nI (v (29 * s + 5 + (a + j)))) (Nat.le_refl k)
    refine ⟨fun hh => if_pos ?_, fun hh => if_neg (fun z => hh ?_)⟩
    · have := hiff.mpr (fun i hi => by
        show nI (D (q + i)) = nI (v (29 * s + 5 + (a + i)))
        rw [← hh i hi])
      rw [(show mlN (fun j => nI (D (q + j))) (fun j => nI (v (29 * s + 5 + (a + j)))) k 0 = k by omega)]
    · have e := (nI_eq (by omega) (by omega)).mp z
      intro i hi
      have h1 := hiff.mp (by omega) i hi
      have b1 := hd.2.2.2 (q + i) (by omega)
      have b2 := hm (29 * s + 5 + (a + i)) (by omega)
      exact ((nI_eq (by omega) (by omega)).mp h1).symm
  unfold gxN
  rw [eN]
  rcases fdN_spec hf (len + 1 - k) (-1) (Nat.le_refl _) with ⟨a0, h1, h2, h3, h4⟩ | ⟨h1, h2⟩
  · refine Or.inl ⟨a0, by omega, h4, (ML a0 (by omega)).mpr ⟨by omega, by omega, h2⟩, fun f hf2 => ?_⟩
    refine Nat.lt_of_not_le (fun z => h3 f hf2 ((ML f (by omega)).mp z).2.2)
  · refine Or.inr ⟨h2, fun f hf2 => Nat.lt_of_not_le (fun z => ?_)⟩
    have y := (ML f (by omega)).mp z
    exact h1 f (by omega) y.2.2
/-- the law's piece at the place q is the class's -/
theorem piece_n (h : AbsS σ v) (hw : AbsW ww rr v) (hm : small v) (hs : s < 2) (hl : v (29 * s + 2) = len) (hl24 : len ≤ 24) (hd : drf δ dd D sz) (hq : q < sz) : (mnN (gxN ww dd (nI s) (nI q)) (sz - q - 1) 2 (-1) 1).1 = F_X0_runFrom δ σ (nI s) (nI q) ∧ (mnN (gxN ww dd (nI s) (nI q)) (sz - q - 1) 2 (-1) 1).2 = F_X0_pieceLength δ σ (nI s) (nI q) := by
  have hz24 := hd.2.1
  refine best1_u ?_ (runFrom_b h hm hs hl hl24 hd hq)
  exact mnN_best (B := sz - q) (by omega) (fun f => mlm_b f) (fun k h2 h3 => gx_n hw hm hs hl hl24 hd hq h2 h3) hl24 (sz - q - 1) 2 (-1) 1 (by omega) (by omega) (Or.inl ⟨rfl, rfl, Or.inl rfl⟩)
theorem pcL_n (h : AbsS σ v) (hw : AbsW ww rr v) (hm : small v) (hs : s < 2) (hl : v (29 * s + 2) = len) (hl24 : len ≤ 24) (hg : good v s) (hd : drf δ dd D sz) : ∀ n p q, p < 1000 → q ≤ 24 → psN (fun st => F_X0_pieceLength δ σ (nI s) st) δ.1 p 0 = nI q → p + n ≤ 500 → pcL σ δ ww dd (nI s) sz n 1 p q = (1, pcN (fun st => F_X0_pieceLength δ σ (nI s) st) δ.1 n (nI q) (nI p))
  | 0, p, q, _, _, _, _ => rfl
  | n + 1, p, q, hp, hq24, hps, hn => by
    have hz24 := hd.2.1
    rw [pcL, pcN, hd.1]
    by_cases c : sz ≤ q
    · rw [if_pos c, if_pos (nI_le c (by omega))]
    · rw [if_neg c, if_neg (show ¬ (1 : Int32) = 0 by decide), if_neg (fun z => c ((nI_leI (by omega) (by omega)).mp z))]
      have hq : q < sz := by omega
      obtain ⟨e1, e2⟩ := piece_n h hw hm hs hl hl24 hd hq
      have hst : F_X3_canStart σ (nI s) = 1 := by rw [canStart_a h hm hs, if_pos hg]
      have hsl : sl (nI s) := sl_n rfl hs
      have hpst := pst_eq (k9 := nI p) rfl (by omega) hps hd.1 rfl hq hz24
      rw [e1, e2]
      have ej : F_L_isDelta_j329 σ δ (nI s) (nI p) (F_X0_pieceLength δ σ (nI s) (nI q)) (F_X0_runFrom δ σ (nI s) (nI q)) = 1 := by
        unfold F_L_isDelta_j329
        rw [dl_2 hsl hst hpst rfl (by omega), df_2 hsl hst hpst rfl (by omega), if_pos rfl, if_pos rfl]
      obtain ⟨L, eL, hL⟩ : ∃ L, F_X0_pieceLength δ σ (nI s) (nI q) = nI L ∧ L ≤ sz - q := by
        rcases runFrom_b h hm hs hl hl24 hd hq with ⟨a1, a2, a3⟩ | ⟨c, f0, a1, a2, a3, a4, a5, a6, a7⟩
        · exact ⟨1, a1, by omega⟩
        · exact ⟨c, a2, by rw [← a5]; exact mlm_b f0⟩
      rw [ej]
      have hnext : psN (fun st => F_X0_pieceLength δ σ (nI s) st) δ.1 (p + 1) 0 = nI (q + L) := by
        rw [psN_snoc, hps, hd.1, if_neg (fun z => c ((nI_leI (by omega) (by omega)).mp z)), eL, nI_add]
      rw [eL, nI_clamp (by omega), nI_1, nI_add, ← hd.1]
      exact pcL_n h hw hm hs hl hl24 hg hd n (p + 1) (q + L) (by omega) (by omega) hnext (by omega)
/-- the hash of the draft, in numbers -/
def dh (D : Nat → Nat) : Nat → Nat
  | 0 => 17
  | n + 1 => (31 * dh D n + D n + 1) % 65521
theorem dh_lt (D : Nat → Nat) : ∀ n, dh D n < 65521
  | 0 => (by decide : 17 < 65521)
  | n + 1 => Nat.mod_lt _ (by decide)
theorem dhash_n (hd : drf δ dd D sz) : ∀ n, n ≤ sz → hashN (fun k => F_X1_byteAt δ (nI k)) n = nI (dh D n)
  | 0, _ => rfl
  | n + 1, hn => by
    have h1 := dh_lt D n
    have h2 := hd.2.2.2 n (by have := hd.2.1; omega)
    rw [hashN, dhash_n hd n (by omega), byteAt_n hd (by omega), hashWith_a (by omega) (by omega), dh]
theorem drN_n (hby : byOk ww (nI s)) (hz : zOk p1) (hD : ∀ i, i < 24 → F_L_isDelta_j94 p1 (nI i) ww (nI s) = nI (D i) ∧ D i < 65536) : ∀ n j (h : Int64) (δ : DS) (d : Nat → Int32), j + n ≤ 24 → drf δ d D j → h = lN (dh D j) → ∃ δ' d', drN ww (nI s) p1 n j 1 h δ d = (1, lN (dh D (j + n)), δ', d') ∧ drf δ' d' D (j + n)
  | 0, j, h, δ, d, _, hd, hh => ⟨δ, d, by rw [drN, hh]; rfl, hd⟩
  | n + 1, j, h, δ, d, hn, hd, hh => by
    obtain ⟨e1, e2⟩ := hD j (by omega)
    have h1 := dh_lt D j
    have hv : vp_in (nI (D j)) 256 := by rw [← e1]; exact j94_ok hby hz rfl (by omega)
    have ed := dr_e hv hd.1 (by omega : j < 24)
    rw [drN, if_neg (by decide), e1, rd_wr_eq rfl, ed]
    have ej : F_L_isDelta_j116 (nI (j + 1)) (nI j) = 1 := by
      unfold F_L_isDelta_j116
      rw [nI_1, if_pos rfl]
    have eh : 31 * h + (nI (D j)).toInt64 + 1 - (31 * h + (nI (D j)).toInt64 + 1) / 65521 * 65521 = lN (dh D (j + 1)) := by
      rw [hh, nI_l (by omega), show (31 : Int64) = lN 31 from rfl, show (65521 : Int64) = lN 65521 from rfl, lN_mul, lN_add, lN_1, pk_lRem (by omega) (by omega) (by omega), dh]
    dsimp only
    rw [ej, eh, (show j + (n + 1) = j + 1 + n by omega)]
    refine drN_n hby hz hD n (j + 1) _ _ _ (by omega) ⟨rfl, by omega, fun i hi => ?_, hd.2.2.2⟩ rfl
    rw [show ((nI (j + 1), wr δ.2 (nI j) (nI (D j))) : DS).2 = wr δ.2 (nI j) (nI (D j)) from rfl, wr_n _ (by omega), wr_n _ (by omega)]
    by_cases c : i = j
    · rw [if_pos c, if_pos c, c]; exact ⟨rfl, rfl⟩
    · rw [if_neg c, if_neg c]; exact hd.2.2.1 i (by omega)
end DLS
section DLA
variable {σ : FS} {τ : TS} {δ : DS} {run : Int32} {ww rr mm : Nat → Int32} {v : Nat → Nat} {e b : Nat} {p1 : Int32}
theorem byOk_n (hw : AbsW ww rr v) (N : NI e v b) {s : Nat} (hs : s < 2) : byOk ww (nI s) := fun q hq => by
  rw [lw5 hw hs hq]
  have hb := N.2.2 (29 * s + 5 + q) (by omega)
  unfold bnd at hb
  rw [if_pos (by omega), if_neg (by omega), if_neg (by omega), if_neg (by omega), if_neg (by omega), if_neg (by omega)] at hb
  exact vp_in_nI (by omega) (by decide)
theorem lenOk_n (hw : AbsW ww rr v) {s : Nat} (hs : s < 2) (hg : good v s) : lenOk ww (nI s) := ⟨v (29 * s + 2), lw (j := 2) hw hs (by omega), hg.2.1, hg.2.2.1⟩
theorem delta_1 (S : Sim e v b σ τ δ run ww rr mm) (he : e ≤ 890) {s : Nat} (hs : s < 2) (hg : good v s) (hz : zOk p1) : ∃ δ', F_L_isDelta σ δ ww (nI s) p1 = (1, δ') ∧ Sim e v b σ τ δ' run ww rr mm := by
  obtain ⟨h, hw, hgf, hr, N, hro, ht, ⟨d0, ed0, hd0⟩, hv⟩ := S
  have hm := N.small (e := e) (by omega)
  have hby := byOk_n hw N hs
  obtain ⟨sz, esz, hs1, hs24⟩ := size9 hz
  have hDx : ∀ i, ∃ x, i < 24 → F_L_isDelta_j94 p1 (nI i) ww (nI s) = nI x ∧ x < 65536 := fun i => by
    by_cases c : i < 24
    · obtain ⟨x, hx, ex⟩ := vp_in_of (j94_ok hby hz (k := nI i) rfl c) (by decide)
      exact ⟨x, fun _ => ⟨ex, by omega⟩⟩
    · exact ⟨0, fun z => absurd z c⟩
  obtain ⟨D, hD⟩ := Classical.axiomOfChoice hDx
  have hD2 : ∀ i, i < 24 → F_L_isDelta_j94 p1 (nI i) ww (nI s) = nI (if i < 24 then D i else 0) ∧ (if i < 24 then D i else 0) < 65536 := fun i hi => by rw [if_pos hi]; exact hD i hi
  obtain ⟨δ', d', e1, e2⟩ := drN_n (D := fun i => if i < 24 then D i else 0) hby hz hD2 sz 0 17 (0, δ.2) (fun _ => 0) (by omega) ⟨rfl, by omega, fun i hi => by omega, fun i hi => (hD2 i hi).2⟩ rfl
  rw [Nat.zero_add] at e1 e2
  have e3 := pcL_n (sz := sz) h hw hm hs rfl hg.2.2.1 hg e2 24 0 0 (by omega) (by omega) rfl (by omega)
  have hst : F_X3_canStart σ (nI s) = 1 := by rw [canStart_a h hm hs, if_pos hg]
  have e4 : (F_X5_deltaPieces σ δ' (nI s)).2 = pcN (fun st => F_X0_pieceLength δ' σ (nI s) st) δ'.1 24 (nI 0) (nI 0) := by
    unfold F_X5_deltaPieces
    rw [if_pos (st_0 (sl_n rfl hs) hst)]
    rfl
  have e5 : F_X5_draftHash δ' = Int64.toInt32 (lN (dh (fun i => if i < 24 then D i else 0) sz)) := by
    unfold F_X5_draftHash F_X1_hash
    rw [e2.1, nI_clamp (by omega), dhash_n e2 sz (Nat.le_refl _), lN_i]
  refine ⟨δ', ?_, h, hw, hgf, hr, N, hro, ht, ⟨sz, e2.1, hs24⟩, hv⟩
  unfold F_L_isDelta F_X5_clearDraft F_X1_clear
  have ej : F_L_isDelta_j26 δ.1 = 1 := by
    unfold F_L_isDelta_j26
    rw [ed0, if_neg (nI_pos (by omega))]
  have esz' : (1 + (p1 - p1 / 24 * 24) : Int32).toNatClampNeg = sz := by rw [esz, nI_clamp (by omega)]
  dsimp only
  rw [ej, esz', e1]
  dsimp only
  rw [e3]
  dsimp only
  rw [if_neg (by decide), if_pos e4, if_pos e5]
end DLA
