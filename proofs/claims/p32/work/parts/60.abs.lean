/-! THE FLASH IN NUMBERS: what the class's and the law's readings are, word by word -/
def AbsS (σ : FS) (v : Nat → Nat) : Prop := ∀ i, i < 66 → σ.1 i = nI (v i)
def AbsW (ww rr : Nat → Int32) (v : Nat → Nat) : Prop := (∀ s j, s < 2 → j < 29 → ww (32 * s + j) = nI (v (29 * s + j))) ∧ ∀ k, k < 8 → rr k = nI (v (58 + k))
def small (v : Nat → Nat) : Prop := ∀ i, i < 66 → v i < 65536
/-- the hash of n bytes of the slot s -/
def hsh (v : Nat → Nat) (s : Nat) : Nat → Nat
  | 0 => 17
  | n + 1 => (31 * hsh v s n + v (29 * s + 5 + n) + 1) % 65521
abbrev good (v : Nat → Nat) (s : Nat) : Prop := v (29 * s) = 1 ∧ 1 ≤ v (29 * s + 2) ∧ v (29 * s + 2) ≤ 24 ∧ v (29 * s + 3) = hsh v s (v (29 * s + 2))
def chk (a b c : Nat) : Nat := 1 + (7 * a + 13 * b + 29 * c) % 250
abbrev valid (v : Nat → Nat) (r : Nat) : Prop := v (58 + 4 * r) = chk (v (58 + 4 * r + 1)) (v (58 + 4 * r + 2)) (v (58 + 4 * r + 3))
theorem hsh_lt (v : Nat → Nat) (s : Nat) : ∀ n, hsh v s n < 65521
  | 0 => (by decide : 17 < 65521)
  | n + 1 => Nat.mod_lt _ (by decide)
theorem hsh_c {v v' : Nat → Nat} {s : Nat} : ∀ n, (∀ k, k < n → v (29 * s + 5 + k) = v' (29 * s + 5 + k)) → hsh v s n = hsh v' s n
  | 0, _ => rfl
  | n + 1, h => by rw [hsh, hsh, hsh_c n (fun k hk => h k (by omega)), h n (by omega)]
theorem n2 : (2 : Int32) = nI 2 := rfl
theorem n3 : (3 : Int32) = nI 3 := rfl
theorem n4 : (4 : Int32) = nI 4 := rfl
theorem n5 : (5 : Int32) = nI 5 := rfl
theorem n1' : (1 : Int32) = nI 1 := rfl
theorem n0' : (0 : Int32) = nI 0 := rfl
section ABS
variable {σ : FS} {v : Nat → Nat} {ww rr : Nat → Int32}
theorem read_a (h : AbsS σ v) {i : Nat} (hi : i < 66) : F_X2_read σ (nI i) = nI (v i) := by
  unfold F_X2_read
  rw [if_neg (nI_pos (by omega)), if_neg (show ¬ (66 : Int32) ≤ nI i from fun z => absurd ((nI_leI (a := 66) (by omega) (by omega)).mp z) (by omega)), ← h i hi]
  show σ.1 (nI i).toNatClampNeg = _
  rw [nI_clamp (by omega)]
theorem slotW_a (h : AbsS σ v) {s j : Nat} (hs : s < 2) (hj : j < 29) : F_X3_slotWord σ (nI s) (nI j) = nI (v (29 * s + j)) := by
  unfold F_X3_slotWord
  rw [show (29 : Int32) = nI 29 from rfl, pk_mul, nI_add, Nat.mul_comm s 29]
  exact read_a h (by omega)
theorem imageW_a (h : AbsS σ v) {s j : Nat} (hs : s < 2) (hj : j < 24) : F_X3_imageWord σ (nI s) (nI j) = nI (v (29 * s + 5 + j)) := by
  unfold F_X3_imageWord
  rw [show (29 : Int32) = nI 29 from rfl, n5, pk_mul, nI_add, nI_add, Nat.mul_comm s 29]
  exact read_a h (by omega)
theorem recW_a (h : AbsS σ v) {r j : Nat} (hr : r < 2) (hj : j < 4) : F_X3_recordWord σ (nI r) (nI j) = nI (v (58 + 4 * r + j)) := by
  unfold F_X3_recordWord
  rw [show (58 : Int32) = nI 58 from rfl, n4, pk_mul, nI_add, nI_add, Nat.mul_comm r 4]
  exact read_a h (by omega)
theorem hashWith_a {h x : Nat} (h1 : h < 65536) (h2 : x < 65536) : F_X5_hashWith (nI h) (nI x) = nI ((31 * h + x + 1) % 65521) := by
  unfold F_X5_hashWith
  rw [show (31 : Int32) = nI 31 from rfl, show (65521 : Int32) = nI 65521 from rfl, pk_mul, nI_add, nI_1, pk_rem (by omega) (by omega) (by omega), Nat.mul_comm h 31]
theorem hashN_a {f : Nat → Int32} {s : Nat} (hs : s < 2) (hm : small v) : ∀ n, n ≤ 24 → (∀ k, k < n → f k = nI (v (29 * s + 5 + k))) → hashN f n = nI (hsh v s n)
  | 0, _, _ => rfl
  | n + 1, hn, hf => by
    have := hsh_lt v s n
    rw [hashN, hashN_a hs hm n (by omega) (fun k hk => hf k (by omega)), hf n (by omega), hashWith_a (by omega) (hm _ (by omega)), hsh]
theorem imageHash_a (h : AbsS σ v) (hm : small v) {s n : Nat} (hs : s < 2) (hn : n ≤ 24) : F_X3_imageHash σ (nI s) (nI n) = nI (hsh v s n) := by
  unfold F_X3_imageHash
  rw [nI_clamp (by omega), Nat.min_eq_left hn]
  exact hashN_a hs hm n hn (fun k hk => imageW_a h hs (by omega))
theorem eqI {a b : Nat} (ha : a < 65536) (hb : b < 65536) : (nI a = nI b) = (a = b) := propext (nI_eq (by omega) (by omega))
theorem leI {a b : Nat} (ha : a < 2 ^ 31) (hb : b < 2 ^ 31) : (nI a ≤ nI b) = (a ≤ b) := propext (nI_leI ha hb)
theorem ltI {a b : Nat} (ha : a < 2 ^ 31) (hb : b < 2 ^ 31) : (nI a < nI b) = (a < b) := propext (nI_ltI ha hb)
theorem canStart_a (h : AbsS σ v) (hm : small v) {s : Nat} (hs : s < 2) : F_X3_canStart σ (nI s) = if good v s then 1 else 0 := by
  unfold F_X3_canStart
  have k0 := hm (29 * s) (by omega)
  have k2 := hm (29 * s + 2) (by omega)
  have k3 := hm (29 * s + 3) (by omega)
  have kh := hsh_lt v s (v (29 * s + 2))
  rw [show F_X3_slotWord σ (nI s) 0 = nI (v (29 * s)) from slotW_a (j := 0) h hs (by omega), show F_X3_slotWord σ (nI s) 2 = nI (v (29 * s + 2)) from slotW_a (j := 2) h hs (by omega), show F_X3_slotWord σ (nI s) 3 = nI (v (29 * s + 3)) from slotW_a (j := 3) h hs (by omega)]
  simp only [n1', show (24 : Int32) = nI 24 from rfl, eqI k0 (show 1 < 65536 by omega), ltI (show v (29 * s + 2) < 2 ^ 31 by omega) (show 1 < 2 ^ 31 by omega), ltI (show 24 < 2 ^ 31 by omega) (show v (29 * s + 2) < 2 ^ 31 by omega)]
  by_cases c0 : v (29 * s) = 1
  · rw [if_pos c0]
    by_cases c1 : v (29 * s + 2) < 1
    · rw [if_pos c1, if_neg (fun g => by have := g.2.1; omega)]
    · rw [if_neg c1]
      by_cases c2 : 24 < v (29 * s + 2)
      · rw [if_pos c2, if_neg (fun g => by have := g.2.2.1; omega)]
      · rw [if_neg c2, imageHash_a h hm hs (by omega)]
        simp only [eqI k3 (show hsh v s (v (29 * s + 2)) < 65536 by omega)]
        by_cases c3 : v (29 * s + 3) = hsh v s (v (29 * s + 2))
        · rw [if_pos c3, if_pos ⟨c0, by omega, by omega, c3⟩]
        · rw [if_neg c3, if_neg (fun g => c3 g.2.2.2)]
  · rw [if_neg c0, if_neg (fun g => c0 g.1)]
theorem chk_lt (a b c : Nat) : 1 ≤ chk a b c ∧ chk a b c ≤ 250 := by unfold chk; omega
theorem checkOf_a {a b c : Nat} (ha : a < 65536) (hb : b < 65536) (hc : c < 65536) : F_X3_checkOf (nI a) (nI b) (nI c) = nI (chk a b c) := by
  unfold F_X3_checkOf chk
  rw [show (7 : Int32) = nI 7 from rfl, show (13 : Int32) = nI 13 from rfl, show (29 : Int32) = nI 29 from rfl, show (250 : Int32) = nI 250 from rfl, n1', pk_mul, pk_mul, pk_mul, nI_add, nI_add, pk_rem (by omega) (by omega) (by omega), nI_add]
theorem check_a {a b c : Nat} (ha : a < 65536) (hb : b < 65536) (hc : c < 65536) : F_L_check (nI a) (nI b) (nI c) = nI (chk a b c) := by
  unfold F_L_check chk
  rw [show (7 : Int32) = nI 7 from rfl, show (13 : Int32) = nI 13 from rfl, show (29 : Int32) = nI 29 from rfl, show (250 : Int32) = nI 250 from rfl, n1', pk_mul, pk_mul, pk_mul, nI_add, nI_add, pk_rem (by omega) (by omega) (by omega), nI_add, Nat.add_comm]
theorem isValid_a (h : AbsS σ v) (hm : small v) {r : Nat} (hr : r < 2) : F_X3_isRecordValid σ (nI r) = if valid v r then 1 else 0 := by
  unfold F_X3_isRecordValid
  have e0 : F_X3_recordWord σ (nI r) 0 = nI (v (58 + 4 * r)) := recW_a (j := 0) h hr (by omega)
  have e1 : F_X3_recordWord σ (nI r) 1 = nI (v (58 + 4 * r + 1)) := recW_a (j := 1) h hr (by omega)
  have e2 : F_X3_recordWord σ (nI r) 2 = nI (v (58 + 4 * r + 2)) := recW_a (j := 2) h hr (by omega)
  have e3 : F_X3_recordWord σ (nI r) 3 = nI (v (58 + 4 * r + 3)) := recW_a (j := 3) h hr (by omega)
  have := chk_lt (v (58 + 4 * r + 1)) (v (58 + 4 * r + 2)) (v (58 + 4 * r + 3))
  rw [e0, e1, e2, e3, checkOf_a (hm _ (by omega)) (hm _ (by omega)) (hm _ (by omega))]
  simp only [eqI (hm (58 + 4 * r) (by omega)) (show chk (v (58 + 4 * r + 1)) (v (58 + 4 * r + 2)) (v (58 + 4 * r + 3)) < 65536 by omega)]
/-! the law's readings -/
theorem rdn (f : Nat → Int32) {i : Nat} (hi : i < 2 ^ 31) : rd f (nI i) = f i := by
  show f (nI i).toNatClampNeg = _
  rw [nI_clamp hi]
theorem lw0 (h : AbsW ww rr v) {s : Nat} (hs : s < 2) : rd ww (32 * nI s) = nI (v (29 * s)) := by
  rw [show (32 : Int32) = nI 32 from rfl, pk_mul, rdn _ (by omega)]
  exact h.1 s 0 hs (by omega)
theorem lw (h : AbsW ww rr v) {s j : Nat} (hs : s < 2) (hj : j < 29) : rd ww (32 * nI s + nI j) = nI (v (29 * s + j)) := by
  rw [show (32 : Int32) = nI 32 from rfl, pk_mul, nI_add, rdn _ (by omega)]
  exact h.1 s j hs hj
theorem lw5 (h : AbsW ww rr v) {s j : Nat} (hs : s < 2) (hj : j < 24) : rd ww (32 * nI s + 5 + nI j) = nI (v (29 * s + 5 + j)) := by
  rw [Int32.add_assoc, n5, nI_add, lw h hs (by omega), Nat.add_assoc]
theorem lr0 (h : AbsW ww rr v) {r : Nat} (hr : r < 2) : rd rr (4 * nI r) = nI (v (58 + 4 * r)) := by
  rw [n4, pk_mul, rdn _ (by omega)]
  exact h.2 (4 * r) (by omega)
theorem lr (h : AbsW ww rr v) {r j : Nat} (hr : r < 2) (hj : j < 4) : rd rr (4 * nI r + nI j) = nI (v (58 + 4 * r + j)) := by
  rw [n4, pk_mul, nI_add, rdn _ (by omega), h.2 (4 * r + j) (by omega), Nat.add_assoc]
theorem hashL_a {f : Nat → Int32} {s : Nat} (hs : s < 2) (hm : small v) : ∀ n, n ≤ 24 → (∀ k, k < n → f k = nI (v (29 * s + 5 + k))) → hashL f n = lN (hsh v s n)
  | 0, _, _ => rfl
  | n + 1, hn, hf => by
    have h1 := hsh_lt v s n
    have h2 := hm (29 * s + 5 + n) (by omega)
    rw [hashL, hashL_a hs hm n (by omega) (fun k hk => hf k (by omega)), hf n (by omega), nI_l (by omega), show (31 : Int64) = lN 31 from rfl, show (65521 : Int64) = lN 65521 from rfl, lN_mul, lN_add, lN_1, pk_lRem (by omega) (by omega) (by omega), hsh]
theorem lhash_a (h : AbsW ww rr v) (hm : small v) {s n : Nat} (hs : s < 2) (hn : n ≤ 24) : F_L_hash ww (nI s) (nI n) = nI (hsh v s n) := by
  unfold F_L_hash
  rw [nI_clamp (by omega), hashL_a hs hm n hn (fun k hk => lw5 h hs (by omega)), lN_i]
theorem lgood_a (h : AbsW ww rr v) (hm : small v) {s : Nat} (hs : s < 2) : F_L_isGood ww (nI s) = if good v s then 1 else 0 := by
  unfold F_L_isGood
  have k0 := hm (29 * s) (by omega)
  have k2 := hm (29 * s + 2) (by omega)
  have k3 := hm (29 * s + 3) (by omega)
  have kh := hsh_lt v s (v (29 * s + 2))
  rw [lw0 h hs, show rd ww (32 * nI s + 2) = nI (v (29 * s + 2)) from lw (j := 2) h hs (by omega), show rd ww (32 * nI s + 3) = nI (v (29 * s + 3)) from lw (j := 3) h hs (by omega)]
  simp only [n0', n1', show (25 : Int32) = nI 25 from rfl, eqI k0 (show 1 < 65536 by omega), leI (show v (29 * s + 2) < 2 ^ 31 by omega) (show 0 < 2 ^ 31 by omega), leI (show 25 < 2 ^ 31 by omega) (show v (29 * s + 2) < 2 ^ 31 by omega)]
  by_cases c0 : v (29 * s) = 1
  · rw [if_pos c0]
    by_cases c1 : v (29 * s + 2) ≤ 0
    · rw [if_pos c1, if_neg (fun g => by have := g.2.1; omega)]
    · rw [if_neg c1]
      by_cases c2 : 25 ≤ v (29 * s + 2)
      · rw [if_pos c2, if_neg (fun g => by have := g.2.2.1; omega)]
      · rw [if_neg c2, lhash_a h hm hs (by omega)]
        simp only [eqI k3 (show hsh v s (v (29 * s + 2)) < 65536 by omega)]
        by_cases c3 : v (29 * s + 3) = hsh v s (v (29 * s + 2))
        · rw [if_pos c3, if_pos ⟨c0, by omega, by omega, c3⟩]
        · rw [if_neg c3, if_neg (fun g => c3 g.2.2.2)]
  · rw [if_neg c0, if_neg (fun g => c0 g.1)]
theorem lvalid_a (h : AbsW ww rr v) (hm : small v) {r : Nat} (hr : r < 2) : F_L_isValid rr (nI r) = if valid v r then 1 else 0 := by
  unfold F_L_isValid
  have := chk_lt (v (58 + 4 * r + 1)) (v (58 + 4 * r + 2)) (v (58 + 4 * r + 3))
  rw [lr0 h hr, show rd rr (4 * nI r + 1) = nI (v (58 + 4 * r + 1)) from lr (j := 1) h hr (by omega), show rd rr (4 * nI r + 2) = nI (v (58 + 4 * r + 2)) from lr (j := 2) h hr (by omega), show rd rr (4 * nI r + 3) = nI (v (58 + 4 * r + 3)) from lr (j := 3) h hr (by omega), check_a (hm _ (by omega)) (hm _ (by omega)) (hm _ (by omega))]
  simp only [eqI (hm (58 + 4 * r) (by omega)) (show chk (v (58 + 4 * r + 1)) (v (58 + 4 * r + 2)) (v (58 + 4 * r + 3)) < 65536 by omega)]
/-- the record b is in force -/
def RI (v : Nat → Nat) (b : Nat) : Prop := b < 2 ∧ valid v b ∧ (v (58 + 4 * (1 - b)) = 0 ∨ (valid v (1 - b) ∧ v (58 + 4 * (1 - b) + 1) < v (58 + 4 * b + 1)))
theorem not_valid {r : Nat} (h : v (58 + 4 * r) = 0) : ¬ valid v r := fun g => by
  have := chk_lt (v (58 + 4 * r + 1)) (v (58 + 4 * r + 2)) (v (58 + 4 * r + 3))
  have h2 : v (58 + 4 * r) = chk (v (58 + 4 * r + 1)) (v (58 + 4 * r + 2)) (v (58 + 4 * r + 3)) := g
  omega
theorem force_a (h : AbsS σ v) (hm : small v) {b : Nat} (hb : RI v b) : F_X3_recordInForce σ = nI b := by
  unfold F_X3_recordInForce
  obtain ⟨h2, hv, ho⟩ := hb
  rw [show F_X3_isRecordValid σ 0 = if valid v 0 then 1 else 0 from isValid_a h hm (r := 0) (by omega), show F_X3_isRecordValid σ 1 = if valid v 1 then 1 else 0 from isValid_a h hm (r := 1) (by omega), show F_X3_recordWord σ 1 1 = nI (v 63) from recW_a (r := 1) (j := 1) h (by omega) (by omega), show F_X3_recordWord σ 0 1 = nI (v 59) from recW_a (r := 0) (j := 1) h (by omega) (by omega)]
  have k63 := hm 63 (by omega)
  have k59 := hm 59 (by omega)
  simp only [leI (show v 63 < 2 ^ 31 by omega) (show v 59 < 2 ^ 31 by omega)]
  have : b = 0 ∨ b = 1 := by omega
  rcases this with rfl | rfl
  · rcases ho with ho | ⟨ho, hq⟩
    · rw [if_neg (not_valid (r := 1) ho)]; rfl
    · have hq' : v 63 < v 59 := hq
      rw [if_pos ho, if_pos hv, if_neg (by decide), if_neg (by decide), if_pos (by omega)]; rfl
  · rcases ho with ho | ⟨ho, hq⟩
    · rw [if_pos hv, if_neg (by decide), if_neg (not_valid (r := 0) ho)]; rfl
    · have hq' : v 59 < v 63 := hq
      rw [if_pos hv, if_pos ho, if_neg (by decide), if_neg (by decide), if_neg (by omega)]; rfl
theorem lbest_a (h : AbsW ww rr v) (hm : small v) {b : Nat} (hb : RI v b) : F_L_best rr = nI b := by
  unfold F_L_best
  obtain ⟨h2, hv, ho⟩ := hb
  rw [show F_L_isValid rr 0 = if valid v 0 then 1 else 0 from lvalid_a h hm (r := 0) (by omega), show F_L_isValid rr 1 = if valid v 1 then 1 else 0 from lvalid_a h hm (r := 1) (by omega), show rd rr 1 = nI (v 59) from h.2 1 (by omega), show rd rr 5 = nI (v 63) from h.2 5 (by omega)]
  have k63 := hm 63 (by omega)
  have k59 := hm 59 (by omega)
  simp only [leI (show v 59 < 2 ^ 31 by omega) (show v 63 < 2 ^ 31 by omega)]
  have : b = 0 ∨ b = 1 := by omega
  rcases this with rfl | rfl
  · rcases ho with ho | ⟨ho, hq⟩
    · rw [if_pos hv, if_neg (by decide), if_neg (not_valid (r := 1) ho)]; rfl
    · have hq' : v 63 < v 59 := hq
      rw [if_pos hv, if_pos ho, if_neg (by decide), if_neg (by decide), if_neg (by omega)]; rfl
  · rcases ho with ho | ⟨ho, hq⟩
    · rw [if_neg (not_valid (r := 0) ho)]; rfl
    · have hq' : v 59 < v 63 := hq
      rw [if_pos ho, if_pos hv, if_neg (by decide), if_neg (by decide), if_pos (by omega)]; rfl
end ABS
