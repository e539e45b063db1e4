/-! A ROW OF WRITES: what it leaves in the class's flash and in the law's -/
def upn (v : Nat → Nat) (i x : Nat) : Nat → Nat := fun k => if k = i then x else v k
theorem upn_e {v : Nat → Nat} {i x k : Nat} (h : k = i) : upn v i x k = x := if_pos h
theorem upn_n {v : Nat → Nat} {i x k : Nat} (h : k ≠ i) : upn v i x k = v k := if_neg h
/-- how many were whole, the words, the count of writes, the writes to a failure -/
def wrun : List (Nat × Nat) → (Nat → Nat) → Int32 → Int32 → Nat × (Nat → Nat) × Int32 × Int32
  | [], v, g, w => (0, v, g, w)
  | (i, x) :: t, v, g, w => if w = 0 then (0, upn v i (v i &&& x), g + 1, -1) else ((wrun t (upn v i x) (g + 1) (if w ≤ 0 then w else w - 1)).1 + 1, (wrun t (upn v i x) (g + 1) (if w ≤ 0 then w else w - 1)).2)
/-- the class's -/
def cw : List (Nat × Nat) → FS → Nat × FS
  | [], σ => (0, σ)
  | (i, x) :: t, σ => if (F_X2_write σ (nI i) (nI x)).1 = 0 then (0, (F_X2_write σ (nI i) (nI x)).2) else ((cw t (F_X2_write σ (nI i) (nI x)).2).1 + 1, (cw t (F_X2_write σ (nI i) (nI x)).2).2)
theorem wrun_le : ∀ (L : List (Nat × Nat)) (v : Nat → Nat) (g w : Int32), (wrun L v g w).1 ≤ L.length
  | [], v, g, w => Nat.le_refl _
  | (i, x) :: t, v, g, w => by
    rw [wrun]
    split
    · exact Nat.zero_le _
    · exact Nat.succ_le_succ (wrun_le t _ _ _)
theorem wrun_app : ∀ (L M : List (Nat × Nat)) (v : Nat → Nat) (g w : Int32), wrun (L ++ M) v g w = if (wrun L v g w).1 = L.length then (L.length + (wrun M (wrun L v g w).2.1 (wrun L v g w).2.2.1 (wrun L v g w).2.2.2).1, (wrun M (wrun L v g w).2.1 (wrun L v g w).2.2.1 (wrun L v g w).2.2.2).2) else wrun L v g w
  | [], M, v, g, w => by
    rw [List.nil_append, wrun, if_pos (show (0, v, g, w).1 = ([] : List (Nat × Nat)).length from rfl)]
    show _ = (0 + (wrun M v g w).1, (wrun M v g w).2)
    rw [Nat.zero_add]
  | (i, x) :: t, M, v, g, w => by
    rw [List.cons_append, wrun, wrun]
    by_cases c : w = 0
    · rw [if_pos c, if_pos c, if_neg (show ¬ 0 = ((i, x) :: t).length from Nat.ne_of_lt (Nat.succ_pos _))]
    · rw [if_neg c, if_neg c, wrun_app t M]
      generalize wrun t (upn v i x) (g + 1) (if w ≤ 0 then w else w - 1) = r
      by_cases d : r.1 = t.length
      · rw [if_pos d, if_pos (show r.1 + 1 = ((i, x) :: t).length by rw [d]; rfl)]
        show (t.length + (wrun M r.2.1 r.2.2.1 r.2.2.2).1 + 1, _) = (t.length + 1 + (wrun M r.2.1 r.2.2.1 r.2.2.2).1, _)
        rw [Nat.add_right_comm]
      · rw [if_neg d, if_neg (show ¬ r.1 + 1 = ((i, x) :: t).length from fun h => d (Nat.succ.inj h))]
theorem cw_le : ∀ (L : List (Nat × Nat)) (σ : FS), (cw L σ).1 ≤ L.length
  | [], σ => Nat.le_refl _
  | (i, x) :: t, σ => by
    rw [cw]
    split
    · exact Nat.zero_le _
    · exact Nat.succ_le_succ (cw_le t _)
theorem cw_app : ∀ (L M : List (Nat × Nat)) (σ : FS), cw (L ++ M) σ = if (cw L σ).1 = L.length then (L.length + (cw M (cw L σ).2).1, (cw M (cw L σ).2).2) else cw L σ
  | [], M, σ => by
    rw [List.nil_append, cw, if_pos (show (0, σ).1 = ([] : List (Nat × Nat)).length from rfl)]
    show _ = (0 + (cw M σ).1, (cw M σ).2)
    rw [Nat.zero_add]
  | (i, x) :: t, M, σ => by
    rw [List.cons_append, cw, cw]
    by_cases c : (F_X2_write σ (nI i) (nI x)).1 = 0
    · rw [if_pos c, if_pos c, if_neg (show ¬ 0 = ((i, x) :: t).length from Nat.ne_of_lt (Nat.succ_pos _))]
    · rw [if_neg c, if_neg c, cw_app t M]
      generalize cw t (F_X2_write σ (nI i) (nI x)).2 = r
      by_cases d : r.1 = t.length
      · rw [if_pos d, if_pos (show r.1 + 1 = ((i, x) :: t).length by rw [d]; rfl)]
        show (t.length + (cw M r.2).1 + 1, _) = (t.length + 1 + (cw M r.2).1, _)
        rw [Nat.add_right_comm]
      · rw [if_neg d, if_neg (show ¬ r.1 + 1 = ((i, x) :: t).length from fun h => d (Nat.succ.inj h))]
theorem nx_and (a b : Nat) : nI a &&& nI b = nI (a &&& b) := by
  apply Int32.toBitVec_inj.1
  show BitVec.ofNat 32 a &&& BitVec.ofNat 32 b = BitVec.ofNat 32 (a &&& b)
  apply BitVec.eq_of_getLsbD_eq
  intro i hi
  simp [hi]
section RUN
variable {σ : FS} {v : Nat → Nat} {ww rr mm ll : Nat → Int32}
theorem wr_n (f : Nat → Int32) {i : Nat} (hi : i < 2 ^ 31) (x : Int32) (k : Nat) : wr f (nI i) x k = if k = i then x else f k := by
  unfold wr upd
  rw [nI_clamp hi]
theorem abs_wr (h : AbsS σ v) {i : Nat} (hi : i < 66) (x : Nat) (a b : Int32) : AbsS (wr σ.1 (nI i) (nI x), a, b) (upn v i x) := by
  intro k hk
  show wr σ.1 (nI i) (nI x) k = nI (upn v i x k)
  rw [wr_n _ (by omega)]
  unfold upn
  by_cases c : k = i
  · rw [if_pos c, if_pos c]
  · rw [if_neg c, if_neg c]; exact h k hk
theorem preset_a (σ : FS) {i : Nat} (hi : i < 66) (x : Int32) : F_X2_preset σ (nI i) x = (wr σ.1 (nI i) x, σ.2.1, σ.2.2) := by
  unfold F_X2_preset
  rw [if_neg (nI_pos (by omega)), if_neg (show ¬ (66 : Int32) ≤ nI i from fun z => absurd ((nI_leI (a := 66) (by omega) (by omega)).mp z) (by omega))]
theorem write_a (h : AbsS σ v) {i : Nat} (hi : i < 66) (x : Nat) : F_X2_write σ (nI i) (nI x) = if σ.2.2 = 0 then (0, wr σ.1 (nI i) (nI (v i &&& x)), σ.2.1 + 1, -1) else (1, wr σ.1 (nI i) (nI x), σ.2.1 + 1, if σ.2.2 ≤ 0 then σ.2.2 else σ.2.2 - 1) := by
  unfold F_X2_write
  by_cases c : σ.2.2 = 0
  · rw [if_pos c, if_pos c]
    have e : F_X2_read (σ.1, σ.2.1 + 1, -1) (nI i) = nI (v i) := read_a (σ := (σ.1, σ.2.1 + 1, -1)) h hi
    simp only [e, nx_and, preset_a _ hi]
  · rw [if_neg c, if_neg c]
    by_cases d : σ.2.2 ≤ 0
    · rw [if_pos d, if_pos d]
      simp only [preset_a _ hi]
    · rw [if_neg d, if_neg d]
      simp only [preset_a _ hi]
theorem cw_a : ∀ (L : List (Nat × Nat)) (σ : FS) (v : Nat → Nat), AbsS σ v → (∀ q ∈ L, q.1 < 66) → (cw L σ).1 = (wrun L v σ.2.1 σ.2.2).1 ∧ AbsS (cw L σ).2 (wrun L v σ.2.1 σ.2.2).2.1 ∧ (cw L σ).2.2.1 = (wrun L v σ.2.1 σ.2.2).2.2.1 ∧ (cw L σ).2.2.2 = (wrun L v σ.2.1 σ.2.2).2.2.2
  | [], σ, v, h, _ => ⟨rfl, h, rfl, rfl⟩
  | (i, x) :: t, σ, v, h, hL => by
    have hi : i < 66 := hL (i, x) List.mem_cons_self
    rw [cw, wrun, write_a h hi x]
    by_cases c : σ.2.2 = 0
    · simp only [if_pos c, ↓reduceIte]
      exact ⟨trivial, abs_wr h hi _ _ _, trivial, trivial⟩
    · simp only [if_neg c]
      rw [if_neg (show ¬ (1 : Int32) = 0 by decide)]
      have e := cw_a t (wr σ.1 (nI i) (nI x), σ.2.1 + 1, if σ.2.2 ≤ 0 then σ.2.2 else σ.2.2 - 1) (upn v i x) (abs_wr h hi _ _ _) (fun q hq => hL q (List.mem_cons_of_mem _ hq))
      exact ⟨congrArg (· + 1) e.1, e.2.1, e.2.2.1, e.2.2.2⟩
/-- the place that the law has for a word -/
def phi (i : Nat) : Nat := if i < 58 then 32 * (i / 29) + i % 29 else i + 6
theorem phi_lt {i : Nat} (h : i < 66) : phi i < 72 := by
  unfold phi
  split <;> omega
/-- the list of rows that the array tells -/
def PL (ll : Nat → Int32) (L : List (Nat × Nat)) : Prop := rd ll 0 = nI L.length ∧ ∀ (k i x : Nat), L[k]? = some (i, x) → rd ll (2 * nI (k + 1)) = nI (phi i) ∧ rd ll (2 * nI (k + 1) + 1) = nI x
theorem PL_nil (h : rd ll 0 = nI 0) : PL ll [] := ⟨h, fun k i x e => by simp at e⟩
theorem PL_plan {L : List (Nat × Nat)} {l2 : Nat → Int32} {a : Int32} (h : PL ll L) (hn : L.length ≤ 14) (i x : Nat) (ha : a = nI (phi i)) (h2 : l2 = F_L_plan ll a (nI x)) : PL l2 (L ++ [(i, x)]) := by
  refine ⟨?_, fun k j y e => ?_⟩
  · rw [plan_0 hn h.1 h2, List.length_append]; rfl
  · have hk : k < (L ++ [(i, x)]).length := (List.getElem?_eq_some_iff.mp e).1
    rw [List.length_append, List.length_singleton] at hk
    rw [n2, pk_mul, nI_1, plan_at hn h.1 h2 (by omega), plan_at hn h.1 h2 (by omega)]
    by_cases c : k = L.length
    · subst c
      rw [List.getElem?_append_right (Nat.le_refl _), Nat.sub_self] at e
      have e2 : (i, x) = (j, y) := Option.some.inj e
      have e3 : i = j := congrArg Prod.fst e2
      have e4 : x = y := congrArg Prod.snd e2
      rw [if_neg (by omega), if_pos rfl, if_pos rfl, ha, e3, e4]
      exact ⟨rfl, rfl⟩
    · rw [List.getElem?_append_left (by omega)] at e
      have e2 := h.2 k j y e
      rw [n2, pk_mul, nI_1] at e2
      rw [if_neg (by omega), if_neg (by omega), if_neg (by omega), if_neg (by omega), if_neg (by omega), if_neg (by omega)]
      exact e2
theorem rd2 (f : Nat → Int32) : rd f 2 = f 2 := rfl
theorem rd1 (f : Nat → Int32) : rd f 1 = f 1 := rfl
theorem rd0 (f : Nat → Int32) : rd f 0 = f 0 := rfl
theorem rd3 (f : Nat → Int32) : rd f 3 = f 3 := rfl
theorem cyM_k {k : Nat} (h1 : k ≠ 1) (h2 : k ≠ 2) : cyM mm k = mm k := by
  unfold cyM
  rw [n1', n2, wr_n _ (by omega), if_neg h1, wr_n _ (by omega), if_neg h2]
theorem cyM_2 : cyM mm 2 = mm 2 + 1 := by
  unfold cyM
  rw [n1', n2, wr_n _ (by omega), if_neg (by omega), wr_n _ (by omega), if_pos rfl]
  rfl
theorem cyM_1 : cyM mm 1 = mm 1 - (if mm 1 < 0 then 0 else 1) := by
  unfold cyM F_L_carry_j64
  have e : rd (wr mm 2 (rd mm 2 + 1)) 1 = mm 1 := by
    rw [rd1, n2, wr_n _ (by omega), if_neg (by omega)]
  rw [e]
  exact (wr_n (wr mm 2 (rd mm 2 + 1)) (i := 1) (by omega) _ 1).trans (if_pos rfl)
theorem j40_0 (h : ¬ mm 1 = 0) : F_L_carry_j40 mm = 0 := by unfold F_L_carry_j40; exact if_neg h
theorem j40_1 (h : mm 1 = 0) : ¬ F_L_carry_j40 mm = 0 := by unfold F_L_carry_j40; rw [if_pos (show rd mm 1 = 0 from h)]; decide
theorem cyM_w (h : ¬ mm 1 = 0) : cyM mm 1 = if mm 1 ≤ 0 then mm 1 else mm 1 - 1 := by
  rw [cyM_1]
  by_cases c : mm 1 < 0
  · rw [if_pos c, if_pos (Int32.le_of_lt c), Int32.sub_zero]
  · rw [if_neg c, if_neg (fun d => h (Int32.le_antisymm d (Int32.not_lt.mp c)))]
theorem absW_w (h : AbsW ww rr v) {i : Nat} (hi : i < 58) (x : Nat) : AbsW (wr ww (nI (phi i)) (nI x)) rr (upn v i x) := by
  have e : phi i = 32 * (i / 29) + i % 29 := if_pos hi
  refine ⟨fun s j hs hj => ?_, fun k hk => ?_⟩
  · rw [wr_n _ (by rw [e]; omega), e]
    unfold upn
    by_cases c : 29 * s + j = i
    · rw [if_pos c, if_pos (by omega)]
    · rw [if_neg c, if_neg (by omega)]; exact h.1 s j hs hj
  · rw [upn_n (by omega)]; exact h.2 k hk
theorem absW_r (h : AbsW ww rr v) {i : Nat} (hi : 58 ≤ i) (hi2 : i < 66) (x : Nat) : AbsW ww (wr rr (nI (i - 58)) (nI x)) (upn v i x) := by
  refine ⟨fun s j hs hj => ?_, fun k hk => ?_⟩
  · rw [upn_n (by omega)]; exact h.1 s j hs hj
  · rw [wr_n _ (by omega)]
    unfold upn
    by_cases c : 58 + k = i
    · rw [if_pos c, if_pos (by omega)]
    · rw [if_neg c, if_neg (by omega)]; exact h.2 k hk
theorem absW_get (h : AbsW ww rr v) {i : Nat} (hi : i < 58) : rd ww (nI (phi i)) = nI (v i) := by
  have e : phi i = 32 * (i / 29) + i % 29 := if_pos hi
  rw [rdn _ (by rw [e]; omega), e, h.1 (i / 29) (i % 29) (by omega) (by omega)]
  congr 1
  congr 1
  omega
theorem absW_getr (h : AbsW ww rr v) {i : Nat} (hi : 58 ≤ i) (hi2 : i < 66) : rd rr (nI (i - 58)) = nI (v i) := by
  rw [rdn _ (by omega), h.2 (i - 58) (by omega), (show 58 + (i - 58) = i by omega)]
/-- what the law's array of numbers holds behind the writes -/
def mAft (mm m2 : Nat → Int32) (n len : Nat) : Prop := (n = len → ∀ i, i ≠ 1 → i ≠ 2 → m2 i = mm i) ∧ (n < len → m2 0 = -1 ∧ m2 3 = -1 ∧ ∀ i, 4 ≤ i → m2 i = mm i)
theorem cy_a (ll : Nat → Int32) : ∀ (M : List (Nat × Nat)) (k : Nat) (ww rr mm : Nat → Int32) (v : Nat → Nat), 1 ≤ k → k + M.length < 100 → (∀ (q i x : Nat), M[q]? = some (i, x) → rd ll (2 * nI (k + q)) = nI (phi i) ∧ rd ll (2 * nI (k + q) + 1) = nI x) → (∀ q ∈ M, q.1 < 66) → AbsW ww rr v →
    AbsW (cyN ll M.length k ww rr mm).2.1 (cyN ll M.length k ww rr mm).2.2.1 (wrun M v (mm 2) (mm 1)).2.1 ∧ (cyN ll M.length k ww rr mm).2.2.2 2 = (wrun M v (mm 2) (mm 1)).2.2.1 ∧ (cyN ll M.length k ww rr mm).2.2.2 1 = (wrun M v (mm 2) (mm 1)).2.2.2 ∧ mAft mm (cyN ll M.length k ww rr mm).2.2.2 (wrun M v (mm 2) (mm 1)).1 M.length ∧ (cyN ll M.length k ww rr mm).1 = if (wrun M v (mm 2) (mm 1)).1 = M.length then rd ll 0 else nI (k - 1 + (wrun M v (mm 2) (mm 1)).1)
  | [], k, ww, rr, mm, v, _, _, _, _, h => ⟨h, rfl, rfl, ⟨fun _ _ _ _ => rfl, fun z => absurd z (Nat.lt_irrefl _)⟩, (if_pos rfl).symm⟩
  | (i, x) :: t, k, ww, rr, mm, v, hk, hl, hr, hi, h => by
    have h66 : i < 66 := hi (i, x) List.mem_cons_self
    obtain ⟨e1, e2⟩ := hr 0 i x rfl
    rw [Nat.add_zero] at e1 e2
    have hlen : ((i, x) :: t).length = t.length + 1 := rfl
    rw [hlen] at hl ⊢
    have hp := phi_lt h66
    rw [cyN, wrun, e1]
    have hr' : ∀ (q j y : Nat), t[q]? = some (j, y) → rd ll (2 * nI (k + 1 + q)) = nI (phi j) ∧ rd ll (2 * nI (k + 1 + q) + 1) = nI y := fun q j y e => by
      have := hr (q + 1) j y (by rw [List.getElem?_cons_succ]; exact e)
      rw [(show k + (q + 1) = k + 1 + q by omega)] at this
      exact this
    have hi' : ∀ q ∈ t, q.1 < 66 := fun q hq => hi q (List.mem_cons_of_mem _ hq)
    -- the word that is written, whole or torn
    by_cases c : mm 1 = 0
    · have ev : ∀ o : Nat, v i = o → (rd mm 1 = 0) → True := fun _ _ _ => trivial
      rw [if_pos c]
      simp only [if_neg (j40_1 c)]
      have em : ∀ q, 4 ≤ q → (wr (wr (cyM mm) 0 (-1)) 3 (-1)) q = mm q := fun q hq => by
        rw [n3, n0', wr_n _ (by omega), if_neg (by omega), wr_n _ (by omega), if_neg (by omega), cyM_k (by omega) (by omega)]
      have em0 : (wr (wr (cyM mm) 0 (-1)) 3 (-1)) 0 = -1 := by rw [n3, n0', wr_n _ (by omega), if_neg (by omega), wr_n _ (by omega), if_pos rfl]
      have em3 : (wr (wr (cyM mm) 0 (-1)) 3 (-1)) 3 = -1 := by rw [n3, wr_n _ (by omega), if_pos rfl]
      have em1 : (wr (wr (cyM mm) 0 (-1)) 3 (-1)) 1 = -1 := by rw [n3, n0', wr_n _ (by omega), if_neg (by omega), wr_n _ (by omega), if_neg (by omega), cyM_1, c]; decide
      have em2 : (wr (wr (cyM mm) 0 (-1)) 3 (-1)) 2 = mm 2 + 1 := by rw [n3, n0', wr_n _ (by omega), if_neg (by omega), wr_n _ (by omega), if_neg (by omega), cyM_2]
      have hk1 : nI k - 1 = nI (k - 1 + 0) := by rw [n1', pk_sub (by omega)]; rfl
      have hz : ¬ (0 : Nat) = t.length + 1 := by omega
      by_cases d : i < 58
      · have hnle : ¬ (64 : Int32) ≤ nI (phi i) := fun z => by have := (nI_leI (a := 64) (by omega) (by omega)).mp z; have e : phi i = 32 * (i / 29) + i % 29 := if_pos d; omega
        have ej : F_L_carry_j93 mm ll (nI k) ww = nI (v i &&& x) := by
          unfold F_L_carry_j93
          rw [if_neg (j40_1 c), e1, absW_get h d, e2, nx_and]
        simp only [if_neg hnle, ej]
        exact ⟨absW_w h d _, em2, em1, ⟨fun z => absurd z hz, fun _ => ⟨em0, em3, em⟩⟩, by rw [if_neg hz]; exact hk1⟩
      · have hle : (64 : Int32) ≤ nI (phi i) := nI_le (a := 64) (by unfold phi; rw [if_neg d]; omega) (by omega)
        have es : nI (phi i) - 64 = nI (i - 58) := by
          rw [show (64 : Int32) = nI 64 from rfl, pk_sub (by unfold phi; rw [if_neg d]; omega)]
          unfold phi; rw [if_neg d]; rfl
        have ej : F_L_carry_j123 mm ll (nI k) rr = nI (v i &&& x) := by
          unfold F_L_carry_j123
          rw [if_neg (j40_1 c), e1, es, absW_getr h (by omega) h66, e2, nx_and]
        simp only [if_pos hle, ej, es]
        exact ⟨absW_r h (by omega) h66 _, em2, em1, ⟨fun z => absurd z hz, fun _ => ⟨em0, em3, em⟩⟩, by rw [if_neg hz]; exact hk1⟩
    · rw [if_neg c]
      simp only [if_pos (j40_0 c)]
      have mft : ∀ (m2 : Nat → Int32) (n : Nat), mAft (cyM mm) m2 n t.length → mAft mm m2 (n + 1) (t.length + 1) := fun m2 n z => ⟨fun e q h1 h2 => (z.1 (by omega) q h1 h2).trans (cyM_k h1 h2), fun e => ⟨(z.2 (by omega)).1, (z.2 (by omega)).2.1, fun q hq => ((z.2 (by omega)).2.2 q hq).trans (cyM_k (by omega) (by omega))⟩⟩
      have cnt : ∀ (a : Int32) (n : Nat), (a = if n = t.length then rd ll 0 else nI (k + 1 - 1 + n)) → a = if n + 1 = t.length + 1 then rd ll 0 else nI (k - 1 + (n + 1)) := fun a n z => by
        rw [z]
        by_cases q : n = t.length
        · rw [if_pos q, if_pos (by omega)]
        · rw [if_neg q, if_neg (by omega), (show k + 1 - 1 + n = k - 1 + (n + 1) by omega)]
      by_cases d : i < 58
      · have hnle : ¬ (64 : Int32) ≤ nI (phi i) := fun z => by have := (nI_leI (a := 64) (by omega) (by omega)).mp z; have e : phi i = 32 * (i / 29) + i % 29 := if_pos d; omega
        have ej : F_L_carry_j93 mm ll (nI k) ww = nI x := by
          unfold F_L_carry_j93
          rw [if_pos (j40_0 c), e2]
        simp only [if_neg hnle, ej]
        have IH := cy_a ll t (k + 1) (wr ww (nI (phi i)) (nI x)) rr (cyM mm) (upn v i x) (by omega) (by omega) hr' hi' (absW_w h d x)
        rw [cyM_2, cyM_w c] at IH
        exact ⟨IH.1, IH.2.1, IH.2.2.1, mft _ _ IH.2.2.2.1, cnt _ _ IH.2.2.2.2⟩
      · have hle : (64 : Int32) ≤ nI (phi i) := nI_le (a := 64) (by unfold phi; rw [if_neg d]; omega) (by omega)
        have es : nI (phi i) - 64 = nI (i - 58) := by
          rw [show (64 : Int32) = nI 64 from rfl, pk_sub (by unfold phi; rw [if_neg d]; omega)]
          unfold phi; rw [if_neg d]; rfl
        have ej : F_L_carry_j123 mm ll (nI k) rr = nI x := by
          unfold F_L_carry_j123
          rw [if_pos (j40_0 c), e2]
        simp only [if_pos hle, ej, es]
        have IH := cy_a ll t (k + 1) ww (wr rr (nI (i - 58)) (nI x)) (cyM mm) (upn v i x) (by omega) (by omega) hr' hi' (absW_r h (by omega) h66 x)
        rw [cyM_2, cyM_w c] at IH
        exact ⟨IH.1, IH.2.1, IH.2.2.1, mft _ _ IH.2.2.2.1, cnt _ _ IH.2.2.2.2⟩
/-- the law's writes -/
theorem carry_a {L : List (Nat × Nat)} (hL : PL ll L) (hn : L.length ≤ 15) (hi : ∀ q ∈ L, q.1 < 66) (h : AbsW ww rr v) : ∃ w2 r2 m2, F_L_carry ll ww rr mm = (nI (wrun L v (mm 2) (mm 1)).1, w2, r2, m2) ∧ AbsW w2 r2 (wrun L v (mm 2) (mm 1)).2.1 ∧ m2 2 = (wrun L v (mm 2) (mm 1)).2.2.1 ∧ m2 1 = (wrun L v (mm 2) (mm 1)).2.2.2 ∧ mAft mm m2 (wrun L v (mm 2) (mm 1)).1 L.length := by
  have e := cy_a ll L 1 ww rr mm v (by omega) (by omega) (fun q i x z => by rw [Nat.add_comm 1 q]; exact hL.2 q i x z) hi h
  unfold F_L_carry
  rw [hL.1, nI_clamp (by omega)]
  refine ⟨_, _, _, Prod.ext ?_ rfl, e.1, e.2.1, e.2.2.1, e.2.2.2.1⟩
  show (cyN ll L.length 1 ww rr mm).1 = _
  rw [e.2.2.2.2]
  by_cases c : (wrun L v (mm 2) (mm 1)).1 = L.length
  · rw [if_pos c, hL.1, c]
  · rw [if_neg c, Nat.sub_self, Nat.zero_add]
end RUN
