/-! WHAT A ROW OF WRITES, WHOLE OR TORN, LEAVES TRUE -/
def appl : List (Nat × Nat) → (Nat → Nat) → Nat → Nat
  | [], v => v
  | (i, x) :: t, v => appl t (upn v i x)
theorem wrun_full : ∀ (L : List (Nat × Nat)) (v : Nat → Nat) (g w : Int32), (wrun L v g w).1 = L.length → (wrun L v g w).2.1 = appl L v
  | [], v, g, w, _ => rfl
  | (i, x) :: t, v, g, w, h => by
    rw [wrun] at h ⊢
    by_cases c : w = 0
    · rw [if_pos c] at h; exact absurd h (Nat.ne_of_lt (Nat.succ_pos _))
    · rw [if_neg c] at h ⊢
      exact wrun_full t _ _ _ (Nat.succ.inj h)
theorem wrun_frame : ∀ (L : List (Nat × Nat)) (v : Nat → Nat) (g w : Int32) (k : Nat), (∀ q ∈ L, q.1 ≠ k) → (wrun L v g w).2.1 k = v k
  | [], v, g, w, k, _ => rfl
  | (i, x) :: t, v, g, w, k, h => by
    have hi : k ≠ i := fun z => h (i, x) List.mem_cons_self z.symm
    rw [wrun]
    by_cases c : w = 0
    · rw [if_pos c]; exact upn_n hi
    · rw [if_neg c]; exact (wrun_frame t _ _ _ k (fun q hq => h q (List.mem_cons_of_mem _ hq))).trans (upn_n hi)
theorem wrun_bnd (B : Nat → Nat) : ∀ (L : List (Nat × Nat)) (v : Nat → Nat) (g w : Int32), (∀ k, k < 66 → v k ≤ B k) → (∀ q ∈ L, q.2 ≤ B q.1) → ∀ k, k < 66 → (wrun L v g w).2.1 k ≤ B k
  | [], v, g, w, h, _ => h
  | (i, x) :: t, v, g, w, h, hL => by
    have hx : x ≤ B i := hL (i, x) List.mem_cons_self
    intro k hk
    rw [wrun]
    by_cases c : w = 0
    · rw [if_pos c]
      show upn v i (v i &&& x) k ≤ B k
      by_cases d : k = i
      · rw [upn_e d, d]; exact Nat.le_trans Nat.and_le_right hx
      · rw [upn_n d]; exact h k hk
    · rw [if_neg c]
      refine wrun_bnd B t _ _ _ (fun q hq => ?_) (fun q hq => hL q (List.mem_cons_of_mem _ hq)) k hk
      by_cases d : q = i
      · rw [upn_e d, d]; exact hx
      · rw [upn_n d]; exact h q hq
/-- the writes of a record; those of a slot's words -/
def Lr (o sq st ct : Nat) : List (Nat × Nat) := [(58 + 4 * o, 0), (58 + 4 * o + 1, sq), (58 + 4 * o + 2, st), (58 + 4 * o + 3, ct), (58 + 4 * o, chk sq st ct)]
def Ls (s a b c d : Nat) : List (Nat × Nat) := [(29 * s + 1, a), (29 * s + 2, b), (29 * s + 3, c), (29 * s + 4, d), (29 * s, 1)]
/-- a torn record has the check 0 -/
theorem Lr_fail {o sq st ct : Nat} {v : Nat → Nat} {g w : Int32} (h : (wrun (Lr o sq st ct) v g w).1 < 5) : (wrun (Lr o sq st ct) v g w).2.1 (58 + 4 * o) = 0 := by
  have tl : ∀ (v : Nat → Nat) (g w : Int32), v (58 + 4 * o) = 0 → (wrun ([(58 + 4 * o + 1, sq), (58 + 4 * o + 2, st), (58 + 4 * o + 3, ct)] ++ [(58 + 4 * o, chk sq st ct)]) v g w).1 < 4 → (wrun ([(58 + 4 * o + 1, sq), (58 + 4 * o + 2, st), (58 + 4 * o + 3, ct)] ++ [(58 + 4 * o, chk sq st ct)]) v g w).2.1 (58 + 4 * o) = 0 := by
    intro v g w h0 hl
    have fr : (wrun [(58 + 4 * o + 1, sq), (58 + 4 * o + 2, st), (58 + 4 * o + 3, ct)] v g w).2.1 (58 + 4 * o) = 0 := by
      rw [wrun_frame _ _ _ _ _ (fun q hq => by
        simp only [List.mem_cons, List.not_mem_nil, or_false] at hq
        rcases hq with rfl | rfl | rfl <;> (dsimp only; omega)), h0]
    rw [wrun_app] at hl ⊢
    by_cases c : (wrun [(58 + 4 * o + 1, sq), (58 + 4 * o + 2, st), (58 + 4 * o + 3, ct)] v g w).1 = [(58 + 4 * o + 1, sq), (58 + 4 * o + 2, st), (58 + 4 * o + 3, ct)].length
    · rw [if_pos c] at hl ⊢
      generalize wrun [(58 + 4 * o + 1, sq), (58 + 4 * o + 2, st), (58 + 4 * o + 3, ct)] v g w = r at fr hl ⊢
      rw [wrun] at hl ⊢
      by_cases d : r.2.2.2 = 0
      · rw [if_pos d]
        show upn r.2.1 (58 + 4 * o) (r.2.1 (58 + 4 * o) &&& chk sq st ct) (58 + 4 * o) = 0
        rw [upn_e rfl, fr, Nat.zero_and]
      · rw [if_neg d] at hl
        exact absurd hl (by simp [wrun])
    · rw [if_neg c]; exact fr
  have e : Lr o sq st ct = (58 + 4 * o, 0) :: ([(58 + 4 * o + 1, sq), (58 + 4 * o + 2, st), (58 + 4 * o + 3, ct)] ++ [(58 + 4 * o, chk sq st ct)]) := rfl
  rw [e, wrun] at h ⊢
  by_cases c : w = 0
  · rw [if_pos c]
    show upn v (58 + 4 * o) (v (58 + 4 * o) &&& 0) (58 + 4 * o) = 0
    rw [upn_e rfl, Nat.and_zero]
  · rw [if_neg c] at h ⊢
    exact tl _ _ _ (upn_e rfl) (by have := h; dsimp only at this; omega)
theorem Lr_done {o sq st ct : Nat} {v : Nat → Nat} {g w : Int32} (h : (wrun (Lr o sq st ct) v g w).1 = 5) : (wrun (Lr o sq st ct) v g w).2.1 (58 + 4 * o) = chk sq st ct ∧ (wrun (Lr o sq st ct) v g w).2.1 (58 + 4 * o + 1) = sq ∧ (wrun (Lr o sq st ct) v g w).2.1 (58 + 4 * o + 2) = st ∧ (wrun (Lr o sq st ct) v g w).2.1 (58 + 4 * o + 3) = ct := by
  rw [wrun_full _ _ _ _ h]
  refine ⟨upn_e rfl, ?_, ?_, ?_⟩
  · show upn _ _ _ _ = _
    rw [upn_n (by omega)]
    show upn _ _ _ _ = _
    rw [upn_n (by omega)]
    show upn _ _ _ _ = _
    rw [upn_n (by omega)]
    exact upn_e rfl
  · show upn _ _ _ _ = _
    rw [upn_n (by omega)]
    show upn _ _ _ _ = _
    rw [upn_n (by omega)]
    exact upn_e rfl
  · show upn _ _ _ _ = _
    rw [upn_n (by omega)]
    exact upn_e rfl
theorem Lr_in {o sq st ct : Nat} (ho : o < 2) : ∀ q ∈ Lr o sq st ct, 58 + 4 * o ≤ q.1 ∧ q.1 < 58 + 4 * o + 4 := by
  intro q hq
  simp only [Lr, List.mem_cons, List.not_mem_nil, or_false] at hq
  rcases hq with rfl | rfl | rfl | rfl | rfl <;> (dsimp only; omega)
theorem Ls_in {s a b c d : Nat} : ∀ q ∈ Ls s a b c d, 29 * s ≤ q.1 ∧ q.1 < 29 * s + 5 := by
  intro q hq
  simp only [Ls, List.mem_cons, List.not_mem_nil, or_false] at hq
  rcases hq with rfl | rfl | rfl | rfl | rfl <;> (dsimp only; omega)
/-- how great a word can be behind e acts -/
def bnd (e i : Nat) : Nat := if i < 58 then (if i % 29 = 0 then 1 else if i % 29 = 1 then 1 + 2 * e else if i % 29 = 2 then 24 else if i % 29 = 3 then 65520 else if i % 29 = 4 then 2 * e else 255) else (if (i - 58) % 4 = 0 then 250 else if (i - 58) % 4 = 1 then 1 + e else if (i - 58) % 4 = 2 then 15 else 2 * e)
theorem bnd_mono {e f i : Nat} (h : e ≤ f) : bnd e i ≤ bnd f i := by
  unfold bnd
  repeat' split
  all_goals omega
theorem bnd_lt {e i : Nat} (h : e ≤ 1000) : bnd e i < 65536 := by
  unfold bnd
  repeat' split
  all_goals omega
def bdd (e : Nat) (v : Nat → Nat) : Prop := ∀ i, i < 66 → v i ≤ bnd e i
theorem bdd.small {e : Nat} {v : Nat → Nat} (h : bdd e v) (he : e ≤ 1000) : small v := fun i hi => Nat.lt_of_le_of_lt (h i hi) (bnd_lt he)
theorem bdd.mono {e f : Nat} {v : Nat → Nat} (h : bdd e v) (hf : e ≤ f) : bdd f v := fun i hi => Nat.le_trans (h i hi) (bnd_mono hf)
def sttR (v : Nat → Nat) (b : Nat) : Nat := v (58 + 4 * b + 2)
def ctrR (v : Nat → Nat) (b : Nat) : Nat := v (58 + 4 * b + 3)
def seqR (v : Nat → Nat) (b : Nat) : Nat := v (58 + 4 * b + 1)
def cnf (v : Nat → Nat) (b : Nat) : Nat := sttR v b % 2
/-- what holds of the flash between two acts, b being the record in force -/
def NI (e : Nat) (v : Nat → Nat) (b : Nat) : Prop := RI v b ∧ good v (cnf v b) ∧ bdd e v
section SAFE
variable {v v' : Nat → Nat} {e b : Nat}
theorem good_c {s : Nat} (h : ∀ i, 29 * s ≤ i → i < 29 * s + 29 → v' i = v i) (hg : good v s) : good v' s := by
  obtain ⟨g0, g1, g2, g3⟩ := hg
  have e0 := h (29 * s) (by omega) (by omega)
  have e2 := h (29 * s + 2) (by omega) (by omega)
  have e3 := h (29 * s + 3) (by omega) (by omega)
  refine ⟨e0.trans g0, by rw [e2]; exact g1, by rw [e2]; exact g2, ?_⟩
  rw [e3, e2, g3]
  exact hsh_c _ (fun k hk => (h (29 * s + 5 + k) (by omega) (by omega)).symm)
theorem NI.b2 (h : NI e v b) : b < 2 := h.1.1
theorem NI.st (h : NI e v b) : sttR v b ≤ 15 := by
  have hb := h.b2
  have h2 := h.2.2 (58 + 4 * b + 2) (by omega)
  unfold bnd at h2
  rw [if_neg (by omega), if_neg (by omega), if_neg (by omega), if_pos (by omega)] at h2
  exact h2
theorem NI.ct (h : NI e v b) : ctrR v b ≤ 2 * e := by
  have hb := h.b2
  have h2 := h.2.2 (58 + 4 * b + 3) (by omega)
  unfold bnd at h2
  rw [if_neg (by omega), if_neg (by omega), if_neg (by omega), if_neg (by omega)] at h2
  exact h2
theorem NI.sq (h : NI e v b) : seqR v b ≤ 1 + e := by
  have hb := h.b2
  have h2 := h.2.2 (58 + 4 * b + 1) (by omega)
  unfold bnd at h2
  rw [if_neg (by omega), if_neg (by omega), if_pos (by omega)] at h2
  exact h2
/-- the same records, the confirmed slot's words the same -/
theorem NI.keep {f : Nat} (h : NI e v b) (hr : ∀ i, 58 ≤ i → i < 66 → v' i = v i) (hs : ∀ i, 29 * cnf v b ≤ i → i < 29 * cnf v b + 29 → v' i = v i) (hb : bdd f v') : NI f v' b := by
  have hb2 := h.b2
  have e0 : ∀ r k, r < 2 → k < 4 → v' (58 + 4 * r + k) = v (58 + 4 * r + k) := fun r k h1 h2 => hr _ (by omega) (by omega)
  have ev : ∀ r, r < 2 → (valid v' r ↔ valid v r) := fun r h1 => by
    have a0 := e0 r 0 h1 (by omega)
    have a1 := e0 r 1 h1 (by omega)
    have a2 := e0 r 2 h1 (by omega)
    have a3 := e0 r 3 h1 (by omega)
    rw [Nat.add_zero] at a0
    unfold valid
    rw [a0, a1, a2, a3]
  have ec : cnf v' b = cnf v b := by unfold cnf sttR; rw [e0 b 2 hb2 (by omega)]
  refine ⟨⟨hb2, (ev b hb2).mpr h.1.2.1, ?_⟩, by rw [ec]; exact good_c hs h.2.1, hb⟩
  rcases h.1.2.2 with z | ⟨z, y⟩
  · exact Or.inl (by rw [show v' (58 + 4 * (1 - b)) = v (58 + 4 * (1 - b)) from e0 (1 - b) 0 (by omega) (by omega)]; exact z)
  · exact Or.inr ⟨(ev (1 - b) (by omega)).mpr z, by rw [e0 (1 - b) 1 (by omega) (by omega), e0 b 1 hb2 (by omega)]; exact y⟩
/-- a list of writes into the slot that is not confirmed -/
theorem NI.slot {L : List (Nat × Nat)} {g w : Int32} (h : NI e v b) (hL : ∀ q ∈ L, 29 * (1 - cnf v b) ≤ q.1 ∧ q.1 < 29 * (1 - cnf v b) + 29) (hB : ∀ q ∈ L, q.2 ≤ bnd (e + 1) q.1) : NI (e + 1) (wrun L v g w).2.1 b ∧ (∀ i, 58 ≤ i → (wrun L v g w).2.1 i = v i) ∧ ∀ i, 29 * cnf v b ≤ i → i < 29 * cnf v b + 29 → (wrun L v g w).2.1 i = v i := by
  have hc : cnf v b < 2 := Nat.mod_lt _ (by decide)
  have h1 : ∀ i, 58 ≤ i → (wrun L v g w).2.1 i = v i := fun i hi => wrun_frame L v g w i (fun q hq => by have := hL q hq; omega)
  have h2 : ∀ i, 29 * cnf v b ≤ i → i < 29 * cnf v b + 29 → (wrun L v g w).2.1 i = v i := fun i hi hi2 => wrun_frame L v g w i (fun q hq => by have := hL q hq; omega)
  exact ⟨h.keep (fun i hi _ => h1 i hi) h2 (wrun_bnd (bnd (e + 1)) L v g w (h.2.2.mono (by omega)) hB), h1, h2⟩
/-- a record that is written -/
theorem NI.record {st ct : Nat} {g w : Int32} (h : NI e v b) (hst : st ≤ 15) (hct : ct ≤ 2 * (e + 1)) (hg : good v (st % 2)) : (∀ i, i < 58 → (wrun (Lr (1 - b) (seqR v b + 1) st ct) v g w).2.1 i = v i) ∧
    ((wrun (Lr (1 - b) (seqR v b + 1) st ct) v g w).1 = 5 → NI (e + 1) (wrun (Lr (1 - b) (seqR v b + 1) st ct) v g w).2.1 (1 - b) ∧ sttR (wrun (Lr (1 - b) (seqR v b + 1) st ct) v g w).2.1 (1 - b) = st ∧ ctrR (wrun (Lr (1 - b) (seqR v b + 1) st ct) v g w).2.1 (1 - b) = ct) ∧
    ((wrun (Lr (1 - b) (seqR v b + 1) st ct) v g w).1 < 5 → NI (e + 1) (wrun (Lr (1 - b) (seqR v b + 1) st ct) v g w).2.1 b ∧ sttR (wrun (Lr (1 - b) (seqR v b + 1) st ct) v g w).2.1 b = sttR v b ∧ ctrR (wrun (Lr (1 - b) (seqR v b + 1) st ct) v g w).2.1 b = ctrR v b) := by
  have hb2 := h.b2
  have hsq := h.sq
  have hin := Lr_in (o := 1 - b) (sq := seqR v b + 1) (st := st) (ct := ct) (by omega)
  have fr : ∀ i, (i < 58 + 4 * (1 - b) ∨ 58 + 4 * (1 - b) + 4 ≤ i) → (wrun (Lr (1 - b) (seqR v b + 1) st ct) v g w).2.1 i = v i := fun i hi => wrun_frame _ v g w i (fun q hq => by have := hin q hq; omega)
  have hbd : bdd (e + 1) (wrun (Lr (1 - b) (seqR v b + 1) st ct) v g w).2.1 := wrun_bnd (bnd (e + 1)) _ v g w (h.2.2.mono (by omega)) (fun q hq => by
    simp only [Lr, List.mem_cons, List.not_mem_nil, or_false] at hq
    have hk := chk_lt (seqR v b + 1) st ct
    unfold bnd
    rcases hq with rfl | rfl | rfl | rfl | rfl <;> dsimp only <;> rw [if_neg (by omega)]
    · exact Nat.zero_le _
    · rw [if_neg (by omega), if_pos (by omega)]; omega
    · rw [if_neg (by omega), if_neg (by omega), if_pos (by omega)]; omega
    · rw [if_neg (by omega), if_neg (by omega), if_neg (by omega)]; omega
    · rw [if_pos (by omega)]; omega)
  have d5 := Lr_done (o := 1 - b) (sq := seqR v b + 1) (st := st) (ct := ct) (v := v) (g := g) (w := w)
  have d4 := Lr_fail (o := 1 - b) (sq := seqR v b + 1) (st := st) (ct := ct) (v := v) (g := g) (w := w)
  generalize wrun (Lr (1 - b) (seqR v b + 1) st ct) v g w = R at fr hbd d5 d4 ⊢
  have hb3 : b = 0 ∨ b = 1 := by omega
  have er : ∀ k, k < 4 → R.2.1 (58 + 4 * b + k) = v (58 + 4 * b + k) := fun k hk => fr _ (by omega)
  have eb : R.2.1 (58 + 4 * b) = v (58 + 4 * b) := er 0 (by omega)
  refine ⟨fun i hi => fr i (by omega), fun h5 => ?_, fun h5 => ?_⟩
  · obtain ⟨q0, q1, q2, q3⟩ := d5 h5
    have hb4 : 1 - (1 - b) = b := by omega
    refine ⟨⟨⟨by omega, ?_, ?_⟩, ?_, hbd⟩, q2, q3⟩
    · show R.2.1 (58 + 4 * (1 - b)) = chk (R.2.1 (58 + 4 * (1 - b) + 1)) (R.2.1 (58 + 4 * (1 - b) + 2)) (R.2.1 (58 + 4 * (1 - b) + 3))
      rw [q0, q1, q2, q3]
    · rw [hb4]
      refine Or.inr ⟨?_, ?_⟩
      · show R.2.1 (58 + 4 * b) = chk (R.2.1 (58 + 4 * b + 1)) (R.2.1 (58 + 4 * b + 2)) (R.2.1 (58 + 4 * b + 3))
        rw [eb, er 1 (by omega), er 2 (by omega), er 3 (by omega)]
        exact h.1.2.1
      · rw [q1, er 1 (by omega)]; exact Nat.lt_succ_self _
    · have : cnf R.2.1 (1 - b) = st % 2 := by unfold cnf sttR; rw [q2]
      rw [this]
      have hm : st % 2 < 2 := Nat.mod_lt _ (by decide)
      exact good_c (fun i h1 h2 => fr i (by omega)) hg
  · have q0 := d4 h5
    have ec : cnf R.2.1 b = cnf v b := by unfold cnf sttR; rw [er 2 (by omega)]
    have hm : cnf v b < 2 := Nat.mod_lt _ (by decide)
    refine ⟨⟨⟨hb2, ?_, Or.inl q0⟩, ?_, hbd⟩, er 2 (by omega), er 3 (by omega)⟩
    · show R.2.1 (58 + 4 * b) = chk (R.2.1 (58 + 4 * b + 1)) (R.2.1 (58 + 4 * b + 2)) (R.2.1 (58 + 4 * b + 3))
      rw [eb, er 1 (by omega), er 2 (by omega), er 3 (by omega)]
      exact h.1.2.1
    · rw [ec]
      exact good_c (fun i h1 h2 => fr i (by omega)) h.2.1
end SAFE
