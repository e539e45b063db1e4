/-! STARTS, UPDATES, and what a rehearsed update leaves -/
def nst (v : Nat → Nat) (b : Nat) : Nat := if trd v b then sttR v b - 4 else cnf v b
/-- the ten writes of an update for the slot that is not confirmed -/
def Lu (v : Nat → Nat) (b ve ln hs ct tr : Nat) : List (Nat × Nat) := Ls (1 - cnf v b) ve ln hs ct ++ Lr (1 - b) (seqR v b + 1) (cnf v b + 2 + 4 * tr) (ctrR v b)
theorem st_new : ∀ st, st < 16 → st / 2 % 2 = 1 → 4 ≤ st → F_X3_trialState (nI (st % 2)) (nI (st / 4) - 1) = nI (st - 4) := by decide +kernel
section UPS
variable {σ : FS} {v : Nat → Nat} {e b : Nat}
theorem strt_nd (h : ¬ sttR v b / 2 % 2 = 1) : strt v b = cnf v b := if_neg (fun z => h z.1)
theorem strt_c2 (N : NI e v b) : strt v b < 2 := by
  have := N.c2
  unfold strt
  split <;> omega
theorem strt_good (N : NI e v b) : good v (strt v b) := by
  unfold strt
  by_cases t : trd v b
  · rw [if_pos t]; exact t.2.2.1
  · rw [if_neg t]; exact N.2.1
theorem start_c (h : AbsS σ v) (N : NI e v b) (he : e ≤ 998) : F_X3_start σ = if sttR v b / 2 % 2 = 1 then (if (cw (Lr (1 - b) (seqR v b + 1) (nst v b) (ctrR v b)) σ).1 = 5 then nI (strt v b) else -1, (cw (Lr (1 - b) (seqR v b + 1) (nst v b) (ctrR v b)) σ).2) else (nI (cnf v b), σ) := by
  have hc := N.c2
  have hst := N.st
  have hct := N.ct
  unfold F_X3_start
  rw [due_n h N (by omega), strt_n h N (by omega), cnf_n h N (by omega), rcnt_n h N (by omega), tries_n h N (by omega)]
  by_cases d : sttR v b / 2 % 2 = 1
  · rw [if_pos d, if_pos d, if_pos d, if_neg (by decide)]
    by_cases t : trd v b
    · have e1 : strt v b = 1 - cnf v b := if_pos t
      have e2 : nst v b = sttR v b - 4 := if_pos t
      rw [e1, e2, if_neg (fun z => absurd ((nI_eq (by omega) (by omega)).mp z) (by omega)), show cnf v b = sttR v b % 2 from rfl, st_new _ (by omega) d t.2.1, wrec_c h N he (by omega) (by omega)]
      dsimp only
      by_cases c : (cw (Lr (1 - b) (seqR v b + 1) (sttR v b - 4) (ctrR v b)) σ).1 = 5
      · rw [if_pos c, if_neg (by decide), if_pos c]
      · rw [if_neg c, if_pos rfl, if_neg c]
    · have e1 : strt v b = cnf v b := if_neg t
      have e2 : nst v b = cnf v b := if_neg t
      rw [e1, e2, if_pos rfl, show F_X3_settledState (nI (cnf v b)) = nI (cnf v b) from rfl, wrec_c h N he (by omega) (by omega)]
      dsimp only
      by_cases c : (cw (Lr (1 - b) (seqR v b + 1) (cnf v b) (ctrR v b)) σ).1 = 5
      · rw [if_pos c, if_neg (by decide), if_pos c]
      · rw [if_neg c, if_pos rfl, if_neg c]
  · rw [if_neg d, if_pos rfl, strt_nd d, if_neg d]
theorem upd_1 {τ : TS} {s ve ln hs ct : Nat} {p : Int32} (e1 : τ.1 = nI ve) (e2 : τ.2.1 = nI ln) (e3 : τ.2.2.1 = nI hs) (e4 : τ.2.2.2.1 = nI ct) : F_X3_writeUpdate σ τ (nI s) p = if (cw (Ls s ve ln hs ct) σ).1 = 5 then (if (F_X3_writeRecord (cw (Ls s ve ln hs ct) σ).2 (F_X3_trialState (F_X3_confirmedSlot (cw (Ls s ve ln hs ct) σ).2) p) (F_X3_recordCounter (cw (Ls s ve ln hs ct) σ).2)).1 = 0 then 0 else 1, (F_X3_writeRecord (cw (Ls s ve ln hs ct) σ).2 (F_X3_trialState (F_X3_confirmedSlot (cw (Ls s ve ln hs ct) σ).2) p) (F_X3_recordCounter (cw (Ls s ve ln hs ct) σ).2)).2) else (0, (cw (Ls s ve ln hs ct) σ).2) := by
  unfold F_X3_writeUpdate
  rw [e1, e2, e3, e4, show (0 : Int32) = nI 0 from rfl, n1', n2, n3, n4]
  simp only [wSlot]
  unfold Ls
  rw [show 29 * s + 0 = 29 * s from rfl]
  obtain ⟨r1, σ1, h1⟩ : ∃ r q, F_X2_write σ (nI (29 * s + 1)) (nI ve) = (r, q) := ⟨_, _, rfl⟩
  by_cases c1 : r1 = 0
  · rw [cw_0 h1 c1]; simp only [h1, if_pos (show r1 = nI 0 from c1)]; rfl
  rw [cw_1 h1 c1]
  simp only [h1, if_neg (show ¬ r1 = nI 0 from c1)]
  obtain ⟨r2, σ2, h2⟩ : ∃ r q, F_X2_write σ1 (nI (29 * s + 2)) (nI ln) = (r, q) := ⟨_, _, rfl⟩
  by_cases c2 : r2 = 0
  · rw [cw_0 h2 c2]; simp only [h2, if_pos (show r2 = nI 0 from c2)]; rfl
  rw [cw_1 h2 c2]
  simp only [h2, if_neg (show ¬ r2 = nI 0 from c2)]
  obtain ⟨r3, σ3, h3⟩ : ∃ r q, F_X2_write σ2 (nI (29 * s + 3)) (nI hs) = (r, q) := ⟨_, _, rfl⟩
  by_cases c3 : r3 = 0
  · rw [cw_0 h3 c3]; simp only [h3, if_pos (show r3 = nI 0 from c3)]; rfl
  rw [cw_1 h3 c3]
  simp only [h3, if_neg (show ¬ r3 = nI 0 from c3)]
  obtain ⟨r4, σ4, h4⟩ : ∃ r q, F_X2_write σ3 (nI (29 * s + 4)) (nI ct) = (r, q) := ⟨_, _, rfl⟩
  by_cases c4 : r4 = 0
  · rw [cw_0 h4 c4]; simp only [h4, if_pos (show r4 = nI 0 from c4)]; rfl
  rw [cw_1 h4 c4]
  simp only [h4, if_neg (show ¬ r4 = nI 0 from c4)]
  obtain ⟨r5, σ5, h5⟩ : ∃ r q, F_X2_write σ4 (nI (29 * s)) (nI 1) = (r, q) := ⟨_, _, rfl⟩
  by_cases c5 : r5 = 0
  · rw [cw_0 h5 c5]; simp only [h5, if_pos (show r5 = nI 0 from c5)]; rfl
  rw [cw_1 h5 c5]
  simp only [h5, if_neg (show ¬ r5 = nI 0 from c5)]
  rw [cw]
  dsimp only
  rw [if_pos rfl]
  generalize F_X3_writeRecord σ5 (F_X3_trialState (F_X3_confirmedSlot σ5) p) (F_X3_recordCounter σ5) = a
  obtain ⟨r6, σ6⟩ := a
  dsimp only
  by_cases c6 : r6 = nI 0
  · rw [if_pos c6, if_pos c6]
  · rw [if_neg c6, if_neg c6]
theorem tri_n (c t : Nat) (_ : c < 2) (_ : t < 4) : F_X3_trialState (nI c) (nI t) = nI (c + 2 + 4 * t) := by
  unfold F_X3_trialState
  rw [n2, n4, pk_mul, nI_add, nI_add]
/-- the same records, seen from the words that are left behind writes into a slot -/
theorem NI.same {v' : Nat → Nat} (hr : ∀ i, 58 ≤ i → v' i = v i) : sttR v' b = sttR v b ∧ ctrR v' b = ctrR v b ∧ seqR v' b = seqR v b ∧ cnf v' b = cnf v b := by
  refine ⟨hr _ (by omega), hr _ (by omega), hr _ (by omega), ?_⟩
  unfold cnf sttR
  rw [hr _ (by omega)]
theorem Ls_bnd {s ve ln hs ct : Nat} (hs2 : s < 2) (h1 : ve ≤ 1 + 2 * e) (h2 : ln ≤ 24) (h3 : hs ≤ 65520) (h4 : ct ≤ 2 * e) : ∀ q ∈ Ls s ve ln hs ct, q.2 ≤ bnd e q.1 := by
  intro q hq
  simp only [Ls, List.mem_cons, List.not_mem_nil, or_false] at hq
  unfold bnd
  rcases hq with rfl | rfl | rfl | rfl | rfl <;> dsimp only <;> rw [if_pos (by omega)]
  · rw [if_neg (by omega), if_pos (by omega)]; exact h1
  · rw [if_neg (by omega), if_neg (by omega), if_pos (by omega)]; exact h2
  · rw [if_neg (by omega), if_neg (by omega), if_neg (by omega), if_pos (by omega)]; exact h3
  · rw [if_neg (by omega), if_neg (by omega), if_neg (by omega), if_neg (by omega), if_pos (by omega)]; exact h4
  · rw [if_pos (by omega)]; exact Nat.le_refl _
/-- the ten writes in numbers -/
theorem upd_res {ve ln hs ct tr : Nat} {g w : Int32} (N : NI e v b) (h1 : ve ≤ 1 + 2 * (e + 1)) (h2 : ln ≤ 24) (h3 : hs ≤ 65520) (h4 : ct ≤ 2 * (e + 1)) (ht : tr < 4) (ht1 : tr ≤ 3) (hst : cnf v b + 2 + 4 * tr ≤ 15) :
    (∀ i, 29 * cnf v b ≤ i → i < 29 * cnf v b + 29 → (wrun (Lu v b ve ln hs ct tr) v g w).2.1 i = v i) ∧
    ((wrun (Lu v b ve ln hs ct tr) v g w).1 = 10 → NI (e + 2) (wrun (Lu v b ve ln hs ct tr) v g w).2.1 (1 - b) ∧ sttR (wrun (Lu v b ve ln hs ct tr) v g w).2.1 (1 - b) = cnf v b + 2 + 4 * tr) ∧
    ((wrun (Lu v b ve ln hs ct tr) v g w).1 < 10 → NI (e + 2) (wrun (Lu v b ve ln hs ct tr) v g w).2.1 b ∧ sttR (wrun (Lu v b ve ln hs ct tr) v g w).2.1 b = sttR v b) := by
  have hc := N.c2
  obtain ⟨N1, f1, f2⟩ := N.slot (L := Ls (1 - cnf v b) ve ln hs ct) (g := g) (w := w) (fun q hq => by have := Ls_in q hq; omega) (Ls_bnd (by omega) h1 h2 h3 h4)
  have ha := wrun_app (Ls (1 - cnf v b) ve ln hs ct) (Lr (1 - b) (seqR v b + 1) (cnf v b + 2 + 4 * tr) (ctrR v b)) v g w
  have hl := wrun_le (Ls (1 - cnf v b) ve ln hs ct) v g w
  have hlen : (Ls (1 - cnf v b) ve ln hs ct).length = 5 := rfl
  unfold Lu
  rw [ha]
  rw [hlen] at hl ⊢
  generalize wrun (Ls (1 - cnf v b) ve ln hs ct) v g w = r at N1 f1 f2 hl ⊢
  obtain ⟨q1, q2, q3, q4⟩ := NI.same (b := b) f1
  by_cases c : r.1 = 5
  · rw [if_pos c]
    have hct := N.ct
    have NR := NI.record (st := cnf v b + 2 + 4 * tr) (ct := ctrR v b) (g := r.2.2.1) (w := r.2.2.2) N1 hst (by omega) (by
      rw [show (cnf v b + 2 + 4 * tr) % 2 = cnf v b by omega, ← q4]; exact N1.2.1)
    rw [q3] at NR
    have hle := wrun_le (Lr (1 - b) (seqR v b + 1) (cnf v b + 2 + 4 * tr) (ctrR v b)) r.2.1 r.2.2.1 r.2.2.2
    have hl5 : (Lr (1 - b) (seqR v b + 1) (cnf v b + 2 + 4 * tr) (ctrR v b)).length = 5 := rfl
    rw [hl5] at hle
    generalize wrun (Lr (1 - b) (seqR v b + 1) (cnf v b + 2 + 4 * tr) (ctrR v b)) r.2.1 r.2.2.1 r.2.2.2 = R at NR hle ⊢
    refine ⟨fun i hi hi2 => (NR.1 i (by omega)).trans (f2 i hi hi2), fun h10 => ?_, fun h10 => ?_⟩
    · have := NR.2.1 (by have := h10; dsimp only at this; omega)
      exact ⟨this.1, this.2.1⟩
    · have := NR.2.2 (by have := h10; dsimp only at this; omega)
      exact ⟨this.1, this.2.1.trans q1⟩
  · rw [if_neg c]
    exact ⟨f2, fun h10 => by omega, fun _ => ⟨⟨N1.1, N1.2.1, N1.2.2.mono (by omega)⟩, q1⟩⟩
theorem wupd_c {τ : TS} {ve ln hs ct tr : Nat} (h : AbsS σ v) (N : NI e v b) (he : e ≤ 900) (e1 : τ.1 = nI ve) (e2 : τ.2.1 = nI ln) (e3 : τ.2.2.1 = nI hs) (e4 : τ.2.2.2.1 = nI ct) (h1 : ve ≤ 1 + 2 * (e + 1)) (h2 : ln ≤ 24) (h3 : hs ≤ 65520) (h4 : ct ≤ 2 * (e + 1)) (ht : tr < 4) : F_X3_writeUpdate σ τ (nI (1 - cnf v b)) (nI tr) = (if (cw (Lu v b ve ln hs ct tr) σ).1 = 10 then 1 else 0, (cw (Lu v b ve ln hs ct tr) σ).2) := by
  have hc := N.c2
  obtain ⟨N1, f1, f2⟩ := N.slot (L := Ls (1 - cnf v b) ve ln hs ct) (g := σ.2.1) (w := σ.2.2) (fun q hq => by have := Ls_in q hq; omega) (Ls_bnd (by omega) h1 h2 h3 h4)
  obtain ⟨q1, q2, q3, q4⟩ := NI.same (b := b) f1
  have ha := cw_a (Ls (1 - cnf v b) ve ln hs ct) σ v h (fun q hq => by have := Ls_in q hq; omega)
  have hA := ha.2.1
  have hct := N.ct
  have hsq := N.sq
  have hle := cw_le (Ls (1 - cnf v b) ve ln hs ct) σ
  have hlen : (Ls (1 - cnf v b) ve ln hs ct).length = 5 := rfl
  rw [hlen] at hle
  rw [upd_1 e1 e2 e3 e4]
  unfold Lu
  rw [cw_app, hlen]
  generalize cw (Ls (1 - cnf v b) ve ln hs ct) σ = a at hA hle ⊢
  by_cases c : a.1 = 5
  · rw [if_pos c, if_pos c, cnf_n hA N1 (by omega), rcnt_n hA N1 (by omega), q4, q2, tri_n _ _ hc ht, wrec_c hA N1 (by omega) (by omega) (by omega), q3]
    dsimp only
    have hle2 := cw_le (Lr (1 - b) (seqR v b + 1) (cnf v b + 2 + 4 * tr) (ctrR v b)) a.2
    have hl5 : (Lr (1 - b) (seqR v b + 1) (cnf v b + 2 + 4 * tr) (ctrR v b)).length = 5 := rfl
    rw [hl5] at hle2
    generalize cw (Lr (1 - b) (seqR v b + 1) (cnf v b + 2 + 4 * tr) (ctrR v b)) a.2 = R at hle2 ⊢
    by_cases d : R.1 = 5
    · rw [if_pos d, if_neg (by decide), if_pos (by omega)]
    · rw [if_neg d, if_pos rfl, if_neg (by omega)]
  · rw [if_neg c, if_neg c, if_neg (by omega)]
/-- whatever a rehearsed update leaves, the slot that would start is startable -/
theorem reh_c {τ : TS} {ve ln hs ct tr : Nat} (h : AbsS σ v) (N : NI e v b) (he : e ≤ 900) (e1 : τ.1 = nI ve) (e2 : τ.2.1 = nI ln) (e3 : τ.2.2.1 = nI hs) (e4 : τ.2.2.2.1 = nI ct) (h1 : ve ≤ 1 + 2 * (e + 1)) (h2 : ln ≤ 24) (h3 : hs ≤ 65520) (h4 : ct ≤ 2 * (e + 1)) (ht : tr < 4) (hst : cnf v b + 2 + 4 * tr ≤ 15) : F_X3_canStart (F_X3_writeUpdate σ τ (nI (1 - cnf v b)) (nI tr)).2 (F_X3_slotToStart (F_X3_writeUpdate σ τ (nI (1 - cnf v b)) (nI tr)).2) = 1 := by
  have hc := N.c2
  have hb := N.b2
  rw [wupd_c h N he e1 e2 e3 e4 h1 h2 h3 h4 ht]
  dsimp only
  have ha := cw_a (Lu v b ve ln hs ct tr) σ v h (fun q hq => by
    unfold Lu at hq
    rcases List.mem_append.mp hq with z | z
    · have := Ls_in q z; omega
    · have := Lr_in (by omega) q z; omega)
  have hr := upd_res (g := σ.2.1) (w := σ.2.2) N h1 h2 h3 h4 ht (by omega) hst
  have hle := wrun_le (Lu v b ve ln hs ct tr) v σ.2.1 σ.2.2
  have hl : (Lu v b ve ln hs ct tr).length = 10 := rfl
  rw [hl] at hle
  have hA := ha.2.1
  generalize wrun (Lu v b ve ln hs ct tr) v σ.2.1 σ.2.2 = R at hr hle hA
  have hN : ∃ b', NI (e + 2) R.2.1 b' := by
    by_cases c : R.1 = 10
    · exact ⟨_, (hr.2.1 c).1⟩
    · exact ⟨_, (hr.2.2 (by omega)).1⟩
  obtain ⟨b', N'⟩ := hN
  rw [strt_n hA N' (by omega), canStart_a hA (N'.small (by omega)) (strt_c2 N'), if_pos (strt_good N')]
theorem abs_mirror {ρ : FS} (h : AbsS σ v) (x : Int32) : AbsS (F_X2_chooseFailure (F_X3_mirror ρ σ) x) v := by
  intro i hi
  show mirr ρ.1 σ.1 66 i = nI (v i)
  unfold mirr
  rw [if_pos hi]
  exact h i hi
theorem sfN_c {τ : TS} {ve ln hs ct tr : Nat} (h : AbsS σ v) (N : NI e v b) (he : e ≤ 900) (e1 : τ.1 = nI ve) (e2 : τ.2.1 = nI ln) (e3 : τ.2.2.1 = nI hs) (e4 : τ.2.2.2.1 = nI ct) (h1 : ve ≤ 1 + 2 * (e + 1)) (h2 : ln ≤ 24) (h3 : hs ≤ 65520) (h4 : ct ≤ 2 * (e + 1)) (ht : tr < 4) (hst : cnf v b + 2 + 4 * tr ≤ 15) : ∀ (n j : Nat) (ρ : FS) (s : Nat), (sfN σ τ (nI (1 - cnf v b)) (nI tr) n j ρ (nI s)).1 = nI (s + n)
  | 0, j, ρ, s => rfl
  | n + 1, j, ρ, s => by
    have hr := reh_c (abs_mirror (ρ := ρ) h (nI j)) N he e1 e2 e3 e4 h1 h2 h3 h4 ht hst
    rw [sfN]
    generalize F_X3_writeUpdate (F_X2_chooseFailure (F_X3_mirror ρ σ) (nI j)) τ (nI (1 - cnf v b)) (nI tr) = a at hr ⊢
    obtain ⟨r, ρ3⟩ := a
    dsimp only at hr ⊢
    rw [hr, if_neg (by decide), nI_1, sfN_c h N he e1 e2 e3 e4 h1 h2 h3 h4 ht hst n (j + 1) ρ3 (s + 1), (show s + 1 + n = s + (n + 1) by omega)]
end UPS
