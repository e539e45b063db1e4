/-! WHAT HOLDS BETWEEN TWO ACTS; what is told then -/
def dueR (v : Nat → Nat) (b : Nat) : Prop := sttR v b / 2 % 2 = 1
def runOk (v : Nat → Nat) (b : Nat) (run : Int32) : Prop := run = -1 ∨ run = nI (cnf v b) ∨ (dueR v b ∧ run = nI (1 - cnf v b) ∧ good v (1 - cnf v b))
def trOk (e : Nat) (v : Nat → Nat) (b : Nat) (τ : TS) (mm : Nat → Int32) (run : Int32) : Prop := (τ.2.2.2.2.2 = 0 ∧ mm 3 = -1) ∨ (τ.2.2.2.2.2 = 1 ∧ run = nI (cnf v b) ∧ ¬ dueR v b ∧ ∃ c k ve hs ct : Nat, (τ.2.2.2.2.1 = nI c ∧ mm 3 = nI c) ∧ (τ.2.1 = nI k ∧ mm 5 = nI k) ∧ (τ.1 = nI ve ∧ mm 4 = nI ve) ∧ (τ.2.2.1 = nI hs ∧ mm 6 = nI hs) ∧ (τ.2.2.2.1 = nI ct ∧ mm 7 = nI ct) ∧ c ≤ k ∧ 1 ≤ k ∧ k ≤ 4 ∧ ve ≤ 1 + 2 * e ∧ hs ≤ 65520 ∧ ct ≤ 2 * e ∧ 1 ≤ ve ∧ v (29 * (1 - cnf v b)) = 0)
/-- a marked slot has a version -/
def VI (v : Nat → Nat) : Prop := ∀ s, s < 2 → v (29 * s) = 1 → 1 ≤ v (29 * s + 1)
theorem VI.c {v v' : Nat → Nat} (h : VI v) (hc : ∀ i, i < 58 → v' i = v i) : VI v' := fun s hs hm => by
  rw [hc _ (by omega)] at hm ⊢
  exact h s hs hm
/-- the class's state and the law's arrays tell the same flash v, in which the record b is in force -/
def Sim (e : Nat) (v : Nat → Nat) (b : Nat) (σ : FS) (τ : TS) (δ : DS) (run : Int32) (ww rr mm : Nat → Int32) : Prop := AbsS σ v ∧ AbsW ww rr v ∧ (σ.2.1 = mm 2 ∧ σ.2.2 = mm 1) ∧ run = mm 0 ∧ NI e v b ∧ runOk v b run ∧ trOk e v b τ mm run ∧ (∃ d, δ.1 = nI d ∧ d ≤ 24) ∧ VI v
def Inv2 (e : Nat) (σ : FS) (τ : TS) (δ : DS) (run : Int32) (ww rr mm : Nat → Int32) : Prop := ∃ v b, Sim e v b σ τ δ run ww rr mm
section TOLD
variable {σ : FS} {τ : TS} {δ : DS} {run : Int32} {ww rr mm : Nat → Int32} {v : Nat → Nat} {e b : Nat}
theorem runOk.on (h : runOk v b run) (hc : cnf v b < 2) : run = -1 ∨ ∃ s, s < 2 ∧ run = nI s := by
  rcases h with h | h | ⟨-, h, -⟩
  · exact Or.inl h
  · exact Or.inr ⟨_, hc, h⟩
  · exact Or.inr ⟨_, by omega, h⟩
theorem nI_m1 {n : Nat} (h : n < 2 ^ 31) : ¬ nI n = -1 := fun z => nI_pos h (by rw [z]; decide)
theorem j253_1 (h : AbsS σ v) (hw : AbsW ww rr v) (N : NI e v b) (he : e ≤ 900) {k : Nat} (hk : k < 2) : F_L_isTold_j253 σ (nI k) rr ww = 1 := by
  have hm := N.small (e := e) (by omega)
  have hs : sl (nI k) := sl_n rfl hk
  unfold F_L_isTold_j253 F_X5_isValid F_X5_isStartable F_X5_version
  rw [if_pos (rw01 hs), if_pos (rw01 hs), if_pos (rw01 hs)]
  dsimp only
  rw [isValid_a h hm hk, lvalid_a hw hm hk, if_pos rfl, canStart_a h hm hk, lgood_a hw hm hk, if_pos rfl, show F_X3_slotWord σ (nI k) 1 = nI (v (29 * k + 1)) from slotW_a (j := 1) h hk (by omega), show rd ww (32 * nI k + 1) = nI (v (29 * k + 1)) from lw (j := 1) hw hk (by omega), if_pos rfl]
theorem j298_1 (h : AbsS σ v) (hw : AbsW ww rr v) {k j : Nat} (hk : k < 2) (hj : j < 24) : F_L_isTold_j298 σ (nI k) (nI j) ww = 1 := by
  have hs : sl (nI k) := sl_n rfl hk
  unfold F_L_isTold_j298 F_X5_imageByte
  rw [if_pos (rw01 hs), if_neg (nI_pos (by omega)), if_pos (show nI j < 24 from nI_lt (b := 24) hj (by omega))]
  dsimp only
  rw [imageW_a h hk hj, lw5 hw hk hj, if_pos rfl]
theorem ibN_1 (h : AbsS σ v) (hw : AbsW ww rr v) {k : Nat} (hk : k < 2) : ∀ (n j : Nat), j + n ≤ 24 → ibN σ ww (nI k) n j 1 = 1
  | 0, j, _ => rfl
  | n + 1, j, hn => by
    rw [ibN, if_neg (by decide), j298_1 h hw hk (by omega)]
    exact ibN_1 h hw hk n (j + 1) (by omega)
theorem otN_1 (h : AbsS σ v) (hw : AbsW ww rr v) (N : NI e v b) (he : e ≤ 900) : ∀ (n j : Nat), j + n ≤ 2 → otN σ ww rr n j 1 = 1
  | 0, j, _ => rfl
  | n + 1, j, hn => by
    rw [otN, if_neg (by decide), j253_1 h hw N he (by omega), ibN_1 h hw (by omega) 24 0 (by omega)]
    exact otN_1 h hw N he n (j + 1) (by omega)
theorem j184_1 (S : Sim e v b σ τ δ run ww rr mm) (he : e ≤ 900) : F_L_isTold_j184 run mm σ rr τ ww = 1 := by
  obtain ⟨h, hw, ⟨hg, hf⟩, hr, N, hro, ht, hd, hv⟩ := S
  have hc := N.c2
  have hb := N.b2
  have hst := N.st
  have e1 : F_X5_isOn run = F_L_isTold_j23 mm := by
    unfold F_X5_isOn F_L_isTold_j23
    rw [rd0, ← hr]
    rcases hro.on hc with z | ⟨s, hs, z⟩
    · rw [z]; decide
    · rw [z, if_neg (nI_m1 (by omega)), if_neg (nI_pos (by omega))]
  have e2 : F_X5_isOnTrial σ run = F_L_isTold_j65 mm rr := by
    unfold F_X5_isOnTrial F_L_isTold_j65 F_X5_isOn
    rw [rd0, ← hr, cnf_n h N (by omega), lst_n hw N (by omega), st_and1 _ (by omega)]
    rcases hro.on hc with z | ⟨s, hs, z⟩
    · rw [z]; rfl
    · rw [z, if_neg (nI_m1 (by omega)), if_neg (show ¬ (1 : Int32) = 0 by decide), if_neg (nI_pos (by omega))]; rfl
  have e3 : F_X5_toCome τ = F_L_isTold_j99 mm := by
    unfold F_X5_toCome F_X4_bytesToCome F_L_isTold_j99
    rw [rd3, show rd mm 5 = mm 5 from rfl]
    rcases ht with ⟨z, y⟩ | ⟨z, -, -, c, k, ve, hs, ct, ⟨q1, q2⟩, ⟨q3, q4⟩, -, -, -, hck, -, hk4, -⟩
    · rw [z, y]; rfl
    · rw [z, q1, q2, q3, q4, if_neg (by decide)]
      by_cases y : 0 ≤ nI c
      · rw [if_pos y]
      · exact absurd (nI_pos' (by omega)) y
  unfold F_L_isTold_j184
  rw [if_pos e1, if_pos (show F_X5_running run = rd mm 0 from hr), if_pos e2, if_pos (show F_X5_writes σ = rd mm 2 from hg), if_pos e3]
  rw [show F_X5_record σ = nI b from force_n h N (by omega), if_pos (show nI b = 4 * F_L_best rr / 4 by rw [best_n hw N (by omega), n4, pk_mul, pk_div (by omega) (by omega) (by omega)]; congr 1; omega)]
  rw [show F_X5_confirmed σ = nI (cnf v b) from cnf_n h N (by omega), lst_n hw N (by omega), if_pos (show nI (cnf v b) = nI (sttR v b) &&& 1 by rw [st_and1 _ (by omega)]; rfl)]
  rw [show F_X5_tries σ = F_L_isTold_j151 rr by
    unfold F_L_isTold_j151
    rw [show F_X5_tries σ = F_X3_triesLeft σ from rfl, tries_n h N (by omega), ldue_n hw N (by omega), lst_n hw N (by omega)]
    by_cases d : sttR v b / 2 % 2 = 1
    · rw [if_pos d, if_pos d, if_neg (by decide), st_shr _ (by omega)]
    · rw [if_neg d, if_neg d, if_pos rfl]; rfl, if_pos rfl]
  rw [show F_X5_counter σ = nI (ctrR v b) from rcnt_n h N (by omega), lct_n hw N (by omega), if_pos rfl, show F_X5_wouldStart σ = nI (strt v b) from strt_n h N (by omega), (lstrt_n hw N (by omega)).1, if_pos rfl]
theorem told_1 (S : Sim e v b σ τ δ run ww rr mm) (he : e ≤ 900) : F_L_isTold σ τ run ww rr mm = 1 := by
  have hj := j184_1 S he
  obtain ⟨h, hw, ⟨hg, hf⟩, hr, N, hro, ht, hd, hv⟩ := S
  have hst := N.st
  unfold F_L_isTold
  rw [hj, otN_1 h hw N he 2 0 (by omega)]
  show (if (1 : Int32) = 0 then (0 : Int32) else _) = 1
  rw [if_neg (by decide), lst_n hw N (by omega), st_and1 _ (by omega), show sttR v b % 2 = cnf v b from rfl, lgood_a hw (N.small (by omega)) N.c2, if_pos N.2.1, if_neg (by decide)]
end TOLD
