def F_L_isDelta_j26 (r_5 : Int32) : Int32 := (if r_5 < 0 then 0 else 1)
def F_L_isDelta_j329 (σ : FS) (δ_10 : DS) (p0 : Int32) (k9 : Int32) (k12_26 : Int32) (k11_25 : Int32) : Int32 := (if ((F_X5_deltaLength σ δ_10 p0 k9).2) = k12_26 then (if ((F_X5_deltaFrom σ δ_10 p0 k9).2) = k11_25 then 1 else 0) else 0)
def F_L_isDelta_j278 (k14_35 : Int32) (k11 : Int32) : Int32 := (if k14_35 < 0 then k11 else k14_35)
def F_L_isDelta_j292 (k14_35 : Int32) (k12 : Int32) (k13 : Int32) : Int32 := (if k14_35 < 0 then k12 else k13)
def F_L_isDelta_j258 (k16_40 : Int32) (k13 : Int32) (k15 : Int32) (k14 : Int32) : Int32 := (if k16_40 = k13 then k15 else k14)
def F_L_isDelta_j94 (p1 : Int32) (k9 : Int32) (ww : Nat → Int32) (p0 : Int32) : Int32 := (if (((p1 / 24) >>> ((k9 - k9 / 7 * 7) &&& 31)) &&& 1) = 1 then (1 + (k9 - k9 / 9 * 9)) else (rd ww (((32 * p0) + 5) + ((k9 + p1) - (k9 + p1) / 8 * 8))))
def F_L_isDelta_j116 (r_50 : Int32) (k9 : Int32) : Int32 := (if r_50 = (k9 + 1) then 1 else 0)
def lenOk (ww : Nat → Int32) (p0 : Int32) : Prop := ∃ n : Nat, rd ww (32 * p0 + 2) = nI n ∧ 1 ≤ n ∧ n ≤ 24
def byOk (ww : Nat → Int32) (p0 : Int32) : Prop := ∀ q : Nat, q < 24 → vp_in (rd ww (32 * p0 + 5 + nI q)) 256
/-- the draft's bytes, from the place j on, n of them -/
def drN (ww : Nat → Int32) (p0 p1 : Int32) : Nat → Nat → Int32 → Int64 → DS → (Nat → Int32) → Int32 × Int64 × DS × (Nat → Int32)
  | 0, _, is, h, δ, d => (is, h, δ, d)
  | n + 1, j, is, h, δ, d => if is = 0 then (is, h, δ, d) else
    drN ww p0 p1 n (j + 1) (F_L_isDelta_j116 (F_X5_draft δ (rd (wr d (nI j) (F_L_isDelta_j94 p1 (nI j) ww p0)) (nI j))).2.1 (nI j))
      (31 * h + (rd (wr d (nI j) (F_L_isDelta_j94 p1 (nI j) ww p0)) (nI j)).toInt64 + 1 - (31 * h + (rd (wr d (nI j) (F_L_isDelta_j94 p1 (nI j) ww p0)) (nI j)).toInt64 + 1) / 65521 * 65521)
      (F_X5_draft δ (rd (wr d (nI j) (F_L_isDelta_j94 p1 (nI j) ww p0)) (nI j))).2.2 (wr d (nI j) (F_L_isDelta_j94 p1 (nI j) ww p0))
/-- from the places n - 1, n - 2, .. 0 -/
def fdN (f : Nat → Int32 → Int32) : Nat → Int32 → Int32
  | 0, acc => acc
  | n + 1, acc => fdN f n (f n acc)
def fdG (ww dd : Nat → Int32) (p0 k10 k13 : Int32) (a : Nat) (acc : Int32) : Int32 := F_L_isDelta_j258 (nI (mlN (fun i => rd dd (k10 + nI i)) (fun i => rd ww (32 * p0 + 5 + nI a + nI i)) k13.toNatClampNeg 0)) k13 (nI a) acc
/-- where a run of k bytes stands that begins at the place k10 of the draft -/
def gxN (ww dd : Nat → Int32) (p0 k10 : Int32) (k : Nat) : Int32 := fdN (fdG ww dd p0 k10 (nI k)) ((rd ww (32 * p0 + 2) - nI k).toInt + 1).toNat (-1)
/-- the longest run -/
def mnN (g : Nat → Int32) : Nat → Nat → Int32 → Int32 → Int32 × Int32
  | 0, _, a, b => (a, b)
  | n + 1, k, a, b => mnN g n (k + 1) (F_L_isDelta_j278 (g k) a) (F_L_isDelta_j292 (g k) b (nI k))
/-- the pieces -/
def pcL (σ : FS) (δ : DS) (ww dd : Nat → Int32) (p0 : Int32) (sz : Nat) : Nat → Int32 → Nat → Nat → Int32 × Int32
  | 0, is, p, _ => (is, nI p)
  | n + 1, is, p, q => if sz ≤ q then (is, nI p) else if is = 0 then (is, nI p) else
    pcL σ δ ww dd p0 sz n (F_L_isDelta_j329 σ δ p0 (nI p) (mnN (gxN ww dd p0 (nI q)) (sz - q - 1) 2 (-1) 1).2 (mnN (gxN ww dd p0 (nI q)) (sz - q - 1) 2 (-1) 1).1) (p + 1) (q + (mnN (gxN ww dd p0 (nI q)) (sz - q - 1) 2 (-1) 1).2.toNatClampNeg)
theorem pcL_end {σ : FS} {δ : DS} {ww dd : Nat → Int32} {p0 is : Int32} {sz n p q : Nat} (h : sz ≤ q) : pcL σ δ ww dd p0 sz n is p q = (is, nI p) := by
  cases n with
  | zero => rfl
  | succ n => rw [pcL, if_pos h]
theorem pcL_is {σ : FS} {δ : DS} {ww dd : Nat → Int32} {p0 is : Int32} {sz n p q : Nat} (h : is = 0) : pcL σ δ ww dd p0 sz n is p q = (is, nI p) := by
  cases n with
  | zero => rfl
  | succ n =>
    rw [pcL]
    by_cases c : sz ≤ q
    · rw [if_pos c]
    · rw [if_neg c, if_pos h]
section DLT
variable {ww dd : Nat → Int32} {p0 p1 : Int32}
theorem size9 (hz : zOk p1) : ∃ s9 : Nat, (1 + (p1 - p1 / 24 * 24) : Int32) = nI s9 ∧ 1 ≤ s9 ∧ s9 ≤ 24 := by
  obtain ⟨q, rfl, hq⟩ := hz
  refine ⟨1 + q % 24, ?_, by omega, by omega⟩
  rw [show (24 : Int32) = nI 24 from rfl, show (1 : Int32) = nI 1 from rfl, pk_rem (by omega) (by omega) (by omega), nI_add]
theorem ix_8 (hs : sl p0) (hz : zOk p1) {k : Int32} {j : Nat} (ik : k = nI j) (hj : j < 24) : vp_in (32 * p0 + 5 + ((k + p1) - (k + p1) / 8 * 8)) 64 := by
  obtain ⟨q, rfl, hq⟩ := hz
  refine ix5 (j := (j + q) % 8) hs ?_ (by omega)
  rw [ik, nI_add, show (8 : Int32) = nI 8 from rfl, pk_rem (by omega) (by omega) (by omega)]
theorem j94_ok (hby : byOk ww p0) (hz : zOk p1) {k : Int32} {j : Nat} (ik : k = nI j) (hj : j < 24) : vp_in (F_L_isDelta_j94 p1 k ww p0) 256 := by
  unfold F_L_isDelta_j94
  split
  · rw [ik, show (9 : Int32) = nI 9 from rfl, pk_rem (by omega) (by omega) (by omega), show (1 : Int32) = nI 1 from rfl, nI_add]
    exact vp_in_nI (by omega) (by decide)
  · obtain ⟨q, rfl, hq⟩ := hz
    have h := hby ((j + q) % 8) (by omega)
    rw [ik, nI_add, show (8 : Int32) = nI 8 from rfl, pk_rem (by omega) (by omega) (by omega)]
    exact h
theorem dr_w {v : Int32} (hv : vp_in v 256) : F_X5_requireWithin v 0 255 = 0 := by
  obtain ⟨j, hj, rfl⟩ := vp_in_of hv (by decide)
  unfold F_X5_requireWithin
  rw [if_neg (nI_pos (by omega)), if_pos (show nI j ≤ 255 from nI_le (b := 255) (by omega) (by omega))]
theorem dr_e {δ : DS} {v : Int32} {j : Nat} (hv : vp_in v 256) (hd : δ.1 = nI j) (hj : j < 24) : F_X5_draft δ v = (0, nI (j + 1), (nI (j + 1), wr δ.2 (nI j) v)) := by
  unfold F_X5_draft F_X1_isFull F_X1_append
  rw [if_pos (dr_w hv), hd, if_pos (show nI j < 24 from nI_lt (b := 24) hj (by omega)), if_pos rfl, if_neg (nI_pos (by omega)), if_neg (show ¬ (24 : Int32) ≤ nI j from fun h => absurd ((nI_leI (a := 24) (by omega) (by omega)).mp h) (by omega)), nI_1]
theorem dr_0 {δ : DS} {v : Int32} {j : Nat} (hv : vp_in v 256) (hd : δ.1 = nI j) (hj : j < 24) : (F_X5_draft δ v).1 = 0 := by rw [dr_e hv hd hj]
theorem dr_s {δ δ' : DS} {v r : Int32} {j : Nat} (hv : vp_in v 256) (hd : δ.1 = nI j) (hj : j < 24) (h : (0, r, δ') = F_X5_draft δ v) : δ'.1 = nI (j + 1) := by
  rw [dr_e hv hd hj] at h
  have e := congrArg (fun q => q.2.2.1) h
  exact e
theorem drN_ok (hby : byOk ww p0) (hz : zOk p1) : ∀ (n j : Nat) (is : Int32) (h : Int64) (δ : DS) (d : Nat → Int32), j + n ≤ 24 → δ.1 = nI j → (drN ww p0 p1 n j is h δ d).1 = 0 ∨ (drN ww p0 p1 n j is h δ d).2.2.1.1 = nI (j + n)
  | 0, j, is, h, δ, d, _, hd => Or.inr hd
  | n + 1, j, is, h, δ, d, hn, hd => by
    rw [drN]
    by_cases c : is = 0
    · rw [if_pos c]; exact Or.inl c
    · rw [if_neg c, (show j + (n + 1) = (j + 1) + n by omega)]
      exact drN_ok hby hz n (j + 1) _ _ _ _ (by omega) (by rw [dr_e (by rw [rd_wr_eq rfl]; exact j94_ok hby hz rfl (by omega)) hd (by omega)])
theorem drN_hx (hby : byOk ww p0) (hz : zOk p1) {s9 : Nat} (hs : s9 ≤ 24) {is : Int32} {h : Int64} {δ : DS} {d : Nat → Int32} {i6 : Int32} {h7 : Int64} {δd : DS} {dd : Nat → Int32} (hd : δ.1 = nI 0) (hx : (i6, h7, δd, dd) = drN ww p0 p1 s9 0 is h δ d) : i6 = 0 ∨ δd.1 = nI s9 := by
  have e := drN_ok hby hz s9 0 is h δ d (by omega) hd
  rw [← hx, Nat.zero_add] at e
  exact e
theorem at0 (hl : lenOk ww p0) {k : Int32} {m13 : Nat} (ik : k = nI m13) (h2 : m13 ≤ 25) : -30 ≤ (rd ww (32 * p0 + 2) - k).toInt ∧ (rd ww (32 * p0 + 2) - k).toInt + m13 ≤ 24 := by
  obtain ⟨n, e, h1, h3⟩ := hl
  rw [e, ik, pk_sub_toInt (by omega) (by omega)]
  omega
theorem nI_i {x : Int32} {t : Int} (h : x.toInt = t) (h0 : 0 ≤ t) : x = nI t.toNat := by
  obtain ⟨j, hj, e⟩ := nI_of (x := x) (fun z => by have := Int32.lt_iff_toInt_lt.mp z; rw [h] at this; have e0 : (0 : Int32).toInt = 0 := rfl; omega)
  rw [e] at h ⊢
  rw [nI_toInt hj] at h
  rw [← h]
  rfl
theorem dec_i {x : Int32} {t : Int} (h : x.toInt = t) (h0 : 0 ≤ t) : (x + (-1)).toInt = t - 1 := by
  have hb : t < 2 ^ 31 := by rw [← h]; exact Int32.toInt_lt x
  rw [Int32.toInt_add, h, show (-1 : Int32).toInt = -1 from rfl, Int.bmod_def]
  split <;> omega
theorem ge0_i {x : Int32} {t : Int} (h : x.toInt = t) (hc : ¬ x < 0) : 0 ≤ t := by
  have h2 := Int32.le_iff_toInt_le.mp (Int32.not_lt.mp hc)
  rw [h] at h2; exact h2
theorem lt0_i {x : Int32} {t : Int} (h : x.toInt = t) (hc : x < 0) : t < 0 := by
  have h2 := Int32.lt_iff_toInt_lt.mp hc
  rw [h] at h2; exact h2
theorem ix_d {a b : Int32} {i j : Nat} (ha : a = nI i) (hb : b = nI j) (h : i + j < 24) : vp_in (a + b) 24 := by rw [ha, hb, nI_add]; exact vp_in_nI h (by decide)
theorem ix_w (hs : sl p0) {a b : Int32} {i j : Nat} (ha : a = nI i) (hb : b = nI j) (h : i + j < 27) : vp_in (32 * p0 + 5 + a + b) 64 := by rw [Int32.add_assoc]; exact ix5 hs (by rw [ha, hb, nI_add]) h
theorem mnN_ok (g : Nat → Int32) {B : Nat} : ∀ (n k : Nat) (a b : Int32) (c : Nat), b = nI c → 1 ≤ c → c ≤ B → 2 ≤ k → k + n ≤ B + 1 → ∃ c', (mnN g n k a b).2 = nI c' ∧ 1 ≤ c' ∧ c' ≤ B
  | 0, k, a, b, c, hb, h1, h2, _, _ => ⟨c, hb, h1, h2⟩
  | n + 1, k, a, b, c, hb, h1, h2, hk, hn => by
    rw [mnN]
    unfold F_L_isDelta_j292
    by_cases d : g k < 0
    · rw [if_pos d]; exact mnN_ok g n (k + 1) _ _ c hb h1 h2 (by omega) (by omega)
    · rw [if_neg d]; exact mnN_ok g n (k + 1) _ _ k rfl (by omega) (by omega) (by omega) (by omega)
theorem mnN_hx {g : Nat → Int32} {s9 pl : Nat} {k11 k12 : Int32} (h : pl < s9) (hx : (k11, k12) = mnN g (s9 - pl - 1) 2 (-1) 1) : ∃ c', k12 = nI c' ∧ 1 ≤ c' ∧ c' ≤ s9 - pl := by
  have e := mnN_ok g (B := s9 - pl) (s9 - pl - 1) 2 (-1) 1 1 rfl (by omega) (by omega) (by omega) (by omega)
  rw [← hx] at e
  exact e
theorem psN_snoc (pl : Int32 → Int32) (sz : Int32) : ∀ (n : Nat) (st : Int32), psN pl sz (n + 1) st = if sz ≤ psN pl sz n st then psN pl sz n st else psN pl sz n st + pl (psN pl sz n st)
  | 0, st => rfl
  | n + 1, st => by
    by_cases c : sz ≤ st
    · have e : ∀ m, psN pl sz m st = st := fun m => by cases m with
        | zero => rfl
        | succ m => rw [psN, if_pos c]
      rw [e, e, if_pos c]
    · have e : ∀ m, psN pl sz (m + 1) st = psN pl sz m (st + pl st) := fun m => by rw [psN, if_neg c]
      rw [e (n + 1), e n]
      exact psN_snoc pl sz n (st + pl st)
theorem pst_eq {δ : DS} {σ : FS} {k9 k10 : Int32} {j9 pl10 s9 : Nat} (ik9 : k9 = nI j9) (hj : j9 < 2 ^ 31) (hp : psN (fun st => F_X0_pieceLength δ σ p0 st) δ.1 j9 0 = k10) (hd : δ.1 = nI s9) (ik10 : k10 = nI pl10) (hpl : pl10 < s9) (hs : s9 ≤ 24) : F_X0_pieceStart δ σ p0 k9 = k10 := by
  have c : ¬ δ.1 ≤ k10 := by rw [hd, ik10]; exact fun h => absurd ((nI_leI (by omega) (by omega)).mp h) (by omega)
  unfold F_X0_pieceStart
  rw [if_neg (by rw [ik9]; exact nI_pos hj), show k9.toNatClampNeg = j9 from by rw [ik9, nI_clamp hj], hp, if_neg c]
theorem st_0 {σ : FS} (hs : sl p0) (hst : F_X3_canStart σ p0 = 1) : F_X5_requireStartable σ p0 = 0 := by
  unfold F_X5_requireStartable
  rw [if_pos (rw01 hs), hst, if_neg (by decide)]
theorem pc_0 {k : Int32} {j : Nat} (ik : k = nI j) (hj : j < 2 ^ 31) : F_X5_requirePiece k = 0 := by
  unfold F_X5_requirePiece
  exact if_neg (fun h => nI_pos hj (by rw [← ik, h]; decide))
theorem dl_0 {σ : FS} {δ : DS} {k9 k10 : Int32} {j : Nat} (hs : sl p0) (hst : F_X3_canStart σ p0 = 1) (hp : F_X0_pieceStart δ σ p0 k9 = k10) (ik : k10 = nI j) (hj : j < 2 ^ 31) : (F_X5_deltaLength σ δ p0 k9).1 = 0 := by
  unfold F_X5_deltaLength
  rw [if_pos (st_0 hs hst), hp, if_pos (pc_0 ik hj)]
theorem df_0 {σ : FS} {δ : DS} {k9 k10 : Int32} {j : Nat} (hs : sl p0) (hst : F_X3_canStart σ p0 = 1) (hp : F_X0_pieceStart δ σ p0 k9 = k10) (ik : k10 = nI j) (hj : j < 2 ^ 31) : (F_X5_deltaFrom σ δ p0 k9).1 = 0 := by
  unfold F_X5_deltaFrom
  rw [if_pos (st_0 hs hst), hp, if_pos (pc_0 ik hj)]
theorem dl_2 {σ : FS} {δ : DS} {k9 k10 : Int32} {j : Nat} (hs : sl p0) (hst : F_X3_canStart σ p0 = 1) (hp : F_X0_pieceStart δ σ p0 k9 = k10) (ik : k10 = nI j) (hj : j < 2 ^ 31) : (F_X5_deltaLength σ δ p0 k9).2 = F_X0_pieceLength δ σ p0 k10 := by
  unfold F_X5_deltaLength
  rw [if_pos (st_0 hs hst), hp, if_pos (pc_0 ik hj)]
theorem df_2 {σ : FS} {δ : DS} {k9 k10 : Int32} {j : Nat} (hs : sl p0) (hst : F_X3_canStart σ p0 = 1) (hp : F_X0_pieceStart δ σ p0 k9 = k10) (ik : k10 = nI j) (hj : j < 2 ^ 31) : (F_X5_deltaFrom σ δ p0 k9).2 = F_X0_runFrom δ σ p0 k10 := by
  unfold F_X5_deltaFrom
  rw [if_pos (st_0 hs hst), hp, if_pos (pc_0 ik hj)]
theorem dp_0 {σ : FS} {δ : DS} (hs : sl p0) (hst : F_X3_canStart σ p0 = 1) : (F_X5_deltaPieces σ δ p0).1 = 0 := by
  unfold F_X5_deltaPieces
  rw [if_pos (st_0 hs hst)]
/-- a piece that was answered as it should be is the class's own piece -/
theorem ps_next {σ : FS} {δ : DS} {k9 k10 k11 k12 : Int32} {j9 j s9 : Nat} (hs : sl p0) (hst : F_X3_canStart σ p0 = 1) (hp : F_X0_pieceStart δ σ p0 k9 = k10) (ik : k10 = nI j) (hd : δ.1 = nI s9) (hj : j < s9) (h24 : s9 ≤ 24) (hps : psN (fun st => F_X0_pieceLength δ σ p0 st) δ.1 j9 0 = k10) : F_L_isDelta_j329 σ δ p0 k9 k12 k11 = 0 ∨ psN (fun st => F_X0_pieceLength δ σ p0 st) δ.1 (j9 + 1) 0 = k10 + k12 := by
  unfold F_L_isDelta_j329
  by_cases c : (F_X5_deltaLength σ δ p0 k9).2 = k12
  · right
    rw [psN_snoc, hps, if_neg (by rw [hd, ik]; exact fun h => absurd ((nI_leI (by omega) (by omega)).mp h) (by omega)), ← c, dl_2 hs hst hp ik (by omega)]
  · left
    rw [if_neg c]
end DLT

def F_L_isDelta (σ : FS) (δ : DS) (ww : Nat → Int32) (p0 : Int32) (p1 : Int32) : Int32 × (DS) := (match (F_X5_clearDraft δ) with | (r_5, u_4) => (match drN ww p0 p1 (1 + (p1 - p1 / 24 * 24)).toNatClampNeg 0 (F_L_isDelta_j26 r_5) 17 u_4 (fun _ => 0) with | (i6_8, h7_9, δ_10, dd_11) => (match pcL σ δ_10 ww dd_11 p0 (1 + (p1 - p1 / 24 * 24)).toNatClampNeg 24 i6_8 0 0 with | (i6_13, k9_14) => (if i6_13 = 0 then (0, δ_10) else (if ((F_X5_deltaPieces σ δ_10 p0).2) = k9_14 then (if (F_X5_draftHash δ_10) = (Int64.toInt32 h7_9) then (1, δ_10) else (0, δ_10)) else (0, δ_10))))))
set_option maxHeartbeats 4000000 in
set_option maxRecDepth 100000 in
theorem c_L_isDelta (l : Launch) (hl9 : l.stackTraces = false) (D : va_G) (cA : ClassId) (b s0 f w s2 f2 w2 t0 d db e0 wa : Nat) (sz : Nat) (σ : FS) (ρ : FS) (τ : TS) (δ : DS) (run : Int32) (ww : Nat → Int32) (p0 : Int32) (p1 : Int32) (hs : sl p0) (hz : zOk p1) (hlen : lenOk ww p0) (hby : byOk ww p0) (hst : F_X3_canStart σ p0 = 1) : Met l yL_isDelta wsL_isDelta ({ frames := 9, cells := 26, slots := 174, locals := 165 }) (va_Pc [.ref b, .ref wa, .int p0, .int p1] (bx_pry D [(cA, .int)] (wBD cA b s0 f w s2 f2 w2 t0 d db e0 wa σ ρ τ δ run ww) sz)) (va_Qi (fun r u => (r, u) = F_L_isDelta σ δ ww p0 p1 ∧ (r = 0 ∨ r = 1)) (fun u t => bx_at D (wBD cA b s0 f w s2 f2 w2 t0 d db e0 wa σ ρ τ u run ww) (va_A (wBD cA b s0 f w s2 f2 w2 t0 d db e0 wa σ ρ τ δ run ww) sz) t) (va_A (wBD cA b s0 f w s2 f2 w2 t0 d db e0 wa σ ρ τ δ run ww) sz)) 26 174 (va_A (wBD cA b s0 f w s2 f2 w2 t0 d db e0 wa σ ρ τ δ run ww) sz) := by
  refine Met.ofW (cc := cL_isDelta) (maxL := 17) (ret := (some .boolean)) (by decide) rfl ?_
  intro p e s m args below meth c s₁ B hml hv
  obtain ⟨rfl, hsz, hP, hK, hD0, hG, hZ⟩ := hv
  have hx := B.exec
  have hb := B.bytes
  have hr := B.returns
  have hts := atoms_spec (ws := wsL_isDelta) B.pre
  have hown : s.vm.findClass RL = some m.cls := findClass_of_methodNamed B.named
  have hlocks := B.notSynchronized
  subst hsz
  have hD := hD0.self (sz := s.heap.size)
  have hZ0 := hZ
  generalize hAe : va_A (wBD cA b s0 f w s2 f2 w2 t0 d db e0 wa σ ρ τ δ run ww) s.heap.size = A at hD hZ0 ⊢
  have hA : ∀ q : Nat, s.heap.size ≤ q → A q := fun q h => by rw [← hAe]; exact Or.inr h
  have hS : va_S A s.heap s.heap [] := va_S.rf
  have hD : va_D A [(b, .inr (5, [.ref s0, .ref s2, .ref t0, .ref d, .ref e0, .int run])), (s0, .inr (3, [.ref f])), (f, .inr (2, [.ref w, .int σ.2.1, .int σ.2.2])), (w, .inl (cA, 66, .inl σ.1)), (s2, .inr (3, [.ref f2])), (f2, .inr (2, [.ref w2, .int ρ.2.1, .int ρ.2.2])), (w2, .inl (cA, 66, .inl ρ.1)), (t0, .inr (4, [.int τ.1, .int τ.2.1, .int τ.2.2.1, .int τ.2.2.2.1, .int τ.2.2.2.2.1, .int τ.2.2.2.2.2])), (d, .inr (1, [.int δ.1, .ref db])), (db, .inl (cA, 24, .inl δ.2)), (e0, .inr (0, [.ref d, .ref s0])), (wa, .inl (cA, 64, .inl ww))] := hD
  have hP : va_P D vwCl [(b, .inr (5, [.ref s0, .ref s2, .ref t0, .ref d, .ref e0, .int run])), (s0, .inr (3, [.ref f])), (f, .inr (2, [.ref w, .int σ.2.1, .int σ.2.2])), (w, .inl (cA, 66, .inl σ.1)), (s2, .inr (3, [.ref f2])), (f2, .inr (2, [.ref w2, .int ρ.2.1, .int ρ.2.2])), (w2, .inl (cA, 66, .inl ρ.1)), (t0, .inr (4, [.int τ.1, .int τ.2.1, .int τ.2.2.1, .int τ.2.2.2.1, .int τ.2.2.2.2.1, .int τ.2.2.2.2.2])), (d, .inr (1, [.int δ.1, .ref db])), (db, .inl (cA, 24, .inl δ.2)), (e0, .inr (0, [.ref d, .ref s0])), (wa, .inl (cA, 64, .inl ww))] s.heap := hP
  have hl := lv_entry ([.ref b, .ref wa, .int p0, .int p1]) (n := 17) (Nat.le_of_ble_eq_true rfl)
  rw [lg_entry_eq]
  generalize (lg_sl ([.ref b, .ref wa, .int p0, .int p1]) ++ List.replicate (17 - (lg_sl ([.ref b, .ref wa, .int p0, .int p1])).length) Slot.unset).toArray = ls at hl ⊢
  have hl : lv_has ls 17 [(0, .ref b), (1, .ref wa), (2, .int p0), (3, .int p1)] := hl
  refine lv_bipush (v := 24) hx hb dL_isDelta_0 (by decide) ?_
  refine va_newa (atype := .int) (ty := .int) (a0 := (24, .inl (fun _ => 0))) (N' := 24) hx hb (hts (.arrayClass .int) (by decide +kernel)) rfl hK hP hD hS hA (fun _ => rfl) (by decide) rfl (Nat.le_of_ble_eq_true rfl) (Nat.le_of_ble_eq_true rfl) (Nat.le_of_ble_eq_true rfl) dL_isDelta_2 (fun qd cA2 H hK hP hD hS => ?_)
  have ecA2 := bx_same 0 1 hK rfl rfl
  subst ecA2
  have hK := hK.sub (tys' := [(cA, .int)]) [0] rfl
  have hP : va_P D vwCl [(b, .inr (5, [.ref s0, .ref s2, .ref t0, .ref d, .ref e0, .int run])), (s0, .inr (3, [.ref f])), (f, .inr (2, [.ref w, .int σ.2.1, .int σ.2.2])), (w, .inl (cA, 66, .inl σ.1)), (s2, .inr (3, [.ref f2])), (f2, .inr (2, [.ref w2, .int ρ.2.1, .int ρ.2.2])), (w2, .inl (cA, 66, .inl ρ.1)), (t0, .inr (4, [.int τ.1, .int τ.2.1, .int τ.2.2.1, .int τ.2.2.2.1, .int τ.2.2.2.2.1, .int τ.2.2.2.2.2])), (d, .inr (1, [.int δ.1, .ref db])), (db, .inl (cA, 24, .inl δ.2)), (e0, .inr (0, [.ref d, .ref s0])), (wa, .inl (cA, 64, .inl ww)), (qd, .inl (cA, 24, .inl (fun _ => 0)))] H := hP
  have hD : va_D A [(b, .inr (5, [.ref s0, .ref s2, .ref t0, .ref d, .ref e0, .int run])), (s0, .inr (3, [.ref f])), (f, .inr (2, [.ref w, .int σ.2.1, .int σ.2.2])), (w, .inl (cA, 66, .inl σ.1)), (s2, .inr (3, [.ref f2])), (f2, .inr (2, [.ref w2, .int ρ.2.1, .int ρ.2.2])), (w2, .inl (cA, 66, .inl ρ.1)), (t0, .inr (4, [.int τ.1, .int τ.2.1, .int τ.2.2.1, .int τ.2.2.2.1, .int τ.2.2.2.2.1, .int τ.2.2.2.2.2])), (d, .inr (1, [.int δ.1, .ref db])), (db, .inl (cA, 24, .inl δ.2)), (e0, .inr (0, [.ref d, .ref s0])), (wa, .inl (cA, 64, .inl ww)), (qd, .inl (cA, 24, .inl (fun _ => 0)))] := hD
  refine W.widen (k := 1) (n := 24) (by omega) (by omega) ?_
  refine lv_astore (lv' := [(4, .ref qd), (0, .ref b), (1, .ref wa), (2, .int p0), (3, .int p1)]) hx hb dL_isDelta_4 hl (by decide) rfl (fun ls hl => ?_)
  refine lv_iconst (v := 1) hx hb dL_isDelta_6 (by decide) ?_
  refine lv_iload_n hx hb dL_isDelta_7 rfl (lv_at hl 4 rfl) ?_
  refine lv_bipush (v := 24) hx hb dL_isDelta_8 (by decide) ?_
  refine lv_irem hx hb dL_isDelta_10 (by decide) ?_
  refine lv_iadd hx hb dL_isDelta_11 ?_
  refine lv_istore (lv' := [(5, .int (1 + (p1 - p1 / 24 * 24))), (4, .ref qd), (0, .ref b), (1, .ref wa), (2, .int p0), (3, .int p1)]) hx hb dL_isDelta_12 hl (by decide) rfl (fun ls hl => ?_)
  obtain ⟨s9, hs9, hs1, hs24⟩ := size9 hz
  have es9 : (1 + (p1 - p1 / 24 * 24)).toNatClampNeg = s9 := by rw [hs9, nI_clamp (by omega)]
  refine lv_aload_n hx hb dL_isDelta_14 rfl (lv_at hl 2 rfl) ?_
  refine bx_wi (wc := [(b, .inr (5, [.ref s0, .ref s2, .ref t0, .ref d, .ref e0, .int run])), (s0, .inr (3, [.ref f])), (f, .inr (2, [.ref w, .int σ.2.1, .int σ.2.2])), (w, .inl (cA, 66, .inl σ.1)), (s2, .inr (3, [.ref f2])), (f2, .inr (2, [.ref w2, .int ρ.2.1, .int ρ.2.2])), (w2, .inl (cA, 66, .inl ρ.1)), (t0, .inr (4, [.int τ.1, .int τ.2.1, .int τ.2.2.1, .int τ.2.2.2.1, .int τ.2.2.2.2.1, .int τ.2.2.2.2.2])), (d, .inr (1, [.int δ.1, .ref db])), (db, .inl (cA, 24, .inl δ.2)), (e0, .inr (0, [.ref d, .ref s0]))]) (wr := [(wa, .inl (cA, 64, .inl ww)), (qd, .inl (cA, 24, .inl (fun _ => 0)))]) (wf := fun (u : (DS)) => [(b, .inr (5, [.ref s0, .ref s2, .ref t0, .ref d, .ref e0, .int run])), (s0, .inr (3, [.ref f])), (f, .inr (2, [.ref w, .int σ.2.1, .int σ.2.2])), (w, .inl (cA, 66, .inl σ.1)), (s2, .inr (3, [.ref f2])), (f2, .inr (2, [.ref w2, .int ρ.2.1, .int ρ.2.2])), (w2, .inl (cA, 66, .inl ρ.1)), (t0, .inr (4, [.int τ.1, .int τ.2.1, .int τ.2.2.1, .int τ.2.2.2.1, .int τ.2.2.2.2.1, .int τ.2.2.2.2.2])), (d, .inr (1, [.int u.1, .ref db])), (db, .inl (cA, 24, .inl u.2)), (e0, .inr (0, [.ref d, .ref s0]))]) (wn := fun (u : (DS)) => [(b, .inr (5, [.ref s0, .ref s2, .ref t0, .ref d, .ref e0, .int run])), (s0, .inr (3, [.ref f])), (f, .inr (2, [.ref w, .int σ.2.1, .int σ.2.2])), (w, .inl (cA, 66, .inl σ.1)), (s2, .inr (3, [.ref f2])), (f2, .inr (2, [.ref w2, .int ρ.2.1, .int ρ.2.2])), (w2, .inl (cA, 66, .inl ρ.1)), (t0, .inr (4, [.int τ.1, .int τ.2.1, .int τ.2.2.1, .int τ.2.2.2.1, .int τ.2.2.2.2.1, .int τ.2.2.2.2.2])), (d, .inr (1, [.int u.1, .ref db])), (db, .inl (cA, 24, .inl u.2)), (e0, .inr (0, [.ref d, .ref s0])), (wa, .inl (cA, 64, .inl ww)), (qd, .inl (cA, 24, .inl (fun _ => 0)))]) hP hD hS hA [0, 1, 2, 3, 4, 5, 6, 7, 8, 9, 10] [11, 12] [2, 3, 4, 5, 6, 7, 8, 9, 10, 11, 12, 0, 1] rfl rfl (by decide) (by decide) (fun u => rfl) (by decide) (va_runV (As := []) (rest := []) ⟨hx, hb, hml, hown, hts⟩ (c_X5_clearDraft l D cA b s0 f w s2 f2 w2 t0 d db e0 H.size σ ρ τ δ run) (cwV 0 hts gL_isDelta_X5_clearDraft rfl rfl rfl (by decide +kernel) ⟨Nat.le_of_ble_eq_true rfl, Nat.le_of_ble_eq_true rfl⟩) (bx_pv (ci := 5) (q0 := 0) hK hG (hP.sub (ws' := [(b, .inr (5, [.ref s0, .ref s2, .ref t0, .ref d, .ref e0, .int run])), (s0, .inr (3, [.ref f])), (f, .inr (2, [.ref w, .int σ.2.1, .int σ.2.2])), (w, .inl (cA, 66, .inl σ.1)), (s2, .inr (3, [.ref f2])), (f2, .inr (2, [.ref w2, .int ρ.2.1, .int ρ.2.2])), (w2, .inl (cA, 66, .inl ρ.1)), (t0, .inr (4, [.int τ.1, .int τ.2.1, .int τ.2.2.1, .int τ.2.2.2.1, .int τ.2.2.2.2.1, .int τ.2.2.2.2.2])), (d, .inr (1, [.int δ.1, .ref db])), (db, .inl (cA, 24, .inl δ.2)), (e0, .inr (0, [.ref d, .ref s0]))]) [0, 1, 2, 3, 4, 5, 6, 7, 8, 9, 10] rfl) (hD.sub (ws' := [(b, .inr (5, [.ref s0, .ref s2, .ref t0, .ref d, .ref e0, .int run])), (s0, .inr (3, [.ref f])), (f, .inr (2, [.ref w, .int σ.2.1, .int σ.2.2])), (w, .inl (cA, 66, .inl σ.1)), (s2, .inr (3, [.ref f2])), (f2, .inr (2, [.ref w2, .int ρ.2.1, .int ρ.2.2])), (w2, .inl (cA, 66, .inl ρ.1)), (t0, .inr (4, [.int τ.1, .int τ.2.1, .int τ.2.2.1, .int τ.2.2.2.1, .int τ.2.2.2.2.1, .int τ.2.2.2.2.2])), (d, .inr (1, [.int δ.1, .ref db])), (db, .inl (cA, 24, .inl δ.2)), (e0, .inr (0, [.ref d, .ref s0]))]) [0, 1, 2, 3, 4, 5, 6, 7, 8, 9, 10] (by decide) rfl) rfl rfl) rfl rfl hl.1 rfl (lv_room (Nat.le_of_ble_eq_true rfl)) dL_isDelta_15 ⟨show 1 + 0 ≤ 26 by omega, show 24 + 0 ≤ 174 by omega⟩) (fun r_5 u_4 H locs h_3 hP hD hS => ?_)
  have hP : va_P D vwCl [(b, .inr (5, [.ref s0, .ref s2, .ref t0, .ref d, .ref e0, .int run])), (s0, .inr (3, [.ref f])), (f, .inr (2, [.ref w, .int σ.2.1, .int σ.2.2])), (w, .inl (cA, 66, .inl σ.1)), (s2, .inr (3, [.ref f2])), (f2, .inr (2, [.ref w2, .int ρ.2.1, .int ρ.2.2])), (w2, .inl (cA, 66, .inl ρ.1)), (t0, .inr (4, [.int τ.1, .int τ.2.1, .int τ.2.2.1, .int τ.2.2.2.1, .int τ.2.2.2.2.1, .int τ.2.2.2.2.2])), (d, .inr (1, [.int u_4.1, .ref db])), (db, .inl (cA, 24, .inl u_4.2)), (e0, .inr (0, [.ref d, .ref s0])), (wa, .inl (cA, 64, .inl ww)), (qd, .inl (cA, 24, .inl (fun _ => 0)))] H := hP
  have hD : va_D A [(b, .inr (5, [.ref s0, .ref s2, .ref t0, .ref d, .ref e0, .int run])), (s0, .inr (3, [.ref f])), (f, .inr (2, [.ref w, .int σ.2.1, .int σ.2.2])), (w, .inl (cA, 66, .inl σ.1)), (s2, .inr (3, [.ref f2])), (f2, .inr (2, [.ref w2, .int ρ.2.1, .int ρ.2.2])), (w2, .inl (cA, 66, .inl ρ.1)), (t0, .inr (4, [.int τ.1, .int τ.2.1, .int τ.2.2.1, .int τ.2.2.2.1, .int τ.2.2.2.2.1, .int τ.2.2.2.2.2])), (d, .inr (1, [.int u_4.1, .ref db])), (db, .inl (cA, 24, .inl u_4.2)), (e0, .inr (0, [.ref d, .ref s0])), (wa, .inl (cA, 64, .inl ww)), (qd, .inl (cA, 24, .inl (fun _ => 0)))] := hD
  have jn26 : ∀ v : Int32, v = (F_L_isDelta_j26 r_5) → ∀ ls : Array Slot, lv_has ls 17 [(5, .int (1 + (p1 - p1 / 24 * 24))), (4, .ref qd), (0, .ref b), (1, .ref wa), (2, .int p0), (3, .int p1)] → W p l e (headSpec wsL_isDelta ({ frames := 9, cells := 26, slots := 174, locals := 165 })).room s m ([.ref b, .ref wa, .int p0, .int p1] : List Value).toArray below meth c H locs 1 24 (MQ below (va_Qi (fun r u => (r, u) = F_L_isDelta σ δ ww p0 p1 ∧ (r = 0 ∨ r = 1)) (fun u t => bx_at D (wBD cA b s0 f w s2 f2 w2 t0 d db e0 wa σ ρ τ u run ww) (A) t) (A)) ([.ref b, .ref wa, .int p0, .int p1] : List Value).toArray s 26 174 (A)) (F0 m 26 ls [.int v]) := by
    intro v hv ls hl
    subst hv
    have hd0 : u_4.1 = nI 0 := by have h9 := congrArg (fun q => q.2.1) h_3; exact h9
    refine lv_istore (lv' := [(6, .int (F_L_isDelta_j26 r_5)), (5, .int (1 + (p1 - p1 / 24 * 24))), (4, .ref qd), (0, .ref b), (1, .ref wa), (2, .int p0), (3, .int p1)]) hx hb dL_isDelta_26 hl (by decide) rfl (fun ls hl => ?_)
    refine lv_ldc2 (v := 17) hx hb hown (hts (.constantLong RL 9 (17)) (by decide +kernel)) dL_isDelta_28 ?_
    refine lv_lstore (lv' := [(7, .long 17), (6, .int (F_L_isDelta_j26 r_5)), (5, .int (1 + (p1 - p1 / 24 * 24))), (4, .ref qd), (0, .ref b), (1, .ref wa), (2, .int p0), (3, .int p1)]) hx hb dL_isDelta_31 hl (by decide) rfl (fun ls hl => ?_)
    refine lv_iconst (v := 0) hx hb dL_isDelta_33 (by decide) ?_
    refine lv_istore (lv' := [(9, .int 0), (7, .long 17), (6, .int (F_L_isDelta_j26 r_5)), (5, .int (1 + (p1 - p1 / 24 * 24))), (4, .ref qd), (0, .ref b), (1, .ref wa), (2, .int p0), (3, .int p1)]) hx hb dL_isDelta_34 hl (by decide) rfl (fun ls hl => ?_)
    have ex145 : ∀ (i6_8 : Int32) (h7_9 : Int64) (δ_10 : DS) (dd_11 : Nat → Int32), (i6_8, h7_9, δ_10, dd_11) = drN ww p0 p1 (1 + (p1 - p1 / 24 * 24)).toNatClampNeg 0 (F_L_isDelta_j26 r_5) 17 u_4 (fun _ => 0) → ∀ (H : Heap) (locs : List Loc), va_P D vwCl [(b, .inr (5, [.ref s0, .ref s2, .ref t0, .ref d, .ref e0, .int run])), (s0, .inr (3, [.ref f])), (f, .inr (2, [.ref w, .int σ.2.1, .int σ.2.2])), (w, .inl (cA, 66, .inl σ.1)), (s2, .inr (3, [.ref f2])), (f2, .inr (2, [.ref w2, .int ρ.2.1, .int ρ.2.2])), (w2, .inl (cA, 66, .inl ρ.1)), (t0, .inr (4, [.int τ.1, .int τ.2.1, .int τ.2.2.1, .int τ.2.2.2.1, .int τ.2.2.2.2.1, .int τ.2.2.2.2.2])), (d, .inr (1, [.int δ_10.1, .ref db])), (db, .inl (cA, 24, .inl δ_10.2)), (e0, .inr (0, [.ref d, .ref s0])), (wa, .inl (cA, 64, .inl ww)), (qd, .inl (cA, 24, .inl dd_11))] H → va_D A [(b, .inr (5, [.ref s0, .ref s2, .ref t0, .ref d, .ref e0, .int run])), (s0, .inr (3, [.ref f])), (f, .inr (2, [.ref w, .int σ.2.1, .int σ.2.2])), (w, .inl (cA, 66, .inl σ.1)), (s2, .inr (3, [.ref f2])), (f2, .inr (2, [.ref w2, .int ρ.2.1, .int ρ.2.2])), (w2, .inl (cA, 66, .inl ρ.1)), (t0, .inr (4, [.int τ.1, .int τ.2.1, .int τ.2.2.1, .int τ.2.2.2.1, .int τ.2.2.2.2.1, .int τ.2.2.2.2.2])), (d, .inr (1, [.int δ_10.1, .ref db])), (db, .inl (cA, 24, .inl δ_10.2)), (e0, .inr (0, [.ref d, .ref s0])), (wa, .inl (cA, 64, .inl ww)), (qd, .inl (cA, 24, .inl dd_11))] → va_S A s.heap H locs → ∀ ls : Array Slot, lv_has ls 17 [(7, .long h7_9), (6, .int i6_8), (5, .int (1 + (p1 - p1 / 24 * 24))), (4, .ref qd), (0, .ref b), (1, .ref wa), (2, .int p0), (3, .int p1)] → W p l e (headSpec wsL_isDelta ({ frames := 9, cells := 26, slots := 174, locals := 165 })).room s m ([.ref b, .ref wa, .int p0, .int p1] : List Value).toArray below meth c H locs 25 168 (MQ below (va_Qi (fun r u => (r, u) = F_L_isDelta σ δ ww p0 p1 ∧ (r = 0 ∨ r = 1)) (fun u t => bx_at D (wBD cA b s0 f w s2 f2 w2 t0 d db e0 wa σ ρ τ u run ww) (A) t) (A)) ([.ref b, .ref wa, .int p0, .int p1] : List Value).toArray s 26 174 (A)) (F0 m 145 ls []) := by
      intro i6_8 h7_9 δ_10 dd_11 hx_12 H locs hP hD hS ls hl
      have hx36 := hx_12
      rw [es9] at hx36
      have hdd := drN_hx hby hz hs24 hd0 hx36
      refine lv_iconst (v := 0) hx hb dL_isDelta_145 (by decide) ?_
      refine lv_istore (lv' := [(9, .int 0), (7, .long h7_9), (6, .int i6_8), (5, .int (1 + (p1 - p1 / 24 * 24))), (4, .ref qd), (0, .ref b), (1, .ref wa), (2, .int p0), (3, .int p1)]) hx hb dL_isDelta_146 hl (by decide) rfl (fun ls hl => ?_)
      refine lv_iconst (v := 0) hx hb dL_isDelta_148 (by decide) ?_
      refine lv_istore (lv' := [(10, .int 0), (9, .int 0), (7, .long h7_9), (6, .int i6_8), (5, .int (1 + (p1 - p1 / 24 * 24))), (4, .ref qd), (0, .ref b), (1, .ref wa), (2, .int p0), (3, .int p1)]) hx hb dL_isDelta_149 hl (by decide) rfl (fun ls hl => ?_)
      have ex344 : ∀ (i6_13 : Int32) (k9_14 : Int32), (i6_13, k9_14) = pcL σ δ_10 ww dd_11 p0 (1 + (p1 - p1 / 24 * 24)).toNatClampNeg 24 i6_8 0 0 → ∀ (H : Heap) (locs : List Loc), va_P D vwCl [(b, .inr (5, [.ref s0, .ref s2, .ref t0, .ref d, .ref e0, .int run])), (s0, .inr (3, [.ref f])), (f, .inr (2, [.ref w, .int σ.2.1, .int σ.2.2])), (w, .inl (cA, 66, .inl σ.1)), (s2, .inr (3, [.ref f2])), (f2, .inr (2, [.ref w2, .int ρ.2.1, .int ρ.2.2])), (w2, .inl (cA, 66, .inl ρ.1)), (t0, .inr (4, [.int τ.1, .int τ.2.1, .int τ.2.2.1, .int τ.2.2.2.1, .int τ.2.2.2.2.1, .int τ.2.2.2.2.2])), (d, .inr (1, [.int δ_10.1, .ref db])), (db, .inl (cA, 24, .inl δ_10.2)), (e0, .inr (0, [.ref d, .ref s0])), (wa, .inl (cA, 64, .inl ww)), (qd, .inl (cA, 24, .inl dd_11))] H → va_D A [(b, .inr (5, [.ref s0, .ref s2, .ref t0, .ref d, .ref e0, .int run])), (s0, .inr (3, [.ref f])), (f, .inr (2, [.ref w, .int σ.2.1, .int σ.2.2])), (w, .inl (cA, 66, .inl σ.1)), (s2, .inr (3, [.ref f2])), (f2, .inr (2, [.ref w2, .int ρ.2.1, .int ρ.2.2])), (w2, .inl (cA, 66, .inl ρ.1)), (t0, .inr (4, [.int τ.1, .int τ.2.1, .int τ.2.2.1, .int τ.2.2.2.1, .int τ.2.2.2.2.1, .int τ.2.2.2.2.2])), (d, .inr (1, [.int δ_10.1, .ref db])), (db, .inl (cA, 24, .inl δ_10.2)), (e0, .inr (0, [.ref d, .ref s0])), (wa, .inl (cA, 64, .inl ww)), (qd, .inl (cA, 24, .inl dd_11))] → va_S A s.heap H locs → ∀ ls : Array Slot, lv_has ls 17 [(9, .int k9_14), (7, .long h7_9), (6, .int i6_13), (5, .int (1 + (p1 - p1 / 24 * 24))), (4, .ref qd), (0, .ref b), (1, .ref wa), (2, .int p0), (3, .int p1)] → W p l e (headSpec wsL_isDelta ({ frames := 9, cells := 26, slots := 174, locals := 165 })).room s m ([.ref b, .ref wa, .int p0, .int p1] : List Value).toArray below meth c H locs 25 168 (MQ below (va_Qi (fun r u => (r, u) = F_L_isDelta σ δ ww p0 p1 ∧ (r = 0 ∨ r = 1)) (fun u t => bx_at D (wBD cA b s0 f w s2 f2 w2 t0 d db e0 wa σ ρ τ u run ww) (A) t) (A)) ([.ref b, .ref wa, .int p0, .int p1] : List Value).toArray s 26 174 (A)) (F0 m 344 ls []) := by
        intro i6_13 k9_14 hx_15 H locs hP hD hS ls hl
        refine lv_iload hx hb dL_isDelta_344 (lv_at hl 2 rfl) ?_
        refine lv_if_eq (tgt := 373) hx hb dL_isDelta_346 (by decide) (fun c_16 => ?_) (fun c_16 => ?_)
        · skip
          refine lv_iconst (v := 0) hx hb dL_isDelta_373 (by decide) ?_
          refine W.widen (k := 26) (n := 174) (by omega) (by omega) ?_
          have hP := hP.sub (ws' := [(b, .inr (5, [.ref s0, .ref s2, .ref t0, .ref d, .ref e0, .int run])), (s0, .inr (3, [.ref f])), (f, .inr (2, [.ref w, .int σ.2.1, .int σ.2.2])), (w, .inl (cA, 66, .inl σ.1)), (s2, .inr (3, [.ref f2])), (f2, .inr (2, [.ref w2, .int ρ.2.1, .int ρ.2.2])), (w2, .inl (cA, 66, .inl ρ.1)), (t0, .inr (4, [.int τ.1, .int τ.2.1, .int τ.2.2.1, .int τ.2.2.2.1, .int τ.2.2.2.2.1, .int τ.2.2.2.2.2])), (d, .inr (1, [.int δ_10.1, .ref db])), (db, .inl (cA, 24, .inl δ_10.2)), (e0, .inr (0, [.ref d, .ref s0])), (wa, .inl (cA, 64, .inl ww))]) [0, 1, 2, 3, 4, 5, 6, 7, 8, 9, 10, 11] rfl
          have hD := hD.sub (ws' := [(b, .inr (5, [.ref s0, .ref s2, .ref t0, .ref d, .ref e0, .int run])), (s0, .inr (3, [.ref f])), (f, .inr (2, [.ref w, .int σ.2.1, .int σ.2.2])), (w, .inl (cA, 66, .inl σ.1)), (s2, .inr (3, [.ref f2])), (f2, .inr (2, [.ref w2, .int ρ.2.1, .int ρ.2.2])), (w2, .inl (cA, 66, .inl ρ.1)), (t0, .inr (4, [.int τ.1, .int τ.2.1, .int τ.2.2.1, .int τ.2.2.2.1, .int τ.2.2.2.2.1, .int τ.2.2.2.2.2])), (d, .inr (1, [.int δ_10.1, .ref db])), (db, .inl (cA, 24, .inl δ_10.2)), (e0, .inr (0, [.ref d, .ref s0])), (wa, .inl (cA, 64, .inl ww))]) [0, 1, 2, 3, 4, 5, 6, 7, 8, 9, 10, 11] (by decide) rfl
          exact W.zret (v := 0) hx hb hr rfl (fun t ht hW => ⟨⟨0, δ_10, rfl, ⟨(by simp only [F_L_isDelta, if_pos c_16, ← h_3, ← hx_12, ← hx_15]), (by decide)⟩, ⟨by rw [ht]; exact hP, hD⟩⟩, hS.F ht⟩) hS.2.2 dL_isDelta_374
        · skip
          refine lv_aload_n hx hb dL_isDelta_349 rfl (lv_at hl 5 rfl) ?_
          refine lv_iload_n hx hb dL_isDelta_350 rfl (lv_at hl 7 rfl) ?_
          refine bx_nri (dp_0 hs hst) (vx_runV (As := [.int p0]) (rest := []) ⟨hx, hb, hml, hown, hts⟩ (c_X5_deltaPieces l hl9 D cA b s0 f w s2 f2 w2 t0 d db e0 σ ρ τ δ_10 run p0) (cwV 1 hts gL_isDelta_X5_deltaPieces rfl rfl rfl (by decide +kernel) ⟨Nat.le_of_ble_eq_true rfl, Nat.le_of_ble_eq_true rfl⟩) (bx_pvrx (ci := 5) (q0 := 0) hK hG (bx_zn hZ0 hS) (hP.sub (ws' := [(b, .inr (5, [.ref s0, .ref s2, .ref t0, .ref d, .ref e0, .int run])), (s0, .inr (3, [.ref f])), (f, .inr (2, [.ref w, .int σ.2.1, .int σ.2.2])), (w, .inl (cA, 66, .inl σ.1)), (s2, .inr (3, [.ref f2])), (f2, .inr (2, [.ref w2, .int ρ.2.1, .int ρ.2.2])), (w2, .inl (cA, 66, .inl ρ.1)), (t0, .inr (4, [.int τ.1, .int τ.2.1, .int τ.2.2.1, .int τ.2.2.2.1, .int τ.2.2.2.2.1, .int τ.2.2.2.2.2])), (d, .inr (1, [.int δ_10.1, .ref db])), (db, .inl (cA, 24, .inl δ_10.2)), (e0, .inr (0, [.ref d, .ref s0]))]) [0, 1, 2, 3, 4, 5, 6, 7, 8, 9, 10] rfl) rfl rfl) rfl rfl hl.1 rfl (lv_room (Nat.le_of_ble_eq_true rfl)) dL_isDelta_351 ⟨show 25 + 1 ≤ 26 by omega, show 168 + 6 ≤ 174 by omega⟩) (fun r_17 h_18 => ?_)
          have h_18 := (congrArg Prod.snd h_18).symm
          subst h_18
          refine lv_iload hx hb dL_isDelta_354 (lv_at hl 0 rfl) ?_
          refine lv_icmp_ne (tgt := 373) hx hb dL_isDelta_356 (by decide) (fun c_19 => ?_) (fun c_19 => ?_)
          · skip
            refine lv_iconst (v := 0) hx hb dL_isDelta_373 (by decide) ?_
            refine W.widen (k := 26) (n := 174) (by omega) (by omega) ?_
            have hP := hP.sub (ws' := [(b, .inr (5, [.ref s0, .ref s2, .ref t0, .ref d, .ref e0, .int run])), (s0, .inr (3, [.ref f])), (f, .inr (2, [.ref w, .int σ.2.1, .int σ.2.2])), (w, .inl (cA, 66, .inl σ.1)), (s2, .inr (3, [.ref f2])), (f2, .inr (2, [.ref w2, .int ρ.2.1, .int ρ.2.2])), (w2, .inl (cA, 66, .inl ρ.1)), (t0, .inr (4, [.int τ.1, .int τ.2.1, .int τ.2.2.1, .int τ.2.2.2.1, .int τ.2.2.2.2.1, .int τ.2.2.2.2.2])), (d, .inr (1, [.int δ_10.1, .ref db])), (db, .inl (cA, 24, .inl δ_10.2)), (e0, .inr (0, [.ref d, .ref s0])), (wa, .inl (cA, 64, .inl ww))]) [0, 1, 2, 3, 4, 5, 6, 7, 8, 9, 10, 11] rfl
            have hD := hD.sub (ws' := [(b, .inr (5, [.ref s0, .ref s2, .ref t0, .ref d, .ref e0, .int run])), (s0, .inr (3, [.ref f])), (f, .inr (2, [.ref w, .int σ.2.1, .int σ.2.2])), (w, .inl (cA, 66, .inl σ.1)), (s2, .inr (3, [.ref f2])), (f2, .inr (2, [.ref w2, .int ρ.2.1, .int ρ.2.2])), (w2, .inl (cA, 66, .inl ρ.1)), (t0, .inr (4, [.int τ.1, .int τ.2.1, .int τ.2.2.1, .int τ.2.2.2.1, .int τ.2.2.2.2.1, .int τ.2.2.2.2.2])), (d, .inr (1, [.int δ_10.1, .ref db])), (db, .inl (cA, 24, .inl δ_10.2)), (e0, .inr (0, [.ref d, .ref s0])), (wa, .inl (cA, 64, .inl ww))]) [0, 1, 2, 3, 4, 5, 6, 7, 8, 9, 10, 11] (by decide) rfl
            exact W.zret (v := 0) hx hb hr rfl (fun t ht hW => ⟨⟨0, δ_10, rfl, ⟨(by simp only [F_L_isDelta, if_neg c_16, if_neg c_19, ← h_3, ← hx_12, ← hx_15]), (by decide)⟩, ⟨by rw [ht]; exact hP, hD⟩⟩, hS.F ht⟩) hS.2.2 dL_isDelta_374
          · skip
            refine lv_aload_n hx hb dL_isDelta_359 rfl (lv_at hl 5 rfl) ?_
            refine bx_ri (va_runV (As := []) (rest := []) ⟨hx, hb, hml, hown, hts⟩ (c_X5_draftHash l D cA b s0 f w s2 f2 w2 t0 d db e0 σ ρ τ δ_10 run) (cwV 0 hts gL_isDelta_X5_draftHash rfl rfl rfl (by decide +kernel) ⟨Nat.le_of_ble_eq_true rfl, Nat.le_of_ble_eq_true rfl⟩) (bx_pvr (ci := 5) (q0 := 0) hK hG (hP.sub (ws' := [(b, .inr (5, [.ref s0, .ref s2, .ref t0, .ref d, .ref e0, .int run])), (s0, .inr (3, [.ref f])), (f, .inr (2, [.ref w, .int σ.2.1, .int σ.2.2])), (w, .inl (cA, 66, .inl σ.1)), (s2, .inr (3, [.ref f2])), (f2, .inr (2, [.ref w2, .int ρ.2.1, .int ρ.2.2])), (w2, .inl (cA, 66, .inl ρ.1)), (t0, .inr (4, [.int τ.1, .int τ.2.1, .int τ.2.2.1, .int τ.2.2.2.1, .int τ.2.2.2.2.1, .int τ.2.2.2.2.2])), (d, .inr (1, [.int δ_10.1, .ref db])), (db, .inl (cA, 24, .inl δ_10.2)), (e0, .inr (0, [.ref d, .ref s0]))]) [0, 1, 2, 3, 4, 5, 6, 7, 8, 9, 10] rfl) rfl rfl) rfl rfl hl.1 rfl (lv_room (Nat.le_of_ble_eq_true rfl)) dL_isDelta_360 ⟨show 25 + 0 ≤ 26 by omega, show 168 + 0 ≤ 174 by omega⟩) (fun r_20 h_21 => ?_)
            have h_21 := h_21.symm
            subst h_21
            refine lv_lload hx hb dL_isDelta_363 (lv_at hl 1 rfl) ?_
            refine lv_l2i hx hb dL_isDelta_365 rfl ?_
            refine lv_icmp_ne (tgt := 373) hx hb dL_isDelta_366 (by decide) (fun c_22 => ?_) (fun c_22 => ?_)
            · skip
              refine lv_iconst (v := 0) hx hb dL_isDelta_373 (by decide) ?_
              refine W.widen (k := 26) (n := 174) (by omega) (by omega) ?_
              have hP := hP.sub (ws' := [(b, .inr (5, [.ref s0, .ref s2, .ref t0, .ref d, .ref e0, .int run])), (s0, .inr (3, [.ref f])), (f, .inr (2, [.ref w, .int σ.2.1, .int σ.2.2])), (w, .inl (cA, 66, .inl σ.1)), (s2, .inr (3, [.ref f2])), (f2, .inr (2, [.ref w2, .int ρ.2.1, .int ρ.2.2])), (w2, .inl (cA, 66, .inl ρ.1)), (t0, .inr (4, [.int τ.1, .int τ.2.1, .int τ.2.2.1, .int τ.2.2.2.1, .int τ.2.2.2.2.1, .int τ.2.2.2.2.2])), (d, .inr (1, [.int δ_10.1, .ref db])), (db, .inl (cA, 24, .inl δ_10.2)), (e0, .inr (0, [.ref d, .ref s0])), (wa, .inl (cA, 64, .inl ww))]) [0, 1, 2, 3, 4, 5, 6, 7, 8, 9, 10, 11] rfl
              have hD := hD.sub (ws' := [(b, .inr (5, [.ref s0, .ref s2, .ref t0, .ref d, .ref e0, .int run])), (s0, .inr (3, [.ref f])), (f, .inr (2, [.ref w, .int σ.2.1, .int σ.2.2])), (w, .inl (cA, 66, .inl σ.1)), (s2, .inr (3, [.ref f2])), (f2, .inr (2, [.ref w2, .int ρ.2.1, .int ρ.2.2])), (w2, .inl (cA, 66, .inl ρ.1)), (t0, .inr (4, [.int τ.1, .int τ.2.1, .int τ.2.2.1, .int τ.2.2.2.1, .int τ.2.2.2.2.1, .int τ.2.2.2.2.2])), (d, .inr (1, [.int δ_10.1, .ref db])), (db, .inl (cA, 24, .inl δ_10.2)), (e0, .inr (0, [.ref d, .ref s0])), (wa, .inl (cA, 64, .inl ww))]) [0, 1, 2, 3, 4, 5, 6, 7, 8, 9, 10, 11] (by decide) rfl
              exact W.zret (v := 0) hx hb hr rfl (fun t ht hW => ⟨⟨0, δ_10, rfl, ⟨(by simp only [F_L_isDelta, if_neg c_16, if_pos c_19, if_neg c_22, ← h_3, ← hx_12, ← hx_15]), (by decide)⟩, ⟨by rw [ht]; exact hP, hD⟩⟩, hS.F ht⟩) hS.2.2 dL_isDelta_374
            · skip
              refine lv_iconst (v := 1) hx hb dL_isDelta_369 (by decide) ?_
              refine lv_goto (tgt := 374) hx hb dL_isDelta_370 (by decide) ?_
              refine W.widen (k := 26) (n := 174) (by omega) (by omega) ?_
              have hP := hP.sub (ws' := [(b, .inr (5, [.ref s0, .ref s2, .ref t0, .ref d, .ref e0, .int run])), (s0, .inr (3, [.ref f])), (f, .inr (2, [.ref w, .int σ.2.1, .int σ.2.2])), (w, .inl (cA, 66, .inl σ.1)), (s2, .inr (3, [.ref f2])), (f2, .inr (2, [.ref w2, .int ρ.2.1, .int ρ.2.2])), (w2, .inl (cA, 66, .inl ρ.1)), (t0, .inr (4, [.int τ.1, .int τ.2.1, .int τ.2.2.1, .int τ.2.2.2.1, .int τ.2.2.2.2.1, .int τ.2.2.2.2.2])), (d, .inr (1, [.int δ_10.1, .ref db])), (db, .inl (cA, 24, .inl δ_10.2)), (e0, .inr (0, [.ref d, .ref s0])), (wa, .inl (cA, 64, .inl ww))]) [0, 1, 2, 3, 4, 5, 6, 7, 8, 9, 10, 11] rfl
              have hD := hD.sub (ws' := [(b, .inr (5, [.ref s0, .ref s2, .ref t0, .ref d, .ref e0, .int run])), (s0, .inr (3, [.ref f])), (f, .inr (2, [.ref w, .int σ.2.1, .int σ.2.2])), (w, .inl (cA, 66, .inl σ.1)), (s2, .inr (3, [.ref f2])), (f2, .inr (2, [.ref w2, .int ρ.2.1, .int ρ.2.2])), (w2, .inl (cA, 66, .inl ρ.1)), (t0, .inr (4, [.int τ.1, .int τ.2.1, .int τ.2.2.1, .int τ.2.2.2.1, .int τ.2.2.2.2.1, .int τ.2.2.2.2.2])), (d, .inr (1, [.int δ_10.1, .ref db])), (db, .inl (cA, 24, .inl δ_10.2)), (e0, .inr (0, [.ref d, .ref s0])), (wa, .inl (cA, 64, .inl ww))]) [0, 1, 2, 3, 4, 5, 6, 7, 8, 9, 10, 11] (by decide) rfl
              exact W.zret (v := 1) hx hb hr rfl (fun t ht hW => ⟨⟨1, δ_10, rfl, ⟨(by simp only [F_L_isDelta, if_neg c_16, if_pos c_19, if_pos c_22, ← h_3, ← hx_12, ← hx_15]), (by decide)⟩, ⟨by rw [ht]; exact hP, hD⟩⟩, hS.F ht⟩) hS.2.2 dL_isDelta_374
      have loop151 : ∀ (n : Nat) (j9 : Nat) (pl10 : Nat) (i6 : Int32) (k9 : Int32) (k10 : Int32), s9 - pl10 < n → (k9 = nI j9) → (k10 = nI pl10) → (j9 ≤ pl10) → (pl10 ≤ s9) → (pcL σ δ_10 ww dd_11 p0 s9 (24 - j9) i6 j9 pl10 = pcL σ δ_10 ww dd_11 p0 s9 24 i6_8 0 0) → (i6 = 0 ∨ psN (fun st => F_X0_pieceLength δ_10 σ p0 st) δ_10.1 j9 0 = k10) → (i6 = 0 ∨ δ_10.1 = nI s9) → ∀ (H : Heap) (locs : List Loc), va_P D vwCl [(b, .inr (5, [.ref s0, .ref s2, .ref t0, .ref d, .ref e0, .int run])), (s0, .inr (3, [.ref f])), (f, .inr (2, [.ref w, .int σ.2.1, .int σ.2.2])), (w, .inl (cA, 66, .inl σ.1)), (s2, .inr (3, [.ref f2])), (f2, .inr (2, [.ref w2, .int ρ.2.1, .int ρ.2.2])), (w2, .inl (cA, 66, .inl ρ.1)), (t0, .inr (4, [.int τ.1, .int τ.2.1, .int τ.2.2.1, .int τ.2.2.2.1, .int τ.2.2.2.2.1, .int τ.2.2.2.2.2])), (d, .inr (1, [.int δ_10.1, .ref db])), (db, .inl (cA, 24, .inl δ_10.2)), (e0, .inr (0, [.ref d, .ref s0])), (wa, .inl (cA, 64, .inl ww)), (qd, .inl (cA, 24, .inl dd_11))] H → va_D A [(b, .inr (5, [.ref s0, .ref s2, .ref t0, .ref d, .ref e0, .int run])), (s0, .inr (3, [.ref f])), (f, .inr (2, [.ref w, .int σ.2.1, .int σ.2.2])), (w, .inl (cA, 66, .inl σ.1)), (s2, .inr (3, [.ref f2])), (f2, .inr (2, [.ref w2, .int ρ.2.1, .int ρ.2.2])), (w2, .inl (cA, 66, .inl ρ.1)), (t0, .inr (4, [.int τ.1, .int τ.2.1, .int τ.2.2.1, .int τ.2.2.2.1, .int τ.2.2.2.2.1, .int τ.2.2.2.2.2])), (d, .inr (1, [.int δ_10.1, .ref db])), (db, .inl (cA, 24, .inl δ_10.2)), (e0, .inr (0, [.ref d, .ref s0])), (wa, .inl (cA, 64, .inl ww)), (qd, .inl (cA, 24, .inl dd_11))] → va_S A s.heap H locs → ∀ (ls : Array Slot), lv_has ls 17 [(10, .int k10), (9, .int k9), (7, .long h7_9), (6, .int i6), (5, .int (1 + (p1 - p1 / 24 * 24))), (4, .ref qd), (0, .ref b), (1, .ref wa), (2, .int p0), (3, .int p1)] → W p l e (headSpec wsL_isDelta ({ frames := 9, cells := 26, slots := 174, locals := 165 })).room s m ([.ref b, .ref wa, .int p0, .int p1] : List Value).toArray below meth c H locs 25 168 (MQ below (va_Qi (fun r u => (r, u) = F_L_isDelta σ δ ww p0 p1 ∧ (r = 0 ∨ r = 1)) (fun u t => bx_at D (wBD cA b s0 f w s2 f2 w2 t0 d db e0 wa σ ρ τ u run ww) (A) t) (A)) ([.ref b, .ref wa, .int p0, .int p1] : List Value).toArray s 26 174 (A)) (F0 m 151 ls []) := by
        intro n
        induction n with
        | zero =>
          intro j9 pl10 i6 k9 k10 h_f ik9 ik10 ij9 ipl ie9 ips iz H locs hP hD hS ls hl
          exact absurd h_f (Nat.not_lt_zero _)
        | succ n ih151 =>
          intro j9 pl10 i6 k9 k10 h_f ik9 ik10 ij9 ipl ie9 ips iz H locs hP hD hS ls hl
          refine lv_iload hx hb dL_isDelta_151 (lv_at hl 0 rfl) ?_
          refine lv_iload hx hb dL_isDelta_153 (lv_at hl 4 rfl) ?_
          refine lv_icmp_ge (tgt := 344) hx hb dL_isDelta_155 (by decide) (fun c_23 => ?_) (fun c_23 => ?_)
          · skip
            have hq9 : s9 ≤ pl10 := (nI_leI (by omega) (by omega)).mp (by have h9 := c_23; rw [hs9, ik10] at h9; exact h9)
            exact ex344 i6 k9 (by rw [es9, ← ie9, pcL_end hq9, ik9]) _ _ hP hD hS ls (lv_sub hl [1, 2, 3, 4, 5, 6, 7, 8, 9] rfl)
          · skip
            have hpl : pl10 < s9 := Nat.lt_of_not_le (fun h => c_23 (by rw [hs9, ik10]; exact nI_le h (by omega)))
            refine lv_iload hx hb dL_isDelta_158 (lv_at hl 3 rfl) ?_
            refine lv_if_eq (tgt := 344) hx hb dL_isDelta_160 (by decide) (fun c_24 => ?_) (fun c_24 => ?_)
            · skip
              exact ex344 i6 k9 (by rw [es9, ← ie9, pcL_is c_24, ik9]) _ _ hP hD hS ls (lv_sub hl [1, 2, 3, 4, 5, 6, 7, 8, 9] rfl)
            · skip
              have hpsn := ips.resolve_left c_24
              have hz9 := iz.resolve_left c_24
              have hpst := pst_eq ik9 (by omega) hpsn hz9 ik10 hpl hs24
              refine lv_iconst (v := (-1)) hx hb dL_isDelta_163 (by decide) ?_
              refine lv_istore (lv' := [(11, .int (-1)), (10, .int k10), (9, .int k9), (7, .long h7_9), (6, .int i6), (5, .int (1 + (p1 - p1 / 24 * 24))), (4, .ref qd), (0, .ref b), (1, .ref wa), (2, .int p0), (3, .int p1)]) hx hb dL_isDelta_164 hl (by decide) rfl (fun ls hl => ?_)
              refine lv_iconst (v := 1) hx hb dL_isDelta_166 (by decide) ?_
              refine lv_istore (lv' := [(12, .int 1), (11, .int (-1)), (10, .int k10), (9, .int k9), (7, .long h7_9), (6, .int i6), (5, .int (1 + (p1 - p1 / 24 * 24))), (4, .ref qd), (0, .ref b), (1, .ref wa), (2, .int p0), (3, .int p1)]) hx hb dL_isDelta_167 hl (by decide) rfl (fun ls hl => ?_)
              refine lv_iconst (v := 2) hx hb dL_isDelta_169 (by decide) ?_
              refine lv_istore (lv' := [(13, .int 2), (12, .int 1), (11, .int (-1)), (10, .int k10), (9, .int k9), (7, .long h7_9), (6, .int i6), (5, .int (1 + (p1 - p1 / 24 * 24))), (4, .ref qd), (0, .ref b), (1, .ref wa), (2, .int p0), (3, .int p1)]) hx hb dL_isDelta_170 hl (by decide) rfl (fun ls hl => ?_)
              have ex300 : ∀ (k11_25 : Int32) (k12_26 : Int32), (k11_25, k12_26) = mnN (gxN ww dd_11 p0 k10) (s9 - pl10 - 1) 2 (-1) 1 → ∀ (H : Heap) (locs : List Loc), va_P D vwCl [(b, .inr (5, [.ref s0, .ref s2, .ref t0, .ref d, .ref e0, .int run])), (s0, .inr (3, [.ref f])), (f, .inr (2, [.ref w, .int σ.2.1, .int σ.2.2])), (w, .inl (cA, 66, .inl σ.1)), (s2, .inr (3, [.ref f2])), (f2, .inr (2, [.ref w2, .int ρ.2.1, .int ρ.2.2])), (w2, .inl (cA, 66, .inl ρ.1)), (t0, .inr (4, [.int τ.1, .int τ.2.1, .int τ.2.2.1, .int τ.2.2.2.1, .int τ.2.2.2.2.1, .int τ.2.2.2.2.2])), (d, .inr (1, [.int δ_10.1, .ref db])), (db, .inl (cA, 24, .inl δ_10.2)), (e0, .inr (0, [.ref d, .ref s0])), (wa, .inl (cA, 64, .inl ww)), (qd, .inl (cA, 24, .inl dd_11))] H → va_D A [(b, .inr (5, [.ref s0, .ref s2, .ref t0, .ref d, .ref e0, .int run])), (s0, .inr (3, [.ref f])), (f, .inr (2, [.ref w, .int σ.2.1, .int σ.2.2])), (w, .inl (cA, 66, .inl σ.1)), (s2, .inr (3, [.ref f2])), (f2, .inr (2, [.ref w2, .int ρ.2.1, .int ρ.2.2])), (w2, .inl (cA, 66, .inl ρ.1)), (t0, .inr (4, [.int τ.1, .int τ.2.1, .int τ.2.2.1, .int τ.2.2.2.1, .int τ.2.2.2.2.1, .int τ.2.2.2.2.2])), (d, .inr (1, [.int δ_10.1, .ref db])), (db, .inl (cA, 24, .inl δ_10.2)), (e0, .inr (0, [.ref d, .ref s0])), (wa, .inl (cA, 64, .inl ww)), (qd, .inl (cA, 24, .inl dd_11))] → va_S A s.heap H locs → ∀ ls : Array Slot, lv_has ls 17 [(12, .int k12_26), (11, .int k11_25), (10, .int k10), (9, .int k9), (7, .long h7_9), (6, .int i6), (5, .int (1 + (p1 - p1 / 24 * 24))), (4, .ref qd), (0, .ref b), (1, .ref wa), (2, .int p0), (3, .int p1)] → W p l e (headSpec wsL_isDelta ({ frames := 9, cells := 26, slots := 174, locals := 165 })).room s m ([.ref b, .ref wa, .int p0, .int p1] : List Value).toArray below meth c H locs 25 168 (MQ below (va_Qi (fun r u => (r, u) = F_L_isDelta σ δ ww p0 p1 ∧ (r = 0 ∨ r = 1)) (fun u t => bx_at D (wBD cA b s0 f w s2 f2 w2 t0 d db e0 wa σ ρ τ u run ww) (A) t) (A)) ([.ref b, .ref wa, .int p0, .int p1] : List Value).toArray s 26 174 (A)) (F0 m 300 ls []) := by
                intro k11_25 k12_26 hx_27 H locs hP hD hS ls hl
                have jn329 : ∀ v : Int32, v = (F_L_isDelta_j329 σ δ_10 p0 k9 k12_26 k11_25) → ∀ ls : Array Slot, lv_has ls 17 [(12, .int k12_26), (11, .int k11_25), (10, .int k10), (9, .int k9), (7, .long h7_9), (6, .int i6), (5, .int (1 + (p1 - p1 / 24 * 24))), (4, .ref qd), (0, .ref b), (1, .ref wa), (2, .int p0), (3, .int p1)] → W p l e (headSpec wsL_isDelta ({ frames := 9, cells := 26, slots := 174, locals := 165 })).room s m ([.ref b, .ref wa, .int p0, .int p1] : List Value).toArray below meth c H locs 25 168 (MQ below (va_Qi (fun r u => (r, u) = F_L_isDelta σ δ ww p0 p1 ∧ (r = 0 ∨ r = 1)) (fun u t => bx_at D (wBD cA b s0 f w s2 f2 w2 t0 d db e0 wa σ ρ τ u run ww) (A) t) (A)) ([.ref b, .ref wa, .int p0, .int p1] : List Value).toArray s 26 174 (A)) (F0 m 329 ls [.int v]) := by
                  intro v hv ls hl
                  subst hv
                  obtain ⟨c12, ec12, h1c, h2c⟩ := mnN_hx hpl hx_27
                  refine lv_istore (lv' := [(6, .int (F_L_isDelta_j329 σ δ_10 p0 k9 k12_26 k11_25)), (12, .int k12_26), (11, .int k11_25), (10, .int k10), (9, .int k9), (7, .long h7_9), (5, .int (1 + (p1 - p1 / 24 * 24))), (4, .ref qd), (0, .ref b), (1, .ref wa), (2, .int p0), (3, .int p1)]) hx hb dL_isDelta_329 hl (by decide) rfl (fun ls hl => ?_)
                  refine lv_iload hx hb dL_isDelta_331 (lv_at hl 3 rfl) ?_
                  refine lv_iload hx hb dL_isDelta_333 (lv_at hl 1 rfl) ?_
                  refine lv_iadd hx hb dL_isDelta_335 ?_
                  refine lv_istore (lv' := [(10, .int (k10 + k12_26)), (6, .int (F_L_isDelta_j329 σ δ_10 p0 k9 k12_26 k11_25)), (12, .int k12_26), (11, .int k11_25), (9, .int k9), (7, .long h7_9), (5, .int (1 + (p1 - p1 / 24 * 24))), (4, .ref qd), (0, .ref b), (1, .ref wa), (2, .int p0), (3, .int p1)]) hx hb dL_isDelta_336 hl (by decide) rfl (fun ls hl => ?_)
                  refine lv_iinc (v := (k9 + 1)) (lv' := [(9, .int (k9 + 1)), (10, .int (k10 + k12_26)), (6, .int (F_L_isDelta_j329 σ δ_10 p0 k9 k12_26 k11_25)), (12, .int k12_26), (11, .int k11_25), (7, .long h7_9), (5, .int (1 + (p1 - p1 / 24 * 24))), (4, .ref qd), (0, .ref b), (1, .ref wa), (2, .int p0), (3, .int p1)]) hx hb dL_isDelta_338 hl (k := 4) rfl rfl (by decide) rfl (fun ls hl => ?_)
                  refine lv_goto (tgt := 151) hx hb dL_isDelta_341 (by decide) ?_
                  exact ih151 (j9 + 1) (pl10 + c12) (F_L_isDelta_j329 σ δ_10 p0 k9 k12_26 k11_25) (k9 + 1) (k10 + k12_26) (by omega) (by rw [ik9]; exact nI_1 j9) (by rw [ik10, ec12, nI_add]) (by omega) (by omega) (by rw [← ie9, (show 24 - j9 = (24 - (j9 + 1)) + 1 by omega), pcL, if_neg (show ¬ s9 ≤ pl10 by omega), if_neg c_24, ← ik10, ← ik9, ← hx_27, (show (k12_26).toNatClampNeg = c12 by rw [ec12, nI_clamp (by omega)])]) (ps_next hs hst hpst ik10 hz9 hpl hs24 hpsn) (Or.inr hz9) _ _ hP hD hS ls (lv_sub hl [1, 0, 5, 2, 6, 7, 8, 9, 10, 11] rfl)
                refine lv_aload_n hx hb dL_isDelta_300 rfl (lv_at hl 8 rfl) ?_
                refine lv_iload_n hx hb dL_isDelta_301 rfl (lv_at hl 10 rfl) ?_
                refine lv_iload hx hb dL_isDelta_302 (lv_at hl 3 rfl) ?_
                refine bx_nri (dl_0 hs hst hpst ik10 (by omega)) (vx_runV (As := [.int p0, .int k9]) (rest := []) ⟨hx, hb, hml, hown, hts⟩ (c_X5_deltaLength l hl9 D cA b s0 f w s2 f2 w2 t0 d db e0 σ ρ τ δ_10 run p0 k9) (cwV 2 hts gL_isDelta_X5_deltaLength rfl rfl rfl (by decide +kernel) ⟨Nat.le_of_ble_eq_true rfl, Nat.le_of_ble_eq_true rfl⟩) (bx_pvrx (ci := 5) (q0 := 0) hK hG (bx_zn hZ0 hS) (hP.sub (ws' := [(b, .inr (5, [.ref s0, .ref s2, .ref t0, .ref d, .ref e0, .int run])), (s0, .inr (3, [.ref f])), (f, .inr (2, [.ref w, .int σ.2.1, .int σ.2.2])), (w, .inl (cA, 66, .inl σ.1)), (s2, .inr (3, [.ref f2])), (f2, .inr (2, [.ref w2, .int ρ.2.1, .int ρ.2.2])), (w2, .inl (cA, 66, .inl ρ.1)), (t0, .inr (4, [.int τ.1, .int τ.2.1, .int τ.2.2.1, .int τ.2.2.2.1, .int τ.2.2.2.2.1, .int τ.2.2.2.2.2])), (d, .inr (1, [.int δ_10.1, .ref db])), (db, .inl (cA, 24, .inl δ_10.2)), (e0, .inr (0, [.ref d, .ref s0]))]) [0, 1, 2, 3, 4, 5, 6, 7, 8, 9, 10] rfl) rfl rfl) rfl rfl hl.1 rfl (lv_room (Nat.le_of_ble_eq_true rfl)) dL_isDelta_304 ⟨show 25 + 1 ≤ 26 by omega, show 168 + 6 ≤ 174 by omega⟩) (fun r_28 h_29 => ?_)
                have h_29 := (congrArg Prod.snd h_29).symm
                subst h_29
                refine lv_iload hx hb dL_isDelta_307 (lv_at hl 0 rfl) ?_
                refine lv_icmp_ne (tgt := 328) hx hb dL_isDelta_309 (by decide) (fun c_30 => ?_) (fun c_30 => ?_)
                · skip
                  refine lv_iconst (v := 0) hx hb dL_isDelta_328 (by decide) ?_
                  exact jn329 _ (by simp only [F_L_isDelta_j329, if_neg c_30]) ls (lv_sub hl [0, 1, 2, 3, 4, 5, 6, 7, 8, 9, 10, 11] rfl)
                · skip
                  refine lv_aload_n hx hb dL_isDelta_312 rfl (lv_at hl 8 rfl) ?_
                  refine lv_iload_n hx hb dL_isDelta_313 rfl (lv_at hl 10 rfl) ?_
                  refine lv_iload hx hb dL_isDelta_314 (lv_at hl 3 rfl) ?_
                  refine bx_nri (df_0 hs hst hpst ik10 (by omega)) (vx_runV (As := [.int p0, .int k9]) (rest := []) ⟨hx, hb, hml, hown, hts⟩ (c_X5_deltaFrom l hl9 D cA b s0 f w s2 f2 w2 t0 d db e0 σ ρ τ δ_10 run p0 k9) (cwV 2 hts gL_isDelta_X5_deltaFrom rfl rfl rfl (by decide +kernel) ⟨Nat.le_of_ble_eq_true rfl, Nat.le_of_ble_eq_true rfl⟩) (bx_pvrx (ci := 5) (q0 := 0) hK hG (bx_zn hZ0 hS) (hP.sub (ws' := [(b, .inr (5, [.ref s0, .ref s2, .ref t0, .ref d, .ref e0, .int run])), (s0, .inr (3, [.ref f])), (f, .inr (2, [.ref w, .int σ.2.1, .int σ.2.2])), (w, .inl (cA, 66, .inl σ.1)), (s2, .inr (3, [.ref f2])), (f2, .inr (2, [.ref w2, .int ρ.2.1, .int ρ.2.2])), (w2, .inl (cA, 66, .inl ρ.1)), (t0, .inr (4, [.int τ.1, .int τ.2.1, .int τ.2.2.1, .int τ.2.2.2.1, .int τ.2.2.2.2.1, .int τ.2.2.2.2.2])), (d, .inr (1, [.int δ_10.1, .ref db])), (db, .inl (cA, 24, .inl δ_10.2)), (e0, .inr (0, [.ref d, .ref s0]))]) [0, 1, 2, 3, 4, 5, 6, 7, 8, 9, 10] rfl) rfl rfl) rfl rfl hl.1 rfl (lv_room (Nat.le_of_ble_eq_true rfl)) dL_isDelta_316 ⟨show 25 + 1 ≤ 26 by omega, show 168 + 6 ≤ 174 by omega⟩) (fun r_31 h_32 => ?_)
                  have h_32 := (congrArg Prod.snd h_32).symm
                  subst h_32
                  refine lv_iload hx hb dL_isDelta_319 (lv_at hl 1 rfl) ?_
                  refine lv_icmp_ne (tgt := 328) hx hb dL_isDelta_321 (by decide) (fun c_33 => ?_) (fun c_33 => ?_)
                  · skip
                    refine lv_iconst (v := 0) hx hb dL_isDelta_328 (by decide) ?_
                    exact jn329 _ (by simp only [F_L_isDelta_j329, if_pos c_30, if_neg c_33]) ls (lv_sub hl [0, 1, 2, 3, 4, 5, 6, 7, 8, 9, 10, 11] rfl)
                  · skip
                    refine lv_iconst (v := 1) hx hb dL_isDelta_324 (by decide) ?_
                    refine lv_goto (tgt := 329) hx hb dL_isDelta_325 (by decide) ?_
                    exact jn329 _ (by simp only [F_L_isDelta_j329, if_pos c_30, if_pos c_33]) ls (lv_sub hl [0, 1, 2, 3, 4, 5, 6, 7, 8, 9, 10, 11] rfl)
              have loop172 : ∀ (n : Nat) (m13 : Nat) (k11 : Int32) (k12 : Int32) (k13 : Int32), 26 - m13 < n → (k13 = nI m13) → (2 ≤ m13) → (m13 ≤ s9 - pl10 + 1) → (mnN (gxN ww dd_11 p0 k10) (s9 - pl10 + 1 - m13) m13 k11 k12 = mnN (gxN ww dd_11 p0 k10) (s9 - pl10 - 1) 2 (-1) 1) → ∀ (H : Heap) (locs : List Loc), va_P D vwCl [(b, .inr (5, [.ref s0, .ref s2, .ref t0, .ref d, .ref e0, .int run])), (s0, .inr (3, [.ref f])), (f, .inr (2, [.ref w, .int σ.2.1, .int σ.2.2])), (w, .inl (cA, 66, .inl σ.1)), (s2, .inr (3, [.ref f2])), (f2, .inr (2, [.ref w2, .int ρ.2.1, .int ρ.2.2])), (w2, .inl (cA, 66, .inl ρ.1)), (t0, .inr (4, [.int τ.1, .int τ.2.1, .int τ.2.2.1, .int τ.2.2.2.1, .int τ.2.2.2.2.1, .int τ.2.2.2.2.2])), (d, .inr (1, [.int δ_10.1, .ref db])), (db, .inl (cA, 24, .inl δ_10.2)), (e0, .inr (0, [.ref d, .ref s0])), (wa, .inl (cA, 64, .inl ww)), (qd, .inl (cA, 24, .inl dd_11))] H → va_D A [(b, .inr (5, [.ref s0, .ref s2, .ref t0, .ref d, .ref e0, .int run])), (s0, .inr (3, [.ref f])), (f, .inr (2, [.ref w, .int σ.2.1, .int σ.2.2])), (w, .inl (cA, 66, .inl σ.1)), (s2, .inr (3, [.ref f2])), (f2, .inr (2, [.ref w2, .int ρ.2.1, .int ρ.2.2])), (w2, .inl (cA, 66, .inl ρ.1)), (t0, .inr (4, [.int τ.1, .int τ.2.1, .int τ.2.2.1, .int τ.2.2.2.1, .int τ.2.2.2.2.1, .int τ.2.2.2.2.2])), (d, .inr (1, [.int δ_10.1, .ref db])), (db, .inl (cA, 24, .inl δ_10.2)), (e0, .inr (0, [.ref d, .ref s0])), (wa, .inl (cA, 64, .inl ww)), (qd, .inl (cA, 24, .inl dd_11))] → va_S A s.heap H locs → ∀ (ls : Array Slot), lv_has ls 17 [(13, .int k13), (12, .int k12), (11, .int k11), (10, .int k10), (9, .int k9), (7, .long h7_9), (6, .int i6), (5, .int (1 + (p1 - p1 / 24 * 24))), (4, .ref qd), (0, .ref b), (1, .ref wa), (2, .int p0), (3, .int p1)] → W p l e (headSpec wsL_isDelta ({ frames := 9, cells := 26, slots := 174, locals := 165 })).room s m ([.ref b, .ref wa, .int p0, .int p1] : List Value).toArray below meth c H locs 25 168 (MQ below (va_Qi (fun r u => (r, u) = F_L_isDelta σ δ ww p0 p1 ∧ (r = 0 ∨ r = 1)) (fun u t => bx_at D (wBD cA b s0 f w s2 f2 w2 t0 d db e0 wa σ ρ τ u run ww) (A) t) (A)) ([.ref b, .ref wa, .int p0, .int p1] : List Value).toArray s 26 174 (A)) (F0 m 172 ls []) := by
                intro n
                induction n with
                | zero =>
                  intro m13 k11 k12 k13 h_f ik13 im2 im3 ie13 H locs hP hD hS ls hl
                  exact absurd h_f (Nat.not_lt_zero _)
                | succ n ih172 =>
                  intro m13 k11 k12 k13 h_f ik13 im2 im3 ie13 H locs hP hD hS ls hl
                  refine lv_iload hx hb dL_isDelta_172 (lv_at hl 3 rfl) ?_
                  refine lv_iload hx hb dL_isDelta_174 (lv_at hl 0 rfl) ?_
                  refine lv_iadd hx hb dL_isDelta_176 ?_
                  refine lv_iload hx hb dL_isDelta_177 (lv_at hl 7 rfl) ?_
                  refine lv_icmp_gt (tgt := 300) hx hb dL_isDelta_179 (by decide) (fun c_34 => ?_) (fun c_34 => ?_)
                  · skip
                    have hq9 : s9 < pl10 + m13 := Nat.lt_of_not_le (fun h => nI_nlt (a := s9) (b := pl10 + m13) h (by omega) (by have h9 := c_34; rw [hs9, ik10, ik13, nI_add] at h9; exact h9))
                    exact ex300 k11 k12 (by rw [← ie13, (show s9 - pl10 + 1 - m13 = 0 by omega), mnN]) _ _ hP hD hS ls (lv_sub hl [1, 2, 3, 4, 5, 6, 7, 8, 9, 10, 11, 12] rfl)
                  · skip
                    have hm13 : pl10 + m13 ≤ s9 := Nat.le_of_not_lt (fun h => c_34 (by rw [hs9, ik10, ik13, nI_add]; exact nI_lt h (by omega)))
                    have e13 : k13.toNatClampNeg = m13 := by rw [ik13, nI_clamp (by omega)]
                    obtain ⟨hat1, hat2⟩ := at0 hlen ik13 (by omega)
                    refine lv_iconst (v := (-1)) hx hb dL_isDelta_182 (by decide) ?_
                    refine lv_istore (lv' := [(14, .int (-1)), (13, .int k13), (12, .int k12), (11, .int k11), (10, .int k10), (9, .int k9), (7, .long h7_9), (6, .int i6), (5, .int (1 + (p1 - p1 / 24 * 24))), (4, .ref qd), (0, .ref b), (1, .ref wa), (2, .int p0), (3, .int p1)]) hx hb dL_isDelta_183 hl (by decide) rfl (fun ls hl => ?_)
                    refine lv_aload_n hx hb dL_isDelta_185 rfl (lv_at hl 11 rfl) ?_
                    refine lv_bipush (v := 32) hx hb dL_isDelta_186 (by decide) ?_
                    refine lv_iload_n hx hb dL_isDelta_188 rfl (lv_at hl 12 rfl) ?_
                    refine lv_imul hx hb dL_isDelta_189 ?_
                    refine lv_iconst (v := 2) hx hb dL_isDelta_190 (by decide) ?_
                    refine lv_iadd hx hb dL_isDelta_191 ?_
                    refine bx_ald (D := D) hx hb hK hP 11 0 rfl rfl (ixk hs v2) dL_isDelta_192 ?_
                    refine lv_iload hx hb dL_isDelta_193 (lv_at hl 1 rfl) ?_
                    refine lv_isub hx hb dL_isDelta_195 ?_
                    refine lv_istore (lv' := [(15, .int ((rd ww ((32 * p0) + 2)) - k13)), (14, .int (-1)), (13, .int k13), (12, .int k12), (11, .int k11), (10, .int k10), (9, .int k9), (7, .long h7_9), (6, .int i6), (5, .int (1 + (p1 - p1 / 24 * 24))), (4, .ref qd), (0, .ref b), (1, .ref wa), (2, .int p0), (3, .int p1)]) hx hb dL_isDelta_196 hl (by decide) rfl (fun ls hl => ?_)
                    have ex266 : ∀ (k14_35 : Int32), k14_35 = fdN (fdG ww dd_11 p0 k10 k13) (((rd ww ((32 * p0) + 2)) - k13).toInt + 1).toNat (-1) → ∀ (H : Heap) (locs : List Loc), va_P D vwCl [(b, .inr (5, [.ref s0, .ref s2, .ref t0, .ref d, .ref e0, .int run])), (s0, .inr (3, [.ref f])), (f, .inr (2, [.ref w, .int σ.2.1, .int σ.2.2])), (w, .inl (cA, 66, .inl σ.1)), (s2, .inr (3, [.ref f2])), (f2, .inr (2, [.ref w2, .int ρ.2.1, .int ρ.2.2])), (w2, .inl (cA, 66, .inl ρ.1)), (t0, .inr (4, [.int τ.1, .int τ.2.1, .int τ.2.2.1, .int τ.2.2.2.1, .int τ.2.2.2.2.1, .int τ.2.2.2.2.2])), (d, .inr (1, [.int δ_10.1, .ref db])), (db, .inl (cA, 24, .inl δ_10.2)), (e0, .inr (0, [.ref d, .ref s0])), (wa, .inl (cA, 64, .inl ww)), (qd, .inl (cA, 24, .inl dd_11))] H → va_D A [(b, .inr (5, [.ref s0, .ref s2, .ref t0, .ref d, .ref e0, .int run])), (s0, .inr (3, [.ref f])), (f, .inr (2, [.ref w, .int σ.2.1, .int σ.2.2])), (w, .inl (cA, 66, .inl σ.1)), (s2, .inr (3, [.ref f2])), (f2, .inr (2, [.ref w2, .int ρ.2.1, .int ρ.2.2])), (w2, .inl (cA, 66, .inl ρ.1)), (t0, .inr (4, [.int τ.1, .int τ.2.1, .int τ.2.2.1, .int τ.2.2.2.1, .int τ.2.2.2.2.1, .int τ.2.2.2.2.2])), (d, .inr (1, [.int δ_10.1, .ref db])), (db, .inl (cA, 24, .inl δ_10.2)), (e0, .inr (0, [.ref d, .ref s0])), (wa, .inl (cA, 64, .inl ww)), (qd, .inl (cA, 24, .inl dd_11))] → va_S A s.heap H locs → ∀ ls : Array Slot, lv_has ls 17 [(14, .int k14_35), (13, .int k13), (12, .int k12), (11, .int k11), (10, .int k10), (9, .int k9), (7, .long h7_9), (6, .int i6), (5, .int (1 + (p1 - p1 / 24 * 24))), (4, .ref qd), (0, .ref b), (1, .ref wa), (2, .int p0), (3, .int p1)] → W p l e (headSpec wsL_isDelta ({ frames := 9, cells := 26, slots := 174, locals := 165 })).room s m ([.ref b, .ref wa, .int p0, .int p1] : List Value).toArray below meth c H locs 25 168 (MQ below (va_Qi (fun r u => (r, u) = F_L_isDelta σ δ ww p0 p1 ∧ (r = 0 ∨ r = 1)) (fun u t => bx_at D (wBD cA b s0 f w s2 f2 w2 t0 d db e0 wa σ ρ τ u run ww) (A) t) (A)) ([.ref b, .ref wa, .int p0, .int p1] : List Value).toArray s 26 174 (A)) (F0 m 266 ls []) := by
                      intro k14_35 hx_36 H locs hP hD hS ls hl
                      have jn278 : ∀ v : Int32, v = (F_L_isDelta_j278 k14_35 k11) → ∀ ls : Array Slot, lv_has ls 17 [(14, .int k14_35), (13, .int k13), (12, .int k12), (11, .int k11), (10, .int k10), (9, .int k9), (7, .long h7_9), (6, .int i6), (5, .int (1 + (p1 - p1 / 24 * 24))), (4, .ref qd), (0, .ref b), (1, .ref wa), (2, .int p0), (3, .int p1)] → W p l e (headSpec wsL_isDelta ({ frames := 9, cells := 26, slots := 174, locals := 165 })).room s m ([.ref b, .ref wa, .int p0, .int p1] : List Value).toArray below meth c H locs 25 168 (MQ below (va_Qi (fun r u => (r, u) = F_L_isDelta σ δ ww p0 p1 ∧ (r = 0 ∨ r = 1)) (fun u t => bx_at D (wBD cA b s0 f w s2 f2 w2 t0 d db e0 wa σ ρ τ u run ww) (A) t) (A)) ([.ref b, .ref wa, .int p0, .int p1] : List Value).toArray s 26 174 (A)) (F0 m 278 ls [.int v]) := by
                        intro v hv ls hl
                        subst hv
                        refine lv_istore (lv' := [(11, .int (F_L_isDelta_j278 k14_35 k11)), (14, .int k14_35), (13, .int k13), (12, .int k12), (10, .int k10), (9, .int k9), (7, .long h7_9), (6, .int i6), (5, .int (1 + (p1 - p1 / 24 * 24))), (4, .ref qd), (0, .ref b), (1, .ref wa), (2, .int p0), (3, .int p1)]) hx hb dL_isDelta_278 hl (by decide) rfl (fun ls hl => ?_)
                        have jn292 : ∀ v : Int32, v = (F_L_isDelta_j292 k14_35 k12 k13) → ∀ ls : Array Slot, lv_has ls 17 [(11, .int (F_L_isDelta_j278 k14_35 k11)), (14, .int k14_35), (13, .int k13), (12, .int k12), (10, .int k10), (9, .int k9), (7, .long h7_9), (6, .int i6), (5, .int (1 + (p1 - p1 / 24 * 24))), (4, .ref qd), (0, .ref b), (1, .ref wa), (2, .int p0), (3, .int p1)] → W p l e (headSpec wsL_isDelta ({ frames := 9, cells := 26, slots := 174, locals := 165 })).room s m ([.ref b, .ref wa, .int p0, .int p1] : List Value).toArray below meth c H locs 25 168 (MQ below (va_Qi (fun r u => (r, u) = F_L_isDelta σ δ ww p0 p1 ∧ (r = 0 ∨ r = 1)) (fun u t => bx_at D (wBD cA b s0 f w s2 f2 w2 t0 d db e0 wa σ ρ τ u run ww) (A) t) (A)) ([.ref b, .ref wa, .int p0, .int p1] : List Value).toArray s 26 174 (A)) (F0 m 292 ls [.int v]) := by
                          intro v hv ls hl
                          subst hv
                          refine lv_istore (lv' := [(12, .int (F_L_isDelta_j292 k14_35 k12 k13)), (11, .int (F_L_isDelta_j278 k14_35 k11)), (14, .int k14_35), (13, .int k13), (10, .int k10), (9, .int k9), (7, .long h7_9), (6, .int i6), (5, .int (1 + (p1 - p1 / 24 * 24))), (4, .ref qd), (0, .ref b), (1, .ref wa), (2, .int p0), (3, .int p1)]) hx hb dL_isDelta_292 hl (by decide) rfl (fun ls hl => ?_)
                          refine lv_iinc (v := (k13 + 1)) (lv' := [(13, .int (k13 + 1)), (12, .int (F_L_isDelta_j292 k14_35 k12 k13)), (11, .int (F_L_isDelta_j278 k14_35 k11)), (14, .int k14_35), (10, .int k10), (9, .int k9), (7, .long h7_9), (6, .int i6), (5, .int (1 + (p1 - p1 / 24 * 24))), (4, .ref qd), (0, .ref b), (1, .ref wa), (2, .int p0), (3, .int p1)]) hx hb dL_isDelta_294 hl (k := 3) rfl rfl (by decide) rfl (fun ls hl => ?_)
                          refine lv_goto (tgt := 172) hx hb dL_isDelta_297 (by decide) ?_
                          exact ih172 (m13 + 1) (F_L_isDelta_j278 k14_35 k11) (F_L_isDelta_j292 k14_35 k12 k13) (k13 + 1) (by omega) (by rw [ik13]; exact nI_1 m13) (by omega) (by omega) (by rw [← ie13, (show s9 - pl10 + 1 - m13 = (s9 - pl10 + 1 - (m13 + 1)) + 1 by omega), mnN, gxN, ← ik13, ← hx_36]) _ _ hP hD hS ls (lv_sub hl [0, 1, 2, 4, 5, 6, 7, 8, 9, 10, 11, 12, 13] rfl)
                        refine lv_iload hx hb dL_isDelta_280 (lv_at hl 1 rfl) ?_
                        refine lv_if_lt (tgt := 290) hx hb dL_isDelta_282 (by decide) (fun c_38 => ?_) (fun c_38 => ?_)
                        · skip
                          refine lv_iload hx hb dL_isDelta_290 (lv_at hl 3 rfl) ?_
                          exact jn292 _ (by simp only [F_L_isDelta_j292, if_pos c_38]) ls (lv_sub hl [0, 1, 2, 3, 4, 5, 6, 7, 8, 9, 10, 11, 12, 13] rfl)
                        · skip
                          refine lv_iload hx hb dL_isDelta_285 (lv_at hl 2 rfl) ?_
                          refine lv_goto (tgt := 292) hx hb dL_isDelta_287 (by decide) ?_
                          exact jn292 _ (by simp only [F_L_isDelta_j292, if_neg c_38]) ls (lv_sub hl [0, 1, 2, 3, 4, 5, 6, 7, 8, 9, 10, 11, 12, 13] rfl)
                      refine lv_iload hx hb dL_isDelta_266 (lv_at hl 0 rfl) ?_
                      refine lv_if_lt (tgt := 276) hx hb dL_isDelta_268 (by decide) (fun c_37 => ?_) (fun c_37 => ?_)
                      · skip
                        refine lv_iload hx hb dL_isDelta_276 (lv_at hl 3 rfl) ?_
                        exact jn278 _ (by simp only [F_L_isDelta_j278, if_pos c_37]) ls (lv_sub hl [0, 1, 2, 3, 4, 5, 6, 7, 8, 9, 10, 11, 12, 13] rfl)
                      · skip
                        refine lv_iload hx hb dL_isDelta_271 (lv_at hl 0 rfl) ?_
                        refine lv_goto (tgt := 278) hx hb dL_isDelta_273 (by decide) ?_
                        exact jn278 _ (by simp only [F_L_isDelta_j278, if_neg c_37]) ls (lv_sub hl [0, 1, 2, 3, 4, 5, 6, 7, 8, 9, 10, 11, 12, 13] rfl)
                    have loop198 : ∀ (n : Nat) (t15 : Int) (k14 : Int32) (k15 : Int32), (t15 + 1).toNat < n → (k15.toInt = t15) → (-30 ≤ t15) → (t15 + m13 ≤ 24) → (fdN (fdG ww dd_11 p0 k10 k13) (t15 + 1).toNat k14 = fdN (fdG ww dd_11 p0 k10 k13) (((rd ww ((32 * p0) + 2)) - k13).toInt + 1).toNat (-1)) → ∀ (H : Heap) (locs : List Loc), va_P D vwCl [(b, .inr (5, [.ref s0, .ref s2, .ref t0, .ref d, .ref e0, .int run])), (s0, .inr (3, [.ref f])), (f, .inr (2, [.ref w, .int σ.2.1, .int σ.2.2])), (w, .inl (cA, 66, .inl σ.1)), (s2, .inr (3, [.ref f2])), (f2, .inr (2, [.ref w2, .int ρ.2.1, .int ρ.2.2])), (w2, .inl (cA, 66, .inl ρ.1)), (t0, .inr (4, [.int τ.1, .int τ.2.1, .int τ.2.2.1, .int τ.2.2.2.1, .int τ.2.2.2.2.1, .int τ.2.2.2.2.2])), (d, .inr (1, [.int δ_10.1, .ref db])), (db, .inl (cA, 24, .inl δ_10.2)), (e0, .inr (0, [.ref d, .ref s0])), (wa, .inl (cA, 64, .inl ww)), (qd, .inl (cA, 24, .inl dd_11))] H → va_D A [(b, .inr (5, [.ref s0, .ref s2, .ref t0, .ref d, .ref e0, .int run])), (s0, .inr (3, [.ref f])), (f, .inr (2, [.ref w, .int σ.2.1, .int σ.2.2])), (w, .inl (cA, 66, .inl σ.1)), (s2, .inr (3, [.ref f2])), (f2, .inr (2, [.ref w2, .int ρ.2.1, .int ρ.2.2])), (w2, .inl (cA, 66, .inl ρ.1)), (t0, .inr (4, [.int τ.1, .int τ.2.1, .int τ.2.2.1, .int τ.2.2.2.1, .int τ.2.2.2.2.1, .int τ.2.2.2.2.2])), (d, .inr (1, [.int δ_10.1, .ref db])), (db, .inl (cA, 24, .inl δ_10.2)), (e0, .inr (0, [.ref d, .ref s0])), (wa, .inl (cA, 64, .inl ww)), (qd, .inl (cA, 24, .inl dd_11))] → va_S A s.heap H locs → ∀ (ls : Array Slot), lv_has ls 17 [(15, .int k15), (14, .int k14), (13, .int k13), (12, .int k12), (11, .int k11), (10, .int k10), (9, .int k9), (7, .long h7_9), (6, .int i6), (5, .int (1 + (p1 - p1 / 24 * 24))), (4, .ref qd), (0, .ref b), (1, .ref wa), (2, .int p0), (3, .int p1)] → W p l e (headSpec wsL_isDelta ({ frames := 9, cells := 26, slots := 174, locals := 165 })).room s m ([.ref b, .ref wa, .int p0, .int p1] : List Value).toArray below meth c H locs 25 168 (MQ below (va_Qi (fun r u => (r, u) = F_L_isDelta σ δ ww p0 p1 ∧ (r = 0 ∨ r = 1)) (fun u t => bx_at D (wBD cA b s0 f w s2 f2 w2 t0 d db e0 wa σ ρ τ u run ww) (A) t) (A)) ([.ref b, .ref wa, .int p0, .int p1] : List Value).toArray s 26 174 (A)) (F0 m 198 ls []) := by
                      intro n
                      induction n with
                      | zero =>
                        intro t15 k14 k15 h_f it15 il15 ih15 ie15 H locs hP hD hS ls hl
                        exact absurd h_f (Nat.not_lt_zero _)
                      | succ n ih198 =>
                        intro t15 k14 k15 h_f it15 il15 ih15 ie15 H locs hP hD hS ls hl
                        refine lv_iload hx hb dL_isDelta_198 (lv_at hl 0 rfl) ?_
                        refine lv_if_lt (tgt := 266) hx hb dL_isDelta_200 (by decide) (fun c_39 => ?_) (fun c_39 => ?_)
                        · skip
                          have hq9 := lt0_i it15 c_39
                          exact ex266 k14 (by rw [← ie15, (show (t15 + 1).toNat = 0 by omega), fdN]) _ _ hP hD hS ls (lv_sub hl [1, 2, 3, 4, 5, 6, 7, 8, 9, 10, 11, 12, 13, 14] rfl)
                        · skip
                          have ht15 := ge0_i it15 c_39
                          have ia15 := nI_i it15 ht15
                          refine lv_iconst (v := 0) hx hb dL_isDelta_203 (by decide) ?_
                          refine lv_istore (lv' := [(16, .int 0), (15, .int k15), (14, .int k14), (13, .int k13), (12, .int k12), (11, .int k11), (10, .int k10), (9, .int k9), (7, .long h7_9), (6, .int i6), (5, .int (1 + (p1 - p1 / 24 * 24))), (4, .ref qd), (0, .ref b), (1, .ref wa), (2, .int p0), (3, .int p1)]) hx hb dL_isDelta_204 hl (by decide) rfl (fun ls hl => ?_)
                          have ex244 : ∀ (k16_40 : Int32), k16_40 = nI (mlN (fun i => rd dd_11 (k10 + nI i)) (fun i => rd ww (32 * p0 + 5 + k15 + nI i)) k13.toNatClampNeg 0) → ∀ (H : Heap) (locs : List Loc), va_P D vwCl [(b, .inr (5, [.ref s0, .ref s2, .ref t0, .ref d, .ref e0, .int run])), (s0, .inr (3, [.ref f])), (f, .inr (2, [.ref w, .int σ.2.1, .int σ.2.2])), (w, .inl (cA, 66, .inl σ.1)), (s2, .inr (3, [.ref f2])), (f2, .inr (2, [.ref w2, .int ρ.2.1, .int ρ.2.2])), (w2, .inl (cA, 66, .inl ρ.1)), (t0, .inr (4, [.int τ.1, .int τ.2.1, .int τ.2.2.1, .int τ.2.2.2.1, .int τ.2.2.2.2.1, .int τ.2.2.2.2.2])), (d, .inr (1, [.int δ_10.1, .ref db])), (db, .inl (cA, 24, .inl δ_10.2)), (e0, .inr (0, [.ref d, .ref s0])), (wa, .inl (cA, 64, .inl ww)), (qd, .inl (cA, 24, .inl dd_11))] H → va_D A [(b, .inr (5, [.ref s0, .ref s2, .ref t0, .ref d, .ref e0, .int run])), (s0, .inr (3, [.ref f])), (f, .inr (2, [.ref w, .int σ.2.1, .int σ.2.2])), (w, .inl (cA, 66, .inl σ.1)), (s2, .inr (3, [.ref f2])), (f2, .inr (2, [.ref w2, .int ρ.2.1, .int ρ.2.2])), (w2, .inl (cA, 66, .inl ρ.1)), (t0, .inr (4, [.int τ.1, .int τ.2.1, .int τ.2.2.1, .int τ.2.2.2.1, .int τ.2.2.2.2.1, .int τ.2.2.2.2.2])), (d, .inr (1, [.int δ_10.1, .ref db])), (db, .inl (cA, 24, .inl δ_10.2)), (e0, .inr (0, [.ref d, .ref s0])), (wa, .inl (cA, 64, .inl ww)), (qd, .inl (cA, 24, .inl dd_11))] → va_S A s.heap H locs → ∀ ls : Array Slot, lv_has ls 17 [(16, .int k16_40), (15, .int k15), (14, .int k14), (13, .int k13), (12, .int k12), (11, .int k11), (10, .int k10), (9, .int k9), (7, .long h7_9), (6, .int i6), (5, .int (1 + (p1 - p1 / 24 * 24))), (4, .ref qd), (0, .ref b), (1, .ref wa), (2, .int p0), (3, .int p1)] → W p l e (headSpec wsL_isDelta ({ frames := 9, cells := 26, slots := 174, locals := 165 })).room s m ([.ref b, .ref wa, .int p0, .int p1] : List Value).toArray below meth c H locs 25 168 (MQ below (va_Qi (fun r u => (r, u) = F_L_isDelta σ δ ww p0 p1 ∧ (r = 0 ∨ r = 1)) (fun u t => bx_at D (wBD cA b s0 f w s2 f2 w2 t0 d db e0 wa σ ρ τ u run ww) (A) t) (A)) ([.ref b, .ref wa, .int p0, .int p1] : List Value).toArray s 26 174 (A)) (F0 m 244 ls []) := by
                            intro k16_40 hx_41 H locs hP hD hS ls hl
                            have jn258 : ∀ v : Int32, v = (F_L_isDelta_j258 k16_40 k13 k15 k14) → ∀ ls : Array Slot, lv_has ls 17 [(16, .int k16_40), (15, .int k15), (14, .int k14), (13, .int k13), (12, .int k12), (11, .int k11), (10, .int k10), (9, .int k9), (7, .long h7_9), (6, .int i6), (5, .int (1 + (p1 - p1 / 24 * 24))), (4, .ref qd), (0, .ref b), (1, .ref wa), (2, .int p0), (3, .int p1)] → W p l e (headSpec wsL_isDelta ({ frames := 9, cells := 26, slots := 174, locals := 165 })).room s m ([.ref b, .ref wa, .int p0, .int p1] : List Value).toArray below meth c H locs 25 168 (MQ below (va_Qi (fun r u => (r, u) = F_L_isDelta σ δ ww p0 p1 ∧ (r = 0 ∨ r = 1)) (fun u t => bx_at D (wBD cA b s0 f w s2 f2 w2 t0 d db e0 wa σ ρ τ u run ww) (A) t) (A)) ([.ref b, .ref wa, .int p0, .int p1] : List Value).toArray s 26 174 (A)) (F0 m 258 ls [.int v]) := by
                              intro v hv ls hl
                              subst hv
                              refine lv_istore (lv' := [(14, .int (F_L_isDelta_j258 k16_40 k13 k15 k14)), (16, .int k16_40), (15, .int k15), (13, .int k13), (12, .int k12), (11, .int k11), (10, .int k10), (9, .int k9), (7, .long h7_9), (6, .int i6), (5, .int (1 + (p1 - p1 / 24 * 24))), (4, .ref qd), (0, .ref b), (1, .ref wa), (2, .int p0), (3, .int p1)]) hx hb dL_isDelta_258 hl (by decide) rfl (fun ls hl => ?_)
                              refine lv_iinc (v := (k15 + (-1))) (lv' := [(15, .int (k15 + (-1))), (14, .int (F_L_isDelta_j258 k16_40 k13 k15 k14)), (16, .int k16_40), (13, .int k13), (12, .int k12), (11, .int k11), (10, .int k10), (9, .int k9), (7, .long h7_9), (6, .int i6), (5, .int (1 + (p1 - p1 / 24 * 24))), (4, .ref qd), (0, .ref b), (1, .ref wa), (2, .int p0), (3, .int p1)]) hx hb dL_isDelta_260 hl (k := 2) rfl rfl (by decide) rfl (fun ls hl => ?_)
                              refine lv_goto (tgt := 198) hx hb dL_isDelta_263 (by decide) ?_
                              exact ih198 (t15 - 1) (F_L_isDelta_j258 k16_40 k13 k15 k14) (k15 + (-1)) (by omega) (dec_i it15 ht15) (by omega) (by omega) (by rw [← ie15, (show (t15 + 1).toNat = (t15 - 1 + 1).toNat + 1 by omega), fdN, (show (t15 - 1 + 1).toNat = t15.toNat by omega), fdG, ← ia15, ← hx_41]) _ _ hP hD hS ls (lv_sub hl [0, 1, 3, 4, 5, 6, 7, 8, 9, 10, 11, 12, 13, 14, 15] rfl)
                            refine lv_iload hx hb dL_isDelta_244 (lv_at hl 0 rfl) ?_
                            refine lv_iload hx hb dL_isDelta_246 (lv_at hl 3 rfl) ?_
                            refine lv_icmp_ne (tgt := 256) hx hb dL_isDelta_248 (by decide) (fun c_42 => ?_) (fun c_42 => ?_)
                            · skip
                              refine lv_iload hx hb dL_isDelta_256 (lv_at hl 2 rfl) ?_
                              exact jn258 _ (by simp only [F_L_isDelta_j258, if_neg c_42]) ls (lv_sub hl [0, 1, 2, 3, 4, 5, 6, 7, 8, 9, 10, 11, 12, 13, 14, 15] rfl)
                            · skip
                              refine lv_iload hx hb dL_isDelta_251 (lv_at hl 1 rfl) ?_
                              refine lv_goto (tgt := 258) hx hb dL_isDelta_253 (by decide) ?_
                              exact jn258 _ (by simp only [F_L_isDelta_j258, if_pos c_42]) ls (lv_sub hl [0, 1, 2, 3, 4, 5, 6, 7, 8, 9, 10, 11, 12, 13, 14, 15] rfl)
                          have loop206 : ∀ (n : Nat) (j16 : Nat) (k16 : Int32), m13 - j16 < n → (j16 ≤ m13) → (k16 = nI j16) → (mlN (fun i => rd dd_11 (k10 + nI i)) (fun i => rd ww (32 * p0 + 5 + k15 + nI i)) (m13 - j16) j16 = mlN (fun i => rd dd_11 (k10 + nI i)) (fun i => rd ww (32 * p0 + 5 + k15 + nI i)) m13 0) → ∀ (H : Heap) (locs : List Loc), va_P D vwCl [(b, .inr (5, [.ref s0, .ref s2, .ref t0, .ref d, .ref e0, .int run])), (s0, .inr (3, [.ref f])), (f, .inr (2, [.ref w, .int σ.2.1, .int σ.2.2])), (w, .inl (cA, 66, .inl σ.1)), (s2, .inr (3, [.ref f2])), (f2, .inr (2, [.ref w2, .int ρ.2.1, .int ρ.2.2])), (w2, .inl (cA, 66, .inl ρ.1)), (t0, .inr (4, [.int τ.1, .int τ.2.1, .int τ.2.2.1, .int τ.2.2.2.1, .int τ.2.2.2.2.1, .int τ.2.2.2.2.2])), (d, .inr (1, [.int δ_10.1, .ref db])), (db, .inl (cA, 24, .inl δ_10.2)), (e0, .inr (0, [.ref d, .ref s0])), (wa, .inl (cA, 64, .inl ww)), (qd, .inl (cA, 24, .inl dd_11))] H → va_D A [(b, .inr (5, [.ref s0, .ref s2, .ref t0, .ref d, .ref e0, .int run])), (s0, .inr (3, [.ref f])), (f, .inr (2, [.ref w, .int σ.2.1, .int σ.2.2])), (w, .inl (cA, 66, .inl σ.1)), (s2, .inr (3, [.ref f2])), (f2, .inr (2, [.ref w2, .int ρ.2.1, .int ρ.2.2])), (w2, .inl (cA, 66, .inl ρ.1)), (t0, .inr (4, [.int τ.1, .int τ.2.1, .int τ.2.2.1, .int τ.2.2.2.1, .int τ.2.2.2.2.1, .int τ.2.2.2.2.2])), (d, .inr (1, [.int δ_10.1, .ref db])), (db, .inl (cA, 24, .inl δ_10.2)), (e0, .inr (0, [.ref d, .ref s0])), (wa, .inl (cA, 64, .inl ww)), (qd, .inl (cA, 24, .inl dd_11))] → va_S A s.heap H locs → ∀ (ls : Array Slot), lv_has ls 17 [(16, .int k16), (15, .int k15), (14, .int k14), (13, .int k13), (12, .int k12), (11, .int k11), (10, .int k10), (9, .int k9), (7, .long h7_9), (6, .int i6), (5, .int (1 + (p1 - p1 / 24 * 24))), (4, .ref qd), (0, .ref b), (1, .ref wa), (2, .int p0), (3, .int p1)] → W p l e (headSpec wsL_isDelta ({ frames := 9, cells := 26, slots := 174, locals := 165 })).room s m ([.ref b, .ref wa, .int p0, .int p1] : List Value).toArray below meth c H locs 25 168 (MQ below (va_Qi (fun r u => (r, u) = F_L_isDelta σ δ ww p0 p1 ∧ (r = 0 ∨ r = 1)) (fun u t => bx_at D (wBD cA b s0 f w s2 f2 w2 t0 d db e0 wa σ ρ τ u run ww) (A) t) (A)) ([.ref b, .ref wa, .int p0, .int p1] : List Value).toArray s 26 174 (A)) (F0 m 206 ls []) := by
                            intro n
                            induction n with
                            | zero =>
                              intro j16 k16 h_f ij16 ik16 ie16 H locs hP hD hS ls hl
                              exact absurd h_f (Nat.not_lt_zero _)
                            | succ n ih206 =>
                              intro j16 k16 h_f ij16 ik16 ie16 H locs hP hD hS ls hl
                              refine lv_iload hx hb dL_isDelta_206 (lv_at hl 0 rfl) ?_
                              refine lv_iload hx hb dL_isDelta_208 (lv_at hl 3 rfl) ?_
                              refine lv_icmp_ge (tgt := 244) hx hb dL_isDelta_210 (by decide) (fun c_43 => ?_) (fun c_43 => ?_)
                              · skip
                                have hq9 : m13 ≤ j16 := (nI_leI (by omega) (by omega)).mp (by have h9 := c_43; rw [ik13, ik16] at h9; exact h9)
                                exact ex244 k16 (by rw [e13, ← ie16, (show m13 - j16 = 0 by omega), mlN]; exact ik16) _ _ hP hD hS ls (lv_sub hl [0, 1, 2, 3, 4, 5, 6, 7, 8, 9, 10, 11, 12, 13, 14, 15] rfl)
                              · skip
                                have hj16 : j16 < m13 := Nat.lt_of_not_le (fun h => c_43 (by rw [ik13, ik16]; exact nI_le h (by omega)))
                                refine lv_aload hx hb dL_isDelta_213 (lv_at hl 11 rfl) ?_
                                refine lv_iload hx hb dL_isDelta_215 (lv_at hl 6 rfl) ?_
                                refine lv_iload hx hb dL_isDelta_217 (lv_at hl 0 rfl) ?_
                                refine lv_iadd hx hb dL_isDelta_219 ?_
                                refine bx_ald (D := D) hx hb hK hP 12 0 rfl rfl (ix_d ik10 ik16 (by omega)) dL_isDelta_220 ?_
                                refine lv_aload_n hx hb dL_isDelta_221 rfl (lv_at hl 13 rfl) ?_
                                refine lv_bipush (v := 32) hx hb dL_isDelta_222 (by decide) ?_
                                refine lv_iload_n hx hb dL_isDelta_224 rfl (lv_at hl 14 rfl) ?_
                                refine lv_imul hx hb dL_isDelta_225 ?_
                                refine lv_iconst (v := 5) hx hb dL_isDelta_226 (by decide) ?_
                                refine lv_iadd hx hb dL_isDelta_227 ?_
                                refine lv_iload hx hb dL_isDelta_228 (lv_at hl 1 rfl) ?_
                                refine lv_iadd hx hb dL_isDelta_230 ?_
                                refine lv_iload hx hb dL_isDelta_231 (lv_at hl 0 rfl) ?_
                                refine lv_iadd hx hb dL_isDelta_233 ?_
                                refine bx_ald (D := D) hx hb hK hP 11 0 rfl rfl (ix_w hs ia15 ik16 (by omega)) dL_isDelta_234 ?_
                                refine lv_icmp_ne (tgt := 244) hx hb dL_isDelta_235 (by decide) (fun c_44 => ?_) (fun c_44 => ?_)
                                · skip
                                  exact ex244 k16 (by rw [e13, ← ie16, (show m13 - j16 = (m13 - (j16 + 1)) + 1 by omega), mlN]; subst ik16; exact (congrArg nI (if_neg c_44)).symm) _ _ hP hD hS ls (lv_sub hl [0, 1, 2, 3, 4, 5, 6, 7, 8, 9, 10, 11, 12, 13, 14, 15] rfl)
                                · skip
                                  refine lv_iinc (v := (k16 + 1)) (lv' := [(16, .int (k16 + 1)), (15, .int k15), (14, .int k14), (13, .int k13), (12, .int k12), (11, .int k11), (10, .int k10), (9, .int k9), (7, .long h7_9), (6, .int i6), (5, .int (1 + (p1 - p1 / 24 * 24))), (4, .ref qd), (0, .ref b), (1, .ref wa), (2, .int p0), (3, .int p1)]) hx hb dL_isDelta_238 hl (k := 0) rfl rfl (by decide) rfl (fun ls hl => ?_)
                                  refine lv_goto (tgt := 206) hx hb dL_isDelta_241 (by decide) ?_
                                  exact ih206 (j16 + 1) (k16 + 1) (by omega) (by omega) (by rw [ik16]; exact nI_1 j16) (by subst ik16; rw [← ie16, (show m13 - j16 = (m13 - (j16 + 1)) + 1 by omega), mlN]; exact (if_pos c_44).symm) _ _ hP hD hS ls (lv_sub hl [0, 1, 2, 3, 4, 5, 6, 7, 8, 9, 10, 11, 12, 13, 14, 15] rfl)
                          exact loop206 26 0 0 (by omega) (by omega) nI_0.symm rfl _ _ hP hD hS ls (lv_sub hl [0, 1, 2, 3, 4, 5, 6, 7, 8, 9, 10, 11, 12, 13, 14, 15] rfl)
                    exact loop198 30 (((rd ww ((32 * p0) + 2)) - k13).toInt) (-1) ((rd ww ((32 * p0) + 2)) - k13) (by omega) rfl hat1 hat2 rfl _ _ hP hD hS ls (lv_sub hl [0, 1, 2, 3, 4, 5, 6, 7, 8, 9, 10, 11, 12, 13, 14] rfl)
              exact loop172 25 2 (-1) 1 2 (by omega) rfl (by omega) (by omega) (by rw [(show s9 - pl10 + 1 - 2 = s9 - pl10 - 1 by omega)]) _ _ hP hD hS ls (lv_sub hl [0, 1, 2, 3, 4, 5, 6, 7, 8, 9, 10, 11, 12] rfl)
      exact loop151 25 0 0 i6_8 0 0 (by omega) nI_0.symm nI_0.symm (by omega) (by omega) rfl (Or.inr rfl) hdd _ _ hP hD hS ls (lv_sub hl [0, 1, 2, 3, 4, 5, 6, 7, 8, 9] rfl)
    have loop36 : ∀ (n : Nat) (j : Nat) (i6 : Int32) (h7 : Int64) (k9 : Int32) (δ9 : DS) (d9 : Nat → Int32), s9 - j < n → (j ≤ s9) → (k9 = nI j) → (δ9.1 = nI j) → (drN ww p0 p1 (s9 - j) j i6 h7 δ9 d9 = drN ww p0 p1 s9 0 (F_L_isDelta_j26 r_5) 17 u_4 (fun _ => 0)) → ∀ (H : Heap) (locs : List Loc), va_P D vwCl [(b, .inr (5, [.ref s0, .ref s2, .ref t0, .ref d, .ref e0, .int run])), (s0, .inr (3, [.ref f])), (f, .inr (2, [.ref w, .int σ.2.1, .int σ.2.2])), (w, .inl (cA, 66, .inl σ.1)), (s2, .inr (3, [.ref f2])), (f2, .inr (2, [.ref w2, .int ρ.2.1, .int ρ.2.2])), (w2, .inl (cA, 66, .inl ρ.1)), (t0, .inr (4, [.int τ.1, .int τ.2.1, .int τ.2.2.1, .int τ.2.2.2.1, .int τ.2.2.2.2.1, .int τ.2.2.2.2.2])), (d, .inr (1, [.int δ9.1, .ref db])), (db, .inl (cA, 24, .inl δ9.2)), (e0, .inr (0, [.ref d, .ref s0])), (wa, .inl (cA, 64, .inl ww)), (qd, .inl (cA, 24, .inl d9))] H → va_D A [(b, .inr (5, [.ref s0, .ref s2, .ref t0, .ref d, .ref e0, .int run])), (s0, .inr (3, [.ref f])), (f, .inr (2, [.ref w, .int σ.2.1, .int σ.2.2])), (w, .inl (cA, 66, .inl σ.1)), (s2, .inr (3, [.ref f2])), (f2, .inr (2, [.ref w2, .int ρ.2.1, .int ρ.2.2])), (w2, .inl (cA, 66, .inl ρ.1)), (t0, .inr (4, [.int τ.1, .int τ.2.1, .int τ.2.2.1, .int τ.2.2.2.1, .int τ.2.2.2.2.1, .int τ.2.2.2.2.2])), (d, .inr (1, [.int δ9.1, .ref db])), (db, .inl (cA, 24, .inl δ9.2)), (e0, .inr (0, [.ref d, .ref s0])), (wa, .inl (cA, 64, .inl ww)), (qd, .inl (cA, 24, .inl d9))] → va_S A s.heap H locs → ∀ (ls : Array Slot), lv_has ls 17 [(9, .int k9), (7, .long h7), (6, .int i6), (5, .int (1 + (p1 - p1 / 24 * 24))), (4, .ref qd), (0, .ref b), (1, .ref wa), (2, .int p0), (3, .int p1)] → W p l e (headSpec wsL_isDelta ({ frames := 9, cells := 26, slots := 174, locals := 165 })).room s m ([.ref b, .ref wa, .int p0, .int p1] : List Value).toArray below meth c H locs (1 + j) (24 + 6 * j) (MQ below (va_Qi (fun r u => (r, u) = F_L_isDelta σ δ ww p0 p1 ∧ (r = 0 ∨ r = 1)) (fun u t => bx_at D (wBD cA b s0 f w s2 f2 w2 t0 d db e0 wa σ ρ τ u run ww) (A) t) (A)) ([.ref b, .ref wa, .int p0, .int p1] : List Value).toArray s 26 174 (A)) (F0 m 36 ls []) := by
      intro n
      induction n with
      | zero =>
        intro j i6 h7 k9 δ9 d9 h_f ij ik id ie H locs hP hD hS ls hl
        exact absurd h_f (Nat.not_lt_zero _)
      | succ n ih36 =>
        intro j i6 h7 k9 δ9 d9 h_f ij ik id ie H locs hP hD hS ls hl
        refine lv_iload hx hb dL_isDelta_36 (lv_at hl 0 rfl) ?_
        refine lv_iload hx hb dL_isDelta_38 (lv_at hl 3 rfl) ?_
        refine lv_icmp_ge (tgt := 145) hx hb dL_isDelta_40 (by decide) (fun c_45 => ?_) (fun c_45 => ?_)
        · skip
          refine W.widen (k := 25) (n := 168) (by omega) (by omega) ?_
          have hq9 : s9 ≤ j := (nI_leI (by omega) (by omega)).mp (by have h9 := c_45; rw [hs9, ik] at h9; exact h9)
          exact ex145 i6 h7 δ9 d9 (by rw [es9, ← ie, (show s9 - j = 0 by omega), drN]) _ _ hP hD hS ls (lv_sub hl [1, 2, 3, 4, 5, 6, 7, 8] rfl)
        · skip
          have hj : j < s9 := Nat.lt_of_not_le (fun h => c_45 (by rw [hs9, ik]; exact nI_le h (by omega)))
          have hj24 : j < 24 := by omega
          refine lv_iload hx hb dL_isDelta_43 (lv_at hl 2 rfl) ?_
          refine lv_if_eq (tgt := 145) hx hb dL_isDelta_45 (by decide) (fun c_46 => ?_) (fun c_46 => ?_)
          · skip
            refine W.widen (k := 25) (n := 168) (by omega) (by omega) ?_
            exact ex145 i6 h7 δ9 d9 (by rw [es9, ← ie, (show s9 - j = (s9 - (j + 1)) + 1 by omega), drN, if_pos c_46]) _ _ hP hD hS ls (lv_sub hl [1, 2, 3, 4, 5, 6, 7, 8] rfl)
          · skip
            refine lv_aload hx hb dL_isDelta_48 (lv_at hl 4 rfl) ?_
            refine lv_iload hx hb dL_isDelta_50 (lv_at hl 0 rfl) ?_
            have jn94 : ∀ v : Int32, v = (F_L_isDelta_j94 p1 k9 ww p0) → ∀ ls : Array Slot, lv_has ls 17 [(9, .int k9), (7, .long h7), (6, .int i6), (5, .int (1 + (p1 - p1 / 24 * 24))), (4, .ref qd), (0, .ref b), (1, .ref wa), (2, .int p0), (3, .int p1)] → W p l e (headSpec wsL_isDelta ({ frames := 9, cells := 26, slots := 174, locals := 165 })).room s m ([.ref b, .ref wa, .int p0, .int p1] : List Value).toArray below meth c H locs (1 + j) (24 + 6 * j) (MQ below (va_Qi (fun r u => (r, u) = F_L_isDelta σ δ ww p0 p1 ∧ (r = 0 ∨ r = 1)) (fun u t => bx_at D (wBD cA b s0 f w s2 f2 w2 t0 d db e0 wa σ ρ τ u run ww) (A) t) (A)) ([.ref b, .ref wa, .int p0, .int p1] : List Value).toArray s 26 174 (A)) (F0 m 94 ls [.int v, .int k9, .ref qd]) := by
              intro v hv ls hl
              subst hv
              refine bx_ast (D := D) hx hb hK hP hD hS 12 0 rfl rfl (by rw [ik]; exact vp_in_nI hj24 (by decide)) dL_isDelta_94 (fun H locs hP hD hS => ?_)
              have hP : va_P D vwCl [(b, .inr (5, [.ref s0, .ref s2, .ref t0, .ref d, .ref e0, .int run])), (s0, .inr (3, [.ref f])), (f, .inr (2, [.ref w, .int σ.2.1, .int σ.2.2])), (w, .inl (cA, 66, .inl σ.1)), (s2, .inr (3, [.ref f2])), (f2, .inr (2, [.ref w2, .int ρ.2.1, .int ρ.2.2])), (w2, .inl (cA, 66, .inl ρ.1)), (t0, .inr (4, [.int τ.1, .int τ.2.1, .int τ.2.2.1, .int τ.2.2.2.1, .int τ.2.2.2.2.1, .int τ.2.2.2.2.2])), (d, .inr (1, [.int δ9.1, .ref db])), (db, .inl (cA, 24, .inl δ9.2)), (e0, .inr (0, [.ref d, .ref s0])), (wa, .inl (cA, 64, .inl ww)), (qd, .inl (cA, 24, .inl (wr d9 k9 (F_L_isDelta_j94 p1 k9 ww p0))))] H := hP
              have hD : va_D A [(b, .inr (5, [.ref s0, .ref s2, .ref t0, .ref d, .ref e0, .int run])), (s0, .inr (3, [.ref f])), (f, .inr (2, [.ref w, .int σ.2.1, .int σ.2.2])), (w, .inl (cA, 66, .inl σ.1)), (s2, .inr (3, [.ref f2])), (f2, .inr (2, [.ref w2, .int ρ.2.1, .int ρ.2.2])), (w2, .inl (cA, 66, .inl ρ.1)), (t0, .inr (4, [.int τ.1, .int τ.2.1, .int τ.2.2.1, .int τ.2.2.2.1, .int τ.2.2.2.2.1, .int τ.2.2.2.2.2])), (d, .inr (1, [.int δ9.1, .ref db])), (db, .inl (cA, 24, .inl δ9.2)), (e0, .inr (0, [.ref d, .ref s0])), (wa, .inl (cA, 64, .inl ww)), (qd, .inl (cA, 24, .inl (wr d9 k9 (F_L_isDelta_j94 p1 k9 ww p0))))] := hD
              refine lv_aload_n hx hb dL_isDelta_95 rfl (lv_at hl 5 rfl) ?_
              refine lv_aload hx hb dL_isDelta_96 (lv_at hl 4 rfl) ?_
              refine lv_iload hx hb dL_isDelta_98 (lv_at hl 0 rfl) ?_
              refine bx_ald (D := D) hx hb hK hP 12 0 rfl rfl (by rw [ik]; exact vp_in_nI hj24 (by decide)) dL_isDelta_100 ?_
              refine bx_nwi (dr_0 (by rw [rd_wr_eq rfl]; exact j94_ok hby hz ik hj24) id hj24) (wc := [(b, .inr (5, [.ref s0, .ref s2, .ref t0, .ref d, .ref e0, .int run])), (s0, .inr (3, [.ref f])), (f, .inr (2, [.ref w, .int σ.2.1, .int σ.2.2])), (w, .inl (cA, 66, .inl σ.1)), (s2, .inr (3, [.ref f2])), (f2, .inr (2, [.ref w2, .int ρ.2.1, .int ρ.2.2])), (w2, .inl (cA, 66, .inl ρ.1)), (t0, .inr (4, [.int τ.1, .int τ.2.1, .int τ.2.2.1, .int τ.2.2.2.1, .int τ.2.2.2.2.1, .int τ.2.2.2.2.2])), (d, .inr (1, [.int δ9.1, .ref db])), (db, .inl (cA, 24, .inl δ9.2)), (e0, .inr (0, [.ref d, .ref s0]))]) (wr := [(wa, .inl (cA, 64, .inl ww)), (qd, .inl (cA, 24, .inl (wr d9 k9 (F_L_isDelta_j94 p1 k9 ww p0))))]) (wf := fun (u : (DS)) => [(b, .inr (5, [.ref s0, .ref s2, .ref t0, .ref d, .ref e0, .int run])), (s0, .inr (3, [.ref f])), (f, .inr (2, [.ref w, .int σ.2.1, .int σ.2.2])), (w, .inl (cA, 66, .inl σ.1)), (s2, .inr (3, [.ref f2])), (f2, .inr (2, [.ref w2, .int ρ.2.1, .int ρ.2.2])), (w2, .inl (cA, 66, .inl ρ.1)), (t0, .inr (4, [.int τ.1, .int τ.2.1, .int τ.2.2.1, .int τ.2.2.2.1, .int τ.2.2.2.2.1, .int τ.2.2.2.2.2])), (d, .inr (1, [.int u.1, .ref db])), (db, .inl (cA, 24, .inl u.2)), (e0, .inr (0, [.ref d, .ref s0]))]) (wn := fun (u : (DS)) => [(b, .inr (5, [.ref s0, .ref s2, .ref t0, .ref d, .ref e0, .int run])), (s0, .inr (3, [.ref f])), (f, .inr (2, [.ref w, .int σ.2.1, .int σ.2.2])), (w, .inl (cA, 66, .inl σ.1)), (s2, .inr (3, [.ref f2])), (f2, .inr (2, [.ref w2, .int ρ.2.1, .int ρ.2.2])), (w2, .inl (cA, 66, .inl ρ.1)), (t0, .inr (4, [.int τ.1, .int τ.2.1, .int τ.2.2.1, .int τ.2.2.2.1, .int τ.2.2.2.2.1, .int τ.2.2.2.2.2])), (d, .inr (1, [.int u.1, .ref db])), (db, .inl (cA, 24, .inl u.2)), (e0, .inr (0, [.ref d, .ref s0])), (wa, .inl (cA, 64, .inl ww)), (qd, .inl (cA, 24, .inl (wr d9 k9 (F_L_isDelta_j94 p1 k9 ww p0))))]) hP hD hS hA [0, 1, 2, 3, 4, 5, 6, 7, 8, 9, 10] [11, 12] [2, 3, 4, 5, 6, 7, 8, 9, 10, 11, 12, 0, 1] rfl rfl (by decide) (by decide) (fun u => rfl) (by decide) (vx_runV (As := [.int (rd (wr d9 k9 (F_L_isDelta_j94 p1 k9 ww p0)) k9)]) (rest := []) ⟨hx, hb, hml, hown, hts⟩ (c_X5_draft l hl9 D cA b s0 f w s2 f2 w2 t0 d db e0 H.size σ ρ τ δ9 run (rd (wr d9 k9 (F_L_isDelta_j94 p1 k9 ww p0)) k9)) (cwV 1 hts gL_isDelta_X5_draft rfl rfl rfl (by decide +kernel) ⟨Nat.le_of_ble_eq_true rfl, Nat.le_of_ble_eq_true rfl⟩) (bx_pvx (ci := 5) (q0 := 0) hK hG (bx_zn hZ0 hS) (hP.sub (ws' := [(b, .inr (5, [.ref s0, .ref s2, .ref t0, .ref d, .ref e0, .int run])), (s0, .inr (3, [.ref f])), (f, .inr (2, [.ref w, .int σ.2.1, .int σ.2.2])), (w, .inl (cA, 66, .inl σ.1)), (s2, .inr (3, [.ref f2])), (f2, .inr (2, [.ref w2, .int ρ.2.1, .int ρ.2.2])), (w2, .inl (cA, 66, .inl ρ.1)), (t0, .inr (4, [.int τ.1, .int τ.2.1, .int τ.2.2.1, .int τ.2.2.2.1, .int τ.2.2.2.2.1, .int τ.2.2.2.2.2])), (d, .inr (1, [.int δ9.1, .ref db])), (db, .inl (cA, 24, .inl δ9.2)), (e0, .inr (0, [.ref d, .ref s0]))]) [0, 1, 2, 3, 4, 5, 6, 7, 8, 9, 10] rfl) (hD.sub (ws' := [(b, .inr (5, [.ref s0, .ref s2, .ref t0, .ref d, .ref e0, .int run])), (s0, .inr (3, [.ref f])), (f, .inr (2, [.ref w, .int σ.2.1, .int σ.2.2])), (w, .inl (cA, 66, .inl σ.1)), (s2, .inr (3, [.ref f2])), (f2, .inr (2, [.ref w2, .int ρ.2.1, .int ρ.2.2])), (w2, .inl (cA, 66, .inl ρ.1)), (t0, .inr (4, [.int τ.1, .int τ.2.1, .int τ.2.2.1, .int τ.2.2.2.1, .int τ.2.2.2.2.1, .int τ.2.2.2.2.2])), (d, .inr (1, [.int δ9.1, .ref db])), (db, .inl (cA, 24, .inl δ9.2)), (e0, .inr (0, [.ref d, .ref s0]))]) [0, 1, 2, 3, 4, 5, 6, 7, 8, 9, 10] (by decide) rfl) rfl rfl) rfl rfl hl.1 rfl (lv_room (Nat.le_of_ble_eq_true rfl)) dL_isDelta_101 ⟨show 1 + j + 1 ≤ 26 by omega, show 24 + 6 * j + 6 ≤ 174 by omega⟩) (fun r_50 u_49 H locs h_48 hP hD hS => ?_)
              have hP : va_P D vwCl [(b, .inr (5, [.ref s0, .ref s2, .ref t0, .ref d, .ref e0, .int run])), (s0, .inr (3, [.ref f])), (f, .inr (2, [.ref w, .int σ.2.1, .int σ.2.2])), (w, .inl (cA, 66, .inl σ.1)), (s2, .inr (3, [.ref f2])), (f2, .inr (2, [.ref w2, .int ρ.2.1, .int ρ.2.2])), (w2, .inl (cA, 66, .inl ρ.1)), (t0, .inr (4, [.int τ.1, .int τ.2.1, .int τ.2.2.1, .int τ.2.2.2.1, .int τ.2.2.2.2.1, .int τ.2.2.2.2.2])), (d, .inr (1, [.int u_49.1, .ref db])), (db, .inl (cA, 24, .inl u_49.2)), (e0, .inr (0, [.ref d, .ref s0])), (wa, .inl (cA, 64, .inl ww)), (qd, .inl (cA, 24, .inl (wr d9 k9 (F_L_isDelta_j94 p1 k9 ww p0))))] H := hP
              have hD : va_D A [(b, .inr (5, [.ref s0, .ref s2, .ref t0, .ref d, .ref e0, .int run])), (s0, .inr (3, [.ref f])), (f, .inr (2, [.ref w, .int σ.2.1, .int σ.2.2])), (w, .inl (cA, 66, .inl σ.1)), (s2, .inr (3, [.ref f2])), (f2, .inr (2, [.ref w2, .int ρ.2.1, .int ρ.2.2])), (w2, .inl (cA, 66, .inl ρ.1)), (t0, .inr (4, [.int τ.1, .int τ.2.1, .int τ.2.2.1, .int τ.2.2.2.1, .int τ.2.2.2.2.1, .int τ.2.2.2.2.2])), (d, .inr (1, [.int u_49.1, .ref db])), (db, .inl (cA, 24, .inl u_49.2)), (e0, .inr (0, [.ref d, .ref s0])), (wa, .inl (cA, 64, .inl ww)), (qd, .inl (cA, 24, .inl (wr d9 k9 (F_L_isDelta_j94 p1 k9 ww p0))))] := hD
              have jn116 : ∀ v : Int32, v = (F_L_isDelta_j116 r_50 k9) → ∀ ls : Array Slot, lv_has ls 17 [(9, .int k9), (7, .long h7), (6, .int i6), (5, .int (1 + (p1 - p1 / 24 * 24))), (4, .ref qd), (0, .ref b), (1, .ref wa), (2, .int p0), (3, .int p1)] → W p l e (headSpec wsL_isDelta ({ frames := 9, cells := 26, slots := 174, locals := 165 })).room s m ([.ref b, .ref wa, .int p0, .int p1] : List Value).toArray below meth c H locs (1 + j + 1) (24 + 6 * j + 6) (MQ below (va_Qi (fun r u => (r, u) = F_L_isDelta σ δ ww p0 p1 ∧ (r = 0 ∨ r = 1)) (fun u t => bx_at D (wBD cA b s0 f w s2 f2 w2 t0 d db e0 wa σ ρ τ u run ww) (A) t) (A)) ([.ref b, .ref wa, .int p0, .int p1] : List Value).toArray s 26 174 (A)) (F0 m 116 ls [.int v]) := by
                intro v hv ls hl
                subst hv
                refine lv_istore (lv' := [(6, .int (F_L_isDelta_j116 r_50 k9)), (9, .int k9), (7, .long h7), (5, .int (1 + (p1 - p1 / 24 * 24))), (4, .ref qd), (0, .ref b), (1, .ref wa), (2, .int p0), (3, .int p1)]) hx hb dL_isDelta_116 hl (by decide) rfl (fun ls hl => ?_)
                refine lv_ldc2 (v := 31) hx hb hown (hts (.constantLong RL 11 (31)) (by decide +kernel)) dL_isDelta_118 ?_
                refine lv_lload hx hb dL_isDelta_121 (lv_at hl 2 rfl) ?_
                refine lv_lmul hx hb dL_isDelta_123 ?_
                refine lv_aload hx hb dL_isDelta_124 (lv_at hl 4 rfl) ?_
                refine lv_iload hx hb dL_isDelta_126 (lv_at hl 1 rfl) ?_
                refine bx_ald (D := D) hx hb hK hP 12 0 rfl rfl (by rw [ik]; exact vp_in_nI hj24 (by decide)) dL_isDelta_128 ?_
                refine lv_i2l hx hb dL_isDelta_129 rfl ?_
                refine lv_ladd hx hb dL_isDelta_130 ?_
                refine lv_lconst (v := 1) hx hb dL_isDelta_131 rfl ?_
                refine lv_ladd hx hb dL_isDelta_132 ?_
                refine lv_ldc2 (v := 65521) hx hb hown (hts (.constantLong RL 13 (65521)) (by decide +kernel)) dL_isDelta_133 ?_
                refine lv_lrem hx hb dL_isDelta_136 (by decide) ?_
                refine lv_lstore (lv' := [(7, .long ((((31 * h7) + (Int32.toInt64 (rd (wr d9 k9 (F_L_isDelta_j94 p1 k9 ww p0)) k9))) + 1) - (((31 * h7) + (Int32.toInt64 (rd (wr d9 k9 (F_L_isDelta_j94 p1 k9 ww p0)) k9))) + 1) / 65521 * 65521)), (6, .int (F_L_isDelta_j116 r_50 k9)), (9, .int k9), (5, .int (1 + (p1 - p1 / 24 * 24))), (4, .ref qd), (0, .ref b), (1, .ref wa), (2, .int p0), (3, .int p1)]) hx hb dL_isDelta_137 hl (by decide) rfl (fun ls hl => ?_)
                refine lv_iinc (v := (k9 + 1)) (lv' := [(9, .int (k9 + 1)), (7, .long ((((31 * h7) + (Int32.toInt64 (rd (wr d9 k9 (F_L_isDelta_j94 p1 k9 ww p0)) k9))) + 1) - (((31 * h7) + (Int32.toInt64 (rd (wr d9 k9 (F_L_isDelta_j94 p1 k9 ww p0)) k9))) + 1) / 65521 * 65521)), (6, .int (F_L_isDelta_j116 r_50 k9)), (5, .int (1 + (p1 - p1 / 24 * 24))), (4, .ref qd), (0, .ref b), (1, .ref wa), (2, .int p0), (3, .int p1)]) hx hb dL_isDelta_139 hl (k := 2) rfl rfl (by decide) rfl (fun ls hl => ?_)
                refine lv_goto (tgt := 36) hx hb dL_isDelta_142 (by decide) ?_
                refine W.widen (k := 1 + (j + 1)) (n := 24 + 6 * (j + 1)) (by omega) (by omega) ?_
                exact ih36 (j + 1) (F_L_isDelta_j116 r_50 k9) ((((31 * h7) + (Int32.toInt64 (rd (wr d9 k9 (F_L_isDelta_j94 p1 k9 ww p0)) k9))) + 1) - (((31 * h7) + (Int32.toInt64 (rd (wr d9 k9 (F_L_isDelta_j94 p1 k9 ww p0)) k9))) + 1) / 65521 * 65521) (k9 + 1) u_49 (wr d9 k9 (F_L_isDelta_j94 p1 k9 ww p0)) (by omega) (by omega) (by rw [ik]; exact nI_1 j) (dr_s (by rw [rd_wr_eq rfl]; exact j94_ok hby hz ik hj24) id hj24 h_48) (by subst ik; rw [← ie, (show s9 - j = (s9 - (j + 1)) + 1 by omega), drN, if_neg c_46]; simp only [← h_48]) _ _ hP hD hS ls (lv_sub hl [0, 1, 2, 3, 4, 5, 6, 7, 8] rfl)
              refine lv_iload hx hb dL_isDelta_104 (lv_at hl 0 rfl) ?_
              refine lv_iconst (v := 1) hx hb dL_isDelta_106 (by decide) ?_
              refine lv_iadd hx hb dL_isDelta_107 ?_
              refine lv_icmp_ne (tgt := 115) hx hb dL_isDelta_108 (by decide) (fun c_52 => ?_) (fun c_52 => ?_)
              · skip
                refine lv_iconst (v := 0) hx hb dL_isDelta_115 (by decide) ?_
                exact jn116 _ (by simp only [F_L_isDelta_j116, if_neg c_52]) ls (lv_sub hl [0, 1, 2, 3, 4, 5, 6, 7, 8] rfl)
              · skip
                refine lv_iconst (v := 1) hx hb dL_isDelta_111 (by decide) ?_
                refine lv_goto (tgt := 116) hx hb dL_isDelta_112 (by decide) ?_
                exact jn116 _ (by simp only [F_L_isDelta_j116, if_pos c_52]) ls (lv_sub hl [0, 1, 2, 3, 4, 5, 6, 7, 8] rfl)
            refine lv_iload_n hx hb dL_isDelta_52 rfl (lv_at hl 8 rfl) ?_
            refine lv_bipush (v := 24) hx hb dL_isDelta_53 (by decide) ?_
            refine lv_idiv hx hb dL_isDelta_55 (by decide) ?_
            refine lv_iload hx hb dL_isDelta_56 (lv_at hl 0 rfl) ?_
            refine lv_bipush (v := 7) hx hb dL_isDelta_58 (by decide) ?_
            refine lv_irem hx hb dL_isDelta_60 (by decide) ?_
            refine lv_ishr hx hb dL_isDelta_61 ?_
            refine lv_iconst (v := 1) hx hb dL_isDelta_62 (by decide) ?_
            refine lv_iand hx hb dL_isDelta_63 ?_
            refine lv_iconst (v := 1) hx hb dL_isDelta_64 (by decide) ?_
            refine lv_icmp_ne (tgt := 78) hx hb dL_isDelta_65 (by decide) (fun c_47 => ?_) (fun c_47 => ?_)
            · skip
              refine lv_aload_n hx hb dL_isDelta_78 rfl (lv_at hl 6 rfl) ?_
              refine lv_bipush (v := 32) hx hb dL_isDelta_79 (by decide) ?_
              refine lv_iload_n hx hb dL_isDelta_81 rfl (lv_at hl 7 rfl) ?_
              refine lv_imul hx hb dL_isDelta_82 ?_
              refine lv_iconst (v := 5) hx hb dL_isDelta_83 (by decide) ?_
              refine lv_iadd hx hb dL_isDelta_84 ?_
              refine lv_iload hx hb dL_isDelta_85 (lv_at hl 0 rfl) ?_
              refine lv_iload_n hx hb dL_isDelta_87 rfl (lv_at hl 8 rfl) ?_
              refine lv_iadd hx hb dL_isDelta_88 ?_
              refine lv_bipush (v := 8) hx hb dL_isDelta_89 (by decide) ?_
              refine lv_irem hx hb dL_isDelta_91 (by decide) ?_
              refine lv_iadd hx hb dL_isDelta_92 ?_
              refine bx_ald (D := D) hx hb hK hP 11 0 rfl rfl (ix_8 hs hz ik hj24) dL_isDelta_93 ?_
              exact jn94 _ (by simp only [F_L_isDelta_j94, if_neg c_47]) ls (lv_sub hl [0, 1, 2, 3, 4, 5, 6, 7, 8] rfl)
            · skip
              refine lv_iconst (v := 1) hx hb dL_isDelta_68 (by decide) ?_
              refine lv_iload hx hb dL_isDelta_69 (lv_at hl 0 rfl) ?_
              refine lv_bipush (v := 9) hx hb dL_isDelta_71 (by decide) ?_
              refine lv_irem hx hb dL_isDelta_73 (by decide) ?_
              refine lv_iadd hx hb dL_isDelta_74 ?_
              refine lv_goto (tgt := 94) hx hb dL_isDelta_75 (by decide) ?_
              exact jn94 _ (by simp only [F_L_isDelta_j94, if_pos c_47]) ls (lv_sub hl [0, 1, 2, 3, 4, 5, 6, 7, 8] rfl)
    refine W.widen (k := 1 + (0)) (n := 24 + 6 * (0)) (by omega) (by omega) ?_
    exact loop36 25 0 (F_L_isDelta_j26 r_5) 17 0 u_4 (fun _ => 0) (by omega) (by omega) nI_0.symm hd0 rfl _ _ hP hD hS ls (lv_sub hl [0, 1, 2, 3, 4, 5, 6, 7, 8] rfl)
  refine lv_if_lt (tgt := 25) hx hb dL_isDelta_18 (by decide) (fun c_7 => ?_) (fun c_7 => ?_)
  · skip
    refine lv_iconst (v := 0) hx hb dL_isDelta_25 (by decide) ?_
    exact jn26 _ (by simp only [F_L_isDelta_j26, if_pos c_7]) ls (lv_sub hl [0, 1, 2, 3, 4, 5] rfl)
  · skip
    refine lv_iconst (v := 1) hx hb dL_isDelta_21 (by decide) ?_
    refine lv_goto (tgt := 26) hx hb dL_isDelta_22 (by decide) ?_
    exact jn26 _ (by simp only [F_L_isDelta_j26, if_neg c_7]) ls (lv_sub hl [0, 1, 2, 3, 4, 5] rfl)
