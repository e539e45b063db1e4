/-! THE ACT OF OFFERING -/
section OFF
variable {σ ρ : FS} {τ : TS} {δ : DS} {run : Int32} {ww rr mm ll : Nat → Int32} {v : Nat → Nat} {e b : Nat} {p0 p1 : Int32}
theorem write_cw (h : AbsS σ v) {i : Nat} (hi : i < 66) (x : Nat) : F_X2_write σ (nI i) (nI x) = (nI (cw [(i, x)] σ).1, (cw [(i, x)] σ).2) := by
  rw [cw]
  have e := write_a h hi x
  by_cases c : σ.2.2 = 0
  · rw [if_pos c] at e; rw [e]; rfl
  · rw [if_neg c] at e; rw [e]; rfl
theorem zq (hz : zOk p1) (a d : Nat) (ha : 0 < a) (hd : 0 < d) (ha2 : a < 1000) (hd2 : d < 1000) : ∃ r, r < d ∧ (p1 / nI a - p1 / nI a / nI d * nI d : Int32) = nI r := by
  obtain ⟨q, rfl, hq⟩ := hz
  have : q / a ≤ q := Nat.div_le_self _ _
  exact ⟨q / a % d, Nat.mod_lt _ hd, by rw [pk_div (by omega) ha (by omega), pk_rem (by omega) hd (by omega)]⟩
theorem zr (hz : zOk p1) (d : Nat) (hd : 0 < d) (hd2 : d < 1000) : ∃ r, r < d ∧ (p1 - p1 / nI d * nI d : Int32) = nI r := by
  obtain ⟨q, rfl, hq⟩ := hz
  exact ⟨q % d, Nat.mod_lt _ hd, by rw [pk_rem (by omega) hd (by omega)]⟩
theorem told_lt : ∀ n, n ≤ 24 → ∃ h, h < 65521 ∧ toldL n = lN h
  | 0, _ => ⟨17, by decide, rfl⟩
  | n + 1, hn => by
    obtain ⟨h, h1, e⟩ := told_lt n (by omega)
    exact ⟨(31 * h + n + 4) % 65521, Nat.mod_lt _ (by decide), by rw [toldL, e, nI_l (by omega), show (31 : Int64) = lN 31 from rfl, show (65521 : Int64) = lN 65521 from rfl, show (4 : Int64) = lN 4 from rfl, lN_mul, lN_add, lN_add, pk_lRem (by omega) (by omega) (by omega)]⟩
theorem told_n {l : Nat} (hl : l ≤ 24) (p1 : Int32) : ∃ h, h ≤ 65520 ∧ F_L_told (nI l) p1 = nI h := by
  unfold F_L_told
  split
  · exact ⟨77, by decide, rfl⟩
  · obtain ⟨h, h1, e⟩ := told_lt l hl
    exact ⟨h, by omega, by rw [nI_clamp (by omega), e, lN_i]⟩
theorem within_n {x lo hi : Nat} (h1 : lo ≤ x) (h2 : x ≤ hi) (h3 : hi < 2 ^ 31) : F_X5_requireWithin (nI x) (nI lo) (nI hi) = 0 := by
  unfold F_X5_requireWithin
  rw [if_neg (nI_nlt h1 (by omega)), if_pos (nI_le h2 h3)]
theorem runOk.at (h : runOk v b run) (N : NI e v b) : run = -1 ∨ ∃ s, s < 2 ∧ run = nI s ∧ good v s ∧ (s = cnf v b ∨ (dueR v b ∧ s = 1 - cnf v b)) := by
  have hc := N.c2
  rcases h with h | h | ⟨h1, h2, h3⟩
  · exact Or.inl h
  · exact Or.inr ⟨_, hc, h, N.2.1, Or.inl rfl⟩
  · exact Or.inr ⟨_, by omega, h2, h3, Or.inr ⟨h1, rfl⟩⟩
theorem j12_off (hr : run = mm 0) (h : run = -1) : F_L_updates_j12 mm = 0 := by
  unfold F_L_updates_j12
  rw [rd0, ← hr, h]; decide
theorem j12_on (hr : run = mm 0) {s : Nat} (hs : s < 2) (h : run = nI s) : ¬ F_L_updates_j12 mm = 0 := by
  unfold F_L_updates_j12
  rw [rd0, ← hr, h, if_neg (nI_pos (by omega))]; decide
theorem j113_n (hw : AbsW ww rr v) (N : NI e v b) (he : e ≤ 890) (hz : zOk p1) : ∃ C, C ≤ 2 * (e + 1) ∧ F_L_updates_j113 rr p1 = nI C := by
  have hct := N.ct
  obtain ⟨r, hr, er⟩ := zq hz 12 3 (by decide) (by decide) (by decide) (by decide)
  have e99 : ∃ j, j < 2 ∧ F_L_updates_j99 p1 = nI j := by
    unfold F_L_updates_j99
    split
    · exact ⟨1, by decide, rfl⟩
    · exact ⟨0, by decide, rfl⟩
  obtain ⟨j, hj, ej⟩ := e99
  unfold F_L_updates_j113
  rw [lct_n hw N (by omega), show (12 : Int32) = nI 12 from rfl, n3, er, ej, nI_add]
  by_cases c : j ≤ ctrR v b + r
  · rw [pk_sub c, if_pos (nI_pos' (by omega))]
    exact ⟨_, by omega, rfl⟩
  · have : (nI (ctrR v b + r) - nI j).toInt = ((ctrR v b + r : Nat) : Int) - j := pk_sub_toInt (by omega) (by omega)
    rw [if_neg (fun z => by have h2 := Int32.le_iff_toInt_le.mp z; rw [this] at h2; have e0 : (0 : Int32).toInt = 0 := rfl; omega)]
    exact ⟨0, by omega, rfl⟩
theorem ver_bnd {s : Nat} (N : NI e v b) (hs : s < 2) : v (29 * s + 1) ≤ 1 + 2 * e := by
  have h := N.2.2 (29 * s + 1) (by omega)
  unfold bnd at h
  rw [if_pos (by omega), if_neg (by omega), if_pos (by omega)] at h
  exact h
theorem len_n (hz : zOk p1) : ∃ L, 1 ≤ L ∧ L ≤ 4 ∧ (1 + (p1 / 3 - p1 / 3 / 4 * 4) : Int32) = nI L := by
  obtain ⟨r, hr, er⟩ := zq hz 3 4 (by decide) (by decide) (by decide) (by decide)
  exact ⟨1 + r, by omega, by omega, by rw [n3, n4, er, n1', nI_add]⟩
theorem j51_n (hw : AbsW ww rr v) (N : NI e v b) (hro : runOk v b run) (hv : VI v) (hr : run = mm 0) : ∃ x, 1 ≤ x ∧ x ≤ 1 + 2 * e ∧ F_L_updates_j51 mm ww = nI x ∧ ∀ s, s < 2 → run = nI s → x = v (29 * s + 1) := by
  unfold F_L_updates_j51
  rcases hro.at N with h | ⟨s, hs, es, hg, -⟩
  · rw [if_pos (j12_off hr h)]
    exact ⟨1, by omega, by omega, rfl, fun s hs z => absurd (z.symm.trans h) (nI_m1 (by omega))⟩
  · rw [if_neg (j12_on hr hs es), rd0, ← hr, es, show rd ww (32 * nI s + 1) = nI (v (29 * s + 1)) from lw (j := 1) hw hs (by omega)]
    exact ⟨_, hv s hs hg.1, ver_bnd N hs, rfl, fun s2 hs2 z => by rw [(nI_eq (by omega) (by omega)).mp z]⟩
/-- the law's own 'can' -/
def canO (v : Nat → Nat) (b V C : Nat) (s : Nat) : Prop := ¬ dueR v b ∧ v (29 * s + 1) < V ∧ ctrR v b ≤ C
theorem j163_n (hw : AbsW ww rr v) (N : NI e v b) (he : e ≤ 890) (hr : run = mm 0) {V C s : Nat} (hs : s < 2) (es : run = nI s) (hV : V < 65536) (hC : C < 65536) (eV : F_L_updates_j51 mm ww + (p1 - p1 / 3 * 3) = nI V) (eC : F_L_updates_j113 rr p1 = nI C) : (F_L_updates_j163 mm rr ww p1 = 0 ↔ ¬ canO v b V C s) := by
  have hct := N.ct
  have hvb := ver_bnd N hs
  unfold F_L_updates_j163 canO dueR
  rw [if_neg (j12_on hr hs es), ldue_n hw N (by omega), eV, eC, lct_n hw N (by omega), rd0, ← hr, es, show rd ww (32 * nI s + 1) = nI (v (29 * s + 1)) from lw (j := 1) hw hs (by omega)]
  simp only [leI (show V < 2 ^ 31 by omega) (show v (29 * s + 1) < 2 ^ 31 by omega), ltI (show C < 2 ^ 31 by omega) (show ctrR v b < 2 ^ 31 by omega)]
  by_cases d : sttR v b / 2 % 2 = 1
  · rw [if_pos d, if_neg (by decide)]
    exact ⟨fun _ z => z.1 d, fun _ => rfl⟩
  · rw [if_neg d, if_pos rfl]
    by_cases c : V ≤ v (29 * s + 1)
    · rw [if_pos c]; exact ⟨fun _ z => by omega, fun _ => rfl⟩
    · rw [if_neg c]
      by_cases k : C < ctrR v b
      · rw [if_pos k]; exact ⟨fun _ z => by omega, fun _ => rfl⟩
      · rw [if_neg k]; exact ⟨fun z => absurd z (by decide), fun z => absurd ⟨d, by omega, by omega⟩ z⟩
/-- the class, its arguments in range -/
theorem offer_e {V L H C : Nat} (h1 : 1 ≤ V) (h2 : V ≤ 9999) (h3 : 1 ≤ L) (h4 : L ≤ 24) (h5 : H ≤ 65520) (h6 : C ≤ 9999) : F_X5_offer σ τ run (nI V) (nI L) (nI H) (nI C) = if F_X5_requireOn run = 0 then (if F_X3_isTrialDue σ = 0 then (if nI V ≤ F_X3_slotWord σ run 1 then (2, 0, σ, τ, run) else (if F_X3_recordCounter σ ≤ nI C then (0, (F_X5_stayOn (F_X4_begin (nI V) (nI L) (nI H) (nI C)) run (F_X3_writeSlotWord σ (F_X5_idleSlot run) 0 0).1).1, (F_X3_writeSlotWord σ (F_X5_idleSlot run) 0 0).2, (F_X5_stayOn (F_X4_begin (nI V) (nI L) (nI H) (nI C)) run (F_X3_writeSlotWord σ (F_X5_idleSlot run) 0 0).1).2) else (2, 0, σ, τ, run))) else (2, 0, σ, τ, run)) else (F_X5_requireOn run, 0, σ, τ, run) := by
  unfold F_X5_offer
  rw [if_pos (show F_X5_requireWithin (nI V) 1 9999 = 0 from within_n (lo := 1) (hi := 9999) h1 h2 (by decide)), if_pos (show F_X5_requireWithin (nI L) 1 24 = 0 from within_n (lo := 1) (hi := 24) h3 h4 (by decide)), if_pos (show F_X5_requireWithin (nI H) 0 65520 = 0 from within_n (lo := 0) (hi := 65520) (by omega) h5 (by decide)), if_pos (show F_X5_requireWithin (nI C) 0 9999 = 0 from within_n (lo := 0) (hi := 9999) (by omega) h6 (by decide))]
theorem rOn_off (h : run = -1) : F_X5_requireOn run = 2 := by
  unfold F_X5_requireOn F_X5_isOn
  rw [if_pos h, if_pos rfl]
theorem rOn_on {s : Nat} (hs : s < 2) (h : run = nI s) : F_X5_requireOn run = 0 := by
  unfold F_X5_requireOn F_X5_isOn
  have hm : ¬ run = -1 := by rw [h]; exact nI_m1 (by omega)
  rw [if_neg hm, if_neg (show ¬ (1 : Int32) = 0 by decide)]
theorem stay_e (τ : TS) (run r : Int32) : F_X5_stayOn τ run r = if r = 0 then (r, F_X4_end τ, -1) else (r, τ, run) := rfl
theorem not_off {V L H C : Nat} (h2 : (F_X5_offer σ τ run (nI V) (nI L) (nI H) (nI C)).1 = 2) : F_L_offered σ τ run (nI V) (nI L) (nI H) (nI C) = (-2, σ, τ, run) := by
  unfold F_L_offered
  rw [h2, if_neg (by decide)]
/-- the act, and that no argument of it is out of range -/
theorem offer_1 (S : Sim e v b σ τ δ run ww rr mm) (he : e ≤ 890) (hl : rd ll 0 = nI 0) (hz : zOk p1) (hp : ¬ 3 ≤ p0) : NTo σ τ run ww rr mm p1 ∧ ∃ σ' τ' run' l' w' r' m', F_L_updates σ ρ τ run ll ww rr mm p0 p1 = (1, σ', ρ, τ', run', l', w', r', m') ∧ Inv2 (e + 2) σ' τ' δ run' w' r' m' := by
  have S0 := S
  obtain ⟨h, hw, ⟨hg, hf⟩, hr, N, hro, ht, hd, hv⟩ := S
  have hc := N.c2
  have hct := N.ct
  obtain ⟨x, hx1, hx2, ex, hx3⟩ := j51_n hw N hro hv hr
  obtain ⟨r3, hr3, er3⟩ := zr hz 3 (by decide) (by decide)
  obtain ⟨L, hL1, hL2, eL⟩ := len_n hz
  obtain ⟨H, hH, eH⟩ := told_n (l := L) (by omega) p1
  obtain ⟨C, hC, eC⟩ := j113_n hw N he hz
  have eV : F_L_updates_j51 mm ww + (p1 - p1 / 3 * 3) = nI (x + r3) := by rw [ex, n3, er3, nI_add]
  have eH' : F_L_told (1 + (p1 / 3 - p1 / 3 / 4 * 4)) p1 = nI H := by rw [eL, eH]
  have OE := fun (σ : FS) => offer_e (σ := σ) (τ := τ) (run := run) (V := x + r3) (L := L) (H := H) (C := C) (by omega) (by omega) hL1 (by omega) hH (by omega)
  have hbase : Inv2 (e + 2) σ τ δ run ww rr mm := ⟨v, b, h, hw, ⟨hg, hf⟩, hr, N.mono (by omega), hro, ht.mono (by omega), hd, hv⟩
  have no : F_L_updates_j163 mm rr ww p1 = 0 → (F_X5_offer σ τ run (nI (x + r3)) (nI L) (nI H) (nI C)).1 = 2 → NTo σ τ run ww rr mm p1 ∧ ∃ σ' τ' run' l' w' r' m', F_L_updates σ ρ τ run ll ww rr mm p0 p1 = (1, σ', ρ, τ', run', l', w', r', m') ∧ Inv2 (e + 2) σ' τ' δ run' w' r' m' := by
    intro c1 c2
    refine ⟨?_, σ, τ, run, ll, ww, rr, mm, ?_, hbase⟩
    · unfold NTo
      rw [eV, eL, eH, eC, c2]; decide
    · unfold F_L_updates
      rw [if_neg hp, if_pos c1, carry_0 hl, eV, eH', eL, eC, not_off c2]
      dsimp only
      rw [if_pos (show (-2 : Int32) = F_L_updates_j269 from rfl)]
  rcases hro.at N with h0 | ⟨s, hs, es, hgd, hsc⟩
  · refine no ?_ ?_
    · unfold F_L_updates_j163
      exact if_pos (j12_off hr h0)
    · rw [OE, rOn_off h0, if_neg (by decide)]
  · have hcan := j163_n (p1 := p1) hw N he hr (V := x + r3) (C := C) hs es (by omega) (by omega) eV eC
    have hsw : F_X3_slotWord σ run 1 = nI (v (29 * s + 1)) := by rw [es]; exact slotW_a (j := 1) h hs (by omega)
    have hvb := ver_bnd N hs
    by_cases c : canO v b (x + r3) C s
    · -- it begins
      obtain ⟨c1, c2, c3⟩ := c
      have hsc' : s = cnf v b := hsc.resolve_right (fun z => c1 z.1)
      have hidle : F_X5_idleSlot run = nI (1 - s) := by
        unfold F_X5_idleSlot
        rw [es, n1', pk_sub (by omega)]
      have hwS : F_X3_writeSlotWord σ (F_X5_idleSlot run) 0 0 = (nI (cw [(29 * (1 - s), 0)] σ).1, (cw [(29 * (1 - s), 0)] σ).2) := by
        rw [hidle]
        exact (wSlot (o := 1 - s) (j := 0) σ 0).trans (write_cw h (by omega) 0)
      have hOE : F_X5_offer σ τ run (nI (x + r3)) (nI L) (nI H) (nI C) = (0, (F_X5_stayOn (F_X4_begin (nI (x + r3)) (nI L) (nI H) (nI C)) run (nI (cw [(29 * (1 - s), 0)] σ).1)).1, (cw [(29 * (1 - s), 0)] σ).2, (F_X5_stayOn (F_X4_begin (nI (x + r3)) (nI L) (nI H) (nI C)) run (nI (cw [(29 * (1 - s), 0)] σ).1)).2) := by
        rw [OE, if_pos (rOn_on hs es), due_n h N (by omega), if_neg (show ¬ sttR v b / 2 % 2 = 1 from c1), if_pos rfl, hsw, if_neg (fun z => absurd ((nI_leI (by omega) (by omega)).mp z) (by omega)), rcnt_n h N (by omega), if_pos (nI_le c3 (by omega)), hwS]
      have hother : 32 * (1 - rd mm 0) = nI (32 * (1 - s)) := by rw [rd0, ← hr, es, n1', pk_sub (by omega), show (32 : Int32) = nI 32 from rfl, pk_mul]
      have hphi : phi (29 * (1 - s)) = 32 * (1 - s) := phi_w (j := 0) (by omega) (by omega)
      have hPL := PL_plan (PL_nil hl) (by decide) (29 * (1 - s)) 0 (show 32 * (1 - rd mm 0) = nI (phi (29 * (1 - s))) by rw [hother, hphi]) rfl
      rw [List.nil_append] at hPL
      have mq : ∀ k, k ≤ 2 → (wr (wr (wr (wr (wr mm 3 0) 4 (nI (x + r3))) 5 (nI L)) 6 (nI H)) 7 (nI C)) k = mm k := fun k hk => by
        rw [show (7 : Int32) = nI 7 from rfl, show (6 : Int32) = nI 6 from rfl, n5, n4, n3, wr_no _ _ _ (by omega) (by omega), wr_no _ _ _ (by omega) (by omega), wr_no _ _ _ (by omega) (by omega), wr_no _ _ _ (by omega) (by omega), wr_no _ _ _ (by omega) (by omega)]
      obtain ⟨n, v2, σ2, w2, r2, m2, q1, q2, q3, q4, q5, q6, q7, q8⟩ := sync (mm := wr (wr (wr (wr (wr mm 3 0) 4 (nI (x + r3))) 5 (nI L)) 6 (nI H)) 7 (nI C)) h hw (hg.trans (mq 2 (by omega)).symm) (hf.trans (mq 1 (by omega)).symm) hPL (show 1 ≤ 15 by decide) (fun q hq => by rw [List.mem_singleton.mp hq]; show 29 * (1 - s) < 66; omega)
      have hlen : [(29 * (1 - s), 0)].length = 1 := rfl
      rw [hlen] at q1 q8
      rw [q2] at hOE
      have hz0 : v2 (29 * (1 - s)) = 0 := by
        have z := congrArg (fun q => q.2.1) q4
        dsimp only at z
        rw [← z, wrun]
        by_cases c : σ.2.2 = 0
        · rw [if_pos c]; show upn v (29 * (1 - s)) (v (29 * (1 - s)) &&& 0) (29 * (1 - s)) = 0; rw [upn_e rfl, Nat.and_zero]
        · rw [if_neg c]; exact upn_e rfl
      have NS := NI.slot (L := [(29 * (1 - s), 0)]) (g := σ.2.1) (w := σ.2.2) N (fun q hq => by rw [List.mem_singleton.mp hq, hsc']; dsimp only; omega) (fun q hq => by rw [List.mem_singleton.mp hq]; exact Nat.zero_le _)
      have hfr : ∀ i, i ≠ 29 * (1 - s) → v2 i = v i := fun i hi => by
        have z := wrun_frame [(29 * (1 - s), 0)] v σ.2.1 σ.2.2 i (fun q hq => by rw [List.mem_singleton.mp hq]; exact fun z => hi z.symm)
        rw [q4] at z; exact z
      rw [q4] at NS
      obtain ⟨N2, f1, f2⟩ := NS
      obtain ⟨t1, t2, t3, t4⟩ := NI.same (b := b) f1
      have hv2 : VI v2 := fun s2 hs2 hm => by
        by_cases z : s2 = 1 - s
        · rw [z, hz0] at hm; exact absurd hm (by decide)
        · rw [hfr _ (by omega)] at hm ⊢; exact hv s2 hs2 hm
      have hcn : ¬ F_L_updates_j163 mm rr ww p1 = 0 := fun z => hcan.mp z ⟨c1, c2, c3⟩
      refine ⟨by unfold NTo; rw [eV, eL, eH, eC, hOE]; exact n01, ?_⟩
      have hoff : F_L_offered σ τ run (nI (x + r3)) (nI L) (nI H) (nI C) = if n = 1 then (1, σ2, F_X4_begin (nI (x + r3)) (nI L) (nI H) (nI C), run) else (0, σ2, F_X4_end (F_X4_begin (nI (x + r3)) (nI L) (nI H) (nI C)), -1) := by
        unfold F_L_offered
        rw [hOE]
        dsimp only
        rw [if_pos rfl, stay_e]
        by_cases k : n = 1
        · rw [if_pos k, k]
          simp only [if_neg (show ¬ nI 1 = 0 by decide)]
        · have k0 : n = 0 := by omega
          rw [if_neg k, k0]
          simp only [if_pos (show nI 0 = 0 by decide)]
      refine ⟨σ2, (if n = 1 then F_X4_begin (nI (x + r3)) (nI L) (nI H) (nI C) else F_X4_end (F_X4_begin (nI (x + r3)) (nI L) (nI H) (nI C))), (if n = 1 then run else -1), F_L_plan ll (32 * (1 - rd mm 0)) 0, w2, r2, m2, ?_, ?_⟩
      · unfold F_L_updates
        rw [if_neg hp, if_neg hcn, eV, eH', eL, eC]
        have q3' : F_L_carry (F_L_plan ll (32 * (1 - rd mm 0)) 0) ww rr (wr (wr (wr (wr (wr mm 3 0) 4 (nI (x + r3))) 5 (nI L)) 6 (nI H)) 7 (nI C)) = (nI n, w2, r2, m2) := q3
        simp only [q3', hoff]
        by_cases k : n = 1
        · simp only [if_pos k]
          rw [if_pos (by rw [k]; decide)]
        · have k0 : n = 0 := by omega
          simp only [if_neg k]
          rw [if_pos (by rw [k0]; decide)]
      · refine ⟨v2, b, q5, q6, q7, ?_, N2.mono (by omega), ?_, ?_, hd, hv2⟩
        · by_cases k : n = 1
          · rw [if_pos k, q8.1 k 0 (by omega) (by omega), mq 0 (by omega)]; exact hr
          · rw [if_neg k]; exact ((q8.2 (by omega)).1).symm
        · by_cases k : n = 1
          · rw [if_pos k]; exact Or.inr (Or.inl (by rw [t4, ← hsc']; exact es))
          · rw [if_neg k]; exact Or.inl rfl
        · by_cases k : n = 1
          · rw [if_pos k, if_pos k]
            have mm' : ∀ i, 3 ≤ i → m2 i = (wr (wr (wr (wr (wr mm 3 0) 4 (nI (x + r3))) 5 (nI L)) 6 (nI H)) 7 (nI C)) i := fun i hi => q8.1 k i (by omega) (by omega)
            refine Or.inr ⟨rfl, by rw [t4, ← hsc']; exact es, by unfold dueR; rw [t1]; exact c1, 0, L, x + r3, H, C, ⟨rfl, ?_⟩, ⟨rfl, ?_⟩, ⟨rfl, ?_⟩, ⟨rfl, ?_⟩, ⟨rfl, ?_⟩, by omega, hL1, hL2, by omega, hH, by omega, by omega, ?_⟩
            · rw [mm' 3 (by omega), show (7 : Int32) = nI 7 from rfl, show (6 : Int32) = nI 6 from rfl, n5, n4, n3, wr_no _ _ _ (by omega) (by omega), wr_no _ _ _ (by omega) (by omega), wr_no _ _ _ (by omega) (by omega), wr_no _ _ _ (by omega) (by omega), wr_at _ _ _ (by omega) rfl]; rfl
            · rw [mm' 5 (by omega), show (7 : Int32) = nI 7 from rfl, show (6 : Int32) = nI 6 from rfl, n5, wr_no _ _ _ (by omega) (by omega), wr_no _ _ _ (by omega) (by omega), wr_at _ _ _ (by omega) rfl]
            · rw [mm' 4 (by omega), show (7 : Int32) = nI 7 from rfl, show (6 : Int32) = nI 6 from rfl, n5, n4, wr_no _ _ _ (by omega) (by omega), wr_no _ _ _ (by omega) (by omega), wr_no _ _ _ (by omega) (by omega), wr_at _ _ _ (by omega) rfl]
            · rw [mm' 6 (by omega), show (7 : Int32) = nI 7 from rfl, show (6 : Int32) = nI 6 from rfl, wr_no _ _ _ (by omega) (by omega), wr_at _ _ _ (by omega) rfl]
            · rw [mm' 7 (by omega), show (7 : Int32) = nI 7 from rfl, wr_at _ _ _ (by omega) rfl]
            · rw [t4, ← hsc']; exact hz0
          · rw [if_neg k, if_neg k]
            exact Or.inl ⟨rfl, (q8.2 (by omega)).2.1⟩
    · -- it is refused
      refine no (hcan.mpr c) ?_
      rw [OE, if_pos (rOn_on hs es), due_n h N (by omega), hsw, rcnt_n h N (by omega)]
      by_cases d : sttR v b / 2 % 2 = 1
      · rw [if_pos d, if_neg (by decide)]
      · rw [if_neg d, if_pos rfl]
        by_cases k : x + r3 ≤ v (29 * s + 1)
        · rw [if_pos (nI_le k (by omega))]
        · rw [if_neg (fun z => k ((nI_leI (by omega) (by omega)).mp z)), if_neg (fun z => c ⟨d, by omega, (nI_leI (by omega) (by omega)).mp z⟩)]
end OFF
