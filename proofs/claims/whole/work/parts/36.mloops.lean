/-- the words that the reference's own arithmetic rests on: both records' states, both slots' lengths -/
def okW (fl : Nat → Int32) : Prop := (0 ≤ (fl 60).toInt ∧ 0 ≤ (fl 64).toInt) ∧ ∀ i, i = 2 ∨ i = 31 → (fl i).toNatClampNeg ≤ 24
theorem okW.L {fl : Nat → Int32} (h : okW fl) : okL fl := by
  intro z hz
  rcases hz with rfl | rfl
  · exact h.2 2 (Or.inl rfl)
  · exact h.2 31 (Or.inr rfl)
theorem and_rng (a : Int32) {b : Int32} (hb : 0 ≤ b.toInt) : 0 ≤ (a &&& b).toInt ∧ (a &&& b).toInt ≤ b.toInt := by
  have h1 : (a &&& b).toBitVec.toNat ≤ b.toBitVec.toNat := by
    rw [Int32.toBitVec_and, BitVec.toNat_and]; exact Nat.and_le_right
  have hb2 : b.toInt = b.toBitVec.toNat := by
    have h := BitVec.toInt_eq_toNat_cond b.toBitVec
    have e : b.toInt = b.toBitVec.toInt := rfl
    have h3 := b.toBitVec.isLt
    rw [e, h] at hb ⊢
    split at hb <;> split <;> omega
  have h4 := BitVec.toInt_eq_toNat_cond (a &&& b).toBitVec
  have e4 : (a &&& b).toInt = (a &&& b).toBitVec.toInt := rfl
  have h5 : 2 * b.toBitVec.toNat < 2 ^ 32 := by
    have := Int32.toInt_lt b
    omega
  rw [e4, h4, if_pos (by omega), hb2]
  omega
def okV (i : Int32) (v : Int32) : Prop := (i.toNatClampNeg = 60 ∨ i.toNatClampNeg = 64 → 0 ≤ v.toInt) ∧ (i.toNatClampNeg = 2 ∨ i.toNatClampNeg = 31 → 0 ≤ v.toInt ∧ v.toInt ≤ 24)
theorem okW_wr {fl : Nat → Int32} (h : okW fl) {i v : Int32} (hv : okV i v) : okW (wr fl i v) := by
  unfold wr upd
  refine ⟨⟨?_, ?_⟩, fun k hk => ?_⟩
  · dsimp only; split
    · rename_i e; exact hv.1 (Or.inl e.symm)
    · exact h.1.1
  · dsimp only; split
    · rename_i e; exact hv.1 (Or.inr e.symm)
    · exact h.1.2
  · dsimp only; split
    · rename_i e
      have h2 := hv.2 (by rcases hk with rfl | rfl; exact Or.inl e.symm; exact Or.inr e.symm)
      show v.toInt.toNat ≤ 24
      omega
    · exact h.2 k hk
theorem okV.and {i v : Int32} (h : okV i v) (a : Int32) : okV i (a &&& v) := by
  refine ⟨fun hi => (and_rng a (h.1 hi)).1, fun hi => ?_⟩
  have h2 := h.2 hi
  have h3 := and_rng a h2.1
  exact ⟨h3.1, by omega⟩
theorem lays_ok {fl : Nat → Int32} {on rn lf wt cm i v r : Int32} {u : (Nat → Int32) × Int32 × Int32 × Int32 × Int32 × Int32} (h : okW fl) (hv : okV i v) (e : (r, u) = F_X6_lays fl on rn lf wt cm i v) : okW u.1 := by
  unfold F_X6_lays at e
  split at e
  · cases e; exact okW_wr h (hv.and _)
  · split at e <;> (cases e; exact okW_wr h hv)
theorem okV_no {i v : Int32} (h : ¬ (i.toNatClampNeg = 60 ∨ i.toNatClampNeg = 64) ∧ ¬ (i.toNatClampNeg = 2 ∨ i.toNatClampNeg = 31)) : okV i v := ⟨fun z => absurd z h.1, fun z => absurd z h.2⟩
theorem okV_st {i v : Int32} (h : ¬ (i.toNatClampNeg = 2 ∨ i.toNatClampNeg = 31)) (hv : 0 ≤ v.toInt) : okV i v := ⟨fun _ => hv, fun z => absurd z h⟩
theorem okV_ln {i v : Int32} (h : 0 ≤ v.toInt ∧ v.toInt ≤ 24) : okV i v := ⟨fun _ => h.1, fun _ => h⟩
theorem records_ok {fl : Nat → Int32} {on rn lf wt cm p0 p1 r : Int32} {u : (Nat → Int32) × Int32 × Int32 × Int32 × Int32 × Int32} (h : okW fl) (hp : 0 ≤ p0.toInt) (e : (r, u) = F_X6_records fl on rn lf wt cm p0 p1) : okW u.1 := by
  have hf := sl_not (force_sl fl)
  unfold F_X6_records at e
  generalize e1 : F_X6_lays fl on rn lf wt cm ((58 + (4 * (1 - (F_X6_force fl)))) + 0) 0 = x1 at e
  obtain ⟨r1, fl1, on1, rn1, lf1, wt1, cm1⟩ := x1
  have o1 : okW fl1 := lays_ok h (okV_no (by rcases hf with z | z <;> rw [z] <;> decide)) e1.symm
  dsimp only at e
  split at e
  · cases e; exact o1
  generalize e2 : F_X6_lays fl1 on1 rn1 lf1 wt1 cm1 ((58 + (4 * (1 - (F_X6_force fl)))) + 1) _ = x2 at e
  obtain ⟨r2, fl2, on2, rn2, lf2, wt2, cm2⟩ := x2
  have o2 : okW fl2 := lays_ok o1 (okV_no (by rcases hf with z | z <;> rw [z] <;> decide)) e2.symm
  dsimp only at e
  split at e
  · cases e; exact o2
  generalize e3 : F_X6_lays fl2 on2 rn2 lf2 wt2 cm2 ((58 + (4 * (1 - (F_X6_force fl)))) + 2) p0 = x3 at e
  obtain ⟨r3, fl3, on3, rn3, lf3, wt3, cm3⟩ := x3
  have o3 : okW fl3 := lays_ok o2 (okV_st (by rcases hf with z | z <;> rw [z] <;> decide) hp) e3.symm
  dsimp only at e
  split at e
  · cases e; exact o3
  generalize e4 : F_X6_lays fl3 on3 rn3 lf3 wt3 cm3 ((58 + (4 * (1 - (F_X6_force fl)))) + 3) p1 = x4 at e
  obtain ⟨r4, fl4, on4, rn4, lf4, wt4, cm4⟩ := x4
  have o4 : okW fl4 := lays_ok o3 (okV_no (by rcases hf with z | z <;> rw [z] <;> decide)) e4.symm
  dsimp only at e
  split at e
  · cases e; exact o4
  generalize e5 : F_X6_lays fl4 on4 rn4 lf4 wt4 cm4 ((58 + (4 * (1 - (F_X6_force fl)))) + 0) _ = x5 at e
  obtain ⟨r5, fl5, on5, rn5, lf5, wt5, cm5⟩ := x5
  have o5 : okW fl5 := lays_ok o4 (okV_no (by rcases hf with z | z <;> rw [z] <;> decide)) e5.symm
  dsimp only at e
  split at e <;> (cases e; exact o5)
theorem rem2 {x : Int32} (h : 0 ≤ x.toInt) : sl (x - x / 2 * 2) := by
  obtain ⟨j, hj, rfl⟩ := nI_of (x := x) (fun z => by have := Int32.lt_iff_toInt_lt.mp z; have e0 : (0 : Int32).toInt = 0 := rfl; omega)
  rw [show (2 : Int32) = nI 2 from rfl, pk_rem hj (by decide) (by decide)]
  rcases Nat.mod_two_eq_zero_or_one j with z | z <;> rw [z]
  · exact sl_0
  · exact sl_1
theorem conf_sl {fl : Nat → Int32} (h : okW fl) : sl (F_X6_confirmedSlot fl) := by
  refine rem2 ?_
  unfold F_X6_inForce
  rcases force_sl fl with z | z <;> rw [z]
  · exact h.1.1
  · exact h.1.2
theorem st_rng {c t : Int32} (hc : sl c) (h : ¬ F_X6_in t 1 3 = 0) : 0 ≤ ((c + 2) + (4 * t)).toInt := by
  obtain ⟨h1, h2⟩ := in_of h
  obtain ⟨j, hj, rfl⟩ := nI_of2 (M := 3) (n := 3) rfl (fun z => Int32.lt_irrefl (Int32.lt_of_lt_of_le z (Int32.le_trans (by decide) h1))) h2
  rcases hc with rfl | rfl <;> (rcases (show j = 0 ∨ j = 1 ∨ j = 2 ∨ j = 3 by omega) with rfl | rfl | rfl | rfl <;> decide)
theorem finishes_ok {fl : Nat → Int32} {on rn lf wt nv nl nh nc cm p0 r : Int32} {u : (Nat → Int32) × Int32 × Int32 × Int32 × Int32 × Int32} (h : okW fl) (hr : sl rn) (hn : 0 ≤ nl.toInt ∧ nl.toInt ≤ 24) (hp : ¬ F_X6_in p0 1 3 = 0) (e : (r, u) = F_X6_finishes fl on rn lf wt nv nl nh nc cm p0) : okW u.1 := by
  have hf := sl_not hr
  unfold F_X6_finishes at e
  generalize e1 : F_X6_lays fl on rn lf wt cm ((29 * (1 - rn)) + 1) nv = x1 at e
  obtain ⟨r1, fl1, on1, rn1, lf1, wt1, cm1⟩ := x1
  have o1 : okW fl1 := lays_ok h (okV_no (by rcases hf with z | z <;> rw [z] <;> decide)) e1.symm
  dsimp only at e
  split at e
  · cases e; exact o1
  generalize e2 : F_X6_lays fl1 on1 rn1 lf1 wt1 cm1 ((29 * (1 - rn)) + 2) nl = x2 at e
  obtain ⟨r2, fl2, on2, rn2, lf2, wt2, cm2⟩ := x2
  have o2 : okW fl2 := lays_ok o1 (okV_ln hn) e2.symm
  dsimp only at e
  split at e
  · cases e; exact o2
  generalize e3 : F_X6_lays fl2 on2 rn2 lf2 wt2 cm2 ((29 * (1 - rn)) + 3) nh = x3 at e
  obtain ⟨r3, fl3, on3, rn3, lf3, wt3, cm3⟩ := x3
  have o3 : okW fl3 := lays_ok o2 (okV_no (by rcases hf with z | z <;> rw [z] <;> decide)) e3.symm
  dsimp only at e
  split at e
  · cases e; exact o3
  generalize e4 : F_X6_lays fl3 on3 rn3 lf3 wt3 cm3 ((29 * (1 - rn)) + 4) nc = x4 at e
  obtain ⟨r4, fl4, on4, rn4, lf4, wt4, cm4⟩ := x4
  have o4 : okW fl4 := lays_ok o3 (okV_no (by rcases hf with z | z <;> rw [z] <;> decide)) e4.symm
  dsimp only at e
  split at e
  · cases e; exact o4
  generalize e5 : F_X6_lays fl4 on4 rn4 lf4 wt4 cm4 ((29 * (1 - rn)) + 0) 1 = x5 at e
  obtain ⟨r5, fl5, on5, rn5, lf5, wt5, cm5⟩ := x5
  have o5 : okW fl5 := lays_ok o4 (okV_no (by rcases hf with z | z <;> rw [z] <;> decide)) e5.symm
  dsimp only at e
  split at e
  · cases e; exact o5
  generalize e6 : F_X6_records fl5 on5 rn5 lf5 wt5 cm5 _ _ = x6 at e
  obtain ⟨r6, fl6, on6, rn6, lf6, wt6, cm6⟩ := x6
  have o6 : okW fl6 := records_ok o5 (st_rng (conf_sl o5) hp) e6.symm
  dsimp only at e
  split at e <;> (cases e; exact o6)
def mcN (fr : Int32) : Nat → Nat → (Nat → Int32) → Int32 → Int32 → Int32 → Int32 → Int32 → Int32 × (Nat → Int32) × Int32 × Int32 × Int32 × Int32 × Int32
  | 0, j, fl, on, rn, lf, wt, cm => (nI j, fl, on, rn, lf, wt, cm)
  | n + 1, j, fl, on, rn, lf, wt, cm => if on = 0 then (nI j, fl, on, rn, lf, wt, cm) else match F_X6_comes fl on rn lf wt cm (rd fl (29 * rn + 5 + fr + nI j)) with
    | (r, fl1, on1, rn1, lf1, wt1, cm1) => if r = 0 then (nI j, fl1, on1, rn1, lf1, wt1, cm1) else mcN fr n (j + 1) fl1 on1 rn1 lf1 wt1 cm1
theorem mcN_off {fr : Int32} {n j : Nat} {fl : Nat → Int32} {on rn lf wt cm : Int32} (h : on = 0) : mcN fr n j fl on rn lf wt cm = (nI j, fl, on, rn, lf, wt, cm) := by
  cases n with
  | zero => rfl
  | succ n => rw [mcN, if_pos h]
theorem comes_spec {fl : Nat → Int32} {on rn lf wt cm v r on1 rn1 lf1 wt1 cm1 : Int32} {fl1 : Nat → Int32} (e : (r, fl1, on1, rn1, lf1, wt1, cm1) = F_X6_comes fl on rn lf wt cm v) : (r = 0 → on1 = 0) ∧ (¬ r = 0 → on1 = on ∧ rn1 = rn ∧ cm1 = cm + 1) := by
  unfold F_X6_comes F_X6_lays F_X6_goesOff at e
  by_cases h1 : lf = 0
  · simp only [if_pos h1, ↓reduceIte] at e; cases e; exact ⟨fun _ => rfl, fun z => absurd rfl z⟩
  · by_cases h2 : lf ≤ 0
    · simp only [if_neg h1, if_pos h2] at e
      rw [if_neg (by decide)] at e; cases e; exact ⟨fun z => absurd z (by decide), fun _ => ⟨rfl, rfl, rfl⟩⟩
    · simp only [if_neg h1, if_neg h2] at e
      rw [if_neg (by decide)] at e; cases e; exact ⟨fun z => absurd z (by decide), fun _ => ⟨rfl, rfl, rfl⟩⟩
def F_X6_copyFits (fl : Nat → Int32) (on rn p0 p1 : Int32) : Int32 := if F_X6_in p0 0 23 = 0 then 0 else if F_X6_in p1 1 24 = 0 then 0 else if on = 0 then 1 else if rd fl (29 * rn + 2) < p0 + p1 then 0 else 1
def F_X6_copyCan (nl cm p1 : Int32) : Int32 := if cm < 0 then 0 else if nl - cm < p1 then 0 else 1
def F_X6_copy (fl : Nat → Int32) (on rn lf wt nl cm p0 p1 : Int32) : Int32 × (Nat → Int32) × Int32 × Int32 × Int32 × Int32 × Int32 × Int32 := match F_X6_goes (F_X6_copyFits fl on rn p0 p1) (F_X6_copyCan nl cm p1) with
  | (r, la) => if r = 0 then (0, fl, on, rn, lf, wt, cm, la) else match mcN p0 p1.toNatClampNeg 0 fl on rn lf wt cm with
    | (n, fl1, on1, rn1, lf1, wt1, cm1) => (n, fl1, on1, rn1, lf1, wt1, cm1, la)
theorem toN {x : Int32} (h : 0 ≤ x) : x = nI x.toNatClampNeg := by
  have h1 := Int32.le_iff_toInt_le.mp h
  have e0 : (0 : Int32).toInt = 0 := rfl
  refine Int32.toInt_inj.mp ?_
  rw [nI_toInt (bx_cl x)]
  show x.toInt = (x.toInt.toNat : Int)
  omega
theorem copy_pq {p0 p1 L : Int32} (h1 : ¬ F_X6_in p0 0 23 = 0) (h2 : ¬ F_X6_in p1 1 24 = 0) (h3 : ¬ L < p0 + p1) (hL : L.toNatClampNeg ≤ 24) : ∃ a, p0 = nI a ∧ a + p1.toNatClampNeg ≤ 24 := by
  have e1 := toN (in_of h1).1
  have e2 := toN (x := p1) (Int32.le_trans (by decide) (in_of h2).1)
  have l2 := in_24 h2
  have l1 : p0.toNatClampNeg ≤ 23 := by
    have := Int32.le_iff_toInt_le.mp (in_of h1).2
    have e : (23 : Int32).toInt = 23 := rfl
    show p0.toInt.toNat ≤ 23
    omega
  refine ⟨p0.toNatClampNeg, e1, ?_⟩
  have h4 := Int32.le_iff_toInt_le.mp (Int32.not_lt.mp h3)
  rw [e1, e2, nI_add, nI_toInt (by omega)] at h4
  have h5 : L.toInt.toNat ≤ 24 := hL
  omega
theorem copy_cm {nl cm p1 : Int32} (h1 : ¬ cm < 0) (h2 : ¬ nl - cm < p1) (h3 : ¬ F_X6_in p1 1 24 = 0) (hn : nl.toNatClampNeg ≤ 24) (hn0 : cm ≤ nl) : ∃ c, cm = nI c ∧ c + p1.toNatClampNeg ≤ 24 := by
  have e1 := toN (Int32.not_lt.mp h1)
  have e2 := toN (x := p1) (Int32.le_trans (by decide) (in_of h3).1)
  have e3 := toN (Int32.le_trans (Int32.not_lt.mp h1) hn0)
  refine ⟨cm.toNatClampNeg, e1, ?_⟩
  have l3 := in_24 h3
  have h4 : cm.toNatClampNeg ≤ nl.toNatClampNeg := by
    have := Int32.le_iff_toInt_le.mp hn0
    show cm.toInt.toNat ≤ nl.toInt.toNat
    omega
  have h5 := Int32.le_iff_toInt_le.mp (Int32.not_lt.mp h2)
  rw [e1, e2, e3, pk_sub h4, nI_toInt (by omega), nI_toInt (by omega)] at h5
  omega
 
set_option maxHeartbeats 4000000 in
set_option maxRecDepth 100000 in
theorem c_X6_copy (l : Launch) (D : va_G) (cA : ClassId) (mo fa ka da : Nat) (sz : Nat) (fl : Nat → Int32) (kp : Nat → Int32) (on : Int32) (rn : Int32) (lf : Int32) (wt : Int32) (nv : Int32) (nl : Int32) (nh : Int32) (nc : Int32) (cm : Int32) (dr : Nat → Int32) (dn : Int32) (la : Int32) (p0 : Int32) (p1 : Int32) (hon : on = 0 ∨ sl rn) (hcf : cm < 0 ∨ (nl.toNatClampNeg ≤ 24 ∧ cm ≤ nl)) (hLL : okL fl) : Met l yX6_copy wsX6_copy ({ frames := 3, cells := 0, slots := 0, locals := 64 }) (va_Pc [.ref mo, .int p0, .int p1] (bx_pre D [(cA, .int)] (wMo cA mo fa ka da fl kp on rn lf wt nv nl nh nc cm dr dn la) sz)) (va_Qi (fun r u => (r, u) = F_X6_copy fl on rn lf wt nl cm p0 p1) (fun u t => bx_at D (wMo cA mo fa ka da u.1 kp u.2.1 u.2.2.1 u.2.2.2.1 u.2.2.2.2.1 nv nl nh nc u.2.2.2.2.2.1 dr dn u.2.2.2.2.2.2) (va_A (wMo cA mo fa ka da fl kp on rn lf wt nv nl nh nc cm dr dn la) sz) t) (va_A (wMo cA mo fa ka da fl kp on rn lf wt nv nl nh nc cm dr dn la) sz)) 0 0 (va_A (wMo cA mo fa ka da fl kp on rn lf wt nv nl nh nc cm dr dn la) sz) := by
  refine Met.ofW (cc := cX6_copy) (maxL := 5) (ret := (some .int)) (by decide) rfl ?_
  intro p e s m args below meth c s₁ B hml hv
  obtain ⟨rfl, hsz, hP, hK, hD0, hG⟩ := hv
  have hx := B.exec
  have hb := B.bytes
  have hr := B.returns
  have hts := atoms_spec (ws := wsX6_copy) B.pre
  have hown : s.vm.findClass RX6 = some m.cls := findClass_of_methodNamed B.named
  have hlocks := B.notSynchronized
  subst hsz
  have hD := hD0.self (sz := s.heap.size)
  generalize hAe : va_A (wMo cA mo fa ka da fl kp on rn lf wt nv nl nh nc cm dr dn la) s.heap.size = A at hD ⊢
  have hA : ∀ q : Nat, s.heap.size ≤ q → A q := fun q h => by rw [← hAe]; exact Or.inr h
  have hS : va_S A s.heap s.heap [] := va_S.rf
  have hD : va_D A [(mo, .inr (6, [.ref fa, .ref ka, .int on, .int rn, .int lf, .int wt, .int nv, .int nl, .int nh, .int nc, .int cm, .ref da, .int dn, .int la])), (fa, .inl (cA, 66, .inl fl)), (ka, .inl (cA, 66, .inl kp)), (da, .inl (cA, 24, .inl dr))] := hD
  have hP : va_P D vwCl [(mo, .inr (6, [.ref fa, .ref ka, .int on, .int rn, .int lf, .int wt, .int nv, .int nl, .int nh, .int nc, .int cm, .ref da, .int dn, .int la])), (fa, .inl (cA, 66, .inl fl)), (ka, .inl (cA, 66, .inl kp)), (da, .inl (cA, 24, .inl dr))] s.heap := hP
  have hl := lv_entry ([.ref mo, .int p0, .int p1]) (n := 5) (Nat.le_of_ble_eq_true rfl)
  rw [lg_entry_eq]
  generalize (lg_sl ([.ref mo, .int p0, .int p1]) ++ List.replicate (5 - (lg_sl ([.ref mo, .int p0, .int p1])).length) Slot.unset).toArray = ls at hl ⊢
  have hl : lv_has ls 5 [(0, .ref mo), (1, .int p0), (2, .int p1)] := hl
  have hi6 : ∀ w ∈ u_ws RX6 TX6 14, w ∈ wsX6_copy := by decide +kernel
  refine lv_iload_n hx hb dX6_copy_0 rfl (lv_at hl 1 rfl) ?_
  refine lv_iconst (v := 0) hx hb dX6_copy_1 (by decide) ?_
  refine lv_bipush (v := 23) hx hb dX6_copy_2 (by decide) ?_
  refine bx_ri (va_runS (As := [.int p0, .int 0, .int 23]) (rest := []) ⟨hx, hb, hml, hown, hts⟩ (c_X6_in l D p0 0 23) (va_cwS 3 hts gX6_copy_X6_in rfl rfl rfl (by decide +kernel) ⟨Nat.le_of_ble_eq_true rfl, Nat.le_of_ble_eq_true rfl⟩) (bx_psr (hK.sub (tys' := []) [] rfl) hG (hP.sub (ws' := []) [] rfl)) rfl rfl hl.1 rfl (lv_room (Nat.le_of_ble_eq_true rfl)) dX6_copy_4 ⟨Nat.zero_le _, Nat.zero_le _⟩) (fun r_1 h_2 => ?_)
  obtain ⟨h_2, b_3⟩ := h_2
  have h_2 := h_2.symm
  subst h_2
  refine lv_if_eq (tgt := 51) hx hb dX6_copy_7 (by decide) (fun c_4 => ?_) (fun c_4 => ?_)
  · skip
    refine lv_iconst (v := 0) hx hb dX6_copy_51 (by decide) ?_
    refine lv_istore_n (lv' := [(3, .int 0), (0, .ref mo), (1, .int p0), (2, .int p1)]) hx hb dX6_copy_52 rfl hl (by decide) rfl (fun ls hl => ?_)
    refine lv_aload_n hx hb dX6_copy_53 rfl (lv_at hl 1 rfl) ?_
    refine lv_iload_n hx hb dX6_copy_54 rfl (lv_at hl 0 rfl) ?_
    refine lv_aload_n hx hb dX6_copy_55 rfl (lv_at hl 1 rfl) ?_
    refine va_get (D := D) (ci := 6) (v := .int cm) (C := RX6) (T := TX6) (N := 14) hx hb hts hi6 hown hK hP 0 rfl rfl 10 (by decide) (hts (.fieldLink RX6 23 "BootstayModel" "come" "I") (by decide +kernel)) (fun _ h9 => h9) rfl dX6_copy_56 ?_
    refine lv_if_lt (tgt := 79) hx hb dX6_copy_59 (by decide) (fun c_5 => ?_) (fun c_5 => ?_)
    · skip
      refine lv_iconst (v := 0) hx hb dX6_copy_79 (by decide) ?_
      refine bx_wi (wc := [(mo, .inr (6, [.ref fa, .ref ka, .int on, .int rn, .int lf, .int wt, .int nv, .int nl, .int nh, .int nc, .int cm, .ref da, .int dn, .int la])), (fa, .inl (cA, 66, .inl fl)), (ka, .inl (cA, 66, .inl kp)), (da, .inl (cA, 24, .inl dr))]) (wr := []) (wf := fun (u : (Int32)) => [(mo, .inr (6, [.ref fa, .ref ka, .int on, .int rn, .int lf, .int wt, .int nv, .int nl, .int nh, .int nc, .int cm, .ref da, .int dn, .int u])), (fa, .inl (cA, 66, .inl fl)), (ka, .inl (cA, 66, .inl kp)), (da, .inl (cA, 24, .inl dr))]) (wn := fun (u : (Int32)) => [(mo, .inr (6, [.ref fa, .ref ka, .int on, .int rn, .int lf, .int wt, .int nv, .int nl, .int nh, .int nc, .int cm, .ref da, .int dn, .int u])), (fa, .inl (cA, 66, .inl fl)), (ka, .inl (cA, 66, .inl kp)), (da, .inl (cA, 24, .inl dr))]) hP hD hS hA [0, 1, 2, 3] [] [0, 1, 2, 3] rfl rfl (by decide) (by decide) (fun u => rfl) (by decide) (va_runV (As := [.int 0, .int 0]) (rest := []) ⟨hx, hb, hml, hown, hts⟩ (c_X6_goes l D cA mo fa ka da s.heap.size fl kp on rn lf wt nv nl nh nc cm dr dn la 0 0) (cwV 2 hts gX6_copy_X6_goes rfl rfl rfl (by decide +kernel) ⟨Nat.le_of_ble_eq_true rfl, Nat.le_of_ble_eq_true rfl⟩) (bx_pv (ci := 6) (q0 := 0) hK hG (hP.sub (ws' := [(mo, .inr (6, [.ref fa, .ref ka, .int on, .int rn, .int lf, .int wt, .int nv, .int nl, .int nh, .int nc, .int cm, .ref da, .int dn, .int la])), (fa, .inl (cA, 66, .inl fl)), (ka, .inl (cA, 66, .inl kp)), (da, .inl (cA, 24, .inl dr))]) [0, 1, 2, 3] rfl) (hD.sub (ws' := [(mo, .inr (6, [.ref fa, .ref ka, .int on, .int rn, .int lf, .int wt, .int nv, .int nl, .int nh, .int nc, .int cm, .ref da, .int dn, .int la])), (fa, .inl (cA, 66, .inl fl)), (ka, .inl (cA, 66, .inl kp)), (da, .inl (cA, 24, .inl dr))]) [0, 1, 2, 3] (by decide) rfl) rfl rfl) rfl rfl hl.1 rfl (lv_room (Nat.le_of_ble_eq_true rfl)) dX6_copy_80 ⟨Nat.zero_le _, Nat.zero_le _⟩) (fun r_8 u_7 H locs h_6 hP hD hS => ?_)
      obtain ⟨h_6, b_10⟩ := h_6
      have hP : va_P D vwCl [(mo, .inr (6, [.ref fa, .ref ka, .int on, .int rn, .int lf, .int wt, .int nv, .int nl, .int nh, .int nc, .int cm, .ref da, .int dn, .int u_7])), (fa, .inl (cA, 66, .inl fl)), (ka, .inl (cA, 66, .inl kp)), (da, .inl (cA, 24, .inl dr))] H := hP
      have hD : va_D A [(mo, .inr (6, [.ref fa, .ref ka, .int on, .int rn, .int lf, .int wt, .int nv, .int nl, .int nh, .int nc, .int cm, .ref da, .int dn, .int u_7])), (fa, .inl (cA, 66, .inl fl)), (ka, .inl (cA, 66, .inl kp)), (da, .inl (cA, 24, .inl dr))] := hD
      obtain ⟨rfl, h_6v⟩ := goes_0 h_6
      refine lv_if_ne (tgt := 88) hx hb dX6_copy_83 (by decide) (fun c_11 => ?_) (fun c_11 => ?_)
      · skip
        exact absurd (by decide) c_11
      · skip
        refine lv_iconst (v := 0) hx hb dX6_copy_86 (by decide) ?_
        exact W.iret (v := 0) hx hb hr (fun t ht hW => ⟨⟨0, (fl, on, rn, lf, wt, cm, u_7), rfl, (by simp only [F_X6_copy, F_X6_copyFits, F_X6_copyCan, if_pos c_4, if_pos c_5, ← h_6, ↓reduceIte]), ⟨by rw [ht]; exact hP, hD⟩⟩, hS.F ht⟩) hS.2.2 dX6_copy_87
    · skip
      refine lv_aload_n hx hb dX6_copy_62 rfl (lv_at hl 1 rfl) ?_
      refine va_get (D := D) (ci := 6) (v := .int nl) (C := RX6) (T := TX6) (N := 14) hx hb hts hi6 hown hK hP 0 rfl rfl 7 (by decide) (hts (.fieldLink RX6 103 "BootstayModel" "newLength" "I") (by decide +kernel)) (fun _ h9 => h9) rfl dX6_copy_63 ?_
      refine lv_aload_n hx hb dX6_copy_66 rfl (lv_at hl 1 rfl) ?_
      refine va_get (D := D) (ci := 6) (v := .int cm) (C := RX6) (T := TX6) (N := 14) hx hb hts hi6 hown hK hP 0 rfl rfl 10 (by decide) (hts (.fieldLink RX6 23 "BootstayModel" "come" "I") (by decide +kernel)) (fun _ h9 => h9) rfl dX6_copy_67 ?_
      refine lv_isub hx hb dX6_copy_70 ?_
      refine lv_iload_n hx hb dX6_copy_71 rfl (lv_at hl 3 rfl) ?_
      refine lv_icmp_lt (tgt := 79) hx hb dX6_copy_72 (by decide) (fun c_12 => ?_) (fun c_12 => ?_)
      · skip
        refine lv_iconst (v := 0) hx hb dX6_copy_79 (by decide) ?_
        refine bx_wi (wc := [(mo, .inr (6, [.ref fa, .ref ka, .int on, .int rn, .int lf, .int wt, .int nv, .int nl, .int nh, .int nc, .int cm, .ref da, .int dn, .int la])), (fa, .inl (cA, 66, .inl fl)), (ka, .inl (cA, 66, .inl kp)), (da, .inl (cA, 24, .inl dr))]) (wr := []) (wf := fun (u : (Int32)) => [(mo, .inr (6, [.ref fa, .ref ka, .int on, .int rn, .int lf, .int wt, .int nv, .int nl, .int nh, .int nc, .int cm, .ref da, .int dn, .int u])), (fa, .inl (cA, 66, .inl fl)), (ka, .inl (cA, 66, .inl kp)), (da, .inl (cA, 24, .inl dr))]) (wn := fun (u : (Int32)) => [(mo, .inr (6, [.ref fa, .ref ka, .int on, .int rn, .int lf, .int wt, .int nv, .int nl, .int nh, .int nc, .int cm, .ref da, .int dn, .int u])), (fa, .inl (cA, 66, .inl fl)), (ka, .inl (cA, 66, .inl kp)), (da, .inl (cA, 24, .inl dr))]) hP hD hS hA [0, 1, 2, 3] [] [0, 1, 2, 3] rfl rfl (by decide) (by decide) (fun u => rfl) (by decide) (va_runV (As := [.int 0, .int 0]) (rest := []) ⟨hx, hb, hml, hown, hts⟩ (c_X6_goes l D cA mo fa ka da s.heap.size fl kp on rn lf wt nv nl nh nc cm dr dn la 0 0) (cwV 2 hts gX6_copy_X6_goes rfl rfl rfl (by decide +kernel) ⟨Nat.le_of_ble_eq_true rfl, Nat.le_of_ble_eq_true rfl⟩) (bx_pv (ci := 6) (q0 := 0) hK hG (hP.sub (ws' := [(mo, .inr (6, [.ref fa, .ref ka, .int on, .int rn, .int lf, .int wt, .int nv, .int nl, .int nh, .int nc, .int cm, .ref da, .int dn, .int la])), (fa, .inl (cA, 66, .inl fl)), (ka, .inl (cA, 66, .inl kp)), (da, .inl (cA, 24, .inl dr))]) [0, 1, 2, 3] rfl) (hD.sub (ws' := [(mo, .inr (6, [.ref fa, .ref ka, .int on, .int rn, .int lf, .int wt, .int nv, .int nl, .int nh, .int nc, .int cm, .ref da, .int dn, .int la])), (fa, .inl (cA, 66, .inl fl)), (ka, .inl (cA, 66, .inl kp)), (da, .inl (cA, 24, .inl dr))]) [0, 1, 2, 3] (by decide) rfl) rfl rfl) rfl rfl hl.1 rfl (lv_room (Nat.le_of_ble_eq_true rfl)) dX6_copy_80 ⟨Nat.zero_le _, Nat.zero_le _⟩) (fun r_15 u_14 H locs h_13 hP hD hS => ?_)
        obtain ⟨h_13, b_17⟩ := h_13
        have hP : va_P D vwCl [(mo, .inr (6, [.ref fa, .ref ka, .int on, .int rn, .int lf, .int wt, .int nv, .int nl, .int nh, .int nc, .int cm, .ref da, .int dn, .int u_14])), (fa, .inl (cA, 66, .inl fl)), (ka, .inl (cA, 66, .inl kp)), (da, .inl (cA, 24, .inl dr))] H := hP
        have hD : va_D A [(mo, .inr (6, [.ref fa, .ref ka, .int on, .int rn, .int lf, .int wt, .int nv, .int nl, .int nh, .int nc, .int cm, .ref da, .int dn, .int u_14])), (fa, .inl (cA, 66, .inl fl)), (ka, .inl (cA, 66, .inl kp)), (da, .inl (cA, 24, .inl dr))] := hD
        obtain ⟨rfl, h_13v⟩ := goes_0 h_13
        refine lv_if_ne (tgt := 88) hx hb dX6_copy_83 (by decide) (fun c_18 => ?_) (fun c_18 => ?_)
        · skip
          exact absurd (by decide) c_18
        · skip
          refine lv_iconst (v := 0) hx hb dX6_copy_86 (by decide) ?_
          exact W.iret (v := 0) hx hb hr (fun t ht hW => ⟨⟨0, (fl, on, rn, lf, wt, cm, u_14), rfl, (by simp only [F_X6_copy, F_X6_copyFits, F_X6_copyCan, if_pos c_4, if_neg c_5, if_pos c_12, ← h_13, ↓reduceIte]), ⟨by rw [ht]; exact hP, hD⟩⟩, hS.F ht⟩) hS.2.2 dX6_copy_87
      · skip
        refine lv_iconst (v := 1) hx hb dX6_copy_75 (by decide) ?_
        refine lv_goto (tgt := 80) hx hb dX6_copy_76 (by decide) ?_
        refine bx_wi (wc := [(mo, .inr (6, [.ref fa, .ref ka, .int on, .int rn, .int lf, .int wt, .int nv, .int nl, .int nh, .int nc, .int cm, .ref da, .int dn, .int la])), (fa, .inl (cA, 66, .inl fl)), (ka, .inl (cA, 66, .inl kp)), (da, .inl (cA, 24, .inl dr))]) (wr := []) (wf := fun (u : (Int32)) => [(mo, .inr (6, [.ref fa, .ref ka, .int on, .int rn, .int lf, .int wt, .int nv, .int nl, .int nh, .int nc, .int cm, .ref da, .int dn, .int u])), (fa, .inl (cA, 66, .inl fl)), (ka, .inl (cA, 66, .inl kp)), (da, .inl (cA, 24, .inl dr))]) (wn := fun (u : (Int32)) => [(mo, .inr (6, [.ref fa, .ref ka, .int on, .int rn, .int lf, .int wt, .int nv, .int nl, .int nh, .int nc, .int cm, .ref da, .int dn, .int u])), (fa, .inl (cA, 66, .inl fl)), (ka, .inl (cA, 66, .inl kp)), (da, .inl (cA, 24, .inl dr))]) hP hD hS hA [0, 1, 2, 3] [] [0, 1, 2, 3] rfl rfl (by decide) (by decide) (fun u => rfl) (by decide) (va_runV (As := [.int 0, .int 1]) (rest := []) ⟨hx, hb, hml, hown, hts⟩ (c_X6_goes l D cA mo fa ka da s.heap.size fl kp on rn lf wt nv nl nh nc cm dr dn la 0 1) (cwV 2 hts gX6_copy_X6_goes rfl rfl rfl (by decide +kernel) ⟨Nat.le_of_ble_eq_true rfl, Nat.le_of_ble_eq_true rfl⟩) (bx_pv (ci := 6) (q0 := 0) hK hG (hP.sub (ws' := [(mo, .inr (6, [.ref fa, .ref ka, .int on, .int rn, .int lf, .int wt, .int nv, .int nl, .int nh, .int nc, .int cm, .ref da, .int dn, .int la])), (fa, .inl (cA, 66, .inl fl)), (ka, .inl (cA, 66, .inl kp)), (da, .inl (cA, 24, .inl dr))]) [0, 1, 2, 3] rfl) (hD.sub (ws' := [(mo, .inr (6, [.ref fa, .ref ka, .int on, .int rn, .int lf, .int wt, .int nv, .int nl, .int nh, .int nc, .int cm, .ref da, .int dn, .int la])), (fa, .inl (cA, 66, .inl fl)), (ka, .inl (cA, 66, .inl kp)), (da, .inl (cA, 24, .inl dr))]) [0, 1, 2, 3] (by decide) rfl) rfl rfl) rfl rfl hl.1 rfl (lv_room (Nat.le_of_ble_eq_true rfl)) dX6_copy_80 ⟨Nat.zero_le _, Nat.zero_le _⟩) (fun r_21 u_20 H locs h_19 hP hD hS => ?_)
        obtain ⟨h_19, b_23⟩ := h_19
        have hP : va_P D vwCl [(mo, .inr (6, [.ref fa, .ref ka, .int on, .int rn, .int lf, .int wt, .int nv, .int nl, .int nh, .int nc, .int cm, .ref da, .int dn, .int u_20])), (fa, .inl (cA, 66, .inl fl)), (ka, .inl (cA, 66, .inl kp)), (da, .inl (cA, 24, .inl dr))] H := hP
        have hD : va_D A [(mo, .inr (6, [.ref fa, .ref ka, .int on, .int rn, .int lf, .int wt, .int nv, .int nl, .int nh, .int nc, .int cm, .ref da, .int dn, .int u_20])), (fa, .inl (cA, 66, .inl fl)), (ka, .inl (cA, 66, .inl kp)), (da, .inl (cA, 24, .inl dr))] := hD
        obtain ⟨rfl, h_19v⟩ := goes_01 h_19
        refine lv_if_ne (tgt := 88) hx hb dX6_copy_83 (by decide) (fun c_24 => ?_) (fun c_24 => ?_)
        · skip
          exact absurd (by decide) c_24
        · skip
          refine lv_iconst (v := 0) hx hb dX6_copy_86 (by decide) ?_
          exact W.iret (v := 0) hx hb hr (fun t ht hW => ⟨⟨0, (fl, on, rn, lf, wt, cm, u_20), rfl, (by simp only [F_X6_copy, F_X6_copyFits, F_X6_copyCan, if_pos c_4, if_neg c_5, if_neg c_12, ← h_19, ↓reduceIte]), ⟨by rw [ht]; exact hP, hD⟩⟩, hS.F ht⟩) hS.2.2 dX6_copy_87
  · skip
    refine lv_iload_n hx hb dX6_copy_10 rfl (lv_at hl 2 rfl) ?_
    refine lv_iconst (v := 1) hx hb dX6_copy_11 (by decide) ?_
    refine lv_bipush (v := 24) hx hb dX6_copy_12 (by decide) ?_
    refine bx_ri (va_runS (As := [.int p1, .int 1, .int 24]) (rest := []) ⟨hx, hb, hml, hown, hts⟩ (c_X6_in l D p1 1 24) (va_cwS 3 hts gX6_copy_X6_in rfl rfl rfl (by decide +kernel) ⟨Nat.le_of_ble_eq_true rfl, Nat.le_of_ble_eq_true rfl⟩) (bx_psr (hK.sub (tys' := []) [] rfl) hG (hP.sub (ws' := []) [] rfl)) rfl rfl hl.1 rfl (lv_room (Nat.le_of_ble_eq_true rfl)) dX6_copy_14 ⟨Nat.zero_le _, Nat.zero_le _⟩) (fun r_25 h_26 => ?_)
    obtain ⟨h_26, b_27⟩ := h_26
    have h_26 := h_26.symm
    subst h_26
    refine lv_if_eq (tgt := 51) hx hb dX6_copy_17 (by decide) (fun c_28 => ?_) (fun c_28 => ?_)
    · skip
      refine lv_iconst (v := 0) hx hb dX6_copy_51 (by decide) ?_
      refine lv_istore_n (lv' := [(3, .int 0), (0, .ref mo), (1, .int p0), (2, .int p1)]) hx hb dX6_copy_52 rfl hl (by decide) rfl (fun ls hl => ?_)
      refine lv_aload_n hx hb dX6_copy_53 rfl (lv_at hl 1 rfl) ?_
      refine lv_iload_n hx hb dX6_copy_54 rfl (lv_at hl 0 rfl) ?_
      refine lv_aload_n hx hb dX6_copy_55 rfl (lv_at hl 1 rfl) ?_
      refine va_get (D := D) (ci := 6) (v := .int cm) (C := RX6) (T := TX6) (N := 14) hx hb hts hi6 hown hK hP 0 rfl rfl 10 (by decide) (hts (.fieldLink RX6 23 "BootstayModel" "come" "I") (by decide +kernel)) (fun _ h9 => h9) rfl dX6_copy_56 ?_
      refine lv_if_lt (tgt := 79) hx hb dX6_copy_59 (by decide) (fun c_29 => ?_) (fun c_29 => ?_)
      · skip
        refine lv_iconst (v := 0) hx hb dX6_copy_79 (by decide) ?_
        refine bx_wi (wc := [(mo, .inr (6, [.ref fa, .ref ka, .int on, .int rn, .int lf, .int wt, .int nv, .int nl, .int nh, .int nc, .int cm, .ref da, .int dn, .int la])), (fa, .inl (cA, 66, .inl fl)), (ka, .inl (cA, 66, .inl kp)), (da, .inl (cA, 24, .inl dr))]) (wr := []) (wf := fun (u : (Int32)) => [(mo, .inr (6, [.ref fa, .ref ka, .int on, .int rn, .int lf, .int wt, .int nv, .int nl, .int nh, .int nc, .int cm, .ref da, .int dn, .int u])), (fa, .inl (cA, 66, .inl fl)), (ka, .inl (cA, 66, .inl kp)), (da, .inl (cA, 24, .inl dr))]) (wn := fun (u : (Int32)) => [(mo, .inr (6, [.ref fa, .ref ka, .int on, .int rn, .int lf, .int wt, .int nv, .int nl, .int nh, .int nc, .int cm, .ref da, .int dn, .int u])), (fa, .inl (cA, 66, .inl fl)), (ka, .inl (cA, 66, .inl kp)), (da, .inl (cA, 24, .inl dr))]) hP hD hS hA [0, 1, 2, 3] [] [0, 1, 2, 3] rfl rfl (by decide) (by decide) (fun u => rfl) (by decide) (va_runV (As := [.int 0, .int 0]) (rest := []) ⟨hx, hb, hml, hown, hts⟩ (c_X6_goes l D cA mo fa ka da s.heap.size fl kp on rn lf wt nv nl nh nc cm dr dn la 0 0) (cwV 2 hts gX6_copy_X6_goes rfl rfl rfl (by decide +kernel) ⟨Nat.le_of_ble_eq_true rfl, Nat.le_of_ble_eq_true rfl⟩) (bx_pv (ci := 6) (q0 := 0) hK hG (hP.sub (ws' := [(mo, .inr (6, [.ref fa, .ref ka, .int on, .int rn, .int lf, .int wt, .int nv, .int nl, .int nh, .int nc, .int cm, .ref da, .int dn, .int la])), (fa, .inl (cA, 66, .inl fl)), (ka, .inl (cA, 66, .inl kp)), (da, .inl (cA, 24, .inl dr))]) [0, 1, 2, 3] rfl) (hD.sub (ws' := [(mo, .inr (6, [.ref fa, .ref ka, .int on, .int rn, .int lf, .int wt, .int nv, .int nl, .int nh, .int nc, .int cm, .ref da, .int dn, .int la])), (fa, .inl (cA, 66, .inl fl)), (ka, .inl (cA, 66, .inl kp)), (da, .inl (cA, 24, .inl dr))]) [0, 1, 2, 3] (by decide) rfl) rfl rfl) rfl rfl hl.1 rfl (lv_room (Nat.le_of_ble_eq_true rfl)) dX6_copy_80 ⟨Nat.zero_le _, Nat.zero_le _⟩) (fun r_32 u_31 H locs h_30 hP hD hS => ?_)
        obtain ⟨h_30, b_34⟩ := h_30
        have hP : va_P D vwCl [(mo, .inr (6, [.ref fa, .ref ka, .int on, .int rn, .int lf, .int wt, .int nv, .int nl, .int nh, .int nc, .int cm, .ref da, .int dn, .int u_31])), (fa, .inl (cA, 66, .inl fl)), (ka, .inl (cA, 66, .inl kp)), (da, .inl (cA, 24, .inl dr))] H := hP
        have hD : va_D A [(mo, .inr (6, [.ref fa, .ref ka, .int on, .int rn, .int lf, .int wt, .int nv, .int nl, .int nh, .int nc, .int cm, .ref da, .int dn, .int u_31])), (fa, .inl (cA, 66, .inl fl)), (ka, .inl (cA, 66, .inl kp)), (da, .inl (cA, 24, .inl dr))] := hD
        obtain ⟨rfl, h_30v⟩ := goes_0 h_30
        refine lv_if_ne (tgt := 88) hx hb dX6_copy_83 (by decide) (fun c_35 => ?_) (fun c_35 => ?_)
        · skip
          exact absurd (by decide) c_35
        · skip
          refine lv_iconst (v := 0) hx hb dX6_copy_86 (by decide) ?_
          exact W.iret (v := 0) hx hb hr (fun t ht hW => ⟨⟨0, (fl, on, rn, lf, wt, cm, u_31), rfl, (by simp only [F_X6_copy, F_X6_copyFits, F_X6_copyCan, if_neg c_4, if_pos c_28, if_pos c_29, ← h_30, ↓reduceIte]), ⟨by rw [ht]; exact hP, hD⟩⟩, hS.F ht⟩) hS.2.2 dX6_copy_87
      · skip
        refine lv_aload_n hx hb dX6_copy_62 rfl (lv_at hl 1 rfl) ?_
        refine va_get (D := D) (ci := 6) (v := .int nl) (C := RX6) (T := TX6) (N := 14) hx hb hts hi6 hown hK hP 0 rfl rfl 7 (by decide) (hts (.fieldLink RX6 103 "BootstayModel" "newLength" "I") (by decide +kernel)) (fun _ h9 => h9) rfl dX6_copy_63 ?_
        refine lv_aload_n hx hb dX6_copy_66 rfl (lv_at hl 1 rfl) ?_
        refine va_get (D := D) (ci := 6) (v := .int cm) (C := RX6) (T := TX6) (N := 14) hx hb hts hi6 hown hK hP 0 rfl rfl 10 (by decide) (hts (.fieldLink RX6 23 "BootstayModel" "come" "I") (by decide +kernel)) (fun _ h9 => h9) rfl dX6_copy_67 ?_
        refine lv_isub hx hb dX6_copy_70 ?_
        refine lv_iload_n hx hb dX6_copy_71 rfl (lv_at hl 3 rfl) ?_
        refine lv_icmp_lt (tgt := 79) hx hb dX6_copy_72 (by decide) (fun c_36 => ?_) (fun c_36 => ?_)
        · skip
          refine lv_iconst (v := 0) hx hb dX6_copy_79 (by decide) ?_
          refine bx_wi (wc := [(mo, .inr (6, [.ref fa, .ref ka, .int on, .int rn, .int lf, .int wt, .int nv, .int nl, .int nh, .int nc, .int cm, .ref da, .int dn, .int la])), (fa, .inl (cA, 66, .inl fl)), (ka, .inl (cA, 66, .inl kp)), (da, .inl (cA, 24, .inl dr))]) (wr := []) (wf := fun (u : (Int32)) => [(mo, .inr (6, [.ref fa, .ref ka, .int on, .int rn, .int lf, .int wt, .int nv, .int nl, .int nh, .int nc, .int cm, .ref da, .int dn, .int u])), (fa, .inl (cA, 66, .inl fl)), (ka, .inl (cA, 66, .inl kp)), (da, .inl (cA, 24, .inl dr))]) (wn := fun (u : (Int32)) => [(mo, .inr (6, [.ref fa, .ref ka, .int on, .int rn, .int lf, .int wt, .int nv, .int nl, .int nh, .int nc, .int cm, .ref da, .int dn, .int u])), (fa, .inl (cA, 66, .inl fl)), (ka, .inl (cA, 66, .inl kp)), (da, .inl (cA, 24, .inl dr))]) hP hD hS hA [0, 1, 2, 3] [] [0, 1, 2, 3] rfl rfl (by decide) (by decide) (fun u => rfl) (by decide) (va_runV (As := [.int 0, .int 0]) (rest := []) ⟨hx, hb, hml, hown, hts⟩ (c_X6_goes l D cA mo fa ka da s.heap.size fl kp on rn lf wt nv nl nh nc cm dr dn la 0 0) (cwV 2 hts gX6_copy_X6_goes rfl rfl rfl (by decide +kernel) ⟨Nat.le_of_ble_eq_true rfl, Nat.le_of_ble_eq_true rfl⟩) (bx_pv (ci := 6) (q0 := 0) hK hG (hP.sub (ws' := [(mo, .inr (6, [.ref fa, .ref ka, .int on, .int rn, .int lf, .int wt, .int nv, .int nl, .int nh, .int nc, .int cm, .ref da, .int dn, .int la])), (fa, .inl (cA, 66, .inl fl)), (ka, .inl (cA, 66, .inl kp)), (da, .inl (cA, 24, .inl dr))]) [0, 1, 2, 3] rfl) (hD.sub (ws' := [(mo, .inr (6, [.ref fa, .ref ka, .int on, .int rn, .int lf, .int wt, .int nv, .int nl, .int nh, .int nc, .int cm, .ref da, .int dn, .int la])), (fa, .inl (cA, 66, .inl fl)), (ka, .inl (cA, 66, .inl kp)), (da, .inl (cA, 24, .inl dr))]) [0, 1, 2, 3] (by decide) rfl) rfl rfl) rfl rfl hl.1 rfl (lv_room (Nat.le_of_ble_eq_true rfl)) dX6_copy_80 ⟨Nat.zero_le _, Nat.zero_le _⟩) (fun r_39 u_38 H locs h_37 hP hD hS => ?_)
          obtain ⟨h_37, b_41⟩ := h_37
          have hP : va_P D vwCl [(mo, .inr (6, [.ref fa, .ref ka, .int on, .int rn, .int lf, .int wt, .int nv, .int nl, .int nh, .int nc, .int cm, .ref da, .int dn, .int u_38])), (fa, .inl (cA, 66, .inl fl)), (ka, .inl (cA, 66, .inl kp)), (da, .inl (cA, 24, .inl dr))] H := hP
          have hD : va_D A [(mo, .inr (6, [.ref fa, .ref ka, .int on, .int rn, .int lf, .int wt, .int nv, .int nl, .int nh, .int nc, .int cm, .ref da, .int dn, .int u_38])), (fa, .inl (cA, 66, .inl fl)), (ka, .inl (cA, 66, .inl kp)), (da, .inl (cA, 24, .inl dr))] := hD
          obtain ⟨rfl, h_37v⟩ := goes_0 h_37
          refine lv_if_ne (tgt := 88) hx hb dX6_copy_83 (by decide) (fun c_42 => ?_) (fun c_42 => ?_)
          · skip
            exact absurd (by decide) c_42
          · skip
            refine lv_iconst (v := 0) hx hb dX6_copy_86 (by decide) ?_
            exact W.iret (v := 0) hx hb hr (fun t ht hW => ⟨⟨0, (fl, on, rn, lf, wt, cm, u_38), rfl, (by simp only [F_X6_copy, F_X6_copyFits, F_X6_copyCan, if_neg c_4, if_pos c_28, if_neg c_29, if_pos c_36, ← h_37, ↓reduceIte]), ⟨by rw [ht]; exact hP, hD⟩⟩, hS.F ht⟩) hS.2.2 dX6_copy_87
        · skip
          refine lv_iconst (v := 1) hx hb dX6_copy_75 (by decide) ?_
          refine lv_goto (tgt := 80) hx hb dX6_copy_76 (by decide) ?_
          refine bx_wi (wc := [(mo, .inr (6, [.ref fa, .ref ka, .int on, .int rn, .int lf, .int wt, .int nv, .int nl, .int nh, .int nc, .int cm, .ref da, .int dn, .int la])), (fa, .inl (cA, 66, .inl fl)), (ka, .inl (cA, 66, .inl kp)), (da, .inl (cA, 24, .inl dr))]) (wr := []) (wf := fun (u : (Int32)) => [(mo, .inr (6, [.ref fa, .ref ka, .int on, .int rn, .int lf, .int wt, .int nv, .int nl, .int nh, .int nc, .int cm, .ref da, .int dn, .int u])), (fa, .inl (cA, 66, .inl fl)), (ka, .inl (cA, 66, .inl kp)), (da, .inl (cA, 24, .inl dr))]) (wn := fun (u : (Int32)) => [(mo, .inr (6, [.ref fa, .ref ka, .int on, .int rn, .int lf, .int wt, .int nv, .int nl, .int nh, .int nc, .int cm, .ref da, .int dn, .int u])), (fa, .inl (cA, 66, .inl fl)), (ka, .inl (cA, 66, .inl kp)), (da, .inl (cA, 24, .inl dr))]) hP hD hS hA [0, 1, 2, 3] [] [0, 1, 2, 3] rfl rfl (by decide) (by decide) (fun u => rfl) (by decide) (va_runV (As := [.int 0, .int 1]) (rest := []) ⟨hx, hb, hml, hown, hts⟩ (c_X6_goes l D cA mo fa ka da s.heap.size fl kp on rn lf wt nv nl nh nc cm dr dn la 0 1) (cwV 2 hts gX6_copy_X6_goes rfl rfl rfl (by decide +kernel) ⟨Nat.le_of_ble_eq_true rfl, Nat.le_of_ble_eq_true rfl⟩) (bx_pv (ci := 6) (q0 := 0) hK hG (hP.sub (ws' := [(mo, .inr (6, [.ref fa, .ref ka, .int on, .int rn, .int lf, .int wt, .int nv, .int nl, .int nh, .int nc, .int cm, .ref da, .int dn, .int la])), (fa, .inl (cA, 66, .inl fl)), (ka, .inl (cA, 66, .inl kp)), (da, .inl (cA, 24, .inl dr))]) [0, 1, 2, 3] rfl) (hD.sub (ws' := [(mo, .inr (6, [.ref fa, .ref ka, .int on, .int rn, .int lf, .int wt, .int nv, .int nl, .int nh, .int nc, .int cm, .ref da, .int dn, .int la])), (fa, .inl (cA, 66, .inl fl)), (ka, .inl (cA, 66, .inl kp)), (da, .inl (cA, 24, .inl dr))]) [0, 1, 2, 3] (by decide) rfl) rfl rfl) rfl rfl hl.1 rfl (lv_room (Nat.le_of_ble_eq_true rfl)) dX6_copy_80 ⟨Nat.zero_le _, Nat.zero_le _⟩) (fun r_45 u_44 H locs h_43 hP hD hS => ?_)
          obtain ⟨h_43, b_47⟩ := h_43
          have hP : va_P D vwCl [(mo, .inr (6, [.ref fa, .ref ka, .int on, .int rn, .int lf, .int wt, .int nv, .int nl, .int nh, .int nc, .int cm, .ref da, .int dn, .int u_44])), (fa, .inl (cA, 66, .inl fl)), (ka, .inl (cA, 66, .inl kp)), (da, .inl (cA, 24, .inl dr))] H := hP
          have hD : va_D A [(mo, .inr (6, [.ref fa, .ref ka, .int on, .int rn, .int lf, .int wt, .int nv, .int nl, .int nh, .int nc, .int cm, .ref da, .int dn, .int u_44])), (fa, .inl (cA, 66, .inl fl)), (ka, .inl (cA, 66, .inl kp)), (da, .inl (cA, 24, .inl dr))] := hD
          obtain ⟨rfl, h_43v⟩ := goes_01 h_43
          refine lv_if_ne (tgt := 88) hx hb dX6_copy_83 (by decide) (fun c_48 => ?_) (fun c_48 => ?_)
          · skip
            exact absurd (by decide) c_48
          · skip
            refine lv_iconst (v := 0) hx hb dX6_copy_86 (by decide) ?_
            exact W.iret (v := 0) hx hb hr (fun t ht hW => ⟨⟨0, (fl, on, rn, lf, wt, cm, u_44), rfl, (by simp only [F_X6_copy, F_X6_copyFits, F_X6_copyCan, if_neg c_4, if_pos c_28, if_neg c_29, if_neg c_36, ← h_43, ↓reduceIte]), ⟨by rw [ht]; exact hP, hD⟩⟩, hS.F ht⟩) hS.2.2 dX6_copy_87
    · skip
      refine lv_aload_n hx hb dX6_copy_20 rfl (lv_at hl 0 rfl) ?_
      refine va_get (D := D) (ci := 6) (v := .int on) (C := RX6) (T := TX6) (N := 14) hx hb hts hi6 hown hK hP 0 rfl rfl 2 (by decide) (hts (.fieldLink RX6 63 "BootstayModel" "on" "Z") (by decide +kernel)) (fun _ h9 => h9) rfl dX6_copy_21 ?_
      refine lv_if_eq (tgt := 47) hx hb dX6_copy_24 (by decide) (fun c_49 => ?_) (fun c_49 => ?_)
      · skip
        refine lv_iconst (v := 1) hx hb dX6_copy_47 (by decide) ?_
        refine lv_goto (tgt := 52) hx hb dX6_copy_48 (by decide) ?_
        refine lv_istore_n (lv' := [(3, .int 1), (0, .ref mo), (1, .int p0), (2, .int p1)]) hx hb dX6_copy_52 rfl hl (by decide) rfl (fun ls hl => ?_)
        refine lv_aload_n hx hb dX6_copy_53 rfl (lv_at hl 1 rfl) ?_
        refine lv_iload_n hx hb dX6_copy_54 rfl (lv_at hl 0 rfl) ?_
        refine lv_aload_n hx hb dX6_copy_55 rfl (lv_at hl 1 rfl) ?_
        refine va_get (D := D) (ci := 6) (v := .int cm) (C := RX6) (T := TX6) (N := 14) hx hb hts hi6 hown hK hP 0 rfl rfl 10 (by decide) (hts (.fieldLink RX6 23 "BootstayModel" "come" "I") (by decide +kernel)) (fun _ h9 => h9) rfl dX6_copy_56 ?_
        refine lv_if_lt (tgt := 79) hx hb dX6_copy_59 (by decide) (fun c_50 => ?_) (fun c_50 => ?_)
        · skip
          refine lv_iconst (v := 0) hx hb dX6_copy_79 (by decide) ?_
          refine bx_wi (wc := [(mo, .inr (6, [.ref fa, .ref ka, .int on, .int rn, .int lf, .int wt, .int nv, .int nl, .int nh, .int nc, .int cm, .ref da, .int dn, .int la])), (fa, .inl (cA, 66, .inl fl)), (ka, .inl (cA, 66, .inl kp)), (da, .inl (cA, 24, .inl dr))]) (wr := []) (wf := fun (u : (Int32)) => [(mo, .inr (6, [.ref fa, .ref ka, .int on, .int rn, .int lf, .int wt, .int nv, .int nl, .int nh, .int nc, .int cm, .ref da, .int dn, .int u])), (fa, .inl (cA, 66, .inl fl)), (ka, .inl (cA, 66, .inl kp)), (da, .inl (cA, 24, .inl dr))]) (wn := fun (u : (Int32)) => [(mo, .inr (6, [.ref fa, .ref ka, .int on, .int rn, .int lf, .int wt, .int nv, .int nl, .int nh, .int nc, .int cm, .ref da, .int dn, .int u])), (fa, .inl (cA, 66, .inl fl)), (ka, .inl (cA, 66, .inl kp)), (da, .inl (cA, 24, .inl dr))]) hP hD hS hA [0, 1, 2, 3] [] [0, 1, 2, 3] rfl rfl (by decide) (by decide) (fun u => rfl) (by decide) (va_runV (As := [.int 1, .int 0]) (rest := []) ⟨hx, hb, hml, hown, hts⟩ (c_X6_goes l D cA mo fa ka da s.heap.size fl kp on rn lf wt nv nl nh nc cm dr dn la 1 0) (cwV 2 hts gX6_copy_X6_goes rfl rfl rfl (by decide +kernel) ⟨Nat.le_of_ble_eq_true rfl, Nat.le_of_ble_eq_true rfl⟩) (bx_pv (ci := 6) (q0 := 0) hK hG (hP.sub (ws' := [(mo, .inr (6, [.ref fa, .ref ka, .int on, .int rn, .int lf, .int wt, .int nv, .int nl, .int nh, .int nc, .int cm, .ref da, .int dn, .int la])), (fa, .inl (cA, 66, .inl fl)), (ka, .inl (cA, 66, .inl kp)), (da, .inl (cA, 24, .inl dr))]) [0, 1, 2, 3] rfl) (hD.sub (ws' := [(mo, .inr (6, [.ref fa, .ref ka, .int on, .int rn, .int lf, .int wt, .int nv, .int nl, .int nh, .int nc, .int cm, .ref da, .int dn, .int la])), (fa, .inl (cA, 66, .inl fl)), (ka, .inl (cA, 66, .inl kp)), (da, .inl (cA, 24, .inl dr))]) [0, 1, 2, 3] (by decide) rfl) rfl rfl) rfl rfl hl.1 rfl (lv_room (Nat.le_of_ble_eq_true rfl)) dX6_copy_80 ⟨Nat.zero_le _, Nat.zero_le _⟩) (fun r_53 u_52 H locs h_51 hP hD hS => ?_)
          obtain ⟨h_51, b_55⟩ := h_51
          have hP : va_P D vwCl [(mo, .inr (6, [.ref fa, .ref ka, .int on, .int rn, .int lf, .int wt, .int nv, .int nl, .int nh, .int nc, .int cm, .ref da, .int dn, .int u_52])), (fa, .inl (cA, 66, .inl fl)), (ka, .inl (cA, 66, .inl kp)), (da, .inl (cA, 24, .inl dr))] H := hP
          have hD : va_D A [(mo, .inr (6, [.ref fa, .ref ka, .int on, .int rn, .int lf, .int wt, .int nv, .int nl, .int nh, .int nc, .int cm, .ref da, .int dn, .int u_52])), (fa, .inl (cA, 66, .inl fl)), (ka, .inl (cA, 66, .inl kp)), (da, .inl (cA, 24, .inl dr))] := hD
          obtain ⟨rfl, h_51v⟩ := goes_0 h_51
          refine lv_if_ne (tgt := 88) hx hb dX6_copy_83 (by decide) (fun c_56 => ?_) (fun c_56 => ?_)
          · skip
            exact absurd (by decide) c_56
          · skip
            refine lv_iconst (v := 0) hx hb dX6_copy_86 (by decide) ?_
            exact W.iret (v := 0) hx hb hr (fun t ht hW => ⟨⟨0, (fl, on, rn, lf, wt, cm, u_52), rfl, (by simp only [F_X6_copy, F_X6_copyFits, F_X6_copyCan, if_neg c_4, if_neg c_28, if_pos c_49, if_pos c_50, ← h_51, ↓reduceIte]), ⟨by rw [ht]; exact hP, hD⟩⟩, hS.F ht⟩) hS.2.2 dX6_copy_87
        · skip
          refine lv_aload_n hx hb dX6_copy_62 rfl (lv_at hl 1 rfl) ?_
          refine va_get (D := D) (ci := 6) (v := .int nl) (C := RX6) (T := TX6) (N := 14) hx hb hts hi6 hown hK hP 0 rfl rfl 7 (by decide) (hts (.fieldLink RX6 103 "BootstayModel" "newLength" "I") (by decide +kernel)) (fun _ h9 => h9) rfl dX6_copy_63 ?_
          refine lv_aload_n hx hb dX6_copy_66 rfl (lv_at hl 1 rfl) ?_
          refine va_get (D := D) (ci := 6) (v := .int cm) (C := RX6) (T := TX6) (N := 14) hx hb hts hi6 hown hK hP 0 rfl rfl 10 (by decide) (hts (.fieldLink RX6 23 "BootstayModel" "come" "I") (by decide +kernel)) (fun _ h9 => h9) rfl dX6_copy_67 ?_
          refine lv_isub hx hb dX6_copy_70 ?_
          refine lv_iload_n hx hb dX6_copy_71 rfl (lv_at hl 3 rfl) ?_
          refine lv_icmp_lt (tgt := 79) hx hb dX6_copy_72 (by decide) (fun c_57 => ?_) (fun c_57 => ?_)
          · skip
            refine lv_iconst (v := 0) hx hb dX6_copy_79 (by decide) ?_
            refine bx_wi (wc := [(mo, .inr (6, [.ref fa, .ref ka, .int on, .int rn, .int lf, .int wt, .int nv, .int nl, .int nh, .int nc, .int cm, .ref da, .int dn, .int la])), (fa, .inl (cA, 66, .inl fl)), (ka, .inl (cA, 66, .inl kp)), (da, .inl (cA, 24, .inl dr))]) (wr := []) (wf := fun (u : (Int32)) => [(mo, .inr (6, [.ref fa, .ref ka, .int on, .int rn, .int lf, .int wt, .int nv, .int nl, .int nh, .int nc, .int cm, .ref da, .int dn, .int u])), (fa, .inl (cA, 66, .inl fl)), (ka, .inl (cA, 66, .inl kp)), (da, .inl (cA, 24, .inl dr))]) (wn := fun (u : (Int32)) => [(mo, .inr (6, [.ref fa, .ref ka, .int on, .int rn, .int lf, .int wt, .int nv, .int nl, .int nh, .int nc, .int cm, .ref da, .int dn, .int u])), (fa, .inl (cA, 66, .inl fl)), (ka, .inl (cA, 66, .inl kp)), (da, .inl (cA, 24, .inl dr))]) hP hD hS hA [0, 1, 2, 3] [] [0, 1, 2, 3] rfl rfl (by decide) (by decide) (fun u => rfl) (by decide) (va_runV (As := [.int 1, .int 0]) (rest := []) ⟨hx, hb, hml, hown, hts⟩ (c_X6_goes l D cA mo fa ka da s.heap.size fl kp on rn lf wt nv nl nh nc cm dr dn la 1 0) (cwV 2 hts gX6_copy_X6_goes rfl rfl rfl (by decide +kernel) ⟨Nat.le_of_ble_eq_true rfl, Nat.le_of_ble_eq_true rfl⟩) (bx_pv (ci := 6) (q0 := 0) hK hG (hP.sub (ws' := [(mo, .inr (6, [.ref fa, .ref ka, .int on, .int rn, .int lf, .int wt, .int nv, .int nl, .int nh, .int nc, .int cm, .ref da, .int dn, .int la])), (fa, .inl (cA, 66, .inl fl)), (ka, .inl (cA, 66, .inl kp)), (da, .inl (cA, 24, .inl dr))]) [0, 1, 2, 3] rfl) (hD.sub (ws' := [(mo, .inr (6, [.ref fa, .ref ka, .int on, .int rn, .int lf, .int wt, .int nv, .int nl, .int nh, .int nc, .int cm, .ref da, .int dn, .int la])), (fa, .inl (cA, 66, .inl fl)), (ka, .inl (cA, 66, .inl kp)), (da, .inl (cA, 24, .inl dr))]) [0, 1, 2, 3] (by decide) rfl) rfl rfl) rfl rfl hl.1 rfl (lv_room (Nat.le_of_ble_eq_true rfl)) dX6_copy_80 ⟨Nat.zero_le _, Nat.zero_le _⟩) (fun r_60 u_59 H locs h_58 hP hD hS => ?_)
            obtain ⟨h_58, b_62⟩ := h_58
            have hP : va_P D vwCl [(mo, .inr (6, [.ref fa, .ref ka, .int on, .int rn, .int lf, .int wt, .int nv, .int nl, .int nh, .int nc, .int cm, .ref da, .int dn, .int u_59])), (fa, .inl (cA, 66, .inl fl)), (ka, .inl (cA, 66, .inl kp)), (da, .inl (cA, 24, .inl dr))] H := hP
            have hD : va_D A [(mo, .inr (6, [.ref fa, .ref ka, .int on, .int rn, .int lf, .int wt, .int nv, .int nl, .int nh, .int nc, .int cm, .ref da, .int dn, .int u_59])), (fa, .inl (cA, 66, .inl fl)), (ka, .inl (cA, 66, .inl kp)), (da, .inl (cA, 24, .inl dr))] := hD
            obtain ⟨rfl, h_58v⟩ := goes_0 h_58
            refine lv_if_ne (tgt := 88) hx hb dX6_copy_83 (by decide) (fun c_63 => ?_) (fun c_63 => ?_)
            · skip
              exact absurd (by decide) c_63
            · skip
              refine lv_iconst (v := 0) hx hb dX6_copy_86 (by decide) ?_
              exact W.iret (v := 0) hx hb hr (fun t ht hW => ⟨⟨0, (fl, on, rn, lf, wt, cm, u_59), rfl, (by simp only [F_X6_copy, F_X6_copyFits, F_X6_copyCan, if_neg c_4, if_neg c_28, if_pos c_49, if_neg c_50, if_pos c_57, ← h_58, ↓reduceIte]), ⟨by rw [ht]; exact hP, hD⟩⟩, hS.F ht⟩) hS.2.2 dX6_copy_87
          · skip
            refine lv_iconst (v := 1) hx hb dX6_copy_75 (by decide) ?_
            refine lv_goto (tgt := 80) hx hb dX6_copy_76 (by decide) ?_
            refine bx_wi (wc := [(mo, .inr (6, [.ref fa, .ref ka, .int on, .int rn, .int lf, .int wt, .int nv, .int nl, .int nh, .int nc, .int cm, .ref da, .int dn, .int la])), (fa, .inl (cA, 66, .inl fl)), (ka, .inl (cA, 66, .inl kp)), (da, .inl (cA, 24, .inl dr))]) (wr := []) (wf := fun (u : (Int32)) => [(mo, .inr (6, [.ref fa, .ref ka, .int on, .int rn, .int lf, .int wt, .int nv, .int nl, .int nh, .int nc, .int cm, .ref da, .int dn, .int u])), (fa, .inl (cA, 66, .inl fl)), (ka, .inl (cA, 66, .inl kp)), (da, .inl (cA, 24, .inl dr))]) (wn := fun (u : (Int32)) => [(mo, .inr (6, [.ref fa, .ref ka, .int on, .int rn, .int lf, .int wt, .int nv, .int nl, .int nh, .int nc, .int cm, .ref da, .int dn, .int u])), (fa, .inl (cA, 66, .inl fl)), (ka, .inl (cA, 66, .inl kp)), (da, .inl (cA, 24, .inl dr))]) hP hD hS hA [0, 1, 2, 3] [] [0, 1, 2, 3] rfl rfl (by decide) (by decide) (fun u => rfl) (by decide) (va_runV (As := [.int 1, .int 1]) (rest := []) ⟨hx, hb, hml, hown, hts⟩ (c_X6_goes l D cA mo fa ka da s.heap.size fl kp on rn lf wt nv nl nh nc cm dr dn la 1 1) (cwV 2 hts gX6_copy_X6_goes rfl rfl rfl (by decide +kernel) ⟨Nat.le_of_ble_eq_true rfl, Nat.le_of_ble_eq_true rfl⟩) (bx_pv (ci := 6) (q0 := 0) hK hG (hP.sub (ws' := [(mo, .inr (6, [.ref fa, .ref ka, .int on, .int rn, .int lf, .int wt, .int nv, .int nl, .int nh, .int nc, .int cm, .ref da, .int dn, .int la])), (fa, .inl (cA, 66, .inl fl)), (ka, .inl (cA, 66, .inl kp)), (da, .inl (cA, 24, .inl dr))]) [0, 1, 2, 3] rfl) (hD.sub (ws' := [(mo, .inr (6, [.ref fa, .ref ka, .int on, .int rn, .int lf, .int wt, .int nv, .int nl, .int nh, .int nc, .int cm, .ref da, .int dn, .int la])), (fa, .inl (cA, 66, .inl fl)), (ka, .inl (cA, 66, .inl kp)), (da, .inl (cA, 24, .inl dr))]) [0, 1, 2, 3] (by decide) rfl) rfl rfl) rfl rfl hl.1 rfl (lv_room (Nat.le_of_ble_eq_true rfl)) dX6_copy_80 ⟨Nat.zero_le _, Nat.zero_le _⟩) (fun r_66 u_65 H locs h_64 hP hD hS => ?_)
            obtain ⟨h_64, b_68⟩ := h_64
            have hP : va_P D vwCl [(mo, .inr (6, [.ref fa, .ref ka, .int on, .int rn, .int lf, .int wt, .int nv, .int nl, .int nh, .int nc, .int cm, .ref da, .int dn, .int u_65])), (fa, .inl (cA, 66, .inl fl)), (ka, .inl (cA, 66, .inl kp)), (da, .inl (cA, 24, .inl dr))] H := hP
            have hD : va_D A [(mo, .inr (6, [.ref fa, .ref ka, .int on, .int rn, .int lf, .int wt, .int nv, .int nl, .int nh, .int nc, .int cm, .ref da, .int dn, .int u_65])), (fa, .inl (cA, 66, .inl fl)), (ka, .inl (cA, 66, .inl kp)), (da, .inl (cA, 24, .inl dr))] := hD
            obtain ⟨rfl, h_64v⟩ := goes_11 h_64
            refine lv_if_ne (tgt := 88) hx hb dX6_copy_83 (by decide) (fun c_69 => ?_) (fun c_69 => ?_)
            · skip
              obtain ⟨c0, ec, hc0⟩ := copy_cm c_50 c_57 c_28 (hcf.resolve_left c_50).1 (hcf.resolve_left c_50).2
              have h0 : on = 0 ∨ (sl rn ∧ cm = nI (c0 + 0) ∧ ∃ a, p0 = nI a ∧ a + p1.toNatClampNeg ≤ 24) := Or.inl c_49
              refine lv_iconst (v := 0) hx hb dX6_copy_88 (by decide) ?_
              refine lv_istore (lv' := [(4, .int 0), (3, .int 1), (0, .ref mo), (1, .int p0), (2, .int p1)]) hx hb dX6_copy_89 hl (by decide) rfl (fun ls hl => ?_)
              have loop91 : ∀ (n : Nat) (j : Nat) (k : Int32) (fl9 : Nat → Int32) (on9 : Int32) (rn9 : Int32) (lf9 : Int32) (wt9 : Int32) (cm9 : Int32), 2 * (p1.toNatClampNeg - j) + (if on9 = 0 then 0 else 1) < n → j ≤ p1.toNatClampNeg → k = nI j → (on9 = 0 ∨ (sl rn9 ∧ cm9 = nI (c0 + j) ∧ ∃ a, p0 = nI a ∧ a + p1.toNatClampNeg ≤ 24)) → mcN p0 (p1.toNatClampNeg - j) j fl9 on9 rn9 lf9 wt9 cm9 = mcN p0 p1.toNatClampNeg 0 fl on rn lf wt cm → ∀ (H : Heap) (locs : List Loc), va_P D vwCl [(mo, .inr (6, [.ref fa, .ref ka, .int on9, .int rn9, .int lf9, .int wt9, .int nv, .int nl, .int nh, .int nc, .int cm9, .ref da, .int dn, .int u_65])), (fa, .inl (cA, 66, .inl fl9)), (ka, .inl (cA, 66, .inl kp)), (da, .inl (cA, 24, .inl dr))] H → va_D A [(mo, .inr (6, [.ref fa, .ref ka, .int on9, .int rn9, .int lf9, .int wt9, .int nv, .int nl, .int nh, .int nc, .int cm9, .ref da, .int dn, .int u_65])), (fa, .inl (cA, 66, .inl fl9)), (ka, .inl (cA, 66, .inl kp)), (da, .inl (cA, 24, .inl dr))] → va_S A s.heap H locs → ∀ (ls : Array Slot), lv_has ls 5 [(4, .int k), (3, .int 1), (0, .ref mo), (1, .int p0), (2, .int p1)] → W p l e (headSpec wsX6_copy ({ frames := 3, cells := 0, slots := 0, locals := 64 })).room s m ([.ref mo, .int p0, .int p1] : List Value).toArray below meth c H locs 0 0 (MQ below (va_Qi (fun r u => (r, u) = F_X6_copy fl on rn lf wt nl cm p0 p1) (fun u t => bx_at D (wMo cA mo fa ka da u.1 kp u.2.1 u.2.2.1 u.2.2.2.1 u.2.2.2.2.1 nv nl nh nc u.2.2.2.2.2.1 dr dn u.2.2.2.2.2.2) (A) t) (A)) ([.ref mo, .int p0, .int p1] : List Value).toArray s 0 0 (A)) (F0 m 91 ls []) := by
                intro n
                induction n with
                | zero =>
                  intro j k fl9 on9 rn9 lf9 wt9 cm9 h_f ij ik iv ie H locs hP hD hS ls hl
                  exact absurd h_f (Nat.not_lt_zero _)
                | succ n ih91 =>
                  intro j k fl9 on9 rn9 lf9 wt9 cm9 h_f ij ik iv ie H locs hP hD hS ls hl
                  refine lv_iload hx hb dX6_copy_91 (lv_at hl 0 rfl) ?_
                  refine lv_iload_n hx hb dX6_copy_93 rfl (lv_at hl 4 rfl) ?_
                  refine lv_icmp_ge (tgt := 143) hx hb dX6_copy_94 (by decide) (fun c_70 => ?_) (fun c_70 => ?_)
                  · skip
                    have hcl := bx_cl p1
                    have hm : (k, fl9, on9, rn9, lf9, wt9, cm9) = mcN p0 p1.toNatClampNeg 0 fl on rn lf wt cm := by
                      have h9 : p1.toNatClampNeg ≤ j := (bx_le (N := p1) (by omega)).mp (ik ▸ c_70)
                      rw [← ie, Nat.sub_eq_zero_of_le h9, mcN, ik]
                    refine lv_iload hx hb dX6_copy_143 (lv_at hl 0 rfl) ?_
                    exact W.iret (v := k) hx hb hr (fun t ht hW => ⟨⟨k, (fl9, on9, rn9, lf9, wt9, cm9, u_65), rfl, (by simp only [F_X6_copy, F_X6_copyFits, F_X6_copyCan, if_neg c_4, if_neg c_28, if_pos c_49, if_neg c_50, if_neg c_57, ← h_64, ← hm]; rw [if_neg (by decide)]), ⟨by rw [ht]; exact hP, hD⟩⟩, hS.F ht⟩) hS.2.2 dX6_copy_145
                  · skip
                    have hcl := bx_cl p1
                    have hj : j < p1.toNatClampNeg := lt_nn (by omega) (by rw [← ik]; exact c_70)
                    refine lv_aload_n hx hb dX6_copy_97 rfl (lv_at hl 2 rfl) ?_
                    refine va_get (D := D) (ci := 6) (v := .int on9) (C := RX6) (T := TX6) (N := 14) hx hb hts hi6 hown hK hP 0 rfl rfl 2 (by decide) (hts (.fieldLink RX6 63 "BootstayModel" "on" "Z") (by decide +kernel)) (fun _ h9 => h9) rfl dX6_copy_98 ?_
                    refine lv_if_eq (tgt := 143) hx hb dX6_copy_101 (by decide) (fun c_71 => ?_) (fun c_71 => ?_)
                    · skip
                      have hm : (k, fl9, on9, rn9, lf9, wt9, cm9) = mcN p0 p1.toNatClampNeg 0 fl on rn lf wt cm := by
                        rw [← ie, mcN_off c_71, ik]
                      refine lv_iload hx hb dX6_copy_143 (lv_at hl 0 rfl) ?_
                      exact W.iret (v := k) hx hb hr (fun t ht hW => ⟨⟨k, (fl9, on9, rn9, lf9, wt9, cm9, u_65), rfl, (by simp only [F_X6_copy, F_X6_copyFits, F_X6_copyCan, if_neg c_4, if_neg c_28, if_pos c_49, if_neg c_50, if_neg c_57, ← h_64, ← hm]; rw [if_neg (by decide)]), ⟨by rw [ht]; exact hP, hD⟩⟩, hS.F ht⟩) hS.2.2 dX6_copy_145
                    · skip
                      have hon9 : ¬ on9 = 0 := c_71
                      have hq := iv.resolve_left hon9
                      obtain ⟨ga, ea, la_⟩ := hq.2.2
                      have hvk : vp_in (p0 + k) 24 := by rw [ea, ik, nI_add]; exact vp_in_nI (by omega) (by decide)
                      have hvc : vp_in cm9 24 := by rw [hq.2.1]; exact vp_in_nI (by omega) (by decide)
                      refine lv_iload hx hb dX6_copy_104 (lv_at hl 0 rfl) ?_
                      refine lv_aload_n hx hb dX6_copy_106 rfl (lv_at hl 2 rfl) ?_
                      refine lv_aload_n hx hb dX6_copy_107 rfl (lv_at hl 2 rfl) ?_
                      refine va_get (D := D) (ci := 6) (v := .ref fa) (C := RX6) (T := TX6) (N := 14) hx hb hts hi6 hown hK hP 0 rfl rfl 0 (by decide) (hts (.fieldLink RX6 7 "BootstayModel" "flash" "[I") (by decide +kernel)) (fun _ h9 => h9) rfl dX6_copy_108 ?_
                      refine lv_bipush (v := 29) hx hb dX6_copy_111 (by decide) ?_
                      refine lv_aload_n hx hb dX6_copy_113 rfl (lv_at hl 2 rfl) ?_
                      refine va_get (D := D) (ci := 6) (v := .int rn9) (C := RX6) (T := TX6) (N := 14) hx hb hts hi6 hown hK hP 0 rfl rfl 3 (by decide) (hts (.fieldLink RX6 16 "BootstayModel" "running" "I") (by decide +kernel)) (fun _ h9 => h9) rfl dX6_copy_114 ?_
                      refine lv_imul hx hb dX6_copy_117 ?_
                      refine lv_iconst (v := 5) hx hb dX6_copy_118 (by decide) ?_
                      refine lv_iadd hx hb dX6_copy_119 ?_
                      refine lv_iload_n hx hb dX6_copy_120 rfl (lv_at hl 3 rfl) ?_
                      refine lv_iadd hx hb dX6_copy_121 ?_
                      refine lv_iload hx hb dX6_copy_122 (lv_at hl 0 rfl) ?_
                      refine lv_iadd hx hb dX6_copy_124 ?_
                      refine bx_ald (D := D) hx hb hK hP 1 0 rfl rfl (vi5' hq.1 hvk) dX6_copy_125 ?_
                      refine bx_wi (wc := [(mo, .inr (6, [.ref fa, .ref ka, .int on9, .int rn9, .int lf9, .int wt9, .int nv, .int nl, .int nh, .int nc, .int cm9, .ref da, .int dn, .int u_65])), (fa, .inl (cA, 66, .inl fl9)), (ka, .inl (cA, 66, .inl kp)), (da, .inl (cA, 24, .inl dr))]) (wr := []) (wf := fun (u : (Nat → Int32) × (Int32) × (Int32) × (Int32) × (Int32) × (Int32)) => [(mo, .inr (6, [.ref fa, .ref ka, .int u.2.1, .int u.2.2.1, .int u.2.2.2.1, .int u.2.2.2.2.1, .int nv, .int nl, .int nh, .int nc, .int u.2.2.2.2.2, .ref da, .int dn, .int u_65])), (fa, .inl (cA, 66, .inl u.1)), (ka, .inl (cA, 66, .inl kp)), (da, .inl (cA, 24, .inl dr))]) (wn := fun (u : (Nat → Int32) × (Int32) × (Int32) × (Int32) × (Int32) × (Int32)) => [(mo, .inr (6, [.ref fa, .ref ka, .int u.2.1, .int u.2.2.1, .int u.2.2.2.1, .int u.2.2.2.2.1, .int nv, .int nl, .int nh, .int nc, .int u.2.2.2.2.2, .ref da, .int dn, .int u_65])), (fa, .inl (cA, 66, .inl u.1)), (ka, .inl (cA, 66, .inl kp)), (da, .inl (cA, 24, .inl dr))]) hP hD hS hA [0, 1, 2, 3] [] [0, 1, 2, 3] rfl rfl (by decide) (by decide) (fun u => rfl) (by decide) (va_runV (As := [.int (rd fl9 ((((29 * rn9) + 5) + p0) + k))]) (rest := [.int k]) ⟨hx, hb, hml, hown, hts⟩ (c_X6_comes l D cA mo fa ka da H.size fl9 kp on9 rn9 lf9 wt9 nv nl nh nc cm9 dr dn u_65 (rd fl9 ((((29 * rn9) + 5) + p0) + k)) hq.1 hvc) (cwV 1 hts gX6_copy_X6_comes rfl rfl rfl (by decide +kernel) ⟨Nat.le_of_ble_eq_true rfl, Nat.le_of_ble_eq_true rfl⟩) (bx_pv (ci := 6) (q0 := 0) hK hG (hP.sub (ws' := [(mo, .inr (6, [.ref fa, .ref ka, .int on9, .int rn9, .int lf9, .int wt9, .int nv, .int nl, .int nh, .int nc, .int cm9, .ref da, .int dn, .int u_65])), (fa, .inl (cA, 66, .inl fl9)), (ka, .inl (cA, 66, .inl kp)), (da, .inl (cA, 24, .inl dr))]) [0, 1, 2, 3] rfl) (hD.sub (ws' := [(mo, .inr (6, [.ref fa, .ref ka, .int on9, .int rn9, .int lf9, .int wt9, .int nv, .int nl, .int nh, .int nc, .int cm9, .ref da, .int dn, .int u_65])), (fa, .inl (cA, 66, .inl fl9)), (ka, .inl (cA, 66, .inl kp)), (da, .inl (cA, 24, .inl dr))]) [0, 1, 2, 3] (by decide) rfl) rfl rfl) rfl rfl hl.1 rfl (lv_room (Nat.le_of_ble_eq_true rfl)) dX6_copy_126 ⟨Nat.zero_le _, Nat.zero_le _⟩) (fun r_74 u_73 H locs h_72 hP hD hS => ?_)
                      obtain ⟨fl75, on76, rn77, lf78, wt79, cm80⟩ := u_73
                      obtain ⟨h_72, b_81⟩ := h_72
                      have hP : va_P D vwCl [(mo, .inr (6, [.ref fa, .ref ka, .int on76, .int rn77, .int lf78, .int wt79, .int nv, .int nl, .int nh, .int nc, .int cm80, .ref da, .int dn, .int u_65])), (fa, .inl (cA, 66, .inl fl75)), (ka, .inl (cA, 66, .inl kp)), (da, .inl (cA, 24, .inl dr))] H := hP
                      have hD : va_D A [(mo, .inr (6, [.ref fa, .ref ka, .int on76, .int rn77, .int lf78, .int wt79, .int nv, .int nl, .int nh, .int nc, .int cm80, .ref da, .int dn, .int u_65])), (fa, .inl (cA, 66, .inl fl75)), (ka, .inl (cA, 66, .inl kp)), (da, .inl (cA, 24, .inl dr))] := hD
                      refine lv_if_eq (tgt := 136) hx hb dX6_copy_129 (by decide) (fun c_82 => ?_) (fun c_82 => ?_)
                      · skip
                        refine lv_iconst (v := 0) hx hb dX6_copy_136 (by decide) ?_
                        refine lv_iadd hx hb dX6_copy_137 ?_
                        refine lv_istore (lv' := [(4, .int (k + 0)), (3, .int 1), (0, .ref mo), (1, .int p0), (2, .int p1)]) hx hb dX6_copy_138 hl (by decide) rfl (fun ls hl => ?_)
                        refine lv_goto (tgt := 91) hx hb dX6_copy_140 (by decide) ?_
                        exact ih91 j (k + 0) fl75 on76 rn77 lf78 wt79 cm80 (by rw [if_pos ((comes_spec h_72).1 c_82)]; rw [if_neg hon9] at h_f; omega) ij (by rw [ik]; exact Int32.add_zero _) (Or.inl ((comes_spec h_72).1 c_82)) (by rw [mcN_off ((comes_spec h_72).1 c_82)]; subst ik; rw [← ie, (show p1.toNatClampNeg - j = (p1.toNatClampNeg - (j + 1)) + 1 by omega)]; simp only [mcN, if_neg hon9, ← h_72, if_pos c_82]) _ _ hP hD hS ls (lv_sub hl [0, 1, 2, 3, 4] rfl)
                      · skip
                        refine lv_iconst (v := 1) hx hb dX6_copy_132 (by decide) ?_
                        refine lv_goto (tgt := 137) hx hb dX6_copy_133 (by decide) ?_
                        refine lv_iadd hx hb dX6_copy_137 ?_
                        refine lv_istore (lv' := [(4, .int (k + 1)), (3, .int 1), (0, .ref mo), (1, .int p0), (2, .int p1)]) hx hb dX6_copy_138 hl (by decide) rfl (fun ls hl => ?_)
                        refine lv_goto (tgt := 91) hx hb dX6_copy_140 (by decide) ?_
                        exact ih91 (j + 1) (k + 1) fl75 on76 rn77 lf78 wt79 cm80 (by rw [if_neg (by rw [((comes_spec h_72).2 c_82).1]; exact hon9)]; rw [if_neg hon9] at h_f; omega) hj (by rw [ik]; exact nI_1 j) (Or.inr ⟨by rw [((comes_spec h_72).2 c_82).2.1]; exact hq.1, by rw [((comes_spec h_72).2 c_82).2.2, hq.2.1, nI_1, Nat.add_assoc], hq.2.2⟩) (by subst ik; rw [← ie, (show p1.toNatClampNeg - j = (p1.toNatClampNeg - (j + 1)) + 1 by omega)]; simp only [mcN, if_neg hon9, ← h_72, if_neg c_82]) _ _ hP hD hS ls (lv_sub hl [0, 1, 2, 3, 4] rfl)
              exact loop91 (2 * p1.toNatClampNeg + 2) 0 0 fl on rn lf wt cm (by split <;> omega) (Nat.zero_le _) nI_0.symm h0 rfl _ _ hP hD hS ls (lv_sub hl [0, 1, 2, 3, 4] rfl)
            · skip
              exact absurd c_69 (by decide)
      · skip
        refine lv_iload_n hx hb dX6_copy_27 rfl (lv_at hl 1 rfl) ?_
        refine lv_iload_n hx hb dX6_copy_28 rfl (lv_at hl 2 rfl) ?_
        refine lv_iadd hx hb dX6_copy_29 ?_
        refine lv_aload_n hx hb dX6_copy_30 rfl (lv_at hl 0 rfl) ?_
        refine va_get (D := D) (ci := 6) (v := .ref fa) (C := RX6) (T := TX6) (N := 14) hx hb hts hi6 hown hK hP 0 rfl rfl 0 (by decide) (hts (.fieldLink RX6 7 "BootstayModel" "flash" "[I") (by decide +kernel)) (fun _ h9 => h9) rfl dX6_copy_31 ?_
        refine lv_bipush (v := 29) hx hb dX6_copy_34 (by decide) ?_
        refine lv_aload_n hx hb dX6_copy_36 rfl (lv_at hl 0 rfl) ?_
        refine va_get (D := D) (ci := 6) (v := .int rn) (C := RX6) (T := TX6) (N := 14) hx hb hts hi6 hown hK hP 0 rfl rfl 3 (by decide) (hts (.fieldLink RX6 16 "BootstayModel" "running" "I") (by decide +kernel)) (fun _ h9 => h9) rfl dX6_copy_37 ?_
        refine lv_imul hx hb dX6_copy_40 ?_
        refine lv_iconst (v := 2) hx hb dX6_copy_41 (by decide) ?_
        refine lv_iadd hx hb dX6_copy_42 ?_
        refine bx_ald (D := D) hx hb hK hP 1 0 rfl rfl (vp_in_iff.mpr (by rcases (hon.resolve_left c_49) with h | h <;> rw [h] <;> decide)) dX6_copy_43 ?_
        refine lv_icmp_gt (tgt := 51) hx hb dX6_copy_44 (by decide) (fun c_83 => ?_) (fun c_83 => ?_)
        · skip
          refine lv_iconst (v := 0) hx hb dX6_copy_51 (by decide) ?_
          refine lv_istore_n (lv' := [(3, .int 0), (0, .ref mo), (1, .int p0), (2, .int p1)]) hx hb dX6_copy_52 rfl hl (by decide) rfl (fun ls hl => ?_)
          refine lv_aload_n hx hb dX6_copy_53 rfl (lv_at hl 1 rfl) ?_
          refine lv_iload_n hx hb dX6_copy_54 rfl (lv_at hl 0 rfl) ?_
          refine lv_aload_n hx hb dX6_copy_55 rfl (lv_at hl 1 rfl) ?_
          refine va_get (D := D) (ci := 6) (v := .int cm) (C := RX6) (T := TX6) (N := 14) hx hb hts hi6 hown hK hP 0 rfl rfl 10 (by decide) (hts (.fieldLink RX6 23 "BootstayModel" "come" "I") (by decide +kernel)) (fun _ h9 => h9) rfl dX6_copy_56 ?_
          refine lv_if_lt (tgt := 79) hx hb dX6_copy_59 (by decide) (fun c_84 => ?_) (fun c_84 => ?_)
          · skip
            refine lv_iconst (v := 0) hx hb dX6_copy_79 (by decide) ?_
            refine bx_wi (wc := [(mo, .inr (6, [.ref fa, .ref ka, .int on, .int rn, .int lf, .int wt, .int nv, .int nl, .int nh, .int nc, .int cm, .ref da, .int dn, .int la])), (fa, .inl (cA, 66, .inl fl)), (ka, .inl (cA, 66, .inl kp)), (da, .inl (cA, 24, .inl dr))]) (wr := []) (wf := fun (u : (Int32)) => [(mo, .inr (6, [.ref fa, .ref ka, .int on, .int rn, .int lf, .int wt, .int nv, .int nl, .int nh, .int nc, .int cm, .ref da, .int dn, .int u])), (fa, .inl (cA, 66, .inl fl)), (ka, .inl (cA, 66, .inl kp)), (da, .inl (cA, 24, .inl dr))]) (wn := fun (u : (Int32)) => [(mo, .inr (6, [.ref fa, .ref ka, .int on, .int rn, .int lf, .int wt, .int nv, .int nl, .int nh, .int nc, .int cm, .ref da, .int dn, .int u])), (fa, .inl (cA, 66, .inl fl)), (ka, .inl (cA, 66, .inl kp)), (da, .inl (cA, 24, .inl dr))]) hP hD hS hA [0, 1, 2, 3] [] [0, 1, 2, 3] rfl rfl (by decide) (by decide) (fun u => rfl) (by decide) (va_runV (As := [.int 0, .int 0]) (rest := []) ⟨hx, hb, hml, hown, hts⟩ (c_X6_goes l D cA mo fa ka da s.heap.size fl kp on rn lf wt nv nl nh nc cm dr dn la 0 0) (cwV 2 hts gX6_copy_X6_goes rfl rfl rfl (by decide +kernel) ⟨Nat.le_of_ble_eq_true rfl, Nat.le_of_ble_eq_true rfl⟩) (bx_pv (ci := 6) (q0 := 0) hK hG (hP.sub (ws' := [(mo, .inr (6, [.ref fa, .ref ka, .int on, .int rn, .int lf, .int wt, .int nv, .int nl, .int nh, .int nc, .int cm, .ref da, .int dn, .int la])), (fa, .inl (cA, 66, .inl fl)), (ka, .inl (cA, 66, .inl kp)), (da, .inl (cA, 24, .inl dr))]) [0, 1, 2, 3] rfl) (hD.sub (ws' := [(mo, .inr (6, [.ref fa, .ref ka, .int on, .int rn, .int lf, .int wt, .int nv, .int nl, .int nh, .int nc, .int cm, .ref da, .int dn, .int la])), (fa, .inl (cA, 66, .inl fl)), (ka, .inl (cA, 66, .inl kp)), (da, .inl (cA, 24, .inl dr))]) [0, 1, 2, 3] (by decide) rfl) rfl rfl) rfl rfl hl.1 rfl (lv_room (Nat.le_of_ble_eq_true rfl)) dX6_copy_80 ⟨Nat.zero_le _, Nat.zero_le _⟩) (fun r_87 u_86 H locs h_85 hP hD hS => ?_)
            obtain ⟨h_85, b_89⟩ := h_85
            have hP : va_P D vwCl [(mo, .inr (6, [.ref fa, .ref ka, .int on, .int rn, .int lf, .int wt, .int nv, .int nl, .int nh, .int nc, .int cm, .ref da, .int dn, .int u_86])), (fa, .inl (cA, 66, .inl fl)), (ka, .inl (cA, 66, .inl kp)), (da, .inl (cA, 24, .inl dr))] H := hP
            have hD : va_D A [(mo, .inr (6, [.ref fa, .ref ka, .int on, .int rn, .int lf, .int wt, .int nv, .int nl, .int nh, .int nc, .int cm, .ref da, .int dn, .int u_86])), (fa, .inl (cA, 66, .inl fl)), (ka, .inl (cA, 66, .inl kp)), (da, .inl (cA, 24, .inl dr))] := hD
            obtain ⟨rfl, h_85v⟩ := goes_0 h_85
            refine lv_if_ne (tgt := 88) hx hb dX6_copy_83 (by decide) (fun c_90 => ?_) (fun c_90 => ?_)
            · skip
              exact absurd (by decide) c_90
            · skip
              refine lv_iconst (v := 0) hx hb dX6_copy_86 (by decide) ?_
              exact W.iret (v := 0) hx hb hr (fun t ht hW => ⟨⟨0, (fl, on, rn, lf, wt, cm, u_86), rfl, (by simp only [F_X6_copy, F_X6_copyFits, F_X6_copyCan, if_neg c_4, if_neg c_28, if_neg c_49, if_pos c_83, if_pos c_84, ← h_85, ↓reduceIte]), ⟨by rw [ht]; exact hP, hD⟩⟩, hS.F ht⟩) hS.2.2 dX6_copy_87
          · skip
            refine lv_aload_n hx hb dX6_copy_62 rfl (lv_at hl 1 rfl) ?_
            refine va_get (D := D) (ci := 6) (v := .int nl) (C := RX6) (T := TX6) (N := 14) hx hb hts hi6 hown hK hP 0 rfl rfl 7 (by decide) (hts (.fieldLink RX6 103 "BootstayModel" "newLength" "I") (by decide +kernel)) (fun _ h9 => h9) rfl dX6_copy_63 ?_
            refine lv_aload_n hx hb dX6_copy_66 rfl (lv_at hl 1 rfl) ?_
            refine va_get (D := D) (ci := 6) (v := .int cm) (C := RX6) (T := TX6) (N := 14) hx hb hts hi6 hown hK hP 0 rfl rfl 10 (by decide) (hts (.fieldLink RX6 23 "BootstayModel" "come" "I") (by decide +kernel)) (fun _ h9 => h9) rfl dX6_copy_67 ?_
            refine lv_isub hx hb dX6_copy_70 ?_
            refine lv_iload_n hx hb dX6_copy_71 rfl (lv_at hl 3 rfl) ?_
            refine lv_icmp_lt (tgt := 79) hx hb dX6_copy_72 (by decide) (fun c_91 => ?_) (fun c_91 => ?_)
            · skip
              refine lv_iconst (v := 0) hx hb dX6_copy_79 (by decide) ?_
              refine bx_wi (wc := [(mo, .inr (6, [.ref fa, .ref ka, .int on, .int rn, .int lf, .int wt, .int nv, .int nl, .int nh, .int nc, .int cm, .ref da, .int dn, .int la])), (fa, .inl (cA, 66, .inl fl)), (ka, .inl (cA, 66, .inl kp)), (da, .inl (cA, 24, .inl dr))]) (wr := []) (wf := fun (u : (Int32)) => [(mo, .inr (6, [.ref fa, .ref ka, .int on, .int rn, .int lf, .int wt, .int nv, .int nl, .int nh, .int nc, .int cm, .ref da, .int dn, .int u])), (fa, .inl (cA, 66, .inl fl)), (ka, .inl (cA, 66, .inl kp)), (da, .inl (cA, 24, .inl dr))]) (wn := fun (u : (Int32)) => [(mo, .inr (6, [.ref fa, .ref ka, .int on, .int rn, .int lf, .int wt, .int nv, .int nl, .int nh, .int nc, .int cm, .ref da, .int dn, .int u])), (fa, .inl (cA, 66, .inl fl)), (ka, .inl (cA, 66, .inl kp)), (da, .inl (cA, 24, .inl dr))]) hP hD hS hA [0, 1, 2, 3] [] [0, 1, 2, 3] rfl rfl (by decide) (by decide) (fun u => rfl) (by decide) (va_runV (As := [.int 0, .int 0]) (rest := []) ⟨hx, hb, hml, hown, hts⟩ (c_X6_goes l D cA mo fa ka da s.heap.size fl kp on rn lf wt nv nl nh nc cm dr dn la 0 0) (cwV 2 hts gX6_copy_X6_goes rfl rfl rfl (by decide +kernel) ⟨Nat.le_of_ble_eq_true rfl, Nat.le_of_ble_eq_true rfl⟩) (bx_pv (ci := 6) (q0 := 0) hK hG (hP.sub (ws' := [(mo, .inr (6, [.ref fa, .ref ka, .int on, .int rn, .int lf, .int wt, .int nv, .int nl, .int nh, .int nc, .int cm, .ref da, .int dn, .int la])), (fa, .inl (cA, 66, .inl fl)), (ka, .inl (cA, 66, .inl kp)), (da, .inl (cA, 24, .inl dr))]) [0, 1, 2, 3] rfl) (hD.sub (ws' := [(mo, .inr (6, [.ref fa, .ref ka, .int on, .int rn, .int lf, .int wt, .int nv, .int nl, .int nh, .int nc, .int cm, .ref da, .int dn, .int la])), (fa, .inl (cA, 66, .inl fl)), (ka, .inl (cA, 66, .inl kp)), (da, .inl (cA, 24, .inl dr))]) [0, 1, 2, 3] (by decide) rfl) rfl rfl) rfl rfl hl.1 rfl (lv_room (Nat.le_of_ble_eq_true rfl)) dX6_copy_80 ⟨Nat.zero_le _, Nat.zero_le _⟩) (fun r_94 u_93 H locs h_92 hP hD hS => ?_)
              obtain ⟨h_92, b_96⟩ := h_92
              have hP : va_P D vwCl [(mo, .inr (6, [.ref fa, .ref ka, .int on, .int rn, .int lf, .int wt, .int nv, .int nl, .int nh, .int nc, .int cm, .ref da, .int dn, .int u_93])), (fa, .inl (cA, 66, .inl fl)), (ka, .inl (cA, 66, .inl kp)), (da, .inl (cA, 24, .inl dr))] H := hP
              have hD : va_D A [(mo, .inr (6, [.ref fa, .ref ka, .int on, .int rn, .int lf, .int wt, .int nv, .int nl, .int nh, .int nc, .int cm, .ref da, .int dn, .int u_93])), (fa, .inl (cA, 66, .inl fl)), (ka, .inl (cA, 66, .inl kp)), (da, .inl (cA, 24, .inl dr))] := hD
              obtain ⟨rfl, h_92v⟩ := goes_0 h_92
              refine lv_if_ne (tgt := 88) hx hb dX6_copy_83 (by decide) (fun c_97 => ?_) (fun c_97 => ?_)
              · skip
                exact absurd (by decide) c_97
              · skip
                refine lv_iconst (v := 0) hx hb dX6_copy_86 (by decide) ?_
                exact W.iret (v := 0) hx hb hr (fun t ht hW => ⟨⟨0, (fl, on, rn, lf, wt, cm, u_93), rfl, (by simp only [F_X6_copy, F_X6_copyFits, F_X6_copyCan, if_neg c_4, if_neg c_28, if_neg c_49, if_pos c_83, if_neg c_84, if_pos c_91, ← h_92, ↓reduceIte]), ⟨by rw [ht]; exact hP, hD⟩⟩, hS.F ht⟩) hS.2.2 dX6_copy_87
            · skip
              refine lv_iconst (v := 1) hx hb dX6_copy_75 (by decide) ?_
              refine lv_goto (tgt := 80) hx hb dX6_copy_76 (by decide) ?_
              refine bx_wi (wc := [(mo, .inr (6, [.ref fa, .ref ka, .int on, .int rn, .int lf, .int wt, .int nv, .int nl, .int nh, .int nc, .int cm, .ref da, .int dn, .int la])), (fa, .inl (cA, 66, .inl fl)), (ka, .inl (cA, 66, .inl kp)), (da, .inl (cA, 24, .inl dr))]) (wr := []) (wf := fun (u : (Int32)) => [(mo, .inr (6, [.ref fa, .ref ka, .int on, .int rn, .int lf, .int wt, .int nv, .int nl, .int nh, .int nc, .int cm, .ref da, .int dn, .int u])), (fa, .inl (cA, 66, .inl fl)), (ka, .inl (cA, 66, .inl kp)), (da, .inl (cA, 24, .inl dr))]) (wn := fun (u : (Int32)) => [(mo, .inr (6, [.ref fa, .ref ka, .int on, .int rn, .int lf, .int wt, .int nv, .int nl, .int nh, .int nc, .int cm, .ref da, .int dn, .int u])), (fa, .inl (cA, 66, .inl fl)), (ka, .inl (cA, 66, .inl kp)), (da, .inl (cA, 24, .inl dr))]) hP hD hS hA [0, 1, 2, 3] [] [0, 1, 2, 3] rfl rfl (by decide) (by decide) (fun u => rfl) (by decide) (va_runV (As := [.int 0, .int 1]) (rest := []) ⟨hx, hb, hml, hown, hts⟩ (c_X6_goes l D cA mo fa ka da s.heap.size fl kp on rn lf wt nv nl nh nc cm dr dn la 0 1) (cwV 2 hts gX6_copy_X6_goes rfl rfl rfl (by decide +kernel) ⟨Nat.le_of_ble_eq_true rfl, Nat.le_of_ble_eq_true rfl⟩) (bx_pv (ci := 6) (q0 := 0) hK hG (hP.sub (ws' := [(mo, .inr (6, [.ref fa, .ref ka, .int on, .int rn, .int lf, .int wt, .int nv, .int nl, .int nh, .int nc, .int cm, .ref da, .int dn, .int la])), (fa, .inl (cA, 66, .inl fl)), (ka, .inl (cA, 66, .inl kp)), (da, .inl (cA, 24, .inl dr))]) [0, 1, 2, 3] rfl) (hD.sub (ws' := [(mo, .inr (6, [.ref fa, .ref ka, .int on, .int rn, .int lf, .int wt, .int nv, .int nl, .int nh, .int nc, .int cm, .ref da, .int dn, .int la])), (fa, .inl (cA, 66, .inl fl)), (ka, .inl (cA, 66, .inl kp)), (da, .inl (cA, 24, .inl dr))]) [0, 1, 2, 3] (by decide) rfl) rfl rfl) rfl rfl hl.1 rfl (lv_room (Nat.le_of_ble_eq_true rfl)) dX6_copy_80 ⟨Nat.zero_le _, Nat.zero_le _⟩) (fun r_100 u_99 H locs h_98 hP hD hS => ?_)
              obtain ⟨h_98, b_102⟩ := h_98
              have hP : va_P D vwCl [(mo, .inr (6, [.ref fa, .ref ka, .int on, .int rn, .int lf, .int wt, .int nv, .int nl, .int nh, .int nc, .int cm, .ref da, .int dn, .int u_99])), (fa, .inl (cA, 66, .inl fl)), (ka, .inl (cA, 66, .inl kp)), (da, .inl (cA, 24, .inl dr))] H := hP
              have hD : va_D A [(mo, .inr (6, [.ref fa, .ref ka, .int on, .int rn, .int lf, .int wt, .int nv, .int nl, .int nh, .int nc, .int cm, .ref da, .int dn, .int u_99])), (fa, .inl (cA, 66, .inl fl)), (ka, .inl (cA, 66, .inl kp)), (da, .inl (cA, 24, .inl dr))] := hD
              obtain ⟨rfl, h_98v⟩ := goes_01 h_98
              refine lv_if_ne (tgt := 88) hx hb dX6_copy_83 (by decide) (fun c_103 => ?_) (fun c_103 => ?_)
              · skip
                exact absurd (by decide) c_103
              · skip
                refine lv_iconst (v := 0) hx hb dX6_copy_86 (by decide) ?_
                exact W.iret (v := 0) hx hb hr (fun t ht hW => ⟨⟨0, (fl, on, rn, lf, wt, cm, u_99), rfl, (by simp only [F_X6_copy, F_X6_copyFits, F_X6_copyCan, if_neg c_4, if_neg c_28, if_neg c_49, if_pos c_83, if_neg c_84, if_neg c_91, ← h_98, ↓reduceIte]), ⟨by rw [ht]; exact hP, hD⟩⟩, hS.F ht⟩) hS.2.2 dX6_copy_87
        · skip
          refine lv_iconst (v := 1) hx hb dX6_copy_47 (by decide) ?_
          refine lv_goto (tgt := 52) hx hb dX6_copy_48 (by decide) ?_
          refine lv_istore_n (lv' := [(3, .int 1), (0, .ref mo), (1, .int p0), (2, .int p1)]) hx hb dX6_copy_52 rfl hl (by decide) rfl (fun ls hl => ?_)
          refine lv_aload_n hx hb dX6_copy_53 rfl (lv_at hl 1 rfl) ?_
          refine lv_iload_n hx hb dX6_copy_54 rfl (lv_at hl 0 rfl) ?_
          refine lv_aload_n hx hb dX6_copy_55 rfl (lv_at hl 1 rfl) ?_
          refine va_get (D := D) (ci := 6) (v := .int cm) (C := RX6) (T := TX6) (N := 14) hx hb hts hi6 hown hK hP 0 rfl rfl 10 (by decide) (hts (.fieldLink RX6 23 "BootstayModel" "come" "I") (by decide +kernel)) (fun _ h9 => h9) rfl dX6_copy_56 ?_
          refine lv_if_lt (tgt := 79) hx hb dX6_copy_59 (by decide) (fun c_104 => ?_) (fun c_104 => ?_)
          · skip
            refine lv_iconst (v := 0) hx hb dX6_copy_79 (by decide) ?_
            refine bx_wi (wc := [(mo, .inr (6, [.ref fa, .ref ka, .int on, .int rn, .int lf, .int wt, .int nv, .int nl, .int nh, .int nc, .int cm, .ref da, .int dn, .int la])), (fa, .inl (cA, 66, .inl fl)), (ka, .inl (cA, 66, .inl kp)), (da, .inl (cA, 24, .inl dr))]) (wr := []) (wf := fun (u : (Int32)) => [(mo, .inr (6, [.ref fa, .ref ka, .int on, .int rn, .int lf, .int wt, .int nv, .int nl, .int nh, .int nc, .int cm, .ref da, .int dn, .int u])), (fa, .inl (cA, 66, .inl fl)), (ka, .inl (cA, 66, .inl kp)), (da, .inl (cA, 24, .inl dr))]) (wn := fun (u : (Int32)) => [(mo, .inr (6, [.ref fa, .ref ka, .int on, .int rn, .int lf, .int wt, .int nv, .int nl, .int nh, .int nc, .int cm, .ref da, .int dn, .int u])), (fa, .inl (cA, 66, .inl fl)), (ka, .inl (cA, 66, .inl kp)), (da, .inl (cA, 24, .inl dr))]) hP hD hS hA [0, 1, 2, 3] [] [0, 1, 2, 3] rfl rfl (by decide) (by decide) (fun u => rfl) (by decide) (va_runV (As := [.int 1, .int 0]) (rest := []) ⟨hx, hb, hml, hown, hts⟩ (c_X6_goes l D cA mo fa ka da s.heap.size fl kp on rn lf wt nv nl nh nc cm dr dn la 1 0) (cwV 2 hts gX6_copy_X6_goes rfl rfl rfl (by decide +kernel) ⟨Nat.le_of_ble_eq_true rfl, Nat.le_of_ble_eq_true rfl⟩) (bx_pv (ci := 6) (q0 := 0) hK hG (hP.sub (ws' := [(mo, .inr (6, [.ref fa, .ref ka, .int on, .int rn, .int lf, .int wt, .int nv, .int nl, .int nh, .int nc, .int cm, .ref da, .int dn, .int la])), (fa, .inl (cA, 66, .inl fl)), (ka, .inl (cA, 66, .inl kp)), (da, .inl (cA, 24, .inl dr))]) [0, 1, 2, 3] rfl) (hD.sub (ws' := [(mo, .inr (6, [.ref fa, .ref ka, .int on, .int rn, .int lf, .int wt, .int nv, .int nl, .int nh, .int nc, .int cm, .ref da, .int dn, .int la])), (fa, .inl (cA, 66, .inl fl)), (ka, .inl (cA, 66, .inl kp)), (da, .inl (cA, 24, .inl dr))]) [0, 1, 2, 3] (by decide) rfl) rfl rfl) rfl rfl hl.1 rfl (lv_room (Nat.le_of_ble_eq_true rfl)) dX6_copy_80 ⟨Nat.zero_le _, Nat.zero_le _⟩) (fun r_107 u_106 H locs h_105 hP hD hS => ?_)
            obtain ⟨h_105, b_109⟩ := h_105
            have hP : va_P D vwCl [(mo, .inr (6, [.ref fa, .ref ka, .int on, .int rn, .int lf, .int wt, .int nv, .int nl, .int nh, .int nc, .int cm, .ref da, .int dn, .int u_106])), (fa, .inl (cA, 66, .inl fl)), (ka, .inl (cA, 66, .inl kp)), (da, .inl (cA, 24, .inl dr))] H := hP
            have hD : va_D A [(mo, .inr (6, [.ref fa, .ref ka, .int on, .int rn, .int lf, .int wt, .int nv, .int nl, .int nh, .int nc, .int cm, .ref da, .int dn, .int u_106])), (fa, .inl (cA, 66, .inl fl)), (ka, .inl (cA, 66, .inl kp)), (da, .inl (cA, 24, .inl dr))] := hD
            obtain ⟨rfl, h_105v⟩ := goes_0 h_105
            refine lv_if_ne (tgt := 88) hx hb dX6_copy_83 (by decide) (fun c_110 => ?_) (fun c_110 => ?_)
            · skip
              exact absurd (by decide) c_110
            · skip
              refine lv_iconst (v := 0) hx hb dX6_copy_86 (by decide) ?_
              exact W.iret (v := 0) hx hb hr (fun t ht hW => ⟨⟨0, (fl, on, rn, lf, wt, cm, u_106), rfl, (by simp only [F_X6_copy, F_X6_copyFits, F_X6_copyCan, if_neg c_4, if_neg c_28, if_neg c_49, if_neg c_83, if_pos c_104, ← h_105, ↓reduceIte]), ⟨by rw [ht]; exact hP, hD⟩⟩, hS.F ht⟩) hS.2.2 dX6_copy_87
          · skip
            refine lv_aload_n hx hb dX6_copy_62 rfl (lv_at hl 1 rfl) ?_
            refine va_get (D := D) (ci := 6) (v := .int nl) (C := RX6) (T := TX6) (N := 14) hx hb hts hi6 hown hK hP 0 rfl rfl 7 (by decide) (hts (.fieldLink RX6 103 "BootstayModel" "newLength" "I") (by decide +kernel)) (fun _ h9 => h9) rfl dX6_copy_63 ?_
            refine lv_aload_n hx hb dX6_copy_66 rfl (lv_at hl 1 rfl) ?_
            refine va_get (D := D) (ci := 6) (v := .int cm) (C := RX6) (T := TX6) (N := 14) hx hb hts hi6 hown hK hP 0 rfl rfl 10 (by decide) (hts (.fieldLink RX6 23 "BootstayModel" "come" "I") (by decide +kernel)) (fun _ h9 => h9) rfl dX6_copy_67 ?_
            refine lv_isub hx hb dX6_copy_70 ?_
            refine lv_iload_n hx hb dX6_copy_71 rfl (lv_at hl 3 rfl) ?_
            refine lv_icmp_lt (tgt := 79) hx hb dX6_copy_72 (by decide) (fun c_111 => ?_) (fun c_111 => ?_)
            · skip
              refine lv_iconst (v := 0) hx hb dX6_copy_79 (by decide) ?_
              refine bx_wi (wc := [(mo, .inr (6, [.ref fa, .ref ka, .int on, .int rn, .int lf, .int wt, .int nv, .int nl, .int nh, .int nc, .int cm, .ref da, .int dn, .int la])), (fa, .inl (cA, 66, .inl fl)), (ka, .inl (cA, 66, .inl kp)), (da, .inl (cA, 24, .inl dr))]) (wr := []) (wf := fun (u : (Int32)) => [(mo, .inr (6, [.ref fa, .ref ka, .int on, .int rn, .int lf, .int wt, .int nv, .int nl, .int nh, .int nc, .int cm, .ref da, .int dn, .int u])), (fa, .inl (cA, 66, .inl fl)), (ka, .inl (cA, 66, .inl kp)), (da, .inl (cA, 24, .inl dr))]) (wn := fun (u : (Int32)) => [(mo, .inr (6, [.ref fa, .ref ka, .int on, .int rn, .int lf, .int wt, .int nv, .int nl, .int nh, .int nc, .int cm, .ref da, .int dn, .int u])), (fa, .inl (cA, 66, .inl fl)), (ka, .inl (cA, 66, .inl kp)), (da, .inl (cA, 24, .inl dr))]) hP hD hS hA [0, 1, 2, 3] [] [0, 1, 2, 3] rfl rfl (by decide) (by decide) (fun u => rfl) (by decide) (va_runV (As := [.int 1, .int 0]) (rest := []) ⟨hx, hb, hml, hown, hts⟩ (c_X6_goes l D cA mo fa ka da s.heap.size fl kp on rn lf wt nv nl nh nc cm dr dn la 1 0) (cwV 2 hts gX6_copy_X6_goes rfl rfl rfl (by decide +kernel) ⟨Nat.le_of_ble_eq_true rfl, Nat.le_of_ble_eq_true rfl⟩) (bx_pv (ci := 6) (q0 := 0) hK hG (hP.sub (ws' := [(mo, .inr (6, [.ref fa, .ref ka, .int on, .int rn, .int lf, .int wt, .int nv, .int nl, .int nh, .int nc, .int cm, .ref da, .int dn, .int la])), (fa, .inl (cA, 66, .inl fl)), (ka, .inl (cA, 66, .inl kp)), (da, .inl (cA, 24, .inl dr))]) [0, 1, 2, 3] rfl) (hD.sub (ws' := [(mo, .inr (6, [.ref fa, .ref ka, .int on, .int rn, .int lf, .int wt, .int nv, .int nl, .int nh, .int nc, .int cm, .ref da, .int dn, .int la])), (fa, .inl (cA, 66, .inl fl)), (ka, .inl (cA, 66, .inl kp)), (da, .inl (cA, 24, .inl dr))]) [0, 1, 2, 3] (by decide) rfl) rfl rfl) rfl rfl hl.1 rfl (lv_room (Nat.le_of_ble_eq_true rfl)) dX6_copy_80 ⟨Nat.zero_le _, Nat.zero_le _⟩) (fun r_114 u_113 H locs h_112 hP hD hS => ?_)
              obtain ⟨h_112, b_116⟩ := h_112
              have hP : va_P D vwCl [(mo, .inr (6, [.ref fa, .ref ka, .int on, .int rn, .int lf, .int wt, .int nv, .int nl, .int nh, .int nc, .int cm, .ref da, .int dn, .int u_113])), (fa, .inl (cA, 66, .inl fl)), (ka, .inl (cA, 66, .inl kp)), (da, .inl (cA, 24, .inl dr))] H := hP
              have hD : va_D A [(mo, .inr (6, [.ref fa, .ref ka, .int on, .int rn, .int lf, .int wt, .int nv, .int nl, .int nh, .int nc, .int cm, .ref da, .int dn, .int u_113])), (fa, .inl (cA, 66, .inl fl)), (ka, .inl (cA, 66, .inl kp)), (da, .inl (cA, 24, .inl dr))] := hD
              obtain ⟨rfl, h_112v⟩ := goes_0 h_112
              refine lv_if_ne (tgt := 88) hx hb dX6_copy_83 (by decide) (fun c_117 => ?_) (fun c_117 => ?_)
              · skip
                exact absurd (by decide) c_117
              · skip
                refine lv_iconst (v := 0) hx hb dX6_copy_86 (by decide) ?_
                exact W.iret (v := 0) hx hb hr (fun t ht hW => ⟨⟨0, (fl, on, rn, lf, wt, cm, u_113), rfl, (by simp only [F_X6_copy, F_X6_copyFits, F_X6_copyCan, if_neg c_4, if_neg c_28, if_neg c_49, if_neg c_83, if_neg c_104, if_pos c_111, ← h_112, ↓reduceIte]), ⟨by rw [ht]; exact hP, hD⟩⟩, hS.F ht⟩) hS.2.2 dX6_copy_87
            · skip
              refine lv_iconst (v := 1) hx hb dX6_copy_75 (by decide) ?_
              refine lv_goto (tgt := 80) hx hb dX6_copy_76 (by decide) ?_
              refine bx_wi (wc := [(mo, .inr (6, [.ref fa, .ref ka, .int on, .int rn, .int lf, .int wt, .int nv, .int nl, .int nh, .int nc, .int cm, .ref da, .int dn, .int la])), (fa, .inl (cA, 66, .inl fl)), (ka, .inl (cA, 66, .inl kp)), (da, .inl (cA, 24, .inl dr))]) (wr := []) (wf := fun (u : (Int32)) => [(mo, .inr (6, [.ref fa, .ref ka, .int on, .int rn, .int lf, .int wt, .int nv, .int nl, .int nh, .int nc, .int cm, .ref da, .int dn, .int u])), (fa, .inl (cA, 66, .inl fl)), (ka, .inl (cA, 66, .inl kp)), (da, .inl (cA, 24, .inl dr))]) (wn := fun (u : (Int32)) => [(mo, .inr (6, [.ref fa, .ref ka, .int on, .int rn, .int lf, .int wt, .int nv, .int nl, .int nh, .int nc, .int cm, .ref da, .int dn, .int u])), (fa, .inl (cA, 66, .inl fl)), (ka, .inl (cA, 66, .inl kp)), (da, .inl (cA, 24, .inl dr))]) hP hD hS hA [0, 1, 2, 3] [] [0, 1, 2, 3] rfl rfl (by decide) (by decide) (fun u => rfl) (by decide) (va_runV (As := [.int 1, .int 1]) (rest := []) ⟨hx, hb, hml, hown, hts⟩ (c_X6_goes l D cA mo fa ka da s.heap.size fl kp on rn lf wt nv nl nh nc cm dr dn la 1 1) (cwV 2 hts gX6_copy_X6_goes rfl rfl rfl (by decide +kernel) ⟨Nat.le_of_ble_eq_true rfl, Nat.le_of_ble_eq_true rfl⟩) (bx_pv (ci := 6) (q0 := 0) hK hG (hP.sub (ws' := [(mo, .inr (6, [.ref fa, .ref ka, .int on, .int rn, .int lf, .int wt, .int nv, .int nl, .int nh, .int nc, .int cm, .ref da, .int dn, .int la])), (fa, .inl (cA, 66, .inl fl)), (ka, .inl (cA, 66, .inl kp)), (da, .inl (cA, 24, .inl dr))]) [0, 1, 2, 3] rfl) (hD.sub (ws' := [(mo, .inr (6, [.ref fa, .ref ka, .int on, .int rn, .int lf, .int wt, .int nv, .int nl, .int nh, .int nc, .int cm, .ref da, .int dn, .int la])), (fa, .inl (cA, 66, .inl fl)), (ka, .inl (cA, 66, .inl kp)), (da, .inl (cA, 24, .inl dr))]) [0, 1, 2, 3] (by decide) rfl) rfl rfl) rfl rfl hl.1 rfl (lv_room (Nat.le_of_ble_eq_true rfl)) dX6_copy_80 ⟨Nat.zero_le _, Nat.zero_le _⟩) (fun r_120 u_119 H locs h_118 hP hD hS => ?_)
              obtain ⟨h_118, b_122⟩ := h_118
              have hP : va_P D vwCl [(mo, .inr (6, [.ref fa, .ref ka, .int on, .int rn, .int lf, .int wt, .int nv, .int nl, .int nh, .int nc, .int cm, .ref da, .int dn, .int u_119])), (fa, .inl (cA, 66, .inl fl)), (ka, .inl (cA, 66, .inl kp)), (da, .inl (cA, 24, .inl dr))] H := hP
              have hD : va_D A [(mo, .inr (6, [.ref fa, .ref ka, .int on, .int rn, .int lf, .int wt, .int nv, .int nl, .int nh, .int nc, .int cm, .ref da, .int dn, .int u_119])), (fa, .inl (cA, 66, .inl fl)), (ka, .inl (cA, 66, .inl kp)), (da, .inl (cA, 24, .inl dr))] := hD
              obtain ⟨rfl, h_118v⟩ := goes_11 h_118
              refine lv_if_ne (tgt := 88) hx hb dX6_copy_83 (by decide) (fun c_123 => ?_) (fun c_123 => ?_)
              · skip
                obtain ⟨c0, ec, hc0⟩ := copy_cm c_104 c_111 c_28 (hcf.resolve_left c_104).1 (hcf.resolve_left c_104).2
                have h0 : on = 0 ∨ (sl rn ∧ cm = nI (c0 + 0) ∧ ∃ a, p0 = nI a ∧ a + p1.toNatClampNeg ≤ 24) := Or.inr ⟨hon.resolve_left c_49, ec, copy_pq c_4 c_28 c_83 (hLL rn (hon.resolve_left c_49))⟩
                refine lv_iconst (v := 0) hx hb dX6_copy_88 (by decide) ?_
                refine lv_istore (lv' := [(4, .int 0), (3, .int 1), (0, .ref mo), (1, .int p0), (2, .int p1)]) hx hb dX6_copy_89 hl (by decide) rfl (fun ls hl => ?_)
                have loop91 : ∀ (n : Nat) (j : Nat) (k : Int32) (fl9 : Nat → Int32) (on9 : Int32) (rn9 : Int32) (lf9 : Int32) (wt9 : Int32) (cm9 : Int32), 2 * (p1.toNatClampNeg - j) + (if on9 = 0 then 0 else 1) < n → j ≤ p1.toNatClampNeg → k = nI j → (on9 = 0 ∨ (sl rn9 ∧ cm9 = nI (c0 + j) ∧ ∃ a, p0 = nI a ∧ a + p1.toNatClampNeg ≤ 24)) → mcN p0 (p1.toNatClampNeg - j) j fl9 on9 rn9 lf9 wt9 cm9 = mcN p0 p1.toNatClampNeg 0 fl on rn lf wt cm → ∀ (H : Heap) (locs : List Loc), va_P D vwCl [(mo, .inr (6, [.ref fa, .ref ka, .int on9, .int rn9, .int lf9, .int wt9, .int nv, .int nl, .int nh, .int nc, .int cm9, .ref da, .int dn, .int u_119])), (fa, .inl (cA, 66, .inl fl9)), (ka, .inl (cA, 66, .inl kp)), (da, .inl (cA, 24, .inl dr))] H → va_D A [(mo, .inr (6, [.ref fa, .ref ka, .int on9, .int rn9, .int lf9, .int wt9, .int nv, .int nl, .int nh, .int nc, .int cm9, .ref da, .int dn, .int u_119])), (fa, .inl (cA, 66, .inl fl9)), (ka, .inl (cA, 66, .inl kp)), (da, .inl (cA, 24, .inl dr))] → va_S A s.heap H locs → ∀ (ls : Array Slot), lv_has ls 5 [(4, .int k), (3, .int 1), (0, .ref mo), (1, .int p0), (2, .int p1)] → W p l e (headSpec wsX6_copy ({ frames := 3, cells := 0, slots := 0, locals := 64 })).room s m ([.ref mo, .int p0, .int p1] : List Value).toArray below meth c H locs 0 0 (MQ below (va_Qi (fun r u => (r, u) = F_X6_copy fl on rn lf wt nl cm p0 p1) (fun u t => bx_at D (wMo cA mo fa ka da u.1 kp u.2.1 u.2.2.1 u.2.2.2.1 u.2.2.2.2.1 nv nl nh nc u.2.2.2.2.2.1 dr dn u.2.2.2.2.2.2) (A) t) (A)) ([.ref mo, .int p0, .int p1] : List Value).toArray s 0 0 (A)) (F0 m 91 ls []) := by
                  intro n
                  induction n with
                  | zero =>
                    intro j k fl9 on9 rn9 lf9 wt9 cm9 h_f ij ik iv ie H locs hP hD hS ls hl
                    exact absurd h_f (Nat.not_lt_zero _)
                  | succ n ih91 =>
                    intro j k fl9 on9 rn9 lf9 wt9 cm9 h_f ij ik iv ie H locs hP hD hS ls hl
                    refine lv_iload hx hb dX6_copy_91 (lv_at hl 0 rfl) ?_
                    refine lv_iload_n hx hb dX6_copy_93 rfl (lv_at hl 4 rfl) ?_
                    refine lv_icmp_ge (tgt := 143) hx hb dX6_copy_94 (by decide) (fun c_124 => ?_) (fun c_124 => ?_)
                    · skip
                      have hcl := bx_cl p1
                      have hm : (k, fl9, on9, rn9, lf9, wt9, cm9) = mcN p0 p1.toNatClampNeg 0 fl on rn lf wt cm := by
                        have h9 : p1.toNatClampNeg ≤ j := (bx_le (N := p1) (by omega)).mp (ik ▸ c_124)
                        rw [← ie, Nat.sub_eq_zero_of_le h9, mcN, ik]
                      refine lv_iload hx hb dX6_copy_143 (lv_at hl 0 rfl) ?_
                      exact W.iret (v := k) hx hb hr (fun t ht hW => ⟨⟨k, (fl9, on9, rn9, lf9, wt9, cm9, u_119), rfl, (by simp only [F_X6_copy, F_X6_copyFits, F_X6_copyCan, if_neg c_4, if_neg c_28, if_neg c_49, if_neg c_83, if_neg c_104, if_neg c_111, ← h_118, ← hm]; rw [if_neg (by decide)]), ⟨by rw [ht]; exact hP, hD⟩⟩, hS.F ht⟩) hS.2.2 dX6_copy_145
                    · skip
                      have hcl := bx_cl p1
                      have hj : j < p1.toNatClampNeg := lt_nn (by omega) (by rw [← ik]; exact c_124)
                      refine lv_aload_n hx hb dX6_copy_97 rfl (lv_at hl 2 rfl) ?_
                      refine va_get (D := D) (ci := 6) (v := .int on9) (C := RX6) (T := TX6) (N := 14) hx hb hts hi6 hown hK hP 0 rfl rfl 2 (by decide) (hts (.fieldLink RX6 63 "BootstayModel" "on" "Z") (by decide +kernel)) (fun _ h9 => h9) rfl dX6_copy_98 ?_
                      refine lv_if_eq (tgt := 143) hx hb dX6_copy_101 (by decide) (fun c_125 => ?_) (fun c_125 => ?_)
                      · skip
                        have hm : (k, fl9, on9, rn9, lf9, wt9, cm9) = mcN p0 p1.toNatClampNeg 0 fl on rn lf wt cm := by
                          rw [← ie, mcN_off c_125, ik]
                        refine lv_iload hx hb dX6_copy_143 (lv_at hl 0 rfl) ?_
                        exact W.iret (v := k) hx hb hr (fun t ht hW => ⟨⟨k, (fl9, on9, rn9, lf9, wt9, cm9, u_119), rfl, (by simp only [F_X6_copy, F_X6_copyFits, F_X6_copyCan, if_neg c_4, if_neg c_28, if_neg c_49, if_neg c_83, if_neg c_104, if_neg c_111, ← h_118, ← hm]; rw [if_neg (by decide)]), ⟨by rw [ht]; exact hP, hD⟩⟩, hS.F ht⟩) hS.2.2 dX6_copy_145
                      · skip
                        have hon9 : ¬ on9 = 0 := c_125
                        have hq := iv.resolve_left hon9
                        obtain ⟨ga, ea, la_⟩ := hq.2.2
                        have hvk : vp_in (p0 + k) 24 := by rw [ea, ik, nI_add]; exact vp_in_nI (by omega) (by decide)
                        have hvc : vp_in cm9 24 := by rw [hq.2.1]; exact vp_in_nI (by omega) (by decide)
                        refine lv_iload hx hb dX6_copy_104 (lv_at hl 0 rfl) ?_
                        refine lv_aload_n hx hb dX6_copy_106 rfl (lv_at hl 2 rfl) ?_
                        refine lv_aload_n hx hb dX6_copy_107 rfl (lv_at hl 2 rfl) ?_
                        refine va_get (D := D) (ci := 6) (v := .ref fa) (C := RX6) (T := TX6) (N := 14) hx hb hts hi6 hown hK hP 0 rfl rfl 0 (by decide) (hts (.fieldLink RX6 7 "BootstayModel" "flash" "[I") (by decide +kernel)) (fun _ h9 => h9) rfl dX6_copy_108 ?_
                        refine lv_bipush (v := 29) hx hb dX6_copy_111 (by decide) ?_
                        refine lv_aload_n hx hb dX6_copy_113 rfl (lv_at hl 2 rfl) ?_
                        refine va_get (D := D) (ci := 6) (v := .int rn9) (C := RX6) (T := TX6) (N := 14) hx hb hts hi6 hown hK hP 0 rfl rfl 3 (by decide) (hts (.fieldLink RX6 16 "BootstayModel" "running" "I") (by decide +kernel)) (fun _ h9 => h9) rfl dX6_copy_114 ?_
                        refine lv_imul hx hb dX6_copy_117 ?_
                        refine lv_iconst (v := 5) hx hb dX6_copy_118 (by decide) ?_
                        refine lv_iadd hx hb dX6_copy_119 ?_
                        refine lv_iload_n hx hb dX6_copy_120 rfl (lv_at hl 3 rfl) ?_
                        refine lv_iadd hx hb dX6_copy_121 ?_
                        refine lv_iload hx hb dX6_copy_122 (lv_at hl 0 rfl) ?_
                        refine lv_iadd hx hb dX6_copy_124 ?_
                        refine bx_ald (D := D) hx hb hK hP 1 0 rfl rfl (vi5' hq.1 hvk) dX6_copy_125 ?_
                        refine bx_wi (wc := [(mo, .inr (6, [.ref fa, .ref ka, .int on9, .int rn9, .int lf9, .int wt9, .int nv, .int nl, .int nh, .int nc, .int cm9, .ref da, .int dn, .int u_119])), (fa, .inl (cA, 66, .inl fl9)), (ka, .inl (cA, 66, .inl kp)), (da, .inl (cA, 24, .inl dr))]) (wr := []) (wf := fun (u : (Nat → Int32) × (Int32) × (Int32) × (Int32) × (Int32) × (Int32)) => [(mo, .inr (6, [.ref fa, .ref ka, .int u.2.1, .int u.2.2.1, .int u.2.2.2.1, .int u.2.2.2.2.1, .int nv, .int nl, .int nh, .int nc, .int u.2.2.2.2.2, .ref da, .int dn, .int u_119])), (fa, .inl (cA, 66, .inl u.1)), (ka, .inl (cA, 66, .inl kp)), (da, .inl (cA, 24, .inl dr))]) (wn := fun (u : (Nat → Int32) × (Int32) × (Int32) × (Int32) × (Int32) × (Int32)) => [(mo, .inr (6, [.ref fa, .ref ka, .int u.2.1, .int u.2.2.1, .int u.2.2.2.1, .int u.2.2.2.2.1, .int nv, .int nl, .int nh, .int nc, .int u.2.2.2.2.2, .ref da, .int dn, .int u_119])), (fa, .inl (cA, 66, .inl u.1)), (ka, .inl (cA, 66, .inl kp)), (da, .inl (cA, 24, .inl dr))]) hP hD hS hA [0, 1, 2, 3] [] [0, 1, 2, 3] rfl rfl (by decide) (by decide) (fun u => rfl) (by decide) (va_runV (As := [.int (rd fl9 ((((29 * rn9) + 5) + p0) + k))]) (rest := [.int k]) ⟨hx, hb, hml, hown, hts⟩ (c_X6_comes l D cA mo fa ka da H.size fl9 kp on9 rn9 lf9 wt9 nv nl nh nc cm9 dr dn u_119 (rd fl9 ((((29 * rn9) + 5) + p0) + k)) hq.1 hvc) (cwV 1 hts gX6_copy_X6_comes rfl rfl rfl (by decide +kernel) ⟨Nat.le_of_ble_eq_true rfl, Nat.le_of_ble_eq_true rfl⟩) (bx_pv (ci := 6) (q0 := 0) hK hG (hP.sub (ws' := [(mo, .inr (6, [.ref fa, .ref ka, .int on9, .int rn9, .int lf9, .int wt9, .int nv, .int nl, .int nh, .int nc, .int cm9, .ref da, .int dn, .int u_119])), (fa, .inl (cA, 66, .inl fl9)), (ka, .inl (cA, 66, .inl kp)), (da, .inl (cA, 24, .inl dr))]) [0, 1, 2, 3] rfl) (hD.sub (ws' := [(mo, .inr (6, [.ref fa, .ref ka, .int on9, .int rn9, .int lf9, .int wt9, .int nv, .int nl, .int nh, .int nc, .int cm9, .ref da, .int dn, .int u_119])), (fa, .inl (cA, 66, .inl fl9)), (ka, .inl (cA, 66, .inl kp)), (da, .inl (cA, 24, .inl dr))]) [0, 1, 2, 3] (by decide) rfl) rfl rfl) rfl rfl hl.1 rfl (lv_room (Nat.le_of_ble_eq_true rfl)) dX6_copy_126 ⟨Nat.zero_le _, Nat.zero_le _⟩) (fun r_128 u_127 H locs h_126 hP hD hS => ?_)
                        obtain ⟨fl129, on130, rn131, lf132, wt133, cm134⟩ := u_127
                        obtain ⟨h_126, b_135⟩ := h_126
                        have hP : va_P D vwCl [(mo, .inr (6, [.ref fa, .ref ka, .int on130, .int rn131, .int lf132, .int wt133, .int nv, .int nl, .int nh, .int nc, .int cm134, .ref da, .int dn, .int u_119])), (fa, .inl (cA, 66, .inl fl129)), (ka, .inl (cA, 66, .inl kp)), (da, .inl (cA, 24, .inl dr))] H := hP
                        have hD : va_D A [(mo, .inr (6, [.ref fa, .ref ka, .int on130, .int rn131, .int lf132, .int wt133, .int nv, .int nl, .int nh, .int nc, .int cm134, .ref da, .int dn, .int u_119])), (fa, .inl (cA, 66, .inl fl129)), (ka, .inl (cA, 66, .inl kp)), (da, .inl (cA, 24, .inl dr))] := hD
                        refine lv_if_eq (tgt := 136) hx hb dX6_copy_129 (by decide) (fun c_136 => ?_) (fun c_136 => ?_)
                        · skip
                          refine lv_iconst (v := 0) hx hb dX6_copy_136 (by decide) ?_
                          refine lv_iadd hx hb dX6_copy_137 ?_
                          refine lv_istore (lv' := [(4, .int (k + 0)), (3, .int 1), (0, .ref mo), (1, .int p0), (2, .int p1)]) hx hb dX6_copy_138 hl (by decide) rfl (fun ls hl => ?_)
                          refine lv_goto (tgt := 91) hx hb dX6_copy_140 (by decide) ?_
                          exact ih91 j (k + 0) fl129 on130 rn131 lf132 wt133 cm134 (by rw [if_pos ((comes_spec h_126).1 c_136)]; rw [if_neg hon9] at h_f; omega) ij (by rw [ik]; exact Int32.add_zero _) (Or.inl ((comes_spec h_126).1 c_136)) (by rw [mcN_off ((comes_spec h_126).1 c_136)]; subst ik; rw [← ie, (show p1.toNatClampNeg - j = (p1.toNatClampNeg - (j + 1)) + 1 by omega)]; simp only [mcN, if_neg hon9, ← h_126, if_pos c_136]) _ _ hP hD hS ls (lv_sub hl [0, 1, 2, 3, 4] rfl)
                        · skip
                          refine lv_iconst (v := 1) hx hb dX6_copy_132 (by decide) ?_
                          refine lv_goto (tgt := 137) hx hb dX6_copy_133 (by decide) ?_
                          refine lv_iadd hx hb dX6_copy_137 ?_
                          refine lv_istore (lv' := [(4, .int (k + 1)), (3, .int 1), (0, .ref mo), (1, .int p0), (2, .int p1)]) hx hb dX6_copy_138 hl (by decide) rfl (fun ls hl => ?_)
                          refine lv_goto (tgt := 91) hx hb dX6_copy_140 (by decide) ?_
                          exact ih91 (j + 1) (k + 1) fl129 on130 rn131 lf132 wt133 cm134 (by rw [if_neg (by rw [((comes_spec h_126).2 c_136).1]; exact hon9)]; rw [if_neg hon9] at h_f; omega) hj (by rw [ik]; exact nI_1 j) (Or.inr ⟨by rw [((comes_spec h_126).2 c_136).2.1]; exact hq.1, by rw [((comes_spec h_126).2 c_136).2.2, hq.2.1, nI_1, Nat.add_assoc], hq.2.2⟩) (by subst ik; rw [← ie, (show p1.toNatClampNeg - j = (p1.toNatClampNeg - (j + 1)) + 1 by omega)]; simp only [mcN, if_neg hon9, ← h_126, if_neg c_136]) _ _ hP hD hS ls (lv_sub hl [0, 1, 2, 3, 4] rfl)
                exact loop91 (2 * p1.toNatClampNeg + 2) 0 0 fl on rn lf wt cm (by split <;> omega) (Nat.zero_le _) nI_0.symm h0 rfl _ _ hP hD hS ls (lv_sub hl [0, 1, 2, 3, 4] rfl)
              · skip
                exact absurd c_123 (by decide)
