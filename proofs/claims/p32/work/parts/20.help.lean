/-! my own words: what a method starts from and ends with; one row a call -/
abbrev FS : Type := (Nat → Int32) × Int32 × Int32
abbrev TS : Type := Int32 × Int32 × Int32 × Int32 × Int32 × Int32
abbrev DS : Type := Int32 × (Nat → Int32)
def rd (f : Nat → Int32) (i : Int32) : Int32 := f i.toNatClampNeg
def wr (f : Nat → Int32) (i x : Int32) : Nat → Int32 := upd f i.toNatClampNeg x
abbrev bx_iae : String := "java/lang/IllegalArgumentException"
abbrev bx_ise : String := "java/lang/IllegalStateException"
abbrev bx_ioe : String := "java/lang/IndexOutOfBoundsException"
abbrev bx_d1 : MethodName := ⟨"java/lang/RuntimeException", "<init>", "(Ljava/lang/String;)V"⟩
abbrev bx_d2 : MethodName := ⟨"java/lang/Exception", "<init>", "(Ljava/lang/String;)V"⟩
abbrev bx_d3 : MethodName := ⟨"java/lang/Throwable", "<init>", "(Ljava/lang/String;)V"⟩
theorem bx_warmD {x : MethodName} {s U : State} (hW : s.WarmedH U.vm) (hZ : va_Nw (.declares x) s) : va_Nw (.declares x) U := va_tabs rfl (rfl : (s.setVm U.vm).vm = U.vm) (by rw [Cond.declares_setVm hW.alike]; exact hZ)
/-- words of the tables that a call does not hand on by itself: links to private members of nest mates, casts -/
def bx_ws : List Cond := [.methodLinkNest RX5 21 yX4_init RX5, .methodLinkNest RX5 28 yX1_init RX5, .methodLinkNest RX1 23 yX5_hashWith RX5, .methodLinkNest RX3 13 yX2_init RX5, .methodLinkNest RX3 45 yX5_hashWith RX5, .castable bx_iae bx_iae, .castable bx_ise bx_ise, .castable bx_ioe bx_ioe, .declares bx_d1, .declares bx_d2, .declares bx_d3]
def bx_ncs : List (String × String) := [(bx_ise, bx_iae), (bx_ioe, bx_iae), (bx_ioe, bx_ise)]
def bx_str : List (Nat × String) := [(100, "the offer is older than what the device has"), (126, "the running image ends before that"), (145, "the running slot is not on trial"), (166, "the draft is full"), (199, "an image has no such place"), (218, "an argument is out of range"), (220, "the device is off"), (222, "no transfer has that many bytes to come"), (224, "no transfer has all its bytes"), (234, "the bytes have another hash than was offered"), (236, "the slot is not startable"), (238, "the delta has no such piece"), (52, "the device is on"), (91, "a trial is due")]
/-- what holds of the machine from the start on -/
def bx_G (U : State) : Prop := (∀ w ∈ bx_ws, va_Nw w U) ∧ (∀ q ∈ bx_ncs, va_Nc q.1 q.2 U) ∧ ∀ q ∈ bx_str, ∃ sa : Nat, vk_R RX5 q.1 q.2 sa U
theorem bx_G.warm {s U : State} (hW : s.WarmedH U.vm) (h : bx_G s) : bx_G U := by
  refine ⟨fun w hw => ?_, fun q hq => (h.2.1 q hq).moved hW.alike, fun q hq => ?_⟩
  · have h1 := h.1 w hw
    simp only [bx_ws, List.mem_cons, List.not_mem_nil, or_false] at hw
    rcases hw with rfl | rfl | rfl | rfl | rfl | rfl | rfl | rfl | rfl | rfl | rfl <;> first | exact va_Nw.warmM hW h1 | exact va_Nw.warmC hW h1 | exact bx_warmD hW h1
  · obtain ⟨sa, h1⟩ := h.2.2 q hq
    exact ⟨sa, vk_R.warm hW h1⟩
theorem bx_G.calling {U : State} {g : JFrame} {mk : MethodId} {a : Array Value} (h : bx_G U) : bx_G (U.calling g mk a) := bx_G.warm (s := U) (U := U.calling g mk a) (State.WarmedH.refl U) h
/-- the two statics of Throwable that a throw reads -/
def bx_Z (A : Nat → Prop) (U : State) (H : Heap) : Prop := vx_Zq Bundle.tN "UNASSIGNED_STACK" Bundle.steD A U H ∧ vx_Zq Bundle.tN "SUPPRESSED_SENTINEL" Bundle.listD A U H
theorem bx_Z.moved {A : Nat → Prop} {u U : State} {H : Heap} (hvm : u.vm.Alike U.vm) (h : bx_Z A u H) : bx_Z A U H := ⟨vx_Zq.moved hvm h.1, vx_Zq.moved hvm h.2⟩
theorem bx_Z.kept {A : Nat → Prop} {U : State} {H H1 : Heap} (h : bx_Z A U H) (hq : ∀ a : Nat, a < H.size → ¬ A a → H1[a]? = H[a]?) : bx_Z A U H1 := ⟨h.1.kept hq, h.2.kept hq⟩
theorem bx_Z.narrow {A B : Nat → Prop} {U : State} {H : Heap} (h : bx_Z A U H) (hAB : ∀ q, B q → A q) : bx_Z B U H := ⟨h.1.narrow hAB, h.2.narrow hAB⟩
/-- which exception a code tells -/
def bx_E (k : Int32) (E : String) : Prop := (k = 1 ∧ E = bx_iae) ∨ (k = 2 ∧ E = bx_ise) ∨ (k = 3 ∧ E = bx_ioe)
theorem bx_e1 : bx_E 1 bx_iae := Or.inl ⟨rfl, rfl⟩
theorem bx_e2 : bx_E 2 bx_ise := Or.inr (Or.inl ⟨rfl, rfl⟩)
theorem bx_e3 : bx_E 3 bx_ioe := Or.inr (Or.inr ⟨rfl, rfl⟩)
theorem bx_ne {k : Int32} {E : String} (h : bx_E k E) : ¬ k = 0 := by rcases h with ⟨rfl, -⟩ | ⟨rfl, -⟩ | ⟨rfl, -⟩ <;> decide
def bx_XC (k : Int32) : String → State → State → Prop := fun E st t => bx_E k E ∧ va_F (fun _ => False) st t
/-- what a throw of each of the three needs of the words -/
abbrev bx_nms : List String := ["java/lang/RuntimeException", "java/lang/Exception"]
theorem bx_hb1 : ∀ w ∈ (vx_atS RX5 128 bx_iae bx_nms).filter (fun w => !goodWord w), w ∈ [Cond.castable bx_iae bx_iae, .declares bx_d1, .declares bx_d2, .declares bx_d3] := by decide +kernel
theorem bx_hg1 : ∀ w ∈ Cond.classLink RX5 124 bx_iae :: Cond.initialized bx_iae :: vx_atS RX5 128 bx_iae bx_nms, vx_ot w = true := by decide +kernel
theorem bx_hat1 {args : Array Value} {s : State} (hG : bx_G s) (h : ∀ w ∈ (vx_atS RX5 128 bx_iae bx_nms).filter goodWord, w.before args s = true) : ∀ w ∈ vx_atS RX5 128 bx_iae bx_nms, w.before args s = true :=
  vx_hat h bx_hb1 (vx_c (va_Nw.use rfl (hG.1 (.castable bx_iae bx_iae) (by decide +kernel))) (vx_c (va_Nw.use rfl (hG.1 (.declares bx_d1) (by decide +kernel))) (vx_c (va_Nw.use rfl (hG.1 (.declares bx_d2) (by decide +kernel))) (vx_c (va_Nw.use rfl (hG.1 (.declares bx_d3) (by decide +kernel))) vx_n))))
theorem bx_hb2 : ∀ w ∈ (vx_atS RX5 54 bx_ise bx_nms).filter (fun w => !goodWord w), w ∈ [Cond.castable bx_ise bx_ise, .declares bx_d1, .declares bx_d2, .declares bx_d3] := by decide +kernel
theorem bx_hg2 : ∀ w ∈ Cond.classLink RX5 50 bx_ise :: Cond.initialized bx_ise :: vx_atS RX5 54 bx_ise bx_nms, vx_ot w = true := by decide +kernel
theorem bx_hat2 {args : Array Value} {s : State} (hG : bx_G s) (h : ∀ w ∈ (vx_atS RX5 54 bx_ise bx_nms).filter goodWord, w.before args s = true) : ∀ w ∈ vx_atS RX5 54 bx_ise bx_nms, w.before args s = true :=
  vx_hat h bx_hb2 (vx_c (va_Nw.use rfl (hG.1 (.castable bx_ise bx_ise) (by decide +kernel))) (vx_c (va_Nw.use rfl (hG.1 (.declares bx_d1) (by decide +kernel))) (vx_c (va_Nw.use rfl (hG.1 (.declares bx_d2) (by decide +kernel))) (vx_c (va_Nw.use rfl (hG.1 (.declares bx_d3) (by decide +kernel))) vx_n))))
theorem bx_hb3 : ∀ w ∈ (vx_atS RX5 201 bx_ioe bx_nms).filter (fun w => !goodWord w), w ∈ [Cond.castable bx_ioe bx_ioe, .declares bx_d1, .declares bx_d2, .declares bx_d3] := by decide +kernel
theorem bx_hg3 : ∀ w ∈ Cond.classLink RX5 197 bx_ioe :: Cond.initialized bx_ioe :: vx_atS RX5 201 bx_ioe bx_nms, vx_ot w = true := by decide +kernel
theorem bx_hat3 {args : Array Value} {s : State} (hG : bx_G s) (h : ∀ w ∈ (vx_atS RX5 201 bx_ioe bx_nms).filter goodWord, w.before args s = true) : ∀ w ∈ vx_atS RX5 201 bx_ioe bx_nms, w.before args s = true :=
  vx_hat h bx_hb3 (vx_c (va_Nw.use rfl (hG.1 (.castable bx_ioe bx_ioe) (by decide +kernel))) (vx_c (va_Nw.use rfl (hG.1 (.declares bx_d1) (by decide +kernel))) (vx_c (va_Nw.use rfl (hG.1 (.declares bx_d2) (by decide +kernel))) (vx_c (va_Nw.use rfl (hG.1 (.declares bx_d3) (by decide +kernel))) vx_n))))
/-- a read-only method's start -/
def bx_ro (D : va_G) (tys : List (ClassId × FieldType)) (ws : va_W) : State → Prop := fun U => va_P D vwCl ws U.heap ∧ va_K D vwCl tys U ∧ bx_G U
/-- a writing method's start -/
def bx_pre (D : va_G) (tys : List (ClassId × FieldType)) (ws : va_W) (sz : Nat) : State → Prop := fun U => U.heap.size = sz ∧ va_P D vwCl ws U.heap ∧ va_K D vwCl tys U ∧ va_D (fun _ => True) ws ∧ bx_G U
/-- the same where it may throw -/
def bx_rox (D : va_G) (tys : List (ClassId × FieldType)) (ws : va_W) : State → Prop := fun U => va_P D vwCl ws U.heap ∧ va_K D vwCl tys U ∧ bx_G U ∧ bx_Z (fun _ => False) U U.heap
def bx_prx (D : va_G) (tys : List (ClassId × FieldType)) (ws : va_W) (sz : Nat) : State → Prop := fun U => U.heap.size = sz ∧ va_P D vwCl ws U.heap ∧ va_K D vwCl tys U ∧ va_D (fun _ => True) ws ∧ bx_G U ∧ bx_Z (fun _ => False) U U.heap
/-- the world behind a writing method -/
def bx_at (D : va_G) (ws : va_W) (A : Nat → Prop) (t : State) : Prop := va_P D vwCl ws t.heap ∧ va_D A ws
theorem bx_nb {v : Int32} (h : v = 0 ∨ v = 1) : narrow .boolean (.int v) = .int v := by rcases h with rfl | rfl <;> rfl
theorem bx_fb {v : Int32} (h : v = 0 ∨ v = 1) : fits .boolean (.int v) = true := by rcases h with rfl | rfl <;> rfl
theorem bx_in {i N : Int32} {n : Nat} (h1 : ¬ i < 0) (h2 : ¬ N ≤ i) (hn : N.toInt = n) : vp_in i n := by
  have h3 : 0 ≤ i.toInt := Int.le_of_not_gt (fun h => h1 (Int32.lt_iff_toInt_lt.mpr h))
  have h4 : i.toInt < n := by
    rw [← hn]
    exact Int.lt_of_not_ge (fun h => h2 (Int32.le_iff_toInt_le.mpr h))
  exact vp_in_iff.mpr ⟨h3, h4⟩
theorem bx_le {N : Int32} {j : Nat} (hj : j < 2 ^ 31) : N ≤ nI j ↔ N.toNatClampNeg ≤ j := by
  rw [Int32.le_iff_toInt_le, nI_toInt hj]
  show _ ↔ N.toInt.toNat ≤ j
  omega
theorem bx_cl (N : Int32) : N.toNatClampNeg < 2 ^ 31 := by
  have h := Int32.toInt_lt N
  show N.toInt.toNat < 2 ^ 31
  omega
section BX
variable {D : va_G} {tys : List (ClassId × FieldType)} {ws : va_W} {s : State} {H : Heap} {A : Nat → Prop} {As : List Value}
theorem bx_kc {U : State} {g : JFrame} {mk : MethodId} {a : Array Value} (qK : va_K D vwCl tys U) : va_K D vwCl tys (U.calling g mk a) := va_K.moved (u := U) (U := U.calling g mk a) (Vm.Alike.refl U.vm) qK
theorem bx_zc {U : State} {g : JFrame} {mk : MethodId} {a : Array Value} (q : bx_Z A U U.heap) : bx_Z A (U.calling g mk a) (U.calling g mk a).heap := bx_Z.moved (u := U) (U := U.calling g mk a) (Vm.Alike.refl U.vm) q
theorem bx_blr {av : List Value} : FrameBlind (va_Pc av (bx_ro D tys ws)) := fun a U g mk q => by
  obtain ⟨q0, qP, qK, qG⟩ := q
  exact ⟨q0, qP, bx_kc qK, qG.calling⟩
theorem bx_blw {av : List Value} {sz : Nat} : FrameBlind (va_Pc av (bx_pre D tys ws sz)) := fun a U g mk q => by
  obtain ⟨q0, q1, qP, qK, qD, qG⟩ := q
  exact ⟨q0, q1, qP, bx_kc qK, qD, qG.calling⟩
theorem bx_blrx {av : List Value} : FrameBlind (va_Pc av (bx_rox D tys ws)) := fun a U g mk q => by
  obtain ⟨q0, qP, qK, qG, qZ⟩ := q
  exact ⟨q0, qP, bx_kc qK, qG.calling, bx_zc qZ⟩
theorem bx_blwx {av : List Value} {sz : Nat} : FrameBlind (va_Pc av (bx_prx D tys ws sz)) := fun a U g mk q => by
  obtain ⟨q0, q1, qP, qK, qD, qG, qZ⟩ := q
  exact ⟨q0, q1, qP, bx_kc qK, qD, qG.calling, bx_zc qZ⟩
section R
theorem bx_psr (hK : va_K D vwCl tys s) (hG : bx_G s) (hP : va_P D vwCl ws H) : PreS s H (va_Pc As (bx_ro D tys ws)) As :=
  ⟨bx_blr, fun U hU hW => ⟨rfl, by rw [hU]; exact hP, va_K.moved hW.alike hK, hG.warm hW⟩⟩
theorem bx_psrx (hK : va_K D vwCl tys s) (hG : bx_G s) (hZ : bx_Z (fun _ => False) s H) (hP : va_P D vwCl ws H) : PreS s H (va_Pc As (bx_rox D tys ws)) As :=
  ⟨bx_blrx, fun U hU hW => ⟨rfl, by rw [hU]; exact hP, va_K.moved hW.alike hK, hG.warm hW, by rw [hU]; exact hZ.moved hW.alike⟩⟩
theorem bx_pvr (hK : va_K D vwCl tys s) (hG : bx_G s) (hP : va_P D vwCl ws H) {b ci q0 N : Nat} {C : String} {T : u_T} {fs : List Value} (hc : vwCl[ci]? = some (C, T, N)) (he : ws[q0]? = some (b, .inr (ci, fs))) : PreV s H C b (va_Pc (.ref b :: As) (bx_ro D tys ws)) As :=
  ⟨bx_blr, va_recv hK hP hc he, (bx_psr hK hG hP).2⟩
theorem bx_pvrx (hK : va_K D vwCl tys s) (hG : bx_G s) (hZ : bx_Z (fun _ => False) s H) (hP : va_P D vwCl ws H) {b ci q0 N : Nat} {C : String} {T : u_T} {fs : List Value} (hc : vwCl[ci]? = some (C, T, N)) (he : ws[q0]? = some (b, .inr (ci, fs))) : PreV s H C b (va_Pc (.ref b :: As) (bx_rox D tys ws)) As :=
  ⟨bx_blrx, va_recv hK hP hc he, (bx_psrx hK hG hZ hP).2⟩
theorem bx_ps (hK : va_K D vwCl tys s) (hG : bx_G s) (hP : va_P D vwCl ws H) (hD : va_D A ws) : PreS s H (va_Pc As (bx_pre D tys ws H.size)) As :=
  ⟨bx_blw, fun U hU hW => ⟨rfl, by rw [hU], by rw [hU]; exact hP, va_K.moved hW.alike hK, hD.weaken (fun _ _ _ _ => trivial), hG.warm hW⟩⟩
theorem bx_psx (hK : va_K D vwCl tys s) (hG : bx_G s) (hZ : bx_Z (fun _ => False) s H) (hP : va_P D vwCl ws H) (hD : va_D A ws) : PreS s H (va_Pc As (bx_prx D tys ws H.size)) As :=
  ⟨bx_blwx, fun U hU hW => ⟨rfl, by rw [hU], by rw [hU]; exact hP, va_K.moved hW.alike hK, hD.weaken (fun _ _ _ _ => trivial), hG.warm hW, by rw [hU]; exact hZ.moved hW.alike⟩⟩
theorem bx_pv (hK : va_K D vwCl tys s) (hG : bx_G s) (hP : va_P D vwCl ws H) (hD : va_D A ws) {b ci q0 N : Nat} {C : String} {T : u_T} {fs : List Value} (hc : vwCl[ci]? = some (C, T, N)) (he : ws[q0]? = some (b, .inr (ci, fs))) : PreV s H C b (va_Pc (.ref b :: As) (bx_pre D tys ws H.size)) As :=
  ⟨bx_blw, va_recv hK hP hc he, (bx_ps hK hG hP hD).2⟩
theorem bx_pvx (hK : va_K D vwCl tys s) (hG : bx_G s) (hZ : bx_Z (fun _ => False) s H) (hP : va_P D vwCl ws H) (hD : va_D A ws) {b ci q0 N : Nat} {C : String} {T : u_T} {fs : List Value} (hc : vwCl[ci]? = some (C, T, N)) (he : ws[q0]? = some (b, .inr (ci, fs))) : PreV s H C b (va_Pc (.ref b :: As) (bx_prx D tys ws H.size)) As :=
  ⟨bx_blwx, va_recv hK hP hc he, (bx_psx hK hG hZ hP hD).2⟩
end R
end BX
section BY
variable {p : Program} {l : Launch} {e : Env} {R : Room} {s : State} {m : MethodId} {args : Array Value} {below : List Frame} {meth : Method} {c : Code} {H : Heap} {locs : List Loc} {cells slots : Nat} {Q : State → Prop}
variable {pc : Nat} {ls : Array Slot} {rest st0 : List Value} {a : Array Value} {D : va_G} {A0 : Nat → Prop} {H0 : Heap} {mc ms : Nat} {cc : ByteArray} {ws : va_W} {tys : List (ClassId × FieldType)}
theorem bx_ald {b : Nat} (hx : p.tables.exec = Jvm.exec) (hb : c.code = cc) (hK : va_K D vwCl tys s) (hP : va_P D vwCl ws H) (q0 t0 : Nat) {cA : ClassId} {n : Nat} {f : Nat → Int32} (ha : ws[q0]? = some (b, .inl (cA, n, .inl f))) (ht : tys[t0]? = some (cA, .int)) {i : Int32} (hin : vp_in i n) (hdg : decode cc pc = .ok (.iaload, 1))
    (kk : W p l e R s m args below meth c H locs cells slots Q (F0 m (pc + 1) ls (.int (rd f i) :: rest))) : W p l e R s m args below meth c H locs cells slots Q (F0 m pc ls (.int i :: .ref b :: rest)) := va_iald hx hb hK hP q0 t0 ha ht hin hdg kk
theorem bx_ast {b : Nat} (hx : p.tables.exec = Jvm.exec) (hb : c.code = cc) (hK : va_K D vwCl tys s) (hP : va_P D vwCl ws H) (hD : va_D A0 ws) (hS : va_S A0 H0 H locs) (q0 t0 : Nat) {cA : ClassId} {n : Nat} {f : Nat → Int32} (ha : ws[q0]? = some (b, .inl (cA, n, .inl f))) (ht : tys[t0]? = some (cA, .int)) {i x : Int32} (hin : vp_in i n) (hdg : decode cc pc = .ok (.iastore, 1))
    (kk : ∀ (H1 : Heap) (locs1 : List Loc), va_P D vwCl (ws.set q0 (b, .inl (cA, n, .inl (wr f i x)))) H1 → va_D A0 (ws.set q0 (b, .inl (cA, n, .inl (wr f i x)))) → va_S A0 H0 H1 locs1 → W p l e R s m args below meth c H1 locs1 cells slots Q (F0 m (pc + 1) ls rest)) : W p l e R s m args below meth c H locs cells slots Q (F0 m pc ls (.int x :: .int i :: .ref b :: rest)) := va_iast hx hb hK hP hD hS q0 t0 ha ht hin hdg kk
theorem bx_ri {post : Int32 → Prop} (hr : va_Run p l e R s m args below meth c H locs cells slots 0 0 (F0 m pc ls st0) rest (vp_Si post a) (fun _ => False))
    (kk : ∀ r : Int32, post r → W p l e R s m args below meth c H locs cells slots Q (F0 m (pc + 3) ls (.int r :: rest))) : W p l e R s m args below meth c H locs cells slots Q (F0 m pc ls st0) := by
  intro T hT X
  obtain ⟨v, st₀, t, T', L, h0, X', hL, e1, -, ⟨r, hv, hp, hh⟩, st⟩ := hr T hT X
  cases hv
  obtain ⟨t2, a1, b1⟩ := kk r hp T' (by rw [e1, hh, h0]) (Stand.forget X' (fun q h => (hL q h).elim))
  exact ⟨t2, st t2 a1, b1⟩
theorem bx_wi {S : Type} {post : Int32 → S → Prop} {wc wr : va_W} {wf wn : S → va_W} (hP : va_P D vwCl ws H) (hD : va_D A0 ws) (hS : va_S A0 H0 H locs) (hA : ∀ q, H0.size ≤ q → A0 q) (isC isR pm : List Nat) (hC : isC.map (fun i => ws[i]?) = wc.map some) (hR : isR.map (fun i => ws[i]?) = wr.map some) (hn : va_nd isR = true) (hdis : ∀ i ∈ isR, i ∉ isC)
    (hm : ∀ u, pm.map (fun i => (wr ++ wf u)[i]?) = (wn u).map some) (hpn : va_nd pm = true)
    (hr : va_Run p l e R s m args below meth c H locs cells slots mc ms (F0 m pc ls st0) rest (va_Qi post (fun u t => bx_at D (wf u) (va_A wc H.size) t) (va_A wc H.size) a) (va_A wc H.size))
    (kk : ∀ (r : Int32) (u : S) (H1 : Heap) (locs1 : List Loc), post r u → va_P D vwCl (wn u) H1 → va_D A0 (wn u) → va_S A0 H0 H1 locs1 → W p l e R s m args below meth c H1 locs1 (cells + mc) (slots + ms) Q (F0 m (pc + 3) ls (.int r :: rest))) : W p l e R s m args below meth c H locs cells slots Q (F0 m pc ls st0) := by
  have hF := va_free (wc := wc) hD hS hA isC hC
  refine va_calli hr hS (fun q _ h => hF q h) hF (fun r u t H1 locs1 ht hvm hw hB hz1 hk1 hS1 => ?_)
  obtain ⟨hP1, hD1⟩ := hB
  rw [ht] at hP1
  obtain ⟨hP2, hD2⟩ := va_join (wr := wr) (w1 := wf u) hP hD isC isR hC hR hn hdis hk1 hF hP1 hD1
  have hD3 := hD2.sub (ws' := wn u) pm hpn (hm u)
  have hP3 : va_P D vwCl (wn u) H1 := hP2.sub pm (by
    have h9 := congrArg (List.filterMap id) (hm u)
    simpa [List.filterMap_map, Function.comp_def] using h9)
  exact kk r u H1 locs1 hw hP3 hD3 hS1
theorem bx_wv {S : Type} {post : S → Prop} {wc wr : va_W} {wf wn : S → va_W} (hP : va_P D vwCl ws H) (hD : va_D A0 ws) (hS : va_S A0 H0 H locs) (hA : ∀ q, H0.size ≤ q → A0 q) (isC isR pm : List Nat) (hC : isC.map (fun i => ws[i]?) = wc.map some) (hR : isR.map (fun i => ws[i]?) = wr.map some) (hn : va_nd isR = true) (hdis : ∀ i ∈ isR, i ∉ isC)
    (hm : ∀ u, pm.map (fun i => (wr ++ wf u)[i]?) = (wn u).map some) (hpn : va_nd pm = true)
    (hr : va_Run p l e R s m args below meth c H locs cells slots mc ms (F0 m pc ls st0) rest (va_Qv post (fun u t => bx_at D (wf u) (va_A wc H.size) t) (va_A wc H.size) a) (va_A wc H.size))
    (kk : ∀ (u : S) (H1 : Heap) (locs1 : List Loc), post u → va_P D vwCl (wn u) H1 → va_D A0 (wn u) → va_S A0 H0 H1 locs1 → W p l e R s m args below meth c H1 locs1 (cells + mc) (slots + ms) Q (F0 m (pc + 3) ls rest)) : W p l e R s m args below meth c H locs cells slots Q (F0 m pc ls st0) := by
  have hF := va_free (wc := wc) hD hS hA isC hC
  refine va_callv hr hS (fun q _ h => hF q h) hF (fun u t H1 locs1 ht hvm hw hB hz1 hk1 hS1 => ?_)
  obtain ⟨hP1, hD1⟩ := hB
  rw [ht] at hP1
  obtain ⟨hP2, hD2⟩ := va_join (wr := wr) (w1 := wf u) hP hD isC isR hC hR hn hdis hk1 hF hP1 hD1
  have hD3 := hD2.sub (ws' := wn u) pm hpn (hm u)
  have hP3 : va_P D vwCl (wn u) H1 := hP2.sub pm (by
    have h9 := congrArg (List.filterMap id) (hm u)
    simpa [List.filterMap_map, Function.comp_def] using h9)
  exact kk u H1 locs1 hw hP3 hD3 hS1
/-- a return that left the heap as it was costs no room -/
theorem bx_back {T T' : State} {locs' : List Loc} {c' n' : Nat} (X : Stand p l e R s m args below meth c T locs cells slots) (X' : Stand p l e R s m args below meth c T' locs' c' n') (h : T'.heap = T.heap) : Stand p l e R s m args below meth c T' locs cells slots := by
  have e1 : (T'.setVm s.vm).heap = (T.setVm s.vm).heap := h
  refine { X' with same := ⟨X'.same.1, ?_, ?_, X'.same.2.2.2.1, ?_, ?_⟩ }
  · rw [e1]; exact X.same.2.1
  · rw [e1]; exact X.same.2.2.1
  · rw [e1]; exact X.same.2.2.2.2.1
  · rw [e1]; exact X.same.2.2.2.2.2
/-- a call that throws, or returns with the heap as it was -/
theorem bx_xsv {k : Int32} {post : Unit → Prop} {free : Addr → Prop} (hr : vx_Run p l e R s m args below meth c H locs cells slots mc ms (F0 m pc ls st0) rest (va_Sv post a) (bx_XC k) free) (hS : va_S A0 H0 H locs) (hf : ∀ q, free q → A0 q)
    (kx : ∀ (E : String) (ce : Cell) (q9 : Addr) (H1 : Heap) (locs1 : List Loc), bx_E k E → H.size ≤ H1.size → (∀ q : Nat, q < H.size → H1[q]? = H[q]?) → va_S A0 H0 H1 locs1 → H1[q9]? = some ce → ce.vm = .none → s.vm.findClass E = some ce.cls → vx_W p l e R s m args below meth c H1 locs1 (cells + mc) (slots + ms) Q (F0 m pc ls rest) q9)
    (kk : post () → W p l e R s m args below meth c H locs cells slots Q (F0 m (pc + 3) ls rest)) : W p l e R s m args below meth c H locs cells slots Q (F0 m pc ls st0) := by
  intro T hT X
  rcases hr T hT X with ⟨v, st₀, t, T', L, h0, X', hL, e1, -, ⟨hv, hp, hh⟩, st⟩ | ⟨q, st₀, t, T', L, E, ce, h0, X', hL, e1, e2, ⟨hE, hF⟩, hce, hcv, hcl, st⟩
  · cases hv
    obtain ⟨t2, a1, b1⟩ := kk hp T' (by rw [e1, hh, h0]) (bx_back X X' (by rw [e1, hh, h0, hT]))
    exact ⟨t2, st t2 a1, b1⟩
  · obtain ⟨hz, hk, hS1⟩ := vx_keep (A0 := A0) (A1 := fun _ => False) h0 e1 hS (fun _ _ z => z.elim) hf hL hF
    obtain ⟨t2, a1, b1⟩ := kx E ce q T'.heap (locs ++ L) hE hz (fun q hq => hk q hq (fun z => z)) hS1 (by rw [e1]; exact hce) hcv hcl T' rfl X'
    exact ⟨t2, Steps.trans st a1, b1⟩
end BY
