section BZ
variable {p : Program} {l : Launch} {e : Env} {R : Room} {s : State} {m : MethodId} {args : Array Value} {below : List Frame} {meth : Method} {c : Code} {H : Heap} {locs : List Loc} {cells slots : Nat} {Q : State → Prop}
variable {pc : Nat} {ls : Array Slot} {rest st0 : List Value} {a : Array Value} {D : va_G} {A0 : Nat → Prop} {H0 : Heap} {mc ms : Nat} {cc : ByteArray} {ws : va_W} {tys : List (ClassId × FieldType)}
theorem bx_same {cA cB : ClassId} (i j : Nat) (h : va_K D vwCl tys s) (hi : tys[i]? = some (cA, .int)) (hj : tys[j]? = some (cB, .int)) : cA = cB := by
  have h1 := (h.2 i _ hi).2
  have h2 := (h.2 j _ hj).2
  exact Option.some.inj (h1.symm.trans h2)
theorem bx_wvk {S : Type} {post : S → Prop} {wc wr ws : va_W} {wf wn : S → va_W} {tf : S → List (ClassId × FieldType)} (hP : va_P D vwCl ws H) (hD : va_D A0 ws) (hS : va_S A0 H0 H locs) (hA : ∀ q, H0.size ≤ q → A0 q) (isC isR pm : List Nat) (hC : isC.map (fun i => ws[i]?) = wc.map some) (hR : isR.map (fun i => ws[i]?) = wr.map some) (hn : va_nd isR = true) (hdis : ∀ i ∈ isR, i ∉ isC)
    (hm : ∀ u, pm.map (fun i => (wr ++ wf u)[i]?) = (wn u).map some) (hpn : va_nd pm = true)
    (hr : va_Run p l e R s m args below meth c H locs cells slots mc ms (F0 m pc ls st0) rest (va_Qv post (fun u t => bx_at D (wf u) (va_A wc H.size) t ∧ va_K D vwCl (tf u) t) (va_A wc H.size) a) (va_A wc H.size))
    (kk : ∀ (u : S) (H1 : Heap) (locs1 : List Loc), post u → va_K D vwCl (tf u) s → va_P D vwCl (wn u) H1 → va_D A0 (wn u) → va_S A0 H0 H1 locs1 → W p l e R s m args below meth c H1 locs1 (cells + mc) (slots + ms) Q (F0 m (pc + 3) ls rest)) : W p l e R s m args below meth c H locs cells slots Q (F0 m pc ls st0) := by
  have hF := va_free (wc := wc) hD hS hA isC hC
  refine va_callv hr hS (fun q _ h => hF q h) hF (fun u t H1 locs1 ht hvm hw hB hz1 hk1 hS1 => ?_)
  obtain ⟨⟨hP1, hD1⟩, hK1⟩ := hB
  rw [ht] at hP1
  obtain ⟨hP2, hD2⟩ := va_join (wr := wr) (w1 := wf u) hP hD isC isR hC hR hn hdis hk1 hF hP1 hD1
  have hD3 := hD2.sub (ws' := wn u) pm hpn (hm u)
  have hP3 : va_P D vwCl (wn u) H1 := hP2.sub pm (by
    have h9 := congrArg (List.filterMap id) (hm u)
    simpa [List.filterMap_map, Function.comp_def] using h9)
  exact kk u H1 locs1 hw (va_K.moved hvm.symm hK1) hP3 hD3 hS1
end BZ
def F_X2_init : FS := (fun _ => 0, 0, -1)
def F_X4_init : TS := (0, 0, 0, 0, 0, 0)
def F_X1_init : DS := (0, fun _ => 0)
/-- the first k bytes of the first image are laid -/
def ipN : Nat → FS
  | 0 => F_X2_init
  | n + 1 => F_X2_preset (ipN n) (5 + nI n) (nI n + 1)
def ip1 : FS := F_X2_preset (ipN 8) 0 1
def ip2 : FS := F_X2_preset ip1 1 1
def ip3 : FS := F_X2_preset ip2 2 8
def ip4 : FS := F_X2_preset ip3 3 (F_X3_imageHash ip3 0 8)
def ip5 : FS := F_X2_preset ip4 59 1
def F_X3_init : FS := F_X2_preset ip5 58 (F_X3_checkOf 1 0 0)
set_option maxHeartbeats 4000000 in
set_option maxRecDepth 100000 in
theorem c_X2_init (l : Launch) (D : va_G) (f : Nat) (sz : Nat) : Met l yX2_init wsX2_init ({ frames := 1, cells := 1, slots := 66, locals := 14 }) (va_Pc [.ref f] (bx_pre D [] [(f, .inr (2, [.null, .int 0, .int 0]))] sz)) (va_Qv (fun _ : (Nat) × (ClassId) => True) (fun u t => bx_at D [(f, .inr (2, [.ref u.1, .int F_X2_init.2.1, .int F_X2_init.2.2])), (u.1, .inl (u.2, 66, .inl F_X2_init.1))] (va_A [(f, .inr (2, [.null, .int 0, .int 0]))] sz) t ∧ va_K D vwCl [(u.2, .int)] t) (va_A [(f, .inr (2, [.null, .int 0, .int 0]))] sz)) 1 66 (va_A [(f, .inr (2, [.null, .int 0, .int 0]))] sz) := by
  refine Met.ofW (cc := cX2_init) (maxL := 1) (ret := none) (by decide) rfl ?_
  intro p e s m args below meth c s₁ B hml hv
  obtain ⟨rfl, hsz, hP, hK, hD0, hG⟩ := hv
  have hx := B.exec
  have hb := B.bytes
  have hr := B.returns
  have hts := atoms_spec (ws := wsX2_init) B.pre
  have hown : s.vm.findClass RX2 = some m.cls := findClass_of_methodNamed B.named
  have hlocks := B.notSynchronized
  have hin : meth.name = "<init>" := (name_of_methodNamed B.named B.method).1
  subst hsz
  have hD := hD0.self (sz := s.heap.size)
  generalize hAe : va_A [(f, .inr (2, [.null, .int 0, .int 0]))] s.heap.size = A at hD ⊢
  have hA : ∀ q : Nat, s.heap.size ≤ q → A q := fun q h => by rw [← hAe]; exact Or.inr h
  have hS : va_S A s.heap s.heap [] := va_S.rf
  have hP : va_P D vwCl [(f, .inr (2, [.null, .int 0, .int 0]))] s.heap := hP
  have hl := lv_entry ([.ref f]) (n := 1) (Nat.le_of_ble_eq_true rfl)
  rw [lg_entry_eq]
  generalize (lg_sl ([.ref f]) ++ List.replicate (1 - (lg_sl ([.ref f])).length) Slot.unset).toArray = ls at hl ⊢
  have hl : lv_has ls 1 [(0, .ref f)] := hl
  have hi2 : ∀ w ∈ u_ws RX2 TX2 3, w ∈ wsX2_init := by decide +kernel
  refine lv_aload_n hx hb dX2_init_0 rfl (lv_at hl 0 rfl) ?_
  refine W.objInit hx hb hown (hts (.methodLink RX2 3 objectInit) (by decide +kernel)) (hts (.instanceMethod objectInit) (by decide +kernel)) (hts (.code objectInit ⟨#[0xb1]⟩ 1 none) (List.mem_of_getElem? (i := 3) rfl)) rfl (by rw [hml]; exact hl.1) rfl dX2_init_1 (Nat.le_of_ble_eq_true rfl) (Nat.le_of_ble_eq_true rfl) ?_
  refine W.eq (g2 := F0 m 4 ls []) rfl ?_
  refine lv_aload_n hx hb dX2_init_4 rfl (lv_at hl 0 rfl) ?_
  refine lv_bipush (v := 66) hx hb dX2_init_5 (by decide) ?_
  refine va_newa (atype := .int) (ty := .int) (a0 := (66, .inl (fun _ => 0))) (N' := 66) hx hb (hts (.arrayClass .int) (by decide +kernel)) rfl hK hP hD hS hA (fun _ => rfl) (by decide) rfl (Nat.le_of_ble_eq_true rfl) (Nat.le_of_ble_eq_true rfl) (Nat.le_of_ble_eq_true rfl) dX2_init_7 (fun q1 cA2 H hK hP hD hS => ?_)
  have hP : va_P D vwCl [(f, .inr (2, [.null, .int 0, .int 0])), (q1, .inl (cA2, 66, .inl (fun _ => 0)))] H := hP
  have hD : va_D A [(f, .inr (2, [.null, .int 0, .int 0])), (q1, .inl (cA2, 66, .inl (fun _ => 0)))] := hD
  refine W.widen (k := 1) (n := 66) (Nat.le_of_ble_eq_true rfl) (Nat.le_of_ble_eq_true rfl) ?_
  refine va_putF (D := D) (ci := 2) (v := .ref q1) (ty := (.array .int)) (C := RX2) (T := TX2) (N := 3) hx hb hts hi2 tyX2 tyX2_ok nmX2 hown hK hP hD hS 0 rfl rfl 0 (by decide) (hts (.fieldLink RX2 11 "Bootstay$Flash" "words" "[I") (by decide +kernel)) (fun _ h9 => h9) rfl hin rfl (by decide +kernel) rfl rfl (Nat.le_of_ble_eq_true rfl) dX2_init_9 (fun H locs hP hD hS => ?_)
  have hP : va_P D vwCl [(f, .inr (2, [.ref q1, .int 0, .int 0])), (q1, .inl (cA2, 66, .inl (fun _ => 0)))] H := hP
  have hD : va_D A [(f, .inr (2, [.ref q1, .int 0, .int 0])), (q1, .inl (cA2, 66, .inl (fun _ => 0)))] := hD
  refine lv_aload_n hx hb dX2_init_12 rfl (lv_at hl 0 rfl) ?_
  refine lv_iconst (v := 0) hx hb dX2_init_13 (by decide) ?_
  refine va_put (D := D) (ci := 2) (v := .int 0) (ty := .int) (C := RX2) (T := TX2) (N := 3) hx hb hts hi2 tyX2 tyX2_ok nmX2 hown hK hP hD hS 0 rfl rfl 1 (by decide) (hts (.fieldLink RX2 17 "Bootstay$Flash" "begun" "I") (by decide +kernel)) (fun _ h9 => h9) rfl (by decide +kernel) rfl rfl (Nat.le_of_ble_eq_true rfl) dX2_init_14 (fun H locs hP hD hS => ?_)
  have hP : va_P D vwCl [(f, .inr (2, [.ref q1, .int 0, .int 0])), (q1, .inl (cA2, 66, .inl (fun _ => 0)))] H := hP
  have hD : va_D A [(f, .inr (2, [.ref q1, .int 0, .int 0])), (q1, .inl (cA2, 66, .inl (fun _ => 0)))] := hD
  refine lv_aload_n hx hb dX2_init_17 rfl (lv_at hl 0 rfl) ?_
  refine lv_iconst (v := (-1)) hx hb dX2_init_18 (by decide) ?_
  refine va_put (D := D) (ci := 2) (v := .int (-1)) (ty := .int) (C := RX2) (T := TX2) (N := 3) hx hb hts hi2 tyX2 tyX2_ok nmX2 hown hK hP hD hS 0 rfl rfl 2 (by decide) (hts (.fieldLink RX2 21 "Bootstay$Flash" "writesToFailure" "I") (by decide +kernel)) (fun _ h9 => h9) rfl (by decide +kernel) rfl rfl (Nat.le_of_ble_eq_true rfl) dX2_init_19 (fun H locs hP hD hS => ?_)
  have hP : va_P D vwCl [(f, .inr (2, [.ref q1, .int 0, .int (-1)])), (q1, .inl (cA2, 66, .inl (fun _ => 0)))] H := hP
  have hD : va_D A [(f, .inr (2, [.ref q1, .int 0, .int (-1)])), (q1, .inl (cA2, 66, .inl (fun _ => 0)))] := hD
  have hP9 := hP.sub (ws' := [(f, .inr (2, [.ref q1, .int F_X2_init.2.1, .int F_X2_init.2.2])), (q1, .inl (cA2, 66, .inl F_X2_init.1))]) [0, 1] rfl
  have hD9 := hD.sub (ws' := [(f, .inr (2, [.ref q1, .int F_X2_init.2.1, .int F_X2_init.2.2])), (q1, .inl (cA2, 66, .inl F_X2_init.1))]) [0, 1] (by decide) rfl
  have hK9 : va_K D vwCl [(cA2, .int)] s := hK
  refine W.widen (k := 1) (n := 66) (Nat.le_of_ble_eq_true rfl) (Nat.le_of_ble_eq_true rfl) ?_
  exact W.vret hx hb hr (fun t ht hW => ⟨⟨(q1, cA2), rfl, trivial, ⟨⟨by rw [ht]; exact hP9, hD9⟩, va_K.moved hW.alike hK9⟩⟩, hS.F ht⟩) hS.2.2 dX2_init_22
set_option maxHeartbeats 4000000 in
set_option maxRecDepth 100000 in
theorem c_X4_init (l : Launch) (D : va_G) (t0 : Nat) (sz : Nat) : Met l yX4_init wsX4_init ({ frames := 1, cells := 0, slots := 0, locals := 14 }) (va_Pc [.ref t0] (bx_pre D [] [(t0, .inr (4, [.int 0, .int 0, .int 0, .int 0, .int 0, .int 0]))] sz)) (va_Qv (fun _ : Unit => True) (fun u t => bx_at D [(t0, .inr (4, [.int F_X4_init.1, .int F_X4_init.2.1, .int F_X4_init.2.2.1, .int F_X4_init.2.2.2.1, .int F_X4_init.2.2.2.2.1, .int F_X4_init.2.2.2.2.2]))] (va_A [(t0, .inr (4, [.int 0, .int 0, .int 0, .int 0, .int 0, .int 0]))] sz) t ∧ va_K D vwCl [] t) (va_A [(t0, .inr (4, [.int 0, .int 0, .int 0, .int 0, .int 0, .int 0]))] sz)) 0 0 (va_A [(t0, .inr (4, [.int 0, .int 0, .int 0, .int 0, .int 0, .int 0]))] sz) := by
  refine Met.ofW (cc := cX4_init) (maxL := 1) (ret := none) (by decide) rfl ?_
  intro p e s m args below meth c s₁ B hml hv
  obtain ⟨rfl, hsz, hP, hK, hD0, hG⟩ := hv
  have hx := B.exec
  have hb := B.bytes
  have hr := B.returns
  have hts := atoms_spec (ws := wsX4_init) B.pre
  have hown : s.vm.findClass RX4 = some m.cls := findClass_of_methodNamed B.named
  have hlocks := B.notSynchronized
  have hin : meth.name = "<init>" := (name_of_methodNamed B.named B.method).1
  subst hsz
  have hD := hD0.self (sz := s.heap.size)
  generalize hAe : va_A [(t0, .inr (4, [.int 0, .int 0, .int 0, .int 0, .int 0, .int 0]))] s.heap.size = A at hD ⊢
  have hA : ∀ q : Nat, s.heap.size ≤ q → A q := fun q h => by rw [← hAe]; exact Or.inr h
  have hS : va_S A s.heap s.heap [] := va_S.rf
  have hP : va_P D vwCl [(t0, .inr (4, [.int 0, .int 0, .int 0, .int 0, .int 0, .int 0]))] s.heap := hP
  have hl := lv_entry ([.ref t0]) (n := 1) (Nat.le_of_ble_eq_true rfl)
  rw [lg_entry_eq]
  generalize (lg_sl ([.ref t0]) ++ List.replicate (1 - (lg_sl ([.ref t0])).length) Slot.unset).toArray = ls at hl ⊢
  have hl : lv_has ls 1 [(0, .ref t0)] := hl
  have hi4 : ∀ w ∈ u_ws RX4 TX4 6, w ∈ wsX4_init := by decide +kernel
  refine lv_aload_n hx hb dX4_init_0 rfl (lv_at hl 0 rfl) ?_
  refine W.objInit hx hb hown (hts (.methodLink RX4 3 objectInit) (by decide +kernel)) (hts (.instanceMethod objectInit) (by decide +kernel)) (hts (.code objectInit ⟨#[0xb1]⟩ 1 none) (List.mem_of_getElem? (i := 3) rfl)) rfl (by rw [hml]; exact hl.1) rfl dX4_init_1 (Nat.le_of_ble_eq_true rfl) (Nat.le_of_ble_eq_true rfl) ?_
  refine W.eq (g2 := F0 m 4 ls []) rfl ?_
  refine lv_aload_n hx hb dX4_init_4 rfl (lv_at hl 0 rfl) ?_
  refine lv_iconst (v := 0) hx hb dX4_init_5 (by decide) ?_
  refine va_put (D := D) (ci := 4) (v := .int 0) (ty := .int) (C := RX4) (T := TX4) (N := 6) hx hb hts hi4 tyX4 tyX4_ok nmX4 hown hK hP hD hS 0 rfl rfl 0 (by decide) (hts (.fieldLink RX4 9 "Bootstay$Transfer" "version" "I") (by decide +kernel)) (fun _ h9 => h9) rfl (by decide +kernel) rfl rfl (Nat.le_of_ble_eq_true rfl) dX4_init_6 (fun H locs hP hD hS => ?_)
  have hP : va_P D vwCl [(t0, .inr (4, [.int 0, .int 0, .int 0, .int 0, .int 0, .int 0]))] H := hP
  have hD : va_D A [(t0, .inr (4, [.int 0, .int 0, .int 0, .int 0, .int 0, .int 0]))] := hD
  refine lv_aload_n hx hb dX4_init_9 rfl (lv_at hl 0 rfl) ?_
  refine lv_iconst (v := 0) hx hb dX4_init_10 (by decide) ?_
  refine va_put (D := D) (ci := 4) (v := .int 0) (ty := .int) (C := RX4) (T := TX4) (N := 6) hx hb hts hi4 tyX4 tyX4_ok nmX4 hown hK hP hD hS 0 rfl rfl 1 (by decide) (hts (.fieldLink RX4 15 "Bootstay$Transfer" "length" "I") (by decide +kernel)) (fun _ h9 => h9) rfl (by decide +kernel) rfl rfl (Nat.le_of_ble_eq_true rfl) dX4_init_11 (fun H locs hP hD hS => ?_)
  have hP : va_P D vwCl [(t0, .inr (4, [.int 0, .int 0, .int 0, .int 0, .int 0, .int 0]))] H := hP
  have hD : va_D A [(t0, .inr (4, [.int 0, .int 0, .int 0, .int 0, .int 0, .int 0]))] := hD
  refine lv_aload_n hx hb dX4_init_14 rfl (lv_at hl 0 rfl) ?_
  refine lv_iconst (v := 0) hx hb dX4_init_15 (by decide) ?_
  refine va_put (D := D) (ci := 4) (v := .int 0) (ty := .int) (C := RX4) (T := TX4) (N := 6) hx hb hts hi4 tyX4 tyX4_ok nmX4 hown hK hP hD hS 0 rfl rfl 2 (by decide) (hts (.fieldLink RX4 18 "Bootstay$Transfer" "hash" "I") (by decide +kernel)) (fun _ h9 => h9) rfl (by decide +kernel) rfl rfl (Nat.le_of_ble_eq_true rfl) dX4_init_16 (fun H locs hP hD hS => ?_)
  have hP : va_P D vwCl [(t0, .inr (4, [.int 0, .int 0, .int 0, .int 0, .int 0, .int 0]))] H := hP
  have hD : va_D A [(t0, .inr (4, [.int 0, .int 0, .int 0, .int 0, .int 0, .int 0]))] := hD
  refine lv_aload_n hx hb dX4_init_19 rfl (lv_at hl 0 rfl) ?_
  refine lv_iconst (v := 0) hx hb dX4_init_20 (by decide) ?_
  refine va_put (D := D) (ci := 4) (v := .int 0) (ty := .int) (C := RX4) (T := TX4) (N := 6) hx hb hts hi4 tyX4 tyX4_ok nmX4 hown hK hP hD hS 0 rfl rfl 3 (by decide) (hts (.fieldLink RX4 21 "Bootstay$Transfer" "counter" "I") (by decide +kernel)) (fun _ h9 => h9) rfl (by decide +kernel) rfl rfl (Nat.le_of_ble_eq_true rfl) dX4_init_21 (fun H locs hP hD hS => ?_)
  have hP : va_P D vwCl [(t0, .inr (4, [.int 0, .int 0, .int 0, .int 0, .int 0, .int 0]))] H := hP
  have hD : va_D A [(t0, .inr (4, [.int 0, .int 0, .int 0, .int 0, .int 0, .int 0]))] := hD
  refine lv_aload_n hx hb dX4_init_24 rfl (lv_at hl 0 rfl) ?_
  refine lv_iconst (v := 0) hx hb dX4_init_25 (by decide) ?_
  refine va_put (D := D) (ci := 4) (v := .int 0) (ty := .int) (C := RX4) (T := TX4) (N := 6) hx hb hts hi4 tyX4 tyX4_ok nmX4 hown hK hP hD hS 0 rfl rfl 4 (by decide) (hts (.fieldLink RX4 24 "Bootstay$Transfer" "come" "I") (by decide +kernel)) (fun _ h9 => h9) rfl (by decide +kernel) rfl rfl (Nat.le_of_ble_eq_true rfl) dX4_init_26 (fun H locs hP hD hS => ?_)
  have hP : va_P D vwCl [(t0, .inr (4, [.int 0, .int 0, .int 0, .int 0, .int 0, .int 0]))] H := hP
  have hD : va_D A [(t0, .inr (4, [.int 0, .int 0, .int 0, .int 0, .int 0, .int 0]))] := hD
  refine lv_aload_n hx hb dX4_init_29 rfl (lv_at hl 0 rfl) ?_
  refine lv_iconst (v := 0) hx hb dX4_init_30 (by decide) ?_
  refine va_put (D := D) (ci := 4) (v := .int 0) (ty := .boolean) (C := RX4) (T := TX4) (N := 6) hx hb hts hi4 tyX4 tyX4_ok nmX4 hown hK hP hD hS 0 rfl rfl 5 (by decide) (hts (.fieldLink RX4 27 "Bootstay$Transfer" "isGoingOn" "Z") (by decide +kernel)) (fun _ h9 => h9) rfl (by decide +kernel) rfl rfl (Nat.le_of_ble_eq_true rfl) dX4_init_31 (fun H locs hP hD hS => ?_)
  have hP : va_P D vwCl [(t0, .inr (4, [.int 0, .int 0, .int 0, .int 0, .int 0, .int 0]))] H := hP
  have hD : va_D A [(t0, .inr (4, [.int 0, .int 0, .int 0, .int 0, .int 0, .int 0]))] := hD
  have hP9 := hP.sub (ws' := [(t0, .inr (4, [.int F_X4_init.1, .int F_X4_init.2.1, .int F_X4_init.2.2.1, .int F_X4_init.2.2.2.1, .int F_X4_init.2.2.2.2.1, .int F_X4_init.2.2.2.2.2]))]) [0] rfl
  have hD9 := hD.sub (ws' := [(t0, .inr (4, [.int F_X4_init.1, .int F_X4_init.2.1, .int F_X4_init.2.2.1, .int F_X4_init.2.2.2.1, .int F_X4_init.2.2.2.2.1, .int F_X4_init.2.2.2.2.2]))]) [0] (by decide) rfl
  have hK9 : va_K D vwCl [] s := hK
  refine W.widen (k := 0) (n := 0) (Nat.le_of_ble_eq_true rfl) (Nat.le_of_ble_eq_true rfl) ?_
  exact W.vret hx hb hr (fun t ht hW => ⟨⟨(), rfl, trivial, ⟨⟨by rw [ht]; exact hP9, hD9⟩, va_K.moved hW.alike hK9⟩⟩, hS.F ht⟩) hS.2.2 dX4_init_34
set_option maxHeartbeats 4000000 in
set_option maxRecDepth 100000 in
theorem c_X1_init (l : Launch) (D : va_G) (d : Nat) (sz : Nat) : Met l yX1_init wsX1_init ({ frames := 1, cells := 1, slots := 24, locals := 14 }) (va_Pc [.ref d] (bx_pre D [] [(d, .inr (1, [.int 0, .null]))] sz)) (va_Qv (fun _ : (Nat) × (ClassId) => True) (fun u t => bx_at D [(d, .inr (1, [.int F_X1_init.1, .ref u.1])), (u.1, .inl (u.2, 24, .inl F_X1_init.2))] (va_A [(d, .inr (1, [.int 0, .null]))] sz) t ∧ va_K D vwCl [(u.2, .int)] t) (va_A [(d, .inr (1, [.int 0, .null]))] sz)) 1 24 (va_A [(d, .inr (1, [.int 0, .null]))] sz) := by
  refine Met.ofW (cc := cX1_init) (maxL := 1) (ret := none) (by decide) rfl ?_
  intro p e s m args below meth c s₁ B hml hv
  obtain ⟨rfl, hsz, hP, hK, hD0, hG⟩ := hv
  have hx := B.exec
  have hb := B.bytes
  have hr := B.returns
  have hts := atoms_spec (ws := wsX1_init) B.pre
  have hown : s.vm.findClass RX1 = some m.cls := findClass_of_methodNamed B.named
  have hlocks := B.notSynchronized
  have hin : meth.name = "<init>" := (name_of_methodNamed B.named B.method).1
  subst hsz
  have hD := hD0.self (sz := s.heap.size)
  generalize hAe : va_A [(d, .inr (1, [.int 0, .null]))] s.heap.size = A at hD ⊢
  have hA : ∀ q : Nat, s.heap.size ≤ q → A q := fun q h => by rw [← hAe]; exact Or.inr h
  have hS : va_S A s.heap s.heap [] := va_S.rf
  have hP : va_P D vwCl [(d, .inr (1, [.int 0, .null]))] s.heap := hP
  have hl := lv_entry ([.ref d]) (n := 1) (Nat.le_of_ble_eq_true rfl)
  rw [lg_entry_eq]
  generalize (lg_sl ([.ref d]) ++ List.replicate (1 - (lg_sl ([.ref d])).length) Slot.unset).toArray = ls at hl ⊢
  have hl : lv_has ls 1 [(0, .ref d)] := hl
  have hi1 : ∀ w ∈ u_ws RX1 TX1 2, w ∈ wsX1_init := by decide +kernel
  refine lv_aload_n hx hb dX1_init_0 rfl (lv_at hl 0 rfl) ?_
  refine W.objInit hx hb hown (hts (.methodLink RX1 3 objectInit) (by decide +kernel)) (hts (.instanceMethod objectInit) (by decide +kernel)) (hts (.code objectInit ⟨#[0xb1]⟩ 1 none) (List.mem_of_getElem? (i := 3) rfl)) rfl (by rw [hml]; exact hl.1) rfl dX1_init_1 (Nat.le_of_ble_eq_true rfl) (Nat.le_of_ble_eq_true rfl) ?_
  refine W.eq (g2 := F0 m 4 ls []) rfl ?_
  refine lv_aload_n hx hb dX1_init_4 rfl (lv_at hl 0 rfl) ?_
  refine lv_iconst (v := 0) hx hb dX1_init_5 (by decide) ?_
  refine va_put (D := D) (ci := 1) (v := .int 0) (ty := .int) (C := RX1) (T := TX1) (N := 2) hx hb hts hi1 tyX1 tyX1_ok nmX1 hown hK hP hD hS 0 rfl rfl 0 (by decide) (hts (.fieldLink RX1 9 "Bootstay$Draft" "size" "I") (by decide +kernel)) (fun _ h9 => h9) rfl (by decide +kernel) rfl rfl (Nat.le_of_ble_eq_true rfl) dX1_init_6 (fun H locs hP hD hS => ?_)
  have hP : va_P D vwCl [(d, .inr (1, [.int 0, .null]))] H := hP
  have hD : va_D A [(d, .inr (1, [.int 0, .null]))] := hD
  refine lv_aload_n hx hb dX1_init_9 rfl (lv_at hl 0 rfl) ?_
  refine lv_bipush (v := 24) hx hb dX1_init_10 (by decide) ?_
  refine va_newa (atype := .int) (ty := .int) (a0 := (24, .inl (fun _ => 0))) (N' := 24) hx hb (hts (.arrayClass .int) (by decide +kernel)) rfl hK hP hD hS hA (fun _ => rfl) (by decide) rfl (Nat.le_of_ble_eq_true rfl) (Nat.le_of_ble_eq_true rfl) (Nat.le_of_ble_eq_true rfl) dX1_init_12 (fun q1 cA2 H hK hP hD hS => ?_)
  have hP : va_P D vwCl [(d, .inr (1, [.int 0, .null])), (q1, .inl (cA2, 24, .inl (fun _ => 0)))] H := hP
  have hD : va_D A [(d, .inr (1, [.int 0, .null])), (q1, .inl (cA2, 24, .inl (fun _ => 0)))] := hD
  refine W.widen (k := 1) (n := 24) (Nat.le_of_ble_eq_true rfl) (Nat.le_of_ble_eq_true rfl) ?_
  refine va_putF (D := D) (ci := 1) (v := .ref q1) (ty := (.array .int)) (C := RX1) (T := TX1) (N := 2) hx hb hts hi1 tyX1 tyX1_ok nmX1 hown hK hP hD hS 0 rfl rfl 1 (by decide) (hts (.fieldLink RX1 15 "Bootstay$Draft" "bytes" "[I") (by decide +kernel)) (fun _ h9 => h9) rfl hin rfl (by decide +kernel) rfl rfl (Nat.le_of_ble_eq_true rfl) dX1_init_14 (fun H locs hP hD hS => ?_)
  have hP : va_P D vwCl [(d, .inr (1, [.int 0, .ref q1])), (q1, .inl (cA2, 24, .inl (fun _ => 0)))] H := hP
  have hD : va_D A [(d, .inr (1, [.int 0, .ref q1])), (q1, .inl (cA2, 24, .inl (fun _ => 0)))] := hD
  have hP9 := hP.sub (ws' := [(d, .inr (1, [.int F_X1_init.1, .ref q1])), (q1, .inl (cA2, 24, .inl F_X1_init.2))]) [0, 1] rfl
  have hD9 := hD.sub (ws' := [(d, .inr (1, [.int F_X1_init.1, .ref q1])), (q1, .inl (cA2, 24, .inl F_X1_init.2))]) [0, 1] (by decide) rfl
  have hK9 : va_K D vwCl [(cA2, .int)] s := hK
  refine W.widen (k := 1) (n := 24) (Nat.le_of_ble_eq_true rfl) (Nat.le_of_ble_eq_true rfl) ?_
  exact W.vret hx hb hr (fun t ht hW => ⟨⟨(q1, cA2), rfl, trivial, ⟨⟨by rw [ht]; exact hP9, hD9⟩, va_K.moved hW.alike hK9⟩⟩, hS.F ht⟩) hS.2.2 dX1_init_17
set_option maxHeartbeats 4000000 in
set_option maxRecDepth 100000 in
theorem c_X0_init (l : Launch) (D : va_G) (e0 d s0 : Nat) (sz : Nat) : Met l yX0_init wsX0_init ({ frames := 1, cells := 0, slots := 0, locals := 14 }) (va_Pc [.ref e0, .ref d, .ref s0] (bx_pre D [] [(e0, .inr (0, [.null, .null]))] sz)) (va_Qv (fun _ : Unit => True) (fun u t => bx_at D [(e0, .inr (0, [.ref d, .ref s0]))] (va_A [(e0, .inr (0, [.null, .null]))] sz) t ∧ va_K D vwCl [] t) (va_A [(e0, .inr (0, [.null, .null]))] sz)) 0 0 (va_A [(e0, .inr (0, [.null, .null]))] sz) := by
  refine Met.ofW (cc := cX0_init) (maxL := 3) (ret := none) (by decide) rfl ?_
  intro p e s m args below meth c s₁ B hml hv
  obtain ⟨rfl, hsz, hP, hK, hD0, hG⟩ := hv
  have hx := B.exec
  have hb := B.bytes
  have hr := B.returns
  have hts := atoms_spec (ws := wsX0_init) B.pre
  have hown : s.vm.findClass RX0 = some m.cls := findClass_of_methodNamed B.named
  have hlocks := B.notSynchronized
  have hin : meth.name = "<init>" := (name_of_methodNamed B.named B.method).1
  subst hsz
  have hD := hD0.self (sz := s.heap.size)
  generalize hAe : va_A [(e0, .inr (0, [.null, .null]))] s.heap.size = A at hD ⊢
  have hA : ∀ q : Nat, s.heap.size ≤ q → A q := fun q h => by rw [← hAe]; exact Or.inr h
  have hS : va_S A s.heap s.heap [] := va_S.rf
  have hP : va_P D vwCl [(e0, .inr (0, [.null, .null]))] s.heap := hP
  have hl := lv_entry ([.ref e0, .ref d, .ref s0]) (n := 3) (Nat.le_of_ble_eq_true rfl)
  rw [lg_entry_eq]
  generalize (lg_sl ([.ref e0, .ref d, .ref s0]) ++ List.replicate (3 - (lg_sl ([.ref e0, .ref d, .ref s0])).length) Slot.unset).toArray = ls at hl ⊢
  have hl : lv_has ls 3 [(0, .ref e0), (1, .ref d), (2, .ref s0)] := hl
  have hi0 : ∀ w ∈ u_ws RX0 TX0 2, w ∈ wsX0_init := by decide +kernel
  refine lv_aload_n hx hb dX0_init_0 rfl (lv_at hl 0 rfl) ?_
  refine W.objInit hx hb hown (hts (.methodLink RX0 3 objectInit) (by decide +kernel)) (hts (.instanceMethod objectInit) (by decide +kernel)) (hts (.code objectInit ⟨#[0xb1]⟩ 1 none) (List.mem_of_getElem? (i := 3) rfl)) rfl (by rw [hml]; exact hl.1) rfl dX0_init_1 (Nat.le_of_ble_eq_true rfl) (Nat.le_of_ble_eq_true rfl) ?_
  refine W.eq (g2 := F0 m 4 ls []) rfl ?_
  refine lv_aload_n hx hb dX0_init_4 rfl (lv_at hl 0 rfl) ?_
  refine lv_aload_n hx hb dX0_init_5 rfl (lv_at hl 1 rfl) ?_
  refine va_putF (D := D) (ci := 0) (v := .ref d) (ty := (.object "Bootstay$Draft")) (C := RX0) (T := TX0) (N := 2) hx hb hts hi0 tyX0 tyX0_ok nmX0 hown hK hP hD hS 0 rfl rfl 0 (by decide) (hts (.fieldLink RX0 9 "Bootstay$Delta" "draft" "LBootstay$Draft;") (by decide +kernel)) (fun _ h9 => h9) rfl hin rfl (by decide +kernel) rfl rfl (Nat.le_of_ble_eq_true rfl) dX0_init_6 (fun H locs hP hD hS => ?_)
  have hP : va_P D vwCl [(e0, .inr (0, [.ref d, .null]))] H := hP
  have hD : va_D A [(e0, .inr (0, [.ref d, .null]))] := hD
  refine lv_aload_n hx hb dX0_init_9 rfl (lv_at hl 0 rfl) ?_
  refine lv_aload_n hx hb dX0_init_10 rfl (lv_at hl 2 rfl) ?_
  refine va_putF (D := D) (ci := 0) (v := .ref s0) (ty := (.object "Bootstay$Store")) (C := RX0) (T := TX0) (N := 2) hx hb hts hi0 tyX0 tyX0_ok nmX0 hown hK hP hD hS 0 rfl rfl 1 (by decide) (hts (.fieldLink RX0 15 "Bootstay$Delta" "store" "LBootstay$Store;") (by decide +kernel)) (fun _ h9 => h9) rfl hin rfl (by decide +kernel) rfl rfl (Nat.le_of_ble_eq_true rfl) dX0_init_11 (fun H locs hP hD hS => ?_)
  have hP : va_P D vwCl [(e0, .inr (0, [.ref d, .ref s0]))] H := hP
  have hD : va_D A [(e0, .inr (0, [.ref d, .ref s0]))] := hD
  have hP9 := hP.sub (ws' := [(e0, .inr (0, [.ref d, .ref s0]))]) [0] rfl
  have hD9 := hD.sub (ws' := [(e0, .inr (0, [.ref d, .ref s0]))]) [0] (by decide) rfl
  have hK9 : va_K D vwCl [] s := hK
  refine W.widen (k := 0) (n := 0) (Nat.le_of_ble_eq_true rfl) (Nat.le_of_ble_eq_true rfl) ?_
  exact W.vret hx hb hr (fun t ht hW => ⟨⟨(), rfl, trivial, ⟨⟨by rw [ht]; exact hP9, hD9⟩, va_K.moved hW.alike hK9⟩⟩, hS.F ht⟩) hS.2.2 dX0_init_14
set_option maxHeartbeats 4000000 in
set_option maxRecDepth 100000 in
theorem c_X3_init (l : Launch) (D : va_G) (s0 : Nat) (sz : Nat) : Met l yX3_init wsX3_init ({ frames := 3, cells := 2, slots := 69, locals := 67 }) (va_Pc [.ref s0] (bx_pre D [] [(s0, .inr (3, [.null]))] sz)) (va_Qv (fun _ : (Nat) × (Nat) × (ClassId) => True) (fun u t => bx_at D [(s0, .inr (3, [.ref u.1])), (u.1, .inr (2, [.ref u.2.1, .int F_X3_init.2.1, .int F_X3_init.2.2])), (u.2.1, .inl (u.2.2, 66, .inl F_X3_init.1))] (va_A [(s0, .inr (3, [.null]))] sz) t ∧ va_K D vwCl [(u.2.2, .int)] t) (va_A [(s0, .inr (3, [.null]))] sz)) 2 69 (va_A [(s0, .inr (3, [.null]))] sz) := by
  refine Met.ofW (cc := cX3_init) (maxL := 2) (ret := none) (by decide) rfl ?_
  intro p e s m args below meth c s₁ B hml hv
  obtain ⟨rfl, hsz, hP, hK, hD0, hG⟩ := hv
  have hx := B.exec
  have hb := B.bytes
  have hr := B.returns
  have hts := atoms_spec (ws := wsX3_init) B.pre
  have hown : s.vm.findClass RX3 = some m.cls := findClass_of_methodNamed B.named
  have hlocks := B.notSynchronized
  have hin : meth.name = "<init>" := (name_of_methodNamed B.named B.method).1
  subst hsz
  have hD := hD0.self (sz := s.heap.size)
  generalize hAe : va_A [(s0, .inr (3, [.null]))] s.heap.size = A at hD ⊢
  have hA : ∀ q : Nat, s.heap.size ≤ q → A q := fun q h => by rw [← hAe]; exact Or.inr h
  have hS : va_S A s.heap s.heap [] := va_S.rf
  have hP : va_P D vwCl [(s0, .inr (3, [.null]))] s.heap := hP
  have hl := lv_entry ([.ref s0]) (n := 2) (Nat.le_of_ble_eq_true rfl)
  rw [lg_entry_eq]
  generalize (lg_sl ([.ref s0]) ++ List.replicate (2 - (lg_sl ([.ref s0])).length) Slot.unset).toArray = ls at hl ⊢
  have hl : lv_has ls 2 [(0, .ref s0)] := hl
  have hi2 : ∀ w ∈ u_ws RX2 TX2 3, w ∈ wsX3_init := by decide +kernel
  have hi3 : ∀ w ∈ u_ws RX3 TX3 1, w ∈ wsX3_init := by decide +kernel
  refine lv_aload_n hx hb dX3_init_0 rfl (lv_at hl 0 rfl) ?_
  refine W.objInit hx hb hown (hts (.methodLink RX3 5 objectInit) (by decide +kernel)) (hts (.instanceMethod objectInit) (by decide +kernel)) (hts (.code objectInit ⟨#[0xb1]⟩ 1 none) (List.mem_of_getElem? (i := 3) rfl)) rfl (by rw [hml]; exact hl.1) rfl dX3_init_1 (Nat.le_of_ble_eq_true rfl) (Nat.le_of_ble_eq_true rfl) ?_
  refine W.eq (g2 := F0 m 4 ls []) rfl ?_
  refine lv_aload_n hx hb dX3_init_4 rfl (lv_at hl 0 rfl) ?_
  refine va_new (ci := 2) (fs := [.null, .int 0, .int 0]) (C := RX2) (T := TX2) (N := 3) hx hb hts hi2 tyX2 tyX2_ok hown (hts (.classLink RX3 11 RX2) (by decide +kernel)) (hts (.instantiable RX2 3) (by decide +kernel)) (hts (.initialized RX2) (by decide +kernel)) hK hP hD hS hA rfl (fun j hj => by rcases (show j = 0 ∨ j = 1 ∨ j = 2 by omega) with rfl | rfl | rfl <;> rfl) (Nat.le_of_ble_eq_true rfl) (Nat.le_of_ble_eq_true rfl) dX3_init_5 (fun q1 H hP hD hS => ?_)
  have hP : va_P D vwCl [(s0, .inr (3, [.null])), (q1, .inr (2, [.null, .int 0, .int 0]))] H := hP
  have hD : va_D A [(s0, .inr (3, [.null])), (q1, .inr (2, [.null, .int 0, .int 0]))] := hD
  refine W.widen (k := 1) (n := 3) (Nat.le_of_ble_eq_true rfl) (Nat.le_of_ble_eq_true rfl) ?_
  refine lv_dup hx hb dX3_init_8 rfl ?_
  refine bx_wvk (wc := [(q1, .inr (2, [.null, .int 0, .int 0]))]) (wr := [(s0, .inr (3, [.null]))]) (wf := fun (u : (Nat) × (ClassId)) => [(q1, .inr (2, [.ref u.1, .int F_X2_init.2.1, .int F_X2_init.2.2])), (u.1, .inl (u.2, 66, .inl F_X2_init.1))]) (wn := fun (u : (Nat) × (ClassId)) => [(s0, .inr (3, [.null])), (q1, .inr (2, [.ref u.1, .int F_X2_init.2.1, .int F_X2_init.2.2])), (u.1, .inl (u.2, 66, .inl F_X2_init.1))]) (tf := fun (u : (Nat) × (ClassId)) => [(u.2, .int)]) hP hD hS hA [1] [0] [0, 1, 2] rfl rfl (by decide) (by decide) (fun u => rfl) (by decide) (va_runIN (As := []) (rest := [.ref q1, .ref s0]) ⟨hx, hb, hml, hown, hts⟩ (c_X2_init l D q1 H.size) ⟨(va_cnB 0 hts gX3_init_X2_init_n13 rfl rfl rfl (hG.1 (.methodLinkNest RX3 13 yX2_init RX5) (by decide +kernel)) (hts (.initialized RX2) (by decide +kernel)) (by decide +kernel) ⟨Nat.le_of_ble_eq_true rfl, Nat.le_of_ble_eq_true rfl⟩), rfl, (hts (.instanceMethod yX2_init) (by decide +kernel))⟩ (bx_ps (hK.sub (tys' := []) [] rfl) hG (hP.sub (ws' := [(q1, .inr (2, [.null, .int 0, .int 0]))]) [1] rfl) (hD.sub (ws' := [(q1, .inr (2, [.null, .int 0, .int 0]))]) [1] (by decide) rfl)) rfl rfl hl.1 rfl (lv_room (Nat.le_of_ble_eq_true rfl)) dX3_init_9 ⟨Nat.le_of_ble_eq_true rfl, Nat.le_of_ble_eq_true rfl⟩) (fun u_2 H locs h_3 hK9 hP hD hS => ?_)
  obtain ⟨w4, cA5⟩ := u_2
  have hK := hK9
  have hP : va_P D vwCl [(s0, .inr (3, [.null])), (q1, .inr (2, [.ref w4, .int F_X2_init.2.1, .int F_X2_init.2.2])), (w4, .inl (cA5, 66, .inl F_X2_init.1))] H := hP
  have hD : va_D A [(s0, .inr (3, [.null])), (q1, .inr (2, [.ref w4, .int F_X2_init.2.1, .int F_X2_init.2.2])), (w4, .inl (cA5, 66, .inl F_X2_init.1))] := hD
  refine W.widen (k := 2) (n := 69) (Nat.le_of_ble_eq_true rfl) (Nat.le_of_ble_eq_true rfl) ?_
  refine va_putF (D := D) (ci := 3) (v := .ref q1) (ty := (.object "Bootstay$Flash")) (C := RX3) (T := TX3) (N := 1) hx hb hts hi3 tyX3 tyX3_ok nmX3 hown hK hP hD hS 0 rfl rfl 0 (by decide) (hts (.fieldLink RX3 14 "Bootstay$Store" "flash" "LBootstay$Flash;") (by decide +kernel)) (fun _ h9 => h9) rfl hin rfl (by decide +kernel) rfl rfl (Nat.le_of_ble_eq_true rfl) dX3_init_12 (fun H locs hP hD hS => ?_)
  have hP : va_P D vwCl [(s0, .inr (3, [.ref q1])), (q1, .inr (2, [.ref w4, .int F_X2_init.2.1, .int F_X2_init.2.2])), (w4, .inl (cA5, 66, .inl F_X2_init.1))] H := hP
  have hD : va_D A [(s0, .inr (3, [.ref q1])), (q1, .inr (2, [.ref w4, .int F_X2_init.2.1, .int F_X2_init.2.2])), (w4, .inl (cA5, 66, .inl F_X2_init.1))] := hD
  refine lv_iconst (v := 0) hx hb dX3_init_15 (by decide) ?_
  refine lv_istore_n (lv' := [(1, .int 0), (0, .ref s0)]) hx hb dX3_init_16 rfl hl (by decide) rfl (fun ls hl => ?_)
  have loop17 : ∀ (n : Nat) (j : Nat) (k : Int32) (σ9 : FS), 8 - j < n → j ≤ 8 → k = nI j → σ9 = ipN j → ∀ (H : Heap) (locs : List Loc), va_P D vwCl [(s0, .inr (3, [.ref q1])), (q1, .inr (2, [.ref w4, .int σ9.2.1, .int σ9.2.2])), (w4, .inl (cA5, 66, .inl σ9.1))] H → va_D A [(s0, .inr (3, [.ref q1])), (q1, .inr (2, [.ref w4, .int σ9.2.1, .int σ9.2.2])), (w4, .inl (cA5, 66, .inl σ9.1))] → va_S A s.heap H locs → ∀ (ls : Array Slot), lv_has ls 2 [(1, .int k), (0, .ref s0)] → W p l e (headSpec wsX3_init ({ frames := 3, cells := 2, slots := 69, locals := 67 })).room s m ([.ref s0] : List Value).toArray below meth c H locs 2 69 (MQ below (va_Qv (fun _ : (Nat) × (Nat) × (ClassId) => True) (fun u t => bx_at D [(s0, .inr (3, [.ref u.1])), (u.1, .inr (2, [.ref u.2.1, .int F_X3_init.2.1, .int F_X3_init.2.2])), (u.2.1, .inl (u.2.2, 66, .inl F_X3_init.1))] (A) t ∧ va_K D vwCl [(u.2.2, .int)] t) (A)) ([.ref s0] : List Value).toArray s 2 69 A) (F0 m 17 ls []) := by
    intro n
    induction n with
    | zero =>
      intro j k σ9 h_f ij ik iσ H locs hP hD hS ls hl
      exact absurd h_f (Nat.not_lt_zero _)
    | succ n ih17 =>
      intro j k σ9 h_f ij ik iσ H locs hP hD hS ls hl
      refine lv_iload_n hx hb dX3_init_17 rfl (lv_at hl 0 rfl) ?_
      refine lv_bipush (v := 8) hx hb dX3_init_18 (by decide) ?_
      refine lv_icmp_ge (tgt := 42) hx hb dX3_init_20 (by decide) (fun c_6 => ?_) (fun c_6 => ?_)
      · skip
        have hj : 8 ≤ j := (bx_le (by omega)).mp (ik ▸ c_6)
        refine lv_aload_n hx hb dX3_init_42 rfl (lv_at hl 1 rfl) ?_
        refine va_get (D := D) (ci := 3) (v := .ref q1) (C := RX3) (T := TX3) (N := 1) hx hb hts hi3 hown hK hP 0 rfl rfl 0 (by decide) (hts (.fieldLink RX3 14 "Bootstay$Store" "flash" "LBootstay$Flash;") (by decide +kernel)) (fun _ h9 => h9) rfl dX3_init_43 ?_
        refine lv_iconst (v := 0) hx hb dX3_init_46 (by decide) ?_
        refine lv_iconst (v := 1) hx hb dX3_init_47 (by decide) ?_
        refine bx_wv (wc := [(q1, .inr (2, [.ref w4, .int σ9.2.1, .int σ9.2.2])), (w4, .inl (cA5, 66, .inl σ9.1))]) (wr := [(s0, .inr (3, [.ref q1]))]) (wf := fun (u : (FS)) => [(q1, .inr (2, [.ref w4, .int u.2.1, .int u.2.2])), (w4, .inl (cA5, 66, .inl u.1))]) (wn := fun (u : (FS)) => [(s0, .inr (3, [.ref q1])), (q1, .inr (2, [.ref w4, .int u.2.1, .int u.2.2])), (w4, .inl (cA5, 66, .inl u.1))]) hP hD hS hA [1, 2] [0] [0, 1, 2] rfl rfl (by decide) (by decide) (fun u => rfl) (by decide) (va_runV (As := [.int 0, .int 1]) (rest := []) ⟨hx, hb, hml, hown, hts⟩ (c_X2_preset l D cA5 q1 w4 H.size σ9 0 1) (cwV 2 hts gX3_init_X2_preset rfl rfl rfl (by decide +kernel) ⟨Nat.le_of_ble_eq_true rfl, Nat.le_of_ble_eq_true rfl⟩) (bx_pv (ci := 2) (q0 := 0) hK hG (hP.sub (ws' := [(q1, .inr (2, [.ref w4, .int σ9.2.1, .int σ9.2.2])), (w4, .inl (cA5, 66, .inl σ9.1))]) [1, 2] rfl) (hD.sub (ws' := [(q1, .inr (2, [.ref w4, .int σ9.2.1, .int σ9.2.2])), (w4, .inl (cA5, 66, .inl σ9.1))]) [1, 2] (by decide) rfl) rfl rfl) rfl rfl hl.1 rfl (lv_room (Nat.le_of_ble_eq_true rfl)) dX3_init_48 ⟨Nat.le_of_ble_eq_true rfl, Nat.le_of_ble_eq_true rfl⟩) (fun  u_8 H locs h_7 hP hD hS => ?_)
        have hP : va_P D vwCl [(s0, .inr (3, [.ref q1])), (q1, .inr (2, [.ref w4, .int u_8.2.1, .int u_8.2.2])), (w4, .inl (cA5, 66, .inl u_8.1))] H := hP
        have hD : va_D A [(s0, .inr (3, [.ref q1])), (q1, .inr (2, [.ref w4, .int u_8.2.1, .int u_8.2.2])), (w4, .inl (cA5, 66, .inl u_8.1))] := hD
        refine lv_aload_n hx hb dX3_init_51 rfl (lv_at hl 1 rfl) ?_
        refine va_get (D := D) (ci := 3) (v := .ref q1) (C := RX3) (T := TX3) (N := 1) hx hb hts hi3 hown hK hP 0 rfl rfl 0 (by decide) (hts (.fieldLink RX3 14 "Bootstay$Store" "flash" "LBootstay$Flash;") (by decide +kernel)) (fun _ h9 => h9) rfl dX3_init_52 ?_
        refine lv_iconst (v := 1) hx hb dX3_init_55 (by decide) ?_
        refine lv_iconst (v := 1) hx hb dX3_init_56 (by decide) ?_
        refine bx_wv (wc := [(q1, .inr (2, [.ref w4, .int u_8.2.1, .int u_8.2.2])), (w4, .inl (cA5, 66, .inl u_8.1))]) (wr := [(s0, .inr (3, [.ref q1]))]) (wf := fun (u : (FS)) => [(q1, .inr (2, [.ref w4, .int u.2.1, .int u.2.2])), (w4, .inl (cA5, 66, .inl u.1))]) (wn := fun (u : (FS)) => [(s0, .inr (3, [.ref q1])), (q1, .inr (2, [.ref w4, .int u.2.1, .int u.2.2])), (w4, .inl (cA5, 66, .inl u.1))]) hP hD hS hA [1, 2] [0] [0, 1, 2] rfl rfl (by decide) (by decide) (fun u => rfl) (by decide) (va_runV (As := [.int 1, .int 1]) (rest := []) ⟨hx, hb, hml, hown, hts⟩ (c_X2_preset l D cA5 q1 w4 H.size u_8 1 1) (cwV 2 hts gX3_init_X2_preset rfl rfl rfl (by decide +kernel) ⟨Nat.le_of_ble_eq_true rfl, Nat.le_of_ble_eq_true rfl⟩) (bx_pv (ci := 2) (q0 := 0) hK hG (hP.sub (ws' := [(q1, .inr (2, [.ref w4, .int u_8.2.1, .int u_8.2.2])), (w4, .inl (cA5, 66, .inl u_8.1))]) [1, 2] rfl) (hD.sub (ws' := [(q1, .inr (2, [.ref w4, .int u_8.2.1, .int u_8.2.2])), (w4, .inl (cA5, 66, .inl u_8.1))]) [1, 2] (by decide) rfl) rfl rfl) rfl rfl hl.1 rfl (lv_room (Nat.le_of_ble_eq_true rfl)) dX3_init_57 ⟨Nat.le_of_ble_eq_true rfl, Nat.le_of_ble_eq_true rfl⟩) (fun  u_11 H locs h_10 hP hD hS => ?_)
        have hP : va_P D vwCl [(s0, .inr (3, [.ref q1])), (q1, .inr (2, [.ref w4, .int u_11.2.1, .int u_11.2.2])), (w4, .inl (cA5, 66, .inl u_11.1))] H := hP
        have hD : va_D A [(s0, .inr (3, [.ref q1])), (q1, .inr (2, [.ref w4, .int u_11.2.1, .int u_11.2.2])), (w4, .inl (cA5, 66, .inl u_11.1))] := hD
        refine lv_aload_n hx hb dX3_init_60 rfl (lv_at hl 1 rfl) ?_
        refine va_get (D := D) (ci := 3) (v := .ref q1) (C := RX3) (T := TX3) (N := 1) hx hb hts hi3 hown hK hP 0 rfl rfl 0 (by decide) (hts (.fieldLink RX3 14 "Bootstay$Store" "flash" "LBootstay$Flash;") (by decide +kernel)) (fun _ h9 => h9) rfl dX3_init_61 ?_
        refine lv_iconst (v := 2) hx hb dX3_init_64 (by decide) ?_
        refine lv_bipush (v := 8) hx hb dX3_init_65 (by decide) ?_
        refine bx_wv (wc := [(q1, .inr (2, [.ref w4, .int u_11.2.1, .int u_11.2.2])), (w4, .inl (cA5, 66, .inl u_11.1))]) (wr := [(s0, .inr (3, [.ref q1]))]) (wf := fun (u : (FS)) => [(q1, .inr (2, [.ref w4, .int u.2.1, .int u.2.2])), (w4, .inl (cA5, 66, .inl u.1))]) (wn := fun (u : (FS)) => [(s0, .inr (3, [.ref q1])), (q1, .inr (2, [.ref w4, .int u.2.1, .int u.2.2])), (w4, .inl (cA5, 66, .inl u.1))]) hP hD hS hA [1, 2] [0] [0, 1, 2] rfl rfl (by decide) (by decide) (fun u => rfl) (by decide) (va_runV (As := [.int 2, .int 8]) (rest := []) ⟨hx, hb, hml, hown, hts⟩ (c_X2_preset l D cA5 q1 w4 H.size u_11 2 8) (cwV 2 hts gX3_init_X2_preset rfl rfl rfl (by decide +kernel) ⟨Nat.le_of_ble_eq_true rfl, Nat.le_of_ble_eq_true rfl⟩) (bx_pv (ci := 2) (q0 := 0) hK hG (hP.sub (ws' := [(q1, .inr (2, [.ref w4, .int u_11.2.1, .int u_11.2.2])), (w4, .inl (cA5, 66, .inl u_11.1))]) [1, 2] rfl) (hD.sub (ws' := [(q1, .inr (2, [.ref w4, .int u_11.2.1, .int u_11.2.2])), (w4, .inl (cA5, 66, .inl u_11.1))]) [1, 2] (by decide) rfl) rfl rfl) rfl rfl hl.1 rfl (lv_room (Nat.le_of_ble_eq_true rfl)) dX3_init_67 ⟨Nat.le_of_ble_eq_true rfl, Nat.le_of_ble_eq_true rfl⟩) (fun  u_14 H locs h_13 hP hD hS => ?_)
        have hP : va_P D vwCl [(s0, .inr (3, [.ref q1])), (q1, .inr (2, [.ref w4, .int u_14.2.1, .int u_14.2.2])), (w4, .inl (cA5, 66, .inl u_14.1))] H := hP
        have hD : va_D A [(s0, .inr (3, [.ref q1])), (q1, .inr (2, [.ref w4, .int u_14.2.1, .int u_14.2.2])), (w4, .inl (cA5, 66, .inl u_14.1))] := hD
        refine lv_aload_n hx hb dX3_init_70 rfl (lv_at hl 1 rfl) ?_
        refine va_get (D := D) (ci := 3) (v := .ref q1) (C := RX3) (T := TX3) (N := 1) hx hb hts hi3 hown hK hP 0 rfl rfl 0 (by decide) (hts (.fieldLink RX3 14 "Bootstay$Store" "flash" "LBootstay$Flash;") (by decide +kernel)) (fun _ h9 => h9) rfl dX3_init_71 ?_
        refine lv_iconst (v := 3) hx hb dX3_init_74 (by decide) ?_
        refine lv_aload_n hx hb dX3_init_75 rfl (lv_at hl 1 rfl) ?_
        refine lv_iconst (v := 0) hx hb dX3_init_76 (by decide) ?_
        refine lv_bipush (v := 8) hx hb dX3_init_77 (by decide) ?_
        refine bx_ri (va_runV (As := [.int 0, .int 8]) (rest := [.int 3, .ref q1]) ⟨hx, hb, hml, hown, hts⟩ (c_X3_imageHash l D cA5 s0 q1 w4 u_14 0 8) (cwV 2 hts gX3_init_X3_imageHash rfl rfl rfl (by decide +kernel) ⟨Nat.le_of_ble_eq_true rfl, Nat.le_of_ble_eq_true rfl⟩) (bx_pvr (ci := 3) (q0 := 0) hK hG (hP.sub (ws' := [(s0, .inr (3, [.ref q1])), (q1, .inr (2, [.ref w4, .int u_14.2.1, .int u_14.2.2])), (w4, .inl (cA5, 66, .inl u_14.1))]) [0, 1, 2] rfl) rfl rfl) rfl rfl hl.1 rfl (lv_room (Nat.le_of_ble_eq_true rfl)) dX3_init_79 ⟨Nat.le_of_ble_eq_true rfl, Nat.le_of_ble_eq_true rfl⟩) (fun r_16 h_17 => ?_)
        have h_17 := h_17.symm
        subst h_17
        refine bx_wv (wc := [(q1, .inr (2, [.ref w4, .int u_14.2.1, .int u_14.2.2])), (w4, .inl (cA5, 66, .inl u_14.1))]) (wr := [(s0, .inr (3, [.ref q1]))]) (wf := fun (u : (FS)) => [(q1, .inr (2, [.ref w4, .int u.2.1, .int u.2.2])), (w4, .inl (cA5, 66, .inl u.1))]) (wn := fun (u : (FS)) => [(s0, .inr (3, [.ref q1])), (q1, .inr (2, [.ref w4, .int u.2.1, .int u.2.2])), (w4, .inl (cA5, 66, .inl u.1))]) hP hD hS hA [1, 2] [0] [0, 1, 2] rfl rfl (by decide) (by decide) (fun u => rfl) (by decide) (va_runV (As := [.int 3, .int (F_X3_imageHash u_14 0 8)]) (rest := []) ⟨hx, hb, hml, hown, hts⟩ (c_X2_preset l D cA5 q1 w4 H.size u_14 3 (F_X3_imageHash u_14 0 8)) (cwV 2 hts gX3_init_X2_preset rfl rfl rfl (by decide +kernel) ⟨Nat.le_of_ble_eq_true rfl, Nat.le_of_ble_eq_true rfl⟩) (bx_pv (ci := 2) (q0 := 0) hK hG (hP.sub (ws' := [(q1, .inr (2, [.ref w4, .int u_14.2.1, .int u_14.2.2])), (w4, .inl (cA5, 66, .inl u_14.1))]) [1, 2] rfl) (hD.sub (ws' := [(q1, .inr (2, [.ref w4, .int u_14.2.1, .int u_14.2.2])), (w4, .inl (cA5, 66, .inl u_14.1))]) [1, 2] (by decide) rfl) rfl rfl) rfl rfl hl.1 rfl (lv_room (Nat.le_of_ble_eq_true rfl)) dX3_init_82 ⟨Nat.le_of_ble_eq_true rfl, Nat.le_of_ble_eq_true rfl⟩) (fun  u_19 H locs h_18 hP hD hS => ?_)
        have hP : va_P D vwCl [(s0, .inr (3, [.ref q1])), (q1, .inr (2, [.ref w4, .int u_19.2.1, .int u_19.2.2])), (w4, .inl (cA5, 66, .inl u_19.1))] H := hP
        have hD : va_D A [(s0, .inr (3, [.ref q1])), (q1, .inr (2, [.ref w4, .int u_19.2.1, .int u_19.2.2])), (w4, .inl (cA5, 66, .inl u_19.1))] := hD
        refine lv_aload_n hx hb dX3_init_85 rfl (lv_at hl 1 rfl) ?_
        refine va_get (D := D) (ci := 3) (v := .ref q1) (C := RX3) (T := TX3) (N := 1) hx hb hts hi3 hown hK hP 0 rfl rfl 0 (by decide) (hts (.fieldLink RX3 14 "Bootstay$Store" "flash" "LBootstay$Flash;") (by decide +kernel)) (fun _ h9 => h9) rfl dX3_init_86 ?_
        refine lv_bipush (v := 59) hx hb dX3_init_89 (by decide) ?_
        refine lv_iconst (v := 1) hx hb dX3_init_91 (by decide) ?_
        refine bx_wv (wc := [(q1, .inr (2, [.ref w4, .int u_19.2.1, .int u_19.2.2])), (w4, .inl (cA5, 66, .inl u_19.1))]) (wr := [(s0, .inr (3, [.ref q1]))]) (wf := fun (u : (FS)) => [(q1, .inr (2, [.ref w4, .int u.2.1, .int u.2.2])), (w4, .inl (cA5, 66, .inl u.1))]) (wn := fun (u : (FS)) => [(s0, .inr (3, [.ref q1])), (q1, .inr (2, [.ref w4, .int u.2.1, .int u.2.2])), (w4, .inl (cA5, 66, .inl u.1))]) hP hD hS hA [1, 2] [0] [0, 1, 2] rfl rfl (by decide) (by decide) (fun u => rfl) (by decide) (va_runV (As := [.int 59, .int 1]) (rest := []) ⟨hx, hb, hml, hown, hts⟩ (c_X2_preset l D cA5 q1 w4 H.size u_19 59 1) (cwV 2 hts gX3_init_X2_preset rfl rfl rfl (by decide +kernel) ⟨Nat.le_of_ble_eq_true rfl, Nat.le_of_ble_eq_true rfl⟩) (bx_pv (ci := 2) (q0 := 0) hK hG (hP.sub (ws' := [(q1, .inr (2, [.ref w4, .int u_19.2.1, .int u_19.2.2])), (w4, .inl (cA5, 66, .inl u_19.1))]) [1, 2] rfl) (hD.sub (ws' := [(q1, .inr (2, [.ref w4, .int u_19.2.1, .int u_19.2.2])), (w4, .inl (cA5, 66, .inl u_19.1))]) [1, 2] (by decide) rfl) rfl rfl) rfl rfl hl.1 rfl (lv_room (Nat.le_of_ble_eq_true rfl)) dX3_init_92 ⟨Nat.le_of_ble_eq_true rfl, Nat.le_of_ble_eq_true rfl⟩) (fun  u_22 H locs h_21 hP hD hS => ?_)
        have hP : va_P D vwCl [(s0, .inr (3, [.ref q1])), (q1, .inr (2, [.ref w4, .int u_22.2.1, .int u_22.2.2])), (w4, .inl (cA5, 66, .inl u_22.1))] H := hP
        have hD : va_D A [(s0, .inr (3, [.ref q1])), (q1, .inr (2, [.ref w4, .int u_22.2.1, .int u_22.2.2])), (w4, .inl (cA5, 66, .inl u_22.1))] := hD
        refine lv_aload_n hx hb dX3_init_95 rfl (lv_at hl 1 rfl) ?_
        refine va_get (D := D) (ci := 3) (v := .ref q1) (C := RX3) (T := TX3) (N := 1) hx hb hts hi3 hown hK hP 0 rfl rfl 0 (by decide) (hts (.fieldLink RX3 14 "Bootstay$Store" "flash" "LBootstay$Flash;") (by decide +kernel)) (fun _ h9 => h9) rfl dX3_init_96 ?_
        refine lv_bipush (v := 58) hx hb dX3_init_99 (by decide) ?_
        refine lv_iconst (v := 1) hx hb dX3_init_101 (by decide) ?_
        refine lv_iconst (v := 0) hx hb dX3_init_102 (by decide) ?_
        refine lv_iconst (v := 0) hx hb dX3_init_103 (by decide) ?_
        refine bx_ri (va_runS (As := [.int 1, .int 0, .int 0]) (rest := [.int 58, .ref q1]) ⟨hx, hb, hml, hown, hts⟩ (c_X3_checkOf l D 1 0 0) (va_cwS 3 hts gX3_init_X3_checkOf rfl rfl rfl (by decide +kernel) ⟨Nat.le_of_ble_eq_true rfl, Nat.le_of_ble_eq_true rfl⟩) (bx_psr (hK.sub (tys' := []) [] rfl) hG (hP.sub (ws' := []) [] rfl)) rfl rfl hl.1 rfl (lv_room (Nat.le_of_ble_eq_true rfl)) dX3_init_104 ⟨Nat.le_of_ble_eq_true rfl, Nat.le_of_ble_eq_true rfl⟩) (fun r_24 h_25 => ?_)
        have h_25 := h_25.symm
        subst h_25
        refine bx_wv (wc := [(q1, .inr (2, [.ref w4, .int u_22.2.1, .int u_22.2.2])), (w4, .inl (cA5, 66, .inl u_22.1))]) (wr := [(s0, .inr (3, [.ref q1]))]) (wf := fun (u : (FS)) => [(q1, .inr (2, [.ref w4, .int u.2.1, .int u.2.2])), (w4, .inl (cA5, 66, .inl u.1))]) (wn := fun (u : (FS)) => [(s0, .inr (3, [.ref q1])), (q1, .inr (2, [.ref w4, .int u.2.1, .int u.2.2])), (w4, .inl (cA5, 66, .inl u.1))]) hP hD hS hA [1, 2] [0] [0, 1, 2] rfl rfl (by decide) (by decide) (fun u => rfl) (by decide) (va_runV (As := [.int 58, .int (F_X3_checkOf 1 0 0)]) (rest := []) ⟨hx, hb, hml, hown, hts⟩ (c_X2_preset l D cA5 q1 w4 H.size u_22 58 (F_X3_checkOf 1 0 0)) (cwV 2 hts gX3_init_X2_preset rfl rfl rfl (by decide +kernel) ⟨Nat.le_of_ble_eq_true rfl, Nat.le_of_ble_eq_true rfl⟩) (bx_pv (ci := 2) (q0 := 0) hK hG (hP.sub (ws' := [(q1, .inr (2, [.ref w4, .int u_22.2.1, .int u_22.2.2])), (w4, .inl (cA5, 66, .inl u_22.1))]) [1, 2] rfl) (hD.sub (ws' := [(q1, .inr (2, [.ref w4, .int u_22.2.1, .int u_22.2.2])), (w4, .inl (cA5, 66, .inl u_22.1))]) [1, 2] (by decide) rfl) rfl rfl) rfl rfl hl.1 rfl (lv_room (Nat.le_of_ble_eq_true rfl)) dX3_init_107 ⟨Nat.le_of_ble_eq_true rfl, Nat.le_of_ble_eq_true rfl⟩) (fun  u_27 H locs h_26 hP hD hS => ?_)
        have hP : va_P D vwCl [(s0, .inr (3, [.ref q1])), (q1, .inr (2, [.ref w4, .int u_27.2.1, .int u_27.2.2])), (w4, .inl (cA5, 66, .inl u_27.1))] H := hP
        have hD : va_D A [(s0, .inr (3, [.ref q1])), (q1, .inr (2, [.ref w4, .int u_27.2.1, .int u_27.2.2])), (w4, .inl (cA5, 66, .inl u_27.1))] := hD
        have e0 : σ9 = ipN 8 := by rw [iσ, Nat.le_antisymm ij hj]
        have e1 : u_8 = ip1 := by rw [h_7, e0]; rfl
        have e2 : u_11 = ip2 := by rw [h_10, e1]; rfl
        have e3 : u_14 = ip3 := by rw [h_13, e2]; rfl
        have e4 : u_19 = ip4 := by rw [h_18, e3]; rfl
        have e5 : u_22 = ip5 := by rw [h_21, e4]; rfl
        have e6 : u_27 = F_X3_init := by rw [h_26, e5]; rfl
        rw [e6] at hP hD
        have hP9 := hP.sub (ws' := [(s0, .inr (3, [.ref q1])), (q1, .inr (2, [.ref w4, .int F_X3_init.2.1, .int F_X3_init.2.2])), (w4, .inl (cA5, 66, .inl F_X3_init.1))]) [0, 1, 2] rfl
        have hD9 := hD.sub (ws' := [(s0, .inr (3, [.ref q1])), (q1, .inr (2, [.ref w4, .int F_X3_init.2.1, .int F_X3_init.2.2])), (w4, .inl (cA5, 66, .inl F_X3_init.1))]) [0, 1, 2] (by decide) rfl
        have hK9 : va_K D vwCl [(cA5, .int)] s := hK
        refine W.widen (k := 2) (n := 69) (Nat.le_of_ble_eq_true rfl) (Nat.le_of_ble_eq_true rfl) ?_
        exact W.vret hx hb hr (fun t ht hW => ⟨⟨(q1, w4, cA5), rfl, trivial, ⟨⟨by rw [ht]; exact hP9, hD9⟩, va_K.moved hW.alike hK9⟩⟩, hS.F ht⟩) hS.2.2 dX3_init_110
      · skip
        have hj : j < 8 := Nat.lt_of_not_le (fun h => c_6 (by rw [ik]; exact (bx_le (by omega)).mpr h))
        refine lv_aload_n hx hb dX3_init_23 rfl (lv_at hl 1 rfl) ?_
        refine va_get (D := D) (ci := 3) (v := .ref q1) (C := RX3) (T := TX3) (N := 1) hx hb hts hi3 hown hK hP 0 rfl rfl 0 (by decide) (hts (.fieldLink RX3 14 "Bootstay$Store" "flash" "LBootstay$Flash;") (by decide +kernel)) (fun _ h9 => h9) rfl dX3_init_24 ?_
        refine lv_iconst (v := 5) hx hb dX3_init_27 (by decide) ?_
        refine lv_iload_n hx hb dX3_init_28 rfl (lv_at hl 0 rfl) ?_
        refine lv_iadd hx hb dX3_init_29 ?_
        refine lv_iload_n hx hb dX3_init_30 rfl (lv_at hl 0 rfl) ?_
        refine lv_iconst (v := 1) hx hb dX3_init_31 (by decide) ?_
        refine lv_iadd hx hb dX3_init_32 ?_
        refine bx_wv (wc := [(q1, .inr (2, [.ref w4, .int σ9.2.1, .int σ9.2.2])), (w4, .inl (cA5, 66, .inl σ9.1))]) (wr := [(s0, .inr (3, [.ref q1]))]) (wf := fun (u : (FS)) => [(q1, .inr (2, [.ref w4, .int u.2.1, .int u.2.2])), (w4, .inl (cA5, 66, .inl u.1))]) (wn := fun (u : (FS)) => [(s0, .inr (3, [.ref q1])), (q1, .inr (2, [.ref w4, .int u.2.1, .int u.2.2])), (w4, .inl (cA5, 66, .inl u.1))]) hP hD hS hA [1, 2] [0] [0, 1, 2] rfl rfl (by decide) (by decide) (fun u => rfl) (by decide) (va_runV (As := [.int (5 + k), .int (k + 1)]) (rest := []) ⟨hx, hb, hml, hown, hts⟩ (c_X2_preset l D cA5 q1 w4 H.size σ9 (5 + k) (k + 1)) (cwV 2 hts gX3_init_X2_preset rfl rfl rfl (by decide +kernel) ⟨Nat.le_of_ble_eq_true rfl, Nat.le_of_ble_eq_true rfl⟩) (bx_pv (ci := 2) (q0 := 0) hK hG (hP.sub (ws' := [(q1, .inr (2, [.ref w4, .int σ9.2.1, .int σ9.2.2])), (w4, .inl (cA5, 66, .inl σ9.1))]) [1, 2] rfl) (hD.sub (ws' := [(q1, .inr (2, [.ref w4, .int σ9.2.1, .int σ9.2.2])), (w4, .inl (cA5, 66, .inl σ9.1))]) [1, 2] (by decide) rfl) rfl rfl) rfl rfl hl.1 rfl (lv_room (Nat.le_of_ble_eq_true rfl)) dX3_init_33 ⟨Nat.le_of_ble_eq_true rfl, Nat.le_of_ble_eq_true rfl⟩) (fun  u_30 H locs h_29 hP hD hS => ?_)
        have hP : va_P D vwCl [(s0, .inr (3, [.ref q1])), (q1, .inr (2, [.ref w4, .int u_30.2.1, .int u_30.2.2])), (w4, .inl (cA5, 66, .inl u_30.1))] H := hP
        have hD : va_D A [(s0, .inr (3, [.ref q1])), (q1, .inr (2, [.ref w4, .int u_30.2.1, .int u_30.2.2])), (w4, .inl (cA5, 66, .inl u_30.1))] := hD
        refine lv_iinc (v := (k + 1)) (lv' := [(1, .int (k + 1)), (0, .ref s0)]) hx hb dX3_init_36 hl (k := 0) rfl rfl (by decide) rfl (fun ls hl => ?_)
        refine lv_goto (tgt := 17) hx hb dX3_init_39 (by decide) ?_
        exact ih17 (j + 1) (k + 1) u_30 (by omega) hj (by rw [ik]; exact nI_1 j) (by rw [h_29, iσ, ik]; rfl) _ _ hP hD hS ls (lv_sub hl [0, 1] rfl)
  exact loop17 9 0 0 F_X2_init (by omega) (by omega) nI_0.symm rfl _ _ hP hD hS ls (lv_sub hl [0, 1] rfl)
set_option maxHeartbeats 4000000 in
set_option maxRecDepth 100000 in
theorem c_X5_init (l : Launch) (D : va_G) (b : Nat) (sz : Nat) : Met l yX5_init wsX5_init ({ frames := 4, cells := 10, slots := 174, locals := 88 }) (va_Pc [.ref b] (bx_pre D [] [(b, .inr (5, [.null, .null, .null, .null, .null, .int 0]))] sz)) (va_Qv (fun _ : (Nat) × (Nat) × (Nat) × (Nat) × (Nat) × (Nat) × (Nat) × (Nat) × (Nat) × (Nat) × (ClassId) => True) (fun u t => bx_at D [(b, .inr (5, [.ref u.1, .ref u.2.2.2.1, .ref u.2.2.2.2.2.2.1, .ref u.2.2.2.2.2.2.2.1, .ref u.2.2.2.2.2.2.2.2.2.1, .int (-1)])), (u.1, .inr (3, [.ref u.2.1])), (u.2.1, .inr (2, [.ref u.2.2.1, .int F_X3_init.2.1, .int F_X3_init.2.2])), (u.2.2.1, .inl (u.2.2.2.2.2.2.2.2.2.2, 66, .inl F_X3_init.1)), (u.2.2.2.1, .inr (3, [.ref u.2.2.2.2.1])), (u.2.2.2.2.1, .inr (2, [.ref u.2.2.2.2.2.1, .int F_X3_init.2.1, .int F_X3_init.2.2])), (u.2.2.2.2.2.1, .inl (u.2.2.2.2.2.2.2.2.2.2, 66, .inl F_X3_init.1)), (u.2.2.2.2.2.2.1, .inr (4, [.int F_X4_init.1, .int F_X4_init.2.1, .int F_X4_init.2.2.1, .int F_X4_init.2.2.2.1, .int F_X4_init.2.2.2.2.1, .int F_X4_init.2.2.2.2.2])), (u.2.2.2.2.2.2.2.1, .inr (1, [.int F_X1_init.1, .ref u.2.2.2.2.2.2.2.2.1])), (u.2.2.2.2.2.2.2.2.1, .inl (u.2.2.2.2.2.2.2.2.2.2, 24, .inl F_X1_init.2)), (u.2.2.2.2.2.2.2.2.2.1, .inr (0, [.ref u.2.2.2.2.2.2.2.1, .ref u.1]))] (va_A [(b, .inr (5, [.null, .null, .null, .null, .null, .int 0]))] sz) t ∧ va_K D vwCl [(u.2.2.2.2.2.2.2.2.2.2, .int)] t) (va_A [(b, .inr (5, [.null, .null, .null, .null, .null, .int 0]))] sz)) 10 174 (va_A [(b, .inr (5, [.null, .null, .null, .null, .null, .int 0]))] sz) := by
  refine Met.ofW (cc := cX5_init) (maxL := 1) (ret := none) (by decide) rfl ?_
  intro p e s m args below meth c s₁ B hml hv
  obtain ⟨rfl, hsz, hP, hK, hD0, hG⟩ := hv
  have hx := B.exec
  have hb := B.bytes
  have hr := B.returns
  have hts := atoms_spec (ws := wsX5_init) B.pre
  have hown : s.vm.findClass RX5 = some m.cls := findClass_of_methodNamed B.named
  have hlocks := B.notSynchronized
  have hin : meth.name = "<init>" := (name_of_methodNamed B.named B.method).1
  subst hsz
  have hD := hD0.self (sz := s.heap.size)
  generalize hAe : va_A [(b, .inr (5, [.null, .null, .null, .null, .null, .int 0]))] s.heap.size = A at hD ⊢
  have hA : ∀ q : Nat, s.heap.size ≤ q → A q := fun q h => by rw [← hAe]; exact Or.inr h
  have hS : va_S A s.heap s.heap [] := va_S.rf
  have hP : va_P D vwCl [(b, .inr (5, [.null, .null, .null, .null, .null, .int 0]))] s.heap := hP
  have hl := lv_entry ([.ref b]) (n := 1) (Nat.le_of_ble_eq_true rfl)
  rw [lg_entry_eq]
  generalize (lg_sl ([.ref b]) ++ List.replicate (1 - (lg_sl ([.ref b])).length) Slot.unset).toArray = ls at hl ⊢
  have hl : lv_has ls 1 [(0, .ref b)] := hl
  have hi0 : ∀ w ∈ u_ws RX0 TX0 2, w ∈ wsX5_init := by decide +kernel
  have hi1 : ∀ w ∈ u_ws RX1 TX1 2, w ∈ wsX5_init := by decide +kernel
  have hi3 : ∀ w ∈ u_ws RX3 TX3 1, w ∈ wsX5_init := by decide +kernel
  have hi4 : ∀ w ∈ u_ws RX4 TX4 6, w ∈ wsX5_init := by decide +kernel
  have hi5 : ∀ w ∈ u_ws RX5 TX5 6, w ∈ wsX5_init := by decide +kernel
  refine lv_aload_n hx hb dX5_init_0 rfl (lv_at hl 0 rfl) ?_
  refine W.objInit hx hb hown (hts (.methodLink RX5 1 objectInit) (by decide +kernel)) (hts (.instanceMethod objectInit) (by decide +kernel)) (hts (.code objectInit ⟨#[0xb1]⟩ 1 none) (List.mem_of_getElem? (i := 3) rfl)) rfl (by rw [hml]; exact hl.1) rfl dX5_init_1 (Nat.le_of_ble_eq_true rfl) (Nat.le_of_ble_eq_true rfl) ?_
  refine W.eq (g2 := F0 m 4 ls []) rfl ?_
  refine lv_aload_n hx hb dX5_init_4 rfl (lv_at hl 0 rfl) ?_
  refine va_new (ci := 3) (fs := [.null]) (C := RX3) (T := TX3) (N := 1) hx hb hts hi3 tyX3 tyX3_ok hown (hts (.classLink RX5 7 RX3) (by decide +kernel)) (hts (.instantiable RX3 1) (by decide +kernel)) (hts (.initialized RX3) (by decide +kernel)) hK hP hD hS hA rfl (fun j hj => by rcases (show j = 0 by omega) with rfl <;> rfl) (Nat.le_of_ble_eq_true rfl) (Nat.le_of_ble_eq_true rfl) dX5_init_5 (fun q1 H hP hD hS => ?_)
  have hP : va_P D vwCl [(b, .inr (5, [.null, .null, .null, .null, .null, .int 0])), (q1, .inr (3, [.null]))] H := hP
  have hD : va_D A [(b, .inr (5, [.null, .null, .null, .null, .null, .int 0])), (q1, .inr (3, [.null]))] := hD
  refine W.widen (k := 1) (n := 1) (Nat.le_of_ble_eq_true rfl) (Nat.le_of_ble_eq_true rfl) ?_
  refine lv_dup hx hb dX5_init_8 rfl ?_
  refine bx_wvk (wc := [(q1, .inr (3, [.null]))]) (wr := [(b, .inr (5, [.null, .null, .null, .null, .null, .int 0]))]) (wf := fun (u : (Nat) × (Nat) × (ClassId)) => [(q1, .inr (3, [.ref u.1])), (u.1, .inr (2, [.ref u.2.1, .int F_X3_init.2.1, .int F_X3_init.2.2])), (u.2.1, .inl (u.2.2, 66, .inl F_X3_init.1))]) (wn := fun (u : (Nat) × (Nat) × (ClassId)) => [(b, .inr (5, [.null, .null, .null, .null, .null, .int 0])), (q1, .inr (3, [.ref u.1])), (u.1, .inr (2, [.ref u.2.1, .int F_X3_init.2.1, .int F_X3_init.2.2])), (u.2.1, .inl (u.2.2, 66, .inl F_X3_init.1))]) (tf := fun (u : (Nat) × (Nat) × (ClassId)) => [(u.2.2, .int)]) hP hD hS hA [1] [0] [0, 1, 2, 3] rfl rfl (by decide) (by decide) (fun u => rfl) (by decide) (va_runI (As := []) (rest := [.ref q1, .ref b]) ⟨hx, hb, hml, hown, hts⟩ (c_X3_init l D q1 H.size) (cwI 0 hts gX5_init_X3_init rfl rfl rfl (hts (.initialized RX3) (by decide +kernel)) (hts (.methodLink RX5 9 yX3_init) (by decide +kernel)) (hts (.instanceMethod yX3_init) (by decide +kernel)) rfl (by decide +kernel) ⟨Nat.le_of_ble_eq_true rfl, Nat.le_of_ble_eq_true rfl⟩) (bx_ps (hK.sub (tys' := []) [] rfl) hG (hP.sub (ws' := [(q1, .inr (3, [.null]))]) [1] rfl) (hD.sub (ws' := [(q1, .inr (3, [.null]))]) [1] (by decide) rfl)) rfl rfl hl.1 rfl (lv_room (Nat.le_of_ble_eq_true rfl)) dX5_init_9 ⟨Nat.le_of_ble_eq_true rfl, Nat.le_of_ble_eq_true rfl⟩) (fun u_2 H locs h_3 hK9 hP hD hS => ?_)
  obtain ⟨f4, w5, cA6⟩ := u_2
  have hK := hK9
  have hP : va_P D vwCl [(b, .inr (5, [.null, .null, .null, .null, .null, .int 0])), (q1, .inr (3, [.ref f4])), (f4, .inr (2, [.ref w5, .int F_X3_init.2.1, .int F_X3_init.2.2])), (w5, .inl (cA6, 66, .inl F_X3_init.1))] H := hP
  have hD : va_D A [(b, .inr (5, [.null, .null, .null, .null, .null, .int 0])), (q1, .inr (3, [.ref f4])), (f4, .inr (2, [.ref w5, .int F_X3_init.2.1, .int F_X3_init.2.2])), (w5, .inl (cA6, 66, .inl F_X3_init.1))] := hD
  refine W.widen (k := 3) (n := 70) (Nat.le_of_ble_eq_true rfl) (Nat.le_of_ble_eq_true rfl) ?_
  refine va_putF (D := D) (ci := 5) (v := .ref q1) (ty := (.object "Bootstay$Store")) (C := RX5) (T := TX5) (N := 6) hx hb hts hi5 tyX5 tyX5_ok nmX5 hown hK hP hD hS 0 rfl rfl 0 (by decide) (hts (.fieldLink RX5 10 "Bootstay" "store" "LBootstay$Store;") (by decide +kernel)) (fun _ h9 => h9) rfl hin rfl (by decide +kernel) rfl rfl (Nat.le_of_ble_eq_true rfl) dX5_init_12 (fun H locs hP hD hS => ?_)
  have hP : va_P D vwCl [(b, .inr (5, [.ref q1, .null, .null, .null, .null, .int 0])), (q1, .inr (3, [.ref f4])), (f4, .inr (2, [.ref w5, .int F_X3_init.2.1, .int F_X3_init.2.2])), (w5, .inl (cA6, 66, .inl F_X3_init.1))] H := hP
  have hD : va_D A [(b, .inr (5, [.ref q1, .null, .null, .null, .null, .int 0])), (q1, .inr (3, [.ref f4])), (f4, .inr (2, [.ref w5, .int F_X3_init.2.1, .int F_X3_init.2.2])), (w5, .inl (cA6, 66, .inl F_X3_init.1))] := hD
  refine lv_aload_n hx hb dX5_init_15 rfl (lv_at hl 0 rfl) ?_
  refine va_new (ci := 3) (fs := [.null]) (C := RX3) (T := TX3) (N := 1) hx hb hts hi3 tyX3 tyX3_ok hown (hts (.classLink RX5 7 RX3) (by decide +kernel)) (hts (.instantiable RX3 1) (by decide +kernel)) (hts (.initialized RX3) (by decide +kernel)) hK hP hD hS hA rfl (fun j hj => by rcases (show j = 0 by omega) with rfl <;> rfl) (Nat.le_of_ble_eq_true rfl) (Nat.le_of_ble_eq_true rfl) dX5_init_16 (fun q7 H hP hD hS => ?_)
  have hP : va_P D vwCl [(b, .inr (5, [.ref q1, .null, .null, .null, .null, .int 0])), (q1, .inr (3, [.ref f4])), (f4, .inr (2, [.ref w5, .int F_X3_init.2.1, .int F_X3_init.2.2])), (w5, .inl (cA6, 66, .inl F_X3_init.1)), (q7, .inr (3, [.null]))] H := hP
  have hD : va_D A [(b, .inr (5, [.ref q1, .null, .null, .null, .null, .int 0])), (q1, .inr (3, [.ref f4])), (f4, .inr (2, [.ref w5, .int F_X3_init.2.1, .int F_X3_init.2.2])), (w5, .inl (cA6, 66, .inl F_X3_init.1)), (q7, .inr (3, [.null]))] := hD
  refine W.widen (k := 4) (n := 71) (Nat.le_of_ble_eq_true rfl) (Nat.le_of_ble_eq_true rfl) ?_
  refine lv_dup hx hb dX5_init_19 rfl ?_
  refine bx_wvk (wc := [(q7, .inr (3, [.null]))]) (wr := [(b, .inr (5, [.ref q1, .null, .null, .null, .null, .int 0])), (q1, .inr (3, [.ref f4])), (f4, .inr (2, [.ref w5, .int F_X3_init.2.1, .int F_X3_init.2.2])), (w5, .inl (cA6, 66, .inl F_X3_init.1))]) (wf := fun (u : (Nat) × (Nat) × (ClassId)) => [(q7, .inr (3, [.ref u.1])), (u.1, .inr (2, [.ref u.2.1, .int F_X3_init.2.1, .int F_X3_init.2.2])), (u.2.1, .inl (u.2.2, 66, .inl F_X3_init.1))]) (wn := fun (u : (Nat) × (Nat) × (ClassId)) => [(b, .inr (5, [.ref q1, .null, .null, .null, .null, .int 0])), (q1, .inr (3, [.ref f4])), (f4, .inr (2, [.ref w5, .int F_X3_init.2.1, .int F_X3_init.2.2])), (w5, .inl (cA6, 66, .inl F_X3_init.1)), (q7, .inr (3, [.ref u.1])), (u.1, .inr (2, [.ref u.2.1, .int F_X3_init.2.1, .int F_X3_init.2.2])), (u.2.1, .inl (u.2.2, 66, .inl F_X3_init.1))]) (tf := fun (u : (Nat) × (Nat) × (ClassId)) => [(u.2.2, .int)]) hP hD hS hA [4] [0, 1, 2, 3] [0, 1, 2, 3, 4, 5, 6] rfl rfl (by decide) (by decide) (fun u => rfl) (by decide) (va_runI (As := []) (rest := [.ref q7, .ref b]) ⟨hx, hb, hml, hown, hts⟩ (c_X3_init l D q7 H.size) (cwI 0 hts gX5_init_X3_init rfl rfl rfl (hts (.initialized RX3) (by decide +kernel)) (hts (.methodLink RX5 9 yX3_init) (by decide +kernel)) (hts (.instanceMethod yX3_init) (by decide +kernel)) rfl (by decide +kernel) ⟨Nat.le_of_ble_eq_true rfl, Nat.le_of_ble_eq_true rfl⟩) (bx_ps (hK.sub (tys' := []) [] rfl) hG (hP.sub (ws' := [(q7, .inr (3, [.null]))]) [4] rfl) (hD.sub (ws' := [(q7, .inr (3, [.null]))]) [4] (by decide) rfl)) rfl rfl hl.1 rfl (lv_room (Nat.le_of_ble_eq_true rfl)) dX5_init_20 ⟨Nat.le_of_ble_eq_true rfl, Nat.le_of_ble_eq_true rfl⟩) (fun u_8 H locs h_9 hK9 hP hD hS => ?_)
  obtain ⟨f10, w11, cA12⟩ := u_8
  have ecA12 := bx_same 0 1 (hK.app hK9) rfl rfl
  subst ecA12
  have hP : va_P D vwCl [(b, .inr (5, [.ref q1, .null, .null, .null, .null, .int 0])), (q1, .inr (3, [.ref f4])), (f4, .inr (2, [.ref w5, .int F_X3_init.2.1, .int F_X3_init.2.2])), (w5, .inl (cA6, 66, .inl F_X3_init.1)), (q7, .inr (3, [.ref f10])), (f10, .inr (2, [.ref w11, .int F_X3_init.2.1, .int F_X3_init.2.2])), (w11, .inl (cA6, 66, .inl F_X3_init.1))] H := hP
  have hD : va_D A [(b, .inr (5, [.ref q1, .null, .null, .null, .null, .int 0])), (q1, .inr (3, [.ref f4])), (f4, .inr (2, [.ref w5, .int F_X3_init.2.1, .int F_X3_init.2.2])), (w5, .inl (cA6, 66, .inl F_X3_init.1)), (q7, .inr (3, [.ref f10])), (f10, .inr (2, [.ref w11, .int F_X3_init.2.1, .int F_X3_init.2.2])), (w11, .inl (cA6, 66, .inl F_X3_init.1))] := hD
  refine W.widen (k := 6) (n := 140) (Nat.le_of_ble_eq_true rfl) (Nat.le_of_ble_eq_true rfl) ?_
  refine va_putF (D := D) (ci := 5) (v := .ref q7) (ty := (.object "Bootstay$Store")) (C := RX5) (T := TX5) (N := 6) hx hb hts hi5 tyX5 tyX5_ok nmX5 hown hK hP hD hS 0 rfl rfl 1 (by decide) (hts (.fieldLink RX5 16 "Bootstay" "rehearsal" "LBootstay$Store;") (by decide +kernel)) (fun _ h9 => h9) rfl hin rfl (by decide +kernel) rfl rfl (Nat.le_of_ble_eq_true rfl) dX5_init_23 (fun H locs hP hD hS => ?_)
  have hP : va_P D vwCl [(b, .inr (5, [.ref q1, .ref q7, .null, .null, .null, .int 0])), (q1, .inr (3, [.ref f4])), (f4, .inr (2, [.ref w5, .int F_X3_init.2.1, .int F_X3_init.2.2])), (w5, .inl (cA6, 66, .inl F_X3_init.1)), (q7, .inr (3, [.ref f10])), (f10, .inr (2, [.ref w11, .int F_X3_init.2.1, .int F_X3_init.2.2])), (w11, .inl (cA6, 66, .inl F_X3_init.1))] H := hP
  have hD : va_D A [(b, .inr (5, [.ref q1, .ref q7, .null, .null, .null, .int 0])), (q1, .inr (3, [.ref f4])), (f4, .inr (2, [.ref w5, .int F_X3_init.2.1, .int F_X3_init.2.2])), (w5, .inl (cA6, 66, .inl F_X3_init.1)), (q7, .inr (3, [.ref f10])), (f10, .inr (2, [.ref w11, .int F_X3_init.2.1, .int F_X3_init.2.2])), (w11, .inl (cA6, 66, .inl F_X3_init.1))] := hD
  refine lv_aload_n hx hb dX5_init_26 rfl (lv_at hl 0 rfl) ?_
  refine va_new (ci := 4) (fs := [.int 0, .int 0, .int 0, .int 0, .int 0, .int 0]) (C := RX4) (T := TX4) (N := 6) hx hb hts hi4 tyX4 tyX4_ok hown (hts (.classLink RX5 19 RX4) (by decide +kernel)) (hts (.instantiable RX4 6) (by decide +kernel)) (hts (.initialized RX4) (by decide +kernel)) hK hP hD hS hA rfl (fun j hj => by rcases (show j = 0 ∨ j = 1 ∨ j = 2 ∨ j = 3 ∨ j = 4 ∨ j = 5 by omega) with rfl | rfl | rfl | rfl | rfl | rfl <;> rfl) (Nat.le_of_ble_eq_true rfl) (Nat.le_of_ble_eq_true rfl) dX5_init_27 (fun q13 H hP hD hS => ?_)
  have hP : va_P D vwCl [(b, .inr (5, [.ref q1, .ref q7, .null, .null, .null, .int 0])), (q1, .inr (3, [.ref f4])), (f4, .inr (2, [.ref w5, .int F_X3_init.2.1, .int F_X3_init.2.2])), (w5, .inl (cA6, 66, .inl F_X3_init.1)), (q7, .inr (3, [.ref f10])), (f10, .inr (2, [.ref w11, .int F_X3_init.2.1, .int F_X3_init.2.2])), (w11, .inl (cA6, 66, .inl F_X3_init.1)), (q13, .inr (4, [.int 0, .int 0, .int 0, .int 0, .int 0, .int 0]))] H := hP
  have hD : va_D A [(b, .inr (5, [.ref q1, .ref q7, .null, .null, .null, .int 0])), (q1, .inr (3, [.ref f4])), (f4, .inr (2, [.ref w5, .int F_X3_init.2.1, .int F_X3_init.2.2])), (w5, .inl (cA6, 66, .inl F_X3_init.1)), (q7, .inr (3, [.ref f10])), (f10, .inr (2, [.ref w11, .int F_X3_init.2.1, .int F_X3_init.2.2])), (w11, .inl (cA6, 66, .inl F_X3_init.1)), (q13, .inr (4, [.int 0, .int 0, .int 0, .int 0, .int 0, .int 0]))] := hD
  refine W.widen (k := 7) (n := 146) (Nat.le_of_ble_eq_true rfl) (Nat.le_of_ble_eq_true rfl) ?_
  refine lv_dup hx hb dX5_init_30 rfl ?_
  refine bx_wvk (wc := [(q13, .inr (4, [.int 0, .int 0, .int 0, .int 0, .int 0, .int 0]))]) (wr := [(b, .inr (5, [.ref q1, .ref q7, .null, .null, .null, .int 0])), (q1, .inr (3, [.ref f4])), (f4, .inr (2, [.ref w5, .int F_X3_init.2.1, .int F_X3_init.2.2])), (w5, .inl (cA6, 66, .inl F_X3_init.1)), (q7, .inr (3, [.ref f10])), (f10, .inr (2, [.ref w11, .int F_X3_init.2.1, .int F_X3_init.2.2])), (w11, .inl (cA6, 66, .inl F_X3_init.1))]) (wf := fun (u : Unit) => [(q13, .inr (4, [.int F_X4_init.1, .int F_X4_init.2.1, .int F_X4_init.2.2.1, .int F_X4_init.2.2.2.1, .int F_X4_init.2.2.2.2.1, .int F_X4_init.2.2.2.2.2]))]) (wn := fun (u : Unit) => [(b, .inr (5, [.ref q1, .ref q7, .null, .null, .null, .int 0])), (q1, .inr (3, [.ref f4])), (f4, .inr (2, [.ref w5, .int F_X3_init.2.1, .int F_X3_init.2.2])), (w5, .inl (cA6, 66, .inl F_X3_init.1)), (q7, .inr (3, [.ref f10])), (f10, .inr (2, [.ref w11, .int F_X3_init.2.1, .int F_X3_init.2.2])), (w11, .inl (cA6, 66, .inl F_X3_init.1)), (q13, .inr (4, [.int F_X4_init.1, .int F_X4_init.2.1, .int F_X4_init.2.2.1, .int F_X4_init.2.2.2.1, .int F_X4_init.2.2.2.2.1, .int F_X4_init.2.2.2.2.2]))]) (tf := fun (u : Unit) => []) hP hD hS hA [7] [0, 1, 2, 3, 4, 5, 6] [0, 1, 2, 3, 4, 5, 6, 7] rfl rfl (by decide) (by decide) (fun u => rfl) (by decide) (va_runIN (As := []) (rest := [.ref q13, .ref b]) ⟨hx, hb, hml, hown, hts⟩ (c_X4_init l D q13 H.size) ⟨(va_cnB 0 hts gX5_init_X4_init_n21 rfl rfl rfl (hG.1 (.methodLinkNest RX5 21 yX4_init RX5) (by decide +kernel)) (hts (.initialized RX4) (by decide +kernel)) (by decide +kernel) ⟨Nat.le_of_ble_eq_true rfl, Nat.le_of_ble_eq_true rfl⟩), rfl, (hts (.instanceMethod yX4_init) (by decide +kernel))⟩ (bx_ps (hK.sub (tys' := []) [] rfl) hG (hP.sub (ws' := [(q13, .inr (4, [.int 0, .int 0, .int 0, .int 0, .int 0, .int 0]))]) [7] rfl) (hD.sub (ws' := [(q13, .inr (4, [.int 0, .int 0, .int 0, .int 0, .int 0, .int 0]))]) [7] (by decide) rfl)) rfl rfl hl.1 rfl (lv_room (Nat.le_of_ble_eq_true rfl)) dX5_init_31 ⟨Nat.le_of_ble_eq_true rfl, Nat.le_of_ble_eq_true rfl⟩) (fun u_14 H locs h_15 hK9 hP hD hS => ?_)
  have hP : va_P D vwCl [(b, .inr (5, [.ref q1, .ref q7, .null, .null, .null, .int 0])), (q1, .inr (3, [.ref f4])), (f4, .inr (2, [.ref w5, .int F_X3_init.2.1, .int F_X3_init.2.2])), (w5, .inl (cA6, 66, .inl F_X3_init.1)), (q7, .inr (3, [.ref f10])), (f10, .inr (2, [.ref w11, .int F_X3_init.2.1, .int F_X3_init.2.2])), (w11, .inl (cA6, 66, .inl F_X3_init.1)), (q13, .inr (4, [.int F_X4_init.1, .int F_X4_init.2.1, .int F_X4_init.2.2.1, .int F_X4_init.2.2.2.1, .int F_X4_init.2.2.2.2.1, .int F_X4_init.2.2.2.2.2]))] H := hP
  have hD : va_D A [(b, .inr (5, [.ref q1, .ref q7, .null, .null, .null, .int 0])), (q1, .inr (3, [.ref f4])), (f4, .inr (2, [.ref w5, .int F_X3_init.2.1, .int F_X3_init.2.2])), (w5, .inl (cA6, 66, .inl F_X3_init.1)), (q7, .inr (3, [.ref f10])), (f10, .inr (2, [.ref w11, .int F_X3_init.2.1, .int F_X3_init.2.2])), (w11, .inl (cA6, 66, .inl F_X3_init.1)), (q13, .inr (4, [.int F_X4_init.1, .int F_X4_init.2.1, .int F_X4_init.2.2.1, .int F_X4_init.2.2.2.1, .int F_X4_init.2.2.2.2.1, .int F_X4_init.2.2.2.2.2]))] := hD
  refine W.widen (k := 7) (n := 146) (Nat.le_of_ble_eq_true rfl) (Nat.le_of_ble_eq_true rfl) ?_
  refine va_putF (D := D) (ci := 5) (v := .ref q13) (ty := (.object "Bootstay$Transfer")) (C := RX5) (T := TX5) (N := 6) hx hb hts hi5 tyX5 tyX5_ok nmX5 hown hK hP hD hS 0 rfl rfl 2 (by decide) (hts (.fieldLink RX5 22 "Bootstay" "transfer" "LBootstay$Transfer;") (by decide +kernel)) (fun _ h9 => h9) rfl hin rfl (by decide +kernel) rfl rfl (Nat.le_of_ble_eq_true rfl) dX5_init_34 (fun H locs hP hD hS => ?_)
  have hP : va_P D vwCl [(b, .inr (5, [.ref q1, .ref q7, .ref q13, .null, .null, .int 0])), (q1, .inr (3, [.ref f4])), (f4, .inr (2, [.ref w5, .int F_X3_init.2.1, .int F_X3_init.2.2])), (w5, .inl (cA6, 66, .inl F_X3_init.1)), (q7, .inr (3, [.ref f10])), (f10, .inr (2, [.ref w11, .int F_X3_init.2.1, .int F_X3_init.2.2])), (w11, .inl (cA6, 66, .inl F_X3_init.1)), (q13, .inr (4, [.int F_X4_init.1, .int F_X4_init.2.1, .int F_X4_init.2.2.1, .int F_X4_init.2.2.2.1, .int F_X4_init.2.2.2.2.1, .int F_X4_init.2.2.2.2.2]))] H := hP
  have hD : va_D A [(b, .inr (5, [.ref q1, .ref q7, .ref q13, .null, .null, .int 0])), (q1, .inr (3, [.ref f4])), (f4, .inr (2, [.ref w5, .int F_X3_init.2.1, .int F_X3_init.2.2])), (w5, .inl (cA6, 66, .inl F_X3_init.1)), (q7, .inr (3, [.ref f10])), (f10, .inr (2, [.ref w11, .int F_X3_init.2.1, .int F_X3_init.2.2])), (w11, .inl (cA6, 66, .inl F_X3_init.1)), (q13, .inr (4, [.int F_X4_init.1, .int F_X4_init.2.1, .int F_X4_init.2.2.1, .int F_X4_init.2.2.2.1, .int F_X4_init.2.2.2.2.1, .int F_X4_init.2.2.2.2.2]))] := hD
  refine lv_aload_n hx hb dX5_init_37 rfl (lv_at hl 0 rfl) ?_
  refine va_new (ci := 1) (fs := [.int 0, .null]) (C := RX1) (T := TX1) (N := 2) hx hb hts hi1 tyX1 tyX1_ok hown (hts (.classLink RX5 26 RX1) (by decide +kernel)) (hts (.instantiable RX1 2) (by decide +kernel)) (hts (.initialized RX1) (by decide +kernel)) hK hP hD hS hA rfl (fun j hj => by rcases (show j = 0 ∨ j = 1 by omega) with rfl | rfl <;> rfl) (Nat.le_of_ble_eq_true rfl) (Nat.le_of_ble_eq_true rfl) dX5_init_38 (fun q16 H hP hD hS => ?_)
  have hP : va_P D vwCl [(b, .inr (5, [.ref q1, .ref q7, .ref q13, .null, .null, .int 0])), (q1, .inr (3, [.ref f4])), (f4, .inr (2, [.ref w5, .int F_X3_init.2.1, .int F_X3_init.2.2])), (w5, .inl (cA6, 66, .inl F_X3_init.1)), (q7, .inr (3, [.ref f10])), (f10, .inr (2, [.ref w11, .int F_X3_init.2.1, .int F_X3_init.2.2])), (w11, .inl (cA6, 66, .inl F_X3_init.1)), (q13, .inr (4, [.int F_X4_init.1, .int F_X4_init.2.1, .int F_X4_init.2.2.1, .int F_X4_init.2.2.2.1, .int F_X4_init.2.2.2.2.1, .int F_X4_init.2.2.2.2.2])), (q16, .inr (1, [.int 0, .null]))] H := hP
  have hD : va_D A [(b, .inr (5, [.ref q1, .ref q7, .ref q13, .null, .null, .int 0])), (q1, .inr (3, [.ref f4])), (f4, .inr (2, [.ref w5, .int F_X3_init.2.1, .int F_X3_init.2.2])), (w5, .inl (cA6, 66, .inl F_X3_init.1)), (q7, .inr (3, [.ref f10])), (f10, .inr (2, [.ref w11, .int F_X3_init.2.1, .int F_X3_init.2.2])), (w11, .inl (cA6, 66, .inl F_X3_init.1)), (q13, .inr (4, [.int F_X4_init.1, .int F_X4_init.2.1, .int F_X4_init.2.2.1, .int F_X4_init.2.2.2.1, .int F_X4_init.2.2.2.2.1, .int F_X4_init.2.2.2.2.2])), (q16, .inr (1, [.int 0, .null]))] := hD
  refine W.widen (k := 8) (n := 148) (Nat.le_of_ble_eq_true rfl) (Nat.le_of_ble_eq_true rfl) ?_
  refine lv_dup hx hb dX5_init_41 rfl ?_
  refine bx_wvk (wc := [(q16, .inr (1, [.int 0, .null]))]) (wr := [(b, .inr (5, [.ref q1, .ref q7, .ref q13, .null, .null, .int 0])), (q1, .inr (3, [.ref f4])), (f4, .inr (2, [.ref w5, .int F_X3_init.2.1, .int F_X3_init.2.2])), (w5, .inl (cA6, 66, .inl F_X3_init.1)), (q7, .inr (3, [.ref f10])), (f10, .inr (2, [.ref w11, .int F_X3_init.2.1, .int F_X3_init.2.2])), (w11, .inl (cA6, 66, .inl F_X3_init.1)), (q13, .inr (4, [.int F_X4_init.1, .int F_X4_init.2.1, .int F_X4_init.2.2.1, .int F_X4_init.2.2.2.1, .int F_X4_init.2.2.2.2.1, .int F_X4_init.2.2.2.2.2]))]) (wf := fun (u : (Nat) × (ClassId)) => [(q16, .inr (1, [.int F_X1_init.1, .ref u.1])), (u.1, .inl (u.2, 24, .inl F_X1_init.2))]) (wn := fun (u : (Nat) × (ClassId)) => [(b, .inr (5, [.ref q1, .ref q7, .ref q13, .null, .null, .int 0])), (q1, .inr (3, [.ref f4])), (f4, .inr (2, [.ref w5, .int F_X3_init.2.1, .int F_X3_init.2.2])), (w5, .inl (cA6, 66, .inl F_X3_init.1)), (q7, .inr (3, [.ref f10])), (f10, .inr (2, [.ref w11, .int F_X3_init.2.1, .int F_X3_init.2.2])), (w11, .inl (cA6, 66, .inl F_X3_init.1)), (q13, .inr (4, [.int F_X4_init.1, .int F_X4_init.2.1, .int F_X4_init.2.2.1, .int F_X4_init.2.2.2.1, .int F_X4_init.2.2.2.2.1, .int F_X4_init.2.2.2.2.2])), (q16, .inr (1, [.int F_X1_init.1, .ref u.1])), (u.1, .inl (u.2, 24, .inl F_X1_init.2))]) (tf := fun (u : (Nat) × (ClassId)) => [(u.2, .int)]) hP hD hS hA [8] [0, 1, 2, 3, 4, 5, 6, 7] [0, 1, 2, 3, 4, 5, 6, 7, 8, 9] rfl rfl (by decide) (by decide) (fun u => rfl) (by decide) (va_runIN (As := []) (rest := [.ref q16, .ref b]) ⟨hx, hb, hml, hown, hts⟩ (c_X1_init l D q16 H.size) ⟨(va_cnB 0 hts gX5_init_X1_init_n28 rfl rfl rfl (hG.1 (.methodLinkNest RX5 28 yX1_init RX5) (by decide +kernel)) (hts (.initialized RX1) (by decide +kernel)) (by decide +kernel) ⟨Nat.le_of_ble_eq_true rfl, Nat.le_of_ble_eq_true rfl⟩), rfl, (hts (.instanceMethod yX1_init) (by decide +kernel))⟩ (bx_ps (hK.sub (tys' := []) [] rfl) hG (hP.sub (ws' := [(q16, .inr (1, [.int 0, .null]))]) [8] rfl) (hD.sub (ws' := [(q16, .inr (1, [.int 0, .null]))]) [8] (by decide) rfl)) rfl rfl hl.1 rfl (lv_room (Nat.le_of_ble_eq_true rfl)) dX5_init_42 ⟨Nat.le_of_ble_eq_true rfl, Nat.le_of_ble_eq_true rfl⟩) (fun u_17 H locs h_18 hK9 hP hD hS => ?_)
  obtain ⟨db19, cA20⟩ := u_17
  have ecA20 := bx_same 0 1 (hK.app hK9) rfl rfl
  subst ecA20
  have hP : va_P D vwCl [(b, .inr (5, [.ref q1, .ref q7, .ref q13, .null, .null, .int 0])), (q1, .inr (3, [.ref f4])), (f4, .inr (2, [.ref w5, .int F_X3_init.2.1, .int F_X3_init.2.2])), (w5, .inl (cA6, 66, .inl F_X3_init.1)), (q7, .inr (3, [.ref f10])), (f10, .inr (2, [.ref w11, .int F_X3_init.2.1, .int F_X3_init.2.2])), (w11, .inl (cA6, 66, .inl F_X3_init.1)), (q13, .inr (4, [.int F_X4_init.1, .int F_X4_init.2.1, .int F_X4_init.2.2.1, .int F_X4_init.2.2.2.1, .int F_X4_init.2.2.2.2.1, .int F_X4_init.2.2.2.2.2])), (q16, .inr (1, [.int F_X1_init.1, .ref db19])), (db19, .inl (cA6, 24, .inl F_X1_init.2))] H := hP
  have hD : va_D A [(b, .inr (5, [.ref q1, .ref q7, .ref q13, .null, .null, .int 0])), (q1, .inr (3, [.ref f4])), (f4, .inr (2, [.ref w5, .int F_X3_init.2.1, .int F_X3_init.2.2])), (w5, .inl (cA6, 66, .inl F_X3_init.1)), (q7, .inr (3, [.ref f10])), (f10, .inr (2, [.ref w11, .int F_X3_init.2.1, .int F_X3_init.2.2])), (w11, .inl (cA6, 66, .inl F_X3_init.1)), (q13, .inr (4, [.int F_X4_init.1, .int F_X4_init.2.1, .int F_X4_init.2.2.1, .int F_X4_init.2.2.2.1, .int F_X4_init.2.2.2.2.1, .int F_X4_init.2.2.2.2.2])), (q16, .inr (1, [.int F_X1_init.1, .ref db19])), (db19, .inl (cA6, 24, .inl F_X1_init.2))] := hD
  refine W.widen (k := 9) (n := 172) (Nat.le_of_ble_eq_true rfl) (Nat.le_of_ble_eq_true rfl) ?_
  refine va_putF (D := D) (ci := 5) (v := .ref q16) (ty := (.object "Bootstay$Draft")) (C := RX5) (T := TX5) (N := 6) hx hb hts hi5 tyX5 tyX5_ok nmX5 hown hK hP hD hS 0 rfl rfl 3 (by decide) (hts (.fieldLink RX5 29 "Bootstay" "draftImage" "LBootstay$Draft;") (by decide +kernel)) (fun _ h9 => h9) rfl hin rfl (by decide +kernel) rfl rfl (Nat.le_of_ble_eq_true rfl) dX5_init_45 (fun H locs hP hD hS => ?_)
  have hP : va_P D vwCl [(b, .inr (5, [.ref q1, .ref q7, .ref q13, .ref q16, .null, .int 0])), (q1, .inr (3, [.ref f4])), (f4, .inr (2, [.ref w5, .int F_X3_init.2.1, .int F_X3_init.2.2])), (w5, .inl (cA6, 66, .inl F_X3_init.1)), (q7, .inr (3, [.ref f10])), (f10, .inr (2, [.ref w11, .int F_X3_init.2.1, .int F_X3_init.2.2])), (w11, .inl (cA6, 66, .inl F_X3_init.1)), (q13, .inr (4, [.int F_X4_init.1, .int F_X4_init.2.1, .int F_X4_init.2.2.1, .int F_X4_init.2.2.2.1, .int F_X4_init.2.2.2.2.1, .int F_X4_init.2.2.2.2.2])), (q16, .inr (1, [.int F_X1_init.1, .ref db19])), (db19, .inl (cA6, 24, .inl F_X1_init.2))] H := hP
  have hD : va_D A [(b, .inr (5, [.ref q1, .ref q7, .ref q13, .ref q16, .null, .int 0])), (q1, .inr (3, [.ref f4])), (f4, .inr (2, [.ref w5, .int F_X3_init.2.1, .int F_X3_init.2.2])), (w5, .inl (cA6, 66, .inl F_X3_init.1)), (q7, .inr (3, [.ref f10])), (f10, .inr (2, [.ref w11, .int F_X3_init.2.1, .int F_X3_init.2.2])), (w11, .inl (cA6, 66, .inl F_X3_init.1)), (q13, .inr (4, [.int F_X4_init.1, .int F_X4_init.2.1, .int F_X4_init.2.2.1, .int F_X4_init.2.2.2.1, .int F_X4_init.2.2.2.2.1, .int F_X4_init.2.2.2.2.2])), (q16, .inr (1, [.int F_X1_init.1, .ref db19])), (db19, .inl (cA6, 24, .inl F_X1_init.2))] := hD
  refine lv_aload_n hx hb dX5_init_48 rfl (lv_at hl 0 rfl) ?_
  refine va_new (ci := 0) (fs := [.null, .null]) (C := RX0) (T := TX0) (N := 2) hx hb hts hi0 tyX0 tyX0_ok hown (hts (.classLink RX5 33 RX0) (by decide +kernel)) (hts (.instantiable RX0 2) (by decide +kernel)) (hts (.initialized RX0) (by decide +kernel)) hK hP hD hS hA rfl (fun j hj => by rcases (show j = 0 ∨ j = 1 by omega) with rfl | rfl <;> rfl) (Nat.le_of_ble_eq_true rfl) (Nat.le_of_ble_eq_true rfl) dX5_init_49 (fun q21 H hP hD hS => ?_)
  have hP : va_P D vwCl [(b, .inr (5, [.ref q1, .ref q7, .ref q13, .ref q16, .null, .int 0])), (q1, .inr (3, [.ref f4])), (f4, .inr (2, [.ref w5, .int F_X3_init.2.1, .int F_X3_init.2.2])), (w5, .inl (cA6, 66, .inl F_X3_init.1)), (q7, .inr (3, [.ref f10])), (f10, .inr (2, [.ref w11, .int F_X3_init.2.1, .int F_X3_init.2.2])), (w11, .inl (cA6, 66, .inl F_X3_init.1)), (q13, .inr (4, [.int F_X4_init.1, .int F_X4_init.2.1, .int F_X4_init.2.2.1, .int F_X4_init.2.2.2.1, .int F_X4_init.2.2.2.2.1, .int F_X4_init.2.2.2.2.2])), (q16, .inr (1, [.int F_X1_init.1, .ref db19])), (db19, .inl (cA6, 24, .inl F_X1_init.2)), (q21, .inr (0, [.null, .null]))] H := hP
  have hD : va_D A [(b, .inr (5, [.ref q1, .ref q7, .ref q13, .ref q16, .null, .int 0])), (q1, .inr (3, [.ref f4])), (f4, .inr (2, [.ref w5, .int F_X3_init.2.1, .int F_X3_init.2.2])), (w5, .inl (cA6, 66, .inl F_X3_init.1)), (q7, .inr (3, [.ref f10])), (f10, .inr (2, [.ref w11, .int F_X3_init.2.1, .int F_X3_init.2.2])), (w11, .inl (cA6, 66, .inl F_X3_init.1)), (q13, .inr (4, [.int F_X4_init.1, .int F_X4_init.2.1, .int F_X4_init.2.2.1, .int F_X4_init.2.2.2.1, .int F_X4_init.2.2.2.2.1, .int F_X4_init.2.2.2.2.2])), (q16, .inr (1, [.int F_X1_init.1, .ref db19])), (db19, .inl (cA6, 24, .inl F_X1_init.2)), (q21, .inr (0, [.null, .null]))] := hD
  refine W.widen (k := 10) (n := 174) (Nat.le_of_ble_eq_true rfl) (Nat.le_of_ble_eq_true rfl) ?_
  refine lv_dup hx hb dX5_init_52 rfl ?_
  refine lv_aload_n hx hb dX5_init_53 rfl (lv_at hl 0 rfl) ?_
  refine va_get (D := D) (ci := 5) (v := .ref q16) (C := RX5) (T := TX5) (N := 6) hx hb hts hi5 hown hK hP 0 rfl rfl 3 (by decide) (hts (.fieldLink RX5 29 "Bootstay" "draftImage" "LBootstay$Draft;") (by decide +kernel)) (fun _ h9 => h9) rfl dX5_init_54 ?_
  refine lv_aload_n hx hb dX5_init_57 rfl (lv_at hl 0 rfl) ?_
  refine va_get (D := D) (ci := 5) (v := .ref q1) (C := RX5) (T := TX5) (N := 6) hx hb hts hi5 hown hK hP 0 rfl rfl 0 (by decide) (hts (.fieldLink RX5 10 "Bootstay" "store" "LBootstay$Store;") (by decide +kernel)) (fun _ h9 => h9) rfl dX5_init_58 ?_
  refine bx_wvk (wc := [(q21, .inr (0, [.null, .null]))]) (wr := [(b, .inr (5, [.ref q1, .ref q7, .ref q13, .ref q16, .null, .int 0])), (q1, .inr (3, [.ref f4])), (f4, .inr (2, [.ref w5, .int F_X3_init.2.1, .int F_X3_init.2.2])), (w5, .inl (cA6, 66, .inl F_X3_init.1)), (q7, .inr (3, [.ref f10])), (f10, .inr (2, [.ref w11, .int F_X3_init.2.1, .int F_X3_init.2.2])), (w11, .inl (cA6, 66, .inl F_X3_init.1)), (q13, .inr (4, [.int F_X4_init.1, .int F_X4_init.2.1, .int F_X4_init.2.2.1, .int F_X4_init.2.2.2.1, .int F_X4_init.2.2.2.2.1, .int F_X4_init.2.2.2.2.2])), (q16, .inr (1, [.int F_X1_init.1, .ref db19])), (db19, .inl (cA6, 24, .inl F_X1_init.2))]) (wf := fun (u : Unit) => [(q21, .inr (0, [.ref q16, .ref q1]))]) (wn := fun (u : Unit) => [(b, .inr (5, [.ref q1, .ref q7, .ref q13, .ref q16, .null, .int 0])), (q1, .inr (3, [.ref f4])), (f4, .inr (2, [.ref w5, .int F_X3_init.2.1, .int F_X3_init.2.2])), (w5, .inl (cA6, 66, .inl F_X3_init.1)), (q7, .inr (3, [.ref f10])), (f10, .inr (2, [.ref w11, .int F_X3_init.2.1, .int F_X3_init.2.2])), (w11, .inl (cA6, 66, .inl F_X3_init.1)), (q13, .inr (4, [.int F_X4_init.1, .int F_X4_init.2.1, .int F_X4_init.2.2.1, .int F_X4_init.2.2.2.1, .int F_X4_init.2.2.2.2.1, .int F_X4_init.2.2.2.2.2])), (q16, .inr (1, [.int F_X1_init.1, .ref db19])), (db19, .inl (cA6, 24, .inl F_X1_init.2)), (q21, .inr (0, [.ref q16, .ref q1]))]) (tf := fun (u : Unit) => []) hP hD hS hA [10] [0, 1, 2, 3, 4, 5, 6, 7, 8, 9] [0, 1, 2, 3, 4, 5, 6, 7, 8, 9, 10] rfl rfl (by decide) (by decide) (fun u => rfl) (by decide) (va_runI (As := [.ref q16, .ref q1]) (rest := [.ref q21, .ref b]) ⟨hx, hb, hml, hown, hts⟩ (c_X0_init l D q21 q16 q1 H.size) (cwI 2 hts gX5_init_X0_init rfl rfl rfl (hts (.initialized RX0) (by decide +kernel)) (hts (.methodLink RX5 35 yX0_init) (by decide +kernel)) (hts (.instanceMethod yX0_init) (by decide +kernel)) rfl (by decide +kernel) ⟨Nat.le_of_ble_eq_true rfl, Nat.le_of_ble_eq_true rfl⟩) (bx_ps (hK.sub (tys' := []) [] rfl) hG (hP.sub (ws' := [(q21, .inr (0, [.null, .null]))]) [10] rfl) (hD.sub (ws' := [(q21, .inr (0, [.null, .null]))]) [10] (by decide) rfl)) rfl rfl hl.1 rfl (lv_room (Nat.le_of_ble_eq_true rfl)) dX5_init_61 ⟨Nat.le_of_ble_eq_true rfl, Nat.le_of_ble_eq_true rfl⟩) (fun u_22 H locs h_23 hK9 hP hD hS => ?_)
  have hP : va_P D vwCl [(b, .inr (5, [.ref q1, .ref q7, .ref q13, .ref q16, .null, .int 0])), (q1, .inr (3, [.ref f4])), (f4, .inr (2, [.ref w5, .int F_X3_init.2.1, .int F_X3_init.2.2])), (w5, .inl (cA6, 66, .inl F_X3_init.1)), (q7, .inr (3, [.ref f10])), (f10, .inr (2, [.ref w11, .int F_X3_init.2.1, .int F_X3_init.2.2])), (w11, .inl (cA6, 66, .inl F_X3_init.1)), (q13, .inr (4, [.int F_X4_init.1, .int F_X4_init.2.1, .int F_X4_init.2.2.1, .int F_X4_init.2.2.2.1, .int F_X4_init.2.2.2.2.1, .int F_X4_init.2.2.2.2.2])), (q16, .inr (1, [.int F_X1_init.1, .ref db19])), (db19, .inl (cA6, 24, .inl F_X1_init.2)), (q21, .inr (0, [.ref q16, .ref q1]))] H := hP
  have hD : va_D A [(b, .inr (5, [.ref q1, .ref q7, .ref q13, .ref q16, .null, .int 0])), (q1, .inr (3, [.ref f4])), (f4, .inr (2, [.ref w5, .int F_X3_init.2.1, .int F_X3_init.2.2])), (w5, .inl (cA6, 66, .inl F_X3_init.1)), (q7, .inr (3, [.ref f10])), (f10, .inr (2, [.ref w11, .int F_X3_init.2.1, .int F_X3_init.2.2])), (w11, .inl (cA6, 66, .inl F_X3_init.1)), (q13, .inr (4, [.int F_X4_init.1, .int F_X4_init.2.1, .int F_X4_init.2.2.1, .int F_X4_init.2.2.2.1, .int F_X4_init.2.2.2.2.1, .int F_X4_init.2.2.2.2.2])), (q16, .inr (1, [.int F_X1_init.1, .ref db19])), (db19, .inl (cA6, 24, .inl F_X1_init.2)), (q21, .inr (0, [.ref q16, .ref q1]))] := hD
  refine W.widen (k := 10) (n := 174) (Nat.le_of_ble_eq_true rfl) (Nat.le_of_ble_eq_true rfl) ?_
  refine va_putF (D := D) (ci := 5) (v := .ref q21) (ty := (.object "Bootstay$Delta")) (C := RX5) (T := TX5) (N := 6) hx hb hts hi5 tyX5 tyX5_ok nmX5 hown hK hP hD hS 0 rfl rfl 4 (by decide) (hts (.fieldLink RX5 38 "Bootstay" "delta" "LBootstay$Delta;") (by decide +kernel)) (fun _ h9 => h9) rfl hin rfl (by decide +kernel) rfl rfl (Nat.le_of_ble_eq_true rfl) dX5_init_64 (fun H locs hP hD hS => ?_)
  have hP : va_P D vwCl [(b, .inr (5, [.ref q1, .ref q7, .ref q13, .ref q16, .ref q21, .int 0])), (q1, .inr (3, [.ref f4])), (f4, .inr (2, [.ref w5, .int F_X3_init.2.1, .int F_X3_init.2.2])), (w5, .inl (cA6, 66, .inl F_X3_init.1)), (q7, .inr (3, [.ref f10])), (f10, .inr (2, [.ref w11, .int F_X3_init.2.1, .int F_X3_init.2.2])), (w11, .inl (cA6, 66, .inl F_X3_init.1)), (q13, .inr (4, [.int F_X4_init.1, .int F_X4_init.2.1, .int F_X4_init.2.2.1, .int F_X4_init.2.2.2.1, .int F_X4_init.2.2.2.2.1, .int F_X4_init.2.2.2.2.2])), (q16, .inr (1, [.int F_X1_init.1, .ref db19])), (db19, .inl (cA6, 24, .inl F_X1_init.2)), (q21, .inr (0, [.ref q16, .ref q1]))] H := hP
  have hD : va_D A [(b, .inr (5, [.ref q1, .ref q7, .ref q13, .ref q16, .ref q21, .int 0])), (q1, .inr (3, [.ref f4])), (f4, .inr (2, [.ref w5, .int F_X3_init.2.1, .int F_X3_init.2.2])), (w5, .inl (cA6, 66, .inl F_X3_init.1)), (q7, .inr (3, [.ref f10])), (f10, .inr (2, [.ref w11, .int F_X3_init.2.1, .int F_X3_init.2.2])), (w11, .inl (cA6, 66, .inl F_X3_init.1)), (q13, .inr (4, [.int F_X4_init.1, .int F_X4_init.2.1, .int F_X4_init.2.2.1, .int F_X4_init.2.2.2.1, .int F_X4_init.2.2.2.2.1, .int F_X4_init.2.2.2.2.2])), (q16, .inr (1, [.int F_X1_init.1, .ref db19])), (db19, .inl (cA6, 24, .inl F_X1_init.2)), (q21, .inr (0, [.ref q16, .ref q1]))] := hD
  refine lv_aload_n hx hb dX5_init_67 rfl (lv_at hl 0 rfl) ?_
  refine lv_iconst (v := (-1)) hx hb dX5_init_68 (by decide) ?_
  refine va_put (D := D) (ci := 5) (v := .int (-1)) (ty := .int) (C := RX5) (T := TX5) (N := 6) hx hb hts hi5 tyX5 tyX5_ok nmX5 hown hK hP hD hS 0 rfl rfl 5 (by decide) (hts (.fieldLink RX5 42 "Bootstay" "runningSlot" "I") (by decide +kernel)) (fun _ h9 => h9) rfl (by decide +kernel) rfl rfl (Nat.le_of_ble_eq_true rfl) dX5_init_69 (fun H locs hP hD hS => ?_)
  have hP : va_P D vwCl [(b, .inr (5, [.ref q1, .ref q7, .ref q13, .ref q16, .ref q21, .int (-1)])), (q1, .inr (3, [.ref f4])), (f4, .inr (2, [.ref w5, .int F_X3_init.2.1, .int F_X3_init.2.2])), (w5, .inl (cA6, 66, .inl F_X3_init.1)), (q7, .inr (3, [.ref f10])), (f10, .inr (2, [.ref w11, .int F_X3_init.2.1, .int F_X3_init.2.2])), (w11, .inl (cA6, 66, .inl F_X3_init.1)), (q13, .inr (4, [.int F_X4_init.1, .int F_X4_init.2.1, .int F_X4_init.2.2.1, .int F_X4_init.2.2.2.1, .int F_X4_init.2.2.2.2.1, .int F_X4_init.2.2.2.2.2])), (q16, .inr (1, [.int F_X1_init.1, .ref db19])), (db19, .inl (cA6, 24, .inl F_X1_init.2)), (q21, .inr (0, [.ref q16, .ref q1]))] H := hP
  have hD : va_D A [(b, .inr (5, [.ref q1, .ref q7, .ref q13, .ref q16, .ref q21, .int (-1)])), (q1, .inr (3, [.ref f4])), (f4, .inr (2, [.ref w5, .int F_X3_init.2.1, .int F_X3_init.2.2])), (w5, .inl (cA6, 66, .inl F_X3_init.1)), (q7, .inr (3, [.ref f10])), (f10, .inr (2, [.ref w11, .int F_X3_init.2.1, .int F_X3_init.2.2])), (w11, .inl (cA6, 66, .inl F_X3_init.1)), (q13, .inr (4, [.int F_X4_init.1, .int F_X4_init.2.1, .int F_X4_init.2.2.1, .int F_X4_init.2.2.2.1, .int F_X4_init.2.2.2.2.1, .int F_X4_init.2.2.2.2.2])), (q16, .inr (1, [.int F_X1_init.1, .ref db19])), (db19, .inl (cA6, 24, .inl F_X1_init.2)), (q21, .inr (0, [.ref q16, .ref q1]))] := hD
  have hP9 := hP.sub (ws' := [(b, .inr (5, [.ref q1, .ref q7, .ref q13, .ref q16, .ref q21, .int (-1)])), (q1, .inr (3, [.ref f4])), (f4, .inr (2, [.ref w5, .int F_X3_init.2.1, .int F_X3_init.2.2])), (w5, .inl (cA6, 66, .inl F_X3_init.1)), (q7, .inr (3, [.ref f10])), (f10, .inr (2, [.ref w11, .int F_X3_init.2.1, .int F_X3_init.2.2])), (w11, .inl (cA6, 66, .inl F_X3_init.1)), (q13, .inr (4, [.int F_X4_init.1, .int F_X4_init.2.1, .int F_X4_init.2.2.1, .int F_X4_init.2.2.2.1, .int F_X4_init.2.2.2.2.1, .int F_X4_init.2.2.2.2.2])), (q16, .inr (1, [.int F_X1_init.1, .ref db19])), (db19, .inl (cA6, 24, .inl F_X1_init.2)), (q21, .inr (0, [.ref q16, .ref q1]))]) [0, 1, 2, 3, 4, 5, 6, 7, 8, 9, 10] rfl
  have hD9 := hD.sub (ws' := [(b, .inr (5, [.ref q1, .ref q7, .ref q13, .ref q16, .ref q21, .int (-1)])), (q1, .inr (3, [.ref f4])), (f4, .inr (2, [.ref w5, .int F_X3_init.2.1, .int F_X3_init.2.2])), (w5, .inl (cA6, 66, .inl F_X3_init.1)), (q7, .inr (3, [.ref f10])), (f10, .inr (2, [.ref w11, .int F_X3_init.2.1, .int F_X3_init.2.2])), (w11, .inl (cA6, 66, .inl F_X3_init.1)), (q13, .inr (4, [.int F_X4_init.1, .int F_X4_init.2.1, .int F_X4_init.2.2.1, .int F_X4_init.2.2.2.1, .int F_X4_init.2.2.2.2.1, .int F_X4_init.2.2.2.2.2])), (q16, .inr (1, [.int F_X1_init.1, .ref db19])), (db19, .inl (cA6, 24, .inl F_X1_init.2)), (q21, .inr (0, [.ref q16, .ref q1]))]) [0, 1, 2, 3, 4, 5, 6, 7, 8, 9, 10] (by decide) rfl
  have hK9 : va_K D vwCl [(cA6, .int)] s := hK
  refine W.widen (k := 10) (n := 174) (Nat.le_of_ble_eq_true rfl) (Nat.le_of_ble_eq_true rfl) ?_
  exact W.vret hx hb hr (fun t ht hW => ⟨⟨(q1, f4, w5, q7, f10, w11, q13, q16, db19, q21, cA6), rfl, trivial, ⟨⟨by rw [ht]; exact hP9, hD9⟩, va_K.moved hW.alike hK9⟩⟩, hS.F ht⟩) hS.2.2 dX5_init_72
