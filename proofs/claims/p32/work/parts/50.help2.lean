section BW
variable {p : Program} {l : Launch} {e : Env} {R : Room} {s : State} {m : MethodId} {args : Array Value} {below : List Frame} {meth : Method} {c : Code} {H : Heap} {locs : List Loc} {cells slots : Nat} {Q : State → Prop}
variable {pc : Nat} {ls : Array Slot} {rest st0 : List Value} {a : Array Value} {D : va_G} {A0 : Nat → Prop} {H0 : Heap} {mc ms : Nat}
theorem bx_kept {ws : va_W} {H1 : Heap} (hP : va_P D vwCl ws H) (hk : ∀ q : Nat, q < H.size → H1[q]? = H[q]?) : va_P D vwCl ws H1 := hP.kept (fun k q hq => hk q.1 (hP k q hq).lt)
theorem bx_xwi {S : Type} {k : Int32} {post : Int32 → S → Prop} {wc wr ws : va_W} {wf wn : S → va_W} (hP : va_P D vwCl ws H) (hD : va_D A0 ws) (hS : va_S A0 H0 H locs) (hA : ∀ q, H0.size ≤ q → A0 q) (isC isR pm : List Nat) (hC : isC.map (fun i => ws[i]?) = wc.map some) (hR : isR.map (fun i => ws[i]?) = wr.map some) (hn : va_nd isR = true) (hdis : ∀ i ∈ isR, i ∉ isC)
    (hm : ∀ u, pm.map (fun i => (wr ++ wf u)[i]?) = (wn u).map some) (hpn : va_nd pm = true)
    (hr : vx_Run p l e R s m args below meth c H locs cells slots mc ms (F0 m pc ls st0) rest (va_Qi post (fun u t => bx_at D (wf u) (va_A wc H.size) t) (va_A wc H.size) a) (bx_XC k) (va_A wc H.size))
    (kx : ∀ (E : String) (ce : Cell) (q9 : Addr) (H1 : Heap) (locs1 : List Loc), bx_E k E → va_P D vwCl ws H1 → va_D A0 ws → va_S A0 H0 H1 locs1 → H1[q9]? = some ce → ce.vm = .none → s.vm.findClass E = some ce.cls → vx_W p l e R s m args below meth c H1 locs1 (cells + mc) (slots + ms) Q (F0 m pc ls rest) q9)
    (kk : ∀ (r : Int32) (u : S) (H1 : Heap) (locs1 : List Loc), post r u → va_P D vwCl (wn u) H1 → va_D A0 (wn u) → va_S A0 H0 H1 locs1 → W p l e R s m args below meth c H1 locs1 (cells + mc) (slots + ms) Q (F0 m (pc + 3) ls (.int r :: rest))) : W p l e R s m args below meth c H locs cells slots Q (F0 m pc ls st0) := by
  have hF9 := va_free (wc := wc) hD hS hA isC hC
  intro T hT X
  rcases hr T hT X with ⟨v, st₀, t, T', L, h0, X', hL, e1, e2, ⟨⟨r, u, hv, hp, hP1, hD1⟩, hF⟩, st⟩ | ⟨q, st₀, t, T', L, E, ce, h0, X', hL, e1, e2, ⟨hE, hF⟩, hce, hcv, hcl, st⟩
  · cases hv
    obtain ⟨k1, k2, k3⟩ := vx_keep h0 e1 hS (fun q _ h => hF9 q h) hF9 hL hF
    rw [← e1] at hP1
    obtain ⟨hP2, hD2⟩ := va_join (wr := wr) (w1 := wf u) hP hD isC isR hC hR hn hdis k2 hF9 hP1 hD1
    have hD3 := hD2.sub (ws' := wn u) pm hpn (hm u)
    have hP3 : va_P D vwCl (wn u) T'.heap := hP2.sub pm (by
      have h9 := congrArg (List.filterMap id) (hm u)
      simpa [List.filterMap_map, Function.comp_def] using h9)
    obtain ⟨t2, a1, b1⟩ := kk r u T'.heap (locs ++ L) hp hP3 hD3 k3 T' rfl X'
    exact ⟨t2, st t2 a1, b1⟩
  · obtain ⟨hz, hk, hS1⟩ := vx_keep (A0 := A0) (A1 := fun _ => False) h0 e1 hS (fun _ _ z => z.elim) hF9 hL hF
    obtain ⟨t2, a1, b1⟩ := kx E ce q T'.heap (locs ++ L) hE (bx_kept hP (fun q hq => hk q hq (fun z => z))) hD hS1 (by rw [e1]; exact hce) hcv hcl T' rfl X'
    exact ⟨t2, Steps.trans st a1, b1⟩
theorem bx_xwv {S : Type} {k : Int32} {post : S → Prop} {wc wr ws : va_W} {wf wn : S → va_W} (hP : va_P D vwCl ws H) (hD : va_D A0 ws) (hS : va_S A0 H0 H locs) (hA : ∀ q, H0.size ≤ q → A0 q) (isC isR pm : List Nat) (hC : isC.map (fun i => ws[i]?) = wc.map some) (hR : isR.map (fun i => ws[i]?) = wr.map some) (hn : va_nd isR = true) (hdis : ∀ i ∈ isR, i ∉ isC)
    (hm : ∀ u, pm.map (fun i => (wr ++ wf u)[i]?) = (wn u).map some) (hpn : va_nd pm = true)
    (hr : vx_Run p l e R s m args below meth c H locs cells slots mc ms (F0 m pc ls st0) rest (va_Qv post (fun u t => bx_at D (wf u) (va_A wc H.size) t) (va_A wc H.size) a) (bx_XC k) (va_A wc H.size))
    (kx : ∀ (E : String) (ce : Cell) (q9 : Addr) (H1 : Heap) (locs1 : List Loc), bx_E k E → va_P D vwCl ws H1 → va_D A0 ws → va_S A0 H0 H1 locs1 → H1[q9]? = some ce → ce.vm = .none → s.vm.findClass E = some ce.cls → vx_W p l e R s m args below meth c H1 locs1 (cells + mc) (slots + ms) Q (F0 m pc ls rest) q9)
    (kk : ∀ (u : S) (H1 : Heap) (locs1 : List Loc), post u → va_P D vwCl (wn u) H1 → va_D A0 (wn u) → va_S A0 H0 H1 locs1 → W p l e R s m args below meth c H1 locs1 (cells + mc) (slots + ms) Q (F0 m (pc + 3) ls rest)) : W p l e R s m args below meth c H locs cells slots Q (F0 m pc ls st0) := by
  have hF9 := va_free (wc := wc) hD hS hA isC hC
  intro T hT X
  rcases hr T hT X with ⟨v, st₀, t, T', L, h0, X', hL, e1, e2, ⟨⟨u, hv, hp, hP1, hD1⟩, hF⟩, st⟩ | ⟨q, st₀, t, T', L, E, ce, h0, X', hL, e1, e2, ⟨hE, hF⟩, hce, hcv, hcl, st⟩
  · cases hv
    obtain ⟨k1, k2, k3⟩ := vx_keep h0 e1 hS (fun q _ h => hF9 q h) hF9 hL hF
    rw [← e1] at hP1
    obtain ⟨hP2, hD2⟩ := va_join (wr := wr) (w1 := wf u) hP hD isC isR hC hR hn hdis k2 hF9 hP1 hD1
    have hD3 := hD2.sub (ws' := wn u) pm hpn (hm u)
    have hP3 : va_P D vwCl (wn u) T'.heap := hP2.sub pm (by
      have h9 := congrArg (List.filterMap id) (hm u)
      simpa [List.filterMap_map, Function.comp_def] using h9)
    obtain ⟨t2, a1, b1⟩ := kk u T'.heap (locs ++ L) hp hP3 hD3 k3 T' rfl X'
    exact ⟨t2, st t2 a1, b1⟩
  · obtain ⟨hz, hk, hS1⟩ := vx_keep (A0 := A0) (A1 := fun _ => False) h0 e1 hS (fun _ _ z => z.elim) hF9 hL hF
    obtain ⟨t2, a1, b1⟩ := kx E ce q T'.heap (locs ++ L) hE (bx_kept hP (fun q hq => hk q hq (fun z => z))) hD hS1 (by rw [e1]; exact hce) hcv hcl T' rfl X'
    exact ⟨t2, Steps.trans st a1, b1⟩
theorem bx_xri {k : Int32} {post : Int32 → Prop} {ws : va_W} (hP : va_P D vwCl ws H) (hD : va_D A0 ws) (hS : va_S A0 H0 H locs)
    (hr : vx_Run p l e R s m args below meth c H locs cells slots mc ms (F0 m pc ls st0) rest (vp_Si post a) (bx_XC k) (fun _ => False))
    (kx : ∀ (E : String) (ce : Cell) (q9 : Addr) (H1 : Heap) (locs1 : List Loc), bx_E k E → va_P D vwCl ws H1 → va_D A0 ws → va_S A0 H0 H1 locs1 → H1[q9]? = some ce → ce.vm = .none → s.vm.findClass E = some ce.cls → vx_W p l e R s m args below meth c H1 locs1 (cells + mc) (slots + ms) Q (F0 m pc ls rest) q9)
    (kk : ∀ (r : Int32), post r → W p l e R s m args below meth c H locs cells slots Q (F0 m (pc + 3) ls (.int r :: rest))) : W p l e R s m args below meth c H locs cells slots Q (F0 m pc ls st0) := by
  intro T hT X
  rcases hr T hT X with ⟨v, st₀, t, T', L, h0, X', hL, e1, e2, ⟨r, hv, hp, hh⟩, st⟩ | ⟨q, st₀, t, T', L, E, ce, h0, X', hL, e1, e2, ⟨hE, hF⟩, hce, hcv, hcl, st⟩
  · cases hv
    obtain ⟨t2, a1, b1⟩ := kk r hp T' (by rw [e1, hh, h0]) (bx_back X X' (by rw [e1, hh, h0, hT]))
    exact ⟨t2, st t2 a1, b1⟩
  · obtain ⟨hz, hk, hS1⟩ := vx_keep (A0 := A0) (A1 := fun _ => False) h0 e1 hS (fun _ _ z => z.elim) (fun _ h => False.elim h) hL hF
    obtain ⟨t2, a1, b1⟩ := kx E ce q T'.heap (locs ++ L) hE (bx_kept hP (fun q hq => hk q hq (fun z => z))) hD hS1 (by rw [e1]; exact hce) hcv hcl T' rfl X'
    exact ⟨t2, Steps.trans st a1, b1⟩
theorem bx_fwi {S : Type} {post : Int32 → S → Prop} {wc wr ws : va_W} {wf wn : S → va_W} (hP : va_P D vwCl ws H) (hD : va_D A0 ws) (hS : va_S A0 H0 H locs) (hA : ∀ q, H0.size ≤ q → A0 q) (isC isR pm : List Nat) (hC : isC.map (fun i => ws[i]?) = wc.map some) (hR : isR.map (fun i => ws[i]?) = wr.map some) (hn : va_nd isR = true) (hdis : ∀ i ∈ isR, i ∉ isC)
    (hm : ∀ u, pm.map (fun i => (wr ++ wf u)[i]?) = (wn u).map some) (hpn : va_nd pm = true)
    (hr : vx_Run p l e R s m args below meth c H locs cells slots mc ms (F0 m pc ls st0) rest (va_Qi post (fun u t => bx_at D (wf u) (va_A wc H.size) t) (va_A wc H.size) a) (fun _ _ _ => False) (va_A wc H.size))
    (kk : ∀ (r : Int32) (u : S) (H1 : Heap) (locs1 : List Loc), post r u → va_P D vwCl (wn u) H1 → va_D A0 (wn u) → va_S A0 H0 H1 locs1 → W p l e R s m args below meth c H1 locs1 (cells + mc) (slots + ms) Q (F0 m (pc + 3) ls (.int r :: rest))) : W p l e R s m args below meth c H locs cells slots Q (F0 m pc ls st0) := by
  have hF9 := va_free (wc := wc) hD hS hA isC hC
  intro T hT X
  rcases hr T hT X with ⟨v, st₀, t, T', L, h0, X', hL, e1, e2, ⟨⟨r, u, hv, hp, hP1, hD1⟩, hF⟩, st⟩ | ⟨q, st₀, t, T', L, E, ce, h0, X', hL, e1, e2, hE, -⟩
  · cases hv
    obtain ⟨k1, k2, k3⟩ := vx_keep h0 e1 hS (fun q _ h => hF9 q h) hF9 hL hF
    rw [← e1] at hP1
    obtain ⟨hP2, hD2⟩ := va_join (wr := wr) (w1 := wf u) hP hD isC isR hC hR hn hdis k2 hF9 hP1 hD1
    have hD3 := hD2.sub (ws' := wn u) pm hpn (hm u)
    have hP3 : va_P D vwCl (wn u) T'.heap := hP2.sub pm (by
      have h9 := congrArg (List.filterMap id) (hm u)
      simpa [List.filterMap_map, Function.comp_def] using h9)
    obtain ⟨t2, a1, b1⟩ := kk r u T'.heap (locs ++ L) hp hP3 hD3 k3 T' rfl X'
    exact ⟨t2, st t2 a1, b1⟩
  · exact hE.elim
/-- the same rows where it is known that nothing is thrown -/
theorem bx_nwi {S : Type} {k : Int32} (hk9 : k = 0) {post : Int32 → S → Prop} {wc wr ws : va_W} {wf wn : S → va_W} (hP : va_P D vwCl ws H) (hD : va_D A0 ws) (hS : va_S A0 H0 H locs) (hA : ∀ q, H0.size ≤ q → A0 q) (isC isR pm : List Nat) (hC : isC.map (fun i => ws[i]?) = wc.map some) (hR : isR.map (fun i => ws[i]?) = wr.map some) (hn : va_nd isR = true) (hdis : ∀ i ∈ isR, i ∉ isC)
    (hm : ∀ u, pm.map (fun i => (wr ++ wf u)[i]?) = (wn u).map some) (hpn : va_nd pm = true)
    (hr : vx_Run p l e R s m args below meth c H locs cells slots mc ms (F0 m pc ls st0) rest (va_Qi post (fun u t => bx_at D (wf u) (va_A wc H.size) t) (va_A wc H.size) a) (bx_XC k) (va_A wc H.size))
    (kk : ∀ (r : Int32) (u : S) (H1 : Heap) (locs1 : List Loc), post r u → va_P D vwCl (wn u) H1 → va_D A0 (wn u) → va_S A0 H0 H1 locs1 → W p l e R s m args below meth c H1 locs1 (cells + mc) (slots + ms) Q (F0 m (pc + 3) ls (.int r :: rest))) : W p l e R s m args below meth c H locs cells slots Q (F0 m pc ls st0) :=
  bx_xwi hP hD hS hA isC isR pm hC hR hn hdis hm hpn hr (fun _ _ _ _ _ hE _ _ _ _ _ _ => absurd hk9 (bx_ne hE)) kk
theorem bx_nwv {S : Type} {k : Int32} (hk9 : k = 0) {post : S → Prop} {wc wr ws : va_W} {wf wn : S → va_W} (hP : va_P D vwCl ws H) (hD : va_D A0 ws) (hS : va_S A0 H0 H locs) (hA : ∀ q, H0.size ≤ q → A0 q) (isC isR pm : List Nat) (hC : isC.map (fun i => ws[i]?) = wc.map some) (hR : isR.map (fun i => ws[i]?) = wr.map some) (hn : va_nd isR = true) (hdis : ∀ i ∈ isR, i ∉ isC)
    (hm : ∀ u, pm.map (fun i => (wr ++ wf u)[i]?) = (wn u).map some) (hpn : va_nd pm = true)
    (hr : vx_Run p l e R s m args below meth c H locs cells slots mc ms (F0 m pc ls st0) rest (va_Qv post (fun u t => bx_at D (wf u) (va_A wc H.size) t) (va_A wc H.size) a) (bx_XC k) (va_A wc H.size))
    (kk : ∀ (u : S) (H1 : Heap) (locs1 : List Loc), post u → va_P D vwCl (wn u) H1 → va_D A0 (wn u) → va_S A0 H0 H1 locs1 → W p l e R s m args below meth c H1 locs1 (cells + mc) (slots + ms) Q (F0 m (pc + 3) ls rest)) : W p l e R s m args below meth c H locs cells slots Q (F0 m pc ls st0) :=
  bx_xwv hP hD hS hA isC isR pm hC hR hn hdis hm hpn hr (fun _ _ _ _ _ hE _ _ _ _ _ _ => absurd hk9 (bx_ne hE)) kk
theorem bx_nri {k : Int32} (hk9 : k = 0) {post : Int32 → Prop}
    (hr : vx_Run p l e R s m args below meth c H locs cells slots mc ms (F0 m pc ls st0) rest (vp_Si post a) (bx_XC k) (fun _ => False))
    (kk : ∀ (r : Int32), post r → W p l e R s m args below meth c H locs cells slots Q (F0 m (pc + 3) ls (.int r :: rest))) : W p l e R s m args below meth c H locs cells slots Q (F0 m pc ls st0) := by
  intro T hT X
  rcases hr T hT X with ⟨v, st₀, t, T', L, h0, X', hL, e1, e2, ⟨r, hv, hp, hh⟩, st⟩ | ⟨q, st₀, t, T', L, E, ce, h0, X', hL, e1, e2, ⟨hE, hF⟩, hce, hcv, hcl, st⟩
  · cases hv
    obtain ⟨t2, a1, b1⟩ := kk r hp T' (by rw [e1, hh, h0]) (bx_back X X' (by rw [e1, hh, h0, hT]))
    exact ⟨t2, st t2 a1, b1⟩
  · exact absurd hk9 (bx_ne hE)
end BW
theorem bx_zn {A : Nat → Prop} {s : State} {H : Heap} {locs : List Loc} (h : bx_Z A s s.heap) (hS : va_S A s.heap H locs) : bx_Z (fun _ => False) s H := (h.kept hS.2.1).narrow (fun _ z => z.elim)
/-- a writing method's start, of one that calls what may throw -/
def bx_pry (D : va_G) (tys : List (ClassId × FieldType)) (ws : va_W) (sz : Nat) : State → Prop := fun U => U.heap.size = sz ∧ va_P D vwCl ws U.heap ∧ va_K D vwCl tys U ∧ va_D (fun _ => True) ws ∧ bx_G U ∧ bx_Z (va_A ws sz) U U.heap
/-- the start of a method that reads the script -/
def bx_rs (b L : Nat) (xs : Nat → Int32) : State → Prop := fun U => va_X b L xs U U.heap ∧ bx_G U
section BU
variable {D : va_G} {tys : List (ClassId × FieldType)} {ws wc : va_W} {s : State} {H : Heap} {A : Nat → Prop} {As : List Value} {locs : List Loc}
theorem bx_blwy {av : List Value} {sz : Nat} : FrameBlind (va_Pc av (bx_pry D tys ws sz)) := fun a U g mk q => by
  obtain ⟨q0, q1, qP, qK, qD, qG, qZ⟩ := q
  exact ⟨q0, q1, qP, bx_kc qK, qD, qG.calling, bx_zc qZ⟩
theorem bx_psy (hK : va_K D vwCl tys s) (hG : bx_G s) (hZ0 : bx_Z A s s.heap) (hP : va_P D vwCl wc H) (hD : va_D A wc) (hDw : va_D A ws) (hS : va_S A s.heap H locs) (hA : ∀ q, s.heap.size ≤ q → A q) (isC : List Nat) (hC : isC.map (fun i => ws[i]?) = wc.map some) : PreS s H (va_Pc As (bx_pry D tys wc H.size)) As :=
  ⟨bx_blwy, fun U hU hW => ⟨rfl, by rw [hU], by rw [hU]; exact hP, va_K.moved hW.alike hK, hD.weaken (fun _ _ _ _ => trivial), hG.warm hW, by rw [hU]; exact ((hZ0.kept hS.2.1).narrow (va_free hDw hS hA isC hC)).moved hW.alike⟩⟩
theorem bx_pss {b L : Nat} {xs : Nat → Int32} (hX : va_X b L xs s H) (hG : bx_G s) : PreS s H (va_Pc As (bx_rs b L xs)) As :=
  ⟨fun a U g mk q => by
    obtain ⟨q0, qX, qG⟩ := q
    exact ⟨q0, va_X.moved (u := U) (U := U.calling g mk a) (Vm.Alike.refl U.vm) qX, qG.calling⟩, fun U hU hW => ⟨rfl, by rw [hU]; exact hX.moved hW.alike, hG.warm hW⟩⟩
end BU
def sl (z : Int32) : Prop := z = 0 ∨ z = 1
theorem sl_not {z : Int32} (h : sl z) : sl (1 - z) := by rcases h with rfl | rfl; exact Or.inr (by decide); exact Or.inl (by decide)
theorem sl_and (x : Int32) : sl (x &&& 1) := by
  obtain ⟨j, hj, e⟩ := pk_andE x (m := 1) 1 (by decide)
  rw [e]
  have : j = 0 ∨ j = 1 := by omega
  rcases this with rfl | rfl
  · exact Or.inl (by decide)
  · exact Or.inr (by decide)
theorem ix0 {z : Int32} (h : sl z) : vp_in (32 * z) 64 := by rcases h with rfl | rfl <;> exact vp_in_iff.mpr (by decide)
theorem ixk {z k : Int32} (h : sl z) (hk : vp_in k 32) : vp_in (32 * z + k) 64 := by
  obtain ⟨j, hj, rfl⟩ := vp_in_of hk (by decide)
  rcases h with rfl | rfl
  · rw [show (32 * 0 : Int32) = nI 0 from by decide, nI_add]; exact vp_in_nI (by omega) (by decide)
  · rw [show (32 * 1 : Int32) = nI 32 from by decide, nI_add]; exact vp_in_nI (by omega) (by decide)
theorem ix5 {z k : Int32} {j : Nat} (h : sl z) (hk : k = nI j) (hj : j < 27) : vp_in (32 * z + 5 + k) 64 := by
  subst hk
  rw [Int32.add_assoc, show (5 : Int32) = nI 5 from rfl, nI_add]
  exact ixk h (vp_in_nI (by omega) (by decide))
theorem iy0 {z : Int32} (h : sl z) : vp_in (4 * z) 8 := by rcases h with rfl | rfl <;> exact vp_in_iff.mpr (by decide)
theorem iyk {z k : Int32} (h : sl z) (hk : vp_in k 4) : vp_in (4 * z + k) 8 := by
  obtain ⟨j, hj, rfl⟩ := vp_in_of hk (by decide)
  rcases h with rfl | rfl
  · rw [show (4 * 0 : Int32) = nI 0 from by decide, nI_add]; exact vp_in_nI (by omega) (by decide)
  · rw [show (4 * 1 : Int32) = nI 4 from by decide, nI_add]; exact vp_in_nI (by omega) (by decide)
theorem y4_0 : vp_in 0 4 := vp_in_iff.mpr (by decide)
theorem y4_1 : vp_in 1 4 := vp_in_iff.mpr (by decide)
theorem y4_2 : vp_in 2 4 := vp_in_iff.mpr (by decide)
theorem y4_3 : vp_in 3 4 := vp_in_iff.mpr (by decide)
theorem v0 : vp_in 0 32 := vp_in_iff.mpr (by decide)
theorem v1 : vp_in 1 32 := vp_in_iff.mpr (by decide)
theorem v2 : vp_in 2 32 := vp_in_iff.mpr (by decide)
theorem v3 : vp_in 3 32 := vp_in_iff.mpr (by decide)
theorem v4 : vp_in 4 32 := vp_in_iff.mpr (by decide)
theorem rd_wr_ne {f : Nat → Int32} {i j v : Int32} (h : ¬ j.toNatClampNeg = i.toNatClampNeg) : rd (wr f i v) j = rd f j := by
  unfold rd wr upd
  exact if_neg h
theorem rd_wr_eq {f : Nat → Int32} {i j v : Int32} (h : j.toNatClampNeg = i.toNatClampNeg) : rd (wr f i v) j = v := by
  unfold rd wr upd
  exact if_pos h
theorem le_n {x : Int32} {n : Nat} {N : Int32} (hN : N.toInt = n + 1) (h : ¬ N ≤ x) : x.toNatClampNeg ≤ n := by
  have h4 : x.toInt < N.toInt := Int.lt_of_not_ge (fun z => h (Int32.le_iff_toInt_le.mpr z))
  show x.toInt.toNat ≤ n
  omega

