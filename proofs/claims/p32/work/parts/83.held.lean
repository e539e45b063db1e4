section BH
variable {p : Program} {l : Launch} {e : Env} {R : Room} {s : State} {m : MethodId} {args : Array Value} {below : List Frame} {meth : Method} {c : Code} {H H0 : Heap} {locs : List Loc} {cells slots : Nat} {Q : State → Prop} {pc : Nat} {ls : Array Slot} {rest st0 : List Value} {a : Array Value} {mc ms : Nat} {A0 A1 : Nat → Prop} {D : va_G} {As : List Value}
theorem bx_fh {S : Type} {post : Int32 → S → Prop} {B : S → State → Prop} (hS : va_S A0 H0 H locs) (hF : ∀ q, A1 q → A0 q)
    (hr : vx_Run p l e R s m args below meth c H locs cells slots mc ms (F0 m pc ls st0) rest (va_Qi post B A1 a) (fun _ _ _ => False) A1)
    (kk : ∀ (r : Int32) (u : S) (H1 : Heap) (locs1 : List Loc), post r u → va_S A0 H0 H1 locs1 → W p l e R s m args below meth c H1 locs1 (cells + mc) (slots + ms) Q (F0 m (pc + 3) ls (.int r :: rest))) : W p l e R s m args below meth c H locs cells slots Q (F0 m pc ls st0) := by
  intro T hT X
  rcases hr T hT X with ⟨v, st₀, t, T', L, h0, X', hL, e1, e2, ⟨⟨r, u, hv, hp, hB⟩, hF9⟩, st⟩ | ⟨q, st₀, t, T', L, E, ce, h0, X', hL, e1, e2, hE, -⟩
  · cases hv
    obtain ⟨k1, k2, k3⟩ := vx_keep h0 e1 hS (fun q _ h => hF q h) hF hL hF9
    obtain ⟨t2, a1, b1⟩ := kk r u T'.heap (locs ++ L) hp k3 T' rfl X'
    exact ⟨t2, st t2 a1, b1⟩
  · exact hE.elim
theorem bx_psh {b L : Nat} {xs : Nat → Int32} (hX : va_X b L xs s s.heap) (hK : va_K D vwCl [] s) (hG : bx_G s) (hZ : bx_Z (fun q => s.heap.size ≤ q) s s.heap) (hbl : b < s.heap.size) : PreS s s.heap (va_Pc As (bx_hs D b L xs s.heap.size)) As :=
  ⟨fun a U g mk q => by
    obtain ⟨q0, q1, qX, qK, qG, qZ, qb⟩ := q
    exact ⟨q0, q1, va_X.moved (u := U) (U := U.calling g mk a) (Vm.Alike.refl U.vm) qX, bx_kc qK, qG.calling, bx_zc qZ, qb⟩, fun U hU hW => ⟨rfl, by rw [hU], by rw [hU]; exact hX.moved hW.alike, va_K.moved hW.alike hK, hG.warm hW, by rw [hU]; exact hZ.moved hW.alike, hbl⟩⟩
end BH

set_option maxHeartbeats 4000000 in
set_option maxRecDepth 100000 in
theorem c_L_isHeld (l : Launch) (hl9 : l.stackTraces = false) (D : va_G) (b L : Nat) (xs : Nat → Int32) (sz : Nat) (hL : L ≤ 260) : vx_Met l yL_isHeld wsL_isHeld ({ frames := 12, cells := 4065, slots := 27292, locals := 241 }) (va_Pc [.ref b] (bx_hs D b L xs sz)) (va_Qi (fun (r : Int32) (_ : Unit) => r = 1) (fun _ _ => True) (fun q : Nat => sz ≤ q)) (fun _ _ _ => False) 4065 27292 (fun q : Nat => sz ≤ q) := by
  refine vx_ofWH (cc := cL_isHeld) (maxL := 2) (ret := (some .boolean)) (hh := [(0, 4, 5, 203), (0, 4, 8, 79), (0, 4, 11, 69)]) (by decide) rfl ?_
  intro p e s m args below meth c s₁ B hml hv
  obtain ⟨rfl, hsz, hX, hK, hG, hZ0, hbl⟩ := hv
  have hx := B.exec
  have hb := B.bytes
  have hr := B.returns
  have hts := atoms_spec (ws := wsL_isHeld) B.pre
  have hown : s.vm.findClass RL = some m.cls := findClass_of_methodNamed B.named
  have hlocks := B.notSynchronized
  subst hsz
  have hS : va_S (fun q : Nat => s.heap.size ≤ q) s.heap s.heap [] := va_S.rf
  have hl := lv_entry ([.ref b]) (n := 2) (Nat.le_of_ble_eq_true rfl)
  rw [lg_entry_eq]
  generalize (lg_sl ([.ref b]) ++ List.replicate (2 - (lg_sl ([.ref b])).length) Slot.unset).toArray = ls at hl ⊢
  have hl : lv_has ls 2 [(0, .ref b)] := hl
  refine lv_aload_n hx hb dL_isHeld_0 rfl (lv_at hl 0 rfl) ?_
  refine va_calli (va_runS (As := [.ref b]) (rest := []) ⟨hx, hb, hml, hown, hts⟩ (c_L_holds l hl9 D b L xs s.heap.size hL) (va_cwS 1 hts gL_isHeld_L_holds rfl rfl rfl (by decide +kernel) ⟨Nat.le_of_ble_eq_true rfl, Nat.le_of_ble_eq_true rfl⟩) (bx_psh hX hK hG hZ0 hbl) rfl rfl hl.1 rfl (lv_room (Nat.le_of_ble_eq_true rfl)) dL_isHeld_1 ⟨Nat.le_of_ble_eq_true rfl, Nat.le_of_ble_eq_true rfl⟩) hS (fun q _ h => h) (fun q h => h) (fun r u t H1 locs1 ht hvm hw hB hz1 hk1 hS1 => ?_)
  subst hw
  refine vx_ret ?_
  refine W.widen (k := 4065) (n := 27292) (by omega) (by omega) ?_
  exact W.zret (v := 1) hx hb hr rfl (fun t ht hW => ⟨⟨1, (), rfl, rfl, trivial⟩, hS1.F ht⟩) hS1.2.2 dL_isHeld_4
