section BFW
variable {p : Program} {l : Launch} {e : Env} {R : Room} {s : State} {m : MethodId} {args : Array Value} {below : List Frame} {meth : Method} {c : Code} {H : Heap} {locs : List Loc} {cells slots : Nat} {Q : State → Prop}
variable {pc : Nat} {ls : Array Slot} {rest st0 : List Value} {a : Array Value} {D : va_G} {A0 : Nat → Prop} {H0 : Heap} {mc ms : Nat}
theorem bx_fwi {S : Type} {post : Int32 → S → Prop} {wc wr ws : va_W} {wf wn : S → va_W} (hP : va_P D vwCl ws H) (hD : va_D A0 ws) (hS : va_S A0 H0 H locs) (hA : ∀ q, H0.size ≤ q → A0 q) (isC isR pm : List Nat) (hC : isC.map (fun i => ws[i]?) = wc.map some) (hR : isR.map (fun i => ws[i]?) = wr.map some) (hn : va_nd isR = true) (hdis : ∀ i ∈ isR, i ∉ isC)
    (hm : ∀ u, pm.map (fun i => (wr ++ wf u)[i]?) = (wn u).map some) (hpn : va_nd pm = true)
    (hr : vx_Run p l e R s m args below meth c H locs cells slots mc ms (F0 m pc ls st0) rest (va_Qi post (fun u t => bx_at D (wf u) (va_A wc H.size) t) (va_A wc H.size) a) (fun _ _ _ => False) (va_A wc H.size))
    (kk : ∀ (r : Int32) (u : S) (H1 : Heap) (locs1 : List Loc), post r u → va_P D vwCl (wn u) H1 → va_D A0 (wn u) → va_S A0 H0 H1 locs1 → W p l e R s m args below meth c H1 locs1 (cells + mc) (slots + ms) Q (F0 m (pc + 3) ls (.int r :: rest))) : W p l e R s m args below meth c H locs cells slots Q (F0 m pc ls st0) := by
  have hF9 := va_free (wc := wc) hD hS hA isC hC
  intro T hT X
  rcases hr T hT X with ⟨v, st₀, t, T', L, h0, X', hL, e1, e2, ⟨⟨r, u, hv, hp, hP1, hD1⟩, hF⟩, st⟩ | ⟨q, st₀, t, T', L, E, ce, h0, X', hL, e1, e2, hE, -⟩
  · cases hv
    obtain ⟨k1, k2, k3⟩ := vx_keep h0 e1 hS (fun q _ h => hF9 q h) hF9 hL hF
    rw [← e1] at hP1
    obtain ⟨hP2, hD2⟩ := va_join (wr := wr) (w1 := wf u) hP hD isC isR hC hR hn hdis k2 hF9 hP1 hD1
    have hD3 := hD2.sub (ws' := wn u) pm hpn (hm u)
    have hP3 : va_P D vwCl (wn u) T'.heap := hP2.sub pm (by
      have h9 := congrArg (List.filterMap id) (hm u)
      simpa [List.filterMap_map, Function.comp_def] using h9)
    obtain ⟨t2, a1, b1⟩ := kk r u T'.heap (locs ++ L) hp hP3 hD3 k3 T' rfl X'
    exact ⟨t2, st t2 a1, b1⟩
  · exact hE.elim
end BFW
