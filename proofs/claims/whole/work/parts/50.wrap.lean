abbrev wWr (cA cL : ClassId) (b s0 f w s2 f2 w2 t0 d db e0 ou : Nat) (σ : FS) (ρ : FS) (τ : TS) (δ : DS) (run : Int32) (ov : Nat → Int64) : va_W := [(b, .inr (5, [.ref s0, .ref s2, .ref t0, .ref d, .ref e0, .int run])), (s0, .inr (3, [.ref f])), (f, .inr (2, [.ref w, .int σ.2.1, .int σ.2.2])), (w, .inl (cA, 66, .inl σ.1)), (s2, .inr (3, [.ref f2])), (f2, .inr (2, [.ref w2, .int ρ.2.1, .int ρ.2.2])), (w2, .inl (cA, 66, .inl ρ.1)), (t0, .inr (4, [.int τ.1, .int τ.2.1, .int τ.2.2.1, .int τ.2.2.2.1, .int τ.2.2.2.2.1, .int τ.2.2.2.2.2])), (d, .inr (1, [.int δ.1, .ref db])), (db, .inl (cA, 24, .inl δ.2)), (e0, .inr (0, [.ref d, .ref s0])), (ou, .inl (cL, 1, .inr (.inl ov)))]
section BW
variable {p : Program} {l : Launch} {e : Env} {R : Room} {s : State} {m : MethodId} {args : Array Value} {below : List Frame} {meth : Method} {c : Code} {H : Heap} {locs : List Loc} {cells slots : Nat} {Q : State → Prop}
variable {pc : Nat} {ls : Array Slot} {rest st0 : List Value} {a : Array Value} {D : va_G} {A0 : Nat → Prop} {H0 : Heap} {mc ms : Nat}
theorem bx_kept {ws : va_W} {H1 : Heap} (hP : va_P D vwCl ws H) (hk : ∀ q : Nat, q < H.size → H1[q]? = H[q]?) : va_P D vwCl ws H1 := hP.kept (fun k q hq => hk q.1 (hP k q hq).lt)
theorem bx_xwi {S : Type} {k : Int32} {post : Int32 → S → Prop} {wc wr ws : va_W} {wf wn : S → va_W} (hP : va_P D vwCl ws H) (hD : va_D A0 ws) (hS : va_S A0 H0 H locs) (hA : ∀ q, H0.size ≤ q → A0 q) (isC isR pm : List Nat) (hC : isC.map (fun i => ws[i]?) = wc.map some) (hR : isR.map (fun i => ws[i]?) = wr.map some) (hn : va_nd isR = true) (hdis : ∀ i ∈ isR, i ∉ isC)
    (hm : ∀ u, pm.map (fun i => (wr ++ wf u)[i]?) = (wn u).map some) (hpn : va_nd pm = true)
    (hr : vx_Run p l e R s m args below meth c H locs cells slots mc ms (F0 m pc ls st0) rest (va_Qi post (fun u t => bx_at D (wf u) (va_A wc H.size) t) (va_A wc H.size) a) (bx_XC k) (va_A wc H.size))
    (kx : ∀ (E : String) (ce : Cell) (q9 : Addr) (H1 : Heap) (locs1 : List Loc), bx_E k E → va_P D vwCl ws H1 → va_D A0 ws → va_S A0 H0 H1 locs1 → H1[q9]? = some ce → ce.vm = .none → s.vm.findClass E = some ce.cls → vx_W p l e R s m args below meth c H1 locs1 (cells + mc) (slots + ms) Q (F0 m pc ls rest) q9)
    (kk : ∀ (r : Int32) (u : S) (H1 : Heap) (locs1 : List Loc), post r u → va_P D vwCl (wn u) H1 → va_D A0 (wn u) → va_S A0 H0 H1 locs1 → W p l e R s m args below meth c H1 locs1 (cells + mc) (slots + ms) Q (F0 m (pc + 3) ls (.int r :: rest))) : W p l e R s m args below meth c H locs cells slots Q (F0 m pc ls st0) := by
  have hF9 := va_free (wc := wc) hD hS hA isC hC
  intro T hT X
  rcases hr T hT X with ⟨v, st₀, t, T', L, h0, X', hL, e1, e2, ⟨⟨r, u, hv, hp, hP1, hD1⟩, hF⟩, st⟩ | ⟨q, st₀, t, T', L, E, ce, h0, X', hL, e1, e2, ⟨hE, hF⟩, hce, hcv, hcl, st⟩
  · cases hv
    obtain ⟨k1, k2, k3⟩ := vx_keep h0 e1 hS (fun q _ h => hF9 q h) hF9 hL hF
    rw [← e1] at hP1
    obtain ⟨hP2, hD2⟩ := va_join (wr := wr) (w1 := wf u) hP hD isC isR hC hR hn hdis k2 hF9 hP1 hD1
    have hD3 := hD2.sub (ws' := wn u) pm hpn (hm u)
    have hP3 : va_P D vwCl (wn u) T'.heap := hP2.sub pm (by
      have h9 := congrArg (List.filterMap id) (hm u)
      simpa [List.filterMap_map, Function.comp_def] using h9)
    obtain ⟨t2, a1, b1⟩ := kk r u T'.heap (locs ++ L) hp hP3 hD3 k3 T' rfl X'
    exact ⟨t2, st t2 a1, b1⟩
  · obtain ⟨hz, hk, hS1⟩ := vx_keep (A0 := A0) (A1 := fun _ => False) h0 e1 hS (fun _ _ z => z.elim) hF9 hL hF
    obtain ⟨t2, a1, b1⟩ := kx E ce q T'.heap (locs ++ L) hE (bx_kept hP (fun q hq => hk q hq (fun z => z))) hD hS1 (by rw [e1]; exact hce) hcv hcl T' rfl X'
    exact ⟨t2, Steps.trans st a1, b1⟩
theorem bx_xwv {S : Type} {k : Int32} {post : S → Prop} {wc wr ws : va_W} {wf wn : S → va_W} (hP : va_P D vwCl ws H) (hD : va_D A0 ws) (hS : va_S A0 H0 H locs) (hA : ∀ q, H0.size ≤ q → A0 q) (isC isR pm : List Nat) (hC : isC.map (fun i => ws[i]?) = wc.map some) (hR : isR.map (fun i => ws[i]?) = wr.map some) (hn : va_nd isR = true) (hdis : ∀ i ∈ isR, i ∉ isC)
    (hm : ∀ u, pm.map (fun i => (wr ++ wf u)[i]?) = (wn u).map some) (hpn : va_nd pm = true)
    (hr : vx_Run p l e R s m args below meth c H locs cells slots mc ms (F0 m pc ls st0) rest (va_Qv post (fun u t => bx_at D (wf u) (va_A wc H.size) t) (va_A wc H.size) a) (bx_XC k) (va_A wc H.size))
    (kx : ∀ (E : String) (ce : Cell) (q9 : Addr) (H1 : Heap) (locs1 : List Loc), bx_E k E → va_P D vwCl ws H1 → va_D A0 ws → va_S A0 H0 H1 locs1 → H1[q9]? = some ce → ce.vm = .none → s.vm.findClass E = some ce.cls → vx_W p l e R s m args below meth c H1 locs1 (cells + mc) (slots + ms) Q (F0 m pc ls rest) q9)
    (kk : ∀ (u : S) (H1 : Heap) (locs1 : List Loc), post u → va_P D vwCl (wn u) H1 → va_D A0 (wn u) → va_S A0 H0 H1 locs1 → W p l e R s m args below meth c H1 locs1 (cells + mc) (slots + ms) Q (F0 m (pc + 3) ls rest)) : W p l e R s m args below meth c H locs cells slots Q (F0 m pc ls st0) := by
  have hF9 := va_free (wc := wc) hD hS hA isC hC
  intro T hT X
  rcases hr T hT X with ⟨v, st₀, t, T', L, h0, X', hL, e1, e2, ⟨⟨u, hv, hp, hP1, hD1⟩, hF⟩, st⟩ | ⟨q, st₀, t, T', L, E, ce, h0, X', hL, e1, e2, ⟨hE, hF⟩, hce, hcv, hcl, st⟩
  · cases hv
    obtain ⟨k1, k2, k3⟩ := vx_keep h0 e1 hS (fun q _ h => hF9 q h) hF9 hL hF
    rw [← e1] at hP1
    obtain ⟨hP2, hD2⟩ := va_join (wr := wr) (w1 := wf u) hP hD isC isR hC hR hn hdis k2 hF9 hP1 hD1
    have hD3 := hD2.sub (ws' := wn u) pm hpn (hm u)
    have hP3 : va_P D vwCl (wn u) T'.heap := hP2.sub pm (by
      have h9 := congrArg (List.filterMap id) (hm u)
      simpa [List.filterMap_map, Function.comp_def] using h9)
    obtain ⟨t2, a1, b1⟩ := kk u T'.heap (locs ++ L) hp hP3 hD3 k3 T' rfl X'
    exact ⟨t2, st t2 a1, b1⟩
  · obtain ⟨hz, hk, hS1⟩ := vx_keep (A0 := A0) (A1 := fun _ => False) h0 e1 hS (fun _ _ z => z.elim) hF9 hL hF
    obtain ⟨t2, a1, b1⟩ := kx E ce q T'.heap (locs ++ L) hE (bx_kept hP (fun q hq => hk q hq (fun z => z))) hD hS1 (by rw [e1]; exact hce) hcv hcl T' rfl X'
    exact ⟨t2, Steps.trans st a1, b1⟩
theorem bx_xri {k : Int32} {post : Int32 → Prop} {ws : va_W} (hP : va_P D vwCl ws H) (hD : va_D A0 ws) (hS : va_S A0 H0 H locs)
    (hr : vx_Run p l e R s m args below meth c H locs cells slots mc ms (F0 m pc ls st0) rest (vp_Si post a) (bx_XC k) (fun _ => False))
    (kx : ∀ (E : String) (ce : Cell) (q9 : Addr) (H1 : Heap) (locs1 : List Loc), bx_E k E → va_P D vwCl ws H1 → va_D A0 ws → va_S A0 H0 H1 locs1 → H1[q9]? = some ce → ce.vm = .none → s.vm.findClass E = some ce.cls → vx_W p l e R s m args below meth c H1 locs1 (cells + mc) (slots + ms) Q (F0 m pc ls rest) q9)
    (kk : ∀ (r : Int32), post r → W p l e R s m args below meth c H locs cells slots Q (F0 m (pc + 3) ls (.int r :: rest))) : W p l e R s m args below meth c H locs cells slots Q (F0 m pc ls st0) := by
  intro T hT X
  rcases hr T hT X with ⟨v, st₀, t, T', L, h0, X', hL, e1, e2, ⟨r, hv, hp, hh⟩, st⟩ | ⟨q, st₀, t, T', L, E, ce, h0, X', hL, e1, e2, ⟨hE, hF⟩, hce, hcv, hcl, st⟩
  · cases hv
    obtain ⟨t2, a1, b1⟩ := kk r hp T' (by rw [e1, hh, h0]) (bx_back X X' (by rw [e1, hh, h0, hT]))
    exact ⟨t2, st t2 a1, b1⟩
  · obtain ⟨hz, hk, hS1⟩ := vx_keep (A0 := A0) (A1 := fun _ => False) h0 e1 hS (fun _ _ z => z.elim) (fun _ h => False.elim h) hL hF
    obtain ⟨t2, a1, b1⟩ := kx E ce q T'.heap (locs ++ L) hE (bx_kept hP (fun q hq => hk q hq (fun z => z))) hD hS1 (by rw [e1]; exact hce) hcv hcl T' rfl X'
    exact ⟨t2, Steps.trans st a1, b1⟩
end BW
/-! which codes a method throws with -/
theorem rW (a b c : Int32) : F_X5_requireWithin a b c = 0 ∨ F_X5_requireWithin a b c = 1 := by
  unfold F_X5_requireWithin
  repeat' split
  all_goals first | exact Or.inl rfl | exact Or.inr rfl
theorem rW2 (a b c : Int32) : ¬ F_X5_requireWithin a b c = 2 := by rcases rW a b c with h | h <;> rw [h] <;> decide
theorem rW3 (a b c : Int32) : ¬ F_X5_requireWithin a b c = 3 := by rcases rW a b c with h | h <;> rw [h] <;> decide
theorem rO1 (a : Int32) : ¬ F_X5_requireOn a = 1 := by unfold F_X5_requireOn; split <;> decide
theorem rO3 (a : Int32) : ¬ F_X5_requireOn a = 3 := by unfold F_X5_requireOn; split <;> decide
theorem rT3 (a : TS) (b : Int32) : ¬ F_X5_requireToCome a b = 3 := by unfold F_X5_requireToCome; split <;> decide
theorem rF3 (a : FS) (b : TS) (c d : Int32) : ¬ F_X5_requireFinishable a b c d = 3 := by
  unfold F_X5_requireFinishable
  repeat' split
  all_goals first | exact rW3 _ _ _ | decide
theorem rS3 (a : FS) (b : Int32) : ¬ F_X5_requireStartable a b = 3 := by
  unfold F_X5_requireStartable
  repeat' split
  all_goals first | exact rW3 _ _ _ | decide
theorem n01 : ¬ (0 : Int32) = 1 := by decide
theorem n02 : ¬ (0 : Int32) = 2 := by decide
theorem n03 : ¬ (0 : Int32) = 3 := by decide
theorem n12 : ¬ (1 : Int32) = 2 := by decide
theorem n13 : ¬ (1 : Int32) = 3 := by decide
theorem n21 : ¬ (2 : Int32) = 1 := by decide
theorem n23 : ¬ (2 : Int32) = 3 := by decide
theorem n32 : ¬ (3 : Int32) = 2 := by decide
theorem nc1_switchOn (σ : FS) (run : Int32) : ¬ (F_X5_switchOn σ run).1 = 1 := by
  unfold F_X5_switchOn
  repeat' split
  all_goals first | exact n01 | exact rW2 _ _ _ | exact n21 | exact rO1 _
theorem nc3_switchOn (σ : FS) (run : Int32) : ¬ (F_X5_switchOn σ run).1 = 3 := by
  unfold F_X5_switchOn
  repeat' split
  all_goals first | exact n03 | exact rW3 _ _ _ | exact n23 | exact n13 | exact rO3 _ | exact rT3 _ _ | exact rF3 _ _ _ _ | exact rS3 _ _
theorem nc1_switchOff (τ : TS) (run : Int32) : ¬ (F_X5_switchOff τ run).1 = 1 := by
  unfold F_X5_switchOff
  repeat' split
  all_goals first | exact n01 | exact rW2 _ _ _ | exact n21 | exact rO1 _
theorem nc3_switchOff (τ : TS) (run : Int32) : ¬ (F_X5_switchOff τ run).1 = 3 := by
  unfold F_X5_switchOff
  repeat' split
  all_goals first | exact n03 | exact rW3 _ _ _ | exact n23 | exact n13 | exact rO3 _ | exact rT3 _ _ | exact rF3 _ _ _ _ | exact rS3 _ _
theorem nc2_failAfter (σ : FS) (p0 : Int32) : ¬ (F_X5_failAfter σ p0).1 = 2 := by
  unfold F_X5_failAfter
  repeat' split
  all_goals first | exact n02 | exact rW2 _ _ _ | exact n12 | exact n32
theorem nc3_failAfter (σ : FS) (p0 : Int32) : ¬ (F_X5_failAfter σ p0).1 = 3 := by
  unfold F_X5_failAfter
  repeat' split
  all_goals first | exact n03 | exact rW3 _ _ _ | exact n23 | exact n13 | exact rO3 _ | exact rT3 _ _ | exact rF3 _ _ _ _ | exact rS3 _ _
theorem nc3_offer (σ : FS) (τ : TS) (run : Int32) (p0 : Int32) (p1 : Int32) (p2 : Int32) (p3 : Int32) : ¬ (F_X5_offer σ τ run p0 p1 p2 p3).1 = 3 := by
  unfold F_X5_offer
  repeat' split
  all_goals first | exact n03 | exact rW3 _ _ _ | exact n23 | exact n13 | exact rO3 _ | exact rT3 _ _ | exact rF3 _ _ _ _ | exact rS3 _ _
theorem nc3_put (σ : FS) (τ : TS) (run : Int32) (p0 : Int32) : ¬ (F_X5_put σ τ run p0).1 = 3 := by
  unfold F_X5_put
  repeat' split
  all_goals first | exact n03 | exact rW3 _ _ _ | exact n23 | exact n13 | exact rO3 _ | exact rT3 _ _ | exact rF3 _ _ _ _ | exact rS3 _ _
theorem nc3_copy (σ : FS) (τ : TS) (run : Int32) (p0 : Int32) (p1 : Int32) : ¬ (F_X5_copy σ τ run p0 p1).1 = 3 := by
  unfold F_X5_copy F_X5_copyGo
  repeat' split
  all_goals first | exact n03 | exact rW3 _ _ _ | exact n23 | exact n13 | exact rO3 _ | exact rT3 _ _ | exact rF3 _ _ _ _ | exact rS3 _ _
theorem nc3_finish (σ : FS) (τ : TS) (run : Int32) (p0 : Int32) : ¬ (F_X5_finish σ τ run p0).1 = 3 := by
  unfold F_X5_finish
  repeat' split
  all_goals first | exact n03 | exact rW3 _ _ _ | exact n23 | exact n13 | exact rO3 _ | exact rT3 _ _ | exact rF3 _ _ _ _ | exact rS3 _ _
theorem nc1_confirm (σ : FS) (τ : TS) (run : Int32) : ¬ (F_X5_confirm σ τ run).1 = 1 := by
  unfold F_X5_confirm
  repeat' split
  all_goals first | exact n01 | exact rW2 _ _ _ | exact n21 | exact rO1 _
theorem nc3_confirm (σ : FS) (τ : TS) (run : Int32) : ¬ (F_X5_confirm σ τ run).1 = 3 := by
  unfold F_X5_confirm
  repeat' split
  all_goals first | exact n03 | exact rW3 _ _ _ | exact n23 | exact n13 | exact rO3 _ | exact rT3 _ _ | exact rF3 _ _ _ _ | exact rS3 _ _
theorem nc3_draft (δ : DS) (p0 : Int32) : ¬ (F_X5_draft δ p0).1 = 3 := by
  unfold F_X5_draft
  repeat' split
  all_goals first | exact n03 | exact rW3 _ _ _ | exact n23 | exact n13 | exact rO3 _ | exact rT3 _ _ | exact rF3 _ _ _ _ | exact rS3 _ _
theorem nc3_deltaPieces (σ : FS) (δ : DS) (p0 : Int32) : ¬ (F_X5_deltaPieces σ δ p0).1 = 3 := by
  unfold F_X5_deltaPieces
  repeat' split
  all_goals first | exact n03 | exact rW3 _ _ _ | exact n23 | exact n13 | exact rO3 _ | exact rT3 _ _ | exact rF3 _ _ _ _ | exact rS3 _ _
theorem nc2_isStartable (σ : FS) (p0 : Int32) : ¬ (F_X5_isStartable σ p0).1 = 2 := by
  unfold F_X5_isStartable
  repeat' split
  all_goals first | exact n02 | exact rW2 _ _ _ | exact n12 | exact n32
theorem nc3_isStartable (σ : FS) (p0 : Int32) : ¬ (F_X5_isStartable σ p0).1 = 3 := by
  unfold F_X5_isStartable
  repeat' split
  all_goals first | exact n03 | exact rW3 _ _ _ | exact n23 | exact n13 | exact rO3 _ | exact rT3 _ _ | exact rF3 _ _ _ _ | exact rS3 _ _
theorem nc2_version (σ : FS) (p0 : Int32) : ¬ (F_X5_version σ p0).1 = 2 := by
  unfold F_X5_version
  repeat' split
  all_goals first | exact n02 | exact rW2 _ _ _ | exact n12 | exact n32
theorem nc3_version (σ : FS) (p0 : Int32) : ¬ (F_X5_version σ p0).1 = 3 := by
  unfold F_X5_version
  repeat' split
  all_goals first | exact n03 | exact rW3 _ _ _ | exact n23 | exact n13 | exact rO3 _ | exact rT3 _ _ | exact rF3 _ _ _ _ | exact rS3 _ _
theorem nc2_imageByte (σ : FS) (p0 : Int32) (p1 : Int32) : ¬ (F_X5_imageByte σ p0 p1).1 = 2 := by
  unfold F_X5_imageByte
  repeat' split
  all_goals first | exact n02 | exact rW2 _ _ _ | exact n12 | exact n32
theorem nc2_isValid (σ : FS) (p0 : Int32) : ¬ (F_X5_isValid σ p0).1 = 2 := by
  unfold F_X5_isValid
  repeat' split
  all_goals first | exact n02 | exact rW2 _ _ _ | exact n12 | exact n32
theorem nc3_isValid (σ : FS) (p0 : Int32) : ¬ (F_X5_isValid σ p0).1 = 3 := by
  unfold F_X5_isValid
  repeat' split
  all_goals first | exact n03 | exact rW3 _ _ _ | exact n23 | exact n13 | exact rO3 _ | exact rT3 _ _ | exact rF3 _ _ _ _ | exact rS3 _ _
theorem nc3_safeFinish (σ : FS) (ρ : FS) (τ : TS) (run : Int32) (p0 : Int32) : ¬ (F_X5_safeFinish σ ρ τ run p0).1 = 3 := by
  unfold F_X5_safeFinish
  repeat' split
  all_goals first | exact n03 | exact rW3 _ _ _ | exact n23 | exact n13 | exact rO3 _ | exact rT3 _ _ | exact rF3 _ _ _ _ | exact rS3 _ _
def F_L_switchOn (σ : FS) (run : Int32) (ov : Nat → Int64) : Int32 × (FS) × (Int32) × (Nat → Int64) := if (F_X5_switchOn σ run).1 = 0 then (0, (F_X5_switchOn σ run).2.2.1, (F_X5_switchOn σ run).2.2.2, (vp_updL ov 0 (F_X5_switchOn σ run).2.1.toInt64)) else (1, σ, run, ov)
set_option maxHeartbeats 4000000 in
set_option maxRecDepth 100000 in
theorem c_L_switchOn (l : Launch) (hl9 : l.stackTraces = false) (D : va_G) (cA cL : ClassId) (b s0 f w s2 f2 w2 t0 d db e0 ou : Nat) (sz : Nat) (σ : FS) (ρ : FS) (τ : TS) (δ : DS) (run : Int32) (ov : Nat → Int64) : vx_Met l yL_switchOn wsL_switchOn ({ frames := 7, cells := 1, slots := 6, locals := 157 }) (va_Pc [.ref b, .ref ou] (bx_prx D [(cA, .int), (cL, .long)] (wWr cA cL b s0 f w s2 f2 w2 t0 d db e0 ou σ ρ τ δ run ov) sz)) (va_Qi (fun (r : Int32) (u : (FS) × (Int32) × (Nat → Int64)) => (r, u) = F_L_switchOn σ run ov) (fun u t => bx_at D (wWr cA cL b s0 f w s2 f2 w2 t0 d db e0 ou u.1 ρ τ δ u.2.1 u.2.2) (va_A (wWr cA cL b s0 f w s2 f2 w2 t0 d db e0 ou σ ρ τ δ run ov) sz) t) (va_A (wWr cA cL b s0 f w s2 f2 w2 t0 d db e0 ou σ ρ τ δ run ov) sz)) (fun _ _ _ => False) 1 6 (va_A (wWr cA cL b s0 f w s2 f2 w2 t0 d db e0 ou σ ρ τ δ run ov) sz) := by
  refine vx_ofWH (cc := cL_switchOn) (maxL := 3) (ret := (some .int)) (hh := [(0, 8, 11, 13)]) (by decide) rfl ?_
  intro p e s m args below meth c s₁ B hml hv
  obtain ⟨rfl, hsz, hP, hK, hD0, hG, hZ⟩ := hv
  have hx := B.exec
  have hb := B.bytes
  have hr := B.returns
  have hts := atoms_spec (ws := wsL_switchOn) B.pre
  have hown : s.vm.findClass RL = some m.cls := findClass_of_methodNamed B.named
  have hlocks := B.notSynchronized
  have htab := vx_table (x := yL_switchOn) B (hts _ List.mem_cons_self)
  subst hsz
  have hD := hD0.self (sz := s.heap.size)
  generalize hAe : va_A (wWr cA cL b s0 f w s2 f2 w2 t0 d db e0 ou σ ρ τ δ run ov) s.heap.size = A at hD ⊢
  have hA : ∀ q : Nat, s.heap.size ≤ q → A q := fun q h => by rw [← hAe]; exact Or.inr h
  have hS : va_S A s.heap s.heap [] := va_S.rf
  have hD : va_D A [(b, .inr (5, [.ref s0, .ref s2, .ref t0, .ref d, .ref e0, .int run])), (s0, .inr (3, [.ref f])), (f, .inr (2, [.ref w, .int σ.2.1, .int σ.2.2])), (w, .inl (cA, 66, .inl σ.1)), (s2, .inr (3, [.ref f2])), (f2, .inr (2, [.ref w2, .int ρ.2.1, .int ρ.2.2])), (w2, .inl (cA, 66, .inl ρ.1)), (t0, .inr (4, [.int τ.1, .int τ.2.1, .int τ.2.2.1, .int τ.2.2.2.1, .int τ.2.2.2.2.1, .int τ.2.2.2.2.2])), (d, .inr (1, [.int δ.1, .ref db])), (db, .inl (cA, 24, .inl δ.2)), (e0, .inr (0, [.ref d, .ref s0])), (ou, .inl (cL, 1, .inr (.inl ov)))] := hD
  have hP : va_P D vwCl [(b, .inr (5, [.ref s0, .ref s2, .ref t0, .ref d, .ref e0, .int run])), (s0, .inr (3, [.ref f])), (f, .inr (2, [.ref w, .int σ.2.1, .int σ.2.2])), (w, .inl (cA, 66, .inl σ.1)), (s2, .inr (3, [.ref f2])), (f2, .inr (2, [.ref w2, .int ρ.2.1, .int ρ.2.2])), (w2, .inl (cA, 66, .inl ρ.1)), (t0, .inr (4, [.int τ.1, .int τ.2.1, .int τ.2.2.1, .int τ.2.2.2.1, .int τ.2.2.2.2.1, .int τ.2.2.2.2.2])), (d, .inr (1, [.int δ.1, .ref db])), (db, .inl (cA, 24, .inl δ.2)), (e0, .inr (0, [.ref d, .ref s0])), (ou, .inl (cL, 1, .inr (.inl ov)))] s.heap := hP
  have hl := lv_entry ([.ref b, .ref ou]) (n := 3) (Nat.le_of_ble_eq_true rfl)
  rw [lg_entry_eq]
  generalize (lg_sl ([.ref b, .ref ou]) ++ List.replicate (3 - (lg_sl ([.ref b, .ref ou])).length) Slot.unset).toArray = ls at hl ⊢
  have hl : lv_has ls 3 [(0, .ref b), (1, .ref ou)] := hl
  refine lv_aload_n hx hb dL_switchOn_0 rfl (lv_at hl 1 rfl) ?_
  refine lv_iconst (v := 0) hx hb dL_switchOn_1 (by decide) ?_
  refine lv_aload_n hx hb dL_switchOn_2 rfl (lv_at hl 0 rfl) ?_
  refine bx_xwi (wc := [(b, .inr (5, [.ref s0, .ref s2, .ref t0, .ref d, .ref e0, .int run])), (s0, .inr (3, [.ref f])), (f, .inr (2, [.ref w, .int σ.2.1, .int σ.2.2])), (w, .inl (cA, 66, .inl σ.1)), (s2, .inr (3, [.ref f2])), (f2, .inr (2, [.ref w2, .int ρ.2.1, .int ρ.2.2])), (w2, .inl (cA, 66, .inl ρ.1)), (t0, .inr (4, [.int τ.1, .int τ.2.1, .int τ.2.2.1, .int τ.2.2.2.1, .int τ.2.2.2.2.1, .int τ.2.2.2.2.2])), (d, .inr (1, [.int δ.1, .ref db])), (db, .inl (cA, 24, .inl δ.2)), (e0, .inr (0, [.ref d, .ref s0]))]) (wr := [(ou, .inl (cL, 1, .inr (.inl ov)))]) (wf := fun (u : (FS) × (Int32)) => [(b, .inr (5, [.ref s0, .ref s2, .ref t0, .ref d, .ref e0, .int u.2])), (s0, .inr (3, [.ref f])), (f, .inr (2, [.ref w, .int u.1.2.1, .int u.1.2.2])), (w, .inl (cA, 66, .inl u.1.1)), (s2, .inr (3, [.ref f2])), (f2, .inr (2, [.ref w2, .int ρ.2.1, .int ρ.2.2])), (w2, .inl (cA, 66, .inl ρ.1)), (t0, .inr (4, [.int τ.1, .int τ.2.1, .int τ.2.2.1, .int τ.2.2.2.1, .int τ.2.2.2.2.1, .int τ.2.2.2.2.2])), (d, .inr (1, [.int δ.1, .ref db])), (db, .inl (cA, 24, .inl δ.2)), (e0, .inr (0, [.ref d, .ref s0]))]) (wn := fun (u : (FS) × (Int32)) => [(b, .inr (5, [.ref s0, .ref s2, .ref t0, .ref d, .ref e0, .int u.2])), (s0, .inr (3, [.ref f])), (f, .inr (2, [.ref w, .int u.1.2.1, .int u.1.2.2])), (w, .inl (cA, 66, .inl u.1.1)), (s2, .inr (3, [.ref f2])), (f2, .inr (2, [.ref w2, .int ρ.2.1, .int ρ.2.2])), (w2, .inl (cA, 66, .inl ρ.1)), (t0, .inr (4, [.int τ.1, .int τ.2.1, .int τ.2.2.1, .int τ.2.2.2.1, .int τ.2.2.2.2.1, .int τ.2.2.2.2.2])), (d, .inr (1, [.int δ.1, .ref db])), (db, .inl (cA, 24, .inl δ.2)), (e0, .inr (0, [.ref d, .ref s0])), (ou, .inl (cL, 1, .inr (.inl ov)))]) hP hD hS hA [0, 1, 2, 3, 4, 5, 6, 7, 8, 9, 10] [11] [1, 2, 3, 4, 5, 6, 7, 8, 9, 10, 11, 0] rfl rfl (by decide) (by decide) (fun u => rfl) (by decide) (vx_runV (As := []) (rest := [.int 0, .ref ou]) ⟨hx, hb, hml, hown, hts⟩ (c_X5_switchOn l hl9 D cA b s0 f w s2 f2 w2 t0 d db e0 s.heap.size σ ρ τ δ run) (cwV 0 hts gL_switchOn_X5_switchOn rfl rfl rfl (by decide +kernel) ⟨Nat.le_of_ble_eq_true rfl, Nat.le_of_ble_eq_true rfl⟩) (bx_pvx (ci := 5) (q0 := 0) (hK.sub (tys' := [(cA, .int)]) [0] rfl) hG hZ (hP.sub (ws' := [(b, .inr (5, [.ref s0, .ref s2, .ref t0, .ref d, .ref e0, .int run])), (s0, .inr (3, [.ref f])), (f, .inr (2, [.ref w, .int σ.2.1, .int σ.2.2])), (w, .inl (cA, 66, .inl σ.1)), (s2, .inr (3, [.ref f2])), (f2, .inr (2, [.ref w2, .int ρ.2.1, .int ρ.2.2])), (w2, .inl (cA, 66, .inl ρ.1)), (t0, .inr (4, [.int τ.1, .int τ.2.1, .int τ.2.2.1, .int τ.2.2.2.1, .int τ.2.2.2.2.1, .int τ.2.2.2.2.2])), (d, .inr (1, [.int δ.1, .ref db])), (db, .inl (cA, 24, .inl δ.2)), (e0, .inr (0, [.ref d, .ref s0]))]) [0, 1, 2, 3, 4, 5, 6, 7, 8, 9, 10] rfl) (hD.sub (ws' := [(b, .inr (5, [.ref s0, .ref s2, .ref t0, .ref d, .ref e0, .int run])), (s0, .inr (3, [.ref f])), (f, .inr (2, [.ref w, .int σ.2.1, .int σ.2.2])), (w, .inl (cA, 66, .inl σ.1)), (s2, .inr (3, [.ref f2])), (f2, .inr (2, [.ref w2, .int ρ.2.1, .int ρ.2.2])), (w2, .inl (cA, 66, .inl ρ.1)), (t0, .inr (4, [.int τ.1, .int τ.2.1, .int τ.2.2.1, .int τ.2.2.2.1, .int τ.2.2.2.2.1, .int τ.2.2.2.2.2])), (d, .inr (1, [.int δ.1, .ref db])), (db, .inl (cA, 24, .inl δ.2)), (e0, .inr (0, [.ref d, .ref s0]))]) [0, 1, 2, 3, 4, 5, 6, 7, 8, 9, 10] (by decide) rfl) rfl rfl) rfl rfl hl.1 rfl (lv_room (Nat.le_of_ble_eq_true rfl)) dL_switchOn_3 ⟨Nat.le_of_ble_eq_true rfl, Nat.le_of_ble_eq_true rfl⟩) (fun E ce q9 H1 locs hE hP hD hS hce hcv hcl => ?_) (fun r u H locs h hP hD hS => ?_)
  · skip
    rcases hE with ⟨hk, rfl⟩ | ⟨hk, rfl⟩ | ⟨hk, rfl⟩
    · skip
      exact absurd hk (nc1_switchOn _ _)
    · skip
      refine vx_catch (name := bx_ise) (E := bx_ise) hown [] ⟨0, 8, 11, 13⟩ [] htab (fun z hz => nomatch hz) (by decide) (by decide) (hts (.classLink RL 13 bx_ise) (by decide +kernel)) (va_Nw.use rfl (hG.1 (.castable bx_ise bx_ise) (by decide +kernel))) hce hcv hcl ?_
      refine W.eq (g2 := F0 m 11 ls [.ref q9]) rfl ?_
      refine lv_astore_n (lv' := [(2, .ref q9), (0, .ref b), (1, .ref ou)]) hx hb dL_switchOn_11 rfl hl (by decide) rfl (fun ls hl => ?_)
      refine lv_iconst (v := 1) hx hb dL_switchOn_12 (by decide) ?_
      refine vx_ret ?_
      exact W.iret (v := 1) hx hb hr (fun t ht hW => ⟨⟨1, (σ, run, ov), rfl, (by simp only [F_L_switchOn, hk] <;> rfl), ⟨by rw [ht]; exact hP, hD⟩⟩, hS.F ht⟩) hS.2.2 dL_switchOn_13
    · skip
      exact absurd hk (nc3_switchOn _ _)
  · skip
    obtain ⟨σ1, run1⟩ := u
    have hP : va_P D vwCl [(b, .inr (5, [.ref s0, .ref s2, .ref t0, .ref d, .ref e0, .int run1])), (s0, .inr (3, [.ref f])), (f, .inr (2, [.ref w, .int σ1.2.1, .int σ1.2.2])), (w, .inl (cA, 66, .inl σ1.1)), (s2, .inr (3, [.ref f2])), (f2, .inr (2, [.ref w2, .int ρ.2.1, .int ρ.2.2])), (w2, .inl (cA, 66, .inl ρ.1)), (t0, .inr (4, [.int τ.1, .int τ.2.1, .int τ.2.2.1, .int τ.2.2.2.1, .int τ.2.2.2.2.1, .int τ.2.2.2.2.2])), (d, .inr (1, [.int δ.1, .ref db])), (db, .inl (cA, 24, .inl δ.2)), (e0, .inr (0, [.ref d, .ref s0])), (ou, .inl (cL, 1, .inr (.inl ov)))] H := hP
    have hD : va_D A [(b, .inr (5, [.ref s0, .ref s2, .ref t0, .ref d, .ref e0, .int run1])), (s0, .inr (3, [.ref f])), (f, .inr (2, [.ref w, .int σ1.2.1, .int σ1.2.2])), (w, .inl (cA, 66, .inl σ1.1)), (s2, .inr (3, [.ref f2])), (f2, .inr (2, [.ref w2, .int ρ.2.1, .int ρ.2.2])), (w2, .inl (cA, 66, .inl ρ.1)), (t0, .inr (4, [.int τ.1, .int τ.2.1, .int τ.2.2.1, .int τ.2.2.2.1, .int τ.2.2.2.2.1, .int τ.2.2.2.2.2])), (d, .inr (1, [.int δ.1, .ref db])), (db, .inl (cA, 24, .inl δ.2)), (e0, .inr (0, [.ref d, .ref s0])), (ou, .inl (cL, 1, .inr (.inl ov)))] := hD
    refine lv_i2l (v := r.toInt64) hx hb dL_switchOn_6 rfl ?_
    refine va_last (D := D) hx hb hK hP hD hS 11 1 rfl rfl (vp_in_iff.mpr (by decide)) dL_switchOn_7 (fun H locs hP hD hS => ?_)
    have hP : va_P D vwCl [(b, .inr (5, [.ref s0, .ref s2, .ref t0, .ref d, .ref e0, .int run1])), (s0, .inr (3, [.ref f])), (f, .inr (2, [.ref w, .int σ1.2.1, .int σ1.2.2])), (w, .inl (cA, 66, .inl σ1.1)), (s2, .inr (3, [.ref f2])), (f2, .inr (2, [.ref w2, .int ρ.2.1, .int ρ.2.2])), (w2, .inl (cA, 66, .inl ρ.1)), (t0, .inr (4, [.int τ.1, .int τ.2.1, .int τ.2.2.1, .int τ.2.2.2.1, .int τ.2.2.2.2.1, .int τ.2.2.2.2.2])), (d, .inr (1, [.int δ.1, .ref db])), (db, .inl (cA, 24, .inl δ.2)), (e0, .inr (0, [.ref d, .ref s0])), (ou, .inl (cL, 1, .inr (.inl (vp_updL ov 0 r.toInt64))))] H := hP
    have hD : va_D A [(b, .inr (5, [.ref s0, .ref s2, .ref t0, .ref d, .ref e0, .int run1])), (s0, .inr (3, [.ref f])), (f, .inr (2, [.ref w, .int σ1.2.1, .int σ1.2.2])), (w, .inl (cA, 66, .inl σ1.1)), (s2, .inr (3, [.ref f2])), (f2, .inr (2, [.ref w2, .int ρ.2.1, .int ρ.2.2])), (w2, .inl (cA, 66, .inl ρ.1)), (t0, .inr (4, [.int τ.1, .int τ.2.1, .int τ.2.2.1, .int τ.2.2.2.1, .int τ.2.2.2.2.1, .int τ.2.2.2.2.2])), (d, .inr (1, [.int δ.1, .ref db])), (db, .inl (cA, 24, .inl δ.2)), (e0, .inr (0, [.ref d, .ref s0])), (ou, .inl (cL, 1, .inr (.inl (vp_updL ov 0 r.toInt64))))] := hD
    refine lv_goto (tgt := 14) hx hb dL_switchOn_8 (by decide) ?_
    refine lv_iconst (v := 0) hx hb dL_switchOn_14 (by decide) ?_
    refine vx_ret ?_
    refine W.widen (k := 1) (n := 6) (Nat.le_of_ble_eq_true rfl) (Nat.le_of_ble_eq_true rfl) ?_
    exact W.iret (v := 0) hx hb hr (fun t ht hW => ⟨⟨0, (σ1, run1, (vp_updL ov 0 r.toInt64)), rfl, (by simp only [F_L_switchOn, ← h] <;> rfl), ⟨by rw [ht]; exact hP, hD⟩⟩, hS.F ht⟩) hS.2.2 dL_switchOn_15
def F_L_switchOff (τ : TS) (run : Int32) (ov : Nat → Int64) : Int32 × (TS) × (Int32) × (Nat → Int64) := if (F_X5_switchOff τ run).1 = 0 then (0, (F_X5_switchOff τ run).2.2.1, (F_X5_switchOff τ run).2.2.2, (vp_updL ov 0 (F_X5_switchOff τ run).2.1.toInt64)) else (1, τ, run, ov)
set_option maxHeartbeats 4000000 in
set_option maxRecDepth 100000 in
theorem c_L_switchOff (l : Launch) (hl9 : l.stackTraces = false) (D : va_G) (cA cL : ClassId) (b s0 f w s2 f2 w2 t0 d db e0 ou : Nat) (sz : Nat) (σ : FS) (ρ : FS) (τ : TS) (δ : DS) (run : Int32) (ov : Nat → Int64) : vx_Met l yL_switchOff wsL_switchOff ({ frames := 8, cells := 1, slots := 6, locals := 131 }) (va_Pc [.ref b, .ref ou] (bx_prx D [(cA, .int), (cL, .long)] (wWr cA cL b s0 f w s2 f2 w2 t0 d db e0 ou σ ρ τ δ run ov) sz)) (va_Qi (fun (r : Int32) (u : (TS) × (Int32) × (Nat → Int64)) => (r, u) = F_L_switchOff τ run ov) (fun u t => bx_at D (wWr cA cL b s0 f w s2 f2 w2 t0 d db e0 ou σ ρ u.1 δ u.2.1 u.2.2) (va_A (wWr cA cL b s0 f w s2 f2 w2 t0 d db e0 ou σ ρ τ δ run ov) sz) t) (va_A (wWr cA cL b s0 f w s2 f2 w2 t0 d db e0 ou σ ρ τ δ run ov) sz)) (fun _ _ _ => False) 1 6 (va_A (wWr cA cL b s0 f w s2 f2 w2 t0 d db e0 ou σ ρ τ δ run ov) sz) := by
  refine vx_ofWH (cc := cL_switchOff) (maxL := 3) (ret := (some .int)) (hh := [(0, 8, 11, 13)]) (by decide) rfl ?_
  intro p e s m args below meth c s₁ B hml hv
  obtain ⟨rfl, hsz, hP, hK, hD0, hG, hZ⟩ := hv
  have hx := B.exec
  have hb := B.bytes
  have hr := B.returns
  have hts := atoms_spec (ws := wsL_switchOff) B.pre
  have hown : s.vm.findClass RL = some m.cls := findClass_of_methodNamed B.named
  have hlocks := B.notSynchronized
  have htab := vx_table (x := yL_switchOff) B (hts _ List.mem_cons_self)
  subst hsz
  have hD := hD0.self (sz := s.heap.size)
  generalize hAe : va_A (wWr cA cL b s0 f w s2 f2 w2 t0 d db e0 ou σ ρ τ δ run ov) s.heap.size = A at hD ⊢
  have hA : ∀ q : Nat, s.heap.size ≤ q → A q := fun q h => by rw [← hAe]; exact Or.inr h
  have hS : va_S A s.heap s.heap [] := va_S.rf
  have hD : va_D A [(b, .inr (5, [.ref s0, .ref s2, .ref t0, .ref d, .ref e0, .int run])), (s0, .inr (3, [.ref f])), (f, .inr (2, [.ref w, .int σ.2.1, .int σ.2.2])), (w, .inl (cA, 66, .inl σ.1)), (s2, .inr (3, [.ref f2])), (f2, .inr (2, [.ref w2, .int ρ.2.1, .int ρ.2.2])), (w2, .inl (cA, 66, .inl ρ.1)), (t0, .inr (4, [.int τ.1, .int τ.2.1, .int τ.2.2.1, .int τ.2.2.2.1, .int τ.2.2.2.2.1, .int τ.2.2.2.2.2])), (d, .inr (1, [.int δ.1, .ref db])), (db, .inl (cA, 24, .inl δ.2)), (e0, .inr (0, [.ref d, .ref s0])), (ou, .inl (cL, 1, .inr (.inl ov)))] := hD
  have hP : va_P D vwCl [(b, .inr (5, [.ref s0, .ref s2, .ref t0, .ref d, .ref e0, .int run])), (s0, .inr (3, [.ref f])), (f, .inr (2, [.ref w, .int σ.2.1, .int σ.2.2])), (w, .inl (cA, 66, .inl σ.1)), (s2, .inr (3, [.ref f2])), (f2, .inr (2, [.ref w2, .int ρ.2.1, .int ρ.2.2])), (w2, .inl (cA, 66, .inl ρ.1)), (t0, .inr (4, [.int τ.1, .int τ.2.1, .int τ.2.2.1, .int τ.2.2.2.1, .int τ.2.2.2.2.1, .int τ.2.2.2.2.2])), (d, .inr (1, [.int δ.1, .ref db])), (db, .inl (cA, 24, .inl δ.2)), (e0, .inr (0, [.ref d, .ref s0])), (ou, .inl (cL, 1, .inr (.inl ov)))] s.heap := hP
  have hl := lv_entry ([.ref b, .ref ou]) (n := 3) (Nat.le_of_ble_eq_true rfl)
  rw [lg_entry_eq]
  generalize (lg_sl ([.ref b, .ref ou]) ++ List.replicate (3 - (lg_sl ([.ref b, .ref ou])).length) Slot.unset).toArray = ls at hl ⊢
  have hl : lv_has ls 3 [(0, .ref b), (1, .ref ou)] := hl
  refine lv_aload_n hx hb dL_switchOff_0 rfl (lv_at hl 1 rfl) ?_
  refine lv_iconst (v := 0) hx hb dL_switchOff_1 (by decide) ?_
  refine lv_aload_n hx hb dL_switchOff_2 rfl (lv_at hl 0 rfl) ?_
  refine bx_xwi (wc := [(b, .inr (5, [.ref s0, .ref s2, .ref t0, .ref d, .ref e0, .int run])), (s0, .inr (3, [.ref f])), (f, .inr (2, [.ref w, .int σ.2.1, .int σ.2.2])), (w, .inl (cA, 66, .inl σ.1)), (s2, .inr (3, [.ref f2])), (f2, .inr (2, [.ref w2, .int ρ.2.1, .int ρ.2.2])), (w2, .inl (cA, 66, .inl ρ.1)), (t0, .inr (4, [.int τ.1, .int τ.2.1, .int τ.2.2.1, .int τ.2.2.2.1, .int τ.2.2.2.2.1, .int τ.2.2.2.2.2])), (d, .inr (1, [.int δ.1, .ref db])), (db, .inl (cA, 24, .inl δ.2)), (e0, .inr (0, [.ref d, .ref s0]))]) (wr := [(ou, .inl (cL, 1, .inr (.inl ov)))]) (wf := fun (u : (TS) × (Int32)) => [(b, .inr (5, [.ref s0, .ref s2, .ref t0, .ref d, .ref e0, .int u.2])), (s0, .inr (3, [.ref f])), (f, .inr (2, [.ref w, .int σ.2.1, .int σ.2.2])), (w, .inl (cA, 66, .inl σ.1)), (s2, .inr (3, [.ref f2])), (f2, .inr (2, [.ref w2, .int ρ.2.1, .int ρ.2.2])), (w2, .inl (cA, 66, .inl ρ.1)), (t0, .inr (4, [.int u.1.1, .int u.1.2.1, .int u.1.2.2.1, .int u.1.2.2.2.1, .int u.1.2.2.2.2.1, .int u.1.2.2.2.2.2])), (d, .inr (1, [.int δ.1, .ref db])), (db, .inl (cA, 24, .inl δ.2)), (e0, .inr (0, [.ref d, .ref s0]))]) (wn := fun (u : (TS) × (Int32)) => [(b, .inr (5, [.ref s0, .ref s2, .ref t0, .ref d, .ref e0, .int u.2])), (s0, .inr (3, [.ref f])), (f, .inr (2, [.ref w, .int σ.2.1, .int σ.2.2])), (w, .inl (cA, 66, .inl σ.1)), (s2, .inr (3, [.ref f2])), (f2, .inr (2, [.ref w2, .int ρ.2.1, .int ρ.2.2])), (w2, .inl (cA, 66, .inl ρ.1)), (t0, .inr (4, [.int u.1.1, .int u.1.2.1, .int u.1.2.2.1, .int u.1.2.2.2.1, .int u.1.2.2.2.2.1, .int u.1.2.2.2.2.2])), (d, .inr (1, [.int δ.1, .ref db])), (db, .inl (cA, 24, .inl δ.2)), (e0, .inr (0, [.ref d, .ref s0])), (ou, .inl (cL, 1, .inr (.inl ov)))]) hP hD hS hA [0, 1, 2, 3, 4, 5, 6, 7, 8, 9, 10] [11] [1, 2, 3, 4, 5, 6, 7, 8, 9, 10, 11, 0] rfl rfl (by decide) (by decide) (fun u => rfl) (by decide) (vx_runV (As := []) (rest := [.int 0, .ref ou]) ⟨hx, hb, hml, hown, hts⟩ (c_X5_switchOff l hl9 D cA b s0 f w s2 f2 w2 t0 d db e0 s.heap.size σ ρ τ δ run) (cwV 0 hts gL_switchOff_X5_switchOff rfl rfl rfl (by decide +kernel) ⟨Nat.le_of_ble_eq_true rfl, Nat.le_of_ble_eq_true rfl⟩) (bx_pvx (ci := 5) (q0 := 0) (hK.sub (tys' := [(cA, .int)]) [0] rfl) hG hZ (hP.sub (ws' := [(b, .inr (5, [.ref s0, .ref s2, .ref t0, .ref d, .ref e0, .int run])), (s0, .inr (3, [.ref f])), (f, .inr (2, [.ref w, .int σ.2.1, .int σ.2.2])), (w, .inl (cA, 66, .inl σ.1)), (s2, .inr (3, [.ref f2])), (f2, .inr (2, [.ref w2, .int ρ.2.1, .int ρ.2.2])), (w2, .inl (cA, 66, .inl ρ.1)), (t0, .inr (4, [.int τ.1, .int τ.2.1, .int τ.2.2.1, .int τ.2.2.2.1, .int τ.2.2.2.2.1, .int τ.2.2.2.2.2])), (d, .inr (1, [.int δ.1, .ref db])), (db, .inl (cA, 24, .inl δ.2)), (e0, .inr (0, [.ref d, .ref s0]))]) [0, 1, 2, 3, 4, 5, 6, 7, 8, 9, 10] rfl) (hD.sub (ws' := [(b, .inr (5, [.ref s0, .ref s2, .ref t0, .ref d, .ref e0, .int run])), (s0, .inr (3, [.ref f])), (f, .inr (2, [.ref w, .int σ.2.1, .int σ.2.2])), (w, .inl (cA, 66, .inl σ.1)), (s2, .inr (3, [.ref f2])), (f2, .inr (2, [.ref w2, .int ρ.2.1, .int ρ.2.2])), (w2, .inl (cA, 66, .inl ρ.1)), (t0, .inr (4, [.int τ.1, .int τ.2.1, .int τ.2.2.1, .int τ.2.2.2.1, .int τ.2.2.2.2.1, .int τ.2.2.2.2.2])), (d, .inr (1, [.int δ.1, .ref db])), (db, .inl (cA, 24, .inl δ.2)), (e0, .inr (0, [.ref d, .ref s0]))]) [0, 1, 2, 3, 4, 5, 6, 7, 8, 9, 10] (by decide) rfl) rfl rfl) rfl rfl hl.1 rfl (lv_room (Nat.le_of_ble_eq_true rfl)) dL_switchOff_3 ⟨Nat.le_of_ble_eq_true rfl, Nat.le_of_ble_eq_true rfl⟩) (fun E ce q9 H1 locs hE hP hD hS hce hcv hcl => ?_) (fun r u H locs h hP hD hS => ?_)
  · skip
    rcases hE with ⟨hk, rfl⟩ | ⟨hk, rfl⟩ | ⟨hk, rfl⟩
    · skip
      exact absurd hk (nc1_switchOff _ _)
    · skip
      refine vx_catch (name := bx_ise) (E := bx_ise) hown [] ⟨0, 8, 11, 13⟩ [] htab (fun z hz => nomatch hz) (by decide) (by decide) (hts (.classLink RL 13 bx_ise) (by decide +kernel)) (va_Nw.use rfl (hG.1 (.castable bx_ise bx_ise) (by decide +kernel))) hce hcv hcl ?_
      refine W.eq (g2 := F0 m 11 ls [.ref q9]) rfl ?_
      refine lv_astore_n (lv' := [(2, .ref q9), (0, .ref b), (1, .ref ou)]) hx hb dL_switchOff_11 rfl hl (by decide) rfl (fun ls hl => ?_)
      refine lv_iconst (v := 1) hx hb dL_switchOff_12 (by decide) ?_
      refine vx_ret ?_
      exact W.iret (v := 1) hx hb hr (fun t ht hW => ⟨⟨1, (τ, run, ov), rfl, (by simp only [F_L_switchOff, hk] <;> rfl), ⟨by rw [ht]; exact hP, hD⟩⟩, hS.F ht⟩) hS.2.2 dL_switchOff_13
    · skip
      exact absurd hk (nc3_switchOff _ _)
  · skip
    obtain ⟨τ1, run1⟩ := u
    have hP : va_P D vwCl [(b, .inr (5, [.ref s0, .ref s2, .ref t0, .ref d, .ref e0, .int run1])), (s0, .inr (3, [.ref f])), (f, .inr (2, [.ref w, .int σ.2.1, .int σ.2.2])), (w, .inl (cA, 66, .inl σ.1)), (s2, .inr (3, [.ref f2])), (f2, .inr (2, [.ref w2, .int ρ.2.1, .int ρ.2.2])), (w2, .inl (cA, 66, .inl ρ.1)), (t0, .inr (4, [.int τ1.1, .int τ1.2.1, .int τ1.2.2.1, .int τ1.2.2.2.1, .int τ1.2.2.2.2.1, .int τ1.2.2.2.2.2])), (d, .inr (1, [.int δ.1, .ref db])), (db, .inl (cA, 24, .inl δ.2)), (e0, .inr (0, [.ref d, .ref s0])), (ou, .inl (cL, 1, .inr (.inl ov)))] H := hP
    have hD : va_D A [(b, .inr (5, [.ref s0, .ref s2, .ref t0, .ref d, .ref e0, .int run1])), (s0, .inr (3, [.ref f])), (f, .inr (2, [.ref w, .int σ.2.1, .int σ.2.2])), (w, .inl (cA, 66, .inl σ.1)), (s2, .inr (3, [.ref f2])), (f2, .inr (2, [.ref w2, .int ρ.2.1, .int ρ.2.2])), (w2, .inl (cA, 66, .inl ρ.1)), (t0, .inr (4, [.int τ1.1, .int τ1.2.1, .int τ1.2.2.1, .int τ1.2.2.2.1, .int τ1.2.2.2.2.1, .int τ1.2.2.2.2.2])), (d, .inr (1, [.int δ.1, .ref db])), (db, .inl (cA, 24, .inl δ.2)), (e0, .inr (0, [.ref d, .ref s0])), (ou, .inl (cL, 1, .inr (.inl ov)))] := hD
    refine lv_i2l (v := r.toInt64) hx hb dL_switchOff_6 rfl ?_
    refine va_last (D := D) hx hb hK hP hD hS 11 1 rfl rfl (vp_in_iff.mpr (by decide)) dL_switchOff_7 (fun H locs hP hD hS => ?_)
    have hP : va_P D vwCl [(b, .inr (5, [.ref s0, .ref s2, .ref t0, .ref d, .ref e0, .int run1])), (s0, .inr (3, [.ref f])), (f, .inr (2, [.ref w, .int σ.2.1, .int σ.2.2])), (w, .inl (cA, 66, .inl σ.1)), (s2, .inr (3, [.ref f2])), (f2, .inr (2, [.ref w2, .int ρ.2.1, .int ρ.2.2])), (w2, .inl (cA, 66, .inl ρ.1)), (t0, .inr (4, [.int τ1.1, .int τ1.2.1, .int τ1.2.2.1, .int τ1.2.2.2.1, .int τ1.2.2.2.2.1, .int τ1.2.2.2.2.2])), (d, .inr (1, [.int δ.1, .ref db])), (db, .inl (cA, 24, .inl δ.2)), (e0, .inr (0, [.ref d, .ref s0])), (ou, .inl (cL, 1, .inr (.inl (vp_updL ov 0 r.toInt64))))] H := hP
    have hD : va_D A [(b, .inr (5, [.ref s0, .ref s2, .ref t0, .ref d, .ref e0, .int run1])), (s0, .inr (3, [.ref f])), (f, .inr (2, [.ref w, .int σ.2.1, .int σ.2.2])), (w, .inl (cA, 66, .inl σ.1)), (s2, .inr (3, [.ref f2])), (f2, .inr (2, [.ref w2, .int ρ.2.1, .int ρ.2.2])), (w2, .inl (cA, 66, .inl ρ.1)), (t0, .inr (4, [.int τ1.1, .int τ1.2.1, .int τ1.2.2.1, .int τ1.2.2.2.1, .int τ1.2.2.2.2.1, .int τ1.2.2.2.2.2])), (d, .inr (1, [.int δ.1, .ref db])), (db, .inl (cA, 24, .inl δ.2)), (e0, .inr (0, [.ref d, .ref s0])), (ou, .inl (cL, 1, .inr (.inl (vp_updL ov 0 r.toInt64))))] := hD
    refine lv_goto (tgt := 14) hx hb dL_switchOff_8 (by decide) ?_
    refine lv_iconst (v := 0) hx hb dL_switchOff_14 (by decide) ?_
    refine vx_ret ?_
    refine W.widen (k := 1) (n := 6) (Nat.le_of_ble_eq_true rfl) (Nat.le_of_ble_eq_true rfl) ?_
    exact W.iret (v := 0) hx hb hr (fun t ht hW => ⟨⟨0, (τ1, run1, (vp_updL ov 0 r.toInt64)), rfl, (by simp only [F_L_switchOff, ← h] <;> rfl), ⟨by rw [ht]; exact hP, hD⟩⟩, hS.F ht⟩) hS.2.2 dL_switchOff_15
def F_L_failAfter (σ : FS) (p0 : Int32) : Int32 × (FS) := if (F_X5_failAfter σ p0).1 = 0 then (0, (F_X5_failAfter σ p0).2) else ((F_X5_failAfter σ p0).1, σ)
set_option maxHeartbeats 4000000 in
set_option maxRecDepth 100000 in
theorem c_L_failAfter (l : Launch) (hl9 : l.stackTraces = false) (D : va_G) (cA cL : ClassId) (b s0 f w s2 f2 w2 t0 d db e0 ou : Nat) (sz : Nat) (σ : FS) (ρ : FS) (τ : TS) (δ : DS) (run : Int32) (ov : Nat → Int64) (p0 : Int32) : vx_Met l yL_failAfter wsL_failAfter ({ frames := 8, cells := 1, slots := 6, locals := 133 }) (va_Pc [.ref b, .int p0] (bx_prx D [(cA, .int), (cL, .long)] (wWr cA cL b s0 f w s2 f2 w2 t0 d db e0 ou σ ρ τ δ run ov) sz)) (va_Qi (fun (r : Int32) (u : (FS)) => (r, u) = F_L_failAfter σ p0) (fun u t => bx_at D (wWr cA cL b s0 f w s2 f2 w2 t0 d db e0 ou u ρ τ δ run ov) (va_A (wWr cA cL b s0 f w s2 f2 w2 t0 d db e0 ou σ ρ τ δ run ov) sz) t) (va_A (wWr cA cL b s0 f w s2 f2 w2 t0 d db e0 ou σ ρ τ δ run ov) sz)) (fun _ _ _ => False) 1 6 (va_A (wWr cA cL b s0 f w s2 f2 w2 t0 d db e0 ou σ ρ τ δ run ov) sz) := by
  refine vx_ofWH (cc := cL_failAfter) (maxL := 3) (ret := (some .int)) (hh := [(0, 5, 8, 22)]) (by decide) rfl ?_
  intro p e s m args below meth c s₁ B hml hv
  obtain ⟨rfl, hsz, hP, hK, hD0, hG, hZ⟩ := hv
  have hx := B.exec
  have hb := B.bytes
  have hr := B.returns
  have hts := atoms_spec (ws := wsL_failAfter) B.pre
  have hown : s.vm.findClass RL = some m.cls := findClass_of_methodNamed B.named
  have hlocks := B.notSynchronized
  have htab := vx_table (x := yL_failAfter) B (hts _ List.mem_cons_self)
  subst hsz
  have hD := hD0.self (sz := s.heap.size)
  generalize hAe : va_A (wWr cA cL b s0 f w s2 f2 w2 t0 d db e0 ou σ ρ τ δ run ov) s.heap.size = A at hD ⊢
  have hA : ∀ q : Nat, s.heap.size ≤ q → A q := fun q h => by rw [← hAe]; exact Or.inr h
  have hS : va_S A s.heap s.heap [] := va_S.rf
  have hD : va_D A [(b, .inr (5, [.ref s0, .ref s2, .ref t0, .ref d, .ref e0, .int run])), (s0, .inr (3, [.ref f])), (f, .inr (2, [.ref w, .int σ.2.1, .int σ.2.2])), (w, .inl (cA, 66, .inl σ.1)), (s2, .inr (3, [.ref f2])), (f2, .inr (2, [.ref w2, .int ρ.2.1, .int ρ.2.2])), (w2, .inl (cA, 66, .inl ρ.1)), (t0, .inr (4, [.int τ.1, .int τ.2.1, .int τ.2.2.1, .int τ.2.2.2.1, .int τ.2.2.2.2.1, .int τ.2.2.2.2.2])), (d, .inr (1, [.int δ.1, .ref db])), (db, .inl (cA, 24, .inl δ.2)), (e0, .inr (0, [.ref d, .ref s0])), (ou, .inl (cL, 1, .inr (.inl ov)))] := hD
  have hP : va_P D vwCl [(b, .inr (5, [.ref s0, .ref s2, .ref t0, .ref d, .ref e0, .int run])), (s0, .inr (3, [.ref f])), (f, .inr (2, [.ref w, .int σ.2.1, .int σ.2.2])), (w, .inl (cA, 66, .inl σ.1)), (s2, .inr (3, [.ref f2])), (f2, .inr (2, [.ref w2, .int ρ.2.1, .int ρ.2.2])), (w2, .inl (cA, 66, .inl ρ.1)), (t0, .inr (4, [.int τ.1, .int τ.2.1, .int τ.2.2.1, .int τ.2.2.2.1, .int τ.2.2.2.2.1, .int τ.2.2.2.2.2])), (d, .inr (1, [.int δ.1, .ref db])), (db, .inl (cA, 24, .inl δ.2)), (e0, .inr (0, [.ref d, .ref s0])), (ou, .inl (cL, 1, .inr (.inl ov)))] s.heap := hP
  have hl := lv_entry ([.ref b, .int p0]) (n := 3) (Nat.le_of_ble_eq_true rfl)
  rw [lg_entry_eq]
  generalize (lg_sl ([.ref b, .int p0]) ++ List.replicate (3 - (lg_sl ([.ref b, .int p0])).length) Slot.unset).toArray = ls at hl ⊢
  have hl : lv_has ls 3 [(0, .ref b), (1, .int p0)] := hl
  refine lv_aload_n hx hb dL_failAfter_0 rfl (lv_at hl 0 rfl) ?_
  refine lv_iload_n hx hb dL_failAfter_1 rfl (lv_at hl 1 rfl) ?_
  refine bx_xwv (wc := [(b, .inr (5, [.ref s0, .ref s2, .ref t0, .ref d, .ref e0, .int run])), (s0, .inr (3, [.ref f])), (f, .inr (2, [.ref w, .int σ.2.1, .int σ.2.2])), (w, .inl (cA, 66, .inl σ.1)), (s2, .inr (3, [.ref f2])), (f2, .inr (2, [.ref w2, .int ρ.2.1, .int ρ.2.2])), (w2, .inl (cA, 66, .inl ρ.1)), (t0, .inr (4, [.int τ.1, .int τ.2.1, .int τ.2.2.1, .int τ.2.2.2.1, .int τ.2.2.2.2.1, .int τ.2.2.2.2.2])), (d, .inr (1, [.int δ.1, .ref db])), (db, .inl (cA, 24, .inl δ.2)), (e0, .inr (0, [.ref d, .ref s0]))]) (wr := [(ou, .inl (cL, 1, .inr (.inl ov)))]) (wf := fun (u : (FS)) => [(b, .inr (5, [.ref s0, .ref s2, .ref t0, .ref d, .ref e0, .int run])), (s0, .inr (3, [.ref f])), (f, .inr (2, [.ref w, .int u.2.1, .int u.2.2])), (w, .inl (cA, 66, .inl u.1)), (s2, .inr (3, [.ref f2])), (f2, .inr (2, [.ref w2, .int ρ.2.1, .int ρ.2.2])), (w2, .inl (cA, 66, .inl ρ.1)), (t0, .inr (4, [.int τ.1, .int τ.2.1, .int τ.2.2.1, .int τ.2.2.2.1, .int τ.2.2.2.2.1, .int τ.2.2.2.2.2])), (d, .inr (1, [.int δ.1, .ref db])), (db, .inl (cA, 24, .inl δ.2)), (e0, .inr (0, [.ref d, .ref s0]))]) (wn := fun (u : (FS)) => [(b, .inr (5, [.ref s0, .ref s2, .ref t0, .ref d, .ref e0, .int run])), (s0, .inr (3, [.ref f])), (f, .inr (2, [.ref w, .int u.2.1, .int u.2.2])), (w, .inl (cA, 66, .inl u.1)), (s2, .inr (3, [.ref f2])), (f2, .inr (2, [.ref w2, .int ρ.2.1, .int ρ.2.2])), (w2, .inl (cA, 66, .inl ρ.1)), (t0, .inr (4, [.int τ.1, .int τ.2.1, .int τ.2.2.1, .int τ.2.2.2.1, .int τ.2.2.2.2.1, .int τ.2.2.2.2.2])), (d, .inr (1, [.int δ.1, .ref db])), (db, .inl (cA, 24, .inl δ.2)), (e0, .inr (0, [.ref d, .ref s0])), (ou, .inl (cL, 1, .inr (.inl ov)))]) hP hD hS hA [0, 1, 2, 3, 4, 5, 6, 7, 8, 9, 10] [11] [1, 2, 3, 4, 5, 6, 7, 8, 9, 10, 11, 0] rfl rfl (by decide) (by decide) (fun u => rfl) (by decide) (vx_runV (As := [.int p0]) (rest := []) ⟨hx, hb, hml, hown, hts⟩ (c_X5_failAfter l hl9 D cA b s0 f w s2 f2 w2 t0 d db e0 s.heap.size σ ρ τ δ run p0) (cwV 1 hts gL_failAfter_X5_failAfter rfl rfl rfl (by decide +kernel) ⟨Nat.le_of_ble_eq_true rfl, Nat.le_of_ble_eq_true rfl⟩) (bx_pvx (ci := 5) (q0 := 0) (hK.sub (tys' := [(cA, .int)]) [0] rfl) hG hZ (hP.sub (ws' := [(b, .inr (5, [.ref s0, .ref s2, .ref t0, .ref d, .ref e0, .int run])), (s0, .inr (3, [.ref f])), (f, .inr (2, [.ref w, .int σ.2.1, .int σ.2.2])), (w, .inl (cA, 66, .inl σ.1)), (s2, .inr (3, [.ref f2])), (f2, .inr (2, [.ref w2, .int ρ.2.1, .int ρ.2.2])), (w2, .inl (cA, 66, .inl ρ.1)), (t0, .inr (4, [.int τ.1, .int τ.2.1, .int τ.2.2.1, .int τ.2.2.2.1, .int τ.2.2.2.2.1, .int τ.2.2.2.2.2])), (d, .inr (1, [.int δ.1, .ref db])), (db, .inl (cA, 24, .inl δ.2)), (e0, .inr (0, [.ref d, .ref s0]))]) [0, 1, 2, 3, 4, 5, 6, 7, 8, 9, 10] rfl) (hD.sub (ws' := [(b, .inr (5, [.ref s0, .ref s2, .ref t0, .ref d, .ref e0, .int run])), (s0, .inr (3, [.ref f])), (f, .inr (2, [.ref w, .int σ.2.1, .int σ.2.2])), (w, .inl (cA, 66, .inl σ.1)), (s2, .inr (3, [.ref f2])), (f2, .inr (2, [.ref w2, .int ρ.2.1, .int ρ.2.2])), (w2, .inl (cA, 66, .inl ρ.1)), (t0, .inr (4, [.int τ.1, .int τ.2.1, .int τ.2.2.1, .int τ.2.2.2.1, .int τ.2.2.2.2.1, .int τ.2.2.2.2.2])), (d, .inr (1, [.int δ.1, .ref db])), (db, .inl (cA, 24, .inl δ.2)), (e0, .inr (0, [.ref d, .ref s0]))]) [0, 1, 2, 3, 4, 5, 6, 7, 8, 9, 10] (by decide) rfl) rfl rfl) rfl rfl hl.1 rfl (lv_room (Nat.le_of_ble_eq_true rfl)) dL_failAfter_2 ⟨Nat.le_of_ble_eq_true rfl, Nat.le_of_ble_eq_true rfl⟩) (fun E ce q9 H1 locs hE hP hD hS hce hcv hcl => ?_) (fun  u H locs h hP hD hS => ?_)
  · skip
    rcases hE with ⟨hk, rfl⟩ | ⟨hk, rfl⟩ | ⟨hk, rfl⟩
    · skip
      refine vx_catch (name := bx_iae) (E := bx_iae) hown [] ⟨0, 5, 8, 22⟩ [] htab (fun z hz => nomatch hz) (by decide) (by decide) (hts (.classLink RL 22 bx_iae) (by decide +kernel)) (va_Nw.use rfl (hG.1 (.castable bx_iae bx_iae) (by decide +kernel))) hce hcv hcl ?_
      refine W.eq (g2 := F0 m 8 ls [.ref q9]) rfl ?_
      refine lv_astore_n (lv' := [(2, .ref q9), (0, .ref b), (1, .int p0)]) hx hb dL_failAfter_8 rfl hl (by decide) rfl (fun ls hl => ?_)
      refine lv_iconst (v := 1) hx hb dL_failAfter_9 (by decide) ?_
      refine vx_ret ?_
      exact W.iret (v := 1) hx hb hr (fun t ht hW => ⟨⟨1, σ, rfl, (by simp only [F_L_failAfter, hk] <;> rfl), ⟨by rw [ht]; exact hP, hD⟩⟩, hS.F ht⟩) hS.2.2 dL_failAfter_10
    · skip
      exact absurd hk (nc2_failAfter _ _)
    · skip
      exact absurd hk (nc3_failAfter _ _)
  · skip
    obtain ⟨σ1, rfl⟩ : ∃ z, z = u := ⟨_, rfl⟩
    have hP : va_P D vwCl [(b, .inr (5, [.ref s0, .ref s2, .ref t0, .ref d, .ref e0, .int run])), (s0, .inr (3, [.ref f])), (f, .inr (2, [.ref w, .int σ1.2.1, .int σ1.2.2])), (w, .inl (cA, 66, .inl σ1.1)), (s2, .inr (3, [.ref f2])), (f2, .inr (2, [.ref w2, .int ρ.2.1, .int ρ.2.2])), (w2, .inl (cA, 66, .inl ρ.1)), (t0, .inr (4, [.int τ.1, .int τ.2.1, .int τ.2.2.1, .int τ.2.2.2.1, .int τ.2.2.2.2.1, .int τ.2.2.2.2.2])), (d, .inr (1, [.int δ.1, .ref db])), (db, .inl (cA, 24, .inl δ.2)), (e0, .inr (0, [.ref d, .ref s0])), (ou, .inl (cL, 1, .inr (.inl ov)))] H := hP
    have hD : va_D A [(b, .inr (5, [.ref s0, .ref s2, .ref t0, .ref d, .ref e0, .int run])), (s0, .inr (3, [.ref f])), (f, .inr (2, [.ref w, .int σ1.2.1, .int σ1.2.2])), (w, .inl (cA, 66, .inl σ1.1)), (s2, .inr (3, [.ref f2])), (f2, .inr (2, [.ref w2, .int ρ.2.1, .int ρ.2.2])), (w2, .inl (cA, 66, .inl ρ.1)), (t0, .inr (4, [.int τ.1, .int τ.2.1, .int τ.2.2.1, .int τ.2.2.2.1, .int τ.2.2.2.2.1, .int τ.2.2.2.2.2])), (d, .inr (1, [.int δ.1, .ref db])), (db, .inl (cA, 24, .inl δ.2)), (e0, .inr (0, [.ref d, .ref s0])), (ou, .inl (cL, 1, .inr (.inl ov)))] := hD
    refine lv_goto (tgt := 11) hx hb dL_failAfter_5 (by decide) ?_
    refine lv_iconst (v := 0) hx hb dL_failAfter_11 (by decide) ?_
    refine vx_ret ?_
    refine W.widen (k := 1) (n := 6) (Nat.le_of_ble_eq_true rfl) (Nat.le_of_ble_eq_true rfl) ?_
    exact W.iret (v := 0) hx hb hr (fun t ht hW => ⟨⟨0, σ1, rfl, (by simp only [F_L_failAfter, ← h] <;> rfl), ⟨by rw [ht]; exact hP, hD⟩⟩, hS.F ht⟩) hS.2.2 dL_failAfter_12
def F_L_offer (σ : FS) (τ : TS) (run : Int32) (ov : Nat → Int64) (p0 : Int32) (p1 : Int32) (p2 : Int32) (p3 : Int32) : Int32 × (FS) × (TS) × (Int32) × (Nat → Int64) := if (F_X5_offer σ τ run p0 p1 p2 p3).1 = 0 then (0, (F_X5_offer σ τ run p0 p1 p2 p3).2.2.1, (F_X5_offer σ τ run p0 p1 p2 p3).2.2.2.1, (F_X5_offer σ τ run p0 p1 p2 p3).2.2.2.2, (vp_updL ov 0 (if (F_X5_offer σ τ run p0 p1 p2 p3).2.1 = 0 then 0 else 1))) else ((F_X5_offer σ τ run p0 p1 p2 p3).1, σ, τ, run, ov)
set_option maxHeartbeats 4000000 in
set_option maxRecDepth 100000 in
theorem c_L_offer (l : Launch) (hl9 : l.stackTraces = false) (D : va_G) (cA cL : ClassId) (b s0 f w s2 f2 w2 t0 d db e0 ou : Nat) (sz : Nat) (σ : FS) (ρ : FS) (τ : TS) (δ : DS) (run : Int32) (ov : Nat → Int64) (p0 : Int32) (p1 : Int32) (p2 : Int32) (p3 : Int32) : vx_Met l yL_offer wsL_offer ({ frames := 8, cells := 1, slots := 6, locals := 136 }) (va_Pc [.ref b, .int p0, .int p1, .int p2, .int p3, .ref ou] (bx_prx D [(cA, .int), (cL, .long)] (wWr cA cL b s0 f w s2 f2 w2 t0 d db e0 ou σ ρ τ δ run ov) sz)) (va_Qi (fun (r : Int32) (u : (FS) × (TS) × (Int32) × (Nat → Int64)) => (r, u) = F_L_offer σ τ run ov p0 p1 p2 p3) (fun u t => bx_at D (wWr cA cL b s0 f w s2 f2 w2 t0 d db e0 ou u.1 ρ u.2.1 δ u.2.2.1 u.2.2.2) (va_A (wWr cA cL b s0 f w s2 f2 w2 t0 d db e0 ou σ ρ τ δ run ov) sz) t) (va_A (wWr cA cL b s0 f w s2 f2 w2 t0 d db e0 ou σ ρ τ δ run ov) sz)) (fun _ _ _ => False) 1 6 (va_A (wWr cA cL b s0 f w s2 f2 w2 t0 d db e0 ou σ ρ τ δ run ov) sz) := by
  refine vx_ofWH (cc := cL_offer) (maxL := 7) (ret := (some .int)) (hh := [(0, 21, 24, 22), (0, 21, 28, 13)]) (by decide) rfl ?_
  intro p e s m args below meth c s₁ B hml hv
  obtain ⟨rfl, hsz, hP, hK, hD0, hG, hZ⟩ := hv
  have hx := B.exec
  have hb := B.bytes
  have hr := B.returns
  have hts := atoms_spec (ws := wsL_offer) B.pre
  have hown : s.vm.findClass RL = some m.cls := findClass_of_methodNamed B.named
  have hlocks := B.notSynchronized
  have htab := vx_table (x := yL_offer) B (hts _ List.mem_cons_self)
  subst hsz
  have hD := hD0.self (sz := s.heap.size)
  generalize hAe : va_A (wWr cA cL b s0 f w s2 f2 w2 t0 d db e0 ou σ ρ τ δ run ov) s.heap.size = A at hD ⊢
  have hA : ∀ q : Nat, s.heap.size ≤ q → A q := fun q h => by rw [← hAe]; exact Or.inr h
  have hS : va_S A s.heap s.heap [] := va_S.rf
  have hD : va_D A [(b, .inr (5, [.ref s0, .ref s2, .ref t0, .ref d, .ref e0, .int run])), (s0, .inr (3, [.ref f])), (f, .inr (2, [.ref w, .int σ.2.1, .int σ.2.2])), (w, .inl (cA, 66, .inl σ.1)), (s2, .inr (3, [.ref f2])), (f2, .inr (2, [.ref w2, .int ρ.2.1, .int ρ.2.2])), (w2, .inl (cA, 66, .inl ρ.1)), (t0, .inr (4, [.int τ.1, .int τ.2.1, .int τ.2.2.1, .int τ.2.2.2.1, .int τ.2.2.2.2.1, .int τ.2.2.2.2.2])), (d, .inr (1, [.int δ.1, .ref db])), (db, .inl (cA, 24, .inl δ.2)), (e0, .inr (0, [.ref d, .ref s0])), (ou, .inl (cL, 1, .inr (.inl ov)))] := hD
  have hP : va_P D vwCl [(b, .inr (5, [.ref s0, .ref s2, .ref t0, .ref d, .ref e0, .int run])), (s0, .inr (3, [.ref f])), (f, .inr (2, [.ref w, .int σ.2.1, .int σ.2.2])), (w, .inl (cA, 66, .inl σ.1)), (s2, .inr (3, [.ref f2])), (f2, .inr (2, [.ref w2, .int ρ.2.1, .int ρ.2.2])), (w2, .inl (cA, 66, .inl ρ.1)), (t0, .inr (4, [.int τ.1, .int τ.2.1, .int τ.2.2.1, .int τ.2.2.2.1, .int τ.2.2.2.2.1, .int τ.2.2.2.2.2])), (d, .inr (1, [.int δ.1, .ref db])), (db, .inl (cA, 24, .inl δ.2)), (e0, .inr (0, [.ref d, .ref s0])), (ou, .inl (cL, 1, .inr (.inl ov)))] s.heap := hP
  have hl := lv_entry ([.ref b, .int p0, .int p1, .int p2, .int p3, .ref ou]) (n := 7) (Nat.le_of_ble_eq_true rfl)
  rw [lg_entry_eq]
  generalize (lg_sl ([.ref b, .int p0, .int p1, .int p2, .int p3, .ref ou]) ++ List.replicate (7 - (lg_sl ([.ref b, .int p0, .int p1, .int p2, .int p3, .ref ou])).length) Slot.unset).toArray = ls at hl ⊢
  have hl : lv_has ls 7 [(0, .ref b), (1, .int p0), (2, .int p1), (3, .int p2), (4, .int p3), (5, .ref ou)] := hl
  refine lv_aload hx hb dL_offer_0 (lv_at hl 5 rfl) ?_
  refine lv_iconst (v := 0) hx hb dL_offer_2 (by decide) ?_
  refine lv_aload_n hx hb dL_offer_3 rfl (lv_at hl 0 rfl) ?_
  refine lv_iload_n hx hb dL_offer_4 rfl (lv_at hl 1 rfl) ?_
  refine lv_iload_n hx hb dL_offer_5 rfl (lv_at hl 2 rfl) ?_
  refine lv_iload_n hx hb dL_offer_6 rfl (lv_at hl 3 rfl) ?_
  refine lv_iload hx hb dL_offer_7 (lv_at hl 4 rfl) ?_
  refine bx_xwi (wc := [(b, .inr (5, [.ref s0, .ref s2, .ref t0, .ref d, .ref e0, .int run])), (s0, .inr (3, [.ref f])), (f, .inr (2, [.ref w, .int σ.2.1, .int σ.2.2])), (w, .inl (cA, 66, .inl σ.1)), (s2, .inr (3, [.ref f2])), (f2, .inr (2, [.ref w2, .int ρ.2.1, .int ρ.2.2])), (w2, .inl (cA, 66, .inl ρ.1)), (t0, .inr (4, [.int τ.1, .int τ.2.1, .int τ.2.2.1, .int τ.2.2.2.1, .int τ.2.2.2.2.1, .int τ.2.2.2.2.2])), (d, .inr (1, [.int δ.1, .ref db])), (db, .inl (cA, 24, .inl δ.2)), (e0, .inr (0, [.ref d, .ref s0]))]) (wr := [(ou, .inl (cL, 1, .inr (.inl ov)))]) (wf := fun (u : (FS) × (TS) × (Int32)) => [(b, .inr (5, [.ref s0, .ref s2, .ref t0, .ref d, .ref e0, .int u.2.2])), (s0, .inr (3, [.ref f])), (f, .inr (2, [.ref w, .int u.1.2.1, .int u.1.2.2])), (w, .inl (cA, 66, .inl u.1.1)), (s2, .inr (3, [.ref f2])), (f2, .inr (2, [.ref w2, .int ρ.2.1, .int ρ.2.2])), (w2, .inl (cA, 66, .inl ρ.1)), (t0, .inr (4, [.int u.2.1.1, .int u.2.1.2.1, .int u.2.1.2.2.1, .int u.2.1.2.2.2.1, .int u.2.1.2.2.2.2.1, .int u.2.1.2.2.2.2.2])), (d, .inr (1, [.int δ.1, .ref db])), (db, .inl (cA, 24, .inl δ.2)), (e0, .inr (0, [.ref d, .ref s0]))]) (wn := fun (u : (FS) × (TS) × (Int32)) => [(b, .inr (5, [.ref s0, .ref s2, .ref t0, .ref d, .ref e0, .int u.2.2])), (s0, .inr (3, [.ref f])), (f, .inr (2, [.ref w, .int u.1.2.1, .int u.1.2.2])), (w, .inl (cA, 66, .inl u.1.1)), (s2, .inr (3, [.ref f2])), (f2, .inr (2, [.ref w2, .int ρ.2.1, .int ρ.2.2])), (w2, .inl (cA, 66, .inl ρ.1)), (t0, .inr (4, [.int u.2.1.1, .int u.2.1.2.1, .int u.2.1.2.2.1, .int u.2.1.2.2.2.1, .int u.2.1.2.2.2.2.1, .int u.2.1.2.2.2.2.2])), (d, .inr (1, [.int δ.1, .ref db])), (db, .inl (cA, 24, .inl δ.2)), (e0, .inr (0, [.ref d, .ref s0])), (ou, .inl (cL, 1, .inr (.inl ov)))]) hP hD hS hA [0, 1, 2, 3, 4, 5, 6, 7, 8, 9, 10] [11] [1, 2, 3, 4, 5, 6, 7, 8, 9, 10, 11, 0] rfl rfl (by decide) (by decide) (fun u => rfl) (by decide) (vx_runV (As := [.int p0, .int p1, .int p2, .int p3]) (rest := [.int 0, .ref ou]) ⟨hx, hb, hml, hown, hts⟩ (c_X5_offer l hl9 D cA b s0 f w s2 f2 w2 t0 d db e0 s.heap.size σ ρ τ δ run p0 p1 p2 p3) (cwV 4 hts gL_offer_X5_offer rfl rfl rfl (by decide +kernel) ⟨Nat.le_of_ble_eq_true rfl, Nat.le_of_ble_eq_true rfl⟩) (bx_pvx (ci := 5) (q0 := 0) (hK.sub (tys' := [(cA, .int)]) [0] rfl) hG hZ (hP.sub (ws' := [(b, .inr (5, [.ref s0, .ref s2, .ref t0, .ref d, .ref e0, .int run])), (s0, .inr (3, [.ref f])), (f, .inr (2, [.ref w, .int σ.2.1, .int σ.2.2])), (w, .inl (cA, 66, .inl σ.1)), (s2, .inr (3, [.ref f2])), (f2, .inr (2, [.ref w2, .int ρ.2.1, .int ρ.2.2])), (w2, .inl (cA, 66, .inl ρ.1)), (t0, .inr (4, [.int τ.1, .int τ.2.1, .int τ.2.2.1, .int τ.2.2.2.1, .int τ.2.2.2.2.1, .int τ.2.2.2.2.2])), (d, .inr (1, [.int δ.1, .ref db])), (db, .inl (cA, 24, .inl δ.2)), (e0, .inr (0, [.ref d, .ref s0]))]) [0, 1, 2, 3, 4, 5, 6, 7, 8, 9, 10] rfl) (hD.sub (ws' := [(b, .inr (5, [.ref s0, .ref s2, .ref t0, .ref d, .ref e0, .int run])), (s0, .inr (3, [.ref f])), (f, .inr (2, [.ref w, .int σ.2.1, .int σ.2.2])), (w, .inl (cA, 66, .inl σ.1)), (s2, .inr (3, [.ref f2])), (f2, .inr (2, [.ref w2, .int ρ.2.1, .int ρ.2.2])), (w2, .inl (cA, 66, .inl ρ.1)), (t0, .inr (4, [.int τ.1, .int τ.2.1, .int τ.2.2.1, .int τ.2.2.2.1, .int τ.2.2.2.2.1, .int τ.2.2.2.2.2])), (d, .inr (1, [.int δ.1, .ref db])), (db, .inl (cA, 24, .inl δ.2)), (e0, .inr (0, [.ref d, .ref s0]))]) [0, 1, 2, 3, 4, 5, 6, 7, 8, 9, 10] (by decide) rfl) rfl rfl) rfl rfl hl.1 rfl (lv_room (Nat.le_of_ble_eq_true rfl)) dL_offer_9 ⟨Nat.le_of_ble_eq_true rfl, Nat.le_of_ble_eq_true rfl⟩) (fun E ce q9 H1 locs hE hP hD hS hce hcv hcl => ?_) (fun r u H locs h hP hD hS => ?_)
  · skip
    rcases hE with ⟨hk, rfl⟩ | ⟨hk, rfl⟩ | ⟨hk, rfl⟩
    · skip
      refine vx_catch (name := bx_iae) (E := bx_iae) hown [] ⟨0, 21, 24, 22⟩ [⟨0, 21, 28, 13⟩] htab (fun z hz => nomatch hz) (by decide) (by decide) (hts (.classLink RL 22 bx_iae) (by decide +kernel)) (va_Nw.use rfl (hG.1 (.castable bx_iae bx_iae) (by decide +kernel))) hce hcv hcl ?_
      refine W.eq (g2 := F0 m 24 ls [.ref q9]) rfl ?_
      refine lv_astore (lv' := [(6, .ref q9), (0, .ref b), (1, .int p0), (2, .int p1), (3, .int p2), (4, .int p3), (5, .ref ou)]) hx hb dL_offer_24 hl (by decide) rfl (fun ls hl => ?_)
      refine lv_iconst (v := 1) hx hb dL_offer_26 (by decide) ?_
      refine vx_ret ?_
      exact W.iret (v := 1) hx hb hr (fun t ht hW => ⟨⟨1, (σ, τ, run, ov), rfl, (by simp only [F_L_offer, hk] <;> rfl), ⟨by rw [ht]; exact hP, hD⟩⟩, hS.F ht⟩) hS.2.2 dL_offer_27
    · skip
      refine vx_catch (name := bx_ise) (E := bx_ise) hown [⟨0, 21, 24, 22⟩] ⟨0, 21, 28, 13⟩ [] htab (fun z hz => by simp only [List.mem_singleton] at hz; subst hz; exact Or.inr ⟨(by decide), bx_iae, hts (.classLink RL 22 bx_iae) (by decide +kernel), hG.2.1 (bx_ise, bx_iae) (by decide)⟩) (by decide) (by decide) (hts (.classLink RL 13 bx_ise) (by decide +kernel)) (va_Nw.use rfl (hG.1 (.castable bx_ise bx_ise) (by decide +kernel))) hce hcv hcl ?_
      refine W.eq (g2 := F0 m 28 ls [.ref q9]) rfl ?_
      refine lv_astore (lv' := [(6, .ref q9), (0, .ref b), (1, .int p0), (2, .int p1), (3, .int p2), (4, .int p3), (5, .ref ou)]) hx hb dL_offer_28 hl (by decide) rfl (fun ls hl => ?_)
      refine lv_iconst (v := 2) hx hb dL_offer_30 (by decide) ?_
      refine vx_ret ?_
      exact W.iret (v := 2) hx hb hr (fun t ht hW => ⟨⟨2, (σ, τ, run, ov), rfl, (by simp only [F_L_offer, hk] <;> rfl), ⟨by rw [ht]; exact hP, hD⟩⟩, hS.F ht⟩) hS.2.2 dL_offer_31
    · skip
      exact absurd hk (nc3_offer _ _ _ _ _ _ _)
  · skip
    obtain ⟨σ1, τ1, run1⟩ := u
    obtain ⟨h, hb9⟩ := h
    have hP : va_P D vwCl [(b, .inr (5, [.ref s0, .ref s2, .ref t0, .ref d, .ref e0, .int run1])), (s0, .inr (3, [.ref f])), (f, .inr (2, [.ref w, .int σ1.2.1, .int σ1.2.2])), (w, .inl (cA, 66, .inl σ1.1)), (s2, .inr (3, [.ref f2])), (f2, .inr (2, [.ref w2, .int ρ.2.1, .int ρ.2.2])), (w2, .inl (cA, 66, .inl ρ.1)), (t0, .inr (4, [.int τ1.1, .int τ1.2.1, .int τ1.2.2.1, .int τ1.2.2.2.1, .int τ1.2.2.2.2.1, .int τ1.2.2.2.2.2])), (d, .inr (1, [.int δ.1, .ref db])), (db, .inl (cA, 24, .inl δ.2)), (e0, .inr (0, [.ref d, .ref s0])), (ou, .inl (cL, 1, .inr (.inl ov)))] H := hP
    have hD : va_D A [(b, .inr (5, [.ref s0, .ref s2, .ref t0, .ref d, .ref e0, .int run1])), (s0, .inr (3, [.ref f])), (f, .inr (2, [.ref w, .int σ1.2.1, .int σ1.2.2])), (w, .inl (cA, 66, .inl σ1.1)), (s2, .inr (3, [.ref f2])), (f2, .inr (2, [.ref w2, .int ρ.2.1, .int ρ.2.2])), (w2, .inl (cA, 66, .inl ρ.1)), (t0, .inr (4, [.int τ1.1, .int τ1.2.1, .int τ1.2.2.1, .int τ1.2.2.2.1, .int τ1.2.2.2.2.1, .int τ1.2.2.2.2.2])), (d, .inr (1, [.int δ.1, .ref db])), (db, .inl (cA, 24, .inl δ.2)), (e0, .inr (0, [.ref d, .ref s0])), (ou, .inl (cL, 1, .inr (.inl ov)))] := hD
    refine lv_if_eq (tgt := 19) hx hb dL_offer_12 (by decide) (fun c_1 => ?_) (fun c_1 => ?_)
    · skip
      refine lv_lconst (v := 0) hx hb dL_offer_19 rfl ?_
      refine va_last (D := D) hx hb hK hP hD hS 11 1 rfl rfl (vp_in_iff.mpr (by decide)) dL_offer_20 (fun H locs hP hD hS => ?_)
      have hP : va_P D vwCl [(b, .inr (5, [.ref s0, .ref s2, .ref t0, .ref d, .ref e0, .int run1])), (s0, .inr (3, [.ref f])), (f, .inr (2, [.ref w, .int σ1.2.1, .int σ1.2.2])), (w, .inl (cA, 66, .inl σ1.1)), (s2, .inr (3, [.ref f2])), (f2, .inr (2, [.ref w2, .int ρ.2.1, .int ρ.2.2])), (w2, .inl (cA, 66, .inl ρ.1)), (t0, .inr (4, [.int τ1.1, .int τ1.2.1, .int τ1.2.2.1, .int τ1.2.2.2.1, .int τ1.2.2.2.2.1, .int τ1.2.2.2.2.2])), (d, .inr (1, [.int δ.1, .ref db])), (db, .inl (cA, 24, .inl δ.2)), (e0, .inr (0, [.ref d, .ref s0])), (ou, .inl (cL, 1, .inr (.inl (vp_updL ov 0 0))))] H := hP
      have hD : va_D A [(b, .inr (5, [.ref s0, .ref s2, .ref t0, .ref d, .ref e0, .int run1])), (s0, .inr (3, [.ref f])), (f, .inr (2, [.ref w, .int σ1.2.1, .int σ1.2.2])), (w, .inl (cA, 66, .inl σ1.1)), (s2, .inr (3, [.ref f2])), (f2, .inr (2, [.ref w2, .int ρ.2.1, .int ρ.2.2])), (w2, .inl (cA, 66, .inl ρ.1)), (t0, .inr (4, [.int τ1.1, .int τ1.2.1, .int τ1.2.2.1, .int τ1.2.2.2.1, .int τ1.2.2.2.2.1, .int τ1.2.2.2.2.2])), (d, .inr (1, [.int δ.1, .ref db])), (db, .inl (cA, 24, .inl δ.2)), (e0, .inr (0, [.ref d, .ref s0])), (ou, .inl (cL, 1, .inr (.inl (vp_updL ov 0 0))))] := hD
      refine lv_goto (tgt := 32) hx hb dL_offer_21 (by decide) ?_
      refine lv_iconst (v := 0) hx hb dL_offer_32 (by decide) ?_
      refine vx_ret ?_
      refine W.widen (k := 1) (n := 6) (Nat.le_of_ble_eq_true rfl) (Nat.le_of_ble_eq_true rfl) ?_
      exact W.iret (v := 0) hx hb hr (fun t ht hW => ⟨⟨0, (σ1, τ1, run1, (vp_updL ov 0 0)), rfl, (by simp only [F_L_offer, ← h, if_pos c_1] <;> rfl), ⟨by rw [ht]; exact hP, hD⟩⟩, hS.F ht⟩) hS.2.2 dL_offer_33
    · skip
      refine lv_lconst (v := 1) hx hb dL_offer_15 rfl ?_
      refine lv_goto (tgt := 20) hx hb dL_offer_16 (by decide) ?_
      refine va_last (D := D) hx hb hK hP hD hS 11 1 rfl rfl (vp_in_iff.mpr (by decide)) dL_offer_20 (fun H locs hP hD hS => ?_)
      have hP : va_P D vwCl [(b, .inr (5, [.ref s0, .ref s2, .ref t0, .ref d, .ref e0, .int run1])), (s0, .inr (3, [.ref f])), (f, .inr (2, [.ref w, .int σ1.2.1, .int σ1.2.2])), (w, .inl (cA, 66, .inl σ1.1)), (s2, .inr (3, [.ref f2])), (f2, .inr (2, [.ref w2, .int ρ.2.1, .int ρ.2.2])), (w2, .inl (cA, 66, .inl ρ.1)), (t0, .inr (4, [.int τ1.1, .int τ1.2.1, .int τ1.2.2.1, .int τ1.2.2.2.1, .int τ1.2.2.2.2.1, .int τ1.2.2.2.2.2])), (d, .inr (1, [.int δ.1, .ref db])), (db, .inl (cA, 24, .inl δ.2)), (e0, .inr (0, [.ref d, .ref s0])), (ou, .inl (cL, 1, .inr (.inl (vp_updL ov 0 1))))] H := hP
      have hD : va_D A [(b, .inr (5, [.ref s0, .ref s2, .ref t0, .ref d, .ref e0, .int run1])), (s0, .inr (3, [.ref f])), (f, .inr (2, [.ref w, .int σ1.2.1, .int σ1.2.2])), (w, .inl (cA, 66, .inl σ1.1)), (s2, .inr (3, [.ref f2])), (f2, .inr (2, [.ref w2, .int ρ.2.1, .int ρ.2.2])), (w2, .inl (cA, 66, .inl ρ.1)), (t0, .inr (4, [.int τ1.1, .int τ1.2.1, .int τ1.2.2.1, .int τ1.2.2.2.1, .int τ1.2.2.2.2.1, .int τ1.2.2.2.2.2])), (d, .inr (1, [.int δ.1, .ref db])), (db, .inl (cA, 24, .inl δ.2)), (e0, .inr (0, [.ref d, .ref s0])), (ou, .inl (cL, 1, .inr (.inl (vp_updL ov 0 1))))] := hD
      refine lv_goto (tgt := 32) hx hb dL_offer_21 (by decide) ?_
      refine lv_iconst (v := 0) hx hb dL_offer_32 (by decide) ?_
      refine vx_ret ?_
      refine W.widen (k := 1) (n := 6) (Nat.le_of_ble_eq_true rfl) (Nat.le_of_ble_eq_true rfl) ?_
      exact W.iret (v := 0) hx hb hr (fun t ht hW => ⟨⟨0, (σ1, τ1, run1, (vp_updL ov 0 1)), rfl, (by simp only [F_L_offer, ← h, if_neg c_1] <;> rfl), ⟨by rw [ht]; exact hP, hD⟩⟩, hS.F ht⟩) hS.2.2 dL_offer_33
def F_L_put (σ : FS) (τ : TS) (run : Int32) (ov : Nat → Int64) (p0 : Int32) : Int32 × (FS) × (TS) × (Int32) × (Nat → Int64) := if (F_X5_put σ τ run p0).1 = 0 then (0, (F_X5_put σ τ run p0).2.2.1, (F_X5_put σ τ run p0).2.2.2.1, (F_X5_put σ τ run p0).2.2.2.2, (vp_updL ov 0 (if (F_X5_put σ τ run p0).2.1 = 0 then 0 else 1))) else ((F_X5_put σ τ run p0).1, σ, τ, run, ov)
set_option maxHeartbeats 4000000 in
set_option maxRecDepth 100000 in
theorem c_L_put (l : Launch) (hl9 : l.stackTraces = false) (D : va_G) (cA cL : ClassId) (b s0 f w s2 f2 w2 t0 d db e0 ou : Nat) (sz : Nat) (σ : FS) (ρ : FS) (τ : TS) (δ : DS) (run : Int32) (ov : Nat → Int64) (p0 : Int32) : vx_Met l yL_put wsL_put ({ frames := 8, cells := 1, slots := 6, locals := 133 }) (va_Pc [.ref b, .int p0, .ref ou] (bx_prx D [(cA, .int), (cL, .long)] (wWr cA cL b s0 f w s2 f2 w2 t0 d db e0 ou σ ρ τ δ run ov) sz)) (va_Qi (fun (r : Int32) (u : (FS) × (TS) × (Int32) × (Nat → Int64)) => (r, u) = F_L_put σ τ run ov p0) (fun u t => bx_at D (wWr cA cL b s0 f w s2 f2 w2 t0 d db e0 ou u.1 ρ u.2.1 δ u.2.2.1 u.2.2.2) (va_A (wWr cA cL b s0 f w s2 f2 w2 t0 d db e0 ou σ ρ τ δ run ov) sz) t) (va_A (wWr cA cL b s0 f w s2 f2 w2 t0 d db e0 ou σ ρ τ δ run ov) sz)) (fun _ _ _ => False) 1 6 (va_A (wWr cA cL b s0 f w s2 f2 w2 t0 d db e0 ou σ ρ τ δ run ov) sz) := by
  refine vx_ofWH (cc := cL_put) (maxL := 4) (ret := (some .int)) (hh := [(0, 16, 19, 22), (0, 16, 22, 13)]) (by decide) rfl ?_
  intro p e s m args below meth c s₁ B hml hv
  obtain ⟨rfl, hsz, hP, hK, hD0, hG, hZ⟩ := hv
  have hx := B.exec
  have hb := B.bytes
  have hr := B.returns
  have hts := atoms_spec (ws := wsL_put) B.pre
  have hown : s.vm.findClass RL = some m.cls := findClass_of_methodNamed B.named
  have hlocks := B.notSynchronized
  have htab := vx_table (x := yL_put) B (hts _ List.mem_cons_self)
  subst hsz
  have hD := hD0.self (sz := s.heap.size)
  generalize hAe : va_A (wWr cA cL b s0 f w s2 f2 w2 t0 d db e0 ou σ ρ τ δ run ov) s.heap.size = A at hD ⊢
  have hA : ∀ q : Nat, s.heap.size ≤ q → A q := fun q h => by rw [← hAe]; exact Or.inr h
  have hS : va_S A s.heap s.heap [] := va_S.rf
  have hD : va_D A [(b, .inr (5, [.ref s0, .ref s2, .ref t0, .ref d, .ref e0, .int run])), (s0, .inr (3, [.ref f])), (f, .inr (2, [.ref w, .int σ.2.1, .int σ.2.2])), (w, .inl (cA, 66, .inl σ.1)), (s2, .inr (3, [.ref f2])), (f2, .inr (2, [.ref w2, .int ρ.2.1, .int ρ.2.2])), (w2, .inl (cA, 66, .inl ρ.1)), (t0, .inr (4, [.int τ.1, .int τ.2.1, .int τ.2.2.1, .int τ.2.2.2.1, .int τ.2.2.2.2.1, .int τ.2.2.2.2.2])), (d, .inr (1, [.int δ.1, .ref db])), (db, .inl (cA, 24, .inl δ.2)), (e0, .inr (0, [.ref d, .ref s0])), (ou, .inl (cL, 1, .inr (.inl ov)))] := hD
  have hP : va_P D vwCl [(b, .inr (5, [.ref s0, .ref s2, .ref t0, .ref d, .ref e0, .int run])), (s0, .inr (3, [.ref f])), (f, .inr (2, [.ref w, .int σ.2.1, .int σ.2.2])), (w, .inl (cA, 66, .inl σ.1)), (s2, .inr (3, [.ref f2])), (f2, .inr (2, [.ref w2, .int ρ.2.1, .int ρ.2.2])), (w2, .inl (cA, 66, .inl ρ.1)), (t0, .inr (4, [.int τ.1, .int τ.2.1, .int τ.2.2.1, .int τ.2.2.2.1, .int τ.2.2.2.2.1, .int τ.2.2.2.2.2])), (d, .inr (1, [.int δ.1, .ref db])), (db, .inl (cA, 24, .inl δ.2)), (e0, .inr (0, [.ref d, .ref s0])), (ou, .inl (cL, 1, .inr (.inl ov)))] s.heap := hP
  have hl := lv_entry ([.ref b, .int p0, .ref ou]) (n := 4) (Nat.le_of_ble_eq_true rfl)
  rw [lg_entry_eq]
  generalize (lg_sl ([.ref b, .int p0, .ref ou]) ++ List.replicate (4 - (lg_sl ([.ref b, .int p0, .ref ou])).length) Slot.unset).toArray = ls at hl ⊢
  have hl : lv_has ls 4 [(0, .ref b), (1, .int p0), (2, .ref ou)] := hl
  refine lv_aload_n hx hb dL_put_0 rfl (lv_at hl 2 rfl) ?_
  refine lv_iconst (v := 0) hx hb dL_put_1 (by decide) ?_
  refine lv_aload_n hx hb dL_put_2 rfl (lv_at hl 0 rfl) ?_
  refine lv_iload_n hx hb dL_put_3 rfl (lv_at hl 1 rfl) ?_
  refine bx_xwi (wc := [(b, .inr (5, [.ref s0, .ref s2, .ref t0, .ref d, .ref e0, .int run])), (s0, .inr (3, [.ref f])), (f, .inr (2, [.ref w, .int σ.2.1, .int σ.2.2])), (w, .inl (cA, 66, .inl σ.1)), (s2, .inr (3, [.ref f2])), (f2, .inr (2, [.ref w2, .int ρ.2.1, .int ρ.2.2])), (w2, .inl (cA, 66, .inl ρ.1)), (t0, .inr (4, [.int τ.1, .int τ.2.1, .int τ.2.2.1, .int τ.2.2.2.1, .int τ.2.2.2.2.1, .int τ.2.2.2.2.2])), (d, .inr (1, [.int δ.1, .ref db])), (db, .inl (cA, 24, .inl δ.2)), (e0, .inr (0, [.ref d, .ref s0]))]) (wr := [(ou, .inl (cL, 1, .inr (.inl ov)))]) (wf := fun (u : (FS) × (TS) × (Int32)) => [(b, .inr (5, [.ref s0, .ref s2, .ref t0, .ref d, .ref e0, .int u.2.2])), (s0, .inr (3, [.ref f])), (f, .inr (2, [.ref w, .int u.1.2.1, .int u.1.2.2])), (w, .inl (cA, 66, .inl u.1.1)), (s2, .inr (3, [.ref f2])), (f2, .inr (2, [.ref w2, .int ρ.2.1, .int ρ.2.2])), (w2, .inl (cA, 66, .inl ρ.1)), (t0, .inr (4, [.int u.2.1.1, .int u.2.1.2.1, .int u.2.1.2.2.1, .int u.2.1.2.2.2.1, .int u.2.1.2.2.2.2.1, .int u.2.1.2.2.2.2.2])), (d, .inr (1, [.int δ.1, .ref db])), (db, .inl (cA, 24, .inl δ.2)), (e0, .inr (0, [.ref d, .ref s0]))]) (wn := fun (u : (FS) × (TS) × (Int32)) => [(b, .inr (5, [.ref s0, .ref s2, .ref t0, .ref d, .ref e0, .int u.2.2])), (s0, .inr (3, [.ref f])), (f, .inr (2, [.ref w, .int u.1.2.1, .int u.1.2.2])), (w, .inl (cA, 66, .inl u.1.1)), (s2, .inr (3, [.ref f2])), (f2, .inr (2, [.ref w2, .int ρ.2.1, .int ρ.2.2])), (w2, .inl (cA, 66, .inl ρ.1)), (t0, .inr (4, [.int u.2.1.1, .int u.2.1.2.1, .int u.2.1.2.2.1, .int u.2.1.2.2.2.1, .int u.2.1.2.2.2.2.1, .int u.2.1.2.2.2.2.2])), (d, .inr (1, [.int δ.1, .ref db])), (db, .inl (cA, 24, .inl δ.2)), (e0, .inr (0, [.ref d, .ref s0])), (ou, .inl (cL, 1, .inr (.inl ov)))]) hP hD hS hA [0, 1, 2, 3, 4, 5, 6, 7, 8, 9, 10] [11] [1, 2, 3, 4, 5, 6, 7, 8, 9, 10, 11, 0] rfl rfl (by decide) (by decide) (fun u => rfl) (by decide) (vx_runV (As := [.int p0]) (rest := [.int 0, .ref ou]) ⟨hx, hb, hml, hown, hts⟩ (c_X5_put l hl9 D cA b s0 f w s2 f2 w2 t0 d db e0 s.heap.size σ ρ τ δ run p0) (cwV 1 hts gL_put_X5_put rfl rfl rfl (by decide +kernel) ⟨Nat.le_of_ble_eq_true rfl, Nat.le_of_ble_eq_true rfl⟩) (bx_pvx (ci := 5) (q0 := 0) (hK.sub (tys' := [(cA, .int)]) [0] rfl) hG hZ (hP.sub (ws' := [(b, .inr (5, [.ref s0, .ref s2, .ref t0, .ref d, .ref e0, .int run])), (s0, .inr (3, [.ref f])), (f, .inr (2, [.ref w, .int σ.2.1, .int σ.2.2])), (w, .inl (cA, 66, .inl σ.1)), (s2, .inr (3, [.ref f2])), (f2, .inr (2, [.ref w2, .int ρ.2.1, .int ρ.2.2])), (w2, .inl (cA, 66, .inl ρ.1)), (t0, .inr (4, [.int τ.1, .int τ.2.1, .int τ.2.2.1, .int τ.2.2.2.1, .int τ.2.2.2.2.1, .int τ.2.2.2.2.2])), (d, .inr (1, [.int δ.1, .ref db])), (db, .inl (cA, 24, .inl δ.2)), (e0, .inr (0, [.ref d, .ref s0]))]) [0, 1, 2, 3, 4, 5, 6, 7, 8, 9, 10] rfl) (hD.sub (ws' := [(b, .inr (5, [.ref s0, .ref s2, .ref t0, .ref d, .ref e0, .int run])), (s0, .inr (3, [.ref f])), (f, .inr (2, [.ref w, .int σ.2.1, .int σ.2.2])), (w, .inl (cA, 66, .inl σ.1)), (s2, .inr (3, [.ref f2])), (f2, .inr (2, [.ref w2, .int ρ.2.1, .int ρ.2.2])), (w2, .inl (cA, 66, .inl ρ.1)), (t0, .inr (4, [.int τ.1, .int τ.2.1, .int τ.2.2.1, .int τ.2.2.2.1, .int τ.2.2.2.2.1, .int τ.2.2.2.2.2])), (d, .inr (1, [.int δ.1, .ref db])), (db, .inl (cA, 24, .inl δ.2)), (e0, .inr (0, [.ref d, .ref s0]))]) [0, 1, 2, 3, 4, 5, 6, 7, 8, 9, 10] (by decide) rfl) rfl rfl) rfl rfl hl.1 rfl (lv_room (Nat.le_of_ble_eq_true rfl)) dL_put_4 ⟨Nat.le_of_ble_eq_true rfl, Nat.le_of_ble_eq_true rfl⟩) (fun E ce q9 H1 locs hE hP hD hS hce hcv hcl => ?_) (fun r u H locs h hP hD hS => ?_)
  · skip
    rcases hE with ⟨hk, rfl⟩ | ⟨hk, rfl⟩ | ⟨hk, rfl⟩
    · skip
      refine vx_catch (name := bx_iae) (E := bx_iae) hown [] ⟨0, 16, 19, 22⟩ [⟨0, 16, 22, 13⟩] htab (fun z hz => nomatch hz) (by decide) (by decide) (hts (.classLink RL 22 bx_iae) (by decide +kernel)) (va_Nw.use rfl (hG.1 (.castable bx_iae bx_iae) (by decide +kernel))) hce hcv hcl ?_
      refine W.eq (g2 := F0 m 19 ls [.ref q9]) rfl ?_
      refine lv_astore_n (lv' := [(3, .ref q9), (0, .ref b), (1, .int p0), (2, .ref ou)]) hx hb dL_put_19 rfl hl (by decide) rfl (fun ls hl => ?_)
      refine lv_iconst (v := 1) hx hb dL_put_20 (by decide) ?_
      refine vx_ret ?_
      exact W.iret (v := 1) hx hb hr (fun t ht hW => ⟨⟨1, (σ, τ, run, ov), rfl, (by simp only [F_L_put, hk] <;> rfl), ⟨by rw [ht]; exact hP, hD⟩⟩, hS.F ht⟩) hS.2.2 dL_put_21
    · skip
      refine vx_catch (name := bx_ise) (E := bx_ise) hown [⟨0, 16, 19, 22⟩] ⟨0, 16, 22, 13⟩ [] htab (fun z hz => by simp only [List.mem_singleton] at hz; subst hz; exact Or.inr ⟨(by decide), bx_iae, hts (.classLink RL 22 bx_iae) (by decide +kernel), hG.2.1 (bx_ise, bx_iae) (by decide)⟩) (by decide) (by decide) (hts (.classLink RL 13 bx_ise) (by decide +kernel)) (va_Nw.use rfl (hG.1 (.castable bx_ise bx_ise) (by decide +kernel))) hce hcv hcl ?_
      refine W.eq (g2 := F0 m 22 ls [.ref q9]) rfl ?_
      refine lv_astore_n (lv' := [(3, .ref q9), (0, .ref b), (1, .int p0), (2, .ref ou)]) hx hb dL_put_22 rfl hl (by decide) rfl (fun ls hl => ?_)
      refine lv_iconst (v := 2) hx hb dL_put_23 (by decide) ?_
      refine vx_ret ?_
      exact W.iret (v := 2) hx hb hr (fun t ht hW => ⟨⟨2, (σ, τ, run, ov), rfl, (by simp only [F_L_put, hk] <;> rfl), ⟨by rw [ht]; exact hP, hD⟩⟩, hS.F ht⟩) hS.2.2 dL_put_24
    · skip
      exact absurd hk (nc3_put _ _ _ _)
  · skip
    obtain ⟨σ1, τ1, run1⟩ := u
    obtain ⟨h, hb9⟩ := h
    have hP : va_P D vwCl [(b, .inr (5, [.ref s0, .ref s2, .ref t0, .ref d, .ref e0, .int run1])), (s0, .inr (3, [.ref f])), (f, .inr (2, [.ref w, .int σ1.2.1, .int σ1.2.2])), (w, .inl (cA, 66, .inl σ1.1)), (s2, .inr (3, [.ref f2])), (f2, .inr (2, [.ref w2, .int ρ.2.1, .int ρ.2.2])), (w2, .inl (cA, 66, .inl ρ.1)), (t0, .inr (4, [.int τ1.1, .int τ1.2.1, .int τ1.2.2.1, .int τ1.2.2.2.1, .int τ1.2.2.2.2.1, .int τ1.2.2.2.2.2])), (d, .inr (1, [.int δ.1, .ref db])), (db, .inl (cA, 24, .inl δ.2)), (e0, .inr (0, [.ref d, .ref s0])), (ou, .inl (cL, 1, .inr (.inl ov)))] H := hP
    have hD : va_D A [(b, .inr (5, [.ref s0, .ref s2, .ref t0, .ref d, .ref e0, .int run1])), (s0, .inr (3, [.ref f])), (f, .inr (2, [.ref w, .int σ1.2.1, .int σ1.2.2])), (w, .inl (cA, 66, .inl σ1.1)), (s2, .inr (3, [.ref f2])), (f2, .inr (2, [.ref w2, .int ρ.2.1, .int ρ.2.2])), (w2, .inl (cA, 66, .inl ρ.1)), (t0, .inr (4, [.int τ1.1, .int τ1.2.1, .int τ1.2.2.1, .int τ1.2.2.2.1, .int τ1.2.2.2.2.1, .int τ1.2.2.2.2.2])), (d, .inr (1, [.int δ.1, .ref db])), (db, .inl (cA, 24, .inl δ.2)), (e0, .inr (0, [.ref d, .ref s0])), (ou, .inl (cL, 1, .inr (.inl ov)))] := hD
    refine lv_if_eq (tgt := 14) hx hb dL_put_7 (by decide) (fun c_1 => ?_) (fun c_1 => ?_)
    · skip
      refine lv_lconst (v := 0) hx hb dL_put_14 rfl ?_
      refine va_last (D := D) hx hb hK hP hD hS 11 1 rfl rfl (vp_in_iff.mpr (by decide)) dL_put_15 (fun H locs hP hD hS => ?_)
      have hP : va_P D vwCl [(b, .inr (5, [.ref s0, .ref s2, .ref t0, .ref d, .ref e0, .int run1])), (s0, .inr (3, [.ref f])), (f, .inr (2, [.ref w, .int σ1.2.1, .int σ1.2.2])), (w, .inl (cA, 66, .inl σ1.1)), (s2, .inr (3, [.ref f2])), (f2, .inr (2, [.ref w2, .int ρ.2.1, .int ρ.2.2])), (w2, .inl (cA, 66, .inl ρ.1)), (t0, .inr (4, [.int τ1.1, .int τ1.2.1, .int τ1.2.2.1, .int τ1.2.2.2.1, .int τ1.2.2.2.2.1, .int τ1.2.2.2.2.2])), (d, .inr (1, [.int δ.1, .ref db])), (db, .inl (cA, 24, .inl δ.2)), (e0, .inr (0, [.ref d, .ref s0])), (ou, .inl (cL, 1, .inr (.inl (vp_updL ov 0 0))))] H := hP
      have hD : va_D A [(b, .inr (5, [.ref s0, .ref s2, .ref t0, .ref d, .ref e0, .int run1])), (s0, .inr (3, [.ref f])), (f, .inr (2, [.ref w, .int σ1.2.1, .int σ1.2.2])), (w, .inl (cA, 66, .inl σ1.1)), (s2, .inr (3, [.ref f2])), (f2, .inr (2, [.ref w2, .int ρ.2.1, .int ρ.2.2])), (w2, .inl (cA, 66, .inl ρ.1)), (t0, .inr (4, [.int τ1.1, .int τ1.2.1, .int τ1.2.2.1, .int τ1.2.2.2.1, .int τ1.2.2.2.2.1, .int τ1.2.2.2.2.2])), (d, .inr (1, [.int δ.1, .ref db])), (db, .inl (cA, 24, .inl δ.2)), (e0, .inr (0, [.ref d, .ref s0])), (ou, .inl (cL, 1, .inr (.inl (vp_updL ov 0 0))))] := hD
      refine lv_goto (tgt := 25) hx hb dL_put_16 (by decide) ?_
      refine lv_iconst (v := 0) hx hb dL_put_25 (by decide) ?_
      refine vx_ret ?_
      refine W.widen (k := 1) (n := 6) (Nat.le_of_ble_eq_true rfl) (Nat.le_of_ble_eq_true rfl) ?_
      exact W.iret (v := 0) hx hb hr (fun t ht hW => ⟨⟨0, (σ1, τ1, run1, (vp_updL ov 0 0)), rfl, (by simp only [F_L_put, ← h, if_pos c_1] <;> rfl), ⟨by rw [ht]; exact hP, hD⟩⟩, hS.F ht⟩) hS.2.2 dL_put_26
    · skip
      refine lv_lconst (v := 1) hx hb dL_put_10 rfl ?_
      refine lv_goto (tgt := 15) hx hb dL_put_11 (by decide) ?_
      refine va_last (D := D) hx hb hK hP hD hS 11 1 rfl rfl (vp_in_iff.mpr (by decide)) dL_put_15 (fun H locs hP hD hS => ?_)
      have hP : va_P D vwCl [(b, .inr (5, [.ref s0, .ref s2, .ref t0, .ref d, .ref e0, .int run1])), (s0, .inr (3, [.ref f])), (f, .inr (2, [.ref w, .int σ1.2.1, .int σ1.2.2])), (w, .inl (cA, 66, .inl σ1.1)), (s2, .inr (3, [.ref f2])), (f2, .inr (2, [.ref w2, .int ρ.2.1, .int ρ.2.2])), (w2, .inl (cA, 66, .inl ρ.1)), (t0, .inr (4, [.int τ1.1, .int τ1.2.1, .int τ1.2.2.1, .int τ1.2.2.2.1, .int τ1.2.2.2.2.1, .int τ1.2.2.2.2.2])), (d, .inr (1, [.int δ.1, .ref db])), (db, .inl (cA, 24, .inl δ.2)), (e0, .inr (0, [.ref d, .ref s0])), (ou, .inl (cL, 1, .inr (.inl (vp_updL ov 0 1))))] H := hP
      have hD : va_D A [(b, .inr (5, [.ref s0, .ref s2, .ref t0, .ref d, .ref e0, .int run1])), (s0, .inr (3, [.ref f])), (f, .inr (2, [.ref w, .int σ1.2.1, .int σ1.2.2])), (w, .inl (cA, 66, .inl σ1.1)), (s2, .inr (3, [.ref f2])), (f2, .inr (2, [.ref w2, .int ρ.2.1, .int ρ.2.2])), (w2, .inl (cA, 66, .inl ρ.1)), (t0, .inr (4, [.int τ1.1, .int τ1.2.1, .int τ1.2.2.1, .int τ1.2.2.2.1, .int τ1.2.2.2.2.1, .int τ1.2.2.2.2.2])), (d, .inr (1, [.int δ.1, .ref db])), (db, .inl (cA, 24, .inl δ.2)), (e0, .inr (0, [.ref d, .ref s0])), (ou, .inl (cL, 1, .inr (.inl (vp_updL ov 0 1))))] := hD
      refine lv_goto (tgt := 25) hx hb dL_put_16 (by decide) ?_
      refine lv_iconst (v := 0) hx hb dL_put_25 (by decide) ?_
      refine vx_ret ?_
      refine W.widen (k := 1) (n := 6) (Nat.le_of_ble_eq_true rfl) (Nat.le_of_ble_eq_true rfl) ?_
      exact W.iret (v := 0) hx hb hr (fun t ht hW => ⟨⟨0, (σ1, τ1, run1, (vp_updL ov 0 1)), rfl, (by simp only [F_L_put, ← h, if_neg c_1] <;> rfl), ⟨by rw [ht]; exact hP, hD⟩⟩, hS.F ht⟩) hS.2.2 dL_put_26
def F_L_copy (σ : FS) (τ : TS) (run : Int32) (ov : Nat → Int64) (p0 : Int32) (p1 : Int32) : Int32 × (FS) × (TS) × (Int32) × (Nat → Int64) := if (F_X5_copy σ τ run p0 p1).1 = 0 then (0, (F_X5_copy σ τ run p0 p1).2.2.1, (F_X5_copy σ τ run p0 p1).2.2.2.1, (F_X5_copy σ τ run p0 p1).2.2.2.2, (vp_updL ov 0 (F_X5_copy σ τ run p0 p1).2.1.toInt64)) else ((F_X5_copy σ τ run p0 p1).1, σ, τ, run, ov)
set_option maxHeartbeats 4000000 in
set_option maxRecDepth 100000 in
theorem c_L_copy (l : Launch) (hl9 : l.stackTraces = false) (D : va_G) (cA cL : ClassId) (b s0 f w s2 f2 w2 t0 d db e0 ou : Nat) (sz : Nat) (σ : FS) (ρ : FS) (τ : TS) (δ : DS) (run : Int32) (ov : Nat → Int64) (p0 : Int32) (p1 : Int32) : vx_Met l yL_copy wsL_copy ({ frames := 8, cells := 1, slots := 6, locals := 136 }) (va_Pc [.ref b, .int p0, .int p1, .ref ou] (bx_prx D [(cA, .int), (cL, .long)] (wWr cA cL b s0 f w s2 f2 w2 t0 d db e0 ou σ ρ τ δ run ov) sz)) (va_Qi (fun (r : Int32) (u : (FS) × (TS) × (Int32) × (Nat → Int64)) => (r, u) = F_L_copy σ τ run ov p0 p1) (fun u t => bx_at D (wWr cA cL b s0 f w s2 f2 w2 t0 d db e0 ou u.1 ρ u.2.1 δ u.2.2.1 u.2.2.2) (va_A (wWr cA cL b s0 f w s2 f2 w2 t0 d db e0 ou σ ρ τ δ run ov) sz) t) (va_A (wWr cA cL b s0 f w s2 f2 w2 t0 d db e0 ou σ ρ τ δ run ov) sz)) (fun _ _ _ => False) 1 6 (va_A (wWr cA cL b s0 f w s2 f2 w2 t0 d db e0 ou σ ρ τ δ run ov) sz) := by
  refine vx_ofWH (cc := cL_copy) (maxL := 5) (ret := (some .int)) (hh := [(0, 10, 13, 22), (0, 10, 17, 13)]) (by decide) rfl ?_
  intro p e s m args below meth c s₁ B hml hv
  obtain ⟨rfl, hsz, hP, hK, hD0, hG, hZ⟩ := hv
  have hx := B.exec
  have hb := B.bytes
  have hr := B.returns
  have hts := atoms_spec (ws := wsL_copy) B.pre
  have hown : s.vm.findClass RL = some m.cls := findClass_of_methodNamed B.named
  have hlocks := B.notSynchronized
  have htab := vx_table (x := yL_copy) B (hts _ List.mem_cons_self)
  subst hsz
  have hD := hD0.self (sz := s.heap.size)
  generalize hAe : va_A (wWr cA cL b s0 f w s2 f2 w2 t0 d db e0 ou σ ρ τ δ run ov) s.heap.size = A at hD ⊢
  have hA : ∀ q : Nat, s.heap.size ≤ q → A q := fun q h => by rw [← hAe]; exact Or.inr h
  have hS : va_S A s.heap s.heap [] := va_S.rf
  have hD : va_D A [(b, .inr (5, [.ref s0, .ref s2, .ref t0, .ref d, .ref e0, .int run])), (s0, .inr (3, [.ref f])), (f, .inr (2, [.ref w, .int σ.2.1, .int σ.2.2])), (w, .inl (cA, 66, .inl σ.1)), (s2, .inr (3, [.ref f2])), (f2, .inr (2, [.ref w2, .int ρ.2.1, .int ρ.2.2])), (w2, .inl (cA, 66, .inl ρ.1)), (t0, .inr (4, [.int τ.1, .int τ.2.1, .int τ.2.2.1, .int τ.2.2.2.1, .int τ.2.2.2.2.1, .int τ.2.2.2.2.2])), (d, .inr (1, [.int δ.1, .ref db])), (db, .inl (cA, 24, .inl δ.2)), (e0, .inr (0, [.ref d, .ref s0])), (ou, .inl (cL, 1, .inr (.inl ov)))] := hD
  have hP : va_P D vwCl [(b, .inr (5, [.ref s0, .ref s2, .ref t0, .ref d, .ref e0, .int run])), (s0, .inr (3, [.ref f])), (f, .inr (2, [.ref w, .int σ.2.1, .int σ.2.2])), (w, .inl (cA, 66, .inl σ.1)), (s2, .inr (3, [.ref f2])), (f2, .inr (2, [.ref w2, .int ρ.2.1, .int ρ.2.2])), (w2, .inl (cA, 66, .inl ρ.1)), (t0, .inr (4, [.int τ.1, .int τ.2.1, .int τ.2.2.1, .int τ.2.2.2.1, .int τ.2.2.2.2.1, .int τ.2.2.2.2.2])), (d, .inr (1, [.int δ.1, .ref db])), (db, .inl (cA, 24, .inl δ.2)), (e0, .inr (0, [.ref d, .ref s0])), (ou, .inl (cL, 1, .inr (.inl ov)))] s.heap := hP
  have hl := lv_entry ([.ref b, .int p0, .int p1, .ref ou]) (n := 5) (Nat.le_of_ble_eq_true rfl)
  rw [lg_entry_eq]
  generalize (lg_sl ([.ref b, .int p0, .int p1, .ref ou]) ++ List.replicate (5 - (lg_sl ([.ref b, .int p0, .int p1, .ref ou])).length) Slot.unset).toArray = ls at hl ⊢
  have hl : lv_has ls 5 [(0, .ref b), (1, .int p0), (2, .int p1), (3, .ref ou)] := hl
  refine lv_aload_n hx hb dL_copy_0 rfl (lv_at hl 3 rfl) ?_
  refine lv_iconst (v := 0) hx hb dL_copy_1 (by decide) ?_
  refine lv_aload_n hx hb dL_copy_2 rfl (lv_at hl 0 rfl) ?_
  refine lv_iload_n hx hb dL_copy_3 rfl (lv_at hl 1 rfl) ?_
  refine lv_iload_n hx hb dL_copy_4 rfl (lv_at hl 2 rfl) ?_
  refine bx_xwi (wc := [(b, .inr (5, [.ref s0, .ref s2, .ref t0, .ref d, .ref e0, .int run])), (s0, .inr (3, [.ref f])), (f, .inr (2, [.ref w, .int σ.2.1, .int σ.2.2])), (w, .inl (cA, 66, .inl σ.1)), (s2, .inr (3, [.ref f2])), (f2, .inr (2, [.ref w2, .int ρ.2.1, .int ρ.2.2])), (w2, .inl (cA, 66, .inl ρ.1)), (t0, .inr (4, [.int τ.1, .int τ.2.1, .int τ.2.2.1, .int τ.2.2.2.1, .int τ.2.2.2.2.1, .int τ.2.2.2.2.2])), (d, .inr (1, [.int δ.1, .ref db])), (db, .inl (cA, 24, .inl δ.2)), (e0, .inr (0, [.ref d, .ref s0]))]) (wr := [(ou, .inl (cL, 1, .inr (.inl ov)))]) (wf := fun (u : (FS) × (TS) × (Int32)) => [(b, .inr (5, [.ref s0, .ref s2, .ref t0, .ref d, .ref e0, .int u.2.2])), (s0, .inr (3, [.ref f])), (f, .inr (2, [.ref w, .int u.1.2.1, .int u.1.2.2])), (w, .inl (cA, 66, .inl u.1.1)), (s2, .inr (3, [.ref f2])), (f2, .inr (2, [.ref w2, .int ρ.2.1, .int ρ.2.2])), (w2, .inl (cA, 66, .inl ρ.1)), (t0, .inr (4, [.int u.2.1.1, .int u.2.1.2.1, .int u.2.1.2.2.1, .int u.2.1.2.2.2.1, .int u.2.1.2.2.2.2.1, .int u.2.1.2.2.2.2.2])), (d, .inr (1, [.int δ.1, .ref db])), (db, .inl (cA, 24, .inl δ.2)), (e0, .inr (0, [.ref d, .ref s0]))]) (wn := fun (u : (FS) × (TS) × (Int32)) => [(b, .inr (5, [.ref s0, .ref s2, .ref t0, .ref d, .ref e0, .int u.2.2])), (s0, .inr (3, [.ref f])), (f, .inr (2, [.ref w, .int u.1.2.1, .int u.1.2.2])), (w, .inl (cA, 66, .inl u.1.1)), (s2, .inr (3, [.ref f2])), (f2, .inr (2, [.ref w2, .int ρ.2.1, .int ρ.2.2])), (w2, .inl (cA, 66, .inl ρ.1)), (t0, .inr (4, [.int u.2.1.1, .int u.2.1.2.1, .int u.2.1.2.2.1, .int u.2.1.2.2.2.1, .int u.2.1.2.2.2.2.1, .int u.2.1.2.2.2.2.2])), (d, .inr (1, [.int δ.1, .ref db])), (db, .inl (cA, 24, .inl δ.2)), (e0, .inr (0, [.ref d, .ref s0])), (ou, .inl (cL, 1, .inr (.inl ov)))]) hP hD hS hA [0, 1, 2, 3, 4, 5, 6, 7, 8, 9, 10] [11] [1, 2, 3, 4, 5, 6, 7, 8, 9, 10, 11, 0] rfl rfl (by decide) (by decide) (fun u => rfl) (by decide) (vx_runV (As := [.int p0, .int p1]) (rest := [.int 0, .ref ou]) ⟨hx, hb, hml, hown, hts⟩ (c_X5_copy l hl9 D cA b s0 f w s2 f2 w2 t0 d db e0 s.heap.size σ ρ τ δ run p0 p1) (cwV 2 hts gL_copy_X5_copy rfl rfl rfl (by decide +kernel) ⟨Nat.le_of_ble_eq_true rfl, Nat.le_of_ble_eq_true rfl⟩) (bx_pvx (ci := 5) (q0 := 0) (hK.sub (tys' := [(cA, .int)]) [0] rfl) hG hZ (hP.sub (ws' := [(b, .inr (5, [.ref s0, .ref s2, .ref t0, .ref d, .ref e0, .int run])), (s0, .inr (3, [.ref f])), (f, .inr (2, [.ref w, .int σ.2.1, .int σ.2.2])), (w, .inl (cA, 66, .inl σ.1)), (s2, .inr (3, [.ref f2])), (f2, .inr (2, [.ref w2, .int ρ.2.1, .int ρ.2.2])), (w2, .inl (cA, 66, .inl ρ.1)), (t0, .inr (4, [.int τ.1, .int τ.2.1, .int τ.2.2.1, .int τ.2.2.2.1, .int τ.2.2.2.2.1, .int τ.2.2.2.2.2])), (d, .inr (1, [.int δ.1, .ref db])), (db, .inl (cA, 24, .inl δ.2)), (e0, .inr (0, [.ref d, .ref s0]))]) [0, 1, 2, 3, 4, 5, 6, 7, 8, 9, 10] rfl) (hD.sub (ws' := [(b, .inr (5, [.ref s0, .ref s2, .ref t0, .ref d, .ref e0, .int run])), (s0, .inr (3, [.ref f])), (f, .inr (2, [.ref w, .int σ.2.1, .int σ.2.2])), (w, .inl (cA, 66, .inl σ.1)), (s2, .inr (3, [.ref f2])), (f2, .inr (2, [.ref w2, .int ρ.2.1, .int ρ.2.2])), (w2, .inl (cA, 66, .inl ρ.1)), (t0, .inr (4, [.int τ.1, .int τ.2.1, .int τ.2.2.1, .int τ.2.2.2.1, .int τ.2.2.2.2.1, .int τ.2.2.2.2.2])), (d, .inr (1, [.int δ.1, .ref db])), (db, .inl (cA, 24, .inl δ.2)), (e0, .inr (0, [.ref d, .ref s0]))]) [0, 1, 2, 3, 4, 5, 6, 7, 8, 9, 10] (by decide) rfl) rfl rfl) rfl rfl hl.1 rfl (lv_room (Nat.le_of_ble_eq_true rfl)) dL_copy_5 ⟨Nat.le_of_ble_eq_true rfl, Nat.le_of_ble_eq_true rfl⟩) (fun E ce q9 H1 locs hE hP hD hS hce hcv hcl => ?_) (fun r u H locs h hP hD hS => ?_)
  · skip
    rcases hE with ⟨hk, rfl⟩ | ⟨hk, rfl⟩ | ⟨hk, rfl⟩
    · skip
      refine vx_catch (name := bx_iae) (E := bx_iae) hown [] ⟨0, 10, 13, 22⟩ [⟨0, 10, 17, 13⟩] htab (fun z hz => nomatch hz) (by decide) (by decide) (hts (.classLink RL 22 bx_iae) (by decide +kernel)) (va_Nw.use rfl (hG.1 (.castable bx_iae bx_iae) (by decide +kernel))) hce hcv hcl ?_
      refine W.eq (g2 := F0 m 13 ls [.ref q9]) rfl ?_
      refine lv_astore (lv' := [(4, .ref q9), (0, .ref b), (1, .int p0), (2, .int p1), (3, .ref ou)]) hx hb dL_copy_13 hl (by decide) rfl (fun ls hl => ?_)
      refine lv_iconst (v := 1) hx hb dL_copy_15 (by decide) ?_
      refine vx_ret ?_
      exact W.iret (v := 1) hx hb hr (fun t ht hW => ⟨⟨1, (σ, τ, run, ov), rfl, (by simp only [F_L_copy, hk] <;> rfl), ⟨by rw [ht]; exact hP, hD⟩⟩, hS.F ht⟩) hS.2.2 dL_copy_16
    · skip
      refine vx_catch (name := bx_ise) (E := bx_ise) hown [⟨0, 10, 13, 22⟩] ⟨0, 10, 17, 13⟩ [] htab (fun z hz => by simp only [List.mem_singleton] at hz; subst hz; exact Or.inr ⟨(by decide), bx_iae, hts (.classLink RL 22 bx_iae) (by decide +kernel), hG.2.1 (bx_ise, bx_iae) (by decide)⟩) (by decide) (by decide) (hts (.classLink RL 13 bx_ise) (by decide +kernel)) (va_Nw.use rfl (hG.1 (.castable bx_ise bx_ise) (by decide +kernel))) hce hcv hcl ?_
      refine W.eq (g2 := F0 m 17 ls [.ref q9]) rfl ?_
      refine lv_astore (lv' := [(4, .ref q9), (0, .ref b), (1, .int p0), (2, .int p1), (3, .ref ou)]) hx hb dL_copy_17 hl (by decide) rfl (fun ls hl => ?_)
      refine lv_iconst (v := 2) hx hb dL_copy_19 (by decide) ?_
      refine vx_ret ?_
      exact W.iret (v := 2) hx hb hr (fun t ht hW => ⟨⟨2, (σ, τ, run, ov), rfl, (by simp only [F_L_copy, hk] <;> rfl), ⟨by rw [ht]; exact hP, hD⟩⟩, hS.F ht⟩) hS.2.2 dL_copy_20
    · skip
      exact absurd hk (nc3_copy _ _ _ _ _)
  · skip
    obtain ⟨σ1, τ1, run1⟩ := u
    have hP : va_P D vwCl [(b, .inr (5, [.ref s0, .ref s2, .ref t0, .ref d, .ref e0, .int run1])), (s0, .inr (3, [.ref f])), (f, .inr (2, [.ref w, .int σ1.2.1, .int σ1.2.2])), (w, .inl (cA, 66, .inl σ1.1)), (s2, .inr (3, [.ref f2])), (f2, .inr (2, [.ref w2, .int ρ.2.1, .int ρ.2.2])), (w2, .inl (cA, 66, .inl ρ.1)), (t0, .inr (4, [.int τ1.1, .int τ1.2.1, .int τ1.2.2.1, .int τ1.2.2.2.1, .int τ1.2.2.2.2.1, .int τ1.2.2.2.2.2])), (d, .inr (1, [.int δ.1, .ref db])), (db, .inl (cA, 24, .inl δ.2)), (e0, .inr (0, [.ref d, .ref s0])), (ou, .inl (cL, 1, .inr (.inl ov)))] H := hP
    have hD : va_D A [(b, .inr (5, [.ref s0, .ref s2, .ref t0, .ref d, .ref e0, .int run1])), (s0, .inr (3, [.ref f])), (f, .inr (2, [.ref w, .int σ1.2.1, .int σ1.2.2])), (w, .inl (cA, 66, .inl σ1.1)), (s2, .inr (3, [.ref f2])), (f2, .inr (2, [.ref w2, .int ρ.2.1, .int ρ.2.2])), (w2, .inl (cA, 66, .inl ρ.1)), (t0, .inr (4, [.int τ1.1, .int τ1.2.1, .int τ1.2.2.1, .int τ1.2.2.2.1, .int τ1.2.2.2.2.1, .int τ1.2.2.2.2.2])), (d, .inr (1, [.int δ.1, .ref db])), (db, .inl (cA, 24, .inl δ.2)), (e0, .inr (0, [.ref d, .ref s0])), (ou, .inl (cL, 1, .inr (.inl ov)))] := hD
    refine lv_i2l (v := r.toInt64) hx hb dL_copy_8 rfl ?_
    refine va_last (D := D) hx hb hK hP hD hS 11 1 rfl rfl (vp_in_iff.mpr (by decide)) dL_copy_9 (fun H locs hP hD hS => ?_)
    have hP : va_P D vwCl [(b, .inr (5, [.ref s0, .ref s2, .ref t0, .ref d, .ref e0, .int run1])), (s0, .inr (3, [.ref f])), (f, .inr (2, [.ref w, .int σ1.2.1, .int σ1.2.2])), (w, .inl (cA, 66, .inl σ1.1)), (s2, .inr (3, [.ref f2])), (f2, .inr (2, [.ref w2, .int ρ.2.1, .int ρ.2.2])), (w2, .inl (cA, 66, .inl ρ.1)), (t0, .inr (4, [.int τ1.1, .int τ1.2.1, .int τ1.2.2.1, .int τ1.2.2.2.1, .int τ1.2.2.2.2.1, .int τ1.2.2.2.2.2])), (d, .inr (1, [.int δ.1, .ref db])), (db, .inl (cA, 24, .inl δ.2)), (e0, .inr (0, [.ref d, .ref s0])), (ou, .inl (cL, 1, .inr (.inl (vp_updL ov 0 r.toInt64))))] H := hP
    have hD : va_D A [(b, .inr (5, [.ref s0, .ref s2, .ref t0, .ref d, .ref e0, .int run1])), (s0, .inr (3, [.ref f])), (f, .inr (2, [.ref w, .int σ1.2.1, .int σ1.2.2])), (w, .inl (cA, 66, .inl σ1.1)), (s2, .inr (3, [.ref f2])), (f2, .inr (2, [.ref w2, .int ρ.2.1, .int ρ.2.2])), (w2, .inl (cA, 66, .inl ρ.1)), (t0, .inr (4, [.int τ1.1, .int τ1.2.1, .int τ1.2.2.1, .int τ1.2.2.2.1, .int τ1.2.2.2.2.1, .int τ1.2.2.2.2.2])), (d, .inr (1, [.int δ.1, .ref db])), (db, .inl (cA, 24, .inl δ.2)), (e0, .inr (0, [.ref d, .ref s0])), (ou, .inl (cL, 1, .inr (.inl (vp_updL ov 0 r.toInt64))))] := hD
    refine lv_goto (tgt := 21) hx hb dL_copy_10 (by decide) ?_
    refine lv_iconst (v := 0) hx hb dL_copy_21 (by decide) ?_
    refine vx_ret ?_
    refine W.widen (k := 1) (n := 6) (Nat.le_of_ble_eq_true rfl) (Nat.le_of_ble_eq_true rfl) ?_
    exact W.iret (v := 0) hx hb hr (fun t ht hW => ⟨⟨0, (σ1, τ1, run1, (vp_updL ov 0 r.toInt64)), rfl, (by simp only [F_L_copy, ← h] <;> rfl), ⟨by rw [ht]; exact hP, hD⟩⟩, hS.F ht⟩) hS.2.2 dL_copy_22
def F_L_finish (σ : FS) (τ : TS) (run : Int32) (ov : Nat → Int64) (p0 : Int32) : Int32 × (FS) × (TS) × (Int32) × (Nat → Int64) := if (F_X5_finish σ τ run p0).1 = 0 then (0, (F_X5_finish σ τ run p0).2.2.1, (F_X5_finish σ τ run p0).2.2.2.1, (F_X5_finish σ τ run p0).2.2.2.2, (vp_updL ov 0 (if (F_X5_finish σ τ run p0).2.1 = 0 then 0 else 1))) else ((F_X5_finish σ τ run p0).1, σ, τ, run, ov)
set_option maxHeartbeats 4000000 in
set_option maxRecDepth 100000 in
theorem c_L_finish (l : Launch) (hl9 : l.stackTraces = false) (D : va_G) (cA cL : ClassId) (b s0 f w s2 f2 w2 t0 d db e0 ou : Nat) (sz : Nat) (σ : FS) (ρ : FS) (τ : TS) (δ : DS) (run : Int32) (ov : Nat → Int64) (p0 : Int32) : vx_Met l yL_finish wsL_finish ({ frames := 9, cells := 1, slots := 6, locals := 155 }) (va_Pc [.ref b, .int p0, .ref ou] (bx_prx D [(cA, .int), (cL, .long)] (wWr cA cL b s0 f w s2 f2 w2 t0 d db e0 ou σ ρ τ δ run ov) sz)) (va_Qi (fun (r : Int32) (u : (FS) × (TS) × (Int32) × (Nat → Int64)) => (r, u) = F_L_finish σ τ run ov p0) (fun u t => bx_at D (wWr cA cL b s0 f w s2 f2 w2 t0 d db e0 ou u.1 ρ u.2.1 δ u.2.2.1 u.2.2.2) (va_A (wWr cA cL b s0 f w s2 f2 w2 t0 d db e0 ou σ ρ τ δ run ov) sz) t) (va_A (wWr cA cL b s0 f w s2 f2 w2 t0 d db e0 ou σ ρ τ δ run ov) sz)) (fun _ _ _ => False) 1 6 (va_A (wWr cA cL b s0 f w s2 f2 w2 t0 d db e0 ou σ ρ τ δ run ov) sz) := by
  refine vx_ofWH (cc := cL_finish) (maxL := 4) (ret := (some .int)) (hh := [(0, 16, 19, 22), (0, 16, 22, 13)]) (by decide) rfl ?_
  intro p e s m args below meth c s₁ B hml hv
  obtain ⟨rfl, hsz, hP, hK, hD0, hG, hZ⟩ := hv
  have hx := B.exec
  have hb := B.bytes
  have hr := B.returns
  have hts := atoms_spec (ws := wsL_finish) B.pre
  have hown : s.vm.findClass RL = some m.cls := findClass_of_methodNamed B.named
  have hlocks := B.notSynchronized
  have htab := vx_table (x := yL_finish) B (hts _ List.mem_cons_self)
  subst hsz
  have hD := hD0.self (sz := s.heap.size)
  generalize hAe : va_A (wWr cA cL b s0 f w s2 f2 w2 t0 d db e0 ou σ ρ τ δ run ov) s.heap.size = A at hD ⊢
  have hA : ∀ q : Nat, s.heap.size ≤ q → A q := fun q h => by rw [← hAe]; exact Or.inr h
  have hS : va_S A s.heap s.heap [] := va_S.rf
  have hD : va_D A [(b, .inr (5, [.ref s0, .ref s2, .ref t0, .ref d, .ref e0, .int run])), (s0, .inr (3, [.ref f])), (f, .inr (2, [.ref w, .int σ.2.1, .int σ.2.2])), (w, .inl (cA, 66, .inl σ.1)), (s2, .inr (3, [.ref f2])), (f2, .inr (2, [.ref w2, .int ρ.2.1, .int ρ.2.2])), (w2, .inl (cA, 66, .inl ρ.1)), (t0, .inr (4, [.int τ.1, .int τ.2.1, .int τ.2.2.1, .int τ.2.2.2.1, .int τ.2.2.2.2.1, .int τ.2.2.2.2.2])), (d, .inr (1, [.int δ.1, .ref db])), (db, .inl (cA, 24, .inl δ.2)), (e0, .inr (0, [.ref d, .ref s0])), (ou, .inl (cL, 1, .inr (.inl ov)))] := hD
  have hP : va_P D vwCl [(b, .inr (5, [.ref s0, .ref s2, .ref t0, .ref d, .ref e0, .int run])), (s0, .inr (3, [.ref f])), (f, .inr (2, [.ref w, .int σ.2.1, .int σ.2.2])), (w, .inl (cA, 66, .inl σ.1)), (s2, .inr (3, [.ref f2])), (f2, .inr (2, [.ref w2, .int ρ.2.1, .int ρ.2.2])), (w2, .inl (cA, 66, .inl ρ.1)), (t0, .inr (4, [.int τ.1, .int τ.2.1, .int τ.2.2.1, .int τ.2.2.2.1, .int τ.2.2.2.2.1, .int τ.2.2.2.2.2])), (d, .inr (1, [.int δ.1, .ref db])), (db, .inl (cA, 24, .inl δ.2)), (e0, .inr (0, [.ref d, .ref s0])), (ou, .inl (cL, 1, .inr (.inl ov)))] s.heap := hP
  have hl := lv_entry ([.ref b, .int p0, .ref ou]) (n := 4) (Nat.le_of_ble_eq_true rfl)
  rw [lg_entry_eq]
  generalize (lg_sl ([.ref b, .int p0, .ref ou]) ++ List.replicate (4 - (lg_sl ([.ref b, .int p0, .ref ou])).length) Slot.unset).toArray = ls at hl ⊢
  have hl : lv_has ls 4 [(0, .ref b), (1, .int p0), (2, .ref ou)] := hl
  refine lv_aload_n hx hb dL_finish_0 rfl (lv_at hl 2 rfl) ?_
  refine lv_iconst (v := 0) hx hb dL_finish_1 (by decide) ?_
  refine lv_aload_n hx hb dL_finish_2 rfl (lv_at hl 0 rfl) ?_
  refine lv_iload_n hx hb dL_finish_3 rfl (lv_at hl 1 rfl) ?_
  refine bx_xwi (wc := [(b, .inr (5, [.ref s0, .ref s2, .ref t0, .ref d, .ref e0, .int run])), (s0, .inr (3, [.ref f])), (f, .inr (2, [.ref w, .int σ.2.1, .int σ.2.2])), (w, .inl (cA, 66, .inl σ.1)), (s2, .inr (3, [.ref f2])), (f2, .inr (2, [.ref w2, .int ρ.2.1, .int ρ.2.2])), (w2, .inl (cA, 66, .inl ρ.1)), (t0, .inr (4, [.int τ.1, .int τ.2.1, .int τ.2.2.1, .int τ.2.2.2.1, .int τ.2.2.2.2.1, .int τ.2.2.2.2.2])), (d, .inr (1, [.int δ.1, .ref db])), (db, .inl (cA, 24, .inl δ.2)), (e0, .inr (0, [.ref d, .ref s0]))]) (wr := [(ou, .inl (cL, 1, .inr (.inl ov)))]) (wf := fun (u : (FS) × (TS) × (Int32)) => [(b, .inr (5, [.ref s0, .ref s2, .ref t0, .ref d, .ref e0, .int u.2.2])), (s0, .inr (3, [.ref f])), (f, .inr (2, [.ref w, .int u.1.2.1, .int u.1.2.2])), (w, .inl (cA, 66, .inl u.1.1)), (s2, .inr (3, [.ref f2])), (f2, .inr (2, [.ref w2, .int ρ.2.1, .int ρ.2.2])), (w2, .inl (cA, 66, .inl ρ.1)), (t0, .inr (4, [.int u.2.1.1, .int u.2.1.2.1, .int u.2.1.2.2.1, .int u.2.1.2.2.2.1, .int u.2.1.2.2.2.2.1, .int u.2.1.2.2.2.2.2])), (d, .inr (1, [.int δ.1, .ref db])), (db, .inl (cA, 24, .inl δ.2)), (e0, .inr (0, [.ref d, .ref s0]))]) (wn := fun (u : (FS) × (TS) × (Int32)) => [(b, .inr (5, [.ref s0, .ref s2, .ref t0, .ref d, .ref e0, .int u.2.2])), (s0, .inr (3, [.ref f])), (f, .inr (2, [.ref w, .int u.1.2.1, .int u.1.2.2])), (w, .inl (cA, 66, .inl u.1.1)), (s2, .inr (3, [.ref f2])), (f2, .inr (2, [.ref w2, .int ρ.2.1, .int ρ.2.2])), (w2, .inl (cA, 66, .inl ρ.1)), (t0, .inr (4, [.int u.2.1.1, .int u.2.1.2.1, .int u.2.1.2.2.1, .int u.2.1.2.2.2.1, .int u.2.1.2.2.2.2.1, .int u.2.1.2.2.2.2.2])), (d, .inr (1, [.int δ.1, .ref db])), (db, .inl (cA, 24, .inl δ.2)), (e0, .inr (0, [.ref d, .ref s0])), (ou, .inl (cL, 1, .inr (.inl ov)))]) hP hD hS hA [0, 1, 2, 3, 4, 5, 6, 7, 8, 9, 10] [11] [1, 2, 3, 4, 5, 6, 7, 8, 9, 10, 11, 0] rfl rfl (by decide) (by decide) (fun u => rfl) (by decide) (vx_runV (As := [.int p0]) (rest := [.int 0, .ref ou]) ⟨hx, hb, hml, hown, hts⟩ (c_X5_finish l hl9 D cA b s0 f w s2 f2 w2 t0 d db e0 s.heap.size σ ρ τ δ run p0) (cwV 1 hts gL_finish_X5_finish rfl rfl rfl (by decide +kernel) ⟨Nat.le_of_ble_eq_true rfl, Nat.le_of_ble_eq_true rfl⟩) (bx_pvx (ci := 5) (q0 := 0) (hK.sub (tys' := [(cA, .int)]) [0] rfl) hG hZ (hP.sub (ws' := [(b, .inr (5, [.ref s0, .ref s2, .ref t0, .ref d, .ref e0, .int run])), (s0, .inr (3, [.ref f])), (f, .inr (2, [.ref w, .int σ.2.1, .int σ.2.2])), (w, .inl (cA, 66, .inl σ.1)), (s2, .inr (3, [.ref f2])), (f2, .inr (2, [.ref w2, .int ρ.2.1, .int ρ.2.2])), (w2, .inl (cA, 66, .inl ρ.1)), (t0, .inr (4, [.int τ.1, .int τ.2.1, .int τ.2.2.1, .int τ.2.2.2.1, .int τ.2.2.2.2.1, .int τ.2.2.2.2.2])), (d, .inr (1, [.int δ.1, .ref db])), (db, .inl (cA, 24, .inl δ.2)), (e0, .inr (0, [.ref d, .ref s0]))]) [0, 1, 2, 3, 4, 5, 6, 7, 8, 9, 10] rfl) (hD.sub (ws' := [(b, .inr (5, [.ref s0, .ref s2, .ref t0, .ref d, .ref e0, .int run])), (s0, .inr (3, [.ref f])), (f, .inr (2, [.ref w, .int σ.2.1, .int σ.2.2])), (w, .inl (cA, 66, .inl σ.1)), (s2, .inr (3, [.ref f2])), (f2, .inr (2, [.ref w2, .int ρ.2.1, .int ρ.2.2])), (w2, .inl (cA, 66, .inl ρ.1)), (t0, .inr (4, [.int τ.1, .int τ.2.1, .int τ.2.2.1, .int τ.2.2.2.1, .int τ.2.2.2.2.1, .int τ.2.2.2.2.2])), (d, .inr (1, [.int δ.1, .ref db])), (db, .inl (cA, 24, .inl δ.2)), (e0, .inr (0, [.ref d, .ref s0]))]) [0, 1, 2, 3, 4, 5, 6, 7, 8, 9, 10] (by decide) rfl) rfl rfl) rfl rfl hl.1 rfl (lv_room (Nat.le_of_ble_eq_true rfl)) dL_finish_4 ⟨Nat.le_of_ble_eq_true rfl, Nat.le_of_ble_eq_true rfl⟩) (fun E ce q9 H1 locs hE hP hD hS hce hcv hcl => ?_) (fun r u H locs h hP hD hS => ?_)
  · skip
    rcases hE with ⟨hk, rfl⟩ | ⟨hk, rfl⟩ | ⟨hk, rfl⟩
    · skip
      refine vx_catch (name := bx_iae) (E := bx_iae) hown [] ⟨0, 16, 19, 22⟩ [⟨0, 16, 22, 13⟩] htab (fun z hz => nomatch hz) (by decide) (by decide) (hts (.classLink RL 22 bx_iae) (by decide +kernel)) (va_Nw.use rfl (hG.1 (.castable bx_iae bx_iae) (by decide +kernel))) hce hcv hcl ?_
      refine W.eq (g2 := F0 m 19 ls [.ref q9]) rfl ?_
      refine lv_astore_n (lv' := [(3, .ref q9), (0, .ref b), (1, .int p0), (2, .ref ou)]) hx hb dL_finish_19 rfl hl (by decide) rfl (fun ls hl => ?_)
      refine lv_iconst (v := 1) hx hb dL_finish_20 (by decide) ?_
      refine vx_ret ?_
      exact W.iret (v := 1) hx hb hr (fun t ht hW => ⟨⟨1, (σ, τ, run, ov), rfl, (by simp only [F_L_finish, hk] <;> rfl), ⟨by rw [ht]; exact hP, hD⟩⟩, hS.F ht⟩) hS.2.2 dL_finish_21
    · skip
      refine vx_catch (name := bx_ise) (E := bx_ise) hown [⟨0, 16, 19, 22⟩] ⟨0, 16, 22, 13⟩ [] htab (fun z hz => by simp only [List.mem_singleton] at hz; subst hz; exact Or.inr ⟨(by decide), bx_iae, hts (.classLink RL 22 bx_iae) (by decide +kernel), hG.2.1 (bx_ise, bx_iae) (by decide)⟩) (by decide) (by decide) (hts (.classLink RL 13 bx_ise) (by decide +kernel)) (va_Nw.use rfl (hG.1 (.castable bx_ise bx_ise) (by decide +kernel))) hce hcv hcl ?_
      refine W.eq (g2 := F0 m 22 ls [.ref q9]) rfl ?_
      refine lv_astore_n (lv' := [(3, .ref q9), (0, .ref b), (1, .int p0), (2, .ref ou)]) hx hb dL_finish_22 rfl hl (by decide) rfl (fun ls hl => ?_)
      refine lv_iconst (v := 2) hx hb dL_finish_23 (by decide) ?_
      refine vx_ret ?_
      exact W.iret (v := 2) hx hb hr (fun t ht hW => ⟨⟨2, (σ, τ, run, ov), rfl, (by simp only [F_L_finish, hk] <;> rfl), ⟨by rw [ht]; exact hP, hD⟩⟩, hS.F ht⟩) hS.2.2 dL_finish_24
    · skip
      exact absurd hk (nc3_finish _ _ _ _)
  · skip
    obtain ⟨σ1, τ1, run1⟩ := u
    obtain ⟨h, hb9⟩ := h
    have hP : va_P D vwCl [(b, .inr (5, [.ref s0, .ref s2, .ref t0, .ref d, .ref e0, .int run1])), (s0, .inr (3, [.ref f])), (f, .inr (2, [.ref w, .int σ1.2.1, .int σ1.2.2])), (w, .inl (cA, 66, .inl σ1.1)), (s2, .inr (3, [.ref f2])), (f2, .inr (2, [.ref w2, .int ρ.2.1, .int ρ.2.2])), (w2, .inl (cA, 66, .inl ρ.1)), (t0, .inr (4, [.int τ1.1, .int τ1.2.1, .int τ1.2.2.1, .int τ1.2.2.2.1, .int τ1.2.2.2.2.1, .int τ1.2.2.2.2.2])), (d, .inr (1, [.int δ.1, .ref db])), (db, .inl (cA, 24, .inl δ.2)), (e0, .inr (0, [.ref d, .ref s0])), (ou, .inl (cL, 1, .inr (.inl ov)))] H := hP
    have hD : va_D A [(b, .inr (5, [.ref s0, .ref s2, .ref t0, .ref d, .ref e0, .int run1])), (s0, .inr (3, [.ref f])), (f, .inr (2, [.ref w, .int σ1.2.1, .int σ1.2.2])), (w, .inl (cA, 66, .inl σ1.1)), (s2, .inr (3, [.ref f2])), (f2, .inr (2, [.ref w2, .int ρ.2.1, .int ρ.2.2])), (w2, .inl (cA, 66, .inl ρ.1)), (t0, .inr (4, [.int τ1.1, .int τ1.2.1, .int τ1.2.2.1, .int τ1.2.2.2.1, .int τ1.2.2.2.2.1, .int τ1.2.2.2.2.2])), (d, .inr (1, [.int δ.1, .ref db])), (db, .inl (cA, 24, .inl δ.2)), (e0, .inr (0, [.ref d, .ref s0])), (ou, .inl (cL, 1, .inr (.inl ov)))] := hD
    refine lv_if_eq (tgt := 14) hx hb dL_finish_7 (by decide) (fun c_1 => ?_) (fun c_1 => ?_)
    · skip
      refine lv_lconst (v := 0) hx hb dL_finish_14 rfl ?_
      refine va_last (D := D) hx hb hK hP hD hS 11 1 rfl rfl (vp_in_iff.mpr (by decide)) dL_finish_15 (fun H locs hP hD hS => ?_)
      have hP : va_P D vwCl [(b, .inr (5, [.ref s0, .ref s2, .ref t0, .ref d, .ref e0, .int run1])), (s0, .inr (3, [.ref f])), (f, .inr (2, [.ref w, .int σ1.2.1, .int σ1.2.2])), (w, .inl (cA, 66, .inl σ1.1)), (s2, .inr (3, [.ref f2])), (f2, .inr (2, [.ref w2, .int ρ.2.1, .int ρ.2.2])), (w2, .inl (cA, 66, .inl ρ.1)), (t0, .inr (4, [.int τ1.1, .int τ1.2.1, .int τ1.2.2.1, .int τ1.2.2.2.1, .int τ1.2.2.2.2.1, .int τ1.2.2.2.2.2])), (d, .inr (1, [.int δ.1, .ref db])), (db, .inl (cA, 24, .inl δ.2)), (e0, .inr (0, [.ref d, .ref s0])), (ou, .inl (cL, 1, .inr (.inl (vp_updL ov 0 0))))] H := hP
      have hD : va_D A [(b, .inr (5, [.ref s0, .ref s2, .ref t0, .ref d, .ref e0, .int run1])), (s0, .inr (3, [.ref f])), (f, .inr (2, [.ref w, .int σ1.2.1, .int σ1.2.2])), (w, .inl (cA, 66, .inl σ1.1)), (s2, .inr (3, [.ref f2])), (f2, .inr (2, [.ref w2, .int ρ.2.1, .int ρ.2.2])), (w2, .inl (cA, 66, .inl ρ.1)), (t0, .inr (4, [.int τ1.1, .int τ1.2.1, .int τ1.2.2.1, .int τ1.2.2.2.1, .int τ1.2.2.2.2.1, .int τ1.2.2.2.2.2])), (d, .inr (1, [.int δ.1, .ref db])), (db, .inl (cA, 24, .inl δ.2)), (e0, .inr (0, [.ref d, .ref s0])), (ou, .inl (cL, 1, .inr (.inl (vp_updL ov 0 0))))] := hD
      refine lv_goto (tgt := 25) hx hb dL_finish_16 (by decide) ?_
      refine lv_iconst (v := 0) hx hb dL_finish_25 (by decide) ?_
      refine vx_ret ?_
      refine W.widen (k := 1) (n := 6) (Nat.le_of_ble_eq_true rfl) (Nat.le_of_ble_eq_true rfl) ?_
      exact W.iret (v := 0) hx hb hr (fun t ht hW => ⟨⟨0, (σ1, τ1, run1, (vp_updL ov 0 0)), rfl, (by simp only [F_L_finish, ← h, if_pos c_1] <;> rfl), ⟨by rw [ht]; exact hP, hD⟩⟩, hS.F ht⟩) hS.2.2 dL_finish_26
    · skip
      refine lv_lconst (v := 1) hx hb dL_finish_10 rfl ?_
      refine lv_goto (tgt := 15) hx hb dL_finish_11 (by decide) ?_
      refine va_last (D := D) hx hb hK hP hD hS 11 1 rfl rfl (vp_in_iff.mpr (by decide)) dL_finish_15 (fun H locs hP hD hS => ?_)
      have hP : va_P D vwCl [(b, .inr (5, [.ref s0, .ref s2, .ref t0, .ref d, .ref e0, .int run1])), (s0, .inr (3, [.ref f])), (f, .inr (2, [.ref w, .int σ1.2.1, .int σ1.2.2])), (w, .inl (cA, 66, .inl σ1.1)), (s2, .inr (3, [.ref f2])), (f2, .inr (2, [.ref w2, .int ρ.2.1, .int ρ.2.2])), (w2, .inl (cA, 66, .inl ρ.1)), (t0, .inr (4, [.int τ1.1, .int τ1.2.1, .int τ1.2.2.1, .int τ1.2.2.2.1, .int τ1.2.2.2.2.1, .int τ1.2.2.2.2.2])), (d, .inr (1, [.int δ.1, .ref db])), (db, .inl (cA, 24, .inl δ.2)), (e0, .inr (0, [.ref d, .ref s0])), (ou, .inl (cL, 1, .inr (.inl (vp_updL ov 0 1))))] H := hP
      have hD : va_D A [(b, .inr (5, [.ref s0, .ref s2, .ref t0, .ref d, .ref e0, .int run1])), (s0, .inr (3, [.ref f])), (f, .inr (2, [.ref w, .int σ1.2.1, .int σ1.2.2])), (w, .inl (cA, 66, .inl σ1.1)), (s2, .inr (3, [.ref f2])), (f2, .inr (2, [.ref w2, .int ρ.2.1, .int ρ.2.2])), (w2, .inl (cA, 66, .inl ρ.1)), (t0, .inr (4, [.int τ1.1, .int τ1.2.1, .int τ1.2.2.1, .int τ1.2.2.2.1, .int τ1.2.2.2.2.1, .int τ1.2.2.2.2.2])), (d, .inr (1, [.int δ.1, .ref db])), (db, .inl (cA, 24, .inl δ.2)), (e0, .inr (0, [.ref d, .ref s0])), (ou, .inl (cL, 1, .inr (.inl (vp_updL ov 0 1))))] := hD
      refine lv_goto (tgt := 25) hx hb dL_finish_16 (by decide) ?_
      refine lv_iconst (v := 0) hx hb dL_finish_25 (by decide) ?_
      refine vx_ret ?_
      refine W.widen (k := 1) (n := 6) (Nat.le_of_ble_eq_true rfl) (Nat.le_of_ble_eq_true rfl) ?_
      exact W.iret (v := 0) hx hb hr (fun t ht hW => ⟨⟨0, (σ1, τ1, run1, (vp_updL ov 0 1)), rfl, (by simp only [F_L_finish, ← h, if_neg c_1] <;> rfl), ⟨by rw [ht]; exact hP, hD⟩⟩, hS.F ht⟩) hS.2.2 dL_finish_26
def F_L_confirm (σ : FS) (τ : TS) (run : Int32) (ov : Nat → Int64) : Int32 × (FS) × (TS) × (Int32) × (Nat → Int64) := if (F_X5_confirm σ τ run).1 = 0 then (0, (F_X5_confirm σ τ run).2.2.1, (F_X5_confirm σ τ run).2.2.2.1, (F_X5_confirm σ τ run).2.2.2.2, (vp_updL ov 0 (if (F_X5_confirm σ τ run).2.1 = 0 then 0 else 1))) else (1, σ, τ, run, ov)
set_option maxHeartbeats 4000000 in
set_option maxRecDepth 100000 in
theorem c_L_confirm (l : Launch) (hl9 : l.stackTraces = false) (D : va_G) (cA cL : ClassId) (b s0 f w s2 f2 w2 t0 d db e0 ou : Nat) (sz : Nat) (σ : FS) (ρ : FS) (τ : TS) (δ : DS) (run : Int32) (ov : Nat → Int64) : vx_Met l yL_confirm wsL_confirm ({ frames := 8, cells := 1, slots := 6, locals := 145 }) (va_Pc [.ref b, .ref ou] (bx_prx D [(cA, .int), (cL, .long)] (wWr cA cL b s0 f w s2 f2 w2 t0 d db e0 ou σ ρ τ δ run ov) sz)) (va_Qi (fun (r : Int32) (u : (FS) × (TS) × (Int32) × (Nat → Int64)) => (r, u) = F_L_confirm σ τ run ov) (fun u t => bx_at D (wWr cA cL b s0 f w s2 f2 w2 t0 d db e0 ou u.1 ρ u.2.1 δ u.2.2.1 u.2.2.2) (va_A (wWr cA cL b s0 f w s2 f2 w2 t0 d db e0 ou σ ρ τ δ run ov) sz) t) (va_A (wWr cA cL b s0 f w s2 f2 w2 t0 d db e0 ou σ ρ τ δ run ov) sz)) (fun _ _ _ => False) 1 6 (va_A (wWr cA cL b s0 f w s2 f2 w2 t0 d db e0 ou σ ρ τ δ run ov) sz) := by
  refine vx_ofWH (cc := cL_confirm) (maxL := 3) (ret := (some .int)) (hh := [(0, 15, 18, 13)]) (by decide) rfl ?_
  intro p e s m args below meth c s₁ B hml hv
  obtain ⟨rfl, hsz, hP, hK, hD0, hG, hZ⟩ := hv
  have hx := B.exec
  have hb := B.bytes
  have hr := B.returns
  have hts := atoms_spec (ws := wsL_confirm) B.pre
  have hown : s.vm.findClass RL = some m.cls := findClass_of_methodNamed B.named
  have hlocks := B.notSynchronized
  have htab := vx_table (x := yL_confirm) B (hts _ List.mem_cons_self)
  subst hsz
  have hD := hD0.self (sz := s.heap.size)
  generalize hAe : va_A (wWr cA cL b s0 f w s2 f2 w2 t0 d db e0 ou σ ρ τ δ run ov) s.heap.size = A at hD ⊢
  have hA : ∀ q : Nat, s.heap.size ≤ q → A q := fun q h => by rw [← hAe]; exact Or.inr h
  have hS : va_S A s.heap s.heap [] := va_S.rf
  have hD : va_D A [(b, .inr (5, [.ref s0, .ref s2, .ref t0, .ref d, .ref e0, .int run])), (s0, .inr (3, [.ref f])), (f, .inr (2, [.ref w, .int σ.2.1, .int σ.2.2])), (w, .inl (cA, 66, .inl σ.1)), (s2, .inr (3, [.ref f2])), (f2, .inr (2, [.ref w2, .int ρ.2.1, .int ρ.2.2])), (w2, .inl (cA, 66, .inl ρ.1)), (t0, .inr (4, [.int τ.1, .int τ.2.1, .int τ.2.2.1, .int τ.2.2.2.1, .int τ.2.2.2.2.1, .int τ.2.2.2.2.2])), (d, .inr (1, [.int δ.1, .ref db])), (db, .inl (cA, 24, .inl δ.2)), (e0, .inr (0, [.ref d, .ref s0])), (ou, .inl (cL, 1, .inr (.inl ov)))] := hD
  have hP : va_P D vwCl [(b, .inr (5, [.ref s0, .ref s2, .ref t0, .ref d, .ref e0, .int run])), (s0, .inr (3, [.ref f])), (f, .inr (2, [.ref w, .int σ.2.1, .int σ.2.2])), (w, .inl (cA, 66, .inl σ.1)), (s2, .inr (3, [.ref f2])), (f2, .inr (2, [.ref w2, .int ρ.2.1, .int ρ.2.2])), (w2, .inl (cA, 66, .inl ρ.1)), (t0, .inr (4, [.int τ.1, .int τ.2.1, .int τ.2.2.1, .int τ.2.2.2.1, .int τ.2.2.2.2.1, .int τ.2.2.2.2.2])), (d, .inr (1, [.int δ.1, .ref db])), (db, .inl (cA, 24, .inl δ.2)), (e0, .inr (0, [.ref d, .ref s0])), (ou, .inl (cL, 1, .inr (.inl ov)))] s.heap := hP
  have hl := lv_entry ([.ref b, .ref ou]) (n := 3) (Nat.le_of_ble_eq_true rfl)
  rw [lg_entry_eq]
  generalize (lg_sl ([.ref b, .ref ou]) ++ List.replicate (3 - (lg_sl ([.ref b, .ref ou])).length) Slot.unset).toArray = ls at hl ⊢
  have hl : lv_has ls 3 [(0, .ref b), (1, .ref ou)] := hl
  refine lv_aload_n hx hb dL_confirm_0 rfl (lv_at hl 1 rfl) ?_
  refine lv_iconst (v := 0) hx hb dL_confirm_1 (by decide) ?_
  refine lv_aload_n hx hb dL_confirm_2 rfl (lv_at hl 0 rfl) ?_
  refine bx_xwi (wc := [(b, .inr (5, [.ref s0, .ref s2, .ref t0, .ref d, .ref e0, .int run])), (s0, .inr (3, [.ref f])), (f, .inr (2, [.ref w, .int σ.2.1, .int σ.2.2])), (w, .inl (cA, 66, .inl σ.1)), (s2, .inr (3, [.ref f2])), (f2, .inr (2, [.ref w2, .int ρ.2.1, .int ρ.2.2])), (w2, .inl (cA, 66, .inl ρ.1)), (t0, .inr (4, [.int τ.1, .int τ.2.1, .int τ.2.2.1, .int τ.2.2.2.1, .int τ.2.2.2.2.1, .int τ.2.2.2.2.2])), (d, .inr (1, [.int δ.1, .ref db])), (db, .inl (cA, 24, .inl δ.2)), (e0, .inr (0, [.ref d, .ref s0]))]) (wr := [(ou, .inl (cL, 1, .inr (.inl ov)))]) (wf := fun (u : (FS) × (TS) × (Int32)) => [(b, .inr (5, [.ref s0, .ref s2, .ref t0, .ref d, .ref e0, .int u.2.2])), (s0, .inr (3, [.ref f])), (f, .inr (2, [.ref w, .int u.1.2.1, .int u.1.2.2])), (w, .inl (cA, 66, .inl u.1.1)), (s2, .inr (3, [.ref f2])), (f2, .inr (2, [.ref w2, .int ρ.2.1, .int ρ.2.2])), (w2, .inl (cA, 66, .inl ρ.1)), (t0, .inr (4, [.int u.2.1.1, .int u.2.1.2.1, .int u.2.1.2.2.1, .int u.2.1.2.2.2.1, .int u.2.1.2.2.2.2.1, .int u.2.1.2.2.2.2.2])), (d, .inr (1, [.int δ.1, .ref db])), (db, .inl (cA, 24, .inl δ.2)), (e0, .inr (0, [.ref d, .ref s0]))]) (wn := fun (u : (FS) × (TS) × (Int32)) => [(b, .inr (5, [.ref s0, .ref s2, .ref t0, .ref d, .ref e0, .int u.2.2])), (s0, .inr (3, [.ref f])), (f, .inr (2, [.ref w, .int u.1.2.1, .int u.1.2.2])), (w, .inl (cA, 66, .inl u.1.1)), (s2, .inr (3, [.ref f2])), (f2, .inr (2, [.ref w2, .int ρ.2.1, .int ρ.2.2])), (w2, .inl (cA, 66, .inl ρ.1)), (t0, .inr (4, [.int u.2.1.1, .int u.2.1.2.1, .int u.2.1.2.2.1, .int u.2.1.2.2.2.1, .int u.2.1.2.2.2.2.1, .int u.2.1.2.2.2.2.2])), (d, .inr (1, [.int δ.1, .ref db])), (db, .inl (cA, 24, .inl δ.2)), (e0, .inr (0, [.ref d, .ref s0])), (ou, .inl (cL, 1, .inr (.inl ov)))]) hP hD hS hA [0, 1, 2, 3, 4, 5, 6, 7, 8, 9, 10] [11] [1, 2, 3, 4, 5, 6, 7, 8, 9, 10, 11, 0] rfl rfl (by decide) (by decide) (fun u => rfl) (by decide) (vx_runV (As := []) (rest := [.int 0, .ref ou]) ⟨hx, hb, hml, hown, hts⟩ (c_X5_confirm l hl9 D cA b s0 f w s2 f2 w2 t0 d db e0 s.heap.size σ ρ τ δ run) (cwV 0 hts gL_confirm_X5_confirm rfl rfl rfl (by decide +kernel) ⟨Nat.le_of_ble_eq_true rfl, Nat.le_of_ble_eq_true rfl⟩) (bx_pvx (ci := 5) (q0 := 0) (hK.sub (tys' := [(cA, .int)]) [0] rfl) hG hZ (hP.sub (ws' := [(b, .inr (5, [.ref s0, .ref s2, .ref t0, .ref d, .ref e0, .int run])), (s0, .inr (3, [.ref f])), (f, .inr (2, [.ref w, .int σ.2.1, .int σ.2.2])), (w, .inl (cA, 66, .inl σ.1)), (s2, .inr (3, [.ref f2])), (f2, .inr (2, [.ref w2, .int ρ.2.1, .int ρ.2.2])), (w2, .inl (cA, 66, .inl ρ.1)), (t0, .inr (4, [.int τ.1, .int τ.2.1, .int τ.2.2.1, .int τ.2.2.2.1, .int τ.2.2.2.2.1, .int τ.2.2.2.2.2])), (d, .inr (1, [.int δ.1, .ref db])), (db, .inl (cA, 24, .inl δ.2)), (e0, .inr (0, [.ref d, .ref s0]))]) [0, 1, 2, 3, 4, 5, 6, 7, 8, 9, 10] rfl) (hD.sub (ws' := [(b, .inr (5, [.ref s0, .ref s2, .ref t0, .ref d, .ref e0, .int run])), (s0, .inr (3, [.ref f])), (f, .inr (2, [.ref w, .int σ.2.1, .int σ.2.2])), (w, .inl (cA, 66, .inl σ.1)), (s2, .inr (3, [.ref f2])), (f2, .inr (2, [.ref w2, .int ρ.2.1, .int ρ.2.2])), (w2, .inl (cA, 66, .inl ρ.1)), (t0, .inr (4, [.int τ.1, .int τ.2.1, .int τ.2.2.1, .int τ.2.2.2.1, .int τ.2.2.2.2.1, .int τ.2.2.2.2.2])), (d, .inr (1, [.int δ.1, .ref db])), (db, .inl (cA, 24, .inl δ.2)), (e0, .inr (0, [.ref d, .ref s0]))]) [0, 1, 2, 3, 4, 5, 6, 7, 8, 9, 10] (by decide) rfl) rfl rfl) rfl rfl hl.1 rfl (lv_room (Nat.le_of_ble_eq_true rfl)) dL_confirm_3 ⟨Nat.le_of_ble_eq_true rfl, Nat.le_of_ble_eq_true rfl⟩) (fun E ce q9 H1 locs hE hP hD hS hce hcv hcl => ?_) (fun r u H locs h hP hD hS => ?_)
  · skip
    rcases hE with ⟨hk, rfl⟩ | ⟨hk, rfl⟩ | ⟨hk, rfl⟩
    · skip
      exact absurd hk (nc1_confirm _ _ _)
    · skip
      refine vx_catch (name := bx_ise) (E := bx_ise) hown [] ⟨0, 15, 18, 13⟩ [] htab (fun z hz => nomatch hz) (by decide) (by decide) (hts (.classLink RL 13 bx_ise) (by decide +kernel)) (va_Nw.use rfl (hG.1 (.castable bx_ise bx_ise) (by decide +kernel))) hce hcv hcl ?_
      refine W.eq (g2 := F0 m 18 ls [.ref q9]) rfl ?_
      refine lv_astore_n (lv' := [(2, .ref q9), (0, .ref b), (1, .ref ou)]) hx hb dL_confirm_18 rfl hl (by decide) rfl (fun ls hl => ?_)
      refine lv_iconst (v := 1) hx hb dL_confirm_19 (by decide) ?_
      refine vx_ret ?_
      exact W.iret (v := 1) hx hb hr (fun t ht hW => ⟨⟨1, (σ, τ, run, ov), rfl, (by simp only [F_L_confirm, hk] <;> rfl), ⟨by rw [ht]; exact hP, hD⟩⟩, hS.F ht⟩) hS.2.2 dL_confirm_20
    · skip
      exact absurd hk (nc3_confirm _ _ _)
  · skip
    obtain ⟨σ1, τ1, run1⟩ := u
    obtain ⟨h, hb9⟩ := h
    have hP : va_P D vwCl [(b, .inr (5, [.ref s0, .ref s2, .ref t0, .ref d, .ref e0, .int run1])), (s0, .inr (3, [.ref f])), (f, .inr (2, [.ref w, .int σ1.2.1, .int σ1.2.2])), (w, .inl (cA, 66, .inl σ1.1)), (s2, .inr (3, [.ref f2])), (f2, .inr (2, [.ref w2, .int ρ.2.1, .int ρ.2.2])), (w2, .inl (cA, 66, .inl ρ.1)), (t0, .inr (4, [.int τ1.1, .int τ1.2.1, .int τ1.2.2.1, .int τ1.2.2.2.1, .int τ1.2.2.2.2.1, .int τ1.2.2.2.2.2])), (d, .inr (1, [.int δ.1, .ref db])), (db, .inl (cA, 24, .inl δ.2)), (e0, .inr (0, [.ref d, .ref s0])), (ou, .inl (cL, 1, .inr (.inl ov)))] H := hP
    have hD : va_D A [(b, .inr (5, [.ref s0, .ref s2, .ref t0, .ref d, .ref e0, .int run1])), (s0, .inr (3, [.ref f])), (f, .inr (2, [.ref w, .int σ1.2.1, .int σ1.2.2])), (w, .inl (cA, 66, .inl σ1.1)), (s2, .inr (3, [.ref f2])), (f2, .inr (2, [.ref w2, .int ρ.2.1, .int ρ.2.2])), (w2, .inl (cA, 66, .inl ρ.1)), (t0, .inr (4, [.int τ1.1, .int τ1.2.1, .int τ1.2.2.1, .int τ1.2.2.2.1, .int τ1.2.2.2.2.1, .int τ1.2.2.2.2.2])), (d, .inr (1, [.int δ.1, .ref db])), (db, .inl (cA, 24, .inl δ.2)), (e0, .inr (0, [.ref d, .ref s0])), (ou, .inl (cL, 1, .inr (.inl ov)))] := hD
    refine lv_if_eq (tgt := 13) hx hb dL_confirm_6 (by decide) (fun c_1 => ?_) (fun c_1 => ?_)
    · skip
      refine lv_lconst (v := 0) hx hb dL_confirm_13 rfl ?_
      refine va_last (D := D) hx hb hK hP hD hS 11 1 rfl rfl (vp_in_iff.mpr (by decide)) dL_confirm_14 (fun H locs hP hD hS => ?_)
      have hP : va_P D vwCl [(b, .inr (5, [.ref s0, .ref s2, .ref t0, .ref d, .ref e0, .int run1])), (s0, .inr (3, [.ref f])), (f, .inr (2, [.ref w, .int σ1.2.1, .int σ1.2.2])), (w, .inl (cA, 66, .inl σ1.1)), (s2, .inr (3, [.ref f2])), (f2, .inr (2, [.ref w2, .int ρ.2.1, .int ρ.2.2])), (w2, .inl (cA, 66, .inl ρ.1)), (t0, .inr (4, [.int τ1.1, .int τ1.2.1, .int τ1.2.2.1, .int τ1.2.2.2.1, .int τ1.2.2.2.2.1, .int τ1.2.2.2.2.2])), (d, .inr (1, [.int δ.1, .ref db])), (db, .inl (cA, 24, .inl δ.2)), (e0, .inr (0, [.ref d, .ref s0])), (ou, .inl (cL, 1, .inr (.inl (vp_updL ov 0 0))))] H := hP
      have hD : va_D A [(b, .inr (5, [.ref s0, .ref s2, .ref t0, .ref d, .ref e0, .int run1])), (s0, .inr (3, [.ref f])), (f, .inr (2, [.ref w, .int σ1.2.1, .int σ1.2.2])), (w, .inl (cA, 66, .inl σ1.1)), (s2, .inr (3, [.ref f2])), (f2, .inr (2, [.ref w2, .int ρ.2.1, .int ρ.2.2])), (w2, .inl (cA, 66, .inl ρ.1)), (t0, .inr (4, [.int τ1.1, .int τ1.2.1, .int τ1.2.2.1, .int τ1.2.2.2.1, .int τ1.2.2.2.2.1, .int τ1.2.2.2.2.2])), (d, .inr (1, [.int δ.1, .ref db])), (db, .inl (cA, 24, .inl δ.2)), (e0, .inr (0, [.ref d, .ref s0])), (ou, .inl (cL, 1, .inr (.inl (vp_updL ov 0 0))))] := hD
      refine lv_goto (tgt := 21) hx hb dL_confirm_15 (by decide) ?_
      refine lv_iconst (v := 0) hx hb dL_confirm_21 (by decide) ?_
      refine vx_ret ?_
      refine W.widen (k := 1) (n := 6) (Nat.le_of_ble_eq_true rfl) (Nat.le_of_ble_eq_true rfl) ?_
      exact W.iret (v := 0) hx hb hr (fun t ht hW => ⟨⟨0, (σ1, τ1, run1, (vp_updL ov 0 0)), rfl, (by simp only [F_L_confirm, ← h, if_pos c_1] <;> rfl), ⟨by rw [ht]; exact hP, hD⟩⟩, hS.F ht⟩) hS.2.2 dL_confirm_22
    · skip
      refine lv_lconst (v := 1) hx hb dL_confirm_9 rfl ?_
      refine lv_goto (tgt := 14) hx hb dL_confirm_10 (by decide) ?_
      refine va_last (D := D) hx hb hK hP hD hS 11 1 rfl rfl (vp_in_iff.mpr (by decide)) dL_confirm_14 (fun H locs hP hD hS => ?_)
      have hP : va_P D vwCl [(b, .inr (5, [.ref s0, .ref s2, .ref t0, .ref d, .ref e0, .int run1])), (s0, .inr (3, [.ref f])), (f, .inr (2, [.ref w, .int σ1.2.1, .int σ1.2.2])), (w, .inl (cA, 66, .inl σ1.1)), (s2, .inr (3, [.ref f2])), (f2, .inr (2, [.ref w2, .int ρ.2.1, .int ρ.2.2])), (w2, .inl (cA, 66, .inl ρ.1)), (t0, .inr (4, [.int τ1.1, .int τ1.2.1, .int τ1.2.2.1, .int τ1.2.2.2.1, .int τ1.2.2.2.2.1, .int τ1.2.2.2.2.2])), (d, .inr (1, [.int δ.1, .ref db])), (db, .inl (cA, 24, .inl δ.2)), (e0, .inr (0, [.ref d, .ref s0])), (ou, .inl (cL, 1, .inr (.inl (vp_updL ov 0 1))))] H := hP
      have hD : va_D A [(b, .inr (5, [.ref s0, .ref s2, .ref t0, .ref d, .ref e0, .int run1])), (s0, .inr (3, [.ref f])), (f, .inr (2, [.ref w, .int σ1.2.1, .int σ1.2.2])), (w, .inl (cA, 66, .inl σ1.1)), (s2, .inr (3, [.ref f2])), (f2, .inr (2, [.ref w2, .int ρ.2.1, .int ρ.2.2])), (w2, .inl (cA, 66, .inl ρ.1)), (t0, .inr (4, [.int τ1.1, .int τ1.2.1, .int τ1.2.2.1, .int τ1.2.2.2.1, .int τ1.2.2.2.2.1, .int τ1.2.2.2.2.2])), (d, .inr (1, [.int δ.1, .ref db])), (db, .inl (cA, 24, .inl δ.2)), (e0, .inr (0, [.ref d, .ref s0])), (ou, .inl (cL, 1, .inr (.inl (vp_updL ov 0 1))))] := hD
      refine lv_goto (tgt := 21) hx hb dL_confirm_15 (by decide) ?_
      refine lv_iconst (v := 0) hx hb dL_confirm_21 (by decide) ?_
      refine vx_ret ?_
      refine W.widen (k := 1) (n := 6) (Nat.le_of_ble_eq_true rfl) (Nat.le_of_ble_eq_true rfl) ?_
      exact W.iret (v := 0) hx hb hr (fun t ht hW => ⟨⟨0, (σ1, τ1, run1, (vp_updL ov 0 1)), rfl, (by simp only [F_L_confirm, ← h, if_neg c_1] <;> rfl), ⟨by rw [ht]; exact hP, hD⟩⟩, hS.F ht⟩) hS.2.2 dL_confirm_22
def F_L_draft (δ : DS) (ov : Nat → Int64) (p0 : Int32) : Int32 × (DS) × (Nat → Int64) := if (F_X5_draft δ p0).1 = 0 then (0, (F_X5_draft δ p0).2.2, (vp_updL ov 0 (F_X5_draft δ p0).2.1.toInt64)) else ((F_X5_draft δ p0).1, δ, ov)
set_option maxHeartbeats 4000000 in
set_option maxRecDepth 100000 in
theorem c_L_draft (l : Launch) (hl9 : l.stackTraces = false) (D : va_G) (cA cL : ClassId) (b s0 f w s2 f2 w2 t0 d db e0 ou : Nat) (sz : Nat) (σ : FS) (ρ : FS) (τ : TS) (δ : DS) (run : Int32) (ov : Nat → Int64) (p0 : Int32) : vx_Met l yL_draft wsL_draft ({ frames := 8, cells := 1, slots := 6, locals := 133 }) (va_Pc [.ref b, .int p0, .ref ou] (bx_prx D [(cA, .int), (cL, .long)] (wWr cA cL b s0 f w s2 f2 w2 t0 d db e0 ou σ ρ τ δ run ov) sz)) (va_Qi (fun (r : Int32) (u : (DS) × (Nat → Int64)) => (r, u) = F_L_draft δ ov p0) (fun u t => bx_at D (wWr cA cL b s0 f w s2 f2 w2 t0 d db e0 ou σ ρ τ u.1 run u.2) (va_A (wWr cA cL b s0 f w s2 f2 w2 t0 d db e0 ou σ ρ τ δ run ov) sz) t) (va_A (wWr cA cL b s0 f w s2 f2 w2 t0 d db e0 ou σ ρ τ δ run ov) sz)) (fun _ _ _ => False) 1 6 (va_A (wWr cA cL b s0 f w s2 f2 w2 t0 d db e0 ou σ ρ τ δ run ov) sz) := by
  refine vx_ofWH (cc := cL_draft) (maxL := 4) (ret := (some .int)) (hh := [(0, 9, 12, 22), (0, 9, 15, 13)]) (by decide) rfl ?_
  intro p e s m args below meth c s₁ B hml hv
  obtain ⟨rfl, hsz, hP, hK, hD0, hG, hZ⟩ := hv
  have hx := B.exec
  have hb := B.bytes
  have hr := B.returns
  have hts := atoms_spec (ws := wsL_draft) B.pre
  have hown : s.vm.findClass RL = some m.cls := findClass_of_methodNamed B.named
  have hlocks := B.notSynchronized
  have htab := vx_table (x := yL_draft) B (hts _ List.mem_cons_self)
  subst hsz
  have hD := hD0.self (sz := s.heap.size)
  generalize hAe : va_A (wWr cA cL b s0 f w s2 f2 w2 t0 d db e0 ou σ ρ τ δ run ov) s.heap.size = A at hD ⊢
  have hA : ∀ q : Nat, s.heap.size ≤ q → A q := fun q h => by rw [← hAe]; exact Or.inr h
  have hS : va_S A s.heap s.heap [] := va_S.rf
  have hD : va_D A [(b, .inr (5, [.ref s0, .ref s2, .ref t0, .ref d, .ref e0, .int run])), (s0, .inr (3, [.ref f])), (f, .inr (2, [.ref w, .int σ.2.1, .int σ.2.2])), (w, .inl (cA, 66, .inl σ.1)), (s2, .inr (3, [.ref f2])), (f2, .inr (2, [.ref w2, .int ρ.2.1, .int ρ.2.2])), (w2, .inl (cA, 66, .inl ρ.1)), (t0, .inr (4, [.int τ.1, .int τ.2.1, .int τ.2.2.1, .int τ.2.2.2.1, .int τ.2.2.2.2.1, .int τ.2.2.2.2.2])), (d, .inr (1, [.int δ.1, .ref db])), (db, .inl (cA, 24, .inl δ.2)), (e0, .inr (0, [.ref d, .ref s0])), (ou, .inl (cL, 1, .inr (.inl ov)))] := hD
  have hP : va_P D vwCl [(b, .inr (5, [.ref s0, .ref s2, .ref t0, .ref d, .ref e0, .int run])), (s0, .inr (3, [.ref f])), (f, .inr (2, [.ref w, .int σ.2.1, .int σ.2.2])), (w, .inl (cA, 66, .inl σ.1)), (s2, .inr (3, [.ref f2])), (f2, .inr (2, [.ref w2, .int ρ.2.1, .int ρ.2.2])), (w2, .inl (cA, 66, .inl ρ.1)), (t0, .inr (4, [.int τ.1, .int τ.2.1, .int τ.2.2.1, .int τ.2.2.2.1, .int τ.2.2.2.2.1, .int τ.2.2.2.2.2])), (d, .inr (1, [.int δ.1, .ref db])), (db, .inl (cA, 24, .inl δ.2)), (e0, .inr (0, [.ref d, .ref s0])), (ou, .inl (cL, 1, .inr (.inl ov)))] s.heap := hP
  have hl := lv_entry ([.ref b, .int p0, .ref ou]) (n := 4) (Nat.le_of_ble_eq_true rfl)
  rw [lg_entry_eq]
  generalize (lg_sl ([.ref b, .int p0, .ref ou]) ++ List.replicate (4 - (lg_sl ([.ref b, .int p0, .ref ou])).length) Slot.unset).toArray = ls at hl ⊢
  have hl : lv_has ls 4 [(0, .ref b), (1, .int p0), (2, .ref ou)] := hl
  refine lv_aload_n hx hb dL_draft_0 rfl (lv_at hl 2 rfl) ?_
  refine lv_iconst (v := 0) hx hb dL_draft_1 (by decide) ?_
  refine lv_aload_n hx hb dL_draft_2 rfl (lv_at hl 0 rfl) ?_
  refine lv_iload_n hx hb dL_draft_3 rfl (lv_at hl 1 rfl) ?_
  refine bx_xwi (wc := [(b, .inr (5, [.ref s0, .ref s2, .ref t0, .ref d, .ref e0, .int run])), (s0, .inr (3, [.ref f])), (f, .inr (2, [.ref w, .int σ.2.1, .int σ.2.2])), (w, .inl (cA, 66, .inl σ.1)), (s2, .inr (3, [.ref f2])), (f2, .inr (2, [.ref w2, .int ρ.2.1, .int ρ.2.2])), (w2, .inl (cA, 66, .inl ρ.1)), (t0, .inr (4, [.int τ.1, .int τ.2.1, .int τ.2.2.1, .int τ.2.2.2.1, .int τ.2.2.2.2.1, .int τ.2.2.2.2.2])), (d, .inr (1, [.int δ.1, .ref db])), (db, .inl (cA, 24, .inl δ.2)), (e0, .inr (0, [.ref d, .ref s0]))]) (wr := [(ou, .inl (cL, 1, .inr (.inl ov)))]) (wf := fun (u : (DS)) => [(b, .inr (5, [.ref s0, .ref s2, .ref t0, .ref d, .ref e0, .int run])), (s0, .inr (3, [.ref f])), (f, .inr (2, [.ref w, .int σ.2.1, .int σ.2.2])), (w, .inl (cA, 66, .inl σ.1)), (s2, .inr (3, [.ref f2])), (f2, .inr (2, [.ref w2, .int ρ.2.1, .int ρ.2.2])), (w2, .inl (cA, 66, .inl ρ.1)), (t0, .inr (4, [.int τ.1, .int τ.2.1, .int τ.2.2.1, .int τ.2.2.2.1, .int τ.2.2.2.2.1, .int τ.2.2.2.2.2])), (d, .inr (1, [.int u.1, .ref db])), (db, .inl (cA, 24, .inl u.2)), (e0, .inr (0, [.ref d, .ref s0]))]) (wn := fun (u : (DS)) => [(b, .inr (5, [.ref s0, .ref s2, .ref t0, .ref d, .ref e0, .int run])), (s0, .inr (3, [.ref f])), (f, .inr (2, [.ref w, .int σ.2.1, .int σ.2.2])), (w, .inl (cA, 66, .inl σ.1)), (s2, .inr (3, [.ref f2])), (f2, .inr (2, [.ref w2, .int ρ.2.1, .int ρ.2.2])), (w2, .inl (cA, 66, .inl ρ.1)), (t0, .inr (4, [.int τ.1, .int τ.2.1, .int τ.2.2.1, .int τ.2.2.2.1, .int τ.2.2.2.2.1, .int τ.2.2.2.2.2])), (d, .inr (1, [.int u.1, .ref db])), (db, .inl (cA, 24, .inl u.2)), (e0, .inr (0, [.ref d, .ref s0])), (ou, .inl (cL, 1, .inr (.inl ov)))]) hP hD hS hA [0, 1, 2, 3, 4, 5, 6, 7, 8, 9, 10] [11] [1, 2, 3, 4, 5, 6, 7, 8, 9, 10, 11, 0] rfl rfl (by decide) (by decide) (fun u => rfl) (by decide) (vx_runV (As := [.int p0]) (rest := [.int 0, .ref ou]) ⟨hx, hb, hml, hown, hts⟩ (c_X5_draft l hl9 D cA b s0 f w s2 f2 w2 t0 d db e0 s.heap.size σ ρ τ δ run p0) (cwV 1 hts gL_draft_X5_draft rfl rfl rfl (by decide +kernel) ⟨Nat.le_of_ble_eq_true rfl, Nat.le_of_ble_eq_true rfl⟩) (bx_pvx (ci := 5) (q0 := 0) (hK.sub (tys' := [(cA, .int)]) [0] rfl) hG hZ (hP.sub (ws' := [(b, .inr (5, [.ref s0, .ref s2, .ref t0, .ref d, .ref e0, .int run])), (s0, .inr (3, [.ref f])), (f, .inr (2, [.ref w, .int σ.2.1, .int σ.2.2])), (w, .inl (cA, 66, .inl σ.1)), (s2, .inr (3, [.ref f2])), (f2, .inr (2, [.ref w2, .int ρ.2.1, .int ρ.2.2])), (w2, .inl (cA, 66, .inl ρ.1)), (t0, .inr (4, [.int τ.1, .int τ.2.1, .int τ.2.2.1, .int τ.2.2.2.1, .int τ.2.2.2.2.1, .int τ.2.2.2.2.2])), (d, .inr (1, [.int δ.1, .ref db])), (db, .inl (cA, 24, .inl δ.2)), (e0, .inr (0, [.ref d, .ref s0]))]) [0, 1, 2, 3, 4, 5, 6, 7, 8, 9, 10] rfl) (hD.sub (ws' := [(b, .inr (5, [.ref s0, .ref s2, .ref t0, .ref d, .ref e0, .int run])), (s0, .inr (3, [.ref f])), (f, .inr (2, [.ref w, .int σ.2.1, .int σ.2.2])), (w, .inl (cA, 66, .inl σ.1)), (s2, .inr (3, [.ref f2])), (f2, .inr (2, [.ref w2, .int ρ.2.1, .int ρ.2.2])), (w2, .inl (cA, 66, .inl ρ.1)), (t0, .inr (4, [.int τ.1, .int τ.2.1, .int τ.2.2.1, .int τ.2.2.2.1, .int τ.2.2.2.2.1, .int τ.2.2.2.2.2])), (d, .inr (1, [.int δ.1, .ref db])), (db, .inl (cA, 24, .inl δ.2)), (e0, .inr (0, [.ref d, .ref s0]))]) [0, 1, 2, 3, 4, 5, 6, 7, 8, 9, 10] (by decide) rfl) rfl rfl) rfl rfl hl.1 rfl (lv_room (Nat.le_of_ble_eq_true rfl)) dL_draft_4 ⟨Nat.le_of_ble_eq_true rfl, Nat.le_of_ble_eq_true rfl⟩) (fun E ce q9 H1 locs hE hP hD hS hce hcv hcl => ?_) (fun r u H locs h hP hD hS => ?_)
  · skip
    rcases hE with ⟨hk, rfl⟩ | ⟨hk, rfl⟩ | ⟨hk, rfl⟩
    · skip
      refine vx_catch (name := bx_iae) (E := bx_iae) hown [] ⟨0, 9, 12, 22⟩ [⟨0, 9, 15, 13⟩] htab (fun z hz => nomatch hz) (by decide) (by decide) (hts (.classLink RL 22 bx_iae) (by decide +kernel)) (va_Nw.use rfl (hG.1 (.castable bx_iae bx_iae) (by decide +kernel))) hce hcv hcl ?_
      refine W.eq (g2 := F0 m 12 ls [.ref q9]) rfl ?_
      refine lv_astore_n (lv' := [(3, .ref q9), (0, .ref b), (1, .int p0), (2, .ref ou)]) hx hb dL_draft_12 rfl hl (by decide) rfl (fun ls hl => ?_)
      refine lv_iconst (v := 1) hx hb dL_draft_13 (by decide) ?_
      refine vx_ret ?_
      exact W.iret (v := 1) hx hb hr (fun t ht hW => ⟨⟨1, (δ, ov), rfl, (by simp only [F_L_draft, hk] <;> rfl), ⟨by rw [ht]; exact hP, hD⟩⟩, hS.F ht⟩) hS.2.2 dL_draft_14
    · skip
      refine vx_catch (name := bx_ise) (E := bx_ise) hown [⟨0, 9, 12, 22⟩] ⟨0, 9, 15, 13⟩ [] htab (fun z hz => by simp only [List.mem_singleton] at hz; subst hz; exact Or.inr ⟨(by decide), bx_iae, hts (.classLink RL 22 bx_iae) (by decide +kernel), hG.2.1 (bx_ise, bx_iae) (by decide)⟩) (by decide) (by decide) (hts (.classLink RL 13 bx_ise) (by decide +kernel)) (va_Nw.use rfl (hG.1 (.castable bx_ise bx_ise) (by decide +kernel))) hce hcv hcl ?_
      refine W.eq (g2 := F0 m 15 ls [.ref q9]) rfl ?_
      refine lv_astore_n (lv' := [(3, .ref q9), (0, .ref b), (1, .int p0), (2, .ref ou)]) hx hb dL_draft_15 rfl hl (by decide) rfl (fun ls hl => ?_)
      refine lv_iconst (v := 2) hx hb dL_draft_16 (by decide) ?_
      refine vx_ret ?_
      exact W.iret (v := 2) hx hb hr (fun t ht hW => ⟨⟨2, (δ, ov), rfl, (by simp only [F_L_draft, hk] <;> rfl), ⟨by rw [ht]; exact hP, hD⟩⟩, hS.F ht⟩) hS.2.2 dL_draft_17
    · skip
      exact absurd hk (nc3_draft _ _)
  · skip
    obtain ⟨δ1, rfl⟩ : ∃ z, z = u := ⟨_, rfl⟩
    have hP : va_P D vwCl [(b, .inr (5, [.ref s0, .ref s2, .ref t0, .ref d, .ref e0, .int run])), (s0, .inr (3, [.ref f])), (f, .inr (2, [.ref w, .int σ.2.1, .int σ.2.2])), (w, .inl (cA, 66, .inl σ.1)), (s2, .inr (3, [.ref f2])), (f2, .inr (2, [.ref w2, .int ρ.2.1, .int ρ.2.2])), (w2, .inl (cA, 66, .inl ρ.1)), (t0, .inr (4, [.int τ.1, .int τ.2.1, .int τ.2.2.1, .int τ.2.2.2.1, .int τ.2.2.2.2.1, .int τ.2.2.2.2.2])), (d, .inr (1, [.int δ1.1, .ref db])), (db, .inl (cA, 24, .inl δ1.2)), (e0, .inr (0, [.ref d, .ref s0])), (ou, .inl (cL, 1, .inr (.inl ov)))] H := hP
    have hD : va_D A [(b, .inr (5, [.ref s0, .ref s2, .ref t0, .ref d, .ref e0, .int run])), (s0, .inr (3, [.ref f])), (f, .inr (2, [.ref w, .int σ.2.1, .int σ.2.2])), (w, .inl (cA, 66, .inl σ.1)), (s2, .inr (3, [.ref f2])), (f2, .inr (2, [.ref w2, .int ρ.2.1, .int ρ.2.2])), (w2, .inl (cA, 66, .inl ρ.1)), (t0, .inr (4, [.int τ.1, .int τ.2.1, .int τ.2.2.1, .int τ.2.2.2.1, .int τ.2.2.2.2.1, .int τ.2.2.2.2.2])), (d, .inr (1, [.int δ1.1, .ref db])), (db, .inl (cA, 24, .inl δ1.2)), (e0, .inr (0, [.ref d, .ref s0])), (ou, .inl (cL, 1, .inr (.inl ov)))] := hD
    refine lv_i2l (v := r.toInt64) hx hb dL_draft_7 rfl ?_
    refine va_last (D := D) hx hb hK hP hD hS 11 1 rfl rfl (vp_in_iff.mpr (by decide)) dL_draft_8 (fun H locs hP hD hS => ?_)
    have hP : va_P D vwCl [(b, .inr (5, [.ref s0, .ref s2, .ref t0, .ref d, .ref e0, .int run])), (s0, .inr (3, [.ref f])), (f, .inr (2, [.ref w, .int σ.2.1, .int σ.2.2])), (w, .inl (cA, 66, .inl σ.1)), (s2, .inr (3, [.ref f2])), (f2, .inr (2, [.ref w2, .int ρ.2.1, .int ρ.2.2])), (w2, .inl (cA, 66, .inl ρ.1)), (t0, .inr (4, [.int τ.1, .int τ.2.1, .int τ.2.2.1, .int τ.2.2.2.1, .int τ.2.2.2.2.1, .int τ.2.2.2.2.2])), (d, .inr (1, [.int δ1.1, .ref db])), (db, .inl (cA, 24, .inl δ1.2)), (e0, .inr (0, [.ref d, .ref s0])), (ou, .inl (cL, 1, .inr (.inl (vp_updL ov 0 r.toInt64))))] H := hP
    have hD : va_D A [(b, .inr (5, [.ref s0, .ref s2, .ref t0, .ref d, .ref e0, .int run])), (s0, .inr (3, [.ref f])), (f, .inr (2, [.ref w, .int σ.2.1, .int σ.2.2])), (w, .inl (cA, 66, .inl σ.1)), (s2, .inr (3, [.ref f2])), (f2, .inr (2, [.ref w2, .int ρ.2.1, .int ρ.2.2])), (w2, .inl (cA, 66, .inl ρ.1)), (t0, .inr (4, [.int τ.1, .int τ.2.1, .int τ.2.2.1, .int τ.2.2.2.1, .int τ.2.2.2.2.1, .int τ.2.2.2.2.2])), (d, .inr (1, [.int δ1.1, .ref db])), (db, .inl (cA, 24, .inl δ1.2)), (e0, .inr (0, [.ref d, .ref s0])), (ou, .inl (cL, 1, .inr (.inl (vp_updL ov 0 r.toInt64))))] := hD
    refine lv_goto (tgt := 18) hx hb dL_draft_9 (by decide) ?_
    refine lv_iconst (v := 0) hx hb dL_draft_18 (by decide) ?_
    refine vx_ret ?_
    refine W.widen (k := 1) (n := 6) (Nat.le_of_ble_eq_true rfl) (Nat.le_of_ble_eq_true rfl) ?_
    exact W.iret (v := 0) hx hb hr (fun t ht hW => ⟨⟨0, (δ1, (vp_updL ov 0 r.toInt64)), rfl, (by simp only [F_L_draft, ← h] <;> rfl), ⟨by rw [ht]; exact hP, hD⟩⟩, hS.F ht⟩) hS.2.2 dL_draft_19
def F_L_deltaPieces (σ : FS) (δ : DS) (ov : Nat → Int64) (p0 : Int32) : Int32 × (Nat → Int64) := if (F_X5_deltaPieces σ δ p0).1 = 0 then (0, (vp_updL ov 0 (F_X5_deltaPieces σ δ p0).2.toInt64)) else ((F_X5_deltaPieces σ δ p0).1, ov)
set_option maxHeartbeats 4000000 in
set_option maxRecDepth 100000 in
theorem c_L_deltaPieces (l : Launch) (hl9 : l.stackTraces = false) (D : va_G) (cA cL : ClassId) (b s0 f w s2 f2 w2 t0 d db e0 ou : Nat) (sz : Nat) (σ : FS) (ρ : FS) (τ : TS) (δ : DS) (run : Int32) (ov : Nat → Int64) (p0 : Int32) : vx_Met l yL_deltaPieces wsL_deltaPieces ({ frames := 9, cells := 1, slots := 6, locals := 162 }) (va_Pc [.ref b, .int p0, .ref ou] (bx_prx D [(cA, .int), (cL, .long)] (wWr cA cL b s0 f w s2 f2 w2 t0 d db e0 ou σ ρ τ δ run ov) sz)) (va_Qi (fun (r : Int32) (u : (Nat → Int64)) => (r, u) = F_L_deltaPieces σ δ ov p0) (fun u t => bx_at D (wWr cA cL b s0 f w s2 f2 w2 t0 d db e0 ou σ ρ τ δ run u) (va_A (wWr cA cL b s0 f w s2 f2 w2 t0 d db e0 ou σ ρ τ δ run ov) sz) t) (va_A (wWr cA cL b s0 f w s2 f2 w2 t0 d db e0 ou σ ρ τ δ run ov) sz)) (fun _ _ _ => False) 1 6 (va_A (wWr cA cL b s0 f w s2 f2 w2 t0 d db e0 ou σ ρ τ δ run ov) sz) := by
  refine vx_ofWH (cc := cL_deltaPieces) (maxL := 4) (ret := (some .int)) (hh := [(0, 9, 12, 22), (0, 9, 15, 13)]) (by decide) rfl ?_
  intro p e s m args below meth c s₁ B hml hv
  obtain ⟨rfl, hsz, hP, hK, hD0, hG, hZ⟩ := hv
  have hx := B.exec
  have hb := B.bytes
  have hr := B.returns
  have hts := atoms_spec (ws := wsL_deltaPieces) B.pre
  have hown : s.vm.findClass RL = some m.cls := findClass_of_methodNamed B.named
  have hlocks := B.notSynchronized
  have htab := vx_table (x := yL_deltaPieces) B (hts _ List.mem_cons_self)
  subst hsz
  have hD := hD0.self (sz := s.heap.size)
  generalize hAe : va_A (wWr cA cL b s0 f w s2 f2 w2 t0 d db e0 ou σ ρ τ δ run ov) s.heap.size = A at hD ⊢
  have hA : ∀ q : Nat, s.heap.size ≤ q → A q := fun q h => by rw [← hAe]; exact Or.inr h
  have hS : va_S A s.heap s.heap [] := va_S.rf
  have hD : va_D A [(b, .inr (5, [.ref s0, .ref s2, .ref t0, .ref d, .ref e0, .int run])), (s0, .inr (3, [.ref f])), (f, .inr (2, [.ref w, .int σ.2.1, .int σ.2.2])), (w, .inl (cA, 66, .inl σ.1)), (s2, .inr (3, [.ref f2])), (f2, .inr (2, [.ref w2, .int ρ.2.1, .int ρ.2.2])), (w2, .inl (cA, 66, .inl ρ.1)), (t0, .inr (4, [.int τ.1, .int τ.2.1, .int τ.2.2.1, .int τ.2.2.2.1, .int τ.2.2.2.2.1, .int τ.2.2.2.2.2])), (d, .inr (1, [.int δ.1, .ref db])), (db, .inl (cA, 24, .inl δ.2)), (e0, .inr (0, [.ref d, .ref s0])), (ou, .inl (cL, 1, .inr (.inl ov)))] := hD
  have hP : va_P D vwCl [(b, .inr (5, [.ref s0, .ref s2, .ref t0, .ref d, .ref e0, .int run])), (s0, .inr (3, [.ref f])), (f, .inr (2, [.ref w, .int σ.2.1, .int σ.2.2])), (w, .inl (cA, 66, .inl σ.1)), (s2, .inr (3, [.ref f2])), (f2, .inr (2, [.ref w2, .int ρ.2.1, .int ρ.2.2])), (w2, .inl (cA, 66, .inl ρ.1)), (t0, .inr (4, [.int τ.1, .int τ.2.1, .int τ.2.2.1, .int τ.2.2.2.1, .int τ.2.2.2.2.1, .int τ.2.2.2.2.2])), (d, .inr (1, [.int δ.1, .ref db])), (db, .inl (cA, 24, .inl δ.2)), (e0, .inr (0, [.ref d, .ref s0])), (ou, .inl (cL, 1, .inr (.inl ov)))] s.heap := hP
  have hl := lv_entry ([.ref b, .int p0, .ref ou]) (n := 4) (Nat.le_of_ble_eq_true rfl)
  rw [lg_entry_eq]
  generalize (lg_sl ([.ref b, .int p0, .ref ou]) ++ List.replicate (4 - (lg_sl ([.ref b, .int p0, .ref ou])).length) Slot.unset).toArray = ls at hl ⊢
  have hl : lv_has ls 4 [(0, .ref b), (1, .int p0), (2, .ref ou)] := hl
  refine lv_aload_n hx hb dL_deltaPieces_0 rfl (lv_at hl 2 rfl) ?_
  refine lv_iconst (v := 0) hx hb dL_deltaPieces_1 (by decide) ?_
  refine lv_aload_n hx hb dL_deltaPieces_2 rfl (lv_at hl 0 rfl) ?_
  refine lv_iload_n hx hb dL_deltaPieces_3 rfl (lv_at hl 1 rfl) ?_
  refine bx_xri hP hD hS (vx_runV (As := [.int p0]) (rest := [.int 0, .ref ou]) ⟨hx, hb, hml, hown, hts⟩ (c_X5_deltaPieces l hl9 D cA b s0 f w s2 f2 w2 t0 d db e0 σ ρ τ δ run p0) (cwV 1 hts gL_deltaPieces_X5_deltaPieces rfl rfl rfl (by decide +kernel) ⟨Nat.le_of_ble_eq_true rfl, Nat.le_of_ble_eq_true rfl⟩) (bx_pvrx (ci := 5) (q0 := 0) (hK.sub (tys' := [(cA, .int)]) [0] rfl) hG hZ (hP.sub (ws' := [(b, .inr (5, [.ref s0, .ref s2, .ref t0, .ref d, .ref e0, .int run])), (s0, .inr (3, [.ref f])), (f, .inr (2, [.ref w, .int σ.2.1, .int σ.2.2])), (w, .inl (cA, 66, .inl σ.1)), (s2, .inr (3, [.ref f2])), (f2, .inr (2, [.ref w2, .int ρ.2.1, .int ρ.2.2])), (w2, .inl (cA, 66, .inl ρ.1)), (t0, .inr (4, [.int τ.1, .int τ.2.1, .int τ.2.2.1, .int τ.2.2.2.1, .int τ.2.2.2.2.1, .int τ.2.2.2.2.2])), (d, .inr (1, [.int δ.1, .ref db])), (db, .inl (cA, 24, .inl δ.2)), (e0, .inr (0, [.ref d, .ref s0]))]) [0, 1, 2, 3, 4, 5, 6, 7, 8, 9, 10] rfl) rfl rfl) rfl rfl hl.1 rfl (lv_room (Nat.le_of_ble_eq_true rfl)) dL_deltaPieces_4 ⟨Nat.le_of_ble_eq_true rfl, Nat.le_of_ble_eq_true rfl⟩) (fun E ce q9 H1 locs hE hP hD hS hce hcv hcl => ?_) (fun r h => ?_)
  · skip
    rcases hE with ⟨hk, rfl⟩ | ⟨hk, rfl⟩ | ⟨hk, rfl⟩
    · skip
      refine vx_catch (name := bx_iae) (E := bx_iae) hown [] ⟨0, 9, 12, 22⟩ [⟨0, 9, 15, 13⟩] htab (fun z hz => nomatch hz) (by decide) (by decide) (hts (.classLink RL 22 bx_iae) (by decide +kernel)) (va_Nw.use rfl (hG.1 (.castable bx_iae bx_iae) (by decide +kernel))) hce hcv hcl ?_
      refine W.eq (g2 := F0 m 12 ls [.ref q9]) rfl ?_
      refine lv_astore_n (lv' := [(3, .ref q9), (0, .ref b), (1, .int p0), (2, .ref ou)]) hx hb dL_deltaPieces_12 rfl hl (by decide) rfl (fun ls hl => ?_)
      refine lv_iconst (v := 1) hx hb dL_deltaPieces_13 (by decide) ?_
      refine vx_ret ?_
      exact W.iret (v := 1) hx hb hr (fun t ht hW => ⟨⟨1, ov, rfl, (by simp only [F_L_deltaPieces, hk] <;> rfl), ⟨by rw [ht]; exact hP, hD⟩⟩, hS.F ht⟩) hS.2.2 dL_deltaPieces_14
    · skip
      refine vx_catch (name := bx_ise) (E := bx_ise) hown [⟨0, 9, 12, 22⟩] ⟨0, 9, 15, 13⟩ [] htab (fun z hz => by simp only [List.mem_singleton] at hz; subst hz; exact Or.inr ⟨(by decide), bx_iae, hts (.classLink RL 22 bx_iae) (by decide +kernel), hG.2.1 (bx_ise, bx_iae) (by decide)⟩) (by decide) (by decide) (hts (.classLink RL 13 bx_ise) (by decide +kernel)) (va_Nw.use rfl (hG.1 (.castable bx_ise bx_ise) (by decide +kernel))) hce hcv hcl ?_
      refine W.eq (g2 := F0 m 15 ls [.ref q9]) rfl ?_
      refine lv_astore_n (lv' := [(3, .ref q9), (0, .ref b), (1, .int p0), (2, .ref ou)]) hx hb dL_deltaPieces_15 rfl hl (by decide) rfl (fun ls hl => ?_)
      refine lv_iconst (v := 2) hx hb dL_deltaPieces_16 (by decide) ?_
      refine vx_ret ?_
      exact W.iret (v := 2) hx hb hr (fun t ht hW => ⟨⟨2, ov, rfl, (by simp only [F_L_deltaPieces, hk] <;> rfl), ⟨by rw [ht]; exact hP, hD⟩⟩, hS.F ht⟩) hS.2.2 dL_deltaPieces_17
    · skip
      exact absurd hk (nc3_deltaPieces _ _ _)
  · skip
    refine lv_i2l (v := r.toInt64) hx hb dL_deltaPieces_7 rfl ?_
    refine va_last (D := D) hx hb hK hP hD hS 11 1 rfl rfl (vp_in_iff.mpr (by decide)) dL_deltaPieces_8 (fun H locs hP hD hS => ?_)
    have hP : va_P D vwCl [(b, .inr (5, [.ref s0, .ref s2, .ref t0, .ref d, .ref e0, .int run])), (s0, .inr (3, [.ref f])), (f, .inr (2, [.ref w, .int σ.2.1, .int σ.2.2])), (w, .inl (cA, 66, .inl σ.1)), (s2, .inr (3, [.ref f2])), (f2, .inr (2, [.ref w2, .int ρ.2.1, .int ρ.2.2])), (w2, .inl (cA, 66, .inl ρ.1)), (t0, .inr (4, [.int τ.1, .int τ.2.1, .int τ.2.2.1, .int τ.2.2.2.1, .int τ.2.2.2.2.1, .int τ.2.2.2.2.2])), (d, .inr (1, [.int δ.1, .ref db])), (db, .inl (cA, 24, .inl δ.2)), (e0, .inr (0, [.ref d, .ref s0])), (ou, .inl (cL, 1, .inr (.inl (vp_updL ov 0 r.toInt64))))] H := hP
    have hD : va_D A [(b, .inr (5, [.ref s0, .ref s2, .ref t0, .ref d, .ref e0, .int run])), (s0, .inr (3, [.ref f])), (f, .inr (2, [.ref w, .int σ.2.1, .int σ.2.2])), (w, .inl (cA, 66, .inl σ.1)), (s2, .inr (3, [.ref f2])), (f2, .inr (2, [.ref w2, .int ρ.2.1, .int ρ.2.2])), (w2, .inl (cA, 66, .inl ρ.1)), (t0, .inr (4, [.int τ.1, .int τ.2.1, .int τ.2.2.1, .int τ.2.2.2.1, .int τ.2.2.2.2.1, .int τ.2.2.2.2.2])), (d, .inr (1, [.int δ.1, .ref db])), (db, .inl (cA, 24, .inl δ.2)), (e0, .inr (0, [.ref d, .ref s0])), (ou, .inl (cL, 1, .inr (.inl (vp_updL ov 0 r.toInt64))))] := hD
    refine lv_goto (tgt := 18) hx hb dL_deltaPieces_9 (by decide) ?_
    refine lv_iconst (v := 0) hx hb dL_deltaPieces_18 (by decide) ?_
    refine vx_ret ?_
    refine W.widen (k := 1) (n := 6) (Nat.le_of_ble_eq_true rfl) (Nat.le_of_ble_eq_true rfl) ?_
    exact W.iret (v := 0) hx hb hr (fun t ht hW => ⟨⟨0, (vp_updL ov 0 r.toInt64), rfl, (by simp only [F_L_deltaPieces, ← h] <;> rfl), ⟨by rw [ht]; exact hP, hD⟩⟩, hS.F ht⟩) hS.2.2 dL_deltaPieces_19
def F_L_deltaLength (σ : FS) (δ : DS) (ov : Nat → Int64) (p0 : Int32) (p1 : Int32) : Int32 × (Nat → Int64) := if (F_X5_deltaLength σ δ p0 p1).1 = 0 then (0, (vp_updL ov 0 (F_X5_deltaLength σ δ p0 p1).2.toInt64)) else ((F_X5_deltaLength σ δ p0 p1).1, ov)
set_option maxHeartbeats 4000000 in
set_option maxRecDepth 100000 in
theorem c_L_deltaLength (l : Launch) (hl9 : l.stackTraces = false) (D : va_G) (cA cL : ClassId) (b s0 f w s2 f2 w2 t0 d db e0 ou : Nat) (sz : Nat) (σ : FS) (ρ : FS) (τ : TS) (δ : DS) (run : Int32) (ov : Nat → Int64) (p0 : Int32) (p1 : Int32) : vx_Met l yL_deltaLength wsL_deltaLength ({ frames := 9, cells := 1, slots := 6, locals := 165 }) (va_Pc [.ref b, .int p0, .int p1, .ref ou] (bx_prx D [(cA, .int), (cL, .long)] (wWr cA cL b s0 f w s2 f2 w2 t0 d db e0 ou σ ρ τ δ run ov) sz)) (va_Qi (fun (r : Int32) (u : (Nat → Int64)) => (r, u) = F_L_deltaLength σ δ ov p0 p1) (fun u t => bx_at D (wWr cA cL b s0 f w s2 f2 w2 t0 d db e0 ou σ ρ τ δ run u) (va_A (wWr cA cL b s0 f w s2 f2 w2 t0 d db e0 ou σ ρ τ δ run ov) sz) t) (va_A (wWr cA cL b s0 f w s2 f2 w2 t0 d db e0 ou σ ρ τ δ run ov) sz)) (fun _ _ _ => False) 1 6 (va_A (wWr cA cL b s0 f w s2 f2 w2 t0 d db e0 ou σ ρ τ δ run ov) sz) := by
  refine vx_ofWH (cc := cL_deltaLength) (maxL := 5) (ret := (some .int)) (hh := [(0, 10, 13, 22), (0, 10, 17, 13), (0, 10, 21, 53)]) (by decide) rfl ?_
  intro p e s m args below meth c s₁ B hml hv
  obtain ⟨rfl, hsz, hP, hK, hD0, hG, hZ⟩ := hv
  have hx := B.exec
  have hb := B.bytes
  have hr := B.returns
  have hts := atoms_spec (ws := wsL_deltaLength) B.pre
  have hown : s.vm.findClass RL = some m.cls := findClass_of_methodNamed B.named
  have hlocks := B.notSynchronized
  have htab := vx_table (x := yL_deltaLength) B (hts _ List.mem_cons_self)
  subst hsz
  have hD := hD0.self (sz := s.heap.size)
  generalize hAe : va_A (wWr cA cL b s0 f w s2 f2 w2 t0 d db e0 ou σ ρ τ δ run ov) s.heap.size = A at hD ⊢
  have hA : ∀ q : Nat, s.heap.size ≤ q → A q := fun q h => by rw [← hAe]; exact Or.inr h
  have hS : va_S A s.heap s.heap [] := va_S.rf
  have hD : va_D A [(b, .inr (5, [.ref s0, .ref s2, .ref t0, .ref d, .ref e0, .int run])), (s0, .inr (3, [.ref f])), (f, .inr (2, [.ref w, .int σ.2.1, .int σ.2.2])), (w, .inl (cA, 66, .inl σ.1)), (s2, .inr (3, [.ref f2])), (f2, .inr (2, [.ref w2, .int ρ.2.1, .int ρ.2.2])), (w2, .inl (cA, 66, .inl ρ.1)), (t0, .inr (4, [.int τ.1, .int τ.2.1, .int τ.2.2.1, .int τ.2.2.2.1, .int τ.2.2.2.2.1, .int τ.2.2.2.2.2])), (d, .inr (1, [.int δ.1, .ref db])), (db, .inl (cA, 24, .inl δ.2)), (e0, .inr (0, [.ref d, .ref s0])), (ou, .inl (cL, 1, .inr (.inl ov)))] := hD
  have hP : va_P D vwCl [(b, .inr (5, [.ref s0, .ref s2, .ref t0, .ref d, .ref e0, .int run])), (s0, .inr (3, [.ref f])), (f, .inr (2, [.ref w, .int σ.2.1, .int σ.2.2])), (w, .inl (cA, 66, .inl σ.1)), (s2, .inr (3, [.ref f2])), (f2, .inr (2, [.ref w2, .int ρ.2.1, .int ρ.2.2])), (w2, .inl (cA, 66, .inl ρ.1)), (t0, .inr (4, [.int τ.1, .int τ.2.1, .int τ.2.2.1, .int τ.2.2.2.1, .int τ.2.2.2.2.1, .int τ.2.2.2.2.2])), (d, .inr (1, [.int δ.1, .ref db])), (db, .inl (cA, 24, .inl δ.2)), (e0, .inr (0, [.ref d, .ref s0])), (ou, .inl (cL, 1, .inr (.inl ov)))] s.heap := hP
  have hl := lv_entry ([.ref b, .int p0, .int p1, .ref ou]) (n := 5) (Nat.le_of_ble_eq_true rfl)
  rw [lg_entry_eq]
  generalize (lg_sl ([.ref b, .int p0, .int p1, .ref ou]) ++ List.replicate (5 - (lg_sl ([.ref b, .int p0, .int p1, .ref ou])).length) Slot.unset).toArray = ls at hl ⊢
  have hl : lv_has ls 5 [(0, .ref b), (1, .int p0), (2, .int p1), (3, .ref ou)] := hl
  refine lv_aload_n hx hb dL_deltaLength_0 rfl (lv_at hl 3 rfl) ?_
  refine lv_iconst (v := 0) hx hb dL_deltaLength_1 (by decide) ?_
  refine lv_aload_n hx hb dL_deltaLength_2 rfl (lv_at hl 0 rfl) ?_
  refine lv_iload_n hx hb dL_deltaLength_3 rfl (lv_at hl 1 rfl) ?_
  refine lv_iload_n hx hb dL_deltaLength_4 rfl (lv_at hl 2 rfl) ?_
  refine bx_xri hP hD hS (vx_runV (As := [.int p0, .int p1]) (rest := [.int 0, .ref ou]) ⟨hx, hb, hml, hown, hts⟩ (c_X5_deltaLength l hl9 D cA b s0 f w s2 f2 w2 t0 d db e0 σ ρ τ δ run p0 p1) (cwV 2 hts gL_deltaLength_X5_deltaLength rfl rfl rfl (by decide +kernel) ⟨Nat.le_of_ble_eq_true rfl, Nat.le_of_ble_eq_true rfl⟩) (bx_pvrx (ci := 5) (q0 := 0) (hK.sub (tys' := [(cA, .int)]) [0] rfl) hG hZ (hP.sub (ws' := [(b, .inr (5, [.ref s0, .ref s2, .ref t0, .ref d, .ref e0, .int run])), (s0, .inr (3, [.ref f])), (f, .inr (2, [.ref w, .int σ.2.1, .int σ.2.2])), (w, .inl (cA, 66, .inl σ.1)), (s2, .inr (3, [.ref f2])), (f2, .inr (2, [.ref w2, .int ρ.2.1, .int ρ.2.2])), (w2, .inl (cA, 66, .inl ρ.1)), (t0, .inr (4, [.int τ.1, .int τ.2.1, .int τ.2.2.1, .int τ.2.2.2.1, .int τ.2.2.2.2.1, .int τ.2.2.2.2.2])), (d, .inr (1, [.int δ.1, .ref db])), (db, .inl (cA, 24, .inl δ.2)), (e0, .inr (0, [.ref d, .ref s0]))]) [0, 1, 2, 3, 4, 5, 6, 7, 8, 9, 10] rfl) rfl rfl) rfl rfl hl.1 rfl (lv_room (Nat.le_of_ble_eq_true rfl)) dL_deltaLength_5 ⟨Nat.le_of_ble_eq_true rfl, Nat.le_of_ble_eq_true rfl⟩) (fun E ce q9 H1 locs hE hP hD hS hce hcv hcl => ?_) (fun r h => ?_)
  · skip
    rcases hE with ⟨hk, rfl⟩ | ⟨hk, rfl⟩ | ⟨hk, rfl⟩
    · skip
      refine vx_catch (name := bx_iae) (E := bx_iae) hown [] ⟨0, 10, 13, 22⟩ [⟨0, 10, 17, 13⟩, ⟨0, 10, 21, 53⟩] htab (fun z hz => nomatch hz) (by decide) (by decide) (hts (.classLink RL 22 bx_iae) (by decide +kernel)) (va_Nw.use rfl (hG.1 (.castable bx_iae bx_iae) (by decide +kernel))) hce hcv hcl ?_
      refine W.eq (g2 := F0 m 13 ls [.ref q9]) rfl ?_
      refine lv_astore (lv' := [(4, .ref q9), (0, .ref b), (1, .int p0), (2, .int p1), (3, .ref ou)]) hx hb dL_deltaLength_13 hl (by decide) rfl (fun ls hl => ?_)
      refine lv_iconst (v := 1) hx hb dL_deltaLength_15 (by decide) ?_
      refine vx_ret ?_
      exact W.iret (v := 1) hx hb hr (fun t ht hW => ⟨⟨1, ov, rfl, (by simp only [F_L_deltaLength, hk] <;> rfl), ⟨by rw [ht]; exact hP, hD⟩⟩, hS.F ht⟩) hS.2.2 dL_deltaLength_16
    · skip
      refine vx_catch (name := bx_ise) (E := bx_ise) hown [⟨0, 10, 13, 22⟩] ⟨0, 10, 17, 13⟩ [⟨0, 10, 21, 53⟩] htab (fun z hz => by simp only [List.mem_singleton] at hz; subst hz; exact Or.inr ⟨(by decide), bx_iae, hts (.classLink RL 22 bx_iae) (by decide +kernel), hG.2.1 (bx_ise, bx_iae) (by decide)⟩) (by decide) (by decide) (hts (.classLink RL 13 bx_ise) (by decide +kernel)) (va_Nw.use rfl (hG.1 (.castable bx_ise bx_ise) (by decide +kernel))) hce hcv hcl ?_
      refine W.eq (g2 := F0 m 17 ls [.ref q9]) rfl ?_
      refine lv_astore (lv' := [(4, .ref q9), (0, .ref b), (1, .int p0), (2, .int p1), (3, .ref ou)]) hx hb dL_deltaLength_17 hl (by decide) rfl (fun ls hl => ?_)
      refine lv_iconst (v := 2) hx hb dL_deltaLength_19 (by decide) ?_
      refine vx_ret ?_
      exact W.iret (v := 2) hx hb hr (fun t ht hW => ⟨⟨2, ov, rfl, (by simp only [F_L_deltaLength, hk] <;> rfl), ⟨by rw [ht]; exact hP, hD⟩⟩, hS.F ht⟩) hS.2.2 dL_deltaLength_20
    · skip
      refine vx_catch (name := bx_ioe) (E := bx_ioe) hown [⟨0, 10, 13, 22⟩, ⟨0, 10, 17, 13⟩] ⟨0, 10, 21, 53⟩ [] htab (fun z hz => by simp only [List.mem_cons, List.mem_singleton, List.not_mem_nil, or_false] at hz; rcases hz with rfl | rfl; exact Or.inr ⟨(by decide), bx_iae, hts (.classLink RL 22 bx_iae) (by decide +kernel), hG.2.1 (bx_ioe, bx_iae) (by decide)⟩; exact Or.inr ⟨(by decide), bx_ise, hts (.classLink RL 13 bx_ise) (by decide +kernel), hG.2.1 (bx_ioe, bx_ise) (by decide)⟩) (by decide) (by decide) (hts (.classLink RL 53 bx_ioe) (by decide +kernel)) (va_Nw.use rfl (hG.1 (.castable bx_ioe bx_ioe) (by decide +kernel))) hce hcv hcl ?_
      refine W.eq (g2 := F0 m 21 ls [.ref q9]) rfl ?_
      refine lv_astore (lv' := [(4, .ref q9), (0, .ref b), (1, .int p0), (2, .int p1), (3, .ref ou)]) hx hb dL_deltaLength_21 hl (by decide) rfl (fun ls hl => ?_)
      refine lv_iconst (v := 3) hx hb dL_deltaLength_23 (by decide) ?_
      refine vx_ret ?_
      exact W.iret (v := 3) hx hb hr (fun t ht hW => ⟨⟨3, ov, rfl, (by simp only [F_L_deltaLength, hk] <;> rfl), ⟨by rw [ht]; exact hP, hD⟩⟩, hS.F ht⟩) hS.2.2 dL_deltaLength_24
  · skip
    refine lv_i2l (v := r.toInt64) hx hb dL_deltaLength_8 rfl ?_
    refine va_last (D := D) hx hb hK hP hD hS 11 1 rfl rfl (vp_in_iff.mpr (by decide)) dL_deltaLength_9 (fun H locs hP hD hS => ?_)
    have hP : va_P D vwCl [(b, .inr (5, [.ref s0, .ref s2, .ref t0, .ref d, .ref e0, .int run])), (s0, .inr (3, [.ref f])), (f, .inr (2, [.ref w, .int σ.2.1, .int σ.2.2])), (w, .inl (cA, 66, .inl σ.1)), (s2, .inr (3, [.ref f2])), (f2, .inr (2, [.ref w2, .int ρ.2.1, .int ρ.2.2])), (w2, .inl (cA, 66, .inl ρ.1)), (t0, .inr (4, [.int τ.1, .int τ.2.1, .int τ.2.2.1, .int τ.2.2.2.1, .int τ.2.2.2.2.1, .int τ.2.2.2.2.2])), (d, .inr (1, [.int δ.1, .ref db])), (db, .inl (cA, 24, .inl δ.2)), (e0, .inr (0, [.ref d, .ref s0])), (ou, .inl (cL, 1, .inr (.inl (vp_updL ov 0 r.toInt64))))] H := hP
    have hD : va_D A [(b, .inr (5, [.ref s0, .ref s2, .ref t0, .ref d, .ref e0, .int run])), (s0, .inr (3, [.ref f])), (f, .inr (2, [.ref w, .int σ.2.1, .int σ.2.2])), (w, .inl (cA, 66, .inl σ.1)), (s2, .inr (3, [.ref f2])), (f2, .inr (2, [.ref w2, .int ρ.2.1, .int ρ.2.2])), (w2, .inl (cA, 66, .inl ρ.1)), (t0, .inr (4, [.int τ.1, .int τ.2.1, .int τ.2.2.1, .int τ.2.2.2.1, .int τ.2.2.2.2.1, .int τ.2.2.2.2.2])), (d, .inr (1, [.int δ.1, .ref db])), (db, .inl (cA, 24, .inl δ.2)), (e0, .inr (0, [.ref d, .ref s0])), (ou, .inl (cL, 1, .inr (.inl (vp_updL ov 0 r.toInt64))))] := hD
    refine lv_goto (tgt := 25) hx hb dL_deltaLength_10 (by decide) ?_
    refine lv_iconst (v := 0) hx hb dL_deltaLength_25 (by decide) ?_
    refine vx_ret ?_
    refine W.widen (k := 1) (n := 6) (Nat.le_of_ble_eq_true rfl) (Nat.le_of_ble_eq_true rfl) ?_
    exact W.iret (v := 0) hx hb hr (fun t ht hW => ⟨⟨0, (vp_updL ov 0 r.toInt64), rfl, (by simp only [F_L_deltaLength, ← h] <;> rfl), ⟨by rw [ht]; exact hP, hD⟩⟩, hS.F ht⟩) hS.2.2 dL_deltaLength_26
def F_L_deltaFrom (σ : FS) (δ : DS) (ov : Nat → Int64) (p0 : Int32) (p1 : Int32) : Int32 × (Nat → Int64) := if (F_X5_deltaFrom σ δ p0 p1).1 = 0 then (0, (vp_updL ov 0 (F_X5_deltaFrom σ δ p0 p1).2.toInt64)) else ((F_X5_deltaFrom σ δ p0 p1).1, ov)
set_option maxHeartbeats 4000000 in
set_option maxRecDepth 100000 in
theorem c_L_deltaFrom (l : Launch) (hl9 : l.stackTraces = false) (D : va_G) (cA cL : ClassId) (b s0 f w s2 f2 w2 t0 d db e0 ou : Nat) (sz : Nat) (σ : FS) (ρ : FS) (τ : TS) (δ : DS) (run : Int32) (ov : Nat → Int64) (p0 : Int32) (p1 : Int32) : vx_Met l yL_deltaFrom wsL_deltaFrom ({ frames := 9, cells := 1, slots := 6, locals := 165 }) (va_Pc [.ref b, .int p0, .int p1, .ref ou] (bx_prx D [(cA, .int), (cL, .long)] (wWr cA cL b s0 f w s2 f2 w2 t0 d db e0 ou σ ρ τ δ run ov) sz)) (va_Qi (fun (r : Int32) (u : (Nat → Int64)) => (r, u) = F_L_deltaFrom σ δ ov p0 p1) (fun u t => bx_at D (wWr cA cL b s0 f w s2 f2 w2 t0 d db e0 ou σ ρ τ δ run u) (va_A (wWr cA cL b s0 f w s2 f2 w2 t0 d db e0 ou σ ρ τ δ run ov) sz) t) (va_A (wWr cA cL b s0 f w s2 f2 w2 t0 d db e0 ou σ ρ τ δ run ov) sz)) (fun _ _ _ => False) 1 6 (va_A (wWr cA cL b s0 f w s2 f2 w2 t0 d db e0 ou σ ρ τ δ run ov) sz) := by
  refine vx_ofWH (cc := cL_deltaFrom) (maxL := 5) (ret := (some .int)) (hh := [(0, 10, 13, 22), (0, 10, 17, 13), (0, 10, 21, 53)]) (by decide) rfl ?_
  intro p e s m args below meth c s₁ B hml hv
  obtain ⟨rfl, hsz, hP, hK, hD0, hG, hZ⟩ := hv
  have hx := B.exec
  have hb := B.bytes
  have hr := B.returns
  have hts := atoms_spec (ws := wsL_deltaFrom) B.pre
  have hown : s.vm.findClass RL = some m.cls := findClass_of_methodNamed B.named
  have hlocks := B.notSynchronized
  have htab := vx_table (x := yL_deltaFrom) B (hts _ List.mem_cons_self)
  subst hsz
  have hD := hD0.self (sz := s.heap.size)
  generalize hAe : va_A (wWr cA cL b s0 f w s2 f2 w2 t0 d db e0 ou σ ρ τ δ run ov) s.heap.size = A at hD ⊢
  have hA : ∀ q : Nat, s.heap.size ≤ q → A q := fun q h => by rw [← hAe]; exact Or.inr h
  have hS : va_S A s.heap s.heap [] := va_S.rf
  have hD : va_D A [(b, .inr (5, [.ref s0, .ref s2, .ref t0, .ref d, .ref e0, .int run])), (s0, .inr (3, [.ref f])), (f, .inr (2, [.ref w, .int σ.2.1, .int σ.2.2])), (w, .inl (cA, 66, .inl σ.1)), (s2, .inr (3, [.ref f2])), (f2, .inr (2, [.ref w2, .int ρ.2.1, .int ρ.2.2])), (w2, .inl (cA, 66, .inl ρ.1)), (t0, .inr (4, [.int τ.1, .int τ.2.1, .int τ.2.2.1, .int τ.2.2.2.1, .int τ.2.2.2.2.1, .int τ.2.2.2.2.2])), (d, .inr (1, [.int δ.1, .ref db])), (db, .inl (cA, 24, .inl δ.2)), (e0, .inr (0, [.ref d, .ref s0])), (ou, .inl (cL, 1, .inr (.inl ov)))] := hD
  have hP : va_P D vwCl [(b, .inr (5, [.ref s0, .ref s2, .ref t0, .ref d, .ref e0, .int run])), (s0, .inr (3, [.ref f])), (f, .inr (2, [.ref w, .int σ.2.1, .int σ.2.2])), (w, .inl (cA, 66, .inl σ.1)), (s2, .inr (3, [.ref f2])), (f2, .inr (2, [.ref w2, .int ρ.2.1, .int ρ.2.2])), (w2, .inl (cA, 66, .inl ρ.1)), (t0, .inr (4, [.int τ.1, .int τ.2.1, .int τ.2.2.1, .int τ.2.2.2.1, .int τ.2.2.2.2.1, .int τ.2.2.2.2.2])), (d, .inr (1, [.int δ.1, .ref db])), (db, .inl (cA, 24, .inl δ.2)), (e0, .inr (0, [.ref d, .ref s0])), (ou, .inl (cL, 1, .inr (.inl ov)))] s.heap := hP
  have hl := lv_entry ([.ref b, .int p0, .int p1, .ref ou]) (n := 5) (Nat.le_of_ble_eq_true rfl)
  rw [lg_entry_eq]
  generalize (lg_sl ([.ref b, .int p0, .int p1, .ref ou]) ++ List.replicate (5 - (lg_sl ([.ref b, .int p0, .int p1, .ref ou])).length) Slot.unset).toArray = ls at hl ⊢
  have hl : lv_has ls 5 [(0, .ref b), (1, .int p0), (2, .int p1), (3, .ref ou)] := hl
  refine lv_aload_n hx hb dL_deltaFrom_0 rfl (lv_at hl 3 rfl) ?_
  refine lv_iconst (v := 0) hx hb dL_deltaFrom_1 (by decide) ?_
  refine lv_aload_n hx hb dL_deltaFrom_2 rfl (lv_at hl 0 rfl) ?_
  refine lv_iload_n hx hb dL_deltaFrom_3 rfl (lv_at hl 1 rfl) ?_
  refine lv_iload_n hx hb dL_deltaFrom_4 rfl (lv_at hl 2 rfl) ?_
  refine bx_xri hP hD hS (vx_runV (As := [.int p0, .int p1]) (rest := [.int 0, .ref ou]) ⟨hx, hb, hml, hown, hts⟩ (c_X5_deltaFrom l hl9 D cA b s0 f w s2 f2 w2 t0 d db e0 σ ρ τ δ run p0 p1) (cwV 2 hts gL_deltaFrom_X5_deltaFrom rfl rfl rfl (by decide +kernel) ⟨Nat.le_of_ble_eq_true rfl, Nat.le_of_ble_eq_true rfl⟩) (bx_pvrx (ci := 5) (q0 := 0) (hK.sub (tys' := [(cA, .int)]) [0] rfl) hG hZ (hP.sub (ws' := [(b, .inr (5, [.ref s0, .ref s2, .ref t0, .ref d, .ref e0, .int run])), (s0, .inr (3, [.ref f])), (f, .inr (2, [.ref w, .int σ.2.1, .int σ.2.2])), (w, .inl (cA, 66, .inl σ.1)), (s2, .inr (3, [.ref f2])), (f2, .inr (2, [.ref w2, .int ρ.2.1, .int ρ.2.2])), (w2, .inl (cA, 66, .inl ρ.1)), (t0, .inr (4, [.int τ.1, .int τ.2.1, .int τ.2.2.1, .int τ.2.2.2.1, .int τ.2.2.2.2.1, .int τ.2.2.2.2.2])), (d, .inr (1, [.int δ.1, .ref db])), (db, .inl (cA, 24, .inl δ.2)), (e0, .inr (0, [.ref d, .ref s0]))]) [0, 1, 2, 3, 4, 5, 6, 7, 8, 9, 10] rfl) rfl rfl) rfl rfl hl.1 rfl (lv_room (Nat.le_of_ble_eq_true rfl)) dL_deltaFrom_5 ⟨Nat.le_of_ble_eq_true rfl, Nat.le_of_ble_eq_true rfl⟩) (fun E ce q9 H1 locs hE hP hD hS hce hcv hcl => ?_) (fun r h => ?_)
  · skip
    rcases hE with ⟨hk, rfl⟩ | ⟨hk, rfl⟩ | ⟨hk, rfl⟩
    · skip
      refine vx_catch (name := bx_iae) (E := bx_iae) hown [] ⟨0, 10, 13, 22⟩ [⟨0, 10, 17, 13⟩, ⟨0, 10, 21, 53⟩] htab (fun z hz => nomatch hz) (by decide) (by decide) (hts (.classLink RL 22 bx_iae) (by decide +kernel)) (va_Nw.use rfl (hG.1 (.castable bx_iae bx_iae) (by decide +kernel))) hce hcv hcl ?_
      refine W.eq (g2 := F0 m 13 ls [.ref q9]) rfl ?_
      refine lv_astore (lv' := [(4, .ref q9), (0, .ref b), (1, .int p0), (2, .int p1), (3, .ref ou)]) hx hb dL_deltaFrom_13 hl (by decide) rfl (fun ls hl => ?_)
      refine lv_iconst (v := 1) hx hb dL_deltaFrom_15 (by decide) ?_
      refine vx_ret ?_
      exact W.iret (v := 1) hx hb hr (fun t ht hW => ⟨⟨1, ov, rfl, (by simp only [F_L_deltaFrom, hk] <;> rfl), ⟨by rw [ht]; exact hP, hD⟩⟩, hS.F ht⟩) hS.2.2 dL_deltaFrom_16
    · skip
      refine vx_catch (name := bx_ise) (E := bx_ise) hown [⟨0, 10, 13, 22⟩] ⟨0, 10, 17, 13⟩ [⟨0, 10, 21, 53⟩] htab (fun z hz => by simp only [List.mem_singleton] at hz; subst hz; exact Or.inr ⟨(by decide), bx_iae, hts (.classLink RL 22 bx_iae) (by decide +kernel), hG.2.1 (bx_ise, bx_iae) (by decide)⟩) (by decide) (by decide) (hts (.classLink RL 13 bx_ise) (by decide +kernel)) (va_Nw.use rfl (hG.1 (.castable bx_ise bx_ise) (by decide +kernel))) hce hcv hcl ?_
      refine W.eq (g2 := F0 m 17 ls [.ref q9]) rfl ?_
      refine lv_astore (lv' := [(4, .ref q9), (0, .ref b), (1, .int p0), (2, .int p1), (3, .ref ou)]) hx hb dL_deltaFrom_17 hl (by decide) rfl (fun ls hl => ?_)
      refine lv_iconst (v := 2) hx hb dL_deltaFrom_19 (by decide) ?_
      refine vx_ret ?_
      exact W.iret (v := 2) hx hb hr (fun t ht hW => ⟨⟨2, ov, rfl, (by simp only [F_L_deltaFrom, hk] <;> rfl), ⟨by rw [ht]; exact hP, hD⟩⟩, hS.F ht⟩) hS.2.2 dL_deltaFrom_20
    · skip
      refine vx_catch (name := bx_ioe) (E := bx_ioe) hown [⟨0, 10, 13, 22⟩, ⟨0, 10, 17, 13⟩] ⟨0, 10, 21, 53⟩ [] htab (fun z hz => by simp only [List.mem_cons, List.mem_singleton, List.not_mem_nil, or_false] at hz; rcases hz with rfl | rfl; exact Or.inr ⟨(by decide), bx_iae, hts (.classLink RL 22 bx_iae) (by decide +kernel), hG.2.1 (bx_ioe, bx_iae) (by decide)⟩; exact Or.inr ⟨(by decide), bx_ise, hts (.classLink RL 13 bx_ise) (by decide +kernel), hG.2.1 (bx_ioe, bx_ise) (by decide)⟩) (by decide) (by decide) (hts (.classLink RL 53 bx_ioe) (by decide +kernel)) (va_Nw.use rfl (hG.1 (.castable bx_ioe bx_ioe) (by decide +kernel))) hce hcv hcl ?_
      refine W.eq (g2 := F0 m 21 ls [.ref q9]) rfl ?_
      refine lv_astore (lv' := [(4, .ref q9), (0, .ref b), (1, .int p0), (2, .int p1), (3, .ref ou)]) hx hb dL_deltaFrom_21 hl (by decide) rfl (fun ls hl => ?_)
      refine lv_iconst (v := 3) hx hb dL_deltaFrom_23 (by decide) ?_
      refine vx_ret ?_
      exact W.iret (v := 3) hx hb hr (fun t ht hW => ⟨⟨3, ov, rfl, (by simp only [F_L_deltaFrom, hk] <;> rfl), ⟨by rw [ht]; exact hP, hD⟩⟩, hS.F ht⟩) hS.2.2 dL_deltaFrom_24
  · skip
    refine lv_i2l (v := r.toInt64) hx hb dL_deltaFrom_8 rfl ?_
    refine va_last (D := D) hx hb hK hP hD hS 11 1 rfl rfl (vp_in_iff.mpr (by decide)) dL_deltaFrom_9 (fun H locs hP hD hS => ?_)
    have hP : va_P D vwCl [(b, .inr (5, [.ref s0, .ref s2, .ref t0, .ref d, .ref e0, .int run])), (s0, .inr (3, [.ref f])), (f, .inr (2, [.ref w, .int σ.2.1, .int σ.2.2])), (w, .inl (cA, 66, .inl σ.1)), (s2, .inr (3, [.ref f2])), (f2, .inr (2, [.ref w2, .int ρ.2.1, .int ρ.2.2])), (w2, .inl (cA, 66, .inl ρ.1)), (t0, .inr (4, [.int τ.1, .int τ.2.1, .int τ.2.2.1, .int τ.2.2.2.1, .int τ.2.2.2.2.1, .int τ.2.2.2.2.2])), (d, .inr (1, [.int δ.1, .ref db])), (db, .inl (cA, 24, .inl δ.2)), (e0, .inr (0, [.ref d, .ref s0])), (ou, .inl (cL, 1, .inr (.inl (vp_updL ov 0 r.toInt64))))] H := hP
    have hD : va_D A [(b, .inr (5, [.ref s0, .ref s2, .ref t0, .ref d, .ref e0, .int run])), (s0, .inr (3, [.ref f])), (f, .inr (2, [.ref w, .int σ.2.1, .int σ.2.2])), (w, .inl (cA, 66, .inl σ.1)), (s2, .inr (3, [.ref f2])), (f2, .inr (2, [.ref w2, .int ρ.2.1, .int ρ.2.2])), (w2, .inl (cA, 66, .inl ρ.1)), (t0, .inr (4, [.int τ.1, .int τ.2.1, .int τ.2.2.1, .int τ.2.2.2.1, .int τ.2.2.2.2.1, .int τ.2.2.2.2.2])), (d, .inr (1, [.int δ.1, .ref db])), (db, .inl (cA, 24, .inl δ.2)), (e0, .inr (0, [.ref d, .ref s0])), (ou, .inl (cL, 1, .inr (.inl (vp_updL ov 0 r.toInt64))))] := hD
    refine lv_goto (tgt := 25) hx hb dL_deltaFrom_10 (by decide) ?_
    refine lv_iconst (v := 0) hx hb dL_deltaFrom_25 (by decide) ?_
    refine vx_ret ?_
    refine W.widen (k := 1) (n := 6) (Nat.le_of_ble_eq_true rfl) (Nat.le_of_ble_eq_true rfl) ?_
    exact W.iret (v := 0) hx hb hr (fun t ht hW => ⟨⟨0, (vp_updL ov 0 r.toInt64), rfl, (by simp only [F_L_deltaFrom, ← h] <;> rfl), ⟨by rw [ht]; exact hP, hD⟩⟩, hS.F ht⟩) hS.2.2 dL_deltaFrom_26
def F_L_isStartable (σ : FS) (ov : Nat → Int64) (p0 : Int32) : Int32 × (Nat → Int64) := if (F_X5_isStartable σ p0).1 = 0 then (0, (vp_updL ov 0 (if (F_X5_isStartable σ p0).2 = 0 then 0 else 1))) else ((F_X5_isStartable σ p0).1, ov)
set_option maxHeartbeats 4000000 in
set_option maxRecDepth 100000 in
theorem c_L_isStartable (l : Launch) (hl9 : l.stackTraces = false) (D : va_G) (cA cL : ClassId) (b s0 f w s2 f2 w2 t0 d db e0 ou : Nat) (sz : Nat) (σ : FS) (ρ : FS) (τ : TS) (δ : DS) (run : Int32) (ov : Nat → Int64) (p0 : Int32) : vx_Met l yL_isStartable wsL_isStartable ({ frames := 8, cells := 1, slots := 6, locals := 133 }) (va_Pc [.ref b, .int p0, .ref ou] (bx_prx D [(cA, .int), (cL, .long)] (wWr cA cL b s0 f w s2 f2 w2 t0 d db e0 ou σ ρ τ δ run ov) sz)) (va_Qi (fun (r : Int32) (u : (Nat → Int64)) => (r, u) = F_L_isStartable σ ov p0) (fun u t => bx_at D (wWr cA cL b s0 f w s2 f2 w2 t0 d db e0 ou σ ρ τ δ run u) (va_A (wWr cA cL b s0 f w s2 f2 w2 t0 d db e0 ou σ ρ τ δ run ov) sz) t) (va_A (wWr cA cL b s0 f w s2 f2 w2 t0 d db e0 ou σ ρ τ δ run ov) sz)) (fun _ _ _ => False) 1 6 (va_A (wWr cA cL b s0 f w s2 f2 w2 t0 d db e0 ou σ ρ τ δ run ov) sz) := by
  refine vx_ofWH (cc := cL_isStartable) (maxL := 4) (ret := (some .int)) (hh := [(0, 16, 19, 22)]) (by decide) rfl ?_
  intro p e s m args below meth c s₁ B hml hv
  obtain ⟨rfl, hsz, hP, hK, hD0, hG, hZ⟩ := hv
  have hx := B.exec
  have hb := B.bytes
  have hr := B.returns
  have hts := atoms_spec (ws := wsL_isStartable) B.pre
  have hown : s.vm.findClass RL = some m.cls := findClass_of_methodNamed B.named
  have hlocks := B.notSynchronized
  have htab := vx_table (x := yL_isStartable) B (hts _ List.mem_cons_self)
  subst hsz
  have hD := hD0.self (sz := s.heap.size)
  generalize hAe : va_A (wWr cA cL b s0 f w s2 f2 w2 t0 d db e0 ou σ ρ τ δ run ov) s.heap.size = A at hD ⊢
  have hA : ∀ q : Nat, s.heap.size ≤ q → A q := fun q h => by rw [← hAe]; exact Or.inr h
  have hS : va_S A s.heap s.heap [] := va_S.rf
  have hD : va_D A [(b, .inr (5, [.ref s0, .ref s2, .ref t0, .ref d, .ref e0, .int run])), (s0, .inr (3, [.ref f])), (f, .inr (2, [.ref w, .int σ.2.1, .int σ.2.2])), (w, .inl (cA, 66, .inl σ.1)), (s2, .inr (3, [.ref f2])), (f2, .inr (2, [.ref w2, .int ρ.2.1, .int ρ.2.2])), (w2, .inl (cA, 66, .inl ρ.1)), (t0, .inr (4, [.int τ.1, .int τ.2.1, .int τ.2.2.1, .int τ.2.2.2.1, .int τ.2.2.2.2.1, .int τ.2.2.2.2.2])), (d, .inr (1, [.int δ.1, .ref db])), (db, .inl (cA, 24, .inl δ.2)), (e0, .inr (0, [.ref d, .ref s0])), (ou, .inl (cL, 1, .inr (.inl ov)))] := hD
  have hP : va_P D vwCl [(b, .inr (5, [.ref s0, .ref s2, .ref t0, .ref d, .ref e0, .int run])), (s0, .inr (3, [.ref f])), (f, .inr (2, [.ref w, .int σ.2.1, .int σ.2.2])), (w, .inl (cA, 66, .inl σ.1)), (s2, .inr (3, [.ref f2])), (f2, .inr (2, [.ref w2, .int ρ.2.1, .int ρ.2.2])), (w2, .inl (cA, 66, .inl ρ.1)), (t0, .inr (4, [.int τ.1, .int τ.2.1, .int τ.2.2.1, .int τ.2.2.2.1, .int τ.2.2.2.2.1, .int τ.2.2.2.2.2])), (d, .inr (1, [.int δ.1, .ref db])), (db, .inl (cA, 24, .inl δ.2)), (e0, .inr (0, [.ref d, .ref s0])), (ou, .inl (cL, 1, .inr (.inl ov)))] s.heap := hP
  have hl := lv_entry ([.ref b, .int p0, .ref ou]) (n := 4) (Nat.le_of_ble_eq_true rfl)
  rw [lg_entry_eq]
  generalize (lg_sl ([.ref b, .int p0, .ref ou]) ++ List.replicate (4 - (lg_sl ([.ref b, .int p0, .ref ou])).length) Slot.unset).toArray = ls at hl ⊢
  have hl : lv_has ls 4 [(0, .ref b), (1, .int p0), (2, .ref ou)] := hl
  refine lv_aload_n hx hb dL_isStartable_0 rfl (lv_at hl 2 rfl) ?_
  refine lv_iconst (v := 0) hx hb dL_isStartable_1 (by decide) ?_
  refine lv_aload_n hx hb dL_isStartable_2 rfl (lv_at hl 0 rfl) ?_
  refine lv_iload_n hx hb dL_isStartable_3 rfl (lv_at hl 1 rfl) ?_
  refine bx_xri hP hD hS (vx_runV (As := [.int p0]) (rest := [.int 0, .ref ou]) ⟨hx, hb, hml, hown, hts⟩ (c_X5_isStartable l hl9 D cA b s0 f w s2 f2 w2 t0 d db e0 σ ρ τ δ run p0) (cwV 1 hts gL_isStartable_X5_isStartable rfl rfl rfl (by decide +kernel) ⟨Nat.le_of_ble_eq_true rfl, Nat.le_of_ble_eq_true rfl⟩) (bx_pvrx (ci := 5) (q0 := 0) (hK.sub (tys' := [(cA, .int)]) [0] rfl) hG hZ (hP.sub (ws' := [(b, .inr (5, [.ref s0, .ref s2, .ref t0, .ref d, .ref e0, .int run])), (s0, .inr (3, [.ref f])), (f, .inr (2, [.ref w, .int σ.2.1, .int σ.2.2])), (w, .inl (cA, 66, .inl σ.1)), (s2, .inr (3, [.ref f2])), (f2, .inr (2, [.ref w2, .int ρ.2.1, .int ρ.2.2])), (w2, .inl (cA, 66, .inl ρ.1)), (t0, .inr (4, [.int τ.1, .int τ.2.1, .int τ.2.2.1, .int τ.2.2.2.1, .int τ.2.2.2.2.1, .int τ.2.2.2.2.2])), (d, .inr (1, [.int δ.1, .ref db])), (db, .inl (cA, 24, .inl δ.2)), (e0, .inr (0, [.ref d, .ref s0]))]) [0, 1, 2, 3, 4, 5, 6, 7, 8, 9, 10] rfl) rfl rfl) rfl rfl hl.1 rfl (lv_room (Nat.le_of_ble_eq_true rfl)) dL_isStartable_4 ⟨Nat.le_of_ble_eq_true rfl, Nat.le_of_ble_eq_true rfl⟩) (fun E ce q9 H1 locs hE hP hD hS hce hcv hcl => ?_) (fun r h => ?_)
  · skip
    rcases hE with ⟨hk, rfl⟩ | ⟨hk, rfl⟩ | ⟨hk, rfl⟩
    · skip
      refine vx_catch (name := bx_iae) (E := bx_iae) hown [] ⟨0, 16, 19, 22⟩ [] htab (fun z hz => nomatch hz) (by decide) (by decide) (hts (.classLink RL 22 bx_iae) (by decide +kernel)) (va_Nw.use rfl (hG.1 (.castable bx_iae bx_iae) (by decide +kernel))) hce hcv hcl ?_
      refine W.eq (g2 := F0 m 19 ls [.ref q9]) rfl ?_
      refine lv_astore_n (lv' := [(3, .ref q9), (0, .ref b), (1, .int p0), (2, .ref ou)]) hx hb dL_isStartable_19 rfl hl (by decide) rfl (fun ls hl => ?_)
      refine lv_iconst (v := 1) hx hb dL_isStartable_20 (by decide) ?_
      refine vx_ret ?_
      exact W.iret (v := 1) hx hb hr (fun t ht hW => ⟨⟨1, ov, rfl, (by simp only [F_L_isStartable, hk] <;> rfl), ⟨by rw [ht]; exact hP, hD⟩⟩, hS.F ht⟩) hS.2.2 dL_isStartable_21
    · skip
      exact absurd hk (nc2_isStartable _ _)
    · skip
      exact absurd hk (nc3_isStartable _ _)
  · skip
    obtain ⟨h, hb9⟩ := h
    refine lv_if_eq (tgt := 14) hx hb dL_isStartable_7 (by decide) (fun c_1 => ?_) (fun c_1 => ?_)
    · skip
      refine lv_lconst (v := 0) hx hb dL_isStartable_14 rfl ?_
      refine va_last (D := D) hx hb hK hP hD hS 11 1 rfl rfl (vp_in_iff.mpr (by decide)) dL_isStartable_15 (fun H locs hP hD hS => ?_)
      have hP : va_P D vwCl [(b, .inr (5, [.ref s0, .ref s2, .ref t0, .ref d, .ref e0, .int run])), (s0, .inr (3, [.ref f])), (f, .inr (2, [.ref w, .int σ.2.1, .int σ.2.2])), (w, .inl (cA, 66, .inl σ.1)), (s2, .inr (3, [.ref f2])), (f2, .inr (2, [.ref w2, .int ρ.2.1, .int ρ.2.2])), (w2, .inl (cA, 66, .inl ρ.1)), (t0, .inr (4, [.int τ.1, .int τ.2.1, .int τ.2.2.1, .int τ.2.2.2.1, .int τ.2.2.2.2.1, .int τ.2.2.2.2.2])), (d, .inr (1, [.int δ.1, .ref db])), (db, .inl (cA, 24, .inl δ.2)), (e0, .inr (0, [.ref d, .ref s0])), (ou, .inl (cL, 1, .inr (.inl (vp_updL ov 0 0))))] H := hP
      have hD : va_D A [(b, .inr (5, [.ref s0, .ref s2, .ref t0, .ref d, .ref e0, .int run])), (s0, .inr (3, [.ref f])), (f, .inr (2, [.ref w, .int σ.2.1, .int σ.2.2])), (w, .inl (cA, 66, .inl σ.1)), (s2, .inr (3, [.ref f2])), (f2, .inr (2, [.ref w2, .int ρ.2.1, .int ρ.2.2])), (w2, .inl (cA, 66, .inl ρ.1)), (t0, .inr (4, [.int τ.1, .int τ.2.1, .int τ.2.2.1, .int τ.2.2.2.1, .int τ.2.2.2.2.1, .int τ.2.2.2.2.2])), (d, .inr (1, [.int δ.1, .ref db])), (db, .inl (cA, 24, .inl δ.2)), (e0, .inr (0, [.ref d, .ref s0])), (ou, .inl (cL, 1, .inr (.inl (vp_updL ov 0 0))))] := hD
      refine lv_goto (tgt := 22) hx hb dL_isStartable_16 (by decide) ?_
      refine lv_iconst (v := 0) hx hb dL_isStartable_22 (by decide) ?_
      refine vx_ret ?_
      refine W.widen (k := 1) (n := 6) (Nat.le_of_ble_eq_true rfl) (Nat.le_of_ble_eq_true rfl) ?_
      exact W.iret (v := 0) hx hb hr (fun t ht hW => ⟨⟨0, (vp_updL ov 0 0), rfl, (by simp only [F_L_isStartable, ← h, if_pos c_1] <;> rfl), ⟨by rw [ht]; exact hP, hD⟩⟩, hS.F ht⟩) hS.2.2 dL_isStartable_23
    · skip
      refine lv_lconst (v := 1) hx hb dL_isStartable_10 rfl ?_
      refine lv_goto (tgt := 15) hx hb dL_isStartable_11 (by decide) ?_
      refine va_last (D := D) hx hb hK hP hD hS 11 1 rfl rfl (vp_in_iff.mpr (by decide)) dL_isStartable_15 (fun H locs hP hD hS => ?_)
      have hP : va_P D vwCl [(b, .inr (5, [.ref s0, .ref s2, .ref t0, .ref d, .ref e0, .int run])), (s0, .inr (3, [.ref f])), (f, .inr (2, [.ref w, .int σ.2.1, .int σ.2.2])), (w, .inl (cA, 66, .inl σ.1)), (s2, .inr (3, [.ref f2])), (f2, .inr (2, [.ref w2, .int ρ.2.1, .int ρ.2.2])), (w2, .inl (cA, 66, .inl ρ.1)), (t0, .inr (4, [.int τ.1, .int τ.2.1, .int τ.2.2.1, .int τ.2.2.2.1, .int τ.2.2.2.2.1, .int τ.2.2.2.2.2])), (d, .inr (1, [.int δ.1, .ref db])), (db, .inl (cA, 24, .inl δ.2)), (e0, .inr (0, [.ref d, .ref s0])), (ou, .inl (cL, 1, .inr (.inl (vp_updL ov 0 1))))] H := hP
      have hD : va_D A [(b, .inr (5, [.ref s0, .ref s2, .ref t0, .ref d, .ref e0, .int run])), (s0, .inr (3, [.ref f])), (f, .inr (2, [.ref w, .int σ.2.1, .int σ.2.2])), (w, .inl (cA, 66, .inl σ.1)), (s2, .inr (3, [.ref f2])), (f2, .inr (2, [.ref w2, .int ρ.2.1, .int ρ.2.2])), (w2, .inl (cA, 66, .inl ρ.1)), (t0, .inr (4, [.int τ.1, .int τ.2.1, .int τ.2.2.1, .int τ.2.2.2.1, .int τ.2.2.2.2.1, .int τ.2.2.2.2.2])), (d, .inr (1, [.int δ.1, .ref db])), (db, .inl (cA, 24, .inl δ.2)), (e0, .inr (0, [.ref d, .ref s0])), (ou, .inl (cL, 1, .inr (.inl (vp_updL ov 0 1))))] := hD
      refine lv_goto (tgt := 22) hx hb dL_isStartable_16 (by decide) ?_
      refine lv_iconst (v := 0) hx hb dL_isStartable_22 (by decide) ?_
      refine vx_ret ?_
      refine W.widen (k := 1) (n := 6) (Nat.le_of_ble_eq_true rfl) (Nat.le_of_ble_eq_true rfl) ?_
      exact W.iret (v := 0) hx hb hr (fun t ht hW => ⟨⟨0, (vp_updL ov 0 1), rfl, (by simp only [F_L_isStartable, ← h, if_neg c_1] <;> rfl), ⟨by rw [ht]; exact hP, hD⟩⟩, hS.F ht⟩) hS.2.2 dL_isStartable_23
def F_L_version (σ : FS) (ov : Nat → Int64) (p0 : Int32) : Int32 × (Nat → Int64) := if (F_X5_version σ p0).1 = 0 then (0, (vp_updL ov 0 (F_X5_version σ p0).2.toInt64)) else ((F_X5_version σ p0).1, ov)
set_option maxHeartbeats 4000000 in
set_option maxRecDepth 100000 in
theorem c_L_version (l : Launch) (hl9 : l.stackTraces = false) (D : va_G) (cA cL : ClassId) (b s0 f w s2 f2 w2 t0 d db e0 ou : Nat) (sz : Nat) (σ : FS) (ρ : FS) (τ : TS) (δ : DS) (run : Int32) (ov : Nat → Int64) (p0 : Int32) : vx_Met l yL_version wsL_version ({ frames := 8, cells := 1, slots := 6, locals := 133 }) (va_Pc [.ref b, .int p0, .ref ou] (bx_prx D [(cA, .int), (cL, .long)] (wWr cA cL b s0 f w s2 f2 w2 t0 d db e0 ou σ ρ τ δ run ov) sz)) (va_Qi (fun (r : Int32) (u : (Nat → Int64)) => (r, u) = F_L_version σ ov p0) (fun u t => bx_at D (wWr cA cL b s0 f w s2 f2 w2 t0 d db e0 ou σ ρ τ δ run u) (va_A (wWr cA cL b s0 f w s2 f2 w2 t0 d db e0 ou σ ρ τ δ run ov) sz) t) (va_A (wWr cA cL b s0 f w s2 f2 w2 t0 d db e0 ou σ ρ τ δ run ov) sz)) (fun _ _ _ => False) 1 6 (va_A (wWr cA cL b s0 f w s2 f2 w2 t0 d db e0 ou σ ρ τ δ run ov) sz) := by
  refine vx_ofWH (cc := cL_version) (maxL := 4) (ret := (some .int)) (hh := [(0, 9, 12, 22)]) (by decide) rfl ?_
  intro p e s m args below meth c s₁ B hml hv
  obtain ⟨rfl, hsz, hP, hK, hD0, hG, hZ⟩ := hv
  have hx := B.exec
  have hb := B.bytes
  have hr := B.returns
  have hts := atoms_spec (ws := wsL_version) B.pre
  have hown : s.vm.findClass RL = some m.cls := findClass_of_methodNamed B.named
  have hlocks := B.notSynchronized
  have htab := vx_table (x := yL_version) B (hts _ List.mem_cons_self)
  subst hsz
  have hD := hD0.self (sz := s.heap.size)
  generalize hAe : va_A (wWr cA cL b s0 f w s2 f2 w2 t0 d db e0 ou σ ρ τ δ run ov) s.heap.size = A at hD ⊢
  have hA : ∀ q : Nat, s.heap.size ≤ q → A q := fun q h => by rw [← hAe]; exact Or.inr h
  have hS : va_S A s.heap s.heap [] := va_S.rf
  have hD : va_D A [(b, .inr (5, [.ref s0, .ref s2, .ref t0, .ref d, .ref e0, .int run])), (s0, .inr (3, [.ref f])), (f, .inr (2, [.ref w, .int σ.2.1, .int σ.2.2])), (w, .inl (cA, 66, .inl σ.1)), (s2, .inr (3, [.ref f2])), (f2, .inr (2, [.ref w2, .int ρ.2.1, .int ρ.2.2])), (w2, .inl (cA, 66, .inl ρ.1)), (t0, .inr (4, [.int τ.1, .int τ.2.1, .int τ.2.2.1, .int τ.2.2.2.1, .int τ.2.2.2.2.1, .int τ.2.2.2.2.2])), (d, .inr (1, [.int δ.1, .ref db])), (db, .inl (cA, 24, .inl δ.2)), (e0, .inr (0, [.ref d, .ref s0])), (ou, .inl (cL, 1, .inr (.inl ov)))] := hD
  have hP : va_P D vwCl [(b, .inr (5, [.ref s0, .ref s2, .ref t0, .ref d, .ref e0, .int run])), (s0, .inr (3, [.ref f])), (f, .inr (2, [.ref w, .int σ.2.1, .int σ.2.2])), (w, .inl (cA, 66, .inl σ.1)), (s2, .inr (3, [.ref f2])), (f2, .inr (2, [.ref w2, .int ρ.2.1, .int ρ.2.2])), (w2, .inl (cA, 66, .inl ρ.1)), (t0, .inr (4, [.int τ.1, .int τ.2.1, .int τ.2.2.1, .int τ.2.2.2.1, .int τ.2.2.2.2.1, .int τ.2.2.2.2.2])), (d, .inr (1, [.int δ.1, .ref db])), (db, .inl (cA, 24, .inl δ.2)), (e0, .inr (0, [.ref d, .ref s0])), (ou, .inl (cL, 1, .inr (.inl ov)))] s.heap := hP
  have hl := lv_entry ([.ref b, .int p0, .ref ou]) (n := 4) (Nat.le_of_ble_eq_true rfl)
  rw [lg_entry_eq]
  generalize (lg_sl ([.ref b, .int p0, .ref ou]) ++ List.replicate (4 - (lg_sl ([.ref b, .int p0, .ref ou])).length) Slot.unset).toArray = ls at hl ⊢
  have hl : lv_has ls 4 [(0, .ref b), (1, .int p0), (2, .ref ou)] := hl
  refine lv_aload_n hx hb dL_version_0 rfl (lv_at hl 2 rfl) ?_
  refine lv_iconst (v := 0) hx hb dL_version_1 (by decide) ?_
  refine lv_aload_n hx hb dL_version_2 rfl (lv_at hl 0 rfl) ?_
  refine lv_iload_n hx hb dL_version_3 rfl (lv_at hl 1 rfl) ?_
  refine bx_xri hP hD hS (vx_runV (As := [.int p0]) (rest := [.int 0, .ref ou]) ⟨hx, hb, hml, hown, hts⟩ (c_X5_version l hl9 D cA b s0 f w s2 f2 w2 t0 d db e0 σ ρ τ δ run p0) (cwV 1 hts gL_version_X5_version rfl rfl rfl (by decide +kernel) ⟨Nat.le_of_ble_eq_true rfl, Nat.le_of_ble_eq_true rfl⟩) (bx_pvrx (ci := 5) (q0 := 0) (hK.sub (tys' := [(cA, .int)]) [0] rfl) hG hZ (hP.sub (ws' := [(b, .inr (5, [.ref s0, .ref s2, .ref t0, .ref d, .ref e0, .int run])), (s0, .inr (3, [.ref f])), (f, .inr (2, [.ref w, .int σ.2.1, .int σ.2.2])), (w, .inl (cA, 66, .inl σ.1)), (s2, .inr (3, [.ref f2])), (f2, .inr (2, [.ref w2, .int ρ.2.1, .int ρ.2.2])), (w2, .inl (cA, 66, .inl ρ.1)), (t0, .inr (4, [.int τ.1, .int τ.2.1, .int τ.2.2.1, .int τ.2.2.2.1, .int τ.2.2.2.2.1, .int τ.2.2.2.2.2])), (d, .inr (1, [.int δ.1, .ref db])), (db, .inl (cA, 24, .inl δ.2)), (e0, .inr (0, [.ref d, .ref s0]))]) [0, 1, 2, 3, 4, 5, 6, 7, 8, 9, 10] rfl) rfl rfl) rfl rfl hl.1 rfl (lv_room (Nat.le_of_ble_eq_true rfl)) dL_version_4 ⟨Nat.le_of_ble_eq_true rfl, Nat.le_of_ble_eq_true rfl⟩) (fun E ce q9 H1 locs hE hP hD hS hce hcv hcl => ?_) (fun r h => ?_)
  · skip
    rcases hE with ⟨hk, rfl⟩ | ⟨hk, rfl⟩ | ⟨hk, rfl⟩
    · skip
      refine vx_catch (name := bx_iae) (E := bx_iae) hown [] ⟨0, 9, 12, 22⟩ [] htab (fun z hz => nomatch hz) (by decide) (by decide) (hts (.classLink RL 22 bx_iae) (by decide +kernel)) (va_Nw.use rfl (hG.1 (.castable bx_iae bx_iae) (by decide +kernel))) hce hcv hcl ?_
      refine W.eq (g2 := F0 m 12 ls [.ref q9]) rfl ?_
      refine lv_astore_n (lv' := [(3, .ref q9), (0, .ref b), (1, .int p0), (2, .ref ou)]) hx hb dL_version_12 rfl hl (by decide) rfl (fun ls hl => ?_)
      refine lv_iconst (v := 1) hx hb dL_version_13 (by decide) ?_
      refine vx_ret ?_
      exact W.iret (v := 1) hx hb hr (fun t ht hW => ⟨⟨1, ov, rfl, (by simp only [F_L_version, hk] <;> rfl), ⟨by rw [ht]; exact hP, hD⟩⟩, hS.F ht⟩) hS.2.2 dL_version_14
    · skip
      exact absurd hk (nc2_version _ _)
    · skip
      exact absurd hk (nc3_version _ _)
  · skip
    refine lv_i2l (v := r.toInt64) hx hb dL_version_7 rfl ?_
    refine va_last (D := D) hx hb hK hP hD hS 11 1 rfl rfl (vp_in_iff.mpr (by decide)) dL_version_8 (fun H locs hP hD hS => ?_)
    have hP : va_P D vwCl [(b, .inr (5, [.ref s0, .ref s2, .ref t0, .ref d, .ref e0, .int run])), (s0, .inr (3, [.ref f])), (f, .inr (2, [.ref w, .int σ.2.1, .int σ.2.2])), (w, .inl (cA, 66, .inl σ.1)), (s2, .inr (3, [.ref f2])), (f2, .inr (2, [.ref w2, .int ρ.2.1, .int ρ.2.2])), (w2, .inl (cA, 66, .inl ρ.1)), (t0, .inr (4, [.int τ.1, .int τ.2.1, .int τ.2.2.1, .int τ.2.2.2.1, .int τ.2.2.2.2.1, .int τ.2.2.2.2.2])), (d, .inr (1, [.int δ.1, .ref db])), (db, .inl (cA, 24, .inl δ.2)), (e0, .inr (0, [.ref d, .ref s0])), (ou, .inl (cL, 1, .inr (.inl (vp_updL ov 0 r.toInt64))))] H := hP
    have hD : va_D A [(b, .inr (5, [.ref s0, .ref s2, .ref t0, .ref d, .ref e0, .int run])), (s0, .inr (3, [.ref f])), (f, .inr (2, [.ref w, .int σ.2.1, .int σ.2.2])), (w, .inl (cA, 66, .inl σ.1)), (s2, .inr (3, [.ref f2])), (f2, .inr (2, [.ref w2, .int ρ.2.1, .int ρ.2.2])), (w2, .inl (cA, 66, .inl ρ.1)), (t0, .inr (4, [.int τ.1, .int τ.2.1, .int τ.2.2.1, .int τ.2.2.2.1, .int τ.2.2.2.2.1, .int τ.2.2.2.2.2])), (d, .inr (1, [.int δ.1, .ref db])), (db, .inl (cA, 24, .inl δ.2)), (e0, .inr (0, [.ref d, .ref s0])), (ou, .inl (cL, 1, .inr (.inl (vp_updL ov 0 r.toInt64))))] := hD
    refine lv_goto (tgt := 15) hx hb dL_version_9 (by decide) ?_
    refine lv_iconst (v := 0) hx hb dL_version_15 (by decide) ?_
    refine vx_ret ?_
    refine W.widen (k := 1) (n := 6) (Nat.le_of_ble_eq_true rfl) (Nat.le_of_ble_eq_true rfl) ?_
    exact W.iret (v := 0) hx hb hr (fun t ht hW => ⟨⟨0, (vp_updL ov 0 r.toInt64), rfl, (by simp only [F_L_version, ← h] <;> rfl), ⟨by rw [ht]; exact hP, hD⟩⟩, hS.F ht⟩) hS.2.2 dL_version_16
def F_L_imageByte (σ : FS) (ov : Nat → Int64) (p0 : Int32) (p1 : Int32) : Int32 × (Nat → Int64) := if (F_X5_imageByte σ p0 p1).1 = 0 then (0, (vp_updL ov 0 (F_X5_imageByte σ p0 p1).2.toInt64)) else ((if (F_X5_imageByte σ p0 p1).1 = 1 then 1 else 2), ov)
set_option maxHeartbeats 4000000 in
set_option maxRecDepth 100000 in
theorem c_L_imageByte (l : Launch) (hl9 : l.stackTraces = false) (D : va_G) (cA cL : ClassId) (b s0 f w s2 f2 w2 t0 d db e0 ou : Nat) (sz : Nat) (σ : FS) (ρ : FS) (τ : TS) (δ : DS) (run : Int32) (ov : Nat → Int64) (p0 : Int32) (p1 : Int32) : vx_Met l yL_imageByte wsL_imageByte ({ frames := 8, cells := 1, slots := 6, locals := 134 }) (va_Pc [.ref b, .int p0, .int p1, .ref ou] (bx_prx D [(cA, .int), (cL, .long)] (wWr cA cL b s0 f w s2 f2 w2 t0 d db e0 ou σ ρ τ δ run ov) sz)) (va_Qi (fun (r : Int32) (u : (Nat → Int64)) => (r, u) = F_L_imageByte σ ov p0 p1) (fun u t => bx_at D (wWr cA cL b s0 f w s2 f2 w2 t0 d db e0 ou σ ρ τ δ run u) (va_A (wWr cA cL b s0 f w s2 f2 w2 t0 d db e0 ou σ ρ τ δ run ov) sz) t) (va_A (wWr cA cL b s0 f w s2 f2 w2 t0 d db e0 ou σ ρ τ δ run ov) sz)) (fun _ _ _ => False) 1 6 (va_A (wWr cA cL b s0 f w s2 f2 w2 t0 d db e0 ou σ ρ τ δ run ov) sz) := by
  refine vx_ofWH (cc := cL_imageByte) (maxL := 5) (ret := (some .int)) (hh := [(0, 10, 13, 22), (0, 10, 17, 53)]) (by decide) rfl ?_
  intro p e s m args below meth c s₁ B hml hv
  obtain ⟨rfl, hsz, hP, hK, hD0, hG, hZ⟩ := hv
  have hx := B.exec
  have hb := B.bytes
  have hr := B.returns
  have hts := atoms_spec (ws := wsL_imageByte) B.pre
  have hown : s.vm.findClass RL = some m.cls := findClass_of_methodNamed B.named
  have hlocks := B.notSynchronized
  have htab := vx_table (x := yL_imageByte) B (hts _ List.mem_cons_self)
  subst hsz
  have hD := hD0.self (sz := s.heap.size)
  generalize hAe : va_A (wWr cA cL b s0 f w s2 f2 w2 t0 d db e0 ou σ ρ τ δ run ov) s.heap.size = A at hD ⊢
  have hA : ∀ q : Nat, s.heap.size ≤ q → A q := fun q h => by rw [← hAe]; exact Or.inr h
  have hS : va_S A s.heap s.heap [] := va_S.rf
  have hD : va_D A [(b, .inr (5, [.ref s0, .ref s2, .ref t0, .ref d, .ref e0, .int run])), (s0, .inr (3, [.ref f])), (f, .inr (2, [.ref w, .int σ.2.1, .int σ.2.2])), (w, .inl (cA, 66, .inl σ.1)), (s2, .inr (3, [.ref f2])), (f2, .inr (2, [.ref w2, .int ρ.2.1, .int ρ.2.2])), (w2, .inl (cA, 66, .inl ρ.1)), (t0, .inr (4, [.int τ.1, .int τ.2.1, .int τ.2.2.1, .int τ.2.2.2.1, .int τ.2.2.2.2.1, .int τ.2.2.2.2.2])), (d, .inr (1, [.int δ.1, .ref db])), (db, .inl (cA, 24, .inl δ.2)), (e0, .inr (0, [.ref d, .ref s0])), (ou, .inl (cL, 1, .inr (.inl ov)))] := hD
  have hP : va_P D vwCl [(b, .inr (5, [.ref s0, .ref s2, .ref t0, .ref d, .ref e0, .int run])), (s0, .inr (3, [.ref f])), (f, .inr (2, [.ref w, .int σ.2.1, .int σ.2.2])), (w, .inl (cA, 66, .inl σ.1)), (s2, .inr (3, [.ref f2])), (f2, .inr (2, [.ref w2, .int ρ.2.1, .int ρ.2.2])), (w2, .inl (cA, 66, .inl ρ.1)), (t0, .inr (4, [.int τ.1, .int τ.2.1, .int τ.2.2.1, .int τ.2.2.2.1, .int τ.2.2.2.2.1, .int τ.2.2.2.2.2])), (d, .inr (1, [.int δ.1, .ref db])), (db, .inl (cA, 24, .inl δ.2)), (e0, .inr (0, [.ref d, .ref s0])), (ou, .inl (cL, 1, .inr (.inl ov)))] s.heap := hP
  have hl := lv_entry ([.ref b, .int p0, .int p1, .ref ou]) (n := 5) (Nat.le_of_ble_eq_true rfl)
  rw [lg_entry_eq]
  generalize (lg_sl ([.ref b, .int p0, .int p1, .ref ou]) ++ List.replicate (5 - (lg_sl ([.ref b, .int p0, .int p1, .ref ou])).length) Slot.unset).toArray = ls at hl ⊢
  have hl : lv_has ls 5 [(0, .ref b), (1, .int p0), (2, .int p1), (3, .ref ou)] := hl
  refine lv_aload_n hx hb dL_imageByte_0 rfl (lv_at hl 3 rfl) ?_
  refine lv_iconst (v := 0) hx hb dL_imageByte_1 (by decide) ?_
  refine lv_aload_n hx hb dL_imageByte_2 rfl (lv_at hl 0 rfl) ?_
  refine lv_iload_n hx hb dL_imageByte_3 rfl (lv_at hl 1 rfl) ?_
  refine lv_iload_n hx hb dL_imageByte_4 rfl (lv_at hl 2 rfl) ?_
  refine bx_xri hP hD hS (vx_runV (As := [.int p0, .int p1]) (rest := [.int 0, .ref ou]) ⟨hx, hb, hml, hown, hts⟩ (c_X5_imageByte l hl9 D cA b s0 f w s2 f2 w2 t0 d db e0 σ ρ τ δ run p0 p1) (cwV 2 hts gL_imageByte_X5_imageByte rfl rfl rfl (by decide +kernel) ⟨Nat.le_of_ble_eq_true rfl, Nat.le_of_ble_eq_true rfl⟩) (bx_pvrx (ci := 5) (q0 := 0) (hK.sub (tys' := [(cA, .int)]) [0] rfl) hG hZ (hP.sub (ws' := [(b, .inr (5, [.ref s0, .ref s2, .ref t0, .ref d, .ref e0, .int run])), (s0, .inr (3, [.ref f])), (f, .inr (2, [.ref w, .int σ.2.1, .int σ.2.2])), (w, .inl (cA, 66, .inl σ.1)), (s2, .inr (3, [.ref f2])), (f2, .inr (2, [.ref w2, .int ρ.2.1, .int ρ.2.2])), (w2, .inl (cA, 66, .inl ρ.1)), (t0, .inr (4, [.int τ.1, .int τ.2.1, .int τ.2.2.1, .int τ.2.2.2.1, .int τ.2.2.2.2.1, .int τ.2.2.2.2.2])), (d, .inr (1, [.int δ.1, .ref db])), (db, .inl (cA, 24, .inl δ.2)), (e0, .inr (0, [.ref d, .ref s0]))]) [0, 1, 2, 3, 4, 5, 6, 7, 8, 9, 10] rfl) rfl rfl) rfl rfl hl.1 rfl (lv_room (Nat.le_of_ble_eq_true rfl)) dL_imageByte_5 ⟨Nat.le_of_ble_eq_true rfl, Nat.le_of_ble_eq_true rfl⟩) (fun E ce q9 H1 locs hE hP hD hS hce hcv hcl => ?_) (fun r h => ?_)
  · skip
    rcases hE with ⟨hk, rfl⟩ | ⟨hk, rfl⟩ | ⟨hk, rfl⟩
    · skip
      refine vx_catch (name := bx_iae) (E := bx_iae) hown [] ⟨0, 10, 13, 22⟩ [⟨0, 10, 17, 53⟩] htab (fun z hz => nomatch hz) (by decide) (by decide) (hts (.classLink RL 22 bx_iae) (by decide +kernel)) (va_Nw.use rfl (hG.1 (.castable bx_iae bx_iae) (by decide +kernel))) hce hcv hcl ?_
      refine W.eq (g2 := F0 m 13 ls [.ref q9]) rfl ?_
      refine lv_astore (lv' := [(4, .ref q9), (0, .ref b), (1, .int p0), (2, .int p1), (3, .ref ou)]) hx hb dL_imageByte_13 hl (by decide) rfl (fun ls hl => ?_)
      refine lv_iconst (v := 1) hx hb dL_imageByte_15 (by decide) ?_
      refine vx_ret ?_
      exact W.iret (v := 1) hx hb hr (fun t ht hW => ⟨⟨1, ov, rfl, (by simp only [F_L_imageByte, hk] <;> rfl), ⟨by rw [ht]; exact hP, hD⟩⟩, hS.F ht⟩) hS.2.2 dL_imageByte_16
    · skip
      exact absurd hk (nc2_imageByte _ _ _)
    · skip
      refine vx_catch (name := bx_ioe) (E := bx_ioe) hown [⟨0, 10, 13, 22⟩] ⟨0, 10, 17, 53⟩ [] htab (fun z hz => by simp only [List.mem_singleton] at hz; subst hz; exact Or.inr ⟨(by decide), bx_iae, hts (.classLink RL 22 bx_iae) (by decide +kernel), hG.2.1 (bx_ioe, bx_iae) (by decide)⟩) (by decide) (by decide) (hts (.classLink RL 53 bx_ioe) (by decide +kernel)) (va_Nw.use rfl (hG.1 (.castable bx_ioe bx_ioe) (by decide +kernel))) hce hcv hcl ?_
      refine W.eq (g2 := F0 m 17 ls [.ref q9]) rfl ?_
      refine lv_astore (lv' := [(4, .ref q9), (0, .ref b), (1, .int p0), (2, .int p1), (3, .ref ou)]) hx hb dL_imageByte_17 hl (by decide) rfl (fun ls hl => ?_)
      refine lv_iconst (v := 2) hx hb dL_imageByte_19 (by decide) ?_
      refine vx_ret ?_
      exact W.iret (v := 2) hx hb hr (fun t ht hW => ⟨⟨2, ov, rfl, (by simp only [F_L_imageByte, hk] <;> rfl), ⟨by rw [ht]; exact hP, hD⟩⟩, hS.F ht⟩) hS.2.2 dL_imageByte_20
  · skip
    refine lv_i2l (v := r.toInt64) hx hb dL_imageByte_8 rfl ?_
    refine va_last (D := D) hx hb hK hP hD hS 11 1 rfl rfl (vp_in_iff.mpr (by decide)) dL_imageByte_9 (fun H locs hP hD hS => ?_)
    have hP : va_P D vwCl [(b, .inr (5, [.ref s0, .ref s2, .ref t0, .ref d, .ref e0, .int run])), (s0, .inr (3, [.ref f])), (f, .inr (2, [.ref w, .int σ.2.1, .int σ.2.2])), (w, .inl (cA, 66, .inl σ.1)), (s2, .inr (3, [.ref f2])), (f2, .inr (2, [.ref w2, .int ρ.2.1, .int ρ.2.2])), (w2, .inl (cA, 66, .inl ρ.1)), (t0, .inr (4, [.int τ.1, .int τ.2.1, .int τ.2.2.1, .int τ.2.2.2.1, .int τ.2.2.2.2.1, .int τ.2.2.2.2.2])), (d, .inr (1, [.int δ.1, .ref db])), (db, .inl (cA, 24, .inl δ.2)), (e0, .inr (0, [.ref d, .ref s0])), (ou, .inl (cL, 1, .inr (.inl (vp_updL ov 0 r.toInt64))))] H := hP
    have hD : va_D A [(b, .inr (5, [.ref s0, .ref s2, .ref t0, .ref d, .ref e0, .int run])), (s0, .inr (3, [.ref f])), (f, .inr (2, [.ref w, .int σ.2.1, .int σ.2.2])), (w, .inl (cA, 66, .inl σ.1)), (s2, .inr (3, [.ref f2])), (f2, .inr (2, [.ref w2, .int ρ.2.1, .int ρ.2.2])), (w2, .inl (cA, 66, .inl ρ.1)), (t0, .inr (4, [.int τ.1, .int τ.2.1, .int τ.2.2.1, .int τ.2.2.2.1, .int τ.2.2.2.2.1, .int τ.2.2.2.2.2])), (d, .inr (1, [.int δ.1, .ref db])), (db, .inl (cA, 24, .inl δ.2)), (e0, .inr (0, [.ref d, .ref s0])), (ou, .inl (cL, 1, .inr (.inl (vp_updL ov 0 r.toInt64))))] := hD
    refine lv_goto (tgt := 21) hx hb dL_imageByte_10 (by decide) ?_
    refine lv_iconst (v := 0) hx hb dL_imageByte_21 (by decide) ?_
    refine vx_ret ?_
    refine W.widen (k := 1) (n := 6) (Nat.le_of_ble_eq_true rfl) (Nat.le_of_ble_eq_true rfl) ?_
    exact W.iret (v := 0) hx hb hr (fun t ht hW => ⟨⟨0, (vp_updL ov 0 r.toInt64), rfl, (by simp only [F_L_imageByte, ← h] <;> rfl), ⟨by rw [ht]; exact hP, hD⟩⟩, hS.F ht⟩) hS.2.2 dL_imageByte_22
def F_L_isValid (σ : FS) (ov : Nat → Int64) (p0 : Int32) : Int32 × (Nat → Int64) := if (F_X5_isValid σ p0).1 = 0 then (0, (vp_updL ov 0 (if (F_X5_isValid σ p0).2 = 0 then 0 else 1))) else ((F_X5_isValid σ p0).1, ov)
set_option maxHeartbeats 4000000 in
set_option maxRecDepth 100000 in
theorem c_L_isValid (l : Launch) (hl9 : l.stackTraces = false) (D : va_G) (cA cL : ClassId) (b s0 f w s2 f2 w2 t0 d db e0 ou : Nat) (sz : Nat) (σ : FS) (ρ : FS) (τ : TS) (δ : DS) (run : Int32) (ov : Nat → Int64) (p0 : Int32) : vx_Met l yL_isValid wsL_isValid ({ frames := 8, cells := 1, slots := 6, locals := 133 }) (va_Pc [.ref b, .int p0, .ref ou] (bx_prx D [(cA, .int), (cL, .long)] (wWr cA cL b s0 f w s2 f2 w2 t0 d db e0 ou σ ρ τ δ run ov) sz)) (va_Qi (fun (r : Int32) (u : (Nat → Int64)) => (r, u) = F_L_isValid σ ov p0) (fun u t => bx_at D (wWr cA cL b s0 f w s2 f2 w2 t0 d db e0 ou σ ρ τ δ run u) (va_A (wWr cA cL b s0 f w s2 f2 w2 t0 d db e0 ou σ ρ τ δ run ov) sz) t) (va_A (wWr cA cL b s0 f w s2 f2 w2 t0 d db e0 ou σ ρ τ δ run ov) sz)) (fun _ _ _ => False) 1 6 (va_A (wWr cA cL b s0 f w s2 f2 w2 t0 d db e0 ou σ ρ τ δ run ov) sz) := by
  refine vx_ofWH (cc := cL_isValid) (maxL := 4) (ret := (some .int)) (hh := [(0, 16, 19, 22)]) (by decide) rfl ?_
  intro p e s m args below meth c s₁ B hml hv
  obtain ⟨rfl, hsz, hP, hK, hD0, hG, hZ⟩ := hv
  have hx := B.exec
  have hb := B.bytes
  have hr := B.returns
  have hts := atoms_spec (ws := wsL_isValid) B.pre
  have hown : s.vm.findClass RL = some m.cls := findClass_of_methodNamed B.named
  have hlocks := B.notSynchronized
  have htab := vx_table (x := yL_isValid) B (hts _ List.mem_cons_self)
  subst hsz
  have hD := hD0.self (sz := s.heap.size)
  generalize hAe : va_A (wWr cA cL b s0 f w s2 f2 w2 t0 d db e0 ou σ ρ τ δ run ov) s.heap.size = A at hD ⊢
  have hA : ∀ q : Nat, s.heap.size ≤ q → A q := fun q h => by rw [← hAe]; exact Or.inr h
  have hS : va_S A s.heap s.heap [] := va_S.rf
  have hD : va_D A [(b, .inr (5, [.ref s0, .ref s2, .ref t0, .ref d, .ref e0, .int run])), (s0, .inr (3, [.ref f])), (f, .inr (2, [.ref w, .int σ.2.1, .int σ.2.2])), (w, .inl (cA, 66, .inl σ.1)), (s2, .inr (3, [.ref f2])), (f2, .inr (2, [.ref w2, .int ρ.2.1, .int ρ.2.2])), (w2, .inl (cA, 66, .inl ρ.1)), (t0, .inr (4, [.int τ.1, .int τ.2.1, .int τ.2.2.1, .int τ.2.2.2.1, .int τ.2.2.2.2.1, .int τ.2.2.2.2.2])), (d, .inr (1, [.int δ.1, .ref db])), (db, .inl (cA, 24, .inl δ.2)), (e0, .inr (0, [.ref d, .ref s0])), (ou, .inl (cL, 1, .inr (.inl ov)))] := hD
  have hP : va_P D vwCl [(b, .inr (5, [.ref s0, .ref s2, .ref t0, .ref d, .ref e0, .int run])), (s0, .inr (3, [.ref f])), (f, .inr (2, [.ref w, .int σ.2.1, .int σ.2.2])), (w, .inl (cA, 66, .inl σ.1)), (s2, .inr (3, [.ref f2])), (f2, .inr (2, [.ref w2, .int ρ.2.1, .int ρ.2.2])), (w2, .inl (cA, 66, .inl ρ.1)), (t0, .inr (4, [.int τ.1, .int τ.2.1, .int τ.2.2.1, .int τ.2.2.2.1, .int τ.2.2.2.2.1, .int τ.2.2.2.2.2])), (d, .inr (1, [.int δ.1, .ref db])), (db, .inl (cA, 24, .inl δ.2)), (e0, .inr (0, [.ref d, .ref s0])), (ou, .inl (cL, 1, .inr (.inl ov)))] s.heap := hP
  have hl := lv_entry ([.ref b, .int p0, .ref ou]) (n := 4) (Nat.le_of_ble_eq_true rfl)
  rw [lg_entry_eq]
  generalize (lg_sl ([.ref b, .int p0, .ref ou]) ++ List.replicate (4 - (lg_sl ([.ref b, .int p0, .ref ou])).length) Slot.unset).toArray = ls at hl ⊢
  have hl : lv_has ls 4 [(0, .ref b), (1, .int p0), (2, .ref ou)] := hl
  refine lv_aload_n hx hb dL_isValid_0 rfl (lv_at hl 2 rfl) ?_
  refine lv_iconst (v := 0) hx hb dL_isValid_1 (by decide) ?_
  refine lv_aload_n hx hb dL_isValid_2 rfl (lv_at hl 0 rfl) ?_
  refine lv_iload_n hx hb dL_isValid_3 rfl (lv_at hl 1 rfl) ?_
  refine bx_xri hP hD hS (vx_runV (As := [.int p0]) (rest := [.int 0, .ref ou]) ⟨hx, hb, hml, hown, hts⟩ (c_X5_isValid l hl9 D cA b s0 f w s2 f2 w2 t0 d db e0 σ ρ τ δ run p0) (cwV 1 hts gL_isValid_X5_isValid rfl rfl rfl (by decide +kernel) ⟨Nat.le_of_ble_eq_true rfl, Nat.le_of_ble_eq_true rfl⟩) (bx_pvrx (ci := 5) (q0 := 0) (hK.sub (tys' := [(cA, .int)]) [0] rfl) hG hZ (hP.sub (ws' := [(b, .inr (5, [.ref s0, .ref s2, .ref t0, .ref d, .ref e0, .int run])), (s0, .inr (3, [.ref f])), (f, .inr (2, [.ref w, .int σ.2.1, .int σ.2.2])), (w, .inl (cA, 66, .inl σ.1)), (s2, .inr (3, [.ref f2])), (f2, .inr (2, [.ref w2, .int ρ.2.1, .int ρ.2.2])), (w2, .inl (cA, 66, .inl ρ.1)), (t0, .inr (4, [.int τ.1, .int τ.2.1, .int τ.2.2.1, .int τ.2.2.2.1, .int τ.2.2.2.2.1, .int τ.2.2.2.2.2])), (d, .inr (1, [.int δ.1, .ref db])), (db, .inl (cA, 24, .inl δ.2)), (e0, .inr (0, [.ref d, .ref s0]))]) [0, 1, 2, 3, 4, 5, 6, 7, 8, 9, 10] rfl) rfl rfl) rfl rfl hl.1 rfl (lv_room (Nat.le_of_ble_eq_true rfl)) dL_isValid_4 ⟨Nat.le_of_ble_eq_true rfl, Nat.le_of_ble_eq_true rfl⟩) (fun E ce q9 H1 locs hE hP hD hS hce hcv hcl => ?_) (fun r h => ?_)
  · skip
    rcases hE with ⟨hk, rfl⟩ | ⟨hk, rfl⟩ | ⟨hk, rfl⟩
    · skip
      refine vx_catch (name := bx_iae) (E := bx_iae) hown [] ⟨0, 16, 19, 22⟩ [] htab (fun z hz => nomatch hz) (by decide) (by decide) (hts (.classLink RL 22 bx_iae) (by decide +kernel)) (va_Nw.use rfl (hG.1 (.castable bx_iae bx_iae) (by decide +kernel))) hce hcv hcl ?_
      refine W.eq (g2 := F0 m 19 ls [.ref q9]) rfl ?_
      refine lv_astore_n (lv' := [(3, .ref q9), (0, .ref b), (1, .int p0), (2, .ref ou)]) hx hb dL_isValid_19 rfl hl (by decide) rfl (fun ls hl => ?_)
      refine lv_iconst (v := 1) hx hb dL_isValid_20 (by decide) ?_
      refine vx_ret ?_
      exact W.iret (v := 1) hx hb hr (fun t ht hW => ⟨⟨1, ov, rfl, (by simp only [F_L_isValid, hk] <;> rfl), ⟨by rw [ht]; exact hP, hD⟩⟩, hS.F ht⟩) hS.2.2 dL_isValid_21
    · skip
      exact absurd hk (nc2_isValid _ _)
    · skip
      exact absurd hk (nc3_isValid _ _)
  · skip
    obtain ⟨h, hb9⟩ := h
    refine lv_if_eq (tgt := 14) hx hb dL_isValid_7 (by decide) (fun c_1 => ?_) (fun c_1 => ?_)
    · skip
      refine lv_lconst (v := 0) hx hb dL_isValid_14 rfl ?_
      refine va_last (D := D) hx hb hK hP hD hS 11 1 rfl rfl (vp_in_iff.mpr (by decide)) dL_isValid_15 (fun H locs hP hD hS => ?_)
      have hP : va_P D vwCl [(b, .inr (5, [.ref s0, .ref s2, .ref t0, .ref d, .ref e0, .int run])), (s0, .inr (3, [.ref f])), (f, .inr (2, [.ref w, .int σ.2.1, .int σ.2.2])), (w, .inl (cA, 66, .inl σ.1)), (s2, .inr (3, [.ref f2])), (f2, .inr (2, [.ref w2, .int ρ.2.1, .int ρ.2.2])), (w2, .inl (cA, 66, .inl ρ.1)), (t0, .inr (4, [.int τ.1, .int τ.2.1, .int τ.2.2.1, .int τ.2.2.2.1, .int τ.2.2.2.2.1, .int τ.2.2.2.2.2])), (d, .inr (1, [.int δ.1, .ref db])), (db, .inl (cA, 24, .inl δ.2)), (e0, .inr (0, [.ref d, .ref s0])), (ou, .inl (cL, 1, .inr (.inl (vp_updL ov 0 0))))] H := hP
      have hD : va_D A [(b, .inr (5, [.ref s0, .ref s2, .ref t0, .ref d, .ref e0, .int run])), (s0, .inr (3, [.ref f])), (f, .inr (2, [.ref w, .int σ.2.1, .int σ.2.2])), (w, .inl (cA, 66, .inl σ.1)), (s2, .inr (3, [.ref f2])), (f2, .inr (2, [.ref w2, .int ρ.2.1, .int ρ.2.2])), (w2, .inl (cA, 66, .inl ρ.1)), (t0, .inr (4, [.int τ.1, .int τ.2.1, .int τ.2.2.1, .int τ.2.2.2.1, .int τ.2.2.2.2.1, .int τ.2.2.2.2.2])), (d, .inr (1, [.int δ.1, .ref db])), (db, .inl (cA, 24, .inl δ.2)), (e0, .inr (0, [.ref d, .ref s0])), (ou, .inl (cL, 1, .inr (.inl (vp_updL ov 0 0))))] := hD
      refine lv_goto (tgt := 22) hx hb dL_isValid_16 (by decide) ?_
      refine lv_iconst (v := 0) hx hb dL_isValid_22 (by decide) ?_
      refine vx_ret ?_
      refine W.widen (k := 1) (n := 6) (Nat.le_of_ble_eq_true rfl) (Nat.le_of_ble_eq_true rfl) ?_
      exact W.iret (v := 0) hx hb hr (fun t ht hW => ⟨⟨0, (vp_updL ov 0 0), rfl, (by simp only [F_L_isValid, ← h, if_pos c_1] <;> rfl), ⟨by rw [ht]; exact hP, hD⟩⟩, hS.F ht⟩) hS.2.2 dL_isValid_23
    · skip
      refine lv_lconst (v := 1) hx hb dL_isValid_10 rfl ?_
      refine lv_goto (tgt := 15) hx hb dL_isValid_11 (by decide) ?_
      refine va_last (D := D) hx hb hK hP hD hS 11 1 rfl rfl (vp_in_iff.mpr (by decide)) dL_isValid_15 (fun H locs hP hD hS => ?_)
      have hP : va_P D vwCl [(b, .inr (5, [.ref s0, .ref s2, .ref t0, .ref d, .ref e0, .int run])), (s0, .inr (3, [.ref f])), (f, .inr (2, [.ref w, .int σ.2.1, .int σ.2.2])), (w, .inl (cA, 66, .inl σ.1)), (s2, .inr (3, [.ref f2])), (f2, .inr (2, [.ref w2, .int ρ.2.1, .int ρ.2.2])), (w2, .inl (cA, 66, .inl ρ.1)), (t0, .inr (4, [.int τ.1, .int τ.2.1, .int τ.2.2.1, .int τ.2.2.2.1, .int τ.2.2.2.2.1, .int τ.2.2.2.2.2])), (d, .inr (1, [.int δ.1, .ref db])), (db, .inl (cA, 24, .inl δ.2)), (e0, .inr (0, [.ref d, .ref s0])), (ou, .inl (cL, 1, .inr (.inl (vp_updL ov 0 1))))] H := hP
      have hD : va_D A [(b, .inr (5, [.ref s0, .ref s2, .ref t0, .ref d, .ref e0, .int run])), (s0, .inr (3, [.ref f])), (f, .inr (2, [.ref w, .int σ.2.1, .int σ.2.2])), (w, .inl (cA, 66, .inl σ.1)), (s2, .inr (3, [.ref f2])), (f2, .inr (2, [.ref w2, .int ρ.2.1, .int ρ.2.2])), (w2, .inl (cA, 66, .inl ρ.1)), (t0, .inr (4, [.int τ.1, .int τ.2.1, .int τ.2.2.1, .int τ.2.2.2.1, .int τ.2.2.2.2.1, .int τ.2.2.2.2.2])), (d, .inr (1, [.int δ.1, .ref db])), (db, .inl (cA, 24, .inl δ.2)), (e0, .inr (0, [.ref d, .ref s0])), (ou, .inl (cL, 1, .inr (.inl (vp_updL ov 0 1))))] := hD
      refine lv_goto (tgt := 22) hx hb dL_isValid_16 (by decide) ?_
      refine lv_iconst (v := 0) hx hb dL_isValid_22 (by decide) ?_
      refine vx_ret ?_
      refine W.widen (k := 1) (n := 6) (Nat.le_of_ble_eq_true rfl) (Nat.le_of_ble_eq_true rfl) ?_
      exact W.iret (v := 0) hx hb hr (fun t ht hW => ⟨⟨0, (vp_updL ov 0 1), rfl, (by simp only [F_L_isValid, ← h, if_neg c_1] <;> rfl), ⟨by rw [ht]; exact hP, hD⟩⟩, hS.F ht⟩) hS.2.2 dL_isValid_23
def F_L_safeFinish (σ : FS) (ρ : FS) (τ : TS) (run : Int32) (ov : Nat → Int64) (p0 : Int32) : Int32 × (FS) × (Nat → Int64) := if (F_X5_safeFinish σ ρ τ run p0).1 = 0 then (0, (F_X5_safeFinish σ ρ τ run p0).2.2, (vp_updL ov 0 (F_X5_safeFinish σ ρ τ run p0).2.1.toInt64)) else ((F_X5_safeFinish σ ρ τ run p0).1, ρ, ov)
set_option maxHeartbeats 4000000 in
set_option maxRecDepth 100000 in
theorem c_L_safeFinish (l : Launch) (hl9 : l.stackTraces = false) (D : va_G) (cA cL : ClassId) (b s0 f w s2 f2 w2 t0 d db e0 ou : Nat) (sz : Nat) (σ : FS) (ρ : FS) (τ : TS) (δ : DS) (run : Int32) (ov : Nat → Int64) (p0 : Int32) : vx_Met l yL_safeFinish wsL_safeFinish ({ frames := 9, cells := 1, slots := 6, locals := 156 }) (va_Pc [.ref b, .int p0, .ref ou] (bx_prx D [(cA, .int), (cL, .long)] (wWr cA cL b s0 f w s2 f2 w2 t0 d db e0 ou σ ρ τ δ run ov) sz)) (va_Qi (fun (r : Int32) (u : (FS) × (Nat → Int64)) => (r, u) = F_L_safeFinish σ ρ τ run ov p0) (fun u t => bx_at D (wWr cA cL b s0 f w s2 f2 w2 t0 d db e0 ou σ u.1 τ δ run u.2) (va_A (wWr cA cL b s0 f w s2 f2 w2 t0 d db e0 ou σ ρ τ δ run ov) sz) t) (va_A (wWr cA cL b s0 f w s2 f2 w2 t0 d db e0 ou σ ρ τ δ run ov) sz)) (fun _ _ _ => False) 1 6 (va_A (wWr cA cL b s0 f w s2 f2 w2 t0 d db e0 ou σ ρ τ δ run ov) sz) := by
  refine vx_ofWH (cc := cL_safeFinish) (maxL := 4) (ret := (some .int)) (hh := [(0, 9, 12, 22), (0, 9, 15, 13)]) (by decide) rfl ?_
  intro p e s m args below meth c s₁ B hml hv
  obtain ⟨rfl, hsz, hP, hK, hD0, hG, hZ⟩ := hv
  have hx := B.exec
  have hb := B.bytes
  have hr := B.returns
  have hts := atoms_spec (ws := wsL_safeFinish) B.pre
  have hown : s.vm.findClass RL = some m.cls := findClass_of_methodNamed B.named
  have hlocks := B.notSynchronized
  have htab := vx_table (x := yL_safeFinish) B (hts _ List.mem_cons_self)
  subst hsz
  have hD := hD0.self (sz := s.heap.size)
  generalize hAe : va_A (wWr cA cL b s0 f w s2 f2 w2 t0 d db e0 ou σ ρ τ δ run ov) s.heap.size = A at hD ⊢
  have hA : ∀ q : Nat, s.heap.size ≤ q → A q := fun q h => by rw [← hAe]; exact Or.inr h
  have hS : va_S A s.heap s.heap [] := va_S.rf
  have hD : va_D A [(b, .inr (5, [.ref s0, .ref s2, .ref t0, .ref d, .ref e0, .int run])), (s0, .inr (3, [.ref f])), (f, .inr (2, [.ref w, .int σ.2.1, .int σ.2.2])), (w, .inl (cA, 66, .inl σ.1)), (s2, .inr (3, [.ref f2])), (f2, .inr (2, [.ref w2, .int ρ.2.1, .int ρ.2.2])), (w2, .inl (cA, 66, .inl ρ.1)), (t0, .inr (4, [.int τ.1, .int τ.2.1, .int τ.2.2.1, .int τ.2.2.2.1, .int τ.2.2.2.2.1, .int τ.2.2.2.2.2])), (d, .inr (1, [.int δ.1, .ref db])), (db, .inl (cA, 24, .inl δ.2)), (e0, .inr (0, [.ref d, .ref s0])), (ou, .inl (cL, 1, .inr (.inl ov)))] := hD
  have hP : va_P D vwCl [(b, .inr (5, [.ref s0, .ref s2, .ref t0, .ref d, .ref e0, .int run])), (s0, .inr (3, [.ref f])), (f, .inr (2, [.ref w, .int σ.2.1, .int σ.2.2])), (w, .inl (cA, 66, .inl σ.1)), (s2, .inr (3, [.ref f2])), (f2, .inr (2, [.ref w2, .int ρ.2.1, .int ρ.2.2])), (w2, .inl (cA, 66, .inl ρ.1)), (t0, .inr (4, [.int τ.1, .int τ.2.1, .int τ.2.2.1, .int τ.2.2.2.1, .int τ.2.2.2.2.1, .int τ.2.2.2.2.2])), (d, .inr (1, [.int δ.1, .ref db])), (db, .inl (cA, 24, .inl δ.2)), (e0, .inr (0, [.ref d, .ref s0])), (ou, .inl (cL, 1, .inr (.inl ov)))] s.heap := hP
  have hl := lv_entry ([.ref b, .int p0, .ref ou]) (n := 4) (Nat.le_of_ble_eq_true rfl)
  rw [lg_entry_eq]
  generalize (lg_sl ([.ref b, .int p0, .ref ou]) ++ List.replicate (4 - (lg_sl ([.ref b, .int p0, .ref ou])).length) Slot.unset).toArray = ls at hl ⊢
  have hl : lv_has ls 4 [(0, .ref b), (1, .int p0), (2, .ref ou)] := hl
  refine lv_aload_n hx hb dL_safeFinish_0 rfl (lv_at hl 2 rfl) ?_
  refine lv_iconst (v := 0) hx hb dL_safeFinish_1 (by decide) ?_
  refine lv_aload_n hx hb dL_safeFinish_2 rfl (lv_at hl 0 rfl) ?_
  refine lv_iload_n hx hb dL_safeFinish_3 rfl (lv_at hl 1 rfl) ?_
  refine bx_xwi (wc := [(b, .inr (5, [.ref s0, .ref s2, .ref t0, .ref d, .ref e0, .int run])), (s0, .inr (3, [.ref f])), (f, .inr (2, [.ref w, .int σ.2.1, .int σ.2.2])), (w, .inl (cA, 66, .inl σ.1)), (s2, .inr (3, [.ref f2])), (f2, .inr (2, [.ref w2, .int ρ.2.1, .int ρ.2.2])), (w2, .inl (cA, 66, .inl ρ.1)), (t0, .inr (4, [.int τ.1, .int τ.2.1, .int τ.2.2.1, .int τ.2.2.2.1, .int τ.2.2.2.2.1, .int τ.2.2.2.2.2])), (d, .inr (1, [.int δ.1, .ref db])), (db, .inl (cA, 24, .inl δ.2)), (e0, .inr (0, [.ref d, .ref s0]))]) (wr := [(ou, .inl (cL, 1, .inr (.inl ov)))]) (wf := fun (u : (FS)) => [(b, .inr (5, [.ref s0, .ref s2, .ref t0, .ref d, .ref e0, .int run])), (s0, .inr (3, [.ref f])), (f, .inr (2, [.ref w, .int σ.2.1, .int σ.2.2])), (w, .inl (cA, 66, .inl σ.1)), (s2, .inr (3, [.ref f2])), (f2, .inr (2, [.ref w2, .int u.2.1, .int u.2.2])), (w2, .inl (cA, 66, .inl u.1)), (t0, .inr (4, [.int τ.1, .int τ.2.1, .int τ.2.2.1, .int τ.2.2.2.1, .int τ.2.2.2.2.1, .int τ.2.2.2.2.2])), (d, .inr (1, [.int δ.1, .ref db])), (db, .inl (cA, 24, .inl δ.2)), (e0, .inr (0, [.ref d, .ref s0]))]) (wn := fun (u : (FS)) => [(b, .inr (5, [.ref s0, .ref s2, .ref t0, .ref d, .ref e0, .int run])), (s0, .inr (3, [.ref f])), (f, .inr (2, [.ref w, .int σ.2.1, .int σ.2.2])), (w, .inl (cA, 66, .inl σ.1)), (s2, .inr (3, [.ref f2])), (f2, .inr (2, [.ref w2, .int u.2.1, .int u.2.2])), (w2, .inl (cA, 66, .inl u.1)), (t0, .inr (4, [.int τ.1, .int τ.2.1, .int τ.2.2.1, .int τ.2.2.2.1, .int τ.2.2.2.2.1, .int τ.2.2.2.2.2])), (d, .inr (1, [.int δ.1, .ref db])), (db, .inl (cA, 24, .inl δ.2)), (e0, .inr (0, [.ref d, .ref s0])), (ou, .inl (cL, 1, .inr (.inl ov)))]) hP hD hS hA [0, 1, 2, 3, 4, 5, 6, 7, 8, 9, 10] [11] [1, 2, 3, 4, 5, 6, 7, 8, 9, 10, 11, 0] rfl rfl (by decide) (by decide) (fun u => rfl) (by decide) (vx_runV (As := [.int p0]) (rest := [.int 0, .ref ou]) ⟨hx, hb, hml, hown, hts⟩ (c_X5_safeFinish l hl9 D cA b s0 f w s2 f2 w2 t0 d db e0 s.heap.size σ ρ τ δ run p0) (cwV 1 hts gL_safeFinish_X5_safeFinish rfl rfl rfl (by decide +kernel) ⟨Nat.le_of_ble_eq_true rfl, Nat.le_of_ble_eq_true rfl⟩) (bx_pvx (ci := 5) (q0 := 0) (hK.sub (tys' := [(cA, .int)]) [0] rfl) hG hZ (hP.sub (ws' := [(b, .inr (5, [.ref s0, .ref s2, .ref t0, .ref d, .ref e0, .int run])), (s0, .inr (3, [.ref f])), (f, .inr (2, [.ref w, .int σ.2.1, .int σ.2.2])), (w, .inl (cA, 66, .inl σ.1)), (s2, .inr (3, [.ref f2])), (f2, .inr (2, [.ref w2, .int ρ.2.1, .int ρ.2.2])), (w2, .inl (cA, 66, .inl ρ.1)), (t0, .inr (4, [.int τ.1, .int τ.2.1, .int τ.2.2.1, .int τ.2.2.2.1, .int τ.2.2.2.2.1, .int τ.2.2.2.2.2])), (d, .inr (1, [.int δ.1, .ref db])), (db, .inl (cA, 24, .inl δ.2)), (e0, .inr (0, [.ref d, .ref s0]))]) [0, 1, 2, 3, 4, 5, 6, 7, 8, 9, 10] rfl) (hD.sub (ws' := [(b, .inr (5, [.ref s0, .ref s2, .ref t0, .ref d, .ref e0, .int run])), (s0, .inr (3, [.ref f])), (f, .inr (2, [.ref w, .int σ.2.1, .int σ.2.2])), (w, .inl (cA, 66, .inl σ.1)), (s2, .inr (3, [.ref f2])), (f2, .inr (2, [.ref w2, .int ρ.2.1, .int ρ.2.2])), (w2, .inl (cA, 66, .inl ρ.1)), (t0, .inr (4, [.int τ.1, .int τ.2.1, .int τ.2.2.1, .int τ.2.2.2.1, .int τ.2.2.2.2.1, .int τ.2.2.2.2.2])), (d, .inr (1, [.int δ.1, .ref db])), (db, .inl (cA, 24, .inl δ.2)), (e0, .inr (0, [.ref d, .ref s0]))]) [0, 1, 2, 3, 4, 5, 6, 7, 8, 9, 10] (by decide) rfl) rfl rfl) rfl rfl hl.1 rfl (lv_room (Nat.le_of_ble_eq_true rfl)) dL_safeFinish_4 ⟨Nat.le_of_ble_eq_true rfl, Nat.le_of_ble_eq_true rfl⟩) (fun E ce q9 H1 locs hE hP hD hS hce hcv hcl => ?_) (fun r u H locs h hP hD hS => ?_)
  · skip
    rcases hE with ⟨hk, rfl⟩ | ⟨hk, rfl⟩ | ⟨hk, rfl⟩
    · skip
      refine vx_catch (name := bx_iae) (E := bx_iae) hown [] ⟨0, 9, 12, 22⟩ [⟨0, 9, 15, 13⟩] htab (fun z hz => nomatch hz) (by decide) (by decide) (hts (.classLink RL 22 bx_iae) (by decide +kernel)) (va_Nw.use rfl (hG.1 (.castable bx_iae bx_iae) (by decide +kernel))) hce hcv hcl ?_
      refine W.eq (g2 := F0 m 12 ls [.ref q9]) rfl ?_
      refine lv_astore_n (lv' := [(3, .ref q9), (0, .ref b), (1, .int p0), (2, .ref ou)]) hx hb dL_safeFinish_12 rfl hl (by decide) rfl (fun ls hl => ?_)
      refine lv_iconst (v := 1) hx hb dL_safeFinish_13 (by decide) ?_
      refine vx_ret ?_
      exact W.iret (v := 1) hx hb hr (fun t ht hW => ⟨⟨1, (ρ, ov), rfl, (by simp only [F_L_safeFinish, hk] <;> rfl), ⟨by rw [ht]; exact hP, hD⟩⟩, hS.F ht⟩) hS.2.2 dL_safeFinish_14
    · skip
      refine vx_catch (name := bx_ise) (E := bx_ise) hown [⟨0, 9, 12, 22⟩] ⟨0, 9, 15, 13⟩ [] htab (fun z hz => by simp only [List.mem_singleton] at hz; subst hz; exact Or.inr ⟨(by decide), bx_iae, hts (.classLink RL 22 bx_iae) (by decide +kernel), hG.2.1 (bx_ise, bx_iae) (by decide)⟩) (by decide) (by decide) (hts (.classLink RL 13 bx_ise) (by decide +kernel)) (va_Nw.use rfl (hG.1 (.castable bx_ise bx_ise) (by decide +kernel))) hce hcv hcl ?_
      refine W.eq (g2 := F0 m 15 ls [.ref q9]) rfl ?_
      refine lv_astore_n (lv' := [(3, .ref q9), (0, .ref b), (1, .int p0), (2, .ref ou)]) hx hb dL_safeFinish_15 rfl hl (by decide) rfl (fun ls hl => ?_)
      refine lv_iconst (v := 2) hx hb dL_safeFinish_16 (by decide) ?_
      refine vx_ret ?_
      exact W.iret (v := 2) hx hb hr (fun t ht hW => ⟨⟨2, (ρ, ov), rfl, (by simp only [F_L_safeFinish, hk] <;> rfl), ⟨by rw [ht]; exact hP, hD⟩⟩, hS.F ht⟩) hS.2.2 dL_safeFinish_17
    · skip
      exact absurd hk (nc3_safeFinish _ _ _ _ _)
  · skip
    obtain ⟨ρ1, rfl⟩ : ∃ z, z = u := ⟨_, rfl⟩
    have hP : va_P D vwCl [(b, .inr (5, [.ref s0, .ref s2, .ref t0, .ref d, .ref e0, .int run])), (s0, .inr (3, [.ref f])), (f, .inr (2, [.ref w, .int σ.2.1, .int σ.2.2])), (w, .inl (cA, 66, .inl σ.1)), (s2, .inr (3, [.ref f2])), (f2, .inr (2, [.ref w2, .int ρ1.2.1, .int ρ1.2.2])), (w2, .inl (cA, 66, .inl ρ1.1)), (t0, .inr (4, [.int τ.1, .int τ.2.1, .int τ.2.2.1, .int τ.2.2.2.1, .int τ.2.2.2.2.1, .int τ.2.2.2.2.2])), (d, .inr (1, [.int δ.1, .ref db])), (db, .inl (cA, 24, .inl δ.2)), (e0, .inr (0, [.ref d, .ref s0])), (ou, .inl (cL, 1, .inr (.inl ov)))] H := hP
    have hD : va_D A [(b, .inr (5, [.ref s0, .ref s2, .ref t0, .ref d, .ref e0, .int run])), (s0, .inr (3, [.ref f])), (f, .inr (2, [.ref w, .int σ.2.1, .int σ.2.2])), (w, .inl (cA, 66, .inl σ.1)), (s2, .inr (3, [.ref f2])), (f2, .inr (2, [.ref w2, .int ρ1.2.1, .int ρ1.2.2])), (w2, .inl (cA, 66, .inl ρ1.1)), (t0, .inr (4, [.int τ.1, .int τ.2.1, .int τ.2.2.1, .int τ.2.2.2.1, .int τ.2.2.2.2.1, .int τ.2.2.2.2.2])), (d, .inr (1, [.int δ.1, .ref db])), (db, .inl (cA, 24, .inl δ.2)), (e0, .inr (0, [.ref d, .ref s0])), (ou, .inl (cL, 1, .inr (.inl ov)))] := hD
    refine lv_i2l (v := r.toInt64) hx hb dL_safeFinish_7 rfl ?_
    refine va_last (D := D) hx hb hK hP hD hS 11 1 rfl rfl (vp_in_iff.mpr (by decide)) dL_safeFinish_8 (fun H locs hP hD hS => ?_)
    have hP : va_P D vwCl [(b, .inr (5, [.ref s0, .ref s2, .ref t0, .ref d, .ref e0, .int run])), (s0, .inr (3, [.ref f])), (f, .inr (2, [.ref w, .int σ.2.1, .int σ.2.2])), (w, .inl (cA, 66, .inl σ.1)), (s2, .inr (3, [.ref f2])), (f2, .inr (2, [.ref w2, .int ρ1.2.1, .int ρ1.2.2])), (w2, .inl (cA, 66, .inl ρ1.1)), (t0, .inr (4, [.int τ.1, .int τ.2.1, .int τ.2.2.1, .int τ.2.2.2.1, .int τ.2.2.2.2.1, .int τ.2.2.2.2.2])), (d, .inr (1, [.int δ.1, .ref db])), (db, .inl (cA, 24, .inl δ.2)), (e0, .inr (0, [.ref d, .ref s0])), (ou, .inl (cL, 1, .inr (.inl (vp_updL ov 0 r.toInt64))))] H := hP
    have hD : va_D A [(b, .inr (5, [.ref s0, .ref s2, .ref t0, .ref d, .ref e0, .int run])), (s0, .inr (3, [.ref f])), (f, .inr (2, [.ref w, .int σ.2.1, .int σ.2.2])), (w, .inl (cA, 66, .inl σ.1)), (s2, .inr (3, [.ref f2])), (f2, .inr (2, [.ref w2, .int ρ1.2.1, .int ρ1.2.2])), (w2, .inl (cA, 66, .inl ρ1.1)), (t0, .inr (4, [.int τ.1, .int τ.2.1, .int τ.2.2.1, .int τ.2.2.2.1, .int τ.2.2.2.2.1, .int τ.2.2.2.2.2])), (d, .inr (1, [.int δ.1, .ref db])), (db, .inl (cA, 24, .inl δ.2)), (e0, .inr (0, [.ref d, .ref s0])), (ou, .inl (cL, 1, .inr (.inl (vp_updL ov 0 r.toInt64))))] := hD
    refine lv_goto (tgt := 18) hx hb dL_safeFinish_9 (by decide) ?_
    refine lv_iconst (v := 0) hx hb dL_safeFinish_18 (by decide) ?_
    refine vx_ret ?_
    refine W.widen (k := 1) (n := 6) (Nat.le_of_ble_eq_true rfl) (Nat.le_of_ble_eq_true rfl) ?_
    exact W.iret (v := 0) hx hb hr (fun t ht hW => ⟨⟨0, (ρ1, (vp_updL ov 0 r.toInt64)), rfl, (by simp only [F_L_safeFinish, ← h] <;> rfl), ⟨by rw [ht]; exact hP, hD⟩⟩, hS.F ht⟩) hS.2.2 dL_safeFinish_19
