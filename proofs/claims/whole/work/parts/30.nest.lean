/-! constructors: private ones of nest mates are called by a link of their own -/
def sm_nw (U : State) : Prop := va_Nw (.methodLinkNest RX3 38 yX0_init "SeedMill") U ∧ va_Nw (.methodLinkNest RX3 45 yX1_init "SeedMill") U ∧ va_Nw (.methodLinkNest RX1 11 yX0_init "SeedMill") U
theorem sm_nw.warm {s U : State} (hW : s.WarmedH U.vm) (h : sm_nw s) : sm_nw U := ⟨va_Nw.warmM hW h.1, va_Nw.warmM hW h.2.1, va_Nw.warmM hW h.2.2⟩
theorem sm_nw.calling {U : State} {g : JFrame} {mk : MethodId} {a : Array Value} (h : sm_nw U) : sm_nw (U.calling g mk a) := ⟨h.1.same rfl rfl, h.2.1.same rfl rfl, h.2.2.same rfl rfl⟩
def sm_PN (D : va_G) (cI : ClassId) (th : Option (Nat × Nat)) (ws : va_W) (sz : Nat) (U : State) : Prop := sm_PW D cI th ws sz U ∧ sm_nw U
theorem sm_blindN {D : va_G} {cI : ClassId} {th : Option (Nat × Nat)} {ws : va_W} {sz : Nat} {av : List Value} : FrameBlind (va_Pc av (sm_PN D cI th ws sz)) := by
  intro a U g mk q
  obtain ⟨q0, qW, qN⟩ := q
  exact ⟨q0, (sm_blind (av := av) a U g mk ⟨q0, qW⟩).2, qN.calling⟩
section SMN
variable {p : Program} {l : Launch} {e : Env} {R : Room} {s : State} {m : MethodId} {args : Array Value} {below : List Frame} {meth : Method} {c : Code} {H : Heap} {locs : List Loc} {cells slots : Nat} {Q : State → Prop}
variable {pc : Nat} {ls : Array Slot} {rest st0 As : List Value} {A : Nat → Prop} {mc ms : Nat} {D : va_G} {cI : ClassId} {th : Option (Nat × Nat)} {ws0 wc wr : va_W} {cc bytes : ByteArray} {nL maxL n index : Nat} {own host : String} {y : MethodName} {wy Ts : List Cond} {rm : Room} {b : Nat}
theorem sm_subP (hP : va_P D vwCl ws0 H) (isC : List Nat) (hC : isC.map (fun i => ws0[i]?) = wc.map some) : va_P D vwCl wc H := by
  intro k q hq
  have h1 : (isC.map (fun i => ws0[i]?))[k]? = some (some q) := by rw [hC, List.getElem?_map, hq]; rfl
  rw [List.getElem?_map] at h1
  cases hi : isC[k]? with
  | none => rw [hi] at h1; cases h1
  | some i => rw [hi] at h1; exact hP i q (Option.some.inj h1)
/-- a nest mate's private constructor -/
theorem sm_callIN {B : State → Prop} (S : CallFix p m c cc nL s args Ts own) (hM : Met l y wy rm (va_Pc (.ref b :: As) (sm_PW D cI th wc H.size)) (va_Qv (fun (_ : Unit) => True) (fun _ t => B t) (va_A wc H.size)) mc ms (va_A wc H.size)) (cw : va_CN R s args own index y host bytes maxL none wy rm mc ms n ∧ y.name = "<init>" ∧ (Cond.instanceMethod y).before args s = true)
    (hP : va_P D vwCl ws0 H) (hD : va_D A ws0) (hS : va_S A s.heap H locs) (hA : ∀ q, s.heap.size ≤ q → A q) (hK : va_K D vwCl [(cI, .int)] s) (hT : sm_tab th A s s.heap)
    (isC isR : List Nat) (hC : isC.map (fun i => ws0[i]?) = wc.map some) (hR : isR.map (fun i => ws0[i]?) = wr.map some) (hnd : va_nd isC = true) (hn : va_nd isR = true) (hdis : ∀ i ∈ isR, i ∉ isC)
    (hnA : As.length = n) (hsize : ls.size = nL) (hstack : st0 = As.reverse ++ .ref b :: rest) (hW : (rest.map fun v => v.category).sum ≤ 8) (hdg : decode cc pc = .ok (.invokespecial index, 3)) (hf : cells + mc ≤ R.cells ∧ slots + ms ≤ R.slots)
    (kk : ∀ (t : State) (H1 : Heap) (locs1 : List Loc), t.heap = H1 → s.vm.Alike t.vm → B t → sm_J D A wc wr H.size H1 → va_S A s.heap H1 locs1 → W p l e R s m args below meth c H1 locs1 (cells + mc) (slots + ms) Q (F0 m (pc + 3) ls rest)) : W p l e R s m args below meth c H locs cells slots Q (F0 m pc ls st0) := by
  have hFc : ∀ q, va_A wc H.size q → A q := va_free hD hS hA isC hC
  have hPc : va_P D vwCl wc H := sm_subP hP isC hC
  have hDc : va_D A wc := hD.sub isC hnd hC
  exact va_callv (va_runIN S hM cw ⟨sm_blind, sm_pre (av := .ref b :: As) (H0 := s.heap) hPc hDc hK hT hS hFc⟩ rfl hnA hsize hstack (lv_room hW) hdg hf) hS (fun q _ h => hFc q h) hFc (fun u t H1 locs1 ht hvm hw hB hz hk hS1 => kk t H1 locs1 ht hvm hB (fun w1 h1 h2 => va_join hP hD isC isR hC hR hn hdis hk hFc h1 h2) hS1)
/-- the same, of a constructor that calls such ones itself -/
theorem sm_callINN {B : State → Prop} (S : CallFix p m c cc nL s args Ts own) (hM : Met l y wy rm (va_Pc (.ref b :: As) (sm_PN D cI th wc H.size)) (va_Qv (fun (_ : Unit) => True) (fun _ t => B t) (va_A wc H.size)) mc ms (va_A wc H.size)) (cw : va_CN R s args own index y host bytes maxL none wy rm mc ms n ∧ y.name = "<init>" ∧ (Cond.instanceMethod y).before args s = true) (hN : sm_nw s)
    (hP : va_P D vwCl ws0 H) (hD : va_D A ws0) (hS : va_S A s.heap H locs) (hA : ∀ q, s.heap.size ≤ q → A q) (hK : va_K D vwCl [(cI, .int)] s) (hT : sm_tab th A s s.heap)
    (isC isR : List Nat) (hC : isC.map (fun i => ws0[i]?) = wc.map some) (hR : isR.map (fun i => ws0[i]?) = wr.map some) (hnd : va_nd isC = true) (hn : va_nd isR = true) (hdis : ∀ i ∈ isR, i ∉ isC)
    (hnA : As.length = n) (hsize : ls.size = nL) (hstack : st0 = As.reverse ++ .ref b :: rest) (hW : (rest.map fun v => v.category).sum ≤ 8) (hdg : decode cc pc = .ok (.invokespecial index, 3)) (hf : cells + mc ≤ R.cells ∧ slots + ms ≤ R.slots)
    (kk : ∀ (t : State) (H1 : Heap) (locs1 : List Loc), t.heap = H1 → s.vm.Alike t.vm → B t → sm_J D A wc wr H.size H1 → va_S A s.heap H1 locs1 → W p l e R s m args below meth c H1 locs1 (cells + mc) (slots + ms) Q (F0 m (pc + 3) ls rest)) : W p l e R s m args below meth c H locs cells slots Q (F0 m pc ls st0) := by
  have hFc : ∀ q, va_A wc H.size q → A q := va_free hD hS hA isC hC
  have hPc : va_P D vwCl wc H := sm_subP hP isC hC
  have hDc : va_D A wc := hD.sub isC hnd hC
  exact va_callv (va_runIN S hM cw ⟨sm_blindN, fun U hU hW => ⟨rfl, (sm_pre (av := .ref b :: As) (H0 := s.heap) hPc hDc hK hT hS hFc U hU hW).2, hN.warm hW⟩⟩ rfl hnA hsize hstack (lv_room hW) hdg hf) hS (fun q _ h => hFc q h) hFc (fun u t H1 locs1 ht hvm hw hB hz hk hS1 => kk t H1 locs1 ht hvm hB (fun w1 h1 h2 => va_join hP hD isC isR hC hR hn hdis hk hFc h1 h2) hS1)
/-- a public constructor that calls such ones -/
theorem sm_callI2 {B : State → Prop} (S : CallFix p m c cc nL s args Ts own) (hM : Met l y wy rm (va_Pc (.ref b :: As) (sm_PN D cI th wc H.size)) (va_Qv (fun (_ : Unit) => True) (fun _ t => B t) (va_A wc H.size)) mc ms (va_A wc H.size)) (cw : CallB R s args own index y bytes maxL none wy rm mc ms n ∧ y.name = "<init>" ∧ (Cond.instanceMethod y).before args s = true) (hN : sm_nw s)
    (hP : va_P D vwCl ws0 H) (hD : va_D A ws0) (hS : va_S A s.heap H locs) (hA : ∀ q, s.heap.size ≤ q → A q) (hK : va_K D vwCl [(cI, .int)] s) (hT : sm_tab th A s s.heap)
    (isC isR : List Nat) (hC : isC.map (fun i => ws0[i]?) = wc.map some) (hR : isR.map (fun i => ws0[i]?) = wr.map some) (hnd : va_nd isC = true) (hn : va_nd isR = true) (hdis : ∀ i ∈ isR, i ∉ isC)
    (hnA : As.length = n) (hsize : ls.size = nL) (hstack : st0 = As.reverse ++ .ref b :: rest) (hW : (rest.map fun v => v.category).sum ≤ 8) (hdg : decode cc pc = .ok (.invokespecial index, 3)) (hf : cells + mc ≤ R.cells ∧ slots + ms ≤ R.slots)
    (kk : ∀ (t : State) (H1 : Heap) (locs1 : List Loc), t.heap = H1 → s.vm.Alike t.vm → B t → sm_J D A wc wr H.size H1 → va_S A s.heap H1 locs1 → W p l e R s m args below meth c H1 locs1 (cells + mc) (slots + ms) Q (F0 m (pc + 3) ls rest)) : W p l e R s m args below meth c H locs cells slots Q (F0 m pc ls st0) := by
  have hFc : ∀ q, va_A wc H.size q → A q := va_free hD hS hA isC hC
  have hPc : va_P D vwCl wc H := sm_subP hP isC hC
  have hDc : va_D A wc := hD.sub isC hnd hC
  exact va_callv (va_runI S hM cw ⟨sm_blindN, fun U hU hW => ⟨rfl, (sm_pre (av := .ref b :: As) (H0 := s.heap) hPc hDc hK hT hS hFc U hU hW).2, hN.warm hW⟩⟩ rfl hnA hsize hstack (lv_room hW) hdg hf) hS (fun q _ h => hFc q h) hFc (fun u t H1 locs1 ht hvm hw hB hz hk hS1 => kk t H1 locs1 ht hvm hB (fun w1 h1 h2 => va_join hP hD isC isR hC hR hn hdis hk hFc h1 h2) hS1)
end SMN
