/-! OUR BASE: one form of contract (sm_PW, sm_QW), static tables (sm_tab), calls and returns in that form, array contents up to their length -/
/-- the two static tables of the class: K at a cell of 64 ints, FIRST_STATE at a cell of 8 ints; 'none': nothing is asked -/
def sm_K : Nat → Int32 := fun j => (#[1116352408, 1899447441, -1245643825, -373957723, 961987163, 1508970993, -1841331548, -1424204075, -670586216, 310598401, 607225278, 1426881987, 1925078388, -2132889090, -1680079193, -1046744716, -459576895, -272742522, 264347078, 604807628, 770255983, 1249150122, 1555081692, 1996064986, -1740746414, -1473132947, -1341970488, -1084653625, -958395405, -710438585, 113926993, 338241895, 666307205, 773529912, 1294757372, 1396182291, 1695183700, 1986661051, -2117940946, -1838011259, -1564481375, -1474664885, -1035236496, -949202525, -778901479, -694614492, -200395387, 275423344, 430227734, 506948616, 659060556, 883997877, 958139571, 1322822218, 1537002063, 1747873779, 1955562222, 2024104815, -2067236844, -1933114872, -1866530822, -1538233109, -1090935817, -965641998] : Array Int32).getD j 0
def sm_F : Nat → Int32 := fun j => (#[1779033703, -1150833019, 1013904242, -1521486534, 1359893119, -1694144372, 528734635, 1541459225] : Array Int32).getD j 0
def sm_tab (th : Option (Nat × Nat)) (A : Nat → Prop) (U : State) (H : Heap) : Prop := match th with
  | none => True
  | some q => (va_Z "SeedMill$Hasher" "K" "[I" (.ref q.1) A U H ∧ va_T .int q.1 64 (fun j => .int (sm_K j)) A U H) ∧ (va_Z "SeedMill$Hasher" "FIRST_STATE" "[I" (.ref q.2) A U H ∧ va_T .int q.2 8 (fun j => .int (sm_F j)) A U H)
theorem sm_tab.moved {th : Option (Nat × Nat)} {A : Nat → Prop} {u U : State} {H : Heap} (hvm : u.vm.Alike U.vm) (h : sm_tab th A u H) : sm_tab th A U H := by
  cases th with
  | none => trivial
  | some q => exact ⟨⟨h.1.1.moved hvm, h.1.2.moved hvm⟩, ⟨h.2.1.moved hvm, h.2.2.moved hvm⟩⟩
theorem sm_tab.kept {th : Option (Nat × Nat)} {A : Nat → Prop} {U : State} {H H1 : Heap} (h : sm_tab th A U H) (hq : ∀ a : Nat, a < H.size → ¬ A a → H1[a]? = H[a]?) : sm_tab th A U H1 := by
  cases th with
  | none => trivial
  | some q => exact ⟨⟨h.1.1.kept hq, h.1.2.kept hq⟩, ⟨h.2.1.kept hq, h.2.2.kept hq⟩⟩
theorem sm_tab.narrow {th : Option (Nat × Nat)} {A B : Nat → Prop} {U : State} {H : Heap} (h : sm_tab th A U H) (hAB : ∀ q, B q → A q) : sm_tab th B U H := by
  cases th with
  | none => trivial
  | some q => exact ⟨⟨h.1.1.narrow hAB, h.1.2.narrow hAB⟩, ⟨h.2.1.narrow hAB, h.2.2.narrow hAB⟩⟩
/-- a contract's start: the cells ws, and only they -/
def sm_PW (D : va_G) (cI : ClassId) (th : Option (Nat × Nat)) (ws : va_W) (sz : Nat) (U : State) : Prop := U.heap.size = sz ∧ va_P D vwCl ws U.heap ∧ va_K D vwCl [(cI, .int)] U ∧ va_D (fun _ => True) ws ∧ sm_tab th (va_A ws sz) U U.heap
/-- a contract's end: the cells w1, out of those that were free for it -/
def sm_QW (D : va_G) (cI : ClassId) (A : Nat → Prop) (w1 : va_W) (t : State) : Prop := va_P D vwCl w1 t.heap ∧ va_K D vwCl [(cI, .int)] t ∧ va_D A w1
theorem sm_blind {D : va_G} {cI : ClassId} {th : Option (Nat × Nat)} {ws : va_W} {sz : Nat} {av : List Value} : FrameBlind (va_Pc av (sm_PW D cI th ws sz)) := by
  intro a U g mk q
  obtain ⟨q0, q1, qP, qK, qD, qT⟩ := q
  exact ⟨q0, q1, qP, va_K.moved (u := U) (U := U.calling g mk a) (Vm.Alike.refl U.vm) qK, qD, sm_tab.moved (u := U) (U := U.calling g mk a) (Vm.Alike.refl U.vm) qT⟩
theorem sm_pre {D : va_G} {cI : ClassId} {th : Option (Nat × Nat)} {wc : va_W} {s : State} {H H0 : Heap} {locs : List Loc} {A : Nat → Prop} {av : List Value} (hPc : va_P D vwCl wc H) (hDc : va_D A wc) (hK : va_K D vwCl [(cI, .int)] s) (hT : sm_tab th A s s.heap) (hS : va_S A s.heap H locs) (hFc : ∀ q, va_A wc H.size q → A q) : ∀ U : State, U.heap = H → s.WarmedH U.vm → va_Pc av (sm_PW D cI th wc H.size) av.toArray U := by
  intro U hU hW
  refine ⟨rfl, by rw [hU], by rw [hU]; exact hPc, va_K.moved hW.alike hK, hDc.weaken (fun _ _ _ _ => trivial), ?_⟩
  rw [hU]
  exact sm_tab.moved hW.alike ((hT.kept (H1 := H) hS.2.1).narrow hFc)
/-- array contents count up to the array's length only -/
theorem sm_cell_congr {cA : ClassId} {n : Nat} {f g : Nat → Int32} (h : ∀ j, j < n → f j = g j) : vp_cell cA (n, .inl f) = vp_cell cA (n, .inl g) := by
  show arrV cA n (fun j => .int (f j)) = arrV cA n (fun j => .int (g j))
  unfold arrV
  have : (Array.ofFn (n := n) fun j => Value.int (f j.val)) = (Array.ofFn (n := n) fun j => Value.int (g j.val)) := by
    congr 1
    funext j
    rw [h j.val j.isLt]
  rw [this]
theorem sm_arr {D : va_G} {cl : List vw_C} {ws : va_W} {H : Heap} (hP : va_P D cl ws H) (q0 : Nat) {a : Nat} {cA : ClassId} {n : Nat} {f : Nat → Int32} (he : ws[q0]? = some (a, .inl (cA, n, .inl f))) (g : Nat → Int32) (h : ∀ j, j < n → f j = g j) : va_P D cl (ws.set q0 (a, .inl (cA, n, .inl g))) H := by
  intro k q hk
  by_cases e : q0 = k
  · subst e
    have hl : q0 < ws.length := (List.getElem?_eq_some_iff.mp he).1
    rw [List.getElem?_set_self hl] at hk
    cases hk
    have := hP q0 _ he
    show H[a]? = some (vp_cell cA (n, .inl g))
    rw [← sm_cell_congr h]
    exact this
  · rw [List.getElem?_set_ne e] at hk
    exact hP k q hk
theorem sm_arrD {A : Nat → Prop} {ws : va_W} (hD : va_D A ws) (q0 : Nat) {a : Nat} {x y : va_E} (he : ws[q0]? = some (a, x)) : va_D A (ws.set q0 (a, y)) := hD.set he
/-- one class of int arrays -/
theorem sm_oneI {D : va_G} {cl : List vw_C} {tys : List (ClassId × FieldType)} {U : State} (h : va_K D cl tys U) {i j : Nat} {c1 c2 : ClassId} (h1 : tys[i]? = some (c1, .int)) (h2 : tys[j]? = some (c2, .int)) : c1 = c2 := by
  have e1 : U.vm.findClass ("[" ++ FieldType.int.toString) = some c1 := (h.2 i _ h1).2
  have e2 : U.vm.findClass ("[" ++ FieldType.int.toString) = some c2 := (h.2 j _ h2).2
  exact Option.some.inj (e1.symm.trans e2)
section SMW
variable {p : Program} {l : Launch} {e : Env} {R : Room} {s : State} {m : MethodId} {args : Array Value} {below : List Frame} {meth : Method} {c : Code} {H : Heap} {locs : List Loc} {cells slots : Nat} {Q : State → Prop}
variable {pc : Nat} {ls : Array Slot} {rest st0 As : List Value} {A : Nat → Prop} {mc ms : Nat} {D : va_G} {cI : ClassId} {th : Option (Nat × Nat)} {ws0 wc wr : va_W} {cc bytes : ByteArray} {nL maxL n index : Nat} {own C : String} {y : MethodName} {ret : Option FieldType} {wy Ts : List Cond} {rm : Room} {b : Nat}
/-- the end wanted gets a name -/
theorem sm_name {g : JFrame} (k : ∀ Q' : State → Prop, Q' = Q → W p l e R s m args below meth c H locs cells slots Q' g) : W p l e R s m args below meth c H locs cells slots Q g := k Q rfl
/-- another word for the number on top -/
theorem sm_top {x z : Int32} (h : x = z) (k : W p l e R s m args below meth c H locs cells slots Q (F0 m pc ls (.int z :: rest))) : W p l e R s m args below meth c H locs cells slots Q (F0 m pc ls (.int x :: rest)) := h ▸ k
theorem sm_topl {x z : Int64} (h : x = z) (k : W p l e R s m args below meth c H locs cells slots Q (F0 m pc ls (.long z :: rest))) : W p l e R s m args below meth c H locs cells slots Q (F0 m pc ls (.long x :: rest)) := h ▸ k
/-- what a caller has behind a call: the callee's new cells beside its own others -/
def sm_J (D : va_G) (A : Nat → Prop) (wc wr : va_W) (sz : Nat) (H1 : Heap) : Prop := ∀ w1 : va_W, va_P D vwCl w1 H1 → va_D (va_A wc sz) w1 → va_P D vwCl (wr ++ w1) H1 ∧ va_D A (wr ++ w1)
/-- a call of an instance method that answers an int -/
theorem sm_callVi {post : Int32 → Prop} {B : State → Prop} (S : CallFix p m c cc nL s args Ts own) (hM : Met l y wy rm (va_Pc (.ref b :: As) (sm_PW D cI th wc H.size)) (va_Qi (fun (r : Int32) (_ : Unit) => post r) (fun _ t => B t) (va_A wc H.size)) mc ms (va_A wc H.size)) (cw : CallW R s args own C index y bytes maxL ret wy rm mc ms n)
    (hP : va_P D vwCl ws0 H) (hD : va_D A ws0) (hS : va_S A s.heap H locs) (hA : ∀ q, s.heap.size ≤ q → A q) (hK : va_K D vwCl [(cI, .int)] s) (hT : sm_tab th A s s.heap)
    (isC isR : List Nat) (hC : isC.map (fun i => ws0[i]?) = wc.map some) (hR : isR.map (fun i => ws0[i]?) = wr.map some) (hnd : va_nd isC = true) (hn : va_nd isR = true) (hdis : ∀ i ∈ isR, i ∉ isC)
    (q0 ci : Nat) {qc : vw_C} {fs : List Value} (hci : vwCl[ci]? = some qc) (hqc : qc.1 = C) (hq0 : wc[q0]? = some (b, .inr (ci, fs)))
    (hnA : As.length = n) (hsize : ls.size = nL) (hstack : st0 = As.reverse ++ .ref b :: rest) (hW : (rest.map fun v => v.category).sum ≤ 8) (hdg : decode cc pc = .ok (.invokevirtual index, 3)) (hf : cells + mc ≤ R.cells ∧ slots + ms ≤ R.slots)
    (kk : ∀ (r : Int32) (t : State) (H1 : Heap) (locs1 : List Loc), t.heap = H1 → s.vm.Alike t.vm → post r → B t → sm_J D A wc wr H.size H1 → va_S A s.heap H1 locs1 → W p l e R s m args below meth c H1 locs1 (cells + mc) (slots + ms) Q (F0 m (pc + 3) ls (.int r :: rest))) : W p l e R s m args below meth c H locs cells slots Q (F0 m pc ls st0) := by
  have hFc : ∀ q, va_A wc H.size q → A q := va_free hD hS hA isC hC
  have hPc : va_P D vwCl wc H := by
    intro k q hq
    have h1 : (isC.map (fun i => ws0[i]?))[k]? = some (some q) := by rw [hC, List.getElem?_map, hq]; rfl
    rw [List.getElem?_map] at h1
    cases hi : isC[k]? with
    | none => rw [hi] at h1; cases h1
    | some i => rw [hi] at h1; exact hP i q (Option.some.inj h1)
  have hDc : va_D A wc := hD.sub isC hnd hC
  refine va_calli (va_runV S hM cw ⟨sm_blind, by rw [← hqc]; exact va_recv hK hPc hci hq0, sm_pre (av := .ref b :: As) (H0 := s.heap) hPc hDc hK hT hS hFc⟩ rfl hnA hsize hstack (lv_room hW) hdg hf) hS (fun q _ h => hFc q h) hFc (fun r u t H1 locs1 ht hvm hw hB hz hk hS1 => kk r t H1 locs1 ht hvm hw hB (fun w1 h1 h2 => va_join hP hD isC isR hC hR hn hdis hk hFc h1 h2) hS1)
/-- a call of an instance method that answers nothing -/
theorem sm_callVv {B : State → Prop} (S : CallFix p m c cc nL s args Ts own) (hM : Met l y wy rm (va_Pc (.ref b :: As) (sm_PW D cI th wc H.size)) (va_Qv (fun (_ : Unit) => True) (fun _ t => B t) (va_A wc H.size)) mc ms (va_A wc H.size)) (cw : CallW R s args own C index y bytes maxL ret wy rm mc ms n)
    (hP : va_P D vwCl ws0 H) (hD : va_D A ws0) (hS : va_S A s.heap H locs) (hA : ∀ q, s.heap.size ≤ q → A q) (hK : va_K D vwCl [(cI, .int)] s) (hT : sm_tab th A s s.heap)
    (isC isR : List Nat) (hC : isC.map (fun i => ws0[i]?) = wc.map some) (hR : isR.map (fun i => ws0[i]?) = wr.map some) (hnd : va_nd isC = true) (hn : va_nd isR = true) (hdis : ∀ i ∈ isR, i ∉ isC)
    (q0 ci : Nat) {qc : vw_C} {fs : List Value} (hci : vwCl[ci]? = some qc) (hqc : qc.1 = C) (hq0 : wc[q0]? = some (b, .inr (ci, fs)))
    (hnA : As.length = n) (hsize : ls.size = nL) (hstack : st0 = As.reverse ++ .ref b :: rest) (hW : (rest.map fun v => v.category).sum ≤ 8) (hdg : decode cc pc = .ok (.invokevirtual index, 3)) (hf : cells + mc ≤ R.cells ∧ slots + ms ≤ R.slots)
    (kk : ∀ (t : State) (H1 : Heap) (locs1 : List Loc), t.heap = H1 → s.vm.Alike t.vm → B t → sm_J D A wc wr H.size H1 → va_S A s.heap H1 locs1 → W p l e R s m args below meth c H1 locs1 (cells + mc) (slots + ms) Q (F0 m (pc + 3) ls rest)) : W p l e R s m args below meth c H locs cells slots Q (F0 m pc ls st0) := by
  have hFc : ∀ q, va_A wc H.size q → A q := va_free hD hS hA isC hC
  have hPc : va_P D vwCl wc H := by
    intro k q hq
    have h1 : (isC.map (fun i => ws0[i]?))[k]? = some (some q) := by rw [hC, List.getElem?_map, hq]; rfl
    rw [List.getElem?_map] at h1
    cases hi : isC[k]? with
    | none => rw [hi] at h1; cases h1
    | some i => rw [hi] at h1; exact hP i q (Option.some.inj h1)
  have hDc : va_D A wc := hD.sub isC hnd hC
  refine va_callv (va_runV S hM cw ⟨sm_blind, by rw [← hqc]; exact va_recv hK hPc hci hq0, sm_pre (av := .ref b :: As) (H0 := s.heap) hPc hDc hK hT hS hFc⟩ rfl hnA hsize hstack (lv_room hW) hdg hf) hS (fun q _ h => hFc q h) hFc (fun u t H1 locs1 ht hvm hw hB hz hk hS1 => kk t H1 locs1 ht hvm hB (fun w1 h1 h2 => va_join hP hD isC isR hC hR hn hdis hk hFc h1 h2) hS1)
/-- a call of a static method that answers an int -/
theorem sm_callSi {post : Int32 → Prop} {B : State → Prop} (S : CallFix p m c cc nL s args Ts own) (hM : Met l y wy rm (va_Pc As (sm_PW D cI th wc H.size)) (va_Qi (fun (r : Int32) (_ : Unit) => post r) (fun _ t => B t) (va_A wc H.size)) mc ms (va_A wc H.size)) (cw : CallB R s args own index y bytes maxL ret wy rm mc ms n ∧ (Cond.static y).before args s = true)
    (hP : va_P D vwCl ws0 H) (hD : va_D A ws0) (hS : va_S A s.heap H locs) (hA : ∀ q, s.heap.size ≤ q → A q) (hK : va_K D vwCl [(cI, .int)] s) (hT : sm_tab th A s s.heap)
    (isC isR : List Nat) (hC : isC.map (fun i => ws0[i]?) = wc.map some) (hR : isR.map (fun i => ws0[i]?) = wr.map some) (hnd : va_nd isC = true) (hn : va_nd isR = true) (hdis : ∀ i ∈ isR, i ∉ isC)
    (hnA : As.length = n) (hsize : ls.size = nL) (hstack : st0 = As.reverse ++ rest) (hW : (rest.map fun v => v.category).sum ≤ 8) (hdg : decode cc pc = .ok (.invokestatic index, 3)) (hf : cells + mc ≤ R.cells ∧ slots + ms ≤ R.slots)
    (kk : ∀ (r : Int32) (t : State) (H1 : Heap) (locs1 : List Loc), t.heap = H1 → s.vm.Alike t.vm → post r → B t → sm_J D A wc wr H.size H1 → va_S A s.heap H1 locs1 → W p l e R s m args below meth c H1 locs1 (cells + mc) (slots + ms) Q (F0 m (pc + 3) ls (.int r :: rest))) : W p l e R s m args below meth c H locs cells slots Q (F0 m pc ls st0) := by
  have hFc : ∀ q, va_A wc H.size q → A q := va_free hD hS hA isC hC
  have hPc : va_P D vwCl wc H := by
    intro k q hq
    have h1 : (isC.map (fun i => ws0[i]?))[k]? = some (some q) := by rw [hC, List.getElem?_map, hq]; rfl
    rw [List.getElem?_map] at h1
    cases hi : isC[k]? with
    | none => rw [hi] at h1; cases h1
    | some i => rw [hi] at h1; exact hP i q (Option.some.inj h1)
  have hDc : va_D A wc := hD.sub isC hnd hC
  refine va_calli (va_runS S hM cw ⟨sm_blind, sm_pre (av := As) (H0 := s.heap) hPc hDc hK hT hS hFc⟩ rfl hnA hsize hstack (lv_room hW) hdg hf) hS (fun q _ h => hFc q h) hFc (fun r u t H1 locs1 ht hvm hw hB hz hk hS1 => kk r t H1 locs1 ht hvm hw hB (fun w1 h1 h2 => va_join hP hD isC isR hC hR hn hdis hk hFc h1 h2) hS1)
/-- a call of a static method that answers nothing -/
theorem sm_callSv {B : State → Prop} (S : CallFix p m c cc nL s args Ts own) (hM : Met l y wy rm (va_Pc As (sm_PW D cI th wc H.size)) (va_Qv (fun (_ : Unit) => True) (fun _ t => B t) (va_A wc H.size)) mc ms (va_A wc H.size)) (cw : CallB R s args own index y bytes maxL ret wy rm mc ms n ∧ (Cond.static y).before args s = true)
    (hP : va_P D vwCl ws0 H) (hD : va_D A ws0) (hS : va_S A s.heap H locs) (hA : ∀ q, s.heap.size ≤ q → A q) (hK : va_K D vwCl [(cI, .int)] s) (hT : sm_tab th A s s.heap)
    (isC isR : List Nat) (hC : isC.map (fun i => ws0[i]?) = wc.map some) (hR : isR.map (fun i => ws0[i]?) = wr.map some) (hnd : va_nd isC = true) (hn : va_nd isR = true) (hdis : ∀ i ∈ isR, i ∉ isC)
    (hnA : As.length = n) (hsize : ls.size = nL) (hstack : st0 = As.reverse ++ rest) (hW : (rest.map fun v => v.category).sum ≤ 8) (hdg : decode cc pc = .ok (.invokestatic index, 3)) (hf : cells + mc ≤ R.cells ∧ slots + ms ≤ R.slots)
    (kk : ∀ (t : State) (H1 : Heap) (locs1 : List Loc), t.heap = H1 → s.vm.Alike t.vm → B t → sm_J D A wc wr H.size H1 → va_S A s.heap H1 locs1 → W p l e R s m args below meth c H1 locs1 (cells + mc) (slots + ms) Q (F0 m (pc + 3) ls rest)) : W p l e R s m args below meth c H locs cells slots Q (F0 m pc ls st0) := by
  have hFc : ∀ q, va_A wc H.size q → A q := va_free hD hS hA isC hC
  have hPc : va_P D vwCl wc H := by
    intro k q hq
    have h1 : (isC.map (fun i => ws0[i]?))[k]? = some (some q) := by rw [hC, List.getElem?_map, hq]; rfl
    rw [List.getElem?_map] at h1
    cases hi : isC[k]? with
    | none => rw [hi] at h1; cases h1
    | some i => rw [hi] at h1; exact hP i q (Option.some.inj h1)
  have hDc : va_D A wc := hD.sub isC hnd hC
  refine va_callv (va_runS S hM cw ⟨sm_blind, sm_pre (av := As) (H0 := s.heap) hPc hDc hK hT hS hFc⟩ rfl hnA hsize hstack (lv_room hW) hdg hf) hS (fun q _ h => hFc q h) hFc (fun u t H1 locs1 ht hvm hw hB hz hk hS1 => kk t H1 locs1 ht hvm hB (fun w1 h1 h2 => va_join hP hD isC isR hC hR hn hdis hk hFc h1 h2) hS1)
/-- a call of a constructor -/
theorem sm_callIv {B : State → Prop} (S : CallFix p m c cc nL s args Ts own) (hM : Met l y wy rm (va_Pc (.ref b :: As) (sm_PW D cI th wc H.size)) (va_Qv (fun (_ : Unit) => True) (fun _ t => B t) (va_A wc H.size)) mc ms (va_A wc H.size)) (cw : CallB R s args own index y bytes maxL none wy rm mc ms n ∧ y.name = "<init>" ∧ (Cond.instanceMethod y).before args s = true)
    (hP : va_P D vwCl ws0 H) (hD : va_D A ws0) (hS : va_S A s.heap H locs) (hA : ∀ q, s.heap.size ≤ q → A q) (hK : va_K D vwCl [(cI, .int)] s) (hT : sm_tab th A s s.heap)
    (isC isR : List Nat) (hC : isC.map (fun i => ws0[i]?) = wc.map some) (hR : isR.map (fun i => ws0[i]?) = wr.map some) (hnd : va_nd isC = true) (hn : va_nd isR = true) (hdis : ∀ i ∈ isR, i ∉ isC)
    (hnA : As.length = n) (hsize : ls.size = nL) (hstack : st0 = As.reverse ++ .ref b :: rest) (hW : (rest.map fun v => v.category).sum ≤ 8) (hdg : decode cc pc = .ok (.invokespecial index, 3)) (hf : cells + mc ≤ R.cells ∧ slots + ms ≤ R.slots)
    (kk : ∀ (t : State) (H1 : Heap) (locs1 : List Loc), t.heap = H1 → s.vm.Alike t.vm → B t → sm_J D A wc wr H.size H1 → va_S A s.heap H1 locs1 → W p l e R s m args below meth c H1 locs1 (cells + mc) (slots + ms) Q (F0 m (pc + 3) ls rest)) : W p l e R s m args below meth c H locs cells slots Q (F0 m pc ls st0) := by
  have hFc : ∀ q, va_A wc H.size q → A q := va_free hD hS hA isC hC
  have hPc : va_P D vwCl wc H := by
    intro k q hq
    have h1 : (isC.map (fun i => ws0[i]?))[k]? = some (some q) := by rw [hC, List.getElem?_map, hq]; rfl
    rw [List.getElem?_map] at h1
    cases hi : isC[k]? with
    | none => rw [hi] at h1; cases h1
    | some i => rw [hi] at h1; exact hP i q (Option.some.inj h1)
  have hDc : va_D A wc := hD.sub isC hnd hC
  refine va_callv (va_runI S hM cw ⟨sm_blind, sm_pre (av := .ref b :: As) (H0 := s.heap) hPc hDc hK hT hS hFc⟩ rfl hnA hsize hstack (lv_room hW) hdg hf) hS (fun q _ h => hFc q h) hFc (fun u t H1 locs1 ht hvm hw hB hz hk hS1 => kk t H1 locs1 ht hvm hB (fun w1 h1 h2 => va_join hP hD isC isR hC hR hn hdis hk hFc h1 h2) hS1)
end SMW
