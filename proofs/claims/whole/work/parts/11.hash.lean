def rm_X0_begin : Room := ({ frames := 1, cells := 0, slots := 0, locals := 20 } : Room)
set_option maxHeartbeats 4000000 in
set_option maxRecDepth 100000 in
/-- Hasher.begin -/
theorem sc_X0_begin (l : Launch) (D : va_G) (cI : ClassId) (th : Option (Nat × Nat)) (sz : Nat) (hh hm bm aw ad : Nat) (fm : Nat → Int32) (u : Int32)  : Met l yX0_begin wsX0_begin rm_X0_begin (va_Pc [.ref hh] (sm_PW D cI th [(hh, .inr (0, [.ref hm, .ref aw, .ref ad])), (hm, .inr (2, [.ref bm, .int u])), (bm, .inl (cI, 448, .inl fm))] sz)) (va_Qv (fun (_ : Unit) => True) (fun _ t => sm_QW D cI (va_A [(hh, .inr (0, [.ref hm, .ref aw, .ref ad])), (hm, .inr (2, [.ref bm, .int u])), (bm, .inl (cI, 448, .inl fm))] sz) [(hh, .inr (0, [.ref hm, .ref aw, .ref ad])), (hm, .inr (2, [.ref bm, .int (nI 0)])), (bm, .inl (cI, 448, .inl fm))] t) (va_A [(hh, .inr (0, [.ref hm, .ref aw, .ref ad])), (hm, .inr (2, [.ref bm, .int u])), (bm, .inl (cI, 448, .inl fm))] sz)) 0 0 (va_A [(hh, .inr (0, [.ref hm, .ref aw, .ref ad])), (hm, .inr (2, [.ref bm, .int u])), (bm, .inl (cI, 448, .inl fm))] sz) := by
  refine Met.ofW (cc := cX0_begin) (maxL := 1) (ret := none) (by decide) rfl ?_
  intro p e s m args below meth c s₁ B hml hv
  obtain ⟨rfl, hsz, hP, hK, hD0, hT⟩ := hv
  have hx := B.exec
  have hb := B.bytes
  have hr := B.returns
  have hts := atoms_spec (ws := wsX0_begin) B.pre
  have hown : s.vm.findClass RX0 = some m.cls := findClass_of_methodNamed B.named
  have hlocks := B.notSynchronized
  subst hsz
  have hD := hD0.self (sz := s.heap.size)
  generalize hAe : va_A [(hh, .inr (0, [.ref hm, .ref aw, .ref ad])), (hm, .inr (2, [.ref bm, .int u])), (bm, .inl (cI, 448, .inl fm))] s.heap.size = A at hD hT ⊢
  have hA : ∀ q : Nat, s.heap.size ≤ q → A q := fun q h => by rw [← hAe]; exact Or.inr h
  have hS : va_S A s.heap s.heap [] := va_S.rf
  have hl := lv_entry ([.ref hh]) (n := 1) (Nat.le_of_ble_eq_true rfl)
  rw [lg_entry_eq]
  generalize (lg_sl ([.ref hh]) ++ List.replicate (1 - (lg_sl ([.ref hh])).length) Slot.unset).toArray = ls at hl ⊢
  have hl : lv_has ls 1 [(0, .ref hh)] := hl
  refine sm_name (fun Q hQ => ?_)
  have hf_14 := hts (.fieldLink RX0 14 "SeedMill$Hasher" "message" "LSeedMill$Row;") (by decide +kernel)
  have hw_X0 : ∀ w ∈ wsX00, w ∈ wsX0_begin := by decide +kernel
  refine lv_aload_n hx hb dX0_begin_0 rfl (lv_at hl 0 rfl) ?_
  refine va_get (D := D) (ci := 0) (v := .ref hm) (C := RX0) (T := TX0) (N := 3) hx hb hts hw_X0 hown hK hP 0 rfl rfl 0 (by decide) hf_14 (fun _ h9 => h9) rfl dX0_begin_1 ?_
  refine sm_callVv (wc := [(hm, .inr (2, [.ref bm, .int u])), (bm, .inl (cI, 448, .inl fm))]) (wr := [(hh, .inr (0, [.ref hm, .ref aw, .ref ad]))]) (As := []) (rest := []) ⟨hx, hb, hml, hown, hts⟩ (sc_X2_empty l D cI th _ hm bm 448 fm u ) (cwV 0 hts gX0_begin_X2_empty rfl rfl rfl (by decide +kernel) ⟨Nat.le_of_ble_eq_true rfl, Nat.le_of_ble_eq_true rfl⟩) hP hD hS hA hK hT [1, 2] [0] rfl rfl rfl rfl (by decide) 0 2 rfl rfl rfl rfl hl.1 rfl (Nat.le_of_ble_eq_true rfl) dX0_begin_4 ⟨Nat.zero_le _, Nat.zero_le _⟩ (fun zt H1 locs ht hvm hB hJ hS => ?_)
  obtain ⟨hP1, -, hD1⟩ := hB
  rw [ht] at hP1
  obtain ⟨hP, hD⟩ := hJ _ hP1 hD1
  clear hJ
  generalize H1 = H at hP hS ⊢
  have hP : va_P D vwCl [(hh, .inr (0, [.ref hm, .ref aw, .ref ad])), (hm, .inr (2, [.ref bm, .int (nI 0)])), (bm, .inl (cI, 448, .inl fm))] H := hP.sub [0, 1, 2] rfl
  have hD : va_D A [(hh, .inr (0, [.ref hm, .ref aw, .ref ad])), (hm, .inr (2, [.ref bm, .int (nI 0)])), (bm, .inl (cI, 448, .inl fm))] := hD.sub [0, 1, 2] rfl rfl
  rw [hQ]
  have hP9 : va_P D vwCl [(hh, .inr (0, [.ref hm, .ref aw, .ref ad])), (hm, .inr (2, [.ref bm, .int (nI 0)])), (bm, .inl (cI, 448, .inl fm))] H := hP
  have hD9 : va_D A [(hh, .inr (0, [.ref hm, .ref aw, .ref ad])), (hm, .inr (2, [.ref bm, .int (nI 0)])), (bm, .inl (cI, 448, .inl fm))] := hD
  exact W.vret hx hb hr (fun t ht hW => ⟨⟨(), rfl, trivial, ⟨by rw [ht]; exact hP9, va_K.moved hW.alike hK, hD9⟩⟩, hS.F ht⟩) hS.2.2 dX0_begin_7

def rm_X0_add : Room := ({ frames := 2, cells := 0, slots := 0, locals := 45 } : Room)
set_option maxHeartbeats 4000000 in
set_option maxRecDepth 100000 in
/-- Hasher.add -/
theorem sc_X0_add (l : Launch) (D : va_G) (cI : ClassId) (th : Option (Nat × Nat)) (sz : Nat) (hh hm bm aw ad : Nat) (u qr rb nr u2 : Nat) (fm g : Nat → Int32) (hE : u + u2 ≤ 448) (hu2 : u2 ≤ nr) (hnr : nr < 2 ^ 31) : Met l yX0_add wsX0_add rm_X0_add (va_Pc [.ref hh, .ref qr] (sm_PW D cI th [(hh, .inr (0, [.ref hm, .ref aw, .ref ad])), (hm, .inr (2, [.ref bm, .int (nI u)])), (bm, .inl (cI, 448, .inl fm)), (qr, .inr (2, [.ref rb, .int (nI u2)])), (rb, .inl (cI, nr, .inl g))] sz)) (va_Qv (fun (_ : Unit) => True) (fun _ t => sm_QW D cI (va_A [(hh, .inr (0, [.ref hm, .ref aw, .ref ad])), (hm, .inr (2, [.ref bm, .int (nI u)])), (bm, .inl (cI, 448, .inl fm)), (qr, .inr (2, [.ref rb, .int (nI u2)])), (rb, .inl (cI, nr, .inl g))] sz) [(hh, .inr (0, [.ref hm, .ref aw, .ref ad])), (hm, .inr (2, [.ref bm, .int (nI (u + u2))])), (bm, .inl (cI, 448, .inl (sm_ap fm u g u2))), (qr, .inr (2, [.ref rb, .int (nI u2)])), (rb, .inl (cI, nr, .inl g))] t) (va_A [(hh, .inr (0, [.ref hm, .ref aw, .ref ad])), (hm, .inr (2, [.ref bm, .int (nI u)])), (bm, .inl (cI, 448, .inl fm)), (qr, .inr (2, [.ref rb, .int (nI u2)])), (rb, .inl (cI, nr, .inl g))] sz)) 0 0 (va_A [(hh, .inr (0, [.ref hm, .ref aw, .ref ad])), (hm, .inr (2, [.ref bm, .int (nI u)])), (bm, .inl (cI, 448, .inl fm)), (qr, .inr (2, [.ref rb, .int (nI u2)])), (rb, .inl (cI, nr, .inl g))] sz) := by
  refine Met.ofW (cc := cX0_add) (maxL := 2) (ret := none) (by decide) rfl ?_
  intro p e s m args below meth c s₁ B hml hv
  obtain ⟨rfl, hsz, hP, hK, hD0, hT⟩ := hv
  have hx := B.exec
  have hb := B.bytes
  have hr := B.returns
  have hts := atoms_spec (ws := wsX0_add) B.pre
  have hown : s.vm.findClass RX0 = some m.cls := findClass_of_methodNamed B.named
  have hlocks := B.notSynchronized
  subst hsz
  have hD := hD0.self (sz := s.heap.size)
  generalize hAe : va_A [(hh, .inr (0, [.ref hm, .ref aw, .ref ad])), (hm, .inr (2, [.ref bm, .int (nI u)])), (bm, .inl (cI, 448, .inl fm)), (qr, .inr (2, [.ref rb, .int (nI u2)])), (rb, .inl (cI, nr, .inl g))] s.heap.size = A at hD hT ⊢
  have hA : ∀ q : Nat, s.heap.size ≤ q → A q := fun q h => by rw [← hAe]; exact Or.inr h
  have hS : va_S A s.heap s.heap [] := va_S.rf
  have hl := lv_entry ([.ref hh, .ref qr]) (n := 2) (Nat.le_of_ble_eq_true rfl)
  rw [lg_entry_eq]
  generalize (lg_sl ([.ref hh, .ref qr]) ++ List.replicate (2 - (lg_sl ([.ref hh, .ref qr])).length) Slot.unset).toArray = ls at hl ⊢
  have hl : lv_has ls 2 [(0, .ref hh), (1, .ref qr)] := hl
  refine sm_name (fun Q hQ => ?_)
  have hf_14 := hts (.fieldLink RX0 14 "SeedMill$Hasher" "message" "LSeedMill$Row;") (by decide +kernel)
  have hw_X0 : ∀ w ∈ wsX00, w ∈ wsX0_add := by decide +kernel
  refine lv_aload_n hx hb dX0_add_0 rfl (lv_at hl 0 rfl) ?_
  refine va_get (D := D) (ci := 0) (v := .ref hm) (C := RX0) (T := TX0) (N := 3) hx hb hts hw_X0 hown hK hP 0 rfl rfl 0 (by decide) hf_14 (fun _ h9 => h9) rfl dX0_add_1 ?_
  refine lv_aload_n hx hb dX0_add_4 rfl (lv_at hl 1 rfl) ?_
  refine lv_aload_n hx hb dX0_add_5 rfl (lv_at hl 1 rfl) ?_
  refine sm_callVi (wc := [(qr, .inr (2, [.ref rb, .int (nI u2)])), (rb, .inl (cI, nr, .inl g))]) (wr := [(hh, .inr (0, [.ref hm, .ref aw, .ref ad])), (hm, .inr (2, [.ref bm, .int (nI u)])), (bm, .inl (cI, 448, .inl fm))]) (As := []) (rest := [.ref qr, .ref hm]) ⟨hx, hb, hml, hown, hts⟩ (sc_X2_size l D cI th _ qr rb nr g (nI u2) ) (cwV 0 hts gX0_add_X2_size rfl rfl rfl (by decide +kernel) ⟨Nat.le_of_ble_eq_true rfl, Nat.le_of_ble_eq_true rfl⟩) hP hD hS hA hK hT [3, 4] [0, 1, 2] rfl rfl rfl rfl (by decide) 0 2 rfl rfl rfl rfl hl.1 rfl (Nat.le_of_ble_eq_true rfl) dX0_add_6 ⟨Nat.zero_le _, Nat.zero_le _⟩ (fun r_6 zt H1 locs ht hvm hw hB hJ hS => ?_)
  obtain ⟨hP1, -, hD1⟩ := hB
  rw [ht] at hP1
  obtain ⟨hP, hD⟩ := hJ _ hP1 hD1
  clear hJ
  generalize H1 = H at hP hS ⊢
  have hP : va_P D vwCl [(hh, .inr (0, [.ref hm, .ref aw, .ref ad])), (hm, .inr (2, [.ref bm, .int (nI u)])), (bm, .inl (cI, 448, .inl fm)), (qr, .inr (2, [.ref rb, .int (nI u2)])), (rb, .inl (cI, nr, .inl g))] H := hP.sub [0, 1, 2, 3, 4] rfl
  have hD : va_D A [(hh, .inr (0, [.ref hm, .ref aw, .ref ad])), (hm, .inr (2, [.ref bm, .int (nI u)])), (bm, .inl (cI, 448, .inl fm)), (qr, .inr (2, [.ref rb, .int (nI u2)])), (rb, .inl (cI, nr, .inl g))] := hD.sub [0, 1, 2, 3, 4] rfl rfl
  rw [hw]
  refine sm_callVv (wc := [(hm, .inr (2, [.ref bm, .int (nI u)])), (bm, .inl (cI, 448, .inl fm)), (qr, .inr (2, [.ref rb, .int (nI u2)])), (rb, .inl (cI, nr, .inl g))]) (wr := [(hh, .inr (0, [.ref hm, .ref aw, .ref ad]))]) (As := [.ref qr, .int (nI u2)]) (rest := []) ⟨hx, hb, hml, hown, hts⟩ (sc_X2_append l D cI th _ hm bm 448 u qr rb nr u2 u2 fm g (by omega) hu2 (by decide) hnr (by omega)) (cwV 2 hts gX0_add_X2_append rfl rfl rfl (by decide +kernel) ⟨Nat.le_of_ble_eq_true rfl, Nat.le_of_ble_eq_true rfl⟩) hP hD hS hA hK hT [1, 2, 3, 4] [0] rfl rfl rfl rfl (by decide) 0 2 rfl rfl rfl rfl hl.1 rfl (Nat.le_of_ble_eq_true rfl) dX0_add_9 ⟨Nat.zero_le _, Nat.zero_le _⟩ (fun zt H1 locs ht hvm hB hJ hS => ?_)
  obtain ⟨hP1, -, hD1⟩ := hB
  rw [ht] at hP1
  obtain ⟨hP, hD⟩ := hJ _ hP1 hD1
  clear hJ
  generalize H1 = H at hP hS ⊢
  have hP : va_P D vwCl [(hh, .inr (0, [.ref hm, .ref aw, .ref ad])), (hm, .inr (2, [.ref bm, .int (nI (u + min u2 u2))])), (bm, .inl (cI, 448, .inl (sm_ap fm u g (min u2 u2)))), (qr, .inr (2, [.ref rb, .int (nI u2)])), (rb, .inl (cI, nr, .inl g))] H := hP.sub [0, 1, 2, 3, 4] rfl
  have hD : va_D A [(hh, .inr (0, [.ref hm, .ref aw, .ref ad])), (hm, .inr (2, [.ref bm, .int (nI (u + min u2 u2))])), (bm, .inl (cI, 448, .inl (sm_ap fm u g (min u2 u2)))), (qr, .inr (2, [.ref rb, .int (nI u2)])), (rb, .inl (cI, nr, .inl g))] := hD.sub [0, 1, 2, 3, 4] rfl rfl
  rw [hQ]
  rw [Nat.min_self] at hP hD
  have hP9 : va_P D vwCl [(hh, .inr (0, [.ref hm, .ref aw, .ref ad])), (hm, .inr (2, [.ref bm, .int (nI (u + u2))])), (bm, .inl (cI, 448, .inl (sm_ap fm u g u2))), (qr, .inr (2, [.ref rb, .int (nI u2)])), (rb, .inl (cI, nr, .inl g))] H := hP
  have hD9 : va_D A [(hh, .inr (0, [.ref hm, .ref aw, .ref ad])), (hm, .inr (2, [.ref bm, .int (nI (u + u2))])), (bm, .inl (cI, 448, .inl (sm_ap fm u g u2))), (qr, .inr (2, [.ref rb, .int (nI u2)])), (rb, .inl (cI, nr, .inl g))] := hD
  exact W.vret hx hb hr (fun t ht hW => ⟨⟨(), rfl, trivial, ⟨by rw [ht]; exact hP9, va_K.moved hW.alike hK, hD9⟩⟩, hS.F ht⟩) hS.2.2 dX0_add_12

def rm_X0_addXor : Room := ({ frames := 2, cells := 0, slots := 0, locals := 44 } : Room)
set_option maxHeartbeats 4000000 in
set_option maxRecDepth 100000 in
/-- Hasher.addXor -/
theorem sc_X0_addXor (l : Launch) (D : va_G) (cI : ClassId) (th : Option (Nat × Nat)) (sz : Nat) (hh hm bm aw ad : Nat) (u qr rb nr u2 : Nat) (fm g : Nat → Int32) (x : Int32) (hE : u + u2 ≤ 448) (hu2 : u2 ≤ nr) (hnr : nr < 2 ^ 31) : Met l yX0_addXor wsX0_addXor rm_X0_addXor (va_Pc [.ref hh, .ref qr, .int x] (sm_PW D cI th [(hh, .inr (0, [.ref hm, .ref aw, .ref ad])), (hm, .inr (2, [.ref bm, .int (nI u)])), (bm, .inl (cI, 448, .inl fm)), (qr, .inr (2, [.ref rb, .int (nI u2)])), (rb, .inl (cI, nr, .inl g))] sz)) (va_Qv (fun (_ : Unit) => True) (fun _ t => sm_QW D cI (va_A [(hh, .inr (0, [.ref hm, .ref aw, .ref ad])), (hm, .inr (2, [.ref bm, .int (nI u)])), (bm, .inl (cI, 448, .inl fm)), (qr, .inr (2, [.ref rb, .int (nI u2)])), (rb, .inl (cI, nr, .inl g))] sz) [(hh, .inr (0, [.ref hm, .ref aw, .ref ad])), (hm, .inr (2, [.ref bm, .int (nI (u + u2))])), (bm, .inl (cI, 448, .inl (sm_ap fm u (fun j => g j ^^^ x) u2))), (qr, .inr (2, [.ref rb, .int (nI u2)])), (rb, .inl (cI, nr, .inl g))] t) (va_A [(hh, .inr (0, [.ref hm, .ref aw, .ref ad])), (hm, .inr (2, [.ref bm, .int (nI u)])), (bm, .inl (cI, 448, .inl fm)), (qr, .inr (2, [.ref rb, .int (nI u2)])), (rb, .inl (cI, nr, .inl g))] sz)) 0 0 (va_A [(hh, .inr (0, [.ref hm, .ref aw, .ref ad])), (hm, .inr (2, [.ref bm, .int (nI u)])), (bm, .inl (cI, 448, .inl fm)), (qr, .inr (2, [.ref rb, .int (nI u2)])), (rb, .inl (cI, nr, .inl g))] sz) := by
  refine Met.ofW (cc := cX0_addXor) (maxL := 3) (ret := none) (by decide) rfl ?_
  intro p e s m args below meth c s₁ B hml hv
  obtain ⟨rfl, hsz, hP, hK, hD0, hT⟩ := hv
  have hx := B.exec
  have hb := B.bytes
  have hr := B.returns
  have hts := atoms_spec (ws := wsX0_addXor) B.pre
  have hown : s.vm.findClass RX0 = some m.cls := findClass_of_methodNamed B.named
  have hlocks := B.notSynchronized
  subst hsz
  have hD := hD0.self (sz := s.heap.size)
  generalize hAe : va_A [(hh, .inr (0, [.ref hm, .ref aw, .ref ad])), (hm, .inr (2, [.ref bm, .int (nI u)])), (bm, .inl (cI, 448, .inl fm)), (qr, .inr (2, [.ref rb, .int (nI u2)])), (rb, .inl (cI, nr, .inl g))] s.heap.size = A at hD hT ⊢
  have hA : ∀ q : Nat, s.heap.size ≤ q → A q := fun q h => by rw [← hAe]; exact Or.inr h
  have hS : va_S A s.heap s.heap [] := va_S.rf
  have hl := lv_entry ([.ref hh, .ref qr, .int x]) (n := 3) (Nat.le_of_ble_eq_true rfl)
  rw [lg_entry_eq]
  generalize (lg_sl ([.ref hh, .ref qr, .int x]) ++ List.replicate (3 - (lg_sl ([.ref hh, .ref qr, .int x])).length) Slot.unset).toArray = ls at hl ⊢
  have hl : lv_has ls 3 [(0, .ref hh), (1, .ref qr), (2, .int x)] := hl
  refine sm_name (fun Q hQ => ?_)
  have hf_14 := hts (.fieldLink RX0 14 "SeedMill$Hasher" "message" "LSeedMill$Row;") (by decide +kernel)
  have hw_X0 : ∀ w ∈ wsX00, w ∈ wsX0_addXor := by decide +kernel
  refine lv_aload_n hx hb dX0_addXor_0 rfl (lv_at hl 0 rfl) ?_
  refine va_get (D := D) (ci := 0) (v := .ref hm) (C := RX0) (T := TX0) (N := 3) hx hb hts hw_X0 hown hK hP 0 rfl rfl 0 (by decide) hf_14 (fun _ h9 => h9) rfl dX0_addXor_1 ?_
  refine lv_aload_n hx hb dX0_addXor_4 rfl (lv_at hl 1 rfl) ?_
  refine lv_iload_n hx hb dX0_addXor_5 rfl (lv_at hl 2 rfl) ?_
  refine sm_callVv (wc := [(hm, .inr (2, [.ref bm, .int (nI u)])), (bm, .inl (cI, 448, .inl fm)), (qr, .inr (2, [.ref rb, .int (nI u2)])), (rb, .inl (cI, nr, .inl g))]) (wr := [(hh, .inr (0, [.ref hm, .ref aw, .ref ad]))]) (As := [.ref qr, .int x]) (rest := []) ⟨hx, hb, hml, hown, hts⟩ (sc_X2_appendXor l D cI th _ hm bm 448 u qr rb nr u2 fm g x hE hu2 (by decide) hnr) (cwV 2 hts gX0_addXor_X2_appendXor rfl rfl rfl (by decide +kernel) ⟨Nat.le_of_ble_eq_true rfl, Nat.le_of_ble_eq_true rfl⟩) hP hD hS hA hK hT [1, 2, 3, 4] [0] rfl rfl rfl rfl (by decide) 0 2 rfl rfl rfl rfl hl.1 rfl (Nat.le_of_ble_eq_true rfl) dX0_addXor_6 ⟨Nat.zero_le _, Nat.zero_le _⟩ (fun zt H1 locs ht hvm hB hJ hS => ?_)
  obtain ⟨hP1, -, hD1⟩ := hB
  rw [ht] at hP1
  obtain ⟨hP, hD⟩ := hJ _ hP1 hD1
  clear hJ
  generalize H1 = H at hP hS ⊢
  have hP : va_P D vwCl [(hh, .inr (0, [.ref hm, .ref aw, .ref ad])), (hm, .inr (2, [.ref bm, .int (nI (u + u2))])), (bm, .inl (cI, 448, .inl (sm_ap fm u (fun j => g j ^^^ x) u2))), (qr, .inr (2, [.ref rb, .int (nI u2)])), (rb, .inl (cI, nr, .inl g))] H := hP.sub [0, 1, 2, 3, 4] rfl
  have hD : va_D A [(hh, .inr (0, [.ref hm, .ref aw, .ref ad])), (hm, .inr (2, [.ref bm, .int (nI (u + u2))])), (bm, .inl (cI, 448, .inl (sm_ap fm u (fun j => g j ^^^ x) u2))), (qr, .inr (2, [.ref rb, .int (nI u2)])), (rb, .inl (cI, nr, .inl g))] := hD.sub [0, 1, 2, 3, 4] rfl rfl
  rw [hQ]
  have hP9 : va_P D vwCl [(hh, .inr (0, [.ref hm, .ref aw, .ref ad])), (hm, .inr (2, [.ref bm, .int (nI (u + u2))])), (bm, .inl (cI, 448, .inl (sm_ap fm u (fun j => g j ^^^ x) u2))), (qr, .inr (2, [.ref rb, .int (nI u2)])), (rb, .inl (cI, nr, .inl g))] H := hP
  have hD9 : va_D A [(hh, .inr (0, [.ref hm, .ref aw, .ref ad])), (hm, .inr (2, [.ref bm, .int (nI (u + u2))])), (bm, .inl (cI, 448, .inl (sm_ap fm u (fun j => g j ^^^ x) u2))), (qr, .inr (2, [.ref rb, .int (nI u2)])), (rb, .inl (cI, nr, .inl g))] := hD
  exact W.vret hx hb hr (fun t ht hW => ⟨⟨(), rfl, trivial, ⟨by rw [ht]; exact hP9, va_K.moved hW.alike hK, hD9⟩⟩, hS.F ht⟩) hS.2.2 dX0_addXor_9

def rm_X0_addByte : Room := ({ frames := 1, cells := 0, slots := 0, locals := 21 } : Room)
set_option maxHeartbeats 4000000 in
set_option maxRecDepth 100000 in
/-- Hasher.addByte -/
theorem sc_X0_addByte (l : Launch) (D : va_G) (cI : ClassId) (th : Option (Nat × Nat)) (sz : Nat) (hh hm bm aw ad : Nat) (u : Nat) (fm : Nat → Int32) (x : Int32) (hE : u < 448) : Met l yX0_addByte wsX0_addByte rm_X0_addByte (va_Pc [.ref hh, .int x] (sm_PW D cI th [(hh, .inr (0, [.ref hm, .ref aw, .ref ad])), (hm, .inr (2, [.ref bm, .int (nI u)])), (bm, .inl (cI, 448, .inl fm))] sz)) (va_Qv (fun (_ : Unit) => True) (fun _ t => sm_QW D cI (va_A [(hh, .inr (0, [.ref hm, .ref aw, .ref ad])), (hm, .inr (2, [.ref bm, .int (nI u)])), (bm, .inl (cI, 448, .inl fm))] sz) [(hh, .inr (0, [.ref hm, .ref aw, .ref ad])), (hm, .inr (2, [.ref bm, .int (nI (u + 1))])), (bm, .inl (cI, 448, .inl (upd fm u x)))] t) (va_A [(hh, .inr (0, [.ref hm, .ref aw, .ref ad])), (hm, .inr (2, [.ref bm, .int (nI u)])), (bm, .inl (cI, 448, .inl fm))] sz)) 0 0 (va_A [(hh, .inr (0, [.ref hm, .ref aw, .ref ad])), (hm, .inr (2, [.ref bm, .int (nI u)])), (bm, .inl (cI, 448, .inl fm))] sz) := by
  refine Met.ofW (cc := cX0_addByte) (maxL := 2) (ret := none) (by decide) rfl ?_
  intro p e s m args below meth c s₁ B hml hv
  obtain ⟨rfl, hsz, hP, hK, hD0, hT⟩ := hv
  have hx := B.exec
  have hb := B.bytes
  have hr := B.returns
  have hts := atoms_spec (ws := wsX0_addByte) B.pre
  have hown : s.vm.findClass RX0 = some m.cls := findClass_of_methodNamed B.named
  have hlocks := B.notSynchronized
  subst hsz
  have hD := hD0.self (sz := s.heap.size)
  generalize hAe : va_A [(hh, .inr (0, [.ref hm, .ref aw, .ref ad])), (hm, .inr (2, [.ref bm, .int (nI u)])), (bm, .inl (cI, 448, .inl fm))] s.heap.size = A at hD hT ⊢
  have hA : ∀ q : Nat, s.heap.size ≤ q → A q := fun q h => by rw [← hAe]; exact Or.inr h
  have hS : va_S A s.heap s.heap [] := va_S.rf
  have hl := lv_entry ([.ref hh, .int x]) (n := 2) (Nat.le_of_ble_eq_true rfl)
  rw [lg_entry_eq]
  generalize (lg_sl ([.ref hh, .int x]) ++ List.replicate (2 - (lg_sl ([.ref hh, .int x])).length) Slot.unset).toArray = ls at hl ⊢
  have hl : lv_has ls 2 [(0, .ref hh), (1, .int x)] := hl
  refine sm_name (fun Q hQ => ?_)
  have hf_14 := hts (.fieldLink RX0 14 "SeedMill$Hasher" "message" "LSeedMill$Row;") (by decide +kernel)
  have hw_X0 : ∀ w ∈ wsX00, w ∈ wsX0_addByte := by decide +kernel
  refine lv_aload_n hx hb dX0_addByte_0 rfl (lv_at hl 0 rfl) ?_
  refine va_get (D := D) (ci := 0) (v := .ref hm) (C := RX0) (T := TX0) (N := 3) hx hb hts hw_X0 hown hK hP 0 rfl rfl 0 (by decide) hf_14 (fun _ h9 => h9) rfl dX0_addByte_1 ?_
  refine lv_iload_n hx hb dX0_addByte_4 rfl (lv_at hl 1 rfl) ?_
  refine sm_callVv (wc := [(hm, .inr (2, [.ref bm, .int (nI u)])), (bm, .inl (cI, 448, .inl fm))]) (wr := [(hh, .inr (0, [.ref hm, .ref aw, .ref ad]))]) (As := [.int x]) (rest := []) ⟨hx, hb, hml, hown, hts⟩ (sc_X2_put l D cI th _ hm bm 448 u fm x hE (by decide)) (cwV 1 hts gX0_addByte_X2_put rfl rfl rfl (by decide +kernel) ⟨Nat.le_of_ble_eq_true rfl, Nat.le_of_ble_eq_true rfl⟩) hP hD hS hA hK hT [1, 2] [0] rfl rfl rfl rfl (by decide) 0 2 rfl rfl rfl rfl hl.1 rfl (Nat.le_of_ble_eq_true rfl) dX0_addByte_5 ⟨Nat.zero_le _, Nat.zero_le _⟩ (fun zt H1 locs ht hvm hB hJ hS => ?_)
  obtain ⟨hP1, -, hD1⟩ := hB
  rw [ht] at hP1
  obtain ⟨hP, hD⟩ := hJ _ hP1 hD1
  clear hJ
  generalize H1 = H at hP hS ⊢
  have hP : va_P D vwCl [(hh, .inr (0, [.ref hm, .ref aw, .ref ad])), (hm, .inr (2, [.ref bm, .int (nI (u + 1))])), (bm, .inl (cI, 448, .inl (upd fm u x)))] H := hP.sub [0, 1, 2] rfl
  have hD : va_D A [(hh, .inr (0, [.ref hm, .ref aw, .ref ad])), (hm, .inr (2, [.ref bm, .int (nI (u + 1))])), (bm, .inl (cI, 448, .inl (upd fm u x)))] := hD.sub [0, 1, 2] rfl rfl
  rw [hQ]
  have hP9 : va_P D vwCl [(hh, .inr (0, [.ref hm, .ref aw, .ref ad])), (hm, .inr (2, [.ref bm, .int (nI (u + 1))])), (bm, .inl (cI, 448, .inl (upd fm u x)))] H := hP
  have hD9 : va_D A [(hh, .inr (0, [.ref hm, .ref aw, .ref ad])), (hm, .inr (2, [.ref bm, .int (nI (u + 1))])), (bm, .inl (cI, 448, .inl (upd fm u x)))] := hD
  exact W.vret hx hb hr (fun t ht hW => ⟨⟨(), rfl, trivial, ⟨by rw [ht]; exact hP9, va_K.moved hW.alike hK, hD9⟩⟩, hS.F ht⟩) hS.2.2 dX0_addByte_8

def rm_J9_floorMod_7cf53 : Room := ({ frames := 0, cells := 0, slots := 0, locals := 0 } : Room)
set_option maxHeartbeats 4000000 in
set_option maxRecDepth 100000 in
/-- Math.floorMod by 64 -/
theorem sc_J9_floorMod_7cf53 (l : Launch) (D : va_G) (cI : ClassId) (th : Option (Nat × Nat)) (sz : Nat) (x : Int32)  : Met l yJ9_floorMod_7cf53 wsJ9_floorMod_7cf53 rm_J9_floorMod_7cf53 (va_Pc [.int x, .int 64] (sm_PW D cI th [] sz)) (va_Qi (fun (r : Int32) (_ : Unit) => r = sm_fm x 64) (fun _ t => sm_QW D cI (va_A [] sz) [] t) (va_A [] sz)) 0 0 (va_A [] sz) := by
  refine va_MetF (cc := cJ9_floorMod_7cf53) (maxL := 3) (ret := (some .int)) (by decide +kernel) rfl ?_
  intro p e s m args below meth c s₁ B hml hv
  obtain ⟨rfl, hsz, hP, hK, hD0, hT⟩ := hv
  have hx := B.exec
  have hb := B.bytes
  have hr := B.returns
  have hts := atoms_spec (ws := wsJ9_floorMod_7cf53) B.pre
  have hown : s.vm.findClass RJ9 = some m.cls := findClass_of_methodNamed B.named
  have hlocks := B.notSynchronized
  subst hsz
  have hD := hD0.self (sz := s.heap.size)
  generalize hAe : va_A [] s.heap.size = A at hD hT ⊢
  have hA : ∀ q : Nat, s.heap.size ≤ q → A q := fun q h => by rw [← hAe]; exact Or.inr h
  have hS : va_S A s.heap s.heap [] := va_S.rf
  have hl := lv_entry ([.int x, .int 64]) (n := 3) (Nat.le_of_ble_eq_true rfl)
  rw [lg_entry_eq]
  generalize (lg_sl ([.int x, .int 64]) ++ List.replicate (3 - (lg_sl ([.int x, .int 64])).length) Slot.unset).toArray = ls at hl ⊢
  have hl : lv_has ls 3 [(0, .int x), (1, .int 64)] := hl
  refine sm_name (fun Q hQ => ?_)
  refine lv_iload_n hx hb dJ9_floorMod_7cf53_0 rfl (lv_at hl 0 rfl) ?_
  refine lv_iload_n hx hb dJ9_floorMod_7cf53_1 rfl (lv_at hl 1 rfl) ?_
  refine lv_irem hx hb dJ9_floorMod_7cf53_2 (by decide) ?_
  refine lv_istore_n (lv' := [(2, .int (x - x / 64 * 64)), (0, .int x), (1, .int 64)]) hx hb dJ9_floorMod_7cf53_3 rfl hl (by decide) rfl (fun ls hl => ?_)
  refine lv_iload_n hx hb dJ9_floorMod_7cf53_4 rfl (lv_at hl 1 rfl) ?_
  refine lv_iload_n hx hb dJ9_floorMod_7cf53_5 rfl (lv_at hl 2 rfl) ?_
  refine lv_ixor hx hb dJ9_floorMod_7cf53_6 ?_
  refine lv_if_ge (tgt := 18) hx hb dJ9_floorMod_7cf53_7 (by decide) (fun c_7 => ?_) (fun c_7 => ?_)
  ·
    refine lv_iload_n hx hb dJ9_floorMod_7cf53_18 rfl (lv_at hl 0 rfl) ?_
    rw [hQ]
    have hP9 : va_P D vwCl [] s.heap := hP
    have hD9 : va_D A [] := hD
    exact W.iret (v := x - x / 64 * 64) hx hb hr (fun t ht hW => ⟨⟨x - x / 64 * 64, (), rfl, (by unfold sm_fm; first | rw [if_pos c_7] | rw [if_neg c_7, if_pos c_11]), ⟨by rw [ht]; exact hP9, va_K.moved hW.alike hK, hD9⟩⟩, hS.F ht⟩) hS.2.2 dJ9_floorMod_7cf53_19
  ·
    refine lv_iload_n hx hb dJ9_floorMod_7cf53_10 rfl (lv_at hl 0 rfl) ?_
    refine lv_if_eq (tgt := 18) hx hb dJ9_floorMod_7cf53_11 (by decide) (fun c_11 => ?_) (fun c_11 => ?_)
    ·
      refine lv_iload_n hx hb dJ9_floorMod_7cf53_18 rfl (lv_at hl 0 rfl) ?_
      rw [hQ]
      have hP9 : va_P D vwCl [] s.heap := hP
      have hD9 : va_D A [] := hD
      exact W.iret (v := x - x / 64 * 64) hx hb hr (fun t ht hW => ⟨⟨x - x / 64 * 64, (), rfl, (by unfold sm_fm; first | rw [if_pos c_7] | rw [if_neg c_7, if_pos c_11]), ⟨by rw [ht]; exact hP9, va_K.moved hW.alike hK, hD9⟩⟩, hS.F ht⟩) hS.2.2 dJ9_floorMod_7cf53_19
    ·
      refine lv_iload_n hx hb dJ9_floorMod_7cf53_14 rfl (lv_at hl 0 rfl) ?_
      refine lv_iload_n hx hb dJ9_floorMod_7cf53_15 rfl (lv_at hl 2 rfl) ?_
      refine lv_iadd hx hb dJ9_floorMod_7cf53_16 ?_
      rw [hQ]
      have hP9 : va_P D vwCl [] s.heap := hP
      have hD9 : va_D A [] := hD
      exact W.iret (v := (x - x / 64 * 64) + 64) hx hb hr (fun t ht hW => ⟨⟨(x - x / 64 * 64) + 64, (), rfl, (by unfold sm_fm; rw [if_neg c_7, if_neg c_11]), ⟨by rw [ht]; exact hP9, va_K.moved hW.alike hK, hD9⟩⟩, hS.F ht⟩) hS.2.2 dJ9_floorMod_7cf53_17

def rm_X0_highSum : Room := ({ frames := 1, cells := 0, slots := 0, locals := 21 } : Room)
set_option maxHeartbeats 4000000 in
set_option maxRecDepth 100000 in
/-- Hasher.highSum -/
theorem sc_X0_highSum (l : Launch) (D : va_G) (cI : ClassId) (th : Option (Nat × Nat)) (sz : Nat) (x y z v : Int32)  : Met l yX0_highSum wsX0_highSum rm_X0_highSum (va_Pc [.int x, .int y, .int z, .int v] (sm_PW D cI th [] sz)) (va_Qi (fun (r : Int32) (_ : Unit) => r = sm_S x y z v) (fun _ t => sm_QW D cI (va_A [] sz) [] t) (va_A [] sz)) 0 0 (va_A [] sz) := by
  refine Met.ofW (cc := cX0_highSum) (maxL := 4) (ret := (some .int)) (by decide) rfl ?_
  intro p e s m args below meth c s₁ B hml hv
  obtain ⟨rfl, hsz, hP, hK, hD0, hT⟩ := hv
  have hx := B.exec
  have hb := B.bytes
  have hr := B.returns
  have hts := atoms_spec (ws := wsX0_highSum) B.pre
  have hown : s.vm.findClass RX0 = some m.cls := findClass_of_methodNamed B.named
  have hlocks := B.notSynchronized
  subst hsz
  have hD := hD0.self (sz := s.heap.size)
  generalize hAe : va_A [] s.heap.size = A at hD hT ⊢
  have hA : ∀ q : Nat, s.heap.size ≤ q → A q := fun q h => by rw [← hAe]; exact Or.inr h
  have hS : va_S A s.heap s.heap [] := va_S.rf
  have hl := lv_entry ([.int x, .int y, .int z, .int v]) (n := 4) (Nat.le_of_ble_eq_true rfl)
  rw [lg_entry_eq]
  generalize (lg_sl ([.int x, .int y, .int z, .int v]) ++ List.replicate (4 - (lg_sl ([.int x, .int y, .int z, .int v])).length) Slot.unset).toArray = ls at hl ⊢
  have hl : lv_has ls 4 [(0, .int x), (1, .int y), (2, .int z), (3, .int v)] := hl
  refine sm_name (fun Q hQ => ?_)
  refine lv_iload_n hx hb dX0_highSum_0 rfl (lv_at hl 0 rfl) ?_
  refine lv_iload_n hx hb dX0_highSum_1 rfl (lv_at hl 1 rfl) ?_
  refine sm_callSi (wc := []) (wr := []) (As := [.int x, .int y]) (rest := []) ⟨hx, hb, hml, hown, hts⟩ (sc_J6_rotateRight_7cf53 l D cI th _ x y ) (va_cwS 2 hts gX0_highSum_J6_rotateRight_7cf53 rfl rfl rfl (by decide +kernel) ⟨Nat.le_of_ble_eq_true rfl, Nat.le_of_ble_eq_true rfl⟩) hP hD hS hA hK hT [] [] rfl rfl rfl rfl (by decide) rfl hl.1 rfl (Nat.le_of_ble_eq_true rfl) dX0_highSum_2 ⟨Nat.zero_le _, Nat.zero_le _⟩ (fun r_2 zt H1 locs ht hvm hw hB hJ hS => ?_)
  obtain ⟨hP1, -, hD1⟩ := hB
  rw [ht] at hP1
  obtain ⟨hP, hD⟩ := hJ _ hP1 hD1
  clear hJ
  generalize H1 = H at hP hS ⊢
  have hP : va_P D vwCl [] H := hP.sub [] rfl
  have hD : va_D A [] := hD.sub [] rfl rfl
  rw [hw]
  refine lv_iload_n hx hb dX0_highSum_5 rfl (lv_at hl 0 rfl) ?_
  refine lv_iload_n hx hb dX0_highSum_6 rfl (lv_at hl 2 rfl) ?_
  refine sm_callSi (wc := []) (wr := []) (As := [.int x, .int z]) (rest := [.int (sm_rr x y)]) ⟨hx, hb, hml, hown, hts⟩ (sc_J6_rotateRight_7cf53 l D cI th _ x z ) (va_cwS 2 hts gX0_highSum_J6_rotateRight_7cf53 rfl rfl rfl (by decide +kernel) ⟨Nat.le_of_ble_eq_true rfl, Nat.le_of_ble_eq_true rfl⟩) hP hD hS hA hK hT [] [] rfl rfl rfl rfl (by decide) rfl hl.1 rfl (Nat.le_of_ble_eq_true rfl) dX0_highSum_7 ⟨Nat.zero_le _, Nat.zero_le _⟩ (fun r_7 zt H1 locs ht hvm hw hB hJ hS => ?_)
  obtain ⟨hP1, -, hD1⟩ := hB
  rw [ht] at hP1
  obtain ⟨hP, hD⟩ := hJ _ hP1 hD1
  clear hJ
  generalize H1 = H at hP hS ⊢
  have hP : va_P D vwCl [] H := hP.sub [] rfl
  have hD : va_D A [] := hD.sub [] rfl rfl
  rw [hw]
  refine lv_ixor hx hb dX0_highSum_10 ?_
  refine lv_iload_n hx hb dX0_highSum_11 rfl (lv_at hl 0 rfl) ?_
  refine lv_iload_n hx hb dX0_highSum_12 rfl (lv_at hl 3 rfl) ?_
  refine sm_callSi (wc := []) (wr := []) (As := [.int x, .int v]) (rest := [.int ((sm_rr x y) ^^^ (sm_rr x z))]) ⟨hx, hb, hml, hown, hts⟩ (sc_J6_rotateRight_7cf53 l D cI th _ x v ) (va_cwS 2 hts gX0_highSum_J6_rotateRight_7cf53 rfl rfl rfl (by decide +kernel) ⟨Nat.le_of_ble_eq_true rfl, Nat.le_of_ble_eq_true rfl⟩) hP hD hS hA hK hT [] [] rfl rfl rfl rfl (by decide) rfl hl.1 rfl (Nat.le_of_ble_eq_true rfl) dX0_highSum_13 ⟨Nat.zero_le _, Nat.zero_le _⟩ (fun r_13 zt H1 locs ht hvm hw hB hJ hS => ?_)
  obtain ⟨hP1, -, hD1⟩ := hB
  rw [ht] at hP1
  obtain ⟨hP, hD⟩ := hJ _ hP1 hD1
  clear hJ
  generalize H1 = H at hP hS ⊢
  have hP : va_P D vwCl [] H := hP.sub [] rfl
  have hD : va_D A [] := hD.sub [] rfl rfl
  rw [hw]
  refine lv_ixor hx hb dX0_highSum_16 ?_
  rw [hQ]
  have hP9 : va_P D vwCl [] H := hP
  have hD9 : va_D A [] := hD
  exact W.iret (v := ((sm_rr x y) ^^^ (sm_rr x z)) ^^^ (sm_rr x v)) hx hb hr (fun t ht hW => ⟨⟨((sm_rr x y) ^^^ (sm_rr x z)) ^^^ (sm_rr x v), (), rfl, rfl, ⟨by rw [ht]; exact hP9, va_K.moved hW.alike hK, hD9⟩⟩, hS.F ht⟩) hS.2.2 dX0_highSum_17

def rm_X0_pad : Room := ({ frames := 2, cells := 0, slots := 0, locals := 43 } : Room)
set_option maxHeartbeats 4000000 in
set_option maxRecDepth 100000 in
/-- Hasher.pad -/
theorem sc_X0_pad (l : Launch) (D : va_G) (cI : ClassId) (th : Option (Nat × Nat)) (sz : Nat) (hh hm bm aw ad : Nat) (n : Nat) (fm : Nat → Int32) (hn : 64 * sm_nb n ≤ 448) : Met l yX0_pad wsX0_pad rm_X0_pad (va_Pc [.ref hh] (sm_PW D cI th [(hh, .inr (0, [.ref hm, .ref aw, .ref ad])), (hm, .inr (2, [.ref bm, .int (nI n)])), (bm, .inl (cI, 448, .inl fm))] sz)) (va_Qv (fun (_ : Unit) => True) (fun _ t => ∃ (f2 : Nat → Int32), (∀ j, j < 64 * sm_nb n → f2 j = sm_pm fm n j) ∧ sm_QW D cI (va_A [(hh, .inr (0, [.ref hm, .ref aw, .ref ad])), (hm, .inr (2, [.ref bm, .int (nI n)])), (bm, .inl (cI, 448, .inl fm))] sz) [(hh, .inr (0, [.ref hm, .ref aw, .ref ad])), (hm, .inr (2, [.ref bm, .int (nI (64 * sm_nb n))])), (bm, .inl (cI, 448, .inl f2))] t) (va_A [(hh, .inr (0, [.ref hm, .ref aw, .ref ad])), (hm, .inr (2, [.ref bm, .int (nI n)])), (bm, .inl (cI, 448, .inl fm))] sz)) 0 0 (va_A [(hh, .inr (0, [.ref hm, .ref aw, .ref ad])), (hm, .inr (2, [.ref bm, .int (nI n)])), (bm, .inl (cI, 448, .inl fm))] sz) := by
  refine Met.ofW (cc := cX0_pad) (maxL := 4) (ret := none) (by decide) rfl ?_
  intro p e s m args below meth c s₁ B hml hv
  obtain ⟨rfl, hsz, hP, hK, hD0, hT⟩ := hv
  have hx := B.exec
  have hb := B.bytes
  have hr := B.returns
  have hts := atoms_spec (ws := wsX0_pad) B.pre
  have hown : s.vm.findClass RX0 = some m.cls := findClass_of_methodNamed B.named
  have hlocks := B.notSynchronized
  subst hsz
  have hD := hD0.self (sz := s.heap.size)
  generalize hAe : va_A [(hh, .inr (0, [.ref hm, .ref aw, .ref ad])), (hm, .inr (2, [.ref bm, .int (nI n)])), (bm, .inl (cI, 448, .inl fm))] s.heap.size = A at hD hT ⊢
  have hA : ∀ q : Nat, s.heap.size ≤ q → A q := fun q h => by rw [← hAe]; exact Or.inr h
  have hS : va_S A s.heap s.heap [] := va_S.rf
  have hl := lv_entry ([.ref hh]) (n := 4) (Nat.le_of_ble_eq_true rfl)
  rw [lg_entry_eq]
  generalize (lg_sl ([.ref hh]) ++ List.replicate (4 - (lg_sl ([.ref hh])).length) Slot.unset).toArray = ls at hl ⊢
  have hl : lv_has ls 4 [(0, .ref hh)] := hl
  refine sm_name (fun Q hQ => ?_)
  have hf_14 := hts (.fieldLink RX0 14 "SeedMill$Hasher" "message" "LSeedMill$Row;") (by decide +kernel)
  have hw_X0 : ∀ w ∈ wsX00, w ∈ wsX0_pad := by decide +kernel
  have hnb : 64 * sm_nb n = n + 1 + (64 * ((n + 1 + 7) / 64) + 56 - (n + 1)) + 8 := by unfold sm_nb; omega
  refine lv_aload_n hx hb dX0_pad_0 rfl (lv_at hl 0 rfl) ?_
  refine va_get (D := D) (ci := 0) (v := .ref hm) (C := RX0) (T := TX0) (N := 3) hx hb hts hw_X0 hown hK hP 0 rfl rfl 0 (by decide) hf_14 (fun _ h9 => h9) rfl dX0_pad_1 ?_
  refine sm_callVi (wc := [(hm, .inr (2, [.ref bm, .int (nI n)])), (bm, .inl (cI, 448, .inl fm))]) (wr := [(hh, .inr (0, [.ref hm, .ref aw, .ref ad]))]) (As := []) (rest := []) ⟨hx, hb, hml, hown, hts⟩ (sc_X2_size l D cI th _ hm bm 448 fm (nI n) ) (cwV 0 hts gX0_pad_X2_size rfl rfl rfl (by decide +kernel) ⟨Nat.le_of_ble_eq_true rfl, Nat.le_of_ble_eq_true rfl⟩) hP hD hS hA hK hT [1, 2] [0] rfl rfl rfl rfl (by decide) 0 2 rfl rfl rfl rfl hl.1 rfl (Nat.le_of_ble_eq_true rfl) dX0_pad_4 ⟨Nat.zero_le _, Nat.zero_le _⟩ (fun r_4 zt H1 locs ht hvm hw hB hJ hS => ?_)
  obtain ⟨hP1, -, hD1⟩ := hB
  rw [ht] at hP1
  obtain ⟨hP, hD⟩ := hJ _ hP1 hD1
  clear hJ
  generalize H1 = H at hP hS ⊢
  have hP : va_P D vwCl [(hh, .inr (0, [.ref hm, .ref aw, .ref ad])), (hm, .inr (2, [.ref bm, .int (nI n)])), (bm, .inl (cI, 448, .inl fm))] H := hP.sub [0, 1, 2] rfl
  have hD : va_D A [(hh, .inr (0, [.ref hm, .ref aw, .ref ad])), (hm, .inr (2, [.ref bm, .int (nI n)])), (bm, .inl (cI, 448, .inl fm))] := hD.sub [0, 1, 2] rfl rfl
  rw [hw]
  refine lv_bipush (v := 8) hx hb dX0_pad_7 (by decide) ?_
  refine lv_imul hx hb dX0_pad_9 ?_
  refine sm_top (z := nI (n * 8)) (pk_mul n 8) ?_
  refine lv_istore_n (lv' := [(1, .int (nI (n * 8))), (0, .ref hh)]) hx hb dX0_pad_10 rfl hl (by decide) rfl (fun ls hl => ?_)
  refine lv_aload_n hx hb dX0_pad_11 rfl (lv_at hl 1 rfl) ?_
  refine va_get (D := D) (ci := 0) (v := .ref hm) (C := RX0) (T := TX0) (N := 3) hx hb hts hw_X0 hown hK hP 0 rfl rfl 0 (by decide) hf_14 (fun _ h9 => h9) rfl dX0_pad_12 ?_
  refine lv_sipush (v := 128) hx hb dX0_pad_15 (by decide) ?_
  refine sm_callVv (wc := [(hm, .inr (2, [.ref bm, .int (nI n)])), (bm, .inl (cI, 448, .inl fm))]) (wr := [(hh, .inr (0, [.ref hm, .ref aw, .ref ad]))]) (As := [.int 128]) (rest := []) ⟨hx, hb, hml, hown, hts⟩ (sc_X2_put l D cI th _ hm bm 448 n fm 128 (by omega) (by decide)) (cwV 1 hts gX0_pad_X2_put rfl rfl rfl (by decide +kernel) ⟨Nat.le_of_ble_eq_true rfl, Nat.le_of_ble_eq_true rfl⟩) hP hD hS hA hK hT [1, 2] [0] rfl rfl rfl rfl (by decide) 0 2 rfl rfl rfl rfl hl.1 rfl (Nat.le_of_ble_eq_true rfl) dX0_pad_18 ⟨Nat.zero_le _, Nat.zero_le _⟩ (fun zt H1 locs ht hvm hB hJ hS => ?_)
  obtain ⟨hP1, -, hD1⟩ := hB
  rw [ht] at hP1
  obtain ⟨hP, hD⟩ := hJ _ hP1 hD1
  clear hJ
  generalize H1 = H at hP hS ⊢
  have hP : va_P D vwCl [(hh, .inr (0, [.ref hm, .ref aw, .ref ad])), (hm, .inr (2, [.ref bm, .int (nI (n + 1))])), (bm, .inl (cI, 448, .inl (upd fm n 128)))] H := hP.sub [0, 1, 2] rfl
  have hD : va_D A [(hh, .inr (0, [.ref hm, .ref aw, .ref ad])), (hm, .inr (2, [.ref bm, .int (nI (n + 1))])), (bm, .inl (cI, 448, .inl (upd fm n 128)))] := hD.sub [0, 1, 2] rfl rfl
  refine lv_bipush (v := 56) hx hb dX0_pad_21 (by decide) ?_
  refine lv_aload_n hx hb dX0_pad_23 rfl (lv_at hl 1 rfl) ?_
  refine va_get (D := D) (ci := 0) (v := .ref hm) (C := RX0) (T := TX0) (N := 3) hx hb hts hw_X0 hown hK hP 0 rfl rfl 0 (by decide) hf_14 (fun _ h9 => h9) rfl dX0_pad_24 ?_
  refine sm_callVi (wc := [(hm, .inr (2, [.ref bm, .int (nI (n + 1))])), (bm, .inl (cI, 448, .inl (upd fm n 128)))]) (wr := [(hh, .inr (0, [.ref hm, .ref aw, .ref ad]))]) (As := []) (rest := [.int 56]) ⟨hx, hb, hml, hown, hts⟩ (sc_X2_size l D cI th _ hm bm 448 (upd fm n 128) (nI (n + 1)) ) (cwV 0 hts gX0_pad_X2_size rfl rfl rfl (by decide +kernel) ⟨Nat.le_of_ble_eq_true rfl, Nat.le_of_ble_eq_true rfl⟩) hP hD hS hA hK hT [1, 2] [0] rfl rfl rfl rfl (by decide) 0 2 rfl rfl rfl rfl hl.1 rfl (Nat.le_of_ble_eq_true rfl) dX0_pad_27 ⟨Nat.zero_le _, Nat.zero_le _⟩ (fun r_27 zt H1 locs ht hvm hw hB hJ hS => ?_)
  obtain ⟨hP1, -, hD1⟩ := hB
  rw [ht] at hP1
  obtain ⟨hP, hD⟩ := hJ _ hP1 hD1
  clear hJ
  generalize H1 = H at hP hS ⊢
  have hP : va_P D vwCl [(hh, .inr (0, [.ref hm, .ref aw, .ref ad])), (hm, .inr (2, [.ref bm, .int (nI (n + 1))])), (bm, .inl (cI, 448, .inl (upd fm n 128)))] H := hP.sub [0, 1, 2] rfl
  have hD : va_D A [(hh, .inr (0, [.ref hm, .ref aw, .ref ad])), (hm, .inr (2, [.ref bm, .int (nI (n + 1))])), (bm, .inl (cI, 448, .inl (upd fm n 128)))] := hD.sub [0, 1, 2] rfl rfl
  rw [hw]
  refine lv_isub hx hb dX0_pad_30 ?_
  refine lv_bipush (v := 64) hx hb dX0_pad_31 (by decide) ?_
  refine sm_callSi (wc := []) (wr := [(hh, .inr (0, [.ref hm, .ref aw, .ref ad])), (hm, .inr (2, [.ref bm, .int (nI (n + 1))])), (bm, .inl (cI, 448, .inl (upd fm n 128)))]) (As := [.int (56 - (nI (n + 1))), .int 64]) (rest := []) ⟨hx, hb, hml, hown, hts⟩ (sc_J9_floorMod_7cf53 l D cI th _ (56 - (nI (n + 1))) ) (va_cwS 2 hts gX0_pad_J9_floorMod_7cf53 rfl rfl rfl (by decide +kernel) ⟨Nat.le_of_ble_eq_true rfl, Nat.le_of_ble_eq_true rfl⟩) hP hD hS hA hK hT [] [0, 1, 2] rfl rfl rfl rfl (by decide) rfl hl.1 rfl (Nat.le_of_ble_eq_true rfl) dX0_pad_33 ⟨Nat.zero_le _, Nat.zero_le _⟩ (fun r_33 zt H1 locs ht hvm hw hB hJ hS => ?_)
  obtain ⟨hP1, -, hD1⟩ := hB
  rw [ht] at hP1
  obtain ⟨hP, hD⟩ := hJ _ hP1 hD1
  clear hJ
  generalize H1 = H at hP hS ⊢
  have hP : va_P D vwCl [(hh, .inr (0, [.ref hm, .ref aw, .ref ad])), (hm, .inr (2, [.ref bm, .int (nI (n + 1))])), (bm, .inl (cI, 448, .inl (upd fm n 128)))] H := hP.sub [0, 1, 2] rfl
  have hD : va_D A [(hh, .inr (0, [.ref hm, .ref aw, .ref ad])), (hm, .inr (2, [.ref bm, .int (nI (n + 1))])), (bm, .inl (cI, 448, .inl (upd fm n 128)))] := hD.sub [0, 1, 2] rfl rfl
  rw [hw]
  refine sm_top (z := nI (64 * ((n + 1 + 7) / 64) + 56 - (n + 1))) (sm_fm_64 (n + 1) (by omega)) ?_
  obtain ⟨z, hz⟩ : ∃ z, z = (64 * ((n + 1 + 7) / 64) + 56 - (n + 1)) := ⟨_, rfl⟩
  rw [← hz]
  rw [← hz] at hnb
  refine lv_istore_n (lv' := [(2, .int (nI z)), (1, .int (nI (n * 8))), (0, .ref hh)]) hx hb dX0_pad_36 rfl hl (by decide) rfl (fun ls hl => ?_)
  refine lv_iconst (v := 0) hx hb dX0_pad_37 (by decide) ?_
  refine lv_istore_n (lv' := [(3, .int 0), (2, .int (nI z)), (1, .int (nI (n * 8))), (0, .ref hh)]) hx hb dX0_pad_38 rfl hl (by decide) rfl (fun ls hl => ?_)
  have lp39 : ∀ (zn : Nat) (i : Nat) (H : Heap) (locs : List Loc) (ls : Array Slot), z - i < zn → i ≤ z → va_P D vwCl [(hh, .inr (0, [.ref hm, .ref aw, .ref ad])), (hm, .inr (2, [.ref bm, .int (nI (n + 1 + i))])), (bm, .inl (cI, 448, .inl (sm_ap (upd fm n 128) (n + 1) (fun _ => 0) i)))] H → va_D A [(hh, .inr (0, [.ref hm, .ref aw, .ref ad])), (hm, .inr (2, [.ref bm, .int (nI (n + 1 + i))])), (bm, .inl (cI, 448, .inl (sm_ap (upd fm n 128) (n + 1) (fun _ => 0) i)))] → va_S A s.heap H locs → lv_has ls 4 [(3, .int (nI i)), (2, .int (nI z)), (0, .ref hh), (1, .int (nI (n * 8)))] → W p l e (headSpec wsX0_pad rm_X0_pad).room s m ([.ref hh] : List Value).toArray below meth c H locs 0 0 Q (F0 m 39 ls []) := by
    intro zn
    induction zn with
    | zero => intro i H locs ls hmu; exact absurd hmu (Nat.not_lt_zero _)
    | succ zn ih =>
      intro i H locs ls hmu hi_39 hP hD hS hl
      refine lv_iload_n hx hb dX0_pad_39 rfl (lv_at hl 0 rfl) ?_
      refine lv_iload_n hx hb dX0_pad_40 rfl (lv_at hl 1 rfl) ?_
      refine lv_icmp_ge (tgt := 58) hx hb dX0_pad_41 (by decide) (fun c_41 => ?_) (fun c_41 => ?_)
      ·
        have hex_39 : i = z := by
          rcases Nat.lt_or_ge i (z) with q | q
          · exact absurd c_41 (nI_ge q (by omega))
          · omega
        rw [hex_39] at hP hD
        have hP : va_P D vwCl [(hh, .inr (0, [.ref hm, .ref aw, .ref ad])), (hm, .inr (2, [.ref bm, .int (nI (n + 1 + z))])), (bm, .inl (cI, 448, .inl (sm_ap (upd fm n 128) (n + 1) (fun _ => 0) z)))] H := hP
        have hD : va_D A [(hh, .inr (0, [.ref hm, .ref aw, .ref ad])), (hm, .inr (2, [.ref bm, .int (nI (n + 1 + z))])), (bm, .inl (cI, 448, .inl (sm_ap (upd fm n 128) (n + 1) (fun _ => 0) z)))] := hD
        refine lv_aload_n hx hb dX0_pad_58 rfl (lv_at hl 2 rfl) ?_
        refine va_get (D := D) (ci := 0) (v := .ref hm) (C := RX0) (T := TX0) (N := 3) hx hb hts hw_X0 hown hK hP 0 rfl rfl 0 (by decide) hf_14 (fun _ h9 => h9) rfl dX0_pad_59 ?_
        refine lv_iconst (v := 0) hx hb dX0_pad_62 (by decide) ?_
        refine sm_callVv (wc := [(hm, .inr (2, [.ref bm, .int (nI (n + 1 + z))])), (bm, .inl (cI, 448, .inl (sm_ap (upd fm n 128) (n + 1) (fun _ => 0) z)))]) (wr := [(hh, .inr (0, [.ref hm, .ref aw, .ref ad]))]) (As := [.int 0]) (rest := []) ⟨hx, hb, hml, hown, hts⟩ (sc_X2_putWord l D cI th _ hm bm 448 (n + 1 + z) (sm_ap (upd fm n 128) (n + 1) (fun _ => 0) z) 0 (by omega) (by decide)) (cwV 1 hts gX0_pad_X2_putWord rfl rfl rfl (by decide +kernel) ⟨Nat.le_of_ble_eq_true rfl, Nat.le_of_ble_eq_true rfl⟩) hP hD hS hA hK hT [1, 2] [0] rfl rfl rfl rfl (by decide) 0 2 rfl rfl rfl rfl hl.1 rfl (Nat.le_of_ble_eq_true rfl) dX0_pad_63 ⟨Nat.zero_le _, Nat.zero_le _⟩ (fun zt H1 locs ht hvm hB hJ hS => ?_)
        obtain ⟨hP1, -, hD1⟩ := hB
        rw [ht] at hP1
        obtain ⟨hP, hD⟩ := hJ _ hP1 hD1
        clear hJ
        generalize H1 = H at hP hS ⊢
        have hP : va_P D vwCl [(hh, .inr (0, [.ref hm, .ref aw, .ref ad])), (hm, .inr (2, [.ref bm, .int (nI (n + 1 + z + 4))])), (bm, .inl (cI, 448, .inl (sm_ap (sm_ap (upd fm n 128) (n + 1) (fun _ => 0) z) (n + 1 + z) (sm_wb 0) 4)))] H := hP.sub [0, 1, 2] rfl
        have hD : va_D A [(hh, .inr (0, [.ref hm, .ref aw, .ref ad])), (hm, .inr (2, [.ref bm, .int (nI (n + 1 + z + 4))])), (bm, .inl (cI, 448, .inl (sm_ap (sm_ap (upd fm n 128) (n + 1) (fun _ => 0) z) (n + 1 + z) (sm_wb 0) 4)))] := hD.sub [0, 1, 2] rfl rfl
        refine lv_aload_n hx hb dX0_pad_66 rfl (lv_at hl 2 rfl) ?_
        refine va_get (D := D) (ci := 0) (v := .ref hm) (C := RX0) (T := TX0) (N := 3) hx hb hts hw_X0 hown hK hP 0 rfl rfl 0 (by decide) hf_14 (fun _ h9 => h9) rfl dX0_pad_67 ?_
        refine lv_iload_n hx hb dX0_pad_70 rfl (lv_at hl 3 rfl) ?_
        refine sm_callVv (wc := [(hm, .inr (2, [.ref bm, .int (nI (n + 1 + z + 4))])), (bm, .inl (cI, 448, .inl (sm_ap (sm_ap (upd fm n 128) (n + 1) (fun _ => 0) z) (n + 1 + z) (sm_wb 0) 4)))]) (wr := [(hh, .inr (0, [.ref hm, .ref aw, .ref ad]))]) (As := [.int (nI (n * 8))]) (rest := []) ⟨hx, hb, hml, hown, hts⟩ (sc_X2_putWord l D cI th _ hm bm 448 (n + 1 + z + 4) (sm_ap (sm_ap (upd fm n 128) (n + 1) (fun _ => 0) z) (n + 1 + z) (sm_wb 0) 4) (nI (n * 8)) (by omega) (by decide)) (cwV 1 hts gX0_pad_X2_putWord rfl rfl rfl (by decide +kernel) ⟨Nat.le_of_ble_eq_true rfl, Nat.le_of_ble_eq_true rfl⟩) hP hD hS hA hK hT [1, 2] [0] rfl rfl rfl rfl (by decide) 0 2 rfl rfl rfl rfl hl.1 rfl (Nat.le_of_ble_eq_true rfl) dX0_pad_71 ⟨Nat.zero_le _, Nat.zero_le _⟩ (fun zt H1 locs ht hvm hB hJ hS => ?_)
        obtain ⟨hP1, -, hD1⟩ := hB
        rw [ht] at hP1
        obtain ⟨hP, hD⟩ := hJ _ hP1 hD1
        clear hJ
        generalize H1 = H at hP hS ⊢
        have hP : va_P D vwCl [(hh, .inr (0, [.ref hm, .ref aw, .ref ad])), (hm, .inr (2, [.ref bm, .int (nI (n + 1 + z + 4 + 4))])), (bm, .inl (cI, 448, .inl (sm_ap (sm_ap (sm_ap (upd fm n 128) (n + 1) (fun _ => 0) z) (n + 1 + z) (sm_wb 0) 4) (n + 1 + z + 4) (sm_wb (nI (n * 8))) 4)))] H := hP.sub [0, 1, 2] rfl
        have hD : va_D A [(hh, .inr (0, [.ref hm, .ref aw, .ref ad])), (hm, .inr (2, [.ref bm, .int (nI (n + 1 + z + 4 + 4))])), (bm, .inl (cI, 448, .inl (sm_ap (sm_ap (sm_ap (upd fm n 128) (n + 1) (fun _ => 0) z) (n + 1 + z) (sm_wb 0) 4) (n + 1 + z + 4) (sm_wb (nI (n * 8))) 4)))] := hD.sub [0, 1, 2] rfl rfl
        rw [hQ]
        rw [show n + 1 + z + 4 + 4 = 64 * sm_nb n by omega] at hP hD
        have hP9 : va_P D vwCl [(hh, .inr (0, [.ref hm, .ref aw, .ref ad])), (hm, .inr (2, [.ref bm, .int (nI (64 * sm_nb n))])), (bm, .inl (cI, 448, .inl (sm_ap (sm_ap (sm_ap (upd fm n 128) (n + 1) (fun _ => 0) z) (n + 1 + z) (sm_wb 0) 4) (n + 1 + z + 4) (sm_wb (nI (n * 8))) 4)))] H := hP
        have hD9 : va_D A [(hh, .inr (0, [.ref hm, .ref aw, .ref ad])), (hm, .inr (2, [.ref bm, .int (nI (64 * sm_nb n))])), (bm, .inl (cI, 448, .inl (sm_ap (sm_ap (sm_ap (upd fm n 128) (n + 1) (fun _ => 0) z) (n + 1 + z) (sm_wb 0) 4) (n + 1 + z + 4) (sm_wb (nI (n * 8))) 4)))] := hD
        exact W.vret hx hb hr (fun t ht hW => ⟨⟨(), rfl, trivial, ⟨_, sm_pad fm n z hz, by rw [ht]; exact hP9, va_K.moved hW.alike hK, hD9⟩⟩, hS.F ht⟩) hS.2.2 dX0_pad_74
      ·
        have hlt_39 : i < z := by
          rcases Nat.lt_or_ge i (z) with q | q
          · exact q
          · exact absurd (nI_le q (by omega)) c_41
        refine lv_aload_n hx hb dX0_pad_44 rfl (lv_at hl 2 rfl) ?_
        refine va_get (D := D) (ci := 0) (v := .ref hm) (C := RX0) (T := TX0) (N := 3) hx hb hts hw_X0 hown hK hP 0 rfl rfl 0 (by decide) hf_14 (fun _ h9 => h9) rfl dX0_pad_45 ?_
        refine lv_iconst (v := 0) hx hb dX0_pad_48 (by decide) ?_
        refine sm_callVv (wc := [(hm, .inr (2, [.ref bm, .int (nI (n + 1 + i))])), (bm, .inl (cI, 448, .inl (sm_ap (upd fm n 128) (n + 1) (fun _ => 0) i)))]) (wr := [(hh, .inr (0, [.ref hm, .ref aw, .ref ad]))]) (As := [.int 0]) (rest := []) ⟨hx, hb, hml, hown, hts⟩ (sc_X2_put l D cI th _ hm bm 448 (n + 1 + i) (sm_ap (upd fm n 128) (n + 1) (fun _ => 0) i) 0 (by omega) (by decide)) (cwV 1 hts gX0_pad_X2_put rfl rfl rfl (by decide +kernel) ⟨Nat.le_of_ble_eq_true rfl, Nat.le_of_ble_eq_true rfl⟩) hP hD hS hA hK hT [1, 2] [0] rfl rfl rfl rfl (by decide) 0 2 rfl rfl rfl rfl hl.1 rfl (Nat.le_of_ble_eq_true rfl) dX0_pad_49 ⟨Nat.zero_le _, Nat.zero_le _⟩ (fun zt H1 locs ht hvm hB hJ hS => ?_)
        obtain ⟨hP1, -, hD1⟩ := hB
        rw [ht] at hP1
        obtain ⟨hP, hD⟩ := hJ _ hP1 hD1
        clear hJ
        generalize H1 = H at hP hS ⊢
        have hP : va_P D vwCl [(hh, .inr (0, [.ref hm, .ref aw, .ref ad])), (hm, .inr (2, [.ref bm, .int (nI (n + 1 + i + 1))])), (bm, .inl (cI, 448, .inl (upd (sm_ap (upd fm n 128) (n + 1) (fun _ => 0) i) (n + 1 + i) 0)))] H := hP.sub [0, 1, 2] rfl
        have hD : va_D A [(hh, .inr (0, [.ref hm, .ref aw, .ref ad])), (hm, .inr (2, [.ref bm, .int (nI (n + 1 + i + 1))])), (bm, .inl (cI, 448, .inl (upd (sm_ap (upd fm n 128) (n + 1) (fun _ => 0) i) (n + 1 + i) 0)))] := hD.sub [0, 1, 2] rfl rfl
        refine lv_iinc (v := nI (i + 1)) (lv' := [(3, .int (nI (i + 1))), (2, .int (nI z)), (0, .ref hh), (1, .int (nI (n * 8)))]) hx hb dX0_pad_52 hl (k := 0) rfl (nI_1 i) (by decide) rfl (fun ls hl => ?_)
        refine lv_goto (tgt := 39) hx hb dX0_pad_55 (by decide) ?_
        rw [show upd (sm_ap (upd fm n 128) (n + 1) (fun _ => 0) i) (n + 1 + i) 0 = _ from sm_ap_s (upd fm n 128) (n + 1) (fun _ => 0) i] at hP hD
        exact ih (i + 1) _ _ _ (by omega) (by omega) hP hD hS (lv_sub hl [0, 1, 2, 3] rfl)
  exact lp39 _ 0 _ _ _ (Nat.lt_succ_self _) (Nat.zero_le _) (by rw [sm_ap_0]; exact hP) (by rw [sm_ap_0]; exact hD) hS (lv_sub hl [0, 1, 3, 2] rfl)

def rm_X0_spread : Room := ({ frames := 2, cells := 0, slots := 0, locals := 42 } : Room)
set_option maxHeartbeats 4000000 in
set_option maxRecDepth 100000 in
/-- Hasher.spread -/
theorem sc_X0_spread (l : Launch) (D : va_G) (cI : ClassId) (th : Option (Nat × Nat)) (sz : Nat) (hh hm bm aw ad : Nat) (u a : Nat) (fm fw : Nat → Int32) (ha : a + 64 ≤ u) (hu : u ≤ 448) : Met l yX0_spread wsX0_spread rm_X0_spread (va_Pc [.ref hh, .int (nI a)] (sm_PW D cI th [(hh, .inr (0, [.ref hm, .ref aw, .ref ad])), (hm, .inr (2, [.ref bm, .int (nI u)])), (bm, .inl (cI, 448, .inl fm)), (aw, .inl (cI, 64, .inl fw))] sz)) (va_Qv (fun (_ : Unit) => True) (fun _ t => sm_QW D cI (va_A [(hh, .inr (0, [.ref hm, .ref aw, .ref ad])), (hm, .inr (2, [.ref bm, .int (nI u)])), (bm, .inl (cI, 448, .inl fm)), (aw, .inl (cI, 64, .inl fw))] sz) [(hh, .inr (0, [.ref hm, .ref aw, .ref ad])), (hm, .inr (2, [.ref bm, .int (nI u)])), (bm, .inl (cI, 448, .inl fm)), (aw, .inl (cI, 64, .inl (sm_W fm a)))] t) (va_A [(hh, .inr (0, [.ref hm, .ref aw, .ref ad])), (hm, .inr (2, [.ref bm, .int (nI u)])), (bm, .inl (cI, 448, .inl fm)), (aw, .inl (cI, 64, .inl fw))] sz)) 0 0 (va_A [(hh, .inr (0, [.ref hm, .ref aw, .ref ad])), (hm, .inr (2, [.ref bm, .int (nI u)])), (bm, .inl (cI, 448, .inl fm)), (aw, .inl (cI, 64, .inl fw))] sz) := by
  refine Met.ofW (cc := cX0_spread) (maxL := 7) (ret := none) (by decide) rfl ?_
  intro p e s m args below meth c s₁ B hml hv
  obtain ⟨rfl, hsz, hP, hK, hD0, hT⟩ := hv
  have hx := B.exec
  have hb := B.bytes
  have hr := B.returns
  have hts := atoms_spec (ws := wsX0_spread) B.pre
  have hown : s.vm.findClass RX0 = some m.cls := findClass_of_methodNamed B.named
  have hlocks := B.notSynchronized
  subst hsz
  have hD := hD0.self (sz := s.heap.size)
  generalize hAe : va_A [(hh, .inr (0, [.ref hm, .ref aw, .ref ad])), (hm, .inr (2, [.ref bm, .int (nI u)])), (bm, .inl (cI, 448, .inl fm)), (aw, .inl (cI, 64, .inl fw))] s.heap.size = A at hD hT ⊢
  have hA : ∀ q : Nat, s.heap.size ≤ q → A q := fun q h => by rw [← hAe]; exact Or.inr h
  have hS : va_S A s.heap s.heap [] := va_S.rf
  have hl := lv_entry ([.ref hh, .int (nI a)]) (n := 7) (Nat.le_of_ble_eq_true rfl)
  rw [lg_entry_eq]
  generalize (lg_sl ([.ref hh, .int (nI a)]) ++ List.replicate (7 - (lg_sl ([.ref hh, .int (nI a)])).length) Slot.unset).toArray = ls at hl ⊢
  have hl : lv_has ls 7 [(0, .ref hh), (1, .int (nI a))] := hl
  refine sm_name (fun Q hQ => ?_)
  have hf_20 := hts (.fieldLink RX0 20 "SeedMill$Hasher" "w" "[I") (by decide +kernel)
  have hw_X0 : ∀ w ∈ wsX00, w ∈ wsX0_spread := by decide +kernel
  have hf_14 := hts (.fieldLink RX0 14 "SeedMill$Hasher" "message" "LSeedMill$Row;") (by decide +kernel)
  refine lv_iconst (v := 0) hx hb dX0_spread_0 (by decide) ?_
  refine lv_istore_n (lv' := [(2, .int 0), (0, .ref hh), (1, .int (nI a))]) hx hb dX0_spread_1 rfl hl (by decide) rfl (fun ls hl => ?_)
  have lp2 : ∀ (zn : Nat) (t : Nat) (H : Heap) (locs : List Loc) (ls : Array Slot), 16 - t < zn → t ≤ 16 → va_P D vwCl [(hh, .inr (0, [.ref hm, .ref aw, .ref ad])), (hm, .inr (2, [.ref bm, .int (nI u)])), (bm, .inl (cI, 448, .inl fm)), (aw, .inl (cI, 64, .inl (sm_sc fm a fw t)))] H → va_D A [(hh, .inr (0, [.ref hm, .ref aw, .ref ad])), (hm, .inr (2, [.ref bm, .int (nI u)])), (bm, .inl (cI, 448, .inl fm)), (aw, .inl (cI, 64, .inl (sm_sc fm a fw t)))] → va_S A s.heap H locs → lv_has ls 7 [(2, .int (nI t)), (0, .ref hh), (1, .int (nI a))] → W p l e (headSpec wsX0_spread rm_X0_spread).room s m ([.ref hh, .int (nI a)] : List Value).toArray below meth c H locs 0 0 Q (F0 m 2 ls []) := by
    intro zn
    induction zn with
    | zero => intro t H locs ls hmu; exact absurd hmu (Nat.not_lt_zero _)
    | succ zn ih =>
      intro t H locs ls hmu hi_2 hP hD hS hl
      refine lv_iload_n hx hb dX0_spread_2 rfl (lv_at hl 0 rfl) ?_
      refine lv_bipush (v := 16) hx hb dX0_spread_3 (by decide) ?_
      refine lv_icmp_ge (tgt := 32) hx hb dX0_spread_5 (by decide) (fun c_5 => ?_) (fun c_5 => ?_)
      ·
        have hex_2 : t = 16 := by
          rcases Nat.lt_or_ge t (16) with q | q
          · exact absurd c_5 (nI_ge q (by decide))
          · omega
        refine lv_bipush (v := 16) hx hb dX0_spread_32 (by decide) ?_
        refine lv_istore_n (lv' := [(2, .int 16), (0, .ref hh), (1, .int (nI a))]) hx hb dX0_spread_34 rfl hl (by decide) rfl (fun ls hl => ?_)
        have lp35 : ∀ (zn : Nat) (v : Nat) (H : Heap) (locs : List Loc) (ls : Array Slot), 64 - v < zn → 16 ≤ v → v ≤ 64 → va_P D vwCl [(hh, .inr (0, [.ref hm, .ref aw, .ref ad])), (hm, .inr (2, [.ref bm, .int (nI u)])), (bm, .inl (cI, 448, .inl fm)), (aw, .inl (cI, 64, .inl (sm_sc fm a fw v)))] H → va_D A [(hh, .inr (0, [.ref hm, .ref aw, .ref ad])), (hm, .inr (2, [.ref bm, .int (nI u)])), (bm, .inl (cI, 448, .inl fm)), (aw, .inl (cI, 64, .inl (sm_sc fm a fw v)))] → va_S A s.heap H locs → lv_has ls 7 [(2, .int (nI v)), (0, .ref hh), (1, .int (nI a))] → W p l e (headSpec wsX0_spread rm_X0_spread).room s m ([.ref hh, .int (nI a)] : List Value).toArray below meth c H locs 0 0 Q (F0 m 35 ls []) := by
          intro zn
          induction zn with
          | zero => intro v H locs ls hmu; exact absurd hmu (Nat.not_lt_zero _)
          | succ zn ih =>
            intro v H locs ls hmu hv1 hv2 hP hD hS hl
            refine lv_iload_n hx hb dX0_spread_35 rfl (lv_at hl 0 rfl) ?_
            refine lv_bipush (v := 64) hx hb dX0_spread_36 (by decide) ?_
            refine lv_icmp_ge (tgt := 140) hx hb dX0_spread_38 (by decide) (fun c_38 => ?_) (fun c_38 => ?_)
            ·
              have hex : v = 64 := by
                rcases Nat.lt_or_ge v 64 with q | q
                · exact absurd c_38 (nI_ge q (by decide))
                · omega
              rw [hQ]
              rw [hex] at hP hD
              have hP := sm_arr hP 3 rfl (sm_W fm a) (sm_sc_congr (fun _ _ _ => rfl) 64)
              have hD := sm_arrD (y := .inl (cI, 64, .inl (sm_W fm a))) hD 3 rfl
              have hP9 : va_P D vwCl [(hh, .inr (0, [.ref hm, .ref aw, .ref ad])), (hm, .inr (2, [.ref bm, .int (nI u)])), (bm, .inl (cI, 448, .inl fm)), (aw, .inl (cI, 64, .inl (sm_W fm a)))] H := hP
              have hD9 : va_D A [(hh, .inr (0, [.ref hm, .ref aw, .ref ad])), (hm, .inr (2, [.ref bm, .int (nI u)])), (bm, .inl (cI, 448, .inl fm)), (aw, .inl (cI, 64, .inl (sm_W fm a)))] := hD
              exact W.vret hx hb hr (fun t ht hW => ⟨⟨(), rfl, trivial, ⟨by rw [ht]; exact hP9, va_K.moved hW.alike hK, hD9⟩⟩, hS.F ht⟩) hS.2.2 dX0_spread_140
            ·
              have hlt : v < 64 := by
                rcases Nat.lt_or_ge v 64 with q | q
                · exact q
                · exact absurd (nI_le q (by omega)) c_38
              refine lv_aload_n hx hb dX0_spread_41 rfl (lv_at hl 1 rfl) ?_
              refine va_get (D := D) (ci := 0) (v := .ref aw) (C := RX0) (T := TX0) (N := 3) hx hb hts hw_X0 hown hK hP 0 rfl rfl 1 (by decide) hf_20 (fun _ h9 => h9) rfl dX0_spread_42 ?_
              refine lv_iload_n hx hb dX0_spread_45 rfl (lv_at hl 0 rfl) ?_
              refine lv_bipush (v := 15) hx hb dX0_spread_46 (by decide) ?_
              refine lv_isub hx hb dX0_spread_48 ?_
              refine sm_top (z := nI (v - 15)) (pk_sub (a := v) (b := 15) (by omega)) ?_
              refine va_iald (i := nI (v - 15)) hx hb hK hP 3 0 rfl rfl (vp_in_nI (n := (v - 15)) (by omega) (by omega)) dX0_spread_49 ?_
              refine sm_top (z := (sm_sc fm a fw v) (v - 15)) (congrArg (sm_sc fm a fw v) (nI_clamp (n := (v - 15)) (by omega))) ?_
              refine lv_istore_n (lv' := [(3, .int ((sm_sc fm a fw v) (v - 15))), (2, .int (nI v)), (0, .ref hh), (1, .int (nI a))]) hx hb dX0_spread_50 rfl hl (by decide) rfl (fun ls hl => ?_)
              refine lv_aload_n hx hb dX0_spread_51 rfl (lv_at hl 2 rfl) ?_
              refine va_get (D := D) (ci := 0) (v := .ref aw) (C := RX0) (T := TX0) (N := 3) hx hb hts hw_X0 hown hK hP 0 rfl rfl 1 (by decide) hf_20 (fun _ h9 => h9) rfl dX0_spread_52 ?_
              refine lv_iload_n hx hb dX0_spread_55 rfl (lv_at hl 1 rfl) ?_
              refine lv_iconst (v := 2) hx hb dX0_spread_56 (by decide) ?_
              refine lv_isub hx hb dX0_spread_57 ?_
              refine sm_top (z := nI (v - 2)) (pk_sub (a := v) (b := 2) (by omega)) ?_
              refine va_iald (i := nI (v - 2)) hx hb hK hP 3 0 rfl rfl (vp_in_nI (n := (v - 2)) (by omega) (by omega)) dX0_spread_58 ?_
              refine sm_top (z := (sm_sc fm a fw v) (v - 2)) (congrArg (sm_sc fm a fw v) (nI_clamp (n := (v - 2)) (by omega))) ?_
              refine lv_istore (lv' := [(4, .int ((sm_sc fm a fw v) (v - 2))), (3, .int ((sm_sc fm a fw v) (v - 15))), (2, .int (nI v)), (0, .ref hh), (1, .int (nI a))]) hx hb dX0_spread_59 hl (by decide) rfl (fun ls hl => ?_)
              refine lv_iload_n hx hb dX0_spread_61 rfl (lv_at hl 1 rfl) ?_
              refine lv_bipush (v := 7) hx hb dX0_spread_62 (by decide) ?_
              refine sm_callSi (wc := []) (wr := [(hh, .inr (0, [.ref hm, .ref aw, .ref ad])), (hm, .inr (2, [.ref bm, .int (nI u)])), (bm, .inl (cI, 448, .inl fm)), (aw, .inl (cI, 64, .inl (sm_sc fm a fw v)))]) (As := [.int ((sm_sc fm a fw v) (v - 15)), .int 7]) (rest := []) ⟨hx, hb, hml, hown, hts⟩ (sc_J6_rotateRight_7cf53 l D cI th _ ((sm_sc fm a fw v) (v - 15)) 7 ) (va_cwS 2 hts gX0_spread_J6_rotateRight_7cf53 rfl rfl rfl (by decide +kernel) ⟨Nat.le_of_ble_eq_true rfl, Nat.le_of_ble_eq_true rfl⟩) hP hD hS hA hK hT [] [0, 1, 2, 3] rfl rfl rfl rfl (by decide) rfl hl.1 rfl (Nat.le_of_ble_eq_true rfl) dX0_spread_64 ⟨Nat.zero_le _, Nat.zero_le _⟩ (fun r_64 zt H1 locs ht hvm hw hB hJ hS => ?_)
              obtain ⟨hP1, -, hD1⟩ := hB
              rw [ht] at hP1
              obtain ⟨hP, hD⟩ := hJ _ hP1 hD1
              clear hJ
              generalize H1 = H at hP hS ⊢
              have hP : va_P D vwCl [(hh, .inr (0, [.ref hm, .ref aw, .ref ad])), (hm, .inr (2, [.ref bm, .int (nI u)])), (bm, .inl (cI, 448, .inl fm)), (aw, .inl (cI, 64, .inl (sm_sc fm a fw v)))] H := hP.sub [0, 1, 2, 3] rfl
              have hD : va_D A [(hh, .inr (0, [.ref hm, .ref aw, .ref ad])), (hm, .inr (2, [.ref bm, .int (nI u)])), (bm, .inl (cI, 448, .inl fm)), (aw, .inl (cI, 64, .inl (sm_sc fm a fw v)))] := hD.sub [0, 1, 2, 3] rfl rfl
              rw [hw]
              refine lv_iload_n hx hb dX0_spread_67 rfl (lv_at hl 1 rfl) ?_
              refine lv_bipush (v := 18) hx hb dX0_spread_68 (by decide) ?_
              refine sm_callSi (wc := []) (wr := [(hh, .inr (0, [.ref hm, .ref aw, .ref ad])), (hm, .inr (2, [.ref bm, .int (nI u)])), (bm, .inl (cI, 448, .inl fm)), (aw, .inl (cI, 64, .inl (sm_sc fm a fw v)))]) (As := [.int ((sm_sc fm a fw v) (v - 15)), .int 18]) (rest := [.int (sm_rr ((sm_sc fm a fw v) (v - 15)) 7)]) ⟨hx, hb, hml, hown, hts⟩ (sc_J6_rotateRight_7cf53 l D cI th _ ((sm_sc fm a fw v) (v - 15)) 18 ) (va_cwS 2 hts gX0_spread_J6_rotateRight_7cf53 rfl rfl rfl (by decide +kernel) ⟨Nat.le_of_ble_eq_true rfl, Nat.le_of_ble_eq_true rfl⟩) hP hD hS hA hK hT [] [0, 1, 2, 3] rfl rfl rfl rfl (by decide) rfl hl.1 rfl (Nat.le_of_ble_eq_true rfl) dX0_spread_70 ⟨Nat.zero_le _, Nat.zero_le _⟩ (fun r_70 zt H1 locs ht hvm hw hB hJ hS => ?_)
              obtain ⟨hP1, -, hD1⟩ := hB
              rw [ht] at hP1
              obtain ⟨hP, hD⟩ := hJ _ hP1 hD1
              clear hJ
              generalize H1 = H at hP hS ⊢
              have hP : va_P D vwCl [(hh, .inr (0, [.ref hm, .ref aw, .ref ad])), (hm, .inr (2, [.ref bm, .int (nI u)])), (bm, .inl (cI, 448, .inl fm)), (aw, .inl (cI, 64, .inl (sm_sc fm a fw v)))] H := hP.sub [0, 1, 2, 3] rfl
              have hD : va_D A [(hh, .inr (0, [.ref hm, .ref aw, .ref ad])), (hm, .inr (2, [.ref bm, .int (nI u)])), (bm, .inl (cI, 448, .inl fm)), (aw, .inl (cI, 64, .inl (sm_sc fm a fw v)))] := hD.sub [0, 1, 2, 3] rfl rfl
              rw [hw]
              refine lv_ixor hx hb dX0_spread_73 ?_
              refine lv_iload_n hx hb dX0_spread_74 rfl (lv_at hl 1 rfl) ?_
              refine lv_iconst (v := 3) hx hb dX0_spread_75 (by decide) ?_
              refine lv_iushr (v := sm_us ((sm_sc fm a fw v) (v - 15)) 3) hx hb dX0_spread_76 rfl ?_
              refine lv_ixor hx hb dX0_spread_77 ?_
              refine sm_top (z := sm_s0 (sm_sc fm a fw v (v - 15))) rfl ?_
              refine lv_istore (lv' := [(5, .int (sm_s0 (sm_sc fm a fw v (v - 15)))), (4, .int ((sm_sc fm a fw v) (v - 2))), (3, .int ((sm_sc fm a fw v) (v - 15))), (2, .int (nI v)), (0, .ref hh), (1, .int (nI a))]) hx hb dX0_spread_78 hl (by decide) rfl (fun ls hl => ?_)
              refine lv_iload hx hb dX0_spread_80 (lv_at hl 1 rfl) ?_
              refine lv_bipush (v := 17) hx hb dX0_spread_82 (by decide) ?_
              refine sm_callSi (wc := []) (wr := [(hh, .inr (0, [.ref hm, .ref aw, .ref ad])), (hm, .inr (2, [.ref bm, .int (nI u)])), (bm, .inl (cI, 448, .inl fm)), (aw, .inl (cI, 64, .inl (sm_sc fm a fw v)))]) (As := [.int ((sm_sc fm a fw v) (v - 2)), .int 17]) (rest := []) ⟨hx, hb, hml, hown, hts⟩ (sc_J6_rotateRight_7cf53 l D cI th _ ((sm_sc fm a fw v) (v - 2)) 17 ) (va_cwS 2 hts gX0_spread_J6_rotateRight_7cf53 rfl rfl rfl (by decide +kernel) ⟨Nat.le_of_ble_eq_true rfl, Nat.le_of_ble_eq_true rfl⟩) hP hD hS hA hK hT [] [0, 1, 2, 3] rfl rfl rfl rfl (by decide) rfl hl.1 rfl (Nat.le_of_ble_eq_true rfl) dX0_spread_84 ⟨Nat.zero_le _, Nat.zero_le _⟩ (fun r_84 zt H1 locs ht hvm hw hB hJ hS => ?_)
              obtain ⟨hP1, -, hD1⟩ := hB
              rw [ht] at hP1
              obtain ⟨hP, hD⟩ := hJ _ hP1 hD1
              clear hJ
              generalize H1 = H at hP hS ⊢
              have hP : va_P D vwCl [(hh, .inr (0, [.ref hm, .ref aw, .ref ad])), (hm, .inr (2, [.ref bm, .int (nI u)])), (bm, .inl (cI, 448, .inl fm)), (aw, .inl (cI, 64, .inl (sm_sc fm a fw v)))] H := hP.sub [0, 1, 2, 3] rfl
              have hD : va_D A [(hh, .inr (0, [.ref hm, .ref aw, .ref ad])), (hm, .inr (2, [.ref bm, .int (nI u)])), (bm, .inl (cI, 448, .inl fm)), (aw, .inl (cI, 64, .inl (sm_sc fm a fw v)))] := hD.sub [0, 1, 2, 3] rfl rfl
              rw [hw]
              refine lv_iload hx hb dX0_spread_87 (lv_at hl 1 rfl) ?_
              refine lv_bipush (v := 19) hx hb dX0_spread_89 (by decide) ?_
              refine sm_callSi (wc := []) (wr := [(hh, .inr (0, [.ref hm, .ref aw, .ref ad])), (hm, .inr (2, [.ref bm, .int (nI u)])), (bm, .inl (cI, 448, .inl fm)), (aw, .inl (cI, 64, .inl (sm_sc fm a fw v)))]) (As := [.int ((sm_sc fm a fw v) (v - 2)), .int 19]) (rest := [.int (sm_rr ((sm_sc fm a fw v) (v - 2)) 17)]) ⟨hx, hb, hml, hown, hts⟩ (sc_J6_rotateRight_7cf53 l D cI th _ ((sm_sc fm a fw v) (v - 2)) 19 ) (va_cwS 2 hts gX0_spread_J6_rotateRight_7cf53 rfl rfl rfl (by decide +kernel) ⟨Nat.le_of_ble_eq_true rfl, Nat.le_of_ble_eq_true rfl⟩) hP hD hS hA hK hT [] [0, 1, 2, 3] rfl rfl rfl rfl (by decide) rfl hl.1 rfl (Nat.le_of_ble_eq_true rfl) dX0_spread_91 ⟨Nat.zero_le _, Nat.zero_le _⟩ (fun r_91 zt H1 locs ht hvm hw hB hJ hS => ?_)
              obtain ⟨hP1, -, hD1⟩ := hB
              rw [ht] at hP1
              obtain ⟨hP, hD⟩ := hJ _ hP1 hD1
              clear hJ
              generalize H1 = H at hP hS ⊢
              have hP : va_P D vwCl [(hh, .inr (0, [.ref hm, .ref aw, .ref ad])), (hm, .inr (2, [.ref bm, .int (nI u)])), (bm, .inl (cI, 448, .inl fm)), (aw, .inl (cI, 64, .inl (sm_sc fm a fw v)))] H := hP.sub [0, 1, 2, 3] rfl
              have hD : va_D A [(hh, .inr (0, [.ref hm, .ref aw, .ref ad])), (hm, .inr (2, [.ref bm, .int (nI u)])), (bm, .inl (cI, 448, .inl fm)), (aw, .inl (cI, 64, .inl (sm_sc fm a fw v)))] := hD.sub [0, 1, 2, 3] rfl rfl
              rw [hw]
              refine lv_ixor hx hb dX0_spread_94 ?_
              refine lv_iload hx hb dX0_spread_95 (lv_at hl 1 rfl) ?_
              refine lv_bipush (v := 10) hx hb dX0_spread_97 (by decide) ?_
              refine lv_iushr (v := sm_us ((sm_sc fm a fw v) (v - 2)) 10) hx hb dX0_spread_99 rfl ?_
              refine lv_ixor hx hb dX0_spread_100 ?_
              refine sm_top (z := sm_s1 (sm_sc fm a fw v (v - 2))) rfl ?_
              refine lv_istore (lv' := [(6, .int (sm_s1 (sm_sc fm a fw v (v - 2)))), (5, .int (sm_s0 (sm_sc fm a fw v (v - 15)))), (4, .int ((sm_sc fm a fw v) (v - 2))), (3, .int ((sm_sc fm a fw v) (v - 15))), (2, .int (nI v)), (0, .ref hh), (1, .int (nI a))]) hx hb dX0_spread_101 hl (by decide) rfl (fun ls hl => ?_)
              refine lv_aload_n hx hb dX0_spread_103 rfl (lv_at hl 5 rfl) ?_
              refine va_get (D := D) (ci := 0) (v := .ref aw) (C := RX0) (T := TX0) (N := 3) hx hb hts hw_X0 hown hK hP 0 rfl rfl 1 (by decide) hf_20 (fun _ h9 => h9) rfl dX0_spread_104 ?_
              refine lv_iload_n hx hb dX0_spread_107 rfl (lv_at hl 4 rfl) ?_
              refine lv_aload_n hx hb dX0_spread_108 rfl (lv_at hl 5 rfl) ?_
              refine va_get (D := D) (ci := 0) (v := .ref aw) (C := RX0) (T := TX0) (N := 3) hx hb hts hw_X0 hown hK hP 0 rfl rfl 1 (by decide) hf_20 (fun _ h9 => h9) rfl dX0_spread_109 ?_
              refine lv_iload_n hx hb dX0_spread_112 rfl (lv_at hl 4 rfl) ?_
              refine lv_bipush (v := 16) hx hb dX0_spread_113 (by decide) ?_
              refine lv_isub hx hb dX0_spread_115 ?_
              refine sm_top (z := nI (v - 16)) (pk_sub (a := v) (b := 16) (by omega)) ?_
              refine va_iald (i := nI (v - 16)) hx hb hK hP 3 0 rfl rfl (vp_in_nI (n := (v - 16)) (by omega) (by omega)) dX0_spread_116 ?_
              refine sm_top (z := (sm_sc fm a fw v) (v - 16)) (congrArg (sm_sc fm a fw v) (nI_clamp (n := (v - 16)) (by omega))) ?_
              refine lv_iload hx hb dX0_spread_117 (lv_at hl 1 rfl) ?_
              refine lv_iadd hx hb dX0_spread_119 ?_
              refine lv_aload_n hx hb dX0_spread_120 rfl (lv_at hl 5 rfl) ?_
              refine va_get (D := D) (ci := 0) (v := .ref aw) (C := RX0) (T := TX0) (N := 3) hx hb hts hw_X0 hown hK hP 0 rfl rfl 1 (by decide) hf_20 (fun _ h9 => h9) rfl dX0_spread_121 ?_
              refine lv_iload_n hx hb dX0_spread_124 rfl (lv_at hl 4 rfl) ?_
              refine lv_bipush (v := 7) hx hb dX0_spread_125 (by decide) ?_
              refine lv_isub hx hb dX0_spread_127 ?_
              refine sm_top (z := nI (v - 7)) (pk_sub (a := v) (b := 7) (by omega)) ?_
              refine va_iald (i := nI (v - 7)) hx hb hK hP 3 0 rfl rfl (vp_in_nI (n := (v - 7)) (by omega) (by omega)) dX0_spread_128 ?_
              refine sm_top (z := (sm_sc fm a fw v) (v - 7)) (congrArg (sm_sc fm a fw v) (nI_clamp (n := (v - 7)) (by omega))) ?_
              refine lv_iadd hx hb dX0_spread_129 ?_
              refine lv_iload hx hb dX0_spread_130 (lv_at hl 0 rfl) ?_
              refine lv_iadd hx hb dX0_spread_132 ?_
              refine va_iast (i := nI v) (x := ((((sm_sc fm a fw v) (v - 16)) + (sm_s0 (sm_sc fm a fw v (v - 15)))) + ((sm_sc fm a fw v) (v - 7))) + (sm_s1 (sm_sc fm a fw v (v - 2)))) hx hb hK hP hD hS 3 0 rfl rfl (vp_in_nI (n := v) (by omega) (by omega)) dX0_spread_133 (fun H locs hP hD hS => ?_)
              rw [show Int32.toNatClampNeg (nI v) = v from nI_clamp (n := v) (by omega)] at hP hD
              have hP : va_P D vwCl [(hh, .inr (0, [.ref hm, .ref aw, .ref ad])), (hm, .inr (2, [.ref bm, .int (nI u)])), (bm, .inl (cI, 448, .inl fm)), (aw, .inl (cI, 64, .inl (upd (sm_sc fm a fw v) v (((((sm_sc fm a fw v) (v - 16)) + (sm_s0 (sm_sc fm a fw v (v - 15)))) + ((sm_sc fm a fw v) (v - 7))) + (sm_s1 (sm_sc fm a fw v (v - 2)))))))] H := hP
              have hD : va_D A [(hh, .inr (0, [.ref hm, .ref aw, .ref ad])), (hm, .inr (2, [.ref bm, .int (nI u)])), (bm, .inl (cI, 448, .inl fm)), (aw, .inl (cI, 64, .inl (upd (sm_sc fm a fw v) v (((((sm_sc fm a fw v) (v - 16)) + (sm_s0 (sm_sc fm a fw v (v - 15)))) + ((sm_sc fm a fw v) (v - 7))) + (sm_s1 (sm_sc fm a fw v (v - 2)))))))] := hD
              refine lv_iinc (v := nI (v + 1)) (lv' := [(2, .int (nI (v + 1))), (6, .int (sm_s1 (sm_sc fm a fw v (v - 2)))), (5, .int (sm_s0 (sm_sc fm a fw v (v - 15)))), (4, .int ((sm_sc fm a fw v) (v - 2))), (3, .int ((sm_sc fm a fw v) (v - 15))), (0, .ref hh), (1, .int (nI a))]) hx hb dX0_spread_134 hl (k := 4) rfl (nI_1 v) (by decide) rfl (fun ls hl => ?_)
              refine lv_goto (tgt := 35) hx hb dX0_spread_137 (by decide) ?_
              rw [show upd (sm_sc fm a fw v) v _ = _ from sm_sc_hi hv1] at hP hD
              exact ih (v + 1) _ _ _ (by omega) (by omega) (by omega) hP hD hS (lv_sub hl [0, 5, 6] rfl)
        exact lp35 _ 16 _ _ _ (Nat.lt_succ_self _) (by decide) (by decide) (by rw [hex_2] at hP; exact hP) (by rw [hex_2] at hD; exact hD) hS (lv_sub hl [0, 1, 2] rfl)
      ·
        have hlt_2 : t < 16 := by
          rcases Nat.lt_or_ge t (16) with q | q
          · exact q
          · exact absurd (nI_le q (by omega)) c_5
        refine lv_aload_n hx hb dX0_spread_8 rfl (lv_at hl 1 rfl) ?_
        refine va_get (D := D) (ci := 0) (v := .ref aw) (C := RX0) (T := TX0) (N := 3) hx hb hts hw_X0 hown hK hP 0 rfl rfl 1 (by decide) hf_20 (fun _ h9 => h9) rfl dX0_spread_9 ?_
        refine lv_iload_n hx hb dX0_spread_12 rfl (lv_at hl 0 rfl) ?_
        refine lv_aload_n hx hb dX0_spread_13 rfl (lv_at hl 1 rfl) ?_
        refine va_get (D := D) (ci := 0) (v := .ref hm) (C := RX0) (T := TX0) (N := 3) hx hb hts hw_X0 hown hK hP 0 rfl rfl 0 (by decide) hf_14 (fun _ h9 => h9) rfl dX0_spread_14 ?_
        refine lv_iload_n hx hb dX0_spread_17 rfl (lv_at hl 2 rfl) ?_
        refine lv_iconst (v := 4) hx hb dX0_spread_18 (by decide) ?_
        refine lv_iload_n hx hb dX0_spread_19 rfl (lv_at hl 0 rfl) ?_
        refine lv_imul hx hb dX0_spread_20 ?_
        refine lv_iadd hx hb dX0_spread_21 ?_
        refine sm_top (z := nI (a + 4 * t)) (by rw [show (4 : Int32) * nI t = nI (4 * t) from pk_mul 4 t, nI_add]) ?_
        refine sm_callVi (wc := [(hm, .inr (2, [.ref bm, .int (nI u)])), (bm, .inl (cI, 448, .inl fm))]) (wr := [(hh, .inr (0, [.ref hm, .ref aw, .ref ad])), (aw, .inl (cI, 64, .inl (sm_sc fm a fw t)))]) (As := [.int (nI (a + 4 * t))]) (rest := [.int (nI t), .ref aw]) ⟨hx, hb, hml, hown, hts⟩ (sc_X2_wordAt l D cI th _ hm bm 448 u (a + 4 * t) fm (by omega) hu (by decide)) (cwV 1 hts gX0_spread_X2_wordAt rfl rfl rfl (by decide +kernel) ⟨Nat.le_of_ble_eq_true rfl, Nat.le_of_ble_eq_true rfl⟩) hP hD hS hA hK hT [1, 2] [0, 3] rfl rfl rfl rfl (by decide) 0 2 rfl rfl rfl rfl hl.1 rfl (Nat.le_of_ble_eq_true rfl) dX0_spread_22 ⟨Nat.zero_le _, Nat.zero_le _⟩ (fun r_22 zt H1 locs ht hvm hw hB hJ hS => ?_)
        obtain ⟨hP1, -, hD1⟩ := hB
        rw [ht] at hP1
        obtain ⟨hP, hD⟩ := hJ _ hP1 hD1
        clear hJ
        generalize H1 = H at hP hS ⊢
        have hP : va_P D vwCl [(hh, .inr (0, [.ref hm, .ref aw, .ref ad])), (hm, .inr (2, [.ref bm, .int (nI u)])), (bm, .inl (cI, 448, .inl fm)), (aw, .inl (cI, 64, .inl (sm_sc fm a fw t)))] H := hP.sub [0, 2, 3, 1] rfl
        have hD : va_D A [(hh, .inr (0, [.ref hm, .ref aw, .ref ad])), (hm, .inr (2, [.ref bm, .int (nI u)])), (bm, .inl (cI, 448, .inl fm)), (aw, .inl (cI, 64, .inl (sm_sc fm a fw t)))] := hD.sub [0, 2, 3, 1] rfl rfl
        rw [hw]
        refine va_iast (i := nI t) (x := sm_wd fm (a + 4 * t)) hx hb hK hP hD hS 3 0 rfl rfl (vp_in_nI (n := t) (by omega) (by omega)) dX0_spread_25 (fun H locs hP hD hS => ?_)
        rw [show Int32.toNatClampNeg (nI t) = t from nI_clamp (n := t) (by omega)] at hP hD
        have hP : va_P D vwCl [(hh, .inr (0, [.ref hm, .ref aw, .ref ad])), (hm, .inr (2, [.ref bm, .int (nI u)])), (bm, .inl (cI, 448, .inl fm)), (aw, .inl (cI, 64, .inl (upd (sm_sc fm a fw t) t (sm_wd fm (a + 4 * t)))))] H := hP
        have hD : va_D A [(hh, .inr (0, [.ref hm, .ref aw, .ref ad])), (hm, .inr (2, [.ref bm, .int (nI u)])), (bm, .inl (cI, 448, .inl fm)), (aw, .inl (cI, 64, .inl (upd (sm_sc fm a fw t) t (sm_wd fm (a + 4 * t)))))] := hD
        refine lv_iinc (v := nI (t + 1)) (lv' := [(2, .int (nI (t + 1))), (0, .ref hh), (1, .int (nI a))]) hx hb dX0_spread_26 hl (k := 0) rfl (nI_1 t) (by decide) rfl (fun ls hl => ?_)
        refine lv_goto (tgt := 2) hx hb dX0_spread_29 (by decide) ?_
        rw [sm_sc_lo hlt_2] at hP hD
        exact ih (t + 1) _ _ _ (by omega) (by omega) hP hD hS (lv_sub hl [0, 1, 2] rfl)
  exact lp2 _ 0 _ _ _ (Nat.lt_succ_self _) (Nat.zero_le _) hP hD hS (lv_sub hl [0, 1, 2] rfl)

def rm_X0_mix : Room := ({ frames := 2, cells := 0, slots := 0, locals := 44 } : Room)
set_option maxHeartbeats 4000000 in
set_option maxRecDepth 100000 in
/-- Hasher.mix -/
theorem sc_X0_mix (l : Launch) (D : va_G) (cI : ClassId) (tk tf : Nat) (sz : Nat) (hh hm bm aw ad : Nat) (fw fd : Nat → Int32)  : Met l yX0_mix wsX0_mix rm_X0_mix (va_Pc [.ref hh] (sm_PW D cI (some (tk, tf)) [(hh, .inr (0, [.ref hm, .ref aw, .ref ad])), (aw, .inl (cI, 64, .inl fw)), (ad, .inl (cI, 8, .inl fd))] sz)) (va_Qv (fun (_ : Unit) => True) (fun _ t => sm_QW D cI (va_A [(hh, .inr (0, [.ref hm, .ref aw, .ref ad])), (aw, .inl (cI, 64, .inl fw)), (ad, .inl (cI, 8, .inl fd))] sz) [(hh, .inr (0, [.ref hm, .ref aw, .ref ad])), (aw, .inl (cI, 64, .inl fw)), (ad, .inl (cI, 8, .inl (sm_cp fw fd)))] t) (va_A [(hh, .inr (0, [.ref hm, .ref aw, .ref ad])), (aw, .inl (cI, 64, .inl fw)), (ad, .inl (cI, 8, .inl fd))] sz)) 0 0 (va_A [(hh, .inr (0, [.ref hm, .ref aw, .ref ad])), (aw, .inl (cI, 64, .inl fw)), (ad, .inl (cI, 8, .inl fd))] sz) := by
  refine Met.ofW (cc := cX0_mix) (maxL := 12) (ret := none) (by decide) rfl ?_
  intro p e s m args below meth c s₁ B hml hv
  obtain ⟨rfl, hsz, hP, hK, hD0, hT⟩ := hv
  have hx := B.exec
  have hb := B.bytes
  have hr := B.returns
  have hts := atoms_spec (ws := wsX0_mix) B.pre
  have hown : s.vm.findClass RX0 = some m.cls := findClass_of_methodNamed B.named
  have hlocks := B.notSynchronized
  subst hsz
  have hD := hD0.self (sz := s.heap.size)
  generalize hAe : va_A [(hh, .inr (0, [.ref hm, .ref aw, .ref ad])), (aw, .inl (cI, 64, .inl fw)), (ad, .inl (cI, 8, .inl fd))] s.heap.size = A at hD hT ⊢
  have hA : ∀ q : Nat, s.heap.size ≤ q → A q := fun q h => by rw [← hAe]; exact Or.inr h
  have hS : va_S A s.heap s.heap [] := va_S.rf
  have hl := lv_entry ([.ref hh]) (n := 12) (Nat.le_of_ble_eq_true rfl)
  rw [lg_entry_eq]
  generalize (lg_sl ([.ref hh]) ++ List.replicate (12 - (lg_sl ([.ref hh])).length) Slot.unset).toArray = ls at hl ⊢
  have hl : lv_has ls 12 [(0, .ref hh)] := hl
  refine sm_name (fun Q hQ => ?_)
  have hf_24 := hts (.fieldLink RX0 24 "SeedMill$Hasher" "words" "[I") (by decide +kernel)
  have hw_X0 : ∀ w ∈ wsX00, w ∈ wsX0_mix := by decide +kernel
  have hf_20 := hts (.fieldLink RX0 20 "SeedMill$Hasher" "w" "[I") (by decide +kernel)
  refine lv_aload_n hx hb dX0_mix_0 rfl (lv_at hl 0 rfl) ?_
  refine va_get (D := D) (ci := 0) (v := .ref ad) (C := RX0) (T := TX0) (N := 3) hx hb hts hw_X0 hown hK hP 0 rfl rfl 2 (by decide) hf_24 (fun _ h9 => h9) rfl dX0_mix_1 ?_
  refine lv_iconst (v := 0) hx hb dX0_mix_4 (by decide) ?_
  refine va_iald (i := 0) hx hb hK hP 2 0 rfl rfl (vp_in_nI (n := 0) (by decide) (by omega)) dX0_mix_5 ?_
  refine sm_top (z := fd 0) (congrArg fd (nI_clamp (n := 0) (by omega))) ?_
  refine lv_istore_n (lv' := [(1, .int (fd 0)), (0, .ref hh)]) hx hb dX0_mix_6 rfl hl (by decide) rfl (fun ls hl => ?_)
  refine lv_aload_n hx hb dX0_mix_7 rfl (lv_at hl 1 rfl) ?_
  refine va_get (D := D) (ci := 0) (v := .ref ad) (C := RX0) (T := TX0) (N := 3) hx hb hts hw_X0 hown hK hP 0 rfl rfl 2 (by decide) hf_24 (fun _ h9 => h9) rfl dX0_mix_8 ?_
  refine lv_iconst (v := 1) hx hb dX0_mix_11 (by decide) ?_
  refine va_iald (i := 1) hx hb hK hP 2 0 rfl rfl (vp_in_nI (n := 1) (by decide) (by omega)) dX0_mix_12 ?_
  refine sm_top (z := fd 1) (congrArg fd (nI_clamp (n := 1) (by omega))) ?_
  refine lv_istore_n (lv' := [(2, .int (fd 1)), (1, .int (fd 0)), (0, .ref hh)]) hx hb dX0_mix_13 rfl hl (by decide) rfl (fun ls hl => ?_)
  refine lv_aload_n hx hb dX0_mix_14 rfl (lv_at hl 2 rfl) ?_
  refine va_get (D := D) (ci := 0) (v := .ref ad) (C := RX0) (T := TX0) (N := 3) hx hb hts hw_X0 hown hK hP 0 rfl rfl 2 (by decide) hf_24 (fun _ h9 => h9) rfl dX0_mix_15 ?_
  refine lv_iconst (v := 2) hx hb dX0_mix_18 (by decide) ?_
  refine va_iald (i := 2) hx hb hK hP 2 0 rfl rfl (vp_in_nI (n := 2) (by decide) (by omega)) dX0_mix_19 ?_
  refine sm_top (z := fd 2) (congrArg fd (nI_clamp (n := 2) (by omega))) ?_
  refine lv_istore_n (lv' := [(3, .int (fd 2)), (2, .int (fd 1)), (1, .int (fd 0)), (0, .ref hh)]) hx hb dX0_mix_20 rfl hl (by decide) rfl (fun ls hl => ?_)
  refine lv_aload_n hx hb dX0_mix_21 rfl (lv_at hl 3 rfl) ?_
  refine va_get (D := D) (ci := 0) (v := .ref ad) (C := RX0) (T := TX0) (N := 3) hx hb hts hw_X0 hown hK hP 0 rfl rfl 2 (by decide) hf_24 (fun _ h9 => h9) rfl dX0_mix_22 ?_
  refine lv_iconst (v := 3) hx hb dX0_mix_25 (by decide) ?_
  refine va_iald (i := 3) hx hb hK hP 2 0 rfl rfl (vp_in_nI (n := 3) (by decide) (by omega)) dX0_mix_26 ?_
  refine sm_top (z := fd 3) (congrArg fd (nI_clamp (n := 3) (by omega))) ?_
  refine lv_istore (lv' := [(4, .int (fd 3)), (3, .int (fd 2)), (2, .int (fd 1)), (1, .int (fd 0)), (0, .ref hh)]) hx hb dX0_mix_27 hl (by decide) rfl (fun ls hl => ?_)
  refine lv_aload_n hx hb dX0_mix_29 rfl (lv_at hl 4 rfl) ?_
  refine va_get (D := D) (ci := 0) (v := .ref ad) (C := RX0) (T := TX0) (N := 3) hx hb hts hw_X0 hown hK hP 0 rfl rfl 2 (by decide) hf_24 (fun _ h9 => h9) rfl dX0_mix_30 ?_
  refine lv_iconst (v := 4) hx hb dX0_mix_33 (by decide) ?_
  refine va_iald (i := 4) hx hb hK hP 2 0 rfl rfl (vp_in_nI (n := 4) (by decide) (by omega)) dX0_mix_34 ?_
  refine sm_top (z := fd 4) (congrArg fd (nI_clamp (n := 4) (by omega))) ?_
  refine lv_istore (lv' := [(5, .int (fd 4)), (4, .int (fd 3)), (3, .int (fd 2)), (2, .int (fd 1)), (1, .int (fd 0)), (0, .ref hh)]) hx hb dX0_mix_35 hl (by decide) rfl (fun ls hl => ?_)
  refine lv_aload_n hx hb dX0_mix_37 rfl (lv_at hl 5 rfl) ?_
  refine va_get (D := D) (ci := 0) (v := .ref ad) (C := RX0) (T := TX0) (N := 3) hx hb hts hw_X0 hown hK hP 0 rfl rfl 2 (by decide) hf_24 (fun _ h9 => h9) rfl dX0_mix_38 ?_
  refine lv_iconst (v := 5) hx hb dX0_mix_41 (by decide) ?_
  refine va_iald (i := 5) hx hb hK hP 2 0 rfl rfl (vp_in_nI (n := 5) (by decide) (by omega)) dX0_mix_42 ?_
  refine sm_top (z := fd 5) (congrArg fd (nI_clamp (n := 5) (by omega))) ?_
  refine lv_istore (lv' := [(6, .int (fd 5)), (5, .int (fd 4)), (4, .int (fd 3)), (3, .int (fd 2)), (2, .int (fd 1)), (1, .int (fd 0)), (0, .ref hh)]) hx hb dX0_mix_43 hl (by decide) rfl (fun ls hl => ?_)
  refine lv_aload_n hx hb dX0_mix_45 rfl (lv_at hl 6 rfl) ?_
  refine va_get (D := D) (ci := 0) (v := .ref ad) (C := RX0) (T := TX0) (N := 3) hx hb hts hw_X0 hown hK hP 0 rfl rfl 2 (by decide) hf_24 (fun _ h9 => h9) rfl dX0_mix_46 ?_
  refine lv_bipush (v := 6) hx hb dX0_mix_49 (by decide) ?_
  refine va_iald (i := 6) hx hb hK hP 2 0 rfl rfl (vp_in_nI (n := 6) (by decide) (by omega)) dX0_mix_51 ?_
  refine sm_top (z := fd 6) (congrArg fd (nI_clamp (n := 6) (by omega))) ?_
  refine lv_istore (lv' := [(7, .int (fd 6)), (6, .int (fd 5)), (5, .int (fd 4)), (4, .int (fd 3)), (3, .int (fd 2)), (2, .int (fd 1)), (1, .int (fd 0)), (0, .ref hh)]) hx hb dX0_mix_52 hl (by decide) rfl (fun ls hl => ?_)
  refine lv_aload_n hx hb dX0_mix_54 rfl (lv_at hl 7 rfl) ?_
  refine va_get (D := D) (ci := 0) (v := .ref ad) (C := RX0) (T := TX0) (N := 3) hx hb hts hw_X0 hown hK hP 0 rfl rfl 2 (by decide) hf_24 (fun _ h9 => h9) rfl dX0_mix_55 ?_
  refine lv_bipush (v := 7) hx hb dX0_mix_58 (by decide) ?_
  refine va_iald (i := 7) hx hb hK hP 2 0 rfl rfl (vp_in_nI (n := 7) (by decide) (by omega)) dX0_mix_60 ?_
  refine sm_top (z := fd 7) (congrArg fd (nI_clamp (n := 7) (by omega))) ?_
  refine lv_istore (lv' := [(8, .int (fd 7)), (7, .int (fd 6)), (6, .int (fd 5)), (5, .int (fd 4)), (4, .int (fd 3)), (3, .int (fd 2)), (2, .int (fd 1)), (1, .int (fd 0)), (0, .ref hh)]) hx hb dX0_mix_61 hl (by decide) rfl (fun ls hl => ?_)
  refine lv_iconst (v := 0) hx hb dX0_mix_63 (by decide) ?_
  refine lv_istore (lv' := [(9, .int 0), (8, .int (fd 7)), (7, .int (fd 6)), (6, .int (fd 5)), (5, .int (fd 4)), (4, .int (fd 3)), (3, .int (fd 2)), (2, .int (fd 1)), (1, .int (fd 0)), (0, .ref hh)]) hx hb dX0_mix_64 hl (by decide) rfl (fun ls hl => ?_)
  have ex8 : (fd 0, fd 1, fd 2, fd 3, fd 4, fd 5, fd 6, fd 7) = sm_rds fw 0 (sm_i8 fd) := rfl
  have lp66 : ∀ (zn : Nat) (t : Nat) (x1 : Int32) (x2 : Int32) (x3 : Int32) (x4 : Int32) (x5 : Int32) (x6 : Int32) (x7 : Int32) (x8 : Int32) (H : Heap) (locs : List Loc) (ls : Array Slot), 64 - t < zn → t ≤ 64 → (x1, x2, x3, x4, x5, x6, x7, x8) = sm_rds fw t (sm_i8 fd) → va_P D vwCl [(hh, .inr (0, [.ref hm, .ref aw, .ref ad])), (aw, .inl (cI, 64, .inl fw)), (ad, .inl (cI, 8, .inl fd))] H → va_D A [(hh, .inr (0, [.ref hm, .ref aw, .ref ad])), (aw, .inl (cI, 64, .inl fw)), (ad, .inl (cI, 8, .inl fd))] → va_S A s.heap H locs → lv_has ls 12 [(9, .int (nI t)), (1, .int x1), (2, .int x2), (3, .int x3), (4, .int x4), (5, .int x5), (6, .int x6), (7, .int x7), (8, .int x8), (0, .ref hh)] → W p l e (headSpec wsX0_mix rm_X0_mix).room s m ([.ref hh] : List Value).toArray below meth c H locs 0 0 Q (F0 m 66 ls []) := by
    intro zn
    induction zn with
    | zero => intro t x1 x2 x3 x4 x5 x6 x7 x8 H locs ls hmu; exact absurd hmu (Nat.not_lt_zero _)
    | succ zn ih =>
      intro t x1 x2 x3 x4 x5 x6 x7 x8 H locs ls hmu ht1 hx8 hP hD hS hl
      refine lv_iload hx hb dX0_mix_66 (lv_at hl 0 rfl) ?_
      refine lv_bipush (v := 64) hx hb dX0_mix_68 (by decide) ?_
      refine lv_icmp_ge (tgt := 179) hx hb dX0_mix_70 (by decide) (fun c_70 => ?_) (fun c_70 => ?_)
      ·
        have hex : t = 64 := by
          rcases Nat.lt_or_ge t 64 with q | q
          · exact absurd c_70 (nI_ge q (by decide))
          · omega
        rw [hex] at hx8
        refine lv_aload_n hx hb dX0_mix_179 rfl (lv_at hl 9 rfl) ?_
        refine va_get (D := D) (ci := 0) (v := .ref ad) (C := RX0) (T := TX0) (N := 3) hx hb hts hw_X0 hown hK hP 0 rfl rfl 2 (by decide) hf_24 (fun _ h9 => h9) rfl dX0_mix_180 ?_
        refine lv_iconst (v := 0) hx hb dX0_mix_183 (by decide) ?_
        refine lv_dup2_11 hx hb dX0_mix_184 rfl rfl ?_
        refine va_iald (i := 0) hx hb hK hP 2 0 rfl rfl (vp_in_nI (n := 0) (by decide) (by omega)) dX0_mix_185 ?_
        refine sm_top (z := fd 0) (congrArg fd (nI_clamp (n := 0) (by omega))) ?_
        refine sm_top (z := fd 0) rfl ?_
        refine lv_iload_n hx hb dX0_mix_186 rfl (lv_at hl 1 rfl) ?_
        refine lv_iadd hx hb dX0_mix_187 ?_
        refine va_iast (i := 0) (x := (fd 0) + x1) hx hb hK hP hD hS 2 0 rfl rfl (vp_in_nI (n := 0) (by decide) (by omega)) dX0_mix_188 (fun H locs hP hD hS => ?_)
        rw [show Int32.toNatClampNeg 0 = 0 from nI_clamp (n := 0) (by omega)] at hP hD
        have hP : va_P D vwCl [(hh, .inr (0, [.ref hm, .ref aw, .ref ad])), (aw, .inl (cI, 64, .inl fw)), (ad, .inl (cI, 8, .inl (upd fd 0 ((fd 0) + x1))))] H := hP
        have hD : va_D A [(hh, .inr (0, [.ref hm, .ref aw, .ref ad])), (aw, .inl (cI, 64, .inl fw)), (ad, .inl (cI, 8, .inl (upd fd 0 ((fd 0) + x1))))] := hD
        refine lv_aload_n hx hb dX0_mix_189 rfl (lv_at hl 9 rfl) ?_
        refine va_get (D := D) (ci := 0) (v := .ref ad) (C := RX0) (T := TX0) (N := 3) hx hb hts hw_X0 hown hK hP 0 rfl rfl 2 (by decide) hf_24 (fun _ h9 => h9) rfl dX0_mix_190 ?_
        refine lv_iconst (v := 1) hx hb dX0_mix_193 (by decide) ?_
        refine lv_dup2_11 hx hb dX0_mix_194 rfl rfl ?_
        refine va_iald (i := 1) hx hb hK hP 2 0 rfl rfl (vp_in_nI (n := 1) (by decide) (by omega)) dX0_mix_195 ?_
        refine sm_top (z := (upd fd 0 ((fd 0) + x1)) 1) (congrArg (upd fd 0 ((fd 0) + x1)) (nI_clamp (n := 1) (by omega))) ?_
        refine sm_top (z := fd 1) rfl ?_
        refine lv_iload_n hx hb dX0_mix_196 rfl (lv_at hl 2 rfl) ?_
        refine lv_iadd hx hb dX0_mix_197 ?_
        refine va_iast (i := 1) (x := (fd 1) + x2) hx hb hK hP hD hS 2 0 rfl rfl (vp_in_nI (n := 1) (by decide) (by omega)) dX0_mix_198 (fun H locs hP hD hS => ?_)
        rw [show Int32.toNatClampNeg 1 = 1 from nI_clamp (n := 1) (by omega)] at hP hD
        have hP : va_P D vwCl [(hh, .inr (0, [.ref hm, .ref aw, .ref ad])), (aw, .inl (cI, 64, .inl fw)), (ad, .inl (cI, 8, .inl (upd (upd fd 0 ((fd 0) + x1)) 1 ((fd 1) + x2))))] H := hP
        have hD : va_D A [(hh, .inr (0, [.ref hm, .ref aw, .ref ad])), (aw, .inl (cI, 64, .inl fw)), (ad, .inl (cI, 8, .inl (upd (upd fd 0 ((fd 0) + x1)) 1 ((fd 1) + x2))))] := hD
        refine lv_aload_n hx hb dX0_mix_199 rfl (lv_at hl 9 rfl) ?_
        refine va_get (D := D) (ci := 0) (v := .ref ad) (C := RX0) (T := TX0) (N := 3) hx hb hts hw_X0 hown hK hP 0 rfl rfl 2 (by decide) hf_24 (fun _ h9 => h9) rfl dX0_mix_200 ?_
        refine lv_iconst (v := 2) hx hb dX0_mix_203 (by decide) ?_
        refine lv_dup2_11 hx hb dX0_mix_204 rfl rfl ?_
        refine va_iald (i := 2) hx hb hK hP 2 0 rfl rfl (vp_in_nI (n := 2) (by decide) (by omega)) dX0_mix_205 ?_
        refine sm_top (z := (upd (upd fd 0 ((fd 0) + x1)) 1 ((fd 1) + x2)) 2) (congrArg (upd (upd fd 0 ((fd 0) + x1)) 1 ((fd 1) + x2)) (nI_clamp (n := 2) (by omega))) ?_
        refine sm_top (z := fd 2) rfl ?_
        refine lv_iload_n hx hb dX0_mix_206 rfl (lv_at hl 3 rfl) ?_
        refine lv_iadd hx hb dX0_mix_207 ?_
        refine va_iast (i := 2) (x := (fd 2) + x3) hx hb hK hP hD hS 2 0 rfl rfl (vp_in_nI (n := 2) (by decide) (by omega)) dX0_mix_208 (fun H locs hP hD hS => ?_)
        rw [show Int32.toNatClampNeg 2 = 2 from nI_clamp (n := 2) (by omega)] at hP hD
        have hP : va_P D vwCl [(hh, .inr (0, [.ref hm, .ref aw, .ref ad])), (aw, .inl (cI, 64, .inl fw)), (ad, .inl (cI, 8, .inl (upd (upd (upd fd 0 ((fd 0) + x1)) 1 ((fd 1) + x2)) 2 ((fd 2) + x3))))] H := hP
        have hD : va_D A [(hh, .inr (0, [.ref hm, .ref aw, .ref ad])), (aw, .inl (cI, 64, .inl fw)), (ad, .inl (cI, 8, .inl (upd (upd (upd fd 0 ((fd 0) + x1)) 1 ((fd 1) + x2)) 2 ((fd 2) + x3))))] := hD
        refine lv_aload_n hx hb dX0_mix_209 rfl (lv_at hl 9 rfl) ?_
        refine va_get (D := D) (ci := 0) (v := .ref ad) (C := RX0) (T := TX0) (N := 3) hx hb hts hw_X0 hown hK hP 0 rfl rfl 2 (by decide) hf_24 (fun _ h9 => h9) rfl dX0_mix_210 ?_
        refine lv_iconst (v := 3) hx hb dX0_mix_213 (by decide) ?_
        refine lv_dup2_11 hx hb dX0_mix_214 rfl rfl ?_
        refine va_iald (i := 3) hx hb hK hP 2 0 rfl rfl (vp_in_nI (n := 3) (by decide) (by omega)) dX0_mix_215 ?_
        refine sm_top (z := (upd (upd (upd fd 0 ((fd 0) + x1)) 1 ((fd 1) + x2)) 2 ((fd 2) + x3)) 3) (congrArg (upd (upd (upd fd 0 ((fd 0) + x1)) 1 ((fd 1) + x2)) 2 ((fd 2) + x3)) (nI_clamp (n := 3) (by omega))) ?_
        refine sm_top (z := fd 3) rfl ?_
        refine lv_iload hx hb dX0_mix_216 (lv_at hl 4 rfl) ?_
        refine lv_iadd hx hb dX0_mix_218 ?_
        refine va_iast (i := 3) (x := (fd 3) + x4) hx hb hK hP hD hS 2 0 rfl rfl (vp_in_nI (n := 3) (by decide) (by omega)) dX0_mix_219 (fun H locs hP hD hS => ?_)
        rw [show Int32.toNatClampNeg 3 = 3 from nI_clamp (n := 3) (by omega)] at hP hD
        have hP : va_P D vwCl [(hh, .inr (0, [.ref hm, .ref aw, .ref ad])), (aw, .inl (cI, 64, .inl fw)), (ad, .inl (cI, 8, .inl (upd (upd (upd (upd fd 0 ((fd 0) + x1)) 1 ((fd 1) + x2)) 2 ((fd 2) + x3)) 3 ((fd 3) + x4))))] H := hP
        have hD : va_D A [(hh, .inr (0, [.ref hm, .ref aw, .ref ad])), (aw, .inl (cI, 64, .inl fw)), (ad, .inl (cI, 8, .inl (upd (upd (upd (upd fd 0 ((fd 0) + x1)) 1 ((fd 1) + x2)) 2 ((fd 2) + x3)) 3 ((fd 3) + x4))))] := hD
        refine lv_aload_n hx hb dX0_mix_220 rfl (lv_at hl 9 rfl) ?_
        refine va_get (D := D) (ci := 0) (v := .ref ad) (C := RX0) (T := TX0) (N := 3) hx hb hts hw_X0 hown hK hP 0 rfl rfl 2 (by decide) hf_24 (fun _ h9 => h9) rfl dX0_mix_221 ?_
        refine lv_iconst (v := 4) hx hb dX0_mix_224 (by decide) ?_
        refine lv_dup2_11 hx hb dX0_mix_225 rfl rfl ?_
        refine va_iald (i := 4) hx hb hK hP 2 0 rfl rfl (vp_in_nI (n := 4) (by decide) (by omega)) dX0_mix_226 ?_
        refine sm_top (z := (upd (upd (upd (upd fd 0 ((fd 0) + x1)) 1 ((fd 1) + x2)) 2 ((fd 2) + x3)) 3 ((fd 3) + x4)) 4) (congrArg (upd (upd (upd (upd fd 0 ((fd 0) + x1)) 1 ((fd 1) + x2)) 2 ((fd 2) + x3)) 3 ((fd 3) + x4)) (nI_clamp (n := 4) (by omega))) ?_
        refine sm_top (z := fd 4) rfl ?_
        refine lv_iload hx hb dX0_mix_227 (lv_at hl 5 rfl) ?_
        refine lv_iadd hx hb dX0_mix_229 ?_
        refine va_iast (i := 4) (x := (fd 4) + x5) hx hb hK hP hD hS 2 0 rfl rfl (vp_in_nI (n := 4) (by decide) (by omega)) dX0_mix_230 (fun H locs hP hD hS => ?_)
        rw [show Int32.toNatClampNeg 4 = 4 from nI_clamp (n := 4) (by omega)] at hP hD
        have hP : va_P D vwCl [(hh, .inr (0, [.ref hm, .ref aw, .ref ad])), (aw, .inl (cI, 64, .inl fw)), (ad, .inl (cI, 8, .inl (upd (upd (upd (upd (upd fd 0 ((fd 0) + x1)) 1 ((fd 1) + x2)) 2 ((fd 2) + x3)) 3 ((fd 3) + x4)) 4 ((fd 4) + x5))))] H := hP
        have hD : va_D A [(hh, .inr (0, [.ref hm, .ref aw, .ref ad])), (aw, .inl (cI, 64, .inl fw)), (ad, .inl (cI, 8, .inl (upd (upd (upd (upd (upd fd 0 ((fd 0) + x1)) 1 ((fd 1) + x2)) 2 ((fd 2) + x3)) 3 ((fd 3) + x4)) 4 ((fd 4) + x5))))] := hD
        refine lv_aload_n hx hb dX0_mix_231 rfl (lv_at hl 9 rfl) ?_
        refine va_get (D := D) (ci := 0) (v := .ref ad) (C := RX0) (T := TX0) (N := 3) hx hb hts hw_X0 hown hK hP 0 rfl rfl 2 (by decide) hf_24 (fun _ h9 => h9) rfl dX0_mix_232 ?_
        refine lv_iconst (v := 5) hx hb dX0_mix_235 (by decide) ?_
        refine lv_dup2_11 hx hb dX0_mix_236 rfl rfl ?_
        refine va_iald (i := 5) hx hb hK hP 2 0 rfl rfl (vp_in_nI (n := 5) (by decide) (by omega)) dX0_mix_237 ?_
        refine sm_top (z := (upd (upd (upd (upd (upd fd 0 ((fd 0) + x1)) 1 ((fd 1) + x2)) 2 ((fd 2) + x3)) 3 ((fd 3) + x4)) 4 ((fd 4) + x5)) 5) (congrArg (upd (upd (upd (upd (upd fd 0 ((fd 0) + x1)) 1 ((fd 1) + x2)) 2 ((fd 2) + x3)) 3 ((fd 3) + x4)) 4 ((fd 4) + x5)) (nI_clamp (n := 5) (by omega))) ?_
        refine sm_top (z := fd 5) rfl ?_
        refine lv_iload hx hb dX0_mix_238 (lv_at hl 6 rfl) ?_
        refine lv_iadd hx hb dX0_mix_240 ?_
        refine va_iast (i := 5) (x := (fd 5) + x6) hx hb hK hP hD hS 2 0 rfl rfl (vp_in_nI (n := 5) (by decide) (by omega)) dX0_mix_241 (fun H locs hP hD hS => ?_)
        rw [show Int32.toNatClampNeg 5 = 5 from nI_clamp (n := 5) (by omega)] at hP hD
        have hP : va_P D vwCl [(hh, .inr (0, [.ref hm, .ref aw, .ref ad])), (aw, .inl (cI, 64, .inl fw)), (ad, .inl (cI, 8, .inl (upd (upd (upd (upd (upd (upd fd 0 ((fd 0) + x1)) 1 ((fd 1) + x2)) 2 ((fd 2) + x3)) 3 ((fd 3) + x4)) 4 ((fd 4) + x5)) 5 ((fd 5) + x6))))] H := hP
        have hD : va_D A [(hh, .inr (0, [.ref hm, .ref aw, .ref ad])), (aw, .inl (cI, 64, .inl fw)), (ad, .inl (cI, 8, .inl (upd (upd (upd (upd (upd (upd fd 0 ((fd 0) + x1)) 1 ((fd 1) + x2)) 2 ((fd 2) + x3)) 3 ((fd 3) + x4)) 4 ((fd 4) + x5)) 5 ((fd 5) + x6))))] := hD
        refine lv_aload_n hx hb dX0_mix_242 rfl (lv_at hl 9 rfl) ?_
        refine va_get (D := D) (ci := 0) (v := .ref ad) (C := RX0) (T := TX0) (N := 3) hx hb hts hw_X0 hown hK hP 0 rfl rfl 2 (by decide) hf_24 (fun _ h9 => h9) rfl dX0_mix_243 ?_
        refine lv_bipush (v := 6) hx hb dX0_mix_246 (by decide) ?_
        refine lv_dup2_11 hx hb dX0_mix_248 rfl rfl ?_
        refine va_iald (i := 6) hx hb hK hP 2 0 rfl rfl (vp_in_nI (n := 6) (by decide) (by omega)) dX0_mix_249 ?_
        refine sm_top (z := (upd (upd (upd (upd (upd (upd fd 0 ((fd 0) + x1)) 1 ((fd 1) + x2)) 2 ((fd 2) + x3)) 3 ((fd 3) + x4)) 4 ((fd 4) + x5)) 5 ((fd 5) + x6)) 6) (congrArg (upd (upd (upd (upd (upd (upd fd 0 ((fd 0) + x1)) 1 ((fd 1) + x2)) 2 ((fd 2) + x3)) 3 ((fd 3) + x4)) 4 ((fd 4) + x5)) 5 ((fd 5) + x6)) (nI_clamp (n := 6) (by omega))) ?_
        refine sm_top (z := fd 6) rfl ?_
        refine lv_iload hx hb dX0_mix_250 (lv_at hl 7 rfl) ?_
        refine lv_iadd hx hb dX0_mix_252 ?_
        refine va_iast (i := 6) (x := (fd 6) + x7) hx hb hK hP hD hS 2 0 rfl rfl (vp_in_nI (n := 6) (by decide) (by omega)) dX0_mix_253 (fun H locs hP hD hS => ?_)
        rw [show Int32.toNatClampNeg 6 = 6 from nI_clamp (n := 6) (by omega)] at hP hD
        have hP : va_P D vwCl [(hh, .inr (0, [.ref hm, .ref aw, .ref ad])), (aw, .inl (cI, 64, .inl fw)), (ad, .inl (cI, 8, .inl (upd (upd (upd (upd (upd (upd (upd fd 0 ((fd 0) + x1)) 1 ((fd 1) + x2)) 2 ((fd 2) + x3)) 3 ((fd 3) + x4)) 4 ((fd 4) + x5)) 5 ((fd 5) + x6)) 6 ((fd 6) + x7))))] H := hP
        have hD : va_D A [(hh, .inr (0, [.ref hm, .ref aw, .ref ad])), (aw, .inl (cI, 64, .inl fw)), (ad, .inl (cI, 8, .inl (upd (upd (upd (upd (upd (upd (upd fd 0 ((fd 0) + x1)) 1 ((fd 1) + x2)) 2 ((fd 2) + x3)) 3 ((fd 3) + x4)) 4 ((fd 4) + x5)) 5 ((fd 5) + x6)) 6 ((fd 6) + x7))))] := hD
        refine lv_aload_n hx hb dX0_mix_254 rfl (lv_at hl 9 rfl) ?_
        refine va_get (D := D) (ci := 0) (v := .ref ad) (C := RX0) (T := TX0) (N := 3) hx hb hts hw_X0 hown hK hP 0 rfl rfl 2 (by decide) hf_24 (fun _ h9 => h9) rfl dX0_mix_255 ?_
        refine lv_bipush (v := 7) hx hb dX0_mix_258 (by decide) ?_
        refine lv_dup2_11 hx hb dX0_mix_260 rfl rfl ?_
        refine va_iald (i := 7) hx hb hK hP 2 0 rfl rfl (vp_in_nI (n := 7) (by decide) (by omega)) dX0_mix_261 ?_
        refine sm_top (z := (upd (upd (upd (upd (upd (upd (upd fd 0 ((fd 0) + x1)) 1 ((fd 1) + x2)) 2 ((fd 2) + x3)) 3 ((fd 3) + x4)) 4 ((fd 4) + x5)) 5 ((fd 5) + x6)) 6 ((fd 6) + x7)) 7) (congrArg (upd (upd (upd (upd (upd (upd (upd fd 0 ((fd 0) + x1)) 1 ((fd 1) + x2)) 2 ((fd 2) + x3)) 3 ((fd 3) + x4)) 4 ((fd 4) + x5)) 5 ((fd 5) + x6)) 6 ((fd 6) + x7)) (nI_clamp (n := 7) (by omega))) ?_
        refine sm_top (z := fd 7) rfl ?_
        refine lv_iload hx hb dX0_mix_262 (lv_at hl 8 rfl) ?_
        refine lv_iadd hx hb dX0_mix_264 ?_
        refine va_iast (i := 7) (x := (fd 7) + x8) hx hb hK hP hD hS 2 0 rfl rfl (vp_in_nI (n := 7) (by decide) (by omega)) dX0_mix_265 (fun H locs hP hD hS => ?_)
        rw [show Int32.toNatClampNeg 7 = 7 from nI_clamp (n := 7) (by omega)] at hP hD
        have hP : va_P D vwCl [(hh, .inr (0, [.ref hm, .ref aw, .ref ad])), (aw, .inl (cI, 64, .inl fw)), (ad, .inl (cI, 8, .inl (upd (upd (upd (upd (upd (upd (upd (upd fd 0 ((fd 0) + x1)) 1 ((fd 1) + x2)) 2 ((fd 2) + x3)) 3 ((fd 3) + x4)) 4 ((fd 4) + x5)) 5 ((fd 5) + x6)) 6 ((fd 6) + x7)) 7 ((fd 7) + x8))))] H := hP
        have hD : va_D A [(hh, .inr (0, [.ref hm, .ref aw, .ref ad])), (aw, .inl (cI, 64, .inl fw)), (ad, .inl (cI, 8, .inl (upd (upd (upd (upd (upd (upd (upd (upd fd 0 ((fd 0) + x1)) 1 ((fd 1) + x2)) 2 ((fd 2) + x3)) 3 ((fd 3) + x4)) 4 ((fd 4) + x5)) 5 ((fd 5) + x6)) 6 ((fd 6) + x7)) 7 ((fd 7) + x8))))] := hD
        rw [hQ]
        have hP := sm_arr hP 2 rfl (sm_cp fw fd) (sm_cp_8 hx8)
        have hD := sm_arrD (y := .inl (cI, 8, .inl (sm_cp fw fd))) hD 2 rfl
        have hP9 : va_P D vwCl [(hh, .inr (0, [.ref hm, .ref aw, .ref ad])), (aw, .inl (cI, 64, .inl fw)), (ad, .inl (cI, 8, .inl (sm_cp fw fd)))] H := hP
        have hD9 : va_D A [(hh, .inr (0, [.ref hm, .ref aw, .ref ad])), (aw, .inl (cI, 64, .inl fw)), (ad, .inl (cI, 8, .inl (sm_cp fw fd)))] := hD
        exact W.vret hx hb hr (fun t ht hW => ⟨⟨(), rfl, trivial, ⟨by rw [ht]; exact hP9, va_K.moved hW.alike hK, hD9⟩⟩, hS.F ht⟩) hS.2.2 dX0_mix_266
      ·
        have hlt : t < 64 := by
          rcases Nat.lt_or_ge t 64 with q | q
          · exact q
          · exact absurd (nI_le q (by omega)) c_70
        refine lv_iload hx hb dX0_mix_73 (lv_at hl 8 rfl) ?_
        refine lv_iload hx hb dX0_mix_75 (lv_at hl 5 rfl) ?_
        refine lv_bipush (v := 6) hx hb dX0_mix_77 (by decide) ?_
        refine lv_bipush (v := 11) hx hb dX0_mix_79 (by decide) ?_
        refine lv_bipush (v := 25) hx hb dX0_mix_81 (by decide) ?_
        refine sm_callSi (wc := []) (wr := [(hh, .inr (0, [.ref hm, .ref aw, .ref ad])), (aw, .inl (cI, 64, .inl fw)), (ad, .inl (cI, 8, .inl fd))]) (As := [.int x5, .int 6, .int 11, .int 25]) (rest := [.int x8]) ⟨hx, hb, hml, hown, hts⟩ (sc_X0_highSum l D cI (some (tk, tf)) _ x5 6 11 25 ) (va_cwS 4 hts gX0_mix_X0_highSum rfl rfl rfl (by decide +kernel) ⟨Nat.le_of_ble_eq_true rfl, Nat.le_of_ble_eq_true rfl⟩) hP hD hS hA hK hT [] [0, 1, 2] rfl rfl rfl rfl (by decide) rfl hl.1 rfl (Nat.le_of_ble_eq_true rfl) dX0_mix_83 ⟨Nat.zero_le _, Nat.zero_le _⟩ (fun r_83 zt H1 locs ht hvm hw hB hJ hS => ?_)
        obtain ⟨hP1, -, hD1⟩ := hB
        rw [ht] at hP1
        obtain ⟨hP, hD⟩ := hJ _ hP1 hD1
        clear hJ
        generalize H1 = H at hP hS ⊢
        have hP : va_P D vwCl [(hh, .inr (0, [.ref hm, .ref aw, .ref ad])), (aw, .inl (cI, 64, .inl fw)), (ad, .inl (cI, 8, .inl fd))] H := hP.sub [0, 1, 2] rfl
        have hD : va_D A [(hh, .inr (0, [.ref hm, .ref aw, .ref ad])), (aw, .inl (cI, 64, .inl fw)), (ad, .inl (cI, 8, .inl fd))] := hD.sub [0, 1, 2] rfl rfl
        rw [hw]
        refine lv_iadd hx hb dX0_mix_86 ?_
        refine lv_iload hx hb dX0_mix_87 (lv_at hl 5 rfl) ?_
        refine lv_iload hx hb dX0_mix_89 (lv_at hl 6 rfl) ?_
        refine lv_iand hx hb dX0_mix_91 ?_
        refine lv_iload hx hb dX0_mix_92 (lv_at hl 5 rfl) ?_
        refine lv_iconst (v := (-1)) hx hb dX0_mix_94 (by decide) ?_
        refine lv_ixor hx hb dX0_mix_95 ?_
        refine lv_iload hx hb dX0_mix_96 (lv_at hl 7 rfl) ?_
        refine lv_iand hx hb dX0_mix_98 ?_
        refine lv_ixor hx hb dX0_mix_99 ?_
        refine lv_iadd hx hb dX0_mix_100 ?_
        refine va_gets hx hb hT.1.1 hS hown (hts (.fieldLink RX0 84 "SeedMill$Hasher" "K" "[I") (by decide +kernel)) (fun _ h9 => h9) dX0_mix_101 ?_
        refine lv_iload hx hb dX0_mix_104 (lv_at hl 0 rfl) ?_
        refine va_ti hx hb hT.1.2 hS (vp_in_nI (n := t) hlt (by decide)) (v := .int (sm_K t)) (by rw [nI_clamp (by omega)]) dX0_mix_106 ?_
        refine lv_iadd hx hb dX0_mix_107 ?_
        refine lv_aload_n hx hb dX0_mix_108 rfl (lv_at hl 9 rfl) ?_
        refine va_get (D := D) (ci := 0) (v := .ref aw) (C := RX0) (T := TX0) (N := 3) hx hb hts hw_X0 hown hK hP 0 rfl rfl 1 (by decide) hf_20 (fun _ h9 => h9) rfl dX0_mix_109 ?_
        refine lv_iload hx hb dX0_mix_112 (lv_at hl 0 rfl) ?_
        refine va_iald (i := nI t) hx hb hK hP 1 0 rfl rfl (vp_in_nI (n := t) (by omega) (by omega)) dX0_mix_114 ?_
        refine sm_top (z := fw t) (congrArg fw (nI_clamp (n := t) (by omega))) ?_
        refine lv_iadd hx hb dX0_mix_115 ?_
        refine sm_top (z := sm_t1 x5 x6 x7 x8 (sm_K t) (fw t)) rfl ?_
        refine lv_istore (lv' := [(10, .int (sm_t1 x5 x6 x7 x8 (sm_K t) (fw t))), (9, .int (nI t)), (1, .int x1), (2, .int x2), (3, .int x3), (4, .int x4), (5, .int x5), (6, .int x6), (7, .int x7), (8, .int x8), (0, .ref hh)]) hx hb dX0_mix_116 hl (by decide) rfl (fun ls hl => ?_)
        refine lv_iload_n hx hb dX0_mix_118 rfl (lv_at hl 2 rfl) ?_
        refine lv_iconst (v := 2) hx hb dX0_mix_119 (by decide) ?_
        refine lv_bipush (v := 13) hx hb dX0_mix_120 (by decide) ?_
        refine lv_bipush (v := 22) hx hb dX0_mix_122 (by decide) ?_
        refine sm_callSi (wc := []) (wr := [(hh, .inr (0, [.ref hm, .ref aw, .ref ad])), (aw, .inl (cI, 64, .inl fw)), (ad, .inl (cI, 8, .inl fd))]) (As := [.int x1, .int 2, .int 13, .int 22]) (rest := []) ⟨hx, hb, hml, hown, hts⟩ (sc_X0_highSum l D cI (some (tk, tf)) _ x1 2 13 22 ) (va_cwS 4 hts gX0_mix_X0_highSum rfl rfl rfl (by decide +kernel) ⟨Nat.le_of_ble_eq_true rfl, Nat.le_of_ble_eq_true rfl⟩) hP hD hS hA hK hT [] [0, 1, 2] rfl rfl rfl rfl (by decide) rfl hl.1 rfl (Nat.le_of_ble_eq_true rfl) dX0_mix_124 ⟨Nat.zero_le _, Nat.zero_le _⟩ (fun r_124 zt H1 locs ht hvm hw hB hJ hS => ?_)
        obtain ⟨hP1, -, hD1⟩ := hB
        rw [ht] at hP1
        obtain ⟨hP, hD⟩ := hJ _ hP1 hD1
        clear hJ
        generalize H1 = H at hP hS ⊢
        have hP : va_P D vwCl [(hh, .inr (0, [.ref hm, .ref aw, .ref ad])), (aw, .inl (cI, 64, .inl fw)), (ad, .inl (cI, 8, .inl fd))] H := hP.sub [0, 1, 2] rfl
        have hD : va_D A [(hh, .inr (0, [.ref hm, .ref aw, .ref ad])), (aw, .inl (cI, 64, .inl fw)), (ad, .inl (cI, 8, .inl fd))] := hD.sub [0, 1, 2] rfl rfl
        rw [hw]
        refine lv_iload_n hx hb dX0_mix_127 rfl (lv_at hl 2 rfl) ?_
        refine lv_iload_n hx hb dX0_mix_128 rfl (lv_at hl 3 rfl) ?_
        refine lv_iand hx hb dX0_mix_129 ?_
        refine lv_iload_n hx hb dX0_mix_130 rfl (lv_at hl 2 rfl) ?_
        refine lv_iload_n hx hb dX0_mix_131 rfl (lv_at hl 4 rfl) ?_
        refine lv_iand hx hb dX0_mix_132 ?_
        refine lv_ixor hx hb dX0_mix_133 ?_
        refine lv_iload_n hx hb dX0_mix_134 rfl (lv_at hl 3 rfl) ?_
        refine lv_iload_n hx hb dX0_mix_135 rfl (lv_at hl 4 rfl) ?_
        refine lv_iand hx hb dX0_mix_136 ?_
        refine lv_ixor hx hb dX0_mix_137 ?_
        refine lv_iadd hx hb dX0_mix_138 ?_
        refine sm_top (z := sm_t2 x1 x2 x3) rfl ?_
        refine lv_istore (lv' := [(11, .int (sm_t2 x1 x2 x3)), (10, .int (sm_t1 x5 x6 x7 x8 (sm_K t) (fw t))), (9, .int (nI t)), (1, .int x1), (2, .int x2), (3, .int x3), (4, .int x4), (5, .int x5), (6, .int x6), (7, .int x7), (8, .int x8), (0, .ref hh)]) hx hb dX0_mix_139 hl (by decide) rfl (fun ls hl => ?_)
        refine lv_iload hx hb dX0_mix_141 (lv_at hl 9 rfl) ?_
        refine lv_istore (lv' := [(8, .int x7), (11, .int (sm_t2 x1 x2 x3)), (10, .int (sm_t1 x5 x6 x7 x8 (sm_K t) (fw t))), (9, .int (nI t)), (1, .int x1), (2, .int x2), (3, .int x3), (4, .int x4), (5, .int x5), (6, .int x6), (7, .int x7), (0, .ref hh)]) hx hb dX0_mix_143 hl (by decide) rfl (fun ls hl => ?_)
        refine lv_iload hx hb dX0_mix_145 (lv_at hl 9 rfl) ?_
        refine lv_istore (lv' := [(7, .int x6), (8, .int x7), (11, .int (sm_t2 x1 x2 x3)), (10, .int (sm_t1 x5 x6 x7 x8 (sm_K t) (fw t))), (9, .int (nI t)), (1, .int x1), (2, .int x2), (3, .int x3), (4, .int x4), (5, .int x5), (6, .int x6), (0, .ref hh)]) hx hb dX0_mix_147 hl (by decide) rfl (fun ls hl => ?_)
        refine lv_iload hx hb dX0_mix_149 (lv_at hl 9 rfl) ?_
        refine lv_istore (lv' := [(6, .int x5), (7, .int x6), (8, .int x7), (11, .int (sm_t2 x1 x2 x3)), (10, .int (sm_t1 x5 x6 x7 x8 (sm_K t) (fw t))), (9, .int (nI t)), (1, .int x1), (2, .int x2), (3, .int x3), (4, .int x4), (5, .int x5), (0, .ref hh)]) hx hb dX0_mix_151 hl (by decide) rfl (fun ls hl => ?_)
        refine lv_iload hx hb dX0_mix_153 (lv_at hl 9 rfl) ?_
        refine lv_iload hx hb dX0_mix_155 (lv_at hl 4 rfl) ?_
        refine lv_iadd hx hb dX0_mix_157 ?_
        refine lv_istore (lv' := [(5, .int (x4 + (sm_t1 x5 x6 x7 x8 (sm_K t) (fw t)))), (6, .int x5), (7, .int x6), (8, .int x7), (11, .int (sm_t2 x1 x2 x3)), (10, .int (sm_t1 x5 x6 x7 x8 (sm_K t) (fw t))), (9, .int (nI t)), (1, .int x1), (2, .int x2), (3, .int x3), (4, .int x4), (0, .ref hh)]) hx hb dX0_mix_158 hl (by decide) rfl (fun ls hl => ?_)
        refine lv_iload_n hx hb dX0_mix_160 rfl (lv_at hl 9 rfl) ?_
        refine lv_istore (lv' := [(4, .int x3), (5, .int (x4 + (sm_t1 x5 x6 x7 x8 (sm_K t) (fw t)))), (6, .int x5), (7, .int x6), (8, .int x7), (11, .int (sm_t2 x1 x2 x3)), (10, .int (sm_t1 x5 x6 x7 x8 (sm_K t) (fw t))), (9, .int (nI t)), (1, .int x1), (2, .int x2), (3, .int x3), (0, .ref hh)]) hx hb dX0_mix_161 hl (by decide) rfl (fun ls hl => ?_)
        refine lv_iload_n hx hb dX0_mix_163 rfl (lv_at hl 9 rfl) ?_
        refine lv_istore_n (lv' := [(3, .int x2), (4, .int x3), (5, .int (x4 + (sm_t1 x5 x6 x7 x8 (sm_K t) (fw t)))), (6, .int x5), (7, .int x6), (8, .int x7), (11, .int (sm_t2 x1 x2 x3)), (10, .int (sm_t1 x5 x6 x7 x8 (sm_K t) (fw t))), (9, .int (nI t)), (1, .int x1), (2, .int x2), (0, .ref hh)]) hx hb dX0_mix_164 rfl hl (by decide) rfl (fun ls hl => ?_)
        refine lv_iload_n hx hb dX0_mix_165 rfl (lv_at hl 9 rfl) ?_
        refine lv_istore_n (lv' := [(2, .int x1), (3, .int x2), (4, .int x3), (5, .int (x4 + (sm_t1 x5 x6 x7 x8 (sm_K t) (fw t)))), (6, .int x5), (7, .int x6), (8, .int x7), (11, .int (sm_t2 x1 x2 x3)), (10, .int (sm_t1 x5 x6 x7 x8 (sm_K t) (fw t))), (9, .int (nI t)), (1, .int x1), (0, .ref hh)]) hx hb dX0_mix_166 rfl hl (by decide) rfl (fun ls hl => ?_)
        refine lv_iload hx hb dX0_mix_167 (lv_at hl 8 rfl) ?_
        refine lv_iload hx hb dX0_mix_169 (lv_at hl 7 rfl) ?_
        refine lv_iadd hx hb dX0_mix_171 ?_
        refine lv_istore_n (lv' := [(1, .int ((sm_t1 x5 x6 x7 x8 (sm_K t) (fw t)) + (sm_t2 x1 x2 x3))), (2, .int x1), (3, .int x2), (4, .int x3), (5, .int (x4 + (sm_t1 x5 x6 x7 x8 (sm_K t) (fw t)))), (6, .int x5), (7, .int x6), (8, .int x7), (11, .int (sm_t2 x1 x2 x3)), (10, .int (sm_t1 x5 x6 x7 x8 (sm_K t) (fw t))), (9, .int (nI t)), (0, .ref hh)]) hx hb dX0_mix_172 rfl hl (by decide) rfl (fun ls hl => ?_)
        refine lv_iinc (v := nI (t + 1)) (lv' := [(9, .int (nI (t + 1))), (1, .int ((sm_t1 x5 x6 x7 x8 (sm_K t) (fw t)) + (sm_t2 x1 x2 x3))), (2, .int x1), (3, .int x2), (4, .int x3), (5, .int (x4 + (sm_t1 x5 x6 x7 x8 (sm_K t) (fw t)))), (6, .int x5), (7, .int x6), (8, .int x7), (11, .int (sm_t2 x1 x2 x3)), (10, .int (sm_t1 x5 x6 x7 x8 (sm_K t) (fw t))), (0, .ref hh)]) hx hb dX0_mix_173 hl (k := 10) rfl (nI_1 t) (by decide) rfl (fun ls hl => ?_)
        refine lv_goto (tgt := 66) hx hb dX0_mix_176 (by decide) ?_
        have hy8 := sm_rds_s hx8
        exact ih (t + 1) (sm_t1 x5 x6 x7 x8 (sm_K t) (fw t) + sm_t2 x1 x2 x3) x1 x2 x3 (x4 + sm_t1 x5 x6 x7 x8 (sm_K t) (fw t)) x5 x6 x7 _ _ _ (by omega) (by omega) hy8 hP hD hS (lv_sub hl [0, 1, 2, 3, 4, 5, 6, 7, 8, 11] rfl)
  exact lp66 _ 0 (fd 0) (fd 1) (fd 2) (fd 3) (fd 4) (fd 5) (fd 6) (fd 7) _ _ _ (Nat.lt_succ_self _) (by decide) ex8 hP hD hS (lv_sub hl [0, 8, 7, 6, 5, 4, 3, 2, 1, 9] rfl)

def rm_X0_end : Room := ({ frames := 3, cells := 0, slots := 0, locals := 75 } : Room)
set_option maxHeartbeats 4000000 in
set_option maxRecDepth 100000 in
/-- Hasher.end -/
theorem sc_X0_end (l : Launch) (D : va_G) (cI : ClassId) (tk tf : Nat) (sz : Nat) (hh hm bm aw ad : Nat) (qr rb nr n : Nat) (fm fw fd fr : Nat → Int32) (ur : Int32) (hn : 64 * sm_nb n ≤ 448) (hr32 : 32 ≤ nr) (hnr : nr < 2 ^ 31) : Met l yX0_end wsX0_end rm_X0_end (va_Pc [.ref hh, .ref qr] (sm_PW D cI (some (tk, tf)) [(hh, .inr (0, [.ref hm, .ref aw, .ref ad])), (hm, .inr (2, [.ref bm, .int (nI n)])), (bm, .inl (cI, 448, .inl fm)), (aw, .inl (cI, 64, .inl fw)), (ad, .inl (cI, 8, .inl fd)), (qr, .inr (2, [.ref rb, .int ur])), (rb, .inl (cI, nr, .inl fr))] sz)) (va_Qv (fun (_ : Unit) => True) (fun _ t => ∃ (f2 : Nat → Int32) (fw2 : Nat → Int32) (fd2 : Nat → Int32), sm_QW D cI (va_A [(hh, .inr (0, [.ref hm, .ref aw, .ref ad])), (hm, .inr (2, [.ref bm, .int (nI n)])), (bm, .inl (cI, 448, .inl fm)), (aw, .inl (cI, 64, .inl fw)), (ad, .inl (cI, 8, .inl fd)), (qr, .inr (2, [.ref rb, .int ur])), (rb, .inl (cI, nr, .inl fr))] sz) [(hh, .inr (0, [.ref hm, .ref aw, .ref ad])), (hm, .inr (2, [.ref bm, .int (nI (64 * sm_nb n))])), (bm, .inl (cI, 448, .inl f2)), (aw, .inl (cI, 64, .inl fw2)), (ad, .inl (cI, 8, .inl fd2)), (qr, .inr (2, [.ref rb, .int (nI 32)])), (rb, .inl (cI, nr, .inl (sm_ap fr 0 (sm_sha fm n) 32)))] t) (va_A [(hh, .inr (0, [.ref hm, .ref aw, .ref ad])), (hm, .inr (2, [.ref bm, .int (nI n)])), (bm, .inl (cI, 448, .inl fm)), (aw, .inl (cI, 64, .inl fw)), (ad, .inl (cI, 8, .inl fd)), (qr, .inr (2, [.ref rb, .int ur])), (rb, .inl (cI, nr, .inl fr))] sz)) 0 0 (va_A [(hh, .inr (0, [.ref hm, .ref aw, .ref ad])), (hm, .inr (2, [.ref bm, .int (nI n)])), (bm, .inl (cI, 448, .inl fm)), (aw, .inl (cI, 64, .inl fw)), (ad, .inl (cI, 8, .inl fd)), (qr, .inr (2, [.ref rb, .int ur])), (rb, .inl (cI, nr, .inl fr))] sz) := by
  refine Met.ofW (cc := cX0_end) (maxL := 3) (ret := none) (by decide) rfl ?_
  intro p e s m args below meth c s₁ B hml hv
  obtain ⟨rfl, hsz, hP, hK, hD0, hT⟩ := hv
  have hx := B.exec
  have hb := B.bytes
  have hr := B.returns
  have hts := atoms_spec (ws := wsX0_end) B.pre
  have hown : s.vm.findClass RX0 = some m.cls := findClass_of_methodNamed B.named
  have hlocks := B.notSynchronized
  subst hsz
  have hD := hD0.self (sz := s.heap.size)
  generalize hAe : va_A [(hh, .inr (0, [.ref hm, .ref aw, .ref ad])), (hm, .inr (2, [.ref bm, .int (nI n)])), (bm, .inl (cI, 448, .inl fm)), (aw, .inl (cI, 64, .inl fw)), (ad, .inl (cI, 8, .inl fd)), (qr, .inr (2, [.ref rb, .int ur])), (rb, .inl (cI, nr, .inl fr))] s.heap.size = A at hD hT ⊢
  have hA : ∀ q : Nat, s.heap.size ≤ q → A q := fun q h => by rw [← hAe]; exact Or.inr h
  have hS : va_S A s.heap s.heap [] := va_S.rf
  have hl := lv_entry ([.ref hh, .ref qr]) (n := 3) (Nat.le_of_ble_eq_true rfl)
  rw [lg_entry_eq]
  generalize (lg_sl ([.ref hh, .ref qr]) ++ List.replicate (3 - (lg_sl ([.ref hh, .ref qr])).length) Slot.unset).toArray = ls at hl ⊢
  have hl : lv_has ls 3 [(0, .ref hh), (1, .ref qr)] := hl
  refine sm_name (fun Q hQ => ?_)
  have hf_24 := hts (.fieldLink RX0 24 "SeedMill$Hasher" "words" "[I") (by decide +kernel)
  have hw_X0 : ∀ w ∈ wsX00, w ∈ wsX0_end := by decide +kernel
  have hf_14 := hts (.fieldLink RX0 14 "SeedMill$Hasher" "message" "LSeedMill$Row;") (by decide +kernel)
  refine lv_aload_n hx hb dX0_end_0 rfl (lv_at hl 0 rfl) ?_
  refine sm_callVv (wc := [(hh, .inr (0, [.ref hm, .ref aw, .ref ad])), (hm, .inr (2, [.ref bm, .int (nI n)])), (bm, .inl (cI, 448, .inl fm))]) (wr := [(aw, .inl (cI, 64, .inl fw)), (ad, .inl (cI, 8, .inl fd)), (qr, .inr (2, [.ref rb, .int ur])), (rb, .inl (cI, nr, .inl fr))]) (As := []) (rest := []) ⟨hx, hb, hml, hown, hts⟩ (sc_X0_pad l D cI (some (tk, tf)) _ hh hm bm aw ad n fm hn) (cwV 0 hts gX0_end_X0_pad rfl rfl rfl (by decide +kernel) ⟨Nat.le_of_ble_eq_true rfl, Nat.le_of_ble_eq_true rfl⟩) hP hD hS hA hK hT [0, 1, 2] [3, 4, 5, 6] rfl rfl rfl rfl (by decide) 0 0 rfl rfl rfl rfl hl.1 rfl (Nat.le_of_ble_eq_true rfl) dX0_end_1 ⟨Nat.zero_le _, Nat.zero_le _⟩ (fun zt H1 locs ht hvm hB hJ hS => ?_)
  obtain ⟨f1, hf1, hP1, -, hD1⟩ := hB
  rw [ht] at hP1
  obtain ⟨hP, hD⟩ := hJ _ hP1 hD1
  clear hJ
  generalize H1 = H at hP hS ⊢
  have hP : va_P D vwCl [(hh, .inr (0, [.ref hm, .ref aw, .ref ad])), (hm, .inr (2, [.ref bm, .int (nI (64 * sm_nb n))])), (bm, .inl (cI, 448, .inl f1)), (aw, .inl (cI, 64, .inl fw)), (ad, .inl (cI, 8, .inl fd)), (qr, .inr (2, [.ref rb, .int ur])), (rb, .inl (cI, nr, .inl fr))] H := hP.sub [4, 5, 6, 0, 1, 2, 3] rfl
  have hD : va_D A [(hh, .inr (0, [.ref hm, .ref aw, .ref ad])), (hm, .inr (2, [.ref bm, .int (nI (64 * sm_nb n))])), (bm, .inl (cI, 448, .inl f1)), (aw, .inl (cI, 64, .inl fw)), (ad, .inl (cI, 8, .inl fd)), (qr, .inr (2, [.ref rb, .int ur])), (rb, .inl (cI, nr, .inl fr))] := hD.sub [4, 5, 6, 0, 1, 2, 3] rfl rfl
  refine va_gets hx hb hT.2.1 hS hown (hts (.fieldLink RX0 47 "SeedMill$Hasher" "FIRST_STATE" "[I") (by decide +kernel)) (fun _ h9 => h9) dX0_end_4 ?_
  refine lv_iconst (v := 0) hx hb dX0_end_7 (by decide) ?_
  refine lv_aload_n hx hb dX0_end_8 rfl (lv_at hl 0 rfl) ?_
  refine va_get (D := D) (ci := 0) (v := .ref ad) (C := RX0) (T := TX0) (N := 3) hx hb hts hw_X0 hown hK hP 0 rfl rfl 2 (by decide) hf_24 (fun _ h9 => h9) rfl dX0_end_9 ?_
  refine lv_iconst (v := 0) hx hb dX0_end_12 (by decide) ?_
  refine lv_bipush (v := 8) hx hb dX0_end_13 (by decide) ?_
  refine sm_copyT (k := 8) hx hb (hml.trans hl.1.symm) hown (hts (.methodLink RX0 50 arraycopyName) (by decide +kernel)) (hts (.native arraycopyName) (by decide +kernel)) (hts (.static arraycopyName) (by decide +kernel)) (hts (.initialized "java/lang/System") (by decide +kernel)) hK hP hD hS hT.2.2 4 0 rfl rfl (by decide) (by decide) (by decide) (Nat.le_of_ble_eq_true rfl) (Nat.le_of_ble_eq_true rfl) dX0_end_15 (fun H locs hP hD hS => ?_)
  have hP := sm_arr hP 4 rfl (sm_hs f1 0) (fun j hj => by show sm_ap fd 0 sm_F 8 j = sm_F j; exact sm_ap_z hj)
  have hD := sm_arrD (y := .inl (cI, 8, .inl (sm_hs f1 0))) hD 4 rfl
  have hP : va_P D vwCl [(hh, .inr (0, [.ref hm, .ref aw, .ref ad])), (hm, .inr (2, [.ref bm, .int (nI (64 * sm_nb n))])), (bm, .inl (cI, 448, .inl f1)), (aw, .inl (cI, 64, .inl fw)), (ad, .inl (cI, 8, .inl (sm_hs f1 0))), (qr, .inr (2, [.ref rb, .int ur])), (rb, .inl (cI, nr, .inl fr))] H := hP
  have hD : va_D A [(hh, .inr (0, [.ref hm, .ref aw, .ref ad])), (hm, .inr (2, [.ref bm, .int (nI (64 * sm_nb n))])), (bm, .inl (cI, 448, .inl f1)), (aw, .inl (cI, 64, .inl fw)), (ad, .inl (cI, 8, .inl (sm_hs f1 0))), (qr, .inr (2, [.ref rb, .int ur])), (rb, .inl (cI, nr, .inl fr))] := hD
  refine lv_iconst (v := 0) hx hb dX0_end_18 (by decide) ?_
  refine lv_istore_n (lv' := [(2, .int 0), (0, .ref hh), (1, .ref qr)]) hx hb dX0_end_19 rfl hl (by decide) rfl (fun ls hl => ?_)
  have lp20 : ∀ (zn : Nat) (k : Nat) (fv : Nat → Int32) (H : Heap) (locs : List Loc) (ls : Array Slot), sm_nb n - k < zn → k ≤ sm_nb n → va_P D vwCl [(hh, .inr (0, [.ref hm, .ref aw, .ref ad])), (hm, .inr (2, [.ref bm, .int (nI (64 * sm_nb n))])), (bm, .inl (cI, 448, .inl f1)), (aw, .inl (cI, 64, .inl fv)), (ad, .inl (cI, 8, .inl (sm_hs f1 k))), (qr, .inr (2, [.ref rb, .int ur])), (rb, .inl (cI, nr, .inl fr))] H → va_D A [(hh, .inr (0, [.ref hm, .ref aw, .ref ad])), (hm, .inr (2, [.ref bm, .int (nI (64 * sm_nb n))])), (bm, .inl (cI, 448, .inl f1)), (aw, .inl (cI, 64, .inl fv)), (ad, .inl (cI, 8, .inl (sm_hs f1 k))), (qr, .inr (2, [.ref rb, .int ur])), (rb, .inl (cI, nr, .inl fr))] → va_S A s.heap H locs → lv_has ls 3 [(2, .int (nI (64 * k))), (0, .ref hh), (1, .ref qr)] → W p l e (headSpec wsX0_end rm_X0_end).room s m ([.ref hh, .ref qr] : List Value).toArray below meth c H locs 0 0 Q (F0 m 20 ls []) := by
    intro zn
    induction zn with
    | zero => intro k fv H locs ls hmu; exact absurd hmu (Nat.not_lt_zero _)
    | succ zn ih =>
      intro k fv H locs ls hmu hk1 hP hD hS hl
      refine lv_iload_n hx hb dX0_end_20 rfl (lv_at hl 0 rfl) ?_
      refine lv_aload_n hx hb dX0_end_21 rfl (lv_at hl 1 rfl) ?_
      refine va_get (D := D) (ci := 0) (v := .ref hm) (C := RX0) (T := TX0) (N := 3) hx hb hts hw_X0 hown hK hP 0 rfl rfl 0 (by decide) hf_14 (fun _ h9 => h9) rfl dX0_end_22 ?_
      refine sm_callVi (wc := [(hm, .inr (2, [.ref bm, .int (nI (64 * sm_nb n))])), (bm, .inl (cI, 448, .inl f1))]) (wr := [(hh, .inr (0, [.ref hm, .ref aw, .ref ad])), (aw, .inl (cI, 64, .inl fv)), (ad, .inl (cI, 8, .inl (sm_hs f1 k))), (qr, .inr (2, [.ref rb, .int ur])), (rb, .inl (cI, nr, .inl fr))]) (As := []) (rest := [.int (nI (64 * k))]) ⟨hx, hb, hml, hown, hts⟩ (sc_X2_size l D cI (some (tk, tf)) _ hm bm 448 f1 (nI (64 * sm_nb n)) ) (cwV 0 hts gX0_end_X2_size rfl rfl rfl (by decide +kernel) ⟨Nat.le_of_ble_eq_true rfl, Nat.le_of_ble_eq_true rfl⟩) hP hD hS hA hK hT [1, 2] [0, 3, 4, 5, 6] rfl rfl rfl rfl (by decide) 0 2 rfl rfl rfl rfl hl.1 rfl (Nat.le_of_ble_eq_true rfl) dX0_end_25 ⟨Nat.zero_le _, Nat.zero_le _⟩ (fun r_25 zt H1 locs ht hvm hw hB hJ hS => ?_)
      obtain ⟨hP1, -, hD1⟩ := hB
      rw [ht] at hP1
      obtain ⟨hP, hD⟩ := hJ _ hP1 hD1
      clear hJ
      generalize H1 = H at hP hS ⊢
      have hP : va_P D vwCl [(hh, .inr (0, [.ref hm, .ref aw, .ref ad])), (hm, .inr (2, [.ref bm, .int (nI (64 * sm_nb n))])), (bm, .inl (cI, 448, .inl f1)), (aw, .inl (cI, 64, .inl fv)), (ad, .inl (cI, 8, .inl (sm_hs f1 k))), (qr, .inr (2, [.ref rb, .int ur])), (rb, .inl (cI, nr, .inl fr))] H := hP.sub [0, 5, 6, 1, 2, 3, 4] rfl
      have hD : va_D A [(hh, .inr (0, [.ref hm, .ref aw, .ref ad])), (hm, .inr (2, [.ref bm, .int (nI (64 * sm_nb n))])), (bm, .inl (cI, 448, .inl f1)), (aw, .inl (cI, 64, .inl fv)), (ad, .inl (cI, 8, .inl (sm_hs f1 k))), (qr, .inr (2, [.ref rb, .int ur])), (rb, .inl (cI, nr, .inl fr))] := hD.sub [0, 5, 6, 1, 2, 3, 4] rfl rfl
      rw [hw]
      refine lv_icmp_ge (tgt := 46) hx hb dX0_end_28 (by decide) (fun c_28 => ?_) (fun c_28 => ?_)
      ·
        have hex : k = sm_nb n := by
          rcases Nat.lt_or_ge k (sm_nb n) with q | q
          · exact absurd c_28 (nI_ge (by omega) (by omega))
          · omega
        rw [hex] at hP hD
        refine lv_aload_n hx hb dX0_end_46 rfl (lv_at hl 2 rfl) ?_
        refine sm_callVv (wc := [(qr, .inr (2, [.ref rb, .int ur])), (rb, .inl (cI, nr, .inl fr))]) (wr := [(hh, .inr (0, [.ref hm, .ref aw, .ref ad])), (hm, .inr (2, [.ref bm, .int (nI (64 * sm_nb n))])), (bm, .inl (cI, 448, .inl f1)), (aw, .inl (cI, 64, .inl fv)), (ad, .inl (cI, 8, .inl (sm_hs f1 (sm_nb n))))]) (As := []) (rest := []) ⟨hx, hb, hml, hown, hts⟩ (sc_X2_empty l D cI (some (tk, tf)) _ qr rb nr fr ur ) (cwV 0 hts gX0_end_X2_empty rfl rfl rfl (by decide +kernel) ⟨Nat.le_of_ble_eq_true rfl, Nat.le_of_ble_eq_true rfl⟩) hP hD hS hA hK hT [5, 6] [0, 1, 2, 3, 4] rfl rfl rfl rfl (by decide) 0 2 rfl rfl rfl rfl hl.1 rfl (Nat.le_of_ble_eq_true rfl) dX0_end_47 ⟨Nat.zero_le _, Nat.zero_le _⟩ (fun zt H1 locs ht hvm hB hJ hS => ?_)
        obtain ⟨hP1, -, hD1⟩ := hB
        rw [ht] at hP1
        obtain ⟨hP, hD⟩ := hJ _ hP1 hD1
        clear hJ
        generalize H1 = H at hP hS ⊢
        have hP : va_P D vwCl [(hh, .inr (0, [.ref hm, .ref aw, .ref ad])), (hm, .inr (2, [.ref bm, .int (nI (64 * sm_nb n))])), (bm, .inl (cI, 448, .inl f1)), (aw, .inl (cI, 64, .inl fv)), (ad, .inl (cI, 8, .inl (sm_hs f1 (sm_nb n)))), (qr, .inr (2, [.ref rb, .int (nI 0)])), (rb, .inl (cI, nr, .inl fr))] H := hP.sub [0, 1, 2, 3, 4, 5, 6] rfl
        have hD : va_D A [(hh, .inr (0, [.ref hm, .ref aw, .ref ad])), (hm, .inr (2, [.ref bm, .int (nI (64 * sm_nb n))])), (bm, .inl (cI, 448, .inl f1)), (aw, .inl (cI, 64, .inl fv)), (ad, .inl (cI, 8, .inl (sm_hs f1 (sm_nb n)))), (qr, .inr (2, [.ref rb, .int (nI 0)])), (rb, .inl (cI, nr, .inl fr))] := hD.sub [0, 1, 2, 3, 4, 5, 6] rfl rfl
        refine lv_iconst (v := 0) hx hb dX0_end_50 (by decide) ?_
        refine lv_istore_n (lv' := [(2, .int 0), (0, .ref hh), (1, .ref qr)]) hx hb dX0_end_51 rfl hl (by decide) rfl (fun ls hl => ?_)
        have lp52 : ∀ (zn : Nat) (i : Nat) (H : Heap) (locs : List Loc) (ls : Array Slot), 8 - i < zn → i ≤ 8 → va_P D vwCl [(hh, .inr (0, [.ref hm, .ref aw, .ref ad])), (hm, .inr (2, [.ref bm, .int (nI (64 * sm_nb n))])), (bm, .inl (cI, 448, .inl f1)), (aw, .inl (cI, 64, .inl fv)), (ad, .inl (cI, 8, .inl (sm_hs f1 (sm_nb n)))), (qr, .inr (2, [.ref rb, .int (nI (4 * i))])), (rb, .inl (cI, nr, .inl (sm_ap fr 0 (sm_dg (sm_hs f1 (sm_nb n))) (4 * i))))] H → va_D A [(hh, .inr (0, [.ref hm, .ref aw, .ref ad])), (hm, .inr (2, [.ref bm, .int (nI (64 * sm_nb n))])), (bm, .inl (cI, 448, .inl f1)), (aw, .inl (cI, 64, .inl fv)), (ad, .inl (cI, 8, .inl (sm_hs f1 (sm_nb n)))), (qr, .inr (2, [.ref rb, .int (nI (4 * i))])), (rb, .inl (cI, nr, .inl (sm_ap fr 0 (sm_dg (sm_hs f1 (sm_nb n))) (4 * i))))] → va_S A s.heap H locs → lv_has ls 3 [(2, .int (nI i)), (0, .ref hh), (1, .ref qr)] → W p l e (headSpec wsX0_end rm_X0_end).room s m ([.ref hh, .ref qr] : List Value).toArray below meth c H locs 0 0 Q (F0 m 52 ls []) := by
          intro zn
          induction zn with
          | zero => intro i H locs ls hmu; exact absurd hmu (Nat.not_lt_zero _)
          | succ zn ih =>
            intro i H locs ls hmu hi1 hP hD hS hl
            refine lv_iload_n hx hb dX0_end_52 rfl (lv_at hl 0 rfl) ?_
            refine lv_bipush (v := 8) hx hb dX0_end_53 (by decide) ?_
            refine lv_icmp_ge (tgt := 74) hx hb dX0_end_55 (by decide) (fun c_55 => ?_) (fun c_55 => ?_)
            ·
              have hex2 : i = 8 := by
                rcases Nat.lt_or_ge i 8 with q | q
                · exact absurd c_55 (nI_ge q (by decide))
                · omega
              rw [hex2] at hP hD
              rw [hQ]
              rw [show (4 : Nat) * 8 = 32 from rfl, sm_dg_sha hf1] at hP hD
              have hP9 : va_P D vwCl [(hh, .inr (0, [.ref hm, .ref aw, .ref ad])), (hm, .inr (2, [.ref bm, .int (nI (64 * sm_nb n))])), (bm, .inl (cI, 448, .inl f1)), (aw, .inl (cI, 64, .inl fv)), (ad, .inl (cI, 8, .inl (sm_hs f1 (sm_nb n)))), (qr, .inr (2, [.ref rb, .int (nI 32)])), (rb, .inl (cI, nr, .inl (sm_ap fr 0 (sm_sha fm n) 32)))] H := hP
              have hD9 : va_D A [(hh, .inr (0, [.ref hm, .ref aw, .ref ad])), (hm, .inr (2, [.ref bm, .int (nI (64 * sm_nb n))])), (bm, .inl (cI, 448, .inl f1)), (aw, .inl (cI, 64, .inl fv)), (ad, .inl (cI, 8, .inl (sm_hs f1 (sm_nb n)))), (qr, .inr (2, [.ref rb, .int (nI 32)])), (rb, .inl (cI, nr, .inl (sm_ap fr 0 (sm_sha fm n) 32)))] := hD
              exact W.vret hx hb hr (fun t ht hW => ⟨⟨(), rfl, trivial, ⟨f1, fv, _, by rw [ht]; exact hP9, va_K.moved hW.alike hK, hD9⟩⟩, hS.F ht⟩) hS.2.2 dX0_end_74
            ·
              have hlt2 : i < 8 := by
                rcases Nat.lt_or_ge i 8 with q | q
                · exact q
                · exact absurd (nI_le q (by omega)) c_55
              refine lv_aload_n hx hb dX0_end_58 rfl (lv_at hl 2 rfl) ?_
              refine lv_aload_n hx hb dX0_end_59 rfl (lv_at hl 1 rfl) ?_
              refine va_get (D := D) (ci := 0) (v := .ref ad) (C := RX0) (T := TX0) (N := 3) hx hb hts hw_X0 hown hK hP 0 rfl rfl 2 (by decide) hf_24 (fun _ h9 => h9) rfl dX0_end_60 ?_
              refine lv_iload_n hx hb dX0_end_63 rfl (lv_at hl 0 rfl) ?_
              refine va_iald (i := nI i) hx hb hK hP 4 0 rfl rfl (vp_in_nI (n := i) (by omega) (by omega)) dX0_end_64 ?_
              refine sm_top (z := (sm_hs f1 (sm_nb n)) i) (congrArg (sm_hs f1 (sm_nb n)) (nI_clamp (n := i) (by omega))) ?_
              refine sm_callVv (wc := [(qr, .inr (2, [.ref rb, .int (nI (4 * i))])), (rb, .inl (cI, nr, .inl (sm_ap fr 0 (sm_dg (sm_hs f1 (sm_nb n))) (4 * i))))]) (wr := [(hh, .inr (0, [.ref hm, .ref aw, .ref ad])), (hm, .inr (2, [.ref bm, .int (nI (64 * sm_nb n))])), (bm, .inl (cI, 448, .inl f1)), (aw, .inl (cI, 64, .inl fv)), (ad, .inl (cI, 8, .inl (sm_hs f1 (sm_nb n))))]) (As := [.int ((sm_hs f1 (sm_nb n)) i)]) (rest := []) ⟨hx, hb, hml, hown, hts⟩ (sc_X2_putWord l D cI (some (tk, tf)) _ qr rb nr (4 * i) (sm_ap fr 0 (sm_dg (sm_hs f1 (sm_nb n))) (4 * i)) ((sm_hs f1 (sm_nb n)) i) (by omega) hnr) (cwV 1 hts gX0_end_X2_putWord rfl rfl rfl (by decide +kernel) ⟨Nat.le_of_ble_eq_true rfl, Nat.le_of_ble_eq_true rfl⟩) hP hD hS hA hK hT [5, 6] [0, 1, 2, 3, 4] rfl rfl rfl rfl (by decide) 0 2 rfl rfl rfl rfl hl.1 rfl (Nat.le_of_ble_eq_true rfl) dX0_end_65 ⟨Nat.zero_le _, Nat.zero_le _⟩ (fun zt H1 locs ht hvm hB hJ hS => ?_)
              obtain ⟨hP1, -, hD1⟩ := hB
              rw [ht] at hP1
              obtain ⟨hP, hD⟩ := hJ _ hP1 hD1
              clear hJ
              generalize H1 = H at hP hS ⊢
              have hP : va_P D vwCl [(hh, .inr (0, [.ref hm, .ref aw, .ref ad])), (hm, .inr (2, [.ref bm, .int (nI (64 * sm_nb n))])), (bm, .inl (cI, 448, .inl f1)), (aw, .inl (cI, 64, .inl fv)), (ad, .inl (cI, 8, .inl (sm_hs f1 (sm_nb n)))), (qr, .inr (2, [.ref rb, .int (nI (4 * i + 4))])), (rb, .inl (cI, nr, .inl (sm_ap (sm_ap fr 0 (sm_dg (sm_hs f1 (sm_nb n))) (4 * i)) (4 * i) (sm_wb ((sm_hs f1 (sm_nb n)) i)) 4)))] H := hP.sub [0, 1, 2, 3, 4, 5, 6] rfl
              have hD : va_D A [(hh, .inr (0, [.ref hm, .ref aw, .ref ad])), (hm, .inr (2, [.ref bm, .int (nI (64 * sm_nb n))])), (bm, .inl (cI, 448, .inl f1)), (aw, .inl (cI, 64, .inl fv)), (ad, .inl (cI, 8, .inl (sm_hs f1 (sm_nb n)))), (qr, .inr (2, [.ref rb, .int (nI (4 * i + 4))])), (rb, .inl (cI, nr, .inl (sm_ap (sm_ap fr 0 (sm_dg (sm_hs f1 (sm_nb n))) (4 * i)) (4 * i) (sm_wb ((sm_hs f1 (sm_nb n)) i)) 4)))] := hD.sub [0, 1, 2, 3, 4, 5, 6] rfl rfl
              refine lv_iinc (v := nI (i + 1)) (lv' := [(2, .int (nI (i + 1))), (0, .ref hh), (1, .ref qr)]) hx hb dX0_end_68 hl (k := 0) rfl (nI_1 i) (by decide) rfl (fun ls hl => ?_)
              refine lv_goto (tgt := 52) hx hb dX0_end_71 (by decide) ?_
              rw [sm_dg_s] at hP hD
              exact ih (i + 1) _ _ _ (by omega) (by omega) hP hD hS (lv_sub hl [0, 1, 2] rfl)
        exact lp52 _ 0 _ _ _ (Nat.lt_succ_self _) (by decide) (by rw [sm_ap_0]; exact hP) (by rw [sm_ap_0]; exact hD) hS (lv_sub hl [0, 1, 2] rfl)
      ·
        have hlt : k < sm_nb n := by
          rcases Nat.lt_or_ge k (sm_nb n) with q | q
          · exact q
          · exact absurd (nI_le (by omega) (by omega)) c_28
        refine lv_aload_n hx hb dX0_end_31 rfl (lv_at hl 1 rfl) ?_
        refine lv_iload_n hx hb dX0_end_32 rfl (lv_at hl 0 rfl) ?_
        refine sm_callVv (wc := [(hh, .inr (0, [.ref hm, .ref aw, .ref ad])), (hm, .inr (2, [.ref bm, .int (nI (64 * sm_nb n))])), (bm, .inl (cI, 448, .inl f1)), (aw, .inl (cI, 64, .inl fv))]) (wr := [(ad, .inl (cI, 8, .inl (sm_hs f1 k))), (qr, .inr (2, [.ref rb, .int ur])), (rb, .inl (cI, nr, .inl fr))]) (As := [.int (nI (64 * k))]) (rest := []) ⟨hx, hb, hml, hown, hts⟩ (sc_X0_spread l D cI (some (tk, tf)) _ hh hm bm aw ad (64 * sm_nb n) (64 * k) f1 fv (by omega) hn) (cwV 1 hts gX0_end_X0_spread rfl rfl rfl (by decide +kernel) ⟨Nat.le_of_ble_eq_true rfl, Nat.le_of_ble_eq_true rfl⟩) hP hD hS hA hK hT [0, 1, 2, 3] [4, 5, 6] rfl rfl rfl rfl (by decide) 0 0 rfl rfl rfl rfl hl.1 rfl (Nat.le_of_ble_eq_true rfl) dX0_end_33 ⟨Nat.zero_le _, Nat.zero_le _⟩ (fun zt H1 locs ht hvm hB hJ hS => ?_)
        obtain ⟨hP1, -, hD1⟩ := hB
        rw [ht] at hP1
        obtain ⟨hP, hD⟩ := hJ _ hP1 hD1
        clear hJ
        generalize H1 = H at hP hS ⊢
        have hP : va_P D vwCl [(hh, .inr (0, [.ref hm, .ref aw, .ref ad])), (hm, .inr (2, [.ref bm, .int (nI (64 * sm_nb n))])), (bm, .inl (cI, 448, .inl f1)), (aw, .inl (cI, 64, .inl (sm_W f1 (64 * k)))), (ad, .inl (cI, 8, .inl (sm_hs f1 k))), (qr, .inr (2, [.ref rb, .int ur])), (rb, .inl (cI, nr, .inl fr))] H := hP.sub [3, 4, 5, 6, 0, 1, 2] rfl
        have hD : va_D A [(hh, .inr (0, [.ref hm, .ref aw, .ref ad])), (hm, .inr (2, [.ref bm, .int (nI (64 * sm_nb n))])), (bm, .inl (cI, 448, .inl f1)), (aw, .inl (cI, 64, .inl (sm_W f1 (64 * k)))), (ad, .inl (cI, 8, .inl (sm_hs f1 k))), (qr, .inr (2, [.ref rb, .int ur])), (rb, .inl (cI, nr, .inl fr))] := hD.sub [3, 4, 5, 6, 0, 1, 2] rfl rfl
        refine lv_aload_n hx hb dX0_end_36 rfl (lv_at hl 1 rfl) ?_
        refine sm_callVv (wc := [(hh, .inr (0, [.ref hm, .ref aw, .ref ad])), (aw, .inl (cI, 64, .inl (sm_W f1 (64 * k)))), (ad, .inl (cI, 8, .inl (sm_hs f1 k)))]) (wr := [(hm, .inr (2, [.ref bm, .int (nI (64 * sm_nb n))])), (bm, .inl (cI, 448, .inl f1)), (qr, .inr (2, [.ref rb, .int ur])), (rb, .inl (cI, nr, .inl fr))]) (As := []) (rest := []) ⟨hx, hb, hml, hown, hts⟩ (sc_X0_mix l D cI tk tf _ hh hm bm aw ad (sm_W f1 (64 * k)) (sm_hs f1 k) ) (cwV 0 hts gX0_end_X0_mix rfl rfl rfl (by decide +kernel) ⟨Nat.le_of_ble_eq_true rfl, Nat.le_of_ble_eq_true rfl⟩) hP hD hS hA hK hT [0, 3, 4] [1, 2, 5, 6] rfl rfl rfl rfl (by decide) 0 0 rfl rfl rfl rfl hl.1 rfl (Nat.le_of_ble_eq_true rfl) dX0_end_37 ⟨Nat.zero_le _, Nat.zero_le _⟩ (fun zt H1 locs ht hvm hB hJ hS => ?_)
        obtain ⟨hP1, -, hD1⟩ := hB
        rw [ht] at hP1
        obtain ⟨hP, hD⟩ := hJ _ hP1 hD1
        clear hJ
        generalize H1 = H at hP hS ⊢
        have hP : va_P D vwCl [(hh, .inr (0, [.ref hm, .ref aw, .ref ad])), (hm, .inr (2, [.ref bm, .int (nI (64 * sm_nb n))])), (bm, .inl (cI, 448, .inl f1)), (aw, .inl (cI, 64, .inl (sm_W f1 (64 * k)))), (ad, .inl (cI, 8, .inl (sm_hs f1 (k + 1)))), (qr, .inr (2, [.ref rb, .int ur])), (rb, .inl (cI, nr, .inl fr))] H := hP.sub [4, 0, 1, 5, 6, 2, 3] rfl
        have hD : va_D A [(hh, .inr (0, [.ref hm, .ref aw, .ref ad])), (hm, .inr (2, [.ref bm, .int (nI (64 * sm_nb n))])), (bm, .inl (cI, 448, .inl f1)), (aw, .inl (cI, 64, .inl (sm_W f1 (64 * k)))), (ad, .inl (cI, 8, .inl (sm_hs f1 (k + 1)))), (qr, .inr (2, [.ref rb, .int ur])), (rb, .inl (cI, nr, .inl fr))] := hD.sub [4, 0, 1, 5, 6, 2, 3] rfl rfl
        refine lv_iinc (v := nI (64 * (k + 1))) (lv' := [(2, .int (nI (64 * (k + 1)))), (0, .ref hh), (1, .ref qr)]) hx hb dX0_end_40 hl (k := 0) rfl (nI_add (64 * k) 64) (by decide) rfl (fun ls hl => ?_)
        refine lv_goto (tgt := 20) hx hb dX0_end_43 (by decide) ?_
        exact ih (k + 1) _ _ _ _ (by omega) (by omega) hP hD hS (lv_sub hl [0, 1, 2] rfl)
  exact lp20 _ 0 fw _ _ _ (Nat.lt_succ_self _) (Nat.zero_le _) hP hD hS (lv_sub hl [0, 1, 2] rfl)
