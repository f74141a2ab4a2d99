def rm_X2_init_448 : Room := ({ frames := 1, cells := 1, slots := 448, locals := 12 } : Room)
set_option maxHeartbeats 4000000 in
set_option maxRecDepth 100000 in
/-- Row(448) -/
theorem sc_X2_init_448 (l : Launch) (D : va_G) (cI : ClassId) (th : Option (Nat × Nat)) (sz : Nat) (h : Nat) (u : Int32)  : Met l yX2_init wsX2_init rm_X2_init_448 (va_Pc [.ref h, .int 448] (sm_PW D cI th [(h, .inr (2, [.null, .int u]))] sz)) (va_Qv (fun (_ : Unit) => True) (fun _ t => ∃ (b : Nat), sm_QW D cI (va_A [(h, .inr (2, [.null, .int u]))] sz) [(h, .inr (2, [.ref b, .int (nI 0)])), (b, .inl (cI, 448, .inl (fun _ => 0)))] t) (va_A [(h, .inr (2, [.null, .int u]))] sz)) 1 448 (va_A [(h, .inr (2, [.null, .int u]))] sz) := by
  refine Met.ofW (cc := cX2_init) (maxL := 2) (ret := none) (by decide) rfl ?_
  intro p e s m args below meth c s₁ B hml hv
  obtain ⟨rfl, hsz, hP, hK, hD0, hT⟩ := hv
  have hx := B.exec
  have hb := B.bytes
  have hr := B.returns
  have hts := atoms_spec (ws := wsX2_init) B.pre
  have hown : s.vm.findClass RX2 = some m.cls := findClass_of_methodNamed B.named
  have hlocks := B.notSynchronized
  have hin : meth.name = "<init>" := (name_of_methodNamed B.named B.method).1
  subst hsz
  have hD := hD0.self (sz := s.heap.size)
  generalize hAe : va_A [(h, .inr (2, [.null, .int u]))] s.heap.size = A at hD hT ⊢
  have hA : ∀ q : Nat, s.heap.size ≤ q → A q := fun q h => by rw [← hAe]; exact Or.inr h
  have hS : va_S A s.heap s.heap [] := va_S.rf
  have hl := lv_entry ([.ref h, .int 448]) (n := 2) (Nat.le_of_ble_eq_true rfl)
  rw [lg_entry_eq]
  generalize (lg_sl ([.ref h, .int 448]) ++ List.replicate (2 - (lg_sl ([.ref h, .int 448])).length) Slot.unset).toArray = ls at hl ⊢
  have hl : lv_has ls 2 [(0, .ref h), (1, .int 448)] := hl
  refine sm_name (fun Q hQ => ?_)
  have hf_9 := hts (.fieldLink RX2 9 "SeedMill$Row" "used" "I") (by decide +kernel)
  have hw_X2 : ∀ w ∈ wsX20, w ∈ wsX2_init := by decide +kernel
  have hf_15 := hts (.fieldLink RX2 15 "SeedMill$Row" "bytes" "[I") (by decide +kernel)
  refine lv_aload_n hx hb dX2_init_0 rfl (lv_at hl 0 rfl) ?_
  refine W.objInit hx hb hown (hts (.methodLink RX2 3 objectInit) (by decide +kernel)) (hts (.instanceMethod objectInit) (by decide +kernel)) (hts (.code objectInit ⟨#[0xb1]⟩ 1 none) (by decide +kernel)) rfl (by rw [hml]; exact hl.1) rfl dX2_init_1 (Nat.le_of_ble_eq_true rfl) (Nat.le_of_ble_eq_true rfl) ?_
  refine W.eq (g2 := F0 m 4 ls []) rfl ?_
  refine lv_aload_n hx hb dX2_init_4 rfl (lv_at hl 0 rfl) ?_
  refine lv_iconst (v := 0) hx hb dX2_init_5 (by decide) ?_
  refine va_put (D := D) (ci := 2) (v := .int 0) (ty := .int) (C := RX2) (T := TX2) (N := 2) hx hb hts hw_X2 tyX2 tyX2_ok nmX2 hown hK hP hD hS 0 rfl rfl 1 (by decide) hf_9 (fun _ h9 => h9) rfl (by decide +kernel) rfl rfl (Nat.le_of_ble_eq_true rfl) dX2_init_6 (fun H locs hP hD hS => ?_)
  have hP : va_P D vwCl [(h, .inr (2, [.null, .int 0]))] H := hP
  have hD : va_D A [(h, .inr (2, [.null, .int 0]))] := hD
  refine lv_aload_n hx hb dX2_init_9 rfl (lv_at hl 0 rfl) ?_
  refine lv_iload_n hx hb dX2_init_10 rfl (lv_at hl 1 rfl) ?_
  refine va_newa (atype := .int) (ty := .int) (n := 448) (N' := 448) (a0 := (448, .inl (fun _ => 0))) hx hb (hts (.arrayClass .int) (by decide +kernel)) rfl hK hP hD hS hA (fun _ => rfl) (nI_pos (n := 448) (by decide)) (nI_clamp (n := 448) (by decide)) (by show 448 * 4 ≤ 536870912; omega) (by show _ ≤ 1; omega) (by show _ ≤ 448; omega) dX2_init_11 (fun q11 cA H hK2 hP hD hS => ?_)
  have eI : cI = cA := sm_oneI hK2 (i := 0) (j := 1) rfl rfl
  subst eI
  clear hK2
  have hP : va_P D vwCl [(h, .inr (2, [.null, .int 0])), (q11, .inl (cI, 448, .inl (fun _ => 0)))] H := hP
  have hD : va_D A [(h, .inr (2, [.null, .int 0])), (q11, .inl (cI, 448, .inl (fun _ => 0)))] := hD
  refine va_putF (D := D) (ci := 2) (v := .ref q11) (ty := .array .int) (C := RX2) (T := TX2) (N := 2) hx hb hts hw_X2 tyX2 tyX2_ok nmX2 hown hK hP hD hS 0 rfl rfl 0 (by decide) hf_15 (fun _ h9 => h9) rfl hin rfl (by decide +kernel) rfl rfl (Nat.le_of_ble_eq_true rfl) dX2_init_13 (fun H locs hP hD hS => ?_)
  have hP : va_P D vwCl [(h, .inr (2, [.ref q11, .int 0])), (q11, .inl (cI, 448, .inl (fun _ => 0)))] H := hP
  have hD : va_D A [(h, .inr (2, [.ref q11, .int 0])), (q11, .inl (cI, 448, .inl (fun _ => 0)))] := hD
  rw [hQ]
  have hP9 : va_P D vwCl [(h, .inr (2, [.ref q11, .int (nI 0)])), (q11, .inl (cI, 448, .inl (fun _ => 0)))] H := hP
  have hD9 : va_D A [(h, .inr (2, [.ref q11, .int (nI 0)])), (q11, .inl (cI, 448, .inl (fun _ => 0)))] := hD
  exact W.vret hx hb hr (fun t ht hW => ⟨⟨(), rfl, trivial, ⟨q11, by rw [ht]; exact hP9, va_K.moved hW.alike hK, hD9⟩⟩, hS.F ht⟩) hS.2.2 dX2_init_16

def rm_X2_init_64 : Room := ({ frames := 1, cells := 1, slots := 64, locals := 12 } : Room)
set_option maxHeartbeats 4000000 in
set_option maxRecDepth 100000 in
/-- Row(64) -/
theorem sc_X2_init_64 (l : Launch) (D : va_G) (cI : ClassId) (th : Option (Nat × Nat)) (sz : Nat) (h : Nat) (u : Int32)  : Met l yX2_init wsX2_init rm_X2_init_64 (va_Pc [.ref h, .int 64] (sm_PW D cI th [(h, .inr (2, [.null, .int u]))] sz)) (va_Qv (fun (_ : Unit) => True) (fun _ t => ∃ (b : Nat), sm_QW D cI (va_A [(h, .inr (2, [.null, .int u]))] sz) [(h, .inr (2, [.ref b, .int (nI 0)])), (b, .inl (cI, 64, .inl (fun _ => 0)))] t) (va_A [(h, .inr (2, [.null, .int u]))] sz)) 1 64 (va_A [(h, .inr (2, [.null, .int u]))] sz) := by
  refine Met.ofW (cc := cX2_init) (maxL := 2) (ret := none) (by decide) rfl ?_
  intro p e s m args below meth c s₁ B hml hv
  obtain ⟨rfl, hsz, hP, hK, hD0, hT⟩ := hv
  have hx := B.exec
  have hb := B.bytes
  have hr := B.returns
  have hts := atoms_spec (ws := wsX2_init) B.pre
  have hown : s.vm.findClass RX2 = some m.cls := findClass_of_methodNamed B.named
  have hlocks := B.notSynchronized
  have hin : meth.name = "<init>" := (name_of_methodNamed B.named B.method).1
  subst hsz
  have hD := hD0.self (sz := s.heap.size)
  generalize hAe : va_A [(h, .inr (2, [.null, .int u]))] s.heap.size = A at hD hT ⊢
  have hA : ∀ q : Nat, s.heap.size ≤ q → A q := fun q h => by rw [← hAe]; exact Or.inr h
  have hS : va_S A s.heap s.heap [] := va_S.rf
  have hl := lv_entry ([.ref h, .int 64]) (n := 2) (Nat.le_of_ble_eq_true rfl)
  rw [lg_entry_eq]
  generalize (lg_sl ([.ref h, .int 64]) ++ List.replicate (2 - (lg_sl ([.ref h, .int 64])).length) Slot.unset).toArray = ls at hl ⊢
  have hl : lv_has ls 2 [(0, .ref h), (1, .int 64)] := hl
  refine sm_name (fun Q hQ => ?_)
  have hf_9 := hts (.fieldLink RX2 9 "SeedMill$Row" "used" "I") (by decide +kernel)
  have hw_X2 : ∀ w ∈ wsX20, w ∈ wsX2_init := by decide +kernel
  have hf_15 := hts (.fieldLink RX2 15 "SeedMill$Row" "bytes" "[I") (by decide +kernel)
  refine lv_aload_n hx hb dX2_init_0 rfl (lv_at hl 0 rfl) ?_
  refine W.objInit hx hb hown (hts (.methodLink RX2 3 objectInit) (by decide +kernel)) (hts (.instanceMethod objectInit) (by decide +kernel)) (hts (.code objectInit ⟨#[0xb1]⟩ 1 none) (by decide +kernel)) rfl (by rw [hml]; exact hl.1) rfl dX2_init_1 (Nat.le_of_ble_eq_true rfl) (Nat.le_of_ble_eq_true rfl) ?_
  refine W.eq (g2 := F0 m 4 ls []) rfl ?_
  refine lv_aload_n hx hb dX2_init_4 rfl (lv_at hl 0 rfl) ?_
  refine lv_iconst (v := 0) hx hb dX2_init_5 (by decide) ?_
  refine va_put (D := D) (ci := 2) (v := .int 0) (ty := .int) (C := RX2) (T := TX2) (N := 2) hx hb hts hw_X2 tyX2 tyX2_ok nmX2 hown hK hP hD hS 0 rfl rfl 1 (by decide) hf_9 (fun _ h9 => h9) rfl (by decide +kernel) rfl rfl (Nat.le_of_ble_eq_true rfl) dX2_init_6 (fun H locs hP hD hS => ?_)
  have hP : va_P D vwCl [(h, .inr (2, [.null, .int 0]))] H := hP
  have hD : va_D A [(h, .inr (2, [.null, .int 0]))] := hD
  refine lv_aload_n hx hb dX2_init_9 rfl (lv_at hl 0 rfl) ?_
  refine lv_iload_n hx hb dX2_init_10 rfl (lv_at hl 1 rfl) ?_
  refine va_newa (atype := .int) (ty := .int) (n := 64) (N' := 64) (a0 := (64, .inl (fun _ => 0))) hx hb (hts (.arrayClass .int) (by decide +kernel)) rfl hK hP hD hS hA (fun _ => rfl) (nI_pos (n := 64) (by decide)) (nI_clamp (n := 64) (by decide)) (by show 64 * 4 ≤ 536870912; omega) (by show _ ≤ 1; omega) (by show _ ≤ 64; omega) dX2_init_11 (fun q11 cA H hK2 hP hD hS => ?_)
  have eI : cI = cA := sm_oneI hK2 (i := 0) (j := 1) rfl rfl
  subst eI
  clear hK2
  have hP : va_P D vwCl [(h, .inr (2, [.null, .int 0])), (q11, .inl (cI, 64, .inl (fun _ => 0)))] H := hP
  have hD : va_D A [(h, .inr (2, [.null, .int 0])), (q11, .inl (cI, 64, .inl (fun _ => 0)))] := hD
  refine va_putF (D := D) (ci := 2) (v := .ref q11) (ty := .array .int) (C := RX2) (T := TX2) (N := 2) hx hb hts hw_X2 tyX2 tyX2_ok nmX2 hown hK hP hD hS 0 rfl rfl 0 (by decide) hf_15 (fun _ h9 => h9) rfl hin rfl (by decide +kernel) rfl rfl (Nat.le_of_ble_eq_true rfl) dX2_init_13 (fun H locs hP hD hS => ?_)
  have hP : va_P D vwCl [(h, .inr (2, [.ref q11, .int 0])), (q11, .inl (cI, 64, .inl (fun _ => 0)))] H := hP
  have hD : va_D A [(h, .inr (2, [.ref q11, .int 0])), (q11, .inl (cI, 64, .inl (fun _ => 0)))] := hD
  rw [hQ]
  have hP9 : va_P D vwCl [(h, .inr (2, [.ref q11, .int (nI 0)])), (q11, .inl (cI, 64, .inl (fun _ => 0)))] H := hP
  have hD9 : va_D A [(h, .inr (2, [.ref q11, .int (nI 0)])), (q11, .inl (cI, 64, .inl (fun _ => 0)))] := hD
  exact W.vret hx hb hr (fun t ht hW => ⟨⟨(), rfl, trivial, ⟨q11, by rw [ht]; exact hP9, va_K.moved hW.alike hK, hD9⟩⟩, hS.F ht⟩) hS.2.2 dX2_init_16

def rm_X2_init_32 : Room := ({ frames := 1, cells := 1, slots := 32, locals := 12 } : Room)
set_option maxHeartbeats 4000000 in
set_option maxRecDepth 100000 in
/-- Row(32) -/
theorem sc_X2_init_32 (l : Launch) (D : va_G) (cI : ClassId) (th : Option (Nat × Nat)) (sz : Nat) (h : Nat) (u : Int32)  : Met l yX2_init wsX2_init rm_X2_init_32 (va_Pc [.ref h, .int 32] (sm_PW D cI th [(h, .inr (2, [.null, .int u]))] sz)) (va_Qv (fun (_ : Unit) => True) (fun _ t => ∃ (b : Nat), sm_QW D cI (va_A [(h, .inr (2, [.null, .int u]))] sz) [(h, .inr (2, [.ref b, .int (nI 0)])), (b, .inl (cI, 32, .inl (fun _ => 0)))] t) (va_A [(h, .inr (2, [.null, .int u]))] sz)) 1 32 (va_A [(h, .inr (2, [.null, .int u]))] sz) := by
  refine Met.ofW (cc := cX2_init) (maxL := 2) (ret := none) (by decide) rfl ?_
  intro p e s m args below meth c s₁ B hml hv
  obtain ⟨rfl, hsz, hP, hK, hD0, hT⟩ := hv
  have hx := B.exec
  have hb := B.bytes
  have hr := B.returns
  have hts := atoms_spec (ws := wsX2_init) B.pre
  have hown : s.vm.findClass RX2 = some m.cls := findClass_of_methodNamed B.named
  have hlocks := B.notSynchronized
  have hin : meth.name = "<init>" := (name_of_methodNamed B.named B.method).1
  subst hsz
  have hD := hD0.self (sz := s.heap.size)
  generalize hAe : va_A [(h, .inr (2, [.null, .int u]))] s.heap.size = A at hD hT ⊢
  have hA : ∀ q : Nat, s.heap.size ≤ q → A q := fun q h => by rw [← hAe]; exact Or.inr h
  have hS : va_S A s.heap s.heap [] := va_S.rf
  have hl := lv_entry ([.ref h, .int 32]) (n := 2) (Nat.le_of_ble_eq_true rfl)
  rw [lg_entry_eq]
  generalize (lg_sl ([.ref h, .int 32]) ++ List.replicate (2 - (lg_sl ([.ref h, .int 32])).length) Slot.unset).toArray = ls at hl ⊢
  have hl : lv_has ls 2 [(0, .ref h), (1, .int 32)] := hl
  refine sm_name (fun Q hQ => ?_)
  have hf_9 := hts (.fieldLink RX2 9 "SeedMill$Row" "used" "I") (by decide +kernel)
  have hw_X2 : ∀ w ∈ wsX20, w ∈ wsX2_init := by decide +kernel
  have hf_15 := hts (.fieldLink RX2 15 "SeedMill$Row" "bytes" "[I") (by decide +kernel)
  refine lv_aload_n hx hb dX2_init_0 rfl (lv_at hl 0 rfl) ?_
  refine W.objInit hx hb hown (hts (.methodLink RX2 3 objectInit) (by decide +kernel)) (hts (.instanceMethod objectInit) (by decide +kernel)) (hts (.code objectInit ⟨#[0xb1]⟩ 1 none) (by decide +kernel)) rfl (by rw [hml]; exact hl.1) rfl dX2_init_1 (Nat.le_of_ble_eq_true rfl) (Nat.le_of_ble_eq_true rfl) ?_
  refine W.eq (g2 := F0 m 4 ls []) rfl ?_
  refine lv_aload_n hx hb dX2_init_4 rfl (lv_at hl 0 rfl) ?_
  refine lv_iconst (v := 0) hx hb dX2_init_5 (by decide) ?_
  refine va_put (D := D) (ci := 2) (v := .int 0) (ty := .int) (C := RX2) (T := TX2) (N := 2) hx hb hts hw_X2 tyX2 tyX2_ok nmX2 hown hK hP hD hS 0 rfl rfl 1 (by decide) hf_9 (fun _ h9 => h9) rfl (by decide +kernel) rfl rfl (Nat.le_of_ble_eq_true rfl) dX2_init_6 (fun H locs hP hD hS => ?_)
  have hP : va_P D vwCl [(h, .inr (2, [.null, .int 0]))] H := hP
  have hD : va_D A [(h, .inr (2, [.null, .int 0]))] := hD
  refine lv_aload_n hx hb dX2_init_9 rfl (lv_at hl 0 rfl) ?_
  refine lv_iload_n hx hb dX2_init_10 rfl (lv_at hl 1 rfl) ?_
  refine va_newa (atype := .int) (ty := .int) (n := 32) (N' := 32) (a0 := (32, .inl (fun _ => 0))) hx hb (hts (.arrayClass .int) (by decide +kernel)) rfl hK hP hD hS hA (fun _ => rfl) (nI_pos (n := 32) (by decide)) (nI_clamp (n := 32) (by decide)) (by show 32 * 4 ≤ 536870912; omega) (by show _ ≤ 1; omega) (by show _ ≤ 32; omega) dX2_init_11 (fun q11 cA H hK2 hP hD hS => ?_)
  have eI : cI = cA := sm_oneI hK2 (i := 0) (j := 1) rfl rfl
  subst eI
  clear hK2
  have hP : va_P D vwCl [(h, .inr (2, [.null, .int 0])), (q11, .inl (cI, 32, .inl (fun _ => 0)))] H := hP
  have hD : va_D A [(h, .inr (2, [.null, .int 0])), (q11, .inl (cI, 32, .inl (fun _ => 0)))] := hD
  refine va_putF (D := D) (ci := 2) (v := .ref q11) (ty := .array .int) (C := RX2) (T := TX2) (N := 2) hx hb hts hw_X2 tyX2 tyX2_ok nmX2 hown hK hP hD hS 0 rfl rfl 0 (by decide) hf_15 (fun _ h9 => h9) rfl hin rfl (by decide +kernel) rfl rfl (Nat.le_of_ble_eq_true rfl) dX2_init_13 (fun H locs hP hD hS => ?_)
  have hP : va_P D vwCl [(h, .inr (2, [.ref q11, .int 0])), (q11, .inl (cI, 32, .inl (fun _ => 0)))] H := hP
  have hD : va_D A [(h, .inr (2, [.ref q11, .int 0])), (q11, .inl (cI, 32, .inl (fun _ => 0)))] := hD
  rw [hQ]
  have hP9 : va_P D vwCl [(h, .inr (2, [.ref q11, .int (nI 0)])), (q11, .inl (cI, 32, .inl (fun _ => 0)))] H := hP
  have hD9 : va_D A [(h, .inr (2, [.ref q11, .int (nI 0)])), (q11, .inl (cI, 32, .inl (fun _ => 0)))] := hD
  exact W.vret hx hb hr (fun t ht hW => ⟨⟨(), rfl, trivial, ⟨q11, by rw [ht]; exact hP9, va_K.moved hW.alike hK, hD9⟩⟩, hS.F ht⟩) hS.2.2 dX2_init_16

def rm_X2_init_300 : Room := ({ frames := 1, cells := 1, slots := 300, locals := 12 } : Room)
set_option maxHeartbeats 4000000 in
set_option maxRecDepth 100000 in
/-- Row(300) -/
theorem sc_X2_init_300 (l : Launch) (D : va_G) (cI : ClassId) (th : Option (Nat × Nat)) (sz : Nat) (h : Nat) (u : Int32)  : Met l yX2_init wsX2_init rm_X2_init_300 (va_Pc [.ref h, .int 300] (sm_PW D cI th [(h, .inr (2, [.null, .int u]))] sz)) (va_Qv (fun (_ : Unit) => True) (fun _ t => ∃ (b : Nat), sm_QW D cI (va_A [(h, .inr (2, [.null, .int u]))] sz) [(h, .inr (2, [.ref b, .int (nI 0)])), (b, .inl (cI, 300, .inl (fun _ => 0)))] t) (va_A [(h, .inr (2, [.null, .int u]))] sz)) 1 300 (va_A [(h, .inr (2, [.null, .int u]))] sz) := by
  refine Met.ofW (cc := cX2_init) (maxL := 2) (ret := none) (by decide) rfl ?_
  intro p e s m args below meth c s₁ B hml hv
  obtain ⟨rfl, hsz, hP, hK, hD0, hT⟩ := hv
  have hx := B.exec
  have hb := B.bytes
  have hr := B.returns
  have hts := atoms_spec (ws := wsX2_init) B.pre
  have hown : s.vm.findClass RX2 = some m.cls := findClass_of_methodNamed B.named
  have hlocks := B.notSynchronized
  have hin : meth.name = "<init>" := (name_of_methodNamed B.named B.method).1
  subst hsz
  have hD := hD0.self (sz := s.heap.size)
  generalize hAe : va_A [(h, .inr (2, [.null, .int u]))] s.heap.size = A at hD hT ⊢
  have hA : ∀ q : Nat, s.heap.size ≤ q → A q := fun q h => by rw [← hAe]; exact Or.inr h
  have hS : va_S A s.heap s.heap [] := va_S.rf
  have hl := lv_entry ([.ref h, .int 300]) (n := 2) (Nat.le_of_ble_eq_true rfl)
  rw [lg_entry_eq]
  generalize (lg_sl ([.ref h, .int 300]) ++ List.replicate (2 - (lg_sl ([.ref h, .int 300])).length) Slot.unset).toArray = ls at hl ⊢
  have hl : lv_has ls 2 [(0, .ref h), (1, .int 300)] := hl
  refine sm_name (fun Q hQ => ?_)
  have hf_9 := hts (.fieldLink RX2 9 "SeedMill$Row" "used" "I") (by decide +kernel)
  have hw_X2 : ∀ w ∈ wsX20, w ∈ wsX2_init := by decide +kernel
  have hf_15 := hts (.fieldLink RX2 15 "SeedMill$Row" "bytes" "[I") (by decide +kernel)
  refine lv_aload_n hx hb dX2_init_0 rfl (lv_at hl 0 rfl) ?_
  refine W.objInit hx hb hown (hts (.methodLink RX2 3 objectInit) (by decide +kernel)) (hts (.instanceMethod objectInit) (by decide +kernel)) (hts (.code objectInit ⟨#[0xb1]⟩ 1 none) (by decide +kernel)) rfl (by rw [hml]; exact hl.1) rfl dX2_init_1 (Nat.le_of_ble_eq_true rfl) (Nat.le_of_ble_eq_true rfl) ?_
  refine W.eq (g2 := F0 m 4 ls []) rfl ?_
  refine lv_aload_n hx hb dX2_init_4 rfl (lv_at hl 0 rfl) ?_
  refine lv_iconst (v := 0) hx hb dX2_init_5 (by decide) ?_
  refine va_put (D := D) (ci := 2) (v := .int 0) (ty := .int) (C := RX2) (T := TX2) (N := 2) hx hb hts hw_X2 tyX2 tyX2_ok nmX2 hown hK hP hD hS 0 rfl rfl 1 (by decide) hf_9 (fun _ h9 => h9) rfl (by decide +kernel) rfl rfl (Nat.le_of_ble_eq_true rfl) dX2_init_6 (fun H locs hP hD hS => ?_)
  have hP : va_P D vwCl [(h, .inr (2, [.null, .int 0]))] H := hP
  have hD : va_D A [(h, .inr (2, [.null, .int 0]))] := hD
  refine lv_aload_n hx hb dX2_init_9 rfl (lv_at hl 0 rfl) ?_
  refine lv_iload_n hx hb dX2_init_10 rfl (lv_at hl 1 rfl) ?_
  refine va_newa (atype := .int) (ty := .int) (n := 300) (N' := 300) (a0 := (300, .inl (fun _ => 0))) hx hb (hts (.arrayClass .int) (by decide +kernel)) rfl hK hP hD hS hA (fun _ => rfl) (nI_pos (n := 300) (by decide)) (nI_clamp (n := 300) (by decide)) (by show 300 * 4 ≤ 536870912; omega) (by show _ ≤ 1; omega) (by show _ ≤ 300; omega) dX2_init_11 (fun q11 cA H hK2 hP hD hS => ?_)
  have eI : cI = cA := sm_oneI hK2 (i := 0) (j := 1) rfl rfl
  subst eI
  clear hK2
  have hP : va_P D vwCl [(h, .inr (2, [.null, .int 0])), (q11, .inl (cI, 300, .inl (fun _ => 0)))] H := hP
  have hD : va_D A [(h, .inr (2, [.null, .int 0])), (q11, .inl (cI, 300, .inl (fun _ => 0)))] := hD
  refine va_putF (D := D) (ci := 2) (v := .ref q11) (ty := .array .int) (C := RX2) (T := TX2) (N := 2) hx hb hts hw_X2 tyX2 tyX2_ok nmX2 hown hK hP hD hS 0 rfl rfl 0 (by decide) hf_15 (fun _ h9 => h9) rfl hin rfl (by decide +kernel) rfl rfl (Nat.le_of_ble_eq_true rfl) dX2_init_13 (fun H locs hP hD hS => ?_)
  have hP : va_P D vwCl [(h, .inr (2, [.ref q11, .int 0])), (q11, .inl (cI, 300, .inl (fun _ => 0)))] H := hP
  have hD : va_D A [(h, .inr (2, [.ref q11, .int 0])), (q11, .inl (cI, 300, .inl (fun _ => 0)))] := hD
  rw [hQ]
  have hP9 : va_P D vwCl [(h, .inr (2, [.ref q11, .int (nI 0)])), (q11, .inl (cI, 300, .inl (fun _ => 0)))] H := hP
  have hD9 : va_D A [(h, .inr (2, [.ref q11, .int (nI 0)])), (q11, .inl (cI, 300, .inl (fun _ => 0)))] := hD
  exact W.vret hx hb hr (fun t ht hW => ⟨⟨(), rfl, trivial, ⟨q11, by rw [ht]; exact hP9, va_K.moved hW.alike hK, hD9⟩⟩, hS.F ht⟩) hS.2.2 dX2_init_16

def rm_X2_init_400 : Room := ({ frames := 1, cells := 1, slots := 400, locals := 12 } : Room)
set_option maxHeartbeats 4000000 in
set_option maxRecDepth 100000 in
/-- Row(400) -/
theorem sc_X2_init_400 (l : Launch) (D : va_G) (cI : ClassId) (th : Option (Nat × Nat)) (sz : Nat) (h : Nat) (u : Int32)  : Met l yX2_init wsX2_init rm_X2_init_400 (va_Pc [.ref h, .int 400] (sm_PW D cI th [(h, .inr (2, [.null, .int u]))] sz)) (va_Qv (fun (_ : Unit) => True) (fun _ t => ∃ (b : Nat), sm_QW D cI (va_A [(h, .inr (2, [.null, .int u]))] sz) [(h, .inr (2, [.ref b, .int (nI 0)])), (b, .inl (cI, 400, .inl (fun _ => 0)))] t) (va_A [(h, .inr (2, [.null, .int u]))] sz)) 1 400 (va_A [(h, .inr (2, [.null, .int u]))] sz) := by
  refine Met.ofW (cc := cX2_init) (maxL := 2) (ret := none) (by decide) rfl ?_
  intro p e s m args below meth c s₁ B hml hv
  obtain ⟨rfl, hsz, hP, hK, hD0, hT⟩ := hv
  have hx := B.exec
  have hb := B.bytes
  have hr := B.returns
  have hts := atoms_spec (ws := wsX2_init) B.pre
  have hown : s.vm.findClass RX2 = some m.cls := findClass_of_methodNamed B.named
  have hlocks := B.notSynchronized
  have hin : meth.name = "<init>" := (name_of_methodNamed B.named B.method).1
  subst hsz
  have hD := hD0.self (sz := s.heap.size)
  generalize hAe : va_A [(h, .inr (2, [.null, .int u]))] s.heap.size = A at hD hT ⊢
  have hA : ∀ q : Nat, s.heap.size ≤ q → A q := fun q h => by rw [← hAe]; exact Or.inr h
  have hS : va_S A s.heap s.heap [] := va_S.rf
  have hl := lv_entry ([.ref h, .int 400]) (n := 2) (Nat.le_of_ble_eq_true rfl)
  rw [lg_entry_eq]
  generalize (lg_sl ([.ref h, .int 400]) ++ List.replicate (2 - (lg_sl ([.ref h, .int 400])).length) Slot.unset).toArray = ls at hl ⊢
  have hl : lv_has ls 2 [(0, .ref h), (1, .int 400)] := hl
  refine sm_name (fun Q hQ => ?_)
  have hf_9 := hts (.fieldLink RX2 9 "SeedMill$Row" "used" "I") (by decide +kernel)
  have hw_X2 : ∀ w ∈ wsX20, w ∈ wsX2_init := by decide +kernel
  have hf_15 := hts (.fieldLink RX2 15 "SeedMill$Row" "bytes" "[I") (by decide +kernel)
  refine lv_aload_n hx hb dX2_init_0 rfl (lv_at hl 0 rfl) ?_
  refine W.objInit hx hb hown (hts (.methodLink RX2 3 objectInit) (by decide +kernel)) (hts (.instanceMethod objectInit) (by decide +kernel)) (hts (.code objectInit ⟨#[0xb1]⟩ 1 none) (by decide +kernel)) rfl (by rw [hml]; exact hl.1) rfl dX2_init_1 (Nat.le_of_ble_eq_true rfl) (Nat.le_of_ble_eq_true rfl) ?_
  refine W.eq (g2 := F0 m 4 ls []) rfl ?_
  refine lv_aload_n hx hb dX2_init_4 rfl (lv_at hl 0 rfl) ?_
  refine lv_iconst (v := 0) hx hb dX2_init_5 (by decide) ?_
  refine va_put (D := D) (ci := 2) (v := .int 0) (ty := .int) (C := RX2) (T := TX2) (N := 2) hx hb hts hw_X2 tyX2 tyX2_ok nmX2 hown hK hP hD hS 0 rfl rfl 1 (by decide) hf_9 (fun _ h9 => h9) rfl (by decide +kernel) rfl rfl (Nat.le_of_ble_eq_true rfl) dX2_init_6 (fun H locs hP hD hS => ?_)
  have hP : va_P D vwCl [(h, .inr (2, [.null, .int 0]))] H := hP
  have hD : va_D A [(h, .inr (2, [.null, .int 0]))] := hD
  refine lv_aload_n hx hb dX2_init_9 rfl (lv_at hl 0 rfl) ?_
  refine lv_iload_n hx hb dX2_init_10 rfl (lv_at hl 1 rfl) ?_
  refine va_newa (atype := .int) (ty := .int) (n := 400) (N' := 400) (a0 := (400, .inl (fun _ => 0))) hx hb (hts (.arrayClass .int) (by decide +kernel)) rfl hK hP hD hS hA (fun _ => rfl) (nI_pos (n := 400) (by decide)) (nI_clamp (n := 400) (by decide)) (by show 400 * 4 ≤ 536870912; omega) (by show _ ≤ 1; omega) (by show _ ≤ 400; omega) dX2_init_11 (fun q11 cA H hK2 hP hD hS => ?_)
  have eI : cI = cA := sm_oneI hK2 (i := 0) (j := 1) rfl rfl
  subst eI
  clear hK2
  have hP : va_P D vwCl [(h, .inr (2, [.null, .int 0])), (q11, .inl (cI, 400, .inl (fun _ => 0)))] H := hP
  have hD : va_D A [(h, .inr (2, [.null, .int 0])), (q11, .inl (cI, 400, .inl (fun _ => 0)))] := hD
  refine va_putF (D := D) (ci := 2) (v := .ref q11) (ty := .array .int) (C := RX2) (T := TX2) (N := 2) hx hb hts hw_X2 tyX2 tyX2_ok nmX2 hown hK hP hD hS 0 rfl rfl 0 (by decide) hf_15 (fun _ h9 => h9) rfl hin rfl (by decide +kernel) rfl rfl (Nat.le_of_ble_eq_true rfl) dX2_init_13 (fun H locs hP hD hS => ?_)
  have hP : va_P D vwCl [(h, .inr (2, [.ref q11, .int 0])), (q11, .inl (cI, 400, .inl (fun _ => 0)))] H := hP
  have hD : va_D A [(h, .inr (2, [.ref q11, .int 0])), (q11, .inl (cI, 400, .inl (fun _ => 0)))] := hD
  rw [hQ]
  have hP9 : va_P D vwCl [(h, .inr (2, [.ref q11, .int (nI 0)])), (q11, .inl (cI, 400, .inl (fun _ => 0)))] H := hP
  have hD9 : va_D A [(h, .inr (2, [.ref q11, .int (nI 0)])), (q11, .inl (cI, 400, .inl (fun _ => 0)))] := hD
  exact W.vret hx hb hr (fun t ht hW => ⟨⟨(), rfl, trivial, ⟨q11, by rw [ht]; exact hP9, va_K.moved hW.alike hK, hD9⟩⟩, hS.F ht⟩) hS.2.2 dX2_init_16
