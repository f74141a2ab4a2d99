def rm_X4_interval_no : Room := ({ frames := 0, cells := 0, slots := 0, locals := 0 } : Room)
set_option maxHeartbeats 4000000 in
set_option maxRecDepth 100000 in
/-- interval: nothing is done -/
theorem sc_X4_interval_no (l : Launch) (D : va_G) (cI : ClassId) (th : Option (Nat × Nat)) (sz : Nat) (zm zrt zfi zsu zwo zro zdi zpa zin zow zke zva zle zdr : Nat) (flt is_ os_ sd ct iv dw ds : Int32) (k : Int32) (hno : k < 1 ∨ 1000 < k) : Met l yX4_interval wsX4_interval rm_X4_interval_no (va_Pc [.ref zm, .int k] (sm_PW D cI th [(zm, .inr (4, [.int flt, .ref zrt, .ref zfi, .ref zsu, .ref zwo, .ref zro, .int (nI 0), .ref zdi, .ref zpa, .ref zin, .int is_, .ref zow, .int os_, .int sd, .ref zke, .ref zva, .ref zle, .int ct, .int iv, .int dw, .ref zdr, .int ds]))] sz)) (va_Qi (fun (r : Int32) (_ : Unit) => r = 0) (fun _ t => sm_QW D cI (va_A [(zm, .inr (4, [.int flt, .ref zrt, .ref zfi, .ref zsu, .ref zwo, .ref zro, .int (nI 0), .ref zdi, .ref zpa, .ref zin, .int is_, .ref zow, .int os_, .int sd, .ref zke, .ref zva, .ref zle, .int ct, .int iv, .int dw, .ref zdr, .int ds]))] sz) [(zm, .inr (4, [.int flt, .ref zrt, .ref zfi, .ref zsu, .ref zwo, .ref zro, .int (nI 0), .ref zdi, .ref zpa, .ref zin, .int is_, .ref zow, .int os_, .int sd, .ref zke, .ref zva, .ref zle, .int ct, .int iv, .int dw, .ref zdr, .int ds]))] t) (va_A [(zm, .inr (4, [.int flt, .ref zrt, .ref zfi, .ref zsu, .ref zwo, .ref zro, .int (nI 0), .ref zdi, .ref zpa, .ref zin, .int is_, .ref zow, .int os_, .int sd, .ref zke, .ref zva, .ref zle, .int ct, .int iv, .int dw, .ref zdr, .int ds]))] sz)) 0 0 (va_A [(zm, .inr (4, [.int flt, .ref zrt, .ref zfi, .ref zsu, .ref zwo, .ref zro, .int (nI 0), .ref zdi, .ref zpa, .ref zin, .int is_, .ref zow, .int os_, .int sd, .ref zke, .ref zva, .ref zle, .int ct, .int iv, .int dw, .ref zdr, .int ds]))] sz) := by
  refine Met.ofW (cc := cX4_interval) (maxL := 2) (ret := (some .int)) (by decide) rfl ?_
  intro p e s m args below meth c s₁ B hml hv
  obtain ⟨rfl, hsz, hP, hK, hD0, hT⟩ := hv
  have hx := B.exec
  have hb := B.bytes
  have hr := B.returns
  have hts := atoms_spec (ws := wsX4_interval) B.pre
  have hown : s.vm.findClass RX4 = some m.cls := findClass_of_methodNamed B.named
  have hlocks := B.notSynchronized
  subst hsz
  have hD := hD0.self (sz := s.heap.size)
  generalize hAe : va_A [(zm, .inr (4, [.int flt, .ref zrt, .ref zfi, .ref zsu, .ref zwo, .ref zro, .int (nI 0), .ref zdi, .ref zpa, .ref zin, .int is_, .ref zow, .int os_, .int sd, .ref zke, .ref zva, .ref zle, .int ct, .int iv, .int dw, .ref zdr, .int ds]))] s.heap.size = A at hD hT ⊢
  have hA : ∀ q : Nat, s.heap.size ≤ q → A q := fun q h => by rw [← hAe]; exact Or.inr h
  have hS : va_S A s.heap s.heap [] := va_S.rf
  have hl := lv_entry ([.ref zm, .int k]) (n := 2) (Nat.le_of_ble_eq_true rfl)
  rw [lg_entry_eq]
  generalize (lg_sl ([.ref zm, .int k]) ++ List.replicate (2 - (lg_sl ([.ref zm, .int k])).length) Slot.unset).toArray = ls at hl ⊢
  have hl : lv_has ls 2 [(0, .ref zm), (1, .int k)] := hl
  refine sm_name (fun Q hQ => ?_)
  have hf_118 := hts (.fieldLink RX4 118 "SeedMillModel" "interval" "I") (by decide +kernel)
  have hw_X4 : ∀ w ∈ wsX40, w ∈ wsX4_interval := by decide +kernel
  refine lv_iload_n hx hb dX4_interval_0 rfl (lv_at hl 1 rfl) ?_
  refine lv_iconst (v := 1) hx hb dX4_interval_1 (by decide) ?_
  refine lv_icmp_lt (tgt := 12) hx hb dX4_interval_2 (by decide) (fun c_2 => ?_) (fun c_2 => ?_)
  ·
    refine lv_iconst (v := 0) hx hb dX4_interval_12 (by decide) ?_
    rw [hQ]
    have hP9 : va_P D vwCl [(zm, .inr (4, [.int flt, .ref zrt, .ref zfi, .ref zsu, .ref zwo, .ref zro, .int (nI 0), .ref zdi, .ref zpa, .ref zin, .int is_, .ref zow, .int os_, .int sd, .ref zke, .ref zva, .ref zle, .int ct, .int iv, .int dw, .ref zdr, .int ds]))] s.heap := hP
    have hD9 : va_D A [(zm, .inr (4, [.int flt, .ref zrt, .ref zfi, .ref zsu, .ref zwo, .ref zro, .int (nI 0), .ref zdi, .ref zpa, .ref zin, .int is_, .ref zow, .int os_, .int sd, .ref zke, .ref zva, .ref zle, .int ct, .int iv, .int dw, .ref zdr, .int ds]))] := hD
    exact W.iret (v := 0) hx hb hr (fun t ht hW => ⟨⟨0, (), rfl, rfl, ⟨by rw [ht]; exact hP9, va_K.moved hW.alike hK, hD9⟩⟩, hS.F ht⟩) hS.2.2 dX4_interval_13
  ·
    refine lv_iload_n hx hb dX4_interval_5 rfl (lv_at hl 1 rfl) ?_
    refine lv_sipush (v := 1000) hx hb dX4_interval_6 (by decide) ?_
    refine lv_icmp_le (tgt := 14) hx hb dX4_interval_9 (by decide) (fun c_9 => ?_) (fun c_9 => ?_)
    ·
      exact absurd c_9 (Int32.not_le.mpr (hno.resolve_left c_2))
    ·
      refine lv_iconst (v := 0) hx hb dX4_interval_12 (by decide) ?_
      rw [hQ]
      have hP9 : va_P D vwCl [(zm, .inr (4, [.int flt, .ref zrt, .ref zfi, .ref zsu, .ref zwo, .ref zro, .int (nI 0), .ref zdi, .ref zpa, .ref zin, .int is_, .ref zow, .int os_, .int sd, .ref zke, .ref zva, .ref zle, .int ct, .int iv, .int dw, .ref zdr, .int ds]))] s.heap := hP
      have hD9 : va_D A [(zm, .inr (4, [.int flt, .ref zrt, .ref zfi, .ref zsu, .ref zwo, .ref zro, .int (nI 0), .ref zdi, .ref zpa, .ref zin, .int is_, .ref zow, .int os_, .int sd, .ref zke, .ref zva, .ref zle, .int ct, .int iv, .int dw, .ref zdr, .int ds]))] := hD
      exact W.iret (v := 0) hx hb hr (fun t ht hW => ⟨⟨0, (), rfl, rfl, ⟨by rw [ht]; exact hP9, va_K.moved hW.alike hK, hD9⟩⟩, hS.F ht⟩) hS.2.2 dX4_interval_13

def rm_X4_interval_ok : Room := ({ frames := 0, cells := 0, slots := 0, locals := 0 } : Room)
set_option maxHeartbeats 4000000 in
set_option maxRecDepth 100000 in
/-- interval -/
theorem sc_X4_interval_ok (l : Launch) (D : va_G) (cI : ClassId) (th : Option (Nat × Nat)) (sz : Nat) (zm zrt zfi zsu zwo zro zdi zpa zin zow zke zva zle zdr : Nat) (flt is_ os_ sd ct iv dw ds : Int32) (k : Int32) (h1 : ¬ k < 1) (h4 : ¬ 1000 < k) : Met l yX4_interval wsX4_interval rm_X4_interval_ok (va_Pc [.ref zm, .int k] (sm_PW D cI th [(zm, .inr (4, [.int flt, .ref zrt, .ref zfi, .ref zsu, .ref zwo, .ref zro, .int (nI 0), .ref zdi, .ref zpa, .ref zin, .int is_, .ref zow, .int os_, .int sd, .ref zke, .ref zva, .ref zle, .int ct, .int iv, .int dw, .ref zdr, .int ds]))] sz)) (va_Qi (fun (r : Int32) (_ : Unit) => r = 1) (fun _ t => sm_QW D cI (va_A [(zm, .inr (4, [.int flt, .ref zrt, .ref zfi, .ref zsu, .ref zwo, .ref zro, .int (nI 0), .ref zdi, .ref zpa, .ref zin, .int is_, .ref zow, .int os_, .int sd, .ref zke, .ref zva, .ref zle, .int ct, .int iv, .int dw, .ref zdr, .int ds]))] sz) [(zm, .inr (4, [.int flt, .ref zrt, .ref zfi, .ref zsu, .ref zwo, .ref zro, .int (nI 0), .ref zdi, .ref zpa, .ref zin, .int is_, .ref zow, .int os_, .int sd, .ref zke, .ref zva, .ref zle, .int ct, .int k, .int dw, .ref zdr, .int ds]))] t) (va_A [(zm, .inr (4, [.int flt, .ref zrt, .ref zfi, .ref zsu, .ref zwo, .ref zro, .int (nI 0), .ref zdi, .ref zpa, .ref zin, .int is_, .ref zow, .int os_, .int sd, .ref zke, .ref zva, .ref zle, .int ct, .int iv, .int dw, .ref zdr, .int ds]))] sz)) 0 0 (va_A [(zm, .inr (4, [.int flt, .ref zrt, .ref zfi, .ref zsu, .ref zwo, .ref zro, .int (nI 0), .ref zdi, .ref zpa, .ref zin, .int is_, .ref zow, .int os_, .int sd, .ref zke, .ref zva, .ref zle, .int ct, .int iv, .int dw, .ref zdr, .int ds]))] sz) := by
  refine Met.ofW (cc := cX4_interval) (maxL := 2) (ret := (some .int)) (by decide) rfl ?_
  intro p e s m args below meth c s₁ B hml hv
  obtain ⟨rfl, hsz, hP, hK, hD0, hT⟩ := hv
  have hx := B.exec
  have hb := B.bytes
  have hr := B.returns
  have hts := atoms_spec (ws := wsX4_interval) B.pre
  have hown : s.vm.findClass RX4 = some m.cls := findClass_of_methodNamed B.named
  have hlocks := B.notSynchronized
  subst hsz
  have hD := hD0.self (sz := s.heap.size)
  generalize hAe : va_A [(zm, .inr (4, [.int flt, .ref zrt, .ref zfi, .ref zsu, .ref zwo, .ref zro, .int (nI 0), .ref zdi, .ref zpa, .ref zin, .int is_, .ref zow, .int os_, .int sd, .ref zke, .ref zva, .ref zle, .int ct, .int iv, .int dw, .ref zdr, .int ds]))] s.heap.size = A at hD hT ⊢
  have hA : ∀ q : Nat, s.heap.size ≤ q → A q := fun q h => by rw [← hAe]; exact Or.inr h
  have hS : va_S A s.heap s.heap [] := va_S.rf
  have hl := lv_entry ([.ref zm, .int k]) (n := 2) (Nat.le_of_ble_eq_true rfl)
  rw [lg_entry_eq]
  generalize (lg_sl ([.ref zm, .int k]) ++ List.replicate (2 - (lg_sl ([.ref zm, .int k])).length) Slot.unset).toArray = ls at hl ⊢
  have hl : lv_has ls 2 [(0, .ref zm), (1, .int k)] := hl
  refine sm_name (fun Q hQ => ?_)
  have hf_118 := hts (.fieldLink RX4 118 "SeedMillModel" "interval" "I") (by decide +kernel)
  have hw_X4 : ∀ w ∈ wsX40, w ∈ wsX4_interval := by decide +kernel
  refine lv_iload_n hx hb dX4_interval_0 rfl (lv_at hl 1 rfl) ?_
  refine lv_iconst (v := 1) hx hb dX4_interval_1 (by decide) ?_
  refine lv_icmp_lt (tgt := 12) hx hb dX4_interval_2 (by decide) (fun c_2 => ?_) (fun c_2 => ?_)
  ·
    exact absurd c_2 h1
  ·
    refine lv_iload_n hx hb dX4_interval_5 rfl (lv_at hl 1 rfl) ?_
    refine lv_sipush (v := 1000) hx hb dX4_interval_6 (by decide) ?_
    refine lv_icmp_le (tgt := 14) hx hb dX4_interval_9 (by decide) (fun c_9 => ?_) (fun c_9 => ?_)
    ·
      refine lv_aload_n hx hb dX4_interval_14 rfl (lv_at hl 0 rfl) ?_
      refine lv_iload_n hx hb dX4_interval_15 rfl (lv_at hl 1 rfl) ?_
      refine va_put (D := D) (ci := 4) (v := .int k) (ty := .int) (C := RX4) (T := TX4) (N := 22) hx hb hts hw_X4 tyX4 tyX4_ok nmX4 hown hK hP hD hS 0 rfl rfl 18 (by decide) hf_118 (fun _ h9 => h9) rfl (by decide +kernel) rfl rfl (Nat.le_of_ble_eq_true rfl) dX4_interval_16 (fun H locs hP hD hS => ?_)
      have hP : va_P D vwCl [(zm, .inr (4, [.int flt, .ref zrt, .ref zfi, .ref zsu, .ref zwo, .ref zro, .int (nI 0), .ref zdi, .ref zpa, .ref zin, .int is_, .ref zow, .int os_, .int sd, .ref zke, .ref zva, .ref zle, .int ct, .int k, .int dw, .ref zdr, .int ds]))] H := hP
      have hD : va_D A [(zm, .inr (4, [.int flt, .ref zrt, .ref zfi, .ref zsu, .ref zwo, .ref zro, .int (nI 0), .ref zdi, .ref zpa, .ref zin, .int is_, .ref zow, .int os_, .int sd, .ref zke, .ref zva, .ref zle, .int ct, .int k, .int dw, .ref zdr, .int ds]))] := hD
      refine lv_iconst (v := 1) hx hb dX4_interval_19 (by decide) ?_
      rw [hQ]
      have hP9 : va_P D vwCl [(zm, .inr (4, [.int flt, .ref zrt, .ref zfi, .ref zsu, .ref zwo, .ref zro, .int (nI 0), .ref zdi, .ref zpa, .ref zin, .int is_, .ref zow, .int os_, .int sd, .ref zke, .ref zva, .ref zle, .int ct, .int k, .int dw, .ref zdr, .int ds]))] H := hP
      have hD9 : va_D A [(zm, .inr (4, [.int flt, .ref zrt, .ref zfi, .ref zsu, .ref zwo, .ref zro, .int (nI 0), .ref zdi, .ref zpa, .ref zin, .int is_, .ref zow, .int os_, .int sd, .ref zke, .ref zva, .ref zle, .int ct, .int k, .int dw, .ref zdr, .int ds]))] := hD
      exact W.iret (v := 1) hx hb hr (fun t ht hW => ⟨⟨1, (), rfl, rfl, ⟨by rw [ht]; exact hP9, va_K.moved hW.alike hK, hD9⟩⟩, hS.F ht⟩) hS.2.2 dX4_interval_20
    ·
      exact absurd (Int32.not_lt.mp h4) c_9

def rm_X4_forget_no : Room := ({ frames := 0, cells := 0, slots := 0, locals := 0 } : Room)
set_option maxHeartbeats 4000000 in
set_option maxRecDepth 100000 in
/-- forget, not seeded -/
theorem sc_X4_forget_no (l : Launch) (D : va_G) (cI : ClassId) (th : Option (Nat × Nat)) (sz : Nat) (zm zrt zfi zsu zwo zro zdi zpa zin zow zke zva zle zdr : Nat) (flt is_ os_ sd ct iv dw ds : Int32)   : Met l yX4_forget wsX4_forget rm_X4_forget_no (va_Pc [.ref zm] (sm_PW D cI th [(zm, .inr (4, [.int flt, .ref zrt, .ref zfi, .ref zsu, .ref zwo, .ref zro, .int (nI 0), .ref zdi, .ref zpa, .ref zin, .int is_, .ref zow, .int os_, .int 0, .ref zke, .ref zva, .ref zle, .int (nI 0), .int iv, .int dw, .ref zdr, .int ds]))] sz)) (va_Qi (fun (r : Int32) (_ : Unit) => r = 0) (fun _ t => sm_QW D cI (va_A [(zm, .inr (4, [.int flt, .ref zrt, .ref zfi, .ref zsu, .ref zwo, .ref zro, .int (nI 0), .ref zdi, .ref zpa, .ref zin, .int is_, .ref zow, .int os_, .int 0, .ref zke, .ref zva, .ref zle, .int (nI 0), .int iv, .int dw, .ref zdr, .int ds]))] sz) [(zm, .inr (4, [.int flt, .ref zrt, .ref zfi, .ref zsu, .ref zwo, .ref zro, .int (nI 0), .ref zdi, .ref zpa, .ref zin, .int is_, .ref zow, .int os_, .int 0, .ref zke, .ref zva, .ref zle, .int (nI 0), .int iv, .int dw, .ref zdr, .int ds]))] t) (va_A [(zm, .inr (4, [.int flt, .ref zrt, .ref zfi, .ref zsu, .ref zwo, .ref zro, .int (nI 0), .ref zdi, .ref zpa, .ref zin, .int is_, .ref zow, .int os_, .int 0, .ref zke, .ref zva, .ref zle, .int (nI 0), .int iv, .int dw, .ref zdr, .int ds]))] sz)) 0 0 (va_A [(zm, .inr (4, [.int flt, .ref zrt, .ref zfi, .ref zsu, .ref zwo, .ref zro, .int (nI 0), .ref zdi, .ref zpa, .ref zin, .int is_, .ref zow, .int os_, .int 0, .ref zke, .ref zva, .ref zle, .int (nI 0), .int iv, .int dw, .ref zdr, .int ds]))] sz) := by
  refine Met.ofW (cc := cX4_forget) (maxL := 2) (ret := (some .int)) (by decide) rfl ?_
  intro p e s m args below meth c s₁ B hml hv
  obtain ⟨rfl, hsz, hP, hK, hD0, hT⟩ := hv
  have hx := B.exec
  have hb := B.bytes
  have hr := B.returns
  have hts := atoms_spec (ws := wsX4_forget) B.pre
  have hown : s.vm.findClass RX4 = some m.cls := findClass_of_methodNamed B.named
  have hlocks := B.notSynchronized
  subst hsz
  have hD := hD0.self (sz := s.heap.size)
  generalize hAe : va_A [(zm, .inr (4, [.int flt, .ref zrt, .ref zfi, .ref zsu, .ref zwo, .ref zro, .int (nI 0), .ref zdi, .ref zpa, .ref zin, .int is_, .ref zow, .int os_, .int 0, .ref zke, .ref zva, .ref zle, .int (nI 0), .int iv, .int dw, .ref zdr, .int ds]))] s.heap.size = A at hD hT ⊢
  have hA : ∀ q : Nat, s.heap.size ≤ q → A q := fun q h => by rw [← hAe]; exact Or.inr h
  have hS : va_S A s.heap s.heap [] := va_S.rf
  have hl := lv_entry ([.ref zm]) (n := 2) (Nat.le_of_ble_eq_true rfl)
  rw [lg_entry_eq]
  generalize (lg_sl ([.ref zm]) ++ List.replicate (2 - (lg_sl ([.ref zm])).length) Slot.unset).toArray = ls at hl ⊢
  have hl : lv_has ls 2 [(0, .ref zm)] := hl
  refine sm_name (fun Q hQ => ?_)
  have hf_165 := hts (.fieldLink RX4 165 "SeedMillModel" "isSeeded" "Z") (by decide +kernel)
  have hw_X4 : ∀ w ∈ wsX40, w ∈ wsX4_forget := by decide +kernel
  have hf_169 := hts (.fieldLink RX4 169 "SeedMillModel" "counter" "I") (by decide +kernel)
  have hf_172 := hts (.fieldLink RX4 172 "SeedMillModel" "drawnSize" "I") (by decide +kernel)
  refine lv_aload_n hx hb dX4_forget_0 rfl (lv_at hl 0 rfl) ?_
  refine va_get (D := D) (ci := 4) (v := .int 0) (C := RX4) (T := TX4) (N := 22) hx hb hts hw_X4 hown hK hP 0 rfl rfl 13 (by decide) hf_165 (fun _ h9 => h9) rfl dX4_forget_1 ?_
  refine lv_istore_n (lv' := [(1, .int 0), (0, .ref zm)]) hx hb dX4_forget_4 rfl hl (by decide) rfl (fun ls hl => ?_)
  refine lv_aload_n hx hb dX4_forget_5 rfl (lv_at hl 1 rfl) ?_
  refine lv_iconst (v := 0) hx hb dX4_forget_6 (by decide) ?_
  refine va_put (D := D) (ci := 4) (v := .int 0) (ty := .boolean) (C := RX4) (T := TX4) (N := 22) hx hb hts hw_X4 tyX4 tyX4_ok nmX4 hown hK hP hD hS 0 rfl rfl 13 (by decide) hf_165 (fun _ h9 => h9) rfl (by decide +kernel) rfl rfl (Nat.le_of_ble_eq_true rfl) dX4_forget_7 (fun H locs hP hD hS => ?_)
  have hP : va_P D vwCl [(zm, .inr (4, [.int flt, .ref zrt, .ref zfi, .ref zsu, .ref zwo, .ref zro, .int (nI 0), .ref zdi, .ref zpa, .ref zin, .int is_, .ref zow, .int os_, .int 0, .ref zke, .ref zva, .ref zle, .int (nI 0), .int iv, .int dw, .ref zdr, .int ds]))] H := hP
  have hD : va_D A [(zm, .inr (4, [.int flt, .ref zrt, .ref zfi, .ref zsu, .ref zwo, .ref zro, .int (nI 0), .ref zdi, .ref zpa, .ref zin, .int is_, .ref zow, .int os_, .int 0, .ref zke, .ref zva, .ref zle, .int (nI 0), .int iv, .int dw, .ref zdr, .int ds]))] := hD
  refine lv_aload_n hx hb dX4_forget_10 rfl (lv_at hl 1 rfl) ?_
  refine lv_iconst (v := 0) hx hb dX4_forget_11 (by decide) ?_
  refine va_put (D := D) (ci := 4) (v := .int 0) (ty := .int) (C := RX4) (T := TX4) (N := 22) hx hb hts hw_X4 tyX4 tyX4_ok nmX4 hown hK hP hD hS 0 rfl rfl 17 (by decide) hf_169 (fun _ h9 => h9) rfl (by decide +kernel) rfl rfl (Nat.le_of_ble_eq_true rfl) dX4_forget_12 (fun H locs hP hD hS => ?_)
  have hP : va_P D vwCl [(zm, .inr (4, [.int flt, .ref zrt, .ref zfi, .ref zsu, .ref zwo, .ref zro, .int (nI 0), .ref zdi, .ref zpa, .ref zin, .int is_, .ref zow, .int os_, .int 0, .ref zke, .ref zva, .ref zle, .int 0, .int iv, .int dw, .ref zdr, .int ds]))] H := hP
  have hD : va_D A [(zm, .inr (4, [.int flt, .ref zrt, .ref zfi, .ref zsu, .ref zwo, .ref zro, .int (nI 0), .ref zdi, .ref zpa, .ref zin, .int is_, .ref zow, .int os_, .int 0, .ref zke, .ref zva, .ref zle, .int 0, .int iv, .int dw, .ref zdr, .int ds]))] := hD
  refine lv_aload_n hx hb dX4_forget_15 rfl (lv_at hl 1 rfl) ?_
  refine lv_iload_n hx hb dX4_forget_16 rfl (lv_at hl 0 rfl) ?_
  refine lv_if_eq (tgt := 24) hx hb dX4_forget_17 (by decide) (fun c_17 => ?_) (fun c_17 => ?_)
  ·
    refine lv_aload_n hx hb dX4_forget_24 rfl (lv_at hl 1 rfl) ?_
    refine va_get (D := D) (ci := 4) (v := .int ds) (C := RX4) (T := TX4) (N := 22) hx hb hts hw_X4 hown hK hP 0 rfl rfl 21 (by decide) hf_172 (fun _ h9 => h9) rfl dX4_forget_25 ?_
    refine va_put (D := D) (ci := 4) (v := .int ds) (ty := .int) (C := RX4) (T := TX4) (N := 22) hx hb hts hw_X4 tyX4 tyX4_ok nmX4 hown hK hP hD hS 0 rfl rfl 21 (by decide) hf_172 (fun _ h9 => h9) rfl (by decide +kernel) rfl rfl (Nat.le_of_ble_eq_true rfl) dX4_forget_28 (fun H locs hP hD hS => ?_)
    have hP : va_P D vwCl [(zm, .inr (4, [.int flt, .ref zrt, .ref zfi, .ref zsu, .ref zwo, .ref zro, .int (nI 0), .ref zdi, .ref zpa, .ref zin, .int is_, .ref zow, .int os_, .int 0, .ref zke, .ref zva, .ref zle, .int 0, .int iv, .int dw, .ref zdr, .int ds]))] H := hP
    have hD : va_D A [(zm, .inr (4, [.int flt, .ref zrt, .ref zfi, .ref zsu, .ref zwo, .ref zro, .int (nI 0), .ref zdi, .ref zpa, .ref zin, .int is_, .ref zow, .int os_, .int 0, .ref zke, .ref zva, .ref zle, .int 0, .int iv, .int dw, .ref zdr, .int ds]))] := hD
    refine lv_iload_n hx hb dX4_forget_31 rfl (lv_at hl 0 rfl) ?_
    refine lv_if_eq (tgt := 39) hx hb dX4_forget_32 (by decide) (fun c_32 => ?_) (fun c_32 => ?_)
    ·
      refine lv_iconst (v := 0) hx hb dX4_forget_39 (by decide) ?_
      rw [hQ]
      have hP9 : va_P D vwCl [(zm, .inr (4, [.int flt, .ref zrt, .ref zfi, .ref zsu, .ref zwo, .ref zro, .int (nI 0), .ref zdi, .ref zpa, .ref zin, .int is_, .ref zow, .int os_, .int 0, .ref zke, .ref zva, .ref zle, .int (nI 0), .int iv, .int dw, .ref zdr, .int ds]))] H := hP
      have hD9 : va_D A [(zm, .inr (4, [.int flt, .ref zrt, .ref zfi, .ref zsu, .ref zwo, .ref zro, .int (nI 0), .ref zdi, .ref zpa, .ref zin, .int is_, .ref zow, .int os_, .int 0, .ref zke, .ref zva, .ref zle, .int (nI 0), .int iv, .int dw, .ref zdr, .int ds]))] := hD
      exact W.iret (v := 0) hx hb hr (fun t ht hW => ⟨⟨0, (), rfl, rfl, ⟨by rw [ht]; exact hP9, va_K.moved hW.alike hK, hD9⟩⟩, hS.F ht⟩) hS.2.2 dX4_forget_40
    ·
      exact absurd c_32 (by decide)
  ·
    exact absurd c_17 (by decide)

def rm_X4_forget_ok : Room := ({ frames := 0, cells := 0, slots := 0, locals := 0 } : Room)
set_option maxHeartbeats 4000000 in
set_option maxRecDepth 100000 in
/-- forget -/
theorem sc_X4_forget_ok (l : Launch) (D : va_G) (cI : ClassId) (th : Option (Nat × Nat)) (sz : Nat) (zm zrt zfi zsu zwo zro zdi zpa zin zow zke zva zle zdr : Nat) (flt is_ os_ sd ct iv dw ds : Int32)   : Met l yX4_forget wsX4_forget rm_X4_forget_ok (va_Pc [.ref zm] (sm_PW D cI th [(zm, .inr (4, [.int flt, .ref zrt, .ref zfi, .ref zsu, .ref zwo, .ref zro, .int (nI 0), .ref zdi, .ref zpa, .ref zin, .int is_, .ref zow, .int os_, .int 1, .ref zke, .ref zva, .ref zle, .int ct, .int iv, .int dw, .ref zdr, .int ds]))] sz)) (va_Qi (fun (r : Int32) (_ : Unit) => r = 1) (fun _ t => sm_QW D cI (va_A [(zm, .inr (4, [.int flt, .ref zrt, .ref zfi, .ref zsu, .ref zwo, .ref zro, .int (nI 0), .ref zdi, .ref zpa, .ref zin, .int is_, .ref zow, .int os_, .int 1, .ref zke, .ref zva, .ref zle, .int ct, .int iv, .int dw, .ref zdr, .int ds]))] sz) [(zm, .inr (4, [.int flt, .ref zrt, .ref zfi, .ref zsu, .ref zwo, .ref zro, .int (nI 0), .ref zdi, .ref zpa, .ref zin, .int is_, .ref zow, .int os_, .int 0, .ref zke, .ref zva, .ref zle, .int (nI 0), .int iv, .int dw, .ref zdr, .int (nI 0)]))] t) (va_A [(zm, .inr (4, [.int flt, .ref zrt, .ref zfi, .ref zsu, .ref zwo, .ref zro, .int (nI 0), .ref zdi, .ref zpa, .ref zin, .int is_, .ref zow, .int os_, .int 1, .ref zke, .ref zva, .ref zle, .int ct, .int iv, .int dw, .ref zdr, .int ds]))] sz)) 0 0 (va_A [(zm, .inr (4, [.int flt, .ref zrt, .ref zfi, .ref zsu, .ref zwo, .ref zro, .int (nI 0), .ref zdi, .ref zpa, .ref zin, .int is_, .ref zow, .int os_, .int 1, .ref zke, .ref zva, .ref zle, .int ct, .int iv, .int dw, .ref zdr, .int ds]))] sz) := by
  refine Met.ofW (cc := cX4_forget) (maxL := 2) (ret := (some .int)) (by decide) rfl ?_
  intro p e s m args below meth c s₁ B hml hv
  obtain ⟨rfl, hsz, hP, hK, hD0, hT⟩ := hv
  have hx := B.exec
  have hb := B.bytes
  have hr := B.returns
  have hts := atoms_spec (ws := wsX4_forget) B.pre
  have hown : s.vm.findClass RX4 = some m.cls := findClass_of_methodNamed B.named
  have hlocks := B.notSynchronized
  subst hsz
  have hD := hD0.self (sz := s.heap.size)
  generalize hAe : va_A [(zm, .inr (4, [.int flt, .ref zrt, .ref zfi, .ref zsu, .ref zwo, .ref zro, .int (nI 0), .ref zdi, .ref zpa, .ref zin, .int is_, .ref zow, .int os_, .int 1, .ref zke, .ref zva, .ref zle, .int ct, .int iv, .int dw, .ref zdr, .int ds]))] s.heap.size = A at hD hT ⊢
  have hA : ∀ q : Nat, s.heap.size ≤ q → A q := fun q h => by rw [← hAe]; exact Or.inr h
  have hS : va_S A s.heap s.heap [] := va_S.rf
  have hl := lv_entry ([.ref zm]) (n := 2) (Nat.le_of_ble_eq_true rfl)
  rw [lg_entry_eq]
  generalize (lg_sl ([.ref zm]) ++ List.replicate (2 - (lg_sl ([.ref zm])).length) Slot.unset).toArray = ls at hl ⊢
  have hl : lv_has ls 2 [(0, .ref zm)] := hl
  refine sm_name (fun Q hQ => ?_)
  have hf_165 := hts (.fieldLink RX4 165 "SeedMillModel" "isSeeded" "Z") (by decide +kernel)
  have hw_X4 : ∀ w ∈ wsX40, w ∈ wsX4_forget := by decide +kernel
  have hf_169 := hts (.fieldLink RX4 169 "SeedMillModel" "counter" "I") (by decide +kernel)
  have hf_172 := hts (.fieldLink RX4 172 "SeedMillModel" "drawnSize" "I") (by decide +kernel)
  refine lv_aload_n hx hb dX4_forget_0 rfl (lv_at hl 0 rfl) ?_
  refine va_get (D := D) (ci := 4) (v := .int 1) (C := RX4) (T := TX4) (N := 22) hx hb hts hw_X4 hown hK hP 0 rfl rfl 13 (by decide) hf_165 (fun _ h9 => h9) rfl dX4_forget_1 ?_
  refine lv_istore_n (lv' := [(1, .int 1), (0, .ref zm)]) hx hb dX4_forget_4 rfl hl (by decide) rfl (fun ls hl => ?_)
  refine lv_aload_n hx hb dX4_forget_5 rfl (lv_at hl 1 rfl) ?_
  refine lv_iconst (v := 0) hx hb dX4_forget_6 (by decide) ?_
  refine va_put (D := D) (ci := 4) (v := .int 0) (ty := .boolean) (C := RX4) (T := TX4) (N := 22) hx hb hts hw_X4 tyX4 tyX4_ok nmX4 hown hK hP hD hS 0 rfl rfl 13 (by decide) hf_165 (fun _ h9 => h9) rfl (by decide +kernel) rfl rfl (Nat.le_of_ble_eq_true rfl) dX4_forget_7 (fun H locs hP hD hS => ?_)
  have hP : va_P D vwCl [(zm, .inr (4, [.int flt, .ref zrt, .ref zfi, .ref zsu, .ref zwo, .ref zro, .int (nI 0), .ref zdi, .ref zpa, .ref zin, .int is_, .ref zow, .int os_, .int 0, .ref zke, .ref zva, .ref zle, .int ct, .int iv, .int dw, .ref zdr, .int ds]))] H := hP
  have hD : va_D A [(zm, .inr (4, [.int flt, .ref zrt, .ref zfi, .ref zsu, .ref zwo, .ref zro, .int (nI 0), .ref zdi, .ref zpa, .ref zin, .int is_, .ref zow, .int os_, .int 0, .ref zke, .ref zva, .ref zle, .int ct, .int iv, .int dw, .ref zdr, .int ds]))] := hD
  refine lv_aload_n hx hb dX4_forget_10 rfl (lv_at hl 1 rfl) ?_
  refine lv_iconst (v := 0) hx hb dX4_forget_11 (by decide) ?_
  refine va_put (D := D) (ci := 4) (v := .int 0) (ty := .int) (C := RX4) (T := TX4) (N := 22) hx hb hts hw_X4 tyX4 tyX4_ok nmX4 hown hK hP hD hS 0 rfl rfl 17 (by decide) hf_169 (fun _ h9 => h9) rfl (by decide +kernel) rfl rfl (Nat.le_of_ble_eq_true rfl) dX4_forget_12 (fun H locs hP hD hS => ?_)
  have hP : va_P D vwCl [(zm, .inr (4, [.int flt, .ref zrt, .ref zfi, .ref zsu, .ref zwo, .ref zro, .int (nI 0), .ref zdi, .ref zpa, .ref zin, .int is_, .ref zow, .int os_, .int 0, .ref zke, .ref zva, .ref zle, .int 0, .int iv, .int dw, .ref zdr, .int ds]))] H := hP
  have hD : va_D A [(zm, .inr (4, [.int flt, .ref zrt, .ref zfi, .ref zsu, .ref zwo, .ref zro, .int (nI 0), .ref zdi, .ref zpa, .ref zin, .int is_, .ref zow, .int os_, .int 0, .ref zke, .ref zva, .ref zle, .int 0, .int iv, .int dw, .ref zdr, .int ds]))] := hD
  refine lv_aload_n hx hb dX4_forget_15 rfl (lv_at hl 1 rfl) ?_
  refine lv_iload_n hx hb dX4_forget_16 rfl (lv_at hl 0 rfl) ?_
  refine lv_if_eq (tgt := 24) hx hb dX4_forget_17 (by decide) (fun c_17 => ?_) (fun c_17 => ?_)
  ·
    exact absurd c_17 (by decide)
  ·
    refine lv_iconst (v := 0) hx hb dX4_forget_20 (by decide) ?_
    refine lv_goto (tgt := 28) hx hb dX4_forget_21 (by decide) ?_
    refine va_put (D := D) (ci := 4) (v := .int 0) (ty := .int) (C := RX4) (T := TX4) (N := 22) hx hb hts hw_X4 tyX4 tyX4_ok nmX4 hown hK hP hD hS 0 rfl rfl 21 (by decide) hf_172 (fun _ h9 => h9) rfl (by decide +kernel) rfl rfl (Nat.le_of_ble_eq_true rfl) dX4_forget_28 (fun H locs hP hD hS => ?_)
    have hP : va_P D vwCl [(zm, .inr (4, [.int flt, .ref zrt, .ref zfi, .ref zsu, .ref zwo, .ref zro, .int (nI 0), .ref zdi, .ref zpa, .ref zin, .int is_, .ref zow, .int os_, .int 0, .ref zke, .ref zva, .ref zle, .int 0, .int iv, .int dw, .ref zdr, .int 0]))] H := hP
    have hD : va_D A [(zm, .inr (4, [.int flt, .ref zrt, .ref zfi, .ref zsu, .ref zwo, .ref zro, .int (nI 0), .ref zdi, .ref zpa, .ref zin, .int is_, .ref zow, .int os_, .int 0, .ref zke, .ref zva, .ref zle, .int 0, .int iv, .int dw, .ref zdr, .int 0]))] := hD
    refine lv_iload_n hx hb dX4_forget_31 rfl (lv_at hl 0 rfl) ?_
    refine lv_if_eq (tgt := 39) hx hb dX4_forget_32 (by decide) (fun c_32 => ?_) (fun c_32 => ?_)
    ·
      exact absurd c_32 (by decide)
    ·
      refine lv_iconst (v := 1) hx hb dX4_forget_35 (by decide) ?_
      refine lv_goto (tgt := 40) hx hb dX4_forget_36 (by decide) ?_
      rw [hQ]
      have hP9 : va_P D vwCl [(zm, .inr (4, [.int flt, .ref zrt, .ref zfi, .ref zsu, .ref zwo, .ref zro, .int (nI 0), .ref zdi, .ref zpa, .ref zin, .int is_, .ref zow, .int os_, .int 0, .ref zke, .ref zva, .ref zle, .int (nI 0), .int iv, .int dw, .ref zdr, .int (nI 0)]))] H := hP
      have hD9 : va_D A [(zm, .inr (4, [.int flt, .ref zrt, .ref zfi, .ref zsu, .ref zwo, .ref zro, .int (nI 0), .ref zdi, .ref zpa, .ref zin, .int is_, .ref zow, .int os_, .int 0, .ref zke, .ref zva, .ref zle, .int (nI 0), .int iv, .int dw, .ref zdr, .int (nI 0)]))] := hD
      exact W.iret (v := 1) hx hb hr (fun t ht hW => ⟨⟨1, (), rfl, rfl, ⟨by rw [ht]; exact hP9, va_K.moved hW.alike hK, hD9⟩⟩, hS.F ht⟩) hS.2.2 dX4_forget_40

def rm_X4_own : Room := ({ frames := 0, cells := 0, slots := 0, locals := 0 } : Room)
set_option maxHeartbeats 4000000 in
set_option maxRecDepth 100000 in
/-- own -/
theorem sc_X4_own (l : Launch) (D : va_G) (cI : ClassId) (th : Option (Nat × Nat)) (sz : Nat) (zm zrt zfi zsu zwo zro zdi zpa zin zow zke zva zle zdr : Nat) (flt is_ os_ sd ct iv dw ds : Int32) (ni : Nat) (gi go : Nat → Int32) (hni : ni ≤ 300) : Met l yX4_own wsX4_own rm_X4_own (va_Pc [.ref zm] (sm_PW D cI th [(zm, .inr (4, [.int flt, .ref zrt, .ref zfi, .ref zsu, .ref zwo, .ref zro, .int (nI 0), .ref zdi, .ref zpa, .ref zin, .int (nI ni), .ref zow, .int os_, .int sd, .ref zke, .ref zva, .ref zle, .int ct, .int iv, .int dw, .ref zdr, .int ds])), (zin, .inl (cI, 300, .inl gi)), (zow, .inl (cI, 300, .inl go))] sz)) (va_Qi (fun (r : Int32) (_ : Unit) => r = nI ni) (fun _ t => sm_QW D cI (va_A [(zm, .inr (4, [.int flt, .ref zrt, .ref zfi, .ref zsu, .ref zwo, .ref zro, .int (nI 0), .ref zdi, .ref zpa, .ref zin, .int (nI ni), .ref zow, .int os_, .int sd, .ref zke, .ref zva, .ref zle, .int ct, .int iv, .int dw, .ref zdr, .int ds])), (zin, .inl (cI, 300, .inl gi)), (zow, .inl (cI, 300, .inl go))] sz) [(zm, .inr (4, [.int flt, .ref zrt, .ref zfi, .ref zsu, .ref zwo, .ref zro, .int (nI 0), .ref zdi, .ref zpa, .ref zin, .int (nI 0), .ref zow, .int (nI ni), .int sd, .ref zke, .ref zva, .ref zle, .int ct, .int iv, .int dw, .ref zdr, .int ds])), (zin, .inl (cI, 300, .inl gi)), (zow, .inl (cI, 300, .inl (sm_ap go 0 gi ni)))] t) (va_A [(zm, .inr (4, [.int flt, .ref zrt, .ref zfi, .ref zsu, .ref zwo, .ref zro, .int (nI 0), .ref zdi, .ref zpa, .ref zin, .int (nI ni), .ref zow, .int os_, .int sd, .ref zke, .ref zva, .ref zle, .int ct, .int iv, .int dw, .ref zdr, .int ds])), (zin, .inl (cI, 300, .inl gi)), (zow, .inl (cI, 300, .inl go))] sz)) 0 0 (va_A [(zm, .inr (4, [.int flt, .ref zrt, .ref zfi, .ref zsu, .ref zwo, .ref zro, .int (nI 0), .ref zdi, .ref zpa, .ref zin, .int (nI ni), .ref zow, .int os_, .int sd, .ref zke, .ref zva, .ref zle, .int ct, .int iv, .int dw, .ref zdr, .int ds])), (zin, .inl (cI, 300, .inl gi)), (zow, .inl (cI, 300, .inl go))] sz) := by
  refine Met.ofW (cc := cX4_own) (maxL := 2) (ret := (some .int)) (by decide) rfl ?_
  intro p e s m args below meth c s₁ B hml hv
  obtain ⟨rfl, hsz, hP, hK, hD0, hT⟩ := hv
  have hx := B.exec
  have hb := B.bytes
  have hr := B.returns
  have hts := atoms_spec (ws := wsX4_own) B.pre
  have hown : s.vm.findClass RX4 = some m.cls := findClass_of_methodNamed B.named
  have hlocks := B.notSynchronized
  subst hsz
  have hD := hD0.self (sz := s.heap.size)
  generalize hAe : va_A [(zm, .inr (4, [.int flt, .ref zrt, .ref zfi, .ref zsu, .ref zwo, .ref zro, .int (nI 0), .ref zdi, .ref zpa, .ref zin, .int (nI ni), .ref zow, .int os_, .int sd, .ref zke, .ref zva, .ref zle, .int ct, .int iv, .int dw, .ref zdr, .int ds])), (zin, .inl (cI, 300, .inl gi)), (zow, .inl (cI, 300, .inl go))] s.heap.size = A at hD hT ⊢
  have hA : ∀ q : Nat, s.heap.size ≤ q → A q := fun q h => by rw [← hAe]; exact Or.inr h
  have hS : va_S A s.heap s.heap [] := va_S.rf
  have hl := lv_entry ([.ref zm]) (n := 2) (Nat.le_of_ble_eq_true rfl)
  rw [lg_entry_eq]
  generalize (lg_sl ([.ref zm]) ++ List.replicate (2 - (lg_sl ([.ref zm])).length) Slot.unset).toArray = ls at hl ⊢
  have hl : lv_has ls 2 [(0, .ref zm)] := hl
  refine sm_name (fun Q hQ => ?_)
  have hf_154 := hts (.fieldLink RX4 154 "SeedMillModel" "inputSize" "I") (by decide +kernel)
  have hw_X4 : ∀ w ∈ wsX40, w ∈ wsX4_own := by decide +kernel
  have hf_106 := hts (.fieldLink RX4 106 "SeedMillModel" "ownKey" "[I") (by decide +kernel)
  have hf_103 := hts (.fieldLink RX4 103 "SeedMillModel" "input" "[I") (by decide +kernel)
  have hf_178 := hts (.fieldLink RX4 178 "SeedMillModel" "ownSize" "I") (by decide +kernel)
  refine lv_iconst (v := 0) hx hb dX4_own_0 (by decide) ?_
  refine lv_istore_n (lv' := [(1, .int 0), (0, .ref zm)]) hx hb dX4_own_1 rfl hl (by decide) rfl (fun ls hl => ?_)
  have lp2 : ∀ (zn : Nat) (i : Nat) (H : Heap) (locs : List Loc) (ls : Array Slot), ni - i < zn → i ≤ ni → va_P D vwCl [(zm, .inr (4, [.int flt, .ref zrt, .ref zfi, .ref zsu, .ref zwo, .ref zro, .int (nI 0), .ref zdi, .ref zpa, .ref zin, .int (nI ni), .ref zow, .int os_, .int sd, .ref zke, .ref zva, .ref zle, .int ct, .int iv, .int dw, .ref zdr, .int ds])), (zin, .inl (cI, 300, .inl gi)), (zow, .inl (cI, 300, .inl (sm_ap go 0 gi i)))] H → va_D A [(zm, .inr (4, [.int flt, .ref zrt, .ref zfi, .ref zsu, .ref zwo, .ref zro, .int (nI 0), .ref zdi, .ref zpa, .ref zin, .int (nI ni), .ref zow, .int os_, .int sd, .ref zke, .ref zva, .ref zle, .int ct, .int iv, .int dw, .ref zdr, .int ds])), (zin, .inl (cI, 300, .inl gi)), (zow, .inl (cI, 300, .inl (sm_ap go 0 gi i)))] → va_S A s.heap H locs → lv_has ls 2 [(1, .int (nI i)), (0, .ref zm)] → W p l e (headSpec wsX4_own rm_X4_own).room s m ([.ref zm] : List Value).toArray below meth c H locs 0 0 Q (F0 m 2 ls []) := by
    intro zn
    induction zn with
    | zero => intro i H locs ls hmu; exact absurd hmu (Nat.not_lt_zero _)
    | succ zn ih =>
      intro i H locs ls hmu hi_2 hP hD hS hl
      refine lv_iload_n hx hb dX4_own_2 rfl (lv_at hl 0 rfl) ?_
      refine lv_aload_n hx hb dX4_own_3 rfl (lv_at hl 1 rfl) ?_
      refine va_get (D := D) (ci := 4) (v := .int (nI ni)) (C := RX4) (T := TX4) (N := 22) hx hb hts hw_X4 hown hK hP 0 rfl rfl 10 (by decide) hf_154 (fun _ h9 => h9) rfl dX4_own_4 ?_
      refine lv_icmp_ge (tgt := 28) hx hb dX4_own_7 (by decide) (fun c_7 => ?_) (fun c_7 => ?_)
      ·
        have hex_2 : i = ni := by
          rcases Nat.lt_or_ge i (ni) with q | q
          · exact absurd c_7 (nI_ge q (by omega))
          · omega
        rw [hex_2] at hP hD
        have hP : va_P D vwCl [(zm, .inr (4, [.int flt, .ref zrt, .ref zfi, .ref zsu, .ref zwo, .ref zro, .int (nI 0), .ref zdi, .ref zpa, .ref zin, .int (nI ni), .ref zow, .int os_, .int sd, .ref zke, .ref zva, .ref zle, .int ct, .int iv, .int dw, .ref zdr, .int ds])), (zin, .inl (cI, 300, .inl gi)), (zow, .inl (cI, 300, .inl (sm_ap go 0 gi ni)))] H := hP
        have hD : va_D A [(zm, .inr (4, [.int flt, .ref zrt, .ref zfi, .ref zsu, .ref zwo, .ref zro, .int (nI 0), .ref zdi, .ref zpa, .ref zin, .int (nI ni), .ref zow, .int os_, .int sd, .ref zke, .ref zva, .ref zle, .int ct, .int iv, .int dw, .ref zdr, .int ds])), (zin, .inl (cI, 300, .inl gi)), (zow, .inl (cI, 300, .inl (sm_ap go 0 gi ni)))] := hD
        refine lv_aload_n hx hb dX4_own_28 rfl (lv_at hl 1 rfl) ?_
        refine lv_aload_n hx hb dX4_own_29 rfl (lv_at hl 1 rfl) ?_
        refine va_get (D := D) (ci := 4) (v := .int (nI ni)) (C := RX4) (T := TX4) (N := 22) hx hb hts hw_X4 hown hK hP 0 rfl rfl 10 (by decide) hf_154 (fun _ h9 => h9) rfl dX4_own_30 ?_
        refine va_put (D := D) (ci := 4) (v := .int (nI ni)) (ty := .int) (C := RX4) (T := TX4) (N := 22) hx hb hts hw_X4 tyX4 tyX4_ok nmX4 hown hK hP hD hS 0 rfl rfl 12 (by decide) hf_178 (fun _ h9 => h9) rfl (by decide +kernel) rfl rfl (Nat.le_of_ble_eq_true rfl) dX4_own_33 (fun H locs hP hD hS => ?_)
        have hP : va_P D vwCl [(zm, .inr (4, [.int flt, .ref zrt, .ref zfi, .ref zsu, .ref zwo, .ref zro, .int (nI 0), .ref zdi, .ref zpa, .ref zin, .int (nI ni), .ref zow, .int (nI ni), .int sd, .ref zke, .ref zva, .ref zle, .int ct, .int iv, .int dw, .ref zdr, .int ds])), (zin, .inl (cI, 300, .inl gi)), (zow, .inl (cI, 300, .inl (sm_ap go 0 gi ni)))] H := hP
        have hD : va_D A [(zm, .inr (4, [.int flt, .ref zrt, .ref zfi, .ref zsu, .ref zwo, .ref zro, .int (nI 0), .ref zdi, .ref zpa, .ref zin, .int (nI ni), .ref zow, .int (nI ni), .int sd, .ref zke, .ref zva, .ref zle, .int ct, .int iv, .int dw, .ref zdr, .int ds])), (zin, .inl (cI, 300, .inl gi)), (zow, .inl (cI, 300, .inl (sm_ap go 0 gi ni)))] := hD
        refine lv_aload_n hx hb dX4_own_36 rfl (lv_at hl 1 rfl) ?_
        refine lv_iconst (v := 0) hx hb dX4_own_37 (by decide) ?_
        refine va_put (D := D) (ci := 4) (v := .int 0) (ty := .int) (C := RX4) (T := TX4) (N := 22) hx hb hts hw_X4 tyX4 tyX4_ok nmX4 hown hK hP hD hS 0 rfl rfl 10 (by decide) hf_154 (fun _ h9 => h9) rfl (by decide +kernel) rfl rfl (Nat.le_of_ble_eq_true rfl) dX4_own_38 (fun H locs hP hD hS => ?_)
        have hP : va_P D vwCl [(zm, .inr (4, [.int flt, .ref zrt, .ref zfi, .ref zsu, .ref zwo, .ref zro, .int (nI 0), .ref zdi, .ref zpa, .ref zin, .int 0, .ref zow, .int (nI ni), .int sd, .ref zke, .ref zva, .ref zle, .int ct, .int iv, .int dw, .ref zdr, .int ds])), (zin, .inl (cI, 300, .inl gi)), (zow, .inl (cI, 300, .inl (sm_ap go 0 gi ni)))] H := hP
        have hD : va_D A [(zm, .inr (4, [.int flt, .ref zrt, .ref zfi, .ref zsu, .ref zwo, .ref zro, .int (nI 0), .ref zdi, .ref zpa, .ref zin, .int 0, .ref zow, .int (nI ni), .int sd, .ref zke, .ref zva, .ref zle, .int ct, .int iv, .int dw, .ref zdr, .int ds])), (zin, .inl (cI, 300, .inl gi)), (zow, .inl (cI, 300, .inl (sm_ap go 0 gi ni)))] := hD
        refine lv_aload_n hx hb dX4_own_41 rfl (lv_at hl 1 rfl) ?_
        refine va_get (D := D) (ci := 4) (v := .int (nI ni)) (C := RX4) (T := TX4) (N := 22) hx hb hts hw_X4 hown hK hP 0 rfl rfl 12 (by decide) hf_178 (fun _ h9 => h9) rfl dX4_own_42 ?_
        rw [hQ]
        have hP9 : va_P D vwCl [(zm, .inr (4, [.int flt, .ref zrt, .ref zfi, .ref zsu, .ref zwo, .ref zro, .int (nI 0), .ref zdi, .ref zpa, .ref zin, .int (nI 0), .ref zow, .int (nI ni), .int sd, .ref zke, .ref zva, .ref zle, .int ct, .int iv, .int dw, .ref zdr, .int ds])), (zin, .inl (cI, 300, .inl gi)), (zow, .inl (cI, 300, .inl (sm_ap go 0 gi ni)))] H := hP
        have hD9 : va_D A [(zm, .inr (4, [.int flt, .ref zrt, .ref zfi, .ref zsu, .ref zwo, .ref zro, .int (nI 0), .ref zdi, .ref zpa, .ref zin, .int (nI 0), .ref zow, .int (nI ni), .int sd, .ref zke, .ref zva, .ref zle, .int ct, .int iv, .int dw, .ref zdr, .int ds])), (zin, .inl (cI, 300, .inl gi)), (zow, .inl (cI, 300, .inl (sm_ap go 0 gi ni)))] := hD
        exact W.iret (v := nI ni) hx hb hr (fun t ht hW => ⟨⟨nI ni, (), rfl, rfl, ⟨by rw [ht]; exact hP9, va_K.moved hW.alike hK, hD9⟩⟩, hS.F ht⟩) hS.2.2 dX4_own_45
      ·
        have hlt_2 : i < ni := by
          rcases Nat.lt_or_ge i (ni) with q | q
          · exact q
          · exact absurd (nI_le q (by omega)) c_7
        refine lv_aload_n hx hb dX4_own_10 rfl (lv_at hl 1 rfl) ?_
        refine va_get (D := D) (ci := 4) (v := .ref zow) (C := RX4) (T := TX4) (N := 22) hx hb hts hw_X4 hown hK hP 0 rfl rfl 11 (by decide) hf_106 (fun _ h9 => h9) rfl dX4_own_11 ?_
        refine lv_iload_n hx hb dX4_own_14 rfl (lv_at hl 0 rfl) ?_
        refine lv_aload_n hx hb dX4_own_15 rfl (lv_at hl 1 rfl) ?_
        refine va_get (D := D) (ci := 4) (v := .ref zin) (C := RX4) (T := TX4) (N := 22) hx hb hts hw_X4 hown hK hP 0 rfl rfl 9 (by decide) hf_103 (fun _ h9 => h9) rfl dX4_own_16 ?_
        refine lv_iload_n hx hb dX4_own_19 rfl (lv_at hl 0 rfl) ?_
        refine va_iald (i := nI i) hx hb hK hP 1 0 rfl rfl (vp_in_nI (n := i) (by omega) (by omega)) dX4_own_20 ?_
        refine sm_top (z := gi i) (congrArg gi (nI_clamp (n := i) (by omega))) ?_
        refine va_iast (i := nI i) (x := gi i) hx hb hK hP hD hS 2 0 rfl rfl (vp_in_nI (n := i) (by omega) (by omega)) dX4_own_21 (fun H locs hP hD hS => ?_)
        rw [show Int32.toNatClampNeg (nI i) = i from nI_clamp (n := i) (by omega)] at hP hD
        have hP : va_P D vwCl [(zm, .inr (4, [.int flt, .ref zrt, .ref zfi, .ref zsu, .ref zwo, .ref zro, .int (nI 0), .ref zdi, .ref zpa, .ref zin, .int (nI ni), .ref zow, .int os_, .int sd, .ref zke, .ref zva, .ref zle, .int ct, .int iv, .int dw, .ref zdr, .int ds])), (zin, .inl (cI, 300, .inl gi)), (zow, .inl (cI, 300, .inl (upd (sm_ap go 0 gi i) i (gi i))))] H := hP
        have hD : va_D A [(zm, .inr (4, [.int flt, .ref zrt, .ref zfi, .ref zsu, .ref zwo, .ref zro, .int (nI 0), .ref zdi, .ref zpa, .ref zin, .int (nI ni), .ref zow, .int os_, .int sd, .ref zke, .ref zva, .ref zle, .int ct, .int iv, .int dw, .ref zdr, .int ds])), (zin, .inl (cI, 300, .inl gi)), (zow, .inl (cI, 300, .inl (upd (sm_ap go 0 gi i) i (gi i))))] := hD
        refine lv_iinc (v := nI (i + 1)) (lv' := [(1, .int (nI (i + 1))), (0, .ref zm)]) hx hb dX4_own_22 hl (k := 0) rfl (nI_1 i) (by decide) rfl (fun ls hl => ?_)
        refine lv_goto (tgt := 2) hx hb dX4_own_25 (by decide) ?_
        rw [sm_ap_s0] at hP hD
        exact ih (i + 1) _ _ _ (by omega) (by omega) hP hD hS (lv_sub hl [0, 1] rfl)
  exact lp2 _ 0 _ _ _ (Nat.lt_succ_self _) (Nat.zero_le _) (by rw [sm_ap_0]; exact hP) (by rw [sm_ap_0]; exact hD) hS (lv_sub hl [0, 1] rfl)

def rm_X4_out : Room := ({ frames := 0, cells := 0, slots := 0, locals := 0 } : Room)
set_option maxHeartbeats 4000000 in
set_option maxRecDepth 100000 in
/-- out -/
theorem sc_X4_out (l : Launch) (D : va_G) (cI : ClassId) (th : Option (Nat × Nat)) (sz : Nat) (zm zrt zfi zsu zwo zro zdi zpa zin zow zke zva zle zdr : Nat) (flt is_ os_ sd ct iv dw ds : Int32) (i : Int32) (nd : Nat) (gD : Nat → Int32) (hnd : nd ≤ 400) : Met l yX4_out wsX4_out rm_X4_out (va_Pc [.ref zm, .int i] (sm_PW D cI th [(zm, .inr (4, [.int flt, .ref zrt, .ref zfi, .ref zsu, .ref zwo, .ref zro, .int (nI 0), .ref zdi, .ref zpa, .ref zin, .int is_, .ref zow, .int os_, .int sd, .ref zke, .ref zva, .ref zle, .int ct, .int iv, .int dw, .ref zdr, .int (nI nd)])), (zdr, .inl (cI, 400, .inl gD))] sz)) (va_Qi (fun (r : Int32) (_ : Unit) => r = sm_at gD nd i) (fun _ t => sm_QW D cI (va_A [(zm, .inr (4, [.int flt, .ref zrt, .ref zfi, .ref zsu, .ref zwo, .ref zro, .int (nI 0), .ref zdi, .ref zpa, .ref zin, .int is_, .ref zow, .int os_, .int sd, .ref zke, .ref zva, .ref zle, .int ct, .int iv, .int dw, .ref zdr, .int (nI nd)])), (zdr, .inl (cI, 400, .inl gD))] sz) [(zm, .inr (4, [.int flt, .ref zrt, .ref zfi, .ref zsu, .ref zwo, .ref zro, .int (nI 0), .ref zdi, .ref zpa, .ref zin, .int is_, .ref zow, .int os_, .int sd, .ref zke, .ref zva, .ref zle, .int ct, .int iv, .int dw, .ref zdr, .int (nI nd)])), (zdr, .inl (cI, 400, .inl gD))] t) (va_A [(zm, .inr (4, [.int flt, .ref zrt, .ref zfi, .ref zsu, .ref zwo, .ref zro, .int (nI 0), .ref zdi, .ref zpa, .ref zin, .int is_, .ref zow, .int os_, .int sd, .ref zke, .ref zva, .ref zle, .int ct, .int iv, .int dw, .ref zdr, .int (nI nd)])), (zdr, .inl (cI, 400, .inl gD))] sz)) 0 0 (va_A [(zm, .inr (4, [.int flt, .ref zrt, .ref zfi, .ref zsu, .ref zwo, .ref zro, .int (nI 0), .ref zdi, .ref zpa, .ref zin, .int is_, .ref zow, .int os_, .int sd, .ref zke, .ref zva, .ref zle, .int ct, .int iv, .int dw, .ref zdr, .int (nI nd)])), (zdr, .inl (cI, 400, .inl gD))] sz) := by
  refine Met.ofW (cc := cX4_out) (maxL := 2) (ret := (some .int)) (by decide) rfl ?_
  intro p e s m args below meth c s₁ B hml hv
  obtain ⟨rfl, hsz, hP, hK, hD0, hT⟩ := hv
  have hx := B.exec
  have hb := B.bytes
  have hr := B.returns
  have hts := atoms_spec (ws := wsX4_out) B.pre
  have hown : s.vm.findClass RX4 = some m.cls := findClass_of_methodNamed B.named
  have hlocks := B.notSynchronized
  subst hsz
  have hD := hD0.self (sz := s.heap.size)
  generalize hAe : va_A [(zm, .inr (4, [.int flt, .ref zrt, .ref zfi, .ref zsu, .ref zwo, .ref zro, .int (nI 0), .ref zdi, .ref zpa, .ref zin, .int is_, .ref zow, .int os_, .int sd, .ref zke, .ref zva, .ref zle, .int ct, .int iv, .int dw, .ref zdr, .int (nI nd)])), (zdr, .inl (cI, 400, .inl gD))] s.heap.size = A at hD hT ⊢
  have hA : ∀ q : Nat, s.heap.size ≤ q → A q := fun q h => by rw [← hAe]; exact Or.inr h
  have hS : va_S A s.heap s.heap [] := va_S.rf
  have hl := lv_entry ([.ref zm, .int i]) (n := 2) (Nat.le_of_ble_eq_true rfl)
  rw [lg_entry_eq]
  generalize (lg_sl ([.ref zm, .int i]) ++ List.replicate (2 - (lg_sl ([.ref zm, .int i])).length) Slot.unset).toArray = ls at hl ⊢
  have hl : lv_has ls 2 [(0, .ref zm), (1, .int i)] := hl
  refine sm_name (fun Q hQ => ?_)
  have hf_172 := hts (.fieldLink RX4 172 "SeedMillModel" "drawnSize" "I") (by decide +kernel)
  have hw_X4 : ∀ w ∈ wsX40, w ∈ wsX4_out := by decide +kernel
  have hf_122 := hts (.fieldLink RX4 122 "SeedMillModel" "drawn" "[I") (by decide +kernel)
  refine lv_iload_n hx hb dX4_out_0 rfl (lv_at hl 1 rfl) ?_
  refine lv_if_lt (tgt := 21) hx hb dX4_out_1 (by decide) (fun c_1 => ?_) (fun c_1 => ?_)
  ·
    refine lv_iconst (v := (-1)) hx hb dX4_out_21 (by decide) ?_
    rw [hQ]
    have hP9 : va_P D vwCl [(zm, .inr (4, [.int flt, .ref zrt, .ref zfi, .ref zsu, .ref zwo, .ref zro, .int (nI 0), .ref zdi, .ref zpa, .ref zin, .int is_, .ref zow, .int os_, .int sd, .ref zke, .ref zva, .ref zle, .int ct, .int iv, .int dw, .ref zdr, .int (nI nd)])), (zdr, .inl (cI, 400, .inl gD))] s.heap := hP
    have hD9 : va_D A [(zm, .inr (4, [.int flt, .ref zrt, .ref zfi, .ref zsu, .ref zwo, .ref zro, .int (nI 0), .ref zdi, .ref zpa, .ref zin, .int is_, .ref zow, .int os_, .int sd, .ref zke, .ref zva, .ref zle, .int ct, .int iv, .int dw, .ref zdr, .int (nI nd)])), (zdr, .inl (cI, 400, .inl gD))] := hD
    exact W.iret (v := (-1)) hx hb hr (fun t ht hW => ⟨⟨(-1), (), rfl, (by unfold sm_at; rw [if_pos (by first | exact Or.inl c_1 | exact Or.inr c_9)]), ⟨by rw [ht]; exact hP9, va_K.moved hW.alike hK, hD9⟩⟩, hS.F ht⟩) hS.2.2 dX4_out_22
  ·
    refine lv_iload_n hx hb dX4_out_4 rfl (lv_at hl 1 rfl) ?_
    refine lv_aload_n hx hb dX4_out_5 rfl (lv_at hl 0 rfl) ?_
    refine va_get (D := D) (ci := 4) (v := .int (nI nd)) (C := RX4) (T := TX4) (N := 22) hx hb hts hw_X4 hown hK hP 0 rfl rfl 21 (by decide) hf_172 (fun _ h9 => h9) rfl dX4_out_6 ?_
    refine lv_icmp_ge (tgt := 21) hx hb dX4_out_9 (by decide) (fun c_9 => ?_) (fun c_9 => ?_)
    ·
      refine lv_iconst (v := (-1)) hx hb dX4_out_21 (by decide) ?_
      rw [hQ]
      have hP9 : va_P D vwCl [(zm, .inr (4, [.int flt, .ref zrt, .ref zfi, .ref zsu, .ref zwo, .ref zro, .int (nI 0), .ref zdi, .ref zpa, .ref zin, .int is_, .ref zow, .int os_, .int sd, .ref zke, .ref zva, .ref zle, .int ct, .int iv, .int dw, .ref zdr, .int (nI nd)])), (zdr, .inl (cI, 400, .inl gD))] s.heap := hP
      have hD9 : va_D A [(zm, .inr (4, [.int flt, .ref zrt, .ref zfi, .ref zsu, .ref zwo, .ref zro, .int (nI 0), .ref zdi, .ref zpa, .ref zin, .int is_, .ref zow, .int os_, .int sd, .ref zke, .ref zva, .ref zle, .int ct, .int iv, .int dw, .ref zdr, .int (nI nd)])), (zdr, .inl (cI, 400, .inl gD))] := hD
      exact W.iret (v := (-1)) hx hb hr (fun t ht hW => ⟨⟨(-1), (), rfl, (by unfold sm_at; rw [if_pos (by first | exact Or.inl c_1 | exact Or.inr c_9)]), ⟨by rw [ht]; exact hP9, va_K.moved hW.alike hK, hD9⟩⟩, hS.F ht⟩) hS.2.2 dX4_out_22
    ·
      refine lv_aload_n hx hb dX4_out_12 rfl (lv_at hl 0 rfl) ?_
      refine va_get (D := D) (ci := 4) (v := .ref zdr) (C := RX4) (T := TX4) (N := 22) hx hb hts hw_X4 hown hK hP 0 rfl rfl 20 (by decide) hf_122 (fun _ h9 => h9) rfl dX4_out_13 ?_
      refine lv_iload_n hx hb dX4_out_16 rfl (lv_at hl 1 rfl) ?_
      have hi0 : ∃ j : Nat, j < nd ∧ i = nI j := by
        rcases pk_ix i (n := nd) (by omega) with q | q | q
        · exact absurd q c_1
        · exact absurd q c_9
        · exact q
      obtain ⟨j, hj, ej⟩ := hi0
      have hin9 : vp_in i 400 := by rw [ej]; exact vp_in_nI (by omega) (by decide)
      refine va_iald (i := i) hx hb hK hP 1 0 rfl rfl hin9 dX4_out_17 ?_
      refine lv_goto (tgt := 22) hx hb dX4_out_18 (by decide) ?_
      rw [hQ]
      have hP9 : va_P D vwCl [(zm, .inr (4, [.int flt, .ref zrt, .ref zfi, .ref zsu, .ref zwo, .ref zro, .int (nI 0), .ref zdi, .ref zpa, .ref zin, .int is_, .ref zow, .int os_, .int sd, .ref zke, .ref zva, .ref zle, .int ct, .int iv, .int dw, .ref zdr, .int (nI nd)])), (zdr, .inl (cI, 400, .inl gD))] s.heap := hP
      have hD9 : va_D A [(zm, .inr (4, [.int flt, .ref zrt, .ref zfi, .ref zsu, .ref zwo, .ref zro, .int (nI 0), .ref zdi, .ref zpa, .ref zin, .int is_, .ref zow, .int os_, .int sd, .ref zke, .ref zva, .ref zle, .int ct, .int iv, .int dw, .ref zdr, .int (nI nd)])), (zdr, .inl (cI, 400, .inl gD))] := hD
      exact W.iret (v := gD (Int32.toNatClampNeg i)) hx hb hr (fun t ht hW => ⟨⟨gD (Int32.toNatClampNeg i), (), rfl, (by unfold sm_at; rw [if_neg (fun q => q.elim c_1 c_9)]), ⟨by rw [ht]; exact hP9, va_K.moved hW.alike hK, hD9⟩⟩, hS.F ht⟩) hS.2.2 dX4_out_22

def rm_X4_counter_ns : Room := ({ frames := 0, cells := 0, slots := 0, locals := 0 } : Room)
set_option maxHeartbeats 4000000 in
set_option maxRecDepth 100000 in
/-- counter, not seeded -/
theorem sc_X4_counter_ns (l : Launch) (D : va_G) (cI : ClassId) (th : Option (Nat × Nat)) (sz : Nat) (zm zrt zfi zsu zwo zro zdi zpa zin zow zke zva zle zdr : Nat) (flt is_ os_ sd ct iv dw ds : Int32)   : Met l yX4_counter wsX4_counter rm_X4_counter_ns (va_Pc [.ref zm] (sm_PW D cI th [(zm, .inr (4, [.int flt, .ref zrt, .ref zfi, .ref zsu, .ref zwo, .ref zro, .int (nI 0), .ref zdi, .ref zpa, .ref zin, .int is_, .ref zow, .int os_, .int 0, .ref zke, .ref zva, .ref zle, .int ct, .int iv, .int dw, .ref zdr, .int ds]))] sz)) (va_Qi (fun (r : Int32) (_ : Unit) => r = 0) (fun _ t => sm_QW D cI (va_A [(zm, .inr (4, [.int flt, .ref zrt, .ref zfi, .ref zsu, .ref zwo, .ref zro, .int (nI 0), .ref zdi, .ref zpa, .ref zin, .int is_, .ref zow, .int os_, .int 0, .ref zke, .ref zva, .ref zle, .int ct, .int iv, .int dw, .ref zdr, .int ds]))] sz) [(zm, .inr (4, [.int flt, .ref zrt, .ref zfi, .ref zsu, .ref zwo, .ref zro, .int (nI 0), .ref zdi, .ref zpa, .ref zin, .int is_, .ref zow, .int os_, .int 0, .ref zke, .ref zva, .ref zle, .int ct, .int iv, .int dw, .ref zdr, .int ds]))] t) (va_A [(zm, .inr (4, [.int flt, .ref zrt, .ref zfi, .ref zsu, .ref zwo, .ref zro, .int (nI 0), .ref zdi, .ref zpa, .ref zin, .int is_, .ref zow, .int os_, .int 0, .ref zke, .ref zva, .ref zle, .int ct, .int iv, .int dw, .ref zdr, .int ds]))] sz)) 0 0 (va_A [(zm, .inr (4, [.int flt, .ref zrt, .ref zfi, .ref zsu, .ref zwo, .ref zro, .int (nI 0), .ref zdi, .ref zpa, .ref zin, .int is_, .ref zow, .int os_, .int 0, .ref zke, .ref zva, .ref zle, .int ct, .int iv, .int dw, .ref zdr, .int ds]))] sz) := by
  refine Met.ofW (cc := cX4_counter) (maxL := 1) (ret := (some .int)) (by decide) rfl ?_
  intro p e s m args below meth c s₁ B hml hv
  obtain ⟨rfl, hsz, hP, hK, hD0, hT⟩ := hv
  have hx := B.exec
  have hb := B.bytes
  have hr := B.returns
  have hts := atoms_spec (ws := wsX4_counter) B.pre
  have hown : s.vm.findClass RX4 = some m.cls := findClass_of_methodNamed B.named
  have hlocks := B.notSynchronized
  subst hsz
  have hD := hD0.self (sz := s.heap.size)
  generalize hAe : va_A [(zm, .inr (4, [.int flt, .ref zrt, .ref zfi, .ref zsu, .ref zwo, .ref zro, .int (nI 0), .ref zdi, .ref zpa, .ref zin, .int is_, .ref zow, .int os_, .int 0, .ref zke, .ref zva, .ref zle, .int ct, .int iv, .int dw, .ref zdr, .int ds]))] s.heap.size = A at hD hT ⊢
  have hA : ∀ q : Nat, s.heap.size ≤ q → A q := fun q h => by rw [← hAe]; exact Or.inr h
  have hS : va_S A s.heap s.heap [] := va_S.rf
  have hl := lv_entry ([.ref zm]) (n := 1) (Nat.le_of_ble_eq_true rfl)
  rw [lg_entry_eq]
  generalize (lg_sl ([.ref zm]) ++ List.replicate (1 - (lg_sl ([.ref zm])).length) Slot.unset).toArray = ls at hl ⊢
  have hl : lv_has ls 1 [(0, .ref zm)] := hl
  refine sm_name (fun Q hQ => ?_)
  have hf_165 := hts (.fieldLink RX4 165 "SeedMillModel" "isSeeded" "Z") (by decide +kernel)
  have hw_X4 : ∀ w ∈ wsX40, w ∈ wsX4_counter := by decide +kernel
  have hf_169 := hts (.fieldLink RX4 169 "SeedMillModel" "counter" "I") (by decide +kernel)
  refine lv_aload_n hx hb dX4_counter_0 rfl (lv_at hl 0 rfl) ?_
  refine va_get (D := D) (ci := 4) (v := .int 0) (C := RX4) (T := TX4) (N := 22) hx hb hts hw_X4 hown hK hP 0 rfl rfl 13 (by decide) hf_165 (fun _ h9 => h9) rfl dX4_counter_1 ?_
  refine lv_if_eq (tgt := 14) hx hb dX4_counter_4 (by decide) (fun c_4 => ?_) (fun c_4 => ?_)
  ·
    refine lv_iconst (v := 0) hx hb dX4_counter_14 (by decide) ?_
    rw [hQ]
    have hP9 : va_P D vwCl [(zm, .inr (4, [.int flt, .ref zrt, .ref zfi, .ref zsu, .ref zwo, .ref zro, .int (nI 0), .ref zdi, .ref zpa, .ref zin, .int is_, .ref zow, .int os_, .int 0, .ref zke, .ref zva, .ref zle, .int ct, .int iv, .int dw, .ref zdr, .int ds]))] s.heap := hP
    have hD9 : va_D A [(zm, .inr (4, [.int flt, .ref zrt, .ref zfi, .ref zsu, .ref zwo, .ref zro, .int (nI 0), .ref zdi, .ref zpa, .ref zin, .int is_, .ref zow, .int os_, .int 0, .ref zke, .ref zva, .ref zle, .int ct, .int iv, .int dw, .ref zdr, .int ds]))] := hD
    exact W.iret (v := 0) hx hb hr (fun t ht hW => ⟨⟨0, (), rfl, rfl, ⟨by rw [ht]; exact hP9, va_K.moved hW.alike hK, hD9⟩⟩, hS.F ht⟩) hS.2.2 dX4_counter_15
  ·
    exact absurd c_4 (by decide)

def rm_X4_counter_ok : Room := ({ frames := 0, cells := 0, slots := 0, locals := 0 } : Room)
set_option maxHeartbeats 4000000 in
set_option maxRecDepth 100000 in
/-- counter -/
theorem sc_X4_counter_ok (l : Launch) (D : va_G) (cI : ClassId) (th : Option (Nat × Nat)) (sz : Nat) (zm zrt zfi zsu zwo zro zdi zpa zin zow zke zva zle zdr : Nat) (flt is_ os_ sd ct iv dw ds : Int32)   : Met l yX4_counter wsX4_counter rm_X4_counter_ok (va_Pc [.ref zm] (sm_PW D cI th [(zm, .inr (4, [.int flt, .ref zrt, .ref zfi, .ref zsu, .ref zwo, .ref zro, .int (nI 0), .ref zdi, .ref zpa, .ref zin, .int is_, .ref zow, .int os_, .int 1, .ref zke, .ref zva, .ref zle, .int ct, .int iv, .int dw, .ref zdr, .int ds]))] sz)) (va_Qi (fun (r : Int32) (_ : Unit) => r = ct) (fun _ t => sm_QW D cI (va_A [(zm, .inr (4, [.int flt, .ref zrt, .ref zfi, .ref zsu, .ref zwo, .ref zro, .int (nI 0), .ref zdi, .ref zpa, .ref zin, .int is_, .ref zow, .int os_, .int 1, .ref zke, .ref zva, .ref zle, .int ct, .int iv, .int dw, .ref zdr, .int ds]))] sz) [(zm, .inr (4, [.int flt, .ref zrt, .ref zfi, .ref zsu, .ref zwo, .ref zro, .int (nI 0), .ref zdi, .ref zpa, .ref zin, .int is_, .ref zow, .int os_, .int 1, .ref zke, .ref zva, .ref zle, .int ct, .int iv, .int dw, .ref zdr, .int ds]))] t) (va_A [(zm, .inr (4, [.int flt, .ref zrt, .ref zfi, .ref zsu, .ref zwo, .ref zro, .int (nI 0), .ref zdi, .ref zpa, .ref zin, .int is_, .ref zow, .int os_, .int 1, .ref zke, .ref zva, .ref zle, .int ct, .int iv, .int dw, .ref zdr, .int ds]))] sz)) 0 0 (va_A [(zm, .inr (4, [.int flt, .ref zrt, .ref zfi, .ref zsu, .ref zwo, .ref zro, .int (nI 0), .ref zdi, .ref zpa, .ref zin, .int is_, .ref zow, .int os_, .int 1, .ref zke, .ref zva, .ref zle, .int ct, .int iv, .int dw, .ref zdr, .int ds]))] sz) := by
  refine Met.ofW (cc := cX4_counter) (maxL := 1) (ret := (some .int)) (by decide) rfl ?_
  intro p e s m args below meth c s₁ B hml hv
  obtain ⟨rfl, hsz, hP, hK, hD0, hT⟩ := hv
  have hx := B.exec
  have hb := B.bytes
  have hr := B.returns
  have hts := atoms_spec (ws := wsX4_counter) B.pre
  have hown : s.vm.findClass RX4 = some m.cls := findClass_of_methodNamed B.named
  have hlocks := B.notSynchronized
  subst hsz
  have hD := hD0.self (sz := s.heap.size)
  generalize hAe : va_A [(zm, .inr (4, [.int flt, .ref zrt, .ref zfi, .ref zsu, .ref zwo, .ref zro, .int (nI 0), .ref zdi, .ref zpa, .ref zin, .int is_, .ref zow, .int os_, .int 1, .ref zke, .ref zva, .ref zle, .int ct, .int iv, .int dw, .ref zdr, .int ds]))] s.heap.size = A at hD hT ⊢
  have hA : ∀ q : Nat, s.heap.size ≤ q → A q := fun q h => by rw [← hAe]; exact Or.inr h
  have hS : va_S A s.heap s.heap [] := va_S.rf
  have hl := lv_entry ([.ref zm]) (n := 1) (Nat.le_of_ble_eq_true rfl)
  rw [lg_entry_eq]
  generalize (lg_sl ([.ref zm]) ++ List.replicate (1 - (lg_sl ([.ref zm])).length) Slot.unset).toArray = ls at hl ⊢
  have hl : lv_has ls 1 [(0, .ref zm)] := hl
  refine sm_name (fun Q hQ => ?_)
  have hf_165 := hts (.fieldLink RX4 165 "SeedMillModel" "isSeeded" "Z") (by decide +kernel)
  have hw_X4 : ∀ w ∈ wsX40, w ∈ wsX4_counter := by decide +kernel
  have hf_169 := hts (.fieldLink RX4 169 "SeedMillModel" "counter" "I") (by decide +kernel)
  refine lv_aload_n hx hb dX4_counter_0 rfl (lv_at hl 0 rfl) ?_
  refine va_get (D := D) (ci := 4) (v := .int 1) (C := RX4) (T := TX4) (N := 22) hx hb hts hw_X4 hown hK hP 0 rfl rfl 13 (by decide) hf_165 (fun _ h9 => h9) rfl dX4_counter_1 ?_
  refine lv_if_eq (tgt := 14) hx hb dX4_counter_4 (by decide) (fun c_4 => ?_) (fun c_4 => ?_)
  ·
    exact absurd c_4 (by decide)
  ·
    refine lv_aload_n hx hb dX4_counter_7 rfl (lv_at hl 0 rfl) ?_
    refine va_get (D := D) (ci := 4) (v := .int ct) (C := RX4) (T := TX4) (N := 22) hx hb hts hw_X4 hown hK hP 0 rfl rfl 17 (by decide) hf_169 (fun _ h9 => h9) rfl dX4_counter_8 ?_
    refine lv_goto (tgt := 15) hx hb dX4_counter_11 (by decide) ?_
    rw [hQ]
    have hP9 : va_P D vwCl [(zm, .inr (4, [.int flt, .ref zrt, .ref zfi, .ref zsu, .ref zwo, .ref zro, .int (nI 0), .ref zdi, .ref zpa, .ref zin, .int is_, .ref zow, .int os_, .int 1, .ref zke, .ref zva, .ref zle, .int ct, .int iv, .int dw, .ref zdr, .int ds]))] s.heap := hP
    have hD9 : va_D A [(zm, .inr (4, [.int flt, .ref zrt, .ref zfi, .ref zsu, .ref zwo, .ref zro, .int (nI 0), .ref zdi, .ref zpa, .ref zin, .int is_, .ref zow, .int os_, .int 1, .ref zke, .ref zva, .ref zle, .int ct, .int iv, .int dw, .ref zdr, .int ds]))] := hD
    exact W.iret (v := ct) hx hb hr (fun t ht hW => ⟨⟨ct, (), rfl, rfl, ⟨by rw [ht]; exact hP9, va_K.moved hW.alike hK, hD9⟩⟩, hS.F ht⟩) hS.2.2 dX4_counter_15

def rm_X4_state_ns : Room := ({ frames := 0, cells := 0, slots := 0, locals := 0 } : Room)
set_option maxHeartbeats 4000000 in
set_option maxRecDepth 100000 in
/-- state, not seeded -/
theorem sc_X4_state_ns (l : Launch) (D : va_G) (cI : ClassId) (th : Option (Nat × Nat)) (sz : Nat) (zm zrt zfi zsu zwo zro zdi zpa zin zow zke zva zle zdr : Nat) (flt is_ os_ sd ct iv dw ds : Int32) (k i : Int32)  : Met l yX4_state wsX4_state rm_X4_state_ns (va_Pc [.ref zm, .int k, .int i] (sm_PW D cI th [(zm, .inr (4, [.int flt, .ref zrt, .ref zfi, .ref zsu, .ref zwo, .ref zro, .int (nI 0), .ref zdi, .ref zpa, .ref zin, .int is_, .ref zow, .int os_, .int 0, .ref zke, .ref zva, .ref zle, .int ct, .int iv, .int dw, .ref zdr, .int ds]))] sz)) (va_Qi (fun (r : Int32) (_ : Unit) => r = -1) (fun _ t => sm_QW D cI (va_A [(zm, .inr (4, [.int flt, .ref zrt, .ref zfi, .ref zsu, .ref zwo, .ref zro, .int (nI 0), .ref zdi, .ref zpa, .ref zin, .int is_, .ref zow, .int os_, .int 0, .ref zke, .ref zva, .ref zle, .int ct, .int iv, .int dw, .ref zdr, .int ds]))] sz) [(zm, .inr (4, [.int flt, .ref zrt, .ref zfi, .ref zsu, .ref zwo, .ref zro, .int (nI 0), .ref zdi, .ref zpa, .ref zin, .int is_, .ref zow, .int os_, .int 0, .ref zke, .ref zva, .ref zle, .int ct, .int iv, .int dw, .ref zdr, .int ds]))] t) (va_A [(zm, .inr (4, [.int flt, .ref zrt, .ref zfi, .ref zsu, .ref zwo, .ref zro, .int (nI 0), .ref zdi, .ref zpa, .ref zin, .int is_, .ref zow, .int os_, .int 0, .ref zke, .ref zva, .ref zle, .int ct, .int iv, .int dw, .ref zdr, .int ds]))] sz)) 0 0 (va_A [(zm, .inr (4, [.int flt, .ref zrt, .ref zfi, .ref zsu, .ref zwo, .ref zro, .int (nI 0), .ref zdi, .ref zpa, .ref zin, .int is_, .ref zow, .int os_, .int 0, .ref zke, .ref zva, .ref zle, .int ct, .int iv, .int dw, .ref zdr, .int ds]))] sz) := by
  refine Met.ofW (cc := cX4_state) (maxL := 3) (ret := (some .int)) (by decide) rfl ?_
  intro p e s m args below meth c s₁ B hml hv
  obtain ⟨rfl, hsz, hP, hK, hD0, hT⟩ := hv
  have hx := B.exec
  have hb := B.bytes
  have hr := B.returns
  have hts := atoms_spec (ws := wsX4_state) B.pre
  have hown : s.vm.findClass RX4 = some m.cls := findClass_of_methodNamed B.named
  have hlocks := B.notSynchronized
  subst hsz
  have hD := hD0.self (sz := s.heap.size)
  generalize hAe : va_A [(zm, .inr (4, [.int flt, .ref zrt, .ref zfi, .ref zsu, .ref zwo, .ref zro, .int (nI 0), .ref zdi, .ref zpa, .ref zin, .int is_, .ref zow, .int os_, .int 0, .ref zke, .ref zva, .ref zle, .int ct, .int iv, .int dw, .ref zdr, .int ds]))] s.heap.size = A at hD hT ⊢
  have hA : ∀ q : Nat, s.heap.size ≤ q → A q := fun q h => by rw [← hAe]; exact Or.inr h
  have hS : va_S A s.heap s.heap [] := va_S.rf
  have hl := lv_entry ([.ref zm, .int k, .int i]) (n := 3) (Nat.le_of_ble_eq_true rfl)
  rw [lg_entry_eq]
  generalize (lg_sl ([.ref zm, .int k, .int i]) ++ List.replicate (3 - (lg_sl ([.ref zm, .int k, .int i])).length) Slot.unset).toArray = ls at hl ⊢
  have hl : lv_has ls 3 [(0, .ref zm), (1, .int k), (2, .int i)] := hl
  refine sm_name (fun Q hQ => ?_)
  have hf_165 := hts (.fieldLink RX4 165 "SeedMillModel" "isSeeded" "Z") (by decide +kernel)
  have hw_X4 : ∀ w ∈ wsX40, w ∈ wsX4_state := by decide +kernel
  have hf_109 := hts (.fieldLink RX4 109 "SeedMillModel" "key" "[I") (by decide +kernel)
  have hf_112 := hts (.fieldLink RX4 112 "SeedMillModel" "value" "[I") (by decide +kernel)
  refine lv_aload_n hx hb dX4_state_0 rfl (lv_at hl 0 rfl) ?_
  refine va_get (D := D) (ci := 4) (v := .int 0) (C := RX4) (T := TX4) (N := 22) hx hb hts hw_X4 hown hK hP 0 rfl rfl 13 (by decide) hf_165 (fun _ h9 => h9) rfl dX4_state_1 ?_
  refine lv_if_eq (tgt := 26) hx hb dX4_state_4 (by decide) (fun c_4 => ?_) (fun c_4 => ?_)
  ·
    refine lv_iconst (v := (-1)) hx hb dX4_state_26 (by decide) ?_
    rw [hQ]
    have hP9 : va_P D vwCl [(zm, .inr (4, [.int flt, .ref zrt, .ref zfi, .ref zsu, .ref zwo, .ref zro, .int (nI 0), .ref zdi, .ref zpa, .ref zin, .int is_, .ref zow, .int os_, .int 0, .ref zke, .ref zva, .ref zle, .int ct, .int iv, .int dw, .ref zdr, .int ds]))] s.heap := hP
    have hD9 : va_D A [(zm, .inr (4, [.int flt, .ref zrt, .ref zfi, .ref zsu, .ref zwo, .ref zro, .int (nI 0), .ref zdi, .ref zpa, .ref zin, .int is_, .ref zow, .int os_, .int 0, .ref zke, .ref zva, .ref zle, .int ct, .int iv, .int dw, .ref zdr, .int ds]))] := hD
    exact W.iret (v := (-1)) hx hb hr (fun t ht hW => ⟨⟨(-1), (), rfl, rfl, ⟨by rw [ht]; exact hP9, va_K.moved hW.alike hK, hD9⟩⟩, hS.F ht⟩) hS.2.2 dX4_state_27
  ·
    exact absurd c_4 (by decide)

def rm_X4_state_ok : Room := ({ frames := 0, cells := 0, slots := 0, locals := 0 } : Room)
set_option maxHeartbeats 4000000 in
set_option maxRecDepth 100000 in
/-- state -/
theorem sc_X4_state_ok (l : Launch) (D : va_G) (cI : ClassId) (th : Option (Nat × Nat)) (sz : Nat) (zm zrt zfi zsu zwo zro zdi zpa zin zow zke zva zle zdr : Nat) (flt is_ os_ sd ct iv dw ds : Int32) (k i : Int32) (gk gv : Nat → Int32)  : Met l yX4_state wsX4_state rm_X4_state_ok (va_Pc [.ref zm, .int k, .int i] (sm_PW D cI th [(zm, .inr (4, [.int flt, .ref zrt, .ref zfi, .ref zsu, .ref zwo, .ref zro, .int (nI 0), .ref zdi, .ref zpa, .ref zin, .int is_, .ref zow, .int os_, .int 1, .ref zke, .ref zva, .ref zle, .int ct, .int iv, .int dw, .ref zdr, .int ds])), (zke, .inl (cI, 32, .inl gk)), (zva, .inl (cI, 32, .inl gv))] sz)) (va_Qi (fun (r : Int32) (_ : Unit) => r = if k = 0 then sm_at gk 32 i else if k = 1 then sm_at gv 32 i else -1) (fun _ t => sm_QW D cI (va_A [(zm, .inr (4, [.int flt, .ref zrt, .ref zfi, .ref zsu, .ref zwo, .ref zro, .int (nI 0), .ref zdi, .ref zpa, .ref zin, .int is_, .ref zow, .int os_, .int 1, .ref zke, .ref zva, .ref zle, .int ct, .int iv, .int dw, .ref zdr, .int ds])), (zke, .inl (cI, 32, .inl gk)), (zva, .inl (cI, 32, .inl gv))] sz) [(zm, .inr (4, [.int flt, .ref zrt, .ref zfi, .ref zsu, .ref zwo, .ref zro, .int (nI 0), .ref zdi, .ref zpa, .ref zin, .int is_, .ref zow, .int os_, .int 1, .ref zke, .ref zva, .ref zle, .int ct, .int iv, .int dw, .ref zdr, .int ds])), (zke, .inl (cI, 32, .inl gk)), (zva, .inl (cI, 32, .inl gv))] t) (va_A [(zm, .inr (4, [.int flt, .ref zrt, .ref zfi, .ref zsu, .ref zwo, .ref zro, .int (nI 0), .ref zdi, .ref zpa, .ref zin, .int is_, .ref zow, .int os_, .int 1, .ref zke, .ref zva, .ref zle, .int ct, .int iv, .int dw, .ref zdr, .int ds])), (zke, .inl (cI, 32, .inl gk)), (zva, .inl (cI, 32, .inl gv))] sz)) 0 0 (va_A [(zm, .inr (4, [.int flt, .ref zrt, .ref zfi, .ref zsu, .ref zwo, .ref zro, .int (nI 0), .ref zdi, .ref zpa, .ref zin, .int is_, .ref zow, .int os_, .int 1, .ref zke, .ref zva, .ref zle, .int ct, .int iv, .int dw, .ref zdr, .int ds])), (zke, .inl (cI, 32, .inl gk)), (zva, .inl (cI, 32, .inl gv))] sz) := by
  refine Met.ofW (cc := cX4_state) (maxL := 3) (ret := (some .int)) (by decide) rfl ?_
  intro p e s m args below meth c s₁ B hml hv
  obtain ⟨rfl, hsz, hP, hK, hD0, hT⟩ := hv
  have hx := B.exec
  have hb := B.bytes
  have hr := B.returns
  have hts := atoms_spec (ws := wsX4_state) B.pre
  have hown : s.vm.findClass RX4 = some m.cls := findClass_of_methodNamed B.named
  have hlocks := B.notSynchronized
  subst hsz
  have hD := hD0.self (sz := s.heap.size)
  generalize hAe : va_A [(zm, .inr (4, [.int flt, .ref zrt, .ref zfi, .ref zsu, .ref zwo, .ref zro, .int (nI 0), .ref zdi, .ref zpa, .ref zin, .int is_, .ref zow, .int os_, .int 1, .ref zke, .ref zva, .ref zle, .int ct, .int iv, .int dw, .ref zdr, .int ds])), (zke, .inl (cI, 32, .inl gk)), (zva, .inl (cI, 32, .inl gv))] s.heap.size = A at hD hT ⊢
  have hA : ∀ q : Nat, s.heap.size ≤ q → A q := fun q h => by rw [← hAe]; exact Or.inr h
  have hS : va_S A s.heap s.heap [] := va_S.rf
  have hl := lv_entry ([.ref zm, .int k, .int i]) (n := 3) (Nat.le_of_ble_eq_true rfl)
  rw [lg_entry_eq]
  generalize (lg_sl ([.ref zm, .int k, .int i]) ++ List.replicate (3 - (lg_sl ([.ref zm, .int k, .int i])).length) Slot.unset).toArray = ls at hl ⊢
  have hl : lv_has ls 3 [(0, .ref zm), (1, .int k), (2, .int i)] := hl
  refine sm_name (fun Q hQ => ?_)
  have hf_165 := hts (.fieldLink RX4 165 "SeedMillModel" "isSeeded" "Z") (by decide +kernel)
  have hw_X4 : ∀ w ∈ wsX40, w ∈ wsX4_state := by decide +kernel
  have hf_109 := hts (.fieldLink RX4 109 "SeedMillModel" "key" "[I") (by decide +kernel)
  have hf_112 := hts (.fieldLink RX4 112 "SeedMillModel" "value" "[I") (by decide +kernel)
  refine lv_aload_n hx hb dX4_state_0 rfl (lv_at hl 0 rfl) ?_
  refine va_get (D := D) (ci := 4) (v := .int 1) (C := RX4) (T := TX4) (N := 22) hx hb hts hw_X4 hown hK hP 0 rfl rfl 13 (by decide) hf_165 (fun _ h9 => h9) rfl dX4_state_1 ?_
  refine lv_if_eq (tgt := 26) hx hb dX4_state_4 (by decide) (fun c_4 => ?_) (fun c_4 => ?_)
  ·
    exact absurd c_4 (by decide)
  ·
    refine lv_iload_n hx hb dX4_state_7 rfl (lv_at hl 1 rfl) ?_
    refine lv_if_lt (tgt := 26) hx hb dX4_state_8 (by decide) (fun c_8 => ?_) (fun c_8 => ?_)
    ·
      refine lv_iconst (v := (-1)) hx hb dX4_state_26 (by decide) ?_
      rw [hQ]
      have hP9 : va_P D vwCl [(zm, .inr (4, [.int flt, .ref zrt, .ref zfi, .ref zsu, .ref zwo, .ref zro, .int (nI 0), .ref zdi, .ref zpa, .ref zin, .int is_, .ref zow, .int os_, .int 1, .ref zke, .ref zva, .ref zle, .int ct, .int iv, .int dw, .ref zdr, .int ds])), (zke, .inl (cI, 32, .inl gk)), (zva, .inl (cI, 32, .inl gv))] s.heap := hP
      have hD9 : va_D A [(zm, .inr (4, [.int flt, .ref zrt, .ref zfi, .ref zsu, .ref zwo, .ref zro, .int (nI 0), .ref zdi, .ref zpa, .ref zin, .int is_, .ref zow, .int os_, .int 1, .ref zke, .ref zva, .ref zle, .int ct, .int iv, .int dw, .ref zdr, .int ds])), (zke, .inl (cI, 32, .inl gk)), (zva, .inl (cI, 32, .inl gv))] := hD
      exact W.iret (v := (-1)) hx hb hr (fun t ht hW => ⟨⟨(-1), (), rfl, (by first | exact (sm_st_lo c_8).symm | exact (sm_st_hi c_13).symm | exact (sm_st_no (Or.inl c_17)).symm | exact (sm_st_no (Or.inr (Int32.not_lt.mp c_23))).symm), ⟨by rw [ht]; exact hP9, va_K.moved hW.alike hK, hD9⟩⟩, hS.F ht⟩) hS.2.2 dX4_state_27
    ·
      refine lv_iload_n hx hb dX4_state_11 rfl (lv_at hl 1 rfl) ?_
      refine lv_iconst (v := 1) hx hb dX4_state_12 (by decide) ?_
      refine lv_icmp_gt (tgt := 26) hx hb dX4_state_13 (by decide) (fun c_13 => ?_) (fun c_13 => ?_)
      ·
        refine lv_iconst (v := (-1)) hx hb dX4_state_26 (by decide) ?_
        rw [hQ]
        have hP9 : va_P D vwCl [(zm, .inr (4, [.int flt, .ref zrt, .ref zfi, .ref zsu, .ref zwo, .ref zro, .int (nI 0), .ref zdi, .ref zpa, .ref zin, .int is_, .ref zow, .int os_, .int 1, .ref zke, .ref zva, .ref zle, .int ct, .int iv, .int dw, .ref zdr, .int ds])), (zke, .inl (cI, 32, .inl gk)), (zva, .inl (cI, 32, .inl gv))] s.heap := hP
        have hD9 : va_D A [(zm, .inr (4, [.int flt, .ref zrt, .ref zfi, .ref zsu, .ref zwo, .ref zro, .int (nI 0), .ref zdi, .ref zpa, .ref zin, .int is_, .ref zow, .int os_, .int 1, .ref zke, .ref zva, .ref zle, .int ct, .int iv, .int dw, .ref zdr, .int ds])), (zke, .inl (cI, 32, .inl gk)), (zva, .inl (cI, 32, .inl gv))] := hD
        exact W.iret (v := (-1)) hx hb hr (fun t ht hW => ⟨⟨(-1), (), rfl, (by first | exact (sm_st_lo c_8).symm | exact (sm_st_hi c_13).symm | exact (sm_st_no (Or.inl c_17)).symm | exact (sm_st_no (Or.inr (Int32.not_lt.mp c_23))).symm), ⟨by rw [ht]; exact hP9, va_K.moved hW.alike hK, hD9⟩⟩, hS.F ht⟩) hS.2.2 dX4_state_27
      ·
        refine lv_iload_n hx hb dX4_state_16 rfl (lv_at hl 2 rfl) ?_
        refine lv_if_lt (tgt := 26) hx hb dX4_state_17 (by decide) (fun c_17 => ?_) (fun c_17 => ?_)
        ·
          refine lv_iconst (v := (-1)) hx hb dX4_state_26 (by decide) ?_
          rw [hQ]
          have hP9 : va_P D vwCl [(zm, .inr (4, [.int flt, .ref zrt, .ref zfi, .ref zsu, .ref zwo, .ref zro, .int (nI 0), .ref zdi, .ref zpa, .ref zin, .int is_, .ref zow, .int os_, .int 1, .ref zke, .ref zva, .ref zle, .int ct, .int iv, .int dw, .ref zdr, .int ds])), (zke, .inl (cI, 32, .inl gk)), (zva, .inl (cI, 32, .inl gv))] s.heap := hP
          have hD9 : va_D A [(zm, .inr (4, [.int flt, .ref zrt, .ref zfi, .ref zsu, .ref zwo, .ref zro, .int (nI 0), .ref zdi, .ref zpa, .ref zin, .int is_, .ref zow, .int os_, .int 1, .ref zke, .ref zva, .ref zle, .int ct, .int iv, .int dw, .ref zdr, .int ds])), (zke, .inl (cI, 32, .inl gk)), (zva, .inl (cI, 32, .inl gv))] := hD
          exact W.iret (v := (-1)) hx hb hr (fun t ht hW => ⟨⟨(-1), (), rfl, (by first | exact (sm_st_lo c_8).symm | exact (sm_st_hi c_13).symm | exact (sm_st_no (Or.inl c_17)).symm | exact (sm_st_no (Or.inr (Int32.not_lt.mp c_23))).symm), ⟨by rw [ht]; exact hP9, va_K.moved hW.alike hK, hD9⟩⟩, hS.F ht⟩) hS.2.2 dX4_state_27
        ·
          refine lv_iload_n hx hb dX4_state_20 rfl (lv_at hl 2 rfl) ?_
          refine lv_bipush (v := 32) hx hb dX4_state_21 (by decide) ?_
          refine lv_icmp_lt (tgt := 28) hx hb dX4_state_23 (by decide) (fun c_23 => ?_) (fun c_23 => ?_)
          ·
            refine lv_iload_n hx hb dX4_state_28 rfl (lv_at hl 1 rfl) ?_
            refine lv_if_ne (tgt := 41) hx hb dX4_state_29 (by decide) (fun c_29 => ?_) (fun c_29 => ?_)
            ·
              refine lv_aload_n hx hb dX4_state_41 rfl (lv_at hl 0 rfl) ?_
              refine va_get (D := D) (ci := 4) (v := .ref zva) (C := RX4) (T := TX4) (N := 22) hx hb hts hw_X4 hown hK hP 0 rfl rfl 15 (by decide) hf_112 (fun _ h9 => h9) rfl dX4_state_42 ?_
              refine lv_iload_n hx hb dX4_state_45 rfl (lv_at hl 2 rfl) ?_
              have hi0 : ∃ j : Nat, j < 32 ∧ i = nI j := by
                rcases pk_ix i (n := 32) (by omega) with q | q | q
                · exact absurd q c_17
                · exact absurd q (Int32.not_le.mpr c_23)
                · exact q
              obtain ⟨j, hj, ej⟩ := hi0
              have hin9 : vp_in i 32 := by rw [ej]; exact vp_in_nI (by omega) (by decide)
              refine va_iald (i := i) hx hb hK hP 2 0 rfl rfl hin9 dX4_state_46 ?_
              rw [hQ]
              have hP9 : va_P D vwCl [(zm, .inr (4, [.int flt, .ref zrt, .ref zfi, .ref zsu, .ref zwo, .ref zro, .int (nI 0), .ref zdi, .ref zpa, .ref zin, .int is_, .ref zow, .int os_, .int 1, .ref zke, .ref zva, .ref zle, .int ct, .int iv, .int dw, .ref zdr, .int ds])), (zke, .inl (cI, 32, .inl gk)), (zva, .inl (cI, 32, .inl gv))] s.heap := hP
              have hD9 : va_D A [(zm, .inr (4, [.int flt, .ref zrt, .ref zfi, .ref zsu, .ref zwo, .ref zro, .int (nI 0), .ref zdi, .ref zpa, .ref zin, .int is_, .ref zow, .int os_, .int 1, .ref zke, .ref zva, .ref zle, .int ct, .int iv, .int dw, .ref zdr, .int ds])), (zke, .inl (cI, 32, .inl gk)), (zva, .inl (cI, 32, .inl gv))] := hD
              exact W.iret (v := gv (Int32.toNatClampNeg i)) hx hb hr (fun t ht hW => ⟨⟨gv (Int32.toNatClampNeg i), (), rfl, (by rw [if_neg c_29, if_pos (sm_st_1 c_8 c_13 c_29)]; unfold sm_at; rw [if_neg (fun q => q.elim c_17 (Int32.not_le.mpr c_23))]), ⟨by rw [ht]; exact hP9, va_K.moved hW.alike hK, hD9⟩⟩, hS.F ht⟩) hS.2.2 dX4_state_47
            ·
              refine lv_aload_n hx hb dX4_state_32 rfl (lv_at hl 0 rfl) ?_
              refine va_get (D := D) (ci := 4) (v := .ref zke) (C := RX4) (T := TX4) (N := 22) hx hb hts hw_X4 hown hK hP 0 rfl rfl 14 (by decide) hf_109 (fun _ h9 => h9) rfl dX4_state_33 ?_
              refine lv_iload_n hx hb dX4_state_36 rfl (lv_at hl 2 rfl) ?_
              have hi0 : ∃ j : Nat, j < 32 ∧ i = nI j := by
                rcases pk_ix i (n := 32) (by omega) with q | q | q
                · exact absurd q c_17
                · exact absurd q (Int32.not_le.mpr c_23)
                · exact q
              obtain ⟨j, hj, ej⟩ := hi0
              have hin9 : vp_in i 32 := by rw [ej]; exact vp_in_nI (by omega) (by decide)
              refine va_iald (i := i) hx hb hK hP 1 0 rfl rfl hin9 dX4_state_37 ?_
              refine lv_goto (tgt := 47) hx hb dX4_state_38 (by decide) ?_
              rw [hQ]
              have hP9 : va_P D vwCl [(zm, .inr (4, [.int flt, .ref zrt, .ref zfi, .ref zsu, .ref zwo, .ref zro, .int (nI 0), .ref zdi, .ref zpa, .ref zin, .int is_, .ref zow, .int os_, .int 1, .ref zke, .ref zva, .ref zle, .int ct, .int iv, .int dw, .ref zdr, .int ds])), (zke, .inl (cI, 32, .inl gk)), (zva, .inl (cI, 32, .inl gv))] s.heap := hP
              have hD9 : va_D A [(zm, .inr (4, [.int flt, .ref zrt, .ref zfi, .ref zsu, .ref zwo, .ref zro, .int (nI 0), .ref zdi, .ref zpa, .ref zin, .int is_, .ref zow, .int os_, .int 1, .ref zke, .ref zva, .ref zle, .int ct, .int iv, .int dw, .ref zdr, .int ds])), (zke, .inl (cI, 32, .inl gk)), (zva, .inl (cI, 32, .inl gv))] := hD
              exact W.iret (v := gk (Int32.toNatClampNeg i)) hx hb hr (fun t ht hW => ⟨⟨gk (Int32.toNatClampNeg i), (), rfl, (by rw [if_pos c_29]; unfold sm_at; rw [if_neg (fun q => q.elim c_17 (Int32.not_le.mpr c_23))]), ⟨by rw [ht]; exact hP9, va_K.moved hW.alike hK, hD9⟩⟩, hS.F ht⟩) hS.2.2 dX4_state_47
          ·
            refine lv_iconst (v := (-1)) hx hb dX4_state_26 (by decide) ?_
            rw [hQ]
            have hP9 : va_P D vwCl [(zm, .inr (4, [.int flt, .ref zrt, .ref zfi, .ref zsu, .ref zwo, .ref zro, .int (nI 0), .ref zdi, .ref zpa, .ref zin, .int is_, .ref zow, .int os_, .int 1, .ref zke, .ref zva, .ref zle, .int ct, .int iv, .int dw, .ref zdr, .int ds])), (zke, .inl (cI, 32, .inl gk)), (zva, .inl (cI, 32, .inl gv))] s.heap := hP
            have hD9 : va_D A [(zm, .inr (4, [.int flt, .ref zrt, .ref zfi, .ref zsu, .ref zwo, .ref zro, .int (nI 0), .ref zdi, .ref zpa, .ref zin, .int is_, .ref zow, .int os_, .int 1, .ref zke, .ref zva, .ref zle, .int ct, .int iv, .int dw, .ref zdr, .int ds])), (zke, .inl (cI, 32, .inl gk)), (zva, .inl (cI, 32, .inl gv))] := hD
            exact W.iret (v := (-1)) hx hb hr (fun t ht hW => ⟨⟨(-1), (), rfl, (by first | exact (sm_st_lo c_8).symm | exact (sm_st_hi c_13).symm | exact (sm_st_no (Or.inl c_17)).symm | exact (sm_st_no (Or.inr (Int32.not_lt.mp c_23))).symm), ⟨by rw [ht]; exact hP9, va_K.moved hW.alike hK, hD9⟩⟩, hS.F ht⟩) hS.2.2 dX4_state_27

def rm_X4_hash : Room := ({ frames := 3, cells := 0, slots := 0, locals := 75 } : Room)
set_option maxHeartbeats 4000000 in
set_option maxRecDepth 100000 in
/-- hash -/
theorem sc_X4_hash (l : Launch) (D : va_G) (cI : ClassId) (th : Option (Nat × Nat)) (sz : Nat) (zm zrt zfi zsu zwo zro zdi zpa zin zow zke zva zle zdr : Nat) (flt is_ os_ sd ct iv dw ds : Int32) (i : Int32) (gs gw gr gd gp : Nat → Int32) (ni : Nat) (gi : Nat → Int32) (hni : ni ≤ 300) (hgi : ∀ j, j < ni → sm_by (gi j)) : Met l yX4_hash wsX4_hash rm_X4_hash (va_Pc [.ref zm, .int i] (sm_PW D cI th [(zm, .inr (4, [.int flt, .ref zrt, .ref zfi, .ref zsu, .ref zwo, .ref zro, .int (nI 0), .ref zdi, .ref zpa, .ref zin, .int (nI ni), .ref zow, .int os_, .int sd, .ref zke, .ref zva, .ref zle, .int ct, .int iv, .int dw, .ref zdr, .int ds])), (zrt, .inl (cI, 64, .inl sm_K)), (zfi, .inl (cI, 8, .inl sm_F)), (zsu, .inl (cI, 8, .inl gs)), (zwo, .inl (cI, 64, .inl gw)), (zro, .inl (cI, 512, .inl gr)), (zdi, .inl (cI, 32, .inl gd)), (zpa, .inl (cI, 64, .inl gp)), (zin, .inl (cI, 300, .inl gi))] sz)) (va_Qi (fun (r : Int32) (_ : Unit) => r = sm_at (sm_sha gi ni) 32 i) (fun _ t => ∃ (gs2 : Nat → Int32) (gw2 : Nat → Int32) (gr2 : Nat → Int32) (gd2 : Nat → Int32) (gp2 : Nat → Int32), sm_QW D cI (va_A [(zm, .inr (4, [.int flt, .ref zrt, .ref zfi, .ref zsu, .ref zwo, .ref zro, .int (nI 0), .ref zdi, .ref zpa, .ref zin, .int (nI ni), .ref zow, .int os_, .int sd, .ref zke, .ref zva, .ref zle, .int ct, .int iv, .int dw, .ref zdr, .int ds])), (zrt, .inl (cI, 64, .inl sm_K)), (zfi, .inl (cI, 8, .inl sm_F)), (zsu, .inl (cI, 8, .inl gs)), (zwo, .inl (cI, 64, .inl gw)), (zro, .inl (cI, 512, .inl gr)), (zdi, .inl (cI, 32, .inl gd)), (zpa, .inl (cI, 64, .inl gp)), (zin, .inl (cI, 300, .inl gi))] sz) [(zm, .inr (4, [.int flt, .ref zrt, .ref zfi, .ref zsu, .ref zwo, .ref zro, .int (nI 0), .ref zdi, .ref zpa, .ref zin, .int (nI ni), .ref zow, .int os_, .int sd, .ref zke, .ref zva, .ref zle, .int ct, .int iv, .int dw, .ref zdr, .int ds])), (zrt, .inl (cI, 64, .inl sm_K)), (zfi, .inl (cI, 8, .inl sm_F)), (zsu, .inl (cI, 8, .inl gs2)), (zwo, .inl (cI, 64, .inl gw2)), (zro, .inl (cI, 512, .inl gr2)), (zdi, .inl (cI, 32, .inl gd2)), (zpa, .inl (cI, 64, .inl gp2)), (zin, .inl (cI, 300, .inl gi))] t) (va_A [(zm, .inr (4, [.int flt, .ref zrt, .ref zfi, .ref zsu, .ref zwo, .ref zro, .int (nI 0), .ref zdi, .ref zpa, .ref zin, .int (nI ni), .ref zow, .int os_, .int sd, .ref zke, .ref zva, .ref zle, .int ct, .int iv, .int dw, .ref zdr, .int ds])), (zrt, .inl (cI, 64, .inl sm_K)), (zfi, .inl (cI, 8, .inl sm_F)), (zsu, .inl (cI, 8, .inl gs)), (zwo, .inl (cI, 64, .inl gw)), (zro, .inl (cI, 512, .inl gr)), (zdi, .inl (cI, 32, .inl gd)), (zpa, .inl (cI, 64, .inl gp)), (zin, .inl (cI, 300, .inl gi))] sz)) 0 0 (va_A [(zm, .inr (4, [.int flt, .ref zrt, .ref zfi, .ref zsu, .ref zwo, .ref zro, .int (nI 0), .ref zdi, .ref zpa, .ref zin, .int (nI ni), .ref zow, .int os_, .int sd, .ref zke, .ref zva, .ref zle, .int ct, .int iv, .int dw, .ref zdr, .int ds])), (zrt, .inl (cI, 64, .inl sm_K)), (zfi, .inl (cI, 8, .inl sm_F)), (zsu, .inl (cI, 8, .inl gs)), (zwo, .inl (cI, 64, .inl gw)), (zro, .inl (cI, 512, .inl gr)), (zdi, .inl (cI, 32, .inl gd)), (zpa, .inl (cI, 64, .inl gp)), (zin, .inl (cI, 300, .inl gi))] sz) := by
  refine Met.ofW (cc := cX4_hash) (maxL := 3) (ret := (some .int)) (by decide) rfl ?_
  intro p e s m args below meth c s₁ B hml hv
  obtain ⟨rfl, hsz, hP, hK, hD0, hT⟩ := hv
  have hx := B.exec
  have hb := B.bytes
  have hr := B.returns
  have hts := atoms_spec (ws := wsX4_hash) B.pre
  have hown : s.vm.findClass RX4 = some m.cls := findClass_of_methodNamed B.named
  have hlocks := B.notSynchronized
  subst hsz
  have hD := hD0.self (sz := s.heap.size)
  generalize hAe : va_A [(zm, .inr (4, [.int flt, .ref zrt, .ref zfi, .ref zsu, .ref zwo, .ref zro, .int (nI 0), .ref zdi, .ref zpa, .ref zin, .int (nI ni), .ref zow, .int os_, .int sd, .ref zke, .ref zva, .ref zle, .int ct, .int iv, .int dw, .ref zdr, .int ds])), (zrt, .inl (cI, 64, .inl sm_K)), (zfi, .inl (cI, 8, .inl sm_F)), (zsu, .inl (cI, 8, .inl gs)), (zwo, .inl (cI, 64, .inl gw)), (zro, .inl (cI, 512, .inl gr)), (zdi, .inl (cI, 32, .inl gd)), (zpa, .inl (cI, 64, .inl gp)), (zin, .inl (cI, 300, .inl gi))] s.heap.size = A at hD hT ⊢
  have hA : ∀ q : Nat, s.heap.size ≤ q → A q := fun q h => by rw [← hAe]; exact Or.inr h
  have hS : va_S A s.heap s.heap [] := va_S.rf
  have hl := lv_entry ([.ref zm, .int i]) (n := 3) (Nat.le_of_ble_eq_true rfl)
  rw [lg_entry_eq]
  generalize (lg_sl ([.ref zm, .int i]) ++ List.replicate (3 - (lg_sl ([.ref zm, .int i])).length) Slot.unset).toArray = ls at hl ⊢
  have hl : lv_has ls 3 [(0, .ref zm), (1, .int i)] := hl
  refine sm_name (fun Q hQ => ?_)
  have hf_154 := hts (.fieldLink RX4 154 "SeedMillModel" "inputSize" "I") (by decide +kernel)
  have hw_X4 : ∀ w ∈ wsX40, w ∈ wsX4_hash := by decide +kernel
  have hf_103 := hts (.fieldLink RX4 103 "SeedMillModel" "input" "[I") (by decide +kernel)
  have hf_97 := hts (.fieldLink RX4 97 "SeedMillModel" "digest" "[I") (by decide +kernel)
  refine lv_iload_n hx hb dX4_hash_0 rfl (lv_at hl 1 rfl) ?_
  refine lv_if_lt (tgt := 10) hx hb dX4_hash_1 (by decide) (fun c_1 => ?_) (fun c_1 => ?_)
  ·
    refine lv_iconst (v := (-1)) hx hb dX4_hash_10 (by decide) ?_
    rw [hQ]
    have hP9 : va_P D vwCl [(zm, .inr (4, [.int flt, .ref zrt, .ref zfi, .ref zsu, .ref zwo, .ref zro, .int (nI 0), .ref zdi, .ref zpa, .ref zin, .int (nI ni), .ref zow, .int os_, .int sd, .ref zke, .ref zva, .ref zle, .int ct, .int iv, .int dw, .ref zdr, .int ds])), (zrt, .inl (cI, 64, .inl sm_K)), (zfi, .inl (cI, 8, .inl sm_F)), (zsu, .inl (cI, 8, .inl gs)), (zwo, .inl (cI, 64, .inl gw)), (zro, .inl (cI, 512, .inl gr)), (zdi, .inl (cI, 32, .inl gd)), (zpa, .inl (cI, 64, .inl gp)), (zin, .inl (cI, 300, .inl gi))] s.heap := hP
    have hD9 : va_D A [(zm, .inr (4, [.int flt, .ref zrt, .ref zfi, .ref zsu, .ref zwo, .ref zro, .int (nI 0), .ref zdi, .ref zpa, .ref zin, .int (nI ni), .ref zow, .int os_, .int sd, .ref zke, .ref zva, .ref zle, .int ct, .int iv, .int dw, .ref zdr, .int ds])), (zrt, .inl (cI, 64, .inl sm_K)), (zfi, .inl (cI, 8, .inl sm_F)), (zsu, .inl (cI, 8, .inl gs)), (zwo, .inl (cI, 64, .inl gw)), (zro, .inl (cI, 512, .inl gr)), (zdi, .inl (cI, 32, .inl gd)), (zpa, .inl (cI, 64, .inl gp)), (zin, .inl (cI, 300, .inl gi))] := hD
    exact W.iret (v := (-1)) hx hb hr (fun t ht hW => ⟨⟨(-1), (), rfl, (by unfold sm_at; rw [if_pos (by first | exact Or.inl c_1 | exact Or.inr (Int32.not_lt.mp c_7))]), ⟨_, _, _, _, _, by rw [ht]; exact hP9, va_K.moved hW.alike hK, hD9⟩⟩, hS.F ht⟩) hS.2.2 dX4_hash_11
  ·
    refine lv_iload_n hx hb dX4_hash_4 rfl (lv_at hl 1 rfl) ?_
    refine lv_bipush (v := 32) hx hb dX4_hash_5 (by decide) ?_
    refine lv_icmp_lt (tgt := 12) hx hb dX4_hash_7 (by decide) (fun c_7 => ?_) (fun c_7 => ?_)
    ·
      refine lv_iconst (v := 0) hx hb dX4_hash_12 (by decide) ?_
      refine lv_istore_n (lv' := [(2, .int 0), (0, .ref zm), (1, .int i)]) hx hb dX4_hash_13 rfl hl (by decide) rfl (fun ls hl => ?_)
      have lp14 : ∀ (zn : Nat) (k : Nat) (H : Heap) (locs : List Loc) (ls : Array Slot), ni - k < zn → k ≤ ni → va_P D vwCl [(zm, .inr (4, [.int flt, .ref zrt, .ref zfi, .ref zsu, .ref zwo, .ref zro, .int (nI (0 + k)), .ref zdi, .ref zpa, .ref zin, .int (nI ni), .ref zow, .int os_, .int sd, .ref zke, .ref zva, .ref zle, .int ct, .int iv, .int dw, .ref zdr, .int ds])), (zrt, .inl (cI, 64, .inl sm_K)), (zfi, .inl (cI, 8, .inl sm_F)), (zsu, .inl (cI, 8, .inl gs)), (zwo, .inl (cI, 64, .inl gw)), (zro, .inl (cI, 512, .inl (sm_ap gr 0 gi k))), (zdi, .inl (cI, 32, .inl gd)), (zpa, .inl (cI, 64, .inl gp)), (zin, .inl (cI, 300, .inl gi))] H → va_D A [(zm, .inr (4, [.int flt, .ref zrt, .ref zfi, .ref zsu, .ref zwo, .ref zro, .int (nI (0 + k)), .ref zdi, .ref zpa, .ref zin, .int (nI ni), .ref zow, .int os_, .int sd, .ref zke, .ref zva, .ref zle, .int ct, .int iv, .int dw, .ref zdr, .int ds])), (zrt, .inl (cI, 64, .inl sm_K)), (zfi, .inl (cI, 8, .inl sm_F)), (zsu, .inl (cI, 8, .inl gs)), (zwo, .inl (cI, 64, .inl gw)), (zro, .inl (cI, 512, .inl (sm_ap gr 0 gi k))), (zdi, .inl (cI, 32, .inl gd)), (zpa, .inl (cI, 64, .inl gp)), (zin, .inl (cI, 300, .inl gi))] → va_S A s.heap H locs → lv_has ls 3 [(2, .int (nI k)), (0, .ref zm), (1, .int i)] → W p l e (headSpec wsX4_hash rm_X4_hash).room s m ([.ref zm, .int i] : List Value).toArray below meth c H locs 0 0 Q (F0 m 14 ls []) := by
        intro zn
        induction zn with
        | zero => intro k H locs ls hmu; exact absurd hmu (Nat.not_lt_zero _)
        | succ zn ih =>
          intro k H locs ls hmu hi_14 hP hD hS hl
          refine lv_iload_n hx hb dX4_hash_14 rfl (lv_at hl 0 rfl) ?_
          refine lv_aload_n hx hb dX4_hash_15 rfl (lv_at hl 1 rfl) ?_
          refine va_get (D := D) (ci := 4) (v := .int (nI ni)) (C := RX4) (T := TX4) (N := 22) hx hb hts hw_X4 hown hK hP 0 rfl rfl 10 (by decide) hf_154 (fun _ h9 => h9) rfl dX4_hash_16 ?_
          refine lv_icmp_ge (tgt := 38) hx hb dX4_hash_19 (by decide) (fun c_19 => ?_) (fun c_19 => ?_)
          ·
            have hex_14 : k = ni := by
              rcases Nat.lt_or_ge k (ni) with q | q
              · exact absurd c_19 (nI_ge q (by omega))
              · omega
            rw [hex_14] at hP hD
            have hP : va_P D vwCl [(zm, .inr (4, [.int flt, .ref zrt, .ref zfi, .ref zsu, .ref zwo, .ref zro, .int (nI (0 + ni)), .ref zdi, .ref zpa, .ref zin, .int (nI ni), .ref zow, .int os_, .int sd, .ref zke, .ref zva, .ref zle, .int ct, .int iv, .int dw, .ref zdr, .int ds])), (zrt, .inl (cI, 64, .inl sm_K)), (zfi, .inl (cI, 8, .inl sm_F)), (zsu, .inl (cI, 8, .inl gs)), (zwo, .inl (cI, 64, .inl gw)), (zro, .inl (cI, 512, .inl (sm_ap gr 0 gi ni))), (zdi, .inl (cI, 32, .inl gd)), (zpa, .inl (cI, 64, .inl gp)), (zin, .inl (cI, 300, .inl gi))] H := hP
            have hD : va_D A [(zm, .inr (4, [.int flt, .ref zrt, .ref zfi, .ref zsu, .ref zwo, .ref zro, .int (nI (0 + ni)), .ref zdi, .ref zpa, .ref zin, .int (nI ni), .ref zow, .int os_, .int sd, .ref zke, .ref zva, .ref zle, .int ct, .int iv, .int dw, .ref zdr, .int ds])), (zrt, .inl (cI, 64, .inl sm_K)), (zfi, .inl (cI, 8, .inl sm_F)), (zsu, .inl (cI, 8, .inl gs)), (zwo, .inl (cI, 64, .inl gw)), (zro, .inl (cI, 512, .inl (sm_ap gr 0 gi ni))), (zdi, .inl (cI, 32, .inl gd)), (zpa, .inl (cI, 64, .inl gp)), (zin, .inl (cI, 300, .inl gi))] := hD
            refine lv_aload_n hx hb dX4_hash_38 rfl (lv_at hl 1 rfl) ?_
            refine sm_callVv (wc := [(zm, .inr (4, [.int flt, .ref zrt, .ref zfi, .ref zsu, .ref zwo, .ref zro, .int (nI (0 + ni)), .ref zdi, .ref zpa, .ref zin, .int (nI ni), .ref zow, .int os_, .int sd, .ref zke, .ref zva, .ref zle, .int ct, .int iv, .int dw, .ref zdr, .int ds])), (zrt, .inl (cI, 64, .inl sm_K)), (zfi, .inl (cI, 8, .inl sm_F)), (zsu, .inl (cI, 8, .inl gs)), (zwo, .inl (cI, 64, .inl gw)), (zro, .inl (cI, 512, .inl (sm_ap gr 0 gi ni))), (zdi, .inl (cI, 32, .inl gd))]) (wr := [(zpa, .inl (cI, 64, .inl gp)), (zin, .inl (cI, 300, .inl gi))]) (As := []) (rest := []) ⟨hx, hb, hml, hown, hts⟩ (sc_X4_hashRow l D cI th _ zm zrt zfi zsu zwo zro zdi zpa zin zow zke zva zle zdr flt (nI ni) os_ sd ct iv dw ds (0 + ni) gs gw (sm_ap gr 0 gi ni) gd (by unfold sm_nb; omega)) (cwV 0 hts gX4_hash_X4_hashRow rfl rfl rfl (by decide +kernel) ⟨Nat.le_of_ble_eq_true rfl, Nat.le_of_ble_eq_true rfl⟩) hP hD hS hA hK hT [0, 1, 2, 3, 4, 5, 6] [7, 8] rfl rfl rfl rfl (by decide) 0 4 rfl rfl rfl rfl hl.1 rfl (Nat.le_of_ble_eq_true rfl) dX4_hash_39 ⟨Nat.zero_le _, Nat.zero_le _⟩ (fun zt H1 locs ht hvm hB hJ hS => ?_)
            obtain ⟨gs4, gw4, gr4, hP1, -, hD1⟩ := hB
            rw [ht] at hP1
            obtain ⟨hP, hD⟩ := hJ _ hP1 hD1
            clear hJ
            generalize H1 = H at hP hS ⊢
            have hP : va_P D vwCl [(zm, .inr (4, [.int flt, .ref zrt, .ref zfi, .ref zsu, .ref zwo, .ref zro, .int (nI 0), .ref zdi, .ref zpa, .ref zin, .int (nI ni), .ref zow, .int os_, .int sd, .ref zke, .ref zva, .ref zle, .int ct, .int iv, .int dw, .ref zdr, .int ds])), (zrt, .inl (cI, 64, .inl sm_K)), (zfi, .inl (cI, 8, .inl sm_F)), (zsu, .inl (cI, 8, .inl gs4)), (zwo, .inl (cI, 64, .inl gw4)), (zro, .inl (cI, 512, .inl gr4)), (zdi, .inl (cI, 32, .inl (sm_sha (sm_ap gr 0 gi ni) (0 + ni)))), (zpa, .inl (cI, 64, .inl gp)), (zin, .inl (cI, 300, .inl gi))] H := hP.sub [2, 3, 4, 5, 6, 7, 8, 0, 1] rfl
            have hD : va_D A [(zm, .inr (4, [.int flt, .ref zrt, .ref zfi, .ref zsu, .ref zwo, .ref zro, .int (nI 0), .ref zdi, .ref zpa, .ref zin, .int (nI ni), .ref zow, .int os_, .int sd, .ref zke, .ref zva, .ref zle, .int ct, .int iv, .int dw, .ref zdr, .int ds])), (zrt, .inl (cI, 64, .inl sm_K)), (zfi, .inl (cI, 8, .inl sm_F)), (zsu, .inl (cI, 8, .inl gs4)), (zwo, .inl (cI, 64, .inl gw4)), (zro, .inl (cI, 512, .inl gr4)), (zdi, .inl (cI, 32, .inl (sm_sha (sm_ap gr 0 gi ni) (0 + ni)))), (zpa, .inl (cI, 64, .inl gp)), (zin, .inl (cI, 300, .inl gi))] := hD.sub [2, 3, 4, 5, 6, 7, 8, 0, 1] rfl rfl
            rw [show sm_sha (sm_ap gr 0 gi ni) (0 + ni) = sm_sha gi ni from by rw [Nat.zero_add]; exact sm_sha_congr (fun j hj => sm_ap_z hj)] at hP hD
            have hP : va_P D vwCl [(zm, .inr (4, [.int flt, .ref zrt, .ref zfi, .ref zsu, .ref zwo, .ref zro, .int (nI 0), .ref zdi, .ref zpa, .ref zin, .int (nI ni), .ref zow, .int os_, .int sd, .ref zke, .ref zva, .ref zle, .int ct, .int iv, .int dw, .ref zdr, .int ds])), (zrt, .inl (cI, 64, .inl sm_K)), (zfi, .inl (cI, 8, .inl sm_F)), (zsu, .inl (cI, 8, .inl gs4)), (zwo, .inl (cI, 64, .inl gw4)), (zro, .inl (cI, 512, .inl gr4)), (zdi, .inl (cI, 32, .inl (sm_sha gi ni))), (zpa, .inl (cI, 64, .inl gp)), (zin, .inl (cI, 300, .inl gi))] H := hP
            have hD : va_D A [(zm, .inr (4, [.int flt, .ref zrt, .ref zfi, .ref zsu, .ref zwo, .ref zro, .int (nI 0), .ref zdi, .ref zpa, .ref zin, .int (nI ni), .ref zow, .int os_, .int sd, .ref zke, .ref zva, .ref zle, .int ct, .int iv, .int dw, .ref zdr, .int ds])), (zrt, .inl (cI, 64, .inl sm_K)), (zfi, .inl (cI, 8, .inl sm_F)), (zsu, .inl (cI, 8, .inl gs4)), (zwo, .inl (cI, 64, .inl gw4)), (zro, .inl (cI, 512, .inl gr4)), (zdi, .inl (cI, 32, .inl (sm_sha gi ni))), (zpa, .inl (cI, 64, .inl gp)), (zin, .inl (cI, 300, .inl gi))] := hD
            refine lv_aload_n hx hb dX4_hash_42 rfl (lv_at hl 1 rfl) ?_
            refine va_get (D := D) (ci := 4) (v := .ref zdi) (C := RX4) (T := TX4) (N := 22) hx hb hts hw_X4 hown hK hP 0 rfl rfl 7 (by decide) hf_97 (fun _ h9 => h9) rfl dX4_hash_43 ?_
            refine lv_iload_n hx hb dX4_hash_46 rfl (lv_at hl 2 rfl) ?_
            have hi0 : ∃ j : Nat, j < 32 ∧ i = nI j := by
              rcases pk_ix i (n := 32) (by omega) with q | q | q
              · exact absurd q c_1
              · exact absurd q (Int32.not_le.mpr c_7)
              · exact q
            obtain ⟨j, hj, ej⟩ := hi0
            have hin9 : vp_in i 32 := by rw [ej]; exact vp_in_nI (by omega) (by decide)
            refine va_iald (i := i) hx hb hK hP 6 0 rfl rfl hin9 dX4_hash_47 ?_
            rw [hQ]
            have hP9 : va_P D vwCl [(zm, .inr (4, [.int flt, .ref zrt, .ref zfi, .ref zsu, .ref zwo, .ref zro, .int (nI 0), .ref zdi, .ref zpa, .ref zin, .int (nI ni), .ref zow, .int os_, .int sd, .ref zke, .ref zva, .ref zle, .int ct, .int iv, .int dw, .ref zdr, .int ds])), (zrt, .inl (cI, 64, .inl sm_K)), (zfi, .inl (cI, 8, .inl sm_F)), (zsu, .inl (cI, 8, .inl gs4)), (zwo, .inl (cI, 64, .inl gw4)), (zro, .inl (cI, 512, .inl gr4)), (zdi, .inl (cI, 32, .inl (sm_sha gi ni))), (zpa, .inl (cI, 64, .inl gp)), (zin, .inl (cI, 300, .inl gi))] H := hP
            have hD9 : va_D A [(zm, .inr (4, [.int flt, .ref zrt, .ref zfi, .ref zsu, .ref zwo, .ref zro, .int (nI 0), .ref zdi, .ref zpa, .ref zin, .int (nI ni), .ref zow, .int os_, .int sd, .ref zke, .ref zva, .ref zle, .int ct, .int iv, .int dw, .ref zdr, .int ds])), (zrt, .inl (cI, 64, .inl sm_K)), (zfi, .inl (cI, 8, .inl sm_F)), (zsu, .inl (cI, 8, .inl gs4)), (zwo, .inl (cI, 64, .inl gw4)), (zro, .inl (cI, 512, .inl gr4)), (zdi, .inl (cI, 32, .inl (sm_sha gi ni))), (zpa, .inl (cI, 64, .inl gp)), (zin, .inl (cI, 300, .inl gi))] := hD
            exact W.iret (v := (sm_sha gi ni) (Int32.toNatClampNeg i)) hx hb hr (fun t ht hW => ⟨⟨(sm_sha gi ni) (Int32.toNatClampNeg i), (), rfl, (by unfold sm_at; rw [if_neg (fun q => q.elim c_1 (Int32.not_le.mpr c_7))]), ⟨_, _, _, _, _, by rw [ht]; exact hP9, va_K.moved hW.alike hK, hD9⟩⟩, hS.F ht⟩) hS.2.2 dX4_hash_48
          ·
            have hlt_14 : k < ni := by
              rcases Nat.lt_or_ge k (ni) with q | q
              · exact q
              · exact absurd (nI_le q (by omega)) c_19
            refine lv_aload_n hx hb dX4_hash_22 rfl (lv_at hl 1 rfl) ?_
            refine lv_aload_n hx hb dX4_hash_23 rfl (lv_at hl 1 rfl) ?_
            refine va_get (D := D) (ci := 4) (v := .ref zin) (C := RX4) (T := TX4) (N := 22) hx hb hts hw_X4 hown hK hP 0 rfl rfl 9 (by decide) hf_103 (fun _ h9 => h9) rfl dX4_hash_24 ?_
            refine lv_iload_n hx hb dX4_hash_27 rfl (lv_at hl 0 rfl) ?_
            refine va_iald (i := nI k) hx hb hK hP 8 0 rfl rfl (vp_in_nI (n := k) (by omega) (by omega)) dX4_hash_28 ?_
            refine sm_top (z := gi k) (congrArg gi (nI_clamp (n := k) (by omega))) ?_
            refine sm_callVv (wc := [(zm, .inr (4, [.int flt, .ref zrt, .ref zfi, .ref zsu, .ref zwo, .ref zro, .int (nI (0 + k)), .ref zdi, .ref zpa, .ref zin, .int (nI ni), .ref zow, .int os_, .int sd, .ref zke, .ref zva, .ref zle, .int ct, .int iv, .int dw, .ref zdr, .int ds])), (zro, .inl (cI, 512, .inl (sm_ap gr 0 gi k)))]) (wr := [(zrt, .inl (cI, 64, .inl sm_K)), (zfi, .inl (cI, 8, .inl sm_F)), (zsu, .inl (cI, 8, .inl gs)), (zwo, .inl (cI, 64, .inl gw)), (zdi, .inl (cI, 32, .inl gd)), (zpa, .inl (cI, 64, .inl gp)), (zin, .inl (cI, 300, .inl gi))]) (As := [.int (gi k)]) (rest := []) ⟨hx, hb, hml, hown, hts⟩ (sc_X4_put l D cI th _ zm zrt zfi zsu zwo zro zdi zpa zin zow zke zva zle zdr flt (nI ni) os_ sd ct iv dw ds (0 + k) (sm_ap gr 0 gi k) (gi k) (by omega)) (cwV 1 hts gX4_hash_X4_put rfl rfl rfl (by decide +kernel) ⟨Nat.le_of_ble_eq_true rfl, Nat.le_of_ble_eq_true rfl⟩) hP hD hS hA hK hT [0, 5] [1, 2, 3, 4, 6, 7, 8] rfl rfl rfl rfl (by decide) 0 4 rfl rfl rfl rfl hl.1 rfl (Nat.le_of_ble_eq_true rfl) dX4_hash_29 ⟨Nat.zero_le _, Nat.zero_le _⟩ (fun zt H1 locs ht hvm hB hJ hS => ?_)
            obtain ⟨hP1, -, hD1⟩ := hB
            rw [ht] at hP1
            obtain ⟨hP, hD⟩ := hJ _ hP1 hD1
            clear hJ
            generalize H1 = H at hP hS ⊢
            have hP : va_P D vwCl [(zm, .inr (4, [.int flt, .ref zrt, .ref zfi, .ref zsu, .ref zwo, .ref zro, .int (nI (0 + k + 1)), .ref zdi, .ref zpa, .ref zin, .int (nI ni), .ref zow, .int os_, .int sd, .ref zke, .ref zva, .ref zle, .int ct, .int iv, .int dw, .ref zdr, .int ds])), (zrt, .inl (cI, 64, .inl sm_K)), (zfi, .inl (cI, 8, .inl sm_F)), (zsu, .inl (cI, 8, .inl gs)), (zwo, .inl (cI, 64, .inl gw)), (zro, .inl (cI, 512, .inl (upd (sm_ap gr 0 gi k) (0 + k) ((gi k) &&& 255)))), (zdi, .inl (cI, 32, .inl gd)), (zpa, .inl (cI, 64, .inl gp)), (zin, .inl (cI, 300, .inl gi))] H := hP.sub [7, 0, 1, 2, 3, 8, 4, 5, 6] rfl
            have hD : va_D A [(zm, .inr (4, [.int flt, .ref zrt, .ref zfi, .ref zsu, .ref zwo, .ref zro, .int (nI (0 + k + 1)), .ref zdi, .ref zpa, .ref zin, .int (nI ni), .ref zow, .int os_, .int sd, .ref zke, .ref zva, .ref zle, .int ct, .int iv, .int dw, .ref zdr, .int ds])), (zrt, .inl (cI, 64, .inl sm_K)), (zfi, .inl (cI, 8, .inl sm_F)), (zsu, .inl (cI, 8, .inl gs)), (zwo, .inl (cI, 64, .inl gw)), (zro, .inl (cI, 512, .inl (upd (sm_ap gr 0 gi k) (0 + k) ((gi k) &&& 255)))), (zdi, .inl (cI, 32, .inl gd)), (zpa, .inl (cI, 64, .inl gp)), (zin, .inl (cI, 300, .inl gi))] := hD.sub [7, 0, 1, 2, 3, 8, 4, 5, 6] rfl rfl
            rw [show (gi k : Int32) &&& 255 = gi k from hgi k hlt_14] at hP hD
            have hP : va_P D vwCl [(zm, .inr (4, [.int flt, .ref zrt, .ref zfi, .ref zsu, .ref zwo, .ref zro, .int (nI (0 + k + 1)), .ref zdi, .ref zpa, .ref zin, .int (nI ni), .ref zow, .int os_, .int sd, .ref zke, .ref zva, .ref zle, .int ct, .int iv, .int dw, .ref zdr, .int ds])), (zrt, .inl (cI, 64, .inl sm_K)), (zfi, .inl (cI, 8, .inl sm_F)), (zsu, .inl (cI, 8, .inl gs)), (zwo, .inl (cI, 64, .inl gw)), (zro, .inl (cI, 512, .inl (upd (sm_ap gr 0 gi k) (0 + k) (gi k)))), (zdi, .inl (cI, 32, .inl gd)), (zpa, .inl (cI, 64, .inl gp)), (zin, .inl (cI, 300, .inl gi))] H := hP
            have hD : va_D A [(zm, .inr (4, [.int flt, .ref zrt, .ref zfi, .ref zsu, .ref zwo, .ref zro, .int (nI (0 + k + 1)), .ref zdi, .ref zpa, .ref zin, .int (nI ni), .ref zow, .int os_, .int sd, .ref zke, .ref zva, .ref zle, .int ct, .int iv, .int dw, .ref zdr, .int ds])), (zrt, .inl (cI, 64, .inl sm_K)), (zfi, .inl (cI, 8, .inl sm_F)), (zsu, .inl (cI, 8, .inl gs)), (zwo, .inl (cI, 64, .inl gw)), (zro, .inl (cI, 512, .inl (upd (sm_ap gr 0 gi k) (0 + k) (gi k)))), (zdi, .inl (cI, 32, .inl gd)), (zpa, .inl (cI, 64, .inl gp)), (zin, .inl (cI, 300, .inl gi))] := hD
            refine lv_iinc (v := nI (k + 1)) (lv' := [(2, .int (nI (k + 1))), (0, .ref zm), (1, .int i)]) hx hb dX4_hash_32 hl (k := 0) rfl (nI_1 k) (by decide) rfl (fun ls hl => ?_)
            refine lv_goto (tgt := 14) hx hb dX4_hash_35 (by decide) ?_
            rw [sm_ap_s] at hP hD
            exact ih (k + 1) _ _ _ (by omega) (by omega) hP hD hS (lv_sub hl [0, 1, 2] rfl)
      exact lp14 _ 0 _ _ _ (Nat.lt_succ_self _) (Nat.zero_le _) (by rw [sm_ap_0]; exact hP) (by rw [sm_ap_0]; exact hD) hS (lv_sub hl [0, 1, 2] rfl)
    ·
      refine lv_iconst (v := (-1)) hx hb dX4_hash_10 (by decide) ?_
      rw [hQ]
      have hP9 : va_P D vwCl [(zm, .inr (4, [.int flt, .ref zrt, .ref zfi, .ref zsu, .ref zwo, .ref zro, .int (nI 0), .ref zdi, .ref zpa, .ref zin, .int (nI ni), .ref zow, .int os_, .int sd, .ref zke, .ref zva, .ref zle, .int ct, .int iv, .int dw, .ref zdr, .int ds])), (zrt, .inl (cI, 64, .inl sm_K)), (zfi, .inl (cI, 8, .inl sm_F)), (zsu, .inl (cI, 8, .inl gs)), (zwo, .inl (cI, 64, .inl gw)), (zro, .inl (cI, 512, .inl gr)), (zdi, .inl (cI, 32, .inl gd)), (zpa, .inl (cI, 64, .inl gp)), (zin, .inl (cI, 300, .inl gi))] s.heap := hP
      have hD9 : va_D A [(zm, .inr (4, [.int flt, .ref zrt, .ref zfi, .ref zsu, .ref zwo, .ref zro, .int (nI 0), .ref zdi, .ref zpa, .ref zin, .int (nI ni), .ref zow, .int os_, .int sd, .ref zke, .ref zva, .ref zle, .int ct, .int iv, .int dw, .ref zdr, .int ds])), (zrt, .inl (cI, 64, .inl sm_K)), (zfi, .inl (cI, 8, .inl sm_F)), (zsu, .inl (cI, 8, .inl gs)), (zwo, .inl (cI, 64, .inl gw)), (zro, .inl (cI, 512, .inl gr)), (zdi, .inl (cI, 32, .inl gd)), (zpa, .inl (cI, 64, .inl gp)), (zin, .inl (cI, 300, .inl gi))] := hD
      exact W.iret (v := (-1)) hx hb hr (fun t ht hW => ⟨⟨(-1), (), rfl, (by unfold sm_at; rw [if_pos (by first | exact Or.inl c_1 | exact Or.inr (Int32.not_lt.mp c_7))]), ⟨_, _, _, _, _, by rw [ht]; exact hP9, va_K.moved hW.alike hK, hD9⟩⟩, hS.F ht⟩) hS.2.2 dX4_hash_11

def rm_X4_keyed : Room := ({ frames := 4, cells := 0, slots := 0, locals := 96 } : Room)
set_option maxHeartbeats 4000000 in
set_option maxRecDepth 100000 in
/-- keyed -/
theorem sc_X4_keyed (l : Launch) (D : va_G) (cI : ClassId) (th : Option (Nat × Nat)) (sz : Nat) (zm zrt zfi zsu zwo zro zdi zpa zin zow zke zva zle zdr : Nat) (flt is_ os_ sd ct iv dw ds : Int32) (i : Int32) (gs gw gr gd gp : Nat → Int32) (ni no : Nat) (gi go : Nat → Int32) (hni : ni ≤ 300) (hgi : ∀ j, j < ni → sm_by (gi j)) (hno : no ≤ 300) (hgo : ∀ j, j < no → sm_by (go j)) : Met l yX4_keyed wsX4_keyed rm_X4_keyed (va_Pc [.ref zm, .int i] (sm_PW D cI th [(zm, .inr (4, [.int flt, .ref zrt, .ref zfi, .ref zsu, .ref zwo, .ref zro, .int (nI 0), .ref zdi, .ref zpa, .ref zin, .int (nI ni), .ref zow, .int (nI no), .int sd, .ref zke, .ref zva, .ref zle, .int ct, .int iv, .int dw, .ref zdr, .int ds])), (zrt, .inl (cI, 64, .inl sm_K)), (zfi, .inl (cI, 8, .inl sm_F)), (zsu, .inl (cI, 8, .inl gs)), (zwo, .inl (cI, 64, .inl gw)), (zro, .inl (cI, 512, .inl gr)), (zdi, .inl (cI, 32, .inl gd)), (zpa, .inl (cI, 64, .inl gp)), (zin, .inl (cI, 300, .inl gi)), (zow, .inl (cI, 300, .inl go))] sz)) (va_Qi (fun (r : Int32) (_ : Unit) => r = sm_at (sm_hm go no gi ni) 32 i) (fun _ t => ∃ (gs2 : Nat → Int32) (gw2 : Nat → Int32) (gr2 : Nat → Int32) (gd2 : Nat → Int32) (gp2 : Nat → Int32), sm_QW D cI (va_A [(zm, .inr (4, [.int flt, .ref zrt, .ref zfi, .ref zsu, .ref zwo, .ref zro, .int (nI 0), .ref zdi, .ref zpa, .ref zin, .int (nI ni), .ref zow, .int (nI no), .int sd, .ref zke, .ref zva, .ref zle, .int ct, .int iv, .int dw, .ref zdr, .int ds])), (zrt, .inl (cI, 64, .inl sm_K)), (zfi, .inl (cI, 8, .inl sm_F)), (zsu, .inl (cI, 8, .inl gs)), (zwo, .inl (cI, 64, .inl gw)), (zro, .inl (cI, 512, .inl gr)), (zdi, .inl (cI, 32, .inl gd)), (zpa, .inl (cI, 64, .inl gp)), (zin, .inl (cI, 300, .inl gi)), (zow, .inl (cI, 300, .inl go))] sz) [(zm, .inr (4, [.int flt, .ref zrt, .ref zfi, .ref zsu, .ref zwo, .ref zro, .int (nI 0), .ref zdi, .ref zpa, .ref zin, .int (nI ni), .ref zow, .int (nI no), .int sd, .ref zke, .ref zva, .ref zle, .int ct, .int iv, .int dw, .ref zdr, .int ds])), (zrt, .inl (cI, 64, .inl sm_K)), (zfi, .inl (cI, 8, .inl sm_F)), (zsu, .inl (cI, 8, .inl gs2)), (zwo, .inl (cI, 64, .inl gw2)), (zro, .inl (cI, 512, .inl gr2)), (zdi, .inl (cI, 32, .inl gd2)), (zpa, .inl (cI, 64, .inl gp2)), (zin, .inl (cI, 300, .inl gi)), (zow, .inl (cI, 300, .inl go))] t) (va_A [(zm, .inr (4, [.int flt, .ref zrt, .ref zfi, .ref zsu, .ref zwo, .ref zro, .int (nI 0), .ref zdi, .ref zpa, .ref zin, .int (nI ni), .ref zow, .int (nI no), .int sd, .ref zke, .ref zva, .ref zle, .int ct, .int iv, .int dw, .ref zdr, .int ds])), (zrt, .inl (cI, 64, .inl sm_K)), (zfi, .inl (cI, 8, .inl sm_F)), (zsu, .inl (cI, 8, .inl gs)), (zwo, .inl (cI, 64, .inl gw)), (zro, .inl (cI, 512, .inl gr)), (zdi, .inl (cI, 32, .inl gd)), (zpa, .inl (cI, 64, .inl gp)), (zin, .inl (cI, 300, .inl gi)), (zow, .inl (cI, 300, .inl go))] sz)) 0 0 (va_A [(zm, .inr (4, [.int flt, .ref zrt, .ref zfi, .ref zsu, .ref zwo, .ref zro, .int (nI 0), .ref zdi, .ref zpa, .ref zin, .int (nI ni), .ref zow, .int (nI no), .int sd, .ref zke, .ref zva, .ref zle, .int ct, .int iv, .int dw, .ref zdr, .int ds])), (zrt, .inl (cI, 64, .inl sm_K)), (zfi, .inl (cI, 8, .inl sm_F)), (zsu, .inl (cI, 8, .inl gs)), (zwo, .inl (cI, 64, .inl gw)), (zro, .inl (cI, 512, .inl gr)), (zdi, .inl (cI, 32, .inl gd)), (zpa, .inl (cI, 64, .inl gp)), (zin, .inl (cI, 300, .inl gi)), (zow, .inl (cI, 300, .inl go))] sz) := by
  refine Met.ofW (cc := cX4_keyed) (maxL := 3) (ret := (some .int)) (by decide) rfl ?_
  intro p e s m args below meth c s₁ B hml hv
  obtain ⟨rfl, hsz, hP, hK, hD0, hT⟩ := hv
  have hx := B.exec
  have hb := B.bytes
  have hr := B.returns
  have hts := atoms_spec (ws := wsX4_keyed) B.pre
  have hown : s.vm.findClass RX4 = some m.cls := findClass_of_methodNamed B.named
  have hlocks := B.notSynchronized
  subst hsz
  have hD := hD0.self (sz := s.heap.size)
  generalize hAe : va_A [(zm, .inr (4, [.int flt, .ref zrt, .ref zfi, .ref zsu, .ref zwo, .ref zro, .int (nI 0), .ref zdi, .ref zpa, .ref zin, .int (nI ni), .ref zow, .int (nI no), .int sd, .ref zke, .ref zva, .ref zle, .int ct, .int iv, .int dw, .ref zdr, .int ds])), (zrt, .inl (cI, 64, .inl sm_K)), (zfi, .inl (cI, 8, .inl sm_F)), (zsu, .inl (cI, 8, .inl gs)), (zwo, .inl (cI, 64, .inl gw)), (zro, .inl (cI, 512, .inl gr)), (zdi, .inl (cI, 32, .inl gd)), (zpa, .inl (cI, 64, .inl gp)), (zin, .inl (cI, 300, .inl gi)), (zow, .inl (cI, 300, .inl go))] s.heap.size = A at hD hT ⊢
  have hA : ∀ q : Nat, s.heap.size ≤ q → A q := fun q h => by rw [← hAe]; exact Or.inr h
  have hS : va_S A s.heap s.heap [] := va_S.rf
  have hl := lv_entry ([.ref zm, .int i]) (n := 3) (Nat.le_of_ble_eq_true rfl)
  rw [lg_entry_eq]
  generalize (lg_sl ([.ref zm, .int i]) ++ List.replicate (3 - (lg_sl ([.ref zm, .int i])).length) Slot.unset).toArray = ls at hl ⊢
  have hl : lv_has ls 3 [(0, .ref zm), (1, .int i)] := hl
  refine sm_name (fun Q hQ => ?_)
  have hf_178 := hts (.fieldLink RX4 178 "SeedMillModel" "ownSize" "I") (by decide +kernel)
  have hw_X4 : ∀ w ∈ wsX40, w ∈ wsX4_keyed := by decide +kernel
  have hf_106 := hts (.fieldLink RX4 106 "SeedMillModel" "ownKey" "[I") (by decide +kernel)
  have hf_100 := hts (.fieldLink RX4 100 "SeedMillModel" "padded" "[I") (by decide +kernel)
  have hf_97 := hts (.fieldLink RX4 97 "SeedMillModel" "digest" "[I") (by decide +kernel)
  have hf_154 := hts (.fieldLink RX4 154 "SeedMillModel" "inputSize" "I") (by decide +kernel)
  have hf_103 := hts (.fieldLink RX4 103 "SeedMillModel" "input" "[I") (by decide +kernel)
  refine lv_iload_n hx hb dX4_keyed_0 rfl (lv_at hl 1 rfl) ?_
  refine lv_if_lt (tgt := 10) hx hb dX4_keyed_1 (by decide) (fun c_1 => ?_) (fun c_1 => ?_)
  ·
    refine lv_iconst (v := (-1)) hx hb dX4_keyed_10 (by decide) ?_
    rw [hQ]
    have hP9 : va_P D vwCl [(zm, .inr (4, [.int flt, .ref zrt, .ref zfi, .ref zsu, .ref zwo, .ref zro, .int (nI 0), .ref zdi, .ref zpa, .ref zin, .int (nI ni), .ref zow, .int (nI no), .int sd, .ref zke, .ref zva, .ref zle, .int ct, .int iv, .int dw, .ref zdr, .int ds])), (zrt, .inl (cI, 64, .inl sm_K)), (zfi, .inl (cI, 8, .inl sm_F)), (zsu, .inl (cI, 8, .inl gs)), (zwo, .inl (cI, 64, .inl gw)), (zro, .inl (cI, 512, .inl gr)), (zdi, .inl (cI, 32, .inl gd)), (zpa, .inl (cI, 64, .inl gp)), (zin, .inl (cI, 300, .inl gi)), (zow, .inl (cI, 300, .inl go))] s.heap := hP
    have hD9 : va_D A [(zm, .inr (4, [.int flt, .ref zrt, .ref zfi, .ref zsu, .ref zwo, .ref zro, .int (nI 0), .ref zdi, .ref zpa, .ref zin, .int (nI ni), .ref zow, .int (nI no), .int sd, .ref zke, .ref zva, .ref zle, .int ct, .int iv, .int dw, .ref zdr, .int ds])), (zrt, .inl (cI, 64, .inl sm_K)), (zfi, .inl (cI, 8, .inl sm_F)), (zsu, .inl (cI, 8, .inl gs)), (zwo, .inl (cI, 64, .inl gw)), (zro, .inl (cI, 512, .inl gr)), (zdi, .inl (cI, 32, .inl gd)), (zpa, .inl (cI, 64, .inl gp)), (zin, .inl (cI, 300, .inl gi)), (zow, .inl (cI, 300, .inl go))] := hD
    exact W.iret (v := (-1)) hx hb hr (fun t ht hW => ⟨⟨(-1), (), rfl, (by unfold sm_at; rw [if_pos (by first | exact Or.inl c_1 | exact Or.inr (Int32.not_lt.mp c_7))]), ⟨_, _, _, _, _, by rw [ht]; exact hP9, va_K.moved hW.alike hK, hD9⟩⟩, hS.F ht⟩) hS.2.2 dX4_keyed_11
  ·
    refine lv_iload_n hx hb dX4_keyed_4 rfl (lv_at hl 1 rfl) ?_
    refine lv_bipush (v := 32) hx hb dX4_keyed_5 (by decide) ?_
    refine lv_icmp_lt (tgt := 12) hx hb dX4_keyed_7 (by decide) (fun c_7 => ?_) (fun c_7 => ?_)
    ·
      refine lv_aload_n hx hb dX4_keyed_12 rfl (lv_at hl 0 rfl) ?_
      refine va_get (D := D) (ci := 4) (v := .int (nI no)) (C := RX4) (T := TX4) (N := 22) hx hb hts hw_X4 hown hK hP 0 rfl rfl 12 (by decide) hf_178 (fun _ h9 => h9) rfl dX4_keyed_13 ?_
      refine lv_bipush (v := 64) hx hb dX4_keyed_16 (by decide) ?_
      refine lv_icmp_le (tgt := 51) hx hb dX4_keyed_18 (by decide) (fun c_18 => ?_) (fun c_18 => ?_)
      ·
        have hsm : no ≤ 64 := by
          rcases Nat.lt_or_ge 64 no with q | q
          · exact absurd c_18 (nI_ge q (by omega))
          · exact q
        refine lv_iconst (v := 0) hx hb dX4_keyed_51 (by decide) ?_
        refine lv_istore_n (lv' := [(2, .int 0), (0, .ref zm), (1, .int i)]) hx hb dX4_keyed_52 rfl hl (by decide) rfl (fun ls hl => ?_)
        have lp53 : ∀ (zn : Nat) (k2 : Nat) (H : Heap) (locs : List Loc) (ls : Array Slot), 64 - k2 < zn → k2 ≤ 64 → va_P D vwCl [(zm, .inr (4, [.int flt, .ref zrt, .ref zfi, .ref zsu, .ref zwo, .ref zro, .int (nI 0), .ref zdi, .ref zpa, .ref zin, .int (nI ni), .ref zow, .int (nI no), .int sd, .ref zke, .ref zva, .ref zle, .int ct, .int iv, .int dw, .ref zdr, .int ds])), (zrt, .inl (cI, 64, .inl sm_K)), (zfi, .inl (cI, 8, .inl sm_F)), (zsu, .inl (cI, 8, .inl gs)), (zwo, .inl (cI, 64, .inl gw)), (zro, .inl (cI, 512, .inl gr)), (zdi, .inl (cI, 32, .inl gd)), (zpa, .inl (cI, 64, .inl (sm_ap gp 0 (sm_kb go no) k2))), (zin, .inl (cI, 300, .inl gi)), (zow, .inl (cI, 300, .inl go))] H → va_D A [(zm, .inr (4, [.int flt, .ref zrt, .ref zfi, .ref zsu, .ref zwo, .ref zro, .int (nI 0), .ref zdi, .ref zpa, .ref zin, .int (nI ni), .ref zow, .int (nI no), .int sd, .ref zke, .ref zva, .ref zle, .int ct, .int iv, .int dw, .ref zdr, .int ds])), (zrt, .inl (cI, 64, .inl sm_K)), (zfi, .inl (cI, 8, .inl sm_F)), (zsu, .inl (cI, 8, .inl gs)), (zwo, .inl (cI, 64, .inl gw)), (zro, .inl (cI, 512, .inl gr)), (zdi, .inl (cI, 32, .inl gd)), (zpa, .inl (cI, 64, .inl (sm_ap gp 0 (sm_kb go no) k2))), (zin, .inl (cI, 300, .inl gi)), (zow, .inl (cI, 300, .inl go))] → va_S A s.heap H locs → lv_has ls 3 [(2, .int (nI k2)), (0, .ref zm), (1, .int i)] → W p l e (headSpec wsX4_keyed rm_X4_keyed).room s m ([.ref zm, .int i] : List Value).toArray below meth c H locs 0 0 Q (F0 m 53 ls []) := by
          intro zn
          induction zn with
          | zero => intro k2 H locs ls hmu; exact absurd hmu (Nat.not_lt_zero _)
          | succ zn ih =>
            intro k2 H locs ls hmu hi_53 hP hD hS hl
            refine lv_iload_n hx hb dX4_keyed_53 rfl (lv_at hl 0 rfl) ?_
            refine lv_bipush (v := 64) hx hb dX4_keyed_54 (by decide) ?_
            refine lv_icmp_ge (tgt := 117) hx hb dX4_keyed_56 (by decide) (fun c_56 => ?_) (fun c_56 => ?_)
            ·
              have hex_53 : k2 = 64 := by
                rcases Nat.lt_or_ge k2 (64) with q | q
                · exact absurd c_56 (nI_ge q (by decide))
                · omega
              rw [hex_53] at hP hD
              have hP := sm_arr hP 7 rfl (sm_kb go no) (fun j hj => sm_ap_z hj)
              have hD := sm_arrD (y := .inl (cI, 64, .inl (sm_kb go no))) hD 7 rfl
              have hP : va_P D vwCl [(zm, .inr (4, [.int flt, .ref zrt, .ref zfi, .ref zsu, .ref zwo, .ref zro, .int (nI 0), .ref zdi, .ref zpa, .ref zin, .int (nI ni), .ref zow, .int (nI no), .int sd, .ref zke, .ref zva, .ref zle, .int ct, .int iv, .int dw, .ref zdr, .int ds])), (zrt, .inl (cI, 64, .inl sm_K)), (zfi, .inl (cI, 8, .inl sm_F)), (zsu, .inl (cI, 8, .inl gs)), (zwo, .inl (cI, 64, .inl gw)), (zro, .inl (cI, 512, .inl gr)), (zdi, .inl (cI, 32, .inl gd)), (zpa, .inl (cI, 64, .inl (sm_kb go no))), (zin, .inl (cI, 300, .inl gi)), (zow, .inl (cI, 300, .inl go))] H := hP
              have hD : va_D A [(zm, .inr (4, [.int flt, .ref zrt, .ref zfi, .ref zsu, .ref zwo, .ref zro, .int (nI 0), .ref zdi, .ref zpa, .ref zin, .int (nI ni), .ref zow, .int (nI no), .int sd, .ref zke, .ref zva, .ref zle, .int ct, .int iv, .int dw, .ref zdr, .int ds])), (zrt, .inl (cI, 64, .inl sm_K)), (zfi, .inl (cI, 8, .inl sm_F)), (zsu, .inl (cI, 8, .inl gs)), (zwo, .inl (cI, 64, .inl gw)), (zro, .inl (cI, 512, .inl gr)), (zdi, .inl (cI, 32, .inl gd)), (zpa, .inl (cI, 64, .inl (sm_kb go no))), (zin, .inl (cI, 300, .inl gi)), (zow, .inl (cI, 300, .inl go))] := hD
              refine lv_aload_n hx hb dX4_keyed_117 rfl (lv_at hl 1 rfl) ?_
              refine lv_bipush (v := 54) hx hb dX4_keyed_118 (by decide) ?_
              refine sm_callVv (wc := [(zm, .inr (4, [.int flt, .ref zrt, .ref zfi, .ref zsu, .ref zwo, .ref zro, .int (nI 0), .ref zdi, .ref zpa, .ref zin, .int (nI ni), .ref zow, .int (nI no), .int sd, .ref zke, .ref zva, .ref zle, .int ct, .int iv, .int dw, .ref zdr, .int ds])), (zro, .inl (cI, 512, .inl gr)), (zpa, .inl (cI, 64, .inl (sm_kb go no)))]) (wr := [(zrt, .inl (cI, 64, .inl sm_K)), (zfi, .inl (cI, 8, .inl sm_F)), (zsu, .inl (cI, 8, .inl gs)), (zwo, .inl (cI, 64, .inl gw)), (zdi, .inl (cI, 32, .inl gd)), (zin, .inl (cI, 300, .inl gi)), (zow, .inl (cI, 300, .inl go))]) (As := [.int 54]) (rest := []) ⟨hx, hb, hml, hown, hts⟩ (sc_X4_putPad l D cI th _ zm zrt zfi zsu zwo zro zdi zpa zin zow zke zva zle zdr flt (nI ni) (nI no) sd ct iv dw ds 0 gr (sm_kb go no) 54 (by decide) (fun j _ => sm_kb_by hgo j) (by unfold sm_by; decide)) (cwV 1 hts gX4_keyed_X4_putPad rfl rfl rfl (by decide +kernel) ⟨Nat.le_of_ble_eq_true rfl, Nat.le_of_ble_eq_true rfl⟩) hP hD hS hA hK hT [0, 5, 7] [1, 2, 3, 4, 6, 8, 9] rfl rfl rfl rfl (by decide) 0 4 rfl rfl rfl rfl hl.1 rfl (Nat.le_of_ble_eq_true rfl) dX4_keyed_120 ⟨Nat.zero_le _, Nat.zero_le _⟩ (fun zt H1 locs ht hvm hB hJ hS => ?_)
              obtain ⟨hP1, -, hD1⟩ := hB
              rw [ht] at hP1
              obtain ⟨hP, hD⟩ := hJ _ hP1 hD1
              clear hJ
              generalize H1 = H at hP hS ⊢
              have hP : va_P D vwCl [(zm, .inr (4, [.int flt, .ref zrt, .ref zfi, .ref zsu, .ref zwo, .ref zro, .int (nI (0 + 64)), .ref zdi, .ref zpa, .ref zin, .int (nI ni), .ref zow, .int (nI no), .int sd, .ref zke, .ref zva, .ref zle, .int ct, .int iv, .int dw, .ref zdr, .int ds])), (zrt, .inl (cI, 64, .inl sm_K)), (zfi, .inl (cI, 8, .inl sm_F)), (zsu, .inl (cI, 8, .inl gs)), (zwo, .inl (cI, 64, .inl gw)), (zro, .inl (cI, 512, .inl (sm_ap gr 0 (fun j => (sm_kb go no) j ^^^ 54) 64))), (zdi, .inl (cI, 32, .inl gd)), (zpa, .inl (cI, 64, .inl (sm_kb go no))), (zin, .inl (cI, 300, .inl gi)), (zow, .inl (cI, 300, .inl go))] H := hP.sub [7, 0, 1, 2, 3, 8, 4, 9, 5, 6] rfl
              have hD : va_D A [(zm, .inr (4, [.int flt, .ref zrt, .ref zfi, .ref zsu, .ref zwo, .ref zro, .int (nI (0 + 64)), .ref zdi, .ref zpa, .ref zin, .int (nI ni), .ref zow, .int (nI no), .int sd, .ref zke, .ref zva, .ref zle, .int ct, .int iv, .int dw, .ref zdr, .int ds])), (zrt, .inl (cI, 64, .inl sm_K)), (zfi, .inl (cI, 8, .inl sm_F)), (zsu, .inl (cI, 8, .inl gs)), (zwo, .inl (cI, 64, .inl gw)), (zro, .inl (cI, 512, .inl (sm_ap gr 0 (fun j => (sm_kb go no) j ^^^ 54) 64))), (zdi, .inl (cI, 32, .inl gd)), (zpa, .inl (cI, 64, .inl (sm_kb go no))), (zin, .inl (cI, 300, .inl gi)), (zow, .inl (cI, 300, .inl go))] := hD.sub [7, 0, 1, 2, 3, 8, 4, 9, 5, 6] rfl rfl
              refine lv_iconst (v := 0) hx hb dX4_keyed_123 (by decide) ?_
              refine lv_istore_n (lv' := [(2, .int 0), (0, .ref zm), (1, .int i)]) hx hb dX4_keyed_124 rfl hl (by decide) rfl (fun ls hl => ?_)
              have lp125 : ∀ (zn : Nat) (k3 : Nat) (H : Heap) (locs : List Loc) (ls : Array Slot), ni - k3 < zn → k3 ≤ ni → va_P D vwCl [(zm, .inr (4, [.int flt, .ref zrt, .ref zfi, .ref zsu, .ref zwo, .ref zro, .int (nI (0 + 64 + k3)), .ref zdi, .ref zpa, .ref zin, .int (nI ni), .ref zow, .int (nI no), .int sd, .ref zke, .ref zva, .ref zle, .int ct, .int iv, .int dw, .ref zdr, .int ds])), (zrt, .inl (cI, 64, .inl sm_K)), (zfi, .inl (cI, 8, .inl sm_F)), (zsu, .inl (cI, 8, .inl gs)), (zwo, .inl (cI, 64, .inl gw)), (zro, .inl (cI, 512, .inl (sm_ap (sm_ap gr 0 (fun j => sm_kb go no j ^^^ 54) 64) (0 + 64) gi k3))), (zdi, .inl (cI, 32, .inl gd)), (zpa, .inl (cI, 64, .inl (sm_kb go no))), (zin, .inl (cI, 300, .inl gi)), (zow, .inl (cI, 300, .inl go))] H → va_D A [(zm, .inr (4, [.int flt, .ref zrt, .ref zfi, .ref zsu, .ref zwo, .ref zro, .int (nI (0 + 64 + k3)), .ref zdi, .ref zpa, .ref zin, .int (nI ni), .ref zow, .int (nI no), .int sd, .ref zke, .ref zva, .ref zle, .int ct, .int iv, .int dw, .ref zdr, .int ds])), (zrt, .inl (cI, 64, .inl sm_K)), (zfi, .inl (cI, 8, .inl sm_F)), (zsu, .inl (cI, 8, .inl gs)), (zwo, .inl (cI, 64, .inl gw)), (zro, .inl (cI, 512, .inl (sm_ap (sm_ap gr 0 (fun j => sm_kb go no j ^^^ 54) 64) (0 + 64) gi k3))), (zdi, .inl (cI, 32, .inl gd)), (zpa, .inl (cI, 64, .inl (sm_kb go no))), (zin, .inl (cI, 300, .inl gi)), (zow, .inl (cI, 300, .inl go))] → va_S A s.heap H locs → lv_has ls 3 [(2, .int (nI k3)), (0, .ref zm), (1, .int i)] → W p l e (headSpec wsX4_keyed rm_X4_keyed).room s m ([.ref zm, .int i] : List Value).toArray below meth c H locs 0 0 Q (F0 m 125 ls []) := by
                intro zn
                induction zn with
                | zero => intro k3 H locs ls hmu; exact absurd hmu (Nat.not_lt_zero _)
                | succ zn ih =>
                  intro k3 H locs ls hmu hi_125 hP hD hS hl
                  refine lv_iload_n hx hb dX4_keyed_125 rfl (lv_at hl 0 rfl) ?_
                  refine lv_aload_n hx hb dX4_keyed_126 rfl (lv_at hl 1 rfl) ?_
                  refine va_get (D := D) (ci := 4) (v := .int (nI ni)) (C := RX4) (T := TX4) (N := 22) hx hb hts hw_X4 hown hK hP 0 rfl rfl 10 (by decide) hf_154 (fun _ h9 => h9) rfl dX4_keyed_127 ?_
                  refine lv_icmp_ge (tgt := 149) hx hb dX4_keyed_130 (by decide) (fun c_130 => ?_) (fun c_130 => ?_)
                  ·
                    have hex_125 : k3 = ni := by
                      rcases Nat.lt_or_ge k3 (ni) with q | q
                      · exact absurd c_130 (nI_ge q (by omega))
                      · omega
                    rw [hex_125] at hP hD
                    have hP : va_P D vwCl [(zm, .inr (4, [.int flt, .ref zrt, .ref zfi, .ref zsu, .ref zwo, .ref zro, .int (nI (0 + 64 + ni)), .ref zdi, .ref zpa, .ref zin, .int (nI ni), .ref zow, .int (nI no), .int sd, .ref zke, .ref zva, .ref zle, .int ct, .int iv, .int dw, .ref zdr, .int ds])), (zrt, .inl (cI, 64, .inl sm_K)), (zfi, .inl (cI, 8, .inl sm_F)), (zsu, .inl (cI, 8, .inl gs)), (zwo, .inl (cI, 64, .inl gw)), (zro, .inl (cI, 512, .inl (sm_ap (sm_ap gr 0 (fun j => sm_kb go no j ^^^ 54) 64) (0 + 64) gi ni))), (zdi, .inl (cI, 32, .inl gd)), (zpa, .inl (cI, 64, .inl (sm_kb go no))), (zin, .inl (cI, 300, .inl gi)), (zow, .inl (cI, 300, .inl go))] H := hP
                    have hD : va_D A [(zm, .inr (4, [.int flt, .ref zrt, .ref zfi, .ref zsu, .ref zwo, .ref zro, .int (nI (0 + 64 + ni)), .ref zdi, .ref zpa, .ref zin, .int (nI ni), .ref zow, .int (nI no), .int sd, .ref zke, .ref zva, .ref zle, .int ct, .int iv, .int dw, .ref zdr, .int ds])), (zrt, .inl (cI, 64, .inl sm_K)), (zfi, .inl (cI, 8, .inl sm_F)), (zsu, .inl (cI, 8, .inl gs)), (zwo, .inl (cI, 64, .inl gw)), (zro, .inl (cI, 512, .inl (sm_ap (sm_ap gr 0 (fun j => sm_kb go no j ^^^ 54) 64) (0 + 64) gi ni))), (zdi, .inl (cI, 32, .inl gd)), (zpa, .inl (cI, 64, .inl (sm_kb go no))), (zin, .inl (cI, 300, .inl gi)), (zow, .inl (cI, 300, .inl go))] := hD
                    refine lv_aload_n hx hb dX4_keyed_149 rfl (lv_at hl 1 rfl) ?_
                    refine sm_callVv (wc := [(zm, .inr (4, [.int flt, .ref zrt, .ref zfi, .ref zsu, .ref zwo, .ref zro, .int (nI (0 + 64 + ni)), .ref zdi, .ref zpa, .ref zin, .int (nI ni), .ref zow, .int (nI no), .int sd, .ref zke, .ref zva, .ref zle, .int ct, .int iv, .int dw, .ref zdr, .int ds])), (zrt, .inl (cI, 64, .inl sm_K)), (zfi, .inl (cI, 8, .inl sm_F)), (zsu, .inl (cI, 8, .inl gs)), (zwo, .inl (cI, 64, .inl gw)), (zro, .inl (cI, 512, .inl (sm_ap (sm_ap gr 0 (fun j => sm_kb go no j ^^^ 54) 64) (0 + 64) gi ni))), (zdi, .inl (cI, 32, .inl gd)), (zpa, .inl (cI, 64, .inl (sm_kb go no)))]) (wr := [(zin, .inl (cI, 300, .inl gi)), (zow, .inl (cI, 300, .inl go))]) (As := []) (rest := []) ⟨hx, hb, hml, hown, hts⟩ (sc_X4_finishKeyed l D cI th _ zm zrt zfi zsu zwo zro zdi zpa zin zow zke zva zle zdr flt (nI ni) (nI no) sd ct iv dw ds (0 + 64 + ni) gs gw (sm_ap (sm_ap gr 0 (fun j => sm_kb go no j ^^^ 54) 64) (0 + 64) gi ni) gd (sm_kb go no) (by unfold sm_nb; omega) (fun j _ => sm_kb_by hgo j)) (cwV 0 hts gX4_keyed_X4_finishKeyed rfl rfl rfl (by decide +kernel) ⟨Nat.le_of_ble_eq_true rfl, Nat.le_of_ble_eq_true rfl⟩) hP hD hS hA hK hT [0, 1, 2, 3, 4, 5, 6, 7] [8, 9] rfl rfl rfl rfl (by decide) 0 4 rfl rfl rfl rfl hl.1 rfl (Nat.le_of_ble_eq_true rfl) dX4_keyed_150 ⟨Nat.zero_le _, Nat.zero_le _⟩ (fun zt H1 locs ht hvm hB hJ hS => ?_)
                    obtain ⟨gs5, gw5, gr5, hP1, -, hD1⟩ := hB
                    rw [ht] at hP1
                    obtain ⟨hP, hD⟩ := hJ _ hP1 hD1
                    clear hJ
                    generalize H1 = H at hP hS ⊢
                    have hP : va_P D vwCl [(zm, .inr (4, [.int flt, .ref zrt, .ref zfi, .ref zsu, .ref zwo, .ref zro, .int (nI 0), .ref zdi, .ref zpa, .ref zin, .int (nI ni), .ref zow, .int (nI no), .int sd, .ref zke, .ref zva, .ref zle, .int ct, .int iv, .int dw, .ref zdr, .int ds])), (zrt, .inl (cI, 64, .inl sm_K)), (zfi, .inl (cI, 8, .inl sm_F)), (zsu, .inl (cI, 8, .inl gs5)), (zwo, .inl (cI, 64, .inl gw5)), (zro, .inl (cI, 512, .inl gr5)), (zdi, .inl (cI, 32, .inl (sm_out (sm_kb go no) (sm_sha (sm_ap (sm_ap gr 0 (fun j => sm_kb go no j ^^^ 54) 64) (0 + 64) gi ni) (0 + 64 + ni))))), (zpa, .inl (cI, 64, .inl (sm_kb go no))), (zin, .inl (cI, 300, .inl gi)), (zow, .inl (cI, 300, .inl go))] H := hP.sub [2, 3, 4, 5, 6, 7, 8, 9, 0, 1] rfl
                    have hD : va_D A [(zm, .inr (4, [.int flt, .ref zrt, .ref zfi, .ref zsu, .ref zwo, .ref zro, .int (nI 0), .ref zdi, .ref zpa, .ref zin, .int (nI ni), .ref zow, .int (nI no), .int sd, .ref zke, .ref zva, .ref zle, .int ct, .int iv, .int dw, .ref zdr, .int ds])), (zrt, .inl (cI, 64, .inl sm_K)), (zfi, .inl (cI, 8, .inl sm_F)), (zsu, .inl (cI, 8, .inl gs5)), (zwo, .inl (cI, 64, .inl gw5)), (zro, .inl (cI, 512, .inl gr5)), (zdi, .inl (cI, 32, .inl (sm_out (sm_kb go no) (sm_sha (sm_ap (sm_ap gr 0 (fun j => sm_kb go no j ^^^ 54) 64) (0 + 64) gi ni) (0 + 64 + ni))))), (zpa, .inl (cI, 64, .inl (sm_kb go no))), (zin, .inl (cI, 300, .inl gi)), (zow, .inl (cI, 300, .inl go))] := hD.sub [2, 3, 4, 5, 6, 7, 8, 9, 0, 1] rfl rfl
                    rw [sm_hmE] at hP hD
                    have hP : va_P D vwCl [(zm, .inr (4, [.int flt, .ref zrt, .ref zfi, .ref zsu, .ref zwo, .ref zro, .int (nI 0), .ref zdi, .ref zpa, .ref zin, .int (nI ni), .ref zow, .int (nI no), .int sd, .ref zke, .ref zva, .ref zle, .int ct, .int iv, .int dw, .ref zdr, .int ds])), (zrt, .inl (cI, 64, .inl sm_K)), (zfi, .inl (cI, 8, .inl sm_F)), (zsu, .inl (cI, 8, .inl gs5)), (zwo, .inl (cI, 64, .inl gw5)), (zro, .inl (cI, 512, .inl gr5)), (zdi, .inl (cI, 32, .inl (sm_hm go no gi ni))), (zpa, .inl (cI, 64, .inl (sm_kb go no))), (zin, .inl (cI, 300, .inl gi)), (zow, .inl (cI, 300, .inl go))] H := hP
                    have hD : va_D A [(zm, .inr (4, [.int flt, .ref zrt, .ref zfi, .ref zsu, .ref zwo, .ref zro, .int (nI 0), .ref zdi, .ref zpa, .ref zin, .int (nI ni), .ref zow, .int (nI no), .int sd, .ref zke, .ref zva, .ref zle, .int ct, .int iv, .int dw, .ref zdr, .int ds])), (zrt, .inl (cI, 64, .inl sm_K)), (zfi, .inl (cI, 8, .inl sm_F)), (zsu, .inl (cI, 8, .inl gs5)), (zwo, .inl (cI, 64, .inl gw5)), (zro, .inl (cI, 512, .inl gr5)), (zdi, .inl (cI, 32, .inl (sm_hm go no gi ni))), (zpa, .inl (cI, 64, .inl (sm_kb go no))), (zin, .inl (cI, 300, .inl gi)), (zow, .inl (cI, 300, .inl go))] := hD
                    refine lv_aload_n hx hb dX4_keyed_153 rfl (lv_at hl 1 rfl) ?_
                    refine va_get (D := D) (ci := 4) (v := .ref zdi) (C := RX4) (T := TX4) (N := 22) hx hb hts hw_X4 hown hK hP 0 rfl rfl 7 (by decide) hf_97 (fun _ h9 => h9) rfl dX4_keyed_154 ?_
                    refine lv_iload_n hx hb dX4_keyed_157 rfl (lv_at hl 2 rfl) ?_
                    have hi0 : ∃ j : Nat, j < 32 ∧ i = nI j := by
                      rcases pk_ix i (n := 32) (by omega) with q | q | q
                      · exact absurd q c_1
                      · exact absurd q (Int32.not_le.mpr c_7)
                      · exact q
                    obtain ⟨j, hj, ej⟩ := hi0
                    have hin9 : vp_in i 32 := by rw [ej]; exact vp_in_nI (by omega) (by decide)
                    refine va_iald (i := i) hx hb hK hP 6 0 rfl rfl hin9 dX4_keyed_158 ?_
                    rw [hQ]
                    have hP9 : va_P D vwCl [(zm, .inr (4, [.int flt, .ref zrt, .ref zfi, .ref zsu, .ref zwo, .ref zro, .int (nI 0), .ref zdi, .ref zpa, .ref zin, .int (nI ni), .ref zow, .int (nI no), .int sd, .ref zke, .ref zva, .ref zle, .int ct, .int iv, .int dw, .ref zdr, .int ds])), (zrt, .inl (cI, 64, .inl sm_K)), (zfi, .inl (cI, 8, .inl sm_F)), (zsu, .inl (cI, 8, .inl gs5)), (zwo, .inl (cI, 64, .inl gw5)), (zro, .inl (cI, 512, .inl gr5)), (zdi, .inl (cI, 32, .inl (sm_hm go no gi ni))), (zpa, .inl (cI, 64, .inl (sm_kb go no))), (zin, .inl (cI, 300, .inl gi)), (zow, .inl (cI, 300, .inl go))] H := hP
                    have hD9 : va_D A [(zm, .inr (4, [.int flt, .ref zrt, .ref zfi, .ref zsu, .ref zwo, .ref zro, .int (nI 0), .ref zdi, .ref zpa, .ref zin, .int (nI ni), .ref zow, .int (nI no), .int sd, .ref zke, .ref zva, .ref zle, .int ct, .int iv, .int dw, .ref zdr, .int ds])), (zrt, .inl (cI, 64, .inl sm_K)), (zfi, .inl (cI, 8, .inl sm_F)), (zsu, .inl (cI, 8, .inl gs5)), (zwo, .inl (cI, 64, .inl gw5)), (zro, .inl (cI, 512, .inl gr5)), (zdi, .inl (cI, 32, .inl (sm_hm go no gi ni))), (zpa, .inl (cI, 64, .inl (sm_kb go no))), (zin, .inl (cI, 300, .inl gi)), (zow, .inl (cI, 300, .inl go))] := hD
                    exact W.iret (v := (sm_hm go no gi ni) (Int32.toNatClampNeg i)) hx hb hr (fun t ht hW => ⟨⟨(sm_hm go no gi ni) (Int32.toNatClampNeg i), (), rfl, (by unfold sm_at; rw [if_neg (fun q => q.elim c_1 (Int32.not_le.mpr c_7))]), ⟨_, _, _, _, _, by rw [ht]; exact hP9, va_K.moved hW.alike hK, hD9⟩⟩, hS.F ht⟩) hS.2.2 dX4_keyed_159
                  ·
                    have hlt_125 : k3 < ni := by
                      rcases Nat.lt_or_ge k3 (ni) with q | q
                      · exact q
                      · exact absurd (nI_le q (by omega)) c_130
                    refine lv_aload_n hx hb dX4_keyed_133 rfl (lv_at hl 1 rfl) ?_
                    refine lv_aload_n hx hb dX4_keyed_134 rfl (lv_at hl 1 rfl) ?_
                    refine va_get (D := D) (ci := 4) (v := .ref zin) (C := RX4) (T := TX4) (N := 22) hx hb hts hw_X4 hown hK hP 0 rfl rfl 9 (by decide) hf_103 (fun _ h9 => h9) rfl dX4_keyed_135 ?_
                    refine lv_iload_n hx hb dX4_keyed_138 rfl (lv_at hl 0 rfl) ?_
                    refine va_iald (i := nI k3) hx hb hK hP 8 0 rfl rfl (vp_in_nI (n := k3) (by omega) (by omega)) dX4_keyed_139 ?_
                    refine sm_top (z := gi k3) (congrArg gi (nI_clamp (n := k3) (by omega))) ?_
                    refine sm_callVv (wc := [(zm, .inr (4, [.int flt, .ref zrt, .ref zfi, .ref zsu, .ref zwo, .ref zro, .int (nI (0 + 64 + k3)), .ref zdi, .ref zpa, .ref zin, .int (nI ni), .ref zow, .int (nI no), .int sd, .ref zke, .ref zva, .ref zle, .int ct, .int iv, .int dw, .ref zdr, .int ds])), (zro, .inl (cI, 512, .inl (sm_ap (sm_ap gr 0 (fun j => sm_kb go no j ^^^ 54) 64) (0 + 64) gi k3)))]) (wr := [(zrt, .inl (cI, 64, .inl sm_K)), (zfi, .inl (cI, 8, .inl sm_F)), (zsu, .inl (cI, 8, .inl gs)), (zwo, .inl (cI, 64, .inl gw)), (zdi, .inl (cI, 32, .inl gd)), (zpa, .inl (cI, 64, .inl (sm_kb go no))), (zin, .inl (cI, 300, .inl gi)), (zow, .inl (cI, 300, .inl go))]) (As := [.int (gi k3)]) (rest := []) ⟨hx, hb, hml, hown, hts⟩ (sc_X4_put l D cI th _ zm zrt zfi zsu zwo zro zdi zpa zin zow zke zva zle zdr flt (nI ni) (nI no) sd ct iv dw ds (0 + 64 + k3) (sm_ap (sm_ap gr 0 (fun j => sm_kb go no j ^^^ 54) 64) (0 + 64) gi k3) (gi k3) (by omega)) (cwV 1 hts gX4_keyed_X4_put rfl rfl rfl (by decide +kernel) ⟨Nat.le_of_ble_eq_true rfl, Nat.le_of_ble_eq_true rfl⟩) hP hD hS hA hK hT [0, 5] [1, 2, 3, 4, 6, 7, 8, 9] rfl rfl rfl rfl (by decide) 0 4 rfl rfl rfl rfl hl.1 rfl (Nat.le_of_ble_eq_true rfl) dX4_keyed_140 ⟨Nat.zero_le _, Nat.zero_le _⟩ (fun zt H1 locs ht hvm hB hJ hS => ?_)
                    obtain ⟨hP1, -, hD1⟩ := hB
                    rw [ht] at hP1
                    obtain ⟨hP, hD⟩ := hJ _ hP1 hD1
                    clear hJ
                    generalize H1 = H at hP hS ⊢
                    have hP : va_P D vwCl [(zm, .inr (4, [.int flt, .ref zrt, .ref zfi, .ref zsu, .ref zwo, .ref zro, .int (nI (0 + 64 + k3 + 1)), .ref zdi, .ref zpa, .ref zin, .int (nI ni), .ref zow, .int (nI no), .int sd, .ref zke, .ref zva, .ref zle, .int ct, .int iv, .int dw, .ref zdr, .int ds])), (zrt, .inl (cI, 64, .inl sm_K)), (zfi, .inl (cI, 8, .inl sm_F)), (zsu, .inl (cI, 8, .inl gs)), (zwo, .inl (cI, 64, .inl gw)), (zro, .inl (cI, 512, .inl (upd (sm_ap (sm_ap gr 0 (fun j => sm_kb go no j ^^^ 54) 64) (0 + 64) gi k3) (0 + 64 + k3) ((gi k3) &&& 255)))), (zdi, .inl (cI, 32, .inl gd)), (zpa, .inl (cI, 64, .inl (sm_kb go no))), (zin, .inl (cI, 300, .inl gi)), (zow, .inl (cI, 300, .inl go))] H := hP.sub [8, 0, 1, 2, 3, 9, 4, 5, 6, 7] rfl
                    have hD : va_D A [(zm, .inr (4, [.int flt, .ref zrt, .ref zfi, .ref zsu, .ref zwo, .ref zro, .int (nI (0 + 64 + k3 + 1)), .ref zdi, .ref zpa, .ref zin, .int (nI ni), .ref zow, .int (nI no), .int sd, .ref zke, .ref zva, .ref zle, .int ct, .int iv, .int dw, .ref zdr, .int ds])), (zrt, .inl (cI, 64, .inl sm_K)), (zfi, .inl (cI, 8, .inl sm_F)), (zsu, .inl (cI, 8, .inl gs)), (zwo, .inl (cI, 64, .inl gw)), (zro, .inl (cI, 512, .inl (upd (sm_ap (sm_ap gr 0 (fun j => sm_kb go no j ^^^ 54) 64) (0 + 64) gi k3) (0 + 64 + k3) ((gi k3) &&& 255)))), (zdi, .inl (cI, 32, .inl gd)), (zpa, .inl (cI, 64, .inl (sm_kb go no))), (zin, .inl (cI, 300, .inl gi)), (zow, .inl (cI, 300, .inl go))] := hD.sub [8, 0, 1, 2, 3, 9, 4, 5, 6, 7] rfl rfl
                    rw [show (gi k3 : Int32) &&& 255 = gi k3 from hgi k3 hlt_125] at hP hD
                    have hP : va_P D vwCl [(zm, .inr (4, [.int flt, .ref zrt, .ref zfi, .ref zsu, .ref zwo, .ref zro, .int (nI (0 + 64 + k3 + 1)), .ref zdi, .ref zpa, .ref zin, .int (nI ni), .ref zow, .int (nI no), .int sd, .ref zke, .ref zva, .ref zle, .int ct, .int iv, .int dw, .ref zdr, .int ds])), (zrt, .inl (cI, 64, .inl sm_K)), (zfi, .inl (cI, 8, .inl sm_F)), (zsu, .inl (cI, 8, .inl gs)), (zwo, .inl (cI, 64, .inl gw)), (zro, .inl (cI, 512, .inl (upd (sm_ap (sm_ap gr 0 (fun j => sm_kb go no j ^^^ 54) 64) (0 + 64) gi k3) (0 + 64 + k3) (gi k3)))), (zdi, .inl (cI, 32, .inl gd)), (zpa, .inl (cI, 64, .inl (sm_kb go no))), (zin, .inl (cI, 300, .inl gi)), (zow, .inl (cI, 300, .inl go))] H := hP
                    have hD : va_D A [(zm, .inr (4, [.int flt, .ref zrt, .ref zfi, .ref zsu, .ref zwo, .ref zro, .int (nI (0 + 64 + k3 + 1)), .ref zdi, .ref zpa, .ref zin, .int (nI ni), .ref zow, .int (nI no), .int sd, .ref zke, .ref zva, .ref zle, .int ct, .int iv, .int dw, .ref zdr, .int ds])), (zrt, .inl (cI, 64, .inl sm_K)), (zfi, .inl (cI, 8, .inl sm_F)), (zsu, .inl (cI, 8, .inl gs)), (zwo, .inl (cI, 64, .inl gw)), (zro, .inl (cI, 512, .inl (upd (sm_ap (sm_ap gr 0 (fun j => sm_kb go no j ^^^ 54) 64) (0 + 64) gi k3) (0 + 64 + k3) (gi k3)))), (zdi, .inl (cI, 32, .inl gd)), (zpa, .inl (cI, 64, .inl (sm_kb go no))), (zin, .inl (cI, 300, .inl gi)), (zow, .inl (cI, 300, .inl go))] := hD
                    refine lv_iinc (v := nI (k3 + 1)) (lv' := [(2, .int (nI (k3 + 1))), (0, .ref zm), (1, .int i)]) hx hb dX4_keyed_143 hl (k := 0) rfl (nI_1 k3) (by decide) rfl (fun ls hl => ?_)
                    refine lv_goto (tgt := 125) hx hb dX4_keyed_146 (by decide) ?_
                    rw [sm_ap_s] at hP hD
                    exact ih (k3 + 1) _ _ _ (by omega) (by omega) hP hD hS (lv_sub hl [0, 1, 2] rfl)
              exact lp125 _ 0 _ _ _ (Nat.lt_succ_self _) (Nat.zero_le _) (by rw [sm_ap_0]; exact hP) (by rw [sm_ap_0]; exact hD) hS (lv_sub hl [0, 1, 2] rfl)
            ·
              have hlt_53 : k2 < 64 := by
                rcases Nat.lt_or_ge k2 (64) with q | q
                · exact q
                · exact absurd (nI_le q (by omega)) c_56
              refine lv_aload_n hx hb dX4_keyed_59 rfl (lv_at hl 1 rfl) ?_
              refine va_get (D := D) (ci := 4) (v := .ref zpa) (C := RX4) (T := TX4) (N := 22) hx hb hts hw_X4 hown hK hP 0 rfl rfl 8 (by decide) hf_100 (fun _ h9 => h9) rfl dX4_keyed_60 ?_
              refine lv_iload_n hx hb dX4_keyed_63 rfl (lv_at hl 0 rfl) ?_
              refine lv_aload_n hx hb dX4_keyed_64 rfl (lv_at hl 1 rfl) ?_
              refine va_get (D := D) (ci := 4) (v := .int (nI no)) (C := RX4) (T := TX4) (N := 22) hx hb hts hw_X4 hown hK hP 0 rfl rfl 12 (by decide) hf_178 (fun _ h9 => h9) rfl dX4_keyed_65 ?_
              refine lv_bipush (v := 64) hx hb dX4_keyed_68 (by decide) ?_
              refine lv_icmp_le (tgt := 92) hx hb dX4_keyed_70 (by decide) (fun c_70 => ?_) (fun c_70 => ?_)
              ·
                refine lv_iload_n hx hb dX4_keyed_92 rfl (lv_at hl 0 rfl) ?_
                refine lv_aload_n hx hb dX4_keyed_93 rfl (lv_at hl 1 rfl) ?_
                refine va_get (D := D) (ci := 4) (v := .int (nI no)) (C := RX4) (T := TX4) (N := 22) hx hb hts hw_X4 hown hK hP 0 rfl rfl 12 (by decide) hf_178 (fun _ h9 => h9) rfl dX4_keyed_94 ?_
                refine lv_icmp_ge (tgt := 109) hx hb dX4_keyed_97 (by decide) (fun c_97 => ?_) (fun c_97 => ?_)
                ·
                  have hs2 : ¬ k2 < no := fun q => absurd c_97 (nI_ge q (by omega))
                  refine lv_iconst (v := 0) hx hb dX4_keyed_109 (by decide) ?_
                  refine sm_top (z := sm_kb go no k2) (by unfold sm_kb; rw [if_neg (by omega), if_neg hs2]) ?_
                  refine va_iast (i := nI k2) (x := sm_kb go no k2) hx hb hK hP hD hS 7 0 rfl rfl (vp_in_nI (n := k2) (by omega) (by omega)) dX4_keyed_110 (fun H locs hP hD hS => ?_)
                  rw [show Int32.toNatClampNeg (nI k2) = k2 from nI_clamp (n := k2) (by omega)] at hP hD
                  have hP : va_P D vwCl [(zm, .inr (4, [.int flt, .ref zrt, .ref zfi, .ref zsu, .ref zwo, .ref zro, .int (nI 0), .ref zdi, .ref zpa, .ref zin, .int (nI ni), .ref zow, .int (nI no), .int sd, .ref zke, .ref zva, .ref zle, .int ct, .int iv, .int dw, .ref zdr, .int ds])), (zrt, .inl (cI, 64, .inl sm_K)), (zfi, .inl (cI, 8, .inl sm_F)), (zsu, .inl (cI, 8, .inl gs)), (zwo, .inl (cI, 64, .inl gw)), (zro, .inl (cI, 512, .inl gr)), (zdi, .inl (cI, 32, .inl gd)), (zpa, .inl (cI, 64, .inl (upd (sm_ap gp 0 (sm_kb go no) k2) k2 (sm_kb go no k2)))), (zin, .inl (cI, 300, .inl gi)), (zow, .inl (cI, 300, .inl go))] H := hP
                  have hD : va_D A [(zm, .inr (4, [.int flt, .ref zrt, .ref zfi, .ref zsu, .ref zwo, .ref zro, .int (nI 0), .ref zdi, .ref zpa, .ref zin, .int (nI ni), .ref zow, .int (nI no), .int sd, .ref zke, .ref zva, .ref zle, .int ct, .int iv, .int dw, .ref zdr, .int ds])), (zrt, .inl (cI, 64, .inl sm_K)), (zfi, .inl (cI, 8, .inl sm_F)), (zsu, .inl (cI, 8, .inl gs)), (zwo, .inl (cI, 64, .inl gw)), (zro, .inl (cI, 512, .inl gr)), (zdi, .inl (cI, 32, .inl gd)), (zpa, .inl (cI, 64, .inl (upd (sm_ap gp 0 (sm_kb go no) k2) k2 (sm_kb go no k2)))), (zin, .inl (cI, 300, .inl gi)), (zow, .inl (cI, 300, .inl go))] := hD
                  refine lv_iinc (v := nI (k2 + 1)) (lv' := [(2, .int (nI (k2 + 1))), (0, .ref zm), (1, .int i)]) hx hb dX4_keyed_111 hl (k := 0) rfl (nI_1 k2) (by decide) rfl (fun ls hl => ?_)
                  refine lv_goto (tgt := 53) hx hb dX4_keyed_114 (by decide) ?_
                  rw [sm_ap_s0] at hP hD
                  exact ih (k2 + 1) _ _ _ (by omega) (by omega) hP hD hS (lv_sub hl [0, 1, 2] rfl)
                ·
                  have hs2 : k2 < no := by
                    rcases Nat.lt_or_ge k2 no with q | q
                    · exact q
                    · exact absurd (nI_le q (by omega)) c_97
                  refine lv_aload_n hx hb dX4_keyed_100 rfl (lv_at hl 1 rfl) ?_
                  refine va_get (D := D) (ci := 4) (v := .ref zow) (C := RX4) (T := TX4) (N := 22) hx hb hts hw_X4 hown hK hP 0 rfl rfl 11 (by decide) hf_106 (fun _ h9 => h9) rfl dX4_keyed_101 ?_
                  refine lv_iload_n hx hb dX4_keyed_104 rfl (lv_at hl 0 rfl) ?_
                  refine va_iald (i := nI k2) hx hb hK hP 9 0 rfl rfl (vp_in_nI (n := k2) (by omega) (by omega)) dX4_keyed_105 ?_
                  refine sm_top (z := go k2) (congrArg go (nI_clamp (n := k2) (by omega))) ?_
                  refine lv_goto (tgt := 110) hx hb dX4_keyed_106 (by decide) ?_
                  refine sm_top (z := sm_kb go no k2) (by unfold sm_kb; rw [if_neg (by omega), if_pos hs2]) ?_
                  refine va_iast (i := nI k2) (x := sm_kb go no k2) hx hb hK hP hD hS 7 0 rfl rfl (vp_in_nI (n := k2) (by omega) (by omega)) dX4_keyed_110 (fun H locs hP hD hS => ?_)
                  rw [show Int32.toNatClampNeg (nI k2) = k2 from nI_clamp (n := k2) (by omega)] at hP hD
                  have hP : va_P D vwCl [(zm, .inr (4, [.int flt, .ref zrt, .ref zfi, .ref zsu, .ref zwo, .ref zro, .int (nI 0), .ref zdi, .ref zpa, .ref zin, .int (nI ni), .ref zow, .int (nI no), .int sd, .ref zke, .ref zva, .ref zle, .int ct, .int iv, .int dw, .ref zdr, .int ds])), (zrt, .inl (cI, 64, .inl sm_K)), (zfi, .inl (cI, 8, .inl sm_F)), (zsu, .inl (cI, 8, .inl gs)), (zwo, .inl (cI, 64, .inl gw)), (zro, .inl (cI, 512, .inl gr)), (zdi, .inl (cI, 32, .inl gd)), (zpa, .inl (cI, 64, .inl (upd (sm_ap gp 0 (sm_kb go no) k2) k2 (sm_kb go no k2)))), (zin, .inl (cI, 300, .inl gi)), (zow, .inl (cI, 300, .inl go))] H := hP
                  have hD : va_D A [(zm, .inr (4, [.int flt, .ref zrt, .ref zfi, .ref zsu, .ref zwo, .ref zro, .int (nI 0), .ref zdi, .ref zpa, .ref zin, .int (nI ni), .ref zow, .int (nI no), .int sd, .ref zke, .ref zva, .ref zle, .int ct, .int iv, .int dw, .ref zdr, .int ds])), (zrt, .inl (cI, 64, .inl sm_K)), (zfi, .inl (cI, 8, .inl sm_F)), (zsu, .inl (cI, 8, .inl gs)), (zwo, .inl (cI, 64, .inl gw)), (zro, .inl (cI, 512, .inl gr)), (zdi, .inl (cI, 32, .inl gd)), (zpa, .inl (cI, 64, .inl (upd (sm_ap gp 0 (sm_kb go no) k2) k2 (sm_kb go no k2)))), (zin, .inl (cI, 300, .inl gi)), (zow, .inl (cI, 300, .inl go))] := hD
                  refine lv_iinc (v := nI (k2 + 1)) (lv' := [(2, .int (nI (k2 + 1))), (0, .ref zm), (1, .int i)]) hx hb dX4_keyed_111 hl (k := 0) rfl (nI_1 k2) (by decide) rfl (fun ls hl => ?_)
                  refine lv_goto (tgt := 53) hx hb dX4_keyed_114 (by decide) ?_
                  rw [sm_ap_s0] at hP hD
                  exact ih (k2 + 1) _ _ _ (by omega) (by omega) hP hD hS (lv_sub hl [0, 1, 2] rfl)
              ·
                exact absurd (nI_le hsm (by decide)) c_70
        exact lp53 _ 0 _ _ _ (Nat.lt_succ_self _) (Nat.zero_le _) (by rw [sm_ap_0]; exact hP) (by rw [sm_ap_0]; exact hD) hS (lv_sub hl [0, 1, 2] rfl)
      ·
        have hsm : 64 < no := by
          rcases Nat.lt_or_ge 64 no with q | q
          · exact q
          · exact absurd (nI_le q (by omega)) c_18
        refine lv_iconst (v := 0) hx hb dX4_keyed_21 (by decide) ?_
        refine lv_istore_n (lv' := [(2, .int 0), (0, .ref zm), (1, .int i)]) hx hb dX4_keyed_22 rfl hl (by decide) rfl (fun ls hl => ?_)
        have lp23 : ∀ (zn : Nat) (k : Nat) (H : Heap) (locs : List Loc) (ls : Array Slot), no - k < zn → k ≤ no → va_P D vwCl [(zm, .inr (4, [.int flt, .ref zrt, .ref zfi, .ref zsu, .ref zwo, .ref zro, .int (nI (0 + k)), .ref zdi, .ref zpa, .ref zin, .int (nI ni), .ref zow, .int (nI no), .int sd, .ref zke, .ref zva, .ref zle, .int ct, .int iv, .int dw, .ref zdr, .int ds])), (zrt, .inl (cI, 64, .inl sm_K)), (zfi, .inl (cI, 8, .inl sm_F)), (zsu, .inl (cI, 8, .inl gs)), (zwo, .inl (cI, 64, .inl gw)), (zro, .inl (cI, 512, .inl (sm_ap gr 0 go k))), (zdi, .inl (cI, 32, .inl gd)), (zpa, .inl (cI, 64, .inl gp)), (zin, .inl (cI, 300, .inl gi)), (zow, .inl (cI, 300, .inl go))] H → va_D A [(zm, .inr (4, [.int flt, .ref zrt, .ref zfi, .ref zsu, .ref zwo, .ref zro, .int (nI (0 + k)), .ref zdi, .ref zpa, .ref zin, .int (nI ni), .ref zow, .int (nI no), .int sd, .ref zke, .ref zva, .ref zle, .int ct, .int iv, .int dw, .ref zdr, .int ds])), (zrt, .inl (cI, 64, .inl sm_K)), (zfi, .inl (cI, 8, .inl sm_F)), (zsu, .inl (cI, 8, .inl gs)), (zwo, .inl (cI, 64, .inl gw)), (zro, .inl (cI, 512, .inl (sm_ap gr 0 go k))), (zdi, .inl (cI, 32, .inl gd)), (zpa, .inl (cI, 64, .inl gp)), (zin, .inl (cI, 300, .inl gi)), (zow, .inl (cI, 300, .inl go))] → va_S A s.heap H locs → lv_has ls 3 [(2, .int (nI k)), (0, .ref zm), (1, .int i)] → W p l e (headSpec wsX4_keyed rm_X4_keyed).room s m ([.ref zm, .int i] : List Value).toArray below meth c H locs 0 0 Q (F0 m 23 ls []) := by
          intro zn
          induction zn with
          | zero => intro k H locs ls hmu; exact absurd hmu (Nat.not_lt_zero _)
          | succ zn ih =>
            intro k H locs ls hmu hi_23 hP hD hS hl
            refine lv_iload_n hx hb dX4_keyed_23 rfl (lv_at hl 0 rfl) ?_
            refine lv_aload_n hx hb dX4_keyed_24 rfl (lv_at hl 1 rfl) ?_
            refine va_get (D := D) (ci := 4) (v := .int (nI no)) (C := RX4) (T := TX4) (N := 22) hx hb hts hw_X4 hown hK hP 0 rfl rfl 12 (by decide) hf_178 (fun _ h9 => h9) rfl dX4_keyed_25 ?_
            refine lv_icmp_ge (tgt := 47) hx hb dX4_keyed_28 (by decide) (fun c_28 => ?_) (fun c_28 => ?_)
            ·
              have hex_23 : k = no := by
                rcases Nat.lt_or_ge k (no) with q | q
                · exact absurd c_28 (nI_ge q (by omega))
                · omega
              rw [hex_23] at hP hD
              have hP : va_P D vwCl [(zm, .inr (4, [.int flt, .ref zrt, .ref zfi, .ref zsu, .ref zwo, .ref zro, .int (nI (0 + no)), .ref zdi, .ref zpa, .ref zin, .int (nI ni), .ref zow, .int (nI no), .int sd, .ref zke, .ref zva, .ref zle, .int ct, .int iv, .int dw, .ref zdr, .int ds])), (zrt, .inl (cI, 64, .inl sm_K)), (zfi, .inl (cI, 8, .inl sm_F)), (zsu, .inl (cI, 8, .inl gs)), (zwo, .inl (cI, 64, .inl gw)), (zro, .inl (cI, 512, .inl (sm_ap gr 0 go no))), (zdi, .inl (cI, 32, .inl gd)), (zpa, .inl (cI, 64, .inl gp)), (zin, .inl (cI, 300, .inl gi)), (zow, .inl (cI, 300, .inl go))] H := hP
              have hD : va_D A [(zm, .inr (4, [.int flt, .ref zrt, .ref zfi, .ref zsu, .ref zwo, .ref zro, .int (nI (0 + no)), .ref zdi, .ref zpa, .ref zin, .int (nI ni), .ref zow, .int (nI no), .int sd, .ref zke, .ref zva, .ref zle, .int ct, .int iv, .int dw, .ref zdr, .int ds])), (zrt, .inl (cI, 64, .inl sm_K)), (zfi, .inl (cI, 8, .inl sm_F)), (zsu, .inl (cI, 8, .inl gs)), (zwo, .inl (cI, 64, .inl gw)), (zro, .inl (cI, 512, .inl (sm_ap gr 0 go no))), (zdi, .inl (cI, 32, .inl gd)), (zpa, .inl (cI, 64, .inl gp)), (zin, .inl (cI, 300, .inl gi)), (zow, .inl (cI, 300, .inl go))] := hD
              refine lv_aload_n hx hb dX4_keyed_47 rfl (lv_at hl 1 rfl) ?_
              refine sm_callVv (wc := [(zm, .inr (4, [.int flt, .ref zrt, .ref zfi, .ref zsu, .ref zwo, .ref zro, .int (nI (0 + no)), .ref zdi, .ref zpa, .ref zin, .int (nI ni), .ref zow, .int (nI no), .int sd, .ref zke, .ref zva, .ref zle, .int ct, .int iv, .int dw, .ref zdr, .int ds])), (zrt, .inl (cI, 64, .inl sm_K)), (zfi, .inl (cI, 8, .inl sm_F)), (zsu, .inl (cI, 8, .inl gs)), (zwo, .inl (cI, 64, .inl gw)), (zro, .inl (cI, 512, .inl (sm_ap gr 0 go no))), (zdi, .inl (cI, 32, .inl gd))]) (wr := [(zpa, .inl (cI, 64, .inl gp)), (zin, .inl (cI, 300, .inl gi)), (zow, .inl (cI, 300, .inl go))]) (As := []) (rest := []) ⟨hx, hb, hml, hown, hts⟩ (sc_X4_hashRow l D cI th _ zm zrt zfi zsu zwo zro zdi zpa zin zow zke zva zle zdr flt (nI ni) (nI no) sd ct iv dw ds (0 + no) gs gw (sm_ap gr 0 go no) gd (by unfold sm_nb; omega)) (cwV 0 hts gX4_keyed_X4_hashRow rfl rfl rfl (by decide +kernel) ⟨Nat.le_of_ble_eq_true rfl, Nat.le_of_ble_eq_true rfl⟩) hP hD hS hA hK hT [0, 1, 2, 3, 4, 5, 6] [7, 8, 9] rfl rfl rfl rfl (by decide) 0 4 rfl rfl rfl rfl hl.1 rfl (Nat.le_of_ble_eq_true rfl) dX4_keyed_48 ⟨Nat.zero_le _, Nat.zero_le _⟩ (fun zt H1 locs ht hvm hB hJ hS => ?_)
              obtain ⟨gs4, gw4, gr4, hP1, -, hD1⟩ := hB
              rw [ht] at hP1
              obtain ⟨hP, hD⟩ := hJ _ hP1 hD1
              clear hJ
              generalize H1 = H at hP hS ⊢
              have hP : va_P D vwCl [(zm, .inr (4, [.int flt, .ref zrt, .ref zfi, .ref zsu, .ref zwo, .ref zro, .int (nI 0), .ref zdi, .ref zpa, .ref zin, .int (nI ni), .ref zow, .int (nI no), .int sd, .ref zke, .ref zva, .ref zle, .int ct, .int iv, .int dw, .ref zdr, .int ds])), (zrt, .inl (cI, 64, .inl sm_K)), (zfi, .inl (cI, 8, .inl sm_F)), (zsu, .inl (cI, 8, .inl gs4)), (zwo, .inl (cI, 64, .inl gw4)), (zro, .inl (cI, 512, .inl gr4)), (zdi, .inl (cI, 32, .inl (sm_sha (sm_ap gr 0 go no) (0 + no)))), (zpa, .inl (cI, 64, .inl gp)), (zin, .inl (cI, 300, .inl gi)), (zow, .inl (cI, 300, .inl go))] H := hP.sub [3, 4, 5, 6, 7, 8, 9, 0, 1, 2] rfl
              have hD : va_D A [(zm, .inr (4, [.int flt, .ref zrt, .ref zfi, .ref zsu, .ref zwo, .ref zro, .int (nI 0), .ref zdi, .ref zpa, .ref zin, .int (nI ni), .ref zow, .int (nI no), .int sd, .ref zke, .ref zva, .ref zle, .int ct, .int iv, .int dw, .ref zdr, .int ds])), (zrt, .inl (cI, 64, .inl sm_K)), (zfi, .inl (cI, 8, .inl sm_F)), (zsu, .inl (cI, 8, .inl gs4)), (zwo, .inl (cI, 64, .inl gw4)), (zro, .inl (cI, 512, .inl gr4)), (zdi, .inl (cI, 32, .inl (sm_sha (sm_ap gr 0 go no) (0 + no)))), (zpa, .inl (cI, 64, .inl gp)), (zin, .inl (cI, 300, .inl gi)), (zow, .inl (cI, 300, .inl go))] := hD.sub [3, 4, 5, 6, 7, 8, 9, 0, 1, 2] rfl rfl
              rw [show sm_sha (sm_ap gr 0 go no) (0 + no) = sm_sha go no from by rw [Nat.zero_add]; exact sm_sha_congr (fun j hj => sm_ap_z hj)] at hP hD
              have hP : va_P D vwCl [(zm, .inr (4, [.int flt, .ref zrt, .ref zfi, .ref zsu, .ref zwo, .ref zro, .int (nI 0), .ref zdi, .ref zpa, .ref zin, .int (nI ni), .ref zow, .int (nI no), .int sd, .ref zke, .ref zva, .ref zle, .int ct, .int iv, .int dw, .ref zdr, .int ds])), (zrt, .inl (cI, 64, .inl sm_K)), (zfi, .inl (cI, 8, .inl sm_F)), (zsu, .inl (cI, 8, .inl gs4)), (zwo, .inl (cI, 64, .inl gw4)), (zro, .inl (cI, 512, .inl gr4)), (zdi, .inl (cI, 32, .inl (sm_sha go no))), (zpa, .inl (cI, 64, .inl gp)), (zin, .inl (cI, 300, .inl gi)), (zow, .inl (cI, 300, .inl go))] H := hP
              have hD : va_D A [(zm, .inr (4, [.int flt, .ref zrt, .ref zfi, .ref zsu, .ref zwo, .ref zro, .int (nI 0), .ref zdi, .ref zpa, .ref zin, .int (nI ni), .ref zow, .int (nI no), .int sd, .ref zke, .ref zva, .ref zle, .int ct, .int iv, .int dw, .ref zdr, .int ds])), (zrt, .inl (cI, 64, .inl sm_K)), (zfi, .inl (cI, 8, .inl sm_F)), (zsu, .inl (cI, 8, .inl gs4)), (zwo, .inl (cI, 64, .inl gw4)), (zro, .inl (cI, 512, .inl gr4)), (zdi, .inl (cI, 32, .inl (sm_sha go no))), (zpa, .inl (cI, 64, .inl gp)), (zin, .inl (cI, 300, .inl gi)), (zow, .inl (cI, 300, .inl go))] := hD
              refine lv_iconst (v := 0) hx hb dX4_keyed_51 (by decide) ?_
              refine lv_istore_n (lv' := [(2, .int 0), (0, .ref zm), (1, .int i)]) hx hb dX4_keyed_52 rfl hl (by decide) rfl (fun ls hl => ?_)
              have lp53 : ∀ (zn : Nat) (k2 : Nat) (H : Heap) (locs : List Loc) (ls : Array Slot), 64 - k2 < zn → k2 ≤ 64 → va_P D vwCl [(zm, .inr (4, [.int flt, .ref zrt, .ref zfi, .ref zsu, .ref zwo, .ref zro, .int (nI 0), .ref zdi, .ref zpa, .ref zin, .int (nI ni), .ref zow, .int (nI no), .int sd, .ref zke, .ref zva, .ref zle, .int ct, .int iv, .int dw, .ref zdr, .int ds])), (zrt, .inl (cI, 64, .inl sm_K)), (zfi, .inl (cI, 8, .inl sm_F)), (zsu, .inl (cI, 8, .inl gs4)), (zwo, .inl (cI, 64, .inl gw4)), (zro, .inl (cI, 512, .inl gr4)), (zdi, .inl (cI, 32, .inl (sm_sha go no))), (zpa, .inl (cI, 64, .inl (sm_ap gp 0 (sm_kb go no) k2))), (zin, .inl (cI, 300, .inl gi)), (zow, .inl (cI, 300, .inl go))] H → va_D A [(zm, .inr (4, [.int flt, .ref zrt, .ref zfi, .ref zsu, .ref zwo, .ref zro, .int (nI 0), .ref zdi, .ref zpa, .ref zin, .int (nI ni), .ref zow, .int (nI no), .int sd, .ref zke, .ref zva, .ref zle, .int ct, .int iv, .int dw, .ref zdr, .int ds])), (zrt, .inl (cI, 64, .inl sm_K)), (zfi, .inl (cI, 8, .inl sm_F)), (zsu, .inl (cI, 8, .inl gs4)), (zwo, .inl (cI, 64, .inl gw4)), (zro, .inl (cI, 512, .inl gr4)), (zdi, .inl (cI, 32, .inl (sm_sha go no))), (zpa, .inl (cI, 64, .inl (sm_ap gp 0 (sm_kb go no) k2))), (zin, .inl (cI, 300, .inl gi)), (zow, .inl (cI, 300, .inl go))] → va_S A s.heap H locs → lv_has ls 3 [(2, .int (nI k2)), (0, .ref zm), (1, .int i)] → W p l e (headSpec wsX4_keyed rm_X4_keyed).room s m ([.ref zm, .int i] : List Value).toArray below meth c H locs 0 0 Q (F0 m 53 ls []) := by
                intro zn
                induction zn with
                | zero => intro k2 H locs ls hmu; exact absurd hmu (Nat.not_lt_zero _)
                | succ zn ih =>
                  intro k2 H locs ls hmu hi_53 hP hD hS hl
                  refine lv_iload_n hx hb dX4_keyed_53 rfl (lv_at hl 0 rfl) ?_
                  refine lv_bipush (v := 64) hx hb dX4_keyed_54 (by decide) ?_
                  refine lv_icmp_ge (tgt := 117) hx hb dX4_keyed_56 (by decide) (fun c_56 => ?_) (fun c_56 => ?_)
                  ·
                    have hex_53 : k2 = 64 := by
                      rcases Nat.lt_or_ge k2 (64) with q | q
                      · exact absurd c_56 (nI_ge q (by decide))
                      · omega
                    rw [hex_53] at hP hD
                    have hP := sm_arr hP 7 rfl (sm_kb go no) (fun j hj => sm_ap_z hj)
                    have hD := sm_arrD (y := .inl (cI, 64, .inl (sm_kb go no))) hD 7 rfl
                    have hP : va_P D vwCl [(zm, .inr (4, [.int flt, .ref zrt, .ref zfi, .ref zsu, .ref zwo, .ref zro, .int (nI 0), .ref zdi, .ref zpa, .ref zin, .int (nI ni), .ref zow, .int (nI no), .int sd, .ref zke, .ref zva, .ref zle, .int ct, .int iv, .int dw, .ref zdr, .int ds])), (zrt, .inl (cI, 64, .inl sm_K)), (zfi, .inl (cI, 8, .inl sm_F)), (zsu, .inl (cI, 8, .inl gs4)), (zwo, .inl (cI, 64, .inl gw4)), (zro, .inl (cI, 512, .inl gr4)), (zdi, .inl (cI, 32, .inl (sm_sha go no))), (zpa, .inl (cI, 64, .inl (sm_kb go no))), (zin, .inl (cI, 300, .inl gi)), (zow, .inl (cI, 300, .inl go))] H := hP
                    have hD : va_D A [(zm, .inr (4, [.int flt, .ref zrt, .ref zfi, .ref zsu, .ref zwo, .ref zro, .int (nI 0), .ref zdi, .ref zpa, .ref zin, .int (nI ni), .ref zow, .int (nI no), .int sd, .ref zke, .ref zva, .ref zle, .int ct, .int iv, .int dw, .ref zdr, .int ds])), (zrt, .inl (cI, 64, .inl sm_K)), (zfi, .inl (cI, 8, .inl sm_F)), (zsu, .inl (cI, 8, .inl gs4)), (zwo, .inl (cI, 64, .inl gw4)), (zro, .inl (cI, 512, .inl gr4)), (zdi, .inl (cI, 32, .inl (sm_sha go no))), (zpa, .inl (cI, 64, .inl (sm_kb go no))), (zin, .inl (cI, 300, .inl gi)), (zow, .inl (cI, 300, .inl go))] := hD
                    refine lv_aload_n hx hb dX4_keyed_117 rfl (lv_at hl 1 rfl) ?_
                    refine lv_bipush (v := 54) hx hb dX4_keyed_118 (by decide) ?_
                    refine sm_callVv (wc := [(zm, .inr (4, [.int flt, .ref zrt, .ref zfi, .ref zsu, .ref zwo, .ref zro, .int (nI 0), .ref zdi, .ref zpa, .ref zin, .int (nI ni), .ref zow, .int (nI no), .int sd, .ref zke, .ref zva, .ref zle, .int ct, .int iv, .int dw, .ref zdr, .int ds])), (zro, .inl (cI, 512, .inl gr4)), (zpa, .inl (cI, 64, .inl (sm_kb go no)))]) (wr := [(zrt, .inl (cI, 64, .inl sm_K)), (zfi, .inl (cI, 8, .inl sm_F)), (zsu, .inl (cI, 8, .inl gs4)), (zwo, .inl (cI, 64, .inl gw4)), (zdi, .inl (cI, 32, .inl (sm_sha go no))), (zin, .inl (cI, 300, .inl gi)), (zow, .inl (cI, 300, .inl go))]) (As := [.int 54]) (rest := []) ⟨hx, hb, hml, hown, hts⟩ (sc_X4_putPad l D cI th _ zm zrt zfi zsu zwo zro zdi zpa zin zow zke zva zle zdr flt (nI ni) (nI no) sd ct iv dw ds 0 gr4 (sm_kb go no) 54 (by decide) (fun j _ => sm_kb_by hgo j) (by unfold sm_by; decide)) (cwV 1 hts gX4_keyed_X4_putPad rfl rfl rfl (by decide +kernel) ⟨Nat.le_of_ble_eq_true rfl, Nat.le_of_ble_eq_true rfl⟩) hP hD hS hA hK hT [0, 5, 7] [1, 2, 3, 4, 6, 8, 9] rfl rfl rfl rfl (by decide) 0 4 rfl rfl rfl rfl hl.1 rfl (Nat.le_of_ble_eq_true rfl) dX4_keyed_120 ⟨Nat.zero_le _, Nat.zero_le _⟩ (fun zt H1 locs ht hvm hB hJ hS => ?_)
                    obtain ⟨hP1, -, hD1⟩ := hB
                    rw [ht] at hP1
                    obtain ⟨hP, hD⟩ := hJ _ hP1 hD1
                    clear hJ
                    generalize H1 = H at hP hS ⊢
                    have hP : va_P D vwCl [(zm, .inr (4, [.int flt, .ref zrt, .ref zfi, .ref zsu, .ref zwo, .ref zro, .int (nI (0 + 64)), .ref zdi, .ref zpa, .ref zin, .int (nI ni), .ref zow, .int (nI no), .int sd, .ref zke, .ref zva, .ref zle, .int ct, .int iv, .int dw, .ref zdr, .int ds])), (zrt, .inl (cI, 64, .inl sm_K)), (zfi, .inl (cI, 8, .inl sm_F)), (zsu, .inl (cI, 8, .inl gs4)), (zwo, .inl (cI, 64, .inl gw4)), (zro, .inl (cI, 512, .inl (sm_ap gr4 0 (fun j => (sm_kb go no) j ^^^ 54) 64))), (zdi, .inl (cI, 32, .inl (sm_sha go no))), (zpa, .inl (cI, 64, .inl (sm_kb go no))), (zin, .inl (cI, 300, .inl gi)), (zow, .inl (cI, 300, .inl go))] H := hP.sub [7, 0, 1, 2, 3, 8, 4, 9, 5, 6] rfl
                    have hD : va_D A [(zm, .inr (4, [.int flt, .ref zrt, .ref zfi, .ref zsu, .ref zwo, .ref zro, .int (nI (0 + 64)), .ref zdi, .ref zpa, .ref zin, .int (nI ni), .ref zow, .int (nI no), .int sd, .ref zke, .ref zva, .ref zle, .int ct, .int iv, .int dw, .ref zdr, .int ds])), (zrt, .inl (cI, 64, .inl sm_K)), (zfi, .inl (cI, 8, .inl sm_F)), (zsu, .inl (cI, 8, .inl gs4)), (zwo, .inl (cI, 64, .inl gw4)), (zro, .inl (cI, 512, .inl (sm_ap gr4 0 (fun j => (sm_kb go no) j ^^^ 54) 64))), (zdi, .inl (cI, 32, .inl (sm_sha go no))), (zpa, .inl (cI, 64, .inl (sm_kb go no))), (zin, .inl (cI, 300, .inl gi)), (zow, .inl (cI, 300, .inl go))] := hD.sub [7, 0, 1, 2, 3, 8, 4, 9, 5, 6] rfl rfl
                    refine lv_iconst (v := 0) hx hb dX4_keyed_123 (by decide) ?_
                    refine lv_istore_n (lv' := [(2, .int 0), (0, .ref zm), (1, .int i)]) hx hb dX4_keyed_124 rfl hl (by decide) rfl (fun ls hl => ?_)
                    have lp125 : ∀ (zn : Nat) (k3 : Nat) (H : Heap) (locs : List Loc) (ls : Array Slot), ni - k3 < zn → k3 ≤ ni → va_P D vwCl [(zm, .inr (4, [.int flt, .ref zrt, .ref zfi, .ref zsu, .ref zwo, .ref zro, .int (nI (0 + 64 + k3)), .ref zdi, .ref zpa, .ref zin, .int (nI ni), .ref zow, .int (nI no), .int sd, .ref zke, .ref zva, .ref zle, .int ct, .int iv, .int dw, .ref zdr, .int ds])), (zrt, .inl (cI, 64, .inl sm_K)), (zfi, .inl (cI, 8, .inl sm_F)), (zsu, .inl (cI, 8, .inl gs4)), (zwo, .inl (cI, 64, .inl gw4)), (zro, .inl (cI, 512, .inl (sm_ap (sm_ap gr4 0 (fun j => sm_kb go no j ^^^ 54) 64) (0 + 64) gi k3))), (zdi, .inl (cI, 32, .inl (sm_sha go no))), (zpa, .inl (cI, 64, .inl (sm_kb go no))), (zin, .inl (cI, 300, .inl gi)), (zow, .inl (cI, 300, .inl go))] H → va_D A [(zm, .inr (4, [.int flt, .ref zrt, .ref zfi, .ref zsu, .ref zwo, .ref zro, .int (nI (0 + 64 + k3)), .ref zdi, .ref zpa, .ref zin, .int (nI ni), .ref zow, .int (nI no), .int sd, .ref zke, .ref zva, .ref zle, .int ct, .int iv, .int dw, .ref zdr, .int ds])), (zrt, .inl (cI, 64, .inl sm_K)), (zfi, .inl (cI, 8, .inl sm_F)), (zsu, .inl (cI, 8, .inl gs4)), (zwo, .inl (cI, 64, .inl gw4)), (zro, .inl (cI, 512, .inl (sm_ap (sm_ap gr4 0 (fun j => sm_kb go no j ^^^ 54) 64) (0 + 64) gi k3))), (zdi, .inl (cI, 32, .inl (sm_sha go no))), (zpa, .inl (cI, 64, .inl (sm_kb go no))), (zin, .inl (cI, 300, .inl gi)), (zow, .inl (cI, 300, .inl go))] → va_S A s.heap H locs → lv_has ls 3 [(2, .int (nI k3)), (0, .ref zm), (1, .int i)] → W p l e (headSpec wsX4_keyed rm_X4_keyed).room s m ([.ref zm, .int i] : List Value).toArray below meth c H locs 0 0 Q (F0 m 125 ls []) := by
                      intro zn
                      induction zn with
                      | zero => intro k3 H locs ls hmu; exact absurd hmu (Nat.not_lt_zero _)
                      | succ zn ih =>
                        intro k3 H locs ls hmu hi_125 hP hD hS hl
                        refine lv_iload_n hx hb dX4_keyed_125 rfl (lv_at hl 0 rfl) ?_
                        refine lv_aload_n hx hb dX4_keyed_126 rfl (lv_at hl 1 rfl) ?_
                        refine va_get (D := D) (ci := 4) (v := .int (nI ni)) (C := RX4) (T := TX4) (N := 22) hx hb hts hw_X4 hown hK hP 0 rfl rfl 10 (by decide) hf_154 (fun _ h9 => h9) rfl dX4_keyed_127 ?_
                        refine lv_icmp_ge (tgt := 149) hx hb dX4_keyed_130 (by decide) (fun c_130 => ?_) (fun c_130 => ?_)
                        ·
                          have hex_125 : k3 = ni := by
                            rcases Nat.lt_or_ge k3 (ni) with q | q
                            · exact absurd c_130 (nI_ge q (by omega))
                            · omega
                          rw [hex_125] at hP hD
                          have hP : va_P D vwCl [(zm, .inr (4, [.int flt, .ref zrt, .ref zfi, .ref zsu, .ref zwo, .ref zro, .int (nI (0 + 64 + ni)), .ref zdi, .ref zpa, .ref zin, .int (nI ni), .ref zow, .int (nI no), .int sd, .ref zke, .ref zva, .ref zle, .int ct, .int iv, .int dw, .ref zdr, .int ds])), (zrt, .inl (cI, 64, .inl sm_K)), (zfi, .inl (cI, 8, .inl sm_F)), (zsu, .inl (cI, 8, .inl gs4)), (zwo, .inl (cI, 64, .inl gw4)), (zro, .inl (cI, 512, .inl (sm_ap (sm_ap gr4 0 (fun j => sm_kb go no j ^^^ 54) 64) (0 + 64) gi ni))), (zdi, .inl (cI, 32, .inl (sm_sha go no))), (zpa, .inl (cI, 64, .inl (sm_kb go no))), (zin, .inl (cI, 300, .inl gi)), (zow, .inl (cI, 300, .inl go))] H := hP
                          have hD : va_D A [(zm, .inr (4, [.int flt, .ref zrt, .ref zfi, .ref zsu, .ref zwo, .ref zro, .int (nI (0 + 64 + ni)), .ref zdi, .ref zpa, .ref zin, .int (nI ni), .ref zow, .int (nI no), .int sd, .ref zke, .ref zva, .ref zle, .int ct, .int iv, .int dw, .ref zdr, .int ds])), (zrt, .inl (cI, 64, .inl sm_K)), (zfi, .inl (cI, 8, .inl sm_F)), (zsu, .inl (cI, 8, .inl gs4)), (zwo, .inl (cI, 64, .inl gw4)), (zro, .inl (cI, 512, .inl (sm_ap (sm_ap gr4 0 (fun j => sm_kb go no j ^^^ 54) 64) (0 + 64) gi ni))), (zdi, .inl (cI, 32, .inl (sm_sha go no))), (zpa, .inl (cI, 64, .inl (sm_kb go no))), (zin, .inl (cI, 300, .inl gi)), (zow, .inl (cI, 300, .inl go))] := hD
                          refine lv_aload_n hx hb dX4_keyed_149 rfl (lv_at hl 1 rfl) ?_
                          refine sm_callVv (wc := [(zm, .inr (4, [.int flt, .ref zrt, .ref zfi, .ref zsu, .ref zwo, .ref zro, .int (nI (0 + 64 + ni)), .ref zdi, .ref zpa, .ref zin, .int (nI ni), .ref zow, .int (nI no), .int sd, .ref zke, .ref zva, .ref zle, .int ct, .int iv, .int dw, .ref zdr, .int ds])), (zrt, .inl (cI, 64, .inl sm_K)), (zfi, .inl (cI, 8, .inl sm_F)), (zsu, .inl (cI, 8, .inl gs4)), (zwo, .inl (cI, 64, .inl gw4)), (zro, .inl (cI, 512, .inl (sm_ap (sm_ap gr4 0 (fun j => sm_kb go no j ^^^ 54) 64) (0 + 64) gi ni))), (zdi, .inl (cI, 32, .inl (sm_sha go no))), (zpa, .inl (cI, 64, .inl (sm_kb go no)))]) (wr := [(zin, .inl (cI, 300, .inl gi)), (zow, .inl (cI, 300, .inl go))]) (As := []) (rest := []) ⟨hx, hb, hml, hown, hts⟩ (sc_X4_finishKeyed l D cI th _ zm zrt zfi zsu zwo zro zdi zpa zin zow zke zva zle zdr flt (nI ni) (nI no) sd ct iv dw ds (0 + 64 + ni) gs4 gw4 (sm_ap (sm_ap gr4 0 (fun j => sm_kb go no j ^^^ 54) 64) (0 + 64) gi ni) (sm_sha go no) (sm_kb go no) (by unfold sm_nb; omega) (fun j _ => sm_kb_by hgo j)) (cwV 0 hts gX4_keyed_X4_finishKeyed rfl rfl rfl (by decide +kernel) ⟨Nat.le_of_ble_eq_true rfl, Nat.le_of_ble_eq_true rfl⟩) hP hD hS hA hK hT [0, 1, 2, 3, 4, 5, 6, 7] [8, 9] rfl rfl rfl rfl (by decide) 0 4 rfl rfl rfl rfl hl.1 rfl (Nat.le_of_ble_eq_true rfl) dX4_keyed_150 ⟨Nat.zero_le _, Nat.zero_le _⟩ (fun zt H1 locs ht hvm hB hJ hS => ?_)
                          obtain ⟨gs5, gw5, gr5, hP1, -, hD1⟩ := hB
                          rw [ht] at hP1
                          obtain ⟨hP, hD⟩ := hJ _ hP1 hD1
                          clear hJ
                          generalize H1 = H at hP hS ⊢
                          have hP : va_P D vwCl [(zm, .inr (4, [.int flt, .ref zrt, .ref zfi, .ref zsu, .ref zwo, .ref zro, .int (nI 0), .ref zdi, .ref zpa, .ref zin, .int (nI ni), .ref zow, .int (nI no), .int sd, .ref zke, .ref zva, .ref zle, .int ct, .int iv, .int dw, .ref zdr, .int ds])), (zrt, .inl (cI, 64, .inl sm_K)), (zfi, .inl (cI, 8, .inl sm_F)), (zsu, .inl (cI, 8, .inl gs5)), (zwo, .inl (cI, 64, .inl gw5)), (zro, .inl (cI, 512, .inl gr5)), (zdi, .inl (cI, 32, .inl (sm_out (sm_kb go no) (sm_sha (sm_ap (sm_ap gr4 0 (fun j => sm_kb go no j ^^^ 54) 64) (0 + 64) gi ni) (0 + 64 + ni))))), (zpa, .inl (cI, 64, .inl (sm_kb go no))), (zin, .inl (cI, 300, .inl gi)), (zow, .inl (cI, 300, .inl go))] H := hP.sub [2, 3, 4, 5, 6, 7, 8, 9, 0, 1] rfl
                          have hD : va_D A [(zm, .inr (4, [.int flt, .ref zrt, .ref zfi, .ref zsu, .ref zwo, .ref zro, .int (nI 0), .ref zdi, .ref zpa, .ref zin, .int (nI ni), .ref zow, .int (nI no), .int sd, .ref zke, .ref zva, .ref zle, .int ct, .int iv, .int dw, .ref zdr, .int ds])), (zrt, .inl (cI, 64, .inl sm_K)), (zfi, .inl (cI, 8, .inl sm_F)), (zsu, .inl (cI, 8, .inl gs5)), (zwo, .inl (cI, 64, .inl gw5)), (zro, .inl (cI, 512, .inl gr5)), (zdi, .inl (cI, 32, .inl (sm_out (sm_kb go no) (sm_sha (sm_ap (sm_ap gr4 0 (fun j => sm_kb go no j ^^^ 54) 64) (0 + 64) gi ni) (0 + 64 + ni))))), (zpa, .inl (cI, 64, .inl (sm_kb go no))), (zin, .inl (cI, 300, .inl gi)), (zow, .inl (cI, 300, .inl go))] := hD.sub [2, 3, 4, 5, 6, 7, 8, 9, 0, 1] rfl rfl
                          rw [sm_hmE] at hP hD
                          have hP : va_P D vwCl [(zm, .inr (4, [.int flt, .ref zrt, .ref zfi, .ref zsu, .ref zwo, .ref zro, .int (nI 0), .ref zdi, .ref zpa, .ref zin, .int (nI ni), .ref zow, .int (nI no), .int sd, .ref zke, .ref zva, .ref zle, .int ct, .int iv, .int dw, .ref zdr, .int ds])), (zrt, .inl (cI, 64, .inl sm_K)), (zfi, .inl (cI, 8, .inl sm_F)), (zsu, .inl (cI, 8, .inl gs5)), (zwo, .inl (cI, 64, .inl gw5)), (zro, .inl (cI, 512, .inl gr5)), (zdi, .inl (cI, 32, .inl (sm_hm go no gi ni))), (zpa, .inl (cI, 64, .inl (sm_kb go no))), (zin, .inl (cI, 300, .inl gi)), (zow, .inl (cI, 300, .inl go))] H := hP
                          have hD : va_D A [(zm, .inr (4, [.int flt, .ref zrt, .ref zfi, .ref zsu, .ref zwo, .ref zro, .int (nI 0), .ref zdi, .ref zpa, .ref zin, .int (nI ni), .ref zow, .int (nI no), .int sd, .ref zke, .ref zva, .ref zle, .int ct, .int iv, .int dw, .ref zdr, .int ds])), (zrt, .inl (cI, 64, .inl sm_K)), (zfi, .inl (cI, 8, .inl sm_F)), (zsu, .inl (cI, 8, .inl gs5)), (zwo, .inl (cI, 64, .inl gw5)), (zro, .inl (cI, 512, .inl gr5)), (zdi, .inl (cI, 32, .inl (sm_hm go no gi ni))), (zpa, .inl (cI, 64, .inl (sm_kb go no))), (zin, .inl (cI, 300, .inl gi)), (zow, .inl (cI, 300, .inl go))] := hD
                          refine lv_aload_n hx hb dX4_keyed_153 rfl (lv_at hl 1 rfl) ?_
                          refine va_get (D := D) (ci := 4) (v := .ref zdi) (C := RX4) (T := TX4) (N := 22) hx hb hts hw_X4 hown hK hP 0 rfl rfl 7 (by decide) hf_97 (fun _ h9 => h9) rfl dX4_keyed_154 ?_
                          refine lv_iload_n hx hb dX4_keyed_157 rfl (lv_at hl 2 rfl) ?_
                          have hi0 : ∃ j : Nat, j < 32 ∧ i = nI j := by
                            rcases pk_ix i (n := 32) (by omega) with q | q | q
                            · exact absurd q c_1
                            · exact absurd q (Int32.not_le.mpr c_7)
                            · exact q
                          obtain ⟨j, hj, ej⟩ := hi0
                          have hin9 : vp_in i 32 := by rw [ej]; exact vp_in_nI (by omega) (by decide)
                          refine va_iald (i := i) hx hb hK hP 6 0 rfl rfl hin9 dX4_keyed_158 ?_
                          rw [hQ]
                          have hP9 : va_P D vwCl [(zm, .inr (4, [.int flt, .ref zrt, .ref zfi, .ref zsu, .ref zwo, .ref zro, .int (nI 0), .ref zdi, .ref zpa, .ref zin, .int (nI ni), .ref zow, .int (nI no), .int sd, .ref zke, .ref zva, .ref zle, .int ct, .int iv, .int dw, .ref zdr, .int ds])), (zrt, .inl (cI, 64, .inl sm_K)), (zfi, .inl (cI, 8, .inl sm_F)), (zsu, .inl (cI, 8, .inl gs5)), (zwo, .inl (cI, 64, .inl gw5)), (zro, .inl (cI, 512, .inl gr5)), (zdi, .inl (cI, 32, .inl (sm_hm go no gi ni))), (zpa, .inl (cI, 64, .inl (sm_kb go no))), (zin, .inl (cI, 300, .inl gi)), (zow, .inl (cI, 300, .inl go))] H := hP
                          have hD9 : va_D A [(zm, .inr (4, [.int flt, .ref zrt, .ref zfi, .ref zsu, .ref zwo, .ref zro, .int (nI 0), .ref zdi, .ref zpa, .ref zin, .int (nI ni), .ref zow, .int (nI no), .int sd, .ref zke, .ref zva, .ref zle, .int ct, .int iv, .int dw, .ref zdr, .int ds])), (zrt, .inl (cI, 64, .inl sm_K)), (zfi, .inl (cI, 8, .inl sm_F)), (zsu, .inl (cI, 8, .inl gs5)), (zwo, .inl (cI, 64, .inl gw5)), (zro, .inl (cI, 512, .inl gr5)), (zdi, .inl (cI, 32, .inl (sm_hm go no gi ni))), (zpa, .inl (cI, 64, .inl (sm_kb go no))), (zin, .inl (cI, 300, .inl gi)), (zow, .inl (cI, 300, .inl go))] := hD
                          exact W.iret (v := (sm_hm go no gi ni) (Int32.toNatClampNeg i)) hx hb hr (fun t ht hW => ⟨⟨(sm_hm go no gi ni) (Int32.toNatClampNeg i), (), rfl, (by unfold sm_at; rw [if_neg (fun q => q.elim c_1 (Int32.not_le.mpr c_7))]), ⟨_, _, _, _, _, by rw [ht]; exact hP9, va_K.moved hW.alike hK, hD9⟩⟩, hS.F ht⟩) hS.2.2 dX4_keyed_159
                        ·
                          have hlt_125 : k3 < ni := by
                            rcases Nat.lt_or_ge k3 (ni) with q | q
                            · exact q
                            · exact absurd (nI_le q (by omega)) c_130
                          refine lv_aload_n hx hb dX4_keyed_133 rfl (lv_at hl 1 rfl) ?_
                          refine lv_aload_n hx hb dX4_keyed_134 rfl (lv_at hl 1 rfl) ?_
                          refine va_get (D := D) (ci := 4) (v := .ref zin) (C := RX4) (T := TX4) (N := 22) hx hb hts hw_X4 hown hK hP 0 rfl rfl 9 (by decide) hf_103 (fun _ h9 => h9) rfl dX4_keyed_135 ?_
                          refine lv_iload_n hx hb dX4_keyed_138 rfl (lv_at hl 0 rfl) ?_
                          refine va_iald (i := nI k3) hx hb hK hP 8 0 rfl rfl (vp_in_nI (n := k3) (by omega) (by omega)) dX4_keyed_139 ?_
                          refine sm_top (z := gi k3) (congrArg gi (nI_clamp (n := k3) (by omega))) ?_
                          refine sm_callVv (wc := [(zm, .inr (4, [.int flt, .ref zrt, .ref zfi, .ref zsu, .ref zwo, .ref zro, .int (nI (0 + 64 + k3)), .ref zdi, .ref zpa, .ref zin, .int (nI ni), .ref zow, .int (nI no), .int sd, .ref zke, .ref zva, .ref zle, .int ct, .int iv, .int dw, .ref zdr, .int ds])), (zro, .inl (cI, 512, .inl (sm_ap (sm_ap gr4 0 (fun j => sm_kb go no j ^^^ 54) 64) (0 + 64) gi k3)))]) (wr := [(zrt, .inl (cI, 64, .inl sm_K)), (zfi, .inl (cI, 8, .inl sm_F)), (zsu, .inl (cI, 8, .inl gs4)), (zwo, .inl (cI, 64, .inl gw4)), (zdi, .inl (cI, 32, .inl (sm_sha go no))), (zpa, .inl (cI, 64, .inl (sm_kb go no))), (zin, .inl (cI, 300, .inl gi)), (zow, .inl (cI, 300, .inl go))]) (As := [.int (gi k3)]) (rest := []) ⟨hx, hb, hml, hown, hts⟩ (sc_X4_put l D cI th _ zm zrt zfi zsu zwo zro zdi zpa zin zow zke zva zle zdr flt (nI ni) (nI no) sd ct iv dw ds (0 + 64 + k3) (sm_ap (sm_ap gr4 0 (fun j => sm_kb go no j ^^^ 54) 64) (0 + 64) gi k3) (gi k3) (by omega)) (cwV 1 hts gX4_keyed_X4_put rfl rfl rfl (by decide +kernel) ⟨Nat.le_of_ble_eq_true rfl, Nat.le_of_ble_eq_true rfl⟩) hP hD hS hA hK hT [0, 5] [1, 2, 3, 4, 6, 7, 8, 9] rfl rfl rfl rfl (by decide) 0 4 rfl rfl rfl rfl hl.1 rfl (Nat.le_of_ble_eq_true rfl) dX4_keyed_140 ⟨Nat.zero_le _, Nat.zero_le _⟩ (fun zt H1 locs ht hvm hB hJ hS => ?_)
                          obtain ⟨hP1, -, hD1⟩ := hB
                          rw [ht] at hP1
                          obtain ⟨hP, hD⟩ := hJ _ hP1 hD1
                          clear hJ
                          generalize H1 = H at hP hS ⊢
                          have hP : va_P D vwCl [(zm, .inr (4, [.int flt, .ref zrt, .ref zfi, .ref zsu, .ref zwo, .ref zro, .int (nI (0 + 64 + k3 + 1)), .ref zdi, .ref zpa, .ref zin, .int (nI ni), .ref zow, .int (nI no), .int sd, .ref zke, .ref zva, .ref zle, .int ct, .int iv, .int dw, .ref zdr, .int ds])), (zrt, .inl (cI, 64, .inl sm_K)), (zfi, .inl (cI, 8, .inl sm_F)), (zsu, .inl (cI, 8, .inl gs4)), (zwo, .inl (cI, 64, .inl gw4)), (zro, .inl (cI, 512, .inl (upd (sm_ap (sm_ap gr4 0 (fun j => sm_kb go no j ^^^ 54) 64) (0 + 64) gi k3) (0 + 64 + k3) ((gi k3) &&& 255)))), (zdi, .inl (cI, 32, .inl (sm_sha go no))), (zpa, .inl (cI, 64, .inl (sm_kb go no))), (zin, .inl (cI, 300, .inl gi)), (zow, .inl (cI, 300, .inl go))] H := hP.sub [8, 0, 1, 2, 3, 9, 4, 5, 6, 7] rfl
                          have hD : va_D A [(zm, .inr (4, [.int flt, .ref zrt, .ref zfi, .ref zsu, .ref zwo, .ref zro, .int (nI (0 + 64 + k3 + 1)), .ref zdi, .ref zpa, .ref zin, .int (nI ni), .ref zow, .int (nI no), .int sd, .ref zke, .ref zva, .ref zle, .int ct, .int iv, .int dw, .ref zdr, .int ds])), (zrt, .inl (cI, 64, .inl sm_K)), (zfi, .inl (cI, 8, .inl sm_F)), (zsu, .inl (cI, 8, .inl gs4)), (zwo, .inl (cI, 64, .inl gw4)), (zro, .inl (cI, 512, .inl (upd (sm_ap (sm_ap gr4 0 (fun j => sm_kb go no j ^^^ 54) 64) (0 + 64) gi k3) (0 + 64 + k3) ((gi k3) &&& 255)))), (zdi, .inl (cI, 32, .inl (sm_sha go no))), (zpa, .inl (cI, 64, .inl (sm_kb go no))), (zin, .inl (cI, 300, .inl gi)), (zow, .inl (cI, 300, .inl go))] := hD.sub [8, 0, 1, 2, 3, 9, 4, 5, 6, 7] rfl rfl
                          rw [show (gi k3 : Int32) &&& 255 = gi k3 from hgi k3 hlt_125] at hP hD
                          have hP : va_P D vwCl [(zm, .inr (4, [.int flt, .ref zrt, .ref zfi, .ref zsu, .ref zwo, .ref zro, .int (nI (0 + 64 + k3 + 1)), .ref zdi, .ref zpa, .ref zin, .int (nI ni), .ref zow, .int (nI no), .int sd, .ref zke, .ref zva, .ref zle, .int ct, .int iv, .int dw, .ref zdr, .int ds])), (zrt, .inl (cI, 64, .inl sm_K)), (zfi, .inl (cI, 8, .inl sm_F)), (zsu, .inl (cI, 8, .inl gs4)), (zwo, .inl (cI, 64, .inl gw4)), (zro, .inl (cI, 512, .inl (upd (sm_ap (sm_ap gr4 0 (fun j => sm_kb go no j ^^^ 54) 64) (0 + 64) gi k3) (0 + 64 + k3) (gi k3)))), (zdi, .inl (cI, 32, .inl (sm_sha go no))), (zpa, .inl (cI, 64, .inl (sm_kb go no))), (zin, .inl (cI, 300, .inl gi)), (zow, .inl (cI, 300, .inl go))] H := hP
                          have hD : va_D A [(zm, .inr (4, [.int flt, .ref zrt, .ref zfi, .ref zsu, .ref zwo, .ref zro, .int (nI (0 + 64 + k3 + 1)), .ref zdi, .ref zpa, .ref zin, .int (nI ni), .ref zow, .int (nI no), .int sd, .ref zke, .ref zva, .ref zle, .int ct, .int iv, .int dw, .ref zdr, .int ds])), (zrt, .inl (cI, 64, .inl sm_K)), (zfi, .inl (cI, 8, .inl sm_F)), (zsu, .inl (cI, 8, .inl gs4)), (zwo, .inl (cI, 64, .inl gw4)), (zro, .inl (cI, 512, .inl (upd (sm_ap (sm_ap gr4 0 (fun j => sm_kb go no j ^^^ 54) 64) (0 + 64) gi k3) (0 + 64 + k3) (gi k3)))), (zdi, .inl (cI, 32, .inl (sm_sha go no))), (zpa, .inl (cI, 64, .inl (sm_kb go no))), (zin, .inl (cI, 300, .inl gi)), (zow, .inl (cI, 300, .inl go))] := hD
                          refine lv_iinc (v := nI (k3 + 1)) (lv' := [(2, .int (nI (k3 + 1))), (0, .ref zm), (1, .int i)]) hx hb dX4_keyed_143 hl (k := 0) rfl (nI_1 k3) (by decide) rfl (fun ls hl => ?_)
                          refine lv_goto (tgt := 125) hx hb dX4_keyed_146 (by decide) ?_
                          rw [sm_ap_s] at hP hD
                          exact ih (k3 + 1) _ _ _ (by omega) (by omega) hP hD hS (lv_sub hl [0, 1, 2] rfl)
                    exact lp125 _ 0 _ _ _ (Nat.lt_succ_self _) (Nat.zero_le _) (by rw [sm_ap_0]; exact hP) (by rw [sm_ap_0]; exact hD) hS (lv_sub hl [0, 1, 2] rfl)
                  ·
                    have hlt_53 : k2 < 64 := by
                      rcases Nat.lt_or_ge k2 (64) with q | q
                      · exact q
                      · exact absurd (nI_le q (by omega)) c_56
                    refine lv_aload_n hx hb dX4_keyed_59 rfl (lv_at hl 1 rfl) ?_
                    refine va_get (D := D) (ci := 4) (v := .ref zpa) (C := RX4) (T := TX4) (N := 22) hx hb hts hw_X4 hown hK hP 0 rfl rfl 8 (by decide) hf_100 (fun _ h9 => h9) rfl dX4_keyed_60 ?_
                    refine lv_iload_n hx hb dX4_keyed_63 rfl (lv_at hl 0 rfl) ?_
                    refine lv_aload_n hx hb dX4_keyed_64 rfl (lv_at hl 1 rfl) ?_
                    refine va_get (D := D) (ci := 4) (v := .int (nI no)) (C := RX4) (T := TX4) (N := 22) hx hb hts hw_X4 hown hK hP 0 rfl rfl 12 (by decide) hf_178 (fun _ h9 => h9) rfl dX4_keyed_65 ?_
                    refine lv_bipush (v := 64) hx hb dX4_keyed_68 (by decide) ?_
                    refine lv_icmp_le (tgt := 92) hx hb dX4_keyed_70 (by decide) (fun c_70 => ?_) (fun c_70 => ?_)
                    ·
                      exact absurd c_70 (nI_ge hsm (by omega))
                    ·
                      refine lv_iload_n hx hb dX4_keyed_73 rfl (lv_at hl 0 rfl) ?_
                      refine lv_bipush (v := 32) hx hb dX4_keyed_74 (by decide) ?_
                      refine lv_icmp_ge (tgt := 88) hx hb dX4_keyed_76 (by decide) (fun c_76 => ?_) (fun c_76 => ?_)
                      ·
                        have hs2 : ¬ k2 < 32 := fun q => absurd c_76 (nI_ge q (by decide))
                        refine lv_iconst (v := 0) hx hb dX4_keyed_88 (by decide) ?_
                        refine lv_goto (tgt := 110) hx hb dX4_keyed_89 (by decide) ?_
                        refine sm_top (z := sm_kb go no k2) (by unfold sm_kb; rw [if_pos hsm, if_neg hs2]) ?_
                        refine va_iast (i := nI k2) (x := sm_kb go no k2) hx hb hK hP hD hS 7 0 rfl rfl (vp_in_nI (n := k2) (by omega) (by omega)) dX4_keyed_110 (fun H locs hP hD hS => ?_)
                        rw [show Int32.toNatClampNeg (nI k2) = k2 from nI_clamp (n := k2) (by omega)] at hP hD
                        have hP : va_P D vwCl [(zm, .inr (4, [.int flt, .ref zrt, .ref zfi, .ref zsu, .ref zwo, .ref zro, .int (nI 0), .ref zdi, .ref zpa, .ref zin, .int (nI ni), .ref zow, .int (nI no), .int sd, .ref zke, .ref zva, .ref zle, .int ct, .int iv, .int dw, .ref zdr, .int ds])), (zrt, .inl (cI, 64, .inl sm_K)), (zfi, .inl (cI, 8, .inl sm_F)), (zsu, .inl (cI, 8, .inl gs4)), (zwo, .inl (cI, 64, .inl gw4)), (zro, .inl (cI, 512, .inl gr4)), (zdi, .inl (cI, 32, .inl (sm_sha go no))), (zpa, .inl (cI, 64, .inl (upd (sm_ap gp 0 (sm_kb go no) k2) k2 (sm_kb go no k2)))), (zin, .inl (cI, 300, .inl gi)), (zow, .inl (cI, 300, .inl go))] H := hP
                        have hD : va_D A [(zm, .inr (4, [.int flt, .ref zrt, .ref zfi, .ref zsu, .ref zwo, .ref zro, .int (nI 0), .ref zdi, .ref zpa, .ref zin, .int (nI ni), .ref zow, .int (nI no), .int sd, .ref zke, .ref zva, .ref zle, .int ct, .int iv, .int dw, .ref zdr, .int ds])), (zrt, .inl (cI, 64, .inl sm_K)), (zfi, .inl (cI, 8, .inl sm_F)), (zsu, .inl (cI, 8, .inl gs4)), (zwo, .inl (cI, 64, .inl gw4)), (zro, .inl (cI, 512, .inl gr4)), (zdi, .inl (cI, 32, .inl (sm_sha go no))), (zpa, .inl (cI, 64, .inl (upd (sm_ap gp 0 (sm_kb go no) k2) k2 (sm_kb go no k2)))), (zin, .inl (cI, 300, .inl gi)), (zow, .inl (cI, 300, .inl go))] := hD
                        refine lv_iinc (v := nI (k2 + 1)) (lv' := [(2, .int (nI (k2 + 1))), (0, .ref zm), (1, .int i)]) hx hb dX4_keyed_111 hl (k := 0) rfl (nI_1 k2) (by decide) rfl (fun ls hl => ?_)
                        refine lv_goto (tgt := 53) hx hb dX4_keyed_114 (by decide) ?_
                        rw [sm_ap_s0] at hP hD
                        exact ih (k2 + 1) _ _ _ (by omega) (by omega) hP hD hS (lv_sub hl [0, 1, 2] rfl)
                      ·
                        have hs2 : k2 < 32 := by
                          rcases Nat.lt_or_ge k2 32 with q | q
                          · exact q
                          · exact absurd (nI_le q (by omega)) c_76
                        refine lv_aload_n hx hb dX4_keyed_79 rfl (lv_at hl 1 rfl) ?_
                        refine va_get (D := D) (ci := 4) (v := .ref zdi) (C := RX4) (T := TX4) (N := 22) hx hb hts hw_X4 hown hK hP 0 rfl rfl 7 (by decide) hf_97 (fun _ h9 => h9) rfl dX4_keyed_80 ?_
                        refine lv_iload_n hx hb dX4_keyed_83 rfl (lv_at hl 0 rfl) ?_
                        refine va_iald (i := nI k2) hx hb hK hP 6 0 rfl rfl (vp_in_nI (n := k2) (by omega) (by omega)) dX4_keyed_84 ?_
                        refine sm_top (z := (sm_sha go no) k2) (congrArg (sm_sha go no) (nI_clamp (n := k2) (by omega))) ?_
                        refine lv_goto (tgt := 110) hx hb dX4_keyed_85 (by decide) ?_
                        refine sm_top (z := sm_kb go no k2) (by unfold sm_kb; rw [if_pos hsm, if_pos hs2]) ?_
                        refine va_iast (i := nI k2) (x := sm_kb go no k2) hx hb hK hP hD hS 7 0 rfl rfl (vp_in_nI (n := k2) (by omega) (by omega)) dX4_keyed_110 (fun H locs hP hD hS => ?_)
                        rw [show Int32.toNatClampNeg (nI k2) = k2 from nI_clamp (n := k2) (by omega)] at hP hD
                        have hP : va_P D vwCl [(zm, .inr (4, [.int flt, .ref zrt, .ref zfi, .ref zsu, .ref zwo, .ref zro, .int (nI 0), .ref zdi, .ref zpa, .ref zin, .int (nI ni), .ref zow, .int (nI no), .int sd, .ref zke, .ref zva, .ref zle, .int ct, .int iv, .int dw, .ref zdr, .int ds])), (zrt, .inl (cI, 64, .inl sm_K)), (zfi, .inl (cI, 8, .inl sm_F)), (zsu, .inl (cI, 8, .inl gs4)), (zwo, .inl (cI, 64, .inl gw4)), (zro, .inl (cI, 512, .inl gr4)), (zdi, .inl (cI, 32, .inl (sm_sha go no))), (zpa, .inl (cI, 64, .inl (upd (sm_ap gp 0 (sm_kb go no) k2) k2 (sm_kb go no k2)))), (zin, .inl (cI, 300, .inl gi)), (zow, .inl (cI, 300, .inl go))] H := hP
                        have hD : va_D A [(zm, .inr (4, [.int flt, .ref zrt, .ref zfi, .ref zsu, .ref zwo, .ref zro, .int (nI 0), .ref zdi, .ref zpa, .ref zin, .int (nI ni), .ref zow, .int (nI no), .int sd, .ref zke, .ref zva, .ref zle, .int ct, .int iv, .int dw, .ref zdr, .int ds])), (zrt, .inl (cI, 64, .inl sm_K)), (zfi, .inl (cI, 8, .inl sm_F)), (zsu, .inl (cI, 8, .inl gs4)), (zwo, .inl (cI, 64, .inl gw4)), (zro, .inl (cI, 512, .inl gr4)), (zdi, .inl (cI, 32, .inl (sm_sha go no))), (zpa, .inl (cI, 64, .inl (upd (sm_ap gp 0 (sm_kb go no) k2) k2 (sm_kb go no k2)))), (zin, .inl (cI, 300, .inl gi)), (zow, .inl (cI, 300, .inl go))] := hD
                        refine lv_iinc (v := nI (k2 + 1)) (lv' := [(2, .int (nI (k2 + 1))), (0, .ref zm), (1, .int i)]) hx hb dX4_keyed_111 hl (k := 0) rfl (nI_1 k2) (by decide) rfl (fun ls hl => ?_)
                        refine lv_goto (tgt := 53) hx hb dX4_keyed_114 (by decide) ?_
                        rw [sm_ap_s0] at hP hD
                        exact ih (k2 + 1) _ _ _ (by omega) (by omega) hP hD hS (lv_sub hl [0, 1, 2] rfl)
              exact lp53 _ 0 _ _ _ (Nat.lt_succ_self _) (Nat.zero_le _) (by rw [sm_ap_0]; exact hP) (by rw [sm_ap_0]; exact hD) hS (lv_sub hl [0, 1, 2] rfl)
            ·
              have hlt_23 : k < no := by
                rcases Nat.lt_or_ge k (no) with q | q
                · exact q
                · exact absurd (nI_le q (by omega)) c_28
              refine lv_aload_n hx hb dX4_keyed_31 rfl (lv_at hl 1 rfl) ?_
              refine lv_aload_n hx hb dX4_keyed_32 rfl (lv_at hl 1 rfl) ?_
              refine va_get (D := D) (ci := 4) (v := .ref zow) (C := RX4) (T := TX4) (N := 22) hx hb hts hw_X4 hown hK hP 0 rfl rfl 11 (by decide) hf_106 (fun _ h9 => h9) rfl dX4_keyed_33 ?_
              refine lv_iload_n hx hb dX4_keyed_36 rfl (lv_at hl 0 rfl) ?_
              refine va_iald (i := nI k) hx hb hK hP 9 0 rfl rfl (vp_in_nI (n := k) (by omega) (by omega)) dX4_keyed_37 ?_
              refine sm_top (z := go k) (congrArg go (nI_clamp (n := k) (by omega))) ?_
              refine sm_callVv (wc := [(zm, .inr (4, [.int flt, .ref zrt, .ref zfi, .ref zsu, .ref zwo, .ref zro, .int (nI (0 + k)), .ref zdi, .ref zpa, .ref zin, .int (nI ni), .ref zow, .int (nI no), .int sd, .ref zke, .ref zva, .ref zle, .int ct, .int iv, .int dw, .ref zdr, .int ds])), (zro, .inl (cI, 512, .inl (sm_ap gr 0 go k)))]) (wr := [(zrt, .inl (cI, 64, .inl sm_K)), (zfi, .inl (cI, 8, .inl sm_F)), (zsu, .inl (cI, 8, .inl gs)), (zwo, .inl (cI, 64, .inl gw)), (zdi, .inl (cI, 32, .inl gd)), (zpa, .inl (cI, 64, .inl gp)), (zin, .inl (cI, 300, .inl gi)), (zow, .inl (cI, 300, .inl go))]) (As := [.int (go k)]) (rest := []) ⟨hx, hb, hml, hown, hts⟩ (sc_X4_put l D cI th _ zm zrt zfi zsu zwo zro zdi zpa zin zow zke zva zle zdr flt (nI ni) (nI no) sd ct iv dw ds (0 + k) (sm_ap gr 0 go k) (go k) (by omega)) (cwV 1 hts gX4_keyed_X4_put rfl rfl rfl (by decide +kernel) ⟨Nat.le_of_ble_eq_true rfl, Nat.le_of_ble_eq_true rfl⟩) hP hD hS hA hK hT [0, 5] [1, 2, 3, 4, 6, 7, 8, 9] rfl rfl rfl rfl (by decide) 0 4 rfl rfl rfl rfl hl.1 rfl (Nat.le_of_ble_eq_true rfl) dX4_keyed_38 ⟨Nat.zero_le _, Nat.zero_le _⟩ (fun zt H1 locs ht hvm hB hJ hS => ?_)
              obtain ⟨hP1, -, hD1⟩ := hB
              rw [ht] at hP1
              obtain ⟨hP, hD⟩ := hJ _ hP1 hD1
              clear hJ
              generalize H1 = H at hP hS ⊢
              have hP : va_P D vwCl [(zm, .inr (4, [.int flt, .ref zrt, .ref zfi, .ref zsu, .ref zwo, .ref zro, .int (nI (0 + k + 1)), .ref zdi, .ref zpa, .ref zin, .int (nI ni), .ref zow, .int (nI no), .int sd, .ref zke, .ref zva, .ref zle, .int ct, .int iv, .int dw, .ref zdr, .int ds])), (zrt, .inl (cI, 64, .inl sm_K)), (zfi, .inl (cI, 8, .inl sm_F)), (zsu, .inl (cI, 8, .inl gs)), (zwo, .inl (cI, 64, .inl gw)), (zro, .inl (cI, 512, .inl (upd (sm_ap gr 0 go k) (0 + k) ((go k) &&& 255)))), (zdi, .inl (cI, 32, .inl gd)), (zpa, .inl (cI, 64, .inl gp)), (zin, .inl (cI, 300, .inl gi)), (zow, .inl (cI, 300, .inl go))] H := hP.sub [8, 0, 1, 2, 3, 9, 4, 5, 6, 7] rfl
              have hD : va_D A [(zm, .inr (4, [.int flt, .ref zrt, .ref zfi, .ref zsu, .ref zwo, .ref zro, .int (nI (0 + k + 1)), .ref zdi, .ref zpa, .ref zin, .int (nI ni), .ref zow, .int (nI no), .int sd, .ref zke, .ref zva, .ref zle, .int ct, .int iv, .int dw, .ref zdr, .int ds])), (zrt, .inl (cI, 64, .inl sm_K)), (zfi, .inl (cI, 8, .inl sm_F)), (zsu, .inl (cI, 8, .inl gs)), (zwo, .inl (cI, 64, .inl gw)), (zro, .inl (cI, 512, .inl (upd (sm_ap gr 0 go k) (0 + k) ((go k) &&& 255)))), (zdi, .inl (cI, 32, .inl gd)), (zpa, .inl (cI, 64, .inl gp)), (zin, .inl (cI, 300, .inl gi)), (zow, .inl (cI, 300, .inl go))] := hD.sub [8, 0, 1, 2, 3, 9, 4, 5, 6, 7] rfl rfl
              rw [show (go k : Int32) &&& 255 = go k from hgo k hlt_23] at hP hD
              have hP : va_P D vwCl [(zm, .inr (4, [.int flt, .ref zrt, .ref zfi, .ref zsu, .ref zwo, .ref zro, .int (nI (0 + k + 1)), .ref zdi, .ref zpa, .ref zin, .int (nI ni), .ref zow, .int (nI no), .int sd, .ref zke, .ref zva, .ref zle, .int ct, .int iv, .int dw, .ref zdr, .int ds])), (zrt, .inl (cI, 64, .inl sm_K)), (zfi, .inl (cI, 8, .inl sm_F)), (zsu, .inl (cI, 8, .inl gs)), (zwo, .inl (cI, 64, .inl gw)), (zro, .inl (cI, 512, .inl (upd (sm_ap gr 0 go k) (0 + k) (go k)))), (zdi, .inl (cI, 32, .inl gd)), (zpa, .inl (cI, 64, .inl gp)), (zin, .inl (cI, 300, .inl gi)), (zow, .inl (cI, 300, .inl go))] H := hP
              have hD : va_D A [(zm, .inr (4, [.int flt, .ref zrt, .ref zfi, .ref zsu, .ref zwo, .ref zro, .int (nI (0 + k + 1)), .ref zdi, .ref zpa, .ref zin, .int (nI ni), .ref zow, .int (nI no), .int sd, .ref zke, .ref zva, .ref zle, .int ct, .int iv, .int dw, .ref zdr, .int ds])), (zrt, .inl (cI, 64, .inl sm_K)), (zfi, .inl (cI, 8, .inl sm_F)), (zsu, .inl (cI, 8, .inl gs)), (zwo, .inl (cI, 64, .inl gw)), (zro, .inl (cI, 512, .inl (upd (sm_ap gr 0 go k) (0 + k) (go k)))), (zdi, .inl (cI, 32, .inl gd)), (zpa, .inl (cI, 64, .inl gp)), (zin, .inl (cI, 300, .inl gi)), (zow, .inl (cI, 300, .inl go))] := hD
              refine lv_iinc (v := nI (k + 1)) (lv' := [(2, .int (nI (k + 1))), (0, .ref zm), (1, .int i)]) hx hb dX4_keyed_41 hl (k := 0) rfl (nI_1 k) (by decide) rfl (fun ls hl => ?_)
              refine lv_goto (tgt := 23) hx hb dX4_keyed_44 (by decide) ?_
              rw [sm_ap_s] at hP hD
              exact ih (k + 1) _ _ _ (by omega) (by omega) hP hD hS (lv_sub hl [0, 1, 2] rfl)
        exact lp23 _ 0 _ _ _ (Nat.lt_succ_self _) (Nat.zero_le _) (by rw [sm_ap_0]; exact hP) (by rw [sm_ap_0]; exact hD) hS (lv_sub hl [0, 1, 2] rfl)
    ·
      refine lv_iconst (v := (-1)) hx hb dX4_keyed_10 (by decide) ?_
      rw [hQ]
      have hP9 : va_P D vwCl [(zm, .inr (4, [.int flt, .ref zrt, .ref zfi, .ref zsu, .ref zwo, .ref zro, .int (nI 0), .ref zdi, .ref zpa, .ref zin, .int (nI ni), .ref zow, .int (nI no), .int sd, .ref zke, .ref zva, .ref zle, .int ct, .int iv, .int dw, .ref zdr, .int ds])), (zrt, .inl (cI, 64, .inl sm_K)), (zfi, .inl (cI, 8, .inl sm_F)), (zsu, .inl (cI, 8, .inl gs)), (zwo, .inl (cI, 64, .inl gw)), (zro, .inl (cI, 512, .inl gr)), (zdi, .inl (cI, 32, .inl gd)), (zpa, .inl (cI, 64, .inl gp)), (zin, .inl (cI, 300, .inl gi)), (zow, .inl (cI, 300, .inl go))] s.heap := hP
      have hD9 : va_D A [(zm, .inr (4, [.int flt, .ref zrt, .ref zfi, .ref zsu, .ref zwo, .ref zro, .int (nI 0), .ref zdi, .ref zpa, .ref zin, .int (nI ni), .ref zow, .int (nI no), .int sd, .ref zke, .ref zva, .ref zle, .int ct, .int iv, .int dw, .ref zdr, .int ds])), (zrt, .inl (cI, 64, .inl sm_K)), (zfi, .inl (cI, 8, .inl sm_F)), (zsu, .inl (cI, 8, .inl gs)), (zwo, .inl (cI, 64, .inl gw)), (zro, .inl (cI, 512, .inl gr)), (zdi, .inl (cI, 32, .inl gd)), (zpa, .inl (cI, 64, .inl gp)), (zin, .inl (cI, 300, .inl gi)), (zow, .inl (cI, 300, .inl go))] := hD
      exact W.iret (v := (-1)) hx hb hr (fun t ht hW => ⟨⟨(-1), (), rfl, (by unfold sm_at; rw [if_pos (by first | exact Or.inl c_1 | exact Or.inr (Int32.not_lt.mp c_7))]), ⟨_, _, _, _, _, by rw [ht]; exact hP9, va_K.moved hW.alike hK, hD9⟩⟩, hS.F ht⟩) hS.2.2 dX4_keyed_11

def rm_X4_count : Room := ({ frames := 0, cells := 0, slots := 0, locals := 0 } : Room)
set_option maxHeartbeats 4000000 in
set_option maxRecDepth 100000 in
/-- count -/
theorem sc_X4_count (l : Launch) (D : va_G) (cI : ClassId) (th : Option (Nat × Nat)) (sz : Nat) (zm zrt zfi zsu zwo zro zdi zpa zin zow zke zva zle zdr : Nat) (flt is_ os_ sd ct iv dw ds : Int32) (k : Int32)  : Met l yX4_count wsX4_count rm_X4_count (va_Pc [.ref zm, .int k] (sm_PW D cI th [(zm, .inr (4, [.int flt, .ref zrt, .ref zfi, .ref zsu, .ref zwo, .ref zro, .int (nI 0), .ref zdi, .ref zpa, .ref zin, .int is_, .ref zow, .int os_, .int sd, .ref zke, .ref zva, .ref zle, .int ct, .int iv, .int dw, .ref zdr, .int ds]))] sz)) (va_Qi (fun (r : Int32) (_ : Unit) => r = sm_ct k is_ ds os_ dw iv) (fun _ t => sm_QW D cI (va_A [(zm, .inr (4, [.int flt, .ref zrt, .ref zfi, .ref zsu, .ref zwo, .ref zro, .int (nI 0), .ref zdi, .ref zpa, .ref zin, .int is_, .ref zow, .int os_, .int sd, .ref zke, .ref zva, .ref zle, .int ct, .int iv, .int dw, .ref zdr, .int ds]))] sz) [(zm, .inr (4, [.int flt, .ref zrt, .ref zfi, .ref zsu, .ref zwo, .ref zro, .int (nI 0), .ref zdi, .ref zpa, .ref zin, .int is_, .ref zow, .int os_, .int sd, .ref zke, .ref zva, .ref zle, .int ct, .int iv, .int dw, .ref zdr, .int ds]))] t) (va_A [(zm, .inr (4, [.int flt, .ref zrt, .ref zfi, .ref zsu, .ref zwo, .ref zro, .int (nI 0), .ref zdi, .ref zpa, .ref zin, .int is_, .ref zow, .int os_, .int sd, .ref zke, .ref zva, .ref zle, .int ct, .int iv, .int dw, .ref zdr, .int ds]))] sz)) 0 0 (va_A [(zm, .inr (4, [.int flt, .ref zrt, .ref zfi, .ref zsu, .ref zwo, .ref zro, .int (nI 0), .ref zdi, .ref zpa, .ref zin, .int is_, .ref zow, .int os_, .int sd, .ref zke, .ref zva, .ref zle, .int ct, .int iv, .int dw, .ref zdr, .int ds]))] sz) := by
  refine Met.ofW (cc := cX4_count) (maxL := 2) (ret := (some .int)) (by decide) rfl ?_
  intro p e s m args below meth c s₁ B hml hv
  obtain ⟨rfl, hsz, hP, hK, hD0, hT⟩ := hv
  have hx := B.exec
  have hb := B.bytes
  have hr := B.returns
  have hts := atoms_spec (ws := wsX4_count) B.pre
  have hown : s.vm.findClass RX4 = some m.cls := findClass_of_methodNamed B.named
  have hlocks := B.notSynchronized
  subst hsz
  have hD := hD0.self (sz := s.heap.size)
  generalize hAe : va_A [(zm, .inr (4, [.int flt, .ref zrt, .ref zfi, .ref zsu, .ref zwo, .ref zro, .int (nI 0), .ref zdi, .ref zpa, .ref zin, .int is_, .ref zow, .int os_, .int sd, .ref zke, .ref zva, .ref zle, .int ct, .int iv, .int dw, .ref zdr, .int ds]))] s.heap.size = A at hD hT ⊢
  have hA : ∀ q : Nat, s.heap.size ≤ q → A q := fun q h => by rw [← hAe]; exact Or.inr h
  have hS : va_S A s.heap s.heap [] := va_S.rf
  have hl := lv_entry ([.ref zm, .int k]) (n := 2) (Nat.le_of_ble_eq_true rfl)
  rw [lg_entry_eq]
  generalize (lg_sl ([.ref zm, .int k]) ++ List.replicate (2 - (lg_sl ([.ref zm, .int k])).length) Slot.unset).toArray = ls at hl ⊢
  have hl : lv_has ls 2 [(0, .ref zm), (1, .int k)] := hl
  refine sm_name (fun Q hQ => ?_)
  have hf_154 := hts (.fieldLink RX4 154 "SeedMillModel" "inputSize" "I") (by decide +kernel)
  have hw_X4 : ∀ w ∈ wsX40, w ∈ wsX4_count := by decide +kernel
  have hf_172 := hts (.fieldLink RX4 172 "SeedMillModel" "drawnSize" "I") (by decide +kernel)
  have hf_178 := hts (.fieldLink RX4 178 "SeedMillModel" "ownSize" "I") (by decide +kernel)
  have hf_175 := hts (.fieldLink RX4 175 "SeedMillModel" "draws" "I") (by decide +kernel)
  have hf_118 := hts (.fieldLink RX4 118 "SeedMillModel" "interval" "I") (by decide +kernel)
  refine lv_iload_n hx hb dX4_count_0 rfl (lv_at hl 1 rfl) ?_
  by_cases hw0 : k = 0
  ·
    refine lv_tableIn (tgt := 36) (off := 35) hx hb dX4_count_1 (by rw [hw0]; decide) (by rw [hw0]; decide) (by rw [hw0]; rfl) (by decide) ?_
    refine lv_aload_n hx hb dX4_count_36 rfl (lv_at hl 0 rfl) ?_
    refine va_get (D := D) (ci := 4) (v := .int is_) (C := RX4) (T := TX4) (N := 22) hx hb hts hw_X4 hown hK hP 0 rfl rfl 10 (by decide) hf_154 (fun _ h9 => h9) rfl dX4_count_37 ?_
    rw [hQ]
    have hP9 : va_P D vwCl [(zm, .inr (4, [.int flt, .ref zrt, .ref zfi, .ref zsu, .ref zwo, .ref zro, .int (nI 0), .ref zdi, .ref zpa, .ref zin, .int is_, .ref zow, .int os_, .int sd, .ref zke, .ref zva, .ref zle, .int ct, .int iv, .int dw, .ref zdr, .int ds]))] s.heap := hP
    have hD9 : va_D A [(zm, .inr (4, [.int flt, .ref zrt, .ref zfi, .ref zsu, .ref zwo, .ref zro, .int (nI 0), .ref zdi, .ref zpa, .ref zin, .int is_, .ref zow, .int os_, .int sd, .ref zke, .ref zva, .ref zle, .int ct, .int iv, .int dw, .ref zdr, .int ds]))] := hD
    exact W.iret (v := is_) hx hb hr (fun t ht hW => ⟨⟨is_, (), rfl, (by unfold sm_ct; rw [if_pos hw0]), ⟨by rw [ht]; exact hP9, va_K.moved hW.alike hK, hD9⟩⟩, hS.F ht⟩) hS.2.2 dX4_count_40
  ·
    by_cases hw1 : k = 1
    ·
      refine lv_tableIn (tgt := 41) (off := 40) hx hb dX4_count_1 (by rw [hw1]; decide) (by rw [hw1]; decide) (by rw [hw1]; rfl) (by decide) ?_
      refine lv_aload_n hx hb dX4_count_41 rfl (lv_at hl 0 rfl) ?_
      refine va_get (D := D) (ci := 4) (v := .int ds) (C := RX4) (T := TX4) (N := 22) hx hb hts hw_X4 hown hK hP 0 rfl rfl 21 (by decide) hf_172 (fun _ h9 => h9) rfl dX4_count_42 ?_
      rw [hQ]
      have hP9 : va_P D vwCl [(zm, .inr (4, [.int flt, .ref zrt, .ref zfi, .ref zsu, .ref zwo, .ref zro, .int (nI 0), .ref zdi, .ref zpa, .ref zin, .int is_, .ref zow, .int os_, .int sd, .ref zke, .ref zva, .ref zle, .int ct, .int iv, .int dw, .ref zdr, .int ds]))] s.heap := hP
      have hD9 : va_D A [(zm, .inr (4, [.int flt, .ref zrt, .ref zfi, .ref zsu, .ref zwo, .ref zro, .int (nI 0), .ref zdi, .ref zpa, .ref zin, .int is_, .ref zow, .int os_, .int sd, .ref zke, .ref zva, .ref zle, .int ct, .int iv, .int dw, .ref zdr, .int ds]))] := hD
      exact W.iret (v := ds) hx hb hr (fun t ht hW => ⟨⟨ds, (), rfl, (by unfold sm_ct; rw [if_neg hw0, if_pos hw1]), ⟨by rw [ht]; exact hP9, va_K.moved hW.alike hK, hD9⟩⟩, hS.F ht⟩) hS.2.2 dX4_count_45
    ·
      by_cases hw2 : k = 2
      ·
        refine lv_tableIn (tgt := 46) (off := 45) hx hb dX4_count_1 (by rw [hw2]; decide) (by rw [hw2]; decide) (by rw [hw2]; rfl) (by decide) ?_
        refine lv_aload_n hx hb dX4_count_46 rfl (lv_at hl 0 rfl) ?_
        refine va_get (D := D) (ci := 4) (v := .int os_) (C := RX4) (T := TX4) (N := 22) hx hb hts hw_X4 hown hK hP 0 rfl rfl 12 (by decide) hf_178 (fun _ h9 => h9) rfl dX4_count_47 ?_
        rw [hQ]
        have hP9 : va_P D vwCl [(zm, .inr (4, [.int flt, .ref zrt, .ref zfi, .ref zsu, .ref zwo, .ref zro, .int (nI 0), .ref zdi, .ref zpa, .ref zin, .int is_, .ref zow, .int os_, .int sd, .ref zke, .ref zva, .ref zle, .int ct, .int iv, .int dw, .ref zdr, .int ds]))] s.heap := hP
        have hD9 : va_D A [(zm, .inr (4, [.int flt, .ref zrt, .ref zfi, .ref zsu, .ref zwo, .ref zro, .int (nI 0), .ref zdi, .ref zpa, .ref zin, .int is_, .ref zow, .int os_, .int sd, .ref zke, .ref zva, .ref zle, .int ct, .int iv, .int dw, .ref zdr, .int ds]))] := hD
        exact W.iret (v := os_) hx hb hr (fun t ht hW => ⟨⟨os_, (), rfl, (by unfold sm_ct; rw [if_neg hw0, if_neg hw1, if_pos hw2]), ⟨by rw [ht]; exact hP9, va_K.moved hW.alike hK, hD9⟩⟩, hS.F ht⟩) hS.2.2 dX4_count_50
      ·
        by_cases hw3 : k = 3
        ·
          refine lv_tableIn (tgt := 51) (off := 50) hx hb dX4_count_1 (by rw [hw3]; decide) (by rw [hw3]; decide) (by rw [hw3]; rfl) (by decide) ?_
          refine lv_aload_n hx hb dX4_count_51 rfl (lv_at hl 0 rfl) ?_
          refine va_get (D := D) (ci := 4) (v := .int dw) (C := RX4) (T := TX4) (N := 22) hx hb hts hw_X4 hown hK hP 0 rfl rfl 19 (by decide) hf_175 (fun _ h9 => h9) rfl dX4_count_52 ?_
          rw [hQ]
          have hP9 : va_P D vwCl [(zm, .inr (4, [.int flt, .ref zrt, .ref zfi, .ref zsu, .ref zwo, .ref zro, .int (nI 0), .ref zdi, .ref zpa, .ref zin, .int is_, .ref zow, .int os_, .int sd, .ref zke, .ref zva, .ref zle, .int ct, .int iv, .int dw, .ref zdr, .int ds]))] s.heap := hP
          have hD9 : va_D A [(zm, .inr (4, [.int flt, .ref zrt, .ref zfi, .ref zsu, .ref zwo, .ref zro, .int (nI 0), .ref zdi, .ref zpa, .ref zin, .int is_, .ref zow, .int os_, .int sd, .ref zke, .ref zva, .ref zle, .int ct, .int iv, .int dw, .ref zdr, .int ds]))] := hD
          exact W.iret (v := dw) hx hb hr (fun t ht hW => ⟨⟨dw, (), rfl, (by unfold sm_ct; rw [if_neg hw0, if_neg hw1, if_neg hw2, if_pos hw3]), ⟨by rw [ht]; exact hP9, va_K.moved hW.alike hK, hD9⟩⟩, hS.F ht⟩) hS.2.2 dX4_count_55
        ·
          by_cases hw4 : k = 4
          ·
            refine lv_tableIn (tgt := 56) (off := 55) hx hb dX4_count_1 (by rw [hw4]; decide) (by rw [hw4]; decide) (by rw [hw4]; rfl) (by decide) ?_
            refine lv_aload_n hx hb dX4_count_56 rfl (lv_at hl 0 rfl) ?_
            refine va_get (D := D) (ci := 4) (v := .int iv) (C := RX4) (T := TX4) (N := 22) hx hb hts hw_X4 hown hK hP 0 rfl rfl 18 (by decide) hf_118 (fun _ h9 => h9) rfl dX4_count_57 ?_
            rw [hQ]
            have hP9 : va_P D vwCl [(zm, .inr (4, [.int flt, .ref zrt, .ref zfi, .ref zsu, .ref zwo, .ref zro, .int (nI 0), .ref zdi, .ref zpa, .ref zin, .int is_, .ref zow, .int os_, .int sd, .ref zke, .ref zva, .ref zle, .int ct, .int iv, .int dw, .ref zdr, .int ds]))] s.heap := hP
            have hD9 : va_D A [(zm, .inr (4, [.int flt, .ref zrt, .ref zfi, .ref zsu, .ref zwo, .ref zro, .int (nI 0), .ref zdi, .ref zpa, .ref zin, .int is_, .ref zow, .int os_, .int sd, .ref zke, .ref zva, .ref zle, .int ct, .int iv, .int dw, .ref zdr, .int ds]))] := hD
            exact W.iret (v := iv) hx hb hr (fun t ht hW => ⟨⟨iv, (), rfl, (by unfold sm_ct; rw [if_neg hw0, if_neg hw1, if_neg hw2, if_neg hw3, if_pos hw4]), ⟨by rw [ht]; exact hP9, va_K.moved hW.alike hK, hD9⟩⟩, hS.F ht⟩) hS.2.2 dX4_count_60
          ·
            refine lv_tableOut (tgt := 61) hx hb dX4_count_1 (sm_ct5 hw0 hw1 hw2 hw3 hw4) (by decide) ?_
            refine lv_iconst (v := (-1)) hx hb dX4_count_61 (by decide) ?_
            rw [hQ]
            have hP9 : va_P D vwCl [(zm, .inr (4, [.int flt, .ref zrt, .ref zfi, .ref zsu, .ref zwo, .ref zro, .int (nI 0), .ref zdi, .ref zpa, .ref zin, .int is_, .ref zow, .int os_, .int sd, .ref zke, .ref zva, .ref zle, .int ct, .int iv, .int dw, .ref zdr, .int ds]))] s.heap := hP
            have hD9 : va_D A [(zm, .inr (4, [.int flt, .ref zrt, .ref zfi, .ref zsu, .ref zwo, .ref zro, .int (nI 0), .ref zdi, .ref zpa, .ref zin, .int is_, .ref zow, .int os_, .int sd, .ref zke, .ref zva, .ref zle, .int ct, .int iv, .int dw, .ref zdr, .int ds]))] := hD
            exact W.iret (v := (-1)) hx hb hr (fun t ht hW => ⟨⟨(-1), (), rfl, (by unfold sm_ct; rw [if_neg hw0, if_neg hw1, if_neg hw2, if_neg hw3, if_neg hw4]), ⟨by rw [ht]; exact hP9, va_K.moved hW.alike hK, hD9⟩⟩, hS.F ht⟩) hS.2.2 dX4_count_62

def rm_X4_check_ns : Room := ({ frames := 0, cells := 0, slots := 0, locals := 0 } : Room)
set_option maxHeartbeats 4000000 in
set_option maxRecDepth 100000 in
/-- check, not seeded -/
theorem sc_X4_check_ns (l : Launch) (D : va_G) (cI : ClassId) (th : Option (Nat × Nat)) (sz : Nat) (zm zrt zfi zsu zwo zro zdi zpa zin zow zke zva zle zdr : Nat) (flt is_ os_ sd ct iv dw ds : Int32) (gv gl : Nat → Int32)  : Met l yX4_check wsX4_check rm_X4_check_ns (va_Pc [.ref zm] (sm_PW D cI th [(zm, .inr (4, [.int flt, .ref zrt, .ref zfi, .ref zsu, .ref zwo, .ref zro, .int (nI 0), .ref zdi, .ref zpa, .ref zin, .int is_, .ref zow, .int os_, .int 0, .ref zke, .ref zva, .ref zle, .int ct, .int iv, .int dw, .ref zdr, .int ds])), (zva, .inl (cI, 32, .inl gv)), (zle, .inl (cI, 32, .inl gl))] sz)) (va_Qi (fun (r : Int32) (_ : Unit) => r = 1) (fun _ t => sm_QW D cI (va_A [(zm, .inr (4, [.int flt, .ref zrt, .ref zfi, .ref zsu, .ref zwo, .ref zro, .int (nI 0), .ref zdi, .ref zpa, .ref zin, .int is_, .ref zow, .int os_, .int 0, .ref zke, .ref zva, .ref zle, .int ct, .int iv, .int dw, .ref zdr, .int ds])), (zva, .inl (cI, 32, .inl gv)), (zle, .inl (cI, 32, .inl gl))] sz) [(zm, .inr (4, [.int flt, .ref zrt, .ref zfi, .ref zsu, .ref zwo, .ref zro, .int (nI 0), .ref zdi, .ref zpa, .ref zin, .int is_, .ref zow, .int os_, .int 0, .ref zke, .ref zva, .ref zle, .int ct, .int iv, .int dw, .ref zdr, .int ds])), (zva, .inl (cI, 32, .inl gv)), (zle, .inl (cI, 32, .inl gl))] t) (va_A [(zm, .inr (4, [.int flt, .ref zrt, .ref zfi, .ref zsu, .ref zwo, .ref zro, .int (nI 0), .ref zdi, .ref zpa, .ref zin, .int is_, .ref zow, .int os_, .int 0, .ref zke, .ref zva, .ref zle, .int ct, .int iv, .int dw, .ref zdr, .int ds])), (zva, .inl (cI, 32, .inl gv)), (zle, .inl (cI, 32, .inl gl))] sz)) 0 0 (va_A [(zm, .inr (4, [.int flt, .ref zrt, .ref zfi, .ref zsu, .ref zwo, .ref zro, .int (nI 0), .ref zdi, .ref zpa, .ref zin, .int is_, .ref zow, .int os_, .int 0, .ref zke, .ref zva, .ref zle, .int ct, .int iv, .int dw, .ref zdr, .int ds])), (zva, .inl (cI, 32, .inl gv)), (zle, .inl (cI, 32, .inl gl))] sz) := by
  refine Met.ofW (cc := cX4_check) (maxL := 3) (ret := (some .int)) (by decide) rfl ?_
  intro p e s m args below meth c s₁ B hml hv
  obtain ⟨rfl, hsz, hP, hK, hD0, hT⟩ := hv
  have hx := B.exec
  have hb := B.bytes
  have hr := B.returns
  have hts := atoms_spec (ws := wsX4_check) B.pre
  have hown : s.vm.findClass RX4 = some m.cls := findClass_of_methodNamed B.named
  have hlocks := B.notSynchronized
  subst hsz
  have hD := hD0.self (sz := s.heap.size)
  generalize hAe : va_A [(zm, .inr (4, [.int flt, .ref zrt, .ref zfi, .ref zsu, .ref zwo, .ref zro, .int (nI 0), .ref zdi, .ref zpa, .ref zin, .int is_, .ref zow, .int os_, .int 0, .ref zke, .ref zva, .ref zle, .int ct, .int iv, .int dw, .ref zdr, .int ds])), (zva, .inl (cI, 32, .inl gv)), (zle, .inl (cI, 32, .inl gl))] s.heap.size = A at hD hT ⊢
  have hA : ∀ q : Nat, s.heap.size ≤ q → A q := fun q h => by rw [← hAe]; exact Or.inr h
  have hS : va_S A s.heap s.heap [] := va_S.rf
  have hl := lv_entry ([.ref zm]) (n := 3) (Nat.le_of_ble_eq_true rfl)
  rw [lg_entry_eq]
  generalize (lg_sl ([.ref zm]) ++ List.replicate (3 - (lg_sl ([.ref zm])).length) Slot.unset).toArray = ls at hl ⊢
  have hl : lv_has ls 3 [(0, .ref zm)] := hl
  refine sm_name (fun Q hQ => ?_)
  have hf_112 := hts (.fieldLink RX4 112 "SeedMillModel" "value" "[I") (by decide +kernel)
  have hw_X4 : ∀ w ∈ wsX40, w ∈ wsX4_check := by decide +kernel
  have hf_115 := hts (.fieldLink RX4 115 "SeedMillModel" "left" "[I") (by decide +kernel)
  have hf_165 := hts (.fieldLink RX4 165 "SeedMillModel" "isSeeded" "Z") (by decide +kernel)
  refine lv_iconst (v := 1) hx hb dX4_check_0 (by decide) ?_
  refine lv_istore_n (lv' := [(1, .int 1), (0, .ref zm)]) hx hb dX4_check_1 rfl hl (by decide) rfl (fun ls hl => ?_)
  refine lv_iconst (v := 0) hx hb dX4_check_2 (by decide) ?_
  refine lv_istore_n (lv' := [(2, .int 0), (1, .int 1), (0, .ref zm)]) hx hb dX4_check_3 rfl hl (by decide) rfl (fun ls hl => ?_)
  have lp4 : ∀ (zn : Nat) (i : Nat) (b_ : Int32) (H : Heap) (locs : List Loc) (ls : Array Slot), 32 - i < zn → i ≤ 32 → va_P D vwCl [(zm, .inr (4, [.int flt, .ref zrt, .ref zfi, .ref zsu, .ref zwo, .ref zro, .int (nI 0), .ref zdi, .ref zpa, .ref zin, .int is_, .ref zow, .int os_, .int 0, .ref zke, .ref zva, .ref zle, .int ct, .int iv, .int dw, .ref zdr, .int ds])), (zva, .inl (cI, 32, .inl gv)), (zle, .inl (cI, 32, .inl gl))] H → va_D A [(zm, .inr (4, [.int flt, .ref zrt, .ref zfi, .ref zsu, .ref zwo, .ref zro, .int (nI 0), .ref zdi, .ref zpa, .ref zin, .int is_, .ref zow, .int os_, .int 0, .ref zke, .ref zva, .ref zle, .int ct, .int iv, .int dw, .ref zdr, .int ds])), (zva, .inl (cI, 32, .inl gv)), (zle, .inl (cI, 32, .inl gl))] → va_S A s.heap H locs → lv_has ls 3 [(2, .int (nI i)), (1, .int b_), (0, .ref zm)] → W p l e (headSpec wsX4_check rm_X4_check_ns).room s m ([.ref zm] : List Value).toArray below meth c H locs 0 0 Q (F0 m 4 ls []) := by
    intro zn
    induction zn with
    | zero => intro i b_ H locs ls hmu; exact absurd hmu (Nat.not_lt_zero _)
    | succ zn ih =>
      intro i b_ H locs ls hmu hi1 hP hD hS hl
      refine lv_iload_n hx hb dX4_check_4 rfl (lv_at hl 0 rfl) ?_
      refine lv_bipush (v := 32) hx hb dX4_check_5 (by decide) ?_
      refine lv_icmp_ge (tgt := 41) hx hb dX4_check_7 (by decide) (fun c_7 => ?_) (fun c_7 => ?_)
      ·
        have hex : i = 32 := by
          rcases Nat.lt_or_ge i (32) with q | q
          · exact absurd c_7 (nI_ge q (by decide))
          · omega
        refine lv_iload_n hx hb dX4_check_41 rfl (lv_at hl 1 rfl) ?_
        refine lv_if_ne (tgt := 52) hx hb dX4_check_42 (by decide) (fun c_42 => ?_) (fun c_42 => ?_)
        ·
          refine lv_iconst (v := 1) hx hb dX4_check_52 (by decide) ?_
          refine lv_goto (tgt := 57) hx hb dX4_check_53 (by decide) ?_
          rw [hQ]
          have hP9 : va_P D vwCl [(zm, .inr (4, [.int flt, .ref zrt, .ref zfi, .ref zsu, .ref zwo, .ref zro, .int (nI 0), .ref zdi, .ref zpa, .ref zin, .int is_, .ref zow, .int os_, .int 0, .ref zke, .ref zva, .ref zle, .int ct, .int iv, .int dw, .ref zdr, .int ds])), (zva, .inl (cI, 32, .inl gv)), (zle, .inl (cI, 32, .inl gl))] H := hP
          have hD9 : va_D A [(zm, .inr (4, [.int flt, .ref zrt, .ref zfi, .ref zsu, .ref zwo, .ref zro, .int (nI 0), .ref zdi, .ref zpa, .ref zin, .int is_, .ref zow, .int os_, .int 0, .ref zke, .ref zva, .ref zle, .int ct, .int iv, .int dw, .ref zdr, .int ds])), (zva, .inl (cI, 32, .inl gv)), (zle, .inl (cI, 32, .inl gl))] := hD
          exact W.iret (v := 1) hx hb hr (fun t ht hW => ⟨⟨1, (), rfl, rfl, ⟨by rw [ht]; exact hP9, va_K.moved hW.alike hK, hD9⟩⟩, hS.F ht⟩) hS.2.2 dX4_check_57
        ·
          refine lv_aload_n hx hb dX4_check_45 rfl (lv_at hl 2 rfl) ?_
          refine va_get (D := D) (ci := 4) (v := .int 0) (C := RX4) (T := TX4) (N := 22) hx hb hts hw_X4 hown hK hP 0 rfl rfl 13 (by decide) hf_165 (fun _ h9 => h9) rfl dX4_check_46 ?_
          refine lv_if_ne (tgt := 56) hx hb dX4_check_49 (by decide) (fun c_49 => ?_) (fun c_49 => ?_)
          ·
            exact absurd c_49 (by decide)
          ·
            refine lv_iconst (v := 1) hx hb dX4_check_52 (by decide) ?_
            refine lv_goto (tgt := 57) hx hb dX4_check_53 (by decide) ?_
            rw [hQ]
            have hP9 : va_P D vwCl [(zm, .inr (4, [.int flt, .ref zrt, .ref zfi, .ref zsu, .ref zwo, .ref zro, .int (nI 0), .ref zdi, .ref zpa, .ref zin, .int is_, .ref zow, .int os_, .int 0, .ref zke, .ref zva, .ref zle, .int ct, .int iv, .int dw, .ref zdr, .int ds])), (zva, .inl (cI, 32, .inl gv)), (zle, .inl (cI, 32, .inl gl))] H := hP
            have hD9 : va_D A [(zm, .inr (4, [.int flt, .ref zrt, .ref zfi, .ref zsu, .ref zwo, .ref zro, .int (nI 0), .ref zdi, .ref zpa, .ref zin, .int is_, .ref zow, .int os_, .int 0, .ref zke, .ref zva, .ref zle, .int ct, .int iv, .int dw, .ref zdr, .int ds])), (zva, .inl (cI, 32, .inl gv)), (zle, .inl (cI, 32, .inl gl))] := hD
            exact W.iret (v := 1) hx hb hr (fun t ht hW => ⟨⟨1, (), rfl, rfl, ⟨by rw [ht]; exact hP9, va_K.moved hW.alike hK, hD9⟩⟩, hS.F ht⟩) hS.2.2 dX4_check_57
      ·
        have hlt : i < 32 := by
          rcases Nat.lt_or_ge i (32) with q | q
          · exact q
          · exact absurd (nI_le q (by omega)) c_7
        refine lv_iload_n hx hb dX4_check_10 rfl (lv_at hl 1 rfl) ?_
        refine lv_if_eq (tgt := 33) hx hb dX4_check_11 (by decide) (fun c_11 => ?_) (fun c_11 => ?_)
        ·
          refine lv_iconst (v := 0) hx hb dX4_check_33 (by decide) ?_
          refine lv_istore_n (lv' := [(1, .int 0), (2, .int (nI i)), (0, .ref zm)]) hx hb dX4_check_34 rfl hl (by decide) rfl (fun ls hl => ?_)
          refine lv_iinc (v := nI (i + 1)) (lv' := [(2, .int (nI (i + 1))), (1, .int 0), (0, .ref zm)]) hx hb dX4_check_35 hl (k := 1) rfl (nI_1 i) (by decide) rfl (fun ls hl => ?_)
          refine lv_goto (tgt := 4) hx hb dX4_check_38 (by decide) ?_
          exact ih (i + 1) _ _ _ _ (by omega) (by omega) hP hD hS (lv_sub hl [0, 1, 2] rfl)
        ·
          refine lv_aload_n hx hb dX4_check_14 rfl (lv_at hl 2 rfl) ?_
          refine va_get (D := D) (ci := 4) (v := .ref zva) (C := RX4) (T := TX4) (N := 22) hx hb hts hw_X4 hown hK hP 0 rfl rfl 15 (by decide) hf_112 (fun _ h9 => h9) rfl dX4_check_15 ?_
          refine lv_iload_n hx hb dX4_check_18 rfl (lv_at hl 0 rfl) ?_
          refine va_iald (i := nI i) hx hb hK hP 1 0 rfl rfl (vp_in_nI (n := i) (by omega) (by omega)) dX4_check_19 ?_
          refine sm_top (z := gv i) (congrArg gv (nI_clamp (n := i) (by omega))) ?_
          refine lv_aload_n hx hb dX4_check_20 rfl (lv_at hl 2 rfl) ?_
          refine va_get (D := D) (ci := 4) (v := .ref zle) (C := RX4) (T := TX4) (N := 22) hx hb hts hw_X4 hown hK hP 0 rfl rfl 16 (by decide) hf_115 (fun _ h9 => h9) rfl dX4_check_21 ?_
          refine lv_iload_n hx hb dX4_check_24 rfl (lv_at hl 0 rfl) ?_
          refine va_iald (i := nI i) hx hb hK hP 2 0 rfl rfl (vp_in_nI (n := i) (by omega) (by omega)) dX4_check_25 ?_
          refine sm_top (z := gl i) (congrArg gl (nI_clamp (n := i) (by omega))) ?_
          refine lv_icmp_ne (tgt := 33) hx hb dX4_check_26 (by decide) (fun c_26 => ?_) (fun c_26 => ?_)
          ·
            refine lv_iconst (v := 0) hx hb dX4_check_33 (by decide) ?_
            refine lv_istore_n (lv' := [(1, .int 0), (2, .int (nI i)), (0, .ref zm)]) hx hb dX4_check_34 rfl hl (by decide) rfl (fun ls hl => ?_)
            refine lv_iinc (v := nI (i + 1)) (lv' := [(2, .int (nI (i + 1))), (1, .int 0), (0, .ref zm)]) hx hb dX4_check_35 hl (k := 1) rfl (nI_1 i) (by decide) rfl (fun ls hl => ?_)
            refine lv_goto (tgt := 4) hx hb dX4_check_38 (by decide) ?_
            exact ih (i + 1) _ _ _ _ (by omega) (by omega) hP hD hS (lv_sub hl [0, 1, 2] rfl)
          ·
            refine lv_iconst (v := 1) hx hb dX4_check_29 (by decide) ?_
            refine lv_goto (tgt := 34) hx hb dX4_check_30 (by decide) ?_
            refine lv_istore_n (lv' := [(1, .int 1), (2, .int (nI i)), (0, .ref zm)]) hx hb dX4_check_34 rfl hl (by decide) rfl (fun ls hl => ?_)
            refine lv_iinc (v := nI (i + 1)) (lv' := [(2, .int (nI (i + 1))), (1, .int 1), (0, .ref zm)]) hx hb dX4_check_35 hl (k := 1) rfl (nI_1 i) (by decide) rfl (fun ls hl => ?_)
            refine lv_goto (tgt := 4) hx hb dX4_check_38 (by decide) ?_
            exact ih (i + 1) _ _ _ _ (by omega) (by omega) hP hD hS (lv_sub hl [0, 1, 2] rfl)
  exact lp4 _ 0 1 _ _ _ (Nat.lt_succ_self _) (Nat.zero_le _) hP hD hS (lv_sub hl [0, 1, 2] rfl)

def rm_X4_check_ok : Room := ({ frames := 0, cells := 0, slots := 0, locals := 0 } : Room)
set_option maxHeartbeats 4000000 in
set_option maxRecDepth 100000 in
/-- check -/
theorem sc_X4_check_ok (l : Launch) (D : va_G) (cI : ClassId) (th : Option (Nat × Nat)) (sz : Nat) (zm zrt zfi zsu zwo zro zdi zpa zin zow zke zva zle zdr : Nat) (flt is_ os_ sd ct iv dw ds : Int32) (gv : Nat → Int32)  : Met l yX4_check wsX4_check rm_X4_check_ok (va_Pc [.ref zm] (sm_PW D cI th [(zm, .inr (4, [.int flt, .ref zrt, .ref zfi, .ref zsu, .ref zwo, .ref zro, .int (nI 0), .ref zdi, .ref zpa, .ref zin, .int is_, .ref zow, .int os_, .int 1, .ref zke, .ref zva, .ref zle, .int ct, .int iv, .int dw, .ref zdr, .int ds])), (zva, .inl (cI, 32, .inl gv)), (zle, .inl (cI, 32, .inl gv))] sz)) (va_Qi (fun (r : Int32) (_ : Unit) => r = 1) (fun _ t => sm_QW D cI (va_A [(zm, .inr (4, [.int flt, .ref zrt, .ref zfi, .ref zsu, .ref zwo, .ref zro, .int (nI 0), .ref zdi, .ref zpa, .ref zin, .int is_, .ref zow, .int os_, .int 1, .ref zke, .ref zva, .ref zle, .int ct, .int iv, .int dw, .ref zdr, .int ds])), (zva, .inl (cI, 32, .inl gv)), (zle, .inl (cI, 32, .inl gv))] sz) [(zm, .inr (4, [.int flt, .ref zrt, .ref zfi, .ref zsu, .ref zwo, .ref zro, .int (nI 0), .ref zdi, .ref zpa, .ref zin, .int is_, .ref zow, .int os_, .int 1, .ref zke, .ref zva, .ref zle, .int ct, .int iv, .int dw, .ref zdr, .int ds])), (zva, .inl (cI, 32, .inl gv)), (zle, .inl (cI, 32, .inl gv))] t) (va_A [(zm, .inr (4, [.int flt, .ref zrt, .ref zfi, .ref zsu, .ref zwo, .ref zro, .int (nI 0), .ref zdi, .ref zpa, .ref zin, .int is_, .ref zow, .int os_, .int 1, .ref zke, .ref zva, .ref zle, .int ct, .int iv, .int dw, .ref zdr, .int ds])), (zva, .inl (cI, 32, .inl gv)), (zle, .inl (cI, 32, .inl gv))] sz)) 0 0 (va_A [(zm, .inr (4, [.int flt, .ref zrt, .ref zfi, .ref zsu, .ref zwo, .ref zro, .int (nI 0), .ref zdi, .ref zpa, .ref zin, .int is_, .ref zow, .int os_, .int 1, .ref zke, .ref zva, .ref zle, .int ct, .int iv, .int dw, .ref zdr, .int ds])), (zva, .inl (cI, 32, .inl gv)), (zle, .inl (cI, 32, .inl gv))] sz) := by
  refine Met.ofW (cc := cX4_check) (maxL := 3) (ret := (some .int)) (by decide) rfl ?_
  intro p e s m args below meth c s₁ B hml hv
  obtain ⟨rfl, hsz, hP, hK, hD0, hT⟩ := hv
  have hx := B.exec
  have hb := B.bytes
  have hr := B.returns
  have hts := atoms_spec (ws := wsX4_check) B.pre
  have hown : s.vm.findClass RX4 = some m.cls := findClass_of_methodNamed B.named
  have hlocks := B.notSynchronized
  subst hsz
  have hD := hD0.self (sz := s.heap.size)
  generalize hAe : va_A [(zm, .inr (4, [.int flt, .ref zrt, .ref zfi, .ref zsu, .ref zwo, .ref zro, .int (nI 0), .ref zdi, .ref zpa, .ref zin, .int is_, .ref zow, .int os_, .int 1, .ref zke, .ref zva, .ref zle, .int ct, .int iv, .int dw, .ref zdr, .int ds])), (zva, .inl (cI, 32, .inl gv)), (zle, .inl (cI, 32, .inl gv))] s.heap.size = A at hD hT ⊢
  have hA : ∀ q : Nat, s.heap.size ≤ q → A q := fun q h => by rw [← hAe]; exact Or.inr h
  have hS : va_S A s.heap s.heap [] := va_S.rf
  have hl := lv_entry ([.ref zm]) (n := 3) (Nat.le_of_ble_eq_true rfl)
  rw [lg_entry_eq]
  generalize (lg_sl ([.ref zm]) ++ List.replicate (3 - (lg_sl ([.ref zm])).length) Slot.unset).toArray = ls at hl ⊢
  have hl : lv_has ls 3 [(0, .ref zm)] := hl
  refine sm_name (fun Q hQ => ?_)
  have hf_112 := hts (.fieldLink RX4 112 "SeedMillModel" "value" "[I") (by decide +kernel)
  have hw_X4 : ∀ w ∈ wsX40, w ∈ wsX4_check := by decide +kernel
  have hf_115 := hts (.fieldLink RX4 115 "SeedMillModel" "left" "[I") (by decide +kernel)
  have hf_165 := hts (.fieldLink RX4 165 "SeedMillModel" "isSeeded" "Z") (by decide +kernel)
  refine lv_iconst (v := 1) hx hb dX4_check_0 (by decide) ?_
  refine lv_istore_n (lv' := [(1, .int 1), (0, .ref zm)]) hx hb dX4_check_1 rfl hl (by decide) rfl (fun ls hl => ?_)
  refine lv_iconst (v := 0) hx hb dX4_check_2 (by decide) ?_
  refine lv_istore_n (lv' := [(2, .int 0), (1, .int 1), (0, .ref zm)]) hx hb dX4_check_3 rfl hl (by decide) rfl (fun ls hl => ?_)
  have lp4 : ∀ (zn : Nat) (i : Nat) (H : Heap) (locs : List Loc) (ls : Array Slot), 32 - i < zn → i ≤ 32 → va_P D vwCl [(zm, .inr (4, [.int flt, .ref zrt, .ref zfi, .ref zsu, .ref zwo, .ref zro, .int (nI 0), .ref zdi, .ref zpa, .ref zin, .int is_, .ref zow, .int os_, .int 1, .ref zke, .ref zva, .ref zle, .int ct, .int iv, .int dw, .ref zdr, .int ds])), (zva, .inl (cI, 32, .inl gv)), (zle, .inl (cI, 32, .inl gv))] H → va_D A [(zm, .inr (4, [.int flt, .ref zrt, .ref zfi, .ref zsu, .ref zwo, .ref zro, .int (nI 0), .ref zdi, .ref zpa, .ref zin, .int is_, .ref zow, .int os_, .int 1, .ref zke, .ref zva, .ref zle, .int ct, .int iv, .int dw, .ref zdr, .int ds])), (zva, .inl (cI, 32, .inl gv)), (zle, .inl (cI, 32, .inl gv))] → va_S A s.heap H locs → lv_has ls 3 [(2, .int (nI i)), (1, .int 1), (0, .ref zm)] → W p l e (headSpec wsX4_check rm_X4_check_ok).room s m ([.ref zm] : List Value).toArray below meth c H locs 0 0 Q (F0 m 4 ls []) := by
    intro zn
    induction zn with
    | zero => intro i H locs ls hmu; exact absurd hmu (Nat.not_lt_zero _)
    | succ zn ih =>
      intro i H locs ls hmu hi1 hP hD hS hl
      refine lv_iload_n hx hb dX4_check_4 rfl (lv_at hl 0 rfl) ?_
      refine lv_bipush (v := 32) hx hb dX4_check_5 (by decide) ?_
      refine lv_icmp_ge (tgt := 41) hx hb dX4_check_7 (by decide) (fun c_7 => ?_) (fun c_7 => ?_)
      ·
        have hex : i = 32 := by
          rcases Nat.lt_or_ge i (32) with q | q
          · exact absurd c_7 (nI_ge q (by decide))
          · omega
        refine lv_iload_n hx hb dX4_check_41 rfl (lv_at hl 1 rfl) ?_
        refine lv_if_ne (tgt := 52) hx hb dX4_check_42 (by decide) (fun c_42 => ?_) (fun c_42 => ?_)
        ·
          refine lv_iconst (v := 1) hx hb dX4_check_52 (by decide) ?_
          refine lv_goto (tgt := 57) hx hb dX4_check_53 (by decide) ?_
          rw [hQ]
          have hP9 : va_P D vwCl [(zm, .inr (4, [.int flt, .ref zrt, .ref zfi, .ref zsu, .ref zwo, .ref zro, .int (nI 0), .ref zdi, .ref zpa, .ref zin, .int is_, .ref zow, .int os_, .int 1, .ref zke, .ref zva, .ref zle, .int ct, .int iv, .int dw, .ref zdr, .int ds])), (zva, .inl (cI, 32, .inl gv)), (zle, .inl (cI, 32, .inl gv))] H := hP
          have hD9 : va_D A [(zm, .inr (4, [.int flt, .ref zrt, .ref zfi, .ref zsu, .ref zwo, .ref zro, .int (nI 0), .ref zdi, .ref zpa, .ref zin, .int is_, .ref zow, .int os_, .int 1, .ref zke, .ref zva, .ref zle, .int ct, .int iv, .int dw, .ref zdr, .int ds])), (zva, .inl (cI, 32, .inl gv)), (zle, .inl (cI, 32, .inl gv))] := hD
          exact W.iret (v := 1) hx hb hr (fun t ht hW => ⟨⟨1, (), rfl, rfl, ⟨by rw [ht]; exact hP9, va_K.moved hW.alike hK, hD9⟩⟩, hS.F ht⟩) hS.2.2 dX4_check_57
        ·
          exact absurd c_42 (by decide)
      ·
        have hlt : i < 32 := by
          rcases Nat.lt_or_ge i (32) with q | q
          · exact q
          · exact absurd (nI_le q (by omega)) c_7
        refine lv_iload_n hx hb dX4_check_10 rfl (lv_at hl 1 rfl) ?_
        refine lv_if_eq (tgt := 33) hx hb dX4_check_11 (by decide) (fun c_11 => ?_) (fun c_11 => ?_)
        ·
          exact absurd c_11 (by decide)
        ·
          refine lv_aload_n hx hb dX4_check_14 rfl (lv_at hl 2 rfl) ?_
          refine va_get (D := D) (ci := 4) (v := .ref zva) (C := RX4) (T := TX4) (N := 22) hx hb hts hw_X4 hown hK hP 0 rfl rfl 15 (by decide) hf_112 (fun _ h9 => h9) rfl dX4_check_15 ?_
          refine lv_iload_n hx hb dX4_check_18 rfl (lv_at hl 0 rfl) ?_
          refine va_iald (i := nI i) hx hb hK hP 1 0 rfl rfl (vp_in_nI (n := i) (by omega) (by omega)) dX4_check_19 ?_
          refine sm_top (z := gv i) (congrArg gv (nI_clamp (n := i) (by omega))) ?_
          refine lv_aload_n hx hb dX4_check_20 rfl (lv_at hl 2 rfl) ?_
          refine va_get (D := D) (ci := 4) (v := .ref zle) (C := RX4) (T := TX4) (N := 22) hx hb hts hw_X4 hown hK hP 0 rfl rfl 16 (by decide) hf_115 (fun _ h9 => h9) rfl dX4_check_21 ?_
          refine lv_iload_n hx hb dX4_check_24 rfl (lv_at hl 0 rfl) ?_
          refine va_iald (i := nI i) hx hb hK hP 2 0 rfl rfl (vp_in_nI (n := i) (by omega) (by omega)) dX4_check_25 ?_
          refine sm_top (z := gv i) (congrArg gv (nI_clamp (n := i) (by omega))) ?_
          refine lv_icmp_ne (tgt := 33) hx hb dX4_check_26 (by decide) (fun c_26 => ?_) (fun c_26 => ?_)
          ·
            exact absurd c_26 (fun h9 => h9 rfl)
          ·
            refine lv_iconst (v := 1) hx hb dX4_check_29 (by decide) ?_
            refine lv_goto (tgt := 34) hx hb dX4_check_30 (by decide) ?_
            refine lv_istore_n (lv' := [(1, .int 1), (2, .int (nI i)), (0, .ref zm)]) hx hb dX4_check_34 rfl hl (by decide) rfl (fun ls hl => ?_)
            refine lv_iinc (v := nI (i + 1)) (lv' := [(2, .int (nI (i + 1))), (1, .int 1), (0, .ref zm)]) hx hb dX4_check_35 hl (k := 1) rfl (nI_1 i) (by decide) rfl (fun ls hl => ?_)
            refine lv_goto (tgt := 4) hx hb dX4_check_38 (by decide) ?_
            exact ih (i + 1) _ _ _ (by omega) (by omega) hP hD hS (lv_sub hl [0, 1, 2] rfl)
  exact lp4 _ 0 _ _ _ (Nat.lt_succ_self _) (Nat.zero_le _) hP hD hS (lv_sub hl [0, 1, 2] rfl)
