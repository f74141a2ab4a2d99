def rm_X3_draw_ns : Room := ({ frames := 7, cells := 0, slots := 0, locals := 161 } : Room)
set_option maxHeartbeats 4000000 in
set_option maxRecDepth 100000 in
/-- draw, not seeded -/
theorem sc_X3_draw_ns (l : Launch) (D : va_G) (cI : ClassId) (th : Option (Nat × Nat)) (sz : Nat) (qs qi bi qo bo qd bd qk bk qv bv qf bf qa ba gh gm gb gw gd hk hh hm bm aw ad hB bB hI bI : Nat) (ivl drw : Int32) (kc : Nat) (k : Int32) (hkc : kc = 0) : Met l yX3_draw wsX3_draw rm_X3_draw_ns (va_Pc [.ref qs, .int k] (sm_PW D cI th [(qs, .inr (3, [.ref qi, .ref qo, .ref qd, .ref qk, .ref qv, .ref qf, .ref qa, .ref gh, .ref hk, .int (nI kc), .int ivl, .int drw]))] sz)) (va_Qi (fun (r : Int32) (_ : Unit) => r = 1) (fun _ t => sm_QW D cI (va_A [(qs, .inr (3, [.ref qi, .ref qo, .ref qd, .ref qk, .ref qv, .ref qf, .ref qa, .ref gh, .ref hk, .int (nI kc), .int ivl, .int drw]))] sz) [(qs, .inr (3, [.ref qi, .ref qo, .ref qd, .ref qk, .ref qv, .ref qf, .ref qa, .ref gh, .ref hk, .int (nI kc), .int ivl, .int drw]))] t) (va_A [(qs, .inr (3, [.ref qi, .ref qo, .ref qd, .ref qk, .ref qv, .ref qf, .ref qa, .ref gh, .ref hk, .int (nI kc), .int ivl, .int drw]))] sz)) 0 0 (va_A [(qs, .inr (3, [.ref qi, .ref qo, .ref qd, .ref qk, .ref qv, .ref qf, .ref qa, .ref gh, .ref hk, .int (nI kc), .int ivl, .int drw]))] sz) := by
  refine Met.ofW (cc := cX3_draw) (maxL := 2) (ret := (some .int)) (by decide) rfl ?_
  intro p e s m args below meth c s₁ B hml hv
  obtain ⟨rfl, hsz, hP, hK, hD0, hT⟩ := hv
  have hx := B.exec
  have hb := B.bytes
  have hr := B.returns
  have hts := atoms_spec (ws := wsX3_draw) B.pre
  have hown : s.vm.findClass RX3 = some m.cls := findClass_of_methodNamed B.named
  have hlocks := B.notSynchronized
  subst hsz
  have hD := hD0.self (sz := s.heap.size)
  generalize hAe : va_A [(qs, .inr (3, [.ref qi, .ref qo, .ref qd, .ref qk, .ref qv, .ref qf, .ref qa, .ref gh, .ref hk, .int (nI kc), .int ivl, .int drw]))] s.heap.size = A at hD hT ⊢
  have hA : ∀ q : Nat, s.heap.size ≤ q → A q := fun q h => by rw [← hAe]; exact Or.inr h
  have hS : va_S A s.heap s.heap [] := va_S.rf
  have hl := lv_entry ([.ref qs, .int k]) (n := 2) (Nat.le_of_ble_eq_true rfl)
  rw [lg_entry_eq]
  generalize (lg_sl ([.ref qs, .int k]) ++ List.replicate (2 - (lg_sl ([.ref qs, .int k])).length) Slot.unset).toArray = ls at hl ⊢
  have hl : lv_has ls 2 [(0, .ref qs), (1, .int k)] := hl
  refine sm_name (fun Q hQ => ?_)
  have hf_50 := hts (.fieldLink RX3 50 "SeedMill" "drawCounter" "I") (by decide +kernel)
  have hw_X3 : ∀ w ∈ wsX30, w ∈ wsX3_draw := by decide +kernel
  have hf_54 := hts (.fieldLink RX3 54 "SeedMill" "drawInterval" "I") (by decide +kernel)
  have hf_14 := hts (.fieldLink RX3 14 "SeedMill" "input" "LSeedMill$Row;") (by decide +kernel)
  have hf_57 := hts (.fieldLink RX3 57 "SeedMill" "drawsInAll" "I") (by decide +kernel)
  refine lv_aload_n hx hb dX3_draw_0 rfl (lv_at hl 0 rfl) ?_
  refine sm_callVi (wc := [(qs, .inr (3, [.ref qi, .ref qo, .ref qd, .ref qk, .ref qv, .ref qf, .ref qa, .ref gh, .ref hk, .int (nI kc), .int ivl, .int drw]))]) (wr := []) (As := []) (rest := []) ⟨hx, hb, hml, hown, hts⟩ (sc_X3_isSeeded l D cI th _ qs qi bi qo bo qd bd qk bk qv bv qf bf qa ba gh gm gb gw gd hk hh hm bm aw ad hB bB hI bI (nI kc) ivl drw ) (cwV 0 hts gX3_draw_X3_isSeeded rfl rfl rfl (by decide +kernel) ⟨Nat.le_of_ble_eq_true rfl, Nat.le_of_ble_eq_true rfl⟩) hP hD hS hA hK hT [0] [] rfl rfl rfl rfl (by decide) 0 3 rfl rfl rfl rfl hl.1 rfl (Nat.le_of_ble_eq_true rfl) dX3_draw_1 ⟨Nat.zero_le _, Nat.zero_le _⟩ (fun r_1 zt H1 locs ht hvm hw hB hJ hS => ?_)
  obtain ⟨hP1, -, hD1⟩ := hB
  rw [ht] at hP1
  obtain ⟨hP, hD⟩ := hJ _ hP1 hD1
  clear hJ
  generalize H1 = H at hP hS ⊢
  have hP : va_P D vwCl [(qs, .inr (3, [.ref qi, .ref qo, .ref qd, .ref qk, .ref qv, .ref qf, .ref qa, .ref gh, .ref hk, .int (nI kc), .int ivl, .int drw]))] H := hP.sub [0] rfl
  have hD : va_D A [(qs, .inr (3, [.ref qi, .ref qo, .ref qd, .ref qk, .ref qv, .ref qf, .ref qa, .ref gh, .ref hk, .int (nI kc), .int ivl, .int drw]))] := hD.sub [0] rfl rfl
  rw [hw]
  refine sm_top (z := 0) (if_neg (by rw [hkc]; decide)) ?_
  refine lv_if_ne (tgt := 9) hx hb dX3_draw_4 (by decide) (fun c_4 => ?_) (fun c_4 => ?_)
  ·
    exact absurd rfl c_4
  ·
    refine lv_iconst (v := 1) hx hb dX3_draw_7 (by decide) ?_
    rw [hQ]
    have hP9 : va_P D vwCl [(qs, .inr (3, [.ref qi, .ref qo, .ref qd, .ref qk, .ref qv, .ref qf, .ref qa, .ref gh, .ref hk, .int (nI kc), .int ivl, .int drw]))] H := hP
    have hD9 : va_D A [(qs, .inr (3, [.ref qi, .ref qo, .ref qd, .ref qk, .ref qv, .ref qf, .ref qa, .ref gh, .ref hk, .int (nI kc), .int ivl, .int drw]))] := hD
    exact W.iret (v := 1) hx hb hr (fun t ht hW => ⟨⟨1, (), rfl, rfl, ⟨by rw [ht]; exact hP9, va_K.moved hW.alike hK, hD9⟩⟩, hS.F ht⟩) hS.2.2 dX3_draw_8

def rm_X3_draw_bad : Room := ({ frames := 7, cells := 0, slots := 0, locals := 161 } : Room)
set_option maxHeartbeats 4000000 in
set_option maxRecDepth 100000 in
/-- draw, a wrong number -/
theorem sc_X3_draw_bad (l : Launch) (D : va_G) (cI : ClassId) (th : Option (Nat × Nat)) (sz : Nat) (qs qi bi qo bo qd bd qk bk qv bv qf bf qa ba gh gm gb gw gd hk hh hm bm aw ad hB bB hI bI : Nat) (ivl drw : Int32) (kc : Nat) (k : Int32) (hkc : 0 < kc) (hkc2 : kc < 2 ^ 31) (hno : k < 1 ∨ 400 < k) : Met l yX3_draw wsX3_draw rm_X3_draw_bad (va_Pc [.ref qs, .int k] (sm_PW D cI th [(qs, .inr (3, [.ref qi, .ref qo, .ref qd, .ref qk, .ref qv, .ref qf, .ref qa, .ref gh, .ref hk, .int (nI kc), .int ivl, .int drw]))] sz)) (va_Qi (fun (r : Int32) (_ : Unit) => r = 2) (fun _ t => sm_QW D cI (va_A [(qs, .inr (3, [.ref qi, .ref qo, .ref qd, .ref qk, .ref qv, .ref qf, .ref qa, .ref gh, .ref hk, .int (nI kc), .int ivl, .int drw]))] sz) [(qs, .inr (3, [.ref qi, .ref qo, .ref qd, .ref qk, .ref qv, .ref qf, .ref qa, .ref gh, .ref hk, .int (nI kc), .int ivl, .int drw]))] t) (va_A [(qs, .inr (3, [.ref qi, .ref qo, .ref qd, .ref qk, .ref qv, .ref qf, .ref qa, .ref gh, .ref hk, .int (nI kc), .int ivl, .int drw]))] sz)) 0 0 (va_A [(qs, .inr (3, [.ref qi, .ref qo, .ref qd, .ref qk, .ref qv, .ref qf, .ref qa, .ref gh, .ref hk, .int (nI kc), .int ivl, .int drw]))] sz) := by
  refine Met.ofW (cc := cX3_draw) (maxL := 2) (ret := (some .int)) (by decide) rfl ?_
  intro p e s m args below meth c s₁ B hml hv
  obtain ⟨rfl, hsz, hP, hK, hD0, hT⟩ := hv
  have hx := B.exec
  have hb := B.bytes
  have hr := B.returns
  have hts := atoms_spec (ws := wsX3_draw) B.pre
  have hown : s.vm.findClass RX3 = some m.cls := findClass_of_methodNamed B.named
  have hlocks := B.notSynchronized
  subst hsz
  have hD := hD0.self (sz := s.heap.size)
  generalize hAe : va_A [(qs, .inr (3, [.ref qi, .ref qo, .ref qd, .ref qk, .ref qv, .ref qf, .ref qa, .ref gh, .ref hk, .int (nI kc), .int ivl, .int drw]))] s.heap.size = A at hD hT ⊢
  have hA : ∀ q : Nat, s.heap.size ≤ q → A q := fun q h => by rw [← hAe]; exact Or.inr h
  have hS : va_S A s.heap s.heap [] := va_S.rf
  have hl := lv_entry ([.ref qs, .int k]) (n := 2) (Nat.le_of_ble_eq_true rfl)
  rw [lg_entry_eq]
  generalize (lg_sl ([.ref qs, .int k]) ++ List.replicate (2 - (lg_sl ([.ref qs, .int k])).length) Slot.unset).toArray = ls at hl ⊢
  have hl : lv_has ls 2 [(0, .ref qs), (1, .int k)] := hl
  refine sm_name (fun Q hQ => ?_)
  have hf_50 := hts (.fieldLink RX3 50 "SeedMill" "drawCounter" "I") (by decide +kernel)
  have hw_X3 : ∀ w ∈ wsX30, w ∈ wsX3_draw := by decide +kernel
  have hf_54 := hts (.fieldLink RX3 54 "SeedMill" "drawInterval" "I") (by decide +kernel)
  have hf_14 := hts (.fieldLink RX3 14 "SeedMill" "input" "LSeedMill$Row;") (by decide +kernel)
  have hf_57 := hts (.fieldLink RX3 57 "SeedMill" "drawsInAll" "I") (by decide +kernel)
  refine lv_aload_n hx hb dX3_draw_0 rfl (lv_at hl 0 rfl) ?_
  refine sm_callVi (wc := [(qs, .inr (3, [.ref qi, .ref qo, .ref qd, .ref qk, .ref qv, .ref qf, .ref qa, .ref gh, .ref hk, .int (nI kc), .int ivl, .int drw]))]) (wr := []) (As := []) (rest := []) ⟨hx, hb, hml, hown, hts⟩ (sc_X3_isSeeded l D cI th _ qs qi bi qo bo qd bd qk bk qv bv qf bf qa ba gh gm gb gw gd hk hh hm bm aw ad hB bB hI bI (nI kc) ivl drw ) (cwV 0 hts gX3_draw_X3_isSeeded rfl rfl rfl (by decide +kernel) ⟨Nat.le_of_ble_eq_true rfl, Nat.le_of_ble_eq_true rfl⟩) hP hD hS hA hK hT [0] [] rfl rfl rfl rfl (by decide) 0 3 rfl rfl rfl rfl hl.1 rfl (Nat.le_of_ble_eq_true rfl) dX3_draw_1 ⟨Nat.zero_le _, Nat.zero_le _⟩ (fun r_1 zt H1 locs ht hvm hw hB hJ hS => ?_)
  obtain ⟨hP1, -, hD1⟩ := hB
  rw [ht] at hP1
  obtain ⟨hP, hD⟩ := hJ _ hP1 hD1
  clear hJ
  generalize H1 = H at hP hS ⊢
  have hP : va_P D vwCl [(qs, .inr (3, [.ref qi, .ref qo, .ref qd, .ref qk, .ref qv, .ref qf, .ref qa, .ref gh, .ref hk, .int (nI kc), .int ivl, .int drw]))] H := hP.sub [0] rfl
  have hD : va_D A [(qs, .inr (3, [.ref qi, .ref qo, .ref qd, .ref qk, .ref qv, .ref qf, .ref qa, .ref gh, .ref hk, .int (nI kc), .int ivl, .int drw]))] := hD.sub [0] rfl rfl
  rw [hw]
  refine sm_top (z := 1) (if_pos (nI_lt (a := 0) hkc (by omega))) ?_
  refine lv_if_ne (tgt := 9) hx hb dX3_draw_4 (by decide) (fun c_4 => ?_) (fun c_4 => ?_)
  ·
    refine lv_iload_n hx hb dX3_draw_9 rfl (lv_at hl 1 rfl) ?_
    refine lv_iconst (v := 1) hx hb dX3_draw_10 (by decide) ?_
    refine lv_icmp_lt (tgt := 21) hx hb dX3_draw_11 (by decide) (fun c_11 => ?_) (fun c_11 => ?_)
    ·
      refine lv_iconst (v := 2) hx hb dX3_draw_21 (by decide) ?_
      rw [hQ]
      have hP9 : va_P D vwCl [(qs, .inr (3, [.ref qi, .ref qo, .ref qd, .ref qk, .ref qv, .ref qf, .ref qa, .ref gh, .ref hk, .int (nI kc), .int ivl, .int drw]))] H := hP
      have hD9 : va_D A [(qs, .inr (3, [.ref qi, .ref qo, .ref qd, .ref qk, .ref qv, .ref qf, .ref qa, .ref gh, .ref hk, .int (nI kc), .int ivl, .int drw]))] := hD
      exact W.iret (v := 2) hx hb hr (fun t ht hW => ⟨⟨2, (), rfl, rfl, ⟨by rw [ht]; exact hP9, va_K.moved hW.alike hK, hD9⟩⟩, hS.F ht⟩) hS.2.2 dX3_draw_22
    ·
      refine lv_iload_n hx hb dX3_draw_14 rfl (lv_at hl 1 rfl) ?_
      refine lv_sipush (v := 400) hx hb dX3_draw_15 (by decide) ?_
      refine lv_icmp_le (tgt := 23) hx hb dX3_draw_18 (by decide) (fun c_18 => ?_) (fun c_18 => ?_)
      ·
        exact absurd c_18 (Int32.not_le.mpr (hno.resolve_left c_11))
      ·
        refine lv_iconst (v := 2) hx hb dX3_draw_21 (by decide) ?_
        rw [hQ]
        have hP9 : va_P D vwCl [(qs, .inr (3, [.ref qi, .ref qo, .ref qd, .ref qk, .ref qv, .ref qf, .ref qa, .ref gh, .ref hk, .int (nI kc), .int ivl, .int drw]))] H := hP
        have hD9 : va_D A [(qs, .inr (3, [.ref qi, .ref qo, .ref qd, .ref qk, .ref qv, .ref qf, .ref qa, .ref gh, .ref hk, .int (nI kc), .int ivl, .int drw]))] := hD
        exact W.iret (v := 2) hx hb hr (fun t ht hW => ⟨⟨2, (), rfl, rfl, ⟨by rw [ht]; exact hP9, va_K.moved hW.alike hK, hD9⟩⟩, hS.F ht⟩) hS.2.2 dX3_draw_22
  ·
    exact absurd c_4 (by decide)

def rm_X3_draw_iv : Room := ({ frames := 7, cells := 0, slots := 0, locals := 161 } : Room)
set_option maxHeartbeats 4000000 in
set_option maxRecDepth 100000 in
/-- draw over the interval -/
theorem sc_X3_draw_iv (l : Launch) (D : va_G) (cI : ClassId) (th : Option (Nat × Nat)) (sz : Nat) (qs qi bi qo bo qd bd qk bk qv bv qf bf qa ba gh gm gb gw gd hk hh hm bm aw ad hB bB hI bI : Nat) (ivl drw : Int32) (kc : Nat) (k : Int32) (hkc : 0 < kc) (hkc2 : kc < 2 ^ 31) (h1 : ¬ k < 1) (h4 : ¬ 400 < k) (hiv : ivl < nI kc) : Met l yX3_draw wsX3_draw rm_X3_draw_iv (va_Pc [.ref qs, .int k] (sm_PW D cI th [(qs, .inr (3, [.ref qi, .ref qo, .ref qd, .ref qk, .ref qv, .ref qf, .ref qa, .ref gh, .ref hk, .int (nI kc), .int ivl, .int drw]))] sz)) (va_Qi (fun (r : Int32) (_ : Unit) => r = 3) (fun _ t => sm_QW D cI (va_A [(qs, .inr (3, [.ref qi, .ref qo, .ref qd, .ref qk, .ref qv, .ref qf, .ref qa, .ref gh, .ref hk, .int (nI kc), .int ivl, .int drw]))] sz) [(qs, .inr (3, [.ref qi, .ref qo, .ref qd, .ref qk, .ref qv, .ref qf, .ref qa, .ref gh, .ref hk, .int (nI kc), .int ivl, .int drw]))] t) (va_A [(qs, .inr (3, [.ref qi, .ref qo, .ref qd, .ref qk, .ref qv, .ref qf, .ref qa, .ref gh, .ref hk, .int (nI kc), .int ivl, .int drw]))] sz)) 0 0 (va_A [(qs, .inr (3, [.ref qi, .ref qo, .ref qd, .ref qk, .ref qv, .ref qf, .ref qa, .ref gh, .ref hk, .int (nI kc), .int ivl, .int drw]))] sz) := by
  refine Met.ofW (cc := cX3_draw) (maxL := 2) (ret := (some .int)) (by decide) rfl ?_
  intro p e s m args below meth c s₁ B hml hv
  obtain ⟨rfl, hsz, hP, hK, hD0, hT⟩ := hv
  have hx := B.exec
  have hb := B.bytes
  have hr := B.returns
  have hts := atoms_spec (ws := wsX3_draw) B.pre
  have hown : s.vm.findClass RX3 = some m.cls := findClass_of_methodNamed B.named
  have hlocks := B.notSynchronized
  subst hsz
  have hD := hD0.self (sz := s.heap.size)
  generalize hAe : va_A [(qs, .inr (3, [.ref qi, .ref qo, .ref qd, .ref qk, .ref qv, .ref qf, .ref qa, .ref gh, .ref hk, .int (nI kc), .int ivl, .int drw]))] s.heap.size = A at hD hT ⊢
  have hA : ∀ q : Nat, s.heap.size ≤ q → A q := fun q h => by rw [← hAe]; exact Or.inr h
  have hS : va_S A s.heap s.heap [] := va_S.rf
  have hl := lv_entry ([.ref qs, .int k]) (n := 2) (Nat.le_of_ble_eq_true rfl)
  rw [lg_entry_eq]
  generalize (lg_sl ([.ref qs, .int k]) ++ List.replicate (2 - (lg_sl ([.ref qs, .int k])).length) Slot.unset).toArray = ls at hl ⊢
  have hl : lv_has ls 2 [(0, .ref qs), (1, .int k)] := hl
  refine sm_name (fun Q hQ => ?_)
  have hf_50 := hts (.fieldLink RX3 50 "SeedMill" "drawCounter" "I") (by decide +kernel)
  have hw_X3 : ∀ w ∈ wsX30, w ∈ wsX3_draw := by decide +kernel
  have hf_54 := hts (.fieldLink RX3 54 "SeedMill" "drawInterval" "I") (by decide +kernel)
  have hf_14 := hts (.fieldLink RX3 14 "SeedMill" "input" "LSeedMill$Row;") (by decide +kernel)
  have hf_57 := hts (.fieldLink RX3 57 "SeedMill" "drawsInAll" "I") (by decide +kernel)
  refine lv_aload_n hx hb dX3_draw_0 rfl (lv_at hl 0 rfl) ?_
  refine sm_callVi (wc := [(qs, .inr (3, [.ref qi, .ref qo, .ref qd, .ref qk, .ref qv, .ref qf, .ref qa, .ref gh, .ref hk, .int (nI kc), .int ivl, .int drw]))]) (wr := []) (As := []) (rest := []) ⟨hx, hb, hml, hown, hts⟩ (sc_X3_isSeeded l D cI th _ qs qi bi qo bo qd bd qk bk qv bv qf bf qa ba gh gm gb gw gd hk hh hm bm aw ad hB bB hI bI (nI kc) ivl drw ) (cwV 0 hts gX3_draw_X3_isSeeded rfl rfl rfl (by decide +kernel) ⟨Nat.le_of_ble_eq_true rfl, Nat.le_of_ble_eq_true rfl⟩) hP hD hS hA hK hT [0] [] rfl rfl rfl rfl (by decide) 0 3 rfl rfl rfl rfl hl.1 rfl (Nat.le_of_ble_eq_true rfl) dX3_draw_1 ⟨Nat.zero_le _, Nat.zero_le _⟩ (fun r_1 zt H1 locs ht hvm hw hB hJ hS => ?_)
  obtain ⟨hP1, -, hD1⟩ := hB
  rw [ht] at hP1
  obtain ⟨hP, hD⟩ := hJ _ hP1 hD1
  clear hJ
  generalize H1 = H at hP hS ⊢
  have hP : va_P D vwCl [(qs, .inr (3, [.ref qi, .ref qo, .ref qd, .ref qk, .ref qv, .ref qf, .ref qa, .ref gh, .ref hk, .int (nI kc), .int ivl, .int drw]))] H := hP.sub [0] rfl
  have hD : va_D A [(qs, .inr (3, [.ref qi, .ref qo, .ref qd, .ref qk, .ref qv, .ref qf, .ref qa, .ref gh, .ref hk, .int (nI kc), .int ivl, .int drw]))] := hD.sub [0] rfl rfl
  rw [hw]
  refine sm_top (z := 1) (if_pos (nI_lt (a := 0) hkc (by omega))) ?_
  refine lv_if_ne (tgt := 9) hx hb dX3_draw_4 (by decide) (fun c_4 => ?_) (fun c_4 => ?_)
  ·
    refine lv_iload_n hx hb dX3_draw_9 rfl (lv_at hl 1 rfl) ?_
    refine lv_iconst (v := 1) hx hb dX3_draw_10 (by decide) ?_
    refine lv_icmp_lt (tgt := 21) hx hb dX3_draw_11 (by decide) (fun c_11 => ?_) (fun c_11 => ?_)
    ·
      exact absurd c_11 h1
    ·
      refine lv_iload_n hx hb dX3_draw_14 rfl (lv_at hl 1 rfl) ?_
      refine lv_sipush (v := 400) hx hb dX3_draw_15 (by decide) ?_
      refine lv_icmp_le (tgt := 23) hx hb dX3_draw_18 (by decide) (fun c_18 => ?_) (fun c_18 => ?_)
      ·
        refine lv_aload_n hx hb dX3_draw_23 rfl (lv_at hl 0 rfl) ?_
        refine va_get (D := D) (ci := 3) (v := .int (nI kc)) (C := RX3) (T := TX3) (N := 12) hx hb hts hw_X3 hown hK hP 0 rfl rfl 9 (by decide) hf_50 (fun _ h9 => h9) rfl dX3_draw_24 ?_
        refine lv_aload_n hx hb dX3_draw_27 rfl (lv_at hl 0 rfl) ?_
        refine va_get (D := D) (ci := 3) (v := .int ivl) (C := RX3) (T := TX3) (N := 12) hx hb hts hw_X3 hown hK hP 0 rfl rfl 10 (by decide) hf_54 (fun _ h9 => h9) rfl dX3_draw_28 ?_
        refine lv_icmp_le (tgt := 36) hx hb dX3_draw_31 (by decide) (fun c_31 => ?_) (fun c_31 => ?_)
        ·
          exact absurd c_31 (Int32.not_le.mpr hiv)
        ·
          refine lv_iconst (v := 3) hx hb dX3_draw_34 (by decide) ?_
          rw [hQ]
          have hP9 : va_P D vwCl [(qs, .inr (3, [.ref qi, .ref qo, .ref qd, .ref qk, .ref qv, .ref qf, .ref qa, .ref gh, .ref hk, .int (nI kc), .int ivl, .int drw]))] H := hP
          have hD9 : va_D A [(qs, .inr (3, [.ref qi, .ref qo, .ref qd, .ref qk, .ref qv, .ref qf, .ref qa, .ref gh, .ref hk, .int (nI kc), .int ivl, .int drw]))] := hD
          exact W.iret (v := 3) hx hb hr (fun t ht hW => ⟨⟨3, (), rfl, rfl, ⟨by rw [ht]; exact hP9, va_K.moved hW.alike hK, hD9⟩⟩, hS.F ht⟩) hS.2.2 dX3_draw_35
      ·
        exact absurd (Int32.not_lt.mp h4) c_18
  ·
    exact absurd c_4 (by decide)

def rm_X3_draw_ok0 : Room := ({ frames := 7, cells := 0, slots := 0, locals := 161 } : Room)
set_option maxHeartbeats 4000000 in
set_option maxRecDepth 100000 in
/-- draw -/
theorem sc_X3_draw_ok0 (l : Launch) (D : va_G) (cI : ClassId) (tk tf : Nat) (sz : Nat) (qs qi bi qo bo qd bd qk bk qv bv qf bf qa ba gh gm gb gw gd hk hh hm bm aw ad hB bB hI bI : Nat) (ivl drw : Int32) (kc : Nat) (ni : Nat) (fi : Nat → Int32) (n : Nat) (fD fk fv ff : Nat → Int32) (ud uf : Int32) (fm : Nat → Int32) (um : Int32) (fw fd fB : Nat → Int32) (uB : Int32) (fI : Nat → Int32) (uI : Int32) (hkc : 0 < kc) (hkc2 : kc < 2 ^ 30) (hn1 : 1 ≤ n) (hn4 : n ≤ 400) (hiv : nI kc ≤ ivl) : Met l yX3_draw wsX3_draw rm_X3_draw_ok0 (va_Pc [.ref qs, .int (nI n)] (sm_PW D cI (some (tk, tf)) [(qs, .inr (3, [.ref qi, .ref qo, .ref qd, .ref qk, .ref qv, .ref qf, .ref qa, .ref gh, .ref hk, .int (nI kc), .int ivl, .int drw])), (qi, .inr (2, [.ref bi, .int (nI 0)])), (bi, .inl (cI, 300, .inl fi)), (qd, .inr (2, [.ref bd, .int ud])), (bd, .inl (cI, 400, .inl fD)), (qk, .inr (2, [.ref bk, .int (nI 32)])), (bk, .inl (cI, 32, .inl fk)), (qv, .inr (2, [.ref bv, .int (nI 32)])), (bv, .inl (cI, 32, .inl fv)), (qf, .inr (2, [.ref bf, .int uf])), (bf, .inl (cI, 32, .inl ff)), (hk, .inr (1, [.ref hh, .ref hB, .ref hI])), (hh, .inr (0, [.ref hm, .ref aw, .ref ad])), (hm, .inr (2, [.ref bm, .int um])), (bm, .inl (cI, 448, .inl fm)), (aw, .inl (cI, 64, .inl fw)), (ad, .inl (cI, 8, .inl fd)), (hB, .inr (2, [.ref bB, .int uB])), (bB, .inl (cI, 64, .inl fB)), (hI, .inr (2, [.ref bI, .int uI])), (bI, .inl (cI, 32, .inl fI))] sz)) (va_Qi (fun (r : Int32) (_ : Unit) => r = 0) (fun _ t => ∃ (ff2 : Nat → Int32) (fm2 : Nat → Int32) (um2 : Int32) (fw2 : Nat → Int32) (fd2 : Nat → Int32) (fB2 : Nat → Int32) (uB2 : Int32) (fI2 : Nat → Int32) (uI2 : Int32), (sm_stir (fk, sm_vs fk fv ((n + 31) / 32)) fi 0).2 = sm_nv (sm_stir (fk, sm_vs fk fv ((n + 31) / 32)) fi 0).1 ff2 ∧ sm_QW D cI (va_A [(qs, .inr (3, [.ref qi, .ref qo, .ref qd, .ref qk, .ref qv, .ref qf, .ref qa, .ref gh, .ref hk, .int (nI kc), .int ivl, .int drw])), (qi, .inr (2, [.ref bi, .int (nI 0)])), (bi, .inl (cI, 300, .inl fi)), (qd, .inr (2, [.ref bd, .int ud])), (bd, .inl (cI, 400, .inl fD)), (qk, .inr (2, [.ref bk, .int (nI 32)])), (bk, .inl (cI, 32, .inl fk)), (qv, .inr (2, [.ref bv, .int (nI 32)])), (bv, .inl (cI, 32, .inl fv)), (qf, .inr (2, [.ref bf, .int uf])), (bf, .inl (cI, 32, .inl ff)), (hk, .inr (1, [.ref hh, .ref hB, .ref hI])), (hh, .inr (0, [.ref hm, .ref aw, .ref ad])), (hm, .inr (2, [.ref bm, .int um])), (bm, .inl (cI, 448, .inl fm)), (aw, .inl (cI, 64, .inl fw)), (ad, .inl (cI, 8, .inl fd)), (hB, .inr (2, [.ref bB, .int uB])), (bB, .inl (cI, 64, .inl fB)), (hI, .inr (2, [.ref bI, .int uI])), (bI, .inl (cI, 32, .inl fI))] sz) [(qs, .inr (3, [.ref qi, .ref qo, .ref qd, .ref qk, .ref qv, .ref qf, .ref qa, .ref gh, .ref hk, .int (nI (kc + 1)), .int ivl, .int (drw + 1)])), (qi, .inr (2, [.ref bi, .int (nI 0)])), (bi, .inl (cI, 300, .inl fi)), (qd, .inr (2, [.ref bd, .int (nI n)])), (bd, .inl (cI, 400, .inl (sm_ap fD 0 (sm_dr fk fv) n))), (qk, .inr (2, [.ref bk, .int (nI 32)])), (bk, .inl (cI, 32, .inl ((sm_stir (fk, sm_vs fk fv ((n + 31) / 32)) fi 0).1))), (qv, .inr (2, [.ref bv, .int (nI 32)])), (bv, .inl (cI, 32, .inl ((sm_stir (fk, sm_vs fk fv ((n + 31) / 32)) fi 0).2))), (qf, .inr (2, [.ref bf, .int (nI 32)])), (bf, .inl (cI, 32, .inl ff2)), (hk, .inr (1, [.ref hh, .ref hB, .ref hI])), (hh, .inr (0, [.ref hm, .ref aw, .ref ad])), (hm, .inr (2, [.ref bm, .int um2])), (bm, .inl (cI, 448, .inl fm2)), (aw, .inl (cI, 64, .inl fw2)), (ad, .inl (cI, 8, .inl fd2)), (hB, .inr (2, [.ref bB, .int uB2])), (bB, .inl (cI, 64, .inl fB2)), (hI, .inr (2, [.ref bI, .int uI2])), (bI, .inl (cI, 32, .inl fI2))] t) (va_A [(qs, .inr (3, [.ref qi, .ref qo, .ref qd, .ref qk, .ref qv, .ref qf, .ref qa, .ref gh, .ref hk, .int (nI kc), .int ivl, .int drw])), (qi, .inr (2, [.ref bi, .int (nI 0)])), (bi, .inl (cI, 300, .inl fi)), (qd, .inr (2, [.ref bd, .int ud])), (bd, .inl (cI, 400, .inl fD)), (qk, .inr (2, [.ref bk, .int (nI 32)])), (bk, .inl (cI, 32, .inl fk)), (qv, .inr (2, [.ref bv, .int (nI 32)])), (bv, .inl (cI, 32, .inl fv)), (qf, .inr (2, [.ref bf, .int uf])), (bf, .inl (cI, 32, .inl ff)), (hk, .inr (1, [.ref hh, .ref hB, .ref hI])), (hh, .inr (0, [.ref hm, .ref aw, .ref ad])), (hm, .inr (2, [.ref bm, .int um])), (bm, .inl (cI, 448, .inl fm)), (aw, .inl (cI, 64, .inl fw)), (ad, .inl (cI, 8, .inl fd)), (hB, .inr (2, [.ref bB, .int uB])), (bB, .inl (cI, 64, .inl fB)), (hI, .inr (2, [.ref bI, .int uI])), (bI, .inl (cI, 32, .inl fI))] sz)) 0 0 (va_A [(qs, .inr (3, [.ref qi, .ref qo, .ref qd, .ref qk, .ref qv, .ref qf, .ref qa, .ref gh, .ref hk, .int (nI kc), .int ivl, .int drw])), (qi, .inr (2, [.ref bi, .int (nI 0)])), (bi, .inl (cI, 300, .inl fi)), (qd, .inr (2, [.ref bd, .int ud])), (bd, .inl (cI, 400, .inl fD)), (qk, .inr (2, [.ref bk, .int (nI 32)])), (bk, .inl (cI, 32, .inl fk)), (qv, .inr (2, [.ref bv, .int (nI 32)])), (bv, .inl (cI, 32, .inl fv)), (qf, .inr (2, [.ref bf, .int uf])), (bf, .inl (cI, 32, .inl ff)), (hk, .inr (1, [.ref hh, .ref hB, .ref hI])), (hh, .inr (0, [.ref hm, .ref aw, .ref ad])), (hm, .inr (2, [.ref bm, .int um])), (bm, .inl (cI, 448, .inl fm)), (aw, .inl (cI, 64, .inl fw)), (ad, .inl (cI, 8, .inl fd)), (hB, .inr (2, [.ref bB, .int uB])), (bB, .inl (cI, 64, .inl fB)), (hI, .inr (2, [.ref bI, .int uI])), (bI, .inl (cI, 32, .inl fI))] sz) := by
  refine Met.ofW (cc := cX3_draw) (maxL := 2) (ret := (some .int)) (by decide) rfl ?_
  intro p e s m args below meth c s₁ B hml hv
  obtain ⟨rfl, hsz, hP, hK, hD0, hT⟩ := hv
  have hx := B.exec
  have hb := B.bytes
  have hr := B.returns
  have hts := atoms_spec (ws := wsX3_draw) B.pre
  have hown : s.vm.findClass RX3 = some m.cls := findClass_of_methodNamed B.named
  have hlocks := B.notSynchronized
  subst hsz
  have hD := hD0.self (sz := s.heap.size)
  generalize hAe : va_A [(qs, .inr (3, [.ref qi, .ref qo, .ref qd, .ref qk, .ref qv, .ref qf, .ref qa, .ref gh, .ref hk, .int (nI kc), .int ivl, .int drw])), (qi, .inr (2, [.ref bi, .int (nI 0)])), (bi, .inl (cI, 300, .inl fi)), (qd, .inr (2, [.ref bd, .int ud])), (bd, .inl (cI, 400, .inl fD)), (qk, .inr (2, [.ref bk, .int (nI 32)])), (bk, .inl (cI, 32, .inl fk)), (qv, .inr (2, [.ref bv, .int (nI 32)])), (bv, .inl (cI, 32, .inl fv)), (qf, .inr (2, [.ref bf, .int uf])), (bf, .inl (cI, 32, .inl ff)), (hk, .inr (1, [.ref hh, .ref hB, .ref hI])), (hh, .inr (0, [.ref hm, .ref aw, .ref ad])), (hm, .inr (2, [.ref bm, .int um])), (bm, .inl (cI, 448, .inl fm)), (aw, .inl (cI, 64, .inl fw)), (ad, .inl (cI, 8, .inl fd)), (hB, .inr (2, [.ref bB, .int uB])), (bB, .inl (cI, 64, .inl fB)), (hI, .inr (2, [.ref bI, .int uI])), (bI, .inl (cI, 32, .inl fI))] s.heap.size = A at hD hT ⊢
  have hA : ∀ q : Nat, s.heap.size ≤ q → A q := fun q h => by rw [← hAe]; exact Or.inr h
  have hS : va_S A s.heap s.heap [] := va_S.rf
  have hl := lv_entry ([.ref qs, .int (nI n)]) (n := 2) (Nat.le_of_ble_eq_true rfl)
  rw [lg_entry_eq]
  generalize (lg_sl ([.ref qs, .int (nI n)]) ++ List.replicate (2 - (lg_sl ([.ref qs, .int (nI n)])).length) Slot.unset).toArray = ls at hl ⊢
  have hl : lv_has ls 2 [(0, .ref qs), (1, .int (nI n))] := hl
  refine sm_name (fun Q hQ => ?_)
  have hf_50 := hts (.fieldLink RX3 50 "SeedMill" "drawCounter" "I") (by decide +kernel)
  have hw_X3 : ∀ w ∈ wsX30, w ∈ wsX3_draw := by decide +kernel
  have hf_54 := hts (.fieldLink RX3 54 "SeedMill" "drawInterval" "I") (by decide +kernel)
  have hf_14 := hts (.fieldLink RX3 14 "SeedMill" "input" "LSeedMill$Row;") (by decide +kernel)
  have hf_57 := hts (.fieldLink RX3 57 "SeedMill" "drawsInAll" "I") (by decide +kernel)
  have hni : 0 ≤ 300 := by decide
  refine lv_aload_n hx hb dX3_draw_0 rfl (lv_at hl 0 rfl) ?_
  refine sm_callVi (wc := [(qs, .inr (3, [.ref qi, .ref qo, .ref qd, .ref qk, .ref qv, .ref qf, .ref qa, .ref gh, .ref hk, .int (nI kc), .int ivl, .int drw]))]) (wr := [(qi, .inr (2, [.ref bi, .int (nI 0)])), (bi, .inl (cI, 300, .inl fi)), (qd, .inr (2, [.ref bd, .int ud])), (bd, .inl (cI, 400, .inl fD)), (qk, .inr (2, [.ref bk, .int (nI 32)])), (bk, .inl (cI, 32, .inl fk)), (qv, .inr (2, [.ref bv, .int (nI 32)])), (bv, .inl (cI, 32, .inl fv)), (qf, .inr (2, [.ref bf, .int uf])), (bf, .inl (cI, 32, .inl ff)), (hk, .inr (1, [.ref hh, .ref hB, .ref hI])), (hh, .inr (0, [.ref hm, .ref aw, .ref ad])), (hm, .inr (2, [.ref bm, .int um])), (bm, .inl (cI, 448, .inl fm)), (aw, .inl (cI, 64, .inl fw)), (ad, .inl (cI, 8, .inl fd)), (hB, .inr (2, [.ref bB, .int uB])), (bB, .inl (cI, 64, .inl fB)), (hI, .inr (2, [.ref bI, .int uI])), (bI, .inl (cI, 32, .inl fI))]) (As := []) (rest := []) ⟨hx, hb, hml, hown, hts⟩ (sc_X3_isSeeded l D cI (some (tk, tf)) _ qs qi bi qo bo qd bd qk bk qv bv qf bf qa ba gh gm gb gw gd hk hh hm bm aw ad hB bB hI bI (nI kc) ivl drw ) (cwV 0 hts gX3_draw_X3_isSeeded rfl rfl rfl (by decide +kernel) ⟨Nat.le_of_ble_eq_true rfl, Nat.le_of_ble_eq_true rfl⟩) hP hD hS hA hK hT [0] [1, 2, 3, 4, 5, 6, 7, 8, 9, 10, 11, 12, 13, 14, 15, 16, 17, 18, 19, 20] rfl rfl rfl rfl (by decide) 0 3 rfl rfl rfl rfl hl.1 rfl (Nat.le_of_ble_eq_true rfl) dX3_draw_1 ⟨Nat.zero_le _, Nat.zero_le _⟩ (fun r_1 zt H1 locs ht hvm hw hB hJ hS => ?_)
  obtain ⟨hP1, -, hD1⟩ := hB
  rw [ht] at hP1
  obtain ⟨hP, hD⟩ := hJ _ hP1 hD1
  clear hJ
  generalize H1 = H at hP hS ⊢
  have hP : va_P D vwCl [(qs, .inr (3, [.ref qi, .ref qo, .ref qd, .ref qk, .ref qv, .ref qf, .ref qa, .ref gh, .ref hk, .int (nI kc), .int ivl, .int drw])), (qi, .inr (2, [.ref bi, .int (nI 0)])), (bi, .inl (cI, 300, .inl fi)), (qd, .inr (2, [.ref bd, .int ud])), (bd, .inl (cI, 400, .inl fD)), (qk, .inr (2, [.ref bk, .int (nI 32)])), (bk, .inl (cI, 32, .inl fk)), (qv, .inr (2, [.ref bv, .int (nI 32)])), (bv, .inl (cI, 32, .inl fv)), (qf, .inr (2, [.ref bf, .int uf])), (bf, .inl (cI, 32, .inl ff)), (hk, .inr (1, [.ref hh, .ref hB, .ref hI])), (hh, .inr (0, [.ref hm, .ref aw, .ref ad])), (hm, .inr (2, [.ref bm, .int um])), (bm, .inl (cI, 448, .inl fm)), (aw, .inl (cI, 64, .inl fw)), (ad, .inl (cI, 8, .inl fd)), (hB, .inr (2, [.ref bB, .int uB])), (bB, .inl (cI, 64, .inl fB)), (hI, .inr (2, [.ref bI, .int uI])), (bI, .inl (cI, 32, .inl fI))] H := hP.sub [20, 0, 1, 2, 3, 4, 5, 6, 7, 8, 9, 10, 11, 12, 13, 14, 15, 16, 17, 18, 19] rfl
  have hD : va_D A [(qs, .inr (3, [.ref qi, .ref qo, .ref qd, .ref qk, .ref qv, .ref qf, .ref qa, .ref gh, .ref hk, .int (nI kc), .int ivl, .int drw])), (qi, .inr (2, [.ref bi, .int (nI 0)])), (bi, .inl (cI, 300, .inl fi)), (qd, .inr (2, [.ref bd, .int ud])), (bd, .inl (cI, 400, .inl fD)), (qk, .inr (2, [.ref bk, .int (nI 32)])), (bk, .inl (cI, 32, .inl fk)), (qv, .inr (2, [.ref bv, .int (nI 32)])), (bv, .inl (cI, 32, .inl fv)), (qf, .inr (2, [.ref bf, .int uf])), (bf, .inl (cI, 32, .inl ff)), (hk, .inr (1, [.ref hh, .ref hB, .ref hI])), (hh, .inr (0, [.ref hm, .ref aw, .ref ad])), (hm, .inr (2, [.ref bm, .int um])), (bm, .inl (cI, 448, .inl fm)), (aw, .inl (cI, 64, .inl fw)), (ad, .inl (cI, 8, .inl fd)), (hB, .inr (2, [.ref bB, .int uB])), (bB, .inl (cI, 64, .inl fB)), (hI, .inr (2, [.ref bI, .int uI])), (bI, .inl (cI, 32, .inl fI))] := hD.sub [20, 0, 1, 2, 3, 4, 5, 6, 7, 8, 9, 10, 11, 12, 13, 14, 15, 16, 17, 18, 19] rfl rfl
  rw [hw]
  refine sm_top (z := 1) (if_pos (nI_lt (a := 0) hkc (by omega))) ?_
  refine lv_if_ne (tgt := 9) hx hb dX3_draw_4 (by decide) (fun c_4 => ?_) (fun c_4 => ?_)
  ·
    refine lv_iload_n hx hb dX3_draw_9 rfl (lv_at hl 1 rfl) ?_
    refine lv_iconst (v := 1) hx hb dX3_draw_10 (by decide) ?_
    refine lv_icmp_lt (tgt := 21) hx hb dX3_draw_11 (by decide) (fun c_11 => ?_) (fun c_11 => ?_)
    ·
      exact absurd c_11 (nI_nlt (b := 1) hn1 (by omega))
    ·
      refine lv_iload_n hx hb dX3_draw_14 rfl (lv_at hl 1 rfl) ?_
      refine lv_sipush (v := 400) hx hb dX3_draw_15 (by decide) ?_
      refine lv_icmp_le (tgt := 23) hx hb dX3_draw_18 (by decide) (fun c_18 => ?_) (fun c_18 => ?_)
      ·
        refine lv_aload_n hx hb dX3_draw_23 rfl (lv_at hl 0 rfl) ?_
        refine va_get (D := D) (ci := 3) (v := .int (nI kc)) (C := RX3) (T := TX3) (N := 12) hx hb hts hw_X3 hown hK hP 0 rfl rfl 9 (by decide) hf_50 (fun _ h9 => h9) rfl dX3_draw_24 ?_
        refine lv_aload_n hx hb dX3_draw_27 rfl (lv_at hl 0 rfl) ?_
        refine va_get (D := D) (ci := 3) (v := .int ivl) (C := RX3) (T := TX3) (N := 12) hx hb hts hw_X3 hown hK hP 0 rfl rfl 10 (by decide) hf_54 (fun _ h9 => h9) rfl dX3_draw_28 ?_
        refine lv_icmp_le (tgt := 36) hx hb dX3_draw_31 (by decide) (fun c_31 => ?_) (fun c_31 => ?_)
        ·
          refine lv_aload_n hx hb dX3_draw_36 rfl (lv_at hl 0 rfl) ?_
          refine va_get (D := D) (ci := 3) (v := .ref qi) (C := RX3) (T := TX3) (N := 12) hx hb hts hw_X3 hown hK hP 0 rfl rfl 0 (by decide) hf_14 (fun _ h9 => h9) rfl dX3_draw_37 ?_
          refine sm_callVi (wc := [(qi, .inr (2, [.ref bi, .int (nI 0)])), (bi, .inl (cI, 300, .inl fi))]) (wr := [(qs, .inr (3, [.ref qi, .ref qo, .ref qd, .ref qk, .ref qv, .ref qf, .ref qa, .ref gh, .ref hk, .int (nI kc), .int ivl, .int drw])), (qd, .inr (2, [.ref bd, .int ud])), (bd, .inl (cI, 400, .inl fD)), (qk, .inr (2, [.ref bk, .int (nI 32)])), (bk, .inl (cI, 32, .inl fk)), (qv, .inr (2, [.ref bv, .int (nI 32)])), (bv, .inl (cI, 32, .inl fv)), (qf, .inr (2, [.ref bf, .int uf])), (bf, .inl (cI, 32, .inl ff)), (hk, .inr (1, [.ref hh, .ref hB, .ref hI])), (hh, .inr (0, [.ref hm, .ref aw, .ref ad])), (hm, .inr (2, [.ref bm, .int um])), (bm, .inl (cI, 448, .inl fm)), (aw, .inl (cI, 64, .inl fw)), (ad, .inl (cI, 8, .inl fd)), (hB, .inr (2, [.ref bB, .int uB])), (bB, .inl (cI, 64, .inl fB)), (hI, .inr (2, [.ref bI, .int uI])), (bI, .inl (cI, 32, .inl fI))]) (As := []) (rest := []) ⟨hx, hb, hml, hown, hts⟩ (sc_X2_size l D cI (some (tk, tf)) _ qi bi 300 fi (nI 0) ) (cwV 0 hts gX3_draw_X2_size rfl rfl rfl (by decide +kernel) ⟨Nat.le_of_ble_eq_true rfl, Nat.le_of_ble_eq_true rfl⟩) hP hD hS hA hK hT [1, 2] [0, 3, 4, 5, 6, 7, 8, 9, 10, 11, 12, 13, 14, 15, 16, 17, 18, 19, 20] rfl rfl rfl rfl (by decide) 0 2 rfl rfl rfl rfl hl.1 rfl (Nat.le_of_ble_eq_true rfl) dX3_draw_40 ⟨Nat.zero_le _, Nat.zero_le _⟩ (fun r_40 zt H1 locs ht hvm hw hB hJ hS => ?_)
          obtain ⟨hP1, -, hD1⟩ := hB
          rw [ht] at hP1
          obtain ⟨hP, hD⟩ := hJ _ hP1 hD1
          clear hJ
          generalize H1 = H at hP hS ⊢
          have hP : va_P D vwCl [(qs, .inr (3, [.ref qi, .ref qo, .ref qd, .ref qk, .ref qv, .ref qf, .ref qa, .ref gh, .ref hk, .int (nI kc), .int ivl, .int drw])), (qi, .inr (2, [.ref bi, .int (nI 0)])), (bi, .inl (cI, 300, .inl fi)), (qd, .inr (2, [.ref bd, .int ud])), (bd, .inl (cI, 400, .inl fD)), (qk, .inr (2, [.ref bk, .int (nI 32)])), (bk, .inl (cI, 32, .inl fk)), (qv, .inr (2, [.ref bv, .int (nI 32)])), (bv, .inl (cI, 32, .inl fv)), (qf, .inr (2, [.ref bf, .int uf])), (bf, .inl (cI, 32, .inl ff)), (hk, .inr (1, [.ref hh, .ref hB, .ref hI])), (hh, .inr (0, [.ref hm, .ref aw, .ref ad])), (hm, .inr (2, [.ref bm, .int um])), (bm, .inl (cI, 448, .inl fm)), (aw, .inl (cI, 64, .inl fw)), (ad, .inl (cI, 8, .inl fd)), (hB, .inr (2, [.ref bB, .int uB])), (bB, .inl (cI, 64, .inl fB)), (hI, .inr (2, [.ref bI, .int uI])), (bI, .inl (cI, 32, .inl fI))] H := hP.sub [0, 19, 20, 1, 2, 3, 4, 5, 6, 7, 8, 9, 10, 11, 12, 13, 14, 15, 16, 17, 18] rfl
          have hD : va_D A [(qs, .inr (3, [.ref qi, .ref qo, .ref qd, .ref qk, .ref qv, .ref qf, .ref qa, .ref gh, .ref hk, .int (nI kc), .int ivl, .int drw])), (qi, .inr (2, [.ref bi, .int (nI 0)])), (bi, .inl (cI, 300, .inl fi)), (qd, .inr (2, [.ref bd, .int ud])), (bd, .inl (cI, 400, .inl fD)), (qk, .inr (2, [.ref bk, .int (nI 32)])), (bk, .inl (cI, 32, .inl fk)), (qv, .inr (2, [.ref bv, .int (nI 32)])), (bv, .inl (cI, 32, .inl fv)), (qf, .inr (2, [.ref bf, .int uf])), (bf, .inl (cI, 32, .inl ff)), (hk, .inr (1, [.ref hh, .ref hB, .ref hI])), (hh, .inr (0, [.ref hm, .ref aw, .ref ad])), (hm, .inr (2, [.ref bm, .int um])), (bm, .inl (cI, 448, .inl fm)), (aw, .inl (cI, 64, .inl fw)), (ad, .inl (cI, 8, .inl fd)), (hB, .inr (2, [.ref bB, .int uB])), (bB, .inl (cI, 64, .inl fB)), (hI, .inr (2, [.ref bI, .int uI])), (bI, .inl (cI, 32, .inl fI))] := hD.sub [0, 19, 20, 1, 2, 3, 4, 5, 6, 7, 8, 9, 10, 11, 12, 13, 14, 15, 16, 17, 18] rfl rfl
          rw [hw]
          refine lv_if_le (tgt := 50) hx hb dX3_draw_43 (by decide) (fun c_43 => ?_) (fun c_43 => ?_)
          ·
            refine lv_aload_n hx hb dX3_draw_50 rfl (lv_at hl 0 rfl) ?_
            refine lv_iload_n hx hb dX3_draw_51 rfl (lv_at hl 1 rfl) ?_
            refine sm_callVv (wc := [(qs, .inr (3, [.ref qi, .ref qo, .ref qd, .ref qk, .ref qv, .ref qf, .ref qa, .ref gh, .ref hk, .int (nI kc), .int ivl, .int drw])), (qd, .inr (2, [.ref bd, .int ud])), (bd, .inl (cI, 400, .inl fD)), (qk, .inr (2, [.ref bk, .int (nI 32)])), (bk, .inl (cI, 32, .inl fk)), (qv, .inr (2, [.ref bv, .int (nI 32)])), (bv, .inl (cI, 32, .inl fv)), (qf, .inr (2, [.ref bf, .int uf])), (bf, .inl (cI, 32, .inl ff)), (hk, .inr (1, [.ref hh, .ref hB, .ref hI])), (hh, .inr (0, [.ref hm, .ref aw, .ref ad])), (hm, .inr (2, [.ref bm, .int um])), (bm, .inl (cI, 448, .inl fm)), (aw, .inl (cI, 64, .inl fw)), (ad, .inl (cI, 8, .inl fd)), (hB, .inr (2, [.ref bB, .int uB])), (bB, .inl (cI, 64, .inl fB)), (hI, .inr (2, [.ref bI, .int uI])), (bI, .inl (cI, 32, .inl fI))]) (wr := [(qi, .inr (2, [.ref bi, .int (nI 0)])), (bi, .inl (cI, 300, .inl fi))]) (As := [.int (nI n)]) (rest := []) ⟨hx, hb, hml, hown, hts⟩ (sc_X3_fillDrawn l D cI tk tf _ qs qi bi qo bo qd bd qk bk qv bv qf bf qa ba gh gm gb gw gd hk hh hm bm aw ad hB bB hI bI ivl drw kc n fD fk fv ff ud uf fm um fw fd fB uB fI uI hn1 hn4) (cwV 1 hts gX3_draw_X3_fillDrawn rfl rfl rfl (by decide +kernel) ⟨Nat.le_of_ble_eq_true rfl, Nat.le_of_ble_eq_true rfl⟩) hP hD hS hA hK hT [0, 3, 4, 5, 6, 7, 8, 9, 10, 11, 12, 13, 14, 15, 16, 17, 18, 19, 20] [1, 2] rfl rfl rfl rfl (by decide) 0 3 rfl rfl rfl rfl hl.1 rfl (Nat.le_of_ble_eq_true rfl) dX3_draw_52 ⟨Nat.zero_le _, Nat.zero_le _⟩ (fun zt H1 locs ht hvm hB hJ hS => ?_)
            obtain ⟨ffg, ufg, fmg, umg, fwg, fdg, fBg, uBg, fIg, uIg, hP1, -, hD1⟩ := hB
            rw [ht] at hP1
            obtain ⟨hP, hD⟩ := hJ _ hP1 hD1
            clear hJ
            generalize H1 = H at hP hS ⊢
            have hP : va_P D vwCl [(qs, .inr (3, [.ref qi, .ref qo, .ref qd, .ref qk, .ref qv, .ref qf, .ref qa, .ref gh, .ref hk, .int (nI kc), .int ivl, .int drw])), (qi, .inr (2, [.ref bi, .int (nI 0)])), (bi, .inl (cI, 300, .inl fi)), (qd, .inr (2, [.ref bd, .int (nI n)])), (bd, .inl (cI, 400, .inl (sm_ap fD 0 (sm_dr fk fv) n))), (qk, .inr (2, [.ref bk, .int (nI 32)])), (bk, .inl (cI, 32, .inl fk)), (qv, .inr (2, [.ref bv, .int (nI 32)])), (bv, .inl (cI, 32, .inl (sm_vs fk fv ((n + 31) / 32)))), (qf, .inr (2, [.ref bf, .int ufg])), (bf, .inl (cI, 32, .inl ffg)), (hk, .inr (1, [.ref hh, .ref hB, .ref hI])), (hh, .inr (0, [.ref hm, .ref aw, .ref ad])), (hm, .inr (2, [.ref bm, .int umg])), (bm, .inl (cI, 448, .inl fmg)), (aw, .inl (cI, 64, .inl fwg)), (ad, .inl (cI, 8, .inl fdg)), (hB, .inr (2, [.ref bB, .int uBg])), (bB, .inl (cI, 64, .inl fBg)), (hI, .inr (2, [.ref bI, .int uIg])), (bI, .inl (cI, 32, .inl fIg))] H := hP.sub [2, 0, 1, 3, 4, 5, 6, 7, 8, 9, 10, 11, 12, 13, 14, 15, 16, 17, 18, 19, 20] rfl
            have hD : va_D A [(qs, .inr (3, [.ref qi, .ref qo, .ref qd, .ref qk, .ref qv, .ref qf, .ref qa, .ref gh, .ref hk, .int (nI kc), .int ivl, .int drw])), (qi, .inr (2, [.ref bi, .int (nI 0)])), (bi, .inl (cI, 300, .inl fi)), (qd, .inr (2, [.ref bd, .int (nI n)])), (bd, .inl (cI, 400, .inl (sm_ap fD 0 (sm_dr fk fv) n))), (qk, .inr (2, [.ref bk, .int (nI 32)])), (bk, .inl (cI, 32, .inl fk)), (qv, .inr (2, [.ref bv, .int (nI 32)])), (bv, .inl (cI, 32, .inl (sm_vs fk fv ((n + 31) / 32)))), (qf, .inr (2, [.ref bf, .int ufg])), (bf, .inl (cI, 32, .inl ffg)), (hk, .inr (1, [.ref hh, .ref hB, .ref hI])), (hh, .inr (0, [.ref hm, .ref aw, .ref ad])), (hm, .inr (2, [.ref bm, .int umg])), (bm, .inl (cI, 448, .inl fmg)), (aw, .inl (cI, 64, .inl fwg)), (ad, .inl (cI, 8, .inl fdg)), (hB, .inr (2, [.ref bB, .int uBg])), (bB, .inl (cI, 64, .inl fBg)), (hI, .inr (2, [.ref bI, .int uIg])), (bI, .inl (cI, 32, .inl fIg))] := hD.sub [2, 0, 1, 3, 4, 5, 6, 7, 8, 9, 10, 11, 12, 13, 14, 15, 16, 17, 18, 19, 20] rfl rfl
            refine lv_aload_n hx hb dX3_draw_55 rfl (lv_at hl 0 rfl) ?_
            refine sm_callVv (wc := [(qs, .inr (3, [.ref qi, .ref qo, .ref qd, .ref qk, .ref qv, .ref qf, .ref qa, .ref gh, .ref hk, .int (nI kc), .int ivl, .int drw])), (qi, .inr (2, [.ref bi, .int (nI 0)])), (bi, .inl (cI, 300, .inl fi)), (qk, .inr (2, [.ref bk, .int (nI 32)])), (bk, .inl (cI, 32, .inl fk)), (qv, .inr (2, [.ref bv, .int (nI 32)])), (bv, .inl (cI, 32, .inl (sm_vs fk fv ((n + 31) / 32)))), (qf, .inr (2, [.ref bf, .int ufg])), (bf, .inl (cI, 32, .inl ffg)), (hk, .inr (1, [.ref hh, .ref hB, .ref hI])), (hh, .inr (0, [.ref hm, .ref aw, .ref ad])), (hm, .inr (2, [.ref bm, .int umg])), (bm, .inl (cI, 448, .inl fmg)), (aw, .inl (cI, 64, .inl fwg)), (ad, .inl (cI, 8, .inl fdg)), (hB, .inr (2, [.ref bB, .int uBg])), (bB, .inl (cI, 64, .inl fBg)), (hI, .inr (2, [.ref bI, .int uIg])), (bI, .inl (cI, 32, .inl fIg))]) (wr := [(qd, .inr (2, [.ref bd, .int (nI n)])), (bd, .inl (cI, 400, .inl (sm_ap fD 0 (sm_dr fk fv) n)))]) (As := []) (rest := []) ⟨hx, hb, hml, hown, hts⟩ (sc_X3_stir l D cI tk tf _ qs qi bi qo bo qd bd qk bk qv bv qf bf qa ba gh gm gb gw gd hk hh hm bm aw ad hB bB hI bI (nI kc) ivl drw 0 fi fk (sm_vs fk fv ((n + 31) / 32)) ffg ufg fmg umg fwg fdg fBg uBg fIg uIg hni) (cwV 0 hts gX3_draw_X3_stir rfl rfl rfl (by decide +kernel) ⟨Nat.le_of_ble_eq_true rfl, Nat.le_of_ble_eq_true rfl⟩) hP hD hS hA hK hT [0, 1, 2, 5, 6, 7, 8, 9, 10, 11, 12, 13, 14, 15, 16, 17, 18, 19, 20] [3, 4] rfl rfl rfl rfl (by decide) 0 3 rfl rfl rfl rfl hl.1 rfl (Nat.le_of_ble_eq_true rfl) dX3_draw_56 ⟨Nat.zero_le _, Nat.zero_le _⟩ (fun zt H1 locs ht hvm hB hJ hS => ?_)
            obtain ⟨ff2, fm2, um2, fw2, fd2, fB2, uB2, fI2, uI2, hst2, hP1, -, hD1⟩ := hB
            rw [ht] at hP1
            obtain ⟨hP, hD⟩ := hJ _ hP1 hD1
            clear hJ
            generalize H1 = H at hP hS ⊢
            have hP : va_P D vwCl [(qs, .inr (3, [.ref qi, .ref qo, .ref qd, .ref qk, .ref qv, .ref qf, .ref qa, .ref gh, .ref hk, .int (nI kc), .int ivl, .int drw])), (qi, .inr (2, [.ref bi, .int (nI 0)])), (bi, .inl (cI, 300, .inl fi)), (qd, .inr (2, [.ref bd, .int (nI n)])), (bd, .inl (cI, 400, .inl (sm_ap fD 0 (sm_dr fk fv) n))), (qk, .inr (2, [.ref bk, .int (nI 32)])), (bk, .inl (cI, 32, .inl ((sm_stir (fk, sm_vs fk fv ((n + 31) / 32)) fi 0).1))), (qv, .inr (2, [.ref bv, .int (nI 32)])), (bv, .inl (cI, 32, .inl ((sm_stir (fk, sm_vs fk fv ((n + 31) / 32)) fi 0).2))), (qf, .inr (2, [.ref bf, .int (nI 32)])), (bf, .inl (cI, 32, .inl ff2)), (hk, .inr (1, [.ref hh, .ref hB, .ref hI])), (hh, .inr (0, [.ref hm, .ref aw, .ref ad])), (hm, .inr (2, [.ref bm, .int um2])), (bm, .inl (cI, 448, .inl fm2)), (aw, .inl (cI, 64, .inl fw2)), (ad, .inl (cI, 8, .inl fd2)), (hB, .inr (2, [.ref bB, .int uB2])), (bB, .inl (cI, 64, .inl fB2)), (hI, .inr (2, [.ref bI, .int uI2])), (bI, .inl (cI, 32, .inl fI2))] H := hP.sub [2, 3, 4, 0, 1, 5, 6, 7, 8, 9, 10, 11, 12, 13, 14, 15, 16, 17, 18, 19, 20] rfl
            have hD : va_D A [(qs, .inr (3, [.ref qi, .ref qo, .ref qd, .ref qk, .ref qv, .ref qf, .ref qa, .ref gh, .ref hk, .int (nI kc), .int ivl, .int drw])), (qi, .inr (2, [.ref bi, .int (nI 0)])), (bi, .inl (cI, 300, .inl fi)), (qd, .inr (2, [.ref bd, .int (nI n)])), (bd, .inl (cI, 400, .inl (sm_ap fD 0 (sm_dr fk fv) n))), (qk, .inr (2, [.ref bk, .int (nI 32)])), (bk, .inl (cI, 32, .inl ((sm_stir (fk, sm_vs fk fv ((n + 31) / 32)) fi 0).1))), (qv, .inr (2, [.ref bv, .int (nI 32)])), (bv, .inl (cI, 32, .inl ((sm_stir (fk, sm_vs fk fv ((n + 31) / 32)) fi 0).2))), (qf, .inr (2, [.ref bf, .int (nI 32)])), (bf, .inl (cI, 32, .inl ff2)), (hk, .inr (1, [.ref hh, .ref hB, .ref hI])), (hh, .inr (0, [.ref hm, .ref aw, .ref ad])), (hm, .inr (2, [.ref bm, .int um2])), (bm, .inl (cI, 448, .inl fm2)), (aw, .inl (cI, 64, .inl fw2)), (ad, .inl (cI, 8, .inl fd2)), (hB, .inr (2, [.ref bB, .int uB2])), (bB, .inl (cI, 64, .inl fB2)), (hI, .inr (2, [.ref bI, .int uI2])), (bI, .inl (cI, 32, .inl fI2))] := hD.sub [2, 3, 4, 0, 1, 5, 6, 7, 8, 9, 10, 11, 12, 13, 14, 15, 16, 17, 18, 19, 20] rfl rfl
            refine lv_aload_n hx hb dX3_draw_59 rfl (lv_at hl 0 rfl) ?_
            refine va_get (D := D) (ci := 3) (v := .ref qi) (C := RX3) (T := TX3) (N := 12) hx hb hts hw_X3 hown hK hP 0 rfl rfl 0 (by decide) hf_14 (fun _ h9 => h9) rfl dX3_draw_60 ?_
            refine sm_callVv (wc := [(qi, .inr (2, [.ref bi, .int (nI 0)])), (bi, .inl (cI, 300, .inl fi))]) (wr := [(qs, .inr (3, [.ref qi, .ref qo, .ref qd, .ref qk, .ref qv, .ref qf, .ref qa, .ref gh, .ref hk, .int (nI kc), .int ivl, .int drw])), (qd, .inr (2, [.ref bd, .int (nI n)])), (bd, .inl (cI, 400, .inl (sm_ap fD 0 (sm_dr fk fv) n))), (qk, .inr (2, [.ref bk, .int (nI 32)])), (bk, .inl (cI, 32, .inl ((sm_stir (fk, sm_vs fk fv ((n + 31) / 32)) fi 0).1))), (qv, .inr (2, [.ref bv, .int (nI 32)])), (bv, .inl (cI, 32, .inl ((sm_stir (fk, sm_vs fk fv ((n + 31) / 32)) fi 0).2))), (qf, .inr (2, [.ref bf, .int (nI 32)])), (bf, .inl (cI, 32, .inl ff2)), (hk, .inr (1, [.ref hh, .ref hB, .ref hI])), (hh, .inr (0, [.ref hm, .ref aw, .ref ad])), (hm, .inr (2, [.ref bm, .int um2])), (bm, .inl (cI, 448, .inl fm2)), (aw, .inl (cI, 64, .inl fw2)), (ad, .inl (cI, 8, .inl fd2)), (hB, .inr (2, [.ref bB, .int uB2])), (bB, .inl (cI, 64, .inl fB2)), (hI, .inr (2, [.ref bI, .int uI2])), (bI, .inl (cI, 32, .inl fI2))]) (As := []) (rest := []) ⟨hx, hb, hml, hown, hts⟩ (sc_X2_empty l D cI (some (tk, tf)) _ qi bi 300 fi (nI 0) ) (cwV 0 hts gX3_draw_X2_empty rfl rfl rfl (by decide +kernel) ⟨Nat.le_of_ble_eq_true rfl, Nat.le_of_ble_eq_true rfl⟩) hP hD hS hA hK hT [1, 2] [0, 3, 4, 5, 6, 7, 8, 9, 10, 11, 12, 13, 14, 15, 16, 17, 18, 19, 20] rfl rfl rfl rfl (by decide) 0 2 rfl rfl rfl rfl hl.1 rfl (Nat.le_of_ble_eq_true rfl) dX3_draw_63 ⟨Nat.zero_le _, Nat.zero_le _⟩ (fun zt H1 locs ht hvm hB hJ hS => ?_)
            obtain ⟨hP1, -, hD1⟩ := hB
            rw [ht] at hP1
            obtain ⟨hP, hD⟩ := hJ _ hP1 hD1
            clear hJ
            generalize H1 = H at hP hS ⊢
            have hP : va_P D vwCl [(qs, .inr (3, [.ref qi, .ref qo, .ref qd, .ref qk, .ref qv, .ref qf, .ref qa, .ref gh, .ref hk, .int (nI kc), .int ivl, .int drw])), (qi, .inr (2, [.ref bi, .int (nI 0)])), (bi, .inl (cI, 300, .inl fi)), (qd, .inr (2, [.ref bd, .int (nI n)])), (bd, .inl (cI, 400, .inl (sm_ap fD 0 (sm_dr fk fv) n))), (qk, .inr (2, [.ref bk, .int (nI 32)])), (bk, .inl (cI, 32, .inl ((sm_stir (fk, sm_vs fk fv ((n + 31) / 32)) fi 0).1))), (qv, .inr (2, [.ref bv, .int (nI 32)])), (bv, .inl (cI, 32, .inl ((sm_stir (fk, sm_vs fk fv ((n + 31) / 32)) fi 0).2))), (qf, .inr (2, [.ref bf, .int (nI 32)])), (bf, .inl (cI, 32, .inl ff2)), (hk, .inr (1, [.ref hh, .ref hB, .ref hI])), (hh, .inr (0, [.ref hm, .ref aw, .ref ad])), (hm, .inr (2, [.ref bm, .int um2])), (bm, .inl (cI, 448, .inl fm2)), (aw, .inl (cI, 64, .inl fw2)), (ad, .inl (cI, 8, .inl fd2)), (hB, .inr (2, [.ref bB, .int uB2])), (bB, .inl (cI, 64, .inl fB2)), (hI, .inr (2, [.ref bI, .int uI2])), (bI, .inl (cI, 32, .inl fI2))] H := hP.sub [0, 19, 20, 1, 2, 3, 4, 5, 6, 7, 8, 9, 10, 11, 12, 13, 14, 15, 16, 17, 18] rfl
            have hD : va_D A [(qs, .inr (3, [.ref qi, .ref qo, .ref qd, .ref qk, .ref qv, .ref qf, .ref qa, .ref gh, .ref hk, .int (nI kc), .int ivl, .int drw])), (qi, .inr (2, [.ref bi, .int (nI 0)])), (bi, .inl (cI, 300, .inl fi)), (qd, .inr (2, [.ref bd, .int (nI n)])), (bd, .inl (cI, 400, .inl (sm_ap fD 0 (sm_dr fk fv) n))), (qk, .inr (2, [.ref bk, .int (nI 32)])), (bk, .inl (cI, 32, .inl ((sm_stir (fk, sm_vs fk fv ((n + 31) / 32)) fi 0).1))), (qv, .inr (2, [.ref bv, .int (nI 32)])), (bv, .inl (cI, 32, .inl ((sm_stir (fk, sm_vs fk fv ((n + 31) / 32)) fi 0).2))), (qf, .inr (2, [.ref bf, .int (nI 32)])), (bf, .inl (cI, 32, .inl ff2)), (hk, .inr (1, [.ref hh, .ref hB, .ref hI])), (hh, .inr (0, [.ref hm, .ref aw, .ref ad])), (hm, .inr (2, [.ref bm, .int um2])), (bm, .inl (cI, 448, .inl fm2)), (aw, .inl (cI, 64, .inl fw2)), (ad, .inl (cI, 8, .inl fd2)), (hB, .inr (2, [.ref bB, .int uB2])), (bB, .inl (cI, 64, .inl fB2)), (hI, .inr (2, [.ref bI, .int uI2])), (bI, .inl (cI, 32, .inl fI2))] := hD.sub [0, 19, 20, 1, 2, 3, 4, 5, 6, 7, 8, 9, 10, 11, 12, 13, 14, 15, 16, 17, 18] rfl rfl
            refine lv_aload_n hx hb dX3_draw_66 rfl (lv_at hl 0 rfl) ?_
            refine lv_dup hx hb dX3_draw_67 rfl ?_
            refine va_get (D := D) (ci := 3) (v := .int (nI kc)) (C := RX3) (T := TX3) (N := 12) hx hb hts hw_X3 hown hK hP 0 rfl rfl 9 (by decide) hf_50 (fun _ h9 => h9) rfl dX3_draw_68 ?_
            refine lv_iconst (v := 1) hx hb dX3_draw_71 (by decide) ?_
            refine lv_iadd hx hb dX3_draw_72 ?_
            refine va_put (D := D) (ci := 3) (v := .int ((nI kc) + 1)) (ty := .int) (C := RX3) (T := TX3) (N := 12) hx hb hts hw_X3 tyX3 tyX3_ok nmX3 hown hK hP hD hS 0 rfl rfl 9 (by decide) hf_50 (fun _ h9 => h9) rfl (by decide +kernel) rfl rfl (Nat.le_of_ble_eq_true rfl) dX3_draw_73 (fun H locs hP hD hS => ?_)
            have hP : va_P D vwCl [(qs, .inr (3, [.ref qi, .ref qo, .ref qd, .ref qk, .ref qv, .ref qf, .ref qa, .ref gh, .ref hk, .int ((nI kc) + 1), .int ivl, .int drw])), (qi, .inr (2, [.ref bi, .int (nI 0)])), (bi, .inl (cI, 300, .inl fi)), (qd, .inr (2, [.ref bd, .int (nI n)])), (bd, .inl (cI, 400, .inl (sm_ap fD 0 (sm_dr fk fv) n))), (qk, .inr (2, [.ref bk, .int (nI 32)])), (bk, .inl (cI, 32, .inl ((sm_stir (fk, sm_vs fk fv ((n + 31) / 32)) fi 0).1))), (qv, .inr (2, [.ref bv, .int (nI 32)])), (bv, .inl (cI, 32, .inl ((sm_stir (fk, sm_vs fk fv ((n + 31) / 32)) fi 0).2))), (qf, .inr (2, [.ref bf, .int (nI 32)])), (bf, .inl (cI, 32, .inl ff2)), (hk, .inr (1, [.ref hh, .ref hB, .ref hI])), (hh, .inr (0, [.ref hm, .ref aw, .ref ad])), (hm, .inr (2, [.ref bm, .int um2])), (bm, .inl (cI, 448, .inl fm2)), (aw, .inl (cI, 64, .inl fw2)), (ad, .inl (cI, 8, .inl fd2)), (hB, .inr (2, [.ref bB, .int uB2])), (bB, .inl (cI, 64, .inl fB2)), (hI, .inr (2, [.ref bI, .int uI2])), (bI, .inl (cI, 32, .inl fI2))] H := hP
            have hD : va_D A [(qs, .inr (3, [.ref qi, .ref qo, .ref qd, .ref qk, .ref qv, .ref qf, .ref qa, .ref gh, .ref hk, .int ((nI kc) + 1), .int ivl, .int drw])), (qi, .inr (2, [.ref bi, .int (nI 0)])), (bi, .inl (cI, 300, .inl fi)), (qd, .inr (2, [.ref bd, .int (nI n)])), (bd, .inl (cI, 400, .inl (sm_ap fD 0 (sm_dr fk fv) n))), (qk, .inr (2, [.ref bk, .int (nI 32)])), (bk, .inl (cI, 32, .inl ((sm_stir (fk, sm_vs fk fv ((n + 31) / 32)) fi 0).1))), (qv, .inr (2, [.ref bv, .int (nI 32)])), (bv, .inl (cI, 32, .inl ((sm_stir (fk, sm_vs fk fv ((n + 31) / 32)) fi 0).2))), (qf, .inr (2, [.ref bf, .int (nI 32)])), (bf, .inl (cI, 32, .inl ff2)), (hk, .inr (1, [.ref hh, .ref hB, .ref hI])), (hh, .inr (0, [.ref hm, .ref aw, .ref ad])), (hm, .inr (2, [.ref bm, .int um2])), (bm, .inl (cI, 448, .inl fm2)), (aw, .inl (cI, 64, .inl fw2)), (ad, .inl (cI, 8, .inl fd2)), (hB, .inr (2, [.ref bB, .int uB2])), (bB, .inl (cI, 64, .inl fB2)), (hI, .inr (2, [.ref bI, .int uI2])), (bI, .inl (cI, 32, .inl fI2))] := hD
            refine lv_aload_n hx hb dX3_draw_76 rfl (lv_at hl 0 rfl) ?_
            refine lv_dup hx hb dX3_draw_77 rfl ?_
            refine va_get (D := D) (ci := 3) (v := .int drw) (C := RX3) (T := TX3) (N := 12) hx hb hts hw_X3 hown hK hP 0 rfl rfl 11 (by decide) hf_57 (fun _ h9 => h9) rfl dX3_draw_78 ?_
            refine lv_iconst (v := 1) hx hb dX3_draw_81 (by decide) ?_
            refine lv_iadd hx hb dX3_draw_82 ?_
            refine va_put (D := D) (ci := 3) (v := .int (drw + 1)) (ty := .int) (C := RX3) (T := TX3) (N := 12) hx hb hts hw_X3 tyX3 tyX3_ok nmX3 hown hK hP hD hS 0 rfl rfl 11 (by decide) hf_57 (fun _ h9 => h9) rfl (by decide +kernel) rfl rfl (Nat.le_of_ble_eq_true rfl) dX3_draw_83 (fun H locs hP hD hS => ?_)
            have hP : va_P D vwCl [(qs, .inr (3, [.ref qi, .ref qo, .ref qd, .ref qk, .ref qv, .ref qf, .ref qa, .ref gh, .ref hk, .int ((nI kc) + 1), .int ivl, .int (drw + 1)])), (qi, .inr (2, [.ref bi, .int (nI 0)])), (bi, .inl (cI, 300, .inl fi)), (qd, .inr (2, [.ref bd, .int (nI n)])), (bd, .inl (cI, 400, .inl (sm_ap fD 0 (sm_dr fk fv) n))), (qk, .inr (2, [.ref bk, .int (nI 32)])), (bk, .inl (cI, 32, .inl ((sm_stir (fk, sm_vs fk fv ((n + 31) / 32)) fi 0).1))), (qv, .inr (2, [.ref bv, .int (nI 32)])), (bv, .inl (cI, 32, .inl ((sm_stir (fk, sm_vs fk fv ((n + 31) / 32)) fi 0).2))), (qf, .inr (2, [.ref bf, .int (nI 32)])), (bf, .inl (cI, 32, .inl ff2)), (hk, .inr (1, [.ref hh, .ref hB, .ref hI])), (hh, .inr (0, [.ref hm, .ref aw, .ref ad])), (hm, .inr (2, [.ref bm, .int um2])), (bm, .inl (cI, 448, .inl fm2)), (aw, .inl (cI, 64, .inl fw2)), (ad, .inl (cI, 8, .inl fd2)), (hB, .inr (2, [.ref bB, .int uB2])), (bB, .inl (cI, 64, .inl fB2)), (hI, .inr (2, [.ref bI, .int uI2])), (bI, .inl (cI, 32, .inl fI2))] H := hP
            have hD : va_D A [(qs, .inr (3, [.ref qi, .ref qo, .ref qd, .ref qk, .ref qv, .ref qf, .ref qa, .ref gh, .ref hk, .int ((nI kc) + 1), .int ivl, .int (drw + 1)])), (qi, .inr (2, [.ref bi, .int (nI 0)])), (bi, .inl (cI, 300, .inl fi)), (qd, .inr (2, [.ref bd, .int (nI n)])), (bd, .inl (cI, 400, .inl (sm_ap fD 0 (sm_dr fk fv) n))), (qk, .inr (2, [.ref bk, .int (nI 32)])), (bk, .inl (cI, 32, .inl ((sm_stir (fk, sm_vs fk fv ((n + 31) / 32)) fi 0).1))), (qv, .inr (2, [.ref bv, .int (nI 32)])), (bv, .inl (cI, 32, .inl ((sm_stir (fk, sm_vs fk fv ((n + 31) / 32)) fi 0).2))), (qf, .inr (2, [.ref bf, .int (nI 32)])), (bf, .inl (cI, 32, .inl ff2)), (hk, .inr (1, [.ref hh, .ref hB, .ref hI])), (hh, .inr (0, [.ref hm, .ref aw, .ref ad])), (hm, .inr (2, [.ref bm, .int um2])), (bm, .inl (cI, 448, .inl fm2)), (aw, .inl (cI, 64, .inl fw2)), (ad, .inl (cI, 8, .inl fd2)), (hB, .inr (2, [.ref bB, .int uB2])), (bB, .inl (cI, 64, .inl fB2)), (hI, .inr (2, [.ref bI, .int uI2])), (bI, .inl (cI, 32, .inl fI2))] := hD
            refine lv_iconst (v := 0) hx hb dX3_draw_86 (by decide) ?_
            rw [show nI kc + 1 = nI (kc + 1) from nI_1 kc] at hP hD
            rw [hQ]
            have hP9 : va_P D vwCl [(qs, .inr (3, [.ref qi, .ref qo, .ref qd, .ref qk, .ref qv, .ref qf, .ref qa, .ref gh, .ref hk, .int (nI (kc + 1)), .int ivl, .int (drw + 1)])), (qi, .inr (2, [.ref bi, .int (nI 0)])), (bi, .inl (cI, 300, .inl fi)), (qd, .inr (2, [.ref bd, .int (nI n)])), (bd, .inl (cI, 400, .inl (sm_ap fD 0 (sm_dr fk fv) n))), (qk, .inr (2, [.ref bk, .int (nI 32)])), (bk, .inl (cI, 32, .inl ((sm_stir (fk, sm_vs fk fv ((n + 31) / 32)) fi 0).1))), (qv, .inr (2, [.ref bv, .int (nI 32)])), (bv, .inl (cI, 32, .inl ((sm_stir (fk, sm_vs fk fv ((n + 31) / 32)) fi 0).2))), (qf, .inr (2, [.ref bf, .int (nI 32)])), (bf, .inl (cI, 32, .inl ff2)), (hk, .inr (1, [.ref hh, .ref hB, .ref hI])), (hh, .inr (0, [.ref hm, .ref aw, .ref ad])), (hm, .inr (2, [.ref bm, .int um2])), (bm, .inl (cI, 448, .inl fm2)), (aw, .inl (cI, 64, .inl fw2)), (ad, .inl (cI, 8, .inl fd2)), (hB, .inr (2, [.ref bB, .int uB2])), (bB, .inl (cI, 64, .inl fB2)), (hI, .inr (2, [.ref bI, .int uI2])), (bI, .inl (cI, 32, .inl fI2))] H := hP
            have hD9 : va_D A [(qs, .inr (3, [.ref qi, .ref qo, .ref qd, .ref qk, .ref qv, .ref qf, .ref qa, .ref gh, .ref hk, .int (nI (kc + 1)), .int ivl, .int (drw + 1)])), (qi, .inr (2, [.ref bi, .int (nI 0)])), (bi, .inl (cI, 300, .inl fi)), (qd, .inr (2, [.ref bd, .int (nI n)])), (bd, .inl (cI, 400, .inl (sm_ap fD 0 (sm_dr fk fv) n))), (qk, .inr (2, [.ref bk, .int (nI 32)])), (bk, .inl (cI, 32, .inl ((sm_stir (fk, sm_vs fk fv ((n + 31) / 32)) fi 0).1))), (qv, .inr (2, [.ref bv, .int (nI 32)])), (bv, .inl (cI, 32, .inl ((sm_stir (fk, sm_vs fk fv ((n + 31) / 32)) fi 0).2))), (qf, .inr (2, [.ref bf, .int (nI 32)])), (bf, .inl (cI, 32, .inl ff2)), (hk, .inr (1, [.ref hh, .ref hB, .ref hI])), (hh, .inr (0, [.ref hm, .ref aw, .ref ad])), (hm, .inr (2, [.ref bm, .int um2])), (bm, .inl (cI, 448, .inl fm2)), (aw, .inl (cI, 64, .inl fw2)), (ad, .inl (cI, 8, .inl fd2)), (hB, .inr (2, [.ref bB, .int uB2])), (bB, .inl (cI, 64, .inl fB2)), (hI, .inr (2, [.ref bI, .int uI2])), (bI, .inl (cI, 32, .inl fI2))] := hD
            exact W.iret (v := 0) hx hb hr (fun t ht hW => ⟨⟨0, (), rfl, rfl, ⟨_, _, _, _, _, _, _, _, _, hst2, by rw [ht]; exact hP9, va_K.moved hW.alike hK, hD9⟩⟩, hS.F ht⟩) hS.2.2 dX3_draw_87
          ·
            exact absurd (show nI 0 ≤ 0 by decide) c_43
        ·
          exact absurd hiv c_31
      ·
        exact absurd (nI_le (b := 400) hn4 (by decide)) c_18
  ·
    exact absurd c_4 (by decide)

def rm_X3_draw_ok1 : Room := ({ frames := 7, cells := 0, slots := 0, locals := 161 } : Room)
set_option maxHeartbeats 4000000 in
set_option maxRecDepth 100000 in
/-- draw -/
theorem sc_X3_draw_ok1 (l : Launch) (D : va_G) (cI : ClassId) (tk tf : Nat) (sz : Nat) (qs qi bi qo bo qd bd qk bk qv bv qf bf qa ba gh gm gb gw gd hk hh hm bm aw ad hB bB hI bI : Nat) (ivl drw : Int32) (kc : Nat) (ni : Nat) (fi : Nat → Int32) (n : Nat) (fD fk fv ff : Nat → Int32) (ud uf : Int32) (fm : Nat → Int32) (um : Int32) (fw fd fB : Nat → Int32) (uB : Int32) (fI : Nat → Int32) (uI : Int32) (hkc : 0 < kc) (hkc2 : kc < 2 ^ 30) (hn1 : 1 ≤ n) (hn4 : n ≤ 400) (hiv : nI kc ≤ ivl) (hn0 : 0 < ni) (hni : ni ≤ 300) : Met l yX3_draw wsX3_draw rm_X3_draw_ok1 (va_Pc [.ref qs, .int (nI n)] (sm_PW D cI (some (tk, tf)) [(qs, .inr (3, [.ref qi, .ref qo, .ref qd, .ref qk, .ref qv, .ref qf, .ref qa, .ref gh, .ref hk, .int (nI kc), .int ivl, .int drw])), (qi, .inr (2, [.ref bi, .int (nI ni)])), (bi, .inl (cI, 300, .inl fi)), (qd, .inr (2, [.ref bd, .int ud])), (bd, .inl (cI, 400, .inl fD)), (qk, .inr (2, [.ref bk, .int (nI 32)])), (bk, .inl (cI, 32, .inl fk)), (qv, .inr (2, [.ref bv, .int (nI 32)])), (bv, .inl (cI, 32, .inl fv)), (qf, .inr (2, [.ref bf, .int uf])), (bf, .inl (cI, 32, .inl ff)), (hk, .inr (1, [.ref hh, .ref hB, .ref hI])), (hh, .inr (0, [.ref hm, .ref aw, .ref ad])), (hm, .inr (2, [.ref bm, .int um])), (bm, .inl (cI, 448, .inl fm)), (aw, .inl (cI, 64, .inl fw)), (ad, .inl (cI, 8, .inl fd)), (hB, .inr (2, [.ref bB, .int uB])), (bB, .inl (cI, 64, .inl fB)), (hI, .inr (2, [.ref bI, .int uI])), (bI, .inl (cI, 32, .inl fI))] sz)) (va_Qi (fun (r : Int32) (_ : Unit) => r = 0) (fun _ t => ∃ (ff2 : Nat → Int32) (fm2 : Nat → Int32) (um2 : Int32) (fw2 : Nat → Int32) (fd2 : Nat → Int32) (fB2 : Nat → Int32) (uB2 : Int32) (fI2 : Nat → Int32) (uI2 : Int32), (sm_stir ((sm_stir (fk, fv) fi ni).1, sm_vs ((sm_stir (fk, fv) fi ni).1) ((sm_stir (fk, fv) fi ni).2) ((n + 31) / 32)) fi ni).2 = sm_nv (sm_stir ((sm_stir (fk, fv) fi ni).1, sm_vs ((sm_stir (fk, fv) fi ni).1) ((sm_stir (fk, fv) fi ni).2) ((n + 31) / 32)) fi ni).1 ff2 ∧ sm_QW D cI (va_A [(qs, .inr (3, [.ref qi, .ref qo, .ref qd, .ref qk, .ref qv, .ref qf, .ref qa, .ref gh, .ref hk, .int (nI kc), .int ivl, .int drw])), (qi, .inr (2, [.ref bi, .int (nI ni)])), (bi, .inl (cI, 300, .inl fi)), (qd, .inr (2, [.ref bd, .int ud])), (bd, .inl (cI, 400, .inl fD)), (qk, .inr (2, [.ref bk, .int (nI 32)])), (bk, .inl (cI, 32, .inl fk)), (qv, .inr (2, [.ref bv, .int (nI 32)])), (bv, .inl (cI, 32, .inl fv)), (qf, .inr (2, [.ref bf, .int uf])), (bf, .inl (cI, 32, .inl ff)), (hk, .inr (1, [.ref hh, .ref hB, .ref hI])), (hh, .inr (0, [.ref hm, .ref aw, .ref ad])), (hm, .inr (2, [.ref bm, .int um])), (bm, .inl (cI, 448, .inl fm)), (aw, .inl (cI, 64, .inl fw)), (ad, .inl (cI, 8, .inl fd)), (hB, .inr (2, [.ref bB, .int uB])), (bB, .inl (cI, 64, .inl fB)), (hI, .inr (2, [.ref bI, .int uI])), (bI, .inl (cI, 32, .inl fI))] sz) [(qs, .inr (3, [.ref qi, .ref qo, .ref qd, .ref qk, .ref qv, .ref qf, .ref qa, .ref gh, .ref hk, .int (nI (kc + 1)), .int ivl, .int (drw + 1)])), (qi, .inr (2, [.ref bi, .int (nI 0)])), (bi, .inl (cI, 300, .inl fi)), (qd, .inr (2, [.ref bd, .int (nI n)])), (bd, .inl (cI, 400, .inl (sm_ap fD 0 (sm_dr ((sm_stir (fk, fv) fi ni).1) ((sm_stir (fk, fv) fi ni).2)) n))), (qk, .inr (2, [.ref bk, .int (nI 32)])), (bk, .inl (cI, 32, .inl ((sm_stir ((sm_stir (fk, fv) fi ni).1, sm_vs ((sm_stir (fk, fv) fi ni).1) ((sm_stir (fk, fv) fi ni).2) ((n + 31) / 32)) fi ni).1))), (qv, .inr (2, [.ref bv, .int (nI 32)])), (bv, .inl (cI, 32, .inl ((sm_stir ((sm_stir (fk, fv) fi ni).1, sm_vs ((sm_stir (fk, fv) fi ni).1) ((sm_stir (fk, fv) fi ni).2) ((n + 31) / 32)) fi ni).2))), (qf, .inr (2, [.ref bf, .int (nI 32)])), (bf, .inl (cI, 32, .inl ff2)), (hk, .inr (1, [.ref hh, .ref hB, .ref hI])), (hh, .inr (0, [.ref hm, .ref aw, .ref ad])), (hm, .inr (2, [.ref bm, .int um2])), (bm, .inl (cI, 448, .inl fm2)), (aw, .inl (cI, 64, .inl fw2)), (ad, .inl (cI, 8, .inl fd2)), (hB, .inr (2, [.ref bB, .int uB2])), (bB, .inl (cI, 64, .inl fB2)), (hI, .inr (2, [.ref bI, .int uI2])), (bI, .inl (cI, 32, .inl fI2))] t) (va_A [(qs, .inr (3, [.ref qi, .ref qo, .ref qd, .ref qk, .ref qv, .ref qf, .ref qa, .ref gh, .ref hk, .int (nI kc), .int ivl, .int drw])), (qi, .inr (2, [.ref bi, .int (nI ni)])), (bi, .inl (cI, 300, .inl fi)), (qd, .inr (2, [.ref bd, .int ud])), (bd, .inl (cI, 400, .inl fD)), (qk, .inr (2, [.ref bk, .int (nI 32)])), (bk, .inl (cI, 32, .inl fk)), (qv, .inr (2, [.ref bv, .int (nI 32)])), (bv, .inl (cI, 32, .inl fv)), (qf, .inr (2, [.ref bf, .int uf])), (bf, .inl (cI, 32, .inl ff)), (hk, .inr (1, [.ref hh, .ref hB, .ref hI])), (hh, .inr (0, [.ref hm, .ref aw, .ref ad])), (hm, .inr (2, [.ref bm, .int um])), (bm, .inl (cI, 448, .inl fm)), (aw, .inl (cI, 64, .inl fw)), (ad, .inl (cI, 8, .inl fd)), (hB, .inr (2, [.ref bB, .int uB])), (bB, .inl (cI, 64, .inl fB)), (hI, .inr (2, [.ref bI, .int uI])), (bI, .inl (cI, 32, .inl fI))] sz)) 0 0 (va_A [(qs, .inr (3, [.ref qi, .ref qo, .ref qd, .ref qk, .ref qv, .ref qf, .ref qa, .ref gh, .ref hk, .int (nI kc), .int ivl, .int drw])), (qi, .inr (2, [.ref bi, .int (nI ni)])), (bi, .inl (cI, 300, .inl fi)), (qd, .inr (2, [.ref bd, .int ud])), (bd, .inl (cI, 400, .inl fD)), (qk, .inr (2, [.ref bk, .int (nI 32)])), (bk, .inl (cI, 32, .inl fk)), (qv, .inr (2, [.ref bv, .int (nI 32)])), (bv, .inl (cI, 32, .inl fv)), (qf, .inr (2, [.ref bf, .int uf])), (bf, .inl (cI, 32, .inl ff)), (hk, .inr (1, [.ref hh, .ref hB, .ref hI])), (hh, .inr (0, [.ref hm, .ref aw, .ref ad])), (hm, .inr (2, [.ref bm, .int um])), (bm, .inl (cI, 448, .inl fm)), (aw, .inl (cI, 64, .inl fw)), (ad, .inl (cI, 8, .inl fd)), (hB, .inr (2, [.ref bB, .int uB])), (bB, .inl (cI, 64, .inl fB)), (hI, .inr (2, [.ref bI, .int uI])), (bI, .inl (cI, 32, .inl fI))] sz) := by
  refine Met.ofW (cc := cX3_draw) (maxL := 2) (ret := (some .int)) (by decide) rfl ?_
  intro p e s m args below meth c s₁ B hml hv
  obtain ⟨rfl, hsz, hP, hK, hD0, hT⟩ := hv
  have hx := B.exec
  have hb := B.bytes
  have hr := B.returns
  have hts := atoms_spec (ws := wsX3_draw) B.pre
  have hown : s.vm.findClass RX3 = some m.cls := findClass_of_methodNamed B.named
  have hlocks := B.notSynchronized
  subst hsz
  have hD := hD0.self (sz := s.heap.size)
  generalize hAe : va_A [(qs, .inr (3, [.ref qi, .ref qo, .ref qd, .ref qk, .ref qv, .ref qf, .ref qa, .ref gh, .ref hk, .int (nI kc), .int ivl, .int drw])), (qi, .inr (2, [.ref bi, .int (nI ni)])), (bi, .inl (cI, 300, .inl fi)), (qd, .inr (2, [.ref bd, .int ud])), (bd, .inl (cI, 400, .inl fD)), (qk, .inr (2, [.ref bk, .int (nI 32)])), (bk, .inl (cI, 32, .inl fk)), (qv, .inr (2, [.ref bv, .int (nI 32)])), (bv, .inl (cI, 32, .inl fv)), (qf, .inr (2, [.ref bf, .int uf])), (bf, .inl (cI, 32, .inl ff)), (hk, .inr (1, [.ref hh, .ref hB, .ref hI])), (hh, .inr (0, [.ref hm, .ref aw, .ref ad])), (hm, .inr (2, [.ref bm, .int um])), (bm, .inl (cI, 448, .inl fm)), (aw, .inl (cI, 64, .inl fw)), (ad, .inl (cI, 8, .inl fd)), (hB, .inr (2, [.ref bB, .int uB])), (bB, .inl (cI, 64, .inl fB)), (hI, .inr (2, [.ref bI, .int uI])), (bI, .inl (cI, 32, .inl fI))] s.heap.size = A at hD hT ⊢
  have hA : ∀ q : Nat, s.heap.size ≤ q → A q := fun q h => by rw [← hAe]; exact Or.inr h
  have hS : va_S A s.heap s.heap [] := va_S.rf
  have hl := lv_entry ([.ref qs, .int (nI n)]) (n := 2) (Nat.le_of_ble_eq_true rfl)
  rw [lg_entry_eq]
  generalize (lg_sl ([.ref qs, .int (nI n)]) ++ List.replicate (2 - (lg_sl ([.ref qs, .int (nI n)])).length) Slot.unset).toArray = ls at hl ⊢
  have hl : lv_has ls 2 [(0, .ref qs), (1, .int (nI n))] := hl
  refine sm_name (fun Q hQ => ?_)
  have hf_50 := hts (.fieldLink RX3 50 "SeedMill" "drawCounter" "I") (by decide +kernel)
  have hw_X3 : ∀ w ∈ wsX30, w ∈ wsX3_draw := by decide +kernel
  have hf_54 := hts (.fieldLink RX3 54 "SeedMill" "drawInterval" "I") (by decide +kernel)
  have hf_14 := hts (.fieldLink RX3 14 "SeedMill" "input" "LSeedMill$Row;") (by decide +kernel)
  have hf_57 := hts (.fieldLink RX3 57 "SeedMill" "drawsInAll" "I") (by decide +kernel)
  refine lv_aload_n hx hb dX3_draw_0 rfl (lv_at hl 0 rfl) ?_
  refine sm_callVi (wc := [(qs, .inr (3, [.ref qi, .ref qo, .ref qd, .ref qk, .ref qv, .ref qf, .ref qa, .ref gh, .ref hk, .int (nI kc), .int ivl, .int drw]))]) (wr := [(qi, .inr (2, [.ref bi, .int (nI ni)])), (bi, .inl (cI, 300, .inl fi)), (qd, .inr (2, [.ref bd, .int ud])), (bd, .inl (cI, 400, .inl fD)), (qk, .inr (2, [.ref bk, .int (nI 32)])), (bk, .inl (cI, 32, .inl fk)), (qv, .inr (2, [.ref bv, .int (nI 32)])), (bv, .inl (cI, 32, .inl fv)), (qf, .inr (2, [.ref bf, .int uf])), (bf, .inl (cI, 32, .inl ff)), (hk, .inr (1, [.ref hh, .ref hB, .ref hI])), (hh, .inr (0, [.ref hm, .ref aw, .ref ad])), (hm, .inr (2, [.ref bm, .int um])), (bm, .inl (cI, 448, .inl fm)), (aw, .inl (cI, 64, .inl fw)), (ad, .inl (cI, 8, .inl fd)), (hB, .inr (2, [.ref bB, .int uB])), (bB, .inl (cI, 64, .inl fB)), (hI, .inr (2, [.ref bI, .int uI])), (bI, .inl (cI, 32, .inl fI))]) (As := []) (rest := []) ⟨hx, hb, hml, hown, hts⟩ (sc_X3_isSeeded l D cI (some (tk, tf)) _ qs qi bi qo bo qd bd qk bk qv bv qf bf qa ba gh gm gb gw gd hk hh hm bm aw ad hB bB hI bI (nI kc) ivl drw ) (cwV 0 hts gX3_draw_X3_isSeeded rfl rfl rfl (by decide +kernel) ⟨Nat.le_of_ble_eq_true rfl, Nat.le_of_ble_eq_true rfl⟩) hP hD hS hA hK hT [0] [1, 2, 3, 4, 5, 6, 7, 8, 9, 10, 11, 12, 13, 14, 15, 16, 17, 18, 19, 20] rfl rfl rfl rfl (by decide) 0 3 rfl rfl rfl rfl hl.1 rfl (Nat.le_of_ble_eq_true rfl) dX3_draw_1 ⟨Nat.zero_le _, Nat.zero_le _⟩ (fun r_1 zt H1 locs ht hvm hw hB hJ hS => ?_)
  obtain ⟨hP1, -, hD1⟩ := hB
  rw [ht] at hP1
  obtain ⟨hP, hD⟩ := hJ _ hP1 hD1
  clear hJ
  generalize H1 = H at hP hS ⊢
  have hP : va_P D vwCl [(qs, .inr (3, [.ref qi, .ref qo, .ref qd, .ref qk, .ref qv, .ref qf, .ref qa, .ref gh, .ref hk, .int (nI kc), .int ivl, .int drw])), (qi, .inr (2, [.ref bi, .int (nI ni)])), (bi, .inl (cI, 300, .inl fi)), (qd, .inr (2, [.ref bd, .int ud])), (bd, .inl (cI, 400, .inl fD)), (qk, .inr (2, [.ref bk, .int (nI 32)])), (bk, .inl (cI, 32, .inl fk)), (qv, .inr (2, [.ref bv, .int (nI 32)])), (bv, .inl (cI, 32, .inl fv)), (qf, .inr (2, [.ref bf, .int uf])), (bf, .inl (cI, 32, .inl ff)), (hk, .inr (1, [.ref hh, .ref hB, .ref hI])), (hh, .inr (0, [.ref hm, .ref aw, .ref ad])), (hm, .inr (2, [.ref bm, .int um])), (bm, .inl (cI, 448, .inl fm)), (aw, .inl (cI, 64, .inl fw)), (ad, .inl (cI, 8, .inl fd)), (hB, .inr (2, [.ref bB, .int uB])), (bB, .inl (cI, 64, .inl fB)), (hI, .inr (2, [.ref bI, .int uI])), (bI, .inl (cI, 32, .inl fI))] H := hP.sub [20, 0, 1, 2, 3, 4, 5, 6, 7, 8, 9, 10, 11, 12, 13, 14, 15, 16, 17, 18, 19] rfl
  have hD : va_D A [(qs, .inr (3, [.ref qi, .ref qo, .ref qd, .ref qk, .ref qv, .ref qf, .ref qa, .ref gh, .ref hk, .int (nI kc), .int ivl, .int drw])), (qi, .inr (2, [.ref bi, .int (nI ni)])), (bi, .inl (cI, 300, .inl fi)), (qd, .inr (2, [.ref bd, .int ud])), (bd, .inl (cI, 400, .inl fD)), (qk, .inr (2, [.ref bk, .int (nI 32)])), (bk, .inl (cI, 32, .inl fk)), (qv, .inr (2, [.ref bv, .int (nI 32)])), (bv, .inl (cI, 32, .inl fv)), (qf, .inr (2, [.ref bf, .int uf])), (bf, .inl (cI, 32, .inl ff)), (hk, .inr (1, [.ref hh, .ref hB, .ref hI])), (hh, .inr (0, [.ref hm, .ref aw, .ref ad])), (hm, .inr (2, [.ref bm, .int um])), (bm, .inl (cI, 448, .inl fm)), (aw, .inl (cI, 64, .inl fw)), (ad, .inl (cI, 8, .inl fd)), (hB, .inr (2, [.ref bB, .int uB])), (bB, .inl (cI, 64, .inl fB)), (hI, .inr (2, [.ref bI, .int uI])), (bI, .inl (cI, 32, .inl fI))] := hD.sub [20, 0, 1, 2, 3, 4, 5, 6, 7, 8, 9, 10, 11, 12, 13, 14, 15, 16, 17, 18, 19] rfl rfl
  rw [hw]
  refine sm_top (z := 1) (if_pos (nI_lt (a := 0) hkc (by omega))) ?_
  refine lv_if_ne (tgt := 9) hx hb dX3_draw_4 (by decide) (fun c_4 => ?_) (fun c_4 => ?_)
  ·
    refine lv_iload_n hx hb dX3_draw_9 rfl (lv_at hl 1 rfl) ?_
    refine lv_iconst (v := 1) hx hb dX3_draw_10 (by decide) ?_
    refine lv_icmp_lt (tgt := 21) hx hb dX3_draw_11 (by decide) (fun c_11 => ?_) (fun c_11 => ?_)
    ·
      exact absurd c_11 (nI_nlt (b := 1) hn1 (by omega))
    ·
      refine lv_iload_n hx hb dX3_draw_14 rfl (lv_at hl 1 rfl) ?_
      refine lv_sipush (v := 400) hx hb dX3_draw_15 (by decide) ?_
      refine lv_icmp_le (tgt := 23) hx hb dX3_draw_18 (by decide) (fun c_18 => ?_) (fun c_18 => ?_)
      ·
        refine lv_aload_n hx hb dX3_draw_23 rfl (lv_at hl 0 rfl) ?_
        refine va_get (D := D) (ci := 3) (v := .int (nI kc)) (C := RX3) (T := TX3) (N := 12) hx hb hts hw_X3 hown hK hP 0 rfl rfl 9 (by decide) hf_50 (fun _ h9 => h9) rfl dX3_draw_24 ?_
        refine lv_aload_n hx hb dX3_draw_27 rfl (lv_at hl 0 rfl) ?_
        refine va_get (D := D) (ci := 3) (v := .int ivl) (C := RX3) (T := TX3) (N := 12) hx hb hts hw_X3 hown hK hP 0 rfl rfl 10 (by decide) hf_54 (fun _ h9 => h9) rfl dX3_draw_28 ?_
        refine lv_icmp_le (tgt := 36) hx hb dX3_draw_31 (by decide) (fun c_31 => ?_) (fun c_31 => ?_)
        ·
          refine lv_aload_n hx hb dX3_draw_36 rfl (lv_at hl 0 rfl) ?_
          refine va_get (D := D) (ci := 3) (v := .ref qi) (C := RX3) (T := TX3) (N := 12) hx hb hts hw_X3 hown hK hP 0 rfl rfl 0 (by decide) hf_14 (fun _ h9 => h9) rfl dX3_draw_37 ?_
          refine sm_callVi (wc := [(qi, .inr (2, [.ref bi, .int (nI ni)])), (bi, .inl (cI, 300, .inl fi))]) (wr := [(qs, .inr (3, [.ref qi, .ref qo, .ref qd, .ref qk, .ref qv, .ref qf, .ref qa, .ref gh, .ref hk, .int (nI kc), .int ivl, .int drw])), (qd, .inr (2, [.ref bd, .int ud])), (bd, .inl (cI, 400, .inl fD)), (qk, .inr (2, [.ref bk, .int (nI 32)])), (bk, .inl (cI, 32, .inl fk)), (qv, .inr (2, [.ref bv, .int (nI 32)])), (bv, .inl (cI, 32, .inl fv)), (qf, .inr (2, [.ref bf, .int uf])), (bf, .inl (cI, 32, .inl ff)), (hk, .inr (1, [.ref hh, .ref hB, .ref hI])), (hh, .inr (0, [.ref hm, .ref aw, .ref ad])), (hm, .inr (2, [.ref bm, .int um])), (bm, .inl (cI, 448, .inl fm)), (aw, .inl (cI, 64, .inl fw)), (ad, .inl (cI, 8, .inl fd)), (hB, .inr (2, [.ref bB, .int uB])), (bB, .inl (cI, 64, .inl fB)), (hI, .inr (2, [.ref bI, .int uI])), (bI, .inl (cI, 32, .inl fI))]) (As := []) (rest := []) ⟨hx, hb, hml, hown, hts⟩ (sc_X2_size l D cI (some (tk, tf)) _ qi bi 300 fi (nI ni) ) (cwV 0 hts gX3_draw_X2_size rfl rfl rfl (by decide +kernel) ⟨Nat.le_of_ble_eq_true rfl, Nat.le_of_ble_eq_true rfl⟩) hP hD hS hA hK hT [1, 2] [0, 3, 4, 5, 6, 7, 8, 9, 10, 11, 12, 13, 14, 15, 16, 17, 18, 19, 20] rfl rfl rfl rfl (by decide) 0 2 rfl rfl rfl rfl hl.1 rfl (Nat.le_of_ble_eq_true rfl) dX3_draw_40 ⟨Nat.zero_le _, Nat.zero_le _⟩ (fun r_40 zt H1 locs ht hvm hw hB hJ hS => ?_)
          obtain ⟨hP1, -, hD1⟩ := hB
          rw [ht] at hP1
          obtain ⟨hP, hD⟩ := hJ _ hP1 hD1
          clear hJ
          generalize H1 = H at hP hS ⊢
          have hP : va_P D vwCl [(qs, .inr (3, [.ref qi, .ref qo, .ref qd, .ref qk, .ref qv, .ref qf, .ref qa, .ref gh, .ref hk, .int (nI kc), .int ivl, .int drw])), (qi, .inr (2, [.ref bi, .int (nI ni)])), (bi, .inl (cI, 300, .inl fi)), (qd, .inr (2, [.ref bd, .int ud])), (bd, .inl (cI, 400, .inl fD)), (qk, .inr (2, [.ref bk, .int (nI 32)])), (bk, .inl (cI, 32, .inl fk)), (qv, .inr (2, [.ref bv, .int (nI 32)])), (bv, .inl (cI, 32, .inl fv)), (qf, .inr (2, [.ref bf, .int uf])), (bf, .inl (cI, 32, .inl ff)), (hk, .inr (1, [.ref hh, .ref hB, .ref hI])), (hh, .inr (0, [.ref hm, .ref aw, .ref ad])), (hm, .inr (2, [.ref bm, .int um])), (bm, .inl (cI, 448, .inl fm)), (aw, .inl (cI, 64, .inl fw)), (ad, .inl (cI, 8, .inl fd)), (hB, .inr (2, [.ref bB, .int uB])), (bB, .inl (cI, 64, .inl fB)), (hI, .inr (2, [.ref bI, .int uI])), (bI, .inl (cI, 32, .inl fI))] H := hP.sub [0, 19, 20, 1, 2, 3, 4, 5, 6, 7, 8, 9, 10, 11, 12, 13, 14, 15, 16, 17, 18] rfl
          have hD : va_D A [(qs, .inr (3, [.ref qi, .ref qo, .ref qd, .ref qk, .ref qv, .ref qf, .ref qa, .ref gh, .ref hk, .int (nI kc), .int ivl, .int drw])), (qi, .inr (2, [.ref bi, .int (nI ni)])), (bi, .inl (cI, 300, .inl fi)), (qd, .inr (2, [.ref bd, .int ud])), (bd, .inl (cI, 400, .inl fD)), (qk, .inr (2, [.ref bk, .int (nI 32)])), (bk, .inl (cI, 32, .inl fk)), (qv, .inr (2, [.ref bv, .int (nI 32)])), (bv, .inl (cI, 32, .inl fv)), (qf, .inr (2, [.ref bf, .int uf])), (bf, .inl (cI, 32, .inl ff)), (hk, .inr (1, [.ref hh, .ref hB, .ref hI])), (hh, .inr (0, [.ref hm, .ref aw, .ref ad])), (hm, .inr (2, [.ref bm, .int um])), (bm, .inl (cI, 448, .inl fm)), (aw, .inl (cI, 64, .inl fw)), (ad, .inl (cI, 8, .inl fd)), (hB, .inr (2, [.ref bB, .int uB])), (bB, .inl (cI, 64, .inl fB)), (hI, .inr (2, [.ref bI, .int uI])), (bI, .inl (cI, 32, .inl fI))] := hD.sub [0, 19, 20, 1, 2, 3, 4, 5, 6, 7, 8, 9, 10, 11, 12, 13, 14, 15, 16, 17, 18] rfl rfl
          rw [hw]
          refine lv_if_le (tgt := 50) hx hb dX3_draw_43 (by decide) (fun c_43 => ?_) (fun c_43 => ?_)
          ·
            exact absurd c_43 (nI_nle hn0 (by omega))
          ·
            refine lv_aload_n hx hb dX3_draw_46 rfl (lv_at hl 0 rfl) ?_
            refine sm_callVv (wc := [(qs, .inr (3, [.ref qi, .ref qo, .ref qd, .ref qk, .ref qv, .ref qf, .ref qa, .ref gh, .ref hk, .int (nI kc), .int ivl, .int drw])), (qi, .inr (2, [.ref bi, .int (nI ni)])), (bi, .inl (cI, 300, .inl fi)), (qk, .inr (2, [.ref bk, .int (nI 32)])), (bk, .inl (cI, 32, .inl fk)), (qv, .inr (2, [.ref bv, .int (nI 32)])), (bv, .inl (cI, 32, .inl fv)), (qf, .inr (2, [.ref bf, .int uf])), (bf, .inl (cI, 32, .inl ff)), (hk, .inr (1, [.ref hh, .ref hB, .ref hI])), (hh, .inr (0, [.ref hm, .ref aw, .ref ad])), (hm, .inr (2, [.ref bm, .int um])), (bm, .inl (cI, 448, .inl fm)), (aw, .inl (cI, 64, .inl fw)), (ad, .inl (cI, 8, .inl fd)), (hB, .inr (2, [.ref bB, .int uB])), (bB, .inl (cI, 64, .inl fB)), (hI, .inr (2, [.ref bI, .int uI])), (bI, .inl (cI, 32, .inl fI))]) (wr := [(qd, .inr (2, [.ref bd, .int ud])), (bd, .inl (cI, 400, .inl fD))]) (As := []) (rest := []) ⟨hx, hb, hml, hown, hts⟩ (sc_X3_stir l D cI tk tf _ qs qi bi qo bo qd bd qk bk qv bv qf bf qa ba gh gm gb gw gd hk hh hm bm aw ad hB bB hI bI (nI kc) ivl drw ni fi fk fv ff uf fm um fw fd fB uB fI uI hni) (cwV 0 hts gX3_draw_X3_stir rfl rfl rfl (by decide +kernel) ⟨Nat.le_of_ble_eq_true rfl, Nat.le_of_ble_eq_true rfl⟩) hP hD hS hA hK hT [0, 1, 2, 5, 6, 7, 8, 9, 10, 11, 12, 13, 14, 15, 16, 17, 18, 19, 20] [3, 4] rfl rfl rfl rfl (by decide) 0 3 rfl rfl rfl rfl hl.1 rfl (Nat.le_of_ble_eq_true rfl) dX3_draw_47 ⟨Nat.zero_le _, Nat.zero_le _⟩ (fun zt H1 locs ht hvm hB hJ hS => ?_)
            obtain ⟨ff1, fm1, um1, fw1, fd1, fB1, uB1, fI1, uI1, hst1, hP1, -, hD1⟩ := hB
            rw [ht] at hP1
            obtain ⟨hP, hD⟩ := hJ _ hP1 hD1
            clear hJ
            generalize H1 = H at hP hS ⊢
            have hP : va_P D vwCl [(qs, .inr (3, [.ref qi, .ref qo, .ref qd, .ref qk, .ref qv, .ref qf, .ref qa, .ref gh, .ref hk, .int (nI kc), .int ivl, .int drw])), (qi, .inr (2, [.ref bi, .int (nI ni)])), (bi, .inl (cI, 300, .inl fi)), (qd, .inr (2, [.ref bd, .int ud])), (bd, .inl (cI, 400, .inl fD)), (qk, .inr (2, [.ref bk, .int (nI 32)])), (bk, .inl (cI, 32, .inl ((sm_stir (fk, fv) fi ni).1))), (qv, .inr (2, [.ref bv, .int (nI 32)])), (bv, .inl (cI, 32, .inl ((sm_stir (fk, fv) fi ni).2))), (qf, .inr (2, [.ref bf, .int (nI 32)])), (bf, .inl (cI, 32, .inl ff1)), (hk, .inr (1, [.ref hh, .ref hB, .ref hI])), (hh, .inr (0, [.ref hm, .ref aw, .ref ad])), (hm, .inr (2, [.ref bm, .int um1])), (bm, .inl (cI, 448, .inl fm1)), (aw, .inl (cI, 64, .inl fw1)), (ad, .inl (cI, 8, .inl fd1)), (hB, .inr (2, [.ref bB, .int uB1])), (bB, .inl (cI, 64, .inl fB1)), (hI, .inr (2, [.ref bI, .int uI1])), (bI, .inl (cI, 32, .inl fI1))] H := hP.sub [2, 3, 4, 0, 1, 5, 6, 7, 8, 9, 10, 11, 12, 13, 14, 15, 16, 17, 18, 19, 20] rfl
            have hD : va_D A [(qs, .inr (3, [.ref qi, .ref qo, .ref qd, .ref qk, .ref qv, .ref qf, .ref qa, .ref gh, .ref hk, .int (nI kc), .int ivl, .int drw])), (qi, .inr (2, [.ref bi, .int (nI ni)])), (bi, .inl (cI, 300, .inl fi)), (qd, .inr (2, [.ref bd, .int ud])), (bd, .inl (cI, 400, .inl fD)), (qk, .inr (2, [.ref bk, .int (nI 32)])), (bk, .inl (cI, 32, .inl ((sm_stir (fk, fv) fi ni).1))), (qv, .inr (2, [.ref bv, .int (nI 32)])), (bv, .inl (cI, 32, .inl ((sm_stir (fk, fv) fi ni).2))), (qf, .inr (2, [.ref bf, .int (nI 32)])), (bf, .inl (cI, 32, .inl ff1)), (hk, .inr (1, [.ref hh, .ref hB, .ref hI])), (hh, .inr (0, [.ref hm, .ref aw, .ref ad])), (hm, .inr (2, [.ref bm, .int um1])), (bm, .inl (cI, 448, .inl fm1)), (aw, .inl (cI, 64, .inl fw1)), (ad, .inl (cI, 8, .inl fd1)), (hB, .inr (2, [.ref bB, .int uB1])), (bB, .inl (cI, 64, .inl fB1)), (hI, .inr (2, [.ref bI, .int uI1])), (bI, .inl (cI, 32, .inl fI1))] := hD.sub [2, 3, 4, 0, 1, 5, 6, 7, 8, 9, 10, 11, 12, 13, 14, 15, 16, 17, 18, 19, 20] rfl rfl
            refine lv_aload_n hx hb dX3_draw_50 rfl (lv_at hl 0 rfl) ?_
            refine lv_iload_n hx hb dX3_draw_51 rfl (lv_at hl 1 rfl) ?_
            refine sm_callVv (wc := [(qs, .inr (3, [.ref qi, .ref qo, .ref qd, .ref qk, .ref qv, .ref qf, .ref qa, .ref gh, .ref hk, .int (nI kc), .int ivl, .int drw])), (qd, .inr (2, [.ref bd, .int ud])), (bd, .inl (cI, 400, .inl fD)), (qk, .inr (2, [.ref bk, .int (nI 32)])), (bk, .inl (cI, 32, .inl ((sm_stir (fk, fv) fi ni).1))), (qv, .inr (2, [.ref bv, .int (nI 32)])), (bv, .inl (cI, 32, .inl ((sm_stir (fk, fv) fi ni).2))), (qf, .inr (2, [.ref bf, .int (nI 32)])), (bf, .inl (cI, 32, .inl ff1)), (hk, .inr (1, [.ref hh, .ref hB, .ref hI])), (hh, .inr (0, [.ref hm, .ref aw, .ref ad])), (hm, .inr (2, [.ref bm, .int um1])), (bm, .inl (cI, 448, .inl fm1)), (aw, .inl (cI, 64, .inl fw1)), (ad, .inl (cI, 8, .inl fd1)), (hB, .inr (2, [.ref bB, .int uB1])), (bB, .inl (cI, 64, .inl fB1)), (hI, .inr (2, [.ref bI, .int uI1])), (bI, .inl (cI, 32, .inl fI1))]) (wr := [(qi, .inr (2, [.ref bi, .int (nI ni)])), (bi, .inl (cI, 300, .inl fi))]) (As := [.int (nI n)]) (rest := []) ⟨hx, hb, hml, hown, hts⟩ (sc_X3_fillDrawn l D cI tk tf _ qs qi bi qo bo qd bd qk bk qv bv qf bf qa ba gh gm gb gw gd hk hh hm bm aw ad hB bB hI bI ivl drw kc n fD ((sm_stir (fk, fv) fi ni).1) ((sm_stir (fk, fv) fi ni).2) ff1 ud (nI 32) fm1 um1 fw1 fd1 fB1 uB1 fI1 uI1 hn1 hn4) (cwV 1 hts gX3_draw_X3_fillDrawn rfl rfl rfl (by decide +kernel) ⟨Nat.le_of_ble_eq_true rfl, Nat.le_of_ble_eq_true rfl⟩) hP hD hS hA hK hT [0, 3, 4, 5, 6, 7, 8, 9, 10, 11, 12, 13, 14, 15, 16, 17, 18, 19, 20] [1, 2] rfl rfl rfl rfl (by decide) 0 3 rfl rfl rfl rfl hl.1 rfl (Nat.le_of_ble_eq_true rfl) dX3_draw_52 ⟨Nat.zero_le _, Nat.zero_le _⟩ (fun zt H1 locs ht hvm hB hJ hS => ?_)
            obtain ⟨ffg, ufg, fmg, umg, fwg, fdg, fBg, uBg, fIg, uIg, hP1, -, hD1⟩ := hB
            rw [ht] at hP1
            obtain ⟨hP, hD⟩ := hJ _ hP1 hD1
            clear hJ
            generalize H1 = H at hP hS ⊢
            have hP : va_P D vwCl [(qs, .inr (3, [.ref qi, .ref qo, .ref qd, .ref qk, .ref qv, .ref qf, .ref qa, .ref gh, .ref hk, .int (nI kc), .int ivl, .int drw])), (qi, .inr (2, [.ref bi, .int (nI ni)])), (bi, .inl (cI, 300, .inl fi)), (qd, .inr (2, [.ref bd, .int (nI n)])), (bd, .inl (cI, 400, .inl (sm_ap fD 0 (sm_dr ((sm_stir (fk, fv) fi ni).1) ((sm_stir (fk, fv) fi ni).2)) n))), (qk, .inr (2, [.ref bk, .int (nI 32)])), (bk, .inl (cI, 32, .inl ((sm_stir (fk, fv) fi ni).1))), (qv, .inr (2, [.ref bv, .int (nI 32)])), (bv, .inl (cI, 32, .inl (sm_vs ((sm_stir (fk, fv) fi ni).1) ((sm_stir (fk, fv) fi ni).2) ((n + 31) / 32)))), (qf, .inr (2, [.ref bf, .int ufg])), (bf, .inl (cI, 32, .inl ffg)), (hk, .inr (1, [.ref hh, .ref hB, .ref hI])), (hh, .inr (0, [.ref hm, .ref aw, .ref ad])), (hm, .inr (2, [.ref bm, .int umg])), (bm, .inl (cI, 448, .inl fmg)), (aw, .inl (cI, 64, .inl fwg)), (ad, .inl (cI, 8, .inl fdg)), (hB, .inr (2, [.ref bB, .int uBg])), (bB, .inl (cI, 64, .inl fBg)), (hI, .inr (2, [.ref bI, .int uIg])), (bI, .inl (cI, 32, .inl fIg))] H := hP.sub [2, 0, 1, 3, 4, 5, 6, 7, 8, 9, 10, 11, 12, 13, 14, 15, 16, 17, 18, 19, 20] rfl
            have hD : va_D A [(qs, .inr (3, [.ref qi, .ref qo, .ref qd, .ref qk, .ref qv, .ref qf, .ref qa, .ref gh, .ref hk, .int (nI kc), .int ivl, .int drw])), (qi, .inr (2, [.ref bi, .int (nI ni)])), (bi, .inl (cI, 300, .inl fi)), (qd, .inr (2, [.ref bd, .int (nI n)])), (bd, .inl (cI, 400, .inl (sm_ap fD 0 (sm_dr ((sm_stir (fk, fv) fi ni).1) ((sm_stir (fk, fv) fi ni).2)) n))), (qk, .inr (2, [.ref bk, .int (nI 32)])), (bk, .inl (cI, 32, .inl ((sm_stir (fk, fv) fi ni).1))), (qv, .inr (2, [.ref bv, .int (nI 32)])), (bv, .inl (cI, 32, .inl (sm_vs ((sm_stir (fk, fv) fi ni).1) ((sm_stir (fk, fv) fi ni).2) ((n + 31) / 32)))), (qf, .inr (2, [.ref bf, .int ufg])), (bf, .inl (cI, 32, .inl ffg)), (hk, .inr (1, [.ref hh, .ref hB, .ref hI])), (hh, .inr (0, [.ref hm, .ref aw, .ref ad])), (hm, .inr (2, [.ref bm, .int umg])), (bm, .inl (cI, 448, .inl fmg)), (aw, .inl (cI, 64, .inl fwg)), (ad, .inl (cI, 8, .inl fdg)), (hB, .inr (2, [.ref bB, .int uBg])), (bB, .inl (cI, 64, .inl fBg)), (hI, .inr (2, [.ref bI, .int uIg])), (bI, .inl (cI, 32, .inl fIg))] := hD.sub [2, 0, 1, 3, 4, 5, 6, 7, 8, 9, 10, 11, 12, 13, 14, 15, 16, 17, 18, 19, 20] rfl rfl
            refine lv_aload_n hx hb dX3_draw_55 rfl (lv_at hl 0 rfl) ?_
            refine sm_callVv (wc := [(qs, .inr (3, [.ref qi, .ref qo, .ref qd, .ref qk, .ref qv, .ref qf, .ref qa, .ref gh, .ref hk, .int (nI kc), .int ivl, .int drw])), (qi, .inr (2, [.ref bi, .int (nI ni)])), (bi, .inl (cI, 300, .inl fi)), (qk, .inr (2, [.ref bk, .int (nI 32)])), (bk, .inl (cI, 32, .inl ((sm_stir (fk, fv) fi ni).1))), (qv, .inr (2, [.ref bv, .int (nI 32)])), (bv, .inl (cI, 32, .inl (sm_vs ((sm_stir (fk, fv) fi ni).1) ((sm_stir (fk, fv) fi ni).2) ((n + 31) / 32)))), (qf, .inr (2, [.ref bf, .int ufg])), (bf, .inl (cI, 32, .inl ffg)), (hk, .inr (1, [.ref hh, .ref hB, .ref hI])), (hh, .inr (0, [.ref hm, .ref aw, .ref ad])), (hm, .inr (2, [.ref bm, .int umg])), (bm, .inl (cI, 448, .inl fmg)), (aw, .inl (cI, 64, .inl fwg)), (ad, .inl (cI, 8, .inl fdg)), (hB, .inr (2, [.ref bB, .int uBg])), (bB, .inl (cI, 64, .inl fBg)), (hI, .inr (2, [.ref bI, .int uIg])), (bI, .inl (cI, 32, .inl fIg))]) (wr := [(qd, .inr (2, [.ref bd, .int (nI n)])), (bd, .inl (cI, 400, .inl (sm_ap fD 0 (sm_dr ((sm_stir (fk, fv) fi ni).1) ((sm_stir (fk, fv) fi ni).2)) n)))]) (As := []) (rest := []) ⟨hx, hb, hml, hown, hts⟩ (sc_X3_stir l D cI tk tf _ qs qi bi qo bo qd bd qk bk qv bv qf bf qa ba gh gm gb gw gd hk hh hm bm aw ad hB bB hI bI (nI kc) ivl drw ni fi ((sm_stir (fk, fv) fi ni).1) (sm_vs ((sm_stir (fk, fv) fi ni).1) ((sm_stir (fk, fv) fi ni).2) ((n + 31) / 32)) ffg ufg fmg umg fwg fdg fBg uBg fIg uIg hni) (cwV 0 hts gX3_draw_X3_stir rfl rfl rfl (by decide +kernel) ⟨Nat.le_of_ble_eq_true rfl, Nat.le_of_ble_eq_true rfl⟩) hP hD hS hA hK hT [0, 1, 2, 5, 6, 7, 8, 9, 10, 11, 12, 13, 14, 15, 16, 17, 18, 19, 20] [3, 4] rfl rfl rfl rfl (by decide) 0 3 rfl rfl rfl rfl hl.1 rfl (Nat.le_of_ble_eq_true rfl) dX3_draw_56 ⟨Nat.zero_le _, Nat.zero_le _⟩ (fun zt H1 locs ht hvm hB hJ hS => ?_)
            obtain ⟨ff2, fm2, um2, fw2, fd2, fB2, uB2, fI2, uI2, hst2, hP1, -, hD1⟩ := hB
            rw [ht] at hP1
            obtain ⟨hP, hD⟩ := hJ _ hP1 hD1
            clear hJ
            generalize H1 = H at hP hS ⊢
            have hP : va_P D vwCl [(qs, .inr (3, [.ref qi, .ref qo, .ref qd, .ref qk, .ref qv, .ref qf, .ref qa, .ref gh, .ref hk, .int (nI kc), .int ivl, .int drw])), (qi, .inr (2, [.ref bi, .int (nI ni)])), (bi, .inl (cI, 300, .inl fi)), (qd, .inr (2, [.ref bd, .int (nI n)])), (bd, .inl (cI, 400, .inl (sm_ap fD 0 (sm_dr ((sm_stir (fk, fv) fi ni).1) ((sm_stir (fk, fv) fi ni).2)) n))), (qk, .inr (2, [.ref bk, .int (nI 32)])), (bk, .inl (cI, 32, .inl ((sm_stir ((sm_stir (fk, fv) fi ni).1, sm_vs ((sm_stir (fk, fv) fi ni).1) ((sm_stir (fk, fv) fi ni).2) ((n + 31) / 32)) fi ni).1))), (qv, .inr (2, [.ref bv, .int (nI 32)])), (bv, .inl (cI, 32, .inl ((sm_stir ((sm_stir (fk, fv) fi ni).1, sm_vs ((sm_stir (fk, fv) fi ni).1) ((sm_stir (fk, fv) fi ni).2) ((n + 31) / 32)) fi ni).2))), (qf, .inr (2, [.ref bf, .int (nI 32)])), (bf, .inl (cI, 32, .inl ff2)), (hk, .inr (1, [.ref hh, .ref hB, .ref hI])), (hh, .inr (0, [.ref hm, .ref aw, .ref ad])), (hm, .inr (2, [.ref bm, .int um2])), (bm, .inl (cI, 448, .inl fm2)), (aw, .inl (cI, 64, .inl fw2)), (ad, .inl (cI, 8, .inl fd2)), (hB, .inr (2, [.ref bB, .int uB2])), (bB, .inl (cI, 64, .inl fB2)), (hI, .inr (2, [.ref bI, .int uI2])), (bI, .inl (cI, 32, .inl fI2))] H := hP.sub [2, 3, 4, 0, 1, 5, 6, 7, 8, 9, 10, 11, 12, 13, 14, 15, 16, 17, 18, 19, 20] rfl
            have hD : va_D A [(qs, .inr (3, [.ref qi, .ref qo, .ref qd, .ref qk, .ref qv, .ref qf, .ref qa, .ref gh, .ref hk, .int (nI kc), .int ivl, .int drw])), (qi, .inr (2, [.ref bi, .int (nI ni)])), (bi, .inl (cI, 300, .inl fi)), (qd, .inr (2, [.ref bd, .int (nI n)])), (bd, .inl (cI, 400, .inl (sm_ap fD 0 (sm_dr ((sm_stir (fk, fv) fi ni).1) ((sm_stir (fk, fv) fi ni).2)) n))), (qk, .inr (2, [.ref bk, .int (nI 32)])), (bk, .inl (cI, 32, .inl ((sm_stir ((sm_stir (fk, fv) fi ni).1, sm_vs ((sm_stir (fk, fv) fi ni).1) ((sm_stir (fk, fv) fi ni).2) ((n + 31) / 32)) fi ni).1))), (qv, .inr (2, [.ref bv, .int (nI 32)])), (bv, .inl (cI, 32, .inl ((sm_stir ((sm_stir (fk, fv) fi ni).1, sm_vs ((sm_stir (fk, fv) fi ni).1) ((sm_stir (fk, fv) fi ni).2) ((n + 31) / 32)) fi ni).2))), (qf, .inr (2, [.ref bf, .int (nI 32)])), (bf, .inl (cI, 32, .inl ff2)), (hk, .inr (1, [.ref hh, .ref hB, .ref hI])), (hh, .inr (0, [.ref hm, .ref aw, .ref ad])), (hm, .inr (2, [.ref bm, .int um2])), (bm, .inl (cI, 448, .inl fm2)), (aw, .inl (cI, 64, .inl fw2)), (ad, .inl (cI, 8, .inl fd2)), (hB, .inr (2, [.ref bB, .int uB2])), (bB, .inl (cI, 64, .inl fB2)), (hI, .inr (2, [.ref bI, .int uI2])), (bI, .inl (cI, 32, .inl fI2))] := hD.sub [2, 3, 4, 0, 1, 5, 6, 7, 8, 9, 10, 11, 12, 13, 14, 15, 16, 17, 18, 19, 20] rfl rfl
            refine lv_aload_n hx hb dX3_draw_59 rfl (lv_at hl 0 rfl) ?_
            refine va_get (D := D) (ci := 3) (v := .ref qi) (C := RX3) (T := TX3) (N := 12) hx hb hts hw_X3 hown hK hP 0 rfl rfl 0 (by decide) hf_14 (fun _ h9 => h9) rfl dX3_draw_60 ?_
            refine sm_callVv (wc := [(qi, .inr (2, [.ref bi, .int (nI ni)])), (bi, .inl (cI, 300, .inl fi))]) (wr := [(qs, .inr (3, [.ref qi, .ref qo, .ref qd, .ref qk, .ref qv, .ref qf, .ref qa, .ref gh, .ref hk, .int (nI kc), .int ivl, .int drw])), (qd, .inr (2, [.ref bd, .int (nI n)])), (bd, .inl (cI, 400, .inl (sm_ap fD 0 (sm_dr ((sm_stir (fk, fv) fi ni).1) ((sm_stir (fk, fv) fi ni).2)) n))), (qk, .inr (2, [.ref bk, .int (nI 32)])), (bk, .inl (cI, 32, .inl ((sm_stir ((sm_stir (fk, fv) fi ni).1, sm_vs ((sm_stir (fk, fv) fi ni).1) ((sm_stir (fk, fv) fi ni).2) ((n + 31) / 32)) fi ni).1))), (qv, .inr (2, [.ref bv, .int (nI 32)])), (bv, .inl (cI, 32, .inl ((sm_stir ((sm_stir (fk, fv) fi ni).1, sm_vs ((sm_stir (fk, fv) fi ni).1) ((sm_stir (fk, fv) fi ni).2) ((n + 31) / 32)) fi ni).2))), (qf, .inr (2, [.ref bf, .int (nI 32)])), (bf, .inl (cI, 32, .inl ff2)), (hk, .inr (1, [.ref hh, .ref hB, .ref hI])), (hh, .inr (0, [.ref hm, .ref aw, .ref ad])), (hm, .inr (2, [.ref bm, .int um2])), (bm, .inl (cI, 448, .inl fm2)), (aw, .inl (cI, 64, .inl fw2)), (ad, .inl (cI, 8, .inl fd2)), (hB, .inr (2, [.ref bB, .int uB2])), (bB, .inl (cI, 64, .inl fB2)), (hI, .inr (2, [.ref bI, .int uI2])), (bI, .inl (cI, 32, .inl fI2))]) (As := []) (rest := []) ⟨hx, hb, hml, hown, hts⟩ (sc_X2_empty l D cI (some (tk, tf)) _ qi bi 300 fi (nI ni) ) (cwV 0 hts gX3_draw_X2_empty rfl rfl rfl (by decide +kernel) ⟨Nat.le_of_ble_eq_true rfl, Nat.le_of_ble_eq_true rfl⟩) hP hD hS hA hK hT [1, 2] [0, 3, 4, 5, 6, 7, 8, 9, 10, 11, 12, 13, 14, 15, 16, 17, 18, 19, 20] rfl rfl rfl rfl (by decide) 0 2 rfl rfl rfl rfl hl.1 rfl (Nat.le_of_ble_eq_true rfl) dX3_draw_63 ⟨Nat.zero_le _, Nat.zero_le _⟩ (fun zt H1 locs ht hvm hB hJ hS => ?_)
            obtain ⟨hP1, -, hD1⟩ := hB
            rw [ht] at hP1
            obtain ⟨hP, hD⟩ := hJ _ hP1 hD1
            clear hJ
            generalize H1 = H at hP hS ⊢
            have hP : va_P D vwCl [(qs, .inr (3, [.ref qi, .ref qo, .ref qd, .ref qk, .ref qv, .ref qf, .ref qa, .ref gh, .ref hk, .int (nI kc), .int ivl, .int drw])), (qi, .inr (2, [.ref bi, .int (nI 0)])), (bi, .inl (cI, 300, .inl fi)), (qd, .inr (2, [.ref bd, .int (nI n)])), (bd, .inl (cI, 400, .inl (sm_ap fD 0 (sm_dr ((sm_stir (fk, fv) fi ni).1) ((sm_stir (fk, fv) fi ni).2)) n))), (qk, .inr (2, [.ref bk, .int (nI 32)])), (bk, .inl (cI, 32, .inl ((sm_stir ((sm_stir (fk, fv) fi ni).1, sm_vs ((sm_stir (fk, fv) fi ni).1) ((sm_stir (fk, fv) fi ni).2) ((n + 31) / 32)) fi ni).1))), (qv, .inr (2, [.ref bv, .int (nI 32)])), (bv, .inl (cI, 32, .inl ((sm_stir ((sm_stir (fk, fv) fi ni).1, sm_vs ((sm_stir (fk, fv) fi ni).1) ((sm_stir (fk, fv) fi ni).2) ((n + 31) / 32)) fi ni).2))), (qf, .inr (2, [.ref bf, .int (nI 32)])), (bf, .inl (cI, 32, .inl ff2)), (hk, .inr (1, [.ref hh, .ref hB, .ref hI])), (hh, .inr (0, [.ref hm, .ref aw, .ref ad])), (hm, .inr (2, [.ref bm, .int um2])), (bm, .inl (cI, 448, .inl fm2)), (aw, .inl (cI, 64, .inl fw2)), (ad, .inl (cI, 8, .inl fd2)), (hB, .inr (2, [.ref bB, .int uB2])), (bB, .inl (cI, 64, .inl fB2)), (hI, .inr (2, [.ref bI, .int uI2])), (bI, .inl (cI, 32, .inl fI2))] H := hP.sub [0, 19, 20, 1, 2, 3, 4, 5, 6, 7, 8, 9, 10, 11, 12, 13, 14, 15, 16, 17, 18] rfl
            have hD : va_D A [(qs, .inr (3, [.ref qi, .ref qo, .ref qd, .ref qk, .ref qv, .ref qf, .ref qa, .ref gh, .ref hk, .int (nI kc), .int ivl, .int drw])), (qi, .inr (2, [.ref bi, .int (nI 0)])), (bi, .inl (cI, 300, .inl fi)), (qd, .inr (2, [.ref bd, .int (nI n)])), (bd, .inl (cI, 400, .inl (sm_ap fD 0 (sm_dr ((sm_stir (fk, fv) fi ni).1) ((sm_stir (fk, fv) fi ni).2)) n))), (qk, .inr (2, [.ref bk, .int (nI 32)])), (bk, .inl (cI, 32, .inl ((sm_stir ((sm_stir (fk, fv) fi ni).1, sm_vs ((sm_stir (fk, fv) fi ni).1) ((sm_stir (fk, fv) fi ni).2) ((n + 31) / 32)) fi ni).1))), (qv, .inr (2, [.ref bv, .int (nI 32)])), (bv, .inl (cI, 32, .inl ((sm_stir ((sm_stir (fk, fv) fi ni).1, sm_vs ((sm_stir (fk, fv) fi ni).1) ((sm_stir (fk, fv) fi ni).2) ((n + 31) / 32)) fi ni).2))), (qf, .inr (2, [.ref bf, .int (nI 32)])), (bf, .inl (cI, 32, .inl ff2)), (hk, .inr (1, [.ref hh, .ref hB, .ref hI])), (hh, .inr (0, [.ref hm, .ref aw, .ref ad])), (hm, .inr (2, [.ref bm, .int um2])), (bm, .inl (cI, 448, .inl fm2)), (aw, .inl (cI, 64, .inl fw2)), (ad, .inl (cI, 8, .inl fd2)), (hB, .inr (2, [.ref bB, .int uB2])), (bB, .inl (cI, 64, .inl fB2)), (hI, .inr (2, [.ref bI, .int uI2])), (bI, .inl (cI, 32, .inl fI2))] := hD.sub [0, 19, 20, 1, 2, 3, 4, 5, 6, 7, 8, 9, 10, 11, 12, 13, 14, 15, 16, 17, 18] rfl rfl
            refine lv_aload_n hx hb dX3_draw_66 rfl (lv_at hl 0 rfl) ?_
            refine lv_dup hx hb dX3_draw_67 rfl ?_
            refine va_get (D := D) (ci := 3) (v := .int (nI kc)) (C := RX3) (T := TX3) (N := 12) hx hb hts hw_X3 hown hK hP 0 rfl rfl 9 (by decide) hf_50 (fun _ h9 => h9) rfl dX3_draw_68 ?_
            refine lv_iconst (v := 1) hx hb dX3_draw_71 (by decide) ?_
            refine lv_iadd hx hb dX3_draw_72 ?_
            refine va_put (D := D) (ci := 3) (v := .int ((nI kc) + 1)) (ty := .int) (C := RX3) (T := TX3) (N := 12) hx hb hts hw_X3 tyX3 tyX3_ok nmX3 hown hK hP hD hS 0 rfl rfl 9 (by decide) hf_50 (fun _ h9 => h9) rfl (by decide +kernel) rfl rfl (Nat.le_of_ble_eq_true rfl) dX3_draw_73 (fun H locs hP hD hS => ?_)
            have hP : va_P D vwCl [(qs, .inr (3, [.ref qi, .ref qo, .ref qd, .ref qk, .ref qv, .ref qf, .ref qa, .ref gh, .ref hk, .int ((nI kc) + 1), .int ivl, .int drw])), (qi, .inr (2, [.ref bi, .int (nI 0)])), (bi, .inl (cI, 300, .inl fi)), (qd, .inr (2, [.ref bd, .int (nI n)])), (bd, .inl (cI, 400, .inl (sm_ap fD 0 (sm_dr ((sm_stir (fk, fv) fi ni).1) ((sm_stir (fk, fv) fi ni).2)) n))), (qk, .inr (2, [.ref bk, .int (nI 32)])), (bk, .inl (cI, 32, .inl ((sm_stir ((sm_stir (fk, fv) fi ni).1, sm_vs ((sm_stir (fk, fv) fi ni).1) ((sm_stir (fk, fv) fi ni).2) ((n + 31) / 32)) fi ni).1))), (qv, .inr (2, [.ref bv, .int (nI 32)])), (bv, .inl (cI, 32, .inl ((sm_stir ((sm_stir (fk, fv) fi ni).1, sm_vs ((sm_stir (fk, fv) fi ni).1) ((sm_stir (fk, fv) fi ni).2) ((n + 31) / 32)) fi ni).2))), (qf, .inr (2, [.ref bf, .int (nI 32)])), (bf, .inl (cI, 32, .inl ff2)), (hk, .inr (1, [.ref hh, .ref hB, .ref hI])), (hh, .inr (0, [.ref hm, .ref aw, .ref ad])), (hm, .inr (2, [.ref bm, .int um2])), (bm, .inl (cI, 448, .inl fm2)), (aw, .inl (cI, 64, .inl fw2)), (ad, .inl (cI, 8, .inl fd2)), (hB, .inr (2, [.ref bB, .int uB2])), (bB, .inl (cI, 64, .inl fB2)), (hI, .inr (2, [.ref bI, .int uI2])), (bI, .inl (cI, 32, .inl fI2))] H := hP
            have hD : va_D A [(qs, .inr (3, [.ref qi, .ref qo, .ref qd, .ref qk, .ref qv, .ref qf, .ref qa, .ref gh, .ref hk, .int ((nI kc) + 1), .int ivl, .int drw])), (qi, .inr (2, [.ref bi, .int (nI 0)])), (bi, .inl (cI, 300, .inl fi)), (qd, .inr (2, [.ref bd, .int (nI n)])), (bd, .inl (cI, 400, .inl (sm_ap fD 0 (sm_dr ((sm_stir (fk, fv) fi ni).1) ((sm_stir (fk, fv) fi ni).2)) n))), (qk, .inr (2, [.ref bk, .int (nI 32)])), (bk, .inl (cI, 32, .inl ((sm_stir ((sm_stir (fk, fv) fi ni).1, sm_vs ((sm_stir (fk, fv) fi ni).1) ((sm_stir (fk, fv) fi ni).2) ((n + 31) / 32)) fi ni).1))), (qv, .inr (2, [.ref bv, .int (nI 32)])), (bv, .inl (cI, 32, .inl ((sm_stir ((sm_stir (fk, fv) fi ni).1, sm_vs ((sm_stir (fk, fv) fi ni).1) ((sm_stir (fk, fv) fi ni).2) ((n + 31) / 32)) fi ni).2))), (qf, .inr (2, [.ref bf, .int (nI 32)])), (bf, .inl (cI, 32, .inl ff2)), (hk, .inr (1, [.ref hh, .ref hB, .ref hI])), (hh, .inr (0, [.ref hm, .ref aw, .ref ad])), (hm, .inr (2, [.ref bm, .int um2])), (bm, .inl (cI, 448, .inl fm2)), (aw, .inl (cI, 64, .inl fw2)), (ad, .inl (cI, 8, .inl fd2)), (hB, .inr (2, [.ref bB, .int uB2])), (bB, .inl (cI, 64, .inl fB2)), (hI, .inr (2, [.ref bI, .int uI2])), (bI, .inl (cI, 32, .inl fI2))] := hD
            refine lv_aload_n hx hb dX3_draw_76 rfl (lv_at hl 0 rfl) ?_
            refine lv_dup hx hb dX3_draw_77 rfl ?_
            refine va_get (D := D) (ci := 3) (v := .int drw) (C := RX3) (T := TX3) (N := 12) hx hb hts hw_X3 hown hK hP 0 rfl rfl 11 (by decide) hf_57 (fun _ h9 => h9) rfl dX3_draw_78 ?_
            refine lv_iconst (v := 1) hx hb dX3_draw_81 (by decide) ?_
            refine lv_iadd hx hb dX3_draw_82 ?_
            refine va_put (D := D) (ci := 3) (v := .int (drw + 1)) (ty := .int) (C := RX3) (T := TX3) (N := 12) hx hb hts hw_X3 tyX3 tyX3_ok nmX3 hown hK hP hD hS 0 rfl rfl 11 (by decide) hf_57 (fun _ h9 => h9) rfl (by decide +kernel) rfl rfl (Nat.le_of_ble_eq_true rfl) dX3_draw_83 (fun H locs hP hD hS => ?_)
            have hP : va_P D vwCl [(qs, .inr (3, [.ref qi, .ref qo, .ref qd, .ref qk, .ref qv, .ref qf, .ref qa, .ref gh, .ref hk, .int ((nI kc) + 1), .int ivl, .int (drw + 1)])), (qi, .inr (2, [.ref bi, .int (nI 0)])), (bi, .inl (cI, 300, .inl fi)), (qd, .inr (2, [.ref bd, .int (nI n)])), (bd, .inl (cI, 400, .inl (sm_ap fD 0 (sm_dr ((sm_stir (fk, fv) fi ni).1) ((sm_stir (fk, fv) fi ni).2)) n))), (qk, .inr (2, [.ref bk, .int (nI 32)])), (bk, .inl (cI, 32, .inl ((sm_stir ((sm_stir (fk, fv) fi ni).1, sm_vs ((sm_stir (fk, fv) fi ni).1) ((sm_stir (fk, fv) fi ni).2) ((n + 31) / 32)) fi ni).1))), (qv, .inr (2, [.ref bv, .int (nI 32)])), (bv, .inl (cI, 32, .inl ((sm_stir ((sm_stir (fk, fv) fi ni).1, sm_vs ((sm_stir (fk, fv) fi ni).1) ((sm_stir (fk, fv) fi ni).2) ((n + 31) / 32)) fi ni).2))), (qf, .inr (2, [.ref bf, .int (nI 32)])), (bf, .inl (cI, 32, .inl ff2)), (hk, .inr (1, [.ref hh, .ref hB, .ref hI])), (hh, .inr (0, [.ref hm, .ref aw, .ref ad])), (hm, .inr (2, [.ref bm, .int um2])), (bm, .inl (cI, 448, .inl fm2)), (aw, .inl (cI, 64, .inl fw2)), (ad, .inl (cI, 8, .inl fd2)), (hB, .inr (2, [.ref bB, .int uB2])), (bB, .inl (cI, 64, .inl fB2)), (hI, .inr (2, [.ref bI, .int uI2])), (bI, .inl (cI, 32, .inl fI2))] H := hP
            have hD : va_D A [(qs, .inr (3, [.ref qi, .ref qo, .ref qd, .ref qk, .ref qv, .ref qf, .ref qa, .ref gh, .ref hk, .int ((nI kc) + 1), .int ivl, .int (drw + 1)])), (qi, .inr (2, [.ref bi, .int (nI 0)])), (bi, .inl (cI, 300, .inl fi)), (qd, .inr (2, [.ref bd, .int (nI n)])), (bd, .inl (cI, 400, .inl (sm_ap fD 0 (sm_dr ((sm_stir (fk, fv) fi ni).1) ((sm_stir (fk, fv) fi ni).2)) n))), (qk, .inr (2, [.ref bk, .int (nI 32)])), (bk, .inl (cI, 32, .inl ((sm_stir ((sm_stir (fk, fv) fi ni).1, sm_vs ((sm_stir (fk, fv) fi ni).1) ((sm_stir (fk, fv) fi ni).2) ((n + 31) / 32)) fi ni).1))), (qv, .inr (2, [.ref bv, .int (nI 32)])), (bv, .inl (cI, 32, .inl ((sm_stir ((sm_stir (fk, fv) fi ni).1, sm_vs ((sm_stir (fk, fv) fi ni).1) ((sm_stir (fk, fv) fi ni).2) ((n + 31) / 32)) fi ni).2))), (qf, .inr (2, [.ref bf, .int (nI 32)])), (bf, .inl (cI, 32, .inl ff2)), (hk, .inr (1, [.ref hh, .ref hB, .ref hI])), (hh, .inr (0, [.ref hm, .ref aw, .ref ad])), (hm, .inr (2, [.ref bm, .int um2])), (bm, .inl (cI, 448, .inl fm2)), (aw, .inl (cI, 64, .inl fw2)), (ad, .inl (cI, 8, .inl fd2)), (hB, .inr (2, [.ref bB, .int uB2])), (bB, .inl (cI, 64, .inl fB2)), (hI, .inr (2, [.ref bI, .int uI2])), (bI, .inl (cI, 32, .inl fI2))] := hD
            refine lv_iconst (v := 0) hx hb dX3_draw_86 (by decide) ?_
            rw [show nI kc + 1 = nI (kc + 1) from nI_1 kc] at hP hD
            rw [hQ]
            have hP9 : va_P D vwCl [(qs, .inr (3, [.ref qi, .ref qo, .ref qd, .ref qk, .ref qv, .ref qf, .ref qa, .ref gh, .ref hk, .int (nI (kc + 1)), .int ivl, .int (drw + 1)])), (qi, .inr (2, [.ref bi, .int (nI 0)])), (bi, .inl (cI, 300, .inl fi)), (qd, .inr (2, [.ref bd, .int (nI n)])), (bd, .inl (cI, 400, .inl (sm_ap fD 0 (sm_dr ((sm_stir (fk, fv) fi ni).1) ((sm_stir (fk, fv) fi ni).2)) n))), (qk, .inr (2, [.ref bk, .int (nI 32)])), (bk, .inl (cI, 32, .inl ((sm_stir ((sm_stir (fk, fv) fi ni).1, sm_vs ((sm_stir (fk, fv) fi ni).1) ((sm_stir (fk, fv) fi ni).2) ((n + 31) / 32)) fi ni).1))), (qv, .inr (2, [.ref bv, .int (nI 32)])), (bv, .inl (cI, 32, .inl ((sm_stir ((sm_stir (fk, fv) fi ni).1, sm_vs ((sm_stir (fk, fv) fi ni).1) ((sm_stir (fk, fv) fi ni).2) ((n + 31) / 32)) fi ni).2))), (qf, .inr (2, [.ref bf, .int (nI 32)])), (bf, .inl (cI, 32, .inl ff2)), (hk, .inr (1, [.ref hh, .ref hB, .ref hI])), (hh, .inr (0, [.ref hm, .ref aw, .ref ad])), (hm, .inr (2, [.ref bm, .int um2])), (bm, .inl (cI, 448, .inl fm2)), (aw, .inl (cI, 64, .inl fw2)), (ad, .inl (cI, 8, .inl fd2)), (hB, .inr (2, [.ref bB, .int uB2])), (bB, .inl (cI, 64, .inl fB2)), (hI, .inr (2, [.ref bI, .int uI2])), (bI, .inl (cI, 32, .inl fI2))] H := hP
            have hD9 : va_D A [(qs, .inr (3, [.ref qi, .ref qo, .ref qd, .ref qk, .ref qv, .ref qf, .ref qa, .ref gh, .ref hk, .int (nI (kc + 1)), .int ivl, .int (drw + 1)])), (qi, .inr (2, [.ref bi, .int (nI 0)])), (bi, .inl (cI, 300, .inl fi)), (qd, .inr (2, [.ref bd, .int (nI n)])), (bd, .inl (cI, 400, .inl (sm_ap fD 0 (sm_dr ((sm_stir (fk, fv) fi ni).1) ((sm_stir (fk, fv) fi ni).2)) n))), (qk, .inr (2, [.ref bk, .int (nI 32)])), (bk, .inl (cI, 32, .inl ((sm_stir ((sm_stir (fk, fv) fi ni).1, sm_vs ((sm_stir (fk, fv) fi ni).1) ((sm_stir (fk, fv) fi ni).2) ((n + 31) / 32)) fi ni).1))), (qv, .inr (2, [.ref bv, .int (nI 32)])), (bv, .inl (cI, 32, .inl ((sm_stir ((sm_stir (fk, fv) fi ni).1, sm_vs ((sm_stir (fk, fv) fi ni).1) ((sm_stir (fk, fv) fi ni).2) ((n + 31) / 32)) fi ni).2))), (qf, .inr (2, [.ref bf, .int (nI 32)])), (bf, .inl (cI, 32, .inl ff2)), (hk, .inr (1, [.ref hh, .ref hB, .ref hI])), (hh, .inr (0, [.ref hm, .ref aw, .ref ad])), (hm, .inr (2, [.ref bm, .int um2])), (bm, .inl (cI, 448, .inl fm2)), (aw, .inl (cI, 64, .inl fw2)), (ad, .inl (cI, 8, .inl fd2)), (hB, .inr (2, [.ref bB, .int uB2])), (bB, .inl (cI, 64, .inl fB2)), (hI, .inr (2, [.ref bI, .int uI2])), (bI, .inl (cI, 32, .inl fI2))] := hD
            exact W.iret (v := 0) hx hb hr (fun t ht hW => ⟨⟨0, (), rfl, rfl, ⟨_, _, _, _, _, _, _, _, _, hst2, by rw [ht]; exact hP9, va_K.moved hW.alike hK, hD9⟩⟩, hS.F ht⟩) hS.2.2 dX3_draw_87
        ·
          exact absurd hiv c_31
      ·
        exact absurd (nI_le (b := 400) hn4 (by decide)) c_18
  ·
    exact absurd c_4 (by decide)

def rm_X3_interval_no : Room := ({ frames := 0, cells := 0, slots := 0, locals := 0 } : Room)
set_option maxHeartbeats 4000000 in
set_option maxRecDepth 100000 in
/-- interval: nothing is done -/
theorem sc_X3_interval_no (l : Launch) (D : va_G) (cI : ClassId) (th : Option (Nat × Nat)) (sz : Nat) (qs qi bi qo bo qd bd qk bk qv bv qf bf qa ba gh gm gb gw gd hk hh hm bm aw ad hB bB hI bI : Nat) (ivl drw : Int32) (kc : Nat) (k : Int32) (hno : k < 1 ∨ 1000 < k) : Met l yX3_interval wsX3_interval rm_X3_interval_no (va_Pc [.ref qs, .int k] (sm_PW D cI th [(qs, .inr (3, [.ref qi, .ref qo, .ref qd, .ref qk, .ref qv, .ref qf, .ref qa, .ref gh, .ref hk, .int (nI kc), .int ivl, .int drw]))] sz)) (va_Qi (fun (r : Int32) (_ : Unit) => r = 0) (fun _ t => sm_QW D cI (va_A [(qs, .inr (3, [.ref qi, .ref qo, .ref qd, .ref qk, .ref qv, .ref qf, .ref qa, .ref gh, .ref hk, .int (nI kc), .int ivl, .int drw]))] sz) [(qs, .inr (3, [.ref qi, .ref qo, .ref qd, .ref qk, .ref qv, .ref qf, .ref qa, .ref gh, .ref hk, .int (nI kc), .int ivl, .int drw]))] t) (va_A [(qs, .inr (3, [.ref qi, .ref qo, .ref qd, .ref qk, .ref qv, .ref qf, .ref qa, .ref gh, .ref hk, .int (nI kc), .int ivl, .int drw]))] sz)) 0 0 (va_A [(qs, .inr (3, [.ref qi, .ref qo, .ref qd, .ref qk, .ref qv, .ref qf, .ref qa, .ref gh, .ref hk, .int (nI kc), .int ivl, .int drw]))] sz) := by
  refine Met.ofW (cc := cX3_interval) (maxL := 2) (ret := (some .int)) (by decide) rfl ?_
  intro p e s m args below meth c s₁ B hml hv
  obtain ⟨rfl, hsz, hP, hK, hD0, hT⟩ := hv
  have hx := B.exec
  have hb := B.bytes
  have hr := B.returns
  have hts := atoms_spec (ws := wsX3_interval) B.pre
  have hown : s.vm.findClass RX3 = some m.cls := findClass_of_methodNamed B.named
  have hlocks := B.notSynchronized
  subst hsz
  have hD := hD0.self (sz := s.heap.size)
  generalize hAe : va_A [(qs, .inr (3, [.ref qi, .ref qo, .ref qd, .ref qk, .ref qv, .ref qf, .ref qa, .ref gh, .ref hk, .int (nI kc), .int ivl, .int drw]))] s.heap.size = A at hD hT ⊢
  have hA : ∀ q : Nat, s.heap.size ≤ q → A q := fun q h => by rw [← hAe]; exact Or.inr h
  have hS : va_S A s.heap s.heap [] := va_S.rf
  have hl := lv_entry ([.ref qs, .int k]) (n := 2) (Nat.le_of_ble_eq_true rfl)
  rw [lg_entry_eq]
  generalize (lg_sl ([.ref qs, .int k]) ++ List.replicate (2 - (lg_sl ([.ref qs, .int k])).length) Slot.unset).toArray = ls at hl ⊢
  have hl : lv_has ls 2 [(0, .ref qs), (1, .int k)] := hl
  refine sm_name (fun Q hQ => ?_)
  have hf_54 := hts (.fieldLink RX3 54 "SeedMill" "drawInterval" "I") (by decide +kernel)
  have hw_X3 : ∀ w ∈ wsX30, w ∈ wsX3_interval := by decide +kernel
  refine lv_iload_n hx hb dX3_interval_0 rfl (lv_at hl 1 rfl) ?_
  refine lv_iconst (v := 1) hx hb dX3_interval_1 (by decide) ?_
  refine lv_icmp_lt (tgt := 12) hx hb dX3_interval_2 (by decide) (fun c_2 => ?_) (fun c_2 => ?_)
  ·
    refine lv_iconst (v := 0) hx hb dX3_interval_12 (by decide) ?_
    rw [hQ]
    have hP9 : va_P D vwCl [(qs, .inr (3, [.ref qi, .ref qo, .ref qd, .ref qk, .ref qv, .ref qf, .ref qa, .ref gh, .ref hk, .int (nI kc), .int ivl, .int drw]))] s.heap := hP
    have hD9 : va_D A [(qs, .inr (3, [.ref qi, .ref qo, .ref qd, .ref qk, .ref qv, .ref qf, .ref qa, .ref gh, .ref hk, .int (nI kc), .int ivl, .int drw]))] := hD
    exact W.iret (v := 0) hx hb hr (fun t ht hW => ⟨⟨0, (), rfl, rfl, ⟨by rw [ht]; exact hP9, va_K.moved hW.alike hK, hD9⟩⟩, hS.F ht⟩) hS.2.2 dX3_interval_13
  ·
    refine lv_iload_n hx hb dX3_interval_5 rfl (lv_at hl 1 rfl) ?_
    refine lv_sipush (v := 1000) hx hb dX3_interval_6 (by decide) ?_
    refine lv_icmp_le (tgt := 14) hx hb dX3_interval_9 (by decide) (fun c_9 => ?_) (fun c_9 => ?_)
    ·
      exact absurd c_9 (Int32.not_le.mpr (hno.resolve_left c_2))
    ·
      refine lv_iconst (v := 0) hx hb dX3_interval_12 (by decide) ?_
      rw [hQ]
      have hP9 : va_P D vwCl [(qs, .inr (3, [.ref qi, .ref qo, .ref qd, .ref qk, .ref qv, .ref qf, .ref qa, .ref gh, .ref hk, .int (nI kc), .int ivl, .int drw]))] s.heap := hP
      have hD9 : va_D A [(qs, .inr (3, [.ref qi, .ref qo, .ref qd, .ref qk, .ref qv, .ref qf, .ref qa, .ref gh, .ref hk, .int (nI kc), .int ivl, .int drw]))] := hD
      exact W.iret (v := 0) hx hb hr (fun t ht hW => ⟨⟨0, (), rfl, rfl, ⟨by rw [ht]; exact hP9, va_K.moved hW.alike hK, hD9⟩⟩, hS.F ht⟩) hS.2.2 dX3_interval_13

def rm_X3_interval_ok : Room := ({ frames := 0, cells := 0, slots := 0, locals := 0 } : Room)
set_option maxHeartbeats 4000000 in
set_option maxRecDepth 100000 in
/-- interval -/
theorem sc_X3_interval_ok (l : Launch) (D : va_G) (cI : ClassId) (th : Option (Nat × Nat)) (sz : Nat) (qs qi bi qo bo qd bd qk bk qv bv qf bf qa ba gh gm gb gw gd hk hh hm bm aw ad hB bB hI bI : Nat) (ivl drw : Int32) (kc : Nat) (k : Int32) (h1 : ¬ k < 1) (h4 : ¬ 1000 < k) : Met l yX3_interval wsX3_interval rm_X3_interval_ok (va_Pc [.ref qs, .int k] (sm_PW D cI th [(qs, .inr (3, [.ref qi, .ref qo, .ref qd, .ref qk, .ref qv, .ref qf, .ref qa, .ref gh, .ref hk, .int (nI kc), .int ivl, .int drw]))] sz)) (va_Qi (fun (r : Int32) (_ : Unit) => r = 1) (fun _ t => sm_QW D cI (va_A [(qs, .inr (3, [.ref qi, .ref qo, .ref qd, .ref qk, .ref qv, .ref qf, .ref qa, .ref gh, .ref hk, .int (nI kc), .int ivl, .int drw]))] sz) [(qs, .inr (3, [.ref qi, .ref qo, .ref qd, .ref qk, .ref qv, .ref qf, .ref qa, .ref gh, .ref hk, .int (nI kc), .int k, .int drw]))] t) (va_A [(qs, .inr (3, [.ref qi, .ref qo, .ref qd, .ref qk, .ref qv, .ref qf, .ref qa, .ref gh, .ref hk, .int (nI kc), .int ivl, .int drw]))] sz)) 0 0 (va_A [(qs, .inr (3, [.ref qi, .ref qo, .ref qd, .ref qk, .ref qv, .ref qf, .ref qa, .ref gh, .ref hk, .int (nI kc), .int ivl, .int drw]))] sz) := by
  refine Met.ofW (cc := cX3_interval) (maxL := 2) (ret := (some .int)) (by decide) rfl ?_
  intro p e s m args below meth c s₁ B hml hv
  obtain ⟨rfl, hsz, hP, hK, hD0, hT⟩ := hv
  have hx := B.exec
  have hb := B.bytes
  have hr := B.returns
  have hts := atoms_spec (ws := wsX3_interval) B.pre
  have hown : s.vm.findClass RX3 = some m.cls := findClass_of_methodNamed B.named
  have hlocks := B.notSynchronized
  subst hsz
  have hD := hD0.self (sz := s.heap.size)
  generalize hAe : va_A [(qs, .inr (3, [.ref qi, .ref qo, .ref qd, .ref qk, .ref qv, .ref qf, .ref qa, .ref gh, .ref hk, .int (nI kc), .int ivl, .int drw]))] s.heap.size = A at hD hT ⊢
  have hA : ∀ q : Nat, s.heap.size ≤ q → A q := fun q h => by rw [← hAe]; exact Or.inr h
  have hS : va_S A s.heap s.heap [] := va_S.rf
  have hl := lv_entry ([.ref qs, .int k]) (n := 2) (Nat.le_of_ble_eq_true rfl)
  rw [lg_entry_eq]
  generalize (lg_sl ([.ref qs, .int k]) ++ List.replicate (2 - (lg_sl ([.ref qs, .int k])).length) Slot.unset).toArray = ls at hl ⊢
  have hl : lv_has ls 2 [(0, .ref qs), (1, .int k)] := hl
  refine sm_name (fun Q hQ => ?_)
  have hf_54 := hts (.fieldLink RX3 54 "SeedMill" "drawInterval" "I") (by decide +kernel)
  have hw_X3 : ∀ w ∈ wsX30, w ∈ wsX3_interval := by decide +kernel
  refine lv_iload_n hx hb dX3_interval_0 rfl (lv_at hl 1 rfl) ?_
  refine lv_iconst (v := 1) hx hb dX3_interval_1 (by decide) ?_
  refine lv_icmp_lt (tgt := 12) hx hb dX3_interval_2 (by decide) (fun c_2 => ?_) (fun c_2 => ?_)
  ·
    exact absurd c_2 h1
  ·
    refine lv_iload_n hx hb dX3_interval_5 rfl (lv_at hl 1 rfl) ?_
    refine lv_sipush (v := 1000) hx hb dX3_interval_6 (by decide) ?_
    refine lv_icmp_le (tgt := 14) hx hb dX3_interval_9 (by decide) (fun c_9 => ?_) (fun c_9 => ?_)
    ·
      refine lv_aload_n hx hb dX3_interval_14 rfl (lv_at hl 0 rfl) ?_
      refine lv_iload_n hx hb dX3_interval_15 rfl (lv_at hl 1 rfl) ?_
      refine va_put (D := D) (ci := 3) (v := .int k) (ty := .int) (C := RX3) (T := TX3) (N := 12) hx hb hts hw_X3 tyX3 tyX3_ok nmX3 hown hK hP hD hS 0 rfl rfl 10 (by decide) hf_54 (fun _ h9 => h9) rfl (by decide +kernel) rfl rfl (Nat.le_of_ble_eq_true rfl) dX3_interval_16 (fun H locs hP hD hS => ?_)
      have hP : va_P D vwCl [(qs, .inr (3, [.ref qi, .ref qo, .ref qd, .ref qk, .ref qv, .ref qf, .ref qa, .ref gh, .ref hk, .int (nI kc), .int k, .int drw]))] H := hP
      have hD : va_D A [(qs, .inr (3, [.ref qi, .ref qo, .ref qd, .ref qk, .ref qv, .ref qf, .ref qa, .ref gh, .ref hk, .int (nI kc), .int k, .int drw]))] := hD
      refine lv_iconst (v := 1) hx hb dX3_interval_19 (by decide) ?_
      rw [hQ]
      have hP9 : va_P D vwCl [(qs, .inr (3, [.ref qi, .ref qo, .ref qd, .ref qk, .ref qv, .ref qf, .ref qa, .ref gh, .ref hk, .int (nI kc), .int k, .int drw]))] H := hP
      have hD9 : va_D A [(qs, .inr (3, [.ref qi, .ref qo, .ref qd, .ref qk, .ref qv, .ref qf, .ref qa, .ref gh, .ref hk, .int (nI kc), .int k, .int drw]))] := hD
      exact W.iret (v := 1) hx hb hr (fun t ht hW => ⟨⟨1, (), rfl, rfl, ⟨by rw [ht]; exact hP9, va_K.moved hW.alike hK, hD9⟩⟩, hS.F ht⟩) hS.2.2 dX3_interval_20
    ·
      exact absurd (Int32.not_lt.mp h4) c_9

def rm_X3_out : Room := ({ frames := 1, cells := 0, slots := 0, locals := 21 } : Room)
set_option maxHeartbeats 4000000 in
set_option maxRecDepth 100000 in
/-- out -/
theorem sc_X3_out (l : Launch) (D : va_G) (cI : ClassId) (th : Option (Nat × Nat)) (sz : Nat) (qs qi bi qo bo qd bd qk bk qv bv qf bf qa ba gh gm gb gw gd hk hh hm bm aw ad hB bB hI bI : Nat) (ivl drw : Int32) (kc : Nat) (i : Int32) (nd : Nat) (fD : Nat → Int32) (hnd : nd ≤ 400) : Met l yX3_out wsX3_out rm_X3_out (va_Pc [.ref qs, .int i] (sm_PW D cI th [(qs, .inr (3, [.ref qi, .ref qo, .ref qd, .ref qk, .ref qv, .ref qf, .ref qa, .ref gh, .ref hk, .int (nI kc), .int ivl, .int drw])), (qd, .inr (2, [.ref bd, .int (nI nd)])), (bd, .inl (cI, 400, .inl fD))] sz)) (va_Qi (fun (r : Int32) (_ : Unit) => r = sm_at fD nd i) (fun _ t => sm_QW D cI (va_A [(qs, .inr (3, [.ref qi, .ref qo, .ref qd, .ref qk, .ref qv, .ref qf, .ref qa, .ref gh, .ref hk, .int (nI kc), .int ivl, .int drw])), (qd, .inr (2, [.ref bd, .int (nI nd)])), (bd, .inl (cI, 400, .inl fD))] sz) [(qs, .inr (3, [.ref qi, .ref qo, .ref qd, .ref qk, .ref qv, .ref qf, .ref qa, .ref gh, .ref hk, .int (nI kc), .int ivl, .int drw])), (qd, .inr (2, [.ref bd, .int (nI nd)])), (bd, .inl (cI, 400, .inl fD))] t) (va_A [(qs, .inr (3, [.ref qi, .ref qo, .ref qd, .ref qk, .ref qv, .ref qf, .ref qa, .ref gh, .ref hk, .int (nI kc), .int ivl, .int drw])), (qd, .inr (2, [.ref bd, .int (nI nd)])), (bd, .inl (cI, 400, .inl fD))] sz)) 0 0 (va_A [(qs, .inr (3, [.ref qi, .ref qo, .ref qd, .ref qk, .ref qv, .ref qf, .ref qa, .ref gh, .ref hk, .int (nI kc), .int ivl, .int drw])), (qd, .inr (2, [.ref bd, .int (nI nd)])), (bd, .inl (cI, 400, .inl fD))] sz) := by
  refine Met.ofW (cc := cX3_out) (maxL := 2) (ret := (some .int)) (by decide) rfl ?_
  intro p e s m args below meth c s₁ B hml hv
  obtain ⟨rfl, hsz, hP, hK, hD0, hT⟩ := hv
  have hx := B.exec
  have hb := B.bytes
  have hr := B.returns
  have hts := atoms_spec (ws := wsX3_out) B.pre
  have hown : s.vm.findClass RX3 = some m.cls := findClass_of_methodNamed B.named
  have hlocks := B.notSynchronized
  subst hsz
  have hD := hD0.self (sz := s.heap.size)
  generalize hAe : va_A [(qs, .inr (3, [.ref qi, .ref qo, .ref qd, .ref qk, .ref qv, .ref qf, .ref qa, .ref gh, .ref hk, .int (nI kc), .int ivl, .int drw])), (qd, .inr (2, [.ref bd, .int (nI nd)])), (bd, .inl (cI, 400, .inl fD))] s.heap.size = A at hD hT ⊢
  have hA : ∀ q : Nat, s.heap.size ≤ q → A q := fun q h => by rw [← hAe]; exact Or.inr h
  have hS : va_S A s.heap s.heap [] := va_S.rf
  have hl := lv_entry ([.ref qs, .int i]) (n := 2) (Nat.le_of_ble_eq_true rfl)
  rw [lg_entry_eq]
  generalize (lg_sl ([.ref qs, .int i]) ++ List.replicate (2 - (lg_sl ([.ref qs, .int i])).length) Slot.unset).toArray = ls at hl ⊢
  have hl : lv_has ls 2 [(0, .ref qs), (1, .int i)] := hl
  refine sm_name (fun Q hQ => ?_)
  have hf_21 := hts (.fieldLink RX3 21 "SeedMill" "drawn" "LSeedMill$Row;") (by decide +kernel)
  have hw_X3 : ∀ w ∈ wsX30, w ∈ wsX3_out := by decide +kernel
  refine lv_aload_n hx hb dX3_out_0 rfl (lv_at hl 0 rfl) ?_
  refine va_get (D := D) (ci := 3) (v := .ref qd) (C := RX3) (T := TX3) (N := 12) hx hb hts hw_X3 hown hK hP 0 rfl rfl 2 (by decide) hf_21 (fun _ h9 => h9) rfl dX3_out_1 ?_
  refine lv_iload_n hx hb dX3_out_4 rfl (lv_at hl 1 rfl) ?_
  refine sm_callVi (wc := [(qd, .inr (2, [.ref bd, .int (nI nd)])), (bd, .inl (cI, 400, .inl fD))]) (wr := [(qs, .inr (3, [.ref qi, .ref qo, .ref qd, .ref qk, .ref qv, .ref qf, .ref qa, .ref gh, .ref hk, .int (nI kc), .int ivl, .int drw]))]) (As := [.int i]) (rest := []) ⟨hx, hb, hml, hown, hts⟩ (sc_X2_at l D cI th _ qd bd 400 nd fD i hnd (by decide)) (cwV 1 hts gX3_out_X2_at rfl rfl rfl (by decide +kernel) ⟨Nat.le_of_ble_eq_true rfl, Nat.le_of_ble_eq_true rfl⟩) hP hD hS hA hK hT [1, 2] [0] rfl rfl rfl rfl (by decide) 0 2 rfl rfl rfl rfl hl.1 rfl (Nat.le_of_ble_eq_true rfl) dX3_out_5 ⟨Nat.zero_le _, Nat.zero_le _⟩ (fun r_5 zt H1 locs ht hvm hw hB hJ hS => ?_)
  obtain ⟨hP1, -, hD1⟩ := hB
  rw [ht] at hP1
  obtain ⟨hP, hD⟩ := hJ _ hP1 hD1
  clear hJ
  generalize H1 = H at hP hS ⊢
  have hP : va_P D vwCl [(qs, .inr (3, [.ref qi, .ref qo, .ref qd, .ref qk, .ref qv, .ref qf, .ref qa, .ref gh, .ref hk, .int (nI kc), .int ivl, .int drw])), (qd, .inr (2, [.ref bd, .int (nI nd)])), (bd, .inl (cI, 400, .inl fD))] H := hP.sub [0, 1, 2] rfl
  have hD : va_D A [(qs, .inr (3, [.ref qi, .ref qo, .ref qd, .ref qk, .ref qv, .ref qf, .ref qa, .ref gh, .ref hk, .int (nI kc), .int ivl, .int drw])), (qd, .inr (2, [.ref bd, .int (nI nd)])), (bd, .inl (cI, 400, .inl fD))] := hD.sub [0, 1, 2] rfl rfl
  rw [hw]
  rw [hQ]
  have hP9 : va_P D vwCl [(qs, .inr (3, [.ref qi, .ref qo, .ref qd, .ref qk, .ref qv, .ref qf, .ref qa, .ref gh, .ref hk, .int (nI kc), .int ivl, .int drw])), (qd, .inr (2, [.ref bd, .int (nI nd)])), (bd, .inl (cI, 400, .inl fD))] H := hP
  have hD9 : va_D A [(qs, .inr (3, [.ref qi, .ref qo, .ref qd, .ref qk, .ref qv, .ref qf, .ref qa, .ref gh, .ref hk, .int (nI kc), .int ivl, .int drw])), (qd, .inr (2, [.ref bd, .int (nI nd)])), (bd, .inl (cI, 400, .inl fD))] := hD
  exact W.iret (v := sm_at fD nd i) hx hb hr (fun t ht hW => ⟨⟨sm_at fD nd i, (), rfl, rfl, ⟨by rw [ht]; exact hP9, va_K.moved hW.alike hK, hD9⟩⟩, hS.F ht⟩) hS.2.2 dX3_out_8

def rm_X3_counter : Room := ({ frames := 0, cells := 0, slots := 0, locals := 0 } : Room)
set_option maxHeartbeats 4000000 in
set_option maxRecDepth 100000 in
/-- counter -/
theorem sc_X3_counter (l : Launch) (D : va_G) (cI : ClassId) (th : Option (Nat × Nat)) (sz : Nat) (qs qi bi qo bo qd bd qk bk qv bv qf bf qa ba gh gm gb gw gd hk hh hm bm aw ad hB bB hI bI : Nat) (ivl drw : Int32) (kc : Nat)   : Met l yX3_counter wsX3_counter rm_X3_counter (va_Pc [.ref qs] (sm_PW D cI th [(qs, .inr (3, [.ref qi, .ref qo, .ref qd, .ref qk, .ref qv, .ref qf, .ref qa, .ref gh, .ref hk, .int (nI kc), .int ivl, .int drw]))] sz)) (va_Qi (fun (r : Int32) (_ : Unit) => r = nI kc) (fun _ t => sm_QW D cI (va_A [(qs, .inr (3, [.ref qi, .ref qo, .ref qd, .ref qk, .ref qv, .ref qf, .ref qa, .ref gh, .ref hk, .int (nI kc), .int ivl, .int drw]))] sz) [(qs, .inr (3, [.ref qi, .ref qo, .ref qd, .ref qk, .ref qv, .ref qf, .ref qa, .ref gh, .ref hk, .int (nI kc), .int ivl, .int drw]))] t) (va_A [(qs, .inr (3, [.ref qi, .ref qo, .ref qd, .ref qk, .ref qv, .ref qf, .ref qa, .ref gh, .ref hk, .int (nI kc), .int ivl, .int drw]))] sz)) 0 0 (va_A [(qs, .inr (3, [.ref qi, .ref qo, .ref qd, .ref qk, .ref qv, .ref qf, .ref qa, .ref gh, .ref hk, .int (nI kc), .int ivl, .int drw]))] sz) := by
  refine Met.ofW (cc := cX3_counter) (maxL := 1) (ret := (some .int)) (by decide) rfl ?_
  intro p e s m args below meth c s₁ B hml hv
  obtain ⟨rfl, hsz, hP, hK, hD0, hT⟩ := hv
  have hx := B.exec
  have hb := B.bytes
  have hr := B.returns
  have hts := atoms_spec (ws := wsX3_counter) B.pre
  have hown : s.vm.findClass RX3 = some m.cls := findClass_of_methodNamed B.named
  have hlocks := B.notSynchronized
  subst hsz
  have hD := hD0.self (sz := s.heap.size)
  generalize hAe : va_A [(qs, .inr (3, [.ref qi, .ref qo, .ref qd, .ref qk, .ref qv, .ref qf, .ref qa, .ref gh, .ref hk, .int (nI kc), .int ivl, .int drw]))] s.heap.size = A at hD hT ⊢
  have hA : ∀ q : Nat, s.heap.size ≤ q → A q := fun q h => by rw [← hAe]; exact Or.inr h
  have hS : va_S A s.heap s.heap [] := va_S.rf
  have hl := lv_entry ([.ref qs]) (n := 1) (Nat.le_of_ble_eq_true rfl)
  rw [lg_entry_eq]
  generalize (lg_sl ([.ref qs]) ++ List.replicate (1 - (lg_sl ([.ref qs])).length) Slot.unset).toArray = ls at hl ⊢
  have hl : lv_has ls 1 [(0, .ref qs)] := hl
  refine sm_name (fun Q hQ => ?_)
  have hf_50 := hts (.fieldLink RX3 50 "SeedMill" "drawCounter" "I") (by decide +kernel)
  have hw_X3 : ∀ w ∈ wsX30, w ∈ wsX3_counter := by decide +kernel
  refine lv_aload_n hx hb dX3_counter_0 rfl (lv_at hl 0 rfl) ?_
  refine va_get (D := D) (ci := 3) (v := .int (nI kc)) (C := RX3) (T := TX3) (N := 12) hx hb hts hw_X3 hown hK hP 0 rfl rfl 9 (by decide) hf_50 (fun _ h9 => h9) rfl dX3_counter_1 ?_
  rw [hQ]
  have hP9 : va_P D vwCl [(qs, .inr (3, [.ref qi, .ref qo, .ref qd, .ref qk, .ref qv, .ref qf, .ref qa, .ref gh, .ref hk, .int (nI kc), .int ivl, .int drw]))] s.heap := hP
  have hD9 : va_D A [(qs, .inr (3, [.ref qi, .ref qo, .ref qd, .ref qk, .ref qv, .ref qf, .ref qa, .ref gh, .ref hk, .int (nI kc), .int ivl, .int drw]))] := hD
  exact W.iret (v := nI kc) hx hb hr (fun t ht hW => ⟨⟨nI kc, (), rfl, rfl, ⟨by rw [ht]; exact hP9, va_K.moved hW.alike hK, hD9⟩⟩, hS.F ht⟩) hS.2.2 dX3_counter_4

def rm_X3_state : Room := ({ frames := 1, cells := 0, slots := 0, locals := 21 } : Room)
set_option maxHeartbeats 4000000 in
set_option maxRecDepth 100000 in
/-- state -/
theorem sc_X3_state (l : Launch) (D : va_G) (cI : ClassId) (th : Option (Nat × Nat)) (sz : Nat) (qs qi bi qo bo qd bd qk bk qv bv qf bf qa ba gh gm gb gw gd hk hh hm bm aw ad hB bB hI bI : Nat) (ivl drw : Int32) (kc : Nat) (k i : Int32) (uk uv : Nat) (fk fv : Nat → Int32) (hkc2 : kc < 2 ^ 31) (huk : uk ≤ 32) (huv : uv ≤ 32) : Met l yX3_state wsX3_state rm_X3_state (va_Pc [.ref qs, .int k, .int i] (sm_PW D cI th [(qs, .inr (3, [.ref qi, .ref qo, .ref qd, .ref qk, .ref qv, .ref qf, .ref qa, .ref gh, .ref hk, .int (nI kc), .int ivl, .int drw])), (qk, .inr (2, [.ref bk, .int (nI uk)])), (bk, .inl (cI, 32, .inl fk)), (qv, .inr (2, [.ref bv, .int (nI uv)])), (bv, .inl (cI, 32, .inl fv))] sz)) (va_Qi (fun (r : Int32) (_ : Unit) => r = if kc = 0 then -1 else if k = 0 then sm_at fk uk i else if k = 1 then sm_at fv uv i else -1) (fun _ t => sm_QW D cI (va_A [(qs, .inr (3, [.ref qi, .ref qo, .ref qd, .ref qk, .ref qv, .ref qf, .ref qa, .ref gh, .ref hk, .int (nI kc), .int ivl, .int drw])), (qk, .inr (2, [.ref bk, .int (nI uk)])), (bk, .inl (cI, 32, .inl fk)), (qv, .inr (2, [.ref bv, .int (nI uv)])), (bv, .inl (cI, 32, .inl fv))] sz) [(qs, .inr (3, [.ref qi, .ref qo, .ref qd, .ref qk, .ref qv, .ref qf, .ref qa, .ref gh, .ref hk, .int (nI kc), .int ivl, .int drw])), (qk, .inr (2, [.ref bk, .int (nI uk)])), (bk, .inl (cI, 32, .inl fk)), (qv, .inr (2, [.ref bv, .int (nI uv)])), (bv, .inl (cI, 32, .inl fv))] t) (va_A [(qs, .inr (3, [.ref qi, .ref qo, .ref qd, .ref qk, .ref qv, .ref qf, .ref qa, .ref gh, .ref hk, .int (nI kc), .int ivl, .int drw])), (qk, .inr (2, [.ref bk, .int (nI uk)])), (bk, .inl (cI, 32, .inl fk)), (qv, .inr (2, [.ref bv, .int (nI uv)])), (bv, .inl (cI, 32, .inl fv))] sz)) 0 0 (va_A [(qs, .inr (3, [.ref qi, .ref qo, .ref qd, .ref qk, .ref qv, .ref qf, .ref qa, .ref gh, .ref hk, .int (nI kc), .int ivl, .int drw])), (qk, .inr (2, [.ref bk, .int (nI uk)])), (bk, .inl (cI, 32, .inl fk)), (qv, .inr (2, [.ref bv, .int (nI uv)])), (bv, .inl (cI, 32, .inl fv))] sz) := by
  refine Met.ofW (cc := cX3_state) (maxL := 3) (ret := (some .int)) (by decide) rfl ?_
  intro p e s m args below meth c s₁ B hml hv
  obtain ⟨rfl, hsz, hP, hK, hD0, hT⟩ := hv
  have hx := B.exec
  have hb := B.bytes
  have hr := B.returns
  have hts := atoms_spec (ws := wsX3_state) B.pre
  have hown : s.vm.findClass RX3 = some m.cls := findClass_of_methodNamed B.named
  have hlocks := B.notSynchronized
  subst hsz
  have hD := hD0.self (sz := s.heap.size)
  generalize hAe : va_A [(qs, .inr (3, [.ref qi, .ref qo, .ref qd, .ref qk, .ref qv, .ref qf, .ref qa, .ref gh, .ref hk, .int (nI kc), .int ivl, .int drw])), (qk, .inr (2, [.ref bk, .int (nI uk)])), (bk, .inl (cI, 32, .inl fk)), (qv, .inr (2, [.ref bv, .int (nI uv)])), (bv, .inl (cI, 32, .inl fv))] s.heap.size = A at hD hT ⊢
  have hA : ∀ q : Nat, s.heap.size ≤ q → A q := fun q h => by rw [← hAe]; exact Or.inr h
  have hS : va_S A s.heap s.heap [] := va_S.rf
  have hl := lv_entry ([.ref qs, .int k, .int i]) (n := 3) (Nat.le_of_ble_eq_true rfl)
  rw [lg_entry_eq]
  generalize (lg_sl ([.ref qs, .int k, .int i]) ++ List.replicate (3 - (lg_sl ([.ref qs, .int k, .int i])).length) Slot.unset).toArray = ls at hl ⊢
  have hl : lv_has ls 3 [(0, .ref qs), (1, .int k), (2, .int i)] := hl
  refine sm_name (fun Q hQ => ?_)
  have hf_24 := hts (.fieldLink RX3 24 "SeedMill" "key" "LSeedMill$Row;") (by decide +kernel)
  have hw_X3 : ∀ w ∈ wsX30, w ∈ wsX3_state := by decide +kernel
  have hf_27 := hts (.fieldLink RX3 27 "SeedMill" "value" "LSeedMill$Row;") (by decide +kernel)
  refine lv_aload_n hx hb dX3_state_0 rfl (lv_at hl 0 rfl) ?_
  refine sm_callVi (wc := [(qs, .inr (3, [.ref qi, .ref qo, .ref qd, .ref qk, .ref qv, .ref qf, .ref qa, .ref gh, .ref hk, .int (nI kc), .int ivl, .int drw]))]) (wr := [(qk, .inr (2, [.ref bk, .int (nI uk)])), (bk, .inl (cI, 32, .inl fk)), (qv, .inr (2, [.ref bv, .int (nI uv)])), (bv, .inl (cI, 32, .inl fv))]) (As := []) (rest := []) ⟨hx, hb, hml, hown, hts⟩ (sc_X3_isSeeded l D cI th _ qs qi bi qo bo qd bd qk bk qv bv qf bf qa ba gh gm gb gw gd hk hh hm bm aw ad hB bB hI bI (nI kc) ivl drw ) (cwV 0 hts gX3_state_X3_isSeeded rfl rfl rfl (by decide +kernel) ⟨Nat.le_of_ble_eq_true rfl, Nat.le_of_ble_eq_true rfl⟩) hP hD hS hA hK hT [0] [1, 2, 3, 4] rfl rfl rfl rfl (by decide) 0 3 rfl rfl rfl rfl hl.1 rfl (Nat.le_of_ble_eq_true rfl) dX3_state_1 ⟨Nat.zero_le _, Nat.zero_le _⟩ (fun r_1 zt H1 locs ht hvm hw hB hJ hS => ?_)
  obtain ⟨hP1, -, hD1⟩ := hB
  rw [ht] at hP1
  obtain ⟨hP, hD⟩ := hJ _ hP1 hD1
  clear hJ
  generalize H1 = H at hP hS ⊢
  have hP : va_P D vwCl [(qs, .inr (3, [.ref qi, .ref qo, .ref qd, .ref qk, .ref qv, .ref qf, .ref qa, .ref gh, .ref hk, .int (nI kc), .int ivl, .int drw])), (qk, .inr (2, [.ref bk, .int (nI uk)])), (bk, .inl (cI, 32, .inl fk)), (qv, .inr (2, [.ref bv, .int (nI uv)])), (bv, .inl (cI, 32, .inl fv))] H := hP.sub [4, 0, 1, 2, 3] rfl
  have hD : va_D A [(qs, .inr (3, [.ref qi, .ref qo, .ref qd, .ref qk, .ref qv, .ref qf, .ref qa, .ref gh, .ref hk, .int (nI kc), .int ivl, .int drw])), (qk, .inr (2, [.ref bk, .int (nI uk)])), (bk, .inl (cI, 32, .inl fk)), (qv, .inr (2, [.ref bv, .int (nI uv)])), (bv, .inl (cI, 32, .inl fv))] := hD.sub [4, 0, 1, 2, 3] rfl rfl
  rw [hw]
  rcases Nat.eq_zero_or_pos kc with hkc | hkc
  ·
    refine sm_top (z := 0) (if_neg (by rw [hkc]; decide)) ?_
    refine lv_if_ne (tgt := 9) hx hb dX3_state_4 (by decide) (fun c_4 => ?_) (fun c_4 => ?_)
    ·
      exact absurd rfl c_4
    ·
      refine lv_iconst (v := (-1)) hx hb dX3_state_7 (by decide) ?_
      rw [hQ]
      have hP9 : va_P D vwCl [(qs, .inr (3, [.ref qi, .ref qo, .ref qd, .ref qk, .ref qv, .ref qf, .ref qa, .ref gh, .ref hk, .int (nI kc), .int ivl, .int drw])), (qk, .inr (2, [.ref bk, .int (nI uk)])), (bk, .inl (cI, 32, .inl fk)), (qv, .inr (2, [.ref bv, .int (nI uv)])), (bv, .inl (cI, 32, .inl fv))] H := hP
      have hD9 : va_D A [(qs, .inr (3, [.ref qi, .ref qo, .ref qd, .ref qk, .ref qv, .ref qf, .ref qa, .ref gh, .ref hk, .int (nI kc), .int ivl, .int drw])), (qk, .inr (2, [.ref bk, .int (nI uk)])), (bk, .inl (cI, 32, .inl fk)), (qv, .inr (2, [.ref bv, .int (nI uv)])), (bv, .inl (cI, 32, .inl fv))] := hD
      exact W.iret (v := (-1)) hx hb hr (fun t ht hW => ⟨⟨(-1), (), rfl, (by rw [if_pos hkc]), ⟨by rw [ht]; exact hP9, va_K.moved hW.alike hK, hD9⟩⟩, hS.F ht⟩) hS.2.2 dX3_state_8
  ·
    refine sm_top (z := 1) (if_pos (nI_lt (a := 0) hkc (by omega))) ?_
    refine lv_if_ne (tgt := 9) hx hb dX3_state_4 (by decide) (fun c_4 => ?_) (fun c_4 => ?_)
    ·
      refine lv_iload_n hx hb dX3_state_9 rfl (lv_at hl 1 rfl) ?_
      by_cases hw0 : k = 0
      ·
        refine lv_lookup (tgt := 36) (off := 26) hx hb dX3_state_10 (by decide) (by rw [hw0]; decide) (by decide) ?_
        refine lv_aload_n hx hb dX3_state_36 rfl (lv_at hl 0 rfl) ?_
        refine va_get (D := D) (ci := 3) (v := .ref qk) (C := RX3) (T := TX3) (N := 12) hx hb hts hw_X3 hown hK hP 0 rfl rfl 3 (by decide) hf_24 (fun _ h9 => h9) rfl dX3_state_37 ?_
        refine lv_iload_n hx hb dX3_state_40 rfl (lv_at hl 2 rfl) ?_
        refine sm_callVi (wc := [(qk, .inr (2, [.ref bk, .int (nI uk)])), (bk, .inl (cI, 32, .inl fk))]) (wr := [(qs, .inr (3, [.ref qi, .ref qo, .ref qd, .ref qk, .ref qv, .ref qf, .ref qa, .ref gh, .ref hk, .int (nI kc), .int ivl, .int drw])), (qv, .inr (2, [.ref bv, .int (nI uv)])), (bv, .inl (cI, 32, .inl fv))]) (As := [.int i]) (rest := []) ⟨hx, hb, hml, hown, hts⟩ (sc_X2_at l D cI th _ qk bk 32 uk fk i huk (by decide)) (cwV 1 hts gX3_state_X2_at rfl rfl rfl (by decide +kernel) ⟨Nat.le_of_ble_eq_true rfl, Nat.le_of_ble_eq_true rfl⟩) hP hD hS hA hK hT [1, 2] [0, 3, 4] rfl rfl rfl rfl (by decide) 0 2 rfl rfl rfl rfl hl.1 rfl (Nat.le_of_ble_eq_true rfl) dX3_state_41 ⟨Nat.zero_le _, Nat.zero_le _⟩ (fun r_41 zt H1 locs ht hvm hw hB hJ hS => ?_)
        obtain ⟨hP1, -, hD1⟩ := hB
        rw [ht] at hP1
        obtain ⟨hP, hD⟩ := hJ _ hP1 hD1
        clear hJ
        generalize H1 = H at hP hS ⊢
        have hP : va_P D vwCl [(qs, .inr (3, [.ref qi, .ref qo, .ref qd, .ref qk, .ref qv, .ref qf, .ref qa, .ref gh, .ref hk, .int (nI kc), .int ivl, .int drw])), (qk, .inr (2, [.ref bk, .int (nI uk)])), (bk, .inl (cI, 32, .inl fk)), (qv, .inr (2, [.ref bv, .int (nI uv)])), (bv, .inl (cI, 32, .inl fv))] H := hP.sub [0, 3, 4, 1, 2] rfl
        have hD : va_D A [(qs, .inr (3, [.ref qi, .ref qo, .ref qd, .ref qk, .ref qv, .ref qf, .ref qa, .ref gh, .ref hk, .int (nI kc), .int ivl, .int drw])), (qk, .inr (2, [.ref bk, .int (nI uk)])), (bk, .inl (cI, 32, .inl fk)), (qv, .inr (2, [.ref bv, .int (nI uv)])), (bv, .inl (cI, 32, .inl fv))] := hD.sub [0, 3, 4, 1, 2] rfl rfl
        rw [hw]
        rw [hQ]
        have hP9 : va_P D vwCl [(qs, .inr (3, [.ref qi, .ref qo, .ref qd, .ref qk, .ref qv, .ref qf, .ref qa, .ref gh, .ref hk, .int (nI kc), .int ivl, .int drw])), (qk, .inr (2, [.ref bk, .int (nI uk)])), (bk, .inl (cI, 32, .inl fk)), (qv, .inr (2, [.ref bv, .int (nI uv)])), (bv, .inl (cI, 32, .inl fv))] H := hP
        have hD9 : va_D A [(qs, .inr (3, [.ref qi, .ref qo, .ref qd, .ref qk, .ref qv, .ref qf, .ref qa, .ref gh, .ref hk, .int (nI kc), .int ivl, .int drw])), (qk, .inr (2, [.ref bk, .int (nI uk)])), (bk, .inl (cI, 32, .inl fk)), (qv, .inr (2, [.ref bv, .int (nI uv)])), (bv, .inl (cI, 32, .inl fv))] := hD
        exact W.iret (v := sm_at fk uk i) hx hb hr (fun t ht hW => ⟨⟨sm_at fk uk i, (), rfl, (by rw [if_neg (by omega), if_pos hw0]), ⟨by rw [ht]; exact hP9, va_K.moved hW.alike hK, hD9⟩⟩, hS.F ht⟩) hS.2.2 dX3_state_44
      ·
        by_cases hw1 : k = 1
        ·
          refine lv_lookup (tgt := 45) (off := 35) hx hb dX3_state_10 (by decide) (by rw [hw1]; decide) (by decide) ?_
          refine lv_aload_n hx hb dX3_state_45 rfl (lv_at hl 0 rfl) ?_
          refine va_get (D := D) (ci := 3) (v := .ref qv) (C := RX3) (T := TX3) (N := 12) hx hb hts hw_X3 hown hK hP 0 rfl rfl 4 (by decide) hf_27 (fun _ h9 => h9) rfl dX3_state_46 ?_
          refine lv_iload_n hx hb dX3_state_49 rfl (lv_at hl 2 rfl) ?_
          refine sm_callVi (wc := [(qv, .inr (2, [.ref bv, .int (nI uv)])), (bv, .inl (cI, 32, .inl fv))]) (wr := [(qs, .inr (3, [.ref qi, .ref qo, .ref qd, .ref qk, .ref qv, .ref qf, .ref qa, .ref gh, .ref hk, .int (nI kc), .int ivl, .int drw])), (qk, .inr (2, [.ref bk, .int (nI uk)])), (bk, .inl (cI, 32, .inl fk))]) (As := [.int i]) (rest := []) ⟨hx, hb, hml, hown, hts⟩ (sc_X2_at l D cI th _ qv bv 32 uv fv i huv (by decide)) (cwV 1 hts gX3_state_X2_at rfl rfl rfl (by decide +kernel) ⟨Nat.le_of_ble_eq_true rfl, Nat.le_of_ble_eq_true rfl⟩) hP hD hS hA hK hT [3, 4] [0, 1, 2] rfl rfl rfl rfl (by decide) 0 2 rfl rfl rfl rfl hl.1 rfl (Nat.le_of_ble_eq_true rfl) dX3_state_50 ⟨Nat.zero_le _, Nat.zero_le _⟩ (fun r_50 zt H1 locs ht hvm hw hB hJ hS => ?_)
          obtain ⟨hP1, -, hD1⟩ := hB
          rw [ht] at hP1
          obtain ⟨hP, hD⟩ := hJ _ hP1 hD1
          clear hJ
          generalize H1 = H at hP hS ⊢
          have hP : va_P D vwCl [(qs, .inr (3, [.ref qi, .ref qo, .ref qd, .ref qk, .ref qv, .ref qf, .ref qa, .ref gh, .ref hk, .int (nI kc), .int ivl, .int drw])), (qk, .inr (2, [.ref bk, .int (nI uk)])), (bk, .inl (cI, 32, .inl fk)), (qv, .inr (2, [.ref bv, .int (nI uv)])), (bv, .inl (cI, 32, .inl fv))] H := hP.sub [0, 1, 2, 3, 4] rfl
          have hD : va_D A [(qs, .inr (3, [.ref qi, .ref qo, .ref qd, .ref qk, .ref qv, .ref qf, .ref qa, .ref gh, .ref hk, .int (nI kc), .int ivl, .int drw])), (qk, .inr (2, [.ref bk, .int (nI uk)])), (bk, .inl (cI, 32, .inl fk)), (qv, .inr (2, [.ref bv, .int (nI uv)])), (bv, .inl (cI, 32, .inl fv))] := hD.sub [0, 1, 2, 3, 4] rfl rfl
          rw [hw]
          rw [hQ]
          have hP9 : va_P D vwCl [(qs, .inr (3, [.ref qi, .ref qo, .ref qd, .ref qk, .ref qv, .ref qf, .ref qa, .ref gh, .ref hk, .int (nI kc), .int ivl, .int drw])), (qk, .inr (2, [.ref bk, .int (nI uk)])), (bk, .inl (cI, 32, .inl fk)), (qv, .inr (2, [.ref bv, .int (nI uv)])), (bv, .inl (cI, 32, .inl fv))] H := hP
          have hD9 : va_D A [(qs, .inr (3, [.ref qi, .ref qo, .ref qd, .ref qk, .ref qv, .ref qf, .ref qa, .ref gh, .ref hk, .int (nI kc), .int ivl, .int drw])), (qk, .inr (2, [.ref bk, .int (nI uk)])), (bk, .inl (cI, 32, .inl fk)), (qv, .inr (2, [.ref bv, .int (nI uv)])), (bv, .inl (cI, 32, .inl fv))] := hD
          exact W.iret (v := sm_at fv uv i) hx hb hr (fun t ht hW => ⟨⟨sm_at fv uv i, (), rfl, (by rw [if_neg (by omega), if_neg hw0, if_pos hw1]), ⟨by rw [ht]; exact hP9, va_K.moved hW.alike hK, hD9⟩⟩, hS.F ht⟩) hS.2.2 dX3_state_53
        ·
          refine lv_lookup (tgt := 54) (off := 44) hx hb dX3_state_10 (by decide) ((lv_osw (a := 0) (o := 26) (r := [(1, 35)]) (d := 44) hw0 rfl).trans ((lv_osw (a := 1) (o := 35) (r := []) (d := 44) hw1 rfl).trans rfl)) (by decide) ?_
          refine lv_iconst (v := (-1)) hx hb dX3_state_54 (by decide) ?_
          rw [hQ]
          have hP9 : va_P D vwCl [(qs, .inr (3, [.ref qi, .ref qo, .ref qd, .ref qk, .ref qv, .ref qf, .ref qa, .ref gh, .ref hk, .int (nI kc), .int ivl, .int drw])), (qk, .inr (2, [.ref bk, .int (nI uk)])), (bk, .inl (cI, 32, .inl fk)), (qv, .inr (2, [.ref bv, .int (nI uv)])), (bv, .inl (cI, 32, .inl fv))] H := hP
          have hD9 : va_D A [(qs, .inr (3, [.ref qi, .ref qo, .ref qd, .ref qk, .ref qv, .ref qf, .ref qa, .ref gh, .ref hk, .int (nI kc), .int ivl, .int drw])), (qk, .inr (2, [.ref bk, .int (nI uk)])), (bk, .inl (cI, 32, .inl fk)), (qv, .inr (2, [.ref bv, .int (nI uv)])), (bv, .inl (cI, 32, .inl fv))] := hD
          exact W.iret (v := (-1)) hx hb hr (fun t ht hW => ⟨⟨(-1), (), rfl, (by rw [if_neg (by omega), if_neg hw0, if_neg hw1]), ⟨by rw [ht]; exact hP9, va_K.moved hW.alike hK, hD9⟩⟩, hS.F ht⟩) hS.2.2 dX3_state_55
    ·
      exact absurd c_4 (by decide)

def rm_X3_forget_no : Room := ({ frames := 2, cells := 0, slots := 0, locals := 44 } : Room)
set_option maxHeartbeats 4000000 in
set_option maxRecDepth 100000 in
/-- forget, not seeded -/
theorem sc_X3_forget_no (l : Launch) (D : va_G) (cI : ClassId) (th : Option (Nat × Nat)) (sz : Nat) (qs qi bi qo bo qd bd qk bk qv bv qf bf qa ba gh gm gb gw gd hk hh hm bm aw ad hB bB hI bI : Nat) (ivl drw : Int32) (kc : Nat)  (hkc : kc = 0) : Met l yX3_forget wsX3_forget rm_X3_forget_no (va_Pc [.ref qs] (sm_PW D cI th [(qs, .inr (3, [.ref qi, .ref qo, .ref qd, .ref qk, .ref qv, .ref qf, .ref qa, .ref gh, .ref hk, .int (nI kc), .int ivl, .int drw]))] sz)) (va_Qi (fun (r : Int32) (_ : Unit) => r = 0) (fun _ t => sm_QW D cI (va_A [(qs, .inr (3, [.ref qi, .ref qo, .ref qd, .ref qk, .ref qv, .ref qf, .ref qa, .ref gh, .ref hk, .int (nI kc), .int ivl, .int drw]))] sz) [(qs, .inr (3, [.ref qi, .ref qo, .ref qd, .ref qk, .ref qv, .ref qf, .ref qa, .ref gh, .ref hk, .int (nI kc), .int ivl, .int drw]))] t) (va_A [(qs, .inr (3, [.ref qi, .ref qo, .ref qd, .ref qk, .ref qv, .ref qf, .ref qa, .ref gh, .ref hk, .int (nI kc), .int ivl, .int drw]))] sz)) 0 0 (va_A [(qs, .inr (3, [.ref qi, .ref qo, .ref qd, .ref qk, .ref qv, .ref qf, .ref qa, .ref gh, .ref hk, .int (nI kc), .int ivl, .int drw]))] sz) := by
  refine Met.ofW (cc := cX3_forget) (maxL := 1) (ret := (some .int)) (by decide) rfl ?_
  intro p e s m args below meth c s₁ B hml hv
  obtain ⟨rfl, hsz, hP, hK, hD0, hT⟩ := hv
  have hx := B.exec
  have hb := B.bytes
  have hr := B.returns
  have hts := atoms_spec (ws := wsX3_forget) B.pre
  have hown : s.vm.findClass RX3 = some m.cls := findClass_of_methodNamed B.named
  have hlocks := B.notSynchronized
  subst hsz
  have hD := hD0.self (sz := s.heap.size)
  generalize hAe : va_A [(qs, .inr (3, [.ref qi, .ref qo, .ref qd, .ref qk, .ref qv, .ref qf, .ref qa, .ref gh, .ref hk, .int (nI kc), .int ivl, .int drw]))] s.heap.size = A at hD hT ⊢
  have hA : ∀ q : Nat, s.heap.size ≤ q → A q := fun q h => by rw [← hAe]; exact Or.inr h
  have hS : va_S A s.heap s.heap [] := va_S.rf
  have hl := lv_entry ([.ref qs]) (n := 1) (Nat.le_of_ble_eq_true rfl)
  rw [lg_entry_eq]
  generalize (lg_sl ([.ref qs]) ++ List.replicate (1 - (lg_sl ([.ref qs])).length) Slot.unset).toArray = ls at hl ⊢
  have hl : lv_has ls 1 [(0, .ref qs)] := hl
  refine sm_name (fun Q hQ => ?_)
  have hf_50 := hts (.fieldLink RX3 50 "SeedMill" "drawCounter" "I") (by decide +kernel)
  have hw_X3 : ∀ w ∈ wsX30, w ∈ wsX3_forget := by decide +kernel
  have hf_24 := hts (.fieldLink RX3 24 "SeedMill" "key" "LSeedMill$Row;") (by decide +kernel)
  have hf_27 := hts (.fieldLink RX3 27 "SeedMill" "value" "LSeedMill$Row;") (by decide +kernel)
  have hf_30 := hts (.fieldLink RX3 30 "SeedMill" "formerValue" "LSeedMill$Row;") (by decide +kernel)
  have hf_21 := hts (.fieldLink RX3 21 "SeedMill" "drawn" "LSeedMill$Row;") (by decide +kernel)
  refine lv_aload_n hx hb dX3_forget_0 rfl (lv_at hl 0 rfl) ?_
  refine sm_callVi (wc := [(qs, .inr (3, [.ref qi, .ref qo, .ref qd, .ref qk, .ref qv, .ref qf, .ref qa, .ref gh, .ref hk, .int (nI kc), .int ivl, .int drw]))]) (wr := []) (As := []) (rest := []) ⟨hx, hb, hml, hown, hts⟩ (sc_X3_isSeeded l D cI th _ qs qi bi qo bo qd bd qk bk qv bv qf bf qa ba gh gm gb gw gd hk hh hm bm aw ad hB bB hI bI (nI kc) ivl drw ) (cwV 0 hts gX3_forget_X3_isSeeded rfl rfl rfl (by decide +kernel) ⟨Nat.le_of_ble_eq_true rfl, Nat.le_of_ble_eq_true rfl⟩) hP hD hS hA hK hT [0] [] rfl rfl rfl rfl (by decide) 0 3 rfl rfl rfl rfl hl.1 rfl (Nat.le_of_ble_eq_true rfl) dX3_forget_1 ⟨Nat.zero_le _, Nat.zero_le _⟩ (fun r_1 zt H1 locs ht hvm hw hB hJ hS => ?_)
  obtain ⟨hP1, -, hD1⟩ := hB
  rw [ht] at hP1
  obtain ⟨hP, hD⟩ := hJ _ hP1 hD1
  clear hJ
  generalize H1 = H at hP hS ⊢
  have hP : va_P D vwCl [(qs, .inr (3, [.ref qi, .ref qo, .ref qd, .ref qk, .ref qv, .ref qf, .ref qa, .ref gh, .ref hk, .int (nI kc), .int ivl, .int drw]))] H := hP.sub [0] rfl
  have hD : va_D A [(qs, .inr (3, [.ref qi, .ref qo, .ref qd, .ref qk, .ref qv, .ref qf, .ref qa, .ref gh, .ref hk, .int (nI kc), .int ivl, .int drw]))] := hD.sub [0] rfl rfl
  rw [hw]
  refine sm_top (z := 0) (if_neg (by rw [hkc]; decide)) ?_
  refine lv_if_ne (tgt := 9) hx hb dX3_forget_4 (by decide) (fun c_4 => ?_) (fun c_4 => ?_)
  ·
    exact absurd rfl c_4
  ·
    refine lv_iconst (v := 0) hx hb dX3_forget_7 (by decide) ?_
    rw [hQ]
    have hP9 : va_P D vwCl [(qs, .inr (3, [.ref qi, .ref qo, .ref qd, .ref qk, .ref qv, .ref qf, .ref qa, .ref gh, .ref hk, .int (nI kc), .int ivl, .int drw]))] H := hP
    have hD9 : va_D A [(qs, .inr (3, [.ref qi, .ref qo, .ref qd, .ref qk, .ref qv, .ref qf, .ref qa, .ref gh, .ref hk, .int (nI kc), .int ivl, .int drw]))] := hD
    exact W.iret (v := 0) hx hb hr (fun t ht hW => ⟨⟨0, (), rfl, rfl, ⟨by rw [ht]; exact hP9, va_K.moved hW.alike hK, hD9⟩⟩, hS.F ht⟩) hS.2.2 dX3_forget_8

def rm_X3_forget_ok : Room := ({ frames := 2, cells := 0, slots := 0, locals := 44 } : Room)
set_option maxHeartbeats 4000000 in
set_option maxRecDepth 100000 in
/-- forget -/
theorem sc_X3_forget_ok (l : Launch) (D : va_G) (cI : ClassId) (th : Option (Nat × Nat)) (sz : Nat) (qs qi bi qo bo qd bd qk bk qv bv qf bf qa ba gh gm gb gw gd hk hh hm bm aw ad hB bB hI bI : Nat) (ivl drw : Int32) (kc : Nat) (fD fk fv ff : Nat → Int32) (ud uk uv uf : Int32) (hkc : 0 < kc) (hkc2 : kc < 2 ^ 31) : Met l yX3_forget wsX3_forget rm_X3_forget_ok (va_Pc [.ref qs] (sm_PW D cI th [(qs, .inr (3, [.ref qi, .ref qo, .ref qd, .ref qk, .ref qv, .ref qf, .ref qa, .ref gh, .ref hk, .int (nI kc), .int ivl, .int drw])), (qd, .inr (2, [.ref bd, .int ud])), (bd, .inl (cI, 400, .inl fD)), (qk, .inr (2, [.ref bk, .int uk])), (bk, .inl (cI, 32, .inl fk)), (qv, .inr (2, [.ref bv, .int uv])), (bv, .inl (cI, 32, .inl fv)), (qf, .inr (2, [.ref bf, .int uf])), (bf, .inl (cI, 32, .inl ff))] sz)) (va_Qi (fun (r : Int32) (_ : Unit) => r = 1) (fun _ t => sm_QW D cI (va_A [(qs, .inr (3, [.ref qi, .ref qo, .ref qd, .ref qk, .ref qv, .ref qf, .ref qa, .ref gh, .ref hk, .int (nI kc), .int ivl, .int drw])), (qd, .inr (2, [.ref bd, .int ud])), (bd, .inl (cI, 400, .inl fD)), (qk, .inr (2, [.ref bk, .int uk])), (bk, .inl (cI, 32, .inl fk)), (qv, .inr (2, [.ref bv, .int uv])), (bv, .inl (cI, 32, .inl fv)), (qf, .inr (2, [.ref bf, .int uf])), (bf, .inl (cI, 32, .inl ff))] sz) [(qs, .inr (3, [.ref qi, .ref qo, .ref qd, .ref qk, .ref qv, .ref qf, .ref qa, .ref gh, .ref hk, .int (nI 0), .int ivl, .int drw])), (qd, .inr (2, [.ref bd, .int (nI 0)])), (bd, .inl (cI, 400, .inl (fun _ => 0))), (qk, .inr (2, [.ref bk, .int (nI 32)])), (bk, .inl (cI, 32, .inl (fun _ => 0))), (qv, .inr (2, [.ref bv, .int (nI 32)])), (bv, .inl (cI, 32, .inl (fun _ => 0))), (qf, .inr (2, [.ref bf, .int (nI 32)])), (bf, .inl (cI, 32, .inl (fun _ => 0)))] t) (va_A [(qs, .inr (3, [.ref qi, .ref qo, .ref qd, .ref qk, .ref qv, .ref qf, .ref qa, .ref gh, .ref hk, .int (nI kc), .int ivl, .int drw])), (qd, .inr (2, [.ref bd, .int ud])), (bd, .inl (cI, 400, .inl fD)), (qk, .inr (2, [.ref bk, .int uk])), (bk, .inl (cI, 32, .inl fk)), (qv, .inr (2, [.ref bv, .int uv])), (bv, .inl (cI, 32, .inl fv)), (qf, .inr (2, [.ref bf, .int uf])), (bf, .inl (cI, 32, .inl ff))] sz)) 0 0 (va_A [(qs, .inr (3, [.ref qi, .ref qo, .ref qd, .ref qk, .ref qv, .ref qf, .ref qa, .ref gh, .ref hk, .int (nI kc), .int ivl, .int drw])), (qd, .inr (2, [.ref bd, .int ud])), (bd, .inl (cI, 400, .inl fD)), (qk, .inr (2, [.ref bk, .int uk])), (bk, .inl (cI, 32, .inl fk)), (qv, .inr (2, [.ref bv, .int uv])), (bv, .inl (cI, 32, .inl fv)), (qf, .inr (2, [.ref bf, .int uf])), (bf, .inl (cI, 32, .inl ff))] sz) := by
  refine Met.ofW (cc := cX3_forget) (maxL := 1) (ret := (some .int)) (by decide) rfl ?_
  intro p e s m args below meth c s₁ B hml hv
  obtain ⟨rfl, hsz, hP, hK, hD0, hT⟩ := hv
  have hx := B.exec
  have hb := B.bytes
  have hr := B.returns
  have hts := atoms_spec (ws := wsX3_forget) B.pre
  have hown : s.vm.findClass RX3 = some m.cls := findClass_of_methodNamed B.named
  have hlocks := B.notSynchronized
  subst hsz
  have hD := hD0.self (sz := s.heap.size)
  generalize hAe : va_A [(qs, .inr (3, [.ref qi, .ref qo, .ref qd, .ref qk, .ref qv, .ref qf, .ref qa, .ref gh, .ref hk, .int (nI kc), .int ivl, .int drw])), (qd, .inr (2, [.ref bd, .int ud])), (bd, .inl (cI, 400, .inl fD)), (qk, .inr (2, [.ref bk, .int uk])), (bk, .inl (cI, 32, .inl fk)), (qv, .inr (2, [.ref bv, .int uv])), (bv, .inl (cI, 32, .inl fv)), (qf, .inr (2, [.ref bf, .int uf])), (bf, .inl (cI, 32, .inl ff))] s.heap.size = A at hD hT ⊢
  have hA : ∀ q : Nat, s.heap.size ≤ q → A q := fun q h => by rw [← hAe]; exact Or.inr h
  have hS : va_S A s.heap s.heap [] := va_S.rf
  have hl := lv_entry ([.ref qs]) (n := 1) (Nat.le_of_ble_eq_true rfl)
  rw [lg_entry_eq]
  generalize (lg_sl ([.ref qs]) ++ List.replicate (1 - (lg_sl ([.ref qs])).length) Slot.unset).toArray = ls at hl ⊢
  have hl : lv_has ls 1 [(0, .ref qs)] := hl
  refine sm_name (fun Q hQ => ?_)
  have hf_50 := hts (.fieldLink RX3 50 "SeedMill" "drawCounter" "I") (by decide +kernel)
  have hw_X3 : ∀ w ∈ wsX30, w ∈ wsX3_forget := by decide +kernel
  have hf_24 := hts (.fieldLink RX3 24 "SeedMill" "key" "LSeedMill$Row;") (by decide +kernel)
  have hf_27 := hts (.fieldLink RX3 27 "SeedMill" "value" "LSeedMill$Row;") (by decide +kernel)
  have hf_30 := hts (.fieldLink RX3 30 "SeedMill" "formerValue" "LSeedMill$Row;") (by decide +kernel)
  have hf_21 := hts (.fieldLink RX3 21 "SeedMill" "drawn" "LSeedMill$Row;") (by decide +kernel)
  refine lv_aload_n hx hb dX3_forget_0 rfl (lv_at hl 0 rfl) ?_
  refine sm_callVi (wc := [(qs, .inr (3, [.ref qi, .ref qo, .ref qd, .ref qk, .ref qv, .ref qf, .ref qa, .ref gh, .ref hk, .int (nI kc), .int ivl, .int drw]))]) (wr := [(qd, .inr (2, [.ref bd, .int ud])), (bd, .inl (cI, 400, .inl fD)), (qk, .inr (2, [.ref bk, .int uk])), (bk, .inl (cI, 32, .inl fk)), (qv, .inr (2, [.ref bv, .int uv])), (bv, .inl (cI, 32, .inl fv)), (qf, .inr (2, [.ref bf, .int uf])), (bf, .inl (cI, 32, .inl ff))]) (As := []) (rest := []) ⟨hx, hb, hml, hown, hts⟩ (sc_X3_isSeeded l D cI th _ qs qi bi qo bo qd bd qk bk qv bv qf bf qa ba gh gm gb gw gd hk hh hm bm aw ad hB bB hI bI (nI kc) ivl drw ) (cwV 0 hts gX3_forget_X3_isSeeded rfl rfl rfl (by decide +kernel) ⟨Nat.le_of_ble_eq_true rfl, Nat.le_of_ble_eq_true rfl⟩) hP hD hS hA hK hT [0] [1, 2, 3, 4, 5, 6, 7, 8] rfl rfl rfl rfl (by decide) 0 3 rfl rfl rfl rfl hl.1 rfl (Nat.le_of_ble_eq_true rfl) dX3_forget_1 ⟨Nat.zero_le _, Nat.zero_le _⟩ (fun r_1 zt H1 locs ht hvm hw hB hJ hS => ?_)
  obtain ⟨hP1, -, hD1⟩ := hB
  rw [ht] at hP1
  obtain ⟨hP, hD⟩ := hJ _ hP1 hD1
  clear hJ
  generalize H1 = H at hP hS ⊢
  have hP : va_P D vwCl [(qs, .inr (3, [.ref qi, .ref qo, .ref qd, .ref qk, .ref qv, .ref qf, .ref qa, .ref gh, .ref hk, .int (nI kc), .int ivl, .int drw])), (qd, .inr (2, [.ref bd, .int ud])), (bd, .inl (cI, 400, .inl fD)), (qk, .inr (2, [.ref bk, .int uk])), (bk, .inl (cI, 32, .inl fk)), (qv, .inr (2, [.ref bv, .int uv])), (bv, .inl (cI, 32, .inl fv)), (qf, .inr (2, [.ref bf, .int uf])), (bf, .inl (cI, 32, .inl ff))] H := hP.sub [8, 0, 1, 2, 3, 4, 5, 6, 7] rfl
  have hD : va_D A [(qs, .inr (3, [.ref qi, .ref qo, .ref qd, .ref qk, .ref qv, .ref qf, .ref qa, .ref gh, .ref hk, .int (nI kc), .int ivl, .int drw])), (qd, .inr (2, [.ref bd, .int ud])), (bd, .inl (cI, 400, .inl fD)), (qk, .inr (2, [.ref bk, .int uk])), (bk, .inl (cI, 32, .inl fk)), (qv, .inr (2, [.ref bv, .int uv])), (bv, .inl (cI, 32, .inl fv)), (qf, .inr (2, [.ref bf, .int uf])), (bf, .inl (cI, 32, .inl ff))] := hD.sub [8, 0, 1, 2, 3, 4, 5, 6, 7] rfl rfl
  rw [hw]
  refine sm_top (z := 1) (if_pos (nI_lt (a := 0) hkc (by omega))) ?_
  refine lv_if_ne (tgt := 9) hx hb dX3_forget_4 (by decide) (fun c_4 => ?_) (fun c_4 => ?_)
  ·
    refine lv_aload_n hx hb dX3_forget_9 rfl (lv_at hl 0 rfl) ?_
    refine lv_iconst (v := 0) hx hb dX3_forget_10 (by decide) ?_
    refine va_put (D := D) (ci := 3) (v := .int 0) (ty := .int) (C := RX3) (T := TX3) (N := 12) hx hb hts hw_X3 tyX3 tyX3_ok nmX3 hown hK hP hD hS 0 rfl rfl 9 (by decide) hf_50 (fun _ h9 => h9) rfl (by decide +kernel) rfl rfl (Nat.le_of_ble_eq_true rfl) dX3_forget_11 (fun H locs hP hD hS => ?_)
    have hP : va_P D vwCl [(qs, .inr (3, [.ref qi, .ref qo, .ref qd, .ref qk, .ref qv, .ref qf, .ref qa, .ref gh, .ref hk, .int 0, .int ivl, .int drw])), (qd, .inr (2, [.ref bd, .int ud])), (bd, .inl (cI, 400, .inl fD)), (qk, .inr (2, [.ref bk, .int uk])), (bk, .inl (cI, 32, .inl fk)), (qv, .inr (2, [.ref bv, .int uv])), (bv, .inl (cI, 32, .inl fv)), (qf, .inr (2, [.ref bf, .int uf])), (bf, .inl (cI, 32, .inl ff))] H := hP
    have hD : va_D A [(qs, .inr (3, [.ref qi, .ref qo, .ref qd, .ref qk, .ref qv, .ref qf, .ref qa, .ref gh, .ref hk, .int 0, .int ivl, .int drw])), (qd, .inr (2, [.ref bd, .int ud])), (bd, .inl (cI, 400, .inl fD)), (qk, .inr (2, [.ref bk, .int uk])), (bk, .inl (cI, 32, .inl fk)), (qv, .inr (2, [.ref bv, .int uv])), (bv, .inl (cI, 32, .inl fv)), (qf, .inr (2, [.ref bf, .int uf])), (bf, .inl (cI, 32, .inl ff))] := hD
    refine lv_aload_n hx hb dX3_forget_14 rfl (lv_at hl 0 rfl) ?_
    refine va_get (D := D) (ci := 3) (v := .ref qk) (C := RX3) (T := TX3) (N := 12) hx hb hts hw_X3 hown hK hP 0 rfl rfl 3 (by decide) hf_24 (fun _ h9 => h9) rfl dX3_forget_15 ?_
    refine lv_iconst (v := 0) hx hb dX3_forget_18 (by decide) ?_
    refine sm_callVv (wc := [(qk, .inr (2, [.ref bk, .int uk])), (bk, .inl (cI, 32, .inl fk))]) (wr := [(qs, .inr (3, [.ref qi, .ref qo, .ref qd, .ref qk, .ref qv, .ref qf, .ref qa, .ref gh, .ref hk, .int 0, .int ivl, .int drw])), (qd, .inr (2, [.ref bd, .int ud])), (bd, .inl (cI, 400, .inl fD)), (qv, .inr (2, [.ref bv, .int uv])), (bv, .inl (cI, 32, .inl fv)), (qf, .inr (2, [.ref bf, .int uf])), (bf, .inl (cI, 32, .inl ff))]) (As := [.int 0]) (rest := []) ⟨hx, hb, hml, hown, hts⟩ (sc_X2_fill l D cI th _ qk bk 32 fk uk 0 (by decide)) (cwV 1 hts gX3_forget_X2_fill rfl rfl rfl (by decide +kernel) ⟨Nat.le_of_ble_eq_true rfl, Nat.le_of_ble_eq_true rfl⟩) hP hD hS hA hK hT [3, 4] [0, 1, 2, 5, 6, 7, 8] rfl rfl rfl rfl (by decide) 0 2 rfl rfl rfl rfl hl.1 rfl (Nat.le_of_ble_eq_true rfl) dX3_forget_19 ⟨Nat.zero_le _, Nat.zero_le _⟩ (fun zt H1 locs ht hvm hB hJ hS => ?_)
    obtain ⟨hP1, -, hD1⟩ := hB
    rw [ht] at hP1
    obtain ⟨hP, hD⟩ := hJ _ hP1 hD1
    clear hJ
    generalize H1 = H at hP hS ⊢
    have hP : va_P D vwCl [(qs, .inr (3, [.ref qi, .ref qo, .ref qd, .ref qk, .ref qv, .ref qf, .ref qa, .ref gh, .ref hk, .int 0, .int ivl, .int drw])), (qd, .inr (2, [.ref bd, .int ud])), (bd, .inl (cI, 400, .inl fD)), (qk, .inr (2, [.ref bk, .int (nI 32)])), (bk, .inl (cI, 32, .inl (fun _ => 0))), (qv, .inr (2, [.ref bv, .int uv])), (bv, .inl (cI, 32, .inl fv)), (qf, .inr (2, [.ref bf, .int uf])), (bf, .inl (cI, 32, .inl ff))] H := hP.sub [0, 1, 2, 7, 8, 3, 4, 5, 6] rfl
    have hD : va_D A [(qs, .inr (3, [.ref qi, .ref qo, .ref qd, .ref qk, .ref qv, .ref qf, .ref qa, .ref gh, .ref hk, .int 0, .int ivl, .int drw])), (qd, .inr (2, [.ref bd, .int ud])), (bd, .inl (cI, 400, .inl fD)), (qk, .inr (2, [.ref bk, .int (nI 32)])), (bk, .inl (cI, 32, .inl (fun _ => 0))), (qv, .inr (2, [.ref bv, .int uv])), (bv, .inl (cI, 32, .inl fv)), (qf, .inr (2, [.ref bf, .int uf])), (bf, .inl (cI, 32, .inl ff))] := hD.sub [0, 1, 2, 7, 8, 3, 4, 5, 6] rfl rfl
    refine lv_aload_n hx hb dX3_forget_22 rfl (lv_at hl 0 rfl) ?_
    refine va_get (D := D) (ci := 3) (v := .ref qv) (C := RX3) (T := TX3) (N := 12) hx hb hts hw_X3 hown hK hP 0 rfl rfl 4 (by decide) hf_27 (fun _ h9 => h9) rfl dX3_forget_23 ?_
    refine lv_iconst (v := 0) hx hb dX3_forget_26 (by decide) ?_
    refine sm_callVv (wc := [(qv, .inr (2, [.ref bv, .int uv])), (bv, .inl (cI, 32, .inl fv))]) (wr := [(qs, .inr (3, [.ref qi, .ref qo, .ref qd, .ref qk, .ref qv, .ref qf, .ref qa, .ref gh, .ref hk, .int 0, .int ivl, .int drw])), (qd, .inr (2, [.ref bd, .int ud])), (bd, .inl (cI, 400, .inl fD)), (qk, .inr (2, [.ref bk, .int (nI 32)])), (bk, .inl (cI, 32, .inl (fun _ => 0))), (qf, .inr (2, [.ref bf, .int uf])), (bf, .inl (cI, 32, .inl ff))]) (As := [.int 0]) (rest := []) ⟨hx, hb, hml, hown, hts⟩ (sc_X2_fill l D cI th _ qv bv 32 fv uv 0 (by decide)) (cwV 1 hts gX3_forget_X2_fill rfl rfl rfl (by decide +kernel) ⟨Nat.le_of_ble_eq_true rfl, Nat.le_of_ble_eq_true rfl⟩) hP hD hS hA hK hT [5, 6] [0, 1, 2, 3, 4, 7, 8] rfl rfl rfl rfl (by decide) 0 2 rfl rfl rfl rfl hl.1 rfl (Nat.le_of_ble_eq_true rfl) dX3_forget_27 ⟨Nat.zero_le _, Nat.zero_le _⟩ (fun zt H1 locs ht hvm hB hJ hS => ?_)
    obtain ⟨hP1, -, hD1⟩ := hB
    rw [ht] at hP1
    obtain ⟨hP, hD⟩ := hJ _ hP1 hD1
    clear hJ
    generalize H1 = H at hP hS ⊢
    have hP : va_P D vwCl [(qs, .inr (3, [.ref qi, .ref qo, .ref qd, .ref qk, .ref qv, .ref qf, .ref qa, .ref gh, .ref hk, .int 0, .int ivl, .int drw])), (qd, .inr (2, [.ref bd, .int ud])), (bd, .inl (cI, 400, .inl fD)), (qk, .inr (2, [.ref bk, .int (nI 32)])), (bk, .inl (cI, 32, .inl (fun _ => 0))), (qv, .inr (2, [.ref bv, .int (nI 32)])), (bv, .inl (cI, 32, .inl (fun _ => 0))), (qf, .inr (2, [.ref bf, .int uf])), (bf, .inl (cI, 32, .inl ff))] H := hP.sub [0, 1, 2, 3, 4, 7, 8, 5, 6] rfl
    have hD : va_D A [(qs, .inr (3, [.ref qi, .ref qo, .ref qd, .ref qk, .ref qv, .ref qf, .ref qa, .ref gh, .ref hk, .int 0, .int ivl, .int drw])), (qd, .inr (2, [.ref bd, .int ud])), (bd, .inl (cI, 400, .inl fD)), (qk, .inr (2, [.ref bk, .int (nI 32)])), (bk, .inl (cI, 32, .inl (fun _ => 0))), (qv, .inr (2, [.ref bv, .int (nI 32)])), (bv, .inl (cI, 32, .inl (fun _ => 0))), (qf, .inr (2, [.ref bf, .int uf])), (bf, .inl (cI, 32, .inl ff))] := hD.sub [0, 1, 2, 3, 4, 7, 8, 5, 6] rfl rfl
    refine lv_aload_n hx hb dX3_forget_30 rfl (lv_at hl 0 rfl) ?_
    refine va_get (D := D) (ci := 3) (v := .ref qf) (C := RX3) (T := TX3) (N := 12) hx hb hts hw_X3 hown hK hP 0 rfl rfl 5 (by decide) hf_30 (fun _ h9 => h9) rfl dX3_forget_31 ?_
    refine lv_iconst (v := 0) hx hb dX3_forget_34 (by decide) ?_
    refine sm_callVv (wc := [(qf, .inr (2, [.ref bf, .int uf])), (bf, .inl (cI, 32, .inl ff))]) (wr := [(qs, .inr (3, [.ref qi, .ref qo, .ref qd, .ref qk, .ref qv, .ref qf, .ref qa, .ref gh, .ref hk, .int 0, .int ivl, .int drw])), (qd, .inr (2, [.ref bd, .int ud])), (bd, .inl (cI, 400, .inl fD)), (qk, .inr (2, [.ref bk, .int (nI 32)])), (bk, .inl (cI, 32, .inl (fun _ => 0))), (qv, .inr (2, [.ref bv, .int (nI 32)])), (bv, .inl (cI, 32, .inl (fun _ => 0)))]) (As := [.int 0]) (rest := []) ⟨hx, hb, hml, hown, hts⟩ (sc_X2_fill l D cI th _ qf bf 32 ff uf 0 (by decide)) (cwV 1 hts gX3_forget_X2_fill rfl rfl rfl (by decide +kernel) ⟨Nat.le_of_ble_eq_true rfl, Nat.le_of_ble_eq_true rfl⟩) hP hD hS hA hK hT [7, 8] [0, 1, 2, 3, 4, 5, 6] rfl rfl rfl rfl (by decide) 0 2 rfl rfl rfl rfl hl.1 rfl (Nat.le_of_ble_eq_true rfl) dX3_forget_35 ⟨Nat.zero_le _, Nat.zero_le _⟩ (fun zt H1 locs ht hvm hB hJ hS => ?_)
    obtain ⟨hP1, -, hD1⟩ := hB
    rw [ht] at hP1
    obtain ⟨hP, hD⟩ := hJ _ hP1 hD1
    clear hJ
    generalize H1 = H at hP hS ⊢
    have hP : va_P D vwCl [(qs, .inr (3, [.ref qi, .ref qo, .ref qd, .ref qk, .ref qv, .ref qf, .ref qa, .ref gh, .ref hk, .int 0, .int ivl, .int drw])), (qd, .inr (2, [.ref bd, .int ud])), (bd, .inl (cI, 400, .inl fD)), (qk, .inr (2, [.ref bk, .int (nI 32)])), (bk, .inl (cI, 32, .inl (fun _ => 0))), (qv, .inr (2, [.ref bv, .int (nI 32)])), (bv, .inl (cI, 32, .inl (fun _ => 0))), (qf, .inr (2, [.ref bf, .int (nI 32)])), (bf, .inl (cI, 32, .inl (fun _ => 0)))] H := hP.sub [0, 1, 2, 3, 4, 5, 6, 7, 8] rfl
    have hD : va_D A [(qs, .inr (3, [.ref qi, .ref qo, .ref qd, .ref qk, .ref qv, .ref qf, .ref qa, .ref gh, .ref hk, .int 0, .int ivl, .int drw])), (qd, .inr (2, [.ref bd, .int ud])), (bd, .inl (cI, 400, .inl fD)), (qk, .inr (2, [.ref bk, .int (nI 32)])), (bk, .inl (cI, 32, .inl (fun _ => 0))), (qv, .inr (2, [.ref bv, .int (nI 32)])), (bv, .inl (cI, 32, .inl (fun _ => 0))), (qf, .inr (2, [.ref bf, .int (nI 32)])), (bf, .inl (cI, 32, .inl (fun _ => 0)))] := hD.sub [0, 1, 2, 3, 4, 5, 6, 7, 8] rfl rfl
    refine lv_aload_n hx hb dX3_forget_38 rfl (lv_at hl 0 rfl) ?_
    refine va_get (D := D) (ci := 3) (v := .ref qd) (C := RX3) (T := TX3) (N := 12) hx hb hts hw_X3 hown hK hP 0 rfl rfl 2 (by decide) hf_21 (fun _ h9 => h9) rfl dX3_forget_39 ?_
    refine lv_iconst (v := 0) hx hb dX3_forget_42 (by decide) ?_
    refine sm_callVv (wc := [(qd, .inr (2, [.ref bd, .int ud])), (bd, .inl (cI, 400, .inl fD))]) (wr := [(qs, .inr (3, [.ref qi, .ref qo, .ref qd, .ref qk, .ref qv, .ref qf, .ref qa, .ref gh, .ref hk, .int 0, .int ivl, .int drw])), (qk, .inr (2, [.ref bk, .int (nI 32)])), (bk, .inl (cI, 32, .inl (fun _ => 0))), (qv, .inr (2, [.ref bv, .int (nI 32)])), (bv, .inl (cI, 32, .inl (fun _ => 0))), (qf, .inr (2, [.ref bf, .int (nI 32)])), (bf, .inl (cI, 32, .inl (fun _ => 0)))]) (As := [.int 0]) (rest := []) ⟨hx, hb, hml, hown, hts⟩ (sc_X2_fill l D cI th _ qd bd 400 fD ud 0 (by decide)) (cwV 1 hts gX3_forget_X2_fill rfl rfl rfl (by decide +kernel) ⟨Nat.le_of_ble_eq_true rfl, Nat.le_of_ble_eq_true rfl⟩) hP hD hS hA hK hT [1, 2] [0, 3, 4, 5, 6, 7, 8] rfl rfl rfl rfl (by decide) 0 2 rfl rfl rfl rfl hl.1 rfl (Nat.le_of_ble_eq_true rfl) dX3_forget_43 ⟨Nat.zero_le _, Nat.zero_le _⟩ (fun zt H1 locs ht hvm hB hJ hS => ?_)
    obtain ⟨hP1, -, hD1⟩ := hB
    rw [ht] at hP1
    obtain ⟨hP, hD⟩ := hJ _ hP1 hD1
    clear hJ
    generalize H1 = H at hP hS ⊢
    have hP : va_P D vwCl [(qs, .inr (3, [.ref qi, .ref qo, .ref qd, .ref qk, .ref qv, .ref qf, .ref qa, .ref gh, .ref hk, .int 0, .int ivl, .int drw])), (qd, .inr (2, [.ref bd, .int (nI 400)])), (bd, .inl (cI, 400, .inl (fun _ => 0))), (qk, .inr (2, [.ref bk, .int (nI 32)])), (bk, .inl (cI, 32, .inl (fun _ => 0))), (qv, .inr (2, [.ref bv, .int (nI 32)])), (bv, .inl (cI, 32, .inl (fun _ => 0))), (qf, .inr (2, [.ref bf, .int (nI 32)])), (bf, .inl (cI, 32, .inl (fun _ => 0)))] H := hP.sub [0, 7, 8, 1, 2, 3, 4, 5, 6] rfl
    have hD : va_D A [(qs, .inr (3, [.ref qi, .ref qo, .ref qd, .ref qk, .ref qv, .ref qf, .ref qa, .ref gh, .ref hk, .int 0, .int ivl, .int drw])), (qd, .inr (2, [.ref bd, .int (nI 400)])), (bd, .inl (cI, 400, .inl (fun _ => 0))), (qk, .inr (2, [.ref bk, .int (nI 32)])), (bk, .inl (cI, 32, .inl (fun _ => 0))), (qv, .inr (2, [.ref bv, .int (nI 32)])), (bv, .inl (cI, 32, .inl (fun _ => 0))), (qf, .inr (2, [.ref bf, .int (nI 32)])), (bf, .inl (cI, 32, .inl (fun _ => 0)))] := hD.sub [0, 7, 8, 1, 2, 3, 4, 5, 6] rfl rfl
    refine lv_aload_n hx hb dX3_forget_46 rfl (lv_at hl 0 rfl) ?_
    refine va_get (D := D) (ci := 3) (v := .ref qd) (C := RX3) (T := TX3) (N := 12) hx hb hts hw_X3 hown hK hP 0 rfl rfl 2 (by decide) hf_21 (fun _ h9 => h9) rfl dX3_forget_47 ?_
    refine sm_callVv (wc := [(qd, .inr (2, [.ref bd, .int (nI 400)])), (bd, .inl (cI, 400, .inl (fun _ => 0)))]) (wr := [(qs, .inr (3, [.ref qi, .ref qo, .ref qd, .ref qk, .ref qv, .ref qf, .ref qa, .ref gh, .ref hk, .int 0, .int ivl, .int drw])), (qk, .inr (2, [.ref bk, .int (nI 32)])), (bk, .inl (cI, 32, .inl (fun _ => 0))), (qv, .inr (2, [.ref bv, .int (nI 32)])), (bv, .inl (cI, 32, .inl (fun _ => 0))), (qf, .inr (2, [.ref bf, .int (nI 32)])), (bf, .inl (cI, 32, .inl (fun _ => 0)))]) (As := []) (rest := []) ⟨hx, hb, hml, hown, hts⟩ (sc_X2_empty l D cI th _ qd bd 400 (fun _ => 0) (nI 400) ) (cwV 0 hts gX3_forget_X2_empty rfl rfl rfl (by decide +kernel) ⟨Nat.le_of_ble_eq_true rfl, Nat.le_of_ble_eq_true rfl⟩) hP hD hS hA hK hT [1, 2] [0, 3, 4, 5, 6, 7, 8] rfl rfl rfl rfl (by decide) 0 2 rfl rfl rfl rfl hl.1 rfl (Nat.le_of_ble_eq_true rfl) dX3_forget_50 ⟨Nat.zero_le _, Nat.zero_le _⟩ (fun zt H1 locs ht hvm hB hJ hS => ?_)
    obtain ⟨hP1, -, hD1⟩ := hB
    rw [ht] at hP1
    obtain ⟨hP, hD⟩ := hJ _ hP1 hD1
    clear hJ
    generalize H1 = H at hP hS ⊢
    have hP : va_P D vwCl [(qs, .inr (3, [.ref qi, .ref qo, .ref qd, .ref qk, .ref qv, .ref qf, .ref qa, .ref gh, .ref hk, .int 0, .int ivl, .int drw])), (qd, .inr (2, [.ref bd, .int (nI 0)])), (bd, .inl (cI, 400, .inl (fun _ => 0))), (qk, .inr (2, [.ref bk, .int (nI 32)])), (bk, .inl (cI, 32, .inl (fun _ => 0))), (qv, .inr (2, [.ref bv, .int (nI 32)])), (bv, .inl (cI, 32, .inl (fun _ => 0))), (qf, .inr (2, [.ref bf, .int (nI 32)])), (bf, .inl (cI, 32, .inl (fun _ => 0)))] H := hP.sub [0, 7, 8, 1, 2, 3, 4, 5, 6] rfl
    have hD : va_D A [(qs, .inr (3, [.ref qi, .ref qo, .ref qd, .ref qk, .ref qv, .ref qf, .ref qa, .ref gh, .ref hk, .int 0, .int ivl, .int drw])), (qd, .inr (2, [.ref bd, .int (nI 0)])), (bd, .inl (cI, 400, .inl (fun _ => 0))), (qk, .inr (2, [.ref bk, .int (nI 32)])), (bk, .inl (cI, 32, .inl (fun _ => 0))), (qv, .inr (2, [.ref bv, .int (nI 32)])), (bv, .inl (cI, 32, .inl (fun _ => 0))), (qf, .inr (2, [.ref bf, .int (nI 32)])), (bf, .inl (cI, 32, .inl (fun _ => 0)))] := hD.sub [0, 7, 8, 1, 2, 3, 4, 5, 6] rfl rfl
    refine lv_iconst (v := 1) hx hb dX3_forget_53 (by decide) ?_
    rw [hQ]
    have hP9 : va_P D vwCl [(qs, .inr (3, [.ref qi, .ref qo, .ref qd, .ref qk, .ref qv, .ref qf, .ref qa, .ref gh, .ref hk, .int (nI 0), .int ivl, .int drw])), (qd, .inr (2, [.ref bd, .int (nI 0)])), (bd, .inl (cI, 400, .inl (fun _ => 0))), (qk, .inr (2, [.ref bk, .int (nI 32)])), (bk, .inl (cI, 32, .inl (fun _ => 0))), (qv, .inr (2, [.ref bv, .int (nI 32)])), (bv, .inl (cI, 32, .inl (fun _ => 0))), (qf, .inr (2, [.ref bf, .int (nI 32)])), (bf, .inl (cI, 32, .inl (fun _ => 0)))] H := hP
    have hD9 : va_D A [(qs, .inr (3, [.ref qi, .ref qo, .ref qd, .ref qk, .ref qv, .ref qf, .ref qa, .ref gh, .ref hk, .int (nI 0), .int ivl, .int drw])), (qd, .inr (2, [.ref bd, .int (nI 0)])), (bd, .inl (cI, 400, .inl (fun _ => 0))), (qk, .inr (2, [.ref bk, .int (nI 32)])), (bk, .inl (cI, 32, .inl (fun _ => 0))), (qv, .inr (2, [.ref bv, .int (nI 32)])), (bv, .inl (cI, 32, .inl (fun _ => 0))), (qf, .inr (2, [.ref bf, .int (nI 32)])), (bf, .inl (cI, 32, .inl (fun _ => 0)))] := hD
    exact W.iret (v := 1) hx hb hr (fun t ht hW => ⟨⟨1, (), rfl, rfl, ⟨by rw [ht]; exact hP9, va_K.moved hW.alike hK, hD9⟩⟩, hS.F ht⟩) hS.2.2 dX3_forget_54
  ·
    exact absurd c_4 (by decide)

def rm_X3_hash : Room := ({ frames := 4, cells := 0, slots := 0, locals := 97 } : Room)
set_option maxHeartbeats 4000000 in
set_option maxRecDepth 100000 in
/-- hash -/
theorem sc_X3_hash (l : Launch) (D : va_G) (cI : ClassId) (tk tf : Nat) (sz : Nat) (qs qi bi qo bo qd bd qk bk qv bv qf bf qa ba gh gm gb gw gd hk hh hm bm aw ad hB bB hI bI : Nat) (ivl drw : Int32) (kc : Nat) (i : Int32) (ni : Nat) (fi fa : Nat → Int32) (ua : Int32) (gf : Nat → Int32) (gu : Int32) (gx gy : Nat → Int32) (hni : ni ≤ 300) : Met l yX3_hash wsX3_hash rm_X3_hash (va_Pc [.ref qs, .int i] (sm_PW D cI (some (tk, tf)) [(qs, .inr (3, [.ref qi, .ref qo, .ref qd, .ref qk, .ref qv, .ref qf, .ref qa, .ref gh, .ref hk, .int (nI kc), .int ivl, .int drw])), (qi, .inr (2, [.ref bi, .int (nI ni)])), (bi, .inl (cI, 300, .inl fi)), (qa, .inr (2, [.ref ba, .int ua])), (ba, .inl (cI, 32, .inl fa)), (gh, .inr (0, [.ref gm, .ref gw, .ref gd])), (gm, .inr (2, [.ref gb, .int gu])), (gb, .inl (cI, 448, .inl gf)), (gw, .inl (cI, 64, .inl gx)), (gd, .inl (cI, 8, .inl gy))] sz)) (va_Qi (fun (r : Int32) (_ : Unit) => r = sm_at (sm_sha fi ni) 32 i) (fun _ t => ∃ (gf2 : Nat → Int32) (gu2 : Int32) (gx2 : Nat → Int32) (gy2 : Nat → Int32), sm_QW D cI (va_A [(qs, .inr (3, [.ref qi, .ref qo, .ref qd, .ref qk, .ref qv, .ref qf, .ref qa, .ref gh, .ref hk, .int (nI kc), .int ivl, .int drw])), (qi, .inr (2, [.ref bi, .int (nI ni)])), (bi, .inl (cI, 300, .inl fi)), (qa, .inr (2, [.ref ba, .int ua])), (ba, .inl (cI, 32, .inl fa)), (gh, .inr (0, [.ref gm, .ref gw, .ref gd])), (gm, .inr (2, [.ref gb, .int gu])), (gb, .inl (cI, 448, .inl gf)), (gw, .inl (cI, 64, .inl gx)), (gd, .inl (cI, 8, .inl gy))] sz) [(qs, .inr (3, [.ref qi, .ref qo, .ref qd, .ref qk, .ref qv, .ref qf, .ref qa, .ref gh, .ref hk, .int (nI kc), .int ivl, .int drw])), (qi, .inr (2, [.ref bi, .int (nI ni)])), (bi, .inl (cI, 300, .inl fi)), (qa, .inr (2, [.ref ba, .int (nI 32)])), (ba, .inl (cI, 32, .inl (sm_sha fi ni))), (gh, .inr (0, [.ref gm, .ref gw, .ref gd])), (gm, .inr (2, [.ref gb, .int gu2])), (gb, .inl (cI, 448, .inl gf2)), (gw, .inl (cI, 64, .inl gx2)), (gd, .inl (cI, 8, .inl gy2))] t) (va_A [(qs, .inr (3, [.ref qi, .ref qo, .ref qd, .ref qk, .ref qv, .ref qf, .ref qa, .ref gh, .ref hk, .int (nI kc), .int ivl, .int drw])), (qi, .inr (2, [.ref bi, .int (nI ni)])), (bi, .inl (cI, 300, .inl fi)), (qa, .inr (2, [.ref ba, .int ua])), (ba, .inl (cI, 32, .inl fa)), (gh, .inr (0, [.ref gm, .ref gw, .ref gd])), (gm, .inr (2, [.ref gb, .int gu])), (gb, .inl (cI, 448, .inl gf)), (gw, .inl (cI, 64, .inl gx)), (gd, .inl (cI, 8, .inl gy))] sz)) 0 0 (va_A [(qs, .inr (3, [.ref qi, .ref qo, .ref qd, .ref qk, .ref qv, .ref qf, .ref qa, .ref gh, .ref hk, .int (nI kc), .int ivl, .int drw])), (qi, .inr (2, [.ref bi, .int (nI ni)])), (bi, .inl (cI, 300, .inl fi)), (qa, .inr (2, [.ref ba, .int ua])), (ba, .inl (cI, 32, .inl fa)), (gh, .inr (0, [.ref gm, .ref gw, .ref gd])), (gm, .inr (2, [.ref gb, .int gu])), (gb, .inl (cI, 448, .inl gf)), (gw, .inl (cI, 64, .inl gx)), (gd, .inl (cI, 8, .inl gy))] sz) := by
  refine Met.ofW (cc := cX3_hash) (maxL := 2) (ret := (some .int)) (by decide) rfl ?_
  intro p e s m args below meth c s₁ B hml hv
  obtain ⟨rfl, hsz, hP, hK, hD0, hT⟩ := hv
  have hx := B.exec
  have hb := B.bytes
  have hr := B.returns
  have hts := atoms_spec (ws := wsX3_hash) B.pre
  have hown : s.vm.findClass RX3 = some m.cls := findClass_of_methodNamed B.named
  have hlocks := B.notSynchronized
  subst hsz
  have hD := hD0.self (sz := s.heap.size)
  generalize hAe : va_A [(qs, .inr (3, [.ref qi, .ref qo, .ref qd, .ref qk, .ref qv, .ref qf, .ref qa, .ref gh, .ref hk, .int (nI kc), .int ivl, .int drw])), (qi, .inr (2, [.ref bi, .int (nI ni)])), (bi, .inl (cI, 300, .inl fi)), (qa, .inr (2, [.ref ba, .int ua])), (ba, .inl (cI, 32, .inl fa)), (gh, .inr (0, [.ref gm, .ref gw, .ref gd])), (gm, .inr (2, [.ref gb, .int gu])), (gb, .inl (cI, 448, .inl gf)), (gw, .inl (cI, 64, .inl gx)), (gd, .inl (cI, 8, .inl gy))] s.heap.size = A at hD hT ⊢
  have hA : ∀ q : Nat, s.heap.size ≤ q → A q := fun q h => by rw [← hAe]; exact Or.inr h
  have hS : va_S A s.heap s.heap [] := va_S.rf
  have hl := lv_entry ([.ref qs, .int i]) (n := 2) (Nat.le_of_ble_eq_true rfl)
  rw [lg_entry_eq]
  generalize (lg_sl ([.ref qs, .int i]) ++ List.replicate (2 - (lg_sl ([.ref qs, .int i])).length) Slot.unset).toArray = ls at hl ⊢
  have hl : lv_has ls 2 [(0, .ref qs), (1, .int i)] := hl
  refine sm_name (fun Q hQ => ?_)
  have hf_39 := hts (.fieldLink RX3 39 "SeedMill" "hasher" "LSeedMill$Hasher;") (by decide +kernel)
  have hw_X3 : ∀ w ∈ wsX30, w ∈ wsX3_hash := by decide +kernel
  have hf_14 := hts (.fieldLink RX3 14 "SeedMill" "input" "LSeedMill$Row;") (by decide +kernel)
  have hf_33 := hts (.fieldLink RX3 33 "SeedMill" "answer" "LSeedMill$Row;") (by decide +kernel)
  refine lv_aload_n hx hb dX3_hash_0 rfl (lv_at hl 0 rfl) ?_
  refine va_get (D := D) (ci := 3) (v := .ref gh) (C := RX3) (T := TX3) (N := 12) hx hb hts hw_X3 hown hK hP 0 rfl rfl 7 (by decide) hf_39 (fun _ h9 => h9) rfl dX3_hash_1 ?_
  refine sm_callVv (wc := [(gh, .inr (0, [.ref gm, .ref gw, .ref gd])), (gm, .inr (2, [.ref gb, .int gu])), (gb, .inl (cI, 448, .inl gf))]) (wr := [(qs, .inr (3, [.ref qi, .ref qo, .ref qd, .ref qk, .ref qv, .ref qf, .ref qa, .ref gh, .ref hk, .int (nI kc), .int ivl, .int drw])), (qi, .inr (2, [.ref bi, .int (nI ni)])), (bi, .inl (cI, 300, .inl fi)), (qa, .inr (2, [.ref ba, .int ua])), (ba, .inl (cI, 32, .inl fa)), (gw, .inl (cI, 64, .inl gx)), (gd, .inl (cI, 8, .inl gy))]) (As := []) (rest := []) ⟨hx, hb, hml, hown, hts⟩ (sc_X0_begin l D cI (some (tk, tf)) _ gh gm gb gw gd gf gu ) (cwV 0 hts gX3_hash_X0_begin rfl rfl rfl (by decide +kernel) ⟨Nat.le_of_ble_eq_true rfl, Nat.le_of_ble_eq_true rfl⟩) hP hD hS hA hK hT [5, 6, 7] [0, 1, 2, 3, 4, 8, 9] rfl rfl rfl rfl (by decide) 0 0 rfl rfl rfl rfl hl.1 rfl (Nat.le_of_ble_eq_true rfl) dX3_hash_4 ⟨Nat.zero_le _, Nat.zero_le _⟩ (fun zt H1 locs ht hvm hB hJ hS => ?_)
  obtain ⟨hP1, -, hD1⟩ := hB
  rw [ht] at hP1
  obtain ⟨hP, hD⟩ := hJ _ hP1 hD1
  clear hJ
  generalize H1 = H at hP hS ⊢
  have hP : va_P D vwCl [(qs, .inr (3, [.ref qi, .ref qo, .ref qd, .ref qk, .ref qv, .ref qf, .ref qa, .ref gh, .ref hk, .int (nI kc), .int ivl, .int drw])), (qi, .inr (2, [.ref bi, .int (nI ni)])), (bi, .inl (cI, 300, .inl fi)), (qa, .inr (2, [.ref ba, .int ua])), (ba, .inl (cI, 32, .inl fa)), (gh, .inr (0, [.ref gm, .ref gw, .ref gd])), (gm, .inr (2, [.ref gb, .int (nI 0)])), (gb, .inl (cI, 448, .inl gf)), (gw, .inl (cI, 64, .inl gx)), (gd, .inl (cI, 8, .inl gy))] H := hP.sub [0, 1, 2, 3, 4, 7, 8, 9, 5, 6] rfl
  have hD : va_D A [(qs, .inr (3, [.ref qi, .ref qo, .ref qd, .ref qk, .ref qv, .ref qf, .ref qa, .ref gh, .ref hk, .int (nI kc), .int ivl, .int drw])), (qi, .inr (2, [.ref bi, .int (nI ni)])), (bi, .inl (cI, 300, .inl fi)), (qa, .inr (2, [.ref ba, .int ua])), (ba, .inl (cI, 32, .inl fa)), (gh, .inr (0, [.ref gm, .ref gw, .ref gd])), (gm, .inr (2, [.ref gb, .int (nI 0)])), (gb, .inl (cI, 448, .inl gf)), (gw, .inl (cI, 64, .inl gx)), (gd, .inl (cI, 8, .inl gy))] := hD.sub [0, 1, 2, 3, 4, 7, 8, 9, 5, 6] rfl rfl
  refine lv_aload_n hx hb dX3_hash_7 rfl (lv_at hl 0 rfl) ?_
  refine va_get (D := D) (ci := 3) (v := .ref gh) (C := RX3) (T := TX3) (N := 12) hx hb hts hw_X3 hown hK hP 0 rfl rfl 7 (by decide) hf_39 (fun _ h9 => h9) rfl dX3_hash_8 ?_
  refine lv_aload_n hx hb dX3_hash_11 rfl (lv_at hl 0 rfl) ?_
  refine va_get (D := D) (ci := 3) (v := .ref qi) (C := RX3) (T := TX3) (N := 12) hx hb hts hw_X3 hown hK hP 0 rfl rfl 0 (by decide) hf_14 (fun _ h9 => h9) rfl dX3_hash_12 ?_
  refine sm_callVv (wc := [(gh, .inr (0, [.ref gm, .ref gw, .ref gd])), (gm, .inr (2, [.ref gb, .int (nI 0)])), (gb, .inl (cI, 448, .inl gf)), (qi, .inr (2, [.ref bi, .int (nI ni)])), (bi, .inl (cI, 300, .inl fi))]) (wr := [(qs, .inr (3, [.ref qi, .ref qo, .ref qd, .ref qk, .ref qv, .ref qf, .ref qa, .ref gh, .ref hk, .int (nI kc), .int ivl, .int drw])), (qa, .inr (2, [.ref ba, .int ua])), (ba, .inl (cI, 32, .inl fa)), (gw, .inl (cI, 64, .inl gx)), (gd, .inl (cI, 8, .inl gy))]) (As := [.ref qi]) (rest := []) ⟨hx, hb, hml, hown, hts⟩ (sc_X0_add l D cI (some (tk, tf)) _ gh gm gb gw gd 0 qi bi 300 ni gf fi (by omega) hni (by decide)) (cwV 1 hts gX3_hash_X0_add rfl rfl rfl (by decide +kernel) ⟨Nat.le_of_ble_eq_true rfl, Nat.le_of_ble_eq_true rfl⟩) hP hD hS hA hK hT [5, 6, 7, 1, 2] [0, 3, 4, 8, 9] rfl rfl rfl rfl (by decide) 0 0 rfl rfl rfl rfl hl.1 rfl (Nat.le_of_ble_eq_true rfl) dX3_hash_15 ⟨Nat.zero_le _, Nat.zero_le _⟩ (fun zt H1 locs ht hvm hB hJ hS => ?_)
  obtain ⟨hP1, -, hD1⟩ := hB
  rw [ht] at hP1
  obtain ⟨hP, hD⟩ := hJ _ hP1 hD1
  clear hJ
  generalize H1 = H at hP hS ⊢
  have hP : va_P D vwCl [(qs, .inr (3, [.ref qi, .ref qo, .ref qd, .ref qk, .ref qv, .ref qf, .ref qa, .ref gh, .ref hk, .int (nI kc), .int ivl, .int drw])), (qi, .inr (2, [.ref bi, .int (nI ni)])), (bi, .inl (cI, 300, .inl fi)), (qa, .inr (2, [.ref ba, .int ua])), (ba, .inl (cI, 32, .inl fa)), (gh, .inr (0, [.ref gm, .ref gw, .ref gd])), (gm, .inr (2, [.ref gb, .int (nI (0 + ni))])), (gb, .inl (cI, 448, .inl (sm_ap gf 0 fi ni))), (gw, .inl (cI, 64, .inl gx)), (gd, .inl (cI, 8, .inl gy))] H := hP.sub [0, 8, 9, 1, 2, 5, 6, 7, 3, 4] rfl
  have hD : va_D A [(qs, .inr (3, [.ref qi, .ref qo, .ref qd, .ref qk, .ref qv, .ref qf, .ref qa, .ref gh, .ref hk, .int (nI kc), .int ivl, .int drw])), (qi, .inr (2, [.ref bi, .int (nI ni)])), (bi, .inl (cI, 300, .inl fi)), (qa, .inr (2, [.ref ba, .int ua])), (ba, .inl (cI, 32, .inl fa)), (gh, .inr (0, [.ref gm, .ref gw, .ref gd])), (gm, .inr (2, [.ref gb, .int (nI (0 + ni))])), (gb, .inl (cI, 448, .inl (sm_ap gf 0 fi ni))), (gw, .inl (cI, 64, .inl gx)), (gd, .inl (cI, 8, .inl gy))] := hD.sub [0, 8, 9, 1, 2, 5, 6, 7, 3, 4] rfl rfl
  refine lv_aload_n hx hb dX3_hash_18 rfl (lv_at hl 0 rfl) ?_
  refine va_get (D := D) (ci := 3) (v := .ref gh) (C := RX3) (T := TX3) (N := 12) hx hb hts hw_X3 hown hK hP 0 rfl rfl 7 (by decide) hf_39 (fun _ h9 => h9) rfl dX3_hash_19 ?_
  refine lv_aload_n hx hb dX3_hash_22 rfl (lv_at hl 0 rfl) ?_
  refine va_get (D := D) (ci := 3) (v := .ref qa) (C := RX3) (T := TX3) (N := 12) hx hb hts hw_X3 hown hK hP 0 rfl rfl 6 (by decide) hf_33 (fun _ h9 => h9) rfl dX3_hash_23 ?_
  refine sm_callVv (wc := [(gh, .inr (0, [.ref gm, .ref gw, .ref gd])), (gm, .inr (2, [.ref gb, .int (nI (0 + ni))])), (gb, .inl (cI, 448, .inl (sm_ap gf 0 fi ni))), (gw, .inl (cI, 64, .inl gx)), (gd, .inl (cI, 8, .inl gy)), (qa, .inr (2, [.ref ba, .int ua])), (ba, .inl (cI, 32, .inl fa))]) (wr := [(qs, .inr (3, [.ref qi, .ref qo, .ref qd, .ref qk, .ref qv, .ref qf, .ref qa, .ref gh, .ref hk, .int (nI kc), .int ivl, .int drw])), (qi, .inr (2, [.ref bi, .int (nI ni)])), (bi, .inl (cI, 300, .inl fi))]) (As := [.ref qa]) (rest := []) ⟨hx, hb, hml, hown, hts⟩ (sc_X0_end l D cI tk tf _ gh gm gb gw gd qa ba 32 (0 + ni) (sm_ap gf 0 fi ni) gx gy fa ua (by unfold sm_nb; omega) (by decide) (by decide)) (cwV 1 hts gX3_hash_X0_end rfl rfl rfl (by decide +kernel) ⟨Nat.le_of_ble_eq_true rfl, Nat.le_of_ble_eq_true rfl⟩) hP hD hS hA hK hT [5, 6, 7, 8, 9, 3, 4] [0, 1, 2] rfl rfl rfl rfl (by decide) 0 0 rfl rfl rfl rfl hl.1 rfl (Nat.le_of_ble_eq_true rfl) dX3_hash_26 ⟨Nat.zero_le _, Nat.zero_le _⟩ (fun zt H1 locs ht hvm hB hJ hS => ?_)
  obtain ⟨gf3, gx3, gy3, hP1, -, hD1⟩ := hB
  rw [ht] at hP1
  obtain ⟨hP, hD⟩ := hJ _ hP1 hD1
  clear hJ
  generalize H1 = H at hP hS ⊢
  have hP : va_P D vwCl [(qs, .inr (3, [.ref qi, .ref qo, .ref qd, .ref qk, .ref qv, .ref qf, .ref qa, .ref gh, .ref hk, .int (nI kc), .int ivl, .int drw])), (qi, .inr (2, [.ref bi, .int (nI ni)])), (bi, .inl (cI, 300, .inl fi)), (qa, .inr (2, [.ref ba, .int (nI 32)])), (ba, .inl (cI, 32, .inl (sm_ap fa 0 (sm_sha (sm_ap gf 0 fi ni) (0 + ni)) 32))), (gh, .inr (0, [.ref gm, .ref gw, .ref gd])), (gm, .inr (2, [.ref gb, .int (nI (64 * sm_nb (0 + ni)))])), (gb, .inl (cI, 448, .inl gf3)), (gw, .inl (cI, 64, .inl gx3)), (gd, .inl (cI, 8, .inl gy3))] H := hP.sub [0, 1, 2, 8, 9, 3, 4, 5, 6, 7] rfl
  have hD : va_D A [(qs, .inr (3, [.ref qi, .ref qo, .ref qd, .ref qk, .ref qv, .ref qf, .ref qa, .ref gh, .ref hk, .int (nI kc), .int ivl, .int drw])), (qi, .inr (2, [.ref bi, .int (nI ni)])), (bi, .inl (cI, 300, .inl fi)), (qa, .inr (2, [.ref ba, .int (nI 32)])), (ba, .inl (cI, 32, .inl (sm_ap fa 0 (sm_sha (sm_ap gf 0 fi ni) (0 + ni)) 32))), (gh, .inr (0, [.ref gm, .ref gw, .ref gd])), (gm, .inr (2, [.ref gb, .int (nI (64 * sm_nb (0 + ni)))])), (gb, .inl (cI, 448, .inl gf3)), (gw, .inl (cI, 64, .inl gx3)), (gd, .inl (cI, 8, .inl gy3))] := hD.sub [0, 1, 2, 8, 9, 3, 4, 5, 6, 7] rfl rfl
  rw [show sm_sha (sm_ap gf 0 fi ni) (0 + ni) = sm_sha fi ni from by rw [Nat.zero_add]; exact sm_sha_congr (fun j hj => sm_ap_z hj)] at hP hD
  have hP := sm_arr hP 4 rfl (sm_sha fi ni) (fun j hj => sm_ap_z hj)
  have hD := sm_arrD (y := .inl (cI, 32, .inl (sm_sha fi ni))) hD 4 rfl
  have hP : va_P D vwCl [(qs, .inr (3, [.ref qi, .ref qo, .ref qd, .ref qk, .ref qv, .ref qf, .ref qa, .ref gh, .ref hk, .int (nI kc), .int ivl, .int drw])), (qi, .inr (2, [.ref bi, .int (nI ni)])), (bi, .inl (cI, 300, .inl fi)), (qa, .inr (2, [.ref ba, .int (nI 32)])), (ba, .inl (cI, 32, .inl (sm_sha fi ni))), (gh, .inr (0, [.ref gm, .ref gw, .ref gd])), (gm, .inr (2, [.ref gb, .int (nI (64 * sm_nb (0 + ni)))])), (gb, .inl (cI, 448, .inl gf3)), (gw, .inl (cI, 64, .inl gx3)), (gd, .inl (cI, 8, .inl gy3))] H := hP
  have hD : va_D A [(qs, .inr (3, [.ref qi, .ref qo, .ref qd, .ref qk, .ref qv, .ref qf, .ref qa, .ref gh, .ref hk, .int (nI kc), .int ivl, .int drw])), (qi, .inr (2, [.ref bi, .int (nI ni)])), (bi, .inl (cI, 300, .inl fi)), (qa, .inr (2, [.ref ba, .int (nI 32)])), (ba, .inl (cI, 32, .inl (sm_sha fi ni))), (gh, .inr (0, [.ref gm, .ref gw, .ref gd])), (gm, .inr (2, [.ref gb, .int (nI (64 * sm_nb (0 + ni)))])), (gb, .inl (cI, 448, .inl gf3)), (gw, .inl (cI, 64, .inl gx3)), (gd, .inl (cI, 8, .inl gy3))] := hD
  refine lv_aload_n hx hb dX3_hash_29 rfl (lv_at hl 0 rfl) ?_
  refine va_get (D := D) (ci := 3) (v := .ref qa) (C := RX3) (T := TX3) (N := 12) hx hb hts hw_X3 hown hK hP 0 rfl rfl 6 (by decide) hf_33 (fun _ h9 => h9) rfl dX3_hash_30 ?_
  refine lv_iload_n hx hb dX3_hash_33 rfl (lv_at hl 1 rfl) ?_
  refine sm_callVi (wc := [(qa, .inr (2, [.ref ba, .int (nI 32)])), (ba, .inl (cI, 32, .inl (sm_sha fi ni)))]) (wr := [(qs, .inr (3, [.ref qi, .ref qo, .ref qd, .ref qk, .ref qv, .ref qf, .ref qa, .ref gh, .ref hk, .int (nI kc), .int ivl, .int drw])), (qi, .inr (2, [.ref bi, .int (nI ni)])), (bi, .inl (cI, 300, .inl fi)), (gh, .inr (0, [.ref gm, .ref gw, .ref gd])), (gm, .inr (2, [.ref gb, .int (nI (64 * sm_nb (0 + ni)))])), (gb, .inl (cI, 448, .inl gf3)), (gw, .inl (cI, 64, .inl gx3)), (gd, .inl (cI, 8, .inl gy3))]) (As := [.int i]) (rest := []) ⟨hx, hb, hml, hown, hts⟩ (sc_X2_at l D cI (some (tk, tf)) _ qa ba 32 32 (sm_sha fi ni) i (by decide) (by decide)) (cwV 1 hts gX3_hash_X2_at rfl rfl rfl (by decide +kernel) ⟨Nat.le_of_ble_eq_true rfl, Nat.le_of_ble_eq_true rfl⟩) hP hD hS hA hK hT [3, 4] [0, 1, 2, 5, 6, 7, 8, 9] rfl rfl rfl rfl (by decide) 0 2 rfl rfl rfl rfl hl.1 rfl (Nat.le_of_ble_eq_true rfl) dX3_hash_34 ⟨Nat.zero_le _, Nat.zero_le _⟩ (fun r_34 zt H1 locs ht hvm hw hB hJ hS => ?_)
  obtain ⟨hP1, -, hD1⟩ := hB
  rw [ht] at hP1
  obtain ⟨hP, hD⟩ := hJ _ hP1 hD1
  clear hJ
  generalize H1 = H at hP hS ⊢
  have hP : va_P D vwCl [(qs, .inr (3, [.ref qi, .ref qo, .ref qd, .ref qk, .ref qv, .ref qf, .ref qa, .ref gh, .ref hk, .int (nI kc), .int ivl, .int drw])), (qi, .inr (2, [.ref bi, .int (nI ni)])), (bi, .inl (cI, 300, .inl fi)), (qa, .inr (2, [.ref ba, .int (nI 32)])), (ba, .inl (cI, 32, .inl (sm_sha fi ni))), (gh, .inr (0, [.ref gm, .ref gw, .ref gd])), (gm, .inr (2, [.ref gb, .int (nI (64 * sm_nb (0 + ni)))])), (gb, .inl (cI, 448, .inl gf3)), (gw, .inl (cI, 64, .inl gx3)), (gd, .inl (cI, 8, .inl gy3))] H := hP.sub [0, 1, 2, 8, 9, 3, 4, 5, 6, 7] rfl
  have hD : va_D A [(qs, .inr (3, [.ref qi, .ref qo, .ref qd, .ref qk, .ref qv, .ref qf, .ref qa, .ref gh, .ref hk, .int (nI kc), .int ivl, .int drw])), (qi, .inr (2, [.ref bi, .int (nI ni)])), (bi, .inl (cI, 300, .inl fi)), (qa, .inr (2, [.ref ba, .int (nI 32)])), (ba, .inl (cI, 32, .inl (sm_sha fi ni))), (gh, .inr (0, [.ref gm, .ref gw, .ref gd])), (gm, .inr (2, [.ref gb, .int (nI (64 * sm_nb (0 + ni)))])), (gb, .inl (cI, 448, .inl gf3)), (gw, .inl (cI, 64, .inl gx3)), (gd, .inl (cI, 8, .inl gy3))] := hD.sub [0, 1, 2, 8, 9, 3, 4, 5, 6, 7] rfl rfl
  rw [hw]
  rw [hQ]
  have hP9 : va_P D vwCl [(qs, .inr (3, [.ref qi, .ref qo, .ref qd, .ref qk, .ref qv, .ref qf, .ref qa, .ref gh, .ref hk, .int (nI kc), .int ivl, .int drw])), (qi, .inr (2, [.ref bi, .int (nI ni)])), (bi, .inl (cI, 300, .inl fi)), (qa, .inr (2, [.ref ba, .int (nI 32)])), (ba, .inl (cI, 32, .inl (sm_sha fi ni))), (gh, .inr (0, [.ref gm, .ref gw, .ref gd])), (gm, .inr (2, [.ref gb, .int (nI (64 * sm_nb (0 + ni)))])), (gb, .inl (cI, 448, .inl gf3)), (gw, .inl (cI, 64, .inl gx3)), (gd, .inl (cI, 8, .inl gy3))] H := hP
  have hD9 : va_D A [(qs, .inr (3, [.ref qi, .ref qo, .ref qd, .ref qk, .ref qv, .ref qf, .ref qa, .ref gh, .ref hk, .int (nI kc), .int ivl, .int drw])), (qi, .inr (2, [.ref bi, .int (nI ni)])), (bi, .inl (cI, 300, .inl fi)), (qa, .inr (2, [.ref ba, .int (nI 32)])), (ba, .inl (cI, 32, .inl (sm_sha fi ni))), (gh, .inr (0, [.ref gm, .ref gw, .ref gd])), (gm, .inr (2, [.ref gb, .int (nI (64 * sm_nb (0 + ni)))])), (gb, .inl (cI, 448, .inl gf3)), (gw, .inl (cI, 64, .inl gx3)), (gd, .inl (cI, 8, .inl gy3))] := hD
  exact W.iret (v := sm_at (sm_sha fi ni) 32 i) hx hb hr (fun t ht hW => ⟨⟨sm_at (sm_sha fi ni) 32 i, (), rfl, rfl, ⟨_, _, _, _, by rw [ht]; exact hP9, va_K.moved hW.alike hK, hD9⟩⟩, hS.F ht⟩) hS.2.2 dX3_hash_37

def rm_X3_own : Room := ({ frames := 2, cells := 0, slots := 0, locals := 45 } : Room)
set_option maxHeartbeats 4000000 in
set_option maxRecDepth 100000 in
/-- own -/
theorem sc_X3_own (l : Launch) (D : va_G) (cI : ClassId) (th : Option (Nat × Nat)) (sz : Nat) (qs qi bi qo bo qd bd qk bk qv bv qf bf qa ba gh gm gb gw gd hk hh hm bm aw ad hB bB hI bI : Nat) (ivl drw : Int32) (kc : Nat) (ni : Nat) (fi fo : Nat → Int32) (uo : Int32) (hni : ni ≤ 300) : Met l yX3_own wsX3_own rm_X3_own (va_Pc [.ref qs] (sm_PW D cI th [(qs, .inr (3, [.ref qi, .ref qo, .ref qd, .ref qk, .ref qv, .ref qf, .ref qa, .ref gh, .ref hk, .int (nI kc), .int ivl, .int drw])), (qi, .inr (2, [.ref bi, .int (nI ni)])), (bi, .inl (cI, 300, .inl fi)), (qo, .inr (2, [.ref bo, .int uo])), (bo, .inl (cI, 300, .inl fo))] sz)) (va_Qi (fun (r : Int32) (_ : Unit) => r = nI ni) (fun _ t => sm_QW D cI (va_A [(qs, .inr (3, [.ref qi, .ref qo, .ref qd, .ref qk, .ref qv, .ref qf, .ref qa, .ref gh, .ref hk, .int (nI kc), .int ivl, .int drw])), (qi, .inr (2, [.ref bi, .int (nI ni)])), (bi, .inl (cI, 300, .inl fi)), (qo, .inr (2, [.ref bo, .int uo])), (bo, .inl (cI, 300, .inl fo))] sz) [(qs, .inr (3, [.ref qi, .ref qo, .ref qd, .ref qk, .ref qv, .ref qf, .ref qa, .ref gh, .ref hk, .int (nI kc), .int ivl, .int drw])), (qi, .inr (2, [.ref bi, .int (nI 0)])), (bi, .inl (cI, 300, .inl fi)), (qo, .inr (2, [.ref bo, .int (nI ni)])), (bo, .inl (cI, 300, .inl (sm_ap fo 0 fi ni)))] t) (va_A [(qs, .inr (3, [.ref qi, .ref qo, .ref qd, .ref qk, .ref qv, .ref qf, .ref qa, .ref gh, .ref hk, .int (nI kc), .int ivl, .int drw])), (qi, .inr (2, [.ref bi, .int (nI ni)])), (bi, .inl (cI, 300, .inl fi)), (qo, .inr (2, [.ref bo, .int uo])), (bo, .inl (cI, 300, .inl fo))] sz)) 0 0 (va_A [(qs, .inr (3, [.ref qi, .ref qo, .ref qd, .ref qk, .ref qv, .ref qf, .ref qa, .ref gh, .ref hk, .int (nI kc), .int ivl, .int drw])), (qi, .inr (2, [.ref bi, .int (nI ni)])), (bi, .inl (cI, 300, .inl fi)), (qo, .inr (2, [.ref bo, .int uo])), (bo, .inl (cI, 300, .inl fo))] sz) := by
  refine Met.ofW (cc := cX3_own) (maxL := 1) (ret := (some .int)) (by decide) rfl ?_
  intro p e s m args below meth c s₁ B hml hv
  obtain ⟨rfl, hsz, hP, hK, hD0, hT⟩ := hv
  have hx := B.exec
  have hb := B.bytes
  have hr := B.returns
  have hts := atoms_spec (ws := wsX3_own) B.pre
  have hown : s.vm.findClass RX3 = some m.cls := findClass_of_methodNamed B.named
  have hlocks := B.notSynchronized
  subst hsz
  have hD := hD0.self (sz := s.heap.size)
  generalize hAe : va_A [(qs, .inr (3, [.ref qi, .ref qo, .ref qd, .ref qk, .ref qv, .ref qf, .ref qa, .ref gh, .ref hk, .int (nI kc), .int ivl, .int drw])), (qi, .inr (2, [.ref bi, .int (nI ni)])), (bi, .inl (cI, 300, .inl fi)), (qo, .inr (2, [.ref bo, .int uo])), (bo, .inl (cI, 300, .inl fo))] s.heap.size = A at hD hT ⊢
  have hA : ∀ q : Nat, s.heap.size ≤ q → A q := fun q h => by rw [← hAe]; exact Or.inr h
  have hS : va_S A s.heap s.heap [] := va_S.rf
  have hl := lv_entry ([.ref qs]) (n := 1) (Nat.le_of_ble_eq_true rfl)
  rw [lg_entry_eq]
  generalize (lg_sl ([.ref qs]) ++ List.replicate (1 - (lg_sl ([.ref qs])).length) Slot.unset).toArray = ls at hl ⊢
  have hl : lv_has ls 1 [(0, .ref qs)] := hl
  refine sm_name (fun Q hQ => ?_)
  have hf_18 := hts (.fieldLink RX3 18 "SeedMill" "ownKey" "LSeedMill$Row;") (by decide +kernel)
  have hw_X3 : ∀ w ∈ wsX30, w ∈ wsX3_own := by decide +kernel
  have hf_14 := hts (.fieldLink RX3 14 "SeedMill" "input" "LSeedMill$Row;") (by decide +kernel)
  refine lv_aload_n hx hb dX3_own_0 rfl (lv_at hl 0 rfl) ?_
  refine va_get (D := D) (ci := 3) (v := .ref qo) (C := RX3) (T := TX3) (N := 12) hx hb hts hw_X3 hown hK hP 0 rfl rfl 1 (by decide) hf_18 (fun _ h9 => h9) rfl dX3_own_1 ?_
  refine sm_callVv (wc := [(qo, .inr (2, [.ref bo, .int uo])), (bo, .inl (cI, 300, .inl fo))]) (wr := [(qs, .inr (3, [.ref qi, .ref qo, .ref qd, .ref qk, .ref qv, .ref qf, .ref qa, .ref gh, .ref hk, .int (nI kc), .int ivl, .int drw])), (qi, .inr (2, [.ref bi, .int (nI ni)])), (bi, .inl (cI, 300, .inl fi))]) (As := []) (rest := []) ⟨hx, hb, hml, hown, hts⟩ (sc_X2_empty l D cI th _ qo bo 300 fo uo ) (cwV 0 hts gX3_own_X2_empty rfl rfl rfl (by decide +kernel) ⟨Nat.le_of_ble_eq_true rfl, Nat.le_of_ble_eq_true rfl⟩) hP hD hS hA hK hT [3, 4] [0, 1, 2] rfl rfl rfl rfl (by decide) 0 2 rfl rfl rfl rfl hl.1 rfl (Nat.le_of_ble_eq_true rfl) dX3_own_4 ⟨Nat.zero_le _, Nat.zero_le _⟩ (fun zt H1 locs ht hvm hB hJ hS => ?_)
  obtain ⟨hP1, -, hD1⟩ := hB
  rw [ht] at hP1
  obtain ⟨hP, hD⟩ := hJ _ hP1 hD1
  clear hJ
  generalize H1 = H at hP hS ⊢
  have hP : va_P D vwCl [(qs, .inr (3, [.ref qi, .ref qo, .ref qd, .ref qk, .ref qv, .ref qf, .ref qa, .ref gh, .ref hk, .int (nI kc), .int ivl, .int drw])), (qi, .inr (2, [.ref bi, .int (nI ni)])), (bi, .inl (cI, 300, .inl fi)), (qo, .inr (2, [.ref bo, .int (nI 0)])), (bo, .inl (cI, 300, .inl fo))] H := hP.sub [0, 1, 2, 3, 4] rfl
  have hD : va_D A [(qs, .inr (3, [.ref qi, .ref qo, .ref qd, .ref qk, .ref qv, .ref qf, .ref qa, .ref gh, .ref hk, .int (nI kc), .int ivl, .int drw])), (qi, .inr (2, [.ref bi, .int (nI ni)])), (bi, .inl (cI, 300, .inl fi)), (qo, .inr (2, [.ref bo, .int (nI 0)])), (bo, .inl (cI, 300, .inl fo))] := hD.sub [0, 1, 2, 3, 4] rfl rfl
  refine lv_aload_n hx hb dX3_own_7 rfl (lv_at hl 0 rfl) ?_
  refine va_get (D := D) (ci := 3) (v := .ref qo) (C := RX3) (T := TX3) (N := 12) hx hb hts hw_X3 hown hK hP 0 rfl rfl 1 (by decide) hf_18 (fun _ h9 => h9) rfl dX3_own_8 ?_
  refine lv_aload_n hx hb dX3_own_11 rfl (lv_at hl 0 rfl) ?_
  refine va_get (D := D) (ci := 3) (v := .ref qi) (C := RX3) (T := TX3) (N := 12) hx hb hts hw_X3 hown hK hP 0 rfl rfl 0 (by decide) hf_14 (fun _ h9 => h9) rfl dX3_own_12 ?_
  refine lv_aload_n hx hb dX3_own_15 rfl (lv_at hl 0 rfl) ?_
  refine va_get (D := D) (ci := 3) (v := .ref qi) (C := RX3) (T := TX3) (N := 12) hx hb hts hw_X3 hown hK hP 0 rfl rfl 0 (by decide) hf_14 (fun _ h9 => h9) rfl dX3_own_16 ?_
  refine sm_callVi (wc := [(qi, .inr (2, [.ref bi, .int (nI ni)])), (bi, .inl (cI, 300, .inl fi))]) (wr := [(qs, .inr (3, [.ref qi, .ref qo, .ref qd, .ref qk, .ref qv, .ref qf, .ref qa, .ref gh, .ref hk, .int (nI kc), .int ivl, .int drw])), (qo, .inr (2, [.ref bo, .int (nI 0)])), (bo, .inl (cI, 300, .inl fo))]) (As := []) (rest := [.ref qi, .ref qo]) ⟨hx, hb, hml, hown, hts⟩ (sc_X2_size l D cI th _ qi bi 300 fi (nI ni) ) (cwV 0 hts gX3_own_X2_size rfl rfl rfl (by decide +kernel) ⟨Nat.le_of_ble_eq_true rfl, Nat.le_of_ble_eq_true rfl⟩) hP hD hS hA hK hT [1, 2] [0, 3, 4] rfl rfl rfl rfl (by decide) 0 2 rfl rfl rfl rfl hl.1 rfl (Nat.le_of_ble_eq_true rfl) dX3_own_19 ⟨Nat.zero_le _, Nat.zero_le _⟩ (fun r_19 zt H1 locs ht hvm hw hB hJ hS => ?_)
  obtain ⟨hP1, -, hD1⟩ := hB
  rw [ht] at hP1
  obtain ⟨hP, hD⟩ := hJ _ hP1 hD1
  clear hJ
  generalize H1 = H at hP hS ⊢
  have hP : va_P D vwCl [(qs, .inr (3, [.ref qi, .ref qo, .ref qd, .ref qk, .ref qv, .ref qf, .ref qa, .ref gh, .ref hk, .int (nI kc), .int ivl, .int drw])), (qi, .inr (2, [.ref bi, .int (nI ni)])), (bi, .inl (cI, 300, .inl fi)), (qo, .inr (2, [.ref bo, .int (nI 0)])), (bo, .inl (cI, 300, .inl fo))] H := hP.sub [0, 3, 4, 1, 2] rfl
  have hD : va_D A [(qs, .inr (3, [.ref qi, .ref qo, .ref qd, .ref qk, .ref qv, .ref qf, .ref qa, .ref gh, .ref hk, .int (nI kc), .int ivl, .int drw])), (qi, .inr (2, [.ref bi, .int (nI ni)])), (bi, .inl (cI, 300, .inl fi)), (qo, .inr (2, [.ref bo, .int (nI 0)])), (bo, .inl (cI, 300, .inl fo))] := hD.sub [0, 3, 4, 1, 2] rfl rfl
  rw [hw]
  refine sm_callVv (wc := [(qo, .inr (2, [.ref bo, .int (nI 0)])), (bo, .inl (cI, 300, .inl fo)), (qi, .inr (2, [.ref bi, .int (nI ni)])), (bi, .inl (cI, 300, .inl fi))]) (wr := [(qs, .inr (3, [.ref qi, .ref qo, .ref qd, .ref qk, .ref qv, .ref qf, .ref qa, .ref gh, .ref hk, .int (nI kc), .int ivl, .int drw]))]) (As := [.ref qi, .int (nI ni)]) (rest := []) ⟨hx, hb, hml, hown, hts⟩ (sc_X2_append l D cI th _ qo bo 300 0 qi bi 300 ni ni fo fi (by omega) hni (by decide) (by decide) (by omega)) (cwV 2 hts gX3_own_X2_append rfl rfl rfl (by decide +kernel) ⟨Nat.le_of_ble_eq_true rfl, Nat.le_of_ble_eq_true rfl⟩) hP hD hS hA hK hT [3, 4, 1, 2] [0] rfl rfl rfl rfl (by decide) 0 2 rfl rfl rfl rfl hl.1 rfl (Nat.le_of_ble_eq_true rfl) dX3_own_22 ⟨Nat.zero_le _, Nat.zero_le _⟩ (fun zt H1 locs ht hvm hB hJ hS => ?_)
  obtain ⟨hP1, -, hD1⟩ := hB
  rw [ht] at hP1
  obtain ⟨hP, hD⟩ := hJ _ hP1 hD1
  clear hJ
  generalize H1 = H at hP hS ⊢
  have hP : va_P D vwCl [(qs, .inr (3, [.ref qi, .ref qo, .ref qd, .ref qk, .ref qv, .ref qf, .ref qa, .ref gh, .ref hk, .int (nI kc), .int ivl, .int drw])), (qi, .inr (2, [.ref bi, .int (nI ni)])), (bi, .inl (cI, 300, .inl fi)), (qo, .inr (2, [.ref bo, .int (nI (0 + min ni ni))])), (bo, .inl (cI, 300, .inl (sm_ap fo 0 fi (min ni ni))))] H := hP.sub [0, 3, 4, 1, 2] rfl
  have hD : va_D A [(qs, .inr (3, [.ref qi, .ref qo, .ref qd, .ref qk, .ref qv, .ref qf, .ref qa, .ref gh, .ref hk, .int (nI kc), .int ivl, .int drw])), (qi, .inr (2, [.ref bi, .int (nI ni)])), (bi, .inl (cI, 300, .inl fi)), (qo, .inr (2, [.ref bo, .int (nI (0 + min ni ni))])), (bo, .inl (cI, 300, .inl (sm_ap fo 0 fi (min ni ni))))] := hD.sub [0, 3, 4, 1, 2] rfl rfl
  rw [Nat.min_self, Nat.zero_add] at hP hD
  have hP : va_P D vwCl [(qs, .inr (3, [.ref qi, .ref qo, .ref qd, .ref qk, .ref qv, .ref qf, .ref qa, .ref gh, .ref hk, .int (nI kc), .int ivl, .int drw])), (qi, .inr (2, [.ref bi, .int (nI ni)])), (bi, .inl (cI, 300, .inl fi)), (qo, .inr (2, [.ref bo, .int (nI ni)])), (bo, .inl (cI, 300, .inl (sm_ap fo 0 fi ni)))] H := hP
  have hD : va_D A [(qs, .inr (3, [.ref qi, .ref qo, .ref qd, .ref qk, .ref qv, .ref qf, .ref qa, .ref gh, .ref hk, .int (nI kc), .int ivl, .int drw])), (qi, .inr (2, [.ref bi, .int (nI ni)])), (bi, .inl (cI, 300, .inl fi)), (qo, .inr (2, [.ref bo, .int (nI ni)])), (bo, .inl (cI, 300, .inl (sm_ap fo 0 fi ni)))] := hD
  refine lv_aload_n hx hb dX3_own_25 rfl (lv_at hl 0 rfl) ?_
  refine va_get (D := D) (ci := 3) (v := .ref qi) (C := RX3) (T := TX3) (N := 12) hx hb hts hw_X3 hown hK hP 0 rfl rfl 0 (by decide) hf_14 (fun _ h9 => h9) rfl dX3_own_26 ?_
  refine sm_callVv (wc := [(qi, .inr (2, [.ref bi, .int (nI ni)])), (bi, .inl (cI, 300, .inl fi))]) (wr := [(qs, .inr (3, [.ref qi, .ref qo, .ref qd, .ref qk, .ref qv, .ref qf, .ref qa, .ref gh, .ref hk, .int (nI kc), .int ivl, .int drw])), (qo, .inr (2, [.ref bo, .int (nI ni)])), (bo, .inl (cI, 300, .inl (sm_ap fo 0 fi ni)))]) (As := []) (rest := []) ⟨hx, hb, hml, hown, hts⟩ (sc_X2_empty l D cI th _ qi bi 300 fi (nI ni) ) (cwV 0 hts gX3_own_X2_empty rfl rfl rfl (by decide +kernel) ⟨Nat.le_of_ble_eq_true rfl, Nat.le_of_ble_eq_true rfl⟩) hP hD hS hA hK hT [1, 2] [0, 3, 4] rfl rfl rfl rfl (by decide) 0 2 rfl rfl rfl rfl hl.1 rfl (Nat.le_of_ble_eq_true rfl) dX3_own_29 ⟨Nat.zero_le _, Nat.zero_le _⟩ (fun zt H1 locs ht hvm hB hJ hS => ?_)
  obtain ⟨hP1, -, hD1⟩ := hB
  rw [ht] at hP1
  obtain ⟨hP, hD⟩ := hJ _ hP1 hD1
  clear hJ
  generalize H1 = H at hP hS ⊢
  have hP : va_P D vwCl [(qs, .inr (3, [.ref qi, .ref qo, .ref qd, .ref qk, .ref qv, .ref qf, .ref qa, .ref gh, .ref hk, .int (nI kc), .int ivl, .int drw])), (qi, .inr (2, [.ref bi, .int (nI 0)])), (bi, .inl (cI, 300, .inl fi)), (qo, .inr (2, [.ref bo, .int (nI ni)])), (bo, .inl (cI, 300, .inl (sm_ap fo 0 fi ni)))] H := hP.sub [0, 3, 4, 1, 2] rfl
  have hD : va_D A [(qs, .inr (3, [.ref qi, .ref qo, .ref qd, .ref qk, .ref qv, .ref qf, .ref qa, .ref gh, .ref hk, .int (nI kc), .int ivl, .int drw])), (qi, .inr (2, [.ref bi, .int (nI 0)])), (bi, .inl (cI, 300, .inl fi)), (qo, .inr (2, [.ref bo, .int (nI ni)])), (bo, .inl (cI, 300, .inl (sm_ap fo 0 fi ni)))] := hD.sub [0, 3, 4, 1, 2] rfl rfl
  refine lv_aload_n hx hb dX3_own_32 rfl (lv_at hl 0 rfl) ?_
  refine va_get (D := D) (ci := 3) (v := .ref qo) (C := RX3) (T := TX3) (N := 12) hx hb hts hw_X3 hown hK hP 0 rfl rfl 1 (by decide) hf_18 (fun _ h9 => h9) rfl dX3_own_33 ?_
  refine sm_callVi (wc := [(qo, .inr (2, [.ref bo, .int (nI ni)])), (bo, .inl (cI, 300, .inl (sm_ap fo 0 fi ni)))]) (wr := [(qs, .inr (3, [.ref qi, .ref qo, .ref qd, .ref qk, .ref qv, .ref qf, .ref qa, .ref gh, .ref hk, .int (nI kc), .int ivl, .int drw])), (qi, .inr (2, [.ref bi, .int (nI 0)])), (bi, .inl (cI, 300, .inl fi))]) (As := []) (rest := []) ⟨hx, hb, hml, hown, hts⟩ (sc_X2_size l D cI th _ qo bo 300 (sm_ap fo 0 fi ni) (nI ni) ) (cwV 0 hts gX3_own_X2_size rfl rfl rfl (by decide +kernel) ⟨Nat.le_of_ble_eq_true rfl, Nat.le_of_ble_eq_true rfl⟩) hP hD hS hA hK hT [3, 4] [0, 1, 2] rfl rfl rfl rfl (by decide) 0 2 rfl rfl rfl rfl hl.1 rfl (Nat.le_of_ble_eq_true rfl) dX3_own_36 ⟨Nat.zero_le _, Nat.zero_le _⟩ (fun r_36 zt H1 locs ht hvm hw hB hJ hS => ?_)
  obtain ⟨hP1, -, hD1⟩ := hB
  rw [ht] at hP1
  obtain ⟨hP, hD⟩ := hJ _ hP1 hD1
  clear hJ
  generalize H1 = H at hP hS ⊢
  have hP : va_P D vwCl [(qs, .inr (3, [.ref qi, .ref qo, .ref qd, .ref qk, .ref qv, .ref qf, .ref qa, .ref gh, .ref hk, .int (nI kc), .int ivl, .int drw])), (qi, .inr (2, [.ref bi, .int (nI 0)])), (bi, .inl (cI, 300, .inl fi)), (qo, .inr (2, [.ref bo, .int (nI ni)])), (bo, .inl (cI, 300, .inl (sm_ap fo 0 fi ni)))] H := hP.sub [0, 1, 2, 3, 4] rfl
  have hD : va_D A [(qs, .inr (3, [.ref qi, .ref qo, .ref qd, .ref qk, .ref qv, .ref qf, .ref qa, .ref gh, .ref hk, .int (nI kc), .int ivl, .int drw])), (qi, .inr (2, [.ref bi, .int (nI 0)])), (bi, .inl (cI, 300, .inl fi)), (qo, .inr (2, [.ref bo, .int (nI ni)])), (bo, .inl (cI, 300, .inl (sm_ap fo 0 fi ni)))] := hD.sub [0, 1, 2, 3, 4] rfl rfl
  rw [hw]
  rw [hQ]
  have hP9 : va_P D vwCl [(qs, .inr (3, [.ref qi, .ref qo, .ref qd, .ref qk, .ref qv, .ref qf, .ref qa, .ref gh, .ref hk, .int (nI kc), .int ivl, .int drw])), (qi, .inr (2, [.ref bi, .int (nI 0)])), (bi, .inl (cI, 300, .inl fi)), (qo, .inr (2, [.ref bo, .int (nI ni)])), (bo, .inl (cI, 300, .inl (sm_ap fo 0 fi ni)))] H := hP
  have hD9 : va_D A [(qs, .inr (3, [.ref qi, .ref qo, .ref qd, .ref qk, .ref qv, .ref qf, .ref qa, .ref gh, .ref hk, .int (nI kc), .int ivl, .int drw])), (qi, .inr (2, [.ref bi, .int (nI 0)])), (bi, .inl (cI, 300, .inl fi)), (qo, .inr (2, [.ref bo, .int (nI ni)])), (bo, .inl (cI, 300, .inl (sm_ap fo 0 fi ni)))] := hD
  exact W.iret (v := nI ni) hx hb hr (fun t ht hW => ⟨⟨nI ni, (), rfl, rfl, ⟨by rw [ht]; exact hP9, va_K.moved hW.alike hK, hD9⟩⟩, hS.F ht⟩) hS.2.2 dX3_own_39

def rm_X3_keyed : Room := ({ frames := 5, cells := 0, slots := 0, locals := 119 } : Room)
set_option maxHeartbeats 4000000 in
set_option maxRecDepth 100000 in
/-- keyed -/
theorem sc_X3_keyed (l : Launch) (D : va_G) (cI : ClassId) (tk tf : Nat) (sz : Nat) (qs qi bi qo bo qd bd qk bk qv bv qf bf qa ba gh gm gb gw gd hk hh hm bm aw ad hB bB hI bI : Nat) (ivl drw : Int32) (kc : Nat) (i : Int32) (ni no : Nat) (fi fo fa : Nat → Int32) (ua : Int32) (fm : Nat → Int32) (um : Int32) (fw fd fB : Nat → Int32) (uB : Int32) (fI : Nat → Int32) (uI : Int32) (hni : ni ≤ 300) (hno : no ≤ 300) : Met l yX3_keyed wsX3_keyed rm_X3_keyed (va_Pc [.ref qs, .int i] (sm_PW D cI (some (tk, tf)) [(qs, .inr (3, [.ref qi, .ref qo, .ref qd, .ref qk, .ref qv, .ref qf, .ref qa, .ref gh, .ref hk, .int (nI kc), .int ivl, .int drw])), (qi, .inr (2, [.ref bi, .int (nI ni)])), (bi, .inl (cI, 300, .inl fi)), (qo, .inr (2, [.ref bo, .int (nI no)])), (bo, .inl (cI, 300, .inl fo)), (qa, .inr (2, [.ref ba, .int ua])), (ba, .inl (cI, 32, .inl fa)), (hk, .inr (1, [.ref hh, .ref hB, .ref hI])), (hh, .inr (0, [.ref hm, .ref aw, .ref ad])), (hm, .inr (2, [.ref bm, .int um])), (bm, .inl (cI, 448, .inl fm)), (aw, .inl (cI, 64, .inl fw)), (ad, .inl (cI, 8, .inl fd)), (hB, .inr (2, [.ref bB, .int uB])), (bB, .inl (cI, 64, .inl fB)), (hI, .inr (2, [.ref bI, .int uI])), (bI, .inl (cI, 32, .inl fI))] sz)) (va_Qi (fun (r : Int32) (_ : Unit) => r = sm_at (sm_hm fo no fi ni) 32 i) (fun _ t => ∃ (fm2 : Nat → Int32) (um2 : Int32) (fw2 : Nat → Int32) (fd2 : Nat → Int32) (fB2 : Nat → Int32) (uB2 : Int32) (fI2 : Nat → Int32) (uI2 : Int32), sm_QW D cI (va_A [(qs, .inr (3, [.ref qi, .ref qo, .ref qd, .ref qk, .ref qv, .ref qf, .ref qa, .ref gh, .ref hk, .int (nI kc), .int ivl, .int drw])), (qi, .inr (2, [.ref bi, .int (nI ni)])), (bi, .inl (cI, 300, .inl fi)), (qo, .inr (2, [.ref bo, .int (nI no)])), (bo, .inl (cI, 300, .inl fo)), (qa, .inr (2, [.ref ba, .int ua])), (ba, .inl (cI, 32, .inl fa)), (hk, .inr (1, [.ref hh, .ref hB, .ref hI])), (hh, .inr (0, [.ref hm, .ref aw, .ref ad])), (hm, .inr (2, [.ref bm, .int um])), (bm, .inl (cI, 448, .inl fm)), (aw, .inl (cI, 64, .inl fw)), (ad, .inl (cI, 8, .inl fd)), (hB, .inr (2, [.ref bB, .int uB])), (bB, .inl (cI, 64, .inl fB)), (hI, .inr (2, [.ref bI, .int uI])), (bI, .inl (cI, 32, .inl fI))] sz) [(qs, .inr (3, [.ref qi, .ref qo, .ref qd, .ref qk, .ref qv, .ref qf, .ref qa, .ref gh, .ref hk, .int (nI kc), .int ivl, .int drw])), (qi, .inr (2, [.ref bi, .int (nI ni)])), (bi, .inl (cI, 300, .inl fi)), (qo, .inr (2, [.ref bo, .int (nI no)])), (bo, .inl (cI, 300, .inl fo)), (qa, .inr (2, [.ref ba, .int (nI 32)])), (ba, .inl (cI, 32, .inl (sm_hm fo no fi ni))), (hk, .inr (1, [.ref hh, .ref hB, .ref hI])), (hh, .inr (0, [.ref hm, .ref aw, .ref ad])), (hm, .inr (2, [.ref bm, .int um2])), (bm, .inl (cI, 448, .inl fm2)), (aw, .inl (cI, 64, .inl fw2)), (ad, .inl (cI, 8, .inl fd2)), (hB, .inr (2, [.ref bB, .int uB2])), (bB, .inl (cI, 64, .inl fB2)), (hI, .inr (2, [.ref bI, .int uI2])), (bI, .inl (cI, 32, .inl fI2))] t) (va_A [(qs, .inr (3, [.ref qi, .ref qo, .ref qd, .ref qk, .ref qv, .ref qf, .ref qa, .ref gh, .ref hk, .int (nI kc), .int ivl, .int drw])), (qi, .inr (2, [.ref bi, .int (nI ni)])), (bi, .inl (cI, 300, .inl fi)), (qo, .inr (2, [.ref bo, .int (nI no)])), (bo, .inl (cI, 300, .inl fo)), (qa, .inr (2, [.ref ba, .int ua])), (ba, .inl (cI, 32, .inl fa)), (hk, .inr (1, [.ref hh, .ref hB, .ref hI])), (hh, .inr (0, [.ref hm, .ref aw, .ref ad])), (hm, .inr (2, [.ref bm, .int um])), (bm, .inl (cI, 448, .inl fm)), (aw, .inl (cI, 64, .inl fw)), (ad, .inl (cI, 8, .inl fd)), (hB, .inr (2, [.ref bB, .int uB])), (bB, .inl (cI, 64, .inl fB)), (hI, .inr (2, [.ref bI, .int uI])), (bI, .inl (cI, 32, .inl fI))] sz)) 0 0 (va_A [(qs, .inr (3, [.ref qi, .ref qo, .ref qd, .ref qk, .ref qv, .ref qf, .ref qa, .ref gh, .ref hk, .int (nI kc), .int ivl, .int drw])), (qi, .inr (2, [.ref bi, .int (nI ni)])), (bi, .inl (cI, 300, .inl fi)), (qo, .inr (2, [.ref bo, .int (nI no)])), (bo, .inl (cI, 300, .inl fo)), (qa, .inr (2, [.ref ba, .int ua])), (ba, .inl (cI, 32, .inl fa)), (hk, .inr (1, [.ref hh, .ref hB, .ref hI])), (hh, .inr (0, [.ref hm, .ref aw, .ref ad])), (hm, .inr (2, [.ref bm, .int um])), (bm, .inl (cI, 448, .inl fm)), (aw, .inl (cI, 64, .inl fw)), (ad, .inl (cI, 8, .inl fd)), (hB, .inr (2, [.ref bB, .int uB])), (bB, .inl (cI, 64, .inl fB)), (hI, .inr (2, [.ref bI, .int uI])), (bI, .inl (cI, 32, .inl fI))] sz) := by
  refine Met.ofW (cc := cX3_keyed) (maxL := 2) (ret := (some .int)) (by decide) rfl ?_
  intro p e s m args below meth c s₁ B hml hv
  obtain ⟨rfl, hsz, hP, hK, hD0, hT⟩ := hv
  have hx := B.exec
  have hb := B.bytes
  have hr := B.returns
  have hts := atoms_spec (ws := wsX3_keyed) B.pre
  have hown : s.vm.findClass RX3 = some m.cls := findClass_of_methodNamed B.named
  have hlocks := B.notSynchronized
  subst hsz
  have hD := hD0.self (sz := s.heap.size)
  generalize hAe : va_A [(qs, .inr (3, [.ref qi, .ref qo, .ref qd, .ref qk, .ref qv, .ref qf, .ref qa, .ref gh, .ref hk, .int (nI kc), .int ivl, .int drw])), (qi, .inr (2, [.ref bi, .int (nI ni)])), (bi, .inl (cI, 300, .inl fi)), (qo, .inr (2, [.ref bo, .int (nI no)])), (bo, .inl (cI, 300, .inl fo)), (qa, .inr (2, [.ref ba, .int ua])), (ba, .inl (cI, 32, .inl fa)), (hk, .inr (1, [.ref hh, .ref hB, .ref hI])), (hh, .inr (0, [.ref hm, .ref aw, .ref ad])), (hm, .inr (2, [.ref bm, .int um])), (bm, .inl (cI, 448, .inl fm)), (aw, .inl (cI, 64, .inl fw)), (ad, .inl (cI, 8, .inl fd)), (hB, .inr (2, [.ref bB, .int uB])), (bB, .inl (cI, 64, .inl fB)), (hI, .inr (2, [.ref bI, .int uI])), (bI, .inl (cI, 32, .inl fI))] s.heap.size = A at hD hT ⊢
  have hA : ∀ q : Nat, s.heap.size ≤ q → A q := fun q h => by rw [← hAe]; exact Or.inr h
  have hS : va_S A s.heap s.heap [] := va_S.rf
  have hl := lv_entry ([.ref qs, .int i]) (n := 2) (Nat.le_of_ble_eq_true rfl)
  rw [lg_entry_eq]
  generalize (lg_sl ([.ref qs, .int i]) ++ List.replicate (2 - (lg_sl ([.ref qs, .int i])).length) Slot.unset).toArray = ls at hl ⊢
  have hl : lv_has ls 2 [(0, .ref qs), (1, .int i)] := hl
  refine sm_name (fun Q hQ => ?_)
  have hf_46 := hts (.fieldLink RX3 46 "SeedMill" "keyedHasher" "LSeedMill$KeyedHasher;") (by decide +kernel)
  have hw_X3 : ∀ w ∈ wsX30, w ∈ wsX3_keyed := by decide +kernel
  have hf_18 := hts (.fieldLink RX3 18 "SeedMill" "ownKey" "LSeedMill$Row;") (by decide +kernel)
  have hf_14 := hts (.fieldLink RX3 14 "SeedMill" "input" "LSeedMill$Row;") (by decide +kernel)
  have hf_33 := hts (.fieldLink RX3 33 "SeedMill" "answer" "LSeedMill$Row;") (by decide +kernel)
  refine lv_aload_n hx hb dX3_keyed_0 rfl (lv_at hl 0 rfl) ?_
  refine va_get (D := D) (ci := 3) (v := .ref hk) (C := RX3) (T := TX3) (N := 12) hx hb hts hw_X3 hown hK hP 0 rfl rfl 8 (by decide) hf_46 (fun _ h9 => h9) rfl dX3_keyed_1 ?_
  refine lv_aload_n hx hb dX3_keyed_4 rfl (lv_at hl 0 rfl) ?_
  refine va_get (D := D) (ci := 3) (v := .ref qo) (C := RX3) (T := TX3) (N := 12) hx hb hts hw_X3 hown hK hP 0 rfl rfl 1 (by decide) hf_18 (fun _ h9 => h9) rfl dX3_keyed_5 ?_
  refine sm_callVv (wc := [(hk, .inr (1, [.ref hh, .ref hB, .ref hI])), (hh, .inr (0, [.ref hm, .ref aw, .ref ad])), (hm, .inr (2, [.ref bm, .int um])), (bm, .inl (cI, 448, .inl fm)), (aw, .inl (cI, 64, .inl fw)), (ad, .inl (cI, 8, .inl fd)), (hB, .inr (2, [.ref bB, .int uB])), (bB, .inl (cI, 64, .inl fB)), (qo, .inr (2, [.ref bo, .int (nI no)])), (bo, .inl (cI, 300, .inl fo))]) (wr := [(qs, .inr (3, [.ref qi, .ref qo, .ref qd, .ref qk, .ref qv, .ref qf, .ref qa, .ref gh, .ref hk, .int (nI kc), .int ivl, .int drw])), (qi, .inr (2, [.ref bi, .int (nI ni)])), (bi, .inl (cI, 300, .inl fi)), (qa, .inr (2, [.ref ba, .int ua])), (ba, .inl (cI, 32, .inl fa)), (hI, .inr (2, [.ref bI, .int uI])), (bI, .inl (cI, 32, .inl fI))]) (As := [.ref qo]) (rest := []) ⟨hx, hb, hml, hown, hts⟩ (sc_X1_begin l D cI tk tf _ hk hh hm bm aw ad hB bB hI bI qo bo 300 no fm fw fd fB fo um uB hno hno (by decide)) (cwV 1 hts gX3_keyed_X1_begin rfl rfl rfl (by decide +kernel) ⟨Nat.le_of_ble_eq_true rfl, Nat.le_of_ble_eq_true rfl⟩) hP hD hS hA hK hT [7, 8, 9, 10, 11, 12, 13, 14, 3, 4] [0, 1, 2, 5, 6, 15, 16] rfl rfl rfl rfl (by decide) 0 1 rfl rfl rfl rfl hl.1 rfl (Nat.le_of_ble_eq_true rfl) dX3_keyed_8 ⟨Nat.zero_le _, Nat.zero_le _⟩ (fun zt H1 locs ht hvm hB hJ hS => ?_)
  obtain ⟨fm3, fw3, fd3, hP1, -, hD1⟩ := hB
  rw [ht] at hP1
  obtain ⟨hP, hD⟩ := hJ _ hP1 hD1
  clear hJ
  generalize H1 = H at hP hS ⊢
  have hP : va_P D vwCl [(qs, .inr (3, [.ref qi, .ref qo, .ref qd, .ref qk, .ref qv, .ref qf, .ref qa, .ref gh, .ref hk, .int (nI kc), .int ivl, .int drw])), (qi, .inr (2, [.ref bi, .int (nI ni)])), (bi, .inl (cI, 300, .inl fi)), (qo, .inr (2, [.ref bo, .int (nI no)])), (bo, .inl (cI, 300, .inl fo)), (qa, .inr (2, [.ref ba, .int ua])), (ba, .inl (cI, 32, .inl fa)), (hk, .inr (1, [.ref hh, .ref hB, .ref hI])), (hh, .inr (0, [.ref hm, .ref aw, .ref ad])), (hm, .inr (2, [.ref bm, .int (nI (0 + 64))])), (bm, .inl (cI, 448, .inl (sm_ap fm3 0 (fun j => sm_kb fo no j ^^^ 54) 64))), (aw, .inl (cI, 64, .inl fw3)), (ad, .inl (cI, 8, .inl fd3)), (hB, .inr (2, [.ref bB, .int (nI 64)])), (bB, .inl (cI, 64, .inl (sm_kb fo no))), (hI, .inr (2, [.ref bI, .int uI])), (bI, .inl (cI, 32, .inl fI))] H := hP.sub [0, 1, 2, 15, 16, 3, 4, 7, 8, 9, 10, 11, 12, 13, 14, 5, 6] rfl
  have hD : va_D A [(qs, .inr (3, [.ref qi, .ref qo, .ref qd, .ref qk, .ref qv, .ref qf, .ref qa, .ref gh, .ref hk, .int (nI kc), .int ivl, .int drw])), (qi, .inr (2, [.ref bi, .int (nI ni)])), (bi, .inl (cI, 300, .inl fi)), (qo, .inr (2, [.ref bo, .int (nI no)])), (bo, .inl (cI, 300, .inl fo)), (qa, .inr (2, [.ref ba, .int ua])), (ba, .inl (cI, 32, .inl fa)), (hk, .inr (1, [.ref hh, .ref hB, .ref hI])), (hh, .inr (0, [.ref hm, .ref aw, .ref ad])), (hm, .inr (2, [.ref bm, .int (nI (0 + 64))])), (bm, .inl (cI, 448, .inl (sm_ap fm3 0 (fun j => sm_kb fo no j ^^^ 54) 64))), (aw, .inl (cI, 64, .inl fw3)), (ad, .inl (cI, 8, .inl fd3)), (hB, .inr (2, [.ref bB, .int (nI 64)])), (bB, .inl (cI, 64, .inl (sm_kb fo no))), (hI, .inr (2, [.ref bI, .int uI])), (bI, .inl (cI, 32, .inl fI))] := hD.sub [0, 1, 2, 15, 16, 3, 4, 7, 8, 9, 10, 11, 12, 13, 14, 5, 6] rfl rfl
  refine lv_aload_n hx hb dX3_keyed_11 rfl (lv_at hl 0 rfl) ?_
  refine va_get (D := D) (ci := 3) (v := .ref hk) (C := RX3) (T := TX3) (N := 12) hx hb hts hw_X3 hown hK hP 0 rfl rfl 8 (by decide) hf_46 (fun _ h9 => h9) rfl dX3_keyed_12 ?_
  refine lv_aload_n hx hb dX3_keyed_15 rfl (lv_at hl 0 rfl) ?_
  refine va_get (D := D) (ci := 3) (v := .ref qi) (C := RX3) (T := TX3) (N := 12) hx hb hts hw_X3 hown hK hP 0 rfl rfl 0 (by decide) hf_14 (fun _ h9 => h9) rfl dX3_keyed_16 ?_
  refine sm_callVv (wc := [(hk, .inr (1, [.ref hh, .ref hB, .ref hI])), (hh, .inr (0, [.ref hm, .ref aw, .ref ad])), (hm, .inr (2, [.ref bm, .int (nI (0 + 64))])), (bm, .inl (cI, 448, .inl (sm_ap fm3 0 (fun j => sm_kb fo no j ^^^ 54) 64))), (qi, .inr (2, [.ref bi, .int (nI ni)])), (bi, .inl (cI, 300, .inl fi))]) (wr := [(qs, .inr (3, [.ref qi, .ref qo, .ref qd, .ref qk, .ref qv, .ref qf, .ref qa, .ref gh, .ref hk, .int (nI kc), .int ivl, .int drw])), (qo, .inr (2, [.ref bo, .int (nI no)])), (bo, .inl (cI, 300, .inl fo)), (qa, .inr (2, [.ref ba, .int ua])), (ba, .inl (cI, 32, .inl fa)), (aw, .inl (cI, 64, .inl fw3)), (ad, .inl (cI, 8, .inl fd3)), (hB, .inr (2, [.ref bB, .int (nI 64)])), (bB, .inl (cI, 64, .inl (sm_kb fo no))), (hI, .inr (2, [.ref bI, .int uI])), (bI, .inl (cI, 32, .inl fI))]) (As := [.ref qi]) (rest := []) ⟨hx, hb, hml, hown, hts⟩ (sc_X1_add l D cI (some (tk, tf)) _ hk hh hm bm aw ad hB bB hI bI (0 + 64) qi bi 300 ni (sm_ap fm3 0 (fun j => sm_kb fo no j ^^^ 54) 64) fi (by omega) hni (by decide)) (cwV 1 hts gX3_keyed_X1_add rfl rfl rfl (by decide +kernel) ⟨Nat.le_of_ble_eq_true rfl, Nat.le_of_ble_eq_true rfl⟩) hP hD hS hA hK hT [7, 8, 9, 10, 1, 2] [0, 3, 4, 5, 6, 11, 12, 13, 14, 15, 16] rfl rfl rfl rfl (by decide) 0 1 rfl rfl rfl rfl hl.1 rfl (Nat.le_of_ble_eq_true rfl) dX3_keyed_19 ⟨Nat.zero_le _, Nat.zero_le _⟩ (fun zt H1 locs ht hvm hB hJ hS => ?_)
  obtain ⟨hP1, -, hD1⟩ := hB
  rw [ht] at hP1
  obtain ⟨hP, hD⟩ := hJ _ hP1 hD1
  clear hJ
  generalize H1 = H at hP hS ⊢
  have hP : va_P D vwCl [(qs, .inr (3, [.ref qi, .ref qo, .ref qd, .ref qk, .ref qv, .ref qf, .ref qa, .ref gh, .ref hk, .int (nI kc), .int ivl, .int drw])), (qi, .inr (2, [.ref bi, .int (nI ni)])), (bi, .inl (cI, 300, .inl fi)), (qo, .inr (2, [.ref bo, .int (nI no)])), (bo, .inl (cI, 300, .inl fo)), (qa, .inr (2, [.ref ba, .int ua])), (ba, .inl (cI, 32, .inl fa)), (hk, .inr (1, [.ref hh, .ref hB, .ref hI])), (hh, .inr (0, [.ref hm, .ref aw, .ref ad])), (hm, .inr (2, [.ref bm, .int (nI (0 + 64 + ni))])), (bm, .inl (cI, 448, .inl (sm_ap (sm_ap fm3 0 (fun j => sm_kb fo no j ^^^ 54) 64) (0 + 64) fi ni))), (aw, .inl (cI, 64, .inl fw3)), (ad, .inl (cI, 8, .inl fd3)), (hB, .inr (2, [.ref bB, .int (nI 64)])), (bB, .inl (cI, 64, .inl (sm_kb fo no))), (hI, .inr (2, [.ref bI, .int uI])), (bI, .inl (cI, 32, .inl fI))] H := hP.sub [0, 15, 16, 1, 2, 3, 4, 11, 12, 13, 14, 5, 6, 7, 8, 9, 10] rfl
  have hD : va_D A [(qs, .inr (3, [.ref qi, .ref qo, .ref qd, .ref qk, .ref qv, .ref qf, .ref qa, .ref gh, .ref hk, .int (nI kc), .int ivl, .int drw])), (qi, .inr (2, [.ref bi, .int (nI ni)])), (bi, .inl (cI, 300, .inl fi)), (qo, .inr (2, [.ref bo, .int (nI no)])), (bo, .inl (cI, 300, .inl fo)), (qa, .inr (2, [.ref ba, .int ua])), (ba, .inl (cI, 32, .inl fa)), (hk, .inr (1, [.ref hh, .ref hB, .ref hI])), (hh, .inr (0, [.ref hm, .ref aw, .ref ad])), (hm, .inr (2, [.ref bm, .int (nI (0 + 64 + ni))])), (bm, .inl (cI, 448, .inl (sm_ap (sm_ap fm3 0 (fun j => sm_kb fo no j ^^^ 54) 64) (0 + 64) fi ni))), (aw, .inl (cI, 64, .inl fw3)), (ad, .inl (cI, 8, .inl fd3)), (hB, .inr (2, [.ref bB, .int (nI 64)])), (bB, .inl (cI, 64, .inl (sm_kb fo no))), (hI, .inr (2, [.ref bI, .int uI])), (bI, .inl (cI, 32, .inl fI))] := hD.sub [0, 15, 16, 1, 2, 3, 4, 11, 12, 13, 14, 5, 6, 7, 8, 9, 10] rfl rfl
  refine lv_aload_n hx hb dX3_keyed_22 rfl (lv_at hl 0 rfl) ?_
  refine va_get (D := D) (ci := 3) (v := .ref hk) (C := RX3) (T := TX3) (N := 12) hx hb hts hw_X3 hown hK hP 0 rfl rfl 8 (by decide) hf_46 (fun _ h9 => h9) rfl dX3_keyed_23 ?_
  refine lv_aload_n hx hb dX3_keyed_26 rfl (lv_at hl 0 rfl) ?_
  refine va_get (D := D) (ci := 3) (v := .ref qa) (C := RX3) (T := TX3) (N := 12) hx hb hts hw_X3 hown hK hP 0 rfl rfl 6 (by decide) hf_33 (fun _ h9 => h9) rfl dX3_keyed_27 ?_
  refine sm_callVv (wc := [(hk, .inr (1, [.ref hh, .ref hB, .ref hI])), (hh, .inr (0, [.ref hm, .ref aw, .ref ad])), (hm, .inr (2, [.ref bm, .int (nI (0 + 64 + ni))])), (bm, .inl (cI, 448, .inl (sm_ap (sm_ap fm3 0 (fun j => sm_kb fo no j ^^^ 54) 64) (0 + 64) fi ni))), (aw, .inl (cI, 64, .inl fw3)), (ad, .inl (cI, 8, .inl fd3)), (hB, .inr (2, [.ref bB, .int (nI 64)])), (bB, .inl (cI, 64, .inl (sm_kb fo no))), (hI, .inr (2, [.ref bI, .int uI])), (bI, .inl (cI, 32, .inl fI)), (qa, .inr (2, [.ref ba, .int ua])), (ba, .inl (cI, 32, .inl fa))]) (wr := [(qs, .inr (3, [.ref qi, .ref qo, .ref qd, .ref qk, .ref qv, .ref qf, .ref qa, .ref gh, .ref hk, .int (nI kc), .int ivl, .int drw])), (qi, .inr (2, [.ref bi, .int (nI ni)])), (bi, .inl (cI, 300, .inl fi)), (qo, .inr (2, [.ref bo, .int (nI no)])), (bo, .inl (cI, 300, .inl fo))]) (As := [.ref qa]) (rest := []) ⟨hx, hb, hml, hown, hts⟩ (sc_X1_end l D cI tk tf _ hk hh hm bm aw ad hB bB hI bI qa ba 32 (0 + 64 + ni) (sm_ap (sm_ap fm3 0 (fun j => sm_kb fo no j ^^^ 54) 64) (0 + 64) fi ni) fw3 fd3 (sm_kb fo no) fI fa uI ua (by unfold sm_nb; omega) (by decide) (by decide)) (cwV 1 hts gX3_keyed_X1_end rfl rfl rfl (by decide +kernel) ⟨Nat.le_of_ble_eq_true rfl, Nat.le_of_ble_eq_true rfl⟩) hP hD hS hA hK hT [7, 8, 9, 10, 11, 12, 13, 14, 15, 16, 5, 6] [0, 1, 2, 3, 4] rfl rfl rfl rfl (by decide) 0 1 rfl rfl rfl rfl hl.1 rfl (Nat.le_of_ble_eq_true rfl) dX3_keyed_30 ⟨Nat.zero_le _, Nat.zero_le _⟩ (fun zt H1 locs ht hvm hB hJ hS => ?_)
  obtain ⟨fm4, um4, fw4, fd4, fI4, hP1, -, hD1⟩ := hB
  rw [ht] at hP1
  obtain ⟨hP, hD⟩ := hJ _ hP1 hD1
  clear hJ
  generalize H1 = H at hP hS ⊢
  have hP : va_P D vwCl [(qs, .inr (3, [.ref qi, .ref qo, .ref qd, .ref qk, .ref qv, .ref qf, .ref qa, .ref gh, .ref hk, .int (nI kc), .int ivl, .int drw])), (qi, .inr (2, [.ref bi, .int (nI ni)])), (bi, .inl (cI, 300, .inl fi)), (qo, .inr (2, [.ref bo, .int (nI no)])), (bo, .inl (cI, 300, .inl fo)), (qa, .inr (2, [.ref ba, .int (nI 32)])), (ba, .inl (cI, 32, .inl (sm_ap fa 0 (sm_out (sm_kb fo no) (sm_sha (sm_ap (sm_ap fm3 0 (fun j => sm_kb fo no j ^^^ 54) 64) (0 + 64) fi ni) (0 + 64 + ni))) 32))), (hk, .inr (1, [.ref hh, .ref hB, .ref hI])), (hh, .inr (0, [.ref hm, .ref aw, .ref ad])), (hm, .inr (2, [.ref bm, .int um4])), (bm, .inl (cI, 448, .inl fm4)), (aw, .inl (cI, 64, .inl fw4)), (ad, .inl (cI, 8, .inl fd4)), (hB, .inr (2, [.ref bB, .int (nI 64)])), (bB, .inl (cI, 64, .inl (sm_kb fo no))), (hI, .inr (2, [.ref bI, .int (nI 32)])), (bI, .inl (cI, 32, .inl fI4))] H := hP.sub [0, 1, 2, 3, 4, 15, 16, 5, 6, 7, 8, 9, 10, 11, 12, 13, 14] rfl
  have hD : va_D A [(qs, .inr (3, [.ref qi, .ref qo, .ref qd, .ref qk, .ref qv, .ref qf, .ref qa, .ref gh, .ref hk, .int (nI kc), .int ivl, .int drw])), (qi, .inr (2, [.ref bi, .int (nI ni)])), (bi, .inl (cI, 300, .inl fi)), (qo, .inr (2, [.ref bo, .int (nI no)])), (bo, .inl (cI, 300, .inl fo)), (qa, .inr (2, [.ref ba, .int (nI 32)])), (ba, .inl (cI, 32, .inl (sm_ap fa 0 (sm_out (sm_kb fo no) (sm_sha (sm_ap (sm_ap fm3 0 (fun j => sm_kb fo no j ^^^ 54) 64) (0 + 64) fi ni) (0 + 64 + ni))) 32))), (hk, .inr (1, [.ref hh, .ref hB, .ref hI])), (hh, .inr (0, [.ref hm, .ref aw, .ref ad])), (hm, .inr (2, [.ref bm, .int um4])), (bm, .inl (cI, 448, .inl fm4)), (aw, .inl (cI, 64, .inl fw4)), (ad, .inl (cI, 8, .inl fd4)), (hB, .inr (2, [.ref bB, .int (nI 64)])), (bB, .inl (cI, 64, .inl (sm_kb fo no))), (hI, .inr (2, [.ref bI, .int (nI 32)])), (bI, .inl (cI, 32, .inl fI4))] := hD.sub [0, 1, 2, 3, 4, 15, 16, 5, 6, 7, 8, 9, 10, 11, 12, 13, 14] rfl rfl
  rw [sm_hmE] at hP hD
  have hP := sm_arr hP 6 rfl (sm_hm fo no fi ni) (fun j hj => sm_ap_z hj)
  have hD := sm_arrD (y := .inl (cI, 32, .inl (sm_hm fo no fi ni))) hD 6 rfl
  have hP : va_P D vwCl [(qs, .inr (3, [.ref qi, .ref qo, .ref qd, .ref qk, .ref qv, .ref qf, .ref qa, .ref gh, .ref hk, .int (nI kc), .int ivl, .int drw])), (qi, .inr (2, [.ref bi, .int (nI ni)])), (bi, .inl (cI, 300, .inl fi)), (qo, .inr (2, [.ref bo, .int (nI no)])), (bo, .inl (cI, 300, .inl fo)), (qa, .inr (2, [.ref ba, .int (nI 32)])), (ba, .inl (cI, 32, .inl (sm_hm fo no fi ni))), (hk, .inr (1, [.ref hh, .ref hB, .ref hI])), (hh, .inr (0, [.ref hm, .ref aw, .ref ad])), (hm, .inr (2, [.ref bm, .int um4])), (bm, .inl (cI, 448, .inl fm4)), (aw, .inl (cI, 64, .inl fw4)), (ad, .inl (cI, 8, .inl fd4)), (hB, .inr (2, [.ref bB, .int (nI 64)])), (bB, .inl (cI, 64, .inl (sm_kb fo no))), (hI, .inr (2, [.ref bI, .int (nI 32)])), (bI, .inl (cI, 32, .inl fI4))] H := hP
  have hD : va_D A [(qs, .inr (3, [.ref qi, .ref qo, .ref qd, .ref qk, .ref qv, .ref qf, .ref qa, .ref gh, .ref hk, .int (nI kc), .int ivl, .int drw])), (qi, .inr (2, [.ref bi, .int (nI ni)])), (bi, .inl (cI, 300, .inl fi)), (qo, .inr (2, [.ref bo, .int (nI no)])), (bo, .inl (cI, 300, .inl fo)), (qa, .inr (2, [.ref ba, .int (nI 32)])), (ba, .inl (cI, 32, .inl (sm_hm fo no fi ni))), (hk, .inr (1, [.ref hh, .ref hB, .ref hI])), (hh, .inr (0, [.ref hm, .ref aw, .ref ad])), (hm, .inr (2, [.ref bm, .int um4])), (bm, .inl (cI, 448, .inl fm4)), (aw, .inl (cI, 64, .inl fw4)), (ad, .inl (cI, 8, .inl fd4)), (hB, .inr (2, [.ref bB, .int (nI 64)])), (bB, .inl (cI, 64, .inl (sm_kb fo no))), (hI, .inr (2, [.ref bI, .int (nI 32)])), (bI, .inl (cI, 32, .inl fI4))] := hD
  refine lv_aload_n hx hb dX3_keyed_33 rfl (lv_at hl 0 rfl) ?_
  refine va_get (D := D) (ci := 3) (v := .ref qa) (C := RX3) (T := TX3) (N := 12) hx hb hts hw_X3 hown hK hP 0 rfl rfl 6 (by decide) hf_33 (fun _ h9 => h9) rfl dX3_keyed_34 ?_
  refine lv_iload_n hx hb dX3_keyed_37 rfl (lv_at hl 1 rfl) ?_
  refine sm_callVi (wc := [(qa, .inr (2, [.ref ba, .int (nI 32)])), (ba, .inl (cI, 32, .inl (sm_hm fo no fi ni)))]) (wr := [(qs, .inr (3, [.ref qi, .ref qo, .ref qd, .ref qk, .ref qv, .ref qf, .ref qa, .ref gh, .ref hk, .int (nI kc), .int ivl, .int drw])), (qi, .inr (2, [.ref bi, .int (nI ni)])), (bi, .inl (cI, 300, .inl fi)), (qo, .inr (2, [.ref bo, .int (nI no)])), (bo, .inl (cI, 300, .inl fo)), (hk, .inr (1, [.ref hh, .ref hB, .ref hI])), (hh, .inr (0, [.ref hm, .ref aw, .ref ad])), (hm, .inr (2, [.ref bm, .int um4])), (bm, .inl (cI, 448, .inl fm4)), (aw, .inl (cI, 64, .inl fw4)), (ad, .inl (cI, 8, .inl fd4)), (hB, .inr (2, [.ref bB, .int (nI 64)])), (bB, .inl (cI, 64, .inl (sm_kb fo no))), (hI, .inr (2, [.ref bI, .int (nI 32)])), (bI, .inl (cI, 32, .inl fI4))]) (As := [.int i]) (rest := []) ⟨hx, hb, hml, hown, hts⟩ (sc_X2_at l D cI (some (tk, tf)) _ qa ba 32 32 (sm_hm fo no fi ni) i (by decide) (by decide)) (cwV 1 hts gX3_keyed_X2_at rfl rfl rfl (by decide +kernel) ⟨Nat.le_of_ble_eq_true rfl, Nat.le_of_ble_eq_true rfl⟩) hP hD hS hA hK hT [5, 6] [0, 1, 2, 3, 4, 7, 8, 9, 10, 11, 12, 13, 14, 15, 16] rfl rfl rfl rfl (by decide) 0 2 rfl rfl rfl rfl hl.1 rfl (Nat.le_of_ble_eq_true rfl) dX3_keyed_38 ⟨Nat.zero_le _, Nat.zero_le _⟩ (fun r_38 zt H1 locs ht hvm hw hB hJ hS => ?_)
  obtain ⟨hP1, -, hD1⟩ := hB
  rw [ht] at hP1
  obtain ⟨hP, hD⟩ := hJ _ hP1 hD1
  clear hJ
  generalize H1 = H at hP hS ⊢
  have hP : va_P D vwCl [(qs, .inr (3, [.ref qi, .ref qo, .ref qd, .ref qk, .ref qv, .ref qf, .ref qa, .ref gh, .ref hk, .int (nI kc), .int ivl, .int drw])), (qi, .inr (2, [.ref bi, .int (nI ni)])), (bi, .inl (cI, 300, .inl fi)), (qo, .inr (2, [.ref bo, .int (nI no)])), (bo, .inl (cI, 300, .inl fo)), (qa, .inr (2, [.ref ba, .int (nI 32)])), (ba, .inl (cI, 32, .inl (sm_hm fo no fi ni))), (hk, .inr (1, [.ref hh, .ref hB, .ref hI])), (hh, .inr (0, [.ref hm, .ref aw, .ref ad])), (hm, .inr (2, [.ref bm, .int um4])), (bm, .inl (cI, 448, .inl fm4)), (aw, .inl (cI, 64, .inl fw4)), (ad, .inl (cI, 8, .inl fd4)), (hB, .inr (2, [.ref bB, .int (nI 64)])), (bB, .inl (cI, 64, .inl (sm_kb fo no))), (hI, .inr (2, [.ref bI, .int (nI 32)])), (bI, .inl (cI, 32, .inl fI4))] H := hP.sub [0, 1, 2, 3, 4, 15, 16, 5, 6, 7, 8, 9, 10, 11, 12, 13, 14] rfl
  have hD : va_D A [(qs, .inr (3, [.ref qi, .ref qo, .ref qd, .ref qk, .ref qv, .ref qf, .ref qa, .ref gh, .ref hk, .int (nI kc), .int ivl, .int drw])), (qi, .inr (2, [.ref bi, .int (nI ni)])), (bi, .inl (cI, 300, .inl fi)), (qo, .inr (2, [.ref bo, .int (nI no)])), (bo, .inl (cI, 300, .inl fo)), (qa, .inr (2, [.ref ba, .int (nI 32)])), (ba, .inl (cI, 32, .inl (sm_hm fo no fi ni))), (hk, .inr (1, [.ref hh, .ref hB, .ref hI])), (hh, .inr (0, [.ref hm, .ref aw, .ref ad])), (hm, .inr (2, [.ref bm, .int um4])), (bm, .inl (cI, 448, .inl fm4)), (aw, .inl (cI, 64, .inl fw4)), (ad, .inl (cI, 8, .inl fd4)), (hB, .inr (2, [.ref bB, .int (nI 64)])), (bB, .inl (cI, 64, .inl (sm_kb fo no))), (hI, .inr (2, [.ref bI, .int (nI 32)])), (bI, .inl (cI, 32, .inl fI4))] := hD.sub [0, 1, 2, 3, 4, 15, 16, 5, 6, 7, 8, 9, 10, 11, 12, 13, 14] rfl rfl
  rw [hw]
  rw [hQ]
  have hP9 : va_P D vwCl [(qs, .inr (3, [.ref qi, .ref qo, .ref qd, .ref qk, .ref qv, .ref qf, .ref qa, .ref gh, .ref hk, .int (nI kc), .int ivl, .int drw])), (qi, .inr (2, [.ref bi, .int (nI ni)])), (bi, .inl (cI, 300, .inl fi)), (qo, .inr (2, [.ref bo, .int (nI no)])), (bo, .inl (cI, 300, .inl fo)), (qa, .inr (2, [.ref ba, .int (nI 32)])), (ba, .inl (cI, 32, .inl (sm_hm fo no fi ni))), (hk, .inr (1, [.ref hh, .ref hB, .ref hI])), (hh, .inr (0, [.ref hm, .ref aw, .ref ad])), (hm, .inr (2, [.ref bm, .int um4])), (bm, .inl (cI, 448, .inl fm4)), (aw, .inl (cI, 64, .inl fw4)), (ad, .inl (cI, 8, .inl fd4)), (hB, .inr (2, [.ref bB, .int (nI 64)])), (bB, .inl (cI, 64, .inl (sm_kb fo no))), (hI, .inr (2, [.ref bI, .int (nI 32)])), (bI, .inl (cI, 32, .inl fI4))] H := hP
  have hD9 : va_D A [(qs, .inr (3, [.ref qi, .ref qo, .ref qd, .ref qk, .ref qv, .ref qf, .ref qa, .ref gh, .ref hk, .int (nI kc), .int ivl, .int drw])), (qi, .inr (2, [.ref bi, .int (nI ni)])), (bi, .inl (cI, 300, .inl fi)), (qo, .inr (2, [.ref bo, .int (nI no)])), (bo, .inl (cI, 300, .inl fo)), (qa, .inr (2, [.ref ba, .int (nI 32)])), (ba, .inl (cI, 32, .inl (sm_hm fo no fi ni))), (hk, .inr (1, [.ref hh, .ref hB, .ref hI])), (hh, .inr (0, [.ref hm, .ref aw, .ref ad])), (hm, .inr (2, [.ref bm, .int um4])), (bm, .inl (cI, 448, .inl fm4)), (aw, .inl (cI, 64, .inl fw4)), (ad, .inl (cI, 8, .inl fd4)), (hB, .inr (2, [.ref bB, .int (nI 64)])), (bB, .inl (cI, 64, .inl (sm_kb fo no))), (hI, .inr (2, [.ref bI, .int (nI 32)])), (bI, .inl (cI, 32, .inl fI4))] := hD
  exact W.iret (v := sm_at (sm_hm fo no fi ni) 32 i) hx hb hr (fun t ht hW => ⟨⟨sm_at (sm_hm fo no fi ni) 32 i, (), rfl, rfl, ⟨_, _, _, _, _, _, _, _, by rw [ht]; exact hP9, va_K.moved hW.alike hK, hD9⟩⟩, hS.F ht⟩) hS.2.2 dX3_keyed_41

def rm_X3_count : Room := ({ frames := 1, cells := 0, slots := 0, locals := 20 } : Room)
set_option maxHeartbeats 4000000 in
set_option maxRecDepth 100000 in
/-- count -/
theorem sc_X3_count (l : Launch) (D : va_G) (cI : ClassId) (th : Option (Nat × Nat)) (sz : Nat) (qs qi bi qo bo qd bd qk bk qv bv qf bf qa ba gh gm gb gw gd hk hh hm bm aw ad hB bB hI bI : Nat) (ivl drw : Int32) (kc : Nat) (k ui uo ud : Int32) (fi fo fD : Nat → Int32)  : Met l yX3_count wsX3_count rm_X3_count (va_Pc [.ref qs, .int k] (sm_PW D cI th [(qs, .inr (3, [.ref qi, .ref qo, .ref qd, .ref qk, .ref qv, .ref qf, .ref qa, .ref gh, .ref hk, .int (nI kc), .int ivl, .int drw])), (qi, .inr (2, [.ref bi, .int ui])), (bi, .inl (cI, 300, .inl fi)), (qo, .inr (2, [.ref bo, .int uo])), (bo, .inl (cI, 300, .inl fo)), (qd, .inr (2, [.ref bd, .int ud])), (bd, .inl (cI, 400, .inl fD))] sz)) (va_Qi (fun (r : Int32) (_ : Unit) => r = sm_ct k ui ud uo drw ivl) (fun _ t => sm_QW D cI (va_A [(qs, .inr (3, [.ref qi, .ref qo, .ref qd, .ref qk, .ref qv, .ref qf, .ref qa, .ref gh, .ref hk, .int (nI kc), .int ivl, .int drw])), (qi, .inr (2, [.ref bi, .int ui])), (bi, .inl (cI, 300, .inl fi)), (qo, .inr (2, [.ref bo, .int uo])), (bo, .inl (cI, 300, .inl fo)), (qd, .inr (2, [.ref bd, .int ud])), (bd, .inl (cI, 400, .inl fD))] sz) [(qs, .inr (3, [.ref qi, .ref qo, .ref qd, .ref qk, .ref qv, .ref qf, .ref qa, .ref gh, .ref hk, .int (nI kc), .int ivl, .int drw])), (qi, .inr (2, [.ref bi, .int ui])), (bi, .inl (cI, 300, .inl fi)), (qo, .inr (2, [.ref bo, .int uo])), (bo, .inl (cI, 300, .inl fo)), (qd, .inr (2, [.ref bd, .int ud])), (bd, .inl (cI, 400, .inl fD))] t) (va_A [(qs, .inr (3, [.ref qi, .ref qo, .ref qd, .ref qk, .ref qv, .ref qf, .ref qa, .ref gh, .ref hk, .int (nI kc), .int ivl, .int drw])), (qi, .inr (2, [.ref bi, .int ui])), (bi, .inl (cI, 300, .inl fi)), (qo, .inr (2, [.ref bo, .int uo])), (bo, .inl (cI, 300, .inl fo)), (qd, .inr (2, [.ref bd, .int ud])), (bd, .inl (cI, 400, .inl fD))] sz)) 0 0 (va_A [(qs, .inr (3, [.ref qi, .ref qo, .ref qd, .ref qk, .ref qv, .ref qf, .ref qa, .ref gh, .ref hk, .int (nI kc), .int ivl, .int drw])), (qi, .inr (2, [.ref bi, .int ui])), (bi, .inl (cI, 300, .inl fi)), (qo, .inr (2, [.ref bo, .int uo])), (bo, .inl (cI, 300, .inl fo)), (qd, .inr (2, [.ref bd, .int ud])), (bd, .inl (cI, 400, .inl fD))] sz) := by
  refine Met.ofW (cc := cX3_count) (maxL := 2) (ret := (some .int)) (by decide) rfl ?_
  intro p e s m args below meth c s₁ B hml hv
  obtain ⟨rfl, hsz, hP, hK, hD0, hT⟩ := hv
  have hx := B.exec
  have hb := B.bytes
  have hr := B.returns
  have hts := atoms_spec (ws := wsX3_count) B.pre
  have hown : s.vm.findClass RX3 = some m.cls := findClass_of_methodNamed B.named
  have hlocks := B.notSynchronized
  subst hsz
  have hD := hD0.self (sz := s.heap.size)
  generalize hAe : va_A [(qs, .inr (3, [.ref qi, .ref qo, .ref qd, .ref qk, .ref qv, .ref qf, .ref qa, .ref gh, .ref hk, .int (nI kc), .int ivl, .int drw])), (qi, .inr (2, [.ref bi, .int ui])), (bi, .inl (cI, 300, .inl fi)), (qo, .inr (2, [.ref bo, .int uo])), (bo, .inl (cI, 300, .inl fo)), (qd, .inr (2, [.ref bd, .int ud])), (bd, .inl (cI, 400, .inl fD))] s.heap.size = A at hD hT ⊢
  have hA : ∀ q : Nat, s.heap.size ≤ q → A q := fun q h => by rw [← hAe]; exact Or.inr h
  have hS : va_S A s.heap s.heap [] := va_S.rf
  have hl := lv_entry ([.ref qs, .int k]) (n := 2) (Nat.le_of_ble_eq_true rfl)
  rw [lg_entry_eq]
  generalize (lg_sl ([.ref qs, .int k]) ++ List.replicate (2 - (lg_sl ([.ref qs, .int k])).length) Slot.unset).toArray = ls at hl ⊢
  have hl : lv_has ls 2 [(0, .ref qs), (1, .int k)] := hl
  refine sm_name (fun Q hQ => ?_)
  have hf_14 := hts (.fieldLink RX3 14 "SeedMill" "input" "LSeedMill$Row;") (by decide +kernel)
  have hw_X3 : ∀ w ∈ wsX30, w ∈ wsX3_count := by decide +kernel
  have hf_21 := hts (.fieldLink RX3 21 "SeedMill" "drawn" "LSeedMill$Row;") (by decide +kernel)
  have hf_18 := hts (.fieldLink RX3 18 "SeedMill" "ownKey" "LSeedMill$Row;") (by decide +kernel)
  have hf_57 := hts (.fieldLink RX3 57 "SeedMill" "drawsInAll" "I") (by decide +kernel)
  have hf_54 := hts (.fieldLink RX3 54 "SeedMill" "drawInterval" "I") (by decide +kernel)
  refine lv_iload_n hx hb dX3_count_0 rfl (lv_at hl 1 rfl) ?_
  by_cases hw0 : k = 0
  ·
    refine lv_tableIn (tgt := 36) (off := 35) hx hb dX3_count_1 (by rw [hw0]; decide) (by rw [hw0]; decide) (by rw [hw0]; rfl) (by decide) ?_
    refine lv_aload_n hx hb dX3_count_36 rfl (lv_at hl 0 rfl) ?_
    refine va_get (D := D) (ci := 3) (v := .ref qi) (C := RX3) (T := TX3) (N := 12) hx hb hts hw_X3 hown hK hP 0 rfl rfl 0 (by decide) hf_14 (fun _ h9 => h9) rfl dX3_count_37 ?_
    refine sm_callVi (wc := [(qi, .inr (2, [.ref bi, .int ui])), (bi, .inl (cI, 300, .inl fi))]) (wr := [(qs, .inr (3, [.ref qi, .ref qo, .ref qd, .ref qk, .ref qv, .ref qf, .ref qa, .ref gh, .ref hk, .int (nI kc), .int ivl, .int drw])), (qo, .inr (2, [.ref bo, .int uo])), (bo, .inl (cI, 300, .inl fo)), (qd, .inr (2, [.ref bd, .int ud])), (bd, .inl (cI, 400, .inl fD))]) (As := []) (rest := []) ⟨hx, hb, hml, hown, hts⟩ (sc_X2_size l D cI th _ qi bi 300 fi ui ) (cwV 0 hts gX3_count_X2_size rfl rfl rfl (by decide +kernel) ⟨Nat.le_of_ble_eq_true rfl, Nat.le_of_ble_eq_true rfl⟩) hP hD hS hA hK hT [1, 2] [0, 3, 4, 5, 6] rfl rfl rfl rfl (by decide) 0 2 rfl rfl rfl rfl hl.1 rfl (Nat.le_of_ble_eq_true rfl) dX3_count_40 ⟨Nat.zero_le _, Nat.zero_le _⟩ (fun r_40 zt H1 locs ht hvm hw hB hJ hS => ?_)
    obtain ⟨hP1, -, hD1⟩ := hB
    rw [ht] at hP1
    obtain ⟨hP, hD⟩ := hJ _ hP1 hD1
    clear hJ
    generalize H1 = H at hP hS ⊢
    have hP : va_P D vwCl [(qs, .inr (3, [.ref qi, .ref qo, .ref qd, .ref qk, .ref qv, .ref qf, .ref qa, .ref gh, .ref hk, .int (nI kc), .int ivl, .int drw])), (qi, .inr (2, [.ref bi, .int ui])), (bi, .inl (cI, 300, .inl fi)), (qo, .inr (2, [.ref bo, .int uo])), (bo, .inl (cI, 300, .inl fo)), (qd, .inr (2, [.ref bd, .int ud])), (bd, .inl (cI, 400, .inl fD))] H := hP.sub [0, 5, 6, 1, 2, 3, 4] rfl
    have hD : va_D A [(qs, .inr (3, [.ref qi, .ref qo, .ref qd, .ref qk, .ref qv, .ref qf, .ref qa, .ref gh, .ref hk, .int (nI kc), .int ivl, .int drw])), (qi, .inr (2, [.ref bi, .int ui])), (bi, .inl (cI, 300, .inl fi)), (qo, .inr (2, [.ref bo, .int uo])), (bo, .inl (cI, 300, .inl fo)), (qd, .inr (2, [.ref bd, .int ud])), (bd, .inl (cI, 400, .inl fD))] := hD.sub [0, 5, 6, 1, 2, 3, 4] rfl rfl
    rw [hw]
    rw [hQ]
    have hP9 : va_P D vwCl [(qs, .inr (3, [.ref qi, .ref qo, .ref qd, .ref qk, .ref qv, .ref qf, .ref qa, .ref gh, .ref hk, .int (nI kc), .int ivl, .int drw])), (qi, .inr (2, [.ref bi, .int ui])), (bi, .inl (cI, 300, .inl fi)), (qo, .inr (2, [.ref bo, .int uo])), (bo, .inl (cI, 300, .inl fo)), (qd, .inr (2, [.ref bd, .int ud])), (bd, .inl (cI, 400, .inl fD))] H := hP
    have hD9 : va_D A [(qs, .inr (3, [.ref qi, .ref qo, .ref qd, .ref qk, .ref qv, .ref qf, .ref qa, .ref gh, .ref hk, .int (nI kc), .int ivl, .int drw])), (qi, .inr (2, [.ref bi, .int ui])), (bi, .inl (cI, 300, .inl fi)), (qo, .inr (2, [.ref bo, .int uo])), (bo, .inl (cI, 300, .inl fo)), (qd, .inr (2, [.ref bd, .int ud])), (bd, .inl (cI, 400, .inl fD))] := hD
    exact W.iret (v := ui) hx hb hr (fun t ht hW => ⟨⟨ui, (), rfl, (by unfold sm_ct; rw [if_pos hw0]), ⟨by rw [ht]; exact hP9, va_K.moved hW.alike hK, hD9⟩⟩, hS.F ht⟩) hS.2.2 dX3_count_43
  ·
    by_cases hw1 : k = 1
    ·
      refine lv_tableIn (tgt := 44) (off := 43) hx hb dX3_count_1 (by rw [hw1]; decide) (by rw [hw1]; decide) (by rw [hw1]; rfl) (by decide) ?_
      refine lv_aload_n hx hb dX3_count_44 rfl (lv_at hl 0 rfl) ?_
      refine va_get (D := D) (ci := 3) (v := .ref qd) (C := RX3) (T := TX3) (N := 12) hx hb hts hw_X3 hown hK hP 0 rfl rfl 2 (by decide) hf_21 (fun _ h9 => h9) rfl dX3_count_45 ?_
      refine sm_callVi (wc := [(qd, .inr (2, [.ref bd, .int ud])), (bd, .inl (cI, 400, .inl fD))]) (wr := [(qs, .inr (3, [.ref qi, .ref qo, .ref qd, .ref qk, .ref qv, .ref qf, .ref qa, .ref gh, .ref hk, .int (nI kc), .int ivl, .int drw])), (qi, .inr (2, [.ref bi, .int ui])), (bi, .inl (cI, 300, .inl fi)), (qo, .inr (2, [.ref bo, .int uo])), (bo, .inl (cI, 300, .inl fo))]) (As := []) (rest := []) ⟨hx, hb, hml, hown, hts⟩ (sc_X2_size l D cI th _ qd bd 400 fD ud ) (cwV 0 hts gX3_count_X2_size rfl rfl rfl (by decide +kernel) ⟨Nat.le_of_ble_eq_true rfl, Nat.le_of_ble_eq_true rfl⟩) hP hD hS hA hK hT [5, 6] [0, 1, 2, 3, 4] rfl rfl rfl rfl (by decide) 0 2 rfl rfl rfl rfl hl.1 rfl (Nat.le_of_ble_eq_true rfl) dX3_count_48 ⟨Nat.zero_le _, Nat.zero_le _⟩ (fun r_48 zt H1 locs ht hvm hw hB hJ hS => ?_)
      obtain ⟨hP1, -, hD1⟩ := hB
      rw [ht] at hP1
      obtain ⟨hP, hD⟩ := hJ _ hP1 hD1
      clear hJ
      generalize H1 = H at hP hS ⊢
      have hP : va_P D vwCl [(qs, .inr (3, [.ref qi, .ref qo, .ref qd, .ref qk, .ref qv, .ref qf, .ref qa, .ref gh, .ref hk, .int (nI kc), .int ivl, .int drw])), (qi, .inr (2, [.ref bi, .int ui])), (bi, .inl (cI, 300, .inl fi)), (qo, .inr (2, [.ref bo, .int uo])), (bo, .inl (cI, 300, .inl fo)), (qd, .inr (2, [.ref bd, .int ud])), (bd, .inl (cI, 400, .inl fD))] H := hP.sub [0, 1, 2, 3, 4, 5, 6] rfl
      have hD : va_D A [(qs, .inr (3, [.ref qi, .ref qo, .ref qd, .ref qk, .ref qv, .ref qf, .ref qa, .ref gh, .ref hk, .int (nI kc), .int ivl, .int drw])), (qi, .inr (2, [.ref bi, .int ui])), (bi, .inl (cI, 300, .inl fi)), (qo, .inr (2, [.ref bo, .int uo])), (bo, .inl (cI, 300, .inl fo)), (qd, .inr (2, [.ref bd, .int ud])), (bd, .inl (cI, 400, .inl fD))] := hD.sub [0, 1, 2, 3, 4, 5, 6] rfl rfl
      rw [hw]
      rw [hQ]
      have hP9 : va_P D vwCl [(qs, .inr (3, [.ref qi, .ref qo, .ref qd, .ref qk, .ref qv, .ref qf, .ref qa, .ref gh, .ref hk, .int (nI kc), .int ivl, .int drw])), (qi, .inr (2, [.ref bi, .int ui])), (bi, .inl (cI, 300, .inl fi)), (qo, .inr (2, [.ref bo, .int uo])), (bo, .inl (cI, 300, .inl fo)), (qd, .inr (2, [.ref bd, .int ud])), (bd, .inl (cI, 400, .inl fD))] H := hP
      have hD9 : va_D A [(qs, .inr (3, [.ref qi, .ref qo, .ref qd, .ref qk, .ref qv, .ref qf, .ref qa, .ref gh, .ref hk, .int (nI kc), .int ivl, .int drw])), (qi, .inr (2, [.ref bi, .int ui])), (bi, .inl (cI, 300, .inl fi)), (qo, .inr (2, [.ref bo, .int uo])), (bo, .inl (cI, 300, .inl fo)), (qd, .inr (2, [.ref bd, .int ud])), (bd, .inl (cI, 400, .inl fD))] := hD
      exact W.iret (v := ud) hx hb hr (fun t ht hW => ⟨⟨ud, (), rfl, (by unfold sm_ct; rw [if_neg hw0, if_pos hw1]), ⟨by rw [ht]; exact hP9, va_K.moved hW.alike hK, hD9⟩⟩, hS.F ht⟩) hS.2.2 dX3_count_51
    ·
      by_cases hw2 : k = 2
      ·
        refine lv_tableIn (tgt := 52) (off := 51) hx hb dX3_count_1 (by rw [hw2]; decide) (by rw [hw2]; decide) (by rw [hw2]; rfl) (by decide) ?_
        refine lv_aload_n hx hb dX3_count_52 rfl (lv_at hl 0 rfl) ?_
        refine va_get (D := D) (ci := 3) (v := .ref qo) (C := RX3) (T := TX3) (N := 12) hx hb hts hw_X3 hown hK hP 0 rfl rfl 1 (by decide) hf_18 (fun _ h9 => h9) rfl dX3_count_53 ?_
        refine sm_callVi (wc := [(qo, .inr (2, [.ref bo, .int uo])), (bo, .inl (cI, 300, .inl fo))]) (wr := [(qs, .inr (3, [.ref qi, .ref qo, .ref qd, .ref qk, .ref qv, .ref qf, .ref qa, .ref gh, .ref hk, .int (nI kc), .int ivl, .int drw])), (qi, .inr (2, [.ref bi, .int ui])), (bi, .inl (cI, 300, .inl fi)), (qd, .inr (2, [.ref bd, .int ud])), (bd, .inl (cI, 400, .inl fD))]) (As := []) (rest := []) ⟨hx, hb, hml, hown, hts⟩ (sc_X2_size l D cI th _ qo bo 300 fo uo ) (cwV 0 hts gX3_count_X2_size rfl rfl rfl (by decide +kernel) ⟨Nat.le_of_ble_eq_true rfl, Nat.le_of_ble_eq_true rfl⟩) hP hD hS hA hK hT [3, 4] [0, 1, 2, 5, 6] rfl rfl rfl rfl (by decide) 0 2 rfl rfl rfl rfl hl.1 rfl (Nat.le_of_ble_eq_true rfl) dX3_count_56 ⟨Nat.zero_le _, Nat.zero_le _⟩ (fun r_56 zt H1 locs ht hvm hw hB hJ hS => ?_)
        obtain ⟨hP1, -, hD1⟩ := hB
        rw [ht] at hP1
        obtain ⟨hP, hD⟩ := hJ _ hP1 hD1
        clear hJ
        generalize H1 = H at hP hS ⊢
        have hP : va_P D vwCl [(qs, .inr (3, [.ref qi, .ref qo, .ref qd, .ref qk, .ref qv, .ref qf, .ref qa, .ref gh, .ref hk, .int (nI kc), .int ivl, .int drw])), (qi, .inr (2, [.ref bi, .int ui])), (bi, .inl (cI, 300, .inl fi)), (qo, .inr (2, [.ref bo, .int uo])), (bo, .inl (cI, 300, .inl fo)), (qd, .inr (2, [.ref bd, .int ud])), (bd, .inl (cI, 400, .inl fD))] H := hP.sub [0, 1, 2, 5, 6, 3, 4] rfl
        have hD : va_D A [(qs, .inr (3, [.ref qi, .ref qo, .ref qd, .ref qk, .ref qv, .ref qf, .ref qa, .ref gh, .ref hk, .int (nI kc), .int ivl, .int drw])), (qi, .inr (2, [.ref bi, .int ui])), (bi, .inl (cI, 300, .inl fi)), (qo, .inr (2, [.ref bo, .int uo])), (bo, .inl (cI, 300, .inl fo)), (qd, .inr (2, [.ref bd, .int ud])), (bd, .inl (cI, 400, .inl fD))] := hD.sub [0, 1, 2, 5, 6, 3, 4] rfl rfl
        rw [hw]
        rw [hQ]
        have hP9 : va_P D vwCl [(qs, .inr (3, [.ref qi, .ref qo, .ref qd, .ref qk, .ref qv, .ref qf, .ref qa, .ref gh, .ref hk, .int (nI kc), .int ivl, .int drw])), (qi, .inr (2, [.ref bi, .int ui])), (bi, .inl (cI, 300, .inl fi)), (qo, .inr (2, [.ref bo, .int uo])), (bo, .inl (cI, 300, .inl fo)), (qd, .inr (2, [.ref bd, .int ud])), (bd, .inl (cI, 400, .inl fD))] H := hP
        have hD9 : va_D A [(qs, .inr (3, [.ref qi, .ref qo, .ref qd, .ref qk, .ref qv, .ref qf, .ref qa, .ref gh, .ref hk, .int (nI kc), .int ivl, .int drw])), (qi, .inr (2, [.ref bi, .int ui])), (bi, .inl (cI, 300, .inl fi)), (qo, .inr (2, [.ref bo, .int uo])), (bo, .inl (cI, 300, .inl fo)), (qd, .inr (2, [.ref bd, .int ud])), (bd, .inl (cI, 400, .inl fD))] := hD
        exact W.iret (v := uo) hx hb hr (fun t ht hW => ⟨⟨uo, (), rfl, (by unfold sm_ct; rw [if_neg hw0, if_neg hw1, if_pos hw2]), ⟨by rw [ht]; exact hP9, va_K.moved hW.alike hK, hD9⟩⟩, hS.F ht⟩) hS.2.2 dX3_count_59
      ·
        by_cases hw3 : k = 3
        ·
          refine lv_tableIn (tgt := 60) (off := 59) hx hb dX3_count_1 (by rw [hw3]; decide) (by rw [hw3]; decide) (by rw [hw3]; rfl) (by decide) ?_
          refine lv_aload_n hx hb dX3_count_60 rfl (lv_at hl 0 rfl) ?_
          refine va_get (D := D) (ci := 3) (v := .int drw) (C := RX3) (T := TX3) (N := 12) hx hb hts hw_X3 hown hK hP 0 rfl rfl 11 (by decide) hf_57 (fun _ h9 => h9) rfl dX3_count_61 ?_
          rw [hQ]
          have hP9 : va_P D vwCl [(qs, .inr (3, [.ref qi, .ref qo, .ref qd, .ref qk, .ref qv, .ref qf, .ref qa, .ref gh, .ref hk, .int (nI kc), .int ivl, .int drw])), (qi, .inr (2, [.ref bi, .int ui])), (bi, .inl (cI, 300, .inl fi)), (qo, .inr (2, [.ref bo, .int uo])), (bo, .inl (cI, 300, .inl fo)), (qd, .inr (2, [.ref bd, .int ud])), (bd, .inl (cI, 400, .inl fD))] s.heap := hP
          have hD9 : va_D A [(qs, .inr (3, [.ref qi, .ref qo, .ref qd, .ref qk, .ref qv, .ref qf, .ref qa, .ref gh, .ref hk, .int (nI kc), .int ivl, .int drw])), (qi, .inr (2, [.ref bi, .int ui])), (bi, .inl (cI, 300, .inl fi)), (qo, .inr (2, [.ref bo, .int uo])), (bo, .inl (cI, 300, .inl fo)), (qd, .inr (2, [.ref bd, .int ud])), (bd, .inl (cI, 400, .inl fD))] := hD
          exact W.iret (v := drw) hx hb hr (fun t ht hW => ⟨⟨drw, (), rfl, (by unfold sm_ct; rw [if_neg hw0, if_neg hw1, if_neg hw2, if_pos hw3]), ⟨by rw [ht]; exact hP9, va_K.moved hW.alike hK, hD9⟩⟩, hS.F ht⟩) hS.2.2 dX3_count_64
        ·
          by_cases hw4 : k = 4
          ·
            refine lv_tableIn (tgt := 65) (off := 64) hx hb dX3_count_1 (by rw [hw4]; decide) (by rw [hw4]; decide) (by rw [hw4]; rfl) (by decide) ?_
            refine lv_aload_n hx hb dX3_count_65 rfl (lv_at hl 0 rfl) ?_
            refine va_get (D := D) (ci := 3) (v := .int ivl) (C := RX3) (T := TX3) (N := 12) hx hb hts hw_X3 hown hK hP 0 rfl rfl 10 (by decide) hf_54 (fun _ h9 => h9) rfl dX3_count_66 ?_
            rw [hQ]
            have hP9 : va_P D vwCl [(qs, .inr (3, [.ref qi, .ref qo, .ref qd, .ref qk, .ref qv, .ref qf, .ref qa, .ref gh, .ref hk, .int (nI kc), .int ivl, .int drw])), (qi, .inr (2, [.ref bi, .int ui])), (bi, .inl (cI, 300, .inl fi)), (qo, .inr (2, [.ref bo, .int uo])), (bo, .inl (cI, 300, .inl fo)), (qd, .inr (2, [.ref bd, .int ud])), (bd, .inl (cI, 400, .inl fD))] s.heap := hP
            have hD9 : va_D A [(qs, .inr (3, [.ref qi, .ref qo, .ref qd, .ref qk, .ref qv, .ref qf, .ref qa, .ref gh, .ref hk, .int (nI kc), .int ivl, .int drw])), (qi, .inr (2, [.ref bi, .int ui])), (bi, .inl (cI, 300, .inl fi)), (qo, .inr (2, [.ref bo, .int uo])), (bo, .inl (cI, 300, .inl fo)), (qd, .inr (2, [.ref bd, .int ud])), (bd, .inl (cI, 400, .inl fD))] := hD
            exact W.iret (v := ivl) hx hb hr (fun t ht hW => ⟨⟨ivl, (), rfl, (by unfold sm_ct; rw [if_neg hw0, if_neg hw1, if_neg hw2, if_neg hw3, if_pos hw4]), ⟨by rw [ht]; exact hP9, va_K.moved hW.alike hK, hD9⟩⟩, hS.F ht⟩) hS.2.2 dX3_count_69
          ·
            refine lv_tableOut (tgt := 70) hx hb dX3_count_1 (sm_ct5 hw0 hw1 hw2 hw3 hw4) (by decide) ?_
            refine lv_iconst (v := (-1)) hx hb dX3_count_70 (by decide) ?_
            rw [hQ]
            have hP9 : va_P D vwCl [(qs, .inr (3, [.ref qi, .ref qo, .ref qd, .ref qk, .ref qv, .ref qf, .ref qa, .ref gh, .ref hk, .int (nI kc), .int ivl, .int drw])), (qi, .inr (2, [.ref bi, .int ui])), (bi, .inl (cI, 300, .inl fi)), (qo, .inr (2, [.ref bo, .int uo])), (bo, .inl (cI, 300, .inl fo)), (qd, .inr (2, [.ref bd, .int ud])), (bd, .inl (cI, 400, .inl fD))] s.heap := hP
            have hD9 : va_D A [(qs, .inr (3, [.ref qi, .ref qo, .ref qd, .ref qk, .ref qv, .ref qf, .ref qa, .ref gh, .ref hk, .int (nI kc), .int ivl, .int drw])), (qi, .inr (2, [.ref bi, .int ui])), (bi, .inl (cI, 300, .inl fi)), (qo, .inr (2, [.ref bo, .int uo])), (bo, .inl (cI, 300, .inl fo)), (qd, .inr (2, [.ref bd, .int ud])), (bd, .inl (cI, 400, .inl fD))] := hD
            exact W.iret (v := (-1)) hx hb hr (fun t ht hW => ⟨⟨(-1), (), rfl, (by unfold sm_ct; rw [if_neg hw0, if_neg hw1, if_neg hw2, if_neg hw3, if_neg hw4]), ⟨by rw [ht]; exact hP9, va_K.moved hW.alike hK, hD9⟩⟩, hS.F ht⟩) hS.2.2 dX3_count_71

def rm_X3_check_ns : Room := ({ frames := 5, cells := 0, slots := 0, locals := 119 } : Room)
set_option maxHeartbeats 4000000 in
set_option maxRecDepth 100000 in
/-- check, not seeded -/
theorem sc_X3_check_ns (l : Launch) (D : va_G) (cI : ClassId) (th : Option (Nat × Nat)) (sz : Nat) (qs qi bi qo bo qd bd qk bk qv bv qf bf qa ba gh gm gb gw gd hk hh hm bm aw ad hB bB hI bI : Nat) (ivl drw : Int32) (kc : Nat)  (hkc : kc = 0) : Met l yX3_check wsX3_check rm_X3_check_ns (va_Pc [.ref qs] (sm_PW D cI th [(qs, .inr (3, [.ref qi, .ref qo, .ref qd, .ref qk, .ref qv, .ref qf, .ref qa, .ref gh, .ref hk, .int (nI kc), .int ivl, .int drw]))] sz)) (va_Qi (fun (r : Int32) (_ : Unit) => r = 1) (fun _ t => sm_QW D cI (va_A [(qs, .inr (3, [.ref qi, .ref qo, .ref qd, .ref qk, .ref qv, .ref qf, .ref qa, .ref gh, .ref hk, .int (nI kc), .int ivl, .int drw]))] sz) [(qs, .inr (3, [.ref qi, .ref qo, .ref qd, .ref qk, .ref qv, .ref qf, .ref qa, .ref gh, .ref hk, .int (nI kc), .int ivl, .int drw]))] t) (va_A [(qs, .inr (3, [.ref qi, .ref qo, .ref qd, .ref qk, .ref qv, .ref qf, .ref qa, .ref gh, .ref hk, .int (nI kc), .int ivl, .int drw]))] sz)) 0 0 (va_A [(qs, .inr (3, [.ref qi, .ref qo, .ref qd, .ref qk, .ref qv, .ref qf, .ref qa, .ref gh, .ref hk, .int (nI kc), .int ivl, .int drw]))] sz) := by
  refine Met.ofW (cc := cX3_check) (maxL := 1) (ret := (some .int)) (by decide) rfl ?_
  intro p e s m args below meth c s₁ B hml hv
  obtain ⟨rfl, hsz, hP, hK, hD0, hT⟩ := hv
  have hx := B.exec
  have hb := B.bytes
  have hr := B.returns
  have hts := atoms_spec (ws := wsX3_check) B.pre
  have hown : s.vm.findClass RX3 = some m.cls := findClass_of_methodNamed B.named
  have hlocks := B.notSynchronized
  subst hsz
  have hD := hD0.self (sz := s.heap.size)
  generalize hAe : va_A [(qs, .inr (3, [.ref qi, .ref qo, .ref qd, .ref qk, .ref qv, .ref qf, .ref qa, .ref gh, .ref hk, .int (nI kc), .int ivl, .int drw]))] s.heap.size = A at hD hT ⊢
  have hA : ∀ q : Nat, s.heap.size ≤ q → A q := fun q h => by rw [← hAe]; exact Or.inr h
  have hS : va_S A s.heap s.heap [] := va_S.rf
  have hl := lv_entry ([.ref qs]) (n := 1) (Nat.le_of_ble_eq_true rfl)
  rw [lg_entry_eq]
  generalize (lg_sl ([.ref qs]) ++ List.replicate (1 - (lg_sl ([.ref qs])).length) Slot.unset).toArray = ls at hl ⊢
  have hl : lv_has ls 1 [(0, .ref qs)] := hl
  refine sm_name (fun Q hQ => ?_)
  have hf_46 := hts (.fieldLink RX3 46 "SeedMill" "keyedHasher" "LSeedMill$KeyedHasher;") (by decide +kernel)
  have hw_X3 : ∀ w ∈ wsX30, w ∈ wsX3_check := by decide +kernel
  have hf_24 := hts (.fieldLink RX3 24 "SeedMill" "key" "LSeedMill$Row;") (by decide +kernel)
  have hf_30 := hts (.fieldLink RX3 30 "SeedMill" "formerValue" "LSeedMill$Row;") (by decide +kernel)
  have hf_33 := hts (.fieldLink RX3 33 "SeedMill" "answer" "LSeedMill$Row;") (by decide +kernel)
  have hf_27 := hts (.fieldLink RX3 27 "SeedMill" "value" "LSeedMill$Row;") (by decide +kernel)
  refine lv_aload_n hx hb dX3_check_0 rfl (lv_at hl 0 rfl) ?_
  refine sm_callVi (wc := [(qs, .inr (3, [.ref qi, .ref qo, .ref qd, .ref qk, .ref qv, .ref qf, .ref qa, .ref gh, .ref hk, .int (nI kc), .int ivl, .int drw]))]) (wr := []) (As := []) (rest := []) ⟨hx, hb, hml, hown, hts⟩ (sc_X3_isSeeded l D cI th _ qs qi bi qo bo qd bd qk bk qv bv qf bf qa ba gh gm gb gw gd hk hh hm bm aw ad hB bB hI bI (nI kc) ivl drw ) (cwV 0 hts gX3_check_X3_isSeeded rfl rfl rfl (by decide +kernel) ⟨Nat.le_of_ble_eq_true rfl, Nat.le_of_ble_eq_true rfl⟩) hP hD hS hA hK hT [0] [] rfl rfl rfl rfl (by decide) 0 3 rfl rfl rfl rfl hl.1 rfl (Nat.le_of_ble_eq_true rfl) dX3_check_1 ⟨Nat.zero_le _, Nat.zero_le _⟩ (fun r_1 zt H1 locs ht hvm hw hB hJ hS => ?_)
  obtain ⟨hP1, -, hD1⟩ := hB
  rw [ht] at hP1
  obtain ⟨hP, hD⟩ := hJ _ hP1 hD1
  clear hJ
  generalize H1 = H at hP hS ⊢
  have hP : va_P D vwCl [(qs, .inr (3, [.ref qi, .ref qo, .ref qd, .ref qk, .ref qv, .ref qf, .ref qa, .ref gh, .ref hk, .int (nI kc), .int ivl, .int drw]))] H := hP.sub [0] rfl
  have hD : va_D A [(qs, .inr (3, [.ref qi, .ref qo, .ref qd, .ref qk, .ref qv, .ref qf, .ref qa, .ref gh, .ref hk, .int (nI kc), .int ivl, .int drw]))] := hD.sub [0] rfl rfl
  rw [hw]
  refine sm_top (z := 0) (if_neg (by rw [hkc]; decide)) ?_
  refine lv_if_ne (tgt := 9) hx hb dX3_check_4 (by decide) (fun c_4 => ?_) (fun c_4 => ?_)
  ·
    exact absurd rfl c_4
  ·
    refine lv_iconst (v := 1) hx hb dX3_check_7 (by decide) ?_
    rw [hQ]
    have hP9 : va_P D vwCl [(qs, .inr (3, [.ref qi, .ref qo, .ref qd, .ref qk, .ref qv, .ref qf, .ref qa, .ref gh, .ref hk, .int (nI kc), .int ivl, .int drw]))] H := hP
    have hD9 : va_D A [(qs, .inr (3, [.ref qi, .ref qo, .ref qd, .ref qk, .ref qv, .ref qf, .ref qa, .ref gh, .ref hk, .int (nI kc), .int ivl, .int drw]))] := hD
    exact W.iret (v := 1) hx hb hr (fun t ht hW => ⟨⟨1, (), rfl, rfl, ⟨by rw [ht]; exact hP9, va_K.moved hW.alike hK, hD9⟩⟩, hS.F ht⟩) hS.2.2 dX3_check_8

def rm_X3_check_ok : Room := ({ frames := 5, cells := 0, slots := 0, locals := 119 } : Room)
set_option maxHeartbeats 4000000 in
set_option maxRecDepth 100000 in
/-- check -/
theorem sc_X3_check_ok (l : Launch) (D : va_G) (cI : ClassId) (tk tf : Nat) (sz : Nat) (qs qi bi qo bo qd bd qk bk qv bv qf bf qa ba gh gm gb gw gd hk hh hm bm aw ad hB bB hI bI : Nat) (ivl drw : Int32) (kc : Nat) (fk fv ff fa : Nat → Int32) (ua : Int32) (fm : Nat → Int32) (um : Int32) (fw fd fB : Nat → Int32) (uB : Int32) (fI : Nat → Int32) (uI : Int32) (hkc : 0 < kc) (hkc2 : kc < 2 ^ 31) (hfv : fv = sm_nv fk ff) : Met l yX3_check wsX3_check rm_X3_check_ok (va_Pc [.ref qs] (sm_PW D cI (some (tk, tf)) [(qs, .inr (3, [.ref qi, .ref qo, .ref qd, .ref qk, .ref qv, .ref qf, .ref qa, .ref gh, .ref hk, .int (nI kc), .int ivl, .int drw])), (qk, .inr (2, [.ref bk, .int (nI 32)])), (bk, .inl (cI, 32, .inl fk)), (qv, .inr (2, [.ref bv, .int (nI 32)])), (bv, .inl (cI, 32, .inl fv)), (qf, .inr (2, [.ref bf, .int (nI 32)])), (bf, .inl (cI, 32, .inl ff)), (qa, .inr (2, [.ref ba, .int ua])), (ba, .inl (cI, 32, .inl fa)), (hk, .inr (1, [.ref hh, .ref hB, .ref hI])), (hh, .inr (0, [.ref hm, .ref aw, .ref ad])), (hm, .inr (2, [.ref bm, .int um])), (bm, .inl (cI, 448, .inl fm)), (aw, .inl (cI, 64, .inl fw)), (ad, .inl (cI, 8, .inl fd)), (hB, .inr (2, [.ref bB, .int uB])), (bB, .inl (cI, 64, .inl fB)), (hI, .inr (2, [.ref bI, .int uI])), (bI, .inl (cI, 32, .inl fI))] sz)) (va_Qi (fun (r : Int32) (_ : Unit) => r = 1) (fun _ t => ∃ (fm2 : Nat → Int32) (um2 : Int32) (fw2 : Nat → Int32) (fd2 : Nat → Int32) (fB2 : Nat → Int32) (uB2 : Int32) (fI2 : Nat → Int32) (uI2 : Int32), sm_QW D cI (va_A [(qs, .inr (3, [.ref qi, .ref qo, .ref qd, .ref qk, .ref qv, .ref qf, .ref qa, .ref gh, .ref hk, .int (nI kc), .int ivl, .int drw])), (qk, .inr (2, [.ref bk, .int (nI 32)])), (bk, .inl (cI, 32, .inl fk)), (qv, .inr (2, [.ref bv, .int (nI 32)])), (bv, .inl (cI, 32, .inl fv)), (qf, .inr (2, [.ref bf, .int (nI 32)])), (bf, .inl (cI, 32, .inl ff)), (qa, .inr (2, [.ref ba, .int ua])), (ba, .inl (cI, 32, .inl fa)), (hk, .inr (1, [.ref hh, .ref hB, .ref hI])), (hh, .inr (0, [.ref hm, .ref aw, .ref ad])), (hm, .inr (2, [.ref bm, .int um])), (bm, .inl (cI, 448, .inl fm)), (aw, .inl (cI, 64, .inl fw)), (ad, .inl (cI, 8, .inl fd)), (hB, .inr (2, [.ref bB, .int uB])), (bB, .inl (cI, 64, .inl fB)), (hI, .inr (2, [.ref bI, .int uI])), (bI, .inl (cI, 32, .inl fI))] sz) [(qs, .inr (3, [.ref qi, .ref qo, .ref qd, .ref qk, .ref qv, .ref qf, .ref qa, .ref gh, .ref hk, .int (nI kc), .int ivl, .int drw])), (qk, .inr (2, [.ref bk, .int (nI 32)])), (bk, .inl (cI, 32, .inl fk)), (qv, .inr (2, [.ref bv, .int (nI 32)])), (bv, .inl (cI, 32, .inl fv)), (qf, .inr (2, [.ref bf, .int (nI 32)])), (bf, .inl (cI, 32, .inl ff)), (qa, .inr (2, [.ref ba, .int (nI 32)])), (ba, .inl (cI, 32, .inl (sm_nv fk ff))), (hk, .inr (1, [.ref hh, .ref hB, .ref hI])), (hh, .inr (0, [.ref hm, .ref aw, .ref ad])), (hm, .inr (2, [.ref bm, .int um2])), (bm, .inl (cI, 448, .inl fm2)), (aw, .inl (cI, 64, .inl fw2)), (ad, .inl (cI, 8, .inl fd2)), (hB, .inr (2, [.ref bB, .int uB2])), (bB, .inl (cI, 64, .inl fB2)), (hI, .inr (2, [.ref bI, .int uI2])), (bI, .inl (cI, 32, .inl fI2))] t) (va_A [(qs, .inr (3, [.ref qi, .ref qo, .ref qd, .ref qk, .ref qv, .ref qf, .ref qa, .ref gh, .ref hk, .int (nI kc), .int ivl, .int drw])), (qk, .inr (2, [.ref bk, .int (nI 32)])), (bk, .inl (cI, 32, .inl fk)), (qv, .inr (2, [.ref bv, .int (nI 32)])), (bv, .inl (cI, 32, .inl fv)), (qf, .inr (2, [.ref bf, .int (nI 32)])), (bf, .inl (cI, 32, .inl ff)), (qa, .inr (2, [.ref ba, .int ua])), (ba, .inl (cI, 32, .inl fa)), (hk, .inr (1, [.ref hh, .ref hB, .ref hI])), (hh, .inr (0, [.ref hm, .ref aw, .ref ad])), (hm, .inr (2, [.ref bm, .int um])), (bm, .inl (cI, 448, .inl fm)), (aw, .inl (cI, 64, .inl fw)), (ad, .inl (cI, 8, .inl fd)), (hB, .inr (2, [.ref bB, .int uB])), (bB, .inl (cI, 64, .inl fB)), (hI, .inr (2, [.ref bI, .int uI])), (bI, .inl (cI, 32, .inl fI))] sz)) 0 0 (va_A [(qs, .inr (3, [.ref qi, .ref qo, .ref qd, .ref qk, .ref qv, .ref qf, .ref qa, .ref gh, .ref hk, .int (nI kc), .int ivl, .int drw])), (qk, .inr (2, [.ref bk, .int (nI 32)])), (bk, .inl (cI, 32, .inl fk)), (qv, .inr (2, [.ref bv, .int (nI 32)])), (bv, .inl (cI, 32, .inl fv)), (qf, .inr (2, [.ref bf, .int (nI 32)])), (bf, .inl (cI, 32, .inl ff)), (qa, .inr (2, [.ref ba, .int ua])), (ba, .inl (cI, 32, .inl fa)), (hk, .inr (1, [.ref hh, .ref hB, .ref hI])), (hh, .inr (0, [.ref hm, .ref aw, .ref ad])), (hm, .inr (2, [.ref bm, .int um])), (bm, .inl (cI, 448, .inl fm)), (aw, .inl (cI, 64, .inl fw)), (ad, .inl (cI, 8, .inl fd)), (hB, .inr (2, [.ref bB, .int uB])), (bB, .inl (cI, 64, .inl fB)), (hI, .inr (2, [.ref bI, .int uI])), (bI, .inl (cI, 32, .inl fI))] sz) := by
  refine Met.ofW (cc := cX3_check) (maxL := 1) (ret := (some .int)) (by decide) rfl ?_
  intro p e s m args below meth c s₁ B hml hv
  obtain ⟨rfl, hsz, hP, hK, hD0, hT⟩ := hv
  have hx := B.exec
  have hb := B.bytes
  have hr := B.returns
  have hts := atoms_spec (ws := wsX3_check) B.pre
  have hown : s.vm.findClass RX3 = some m.cls := findClass_of_methodNamed B.named
  have hlocks := B.notSynchronized
  subst hsz
  have hD := hD0.self (sz := s.heap.size)
  generalize hAe : va_A [(qs, .inr (3, [.ref qi, .ref qo, .ref qd, .ref qk, .ref qv, .ref qf, .ref qa, .ref gh, .ref hk, .int (nI kc), .int ivl, .int drw])), (qk, .inr (2, [.ref bk, .int (nI 32)])), (bk, .inl (cI, 32, .inl fk)), (qv, .inr (2, [.ref bv, .int (nI 32)])), (bv, .inl (cI, 32, .inl fv)), (qf, .inr (2, [.ref bf, .int (nI 32)])), (bf, .inl (cI, 32, .inl ff)), (qa, .inr (2, [.ref ba, .int ua])), (ba, .inl (cI, 32, .inl fa)), (hk, .inr (1, [.ref hh, .ref hB, .ref hI])), (hh, .inr (0, [.ref hm, .ref aw, .ref ad])), (hm, .inr (2, [.ref bm, .int um])), (bm, .inl (cI, 448, .inl fm)), (aw, .inl (cI, 64, .inl fw)), (ad, .inl (cI, 8, .inl fd)), (hB, .inr (2, [.ref bB, .int uB])), (bB, .inl (cI, 64, .inl fB)), (hI, .inr (2, [.ref bI, .int uI])), (bI, .inl (cI, 32, .inl fI))] s.heap.size = A at hD hT ⊢
  have hA : ∀ q : Nat, s.heap.size ≤ q → A q := fun q h => by rw [← hAe]; exact Or.inr h
  have hS : va_S A s.heap s.heap [] := va_S.rf
  have hl := lv_entry ([.ref qs]) (n := 1) (Nat.le_of_ble_eq_true rfl)
  rw [lg_entry_eq]
  generalize (lg_sl ([.ref qs]) ++ List.replicate (1 - (lg_sl ([.ref qs])).length) Slot.unset).toArray = ls at hl ⊢
  have hl : lv_has ls 1 [(0, .ref qs)] := hl
  refine sm_name (fun Q hQ => ?_)
  have hf_46 := hts (.fieldLink RX3 46 "SeedMill" "keyedHasher" "LSeedMill$KeyedHasher;") (by decide +kernel)
  have hw_X3 : ∀ w ∈ wsX30, w ∈ wsX3_check := by decide +kernel
  have hf_24 := hts (.fieldLink RX3 24 "SeedMill" "key" "LSeedMill$Row;") (by decide +kernel)
  have hf_30 := hts (.fieldLink RX3 30 "SeedMill" "formerValue" "LSeedMill$Row;") (by decide +kernel)
  have hf_33 := hts (.fieldLink RX3 33 "SeedMill" "answer" "LSeedMill$Row;") (by decide +kernel)
  have hf_27 := hts (.fieldLink RX3 27 "SeedMill" "value" "LSeedMill$Row;") (by decide +kernel)
  refine lv_aload_n hx hb dX3_check_0 rfl (lv_at hl 0 rfl) ?_
  refine sm_callVi (wc := [(qs, .inr (3, [.ref qi, .ref qo, .ref qd, .ref qk, .ref qv, .ref qf, .ref qa, .ref gh, .ref hk, .int (nI kc), .int ivl, .int drw]))]) (wr := [(qk, .inr (2, [.ref bk, .int (nI 32)])), (bk, .inl (cI, 32, .inl fk)), (qv, .inr (2, [.ref bv, .int (nI 32)])), (bv, .inl (cI, 32, .inl fv)), (qf, .inr (2, [.ref bf, .int (nI 32)])), (bf, .inl (cI, 32, .inl ff)), (qa, .inr (2, [.ref ba, .int ua])), (ba, .inl (cI, 32, .inl fa)), (hk, .inr (1, [.ref hh, .ref hB, .ref hI])), (hh, .inr (0, [.ref hm, .ref aw, .ref ad])), (hm, .inr (2, [.ref bm, .int um])), (bm, .inl (cI, 448, .inl fm)), (aw, .inl (cI, 64, .inl fw)), (ad, .inl (cI, 8, .inl fd)), (hB, .inr (2, [.ref bB, .int uB])), (bB, .inl (cI, 64, .inl fB)), (hI, .inr (2, [.ref bI, .int uI])), (bI, .inl (cI, 32, .inl fI))]) (As := []) (rest := []) ⟨hx, hb, hml, hown, hts⟩ (sc_X3_isSeeded l D cI (some (tk, tf)) _ qs qi bi qo bo qd bd qk bk qv bv qf bf qa ba gh gm gb gw gd hk hh hm bm aw ad hB bB hI bI (nI kc) ivl drw ) (cwV 0 hts gX3_check_X3_isSeeded rfl rfl rfl (by decide +kernel) ⟨Nat.le_of_ble_eq_true rfl, Nat.le_of_ble_eq_true rfl⟩) hP hD hS hA hK hT [0] [1, 2, 3, 4, 5, 6, 7, 8, 9, 10, 11, 12, 13, 14, 15, 16, 17, 18] rfl rfl rfl rfl (by decide) 0 3 rfl rfl rfl rfl hl.1 rfl (Nat.le_of_ble_eq_true rfl) dX3_check_1 ⟨Nat.zero_le _, Nat.zero_le _⟩ (fun r_1 zt H1 locs ht hvm hw hB hJ hS => ?_)
  obtain ⟨hP1, -, hD1⟩ := hB
  rw [ht] at hP1
  obtain ⟨hP, hD⟩ := hJ _ hP1 hD1
  clear hJ
  generalize H1 = H at hP hS ⊢
  have hP : va_P D vwCl [(qs, .inr (3, [.ref qi, .ref qo, .ref qd, .ref qk, .ref qv, .ref qf, .ref qa, .ref gh, .ref hk, .int (nI kc), .int ivl, .int drw])), (qk, .inr (2, [.ref bk, .int (nI 32)])), (bk, .inl (cI, 32, .inl fk)), (qv, .inr (2, [.ref bv, .int (nI 32)])), (bv, .inl (cI, 32, .inl fv)), (qf, .inr (2, [.ref bf, .int (nI 32)])), (bf, .inl (cI, 32, .inl ff)), (qa, .inr (2, [.ref ba, .int ua])), (ba, .inl (cI, 32, .inl fa)), (hk, .inr (1, [.ref hh, .ref hB, .ref hI])), (hh, .inr (0, [.ref hm, .ref aw, .ref ad])), (hm, .inr (2, [.ref bm, .int um])), (bm, .inl (cI, 448, .inl fm)), (aw, .inl (cI, 64, .inl fw)), (ad, .inl (cI, 8, .inl fd)), (hB, .inr (2, [.ref bB, .int uB])), (bB, .inl (cI, 64, .inl fB)), (hI, .inr (2, [.ref bI, .int uI])), (bI, .inl (cI, 32, .inl fI))] H := hP.sub [18, 0, 1, 2, 3, 4, 5, 6, 7, 8, 9, 10, 11, 12, 13, 14, 15, 16, 17] rfl
  have hD : va_D A [(qs, .inr (3, [.ref qi, .ref qo, .ref qd, .ref qk, .ref qv, .ref qf, .ref qa, .ref gh, .ref hk, .int (nI kc), .int ivl, .int drw])), (qk, .inr (2, [.ref bk, .int (nI 32)])), (bk, .inl (cI, 32, .inl fk)), (qv, .inr (2, [.ref bv, .int (nI 32)])), (bv, .inl (cI, 32, .inl fv)), (qf, .inr (2, [.ref bf, .int (nI 32)])), (bf, .inl (cI, 32, .inl ff)), (qa, .inr (2, [.ref ba, .int ua])), (ba, .inl (cI, 32, .inl fa)), (hk, .inr (1, [.ref hh, .ref hB, .ref hI])), (hh, .inr (0, [.ref hm, .ref aw, .ref ad])), (hm, .inr (2, [.ref bm, .int um])), (bm, .inl (cI, 448, .inl fm)), (aw, .inl (cI, 64, .inl fw)), (ad, .inl (cI, 8, .inl fd)), (hB, .inr (2, [.ref bB, .int uB])), (bB, .inl (cI, 64, .inl fB)), (hI, .inr (2, [.ref bI, .int uI])), (bI, .inl (cI, 32, .inl fI))] := hD.sub [18, 0, 1, 2, 3, 4, 5, 6, 7, 8, 9, 10, 11, 12, 13, 14, 15, 16, 17] rfl rfl
  rw [hw]
  refine sm_top (z := 1) (if_pos (nI_lt (a := 0) hkc (by omega))) ?_
  refine lv_if_ne (tgt := 9) hx hb dX3_check_4 (by decide) (fun c_4 => ?_) (fun c_4 => ?_)
  ·
    refine lv_aload_n hx hb dX3_check_9 rfl (lv_at hl 0 rfl) ?_
    refine va_get (D := D) (ci := 3) (v := .ref hk) (C := RX3) (T := TX3) (N := 12) hx hb hts hw_X3 hown hK hP 0 rfl rfl 8 (by decide) hf_46 (fun _ h9 => h9) rfl dX3_check_10 ?_
    refine lv_aload_n hx hb dX3_check_13 rfl (lv_at hl 0 rfl) ?_
    refine va_get (D := D) (ci := 3) (v := .ref qk) (C := RX3) (T := TX3) (N := 12) hx hb hts hw_X3 hown hK hP 0 rfl rfl 3 (by decide) hf_24 (fun _ h9 => h9) rfl dX3_check_14 ?_
    refine sm_callVv (wc := [(hk, .inr (1, [.ref hh, .ref hB, .ref hI])), (hh, .inr (0, [.ref hm, .ref aw, .ref ad])), (hm, .inr (2, [.ref bm, .int um])), (bm, .inl (cI, 448, .inl fm)), (aw, .inl (cI, 64, .inl fw)), (ad, .inl (cI, 8, .inl fd)), (hB, .inr (2, [.ref bB, .int uB])), (bB, .inl (cI, 64, .inl fB)), (qk, .inr (2, [.ref bk, .int (nI 32)])), (bk, .inl (cI, 32, .inl fk))]) (wr := [(qs, .inr (3, [.ref qi, .ref qo, .ref qd, .ref qk, .ref qv, .ref qf, .ref qa, .ref gh, .ref hk, .int (nI kc), .int ivl, .int drw])), (qv, .inr (2, [.ref bv, .int (nI 32)])), (bv, .inl (cI, 32, .inl fv)), (qf, .inr (2, [.ref bf, .int (nI 32)])), (bf, .inl (cI, 32, .inl ff)), (qa, .inr (2, [.ref ba, .int ua])), (ba, .inl (cI, 32, .inl fa)), (hI, .inr (2, [.ref bI, .int uI])), (bI, .inl (cI, 32, .inl fI))]) (As := [.ref qk]) (rest := []) ⟨hx, hb, hml, hown, hts⟩ (sc_X1_begin l D cI tk tf _ hk hh hm bm aw ad hB bB hI bI qk bk 32 32 fm fw fd fB fk um uB (by decide) (by decide) (by decide)) (cwV 1 hts gX3_check_X1_begin rfl rfl rfl (by decide +kernel) ⟨Nat.le_of_ble_eq_true rfl, Nat.le_of_ble_eq_true rfl⟩) hP hD hS hA hK hT [9, 10, 11, 12, 13, 14, 15, 16, 1, 2] [0, 3, 4, 5, 6, 7, 8, 17, 18] rfl rfl rfl rfl (by decide) 0 1 rfl rfl rfl rfl hl.1 rfl (Nat.le_of_ble_eq_true rfl) dX3_check_17 ⟨Nat.zero_le _, Nat.zero_le _⟩ (fun zt H1 locs ht hvm hB hJ hS => ?_)
    obtain ⟨fm3, fw3, fd3, hP1, -, hD1⟩ := hB
    rw [ht] at hP1
    obtain ⟨hP, hD⟩ := hJ _ hP1 hD1
    clear hJ
    generalize H1 = H at hP hS ⊢
    have hP : va_P D vwCl [(qs, .inr (3, [.ref qi, .ref qo, .ref qd, .ref qk, .ref qv, .ref qf, .ref qa, .ref gh, .ref hk, .int (nI kc), .int ivl, .int drw])), (qk, .inr (2, [.ref bk, .int (nI 32)])), (bk, .inl (cI, 32, .inl fk)), (qv, .inr (2, [.ref bv, .int (nI 32)])), (bv, .inl (cI, 32, .inl fv)), (qf, .inr (2, [.ref bf, .int (nI 32)])), (bf, .inl (cI, 32, .inl ff)), (qa, .inr (2, [.ref ba, .int ua])), (ba, .inl (cI, 32, .inl fa)), (hk, .inr (1, [.ref hh, .ref hB, .ref hI])), (hh, .inr (0, [.ref hm, .ref aw, .ref ad])), (hm, .inr (2, [.ref bm, .int (nI (0 + 64))])), (bm, .inl (cI, 448, .inl (sm_ap fm3 0 (fun j => sm_kb fk 32 j ^^^ 54) 64))), (aw, .inl (cI, 64, .inl fw3)), (ad, .inl (cI, 8, .inl fd3)), (hB, .inr (2, [.ref bB, .int (nI 64)])), (bB, .inl (cI, 64, .inl (sm_kb fk 32))), (hI, .inr (2, [.ref bI, .int uI])), (bI, .inl (cI, 32, .inl fI))] H := hP.sub [0, 17, 18, 1, 2, 3, 4, 5, 6, 9, 10, 11, 12, 13, 14, 15, 16, 7, 8] rfl
    have hD : va_D A [(qs, .inr (3, [.ref qi, .ref qo, .ref qd, .ref qk, .ref qv, .ref qf, .ref qa, .ref gh, .ref hk, .int (nI kc), .int ivl, .int drw])), (qk, .inr (2, [.ref bk, .int (nI 32)])), (bk, .inl (cI, 32, .inl fk)), (qv, .inr (2, [.ref bv, .int (nI 32)])), (bv, .inl (cI, 32, .inl fv)), (qf, .inr (2, [.ref bf, .int (nI 32)])), (bf, .inl (cI, 32, .inl ff)), (qa, .inr (2, [.ref ba, .int ua])), (ba, .inl (cI, 32, .inl fa)), (hk, .inr (1, [.ref hh, .ref hB, .ref hI])), (hh, .inr (0, [.ref hm, .ref aw, .ref ad])), (hm, .inr (2, [.ref bm, .int (nI (0 + 64))])), (bm, .inl (cI, 448, .inl (sm_ap fm3 0 (fun j => sm_kb fk 32 j ^^^ 54) 64))), (aw, .inl (cI, 64, .inl fw3)), (ad, .inl (cI, 8, .inl fd3)), (hB, .inr (2, [.ref bB, .int (nI 64)])), (bB, .inl (cI, 64, .inl (sm_kb fk 32))), (hI, .inr (2, [.ref bI, .int uI])), (bI, .inl (cI, 32, .inl fI))] := hD.sub [0, 17, 18, 1, 2, 3, 4, 5, 6, 9, 10, 11, 12, 13, 14, 15, 16, 7, 8] rfl rfl
    refine lv_aload_n hx hb dX3_check_20 rfl (lv_at hl 0 rfl) ?_
    refine va_get (D := D) (ci := 3) (v := .ref hk) (C := RX3) (T := TX3) (N := 12) hx hb hts hw_X3 hown hK hP 0 rfl rfl 8 (by decide) hf_46 (fun _ h9 => h9) rfl dX3_check_21 ?_
    refine lv_aload_n hx hb dX3_check_24 rfl (lv_at hl 0 rfl) ?_
    refine va_get (D := D) (ci := 3) (v := .ref qf) (C := RX3) (T := TX3) (N := 12) hx hb hts hw_X3 hown hK hP 0 rfl rfl 5 (by decide) hf_30 (fun _ h9 => h9) rfl dX3_check_25 ?_
    refine sm_callVv (wc := [(hk, .inr (1, [.ref hh, .ref hB, .ref hI])), (hh, .inr (0, [.ref hm, .ref aw, .ref ad])), (hm, .inr (2, [.ref bm, .int (nI (0 + 64))])), (bm, .inl (cI, 448, .inl (sm_ap fm3 0 (fun j => sm_kb fk 32 j ^^^ 54) 64))), (qf, .inr (2, [.ref bf, .int (nI 32)])), (bf, .inl (cI, 32, .inl ff))]) (wr := [(qs, .inr (3, [.ref qi, .ref qo, .ref qd, .ref qk, .ref qv, .ref qf, .ref qa, .ref gh, .ref hk, .int (nI kc), .int ivl, .int drw])), (qk, .inr (2, [.ref bk, .int (nI 32)])), (bk, .inl (cI, 32, .inl fk)), (qv, .inr (2, [.ref bv, .int (nI 32)])), (bv, .inl (cI, 32, .inl fv)), (qa, .inr (2, [.ref ba, .int ua])), (ba, .inl (cI, 32, .inl fa)), (aw, .inl (cI, 64, .inl fw3)), (ad, .inl (cI, 8, .inl fd3)), (hB, .inr (2, [.ref bB, .int (nI 64)])), (bB, .inl (cI, 64, .inl (sm_kb fk 32))), (hI, .inr (2, [.ref bI, .int uI])), (bI, .inl (cI, 32, .inl fI))]) (As := [.ref qf]) (rest := []) ⟨hx, hb, hml, hown, hts⟩ (sc_X1_add l D cI (some (tk, tf)) _ hk hh hm bm aw ad hB bB hI bI (0 + 64) qf bf 32 32 (sm_ap fm3 0 (fun j => sm_kb fk 32 j ^^^ 54) 64) ff (by decide) (by decide) (by decide)) (cwV 1 hts gX3_check_X1_add rfl rfl rfl (by decide +kernel) ⟨Nat.le_of_ble_eq_true rfl, Nat.le_of_ble_eq_true rfl⟩) hP hD hS hA hK hT [9, 10, 11, 12, 5, 6] [0, 1, 2, 3, 4, 7, 8, 13, 14, 15, 16, 17, 18] rfl rfl rfl rfl (by decide) 0 1 rfl rfl rfl rfl hl.1 rfl (Nat.le_of_ble_eq_true rfl) dX3_check_28 ⟨Nat.zero_le _, Nat.zero_le _⟩ (fun zt H1 locs ht hvm hB hJ hS => ?_)
    obtain ⟨hP1, -, hD1⟩ := hB
    rw [ht] at hP1
    obtain ⟨hP, hD⟩ := hJ _ hP1 hD1
    clear hJ
    generalize H1 = H at hP hS ⊢
    have hP : va_P D vwCl [(qs, .inr (3, [.ref qi, .ref qo, .ref qd, .ref qk, .ref qv, .ref qf, .ref qa, .ref gh, .ref hk, .int (nI kc), .int ivl, .int drw])), (qk, .inr (2, [.ref bk, .int (nI 32)])), (bk, .inl (cI, 32, .inl fk)), (qv, .inr (2, [.ref bv, .int (nI 32)])), (bv, .inl (cI, 32, .inl fv)), (qf, .inr (2, [.ref bf, .int (nI 32)])), (bf, .inl (cI, 32, .inl ff)), (qa, .inr (2, [.ref ba, .int ua])), (ba, .inl (cI, 32, .inl fa)), (hk, .inr (1, [.ref hh, .ref hB, .ref hI])), (hh, .inr (0, [.ref hm, .ref aw, .ref ad])), (hm, .inr (2, [.ref bm, .int (nI (0 + 64 + 32))])), (bm, .inl (cI, 448, .inl (sm_ap (sm_ap fm3 0 (fun j => sm_kb fk 32 j ^^^ 54) 64) (0 + 64) ff 32))), (aw, .inl (cI, 64, .inl fw3)), (ad, .inl (cI, 8, .inl fd3)), (hB, .inr (2, [.ref bB, .int (nI 64)])), (bB, .inl (cI, 64, .inl (sm_kb fk 32))), (hI, .inr (2, [.ref bI, .int uI])), (bI, .inl (cI, 32, .inl fI))] H := hP.sub [0, 1, 2, 3, 4, 17, 18, 5, 6, 13, 14, 15, 16, 7, 8, 9, 10, 11, 12] rfl
    have hD : va_D A [(qs, .inr (3, [.ref qi, .ref qo, .ref qd, .ref qk, .ref qv, .ref qf, .ref qa, .ref gh, .ref hk, .int (nI kc), .int ivl, .int drw])), (qk, .inr (2, [.ref bk, .int (nI 32)])), (bk, .inl (cI, 32, .inl fk)), (qv, .inr (2, [.ref bv, .int (nI 32)])), (bv, .inl (cI, 32, .inl fv)), (qf, .inr (2, [.ref bf, .int (nI 32)])), (bf, .inl (cI, 32, .inl ff)), (qa, .inr (2, [.ref ba, .int ua])), (ba, .inl (cI, 32, .inl fa)), (hk, .inr (1, [.ref hh, .ref hB, .ref hI])), (hh, .inr (0, [.ref hm, .ref aw, .ref ad])), (hm, .inr (2, [.ref bm, .int (nI (0 + 64 + 32))])), (bm, .inl (cI, 448, .inl (sm_ap (sm_ap fm3 0 (fun j => sm_kb fk 32 j ^^^ 54) 64) (0 + 64) ff 32))), (aw, .inl (cI, 64, .inl fw3)), (ad, .inl (cI, 8, .inl fd3)), (hB, .inr (2, [.ref bB, .int (nI 64)])), (bB, .inl (cI, 64, .inl (sm_kb fk 32))), (hI, .inr (2, [.ref bI, .int uI])), (bI, .inl (cI, 32, .inl fI))] := hD.sub [0, 1, 2, 3, 4, 17, 18, 5, 6, 13, 14, 15, 16, 7, 8, 9, 10, 11, 12] rfl rfl
    refine lv_aload_n hx hb dX3_check_31 rfl (lv_at hl 0 rfl) ?_
    refine va_get (D := D) (ci := 3) (v := .ref hk) (C := RX3) (T := TX3) (N := 12) hx hb hts hw_X3 hown hK hP 0 rfl rfl 8 (by decide) hf_46 (fun _ h9 => h9) rfl dX3_check_32 ?_
    refine lv_aload_n hx hb dX3_check_35 rfl (lv_at hl 0 rfl) ?_
    refine va_get (D := D) (ci := 3) (v := .ref qa) (C := RX3) (T := TX3) (N := 12) hx hb hts hw_X3 hown hK hP 0 rfl rfl 6 (by decide) hf_33 (fun _ h9 => h9) rfl dX3_check_36 ?_
    refine sm_callVv (wc := [(hk, .inr (1, [.ref hh, .ref hB, .ref hI])), (hh, .inr (0, [.ref hm, .ref aw, .ref ad])), (hm, .inr (2, [.ref bm, .int (nI (0 + 64 + 32))])), (bm, .inl (cI, 448, .inl (sm_ap (sm_ap fm3 0 (fun j => sm_kb fk 32 j ^^^ 54) 64) (0 + 64) ff 32))), (aw, .inl (cI, 64, .inl fw3)), (ad, .inl (cI, 8, .inl fd3)), (hB, .inr (2, [.ref bB, .int (nI 64)])), (bB, .inl (cI, 64, .inl (sm_kb fk 32))), (hI, .inr (2, [.ref bI, .int uI])), (bI, .inl (cI, 32, .inl fI)), (qa, .inr (2, [.ref ba, .int ua])), (ba, .inl (cI, 32, .inl fa))]) (wr := [(qs, .inr (3, [.ref qi, .ref qo, .ref qd, .ref qk, .ref qv, .ref qf, .ref qa, .ref gh, .ref hk, .int (nI kc), .int ivl, .int drw])), (qk, .inr (2, [.ref bk, .int (nI 32)])), (bk, .inl (cI, 32, .inl fk)), (qv, .inr (2, [.ref bv, .int (nI 32)])), (bv, .inl (cI, 32, .inl fv)), (qf, .inr (2, [.ref bf, .int (nI 32)])), (bf, .inl (cI, 32, .inl ff))]) (As := [.ref qa]) (rest := []) ⟨hx, hb, hml, hown, hts⟩ (sc_X1_end l D cI tk tf _ hk hh hm bm aw ad hB bB hI bI qa ba 32 (0 + 64 + 32) (sm_ap (sm_ap fm3 0 (fun j => sm_kb fk 32 j ^^^ 54) 64) (0 + 64) ff 32) fw3 fd3 (sm_kb fk 32) fI fa uI ua (by decide) (by decide) (by decide)) (cwV 1 hts gX3_check_X1_end rfl rfl rfl (by decide +kernel) ⟨Nat.le_of_ble_eq_true rfl, Nat.le_of_ble_eq_true rfl⟩) hP hD hS hA hK hT [9, 10, 11, 12, 13, 14, 15, 16, 17, 18, 7, 8] [0, 1, 2, 3, 4, 5, 6] rfl rfl rfl rfl (by decide) 0 1 rfl rfl rfl rfl hl.1 rfl (Nat.le_of_ble_eq_true rfl) dX3_check_39 ⟨Nat.zero_le _, Nat.zero_le _⟩ (fun zt H1 locs ht hvm hB hJ hS => ?_)
    obtain ⟨fm4, um4, fw4, fd4, fI4, hP1, -, hD1⟩ := hB
    rw [ht] at hP1
    obtain ⟨hP, hD⟩ := hJ _ hP1 hD1
    clear hJ
    generalize H1 = H at hP hS ⊢
    have hP : va_P D vwCl [(qs, .inr (3, [.ref qi, .ref qo, .ref qd, .ref qk, .ref qv, .ref qf, .ref qa, .ref gh, .ref hk, .int (nI kc), .int ivl, .int drw])), (qk, .inr (2, [.ref bk, .int (nI 32)])), (bk, .inl (cI, 32, .inl fk)), (qv, .inr (2, [.ref bv, .int (nI 32)])), (bv, .inl (cI, 32, .inl fv)), (qf, .inr (2, [.ref bf, .int (nI 32)])), (bf, .inl (cI, 32, .inl ff)), (qa, .inr (2, [.ref ba, .int (nI 32)])), (ba, .inl (cI, 32, .inl (sm_ap fa 0 (sm_out (sm_kb fk 32) (sm_sha (sm_ap (sm_ap fm3 0 (fun j => sm_kb fk 32 j ^^^ 54) 64) (0 + 64) ff 32) (0 + 64 + 32))) 32))), (hk, .inr (1, [.ref hh, .ref hB, .ref hI])), (hh, .inr (0, [.ref hm, .ref aw, .ref ad])), (hm, .inr (2, [.ref bm, .int um4])), (bm, .inl (cI, 448, .inl fm4)), (aw, .inl (cI, 64, .inl fw4)), (ad, .inl (cI, 8, .inl fd4)), (hB, .inr (2, [.ref bB, .int (nI 64)])), (bB, .inl (cI, 64, .inl (sm_kb fk 32))), (hI, .inr (2, [.ref bI, .int (nI 32)])), (bI, .inl (cI, 32, .inl fI4))] H := hP.sub [0, 1, 2, 3, 4, 5, 6, 17, 18, 7, 8, 9, 10, 11, 12, 13, 14, 15, 16] rfl
    have hD : va_D A [(qs, .inr (3, [.ref qi, .ref qo, .ref qd, .ref qk, .ref qv, .ref qf, .ref qa, .ref gh, .ref hk, .int (nI kc), .int ivl, .int drw])), (qk, .inr (2, [.ref bk, .int (nI 32)])), (bk, .inl (cI, 32, .inl fk)), (qv, .inr (2, [.ref bv, .int (nI 32)])), (bv, .inl (cI, 32, .inl fv)), (qf, .inr (2, [.ref bf, .int (nI 32)])), (bf, .inl (cI, 32, .inl ff)), (qa, .inr (2, [.ref ba, .int (nI 32)])), (ba, .inl (cI, 32, .inl (sm_ap fa 0 (sm_out (sm_kb fk 32) (sm_sha (sm_ap (sm_ap fm3 0 (fun j => sm_kb fk 32 j ^^^ 54) 64) (0 + 64) ff 32) (0 + 64 + 32))) 32))), (hk, .inr (1, [.ref hh, .ref hB, .ref hI])), (hh, .inr (0, [.ref hm, .ref aw, .ref ad])), (hm, .inr (2, [.ref bm, .int um4])), (bm, .inl (cI, 448, .inl fm4)), (aw, .inl (cI, 64, .inl fw4)), (ad, .inl (cI, 8, .inl fd4)), (hB, .inr (2, [.ref bB, .int (nI 64)])), (bB, .inl (cI, 64, .inl (sm_kb fk 32))), (hI, .inr (2, [.ref bI, .int (nI 32)])), (bI, .inl (cI, 32, .inl fI4))] := hD.sub [0, 1, 2, 3, 4, 5, 6, 17, 18, 7, 8, 9, 10, 11, 12, 13, 14, 15, 16] rfl rfl
    rw [sm_hmE] at hP hD
    have hP := sm_arr hP 8 rfl (sm_nv fk ff) (fun j hj => sm_ap_z hj)
    have hD := sm_arrD (y := .inl (cI, 32, .inl (sm_nv fk ff))) hD 8 rfl
    have hP : va_P D vwCl [(qs, .inr (3, [.ref qi, .ref qo, .ref qd, .ref qk, .ref qv, .ref qf, .ref qa, .ref gh, .ref hk, .int (nI kc), .int ivl, .int drw])), (qk, .inr (2, [.ref bk, .int (nI 32)])), (bk, .inl (cI, 32, .inl fk)), (qv, .inr (2, [.ref bv, .int (nI 32)])), (bv, .inl (cI, 32, .inl fv)), (qf, .inr (2, [.ref bf, .int (nI 32)])), (bf, .inl (cI, 32, .inl ff)), (qa, .inr (2, [.ref ba, .int (nI 32)])), (ba, .inl (cI, 32, .inl (sm_nv fk ff))), (hk, .inr (1, [.ref hh, .ref hB, .ref hI])), (hh, .inr (0, [.ref hm, .ref aw, .ref ad])), (hm, .inr (2, [.ref bm, .int um4])), (bm, .inl (cI, 448, .inl fm4)), (aw, .inl (cI, 64, .inl fw4)), (ad, .inl (cI, 8, .inl fd4)), (hB, .inr (2, [.ref bB, .int (nI 64)])), (bB, .inl (cI, 64, .inl (sm_kb fk 32))), (hI, .inr (2, [.ref bI, .int (nI 32)])), (bI, .inl (cI, 32, .inl fI4))] H := hP
    have hD : va_D A [(qs, .inr (3, [.ref qi, .ref qo, .ref qd, .ref qk, .ref qv, .ref qf, .ref qa, .ref gh, .ref hk, .int (nI kc), .int ivl, .int drw])), (qk, .inr (2, [.ref bk, .int (nI 32)])), (bk, .inl (cI, 32, .inl fk)), (qv, .inr (2, [.ref bv, .int (nI 32)])), (bv, .inl (cI, 32, .inl fv)), (qf, .inr (2, [.ref bf, .int (nI 32)])), (bf, .inl (cI, 32, .inl ff)), (qa, .inr (2, [.ref ba, .int (nI 32)])), (ba, .inl (cI, 32, .inl (sm_nv fk ff))), (hk, .inr (1, [.ref hh, .ref hB, .ref hI])), (hh, .inr (0, [.ref hm, .ref aw, .ref ad])), (hm, .inr (2, [.ref bm, .int um4])), (bm, .inl (cI, 448, .inl fm4)), (aw, .inl (cI, 64, .inl fw4)), (ad, .inl (cI, 8, .inl fd4)), (hB, .inr (2, [.ref bB, .int (nI 64)])), (bB, .inl (cI, 64, .inl (sm_kb fk 32))), (hI, .inr (2, [.ref bI, .int (nI 32)])), (bI, .inl (cI, 32, .inl fI4))] := hD
    refine lv_aload_n hx hb dX3_check_42 rfl (lv_at hl 0 rfl) ?_
    refine va_get (D := D) (ci := 3) (v := .ref qa) (C := RX3) (T := TX3) (N := 12) hx hb hts hw_X3 hown hK hP 0 rfl rfl 6 (by decide) hf_33 (fun _ h9 => h9) rfl dX3_check_43 ?_
    refine lv_aload_n hx hb dX3_check_46 rfl (lv_at hl 0 rfl) ?_
    refine va_get (D := D) (ci := 3) (v := .ref qv) (C := RX3) (T := TX3) (N := 12) hx hb hts hw_X3 hown hK hP 0 rfl rfl 4 (by decide) hf_27 (fun _ h9 => h9) rfl dX3_check_47 ?_
    refine sm_callVi (wc := [(qa, .inr (2, [.ref ba, .int (nI 32)])), (ba, .inl (cI, 32, .inl (sm_nv fk ff))), (qv, .inr (2, [.ref bv, .int (nI 32)])), (bv, .inl (cI, 32, .inl fv))]) (wr := [(qs, .inr (3, [.ref qi, .ref qo, .ref qd, .ref qk, .ref qv, .ref qf, .ref qa, .ref gh, .ref hk, .int (nI kc), .int ivl, .int drw])), (qk, .inr (2, [.ref bk, .int (nI 32)])), (bk, .inl (cI, 32, .inl fk)), (qf, .inr (2, [.ref bf, .int (nI 32)])), (bf, .inl (cI, 32, .inl ff)), (hk, .inr (1, [.ref hh, .ref hB, .ref hI])), (hh, .inr (0, [.ref hm, .ref aw, .ref ad])), (hm, .inr (2, [.ref bm, .int um4])), (bm, .inl (cI, 448, .inl fm4)), (aw, .inl (cI, 64, .inl fw4)), (ad, .inl (cI, 8, .inl fd4)), (hB, .inr (2, [.ref bB, .int (nI 64)])), (bB, .inl (cI, 64, .inl (sm_kb fk 32))), (hI, .inr (2, [.ref bI, .int (nI 32)])), (bI, .inl (cI, 32, .inl fI4))]) (As := [.ref qv]) (rest := []) ⟨hx, hb, hml, hown, hts⟩ (sc_X2_sameAs l D cI (some (tk, tf)) _ qa ba 32 qv bv 32 32 (sm_nv fk ff) fv (fun j _ => by rw [hfv]) (by decide) (by decide) (by decide) (by decide)) (cwV 1 hts gX3_check_X2_sameAs rfl rfl rfl (by decide +kernel) ⟨Nat.le_of_ble_eq_true rfl, Nat.le_of_ble_eq_true rfl⟩) hP hD hS hA hK hT [7, 8, 3, 4] [0, 1, 2, 5, 6, 9, 10, 11, 12, 13, 14, 15, 16, 17, 18] rfl rfl rfl rfl (by decide) 0 2 rfl rfl rfl rfl hl.1 rfl (Nat.le_of_ble_eq_true rfl) dX3_check_50 ⟨Nat.zero_le _, Nat.zero_le _⟩ (fun r_50 zt H1 locs ht hvm hw hB hJ hS => ?_)
    obtain ⟨hP1, -, hD1⟩ := hB
    rw [ht] at hP1
    obtain ⟨hP, hD⟩ := hJ _ hP1 hD1
    clear hJ
    generalize H1 = H at hP hS ⊢
    have hP : va_P D vwCl [(qs, .inr (3, [.ref qi, .ref qo, .ref qd, .ref qk, .ref qv, .ref qf, .ref qa, .ref gh, .ref hk, .int (nI kc), .int ivl, .int drw])), (qk, .inr (2, [.ref bk, .int (nI 32)])), (bk, .inl (cI, 32, .inl fk)), (qv, .inr (2, [.ref bv, .int (nI 32)])), (bv, .inl (cI, 32, .inl fv)), (qf, .inr (2, [.ref bf, .int (nI 32)])), (bf, .inl (cI, 32, .inl ff)), (qa, .inr (2, [.ref ba, .int (nI 32)])), (ba, .inl (cI, 32, .inl (sm_nv fk ff))), (hk, .inr (1, [.ref hh, .ref hB, .ref hI])), (hh, .inr (0, [.ref hm, .ref aw, .ref ad])), (hm, .inr (2, [.ref bm, .int um4])), (bm, .inl (cI, 448, .inl fm4)), (aw, .inl (cI, 64, .inl fw4)), (ad, .inl (cI, 8, .inl fd4)), (hB, .inr (2, [.ref bB, .int (nI 64)])), (bB, .inl (cI, 64, .inl (sm_kb fk 32))), (hI, .inr (2, [.ref bI, .int (nI 32)])), (bI, .inl (cI, 32, .inl fI4))] H := hP.sub [0, 1, 2, 17, 18, 3, 4, 15, 16, 5, 6, 7, 8, 9, 10, 11, 12, 13, 14] rfl
    have hD : va_D A [(qs, .inr (3, [.ref qi, .ref qo, .ref qd, .ref qk, .ref qv, .ref qf, .ref qa, .ref gh, .ref hk, .int (nI kc), .int ivl, .int drw])), (qk, .inr (2, [.ref bk, .int (nI 32)])), (bk, .inl (cI, 32, .inl fk)), (qv, .inr (2, [.ref bv, .int (nI 32)])), (bv, .inl (cI, 32, .inl fv)), (qf, .inr (2, [.ref bf, .int (nI 32)])), (bf, .inl (cI, 32, .inl ff)), (qa, .inr (2, [.ref ba, .int (nI 32)])), (ba, .inl (cI, 32, .inl (sm_nv fk ff))), (hk, .inr (1, [.ref hh, .ref hB, .ref hI])), (hh, .inr (0, [.ref hm, .ref aw, .ref ad])), (hm, .inr (2, [.ref bm, .int um4])), (bm, .inl (cI, 448, .inl fm4)), (aw, .inl (cI, 64, .inl fw4)), (ad, .inl (cI, 8, .inl fd4)), (hB, .inr (2, [.ref bB, .int (nI 64)])), (bB, .inl (cI, 64, .inl (sm_kb fk 32))), (hI, .inr (2, [.ref bI, .int (nI 32)])), (bI, .inl (cI, 32, .inl fI4))] := hD.sub [0, 1, 2, 17, 18, 3, 4, 15, 16, 5, 6, 7, 8, 9, 10, 11, 12, 13, 14] rfl rfl
    rw [hw]
    refine lv_if_eq (tgt := 60) hx hb dX3_check_53 (by decide) (fun c_53 => ?_) (fun c_53 => ?_)
    ·
      exact absurd c_53 (by decide)
    ·
      refine lv_iconst (v := 1) hx hb dX3_check_56 (by decide) ?_
      refine lv_goto (tgt := 61) hx hb dX3_check_57 (by decide) ?_
      rw [hQ]
      have hP9 : va_P D vwCl [(qs, .inr (3, [.ref qi, .ref qo, .ref qd, .ref qk, .ref qv, .ref qf, .ref qa, .ref gh, .ref hk, .int (nI kc), .int ivl, .int drw])), (qk, .inr (2, [.ref bk, .int (nI 32)])), (bk, .inl (cI, 32, .inl fk)), (qv, .inr (2, [.ref bv, .int (nI 32)])), (bv, .inl (cI, 32, .inl fv)), (qf, .inr (2, [.ref bf, .int (nI 32)])), (bf, .inl (cI, 32, .inl ff)), (qa, .inr (2, [.ref ba, .int (nI 32)])), (ba, .inl (cI, 32, .inl (sm_nv fk ff))), (hk, .inr (1, [.ref hh, .ref hB, .ref hI])), (hh, .inr (0, [.ref hm, .ref aw, .ref ad])), (hm, .inr (2, [.ref bm, .int um4])), (bm, .inl (cI, 448, .inl fm4)), (aw, .inl (cI, 64, .inl fw4)), (ad, .inl (cI, 8, .inl fd4)), (hB, .inr (2, [.ref bB, .int (nI 64)])), (bB, .inl (cI, 64, .inl (sm_kb fk 32))), (hI, .inr (2, [.ref bI, .int (nI 32)])), (bI, .inl (cI, 32, .inl fI4))] H := hP
      have hD9 : va_D A [(qs, .inr (3, [.ref qi, .ref qo, .ref qd, .ref qk, .ref qv, .ref qf, .ref qa, .ref gh, .ref hk, .int (nI kc), .int ivl, .int drw])), (qk, .inr (2, [.ref bk, .int (nI 32)])), (bk, .inl (cI, 32, .inl fk)), (qv, .inr (2, [.ref bv, .int (nI 32)])), (bv, .inl (cI, 32, .inl fv)), (qf, .inr (2, [.ref bf, .int (nI 32)])), (bf, .inl (cI, 32, .inl ff)), (qa, .inr (2, [.ref ba, .int (nI 32)])), (ba, .inl (cI, 32, .inl (sm_nv fk ff))), (hk, .inr (1, [.ref hh, .ref hB, .ref hI])), (hh, .inr (0, [.ref hm, .ref aw, .ref ad])), (hm, .inr (2, [.ref bm, .int um4])), (bm, .inl (cI, 448, .inl fm4)), (aw, .inl (cI, 64, .inl fw4)), (ad, .inl (cI, 8, .inl fd4)), (hB, .inr (2, [.ref bB, .int (nI 64)])), (bB, .inl (cI, 64, .inl (sm_kb fk 32))), (hI, .inr (2, [.ref bI, .int (nI 32)])), (bI, .inl (cI, 32, .inl fI4))] := hD
      exact W.iret (v := 1) hx hb hr (fun t ht hW => ⟨⟨1, (), rfl, rfl, ⟨_, _, _, _, _, _, _, _, by rw [ht]; exact hP9, va_K.moved hW.alike hK, hD9⟩⟩, hS.F ht⟩) hS.2.2 dX3_check_61
  ·
    exact absurd c_4 (by decide)
