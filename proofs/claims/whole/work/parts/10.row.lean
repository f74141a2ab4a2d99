def rm_J7_fill_53178 : Room := ({ frames := 0, cells := 0, slots := 0, locals := 0 } : Room)
set_option maxHeartbeats 4000000 in
set_option maxRecDepth 100000 in
/-- Arrays.fill over ints -/
theorem sc_J7_fill_53178 (l : Launch) (D : va_G) (cI : ClassId) (th : Option (Nat × Nat)) (sz : Nat) (b n : Nat) (f : Nat → Int32) (x : Int32) (hn : n < 2 ^ 31) : Met l yJ7_fill_53178 wsJ7_fill_53178 rm_J7_fill_53178 (va_Pc [.ref b, .int x] (sm_PW D cI th [(b, .inl (cI, n, .inl f))] sz)) (va_Qv (fun (_ : Unit) => True) (fun _ t => sm_QW D cI (va_A [(b, .inl (cI, n, .inl f))] sz) [(b, .inl (cI, n, .inl (fun _ => x)))] t) (va_A [(b, .inl (cI, n, .inl f))] sz)) 0 0 (va_A [(b, .inl (cI, n, .inl f))] sz) := by
  refine Met.ofW (cc := cJ7_fill_53178) (maxL := 4) (ret := none) (by decide) rfl ?_
  intro p e s m args below meth c s₁ B hml hv
  obtain ⟨rfl, hsz, hP, hK, hD0, hT⟩ := hv
  have hx := B.exec
  have hb := B.bytes
  have hr := B.returns
  have hts := atoms_spec (ws := wsJ7_fill_53178) B.pre
  have hown : s.vm.findClass RJ7 = some m.cls := findClass_of_methodNamed B.named
  have hlocks := B.notSynchronized
  subst hsz
  have hD := hD0.self (sz := s.heap.size)
  generalize hAe : va_A [(b, .inl (cI, n, .inl f))] s.heap.size = A at hD hT ⊢
  have hA : ∀ q : Nat, s.heap.size ≤ q → A q := fun q h => by rw [← hAe]; exact Or.inr h
  have hS : va_S A s.heap s.heap [] := va_S.rf
  have hl := lv_entry ([.ref b, .int x]) (n := 4) (Nat.le_of_ble_eq_true rfl)
  rw [lg_entry_eq]
  generalize (lg_sl ([.ref b, .int x]) ++ List.replicate (4 - (lg_sl ([.ref b, .int x])).length) Slot.unset).toArray = ls at hl ⊢
  have hl : lv_has ls 4 [(0, .ref b), (1, .int x)] := hl
  refine sm_name (fun Q hQ => ?_)
  refine lv_iconst (v := 0) hx hb dJ7_fill_53178_0 (by decide) ?_
  refine lv_istore_n (lv' := [(2, .int 0), (0, .ref b), (1, .int x)]) hx hb dJ7_fill_53178_1 rfl hl (by decide) rfl (fun ls hl => ?_)
  refine lv_aload_n hx hb dJ7_fill_53178_2 rfl (lv_at hl 1 rfl) ?_
  refine va_alen hx hb hK hP 0 0 rfl rfl (v := nI n) rfl dJ7_fill_53178_3 ?_
  refine lv_istore_n (lv' := [(3, .int (nI n)), (2, .int 0), (0, .ref b), (1, .int x)]) hx hb dJ7_fill_53178_4 rfl hl (by decide) rfl (fun ls hl => ?_)
  have lp5 : ∀ (zn : Nat) (i : Nat) (H : Heap) (locs : List Loc) (ls : Array Slot), n - i < zn → i ≤ n → va_P D vwCl [(b, .inl (cI, n, .inl (sm_ap f 0 (fun _ => x) i)))] H → va_D A [(b, .inl (cI, n, .inl (sm_ap f 0 (fun _ => x) i)))] → va_S A s.heap H locs → lv_has ls 4 [(2, .int (nI i)), (3, .int (nI n)), (0, .ref b), (1, .int x)] → W p l e (headSpec wsJ7_fill_53178 rm_J7_fill_53178).room s m ([.ref b, .int x] : List Value).toArray below meth c H locs 0 0 Q (F0 m 5 ls []) := by
    intro zn
    induction zn with
    | zero => intro i H locs ls hmu; exact absurd hmu (Nat.not_lt_zero _)
    | succ zn ih =>
      intro i H locs ls hmu hi_5 hP hD hS hl
      refine lv_iload_n hx hb dJ7_fill_53178_5 rfl (lv_at hl 0 rfl) ?_
      refine lv_iload_n hx hb dJ7_fill_53178_6 rfl (lv_at hl 1 rfl) ?_
      refine lv_icmp_ge (tgt := 20) hx hb dJ7_fill_53178_7 (by decide) (fun c_7 => ?_) (fun c_7 => ?_)
      ·
        have hex_5 : i = n := by
          rcases Nat.lt_or_ge i (n) with q | q
          · exact absurd c_7 (nI_ge q (by omega))
          · omega
        rw [hQ]
        have hP := sm_arr hP 0 rfl (fun _ => x) (fun j hj => by unfold sm_ap; rw [if_pos (by omega)])
        have hD := sm_arrD (y := .inl (cI, n, .inl (fun _ => x))) hD 0 rfl
        have hP9 : va_P D vwCl [(b, .inl (cI, n, .inl (fun _ => x)))] H := hP
        have hD9 : va_D A [(b, .inl (cI, n, .inl (fun _ => x)))] := hD
        exact W.vret hx hb hr (fun t ht hW => ⟨⟨(), rfl, trivial, ⟨by rw [ht]; exact hP9, va_K.moved hW.alike hK, hD9⟩⟩, hS.F ht⟩) hS.2.2 dJ7_fill_53178_20
      ·
        have hlt_5 : i < n := by
          rcases Nat.lt_or_ge i (n) with q | q
          · exact q
          · exact absurd (nI_le q (by omega)) c_7
        refine lv_aload_n hx hb dJ7_fill_53178_10 rfl (lv_at hl 2 rfl) ?_
        refine lv_iload_n hx hb dJ7_fill_53178_11 rfl (lv_at hl 0 rfl) ?_
        refine lv_iload_n hx hb dJ7_fill_53178_12 rfl (lv_at hl 3 rfl) ?_
        refine va_iast (i := nI i) (x := x) hx hb hK hP hD hS 0 0 rfl rfl (vp_in_nI (n := i) hlt_5 (by omega)) dJ7_fill_53178_13 (fun H locs hP hD hS => ?_)
        rw [show Int32.toNatClampNeg (nI i) = i from nI_clamp (n := i) (by omega)] at hP hD
        have hP : va_P D vwCl [(b, .inl (cI, n, .inl (upd (sm_ap f 0 (fun _ => x) i) i x)))] H := hP
        have hD : va_D A [(b, .inl (cI, n, .inl (upd (sm_ap f 0 (fun _ => x) i) i x)))] := hD
        refine lv_iinc (v := nI (i + 1)) (lv' := [(2, .int (nI (i + 1))), (3, .int (nI n)), (0, .ref b), (1, .int x)]) hx hb dJ7_fill_53178_14 hl (k := 0) rfl (nI_1 i) (by decide) rfl (fun ls hl => ?_)
        refine lv_goto (tgt := 5) hx hb dJ7_fill_53178_17 (by decide) ?_
        have e9 : upd (sm_ap f 0 (fun _ => x) i) i x = sm_ap f 0 (fun _ => x) (i + 1) := by
          have := sm_ap_s f 0 (fun _ => x) i
          rwa [Nat.zero_add] at this
        rw [e9] at hP hD
        exact ih (i + 1) _ _ _ (by omega) (by omega) hP hD hS (lv_sub hl [0, 1, 2, 3] rfl)
  exact lp5 _ 0 _ _ _ (Nat.lt_succ_self _) (Nat.zero_le _) (by rw [sm_ap_0]; exact hP) (by rw [sm_ap_0]; exact hD) hS (lv_sub hl [1, 0, 2, 3] rfl)

def rm_J6_rotateRight_7cf53 : Room := ({ frames := 0, cells := 0, slots := 0, locals := 0 } : Room)
set_option maxHeartbeats 4000000 in
set_option maxRecDepth 100000 in
/-- Integer.rotateRight -/
theorem sc_J6_rotateRight_7cf53 (l : Launch) (D : va_G) (cI : ClassId) (th : Option (Nat × Nat)) (sz : Nat) (x y : Int32)  : Met l yJ6_rotateRight_7cf53 wsJ6_rotateRight_7cf53 rm_J6_rotateRight_7cf53 (va_Pc [.int x, .int y] (sm_PW D cI th [] sz)) (va_Qi (fun (r : Int32) (_ : Unit) => r = sm_rr x y) (fun _ t => sm_QW D cI (va_A [] sz) [] t) (va_A [] sz)) 0 0 (va_A [] sz) := by
  refine Met.ofW (cc := cJ6_rotateRight_7cf53) (maxL := 2) (ret := (some .int)) (by decide) rfl ?_
  intro p e s m args below meth c s₁ B hml hv
  obtain ⟨rfl, hsz, hP, hK, hD0, hT⟩ := hv
  have hx := B.exec
  have hb := B.bytes
  have hr := B.returns
  have hts := atoms_spec (ws := wsJ6_rotateRight_7cf53) B.pre
  have hown : s.vm.findClass RJ6 = some m.cls := findClass_of_methodNamed B.named
  have hlocks := B.notSynchronized
  subst hsz
  have hD := hD0.self (sz := s.heap.size)
  generalize hAe : va_A [] s.heap.size = A at hD hT ⊢
  have hA : ∀ q : Nat, s.heap.size ≤ q → A q := fun q h => by rw [← hAe]; exact Or.inr h
  have hS : va_S A s.heap s.heap [] := va_S.rf
  have hl := lv_entry ([.int x, .int y]) (n := 2) (Nat.le_of_ble_eq_true rfl)
  rw [lg_entry_eq]
  generalize (lg_sl ([.int x, .int y]) ++ List.replicate (2 - (lg_sl ([.int x, .int y])).length) Slot.unset).toArray = ls at hl ⊢
  have hl : lv_has ls 2 [(0, .int x), (1, .int y)] := hl
  refine sm_name (fun Q hQ => ?_)
  refine lv_iload_n hx hb dJ6_rotateRight_7cf53_0 rfl (lv_at hl 0 rfl) ?_
  refine lv_iload_n hx hb dJ6_rotateRight_7cf53_1 rfl (lv_at hl 1 rfl) ?_
  refine lv_iushr (v := sm_us x y) hx hb dJ6_rotateRight_7cf53_2 rfl ?_
  refine lv_iload_n hx hb dJ6_rotateRight_7cf53_3 rfl (lv_at hl 0 rfl) ?_
  refine lv_iload_n hx hb dJ6_rotateRight_7cf53_4 rfl (lv_at hl 1 rfl) ?_
  refine lv_ineg hx hb dJ6_rotateRight_7cf53_5 ?_
  refine lv_ishl hx hb dJ6_rotateRight_7cf53_6 ?_
  refine lv_ior hx hb dJ6_rotateRight_7cf53_7 ?_
  rw [hQ]
  have hP9 : va_P D vwCl [] s.heap := hP
  have hD9 : va_D A [] := hD
  exact W.iret (v := (sm_us x y) ||| (x <<< ((-y) &&& 31))) hx hb hr (fun t ht hW => ⟨⟨(sm_us x y) ||| (x <<< ((-y) &&& 31)), (), rfl, rfl, ⟨by rw [ht]; exact hP9, va_K.moved hW.alike hK, hD9⟩⟩, hS.F ht⟩) hS.2.2 dJ6_rotateRight_7cf53_8

def rm_X2_size : Room := ({ frames := 0, cells := 0, slots := 0, locals := 0 } : Room)
set_option maxHeartbeats 4000000 in
set_option maxRecDepth 100000 in
/-- Row.size -/
theorem sc_X2_size (l : Launch) (D : va_G) (cI : ClassId) (th : Option (Nat × Nat)) (sz : Nat) (h b n : Nat) (f : Nat → Int32) (u : Int32)  : Met l yX2_size wsX2_size rm_X2_size (va_Pc [.ref h] (sm_PW D cI th [(h, .inr (2, [.ref b, .int u])), (b, .inl (cI, n, .inl f))] sz)) (va_Qi (fun (r : Int32) (_ : Unit) => r = u) (fun _ t => sm_QW D cI (va_A [(h, .inr (2, [.ref b, .int u])), (b, .inl (cI, n, .inl f))] sz) [(h, .inr (2, [.ref b, .int u])), (b, .inl (cI, n, .inl f))] t) (va_A [(h, .inr (2, [.ref b, .int u])), (b, .inl (cI, n, .inl f))] sz)) 0 0 (va_A [(h, .inr (2, [.ref b, .int u])), (b, .inl (cI, n, .inl f))] sz) := by
  refine Met.ofW (cc := cX2_size) (maxL := 1) (ret := (some .int)) (by decide) rfl ?_
  intro p e s m args below meth c s₁ B hml hv
  obtain ⟨rfl, hsz, hP, hK, hD0, hT⟩ := hv
  have hx := B.exec
  have hb := B.bytes
  have hr := B.returns
  have hts := atoms_spec (ws := wsX2_size) B.pre
  have hown : s.vm.findClass RX2 = some m.cls := findClass_of_methodNamed B.named
  have hlocks := B.notSynchronized
  subst hsz
  have hD := hD0.self (sz := s.heap.size)
  generalize hAe : va_A [(h, .inr (2, [.ref b, .int u])), (b, .inl (cI, n, .inl f))] s.heap.size = A at hD hT ⊢
  have hA : ∀ q : Nat, s.heap.size ≤ q → A q := fun q h => by rw [← hAe]; exact Or.inr h
  have hS : va_S A s.heap s.heap [] := va_S.rf
  have hl := lv_entry ([.ref h]) (n := 1) (Nat.le_of_ble_eq_true rfl)
  rw [lg_entry_eq]
  generalize (lg_sl ([.ref h]) ++ List.replicate (1 - (lg_sl ([.ref h])).length) Slot.unset).toArray = ls at hl ⊢
  have hl : lv_has ls 1 [(0, .ref h)] := hl
  refine sm_name (fun Q hQ => ?_)
  have hf_9 := hts (.fieldLink RX2 9 "SeedMill$Row" "used" "I") (by decide +kernel)
  have hw_X2 : ∀ w ∈ wsX20, w ∈ wsX2_size := by decide +kernel
  refine lv_aload_n hx hb dX2_size_0 rfl (lv_at hl 0 rfl) ?_
  refine va_get (D := D) (ci := 2) (v := .int u) (C := RX2) (T := TX2) (N := 2) hx hb hts hw_X2 hown hK hP 0 rfl rfl 1 (by decide) hf_9 (fun _ h9 => h9) rfl dX2_size_1 ?_
  rw [hQ]
  have hP9 : va_P D vwCl [(h, .inr (2, [.ref b, .int u])), (b, .inl (cI, n, .inl f))] s.heap := hP
  have hD9 : va_D A [(h, .inr (2, [.ref b, .int u])), (b, .inl (cI, n, .inl f))] := hD
  exact W.iret (v := u) hx hb hr (fun t ht hW => ⟨⟨u, (), rfl, rfl, ⟨by rw [ht]; exact hP9, va_K.moved hW.alike hK, hD9⟩⟩, hS.F ht⟩) hS.2.2 dX2_size_4

def rm_X2_empty : Room := ({ frames := 0, cells := 0, slots := 0, locals := 0 } : Room)
set_option maxHeartbeats 4000000 in
set_option maxRecDepth 100000 in
/-- Row.empty -/
theorem sc_X2_empty (l : Launch) (D : va_G) (cI : ClassId) (th : Option (Nat × Nat)) (sz : Nat) (h b n : Nat) (f : Nat → Int32) (u : Int32)  : Met l yX2_empty wsX2_empty rm_X2_empty (va_Pc [.ref h] (sm_PW D cI th [(h, .inr (2, [.ref b, .int u])), (b, .inl (cI, n, .inl f))] sz)) (va_Qv (fun (_ : Unit) => True) (fun _ t => sm_QW D cI (va_A [(h, .inr (2, [.ref b, .int u])), (b, .inl (cI, n, .inl f))] sz) [(h, .inr (2, [.ref b, .int (nI 0)])), (b, .inl (cI, n, .inl f))] t) (va_A [(h, .inr (2, [.ref b, .int u])), (b, .inl (cI, n, .inl f))] sz)) 0 0 (va_A [(h, .inr (2, [.ref b, .int u])), (b, .inl (cI, n, .inl f))] sz) := by
  refine Met.ofW (cc := cX2_empty) (maxL := 1) (ret := none) (by decide) rfl ?_
  intro p e s m args below meth c s₁ B hml hv
  obtain ⟨rfl, hsz, hP, hK, hD0, hT⟩ := hv
  have hx := B.exec
  have hb := B.bytes
  have hr := B.returns
  have hts := atoms_spec (ws := wsX2_empty) B.pre
  have hown : s.vm.findClass RX2 = some m.cls := findClass_of_methodNamed B.named
  have hlocks := B.notSynchronized
  subst hsz
  have hD := hD0.self (sz := s.heap.size)
  generalize hAe : va_A [(h, .inr (2, [.ref b, .int u])), (b, .inl (cI, n, .inl f))] s.heap.size = A at hD hT ⊢
  have hA : ∀ q : Nat, s.heap.size ≤ q → A q := fun q h => by rw [← hAe]; exact Or.inr h
  have hS : va_S A s.heap s.heap [] := va_S.rf
  have hl := lv_entry ([.ref h]) (n := 1) (Nat.le_of_ble_eq_true rfl)
  rw [lg_entry_eq]
  generalize (lg_sl ([.ref h]) ++ List.replicate (1 - (lg_sl ([.ref h])).length) Slot.unset).toArray = ls at hl ⊢
  have hl : lv_has ls 1 [(0, .ref h)] := hl
  refine sm_name (fun Q hQ => ?_)
  have hf_9 := hts (.fieldLink RX2 9 "SeedMill$Row" "used" "I") (by decide +kernel)
  have hw_X2 : ∀ w ∈ wsX20, w ∈ wsX2_empty := by decide +kernel
  refine lv_aload_n hx hb dX2_empty_0 rfl (lv_at hl 0 rfl) ?_
  refine lv_iconst (v := 0) hx hb dX2_empty_1 (by decide) ?_
  refine va_put (D := D) (ci := 2) (v := .int 0) (ty := .int) (C := RX2) (T := TX2) (N := 2) hx hb hts hw_X2 tyX2 tyX2_ok nmX2 hown hK hP hD hS 0 rfl rfl 1 (by decide) hf_9 (fun _ h9 => h9) rfl (by decide +kernel) rfl rfl (Nat.le_of_ble_eq_true rfl) dX2_empty_2 (fun H locs hP hD hS => ?_)
  have hP : va_P D vwCl [(h, .inr (2, [.ref b, .int 0])), (b, .inl (cI, n, .inl f))] H := hP
  have hD : va_D A [(h, .inr (2, [.ref b, .int 0])), (b, .inl (cI, n, .inl f))] := hD
  rw [hQ]
  have hP9 : va_P D vwCl [(h, .inr (2, [.ref b, .int (nI 0)])), (b, .inl (cI, n, .inl f))] H := hP
  have hD9 : va_D A [(h, .inr (2, [.ref b, .int (nI 0)])), (b, .inl (cI, n, .inl f))] := hD
  exact W.vret hx hb hr (fun t ht hW => ⟨⟨(), rfl, trivial, ⟨by rw [ht]; exact hP9, va_K.moved hW.alike hK, hD9⟩⟩, hS.F ht⟩) hS.2.2 dX2_empty_5

def rm_X2_put : Room := ({ frames := 0, cells := 0, slots := 0, locals := 0 } : Room)
set_option maxHeartbeats 4000000 in
set_option maxRecDepth 100000 in
/-- Row.put within the limit -/
theorem sc_X2_put (l : Launch) (D : va_G) (cI : ClassId) (th : Option (Nat × Nat)) (sz : Nat) (h b n u : Nat) (f : Nat → Int32) (x : Int32) (hu : u < n) (hn : n < 2 ^ 31) : Met l yX2_put wsX2_put rm_X2_put (va_Pc [.ref h, .int x] (sm_PW D cI th [(h, .inr (2, [.ref b, .int (nI u)])), (b, .inl (cI, n, .inl f))] sz)) (va_Qv (fun (_ : Unit) => True) (fun _ t => sm_QW D cI (va_A [(h, .inr (2, [.ref b, .int (nI u)])), (b, .inl (cI, n, .inl f))] sz) [(h, .inr (2, [.ref b, .int (nI (u + 1))])), (b, .inl (cI, n, .inl (upd f u x)))] t) (va_A [(h, .inr (2, [.ref b, .int (nI u)])), (b, .inl (cI, n, .inl f))] sz)) 0 0 (va_A [(h, .inr (2, [.ref b, .int (nI u)])), (b, .inl (cI, n, .inl f))] sz) := by
  refine Met.ofW (cc := cX2_put) (maxL := 2) (ret := none) (by decide) rfl ?_
  intro p e s m args below meth c s₁ B hml hv
  obtain ⟨rfl, hsz, hP, hK, hD0, hT⟩ := hv
  have hx := B.exec
  have hb := B.bytes
  have hr := B.returns
  have hts := atoms_spec (ws := wsX2_put) B.pre
  have hown : s.vm.findClass RX2 = some m.cls := findClass_of_methodNamed B.named
  have hlocks := B.notSynchronized
  subst hsz
  have hD := hD0.self (sz := s.heap.size)
  generalize hAe : va_A [(h, .inr (2, [.ref b, .int (nI u)])), (b, .inl (cI, n, .inl f))] s.heap.size = A at hD hT ⊢
  have hA : ∀ q : Nat, s.heap.size ≤ q → A q := fun q h => by rw [← hAe]; exact Or.inr h
  have hS : va_S A s.heap s.heap [] := va_S.rf
  have hl := lv_entry ([.ref h, .int x]) (n := 2) (Nat.le_of_ble_eq_true rfl)
  rw [lg_entry_eq]
  generalize (lg_sl ([.ref h, .int x]) ++ List.replicate (2 - (lg_sl ([.ref h, .int x])).length) Slot.unset).toArray = ls at hl ⊢
  have hl : lv_has ls 2 [(0, .ref h), (1, .int x)] := hl
  refine sm_name (fun Q hQ => ?_)
  have hf_9 := hts (.fieldLink RX2 9 "SeedMill$Row" "used" "I") (by decide +kernel)
  have hw_X2 : ∀ w ∈ wsX20, w ∈ wsX2_put := by decide +kernel
  have hf_15 := hts (.fieldLink RX2 15 "SeedMill$Row" "bytes" "[I") (by decide +kernel)
  refine lv_aload_n hx hb dX2_put_0 rfl (lv_at hl 0 rfl) ?_
  refine va_get (D := D) (ci := 2) (v := .int (nI u)) (C := RX2) (T := TX2) (N := 2) hx hb hts hw_X2 hown hK hP 0 rfl rfl 1 (by decide) hf_9 (fun _ h9 => h9) rfl dX2_put_1 ?_
  refine lv_aload_n hx hb dX2_put_4 rfl (lv_at hl 0 rfl) ?_
  refine va_get (D := D) (ci := 2) (v := .ref b) (C := RX2) (T := TX2) (N := 2) hx hb hts hw_X2 hown hK hP 0 rfl rfl 0 (by decide) hf_15 (fun _ h9 => h9) rfl dX2_put_5 ?_
  refine va_alen hx hb hK hP 1 0 rfl rfl (v := nI n) rfl dX2_put_8 ?_
  refine lv_icmp_ge (tgt := 32) hx hb dX2_put_9 (by decide) (fun c_9 => ?_) (fun c_9 => ?_)
  ·
    exact absurd c_9 (nI_ge hu hn)
  ·
    refine lv_aload_n hx hb dX2_put_12 rfl (lv_at hl 0 rfl) ?_
    refine va_get (D := D) (ci := 2) (v := .ref b) (C := RX2) (T := TX2) (N := 2) hx hb hts hw_X2 hown hK hP 0 rfl rfl 0 (by decide) hf_15 (fun _ h9 => h9) rfl dX2_put_13 ?_
    refine lv_aload_n hx hb dX2_put_16 rfl (lv_at hl 0 rfl) ?_
    refine va_get (D := D) (ci := 2) (v := .int (nI u)) (C := RX2) (T := TX2) (N := 2) hx hb hts hw_X2 hown hK hP 0 rfl rfl 1 (by decide) hf_9 (fun _ h9 => h9) rfl dX2_put_17 ?_
    refine lv_iload_n hx hb dX2_put_20 rfl (lv_at hl 1 rfl) ?_
    refine va_iast (i := nI u) (x := x) hx hb hK hP hD hS 1 0 rfl rfl (vp_in_nI (n := u) hu (by omega)) dX2_put_21 (fun H locs hP hD hS => ?_)
    rw [show Int32.toNatClampNeg (nI u) = u from nI_clamp (n := u) (by omega)] at hP hD
    have hP : va_P D vwCl [(h, .inr (2, [.ref b, .int (nI u)])), (b, .inl (cI, n, .inl (upd f u x)))] H := hP
    have hD : va_D A [(h, .inr (2, [.ref b, .int (nI u)])), (b, .inl (cI, n, .inl (upd f u x)))] := hD
    refine lv_aload_n hx hb dX2_put_22 rfl (lv_at hl 0 rfl) ?_
    refine lv_dup hx hb dX2_put_23 rfl ?_
    refine va_get (D := D) (ci := 2) (v := .int (nI u)) (C := RX2) (T := TX2) (N := 2) hx hb hts hw_X2 hown hK hP 0 rfl rfl 1 (by decide) hf_9 (fun _ h9 => h9) rfl dX2_put_24 ?_
    refine lv_iconst (v := 1) hx hb dX2_put_27 (by decide) ?_
    refine lv_iadd hx hb dX2_put_28 ?_
    refine va_put (D := D) (ci := 2) (v := .int ((nI u) + 1)) (ty := .int) (C := RX2) (T := TX2) (N := 2) hx hb hts hw_X2 tyX2 tyX2_ok nmX2 hown hK hP hD hS 0 rfl rfl 1 (by decide) hf_9 (fun _ h9 => h9) rfl (by decide +kernel) rfl rfl (Nat.le_of_ble_eq_true rfl) dX2_put_29 (fun H locs hP hD hS => ?_)
    have hP : va_P D vwCl [(h, .inr (2, [.ref b, .int ((nI u) + 1)])), (b, .inl (cI, n, .inl (upd f u x)))] H := hP
    have hD : va_D A [(h, .inr (2, [.ref b, .int ((nI u) + 1)])), (b, .inl (cI, n, .inl (upd f u x)))] := hD
    rw [hQ]
    rw [show nI u + 1 = nI (u + 1) from nI_1 u] at hP hD
    have hP9 : va_P D vwCl [(h, .inr (2, [.ref b, .int (nI (u + 1))])), (b, .inl (cI, n, .inl (upd f u x)))] H := hP
    have hD9 : va_D A [(h, .inr (2, [.ref b, .int (nI (u + 1))])), (b, .inl (cI, n, .inl (upd f u x)))] := hD
    exact W.vret hx hb hr (fun t ht hW => ⟨⟨(), rfl, trivial, ⟨by rw [ht]; exact hP9, va_K.moved hW.alike hK, hD9⟩⟩, hS.F ht⟩) hS.2.2 dX2_put_32

def rm_X2_fill : Room := ({ frames := 1, cells := 0, slots := 0, locals := 23 } : Room)
set_option maxHeartbeats 4000000 in
set_option maxRecDepth 100000 in
/-- Row.fill -/
theorem sc_X2_fill (l : Launch) (D : va_G) (cI : ClassId) (th : Option (Nat × Nat)) (sz : Nat) (h b n : Nat) (f : Nat → Int32) (u x : Int32) (hn : n < 2 ^ 31) : Met l yX2_fill wsX2_fill rm_X2_fill (va_Pc [.ref h, .int x] (sm_PW D cI th [(h, .inr (2, [.ref b, .int u])), (b, .inl (cI, n, .inl f))] sz)) (va_Qv (fun (_ : Unit) => True) (fun _ t => sm_QW D cI (va_A [(h, .inr (2, [.ref b, .int u])), (b, .inl (cI, n, .inl f))] sz) [(h, .inr (2, [.ref b, .int (nI n)])), (b, .inl (cI, n, .inl (fun _ => x)))] t) (va_A [(h, .inr (2, [.ref b, .int u])), (b, .inl (cI, n, .inl f))] sz)) 0 0 (va_A [(h, .inr (2, [.ref b, .int u])), (b, .inl (cI, n, .inl f))] sz) := by
  refine Met.ofW (cc := cX2_fill) (maxL := 2) (ret := none) (by decide) rfl ?_
  intro p e s m args below meth c s₁ B hml hv
  obtain ⟨rfl, hsz, hP, hK, hD0, hT⟩ := hv
  have hx := B.exec
  have hb := B.bytes
  have hr := B.returns
  have hts := atoms_spec (ws := wsX2_fill) B.pre
  have hown : s.vm.findClass RX2 = some m.cls := findClass_of_methodNamed B.named
  have hlocks := B.notSynchronized
  subst hsz
  have hD := hD0.self (sz := s.heap.size)
  generalize hAe : va_A [(h, .inr (2, [.ref b, .int u])), (b, .inl (cI, n, .inl f))] s.heap.size = A at hD hT ⊢
  have hA : ∀ q : Nat, s.heap.size ≤ q → A q := fun q h => by rw [← hAe]; exact Or.inr h
  have hS : va_S A s.heap s.heap [] := va_S.rf
  have hl := lv_entry ([.ref h, .int x]) (n := 2) (Nat.le_of_ble_eq_true rfl)
  rw [lg_entry_eq]
  generalize (lg_sl ([.ref h, .int x]) ++ List.replicate (2 - (lg_sl ([.ref h, .int x])).length) Slot.unset).toArray = ls at hl ⊢
  have hl : lv_has ls 2 [(0, .ref h), (1, .int x)] := hl
  refine sm_name (fun Q hQ => ?_)
  have hf_15 := hts (.fieldLink RX2 15 "SeedMill$Row" "bytes" "[I") (by decide +kernel)
  have hw_X2 : ∀ w ∈ wsX20, w ∈ wsX2_fill := by decide +kernel
  have hf_9 := hts (.fieldLink RX2 9 "SeedMill$Row" "used" "I") (by decide +kernel)
  refine lv_aload_n hx hb dX2_fill_0 rfl (lv_at hl 0 rfl) ?_
  refine va_get (D := D) (ci := 2) (v := .ref b) (C := RX2) (T := TX2) (N := 2) hx hb hts hw_X2 hown hK hP 0 rfl rfl 0 (by decide) hf_15 (fun _ h9 => h9) rfl dX2_fill_1 ?_
  refine lv_iload_n hx hb dX2_fill_4 rfl (lv_at hl 1 rfl) ?_
  refine sm_callSv (wc := [(b, .inl (cI, n, .inl f))]) (wr := [(h, .inr (2, [.ref b, .int u]))]) (As := [.ref b, .int x]) (rest := []) ⟨hx, hb, hml, hown, hts⟩ (sc_J7_fill_53178 l D cI th _ b n f x hn) (va_cwS 2 hts gX2_fill_J7_fill_53178 rfl rfl rfl (by decide +kernel) ⟨Nat.le_of_ble_eq_true rfl, Nat.le_of_ble_eq_true rfl⟩) hP hD hS hA hK hT [1] [0] rfl rfl rfl rfl (by decide) rfl hl.1 rfl (Nat.le_of_ble_eq_true rfl) dX2_fill_5 ⟨Nat.zero_le _, Nat.zero_le _⟩ (fun zt H1 locs ht hvm hB hJ hS => ?_)
  obtain ⟨hP1, -, hD1⟩ := hB
  rw [ht] at hP1
  obtain ⟨hP, hD⟩ := hJ _ hP1 hD1
  clear hJ
  generalize H1 = H at hP hS ⊢
  have hP : va_P D vwCl [(h, .inr (2, [.ref b, .int u])), (b, .inl (cI, n, .inl (fun _ => x)))] H := hP.sub [0, 1] rfl
  have hD : va_D A [(h, .inr (2, [.ref b, .int u])), (b, .inl (cI, n, .inl (fun _ => x)))] := hD.sub [0, 1] rfl rfl
  refine lv_aload_n hx hb dX2_fill_8 rfl (lv_at hl 0 rfl) ?_
  refine lv_aload_n hx hb dX2_fill_9 rfl (lv_at hl 0 rfl) ?_
  refine va_get (D := D) (ci := 2) (v := .ref b) (C := RX2) (T := TX2) (N := 2) hx hb hts hw_X2 hown hK hP 0 rfl rfl 0 (by decide) hf_15 (fun _ h9 => h9) rfl dX2_fill_10 ?_
  refine va_alen hx hb hK hP 1 0 rfl rfl (v := nI n) rfl dX2_fill_13 ?_
  refine va_put (D := D) (ci := 2) (v := .int (nI n)) (ty := .int) (C := RX2) (T := TX2) (N := 2) hx hb hts hw_X2 tyX2 tyX2_ok nmX2 hown hK hP hD hS 0 rfl rfl 1 (by decide) hf_9 (fun _ h9 => h9) rfl (by decide +kernel) rfl rfl (Nat.le_of_ble_eq_true rfl) dX2_fill_14 (fun H locs hP hD hS => ?_)
  have hP : va_P D vwCl [(h, .inr (2, [.ref b, .int (nI n)])), (b, .inl (cI, n, .inl (fun _ => x)))] H := hP
  have hD : va_D A [(h, .inr (2, [.ref b, .int (nI n)])), (b, .inl (cI, n, .inl (fun _ => x)))] := hD
  rw [hQ]
  have hP9 : va_P D vwCl [(h, .inr (2, [.ref b, .int (nI n)])), (b, .inl (cI, n, .inl (fun _ => x)))] H := hP
  have hD9 : va_D A [(h, .inr (2, [.ref b, .int (nI n)])), (b, .inl (cI, n, .inl (fun _ => x)))] := hD
  exact W.vret hx hb hr (fun t ht hW => ⟨⟨(), rfl, trivial, ⟨by rw [ht]; exact hP9, va_K.moved hW.alike hK, hD9⟩⟩, hS.F ht⟩) hS.2.2 dX2_fill_17

def rm_X2_append : Room := ({ frames := 1, cells := 0, slots := 0, locals := 21 } : Room)
set_option maxHeartbeats 4000000 in
set_option maxRecDepth 100000 in
/-- Row.append within the limit -/
theorem sc_X2_append (l : Launch) (D : va_G) (cI : ClassId) (th : Option (Nat × Nat)) (sz : Nat) (h b n u h2 b2 n2 u2 k : Nat) (f g : Nat → Int32) (hE : u + min k u2 ≤ n) (hu2 : u2 ≤ n2) (hn : n < 2 ^ 31) (hn2 : n2 < 2 ^ 31) (hk : k < 2 ^ 31) : Met l yX2_append wsX2_append rm_X2_append (va_Pc [.ref h, .ref h2, .int (nI k)] (sm_PW D cI th [(h, .inr (2, [.ref b, .int (nI u)])), (b, .inl (cI, n, .inl f)), (h2, .inr (2, [.ref b2, .int (nI u2)])), (b2, .inl (cI, n2, .inl g))] sz)) (va_Qv (fun (_ : Unit) => True) (fun _ t => sm_QW D cI (va_A [(h, .inr (2, [.ref b, .int (nI u)])), (b, .inl (cI, n, .inl f)), (h2, .inr (2, [.ref b2, .int (nI u2)])), (b2, .inl (cI, n2, .inl g))] sz) [(h, .inr (2, [.ref b, .int (nI (u + min k u2))])), (b, .inl (cI, n, .inl (sm_ap f u g (min k u2)))), (h2, .inr (2, [.ref b2, .int (nI u2)])), (b2, .inl (cI, n2, .inl g))] t) (va_A [(h, .inr (2, [.ref b, .int (nI u)])), (b, .inl (cI, n, .inl f)), (h2, .inr (2, [.ref b2, .int (nI u2)])), (b2, .inl (cI, n2, .inl g))] sz)) 0 0 (va_A [(h, .inr (2, [.ref b, .int (nI u)])), (b, .inl (cI, n, .inl f)), (h2, .inr (2, [.ref b2, .int (nI u2)])), (b2, .inl (cI, n2, .inl g))] sz) := by
  refine Met.ofW (cc := cX2_append) (maxL := 5) (ret := none) (by decide) rfl ?_
  intro p e s m args below meth c s₁ B hml hv
  obtain ⟨rfl, hsz, hP, hK, hD0, hT⟩ := hv
  have hx := B.exec
  have hb := B.bytes
  have hr := B.returns
  have hts := atoms_spec (ws := wsX2_append) B.pre
  have hown : s.vm.findClass RX2 = some m.cls := findClass_of_methodNamed B.named
  have hlocks := B.notSynchronized
  subst hsz
  have hD := hD0.self (sz := s.heap.size)
  generalize hAe : va_A [(h, .inr (2, [.ref b, .int (nI u)])), (b, .inl (cI, n, .inl f)), (h2, .inr (2, [.ref b2, .int (nI u2)])), (b2, .inl (cI, n2, .inl g))] s.heap.size = A at hD hT ⊢
  have hA : ∀ q : Nat, s.heap.size ≤ q → A q := fun q h => by rw [← hAe]; exact Or.inr h
  have hS : va_S A s.heap s.heap [] := va_S.rf
  have hl := lv_entry ([.ref h, .ref h2, .int (nI k)]) (n := 5) (Nat.le_of_ble_eq_true rfl)
  rw [lg_entry_eq]
  generalize (lg_sl ([.ref h, .ref h2, .int (nI k)]) ++ List.replicate (5 - (lg_sl ([.ref h, .ref h2, .int (nI k)])).length) Slot.unset).toArray = ls at hl ⊢
  have hl : lv_has ls 5 [(0, .ref h), (1, .ref h2), (2, .int (nI k))] := hl
  refine sm_name (fun Q hQ => ?_)
  have hf_9 := hts (.fieldLink RX2 9 "SeedMill$Row" "used" "I") (by decide +kernel)
  have hw_X2 : ∀ w ∈ wsX20, w ∈ wsX2_append := by decide +kernel
  have hf_15 := hts (.fieldLink RX2 15 "SeedMill$Row" "bytes" "[I") (by decide +kernel)
  refine lv_iload_n hx hb dX2_append_0 rfl (lv_at hl 2 rfl) ?_
  refine lv_aload_n hx hb dX2_append_1 rfl (lv_at hl 1 rfl) ?_
  refine va_get (D := D) (ci := 2) (v := .int (nI u2)) (C := RX2) (T := TX2) (N := 2) hx hb hts hw_X2 hown hK hP 2 rfl rfl 1 (by decide) hf_9 (fun _ h9 => h9) rfl dX2_append_2 ?_
  refine va_mmin hx hb (hml.trans hl.1.symm) hown (hts (.methodLink RX2 25 Lib.Math.min.name) (by decide +kernel)) (hts (.static Lib.Math.min.name) (by decide +kernel)) (hts (.initialized "java/lang/Math") (by decide +kernel)) (hts (.code Lib.Math.min.name Lib.Math.min.code 2 (some .int)) (by decide +kernel)) (Nat.le_of_ble_eq_true rfl) (Nat.le_of_ble_eq_true rfl) (Nat.zero_le _) (Nat.zero_le _) dX2_append_5 ?_
  refine sm_top (z := nI (min k u2)) (sm_min hk (by omega)) ?_
  refine lv_istore_n (lv' := [(3, .int (nI (min k u2))), (0, .ref h), (1, .ref h2), (2, .int (nI k))]) hx hb dX2_append_8 rfl hl (by decide) rfl (fun ls hl => ?_)
  refine lv_iconst (v := 0) hx hb dX2_append_9 (by decide) ?_
  refine lv_istore (lv' := [(4, .int 0), (3, .int (nI (min k u2))), (0, .ref h), (1, .ref h2), (2, .int (nI k))]) hx hb dX2_append_10 hl (by decide) rfl (fun ls hl => ?_)
  have lp12 : ∀ (zn : Nat) (i : Nat) (H : Heap) (locs : List Loc) (ls : Array Slot), min k u2 - i < zn → i ≤ min k u2 → va_P D vwCl [(h, .inr (2, [.ref b, .int (nI (u + i))])), (b, .inl (cI, n, .inl (sm_ap f u g i))), (h2, .inr (2, [.ref b2, .int (nI u2)])), (b2, .inl (cI, n2, .inl g))] H → va_D A [(h, .inr (2, [.ref b, .int (nI (u + i))])), (b, .inl (cI, n, .inl (sm_ap f u g i))), (h2, .inr (2, [.ref b2, .int (nI u2)])), (b2, .inl (cI, n2, .inl g))] → va_S A s.heap H locs → lv_has ls 5 [(4, .int (nI i)), (3, .int (nI (min k u2))), (0, .ref h), (1, .ref h2), (2, .int (nI k))] → W p l e (headSpec wsX2_append rm_X2_append).room s m ([.ref h, .ref h2, .int (nI k)] : List Value).toArray below meth c H locs 0 0 Q (F0 m 12 ls []) := by
    intro zn
    induction zn with
    | zero => intro i H locs ls hmu; exact absurd hmu (Nat.not_lt_zero _)
    | succ zn ih =>
      intro i H locs ls hmu hi_12 hP hD hS hl
      refine lv_iload hx hb dX2_append_12 (lv_at hl 0 rfl) ?_
      refine lv_iload_n hx hb dX2_append_14 rfl (lv_at hl 1 rfl) ?_
      refine lv_icmp_ge (tgt := 35) hx hb dX2_append_15 (by decide) (fun c_15 => ?_) (fun c_15 => ?_)
      ·
        have hex_12 : i = min k u2 := by
          rcases Nat.lt_or_ge i (min k u2) with q | q
          · exact absurd c_15 (nI_ge q (by omega))
          · omega
        rw [hQ]
        rw [hex_12] at hP hD
        have hP9 : va_P D vwCl [(h, .inr (2, [.ref b, .int (nI (u + min k u2))])), (b, .inl (cI, n, .inl (sm_ap f u g (min k u2)))), (h2, .inr (2, [.ref b2, .int (nI u2)])), (b2, .inl (cI, n2, .inl g))] H := hP
        have hD9 : va_D A [(h, .inr (2, [.ref b, .int (nI (u + min k u2))])), (b, .inl (cI, n, .inl (sm_ap f u g (min k u2)))), (h2, .inr (2, [.ref b2, .int (nI u2)])), (b2, .inl (cI, n2, .inl g))] := hD
        exact W.vret hx hb hr (fun t ht hW => ⟨⟨(), rfl, trivial, ⟨by rw [ht]; exact hP9, va_K.moved hW.alike hK, hD9⟩⟩, hS.F ht⟩) hS.2.2 dX2_append_35
      ·
        have hlt_12 : i < min k u2 := by
          rcases Nat.lt_or_ge i (min k u2) with q | q
          · exact q
          · exact absurd (nI_le q (by omega)) c_15
        refine lv_aload_n hx hb dX2_append_18 rfl (lv_at hl 2 rfl) ?_
        refine lv_aload_n hx hb dX2_append_19 rfl (lv_at hl 3 rfl) ?_
        refine va_get (D := D) (ci := 2) (v := .ref b2) (C := RX2) (T := TX2) (N := 2) hx hb hts hw_X2 hown hK hP 2 rfl rfl 0 (by decide) hf_15 (fun _ h9 => h9) rfl dX2_append_20 ?_
        refine lv_iload hx hb dX2_append_23 (lv_at hl 0 rfl) ?_
        refine va_iald (i := nI i) hx hb hK hP 3 0 rfl rfl (vp_in_nI (n := i) (by omega) (by omega)) dX2_append_25 ?_
        refine sm_top (z := g i) (congrArg g (nI_clamp (n := i) (by omega))) ?_
        refine sm_callVv (wc := [(h, .inr (2, [.ref b, .int (nI (u + i))])), (b, .inl (cI, n, .inl (sm_ap f u g i)))]) (wr := [(h2, .inr (2, [.ref b2, .int (nI u2)])), (b2, .inl (cI, n2, .inl g))]) (As := [.int (g i)]) (rest := []) ⟨hx, hb, hml, hown, hts⟩ (sc_X2_put l D cI th _ h b n (u + i) (sm_ap f u g i) (g i) (by omega) hn) (cwV 1 hts gX2_append_X2_put rfl rfl rfl (by decide +kernel) ⟨Nat.le_of_ble_eq_true rfl, Nat.le_of_ble_eq_true rfl⟩) hP hD hS hA hK hT [0, 1] [2, 3] rfl rfl rfl rfl (by decide) 0 2 rfl rfl rfl rfl hl.1 rfl (Nat.le_of_ble_eq_true rfl) dX2_append_26 ⟨Nat.zero_le _, Nat.zero_le _⟩ (fun zt H1 locs ht hvm hB hJ hS => ?_)
        obtain ⟨hP1, -, hD1⟩ := hB
        rw [ht] at hP1
        obtain ⟨hP, hD⟩ := hJ _ hP1 hD1
        clear hJ
        generalize H1 = H at hP hS ⊢
        have hP : va_P D vwCl [(h, .inr (2, [.ref b, .int (nI (u + i + 1))])), (b, .inl (cI, n, .inl (upd (sm_ap f u g i) (u + i) (g i)))), (h2, .inr (2, [.ref b2, .int (nI u2)])), (b2, .inl (cI, n2, .inl g))] H := hP.sub [2, 3, 0, 1] rfl
        have hD : va_D A [(h, .inr (2, [.ref b, .int (nI (u + i + 1))])), (b, .inl (cI, n, .inl (upd (sm_ap f u g i) (u + i) (g i)))), (h2, .inr (2, [.ref b2, .int (nI u2)])), (b2, .inl (cI, n2, .inl g))] := hD.sub [2, 3, 0, 1] rfl rfl
        refine lv_iinc (v := nI (i + 1)) (lv' := [(4, .int (nI (i + 1))), (3, .int (nI (min k u2))), (0, .ref h), (1, .ref h2), (2, .int (nI k))]) hx hb dX2_append_29 hl (k := 0) rfl (nI_1 i) (by decide) rfl (fun ls hl => ?_)
        refine lv_goto (tgt := 12) hx hb dX2_append_32 (by decide) ?_
        rw [sm_ap_s] at hP hD
        exact ih (i + 1) _ _ _ (by omega) (by omega) hP hD hS (lv_sub hl [0, 1, 2, 3, 4] rfl)
  exact lp12 _ 0 _ _ _ (Nat.lt_succ_self _) (Nat.zero_le _) (by rw [sm_ap_0]; exact hP) (by rw [sm_ap_0]; exact hD) hS (lv_sub hl [0, 1, 2, 3, 4] rfl)

def rm_X2_appendXor : Room := ({ frames := 1, cells := 0, slots := 0, locals := 21 } : Room)
set_option maxHeartbeats 4000000 in
set_option maxRecDepth 100000 in
/-- Row.appendXor within the limit -/
theorem sc_X2_appendXor (l : Launch) (D : va_G) (cI : ClassId) (th : Option (Nat × Nat)) (sz : Nat) (h b n u h2 b2 n2 u2 : Nat) (f g : Nat → Int32) (x : Int32) (hE : u + u2 ≤ n) (hu2 : u2 ≤ n2) (hn : n < 2 ^ 31) (hn2 : n2 < 2 ^ 31) : Met l yX2_appendXor wsX2_appendXor rm_X2_appendXor (va_Pc [.ref h, .ref h2, .int x] (sm_PW D cI th [(h, .inr (2, [.ref b, .int (nI u)])), (b, .inl (cI, n, .inl f)), (h2, .inr (2, [.ref b2, .int (nI u2)])), (b2, .inl (cI, n2, .inl g))] sz)) (va_Qv (fun (_ : Unit) => True) (fun _ t => sm_QW D cI (va_A [(h, .inr (2, [.ref b, .int (nI u)])), (b, .inl (cI, n, .inl f)), (h2, .inr (2, [.ref b2, .int (nI u2)])), (b2, .inl (cI, n2, .inl g))] sz) [(h, .inr (2, [.ref b, .int (nI (u + u2))])), (b, .inl (cI, n, .inl (sm_ap f u (fun j => g j ^^^ x) u2))), (h2, .inr (2, [.ref b2, .int (nI u2)])), (b2, .inl (cI, n2, .inl g))] t) (va_A [(h, .inr (2, [.ref b, .int (nI u)])), (b, .inl (cI, n, .inl f)), (h2, .inr (2, [.ref b2, .int (nI u2)])), (b2, .inl (cI, n2, .inl g))] sz)) 0 0 (va_A [(h, .inr (2, [.ref b, .int (nI u)])), (b, .inl (cI, n, .inl f)), (h2, .inr (2, [.ref b2, .int (nI u2)])), (b2, .inl (cI, n2, .inl g))] sz) := by
  refine Met.ofW (cc := cX2_appendXor) (maxL := 4) (ret := none) (by decide) rfl ?_
  intro p e s m args below meth c s₁ B hml hv
  obtain ⟨rfl, hsz, hP, hK, hD0, hT⟩ := hv
  have hx := B.exec
  have hb := B.bytes
  have hr := B.returns
  have hts := atoms_spec (ws := wsX2_appendXor) B.pre
  have hown : s.vm.findClass RX2 = some m.cls := findClass_of_methodNamed B.named
  have hlocks := B.notSynchronized
  subst hsz
  have hD := hD0.self (sz := s.heap.size)
  generalize hAe : va_A [(h, .inr (2, [.ref b, .int (nI u)])), (b, .inl (cI, n, .inl f)), (h2, .inr (2, [.ref b2, .int (nI u2)])), (b2, .inl (cI, n2, .inl g))] s.heap.size = A at hD hT ⊢
  have hA : ∀ q : Nat, s.heap.size ≤ q → A q := fun q h => by rw [← hAe]; exact Or.inr h
  have hS : va_S A s.heap s.heap [] := va_S.rf
  have hl := lv_entry ([.ref h, .ref h2, .int x]) (n := 4) (Nat.le_of_ble_eq_true rfl)
  rw [lg_entry_eq]
  generalize (lg_sl ([.ref h, .ref h2, .int x]) ++ List.replicate (4 - (lg_sl ([.ref h, .ref h2, .int x])).length) Slot.unset).toArray = ls at hl ⊢
  have hl : lv_has ls 4 [(0, .ref h), (1, .ref h2), (2, .int x)] := hl
  refine sm_name (fun Q hQ => ?_)
  have hf_9 := hts (.fieldLink RX2 9 "SeedMill$Row" "used" "I") (by decide +kernel)
  have hw_X2 : ∀ w ∈ wsX20, w ∈ wsX2_appendXor := by decide +kernel
  have hf_15 := hts (.fieldLink RX2 15 "SeedMill$Row" "bytes" "[I") (by decide +kernel)
  refine lv_iconst (v := 0) hx hb dX2_appendXor_0 (by decide) ?_
  refine lv_istore_n (lv' := [(3, .int 0), (0, .ref h), (1, .ref h2), (2, .int x)]) hx hb dX2_appendXor_1 rfl hl (by decide) rfl (fun ls hl => ?_)
  have lp2 : ∀ (zn : Nat) (i : Nat) (H : Heap) (locs : List Loc) (ls : Array Slot), u2 - i < zn → i ≤ u2 → va_P D vwCl [(h, .inr (2, [.ref b, .int (nI (u + i))])), (b, .inl (cI, n, .inl (sm_ap f u (fun j => g j ^^^ x) i))), (h2, .inr (2, [.ref b2, .int (nI u2)])), (b2, .inl (cI, n2, .inl g))] H → va_D A [(h, .inr (2, [.ref b, .int (nI (u + i))])), (b, .inl (cI, n, .inl (sm_ap f u (fun j => g j ^^^ x) i))), (h2, .inr (2, [.ref b2, .int (nI u2)])), (b2, .inl (cI, n2, .inl g))] → va_S A s.heap H locs → lv_has ls 4 [(3, .int (nI i)), (0, .ref h), (1, .ref h2), (2, .int x)] → W p l e (headSpec wsX2_appendXor rm_X2_appendXor).room s m ([.ref h, .ref h2, .int x] : List Value).toArray below meth c H locs 0 0 Q (F0 m 2 ls []) := by
    intro zn
    induction zn with
    | zero => intro i H locs ls hmu; exact absurd hmu (Nat.not_lt_zero _)
    | succ zn ih =>
      intro i H locs ls hmu hi_2 hP hD hS hl
      refine lv_iload_n hx hb dX2_appendXor_2 rfl (lv_at hl 0 rfl) ?_
      refine lv_aload_n hx hb dX2_appendXor_3 rfl (lv_at hl 2 rfl) ?_
      refine va_get (D := D) (ci := 2) (v := .int (nI u2)) (C := RX2) (T := TX2) (N := 2) hx hb hts hw_X2 hown hK hP 2 rfl rfl 1 (by decide) hf_9 (fun _ h9 => h9) rfl dX2_appendXor_4 ?_
      refine lv_icmp_ge (tgt := 28) hx hb dX2_appendXor_7 (by decide) (fun c_7 => ?_) (fun c_7 => ?_)
      ·
        have hex_2 : i = u2 := by
          rcases Nat.lt_or_ge i (u2) with q | q
          · exact absurd c_7 (nI_ge q (by omega))
          · omega
        rw [hQ]
        rw [hex_2] at hP hD
        have hP9 : va_P D vwCl [(h, .inr (2, [.ref b, .int (nI (u + u2))])), (b, .inl (cI, n, .inl (sm_ap f u (fun j => g j ^^^ x) u2))), (h2, .inr (2, [.ref b2, .int (nI u2)])), (b2, .inl (cI, n2, .inl g))] H := hP
        have hD9 : va_D A [(h, .inr (2, [.ref b, .int (nI (u + u2))])), (b, .inl (cI, n, .inl (sm_ap f u (fun j => g j ^^^ x) u2))), (h2, .inr (2, [.ref b2, .int (nI u2)])), (b2, .inl (cI, n2, .inl g))] := hD
        exact W.vret hx hb hr (fun t ht hW => ⟨⟨(), rfl, trivial, ⟨by rw [ht]; exact hP9, va_K.moved hW.alike hK, hD9⟩⟩, hS.F ht⟩) hS.2.2 dX2_appendXor_28
      ·
        have hlt_2 : i < u2 := by
          rcases Nat.lt_or_ge i (u2) with q | q
          · exact q
          · exact absurd (nI_le q (by omega)) c_7
        refine lv_aload_n hx hb dX2_appendXor_10 rfl (lv_at hl 1 rfl) ?_
        refine lv_aload_n hx hb dX2_appendXor_11 rfl (lv_at hl 2 rfl) ?_
        refine va_get (D := D) (ci := 2) (v := .ref b2) (C := RX2) (T := TX2) (N := 2) hx hb hts hw_X2 hown hK hP 2 rfl rfl 0 (by decide) hf_15 (fun _ h9 => h9) rfl dX2_appendXor_12 ?_
        refine lv_iload_n hx hb dX2_appendXor_15 rfl (lv_at hl 0 rfl) ?_
        refine va_iald (i := nI i) hx hb hK hP 3 0 rfl rfl (vp_in_nI (n := i) (by omega) (by omega)) dX2_appendXor_16 ?_
        refine sm_top (z := g i) (congrArg g (nI_clamp (n := i) (by omega))) ?_
        refine lv_iload_n hx hb dX2_appendXor_17 rfl (lv_at hl 3 rfl) ?_
        refine lv_ixor hx hb dX2_appendXor_18 ?_
        refine sm_callVv (wc := [(h, .inr (2, [.ref b, .int (nI (u + i))])), (b, .inl (cI, n, .inl (sm_ap f u (fun j => g j ^^^ x) i)))]) (wr := [(h2, .inr (2, [.ref b2, .int (nI u2)])), (b2, .inl (cI, n2, .inl g))]) (As := [.int ((g i) ^^^ x)]) (rest := []) ⟨hx, hb, hml, hown, hts⟩ (sc_X2_put l D cI th _ h b n (u + i) (sm_ap f u (fun j => g j ^^^ x) i) ((g i) ^^^ x) (by omega) hn) (cwV 1 hts gX2_appendXor_X2_put rfl rfl rfl (by decide +kernel) ⟨Nat.le_of_ble_eq_true rfl, Nat.le_of_ble_eq_true rfl⟩) hP hD hS hA hK hT [0, 1] [2, 3] rfl rfl rfl rfl (by decide) 0 2 rfl rfl rfl rfl hl.1 rfl (Nat.le_of_ble_eq_true rfl) dX2_appendXor_19 ⟨Nat.zero_le _, Nat.zero_le _⟩ (fun zt H1 locs ht hvm hB hJ hS => ?_)
        obtain ⟨hP1, -, hD1⟩ := hB
        rw [ht] at hP1
        obtain ⟨hP, hD⟩ := hJ _ hP1 hD1
        clear hJ
        generalize H1 = H at hP hS ⊢
        have hP : va_P D vwCl [(h, .inr (2, [.ref b, .int (nI (u + i + 1))])), (b, .inl (cI, n, .inl (upd (sm_ap f u (fun j => g j ^^^ x) i) (u + i) ((g i) ^^^ x)))), (h2, .inr (2, [.ref b2, .int (nI u2)])), (b2, .inl (cI, n2, .inl g))] H := hP.sub [2, 3, 0, 1] rfl
        have hD : va_D A [(h, .inr (2, [.ref b, .int (nI (u + i + 1))])), (b, .inl (cI, n, .inl (upd (sm_ap f u (fun j => g j ^^^ x) i) (u + i) ((g i) ^^^ x)))), (h2, .inr (2, [.ref b2, .int (nI u2)])), (b2, .inl (cI, n2, .inl g))] := hD.sub [2, 3, 0, 1] rfl rfl
        refine lv_iinc (v := nI (i + 1)) (lv' := [(3, .int (nI (i + 1))), (0, .ref h), (1, .ref h2), (2, .int x)]) hx hb dX2_appendXor_22 hl (k := 0) rfl (nI_1 i) (by decide) rfl (fun ls hl => ?_)
        refine lv_goto (tgt := 2) hx hb dX2_appendXor_25 (by decide) ?_
        rw [show upd (sm_ap f u (fun j => g j ^^^ x) i) (u + i) (g i ^^^ x) = _ from sm_ap_s f u (fun j => g j ^^^ x) i] at hP hD
        exact ih (i + 1) _ _ _ (by omega) (by omega) hP hD hS (lv_sub hl [0, 1, 2, 3] rfl)
  exact lp2 _ 0 _ _ _ (Nat.lt_succ_self _) (Nat.zero_le _) (by rw [sm_ap_0]; exact hP) (by rw [sm_ap_0]; exact hD) hS (lv_sub hl [0, 1, 2, 3] rfl)

def rm_X2_putWord : Room := ({ frames := 1, cells := 0, slots := 0, locals := 21 } : Room)
set_option maxHeartbeats 4000000 in
set_option maxRecDepth 100000 in
/-- Row.putWord within the limit -/
theorem sc_X2_putWord (l : Launch) (D : va_G) (cI : ClassId) (th : Option (Nat × Nat)) (sz : Nat) (h b n u : Nat) (f : Nat → Int32) (x : Int32) (hu : u + 4 ≤ n) (hn : n < 2 ^ 31) : Met l yX2_putWord wsX2_putWord rm_X2_putWord (va_Pc [.ref h, .int x] (sm_PW D cI th [(h, .inr (2, [.ref b, .int (nI u)])), (b, .inl (cI, n, .inl f))] sz)) (va_Qv (fun (_ : Unit) => True) (fun _ t => sm_QW D cI (va_A [(h, .inr (2, [.ref b, .int (nI u)])), (b, .inl (cI, n, .inl f))] sz) [(h, .inr (2, [.ref b, .int (nI (u + 4))])), (b, .inl (cI, n, .inl (sm_ap f u (sm_wb x) 4)))] t) (va_A [(h, .inr (2, [.ref b, .int (nI u)])), (b, .inl (cI, n, .inl f))] sz)) 0 0 (va_A [(h, .inr (2, [.ref b, .int (nI u)])), (b, .inl (cI, n, .inl f))] sz) := by
  refine Met.ofW (cc := cX2_putWord) (maxL := 3) (ret := none) (by decide) rfl ?_
  intro p e s m args below meth c s₁ B hml hv
  obtain ⟨rfl, hsz, hP, hK, hD0, hT⟩ := hv
  have hx := B.exec
  have hb := B.bytes
  have hr := B.returns
  have hts := atoms_spec (ws := wsX2_putWord) B.pre
  have hown : s.vm.findClass RX2 = some m.cls := findClass_of_methodNamed B.named
  have hlocks := B.notSynchronized
  subst hsz
  have hD := hD0.self (sz := s.heap.size)
  generalize hAe : va_A [(h, .inr (2, [.ref b, .int (nI u)])), (b, .inl (cI, n, .inl f))] s.heap.size = A at hD hT ⊢
  have hA : ∀ q : Nat, s.heap.size ≤ q → A q := fun q h => by rw [← hAe]; exact Or.inr h
  have hS : va_S A s.heap s.heap [] := va_S.rf
  have hl := lv_entry ([.ref h, .int x]) (n := 3) (Nat.le_of_ble_eq_true rfl)
  rw [lg_entry_eq]
  generalize (lg_sl ([.ref h, .int x]) ++ List.replicate (3 - (lg_sl ([.ref h, .int x])).length) Slot.unset).toArray = ls at hl ⊢
  have hl : lv_has ls 3 [(0, .ref h), (1, .int x)] := hl
  refine sm_name (fun Q hQ => ?_)
  refine lv_bipush (v := 24) hx hb dX2_putWord_0 (by decide) ?_
  refine lv_istore_n (lv' := [(2, .int 24), (0, .ref h), (1, .int x)]) hx hb dX2_putWord_2 rfl hl (by decide) rfl (fun ls hl => ?_)
  refine lv_iload_n hx hb dX2_putWord_3 rfl (lv_at hl 0 rfl) ?_
  refine lv_if_lt (tgt := 24) hx hb dX2_putWord_4 (by decide) (fun c_4 => ?_) (fun c_4 => ?_)
  ·
    exact absurd c_4 (by decide)
  ·
    refine lv_aload_n hx hb dX2_putWord_7 rfl (lv_at hl 1 rfl) ?_
    refine lv_iload_n hx hb dX2_putWord_8 rfl (lv_at hl 2 rfl) ?_
    refine lv_iload_n hx hb dX2_putWord_9 rfl (lv_at hl 0 rfl) ?_
    refine lv_iushr (v := sm_us x 24) hx hb dX2_putWord_10 rfl ?_
    refine lv_sipush (v := 255) hx hb dX2_putWord_11 (by decide) ?_
    refine lv_iand hx hb dX2_putWord_14 ?_
    refine sm_callVv (wc := [(h, .inr (2, [.ref b, .int (nI u)])), (b, .inl (cI, n, .inl f))]) (wr := []) (As := [.int ((sm_us x 24) &&& 255)]) (rest := []) ⟨hx, hb, hml, hown, hts⟩ (sc_X2_put l D cI th _ h b n u f ((sm_us x 24) &&& 255) (by omega) hn) (cwV 1 hts gX2_putWord_X2_put rfl rfl rfl (by decide +kernel) ⟨Nat.le_of_ble_eq_true rfl, Nat.le_of_ble_eq_true rfl⟩) hP hD hS hA hK hT [0, 1] [] rfl rfl rfl rfl (by decide) 0 2 rfl rfl rfl rfl hl.1 rfl (Nat.le_of_ble_eq_true rfl) dX2_putWord_15 ⟨Nat.zero_le _, Nat.zero_le _⟩ (fun zt H1 locs ht hvm hB hJ hS => ?_)
    obtain ⟨hP1, -, hD1⟩ := hB
    rw [ht] at hP1
    obtain ⟨hP, hD⟩ := hJ _ hP1 hD1
    clear hJ
    generalize H1 = H at hP hS ⊢
    have hP : va_P D vwCl [(h, .inr (2, [.ref b, .int (nI (u + 1))])), (b, .inl (cI, n, .inl (upd f u ((sm_us x 24) &&& 255))))] H := hP.sub [0, 1] rfl
    have hD : va_D A [(h, .inr (2, [.ref b, .int (nI (u + 1))])), (b, .inl (cI, n, .inl (upd f u ((sm_us x 24) &&& 255))))] := hD.sub [0, 1] rfl rfl
    refine lv_iinc (v := 16) (lv' := [(2, .int 16), (0, .ref h), (1, .int x)]) hx hb dX2_putWord_18 hl (k := 0) rfl (by decide) (by decide) rfl (fun ls hl => ?_)
    refine lv_goto (tgt := 3) hx hb dX2_putWord_21 (by decide) ?_
    refine lv_iload_n hx hb dX2_putWord_3 rfl (lv_at hl 0 rfl) ?_
    refine lv_if_lt (tgt := 24) hx hb dX2_putWord_4 (by decide) (fun c_4 => ?_) (fun c_4 => ?_)
    ·
      exact absurd c_4 (by decide)
    ·
      refine lv_aload_n hx hb dX2_putWord_7 rfl (lv_at hl 1 rfl) ?_
      refine lv_iload_n hx hb dX2_putWord_8 rfl (lv_at hl 2 rfl) ?_
      refine lv_iload_n hx hb dX2_putWord_9 rfl (lv_at hl 0 rfl) ?_
      refine lv_iushr (v := sm_us x 16) hx hb dX2_putWord_10 rfl ?_
      refine lv_sipush (v := 255) hx hb dX2_putWord_11 (by decide) ?_
      refine lv_iand hx hb dX2_putWord_14 ?_
      refine sm_callVv (wc := [(h, .inr (2, [.ref b, .int (nI (u + 1))])), (b, .inl (cI, n, .inl (upd f u ((sm_us x 24) &&& 255))))]) (wr := []) (As := [.int ((sm_us x 16) &&& 255)]) (rest := []) ⟨hx, hb, hml, hown, hts⟩ (sc_X2_put l D cI th _ h b n (u + 1) (upd f u ((sm_us x 24) &&& 255)) ((sm_us x 16) &&& 255) (by omega) hn) (cwV 1 hts gX2_putWord_X2_put rfl rfl rfl (by decide +kernel) ⟨Nat.le_of_ble_eq_true rfl, Nat.le_of_ble_eq_true rfl⟩) hP hD hS hA hK hT [0, 1] [] rfl rfl rfl rfl (by decide) 0 2 rfl rfl rfl rfl hl.1 rfl (Nat.le_of_ble_eq_true rfl) dX2_putWord_15 ⟨Nat.zero_le _, Nat.zero_le _⟩ (fun zt H1 locs ht hvm hB hJ hS => ?_)
      obtain ⟨hP1, -, hD1⟩ := hB
      rw [ht] at hP1
      obtain ⟨hP, hD⟩ := hJ _ hP1 hD1
      clear hJ
      generalize H1 = H at hP hS ⊢
      have hP : va_P D vwCl [(h, .inr (2, [.ref b, .int (nI (u + 1 + 1))])), (b, .inl (cI, n, .inl (upd (upd f u ((sm_us x 24) &&& 255)) (u + 1) ((sm_us x 16) &&& 255))))] H := hP.sub [0, 1] rfl
      have hD : va_D A [(h, .inr (2, [.ref b, .int (nI (u + 1 + 1))])), (b, .inl (cI, n, .inl (upd (upd f u ((sm_us x 24) &&& 255)) (u + 1) ((sm_us x 16) &&& 255))))] := hD.sub [0, 1] rfl rfl
      refine lv_iinc (v := 8) (lv' := [(2, .int 8), (0, .ref h), (1, .int x)]) hx hb dX2_putWord_18 hl (k := 0) rfl (by decide) (by decide) rfl (fun ls hl => ?_)
      refine lv_goto (tgt := 3) hx hb dX2_putWord_21 (by decide) ?_
      refine lv_iload_n hx hb dX2_putWord_3 rfl (lv_at hl 0 rfl) ?_
      refine lv_if_lt (tgt := 24) hx hb dX2_putWord_4 (by decide) (fun c_4 => ?_) (fun c_4 => ?_)
      ·
        exact absurd c_4 (by decide)
      ·
        refine lv_aload_n hx hb dX2_putWord_7 rfl (lv_at hl 1 rfl) ?_
        refine lv_iload_n hx hb dX2_putWord_8 rfl (lv_at hl 2 rfl) ?_
        refine lv_iload_n hx hb dX2_putWord_9 rfl (lv_at hl 0 rfl) ?_
        refine lv_iushr (v := sm_us x 8) hx hb dX2_putWord_10 rfl ?_
        refine lv_sipush (v := 255) hx hb dX2_putWord_11 (by decide) ?_
        refine lv_iand hx hb dX2_putWord_14 ?_
        refine sm_callVv (wc := [(h, .inr (2, [.ref b, .int (nI (u + 1 + 1))])), (b, .inl (cI, n, .inl (upd (upd f u ((sm_us x 24) &&& 255)) (u + 1) ((sm_us x 16) &&& 255))))]) (wr := []) (As := [.int ((sm_us x 8) &&& 255)]) (rest := []) ⟨hx, hb, hml, hown, hts⟩ (sc_X2_put l D cI th _ h b n (u + 1 + 1) (upd (upd f u ((sm_us x 24) &&& 255)) (u + 1) ((sm_us x 16) &&& 255)) ((sm_us x 8) &&& 255) (by omega) hn) (cwV 1 hts gX2_putWord_X2_put rfl rfl rfl (by decide +kernel) ⟨Nat.le_of_ble_eq_true rfl, Nat.le_of_ble_eq_true rfl⟩) hP hD hS hA hK hT [0, 1] [] rfl rfl rfl rfl (by decide) 0 2 rfl rfl rfl rfl hl.1 rfl (Nat.le_of_ble_eq_true rfl) dX2_putWord_15 ⟨Nat.zero_le _, Nat.zero_le _⟩ (fun zt H1 locs ht hvm hB hJ hS => ?_)
        obtain ⟨hP1, -, hD1⟩ := hB
        rw [ht] at hP1
        obtain ⟨hP, hD⟩ := hJ _ hP1 hD1
        clear hJ
        generalize H1 = H at hP hS ⊢
        have hP : va_P D vwCl [(h, .inr (2, [.ref b, .int (nI (u + 1 + 1 + 1))])), (b, .inl (cI, n, .inl (upd (upd (upd f u ((sm_us x 24) &&& 255)) (u + 1) ((sm_us x 16) &&& 255)) (u + 1 + 1) ((sm_us x 8) &&& 255))))] H := hP.sub [0, 1] rfl
        have hD : va_D A [(h, .inr (2, [.ref b, .int (nI (u + 1 + 1 + 1))])), (b, .inl (cI, n, .inl (upd (upd (upd f u ((sm_us x 24) &&& 255)) (u + 1) ((sm_us x 16) &&& 255)) (u + 1 + 1) ((sm_us x 8) &&& 255))))] := hD.sub [0, 1] rfl rfl
        refine lv_iinc (v := 0) (lv' := [(2, .int 0), (0, .ref h), (1, .int x)]) hx hb dX2_putWord_18 hl (k := 0) rfl (by decide) (by decide) rfl (fun ls hl => ?_)
        refine lv_goto (tgt := 3) hx hb dX2_putWord_21 (by decide) ?_
        refine lv_iload_n hx hb dX2_putWord_3 rfl (lv_at hl 0 rfl) ?_
        refine lv_if_lt (tgt := 24) hx hb dX2_putWord_4 (by decide) (fun c_4 => ?_) (fun c_4 => ?_)
        ·
          exact absurd c_4 (by decide)
        ·
          refine lv_aload_n hx hb dX2_putWord_7 rfl (lv_at hl 1 rfl) ?_
          refine lv_iload_n hx hb dX2_putWord_8 rfl (lv_at hl 2 rfl) ?_
          refine lv_iload_n hx hb dX2_putWord_9 rfl (lv_at hl 0 rfl) ?_
          refine lv_iushr (v := sm_us x 0) hx hb dX2_putWord_10 rfl ?_
          refine lv_sipush (v := 255) hx hb dX2_putWord_11 (by decide) ?_
          refine lv_iand hx hb dX2_putWord_14 ?_
          refine sm_callVv (wc := [(h, .inr (2, [.ref b, .int (nI (u + 1 + 1 + 1))])), (b, .inl (cI, n, .inl (upd (upd (upd f u ((sm_us x 24) &&& 255)) (u + 1) ((sm_us x 16) &&& 255)) (u + 1 + 1) ((sm_us x 8) &&& 255))))]) (wr := []) (As := [.int ((sm_us x 0) &&& 255)]) (rest := []) ⟨hx, hb, hml, hown, hts⟩ (sc_X2_put l D cI th _ h b n (u + 1 + 1 + 1) (upd (upd (upd f u ((sm_us x 24) &&& 255)) (u + 1) ((sm_us x 16) &&& 255)) (u + 1 + 1) ((sm_us x 8) &&& 255)) ((sm_us x 0) &&& 255) (by omega) hn) (cwV 1 hts gX2_putWord_X2_put rfl rfl rfl (by decide +kernel) ⟨Nat.le_of_ble_eq_true rfl, Nat.le_of_ble_eq_true rfl⟩) hP hD hS hA hK hT [0, 1] [] rfl rfl rfl rfl (by decide) 0 2 rfl rfl rfl rfl hl.1 rfl (Nat.le_of_ble_eq_true rfl) dX2_putWord_15 ⟨Nat.zero_le _, Nat.zero_le _⟩ (fun zt H1 locs ht hvm hB hJ hS => ?_)
          obtain ⟨hP1, -, hD1⟩ := hB
          rw [ht] at hP1
          obtain ⟨hP, hD⟩ := hJ _ hP1 hD1
          clear hJ
          generalize H1 = H at hP hS ⊢
          have hP : va_P D vwCl [(h, .inr (2, [.ref b, .int (nI (u + 1 + 1 + 1 + 1))])), (b, .inl (cI, n, .inl (upd (upd (upd (upd f u ((sm_us x 24) &&& 255)) (u + 1) ((sm_us x 16) &&& 255)) (u + 1 + 1) ((sm_us x 8) &&& 255)) (u + 1 + 1 + 1) ((sm_us x 0) &&& 255))))] H := hP.sub [0, 1] rfl
          have hD : va_D A [(h, .inr (2, [.ref b, .int (nI (u + 1 + 1 + 1 + 1))])), (b, .inl (cI, n, .inl (upd (upd (upd (upd f u ((sm_us x 24) &&& 255)) (u + 1) ((sm_us x 16) &&& 255)) (u + 1 + 1) ((sm_us x 8) &&& 255)) (u + 1 + 1 + 1) ((sm_us x 0) &&& 255))))] := hD.sub [0, 1] rfl rfl
          refine lv_iinc (v := (-8)) (lv' := [(2, .int (-8)), (0, .ref h), (1, .int x)]) hx hb dX2_putWord_18 hl (k := 0) rfl (by decide) (by decide) rfl (fun ls hl => ?_)
          refine lv_goto (tgt := 3) hx hb dX2_putWord_21 (by decide) ?_
          refine lv_iload_n hx hb dX2_putWord_3 rfl (lv_at hl 0 rfl) ?_
          refine lv_if_lt (tgt := 24) hx hb dX2_putWord_4 (by decide) (fun c_4 => ?_) (fun c_4 => ?_)
          ·
            rw [hQ]
            rw [sm_wb_4] at hP hD
            have hP9 : va_P D vwCl [(h, .inr (2, [.ref b, .int (nI (u + 4))])), (b, .inl (cI, n, .inl (sm_ap f u (sm_wb x) 4)))] H := hP
            have hD9 : va_D A [(h, .inr (2, [.ref b, .int (nI (u + 4))])), (b, .inl (cI, n, .inl (sm_ap f u (sm_wb x) 4)))] := hD
            exact W.vret hx hb hr (fun t ht hW => ⟨⟨(), rfl, trivial, ⟨by rw [ht]; exact hP9, va_K.moved hW.alike hK, hD9⟩⟩, hS.F ht⟩) hS.2.2 dX2_putWord_24
          ·
            exact absurd (show ((-8) : Int32) < 0 by decide) c_4

def rm_X2_at : Room := ({ frames := 0, cells := 0, slots := 0, locals := 0 } : Room)
set_option maxHeartbeats 4000000 in
set_option maxRecDepth 100000 in
/-- Row.at -/
theorem sc_X2_at (l : Launch) (D : va_G) (cI : ClassId) (th : Option (Nat × Nat)) (sz : Nat) (h b n k : Nat) (f : Nat → Int32) (i : Int32) (hk : k ≤ n) (hn : n < 2 ^ 31) : Met l yX2_at wsX2_at rm_X2_at (va_Pc [.ref h, .int i] (sm_PW D cI th [(h, .inr (2, [.ref b, .int (nI k)])), (b, .inl (cI, n, .inl f))] sz)) (va_Qi (fun (r : Int32) (_ : Unit) => r = sm_at f k i) (fun _ t => sm_QW D cI (va_A [(h, .inr (2, [.ref b, .int (nI k)])), (b, .inl (cI, n, .inl f))] sz) [(h, .inr (2, [.ref b, .int (nI k)])), (b, .inl (cI, n, .inl f))] t) (va_A [(h, .inr (2, [.ref b, .int (nI k)])), (b, .inl (cI, n, .inl f))] sz)) 0 0 (va_A [(h, .inr (2, [.ref b, .int (nI k)])), (b, .inl (cI, n, .inl f))] sz) := by
  refine Met.ofW (cc := cX2_at) (maxL := 2) (ret := (some .int)) (by decide) rfl ?_
  intro p e s m args below meth c s₁ B hml hv
  obtain ⟨rfl, hsz, hP, hK, hD0, hT⟩ := hv
  have hx := B.exec
  have hb := B.bytes
  have hr := B.returns
  have hts := atoms_spec (ws := wsX2_at) B.pre
  have hown : s.vm.findClass RX2 = some m.cls := findClass_of_methodNamed B.named
  have hlocks := B.notSynchronized
  subst hsz
  have hD := hD0.self (sz := s.heap.size)
  generalize hAe : va_A [(h, .inr (2, [.ref b, .int (nI k)])), (b, .inl (cI, n, .inl f))] s.heap.size = A at hD hT ⊢
  have hA : ∀ q : Nat, s.heap.size ≤ q → A q := fun q h => by rw [← hAe]; exact Or.inr h
  have hS : va_S A s.heap s.heap [] := va_S.rf
  have hl := lv_entry ([.ref h, .int i]) (n := 2) (Nat.le_of_ble_eq_true rfl)
  rw [lg_entry_eq]
  generalize (lg_sl ([.ref h, .int i]) ++ List.replicate (2 - (lg_sl ([.ref h, .int i])).length) Slot.unset).toArray = ls at hl ⊢
  have hl : lv_has ls 2 [(0, .ref h), (1, .int i)] := hl
  refine sm_name (fun Q hQ => ?_)
  have hf_9 := hts (.fieldLink RX2 9 "SeedMill$Row" "used" "I") (by decide +kernel)
  have hw_X2 : ∀ w ∈ wsX20, w ∈ wsX2_at := by decide +kernel
  have hf_15 := hts (.fieldLink RX2 15 "SeedMill$Row" "bytes" "[I") (by decide +kernel)
  refine lv_iload_n hx hb dX2_at_0 rfl (lv_at hl 1 rfl) ?_
  refine lv_if_lt (tgt := 21) hx hb dX2_at_1 (by decide) (fun c_1 => ?_) (fun c_1 => ?_)
  ·
    refine lv_iconst (v := (-1)) hx hb dX2_at_21 (by decide) ?_
    rw [hQ]
    have hP9 : va_P D vwCl [(h, .inr (2, [.ref b, .int (nI k)])), (b, .inl (cI, n, .inl f))] s.heap := hP
    have hD9 : va_D A [(h, .inr (2, [.ref b, .int (nI k)])), (b, .inl (cI, n, .inl f))] := hD
    exact W.iret (v := (-1)) hx hb hr (fun t ht hW => ⟨⟨(-1), (), rfl, (by unfold sm_at; rw [if_pos (by first | exact Or.inl c_1 | exact Or.inr c_9)]), ⟨by rw [ht]; exact hP9, va_K.moved hW.alike hK, hD9⟩⟩, hS.F ht⟩) hS.2.2 dX2_at_22
  ·
    refine lv_iload_n hx hb dX2_at_4 rfl (lv_at hl 1 rfl) ?_
    refine lv_aload_n hx hb dX2_at_5 rfl (lv_at hl 0 rfl) ?_
    refine va_get (D := D) (ci := 2) (v := .int (nI k)) (C := RX2) (T := TX2) (N := 2) hx hb hts hw_X2 hown hK hP 0 rfl rfl 1 (by decide) hf_9 (fun _ h9 => h9) rfl dX2_at_6 ?_
    refine lv_icmp_ge (tgt := 21) hx hb dX2_at_9 (by decide) (fun c_9 => ?_) (fun c_9 => ?_)
    ·
      refine lv_iconst (v := (-1)) hx hb dX2_at_21 (by decide) ?_
      rw [hQ]
      have hP9 : va_P D vwCl [(h, .inr (2, [.ref b, .int (nI k)])), (b, .inl (cI, n, .inl f))] s.heap := hP
      have hD9 : va_D A [(h, .inr (2, [.ref b, .int (nI k)])), (b, .inl (cI, n, .inl f))] := hD
      exact W.iret (v := (-1)) hx hb hr (fun t ht hW => ⟨⟨(-1), (), rfl, (by unfold sm_at; rw [if_pos (by first | exact Or.inl c_1 | exact Or.inr c_9)]), ⟨by rw [ht]; exact hP9, va_K.moved hW.alike hK, hD9⟩⟩, hS.F ht⟩) hS.2.2 dX2_at_22
    ·
      refine lv_aload_n hx hb dX2_at_12 rfl (lv_at hl 0 rfl) ?_
      refine va_get (D := D) (ci := 2) (v := .ref b) (C := RX2) (T := TX2) (N := 2) hx hb hts hw_X2 hown hK hP 0 rfl rfl 0 (by decide) hf_15 (fun _ h9 => h9) rfl dX2_at_13 ?_
      refine lv_iload_n hx hb dX2_at_16 rfl (lv_at hl 1 rfl) ?_
      have hi0 : ∃ j : Nat, j < k ∧ i = nI j := by
        rcases pk_ix i (n := k) (by omega) with q | q | q
        · exact absurd q c_1
        · exact absurd q c_9
        · exact q
      obtain ⟨j, hj, ej⟩ := hi0
      have hin9 : vp_in i n := by rw [ej]; exact vp_in_nI (by omega) hn
      refine va_iald (i := i) hx hb hK hP 1 0 rfl rfl hin9 dX2_at_17 ?_
      refine lv_goto (tgt := 22) hx hb dX2_at_18 (by decide) ?_
      rw [hQ]
      have hP9 : va_P D vwCl [(h, .inr (2, [.ref b, .int (nI k)])), (b, .inl (cI, n, .inl f))] s.heap := hP
      have hD9 : va_D A [(h, .inr (2, [.ref b, .int (nI k)])), (b, .inl (cI, n, .inl f))] := hD
      exact W.iret (v := f i.toNatClampNeg) hx hb hr (fun t ht hW => ⟨⟨f i.toNatClampNeg, (), rfl, (by unfold sm_at; rw [if_neg (fun q => q.elim c_1 c_9)]), ⟨by rw [ht]; exact hP9, va_K.moved hW.alike hK, hD9⟩⟩, hS.F ht⟩) hS.2.2 dX2_at_22

def rm_X2_wordAt : Room := ({ frames := 1, cells := 0, slots := 0, locals := 21 } : Room)
set_option maxHeartbeats 4000000 in
set_option maxRecDepth 100000 in
/-- Row.wordAt where four bytes are -/
theorem sc_X2_wordAt (l : Launch) (D : va_G) (cI : ClassId) (th : Option (Nat × Nat)) (sz : Nat) (h b n k j : Nat) (f : Nat → Int32) (hj : j + 3 < k) (hk : k ≤ n) (hn : n < 2 ^ 31) : Met l yX2_wordAt wsX2_wordAt rm_X2_wordAt (va_Pc [.ref h, .int (nI j)] (sm_PW D cI th [(h, .inr (2, [.ref b, .int (nI k)])), (b, .inl (cI, n, .inl f))] sz)) (va_Qi (fun (r : Int32) (_ : Unit) => r = sm_wd f j) (fun _ t => sm_QW D cI (va_A [(h, .inr (2, [.ref b, .int (nI k)])), (b, .inl (cI, n, .inl f))] sz) [(h, .inr (2, [.ref b, .int (nI k)])), (b, .inl (cI, n, .inl f))] t) (va_A [(h, .inr (2, [.ref b, .int (nI k)])), (b, .inl (cI, n, .inl f))] sz)) 0 0 (va_A [(h, .inr (2, [.ref b, .int (nI k)])), (b, .inl (cI, n, .inl f))] sz) := by
  refine Met.ofW (cc := cX2_wordAt) (maxL := 2) (ret := (some .int)) (by decide) rfl ?_
  intro p e s m args below meth c s₁ B hml hv
  obtain ⟨rfl, hsz, hP, hK, hD0, hT⟩ := hv
  have hx := B.exec
  have hb := B.bytes
  have hr := B.returns
  have hts := atoms_spec (ws := wsX2_wordAt) B.pre
  have hown : s.vm.findClass RX2 = some m.cls := findClass_of_methodNamed B.named
  have hlocks := B.notSynchronized
  subst hsz
  have hD := hD0.self (sz := s.heap.size)
  generalize hAe : va_A [(h, .inr (2, [.ref b, .int (nI k)])), (b, .inl (cI, n, .inl f))] s.heap.size = A at hD hT ⊢
  have hA : ∀ q : Nat, s.heap.size ≤ q → A q := fun q h => by rw [← hAe]; exact Or.inr h
  have hS : va_S A s.heap s.heap [] := va_S.rf
  have hl := lv_entry ([.ref h, .int (nI j)]) (n := 2) (Nat.le_of_ble_eq_true rfl)
  rw [lg_entry_eq]
  generalize (lg_sl ([.ref h, .int (nI j)]) ++ List.replicate (2 - (lg_sl ([.ref h, .int (nI j)])).length) Slot.unset).toArray = ls at hl ⊢
  have hl : lv_has ls 2 [(0, .ref h), (1, .int (nI j))] := hl
  refine sm_name (fun Q hQ => ?_)
  refine lv_aload_n hx hb dX2_wordAt_0 rfl (lv_at hl 0 rfl) ?_
  refine lv_iload_n hx hb dX2_wordAt_1 rfl (lv_at hl 1 rfl) ?_
  refine sm_callVi (wc := [(h, .inr (2, [.ref b, .int (nI k)])), (b, .inl (cI, n, .inl f))]) (wr := []) (As := [.int (nI j)]) (rest := []) ⟨hx, hb, hml, hown, hts⟩ (sc_X2_at l D cI th _ h b n k f (nI j) hk hn) (cwV 1 hts gX2_wordAt_X2_at rfl rfl rfl (by decide +kernel) ⟨Nat.le_of_ble_eq_true rfl, Nat.le_of_ble_eq_true rfl⟩) hP hD hS hA hK hT [0, 1] [] rfl rfl rfl rfl (by decide) 0 2 rfl rfl rfl rfl hl.1 rfl (Nat.le_of_ble_eq_true rfl) dX2_wordAt_2 ⟨Nat.zero_le _, Nat.zero_le _⟩ (fun r_2 zt H1 locs ht hvm hw hB hJ hS => ?_)
  obtain ⟨hP1, -, hD1⟩ := hB
  rw [ht] at hP1
  obtain ⟨hP, hD⟩ := hJ _ hP1 hD1
  clear hJ
  generalize H1 = H at hP hS ⊢
  have hP : va_P D vwCl [(h, .inr (2, [.ref b, .int (nI k)])), (b, .inl (cI, n, .inl f))] H := hP.sub [0, 1] rfl
  have hD : va_D A [(h, .inr (2, [.ref b, .int (nI k)])), (b, .inl (cI, n, .inl f))] := hD.sub [0, 1] rfl rfl
  rw [hw]
  refine sm_top (z := f j) (sm_at_in (by omega) (by omega)) ?_
  refine lv_bipush (v := 24) hx hb dX2_wordAt_5 (by decide) ?_
  refine lv_ishl hx hb dX2_wordAt_7 ?_
  refine lv_aload_n hx hb dX2_wordAt_8 rfl (lv_at hl 0 rfl) ?_
  refine lv_iload_n hx hb dX2_wordAt_9 rfl (lv_at hl 1 rfl) ?_
  refine lv_iconst (v := 1) hx hb dX2_wordAt_10 (by decide) ?_
  refine lv_iadd hx hb dX2_wordAt_11 ?_
  refine sm_top (z := nI (j + 1)) (nI_add j 1) ?_
  refine sm_callVi (wc := [(h, .inr (2, [.ref b, .int (nI k)])), (b, .inl (cI, n, .inl f))]) (wr := []) (As := [.int (nI (j + 1))]) (rest := [.int ((f j) <<< (24 &&& 31))]) ⟨hx, hb, hml, hown, hts⟩ (sc_X2_at l D cI th _ h b n k f (nI (j + 1)) hk hn) (cwV 1 hts gX2_wordAt_X2_at rfl rfl rfl (by decide +kernel) ⟨Nat.le_of_ble_eq_true rfl, Nat.le_of_ble_eq_true rfl⟩) hP hD hS hA hK hT [0, 1] [] rfl rfl rfl rfl (by decide) 0 2 rfl rfl rfl rfl hl.1 rfl (Nat.le_of_ble_eq_true rfl) dX2_wordAt_12 ⟨Nat.zero_le _, Nat.zero_le _⟩ (fun r_12 zt H1 locs ht hvm hw hB hJ hS => ?_)
  obtain ⟨hP1, -, hD1⟩ := hB
  rw [ht] at hP1
  obtain ⟨hP, hD⟩ := hJ _ hP1 hD1
  clear hJ
  generalize H1 = H at hP hS ⊢
  have hP : va_P D vwCl [(h, .inr (2, [.ref b, .int (nI k)])), (b, .inl (cI, n, .inl f))] H := hP.sub [0, 1] rfl
  have hD : va_D A [(h, .inr (2, [.ref b, .int (nI k)])), (b, .inl (cI, n, .inl f))] := hD.sub [0, 1] rfl rfl
  rw [hw]
  refine sm_top (z := f (j + 1)) (sm_at_in (by omega) (by omega)) ?_
  refine lv_bipush (v := 16) hx hb dX2_wordAt_15 (by decide) ?_
  refine lv_ishl hx hb dX2_wordAt_17 ?_
  refine lv_ior hx hb dX2_wordAt_18 ?_
  refine lv_aload_n hx hb dX2_wordAt_19 rfl (lv_at hl 0 rfl) ?_
  refine lv_iload_n hx hb dX2_wordAt_20 rfl (lv_at hl 1 rfl) ?_
  refine lv_iconst (v := 2) hx hb dX2_wordAt_21 (by decide) ?_
  refine lv_iadd hx hb dX2_wordAt_22 ?_
  refine sm_top (z := nI (j + 2)) (nI_add j 2) ?_
  refine sm_callVi (wc := [(h, .inr (2, [.ref b, .int (nI k)])), (b, .inl (cI, n, .inl f))]) (wr := []) (As := [.int (nI (j + 2))]) (rest := [.int (((f j) <<< (24 &&& 31)) ||| ((f (j + 1)) <<< (16 &&& 31)))]) ⟨hx, hb, hml, hown, hts⟩ (sc_X2_at l D cI th _ h b n k f (nI (j + 2)) hk hn) (cwV 1 hts gX2_wordAt_X2_at rfl rfl rfl (by decide +kernel) ⟨Nat.le_of_ble_eq_true rfl, Nat.le_of_ble_eq_true rfl⟩) hP hD hS hA hK hT [0, 1] [] rfl rfl rfl rfl (by decide) 0 2 rfl rfl rfl rfl hl.1 rfl (Nat.le_of_ble_eq_true rfl) dX2_wordAt_23 ⟨Nat.zero_le _, Nat.zero_le _⟩ (fun r_23 zt H1 locs ht hvm hw hB hJ hS => ?_)
  obtain ⟨hP1, -, hD1⟩ := hB
  rw [ht] at hP1
  obtain ⟨hP, hD⟩ := hJ _ hP1 hD1
  clear hJ
  generalize H1 = H at hP hS ⊢
  have hP : va_P D vwCl [(h, .inr (2, [.ref b, .int (nI k)])), (b, .inl (cI, n, .inl f))] H := hP.sub [0, 1] rfl
  have hD : va_D A [(h, .inr (2, [.ref b, .int (nI k)])), (b, .inl (cI, n, .inl f))] := hD.sub [0, 1] rfl rfl
  rw [hw]
  refine sm_top (z := f (j + 2)) (sm_at_in (by omega) (by omega)) ?_
  refine lv_bipush (v := 8) hx hb dX2_wordAt_26 (by decide) ?_
  refine lv_ishl hx hb dX2_wordAt_28 ?_
  refine lv_ior hx hb dX2_wordAt_29 ?_
  refine lv_aload_n hx hb dX2_wordAt_30 rfl (lv_at hl 0 rfl) ?_
  refine lv_iload_n hx hb dX2_wordAt_31 rfl (lv_at hl 1 rfl) ?_
  refine lv_iconst (v := 3) hx hb dX2_wordAt_32 (by decide) ?_
  refine lv_iadd hx hb dX2_wordAt_33 ?_
  refine sm_top (z := nI (j + 3)) (nI_add j 3) ?_
  refine sm_callVi (wc := [(h, .inr (2, [.ref b, .int (nI k)])), (b, .inl (cI, n, .inl f))]) (wr := []) (As := [.int (nI (j + 3))]) (rest := [.int ((((f j) <<< (24 &&& 31)) ||| ((f (j + 1)) <<< (16 &&& 31))) ||| ((f (j + 2)) <<< (8 &&& 31)))]) ⟨hx, hb, hml, hown, hts⟩ (sc_X2_at l D cI th _ h b n k f (nI (j + 3)) hk hn) (cwV 1 hts gX2_wordAt_X2_at rfl rfl rfl (by decide +kernel) ⟨Nat.le_of_ble_eq_true rfl, Nat.le_of_ble_eq_true rfl⟩) hP hD hS hA hK hT [0, 1] [] rfl rfl rfl rfl (by decide) 0 2 rfl rfl rfl rfl hl.1 rfl (Nat.le_of_ble_eq_true rfl) dX2_wordAt_34 ⟨Nat.zero_le _, Nat.zero_le _⟩ (fun r_34 zt H1 locs ht hvm hw hB hJ hS => ?_)
  obtain ⟨hP1, -, hD1⟩ := hB
  rw [ht] at hP1
  obtain ⟨hP, hD⟩ := hJ _ hP1 hD1
  clear hJ
  generalize H1 = H at hP hS ⊢
  have hP : va_P D vwCl [(h, .inr (2, [.ref b, .int (nI k)])), (b, .inl (cI, n, .inl f))] H := hP.sub [0, 1] rfl
  have hD : va_D A [(h, .inr (2, [.ref b, .int (nI k)])), (b, .inl (cI, n, .inl f))] := hD.sub [0, 1] rfl rfl
  rw [hw]
  refine sm_top (z := f (j + 3)) (sm_at_in (by omega) (by omega)) ?_
  refine lv_ior hx hb dX2_wordAt_37 ?_
  rw [hQ]
  have hP9 : va_P D vwCl [(h, .inr (2, [.ref b, .int (nI k)])), (b, .inl (cI, n, .inl f))] H := hP
  have hD9 : va_D A [(h, .inr (2, [.ref b, .int (nI k)])), (b, .inl (cI, n, .inl f))] := hD
  exact W.iret (v := ((((f j) <<< (24 &&& 31)) ||| ((f (j + 1)) <<< (16 &&& 31))) ||| ((f (j + 2)) <<< (8 &&& 31))) ||| (f (j + 3))) hx hb hr (fun t ht hW => ⟨⟨((((f j) <<< (24 &&& 31)) ||| ((f (j + 1)) <<< (16 &&& 31))) ||| ((f (j + 2)) <<< (8 &&& 31))) ||| (f (j + 3)), (), rfl, rfl, ⟨by rw [ht]; exact hP9, va_K.moved hW.alike hK, hD9⟩⟩, hS.F ht⟩) hS.2.2 dX2_wordAt_38

def rm_X2_sameAs : Room := ({ frames := 0, cells := 0, slots := 0, locals := 0 } : Room)
set_option maxHeartbeats 4000000 in
set_option maxRecDepth 100000 in
/-- Row.sameAs of two rows that are the same -/
theorem sc_X2_sameAs (l : Launch) (D : va_G) (cI : ClassId) (th : Option (Nat × Nat)) (sz : Nat) (h b n h2 b2 n2 k : Nat) (f g : Nat → Int32) (he : ∀ j, j < k → f j = g j) (hk : k ≤ n) (hk2 : k ≤ n2) (hn : n < 2 ^ 31) (hn2 : n2 < 2 ^ 31) : Met l yX2_sameAs wsX2_sameAs rm_X2_sameAs (va_Pc [.ref h, .ref h2] (sm_PW D cI th [(h, .inr (2, [.ref b, .int (nI k)])), (b, .inl (cI, n, .inl f)), (h2, .inr (2, [.ref b2, .int (nI k)])), (b2, .inl (cI, n2, .inl g))] sz)) (va_Qi (fun (r : Int32) (_ : Unit) => r = 1) (fun _ t => sm_QW D cI (va_A [(h, .inr (2, [.ref b, .int (nI k)])), (b, .inl (cI, n, .inl f)), (h2, .inr (2, [.ref b2, .int (nI k)])), (b2, .inl (cI, n2, .inl g))] sz) [(h, .inr (2, [.ref b, .int (nI k)])), (b, .inl (cI, n, .inl f)), (h2, .inr (2, [.ref b2, .int (nI k)])), (b2, .inl (cI, n2, .inl g))] t) (va_A [(h, .inr (2, [.ref b, .int (nI k)])), (b, .inl (cI, n, .inl f)), (h2, .inr (2, [.ref b2, .int (nI k)])), (b2, .inl (cI, n2, .inl g))] sz)) 0 0 (va_A [(h, .inr (2, [.ref b, .int (nI k)])), (b, .inl (cI, n, .inl f)), (h2, .inr (2, [.ref b2, .int (nI k)])), (b2, .inl (cI, n2, .inl g))] sz) := by
  refine Met.ofW (cc := cX2_sameAs) (maxL := 3) (ret := (some .boolean)) (by decide) rfl ?_
  intro p e s m args below meth c s₁ B hml hv
  obtain ⟨rfl, hsz, hP, hK, hD0, hT⟩ := hv
  have hx := B.exec
  have hb := B.bytes
  have hr := B.returns
  have hts := atoms_spec (ws := wsX2_sameAs) B.pre
  have hown : s.vm.findClass RX2 = some m.cls := findClass_of_methodNamed B.named
  have hlocks := B.notSynchronized
  subst hsz
  have hD := hD0.self (sz := s.heap.size)
  generalize hAe : va_A [(h, .inr (2, [.ref b, .int (nI k)])), (b, .inl (cI, n, .inl f)), (h2, .inr (2, [.ref b2, .int (nI k)])), (b2, .inl (cI, n2, .inl g))] s.heap.size = A at hD hT ⊢
  have hA : ∀ q : Nat, s.heap.size ≤ q → A q := fun q h => by rw [← hAe]; exact Or.inr h
  have hS : va_S A s.heap s.heap [] := va_S.rf
  have hl := lv_entry ([.ref h, .ref h2]) (n := 3) (Nat.le_of_ble_eq_true rfl)
  rw [lg_entry_eq]
  generalize (lg_sl ([.ref h, .ref h2]) ++ List.replicate (3 - (lg_sl ([.ref h, .ref h2])).length) Slot.unset).toArray = ls at hl ⊢
  have hl : lv_has ls 3 [(0, .ref h), (1, .ref h2)] := hl
  refine sm_name (fun Q hQ => ?_)
  have hf_9 := hts (.fieldLink RX2 9 "SeedMill$Row" "used" "I") (by decide +kernel)
  have hw_X2 : ∀ w ∈ wsX20, w ∈ wsX2_sameAs := by decide +kernel
  have hf_15 := hts (.fieldLink RX2 15 "SeedMill$Row" "bytes" "[I") (by decide +kernel)
  refine lv_aload_n hx hb dX2_sameAs_0 rfl (lv_at hl 0 rfl) ?_
  refine va_get (D := D) (ci := 2) (v := .int (nI k)) (C := RX2) (T := TX2) (N := 2) hx hb hts hw_X2 hown hK hP 0 rfl rfl 1 (by decide) hf_9 (fun _ h9 => h9) rfl dX2_sameAs_1 ?_
  refine lv_aload_n hx hb dX2_sameAs_4 rfl (lv_at hl 1 rfl) ?_
  refine va_get (D := D) (ci := 2) (v := .int (nI k)) (C := RX2) (T := TX2) (N := 2) hx hb hts hw_X2 hown hK hP 2 rfl rfl 1 (by decide) hf_9 (fun _ h9 => h9) rfl dX2_sameAs_5 ?_
  refine lv_icmp_eq (tgt := 13) hx hb dX2_sameAs_8 (by decide) (fun c_8 => ?_) (fun c_8 => ?_)
  ·
    refine lv_iconst (v := 0) hx hb dX2_sameAs_13 (by decide) ?_
    refine lv_istore_n (lv' := [(2, .int 0), (0, .ref h), (1, .ref h2)]) hx hb dX2_sameAs_14 rfl hl (by decide) rfl (fun ls hl => ?_)
    have lp15 : ∀ (zn : Nat) (i : Nat) (H : Heap) (locs : List Loc) (ls : Array Slot), k - i < zn → i ≤ k → va_P D vwCl [(h, .inr (2, [.ref b, .int (nI k)])), (b, .inl (cI, n, .inl f)), (h2, .inr (2, [.ref b2, .int (nI k)])), (b2, .inl (cI, n2, .inl g))] H → va_D A [(h, .inr (2, [.ref b, .int (nI k)])), (b, .inl (cI, n, .inl f)), (h2, .inr (2, [.ref b2, .int (nI k)])), (b2, .inl (cI, n2, .inl g))] → va_S A s.heap H locs → lv_has ls 3 [(2, .int (nI i)), (0, .ref h), (1, .ref h2)] → W p l e (headSpec wsX2_sameAs rm_X2_sameAs).room s m ([.ref h, .ref h2] : List Value).toArray below meth c H locs 0 0 Q (F0 m 15 ls []) := by
      intro zn
      induction zn with
      | zero => intro i H locs ls hmu; exact absurd hmu (Nat.not_lt_zero _)
      | succ zn ih =>
        intro i H locs ls hmu hi_15 hP hD hS hl
        refine lv_iload_n hx hb dX2_sameAs_15 rfl (lv_at hl 0 rfl) ?_
        refine lv_aload_n hx hb dX2_sameAs_16 rfl (lv_at hl 1 rfl) ?_
        refine va_get (D := D) (ci := 2) (v := .int (nI k)) (C := RX2) (T := TX2) (N := 2) hx hb hts hw_X2 hown hK hP 0 rfl rfl 1 (by decide) hf_9 (fun _ h9 => h9) rfl dX2_sameAs_17 ?_
        refine lv_icmp_ge (tgt := 46) hx hb dX2_sameAs_20 (by decide) (fun c_20 => ?_) (fun c_20 => ?_)
        ·
          have hex_15 : i = k := by
            rcases Nat.lt_or_ge i (k) with q | q
            · exact absurd c_20 (nI_ge q (by omega))
            · omega
          refine lv_iconst (v := 1) hx hb dX2_sameAs_46 (by decide) ?_
          rw [hQ]
          have hP9 : va_P D vwCl [(h, .inr (2, [.ref b, .int (nI k)])), (b, .inl (cI, n, .inl f)), (h2, .inr (2, [.ref b2, .int (nI k)])), (b2, .inl (cI, n2, .inl g))] H := hP
          have hD9 : va_D A [(h, .inr (2, [.ref b, .int (nI k)])), (b, .inl (cI, n, .inl f)), (h2, .inr (2, [.ref b2, .int (nI k)])), (b2, .inl (cI, n2, .inl g))] := hD
          exact W.zret (v := 1) (ty := .boolean) hx hb hr rfl (fun t ht hW => ⟨⟨1, (), rfl, rfl, ⟨by rw [ht]; exact hP9, va_K.moved hW.alike hK, hD9⟩⟩, hS.F ht⟩) hS.2.2 dX2_sameAs_47
        ·
          have hlt_15 : i < k := by
            rcases Nat.lt_or_ge i (k) with q | q
            · exact q
            · exact absurd (nI_le q (by omega)) c_20
          refine lv_aload_n hx hb dX2_sameAs_23 rfl (lv_at hl 1 rfl) ?_
          refine va_get (D := D) (ci := 2) (v := .ref b) (C := RX2) (T := TX2) (N := 2) hx hb hts hw_X2 hown hK hP 0 rfl rfl 0 (by decide) hf_15 (fun _ h9 => h9) rfl dX2_sameAs_24 ?_
          refine lv_iload_n hx hb dX2_sameAs_27 rfl (lv_at hl 0 rfl) ?_
          refine va_iald (i := nI i) hx hb hK hP 1 0 rfl rfl (vp_in_nI (n := i) (by omega) (by omega)) dX2_sameAs_28 ?_
          refine sm_top (z := f i) (congrArg f (nI_clamp (n := i) (by omega))) ?_
          refine lv_aload_n hx hb dX2_sameAs_29 rfl (lv_at hl 2 rfl) ?_
          refine va_get (D := D) (ci := 2) (v := .ref b2) (C := RX2) (T := TX2) (N := 2) hx hb hts hw_X2 hown hK hP 2 rfl rfl 0 (by decide) hf_15 (fun _ h9 => h9) rfl dX2_sameAs_30 ?_
          refine lv_iload_n hx hb dX2_sameAs_33 rfl (lv_at hl 0 rfl) ?_
          refine va_iald (i := nI i) hx hb hK hP 3 0 rfl rfl (vp_in_nI (n := i) (by omega) (by omega)) dX2_sameAs_34 ?_
          refine sm_top (z := g i) (congrArg g (nI_clamp (n := i) (by omega))) ?_
          refine lv_icmp_eq (tgt := 40) hx hb dX2_sameAs_35 (by decide) (fun c_35 => ?_) (fun c_35 => ?_)
          ·
            refine lv_iinc (v := nI (i + 1)) (lv' := [(2, .int (nI (i + 1))), (0, .ref h), (1, .ref h2)]) hx hb dX2_sameAs_40 hl (k := 0) rfl (nI_1 i) (by decide) rfl (fun ls hl => ?_)
            refine lv_goto (tgt := 15) hx hb dX2_sameAs_43 (by decide) ?_
            exact ih (i + 1) _ _ _ (by omega) (by omega) hP hD hS (lv_sub hl [0, 1, 2] rfl)
          ·
            exact absurd (he i hlt_15) c_35
    exact lp15 _ 0 _ _ _ (Nat.lt_succ_self _) (Nat.zero_le _) hP hD hS (lv_sub hl [0, 1, 2] rfl)
  ·
    exact absurd rfl c_8
