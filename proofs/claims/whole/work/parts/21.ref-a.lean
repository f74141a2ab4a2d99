def rm_X4_round : Room := ({ frames := 0, cells := 0, slots := 0, locals := 0 } : Room)
set_option maxHeartbeats 4000000 in
set_option maxRecDepth 100000 in
/-- round -/
theorem sc_X4_round (l : Launch) (D : va_G) (cI : ClassId) (th : Option (Nat × Nat)) (sz : Nat) (x y : Int32) (hy : (32 - y) &&& 31 = -y &&& 31) : Met l yX4_round wsX4_round rm_X4_round (va_Pc [.int x, .int y] (sm_PW D cI th [] sz)) (va_Qi (fun (r : Int32) (_ : Unit) => r = sm_rr x y) (fun _ t => sm_QW D cI (va_A [] sz) [] t) (va_A [] sz)) 0 0 (va_A [] sz) := by
  refine Met.ofW (cc := cX4_round) (maxL := 2) (ret := (some .int)) (by decide) rfl ?_
  intro p e s m args below meth c s₁ B hml hv
  obtain ⟨rfl, hsz, hP, hK, hD0, hT⟩ := hv
  have hx := B.exec
  have hb := B.bytes
  have hr := B.returns
  have hts := atoms_spec (ws := wsX4_round) B.pre
  have hown : s.vm.findClass RX4 = some m.cls := findClass_of_methodNamed B.named
  have hlocks := B.notSynchronized
  subst hsz
  have hD := hD0.self (sz := s.heap.size)
  generalize hAe : va_A [] s.heap.size = A at hD hT ⊢
  have hA : ∀ q : Nat, s.heap.size ≤ q → A q := fun q h => by rw [← hAe]; exact Or.inr h
  have hS : va_S A s.heap s.heap [] := va_S.rf
  have hl := lv_entry ([.int x, .int y]) (n := 2) (Nat.le_of_ble_eq_true rfl)
  rw [lg_entry_eq]
  generalize (lg_sl ([.int x, .int y]) ++ List.replicate (2 - (lg_sl ([.int x, .int y])).length) Slot.unset).toArray = ls at hl ⊢
  have hl : lv_has ls 2 [(0, .int x), (1, .int y)] := hl
  refine sm_name (fun Q hQ => ?_)
  refine lv_iload_n hx hb dX4_round_0 rfl (lv_at hl 0 rfl) ?_
  refine lv_iload_n hx hb dX4_round_1 rfl (lv_at hl 1 rfl) ?_
  refine lv_iushr (v := sm_us x y) hx hb dX4_round_2 rfl ?_
  refine lv_iload_n hx hb dX4_round_3 rfl (lv_at hl 0 rfl) ?_
  refine lv_bipush (v := 32) hx hb dX4_round_4 (by decide) ?_
  refine lv_iload_n hx hb dX4_round_6 rfl (lv_at hl 1 rfl) ?_
  refine lv_isub hx hb dX4_round_7 ?_
  refine lv_ishl hx hb dX4_round_8 ?_
  refine lv_ior hx hb dX4_round_9 ?_
  rw [hQ]
  have hP9 : va_P D vwCl [] s.heap := hP
  have hD9 : va_D A [] := hD
  exact W.iret (v := (sm_us x y) ||| (x <<< ((32 - y) &&& 31))) hx hb hr (fun t ht hW => ⟨⟨(sm_us x y) ||| (x <<< ((32 - y) &&& 31)), (), rfl, (by unfold sm_rr; rw [hy]), ⟨by rw [ht]; exact hP9, va_K.moved hW.alike hK, hD9⟩⟩, hS.F ht⟩) hS.2.2 dX4_round_10

def rm_X4_put : Room := ({ frames := 0, cells := 0, slots := 0, locals := 0 } : Room)
set_option maxHeartbeats 4000000 in
set_option maxRecDepth 100000 in
/-- put -/
theorem sc_X4_put (l : Launch) (D : va_G) (cI : ClassId) (th : Option (Nat × Nat)) (sz : Nat) (zm zrt zfi zsu zwo zro zdi zpa zin zow zke zva zle zdr : Nat) (flt is_ os_ sd ct iv dw ds : Int32) (u : Nat) (gr : Nat → Int32) (x : Int32) (hu : u < 512) : Met l yX4_put wsX4_put rm_X4_put (va_Pc [.ref zm, .int x] (sm_PW D cI th [(zm, .inr (4, [.int flt, .ref zrt, .ref zfi, .ref zsu, .ref zwo, .ref zro, .int (nI u), .ref zdi, .ref zpa, .ref zin, .int is_, .ref zow, .int os_, .int sd, .ref zke, .ref zva, .ref zle, .int ct, .int iv, .int dw, .ref zdr, .int ds])), (zro, .inl (cI, 512, .inl gr))] sz)) (va_Qv (fun (_ : Unit) => True) (fun _ t => sm_QW D cI (va_A [(zm, .inr (4, [.int flt, .ref zrt, .ref zfi, .ref zsu, .ref zwo, .ref zro, .int (nI u), .ref zdi, .ref zpa, .ref zin, .int is_, .ref zow, .int os_, .int sd, .ref zke, .ref zva, .ref zle, .int ct, .int iv, .int dw, .ref zdr, .int ds])), (zro, .inl (cI, 512, .inl gr))] sz) [(zm, .inr (4, [.int flt, .ref zrt, .ref zfi, .ref zsu, .ref zwo, .ref zro, .int (nI (u + 1)), .ref zdi, .ref zpa, .ref zin, .int is_, .ref zow, .int os_, .int sd, .ref zke, .ref zva, .ref zle, .int ct, .int iv, .int dw, .ref zdr, .int ds])), (zro, .inl (cI, 512, .inl (upd gr u (x &&& 255))))] t) (va_A [(zm, .inr (4, [.int flt, .ref zrt, .ref zfi, .ref zsu, .ref zwo, .ref zro, .int (nI u), .ref zdi, .ref zpa, .ref zin, .int is_, .ref zow, .int os_, .int sd, .ref zke, .ref zva, .ref zle, .int ct, .int iv, .int dw, .ref zdr, .int ds])), (zro, .inl (cI, 512, .inl gr))] sz)) 0 0 (va_A [(zm, .inr (4, [.int flt, .ref zrt, .ref zfi, .ref zsu, .ref zwo, .ref zro, .int (nI u), .ref zdi, .ref zpa, .ref zin, .int is_, .ref zow, .int os_, .int sd, .ref zke, .ref zva, .ref zle, .int ct, .int iv, .int dw, .ref zdr, .int ds])), (zro, .inl (cI, 512, .inl gr))] sz) := by
  refine Met.ofW (cc := cX4_put) (maxL := 2) (ret := none) (by decide) rfl ?_
  intro p e s m args below meth c s₁ B hml hv
  obtain ⟨rfl, hsz, hP, hK, hD0, hT⟩ := hv
  have hx := B.exec
  have hb := B.bytes
  have hr := B.returns
  have hts := atoms_spec (ws := wsX4_put) B.pre
  have hown : s.vm.findClass RX4 = some m.cls := findClass_of_methodNamed B.named
  have hlocks := B.notSynchronized
  subst hsz
  have hD := hD0.self (sz := s.heap.size)
  generalize hAe : va_A [(zm, .inr (4, [.int flt, .ref zrt, .ref zfi, .ref zsu, .ref zwo, .ref zro, .int (nI u), .ref zdi, .ref zpa, .ref zin, .int is_, .ref zow, .int os_, .int sd, .ref zke, .ref zva, .ref zle, .int ct, .int iv, .int dw, .ref zdr, .int ds])), (zro, .inl (cI, 512, .inl gr))] s.heap.size = A at hD hT ⊢
  have hA : ∀ q : Nat, s.heap.size ≤ q → A q := fun q h => by rw [← hAe]; exact Or.inr h
  have hS : va_S A s.heap s.heap [] := va_S.rf
  have hl := lv_entry ([.ref zm, .int x]) (n := 2) (Nat.le_of_ble_eq_true rfl)
  rw [lg_entry_eq]
  generalize (lg_sl ([.ref zm, .int x]) ++ List.replicate (2 - (lg_sl ([.ref zm, .int x])).length) Slot.unset).toArray = ls at hl ⊢
  have hl : lv_has ls 2 [(0, .ref zm), (1, .int x)] := hl
  refine sm_name (fun Q hQ => ?_)
  have hf_94 := hts (.fieldLink RX4 94 "SeedMillModel" "row" "[I") (by decide +kernel)
  have hw_X4 : ∀ w ∈ wsX40, w ∈ wsX4_put := by decide +kernel
  have hf_132 := hts (.fieldLink RX4 132 "SeedMillModel" "rowSize" "I") (by decide +kernel)
  refine lv_aload_n hx hb dX4_put_0 rfl (lv_at hl 0 rfl) ?_
  refine va_get (D := D) (ci := 4) (v := .ref zro) (C := RX4) (T := TX4) (N := 22) hx hb hts hw_X4 hown hK hP 0 rfl rfl 5 (by decide) hf_94 (fun _ h9 => h9) rfl dX4_put_1 ?_
  refine lv_aload_n hx hb dX4_put_4 rfl (lv_at hl 0 rfl) ?_
  refine va_get (D := D) (ci := 4) (v := .int (nI u)) (C := RX4) (T := TX4) (N := 22) hx hb hts hw_X4 hown hK hP 0 rfl rfl 6 (by decide) hf_132 (fun _ h9 => h9) rfl dX4_put_5 ?_
  refine lv_iload_n hx hb dX4_put_8 rfl (lv_at hl 1 rfl) ?_
  refine lv_sipush (v := 255) hx hb dX4_put_9 (by decide) ?_
  refine lv_iand hx hb dX4_put_12 ?_
  refine va_iast (i := nI u) (x := x &&& 255) hx hb hK hP hD hS 1 0 rfl rfl (vp_in_nI (n := u) hu (by omega)) dX4_put_13 (fun H locs hP hD hS => ?_)
  rw [show Int32.toNatClampNeg (nI u) = u from nI_clamp (n := u) (by omega)] at hP hD
  have hP : va_P D vwCl [(zm, .inr (4, [.int flt, .ref zrt, .ref zfi, .ref zsu, .ref zwo, .ref zro, .int (nI u), .ref zdi, .ref zpa, .ref zin, .int is_, .ref zow, .int os_, .int sd, .ref zke, .ref zva, .ref zle, .int ct, .int iv, .int dw, .ref zdr, .int ds])), (zro, .inl (cI, 512, .inl (upd gr u (x &&& 255))))] H := hP
  have hD : va_D A [(zm, .inr (4, [.int flt, .ref zrt, .ref zfi, .ref zsu, .ref zwo, .ref zro, .int (nI u), .ref zdi, .ref zpa, .ref zin, .int is_, .ref zow, .int os_, .int sd, .ref zke, .ref zva, .ref zle, .int ct, .int iv, .int dw, .ref zdr, .int ds])), (zro, .inl (cI, 512, .inl (upd gr u (x &&& 255))))] := hD
  refine lv_aload_n hx hb dX4_put_14 rfl (lv_at hl 0 rfl) ?_
  refine lv_dup hx hb dX4_put_15 rfl ?_
  refine va_get (D := D) (ci := 4) (v := .int (nI u)) (C := RX4) (T := TX4) (N := 22) hx hb hts hw_X4 hown hK hP 0 rfl rfl 6 (by decide) hf_132 (fun _ h9 => h9) rfl dX4_put_16 ?_
  refine lv_iconst (v := 1) hx hb dX4_put_19 (by decide) ?_
  refine lv_iadd hx hb dX4_put_20 ?_
  refine va_put (D := D) (ci := 4) (v := .int ((nI u) + 1)) (ty := .int) (C := RX4) (T := TX4) (N := 22) hx hb hts hw_X4 tyX4 tyX4_ok nmX4 hown hK hP hD hS 0 rfl rfl 6 (by decide) hf_132 (fun _ h9 => h9) rfl (by decide +kernel) rfl rfl (Nat.le_of_ble_eq_true rfl) dX4_put_21 (fun H locs hP hD hS => ?_)
  have hP : va_P D vwCl [(zm, .inr (4, [.int flt, .ref zrt, .ref zfi, .ref zsu, .ref zwo, .ref zro, .int ((nI u) + 1), .ref zdi, .ref zpa, .ref zin, .int is_, .ref zow, .int os_, .int sd, .ref zke, .ref zva, .ref zle, .int ct, .int iv, .int dw, .ref zdr, .int ds])), (zro, .inl (cI, 512, .inl (upd gr u (x &&& 255))))] H := hP
  have hD : va_D A [(zm, .inr (4, [.int flt, .ref zrt, .ref zfi, .ref zsu, .ref zwo, .ref zro, .int ((nI u) + 1), .ref zdi, .ref zpa, .ref zin, .int is_, .ref zow, .int os_, .int sd, .ref zke, .ref zva, .ref zle, .int ct, .int iv, .int dw, .ref zdr, .int ds])), (zro, .inl (cI, 512, .inl (upd gr u (x &&& 255))))] := hD
  rw [hQ]
  rw [show nI u + 1 = nI (u + 1) from nI_1 u] at hP hD
  have hP9 : va_P D vwCl [(zm, .inr (4, [.int flt, .ref zrt, .ref zfi, .ref zsu, .ref zwo, .ref zro, .int (nI (u + 1)), .ref zdi, .ref zpa, .ref zin, .int is_, .ref zow, .int os_, .int sd, .ref zke, .ref zva, .ref zle, .int ct, .int iv, .int dw, .ref zdr, .int ds])), (zro, .inl (cI, 512, .inl (upd gr u (x &&& 255))))] H := hP
  have hD9 : va_D A [(zm, .inr (4, [.int flt, .ref zrt, .ref zfi, .ref zsu, .ref zwo, .ref zro, .int (nI (u + 1)), .ref zdi, .ref zpa, .ref zin, .int is_, .ref zow, .int os_, .int sd, .ref zke, .ref zva, .ref zle, .int ct, .int iv, .int dw, .ref zdr, .int ds])), (zro, .inl (cI, 512, .inl (upd gr u (x &&& 255))))] := hD
  exact W.vret hx hb hr (fun t ht hW => ⟨⟨(), rfl, trivial, ⟨by rw [ht]; exact hP9, va_K.moved hW.alike hK, hD9⟩⟩, hS.F ht⟩) hS.2.2 dX4_put_24

def rm_X4_putPad : Room := ({ frames := 1, cells := 0, slots := 0, locals := 21 } : Room)
set_option maxHeartbeats 4000000 in
set_option maxRecDepth 100000 in
/-- putPad of bytes -/
theorem sc_X4_putPad (l : Launch) (D : va_G) (cI : ClassId) (th : Option (Nat × Nat)) (sz : Nat) (zm zrt zfi zsu zwo zro zdi zpa zin zow zke zva zle zdr : Nat) (flt is_ os_ sd ct iv dw ds : Int32) (u : Nat) (gr gp : Nat → Int32) (x : Int32) (hu : u + 64 ≤ 512) (hg : ∀ j, j < 64 → sm_by (gp j)) (hx_ : sm_by x) : Met l yX4_putPad wsX4_putPad rm_X4_putPad (va_Pc [.ref zm, .int x] (sm_PW D cI th [(zm, .inr (4, [.int flt, .ref zrt, .ref zfi, .ref zsu, .ref zwo, .ref zro, .int (nI u), .ref zdi, .ref zpa, .ref zin, .int is_, .ref zow, .int os_, .int sd, .ref zke, .ref zva, .ref zle, .int ct, .int iv, .int dw, .ref zdr, .int ds])), (zro, .inl (cI, 512, .inl gr)), (zpa, .inl (cI, 64, .inl gp))] sz)) (va_Qv (fun (_ : Unit) => True) (fun _ t => sm_QW D cI (va_A [(zm, .inr (4, [.int flt, .ref zrt, .ref zfi, .ref zsu, .ref zwo, .ref zro, .int (nI u), .ref zdi, .ref zpa, .ref zin, .int is_, .ref zow, .int os_, .int sd, .ref zke, .ref zva, .ref zle, .int ct, .int iv, .int dw, .ref zdr, .int ds])), (zro, .inl (cI, 512, .inl gr)), (zpa, .inl (cI, 64, .inl gp))] sz) [(zm, .inr (4, [.int flt, .ref zrt, .ref zfi, .ref zsu, .ref zwo, .ref zro, .int (nI (u + 64)), .ref zdi, .ref zpa, .ref zin, .int is_, .ref zow, .int os_, .int sd, .ref zke, .ref zva, .ref zle, .int ct, .int iv, .int dw, .ref zdr, .int ds])), (zro, .inl (cI, 512, .inl (sm_ap gr u (fun j => gp j ^^^ x) 64))), (zpa, .inl (cI, 64, .inl gp))] t) (va_A [(zm, .inr (4, [.int flt, .ref zrt, .ref zfi, .ref zsu, .ref zwo, .ref zro, .int (nI u), .ref zdi, .ref zpa, .ref zin, .int is_, .ref zow, .int os_, .int sd, .ref zke, .ref zva, .ref zle, .int ct, .int iv, .int dw, .ref zdr, .int ds])), (zro, .inl (cI, 512, .inl gr)), (zpa, .inl (cI, 64, .inl gp))] sz)) 0 0 (va_A [(zm, .inr (4, [.int flt, .ref zrt, .ref zfi, .ref zsu, .ref zwo, .ref zro, .int (nI u), .ref zdi, .ref zpa, .ref zin, .int is_, .ref zow, .int os_, .int sd, .ref zke, .ref zva, .ref zle, .int ct, .int iv, .int dw, .ref zdr, .int ds])), (zro, .inl (cI, 512, .inl gr)), (zpa, .inl (cI, 64, .inl gp))] sz) := by
  refine Met.ofW (cc := cX4_putPad) (maxL := 3) (ret := none) (by decide) rfl ?_
  intro p e s m args below meth c s₁ B hml hv
  obtain ⟨rfl, hsz, hP, hK, hD0, hT⟩ := hv
  have hx := B.exec
  have hb := B.bytes
  have hr := B.returns
  have hts := atoms_spec (ws := wsX4_putPad) B.pre
  have hown : s.vm.findClass RX4 = some m.cls := findClass_of_methodNamed B.named
  have hlocks := B.notSynchronized
  subst hsz
  have hD := hD0.self (sz := s.heap.size)
  generalize hAe : va_A [(zm, .inr (4, [.int flt, .ref zrt, .ref zfi, .ref zsu, .ref zwo, .ref zro, .int (nI u), .ref zdi, .ref zpa, .ref zin, .int is_, .ref zow, .int os_, .int sd, .ref zke, .ref zva, .ref zle, .int ct, .int iv, .int dw, .ref zdr, .int ds])), (zro, .inl (cI, 512, .inl gr)), (zpa, .inl (cI, 64, .inl gp))] s.heap.size = A at hD hT ⊢
  have hA : ∀ q : Nat, s.heap.size ≤ q → A q := fun q h => by rw [← hAe]; exact Or.inr h
  have hS : va_S A s.heap s.heap [] := va_S.rf
  have hl := lv_entry ([.ref zm, .int x]) (n := 3) (Nat.le_of_ble_eq_true rfl)
  rw [lg_entry_eq]
  generalize (lg_sl ([.ref zm, .int x]) ++ List.replicate (3 - (lg_sl ([.ref zm, .int x])).length) Slot.unset).toArray = ls at hl ⊢
  have hl : lv_has ls 3 [(0, .ref zm), (1, .int x)] := hl
  refine sm_name (fun Q hQ => ?_)
  have hf_100 := hts (.fieldLink RX4 100 "SeedMillModel" "padded" "[I") (by decide +kernel)
  have hw_X4 : ∀ w ∈ wsX40, w ∈ wsX4_putPad := by decide +kernel
  refine lv_iconst (v := 0) hx hb dX4_putPad_0 (by decide) ?_
  refine lv_istore_n (lv' := [(2, .int 0), (0, .ref zm), (1, .int x)]) hx hb dX4_putPad_1 rfl hl (by decide) rfl (fun ls hl => ?_)
  have lp2 : ∀ (zn : Nat) (i : Nat) (H : Heap) (locs : List Loc) (ls : Array Slot), 64 - i < zn → i ≤ 64 → va_P D vwCl [(zm, .inr (4, [.int flt, .ref zrt, .ref zfi, .ref zsu, .ref zwo, .ref zro, .int (nI (u + i)), .ref zdi, .ref zpa, .ref zin, .int is_, .ref zow, .int os_, .int sd, .ref zke, .ref zva, .ref zle, .int ct, .int iv, .int dw, .ref zdr, .int ds])), (zro, .inl (cI, 512, .inl (sm_ap gr u (fun j => gp j ^^^ x) i))), (zpa, .inl (cI, 64, .inl gp))] H → va_D A [(zm, .inr (4, [.int flt, .ref zrt, .ref zfi, .ref zsu, .ref zwo, .ref zro, .int (nI (u + i)), .ref zdi, .ref zpa, .ref zin, .int is_, .ref zow, .int os_, .int sd, .ref zke, .ref zva, .ref zle, .int ct, .int iv, .int dw, .ref zdr, .int ds])), (zro, .inl (cI, 512, .inl (sm_ap gr u (fun j => gp j ^^^ x) i))), (zpa, .inl (cI, 64, .inl gp))] → va_S A s.heap H locs → lv_has ls 3 [(2, .int (nI i)), (0, .ref zm), (1, .int x)] → W p l e (headSpec wsX4_putPad rm_X4_putPad).room s m ([.ref zm, .int x] : List Value).toArray below meth c H locs 0 0 Q (F0 m 2 ls []) := by
    intro zn
    induction zn with
    | zero => intro i H locs ls hmu; exact absurd hmu (Nat.not_lt_zero _)
    | succ zn ih =>
      intro i H locs ls hmu hi_2 hP hD hS hl
      refine lv_iload_n hx hb dX4_putPad_2 rfl (lv_at hl 0 rfl) ?_
      refine lv_bipush (v := 64) hx hb dX4_putPad_3 (by decide) ?_
      refine lv_icmp_ge (tgt := 26) hx hb dX4_putPad_5 (by decide) (fun c_5 => ?_) (fun c_5 => ?_)
      ·
        have hex_2 : i = 64 := by
          rcases Nat.lt_or_ge i (64) with q | q
          · exact absurd c_5 (nI_ge q (by decide))
          · omega
        rw [hQ]
        rw [hex_2] at hP hD
        have hP9 : va_P D vwCl [(zm, .inr (4, [.int flt, .ref zrt, .ref zfi, .ref zsu, .ref zwo, .ref zro, .int (nI (u + 64)), .ref zdi, .ref zpa, .ref zin, .int is_, .ref zow, .int os_, .int sd, .ref zke, .ref zva, .ref zle, .int ct, .int iv, .int dw, .ref zdr, .int ds])), (zro, .inl (cI, 512, .inl (sm_ap gr u (fun j => gp j ^^^ x) 64))), (zpa, .inl (cI, 64, .inl gp))] H := hP
        have hD9 : va_D A [(zm, .inr (4, [.int flt, .ref zrt, .ref zfi, .ref zsu, .ref zwo, .ref zro, .int (nI (u + 64)), .ref zdi, .ref zpa, .ref zin, .int is_, .ref zow, .int os_, .int sd, .ref zke, .ref zva, .ref zle, .int ct, .int iv, .int dw, .ref zdr, .int ds])), (zro, .inl (cI, 512, .inl (sm_ap gr u (fun j => gp j ^^^ x) 64))), (zpa, .inl (cI, 64, .inl gp))] := hD
        exact W.vret hx hb hr (fun t ht hW => ⟨⟨(), rfl, trivial, ⟨by rw [ht]; exact hP9, va_K.moved hW.alike hK, hD9⟩⟩, hS.F ht⟩) hS.2.2 dX4_putPad_26
      ·
        have hlt_2 : i < 64 := by
          rcases Nat.lt_or_ge i (64) with q | q
          · exact q
          · exact absurd (nI_le q (by omega)) c_5
        refine lv_aload_n hx hb dX4_putPad_8 rfl (lv_at hl 1 rfl) ?_
        refine lv_aload_n hx hb dX4_putPad_9 rfl (lv_at hl 1 rfl) ?_
        refine va_get (D := D) (ci := 4) (v := .ref zpa) (C := RX4) (T := TX4) (N := 22) hx hb hts hw_X4 hown hK hP 0 rfl rfl 8 (by decide) hf_100 (fun _ h9 => h9) rfl dX4_putPad_10 ?_
        refine lv_iload_n hx hb dX4_putPad_13 rfl (lv_at hl 0 rfl) ?_
        refine va_iald (i := nI i) hx hb hK hP 2 0 rfl rfl (vp_in_nI (n := i) (by omega) (by omega)) dX4_putPad_14 ?_
        refine sm_top (z := gp i) (congrArg gp (nI_clamp (n := i) (by omega))) ?_
        refine lv_iload_n hx hb dX4_putPad_15 rfl (lv_at hl 2 rfl) ?_
        refine lv_ixor hx hb dX4_putPad_16 ?_
        refine sm_callVv (wc := [(zm, .inr (4, [.int flt, .ref zrt, .ref zfi, .ref zsu, .ref zwo, .ref zro, .int (nI (u + i)), .ref zdi, .ref zpa, .ref zin, .int is_, .ref zow, .int os_, .int sd, .ref zke, .ref zva, .ref zle, .int ct, .int iv, .int dw, .ref zdr, .int ds])), (zro, .inl (cI, 512, .inl (sm_ap gr u (fun j => gp j ^^^ x) i)))]) (wr := [(zpa, .inl (cI, 64, .inl gp))]) (As := [.int ((gp i) ^^^ x)]) (rest := []) ⟨hx, hb, hml, hown, hts⟩ (sc_X4_put l D cI th _ zm zrt zfi zsu zwo zro zdi zpa zin zow zke zva zle zdr flt is_ os_ sd ct iv dw ds (u + i) (sm_ap gr u (fun j => gp j ^^^ x) i) ((gp i) ^^^ x) (by omega)) (cwV 1 hts gX4_putPad_X4_put rfl rfl rfl (by decide +kernel) ⟨Nat.le_of_ble_eq_true rfl, Nat.le_of_ble_eq_true rfl⟩) hP hD hS hA hK hT [0, 1] [2] rfl rfl rfl rfl (by decide) 0 4 rfl rfl rfl rfl hl.1 rfl (Nat.le_of_ble_eq_true rfl) dX4_putPad_17 ⟨Nat.zero_le _, Nat.zero_le _⟩ (fun zt H1 locs ht hvm hB hJ hS => ?_)
        obtain ⟨hP1, -, hD1⟩ := hB
        rw [ht] at hP1
        obtain ⟨hP, hD⟩ := hJ _ hP1 hD1
        clear hJ
        generalize H1 = H at hP hS ⊢
        have hP : va_P D vwCl [(zm, .inr (4, [.int flt, .ref zrt, .ref zfi, .ref zsu, .ref zwo, .ref zro, .int (nI (u + i + 1)), .ref zdi, .ref zpa, .ref zin, .int is_, .ref zow, .int os_, .int sd, .ref zke, .ref zva, .ref zle, .int ct, .int iv, .int dw, .ref zdr, .int ds])), (zro, .inl (cI, 512, .inl (upd (sm_ap gr u (fun j => gp j ^^^ x) i) (u + i) (((gp i) ^^^ x) &&& 255)))), (zpa, .inl (cI, 64, .inl gp))] H := hP.sub [1, 2, 0] rfl
        have hD : va_D A [(zm, .inr (4, [.int flt, .ref zrt, .ref zfi, .ref zsu, .ref zwo, .ref zro, .int (nI (u + i + 1)), .ref zdi, .ref zpa, .ref zin, .int is_, .ref zow, .int os_, .int sd, .ref zke, .ref zva, .ref zle, .int ct, .int iv, .int dw, .ref zdr, .int ds])), (zro, .inl (cI, 512, .inl (upd (sm_ap gr u (fun j => gp j ^^^ x) i) (u + i) (((gp i) ^^^ x) &&& 255)))), (zpa, .inl (cI, 64, .inl gp))] := hD.sub [1, 2, 0] rfl rfl
        rw [show ((gp i) ^^^ x : Int32) &&& 255 = (gp i) ^^^ x from sm_by_xor (hg i hlt_2) hx_] at hP hD
        have hP : va_P D vwCl [(zm, .inr (4, [.int flt, .ref zrt, .ref zfi, .ref zsu, .ref zwo, .ref zro, .int (nI (u + i + 1)), .ref zdi, .ref zpa, .ref zin, .int is_, .ref zow, .int os_, .int sd, .ref zke, .ref zva, .ref zle, .int ct, .int iv, .int dw, .ref zdr, .int ds])), (zro, .inl (cI, 512, .inl (upd (sm_ap gr u (fun j => gp j ^^^ x) i) (u + i) ((gp i) ^^^ x)))), (zpa, .inl (cI, 64, .inl gp))] H := hP
        have hD : va_D A [(zm, .inr (4, [.int flt, .ref zrt, .ref zfi, .ref zsu, .ref zwo, .ref zro, .int (nI (u + i + 1)), .ref zdi, .ref zpa, .ref zin, .int is_, .ref zow, .int os_, .int sd, .ref zke, .ref zva, .ref zle, .int ct, .int iv, .int dw, .ref zdr, .int ds])), (zro, .inl (cI, 512, .inl (upd (sm_ap gr u (fun j => gp j ^^^ x) i) (u + i) ((gp i) ^^^ x)))), (zpa, .inl (cI, 64, .inl gp))] := hD
        refine lv_iinc (v := nI (i + 1)) (lv' := [(2, .int (nI (i + 1))), (0, .ref zm), (1, .int x)]) hx hb dX4_putPad_20 hl (k := 0) rfl (nI_1 i) (by decide) rfl (fun ls hl => ?_)
        refine lv_goto (tgt := 2) hx hb dX4_putPad_23 (by decide) ?_
        rw [show upd (sm_ap gr u (fun j => gp j ^^^ x) i) (u + i) (gp i ^^^ x) = _ from sm_ap_s gr u (fun j => gp j ^^^ x) i] at hP hD
        exact ih (i + 1) _ _ _ (by omega) (by omega) hP hD hS (lv_sub hl [0, 1, 2] rfl)
  exact lp2 _ 0 _ _ _ (Nat.lt_succ_self _) (Nat.zero_le _) (by rw [sm_ap_0]; exact hP) (by rw [sm_ap_0]; exact hD) hS (lv_sub hl [0, 1, 2] rfl)

def rm_X4_hashBlock : Room := ({ frames := 1, cells := 0, slots := 0, locals := 21 } : Room)
set_option maxHeartbeats 4000000 in
set_option maxRecDepth 100000 in
/-- hashBlock -/
theorem sc_X4_hashBlock (l : Launch) (D : va_G) (cI : ClassId) (th : Option (Nat × Nat)) (sz : Nat) (zm zrt zfi zsu zwo zro zdi zpa zin zow zke zva zle zdr : Nat) (flt is_ os_ sd ct iv dw ds : Int32) (u a : Nat) (gs gw gr : Nat → Int32) (ha : a + 64 ≤ 512) : Met l yX4_hashBlock wsX4_hashBlock rm_X4_hashBlock (va_Pc [.ref zm, .int (nI a)] (sm_PW D cI th [(zm, .inr (4, [.int flt, .ref zrt, .ref zfi, .ref zsu, .ref zwo, .ref zro, .int (nI u), .ref zdi, .ref zpa, .ref zin, .int is_, .ref zow, .int os_, .int sd, .ref zke, .ref zva, .ref zle, .int ct, .int iv, .int dw, .ref zdr, .int ds])), (zrt, .inl (cI, 64, .inl sm_K)), (zsu, .inl (cI, 8, .inl gs)), (zwo, .inl (cI, 64, .inl gw)), (zro, .inl (cI, 512, .inl gr))] sz)) (va_Qv (fun (_ : Unit) => True) (fun _ t => sm_QW D cI (va_A [(zm, .inr (4, [.int flt, .ref zrt, .ref zfi, .ref zsu, .ref zwo, .ref zro, .int (nI u), .ref zdi, .ref zpa, .ref zin, .int is_, .ref zow, .int os_, .int sd, .ref zke, .ref zva, .ref zle, .int ct, .int iv, .int dw, .ref zdr, .int ds])), (zrt, .inl (cI, 64, .inl sm_K)), (zsu, .inl (cI, 8, .inl gs)), (zwo, .inl (cI, 64, .inl gw)), (zro, .inl (cI, 512, .inl gr))] sz) [(zm, .inr (4, [.int flt, .ref zrt, .ref zfi, .ref zsu, .ref zwo, .ref zro, .int (nI u), .ref zdi, .ref zpa, .ref zin, .int is_, .ref zow, .int os_, .int sd, .ref zke, .ref zva, .ref zle, .int ct, .int iv, .int dw, .ref zdr, .int ds])), (zrt, .inl (cI, 64, .inl sm_K)), (zsu, .inl (cI, 8, .inl (sm_cp (sm_W gr a) gs))), (zwo, .inl (cI, 64, .inl (sm_W gr a))), (zro, .inl (cI, 512, .inl gr))] t) (va_A [(zm, .inr (4, [.int flt, .ref zrt, .ref zfi, .ref zsu, .ref zwo, .ref zro, .int (nI u), .ref zdi, .ref zpa, .ref zin, .int is_, .ref zow, .int os_, .int sd, .ref zke, .ref zva, .ref zle, .int ct, .int iv, .int dw, .ref zdr, .int ds])), (zrt, .inl (cI, 64, .inl sm_K)), (zsu, .inl (cI, 8, .inl gs)), (zwo, .inl (cI, 64, .inl gw)), (zro, .inl (cI, 512, .inl gr))] sz)) 0 0 (va_A [(zm, .inr (4, [.int flt, .ref zrt, .ref zfi, .ref zsu, .ref zwo, .ref zro, .int (nI u), .ref zdi, .ref zpa, .ref zin, .int is_, .ref zow, .int os_, .int sd, .ref zke, .ref zva, .ref zle, .int ct, .int iv, .int dw, .ref zdr, .int ds])), (zrt, .inl (cI, 64, .inl sm_K)), (zsu, .inl (cI, 8, .inl gs)), (zwo, .inl (cI, 64, .inl gw)), (zro, .inl (cI, 512, .inl gr))] sz) := by
  refine Met.ofW (cc := cX4_hashBlock) (maxL := 13) (ret := none) (by decide) rfl ?_
  intro p e s m args below meth c s₁ B hml hv
  obtain ⟨rfl, hsz, hP, hK, hD0, hT⟩ := hv
  have hx := B.exec
  have hb := B.bytes
  have hr := B.returns
  have hts := atoms_spec (ws := wsX4_hashBlock) B.pre
  have hown : s.vm.findClass RX4 = some m.cls := findClass_of_methodNamed B.named
  have hlocks := B.notSynchronized
  subst hsz
  have hD := hD0.self (sz := s.heap.size)
  generalize hAe : va_A [(zm, .inr (4, [.int flt, .ref zrt, .ref zfi, .ref zsu, .ref zwo, .ref zro, .int (nI u), .ref zdi, .ref zpa, .ref zin, .int is_, .ref zow, .int os_, .int sd, .ref zke, .ref zva, .ref zle, .int ct, .int iv, .int dw, .ref zdr, .int ds])), (zrt, .inl (cI, 64, .inl sm_K)), (zsu, .inl (cI, 8, .inl gs)), (zwo, .inl (cI, 64, .inl gw)), (zro, .inl (cI, 512, .inl gr))] s.heap.size = A at hD hT ⊢
  have hA : ∀ q : Nat, s.heap.size ≤ q → A q := fun q h => by rw [← hAe]; exact Or.inr h
  have hS : va_S A s.heap s.heap [] := va_S.rf
  have hl := lv_entry ([.ref zm, .int (nI a)]) (n := 13) (Nat.le_of_ble_eq_true rfl)
  rw [lg_entry_eq]
  generalize (lg_sl ([.ref zm, .int (nI a)]) ++ List.replicate (13 - (lg_sl ([.ref zm, .int (nI a)])).length) Slot.unset).toArray = ls at hl ⊢
  have hl : lv_has ls 13 [(0, .ref zm), (1, .int (nI a))] := hl
  refine sm_name (fun Q hQ => ?_)
  have hf_91 := hts (.fieldLink RX4 91 "SeedMillModel" "word" "[I") (by decide +kernel)
  have hw_X4 : ∀ w ∈ wsX40, w ∈ wsX4_hashBlock := by decide +kernel
  have hf_94 := hts (.fieldLink RX4 94 "SeedMillModel" "row" "[I") (by decide +kernel)
  have hf_88 := hts (.fieldLink RX4 88 "SeedMillModel" "sum" "[I") (by decide +kernel)
  have hf_71 := hts (.fieldLink RX4 71 "SeedMillModel" "roots" "[I") (by decide +kernel)
  refine lv_iconst (v := 0) hx hb dX4_hashBlock_0 (by decide) ?_
  refine lv_istore_n (lv' := [(2, .int 0), (0, .ref zm), (1, .int (nI a))]) hx hb dX4_hashBlock_1 rfl hl (by decide) rfl (fun ls hl => ?_)
  have lp2 : ∀ (zn : Nat) (v : Nat) (H : Heap) (locs : List Loc) (ls : Array Slot), 64 - v < zn → v ≤ 64 → va_P D vwCl [(zm, .inr (4, [.int flt, .ref zrt, .ref zfi, .ref zsu, .ref zwo, .ref zro, .int (nI u), .ref zdi, .ref zpa, .ref zin, .int is_, .ref zow, .int os_, .int sd, .ref zke, .ref zva, .ref zle, .int ct, .int iv, .int dw, .ref zdr, .int ds])), (zrt, .inl (cI, 64, .inl sm_K)), (zsu, .inl (cI, 8, .inl gs)), (zwo, .inl (cI, 64, .inl (sm_sc gr a gw v))), (zro, .inl (cI, 512, .inl gr))] H → va_D A [(zm, .inr (4, [.int flt, .ref zrt, .ref zfi, .ref zsu, .ref zwo, .ref zro, .int (nI u), .ref zdi, .ref zpa, .ref zin, .int is_, .ref zow, .int os_, .int sd, .ref zke, .ref zva, .ref zle, .int ct, .int iv, .int dw, .ref zdr, .int ds])), (zrt, .inl (cI, 64, .inl sm_K)), (zsu, .inl (cI, 8, .inl gs)), (zwo, .inl (cI, 64, .inl (sm_sc gr a gw v))), (zro, .inl (cI, 512, .inl gr))] → va_S A s.heap H locs → lv_has ls 13 [(2, .int (nI v)), (0, .ref zm), (1, .int (nI a))] → W p l e (headSpec wsX4_hashBlock rm_X4_hashBlock).room s m ([.ref zm, .int (nI a)] : List Value).toArray below meth c H locs 0 0 Q (F0 m 2 ls []) := by
    intro zn
    induction zn with
    | zero => intro v H locs ls hmu; exact absurd hmu (Nat.not_lt_zero _)
    | succ zn ih =>
      intro v H locs ls hmu hi_2 hP hD hS hl
      refine lv_iload_n hx hb dX4_hashBlock_2 rfl (lv_at hl 0 rfl) ?_
      refine lv_bipush (v := 64) hx hb dX4_hashBlock_3 (by decide) ?_
      refine lv_icmp_ge (tgt := 170) hx hb dX4_hashBlock_5 (by decide) (fun c_5 => ?_) (fun c_5 => ?_)
      ·
        have hex_2 : v = 64 := by
          rcases Nat.lt_or_ge v (64) with q | q
          · exact absurd c_5 (nI_ge q (by decide))
          · omega
        rw [hex_2] at hP hD
        have hP := sm_arr hP 3 rfl (sm_W gr a) (sm_sc_congr (fun _ _ _ => rfl) 64)
        have hD := sm_arrD (y := .inl (cI, 64, .inl (sm_W gr a))) hD 3 rfl
        have hP : va_P D vwCl [(zm, .inr (4, [.int flt, .ref zrt, .ref zfi, .ref zsu, .ref zwo, .ref zro, .int (nI u), .ref zdi, .ref zpa, .ref zin, .int is_, .ref zow, .int os_, .int sd, .ref zke, .ref zva, .ref zle, .int ct, .int iv, .int dw, .ref zdr, .int ds])), (zrt, .inl (cI, 64, .inl sm_K)), (zsu, .inl (cI, 8, .inl gs)), (zwo, .inl (cI, 64, .inl (sm_W gr a))), (zro, .inl (cI, 512, .inl gr))] H := hP
        have hD : va_D A [(zm, .inr (4, [.int flt, .ref zrt, .ref zfi, .ref zsu, .ref zwo, .ref zro, .int (nI u), .ref zdi, .ref zpa, .ref zin, .int is_, .ref zow, .int os_, .int sd, .ref zke, .ref zva, .ref zle, .int ct, .int iv, .int dw, .ref zdr, .int ds])), (zrt, .inl (cI, 64, .inl sm_K)), (zsu, .inl (cI, 8, .inl gs)), (zwo, .inl (cI, 64, .inl (sm_W gr a))), (zro, .inl (cI, 512, .inl gr))] := hD
        refine lv_aload_n hx hb dX4_hashBlock_170 rfl (lv_at hl 1 rfl) ?_
        refine va_get (D := D) (ci := 4) (v := .ref zsu) (C := RX4) (T := TX4) (N := 22) hx hb hts hw_X4 hown hK hP 0 rfl rfl 3 (by decide) hf_88 (fun _ h9 => h9) rfl dX4_hashBlock_171 ?_
        refine lv_iconst (v := 0) hx hb dX4_hashBlock_174 (by decide) ?_
        refine va_iald (i := 0) hx hb hK hP 2 0 rfl rfl (vp_in_nI (n := 0) (by decide) (by omega)) dX4_hashBlock_175 ?_
        refine sm_top (z := gs 0) (congrArg gs (nI_clamp (n := 0) (by omega))) ?_
        refine lv_istore_n (lv' := [(2, .int (gs 0)), (0, .ref zm), (1, .int (nI a))]) hx hb dX4_hashBlock_176 rfl hl (by decide) rfl (fun ls hl => ?_)
        refine lv_aload_n hx hb dX4_hashBlock_177 rfl (lv_at hl 1 rfl) ?_
        refine va_get (D := D) (ci := 4) (v := .ref zsu) (C := RX4) (T := TX4) (N := 22) hx hb hts hw_X4 hown hK hP 0 rfl rfl 3 (by decide) hf_88 (fun _ h9 => h9) rfl dX4_hashBlock_178 ?_
        refine lv_iconst (v := 1) hx hb dX4_hashBlock_181 (by decide) ?_
        refine va_iald (i := 1) hx hb hK hP 2 0 rfl rfl (vp_in_nI (n := 1) (by decide) (by omega)) dX4_hashBlock_182 ?_
        refine sm_top (z := gs 1) (congrArg gs (nI_clamp (n := 1) (by omega))) ?_
        refine lv_istore_n (lv' := [(3, .int (gs 1)), (2, .int (gs 0)), (0, .ref zm), (1, .int (nI a))]) hx hb dX4_hashBlock_183 rfl hl (by decide) rfl (fun ls hl => ?_)
        refine lv_aload_n hx hb dX4_hashBlock_184 rfl (lv_at hl 2 rfl) ?_
        refine va_get (D := D) (ci := 4) (v := .ref zsu) (C := RX4) (T := TX4) (N := 22) hx hb hts hw_X4 hown hK hP 0 rfl rfl 3 (by decide) hf_88 (fun _ h9 => h9) rfl dX4_hashBlock_185 ?_
        refine lv_iconst (v := 2) hx hb dX4_hashBlock_188 (by decide) ?_
        refine va_iald (i := 2) hx hb hK hP 2 0 rfl rfl (vp_in_nI (n := 2) (by decide) (by omega)) dX4_hashBlock_189 ?_
        refine sm_top (z := gs 2) (congrArg gs (nI_clamp (n := 2) (by omega))) ?_
        refine lv_istore (lv' := [(4, .int (gs 2)), (3, .int (gs 1)), (2, .int (gs 0)), (0, .ref zm), (1, .int (nI a))]) hx hb dX4_hashBlock_190 hl (by decide) rfl (fun ls hl => ?_)
        refine lv_aload_n hx hb dX4_hashBlock_192 rfl (lv_at hl 3 rfl) ?_
        refine va_get (D := D) (ci := 4) (v := .ref zsu) (C := RX4) (T := TX4) (N := 22) hx hb hts hw_X4 hown hK hP 0 rfl rfl 3 (by decide) hf_88 (fun _ h9 => h9) rfl dX4_hashBlock_193 ?_
        refine lv_iconst (v := 3) hx hb dX4_hashBlock_196 (by decide) ?_
        refine va_iald (i := 3) hx hb hK hP 2 0 rfl rfl (vp_in_nI (n := 3) (by decide) (by omega)) dX4_hashBlock_197 ?_
        refine sm_top (z := gs 3) (congrArg gs (nI_clamp (n := 3) (by omega))) ?_
        refine lv_istore (lv' := [(5, .int (gs 3)), (4, .int (gs 2)), (3, .int (gs 1)), (2, .int (gs 0)), (0, .ref zm), (1, .int (nI a))]) hx hb dX4_hashBlock_198 hl (by decide) rfl (fun ls hl => ?_)
        refine lv_aload_n hx hb dX4_hashBlock_200 rfl (lv_at hl 4 rfl) ?_
        refine va_get (D := D) (ci := 4) (v := .ref zsu) (C := RX4) (T := TX4) (N := 22) hx hb hts hw_X4 hown hK hP 0 rfl rfl 3 (by decide) hf_88 (fun _ h9 => h9) rfl dX4_hashBlock_201 ?_
        refine lv_iconst (v := 4) hx hb dX4_hashBlock_204 (by decide) ?_
        refine va_iald (i := 4) hx hb hK hP 2 0 rfl rfl (vp_in_nI (n := 4) (by decide) (by omega)) dX4_hashBlock_205 ?_
        refine sm_top (z := gs 4) (congrArg gs (nI_clamp (n := 4) (by omega))) ?_
        refine lv_istore (lv' := [(6, .int (gs 4)), (5, .int (gs 3)), (4, .int (gs 2)), (3, .int (gs 1)), (2, .int (gs 0)), (0, .ref zm), (1, .int (nI a))]) hx hb dX4_hashBlock_206 hl (by decide) rfl (fun ls hl => ?_)
        refine lv_aload_n hx hb dX4_hashBlock_208 rfl (lv_at hl 5 rfl) ?_
        refine va_get (D := D) (ci := 4) (v := .ref zsu) (C := RX4) (T := TX4) (N := 22) hx hb hts hw_X4 hown hK hP 0 rfl rfl 3 (by decide) hf_88 (fun _ h9 => h9) rfl dX4_hashBlock_209 ?_
        refine lv_iconst (v := 5) hx hb dX4_hashBlock_212 (by decide) ?_
        refine va_iald (i := 5) hx hb hK hP 2 0 rfl rfl (vp_in_nI (n := 5) (by decide) (by omega)) dX4_hashBlock_213 ?_
        refine sm_top (z := gs 5) (congrArg gs (nI_clamp (n := 5) (by omega))) ?_
        refine lv_istore (lv' := [(7, .int (gs 5)), (6, .int (gs 4)), (5, .int (gs 3)), (4, .int (gs 2)), (3, .int (gs 1)), (2, .int (gs 0)), (0, .ref zm), (1, .int (nI a))]) hx hb dX4_hashBlock_214 hl (by decide) rfl (fun ls hl => ?_)
        refine lv_aload_n hx hb dX4_hashBlock_216 rfl (lv_at hl 6 rfl) ?_
        refine va_get (D := D) (ci := 4) (v := .ref zsu) (C := RX4) (T := TX4) (N := 22) hx hb hts hw_X4 hown hK hP 0 rfl rfl 3 (by decide) hf_88 (fun _ h9 => h9) rfl dX4_hashBlock_217 ?_
        refine lv_bipush (v := 6) hx hb dX4_hashBlock_220 (by decide) ?_
        refine va_iald (i := 6) hx hb hK hP 2 0 rfl rfl (vp_in_nI (n := 6) (by decide) (by omega)) dX4_hashBlock_222 ?_
        refine sm_top (z := gs 6) (congrArg gs (nI_clamp (n := 6) (by omega))) ?_
        refine lv_istore (lv' := [(8, .int (gs 6)), (7, .int (gs 5)), (6, .int (gs 4)), (5, .int (gs 3)), (4, .int (gs 2)), (3, .int (gs 1)), (2, .int (gs 0)), (0, .ref zm), (1, .int (nI a))]) hx hb dX4_hashBlock_223 hl (by decide) rfl (fun ls hl => ?_)
        refine lv_aload_n hx hb dX4_hashBlock_225 rfl (lv_at hl 7 rfl) ?_
        refine va_get (D := D) (ci := 4) (v := .ref zsu) (C := RX4) (T := TX4) (N := 22) hx hb hts hw_X4 hown hK hP 0 rfl rfl 3 (by decide) hf_88 (fun _ h9 => h9) rfl dX4_hashBlock_226 ?_
        refine lv_bipush (v := 7) hx hb dX4_hashBlock_229 (by decide) ?_
        refine va_iald (i := 7) hx hb hK hP 2 0 rfl rfl (vp_in_nI (n := 7) (by decide) (by omega)) dX4_hashBlock_231 ?_
        refine sm_top (z := gs 7) (congrArg gs (nI_clamp (n := 7) (by omega))) ?_
        refine lv_istore (lv' := [(9, .int (gs 7)), (8, .int (gs 6)), (7, .int (gs 5)), (6, .int (gs 4)), (5, .int (gs 3)), (4, .int (gs 2)), (3, .int (gs 1)), (2, .int (gs 0)), (0, .ref zm), (1, .int (nI a))]) hx hb dX4_hashBlock_232 hl (by decide) rfl (fun ls hl => ?_)
        refine lv_iconst (v := 0) hx hb dX4_hashBlock_234 (by decide) ?_
        refine lv_istore (lv' := [(10, .int 0), (9, .int (gs 7)), (8, .int (gs 6)), (7, .int (gs 5)), (6, .int (gs 4)), (5, .int (gs 3)), (4, .int (gs 2)), (3, .int (gs 1)), (2, .int (gs 0)), (0, .ref zm), (1, .int (nI a))]) hx hb dX4_hashBlock_235 hl (by decide) rfl (fun ls hl => ?_)
        have ex8 : (gs 0, gs 1, gs 2, gs 3, gs 4, gs 5, gs 6, gs 7) = sm_rds (sm_W gr a) 0 (sm_i8 gs) := rfl
        have lp237 : ∀ (zn : Nat) (t : Nat) (x1 : Int32) (x2 : Int32) (x3 : Int32) (x4 : Int32) (x5 : Int32) (x6 : Int32) (x7 : Int32) (x8 : Int32) (H : Heap) (locs : List Loc) (ls : Array Slot), 64 - t < zn → t ≤ 64 → (x1, x2, x3, x4, x5, x6, x7, x8) = sm_rds (sm_W gr a) t (sm_i8 gs) → va_P D vwCl [(zm, .inr (4, [.int flt, .ref zrt, .ref zfi, .ref zsu, .ref zwo, .ref zro, .int (nI u), .ref zdi, .ref zpa, .ref zin, .int is_, .ref zow, .int os_, .int sd, .ref zke, .ref zva, .ref zle, .int ct, .int iv, .int dw, .ref zdr, .int ds])), (zrt, .inl (cI, 64, .inl sm_K)), (zsu, .inl (cI, 8, .inl gs)), (zwo, .inl (cI, 64, .inl (sm_W gr a))), (zro, .inl (cI, 512, .inl gr))] H → va_D A [(zm, .inr (4, [.int flt, .ref zrt, .ref zfi, .ref zsu, .ref zwo, .ref zro, .int (nI u), .ref zdi, .ref zpa, .ref zin, .int is_, .ref zow, .int os_, .int sd, .ref zke, .ref zva, .ref zle, .int ct, .int iv, .int dw, .ref zdr, .int ds])), (zrt, .inl (cI, 64, .inl sm_K)), (zsu, .inl (cI, 8, .inl gs)), (zwo, .inl (cI, 64, .inl (sm_W gr a))), (zro, .inl (cI, 512, .inl gr))] → va_S A s.heap H locs → lv_has ls 13 [(10, .int (nI t)), (2, .int x1), (3, .int x2), (4, .int x3), (5, .int x4), (6, .int x5), (7, .int x6), (8, .int x7), (9, .int x8), (0, .ref zm), (1, .int (nI a))] → W p l e (headSpec wsX4_hashBlock rm_X4_hashBlock).room s m ([.ref zm, .int (nI a)] : List Value).toArray below meth c H locs 0 0 Q (F0 m 237 ls []) := by
          intro zn
          induction zn with
          | zero => intro t x1 x2 x3 x4 x5 x6 x7 x8 H locs ls hmu; exact absurd hmu (Nat.not_lt_zero _)
          | succ zn ih =>
            intro t x1 x2 x3 x4 x5 x6 x7 x8 H locs ls hmu ht1 hx8 hP hD hS hl
            refine lv_iload hx hb dX4_hashBlock_237 (lv_at hl 0 rfl) ?_
            refine lv_bipush (v := 64) hx hb dX4_hashBlock_239 (by decide) ?_
            refine lv_icmp_ge (tgt := 377) hx hb dX4_hashBlock_241 (by decide) (fun c_241 => ?_) (fun c_241 => ?_)
            ·
              have hex : t = 64 := by
                rcases Nat.lt_or_ge t 64 with q | q
                · exact absurd c_241 (nI_ge q (by decide))
                · omega
              rw [hex] at hx8
              refine lv_aload_n hx hb dX4_hashBlock_377 rfl (lv_at hl 9 rfl) ?_
              refine va_get (D := D) (ci := 4) (v := .ref zsu) (C := RX4) (T := TX4) (N := 22) hx hb hts hw_X4 hown hK hP 0 rfl rfl 3 (by decide) hf_88 (fun _ h9 => h9) rfl dX4_hashBlock_378 ?_
              refine lv_iconst (v := 0) hx hb dX4_hashBlock_381 (by decide) ?_
              refine lv_aload_n hx hb dX4_hashBlock_382 rfl (lv_at hl 9 rfl) ?_
              refine va_get (D := D) (ci := 4) (v := .ref zsu) (C := RX4) (T := TX4) (N := 22) hx hb hts hw_X4 hown hK hP 0 rfl rfl 3 (by decide) hf_88 (fun _ h9 => h9) rfl dX4_hashBlock_383 ?_
              refine lv_iconst (v := 0) hx hb dX4_hashBlock_386 (by decide) ?_
              refine va_iald (i := 0) hx hb hK hP 2 0 rfl rfl (vp_in_nI (n := 0) (by decide) (by omega)) dX4_hashBlock_387 ?_
              refine sm_top (z := gs 0) (congrArg gs (nI_clamp (n := 0) (by omega))) ?_
              refine sm_top (z := gs 0) rfl ?_
              refine lv_iload_n hx hb dX4_hashBlock_388 rfl (lv_at hl 1 rfl) ?_
              refine lv_iadd hx hb dX4_hashBlock_389 ?_
              refine va_iast (i := 0) (x := (gs 0) + x1) hx hb hK hP hD hS 2 0 rfl rfl (vp_in_nI (n := 0) (by decide) (by omega)) dX4_hashBlock_390 (fun H locs hP hD hS => ?_)
              rw [show Int32.toNatClampNeg 0 = 0 from nI_clamp (n := 0) (by omega)] at hP hD
              have hP : va_P D vwCl [(zm, .inr (4, [.int flt, .ref zrt, .ref zfi, .ref zsu, .ref zwo, .ref zro, .int (nI u), .ref zdi, .ref zpa, .ref zin, .int is_, .ref zow, .int os_, .int sd, .ref zke, .ref zva, .ref zle, .int ct, .int iv, .int dw, .ref zdr, .int ds])), (zrt, .inl (cI, 64, .inl sm_K)), (zsu, .inl (cI, 8, .inl (upd gs 0 ((gs 0) + x1)))), (zwo, .inl (cI, 64, .inl (sm_W gr a))), (zro, .inl (cI, 512, .inl gr))] H := hP
              have hD : va_D A [(zm, .inr (4, [.int flt, .ref zrt, .ref zfi, .ref zsu, .ref zwo, .ref zro, .int (nI u), .ref zdi, .ref zpa, .ref zin, .int is_, .ref zow, .int os_, .int sd, .ref zke, .ref zva, .ref zle, .int ct, .int iv, .int dw, .ref zdr, .int ds])), (zrt, .inl (cI, 64, .inl sm_K)), (zsu, .inl (cI, 8, .inl (upd gs 0 ((gs 0) + x1)))), (zwo, .inl (cI, 64, .inl (sm_W gr a))), (zro, .inl (cI, 512, .inl gr))] := hD
              refine lv_aload_n hx hb dX4_hashBlock_391 rfl (lv_at hl 9 rfl) ?_
              refine va_get (D := D) (ci := 4) (v := .ref zsu) (C := RX4) (T := TX4) (N := 22) hx hb hts hw_X4 hown hK hP 0 rfl rfl 3 (by decide) hf_88 (fun _ h9 => h9) rfl dX4_hashBlock_392 ?_
              refine lv_iconst (v := 1) hx hb dX4_hashBlock_395 (by decide) ?_
              refine lv_aload_n hx hb dX4_hashBlock_396 rfl (lv_at hl 9 rfl) ?_
              refine va_get (D := D) (ci := 4) (v := .ref zsu) (C := RX4) (T := TX4) (N := 22) hx hb hts hw_X4 hown hK hP 0 rfl rfl 3 (by decide) hf_88 (fun _ h9 => h9) rfl dX4_hashBlock_397 ?_
              refine lv_iconst (v := 1) hx hb dX4_hashBlock_400 (by decide) ?_
              refine va_iald (i := 1) hx hb hK hP 2 0 rfl rfl (vp_in_nI (n := 1) (by decide) (by omega)) dX4_hashBlock_401 ?_
              refine sm_top (z := (upd gs 0 ((gs 0) + x1)) 1) (congrArg (upd gs 0 ((gs 0) + x1)) (nI_clamp (n := 1) (by omega))) ?_
              refine sm_top (z := gs 1) rfl ?_
              refine lv_iload_n hx hb dX4_hashBlock_402 rfl (lv_at hl 2 rfl) ?_
              refine lv_iadd hx hb dX4_hashBlock_403 ?_
              refine va_iast (i := 1) (x := (gs 1) + x2) hx hb hK hP hD hS 2 0 rfl rfl (vp_in_nI (n := 1) (by decide) (by omega)) dX4_hashBlock_404 (fun H locs hP hD hS => ?_)
              rw [show Int32.toNatClampNeg 1 = 1 from nI_clamp (n := 1) (by omega)] at hP hD
              have hP : va_P D vwCl [(zm, .inr (4, [.int flt, .ref zrt, .ref zfi, .ref zsu, .ref zwo, .ref zro, .int (nI u), .ref zdi, .ref zpa, .ref zin, .int is_, .ref zow, .int os_, .int sd, .ref zke, .ref zva, .ref zle, .int ct, .int iv, .int dw, .ref zdr, .int ds])), (zrt, .inl (cI, 64, .inl sm_K)), (zsu, .inl (cI, 8, .inl (upd (upd gs 0 ((gs 0) + x1)) 1 ((gs 1) + x2)))), (zwo, .inl (cI, 64, .inl (sm_W gr a))), (zro, .inl (cI, 512, .inl gr))] H := hP
              have hD : va_D A [(zm, .inr (4, [.int flt, .ref zrt, .ref zfi, .ref zsu, .ref zwo, .ref zro, .int (nI u), .ref zdi, .ref zpa, .ref zin, .int is_, .ref zow, .int os_, .int sd, .ref zke, .ref zva, .ref zle, .int ct, .int iv, .int dw, .ref zdr, .int ds])), (zrt, .inl (cI, 64, .inl sm_K)), (zsu, .inl (cI, 8, .inl (upd (upd gs 0 ((gs 0) + x1)) 1 ((gs 1) + x2)))), (zwo, .inl (cI, 64, .inl (sm_W gr a))), (zro, .inl (cI, 512, .inl gr))] := hD
              refine lv_aload_n hx hb dX4_hashBlock_405 rfl (lv_at hl 9 rfl) ?_
              refine va_get (D := D) (ci := 4) (v := .ref zsu) (C := RX4) (T := TX4) (N := 22) hx hb hts hw_X4 hown hK hP 0 rfl rfl 3 (by decide) hf_88 (fun _ h9 => h9) rfl dX4_hashBlock_406 ?_
              refine lv_iconst (v := 2) hx hb dX4_hashBlock_409 (by decide) ?_
              refine lv_aload_n hx hb dX4_hashBlock_410 rfl (lv_at hl 9 rfl) ?_
              refine va_get (D := D) (ci := 4) (v := .ref zsu) (C := RX4) (T := TX4) (N := 22) hx hb hts hw_X4 hown hK hP 0 rfl rfl 3 (by decide) hf_88 (fun _ h9 => h9) rfl dX4_hashBlock_411 ?_
              refine lv_iconst (v := 2) hx hb dX4_hashBlock_414 (by decide) ?_
              refine va_iald (i := 2) hx hb hK hP 2 0 rfl rfl (vp_in_nI (n := 2) (by decide) (by omega)) dX4_hashBlock_415 ?_
              refine sm_top (z := (upd (upd gs 0 ((gs 0) + x1)) 1 ((gs 1) + x2)) 2) (congrArg (upd (upd gs 0 ((gs 0) + x1)) 1 ((gs 1) + x2)) (nI_clamp (n := 2) (by omega))) ?_
              refine sm_top (z := gs 2) rfl ?_
              refine lv_iload hx hb dX4_hashBlock_416 (lv_at hl 3 rfl) ?_
              refine lv_iadd hx hb dX4_hashBlock_418 ?_
              refine va_iast (i := 2) (x := (gs 2) + x3) hx hb hK hP hD hS 2 0 rfl rfl (vp_in_nI (n := 2) (by decide) (by omega)) dX4_hashBlock_419 (fun H locs hP hD hS => ?_)
              rw [show Int32.toNatClampNeg 2 = 2 from nI_clamp (n := 2) (by omega)] at hP hD
              have hP : va_P D vwCl [(zm, .inr (4, [.int flt, .ref zrt, .ref zfi, .ref zsu, .ref zwo, .ref zro, .int (nI u), .ref zdi, .ref zpa, .ref zin, .int is_, .ref zow, .int os_, .int sd, .ref zke, .ref zva, .ref zle, .int ct, .int iv, .int dw, .ref zdr, .int ds])), (zrt, .inl (cI, 64, .inl sm_K)), (zsu, .inl (cI, 8, .inl (upd (upd (upd gs 0 ((gs 0) + x1)) 1 ((gs 1) + x2)) 2 ((gs 2) + x3)))), (zwo, .inl (cI, 64, .inl (sm_W gr a))), (zro, .inl (cI, 512, .inl gr))] H := hP
              have hD : va_D A [(zm, .inr (4, [.int flt, .ref zrt, .ref zfi, .ref zsu, .ref zwo, .ref zro, .int (nI u), .ref zdi, .ref zpa, .ref zin, .int is_, .ref zow, .int os_, .int sd, .ref zke, .ref zva, .ref zle, .int ct, .int iv, .int dw, .ref zdr, .int ds])), (zrt, .inl (cI, 64, .inl sm_K)), (zsu, .inl (cI, 8, .inl (upd (upd (upd gs 0 ((gs 0) + x1)) 1 ((gs 1) + x2)) 2 ((gs 2) + x3)))), (zwo, .inl (cI, 64, .inl (sm_W gr a))), (zro, .inl (cI, 512, .inl gr))] := hD
              refine lv_aload_n hx hb dX4_hashBlock_420 rfl (lv_at hl 9 rfl) ?_
              refine va_get (D := D) (ci := 4) (v := .ref zsu) (C := RX4) (T := TX4) (N := 22) hx hb hts hw_X4 hown hK hP 0 rfl rfl 3 (by decide) hf_88 (fun _ h9 => h9) rfl dX4_hashBlock_421 ?_
              refine lv_iconst (v := 3) hx hb dX4_hashBlock_424 (by decide) ?_
              refine lv_aload_n hx hb dX4_hashBlock_425 rfl (lv_at hl 9 rfl) ?_
              refine va_get (D := D) (ci := 4) (v := .ref zsu) (C := RX4) (T := TX4) (N := 22) hx hb hts hw_X4 hown hK hP 0 rfl rfl 3 (by decide) hf_88 (fun _ h9 => h9) rfl dX4_hashBlock_426 ?_
              refine lv_iconst (v := 3) hx hb dX4_hashBlock_429 (by decide) ?_
              refine va_iald (i := 3) hx hb hK hP 2 0 rfl rfl (vp_in_nI (n := 3) (by decide) (by omega)) dX4_hashBlock_430 ?_
              refine sm_top (z := (upd (upd (upd gs 0 ((gs 0) + x1)) 1 ((gs 1) + x2)) 2 ((gs 2) + x3)) 3) (congrArg (upd (upd (upd gs 0 ((gs 0) + x1)) 1 ((gs 1) + x2)) 2 ((gs 2) + x3)) (nI_clamp (n := 3) (by omega))) ?_
              refine sm_top (z := gs 3) rfl ?_
              refine lv_iload hx hb dX4_hashBlock_431 (lv_at hl 4 rfl) ?_
              refine lv_iadd hx hb dX4_hashBlock_433 ?_
              refine va_iast (i := 3) (x := (gs 3) + x4) hx hb hK hP hD hS 2 0 rfl rfl (vp_in_nI (n := 3) (by decide) (by omega)) dX4_hashBlock_434 (fun H locs hP hD hS => ?_)
              rw [show Int32.toNatClampNeg 3 = 3 from nI_clamp (n := 3) (by omega)] at hP hD
              have hP : va_P D vwCl [(zm, .inr (4, [.int flt, .ref zrt, .ref zfi, .ref zsu, .ref zwo, .ref zro, .int (nI u), .ref zdi, .ref zpa, .ref zin, .int is_, .ref zow, .int os_, .int sd, .ref zke, .ref zva, .ref zle, .int ct, .int iv, .int dw, .ref zdr, .int ds])), (zrt, .inl (cI, 64, .inl sm_K)), (zsu, .inl (cI, 8, .inl (upd (upd (upd (upd gs 0 ((gs 0) + x1)) 1 ((gs 1) + x2)) 2 ((gs 2) + x3)) 3 ((gs 3) + x4)))), (zwo, .inl (cI, 64, .inl (sm_W gr a))), (zro, .inl (cI, 512, .inl gr))] H := hP
              have hD : va_D A [(zm, .inr (4, [.int flt, .ref zrt, .ref zfi, .ref zsu, .ref zwo, .ref zro, .int (nI u), .ref zdi, .ref zpa, .ref zin, .int is_, .ref zow, .int os_, .int sd, .ref zke, .ref zva, .ref zle, .int ct, .int iv, .int dw, .ref zdr, .int ds])), (zrt, .inl (cI, 64, .inl sm_K)), (zsu, .inl (cI, 8, .inl (upd (upd (upd (upd gs 0 ((gs 0) + x1)) 1 ((gs 1) + x2)) 2 ((gs 2) + x3)) 3 ((gs 3) + x4)))), (zwo, .inl (cI, 64, .inl (sm_W gr a))), (zro, .inl (cI, 512, .inl gr))] := hD
              refine lv_aload_n hx hb dX4_hashBlock_435 rfl (lv_at hl 9 rfl) ?_
              refine va_get (D := D) (ci := 4) (v := .ref zsu) (C := RX4) (T := TX4) (N := 22) hx hb hts hw_X4 hown hK hP 0 rfl rfl 3 (by decide) hf_88 (fun _ h9 => h9) rfl dX4_hashBlock_436 ?_
              refine lv_iconst (v := 4) hx hb dX4_hashBlock_439 (by decide) ?_
              refine lv_aload_n hx hb dX4_hashBlock_440 rfl (lv_at hl 9 rfl) ?_
              refine va_get (D := D) (ci := 4) (v := .ref zsu) (C := RX4) (T := TX4) (N := 22) hx hb hts hw_X4 hown hK hP 0 rfl rfl 3 (by decide) hf_88 (fun _ h9 => h9) rfl dX4_hashBlock_441 ?_
              refine lv_iconst (v := 4) hx hb dX4_hashBlock_444 (by decide) ?_
              refine va_iald (i := 4) hx hb hK hP 2 0 rfl rfl (vp_in_nI (n := 4) (by decide) (by omega)) dX4_hashBlock_445 ?_
              refine sm_top (z := (upd (upd (upd (upd gs 0 ((gs 0) + x1)) 1 ((gs 1) + x2)) 2 ((gs 2) + x3)) 3 ((gs 3) + x4)) 4) (congrArg (upd (upd (upd (upd gs 0 ((gs 0) + x1)) 1 ((gs 1) + x2)) 2 ((gs 2) + x3)) 3 ((gs 3) + x4)) (nI_clamp (n := 4) (by omega))) ?_
              refine sm_top (z := gs 4) rfl ?_
              refine lv_iload hx hb dX4_hashBlock_446 (lv_at hl 5 rfl) ?_
              refine lv_iadd hx hb dX4_hashBlock_448 ?_
              refine va_iast (i := 4) (x := (gs 4) + x5) hx hb hK hP hD hS 2 0 rfl rfl (vp_in_nI (n := 4) (by decide) (by omega)) dX4_hashBlock_449 (fun H locs hP hD hS => ?_)
              rw [show Int32.toNatClampNeg 4 = 4 from nI_clamp (n := 4) (by omega)] at hP hD
              have hP : va_P D vwCl [(zm, .inr (4, [.int flt, .ref zrt, .ref zfi, .ref zsu, .ref zwo, .ref zro, .int (nI u), .ref zdi, .ref zpa, .ref zin, .int is_, .ref zow, .int os_, .int sd, .ref zke, .ref zva, .ref zle, .int ct, .int iv, .int dw, .ref zdr, .int ds])), (zrt, .inl (cI, 64, .inl sm_K)), (zsu, .inl (cI, 8, .inl (upd (upd (upd (upd (upd gs 0 ((gs 0) + x1)) 1 ((gs 1) + x2)) 2 ((gs 2) + x3)) 3 ((gs 3) + x4)) 4 ((gs 4) + x5)))), (zwo, .inl (cI, 64, .inl (sm_W gr a))), (zro, .inl (cI, 512, .inl gr))] H := hP
              have hD : va_D A [(zm, .inr (4, [.int flt, .ref zrt, .ref zfi, .ref zsu, .ref zwo, .ref zro, .int (nI u), .ref zdi, .ref zpa, .ref zin, .int is_, .ref zow, .int os_, .int sd, .ref zke, .ref zva, .ref zle, .int ct, .int iv, .int dw, .ref zdr, .int ds])), (zrt, .inl (cI, 64, .inl sm_K)), (zsu, .inl (cI, 8, .inl (upd (upd (upd (upd (upd gs 0 ((gs 0) + x1)) 1 ((gs 1) + x2)) 2 ((gs 2) + x3)) 3 ((gs 3) + x4)) 4 ((gs 4) + x5)))), (zwo, .inl (cI, 64, .inl (sm_W gr a))), (zro, .inl (cI, 512, .inl gr))] := hD
              refine lv_aload_n hx hb dX4_hashBlock_450 rfl (lv_at hl 9 rfl) ?_
              refine va_get (D := D) (ci := 4) (v := .ref zsu) (C := RX4) (T := TX4) (N := 22) hx hb hts hw_X4 hown hK hP 0 rfl rfl 3 (by decide) hf_88 (fun _ h9 => h9) rfl dX4_hashBlock_451 ?_
              refine lv_iconst (v := 5) hx hb dX4_hashBlock_454 (by decide) ?_
              refine lv_aload_n hx hb dX4_hashBlock_455 rfl (lv_at hl 9 rfl) ?_
              refine va_get (D := D) (ci := 4) (v := .ref zsu) (C := RX4) (T := TX4) (N := 22) hx hb hts hw_X4 hown hK hP 0 rfl rfl 3 (by decide) hf_88 (fun _ h9 => h9) rfl dX4_hashBlock_456 ?_
              refine lv_iconst (v := 5) hx hb dX4_hashBlock_459 (by decide) ?_
              refine va_iald (i := 5) hx hb hK hP 2 0 rfl rfl (vp_in_nI (n := 5) (by decide) (by omega)) dX4_hashBlock_460 ?_
              refine sm_top (z := (upd (upd (upd (upd (upd gs 0 ((gs 0) + x1)) 1 ((gs 1) + x2)) 2 ((gs 2) + x3)) 3 ((gs 3) + x4)) 4 ((gs 4) + x5)) 5) (congrArg (upd (upd (upd (upd (upd gs 0 ((gs 0) + x1)) 1 ((gs 1) + x2)) 2 ((gs 2) + x3)) 3 ((gs 3) + x4)) 4 ((gs 4) + x5)) (nI_clamp (n := 5) (by omega))) ?_
              refine sm_top (z := gs 5) rfl ?_
              refine lv_iload hx hb dX4_hashBlock_461 (lv_at hl 6 rfl) ?_
              refine lv_iadd hx hb dX4_hashBlock_463 ?_
              refine va_iast (i := 5) (x := (gs 5) + x6) hx hb hK hP hD hS 2 0 rfl rfl (vp_in_nI (n := 5) (by decide) (by omega)) dX4_hashBlock_464 (fun H locs hP hD hS => ?_)
              rw [show Int32.toNatClampNeg 5 = 5 from nI_clamp (n := 5) (by omega)] at hP hD
              have hP : va_P D vwCl [(zm, .inr (4, [.int flt, .ref zrt, .ref zfi, .ref zsu, .ref zwo, .ref zro, .int (nI u), .ref zdi, .ref zpa, .ref zin, .int is_, .ref zow, .int os_, .int sd, .ref zke, .ref zva, .ref zle, .int ct, .int iv, .int dw, .ref zdr, .int ds])), (zrt, .inl (cI, 64, .inl sm_K)), (zsu, .inl (cI, 8, .inl (upd (upd (upd (upd (upd (upd gs 0 ((gs 0) + x1)) 1 ((gs 1) + x2)) 2 ((gs 2) + x3)) 3 ((gs 3) + x4)) 4 ((gs 4) + x5)) 5 ((gs 5) + x6)))), (zwo, .inl (cI, 64, .inl (sm_W gr a))), (zro, .inl (cI, 512, .inl gr))] H := hP
              have hD : va_D A [(zm, .inr (4, [.int flt, .ref zrt, .ref zfi, .ref zsu, .ref zwo, .ref zro, .int (nI u), .ref zdi, .ref zpa, .ref zin, .int is_, .ref zow, .int os_, .int sd, .ref zke, .ref zva, .ref zle, .int ct, .int iv, .int dw, .ref zdr, .int ds])), (zrt, .inl (cI, 64, .inl sm_K)), (zsu, .inl (cI, 8, .inl (upd (upd (upd (upd (upd (upd gs 0 ((gs 0) + x1)) 1 ((gs 1) + x2)) 2 ((gs 2) + x3)) 3 ((gs 3) + x4)) 4 ((gs 4) + x5)) 5 ((gs 5) + x6)))), (zwo, .inl (cI, 64, .inl (sm_W gr a))), (zro, .inl (cI, 512, .inl gr))] := hD
              refine lv_aload_n hx hb dX4_hashBlock_465 rfl (lv_at hl 9 rfl) ?_
              refine va_get (D := D) (ci := 4) (v := .ref zsu) (C := RX4) (T := TX4) (N := 22) hx hb hts hw_X4 hown hK hP 0 rfl rfl 3 (by decide) hf_88 (fun _ h9 => h9) rfl dX4_hashBlock_466 ?_
              refine lv_bipush (v := 6) hx hb dX4_hashBlock_469 (by decide) ?_
              refine lv_aload_n hx hb dX4_hashBlock_471 rfl (lv_at hl 9 rfl) ?_
              refine va_get (D := D) (ci := 4) (v := .ref zsu) (C := RX4) (T := TX4) (N := 22) hx hb hts hw_X4 hown hK hP 0 rfl rfl 3 (by decide) hf_88 (fun _ h9 => h9) rfl dX4_hashBlock_472 ?_
              refine lv_bipush (v := 6) hx hb dX4_hashBlock_475 (by decide) ?_
              refine va_iald (i := 6) hx hb hK hP 2 0 rfl rfl (vp_in_nI (n := 6) (by decide) (by omega)) dX4_hashBlock_477 ?_
              refine sm_top (z := (upd (upd (upd (upd (upd (upd gs 0 ((gs 0) + x1)) 1 ((gs 1) + x2)) 2 ((gs 2) + x3)) 3 ((gs 3) + x4)) 4 ((gs 4) + x5)) 5 ((gs 5) + x6)) 6) (congrArg (upd (upd (upd (upd (upd (upd gs 0 ((gs 0) + x1)) 1 ((gs 1) + x2)) 2 ((gs 2) + x3)) 3 ((gs 3) + x4)) 4 ((gs 4) + x5)) 5 ((gs 5) + x6)) (nI_clamp (n := 6) (by omega))) ?_
              refine sm_top (z := gs 6) rfl ?_
              refine lv_iload hx hb dX4_hashBlock_478 (lv_at hl 7 rfl) ?_
              refine lv_iadd hx hb dX4_hashBlock_480 ?_
              refine va_iast (i := 6) (x := (gs 6) + x7) hx hb hK hP hD hS 2 0 rfl rfl (vp_in_nI (n := 6) (by decide) (by omega)) dX4_hashBlock_481 (fun H locs hP hD hS => ?_)
              rw [show Int32.toNatClampNeg 6 = 6 from nI_clamp (n := 6) (by omega)] at hP hD
              have hP : va_P D vwCl [(zm, .inr (4, [.int flt, .ref zrt, .ref zfi, .ref zsu, .ref zwo, .ref zro, .int (nI u), .ref zdi, .ref zpa, .ref zin, .int is_, .ref zow, .int os_, .int sd, .ref zke, .ref zva, .ref zle, .int ct, .int iv, .int dw, .ref zdr, .int ds])), (zrt, .inl (cI, 64, .inl sm_K)), (zsu, .inl (cI, 8, .inl (upd (upd (upd (upd (upd (upd (upd gs 0 ((gs 0) + x1)) 1 ((gs 1) + x2)) 2 ((gs 2) + x3)) 3 ((gs 3) + x4)) 4 ((gs 4) + x5)) 5 ((gs 5) + x6)) 6 ((gs 6) + x7)))), (zwo, .inl (cI, 64, .inl (sm_W gr a))), (zro, .inl (cI, 512, .inl gr))] H := hP
              have hD : va_D A [(zm, .inr (4, [.int flt, .ref zrt, .ref zfi, .ref zsu, .ref zwo, .ref zro, .int (nI u), .ref zdi, .ref zpa, .ref zin, .int is_, .ref zow, .int os_, .int sd, .ref zke, .ref zva, .ref zle, .int ct, .int iv, .int dw, .ref zdr, .int ds])), (zrt, .inl (cI, 64, .inl sm_K)), (zsu, .inl (cI, 8, .inl (upd (upd (upd (upd (upd (upd (upd gs 0 ((gs 0) + x1)) 1 ((gs 1) + x2)) 2 ((gs 2) + x3)) 3 ((gs 3) + x4)) 4 ((gs 4) + x5)) 5 ((gs 5) + x6)) 6 ((gs 6) + x7)))), (zwo, .inl (cI, 64, .inl (sm_W gr a))), (zro, .inl (cI, 512, .inl gr))] := hD
              refine lv_aload_n hx hb dX4_hashBlock_482 rfl (lv_at hl 9 rfl) ?_
              refine va_get (D := D) (ci := 4) (v := .ref zsu) (C := RX4) (T := TX4) (N := 22) hx hb hts hw_X4 hown hK hP 0 rfl rfl 3 (by decide) hf_88 (fun _ h9 => h9) rfl dX4_hashBlock_483 ?_
              refine lv_bipush (v := 7) hx hb dX4_hashBlock_486 (by decide) ?_
              refine lv_aload_n hx hb dX4_hashBlock_488 rfl (lv_at hl 9 rfl) ?_
              refine va_get (D := D) (ci := 4) (v := .ref zsu) (C := RX4) (T := TX4) (N := 22) hx hb hts hw_X4 hown hK hP 0 rfl rfl 3 (by decide) hf_88 (fun _ h9 => h9) rfl dX4_hashBlock_489 ?_
              refine lv_bipush (v := 7) hx hb dX4_hashBlock_492 (by decide) ?_
              refine va_iald (i := 7) hx hb hK hP 2 0 rfl rfl (vp_in_nI (n := 7) (by decide) (by omega)) dX4_hashBlock_494 ?_
              refine sm_top (z := (upd (upd (upd (upd (upd (upd (upd gs 0 ((gs 0) + x1)) 1 ((gs 1) + x2)) 2 ((gs 2) + x3)) 3 ((gs 3) + x4)) 4 ((gs 4) + x5)) 5 ((gs 5) + x6)) 6 ((gs 6) + x7)) 7) (congrArg (upd (upd (upd (upd (upd (upd (upd gs 0 ((gs 0) + x1)) 1 ((gs 1) + x2)) 2 ((gs 2) + x3)) 3 ((gs 3) + x4)) 4 ((gs 4) + x5)) 5 ((gs 5) + x6)) 6 ((gs 6) + x7)) (nI_clamp (n := 7) (by omega))) ?_
              refine sm_top (z := gs 7) rfl ?_
              refine lv_iload hx hb dX4_hashBlock_495 (lv_at hl 8 rfl) ?_
              refine lv_iadd hx hb dX4_hashBlock_497 ?_
              refine va_iast (i := 7) (x := (gs 7) + x8) hx hb hK hP hD hS 2 0 rfl rfl (vp_in_nI (n := 7) (by decide) (by omega)) dX4_hashBlock_498 (fun H locs hP hD hS => ?_)
              rw [show Int32.toNatClampNeg 7 = 7 from nI_clamp (n := 7) (by omega)] at hP hD
              have hP : va_P D vwCl [(zm, .inr (4, [.int flt, .ref zrt, .ref zfi, .ref zsu, .ref zwo, .ref zro, .int (nI u), .ref zdi, .ref zpa, .ref zin, .int is_, .ref zow, .int os_, .int sd, .ref zke, .ref zva, .ref zle, .int ct, .int iv, .int dw, .ref zdr, .int ds])), (zrt, .inl (cI, 64, .inl sm_K)), (zsu, .inl (cI, 8, .inl (upd (upd (upd (upd (upd (upd (upd (upd gs 0 ((gs 0) + x1)) 1 ((gs 1) + x2)) 2 ((gs 2) + x3)) 3 ((gs 3) + x4)) 4 ((gs 4) + x5)) 5 ((gs 5) + x6)) 6 ((gs 6) + x7)) 7 ((gs 7) + x8)))), (zwo, .inl (cI, 64, .inl (sm_W gr a))), (zro, .inl (cI, 512, .inl gr))] H := hP
              have hD : va_D A [(zm, .inr (4, [.int flt, .ref zrt, .ref zfi, .ref zsu, .ref zwo, .ref zro, .int (nI u), .ref zdi, .ref zpa, .ref zin, .int is_, .ref zow, .int os_, .int sd, .ref zke, .ref zva, .ref zle, .int ct, .int iv, .int dw, .ref zdr, .int ds])), (zrt, .inl (cI, 64, .inl sm_K)), (zsu, .inl (cI, 8, .inl (upd (upd (upd (upd (upd (upd (upd (upd gs 0 ((gs 0) + x1)) 1 ((gs 1) + x2)) 2 ((gs 2) + x3)) 3 ((gs 3) + x4)) 4 ((gs 4) + x5)) 5 ((gs 5) + x6)) 6 ((gs 6) + x7)) 7 ((gs 7) + x8)))), (zwo, .inl (cI, 64, .inl (sm_W gr a))), (zro, .inl (cI, 512, .inl gr))] := hD
              rw [hQ]
              have hP := sm_arr hP 2 rfl (sm_cp (sm_W gr a) gs) (sm_cp_8 hx8)
              have hD := sm_arrD (y := .inl (cI, 8, .inl (sm_cp (sm_W gr a) gs))) hD 2 rfl
              have hP9 : va_P D vwCl [(zm, .inr (4, [.int flt, .ref zrt, .ref zfi, .ref zsu, .ref zwo, .ref zro, .int (nI u), .ref zdi, .ref zpa, .ref zin, .int is_, .ref zow, .int os_, .int sd, .ref zke, .ref zva, .ref zle, .int ct, .int iv, .int dw, .ref zdr, .int ds])), (zrt, .inl (cI, 64, .inl sm_K)), (zsu, .inl (cI, 8, .inl (sm_cp (sm_W gr a) gs))), (zwo, .inl (cI, 64, .inl (sm_W gr a))), (zro, .inl (cI, 512, .inl gr))] H := hP
              have hD9 : va_D A [(zm, .inr (4, [.int flt, .ref zrt, .ref zfi, .ref zsu, .ref zwo, .ref zro, .int (nI u), .ref zdi, .ref zpa, .ref zin, .int is_, .ref zow, .int os_, .int sd, .ref zke, .ref zva, .ref zle, .int ct, .int iv, .int dw, .ref zdr, .int ds])), (zrt, .inl (cI, 64, .inl sm_K)), (zsu, .inl (cI, 8, .inl (sm_cp (sm_W gr a) gs))), (zwo, .inl (cI, 64, .inl (sm_W gr a))), (zro, .inl (cI, 512, .inl gr))] := hD
              exact W.vret hx hb hr (fun t ht hW => ⟨⟨(), rfl, trivial, ⟨by rw [ht]; exact hP9, va_K.moved hW.alike hK, hD9⟩⟩, hS.F ht⟩) hS.2.2 dX4_hashBlock_499
            ·
              have hlt : t < 64 := by
                rcases Nat.lt_or_ge t 64 with q | q
                · exact q
                · exact absurd (nI_le q (by omega)) c_241
              refine lv_iload hx hb dX4_hashBlock_244 (lv_at hl 8 rfl) ?_
              refine lv_iload hx hb dX4_hashBlock_246 (lv_at hl 5 rfl) ?_
              refine lv_bipush (v := 6) hx hb dX4_hashBlock_248 (by decide) ?_
              refine sm_callSi (wc := []) (wr := [(zm, .inr (4, [.int flt, .ref zrt, .ref zfi, .ref zsu, .ref zwo, .ref zro, .int (nI u), .ref zdi, .ref zpa, .ref zin, .int is_, .ref zow, .int os_, .int sd, .ref zke, .ref zva, .ref zle, .int ct, .int iv, .int dw, .ref zdr, .int ds])), (zrt, .inl (cI, 64, .inl sm_K)), (zsu, .inl (cI, 8, .inl gs)), (zwo, .inl (cI, 64, .inl (sm_W gr a))), (zro, .inl (cI, 512, .inl gr))]) (As := [.int x5, .int 6]) (rest := [.int x8]) ⟨hx, hb, hml, hown, hts⟩ (sc_X4_round l D cI th _ x5 6 (by decide)) (va_cwS 2 hts gX4_hashBlock_X4_round rfl rfl rfl (by decide +kernel) ⟨Nat.le_of_ble_eq_true rfl, Nat.le_of_ble_eq_true rfl⟩) hP hD hS hA hK hT [] [0, 1, 2, 3, 4] rfl rfl rfl rfl (by decide) rfl hl.1 rfl (Nat.le_of_ble_eq_true rfl) dX4_hashBlock_250 ⟨Nat.zero_le _, Nat.zero_le _⟩ (fun r_250 zt H1 locs ht hvm hw hB hJ hS => ?_)
              obtain ⟨hP1, -, hD1⟩ := hB
              rw [ht] at hP1
              obtain ⟨hP, hD⟩ := hJ _ hP1 hD1
              clear hJ
              generalize H1 = H at hP hS ⊢
              have hP : va_P D vwCl [(zm, .inr (4, [.int flt, .ref zrt, .ref zfi, .ref zsu, .ref zwo, .ref zro, .int (nI u), .ref zdi, .ref zpa, .ref zin, .int is_, .ref zow, .int os_, .int sd, .ref zke, .ref zva, .ref zle, .int ct, .int iv, .int dw, .ref zdr, .int ds])), (zrt, .inl (cI, 64, .inl sm_K)), (zsu, .inl (cI, 8, .inl gs)), (zwo, .inl (cI, 64, .inl (sm_W gr a))), (zro, .inl (cI, 512, .inl gr))] H := hP.sub [0, 1, 2, 3, 4] rfl
              have hD : va_D A [(zm, .inr (4, [.int flt, .ref zrt, .ref zfi, .ref zsu, .ref zwo, .ref zro, .int (nI u), .ref zdi, .ref zpa, .ref zin, .int is_, .ref zow, .int os_, .int sd, .ref zke, .ref zva, .ref zle, .int ct, .int iv, .int dw, .ref zdr, .int ds])), (zrt, .inl (cI, 64, .inl sm_K)), (zsu, .inl (cI, 8, .inl gs)), (zwo, .inl (cI, 64, .inl (sm_W gr a))), (zro, .inl (cI, 512, .inl gr))] := hD.sub [0, 1, 2, 3, 4] rfl rfl
              rw [hw]
              refine lv_iload hx hb dX4_hashBlock_253 (lv_at hl 5 rfl) ?_
              refine lv_bipush (v := 11) hx hb dX4_hashBlock_255 (by decide) ?_
              refine sm_callSi (wc := []) (wr := [(zm, .inr (4, [.int flt, .ref zrt, .ref zfi, .ref zsu, .ref zwo, .ref zro, .int (nI u), .ref zdi, .ref zpa, .ref zin, .int is_, .ref zow, .int os_, .int sd, .ref zke, .ref zva, .ref zle, .int ct, .int iv, .int dw, .ref zdr, .int ds])), (zrt, .inl (cI, 64, .inl sm_K)), (zsu, .inl (cI, 8, .inl gs)), (zwo, .inl (cI, 64, .inl (sm_W gr a))), (zro, .inl (cI, 512, .inl gr))]) (As := [.int x5, .int 11]) (rest := [.int (sm_rr x5 6), .int x8]) ⟨hx, hb, hml, hown, hts⟩ (sc_X4_round l D cI th _ x5 11 (by decide)) (va_cwS 2 hts gX4_hashBlock_X4_round rfl rfl rfl (by decide +kernel) ⟨Nat.le_of_ble_eq_true rfl, Nat.le_of_ble_eq_true rfl⟩) hP hD hS hA hK hT [] [0, 1, 2, 3, 4] rfl rfl rfl rfl (by decide) rfl hl.1 rfl (Nat.le_of_ble_eq_true rfl) dX4_hashBlock_257 ⟨Nat.zero_le _, Nat.zero_le _⟩ (fun r_257 zt H1 locs ht hvm hw hB hJ hS => ?_)
              obtain ⟨hP1, -, hD1⟩ := hB
              rw [ht] at hP1
              obtain ⟨hP, hD⟩ := hJ _ hP1 hD1
              clear hJ
              generalize H1 = H at hP hS ⊢
              have hP : va_P D vwCl [(zm, .inr (4, [.int flt, .ref zrt, .ref zfi, .ref zsu, .ref zwo, .ref zro, .int (nI u), .ref zdi, .ref zpa, .ref zin, .int is_, .ref zow, .int os_, .int sd, .ref zke, .ref zva, .ref zle, .int ct, .int iv, .int dw, .ref zdr, .int ds])), (zrt, .inl (cI, 64, .inl sm_K)), (zsu, .inl (cI, 8, .inl gs)), (zwo, .inl (cI, 64, .inl (sm_W gr a))), (zro, .inl (cI, 512, .inl gr))] H := hP.sub [0, 1, 2, 3, 4] rfl
              have hD : va_D A [(zm, .inr (4, [.int flt, .ref zrt, .ref zfi, .ref zsu, .ref zwo, .ref zro, .int (nI u), .ref zdi, .ref zpa, .ref zin, .int is_, .ref zow, .int os_, .int sd, .ref zke, .ref zva, .ref zle, .int ct, .int iv, .int dw, .ref zdr, .int ds])), (zrt, .inl (cI, 64, .inl sm_K)), (zsu, .inl (cI, 8, .inl gs)), (zwo, .inl (cI, 64, .inl (sm_W gr a))), (zro, .inl (cI, 512, .inl gr))] := hD.sub [0, 1, 2, 3, 4] rfl rfl
              rw [hw]
              refine lv_ixor hx hb dX4_hashBlock_260 ?_
              refine lv_iload hx hb dX4_hashBlock_261 (lv_at hl 5 rfl) ?_
              refine lv_bipush (v := 25) hx hb dX4_hashBlock_263 (by decide) ?_
              refine sm_callSi (wc := []) (wr := [(zm, .inr (4, [.int flt, .ref zrt, .ref zfi, .ref zsu, .ref zwo, .ref zro, .int (nI u), .ref zdi, .ref zpa, .ref zin, .int is_, .ref zow, .int os_, .int sd, .ref zke, .ref zva, .ref zle, .int ct, .int iv, .int dw, .ref zdr, .int ds])), (zrt, .inl (cI, 64, .inl sm_K)), (zsu, .inl (cI, 8, .inl gs)), (zwo, .inl (cI, 64, .inl (sm_W gr a))), (zro, .inl (cI, 512, .inl gr))]) (As := [.int x5, .int 25]) (rest := [.int ((sm_rr x5 6) ^^^ (sm_rr x5 11)), .int x8]) ⟨hx, hb, hml, hown, hts⟩ (sc_X4_round l D cI th _ x5 25 (by decide)) (va_cwS 2 hts gX4_hashBlock_X4_round rfl rfl rfl (by decide +kernel) ⟨Nat.le_of_ble_eq_true rfl, Nat.le_of_ble_eq_true rfl⟩) hP hD hS hA hK hT [] [0, 1, 2, 3, 4] rfl rfl rfl rfl (by decide) rfl hl.1 rfl (Nat.le_of_ble_eq_true rfl) dX4_hashBlock_265 ⟨Nat.zero_le _, Nat.zero_le _⟩ (fun r_265 zt H1 locs ht hvm hw hB hJ hS => ?_)
              obtain ⟨hP1, -, hD1⟩ := hB
              rw [ht] at hP1
              obtain ⟨hP, hD⟩ := hJ _ hP1 hD1
              clear hJ
              generalize H1 = H at hP hS ⊢
              have hP : va_P D vwCl [(zm, .inr (4, [.int flt, .ref zrt, .ref zfi, .ref zsu, .ref zwo, .ref zro, .int (nI u), .ref zdi, .ref zpa, .ref zin, .int is_, .ref zow, .int os_, .int sd, .ref zke, .ref zva, .ref zle, .int ct, .int iv, .int dw, .ref zdr, .int ds])), (zrt, .inl (cI, 64, .inl sm_K)), (zsu, .inl (cI, 8, .inl gs)), (zwo, .inl (cI, 64, .inl (sm_W gr a))), (zro, .inl (cI, 512, .inl gr))] H := hP.sub [0, 1, 2, 3, 4] rfl
              have hD : va_D A [(zm, .inr (4, [.int flt, .ref zrt, .ref zfi, .ref zsu, .ref zwo, .ref zro, .int (nI u), .ref zdi, .ref zpa, .ref zin, .int is_, .ref zow, .int os_, .int sd, .ref zke, .ref zva, .ref zle, .int ct, .int iv, .int dw, .ref zdr, .int ds])), (zrt, .inl (cI, 64, .inl sm_K)), (zsu, .inl (cI, 8, .inl gs)), (zwo, .inl (cI, 64, .inl (sm_W gr a))), (zro, .inl (cI, 512, .inl gr))] := hD.sub [0, 1, 2, 3, 4] rfl rfl
              rw [hw]
              refine lv_ixor hx hb dX4_hashBlock_268 ?_
              refine lv_iadd hx hb dX4_hashBlock_269 ?_
              refine lv_iload hx hb dX4_hashBlock_270 (lv_at hl 5 rfl) ?_
              refine lv_iload hx hb dX4_hashBlock_272 (lv_at hl 6 rfl) ?_
              refine lv_iand hx hb dX4_hashBlock_274 ?_
              refine lv_iload hx hb dX4_hashBlock_275 (lv_at hl 5 rfl) ?_
              refine lv_iconst (v := (-1)) hx hb dX4_hashBlock_277 (by decide) ?_
              refine lv_ixor hx hb dX4_hashBlock_278 ?_
              refine lv_iload hx hb dX4_hashBlock_279 (lv_at hl 7 rfl) ?_
              refine lv_iand hx hb dX4_hashBlock_281 ?_
              refine lv_ixor hx hb dX4_hashBlock_282 ?_
              refine lv_iadd hx hb dX4_hashBlock_283 ?_
              refine lv_aload_n hx hb dX4_hashBlock_284 rfl (lv_at hl 9 rfl) ?_
              refine va_get (D := D) (ci := 4) (v := .ref zrt) (C := RX4) (T := TX4) (N := 22) hx hb hts hw_X4 hown hK hP 0 rfl rfl 1 (by decide) hf_71 (fun _ h9 => h9) rfl dX4_hashBlock_285 ?_
              refine lv_iload hx hb dX4_hashBlock_288 (lv_at hl 0 rfl) ?_
              refine va_iald (i := nI t) hx hb hK hP 1 0 rfl rfl (vp_in_nI (n := t) (by omega) (by omega)) dX4_hashBlock_290 ?_
              refine sm_top (z := sm_K t) (congrArg sm_K (nI_clamp (n := t) (by omega))) ?_
              refine lv_iadd hx hb dX4_hashBlock_291 ?_
              refine lv_aload_n hx hb dX4_hashBlock_292 rfl (lv_at hl 9 rfl) ?_
              refine va_get (D := D) (ci := 4) (v := .ref zwo) (C := RX4) (T := TX4) (N := 22) hx hb hts hw_X4 hown hK hP 0 rfl rfl 4 (by decide) hf_91 (fun _ h9 => h9) rfl dX4_hashBlock_293 ?_
              refine lv_iload hx hb dX4_hashBlock_296 (lv_at hl 0 rfl) ?_
              refine va_iald (i := nI t) hx hb hK hP 3 0 rfl rfl (vp_in_nI (n := t) (by omega) (by omega)) dX4_hashBlock_298 ?_
              refine sm_top (z := (sm_W gr a) t) (congrArg (sm_W gr a) (nI_clamp (n := t) (by omega))) ?_
              refine lv_iadd hx hb dX4_hashBlock_299 ?_
              refine sm_top (z := sm_t1 x5 x6 x7 x8 (sm_K t) (sm_W gr a t)) rfl ?_
              refine lv_istore (lv' := [(11, .int (sm_t1 x5 x6 x7 x8 (sm_K t) (sm_W gr a t))), (10, .int (nI t)), (2, .int x1), (3, .int x2), (4, .int x3), (5, .int x4), (6, .int x5), (7, .int x6), (8, .int x7), (9, .int x8), (0, .ref zm), (1, .int (nI a))]) hx hb dX4_hashBlock_300 hl (by decide) rfl (fun ls hl => ?_)
              refine lv_iload_n hx hb dX4_hashBlock_302 rfl (lv_at hl 2 rfl) ?_
              refine lv_iconst (v := 2) hx hb dX4_hashBlock_303 (by decide) ?_
              refine sm_callSi (wc := []) (wr := [(zm, .inr (4, [.int flt, .ref zrt, .ref zfi, .ref zsu, .ref zwo, .ref zro, .int (nI u), .ref zdi, .ref zpa, .ref zin, .int is_, .ref zow, .int os_, .int sd, .ref zke, .ref zva, .ref zle, .int ct, .int iv, .int dw, .ref zdr, .int ds])), (zrt, .inl (cI, 64, .inl sm_K)), (zsu, .inl (cI, 8, .inl gs)), (zwo, .inl (cI, 64, .inl (sm_W gr a))), (zro, .inl (cI, 512, .inl gr))]) (As := [.int x1, .int 2]) (rest := []) ⟨hx, hb, hml, hown, hts⟩ (sc_X4_round l D cI th _ x1 2 (by decide)) (va_cwS 2 hts gX4_hashBlock_X4_round rfl rfl rfl (by decide +kernel) ⟨Nat.le_of_ble_eq_true rfl, Nat.le_of_ble_eq_true rfl⟩) hP hD hS hA hK hT [] [0, 1, 2, 3, 4] rfl rfl rfl rfl (by decide) rfl hl.1 rfl (Nat.le_of_ble_eq_true rfl) dX4_hashBlock_304 ⟨Nat.zero_le _, Nat.zero_le _⟩ (fun r_304 zt H1 locs ht hvm hw hB hJ hS => ?_)
              obtain ⟨hP1, -, hD1⟩ := hB
              rw [ht] at hP1
              obtain ⟨hP, hD⟩ := hJ _ hP1 hD1
              clear hJ
              generalize H1 = H at hP hS ⊢
              have hP : va_P D vwCl [(zm, .inr (4, [.int flt, .ref zrt, .ref zfi, .ref zsu, .ref zwo, .ref zro, .int (nI u), .ref zdi, .ref zpa, .ref zin, .int is_, .ref zow, .int os_, .int sd, .ref zke, .ref zva, .ref zle, .int ct, .int iv, .int dw, .ref zdr, .int ds])), (zrt, .inl (cI, 64, .inl sm_K)), (zsu, .inl (cI, 8, .inl gs)), (zwo, .inl (cI, 64, .inl (sm_W gr a))), (zro, .inl (cI, 512, .inl gr))] H := hP.sub [0, 1, 2, 3, 4] rfl
              have hD : va_D A [(zm, .inr (4, [.int flt, .ref zrt, .ref zfi, .ref zsu, .ref zwo, .ref zro, .int (nI u), .ref zdi, .ref zpa, .ref zin, .int is_, .ref zow, .int os_, .int sd, .ref zke, .ref zva, .ref zle, .int ct, .int iv, .int dw, .ref zdr, .int ds])), (zrt, .inl (cI, 64, .inl sm_K)), (zsu, .inl (cI, 8, .inl gs)), (zwo, .inl (cI, 64, .inl (sm_W gr a))), (zro, .inl (cI, 512, .inl gr))] := hD.sub [0, 1, 2, 3, 4] rfl rfl
              rw [hw]
              refine lv_iload_n hx hb dX4_hashBlock_307 rfl (lv_at hl 2 rfl) ?_
              refine lv_bipush (v := 13) hx hb dX4_hashBlock_308 (by decide) ?_
              refine sm_callSi (wc := []) (wr := [(zm, .inr (4, [.int flt, .ref zrt, .ref zfi, .ref zsu, .ref zwo, .ref zro, .int (nI u), .ref zdi, .ref zpa, .ref zin, .int is_, .ref zow, .int os_, .int sd, .ref zke, .ref zva, .ref zle, .int ct, .int iv, .int dw, .ref zdr, .int ds])), (zrt, .inl (cI, 64, .inl sm_K)), (zsu, .inl (cI, 8, .inl gs)), (zwo, .inl (cI, 64, .inl (sm_W gr a))), (zro, .inl (cI, 512, .inl gr))]) (As := [.int x1, .int 13]) (rest := [.int (sm_rr x1 2)]) ⟨hx, hb, hml, hown, hts⟩ (sc_X4_round l D cI th _ x1 13 (by decide)) (va_cwS 2 hts gX4_hashBlock_X4_round rfl rfl rfl (by decide +kernel) ⟨Nat.le_of_ble_eq_true rfl, Nat.le_of_ble_eq_true rfl⟩) hP hD hS hA hK hT [] [0, 1, 2, 3, 4] rfl rfl rfl rfl (by decide) rfl hl.1 rfl (Nat.le_of_ble_eq_true rfl) dX4_hashBlock_310 ⟨Nat.zero_le _, Nat.zero_le _⟩ (fun r_310 zt H1 locs ht hvm hw hB hJ hS => ?_)
              obtain ⟨hP1, -, hD1⟩ := hB
              rw [ht] at hP1
              obtain ⟨hP, hD⟩ := hJ _ hP1 hD1
              clear hJ
              generalize H1 = H at hP hS ⊢
              have hP : va_P D vwCl [(zm, .inr (4, [.int flt, .ref zrt, .ref zfi, .ref zsu, .ref zwo, .ref zro, .int (nI u), .ref zdi, .ref zpa, .ref zin, .int is_, .ref zow, .int os_, .int sd, .ref zke, .ref zva, .ref zle, .int ct, .int iv, .int dw, .ref zdr, .int ds])), (zrt, .inl (cI, 64, .inl sm_K)), (zsu, .inl (cI, 8, .inl gs)), (zwo, .inl (cI, 64, .inl (sm_W gr a))), (zro, .inl (cI, 512, .inl gr))] H := hP.sub [0, 1, 2, 3, 4] rfl
              have hD : va_D A [(zm, .inr (4, [.int flt, .ref zrt, .ref zfi, .ref zsu, .ref zwo, .ref zro, .int (nI u), .ref zdi, .ref zpa, .ref zin, .int is_, .ref zow, .int os_, .int sd, .ref zke, .ref zva, .ref zle, .int ct, .int iv, .int dw, .ref zdr, .int ds])), (zrt, .inl (cI, 64, .inl sm_K)), (zsu, .inl (cI, 8, .inl gs)), (zwo, .inl (cI, 64, .inl (sm_W gr a))), (zro, .inl (cI, 512, .inl gr))] := hD.sub [0, 1, 2, 3, 4] rfl rfl
              rw [hw]
              refine lv_ixor hx hb dX4_hashBlock_313 ?_
              refine lv_iload_n hx hb dX4_hashBlock_314 rfl (lv_at hl 2 rfl) ?_
              refine lv_bipush (v := 22) hx hb dX4_hashBlock_315 (by decide) ?_
              refine sm_callSi (wc := []) (wr := [(zm, .inr (4, [.int flt, .ref zrt, .ref zfi, .ref zsu, .ref zwo, .ref zro, .int (nI u), .ref zdi, .ref zpa, .ref zin, .int is_, .ref zow, .int os_, .int sd, .ref zke, .ref zva, .ref zle, .int ct, .int iv, .int dw, .ref zdr, .int ds])), (zrt, .inl (cI, 64, .inl sm_K)), (zsu, .inl (cI, 8, .inl gs)), (zwo, .inl (cI, 64, .inl (sm_W gr a))), (zro, .inl (cI, 512, .inl gr))]) (As := [.int x1, .int 22]) (rest := [.int ((sm_rr x1 2) ^^^ (sm_rr x1 13))]) ⟨hx, hb, hml, hown, hts⟩ (sc_X4_round l D cI th _ x1 22 (by decide)) (va_cwS 2 hts gX4_hashBlock_X4_round rfl rfl rfl (by decide +kernel) ⟨Nat.le_of_ble_eq_true rfl, Nat.le_of_ble_eq_true rfl⟩) hP hD hS hA hK hT [] [0, 1, 2, 3, 4] rfl rfl rfl rfl (by decide) rfl hl.1 rfl (Nat.le_of_ble_eq_true rfl) dX4_hashBlock_317 ⟨Nat.zero_le _, Nat.zero_le _⟩ (fun r_317 zt H1 locs ht hvm hw hB hJ hS => ?_)
              obtain ⟨hP1, -, hD1⟩ := hB
              rw [ht] at hP1
              obtain ⟨hP, hD⟩ := hJ _ hP1 hD1
              clear hJ
              generalize H1 = H at hP hS ⊢
              have hP : va_P D vwCl [(zm, .inr (4, [.int flt, .ref zrt, .ref zfi, .ref zsu, .ref zwo, .ref zro, .int (nI u), .ref zdi, .ref zpa, .ref zin, .int is_, .ref zow, .int os_, .int sd, .ref zke, .ref zva, .ref zle, .int ct, .int iv, .int dw, .ref zdr, .int ds])), (zrt, .inl (cI, 64, .inl sm_K)), (zsu, .inl (cI, 8, .inl gs)), (zwo, .inl (cI, 64, .inl (sm_W gr a))), (zro, .inl (cI, 512, .inl gr))] H := hP.sub [0, 1, 2, 3, 4] rfl
              have hD : va_D A [(zm, .inr (4, [.int flt, .ref zrt, .ref zfi, .ref zsu, .ref zwo, .ref zro, .int (nI u), .ref zdi, .ref zpa, .ref zin, .int is_, .ref zow, .int os_, .int sd, .ref zke, .ref zva, .ref zle, .int ct, .int iv, .int dw, .ref zdr, .int ds])), (zrt, .inl (cI, 64, .inl sm_K)), (zsu, .inl (cI, 8, .inl gs)), (zwo, .inl (cI, 64, .inl (sm_W gr a))), (zro, .inl (cI, 512, .inl gr))] := hD.sub [0, 1, 2, 3, 4] rfl rfl
              rw [hw]
              refine lv_ixor hx hb dX4_hashBlock_320 ?_
              refine lv_iload_n hx hb dX4_hashBlock_321 rfl (lv_at hl 2 rfl) ?_
              refine lv_iload_n hx hb dX4_hashBlock_322 rfl (lv_at hl 3 rfl) ?_
              refine lv_iand hx hb dX4_hashBlock_323 ?_
              refine lv_iload_n hx hb dX4_hashBlock_324 rfl (lv_at hl 2 rfl) ?_
              refine lv_iload hx hb dX4_hashBlock_325 (lv_at hl 4 rfl) ?_
              refine lv_iand hx hb dX4_hashBlock_327 ?_
              refine lv_ixor hx hb dX4_hashBlock_328 ?_
              refine lv_iload_n hx hb dX4_hashBlock_329 rfl (lv_at hl 3 rfl) ?_
              refine lv_iload hx hb dX4_hashBlock_330 (lv_at hl 4 rfl) ?_
              refine lv_iand hx hb dX4_hashBlock_332 ?_
              refine lv_ixor hx hb dX4_hashBlock_333 ?_
              refine lv_iadd hx hb dX4_hashBlock_334 ?_
              refine sm_top (z := sm_t2 x1 x2 x3) rfl ?_
              refine lv_istore (lv' := [(12, .int (sm_t2 x1 x2 x3)), (11, .int (sm_t1 x5 x6 x7 x8 (sm_K t) (sm_W gr a t))), (10, .int (nI t)), (2, .int x1), (3, .int x2), (4, .int x3), (5, .int x4), (6, .int x5), (7, .int x6), (8, .int x7), (9, .int x8), (0, .ref zm), (1, .int (nI a))]) hx hb dX4_hashBlock_335 hl (by decide) rfl (fun ls hl => ?_)
              refine lv_iload hx hb dX4_hashBlock_337 (lv_at hl 9 rfl) ?_
              refine lv_istore (lv' := [(9, .int x7), (12, .int (sm_t2 x1 x2 x3)), (11, .int (sm_t1 x5 x6 x7 x8 (sm_K t) (sm_W gr a t))), (10, .int (nI t)), (2, .int x1), (3, .int x2), (4, .int x3), (5, .int x4), (6, .int x5), (7, .int x6), (8, .int x7), (0, .ref zm), (1, .int (nI a))]) hx hb dX4_hashBlock_339 hl (by decide) rfl (fun ls hl => ?_)
              refine lv_iload hx hb dX4_hashBlock_341 (lv_at hl 9 rfl) ?_
              refine lv_istore (lv' := [(8, .int x6), (9, .int x7), (12, .int (sm_t2 x1 x2 x3)), (11, .int (sm_t1 x5 x6 x7 x8 (sm_K t) (sm_W gr a t))), (10, .int (nI t)), (2, .int x1), (3, .int x2), (4, .int x3), (5, .int x4), (6, .int x5), (7, .int x6), (0, .ref zm), (1, .int (nI a))]) hx hb dX4_hashBlock_343 hl (by decide) rfl (fun ls hl => ?_)
              refine lv_iload hx hb dX4_hashBlock_345 (lv_at hl 9 rfl) ?_
              refine lv_istore (lv' := [(7, .int x5), (8, .int x6), (9, .int x7), (12, .int (sm_t2 x1 x2 x3)), (11, .int (sm_t1 x5 x6 x7 x8 (sm_K t) (sm_W gr a t))), (10, .int (nI t)), (2, .int x1), (3, .int x2), (4, .int x3), (5, .int x4), (6, .int x5), (0, .ref zm), (1, .int (nI a))]) hx hb dX4_hashBlock_347 hl (by decide) rfl (fun ls hl => ?_)
              refine lv_iload hx hb dX4_hashBlock_349 (lv_at hl 9 rfl) ?_
              refine lv_iload hx hb dX4_hashBlock_351 (lv_at hl 4 rfl) ?_
              refine lv_iadd hx hb dX4_hashBlock_353 ?_
              refine lv_istore (lv' := [(6, .int (x4 + (sm_t1 x5 x6 x7 x8 (sm_K t) (sm_W gr a t)))), (7, .int x5), (8, .int x6), (9, .int x7), (12, .int (sm_t2 x1 x2 x3)), (11, .int (sm_t1 x5 x6 x7 x8 (sm_K t) (sm_W gr a t))), (10, .int (nI t)), (2, .int x1), (3, .int x2), (4, .int x3), (5, .int x4), (0, .ref zm), (1, .int (nI a))]) hx hb dX4_hashBlock_354 hl (by decide) rfl (fun ls hl => ?_)
              refine lv_iload hx hb dX4_hashBlock_356 (lv_at hl 9 rfl) ?_
              refine lv_istore (lv' := [(5, .int x3), (6, .int (x4 + (sm_t1 x5 x6 x7 x8 (sm_K t) (sm_W gr a t)))), (7, .int x5), (8, .int x6), (9, .int x7), (12, .int (sm_t2 x1 x2 x3)), (11, .int (sm_t1 x5 x6 x7 x8 (sm_K t) (sm_W gr a t))), (10, .int (nI t)), (2, .int x1), (3, .int x2), (4, .int x3), (0, .ref zm), (1, .int (nI a))]) hx hb dX4_hashBlock_358 hl (by decide) rfl (fun ls hl => ?_)
              refine lv_iload_n hx hb dX4_hashBlock_360 rfl (lv_at hl 9 rfl) ?_
              refine lv_istore (lv' := [(4, .int x2), (5, .int x3), (6, .int (x4 + (sm_t1 x5 x6 x7 x8 (sm_K t) (sm_W gr a t)))), (7, .int x5), (8, .int x6), (9, .int x7), (12, .int (sm_t2 x1 x2 x3)), (11, .int (sm_t1 x5 x6 x7 x8 (sm_K t) (sm_W gr a t))), (10, .int (nI t)), (2, .int x1), (3, .int x2), (0, .ref zm), (1, .int (nI a))]) hx hb dX4_hashBlock_361 hl (by decide) rfl (fun ls hl => ?_)
              refine lv_iload_n hx hb dX4_hashBlock_363 rfl (lv_at hl 9 rfl) ?_
              refine lv_istore_n (lv' := [(3, .int x1), (4, .int x2), (5, .int x3), (6, .int (x4 + (sm_t1 x5 x6 x7 x8 (sm_K t) (sm_W gr a t)))), (7, .int x5), (8, .int x6), (9, .int x7), (12, .int (sm_t2 x1 x2 x3)), (11, .int (sm_t1 x5 x6 x7 x8 (sm_K t) (sm_W gr a t))), (10, .int (nI t)), (2, .int x1), (0, .ref zm), (1, .int (nI a))]) hx hb dX4_hashBlock_364 rfl hl (by decide) rfl (fun ls hl => ?_)
              refine lv_iload hx hb dX4_hashBlock_365 (lv_at hl 8 rfl) ?_
              refine lv_iload hx hb dX4_hashBlock_367 (lv_at hl 7 rfl) ?_
              refine lv_iadd hx hb dX4_hashBlock_369 ?_
              refine lv_istore_n (lv' := [(2, .int ((sm_t1 x5 x6 x7 x8 (sm_K t) (sm_W gr a t)) + (sm_t2 x1 x2 x3))), (3, .int x1), (4, .int x2), (5, .int x3), (6, .int (x4 + (sm_t1 x5 x6 x7 x8 (sm_K t) (sm_W gr a t)))), (7, .int x5), (8, .int x6), (9, .int x7), (12, .int (sm_t2 x1 x2 x3)), (11, .int (sm_t1 x5 x6 x7 x8 (sm_K t) (sm_W gr a t))), (10, .int (nI t)), (0, .ref zm), (1, .int (nI a))]) hx hb dX4_hashBlock_370 rfl hl (by decide) rfl (fun ls hl => ?_)
              refine lv_iinc (v := nI (t + 1)) (lv' := [(10, .int (nI (t + 1))), (2, .int ((sm_t1 x5 x6 x7 x8 (sm_K t) (sm_W gr a t)) + (sm_t2 x1 x2 x3))), (3, .int x1), (4, .int x2), (5, .int x3), (6, .int (x4 + (sm_t1 x5 x6 x7 x8 (sm_K t) (sm_W gr a t)))), (7, .int x5), (8, .int x6), (9, .int x7), (12, .int (sm_t2 x1 x2 x3)), (11, .int (sm_t1 x5 x6 x7 x8 (sm_K t) (sm_W gr a t))), (0, .ref zm), (1, .int (nI a))]) hx hb dX4_hashBlock_371 hl (k := 10) rfl (nI_1 t) (by decide) rfl (fun ls hl => ?_)
              refine lv_goto (tgt := 237) hx hb dX4_hashBlock_374 (by decide) ?_
              have hy8 := sm_rds_s hx8
              exact ih (t + 1) (sm_t1 x5 x6 x7 x8 (sm_K t) (sm_W gr a t) + sm_t2 x1 x2 x3) x1 x2 x3 (x4 + sm_t1 x5 x6 x7 x8 (sm_K t) (sm_W gr a t)) x5 x6 x7 _ _ _ (by omega) (by omega) hy8 hP hD hS (lv_sub hl [0, 1, 2, 3, 4, 5, 6, 7, 8, 11, 12] rfl)
        exact lp237 _ 0 (gs 0) (gs 1) (gs 2) (gs 3) (gs 4) (gs 5) (gs 6) (gs 7) _ _ _ (Nat.lt_succ_self _) (by decide) ex8 hP hD hS (lv_sub hl [0, 8, 7, 6, 5, 4, 3, 2, 1, 9, 10] rfl)
      ·
        have hlt_2 : v < 64 := by
          rcases Nat.lt_or_ge v (64) with q | q
          · exact q
          · exact absurd (nI_le q (by omega)) c_5
        refine lv_iload_n hx hb dX4_hashBlock_8 rfl (lv_at hl 0 rfl) ?_
        refine lv_bipush (v := 16) hx hb dX4_hashBlock_9 (by decide) ?_
        refine lv_icmp_ge (tgt := 71) hx hb dX4_hashBlock_11 (by decide) (fun c_11 => ?_) (fun c_11 => ?_)
        ·
          have hsm : 16 ≤ v := by
            rcases Nat.lt_or_ge v 16 with q | q
            · exact absurd c_11 (nI_ge q (by decide))
            · exact q
          refine lv_aload_n hx hb dX4_hashBlock_71 rfl (lv_at hl 1 rfl) ?_
          refine va_get (D := D) (ci := 4) (v := .ref zwo) (C := RX4) (T := TX4) (N := 22) hx hb hts hw_X4 hown hK hP 0 rfl rfl 4 (by decide) hf_91 (fun _ h9 => h9) rfl dX4_hashBlock_72 ?_
          refine lv_iload_n hx hb dX4_hashBlock_75 rfl (lv_at hl 0 rfl) ?_
          refine lv_bipush (v := 15) hx hb dX4_hashBlock_76 (by decide) ?_
          refine lv_isub hx hb dX4_hashBlock_78 ?_
          refine sm_top (z := nI (v - 15)) (pk_sub (a := v) (b := 15) (by omega)) ?_
          refine va_iald (i := nI (v - 15)) hx hb hK hP 3 0 rfl rfl (vp_in_nI (n := (v - 15)) (by omega) (by omega)) dX4_hashBlock_79 ?_
          refine sm_top (z := (sm_sc gr a gw v) (v - 15)) (congrArg (sm_sc gr a gw v) (nI_clamp (n := (v - 15)) (by omega))) ?_
          refine lv_istore_n (lv' := [(3, .int ((sm_sc gr a gw v) (v - 15))), (2, .int (nI v)), (0, .ref zm), (1, .int (nI a))]) hx hb dX4_hashBlock_80 rfl hl (by decide) rfl (fun ls hl => ?_)
          refine lv_aload_n hx hb dX4_hashBlock_81 rfl (lv_at hl 2 rfl) ?_
          refine va_get (D := D) (ci := 4) (v := .ref zwo) (C := RX4) (T := TX4) (N := 22) hx hb hts hw_X4 hown hK hP 0 rfl rfl 4 (by decide) hf_91 (fun _ h9 => h9) rfl dX4_hashBlock_82 ?_
          refine lv_iload_n hx hb dX4_hashBlock_85 rfl (lv_at hl 1 rfl) ?_
          refine lv_iconst (v := 2) hx hb dX4_hashBlock_86 (by decide) ?_
          refine lv_isub hx hb dX4_hashBlock_87 ?_
          refine sm_top (z := nI (v - 2)) (pk_sub (a := v) (b := 2) (by omega)) ?_
          refine va_iald (i := nI (v - 2)) hx hb hK hP 3 0 rfl rfl (vp_in_nI (n := (v - 2)) (by omega) (by omega)) dX4_hashBlock_88 ?_
          refine sm_top (z := (sm_sc gr a gw v) (v - 2)) (congrArg (sm_sc gr a gw v) (nI_clamp (n := (v - 2)) (by omega))) ?_
          refine lv_istore (lv' := [(4, .int ((sm_sc gr a gw v) (v - 2))), (3, .int ((sm_sc gr a gw v) (v - 15))), (2, .int (nI v)), (0, .ref zm), (1, .int (nI a))]) hx hb dX4_hashBlock_89 hl (by decide) rfl (fun ls hl => ?_)
          refine lv_iload_n hx hb dX4_hashBlock_91 rfl (lv_at hl 1 rfl) ?_
          refine lv_bipush (v := 7) hx hb dX4_hashBlock_92 (by decide) ?_
          refine sm_callSi (wc := []) (wr := [(zm, .inr (4, [.int flt, .ref zrt, .ref zfi, .ref zsu, .ref zwo, .ref zro, .int (nI u), .ref zdi, .ref zpa, .ref zin, .int is_, .ref zow, .int os_, .int sd, .ref zke, .ref zva, .ref zle, .int ct, .int iv, .int dw, .ref zdr, .int ds])), (zrt, .inl (cI, 64, .inl sm_K)), (zsu, .inl (cI, 8, .inl gs)), (zwo, .inl (cI, 64, .inl (sm_sc gr a gw v))), (zro, .inl (cI, 512, .inl gr))]) (As := [.int ((sm_sc gr a gw v) (v - 15)), .int 7]) (rest := []) ⟨hx, hb, hml, hown, hts⟩ (sc_X4_round l D cI th _ ((sm_sc gr a gw v) (v - 15)) 7 (by decide)) (va_cwS 2 hts gX4_hashBlock_X4_round rfl rfl rfl (by decide +kernel) ⟨Nat.le_of_ble_eq_true rfl, Nat.le_of_ble_eq_true rfl⟩) hP hD hS hA hK hT [] [0, 1, 2, 3, 4] rfl rfl rfl rfl (by decide) rfl hl.1 rfl (Nat.le_of_ble_eq_true rfl) dX4_hashBlock_94 ⟨Nat.zero_le _, Nat.zero_le _⟩ (fun r_94 zt H1 locs ht hvm hw hB hJ hS => ?_)
          obtain ⟨hP1, -, hD1⟩ := hB
          rw [ht] at hP1
          obtain ⟨hP, hD⟩ := hJ _ hP1 hD1
          clear hJ
          generalize H1 = H at hP hS ⊢
          have hP : va_P D vwCl [(zm, .inr (4, [.int flt, .ref zrt, .ref zfi, .ref zsu, .ref zwo, .ref zro, .int (nI u), .ref zdi, .ref zpa, .ref zin, .int is_, .ref zow, .int os_, .int sd, .ref zke, .ref zva, .ref zle, .int ct, .int iv, .int dw, .ref zdr, .int ds])), (zrt, .inl (cI, 64, .inl sm_K)), (zsu, .inl (cI, 8, .inl gs)), (zwo, .inl (cI, 64, .inl (sm_sc gr a gw v))), (zro, .inl (cI, 512, .inl gr))] H := hP.sub [0, 1, 2, 3, 4] rfl
          have hD : va_D A [(zm, .inr (4, [.int flt, .ref zrt, .ref zfi, .ref zsu, .ref zwo, .ref zro, .int (nI u), .ref zdi, .ref zpa, .ref zin, .int is_, .ref zow, .int os_, .int sd, .ref zke, .ref zva, .ref zle, .int ct, .int iv, .int dw, .ref zdr, .int ds])), (zrt, .inl (cI, 64, .inl sm_K)), (zsu, .inl (cI, 8, .inl gs)), (zwo, .inl (cI, 64, .inl (sm_sc gr a gw v))), (zro, .inl (cI, 512, .inl gr))] := hD.sub [0, 1, 2, 3, 4] rfl rfl
          rw [hw]
          refine lv_iload_n hx hb dX4_hashBlock_97 rfl (lv_at hl 1 rfl) ?_
          refine lv_bipush (v := 18) hx hb dX4_hashBlock_98 (by decide) ?_
          refine sm_callSi (wc := []) (wr := [(zm, .inr (4, [.int flt, .ref zrt, .ref zfi, .ref zsu, .ref zwo, .ref zro, .int (nI u), .ref zdi, .ref zpa, .ref zin, .int is_, .ref zow, .int os_, .int sd, .ref zke, .ref zva, .ref zle, .int ct, .int iv, .int dw, .ref zdr, .int ds])), (zrt, .inl (cI, 64, .inl sm_K)), (zsu, .inl (cI, 8, .inl gs)), (zwo, .inl (cI, 64, .inl (sm_sc gr a gw v))), (zro, .inl (cI, 512, .inl gr))]) (As := [.int ((sm_sc gr a gw v) (v - 15)), .int 18]) (rest := [.int (sm_rr ((sm_sc gr a gw v) (v - 15)) 7)]) ⟨hx, hb, hml, hown, hts⟩ (sc_X4_round l D cI th _ ((sm_sc gr a gw v) (v - 15)) 18 (by decide)) (va_cwS 2 hts gX4_hashBlock_X4_round rfl rfl rfl (by decide +kernel) ⟨Nat.le_of_ble_eq_true rfl, Nat.le_of_ble_eq_true rfl⟩) hP hD hS hA hK hT [] [0, 1, 2, 3, 4] rfl rfl rfl rfl (by decide) rfl hl.1 rfl (Nat.le_of_ble_eq_true rfl) dX4_hashBlock_100 ⟨Nat.zero_le _, Nat.zero_le _⟩ (fun r_100 zt H1 locs ht hvm hw hB hJ hS => ?_)
          obtain ⟨hP1, -, hD1⟩ := hB
          rw [ht] at hP1
          obtain ⟨hP, hD⟩ := hJ _ hP1 hD1
          clear hJ
          generalize H1 = H at hP hS ⊢
          have hP : va_P D vwCl [(zm, .inr (4, [.int flt, .ref zrt, .ref zfi, .ref zsu, .ref zwo, .ref zro, .int (nI u), .ref zdi, .ref zpa, .ref zin, .int is_, .ref zow, .int os_, .int sd, .ref zke, .ref zva, .ref zle, .int ct, .int iv, .int dw, .ref zdr, .int ds])), (zrt, .inl (cI, 64, .inl sm_K)), (zsu, .inl (cI, 8, .inl gs)), (zwo, .inl (cI, 64, .inl (sm_sc gr a gw v))), (zro, .inl (cI, 512, .inl gr))] H := hP.sub [0, 1, 2, 3, 4] rfl
          have hD : va_D A [(zm, .inr (4, [.int flt, .ref zrt, .ref zfi, .ref zsu, .ref zwo, .ref zro, .int (nI u), .ref zdi, .ref zpa, .ref zin, .int is_, .ref zow, .int os_, .int sd, .ref zke, .ref zva, .ref zle, .int ct, .int iv, .int dw, .ref zdr, .int ds])), (zrt, .inl (cI, 64, .inl sm_K)), (zsu, .inl (cI, 8, .inl gs)), (zwo, .inl (cI, 64, .inl (sm_sc gr a gw v))), (zro, .inl (cI, 512, .inl gr))] := hD.sub [0, 1, 2, 3, 4] rfl rfl
          rw [hw]
          refine lv_ixor hx hb dX4_hashBlock_103 ?_
          refine lv_iload_n hx hb dX4_hashBlock_104 rfl (lv_at hl 1 rfl) ?_
          refine lv_iconst (v := 3) hx hb dX4_hashBlock_105 (by decide) ?_
          refine lv_iushr (v := sm_us ((sm_sc gr a gw v) (v - 15)) 3) hx hb dX4_hashBlock_106 rfl ?_
          refine lv_ixor hx hb dX4_hashBlock_107 ?_
          refine sm_top (z := sm_s0 (sm_sc gr a gw v (v - 15))) rfl ?_
          refine lv_istore (lv' := [(5, .int (sm_s0 (sm_sc gr a gw v (v - 15)))), (4, .int ((sm_sc gr a gw v) (v - 2))), (3, .int ((sm_sc gr a gw v) (v - 15))), (2, .int (nI v)), (0, .ref zm), (1, .int (nI a))]) hx hb dX4_hashBlock_108 hl (by decide) rfl (fun ls hl => ?_)
          refine lv_iload hx hb dX4_hashBlock_110 (lv_at hl 1 rfl) ?_
          refine lv_bipush (v := 17) hx hb dX4_hashBlock_112 (by decide) ?_
          refine sm_callSi (wc := []) (wr := [(zm, .inr (4, [.int flt, .ref zrt, .ref zfi, .ref zsu, .ref zwo, .ref zro, .int (nI u), .ref zdi, .ref zpa, .ref zin, .int is_, .ref zow, .int os_, .int sd, .ref zke, .ref zva, .ref zle, .int ct, .int iv, .int dw, .ref zdr, .int ds])), (zrt, .inl (cI, 64, .inl sm_K)), (zsu, .inl (cI, 8, .inl gs)), (zwo, .inl (cI, 64, .inl (sm_sc gr a gw v))), (zro, .inl (cI, 512, .inl gr))]) (As := [.int ((sm_sc gr a gw v) (v - 2)), .int 17]) (rest := []) ⟨hx, hb, hml, hown, hts⟩ (sc_X4_round l D cI th _ ((sm_sc gr a gw v) (v - 2)) 17 (by decide)) (va_cwS 2 hts gX4_hashBlock_X4_round rfl rfl rfl (by decide +kernel) ⟨Nat.le_of_ble_eq_true rfl, Nat.le_of_ble_eq_true rfl⟩) hP hD hS hA hK hT [] [0, 1, 2, 3, 4] rfl rfl rfl rfl (by decide) rfl hl.1 rfl (Nat.le_of_ble_eq_true rfl) dX4_hashBlock_114 ⟨Nat.zero_le _, Nat.zero_le _⟩ (fun r_114 zt H1 locs ht hvm hw hB hJ hS => ?_)
          obtain ⟨hP1, -, hD1⟩ := hB
          rw [ht] at hP1
          obtain ⟨hP, hD⟩ := hJ _ hP1 hD1
          clear hJ
          generalize H1 = H at hP hS ⊢
          have hP : va_P D vwCl [(zm, .inr (4, [.int flt, .ref zrt, .ref zfi, .ref zsu, .ref zwo, .ref zro, .int (nI u), .ref zdi, .ref zpa, .ref zin, .int is_, .ref zow, .int os_, .int sd, .ref zke, .ref zva, .ref zle, .int ct, .int iv, .int dw, .ref zdr, .int ds])), (zrt, .inl (cI, 64, .inl sm_K)), (zsu, .inl (cI, 8, .inl gs)), (zwo, .inl (cI, 64, .inl (sm_sc gr a gw v))), (zro, .inl (cI, 512, .inl gr))] H := hP.sub [0, 1, 2, 3, 4] rfl
          have hD : va_D A [(zm, .inr (4, [.int flt, .ref zrt, .ref zfi, .ref zsu, .ref zwo, .ref zro, .int (nI u), .ref zdi, .ref zpa, .ref zin, .int is_, .ref zow, .int os_, .int sd, .ref zke, .ref zva, .ref zle, .int ct, .int iv, .int dw, .ref zdr, .int ds])), (zrt, .inl (cI, 64, .inl sm_K)), (zsu, .inl (cI, 8, .inl gs)), (zwo, .inl (cI, 64, .inl (sm_sc gr a gw v))), (zro, .inl (cI, 512, .inl gr))] := hD.sub [0, 1, 2, 3, 4] rfl rfl
          rw [hw]
          refine lv_iload hx hb dX4_hashBlock_117 (lv_at hl 1 rfl) ?_
          refine lv_bipush (v := 19) hx hb dX4_hashBlock_119 (by decide) ?_
          refine sm_callSi (wc := []) (wr := [(zm, .inr (4, [.int flt, .ref zrt, .ref zfi, .ref zsu, .ref zwo, .ref zro, .int (nI u), .ref zdi, .ref zpa, .ref zin, .int is_, .ref zow, .int os_, .int sd, .ref zke, .ref zva, .ref zle, .int ct, .int iv, .int dw, .ref zdr, .int ds])), (zrt, .inl (cI, 64, .inl sm_K)), (zsu, .inl (cI, 8, .inl gs)), (zwo, .inl (cI, 64, .inl (sm_sc gr a gw v))), (zro, .inl (cI, 512, .inl gr))]) (As := [.int ((sm_sc gr a gw v) (v - 2)), .int 19]) (rest := [.int (sm_rr ((sm_sc gr a gw v) (v - 2)) 17)]) ⟨hx, hb, hml, hown, hts⟩ (sc_X4_round l D cI th _ ((sm_sc gr a gw v) (v - 2)) 19 (by decide)) (va_cwS 2 hts gX4_hashBlock_X4_round rfl rfl rfl (by decide +kernel) ⟨Nat.le_of_ble_eq_true rfl, Nat.le_of_ble_eq_true rfl⟩) hP hD hS hA hK hT [] [0, 1, 2, 3, 4] rfl rfl rfl rfl (by decide) rfl hl.1 rfl (Nat.le_of_ble_eq_true rfl) dX4_hashBlock_121 ⟨Nat.zero_le _, Nat.zero_le _⟩ (fun r_121 zt H1 locs ht hvm hw hB hJ hS => ?_)
          obtain ⟨hP1, -, hD1⟩ := hB
          rw [ht] at hP1
          obtain ⟨hP, hD⟩ := hJ _ hP1 hD1
          clear hJ
          generalize H1 = H at hP hS ⊢
          have hP : va_P D vwCl [(zm, .inr (4, [.int flt, .ref zrt, .ref zfi, .ref zsu, .ref zwo, .ref zro, .int (nI u), .ref zdi, .ref zpa, .ref zin, .int is_, .ref zow, .int os_, .int sd, .ref zke, .ref zva, .ref zle, .int ct, .int iv, .int dw, .ref zdr, .int ds])), (zrt, .inl (cI, 64, .inl sm_K)), (zsu, .inl (cI, 8, .inl gs)), (zwo, .inl (cI, 64, .inl (sm_sc gr a gw v))), (zro, .inl (cI, 512, .inl gr))] H := hP.sub [0, 1, 2, 3, 4] rfl
          have hD : va_D A [(zm, .inr (4, [.int flt, .ref zrt, .ref zfi, .ref zsu, .ref zwo, .ref zro, .int (nI u), .ref zdi, .ref zpa, .ref zin, .int is_, .ref zow, .int os_, .int sd, .ref zke, .ref zva, .ref zle, .int ct, .int iv, .int dw, .ref zdr, .int ds])), (zrt, .inl (cI, 64, .inl sm_K)), (zsu, .inl (cI, 8, .inl gs)), (zwo, .inl (cI, 64, .inl (sm_sc gr a gw v))), (zro, .inl (cI, 512, .inl gr))] := hD.sub [0, 1, 2, 3, 4] rfl rfl
          rw [hw]
          refine lv_ixor hx hb dX4_hashBlock_124 ?_
          refine lv_iload hx hb dX4_hashBlock_125 (lv_at hl 1 rfl) ?_
          refine lv_bipush (v := 10) hx hb dX4_hashBlock_127 (by decide) ?_
          refine lv_iushr (v := sm_us ((sm_sc gr a gw v) (v - 2)) 10) hx hb dX4_hashBlock_129 rfl ?_
          refine lv_ixor hx hb dX4_hashBlock_130 ?_
          refine sm_top (z := sm_s1 (sm_sc gr a gw v (v - 2))) rfl ?_
          refine lv_istore (lv' := [(6, .int (sm_s1 (sm_sc gr a gw v (v - 2)))), (5, .int (sm_s0 (sm_sc gr a gw v (v - 15)))), (4, .int ((sm_sc gr a gw v) (v - 2))), (3, .int ((sm_sc gr a gw v) (v - 15))), (2, .int (nI v)), (0, .ref zm), (1, .int (nI a))]) hx hb dX4_hashBlock_131 hl (by decide) rfl (fun ls hl => ?_)
          refine lv_aload_n hx hb dX4_hashBlock_133 rfl (lv_at hl 5 rfl) ?_
          refine va_get (D := D) (ci := 4) (v := .ref zwo) (C := RX4) (T := TX4) (N := 22) hx hb hts hw_X4 hown hK hP 0 rfl rfl 4 (by decide) hf_91 (fun _ h9 => h9) rfl dX4_hashBlock_134 ?_
          refine lv_iload_n hx hb dX4_hashBlock_137 rfl (lv_at hl 4 rfl) ?_
          refine lv_aload_n hx hb dX4_hashBlock_138 rfl (lv_at hl 5 rfl) ?_
          refine va_get (D := D) (ci := 4) (v := .ref zwo) (C := RX4) (T := TX4) (N := 22) hx hb hts hw_X4 hown hK hP 0 rfl rfl 4 (by decide) hf_91 (fun _ h9 => h9) rfl dX4_hashBlock_139 ?_
          refine lv_iload_n hx hb dX4_hashBlock_142 rfl (lv_at hl 4 rfl) ?_
          refine lv_bipush (v := 16) hx hb dX4_hashBlock_143 (by decide) ?_
          refine lv_isub hx hb dX4_hashBlock_145 ?_
          refine sm_top (z := nI (v - 16)) (pk_sub (a := v) (b := 16) (by omega)) ?_
          refine va_iald (i := nI (v - 16)) hx hb hK hP 3 0 rfl rfl (vp_in_nI (n := (v - 16)) (by omega) (by omega)) dX4_hashBlock_146 ?_
          refine sm_top (z := (sm_sc gr a gw v) (v - 16)) (congrArg (sm_sc gr a gw v) (nI_clamp (n := (v - 16)) (by omega))) ?_
          refine lv_iload hx hb dX4_hashBlock_147 (lv_at hl 1 rfl) ?_
          refine lv_iadd hx hb dX4_hashBlock_149 ?_
          refine lv_aload_n hx hb dX4_hashBlock_150 rfl (lv_at hl 5 rfl) ?_
          refine va_get (D := D) (ci := 4) (v := .ref zwo) (C := RX4) (T := TX4) (N := 22) hx hb hts hw_X4 hown hK hP 0 rfl rfl 4 (by decide) hf_91 (fun _ h9 => h9) rfl dX4_hashBlock_151 ?_
          refine lv_iload_n hx hb dX4_hashBlock_154 rfl (lv_at hl 4 rfl) ?_
          refine lv_bipush (v := 7) hx hb dX4_hashBlock_155 (by decide) ?_
          refine lv_isub hx hb dX4_hashBlock_157 ?_
          refine sm_top (z := nI (v - 7)) (pk_sub (a := v) (b := 7) (by omega)) ?_
          refine va_iald (i := nI (v - 7)) hx hb hK hP 3 0 rfl rfl (vp_in_nI (n := (v - 7)) (by omega) (by omega)) dX4_hashBlock_158 ?_
          refine sm_top (z := (sm_sc gr a gw v) (v - 7)) (congrArg (sm_sc gr a gw v) (nI_clamp (n := (v - 7)) (by omega))) ?_
          refine lv_iadd hx hb dX4_hashBlock_159 ?_
          refine lv_iload hx hb dX4_hashBlock_160 (lv_at hl 0 rfl) ?_
          refine lv_iadd hx hb dX4_hashBlock_162 ?_
          refine va_iast (i := nI v) (x := ((((sm_sc gr a gw v) (v - 16)) + (sm_s0 (sm_sc gr a gw v (v - 15)))) + ((sm_sc gr a gw v) (v - 7))) + (sm_s1 (sm_sc gr a gw v (v - 2)))) hx hb hK hP hD hS 3 0 rfl rfl (vp_in_nI (n := v) (by omega) (by omega)) dX4_hashBlock_163 (fun H locs hP hD hS => ?_)
          rw [show Int32.toNatClampNeg (nI v) = v from nI_clamp (n := v) (by omega)] at hP hD
          have hP : va_P D vwCl [(zm, .inr (4, [.int flt, .ref zrt, .ref zfi, .ref zsu, .ref zwo, .ref zro, .int (nI u), .ref zdi, .ref zpa, .ref zin, .int is_, .ref zow, .int os_, .int sd, .ref zke, .ref zva, .ref zle, .int ct, .int iv, .int dw, .ref zdr, .int ds])), (zrt, .inl (cI, 64, .inl sm_K)), (zsu, .inl (cI, 8, .inl gs)), (zwo, .inl (cI, 64, .inl (upd (sm_sc gr a gw v) v (((((sm_sc gr a gw v) (v - 16)) + (sm_s0 (sm_sc gr a gw v (v - 15)))) + ((sm_sc gr a gw v) (v - 7))) + (sm_s1 (sm_sc gr a gw v (v - 2))))))), (zro, .inl (cI, 512, .inl gr))] H := hP
          have hD : va_D A [(zm, .inr (4, [.int flt, .ref zrt, .ref zfi, .ref zsu, .ref zwo, .ref zro, .int (nI u), .ref zdi, .ref zpa, .ref zin, .int is_, .ref zow, .int os_, .int sd, .ref zke, .ref zva, .ref zle, .int ct, .int iv, .int dw, .ref zdr, .int ds])), (zrt, .inl (cI, 64, .inl sm_K)), (zsu, .inl (cI, 8, .inl gs)), (zwo, .inl (cI, 64, .inl (upd (sm_sc gr a gw v) v (((((sm_sc gr a gw v) (v - 16)) + (sm_s0 (sm_sc gr a gw v (v - 15)))) + ((sm_sc gr a gw v) (v - 7))) + (sm_s1 (sm_sc gr a gw v (v - 2))))))), (zro, .inl (cI, 512, .inl gr))] := hD
          refine lv_iinc (v := nI (v + 1)) (lv' := [(2, .int (nI (v + 1))), (6, .int (sm_s1 (sm_sc gr a gw v (v - 2)))), (5, .int (sm_s0 (sm_sc gr a gw v (v - 15)))), (4, .int ((sm_sc gr a gw v) (v - 2))), (3, .int ((sm_sc gr a gw v) (v - 15))), (0, .ref zm), (1, .int (nI a))]) hx hb dX4_hashBlock_164 hl (k := 4) rfl (nI_1 v) (by decide) rfl (fun ls hl => ?_)
          refine lv_goto (tgt := 2) hx hb dX4_hashBlock_167 (by decide) ?_
          rw [sm_sc_hi hsm] at hP hD
          exact ih (v + 1) _ _ _ (by omega) (by omega) hP hD hS (lv_sub hl [0, 5, 6] rfl)
        ·
          have hsm : v < 16 := by
            rcases Nat.lt_or_ge v 16 with q | q
            · exact q
            · exact absurd (nI_le q (by omega)) c_11
          refine lv_iload_n hx hb dX4_hashBlock_14 rfl (lv_at hl 2 rfl) ?_
          refine lv_iconst (v := 4) hx hb dX4_hashBlock_15 (by decide) ?_
          refine lv_iload_n hx hb dX4_hashBlock_16 rfl (lv_at hl 0 rfl) ?_
          refine lv_imul hx hb dX4_hashBlock_17 ?_
          refine lv_iadd hx hb dX4_hashBlock_18 ?_
          refine sm_top (z := nI (a + 4 * v)) (by rw [show (4 : Int32) * nI v = nI (4 * v) from pk_mul 4 v, nI_add]) ?_
          refine lv_istore_n (lv' := [(3, .int (nI (a + 4 * v))), (2, .int (nI v)), (0, .ref zm), (1, .int (nI a))]) hx hb dX4_hashBlock_19 rfl hl (by decide) rfl (fun ls hl => ?_)
          refine lv_aload_n hx hb dX4_hashBlock_20 rfl (lv_at hl 2 rfl) ?_
          refine va_get (D := D) (ci := 4) (v := .ref zwo) (C := RX4) (T := TX4) (N := 22) hx hb hts hw_X4 hown hK hP 0 rfl rfl 4 (by decide) hf_91 (fun _ h9 => h9) rfl dX4_hashBlock_21 ?_
          refine lv_iload_n hx hb dX4_hashBlock_24 rfl (lv_at hl 1 rfl) ?_
          refine lv_aload_n hx hb dX4_hashBlock_25 rfl (lv_at hl 2 rfl) ?_
          refine va_get (D := D) (ci := 4) (v := .ref zro) (C := RX4) (T := TX4) (N := 22) hx hb hts hw_X4 hown hK hP 0 rfl rfl 5 (by decide) hf_94 (fun _ h9 => h9) rfl dX4_hashBlock_26 ?_
          refine lv_iload_n hx hb dX4_hashBlock_29 rfl (lv_at hl 0 rfl) ?_
          refine va_iald (i := nI (a + 4 * v)) hx hb hK hP 4 0 rfl rfl (vp_in_nI (n := (a + 4 * v)) (by omega) (by omega)) dX4_hashBlock_30 ?_
          refine sm_top (z := gr (a + 4 * v)) (congrArg gr (nI_clamp (n := (a + 4 * v)) (by omega))) ?_
          refine lv_bipush (v := 24) hx hb dX4_hashBlock_31 (by decide) ?_
          refine lv_ishl hx hb dX4_hashBlock_33 ?_
          refine lv_aload_n hx hb dX4_hashBlock_34 rfl (lv_at hl 2 rfl) ?_
          refine va_get (D := D) (ci := 4) (v := .ref zro) (C := RX4) (T := TX4) (N := 22) hx hb hts hw_X4 hown hK hP 0 rfl rfl 5 (by decide) hf_94 (fun _ h9 => h9) rfl dX4_hashBlock_35 ?_
          refine lv_iload_n hx hb dX4_hashBlock_38 rfl (lv_at hl 0 rfl) ?_
          refine lv_iconst (v := 1) hx hb dX4_hashBlock_39 (by decide) ?_
          refine lv_iadd hx hb dX4_hashBlock_40 ?_
          refine sm_top (z := nI (a + 4 * v + 1)) (nI_add (a + 4 * v) 1) ?_
          refine va_iald (i := nI (a + 4 * v + 1)) hx hb hK hP 4 0 rfl rfl (vp_in_nI (n := (a + 4 * v + 1)) (by omega) (by omega)) dX4_hashBlock_41 ?_
          refine sm_top (z := gr (a + 4 * v + 1)) (congrArg gr (nI_clamp (n := (a + 4 * v + 1)) (by omega))) ?_
          refine lv_bipush (v := 16) hx hb dX4_hashBlock_42 (by decide) ?_
          refine lv_ishl hx hb dX4_hashBlock_44 ?_
          refine lv_ior hx hb dX4_hashBlock_45 ?_
          refine lv_aload_n hx hb dX4_hashBlock_46 rfl (lv_at hl 2 rfl) ?_
          refine va_get (D := D) (ci := 4) (v := .ref zro) (C := RX4) (T := TX4) (N := 22) hx hb hts hw_X4 hown hK hP 0 rfl rfl 5 (by decide) hf_94 (fun _ h9 => h9) rfl dX4_hashBlock_47 ?_
          refine lv_iload_n hx hb dX4_hashBlock_50 rfl (lv_at hl 0 rfl) ?_
          refine lv_iconst (v := 2) hx hb dX4_hashBlock_51 (by decide) ?_
          refine lv_iadd hx hb dX4_hashBlock_52 ?_
          refine sm_top (z := nI (a + 4 * v + 2)) (nI_add (a + 4 * v) 2) ?_
          refine va_iald (i := nI (a + 4 * v + 2)) hx hb hK hP 4 0 rfl rfl (vp_in_nI (n := (a + 4 * v + 2)) (by omega) (by omega)) dX4_hashBlock_53 ?_
          refine sm_top (z := gr (a + 4 * v + 2)) (congrArg gr (nI_clamp (n := (a + 4 * v + 2)) (by omega))) ?_
          refine lv_bipush (v := 8) hx hb dX4_hashBlock_54 (by decide) ?_
          refine lv_ishl hx hb dX4_hashBlock_56 ?_
          refine lv_ior hx hb dX4_hashBlock_57 ?_
          refine lv_aload_n hx hb dX4_hashBlock_58 rfl (lv_at hl 2 rfl) ?_
          refine va_get (D := D) (ci := 4) (v := .ref zro) (C := RX4) (T := TX4) (N := 22) hx hb hts hw_X4 hown hK hP 0 rfl rfl 5 (by decide) hf_94 (fun _ h9 => h9) rfl dX4_hashBlock_59 ?_
          refine lv_iload_n hx hb dX4_hashBlock_62 rfl (lv_at hl 0 rfl) ?_
          refine lv_iconst (v := 3) hx hb dX4_hashBlock_63 (by decide) ?_
          refine lv_iadd hx hb dX4_hashBlock_64 ?_
          refine sm_top (z := nI (a + 4 * v + 3)) (nI_add (a + 4 * v) 3) ?_
          refine va_iald (i := nI (a + 4 * v + 3)) hx hb hK hP 4 0 rfl rfl (vp_in_nI (n := (a + 4 * v + 3)) (by omega) (by omega)) dX4_hashBlock_65 ?_
          refine sm_top (z := gr (a + 4 * v + 3)) (congrArg gr (nI_clamp (n := (a + 4 * v + 3)) (by omega))) ?_
          refine lv_ior hx hb dX4_hashBlock_66 ?_
          refine sm_top (z := sm_wd gr (a + 4 * v)) rfl ?_
          refine va_iast (i := nI v) (x := sm_wd gr (a + 4 * v)) hx hb hK hP hD hS 3 0 rfl rfl (vp_in_nI (n := v) (by omega) (by omega)) dX4_hashBlock_67 (fun H locs hP hD hS => ?_)
          rw [show Int32.toNatClampNeg (nI v) = v from nI_clamp (n := v) (by omega)] at hP hD
          have hP : va_P D vwCl [(zm, .inr (4, [.int flt, .ref zrt, .ref zfi, .ref zsu, .ref zwo, .ref zro, .int (nI u), .ref zdi, .ref zpa, .ref zin, .int is_, .ref zow, .int os_, .int sd, .ref zke, .ref zva, .ref zle, .int ct, .int iv, .int dw, .ref zdr, .int ds])), (zrt, .inl (cI, 64, .inl sm_K)), (zsu, .inl (cI, 8, .inl gs)), (zwo, .inl (cI, 64, .inl (upd (sm_sc gr a gw v) v (sm_wd gr (a + 4 * v))))), (zro, .inl (cI, 512, .inl gr))] H := hP
          have hD : va_D A [(zm, .inr (4, [.int flt, .ref zrt, .ref zfi, .ref zsu, .ref zwo, .ref zro, .int (nI u), .ref zdi, .ref zpa, .ref zin, .int is_, .ref zow, .int os_, .int sd, .ref zke, .ref zva, .ref zle, .int ct, .int iv, .int dw, .ref zdr, .int ds])), (zrt, .inl (cI, 64, .inl sm_K)), (zsu, .inl (cI, 8, .inl gs)), (zwo, .inl (cI, 64, .inl (upd (sm_sc gr a gw v) v (sm_wd gr (a + 4 * v))))), (zro, .inl (cI, 512, .inl gr))] := hD
          refine lv_goto (tgt := 164) hx hb dX4_hashBlock_68 (by decide) ?_
          refine lv_iinc (v := nI (v + 1)) (lv' := [(2, .int (nI (v + 1))), (3, .int (nI (a + 4 * v))), (0, .ref zm), (1, .int (nI a))]) hx hb dX4_hashBlock_164 hl (k := 1) rfl (nI_1 v) (by decide) rfl (fun ls hl => ?_)
          refine lv_goto (tgt := 2) hx hb dX4_hashBlock_167 (by decide) ?_
          rw [sm_sc_lo hsm] at hP hD
          exact ih (v + 1) _ _ _ (by omega) (by omega) hP hD hS (lv_sub hl [0, 2, 3] rfl)
  exact lp2 _ 0 _ _ _ (Nat.lt_succ_self _) (Nat.zero_le _) hP hD hS (lv_sub hl [0, 1, 2] rfl)
