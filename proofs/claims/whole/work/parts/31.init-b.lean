def rm_X0_init : Room := ({ frames := 2, cells := 4, slots := 522, locals := 33 } : Room)
set_option maxHeartbeats 4000000 in
set_option maxRecDepth 100000 in
/-- Hasher() -/
theorem sc_X0_init (l : Launch) (D : va_G) (cI : ClassId) (th : Option (Nat × Nat)) (sz : Nat) (hh : Nat)  : Met l yX0_init wsX0_init rm_X0_init (va_Pc [.ref hh] (sm_PW D cI th [(hh, .inr (0, [.null, .null, .null]))] sz)) (va_Qv (fun (_ : Unit) => True) (fun _ t => ∃ (hm : Nat) (bm : Nat) (aw : Nat) (ad : Nat), sm_QW D cI (va_A [(hh, .inr (0, [.null, .null, .null]))] sz) [(hh, .inr (0, [.ref hm, .ref aw, .ref ad])), (hm, .inr (2, [.ref bm, .int (nI 0)])), (bm, .inl (cI, 448, .inl (fun _ => 0))), (aw, .inl (cI, 64, .inl (fun _ => 0))), (ad, .inl (cI, 8, .inl (fun _ => 0)))] t) (va_A [(hh, .inr (0, [.null, .null, .null]))] sz)) 4 522 (va_A [(hh, .inr (0, [.null, .null, .null]))] sz) := by
  refine Met.ofW (cc := cX0_init) (maxL := 1) (ret := none) (by decide) rfl ?_
  intro p e s m args below meth c s₁ B hml hv
  obtain ⟨rfl, hsz, hP, hK, hD0, hT⟩ := hv
  have hx := B.exec
  have hb := B.bytes
  have hr := B.returns
  have hts := atoms_spec (ws := wsX0_init) B.pre
  have hown : s.vm.findClass RX0 = some m.cls := findClass_of_methodNamed B.named
  have hlocks := B.notSynchronized
  have hin : meth.name = "<init>" := (name_of_methodNamed B.named B.method).1
  subst hsz
  have hD := hD0.self (sz := s.heap.size)
  generalize hAe : va_A [(hh, .inr (0, [.null, .null, .null]))] s.heap.size = A at hD hT ⊢
  have hA : ∀ q : Nat, s.heap.size ≤ q → A q := fun q h => by rw [← hAe]; exact Or.inr h
  have hS : va_S A s.heap s.heap [] := va_S.rf
  have hl := lv_entry ([.ref hh]) (n := 1) (Nat.le_of_ble_eq_true rfl)
  rw [lg_entry_eq]
  generalize (lg_sl ([.ref hh]) ++ List.replicate (1 - (lg_sl ([.ref hh])).length) Slot.unset).toArray = ls at hl ⊢
  have hl : lv_has ls 1 [(0, .ref hh)] := hl
  refine sm_name (fun Q hQ => ?_)
  have hf_14 := hts (.fieldLink RX0 14 "SeedMill$Hasher" "message" "LSeedMill$Row;") (by decide +kernel)
  have hw_X0 : ∀ w ∈ wsX00, w ∈ wsX0_init := by decide +kernel
  have hf_20 := hts (.fieldLink RX0 20 "SeedMill$Hasher" "w" "[I") (by decide +kernel)
  have hf_24 := hts (.fieldLink RX0 24 "SeedMill$Hasher" "words" "[I") (by decide +kernel)
  refine lv_aload_n hx hb dX0_init_0 rfl (lv_at hl 0 rfl) ?_
  refine W.objInit hx hb hown (hts (.methodLink RX0 3 objectInit) (by decide +kernel)) (hts (.instanceMethod objectInit) (by decide +kernel)) (hts (.code objectInit ⟨#[0xb1]⟩ 1 none) (by decide +kernel)) rfl (by rw [hml]; exact hl.1) rfl dX0_init_1 (Nat.le_of_ble_eq_true rfl) (Nat.le_of_ble_eq_true rfl) ?_
  refine W.eq (g2 := F0 m 4 ls []) rfl ?_
  refine lv_aload_n hx hb dX0_init_4 rfl (lv_at hl 0 rfl) ?_
  refine va_new (ci := 2) (fs := [.null, .int 0]) (C := RX2) (T := TX2) (N := 2) hx hb hts (by decide +kernel) tyX2 tyX2_ok hown (hts (.classLink RX0 9 RX2) (by decide +kernel)) (hts (.instantiable RX2 2) (by decide +kernel)) (hts (.initialized RX2) (by decide +kernel)) hK hP hD hS hA rfl (fun j hj => by rcases (show j = 0 ∨ j = 1 by omega) with rfl | rfl <;> rfl) (by show _ ≤ 4; omega) (by show _ ≤ 522; omega) dX0_init_5 (fun q5 H hP hD hS => ?_)
  have hP : va_P D vwCl [(hh, .inr (0, [.null, .null, .null])), (q5, .inr (2, [.null, .int 0]))] H := hP
  have hD : va_D A [(hh, .inr (0, [.null, .null, .null])), (q5, .inr (2, [.null, .int 0]))] := hD
  refine lv_dup hx hb dX0_init_8 rfl ?_
  refine lv_sipush (v := 448) hx hb dX0_init_9 (by decide) ?_
  refine sm_callIv (wc := [(q5, .inr (2, [.null, .int 0]))]) (wr := [(hh, .inr (0, [.null, .null, .null]))]) (As := [.int 448]) (rest := [.ref q5, .ref hh]) ⟨hx, hb, hml, hown, hts⟩ (sc_X2_init_448 l D cI th _ q5 0 ) (cwI 1 hts gX0_init_X2_init rfl rfl rfl (hts (.initialized RX2) (by decide +kernel)) (hts (.methodLink RX0 11 yX2_init) (by decide +kernel)) (hts (.instanceMethod yX2_init) (by decide +kernel)) rfl (by decide +kernel) ⟨Nat.le_of_ble_eq_true rfl, Nat.le_of_ble_eq_true rfl⟩) hP hD hS hA hK hT [1] [0] rfl rfl rfl rfl (by decide) rfl hl.1 rfl (Nat.le_of_ble_eq_true rfl) dX0_init_12 ⟨by show _ ≤ 4; omega, by show _ ≤ 522; omega⟩ (fun zt H1 locs ht hvm hB hJ hS => ?_)
  obtain ⟨b12, hP1, -, hD1⟩ := hB
  rw [ht] at hP1
  obtain ⟨hP, hD⟩ := hJ _ hP1 hD1
  clear hJ
  generalize H1 = H at hP hS ⊢
  have hP : va_P D vwCl [(hh, .inr (0, [.null, .null, .null])), (q5, .inr (2, [.ref b12, .int (nI 0)])), (b12, .inl (cI, 448, .inl (fun _ => 0)))] H := hP.sub [0, 1, 2] rfl
  have hD : va_D A [(hh, .inr (0, [.null, .null, .null])), (q5, .inr (2, [.ref b12, .int (nI 0)])), (b12, .inl (cI, 448, .inl (fun _ => 0)))] := hD.sub [0, 1, 2] rfl rfl
  refine va_putF (D := D) (ci := 0) (v := .ref q5) (ty := .object "SeedMill$Row") (C := RX0) (T := TX0) (N := 3) hx hb hts hw_X0 tyX0 tyX0_ok nmX0 hown hK hP hD hS 0 rfl rfl 0 (by decide) hf_14 (fun _ h9 => h9) rfl hin rfl (by decide +kernel) rfl rfl (Nat.le_of_ble_eq_true rfl) dX0_init_15 (fun H locs hP hD hS => ?_)
  have hP : va_P D vwCl [(hh, .inr (0, [.ref q5, .null, .null])), (q5, .inr (2, [.ref b12, .int (nI 0)])), (b12, .inl (cI, 448, .inl (fun _ => 0)))] H := hP
  have hD : va_D A [(hh, .inr (0, [.ref q5, .null, .null])), (q5, .inr (2, [.ref b12, .int (nI 0)])), (b12, .inl (cI, 448, .inl (fun _ => 0)))] := hD
  refine lv_aload_n hx hb dX0_init_18 rfl (lv_at hl 0 rfl) ?_
  refine lv_bipush (v := 64) hx hb dX0_init_19 (by decide) ?_
  refine va_newa (atype := .int) (ty := .int) (n := 64) (N' := 64) (a0 := (64, .inl (fun _ => 0))) hx hb (hts (.arrayClass .int) (by decide +kernel)) rfl hK hP hD hS hA (fun _ => rfl) (nI_pos (n := 64) (by decide)) (nI_clamp (n := 64) (by decide)) (by show 64 * 4 ≤ 536870912; omega) (by show _ ≤ 4; omega) (by show _ ≤ 522; omega) dX0_init_21 (fun q21 cA H hK2 hP hD hS => ?_)
  have eI : cI = cA := sm_oneI hK2 (i := 0) (j := 1) rfl rfl
  subst eI
  clear hK2
  have hP : va_P D vwCl [(hh, .inr (0, [.ref q5, .null, .null])), (q5, .inr (2, [.ref b12, .int (nI 0)])), (b12, .inl (cI, 448, .inl (fun _ => 0))), (q21, .inl (cI, 64, .inl (fun _ => 0)))] H := hP
  have hD : va_D A [(hh, .inr (0, [.ref q5, .null, .null])), (q5, .inr (2, [.ref b12, .int (nI 0)])), (b12, .inl (cI, 448, .inl (fun _ => 0))), (q21, .inl (cI, 64, .inl (fun _ => 0)))] := hD
  refine va_putF (D := D) (ci := 0) (v := .ref q21) (ty := .array .int) (C := RX0) (T := TX0) (N := 3) hx hb hts hw_X0 tyX0 tyX0_ok nmX0 hown hK hP hD hS 0 rfl rfl 1 (by decide) hf_20 (fun _ h9 => h9) rfl hin rfl (by decide +kernel) rfl rfl (Nat.le_of_ble_eq_true rfl) dX0_init_23 (fun H locs hP hD hS => ?_)
  have hP : va_P D vwCl [(hh, .inr (0, [.ref q5, .ref q21, .null])), (q5, .inr (2, [.ref b12, .int (nI 0)])), (b12, .inl (cI, 448, .inl (fun _ => 0))), (q21, .inl (cI, 64, .inl (fun _ => 0)))] H := hP
  have hD : va_D A [(hh, .inr (0, [.ref q5, .ref q21, .null])), (q5, .inr (2, [.ref b12, .int (nI 0)])), (b12, .inl (cI, 448, .inl (fun _ => 0))), (q21, .inl (cI, 64, .inl (fun _ => 0)))] := hD
  refine lv_aload_n hx hb dX0_init_26 rfl (lv_at hl 0 rfl) ?_
  refine lv_bipush (v := 8) hx hb dX0_init_27 (by decide) ?_
  refine va_newa (atype := .int) (ty := .int) (n := 8) (N' := 8) (a0 := (8, .inl (fun _ => 0))) hx hb (hts (.arrayClass .int) (by decide +kernel)) rfl hK hP hD hS hA (fun _ => rfl) (nI_pos (n := 8) (by decide)) (nI_clamp (n := 8) (by decide)) (by show 8 * 4 ≤ 536870912; omega) (by show _ ≤ 4; omega) (by show _ ≤ 522; omega) dX0_init_29 (fun q29 cA H hK2 hP hD hS => ?_)
  have eI : cI = cA := sm_oneI hK2 (i := 0) (j := 1) rfl rfl
  subst eI
  clear hK2
  have hP : va_P D vwCl [(hh, .inr (0, [.ref q5, .ref q21, .null])), (q5, .inr (2, [.ref b12, .int (nI 0)])), (b12, .inl (cI, 448, .inl (fun _ => 0))), (q21, .inl (cI, 64, .inl (fun _ => 0))), (q29, .inl (cI, 8, .inl (fun _ => 0)))] H := hP
  have hD : va_D A [(hh, .inr (0, [.ref q5, .ref q21, .null])), (q5, .inr (2, [.ref b12, .int (nI 0)])), (b12, .inl (cI, 448, .inl (fun _ => 0))), (q21, .inl (cI, 64, .inl (fun _ => 0))), (q29, .inl (cI, 8, .inl (fun _ => 0)))] := hD
  refine va_putF (D := D) (ci := 0) (v := .ref q29) (ty := .array .int) (C := RX0) (T := TX0) (N := 3) hx hb hts hw_X0 tyX0 tyX0_ok nmX0 hown hK hP hD hS 0 rfl rfl 2 (by decide) hf_24 (fun _ h9 => h9) rfl hin rfl (by decide +kernel) rfl rfl (Nat.le_of_ble_eq_true rfl) dX0_init_31 (fun H locs hP hD hS => ?_)
  have hP : va_P D vwCl [(hh, .inr (0, [.ref q5, .ref q21, .ref q29])), (q5, .inr (2, [.ref b12, .int (nI 0)])), (b12, .inl (cI, 448, .inl (fun _ => 0))), (q21, .inl (cI, 64, .inl (fun _ => 0))), (q29, .inl (cI, 8, .inl (fun _ => 0)))] H := hP
  have hD : va_D A [(hh, .inr (0, [.ref q5, .ref q21, .ref q29])), (q5, .inr (2, [.ref b12, .int (nI 0)])), (b12, .inl (cI, 448, .inl (fun _ => 0))), (q21, .inl (cI, 64, .inl (fun _ => 0))), (q29, .inl (cI, 8, .inl (fun _ => 0)))] := hD
  rw [hQ]
  have hP9 : va_P D vwCl [(hh, .inr (0, [.ref q5, .ref q21, .ref q29])), (q5, .inr (2, [.ref b12, .int (nI 0)])), (b12, .inl (cI, 448, .inl (fun _ => 0))), (q21, .inl (cI, 64, .inl (fun _ => 0))), (q29, .inl (cI, 8, .inl (fun _ => 0)))] H := hP
  have hD9 : va_D A [(hh, .inr (0, [.ref q5, .ref q21, .ref q29])), (q5, .inr (2, [.ref b12, .int (nI 0)])), (b12, .inl (cI, 448, .inl (fun _ => 0))), (q21, .inl (cI, 64, .inl (fun _ => 0))), (q29, .inl (cI, 8, .inl (fun _ => 0)))] := hD
  exact W.vret hx hb hr (fun t ht hW => ⟨⟨(), rfl, trivial, ⟨q5, b12, q21, q29, by rw [ht]; exact hP9, va_K.moved hW.alike hK, hD9⟩⟩, hS.F ht⟩) hS.2.2 dX0_init_34

def rm_X1_init : Room := ({ frames := 3, cells := 9, slots := 625, locals := 53 } : Room)
set_option maxHeartbeats 4000000 in
set_option maxRecDepth 100000 in
/-- KeyedHasher() -/
theorem sc_X1_init (l : Launch) (D : va_G) (cI : ClassId) (th : Option (Nat × Nat)) (sz : Nat) (hk : Nat)  : Met l yX1_init wsX1_init rm_X1_init (va_Pc [.ref hk] (sm_PN D cI th [(hk, .inr (1, [.null, .null, .null]))] sz)) (va_Qv (fun (_ : Unit) => True) (fun _ t => ∃ (hh : Nat) (hm : Nat) (bm : Nat) (aw : Nat) (ad : Nat) (hB : Nat) (bB : Nat) (hI : Nat) (bI : Nat), sm_QW D cI (va_A [(hk, .inr (1, [.null, .null, .null]))] sz) [(hk, .inr (1, [.ref hh, .ref hB, .ref hI])), (hh, .inr (0, [.ref hm, .ref aw, .ref ad])), (hm, .inr (2, [.ref bm, .int (nI 0)])), (bm, .inl (cI, 448, .inl (fun _ => 0))), (aw, .inl (cI, 64, .inl (fun _ => 0))), (ad, .inl (cI, 8, .inl (fun _ => 0))), (hB, .inr (2, [.ref bB, .int (nI 0)])), (bB, .inl (cI, 64, .inl (fun _ => 0))), (hI, .inr (2, [.ref bI, .int (nI 0)])), (bI, .inl (cI, 32, .inl (fun _ => 0)))] t) (va_A [(hk, .inr (1, [.null, .null, .null]))] sz)) 9 625 (va_A [(hk, .inr (1, [.null, .null, .null]))] sz) := by
  refine Met.ofW (cc := cX1_init) (maxL := 1) (ret := none) (by decide) rfl ?_
  intro p e s m args below meth c s₁ B hml hv
  obtain ⟨rfl, ⟨hsz, hP, hK, hD0, hT⟩, hN⟩ := hv
  have hx := B.exec
  have hb := B.bytes
  have hr := B.returns
  have hts := atoms_spec (ws := wsX1_init) B.pre
  have hown : s.vm.findClass RX1 = some m.cls := findClass_of_methodNamed B.named
  have hlocks := B.notSynchronized
  have hin : meth.name = "<init>" := (name_of_methodNamed B.named B.method).1
  subst hsz
  have hD := hD0.self (sz := s.heap.size)
  generalize hAe : va_A [(hk, .inr (1, [.null, .null, .null]))] s.heap.size = A at hD hT ⊢
  have hA : ∀ q : Nat, s.heap.size ≤ q → A q := fun q h => by rw [← hAe]; exact Or.inr h
  have hS : va_S A s.heap s.heap [] := va_S.rf
  have hl := lv_entry ([.ref hk]) (n := 1) (Nat.le_of_ble_eq_true rfl)
  rw [lg_entry_eq]
  generalize (lg_sl ([.ref hk]) ++ List.replicate (1 - (lg_sl ([.ref hk])).length) Slot.unset).toArray = ls at hl ⊢
  have hl : lv_has ls 1 [(0, .ref hk)] := hl
  refine sm_name (fun Q hQ => ?_)
  have hf_12 := hts (.fieldLink RX1 12 "SeedMill$KeyedHasher" "hasher" "LSeedMill$Hasher;") (by decide +kernel)
  have hw_X1 : ∀ w ∈ wsX10, w ∈ wsX1_init := by decide +kernel
  have hf_23 := hts (.fieldLink RX1 23 "SeedMill$KeyedHasher" "blockKey" "LSeedMill$Row;") (by decide +kernel)
  have hf_27 := hts (.fieldLink RX1 27 "SeedMill$KeyedHasher" "innerHash" "LSeedMill$Row;") (by decide +kernel)
  refine lv_aload_n hx hb dX1_init_0 rfl (lv_at hl 0 rfl) ?_
  refine W.objInit hx hb hown (hts (.methodLink RX1 3 objectInit) (by decide +kernel)) (hts (.instanceMethod objectInit) (by decide +kernel)) (hts (.code objectInit ⟨#[0xb1]⟩ 1 none) (by decide +kernel)) rfl (by rw [hml]; exact hl.1) rfl dX1_init_1 (Nat.le_of_ble_eq_true rfl) (Nat.le_of_ble_eq_true rfl) ?_
  refine W.eq (g2 := F0 m 4 ls []) rfl ?_
  refine lv_aload_n hx hb dX1_init_4 rfl (lv_at hl 0 rfl) ?_
  refine va_new (ci := 0) (fs := [.null, .null, .null]) (C := RX0) (T := TX0) (N := 3) hx hb hts (by decide +kernel) tyX0 tyX0_ok hown (hts (.classLink RX1 9 RX0) (by decide +kernel)) (hts (.instantiable RX0 3) (by decide +kernel)) (hts (.initialized RX0) (by decide +kernel)) hK hP hD hS hA rfl (fun j hj => by rcases (show j = 0 ∨ j = 1 ∨ j = 2 by omega) with rfl | rfl | rfl <;> rfl) (by show _ ≤ 9; omega) (by show _ ≤ 625; omega) dX1_init_5 (fun q5 H hP hD hS => ?_)
  have hP : va_P D vwCl [(hk, .inr (1, [.null, .null, .null])), (q5, .inr (0, [.null, .null, .null]))] H := hP
  have hD : va_D A [(hk, .inr (1, [.null, .null, .null])), (q5, .inr (0, [.null, .null, .null]))] := hD
  refine lv_dup hx hb dX1_init_8 rfl ?_
  refine sm_callIN (wc := [(q5, .inr (0, [.null, .null, .null]))]) (wr := [(hk, .inr (1, [.null, .null, .null]))]) (As := []) (rest := [.ref q5, .ref hk]) ⟨hx, hb, hml, hown, hts⟩ (sc_X0_init l D cI th _ q5 ) ⟨va_cnB 0 hts gX1_init_X0_init_n11 rfl rfl rfl hN.2.2 (hts (.initialized RX0) (by decide +kernel)) (by decide +kernel) ⟨Nat.le_of_ble_eq_true rfl, Nat.le_of_ble_eq_true rfl⟩, rfl, hts (.instanceMethod yX0_init) (by decide +kernel)⟩ hP hD hS hA hK hT [1] [0] rfl rfl rfl rfl (by decide) rfl hl.1 rfl (Nat.le_of_ble_eq_true rfl) dX1_init_9 ⟨by show _ ≤ 9; omega, by show _ ≤ 625; omega⟩ (fun zt H1 locs ht hvm hB hJ hS => ?_)
  obtain ⟨hm_9, bm_9, aw_9, ad_9, hP1, -, hD1⟩ := hB
  rw [ht] at hP1
  obtain ⟨hP, hD⟩ := hJ _ hP1 hD1
  clear hJ
  generalize H1 = H at hP hS ⊢
  have hP : va_P D vwCl [(hk, .inr (1, [.null, .null, .null])), (q5, .inr (0, [.ref hm_9, .ref aw_9, .ref ad_9])), (hm_9, .inr (2, [.ref bm_9, .int (nI 0)])), (bm_9, .inl (cI, 448, .inl (fun _ => 0))), (aw_9, .inl (cI, 64, .inl (fun _ => 0))), (ad_9, .inl (cI, 8, .inl (fun _ => 0)))] H := hP.sub [0, 1, 2, 3, 4, 5] rfl
  have hD : va_D A [(hk, .inr (1, [.null, .null, .null])), (q5, .inr (0, [.ref hm_9, .ref aw_9, .ref ad_9])), (hm_9, .inr (2, [.ref bm_9, .int (nI 0)])), (bm_9, .inl (cI, 448, .inl (fun _ => 0))), (aw_9, .inl (cI, 64, .inl (fun _ => 0))), (ad_9, .inl (cI, 8, .inl (fun _ => 0)))] := hD.sub [0, 1, 2, 3, 4, 5] rfl rfl
  refine va_putF (D := D) (ci := 1) (v := .ref q5) (ty := .object "SeedMill$Hasher") (C := RX1) (T := TX1) (N := 3) hx hb hts hw_X1 tyX1 tyX1_ok nmX1 hown hK hP hD hS 0 rfl rfl 0 (by decide) hf_12 (fun _ h9 => h9) rfl hin rfl (by decide +kernel) rfl rfl (Nat.le_of_ble_eq_true rfl) dX1_init_12 (fun H locs hP hD hS => ?_)
  have hP : va_P D vwCl [(hk, .inr (1, [.ref q5, .null, .null])), (q5, .inr (0, [.ref hm_9, .ref aw_9, .ref ad_9])), (hm_9, .inr (2, [.ref bm_9, .int (nI 0)])), (bm_9, .inl (cI, 448, .inl (fun _ => 0))), (aw_9, .inl (cI, 64, .inl (fun _ => 0))), (ad_9, .inl (cI, 8, .inl (fun _ => 0)))] H := hP
  have hD : va_D A [(hk, .inr (1, [.ref q5, .null, .null])), (q5, .inr (0, [.ref hm_9, .ref aw_9, .ref ad_9])), (hm_9, .inr (2, [.ref bm_9, .int (nI 0)])), (bm_9, .inl (cI, 448, .inl (fun _ => 0))), (aw_9, .inl (cI, 64, .inl (fun _ => 0))), (ad_9, .inl (cI, 8, .inl (fun _ => 0)))] := hD
  refine lv_aload_n hx hb dX1_init_15 rfl (lv_at hl 0 rfl) ?_
  refine va_new (ci := 2) (fs := [.null, .int 0]) (C := RX2) (T := TX2) (N := 2) hx hb hts (by decide +kernel) tyX2 tyX2_ok hown (hts (.classLink RX1 18 RX2) (by decide +kernel)) (hts (.instantiable RX2 2) (by decide +kernel)) (hts (.initialized RX2) (by decide +kernel)) hK hP hD hS hA rfl (fun j hj => by rcases (show j = 0 ∨ j = 1 by omega) with rfl | rfl <;> rfl) (by show _ ≤ 9; omega) (by show _ ≤ 625; omega) dX1_init_16 (fun q16 H hP hD hS => ?_)
  have hP : va_P D vwCl [(hk, .inr (1, [.ref q5, .null, .null])), (q5, .inr (0, [.ref hm_9, .ref aw_9, .ref ad_9])), (hm_9, .inr (2, [.ref bm_9, .int (nI 0)])), (bm_9, .inl (cI, 448, .inl (fun _ => 0))), (aw_9, .inl (cI, 64, .inl (fun _ => 0))), (ad_9, .inl (cI, 8, .inl (fun _ => 0))), (q16, .inr (2, [.null, .int 0]))] H := hP
  have hD : va_D A [(hk, .inr (1, [.ref q5, .null, .null])), (q5, .inr (0, [.ref hm_9, .ref aw_9, .ref ad_9])), (hm_9, .inr (2, [.ref bm_9, .int (nI 0)])), (bm_9, .inl (cI, 448, .inl (fun _ => 0))), (aw_9, .inl (cI, 64, .inl (fun _ => 0))), (ad_9, .inl (cI, 8, .inl (fun _ => 0))), (q16, .inr (2, [.null, .int 0]))] := hD
  refine lv_dup hx hb dX1_init_19 rfl ?_
  refine lv_bipush (v := 64) hx hb dX1_init_20 (by decide) ?_
  refine sm_callIv (wc := [(q16, .inr (2, [.null, .int 0]))]) (wr := [(hk, .inr (1, [.ref q5, .null, .null])), (q5, .inr (0, [.ref hm_9, .ref aw_9, .ref ad_9])), (hm_9, .inr (2, [.ref bm_9, .int (nI 0)])), (bm_9, .inl (cI, 448, .inl (fun _ => 0))), (aw_9, .inl (cI, 64, .inl (fun _ => 0))), (ad_9, .inl (cI, 8, .inl (fun _ => 0)))]) (As := [.int 64]) (rest := [.ref q16, .ref hk]) ⟨hx, hb, hml, hown, hts⟩ (sc_X2_init_64 l D cI th _ q16 0 ) (cwI 1 hts gX1_init_X2_init rfl rfl rfl (hts (.initialized RX2) (by decide +kernel)) (hts (.methodLink RX1 20 yX2_init) (by decide +kernel)) (hts (.instanceMethod yX2_init) (by decide +kernel)) rfl (by decide +kernel) ⟨Nat.le_of_ble_eq_true rfl, Nat.le_of_ble_eq_true rfl⟩) hP hD hS hA hK hT [6] [0, 1, 2, 3, 4, 5] rfl rfl rfl rfl (by decide) rfl hl.1 rfl (Nat.le_of_ble_eq_true rfl) dX1_init_22 ⟨by show _ ≤ 9; omega, by show _ ≤ 625; omega⟩ (fun zt H1 locs ht hvm hB hJ hS => ?_)
  obtain ⟨b22, hP1, -, hD1⟩ := hB
  rw [ht] at hP1
  obtain ⟨hP, hD⟩ := hJ _ hP1 hD1
  clear hJ
  generalize H1 = H at hP hS ⊢
  have hP : va_P D vwCl [(hk, .inr (1, [.ref q5, .null, .null])), (q5, .inr (0, [.ref hm_9, .ref aw_9, .ref ad_9])), (hm_9, .inr (2, [.ref bm_9, .int (nI 0)])), (bm_9, .inl (cI, 448, .inl (fun _ => 0))), (aw_9, .inl (cI, 64, .inl (fun _ => 0))), (ad_9, .inl (cI, 8, .inl (fun _ => 0))), (q16, .inr (2, [.ref b22, .int (nI 0)])), (b22, .inl (cI, 64, .inl (fun _ => 0)))] H := hP.sub [0, 1, 2, 3, 4, 5, 6, 7] rfl
  have hD : va_D A [(hk, .inr (1, [.ref q5, .null, .null])), (q5, .inr (0, [.ref hm_9, .ref aw_9, .ref ad_9])), (hm_9, .inr (2, [.ref bm_9, .int (nI 0)])), (bm_9, .inl (cI, 448, .inl (fun _ => 0))), (aw_9, .inl (cI, 64, .inl (fun _ => 0))), (ad_9, .inl (cI, 8, .inl (fun _ => 0))), (q16, .inr (2, [.ref b22, .int (nI 0)])), (b22, .inl (cI, 64, .inl (fun _ => 0)))] := hD.sub [0, 1, 2, 3, 4, 5, 6, 7] rfl rfl
  refine va_putF (D := D) (ci := 1) (v := .ref q16) (ty := .object "SeedMill$Row") (C := RX1) (T := TX1) (N := 3) hx hb hts hw_X1 tyX1 tyX1_ok nmX1 hown hK hP hD hS 0 rfl rfl 1 (by decide) hf_23 (fun _ h9 => h9) rfl hin rfl (by decide +kernel) rfl rfl (Nat.le_of_ble_eq_true rfl) dX1_init_25 (fun H locs hP hD hS => ?_)
  have hP : va_P D vwCl [(hk, .inr (1, [.ref q5, .ref q16, .null])), (q5, .inr (0, [.ref hm_9, .ref aw_9, .ref ad_9])), (hm_9, .inr (2, [.ref bm_9, .int (nI 0)])), (bm_9, .inl (cI, 448, .inl (fun _ => 0))), (aw_9, .inl (cI, 64, .inl (fun _ => 0))), (ad_9, .inl (cI, 8, .inl (fun _ => 0))), (q16, .inr (2, [.ref b22, .int (nI 0)])), (b22, .inl (cI, 64, .inl (fun _ => 0)))] H := hP
  have hD : va_D A [(hk, .inr (1, [.ref q5, .ref q16, .null])), (q5, .inr (0, [.ref hm_9, .ref aw_9, .ref ad_9])), (hm_9, .inr (2, [.ref bm_9, .int (nI 0)])), (bm_9, .inl (cI, 448, .inl (fun _ => 0))), (aw_9, .inl (cI, 64, .inl (fun _ => 0))), (ad_9, .inl (cI, 8, .inl (fun _ => 0))), (q16, .inr (2, [.ref b22, .int (nI 0)])), (b22, .inl (cI, 64, .inl (fun _ => 0)))] := hD
  refine lv_aload_n hx hb dX1_init_28 rfl (lv_at hl 0 rfl) ?_
  refine va_new (ci := 2) (fs := [.null, .int 0]) (C := RX2) (T := TX2) (N := 2) hx hb hts (by decide +kernel) tyX2 tyX2_ok hown (hts (.classLink RX1 18 RX2) (by decide +kernel)) (hts (.instantiable RX2 2) (by decide +kernel)) (hts (.initialized RX2) (by decide +kernel)) hK hP hD hS hA rfl (fun j hj => by rcases (show j = 0 ∨ j = 1 by omega) with rfl | rfl <;> rfl) (by show _ ≤ 9; omega) (by show _ ≤ 625; omega) dX1_init_29 (fun q29 H hP hD hS => ?_)
  have hP : va_P D vwCl [(hk, .inr (1, [.ref q5, .ref q16, .null])), (q5, .inr (0, [.ref hm_9, .ref aw_9, .ref ad_9])), (hm_9, .inr (2, [.ref bm_9, .int (nI 0)])), (bm_9, .inl (cI, 448, .inl (fun _ => 0))), (aw_9, .inl (cI, 64, .inl (fun _ => 0))), (ad_9, .inl (cI, 8, .inl (fun _ => 0))), (q16, .inr (2, [.ref b22, .int (nI 0)])), (b22, .inl (cI, 64, .inl (fun _ => 0))), (q29, .inr (2, [.null, .int 0]))] H := hP
  have hD : va_D A [(hk, .inr (1, [.ref q5, .ref q16, .null])), (q5, .inr (0, [.ref hm_9, .ref aw_9, .ref ad_9])), (hm_9, .inr (2, [.ref bm_9, .int (nI 0)])), (bm_9, .inl (cI, 448, .inl (fun _ => 0))), (aw_9, .inl (cI, 64, .inl (fun _ => 0))), (ad_9, .inl (cI, 8, .inl (fun _ => 0))), (q16, .inr (2, [.ref b22, .int (nI 0)])), (b22, .inl (cI, 64, .inl (fun _ => 0))), (q29, .inr (2, [.null, .int 0]))] := hD
  refine lv_dup hx hb dX1_init_32 rfl ?_
  refine lv_bipush (v := 32) hx hb dX1_init_33 (by decide) ?_
  refine sm_callIv (wc := [(q29, .inr (2, [.null, .int 0]))]) (wr := [(hk, .inr (1, [.ref q5, .ref q16, .null])), (q5, .inr (0, [.ref hm_9, .ref aw_9, .ref ad_9])), (hm_9, .inr (2, [.ref bm_9, .int (nI 0)])), (bm_9, .inl (cI, 448, .inl (fun _ => 0))), (aw_9, .inl (cI, 64, .inl (fun _ => 0))), (ad_9, .inl (cI, 8, .inl (fun _ => 0))), (q16, .inr (2, [.ref b22, .int (nI 0)])), (b22, .inl (cI, 64, .inl (fun _ => 0)))]) (As := [.int 32]) (rest := [.ref q29, .ref hk]) ⟨hx, hb, hml, hown, hts⟩ (sc_X2_init_32 l D cI th _ q29 0 ) (cwI 1 hts gX1_init_X2_init rfl rfl rfl (hts (.initialized RX2) (by decide +kernel)) (hts (.methodLink RX1 20 yX2_init) (by decide +kernel)) (hts (.instanceMethod yX2_init) (by decide +kernel)) rfl (by decide +kernel) ⟨Nat.le_of_ble_eq_true rfl, Nat.le_of_ble_eq_true rfl⟩) hP hD hS hA hK hT [8] [0, 1, 2, 3, 4, 5, 6, 7] rfl rfl rfl rfl (by decide) rfl hl.1 rfl (Nat.le_of_ble_eq_true rfl) dX1_init_35 ⟨by show _ ≤ 9; omega, by show _ ≤ 625; omega⟩ (fun zt H1 locs ht hvm hB hJ hS => ?_)
  obtain ⟨b35, hP1, -, hD1⟩ := hB
  rw [ht] at hP1
  obtain ⟨hP, hD⟩ := hJ _ hP1 hD1
  clear hJ
  generalize H1 = H at hP hS ⊢
  have hP : va_P D vwCl [(hk, .inr (1, [.ref q5, .ref q16, .null])), (q5, .inr (0, [.ref hm_9, .ref aw_9, .ref ad_9])), (hm_9, .inr (2, [.ref bm_9, .int (nI 0)])), (bm_9, .inl (cI, 448, .inl (fun _ => 0))), (aw_9, .inl (cI, 64, .inl (fun _ => 0))), (ad_9, .inl (cI, 8, .inl (fun _ => 0))), (q16, .inr (2, [.ref b22, .int (nI 0)])), (b22, .inl (cI, 64, .inl (fun _ => 0))), (q29, .inr (2, [.ref b35, .int (nI 0)])), (b35, .inl (cI, 32, .inl (fun _ => 0)))] H := hP.sub [0, 1, 2, 3, 4, 5, 6, 7, 8, 9] rfl
  have hD : va_D A [(hk, .inr (1, [.ref q5, .ref q16, .null])), (q5, .inr (0, [.ref hm_9, .ref aw_9, .ref ad_9])), (hm_9, .inr (2, [.ref bm_9, .int (nI 0)])), (bm_9, .inl (cI, 448, .inl (fun _ => 0))), (aw_9, .inl (cI, 64, .inl (fun _ => 0))), (ad_9, .inl (cI, 8, .inl (fun _ => 0))), (q16, .inr (2, [.ref b22, .int (nI 0)])), (b22, .inl (cI, 64, .inl (fun _ => 0))), (q29, .inr (2, [.ref b35, .int (nI 0)])), (b35, .inl (cI, 32, .inl (fun _ => 0)))] := hD.sub [0, 1, 2, 3, 4, 5, 6, 7, 8, 9] rfl rfl
  refine va_putF (D := D) (ci := 1) (v := .ref q29) (ty := .object "SeedMill$Row") (C := RX1) (T := TX1) (N := 3) hx hb hts hw_X1 tyX1 tyX1_ok nmX1 hown hK hP hD hS 0 rfl rfl 2 (by decide) hf_27 (fun _ h9 => h9) rfl hin rfl (by decide +kernel) rfl rfl (Nat.le_of_ble_eq_true rfl) dX1_init_38 (fun H locs hP hD hS => ?_)
  have hP : va_P D vwCl [(hk, .inr (1, [.ref q5, .ref q16, .ref q29])), (q5, .inr (0, [.ref hm_9, .ref aw_9, .ref ad_9])), (hm_9, .inr (2, [.ref bm_9, .int (nI 0)])), (bm_9, .inl (cI, 448, .inl (fun _ => 0))), (aw_9, .inl (cI, 64, .inl (fun _ => 0))), (ad_9, .inl (cI, 8, .inl (fun _ => 0))), (q16, .inr (2, [.ref b22, .int (nI 0)])), (b22, .inl (cI, 64, .inl (fun _ => 0))), (q29, .inr (2, [.ref b35, .int (nI 0)])), (b35, .inl (cI, 32, .inl (fun _ => 0)))] H := hP
  have hD : va_D A [(hk, .inr (1, [.ref q5, .ref q16, .ref q29])), (q5, .inr (0, [.ref hm_9, .ref aw_9, .ref ad_9])), (hm_9, .inr (2, [.ref bm_9, .int (nI 0)])), (bm_9, .inl (cI, 448, .inl (fun _ => 0))), (aw_9, .inl (cI, 64, .inl (fun _ => 0))), (ad_9, .inl (cI, 8, .inl (fun _ => 0))), (q16, .inr (2, [.ref b22, .int (nI 0)])), (b22, .inl (cI, 64, .inl (fun _ => 0))), (q29, .inr (2, [.ref b35, .int (nI 0)])), (b35, .inl (cI, 32, .inl (fun _ => 0)))] := hD
  rw [hQ]
  have hP9 : va_P D vwCl [(hk, .inr (1, [.ref q5, .ref q16, .ref q29])), (q5, .inr (0, [.ref hm_9, .ref aw_9, .ref ad_9])), (hm_9, .inr (2, [.ref bm_9, .int (nI 0)])), (bm_9, .inl (cI, 448, .inl (fun _ => 0))), (aw_9, .inl (cI, 64, .inl (fun _ => 0))), (ad_9, .inl (cI, 8, .inl (fun _ => 0))), (q16, .inr (2, [.ref b22, .int (nI 0)])), (b22, .inl (cI, 64, .inl (fun _ => 0))), (q29, .inr (2, [.ref b35, .int (nI 0)])), (b35, .inl (cI, 32, .inl (fun _ => 0)))] H := hP
  have hD9 : va_D A [(hk, .inr (1, [.ref q5, .ref q16, .ref q29])), (q5, .inr (0, [.ref hm_9, .ref aw_9, .ref ad_9])), (hm_9, .inr (2, [.ref bm_9, .int (nI 0)])), (bm_9, .inl (cI, 448, .inl (fun _ => 0))), (aw_9, .inl (cI, 64, .inl (fun _ => 0))), (ad_9, .inl (cI, 8, .inl (fun _ => 0))), (q16, .inr (2, [.ref b22, .int (nI 0)])), (b22, .inl (cI, 64, .inl (fun _ => 0))), (q29, .inr (2, [.ref b35, .int (nI 0)])), (b35, .inl (cI, 32, .inl (fun _ => 0)))] := hD
  exact W.vret hx hb hr (fun t ht hW => ⟨⟨(), rfl, trivial, ⟨q5, hm_9, bm_9, aw_9, ad_9, q16, b22, q29, b35, by rw [ht]; exact hP9, va_K.moved hW.alike hK, hD9⟩⟩, hS.F ht⟩) hS.2.2 dX1_init_41
