def rm_X4_init : Room := ({ frames := 1, cells := 13, slots := 1848, locals := 16 } : Room)
set_option maxHeartbeats 4000000 in
set_option maxRecDepth 100000 in
/-- SeedMillModel() -/
theorem sc_X4_init (l : Launch) (D : va_G) (cI : ClassId) (th : Option (Nat × Nat)) (sz : Nat) (zm : Nat)  : Met l yX4_init wsX4_init rm_X4_init (va_Pc [.ref zm] (sm_PW D cI th [(zm, .inr (4, [.int 0, .null, .null, .null, .null, .null, .int 0, .null, .null, .null, .int 0, .null, .int 0, .int 0, .null, .null, .null, .int 0, .int 0, .int 0, .null, .int 0]))] sz)) (va_Qv (fun (_ : Unit) => True) (fun _ t => ∃ (zrt : Nat) (zfi : Nat) (zsu : Nat) (zwo : Nat) (zro : Nat) (zdi : Nat) (zpa : Nat) (zin : Nat) (zow : Nat) (zke : Nat) (zva : Nat) (zle : Nat) (zdr : Nat), sm_QW D cI (va_A [(zm, .inr (4, [.int 0, .null, .null, .null, .null, .null, .int 0, .null, .null, .null, .int 0, .null, .int 0, .int 0, .null, .null, .null, .int 0, .int 0, .int 0, .null, .int 0]))] sz) [(zm, .inr (4, [.int 0, .ref zrt, .ref zfi, .ref zsu, .ref zwo, .ref zro, .int (nI 0), .ref zdi, .ref zpa, .ref zin, .int (nI 0), .ref zow, .int (nI 0), .int 0, .ref zke, .ref zva, .ref zle, .int (nI 0), .int 100, .int 0, .ref zdr, .int (nI 0)])), (zrt, .inl (cI, 64, .inl sm_K)), (zfi, .inl (cI, 8, .inl sm_F)), (zsu, .inl (cI, 8, .inl (fun _ => 0))), (zwo, .inl (cI, 64, .inl (fun _ => 0))), (zro, .inl (cI, 512, .inl (fun _ => 0))), (zdi, .inl (cI, 32, .inl (fun _ => 0))), (zpa, .inl (cI, 64, .inl (fun _ => 0))), (zin, .inl (cI, 300, .inl (fun _ => 0))), (zow, .inl (cI, 300, .inl (fun _ => 0))), (zke, .inl (cI, 32, .inl (fun _ => 0))), (zva, .inl (cI, 32, .inl (fun _ => 0))), (zle, .inl (cI, 32, .inl (fun _ => 0))), (zdr, .inl (cI, 400, .inl (fun _ => 0)))] t) (va_A [(zm, .inr (4, [.int 0, .null, .null, .null, .null, .null, .int 0, .null, .null, .null, .int 0, .null, .int 0, .int 0, .null, .null, .null, .int 0, .int 0, .int 0, .null, .int 0]))] sz)) 13 1848 (va_A [(zm, .inr (4, [.int 0, .null, .null, .null, .null, .null, .int 0, .null, .null, .null, .int 0, .null, .int 0, .int 0, .null, .null, .null, .int 0, .int 0, .int 0, .null, .int 0]))] sz) := by
  refine Met.ofW (cc := cX4_init) (maxL := 1) (ret := none) (by decide) rfl ?_
  intro p e s m args below meth c s₁ B hml hv
  obtain ⟨rfl, hsz, hP, hK, hD0, hT⟩ := hv
  have hx := B.exec
  have hb := B.bytes
  have hr := B.returns
  have hts := atoms_spec (ws := wsX4_init) B.pre
  have hown : s.vm.findClass RX4 = some m.cls := findClass_of_methodNamed B.named
  have hlocks := B.notSynchronized
  have hin : meth.name = "<init>" := (name_of_methodNamed B.named B.method).1
  subst hsz
  have hD := hD0.self (sz := s.heap.size)
  generalize hAe : va_A [(zm, .inr (4, [.int 0, .null, .null, .null, .null, .null, .int 0, .null, .null, .null, .int 0, .null, .int 0, .int 0, .null, .null, .null, .int 0, .int 0, .int 0, .null, .int 0]))] s.heap.size = A at hD hT ⊢
  have hA : ∀ q : Nat, s.heap.size ≤ q → A q := fun q h => by rw [← hAe]; exact Or.inr h
  have hS : va_S A s.heap s.heap [] := va_S.rf
  have hl := lv_entry ([.ref zm]) (n := 1) (Nat.le_of_ble_eq_true rfl)
  rw [lg_entry_eq]
  generalize (lg_sl ([.ref zm]) ++ List.replicate (1 - (lg_sl ([.ref zm])).length) Slot.unset).toArray = ls at hl ⊢
  have hl : lv_has ls 1 [(0, .ref zm)] := hl
  refine sm_name (fun Q hQ => ?_)
  have hf_71 := hts (.fieldLink RX4 71 "SeedMillModel" "roots" "[I") (by decide +kernel)
  have hw_X4 : ∀ w ∈ wsX40, w ∈ wsX4_init := by decide +kernel
  have hf_85 := hts (.fieldLink RX4 85 "SeedMillModel" "first" "[I") (by decide +kernel)
  have hf_88 := hts (.fieldLink RX4 88 "SeedMillModel" "sum" "[I") (by decide +kernel)
  have hf_91 := hts (.fieldLink RX4 91 "SeedMillModel" "word" "[I") (by decide +kernel)
  have hf_94 := hts (.fieldLink RX4 94 "SeedMillModel" "row" "[I") (by decide +kernel)
  have hf_97 := hts (.fieldLink RX4 97 "SeedMillModel" "digest" "[I") (by decide +kernel)
  have hf_100 := hts (.fieldLink RX4 100 "SeedMillModel" "padded" "[I") (by decide +kernel)
  have hf_103 := hts (.fieldLink RX4 103 "SeedMillModel" "input" "[I") (by decide +kernel)
  have hf_106 := hts (.fieldLink RX4 106 "SeedMillModel" "ownKey" "[I") (by decide +kernel)
  have hf_109 := hts (.fieldLink RX4 109 "SeedMillModel" "key" "[I") (by decide +kernel)
  have hf_112 := hts (.fieldLink RX4 112 "SeedMillModel" "value" "[I") (by decide +kernel)
  have hf_115 := hts (.fieldLink RX4 115 "SeedMillModel" "left" "[I") (by decide +kernel)
  have hf_118 := hts (.fieldLink RX4 118 "SeedMillModel" "interval" "I") (by decide +kernel)
  have hf_122 := hts (.fieldLink RX4 122 "SeedMillModel" "drawn" "[I") (by decide +kernel)
  refine lv_aload_n hx hb dX4_init_0 rfl (lv_at hl 0 rfl) ?_
  refine W.objInit hx hb hown (hts (.methodLink RX4 1 objectInit) (by decide +kernel)) (hts (.instanceMethod objectInit) (by decide +kernel)) (hts (.code objectInit ⟨#[0xb1]⟩ 1 none) (by decide +kernel)) rfl (by rw [hml]; exact hl.1) rfl dX4_init_1 (Nat.le_of_ble_eq_true rfl) (Nat.le_of_ble_eq_true rfl) ?_
  refine W.eq (g2 := F0 m 4 ls []) rfl ?_
  refine lv_aload_n hx hb dX4_init_4 rfl (lv_at hl 0 rfl) ?_
  refine lv_bipush (v := 64) hx hb dX4_init_5 (by decide) ?_
  refine va_newa (atype := .int) (ty := .int) (n := 64) (N' := 64) (a0 := (64, .inl (fun _ => 0))) hx hb (hts (.arrayClass .int) (by decide +kernel)) rfl hK hP hD hS hA (fun _ => rfl) (nI_pos (n := 64) (by decide)) (nI_clamp (n := 64) (by decide)) (by show 64 * 4 ≤ 536870912; omega) (by show _ ≤ 13; omega) (by show _ ≤ 1848; omega) dX4_init_7 (fun q7 cA H hK2 hP hD hS => ?_)
  have eI : cI = cA := sm_oneI hK2 (i := 0) (j := 1) rfl rfl
  subst eI
  clear hK2
  have hP : va_P D vwCl [(zm, .inr (4, [.int 0, .null, .null, .null, .null, .null, .int 0, .null, .null, .null, .int 0, .null, .int 0, .int 0, .null, .null, .null, .int 0, .int 0, .int 0, .null, .int 0])), (q7, .inl (cI, 64, .inl (fun _ => 0)))] H := hP
  have hD : va_D A [(zm, .inr (4, [.int 0, .null, .null, .null, .null, .null, .int 0, .null, .null, .null, .int 0, .null, .int 0, .int 0, .null, .null, .null, .int 0, .int 0, .int 0, .null, .int 0])), (q7, .inl (cI, 64, .inl (fun _ => 0)))] := hD
  refine lv_dup hx hb dX4_init_9 rfl ?_
  refine lv_iconst (v := 0) hx hb dX4_init_10 (by decide) ?_
  refine lv_ldc hx hb hown (hts (.constant RX4 7 (1116352408)) (by decide +kernel)) dX4_init_11 ?_
  refine va_iast (i := 0) (x := 1116352408) hx hb hK hP hD hS 1 0 rfl rfl (vp_in_nI (n := 0) (by decide) (by omega)) dX4_init_13 (fun H locs hP hD hS => ?_)
  rw [show Int32.toNatClampNeg 0 = 0 from nI_clamp (n := 0) (by omega)] at hP hD
  have hP : va_P D vwCl [(zm, .inr (4, [.int 0, .null, .null, .null, .null, .null, .int 0, .null, .null, .null, .int 0, .null, .int 0, .int 0, .null, .null, .null, .int 0, .int 0, .int 0, .null, .int 0])), (q7, .inl (cI, 64, .inl (upd (fun _ => 0) 0 1116352408)))] H := hP
  have hD : va_D A [(zm, .inr (4, [.int 0, .null, .null, .null, .null, .null, .int 0, .null, .null, .null, .int 0, .null, .int 0, .int 0, .null, .null, .null, .int 0, .int 0, .int 0, .null, .int 0])), (q7, .inl (cI, 64, .inl (upd (fun _ => 0) 0 1116352408)))] := hD
  rw [show upd (fun _ => 0) 0 1116352408 = sm_ap (fun _ => 0) 0 sm_K 1 from (congrArg (fun z => upd z 0 (sm_K 0)) (sm_ap_0 (fun _ => 0) 0 sm_K).symm).trans (sm_ap_s0 (fun _ => 0) sm_K 0)] at hP hD
  have hP : va_P D vwCl [(zm, .inr (4, [.int 0, .null, .null, .null, .null, .null, .int 0, .null, .null, .null, .int 0, .null, .int 0, .int 0, .null, .null, .null, .int 0, .int 0, .int 0, .null, .int 0])), (q7, .inl (cI, 64, .inl (sm_ap (fun _ => 0) 0 sm_K 1)))] H := hP
  have hD : va_D A [(zm, .inr (4, [.int 0, .null, .null, .null, .null, .null, .int 0, .null, .null, .null, .int 0, .null, .int 0, .int 0, .null, .null, .null, .int 0, .int 0, .int 0, .null, .int 0])), (q7, .inl (cI, 64, .inl (sm_ap (fun _ => 0) 0 sm_K 1)))] := hD
  refine lv_dup hx hb dX4_init_14 rfl ?_
  refine lv_iconst (v := 1) hx hb dX4_init_15 (by decide) ?_
  refine lv_ldc hx hb hown (hts (.constant RX4 8 (1899447441)) (by decide +kernel)) dX4_init_16 ?_
  refine va_iast (i := 1) (x := 1899447441) hx hb hK hP hD hS 1 0 rfl rfl (vp_in_nI (n := 1) (by decide) (by omega)) dX4_init_18 (fun H locs hP hD hS => ?_)
  rw [show Int32.toNatClampNeg 1 = 1 from nI_clamp (n := 1) (by omega)] at hP hD
  have hP : va_P D vwCl [(zm, .inr (4, [.int 0, .null, .null, .null, .null, .null, .int 0, .null, .null, .null, .int 0, .null, .int 0, .int 0, .null, .null, .null, .int 0, .int 0, .int 0, .null, .int 0])), (q7, .inl (cI, 64, .inl (upd (sm_ap (fun _ => 0) 0 sm_K 1) 1 1899447441)))] H := hP
  have hD : va_D A [(zm, .inr (4, [.int 0, .null, .null, .null, .null, .null, .int 0, .null, .null, .null, .int 0, .null, .int 0, .int 0, .null, .null, .null, .int 0, .int 0, .int 0, .null, .int 0])), (q7, .inl (cI, 64, .inl (upd (sm_ap (fun _ => 0) 0 sm_K 1) 1 1899447441)))] := hD
  rw [show upd (sm_ap (fun _ => 0) 0 sm_K 1) 1 1899447441 = sm_ap (fun _ => 0) 0 sm_K 2 from sm_ap_s0 (fun _ => 0) sm_K 1] at hP hD
  have hP : va_P D vwCl [(zm, .inr (4, [.int 0, .null, .null, .null, .null, .null, .int 0, .null, .null, .null, .int 0, .null, .int 0, .int 0, .null, .null, .null, .int 0, .int 0, .int 0, .null, .int 0])), (q7, .inl (cI, 64, .inl (sm_ap (fun _ => 0) 0 sm_K 2)))] H := hP
  have hD : va_D A [(zm, .inr (4, [.int 0, .null, .null, .null, .null, .null, .int 0, .null, .null, .null, .int 0, .null, .int 0, .int 0, .null, .null, .null, .int 0, .int 0, .int 0, .null, .int 0])), (q7, .inl (cI, 64, .inl (sm_ap (fun _ => 0) 0 sm_K 2)))] := hD
  refine lv_dup hx hb dX4_init_19 rfl ?_
  refine lv_iconst (v := 2) hx hb dX4_init_20 (by decide) ?_
  refine lv_ldc hx hb hown (hts (.constant RX4 9 (-1245643825)) (by decide +kernel)) dX4_init_21 ?_
  refine va_iast (i := 2) (x := (-1245643825)) hx hb hK hP hD hS 1 0 rfl rfl (vp_in_nI (n := 2) (by decide) (by omega)) dX4_init_23 (fun H locs hP hD hS => ?_)
  rw [show Int32.toNatClampNeg 2 = 2 from nI_clamp (n := 2) (by omega)] at hP hD
  have hP : va_P D vwCl [(zm, .inr (4, [.int 0, .null, .null, .null, .null, .null, .int 0, .null, .null, .null, .int 0, .null, .int 0, .int 0, .null, .null, .null, .int 0, .int 0, .int 0, .null, .int 0])), (q7, .inl (cI, 64, .inl (upd (sm_ap (fun _ => 0) 0 sm_K 2) 2 (-1245643825))))] H := hP
  have hD : va_D A [(zm, .inr (4, [.int 0, .null, .null, .null, .null, .null, .int 0, .null, .null, .null, .int 0, .null, .int 0, .int 0, .null, .null, .null, .int 0, .int 0, .int 0, .null, .int 0])), (q7, .inl (cI, 64, .inl (upd (sm_ap (fun _ => 0) 0 sm_K 2) 2 (-1245643825))))] := hD
  rw [show upd (sm_ap (fun _ => 0) 0 sm_K 2) 2 (-1245643825) = sm_ap (fun _ => 0) 0 sm_K 3 from sm_ap_s0 (fun _ => 0) sm_K 2] at hP hD
  have hP : va_P D vwCl [(zm, .inr (4, [.int 0, .null, .null, .null, .null, .null, .int 0, .null, .null, .null, .int 0, .null, .int 0, .int 0, .null, .null, .null, .int 0, .int 0, .int 0, .null, .int 0])), (q7, .inl (cI, 64, .inl (sm_ap (fun _ => 0) 0 sm_K 3)))] H := hP
  have hD : va_D A [(zm, .inr (4, [.int 0, .null, .null, .null, .null, .null, .int 0, .null, .null, .null, .int 0, .null, .int 0, .int 0, .null, .null, .null, .int 0, .int 0, .int 0, .null, .int 0])), (q7, .inl (cI, 64, .inl (sm_ap (fun _ => 0) 0 sm_K 3)))] := hD
  refine lv_dup hx hb dX4_init_24 rfl ?_
  refine lv_iconst (v := 3) hx hb dX4_init_25 (by decide) ?_
  refine lv_ldc hx hb hown (hts (.constant RX4 10 (-373957723)) (by decide +kernel)) dX4_init_26 ?_
  refine va_iast (i := 3) (x := (-373957723)) hx hb hK hP hD hS 1 0 rfl rfl (vp_in_nI (n := 3) (by decide) (by omega)) dX4_init_28 (fun H locs hP hD hS => ?_)
  rw [show Int32.toNatClampNeg 3 = 3 from nI_clamp (n := 3) (by omega)] at hP hD
  have hP : va_P D vwCl [(zm, .inr (4, [.int 0, .null, .null, .null, .null, .null, .int 0, .null, .null, .null, .int 0, .null, .int 0, .int 0, .null, .null, .null, .int 0, .int 0, .int 0, .null, .int 0])), (q7, .inl (cI, 64, .inl (upd (sm_ap (fun _ => 0) 0 sm_K 3) 3 (-373957723))))] H := hP
  have hD : va_D A [(zm, .inr (4, [.int 0, .null, .null, .null, .null, .null, .int 0, .null, .null, .null, .int 0, .null, .int 0, .int 0, .null, .null, .null, .int 0, .int 0, .int 0, .null, .int 0])), (q7, .inl (cI, 64, .inl (upd (sm_ap (fun _ => 0) 0 sm_K 3) 3 (-373957723))))] := hD
  rw [show upd (sm_ap (fun _ => 0) 0 sm_K 3) 3 (-373957723) = sm_ap (fun _ => 0) 0 sm_K 4 from sm_ap_s0 (fun _ => 0) sm_K 3] at hP hD
  have hP : va_P D vwCl [(zm, .inr (4, [.int 0, .null, .null, .null, .null, .null, .int 0, .null, .null, .null, .int 0, .null, .int 0, .int 0, .null, .null, .null, .int 0, .int 0, .int 0, .null, .int 0])), (q7, .inl (cI, 64, .inl (sm_ap (fun _ => 0) 0 sm_K 4)))] H := hP
  have hD : va_D A [(zm, .inr (4, [.int 0, .null, .null, .null, .null, .null, .int 0, .null, .null, .null, .int 0, .null, .int 0, .int 0, .null, .null, .null, .int 0, .int 0, .int 0, .null, .int 0])), (q7, .inl (cI, 64, .inl (sm_ap (fun _ => 0) 0 sm_K 4)))] := hD
  refine lv_dup hx hb dX4_init_29 rfl ?_
  refine lv_iconst (v := 4) hx hb dX4_init_30 (by decide) ?_
  refine lv_ldc hx hb hown (hts (.constant RX4 11 (961987163)) (by decide +kernel)) dX4_init_31 ?_
  refine va_iast (i := 4) (x := 961987163) hx hb hK hP hD hS 1 0 rfl rfl (vp_in_nI (n := 4) (by decide) (by omega)) dX4_init_33 (fun H locs hP hD hS => ?_)
  rw [show Int32.toNatClampNeg 4 = 4 from nI_clamp (n := 4) (by omega)] at hP hD
  have hP : va_P D vwCl [(zm, .inr (4, [.int 0, .null, .null, .null, .null, .null, .int 0, .null, .null, .null, .int 0, .null, .int 0, .int 0, .null, .null, .null, .int 0, .int 0, .int 0, .null, .int 0])), (q7, .inl (cI, 64, .inl (upd (sm_ap (fun _ => 0) 0 sm_K 4) 4 961987163)))] H := hP
  have hD : va_D A [(zm, .inr (4, [.int 0, .null, .null, .null, .null, .null, .int 0, .null, .null, .null, .int 0, .null, .int 0, .int 0, .null, .null, .null, .int 0, .int 0, .int 0, .null, .int 0])), (q7, .inl (cI, 64, .inl (upd (sm_ap (fun _ => 0) 0 sm_K 4) 4 961987163)))] := hD
  rw [show upd (sm_ap (fun _ => 0) 0 sm_K 4) 4 961987163 = sm_ap (fun _ => 0) 0 sm_K 5 from sm_ap_s0 (fun _ => 0) sm_K 4] at hP hD
  have hP : va_P D vwCl [(zm, .inr (4, [.int 0, .null, .null, .null, .null, .null, .int 0, .null, .null, .null, .int 0, .null, .int 0, .int 0, .null, .null, .null, .int 0, .int 0, .int 0, .null, .int 0])), (q7, .inl (cI, 64, .inl (sm_ap (fun _ => 0) 0 sm_K 5)))] H := hP
  have hD : va_D A [(zm, .inr (4, [.int 0, .null, .null, .null, .null, .null, .int 0, .null, .null, .null, .int 0, .null, .int 0, .int 0, .null, .null, .null, .int 0, .int 0, .int 0, .null, .int 0])), (q7, .inl (cI, 64, .inl (sm_ap (fun _ => 0) 0 sm_K 5)))] := hD
  refine lv_dup hx hb dX4_init_34 rfl ?_
  refine lv_iconst (v := 5) hx hb dX4_init_35 (by decide) ?_
  refine lv_ldc hx hb hown (hts (.constant RX4 12 (1508970993)) (by decide +kernel)) dX4_init_36 ?_
  refine va_iast (i := 5) (x := 1508970993) hx hb hK hP hD hS 1 0 rfl rfl (vp_in_nI (n := 5) (by decide) (by omega)) dX4_init_38 (fun H locs hP hD hS => ?_)
  rw [show Int32.toNatClampNeg 5 = 5 from nI_clamp (n := 5) (by omega)] at hP hD
  have hP : va_P D vwCl [(zm, .inr (4, [.int 0, .null, .null, .null, .null, .null, .int 0, .null, .null, .null, .int 0, .null, .int 0, .int 0, .null, .null, .null, .int 0, .int 0, .int 0, .null, .int 0])), (q7, .inl (cI, 64, .inl (upd (sm_ap (fun _ => 0) 0 sm_K 5) 5 1508970993)))] H := hP
  have hD : va_D A [(zm, .inr (4, [.int 0, .null, .null, .null, .null, .null, .int 0, .null, .null, .null, .int 0, .null, .int 0, .int 0, .null, .null, .null, .int 0, .int 0, .int 0, .null, .int 0])), (q7, .inl (cI, 64, .inl (upd (sm_ap (fun _ => 0) 0 sm_K 5) 5 1508970993)))] := hD
  rw [show upd (sm_ap (fun _ => 0) 0 sm_K 5) 5 1508970993 = sm_ap (fun _ => 0) 0 sm_K 6 from sm_ap_s0 (fun _ => 0) sm_K 5] at hP hD
  have hP : va_P D vwCl [(zm, .inr (4, [.int 0, .null, .null, .null, .null, .null, .int 0, .null, .null, .null, .int 0, .null, .int 0, .int 0, .null, .null, .null, .int 0, .int 0, .int 0, .null, .int 0])), (q7, .inl (cI, 64, .inl (sm_ap (fun _ => 0) 0 sm_K 6)))] H := hP
  have hD : va_D A [(zm, .inr (4, [.int 0, .null, .null, .null, .null, .null, .int 0, .null, .null, .null, .int 0, .null, .int 0, .int 0, .null, .null, .null, .int 0, .int 0, .int 0, .null, .int 0])), (q7, .inl (cI, 64, .inl (sm_ap (fun _ => 0) 0 sm_K 6)))] := hD
  refine lv_dup hx hb dX4_init_39 rfl ?_
  refine lv_bipush (v := 6) hx hb dX4_init_40 (by decide) ?_
  refine lv_ldc hx hb hown (hts (.constant RX4 13 (-1841331548)) (by decide +kernel)) dX4_init_42 ?_
  refine va_iast (i := 6) (x := (-1841331548)) hx hb hK hP hD hS 1 0 rfl rfl (vp_in_nI (n := 6) (by decide) (by omega)) dX4_init_44 (fun H locs hP hD hS => ?_)
  rw [show Int32.toNatClampNeg 6 = 6 from nI_clamp (n := 6) (by omega)] at hP hD
  have hP : va_P D vwCl [(zm, .inr (4, [.int 0, .null, .null, .null, .null, .null, .int 0, .null, .null, .null, .int 0, .null, .int 0, .int 0, .null, .null, .null, .int 0, .int 0, .int 0, .null, .int 0])), (q7, .inl (cI, 64, .inl (upd (sm_ap (fun _ => 0) 0 sm_K 6) 6 (-1841331548))))] H := hP
  have hD : va_D A [(zm, .inr (4, [.int 0, .null, .null, .null, .null, .null, .int 0, .null, .null, .null, .int 0, .null, .int 0, .int 0, .null, .null, .null, .int 0, .int 0, .int 0, .null, .int 0])), (q7, .inl (cI, 64, .inl (upd (sm_ap (fun _ => 0) 0 sm_K 6) 6 (-1841331548))))] := hD
  rw [show upd (sm_ap (fun _ => 0) 0 sm_K 6) 6 (-1841331548) = sm_ap (fun _ => 0) 0 sm_K 7 from sm_ap_s0 (fun _ => 0) sm_K 6] at hP hD
  have hP : va_P D vwCl [(zm, .inr (4, [.int 0, .null, .null, .null, .null, .null, .int 0, .null, .null, .null, .int 0, .null, .int 0, .int 0, .null, .null, .null, .int 0, .int 0, .int 0, .null, .int 0])), (q7, .inl (cI, 64, .inl (sm_ap (fun _ => 0) 0 sm_K 7)))] H := hP
  have hD : va_D A [(zm, .inr (4, [.int 0, .null, .null, .null, .null, .null, .int 0, .null, .null, .null, .int 0, .null, .int 0, .int 0, .null, .null, .null, .int 0, .int 0, .int 0, .null, .int 0])), (q7, .inl (cI, 64, .inl (sm_ap (fun _ => 0) 0 sm_K 7)))] := hD
  refine lv_dup hx hb dX4_init_45 rfl ?_
  refine lv_bipush (v := 7) hx hb dX4_init_46 (by decide) ?_
  refine lv_ldc hx hb hown (hts (.constant RX4 14 (-1424204075)) (by decide +kernel)) dX4_init_48 ?_
  refine va_iast (i := 7) (x := (-1424204075)) hx hb hK hP hD hS 1 0 rfl rfl (vp_in_nI (n := 7) (by decide) (by omega)) dX4_init_50 (fun H locs hP hD hS => ?_)
  rw [show Int32.toNatClampNeg 7 = 7 from nI_clamp (n := 7) (by omega)] at hP hD
  have hP : va_P D vwCl [(zm, .inr (4, [.int 0, .null, .null, .null, .null, .null, .int 0, .null, .null, .null, .int 0, .null, .int 0, .int 0, .null, .null, .null, .int 0, .int 0, .int 0, .null, .int 0])), (q7, .inl (cI, 64, .inl (upd (sm_ap (fun _ => 0) 0 sm_K 7) 7 (-1424204075))))] H := hP
  have hD : va_D A [(zm, .inr (4, [.int 0, .null, .null, .null, .null, .null, .int 0, .null, .null, .null, .int 0, .null, .int 0, .int 0, .null, .null, .null, .int 0, .int 0, .int 0, .null, .int 0])), (q7, .inl (cI, 64, .inl (upd (sm_ap (fun _ => 0) 0 sm_K 7) 7 (-1424204075))))] := hD
  rw [show upd (sm_ap (fun _ => 0) 0 sm_K 7) 7 (-1424204075) = sm_ap (fun _ => 0) 0 sm_K 8 from sm_ap_s0 (fun _ => 0) sm_K 7] at hP hD
  have hP : va_P D vwCl [(zm, .inr (4, [.int 0, .null, .null, .null, .null, .null, .int 0, .null, .null, .null, .int 0, .null, .int 0, .int 0, .null, .null, .null, .int 0, .int 0, .int 0, .null, .int 0])), (q7, .inl (cI, 64, .inl (sm_ap (fun _ => 0) 0 sm_K 8)))] H := hP
  have hD : va_D A [(zm, .inr (4, [.int 0, .null, .null, .null, .null, .null, .int 0, .null, .null, .null, .int 0, .null, .int 0, .int 0, .null, .null, .null, .int 0, .int 0, .int 0, .null, .int 0])), (q7, .inl (cI, 64, .inl (sm_ap (fun _ => 0) 0 sm_K 8)))] := hD
  refine lv_dup hx hb dX4_init_51 rfl ?_
  refine lv_bipush (v := 8) hx hb dX4_init_52 (by decide) ?_
  refine lv_ldc hx hb hown (hts (.constant RX4 15 (-670586216)) (by decide +kernel)) dX4_init_54 ?_
  refine va_iast (i := 8) (x := (-670586216)) hx hb hK hP hD hS 1 0 rfl rfl (vp_in_nI (n := 8) (by decide) (by omega)) dX4_init_56 (fun H locs hP hD hS => ?_)
  rw [show Int32.toNatClampNeg 8 = 8 from nI_clamp (n := 8) (by omega)] at hP hD
  have hP : va_P D vwCl [(zm, .inr (4, [.int 0, .null, .null, .null, .null, .null, .int 0, .null, .null, .null, .int 0, .null, .int 0, .int 0, .null, .null, .null, .int 0, .int 0, .int 0, .null, .int 0])), (q7, .inl (cI, 64, .inl (upd (sm_ap (fun _ => 0) 0 sm_K 8) 8 (-670586216))))] H := hP
  have hD : va_D A [(zm, .inr (4, [.int 0, .null, .null, .null, .null, .null, .int 0, .null, .null, .null, .int 0, .null, .int 0, .int 0, .null, .null, .null, .int 0, .int 0, .int 0, .null, .int 0])), (q7, .inl (cI, 64, .inl (upd (sm_ap (fun _ => 0) 0 sm_K 8) 8 (-670586216))))] := hD
  rw [show upd (sm_ap (fun _ => 0) 0 sm_K 8) 8 (-670586216) = sm_ap (fun _ => 0) 0 sm_K 9 from sm_ap_s0 (fun _ => 0) sm_K 8] at hP hD
  have hP : va_P D vwCl [(zm, .inr (4, [.int 0, .null, .null, .null, .null, .null, .int 0, .null, .null, .null, .int 0, .null, .int 0, .int 0, .null, .null, .null, .int 0, .int 0, .int 0, .null, .int 0])), (q7, .inl (cI, 64, .inl (sm_ap (fun _ => 0) 0 sm_K 9)))] H := hP
  have hD : va_D A [(zm, .inr (4, [.int 0, .null, .null, .null, .null, .null, .int 0, .null, .null, .null, .int 0, .null, .int 0, .int 0, .null, .null, .null, .int 0, .int 0, .int 0, .null, .int 0])), (q7, .inl (cI, 64, .inl (sm_ap (fun _ => 0) 0 sm_K 9)))] := hD
  refine lv_dup hx hb dX4_init_57 rfl ?_
  refine lv_bipush (v := 9) hx hb dX4_init_58 (by decide) ?_
  refine lv_ldc hx hb hown (hts (.constant RX4 16 (310598401)) (by decide +kernel)) dX4_init_60 ?_
  refine va_iast (i := 9) (x := 310598401) hx hb hK hP hD hS 1 0 rfl rfl (vp_in_nI (n := 9) (by decide) (by omega)) dX4_init_62 (fun H locs hP hD hS => ?_)
  rw [show Int32.toNatClampNeg 9 = 9 from nI_clamp (n := 9) (by omega)] at hP hD
  have hP : va_P D vwCl [(zm, .inr (4, [.int 0, .null, .null, .null, .null, .null, .int 0, .null, .null, .null, .int 0, .null, .int 0, .int 0, .null, .null, .null, .int 0, .int 0, .int 0, .null, .int 0])), (q7, .inl (cI, 64, .inl (upd (sm_ap (fun _ => 0) 0 sm_K 9) 9 310598401)))] H := hP
  have hD : va_D A [(zm, .inr (4, [.int 0, .null, .null, .null, .null, .null, .int 0, .null, .null, .null, .int 0, .null, .int 0, .int 0, .null, .null, .null, .int 0, .int 0, .int 0, .null, .int 0])), (q7, .inl (cI, 64, .inl (upd (sm_ap (fun _ => 0) 0 sm_K 9) 9 310598401)))] := hD
  rw [show upd (sm_ap (fun _ => 0) 0 sm_K 9) 9 310598401 = sm_ap (fun _ => 0) 0 sm_K 10 from sm_ap_s0 (fun _ => 0) sm_K 9] at hP hD
  have hP : va_P D vwCl [(zm, .inr (4, [.int 0, .null, .null, .null, .null, .null, .int 0, .null, .null, .null, .int 0, .null, .int 0, .int 0, .null, .null, .null, .int 0, .int 0, .int 0, .null, .int 0])), (q7, .inl (cI, 64, .inl (sm_ap (fun _ => 0) 0 sm_K 10)))] H := hP
  have hD : va_D A [(zm, .inr (4, [.int 0, .null, .null, .null, .null, .null, .int 0, .null, .null, .null, .int 0, .null, .int 0, .int 0, .null, .null, .null, .int 0, .int 0, .int 0, .null, .int 0])), (q7, .inl (cI, 64, .inl (sm_ap (fun _ => 0) 0 sm_K 10)))] := hD
  refine lv_dup hx hb dX4_init_63 rfl ?_
  refine lv_bipush (v := 10) hx hb dX4_init_64 (by decide) ?_
  refine lv_ldc hx hb hown (hts (.constant RX4 17 (607225278)) (by decide +kernel)) dX4_init_66 ?_
  refine va_iast (i := 10) (x := 607225278) hx hb hK hP hD hS 1 0 rfl rfl (vp_in_nI (n := 10) (by decide) (by omega)) dX4_init_68 (fun H locs hP hD hS => ?_)
  rw [show Int32.toNatClampNeg 10 = 10 from nI_clamp (n := 10) (by omega)] at hP hD
  have hP : va_P D vwCl [(zm, .inr (4, [.int 0, .null, .null, .null, .null, .null, .int 0, .null, .null, .null, .int 0, .null, .int 0, .int 0, .null, .null, .null, .int 0, .int 0, .int 0, .null, .int 0])), (q7, .inl (cI, 64, .inl (upd (sm_ap (fun _ => 0) 0 sm_K 10) 10 607225278)))] H := hP
  have hD : va_D A [(zm, .inr (4, [.int 0, .null, .null, .null, .null, .null, .int 0, .null, .null, .null, .int 0, .null, .int 0, .int 0, .null, .null, .null, .int 0, .int 0, .int 0, .null, .int 0])), (q7, .inl (cI, 64, .inl (upd (sm_ap (fun _ => 0) 0 sm_K 10) 10 607225278)))] := hD
  rw [show upd (sm_ap (fun _ => 0) 0 sm_K 10) 10 607225278 = sm_ap (fun _ => 0) 0 sm_K 11 from sm_ap_s0 (fun _ => 0) sm_K 10] at hP hD
  have hP : va_P D vwCl [(zm, .inr (4, [.int 0, .null, .null, .null, .null, .null, .int 0, .null, .null, .null, .int 0, .null, .int 0, .int 0, .null, .null, .null, .int 0, .int 0, .int 0, .null, .int 0])), (q7, .inl (cI, 64, .inl (sm_ap (fun _ => 0) 0 sm_K 11)))] H := hP
  have hD : va_D A [(zm, .inr (4, [.int 0, .null, .null, .null, .null, .null, .int 0, .null, .null, .null, .int 0, .null, .int 0, .int 0, .null, .null, .null, .int 0, .int 0, .int 0, .null, .int 0])), (q7, .inl (cI, 64, .inl (sm_ap (fun _ => 0) 0 sm_K 11)))] := hD
  refine lv_dup hx hb dX4_init_69 rfl ?_
  refine lv_bipush (v := 11) hx hb dX4_init_70 (by decide) ?_
  refine lv_ldc hx hb hown (hts (.constant RX4 18 (1426881987)) (by decide +kernel)) dX4_init_72 ?_
  refine va_iast (i := 11) (x := 1426881987) hx hb hK hP hD hS 1 0 rfl rfl (vp_in_nI (n := 11) (by decide) (by omega)) dX4_init_74 (fun H locs hP hD hS => ?_)
  rw [show Int32.toNatClampNeg 11 = 11 from nI_clamp (n := 11) (by omega)] at hP hD
  have hP : va_P D vwCl [(zm, .inr (4, [.int 0, .null, .null, .null, .null, .null, .int 0, .null, .null, .null, .int 0, .null, .int 0, .int 0, .null, .null, .null, .int 0, .int 0, .int 0, .null, .int 0])), (q7, .inl (cI, 64, .inl (upd (sm_ap (fun _ => 0) 0 sm_K 11) 11 1426881987)))] H := hP
  have hD : va_D A [(zm, .inr (4, [.int 0, .null, .null, .null, .null, .null, .int 0, .null, .null, .null, .int 0, .null, .int 0, .int 0, .null, .null, .null, .int 0, .int 0, .int 0, .null, .int 0])), (q7, .inl (cI, 64, .inl (upd (sm_ap (fun _ => 0) 0 sm_K 11) 11 1426881987)))] := hD
  rw [show upd (sm_ap (fun _ => 0) 0 sm_K 11) 11 1426881987 = sm_ap (fun _ => 0) 0 sm_K 12 from sm_ap_s0 (fun _ => 0) sm_K 11] at hP hD
  have hP : va_P D vwCl [(zm, .inr (4, [.int 0, .null, .null, .null, .null, .null, .int 0, .null, .null, .null, .int 0, .null, .int 0, .int 0, .null, .null, .null, .int 0, .int 0, .int 0, .null, .int 0])), (q7, .inl (cI, 64, .inl (sm_ap (fun _ => 0) 0 sm_K 12)))] H := hP
  have hD : va_D A [(zm, .inr (4, [.int 0, .null, .null, .null, .null, .null, .int 0, .null, .null, .null, .int 0, .null, .int 0, .int 0, .null, .null, .null, .int 0, .int 0, .int 0, .null, .int 0])), (q7, .inl (cI, 64, .inl (sm_ap (fun _ => 0) 0 sm_K 12)))] := hD
  refine lv_dup hx hb dX4_init_75 rfl ?_
  refine lv_bipush (v := 12) hx hb dX4_init_76 (by decide) ?_
  refine lv_ldc hx hb hown (hts (.constant RX4 19 (1925078388)) (by decide +kernel)) dX4_init_78 ?_
  refine va_iast (i := 12) (x := 1925078388) hx hb hK hP hD hS 1 0 rfl rfl (vp_in_nI (n := 12) (by decide) (by omega)) dX4_init_80 (fun H locs hP hD hS => ?_)
  rw [show Int32.toNatClampNeg 12 = 12 from nI_clamp (n := 12) (by omega)] at hP hD
  have hP : va_P D vwCl [(zm, .inr (4, [.int 0, .null, .null, .null, .null, .null, .int 0, .null, .null, .null, .int 0, .null, .int 0, .int 0, .null, .null, .null, .int 0, .int 0, .int 0, .null, .int 0])), (q7, .inl (cI, 64, .inl (upd (sm_ap (fun _ => 0) 0 sm_K 12) 12 1925078388)))] H := hP
  have hD : va_D A [(zm, .inr (4, [.int 0, .null, .null, .null, .null, .null, .int 0, .null, .null, .null, .int 0, .null, .int 0, .int 0, .null, .null, .null, .int 0, .int 0, .int 0, .null, .int 0])), (q7, .inl (cI, 64, .inl (upd (sm_ap (fun _ => 0) 0 sm_K 12) 12 1925078388)))] := hD
  rw [show upd (sm_ap (fun _ => 0) 0 sm_K 12) 12 1925078388 = sm_ap (fun _ => 0) 0 sm_K 13 from sm_ap_s0 (fun _ => 0) sm_K 12] at hP hD
  have hP : va_P D vwCl [(zm, .inr (4, [.int 0, .null, .null, .null, .null, .null, .int 0, .null, .null, .null, .int 0, .null, .int 0, .int 0, .null, .null, .null, .int 0, .int 0, .int 0, .null, .int 0])), (q7, .inl (cI, 64, .inl (sm_ap (fun _ => 0) 0 sm_K 13)))] H := hP
  have hD : va_D A [(zm, .inr (4, [.int 0, .null, .null, .null, .null, .null, .int 0, .null, .null, .null, .int 0, .null, .int 0, .int 0, .null, .null, .null, .int 0, .int 0, .int 0, .null, .int 0])), (q7, .inl (cI, 64, .inl (sm_ap (fun _ => 0) 0 sm_K 13)))] := hD
  refine lv_dup hx hb dX4_init_81 rfl ?_
  refine lv_bipush (v := 13) hx hb dX4_init_82 (by decide) ?_
  refine lv_ldc hx hb hown (hts (.constant RX4 20 (-2132889090)) (by decide +kernel)) dX4_init_84 ?_
  refine va_iast (i := 13) (x := (-2132889090)) hx hb hK hP hD hS 1 0 rfl rfl (vp_in_nI (n := 13) (by decide) (by omega)) dX4_init_86 (fun H locs hP hD hS => ?_)
  rw [show Int32.toNatClampNeg 13 = 13 from nI_clamp (n := 13) (by omega)] at hP hD
  have hP : va_P D vwCl [(zm, .inr (4, [.int 0, .null, .null, .null, .null, .null, .int 0, .null, .null, .null, .int 0, .null, .int 0, .int 0, .null, .null, .null, .int 0, .int 0, .int 0, .null, .int 0])), (q7, .inl (cI, 64, .inl (upd (sm_ap (fun _ => 0) 0 sm_K 13) 13 (-2132889090))))] H := hP
  have hD : va_D A [(zm, .inr (4, [.int 0, .null, .null, .null, .null, .null, .int 0, .null, .null, .null, .int 0, .null, .int 0, .int 0, .null, .null, .null, .int 0, .int 0, .int 0, .null, .int 0])), (q7, .inl (cI, 64, .inl (upd (sm_ap (fun _ => 0) 0 sm_K 13) 13 (-2132889090))))] := hD
  rw [show upd (sm_ap (fun _ => 0) 0 sm_K 13) 13 (-2132889090) = sm_ap (fun _ => 0) 0 sm_K 14 from sm_ap_s0 (fun _ => 0) sm_K 13] at hP hD
  have hP : va_P D vwCl [(zm, .inr (4, [.int 0, .null, .null, .null, .null, .null, .int 0, .null, .null, .null, .int 0, .null, .int 0, .int 0, .null, .null, .null, .int 0, .int 0, .int 0, .null, .int 0])), (q7, .inl (cI, 64, .inl (sm_ap (fun _ => 0) 0 sm_K 14)))] H := hP
  have hD : va_D A [(zm, .inr (4, [.int 0, .null, .null, .null, .null, .null, .int 0, .null, .null, .null, .int 0, .null, .int 0, .int 0, .null, .null, .null, .int 0, .int 0, .int 0, .null, .int 0])), (q7, .inl (cI, 64, .inl (sm_ap (fun _ => 0) 0 sm_K 14)))] := hD
  refine lv_dup hx hb dX4_init_87 rfl ?_
  refine lv_bipush (v := 14) hx hb dX4_init_88 (by decide) ?_
  refine lv_ldc hx hb hown (hts (.constant RX4 21 (-1680079193)) (by decide +kernel)) dX4_init_90 ?_
  refine va_iast (i := 14) (x := (-1680079193)) hx hb hK hP hD hS 1 0 rfl rfl (vp_in_nI (n := 14) (by decide) (by omega)) dX4_init_92 (fun H locs hP hD hS => ?_)
  rw [show Int32.toNatClampNeg 14 = 14 from nI_clamp (n := 14) (by omega)] at hP hD
  have hP : va_P D vwCl [(zm, .inr (4, [.int 0, .null, .null, .null, .null, .null, .int 0, .null, .null, .null, .int 0, .null, .int 0, .int 0, .null, .null, .null, .int 0, .int 0, .int 0, .null, .int 0])), (q7, .inl (cI, 64, .inl (upd (sm_ap (fun _ => 0) 0 sm_K 14) 14 (-1680079193))))] H := hP
  have hD : va_D A [(zm, .inr (4, [.int 0, .null, .null, .null, .null, .null, .int 0, .null, .null, .null, .int 0, .null, .int 0, .int 0, .null, .null, .null, .int 0, .int 0, .int 0, .null, .int 0])), (q7, .inl (cI, 64, .inl (upd (sm_ap (fun _ => 0) 0 sm_K 14) 14 (-1680079193))))] := hD
  rw [show upd (sm_ap (fun _ => 0) 0 sm_K 14) 14 (-1680079193) = sm_ap (fun _ => 0) 0 sm_K 15 from sm_ap_s0 (fun _ => 0) sm_K 14] at hP hD
  have hP : va_P D vwCl [(zm, .inr (4, [.int 0, .null, .null, .null, .null, .null, .int 0, .null, .null, .null, .int 0, .null, .int 0, .int 0, .null, .null, .null, .int 0, .int 0, .int 0, .null, .int 0])), (q7, .inl (cI, 64, .inl (sm_ap (fun _ => 0) 0 sm_K 15)))] H := hP
  have hD : va_D A [(zm, .inr (4, [.int 0, .null, .null, .null, .null, .null, .int 0, .null, .null, .null, .int 0, .null, .int 0, .int 0, .null, .null, .null, .int 0, .int 0, .int 0, .null, .int 0])), (q7, .inl (cI, 64, .inl (sm_ap (fun _ => 0) 0 sm_K 15)))] := hD
  refine lv_dup hx hb dX4_init_93 rfl ?_
  refine lv_bipush (v := 15) hx hb dX4_init_94 (by decide) ?_
  refine lv_ldc hx hb hown (hts (.constant RX4 22 (-1046744716)) (by decide +kernel)) dX4_init_96 ?_
  refine va_iast (i := 15) (x := (-1046744716)) hx hb hK hP hD hS 1 0 rfl rfl (vp_in_nI (n := 15) (by decide) (by omega)) dX4_init_98 (fun H locs hP hD hS => ?_)
  rw [show Int32.toNatClampNeg 15 = 15 from nI_clamp (n := 15) (by omega)] at hP hD
  have hP : va_P D vwCl [(zm, .inr (4, [.int 0, .null, .null, .null, .null, .null, .int 0, .null, .null, .null, .int 0, .null, .int 0, .int 0, .null, .null, .null, .int 0, .int 0, .int 0, .null, .int 0])), (q7, .inl (cI, 64, .inl (upd (sm_ap (fun _ => 0) 0 sm_K 15) 15 (-1046744716))))] H := hP
  have hD : va_D A [(zm, .inr (4, [.int 0, .null, .null, .null, .null, .null, .int 0, .null, .null, .null, .int 0, .null, .int 0, .int 0, .null, .null, .null, .int 0, .int 0, .int 0, .null, .int 0])), (q7, .inl (cI, 64, .inl (upd (sm_ap (fun _ => 0) 0 sm_K 15) 15 (-1046744716))))] := hD
  rw [show upd (sm_ap (fun _ => 0) 0 sm_K 15) 15 (-1046744716) = sm_ap (fun _ => 0) 0 sm_K 16 from sm_ap_s0 (fun _ => 0) sm_K 15] at hP hD
  have hP : va_P D vwCl [(zm, .inr (4, [.int 0, .null, .null, .null, .null, .null, .int 0, .null, .null, .null, .int 0, .null, .int 0, .int 0, .null, .null, .null, .int 0, .int 0, .int 0, .null, .int 0])), (q7, .inl (cI, 64, .inl (sm_ap (fun _ => 0) 0 sm_K 16)))] H := hP
  have hD : va_D A [(zm, .inr (4, [.int 0, .null, .null, .null, .null, .null, .int 0, .null, .null, .null, .int 0, .null, .int 0, .int 0, .null, .null, .null, .int 0, .int 0, .int 0, .null, .int 0])), (q7, .inl (cI, 64, .inl (sm_ap (fun _ => 0) 0 sm_K 16)))] := hD
  refine lv_dup hx hb dX4_init_99 rfl ?_
  refine lv_bipush (v := 16) hx hb dX4_init_100 (by decide) ?_
  refine lv_ldc hx hb hown (hts (.constant RX4 23 (-459576895)) (by decide +kernel)) dX4_init_102 ?_
  refine va_iast (i := 16) (x := (-459576895)) hx hb hK hP hD hS 1 0 rfl rfl (vp_in_nI (n := 16) (by decide) (by omega)) dX4_init_104 (fun H locs hP hD hS => ?_)
  rw [show Int32.toNatClampNeg 16 = 16 from nI_clamp (n := 16) (by omega)] at hP hD
  have hP : va_P D vwCl [(zm, .inr (4, [.int 0, .null, .null, .null, .null, .null, .int 0, .null, .null, .null, .int 0, .null, .int 0, .int 0, .null, .null, .null, .int 0, .int 0, .int 0, .null, .int 0])), (q7, .inl (cI, 64, .inl (upd (sm_ap (fun _ => 0) 0 sm_K 16) 16 (-459576895))))] H := hP
  have hD : va_D A [(zm, .inr (4, [.int 0, .null, .null, .null, .null, .null, .int 0, .null, .null, .null, .int 0, .null, .int 0, .int 0, .null, .null, .null, .int 0, .int 0, .int 0, .null, .int 0])), (q7, .inl (cI, 64, .inl (upd (sm_ap (fun _ => 0) 0 sm_K 16) 16 (-459576895))))] := hD
  rw [show upd (sm_ap (fun _ => 0) 0 sm_K 16) 16 (-459576895) = sm_ap (fun _ => 0) 0 sm_K 17 from sm_ap_s0 (fun _ => 0) sm_K 16] at hP hD
  have hP : va_P D vwCl [(zm, .inr (4, [.int 0, .null, .null, .null, .null, .null, .int 0, .null, .null, .null, .int 0, .null, .int 0, .int 0, .null, .null, .null, .int 0, .int 0, .int 0, .null, .int 0])), (q7, .inl (cI, 64, .inl (sm_ap (fun _ => 0) 0 sm_K 17)))] H := hP
  have hD : va_D A [(zm, .inr (4, [.int 0, .null, .null, .null, .null, .null, .int 0, .null, .null, .null, .int 0, .null, .int 0, .int 0, .null, .null, .null, .int 0, .int 0, .int 0, .null, .int 0])), (q7, .inl (cI, 64, .inl (sm_ap (fun _ => 0) 0 sm_K 17)))] := hD
  refine lv_dup hx hb dX4_init_105 rfl ?_
  refine lv_bipush (v := 17) hx hb dX4_init_106 (by decide) ?_
  refine lv_ldc hx hb hown (hts (.constant RX4 24 (-272742522)) (by decide +kernel)) dX4_init_108 ?_
  refine va_iast (i := 17) (x := (-272742522)) hx hb hK hP hD hS 1 0 rfl rfl (vp_in_nI (n := 17) (by decide) (by omega)) dX4_init_110 (fun H locs hP hD hS => ?_)
  rw [show Int32.toNatClampNeg 17 = 17 from nI_clamp (n := 17) (by omega)] at hP hD
  have hP : va_P D vwCl [(zm, .inr (4, [.int 0, .null, .null, .null, .null, .null, .int 0, .null, .null, .null, .int 0, .null, .int 0, .int 0, .null, .null, .null, .int 0, .int 0, .int 0, .null, .int 0])), (q7, .inl (cI, 64, .inl (upd (sm_ap (fun _ => 0) 0 sm_K 17) 17 (-272742522))))] H := hP
  have hD : va_D A [(zm, .inr (4, [.int 0, .null, .null, .null, .null, .null, .int 0, .null, .null, .null, .int 0, .null, .int 0, .int 0, .null, .null, .null, .int 0, .int 0, .int 0, .null, .int 0])), (q7, .inl (cI, 64, .inl (upd (sm_ap (fun _ => 0) 0 sm_K 17) 17 (-272742522))))] := hD
  rw [show upd (sm_ap (fun _ => 0) 0 sm_K 17) 17 (-272742522) = sm_ap (fun _ => 0) 0 sm_K 18 from sm_ap_s0 (fun _ => 0) sm_K 17] at hP hD
  have hP : va_P D vwCl [(zm, .inr (4, [.int 0, .null, .null, .null, .null, .null, .int 0, .null, .null, .null, .int 0, .null, .int 0, .int 0, .null, .null, .null, .int 0, .int 0, .int 0, .null, .int 0])), (q7, .inl (cI, 64, .inl (sm_ap (fun _ => 0) 0 sm_K 18)))] H := hP
  have hD : va_D A [(zm, .inr (4, [.int 0, .null, .null, .null, .null, .null, .int 0, .null, .null, .null, .int 0, .null, .int 0, .int 0, .null, .null, .null, .int 0, .int 0, .int 0, .null, .int 0])), (q7, .inl (cI, 64, .inl (sm_ap (fun _ => 0) 0 sm_K 18)))] := hD
  refine lv_dup hx hb dX4_init_111 rfl ?_
  refine lv_bipush (v := 18) hx hb dX4_init_112 (by decide) ?_
  refine lv_ldc hx hb hown (hts (.constant RX4 25 (264347078)) (by decide +kernel)) dX4_init_114 ?_
  refine va_iast (i := 18) (x := 264347078) hx hb hK hP hD hS 1 0 rfl rfl (vp_in_nI (n := 18) (by decide) (by omega)) dX4_init_116 (fun H locs hP hD hS => ?_)
  rw [show Int32.toNatClampNeg 18 = 18 from nI_clamp (n := 18) (by omega)] at hP hD
  have hP : va_P D vwCl [(zm, .inr (4, [.int 0, .null, .null, .null, .null, .null, .int 0, .null, .null, .null, .int 0, .null, .int 0, .int 0, .null, .null, .null, .int 0, .int 0, .int 0, .null, .int 0])), (q7, .inl (cI, 64, .inl (upd (sm_ap (fun _ => 0) 0 sm_K 18) 18 264347078)))] H := hP
  have hD : va_D A [(zm, .inr (4, [.int 0, .null, .null, .null, .null, .null, .int 0, .null, .null, .null, .int 0, .null, .int 0, .int 0, .null, .null, .null, .int 0, .int 0, .int 0, .null, .int 0])), (q7, .inl (cI, 64, .inl (upd (sm_ap (fun _ => 0) 0 sm_K 18) 18 264347078)))] := hD
  rw [show upd (sm_ap (fun _ => 0) 0 sm_K 18) 18 264347078 = sm_ap (fun _ => 0) 0 sm_K 19 from sm_ap_s0 (fun _ => 0) sm_K 18] at hP hD
  have hP : va_P D vwCl [(zm, .inr (4, [.int 0, .null, .null, .null, .null, .null, .int 0, .null, .null, .null, .int 0, .null, .int 0, .int 0, .null, .null, .null, .int 0, .int 0, .int 0, .null, .int 0])), (q7, .inl (cI, 64, .inl (sm_ap (fun _ => 0) 0 sm_K 19)))] H := hP
  have hD : va_D A [(zm, .inr (4, [.int 0, .null, .null, .null, .null, .null, .int 0, .null, .null, .null, .int 0, .null, .int 0, .int 0, .null, .null, .null, .int 0, .int 0, .int 0, .null, .int 0])), (q7, .inl (cI, 64, .inl (sm_ap (fun _ => 0) 0 sm_K 19)))] := hD
  refine lv_dup hx hb dX4_init_117 rfl ?_
  refine lv_bipush (v := 19) hx hb dX4_init_118 (by decide) ?_
  refine lv_ldc hx hb hown (hts (.constant RX4 26 (604807628)) (by decide +kernel)) dX4_init_120 ?_
  refine va_iast (i := 19) (x := 604807628) hx hb hK hP hD hS 1 0 rfl rfl (vp_in_nI (n := 19) (by decide) (by omega)) dX4_init_122 (fun H locs hP hD hS => ?_)
  rw [show Int32.toNatClampNeg 19 = 19 from nI_clamp (n := 19) (by omega)] at hP hD
  have hP : va_P D vwCl [(zm, .inr (4, [.int 0, .null, .null, .null, .null, .null, .int 0, .null, .null, .null, .int 0, .null, .int 0, .int 0, .null, .null, .null, .int 0, .int 0, .int 0, .null, .int 0])), (q7, .inl (cI, 64, .inl (upd (sm_ap (fun _ => 0) 0 sm_K 19) 19 604807628)))] H := hP
  have hD : va_D A [(zm, .inr (4, [.int 0, .null, .null, .null, .null, .null, .int 0, .null, .null, .null, .int 0, .null, .int 0, .int 0, .null, .null, .null, .int 0, .int 0, .int 0, .null, .int 0])), (q7, .inl (cI, 64, .inl (upd (sm_ap (fun _ => 0) 0 sm_K 19) 19 604807628)))] := hD
  rw [show upd (sm_ap (fun _ => 0) 0 sm_K 19) 19 604807628 = sm_ap (fun _ => 0) 0 sm_K 20 from sm_ap_s0 (fun _ => 0) sm_K 19] at hP hD
  have hP : va_P D vwCl [(zm, .inr (4, [.int 0, .null, .null, .null, .null, .null, .int 0, .null, .null, .null, .int 0, .null, .int 0, .int 0, .null, .null, .null, .int 0, .int 0, .int 0, .null, .int 0])), (q7, .inl (cI, 64, .inl (sm_ap (fun _ => 0) 0 sm_K 20)))] H := hP
  have hD : va_D A [(zm, .inr (4, [.int 0, .null, .null, .null, .null, .null, .int 0, .null, .null, .null, .int 0, .null, .int 0, .int 0, .null, .null, .null, .int 0, .int 0, .int 0, .null, .int 0])), (q7, .inl (cI, 64, .inl (sm_ap (fun _ => 0) 0 sm_K 20)))] := hD
  refine lv_dup hx hb dX4_init_123 rfl ?_
  refine lv_bipush (v := 20) hx hb dX4_init_124 (by decide) ?_
  refine lv_ldc hx hb hown (hts (.constant RX4 27 (770255983)) (by decide +kernel)) dX4_init_126 ?_
  refine va_iast (i := 20) (x := 770255983) hx hb hK hP hD hS 1 0 rfl rfl (vp_in_nI (n := 20) (by decide) (by omega)) dX4_init_128 (fun H locs hP hD hS => ?_)
  rw [show Int32.toNatClampNeg 20 = 20 from nI_clamp (n := 20) (by omega)] at hP hD
  have hP : va_P D vwCl [(zm, .inr (4, [.int 0, .null, .null, .null, .null, .null, .int 0, .null, .null, .null, .int 0, .null, .int 0, .int 0, .null, .null, .null, .int 0, .int 0, .int 0, .null, .int 0])), (q7, .inl (cI, 64, .inl (upd (sm_ap (fun _ => 0) 0 sm_K 20) 20 770255983)))] H := hP
  have hD : va_D A [(zm, .inr (4, [.int 0, .null, .null, .null, .null, .null, .int 0, .null, .null, .null, .int 0, .null, .int 0, .int 0, .null, .null, .null, .int 0, .int 0, .int 0, .null, .int 0])), (q7, .inl (cI, 64, .inl (upd (sm_ap (fun _ => 0) 0 sm_K 20) 20 770255983)))] := hD
  rw [show upd (sm_ap (fun _ => 0) 0 sm_K 20) 20 770255983 = sm_ap (fun _ => 0) 0 sm_K 21 from sm_ap_s0 (fun _ => 0) sm_K 20] at hP hD
  have hP : va_P D vwCl [(zm, .inr (4, [.int 0, .null, .null, .null, .null, .null, .int 0, .null, .null, .null, .int 0, .null, .int 0, .int 0, .null, .null, .null, .int 0, .int 0, .int 0, .null, .int 0])), (q7, .inl (cI, 64, .inl (sm_ap (fun _ => 0) 0 sm_K 21)))] H := hP
  have hD : va_D A [(zm, .inr (4, [.int 0, .null, .null, .null, .null, .null, .int 0, .null, .null, .null, .int 0, .null, .int 0, .int 0, .null, .null, .null, .int 0, .int 0, .int 0, .null, .int 0])), (q7, .inl (cI, 64, .inl (sm_ap (fun _ => 0) 0 sm_K 21)))] := hD
  refine lv_dup hx hb dX4_init_129 rfl ?_
  refine lv_bipush (v := 21) hx hb dX4_init_130 (by decide) ?_
  refine lv_ldc hx hb hown (hts (.constant RX4 28 (1249150122)) (by decide +kernel)) dX4_init_132 ?_
  refine va_iast (i := 21) (x := 1249150122) hx hb hK hP hD hS 1 0 rfl rfl (vp_in_nI (n := 21) (by decide) (by omega)) dX4_init_134 (fun H locs hP hD hS => ?_)
  rw [show Int32.toNatClampNeg 21 = 21 from nI_clamp (n := 21) (by omega)] at hP hD
  have hP : va_P D vwCl [(zm, .inr (4, [.int 0, .null, .null, .null, .null, .null, .int 0, .null, .null, .null, .int 0, .null, .int 0, .int 0, .null, .null, .null, .int 0, .int 0, .int 0, .null, .int 0])), (q7, .inl (cI, 64, .inl (upd (sm_ap (fun _ => 0) 0 sm_K 21) 21 1249150122)))] H := hP
  have hD : va_D A [(zm, .inr (4, [.int 0, .null, .null, .null, .null, .null, .int 0, .null, .null, .null, .int 0, .null, .int 0, .int 0, .null, .null, .null, .int 0, .int 0, .int 0, .null, .int 0])), (q7, .inl (cI, 64, .inl (upd (sm_ap (fun _ => 0) 0 sm_K 21) 21 1249150122)))] := hD
  rw [show upd (sm_ap (fun _ => 0) 0 sm_K 21) 21 1249150122 = sm_ap (fun _ => 0) 0 sm_K 22 from sm_ap_s0 (fun _ => 0) sm_K 21] at hP hD
  have hP : va_P D vwCl [(zm, .inr (4, [.int 0, .null, .null, .null, .null, .null, .int 0, .null, .null, .null, .int 0, .null, .int 0, .int 0, .null, .null, .null, .int 0, .int 0, .int 0, .null, .int 0])), (q7, .inl (cI, 64, .inl (sm_ap (fun _ => 0) 0 sm_K 22)))] H := hP
  have hD : va_D A [(zm, .inr (4, [.int 0, .null, .null, .null, .null, .null, .int 0, .null, .null, .null, .int 0, .null, .int 0, .int 0, .null, .null, .null, .int 0, .int 0, .int 0, .null, .int 0])), (q7, .inl (cI, 64, .inl (sm_ap (fun _ => 0) 0 sm_K 22)))] := hD
  refine lv_dup hx hb dX4_init_135 rfl ?_
  refine lv_bipush (v := 22) hx hb dX4_init_136 (by decide) ?_
  refine lv_ldc hx hb hown (hts (.constant RX4 29 (1555081692)) (by decide +kernel)) dX4_init_138 ?_
  refine va_iast (i := 22) (x := 1555081692) hx hb hK hP hD hS 1 0 rfl rfl (vp_in_nI (n := 22) (by decide) (by omega)) dX4_init_140 (fun H locs hP hD hS => ?_)
  rw [show Int32.toNatClampNeg 22 = 22 from nI_clamp (n := 22) (by omega)] at hP hD
  have hP : va_P D vwCl [(zm, .inr (4, [.int 0, .null, .null, .null, .null, .null, .int 0, .null, .null, .null, .int 0, .null, .int 0, .int 0, .null, .null, .null, .int 0, .int 0, .int 0, .null, .int 0])), (q7, .inl (cI, 64, .inl (upd (sm_ap (fun _ => 0) 0 sm_K 22) 22 1555081692)))] H := hP
  have hD : va_D A [(zm, .inr (4, [.int 0, .null, .null, .null, .null, .null, .int 0, .null, .null, .null, .int 0, .null, .int 0, .int 0, .null, .null, .null, .int 0, .int 0, .int 0, .null, .int 0])), (q7, .inl (cI, 64, .inl (upd (sm_ap (fun _ => 0) 0 sm_K 22) 22 1555081692)))] := hD
  rw [show upd (sm_ap (fun _ => 0) 0 sm_K 22) 22 1555081692 = sm_ap (fun _ => 0) 0 sm_K 23 from sm_ap_s0 (fun _ => 0) sm_K 22] at hP hD
  have hP : va_P D vwCl [(zm, .inr (4, [.int 0, .null, .null, .null, .null, .null, .int 0, .null, .null, .null, .int 0, .null, .int 0, .int 0, .null, .null, .null, .int 0, .int 0, .int 0, .null, .int 0])), (q7, .inl (cI, 64, .inl (sm_ap (fun _ => 0) 0 sm_K 23)))] H := hP
  have hD : va_D A [(zm, .inr (4, [.int 0, .null, .null, .null, .null, .null, .int 0, .null, .null, .null, .int 0, .null, .int 0, .int 0, .null, .null, .null, .int 0, .int 0, .int 0, .null, .int 0])), (q7, .inl (cI, 64, .inl (sm_ap (fun _ => 0) 0 sm_K 23)))] := hD
  refine lv_dup hx hb dX4_init_141 rfl ?_
  refine lv_bipush (v := 23) hx hb dX4_init_142 (by decide) ?_
  refine lv_ldc hx hb hown (hts (.constant RX4 30 (1996064986)) (by decide +kernel)) dX4_init_144 ?_
  refine va_iast (i := 23) (x := 1996064986) hx hb hK hP hD hS 1 0 rfl rfl (vp_in_nI (n := 23) (by decide) (by omega)) dX4_init_146 (fun H locs hP hD hS => ?_)
  rw [show Int32.toNatClampNeg 23 = 23 from nI_clamp (n := 23) (by omega)] at hP hD
  have hP : va_P D vwCl [(zm, .inr (4, [.int 0, .null, .null, .null, .null, .null, .int 0, .null, .null, .null, .int 0, .null, .int 0, .int 0, .null, .null, .null, .int 0, .int 0, .int 0, .null, .int 0])), (q7, .inl (cI, 64, .inl (upd (sm_ap (fun _ => 0) 0 sm_K 23) 23 1996064986)))] H := hP
  have hD : va_D A [(zm, .inr (4, [.int 0, .null, .null, .null, .null, .null, .int 0, .null, .null, .null, .int 0, .null, .int 0, .int 0, .null, .null, .null, .int 0, .int 0, .int 0, .null, .int 0])), (q7, .inl (cI, 64, .inl (upd (sm_ap (fun _ => 0) 0 sm_K 23) 23 1996064986)))] := hD
  rw [show upd (sm_ap (fun _ => 0) 0 sm_K 23) 23 1996064986 = sm_ap (fun _ => 0) 0 sm_K 24 from sm_ap_s0 (fun _ => 0) sm_K 23] at hP hD
  have hP : va_P D vwCl [(zm, .inr (4, [.int 0, .null, .null, .null, .null, .null, .int 0, .null, .null, .null, .int 0, .null, .int 0, .int 0, .null, .null, .null, .int 0, .int 0, .int 0, .null, .int 0])), (q7, .inl (cI, 64, .inl (sm_ap (fun _ => 0) 0 sm_K 24)))] H := hP
  have hD : va_D A [(zm, .inr (4, [.int 0, .null, .null, .null, .null, .null, .int 0, .null, .null, .null, .int 0, .null, .int 0, .int 0, .null, .null, .null, .int 0, .int 0, .int 0, .null, .int 0])), (q7, .inl (cI, 64, .inl (sm_ap (fun _ => 0) 0 sm_K 24)))] := hD
  refine lv_dup hx hb dX4_init_147 rfl ?_
  refine lv_bipush (v := 24) hx hb dX4_init_148 (by decide) ?_
  refine lv_ldc hx hb hown (hts (.constant RX4 31 (-1740746414)) (by decide +kernel)) dX4_init_150 ?_
  refine va_iast (i := 24) (x := (-1740746414)) hx hb hK hP hD hS 1 0 rfl rfl (vp_in_nI (n := 24) (by decide) (by omega)) dX4_init_152 (fun H locs hP hD hS => ?_)
  rw [show Int32.toNatClampNeg 24 = 24 from nI_clamp (n := 24) (by omega)] at hP hD
  have hP : va_P D vwCl [(zm, .inr (4, [.int 0, .null, .null, .null, .null, .null, .int 0, .null, .null, .null, .int 0, .null, .int 0, .int 0, .null, .null, .null, .int 0, .int 0, .int 0, .null, .int 0])), (q7, .inl (cI, 64, .inl (upd (sm_ap (fun _ => 0) 0 sm_K 24) 24 (-1740746414))))] H := hP
  have hD : va_D A [(zm, .inr (4, [.int 0, .null, .null, .null, .null, .null, .int 0, .null, .null, .null, .int 0, .null, .int 0, .int 0, .null, .null, .null, .int 0, .int 0, .int 0, .null, .int 0])), (q7, .inl (cI, 64, .inl (upd (sm_ap (fun _ => 0) 0 sm_K 24) 24 (-1740746414))))] := hD
  rw [show upd (sm_ap (fun _ => 0) 0 sm_K 24) 24 (-1740746414) = sm_ap (fun _ => 0) 0 sm_K 25 from sm_ap_s0 (fun _ => 0) sm_K 24] at hP hD
  have hP : va_P D vwCl [(zm, .inr (4, [.int 0, .null, .null, .null, .null, .null, .int 0, .null, .null, .null, .int 0, .null, .int 0, .int 0, .null, .null, .null, .int 0, .int 0, .int 0, .null, .int 0])), (q7, .inl (cI, 64, .inl (sm_ap (fun _ => 0) 0 sm_K 25)))] H := hP
  have hD : va_D A [(zm, .inr (4, [.int 0, .null, .null, .null, .null, .null, .int 0, .null, .null, .null, .int 0, .null, .int 0, .int 0, .null, .null, .null, .int 0, .int 0, .int 0, .null, .int 0])), (q7, .inl (cI, 64, .inl (sm_ap (fun _ => 0) 0 sm_K 25)))] := hD
  refine lv_dup hx hb dX4_init_153 rfl ?_
  refine lv_bipush (v := 25) hx hb dX4_init_154 (by decide) ?_
  refine lv_ldc hx hb hown (hts (.constant RX4 32 (-1473132947)) (by decide +kernel)) dX4_init_156 ?_
  refine va_iast (i := 25) (x := (-1473132947)) hx hb hK hP hD hS 1 0 rfl rfl (vp_in_nI (n := 25) (by decide) (by omega)) dX4_init_158 (fun H locs hP hD hS => ?_)
  rw [show Int32.toNatClampNeg 25 = 25 from nI_clamp (n := 25) (by omega)] at hP hD
  have hP : va_P D vwCl [(zm, .inr (4, [.int 0, .null, .null, .null, .null, .null, .int 0, .null, .null, .null, .int 0, .null, .int 0, .int 0, .null, .null, .null, .int 0, .int 0, .int 0, .null, .int 0])), (q7, .inl (cI, 64, .inl (upd (sm_ap (fun _ => 0) 0 sm_K 25) 25 (-1473132947))))] H := hP
  have hD : va_D A [(zm, .inr (4, [.int 0, .null, .null, .null, .null, .null, .int 0, .null, .null, .null, .int 0, .null, .int 0, .int 0, .null, .null, .null, .int 0, .int 0, .int 0, .null, .int 0])), (q7, .inl (cI, 64, .inl (upd (sm_ap (fun _ => 0) 0 sm_K 25) 25 (-1473132947))))] := hD
  rw [show upd (sm_ap (fun _ => 0) 0 sm_K 25) 25 (-1473132947) = sm_ap (fun _ => 0) 0 sm_K 26 from sm_ap_s0 (fun _ => 0) sm_K 25] at hP hD
  have hP : va_P D vwCl [(zm, .inr (4, [.int 0, .null, .null, .null, .null, .null, .int 0, .null, .null, .null, .int 0, .null, .int 0, .int 0, .null, .null, .null, .int 0, .int 0, .int 0, .null, .int 0])), (q7, .inl (cI, 64, .inl (sm_ap (fun _ => 0) 0 sm_K 26)))] H := hP
  have hD : va_D A [(zm, .inr (4, [.int 0, .null, .null, .null, .null, .null, .int 0, .null, .null, .null, .int 0, .null, .int 0, .int 0, .null, .null, .null, .int 0, .int 0, .int 0, .null, .int 0])), (q7, .inl (cI, 64, .inl (sm_ap (fun _ => 0) 0 sm_K 26)))] := hD
  refine lv_dup hx hb dX4_init_159 rfl ?_
  refine lv_bipush (v := 26) hx hb dX4_init_160 (by decide) ?_
  refine lv_ldc hx hb hown (hts (.constant RX4 33 (-1341970488)) (by decide +kernel)) dX4_init_162 ?_
  refine va_iast (i := 26) (x := (-1341970488)) hx hb hK hP hD hS 1 0 rfl rfl (vp_in_nI (n := 26) (by decide) (by omega)) dX4_init_164 (fun H locs hP hD hS => ?_)
  rw [show Int32.toNatClampNeg 26 = 26 from nI_clamp (n := 26) (by omega)] at hP hD
  have hP : va_P D vwCl [(zm, .inr (4, [.int 0, .null, .null, .null, .null, .null, .int 0, .null, .null, .null, .int 0, .null, .int 0, .int 0, .null, .null, .null, .int 0, .int 0, .int 0, .null, .int 0])), (q7, .inl (cI, 64, .inl (upd (sm_ap (fun _ => 0) 0 sm_K 26) 26 (-1341970488))))] H := hP
  have hD : va_D A [(zm, .inr (4, [.int 0, .null, .null, .null, .null, .null, .int 0, .null, .null, .null, .int 0, .null, .int 0, .int 0, .null, .null, .null, .int 0, .int 0, .int 0, .null, .int 0])), (q7, .inl (cI, 64, .inl (upd (sm_ap (fun _ => 0) 0 sm_K 26) 26 (-1341970488))))] := hD
  rw [show upd (sm_ap (fun _ => 0) 0 sm_K 26) 26 (-1341970488) = sm_ap (fun _ => 0) 0 sm_K 27 from sm_ap_s0 (fun _ => 0) sm_K 26] at hP hD
  have hP : va_P D vwCl [(zm, .inr (4, [.int 0, .null, .null, .null, .null, .null, .int 0, .null, .null, .null, .int 0, .null, .int 0, .int 0, .null, .null, .null, .int 0, .int 0, .int 0, .null, .int 0])), (q7, .inl (cI, 64, .inl (sm_ap (fun _ => 0) 0 sm_K 27)))] H := hP
  have hD : va_D A [(zm, .inr (4, [.int 0, .null, .null, .null, .null, .null, .int 0, .null, .null, .null, .int 0, .null, .int 0, .int 0, .null, .null, .null, .int 0, .int 0, .int 0, .null, .int 0])), (q7, .inl (cI, 64, .inl (sm_ap (fun _ => 0) 0 sm_K 27)))] := hD
  refine lv_dup hx hb dX4_init_165 rfl ?_
  refine lv_bipush (v := 27) hx hb dX4_init_166 (by decide) ?_
  refine lv_ldc hx hb hown (hts (.constant RX4 34 (-1084653625)) (by decide +kernel)) dX4_init_168 ?_
  refine va_iast (i := 27) (x := (-1084653625)) hx hb hK hP hD hS 1 0 rfl rfl (vp_in_nI (n := 27) (by decide) (by omega)) dX4_init_170 (fun H locs hP hD hS => ?_)
  rw [show Int32.toNatClampNeg 27 = 27 from nI_clamp (n := 27) (by omega)] at hP hD
  have hP : va_P D vwCl [(zm, .inr (4, [.int 0, .null, .null, .null, .null, .null, .int 0, .null, .null, .null, .int 0, .null, .int 0, .int 0, .null, .null, .null, .int 0, .int 0, .int 0, .null, .int 0])), (q7, .inl (cI, 64, .inl (upd (sm_ap (fun _ => 0) 0 sm_K 27) 27 (-1084653625))))] H := hP
  have hD : va_D A [(zm, .inr (4, [.int 0, .null, .null, .null, .null, .null, .int 0, .null, .null, .null, .int 0, .null, .int 0, .int 0, .null, .null, .null, .int 0, .int 0, .int 0, .null, .int 0])), (q7, .inl (cI, 64, .inl (upd (sm_ap (fun _ => 0) 0 sm_K 27) 27 (-1084653625))))] := hD
  rw [show upd (sm_ap (fun _ => 0) 0 sm_K 27) 27 (-1084653625) = sm_ap (fun _ => 0) 0 sm_K 28 from sm_ap_s0 (fun _ => 0) sm_K 27] at hP hD
  have hP : va_P D vwCl [(zm, .inr (4, [.int 0, .null, .null, .null, .null, .null, .int 0, .null, .null, .null, .int 0, .null, .int 0, .int 0, .null, .null, .null, .int 0, .int 0, .int 0, .null, .int 0])), (q7, .inl (cI, 64, .inl (sm_ap (fun _ => 0) 0 sm_K 28)))] H := hP
  have hD : va_D A [(zm, .inr (4, [.int 0, .null, .null, .null, .null, .null, .int 0, .null, .null, .null, .int 0, .null, .int 0, .int 0, .null, .null, .null, .int 0, .int 0, .int 0, .null, .int 0])), (q7, .inl (cI, 64, .inl (sm_ap (fun _ => 0) 0 sm_K 28)))] := hD
  refine lv_dup hx hb dX4_init_171 rfl ?_
  refine lv_bipush (v := 28) hx hb dX4_init_172 (by decide) ?_
  refine lv_ldc hx hb hown (hts (.constant RX4 35 (-958395405)) (by decide +kernel)) dX4_init_174 ?_
  refine va_iast (i := 28) (x := (-958395405)) hx hb hK hP hD hS 1 0 rfl rfl (vp_in_nI (n := 28) (by decide) (by omega)) dX4_init_176 (fun H locs hP hD hS => ?_)
  rw [show Int32.toNatClampNeg 28 = 28 from nI_clamp (n := 28) (by omega)] at hP hD
  have hP : va_P D vwCl [(zm, .inr (4, [.int 0, .null, .null, .null, .null, .null, .int 0, .null, .null, .null, .int 0, .null, .int 0, .int 0, .null, .null, .null, .int 0, .int 0, .int 0, .null, .int 0])), (q7, .inl (cI, 64, .inl (upd (sm_ap (fun _ => 0) 0 sm_K 28) 28 (-958395405))))] H := hP
  have hD : va_D A [(zm, .inr (4, [.int 0, .null, .null, .null, .null, .null, .int 0, .null, .null, .null, .int 0, .null, .int 0, .int 0, .null, .null, .null, .int 0, .int 0, .int 0, .null, .int 0])), (q7, .inl (cI, 64, .inl (upd (sm_ap (fun _ => 0) 0 sm_K 28) 28 (-958395405))))] := hD
  rw [show upd (sm_ap (fun _ => 0) 0 sm_K 28) 28 (-958395405) = sm_ap (fun _ => 0) 0 sm_K 29 from sm_ap_s0 (fun _ => 0) sm_K 28] at hP hD
  have hP : va_P D vwCl [(zm, .inr (4, [.int 0, .null, .null, .null, .null, .null, .int 0, .null, .null, .null, .int 0, .null, .int 0, .int 0, .null, .null, .null, .int 0, .int 0, .int 0, .null, .int 0])), (q7, .inl (cI, 64, .inl (sm_ap (fun _ => 0) 0 sm_K 29)))] H := hP
  have hD : va_D A [(zm, .inr (4, [.int 0, .null, .null, .null, .null, .null, .int 0, .null, .null, .null, .int 0, .null, .int 0, .int 0, .null, .null, .null, .int 0, .int 0, .int 0, .null, .int 0])), (q7, .inl (cI, 64, .inl (sm_ap (fun _ => 0) 0 sm_K 29)))] := hD
  refine lv_dup hx hb dX4_init_177 rfl ?_
  refine lv_bipush (v := 29) hx hb dX4_init_178 (by decide) ?_
  refine lv_ldc hx hb hown (hts (.constant RX4 36 (-710438585)) (by decide +kernel)) dX4_init_180 ?_
  refine va_iast (i := 29) (x := (-710438585)) hx hb hK hP hD hS 1 0 rfl rfl (vp_in_nI (n := 29) (by decide) (by omega)) dX4_init_182 (fun H locs hP hD hS => ?_)
  rw [show Int32.toNatClampNeg 29 = 29 from nI_clamp (n := 29) (by omega)] at hP hD
  have hP : va_P D vwCl [(zm, .inr (4, [.int 0, .null, .null, .null, .null, .null, .int 0, .null, .null, .null, .int 0, .null, .int 0, .int 0, .null, .null, .null, .int 0, .int 0, .int 0, .null, .int 0])), (q7, .inl (cI, 64, .inl (upd (sm_ap (fun _ => 0) 0 sm_K 29) 29 (-710438585))))] H := hP
  have hD : va_D A [(zm, .inr (4, [.int 0, .null, .null, .null, .null, .null, .int 0, .null, .null, .null, .int 0, .null, .int 0, .int 0, .null, .null, .null, .int 0, .int 0, .int 0, .null, .int 0])), (q7, .inl (cI, 64, .inl (upd (sm_ap (fun _ => 0) 0 sm_K 29) 29 (-710438585))))] := hD
  rw [show upd (sm_ap (fun _ => 0) 0 sm_K 29) 29 (-710438585) = sm_ap (fun _ => 0) 0 sm_K 30 from sm_ap_s0 (fun _ => 0) sm_K 29] at hP hD
  have hP : va_P D vwCl [(zm, .inr (4, [.int 0, .null, .null, .null, .null, .null, .int 0, .null, .null, .null, .int 0, .null, .int 0, .int 0, .null, .null, .null, .int 0, .int 0, .int 0, .null, .int 0])), (q7, .inl (cI, 64, .inl (sm_ap (fun _ => 0) 0 sm_K 30)))] H := hP
  have hD : va_D A [(zm, .inr (4, [.int 0, .null, .null, .null, .null, .null, .int 0, .null, .null, .null, .int 0, .null, .int 0, .int 0, .null, .null, .null, .int 0, .int 0, .int 0, .null, .int 0])), (q7, .inl (cI, 64, .inl (sm_ap (fun _ => 0) 0 sm_K 30)))] := hD
  refine lv_dup hx hb dX4_init_183 rfl ?_
  refine lv_bipush (v := 30) hx hb dX4_init_184 (by decide) ?_
  refine lv_ldc hx hb hown (hts (.constant RX4 37 (113926993)) (by decide +kernel)) dX4_init_186 ?_
  refine va_iast (i := 30) (x := 113926993) hx hb hK hP hD hS 1 0 rfl rfl (vp_in_nI (n := 30) (by decide) (by omega)) dX4_init_188 (fun H locs hP hD hS => ?_)
  rw [show Int32.toNatClampNeg 30 = 30 from nI_clamp (n := 30) (by omega)] at hP hD
  have hP : va_P D vwCl [(zm, .inr (4, [.int 0, .null, .null, .null, .null, .null, .int 0, .null, .null, .null, .int 0, .null, .int 0, .int 0, .null, .null, .null, .int 0, .int 0, .int 0, .null, .int 0])), (q7, .inl (cI, 64, .inl (upd (sm_ap (fun _ => 0) 0 sm_K 30) 30 113926993)))] H := hP
  have hD : va_D A [(zm, .inr (4, [.int 0, .null, .null, .null, .null, .null, .int 0, .null, .null, .null, .int 0, .null, .int 0, .int 0, .null, .null, .null, .int 0, .int 0, .int 0, .null, .int 0])), (q7, .inl (cI, 64, .inl (upd (sm_ap (fun _ => 0) 0 sm_K 30) 30 113926993)))] := hD
  rw [show upd (sm_ap (fun _ => 0) 0 sm_K 30) 30 113926993 = sm_ap (fun _ => 0) 0 sm_K 31 from sm_ap_s0 (fun _ => 0) sm_K 30] at hP hD
  have hP : va_P D vwCl [(zm, .inr (4, [.int 0, .null, .null, .null, .null, .null, .int 0, .null, .null, .null, .int 0, .null, .int 0, .int 0, .null, .null, .null, .int 0, .int 0, .int 0, .null, .int 0])), (q7, .inl (cI, 64, .inl (sm_ap (fun _ => 0) 0 sm_K 31)))] H := hP
  have hD : va_D A [(zm, .inr (4, [.int 0, .null, .null, .null, .null, .null, .int 0, .null, .null, .null, .int 0, .null, .int 0, .int 0, .null, .null, .null, .int 0, .int 0, .int 0, .null, .int 0])), (q7, .inl (cI, 64, .inl (sm_ap (fun _ => 0) 0 sm_K 31)))] := hD
  refine lv_dup hx hb dX4_init_189 rfl ?_
  refine lv_bipush (v := 31) hx hb dX4_init_190 (by decide) ?_
  refine lv_ldc hx hb hown (hts (.constant RX4 38 (338241895)) (by decide +kernel)) dX4_init_192 ?_
  refine va_iast (i := 31) (x := 338241895) hx hb hK hP hD hS 1 0 rfl rfl (vp_in_nI (n := 31) (by decide) (by omega)) dX4_init_194 (fun H locs hP hD hS => ?_)
  rw [show Int32.toNatClampNeg 31 = 31 from nI_clamp (n := 31) (by omega)] at hP hD
  have hP : va_P D vwCl [(zm, .inr (4, [.int 0, .null, .null, .null, .null, .null, .int 0, .null, .null, .null, .int 0, .null, .int 0, .int 0, .null, .null, .null, .int 0, .int 0, .int 0, .null, .int 0])), (q7, .inl (cI, 64, .inl (upd (sm_ap (fun _ => 0) 0 sm_K 31) 31 338241895)))] H := hP
  have hD : va_D A [(zm, .inr (4, [.int 0, .null, .null, .null, .null, .null, .int 0, .null, .null, .null, .int 0, .null, .int 0, .int 0, .null, .null, .null, .int 0, .int 0, .int 0, .null, .int 0])), (q7, .inl (cI, 64, .inl (upd (sm_ap (fun _ => 0) 0 sm_K 31) 31 338241895)))] := hD
  rw [show upd (sm_ap (fun _ => 0) 0 sm_K 31) 31 338241895 = sm_ap (fun _ => 0) 0 sm_K 32 from sm_ap_s0 (fun _ => 0) sm_K 31] at hP hD
  have hP : va_P D vwCl [(zm, .inr (4, [.int 0, .null, .null, .null, .null, .null, .int 0, .null, .null, .null, .int 0, .null, .int 0, .int 0, .null, .null, .null, .int 0, .int 0, .int 0, .null, .int 0])), (q7, .inl (cI, 64, .inl (sm_ap (fun _ => 0) 0 sm_K 32)))] H := hP
  have hD : va_D A [(zm, .inr (4, [.int 0, .null, .null, .null, .null, .null, .int 0, .null, .null, .null, .int 0, .null, .int 0, .int 0, .null, .null, .null, .int 0, .int 0, .int 0, .null, .int 0])), (q7, .inl (cI, 64, .inl (sm_ap (fun _ => 0) 0 sm_K 32)))] := hD
  refine lv_dup hx hb dX4_init_195 rfl ?_
  refine lv_bipush (v := 32) hx hb dX4_init_196 (by decide) ?_
  refine lv_ldc hx hb hown (hts (.constant RX4 39 (666307205)) (by decide +kernel)) dX4_init_198 ?_
  refine va_iast (i := 32) (x := 666307205) hx hb hK hP hD hS 1 0 rfl rfl (vp_in_nI (n := 32) (by decide) (by omega)) dX4_init_200 (fun H locs hP hD hS => ?_)
  rw [show Int32.toNatClampNeg 32 = 32 from nI_clamp (n := 32) (by omega)] at hP hD
  have hP : va_P D vwCl [(zm, .inr (4, [.int 0, .null, .null, .null, .null, .null, .int 0, .null, .null, .null, .int 0, .null, .int 0, .int 0, .null, .null, .null, .int 0, .int 0, .int 0, .null, .int 0])), (q7, .inl (cI, 64, .inl (upd (sm_ap (fun _ => 0) 0 sm_K 32) 32 666307205)))] H := hP
  have hD : va_D A [(zm, .inr (4, [.int 0, .null, .null, .null, .null, .null, .int 0, .null, .null, .null, .int 0, .null, .int 0, .int 0, .null, .null, .null, .int 0, .int 0, .int 0, .null, .int 0])), (q7, .inl (cI, 64, .inl (upd (sm_ap (fun _ => 0) 0 sm_K 32) 32 666307205)))] := hD
  rw [show upd (sm_ap (fun _ => 0) 0 sm_K 32) 32 666307205 = sm_ap (fun _ => 0) 0 sm_K 33 from sm_ap_s0 (fun _ => 0) sm_K 32] at hP hD
  have hP : va_P D vwCl [(zm, .inr (4, [.int 0, .null, .null, .null, .null, .null, .int 0, .null, .null, .null, .int 0, .null, .int 0, .int 0, .null, .null, .null, .int 0, .int 0, .int 0, .null, .int 0])), (q7, .inl (cI, 64, .inl (sm_ap (fun _ => 0) 0 sm_K 33)))] H := hP
  have hD : va_D A [(zm, .inr (4, [.int 0, .null, .null, .null, .null, .null, .int 0, .null, .null, .null, .int 0, .null, .int 0, .int 0, .null, .null, .null, .int 0, .int 0, .int 0, .null, .int 0])), (q7, .inl (cI, 64, .inl (sm_ap (fun _ => 0) 0 sm_K 33)))] := hD
  refine lv_dup hx hb dX4_init_201 rfl ?_
  refine lv_bipush (v := 33) hx hb dX4_init_202 (by decide) ?_
  refine lv_ldc hx hb hown (hts (.constant RX4 40 (773529912)) (by decide +kernel)) dX4_init_204 ?_
  refine va_iast (i := 33) (x := 773529912) hx hb hK hP hD hS 1 0 rfl rfl (vp_in_nI (n := 33) (by decide) (by omega)) dX4_init_206 (fun H locs hP hD hS => ?_)
  rw [show Int32.toNatClampNeg 33 = 33 from nI_clamp (n := 33) (by omega)] at hP hD
  have hP : va_P D vwCl [(zm, .inr (4, [.int 0, .null, .null, .null, .null, .null, .int 0, .null, .null, .null, .int 0, .null, .int 0, .int 0, .null, .null, .null, .int 0, .int 0, .int 0, .null, .int 0])), (q7, .inl (cI, 64, .inl (upd (sm_ap (fun _ => 0) 0 sm_K 33) 33 773529912)))] H := hP
  have hD : va_D A [(zm, .inr (4, [.int 0, .null, .null, .null, .null, .null, .int 0, .null, .null, .null, .int 0, .null, .int 0, .int 0, .null, .null, .null, .int 0, .int 0, .int 0, .null, .int 0])), (q7, .inl (cI, 64, .inl (upd (sm_ap (fun _ => 0) 0 sm_K 33) 33 773529912)))] := hD
  rw [show upd (sm_ap (fun _ => 0) 0 sm_K 33) 33 773529912 = sm_ap (fun _ => 0) 0 sm_K 34 from sm_ap_s0 (fun _ => 0) sm_K 33] at hP hD
  have hP : va_P D vwCl [(zm, .inr (4, [.int 0, .null, .null, .null, .null, .null, .int 0, .null, .null, .null, .int 0, .null, .int 0, .int 0, .null, .null, .null, .int 0, .int 0, .int 0, .null, .int 0])), (q7, .inl (cI, 64, .inl (sm_ap (fun _ => 0) 0 sm_K 34)))] H := hP
  have hD : va_D A [(zm, .inr (4, [.int 0, .null, .null, .null, .null, .null, .int 0, .null, .null, .null, .int 0, .null, .int 0, .int 0, .null, .null, .null, .int 0, .int 0, .int 0, .null, .int 0])), (q7, .inl (cI, 64, .inl (sm_ap (fun _ => 0) 0 sm_K 34)))] := hD
  refine lv_dup hx hb dX4_init_207 rfl ?_
  refine lv_bipush (v := 34) hx hb dX4_init_208 (by decide) ?_
  refine lv_ldc hx hb hown (hts (.constant RX4 41 (1294757372)) (by decide +kernel)) dX4_init_210 ?_
  refine va_iast (i := 34) (x := 1294757372) hx hb hK hP hD hS 1 0 rfl rfl (vp_in_nI (n := 34) (by decide) (by omega)) dX4_init_212 (fun H locs hP hD hS => ?_)
  rw [show Int32.toNatClampNeg 34 = 34 from nI_clamp (n := 34) (by omega)] at hP hD
  have hP : va_P D vwCl [(zm, .inr (4, [.int 0, .null, .null, .null, .null, .null, .int 0, .null, .null, .null, .int 0, .null, .int 0, .int 0, .null, .null, .null, .int 0, .int 0, .int 0, .null, .int 0])), (q7, .inl (cI, 64, .inl (upd (sm_ap (fun _ => 0) 0 sm_K 34) 34 1294757372)))] H := hP
  have hD : va_D A [(zm, .inr (4, [.int 0, .null, .null, .null, .null, .null, .int 0, .null, .null, .null, .int 0, .null, .int 0, .int 0, .null, .null, .null, .int 0, .int 0, .int 0, .null, .int 0])), (q7, .inl (cI, 64, .inl (upd (sm_ap (fun _ => 0) 0 sm_K 34) 34 1294757372)))] := hD
  rw [show upd (sm_ap (fun _ => 0) 0 sm_K 34) 34 1294757372 = sm_ap (fun _ => 0) 0 sm_K 35 from sm_ap_s0 (fun _ => 0) sm_K 34] at hP hD
  have hP : va_P D vwCl [(zm, .inr (4, [.int 0, .null, .null, .null, .null, .null, .int 0, .null, .null, .null, .int 0, .null, .int 0, .int 0, .null, .null, .null, .int 0, .int 0, .int 0, .null, .int 0])), (q7, .inl (cI, 64, .inl (sm_ap (fun _ => 0) 0 sm_K 35)))] H := hP
  have hD : va_D A [(zm, .inr (4, [.int 0, .null, .null, .null, .null, .null, .int 0, .null, .null, .null, .int 0, .null, .int 0, .int 0, .null, .null, .null, .int 0, .int 0, .int 0, .null, .int 0])), (q7, .inl (cI, 64, .inl (sm_ap (fun _ => 0) 0 sm_K 35)))] := hD
  refine lv_dup hx hb dX4_init_213 rfl ?_
  refine lv_bipush (v := 35) hx hb dX4_init_214 (by decide) ?_
  refine lv_ldc hx hb hown (hts (.constant RX4 42 (1396182291)) (by decide +kernel)) dX4_init_216 ?_
  refine va_iast (i := 35) (x := 1396182291) hx hb hK hP hD hS 1 0 rfl rfl (vp_in_nI (n := 35) (by decide) (by omega)) dX4_init_218 (fun H locs hP hD hS => ?_)
  rw [show Int32.toNatClampNeg 35 = 35 from nI_clamp (n := 35) (by omega)] at hP hD
  have hP : va_P D vwCl [(zm, .inr (4, [.int 0, .null, .null, .null, .null, .null, .int 0, .null, .null, .null, .int 0, .null, .int 0, .int 0, .null, .null, .null, .int 0, .int 0, .int 0, .null, .int 0])), (q7, .inl (cI, 64, .inl (upd (sm_ap (fun _ => 0) 0 sm_K 35) 35 1396182291)))] H := hP
  have hD : va_D A [(zm, .inr (4, [.int 0, .null, .null, .null, .null, .null, .int 0, .null, .null, .null, .int 0, .null, .int 0, .int 0, .null, .null, .null, .int 0, .int 0, .int 0, .null, .int 0])), (q7, .inl (cI, 64, .inl (upd (sm_ap (fun _ => 0) 0 sm_K 35) 35 1396182291)))] := hD
  rw [show upd (sm_ap (fun _ => 0) 0 sm_K 35) 35 1396182291 = sm_ap (fun _ => 0) 0 sm_K 36 from sm_ap_s0 (fun _ => 0) sm_K 35] at hP hD
  have hP : va_P D vwCl [(zm, .inr (4, [.int 0, .null, .null, .null, .null, .null, .int 0, .null, .null, .null, .int 0, .null, .int 0, .int 0, .null, .null, .null, .int 0, .int 0, .int 0, .null, .int 0])), (q7, .inl (cI, 64, .inl (sm_ap (fun _ => 0) 0 sm_K 36)))] H := hP
  have hD : va_D A [(zm, .inr (4, [.int 0, .null, .null, .null, .null, .null, .int 0, .null, .null, .null, .int 0, .null, .int 0, .int 0, .null, .null, .null, .int 0, .int 0, .int 0, .null, .int 0])), (q7, .inl (cI, 64, .inl (sm_ap (fun _ => 0) 0 sm_K 36)))] := hD
  refine lv_dup hx hb dX4_init_219 rfl ?_
  refine lv_bipush (v := 36) hx hb dX4_init_220 (by decide) ?_
  refine lv_ldc hx hb hown (hts (.constant RX4 43 (1695183700)) (by decide +kernel)) dX4_init_222 ?_
  refine va_iast (i := 36) (x := 1695183700) hx hb hK hP hD hS 1 0 rfl rfl (vp_in_nI (n := 36) (by decide) (by omega)) dX4_init_224 (fun H locs hP hD hS => ?_)
  rw [show Int32.toNatClampNeg 36 = 36 from nI_clamp (n := 36) (by omega)] at hP hD
  have hP : va_P D vwCl [(zm, .inr (4, [.int 0, .null, .null, .null, .null, .null, .int 0, .null, .null, .null, .int 0, .null, .int 0, .int 0, .null, .null, .null, .int 0, .int 0, .int 0, .null, .int 0])), (q7, .inl (cI, 64, .inl (upd (sm_ap (fun _ => 0) 0 sm_K 36) 36 1695183700)))] H := hP
  have hD : va_D A [(zm, .inr (4, [.int 0, .null, .null, .null, .null, .null, .int 0, .null, .null, .null, .int 0, .null, .int 0, .int 0, .null, .null, .null, .int 0, .int 0, .int 0, .null, .int 0])), (q7, .inl (cI, 64, .inl (upd (sm_ap (fun _ => 0) 0 sm_K 36) 36 1695183700)))] := hD
  rw [show upd (sm_ap (fun _ => 0) 0 sm_K 36) 36 1695183700 = sm_ap (fun _ => 0) 0 sm_K 37 from sm_ap_s0 (fun _ => 0) sm_K 36] at hP hD
  have hP : va_P D vwCl [(zm, .inr (4, [.int 0, .null, .null, .null, .null, .null, .int 0, .null, .null, .null, .int 0, .null, .int 0, .int 0, .null, .null, .null, .int 0, .int 0, .int 0, .null, .int 0])), (q7, .inl (cI, 64, .inl (sm_ap (fun _ => 0) 0 sm_K 37)))] H := hP
  have hD : va_D A [(zm, .inr (4, [.int 0, .null, .null, .null, .null, .null, .int 0, .null, .null, .null, .int 0, .null, .int 0, .int 0, .null, .null, .null, .int 0, .int 0, .int 0, .null, .int 0])), (q7, .inl (cI, 64, .inl (sm_ap (fun _ => 0) 0 sm_K 37)))] := hD
  refine lv_dup hx hb dX4_init_225 rfl ?_
  refine lv_bipush (v := 37) hx hb dX4_init_226 (by decide) ?_
  refine lv_ldc hx hb hown (hts (.constant RX4 44 (1986661051)) (by decide +kernel)) dX4_init_228 ?_
  refine va_iast (i := 37) (x := 1986661051) hx hb hK hP hD hS 1 0 rfl rfl (vp_in_nI (n := 37) (by decide) (by omega)) dX4_init_230 (fun H locs hP hD hS => ?_)
  rw [show Int32.toNatClampNeg 37 = 37 from nI_clamp (n := 37) (by omega)] at hP hD
  have hP : va_P D vwCl [(zm, .inr (4, [.int 0, .null, .null, .null, .null, .null, .int 0, .null, .null, .null, .int 0, .null, .int 0, .int 0, .null, .null, .null, .int 0, .int 0, .int 0, .null, .int 0])), (q7, .inl (cI, 64, .inl (upd (sm_ap (fun _ => 0) 0 sm_K 37) 37 1986661051)))] H := hP
  have hD : va_D A [(zm, .inr (4, [.int 0, .null, .null, .null, .null, .null, .int 0, .null, .null, .null, .int 0, .null, .int 0, .int 0, .null, .null, .null, .int 0, .int 0, .int 0, .null, .int 0])), (q7, .inl (cI, 64, .inl (upd (sm_ap (fun _ => 0) 0 sm_K 37) 37 1986661051)))] := hD
  rw [show upd (sm_ap (fun _ => 0) 0 sm_K 37) 37 1986661051 = sm_ap (fun _ => 0) 0 sm_K 38 from sm_ap_s0 (fun _ => 0) sm_K 37] at hP hD
  have hP : va_P D vwCl [(zm, .inr (4, [.int 0, .null, .null, .null, .null, .null, .int 0, .null, .null, .null, .int 0, .null, .int 0, .int 0, .null, .null, .null, .int 0, .int 0, .int 0, .null, .int 0])), (q7, .inl (cI, 64, .inl (sm_ap (fun _ => 0) 0 sm_K 38)))] H := hP
  have hD : va_D A [(zm, .inr (4, [.int 0, .null, .null, .null, .null, .null, .int 0, .null, .null, .null, .int 0, .null, .int 0, .int 0, .null, .null, .null, .int 0, .int 0, .int 0, .null, .int 0])), (q7, .inl (cI, 64, .inl (sm_ap (fun _ => 0) 0 sm_K 38)))] := hD
  refine lv_dup hx hb dX4_init_231 rfl ?_
  refine lv_bipush (v := 38) hx hb dX4_init_232 (by decide) ?_
  refine lv_ldc hx hb hown (hts (.constant RX4 45 (-2117940946)) (by decide +kernel)) dX4_init_234 ?_
  refine va_iast (i := 38) (x := (-2117940946)) hx hb hK hP hD hS 1 0 rfl rfl (vp_in_nI (n := 38) (by decide) (by omega)) dX4_init_236 (fun H locs hP hD hS => ?_)
  rw [show Int32.toNatClampNeg 38 = 38 from nI_clamp (n := 38) (by omega)] at hP hD
  have hP : va_P D vwCl [(zm, .inr (4, [.int 0, .null, .null, .null, .null, .null, .int 0, .null, .null, .null, .int 0, .null, .int 0, .int 0, .null, .null, .null, .int 0, .int 0, .int 0, .null, .int 0])), (q7, .inl (cI, 64, .inl (upd (sm_ap (fun _ => 0) 0 sm_K 38) 38 (-2117940946))))] H := hP
  have hD : va_D A [(zm, .inr (4, [.int 0, .null, .null, .null, .null, .null, .int 0, .null, .null, .null, .int 0, .null, .int 0, .int 0, .null, .null, .null, .int 0, .int 0, .int 0, .null, .int 0])), (q7, .inl (cI, 64, .inl (upd (sm_ap (fun _ => 0) 0 sm_K 38) 38 (-2117940946))))] := hD
  rw [show upd (sm_ap (fun _ => 0) 0 sm_K 38) 38 (-2117940946) = sm_ap (fun _ => 0) 0 sm_K 39 from sm_ap_s0 (fun _ => 0) sm_K 38] at hP hD
  have hP : va_P D vwCl [(zm, .inr (4, [.int 0, .null, .null, .null, .null, .null, .int 0, .null, .null, .null, .int 0, .null, .int 0, .int 0, .null, .null, .null, .int 0, .int 0, .int 0, .null, .int 0])), (q7, .inl (cI, 64, .inl (sm_ap (fun _ => 0) 0 sm_K 39)))] H := hP
  have hD : va_D A [(zm, .inr (4, [.int 0, .null, .null, .null, .null, .null, .int 0, .null, .null, .null, .int 0, .null, .int 0, .int 0, .null, .null, .null, .int 0, .int 0, .int 0, .null, .int 0])), (q7, .inl (cI, 64, .inl (sm_ap (fun _ => 0) 0 sm_K 39)))] := hD
  refine lv_dup hx hb dX4_init_237 rfl ?_
  refine lv_bipush (v := 39) hx hb dX4_init_238 (by decide) ?_
  refine lv_ldc hx hb hown (hts (.constant RX4 46 (-1838011259)) (by decide +kernel)) dX4_init_240 ?_
  refine va_iast (i := 39) (x := (-1838011259)) hx hb hK hP hD hS 1 0 rfl rfl (vp_in_nI (n := 39) (by decide) (by omega)) dX4_init_242 (fun H locs hP hD hS => ?_)
  rw [show Int32.toNatClampNeg 39 = 39 from nI_clamp (n := 39) (by omega)] at hP hD
  have hP : va_P D vwCl [(zm, .inr (4, [.int 0, .null, .null, .null, .null, .null, .int 0, .null, .null, .null, .int 0, .null, .int 0, .int 0, .null, .null, .null, .int 0, .int 0, .int 0, .null, .int 0])), (q7, .inl (cI, 64, .inl (upd (sm_ap (fun _ => 0) 0 sm_K 39) 39 (-1838011259))))] H := hP
  have hD : va_D A [(zm, .inr (4, [.int 0, .null, .null, .null, .null, .null, .int 0, .null, .null, .null, .int 0, .null, .int 0, .int 0, .null, .null, .null, .int 0, .int 0, .int 0, .null, .int 0])), (q7, .inl (cI, 64, .inl (upd (sm_ap (fun _ => 0) 0 sm_K 39) 39 (-1838011259))))] := hD
  rw [show upd (sm_ap (fun _ => 0) 0 sm_K 39) 39 (-1838011259) = sm_ap (fun _ => 0) 0 sm_K 40 from sm_ap_s0 (fun _ => 0) sm_K 39] at hP hD
  have hP : va_P D vwCl [(zm, .inr (4, [.int 0, .null, .null, .null, .null, .null, .int 0, .null, .null, .null, .int 0, .null, .int 0, .int 0, .null, .null, .null, .int 0, .int 0, .int 0, .null, .int 0])), (q7, .inl (cI, 64, .inl (sm_ap (fun _ => 0) 0 sm_K 40)))] H := hP
  have hD : va_D A [(zm, .inr (4, [.int 0, .null, .null, .null, .null, .null, .int 0, .null, .null, .null, .int 0, .null, .int 0, .int 0, .null, .null, .null, .int 0, .int 0, .int 0, .null, .int 0])), (q7, .inl (cI, 64, .inl (sm_ap (fun _ => 0) 0 sm_K 40)))] := hD
  refine lv_dup hx hb dX4_init_243 rfl ?_
  refine lv_bipush (v := 40) hx hb dX4_init_244 (by decide) ?_
  refine lv_ldc hx hb hown (hts (.constant RX4 47 (-1564481375)) (by decide +kernel)) dX4_init_246 ?_
  refine va_iast (i := 40) (x := (-1564481375)) hx hb hK hP hD hS 1 0 rfl rfl (vp_in_nI (n := 40) (by decide) (by omega)) dX4_init_248 (fun H locs hP hD hS => ?_)
  rw [show Int32.toNatClampNeg 40 = 40 from nI_clamp (n := 40) (by omega)] at hP hD
  have hP : va_P D vwCl [(zm, .inr (4, [.int 0, .null, .null, .null, .null, .null, .int 0, .null, .null, .null, .int 0, .null, .int 0, .int 0, .null, .null, .null, .int 0, .int 0, .int 0, .null, .int 0])), (q7, .inl (cI, 64, .inl (upd (sm_ap (fun _ => 0) 0 sm_K 40) 40 (-1564481375))))] H := hP
  have hD : va_D A [(zm, .inr (4, [.int 0, .null, .null, .null, .null, .null, .int 0, .null, .null, .null, .int 0, .null, .int 0, .int 0, .null, .null, .null, .int 0, .int 0, .int 0, .null, .int 0])), (q7, .inl (cI, 64, .inl (upd (sm_ap (fun _ => 0) 0 sm_K 40) 40 (-1564481375))))] := hD
  rw [show upd (sm_ap (fun _ => 0) 0 sm_K 40) 40 (-1564481375) = sm_ap (fun _ => 0) 0 sm_K 41 from sm_ap_s0 (fun _ => 0) sm_K 40] at hP hD
  have hP : va_P D vwCl [(zm, .inr (4, [.int 0, .null, .null, .null, .null, .null, .int 0, .null, .null, .null, .int 0, .null, .int 0, .int 0, .null, .null, .null, .int 0, .int 0, .int 0, .null, .int 0])), (q7, .inl (cI, 64, .inl (sm_ap (fun _ => 0) 0 sm_K 41)))] H := hP
  have hD : va_D A [(zm, .inr (4, [.int 0, .null, .null, .null, .null, .null, .int 0, .null, .null, .null, .int 0, .null, .int 0, .int 0, .null, .null, .null, .int 0, .int 0, .int 0, .null, .int 0])), (q7, .inl (cI, 64, .inl (sm_ap (fun _ => 0) 0 sm_K 41)))] := hD
  refine lv_dup hx hb dX4_init_249 rfl ?_
  refine lv_bipush (v := 41) hx hb dX4_init_250 (by decide) ?_
  refine lv_ldc hx hb hown (hts (.constant RX4 48 (-1474664885)) (by decide +kernel)) dX4_init_252 ?_
  refine va_iast (i := 41) (x := (-1474664885)) hx hb hK hP hD hS 1 0 rfl rfl (vp_in_nI (n := 41) (by decide) (by omega)) dX4_init_254 (fun H locs hP hD hS => ?_)
  rw [show Int32.toNatClampNeg 41 = 41 from nI_clamp (n := 41) (by omega)] at hP hD
  have hP : va_P D vwCl [(zm, .inr (4, [.int 0, .null, .null, .null, .null, .null, .int 0, .null, .null, .null, .int 0, .null, .int 0, .int 0, .null, .null, .null, .int 0, .int 0, .int 0, .null, .int 0])), (q7, .inl (cI, 64, .inl (upd (sm_ap (fun _ => 0) 0 sm_K 41) 41 (-1474664885))))] H := hP
  have hD : va_D A [(zm, .inr (4, [.int 0, .null, .null, .null, .null, .null, .int 0, .null, .null, .null, .int 0, .null, .int 0, .int 0, .null, .null, .null, .int 0, .int 0, .int 0, .null, .int 0])), (q7, .inl (cI, 64, .inl (upd (sm_ap (fun _ => 0) 0 sm_K 41) 41 (-1474664885))))] := hD
  rw [show upd (sm_ap (fun _ => 0) 0 sm_K 41) 41 (-1474664885) = sm_ap (fun _ => 0) 0 sm_K 42 from sm_ap_s0 (fun _ => 0) sm_K 41] at hP hD
  have hP : va_P D vwCl [(zm, .inr (4, [.int 0, .null, .null, .null, .null, .null, .int 0, .null, .null, .null, .int 0, .null, .int 0, .int 0, .null, .null, .null, .int 0, .int 0, .int 0, .null, .int 0])), (q7, .inl (cI, 64, .inl (sm_ap (fun _ => 0) 0 sm_K 42)))] H := hP
  have hD : va_D A [(zm, .inr (4, [.int 0, .null, .null, .null, .null, .null, .int 0, .null, .null, .null, .int 0, .null, .int 0, .int 0, .null, .null, .null, .int 0, .int 0, .int 0, .null, .int 0])), (q7, .inl (cI, 64, .inl (sm_ap (fun _ => 0) 0 sm_K 42)))] := hD
  refine lv_dup hx hb dX4_init_255 rfl ?_
  refine lv_bipush (v := 42) hx hb dX4_init_256 (by decide) ?_
  refine lv_ldc hx hb hown (hts (.constant RX4 49 (-1035236496)) (by decide +kernel)) dX4_init_258 ?_
  refine va_iast (i := 42) (x := (-1035236496)) hx hb hK hP hD hS 1 0 rfl rfl (vp_in_nI (n := 42) (by decide) (by omega)) dX4_init_260 (fun H locs hP hD hS => ?_)
  rw [show Int32.toNatClampNeg 42 = 42 from nI_clamp (n := 42) (by omega)] at hP hD
  have hP : va_P D vwCl [(zm, .inr (4, [.int 0, .null, .null, .null, .null, .null, .int 0, .null, .null, .null, .int 0, .null, .int 0, .int 0, .null, .null, .null, .int 0, .int 0, .int 0, .null, .int 0])), (q7, .inl (cI, 64, .inl (upd (sm_ap (fun _ => 0) 0 sm_K 42) 42 (-1035236496))))] H := hP
  have hD : va_D A [(zm, .inr (4, [.int 0, .null, .null, .null, .null, .null, .int 0, .null, .null, .null, .int 0, .null, .int 0, .int 0, .null, .null, .null, .int 0, .int 0, .int 0, .null, .int 0])), (q7, .inl (cI, 64, .inl (upd (sm_ap (fun _ => 0) 0 sm_K 42) 42 (-1035236496))))] := hD
  rw [show upd (sm_ap (fun _ => 0) 0 sm_K 42) 42 (-1035236496) = sm_ap (fun _ => 0) 0 sm_K 43 from sm_ap_s0 (fun _ => 0) sm_K 42] at hP hD
  have hP : va_P D vwCl [(zm, .inr (4, [.int 0, .null, .null, .null, .null, .null, .int 0, .null, .null, .null, .int 0, .null, .int 0, .int 0, .null, .null, .null, .int 0, .int 0, .int 0, .null, .int 0])), (q7, .inl (cI, 64, .inl (sm_ap (fun _ => 0) 0 sm_K 43)))] H := hP
  have hD : va_D A [(zm, .inr (4, [.int 0, .null, .null, .null, .null, .null, .int 0, .null, .null, .null, .int 0, .null, .int 0, .int 0, .null, .null, .null, .int 0, .int 0, .int 0, .null, .int 0])), (q7, .inl (cI, 64, .inl (sm_ap (fun _ => 0) 0 sm_K 43)))] := hD
  refine lv_dup hx hb dX4_init_261 rfl ?_
  refine lv_bipush (v := 43) hx hb dX4_init_262 (by decide) ?_
  refine lv_ldc hx hb hown (hts (.constant RX4 50 (-949202525)) (by decide +kernel)) dX4_init_264 ?_
  refine va_iast (i := 43) (x := (-949202525)) hx hb hK hP hD hS 1 0 rfl rfl (vp_in_nI (n := 43) (by decide) (by omega)) dX4_init_266 (fun H locs hP hD hS => ?_)
  rw [show Int32.toNatClampNeg 43 = 43 from nI_clamp (n := 43) (by omega)] at hP hD
  have hP : va_P D vwCl [(zm, .inr (4, [.int 0, .null, .null, .null, .null, .null, .int 0, .null, .null, .null, .int 0, .null, .int 0, .int 0, .null, .null, .null, .int 0, .int 0, .int 0, .null, .int 0])), (q7, .inl (cI, 64, .inl (upd (sm_ap (fun _ => 0) 0 sm_K 43) 43 (-949202525))))] H := hP
  have hD : va_D A [(zm, .inr (4, [.int 0, .null, .null, .null, .null, .null, .int 0, .null, .null, .null, .int 0, .null, .int 0, .int 0, .null, .null, .null, .int 0, .int 0, .int 0, .null, .int 0])), (q7, .inl (cI, 64, .inl (upd (sm_ap (fun _ => 0) 0 sm_K 43) 43 (-949202525))))] := hD
  rw [show upd (sm_ap (fun _ => 0) 0 sm_K 43) 43 (-949202525) = sm_ap (fun _ => 0) 0 sm_K 44 from sm_ap_s0 (fun _ => 0) sm_K 43] at hP hD
  have hP : va_P D vwCl [(zm, .inr (4, [.int 0, .null, .null, .null, .null, .null, .int 0, .null, .null, .null, .int 0, .null, .int 0, .int 0, .null, .null, .null, .int 0, .int 0, .int 0, .null, .int 0])), (q7, .inl (cI, 64, .inl (sm_ap (fun _ => 0) 0 sm_K 44)))] H := hP
  have hD : va_D A [(zm, .inr (4, [.int 0, .null, .null, .null, .null, .null, .int 0, .null, .null, .null, .int 0, .null, .int 0, .int 0, .null, .null, .null, .int 0, .int 0, .int 0, .null, .int 0])), (q7, .inl (cI, 64, .inl (sm_ap (fun _ => 0) 0 sm_K 44)))] := hD
  refine lv_dup hx hb dX4_init_267 rfl ?_
  refine lv_bipush (v := 44) hx hb dX4_init_268 (by decide) ?_
  refine lv_ldc hx hb hown (hts (.constant RX4 51 (-778901479)) (by decide +kernel)) dX4_init_270 ?_
  refine va_iast (i := 44) (x := (-778901479)) hx hb hK hP hD hS 1 0 rfl rfl (vp_in_nI (n := 44) (by decide) (by omega)) dX4_init_272 (fun H locs hP hD hS => ?_)
  rw [show Int32.toNatClampNeg 44 = 44 from nI_clamp (n := 44) (by omega)] at hP hD
  have hP : va_P D vwCl [(zm, .inr (4, [.int 0, .null, .null, .null, .null, .null, .int 0, .null, .null, .null, .int 0, .null, .int 0, .int 0, .null, .null, .null, .int 0, .int 0, .int 0, .null, .int 0])), (q7, .inl (cI, 64, .inl (upd (sm_ap (fun _ => 0) 0 sm_K 44) 44 (-778901479))))] H := hP
  have hD : va_D A [(zm, .inr (4, [.int 0, .null, .null, .null, .null, .null, .int 0, .null, .null, .null, .int 0, .null, .int 0, .int 0, .null, .null, .null, .int 0, .int 0, .int 0, .null, .int 0])), (q7, .inl (cI, 64, .inl (upd (sm_ap (fun _ => 0) 0 sm_K 44) 44 (-778901479))))] := hD
  rw [show upd (sm_ap (fun _ => 0) 0 sm_K 44) 44 (-778901479) = sm_ap (fun _ => 0) 0 sm_K 45 from sm_ap_s0 (fun _ => 0) sm_K 44] at hP hD
  have hP : va_P D vwCl [(zm, .inr (4, [.int 0, .null, .null, .null, .null, .null, .int 0, .null, .null, .null, .int 0, .null, .int 0, .int 0, .null, .null, .null, .int 0, .int 0, .int 0, .null, .int 0])), (q7, .inl (cI, 64, .inl (sm_ap (fun _ => 0) 0 sm_K 45)))] H := hP
  have hD : va_D A [(zm, .inr (4, [.int 0, .null, .null, .null, .null, .null, .int 0, .null, .null, .null, .int 0, .null, .int 0, .int 0, .null, .null, .null, .int 0, .int 0, .int 0, .null, .int 0])), (q7, .inl (cI, 64, .inl (sm_ap (fun _ => 0) 0 sm_K 45)))] := hD
  refine lv_dup hx hb dX4_init_273 rfl ?_
  refine lv_bipush (v := 45) hx hb dX4_init_274 (by decide) ?_
  refine lv_ldc hx hb hown (hts (.constant RX4 52 (-694614492)) (by decide +kernel)) dX4_init_276 ?_
  refine va_iast (i := 45) (x := (-694614492)) hx hb hK hP hD hS 1 0 rfl rfl (vp_in_nI (n := 45) (by decide) (by omega)) dX4_init_278 (fun H locs hP hD hS => ?_)
  rw [show Int32.toNatClampNeg 45 = 45 from nI_clamp (n := 45) (by omega)] at hP hD
  have hP : va_P D vwCl [(zm, .inr (4, [.int 0, .null, .null, .null, .null, .null, .int 0, .null, .null, .null, .int 0, .null, .int 0, .int 0, .null, .null, .null, .int 0, .int 0, .int 0, .null, .int 0])), (q7, .inl (cI, 64, .inl (upd (sm_ap (fun _ => 0) 0 sm_K 45) 45 (-694614492))))] H := hP
  have hD : va_D A [(zm, .inr (4, [.int 0, .null, .null, .null, .null, .null, .int 0, .null, .null, .null, .int 0, .null, .int 0, .int 0, .null, .null, .null, .int 0, .int 0, .int 0, .null, .int 0])), (q7, .inl (cI, 64, .inl (upd (sm_ap (fun _ => 0) 0 sm_K 45) 45 (-694614492))))] := hD
  rw [show upd (sm_ap (fun _ => 0) 0 sm_K 45) 45 (-694614492) = sm_ap (fun _ => 0) 0 sm_K 46 from sm_ap_s0 (fun _ => 0) sm_K 45] at hP hD
  have hP : va_P D vwCl [(zm, .inr (4, [.int 0, .null, .null, .null, .null, .null, .int 0, .null, .null, .null, .int 0, .null, .int 0, .int 0, .null, .null, .null, .int 0, .int 0, .int 0, .null, .int 0])), (q7, .inl (cI, 64, .inl (sm_ap (fun _ => 0) 0 sm_K 46)))] H := hP
  have hD : va_D A [(zm, .inr (4, [.int 0, .null, .null, .null, .null, .null, .int 0, .null, .null, .null, .int 0, .null, .int 0, .int 0, .null, .null, .null, .int 0, .int 0, .int 0, .null, .int 0])), (q7, .inl (cI, 64, .inl (sm_ap (fun _ => 0) 0 sm_K 46)))] := hD
  refine lv_dup hx hb dX4_init_279 rfl ?_
  refine lv_bipush (v := 46) hx hb dX4_init_280 (by decide) ?_
  refine lv_ldc hx hb hown (hts (.constant RX4 53 (-200395387)) (by decide +kernel)) dX4_init_282 ?_
  refine va_iast (i := 46) (x := (-200395387)) hx hb hK hP hD hS 1 0 rfl rfl (vp_in_nI (n := 46) (by decide) (by omega)) dX4_init_284 (fun H locs hP hD hS => ?_)
  rw [show Int32.toNatClampNeg 46 = 46 from nI_clamp (n := 46) (by omega)] at hP hD
  have hP : va_P D vwCl [(zm, .inr (4, [.int 0, .null, .null, .null, .null, .null, .int 0, .null, .null, .null, .int 0, .null, .int 0, .int 0, .null, .null, .null, .int 0, .int 0, .int 0, .null, .int 0])), (q7, .inl (cI, 64, .inl (upd (sm_ap (fun _ => 0) 0 sm_K 46) 46 (-200395387))))] H := hP
  have hD : va_D A [(zm, .inr (4, [.int 0, .null, .null, .null, .null, .null, .int 0, .null, .null, .null, .int 0, .null, .int 0, .int 0, .null, .null, .null, .int 0, .int 0, .int 0, .null, .int 0])), (q7, .inl (cI, 64, .inl (upd (sm_ap (fun _ => 0) 0 sm_K 46) 46 (-200395387))))] := hD
  rw [show upd (sm_ap (fun _ => 0) 0 sm_K 46) 46 (-200395387) = sm_ap (fun _ => 0) 0 sm_K 47 from sm_ap_s0 (fun _ => 0) sm_K 46] at hP hD
  have hP : va_P D vwCl [(zm, .inr (4, [.int 0, .null, .null, .null, .null, .null, .int 0, .null, .null, .null, .int 0, .null, .int 0, .int 0, .null, .null, .null, .int 0, .int 0, .int 0, .null, .int 0])), (q7, .inl (cI, 64, .inl (sm_ap (fun _ => 0) 0 sm_K 47)))] H := hP
  have hD : va_D A [(zm, .inr (4, [.int 0, .null, .null, .null, .null, .null, .int 0, .null, .null, .null, .int 0, .null, .int 0, .int 0, .null, .null, .null, .int 0, .int 0, .int 0, .null, .int 0])), (q7, .inl (cI, 64, .inl (sm_ap (fun _ => 0) 0 sm_K 47)))] := hD
  refine lv_dup hx hb dX4_init_285 rfl ?_
  refine lv_bipush (v := 47) hx hb dX4_init_286 (by decide) ?_
  refine lv_ldc hx hb hown (hts (.constant RX4 54 (275423344)) (by decide +kernel)) dX4_init_288 ?_
  refine va_iast (i := 47) (x := 275423344) hx hb hK hP hD hS 1 0 rfl rfl (vp_in_nI (n := 47) (by decide) (by omega)) dX4_init_290 (fun H locs hP hD hS => ?_)
  rw [show Int32.toNatClampNeg 47 = 47 from nI_clamp (n := 47) (by omega)] at hP hD
  have hP : va_P D vwCl [(zm, .inr (4, [.int 0, .null, .null, .null, .null, .null, .int 0, .null, .null, .null, .int 0, .null, .int 0, .int 0, .null, .null, .null, .int 0, .int 0, .int 0, .null, .int 0])), (q7, .inl (cI, 64, .inl (upd (sm_ap (fun _ => 0) 0 sm_K 47) 47 275423344)))] H := hP
  have hD : va_D A [(zm, .inr (4, [.int 0, .null, .null, .null, .null, .null, .int 0, .null, .null, .null, .int 0, .null, .int 0, .int 0, .null, .null, .null, .int 0, .int 0, .int 0, .null, .int 0])), (q7, .inl (cI, 64, .inl (upd (sm_ap (fun _ => 0) 0 sm_K 47) 47 275423344)))] := hD
  rw [show upd (sm_ap (fun _ => 0) 0 sm_K 47) 47 275423344 = sm_ap (fun _ => 0) 0 sm_K 48 from sm_ap_s0 (fun _ => 0) sm_K 47] at hP hD
  have hP : va_P D vwCl [(zm, .inr (4, [.int 0, .null, .null, .null, .null, .null, .int 0, .null, .null, .null, .int 0, .null, .int 0, .int 0, .null, .null, .null, .int 0, .int 0, .int 0, .null, .int 0])), (q7, .inl (cI, 64, .inl (sm_ap (fun _ => 0) 0 sm_K 48)))] H := hP
  have hD : va_D A [(zm, .inr (4, [.int 0, .null, .null, .null, .null, .null, .int 0, .null, .null, .null, .int 0, .null, .int 0, .int 0, .null, .null, .null, .int 0, .int 0, .int 0, .null, .int 0])), (q7, .inl (cI, 64, .inl (sm_ap (fun _ => 0) 0 sm_K 48)))] := hD
  refine lv_dup hx hb dX4_init_291 rfl ?_
  refine lv_bipush (v := 48) hx hb dX4_init_292 (by decide) ?_
  refine lv_ldc hx hb hown (hts (.constant RX4 55 (430227734)) (by decide +kernel)) dX4_init_294 ?_
  refine va_iast (i := 48) (x := 430227734) hx hb hK hP hD hS 1 0 rfl rfl (vp_in_nI (n := 48) (by decide) (by omega)) dX4_init_296 (fun H locs hP hD hS => ?_)
  rw [show Int32.toNatClampNeg 48 = 48 from nI_clamp (n := 48) (by omega)] at hP hD
  have hP : va_P D vwCl [(zm, .inr (4, [.int 0, .null, .null, .null, .null, .null, .int 0, .null, .null, .null, .int 0, .null, .int 0, .int 0, .null, .null, .null, .int 0, .int 0, .int 0, .null, .int 0])), (q7, .inl (cI, 64, .inl (upd (sm_ap (fun _ => 0) 0 sm_K 48) 48 430227734)))] H := hP
  have hD : va_D A [(zm, .inr (4, [.int 0, .null, .null, .null, .null, .null, .int 0, .null, .null, .null, .int 0, .null, .int 0, .int 0, .null, .null, .null, .int 0, .int 0, .int 0, .null, .int 0])), (q7, .inl (cI, 64, .inl (upd (sm_ap (fun _ => 0) 0 sm_K 48) 48 430227734)))] := hD
  rw [show upd (sm_ap (fun _ => 0) 0 sm_K 48) 48 430227734 = sm_ap (fun _ => 0) 0 sm_K 49 from sm_ap_s0 (fun _ => 0) sm_K 48] at hP hD
  have hP : va_P D vwCl [(zm, .inr (4, [.int 0, .null, .null, .null, .null, .null, .int 0, .null, .null, .null, .int 0, .null, .int 0, .int 0, .null, .null, .null, .int 0, .int 0, .int 0, .null, .int 0])), (q7, .inl (cI, 64, .inl (sm_ap (fun _ => 0) 0 sm_K 49)))] H := hP
  have hD : va_D A [(zm, .inr (4, [.int 0, .null, .null, .null, .null, .null, .int 0, .null, .null, .null, .int 0, .null, .int 0, .int 0, .null, .null, .null, .int 0, .int 0, .int 0, .null, .int 0])), (q7, .inl (cI, 64, .inl (sm_ap (fun _ => 0) 0 sm_K 49)))] := hD
  refine lv_dup hx hb dX4_init_297 rfl ?_
  refine lv_bipush (v := 49) hx hb dX4_init_298 (by decide) ?_
  refine lv_ldc hx hb hown (hts (.constant RX4 56 (506948616)) (by decide +kernel)) dX4_init_300 ?_
  refine va_iast (i := 49) (x := 506948616) hx hb hK hP hD hS 1 0 rfl rfl (vp_in_nI (n := 49) (by decide) (by omega)) dX4_init_302 (fun H locs hP hD hS => ?_)
  rw [show Int32.toNatClampNeg 49 = 49 from nI_clamp (n := 49) (by omega)] at hP hD
  have hP : va_P D vwCl [(zm, .inr (4, [.int 0, .null, .null, .null, .null, .null, .int 0, .null, .null, .null, .int 0, .null, .int 0, .int 0, .null, .null, .null, .int 0, .int 0, .int 0, .null, .int 0])), (q7, .inl (cI, 64, .inl (upd (sm_ap (fun _ => 0) 0 sm_K 49) 49 506948616)))] H := hP
  have hD : va_D A [(zm, .inr (4, [.int 0, .null, .null, .null, .null, .null, .int 0, .null, .null, .null, .int 0, .null, .int 0, .int 0, .null, .null, .null, .int 0, .int 0, .int 0, .null, .int 0])), (q7, .inl (cI, 64, .inl (upd (sm_ap (fun _ => 0) 0 sm_K 49) 49 506948616)))] := hD
  rw [show upd (sm_ap (fun _ => 0) 0 sm_K 49) 49 506948616 = sm_ap (fun _ => 0) 0 sm_K 50 from sm_ap_s0 (fun _ => 0) sm_K 49] at hP hD
  have hP : va_P D vwCl [(zm, .inr (4, [.int 0, .null, .null, .null, .null, .null, .int 0, .null, .null, .null, .int 0, .null, .int 0, .int 0, .null, .null, .null, .int 0, .int 0, .int 0, .null, .int 0])), (q7, .inl (cI, 64, .inl (sm_ap (fun _ => 0) 0 sm_K 50)))] H := hP
  have hD : va_D A [(zm, .inr (4, [.int 0, .null, .null, .null, .null, .null, .int 0, .null, .null, .null, .int 0, .null, .int 0, .int 0, .null, .null, .null, .int 0, .int 0, .int 0, .null, .int 0])), (q7, .inl (cI, 64, .inl (sm_ap (fun _ => 0) 0 sm_K 50)))] := hD
  refine lv_dup hx hb dX4_init_303 rfl ?_
  refine lv_bipush (v := 50) hx hb dX4_init_304 (by decide) ?_
  refine lv_ldc hx hb hown (hts (.constant RX4 57 (659060556)) (by decide +kernel)) dX4_init_306 ?_
  refine va_iast (i := 50) (x := 659060556) hx hb hK hP hD hS 1 0 rfl rfl (vp_in_nI (n := 50) (by decide) (by omega)) dX4_init_308 (fun H locs hP hD hS => ?_)
  rw [show Int32.toNatClampNeg 50 = 50 from nI_clamp (n := 50) (by omega)] at hP hD
  have hP : va_P D vwCl [(zm, .inr (4, [.int 0, .null, .null, .null, .null, .null, .int 0, .null, .null, .null, .int 0, .null, .int 0, .int 0, .null, .null, .null, .int 0, .int 0, .int 0, .null, .int 0])), (q7, .inl (cI, 64, .inl (upd (sm_ap (fun _ => 0) 0 sm_K 50) 50 659060556)))] H := hP
  have hD : va_D A [(zm, .inr (4, [.int 0, .null, .null, .null, .null, .null, .int 0, .null, .null, .null, .int 0, .null, .int 0, .int 0, .null, .null, .null, .int 0, .int 0, .int 0, .null, .int 0])), (q7, .inl (cI, 64, .inl (upd (sm_ap (fun _ => 0) 0 sm_K 50) 50 659060556)))] := hD
  rw [show upd (sm_ap (fun _ => 0) 0 sm_K 50) 50 659060556 = sm_ap (fun _ => 0) 0 sm_K 51 from sm_ap_s0 (fun _ => 0) sm_K 50] at hP hD
  have hP : va_P D vwCl [(zm, .inr (4, [.int 0, .null, .null, .null, .null, .null, .int 0, .null, .null, .null, .int 0, .null, .int 0, .int 0, .null, .null, .null, .int 0, .int 0, .int 0, .null, .int 0])), (q7, .inl (cI, 64, .inl (sm_ap (fun _ => 0) 0 sm_K 51)))] H := hP
  have hD : va_D A [(zm, .inr (4, [.int 0, .null, .null, .null, .null, .null, .int 0, .null, .null, .null, .int 0, .null, .int 0, .int 0, .null, .null, .null, .int 0, .int 0, .int 0, .null, .int 0])), (q7, .inl (cI, 64, .inl (sm_ap (fun _ => 0) 0 sm_K 51)))] := hD
  refine lv_dup hx hb dX4_init_309 rfl ?_
  refine lv_bipush (v := 51) hx hb dX4_init_310 (by decide) ?_
  refine lv_ldc hx hb hown (hts (.constant RX4 58 (883997877)) (by decide +kernel)) dX4_init_312 ?_
  refine va_iast (i := 51) (x := 883997877) hx hb hK hP hD hS 1 0 rfl rfl (vp_in_nI (n := 51) (by decide) (by omega)) dX4_init_314 (fun H locs hP hD hS => ?_)
  rw [show Int32.toNatClampNeg 51 = 51 from nI_clamp (n := 51) (by omega)] at hP hD
  have hP : va_P D vwCl [(zm, .inr (4, [.int 0, .null, .null, .null, .null, .null, .int 0, .null, .null, .null, .int 0, .null, .int 0, .int 0, .null, .null, .null, .int 0, .int 0, .int 0, .null, .int 0])), (q7, .inl (cI, 64, .inl (upd (sm_ap (fun _ => 0) 0 sm_K 51) 51 883997877)))] H := hP
  have hD : va_D A [(zm, .inr (4, [.int 0, .null, .null, .null, .null, .null, .int 0, .null, .null, .null, .int 0, .null, .int 0, .int 0, .null, .null, .null, .int 0, .int 0, .int 0, .null, .int 0])), (q7, .inl (cI, 64, .inl (upd (sm_ap (fun _ => 0) 0 sm_K 51) 51 883997877)))] := hD
  rw [show upd (sm_ap (fun _ => 0) 0 sm_K 51) 51 883997877 = sm_ap (fun _ => 0) 0 sm_K 52 from sm_ap_s0 (fun _ => 0) sm_K 51] at hP hD
  have hP : va_P D vwCl [(zm, .inr (4, [.int 0, .null, .null, .null, .null, .null, .int 0, .null, .null, .null, .int 0, .null, .int 0, .int 0, .null, .null, .null, .int 0, .int 0, .int 0, .null, .int 0])), (q7, .inl (cI, 64, .inl (sm_ap (fun _ => 0) 0 sm_K 52)))] H := hP
  have hD : va_D A [(zm, .inr (4, [.int 0, .null, .null, .null, .null, .null, .int 0, .null, .null, .null, .int 0, .null, .int 0, .int 0, .null, .null, .null, .int 0, .int 0, .int 0, .null, .int 0])), (q7, .inl (cI, 64, .inl (sm_ap (fun _ => 0) 0 sm_K 52)))] := hD
  refine lv_dup hx hb dX4_init_315 rfl ?_
  refine lv_bipush (v := 52) hx hb dX4_init_316 (by decide) ?_
  refine lv_ldc hx hb hown (hts (.constant RX4 59 (958139571)) (by decide +kernel)) dX4_init_318 ?_
  refine va_iast (i := 52) (x := 958139571) hx hb hK hP hD hS 1 0 rfl rfl (vp_in_nI (n := 52) (by decide) (by omega)) dX4_init_320 (fun H locs hP hD hS => ?_)
  rw [show Int32.toNatClampNeg 52 = 52 from nI_clamp (n := 52) (by omega)] at hP hD
  have hP : va_P D vwCl [(zm, .inr (4, [.int 0, .null, .null, .null, .null, .null, .int 0, .null, .null, .null, .int 0, .null, .int 0, .int 0, .null, .null, .null, .int 0, .int 0, .int 0, .null, .int 0])), (q7, .inl (cI, 64, .inl (upd (sm_ap (fun _ => 0) 0 sm_K 52) 52 958139571)))] H := hP
  have hD : va_D A [(zm, .inr (4, [.int 0, .null, .null, .null, .null, .null, .int 0, .null, .null, .null, .int 0, .null, .int 0, .int 0, .null, .null, .null, .int 0, .int 0, .int 0, .null, .int 0])), (q7, .inl (cI, 64, .inl (upd (sm_ap (fun _ => 0) 0 sm_K 52) 52 958139571)))] := hD
  rw [show upd (sm_ap (fun _ => 0) 0 sm_K 52) 52 958139571 = sm_ap (fun _ => 0) 0 sm_K 53 from sm_ap_s0 (fun _ => 0) sm_K 52] at hP hD
  have hP : va_P D vwCl [(zm, .inr (4, [.int 0, .null, .null, .null, .null, .null, .int 0, .null, .null, .null, .int 0, .null, .int 0, .int 0, .null, .null, .null, .int 0, .int 0, .int 0, .null, .int 0])), (q7, .inl (cI, 64, .inl (sm_ap (fun _ => 0) 0 sm_K 53)))] H := hP
  have hD : va_D A [(zm, .inr (4, [.int 0, .null, .null, .null, .null, .null, .int 0, .null, .null, .null, .int 0, .null, .int 0, .int 0, .null, .null, .null, .int 0, .int 0, .int 0, .null, .int 0])), (q7, .inl (cI, 64, .inl (sm_ap (fun _ => 0) 0 sm_K 53)))] := hD
  refine lv_dup hx hb dX4_init_321 rfl ?_
  refine lv_bipush (v := 53) hx hb dX4_init_322 (by decide) ?_
  refine lv_ldc hx hb hown (hts (.constant RX4 60 (1322822218)) (by decide +kernel)) dX4_init_324 ?_
  refine va_iast (i := 53) (x := 1322822218) hx hb hK hP hD hS 1 0 rfl rfl (vp_in_nI (n := 53) (by decide) (by omega)) dX4_init_326 (fun H locs hP hD hS => ?_)
  rw [show Int32.toNatClampNeg 53 = 53 from nI_clamp (n := 53) (by omega)] at hP hD
  have hP : va_P D vwCl [(zm, .inr (4, [.int 0, .null, .null, .null, .null, .null, .int 0, .null, .null, .null, .int 0, .null, .int 0, .int 0, .null, .null, .null, .int 0, .int 0, .int 0, .null, .int 0])), (q7, .inl (cI, 64, .inl (upd (sm_ap (fun _ => 0) 0 sm_K 53) 53 1322822218)))] H := hP
  have hD : va_D A [(zm, .inr (4, [.int 0, .null, .null, .null, .null, .null, .int 0, .null, .null, .null, .int 0, .null, .int 0, .int 0, .null, .null, .null, .int 0, .int 0, .int 0, .null, .int 0])), (q7, .inl (cI, 64, .inl (upd (sm_ap (fun _ => 0) 0 sm_K 53) 53 1322822218)))] := hD
  rw [show upd (sm_ap (fun _ => 0) 0 sm_K 53) 53 1322822218 = sm_ap (fun _ => 0) 0 sm_K 54 from sm_ap_s0 (fun _ => 0) sm_K 53] at hP hD
  have hP : va_P D vwCl [(zm, .inr (4, [.int 0, .null, .null, .null, .null, .null, .int 0, .null, .null, .null, .int 0, .null, .int 0, .int 0, .null, .null, .null, .int 0, .int 0, .int 0, .null, .int 0])), (q7, .inl (cI, 64, .inl (sm_ap (fun _ => 0) 0 sm_K 54)))] H := hP
  have hD : va_D A [(zm, .inr (4, [.int 0, .null, .null, .null, .null, .null, .int 0, .null, .null, .null, .int 0, .null, .int 0, .int 0, .null, .null, .null, .int 0, .int 0, .int 0, .null, .int 0])), (q7, .inl (cI, 64, .inl (sm_ap (fun _ => 0) 0 sm_K 54)))] := hD
  refine lv_dup hx hb dX4_init_327 rfl ?_
  refine lv_bipush (v := 54) hx hb dX4_init_328 (by decide) ?_
  refine lv_ldc hx hb hown (hts (.constant RX4 61 (1537002063)) (by decide +kernel)) dX4_init_330 ?_
  refine va_iast (i := 54) (x := 1537002063) hx hb hK hP hD hS 1 0 rfl rfl (vp_in_nI (n := 54) (by decide) (by omega)) dX4_init_332 (fun H locs hP hD hS => ?_)
  rw [show Int32.toNatClampNeg 54 = 54 from nI_clamp (n := 54) (by omega)] at hP hD
  have hP : va_P D vwCl [(zm, .inr (4, [.int 0, .null, .null, .null, .null, .null, .int 0, .null, .null, .null, .int 0, .null, .int 0, .int 0, .null, .null, .null, .int 0, .int 0, .int 0, .null, .int 0])), (q7, .inl (cI, 64, .inl (upd (sm_ap (fun _ => 0) 0 sm_K 54) 54 1537002063)))] H := hP
  have hD : va_D A [(zm, .inr (4, [.int 0, .null, .null, .null, .null, .null, .int 0, .null, .null, .null, .int 0, .null, .int 0, .int 0, .null, .null, .null, .int 0, .int 0, .int 0, .null, .int 0])), (q7, .inl (cI, 64, .inl (upd (sm_ap (fun _ => 0) 0 sm_K 54) 54 1537002063)))] := hD
  rw [show upd (sm_ap (fun _ => 0) 0 sm_K 54) 54 1537002063 = sm_ap (fun _ => 0) 0 sm_K 55 from sm_ap_s0 (fun _ => 0) sm_K 54] at hP hD
  have hP : va_P D vwCl [(zm, .inr (4, [.int 0, .null, .null, .null, .null, .null, .int 0, .null, .null, .null, .int 0, .null, .int 0, .int 0, .null, .null, .null, .int 0, .int 0, .int 0, .null, .int 0])), (q7, .inl (cI, 64, .inl (sm_ap (fun _ => 0) 0 sm_K 55)))] H := hP
  have hD : va_D A [(zm, .inr (4, [.int 0, .null, .null, .null, .null, .null, .int 0, .null, .null, .null, .int 0, .null, .int 0, .int 0, .null, .null, .null, .int 0, .int 0, .int 0, .null, .int 0])), (q7, .inl (cI, 64, .inl (sm_ap (fun _ => 0) 0 sm_K 55)))] := hD
  refine lv_dup hx hb dX4_init_333 rfl ?_
  refine lv_bipush (v := 55) hx hb dX4_init_334 (by decide) ?_
  refine lv_ldc hx hb hown (hts (.constant RX4 62 (1747873779)) (by decide +kernel)) dX4_init_336 ?_
  refine va_iast (i := 55) (x := 1747873779) hx hb hK hP hD hS 1 0 rfl rfl (vp_in_nI (n := 55) (by decide) (by omega)) dX4_init_338 (fun H locs hP hD hS => ?_)
  rw [show Int32.toNatClampNeg 55 = 55 from nI_clamp (n := 55) (by omega)] at hP hD
  have hP : va_P D vwCl [(zm, .inr (4, [.int 0, .null, .null, .null, .null, .null, .int 0, .null, .null, .null, .int 0, .null, .int 0, .int 0, .null, .null, .null, .int 0, .int 0, .int 0, .null, .int 0])), (q7, .inl (cI, 64, .inl (upd (sm_ap (fun _ => 0) 0 sm_K 55) 55 1747873779)))] H := hP
  have hD : va_D A [(zm, .inr (4, [.int 0, .null, .null, .null, .null, .null, .int 0, .null, .null, .null, .int 0, .null, .int 0, .int 0, .null, .null, .null, .int 0, .int 0, .int 0, .null, .int 0])), (q7, .inl (cI, 64, .inl (upd (sm_ap (fun _ => 0) 0 sm_K 55) 55 1747873779)))] := hD
  rw [show upd (sm_ap (fun _ => 0) 0 sm_K 55) 55 1747873779 = sm_ap (fun _ => 0) 0 sm_K 56 from sm_ap_s0 (fun _ => 0) sm_K 55] at hP hD
  have hP : va_P D vwCl [(zm, .inr (4, [.int 0, .null, .null, .null, .null, .null, .int 0, .null, .null, .null, .int 0, .null, .int 0, .int 0, .null, .null, .null, .int 0, .int 0, .int 0, .null, .int 0])), (q7, .inl (cI, 64, .inl (sm_ap (fun _ => 0) 0 sm_K 56)))] H := hP
  have hD : va_D A [(zm, .inr (4, [.int 0, .null, .null, .null, .null, .null, .int 0, .null, .null, .null, .int 0, .null, .int 0, .int 0, .null, .null, .null, .int 0, .int 0, .int 0, .null, .int 0])), (q7, .inl (cI, 64, .inl (sm_ap (fun _ => 0) 0 sm_K 56)))] := hD
  refine lv_dup hx hb dX4_init_339 rfl ?_
  refine lv_bipush (v := 56) hx hb dX4_init_340 (by decide) ?_
  refine lv_ldc hx hb hown (hts (.constant RX4 63 (1955562222)) (by decide +kernel)) dX4_init_342 ?_
  refine va_iast (i := 56) (x := 1955562222) hx hb hK hP hD hS 1 0 rfl rfl (vp_in_nI (n := 56) (by decide) (by omega)) dX4_init_344 (fun H locs hP hD hS => ?_)
  rw [show Int32.toNatClampNeg 56 = 56 from nI_clamp (n := 56) (by omega)] at hP hD
  have hP : va_P D vwCl [(zm, .inr (4, [.int 0, .null, .null, .null, .null, .null, .int 0, .null, .null, .null, .int 0, .null, .int 0, .int 0, .null, .null, .null, .int 0, .int 0, .int 0, .null, .int 0])), (q7, .inl (cI, 64, .inl (upd (sm_ap (fun _ => 0) 0 sm_K 56) 56 1955562222)))] H := hP
  have hD : va_D A [(zm, .inr (4, [.int 0, .null, .null, .null, .null, .null, .int 0, .null, .null, .null, .int 0, .null, .int 0, .int 0, .null, .null, .null, .int 0, .int 0, .int 0, .null, .int 0])), (q7, .inl (cI, 64, .inl (upd (sm_ap (fun _ => 0) 0 sm_K 56) 56 1955562222)))] := hD
  rw [show upd (sm_ap (fun _ => 0) 0 sm_K 56) 56 1955562222 = sm_ap (fun _ => 0) 0 sm_K 57 from sm_ap_s0 (fun _ => 0) sm_K 56] at hP hD
  have hP : va_P D vwCl [(zm, .inr (4, [.int 0, .null, .null, .null, .null, .null, .int 0, .null, .null, .null, .int 0, .null, .int 0, .int 0, .null, .null, .null, .int 0, .int 0, .int 0, .null, .int 0])), (q7, .inl (cI, 64, .inl (sm_ap (fun _ => 0) 0 sm_K 57)))] H := hP
  have hD : va_D A [(zm, .inr (4, [.int 0, .null, .null, .null, .null, .null, .int 0, .null, .null, .null, .int 0, .null, .int 0, .int 0, .null, .null, .null, .int 0, .int 0, .int 0, .null, .int 0])), (q7, .inl (cI, 64, .inl (sm_ap (fun _ => 0) 0 sm_K 57)))] := hD
  refine lv_dup hx hb dX4_init_345 rfl ?_
  refine lv_bipush (v := 57) hx hb dX4_init_346 (by decide) ?_
  refine lv_ldc hx hb hown (hts (.constant RX4 64 (2024104815)) (by decide +kernel)) dX4_init_348 ?_
  refine va_iast (i := 57) (x := 2024104815) hx hb hK hP hD hS 1 0 rfl rfl (vp_in_nI (n := 57) (by decide) (by omega)) dX4_init_350 (fun H locs hP hD hS => ?_)
  rw [show Int32.toNatClampNeg 57 = 57 from nI_clamp (n := 57) (by omega)] at hP hD
  have hP : va_P D vwCl [(zm, .inr (4, [.int 0, .null, .null, .null, .null, .null, .int 0, .null, .null, .null, .int 0, .null, .int 0, .int 0, .null, .null, .null, .int 0, .int 0, .int 0, .null, .int 0])), (q7, .inl (cI, 64, .inl (upd (sm_ap (fun _ => 0) 0 sm_K 57) 57 2024104815)))] H := hP
  have hD : va_D A [(zm, .inr (4, [.int 0, .null, .null, .null, .null, .null, .int 0, .null, .null, .null, .int 0, .null, .int 0, .int 0, .null, .null, .null, .int 0, .int 0, .int 0, .null, .int 0])), (q7, .inl (cI, 64, .inl (upd (sm_ap (fun _ => 0) 0 sm_K 57) 57 2024104815)))] := hD
  rw [show upd (sm_ap (fun _ => 0) 0 sm_K 57) 57 2024104815 = sm_ap (fun _ => 0) 0 sm_K 58 from sm_ap_s0 (fun _ => 0) sm_K 57] at hP hD
  have hP : va_P D vwCl [(zm, .inr (4, [.int 0, .null, .null, .null, .null, .null, .int 0, .null, .null, .null, .int 0, .null, .int 0, .int 0, .null, .null, .null, .int 0, .int 0, .int 0, .null, .int 0])), (q7, .inl (cI, 64, .inl (sm_ap (fun _ => 0) 0 sm_K 58)))] H := hP
  have hD : va_D A [(zm, .inr (4, [.int 0, .null, .null, .null, .null, .null, .int 0, .null, .null, .null, .int 0, .null, .int 0, .int 0, .null, .null, .null, .int 0, .int 0, .int 0, .null, .int 0])), (q7, .inl (cI, 64, .inl (sm_ap (fun _ => 0) 0 sm_K 58)))] := hD
  refine lv_dup hx hb dX4_init_351 rfl ?_
  refine lv_bipush (v := 58) hx hb dX4_init_352 (by decide) ?_
  refine lv_ldc hx hb hown (hts (.constant RX4 65 (-2067236844)) (by decide +kernel)) dX4_init_354 ?_
  refine va_iast (i := 58) (x := (-2067236844)) hx hb hK hP hD hS 1 0 rfl rfl (vp_in_nI (n := 58) (by decide) (by omega)) dX4_init_356 (fun H locs hP hD hS => ?_)
  rw [show Int32.toNatClampNeg 58 = 58 from nI_clamp (n := 58) (by omega)] at hP hD
  have hP : va_P D vwCl [(zm, .inr (4, [.int 0, .null, .null, .null, .null, .null, .int 0, .null, .null, .null, .int 0, .null, .int 0, .int 0, .null, .null, .null, .int 0, .int 0, .int 0, .null, .int 0])), (q7, .inl (cI, 64, .inl (upd (sm_ap (fun _ => 0) 0 sm_K 58) 58 (-2067236844))))] H := hP
  have hD : va_D A [(zm, .inr (4, [.int 0, .null, .null, .null, .null, .null, .int 0, .null, .null, .null, .int 0, .null, .int 0, .int 0, .null, .null, .null, .int 0, .int 0, .int 0, .null, .int 0])), (q7, .inl (cI, 64, .inl (upd (sm_ap (fun _ => 0) 0 sm_K 58) 58 (-2067236844))))] := hD
  rw [show upd (sm_ap (fun _ => 0) 0 sm_K 58) 58 (-2067236844) = sm_ap (fun _ => 0) 0 sm_K 59 from sm_ap_s0 (fun _ => 0) sm_K 58] at hP hD
  have hP : va_P D vwCl [(zm, .inr (4, [.int 0, .null, .null, .null, .null, .null, .int 0, .null, .null, .null, .int 0, .null, .int 0, .int 0, .null, .null, .null, .int 0, .int 0, .int 0, .null, .int 0])), (q7, .inl (cI, 64, .inl (sm_ap (fun _ => 0) 0 sm_K 59)))] H := hP
  have hD : va_D A [(zm, .inr (4, [.int 0, .null, .null, .null, .null, .null, .int 0, .null, .null, .null, .int 0, .null, .int 0, .int 0, .null, .null, .null, .int 0, .int 0, .int 0, .null, .int 0])), (q7, .inl (cI, 64, .inl (sm_ap (fun _ => 0) 0 sm_K 59)))] := hD
  refine lv_dup hx hb dX4_init_357 rfl ?_
  refine lv_bipush (v := 59) hx hb dX4_init_358 (by decide) ?_
  refine lv_ldc hx hb hown (hts (.constant RX4 66 (-1933114872)) (by decide +kernel)) dX4_init_360 ?_
  refine va_iast (i := 59) (x := (-1933114872)) hx hb hK hP hD hS 1 0 rfl rfl (vp_in_nI (n := 59) (by decide) (by omega)) dX4_init_362 (fun H locs hP hD hS => ?_)
  rw [show Int32.toNatClampNeg 59 = 59 from nI_clamp (n := 59) (by omega)] at hP hD
  have hP : va_P D vwCl [(zm, .inr (4, [.int 0, .null, .null, .null, .null, .null, .int 0, .null, .null, .null, .int 0, .null, .int 0, .int 0, .null, .null, .null, .int 0, .int 0, .int 0, .null, .int 0])), (q7, .inl (cI, 64, .inl (upd (sm_ap (fun _ => 0) 0 sm_K 59) 59 (-1933114872))))] H := hP
  have hD : va_D A [(zm, .inr (4, [.int 0, .null, .null, .null, .null, .null, .int 0, .null, .null, .null, .int 0, .null, .int 0, .int 0, .null, .null, .null, .int 0, .int 0, .int 0, .null, .int 0])), (q7, .inl (cI, 64, .inl (upd (sm_ap (fun _ => 0) 0 sm_K 59) 59 (-1933114872))))] := hD
  rw [show upd (sm_ap (fun _ => 0) 0 sm_K 59) 59 (-1933114872) = sm_ap (fun _ => 0) 0 sm_K 60 from sm_ap_s0 (fun _ => 0) sm_K 59] at hP hD
  have hP : va_P D vwCl [(zm, .inr (4, [.int 0, .null, .null, .null, .null, .null, .int 0, .null, .null, .null, .int 0, .null, .int 0, .int 0, .null, .null, .null, .int 0, .int 0, .int 0, .null, .int 0])), (q7, .inl (cI, 64, .inl (sm_ap (fun _ => 0) 0 sm_K 60)))] H := hP
  have hD : va_D A [(zm, .inr (4, [.int 0, .null, .null, .null, .null, .null, .int 0, .null, .null, .null, .int 0, .null, .int 0, .int 0, .null, .null, .null, .int 0, .int 0, .int 0, .null, .int 0])), (q7, .inl (cI, 64, .inl (sm_ap (fun _ => 0) 0 sm_K 60)))] := hD
  refine lv_dup hx hb dX4_init_363 rfl ?_
  refine lv_bipush (v := 60) hx hb dX4_init_364 (by decide) ?_
  refine lv_ldc hx hb hown (hts (.constant RX4 67 (-1866530822)) (by decide +kernel)) dX4_init_366 ?_
  refine va_iast (i := 60) (x := (-1866530822)) hx hb hK hP hD hS 1 0 rfl rfl (vp_in_nI (n := 60) (by decide) (by omega)) dX4_init_368 (fun H locs hP hD hS => ?_)
  rw [show Int32.toNatClampNeg 60 = 60 from nI_clamp (n := 60) (by omega)] at hP hD
  have hP : va_P D vwCl [(zm, .inr (4, [.int 0, .null, .null, .null, .null, .null, .int 0, .null, .null, .null, .int 0, .null, .int 0, .int 0, .null, .null, .null, .int 0, .int 0, .int 0, .null, .int 0])), (q7, .inl (cI, 64, .inl (upd (sm_ap (fun _ => 0) 0 sm_K 60) 60 (-1866530822))))] H := hP
  have hD : va_D A [(zm, .inr (4, [.int 0, .null, .null, .null, .null, .null, .int 0, .null, .null, .null, .int 0, .null, .int 0, .int 0, .null, .null, .null, .int 0, .int 0, .int 0, .null, .int 0])), (q7, .inl (cI, 64, .inl (upd (sm_ap (fun _ => 0) 0 sm_K 60) 60 (-1866530822))))] := hD
  rw [show upd (sm_ap (fun _ => 0) 0 sm_K 60) 60 (-1866530822) = sm_ap (fun _ => 0) 0 sm_K 61 from sm_ap_s0 (fun _ => 0) sm_K 60] at hP hD
  have hP : va_P D vwCl [(zm, .inr (4, [.int 0, .null, .null, .null, .null, .null, .int 0, .null, .null, .null, .int 0, .null, .int 0, .int 0, .null, .null, .null, .int 0, .int 0, .int 0, .null, .int 0])), (q7, .inl (cI, 64, .inl (sm_ap (fun _ => 0) 0 sm_K 61)))] H := hP
  have hD : va_D A [(zm, .inr (4, [.int 0, .null, .null, .null, .null, .null, .int 0, .null, .null, .null, .int 0, .null, .int 0, .int 0, .null, .null, .null, .int 0, .int 0, .int 0, .null, .int 0])), (q7, .inl (cI, 64, .inl (sm_ap (fun _ => 0) 0 sm_K 61)))] := hD
  refine lv_dup hx hb dX4_init_369 rfl ?_
  refine lv_bipush (v := 61) hx hb dX4_init_370 (by decide) ?_
  refine lv_ldc hx hb hown (hts (.constant RX4 68 (-1538233109)) (by decide +kernel)) dX4_init_372 ?_
  refine va_iast (i := 61) (x := (-1538233109)) hx hb hK hP hD hS 1 0 rfl rfl (vp_in_nI (n := 61) (by decide) (by omega)) dX4_init_374 (fun H locs hP hD hS => ?_)
  rw [show Int32.toNatClampNeg 61 = 61 from nI_clamp (n := 61) (by omega)] at hP hD
  have hP : va_P D vwCl [(zm, .inr (4, [.int 0, .null, .null, .null, .null, .null, .int 0, .null, .null, .null, .int 0, .null, .int 0, .int 0, .null, .null, .null, .int 0, .int 0, .int 0, .null, .int 0])), (q7, .inl (cI, 64, .inl (upd (sm_ap (fun _ => 0) 0 sm_K 61) 61 (-1538233109))))] H := hP
  have hD : va_D A [(zm, .inr (4, [.int 0, .null, .null, .null, .null, .null, .int 0, .null, .null, .null, .int 0, .null, .int 0, .int 0, .null, .null, .null, .int 0, .int 0, .int 0, .null, .int 0])), (q7, .inl (cI, 64, .inl (upd (sm_ap (fun _ => 0) 0 sm_K 61) 61 (-1538233109))))] := hD
  rw [show upd (sm_ap (fun _ => 0) 0 sm_K 61) 61 (-1538233109) = sm_ap (fun _ => 0) 0 sm_K 62 from sm_ap_s0 (fun _ => 0) sm_K 61] at hP hD
  have hP : va_P D vwCl [(zm, .inr (4, [.int 0, .null, .null, .null, .null, .null, .int 0, .null, .null, .null, .int 0, .null, .int 0, .int 0, .null, .null, .null, .int 0, .int 0, .int 0, .null, .int 0])), (q7, .inl (cI, 64, .inl (sm_ap (fun _ => 0) 0 sm_K 62)))] H := hP
  have hD : va_D A [(zm, .inr (4, [.int 0, .null, .null, .null, .null, .null, .int 0, .null, .null, .null, .int 0, .null, .int 0, .int 0, .null, .null, .null, .int 0, .int 0, .int 0, .null, .int 0])), (q7, .inl (cI, 64, .inl (sm_ap (fun _ => 0) 0 sm_K 62)))] := hD
  refine lv_dup hx hb dX4_init_375 rfl ?_
  refine lv_bipush (v := 62) hx hb dX4_init_376 (by decide) ?_
  refine lv_ldc hx hb hown (hts (.constant RX4 69 (-1090935817)) (by decide +kernel)) dX4_init_378 ?_
  refine va_iast (i := 62) (x := (-1090935817)) hx hb hK hP hD hS 1 0 rfl rfl (vp_in_nI (n := 62) (by decide) (by omega)) dX4_init_380 (fun H locs hP hD hS => ?_)
  rw [show Int32.toNatClampNeg 62 = 62 from nI_clamp (n := 62) (by omega)] at hP hD
  have hP : va_P D vwCl [(zm, .inr (4, [.int 0, .null, .null, .null, .null, .null, .int 0, .null, .null, .null, .int 0, .null, .int 0, .int 0, .null, .null, .null, .int 0, .int 0, .int 0, .null, .int 0])), (q7, .inl (cI, 64, .inl (upd (sm_ap (fun _ => 0) 0 sm_K 62) 62 (-1090935817))))] H := hP
  have hD : va_D A [(zm, .inr (4, [.int 0, .null, .null, .null, .null, .null, .int 0, .null, .null, .null, .int 0, .null, .int 0, .int 0, .null, .null, .null, .int 0, .int 0, .int 0, .null, .int 0])), (q7, .inl (cI, 64, .inl (upd (sm_ap (fun _ => 0) 0 sm_K 62) 62 (-1090935817))))] := hD
  rw [show upd (sm_ap (fun _ => 0) 0 sm_K 62) 62 (-1090935817) = sm_ap (fun _ => 0) 0 sm_K 63 from sm_ap_s0 (fun _ => 0) sm_K 62] at hP hD
  have hP : va_P D vwCl [(zm, .inr (4, [.int 0, .null, .null, .null, .null, .null, .int 0, .null, .null, .null, .int 0, .null, .int 0, .int 0, .null, .null, .null, .int 0, .int 0, .int 0, .null, .int 0])), (q7, .inl (cI, 64, .inl (sm_ap (fun _ => 0) 0 sm_K 63)))] H := hP
  have hD : va_D A [(zm, .inr (4, [.int 0, .null, .null, .null, .null, .null, .int 0, .null, .null, .null, .int 0, .null, .int 0, .int 0, .null, .null, .null, .int 0, .int 0, .int 0, .null, .int 0])), (q7, .inl (cI, 64, .inl (sm_ap (fun _ => 0) 0 sm_K 63)))] := hD
  refine lv_dup hx hb dX4_init_381 rfl ?_
  refine lv_bipush (v := 63) hx hb dX4_init_382 (by decide) ?_
  refine lv_ldc hx hb hown (hts (.constant RX4 70 (-965641998)) (by decide +kernel)) dX4_init_384 ?_
  refine va_iast (i := 63) (x := (-965641998)) hx hb hK hP hD hS 1 0 rfl rfl (vp_in_nI (n := 63) (by decide) (by omega)) dX4_init_386 (fun H locs hP hD hS => ?_)
  rw [show Int32.toNatClampNeg 63 = 63 from nI_clamp (n := 63) (by omega)] at hP hD
  have hP : va_P D vwCl [(zm, .inr (4, [.int 0, .null, .null, .null, .null, .null, .int 0, .null, .null, .null, .int 0, .null, .int 0, .int 0, .null, .null, .null, .int 0, .int 0, .int 0, .null, .int 0])), (q7, .inl (cI, 64, .inl (upd (sm_ap (fun _ => 0) 0 sm_K 63) 63 (-965641998))))] H := hP
  have hD : va_D A [(zm, .inr (4, [.int 0, .null, .null, .null, .null, .null, .int 0, .null, .null, .null, .int 0, .null, .int 0, .int 0, .null, .null, .null, .int 0, .int 0, .int 0, .null, .int 0])), (q7, .inl (cI, 64, .inl (upd (sm_ap (fun _ => 0) 0 sm_K 63) 63 (-965641998))))] := hD
  rw [show upd (sm_ap (fun _ => 0) 0 sm_K 63) 63 (-965641998) = sm_ap (fun _ => 0) 0 sm_K 64 from sm_ap_s0 (fun _ => 0) sm_K 63] at hP hD
  have hP : va_P D vwCl [(zm, .inr (4, [.int 0, .null, .null, .null, .null, .null, .int 0, .null, .null, .null, .int 0, .null, .int 0, .int 0, .null, .null, .null, .int 0, .int 0, .int 0, .null, .int 0])), (q7, .inl (cI, 64, .inl (sm_ap (fun _ => 0) 0 sm_K 64)))] H := hP
  have hD : va_D A [(zm, .inr (4, [.int 0, .null, .null, .null, .null, .null, .int 0, .null, .null, .null, .int 0, .null, .int 0, .int 0, .null, .null, .null, .int 0, .int 0, .int 0, .null, .int 0])), (q7, .inl (cI, 64, .inl (sm_ap (fun _ => 0) 0 sm_K 64)))] := hD
  have hP := sm_arr hP 1 rfl (sm_K) (fun j hj => sm_ap_z hj)
  have hD := sm_arrD (y := .inl (cI, 64, .inl (sm_K))) hD 1 rfl
  have hP : va_P D vwCl [(zm, .inr (4, [.int 0, .null, .null, .null, .null, .null, .int 0, .null, .null, .null, .int 0, .null, .int 0, .int 0, .null, .null, .null, .int 0, .int 0, .int 0, .null, .int 0])), (q7, .inl (cI, 64, .inl sm_K))] H := hP
  have hD : va_D A [(zm, .inr (4, [.int 0, .null, .null, .null, .null, .null, .int 0, .null, .null, .null, .int 0, .null, .int 0, .int 0, .null, .null, .null, .int 0, .int 0, .int 0, .null, .int 0])), (q7, .inl (cI, 64, .inl sm_K))] := hD
  refine va_putF (D := D) (ci := 4) (v := .ref q7) (ty := .array .int) (C := RX4) (T := TX4) (N := 22) hx hb hts hw_X4 tyX4 tyX4_ok nmX4 hown hK hP hD hS 0 rfl rfl 1 (by decide) hf_71 (fun _ h9 => h9) rfl hin rfl (by decide +kernel) rfl rfl (Nat.le_of_ble_eq_true rfl) dX4_init_387 (fun H locs hP hD hS => ?_)
  have hP : va_P D vwCl [(zm, .inr (4, [.int 0, .ref q7, .null, .null, .null, .null, .int 0, .null, .null, .null, .int 0, .null, .int 0, .int 0, .null, .null, .null, .int 0, .int 0, .int 0, .null, .int 0])), (q7, .inl (cI, 64, .inl sm_K))] H := hP
  have hD : va_D A [(zm, .inr (4, [.int 0, .ref q7, .null, .null, .null, .null, .int 0, .null, .null, .null, .int 0, .null, .int 0, .int 0, .null, .null, .null, .int 0, .int 0, .int 0, .null, .int 0])), (q7, .inl (cI, 64, .inl sm_K))] := hD
  refine lv_aload_n hx hb dX4_init_390 rfl (lv_at hl 0 rfl) ?_
  refine lv_bipush (v := 8) hx hb dX4_init_391 (by decide) ?_
  refine va_newa (atype := .int) (ty := .int) (n := 8) (N' := 8) (a0 := (8, .inl (fun _ => 0))) hx hb (hts (.arrayClass .int) (by decide +kernel)) rfl hK hP hD hS hA (fun _ => rfl) (nI_pos (n := 8) (by decide)) (nI_clamp (n := 8) (by decide)) (by show 8 * 4 ≤ 536870912; omega) (by show _ ≤ 13; omega) (by show _ ≤ 1848; omega) dX4_init_393 (fun q393 cA H hK2 hP hD hS => ?_)
  have eI : cI = cA := sm_oneI hK2 (i := 0) (j := 1) rfl rfl
  subst eI
  clear hK2
  have hP : va_P D vwCl [(zm, .inr (4, [.int 0, .ref q7, .null, .null, .null, .null, .int 0, .null, .null, .null, .int 0, .null, .int 0, .int 0, .null, .null, .null, .int 0, .int 0, .int 0, .null, .int 0])), (q7, .inl (cI, 64, .inl sm_K)), (q393, .inl (cI, 8, .inl (fun _ => 0)))] H := hP
  have hD : va_D A [(zm, .inr (4, [.int 0, .ref q7, .null, .null, .null, .null, .int 0, .null, .null, .null, .int 0, .null, .int 0, .int 0, .null, .null, .null, .int 0, .int 0, .int 0, .null, .int 0])), (q7, .inl (cI, 64, .inl sm_K)), (q393, .inl (cI, 8, .inl (fun _ => 0)))] := hD
  refine lv_dup hx hb dX4_init_395 rfl ?_
  refine lv_iconst (v := 0) hx hb dX4_init_396 (by decide) ?_
  refine lv_ldc hx hb hown (hts (.constant RX4 77 (1779033703)) (by decide +kernel)) dX4_init_397 ?_
  refine va_iast (i := 0) (x := 1779033703) hx hb hK hP hD hS 2 0 rfl rfl (vp_in_nI (n := 0) (by decide) (by omega)) dX4_init_399 (fun H locs hP hD hS => ?_)
  rw [show Int32.toNatClampNeg 0 = 0 from nI_clamp (n := 0) (by omega)] at hP hD
  have hP : va_P D vwCl [(zm, .inr (4, [.int 0, .ref q7, .null, .null, .null, .null, .int 0, .null, .null, .null, .int 0, .null, .int 0, .int 0, .null, .null, .null, .int 0, .int 0, .int 0, .null, .int 0])), (q7, .inl (cI, 64, .inl sm_K)), (q393, .inl (cI, 8, .inl (upd (fun _ => 0) 0 1779033703)))] H := hP
  have hD : va_D A [(zm, .inr (4, [.int 0, .ref q7, .null, .null, .null, .null, .int 0, .null, .null, .null, .int 0, .null, .int 0, .int 0, .null, .null, .null, .int 0, .int 0, .int 0, .null, .int 0])), (q7, .inl (cI, 64, .inl sm_K)), (q393, .inl (cI, 8, .inl (upd (fun _ => 0) 0 1779033703)))] := hD
  rw [show upd (fun _ => 0) 0 1779033703 = sm_ap (fun _ => 0) 0 sm_F 1 from (congrArg (fun z => upd z 0 (sm_F 0)) (sm_ap_0 (fun _ => 0) 0 sm_F).symm).trans (sm_ap_s0 (fun _ => 0) sm_F 0)] at hP hD
  have hP : va_P D vwCl [(zm, .inr (4, [.int 0, .ref q7, .null, .null, .null, .null, .int 0, .null, .null, .null, .int 0, .null, .int 0, .int 0, .null, .null, .null, .int 0, .int 0, .int 0, .null, .int 0])), (q7, .inl (cI, 64, .inl sm_K)), (q393, .inl (cI, 8, .inl (sm_ap (fun _ => 0) 0 sm_F 1)))] H := hP
  have hD : va_D A [(zm, .inr (4, [.int 0, .ref q7, .null, .null, .null, .null, .int 0, .null, .null, .null, .int 0, .null, .int 0, .int 0, .null, .null, .null, .int 0, .int 0, .int 0, .null, .int 0])), (q7, .inl (cI, 64, .inl sm_K)), (q393, .inl (cI, 8, .inl (sm_ap (fun _ => 0) 0 sm_F 1)))] := hD
  refine lv_dup hx hb dX4_init_400 rfl ?_
  refine lv_iconst (v := 1) hx hb dX4_init_401 (by decide) ?_
  refine lv_ldc hx hb hown (hts (.constant RX4 78 (-1150833019)) (by decide +kernel)) dX4_init_402 ?_
  refine va_iast (i := 1) (x := (-1150833019)) hx hb hK hP hD hS 2 0 rfl rfl (vp_in_nI (n := 1) (by decide) (by omega)) dX4_init_404 (fun H locs hP hD hS => ?_)
  rw [show Int32.toNatClampNeg 1 = 1 from nI_clamp (n := 1) (by omega)] at hP hD
  have hP : va_P D vwCl [(zm, .inr (4, [.int 0, .ref q7, .null, .null, .null, .null, .int 0, .null, .null, .null, .int 0, .null, .int 0, .int 0, .null, .null, .null, .int 0, .int 0, .int 0, .null, .int 0])), (q7, .inl (cI, 64, .inl sm_K)), (q393, .inl (cI, 8, .inl (upd (sm_ap (fun _ => 0) 0 sm_F 1) 1 (-1150833019))))] H := hP
  have hD : va_D A [(zm, .inr (4, [.int 0, .ref q7, .null, .null, .null, .null, .int 0, .null, .null, .null, .int 0, .null, .int 0, .int 0, .null, .null, .null, .int 0, .int 0, .int 0, .null, .int 0])), (q7, .inl (cI, 64, .inl sm_K)), (q393, .inl (cI, 8, .inl (upd (sm_ap (fun _ => 0) 0 sm_F 1) 1 (-1150833019))))] := hD
  rw [show upd (sm_ap (fun _ => 0) 0 sm_F 1) 1 (-1150833019) = sm_ap (fun _ => 0) 0 sm_F 2 from sm_ap_s0 (fun _ => 0) sm_F 1] at hP hD
  have hP : va_P D vwCl [(zm, .inr (4, [.int 0, .ref q7, .null, .null, .null, .null, .int 0, .null, .null, .null, .int 0, .null, .int 0, .int 0, .null, .null, .null, .int 0, .int 0, .int 0, .null, .int 0])), (q7, .inl (cI, 64, .inl sm_K)), (q393, .inl (cI, 8, .inl (sm_ap (fun _ => 0) 0 sm_F 2)))] H := hP
  have hD : va_D A [(zm, .inr (4, [.int 0, .ref q7, .null, .null, .null, .null, .int 0, .null, .null, .null, .int 0, .null, .int 0, .int 0, .null, .null, .null, .int 0, .int 0, .int 0, .null, .int 0])), (q7, .inl (cI, 64, .inl sm_K)), (q393, .inl (cI, 8, .inl (sm_ap (fun _ => 0) 0 sm_F 2)))] := hD
  refine lv_dup hx hb dX4_init_405 rfl ?_
  refine lv_iconst (v := 2) hx hb dX4_init_406 (by decide) ?_
  refine lv_ldc hx hb hown (hts (.constant RX4 79 (1013904242)) (by decide +kernel)) dX4_init_407 ?_
  refine va_iast (i := 2) (x := 1013904242) hx hb hK hP hD hS 2 0 rfl rfl (vp_in_nI (n := 2) (by decide) (by omega)) dX4_init_409 (fun H locs hP hD hS => ?_)
  rw [show Int32.toNatClampNeg 2 = 2 from nI_clamp (n := 2) (by omega)] at hP hD
  have hP : va_P D vwCl [(zm, .inr (4, [.int 0, .ref q7, .null, .null, .null, .null, .int 0, .null, .null, .null, .int 0, .null, .int 0, .int 0, .null, .null, .null, .int 0, .int 0, .int 0, .null, .int 0])), (q7, .inl (cI, 64, .inl sm_K)), (q393, .inl (cI, 8, .inl (upd (sm_ap (fun _ => 0) 0 sm_F 2) 2 1013904242)))] H := hP
  have hD : va_D A [(zm, .inr (4, [.int 0, .ref q7, .null, .null, .null, .null, .int 0, .null, .null, .null, .int 0, .null, .int 0, .int 0, .null, .null, .null, .int 0, .int 0, .int 0, .null, .int 0])), (q7, .inl (cI, 64, .inl sm_K)), (q393, .inl (cI, 8, .inl (upd (sm_ap (fun _ => 0) 0 sm_F 2) 2 1013904242)))] := hD
  rw [show upd (sm_ap (fun _ => 0) 0 sm_F 2) 2 1013904242 = sm_ap (fun _ => 0) 0 sm_F 3 from sm_ap_s0 (fun _ => 0) sm_F 2] at hP hD
  have hP : va_P D vwCl [(zm, .inr (4, [.int 0, .ref q7, .null, .null, .null, .null, .int 0, .null, .null, .null, .int 0, .null, .int 0, .int 0, .null, .null, .null, .int 0, .int 0, .int 0, .null, .int 0])), (q7, .inl (cI, 64, .inl sm_K)), (q393, .inl (cI, 8, .inl (sm_ap (fun _ => 0) 0 sm_F 3)))] H := hP
  have hD : va_D A [(zm, .inr (4, [.int 0, .ref q7, .null, .null, .null, .null, .int 0, .null, .null, .null, .int 0, .null, .int 0, .int 0, .null, .null, .null, .int 0, .int 0, .int 0, .null, .int 0])), (q7, .inl (cI, 64, .inl sm_K)), (q393, .inl (cI, 8, .inl (sm_ap (fun _ => 0) 0 sm_F 3)))] := hD
  refine lv_dup hx hb dX4_init_410 rfl ?_
  refine lv_iconst (v := 3) hx hb dX4_init_411 (by decide) ?_
  refine lv_ldc hx hb hown (hts (.constant RX4 80 (-1521486534)) (by decide +kernel)) dX4_init_412 ?_
  refine va_iast (i := 3) (x := (-1521486534)) hx hb hK hP hD hS 2 0 rfl rfl (vp_in_nI (n := 3) (by decide) (by omega)) dX4_init_414 (fun H locs hP hD hS => ?_)
  rw [show Int32.toNatClampNeg 3 = 3 from nI_clamp (n := 3) (by omega)] at hP hD
  have hP : va_P D vwCl [(zm, .inr (4, [.int 0, .ref q7, .null, .null, .null, .null, .int 0, .null, .null, .null, .int 0, .null, .int 0, .int 0, .null, .null, .null, .int 0, .int 0, .int 0, .null, .int 0])), (q7, .inl (cI, 64, .inl sm_K)), (q393, .inl (cI, 8, .inl (upd (sm_ap (fun _ => 0) 0 sm_F 3) 3 (-1521486534))))] H := hP
  have hD : va_D A [(zm, .inr (4, [.int 0, .ref q7, .null, .null, .null, .null, .int 0, .null, .null, .null, .int 0, .null, .int 0, .int 0, .null, .null, .null, .int 0, .int 0, .int 0, .null, .int 0])), (q7, .inl (cI, 64, .inl sm_K)), (q393, .inl (cI, 8, .inl (upd (sm_ap (fun _ => 0) 0 sm_F 3) 3 (-1521486534))))] := hD
  rw [show upd (sm_ap (fun _ => 0) 0 sm_F 3) 3 (-1521486534) = sm_ap (fun _ => 0) 0 sm_F 4 from sm_ap_s0 (fun _ => 0) sm_F 3] at hP hD
  have hP : va_P D vwCl [(zm, .inr (4, [.int 0, .ref q7, .null, .null, .null, .null, .int 0, .null, .null, .null, .int 0, .null, .int 0, .int 0, .null, .null, .null, .int 0, .int 0, .int 0, .null, .int 0])), (q7, .inl (cI, 64, .inl sm_K)), (q393, .inl (cI, 8, .inl (sm_ap (fun _ => 0) 0 sm_F 4)))] H := hP
  have hD : va_D A [(zm, .inr (4, [.int 0, .ref q7, .null, .null, .null, .null, .int 0, .null, .null, .null, .int 0, .null, .int 0, .int 0, .null, .null, .null, .int 0, .int 0, .int 0, .null, .int 0])), (q7, .inl (cI, 64, .inl sm_K)), (q393, .inl (cI, 8, .inl (sm_ap (fun _ => 0) 0 sm_F 4)))] := hD
  refine lv_dup hx hb dX4_init_415 rfl ?_
  refine lv_iconst (v := 4) hx hb dX4_init_416 (by decide) ?_
  refine lv_ldc hx hb hown (hts (.constant RX4 81 (1359893119)) (by decide +kernel)) dX4_init_417 ?_
  refine va_iast (i := 4) (x := 1359893119) hx hb hK hP hD hS 2 0 rfl rfl (vp_in_nI (n := 4) (by decide) (by omega)) dX4_init_419 (fun H locs hP hD hS => ?_)
  rw [show Int32.toNatClampNeg 4 = 4 from nI_clamp (n := 4) (by omega)] at hP hD
  have hP : va_P D vwCl [(zm, .inr (4, [.int 0, .ref q7, .null, .null, .null, .null, .int 0, .null, .null, .null, .int 0, .null, .int 0, .int 0, .null, .null, .null, .int 0, .int 0, .int 0, .null, .int 0])), (q7, .inl (cI, 64, .inl sm_K)), (q393, .inl (cI, 8, .inl (upd (sm_ap (fun _ => 0) 0 sm_F 4) 4 1359893119)))] H := hP
  have hD : va_D A [(zm, .inr (4, [.int 0, .ref q7, .null, .null, .null, .null, .int 0, .null, .null, .null, .int 0, .null, .int 0, .int 0, .null, .null, .null, .int 0, .int 0, .int 0, .null, .int 0])), (q7, .inl (cI, 64, .inl sm_K)), (q393, .inl (cI, 8, .inl (upd (sm_ap (fun _ => 0) 0 sm_F 4) 4 1359893119)))] := hD
  rw [show upd (sm_ap (fun _ => 0) 0 sm_F 4) 4 1359893119 = sm_ap (fun _ => 0) 0 sm_F 5 from sm_ap_s0 (fun _ => 0) sm_F 4] at hP hD
  have hP : va_P D vwCl [(zm, .inr (4, [.int 0, .ref q7, .null, .null, .null, .null, .int 0, .null, .null, .null, .int 0, .null, .int 0, .int 0, .null, .null, .null, .int 0, .int 0, .int 0, .null, .int 0])), (q7, .inl (cI, 64, .inl sm_K)), (q393, .inl (cI, 8, .inl (sm_ap (fun _ => 0) 0 sm_F 5)))] H := hP
  have hD : va_D A [(zm, .inr (4, [.int 0, .ref q7, .null, .null, .null, .null, .int 0, .null, .null, .null, .int 0, .null, .int 0, .int 0, .null, .null, .null, .int 0, .int 0, .int 0, .null, .int 0])), (q7, .inl (cI, 64, .inl sm_K)), (q393, .inl (cI, 8, .inl (sm_ap (fun _ => 0) 0 sm_F 5)))] := hD
  refine lv_dup hx hb dX4_init_420 rfl ?_
  refine lv_iconst (v := 5) hx hb dX4_init_421 (by decide) ?_
  refine lv_ldc hx hb hown (hts (.constant RX4 82 (-1694144372)) (by decide +kernel)) dX4_init_422 ?_
  refine va_iast (i := 5) (x := (-1694144372)) hx hb hK hP hD hS 2 0 rfl rfl (vp_in_nI (n := 5) (by decide) (by omega)) dX4_init_424 (fun H locs hP hD hS => ?_)
  rw [show Int32.toNatClampNeg 5 = 5 from nI_clamp (n := 5) (by omega)] at hP hD
  have hP : va_P D vwCl [(zm, .inr (4, [.int 0, .ref q7, .null, .null, .null, .null, .int 0, .null, .null, .null, .int 0, .null, .int 0, .int 0, .null, .null, .null, .int 0, .int 0, .int 0, .null, .int 0])), (q7, .inl (cI, 64, .inl sm_K)), (q393, .inl (cI, 8, .inl (upd (sm_ap (fun _ => 0) 0 sm_F 5) 5 (-1694144372))))] H := hP
  have hD : va_D A [(zm, .inr (4, [.int 0, .ref q7, .null, .null, .null, .null, .int 0, .null, .null, .null, .int 0, .null, .int 0, .int 0, .null, .null, .null, .int 0, .int 0, .int 0, .null, .int 0])), (q7, .inl (cI, 64, .inl sm_K)), (q393, .inl (cI, 8, .inl (upd (sm_ap (fun _ => 0) 0 sm_F 5) 5 (-1694144372))))] := hD
  rw [show upd (sm_ap (fun _ => 0) 0 sm_F 5) 5 (-1694144372) = sm_ap (fun _ => 0) 0 sm_F 6 from sm_ap_s0 (fun _ => 0) sm_F 5] at hP hD
  have hP : va_P D vwCl [(zm, .inr (4, [.int 0, .ref q7, .null, .null, .null, .null, .int 0, .null, .null, .null, .int 0, .null, .int 0, .int 0, .null, .null, .null, .int 0, .int 0, .int 0, .null, .int 0])), (q7, .inl (cI, 64, .inl sm_K)), (q393, .inl (cI, 8, .inl (sm_ap (fun _ => 0) 0 sm_F 6)))] H := hP
  have hD : va_D A [(zm, .inr (4, [.int 0, .ref q7, .null, .null, .null, .null, .int 0, .null, .null, .null, .int 0, .null, .int 0, .int 0, .null, .null, .null, .int 0, .int 0, .int 0, .null, .int 0])), (q7, .inl (cI, 64, .inl sm_K)), (q393, .inl (cI, 8, .inl (sm_ap (fun _ => 0) 0 sm_F 6)))] := hD
  refine lv_dup hx hb dX4_init_425 rfl ?_
  refine lv_bipush (v := 6) hx hb dX4_init_426 (by decide) ?_
  refine lv_ldc hx hb hown (hts (.constant RX4 83 (528734635)) (by decide +kernel)) dX4_init_428 ?_
  refine va_iast (i := 6) (x := 528734635) hx hb hK hP hD hS 2 0 rfl rfl (vp_in_nI (n := 6) (by decide) (by omega)) dX4_init_430 (fun H locs hP hD hS => ?_)
  rw [show Int32.toNatClampNeg 6 = 6 from nI_clamp (n := 6) (by omega)] at hP hD
  have hP : va_P D vwCl [(zm, .inr (4, [.int 0, .ref q7, .null, .null, .null, .null, .int 0, .null, .null, .null, .int 0, .null, .int 0, .int 0, .null, .null, .null, .int 0, .int 0, .int 0, .null, .int 0])), (q7, .inl (cI, 64, .inl sm_K)), (q393, .inl (cI, 8, .inl (upd (sm_ap (fun _ => 0) 0 sm_F 6) 6 528734635)))] H := hP
  have hD : va_D A [(zm, .inr (4, [.int 0, .ref q7, .null, .null, .null, .null, .int 0, .null, .null, .null, .int 0, .null, .int 0, .int 0, .null, .null, .null, .int 0, .int 0, .int 0, .null, .int 0])), (q7, .inl (cI, 64, .inl sm_K)), (q393, .inl (cI, 8, .inl (upd (sm_ap (fun _ => 0) 0 sm_F 6) 6 528734635)))] := hD
  rw [show upd (sm_ap (fun _ => 0) 0 sm_F 6) 6 528734635 = sm_ap (fun _ => 0) 0 sm_F 7 from sm_ap_s0 (fun _ => 0) sm_F 6] at hP hD
  have hP : va_P D vwCl [(zm, .inr (4, [.int 0, .ref q7, .null, .null, .null, .null, .int 0, .null, .null, .null, .int 0, .null, .int 0, .int 0, .null, .null, .null, .int 0, .int 0, .int 0, .null, .int 0])), (q7, .inl (cI, 64, .inl sm_K)), (q393, .inl (cI, 8, .inl (sm_ap (fun _ => 0) 0 sm_F 7)))] H := hP
  have hD : va_D A [(zm, .inr (4, [.int 0, .ref q7, .null, .null, .null, .null, .int 0, .null, .null, .null, .int 0, .null, .int 0, .int 0, .null, .null, .null, .int 0, .int 0, .int 0, .null, .int 0])), (q7, .inl (cI, 64, .inl sm_K)), (q393, .inl (cI, 8, .inl (sm_ap (fun _ => 0) 0 sm_F 7)))] := hD
  refine lv_dup hx hb dX4_init_431 rfl ?_
  refine lv_bipush (v := 7) hx hb dX4_init_432 (by decide) ?_
  refine lv_ldc hx hb hown (hts (.constant RX4 84 (1541459225)) (by decide +kernel)) dX4_init_434 ?_
  refine va_iast (i := 7) (x := 1541459225) hx hb hK hP hD hS 2 0 rfl rfl (vp_in_nI (n := 7) (by decide) (by omega)) dX4_init_436 (fun H locs hP hD hS => ?_)
  rw [show Int32.toNatClampNeg 7 = 7 from nI_clamp (n := 7) (by omega)] at hP hD
  have hP : va_P D vwCl [(zm, .inr (4, [.int 0, .ref q7, .null, .null, .null, .null, .int 0, .null, .null, .null, .int 0, .null, .int 0, .int 0, .null, .null, .null, .int 0, .int 0, .int 0, .null, .int 0])), (q7, .inl (cI, 64, .inl sm_K)), (q393, .inl (cI, 8, .inl (upd (sm_ap (fun _ => 0) 0 sm_F 7) 7 1541459225)))] H := hP
  have hD : va_D A [(zm, .inr (4, [.int 0, .ref q7, .null, .null, .null, .null, .int 0, .null, .null, .null, .int 0, .null, .int 0, .int 0, .null, .null, .null, .int 0, .int 0, .int 0, .null, .int 0])), (q7, .inl (cI, 64, .inl sm_K)), (q393, .inl (cI, 8, .inl (upd (sm_ap (fun _ => 0) 0 sm_F 7) 7 1541459225)))] := hD
  rw [show upd (sm_ap (fun _ => 0) 0 sm_F 7) 7 1541459225 = sm_ap (fun _ => 0) 0 sm_F 8 from sm_ap_s0 (fun _ => 0) sm_F 7] at hP hD
  have hP : va_P D vwCl [(zm, .inr (4, [.int 0, .ref q7, .null, .null, .null, .null, .int 0, .null, .null, .null, .int 0, .null, .int 0, .int 0, .null, .null, .null, .int 0, .int 0, .int 0, .null, .int 0])), (q7, .inl (cI, 64, .inl sm_K)), (q393, .inl (cI, 8, .inl (sm_ap (fun _ => 0) 0 sm_F 8)))] H := hP
  have hD : va_D A [(zm, .inr (4, [.int 0, .ref q7, .null, .null, .null, .null, .int 0, .null, .null, .null, .int 0, .null, .int 0, .int 0, .null, .null, .null, .int 0, .int 0, .int 0, .null, .int 0])), (q7, .inl (cI, 64, .inl sm_K)), (q393, .inl (cI, 8, .inl (sm_ap (fun _ => 0) 0 sm_F 8)))] := hD
  have hP := sm_arr hP 2 rfl (sm_F) (fun j hj => sm_ap_z hj)
  have hD := sm_arrD (y := .inl (cI, 8, .inl (sm_F))) hD 2 rfl
  have hP : va_P D vwCl [(zm, .inr (4, [.int 0, .ref q7, .null, .null, .null, .null, .int 0, .null, .null, .null, .int 0, .null, .int 0, .int 0, .null, .null, .null, .int 0, .int 0, .int 0, .null, .int 0])), (q7, .inl (cI, 64, .inl sm_K)), (q393, .inl (cI, 8, .inl sm_F))] H := hP
  have hD : va_D A [(zm, .inr (4, [.int 0, .ref q7, .null, .null, .null, .null, .int 0, .null, .null, .null, .int 0, .null, .int 0, .int 0, .null, .null, .null, .int 0, .int 0, .int 0, .null, .int 0])), (q7, .inl (cI, 64, .inl sm_K)), (q393, .inl (cI, 8, .inl sm_F))] := hD
  refine va_putF (D := D) (ci := 4) (v := .ref q393) (ty := .array .int) (C := RX4) (T := TX4) (N := 22) hx hb hts hw_X4 tyX4 tyX4_ok nmX4 hown hK hP hD hS 0 rfl rfl 2 (by decide) hf_85 (fun _ h9 => h9) rfl hin rfl (by decide +kernel) rfl rfl (Nat.le_of_ble_eq_true rfl) dX4_init_437 (fun H locs hP hD hS => ?_)
  have hP : va_P D vwCl [(zm, .inr (4, [.int 0, .ref q7, .ref q393, .null, .null, .null, .int 0, .null, .null, .null, .int 0, .null, .int 0, .int 0, .null, .null, .null, .int 0, .int 0, .int 0, .null, .int 0])), (q7, .inl (cI, 64, .inl sm_K)), (q393, .inl (cI, 8, .inl sm_F))] H := hP
  have hD : va_D A [(zm, .inr (4, [.int 0, .ref q7, .ref q393, .null, .null, .null, .int 0, .null, .null, .null, .int 0, .null, .int 0, .int 0, .null, .null, .null, .int 0, .int 0, .int 0, .null, .int 0])), (q7, .inl (cI, 64, .inl sm_K)), (q393, .inl (cI, 8, .inl sm_F))] := hD
  refine lv_aload_n hx hb dX4_init_440 rfl (lv_at hl 0 rfl) ?_
  refine lv_bipush (v := 8) hx hb dX4_init_441 (by decide) ?_
  refine va_newa (atype := .int) (ty := .int) (n := 8) (N' := 8) (a0 := (8, .inl (fun _ => 0))) hx hb (hts (.arrayClass .int) (by decide +kernel)) rfl hK hP hD hS hA (fun _ => rfl) (nI_pos (n := 8) (by decide)) (nI_clamp (n := 8) (by decide)) (by show 8 * 4 ≤ 536870912; omega) (by show _ ≤ 13; omega) (by show _ ≤ 1848; omega) dX4_init_443 (fun q443 cA H hK2 hP hD hS => ?_)
  have eI : cI = cA := sm_oneI hK2 (i := 0) (j := 1) rfl rfl
  subst eI
  clear hK2
  have hP : va_P D vwCl [(zm, .inr (4, [.int 0, .ref q7, .ref q393, .null, .null, .null, .int 0, .null, .null, .null, .int 0, .null, .int 0, .int 0, .null, .null, .null, .int 0, .int 0, .int 0, .null, .int 0])), (q7, .inl (cI, 64, .inl sm_K)), (q393, .inl (cI, 8, .inl sm_F)), (q443, .inl (cI, 8, .inl (fun _ => 0)))] H := hP
  have hD : va_D A [(zm, .inr (4, [.int 0, .ref q7, .ref q393, .null, .null, .null, .int 0, .null, .null, .null, .int 0, .null, .int 0, .int 0, .null, .null, .null, .int 0, .int 0, .int 0, .null, .int 0])), (q7, .inl (cI, 64, .inl sm_K)), (q393, .inl (cI, 8, .inl sm_F)), (q443, .inl (cI, 8, .inl (fun _ => 0)))] := hD
  refine va_putF (D := D) (ci := 4) (v := .ref q443) (ty := .array .int) (C := RX4) (T := TX4) (N := 22) hx hb hts hw_X4 tyX4 tyX4_ok nmX4 hown hK hP hD hS 0 rfl rfl 3 (by decide) hf_88 (fun _ h9 => h9) rfl hin rfl (by decide +kernel) rfl rfl (Nat.le_of_ble_eq_true rfl) dX4_init_445 (fun H locs hP hD hS => ?_)
  have hP : va_P D vwCl [(zm, .inr (4, [.int 0, .ref q7, .ref q393, .ref q443, .null, .null, .int 0, .null, .null, .null, .int 0, .null, .int 0, .int 0, .null, .null, .null, .int 0, .int 0, .int 0, .null, .int 0])), (q7, .inl (cI, 64, .inl sm_K)), (q393, .inl (cI, 8, .inl sm_F)), (q443, .inl (cI, 8, .inl (fun _ => 0)))] H := hP
  have hD : va_D A [(zm, .inr (4, [.int 0, .ref q7, .ref q393, .ref q443, .null, .null, .int 0, .null, .null, .null, .int 0, .null, .int 0, .int 0, .null, .null, .null, .int 0, .int 0, .int 0, .null, .int 0])), (q7, .inl (cI, 64, .inl sm_K)), (q393, .inl (cI, 8, .inl sm_F)), (q443, .inl (cI, 8, .inl (fun _ => 0)))] := hD
  refine lv_aload_n hx hb dX4_init_448 rfl (lv_at hl 0 rfl) ?_
  refine lv_bipush (v := 64) hx hb dX4_init_449 (by decide) ?_
  refine va_newa (atype := .int) (ty := .int) (n := 64) (N' := 64) (a0 := (64, .inl (fun _ => 0))) hx hb (hts (.arrayClass .int) (by decide +kernel)) rfl hK hP hD hS hA (fun _ => rfl) (nI_pos (n := 64) (by decide)) (nI_clamp (n := 64) (by decide)) (by show 64 * 4 ≤ 536870912; omega) (by show _ ≤ 13; omega) (by show _ ≤ 1848; omega) dX4_init_451 (fun q451 cA H hK2 hP hD hS => ?_)
  have eI : cI = cA := sm_oneI hK2 (i := 0) (j := 1) rfl rfl
  subst eI
  clear hK2
  have hP : va_P D vwCl [(zm, .inr (4, [.int 0, .ref q7, .ref q393, .ref q443, .null, .null, .int 0, .null, .null, .null, .int 0, .null, .int 0, .int 0, .null, .null, .null, .int 0, .int 0, .int 0, .null, .int 0])), (q7, .inl (cI, 64, .inl sm_K)), (q393, .inl (cI, 8, .inl sm_F)), (q443, .inl (cI, 8, .inl (fun _ => 0))), (q451, .inl (cI, 64, .inl (fun _ => 0)))] H := hP
  have hD : va_D A [(zm, .inr (4, [.int 0, .ref q7, .ref q393, .ref q443, .null, .null, .int 0, .null, .null, .null, .int 0, .null, .int 0, .int 0, .null, .null, .null, .int 0, .int 0, .int 0, .null, .int 0])), (q7, .inl (cI, 64, .inl sm_K)), (q393, .inl (cI, 8, .inl sm_F)), (q443, .inl (cI, 8, .inl (fun _ => 0))), (q451, .inl (cI, 64, .inl (fun _ => 0)))] := hD
  refine va_putF (D := D) (ci := 4) (v := .ref q451) (ty := .array .int) (C := RX4) (T := TX4) (N := 22) hx hb hts hw_X4 tyX4 tyX4_ok nmX4 hown hK hP hD hS 0 rfl rfl 4 (by decide) hf_91 (fun _ h9 => h9) rfl hin rfl (by decide +kernel) rfl rfl (Nat.le_of_ble_eq_true rfl) dX4_init_453 (fun H locs hP hD hS => ?_)
  have hP : va_P D vwCl [(zm, .inr (4, [.int 0, .ref q7, .ref q393, .ref q443, .ref q451, .null, .int 0, .null, .null, .null, .int 0, .null, .int 0, .int 0, .null, .null, .null, .int 0, .int 0, .int 0, .null, .int 0])), (q7, .inl (cI, 64, .inl sm_K)), (q393, .inl (cI, 8, .inl sm_F)), (q443, .inl (cI, 8, .inl (fun _ => 0))), (q451, .inl (cI, 64, .inl (fun _ => 0)))] H := hP
  have hD : va_D A [(zm, .inr (4, [.int 0, .ref q7, .ref q393, .ref q443, .ref q451, .null, .int 0, .null, .null, .null, .int 0, .null, .int 0, .int 0, .null, .null, .null, .int 0, .int 0, .int 0, .null, .int 0])), (q7, .inl (cI, 64, .inl sm_K)), (q393, .inl (cI, 8, .inl sm_F)), (q443, .inl (cI, 8, .inl (fun _ => 0))), (q451, .inl (cI, 64, .inl (fun _ => 0)))] := hD
  refine lv_aload_n hx hb dX4_init_456 rfl (lv_at hl 0 rfl) ?_
  refine lv_sipush (v := 512) hx hb dX4_init_457 (by decide) ?_
  refine va_newa (atype := .int) (ty := .int) (n := 512) (N' := 512) (a0 := (512, .inl (fun _ => 0))) hx hb (hts (.arrayClass .int) (by decide +kernel)) rfl hK hP hD hS hA (fun _ => rfl) (nI_pos (n := 512) (by decide)) (nI_clamp (n := 512) (by decide)) (by show 512 * 4 ≤ 536870912; omega) (by show _ ≤ 13; omega) (by show _ ≤ 1848; omega) dX4_init_460 (fun q460 cA H hK2 hP hD hS => ?_)
  have eI : cI = cA := sm_oneI hK2 (i := 0) (j := 1) rfl rfl
  subst eI
  clear hK2
  have hP : va_P D vwCl [(zm, .inr (4, [.int 0, .ref q7, .ref q393, .ref q443, .ref q451, .null, .int 0, .null, .null, .null, .int 0, .null, .int 0, .int 0, .null, .null, .null, .int 0, .int 0, .int 0, .null, .int 0])), (q7, .inl (cI, 64, .inl sm_K)), (q393, .inl (cI, 8, .inl sm_F)), (q443, .inl (cI, 8, .inl (fun _ => 0))), (q451, .inl (cI, 64, .inl (fun _ => 0))), (q460, .inl (cI, 512, .inl (fun _ => 0)))] H := hP
  have hD : va_D A [(zm, .inr (4, [.int 0, .ref q7, .ref q393, .ref q443, .ref q451, .null, .int 0, .null, .null, .null, .int 0, .null, .int 0, .int 0, .null, .null, .null, .int 0, .int 0, .int 0, .null, .int 0])), (q7, .inl (cI, 64, .inl sm_K)), (q393, .inl (cI, 8, .inl sm_F)), (q443, .inl (cI, 8, .inl (fun _ => 0))), (q451, .inl (cI, 64, .inl (fun _ => 0))), (q460, .inl (cI, 512, .inl (fun _ => 0)))] := hD
  refine va_putF (D := D) (ci := 4) (v := .ref q460) (ty := .array .int) (C := RX4) (T := TX4) (N := 22) hx hb hts hw_X4 tyX4 tyX4_ok nmX4 hown hK hP hD hS 0 rfl rfl 5 (by decide) hf_94 (fun _ h9 => h9) rfl hin rfl (by decide +kernel) rfl rfl (Nat.le_of_ble_eq_true rfl) dX4_init_462 (fun H locs hP hD hS => ?_)
  have hP : va_P D vwCl [(zm, .inr (4, [.int 0, .ref q7, .ref q393, .ref q443, .ref q451, .ref q460, .int 0, .null, .null, .null, .int 0, .null, .int 0, .int 0, .null, .null, .null, .int 0, .int 0, .int 0, .null, .int 0])), (q7, .inl (cI, 64, .inl sm_K)), (q393, .inl (cI, 8, .inl sm_F)), (q443, .inl (cI, 8, .inl (fun _ => 0))), (q451, .inl (cI, 64, .inl (fun _ => 0))), (q460, .inl (cI, 512, .inl (fun _ => 0)))] H := hP
  have hD : va_D A [(zm, .inr (4, [.int 0, .ref q7, .ref q393, .ref q443, .ref q451, .ref q460, .int 0, .null, .null, .null, .int 0, .null, .int 0, .int 0, .null, .null, .null, .int 0, .int 0, .int 0, .null, .int 0])), (q7, .inl (cI, 64, .inl sm_K)), (q393, .inl (cI, 8, .inl sm_F)), (q443, .inl (cI, 8, .inl (fun _ => 0))), (q451, .inl (cI, 64, .inl (fun _ => 0))), (q460, .inl (cI, 512, .inl (fun _ => 0)))] := hD
  refine lv_aload_n hx hb dX4_init_465 rfl (lv_at hl 0 rfl) ?_
  refine lv_bipush (v := 32) hx hb dX4_init_466 (by decide) ?_
  refine va_newa (atype := .int) (ty := .int) (n := 32) (N' := 32) (a0 := (32, .inl (fun _ => 0))) hx hb (hts (.arrayClass .int) (by decide +kernel)) rfl hK hP hD hS hA (fun _ => rfl) (nI_pos (n := 32) (by decide)) (nI_clamp (n := 32) (by decide)) (by show 32 * 4 ≤ 536870912; omega) (by show _ ≤ 13; omega) (by show _ ≤ 1848; omega) dX4_init_468 (fun q468 cA H hK2 hP hD hS => ?_)
  have eI : cI = cA := sm_oneI hK2 (i := 0) (j := 1) rfl rfl
  subst eI
  clear hK2
  have hP : va_P D vwCl [(zm, .inr (4, [.int 0, .ref q7, .ref q393, .ref q443, .ref q451, .ref q460, .int 0, .null, .null, .null, .int 0, .null, .int 0, .int 0, .null, .null, .null, .int 0, .int 0, .int 0, .null, .int 0])), (q7, .inl (cI, 64, .inl sm_K)), (q393, .inl (cI, 8, .inl sm_F)), (q443, .inl (cI, 8, .inl (fun _ => 0))), (q451, .inl (cI, 64, .inl (fun _ => 0))), (q460, .inl (cI, 512, .inl (fun _ => 0))), (q468, .inl (cI, 32, .inl (fun _ => 0)))] H := hP
  have hD : va_D A [(zm, .inr (4, [.int 0, .ref q7, .ref q393, .ref q443, .ref q451, .ref q460, .int 0, .null, .null, .null, .int 0, .null, .int 0, .int 0, .null, .null, .null, .int 0, .int 0, .int 0, .null, .int 0])), (q7, .inl (cI, 64, .inl sm_K)), (q393, .inl (cI, 8, .inl sm_F)), (q443, .inl (cI, 8, .inl (fun _ => 0))), (q451, .inl (cI, 64, .inl (fun _ => 0))), (q460, .inl (cI, 512, .inl (fun _ => 0))), (q468, .inl (cI, 32, .inl (fun _ => 0)))] := hD
  refine va_putF (D := D) (ci := 4) (v := .ref q468) (ty := .array .int) (C := RX4) (T := TX4) (N := 22) hx hb hts hw_X4 tyX4 tyX4_ok nmX4 hown hK hP hD hS 0 rfl rfl 7 (by decide) hf_97 (fun _ h9 => h9) rfl hin rfl (by decide +kernel) rfl rfl (Nat.le_of_ble_eq_true rfl) dX4_init_470 (fun H locs hP hD hS => ?_)
  have hP : va_P D vwCl [(zm, .inr (4, [.int 0, .ref q7, .ref q393, .ref q443, .ref q451, .ref q460, .int 0, .ref q468, .null, .null, .int 0, .null, .int 0, .int 0, .null, .null, .null, .int 0, .int 0, .int 0, .null, .int 0])), (q7, .inl (cI, 64, .inl sm_K)), (q393, .inl (cI, 8, .inl sm_F)), (q443, .inl (cI, 8, .inl (fun _ => 0))), (q451, .inl (cI, 64, .inl (fun _ => 0))), (q460, .inl (cI, 512, .inl (fun _ => 0))), (q468, .inl (cI, 32, .inl (fun _ => 0)))] H := hP
  have hD : va_D A [(zm, .inr (4, [.int 0, .ref q7, .ref q393, .ref q443, .ref q451, .ref q460, .int 0, .ref q468, .null, .null, .int 0, .null, .int 0, .int 0, .null, .null, .null, .int 0, .int 0, .int 0, .null, .int 0])), (q7, .inl (cI, 64, .inl sm_K)), (q393, .inl (cI, 8, .inl sm_F)), (q443, .inl (cI, 8, .inl (fun _ => 0))), (q451, .inl (cI, 64, .inl (fun _ => 0))), (q460, .inl (cI, 512, .inl (fun _ => 0))), (q468, .inl (cI, 32, .inl (fun _ => 0)))] := hD
  refine lv_aload_n hx hb dX4_init_473 rfl (lv_at hl 0 rfl) ?_
  refine lv_bipush (v := 64) hx hb dX4_init_474 (by decide) ?_
  refine va_newa (atype := .int) (ty := .int) (n := 64) (N' := 64) (a0 := (64, .inl (fun _ => 0))) hx hb (hts (.arrayClass .int) (by decide +kernel)) rfl hK hP hD hS hA (fun _ => rfl) (nI_pos (n := 64) (by decide)) (nI_clamp (n := 64) (by decide)) (by show 64 * 4 ≤ 536870912; omega) (by show _ ≤ 13; omega) (by show _ ≤ 1848; omega) dX4_init_476 (fun q476 cA H hK2 hP hD hS => ?_)
  have eI : cI = cA := sm_oneI hK2 (i := 0) (j := 1) rfl rfl
  subst eI
  clear hK2
  have hP : va_P D vwCl [(zm, .inr (4, [.int 0, .ref q7, .ref q393, .ref q443, .ref q451, .ref q460, .int 0, .ref q468, .null, .null, .int 0, .null, .int 0, .int 0, .null, .null, .null, .int 0, .int 0, .int 0, .null, .int 0])), (q7, .inl (cI, 64, .inl sm_K)), (q393, .inl (cI, 8, .inl sm_F)), (q443, .inl (cI, 8, .inl (fun _ => 0))), (q451, .inl (cI, 64, .inl (fun _ => 0))), (q460, .inl (cI, 512, .inl (fun _ => 0))), (q468, .inl (cI, 32, .inl (fun _ => 0))), (q476, .inl (cI, 64, .inl (fun _ => 0)))] H := hP
  have hD : va_D A [(zm, .inr (4, [.int 0, .ref q7, .ref q393, .ref q443, .ref q451, .ref q460, .int 0, .ref q468, .null, .null, .int 0, .null, .int 0, .int 0, .null, .null, .null, .int 0, .int 0, .int 0, .null, .int 0])), (q7, .inl (cI, 64, .inl sm_K)), (q393, .inl (cI, 8, .inl sm_F)), (q443, .inl (cI, 8, .inl (fun _ => 0))), (q451, .inl (cI, 64, .inl (fun _ => 0))), (q460, .inl (cI, 512, .inl (fun _ => 0))), (q468, .inl (cI, 32, .inl (fun _ => 0))), (q476, .inl (cI, 64, .inl (fun _ => 0)))] := hD
  refine va_putF (D := D) (ci := 4) (v := .ref q476) (ty := .array .int) (C := RX4) (T := TX4) (N := 22) hx hb hts hw_X4 tyX4 tyX4_ok nmX4 hown hK hP hD hS 0 rfl rfl 8 (by decide) hf_100 (fun _ h9 => h9) rfl hin rfl (by decide +kernel) rfl rfl (Nat.le_of_ble_eq_true rfl) dX4_init_478 (fun H locs hP hD hS => ?_)
  have hP : va_P D vwCl [(zm, .inr (4, [.int 0, .ref q7, .ref q393, .ref q443, .ref q451, .ref q460, .int 0, .ref q468, .ref q476, .null, .int 0, .null, .int 0, .int 0, .null, .null, .null, .int 0, .int 0, .int 0, .null, .int 0])), (q7, .inl (cI, 64, .inl sm_K)), (q393, .inl (cI, 8, .inl sm_F)), (q443, .inl (cI, 8, .inl (fun _ => 0))), (q451, .inl (cI, 64, .inl (fun _ => 0))), (q460, .inl (cI, 512, .inl (fun _ => 0))), (q468, .inl (cI, 32, .inl (fun _ => 0))), (q476, .inl (cI, 64, .inl (fun _ => 0)))] H := hP
  have hD : va_D A [(zm, .inr (4, [.int 0, .ref q7, .ref q393, .ref q443, .ref q451, .ref q460, .int 0, .ref q468, .ref q476, .null, .int 0, .null, .int 0, .int 0, .null, .null, .null, .int 0, .int 0, .int 0, .null, .int 0])), (q7, .inl (cI, 64, .inl sm_K)), (q393, .inl (cI, 8, .inl sm_F)), (q443, .inl (cI, 8, .inl (fun _ => 0))), (q451, .inl (cI, 64, .inl (fun _ => 0))), (q460, .inl (cI, 512, .inl (fun _ => 0))), (q468, .inl (cI, 32, .inl (fun _ => 0))), (q476, .inl (cI, 64, .inl (fun _ => 0)))] := hD
  refine lv_aload_n hx hb dX4_init_481 rfl (lv_at hl 0 rfl) ?_
  refine lv_sipush (v := 300) hx hb dX4_init_482 (by decide) ?_
  refine va_newa (atype := .int) (ty := .int) (n := 300) (N' := 300) (a0 := (300, .inl (fun _ => 0))) hx hb (hts (.arrayClass .int) (by decide +kernel)) rfl hK hP hD hS hA (fun _ => rfl) (nI_pos (n := 300) (by decide)) (nI_clamp (n := 300) (by decide)) (by show 300 * 4 ≤ 536870912; omega) (by show _ ≤ 13; omega) (by show _ ≤ 1848; omega) dX4_init_485 (fun q485 cA H hK2 hP hD hS => ?_)
  have eI : cI = cA := sm_oneI hK2 (i := 0) (j := 1) rfl rfl
  subst eI
  clear hK2
  have hP : va_P D vwCl [(zm, .inr (4, [.int 0, .ref q7, .ref q393, .ref q443, .ref q451, .ref q460, .int 0, .ref q468, .ref q476, .null, .int 0, .null, .int 0, .int 0, .null, .null, .null, .int 0, .int 0, .int 0, .null, .int 0])), (q7, .inl (cI, 64, .inl sm_K)), (q393, .inl (cI, 8, .inl sm_F)), (q443, .inl (cI, 8, .inl (fun _ => 0))), (q451, .inl (cI, 64, .inl (fun _ => 0))), (q460, .inl (cI, 512, .inl (fun _ => 0))), (q468, .inl (cI, 32, .inl (fun _ => 0))), (q476, .inl (cI, 64, .inl (fun _ => 0))), (q485, .inl (cI, 300, .inl (fun _ => 0)))] H := hP
  have hD : va_D A [(zm, .inr (4, [.int 0, .ref q7, .ref q393, .ref q443, .ref q451, .ref q460, .int 0, .ref q468, .ref q476, .null, .int 0, .null, .int 0, .int 0, .null, .null, .null, .int 0, .int 0, .int 0, .null, .int 0])), (q7, .inl (cI, 64, .inl sm_K)), (q393, .inl (cI, 8, .inl sm_F)), (q443, .inl (cI, 8, .inl (fun _ => 0))), (q451, .inl (cI, 64, .inl (fun _ => 0))), (q460, .inl (cI, 512, .inl (fun _ => 0))), (q468, .inl (cI, 32, .inl (fun _ => 0))), (q476, .inl (cI, 64, .inl (fun _ => 0))), (q485, .inl (cI, 300, .inl (fun _ => 0)))] := hD
  refine va_putF (D := D) (ci := 4) (v := .ref q485) (ty := .array .int) (C := RX4) (T := TX4) (N := 22) hx hb hts hw_X4 tyX4 tyX4_ok nmX4 hown hK hP hD hS 0 rfl rfl 9 (by decide) hf_103 (fun _ h9 => h9) rfl hin rfl (by decide +kernel) rfl rfl (Nat.le_of_ble_eq_true rfl) dX4_init_487 (fun H locs hP hD hS => ?_)
  have hP : va_P D vwCl [(zm, .inr (4, [.int 0, .ref q7, .ref q393, .ref q443, .ref q451, .ref q460, .int 0, .ref q468, .ref q476, .ref q485, .int 0, .null, .int 0, .int 0, .null, .null, .null, .int 0, .int 0, .int 0, .null, .int 0])), (q7, .inl (cI, 64, .inl sm_K)), (q393, .inl (cI, 8, .inl sm_F)), (q443, .inl (cI, 8, .inl (fun _ => 0))), (q451, .inl (cI, 64, .inl (fun _ => 0))), (q460, .inl (cI, 512, .inl (fun _ => 0))), (q468, .inl (cI, 32, .inl (fun _ => 0))), (q476, .inl (cI, 64, .inl (fun _ => 0))), (q485, .inl (cI, 300, .inl (fun _ => 0)))] H := hP
  have hD : va_D A [(zm, .inr (4, [.int 0, .ref q7, .ref q393, .ref q443, .ref q451, .ref q460, .int 0, .ref q468, .ref q476, .ref q485, .int 0, .null, .int 0, .int 0, .null, .null, .null, .int 0, .int 0, .int 0, .null, .int 0])), (q7, .inl (cI, 64, .inl sm_K)), (q393, .inl (cI, 8, .inl sm_F)), (q443, .inl (cI, 8, .inl (fun _ => 0))), (q451, .inl (cI, 64, .inl (fun _ => 0))), (q460, .inl (cI, 512, .inl (fun _ => 0))), (q468, .inl (cI, 32, .inl (fun _ => 0))), (q476, .inl (cI, 64, .inl (fun _ => 0))), (q485, .inl (cI, 300, .inl (fun _ => 0)))] := hD
  refine lv_aload_n hx hb dX4_init_490 rfl (lv_at hl 0 rfl) ?_
  refine lv_sipush (v := 300) hx hb dX4_init_491 (by decide) ?_
  refine va_newa (atype := .int) (ty := .int) (n := 300) (N' := 300) (a0 := (300, .inl (fun _ => 0))) hx hb (hts (.arrayClass .int) (by decide +kernel)) rfl hK hP hD hS hA (fun _ => rfl) (nI_pos (n := 300) (by decide)) (nI_clamp (n := 300) (by decide)) (by show 300 * 4 ≤ 536870912; omega) (by show _ ≤ 13; omega) (by show _ ≤ 1848; omega) dX4_init_494 (fun q494 cA H hK2 hP hD hS => ?_)
  have eI : cI = cA := sm_oneI hK2 (i := 0) (j := 1) rfl rfl
  subst eI
  clear hK2
  have hP : va_P D vwCl [(zm, .inr (4, [.int 0, .ref q7, .ref q393, .ref q443, .ref q451, .ref q460, .int 0, .ref q468, .ref q476, .ref q485, .int 0, .null, .int 0, .int 0, .null, .null, .null, .int 0, .int 0, .int 0, .null, .int 0])), (q7, .inl (cI, 64, .inl sm_K)), (q393, .inl (cI, 8, .inl sm_F)), (q443, .inl (cI, 8, .inl (fun _ => 0))), (q451, .inl (cI, 64, .inl (fun _ => 0))), (q460, .inl (cI, 512, .inl (fun _ => 0))), (q468, .inl (cI, 32, .inl (fun _ => 0))), (q476, .inl (cI, 64, .inl (fun _ => 0))), (q485, .inl (cI, 300, .inl (fun _ => 0))), (q494, .inl (cI, 300, .inl (fun _ => 0)))] H := hP
  have hD : va_D A [(zm, .inr (4, [.int 0, .ref q7, .ref q393, .ref q443, .ref q451, .ref q460, .int 0, .ref q468, .ref q476, .ref q485, .int 0, .null, .int 0, .int 0, .null, .null, .null, .int 0, .int 0, .int 0, .null, .int 0])), (q7, .inl (cI, 64, .inl sm_K)), (q393, .inl (cI, 8, .inl sm_F)), (q443, .inl (cI, 8, .inl (fun _ => 0))), (q451, .inl (cI, 64, .inl (fun _ => 0))), (q460, .inl (cI, 512, .inl (fun _ => 0))), (q468, .inl (cI, 32, .inl (fun _ => 0))), (q476, .inl (cI, 64, .inl (fun _ => 0))), (q485, .inl (cI, 300, .inl (fun _ => 0))), (q494, .inl (cI, 300, .inl (fun _ => 0)))] := hD
  refine va_putF (D := D) (ci := 4) (v := .ref q494) (ty := .array .int) (C := RX4) (T := TX4) (N := 22) hx hb hts hw_X4 tyX4 tyX4_ok nmX4 hown hK hP hD hS 0 rfl rfl 11 (by decide) hf_106 (fun _ h9 => h9) rfl hin rfl (by decide +kernel) rfl rfl (Nat.le_of_ble_eq_true rfl) dX4_init_496 (fun H locs hP hD hS => ?_)
  have hP : va_P D vwCl [(zm, .inr (4, [.int 0, .ref q7, .ref q393, .ref q443, .ref q451, .ref q460, .int 0, .ref q468, .ref q476, .ref q485, .int 0, .ref q494, .int 0, .int 0, .null, .null, .null, .int 0, .int 0, .int 0, .null, .int 0])), (q7, .inl (cI, 64, .inl sm_K)), (q393, .inl (cI, 8, .inl sm_F)), (q443, .inl (cI, 8, .inl (fun _ => 0))), (q451, .inl (cI, 64, .inl (fun _ => 0))), (q460, .inl (cI, 512, .inl (fun _ => 0))), (q468, .inl (cI, 32, .inl (fun _ => 0))), (q476, .inl (cI, 64, .inl (fun _ => 0))), (q485, .inl (cI, 300, .inl (fun _ => 0))), (q494, .inl (cI, 300, .inl (fun _ => 0)))] H := hP
  have hD : va_D A [(zm, .inr (4, [.int 0, .ref q7, .ref q393, .ref q443, .ref q451, .ref q460, .int 0, .ref q468, .ref q476, .ref q485, .int 0, .ref q494, .int 0, .int 0, .null, .null, .null, .int 0, .int 0, .int 0, .null, .int 0])), (q7, .inl (cI, 64, .inl sm_K)), (q393, .inl (cI, 8, .inl sm_F)), (q443, .inl (cI, 8, .inl (fun _ => 0))), (q451, .inl (cI, 64, .inl (fun _ => 0))), (q460, .inl (cI, 512, .inl (fun _ => 0))), (q468, .inl (cI, 32, .inl (fun _ => 0))), (q476, .inl (cI, 64, .inl (fun _ => 0))), (q485, .inl (cI, 300, .inl (fun _ => 0))), (q494, .inl (cI, 300, .inl (fun _ => 0)))] := hD
  refine lv_aload_n hx hb dX4_init_499 rfl (lv_at hl 0 rfl) ?_
  refine lv_bipush (v := 32) hx hb dX4_init_500 (by decide) ?_
  refine va_newa (atype := .int) (ty := .int) (n := 32) (N' := 32) (a0 := (32, .inl (fun _ => 0))) hx hb (hts (.arrayClass .int) (by decide +kernel)) rfl hK hP hD hS hA (fun _ => rfl) (nI_pos (n := 32) (by decide)) (nI_clamp (n := 32) (by decide)) (by show 32 * 4 ≤ 536870912; omega) (by show _ ≤ 13; omega) (by show _ ≤ 1848; omega) dX4_init_502 (fun q502 cA H hK2 hP hD hS => ?_)
  have eI : cI = cA := sm_oneI hK2 (i := 0) (j := 1) rfl rfl
  subst eI
  clear hK2
  have hP : va_P D vwCl [(zm, .inr (4, [.int 0, .ref q7, .ref q393, .ref q443, .ref q451, .ref q460, .int 0, .ref q468, .ref q476, .ref q485, .int 0, .ref q494, .int 0, .int 0, .null, .null, .null, .int 0, .int 0, .int 0, .null, .int 0])), (q7, .inl (cI, 64, .inl sm_K)), (q393, .inl (cI, 8, .inl sm_F)), (q443, .inl (cI, 8, .inl (fun _ => 0))), (q451, .inl (cI, 64, .inl (fun _ => 0))), (q460, .inl (cI, 512, .inl (fun _ => 0))), (q468, .inl (cI, 32, .inl (fun _ => 0))), (q476, .inl (cI, 64, .inl (fun _ => 0))), (q485, .inl (cI, 300, .inl (fun _ => 0))), (q494, .inl (cI, 300, .inl (fun _ => 0))), (q502, .inl (cI, 32, .inl (fun _ => 0)))] H := hP
  have hD : va_D A [(zm, .inr (4, [.int 0, .ref q7, .ref q393, .ref q443, .ref q451, .ref q460, .int 0, .ref q468, .ref q476, .ref q485, .int 0, .ref q494, .int 0, .int 0, .null, .null, .null, .int 0, .int 0, .int 0, .null, .int 0])), (q7, .inl (cI, 64, .inl sm_K)), (q393, .inl (cI, 8, .inl sm_F)), (q443, .inl (cI, 8, .inl (fun _ => 0))), (q451, .inl (cI, 64, .inl (fun _ => 0))), (q460, .inl (cI, 512, .inl (fun _ => 0))), (q468, .inl (cI, 32, .inl (fun _ => 0))), (q476, .inl (cI, 64, .inl (fun _ => 0))), (q485, .inl (cI, 300, .inl (fun _ => 0))), (q494, .inl (cI, 300, .inl (fun _ => 0))), (q502, .inl (cI, 32, .inl (fun _ => 0)))] := hD
  refine va_putF (D := D) (ci := 4) (v := .ref q502) (ty := .array .int) (C := RX4) (T := TX4) (N := 22) hx hb hts hw_X4 tyX4 tyX4_ok nmX4 hown hK hP hD hS 0 rfl rfl 14 (by decide) hf_109 (fun _ h9 => h9) rfl hin rfl (by decide +kernel) rfl rfl (Nat.le_of_ble_eq_true rfl) dX4_init_504 (fun H locs hP hD hS => ?_)
  have hP : va_P D vwCl [(zm, .inr (4, [.int 0, .ref q7, .ref q393, .ref q443, .ref q451, .ref q460, .int 0, .ref q468, .ref q476, .ref q485, .int 0, .ref q494, .int 0, .int 0, .ref q502, .null, .null, .int 0, .int 0, .int 0, .null, .int 0])), (q7, .inl (cI, 64, .inl sm_K)), (q393, .inl (cI, 8, .inl sm_F)), (q443, .inl (cI, 8, .inl (fun _ => 0))), (q451, .inl (cI, 64, .inl (fun _ => 0))), (q460, .inl (cI, 512, .inl (fun _ => 0))), (q468, .inl (cI, 32, .inl (fun _ => 0))), (q476, .inl (cI, 64, .inl (fun _ => 0))), (q485, .inl (cI, 300, .inl (fun _ => 0))), (q494, .inl (cI, 300, .inl (fun _ => 0))), (q502, .inl (cI, 32, .inl (fun _ => 0)))] H := hP
  have hD : va_D A [(zm, .inr (4, [.int 0, .ref q7, .ref q393, .ref q443, .ref q451, .ref q460, .int 0, .ref q468, .ref q476, .ref q485, .int 0, .ref q494, .int 0, .int 0, .ref q502, .null, .null, .int 0, .int 0, .int 0, .null, .int 0])), (q7, .inl (cI, 64, .inl sm_K)), (q393, .inl (cI, 8, .inl sm_F)), (q443, .inl (cI, 8, .inl (fun _ => 0))), (q451, .inl (cI, 64, .inl (fun _ => 0))), (q460, .inl (cI, 512, .inl (fun _ => 0))), (q468, .inl (cI, 32, .inl (fun _ => 0))), (q476, .inl (cI, 64, .inl (fun _ => 0))), (q485, .inl (cI, 300, .inl (fun _ => 0))), (q494, .inl (cI, 300, .inl (fun _ => 0))), (q502, .inl (cI, 32, .inl (fun _ => 0)))] := hD
  refine lv_aload_n hx hb dX4_init_507 rfl (lv_at hl 0 rfl) ?_
  refine lv_bipush (v := 32) hx hb dX4_init_508 (by decide) ?_
  refine va_newa (atype := .int) (ty := .int) (n := 32) (N' := 32) (a0 := (32, .inl (fun _ => 0))) hx hb (hts (.arrayClass .int) (by decide +kernel)) rfl hK hP hD hS hA (fun _ => rfl) (nI_pos (n := 32) (by decide)) (nI_clamp (n := 32) (by decide)) (by show 32 * 4 ≤ 536870912; omega) (by show _ ≤ 13; omega) (by show _ ≤ 1848; omega) dX4_init_510 (fun q510 cA H hK2 hP hD hS => ?_)
  have eI : cI = cA := sm_oneI hK2 (i := 0) (j := 1) rfl rfl
  subst eI
  clear hK2
  have hP : va_P D vwCl [(zm, .inr (4, [.int 0, .ref q7, .ref q393, .ref q443, .ref q451, .ref q460, .int 0, .ref q468, .ref q476, .ref q485, .int 0, .ref q494, .int 0, .int 0, .ref q502, .null, .null, .int 0, .int 0, .int 0, .null, .int 0])), (q7, .inl (cI, 64, .inl sm_K)), (q393, .inl (cI, 8, .inl sm_F)), (q443, .inl (cI, 8, .inl (fun _ => 0))), (q451, .inl (cI, 64, .inl (fun _ => 0))), (q460, .inl (cI, 512, .inl (fun _ => 0))), (q468, .inl (cI, 32, .inl (fun _ => 0))), (q476, .inl (cI, 64, .inl (fun _ => 0))), (q485, .inl (cI, 300, .inl (fun _ => 0))), (q494, .inl (cI, 300, .inl (fun _ => 0))), (q502, .inl (cI, 32, .inl (fun _ => 0))), (q510, .inl (cI, 32, .inl (fun _ => 0)))] H := hP
  have hD : va_D A [(zm, .inr (4, [.int 0, .ref q7, .ref q393, .ref q443, .ref q451, .ref q460, .int 0, .ref q468, .ref q476, .ref q485, .int 0, .ref q494, .int 0, .int 0, .ref q502, .null, .null, .int 0, .int 0, .int 0, .null, .int 0])), (q7, .inl (cI, 64, .inl sm_K)), (q393, .inl (cI, 8, .inl sm_F)), (q443, .inl (cI, 8, .inl (fun _ => 0))), (q451, .inl (cI, 64, .inl (fun _ => 0))), (q460, .inl (cI, 512, .inl (fun _ => 0))), (q468, .inl (cI, 32, .inl (fun _ => 0))), (q476, .inl (cI, 64, .inl (fun _ => 0))), (q485, .inl (cI, 300, .inl (fun _ => 0))), (q494, .inl (cI, 300, .inl (fun _ => 0))), (q502, .inl (cI, 32, .inl (fun _ => 0))), (q510, .inl (cI, 32, .inl (fun _ => 0)))] := hD
  refine va_putF (D := D) (ci := 4) (v := .ref q510) (ty := .array .int) (C := RX4) (T := TX4) (N := 22) hx hb hts hw_X4 tyX4 tyX4_ok nmX4 hown hK hP hD hS 0 rfl rfl 15 (by decide) hf_112 (fun _ h9 => h9) rfl hin rfl (by decide +kernel) rfl rfl (Nat.le_of_ble_eq_true rfl) dX4_init_512 (fun H locs hP hD hS => ?_)
  have hP : va_P D vwCl [(zm, .inr (4, [.int 0, .ref q7, .ref q393, .ref q443, .ref q451, .ref q460, .int 0, .ref q468, .ref q476, .ref q485, .int 0, .ref q494, .int 0, .int 0, .ref q502, .ref q510, .null, .int 0, .int 0, .int 0, .null, .int 0])), (q7, .inl (cI, 64, .inl sm_K)), (q393, .inl (cI, 8, .inl sm_F)), (q443, .inl (cI, 8, .inl (fun _ => 0))), (q451, .inl (cI, 64, .inl (fun _ => 0))), (q460, .inl (cI, 512, .inl (fun _ => 0))), (q468, .inl (cI, 32, .inl (fun _ => 0))), (q476, .inl (cI, 64, .inl (fun _ => 0))), (q485, .inl (cI, 300, .inl (fun _ => 0))), (q494, .inl (cI, 300, .inl (fun _ => 0))), (q502, .inl (cI, 32, .inl (fun _ => 0))), (q510, .inl (cI, 32, .inl (fun _ => 0)))] H := hP
  have hD : va_D A [(zm, .inr (4, [.int 0, .ref q7, .ref q393, .ref q443, .ref q451, .ref q460, .int 0, .ref q468, .ref q476, .ref q485, .int 0, .ref q494, .int 0, .int 0, .ref q502, .ref q510, .null, .int 0, .int 0, .int 0, .null, .int 0])), (q7, .inl (cI, 64, .inl sm_K)), (q393, .inl (cI, 8, .inl sm_F)), (q443, .inl (cI, 8, .inl (fun _ => 0))), (q451, .inl (cI, 64, .inl (fun _ => 0))), (q460, .inl (cI, 512, .inl (fun _ => 0))), (q468, .inl (cI, 32, .inl (fun _ => 0))), (q476, .inl (cI, 64, .inl (fun _ => 0))), (q485, .inl (cI, 300, .inl (fun _ => 0))), (q494, .inl (cI, 300, .inl (fun _ => 0))), (q502, .inl (cI, 32, .inl (fun _ => 0))), (q510, .inl (cI, 32, .inl (fun _ => 0)))] := hD
  refine lv_aload_n hx hb dX4_init_515 rfl (lv_at hl 0 rfl) ?_
  refine lv_bipush (v := 32) hx hb dX4_init_516 (by decide) ?_
  refine va_newa (atype := .int) (ty := .int) (n := 32) (N' := 32) (a0 := (32, .inl (fun _ => 0))) hx hb (hts (.arrayClass .int) (by decide +kernel)) rfl hK hP hD hS hA (fun _ => rfl) (nI_pos (n := 32) (by decide)) (nI_clamp (n := 32) (by decide)) (by show 32 * 4 ≤ 536870912; omega) (by show _ ≤ 13; omega) (by show _ ≤ 1848; omega) dX4_init_518 (fun q518 cA H hK2 hP hD hS => ?_)
  have eI : cI = cA := sm_oneI hK2 (i := 0) (j := 1) rfl rfl
  subst eI
  clear hK2
  have hP : va_P D vwCl [(zm, .inr (4, [.int 0, .ref q7, .ref q393, .ref q443, .ref q451, .ref q460, .int 0, .ref q468, .ref q476, .ref q485, .int 0, .ref q494, .int 0, .int 0, .ref q502, .ref q510, .null, .int 0, .int 0, .int 0, .null, .int 0])), (q7, .inl (cI, 64, .inl sm_K)), (q393, .inl (cI, 8, .inl sm_F)), (q443, .inl (cI, 8, .inl (fun _ => 0))), (q451, .inl (cI, 64, .inl (fun _ => 0))), (q460, .inl (cI, 512, .inl (fun _ => 0))), (q468, .inl (cI, 32, .inl (fun _ => 0))), (q476, .inl (cI, 64, .inl (fun _ => 0))), (q485, .inl (cI, 300, .inl (fun _ => 0))), (q494, .inl (cI, 300, .inl (fun _ => 0))), (q502, .inl (cI, 32, .inl (fun _ => 0))), (q510, .inl (cI, 32, .inl (fun _ => 0))), (q518, .inl (cI, 32, .inl (fun _ => 0)))] H := hP
  have hD : va_D A [(zm, .inr (4, [.int 0, .ref q7, .ref q393, .ref q443, .ref q451, .ref q460, .int 0, .ref q468, .ref q476, .ref q485, .int 0, .ref q494, .int 0, .int 0, .ref q502, .ref q510, .null, .int 0, .int 0, .int 0, .null, .int 0])), (q7, .inl (cI, 64, .inl sm_K)), (q393, .inl (cI, 8, .inl sm_F)), (q443, .inl (cI, 8, .inl (fun _ => 0))), (q451, .inl (cI, 64, .inl (fun _ => 0))), (q460, .inl (cI, 512, .inl (fun _ => 0))), (q468, .inl (cI, 32, .inl (fun _ => 0))), (q476, .inl (cI, 64, .inl (fun _ => 0))), (q485, .inl (cI, 300, .inl (fun _ => 0))), (q494, .inl (cI, 300, .inl (fun _ => 0))), (q502, .inl (cI, 32, .inl (fun _ => 0))), (q510, .inl (cI, 32, .inl (fun _ => 0))), (q518, .inl (cI, 32, .inl (fun _ => 0)))] := hD
  refine va_putF (D := D) (ci := 4) (v := .ref q518) (ty := .array .int) (C := RX4) (T := TX4) (N := 22) hx hb hts hw_X4 tyX4 tyX4_ok nmX4 hown hK hP hD hS 0 rfl rfl 16 (by decide) hf_115 (fun _ h9 => h9) rfl hin rfl (by decide +kernel) rfl rfl (Nat.le_of_ble_eq_true rfl) dX4_init_520 (fun H locs hP hD hS => ?_)
  have hP : va_P D vwCl [(zm, .inr (4, [.int 0, .ref q7, .ref q393, .ref q443, .ref q451, .ref q460, .int 0, .ref q468, .ref q476, .ref q485, .int 0, .ref q494, .int 0, .int 0, .ref q502, .ref q510, .ref q518, .int 0, .int 0, .int 0, .null, .int 0])), (q7, .inl (cI, 64, .inl sm_K)), (q393, .inl (cI, 8, .inl sm_F)), (q443, .inl (cI, 8, .inl (fun _ => 0))), (q451, .inl (cI, 64, .inl (fun _ => 0))), (q460, .inl (cI, 512, .inl (fun _ => 0))), (q468, .inl (cI, 32, .inl (fun _ => 0))), (q476, .inl (cI, 64, .inl (fun _ => 0))), (q485, .inl (cI, 300, .inl (fun _ => 0))), (q494, .inl (cI, 300, .inl (fun _ => 0))), (q502, .inl (cI, 32, .inl (fun _ => 0))), (q510, .inl (cI, 32, .inl (fun _ => 0))), (q518, .inl (cI, 32, .inl (fun _ => 0)))] H := hP
  have hD : va_D A [(zm, .inr (4, [.int 0, .ref q7, .ref q393, .ref q443, .ref q451, .ref q460, .int 0, .ref q468, .ref q476, .ref q485, .int 0, .ref q494, .int 0, .int 0, .ref q502, .ref q510, .ref q518, .int 0, .int 0, .int 0, .null, .int 0])), (q7, .inl (cI, 64, .inl sm_K)), (q393, .inl (cI, 8, .inl sm_F)), (q443, .inl (cI, 8, .inl (fun _ => 0))), (q451, .inl (cI, 64, .inl (fun _ => 0))), (q460, .inl (cI, 512, .inl (fun _ => 0))), (q468, .inl (cI, 32, .inl (fun _ => 0))), (q476, .inl (cI, 64, .inl (fun _ => 0))), (q485, .inl (cI, 300, .inl (fun _ => 0))), (q494, .inl (cI, 300, .inl (fun _ => 0))), (q502, .inl (cI, 32, .inl (fun _ => 0))), (q510, .inl (cI, 32, .inl (fun _ => 0))), (q518, .inl (cI, 32, .inl (fun _ => 0)))] := hD
  refine lv_aload_n hx hb dX4_init_523 rfl (lv_at hl 0 rfl) ?_
  refine lv_bipush (v := 100) hx hb dX4_init_524 (by decide) ?_
  refine va_put (D := D) (ci := 4) (v := .int 100) (ty := .int) (C := RX4) (T := TX4) (N := 22) hx hb hts hw_X4 tyX4 tyX4_ok nmX4 hown hK hP hD hS 0 rfl rfl 18 (by decide) hf_118 (fun _ h9 => h9) rfl (by decide +kernel) rfl rfl (Nat.le_of_ble_eq_true rfl) dX4_init_526 (fun H locs hP hD hS => ?_)
  have hP : va_P D vwCl [(zm, .inr (4, [.int 0, .ref q7, .ref q393, .ref q443, .ref q451, .ref q460, .int 0, .ref q468, .ref q476, .ref q485, .int 0, .ref q494, .int 0, .int 0, .ref q502, .ref q510, .ref q518, .int 0, .int 100, .int 0, .null, .int 0])), (q7, .inl (cI, 64, .inl sm_K)), (q393, .inl (cI, 8, .inl sm_F)), (q443, .inl (cI, 8, .inl (fun _ => 0))), (q451, .inl (cI, 64, .inl (fun _ => 0))), (q460, .inl (cI, 512, .inl (fun _ => 0))), (q468, .inl (cI, 32, .inl (fun _ => 0))), (q476, .inl (cI, 64, .inl (fun _ => 0))), (q485, .inl (cI, 300, .inl (fun _ => 0))), (q494, .inl (cI, 300, .inl (fun _ => 0))), (q502, .inl (cI, 32, .inl (fun _ => 0))), (q510, .inl (cI, 32, .inl (fun _ => 0))), (q518, .inl (cI, 32, .inl (fun _ => 0)))] H := hP
  have hD : va_D A [(zm, .inr (4, [.int 0, .ref q7, .ref q393, .ref q443, .ref q451, .ref q460, .int 0, .ref q468, .ref q476, .ref q485, .int 0, .ref q494, .int 0, .int 0, .ref q502, .ref q510, .ref q518, .int 0, .int 100, .int 0, .null, .int 0])), (q7, .inl (cI, 64, .inl sm_K)), (q393, .inl (cI, 8, .inl sm_F)), (q443, .inl (cI, 8, .inl (fun _ => 0))), (q451, .inl (cI, 64, .inl (fun _ => 0))), (q460, .inl (cI, 512, .inl (fun _ => 0))), (q468, .inl (cI, 32, .inl (fun _ => 0))), (q476, .inl (cI, 64, .inl (fun _ => 0))), (q485, .inl (cI, 300, .inl (fun _ => 0))), (q494, .inl (cI, 300, .inl (fun _ => 0))), (q502, .inl (cI, 32, .inl (fun _ => 0))), (q510, .inl (cI, 32, .inl (fun _ => 0))), (q518, .inl (cI, 32, .inl (fun _ => 0)))] := hD
  refine lv_aload_n hx hb dX4_init_529 rfl (lv_at hl 0 rfl) ?_
  refine lv_sipush (v := 400) hx hb dX4_init_530 (by decide) ?_
  refine va_newa (atype := .int) (ty := .int) (n := 400) (N' := 400) (a0 := (400, .inl (fun _ => 0))) hx hb (hts (.arrayClass .int) (by decide +kernel)) rfl hK hP hD hS hA (fun _ => rfl) (nI_pos (n := 400) (by decide)) (nI_clamp (n := 400) (by decide)) (by show 400 * 4 ≤ 536870912; omega) (by show _ ≤ 13; omega) (by show _ ≤ 1848; omega) dX4_init_533 (fun q533 cA H hK2 hP hD hS => ?_)
  have eI : cI = cA := sm_oneI hK2 (i := 0) (j := 1) rfl rfl
  subst eI
  clear hK2
  have hP : va_P D vwCl [(zm, .inr (4, [.int 0, .ref q7, .ref q393, .ref q443, .ref q451, .ref q460, .int 0, .ref q468, .ref q476, .ref q485, .int 0, .ref q494, .int 0, .int 0, .ref q502, .ref q510, .ref q518, .int 0, .int 100, .int 0, .null, .int 0])), (q7, .inl (cI, 64, .inl sm_K)), (q393, .inl (cI, 8, .inl sm_F)), (q443, .inl (cI, 8, .inl (fun _ => 0))), (q451, .inl (cI, 64, .inl (fun _ => 0))), (q460, .inl (cI, 512, .inl (fun _ => 0))), (q468, .inl (cI, 32, .inl (fun _ => 0))), (q476, .inl (cI, 64, .inl (fun _ => 0))), (q485, .inl (cI, 300, .inl (fun _ => 0))), (q494, .inl (cI, 300, .inl (fun _ => 0))), (q502, .inl (cI, 32, .inl (fun _ => 0))), (q510, .inl (cI, 32, .inl (fun _ => 0))), (q518, .inl (cI, 32, .inl (fun _ => 0))), (q533, .inl (cI, 400, .inl (fun _ => 0)))] H := hP
  have hD : va_D A [(zm, .inr (4, [.int 0, .ref q7, .ref q393, .ref q443, .ref q451, .ref q460, .int 0, .ref q468, .ref q476, .ref q485, .int 0, .ref q494, .int 0, .int 0, .ref q502, .ref q510, .ref q518, .int 0, .int 100, .int 0, .null, .int 0])), (q7, .inl (cI, 64, .inl sm_K)), (q393, .inl (cI, 8, .inl sm_F)), (q443, .inl (cI, 8, .inl (fun _ => 0))), (q451, .inl (cI, 64, .inl (fun _ => 0))), (q460, .inl (cI, 512, .inl (fun _ => 0))), (q468, .inl (cI, 32, .inl (fun _ => 0))), (q476, .inl (cI, 64, .inl (fun _ => 0))), (q485, .inl (cI, 300, .inl (fun _ => 0))), (q494, .inl (cI, 300, .inl (fun _ => 0))), (q502, .inl (cI, 32, .inl (fun _ => 0))), (q510, .inl (cI, 32, .inl (fun _ => 0))), (q518, .inl (cI, 32, .inl (fun _ => 0))), (q533, .inl (cI, 400, .inl (fun _ => 0)))] := hD
  refine va_putF (D := D) (ci := 4) (v := .ref q533) (ty := .array .int) (C := RX4) (T := TX4) (N := 22) hx hb hts hw_X4 tyX4 tyX4_ok nmX4 hown hK hP hD hS 0 rfl rfl 20 (by decide) hf_122 (fun _ h9 => h9) rfl hin rfl (by decide +kernel) rfl rfl (Nat.le_of_ble_eq_true rfl) dX4_init_535 (fun H locs hP hD hS => ?_)
  have hP : va_P D vwCl [(zm, .inr (4, [.int 0, .ref q7, .ref q393, .ref q443, .ref q451, .ref q460, .int 0, .ref q468, .ref q476, .ref q485, .int 0, .ref q494, .int 0, .int 0, .ref q502, .ref q510, .ref q518, .int 0, .int 100, .int 0, .ref q533, .int 0])), (q7, .inl (cI, 64, .inl sm_K)), (q393, .inl (cI, 8, .inl sm_F)), (q443, .inl (cI, 8, .inl (fun _ => 0))), (q451, .inl (cI, 64, .inl (fun _ => 0))), (q460, .inl (cI, 512, .inl (fun _ => 0))), (q468, .inl (cI, 32, .inl (fun _ => 0))), (q476, .inl (cI, 64, .inl (fun _ => 0))), (q485, .inl (cI, 300, .inl (fun _ => 0))), (q494, .inl (cI, 300, .inl (fun _ => 0))), (q502, .inl (cI, 32, .inl (fun _ => 0))), (q510, .inl (cI, 32, .inl (fun _ => 0))), (q518, .inl (cI, 32, .inl (fun _ => 0))), (q533, .inl (cI, 400, .inl (fun _ => 0)))] H := hP
  have hD : va_D A [(zm, .inr (4, [.int 0, .ref q7, .ref q393, .ref q443, .ref q451, .ref q460, .int 0, .ref q468, .ref q476, .ref q485, .int 0, .ref q494, .int 0, .int 0, .ref q502, .ref q510, .ref q518, .int 0, .int 100, .int 0, .ref q533, .int 0])), (q7, .inl (cI, 64, .inl sm_K)), (q393, .inl (cI, 8, .inl sm_F)), (q443, .inl (cI, 8, .inl (fun _ => 0))), (q451, .inl (cI, 64, .inl (fun _ => 0))), (q460, .inl (cI, 512, .inl (fun _ => 0))), (q468, .inl (cI, 32, .inl (fun _ => 0))), (q476, .inl (cI, 64, .inl (fun _ => 0))), (q485, .inl (cI, 300, .inl (fun _ => 0))), (q494, .inl (cI, 300, .inl (fun _ => 0))), (q502, .inl (cI, 32, .inl (fun _ => 0))), (q510, .inl (cI, 32, .inl (fun _ => 0))), (q518, .inl (cI, 32, .inl (fun _ => 0))), (q533, .inl (cI, 400, .inl (fun _ => 0)))] := hD
  rw [hQ]
  have hP9 : va_P D vwCl [(zm, .inr (4, [.int 0, .ref q7, .ref q393, .ref q443, .ref q451, .ref q460, .int (nI 0), .ref q468, .ref q476, .ref q485, .int (nI 0), .ref q494, .int (nI 0), .int 0, .ref q502, .ref q510, .ref q518, .int (nI 0), .int 100, .int 0, .ref q533, .int (nI 0)])), (q7, .inl (cI, 64, .inl sm_K)), (q393, .inl (cI, 8, .inl sm_F)), (q443, .inl (cI, 8, .inl (fun _ => 0))), (q451, .inl (cI, 64, .inl (fun _ => 0))), (q460, .inl (cI, 512, .inl (fun _ => 0))), (q468, .inl (cI, 32, .inl (fun _ => 0))), (q476, .inl (cI, 64, .inl (fun _ => 0))), (q485, .inl (cI, 300, .inl (fun _ => 0))), (q494, .inl (cI, 300, .inl (fun _ => 0))), (q502, .inl (cI, 32, .inl (fun _ => 0))), (q510, .inl (cI, 32, .inl (fun _ => 0))), (q518, .inl (cI, 32, .inl (fun _ => 0))), (q533, .inl (cI, 400, .inl (fun _ => 0)))] H := hP
  have hD9 : va_D A [(zm, .inr (4, [.int 0, .ref q7, .ref q393, .ref q443, .ref q451, .ref q460, .int (nI 0), .ref q468, .ref q476, .ref q485, .int (nI 0), .ref q494, .int (nI 0), .int 0, .ref q502, .ref q510, .ref q518, .int (nI 0), .int 100, .int 0, .ref q533, .int (nI 0)])), (q7, .inl (cI, 64, .inl sm_K)), (q393, .inl (cI, 8, .inl sm_F)), (q443, .inl (cI, 8, .inl (fun _ => 0))), (q451, .inl (cI, 64, .inl (fun _ => 0))), (q460, .inl (cI, 512, .inl (fun _ => 0))), (q468, .inl (cI, 32, .inl (fun _ => 0))), (q476, .inl (cI, 64, .inl (fun _ => 0))), (q485, .inl (cI, 300, .inl (fun _ => 0))), (q494, .inl (cI, 300, .inl (fun _ => 0))), (q502, .inl (cI, 32, .inl (fun _ => 0))), (q510, .inl (cI, 32, .inl (fun _ => 0))), (q518, .inl (cI, 32, .inl (fun _ => 0))), (q533, .inl (cI, 400, .inl (fun _ => 0)))] := hD
  exact W.vret hx hb hr (fun t ht hW => ⟨⟨(), rfl, trivial, ⟨q7, q393, q443, q451, q460, q468, q476, q485, q494, q502, q510, q518, q533, by rw [ht]; exact hP9, va_K.moved hW.alike hK, hD9⟩⟩, hS.F ht⟩) hS.2.2 dX4_init_538
