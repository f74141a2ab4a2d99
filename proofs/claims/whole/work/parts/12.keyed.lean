def rm_X1_begin : Room := ({ frames := 4, cells := 0, slots := 0, locals := 97 } : Room)
set_option maxHeartbeats 4000000 in
set_option maxRecDepth 100000 in
/-- KeyedHasher.begin -/
theorem sc_X1_begin (l : Launch) (D : va_G) (cI : ClassId) (tk tf : Nat) (sz : Nat) (hk hh hm bm aw ad hB bB hI bI : Nat) (hy by_ ny nk : Nat) (fm fw fd fB fk : Nat → Int32) (um uB : Int32) (hnk : nk ≤ ny) (hnk3 : nk ≤ 300) (hny : ny < 2 ^ 31) : Met l yX1_begin wsX1_begin rm_X1_begin (va_Pc [.ref hk, .ref hy] (sm_PW D cI (some (tk, tf)) [(hk, .inr (1, [.ref hh, .ref hB, .ref hI])), (hh, .inr (0, [.ref hm, .ref aw, .ref ad])), (hm, .inr (2, [.ref bm, .int um])), (bm, .inl (cI, 448, .inl fm)), (aw, .inl (cI, 64, .inl fw)), (ad, .inl (cI, 8, .inl fd)), (hB, .inr (2, [.ref bB, .int uB])), (bB, .inl (cI, 64, .inl fB)), (hy, .inr (2, [.ref by_, .int (nI nk)])), (by_, .inl (cI, ny, .inl fk))] sz)) (va_Qv (fun (_ : Unit) => True) (fun _ t => ∃ (f2 : Nat → Int32) (fw2 : Nat → Int32) (fd2 : Nat → Int32), sm_QW D cI (va_A [(hk, .inr (1, [.ref hh, .ref hB, .ref hI])), (hh, .inr (0, [.ref hm, .ref aw, .ref ad])), (hm, .inr (2, [.ref bm, .int um])), (bm, .inl (cI, 448, .inl fm)), (aw, .inl (cI, 64, .inl fw)), (ad, .inl (cI, 8, .inl fd)), (hB, .inr (2, [.ref bB, .int uB])), (bB, .inl (cI, 64, .inl fB)), (hy, .inr (2, [.ref by_, .int (nI nk)])), (by_, .inl (cI, ny, .inl fk))] sz) [(hk, .inr (1, [.ref hh, .ref hB, .ref hI])), (hh, .inr (0, [.ref hm, .ref aw, .ref ad])), (hm, .inr (2, [.ref bm, .int (nI (0 + 64))])), (bm, .inl (cI, 448, .inl (sm_ap f2 0 (fun j => sm_kb fk nk j ^^^ 54) 64))), (aw, .inl (cI, 64, .inl fw2)), (ad, .inl (cI, 8, .inl fd2)), (hB, .inr (2, [.ref bB, .int (nI 64)])), (bB, .inl (cI, 64, .inl (sm_kb fk nk))), (hy, .inr (2, [.ref by_, .int (nI nk)])), (by_, .inl (cI, ny, .inl fk))] t) (va_A [(hk, .inr (1, [.ref hh, .ref hB, .ref hI])), (hh, .inr (0, [.ref hm, .ref aw, .ref ad])), (hm, .inr (2, [.ref bm, .int um])), (bm, .inl (cI, 448, .inl fm)), (aw, .inl (cI, 64, .inl fw)), (ad, .inl (cI, 8, .inl fd)), (hB, .inr (2, [.ref bB, .int uB])), (bB, .inl (cI, 64, .inl fB)), (hy, .inr (2, [.ref by_, .int (nI nk)])), (by_, .inl (cI, ny, .inl fk))] sz)) 0 0 (va_A [(hk, .inr (1, [.ref hh, .ref hB, .ref hI])), (hh, .inr (0, [.ref hm, .ref aw, .ref ad])), (hm, .inr (2, [.ref bm, .int um])), (bm, .inl (cI, 448, .inl fm)), (aw, .inl (cI, 64, .inl fw)), (ad, .inl (cI, 8, .inl fd)), (hB, .inr (2, [.ref bB, .int uB])), (bB, .inl (cI, 64, .inl fB)), (hy, .inr (2, [.ref by_, .int (nI nk)])), (by_, .inl (cI, ny, .inl fk))] sz) := by
  refine Met.ofW (cc := cX1_begin) (maxL := 3) (ret := none) (by decide) rfl ?_
  intro p e s m args below meth c s₁ B hml hv
  obtain ⟨rfl, hsz, hP, hK, hD0, hT⟩ := hv
  have hx := B.exec
  have hb := B.bytes
  have hr := B.returns
  have hts := atoms_spec (ws := wsX1_begin) B.pre
  have hown : s.vm.findClass RX1 = some m.cls := findClass_of_methodNamed B.named
  have hlocks := B.notSynchronized
  subst hsz
  have hD := hD0.self (sz := s.heap.size)
  generalize hAe : va_A [(hk, .inr (1, [.ref hh, .ref hB, .ref hI])), (hh, .inr (0, [.ref hm, .ref aw, .ref ad])), (hm, .inr (2, [.ref bm, .int um])), (bm, .inl (cI, 448, .inl fm)), (aw, .inl (cI, 64, .inl fw)), (ad, .inl (cI, 8, .inl fd)), (hB, .inr (2, [.ref bB, .int uB])), (bB, .inl (cI, 64, .inl fB)), (hy, .inr (2, [.ref by_, .int (nI nk)])), (by_, .inl (cI, ny, .inl fk))] s.heap.size = A at hD hT ⊢
  have hA : ∀ q : Nat, s.heap.size ≤ q → A q := fun q h => by rw [← hAe]; exact Or.inr h
  have hS : va_S A s.heap s.heap [] := va_S.rf
  have hl := lv_entry ([.ref hk, .ref hy]) (n := 3) (Nat.le_of_ble_eq_true rfl)
  rw [lg_entry_eq]
  generalize (lg_sl ([.ref hk, .ref hy]) ++ List.replicate (3 - (lg_sl ([.ref hk, .ref hy])).length) Slot.unset).toArray = ls at hl ⊢
  have hl : lv_has ls 3 [(0, .ref hk), (1, .ref hy)] := hl
  refine sm_name (fun Q hQ => ?_)
  have hf_23 := hts (.fieldLink RX1 23 "SeedMill$KeyedHasher" "blockKey" "LSeedMill$Row;") (by decide +kernel)
  have hw_X1 : ∀ w ∈ wsX10, w ∈ wsX1_begin := by decide +kernel
  have hf_12 := hts (.fieldLink RX1 12 "SeedMill$KeyedHasher" "hasher" "LSeedMill$Hasher;") (by decide +kernel)
  refine lv_aload_n hx hb dX1_begin_0 rfl (lv_at hl 0 rfl) ?_
  refine va_get (D := D) (ci := 1) (v := .ref hB) (C := RX1) (T := TX1) (N := 3) hx hb hts hw_X1 hown hK hP 0 rfl rfl 1 (by decide) hf_23 (fun _ h9 => h9) rfl dX1_begin_1 ?_
  refine sm_callVv (wc := [(hB, .inr (2, [.ref bB, .int uB])), (bB, .inl (cI, 64, .inl fB))]) (wr := [(hk, .inr (1, [.ref hh, .ref hB, .ref hI])), (hh, .inr (0, [.ref hm, .ref aw, .ref ad])), (hm, .inr (2, [.ref bm, .int um])), (bm, .inl (cI, 448, .inl fm)), (aw, .inl (cI, 64, .inl fw)), (ad, .inl (cI, 8, .inl fd)), (hy, .inr (2, [.ref by_, .int (nI nk)])), (by_, .inl (cI, ny, .inl fk))]) (As := []) (rest := []) ⟨hx, hb, hml, hown, hts⟩ (sc_X2_empty l D cI (some (tk, tf)) _ hB bB 64 fB uB ) (cwV 0 hts gX1_begin_X2_empty rfl rfl rfl (by decide +kernel) ⟨Nat.le_of_ble_eq_true rfl, Nat.le_of_ble_eq_true rfl⟩) hP hD hS hA hK hT [6, 7] [0, 1, 2, 3, 4, 5, 8, 9] rfl rfl rfl rfl (by decide) 0 2 rfl rfl rfl rfl hl.1 rfl (Nat.le_of_ble_eq_true rfl) dX1_begin_4 ⟨Nat.zero_le _, Nat.zero_le _⟩ (fun zt H1 locs ht hvm hB hJ hS => ?_)
  obtain ⟨hP1, -, hD1⟩ := hB
  rw [ht] at hP1
  obtain ⟨hP, hD⟩ := hJ _ hP1 hD1
  clear hJ
  generalize H1 = H at hP hS ⊢
  have hP : va_P D vwCl [(hk, .inr (1, [.ref hh, .ref hB, .ref hI])), (hh, .inr (0, [.ref hm, .ref aw, .ref ad])), (hm, .inr (2, [.ref bm, .int um])), (bm, .inl (cI, 448, .inl fm)), (aw, .inl (cI, 64, .inl fw)), (ad, .inl (cI, 8, .inl fd)), (hB, .inr (2, [.ref bB, .int (nI 0)])), (bB, .inl (cI, 64, .inl fB)), (hy, .inr (2, [.ref by_, .int (nI nk)])), (by_, .inl (cI, ny, .inl fk))] H := hP.sub [0, 1, 2, 3, 4, 5, 8, 9, 6, 7] rfl
  have hD : va_D A [(hk, .inr (1, [.ref hh, .ref hB, .ref hI])), (hh, .inr (0, [.ref hm, .ref aw, .ref ad])), (hm, .inr (2, [.ref bm, .int um])), (bm, .inl (cI, 448, .inl fm)), (aw, .inl (cI, 64, .inl fw)), (ad, .inl (cI, 8, .inl fd)), (hB, .inr (2, [.ref bB, .int (nI 0)])), (bB, .inl (cI, 64, .inl fB)), (hy, .inr (2, [.ref by_, .int (nI nk)])), (by_, .inl (cI, ny, .inl fk))] := hD.sub [0, 1, 2, 3, 4, 5, 8, 9, 6, 7] rfl rfl
  refine lv_aload_n hx hb dX1_begin_7 rfl (lv_at hl 1 rfl) ?_
  refine sm_callVi (wc := [(hy, .inr (2, [.ref by_, .int (nI nk)])), (by_, .inl (cI, ny, .inl fk))]) (wr := [(hk, .inr (1, [.ref hh, .ref hB, .ref hI])), (hh, .inr (0, [.ref hm, .ref aw, .ref ad])), (hm, .inr (2, [.ref bm, .int um])), (bm, .inl (cI, 448, .inl fm)), (aw, .inl (cI, 64, .inl fw)), (ad, .inl (cI, 8, .inl fd)), (hB, .inr (2, [.ref bB, .int (nI 0)])), (bB, .inl (cI, 64, .inl fB))]) (As := []) (rest := []) ⟨hx, hb, hml, hown, hts⟩ (sc_X2_size l D cI (some (tk, tf)) _ hy by_ ny fk (nI nk) ) (cwV 0 hts gX1_begin_X2_size rfl rfl rfl (by decide +kernel) ⟨Nat.le_of_ble_eq_true rfl, Nat.le_of_ble_eq_true rfl⟩) hP hD hS hA hK hT [8, 9] [0, 1, 2, 3, 4, 5, 6, 7] rfl rfl rfl rfl (by decide) 0 2 rfl rfl rfl rfl hl.1 rfl (Nat.le_of_ble_eq_true rfl) dX1_begin_8 ⟨Nat.zero_le _, Nat.zero_le _⟩ (fun r_8 zt H1 locs ht hvm hw hB hJ hS => ?_)
  obtain ⟨hP1, -, hD1⟩ := hB
  rw [ht] at hP1
  obtain ⟨hP, hD⟩ := hJ _ hP1 hD1
  clear hJ
  generalize H1 = H at hP hS ⊢
  have hP : va_P D vwCl [(hk, .inr (1, [.ref hh, .ref hB, .ref hI])), (hh, .inr (0, [.ref hm, .ref aw, .ref ad])), (hm, .inr (2, [.ref bm, .int um])), (bm, .inl (cI, 448, .inl fm)), (aw, .inl (cI, 64, .inl fw)), (ad, .inl (cI, 8, .inl fd)), (hB, .inr (2, [.ref bB, .int (nI 0)])), (bB, .inl (cI, 64, .inl fB)), (hy, .inr (2, [.ref by_, .int (nI nk)])), (by_, .inl (cI, ny, .inl fk))] H := hP.sub [0, 1, 2, 3, 4, 5, 6, 7, 8, 9] rfl
  have hD : va_D A [(hk, .inr (1, [.ref hh, .ref hB, .ref hI])), (hh, .inr (0, [.ref hm, .ref aw, .ref ad])), (hm, .inr (2, [.ref bm, .int um])), (bm, .inl (cI, 448, .inl fm)), (aw, .inl (cI, 64, .inl fw)), (ad, .inl (cI, 8, .inl fd)), (hB, .inr (2, [.ref bB, .int (nI 0)])), (bB, .inl (cI, 64, .inl fB)), (hy, .inr (2, [.ref by_, .int (nI nk)])), (by_, .inl (cI, ny, .inl fk))] := hD.sub [0, 1, 2, 3, 4, 5, 6, 7, 8, 9] rfl rfl
  rw [hw]
  refine lv_bipush (v := 64) hx hb dX1_begin_11 (by decide) ?_
  refine lv_icmp_le (tgt := 45) hx hb dX1_begin_13 (by decide) (fun c_13 => ?_) (fun c_13 => ?_)
  ·
    have hsm : nk ≤ 64 := by
      rcases Nat.lt_or_ge 64 nk with q | q
      · exact absurd c_13 (nI_ge q (by omega))
      · exact q
    refine lv_aload_n hx hb dX1_begin_45 rfl (lv_at hl 0 rfl) ?_
    refine va_get (D := D) (ci := 1) (v := .ref hB) (C := RX1) (T := TX1) (N := 3) hx hb hts hw_X1 hown hK hP 0 rfl rfl 1 (by decide) hf_23 (fun _ h9 => h9) rfl dX1_begin_46 ?_
    refine lv_aload_n hx hb dX1_begin_49 rfl (lv_at hl 1 rfl) ?_
    refine lv_aload_n hx hb dX1_begin_50 rfl (lv_at hl 1 rfl) ?_
    refine sm_callVi (wc := [(hy, .inr (2, [.ref by_, .int (nI nk)])), (by_, .inl (cI, ny, .inl fk))]) (wr := [(hk, .inr (1, [.ref hh, .ref hB, .ref hI])), (hh, .inr (0, [.ref hm, .ref aw, .ref ad])), (hm, .inr (2, [.ref bm, .int um])), (bm, .inl (cI, 448, .inl fm)), (aw, .inl (cI, 64, .inl fw)), (ad, .inl (cI, 8, .inl fd)), (hB, .inr (2, [.ref bB, .int (nI 0)])), (bB, .inl (cI, 64, .inl fB))]) (As := []) (rest := [.ref hy, .ref hB]) ⟨hx, hb, hml, hown, hts⟩ (sc_X2_size l D cI (some (tk, tf)) _ hy by_ ny fk (nI nk) ) (cwV 0 hts gX1_begin_X2_size rfl rfl rfl (by decide +kernel) ⟨Nat.le_of_ble_eq_true rfl, Nat.le_of_ble_eq_true rfl⟩) hP hD hS hA hK hT [8, 9] [0, 1, 2, 3, 4, 5, 6, 7] rfl rfl rfl rfl (by decide) 0 2 rfl rfl rfl rfl hl.1 rfl (Nat.le_of_ble_eq_true rfl) dX1_begin_51 ⟨Nat.zero_le _, Nat.zero_le _⟩ (fun r_51 zt H1 locs ht hvm hw hB hJ hS => ?_)
    obtain ⟨hP1, -, hD1⟩ := hB
    rw [ht] at hP1
    obtain ⟨hP, hD⟩ := hJ _ hP1 hD1
    clear hJ
    generalize H1 = H at hP hS ⊢
    have hP : va_P D vwCl [(hk, .inr (1, [.ref hh, .ref hB, .ref hI])), (hh, .inr (0, [.ref hm, .ref aw, .ref ad])), (hm, .inr (2, [.ref bm, .int um])), (bm, .inl (cI, 448, .inl fm)), (aw, .inl (cI, 64, .inl fw)), (ad, .inl (cI, 8, .inl fd)), (hB, .inr (2, [.ref bB, .int (nI 0)])), (bB, .inl (cI, 64, .inl fB)), (hy, .inr (2, [.ref by_, .int (nI nk)])), (by_, .inl (cI, ny, .inl fk))] H := hP.sub [0, 1, 2, 3, 4, 5, 6, 7, 8, 9] rfl
    have hD : va_D A [(hk, .inr (1, [.ref hh, .ref hB, .ref hI])), (hh, .inr (0, [.ref hm, .ref aw, .ref ad])), (hm, .inr (2, [.ref bm, .int um])), (bm, .inl (cI, 448, .inl fm)), (aw, .inl (cI, 64, .inl fw)), (ad, .inl (cI, 8, .inl fd)), (hB, .inr (2, [.ref bB, .int (nI 0)])), (bB, .inl (cI, 64, .inl fB)), (hy, .inr (2, [.ref by_, .int (nI nk)])), (by_, .inl (cI, ny, .inl fk))] := hD.sub [0, 1, 2, 3, 4, 5, 6, 7, 8, 9] rfl rfl
    rw [hw]
    refine sm_callVv (wc := [(hB, .inr (2, [.ref bB, .int (nI 0)])), (bB, .inl (cI, 64, .inl fB)), (hy, .inr (2, [.ref by_, .int (nI nk)])), (by_, .inl (cI, ny, .inl fk))]) (wr := [(hk, .inr (1, [.ref hh, .ref hB, .ref hI])), (hh, .inr (0, [.ref hm, .ref aw, .ref ad])), (hm, .inr (2, [.ref bm, .int um])), (bm, .inl (cI, 448, .inl fm)), (aw, .inl (cI, 64, .inl fw)), (ad, .inl (cI, 8, .inl fd))]) (As := [.ref hy, .int (nI nk)]) (rest := []) ⟨hx, hb, hml, hown, hts⟩ (sc_X2_append l D cI (some (tk, tf)) _ hB bB 64 0 hy by_ ny nk nk fB fk (by omega) hnk (by decide) hny (by omega)) (cwV 2 hts gX1_begin_X2_append rfl rfl rfl (by decide +kernel) ⟨Nat.le_of_ble_eq_true rfl, Nat.le_of_ble_eq_true rfl⟩) hP hD hS hA hK hT [6, 7, 8, 9] [0, 1, 2, 3, 4, 5] rfl rfl rfl rfl (by decide) 0 2 rfl rfl rfl rfl hl.1 rfl (Nat.le_of_ble_eq_true rfl) dX1_begin_54 ⟨Nat.zero_le _, Nat.zero_le _⟩ (fun zt H1 locs ht hvm hB hJ hS => ?_)
    obtain ⟨hP1, -, hD1⟩ := hB
    rw [ht] at hP1
    obtain ⟨hP, hD⟩ := hJ _ hP1 hD1
    clear hJ
    generalize H1 = H at hP hS ⊢
    have hP : va_P D vwCl [(hk, .inr (1, [.ref hh, .ref hB, .ref hI])), (hh, .inr (0, [.ref hm, .ref aw, .ref ad])), (hm, .inr (2, [.ref bm, .int um])), (bm, .inl (cI, 448, .inl fm)), (aw, .inl (cI, 64, .inl fw)), (ad, .inl (cI, 8, .inl fd)), (hB, .inr (2, [.ref bB, .int (nI (0 + min nk nk))])), (bB, .inl (cI, 64, .inl (sm_ap fB 0 fk (min nk nk)))), (hy, .inr (2, [.ref by_, .int (nI nk)])), (by_, .inl (cI, ny, .inl fk))] H := hP.sub [0, 1, 2, 3, 4, 5, 6, 7, 8, 9] rfl
    have hD : va_D A [(hk, .inr (1, [.ref hh, .ref hB, .ref hI])), (hh, .inr (0, [.ref hm, .ref aw, .ref ad])), (hm, .inr (2, [.ref bm, .int um])), (bm, .inl (cI, 448, .inl fm)), (aw, .inl (cI, 64, .inl fw)), (ad, .inl (cI, 8, .inl fd)), (hB, .inr (2, [.ref bB, .int (nI (0 + min nk nk))])), (bB, .inl (cI, 64, .inl (sm_ap fB 0 fk (min nk nk)))), (hy, .inr (2, [.ref by_, .int (nI nk)])), (by_, .inl (cI, ny, .inl fk))] := hD.sub [0, 1, 2, 3, 4, 5, 6, 7, 8, 9] rfl rfl
    refine lv_aload_n hx hb dX1_begin_57 rfl (lv_at hl 0 rfl) ?_
    refine va_get (D := D) (ci := 1) (v := .ref hB) (C := RX1) (T := TX1) (N := 3) hx hb hts hw_X1 hown hK hP 0 rfl rfl 1 (by decide) hf_23 (fun _ h9 => h9) rfl dX1_begin_58 ?_
    refine sm_callVi (wc := [(hB, .inr (2, [.ref bB, .int (nI (0 + min nk nk))])), (bB, .inl (cI, 64, .inl (sm_ap fB 0 fk (min nk nk))))]) (wr := [(hk, .inr (1, [.ref hh, .ref hB, .ref hI])), (hh, .inr (0, [.ref hm, .ref aw, .ref ad])), (hm, .inr (2, [.ref bm, .int um])), (bm, .inl (cI, 448, .inl fm)), (aw, .inl (cI, 64, .inl fw)), (ad, .inl (cI, 8, .inl fd)), (hy, .inr (2, [.ref by_, .int (nI nk)])), (by_, .inl (cI, ny, .inl fk))]) (As := []) (rest := []) ⟨hx, hb, hml, hown, hts⟩ (sc_X2_size l D cI (some (tk, tf)) _ hB bB 64 (sm_ap fB 0 fk (min nk nk)) (nI (0 + min nk nk)) ) (cwV 0 hts gX1_begin_X2_size rfl rfl rfl (by decide +kernel) ⟨Nat.le_of_ble_eq_true rfl, Nat.le_of_ble_eq_true rfl⟩) hP hD hS hA hK hT [6, 7] [0, 1, 2, 3, 4, 5, 8, 9] rfl rfl rfl rfl (by decide) 0 2 rfl rfl rfl rfl hl.1 rfl (Nat.le_of_ble_eq_true rfl) dX1_begin_61 ⟨Nat.zero_le _, Nat.zero_le _⟩ (fun r_61 zt H1 locs ht hvm hw hB hJ hS => ?_)
    obtain ⟨hP1, -, hD1⟩ := hB
    rw [ht] at hP1
    obtain ⟨hP, hD⟩ := hJ _ hP1 hD1
    clear hJ
    generalize H1 = H at hP hS ⊢
    have hP : va_P D vwCl [(hk, .inr (1, [.ref hh, .ref hB, .ref hI])), (hh, .inr (0, [.ref hm, .ref aw, .ref ad])), (hm, .inr (2, [.ref bm, .int um])), (bm, .inl (cI, 448, .inl fm)), (aw, .inl (cI, 64, .inl fw)), (ad, .inl (cI, 8, .inl fd)), (hB, .inr (2, [.ref bB, .int (nI (0 + min nk nk))])), (bB, .inl (cI, 64, .inl (sm_ap fB 0 fk (min nk nk)))), (hy, .inr (2, [.ref by_, .int (nI nk)])), (by_, .inl (cI, ny, .inl fk))] H := hP.sub [0, 1, 2, 3, 4, 5, 8, 9, 6, 7] rfl
    have hD : va_D A [(hk, .inr (1, [.ref hh, .ref hB, .ref hI])), (hh, .inr (0, [.ref hm, .ref aw, .ref ad])), (hm, .inr (2, [.ref bm, .int um])), (bm, .inl (cI, 448, .inl fm)), (aw, .inl (cI, 64, .inl fw)), (ad, .inl (cI, 8, .inl fd)), (hB, .inr (2, [.ref bB, .int (nI (0 + min nk nk))])), (bB, .inl (cI, 64, .inl (sm_ap fB 0 fk (min nk nk)))), (hy, .inr (2, [.ref by_, .int (nI nk)])), (by_, .inl (cI, ny, .inl fk))] := hD.sub [0, 1, 2, 3, 4, 5, 8, 9, 6, 7] rfl rfl
    rw [hw]
    refine lv_istore_n (lv' := [(2, .int (nI (0 + min nk nk))), (0, .ref hk), (1, .ref hy)]) hx hb dX1_begin_64 rfl hl (by decide) rfl (fun ls hl => ?_)
    rw [Nat.min_self, Nat.zero_add] at hP hD
    have hP : va_P D vwCl [(hk, .inr (1, [.ref hh, .ref hB, .ref hI])), (hh, .inr (0, [.ref hm, .ref aw, .ref ad])), (hm, .inr (2, [.ref bm, .int um])), (bm, .inl (cI, 448, .inl fm)), (aw, .inl (cI, 64, .inl fw)), (ad, .inl (cI, 8, .inl fd)), (hB, .inr (2, [.ref bB, .int (nI nk)])), (bB, .inl (cI, 64, .inl (sm_ap fB 0 fk nk))), (hy, .inr (2, [.ref by_, .int (nI nk)])), (by_, .inl (cI, ny, .inl fk))] H := hP
    have hD : va_D A [(hk, .inr (1, [.ref hh, .ref hB, .ref hI])), (hh, .inr (0, [.ref hm, .ref aw, .ref ad])), (hm, .inr (2, [.ref bm, .int um])), (bm, .inl (cI, 448, .inl fm)), (aw, .inl (cI, 64, .inl fw)), (ad, .inl (cI, 8, .inl fd)), (hB, .inr (2, [.ref bB, .int (nI nk)])), (bB, .inl (cI, 64, .inl (sm_ap fB 0 fk nk))), (hy, .inr (2, [.ref by_, .int (nI nk)])), (by_, .inl (cI, ny, .inl fk))] := hD
    have hl : lv_has ls 3 [(2, .int (nI nk)), (0, .ref hk), (1, .ref hy)] := by rw [Nat.min_self, Nat.zero_add] at hl; exact hl
    have lp65 : ∀ (zn : Nat) (k : Nat) (H : Heap) (locs : List Loc) (ls : Array Slot), 64 - nk - k < zn → k ≤ 64 - nk → va_P D vwCl [(hk, .inr (1, [.ref hh, .ref hB, .ref hI])), (hh, .inr (0, [.ref hm, .ref aw, .ref ad])), (hm, .inr (2, [.ref bm, .int um])), (bm, .inl (cI, 448, .inl fm)), (aw, .inl (cI, 64, .inl fw)), (ad, .inl (cI, 8, .inl fd)), (hB, .inr (2, [.ref bB, .int (nI (nk + k))])), (bB, .inl (cI, 64, .inl (sm_ap (sm_ap fB 0 fk nk) nk (fun _ => 0) k))), (hy, .inr (2, [.ref by_, .int (nI nk)])), (by_, .inl (cI, ny, .inl fk))] H → va_D A [(hk, .inr (1, [.ref hh, .ref hB, .ref hI])), (hh, .inr (0, [.ref hm, .ref aw, .ref ad])), (hm, .inr (2, [.ref bm, .int um])), (bm, .inl (cI, 448, .inl fm)), (aw, .inl (cI, 64, .inl fw)), (ad, .inl (cI, 8, .inl fd)), (hB, .inr (2, [.ref bB, .int (nI (nk + k))])), (bB, .inl (cI, 64, .inl (sm_ap (sm_ap fB 0 fk nk) nk (fun _ => 0) k))), (hy, .inr (2, [.ref by_, .int (nI nk)])), (by_, .inl (cI, ny, .inl fk))] → va_S A s.heap H locs → lv_has ls 3 [(2, .int (nI (nk + k))), (0, .ref hk), (1, .ref hy)] → W p l e (headSpec wsX1_begin rm_X1_begin).room s m ([.ref hk, .ref hy] : List Value).toArray below meth c H locs 0 0 Q (F0 m 65 ls []) := by
      intro zn
      induction zn with
      | zero => intro k H locs ls hmu; exact absurd hmu (Nat.not_lt_zero _)
      | succ zn ih =>
        intro k H locs ls hmu hk1 hP hD hS hl
        refine lv_iload_n hx hb dX1_begin_65 rfl (lv_at hl 0 rfl) ?_
        refine lv_bipush (v := 64) hx hb dX1_begin_66 (by decide) ?_
        refine lv_icmp_ge (tgt := 85) hx hb dX1_begin_68 (by decide) (fun c_68 => ?_) (fun c_68 => ?_)
        ·
          have hex : k = 64 - nk := by
            rcases Nat.lt_or_ge (nk + k) 64 with q | q
            · exact absurd c_68 (nI_ge q (by decide))
            · omega
          rw [hex, show nk + (64 - nk) = 64 by omega] at hP hD
          have hP := sm_arr hP 7 rfl (sm_kb fk nk) (sm_kbB hsm)
          have hD := sm_arrD (y := .inl (cI, 64, .inl (sm_kb fk nk))) hD 7 rfl
          have hP : va_P D vwCl [(hk, .inr (1, [.ref hh, .ref hB, .ref hI])), (hh, .inr (0, [.ref hm, .ref aw, .ref ad])), (hm, .inr (2, [.ref bm, .int um])), (bm, .inl (cI, 448, .inl fm)), (aw, .inl (cI, 64, .inl fw)), (ad, .inl (cI, 8, .inl fd)), (hB, .inr (2, [.ref bB, .int (nI 64)])), (bB, .inl (cI, 64, .inl (sm_kb fk nk))), (hy, .inr (2, [.ref by_, .int (nI nk)])), (by_, .inl (cI, ny, .inl fk))] H := hP
          have hD : va_D A [(hk, .inr (1, [.ref hh, .ref hB, .ref hI])), (hh, .inr (0, [.ref hm, .ref aw, .ref ad])), (hm, .inr (2, [.ref bm, .int um])), (bm, .inl (cI, 448, .inl fm)), (aw, .inl (cI, 64, .inl fw)), (ad, .inl (cI, 8, .inl fd)), (hB, .inr (2, [.ref bB, .int (nI 64)])), (bB, .inl (cI, 64, .inl (sm_kb fk nk))), (hy, .inr (2, [.ref by_, .int (nI nk)])), (by_, .inl (cI, ny, .inl fk))] := hD
          refine lv_aload_n hx hb dX1_begin_85 rfl (lv_at hl 1 rfl) ?_
          refine va_get (D := D) (ci := 1) (v := .ref hh) (C := RX1) (T := TX1) (N := 3) hx hb hts hw_X1 hown hK hP 0 rfl rfl 0 (by decide) hf_12 (fun _ h9 => h9) rfl dX1_begin_86 ?_
          refine sm_callVv (wc := [(hh, .inr (0, [.ref hm, .ref aw, .ref ad])), (hm, .inr (2, [.ref bm, .int um])), (bm, .inl (cI, 448, .inl fm))]) (wr := [(hk, .inr (1, [.ref hh, .ref hB, .ref hI])), (aw, .inl (cI, 64, .inl fw)), (ad, .inl (cI, 8, .inl fd)), (hB, .inr (2, [.ref bB, .int (nI 64)])), (bB, .inl (cI, 64, .inl (sm_kb fk nk))), (hy, .inr (2, [.ref by_, .int (nI nk)])), (by_, .inl (cI, ny, .inl fk))]) (As := []) (rest := []) ⟨hx, hb, hml, hown, hts⟩ (sc_X0_begin l D cI (some (tk, tf)) _ hh hm bm aw ad fm um ) (cwV 0 hts gX1_begin_X0_begin rfl rfl rfl (by decide +kernel) ⟨Nat.le_of_ble_eq_true rfl, Nat.le_of_ble_eq_true rfl⟩) hP hD hS hA hK hT [1, 2, 3] [0, 4, 5, 6, 7, 8, 9] rfl rfl rfl rfl (by decide) 0 0 rfl rfl rfl rfl hl.1 rfl (Nat.le_of_ble_eq_true rfl) dX1_begin_89 ⟨Nat.zero_le _, Nat.zero_le _⟩ (fun zt H1 locs ht hvm hB hJ hS => ?_)
          obtain ⟨hP1, -, hD1⟩ := hB
          rw [ht] at hP1
          obtain ⟨hP, hD⟩ := hJ _ hP1 hD1
          clear hJ
          generalize H1 = H at hP hS ⊢
          have hP : va_P D vwCl [(hk, .inr (1, [.ref hh, .ref hB, .ref hI])), (hh, .inr (0, [.ref hm, .ref aw, .ref ad])), (hm, .inr (2, [.ref bm, .int (nI 0)])), (bm, .inl (cI, 448, .inl fm)), (aw, .inl (cI, 64, .inl fw)), (ad, .inl (cI, 8, .inl fd)), (hB, .inr (2, [.ref bB, .int (nI 64)])), (bB, .inl (cI, 64, .inl (sm_kb fk nk))), (hy, .inr (2, [.ref by_, .int (nI nk)])), (by_, .inl (cI, ny, .inl fk))] H := hP.sub [0, 7, 8, 9, 1, 2, 3, 4, 5, 6] rfl
          have hD : va_D A [(hk, .inr (1, [.ref hh, .ref hB, .ref hI])), (hh, .inr (0, [.ref hm, .ref aw, .ref ad])), (hm, .inr (2, [.ref bm, .int (nI 0)])), (bm, .inl (cI, 448, .inl fm)), (aw, .inl (cI, 64, .inl fw)), (ad, .inl (cI, 8, .inl fd)), (hB, .inr (2, [.ref bB, .int (nI 64)])), (bB, .inl (cI, 64, .inl (sm_kb fk nk))), (hy, .inr (2, [.ref by_, .int (nI nk)])), (by_, .inl (cI, ny, .inl fk))] := hD.sub [0, 7, 8, 9, 1, 2, 3, 4, 5, 6] rfl rfl
          refine lv_aload_n hx hb dX1_begin_92 rfl (lv_at hl 1 rfl) ?_
          refine va_get (D := D) (ci := 1) (v := .ref hh) (C := RX1) (T := TX1) (N := 3) hx hb hts hw_X1 hown hK hP 0 rfl rfl 0 (by decide) hf_12 (fun _ h9 => h9) rfl dX1_begin_93 ?_
          refine lv_aload_n hx hb dX1_begin_96 rfl (lv_at hl 1 rfl) ?_
          refine va_get (D := D) (ci := 1) (v := .ref hB) (C := RX1) (T := TX1) (N := 3) hx hb hts hw_X1 hown hK hP 0 rfl rfl 1 (by decide) hf_23 (fun _ h9 => h9) rfl dX1_begin_97 ?_
          refine lv_bipush (v := 54) hx hb dX1_begin_100 (by decide) ?_
          refine sm_callVv (wc := [(hh, .inr (0, [.ref hm, .ref aw, .ref ad])), (hm, .inr (2, [.ref bm, .int (nI 0)])), (bm, .inl (cI, 448, .inl fm)), (hB, .inr (2, [.ref bB, .int (nI 64)])), (bB, .inl (cI, 64, .inl (sm_kb fk nk)))]) (wr := [(hk, .inr (1, [.ref hh, .ref hB, .ref hI])), (aw, .inl (cI, 64, .inl fw)), (ad, .inl (cI, 8, .inl fd)), (hy, .inr (2, [.ref by_, .int (nI nk)])), (by_, .inl (cI, ny, .inl fk))]) (As := [.ref hB, .int 54]) (rest := []) ⟨hx, hb, hml, hown, hts⟩ (sc_X0_addXor l D cI (some (tk, tf)) _ hh hm bm aw ad 0 hB bB 64 64 fm (sm_kb fk nk) 54 (by decide) (by decide) (by decide)) (cwV 2 hts gX1_begin_X0_addXor rfl rfl rfl (by decide +kernel) ⟨Nat.le_of_ble_eq_true rfl, Nat.le_of_ble_eq_true rfl⟩) hP hD hS hA hK hT [1, 2, 3, 6, 7] [0, 4, 5, 8, 9] rfl rfl rfl rfl (by decide) 0 0 rfl rfl rfl rfl hl.1 rfl (Nat.le_of_ble_eq_true rfl) dX1_begin_102 ⟨Nat.zero_le _, Nat.zero_le _⟩ (fun zt H1 locs ht hvm hB hJ hS => ?_)
          obtain ⟨hP1, -, hD1⟩ := hB
          rw [ht] at hP1
          obtain ⟨hP, hD⟩ := hJ _ hP1 hD1
          clear hJ
          generalize H1 = H at hP hS ⊢
          have hP : va_P D vwCl [(hk, .inr (1, [.ref hh, .ref hB, .ref hI])), (hh, .inr (0, [.ref hm, .ref aw, .ref ad])), (hm, .inr (2, [.ref bm, .int (nI (0 + 64))])), (bm, .inl (cI, 448, .inl (sm_ap fm 0 (fun j => (sm_kb fk nk) j ^^^ 54) 64))), (aw, .inl (cI, 64, .inl fw)), (ad, .inl (cI, 8, .inl fd)), (hB, .inr (2, [.ref bB, .int (nI 64)])), (bB, .inl (cI, 64, .inl (sm_kb fk nk))), (hy, .inr (2, [.ref by_, .int (nI nk)])), (by_, .inl (cI, ny, .inl fk))] H := hP.sub [0, 5, 6, 7, 1, 2, 8, 9, 3, 4] rfl
          have hD : va_D A [(hk, .inr (1, [.ref hh, .ref hB, .ref hI])), (hh, .inr (0, [.ref hm, .ref aw, .ref ad])), (hm, .inr (2, [.ref bm, .int (nI (0 + 64))])), (bm, .inl (cI, 448, .inl (sm_ap fm 0 (fun j => (sm_kb fk nk) j ^^^ 54) 64))), (aw, .inl (cI, 64, .inl fw)), (ad, .inl (cI, 8, .inl fd)), (hB, .inr (2, [.ref bB, .int (nI 64)])), (bB, .inl (cI, 64, .inl (sm_kb fk nk))), (hy, .inr (2, [.ref by_, .int (nI nk)])), (by_, .inl (cI, ny, .inl fk))] := hD.sub [0, 5, 6, 7, 1, 2, 8, 9, 3, 4] rfl rfl
          rw [hQ]
          have hP9 : va_P D vwCl [(hk, .inr (1, [.ref hh, .ref hB, .ref hI])), (hh, .inr (0, [.ref hm, .ref aw, .ref ad])), (hm, .inr (2, [.ref bm, .int (nI (0 + 64))])), (bm, .inl (cI, 448, .inl (sm_ap fm 0 (fun j => (sm_kb fk nk) j ^^^ 54) 64))), (aw, .inl (cI, 64, .inl fw)), (ad, .inl (cI, 8, .inl fd)), (hB, .inr (2, [.ref bB, .int (nI 64)])), (bB, .inl (cI, 64, .inl (sm_kb fk nk))), (hy, .inr (2, [.ref by_, .int (nI nk)])), (by_, .inl (cI, ny, .inl fk))] H := hP
          have hD9 : va_D A [(hk, .inr (1, [.ref hh, .ref hB, .ref hI])), (hh, .inr (0, [.ref hm, .ref aw, .ref ad])), (hm, .inr (2, [.ref bm, .int (nI (0 + 64))])), (bm, .inl (cI, 448, .inl (sm_ap fm 0 (fun j => (sm_kb fk nk) j ^^^ 54) 64))), (aw, .inl (cI, 64, .inl fw)), (ad, .inl (cI, 8, .inl fd)), (hB, .inr (2, [.ref bB, .int (nI 64)])), (bB, .inl (cI, 64, .inl (sm_kb fk nk))), (hy, .inr (2, [.ref by_, .int (nI nk)])), (by_, .inl (cI, ny, .inl fk))] := hD
          exact W.vret hx hb hr (fun t ht hW => ⟨⟨(), rfl, trivial, ⟨_, _, _, by rw [ht]; exact hP9, va_K.moved hW.alike hK, hD9⟩⟩, hS.F ht⟩) hS.2.2 dX1_begin_105
        ·
          have hlt : nk + k < 64 := by
            rcases Nat.lt_or_ge (nk + k) 64 with q | q
            · exact q
            · exact absurd (nI_le q (by omega)) c_68
          refine lv_aload_n hx hb dX1_begin_71 rfl (lv_at hl 1 rfl) ?_
          refine va_get (D := D) (ci := 1) (v := .ref hB) (C := RX1) (T := TX1) (N := 3) hx hb hts hw_X1 hown hK hP 0 rfl rfl 1 (by decide) hf_23 (fun _ h9 => h9) rfl dX1_begin_72 ?_
          refine lv_iconst (v := 0) hx hb dX1_begin_75 (by decide) ?_
          refine sm_callVv (wc := [(hB, .inr (2, [.ref bB, .int (nI (nk + k))])), (bB, .inl (cI, 64, .inl (sm_ap (sm_ap fB 0 fk nk) nk (fun _ => 0) k)))]) (wr := [(hk, .inr (1, [.ref hh, .ref hB, .ref hI])), (hh, .inr (0, [.ref hm, .ref aw, .ref ad])), (hm, .inr (2, [.ref bm, .int um])), (bm, .inl (cI, 448, .inl fm)), (aw, .inl (cI, 64, .inl fw)), (ad, .inl (cI, 8, .inl fd)), (hy, .inr (2, [.ref by_, .int (nI nk)])), (by_, .inl (cI, ny, .inl fk))]) (As := [.int 0]) (rest := []) ⟨hx, hb, hml, hown, hts⟩ (sc_X2_put l D cI (some (tk, tf)) _ hB bB 64 (nk + k) (sm_ap (sm_ap fB 0 fk nk) nk (fun _ => 0) k) 0 hlt (by decide)) (cwV 1 hts gX1_begin_X2_put rfl rfl rfl (by decide +kernel) ⟨Nat.le_of_ble_eq_true rfl, Nat.le_of_ble_eq_true rfl⟩) hP hD hS hA hK hT [6, 7] [0, 1, 2, 3, 4, 5, 8, 9] rfl rfl rfl rfl (by decide) 0 2 rfl rfl rfl rfl hl.1 rfl (Nat.le_of_ble_eq_true rfl) dX1_begin_76 ⟨Nat.zero_le _, Nat.zero_le _⟩ (fun zt H1 locs ht hvm hB hJ hS => ?_)
          obtain ⟨hP1, -, hD1⟩ := hB
          rw [ht] at hP1
          obtain ⟨hP, hD⟩ := hJ _ hP1 hD1
          clear hJ
          generalize H1 = H at hP hS ⊢
          have hP : va_P D vwCl [(hk, .inr (1, [.ref hh, .ref hB, .ref hI])), (hh, .inr (0, [.ref hm, .ref aw, .ref ad])), (hm, .inr (2, [.ref bm, .int um])), (bm, .inl (cI, 448, .inl fm)), (aw, .inl (cI, 64, .inl fw)), (ad, .inl (cI, 8, .inl fd)), (hB, .inr (2, [.ref bB, .int (nI (nk + k + 1))])), (bB, .inl (cI, 64, .inl (upd (sm_ap (sm_ap fB 0 fk nk) nk (fun _ => 0) k) (nk + k) 0))), (hy, .inr (2, [.ref by_, .int (nI nk)])), (by_, .inl (cI, ny, .inl fk))] H := hP.sub [0, 1, 2, 3, 4, 5, 8, 9, 6, 7] rfl
          have hD : va_D A [(hk, .inr (1, [.ref hh, .ref hB, .ref hI])), (hh, .inr (0, [.ref hm, .ref aw, .ref ad])), (hm, .inr (2, [.ref bm, .int um])), (bm, .inl (cI, 448, .inl fm)), (aw, .inl (cI, 64, .inl fw)), (ad, .inl (cI, 8, .inl fd)), (hB, .inr (2, [.ref bB, .int (nI (nk + k + 1))])), (bB, .inl (cI, 64, .inl (upd (sm_ap (sm_ap fB 0 fk nk) nk (fun _ => 0) k) (nk + k) 0))), (hy, .inr (2, [.ref by_, .int (nI nk)])), (by_, .inl (cI, ny, .inl fk))] := hD.sub [0, 1, 2, 3, 4, 5, 8, 9, 6, 7] rfl rfl
          refine lv_iinc (v := nI (nk + (k + 1))) (lv' := [(2, .int (nI (nk + (k + 1)))), (0, .ref hk), (1, .ref hy)]) hx hb dX1_begin_79 hl (k := 0) rfl (nI_1 (nk + k)) (by decide) rfl (fun ls hl => ?_)
          refine lv_goto (tgt := 65) hx hb dX1_begin_82 (by decide) ?_
          rw [show upd (sm_ap _ nk (fun _ => 0) k) (nk + k) 0 = _ from sm_ap_s _ nk (fun _ => 0) k] at hP hD
          exact ih (k + 1) _ _ _ (by omega) (by omega) hP hD hS (lv_sub hl [0, 1, 2] rfl)
    exact lp65 _ 0 _ _ _ (Nat.lt_succ_self _) (Nat.zero_le _) (by rw [sm_ap_0]; exact hP) (by rw [sm_ap_0]; exact hD) hS (lv_sub hl [0, 1, 2] rfl)
  ·
    have hsm : 64 < nk := by
      rcases Nat.lt_or_ge 64 nk with q | q
      · exact q
      · exact absurd (nI_le q (by omega)) c_13
    refine lv_aload_n hx hb dX1_begin_16 rfl (lv_at hl 0 rfl) ?_
    refine va_get (D := D) (ci := 1) (v := .ref hh) (C := RX1) (T := TX1) (N := 3) hx hb hts hw_X1 hown hK hP 0 rfl rfl 0 (by decide) hf_12 (fun _ h9 => h9) rfl dX1_begin_17 ?_
    refine sm_callVv (wc := [(hh, .inr (0, [.ref hm, .ref aw, .ref ad])), (hm, .inr (2, [.ref bm, .int um])), (bm, .inl (cI, 448, .inl fm))]) (wr := [(hk, .inr (1, [.ref hh, .ref hB, .ref hI])), (aw, .inl (cI, 64, .inl fw)), (ad, .inl (cI, 8, .inl fd)), (hB, .inr (2, [.ref bB, .int (nI 0)])), (bB, .inl (cI, 64, .inl fB)), (hy, .inr (2, [.ref by_, .int (nI nk)])), (by_, .inl (cI, ny, .inl fk))]) (As := []) (rest := []) ⟨hx, hb, hml, hown, hts⟩ (sc_X0_begin l D cI (some (tk, tf)) _ hh hm bm aw ad fm um ) (cwV 0 hts gX1_begin_X0_begin rfl rfl rfl (by decide +kernel) ⟨Nat.le_of_ble_eq_true rfl, Nat.le_of_ble_eq_true rfl⟩) hP hD hS hA hK hT [1, 2, 3] [0, 4, 5, 6, 7, 8, 9] rfl rfl rfl rfl (by decide) 0 0 rfl rfl rfl rfl hl.1 rfl (Nat.le_of_ble_eq_true rfl) dX1_begin_20 ⟨Nat.zero_le _, Nat.zero_le _⟩ (fun zt H1 locs ht hvm hB hJ hS => ?_)
    obtain ⟨hP1, -, hD1⟩ := hB
    rw [ht] at hP1
    obtain ⟨hP, hD⟩ := hJ _ hP1 hD1
    clear hJ
    generalize H1 = H at hP hS ⊢
    have hP : va_P D vwCl [(hk, .inr (1, [.ref hh, .ref hB, .ref hI])), (hh, .inr (0, [.ref hm, .ref aw, .ref ad])), (hm, .inr (2, [.ref bm, .int (nI 0)])), (bm, .inl (cI, 448, .inl fm)), (aw, .inl (cI, 64, .inl fw)), (ad, .inl (cI, 8, .inl fd)), (hB, .inr (2, [.ref bB, .int (nI 0)])), (bB, .inl (cI, 64, .inl fB)), (hy, .inr (2, [.ref by_, .int (nI nk)])), (by_, .inl (cI, ny, .inl fk))] H := hP.sub [0, 7, 8, 9, 1, 2, 3, 4, 5, 6] rfl
    have hD : va_D A [(hk, .inr (1, [.ref hh, .ref hB, .ref hI])), (hh, .inr (0, [.ref hm, .ref aw, .ref ad])), (hm, .inr (2, [.ref bm, .int (nI 0)])), (bm, .inl (cI, 448, .inl fm)), (aw, .inl (cI, 64, .inl fw)), (ad, .inl (cI, 8, .inl fd)), (hB, .inr (2, [.ref bB, .int (nI 0)])), (bB, .inl (cI, 64, .inl fB)), (hy, .inr (2, [.ref by_, .int (nI nk)])), (by_, .inl (cI, ny, .inl fk))] := hD.sub [0, 7, 8, 9, 1, 2, 3, 4, 5, 6] rfl rfl
    refine lv_aload_n hx hb dX1_begin_23 rfl (lv_at hl 0 rfl) ?_
    refine va_get (D := D) (ci := 1) (v := .ref hh) (C := RX1) (T := TX1) (N := 3) hx hb hts hw_X1 hown hK hP 0 rfl rfl 0 (by decide) hf_12 (fun _ h9 => h9) rfl dX1_begin_24 ?_
    refine lv_aload_n hx hb dX1_begin_27 rfl (lv_at hl 1 rfl) ?_
    refine sm_callVv (wc := [(hh, .inr (0, [.ref hm, .ref aw, .ref ad])), (hm, .inr (2, [.ref bm, .int (nI 0)])), (bm, .inl (cI, 448, .inl fm)), (hy, .inr (2, [.ref by_, .int (nI nk)])), (by_, .inl (cI, ny, .inl fk))]) (wr := [(hk, .inr (1, [.ref hh, .ref hB, .ref hI])), (aw, .inl (cI, 64, .inl fw)), (ad, .inl (cI, 8, .inl fd)), (hB, .inr (2, [.ref bB, .int (nI 0)])), (bB, .inl (cI, 64, .inl fB))]) (As := [.ref hy]) (rest := []) ⟨hx, hb, hml, hown, hts⟩ (sc_X0_add l D cI (some (tk, tf)) _ hh hm bm aw ad 0 hy by_ ny nk fm fk (by omega) hnk hny) (cwV 1 hts gX1_begin_X0_add rfl rfl rfl (by decide +kernel) ⟨Nat.le_of_ble_eq_true rfl, Nat.le_of_ble_eq_true rfl⟩) hP hD hS hA hK hT [1, 2, 3, 8, 9] [0, 4, 5, 6, 7] rfl rfl rfl rfl (by decide) 0 0 rfl rfl rfl rfl hl.1 rfl (Nat.le_of_ble_eq_true rfl) dX1_begin_28 ⟨Nat.zero_le _, Nat.zero_le _⟩ (fun zt H1 locs ht hvm hB hJ hS => ?_)
    obtain ⟨hP1, -, hD1⟩ := hB
    rw [ht] at hP1
    obtain ⟨hP, hD⟩ := hJ _ hP1 hD1
    clear hJ
    generalize H1 = H at hP hS ⊢
    have hP : va_P D vwCl [(hk, .inr (1, [.ref hh, .ref hB, .ref hI])), (hh, .inr (0, [.ref hm, .ref aw, .ref ad])), (hm, .inr (2, [.ref bm, .int (nI (0 + nk))])), (bm, .inl (cI, 448, .inl (sm_ap fm 0 fk nk))), (aw, .inl (cI, 64, .inl fw)), (ad, .inl (cI, 8, .inl fd)), (hB, .inr (2, [.ref bB, .int (nI 0)])), (bB, .inl (cI, 64, .inl fB)), (hy, .inr (2, [.ref by_, .int (nI nk)])), (by_, .inl (cI, ny, .inl fk))] H := hP.sub [0, 5, 6, 7, 1, 2, 3, 4, 8, 9] rfl
    have hD : va_D A [(hk, .inr (1, [.ref hh, .ref hB, .ref hI])), (hh, .inr (0, [.ref hm, .ref aw, .ref ad])), (hm, .inr (2, [.ref bm, .int (nI (0 + nk))])), (bm, .inl (cI, 448, .inl (sm_ap fm 0 fk nk))), (aw, .inl (cI, 64, .inl fw)), (ad, .inl (cI, 8, .inl fd)), (hB, .inr (2, [.ref bB, .int (nI 0)])), (bB, .inl (cI, 64, .inl fB)), (hy, .inr (2, [.ref by_, .int (nI nk)])), (by_, .inl (cI, ny, .inl fk))] := hD.sub [0, 5, 6, 7, 1, 2, 3, 4, 8, 9] rfl rfl
    refine lv_aload_n hx hb dX1_begin_31 rfl (lv_at hl 0 rfl) ?_
    refine va_get (D := D) (ci := 1) (v := .ref hh) (C := RX1) (T := TX1) (N := 3) hx hb hts hw_X1 hown hK hP 0 rfl rfl 0 (by decide) hf_12 (fun _ h9 => h9) rfl dX1_begin_32 ?_
    refine lv_aload_n hx hb dX1_begin_35 rfl (lv_at hl 0 rfl) ?_
    refine va_get (D := D) (ci := 1) (v := .ref hB) (C := RX1) (T := TX1) (N := 3) hx hb hts hw_X1 hown hK hP 0 rfl rfl 1 (by decide) hf_23 (fun _ h9 => h9) rfl dX1_begin_36 ?_
    refine sm_callVv (wc := [(hh, .inr (0, [.ref hm, .ref aw, .ref ad])), (hm, .inr (2, [.ref bm, .int (nI (0 + nk))])), (bm, .inl (cI, 448, .inl (sm_ap fm 0 fk nk))), (aw, .inl (cI, 64, .inl fw)), (ad, .inl (cI, 8, .inl fd)), (hB, .inr (2, [.ref bB, .int (nI 0)])), (bB, .inl (cI, 64, .inl fB))]) (wr := [(hk, .inr (1, [.ref hh, .ref hB, .ref hI])), (hy, .inr (2, [.ref by_, .int (nI nk)])), (by_, .inl (cI, ny, .inl fk))]) (As := [.ref hB]) (rest := []) ⟨hx, hb, hml, hown, hts⟩ (sc_X0_end l D cI tk tf _ hh hm bm aw ad hB bB 64 (0 + nk) (sm_ap fm 0 fk nk) fw fd fB (nI 0) (by unfold sm_nb; omega) (by decide) (by decide)) (cwV 1 hts gX1_begin_X0_end rfl rfl rfl (by decide +kernel) ⟨Nat.le_of_ble_eq_true rfl, Nat.le_of_ble_eq_true rfl⟩) hP hD hS hA hK hT [1, 2, 3, 4, 5, 6, 7] [0, 8, 9] rfl rfl rfl rfl (by decide) 0 0 rfl rfl rfl rfl hl.1 rfl (Nat.le_of_ble_eq_true rfl) dX1_begin_39 ⟨Nat.zero_le _, Nat.zero_le _⟩ (fun zt H1 locs ht hvm hB hJ hS => ?_)
    obtain ⟨fm3, fw3, fd3, hP1, -, hD1⟩ := hB
    rw [ht] at hP1
    obtain ⟨hP, hD⟩ := hJ _ hP1 hD1
    clear hJ
    generalize H1 = H at hP hS ⊢
    have hP : va_P D vwCl [(hk, .inr (1, [.ref hh, .ref hB, .ref hI])), (hh, .inr (0, [.ref hm, .ref aw, .ref ad])), (hm, .inr (2, [.ref bm, .int (nI (64 * sm_nb (0 + nk)))])), (bm, .inl (cI, 448, .inl fm3)), (aw, .inl (cI, 64, .inl fw3)), (ad, .inl (cI, 8, .inl fd3)), (hB, .inr (2, [.ref bB, .int (nI 32)])), (bB, .inl (cI, 64, .inl (sm_ap fB 0 (sm_sha (sm_ap fm 0 fk nk) (0 + nk)) 32))), (hy, .inr (2, [.ref by_, .int (nI nk)])), (by_, .inl (cI, ny, .inl fk))] H := hP.sub [0, 3, 4, 5, 6, 7, 8, 9, 1, 2] rfl
    have hD : va_D A [(hk, .inr (1, [.ref hh, .ref hB, .ref hI])), (hh, .inr (0, [.ref hm, .ref aw, .ref ad])), (hm, .inr (2, [.ref bm, .int (nI (64 * sm_nb (0 + nk)))])), (bm, .inl (cI, 448, .inl fm3)), (aw, .inl (cI, 64, .inl fw3)), (ad, .inl (cI, 8, .inl fd3)), (hB, .inr (2, [.ref bB, .int (nI 32)])), (bB, .inl (cI, 64, .inl (sm_ap fB 0 (sm_sha (sm_ap fm 0 fk nk) (0 + nk)) 32))), (hy, .inr (2, [.ref by_, .int (nI nk)])), (by_, .inl (cI, ny, .inl fk))] := hD.sub [0, 3, 4, 5, 6, 7, 8, 9, 1, 2] rfl rfl
    refine lv_goto (tgt := 57) hx hb dX1_begin_42 (by decide) ?_
    refine lv_aload_n hx hb dX1_begin_57 rfl (lv_at hl 0 rfl) ?_
    refine va_get (D := D) (ci := 1) (v := .ref hB) (C := RX1) (T := TX1) (N := 3) hx hb hts hw_X1 hown hK hP 0 rfl rfl 1 (by decide) hf_23 (fun _ h9 => h9) rfl dX1_begin_58 ?_
    refine sm_callVi (wc := [(hB, .inr (2, [.ref bB, .int (nI 32)])), (bB, .inl (cI, 64, .inl (sm_ap fB 0 (sm_sha (sm_ap fm 0 fk nk) (0 + nk)) 32)))]) (wr := [(hk, .inr (1, [.ref hh, .ref hB, .ref hI])), (hh, .inr (0, [.ref hm, .ref aw, .ref ad])), (hm, .inr (2, [.ref bm, .int (nI (64 * sm_nb (0 + nk)))])), (bm, .inl (cI, 448, .inl fm3)), (aw, .inl (cI, 64, .inl fw3)), (ad, .inl (cI, 8, .inl fd3)), (hy, .inr (2, [.ref by_, .int (nI nk)])), (by_, .inl (cI, ny, .inl fk))]) (As := []) (rest := []) ⟨hx, hb, hml, hown, hts⟩ (sc_X2_size l D cI (some (tk, tf)) _ hB bB 64 (sm_ap fB 0 (sm_sha (sm_ap fm 0 fk nk) (0 + nk)) 32) (nI 32) ) (cwV 0 hts gX1_begin_X2_size rfl rfl rfl (by decide +kernel) ⟨Nat.le_of_ble_eq_true rfl, Nat.le_of_ble_eq_true rfl⟩) hP hD hS hA hK hT [6, 7] [0, 1, 2, 3, 4, 5, 8, 9] rfl rfl rfl rfl (by decide) 0 2 rfl rfl rfl rfl hl.1 rfl (Nat.le_of_ble_eq_true rfl) dX1_begin_61 ⟨Nat.zero_le _, Nat.zero_le _⟩ (fun r_61 zt H1 locs ht hvm hw hB hJ hS => ?_)
    obtain ⟨hP1, -, hD1⟩ := hB
    rw [ht] at hP1
    obtain ⟨hP, hD⟩ := hJ _ hP1 hD1
    clear hJ
    generalize H1 = H at hP hS ⊢
    have hP : va_P D vwCl [(hk, .inr (1, [.ref hh, .ref hB, .ref hI])), (hh, .inr (0, [.ref hm, .ref aw, .ref ad])), (hm, .inr (2, [.ref bm, .int (nI (64 * sm_nb (0 + nk)))])), (bm, .inl (cI, 448, .inl fm3)), (aw, .inl (cI, 64, .inl fw3)), (ad, .inl (cI, 8, .inl fd3)), (hB, .inr (2, [.ref bB, .int (nI 32)])), (bB, .inl (cI, 64, .inl (sm_ap fB 0 (sm_sha (sm_ap fm 0 fk nk) (0 + nk)) 32))), (hy, .inr (2, [.ref by_, .int (nI nk)])), (by_, .inl (cI, ny, .inl fk))] H := hP.sub [0, 1, 2, 3, 4, 5, 8, 9, 6, 7] rfl
    have hD : va_D A [(hk, .inr (1, [.ref hh, .ref hB, .ref hI])), (hh, .inr (0, [.ref hm, .ref aw, .ref ad])), (hm, .inr (2, [.ref bm, .int (nI (64 * sm_nb (0 + nk)))])), (bm, .inl (cI, 448, .inl fm3)), (aw, .inl (cI, 64, .inl fw3)), (ad, .inl (cI, 8, .inl fd3)), (hB, .inr (2, [.ref bB, .int (nI 32)])), (bB, .inl (cI, 64, .inl (sm_ap fB 0 (sm_sha (sm_ap fm 0 fk nk) (0 + nk)) 32))), (hy, .inr (2, [.ref by_, .int (nI nk)])), (by_, .inl (cI, ny, .inl fk))] := hD.sub [0, 1, 2, 3, 4, 5, 8, 9, 6, 7] rfl rfl
    rw [hw]
    refine lv_istore_n (lv' := [(2, .int (nI 32)), (0, .ref hk), (1, .ref hy)]) hx hb dX1_begin_64 rfl hl (by decide) rfl (fun ls hl => ?_)
    have lp65 : ∀ (zn : Nat) (k : Nat) (H : Heap) (locs : List Loc) (ls : Array Slot), 64 - 32 - k < zn → k ≤ 64 - 32 → va_P D vwCl [(hk, .inr (1, [.ref hh, .ref hB, .ref hI])), (hh, .inr (0, [.ref hm, .ref aw, .ref ad])), (hm, .inr (2, [.ref bm, .int (nI (64 * sm_nb (0 + nk)))])), (bm, .inl (cI, 448, .inl fm3)), (aw, .inl (cI, 64, .inl fw3)), (ad, .inl (cI, 8, .inl fd3)), (hB, .inr (2, [.ref bB, .int (nI (32 + k))])), (bB, .inl (cI, 64, .inl (sm_ap (sm_ap fB 0 (sm_sha (sm_ap fm 0 fk nk) (0 + nk)) 32) 32 (fun _ => 0) k))), (hy, .inr (2, [.ref by_, .int (nI nk)])), (by_, .inl (cI, ny, .inl fk))] H → va_D A [(hk, .inr (1, [.ref hh, .ref hB, .ref hI])), (hh, .inr (0, [.ref hm, .ref aw, .ref ad])), (hm, .inr (2, [.ref bm, .int (nI (64 * sm_nb (0 + nk)))])), (bm, .inl (cI, 448, .inl fm3)), (aw, .inl (cI, 64, .inl fw3)), (ad, .inl (cI, 8, .inl fd3)), (hB, .inr (2, [.ref bB, .int (nI (32 + k))])), (bB, .inl (cI, 64, .inl (sm_ap (sm_ap fB 0 (sm_sha (sm_ap fm 0 fk nk) (0 + nk)) 32) 32 (fun _ => 0) k))), (hy, .inr (2, [.ref by_, .int (nI nk)])), (by_, .inl (cI, ny, .inl fk))] → va_S A s.heap H locs → lv_has ls 3 [(2, .int (nI (32 + k))), (0, .ref hk), (1, .ref hy)] → W p l e (headSpec wsX1_begin rm_X1_begin).room s m ([.ref hk, .ref hy] : List Value).toArray below meth c H locs 0 0 Q (F0 m 65 ls []) := by
      intro zn
      induction zn with
      | zero => intro k H locs ls hmu; exact absurd hmu (Nat.not_lt_zero _)
      | succ zn ih =>
        intro k H locs ls hmu hk1 hP hD hS hl
        refine lv_iload_n hx hb dX1_begin_65 rfl (lv_at hl 0 rfl) ?_
        refine lv_bipush (v := 64) hx hb dX1_begin_66 (by decide) ?_
        refine lv_icmp_ge (tgt := 85) hx hb dX1_begin_68 (by decide) (fun c_68 => ?_) (fun c_68 => ?_)
        ·
          have hex : k = 64 - 32 := by
            rcases Nat.lt_or_ge (32 + k) 64 with q | q
            · exact absurd c_68 (nI_ge q (by decide))
            · omega
          rw [hex, show 32 + (64 - 32) = 64 by omega] at hP hD
          have hP := sm_arr hP 7 rfl (sm_kb fk nk) (sm_kbA hsm)
          have hD := sm_arrD (y := .inl (cI, 64, .inl (sm_kb fk nk))) hD 7 rfl
          have hP : va_P D vwCl [(hk, .inr (1, [.ref hh, .ref hB, .ref hI])), (hh, .inr (0, [.ref hm, .ref aw, .ref ad])), (hm, .inr (2, [.ref bm, .int (nI (64 * sm_nb (0 + nk)))])), (bm, .inl (cI, 448, .inl fm3)), (aw, .inl (cI, 64, .inl fw3)), (ad, .inl (cI, 8, .inl fd3)), (hB, .inr (2, [.ref bB, .int (nI 64)])), (bB, .inl (cI, 64, .inl (sm_kb fk nk))), (hy, .inr (2, [.ref by_, .int (nI nk)])), (by_, .inl (cI, ny, .inl fk))] H := hP
          have hD : va_D A [(hk, .inr (1, [.ref hh, .ref hB, .ref hI])), (hh, .inr (0, [.ref hm, .ref aw, .ref ad])), (hm, .inr (2, [.ref bm, .int (nI (64 * sm_nb (0 + nk)))])), (bm, .inl (cI, 448, .inl fm3)), (aw, .inl (cI, 64, .inl fw3)), (ad, .inl (cI, 8, .inl fd3)), (hB, .inr (2, [.ref bB, .int (nI 64)])), (bB, .inl (cI, 64, .inl (sm_kb fk nk))), (hy, .inr (2, [.ref by_, .int (nI nk)])), (by_, .inl (cI, ny, .inl fk))] := hD
          refine lv_aload_n hx hb dX1_begin_85 rfl (lv_at hl 1 rfl) ?_
          refine va_get (D := D) (ci := 1) (v := .ref hh) (C := RX1) (T := TX1) (N := 3) hx hb hts hw_X1 hown hK hP 0 rfl rfl 0 (by decide) hf_12 (fun _ h9 => h9) rfl dX1_begin_86 ?_
          refine sm_callVv (wc := [(hh, .inr (0, [.ref hm, .ref aw, .ref ad])), (hm, .inr (2, [.ref bm, .int (nI (64 * sm_nb (0 + nk)))])), (bm, .inl (cI, 448, .inl fm3))]) (wr := [(hk, .inr (1, [.ref hh, .ref hB, .ref hI])), (aw, .inl (cI, 64, .inl fw3)), (ad, .inl (cI, 8, .inl fd3)), (hB, .inr (2, [.ref bB, .int (nI 64)])), (bB, .inl (cI, 64, .inl (sm_kb fk nk))), (hy, .inr (2, [.ref by_, .int (nI nk)])), (by_, .inl (cI, ny, .inl fk))]) (As := []) (rest := []) ⟨hx, hb, hml, hown, hts⟩ (sc_X0_begin l D cI (some (tk, tf)) _ hh hm bm aw ad fm3 (nI (64 * sm_nb (0 + nk))) ) (cwV 0 hts gX1_begin_X0_begin rfl rfl rfl (by decide +kernel) ⟨Nat.le_of_ble_eq_true rfl, Nat.le_of_ble_eq_true rfl⟩) hP hD hS hA hK hT [1, 2, 3] [0, 4, 5, 6, 7, 8, 9] rfl rfl rfl rfl (by decide) 0 0 rfl rfl rfl rfl hl.1 rfl (Nat.le_of_ble_eq_true rfl) dX1_begin_89 ⟨Nat.zero_le _, Nat.zero_le _⟩ (fun zt H1 locs ht hvm hB hJ hS => ?_)
          obtain ⟨hP1, -, hD1⟩ := hB
          rw [ht] at hP1
          obtain ⟨hP, hD⟩ := hJ _ hP1 hD1
          clear hJ
          generalize H1 = H at hP hS ⊢
          have hP : va_P D vwCl [(hk, .inr (1, [.ref hh, .ref hB, .ref hI])), (hh, .inr (0, [.ref hm, .ref aw, .ref ad])), (hm, .inr (2, [.ref bm, .int (nI 0)])), (bm, .inl (cI, 448, .inl fm3)), (aw, .inl (cI, 64, .inl fw3)), (ad, .inl (cI, 8, .inl fd3)), (hB, .inr (2, [.ref bB, .int (nI 64)])), (bB, .inl (cI, 64, .inl (sm_kb fk nk))), (hy, .inr (2, [.ref by_, .int (nI nk)])), (by_, .inl (cI, ny, .inl fk))] H := hP.sub [0, 7, 8, 9, 1, 2, 3, 4, 5, 6] rfl
          have hD : va_D A [(hk, .inr (1, [.ref hh, .ref hB, .ref hI])), (hh, .inr (0, [.ref hm, .ref aw, .ref ad])), (hm, .inr (2, [.ref bm, .int (nI 0)])), (bm, .inl (cI, 448, .inl fm3)), (aw, .inl (cI, 64, .inl fw3)), (ad, .inl (cI, 8, .inl fd3)), (hB, .inr (2, [.ref bB, .int (nI 64)])), (bB, .inl (cI, 64, .inl (sm_kb fk nk))), (hy, .inr (2, [.ref by_, .int (nI nk)])), (by_, .inl (cI, ny, .inl fk))] := hD.sub [0, 7, 8, 9, 1, 2, 3, 4, 5, 6] rfl rfl
          refine lv_aload_n hx hb dX1_begin_92 rfl (lv_at hl 1 rfl) ?_
          refine va_get (D := D) (ci := 1) (v := .ref hh) (C := RX1) (T := TX1) (N := 3) hx hb hts hw_X1 hown hK hP 0 rfl rfl 0 (by decide) hf_12 (fun _ h9 => h9) rfl dX1_begin_93 ?_
          refine lv_aload_n hx hb dX1_begin_96 rfl (lv_at hl 1 rfl) ?_
          refine va_get (D := D) (ci := 1) (v := .ref hB) (C := RX1) (T := TX1) (N := 3) hx hb hts hw_X1 hown hK hP 0 rfl rfl 1 (by decide) hf_23 (fun _ h9 => h9) rfl dX1_begin_97 ?_
          refine lv_bipush (v := 54) hx hb dX1_begin_100 (by decide) ?_
          refine sm_callVv (wc := [(hh, .inr (0, [.ref hm, .ref aw, .ref ad])), (hm, .inr (2, [.ref bm, .int (nI 0)])), (bm, .inl (cI, 448, .inl fm3)), (hB, .inr (2, [.ref bB, .int (nI 64)])), (bB, .inl (cI, 64, .inl (sm_kb fk nk)))]) (wr := [(hk, .inr (1, [.ref hh, .ref hB, .ref hI])), (aw, .inl (cI, 64, .inl fw3)), (ad, .inl (cI, 8, .inl fd3)), (hy, .inr (2, [.ref by_, .int (nI nk)])), (by_, .inl (cI, ny, .inl fk))]) (As := [.ref hB, .int 54]) (rest := []) ⟨hx, hb, hml, hown, hts⟩ (sc_X0_addXor l D cI (some (tk, tf)) _ hh hm bm aw ad 0 hB bB 64 64 fm3 (sm_kb fk nk) 54 (by decide) (by decide) (by decide)) (cwV 2 hts gX1_begin_X0_addXor rfl rfl rfl (by decide +kernel) ⟨Nat.le_of_ble_eq_true rfl, Nat.le_of_ble_eq_true rfl⟩) hP hD hS hA hK hT [1, 2, 3, 6, 7] [0, 4, 5, 8, 9] rfl rfl rfl rfl (by decide) 0 0 rfl rfl rfl rfl hl.1 rfl (Nat.le_of_ble_eq_true rfl) dX1_begin_102 ⟨Nat.zero_le _, Nat.zero_le _⟩ (fun zt H1 locs ht hvm hB hJ hS => ?_)
          obtain ⟨hP1, -, hD1⟩ := hB
          rw [ht] at hP1
          obtain ⟨hP, hD⟩ := hJ _ hP1 hD1
          clear hJ
          generalize H1 = H at hP hS ⊢
          have hP : va_P D vwCl [(hk, .inr (1, [.ref hh, .ref hB, .ref hI])), (hh, .inr (0, [.ref hm, .ref aw, .ref ad])), (hm, .inr (2, [.ref bm, .int (nI (0 + 64))])), (bm, .inl (cI, 448, .inl (sm_ap fm3 0 (fun j => (sm_kb fk nk) j ^^^ 54) 64))), (aw, .inl (cI, 64, .inl fw3)), (ad, .inl (cI, 8, .inl fd3)), (hB, .inr (2, [.ref bB, .int (nI 64)])), (bB, .inl (cI, 64, .inl (sm_kb fk nk))), (hy, .inr (2, [.ref by_, .int (nI nk)])), (by_, .inl (cI, ny, .inl fk))] H := hP.sub [0, 5, 6, 7, 1, 2, 8, 9, 3, 4] rfl
          have hD : va_D A [(hk, .inr (1, [.ref hh, .ref hB, .ref hI])), (hh, .inr (0, [.ref hm, .ref aw, .ref ad])), (hm, .inr (2, [.ref bm, .int (nI (0 + 64))])), (bm, .inl (cI, 448, .inl (sm_ap fm3 0 (fun j => (sm_kb fk nk) j ^^^ 54) 64))), (aw, .inl (cI, 64, .inl fw3)), (ad, .inl (cI, 8, .inl fd3)), (hB, .inr (2, [.ref bB, .int (nI 64)])), (bB, .inl (cI, 64, .inl (sm_kb fk nk))), (hy, .inr (2, [.ref by_, .int (nI nk)])), (by_, .inl (cI, ny, .inl fk))] := hD.sub [0, 5, 6, 7, 1, 2, 8, 9, 3, 4] rfl rfl
          rw [hQ]
          have hP9 : va_P D vwCl [(hk, .inr (1, [.ref hh, .ref hB, .ref hI])), (hh, .inr (0, [.ref hm, .ref aw, .ref ad])), (hm, .inr (2, [.ref bm, .int (nI (0 + 64))])), (bm, .inl (cI, 448, .inl (sm_ap fm3 0 (fun j => (sm_kb fk nk) j ^^^ 54) 64))), (aw, .inl (cI, 64, .inl fw3)), (ad, .inl (cI, 8, .inl fd3)), (hB, .inr (2, [.ref bB, .int (nI 64)])), (bB, .inl (cI, 64, .inl (sm_kb fk nk))), (hy, .inr (2, [.ref by_, .int (nI nk)])), (by_, .inl (cI, ny, .inl fk))] H := hP
          have hD9 : va_D A [(hk, .inr (1, [.ref hh, .ref hB, .ref hI])), (hh, .inr (0, [.ref hm, .ref aw, .ref ad])), (hm, .inr (2, [.ref bm, .int (nI (0 + 64))])), (bm, .inl (cI, 448, .inl (sm_ap fm3 0 (fun j => (sm_kb fk nk) j ^^^ 54) 64))), (aw, .inl (cI, 64, .inl fw3)), (ad, .inl (cI, 8, .inl fd3)), (hB, .inr (2, [.ref bB, .int (nI 64)])), (bB, .inl (cI, 64, .inl (sm_kb fk nk))), (hy, .inr (2, [.ref by_, .int (nI nk)])), (by_, .inl (cI, ny, .inl fk))] := hD
          exact W.vret hx hb hr (fun t ht hW => ⟨⟨(), rfl, trivial, ⟨_, _, _, by rw [ht]; exact hP9, va_K.moved hW.alike hK, hD9⟩⟩, hS.F ht⟩) hS.2.2 dX1_begin_105
        ·
          have hlt : 32 + k < 64 := by
            rcases Nat.lt_or_ge (32 + k) 64 with q | q
            · exact q
            · exact absurd (nI_le q (by omega)) c_68
          refine lv_aload_n hx hb dX1_begin_71 rfl (lv_at hl 1 rfl) ?_
          refine va_get (D := D) (ci := 1) (v := .ref hB) (C := RX1) (T := TX1) (N := 3) hx hb hts hw_X1 hown hK hP 0 rfl rfl 1 (by decide) hf_23 (fun _ h9 => h9) rfl dX1_begin_72 ?_
          refine lv_iconst (v := 0) hx hb dX1_begin_75 (by decide) ?_
          refine sm_callVv (wc := [(hB, .inr (2, [.ref bB, .int (nI (32 + k))])), (bB, .inl (cI, 64, .inl (sm_ap (sm_ap fB 0 (sm_sha (sm_ap fm 0 fk nk) (0 + nk)) 32) 32 (fun _ => 0) k)))]) (wr := [(hk, .inr (1, [.ref hh, .ref hB, .ref hI])), (hh, .inr (0, [.ref hm, .ref aw, .ref ad])), (hm, .inr (2, [.ref bm, .int (nI (64 * sm_nb (0 + nk)))])), (bm, .inl (cI, 448, .inl fm3)), (aw, .inl (cI, 64, .inl fw3)), (ad, .inl (cI, 8, .inl fd3)), (hy, .inr (2, [.ref by_, .int (nI nk)])), (by_, .inl (cI, ny, .inl fk))]) (As := [.int 0]) (rest := []) ⟨hx, hb, hml, hown, hts⟩ (sc_X2_put l D cI (some (tk, tf)) _ hB bB 64 (32 + k) (sm_ap (sm_ap fB 0 (sm_sha (sm_ap fm 0 fk nk) (0 + nk)) 32) 32 (fun _ => 0) k) 0 hlt (by decide)) (cwV 1 hts gX1_begin_X2_put rfl rfl rfl (by decide +kernel) ⟨Nat.le_of_ble_eq_true rfl, Nat.le_of_ble_eq_true rfl⟩) hP hD hS hA hK hT [6, 7] [0, 1, 2, 3, 4, 5, 8, 9] rfl rfl rfl rfl (by decide) 0 2 rfl rfl rfl rfl hl.1 rfl (Nat.le_of_ble_eq_true rfl) dX1_begin_76 ⟨Nat.zero_le _, Nat.zero_le _⟩ (fun zt H1 locs ht hvm hB hJ hS => ?_)
          obtain ⟨hP1, -, hD1⟩ := hB
          rw [ht] at hP1
          obtain ⟨hP, hD⟩ := hJ _ hP1 hD1
          clear hJ
          generalize H1 = H at hP hS ⊢
          have hP : va_P D vwCl [(hk, .inr (1, [.ref hh, .ref hB, .ref hI])), (hh, .inr (0, [.ref hm, .ref aw, .ref ad])), (hm, .inr (2, [.ref bm, .int (nI (64 * sm_nb (0 + nk)))])), (bm, .inl (cI, 448, .inl fm3)), (aw, .inl (cI, 64, .inl fw3)), (ad, .inl (cI, 8, .inl fd3)), (hB, .inr (2, [.ref bB, .int (nI (32 + k + 1))])), (bB, .inl (cI, 64, .inl (upd (sm_ap (sm_ap fB 0 (sm_sha (sm_ap fm 0 fk nk) (0 + nk)) 32) 32 (fun _ => 0) k) (32 + k) 0))), (hy, .inr (2, [.ref by_, .int (nI nk)])), (by_, .inl (cI, ny, .inl fk))] H := hP.sub [0, 1, 2, 3, 4, 5, 8, 9, 6, 7] rfl
          have hD : va_D A [(hk, .inr (1, [.ref hh, .ref hB, .ref hI])), (hh, .inr (0, [.ref hm, .ref aw, .ref ad])), (hm, .inr (2, [.ref bm, .int (nI (64 * sm_nb (0 + nk)))])), (bm, .inl (cI, 448, .inl fm3)), (aw, .inl (cI, 64, .inl fw3)), (ad, .inl (cI, 8, .inl fd3)), (hB, .inr (2, [.ref bB, .int (nI (32 + k + 1))])), (bB, .inl (cI, 64, .inl (upd (sm_ap (sm_ap fB 0 (sm_sha (sm_ap fm 0 fk nk) (0 + nk)) 32) 32 (fun _ => 0) k) (32 + k) 0))), (hy, .inr (2, [.ref by_, .int (nI nk)])), (by_, .inl (cI, ny, .inl fk))] := hD.sub [0, 1, 2, 3, 4, 5, 8, 9, 6, 7] rfl rfl
          refine lv_iinc (v := nI (32 + (k + 1))) (lv' := [(2, .int (nI (32 + (k + 1)))), (0, .ref hk), (1, .ref hy)]) hx hb dX1_begin_79 hl (k := 0) rfl (nI_1 (32 + k)) (by decide) rfl (fun ls hl => ?_)
          refine lv_goto (tgt := 65) hx hb dX1_begin_82 (by decide) ?_
          rw [show upd (sm_ap _ 32 (fun _ => 0) k) (32 + k) 0 = _ from sm_ap_s _ 32 (fun _ => 0) k] at hP hD
          exact ih (k + 1) _ _ _ (by omega) (by omega) hP hD hS (lv_sub hl [0, 1, 2] rfl)
    exact lp65 _ 0 _ _ _ (Nat.lt_succ_self _) (Nat.zero_le _) (by rw [sm_ap_0]; exact hP) (by rw [sm_ap_0]; exact hD) hS (lv_sub hl [0, 1, 2] rfl)

def rm_X1_add : Room := ({ frames := 3, cells := 0, slots := 0, locals := 66 } : Room)
set_option maxHeartbeats 4000000 in
set_option maxRecDepth 100000 in
/-- KeyedHasher.add -/
theorem sc_X1_add (l : Launch) (D : va_G) (cI : ClassId) (th : Option (Nat × Nat)) (sz : Nat) (hk hh hm bm aw ad hB bB hI bI : Nat) (u qr rb nr u2 : Nat) (fm g : Nat → Int32) (hE : u + u2 ≤ 448) (hu2 : u2 ≤ nr) (hnr : nr < 2 ^ 31) : Met l yX1_add wsX1_add rm_X1_add (va_Pc [.ref hk, .ref qr] (sm_PW D cI th [(hk, .inr (1, [.ref hh, .ref hB, .ref hI])), (hh, .inr (0, [.ref hm, .ref aw, .ref ad])), (hm, .inr (2, [.ref bm, .int (nI u)])), (bm, .inl (cI, 448, .inl fm)), (qr, .inr (2, [.ref rb, .int (nI u2)])), (rb, .inl (cI, nr, .inl g))] sz)) (va_Qv (fun (_ : Unit) => True) (fun _ t => sm_QW D cI (va_A [(hk, .inr (1, [.ref hh, .ref hB, .ref hI])), (hh, .inr (0, [.ref hm, .ref aw, .ref ad])), (hm, .inr (2, [.ref bm, .int (nI u)])), (bm, .inl (cI, 448, .inl fm)), (qr, .inr (2, [.ref rb, .int (nI u2)])), (rb, .inl (cI, nr, .inl g))] sz) [(hk, .inr (1, [.ref hh, .ref hB, .ref hI])), (hh, .inr (0, [.ref hm, .ref aw, .ref ad])), (hm, .inr (2, [.ref bm, .int (nI (u + u2))])), (bm, .inl (cI, 448, .inl (sm_ap fm u g u2))), (qr, .inr (2, [.ref rb, .int (nI u2)])), (rb, .inl (cI, nr, .inl g))] t) (va_A [(hk, .inr (1, [.ref hh, .ref hB, .ref hI])), (hh, .inr (0, [.ref hm, .ref aw, .ref ad])), (hm, .inr (2, [.ref bm, .int (nI u)])), (bm, .inl (cI, 448, .inl fm)), (qr, .inr (2, [.ref rb, .int (nI u2)])), (rb, .inl (cI, nr, .inl g))] sz)) 0 0 (va_A [(hk, .inr (1, [.ref hh, .ref hB, .ref hI])), (hh, .inr (0, [.ref hm, .ref aw, .ref ad])), (hm, .inr (2, [.ref bm, .int (nI u)])), (bm, .inl (cI, 448, .inl fm)), (qr, .inr (2, [.ref rb, .int (nI u2)])), (rb, .inl (cI, nr, .inl g))] sz) := by
  refine Met.ofW (cc := cX1_add) (maxL := 2) (ret := none) (by decide) rfl ?_
  intro p e s m args below meth c s₁ B hml hv
  obtain ⟨rfl, hsz, hP, hK, hD0, hT⟩ := hv
  have hx := B.exec
  have hb := B.bytes
  have hr := B.returns
  have hts := atoms_spec (ws := wsX1_add) B.pre
  have hown : s.vm.findClass RX1 = some m.cls := findClass_of_methodNamed B.named
  have hlocks := B.notSynchronized
  subst hsz
  have hD := hD0.self (sz := s.heap.size)
  generalize hAe : va_A [(hk, .inr (1, [.ref hh, .ref hB, .ref hI])), (hh, .inr (0, [.ref hm, .ref aw, .ref ad])), (hm, .inr (2, [.ref bm, .int (nI u)])), (bm, .inl (cI, 448, .inl fm)), (qr, .inr (2, [.ref rb, .int (nI u2)])), (rb, .inl (cI, nr, .inl g))] s.heap.size = A at hD hT ⊢
  have hA : ∀ q : Nat, s.heap.size ≤ q → A q := fun q h => by rw [← hAe]; exact Or.inr h
  have hS : va_S A s.heap s.heap [] := va_S.rf
  have hl := lv_entry ([.ref hk, .ref qr]) (n := 2) (Nat.le_of_ble_eq_true rfl)
  rw [lg_entry_eq]
  generalize (lg_sl ([.ref hk, .ref qr]) ++ List.replicate (2 - (lg_sl ([.ref hk, .ref qr])).length) Slot.unset).toArray = ls at hl ⊢
  have hl : lv_has ls 2 [(0, .ref hk), (1, .ref qr)] := hl
  refine sm_name (fun Q hQ => ?_)
  have hf_12 := hts (.fieldLink RX1 12 "SeedMill$KeyedHasher" "hasher" "LSeedMill$Hasher;") (by decide +kernel)
  have hw_X1 : ∀ w ∈ wsX10, w ∈ wsX1_add := by decide +kernel
  refine lv_aload_n hx hb dX1_add_0 rfl (lv_at hl 0 rfl) ?_
  refine va_get (D := D) (ci := 1) (v := .ref hh) (C := RX1) (T := TX1) (N := 3) hx hb hts hw_X1 hown hK hP 0 rfl rfl 0 (by decide) hf_12 (fun _ h9 => h9) rfl dX1_add_1 ?_
  refine lv_aload_n hx hb dX1_add_4 rfl (lv_at hl 1 rfl) ?_
  refine sm_callVv (wc := [(hh, .inr (0, [.ref hm, .ref aw, .ref ad])), (hm, .inr (2, [.ref bm, .int (nI u)])), (bm, .inl (cI, 448, .inl fm)), (qr, .inr (2, [.ref rb, .int (nI u2)])), (rb, .inl (cI, nr, .inl g))]) (wr := [(hk, .inr (1, [.ref hh, .ref hB, .ref hI]))]) (As := [.ref qr]) (rest := []) ⟨hx, hb, hml, hown, hts⟩ (sc_X0_add l D cI th _ hh hm bm aw ad u qr rb nr u2 fm g hE hu2 hnr) (cwV 1 hts gX1_add_X0_add rfl rfl rfl (by decide +kernel) ⟨Nat.le_of_ble_eq_true rfl, Nat.le_of_ble_eq_true rfl⟩) hP hD hS hA hK hT [1, 2, 3, 4, 5] [0] rfl rfl rfl rfl (by decide) 0 0 rfl rfl rfl rfl hl.1 rfl (Nat.le_of_ble_eq_true rfl) dX1_add_5 ⟨Nat.zero_le _, Nat.zero_le _⟩ (fun zt H1 locs ht hvm hB hJ hS => ?_)
  obtain ⟨hP1, -, hD1⟩ := hB
  rw [ht] at hP1
  obtain ⟨hP, hD⟩ := hJ _ hP1 hD1
  clear hJ
  generalize H1 = H at hP hS ⊢
  have hP : va_P D vwCl [(hk, .inr (1, [.ref hh, .ref hB, .ref hI])), (hh, .inr (0, [.ref hm, .ref aw, .ref ad])), (hm, .inr (2, [.ref bm, .int (nI (u + u2))])), (bm, .inl (cI, 448, .inl (sm_ap fm u g u2))), (qr, .inr (2, [.ref rb, .int (nI u2)])), (rb, .inl (cI, nr, .inl g))] H := hP.sub [0, 1, 2, 3, 4, 5] rfl
  have hD : va_D A [(hk, .inr (1, [.ref hh, .ref hB, .ref hI])), (hh, .inr (0, [.ref hm, .ref aw, .ref ad])), (hm, .inr (2, [.ref bm, .int (nI (u + u2))])), (bm, .inl (cI, 448, .inl (sm_ap fm u g u2))), (qr, .inr (2, [.ref rb, .int (nI u2)])), (rb, .inl (cI, nr, .inl g))] := hD.sub [0, 1, 2, 3, 4, 5] rfl rfl
  rw [hQ]
  have hP9 : va_P D vwCl [(hk, .inr (1, [.ref hh, .ref hB, .ref hI])), (hh, .inr (0, [.ref hm, .ref aw, .ref ad])), (hm, .inr (2, [.ref bm, .int (nI (u + u2))])), (bm, .inl (cI, 448, .inl (sm_ap fm u g u2))), (qr, .inr (2, [.ref rb, .int (nI u2)])), (rb, .inl (cI, nr, .inl g))] H := hP
  have hD9 : va_D A [(hk, .inr (1, [.ref hh, .ref hB, .ref hI])), (hh, .inr (0, [.ref hm, .ref aw, .ref ad])), (hm, .inr (2, [.ref bm, .int (nI (u + u2))])), (bm, .inl (cI, 448, .inl (sm_ap fm u g u2))), (qr, .inr (2, [.ref rb, .int (nI u2)])), (rb, .inl (cI, nr, .inl g))] := hD
  exact W.vret hx hb hr (fun t ht hW => ⟨⟨(), rfl, trivial, ⟨by rw [ht]; exact hP9, va_K.moved hW.alike hK, hD9⟩⟩, hS.F ht⟩) hS.2.2 dX1_add_8

def rm_X1_addByte : Room := ({ frames := 2, cells := 0, slots := 0, locals := 42 } : Room)
set_option maxHeartbeats 4000000 in
set_option maxRecDepth 100000 in
/-- KeyedHasher.addByte -/
theorem sc_X1_addByte (l : Launch) (D : va_G) (cI : ClassId) (th : Option (Nat × Nat)) (sz : Nat) (hk hh hm bm aw ad hB bB hI bI : Nat) (u : Nat) (fm : Nat → Int32) (x : Int32) (hE : u < 448) : Met l yX1_addByte wsX1_addByte rm_X1_addByte (va_Pc [.ref hk, .int x] (sm_PW D cI th [(hk, .inr (1, [.ref hh, .ref hB, .ref hI])), (hh, .inr (0, [.ref hm, .ref aw, .ref ad])), (hm, .inr (2, [.ref bm, .int (nI u)])), (bm, .inl (cI, 448, .inl fm))] sz)) (va_Qv (fun (_ : Unit) => True) (fun _ t => sm_QW D cI (va_A [(hk, .inr (1, [.ref hh, .ref hB, .ref hI])), (hh, .inr (0, [.ref hm, .ref aw, .ref ad])), (hm, .inr (2, [.ref bm, .int (nI u)])), (bm, .inl (cI, 448, .inl fm))] sz) [(hk, .inr (1, [.ref hh, .ref hB, .ref hI])), (hh, .inr (0, [.ref hm, .ref aw, .ref ad])), (hm, .inr (2, [.ref bm, .int (nI (u + 1))])), (bm, .inl (cI, 448, .inl (upd fm u x)))] t) (va_A [(hk, .inr (1, [.ref hh, .ref hB, .ref hI])), (hh, .inr (0, [.ref hm, .ref aw, .ref ad])), (hm, .inr (2, [.ref bm, .int (nI u)])), (bm, .inl (cI, 448, .inl fm))] sz)) 0 0 (va_A [(hk, .inr (1, [.ref hh, .ref hB, .ref hI])), (hh, .inr (0, [.ref hm, .ref aw, .ref ad])), (hm, .inr (2, [.ref bm, .int (nI u)])), (bm, .inl (cI, 448, .inl fm))] sz) := by
  refine Met.ofW (cc := cX1_addByte) (maxL := 2) (ret := none) (by decide) rfl ?_
  intro p e s m args below meth c s₁ B hml hv
  obtain ⟨rfl, hsz, hP, hK, hD0, hT⟩ := hv
  have hx := B.exec
  have hb := B.bytes
  have hr := B.returns
  have hts := atoms_spec (ws := wsX1_addByte) B.pre
  have hown : s.vm.findClass RX1 = some m.cls := findClass_of_methodNamed B.named
  have hlocks := B.notSynchronized
  subst hsz
  have hD := hD0.self (sz := s.heap.size)
  generalize hAe : va_A [(hk, .inr (1, [.ref hh, .ref hB, .ref hI])), (hh, .inr (0, [.ref hm, .ref aw, .ref ad])), (hm, .inr (2, [.ref bm, .int (nI u)])), (bm, .inl (cI, 448, .inl fm))] s.heap.size = A at hD hT ⊢
  have hA : ∀ q : Nat, s.heap.size ≤ q → A q := fun q h => by rw [← hAe]; exact Or.inr h
  have hS : va_S A s.heap s.heap [] := va_S.rf
  have hl := lv_entry ([.ref hk, .int x]) (n := 2) (Nat.le_of_ble_eq_true rfl)
  rw [lg_entry_eq]
  generalize (lg_sl ([.ref hk, .int x]) ++ List.replicate (2 - (lg_sl ([.ref hk, .int x])).length) Slot.unset).toArray = ls at hl ⊢
  have hl : lv_has ls 2 [(0, .ref hk), (1, .int x)] := hl
  refine sm_name (fun Q hQ => ?_)
  have hf_12 := hts (.fieldLink RX1 12 "SeedMill$KeyedHasher" "hasher" "LSeedMill$Hasher;") (by decide +kernel)
  have hw_X1 : ∀ w ∈ wsX10, w ∈ wsX1_addByte := by decide +kernel
  refine lv_aload_n hx hb dX1_addByte_0 rfl (lv_at hl 0 rfl) ?_
  refine va_get (D := D) (ci := 1) (v := .ref hh) (C := RX1) (T := TX1) (N := 3) hx hb hts hw_X1 hown hK hP 0 rfl rfl 0 (by decide) hf_12 (fun _ h9 => h9) rfl dX1_addByte_1 ?_
  refine lv_iload_n hx hb dX1_addByte_4 rfl (lv_at hl 1 rfl) ?_
  refine sm_callVv (wc := [(hh, .inr (0, [.ref hm, .ref aw, .ref ad])), (hm, .inr (2, [.ref bm, .int (nI u)])), (bm, .inl (cI, 448, .inl fm))]) (wr := [(hk, .inr (1, [.ref hh, .ref hB, .ref hI]))]) (As := [.int x]) (rest := []) ⟨hx, hb, hml, hown, hts⟩ (sc_X0_addByte l D cI th _ hh hm bm aw ad u fm x hE) (cwV 1 hts gX1_addByte_X0_addByte rfl rfl rfl (by decide +kernel) ⟨Nat.le_of_ble_eq_true rfl, Nat.le_of_ble_eq_true rfl⟩) hP hD hS hA hK hT [1, 2, 3] [0] rfl rfl rfl rfl (by decide) 0 0 rfl rfl rfl rfl hl.1 rfl (Nat.le_of_ble_eq_true rfl) dX1_addByte_5 ⟨Nat.zero_le _, Nat.zero_le _⟩ (fun zt H1 locs ht hvm hB hJ hS => ?_)
  obtain ⟨hP1, -, hD1⟩ := hB
  rw [ht] at hP1
  obtain ⟨hP, hD⟩ := hJ _ hP1 hD1
  clear hJ
  generalize H1 = H at hP hS ⊢
  have hP : va_P D vwCl [(hk, .inr (1, [.ref hh, .ref hB, .ref hI])), (hh, .inr (0, [.ref hm, .ref aw, .ref ad])), (hm, .inr (2, [.ref bm, .int (nI (u + 1))])), (bm, .inl (cI, 448, .inl (upd fm u x)))] H := hP.sub [0, 1, 2, 3] rfl
  have hD : va_D A [(hk, .inr (1, [.ref hh, .ref hB, .ref hI])), (hh, .inr (0, [.ref hm, .ref aw, .ref ad])), (hm, .inr (2, [.ref bm, .int (nI (u + 1))])), (bm, .inl (cI, 448, .inl (upd fm u x)))] := hD.sub [0, 1, 2, 3] rfl rfl
  rw [hQ]
  have hP9 : va_P D vwCl [(hk, .inr (1, [.ref hh, .ref hB, .ref hI])), (hh, .inr (0, [.ref hm, .ref aw, .ref ad])), (hm, .inr (2, [.ref bm, .int (nI (u + 1))])), (bm, .inl (cI, 448, .inl (upd fm u x)))] H := hP
  have hD9 : va_D A [(hk, .inr (1, [.ref hh, .ref hB, .ref hI])), (hh, .inr (0, [.ref hm, .ref aw, .ref ad])), (hm, .inr (2, [.ref bm, .int (nI (u + 1))])), (bm, .inl (cI, 448, .inl (upd fm u x)))] := hD
  exact W.vret hx hb hr (fun t ht hW => ⟨⟨(), rfl, trivial, ⟨by rw [ht]; exact hP9, va_K.moved hW.alike hK, hD9⟩⟩, hS.F ht⟩) hS.2.2 dX1_addByte_8

def rm_X1_end : Room := ({ frames := 4, cells := 0, slots := 0, locals := 97 } : Room)
set_option maxHeartbeats 4000000 in
set_option maxRecDepth 100000 in
/-- KeyedHasher.end -/
theorem sc_X1_end (l : Launch) (D : va_G) (cI : ClassId) (tk tf : Nat) (sz : Nat) (hk hh hm bm aw ad hB bB hI bI : Nat) (qr rb nr u : Nat) (fm fw fd kb fI fr : Nat → Int32) (uI ur : Int32) (hn : 64 * sm_nb u ≤ 448) (hr32 : 32 ≤ nr) (hnr : nr < 2 ^ 31) : Met l yX1_end wsX1_end rm_X1_end (va_Pc [.ref hk, .ref qr] (sm_PW D cI (some (tk, tf)) [(hk, .inr (1, [.ref hh, .ref hB, .ref hI])), (hh, .inr (0, [.ref hm, .ref aw, .ref ad])), (hm, .inr (2, [.ref bm, .int (nI u)])), (bm, .inl (cI, 448, .inl fm)), (aw, .inl (cI, 64, .inl fw)), (ad, .inl (cI, 8, .inl fd)), (hB, .inr (2, [.ref bB, .int (nI 64)])), (bB, .inl (cI, 64, .inl kb)), (hI, .inr (2, [.ref bI, .int uI])), (bI, .inl (cI, 32, .inl fI)), (qr, .inr (2, [.ref rb, .int ur])), (rb, .inl (cI, nr, .inl fr))] sz)) (va_Qv (fun (_ : Unit) => True) (fun _ t => ∃ (f2 : Nat → Int32) (u3 : Int32) (fw2 : Nat → Int32) (fd2 : Nat → Int32) (fI2 : Nat → Int32), sm_QW D cI (va_A [(hk, .inr (1, [.ref hh, .ref hB, .ref hI])), (hh, .inr (0, [.ref hm, .ref aw, .ref ad])), (hm, .inr (2, [.ref bm, .int (nI u)])), (bm, .inl (cI, 448, .inl fm)), (aw, .inl (cI, 64, .inl fw)), (ad, .inl (cI, 8, .inl fd)), (hB, .inr (2, [.ref bB, .int (nI 64)])), (bB, .inl (cI, 64, .inl kb)), (hI, .inr (2, [.ref bI, .int uI])), (bI, .inl (cI, 32, .inl fI)), (qr, .inr (2, [.ref rb, .int ur])), (rb, .inl (cI, nr, .inl fr))] sz) [(hk, .inr (1, [.ref hh, .ref hB, .ref hI])), (hh, .inr (0, [.ref hm, .ref aw, .ref ad])), (hm, .inr (2, [.ref bm, .int u3])), (bm, .inl (cI, 448, .inl f2)), (aw, .inl (cI, 64, .inl fw2)), (ad, .inl (cI, 8, .inl fd2)), (hB, .inr (2, [.ref bB, .int (nI 64)])), (bB, .inl (cI, 64, .inl kb)), (hI, .inr (2, [.ref bI, .int (nI 32)])), (bI, .inl (cI, 32, .inl fI2)), (qr, .inr (2, [.ref rb, .int (nI 32)])), (rb, .inl (cI, nr, .inl (sm_ap fr 0 (sm_out kb (sm_sha fm u)) 32)))] t) (va_A [(hk, .inr (1, [.ref hh, .ref hB, .ref hI])), (hh, .inr (0, [.ref hm, .ref aw, .ref ad])), (hm, .inr (2, [.ref bm, .int (nI u)])), (bm, .inl (cI, 448, .inl fm)), (aw, .inl (cI, 64, .inl fw)), (ad, .inl (cI, 8, .inl fd)), (hB, .inr (2, [.ref bB, .int (nI 64)])), (bB, .inl (cI, 64, .inl kb)), (hI, .inr (2, [.ref bI, .int uI])), (bI, .inl (cI, 32, .inl fI)), (qr, .inr (2, [.ref rb, .int ur])), (rb, .inl (cI, nr, .inl fr))] sz)) 0 0 (va_A [(hk, .inr (1, [.ref hh, .ref hB, .ref hI])), (hh, .inr (0, [.ref hm, .ref aw, .ref ad])), (hm, .inr (2, [.ref bm, .int (nI u)])), (bm, .inl (cI, 448, .inl fm)), (aw, .inl (cI, 64, .inl fw)), (ad, .inl (cI, 8, .inl fd)), (hB, .inr (2, [.ref bB, .int (nI 64)])), (bB, .inl (cI, 64, .inl kb)), (hI, .inr (2, [.ref bI, .int uI])), (bI, .inl (cI, 32, .inl fI)), (qr, .inr (2, [.ref rb, .int ur])), (rb, .inl (cI, nr, .inl fr))] sz) := by
  refine Met.ofW (cc := cX1_end) (maxL := 2) (ret := none) (by decide) rfl ?_
  intro p e s m args below meth c s₁ B hml hv
  obtain ⟨rfl, hsz, hP, hK, hD0, hT⟩ := hv
  have hx := B.exec
  have hb := B.bytes
  have hr := B.returns
  have hts := atoms_spec (ws := wsX1_end) B.pre
  have hown : s.vm.findClass RX1 = some m.cls := findClass_of_methodNamed B.named
  have hlocks := B.notSynchronized
  subst hsz
  have hD := hD0.self (sz := s.heap.size)
  generalize hAe : va_A [(hk, .inr (1, [.ref hh, .ref hB, .ref hI])), (hh, .inr (0, [.ref hm, .ref aw, .ref ad])), (hm, .inr (2, [.ref bm, .int (nI u)])), (bm, .inl (cI, 448, .inl fm)), (aw, .inl (cI, 64, .inl fw)), (ad, .inl (cI, 8, .inl fd)), (hB, .inr (2, [.ref bB, .int (nI 64)])), (bB, .inl (cI, 64, .inl kb)), (hI, .inr (2, [.ref bI, .int uI])), (bI, .inl (cI, 32, .inl fI)), (qr, .inr (2, [.ref rb, .int ur])), (rb, .inl (cI, nr, .inl fr))] s.heap.size = A at hD hT ⊢
  have hA : ∀ q : Nat, s.heap.size ≤ q → A q := fun q h => by rw [← hAe]; exact Or.inr h
  have hS : va_S A s.heap s.heap [] := va_S.rf
  have hl := lv_entry ([.ref hk, .ref qr]) (n := 2) (Nat.le_of_ble_eq_true rfl)
  rw [lg_entry_eq]
  generalize (lg_sl ([.ref hk, .ref qr]) ++ List.replicate (2 - (lg_sl ([.ref hk, .ref qr])).length) Slot.unset).toArray = ls at hl ⊢
  have hl : lv_has ls 2 [(0, .ref hk), (1, .ref qr)] := hl
  refine sm_name (fun Q hQ => ?_)
  have hf_12 := hts (.fieldLink RX1 12 "SeedMill$KeyedHasher" "hasher" "LSeedMill$Hasher;") (by decide +kernel)
  have hw_X1 : ∀ w ∈ wsX10, w ∈ wsX1_end := by decide +kernel
  have hf_27 := hts (.fieldLink RX1 27 "SeedMill$KeyedHasher" "innerHash" "LSeedMill$Row;") (by decide +kernel)
  have hf_23 := hts (.fieldLink RX1 23 "SeedMill$KeyedHasher" "blockKey" "LSeedMill$Row;") (by decide +kernel)
  refine lv_aload_n hx hb dX1_end_0 rfl (lv_at hl 0 rfl) ?_
  refine va_get (D := D) (ci := 1) (v := .ref hh) (C := RX1) (T := TX1) (N := 3) hx hb hts hw_X1 hown hK hP 0 rfl rfl 0 (by decide) hf_12 (fun _ h9 => h9) rfl dX1_end_1 ?_
  refine lv_aload_n hx hb dX1_end_4 rfl (lv_at hl 0 rfl) ?_
  refine va_get (D := D) (ci := 1) (v := .ref hI) (C := RX1) (T := TX1) (N := 3) hx hb hts hw_X1 hown hK hP 0 rfl rfl 2 (by decide) hf_27 (fun _ h9 => h9) rfl dX1_end_5 ?_
  refine sm_callVv (wc := [(hh, .inr (0, [.ref hm, .ref aw, .ref ad])), (hm, .inr (2, [.ref bm, .int (nI u)])), (bm, .inl (cI, 448, .inl fm)), (aw, .inl (cI, 64, .inl fw)), (ad, .inl (cI, 8, .inl fd)), (hI, .inr (2, [.ref bI, .int uI])), (bI, .inl (cI, 32, .inl fI))]) (wr := [(hk, .inr (1, [.ref hh, .ref hB, .ref hI])), (hB, .inr (2, [.ref bB, .int (nI 64)])), (bB, .inl (cI, 64, .inl kb)), (qr, .inr (2, [.ref rb, .int ur])), (rb, .inl (cI, nr, .inl fr))]) (As := [.ref hI]) (rest := []) ⟨hx, hb, hml, hown, hts⟩ (sc_X0_end l D cI tk tf _ hh hm bm aw ad hI bI 32 u fm fw fd fI uI hn (by decide) (by decide)) (cwV 1 hts gX1_end_X0_end rfl rfl rfl (by decide +kernel) ⟨Nat.le_of_ble_eq_true rfl, Nat.le_of_ble_eq_true rfl⟩) hP hD hS hA hK hT [1, 2, 3, 4, 5, 8, 9] [0, 6, 7, 10, 11] rfl rfl rfl rfl (by decide) 0 0 rfl rfl rfl rfl hl.1 rfl (Nat.le_of_ble_eq_true rfl) dX1_end_8 ⟨Nat.zero_le _, Nat.zero_le _⟩ (fun zt H1 locs ht hvm hB hJ hS => ?_)
  obtain ⟨fm3, fw3, fd3, hP1, -, hD1⟩ := hB
  rw [ht] at hP1
  obtain ⟨hP, hD⟩ := hJ _ hP1 hD1
  clear hJ
  generalize H1 = H at hP hS ⊢
  have hP : va_P D vwCl [(hk, .inr (1, [.ref hh, .ref hB, .ref hI])), (hh, .inr (0, [.ref hm, .ref aw, .ref ad])), (hm, .inr (2, [.ref bm, .int (nI (64 * sm_nb u))])), (bm, .inl (cI, 448, .inl fm3)), (aw, .inl (cI, 64, .inl fw3)), (ad, .inl (cI, 8, .inl fd3)), (hB, .inr (2, [.ref bB, .int (nI 64)])), (bB, .inl (cI, 64, .inl kb)), (hI, .inr (2, [.ref bI, .int (nI 32)])), (bI, .inl (cI, 32, .inl (sm_ap fI 0 (sm_sha fm u) 32))), (qr, .inr (2, [.ref rb, .int ur])), (rb, .inl (cI, nr, .inl fr))] H := hP.sub [0, 5, 6, 7, 8, 9, 1, 2, 10, 11, 3, 4] rfl
  have hD : va_D A [(hk, .inr (1, [.ref hh, .ref hB, .ref hI])), (hh, .inr (0, [.ref hm, .ref aw, .ref ad])), (hm, .inr (2, [.ref bm, .int (nI (64 * sm_nb u))])), (bm, .inl (cI, 448, .inl fm3)), (aw, .inl (cI, 64, .inl fw3)), (ad, .inl (cI, 8, .inl fd3)), (hB, .inr (2, [.ref bB, .int (nI 64)])), (bB, .inl (cI, 64, .inl kb)), (hI, .inr (2, [.ref bI, .int (nI 32)])), (bI, .inl (cI, 32, .inl (sm_ap fI 0 (sm_sha fm u) 32))), (qr, .inr (2, [.ref rb, .int ur])), (rb, .inl (cI, nr, .inl fr))] := hD.sub [0, 5, 6, 7, 8, 9, 1, 2, 10, 11, 3, 4] rfl rfl
  refine lv_aload_n hx hb dX1_end_11 rfl (lv_at hl 0 rfl) ?_
  refine va_get (D := D) (ci := 1) (v := .ref hh) (C := RX1) (T := TX1) (N := 3) hx hb hts hw_X1 hown hK hP 0 rfl rfl 0 (by decide) hf_12 (fun _ h9 => h9) rfl dX1_end_12 ?_
  refine sm_callVv (wc := [(hh, .inr (0, [.ref hm, .ref aw, .ref ad])), (hm, .inr (2, [.ref bm, .int (nI (64 * sm_nb u))])), (bm, .inl (cI, 448, .inl fm3))]) (wr := [(hk, .inr (1, [.ref hh, .ref hB, .ref hI])), (aw, .inl (cI, 64, .inl fw3)), (ad, .inl (cI, 8, .inl fd3)), (hB, .inr (2, [.ref bB, .int (nI 64)])), (bB, .inl (cI, 64, .inl kb)), (hI, .inr (2, [.ref bI, .int (nI 32)])), (bI, .inl (cI, 32, .inl (sm_ap fI 0 (sm_sha fm u) 32))), (qr, .inr (2, [.ref rb, .int ur])), (rb, .inl (cI, nr, .inl fr))]) (As := []) (rest := []) ⟨hx, hb, hml, hown, hts⟩ (sc_X0_begin l D cI (some (tk, tf)) _ hh hm bm aw ad fm3 (nI (64 * sm_nb u)) ) (cwV 0 hts gX1_end_X0_begin rfl rfl rfl (by decide +kernel) ⟨Nat.le_of_ble_eq_true rfl, Nat.le_of_ble_eq_true rfl⟩) hP hD hS hA hK hT [1, 2, 3] [0, 4, 5, 6, 7, 8, 9, 10, 11] rfl rfl rfl rfl (by decide) 0 0 rfl rfl rfl rfl hl.1 rfl (Nat.le_of_ble_eq_true rfl) dX1_end_15 ⟨Nat.zero_le _, Nat.zero_le _⟩ (fun zt H1 locs ht hvm hB hJ hS => ?_)
  obtain ⟨hP1, -, hD1⟩ := hB
  rw [ht] at hP1
  obtain ⟨hP, hD⟩ := hJ _ hP1 hD1
  clear hJ
  generalize H1 = H at hP hS ⊢
  have hP : va_P D vwCl [(hk, .inr (1, [.ref hh, .ref hB, .ref hI])), (hh, .inr (0, [.ref hm, .ref aw, .ref ad])), (hm, .inr (2, [.ref bm, .int (nI 0)])), (bm, .inl (cI, 448, .inl fm3)), (aw, .inl (cI, 64, .inl fw3)), (ad, .inl (cI, 8, .inl fd3)), (hB, .inr (2, [.ref bB, .int (nI 64)])), (bB, .inl (cI, 64, .inl kb)), (hI, .inr (2, [.ref bI, .int (nI 32)])), (bI, .inl (cI, 32, .inl (sm_ap fI 0 (sm_sha fm u) 32))), (qr, .inr (2, [.ref rb, .int ur])), (rb, .inl (cI, nr, .inl fr))] H := hP.sub [0, 9, 10, 11, 1, 2, 3, 4, 5, 6, 7, 8] rfl
  have hD : va_D A [(hk, .inr (1, [.ref hh, .ref hB, .ref hI])), (hh, .inr (0, [.ref hm, .ref aw, .ref ad])), (hm, .inr (2, [.ref bm, .int (nI 0)])), (bm, .inl (cI, 448, .inl fm3)), (aw, .inl (cI, 64, .inl fw3)), (ad, .inl (cI, 8, .inl fd3)), (hB, .inr (2, [.ref bB, .int (nI 64)])), (bB, .inl (cI, 64, .inl kb)), (hI, .inr (2, [.ref bI, .int (nI 32)])), (bI, .inl (cI, 32, .inl (sm_ap fI 0 (sm_sha fm u) 32))), (qr, .inr (2, [.ref rb, .int ur])), (rb, .inl (cI, nr, .inl fr))] := hD.sub [0, 9, 10, 11, 1, 2, 3, 4, 5, 6, 7, 8] rfl rfl
  refine lv_aload_n hx hb dX1_end_18 rfl (lv_at hl 0 rfl) ?_
  refine va_get (D := D) (ci := 1) (v := .ref hh) (C := RX1) (T := TX1) (N := 3) hx hb hts hw_X1 hown hK hP 0 rfl rfl 0 (by decide) hf_12 (fun _ h9 => h9) rfl dX1_end_19 ?_
  refine lv_aload_n hx hb dX1_end_22 rfl (lv_at hl 0 rfl) ?_
  refine va_get (D := D) (ci := 1) (v := .ref hB) (C := RX1) (T := TX1) (N := 3) hx hb hts hw_X1 hown hK hP 0 rfl rfl 1 (by decide) hf_23 (fun _ h9 => h9) rfl dX1_end_23 ?_
  refine lv_bipush (v := 92) hx hb dX1_end_26 (by decide) ?_
  refine sm_callVv (wc := [(hh, .inr (0, [.ref hm, .ref aw, .ref ad])), (hm, .inr (2, [.ref bm, .int (nI 0)])), (bm, .inl (cI, 448, .inl fm3)), (hB, .inr (2, [.ref bB, .int (nI 64)])), (bB, .inl (cI, 64, .inl kb))]) (wr := [(hk, .inr (1, [.ref hh, .ref hB, .ref hI])), (aw, .inl (cI, 64, .inl fw3)), (ad, .inl (cI, 8, .inl fd3)), (hI, .inr (2, [.ref bI, .int (nI 32)])), (bI, .inl (cI, 32, .inl (sm_ap fI 0 (sm_sha fm u) 32))), (qr, .inr (2, [.ref rb, .int ur])), (rb, .inl (cI, nr, .inl fr))]) (As := [.ref hB, .int 92]) (rest := []) ⟨hx, hb, hml, hown, hts⟩ (sc_X0_addXor l D cI (some (tk, tf)) _ hh hm bm aw ad 0 hB bB 64 64 fm3 kb 92 (by decide) (by decide) (by decide)) (cwV 2 hts gX1_end_X0_addXor rfl rfl rfl (by decide +kernel) ⟨Nat.le_of_ble_eq_true rfl, Nat.le_of_ble_eq_true rfl⟩) hP hD hS hA hK hT [1, 2, 3, 6, 7] [0, 4, 5, 8, 9, 10, 11] rfl rfl rfl rfl (by decide) 0 0 rfl rfl rfl rfl hl.1 rfl (Nat.le_of_ble_eq_true rfl) dX1_end_28 ⟨Nat.zero_le _, Nat.zero_le _⟩ (fun zt H1 locs ht hvm hB hJ hS => ?_)
  obtain ⟨hP1, -, hD1⟩ := hB
  rw [ht] at hP1
  obtain ⟨hP, hD⟩ := hJ _ hP1 hD1
  clear hJ
  generalize H1 = H at hP hS ⊢
  have hP : va_P D vwCl [(hk, .inr (1, [.ref hh, .ref hB, .ref hI])), (hh, .inr (0, [.ref hm, .ref aw, .ref ad])), (hm, .inr (2, [.ref bm, .int (nI (0 + 64))])), (bm, .inl (cI, 448, .inl (sm_ap fm3 0 (fun j => kb j ^^^ 92) 64))), (aw, .inl (cI, 64, .inl fw3)), (ad, .inl (cI, 8, .inl fd3)), (hB, .inr (2, [.ref bB, .int (nI 64)])), (bB, .inl (cI, 64, .inl kb)), (hI, .inr (2, [.ref bI, .int (nI 32)])), (bI, .inl (cI, 32, .inl (sm_ap fI 0 (sm_sha fm u) 32))), (qr, .inr (2, [.ref rb, .int ur])), (rb, .inl (cI, nr, .inl fr))] H := hP.sub [0, 7, 8, 9, 1, 2, 10, 11, 3, 4, 5, 6] rfl
  have hD : va_D A [(hk, .inr (1, [.ref hh, .ref hB, .ref hI])), (hh, .inr (0, [.ref hm, .ref aw, .ref ad])), (hm, .inr (2, [.ref bm, .int (nI (0 + 64))])), (bm, .inl (cI, 448, .inl (sm_ap fm3 0 (fun j => kb j ^^^ 92) 64))), (aw, .inl (cI, 64, .inl fw3)), (ad, .inl (cI, 8, .inl fd3)), (hB, .inr (2, [.ref bB, .int (nI 64)])), (bB, .inl (cI, 64, .inl kb)), (hI, .inr (2, [.ref bI, .int (nI 32)])), (bI, .inl (cI, 32, .inl (sm_ap fI 0 (sm_sha fm u) 32))), (qr, .inr (2, [.ref rb, .int ur])), (rb, .inl (cI, nr, .inl fr))] := hD.sub [0, 7, 8, 9, 1, 2, 10, 11, 3, 4, 5, 6] rfl rfl
  refine lv_aload_n hx hb dX1_end_31 rfl (lv_at hl 0 rfl) ?_
  refine va_get (D := D) (ci := 1) (v := .ref hh) (C := RX1) (T := TX1) (N := 3) hx hb hts hw_X1 hown hK hP 0 rfl rfl 0 (by decide) hf_12 (fun _ h9 => h9) rfl dX1_end_32 ?_
  refine lv_aload_n hx hb dX1_end_35 rfl (lv_at hl 0 rfl) ?_
  refine va_get (D := D) (ci := 1) (v := .ref hI) (C := RX1) (T := TX1) (N := 3) hx hb hts hw_X1 hown hK hP 0 rfl rfl 2 (by decide) hf_27 (fun _ h9 => h9) rfl dX1_end_36 ?_
  refine sm_callVv (wc := [(hh, .inr (0, [.ref hm, .ref aw, .ref ad])), (hm, .inr (2, [.ref bm, .int (nI (0 + 64))])), (bm, .inl (cI, 448, .inl (sm_ap fm3 0 (fun j => kb j ^^^ 92) 64))), (hI, .inr (2, [.ref bI, .int (nI 32)])), (bI, .inl (cI, 32, .inl (sm_ap fI 0 (sm_sha fm u) 32)))]) (wr := [(hk, .inr (1, [.ref hh, .ref hB, .ref hI])), (aw, .inl (cI, 64, .inl fw3)), (ad, .inl (cI, 8, .inl fd3)), (hB, .inr (2, [.ref bB, .int (nI 64)])), (bB, .inl (cI, 64, .inl kb)), (qr, .inr (2, [.ref rb, .int ur])), (rb, .inl (cI, nr, .inl fr))]) (As := [.ref hI]) (rest := []) ⟨hx, hb, hml, hown, hts⟩ (sc_X0_add l D cI (some (tk, tf)) _ hh hm bm aw ad (0 + 64) hI bI 32 32 (sm_ap fm3 0 (fun j => kb j ^^^ 92) 64) (sm_ap fI 0 (sm_sha fm u) 32) (by decide) (by decide) (by decide)) (cwV 1 hts gX1_end_X0_add rfl rfl rfl (by decide +kernel) ⟨Nat.le_of_ble_eq_true rfl, Nat.le_of_ble_eq_true rfl⟩) hP hD hS hA hK hT [1, 2, 3, 8, 9] [0, 4, 5, 6, 7, 10, 11] rfl rfl rfl rfl (by decide) 0 0 rfl rfl rfl rfl hl.1 rfl (Nat.le_of_ble_eq_true rfl) dX1_end_39 ⟨Nat.zero_le _, Nat.zero_le _⟩ (fun zt H1 locs ht hvm hB hJ hS => ?_)
  obtain ⟨hP1, -, hD1⟩ := hB
  rw [ht] at hP1
  obtain ⟨hP, hD⟩ := hJ _ hP1 hD1
  clear hJ
  generalize H1 = H at hP hS ⊢
  have hP : va_P D vwCl [(hk, .inr (1, [.ref hh, .ref hB, .ref hI])), (hh, .inr (0, [.ref hm, .ref aw, .ref ad])), (hm, .inr (2, [.ref bm, .int (nI (0 + 64 + 32))])), (bm, .inl (cI, 448, .inl (sm_ap (sm_ap fm3 0 (fun j => kb j ^^^ 92) 64) (0 + 64) (sm_ap fI 0 (sm_sha fm u) 32) 32))), (aw, .inl (cI, 64, .inl fw3)), (ad, .inl (cI, 8, .inl fd3)), (hB, .inr (2, [.ref bB, .int (nI 64)])), (bB, .inl (cI, 64, .inl kb)), (hI, .inr (2, [.ref bI, .int (nI 32)])), (bI, .inl (cI, 32, .inl (sm_ap fI 0 (sm_sha fm u) 32))), (qr, .inr (2, [.ref rb, .int ur])), (rb, .inl (cI, nr, .inl fr))] H := hP.sub [0, 7, 8, 9, 1, 2, 3, 4, 10, 11, 5, 6] rfl
  have hD : va_D A [(hk, .inr (1, [.ref hh, .ref hB, .ref hI])), (hh, .inr (0, [.ref hm, .ref aw, .ref ad])), (hm, .inr (2, [.ref bm, .int (nI (0 + 64 + 32))])), (bm, .inl (cI, 448, .inl (sm_ap (sm_ap fm3 0 (fun j => kb j ^^^ 92) 64) (0 + 64) (sm_ap fI 0 (sm_sha fm u) 32) 32))), (aw, .inl (cI, 64, .inl fw3)), (ad, .inl (cI, 8, .inl fd3)), (hB, .inr (2, [.ref bB, .int (nI 64)])), (bB, .inl (cI, 64, .inl kb)), (hI, .inr (2, [.ref bI, .int (nI 32)])), (bI, .inl (cI, 32, .inl (sm_ap fI 0 (sm_sha fm u) 32))), (qr, .inr (2, [.ref rb, .int ur])), (rb, .inl (cI, nr, .inl fr))] := hD.sub [0, 7, 8, 9, 1, 2, 3, 4, 10, 11, 5, 6] rfl rfl
  refine lv_aload_n hx hb dX1_end_42 rfl (lv_at hl 0 rfl) ?_
  refine va_get (D := D) (ci := 1) (v := .ref hh) (C := RX1) (T := TX1) (N := 3) hx hb hts hw_X1 hown hK hP 0 rfl rfl 0 (by decide) hf_12 (fun _ h9 => h9) rfl dX1_end_43 ?_
  refine lv_aload_n hx hb dX1_end_46 rfl (lv_at hl 1 rfl) ?_
  refine sm_callVv (wc := [(hh, .inr (0, [.ref hm, .ref aw, .ref ad])), (hm, .inr (2, [.ref bm, .int (nI (0 + 64 + 32))])), (bm, .inl (cI, 448, .inl (sm_ap (sm_ap fm3 0 (fun j => kb j ^^^ 92) 64) (0 + 64) (sm_ap fI 0 (sm_sha fm u) 32) 32))), (aw, .inl (cI, 64, .inl fw3)), (ad, .inl (cI, 8, .inl fd3)), (qr, .inr (2, [.ref rb, .int ur])), (rb, .inl (cI, nr, .inl fr))]) (wr := [(hk, .inr (1, [.ref hh, .ref hB, .ref hI])), (hB, .inr (2, [.ref bB, .int (nI 64)])), (bB, .inl (cI, 64, .inl kb)), (hI, .inr (2, [.ref bI, .int (nI 32)])), (bI, .inl (cI, 32, .inl (sm_ap fI 0 (sm_sha fm u) 32)))]) (As := [.ref qr]) (rest := []) ⟨hx, hb, hml, hown, hts⟩ (sc_X0_end l D cI tk tf _ hh hm bm aw ad qr rb nr (0 + 64 + 32) (sm_ap (sm_ap fm3 0 (fun j => kb j ^^^ 92) 64) (0 + 64) (sm_ap fI 0 (sm_sha fm u) 32) 32) fw3 fd3 fr ur (by decide) hr32 hnr) (cwV 1 hts gX1_end_X0_end rfl rfl rfl (by decide +kernel) ⟨Nat.le_of_ble_eq_true rfl, Nat.le_of_ble_eq_true rfl⟩) hP hD hS hA hK hT [1, 2, 3, 4, 5, 10, 11] [0, 6, 7, 8, 9] rfl rfl rfl rfl (by decide) 0 0 rfl rfl rfl rfl hl.1 rfl (Nat.le_of_ble_eq_true rfl) dX1_end_47 ⟨Nat.zero_le _, Nat.zero_le _⟩ (fun zt H1 locs ht hvm hB hJ hS => ?_)
  obtain ⟨fm4, fw4, fd4, hP1, -, hD1⟩ := hB
  rw [ht] at hP1
  obtain ⟨hP, hD⟩ := hJ _ hP1 hD1
  clear hJ
  generalize H1 = H at hP hS ⊢
  have hP : va_P D vwCl [(hk, .inr (1, [.ref hh, .ref hB, .ref hI])), (hh, .inr (0, [.ref hm, .ref aw, .ref ad])), (hm, .inr (2, [.ref bm, .int (nI (64 * sm_nb (0 + 64 + 32)))])), (bm, .inl (cI, 448, .inl fm4)), (aw, .inl (cI, 64, .inl fw4)), (ad, .inl (cI, 8, .inl fd4)), (hB, .inr (2, [.ref bB, .int (nI 64)])), (bB, .inl (cI, 64, .inl kb)), (hI, .inr (2, [.ref bI, .int (nI 32)])), (bI, .inl (cI, 32, .inl (sm_ap fI 0 (sm_sha fm u) 32))), (qr, .inr (2, [.ref rb, .int (nI 32)])), (rb, .inl (cI, nr, .inl (sm_ap fr 0 (sm_sha (sm_ap (sm_ap fm3 0 (fun j => kb j ^^^ 92) 64) (0 + 64) (sm_ap fI 0 (sm_sha fm u) 32) 32) (0 + 64 + 32)) 32)))] H := hP.sub [0, 5, 6, 7, 8, 9, 1, 2, 3, 4, 10, 11] rfl
  have hD : va_D A [(hk, .inr (1, [.ref hh, .ref hB, .ref hI])), (hh, .inr (0, [.ref hm, .ref aw, .ref ad])), (hm, .inr (2, [.ref bm, .int (nI (64 * sm_nb (0 + 64 + 32)))])), (bm, .inl (cI, 448, .inl fm4)), (aw, .inl (cI, 64, .inl fw4)), (ad, .inl (cI, 8, .inl fd4)), (hB, .inr (2, [.ref bB, .int (nI 64)])), (bB, .inl (cI, 64, .inl kb)), (hI, .inr (2, [.ref bI, .int (nI 32)])), (bI, .inl (cI, 32, .inl (sm_ap fI 0 (sm_sha fm u) 32))), (qr, .inr (2, [.ref rb, .int (nI 32)])), (rb, .inl (cI, nr, .inl (sm_ap fr 0 (sm_sha (sm_ap (sm_ap fm3 0 (fun j => kb j ^^^ 92) 64) (0 + 64) (sm_ap fI 0 (sm_sha fm u) 32) 32) (0 + 64 + 32)) 32)))] := hD.sub [0, 5, 6, 7, 8, 9, 1, 2, 3, 4, 10, 11] rfl rfl
  rw [hQ]
  rw [sm_outE] at hP hD
  have hP9 : va_P D vwCl [(hk, .inr (1, [.ref hh, .ref hB, .ref hI])), (hh, .inr (0, [.ref hm, .ref aw, .ref ad])), (hm, .inr (2, [.ref bm, .int (nI (64 * sm_nb (0 + 64 + 32)))])), (bm, .inl (cI, 448, .inl fm4)), (aw, .inl (cI, 64, .inl fw4)), (ad, .inl (cI, 8, .inl fd4)), (hB, .inr (2, [.ref bB, .int (nI 64)])), (bB, .inl (cI, 64, .inl kb)), (hI, .inr (2, [.ref bI, .int (nI 32)])), (bI, .inl (cI, 32, .inl (sm_ap fI 0 (sm_sha fm u) 32))), (qr, .inr (2, [.ref rb, .int (nI 32)])), (rb, .inl (cI, nr, .inl (sm_ap fr 0 (sm_out kb (sm_sha fm u)) 32)))] H := hP
  have hD9 : va_D A [(hk, .inr (1, [.ref hh, .ref hB, .ref hI])), (hh, .inr (0, [.ref hm, .ref aw, .ref ad])), (hm, .inr (2, [.ref bm, .int (nI (64 * sm_nb (0 + 64 + 32)))])), (bm, .inl (cI, 448, .inl fm4)), (aw, .inl (cI, 64, .inl fw4)), (ad, .inl (cI, 8, .inl fd4)), (hB, .inr (2, [.ref bB, .int (nI 64)])), (bB, .inl (cI, 64, .inl kb)), (hI, .inr (2, [.ref bI, .int (nI 32)])), (bI, .inl (cI, 32, .inl (sm_ap fI 0 (sm_sha fm u) 32))), (qr, .inr (2, [.ref rb, .int (nI 32)])), (rb, .inl (cI, nr, .inl (sm_ap fr 0 (sm_out kb (sm_sha fm u)) 32)))] := hD
  exact W.vret hx hb hr (fun t ht hW => ⟨⟨(), rfl, trivial, ⟨_, _, _, _, _, by rw [ht]; exact hP9, va_K.moved hW.alike hK, hD9⟩⟩, hS.F ht⟩) hS.2.2 dX1_end_50
