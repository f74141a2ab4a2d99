-- the two static tables, as the Statement gives them
set_option maxRecDepth 100000 in
theorem sm_flK : ∀ j, j < 64 → (flatC (Jvm.Cond.and given_1 narrow_1))[18 + j]? = some (Cond.eq (.elem (.static "SeedMill$Hasher" "K" "[I") (.int (Int32.ofNat j))) (.int (sm_K j))) := by decide +kernel
set_option maxRecDepth 100000 in
theorem sm_flF : ∀ j, j < 8 → (flatC (Jvm.Cond.and given_1 narrow_1))[7 + j]? = some (Cond.eq (.elem (.static "SeedMill$Hasher" "FIRST_STATE" "[I") (.int (Int32.ofNat j))) (.int (sm_F j))) := by decide +kernel
set_option maxRecDepth 100000 in
theorem sm_fl16 : (flatC (Jvm.Cond.and given_1 narrow_1))[16]? = some (Cond.arrayOf (.static "SeedMill$Hasher" "K" "[I") .int) ∧ (flatC (Jvm.Cond.and given_1 narrow_1))[17]? = some (Cond.eq (.length (.static "SeedMill$Hasher" "K" "[I")) (.int 64)) ∧ (flatC (Jvm.Cond.and given_1 narrow_1))[5]? = some (Cond.arrayOf (.static "SeedMill$Hasher" "FIRST_STATE" "[I") .int) ∧ (flatC (Jvm.Cond.and given_1 narrow_1))[6]? = some (Cond.eq (.length (.static "SeedMill$Hasher" "FIRST_STATE" "[I")) (.int 8)) := by decide +kernel
set_option maxRecDepth 100000 in
theorem sm_tb : lw_tbl[46]? = some (.arrayClass .int) ∧ lw_tbl[49]? = some (.methodLinkNest RX3 38 yX0_init "SeedMill") ∧ lw_tbl[67]? = some (.methodLinkNest RX3 45 yX1_init "SeedMill") ∧ lw_tbl[72]? = some (.methodLinkNest RX1 11 yX0_init "SeedMill") ∧ lw_tbl[198]? = some (.laysStatic "SeedMill$Hasher" "FIRST_STATE" "[I") ∧ lw_tbl[225]? = some (.laysStatic "SeedMill$Hasher" "K" "[I") ∧ lw_tbl[18]? = some (.initialized "SeedMill$Hasher") := by decide +kernel
set_option maxRecDepth 100000 in
theorem sm_ti : lw_tbl[26]? = some (.instantiable RX3 12) ∧ lw_tbl[323]? = some (.instantiable RX4 22) ∧ lw_tbl[34]? = some (.instantiable RX2 2) ∧ lw_tbl[48]? = some (.instantiable RX0 3) ∧ lw_tbl[66]? = some (.instantiable RX1 3) := by decide +kernel
set_option maxHeartbeats 4000000 in
theorem sm_tab_start {p : Program} {s : State} {m : MethodId} {meth : Method} {c : Code} {b L : Nat} {xs : Nat → Int32} (C0 : lw_At p s m meth c b L xs) : ∃ tk tf : Nat, sm_tab (some (tk, tf)) (fun q : Nat => s.heap.size ≤ q) s s.heap := by
  obtain ⟨hx, hb, hr, hml, hown, hts, hX, hbl, hlocks, hgv⟩ := C0
  have hs := flat_of_before _ hgv
  obtain ⟨f16, f17, f5, f6⟩ := sm_fl16
  obtain ⟨t1, t2, t3, t4, t5, t6, t7⟩ := sm_tb
  have hA : ∀ a : Nat, a < s.heap.size → ¬ (fun q : Nat => s.heap.size ≤ q) a := fun a ha => Nat.not_le.mpr ha
  obtain ⟨tk, htk, hTk⟩ := va_Tof (A := fun q : Nat => s.heap.size ≤ q) (N := 64) (f := fun j => .int (sm_K j)) (by decide) (hs _ (List.mem_of_getElem? f16)) (va_eqt (hs _ (List.mem_of_getElem? f17))) (fun j hj => va_eqt (hs _ (List.mem_of_getElem? (sm_flK j hj)))) hA
  obtain ⟨tf, htf, hTf⟩ := va_Tof (A := fun q : Nat => s.heap.size ≤ q) (N := 8) (f := fun j => .int (sm_F j)) (by decide) (hs _ (List.mem_of_getElem? f5)) (va_eqt (hs _ (List.mem_of_getElem? f6))) (fun j hj => va_eqt (hs _ (List.mem_of_getElem? (sm_flF j hj)))) hA
  exact ⟨tk, tf, ⟨va_Zof (hts _ (List.mem_of_getElem? t6)) (hts _ (List.mem_of_getElem? t7)) htk hA, hTk⟩, ⟨va_Zof (hts _ (List.mem_of_getElem? t5)) (hts _ (List.mem_of_getElem? t7)) htf hA, hTf⟩⟩
theorem sm_L_more {D : va_G} {cI : ClassId} {A : Nat → Prop} {qs zm k : Nat} {H : Heap} (h : sm_L D cI A qs zm k H) : sm_L D cI A qs zm (k + 1) H := by
  obtain ⟨ad, nn, zz, fn, h1, h2, h3, h4, h5, h6, h7, h8, h9, h10, h11, hP, hD⟩ := h
  exact ⟨ad, nn, zz, fn, h1, h2, h3, by omega, h5, h6, h7, h8, h9, h10, h11, hP, hD⟩

set_option maxHeartbeats 4000000 in
set_option maxRecDepth 100000 in
/-- THE LAW'S LOOP -/
theorem law_loop {p : Program} {l : Launch} {e : Env} {s : State} {m : MethodId} {below : List Frame} {meth : Method} {c : Code} {D : va_G} {cI : ClassId} {tk tf b L : Nat} {xs : Nat → Int32} (hL : L ≤ 2048) (C0 : lw_At p s m meth c b L xs) (hK : va_K D vwCl [(cI, .int)] s) (hT : sm_tab (some (tk, tf)) (fun q : Nat => s.heap.size ≤ q) s s.heap) (qs zm : Nat) :
    ∀ (n k i : Nat) (H : Heap) (locs : List Loc) (ls : Array Slot), i = 4 * k → i ≤ L → L < i + 4 * n → sm_L D cI (fun q : Nat => s.heap.size ≤ q) qs zm k H → va_S (fun q : Nat => s.heap.size ≤ q) s.heap H locs → lv_has ls 4 [(3, .int (nI i)), (2, .ref zm), (1, .ref qs), (0, .ref b)] → W p l e room_1 s m #[Value.ref b] below meth c H locs 44 4177 (lw_Z below #[Value.ref b] s) (F0 m 18 ls []) := by
  obtain ⟨hx, hb, hr, hml, hown, hts, hX, hbl, hlocks, hgv⟩ := id C0
  have hbA : ¬ (fun q : Nat => s.heap.size ≤ q) b := Nat.not_le.mpr hbl
  intro n
  induction n with
  | zero =>
    intro k i H locs ls h1 h2 h3
    exact absurd h3 (by omega)
  | succ n ih =>
    intro k i H locs ls hik hiL hn hI hS hl
    have hk : k ≤ 512 := by omega
    refine lv_iload_n hx hb dL_law_18 rfl (lv_at hl 0 rfl) ?_
    refine lv_aload_n hx hb dL_law_19 rfl (lv_at hl 3 rfl) ?_
    refine va_slen hx hb hX hbl hbA hS dL_law_20 ?_
    refine lv_iconst (v := 4) hx hb dL_law_21 (by decide) ?_
    refine lv_isub hx hb dL_law_22 ?_
    refine lv_icmp_gt (tgt := 439) hx hb dL_law_23 (by decide) (fun c_23 => ?_) (fun c_23 => ?_)
    · refine lv_iconst (v := 1) hx hb dL_law_439 (by decide) ?_
      refine va_forget (fun q hq => hS.2.2 q hq) ?_
      refine W.widen (k := 600000) (n := 7302250) (by omega) (by omega) ?_
      exact lw_ret hx hb hr hlocks dL_law_440
    · have hi4 : i + 4 ≤ L := by
        rcases Nat.lt_or_ge L (i + 4) with q | q
        · exact absurd ((sm_lt4 hL (by omega)).mpr q) c_23
        · exact q
      have kk : ∀ (H : Heap) (locs : List Loc) (ls : Array Slot), sm_L D cI (fun q : Nat => s.heap.size ≤ q) qs zm (k + 1) H → va_S (fun q : Nat => s.heap.size ≤ q) s.heap H locs → lv_has ls 4 [(3, .int (nI i)), (2, .ref zm), (1, .ref qs), (0, .ref b)] → W p l e room_1 s m #[Value.ref b] below meth c H locs 44 4177 (lw_Z below #[Value.ref b] s) (F0 m 433 ls []) := by
        intro H locs ls hI hS hl
        refine lv_iinc (v := nI (i + 4)) (lv' := [(3, .int (nI (i + 4))), (2, .ref zm), (1, .ref qs), (0, .ref b)]) hx hb dL_law_433 hl (k := 0) rfl (nI_add i 4) (by decide) rfl (fun ls hl => ?_)
        refine lv_goto (tgt := 18) hx hb dL_law_436 (by decide) ?_
        exact ih (k + 1) (i + 4) H locs ls (by omega) (by omega) (by omega) hI hS hl
      refine lv_aload_n hx hb dL_law_26 rfl (lv_at hl 3 rfl) ?_
      refine lv_iload_n hx hb dL_law_27 rfl (lv_at hl 0 rfl) ?_
      refine va_sld (i := nI i) hx hb hX hbl hbA hS (vp_in_nI (by omega) (by omega)) dL_law_28 ?_
      refine lv_bipush (v := 15) hx hb dL_law_29 (by decide) ?_
      refine lv_iand hx hb dL_law_31 ?_
      obtain ⟨j, hj, ej⟩ := pk_andE (xs (nI i).toNatClampNeg) (m := 15) 4 rfl
      refine sm_top ej ?_
      rcases (show j = 0 ∨ j = 1 ∨ j = 2 ∨ j = 3 ∨ j = 4 ∨ j = 5 ∨ j = 6 ∨ j = 7 ∨ j = 8 ∨ j = 9 ∨ j = 10 ∨ j = 11 ∨ j = 12 ∨ j = 13 ∨ j = 14 ∨ j = 15 by omega) with rfl | rfl | rfl | rfl | rfl | rfl | rfl | rfl | rfl | rfl | rfl | rfl | rfl | rfl | rfl | rfl
      · refine lv_tableIn (tgt := 108) (off := 76) hx hb dL_law_32 (by decide) (by decide) (by decide) (by decide) ?_
        exact lc_0 C0 hK hT qs zm k i hi4 hL hk kk H locs ls hI hS hl
      · refine lv_tableIn (tgt := 171) (off := 139) hx hb dL_law_32 (by decide) (by decide) (by decide) (by decide) ?_
        exact lc_1 C0 hK hT qs zm k i hi4 hL hk kk H locs ls hI hS hl
      · refine lv_tableIn (tgt := 184) (off := 152) hx hb dL_law_32 (by decide) (by decide) (by decide) (by decide) ?_
        exact lc_2 C0 hK hT qs zm k i hi4 hL hk kk H locs ls hI hS hl
      · refine lv_tableIn (tgt := 197) (off := 165) hx hb dL_law_32 (by decide) (by decide) (by decide) (by decide) ?_
        exact lc_3 C0 hK hT qs zm k i hi4 hL hk kk H locs ls hI hS hl
      · refine lv_tableIn (tgt := 210) (off := 178) hx hb dL_law_32 (by decide) (by decide) (by decide) (by decide) ?_
        exact lc_4 C0 hK hT qs zm k i hi4 hL hk kk H locs ls hI hS hl
      · refine lv_tableIn (tgt := 233) (off := 201) hx hb dL_law_32 (by decide) (by decide) (by decide) (by decide) ?_
        exact lc_5 C0 hK hT qs zm k i hi4 hL hk kk H locs ls hI hS hl
      · refine lv_tableIn (tgt := 256) (off := 224) hx hb dL_law_32 (by decide) (by decide) (by decide) (by decide) ?_
        exact lc_6 C0 hK hT qs zm k i hi4 hL hk kk H locs ls hI hS hl
      · refine lv_tableIn (tgt := 279) (off := 247) hx hb dL_law_32 (by decide) (by decide) (by decide) (by decide) ?_
        exact lc_7 C0 hK hT qs zm k i hi4 hL hk kk H locs ls hI hS hl
      · refine lv_tableIn (tgt := 292) (off := 260) hx hb dL_law_32 (by decide) (by decide) (by decide) (by decide) ?_
        exact lc_8 C0 hK hT qs zm k i hi4 hL hk kk H locs ls hI hS hl
      · refine lv_tableIn (tgt := 325) (off := 293) hx hb dL_law_32 (by decide) (by decide) (by decide) (by decide) ?_
        exact lc_9 C0 hK hT qs zm k i hi4 hL hk kk H locs ls hI hS hl
      · refine lv_tableIn (tgt := 338) (off := 306) hx hb dL_law_32 (by decide) (by decide) (by decide) (by decide) ?_
        exact lc_10 C0 hK hT qs zm k i hi4 hL hk kk H locs ls hI hS hl
      · refine lv_tableIn (tgt := 361) (off := 329) hx hb dL_law_32 (by decide) (by decide) (by decide) (by decide) ?_
        exact lc_11 C0 hK hT qs zm k i hi4 hL hk kk H locs ls hI hS hl
      · refine lv_tableIn (tgt := 374) (off := 342) hx hb dL_law_32 (by decide) (by decide) (by decide) (by decide) ?_
        exact lc_12 C0 hK hT qs zm k i hi4 hL hk kk H locs ls hI hS hl
      · refine lv_tableIn (tgt := 397) (off := 365) hx hb dL_law_32 (by decide) (by decide) (by decide) (by decide) ?_
        exact lc_13 C0 hK hT qs zm k i hi4 hL hk kk H locs ls hI hS hl
      · refine lv_tableIn (tgt := 420) (off := 388) hx hb dL_law_32 (by decide) (by decide) (by decide) (by decide) ?_
        exact lc_14 C0 hK hT qs zm k i hi4 hL hk kk H locs ls hI hS hl
      · refine lv_tableOut (tgt := 433) hx hb dL_law_32 (by decide) (by decide) ?_
        exact kk H locs ls (sm_L_more hI) hS hl

set_option maxHeartbeats 4000000 in
set_option maxRecDepth 100000 in
/-- THE LAW, from its entry -/
theorem whole_start {p : Program} {e : Env} {s : State} {m : MethodId} {below : List Frame} {meth : Method} {c : Code} (l : Launch) {b L : Nat} {xs : Nat → Int32} (hL : L ≤ 2048) (C0 : lw_At p s m meth c b L xs) : W p l e room_1 s m #[Value.ref b] below meth c s.heap [] 0 0 (lw_Z below #[Value.ref b] s) (entryFrame m ([Value.ref b] : List Value).toArray 4) := by
  obtain ⟨hx, hb, hr, hml, hown, hts0, hX, hbl, hlocks, hgv⟩ := id C0
  have hts : ∀ w ∈ wsL_law, w.before #[Value.ref b] s = true := fun w h => hts0 w (wsL_law_in w h)
  have hA : ∀ q : Nat, s.heap.size ≤ q → (fun q : Nat => s.heap.size ≤ q) q := fun _ h => h
  have hbA : ¬ (fun q : Nat => s.heap.size ≤ q) b := Nat.not_le.mpr hbl
  obtain ⟨t1, t2, t3, t4, t5, t6, t7⟩ := sm_tb
  obtain ⟨i3, i4, i2, i0, i1⟩ := sm_ti
  have hN : sm_nw s := ⟨va_Nw.of rfl (hts0 _ (List.mem_of_getElem? t2)), va_Nw.of rfl (hts0 _ (List.mem_of_getElem? t3)), va_Nw.of rfl (hts0 _ (List.mem_of_getElem? t4))⟩
  obtain ⟨tk, tf, hT⟩ := sm_tab_start C0
  obtain ⟨c0, iS0, hKn0⟩ := u_known (C := RX0) (T := TX0) (N := 3) (n := 3) hts0 inX0 (hts0 _ (List.mem_of_getElem? i0))
  obtain ⟨c1, iS1, hKn1⟩ := u_known (C := RX1) (T := TX1) (N := 3) (n := 3) hts0 inX1 (hts0 _ (List.mem_of_getElem? i1))
  obtain ⟨c2, iS2, hKn2⟩ := u_known (C := RX2) (T := TX2) (N := 2) (n := 2) hts0 inX2 (hts0 _ (List.mem_of_getElem? i2))
  obtain ⟨c3, iS3, hKn3⟩ := u_known (C := RX3) (T := TX3) (N := 12) (n := 12) hts0 inX3 (hts0 _ (List.mem_of_getElem? i3))
  obtain ⟨c4, iS4, hKn4⟩ := u_known (C := RX4) (T := TX4) (N := 22) (n := 22) hts0 inX4 (hts0 _ (List.mem_of_getElem? i4))
  obtain ⟨D, hKc⟩ : ∃ D : va_G, ∀ (k : Nat) (q : vw_C), vwCl[k]? = some q → u_Kn s q.1 q.2.1 q.2.2 (D.1 k) (D.2 k) := by
    refine ⟨(fun k => if k = 0 then c0 else if k = 1 then c1 else if k = 2 then c2 else if k = 3 then c3 else c4, fun k => if k = 0 then iS0 else if k = 1 then iS1 else if k = 2 then iS2 else if k = 3 then iS3 else iS4), ?_⟩
    intro k q hq
    match k, hq with
    | 0, hq => cases hq; exact hKn0
    | 1, hq => cases hq; exact hKn1
    | 2, hq => cases hq; exact hKn2
    | 3, hq => cases hq; exact hKn3
    | 4, hq => cases hq; exact hKn4
    | k + 5, hq => simp [vwCl] at hq
  obtain ⟨cI, kI, comp, hcI, hkI, hkind⟩ := Cond.arrayClass_spec (hts0 _ (List.mem_of_getElem? t1))
  have hK : va_K D vwCl [(cI, .int)] s := by
    refine ⟨hKc, fun k q h => ?_⟩
    match k, h with
    | 0, h => cases h; exact ⟨fun n z => ⟨fun k h => (by cases h), kI, hkI, comp, hkind⟩, hcI⟩
    | k + 1, h => simp at h
  have hS : va_S (fun q : Nat => s.heap.size ≤ q) s.heap s.heap [] := va_S.rf
  have hP : va_P D vwCl [] s.heap := fun k q h => by simp at h
  have hD : va_D (fun q : Nat => s.heap.size ≤ q) [] := ⟨fun i j p q h => by simp at h, fun k q h => by simp at h⟩
  have hl := lv_entry ([.ref b]) (n := 4) (Nat.le_of_ble_eq_true rfl)
  rw [lg_entry_eq]
  generalize (lg_sl ([.ref b]) ++ List.replicate (4 - (lg_sl ([.ref b])).length) Slot.unset).toArray = ls at hl ⊢
  have hl : lv_has ls 4 [(0, .ref b)] := hl
  refine va_new (ci := 3) (fs := [.null, .null, .null, .null, .null, .null, .null, .null, .null, .int 0, .int 0, .int 0]) (C := RX3) (T := TX3) (N := 12) hx hb hts0 inX3 tyX3 tyX3_ok hown (hts (.classLink RL 7 RX3) (by decide +kernel)) (hts0 _ (List.mem_of_getElem? i3)) (hts (.initialized RX3) (by decide +kernel)) hK hP hD hS hA rfl (fun j hj => by rcases (show j = 0 ∨ j = 1 ∨ j = 2 ∨ j = 3 ∨ j = 4 ∨ j = 5 ∨ j = 6 ∨ j = 7 ∨ j = 8 ∨ j = 9 ∨ j = 10 ∨ j = 11 by omega) with rfl | rfl | rfl | rfl | rfl | rfl | rfl | rfl | rfl | rfl | rfl | rfl <;> rfl) (by show _ ≤ 600000; omega) (by show _ ≤ 7302250; omega) dL_law_0 (fun qs H hP hD hS => ?_)
  have hP : va_P D vwCl [(qs, .inr (3, [.null, .null, .null, .null, .null, .null, .null, .null, .null, .int 0, .int 0, .int 0]))] H := hP
  have hD : va_D (fun q : Nat => s.heap.size ≤ q) [(qs, .inr (3, [.null, .null, .null, .null, .null, .null, .null, .null, .null, .int 0, .int 0, .int 0]))] := hD
  refine lv_dup hx hb dL_law_3 rfl ?_
  refine sm_callI2 (wc := [(qs, .inr (3, [.null, .null, .null, .null, .null, .null, .null, .null, .null, .int 0, .int 0, .int 0]))]) (wr := []) (As := []) (rest := [.ref qs]) ⟨hx, hb, hml, hown, hts⟩ (sc_X3_init l D cI (some (tk, tf)) _ qs ) (cwI 0 hts gL_law_X3_init rfl rfl rfl (hts (.initialized RX3) (by decide +kernel)) (hts (.methodLink RL 9 yX3_init) (by decide +kernel)) (hts (.instanceMethod yX3_init) (by decide +kernel)) rfl (by decide +kernel) ⟨Nat.le_of_ble_eq_true rfl, Nat.le_of_ble_eq_true rfl⟩) hN hP hD hS hA hK hT [0] [] rfl rfl rfl rfl (by decide) rfl hl.1 rfl (Nat.le_of_ble_eq_true rfl) dL_law_4 ⟨by show _ ≤ 600000; omega, by show _ ≤ 7302250; omega⟩ (fun zt H1 locs ht hvm hB hJ hS => ?_)
  obtain ⟨qi, bi, qo, bo, qd, bd, qk, bk, qv, bv, qf, bf, qa, ba, gh, gm, gb, gw, gd, hk, hh, hm, bm, aw, ad, hB, bB, hI, bI, hP1, -, hD1⟩ := hB
  rw [ht] at hP1
  obtain ⟨hP, hD⟩ := hJ _ hP1 hD1
  clear hJ
  generalize H1 = H at hP hS ⊢
  have hP : va_P D vwCl [(qs, .inr (3, [.ref qi, .ref qo, .ref qd, .ref qk, .ref qv, .ref qf, .ref qa, .ref gh, .ref hk, .int (nI 0), .int 100, .int 0])), (qi, .inr (2, [.ref bi, .int (nI 0)])), (bi, .inl (cI, 300, .inl (fun _ => 0))), (qo, .inr (2, [.ref bo, .int (nI 0)])), (bo, .inl (cI, 300, .inl (fun _ => 0))), (qd, .inr (2, [.ref bd, .int (nI 0)])), (bd, .inl (cI, 400, .inl (fun _ => 0))), (qk, .inr (2, [.ref bk, .int (nI 0)])), (bk, .inl (cI, 32, .inl (fun _ => 0))), (qv, .inr (2, [.ref bv, .int (nI 0)])), (bv, .inl (cI, 32, .inl (fun _ => 0))), (qf, .inr (2, [.ref bf, .int (nI 0)])), (bf, .inl (cI, 32, .inl (fun _ => 0))), (qa, .inr (2, [.ref ba, .int (nI 0)])), (ba, .inl (cI, 32, .inl (fun _ => 0))), (gh, .inr (0, [.ref gm, .ref gw, .ref gd])), (gm, .inr (2, [.ref gb, .int (nI 0)])), (gb, .inl (cI, 448, .inl (fun _ => 0))), (gw, .inl (cI, 64, .inl (fun _ => 0))), (gd, .inl (cI, 8, .inl (fun _ => 0))), (hk, .inr (1, [.ref hh, .ref hB, .ref hI])), (hh, .inr (0, [.ref hm, .ref aw, .ref ad])), (hm, .inr (2, [.ref bm, .int (nI 0)])), (bm, .inl (cI, 448, .inl (fun _ => 0))), (aw, .inl (cI, 64, .inl (fun _ => 0))), (ad, .inl (cI, 8, .inl (fun _ => 0))), (hB, .inr (2, [.ref bB, .int (nI 0)])), (bB, .inl (cI, 64, .inl (fun _ => 0))), (hI, .inr (2, [.ref bI, .int (nI 0)])), (bI, .inl (cI, 32, .inl (fun _ => 0)))] H := hP.sub [0, 1, 2, 3, 4, 5, 6, 7, 8, 9, 10, 11, 12, 13, 14, 15, 16, 17, 18, 19, 20, 21, 22, 23, 24, 25, 26, 27, 28, 29] rfl
  have hD : va_D (fun q : Nat => s.heap.size ≤ q) [(qs, .inr (3, [.ref qi, .ref qo, .ref qd, .ref qk, .ref qv, .ref qf, .ref qa, .ref gh, .ref hk, .int (nI 0), .int 100, .int 0])), (qi, .inr (2, [.ref bi, .int (nI 0)])), (bi, .inl (cI, 300, .inl (fun _ => 0))), (qo, .inr (2, [.ref bo, .int (nI 0)])), (bo, .inl (cI, 300, .inl (fun _ => 0))), (qd, .inr (2, [.ref bd, .int (nI 0)])), (bd, .inl (cI, 400, .inl (fun _ => 0))), (qk, .inr (2, [.ref bk, .int (nI 0)])), (bk, .inl (cI, 32, .inl (fun _ => 0))), (qv, .inr (2, [.ref bv, .int (nI 0)])), (bv, .inl (cI, 32, .inl (fun _ => 0))), (qf, .inr (2, [.ref bf, .int (nI 0)])), (bf, .inl (cI, 32, .inl (fun _ => 0))), (qa, .inr (2, [.ref ba, .int (nI 0)])), (ba, .inl (cI, 32, .inl (fun _ => 0))), (gh, .inr (0, [.ref gm, .ref gw, .ref gd])), (gm, .inr (2, [.ref gb, .int (nI 0)])), (gb, .inl (cI, 448, .inl (fun _ => 0))), (gw, .inl (cI, 64, .inl (fun _ => 0))), (gd, .inl (cI, 8, .inl (fun _ => 0))), (hk, .inr (1, [.ref hh, .ref hB, .ref hI])), (hh, .inr (0, [.ref hm, .ref aw, .ref ad])), (hm, .inr (2, [.ref bm, .int (nI 0)])), (bm, .inl (cI, 448, .inl (fun _ => 0))), (aw, .inl (cI, 64, .inl (fun _ => 0))), (ad, .inl (cI, 8, .inl (fun _ => 0))), (hB, .inr (2, [.ref bB, .int (nI 0)])), (bB, .inl (cI, 64, .inl (fun _ => 0))), (hI, .inr (2, [.ref bI, .int (nI 0)])), (bI, .inl (cI, 32, .inl (fun _ => 0)))] := hD.sub [0, 1, 2, 3, 4, 5, 6, 7, 8, 9, 10, 11, 12, 13, 14, 15, 16, 17, 18, 19, 20, 21, 22, 23, 24, 25, 26, 27, 28, 29] rfl rfl
  refine lv_astore_n (lv' := [(1, .ref qs), (0, .ref b)]) hx hb dL_law_7 rfl hl (by decide) rfl (fun ls hl => ?_)
  refine va_new (ci := 4) (fs := [.int 0, .null, .null, .null, .null, .null, .int 0, .null, .null, .null, .int 0, .null, .int 0, .int 0, .null, .null, .null, .int 0, .int 0, .int 0, .null, .int 0]) (C := RX4) (T := TX4) (N := 22) hx hb hts0 inX4 tyX4 tyX4_ok hown (hts (.classLink RL 10 RX4) (by decide +kernel)) (hts0 _ (List.mem_of_getElem? i4)) (hts (.initialized RX4) (by decide +kernel)) hK hP hD hS hA rfl (fun j hj => by rcases (show j = 0 ∨ j = 1 ∨ j = 2 ∨ j = 3 ∨ j = 4 ∨ j = 5 ∨ j = 6 ∨ j = 7 ∨ j = 8 ∨ j = 9 ∨ j = 10 ∨ j = 11 ∨ j = 12 ∨ j = 13 ∨ j = 14 ∨ j = 15 ∨ j = 16 ∨ j = 17 ∨ j = 18 ∨ j = 19 ∨ j = 20 ∨ j = 21 by omega) with rfl | rfl | rfl | rfl | rfl | rfl | rfl | rfl | rfl | rfl | rfl | rfl | rfl | rfl | rfl | rfl | rfl | rfl | rfl | rfl | rfl | rfl <;> rfl) (by show _ ≤ 600000; omega) (by show _ ≤ 7302250; omega) dL_law_8 (fun zm H hP hD hS => ?_)
  have hP : va_P D vwCl [(qs, .inr (3, [.ref qi, .ref qo, .ref qd, .ref qk, .ref qv, .ref qf, .ref qa, .ref gh, .ref hk, .int (nI 0), .int 100, .int 0])), (qi, .inr (2, [.ref bi, .int (nI 0)])), (bi, .inl (cI, 300, .inl (fun _ => 0))), (qo, .inr (2, [.ref bo, .int (nI 0)])), (bo, .inl (cI, 300, .inl (fun _ => 0))), (qd, .inr (2, [.ref bd, .int (nI 0)])), (bd, .inl (cI, 400, .inl (fun _ => 0))), (qk, .inr (2, [.ref bk, .int (nI 0)])), (bk, .inl (cI, 32, .inl (fun _ => 0))), (qv, .inr (2, [.ref bv, .int (nI 0)])), (bv, .inl (cI, 32, .inl (fun _ => 0))), (qf, .inr (2, [.ref bf, .int (nI 0)])), (bf, .inl (cI, 32, .inl (fun _ => 0))), (qa, .inr (2, [.ref ba, .int (nI 0)])), (ba, .inl (cI, 32, .inl (fun _ => 0))), (gh, .inr (0, [.ref gm, .ref gw, .ref gd])), (gm, .inr (2, [.ref gb, .int (nI 0)])), (gb, .inl (cI, 448, .inl (fun _ => 0))), (gw, .inl (cI, 64, .inl (fun _ => 0))), (gd, .inl (cI, 8, .inl (fun _ => 0))), (hk, .inr (1, [.ref hh, .ref hB, .ref hI])), (hh, .inr (0, [.ref hm, .ref aw, .ref ad])), (hm, .inr (2, [.ref bm, .int (nI 0)])), (bm, .inl (cI, 448, .inl (fun _ => 0))), (aw, .inl (cI, 64, .inl (fun _ => 0))), (ad, .inl (cI, 8, .inl (fun _ => 0))), (hB, .inr (2, [.ref bB, .int (nI 0)])), (bB, .inl (cI, 64, .inl (fun _ => 0))), (hI, .inr (2, [.ref bI, .int (nI 0)])), (bI, .inl (cI, 32, .inl (fun _ => 0))), (zm, .inr (4, [.int 0, .null, .null, .null, .null, .null, .int 0, .null, .null, .null, .int 0, .null, .int 0, .int 0, .null, .null, .null, .int 0, .int 0, .int 0, .null, .int 0]))] H := hP
  have hD : va_D (fun q : Nat => s.heap.size ≤ q) [(qs, .inr (3, [.ref qi, .ref qo, .ref qd, .ref qk, .ref qv, .ref qf, .ref qa, .ref gh, .ref hk, .int (nI 0), .int 100, .int 0])), (qi, .inr (2, [.ref bi, .int (nI 0)])), (bi, .inl (cI, 300, .inl (fun _ => 0))), (qo, .inr (2, [.ref bo, .int (nI 0)])), (bo, .inl (cI, 300, .inl (fun _ => 0))), (qd, .inr (2, [.ref bd, .int (nI 0)])), (bd, .inl (cI, 400, .inl (fun _ => 0))), (qk, .inr (2, [.ref bk, .int (nI 0)])), (bk, .inl (cI, 32, .inl (fun _ => 0))), (qv, .inr (2, [.ref bv, .int (nI 0)])), (bv, .inl (cI, 32, .inl (fun _ => 0))), (qf, .inr (2, [.ref bf, .int (nI 0)])), (bf, .inl (cI, 32, .inl (fun _ => 0))), (qa, .inr (2, [.ref ba, .int (nI 0)])), (ba, .inl (cI, 32, .inl (fun _ => 0))), (gh, .inr (0, [.ref gm, .ref gw, .ref gd])), (gm, .inr (2, [.ref gb, .int (nI 0)])), (gb, .inl (cI, 448, .inl (fun _ => 0))), (gw, .inl (cI, 64, .inl (fun _ => 0))), (gd, .inl (cI, 8, .inl (fun _ => 0))), (hk, .inr (1, [.ref hh, .ref hB, .ref hI])), (hh, .inr (0, [.ref hm, .ref aw, .ref ad])), (hm, .inr (2, [.ref bm, .int (nI 0)])), (bm, .inl (cI, 448, .inl (fun _ => 0))), (aw, .inl (cI, 64, .inl (fun _ => 0))), (ad, .inl (cI, 8, .inl (fun _ => 0))), (hB, .inr (2, [.ref bB, .int (nI 0)])), (bB, .inl (cI, 64, .inl (fun _ => 0))), (hI, .inr (2, [.ref bI, .int (nI 0)])), (bI, .inl (cI, 32, .inl (fun _ => 0))), (zm, .inr (4, [.int 0, .null, .null, .null, .null, .null, .int 0, .null, .null, .null, .int 0, .null, .int 0, .int 0, .null, .null, .null, .int 0, .int 0, .int 0, .null, .int 0]))] := hD
  refine lv_dup hx hb dL_law_11 rfl ?_
  refine sm_callIv (wc := [(zm, .inr (4, [.int 0, .null, .null, .null, .null, .null, .int 0, .null, .null, .null, .int 0, .null, .int 0, .int 0, .null, .null, .null, .int 0, .int 0, .int 0, .null, .int 0]))]) (wr := [(qs, .inr (3, [.ref qi, .ref qo, .ref qd, .ref qk, .ref qv, .ref qf, .ref qa, .ref gh, .ref hk, .int (nI 0), .int 100, .int 0])), (qi, .inr (2, [.ref bi, .int (nI 0)])), (bi, .inl (cI, 300, .inl (fun _ => 0))), (qo, .inr (2, [.ref bo, .int (nI 0)])), (bo, .inl (cI, 300, .inl (fun _ => 0))), (qd, .inr (2, [.ref bd, .int (nI 0)])), (bd, .inl (cI, 400, .inl (fun _ => 0))), (qk, .inr (2, [.ref bk, .int (nI 0)])), (bk, .inl (cI, 32, .inl (fun _ => 0))), (qv, .inr (2, [.ref bv, .int (nI 0)])), (bv, .inl (cI, 32, .inl (fun _ => 0))), (qf, .inr (2, [.ref bf, .int (nI 0)])), (bf, .inl (cI, 32, .inl (fun _ => 0))), (qa, .inr (2, [.ref ba, .int (nI 0)])), (ba, .inl (cI, 32, .inl (fun _ => 0))), (gh, .inr (0, [.ref gm, .ref gw, .ref gd])), (gm, .inr (2, [.ref gb, .int (nI 0)])), (gb, .inl (cI, 448, .inl (fun _ => 0))), (gw, .inl (cI, 64, .inl (fun _ => 0))), (gd, .inl (cI, 8, .inl (fun _ => 0))), (hk, .inr (1, [.ref hh, .ref hB, .ref hI])), (hh, .inr (0, [.ref hm, .ref aw, .ref ad])), (hm, .inr (2, [.ref bm, .int (nI 0)])), (bm, .inl (cI, 448, .inl (fun _ => 0))), (aw, .inl (cI, 64, .inl (fun _ => 0))), (ad, .inl (cI, 8, .inl (fun _ => 0))), (hB, .inr (2, [.ref bB, .int (nI 0)])), (bB, .inl (cI, 64, .inl (fun _ => 0))), (hI, .inr (2, [.ref bI, .int (nI 0)])), (bI, .inl (cI, 32, .inl (fun _ => 0)))]) (As := []) (rest := [.ref zm]) ⟨hx, hb, hml, hown, hts⟩ (sc_X4_init l D cI (some (tk, tf)) _ zm ) (cwI 0 hts gL_law_X4_init rfl rfl rfl (hts (.initialized RX4) (by decide +kernel)) (hts (.methodLink RL 12 yX4_init) (by decide +kernel)) (hts (.instanceMethod yX4_init) (by decide +kernel)) rfl (by decide +kernel) ⟨Nat.le_of_ble_eq_true rfl, Nat.le_of_ble_eq_true rfl⟩) hP hD hS hA hK hT [30] [0, 1, 2, 3, 4, 5, 6, 7, 8, 9, 10, 11, 12, 13, 14, 15, 16, 17, 18, 19, 20, 21, 22, 23, 24, 25, 26, 27, 28, 29] rfl rfl rfl rfl (by decide) rfl hl.1 rfl (Nat.le_of_ble_eq_true rfl) dL_law_12 ⟨by show _ ≤ 600000; omega, by show _ ≤ 7302250; omega⟩ (fun zt H1 locs ht hvm hB hJ hS => ?_)
  obtain ⟨zrt, zfi, zsu, zwo, zro, zdi, zpa, zin, zow, zke, zva, zle, zdr, hP1, -, hD1⟩ := hB
  rw [ht] at hP1
  obtain ⟨hP, hD⟩ := hJ _ hP1 hD1
  clear hJ
  generalize H1 = H at hP hS ⊢
  have hP : va_P D vwCl [(qs, .inr (3, [.ref qi, .ref qo, .ref qd, .ref qk, .ref qv, .ref qf, .ref qa, .ref gh, .ref hk, .int (nI 0), .int 100, .int 0])), (qi, .inr (2, [.ref bi, .int (nI 0)])), (bi, .inl (cI, 300, .inl (fun _ => 0))), (qo, .inr (2, [.ref bo, .int (nI 0)])), (bo, .inl (cI, 300, .inl (fun _ => 0))), (qd, .inr (2, [.ref bd, .int (nI 0)])), (bd, .inl (cI, 400, .inl (fun _ => 0))), (qk, .inr (2, [.ref bk, .int (nI 0)])), (bk, .inl (cI, 32, .inl (fun _ => 0))), (qv, .inr (2, [.ref bv, .int (nI 0)])), (bv, .inl (cI, 32, .inl (fun _ => 0))), (qf, .inr (2, [.ref bf, .int (nI 0)])), (bf, .inl (cI, 32, .inl (fun _ => 0))), (qa, .inr (2, [.ref ba, .int (nI 0)])), (ba, .inl (cI, 32, .inl (fun _ => 0))), (gh, .inr (0, [.ref gm, .ref gw, .ref gd])), (gm, .inr (2, [.ref gb, .int (nI 0)])), (gb, .inl (cI, 448, .inl (fun _ => 0))), (gw, .inl (cI, 64, .inl (fun _ => 0))), (gd, .inl (cI, 8, .inl (fun _ => 0))), (hk, .inr (1, [.ref hh, .ref hB, .ref hI])), (hh, .inr (0, [.ref hm, .ref aw, .ref ad])), (hm, .inr (2, [.ref bm, .int (nI 0)])), (bm, .inl (cI, 448, .inl (fun _ => 0))), (aw, .inl (cI, 64, .inl (fun _ => 0))), (ad, .inl (cI, 8, .inl (fun _ => 0))), (hB, .inr (2, [.ref bB, .int (nI 0)])), (bB, .inl (cI, 64, .inl (fun _ => 0))), (hI, .inr (2, [.ref bI, .int (nI 0)])), (bI, .inl (cI, 32, .inl (fun _ => 0))), (zm, .inr (4, [.int 0, .ref zrt, .ref zfi, .ref zsu, .ref zwo, .ref zro, .int (nI 0), .ref zdi, .ref zpa, .ref zin, .int (nI 0), .ref zow, .int (nI 0), .int 0, .ref zke, .ref zva, .ref zle, .int (nI 0), .int 100, .int 0, .ref zdr, .int (nI 0)])), (zrt, .inl (cI, 64, .inl sm_K)), (zfi, .inl (cI, 8, .inl sm_F)), (zsu, .inl (cI, 8, .inl (fun _ => 0))), (zwo, .inl (cI, 64, .inl (fun _ => 0))), (zro, .inl (cI, 512, .inl (fun _ => 0))), (zdi, .inl (cI, 32, .inl (fun _ => 0))), (zpa, .inl (cI, 64, .inl (fun _ => 0))), (zin, .inl (cI, 300, .inl (fun _ => 0))), (zow, .inl (cI, 300, .inl (fun _ => 0))), (zke, .inl (cI, 32, .inl (fun _ => 0))), (zva, .inl (cI, 32, .inl (fun _ => 0))), (zle, .inl (cI, 32, .inl (fun _ => 0))), (zdr, .inl (cI, 400, .inl (fun _ => 0)))] H := hP.sub [0, 1, 2, 3, 4, 5, 6, 7, 8, 9, 10, 11, 12, 13, 14, 15, 16, 17, 18, 19, 20, 21, 22, 23, 24, 25, 26, 27, 28, 29, 30, 31, 32, 33, 34, 35, 36, 37, 38, 39, 40, 41, 42, 43] rfl
  have hD : va_D (fun q : Nat => s.heap.size ≤ q) [(qs, .inr (3, [.ref qi, .ref qo, .ref qd, .ref qk, .ref qv, .ref qf, .ref qa, .ref gh, .ref hk, .int (nI 0), .int 100, .int 0])), (qi, .inr (2, [.ref bi, .int (nI 0)])), (bi, .inl (cI, 300, .inl (fun _ => 0))), (qo, .inr (2, [.ref bo, .int (nI 0)])), (bo, .inl (cI, 300, .inl (fun _ => 0))), (qd, .inr (2, [.ref bd, .int (nI 0)])), (bd, .inl (cI, 400, .inl (fun _ => 0))), (qk, .inr (2, [.ref bk, .int (nI 0)])), (bk, .inl (cI, 32, .inl (fun _ => 0))), (qv, .inr (2, [.ref bv, .int (nI 0)])), (bv, .inl (cI, 32, .inl (fun _ => 0))), (qf, .inr (2, [.ref bf, .int (nI 0)])), (bf, .inl (cI, 32, .inl (fun _ => 0))), (qa, .inr (2, [.ref ba, .int (nI 0)])), (ba, .inl (cI, 32, .inl (fun _ => 0))), (gh, .inr (0, [.ref gm, .ref gw, .ref gd])), (gm, .inr (2, [.ref gb, .int (nI 0)])), (gb, .inl (cI, 448, .inl (fun _ => 0))), (gw, .inl (cI, 64, .inl (fun _ => 0))), (gd, .inl (cI, 8, .inl (fun _ => 0))), (hk, .inr (1, [.ref hh, .ref hB, .ref hI])), (hh, .inr (0, [.ref hm, .ref aw, .ref ad])), (hm, .inr (2, [.ref bm, .int (nI 0)])), (bm, .inl (cI, 448, .inl (fun _ => 0))), (aw, .inl (cI, 64, .inl (fun _ => 0))), (ad, .inl (cI, 8, .inl (fun _ => 0))), (hB, .inr (2, [.ref bB, .int (nI 0)])), (bB, .inl (cI, 64, .inl (fun _ => 0))), (hI, .inr (2, [.ref bI, .int (nI 0)])), (bI, .inl (cI, 32, .inl (fun _ => 0))), (zm, .inr (4, [.int 0, .ref zrt, .ref zfi, .ref zsu, .ref zwo, .ref zro, .int (nI 0), .ref zdi, .ref zpa, .ref zin, .int (nI 0), .ref zow, .int (nI 0), .int 0, .ref zke, .ref zva, .ref zle, .int (nI 0), .int 100, .int 0, .ref zdr, .int (nI 0)])), (zrt, .inl (cI, 64, .inl sm_K)), (zfi, .inl (cI, 8, .inl sm_F)), (zsu, .inl (cI, 8, .inl (fun _ => 0))), (zwo, .inl (cI, 64, .inl (fun _ => 0))), (zro, .inl (cI, 512, .inl (fun _ => 0))), (zdi, .inl (cI, 32, .inl (fun _ => 0))), (zpa, .inl (cI, 64, .inl (fun _ => 0))), (zin, .inl (cI, 300, .inl (fun _ => 0))), (zow, .inl (cI, 300, .inl (fun _ => 0))), (zke, .inl (cI, 32, .inl (fun _ => 0))), (zva, .inl (cI, 32, .inl (fun _ => 0))), (zle, .inl (cI, 32, .inl (fun _ => 0))), (zdr, .inl (cI, 400, .inl (fun _ => 0)))] := hD.sub [0, 1, 2, 3, 4, 5, 6, 7, 8, 9, 10, 11, 12, 13, 14, 15, 16, 17, 18, 19, 20, 21, 22, 23, 24, 25, 26, 27, 28, 29, 30, 31, 32, 33, 34, 35, 36, 37, 38, 39, 40, 41, 42, 43] rfl rfl
  refine lv_astore_n (lv' := [(2, .ref zm), (1, .ref qs), (0, .ref b)]) hx hb dL_law_15 rfl hl (by decide) rfl (fun ls hl => ?_)
  refine lv_iconst (v := 0) hx hb dL_law_16 (by decide) ?_
  refine lv_istore_n (lv' := [(3, .int 0), (2, .ref zm), (1, .ref qs), (0, .ref b)]) hx hb dL_law_17 rfl hl (by decide) rfl (fun ls hl => ?_)
  have hP : va_P D vwCl [(qs, .inr (3, [.ref qi, .ref qo, .ref qd, .ref qk, .ref qv, .ref qf, .ref qa, .ref gh, .ref hk, .int (nI 0), .int 100, .int 0])), (qi, .inr (2, [.ref bi, .int (nI 0)])), (bi, .inl (cI, 300, .inl (fun _ => 0))), (qo, .inr (2, [.ref bo, .int (nI 0)])), (bo, .inl (cI, 300, .inl (fun _ => 0))), (qd, .inr (2, [.ref bd, .int (nI 0)])), (bd, .inl (cI, 400, .inl (fun _ => 0))), (qk, .inr (2, [.ref bk, .int (nI 0)])), (bk, .inl (cI, 32, .inl (fun _ => 0))), (qv, .inr (2, [.ref bv, .int (nI 0)])), (bv, .inl (cI, 32, .inl (fun _ => 0))), (qf, .inr (2, [.ref bf, .int (nI 0)])), (bf, .inl (cI, 32, .inl (fun _ => 0))), (qa, .inr (2, [.ref ba, .int (nI 0)])), (ba, .inl (cI, 32, .inl (fun _ => 0))), (gh, .inr (0, [.ref gm, .ref gw, .ref gd])), (gm, .inr (2, [.ref gb, .int (nI 0)])), (gb, .inl (cI, 448, .inl (fun _ => 0))), (gw, .inl (cI, 64, .inl (fun _ => 0))), (gd, .inl (cI, 8, .inl (fun _ => 0))), (hk, .inr (1, [.ref hh, .ref hB, .ref hI])), (hh, .inr (0, [.ref hm, .ref aw, .ref ad])), (hm, .inr (2, [.ref bm, .int (nI 0)])), (bm, .inl (cI, 448, .inl (fun _ => 0))), (aw, .inl (cI, 64, .inl (fun _ => 0))), (ad, .inl (cI, 8, .inl (fun _ => 0))), (hB, .inr (2, [.ref bB, .int (nI 0)])), (bB, .inl (cI, 64, .inl (fun _ => 0))), (hI, .inr (2, [.ref bI, .int (nI 0)])), (bI, .inl (cI, 32, .inl (fun _ => 0))), (zm, .inr (4, [.int 0, .ref zrt, .ref zfi, .ref zsu, .ref zwo, .ref zro, .int (nI 0), .ref zdi, .ref zpa, .ref zin, .int (nI 0), .ref zow, .int (nI 0), .int 0, .ref zke, .ref zva, .ref zle, .int (nI 0), .int 100, .int 0, .ref zdr, .int (nI 0)])), (zrt, .inl (cI, 64, .inl sm_K)), (zfi, .inl (cI, 8, .inl sm_F)), (zsu, .inl (cI, 8, .inl (fun _ => 0))), (zwo, .inl (cI, 64, .inl (fun _ => 0))), (zro, .inl (cI, 512, .inl (fun _ => 0))), (zdi, .inl (cI, 32, .inl (fun _ => 0))), (zpa, .inl (cI, 64, .inl (fun _ => 0))), (zin, .inl (cI, 300, .inl (fun _ => 0))), (zow, .inl (cI, 300, .inl (fun _ => 0))), (zke, .inl (cI, 32, .inl (fun _ => 0))), (zva, .inl (cI, 32, .inl (fun _ => 0))), (zle, .inl (cI, 32, .inl (fun _ => 0))), (zdr, .inl (cI, 400, .inl (fun _ => 0)))] H := hP.sub [0, 1, 2, 3, 4, 5, 6, 7, 8, 9, 10, 11, 12, 13, 14, 15, 16, 17, 18, 19, 20, 21, 22, 23, 24, 25, 26, 27, 28, 29, 30, 31, 32, 33, 34, 35, 36, 37, 38, 39, 40, 41, 42, 43] rfl
  have hD : va_D (fun q : Nat => s.heap.size ≤ q) [(qs, .inr (3, [.ref qi, .ref qo, .ref qd, .ref qk, .ref qv, .ref qf, .ref qa, .ref gh, .ref hk, .int (nI 0), .int 100, .int 0])), (qi, .inr (2, [.ref bi, .int (nI 0)])), (bi, .inl (cI, 300, .inl (fun _ => 0))), (qo, .inr (2, [.ref bo, .int (nI 0)])), (bo, .inl (cI, 300, .inl (fun _ => 0))), (qd, .inr (2, [.ref bd, .int (nI 0)])), (bd, .inl (cI, 400, .inl (fun _ => 0))), (qk, .inr (2, [.ref bk, .int (nI 0)])), (bk, .inl (cI, 32, .inl (fun _ => 0))), (qv, .inr (2, [.ref bv, .int (nI 0)])), (bv, .inl (cI, 32, .inl (fun _ => 0))), (qf, .inr (2, [.ref bf, .int (nI 0)])), (bf, .inl (cI, 32, .inl (fun _ => 0))), (qa, .inr (2, [.ref ba, .int (nI 0)])), (ba, .inl (cI, 32, .inl (fun _ => 0))), (gh, .inr (0, [.ref gm, .ref gw, .ref gd])), (gm, .inr (2, [.ref gb, .int (nI 0)])), (gb, .inl (cI, 448, .inl (fun _ => 0))), (gw, .inl (cI, 64, .inl (fun _ => 0))), (gd, .inl (cI, 8, .inl (fun _ => 0))), (hk, .inr (1, [.ref hh, .ref hB, .ref hI])), (hh, .inr (0, [.ref hm, .ref aw, .ref ad])), (hm, .inr (2, [.ref bm, .int (nI 0)])), (bm, .inl (cI, 448, .inl (fun _ => 0))), (aw, .inl (cI, 64, .inl (fun _ => 0))), (ad, .inl (cI, 8, .inl (fun _ => 0))), (hB, .inr (2, [.ref bB, .int (nI 0)])), (bB, .inl (cI, 64, .inl (fun _ => 0))), (hI, .inr (2, [.ref bI, .int (nI 0)])), (bI, .inl (cI, 32, .inl (fun _ => 0))), (zm, .inr (4, [.int 0, .ref zrt, .ref zfi, .ref zsu, .ref zwo, .ref zro, .int (nI 0), .ref zdi, .ref zpa, .ref zin, .int (nI 0), .ref zow, .int (nI 0), .int 0, .ref zke, .ref zva, .ref zle, .int (nI 0), .int 100, .int 0, .ref zdr, .int (nI 0)])), (zrt, .inl (cI, 64, .inl sm_K)), (zfi, .inl (cI, 8, .inl sm_F)), (zsu, .inl (cI, 8, .inl (fun _ => 0))), (zwo, .inl (cI, 64, .inl (fun _ => 0))), (zro, .inl (cI, 512, .inl (fun _ => 0))), (zdi, .inl (cI, 32, .inl (fun _ => 0))), (zpa, .inl (cI, 64, .inl (fun _ => 0))), (zin, .inl (cI, 300, .inl (fun _ => 0))), (zow, .inl (cI, 300, .inl (fun _ => 0))), (zke, .inl (cI, 32, .inl (fun _ => 0))), (zva, .inl (cI, 32, .inl (fun _ => 0))), (zle, .inl (cI, 32, .inl (fun _ => 0))), (zdr, .inl (cI, 400, .inl (fun _ => 0)))] := hD.sub [0, 1, 2, 3, 4, 5, 6, 7, 8, 9, 10, 11, 12, 13, 14, 15, 16, 17, 18, 19, 20, 21, 22, 23, 24, 25, 26, 27, 28, 29, 30, 31, 32, 33, 34, 35, 36, 37, 38, 39, 40, 41, 42, 43] rfl rfl
  have hI : sm_L D cI (fun q : Nat => s.heap.size ≤ q) qs zm 0 H := sm_L_mk (ni := 0) (no := 0) (nd := 0) (kc := 0) (uk := 0) (uv := 0) hP hD (by decide) (by decide) (by decide) (by decide) (fun j hj => absurd hj (Nat.not_lt_zero _)) (fun j hj => absurd hj (Nat.not_lt_zero _)) (fun j hj => absurd hj (Nat.not_lt_zero _)) (fun j hj => absurd hj (Nat.not_lt_zero _)) (fun j hj => absurd hj (Nat.not_lt_zero _)) ⟨by decide, by decide⟩ (fun q => absurd rfl q)
  refine W.widen (k := 44) (n := 4177) (by omega) (by omega) ?_
  exact law_loop hL C0 hK hT qs zm (L + 1) 0 0 H locs ls rfl (Nat.zero_le _) (by omega) hI hS (lv_sub hl [0, 1, 2, 3] rfl)
