def rm_X3_feed_no : Room := ({ frames := 1, cells := 0, slots := 0, locals := 21 } : Room)
set_option maxHeartbeats 4000000 in
set_option maxRecDepth 100000 in
/-- feed: nothing is done -/
theorem sc_X3_feed_no (l : Launch) (D : va_G) (cI : ClassId) (th : Option (Nat × Nat)) (sz : Nat) (qs qi bi qo bo qd bd qk bk qv bv qf bf qa ba gh gm gb gw gd hk hh hm bm aw ad hB bB hI bI : Nat) (ivl drw : Int32) (kc : Nat) (x : Int64) (k : Int32) (ni : Nat) (fi : Nat → Int32) (hni : ni ≤ 300) (hno : ¬ ∃ n, sm_fok k ni n) : Met l yX3_feed wsX3_feed rm_X3_feed_no (va_Pc [.ref qs, .long x, .int k] (sm_PW D cI th [(qs, .inr (3, [.ref qi, .ref qo, .ref qd, .ref qk, .ref qv, .ref qf, .ref qa, .ref gh, .ref hk, .int (nI kc), .int ivl, .int drw])), (qi, .inr (2, [.ref bi, .int (nI ni)])), (bi, .inl (cI, 300, .inl fi))] sz)) (va_Qi (fun (r : Int32) (_ : Unit) => r = -1) (fun _ t => sm_QW D cI (va_A [(qs, .inr (3, [.ref qi, .ref qo, .ref qd, .ref qk, .ref qv, .ref qf, .ref qa, .ref gh, .ref hk, .int (nI kc), .int ivl, .int drw])), (qi, .inr (2, [.ref bi, .int (nI ni)])), (bi, .inl (cI, 300, .inl fi))] sz) [(qs, .inr (3, [.ref qi, .ref qo, .ref qd, .ref qk, .ref qv, .ref qf, .ref qa, .ref gh, .ref hk, .int (nI kc), .int ivl, .int drw])), (qi, .inr (2, [.ref bi, .int (nI ni)])), (bi, .inl (cI, 300, .inl fi))] t) (va_A [(qs, .inr (3, [.ref qi, .ref qo, .ref qd, .ref qk, .ref qv, .ref qf, .ref qa, .ref gh, .ref hk, .int (nI kc), .int ivl, .int drw])), (qi, .inr (2, [.ref bi, .int (nI ni)])), (bi, .inl (cI, 300, .inl fi))] sz)) 0 0 (va_A [(qs, .inr (3, [.ref qi, .ref qo, .ref qd, .ref qk, .ref qv, .ref qf, .ref qa, .ref gh, .ref hk, .int (nI kc), .int ivl, .int drw])), (qi, .inr (2, [.ref bi, .int (nI ni)])), (bi, .inl (cI, 300, .inl fi))] sz) := by
  refine Met.ofW (cc := cX3_feed) (maxL := 5) (ret := (some .int)) (by decide) rfl ?_
  intro p e s m args below meth c s₁ B hml hv
  obtain ⟨rfl, hsz, hP, hK, hD0, hT⟩ := hv
  have hx := B.exec
  have hb := B.bytes
  have hr := B.returns
  have hts := atoms_spec (ws := wsX3_feed) B.pre
  have hown : s.vm.findClass RX3 = some m.cls := findClass_of_methodNamed B.named
  have hlocks := B.notSynchronized
  subst hsz
  have hD := hD0.self (sz := s.heap.size)
  generalize hAe : va_A [(qs, .inr (3, [.ref qi, .ref qo, .ref qd, .ref qk, .ref qv, .ref qf, .ref qa, .ref gh, .ref hk, .int (nI kc), .int ivl, .int drw])), (qi, .inr (2, [.ref bi, .int (nI ni)])), (bi, .inl (cI, 300, .inl fi))] s.heap.size = A at hD hT ⊢
  have hA : ∀ q : Nat, s.heap.size ≤ q → A q := fun q h => by rw [← hAe]; exact Or.inr h
  have hS : va_S A s.heap s.heap [] := va_S.rf
  have hl := lv_entry ([.ref qs, .long x, .int k]) (n := 5) (Nat.le_of_ble_eq_true rfl)
  rw [lg_entry_eq]
  generalize (lg_sl ([.ref qs, .long x, .int k]) ++ List.replicate (5 - (lg_sl ([.ref qs, .long x, .int k])).length) Slot.unset).toArray = ls at hl ⊢
  have hl : lv_has ls 5 [(0, .ref qs), (1, .long x), (3, .int k)] := hl
  refine sm_name (fun Q hQ => ?_)
  have hf_14 := hts (.fieldLink RX3 14 "SeedMill" "input" "LSeedMill$Row;") (by decide +kernel)
  have hw_X3 : ∀ w ∈ wsX30, w ∈ wsX3_feed := by decide +kernel
  refine lv_iload_n hx hb dX3_feed_0 rfl (lv_at hl 2 rfl) ?_
  refine lv_iconst (v := 1) hx hb dX3_feed_1 (by decide) ?_
  refine lv_icmp_lt (tgt := 26) hx hb dX3_feed_2 (by decide) (fun c_2 => ?_) (fun c_2 => ?_)
  ·
    refine lv_iconst (v := (-1)) hx hb dX3_feed_26 (by decide) ?_
    rw [hQ]
    have hP9 : va_P D vwCl [(qs, .inr (3, [.ref qi, .ref qo, .ref qd, .ref qk, .ref qv, .ref qf, .ref qa, .ref gh, .ref hk, .int (nI kc), .int ivl, .int drw])), (qi, .inr (2, [.ref bi, .int (nI ni)])), (bi, .inl (cI, 300, .inl fi))] s.heap := hP
    have hD9 : va_D A [(qs, .inr (3, [.ref qi, .ref qo, .ref qd, .ref qk, .ref qv, .ref qf, .ref qa, .ref gh, .ref hk, .int (nI kc), .int ivl, .int drw])), (qi, .inr (2, [.ref bi, .int (nI ni)])), (bi, .inl (cI, 300, .inl fi))] := hD
    exact W.iret (v := (-1)) hx hb hr (fun t ht hW => ⟨⟨(-1), (), rfl, rfl, ⟨by rw [ht]; exact hP9, va_K.moved hW.alike hK, hD9⟩⟩, hS.F ht⟩) hS.2.2 dX3_feed_27
  ·
    refine lv_iload_n hx hb dX3_feed_5 rfl (lv_at hl 2 rfl) ?_
    refine lv_bipush (v := 8) hx hb dX3_feed_6 (by decide) ?_
    refine lv_icmp_gt (tgt := 26) hx hb dX3_feed_8 (by decide) (fun c_8 => ?_) (fun c_8 => ?_)
    ·
      refine lv_iconst (v := (-1)) hx hb dX3_feed_26 (by decide) ?_
      rw [hQ]
      have hP9 : va_P D vwCl [(qs, .inr (3, [.ref qi, .ref qo, .ref qd, .ref qk, .ref qv, .ref qf, .ref qa, .ref gh, .ref hk, .int (nI kc), .int ivl, .int drw])), (qi, .inr (2, [.ref bi, .int (nI ni)])), (bi, .inl (cI, 300, .inl fi))] s.heap := hP
      have hD9 : va_D A [(qs, .inr (3, [.ref qi, .ref qo, .ref qd, .ref qk, .ref qv, .ref qf, .ref qa, .ref gh, .ref hk, .int (nI kc), .int ivl, .int drw])), (qi, .inr (2, [.ref bi, .int (nI ni)])), (bi, .inl (cI, 300, .inl fi))] := hD
      exact W.iret (v := (-1)) hx hb hr (fun t ht hW => ⟨⟨(-1), (), rfl, rfl, ⟨by rw [ht]; exact hP9, va_K.moved hW.alike hK, hD9⟩⟩, hS.F ht⟩) hS.2.2 dX3_feed_27
    ·
      refine lv_aload_n hx hb dX3_feed_11 rfl (lv_at hl 0 rfl) ?_
      refine va_get (D := D) (ci := 3) (v := .ref qi) (C := RX3) (T := TX3) (N := 12) hx hb hts hw_X3 hown hK hP 0 rfl rfl 0 (by decide) hf_14 (fun _ h9 => h9) rfl dX3_feed_12 ?_
      refine sm_callVi (wc := [(qi, .inr (2, [.ref bi, .int (nI ni)])), (bi, .inl (cI, 300, .inl fi))]) (wr := [(qs, .inr (3, [.ref qi, .ref qo, .ref qd, .ref qk, .ref qv, .ref qf, .ref qa, .ref gh, .ref hk, .int (nI kc), .int ivl, .int drw]))]) (As := []) (rest := []) ⟨hx, hb, hml, hown, hts⟩ (sc_X2_size l D cI th _ qi bi 300 fi (nI ni) ) (cwV 0 hts gX3_feed_X2_size rfl rfl rfl (by decide +kernel) ⟨Nat.le_of_ble_eq_true rfl, Nat.le_of_ble_eq_true rfl⟩) hP hD hS hA hK hT [1, 2] [0] rfl rfl rfl rfl (by decide) 0 2 rfl rfl rfl rfl hl.1 rfl (Nat.le_of_ble_eq_true rfl) dX3_feed_15 ⟨Nat.zero_le _, Nat.zero_le _⟩ (fun r_15 zt H1 locs ht hvm hw hB hJ hS => ?_)
      obtain ⟨hP1, -, hD1⟩ := hB
      rw [ht] at hP1
      obtain ⟨hP, hD⟩ := hJ _ hP1 hD1
      clear hJ
      generalize H1 = H at hP hS ⊢
      have hP : va_P D vwCl [(qs, .inr (3, [.ref qi, .ref qo, .ref qd, .ref qk, .ref qv, .ref qf, .ref qa, .ref gh, .ref hk, .int (nI kc), .int ivl, .int drw])), (qi, .inr (2, [.ref bi, .int (nI ni)])), (bi, .inl (cI, 300, .inl fi))] H := hP.sub [0, 1, 2] rfl
      have hD : va_D A [(qs, .inr (3, [.ref qi, .ref qo, .ref qd, .ref qk, .ref qv, .ref qf, .ref qa, .ref gh, .ref hk, .int (nI kc), .int ivl, .int drw])), (qi, .inr (2, [.ref bi, .int (nI ni)])), (bi, .inl (cI, 300, .inl fi))] := hD.sub [0, 1, 2] rfl rfl
      rw [hw]
      refine lv_iload_n hx hb dX3_feed_18 rfl (lv_at hl 2 rfl) ?_
      refine lv_iadd hx hb dX3_feed_19 ?_
      refine lv_sipush (v := 300) hx hb dX3_feed_20 (by decide) ?_
      refine lv_icmp_le (tgt := 28) hx hb dX3_feed_23 (by decide) (fun c_23 => ?_) (fun c_23 => ?_)
      ·
        exact absurd (sm_fok_of c_2 c_8 c_23 hni) hno
      ·
        refine lv_iconst (v := (-1)) hx hb dX3_feed_26 (by decide) ?_
        rw [hQ]
        have hP9 : va_P D vwCl [(qs, .inr (3, [.ref qi, .ref qo, .ref qd, .ref qk, .ref qv, .ref qf, .ref qa, .ref gh, .ref hk, .int (nI kc), .int ivl, .int drw])), (qi, .inr (2, [.ref bi, .int (nI ni)])), (bi, .inl (cI, 300, .inl fi))] H := hP
        have hD9 : va_D A [(qs, .inr (3, [.ref qi, .ref qo, .ref qd, .ref qk, .ref qv, .ref qf, .ref qa, .ref gh, .ref hk, .int (nI kc), .int ivl, .int drw])), (qi, .inr (2, [.ref bi, .int (nI ni)])), (bi, .inl (cI, 300, .inl fi))] := hD
        exact W.iret (v := (-1)) hx hb hr (fun t ht hW => ⟨⟨(-1), (), rfl, rfl, ⟨by rw [ht]; exact hP9, va_K.moved hW.alike hK, hD9⟩⟩, hS.F ht⟩) hS.2.2 dX3_feed_27

def rm_X3_feed_ok : Room := ({ frames := 1, cells := 0, slots := 0, locals := 21 } : Room)
set_option maxHeartbeats 4000000 in
set_option maxRecDepth 100000 in
/-- feed: n bytes come -/
theorem sc_X3_feed_ok (l : Launch) (D : va_G) (cI : ClassId) (th : Option (Nat × Nat)) (sz : Nat) (qs qi bi qo bo qd bd qk bk qv bv qf bf qa ba gh gm gb gw gd hk hh hm bm aw ad hB bB hI bI : Nat) (ivl drw : Int32) (kc : Nat) (x : Int64) (n ni : Nat) (fi : Nat → Int32) (hn1 : 1 ≤ n) (hn8 : n ≤ 8) (hni : ni + n ≤ 300) : Met l yX3_feed wsX3_feed rm_X3_feed_ok (va_Pc [.ref qs, .long x, .int (nI n)] (sm_PW D cI th [(qs, .inr (3, [.ref qi, .ref qo, .ref qd, .ref qk, .ref qv, .ref qf, .ref qa, .ref gh, .ref hk, .int (nI kc), .int ivl, .int drw])), (qi, .inr (2, [.ref bi, .int (nI ni)])), (bi, .inl (cI, 300, .inl fi))] sz)) (va_Qi (fun (r : Int32) (_ : Unit) => r = nI (ni + n)) (fun _ t => sm_QW D cI (va_A [(qs, .inr (3, [.ref qi, .ref qo, .ref qd, .ref qk, .ref qv, .ref qf, .ref qa, .ref gh, .ref hk, .int (nI kc), .int ivl, .int drw])), (qi, .inr (2, [.ref bi, .int (nI ni)])), (bi, .inl (cI, 300, .inl fi))] sz) [(qs, .inr (3, [.ref qi, .ref qo, .ref qd, .ref qk, .ref qv, .ref qf, .ref qa, .ref gh, .ref hk, .int (nI kc), .int ivl, .int drw])), (qi, .inr (2, [.ref bi, .int (nI (ni + n))])), (bi, .inl (cI, 300, .inl (sm_ap fi ni (sm_fb x n) n)))] t) (va_A [(qs, .inr (3, [.ref qi, .ref qo, .ref qd, .ref qk, .ref qv, .ref qf, .ref qa, .ref gh, .ref hk, .int (nI kc), .int ivl, .int drw])), (qi, .inr (2, [.ref bi, .int (nI ni)])), (bi, .inl (cI, 300, .inl fi))] sz)) 0 0 (va_A [(qs, .inr (3, [.ref qi, .ref qo, .ref qd, .ref qk, .ref qv, .ref qf, .ref qa, .ref gh, .ref hk, .int (nI kc), .int ivl, .int drw])), (qi, .inr (2, [.ref bi, .int (nI ni)])), (bi, .inl (cI, 300, .inl fi))] sz) := by
  refine Met.ofW (cc := cX3_feed) (maxL := 5) (ret := (some .int)) (by decide) rfl ?_
  intro p e s m args below meth c s₁ B hml hv
  obtain ⟨rfl, hsz, hP, hK, hD0, hT⟩ := hv
  have hx := B.exec
  have hb := B.bytes
  have hr := B.returns
  have hts := atoms_spec (ws := wsX3_feed) B.pre
  have hown : s.vm.findClass RX3 = some m.cls := findClass_of_methodNamed B.named
  have hlocks := B.notSynchronized
  subst hsz
  have hD := hD0.self (sz := s.heap.size)
  generalize hAe : va_A [(qs, .inr (3, [.ref qi, .ref qo, .ref qd, .ref qk, .ref qv, .ref qf, .ref qa, .ref gh, .ref hk, .int (nI kc), .int ivl, .int drw])), (qi, .inr (2, [.ref bi, .int (nI ni)])), (bi, .inl (cI, 300, .inl fi))] s.heap.size = A at hD hT ⊢
  have hA : ∀ q : Nat, s.heap.size ≤ q → A q := fun q h => by rw [← hAe]; exact Or.inr h
  have hS : va_S A s.heap s.heap [] := va_S.rf
  have hl := lv_entry ([.ref qs, .long x, .int (nI n)]) (n := 5) (Nat.le_of_ble_eq_true rfl)
  rw [lg_entry_eq]
  generalize (lg_sl ([.ref qs, .long x, .int (nI n)]) ++ List.replicate (5 - (lg_sl ([.ref qs, .long x, .int (nI n)])).length) Slot.unset).toArray = ls at hl ⊢
  have hl : lv_has ls 5 [(0, .ref qs), (1, .long x), (3, .int (nI n))] := hl
  refine sm_name (fun Q hQ => ?_)
  have hf_14 := hts (.fieldLink RX3 14 "SeedMill" "input" "LSeedMill$Row;") (by decide +kernel)
  have hw_X3 : ∀ w ∈ wsX30, w ∈ wsX3_feed := by decide +kernel
  refine lv_iload_n hx hb dX3_feed_0 rfl (lv_at hl 2 rfl) ?_
  refine lv_iconst (v := 1) hx hb dX3_feed_1 (by decide) ?_
  refine lv_icmp_lt (tgt := 26) hx hb dX3_feed_2 (by decide) (fun c_2 => ?_) (fun c_2 => ?_)
  ·
    exact absurd c_2 (nI_nlt (b := 1) hn1 (by omega))
  ·
    refine lv_iload_n hx hb dX3_feed_5 rfl (lv_at hl 2 rfl) ?_
    refine lv_bipush (v := 8) hx hb dX3_feed_6 (by decide) ?_
    refine lv_icmp_gt (tgt := 26) hx hb dX3_feed_8 (by decide) (fun c_8 => ?_) (fun c_8 => ?_)
    ·
      exact absurd c_8 (nI_nlt (a := 8) (b := n) hn8 (by decide))
    ·
      refine lv_aload_n hx hb dX3_feed_11 rfl (lv_at hl 0 rfl) ?_
      refine va_get (D := D) (ci := 3) (v := .ref qi) (C := RX3) (T := TX3) (N := 12) hx hb hts hw_X3 hown hK hP 0 rfl rfl 0 (by decide) hf_14 (fun _ h9 => h9) rfl dX3_feed_12 ?_
      refine sm_callVi (wc := [(qi, .inr (2, [.ref bi, .int (nI ni)])), (bi, .inl (cI, 300, .inl fi))]) (wr := [(qs, .inr (3, [.ref qi, .ref qo, .ref qd, .ref qk, .ref qv, .ref qf, .ref qa, .ref gh, .ref hk, .int (nI kc), .int ivl, .int drw]))]) (As := []) (rest := []) ⟨hx, hb, hml, hown, hts⟩ (sc_X2_size l D cI th _ qi bi 300 fi (nI ni) ) (cwV 0 hts gX3_feed_X2_size rfl rfl rfl (by decide +kernel) ⟨Nat.le_of_ble_eq_true rfl, Nat.le_of_ble_eq_true rfl⟩) hP hD hS hA hK hT [1, 2] [0] rfl rfl rfl rfl (by decide) 0 2 rfl rfl rfl rfl hl.1 rfl (Nat.le_of_ble_eq_true rfl) dX3_feed_15 ⟨Nat.zero_le _, Nat.zero_le _⟩ (fun r_15 zt H1 locs ht hvm hw hB hJ hS => ?_)
      obtain ⟨hP1, -, hD1⟩ := hB
      rw [ht] at hP1
      obtain ⟨hP, hD⟩ := hJ _ hP1 hD1
      clear hJ
      generalize H1 = H at hP hS ⊢
      have hP : va_P D vwCl [(qs, .inr (3, [.ref qi, .ref qo, .ref qd, .ref qk, .ref qv, .ref qf, .ref qa, .ref gh, .ref hk, .int (nI kc), .int ivl, .int drw])), (qi, .inr (2, [.ref bi, .int (nI ni)])), (bi, .inl (cI, 300, .inl fi))] H := hP.sub [0, 1, 2] rfl
      have hD : va_D A [(qs, .inr (3, [.ref qi, .ref qo, .ref qd, .ref qk, .ref qv, .ref qf, .ref qa, .ref gh, .ref hk, .int (nI kc), .int ivl, .int drw])), (qi, .inr (2, [.ref bi, .int (nI ni)])), (bi, .inl (cI, 300, .inl fi))] := hD.sub [0, 1, 2] rfl rfl
      rw [hw]
      refine lv_iload_n hx hb dX3_feed_18 rfl (lv_at hl 2 rfl) ?_
      refine lv_iadd hx hb dX3_feed_19 ?_
      refine lv_sipush (v := 300) hx hb dX3_feed_20 (by decide) ?_
      refine lv_icmp_le (tgt := 28) hx hb dX3_feed_23 (by decide) (fun c_23 => ?_) (fun c_23 => ?_)
      ·
        refine lv_iload_n hx hb dX3_feed_28 rfl (lv_at hl 2 rfl) ?_
        refine lv_iconst (v := 1) hx hb dX3_feed_29 (by decide) ?_
        refine lv_isub hx hb dX3_feed_30 ?_
        refine lv_istore (lv' := [(4, .int ((nI n) - 1)), (0, .ref qs), (1, .long x), (3, .int (nI n))]) hx hb dX3_feed_31 hl (by decide) rfl (fun ls hl => ?_)
        have lp33 : ∀ (zn : Nat) (i : Nat) (H : Heap) (locs : List Loc) (ls : Array Slot), n - i < zn → i ≤ n → va_P D vwCl [(qs, .inr (3, [.ref qi, .ref qo, .ref qd, .ref qk, .ref qv, .ref qf, .ref qa, .ref gh, .ref hk, .int (nI kc), .int ivl, .int drw])), (qi, .inr (2, [.ref bi, .int (nI (ni + i))])), (bi, .inl (cI, 300, .inl (sm_ap fi ni (sm_fb x n) i)))] H → va_D A [(qs, .inr (3, [.ref qi, .ref qo, .ref qd, .ref qk, .ref qv, .ref qf, .ref qa, .ref gh, .ref hk, .int (nI kc), .int ivl, .int drw])), (qi, .inr (2, [.ref bi, .int (nI (ni + i))])), (bi, .inl (cI, 300, .inl (sm_ap fi ni (sm_fb x n) i)))] → va_S A s.heap H locs → lv_has ls 5 [(4, .int (nI (n - i) - 1)), (0, .ref qs), (1, .long x), (3, .int (nI n))] → W p l e (headSpec wsX3_feed rm_X3_feed_ok).room s m ([.ref qs, .long x, .int (nI n)] : List Value).toArray below meth c H locs 0 0 Q (F0 m 33 ls []) := by
          intro zn
          induction zn with
          | zero => intro i H locs ls hmu; exact absurd hmu (Nat.not_lt_zero _)
          | succ zn ih =>
            intro i H locs ls hmu hi1 hP hD hS hl
            refine lv_iload hx hb dX3_feed_33 (lv_at hl 0 rfl) ?_
            refine lv_if_lt (tgt := 63) hx hb dX3_feed_35 (by decide) (fun c_35 => ?_) (fun c_35 => ?_)
            ·
              have hex : i = n := by
                rcases Nat.lt_or_ge i n with q | q
                · rw [sm_pl1 (by omega)] at c_35
                  exact absurd c_35 (nI_pos (by omega))
                · omega
              rw [hex] at hP hD
              have hP : va_P D vwCl [(qs, .inr (3, [.ref qi, .ref qo, .ref qd, .ref qk, .ref qv, .ref qf, .ref qa, .ref gh, .ref hk, .int (nI kc), .int ivl, .int drw])), (qi, .inr (2, [.ref bi, .int (nI (ni + n))])), (bi, .inl (cI, 300, .inl (sm_ap fi ni (sm_fb x n) n)))] H := hP
              have hD : va_D A [(qs, .inr (3, [.ref qi, .ref qo, .ref qd, .ref qk, .ref qv, .ref qf, .ref qa, .ref gh, .ref hk, .int (nI kc), .int ivl, .int drw])), (qi, .inr (2, [.ref bi, .int (nI (ni + n))])), (bi, .inl (cI, 300, .inl (sm_ap fi ni (sm_fb x n) n)))] := hD
              refine lv_aload_n hx hb dX3_feed_63 rfl (lv_at hl 1 rfl) ?_
              refine va_get (D := D) (ci := 3) (v := .ref qi) (C := RX3) (T := TX3) (N := 12) hx hb hts hw_X3 hown hK hP 0 rfl rfl 0 (by decide) hf_14 (fun _ h9 => h9) rfl dX3_feed_64 ?_
              refine sm_callVi (wc := [(qi, .inr (2, [.ref bi, .int (nI (ni + n))])), (bi, .inl (cI, 300, .inl (sm_ap fi ni (sm_fb x n) n)))]) (wr := [(qs, .inr (3, [.ref qi, .ref qo, .ref qd, .ref qk, .ref qv, .ref qf, .ref qa, .ref gh, .ref hk, .int (nI kc), .int ivl, .int drw]))]) (As := []) (rest := []) ⟨hx, hb, hml, hown, hts⟩ (sc_X2_size l D cI th _ qi bi 300 (sm_ap fi ni (sm_fb x n) n) (nI (ni + n)) ) (cwV 0 hts gX3_feed_X2_size rfl rfl rfl (by decide +kernel) ⟨Nat.le_of_ble_eq_true rfl, Nat.le_of_ble_eq_true rfl⟩) hP hD hS hA hK hT [1, 2] [0] rfl rfl rfl rfl (by decide) 0 2 rfl rfl rfl rfl hl.1 rfl (Nat.le_of_ble_eq_true rfl) dX3_feed_67 ⟨Nat.zero_le _, Nat.zero_le _⟩ (fun r_67 zt H1 locs ht hvm hw hB hJ hS => ?_)
              obtain ⟨hP1, -, hD1⟩ := hB
              rw [ht] at hP1
              obtain ⟨hP, hD⟩ := hJ _ hP1 hD1
              clear hJ
              generalize H1 = H at hP hS ⊢
              have hP : va_P D vwCl [(qs, .inr (3, [.ref qi, .ref qo, .ref qd, .ref qk, .ref qv, .ref qf, .ref qa, .ref gh, .ref hk, .int (nI kc), .int ivl, .int drw])), (qi, .inr (2, [.ref bi, .int (nI (ni + n))])), (bi, .inl (cI, 300, .inl (sm_ap fi ni (sm_fb x n) n)))] H := hP.sub [0, 1, 2] rfl
              have hD : va_D A [(qs, .inr (3, [.ref qi, .ref qo, .ref qd, .ref qk, .ref qv, .ref qf, .ref qa, .ref gh, .ref hk, .int (nI kc), .int ivl, .int drw])), (qi, .inr (2, [.ref bi, .int (nI (ni + n))])), (bi, .inl (cI, 300, .inl (sm_ap fi ni (sm_fb x n) n)))] := hD.sub [0, 1, 2] rfl rfl
              rw [hw]
              rw [hQ]
              have hP9 : va_P D vwCl [(qs, .inr (3, [.ref qi, .ref qo, .ref qd, .ref qk, .ref qv, .ref qf, .ref qa, .ref gh, .ref hk, .int (nI kc), .int ivl, .int drw])), (qi, .inr (2, [.ref bi, .int (nI (ni + n))])), (bi, .inl (cI, 300, .inl (sm_ap fi ni (sm_fb x n) n)))] H := hP
              have hD9 : va_D A [(qs, .inr (3, [.ref qi, .ref qo, .ref qd, .ref qk, .ref qv, .ref qf, .ref qa, .ref gh, .ref hk, .int (nI kc), .int ivl, .int drw])), (qi, .inr (2, [.ref bi, .int (nI (ni + n))])), (bi, .inl (cI, 300, .inl (sm_ap fi ni (sm_fb x n) n)))] := hD
              exact W.iret (v := nI (ni + n)) hx hb hr (fun t ht hW => ⟨⟨nI (ni + n), (), rfl, rfl, ⟨by rw [ht]; exact hP9, va_K.moved hW.alike hK, hD9⟩⟩, hS.F ht⟩) hS.2.2 dX3_feed_70
            ·
              have hlt : i < n := by
                rcases Nat.lt_or_ge i n with q | q
                · exact q
                · have e9 : n - i = 0 := by omega
                  rw [e9] at c_35
                  exact absurd (by decide) c_35
              refine lv_aload_n hx hb dX3_feed_38 rfl (lv_at hl 1 rfl) ?_
              refine va_get (D := D) (ci := 3) (v := .ref qi) (C := RX3) (T := TX3) (N := 12) hx hb hts hw_X3 hown hK hP 0 rfl rfl 0 (by decide) hf_14 (fun _ h9 => h9) rfl dX3_feed_39 ?_
              refine lv_lload_n hx hb dX3_feed_42 rfl (lv_at hl 2 rfl) ?_
              refine lv_bipush (v := 8) hx hb dX3_feed_43 (by decide) ?_
              refine lv_iload hx hb dX3_feed_45 (lv_at hl 0 rfl) ?_
              refine lv_imul hx hb dX3_feed_47 ?_
              refine sm_top (z := nI (8 * (n - 1 - i))) (by rw [sm_pl1 (by omega), show n - i - 1 = n - 1 - i by omega]; exact pk_mul 8 (n - 1 - i)) ?_
              refine lv_lushr (v := sm_lus x (nI (8 * (n - 1 - i)))) hx hb dX3_feed_48 rfl ?_
              refine lv_l2i (v := Int64.toInt32 (sm_lus x (nI (8 * (n - 1 - i))))) hx hb dX3_feed_49 rfl ?_
              refine lv_sipush (v := 255) hx hb dX3_feed_50 (by decide) ?_
              refine lv_iand hx hb dX3_feed_53 ?_
              refine sm_callVv (wc := [(qi, .inr (2, [.ref bi, .int (nI (ni + i))])), (bi, .inl (cI, 300, .inl (sm_ap fi ni (sm_fb x n) i)))]) (wr := [(qs, .inr (3, [.ref qi, .ref qo, .ref qd, .ref qk, .ref qv, .ref qf, .ref qa, .ref gh, .ref hk, .int (nI kc), .int ivl, .int drw]))]) (As := [.int ((Int64.toInt32 (sm_lus x (nI (8 * (n - 1 - i))))) &&& 255)]) (rest := []) ⟨hx, hb, hml, hown, hts⟩ (sc_X2_put l D cI th _ qi bi 300 (ni + i) (sm_ap fi ni (sm_fb x n) i) ((Int64.toInt32 (sm_lus x (nI (8 * (n - 1 - i))))) &&& 255) (by omega) (by decide)) (cwV 1 hts gX3_feed_X2_put rfl rfl rfl (by decide +kernel) ⟨Nat.le_of_ble_eq_true rfl, Nat.le_of_ble_eq_true rfl⟩) hP hD hS hA hK hT [1, 2] [0] rfl rfl rfl rfl (by decide) 0 2 rfl rfl rfl rfl hl.1 rfl (Nat.le_of_ble_eq_true rfl) dX3_feed_54 ⟨Nat.zero_le _, Nat.zero_le _⟩ (fun zt H1 locs ht hvm hB hJ hS => ?_)
              obtain ⟨hP1, -, hD1⟩ := hB
              rw [ht] at hP1
              obtain ⟨hP, hD⟩ := hJ _ hP1 hD1
              clear hJ
              generalize H1 = H at hP hS ⊢
              have hP : va_P D vwCl [(qs, .inr (3, [.ref qi, .ref qo, .ref qd, .ref qk, .ref qv, .ref qf, .ref qa, .ref gh, .ref hk, .int (nI kc), .int ivl, .int drw])), (qi, .inr (2, [.ref bi, .int (nI (ni + i + 1))])), (bi, .inl (cI, 300, .inl (upd (sm_ap fi ni (sm_fb x n) i) (ni + i) ((Int64.toInt32 (sm_lus x (nI (8 * (n - 1 - i))))) &&& 255))))] H := hP.sub [0, 1, 2] rfl
              have hD : va_D A [(qs, .inr (3, [.ref qi, .ref qo, .ref qd, .ref qk, .ref qv, .ref qf, .ref qa, .ref gh, .ref hk, .int (nI kc), .int ivl, .int drw])), (qi, .inr (2, [.ref bi, .int (nI (ni + i + 1))])), (bi, .inl (cI, 300, .inl (upd (sm_ap fi ni (sm_fb x n) i) (ni + i) ((Int64.toInt32 (sm_lus x (nI (8 * (n - 1 - i))))) &&& 255))))] := hD.sub [0, 1, 2] rfl rfl
              refine lv_iinc (v := nI (n - (i + 1)) - 1) (lv' := [(4, .int (nI (n - (i + 1)) - 1)), (0, .ref qs), (1, .long x), (3, .int (nI n))]) hx hb dX3_feed_57 hl (k := 0) rfl (by rw [show n - i = n - (i + 1) + 1 by omega, nI_succ]; exact sm_dec _) (by decide) rfl (fun ls hl => ?_)
              refine lv_goto (tgt := 33) hx hb dX3_feed_60 (by decide) ?_
              rw [show upd (sm_ap fi ni (sm_fb x n) i) (ni + i) (Int64.toInt32 (sm_lus x (nI (8 * (n - 1 - i)))) &&& 255) = _ from sm_ap_s fi ni (sm_fb x n) i] at hP hD
              exact ih (i + 1) _ _ _ (by omega) (by omega) hP hD hS (lv_sub hl [0, 1, 2, 3] rfl)
        exact lp33 _ 0 _ _ _ (Nat.lt_succ_self _) (Nat.zero_le _) (by rw [sm_ap_0]; exact hP) (by rw [sm_ap_0]; exact hD) hS (lv_sub hl [0, 1, 2, 3] rfl)
      ·
        exact absurd (by rw [nI_add]; exact nI_le (b := 300) hni (by decide)) c_23

def rm_X3_clear : Room := ({ frames := 1, cells := 0, slots := 0, locals := 20 } : Room)
set_option maxHeartbeats 4000000 in
set_option maxRecDepth 100000 in
/-- clear -/
theorem sc_X3_clear (l : Launch) (D : va_G) (cI : ClassId) (th : Option (Nat × Nat)) (sz : Nat) (qs qi bi qo bo qd bd qk bk qv bv qf bf qa ba gh gm gb gw gd hk hh hm bm aw ad hB bB hI bI : Nat) (ivl drw : Int32) (kc : Nat) (u : Int32) (fi : Nat → Int32)  : Met l yX3_clear wsX3_clear rm_X3_clear (va_Pc [.ref qs] (sm_PW D cI th [(qs, .inr (3, [.ref qi, .ref qo, .ref qd, .ref qk, .ref qv, .ref qf, .ref qa, .ref gh, .ref hk, .int (nI kc), .int ivl, .int drw])), (qi, .inr (2, [.ref bi, .int u])), (bi, .inl (cI, 300, .inl fi))] sz)) (va_Qi (fun (r : Int32) (_ : Unit) => r = u) (fun _ t => sm_QW D cI (va_A [(qs, .inr (3, [.ref qi, .ref qo, .ref qd, .ref qk, .ref qv, .ref qf, .ref qa, .ref gh, .ref hk, .int (nI kc), .int ivl, .int drw])), (qi, .inr (2, [.ref bi, .int u])), (bi, .inl (cI, 300, .inl fi))] sz) [(qs, .inr (3, [.ref qi, .ref qo, .ref qd, .ref qk, .ref qv, .ref qf, .ref qa, .ref gh, .ref hk, .int (nI kc), .int ivl, .int drw])), (qi, .inr (2, [.ref bi, .int (nI 0)])), (bi, .inl (cI, 300, .inl fi))] t) (va_A [(qs, .inr (3, [.ref qi, .ref qo, .ref qd, .ref qk, .ref qv, .ref qf, .ref qa, .ref gh, .ref hk, .int (nI kc), .int ivl, .int drw])), (qi, .inr (2, [.ref bi, .int u])), (bi, .inl (cI, 300, .inl fi))] sz)) 0 0 (va_A [(qs, .inr (3, [.ref qi, .ref qo, .ref qd, .ref qk, .ref qv, .ref qf, .ref qa, .ref gh, .ref hk, .int (nI kc), .int ivl, .int drw])), (qi, .inr (2, [.ref bi, .int u])), (bi, .inl (cI, 300, .inl fi))] sz) := by
  refine Met.ofW (cc := cX3_clear) (maxL := 2) (ret := (some .int)) (by decide) rfl ?_
  intro p e s m args below meth c s₁ B hml hv
  obtain ⟨rfl, hsz, hP, hK, hD0, hT⟩ := hv
  have hx := B.exec
  have hb := B.bytes
  have hr := B.returns
  have hts := atoms_spec (ws := wsX3_clear) B.pre
  have hown : s.vm.findClass RX3 = some m.cls := findClass_of_methodNamed B.named
  have hlocks := B.notSynchronized
  subst hsz
  have hD := hD0.self (sz := s.heap.size)
  generalize hAe : va_A [(qs, .inr (3, [.ref qi, .ref qo, .ref qd, .ref qk, .ref qv, .ref qf, .ref qa, .ref gh, .ref hk, .int (nI kc), .int ivl, .int drw])), (qi, .inr (2, [.ref bi, .int u])), (bi, .inl (cI, 300, .inl fi))] s.heap.size = A at hD hT ⊢
  have hA : ∀ q : Nat, s.heap.size ≤ q → A q := fun q h => by rw [← hAe]; exact Or.inr h
  have hS : va_S A s.heap s.heap [] := va_S.rf
  have hl := lv_entry ([.ref qs]) (n := 2) (Nat.le_of_ble_eq_true rfl)
  rw [lg_entry_eq]
  generalize (lg_sl ([.ref qs]) ++ List.replicate (2 - (lg_sl ([.ref qs])).length) Slot.unset).toArray = ls at hl ⊢
  have hl : lv_has ls 2 [(0, .ref qs)] := hl
  refine sm_name (fun Q hQ => ?_)
  have hf_14 := hts (.fieldLink RX3 14 "SeedMill" "input" "LSeedMill$Row;") (by decide +kernel)
  have hw_X3 : ∀ w ∈ wsX30, w ∈ wsX3_clear := by decide +kernel
  refine lv_aload_n hx hb dX3_clear_0 rfl (lv_at hl 0 rfl) ?_
  refine va_get (D := D) (ci := 3) (v := .ref qi) (C := RX3) (T := TX3) (N := 12) hx hb hts hw_X3 hown hK hP 0 rfl rfl 0 (by decide) hf_14 (fun _ h9 => h9) rfl dX3_clear_1 ?_
  refine sm_callVi (wc := [(qi, .inr (2, [.ref bi, .int u])), (bi, .inl (cI, 300, .inl fi))]) (wr := [(qs, .inr (3, [.ref qi, .ref qo, .ref qd, .ref qk, .ref qv, .ref qf, .ref qa, .ref gh, .ref hk, .int (nI kc), .int ivl, .int drw]))]) (As := []) (rest := []) ⟨hx, hb, hml, hown, hts⟩ (sc_X2_size l D cI th _ qi bi 300 fi u ) (cwV 0 hts gX3_clear_X2_size rfl rfl rfl (by decide +kernel) ⟨Nat.le_of_ble_eq_true rfl, Nat.le_of_ble_eq_true rfl⟩) hP hD hS hA hK hT [1, 2] [0] rfl rfl rfl rfl (by decide) 0 2 rfl rfl rfl rfl hl.1 rfl (Nat.le_of_ble_eq_true rfl) dX3_clear_4 ⟨Nat.zero_le _, Nat.zero_le _⟩ (fun r_4 zt H1 locs ht hvm hw hB hJ hS => ?_)
  obtain ⟨hP1, -, hD1⟩ := hB
  rw [ht] at hP1
  obtain ⟨hP, hD⟩ := hJ _ hP1 hD1
  clear hJ
  generalize H1 = H at hP hS ⊢
  have hP : va_P D vwCl [(qs, .inr (3, [.ref qi, .ref qo, .ref qd, .ref qk, .ref qv, .ref qf, .ref qa, .ref gh, .ref hk, .int (nI kc), .int ivl, .int drw])), (qi, .inr (2, [.ref bi, .int u])), (bi, .inl (cI, 300, .inl fi))] H := hP.sub [0, 1, 2] rfl
  have hD : va_D A [(qs, .inr (3, [.ref qi, .ref qo, .ref qd, .ref qk, .ref qv, .ref qf, .ref qa, .ref gh, .ref hk, .int (nI kc), .int ivl, .int drw])), (qi, .inr (2, [.ref bi, .int u])), (bi, .inl (cI, 300, .inl fi))] := hD.sub [0, 1, 2] rfl rfl
  rw [hw]
  refine lv_istore_n (lv' := [(1, .int u), (0, .ref qs)]) hx hb dX3_clear_7 rfl hl (by decide) rfl (fun ls hl => ?_)
  refine lv_aload_n hx hb dX3_clear_8 rfl (lv_at hl 1 rfl) ?_
  refine va_get (D := D) (ci := 3) (v := .ref qi) (C := RX3) (T := TX3) (N := 12) hx hb hts hw_X3 hown hK hP 0 rfl rfl 0 (by decide) hf_14 (fun _ h9 => h9) rfl dX3_clear_9 ?_
  refine sm_callVv (wc := [(qi, .inr (2, [.ref bi, .int u])), (bi, .inl (cI, 300, .inl fi))]) (wr := [(qs, .inr (3, [.ref qi, .ref qo, .ref qd, .ref qk, .ref qv, .ref qf, .ref qa, .ref gh, .ref hk, .int (nI kc), .int ivl, .int drw]))]) (As := []) (rest := []) ⟨hx, hb, hml, hown, hts⟩ (sc_X2_empty l D cI th _ qi bi 300 fi u ) (cwV 0 hts gX3_clear_X2_empty rfl rfl rfl (by decide +kernel) ⟨Nat.le_of_ble_eq_true rfl, Nat.le_of_ble_eq_true rfl⟩) hP hD hS hA hK hT [1, 2] [0] rfl rfl rfl rfl (by decide) 0 2 rfl rfl rfl rfl hl.1 rfl (Nat.le_of_ble_eq_true rfl) dX3_clear_12 ⟨Nat.zero_le _, Nat.zero_le _⟩ (fun zt H1 locs ht hvm hB hJ hS => ?_)
  obtain ⟨hP1, -, hD1⟩ := hB
  rw [ht] at hP1
  obtain ⟨hP, hD⟩ := hJ _ hP1 hD1
  clear hJ
  generalize H1 = H at hP hS ⊢
  have hP : va_P D vwCl [(qs, .inr (3, [.ref qi, .ref qo, .ref qd, .ref qk, .ref qv, .ref qf, .ref qa, .ref gh, .ref hk, .int (nI kc), .int ivl, .int drw])), (qi, .inr (2, [.ref bi, .int (nI 0)])), (bi, .inl (cI, 300, .inl fi))] H := hP.sub [0, 1, 2] rfl
  have hD : va_D A [(qs, .inr (3, [.ref qi, .ref qo, .ref qd, .ref qk, .ref qv, .ref qf, .ref qa, .ref gh, .ref hk, .int (nI kc), .int ivl, .int drw])), (qi, .inr (2, [.ref bi, .int (nI 0)])), (bi, .inl (cI, 300, .inl fi))] := hD.sub [0, 1, 2] rfl rfl
  refine lv_iload_n hx hb dX3_clear_15 rfl (lv_at hl 0 rfl) ?_
  rw [hQ]
  have hP9 : va_P D vwCl [(qs, .inr (3, [.ref qi, .ref qo, .ref qd, .ref qk, .ref qv, .ref qf, .ref qa, .ref gh, .ref hk, .int (nI kc), .int ivl, .int drw])), (qi, .inr (2, [.ref bi, .int (nI 0)])), (bi, .inl (cI, 300, .inl fi))] H := hP
  have hD9 : va_D A [(qs, .inr (3, [.ref qi, .ref qo, .ref qd, .ref qk, .ref qv, .ref qf, .ref qa, .ref gh, .ref hk, .int (nI kc), .int ivl, .int drw])), (qi, .inr (2, [.ref bi, .int (nI 0)])), (bi, .inl (cI, 300, .inl fi))] := hD
  exact W.iret (v := u) hx hb hr (fun t ht hW => ⟨⟨u, (), rfl, rfl, ⟨by rw [ht]; exact hP9, va_K.moved hW.alike hK, hD9⟩⟩, hS.F ht⟩) hS.2.2 dX3_clear_16

def rm_X3_seed_no : Room := ({ frames := 7, cells := 0, slots := 0, locals := 161 } : Room)
set_option maxHeartbeats 4000000 in
set_option maxRecDepth 100000 in
/-- seed without input -/
theorem sc_X3_seed_no (l : Launch) (D : va_G) (cI : ClassId) (th : Option (Nat × Nat)) (sz : Nat) (qs qi bi qo bo qd bd qk bk qv bv qf bf qa ba gh gm gb gw gd hk hh hm bm aw ad hB bB hI bI : Nat) (ivl drw : Int32) (kc : Nat) (fi : Nat → Int32)  : Met l yX3_seed wsX3_seed rm_X3_seed_no (va_Pc [.ref qs] (sm_PW D cI th [(qs, .inr (3, [.ref qi, .ref qo, .ref qd, .ref qk, .ref qv, .ref qf, .ref qa, .ref gh, .ref hk, .int (nI kc), .int ivl, .int drw])), (qi, .inr (2, [.ref bi, .int (nI 0)])), (bi, .inl (cI, 300, .inl fi))] sz)) (va_Qi (fun (r : Int32) (_ : Unit) => r = 0) (fun _ t => sm_QW D cI (va_A [(qs, .inr (3, [.ref qi, .ref qo, .ref qd, .ref qk, .ref qv, .ref qf, .ref qa, .ref gh, .ref hk, .int (nI kc), .int ivl, .int drw])), (qi, .inr (2, [.ref bi, .int (nI 0)])), (bi, .inl (cI, 300, .inl fi))] sz) [(qs, .inr (3, [.ref qi, .ref qo, .ref qd, .ref qk, .ref qv, .ref qf, .ref qa, .ref gh, .ref hk, .int (nI kc), .int ivl, .int drw])), (qi, .inr (2, [.ref bi, .int (nI 0)])), (bi, .inl (cI, 300, .inl fi))] t) (va_A [(qs, .inr (3, [.ref qi, .ref qo, .ref qd, .ref qk, .ref qv, .ref qf, .ref qa, .ref gh, .ref hk, .int (nI kc), .int ivl, .int drw])), (qi, .inr (2, [.ref bi, .int (nI 0)])), (bi, .inl (cI, 300, .inl fi))] sz)) 0 0 (va_A [(qs, .inr (3, [.ref qi, .ref qo, .ref qd, .ref qk, .ref qv, .ref qf, .ref qa, .ref gh, .ref hk, .int (nI kc), .int ivl, .int drw])), (qi, .inr (2, [.ref bi, .int (nI 0)])), (bi, .inl (cI, 300, .inl fi))] sz) := by
  refine Met.ofW (cc := cX3_seed) (maxL := 1) (ret := (some .int)) (by decide) rfl ?_
  intro p e s m args below meth c s₁ B hml hv
  obtain ⟨rfl, hsz, hP, hK, hD0, hT⟩ := hv
  have hx := B.exec
  have hb := B.bytes
  have hr := B.returns
  have hts := atoms_spec (ws := wsX3_seed) B.pre
  have hown : s.vm.findClass RX3 = some m.cls := findClass_of_methodNamed B.named
  have hlocks := B.notSynchronized
  subst hsz
  have hD := hD0.self (sz := s.heap.size)
  generalize hAe : va_A [(qs, .inr (3, [.ref qi, .ref qo, .ref qd, .ref qk, .ref qv, .ref qf, .ref qa, .ref gh, .ref hk, .int (nI kc), .int ivl, .int drw])), (qi, .inr (2, [.ref bi, .int (nI 0)])), (bi, .inl (cI, 300, .inl fi))] s.heap.size = A at hD hT ⊢
  have hA : ∀ q : Nat, s.heap.size ≤ q → A q := fun q h => by rw [← hAe]; exact Or.inr h
  have hS : va_S A s.heap s.heap [] := va_S.rf
  have hl := lv_entry ([.ref qs]) (n := 1) (Nat.le_of_ble_eq_true rfl)
  rw [lg_entry_eq]
  generalize (lg_sl ([.ref qs]) ++ List.replicate (1 - (lg_sl ([.ref qs])).length) Slot.unset).toArray = ls at hl ⊢
  have hl : lv_has ls 1 [(0, .ref qs)] := hl
  refine sm_name (fun Q hQ => ?_)
  have hf_14 := hts (.fieldLink RX3 14 "SeedMill" "input" "LSeedMill$Row;") (by decide +kernel)
  have hw_X3 : ∀ w ∈ wsX30, w ∈ wsX3_seed := by decide +kernel
  have hf_24 := hts (.fieldLink RX3 24 "SeedMill" "key" "LSeedMill$Row;") (by decide +kernel)
  have hf_27 := hts (.fieldLink RX3 27 "SeedMill" "value" "LSeedMill$Row;") (by decide +kernel)
  have hf_50 := hts (.fieldLink RX3 50 "SeedMill" "drawCounter" "I") (by decide +kernel)
  refine lv_aload_n hx hb dX3_seed_0 rfl (lv_at hl 0 rfl) ?_
  refine va_get (D := D) (ci := 3) (v := .ref qi) (C := RX3) (T := TX3) (N := 12) hx hb hts hw_X3 hown hK hP 0 rfl rfl 0 (by decide) hf_14 (fun _ h9 => h9) rfl dX3_seed_1 ?_
  refine sm_callVi (wc := [(qi, .inr (2, [.ref bi, .int (nI 0)])), (bi, .inl (cI, 300, .inl fi))]) (wr := [(qs, .inr (3, [.ref qi, .ref qo, .ref qd, .ref qk, .ref qv, .ref qf, .ref qa, .ref gh, .ref hk, .int (nI kc), .int ivl, .int drw]))]) (As := []) (rest := []) ⟨hx, hb, hml, hown, hts⟩ (sc_X2_size l D cI th _ qi bi 300 fi (nI 0) ) (cwV 0 hts gX3_seed_X2_size rfl rfl rfl (by decide +kernel) ⟨Nat.le_of_ble_eq_true rfl, Nat.le_of_ble_eq_true rfl⟩) hP hD hS hA hK hT [1, 2] [0] rfl rfl rfl rfl (by decide) 0 2 rfl rfl rfl rfl hl.1 rfl (Nat.le_of_ble_eq_true rfl) dX3_seed_4 ⟨Nat.zero_le _, Nat.zero_le _⟩ (fun r_4 zt H1 locs ht hvm hw hB hJ hS => ?_)
  obtain ⟨hP1, -, hD1⟩ := hB
  rw [ht] at hP1
  obtain ⟨hP, hD⟩ := hJ _ hP1 hD1
  clear hJ
  generalize H1 = H at hP hS ⊢
  have hP : va_P D vwCl [(qs, .inr (3, [.ref qi, .ref qo, .ref qd, .ref qk, .ref qv, .ref qf, .ref qa, .ref gh, .ref hk, .int (nI kc), .int ivl, .int drw])), (qi, .inr (2, [.ref bi, .int (nI 0)])), (bi, .inl (cI, 300, .inl fi))] H := hP.sub [0, 1, 2] rfl
  have hD : va_D A [(qs, .inr (3, [.ref qi, .ref qo, .ref qd, .ref qk, .ref qv, .ref qf, .ref qa, .ref gh, .ref hk, .int (nI kc), .int ivl, .int drw])), (qi, .inr (2, [.ref bi, .int (nI 0)])), (bi, .inl (cI, 300, .inl fi))] := hD.sub [0, 1, 2] rfl rfl
  rw [hw]
  refine lv_if_ne (tgt := 12) hx hb dX3_seed_7 (by decide) (fun c_7 => ?_) (fun c_7 => ?_)
  ·
    exact absurd c_7 (fun h9 => h9 rfl)
  ·
    refine lv_iconst (v := 0) hx hb dX3_seed_10 (by decide) ?_
    rw [hQ]
    have hP9 : va_P D vwCl [(qs, .inr (3, [.ref qi, .ref qo, .ref qd, .ref qk, .ref qv, .ref qf, .ref qa, .ref gh, .ref hk, .int (nI kc), .int ivl, .int drw])), (qi, .inr (2, [.ref bi, .int (nI 0)])), (bi, .inl (cI, 300, .inl fi))] H := hP
    have hD9 : va_D A [(qs, .inr (3, [.ref qi, .ref qo, .ref qd, .ref qk, .ref qv, .ref qf, .ref qa, .ref gh, .ref hk, .int (nI kc), .int ivl, .int drw])), (qi, .inr (2, [.ref bi, .int (nI 0)])), (bi, .inl (cI, 300, .inl fi))] := hD
    exact W.iret (v := 0) hx hb hr (fun t ht hW => ⟨⟨0, (), rfl, rfl, ⟨by rw [ht]; exact hP9, va_K.moved hW.alike hK, hD9⟩⟩, hS.F ht⟩) hS.2.2 dX3_seed_11

def rm_X3_seed_ok : Room := ({ frames := 7, cells := 0, slots := 0, locals := 161 } : Room)
set_option maxHeartbeats 4000000 in
set_option maxRecDepth 100000 in
/-- seed -/
theorem sc_X3_seed_ok (l : Launch) (D : va_G) (cI : ClassId) (tk tf : Nat) (sz : Nat) (qs qi bi qo bo qd bd qk bk qv bv qf bf qa ba gh gm gb gw gd hk hh hm bm aw ad hB bB hI bI : Nat) (ivl drw : Int32) (kc : Nat) (ni : Nat) (fi fk fv ff : Nat → Int32) (uk uv uf : Int32) (fm : Nat → Int32) (um : Int32) (fw fd fB : Nat → Int32) (uB : Int32) (fI : Nat → Int32) (uI : Int32) (hn0 : 0 < ni) (hni : ni ≤ 300) : Met l yX3_seed wsX3_seed rm_X3_seed_ok (va_Pc [.ref qs] (sm_PW D cI (some (tk, tf)) [(qs, .inr (3, [.ref qi, .ref qo, .ref qd, .ref qk, .ref qv, .ref qf, .ref qa, .ref gh, .ref hk, .int (nI kc), .int ivl, .int drw])), (qi, .inr (2, [.ref bi, .int (nI ni)])), (bi, .inl (cI, 300, .inl fi)), (qk, .inr (2, [.ref bk, .int uk])), (bk, .inl (cI, 32, .inl fk)), (qv, .inr (2, [.ref bv, .int uv])), (bv, .inl (cI, 32, .inl fv)), (qf, .inr (2, [.ref bf, .int uf])), (bf, .inl (cI, 32, .inl ff)), (hk, .inr (1, [.ref hh, .ref hB, .ref hI])), (hh, .inr (0, [.ref hm, .ref aw, .ref ad])), (hm, .inr (2, [.ref bm, .int um])), (bm, .inl (cI, 448, .inl fm)), (aw, .inl (cI, 64, .inl fw)), (ad, .inl (cI, 8, .inl fd)), (hB, .inr (2, [.ref bB, .int uB])), (bB, .inl (cI, 64, .inl fB)), (hI, .inr (2, [.ref bI, .int uI])), (bI, .inl (cI, 32, .inl fI))] sz)) (va_Qi (fun (r : Int32) (_ : Unit) => r = 1) (fun _ t => ∃ (ff2 : Nat → Int32) (fm2 : Nat → Int32) (um2 : Int32) (fw2 : Nat → Int32) (fd2 : Nat → Int32) (fB2 : Nat → Int32) (uB2 : Int32) (fI2 : Nat → Int32) (uI2 : Int32), (sm_stir (fun _ => 0, fun _ => 1) fi ni).2 = sm_nv (sm_stir (fun _ => 0, fun _ => 1) fi ni).1 ff2 ∧ sm_QW D cI (va_A [(qs, .inr (3, [.ref qi, .ref qo, .ref qd, .ref qk, .ref qv, .ref qf, .ref qa, .ref gh, .ref hk, .int (nI kc), .int ivl, .int drw])), (qi, .inr (2, [.ref bi, .int (nI ni)])), (bi, .inl (cI, 300, .inl fi)), (qk, .inr (2, [.ref bk, .int uk])), (bk, .inl (cI, 32, .inl fk)), (qv, .inr (2, [.ref bv, .int uv])), (bv, .inl (cI, 32, .inl fv)), (qf, .inr (2, [.ref bf, .int uf])), (bf, .inl (cI, 32, .inl ff)), (hk, .inr (1, [.ref hh, .ref hB, .ref hI])), (hh, .inr (0, [.ref hm, .ref aw, .ref ad])), (hm, .inr (2, [.ref bm, .int um])), (bm, .inl (cI, 448, .inl fm)), (aw, .inl (cI, 64, .inl fw)), (ad, .inl (cI, 8, .inl fd)), (hB, .inr (2, [.ref bB, .int uB])), (bB, .inl (cI, 64, .inl fB)), (hI, .inr (2, [.ref bI, .int uI])), (bI, .inl (cI, 32, .inl fI))] sz) [(qs, .inr (3, [.ref qi, .ref qo, .ref qd, .ref qk, .ref qv, .ref qf, .ref qa, .ref gh, .ref hk, .int (nI 1), .int ivl, .int drw])), (qi, .inr (2, [.ref bi, .int (nI 0)])), (bi, .inl (cI, 300, .inl fi)), (qk, .inr (2, [.ref bk, .int (nI 32)])), (bk, .inl (cI, 32, .inl ((sm_stir (fun _ => 0, fun _ => 1) fi ni).1))), (qv, .inr (2, [.ref bv, .int (nI 32)])), (bv, .inl (cI, 32, .inl ((sm_stir (fun _ => 0, fun _ => 1) fi ni).2))), (qf, .inr (2, [.ref bf, .int (nI 32)])), (bf, .inl (cI, 32, .inl ff2)), (hk, .inr (1, [.ref hh, .ref hB, .ref hI])), (hh, .inr (0, [.ref hm, .ref aw, .ref ad])), (hm, .inr (2, [.ref bm, .int um2])), (bm, .inl (cI, 448, .inl fm2)), (aw, .inl (cI, 64, .inl fw2)), (ad, .inl (cI, 8, .inl fd2)), (hB, .inr (2, [.ref bB, .int uB2])), (bB, .inl (cI, 64, .inl fB2)), (hI, .inr (2, [.ref bI, .int uI2])), (bI, .inl (cI, 32, .inl fI2))] t) (va_A [(qs, .inr (3, [.ref qi, .ref qo, .ref qd, .ref qk, .ref qv, .ref qf, .ref qa, .ref gh, .ref hk, .int (nI kc), .int ivl, .int drw])), (qi, .inr (2, [.ref bi, .int (nI ni)])), (bi, .inl (cI, 300, .inl fi)), (qk, .inr (2, [.ref bk, .int uk])), (bk, .inl (cI, 32, .inl fk)), (qv, .inr (2, [.ref bv, .int uv])), (bv, .inl (cI, 32, .inl fv)), (qf, .inr (2, [.ref bf, .int uf])), (bf, .inl (cI, 32, .inl ff)), (hk, .inr (1, [.ref hh, .ref hB, .ref hI])), (hh, .inr (0, [.ref hm, .ref aw, .ref ad])), (hm, .inr (2, [.ref bm, .int um])), (bm, .inl (cI, 448, .inl fm)), (aw, .inl (cI, 64, .inl fw)), (ad, .inl (cI, 8, .inl fd)), (hB, .inr (2, [.ref bB, .int uB])), (bB, .inl (cI, 64, .inl fB)), (hI, .inr (2, [.ref bI, .int uI])), (bI, .inl (cI, 32, .inl fI))] sz)) 0 0 (va_A [(qs, .inr (3, [.ref qi, .ref qo, .ref qd, .ref qk, .ref qv, .ref qf, .ref qa, .ref gh, .ref hk, .int (nI kc), .int ivl, .int drw])), (qi, .inr (2, [.ref bi, .int (nI ni)])), (bi, .inl (cI, 300, .inl fi)), (qk, .inr (2, [.ref bk, .int uk])), (bk, .inl (cI, 32, .inl fk)), (qv, .inr (2, [.ref bv, .int uv])), (bv, .inl (cI, 32, .inl fv)), (qf, .inr (2, [.ref bf, .int uf])), (bf, .inl (cI, 32, .inl ff)), (hk, .inr (1, [.ref hh, .ref hB, .ref hI])), (hh, .inr (0, [.ref hm, .ref aw, .ref ad])), (hm, .inr (2, [.ref bm, .int um])), (bm, .inl (cI, 448, .inl fm)), (aw, .inl (cI, 64, .inl fw)), (ad, .inl (cI, 8, .inl fd)), (hB, .inr (2, [.ref bB, .int uB])), (bB, .inl (cI, 64, .inl fB)), (hI, .inr (2, [.ref bI, .int uI])), (bI, .inl (cI, 32, .inl fI))] sz) := by
  refine Met.ofW (cc := cX3_seed) (maxL := 1) (ret := (some .int)) (by decide) rfl ?_
  intro p e s m args below meth c s₁ B hml hv
  obtain ⟨rfl, hsz, hP, hK, hD0, hT⟩ := hv
  have hx := B.exec
  have hb := B.bytes
  have hr := B.returns
  have hts := atoms_spec (ws := wsX3_seed) B.pre
  have hown : s.vm.findClass RX3 = some m.cls := findClass_of_methodNamed B.named
  have hlocks := B.notSynchronized
  subst hsz
  have hD := hD0.self (sz := s.heap.size)
  generalize hAe : va_A [(qs, .inr (3, [.ref qi, .ref qo, .ref qd, .ref qk, .ref qv, .ref qf, .ref qa, .ref gh, .ref hk, .int (nI kc), .int ivl, .int drw])), (qi, .inr (2, [.ref bi, .int (nI ni)])), (bi, .inl (cI, 300, .inl fi)), (qk, .inr (2, [.ref bk, .int uk])), (bk, .inl (cI, 32, .inl fk)), (qv, .inr (2, [.ref bv, .int uv])), (bv, .inl (cI, 32, .inl fv)), (qf, .inr (2, [.ref bf, .int uf])), (bf, .inl (cI, 32, .inl ff)), (hk, .inr (1, [.ref hh, .ref hB, .ref hI])), (hh, .inr (0, [.ref hm, .ref aw, .ref ad])), (hm, .inr (2, [.ref bm, .int um])), (bm, .inl (cI, 448, .inl fm)), (aw, .inl (cI, 64, .inl fw)), (ad, .inl (cI, 8, .inl fd)), (hB, .inr (2, [.ref bB, .int uB])), (bB, .inl (cI, 64, .inl fB)), (hI, .inr (2, [.ref bI, .int uI])), (bI, .inl (cI, 32, .inl fI))] s.heap.size = A at hD hT ⊢
  have hA : ∀ q : Nat, s.heap.size ≤ q → A q := fun q h => by rw [← hAe]; exact Or.inr h
  have hS : va_S A s.heap s.heap [] := va_S.rf
  have hl := lv_entry ([.ref qs]) (n := 1) (Nat.le_of_ble_eq_true rfl)
  rw [lg_entry_eq]
  generalize (lg_sl ([.ref qs]) ++ List.replicate (1 - (lg_sl ([.ref qs])).length) Slot.unset).toArray = ls at hl ⊢
  have hl : lv_has ls 1 [(0, .ref qs)] := hl
  refine sm_name (fun Q hQ => ?_)
  have hf_14 := hts (.fieldLink RX3 14 "SeedMill" "input" "LSeedMill$Row;") (by decide +kernel)
  have hw_X3 : ∀ w ∈ wsX30, w ∈ wsX3_seed := by decide +kernel
  have hf_24 := hts (.fieldLink RX3 24 "SeedMill" "key" "LSeedMill$Row;") (by decide +kernel)
  have hf_27 := hts (.fieldLink RX3 27 "SeedMill" "value" "LSeedMill$Row;") (by decide +kernel)
  have hf_50 := hts (.fieldLink RX3 50 "SeedMill" "drawCounter" "I") (by decide +kernel)
  refine lv_aload_n hx hb dX3_seed_0 rfl (lv_at hl 0 rfl) ?_
  refine va_get (D := D) (ci := 3) (v := .ref qi) (C := RX3) (T := TX3) (N := 12) hx hb hts hw_X3 hown hK hP 0 rfl rfl 0 (by decide) hf_14 (fun _ h9 => h9) rfl dX3_seed_1 ?_
  refine sm_callVi (wc := [(qi, .inr (2, [.ref bi, .int (nI ni)])), (bi, .inl (cI, 300, .inl fi))]) (wr := [(qs, .inr (3, [.ref qi, .ref qo, .ref qd, .ref qk, .ref qv, .ref qf, .ref qa, .ref gh, .ref hk, .int (nI kc), .int ivl, .int drw])), (qk, .inr (2, [.ref bk, .int uk])), (bk, .inl (cI, 32, .inl fk)), (qv, .inr (2, [.ref bv, .int uv])), (bv, .inl (cI, 32, .inl fv)), (qf, .inr (2, [.ref bf, .int uf])), (bf, .inl (cI, 32, .inl ff)), (hk, .inr (1, [.ref hh, .ref hB, .ref hI])), (hh, .inr (0, [.ref hm, .ref aw, .ref ad])), (hm, .inr (2, [.ref bm, .int um])), (bm, .inl (cI, 448, .inl fm)), (aw, .inl (cI, 64, .inl fw)), (ad, .inl (cI, 8, .inl fd)), (hB, .inr (2, [.ref bB, .int uB])), (bB, .inl (cI, 64, .inl fB)), (hI, .inr (2, [.ref bI, .int uI])), (bI, .inl (cI, 32, .inl fI))]) (As := []) (rest := []) ⟨hx, hb, hml, hown, hts⟩ (sc_X2_size l D cI (some (tk, tf)) _ qi bi 300 fi (nI ni) ) (cwV 0 hts gX3_seed_X2_size rfl rfl rfl (by decide +kernel) ⟨Nat.le_of_ble_eq_true rfl, Nat.le_of_ble_eq_true rfl⟩) hP hD hS hA hK hT [1, 2] [0, 3, 4, 5, 6, 7, 8, 9, 10, 11, 12, 13, 14, 15, 16, 17, 18] rfl rfl rfl rfl (by decide) 0 2 rfl rfl rfl rfl hl.1 rfl (Nat.le_of_ble_eq_true rfl) dX3_seed_4 ⟨Nat.zero_le _, Nat.zero_le _⟩ (fun r_4 zt H1 locs ht hvm hw hB hJ hS => ?_)
  obtain ⟨hP1, -, hD1⟩ := hB
  rw [ht] at hP1
  obtain ⟨hP, hD⟩ := hJ _ hP1 hD1
  clear hJ
  generalize H1 = H at hP hS ⊢
  have hP : va_P D vwCl [(qs, .inr (3, [.ref qi, .ref qo, .ref qd, .ref qk, .ref qv, .ref qf, .ref qa, .ref gh, .ref hk, .int (nI kc), .int ivl, .int drw])), (qi, .inr (2, [.ref bi, .int (nI ni)])), (bi, .inl (cI, 300, .inl fi)), (qk, .inr (2, [.ref bk, .int uk])), (bk, .inl (cI, 32, .inl fk)), (qv, .inr (2, [.ref bv, .int uv])), (bv, .inl (cI, 32, .inl fv)), (qf, .inr (2, [.ref bf, .int uf])), (bf, .inl (cI, 32, .inl ff)), (hk, .inr (1, [.ref hh, .ref hB, .ref hI])), (hh, .inr (0, [.ref hm, .ref aw, .ref ad])), (hm, .inr (2, [.ref bm, .int um])), (bm, .inl (cI, 448, .inl fm)), (aw, .inl (cI, 64, .inl fw)), (ad, .inl (cI, 8, .inl fd)), (hB, .inr (2, [.ref bB, .int uB])), (bB, .inl (cI, 64, .inl fB)), (hI, .inr (2, [.ref bI, .int uI])), (bI, .inl (cI, 32, .inl fI))] H := hP.sub [0, 17, 18, 1, 2, 3, 4, 5, 6, 7, 8, 9, 10, 11, 12, 13, 14, 15, 16] rfl
  have hD : va_D A [(qs, .inr (3, [.ref qi, .ref qo, .ref qd, .ref qk, .ref qv, .ref qf, .ref qa, .ref gh, .ref hk, .int (nI kc), .int ivl, .int drw])), (qi, .inr (2, [.ref bi, .int (nI ni)])), (bi, .inl (cI, 300, .inl fi)), (qk, .inr (2, [.ref bk, .int uk])), (bk, .inl (cI, 32, .inl fk)), (qv, .inr (2, [.ref bv, .int uv])), (bv, .inl (cI, 32, .inl fv)), (qf, .inr (2, [.ref bf, .int uf])), (bf, .inl (cI, 32, .inl ff)), (hk, .inr (1, [.ref hh, .ref hB, .ref hI])), (hh, .inr (0, [.ref hm, .ref aw, .ref ad])), (hm, .inr (2, [.ref bm, .int um])), (bm, .inl (cI, 448, .inl fm)), (aw, .inl (cI, 64, .inl fw)), (ad, .inl (cI, 8, .inl fd)), (hB, .inr (2, [.ref bB, .int uB])), (bB, .inl (cI, 64, .inl fB)), (hI, .inr (2, [.ref bI, .int uI])), (bI, .inl (cI, 32, .inl fI))] := hD.sub [0, 17, 18, 1, 2, 3, 4, 5, 6, 7, 8, 9, 10, 11, 12, 13, 14, 15, 16] rfl rfl
  rw [hw]
  refine lv_if_ne (tgt := 12) hx hb dX3_seed_7 (by decide) (fun c_7 => ?_) (fun c_7 => ?_)
  ·
    refine lv_aload_n hx hb dX3_seed_12 rfl (lv_at hl 0 rfl) ?_
    refine va_get (D := D) (ci := 3) (v := .ref qk) (C := RX3) (T := TX3) (N := 12) hx hb hts hw_X3 hown hK hP 0 rfl rfl 3 (by decide) hf_24 (fun _ h9 => h9) rfl dX3_seed_13 ?_
    refine lv_iconst (v := 0) hx hb dX3_seed_16 (by decide) ?_
    refine sm_callVv (wc := [(qk, .inr (2, [.ref bk, .int uk])), (bk, .inl (cI, 32, .inl fk))]) (wr := [(qs, .inr (3, [.ref qi, .ref qo, .ref qd, .ref qk, .ref qv, .ref qf, .ref qa, .ref gh, .ref hk, .int (nI kc), .int ivl, .int drw])), (qi, .inr (2, [.ref bi, .int (nI ni)])), (bi, .inl (cI, 300, .inl fi)), (qv, .inr (2, [.ref bv, .int uv])), (bv, .inl (cI, 32, .inl fv)), (qf, .inr (2, [.ref bf, .int uf])), (bf, .inl (cI, 32, .inl ff)), (hk, .inr (1, [.ref hh, .ref hB, .ref hI])), (hh, .inr (0, [.ref hm, .ref aw, .ref ad])), (hm, .inr (2, [.ref bm, .int um])), (bm, .inl (cI, 448, .inl fm)), (aw, .inl (cI, 64, .inl fw)), (ad, .inl (cI, 8, .inl fd)), (hB, .inr (2, [.ref bB, .int uB])), (bB, .inl (cI, 64, .inl fB)), (hI, .inr (2, [.ref bI, .int uI])), (bI, .inl (cI, 32, .inl fI))]) (As := [.int 0]) (rest := []) ⟨hx, hb, hml, hown, hts⟩ (sc_X2_fill l D cI (some (tk, tf)) _ qk bk 32 fk uk 0 (by decide)) (cwV 1 hts gX3_seed_X2_fill rfl rfl rfl (by decide +kernel) ⟨Nat.le_of_ble_eq_true rfl, Nat.le_of_ble_eq_true rfl⟩) hP hD hS hA hK hT [3, 4] [0, 1, 2, 5, 6, 7, 8, 9, 10, 11, 12, 13, 14, 15, 16, 17, 18] rfl rfl rfl rfl (by decide) 0 2 rfl rfl rfl rfl hl.1 rfl (Nat.le_of_ble_eq_true rfl) dX3_seed_17 ⟨Nat.zero_le _, Nat.zero_le _⟩ (fun zt H1 locs ht hvm hB hJ hS => ?_)
    obtain ⟨hP1, -, hD1⟩ := hB
    rw [ht] at hP1
    obtain ⟨hP, hD⟩ := hJ _ hP1 hD1
    clear hJ
    generalize H1 = H at hP hS ⊢
    have hP : va_P D vwCl [(qs, .inr (3, [.ref qi, .ref qo, .ref qd, .ref qk, .ref qv, .ref qf, .ref qa, .ref gh, .ref hk, .int (nI kc), .int ivl, .int drw])), (qi, .inr (2, [.ref bi, .int (nI ni)])), (bi, .inl (cI, 300, .inl fi)), (qk, .inr (2, [.ref bk, .int (nI 32)])), (bk, .inl (cI, 32, .inl (fun _ => 0))), (qv, .inr (2, [.ref bv, .int uv])), (bv, .inl (cI, 32, .inl fv)), (qf, .inr (2, [.ref bf, .int uf])), (bf, .inl (cI, 32, .inl ff)), (hk, .inr (1, [.ref hh, .ref hB, .ref hI])), (hh, .inr (0, [.ref hm, .ref aw, .ref ad])), (hm, .inr (2, [.ref bm, .int um])), (bm, .inl (cI, 448, .inl fm)), (aw, .inl (cI, 64, .inl fw)), (ad, .inl (cI, 8, .inl fd)), (hB, .inr (2, [.ref bB, .int uB])), (bB, .inl (cI, 64, .inl fB)), (hI, .inr (2, [.ref bI, .int uI])), (bI, .inl (cI, 32, .inl fI))] H := hP.sub [0, 1, 2, 17, 18, 3, 4, 5, 6, 7, 8, 9, 10, 11, 12, 13, 14, 15, 16] rfl
    have hD : va_D A [(qs, .inr (3, [.ref qi, .ref qo, .ref qd, .ref qk, .ref qv, .ref qf, .ref qa, .ref gh, .ref hk, .int (nI kc), .int ivl, .int drw])), (qi, .inr (2, [.ref bi, .int (nI ni)])), (bi, .inl (cI, 300, .inl fi)), (qk, .inr (2, [.ref bk, .int (nI 32)])), (bk, .inl (cI, 32, .inl (fun _ => 0))), (qv, .inr (2, [.ref bv, .int uv])), (bv, .inl (cI, 32, .inl fv)), (qf, .inr (2, [.ref bf, .int uf])), (bf, .inl (cI, 32, .inl ff)), (hk, .inr (1, [.ref hh, .ref hB, .ref hI])), (hh, .inr (0, [.ref hm, .ref aw, .ref ad])), (hm, .inr (2, [.ref bm, .int um])), (bm, .inl (cI, 448, .inl fm)), (aw, .inl (cI, 64, .inl fw)), (ad, .inl (cI, 8, .inl fd)), (hB, .inr (2, [.ref bB, .int uB])), (bB, .inl (cI, 64, .inl fB)), (hI, .inr (2, [.ref bI, .int uI])), (bI, .inl (cI, 32, .inl fI))] := hD.sub [0, 1, 2, 17, 18, 3, 4, 5, 6, 7, 8, 9, 10, 11, 12, 13, 14, 15, 16] rfl rfl
    refine lv_aload_n hx hb dX3_seed_20 rfl (lv_at hl 0 rfl) ?_
    refine va_get (D := D) (ci := 3) (v := .ref qv) (C := RX3) (T := TX3) (N := 12) hx hb hts hw_X3 hown hK hP 0 rfl rfl 4 (by decide) hf_27 (fun _ h9 => h9) rfl dX3_seed_21 ?_
    refine lv_iconst (v := 1) hx hb dX3_seed_24 (by decide) ?_
    refine sm_callVv (wc := [(qv, .inr (2, [.ref bv, .int uv])), (bv, .inl (cI, 32, .inl fv))]) (wr := [(qs, .inr (3, [.ref qi, .ref qo, .ref qd, .ref qk, .ref qv, .ref qf, .ref qa, .ref gh, .ref hk, .int (nI kc), .int ivl, .int drw])), (qi, .inr (2, [.ref bi, .int (nI ni)])), (bi, .inl (cI, 300, .inl fi)), (qk, .inr (2, [.ref bk, .int (nI 32)])), (bk, .inl (cI, 32, .inl (fun _ => 0))), (qf, .inr (2, [.ref bf, .int uf])), (bf, .inl (cI, 32, .inl ff)), (hk, .inr (1, [.ref hh, .ref hB, .ref hI])), (hh, .inr (0, [.ref hm, .ref aw, .ref ad])), (hm, .inr (2, [.ref bm, .int um])), (bm, .inl (cI, 448, .inl fm)), (aw, .inl (cI, 64, .inl fw)), (ad, .inl (cI, 8, .inl fd)), (hB, .inr (2, [.ref bB, .int uB])), (bB, .inl (cI, 64, .inl fB)), (hI, .inr (2, [.ref bI, .int uI])), (bI, .inl (cI, 32, .inl fI))]) (As := [.int 1]) (rest := []) ⟨hx, hb, hml, hown, hts⟩ (sc_X2_fill l D cI (some (tk, tf)) _ qv bv 32 fv uv 1 (by decide)) (cwV 1 hts gX3_seed_X2_fill rfl rfl rfl (by decide +kernel) ⟨Nat.le_of_ble_eq_true rfl, Nat.le_of_ble_eq_true rfl⟩) hP hD hS hA hK hT [5, 6] [0, 1, 2, 3, 4, 7, 8, 9, 10, 11, 12, 13, 14, 15, 16, 17, 18] rfl rfl rfl rfl (by decide) 0 2 rfl rfl rfl rfl hl.1 rfl (Nat.le_of_ble_eq_true rfl) dX3_seed_25 ⟨Nat.zero_le _, Nat.zero_le _⟩ (fun zt H1 locs ht hvm hB hJ hS => ?_)
    obtain ⟨hP1, -, hD1⟩ := hB
    rw [ht] at hP1
    obtain ⟨hP, hD⟩ := hJ _ hP1 hD1
    clear hJ
    generalize H1 = H at hP hS ⊢
    have hP : va_P D vwCl [(qs, .inr (3, [.ref qi, .ref qo, .ref qd, .ref qk, .ref qv, .ref qf, .ref qa, .ref gh, .ref hk, .int (nI kc), .int ivl, .int drw])), (qi, .inr (2, [.ref bi, .int (nI ni)])), (bi, .inl (cI, 300, .inl fi)), (qk, .inr (2, [.ref bk, .int (nI 32)])), (bk, .inl (cI, 32, .inl (fun _ => 0))), (qv, .inr (2, [.ref bv, .int (nI 32)])), (bv, .inl (cI, 32, .inl (fun _ => 1))), (qf, .inr (2, [.ref bf, .int uf])), (bf, .inl (cI, 32, .inl ff)), (hk, .inr (1, [.ref hh, .ref hB, .ref hI])), (hh, .inr (0, [.ref hm, .ref aw, .ref ad])), (hm, .inr (2, [.ref bm, .int um])), (bm, .inl (cI, 448, .inl fm)), (aw, .inl (cI, 64, .inl fw)), (ad, .inl (cI, 8, .inl fd)), (hB, .inr (2, [.ref bB, .int uB])), (bB, .inl (cI, 64, .inl fB)), (hI, .inr (2, [.ref bI, .int uI])), (bI, .inl (cI, 32, .inl fI))] H := hP.sub [0, 1, 2, 3, 4, 17, 18, 5, 6, 7, 8, 9, 10, 11, 12, 13, 14, 15, 16] rfl
    have hD : va_D A [(qs, .inr (3, [.ref qi, .ref qo, .ref qd, .ref qk, .ref qv, .ref qf, .ref qa, .ref gh, .ref hk, .int (nI kc), .int ivl, .int drw])), (qi, .inr (2, [.ref bi, .int (nI ni)])), (bi, .inl (cI, 300, .inl fi)), (qk, .inr (2, [.ref bk, .int (nI 32)])), (bk, .inl (cI, 32, .inl (fun _ => 0))), (qv, .inr (2, [.ref bv, .int (nI 32)])), (bv, .inl (cI, 32, .inl (fun _ => 1))), (qf, .inr (2, [.ref bf, .int uf])), (bf, .inl (cI, 32, .inl ff)), (hk, .inr (1, [.ref hh, .ref hB, .ref hI])), (hh, .inr (0, [.ref hm, .ref aw, .ref ad])), (hm, .inr (2, [.ref bm, .int um])), (bm, .inl (cI, 448, .inl fm)), (aw, .inl (cI, 64, .inl fw)), (ad, .inl (cI, 8, .inl fd)), (hB, .inr (2, [.ref bB, .int uB])), (bB, .inl (cI, 64, .inl fB)), (hI, .inr (2, [.ref bI, .int uI])), (bI, .inl (cI, 32, .inl fI))] := hD.sub [0, 1, 2, 3, 4, 17, 18, 5, 6, 7, 8, 9, 10, 11, 12, 13, 14, 15, 16] rfl rfl
    refine lv_aload_n hx hb dX3_seed_28 rfl (lv_at hl 0 rfl) ?_
    refine sm_callVv (wc := [(qs, .inr (3, [.ref qi, .ref qo, .ref qd, .ref qk, .ref qv, .ref qf, .ref qa, .ref gh, .ref hk, .int (nI kc), .int ivl, .int drw])), (qi, .inr (2, [.ref bi, .int (nI ni)])), (bi, .inl (cI, 300, .inl fi)), (qk, .inr (2, [.ref bk, .int (nI 32)])), (bk, .inl (cI, 32, .inl (fun _ => 0))), (qv, .inr (2, [.ref bv, .int (nI 32)])), (bv, .inl (cI, 32, .inl (fun _ => 1))), (qf, .inr (2, [.ref bf, .int uf])), (bf, .inl (cI, 32, .inl ff)), (hk, .inr (1, [.ref hh, .ref hB, .ref hI])), (hh, .inr (0, [.ref hm, .ref aw, .ref ad])), (hm, .inr (2, [.ref bm, .int um])), (bm, .inl (cI, 448, .inl fm)), (aw, .inl (cI, 64, .inl fw)), (ad, .inl (cI, 8, .inl fd)), (hB, .inr (2, [.ref bB, .int uB])), (bB, .inl (cI, 64, .inl fB)), (hI, .inr (2, [.ref bI, .int uI])), (bI, .inl (cI, 32, .inl fI))]) (wr := []) (As := []) (rest := []) ⟨hx, hb, hml, hown, hts⟩ (sc_X3_stir l D cI tk tf _ qs qi bi qo bo qd bd qk bk qv bv qf bf qa ba gh gm gb gw gd hk hh hm bm aw ad hB bB hI bI (nI kc) ivl drw ni fi (fun _ => 0) (fun _ => 1) ff uf fm um fw fd fB uB fI uI hni) (cwV 0 hts gX3_seed_X3_stir rfl rfl rfl (by decide +kernel) ⟨Nat.le_of_ble_eq_true rfl, Nat.le_of_ble_eq_true rfl⟩) hP hD hS hA hK hT [0, 1, 2, 3, 4, 5, 6, 7, 8, 9, 10, 11, 12, 13, 14, 15, 16, 17, 18] [] rfl rfl rfl rfl (by decide) 0 3 rfl rfl rfl rfl hl.1 rfl (Nat.le_of_ble_eq_true rfl) dX3_seed_29 ⟨Nat.zero_le _, Nat.zero_le _⟩ (fun zt H1 locs ht hvm hB hJ hS => ?_)
    obtain ⟨ff2, fm2, um2, fw2, fd2, fB2, uB2, fI2, uI2, hst2, hP1, -, hD1⟩ := hB
    rw [ht] at hP1
    obtain ⟨hP, hD⟩ := hJ _ hP1 hD1
    clear hJ
    generalize H1 = H at hP hS ⊢
    have hP : va_P D vwCl [(qs, .inr (3, [.ref qi, .ref qo, .ref qd, .ref qk, .ref qv, .ref qf, .ref qa, .ref gh, .ref hk, .int (nI kc), .int ivl, .int drw])), (qi, .inr (2, [.ref bi, .int (nI ni)])), (bi, .inl (cI, 300, .inl fi)), (qk, .inr (2, [.ref bk, .int (nI 32)])), (bk, .inl (cI, 32, .inl ((sm_stir (fun _ => 0, fun _ => 1) fi ni).1))), (qv, .inr (2, [.ref bv, .int (nI 32)])), (bv, .inl (cI, 32, .inl ((sm_stir (fun _ => 0, fun _ => 1) fi ni).2))), (qf, .inr (2, [.ref bf, .int (nI 32)])), (bf, .inl (cI, 32, .inl ff2)), (hk, .inr (1, [.ref hh, .ref hB, .ref hI])), (hh, .inr (0, [.ref hm, .ref aw, .ref ad])), (hm, .inr (2, [.ref bm, .int um2])), (bm, .inl (cI, 448, .inl fm2)), (aw, .inl (cI, 64, .inl fw2)), (ad, .inl (cI, 8, .inl fd2)), (hB, .inr (2, [.ref bB, .int uB2])), (bB, .inl (cI, 64, .inl fB2)), (hI, .inr (2, [.ref bI, .int uI2])), (bI, .inl (cI, 32, .inl fI2))] H := hP.sub [0, 1, 2, 3, 4, 5, 6, 7, 8, 9, 10, 11, 12, 13, 14, 15, 16, 17, 18] rfl
    have hD : va_D A [(qs, .inr (3, [.ref qi, .ref qo, .ref qd, .ref qk, .ref qv, .ref qf, .ref qa, .ref gh, .ref hk, .int (nI kc), .int ivl, .int drw])), (qi, .inr (2, [.ref bi, .int (nI ni)])), (bi, .inl (cI, 300, .inl fi)), (qk, .inr (2, [.ref bk, .int (nI 32)])), (bk, .inl (cI, 32, .inl ((sm_stir (fun _ => 0, fun _ => 1) fi ni).1))), (qv, .inr (2, [.ref bv, .int (nI 32)])), (bv, .inl (cI, 32, .inl ((sm_stir (fun _ => 0, fun _ => 1) fi ni).2))), (qf, .inr (2, [.ref bf, .int (nI 32)])), (bf, .inl (cI, 32, .inl ff2)), (hk, .inr (1, [.ref hh, .ref hB, .ref hI])), (hh, .inr (0, [.ref hm, .ref aw, .ref ad])), (hm, .inr (2, [.ref bm, .int um2])), (bm, .inl (cI, 448, .inl fm2)), (aw, .inl (cI, 64, .inl fw2)), (ad, .inl (cI, 8, .inl fd2)), (hB, .inr (2, [.ref bB, .int uB2])), (bB, .inl (cI, 64, .inl fB2)), (hI, .inr (2, [.ref bI, .int uI2])), (bI, .inl (cI, 32, .inl fI2))] := hD.sub [0, 1, 2, 3, 4, 5, 6, 7, 8, 9, 10, 11, 12, 13, 14, 15, 16, 17, 18] rfl rfl
    refine lv_aload_n hx hb dX3_seed_32 rfl (lv_at hl 0 rfl) ?_
    refine va_get (D := D) (ci := 3) (v := .ref qi) (C := RX3) (T := TX3) (N := 12) hx hb hts hw_X3 hown hK hP 0 rfl rfl 0 (by decide) hf_14 (fun _ h9 => h9) rfl dX3_seed_33 ?_
    refine sm_callVv (wc := [(qi, .inr (2, [.ref bi, .int (nI ni)])), (bi, .inl (cI, 300, .inl fi))]) (wr := [(qs, .inr (3, [.ref qi, .ref qo, .ref qd, .ref qk, .ref qv, .ref qf, .ref qa, .ref gh, .ref hk, .int (nI kc), .int ivl, .int drw])), (qk, .inr (2, [.ref bk, .int (nI 32)])), (bk, .inl (cI, 32, .inl ((sm_stir (fun _ => 0, fun _ => 1) fi ni).1))), (qv, .inr (2, [.ref bv, .int (nI 32)])), (bv, .inl (cI, 32, .inl ((sm_stir (fun _ => 0, fun _ => 1) fi ni).2))), (qf, .inr (2, [.ref bf, .int (nI 32)])), (bf, .inl (cI, 32, .inl ff2)), (hk, .inr (1, [.ref hh, .ref hB, .ref hI])), (hh, .inr (0, [.ref hm, .ref aw, .ref ad])), (hm, .inr (2, [.ref bm, .int um2])), (bm, .inl (cI, 448, .inl fm2)), (aw, .inl (cI, 64, .inl fw2)), (ad, .inl (cI, 8, .inl fd2)), (hB, .inr (2, [.ref bB, .int uB2])), (bB, .inl (cI, 64, .inl fB2)), (hI, .inr (2, [.ref bI, .int uI2])), (bI, .inl (cI, 32, .inl fI2))]) (As := []) (rest := []) ⟨hx, hb, hml, hown, hts⟩ (sc_X2_empty l D cI (some (tk, tf)) _ qi bi 300 fi (nI ni) ) (cwV 0 hts gX3_seed_X2_empty rfl rfl rfl (by decide +kernel) ⟨Nat.le_of_ble_eq_true rfl, Nat.le_of_ble_eq_true rfl⟩) hP hD hS hA hK hT [1, 2] [0, 3, 4, 5, 6, 7, 8, 9, 10, 11, 12, 13, 14, 15, 16, 17, 18] rfl rfl rfl rfl (by decide) 0 2 rfl rfl rfl rfl hl.1 rfl (Nat.le_of_ble_eq_true rfl) dX3_seed_36 ⟨Nat.zero_le _, Nat.zero_le _⟩ (fun zt H1 locs ht hvm hB hJ hS => ?_)
    obtain ⟨hP1, -, hD1⟩ := hB
    rw [ht] at hP1
    obtain ⟨hP, hD⟩ := hJ _ hP1 hD1
    clear hJ
    generalize H1 = H at hP hS ⊢
    have hP : va_P D vwCl [(qs, .inr (3, [.ref qi, .ref qo, .ref qd, .ref qk, .ref qv, .ref qf, .ref qa, .ref gh, .ref hk, .int (nI kc), .int ivl, .int drw])), (qi, .inr (2, [.ref bi, .int (nI 0)])), (bi, .inl (cI, 300, .inl fi)), (qk, .inr (2, [.ref bk, .int (nI 32)])), (bk, .inl (cI, 32, .inl ((sm_stir (fun _ => 0, fun _ => 1) fi ni).1))), (qv, .inr (2, [.ref bv, .int (nI 32)])), (bv, .inl (cI, 32, .inl ((sm_stir (fun _ => 0, fun _ => 1) fi ni).2))), (qf, .inr (2, [.ref bf, .int (nI 32)])), (bf, .inl (cI, 32, .inl ff2)), (hk, .inr (1, [.ref hh, .ref hB, .ref hI])), (hh, .inr (0, [.ref hm, .ref aw, .ref ad])), (hm, .inr (2, [.ref bm, .int um2])), (bm, .inl (cI, 448, .inl fm2)), (aw, .inl (cI, 64, .inl fw2)), (ad, .inl (cI, 8, .inl fd2)), (hB, .inr (2, [.ref bB, .int uB2])), (bB, .inl (cI, 64, .inl fB2)), (hI, .inr (2, [.ref bI, .int uI2])), (bI, .inl (cI, 32, .inl fI2))] H := hP.sub [0, 17, 18, 1, 2, 3, 4, 5, 6, 7, 8, 9, 10, 11, 12, 13, 14, 15, 16] rfl
    have hD : va_D A [(qs, .inr (3, [.ref qi, .ref qo, .ref qd, .ref qk, .ref qv, .ref qf, .ref qa, .ref gh, .ref hk, .int (nI kc), .int ivl, .int drw])), (qi, .inr (2, [.ref bi, .int (nI 0)])), (bi, .inl (cI, 300, .inl fi)), (qk, .inr (2, [.ref bk, .int (nI 32)])), (bk, .inl (cI, 32, .inl ((sm_stir (fun _ => 0, fun _ => 1) fi ni).1))), (qv, .inr (2, [.ref bv, .int (nI 32)])), (bv, .inl (cI, 32, .inl ((sm_stir (fun _ => 0, fun _ => 1) fi ni).2))), (qf, .inr (2, [.ref bf, .int (nI 32)])), (bf, .inl (cI, 32, .inl ff2)), (hk, .inr (1, [.ref hh, .ref hB, .ref hI])), (hh, .inr (0, [.ref hm, .ref aw, .ref ad])), (hm, .inr (2, [.ref bm, .int um2])), (bm, .inl (cI, 448, .inl fm2)), (aw, .inl (cI, 64, .inl fw2)), (ad, .inl (cI, 8, .inl fd2)), (hB, .inr (2, [.ref bB, .int uB2])), (bB, .inl (cI, 64, .inl fB2)), (hI, .inr (2, [.ref bI, .int uI2])), (bI, .inl (cI, 32, .inl fI2))] := hD.sub [0, 17, 18, 1, 2, 3, 4, 5, 6, 7, 8, 9, 10, 11, 12, 13, 14, 15, 16] rfl rfl
    refine lv_aload_n hx hb dX3_seed_39 rfl (lv_at hl 0 rfl) ?_
    refine lv_iconst (v := 1) hx hb dX3_seed_40 (by decide) ?_
    refine va_put (D := D) (ci := 3) (v := .int 1) (ty := .int) (C := RX3) (T := TX3) (N := 12) hx hb hts hw_X3 tyX3 tyX3_ok nmX3 hown hK hP hD hS 0 rfl rfl 9 (by decide) hf_50 (fun _ h9 => h9) rfl (by decide +kernel) rfl rfl (Nat.le_of_ble_eq_true rfl) dX3_seed_41 (fun H locs hP hD hS => ?_)
    have hP : va_P D vwCl [(qs, .inr (3, [.ref qi, .ref qo, .ref qd, .ref qk, .ref qv, .ref qf, .ref qa, .ref gh, .ref hk, .int 1, .int ivl, .int drw])), (qi, .inr (2, [.ref bi, .int (nI 0)])), (bi, .inl (cI, 300, .inl fi)), (qk, .inr (2, [.ref bk, .int (nI 32)])), (bk, .inl (cI, 32, .inl ((sm_stir (fun _ => 0, fun _ => 1) fi ni).1))), (qv, .inr (2, [.ref bv, .int (nI 32)])), (bv, .inl (cI, 32, .inl ((sm_stir (fun _ => 0, fun _ => 1) fi ni).2))), (qf, .inr (2, [.ref bf, .int (nI 32)])), (bf, .inl (cI, 32, .inl ff2)), (hk, .inr (1, [.ref hh, .ref hB, .ref hI])), (hh, .inr (0, [.ref hm, .ref aw, .ref ad])), (hm, .inr (2, [.ref bm, .int um2])), (bm, .inl (cI, 448, .inl fm2)), (aw, .inl (cI, 64, .inl fw2)), (ad, .inl (cI, 8, .inl fd2)), (hB, .inr (2, [.ref bB, .int uB2])), (bB, .inl (cI, 64, .inl fB2)), (hI, .inr (2, [.ref bI, .int uI2])), (bI, .inl (cI, 32, .inl fI2))] H := hP
    have hD : va_D A [(qs, .inr (3, [.ref qi, .ref qo, .ref qd, .ref qk, .ref qv, .ref qf, .ref qa, .ref gh, .ref hk, .int 1, .int ivl, .int drw])), (qi, .inr (2, [.ref bi, .int (nI 0)])), (bi, .inl (cI, 300, .inl fi)), (qk, .inr (2, [.ref bk, .int (nI 32)])), (bk, .inl (cI, 32, .inl ((sm_stir (fun _ => 0, fun _ => 1) fi ni).1))), (qv, .inr (2, [.ref bv, .int (nI 32)])), (bv, .inl (cI, 32, .inl ((sm_stir (fun _ => 0, fun _ => 1) fi ni).2))), (qf, .inr (2, [.ref bf, .int (nI 32)])), (bf, .inl (cI, 32, .inl ff2)), (hk, .inr (1, [.ref hh, .ref hB, .ref hI])), (hh, .inr (0, [.ref hm, .ref aw, .ref ad])), (hm, .inr (2, [.ref bm, .int um2])), (bm, .inl (cI, 448, .inl fm2)), (aw, .inl (cI, 64, .inl fw2)), (ad, .inl (cI, 8, .inl fd2)), (hB, .inr (2, [.ref bB, .int uB2])), (bB, .inl (cI, 64, .inl fB2)), (hI, .inr (2, [.ref bI, .int uI2])), (bI, .inl (cI, 32, .inl fI2))] := hD
    refine lv_iconst (v := 1) hx hb dX3_seed_44 (by decide) ?_
    rw [hQ]
    have hP9 : va_P D vwCl [(qs, .inr (3, [.ref qi, .ref qo, .ref qd, .ref qk, .ref qv, .ref qf, .ref qa, .ref gh, .ref hk, .int (nI 1), .int ivl, .int drw])), (qi, .inr (2, [.ref bi, .int (nI 0)])), (bi, .inl (cI, 300, .inl fi)), (qk, .inr (2, [.ref bk, .int (nI 32)])), (bk, .inl (cI, 32, .inl ((sm_stir (fun _ => 0, fun _ => 1) fi ni).1))), (qv, .inr (2, [.ref bv, .int (nI 32)])), (bv, .inl (cI, 32, .inl ((sm_stir (fun _ => 0, fun _ => 1) fi ni).2))), (qf, .inr (2, [.ref bf, .int (nI 32)])), (bf, .inl (cI, 32, .inl ff2)), (hk, .inr (1, [.ref hh, .ref hB, .ref hI])), (hh, .inr (0, [.ref hm, .ref aw, .ref ad])), (hm, .inr (2, [.ref bm, .int um2])), (bm, .inl (cI, 448, .inl fm2)), (aw, .inl (cI, 64, .inl fw2)), (ad, .inl (cI, 8, .inl fd2)), (hB, .inr (2, [.ref bB, .int uB2])), (bB, .inl (cI, 64, .inl fB2)), (hI, .inr (2, [.ref bI, .int uI2])), (bI, .inl (cI, 32, .inl fI2))] H := hP
    have hD9 : va_D A [(qs, .inr (3, [.ref qi, .ref qo, .ref qd, .ref qk, .ref qv, .ref qf, .ref qa, .ref gh, .ref hk, .int (nI 1), .int ivl, .int drw])), (qi, .inr (2, [.ref bi, .int (nI 0)])), (bi, .inl (cI, 300, .inl fi)), (qk, .inr (2, [.ref bk, .int (nI 32)])), (bk, .inl (cI, 32, .inl ((sm_stir (fun _ => 0, fun _ => 1) fi ni).1))), (qv, .inr (2, [.ref bv, .int (nI 32)])), (bv, .inl (cI, 32, .inl ((sm_stir (fun _ => 0, fun _ => 1) fi ni).2))), (qf, .inr (2, [.ref bf, .int (nI 32)])), (bf, .inl (cI, 32, .inl ff2)), (hk, .inr (1, [.ref hh, .ref hB, .ref hI])), (hh, .inr (0, [.ref hm, .ref aw, .ref ad])), (hm, .inr (2, [.ref bm, .int um2])), (bm, .inl (cI, 448, .inl fm2)), (aw, .inl (cI, 64, .inl fw2)), (ad, .inl (cI, 8, .inl fd2)), (hB, .inr (2, [.ref bB, .int uB2])), (bB, .inl (cI, 64, .inl fB2)), (hI, .inr (2, [.ref bI, .int uI2])), (bI, .inl (cI, 32, .inl fI2))] := hD
    exact W.iret (v := 1) hx hb hr (fun t ht hW => ⟨⟨1, (), rfl, rfl, ⟨_, _, _, _, _, _, _, _, _, hst2, by rw [ht]; exact hP9, va_K.moved hW.alike hK, hD9⟩⟩, hS.F ht⟩) hS.2.2 dX3_seed_45
  ·
    exact absurd c_7 (nI_ne0 hn0 (by omega))

def rm_X3_reseed_no : Room := ({ frames := 7, cells := 0, slots := 0, locals := 161 } : Room)
set_option maxHeartbeats 4000000 in
set_option maxRecDepth 100000 in
/-- reseed: nothing is done -/
theorem sc_X3_reseed_no (l : Launch) (D : va_G) (cI : ClassId) (th : Option (Nat × Nat)) (sz : Nat) (qs qi bi qo bo qd bd qk bk qv bv qf bf qa ba gh gm gb gw gd hk hh hm bm aw ad hB bB hI bI : Nat) (ivl drw : Int32) (kc : Nat) (ni : Nat) (fi : Nat → Int32) (hni : ni ≤ 300) (hno : ni = 0 ∨ kc = 0) : Met l yX3_reseed wsX3_reseed rm_X3_reseed_no (va_Pc [.ref qs] (sm_PW D cI th [(qs, .inr (3, [.ref qi, .ref qo, .ref qd, .ref qk, .ref qv, .ref qf, .ref qa, .ref gh, .ref hk, .int (nI kc), .int ivl, .int drw])), (qi, .inr (2, [.ref bi, .int (nI ni)])), (bi, .inl (cI, 300, .inl fi))] sz)) (va_Qi (fun (r : Int32) (_ : Unit) => r = 0) (fun _ t => sm_QW D cI (va_A [(qs, .inr (3, [.ref qi, .ref qo, .ref qd, .ref qk, .ref qv, .ref qf, .ref qa, .ref gh, .ref hk, .int (nI kc), .int ivl, .int drw])), (qi, .inr (2, [.ref bi, .int (nI ni)])), (bi, .inl (cI, 300, .inl fi))] sz) [(qs, .inr (3, [.ref qi, .ref qo, .ref qd, .ref qk, .ref qv, .ref qf, .ref qa, .ref gh, .ref hk, .int (nI kc), .int ivl, .int drw])), (qi, .inr (2, [.ref bi, .int (nI ni)])), (bi, .inl (cI, 300, .inl fi))] t) (va_A [(qs, .inr (3, [.ref qi, .ref qo, .ref qd, .ref qk, .ref qv, .ref qf, .ref qa, .ref gh, .ref hk, .int (nI kc), .int ivl, .int drw])), (qi, .inr (2, [.ref bi, .int (nI ni)])), (bi, .inl (cI, 300, .inl fi))] sz)) 0 0 (va_A [(qs, .inr (3, [.ref qi, .ref qo, .ref qd, .ref qk, .ref qv, .ref qf, .ref qa, .ref gh, .ref hk, .int (nI kc), .int ivl, .int drw])), (qi, .inr (2, [.ref bi, .int (nI ni)])), (bi, .inl (cI, 300, .inl fi))] sz) := by
  refine Met.ofW (cc := cX3_reseed) (maxL := 1) (ret := (some .int)) (by decide) rfl ?_
  intro p e s m args below meth c s₁ B hml hv
  obtain ⟨rfl, hsz, hP, hK, hD0, hT⟩ := hv
  have hx := B.exec
  have hb := B.bytes
  have hr := B.returns
  have hts := atoms_spec (ws := wsX3_reseed) B.pre
  have hown : s.vm.findClass RX3 = some m.cls := findClass_of_methodNamed B.named
  have hlocks := B.notSynchronized
  subst hsz
  have hD := hD0.self (sz := s.heap.size)
  generalize hAe : va_A [(qs, .inr (3, [.ref qi, .ref qo, .ref qd, .ref qk, .ref qv, .ref qf, .ref qa, .ref gh, .ref hk, .int (nI kc), .int ivl, .int drw])), (qi, .inr (2, [.ref bi, .int (nI ni)])), (bi, .inl (cI, 300, .inl fi))] s.heap.size = A at hD hT ⊢
  have hA : ∀ q : Nat, s.heap.size ≤ q → A q := fun q h => by rw [← hAe]; exact Or.inr h
  have hS : va_S A s.heap s.heap [] := va_S.rf
  have hl := lv_entry ([.ref qs]) (n := 1) (Nat.le_of_ble_eq_true rfl)
  rw [lg_entry_eq]
  generalize (lg_sl ([.ref qs]) ++ List.replicate (1 - (lg_sl ([.ref qs])).length) Slot.unset).toArray = ls at hl ⊢
  have hl : lv_has ls 1 [(0, .ref qs)] := hl
  refine sm_name (fun Q hQ => ?_)
  have hf_14 := hts (.fieldLink RX3 14 "SeedMill" "input" "LSeedMill$Row;") (by decide +kernel)
  have hw_X3 : ∀ w ∈ wsX30, w ∈ wsX3_reseed := by decide +kernel
  have hf_50 := hts (.fieldLink RX3 50 "SeedMill" "drawCounter" "I") (by decide +kernel)
  refine lv_aload_n hx hb dX3_reseed_0 rfl (lv_at hl 0 rfl) ?_
  refine va_get (D := D) (ci := 3) (v := .ref qi) (C := RX3) (T := TX3) (N := 12) hx hb hts hw_X3 hown hK hP 0 rfl rfl 0 (by decide) hf_14 (fun _ h9 => h9) rfl dX3_reseed_1 ?_
  refine sm_callVi (wc := [(qi, .inr (2, [.ref bi, .int (nI ni)])), (bi, .inl (cI, 300, .inl fi))]) (wr := [(qs, .inr (3, [.ref qi, .ref qo, .ref qd, .ref qk, .ref qv, .ref qf, .ref qa, .ref gh, .ref hk, .int (nI kc), .int ivl, .int drw]))]) (As := []) (rest := []) ⟨hx, hb, hml, hown, hts⟩ (sc_X2_size l D cI th _ qi bi 300 fi (nI ni) ) (cwV 0 hts gX3_reseed_X2_size rfl rfl rfl (by decide +kernel) ⟨Nat.le_of_ble_eq_true rfl, Nat.le_of_ble_eq_true rfl⟩) hP hD hS hA hK hT [1, 2] [0] rfl rfl rfl rfl (by decide) 0 2 rfl rfl rfl rfl hl.1 rfl (Nat.le_of_ble_eq_true rfl) dX3_reseed_4 ⟨Nat.zero_le _, Nat.zero_le _⟩ (fun r_4 zt H1 locs ht hvm hw hB hJ hS => ?_)
  obtain ⟨hP1, -, hD1⟩ := hB
  rw [ht] at hP1
  obtain ⟨hP, hD⟩ := hJ _ hP1 hD1
  clear hJ
  generalize H1 = H at hP hS ⊢
  have hP : va_P D vwCl [(qs, .inr (3, [.ref qi, .ref qo, .ref qd, .ref qk, .ref qv, .ref qf, .ref qa, .ref gh, .ref hk, .int (nI kc), .int ivl, .int drw])), (qi, .inr (2, [.ref bi, .int (nI ni)])), (bi, .inl (cI, 300, .inl fi))] H := hP.sub [0, 1, 2] rfl
  have hD : va_D A [(qs, .inr (3, [.ref qi, .ref qo, .ref qd, .ref qk, .ref qv, .ref qf, .ref qa, .ref gh, .ref hk, .int (nI kc), .int ivl, .int drw])), (qi, .inr (2, [.ref bi, .int (nI ni)])), (bi, .inl (cI, 300, .inl fi))] := hD.sub [0, 1, 2] rfl rfl
  rw [hw]
  refine lv_if_eq (tgt := 17) hx hb dX3_reseed_7 (by decide) (fun c_7 => ?_) (fun c_7 => ?_)
  ·
    refine lv_iconst (v := 0) hx hb dX3_reseed_17 (by decide) ?_
    rw [hQ]
    have hP9 : va_P D vwCl [(qs, .inr (3, [.ref qi, .ref qo, .ref qd, .ref qk, .ref qv, .ref qf, .ref qa, .ref gh, .ref hk, .int (nI kc), .int ivl, .int drw])), (qi, .inr (2, [.ref bi, .int (nI ni)])), (bi, .inl (cI, 300, .inl fi))] H := hP
    have hD9 : va_D A [(qs, .inr (3, [.ref qi, .ref qo, .ref qd, .ref qk, .ref qv, .ref qf, .ref qa, .ref gh, .ref hk, .int (nI kc), .int ivl, .int drw])), (qi, .inr (2, [.ref bi, .int (nI ni)])), (bi, .inl (cI, 300, .inl fi))] := hD
    exact W.iret (v := 0) hx hb hr (fun t ht hW => ⟨⟨0, (), rfl, rfl, ⟨by rw [ht]; exact hP9, va_K.moved hW.alike hK, hD9⟩⟩, hS.F ht⟩) hS.2.2 dX3_reseed_18
  ·
    have hkc : kc = 0 := by
      rcases hno with q | q
      · exact absurd (by rw [q]; rfl) c_7
      · exact q
    refine lv_aload_n hx hb dX3_reseed_10 rfl (lv_at hl 0 rfl) ?_
    refine sm_callVi (wc := [(qs, .inr (3, [.ref qi, .ref qo, .ref qd, .ref qk, .ref qv, .ref qf, .ref qa, .ref gh, .ref hk, .int (nI kc), .int ivl, .int drw]))]) (wr := [(qi, .inr (2, [.ref bi, .int (nI ni)])), (bi, .inl (cI, 300, .inl fi))]) (As := []) (rest := []) ⟨hx, hb, hml, hown, hts⟩ (sc_X3_isSeeded l D cI th _ qs qi bi qo bo qd bd qk bk qv bv qf bf qa ba gh gm gb gw gd hk hh hm bm aw ad hB bB hI bI (nI kc) ivl drw ) (cwV 0 hts gX3_reseed_X3_isSeeded rfl rfl rfl (by decide +kernel) ⟨Nat.le_of_ble_eq_true rfl, Nat.le_of_ble_eq_true rfl⟩) hP hD hS hA hK hT [0] [1, 2] rfl rfl rfl rfl (by decide) 0 3 rfl rfl rfl rfl hl.1 rfl (Nat.le_of_ble_eq_true rfl) dX3_reseed_11 ⟨Nat.zero_le _, Nat.zero_le _⟩ (fun r_11 zt H1 locs ht hvm hw hB hJ hS => ?_)
    obtain ⟨hP1, -, hD1⟩ := hB
    rw [ht] at hP1
    obtain ⟨hP, hD⟩ := hJ _ hP1 hD1
    clear hJ
    generalize H1 = H at hP hS ⊢
    have hP : va_P D vwCl [(qs, .inr (3, [.ref qi, .ref qo, .ref qd, .ref qk, .ref qv, .ref qf, .ref qa, .ref gh, .ref hk, .int (nI kc), .int ivl, .int drw])), (qi, .inr (2, [.ref bi, .int (nI ni)])), (bi, .inl (cI, 300, .inl fi))] H := hP.sub [2, 0, 1] rfl
    have hD : va_D A [(qs, .inr (3, [.ref qi, .ref qo, .ref qd, .ref qk, .ref qv, .ref qf, .ref qa, .ref gh, .ref hk, .int (nI kc), .int ivl, .int drw])), (qi, .inr (2, [.ref bi, .int (nI ni)])), (bi, .inl (cI, 300, .inl fi))] := hD.sub [2, 0, 1] rfl rfl
    rw [hw]
    refine sm_top (z := 0) (if_neg (by rw [hkc]; decide)) ?_
    refine lv_if_ne (tgt := 19) hx hb dX3_reseed_14 (by decide) (fun c_14 => ?_) (fun c_14 => ?_)
    ·
      exact absurd rfl c_14
    ·
      refine lv_iconst (v := 0) hx hb dX3_reseed_17 (by decide) ?_
      rw [hQ]
      have hP9 : va_P D vwCl [(qs, .inr (3, [.ref qi, .ref qo, .ref qd, .ref qk, .ref qv, .ref qf, .ref qa, .ref gh, .ref hk, .int (nI kc), .int ivl, .int drw])), (qi, .inr (2, [.ref bi, .int (nI ni)])), (bi, .inl (cI, 300, .inl fi))] H := hP
      have hD9 : va_D A [(qs, .inr (3, [.ref qi, .ref qo, .ref qd, .ref qk, .ref qv, .ref qf, .ref qa, .ref gh, .ref hk, .int (nI kc), .int ivl, .int drw])), (qi, .inr (2, [.ref bi, .int (nI ni)])), (bi, .inl (cI, 300, .inl fi))] := hD
      exact W.iret (v := 0) hx hb hr (fun t ht hW => ⟨⟨0, (), rfl, rfl, ⟨by rw [ht]; exact hP9, va_K.moved hW.alike hK, hD9⟩⟩, hS.F ht⟩) hS.2.2 dX3_reseed_18

def rm_X3_reseed_ok : Room := ({ frames := 7, cells := 0, slots := 0, locals := 161 } : Room)
set_option maxHeartbeats 4000000 in
set_option maxRecDepth 100000 in
/-- reseed -/
theorem sc_X3_reseed_ok (l : Launch) (D : va_G) (cI : ClassId) (tk tf : Nat) (sz : Nat) (qs qi bi qo bo qd bd qk bk qv bv qf bf qa ba gh gm gb gw gd hk hh hm bm aw ad hB bB hI bI : Nat) (ivl drw : Int32) (kc : Nat) (ni : Nat) (fi fk fv ff : Nat → Int32) (uf : Int32) (fm : Nat → Int32) (um : Int32) (fw fd fB : Nat → Int32) (uB : Int32) (fI : Nat → Int32) (uI : Int32) (hn0 : 0 < ni) (hni : ni ≤ 300) (hkc : 0 < kc) (hkc2 : kc < 2 ^ 31) : Met l yX3_reseed wsX3_reseed rm_X3_reseed_ok (va_Pc [.ref qs] (sm_PW D cI (some (tk, tf)) [(qs, .inr (3, [.ref qi, .ref qo, .ref qd, .ref qk, .ref qv, .ref qf, .ref qa, .ref gh, .ref hk, .int (nI kc), .int ivl, .int drw])), (qi, .inr (2, [.ref bi, .int (nI ni)])), (bi, .inl (cI, 300, .inl fi)), (qk, .inr (2, [.ref bk, .int (nI 32)])), (bk, .inl (cI, 32, .inl fk)), (qv, .inr (2, [.ref bv, .int (nI 32)])), (bv, .inl (cI, 32, .inl fv)), (qf, .inr (2, [.ref bf, .int uf])), (bf, .inl (cI, 32, .inl ff)), (hk, .inr (1, [.ref hh, .ref hB, .ref hI])), (hh, .inr (0, [.ref hm, .ref aw, .ref ad])), (hm, .inr (2, [.ref bm, .int um])), (bm, .inl (cI, 448, .inl fm)), (aw, .inl (cI, 64, .inl fw)), (ad, .inl (cI, 8, .inl fd)), (hB, .inr (2, [.ref bB, .int uB])), (bB, .inl (cI, 64, .inl fB)), (hI, .inr (2, [.ref bI, .int uI])), (bI, .inl (cI, 32, .inl fI))] sz)) (va_Qi (fun (r : Int32) (_ : Unit) => r = 1) (fun _ t => ∃ (ff2 : Nat → Int32) (fm2 : Nat → Int32) (um2 : Int32) (fw2 : Nat → Int32) (fd2 : Nat → Int32) (fB2 : Nat → Int32) (uB2 : Int32) (fI2 : Nat → Int32) (uI2 : Int32), (sm_stir (fk, fv) fi ni).2 = sm_nv (sm_stir (fk, fv) fi ni).1 ff2 ∧ sm_QW D cI (va_A [(qs, .inr (3, [.ref qi, .ref qo, .ref qd, .ref qk, .ref qv, .ref qf, .ref qa, .ref gh, .ref hk, .int (nI kc), .int ivl, .int drw])), (qi, .inr (2, [.ref bi, .int (nI ni)])), (bi, .inl (cI, 300, .inl fi)), (qk, .inr (2, [.ref bk, .int (nI 32)])), (bk, .inl (cI, 32, .inl fk)), (qv, .inr (2, [.ref bv, .int (nI 32)])), (bv, .inl (cI, 32, .inl fv)), (qf, .inr (2, [.ref bf, .int uf])), (bf, .inl (cI, 32, .inl ff)), (hk, .inr (1, [.ref hh, .ref hB, .ref hI])), (hh, .inr (0, [.ref hm, .ref aw, .ref ad])), (hm, .inr (2, [.ref bm, .int um])), (bm, .inl (cI, 448, .inl fm)), (aw, .inl (cI, 64, .inl fw)), (ad, .inl (cI, 8, .inl fd)), (hB, .inr (2, [.ref bB, .int uB])), (bB, .inl (cI, 64, .inl fB)), (hI, .inr (2, [.ref bI, .int uI])), (bI, .inl (cI, 32, .inl fI))] sz) [(qs, .inr (3, [.ref qi, .ref qo, .ref qd, .ref qk, .ref qv, .ref qf, .ref qa, .ref gh, .ref hk, .int (nI 1), .int ivl, .int drw])), (qi, .inr (2, [.ref bi, .int (nI 0)])), (bi, .inl (cI, 300, .inl fi)), (qk, .inr (2, [.ref bk, .int (nI 32)])), (bk, .inl (cI, 32, .inl ((sm_stir (fk, fv) fi ni).1))), (qv, .inr (2, [.ref bv, .int (nI 32)])), (bv, .inl (cI, 32, .inl ((sm_stir (fk, fv) fi ni).2))), (qf, .inr (2, [.ref bf, .int (nI 32)])), (bf, .inl (cI, 32, .inl ff2)), (hk, .inr (1, [.ref hh, .ref hB, .ref hI])), (hh, .inr (0, [.ref hm, .ref aw, .ref ad])), (hm, .inr (2, [.ref bm, .int um2])), (bm, .inl (cI, 448, .inl fm2)), (aw, .inl (cI, 64, .inl fw2)), (ad, .inl (cI, 8, .inl fd2)), (hB, .inr (2, [.ref bB, .int uB2])), (bB, .inl (cI, 64, .inl fB2)), (hI, .inr (2, [.ref bI, .int uI2])), (bI, .inl (cI, 32, .inl fI2))] t) (va_A [(qs, .inr (3, [.ref qi, .ref qo, .ref qd, .ref qk, .ref qv, .ref qf, .ref qa, .ref gh, .ref hk, .int (nI kc), .int ivl, .int drw])), (qi, .inr (2, [.ref bi, .int (nI ni)])), (bi, .inl (cI, 300, .inl fi)), (qk, .inr (2, [.ref bk, .int (nI 32)])), (bk, .inl (cI, 32, .inl fk)), (qv, .inr (2, [.ref bv, .int (nI 32)])), (bv, .inl (cI, 32, .inl fv)), (qf, .inr (2, [.ref bf, .int uf])), (bf, .inl (cI, 32, .inl ff)), (hk, .inr (1, [.ref hh, .ref hB, .ref hI])), (hh, .inr (0, [.ref hm, .ref aw, .ref ad])), (hm, .inr (2, [.ref bm, .int um])), (bm, .inl (cI, 448, .inl fm)), (aw, .inl (cI, 64, .inl fw)), (ad, .inl (cI, 8, .inl fd)), (hB, .inr (2, [.ref bB, .int uB])), (bB, .inl (cI, 64, .inl fB)), (hI, .inr (2, [.ref bI, .int uI])), (bI, .inl (cI, 32, .inl fI))] sz)) 0 0 (va_A [(qs, .inr (3, [.ref qi, .ref qo, .ref qd, .ref qk, .ref qv, .ref qf, .ref qa, .ref gh, .ref hk, .int (nI kc), .int ivl, .int drw])), (qi, .inr (2, [.ref bi, .int (nI ni)])), (bi, .inl (cI, 300, .inl fi)), (qk, .inr (2, [.ref bk, .int (nI 32)])), (bk, .inl (cI, 32, .inl fk)), (qv, .inr (2, [.ref bv, .int (nI 32)])), (bv, .inl (cI, 32, .inl fv)), (qf, .inr (2, [.ref bf, .int uf])), (bf, .inl (cI, 32, .inl ff)), (hk, .inr (1, [.ref hh, .ref hB, .ref hI])), (hh, .inr (0, [.ref hm, .ref aw, .ref ad])), (hm, .inr (2, [.ref bm, .int um])), (bm, .inl (cI, 448, .inl fm)), (aw, .inl (cI, 64, .inl fw)), (ad, .inl (cI, 8, .inl fd)), (hB, .inr (2, [.ref bB, .int uB])), (bB, .inl (cI, 64, .inl fB)), (hI, .inr (2, [.ref bI, .int uI])), (bI, .inl (cI, 32, .inl fI))] sz) := by
  refine Met.ofW (cc := cX3_reseed) (maxL := 1) (ret := (some .int)) (by decide) rfl ?_
  intro p e s m args below meth c s₁ B hml hv
  obtain ⟨rfl, hsz, hP, hK, hD0, hT⟩ := hv
  have hx := B.exec
  have hb := B.bytes
  have hr := B.returns
  have hts := atoms_spec (ws := wsX3_reseed) B.pre
  have hown : s.vm.findClass RX3 = some m.cls := findClass_of_methodNamed B.named
  have hlocks := B.notSynchronized
  subst hsz
  have hD := hD0.self (sz := s.heap.size)
  generalize hAe : va_A [(qs, .inr (3, [.ref qi, .ref qo, .ref qd, .ref qk, .ref qv, .ref qf, .ref qa, .ref gh, .ref hk, .int (nI kc), .int ivl, .int drw])), (qi, .inr (2, [.ref bi, .int (nI ni)])), (bi, .inl (cI, 300, .inl fi)), (qk, .inr (2, [.ref bk, .int (nI 32)])), (bk, .inl (cI, 32, .inl fk)), (qv, .inr (2, [.ref bv, .int (nI 32)])), (bv, .inl (cI, 32, .inl fv)), (qf, .inr (2, [.ref bf, .int uf])), (bf, .inl (cI, 32, .inl ff)), (hk, .inr (1, [.ref hh, .ref hB, .ref hI])), (hh, .inr (0, [.ref hm, .ref aw, .ref ad])), (hm, .inr (2, [.ref bm, .int um])), (bm, .inl (cI, 448, .inl fm)), (aw, .inl (cI, 64, .inl fw)), (ad, .inl (cI, 8, .inl fd)), (hB, .inr (2, [.ref bB, .int uB])), (bB, .inl (cI, 64, .inl fB)), (hI, .inr (2, [.ref bI, .int uI])), (bI, .inl (cI, 32, .inl fI))] s.heap.size = A at hD hT ⊢
  have hA : ∀ q : Nat, s.heap.size ≤ q → A q := fun q h => by rw [← hAe]; exact Or.inr h
  have hS : va_S A s.heap s.heap [] := va_S.rf
  have hl := lv_entry ([.ref qs]) (n := 1) (Nat.le_of_ble_eq_true rfl)
  rw [lg_entry_eq]
  generalize (lg_sl ([.ref qs]) ++ List.replicate (1 - (lg_sl ([.ref qs])).length) Slot.unset).toArray = ls at hl ⊢
  have hl : lv_has ls 1 [(0, .ref qs)] := hl
  refine sm_name (fun Q hQ => ?_)
  have hf_14 := hts (.fieldLink RX3 14 "SeedMill" "input" "LSeedMill$Row;") (by decide +kernel)
  have hw_X3 : ∀ w ∈ wsX30, w ∈ wsX3_reseed := by decide +kernel
  have hf_50 := hts (.fieldLink RX3 50 "SeedMill" "drawCounter" "I") (by decide +kernel)
  refine lv_aload_n hx hb dX3_reseed_0 rfl (lv_at hl 0 rfl) ?_
  refine va_get (D := D) (ci := 3) (v := .ref qi) (C := RX3) (T := TX3) (N := 12) hx hb hts hw_X3 hown hK hP 0 rfl rfl 0 (by decide) hf_14 (fun _ h9 => h9) rfl dX3_reseed_1 ?_
  refine sm_callVi (wc := [(qi, .inr (2, [.ref bi, .int (nI ni)])), (bi, .inl (cI, 300, .inl fi))]) (wr := [(qs, .inr (3, [.ref qi, .ref qo, .ref qd, .ref qk, .ref qv, .ref qf, .ref qa, .ref gh, .ref hk, .int (nI kc), .int ivl, .int drw])), (qk, .inr (2, [.ref bk, .int (nI 32)])), (bk, .inl (cI, 32, .inl fk)), (qv, .inr (2, [.ref bv, .int (nI 32)])), (bv, .inl (cI, 32, .inl fv)), (qf, .inr (2, [.ref bf, .int uf])), (bf, .inl (cI, 32, .inl ff)), (hk, .inr (1, [.ref hh, .ref hB, .ref hI])), (hh, .inr (0, [.ref hm, .ref aw, .ref ad])), (hm, .inr (2, [.ref bm, .int um])), (bm, .inl (cI, 448, .inl fm)), (aw, .inl (cI, 64, .inl fw)), (ad, .inl (cI, 8, .inl fd)), (hB, .inr (2, [.ref bB, .int uB])), (bB, .inl (cI, 64, .inl fB)), (hI, .inr (2, [.ref bI, .int uI])), (bI, .inl (cI, 32, .inl fI))]) (As := []) (rest := []) ⟨hx, hb, hml, hown, hts⟩ (sc_X2_size l D cI (some (tk, tf)) _ qi bi 300 fi (nI ni) ) (cwV 0 hts gX3_reseed_X2_size rfl rfl rfl (by decide +kernel) ⟨Nat.le_of_ble_eq_true rfl, Nat.le_of_ble_eq_true rfl⟩) hP hD hS hA hK hT [1, 2] [0, 3, 4, 5, 6, 7, 8, 9, 10, 11, 12, 13, 14, 15, 16, 17, 18] rfl rfl rfl rfl (by decide) 0 2 rfl rfl rfl rfl hl.1 rfl (Nat.le_of_ble_eq_true rfl) dX3_reseed_4 ⟨Nat.zero_le _, Nat.zero_le _⟩ (fun r_4 zt H1 locs ht hvm hw hB hJ hS => ?_)
  obtain ⟨hP1, -, hD1⟩ := hB
  rw [ht] at hP1
  obtain ⟨hP, hD⟩ := hJ _ hP1 hD1
  clear hJ
  generalize H1 = H at hP hS ⊢
  have hP : va_P D vwCl [(qs, .inr (3, [.ref qi, .ref qo, .ref qd, .ref qk, .ref qv, .ref qf, .ref qa, .ref gh, .ref hk, .int (nI kc), .int ivl, .int drw])), (qi, .inr (2, [.ref bi, .int (nI ni)])), (bi, .inl (cI, 300, .inl fi)), (qk, .inr (2, [.ref bk, .int (nI 32)])), (bk, .inl (cI, 32, .inl fk)), (qv, .inr (2, [.ref bv, .int (nI 32)])), (bv, .inl (cI, 32, .inl fv)), (qf, .inr (2, [.ref bf, .int uf])), (bf, .inl (cI, 32, .inl ff)), (hk, .inr (1, [.ref hh, .ref hB, .ref hI])), (hh, .inr (0, [.ref hm, .ref aw, .ref ad])), (hm, .inr (2, [.ref bm, .int um])), (bm, .inl (cI, 448, .inl fm)), (aw, .inl (cI, 64, .inl fw)), (ad, .inl (cI, 8, .inl fd)), (hB, .inr (2, [.ref bB, .int uB])), (bB, .inl (cI, 64, .inl fB)), (hI, .inr (2, [.ref bI, .int uI])), (bI, .inl (cI, 32, .inl fI))] H := hP.sub [0, 17, 18, 1, 2, 3, 4, 5, 6, 7, 8, 9, 10, 11, 12, 13, 14, 15, 16] rfl
  have hD : va_D A [(qs, .inr (3, [.ref qi, .ref qo, .ref qd, .ref qk, .ref qv, .ref qf, .ref qa, .ref gh, .ref hk, .int (nI kc), .int ivl, .int drw])), (qi, .inr (2, [.ref bi, .int (nI ni)])), (bi, .inl (cI, 300, .inl fi)), (qk, .inr (2, [.ref bk, .int (nI 32)])), (bk, .inl (cI, 32, .inl fk)), (qv, .inr (2, [.ref bv, .int (nI 32)])), (bv, .inl (cI, 32, .inl fv)), (qf, .inr (2, [.ref bf, .int uf])), (bf, .inl (cI, 32, .inl ff)), (hk, .inr (1, [.ref hh, .ref hB, .ref hI])), (hh, .inr (0, [.ref hm, .ref aw, .ref ad])), (hm, .inr (2, [.ref bm, .int um])), (bm, .inl (cI, 448, .inl fm)), (aw, .inl (cI, 64, .inl fw)), (ad, .inl (cI, 8, .inl fd)), (hB, .inr (2, [.ref bB, .int uB])), (bB, .inl (cI, 64, .inl fB)), (hI, .inr (2, [.ref bI, .int uI])), (bI, .inl (cI, 32, .inl fI))] := hD.sub [0, 17, 18, 1, 2, 3, 4, 5, 6, 7, 8, 9, 10, 11, 12, 13, 14, 15, 16] rfl rfl
  rw [hw]
  refine lv_if_eq (tgt := 17) hx hb dX3_reseed_7 (by decide) (fun c_7 => ?_) (fun c_7 => ?_)
  ·
    exact absurd c_7 (fun h9 => nI_ne0 hn0 (by omega) h9)
  ·
    refine lv_aload_n hx hb dX3_reseed_10 rfl (lv_at hl 0 rfl) ?_
    refine sm_callVi (wc := [(qs, .inr (3, [.ref qi, .ref qo, .ref qd, .ref qk, .ref qv, .ref qf, .ref qa, .ref gh, .ref hk, .int (nI kc), .int ivl, .int drw]))]) (wr := [(qi, .inr (2, [.ref bi, .int (nI ni)])), (bi, .inl (cI, 300, .inl fi)), (qk, .inr (2, [.ref bk, .int (nI 32)])), (bk, .inl (cI, 32, .inl fk)), (qv, .inr (2, [.ref bv, .int (nI 32)])), (bv, .inl (cI, 32, .inl fv)), (qf, .inr (2, [.ref bf, .int uf])), (bf, .inl (cI, 32, .inl ff)), (hk, .inr (1, [.ref hh, .ref hB, .ref hI])), (hh, .inr (0, [.ref hm, .ref aw, .ref ad])), (hm, .inr (2, [.ref bm, .int um])), (bm, .inl (cI, 448, .inl fm)), (aw, .inl (cI, 64, .inl fw)), (ad, .inl (cI, 8, .inl fd)), (hB, .inr (2, [.ref bB, .int uB])), (bB, .inl (cI, 64, .inl fB)), (hI, .inr (2, [.ref bI, .int uI])), (bI, .inl (cI, 32, .inl fI))]) (As := []) (rest := []) ⟨hx, hb, hml, hown, hts⟩ (sc_X3_isSeeded l D cI (some (tk, tf)) _ qs qi bi qo bo qd bd qk bk qv bv qf bf qa ba gh gm gb gw gd hk hh hm bm aw ad hB bB hI bI (nI kc) ivl drw ) (cwV 0 hts gX3_reseed_X3_isSeeded rfl rfl rfl (by decide +kernel) ⟨Nat.le_of_ble_eq_true rfl, Nat.le_of_ble_eq_true rfl⟩) hP hD hS hA hK hT [0] [1, 2, 3, 4, 5, 6, 7, 8, 9, 10, 11, 12, 13, 14, 15, 16, 17, 18] rfl rfl rfl rfl (by decide) 0 3 rfl rfl rfl rfl hl.1 rfl (Nat.le_of_ble_eq_true rfl) dX3_reseed_11 ⟨Nat.zero_le _, Nat.zero_le _⟩ (fun r_11 zt H1 locs ht hvm hw hB hJ hS => ?_)
    obtain ⟨hP1, -, hD1⟩ := hB
    rw [ht] at hP1
    obtain ⟨hP, hD⟩ := hJ _ hP1 hD1
    clear hJ
    generalize H1 = H at hP hS ⊢
    have hP : va_P D vwCl [(qs, .inr (3, [.ref qi, .ref qo, .ref qd, .ref qk, .ref qv, .ref qf, .ref qa, .ref gh, .ref hk, .int (nI kc), .int ivl, .int drw])), (qi, .inr (2, [.ref bi, .int (nI ni)])), (bi, .inl (cI, 300, .inl fi)), (qk, .inr (2, [.ref bk, .int (nI 32)])), (bk, .inl (cI, 32, .inl fk)), (qv, .inr (2, [.ref bv, .int (nI 32)])), (bv, .inl (cI, 32, .inl fv)), (qf, .inr (2, [.ref bf, .int uf])), (bf, .inl (cI, 32, .inl ff)), (hk, .inr (1, [.ref hh, .ref hB, .ref hI])), (hh, .inr (0, [.ref hm, .ref aw, .ref ad])), (hm, .inr (2, [.ref bm, .int um])), (bm, .inl (cI, 448, .inl fm)), (aw, .inl (cI, 64, .inl fw)), (ad, .inl (cI, 8, .inl fd)), (hB, .inr (2, [.ref bB, .int uB])), (bB, .inl (cI, 64, .inl fB)), (hI, .inr (2, [.ref bI, .int uI])), (bI, .inl (cI, 32, .inl fI))] H := hP.sub [18, 0, 1, 2, 3, 4, 5, 6, 7, 8, 9, 10, 11, 12, 13, 14, 15, 16, 17] rfl
    have hD : va_D A [(qs, .inr (3, [.ref qi, .ref qo, .ref qd, .ref qk, .ref qv, .ref qf, .ref qa, .ref gh, .ref hk, .int (nI kc), .int ivl, .int drw])), (qi, .inr (2, [.ref bi, .int (nI ni)])), (bi, .inl (cI, 300, .inl fi)), (qk, .inr (2, [.ref bk, .int (nI 32)])), (bk, .inl (cI, 32, .inl fk)), (qv, .inr (2, [.ref bv, .int (nI 32)])), (bv, .inl (cI, 32, .inl fv)), (qf, .inr (2, [.ref bf, .int uf])), (bf, .inl (cI, 32, .inl ff)), (hk, .inr (1, [.ref hh, .ref hB, .ref hI])), (hh, .inr (0, [.ref hm, .ref aw, .ref ad])), (hm, .inr (2, [.ref bm, .int um])), (bm, .inl (cI, 448, .inl fm)), (aw, .inl (cI, 64, .inl fw)), (ad, .inl (cI, 8, .inl fd)), (hB, .inr (2, [.ref bB, .int uB])), (bB, .inl (cI, 64, .inl fB)), (hI, .inr (2, [.ref bI, .int uI])), (bI, .inl (cI, 32, .inl fI))] := hD.sub [18, 0, 1, 2, 3, 4, 5, 6, 7, 8, 9, 10, 11, 12, 13, 14, 15, 16, 17] rfl rfl
    rw [hw]
    refine sm_top (z := 1) (if_pos (nI_lt (a := 0) hkc (by omega))) ?_
    refine lv_if_ne (tgt := 19) hx hb dX3_reseed_14 (by decide) (fun c_14 => ?_) (fun c_14 => ?_)
    ·
      refine lv_aload_n hx hb dX3_reseed_19 rfl (lv_at hl 0 rfl) ?_
      refine sm_callVv (wc := [(qs, .inr (3, [.ref qi, .ref qo, .ref qd, .ref qk, .ref qv, .ref qf, .ref qa, .ref gh, .ref hk, .int (nI kc), .int ivl, .int drw])), (qi, .inr (2, [.ref bi, .int (nI ni)])), (bi, .inl (cI, 300, .inl fi)), (qk, .inr (2, [.ref bk, .int (nI 32)])), (bk, .inl (cI, 32, .inl fk)), (qv, .inr (2, [.ref bv, .int (nI 32)])), (bv, .inl (cI, 32, .inl fv)), (qf, .inr (2, [.ref bf, .int uf])), (bf, .inl (cI, 32, .inl ff)), (hk, .inr (1, [.ref hh, .ref hB, .ref hI])), (hh, .inr (0, [.ref hm, .ref aw, .ref ad])), (hm, .inr (2, [.ref bm, .int um])), (bm, .inl (cI, 448, .inl fm)), (aw, .inl (cI, 64, .inl fw)), (ad, .inl (cI, 8, .inl fd)), (hB, .inr (2, [.ref bB, .int uB])), (bB, .inl (cI, 64, .inl fB)), (hI, .inr (2, [.ref bI, .int uI])), (bI, .inl (cI, 32, .inl fI))]) (wr := []) (As := []) (rest := []) ⟨hx, hb, hml, hown, hts⟩ (sc_X3_stir l D cI tk tf _ qs qi bi qo bo qd bd qk bk qv bv qf bf qa ba gh gm gb gw gd hk hh hm bm aw ad hB bB hI bI (nI kc) ivl drw ni fi fk fv ff uf fm um fw fd fB uB fI uI hni) (cwV 0 hts gX3_reseed_X3_stir rfl rfl rfl (by decide +kernel) ⟨Nat.le_of_ble_eq_true rfl, Nat.le_of_ble_eq_true rfl⟩) hP hD hS hA hK hT [0, 1, 2, 3, 4, 5, 6, 7, 8, 9, 10, 11, 12, 13, 14, 15, 16, 17, 18] [] rfl rfl rfl rfl (by decide) 0 3 rfl rfl rfl rfl hl.1 rfl (Nat.le_of_ble_eq_true rfl) dX3_reseed_20 ⟨Nat.zero_le _, Nat.zero_le _⟩ (fun zt H1 locs ht hvm hB hJ hS => ?_)
      obtain ⟨ff2, fm2, um2, fw2, fd2, fB2, uB2, fI2, uI2, hst2, hP1, -, hD1⟩ := hB
      rw [ht] at hP1
      obtain ⟨hP, hD⟩ := hJ _ hP1 hD1
      clear hJ
      generalize H1 = H at hP hS ⊢
      have hP : va_P D vwCl [(qs, .inr (3, [.ref qi, .ref qo, .ref qd, .ref qk, .ref qv, .ref qf, .ref qa, .ref gh, .ref hk, .int (nI kc), .int ivl, .int drw])), (qi, .inr (2, [.ref bi, .int (nI ni)])), (bi, .inl (cI, 300, .inl fi)), (qk, .inr (2, [.ref bk, .int (nI 32)])), (bk, .inl (cI, 32, .inl ((sm_stir (fk, fv) fi ni).1))), (qv, .inr (2, [.ref bv, .int (nI 32)])), (bv, .inl (cI, 32, .inl ((sm_stir (fk, fv) fi ni).2))), (qf, .inr (2, [.ref bf, .int (nI 32)])), (bf, .inl (cI, 32, .inl ff2)), (hk, .inr (1, [.ref hh, .ref hB, .ref hI])), (hh, .inr (0, [.ref hm, .ref aw, .ref ad])), (hm, .inr (2, [.ref bm, .int um2])), (bm, .inl (cI, 448, .inl fm2)), (aw, .inl (cI, 64, .inl fw2)), (ad, .inl (cI, 8, .inl fd2)), (hB, .inr (2, [.ref bB, .int uB2])), (bB, .inl (cI, 64, .inl fB2)), (hI, .inr (2, [.ref bI, .int uI2])), (bI, .inl (cI, 32, .inl fI2))] H := hP.sub [0, 1, 2, 3, 4, 5, 6, 7, 8, 9, 10, 11, 12, 13, 14, 15, 16, 17, 18] rfl
      have hD : va_D A [(qs, .inr (3, [.ref qi, .ref qo, .ref qd, .ref qk, .ref qv, .ref qf, .ref qa, .ref gh, .ref hk, .int (nI kc), .int ivl, .int drw])), (qi, .inr (2, [.ref bi, .int (nI ni)])), (bi, .inl (cI, 300, .inl fi)), (qk, .inr (2, [.ref bk, .int (nI 32)])), (bk, .inl (cI, 32, .inl ((sm_stir (fk, fv) fi ni).1))), (qv, .inr (2, [.ref bv, .int (nI 32)])), (bv, .inl (cI, 32, .inl ((sm_stir (fk, fv) fi ni).2))), (qf, .inr (2, [.ref bf, .int (nI 32)])), (bf, .inl (cI, 32, .inl ff2)), (hk, .inr (1, [.ref hh, .ref hB, .ref hI])), (hh, .inr (0, [.ref hm, .ref aw, .ref ad])), (hm, .inr (2, [.ref bm, .int um2])), (bm, .inl (cI, 448, .inl fm2)), (aw, .inl (cI, 64, .inl fw2)), (ad, .inl (cI, 8, .inl fd2)), (hB, .inr (2, [.ref bB, .int uB2])), (bB, .inl (cI, 64, .inl fB2)), (hI, .inr (2, [.ref bI, .int uI2])), (bI, .inl (cI, 32, .inl fI2))] := hD.sub [0, 1, 2, 3, 4, 5, 6, 7, 8, 9, 10, 11, 12, 13, 14, 15, 16, 17, 18] rfl rfl
      refine lv_aload_n hx hb dX3_reseed_23 rfl (lv_at hl 0 rfl) ?_
      refine va_get (D := D) (ci := 3) (v := .ref qi) (C := RX3) (T := TX3) (N := 12) hx hb hts hw_X3 hown hK hP 0 rfl rfl 0 (by decide) hf_14 (fun _ h9 => h9) rfl dX3_reseed_24 ?_
      refine sm_callVv (wc := [(qi, .inr (2, [.ref bi, .int (nI ni)])), (bi, .inl (cI, 300, .inl fi))]) (wr := [(qs, .inr (3, [.ref qi, .ref qo, .ref qd, .ref qk, .ref qv, .ref qf, .ref qa, .ref gh, .ref hk, .int (nI kc), .int ivl, .int drw])), (qk, .inr (2, [.ref bk, .int (nI 32)])), (bk, .inl (cI, 32, .inl ((sm_stir (fk, fv) fi ni).1))), (qv, .inr (2, [.ref bv, .int (nI 32)])), (bv, .inl (cI, 32, .inl ((sm_stir (fk, fv) fi ni).2))), (qf, .inr (2, [.ref bf, .int (nI 32)])), (bf, .inl (cI, 32, .inl ff2)), (hk, .inr (1, [.ref hh, .ref hB, .ref hI])), (hh, .inr (0, [.ref hm, .ref aw, .ref ad])), (hm, .inr (2, [.ref bm, .int um2])), (bm, .inl (cI, 448, .inl fm2)), (aw, .inl (cI, 64, .inl fw2)), (ad, .inl (cI, 8, .inl fd2)), (hB, .inr (2, [.ref bB, .int uB2])), (bB, .inl (cI, 64, .inl fB2)), (hI, .inr (2, [.ref bI, .int uI2])), (bI, .inl (cI, 32, .inl fI2))]) (As := []) (rest := []) ⟨hx, hb, hml, hown, hts⟩ (sc_X2_empty l D cI (some (tk, tf)) _ qi bi 300 fi (nI ni) ) (cwV 0 hts gX3_reseed_X2_empty rfl rfl rfl (by decide +kernel) ⟨Nat.le_of_ble_eq_true rfl, Nat.le_of_ble_eq_true rfl⟩) hP hD hS hA hK hT [1, 2] [0, 3, 4, 5, 6, 7, 8, 9, 10, 11, 12, 13, 14, 15, 16, 17, 18] rfl rfl rfl rfl (by decide) 0 2 rfl rfl rfl rfl hl.1 rfl (Nat.le_of_ble_eq_true rfl) dX3_reseed_27 ⟨Nat.zero_le _, Nat.zero_le _⟩ (fun zt H1 locs ht hvm hB hJ hS => ?_)
      obtain ⟨hP1, -, hD1⟩ := hB
      rw [ht] at hP1
      obtain ⟨hP, hD⟩ := hJ _ hP1 hD1
      clear hJ
      generalize H1 = H at hP hS ⊢
      have hP : va_P D vwCl [(qs, .inr (3, [.ref qi, .ref qo, .ref qd, .ref qk, .ref qv, .ref qf, .ref qa, .ref gh, .ref hk, .int (nI kc), .int ivl, .int drw])), (qi, .inr (2, [.ref bi, .int (nI 0)])), (bi, .inl (cI, 300, .inl fi)), (qk, .inr (2, [.ref bk, .int (nI 32)])), (bk, .inl (cI, 32, .inl ((sm_stir (fk, fv) fi ni).1))), (qv, .inr (2, [.ref bv, .int (nI 32)])), (bv, .inl (cI, 32, .inl ((sm_stir (fk, fv) fi ni).2))), (qf, .inr (2, [.ref bf, .int (nI 32)])), (bf, .inl (cI, 32, .inl ff2)), (hk, .inr (1, [.ref hh, .ref hB, .ref hI])), (hh, .inr (0, [.ref hm, .ref aw, .ref ad])), (hm, .inr (2, [.ref bm, .int um2])), (bm, .inl (cI, 448, .inl fm2)), (aw, .inl (cI, 64, .inl fw2)), (ad, .inl (cI, 8, .inl fd2)), (hB, .inr (2, [.ref bB, .int uB2])), (bB, .inl (cI, 64, .inl fB2)), (hI, .inr (2, [.ref bI, .int uI2])), (bI, .inl (cI, 32, .inl fI2))] H := hP.sub [0, 17, 18, 1, 2, 3, 4, 5, 6, 7, 8, 9, 10, 11, 12, 13, 14, 15, 16] rfl
      have hD : va_D A [(qs, .inr (3, [.ref qi, .ref qo, .ref qd, .ref qk, .ref qv, .ref qf, .ref qa, .ref gh, .ref hk, .int (nI kc), .int ivl, .int drw])), (qi, .inr (2, [.ref bi, .int (nI 0)])), (bi, .inl (cI, 300, .inl fi)), (qk, .inr (2, [.ref bk, .int (nI 32)])), (bk, .inl (cI, 32, .inl ((sm_stir (fk, fv) fi ni).1))), (qv, .inr (2, [.ref bv, .int (nI 32)])), (bv, .inl (cI, 32, .inl ((sm_stir (fk, fv) fi ni).2))), (qf, .inr (2, [.ref bf, .int (nI 32)])), (bf, .inl (cI, 32, .inl ff2)), (hk, .inr (1, [.ref hh, .ref hB, .ref hI])), (hh, .inr (0, [.ref hm, .ref aw, .ref ad])), (hm, .inr (2, [.ref bm, .int um2])), (bm, .inl (cI, 448, .inl fm2)), (aw, .inl (cI, 64, .inl fw2)), (ad, .inl (cI, 8, .inl fd2)), (hB, .inr (2, [.ref bB, .int uB2])), (bB, .inl (cI, 64, .inl fB2)), (hI, .inr (2, [.ref bI, .int uI2])), (bI, .inl (cI, 32, .inl fI2))] := hD.sub [0, 17, 18, 1, 2, 3, 4, 5, 6, 7, 8, 9, 10, 11, 12, 13, 14, 15, 16] rfl rfl
      refine lv_aload_n hx hb dX3_reseed_30 rfl (lv_at hl 0 rfl) ?_
      refine lv_iconst (v := 1) hx hb dX3_reseed_31 (by decide) ?_
      refine va_put (D := D) (ci := 3) (v := .int 1) (ty := .int) (C := RX3) (T := TX3) (N := 12) hx hb hts hw_X3 tyX3 tyX3_ok nmX3 hown hK hP hD hS 0 rfl rfl 9 (by decide) hf_50 (fun _ h9 => h9) rfl (by decide +kernel) rfl rfl (Nat.le_of_ble_eq_true rfl) dX3_reseed_32 (fun H locs hP hD hS => ?_)
      have hP : va_P D vwCl [(qs, .inr (3, [.ref qi, .ref qo, .ref qd, .ref qk, .ref qv, .ref qf, .ref qa, .ref gh, .ref hk, .int 1, .int ivl, .int drw])), (qi, .inr (2, [.ref bi, .int (nI 0)])), (bi, .inl (cI, 300, .inl fi)), (qk, .inr (2, [.ref bk, .int (nI 32)])), (bk, .inl (cI, 32, .inl ((sm_stir (fk, fv) fi ni).1))), (qv, .inr (2, [.ref bv, .int (nI 32)])), (bv, .inl (cI, 32, .inl ((sm_stir (fk, fv) fi ni).2))), (qf, .inr (2, [.ref bf, .int (nI 32)])), (bf, .inl (cI, 32, .inl ff2)), (hk, .inr (1, [.ref hh, .ref hB, .ref hI])), (hh, .inr (0, [.ref hm, .ref aw, .ref ad])), (hm, .inr (2, [.ref bm, .int um2])), (bm, .inl (cI, 448, .inl fm2)), (aw, .inl (cI, 64, .inl fw2)), (ad, .inl (cI, 8, .inl fd2)), (hB, .inr (2, [.ref bB, .int uB2])), (bB, .inl (cI, 64, .inl fB2)), (hI, .inr (2, [.ref bI, .int uI2])), (bI, .inl (cI, 32, .inl fI2))] H := hP
      have hD : va_D A [(qs, .inr (3, [.ref qi, .ref qo, .ref qd, .ref qk, .ref qv, .ref qf, .ref qa, .ref gh, .ref hk, .int 1, .int ivl, .int drw])), (qi, .inr (2, [.ref bi, .int (nI 0)])), (bi, .inl (cI, 300, .inl fi)), (qk, .inr (2, [.ref bk, .int (nI 32)])), (bk, .inl (cI, 32, .inl ((sm_stir (fk, fv) fi ni).1))), (qv, .inr (2, [.ref bv, .int (nI 32)])), (bv, .inl (cI, 32, .inl ((sm_stir (fk, fv) fi ni).2))), (qf, .inr (2, [.ref bf, .int (nI 32)])), (bf, .inl (cI, 32, .inl ff2)), (hk, .inr (1, [.ref hh, .ref hB, .ref hI])), (hh, .inr (0, [.ref hm, .ref aw, .ref ad])), (hm, .inr (2, [.ref bm, .int um2])), (bm, .inl (cI, 448, .inl fm2)), (aw, .inl (cI, 64, .inl fw2)), (ad, .inl (cI, 8, .inl fd2)), (hB, .inr (2, [.ref bB, .int uB2])), (bB, .inl (cI, 64, .inl fB2)), (hI, .inr (2, [.ref bI, .int uI2])), (bI, .inl (cI, 32, .inl fI2))] := hD
      refine lv_iconst (v := 1) hx hb dX3_reseed_35 (by decide) ?_
      rw [hQ]
      have hP9 : va_P D vwCl [(qs, .inr (3, [.ref qi, .ref qo, .ref qd, .ref qk, .ref qv, .ref qf, .ref qa, .ref gh, .ref hk, .int (nI 1), .int ivl, .int drw])), (qi, .inr (2, [.ref bi, .int (nI 0)])), (bi, .inl (cI, 300, .inl fi)), (qk, .inr (2, [.ref bk, .int (nI 32)])), (bk, .inl (cI, 32, .inl ((sm_stir (fk, fv) fi ni).1))), (qv, .inr (2, [.ref bv, .int (nI 32)])), (bv, .inl (cI, 32, .inl ((sm_stir (fk, fv) fi ni).2))), (qf, .inr (2, [.ref bf, .int (nI 32)])), (bf, .inl (cI, 32, .inl ff2)), (hk, .inr (1, [.ref hh, .ref hB, .ref hI])), (hh, .inr (0, [.ref hm, .ref aw, .ref ad])), (hm, .inr (2, [.ref bm, .int um2])), (bm, .inl (cI, 448, .inl fm2)), (aw, .inl (cI, 64, .inl fw2)), (ad, .inl (cI, 8, .inl fd2)), (hB, .inr (2, [.ref bB, .int uB2])), (bB, .inl (cI, 64, .inl fB2)), (hI, .inr (2, [.ref bI, .int uI2])), (bI, .inl (cI, 32, .inl fI2))] H := hP
      have hD9 : va_D A [(qs, .inr (3, [.ref qi, .ref qo, .ref qd, .ref qk, .ref qv, .ref qf, .ref qa, .ref gh, .ref hk, .int (nI 1), .int ivl, .int drw])), (qi, .inr (2, [.ref bi, .int (nI 0)])), (bi, .inl (cI, 300, .inl fi)), (qk, .inr (2, [.ref bk, .int (nI 32)])), (bk, .inl (cI, 32, .inl ((sm_stir (fk, fv) fi ni).1))), (qv, .inr (2, [.ref bv, .int (nI 32)])), (bv, .inl (cI, 32, .inl ((sm_stir (fk, fv) fi ni).2))), (qf, .inr (2, [.ref bf, .int (nI 32)])), (bf, .inl (cI, 32, .inl ff2)), (hk, .inr (1, [.ref hh, .ref hB, .ref hI])), (hh, .inr (0, [.ref hm, .ref aw, .ref ad])), (hm, .inr (2, [.ref bm, .int um2])), (bm, .inl (cI, 448, .inl fm2)), (aw, .inl (cI, 64, .inl fw2)), (ad, .inl (cI, 8, .inl fd2)), (hB, .inr (2, [.ref bB, .int uB2])), (bB, .inl (cI, 64, .inl fB2)), (hI, .inr (2, [.ref bI, .int uI2])), (bI, .inl (cI, 32, .inl fI2))] := hD
      exact W.iret (v := 1) hx hb hr (fun t ht hW => ⟨⟨1, (), rfl, rfl, ⟨_, _, _, _, _, _, _, _, _, hst2, by rw [ht]; exact hP9, va_K.moved hW.alike hK, hD9⟩⟩, hS.F ht⟩) hS.2.2 dX3_reseed_36
    ·
      exact absurd c_14 (by decide)

def rm_X3_fillDrawn : Room := ({ frames := 6, cells := 0, slots := 0, locals := 139 } : Room)
set_option maxHeartbeats 4000000 in
set_option maxRecDepth 100000 in
/-- fillDrawn -/
theorem sc_X3_fillDrawn (l : Launch) (D : va_G) (cI : ClassId) (tk tf : Nat) (sz : Nat) (qs qi bi qo bo qd bd qk bk qv bv qf bf qa ba gh gm gb gw gd hk hh hm bm aw ad hB bB hI bI : Nat) (ivl drw : Int32) (kc : Nat) (n : Nat) (fD fk fv ff : Nat → Int32) (ud uf : Int32) (fm : Nat → Int32) (um : Int32) (fw fd fB : Nat → Int32) (uB : Int32) (fI : Nat → Int32) (uI : Int32) (hn1 : 1 ≤ n) (hn4 : n ≤ 400) : Met l yX3_fillDrawn wsX3_fillDrawn rm_X3_fillDrawn (va_Pc [.ref qs, .int (nI n)] (sm_PW D cI (some (tk, tf)) [(qs, .inr (3, [.ref qi, .ref qo, .ref qd, .ref qk, .ref qv, .ref qf, .ref qa, .ref gh, .ref hk, .int (nI kc), .int ivl, .int drw])), (qd, .inr (2, [.ref bd, .int ud])), (bd, .inl (cI, 400, .inl fD)), (qk, .inr (2, [.ref bk, .int (nI 32)])), (bk, .inl (cI, 32, .inl fk)), (qv, .inr (2, [.ref bv, .int (nI 32)])), (bv, .inl (cI, 32, .inl fv)), (qf, .inr (2, [.ref bf, .int uf])), (bf, .inl (cI, 32, .inl ff)), (hk, .inr (1, [.ref hh, .ref hB, .ref hI])), (hh, .inr (0, [.ref hm, .ref aw, .ref ad])), (hm, .inr (2, [.ref bm, .int um])), (bm, .inl (cI, 448, .inl fm)), (aw, .inl (cI, 64, .inl fw)), (ad, .inl (cI, 8, .inl fd)), (hB, .inr (2, [.ref bB, .int uB])), (bB, .inl (cI, 64, .inl fB)), (hI, .inr (2, [.ref bI, .int uI])), (bI, .inl (cI, 32, .inl fI))] sz)) (va_Qv (fun (_ : Unit) => True) (fun _ t => ∃ (ff2 : Nat → Int32) (uf2 : Int32) (fm2 : Nat → Int32) (um2 : Int32) (fw2 : Nat → Int32) (fd2 : Nat → Int32) (fB2 : Nat → Int32) (uB2 : Int32) (fI2 : Nat → Int32) (uI2 : Int32), sm_QW D cI (va_A [(qs, .inr (3, [.ref qi, .ref qo, .ref qd, .ref qk, .ref qv, .ref qf, .ref qa, .ref gh, .ref hk, .int (nI kc), .int ivl, .int drw])), (qd, .inr (2, [.ref bd, .int ud])), (bd, .inl (cI, 400, .inl fD)), (qk, .inr (2, [.ref bk, .int (nI 32)])), (bk, .inl (cI, 32, .inl fk)), (qv, .inr (2, [.ref bv, .int (nI 32)])), (bv, .inl (cI, 32, .inl fv)), (qf, .inr (2, [.ref bf, .int uf])), (bf, .inl (cI, 32, .inl ff)), (hk, .inr (1, [.ref hh, .ref hB, .ref hI])), (hh, .inr (0, [.ref hm, .ref aw, .ref ad])), (hm, .inr (2, [.ref bm, .int um])), (bm, .inl (cI, 448, .inl fm)), (aw, .inl (cI, 64, .inl fw)), (ad, .inl (cI, 8, .inl fd)), (hB, .inr (2, [.ref bB, .int uB])), (bB, .inl (cI, 64, .inl fB)), (hI, .inr (2, [.ref bI, .int uI])), (bI, .inl (cI, 32, .inl fI))] sz) [(qs, .inr (3, [.ref qi, .ref qo, .ref qd, .ref qk, .ref qv, .ref qf, .ref qa, .ref gh, .ref hk, .int (nI kc), .int ivl, .int drw])), (qd, .inr (2, [.ref bd, .int (nI n)])), (bd, .inl (cI, 400, .inl (sm_ap fD 0 (sm_dr fk fv) n))), (qk, .inr (2, [.ref bk, .int (nI 32)])), (bk, .inl (cI, 32, .inl fk)), (qv, .inr (2, [.ref bv, .int (nI 32)])), (bv, .inl (cI, 32, .inl (sm_vs fk fv ((n + 31) / 32)))), (qf, .inr (2, [.ref bf, .int uf2])), (bf, .inl (cI, 32, .inl ff2)), (hk, .inr (1, [.ref hh, .ref hB, .ref hI])), (hh, .inr (0, [.ref hm, .ref aw, .ref ad])), (hm, .inr (2, [.ref bm, .int um2])), (bm, .inl (cI, 448, .inl fm2)), (aw, .inl (cI, 64, .inl fw2)), (ad, .inl (cI, 8, .inl fd2)), (hB, .inr (2, [.ref bB, .int uB2])), (bB, .inl (cI, 64, .inl fB2)), (hI, .inr (2, [.ref bI, .int uI2])), (bI, .inl (cI, 32, .inl fI2))] t) (va_A [(qs, .inr (3, [.ref qi, .ref qo, .ref qd, .ref qk, .ref qv, .ref qf, .ref qa, .ref gh, .ref hk, .int (nI kc), .int ivl, .int drw])), (qd, .inr (2, [.ref bd, .int ud])), (bd, .inl (cI, 400, .inl fD)), (qk, .inr (2, [.ref bk, .int (nI 32)])), (bk, .inl (cI, 32, .inl fk)), (qv, .inr (2, [.ref bv, .int (nI 32)])), (bv, .inl (cI, 32, .inl fv)), (qf, .inr (2, [.ref bf, .int uf])), (bf, .inl (cI, 32, .inl ff)), (hk, .inr (1, [.ref hh, .ref hB, .ref hI])), (hh, .inr (0, [.ref hm, .ref aw, .ref ad])), (hm, .inr (2, [.ref bm, .int um])), (bm, .inl (cI, 448, .inl fm)), (aw, .inl (cI, 64, .inl fw)), (ad, .inl (cI, 8, .inl fd)), (hB, .inr (2, [.ref bB, .int uB])), (bB, .inl (cI, 64, .inl fB)), (hI, .inr (2, [.ref bI, .int uI])), (bI, .inl (cI, 32, .inl fI))] sz)) 0 0 (va_A [(qs, .inr (3, [.ref qi, .ref qo, .ref qd, .ref qk, .ref qv, .ref qf, .ref qa, .ref gh, .ref hk, .int (nI kc), .int ivl, .int drw])), (qd, .inr (2, [.ref bd, .int ud])), (bd, .inl (cI, 400, .inl fD)), (qk, .inr (2, [.ref bk, .int (nI 32)])), (bk, .inl (cI, 32, .inl fk)), (qv, .inr (2, [.ref bv, .int (nI 32)])), (bv, .inl (cI, 32, .inl fv)), (qf, .inr (2, [.ref bf, .int uf])), (bf, .inl (cI, 32, .inl ff)), (hk, .inr (1, [.ref hh, .ref hB, .ref hI])), (hh, .inr (0, [.ref hm, .ref aw, .ref ad])), (hm, .inr (2, [.ref bm, .int um])), (bm, .inl (cI, 448, .inl fm)), (aw, .inl (cI, 64, .inl fw)), (ad, .inl (cI, 8, .inl fd)), (hB, .inr (2, [.ref bB, .int uB])), (bB, .inl (cI, 64, .inl fB)), (hI, .inr (2, [.ref bI, .int uI])), (bI, .inl (cI, 32, .inl fI))] sz) := by
  refine Met.ofW (cc := cX3_fillDrawn) (maxL := 3) (ret := none) (by decide) rfl ?_
  intro p e s m args below meth c s₁ B hml hv
  obtain ⟨rfl, hsz, hP, hK, hD0, hT⟩ := hv
  have hx := B.exec
  have hb := B.bytes
  have hr := B.returns
  have hts := atoms_spec (ws := wsX3_fillDrawn) B.pre
  have hown : s.vm.findClass RX3 = some m.cls := findClass_of_methodNamed B.named
  have hlocks := B.notSynchronized
  subst hsz
  have hD := hD0.self (sz := s.heap.size)
  generalize hAe : va_A [(qs, .inr (3, [.ref qi, .ref qo, .ref qd, .ref qk, .ref qv, .ref qf, .ref qa, .ref gh, .ref hk, .int (nI kc), .int ivl, .int drw])), (qd, .inr (2, [.ref bd, .int ud])), (bd, .inl (cI, 400, .inl fD)), (qk, .inr (2, [.ref bk, .int (nI 32)])), (bk, .inl (cI, 32, .inl fk)), (qv, .inr (2, [.ref bv, .int (nI 32)])), (bv, .inl (cI, 32, .inl fv)), (qf, .inr (2, [.ref bf, .int uf])), (bf, .inl (cI, 32, .inl ff)), (hk, .inr (1, [.ref hh, .ref hB, .ref hI])), (hh, .inr (0, [.ref hm, .ref aw, .ref ad])), (hm, .inr (2, [.ref bm, .int um])), (bm, .inl (cI, 448, .inl fm)), (aw, .inl (cI, 64, .inl fw)), (ad, .inl (cI, 8, .inl fd)), (hB, .inr (2, [.ref bB, .int uB])), (bB, .inl (cI, 64, .inl fB)), (hI, .inr (2, [.ref bI, .int uI])), (bI, .inl (cI, 32, .inl fI))] s.heap.size = A at hD hT ⊢
  have hA : ∀ q : Nat, s.heap.size ≤ q → A q := fun q h => by rw [← hAe]; exact Or.inr h
  have hS : va_S A s.heap s.heap [] := va_S.rf
  have hl := lv_entry ([.ref qs, .int (nI n)]) (n := 3) (Nat.le_of_ble_eq_true rfl)
  rw [lg_entry_eq]
  generalize (lg_sl ([.ref qs, .int (nI n)]) ++ List.replicate (3 - (lg_sl ([.ref qs, .int (nI n)])).length) Slot.unset).toArray = ls at hl ⊢
  have hl : lv_has ls 3 [(0, .ref qs), (1, .int (nI n))] := hl
  refine sm_name (fun Q hQ => ?_)
  have hf_21 := hts (.fieldLink RX3 21 "SeedMill" "drawn" "LSeedMill$Row;") (by decide +kernel)
  have hw_X3 : ∀ w ∈ wsX30, w ∈ wsX3_fillDrawn := by decide +kernel
  have hf_27 := hts (.fieldLink RX3 27 "SeedMill" "value" "LSeedMill$Row;") (by decide +kernel)
  refine lv_aload_n hx hb dX3_fillDrawn_0 rfl (lv_at hl 0 rfl) ?_
  refine va_get (D := D) (ci := 3) (v := .ref qd) (C := RX3) (T := TX3) (N := 12) hx hb hts hw_X3 hown hK hP 0 rfl rfl 2 (by decide) hf_21 (fun _ h9 => h9) rfl dX3_fillDrawn_1 ?_
  refine sm_callVv (wc := [(qd, .inr (2, [.ref bd, .int ud])), (bd, .inl (cI, 400, .inl fD))]) (wr := [(qs, .inr (3, [.ref qi, .ref qo, .ref qd, .ref qk, .ref qv, .ref qf, .ref qa, .ref gh, .ref hk, .int (nI kc), .int ivl, .int drw])), (qk, .inr (2, [.ref bk, .int (nI 32)])), (bk, .inl (cI, 32, .inl fk)), (qv, .inr (2, [.ref bv, .int (nI 32)])), (bv, .inl (cI, 32, .inl fv)), (qf, .inr (2, [.ref bf, .int uf])), (bf, .inl (cI, 32, .inl ff)), (hk, .inr (1, [.ref hh, .ref hB, .ref hI])), (hh, .inr (0, [.ref hm, .ref aw, .ref ad])), (hm, .inr (2, [.ref bm, .int um])), (bm, .inl (cI, 448, .inl fm)), (aw, .inl (cI, 64, .inl fw)), (ad, .inl (cI, 8, .inl fd)), (hB, .inr (2, [.ref bB, .int uB])), (bB, .inl (cI, 64, .inl fB)), (hI, .inr (2, [.ref bI, .int uI])), (bI, .inl (cI, 32, .inl fI))]) (As := []) (rest := []) ⟨hx, hb, hml, hown, hts⟩ (sc_X2_empty l D cI (some (tk, tf)) _ qd bd 400 fD ud ) (cwV 0 hts gX3_fillDrawn_X2_empty rfl rfl rfl (by decide +kernel) ⟨Nat.le_of_ble_eq_true rfl, Nat.le_of_ble_eq_true rfl⟩) hP hD hS hA hK hT [1, 2] [0, 3, 4, 5, 6, 7, 8, 9, 10, 11, 12, 13, 14, 15, 16, 17, 18] rfl rfl rfl rfl (by decide) 0 2 rfl rfl rfl rfl hl.1 rfl (Nat.le_of_ble_eq_true rfl) dX3_fillDrawn_4 ⟨Nat.zero_le _, Nat.zero_le _⟩ (fun zt H1 locs ht hvm hB hJ hS => ?_)
  obtain ⟨hP1, -, hD1⟩ := hB
  rw [ht] at hP1
  obtain ⟨hP, hD⟩ := hJ _ hP1 hD1
  clear hJ
  generalize H1 = H at hP hS ⊢
  have hP : va_P D vwCl [(qs, .inr (3, [.ref qi, .ref qo, .ref qd, .ref qk, .ref qv, .ref qf, .ref qa, .ref gh, .ref hk, .int (nI kc), .int ivl, .int drw])), (qd, .inr (2, [.ref bd, .int (nI 0)])), (bd, .inl (cI, 400, .inl fD)), (qk, .inr (2, [.ref bk, .int (nI 32)])), (bk, .inl (cI, 32, .inl fk)), (qv, .inr (2, [.ref bv, .int (nI 32)])), (bv, .inl (cI, 32, .inl fv)), (qf, .inr (2, [.ref bf, .int uf])), (bf, .inl (cI, 32, .inl ff)), (hk, .inr (1, [.ref hh, .ref hB, .ref hI])), (hh, .inr (0, [.ref hm, .ref aw, .ref ad])), (hm, .inr (2, [.ref bm, .int um])), (bm, .inl (cI, 448, .inl fm)), (aw, .inl (cI, 64, .inl fw)), (ad, .inl (cI, 8, .inl fd)), (hB, .inr (2, [.ref bB, .int uB])), (bB, .inl (cI, 64, .inl fB)), (hI, .inr (2, [.ref bI, .int uI])), (bI, .inl (cI, 32, .inl fI))] H := hP.sub [0, 17, 18, 1, 2, 3, 4, 5, 6, 7, 8, 9, 10, 11, 12, 13, 14, 15, 16] rfl
  have hD : va_D A [(qs, .inr (3, [.ref qi, .ref qo, .ref qd, .ref qk, .ref qv, .ref qf, .ref qa, .ref gh, .ref hk, .int (nI kc), .int ivl, .int drw])), (qd, .inr (2, [.ref bd, .int (nI 0)])), (bd, .inl (cI, 400, .inl fD)), (qk, .inr (2, [.ref bk, .int (nI 32)])), (bk, .inl (cI, 32, .inl fk)), (qv, .inr (2, [.ref bv, .int (nI 32)])), (bv, .inl (cI, 32, .inl fv)), (qf, .inr (2, [.ref bf, .int uf])), (bf, .inl (cI, 32, .inl ff)), (hk, .inr (1, [.ref hh, .ref hB, .ref hI])), (hh, .inr (0, [.ref hm, .ref aw, .ref ad])), (hm, .inr (2, [.ref bm, .int um])), (bm, .inl (cI, 448, .inl fm)), (aw, .inl (cI, 64, .inl fw)), (ad, .inl (cI, 8, .inl fd)), (hB, .inr (2, [.ref bB, .int uB])), (bB, .inl (cI, 64, .inl fB)), (hI, .inr (2, [.ref bI, .int uI])), (bI, .inl (cI, 32, .inl fI))] := hD.sub [0, 17, 18, 1, 2, 3, 4, 5, 6, 7, 8, 9, 10, 11, 12, 13, 14, 15, 16] rfl rfl
  refine lv_iconst (v := 0) hx hb dX3_fillDrawn_7 (by decide) ?_
  refine lv_istore_n (lv' := [(2, .int 0), (0, .ref qs), (1, .int (nI n))]) hx hb dX3_fillDrawn_8 rfl hl (by decide) rfl (fun ls hl => ?_)
  have lp9 : ∀ (zn : Nat) (q : Nat) (gf : Nat → Int32) (gu : Int32) (fmL : Nat → Int32) (umL : Int32) (fwL : Nat → Int32) (fdL : Nat → Int32) (fBL : Nat → Int32) (uBL : Int32) (fIL : Nat → Int32) (uIL : Int32) (H : Heap) (locs : List Loc) (ls : Array Slot), n + 32 - 32 * q < zn → 32 * q ≤ n + 31 → va_P D vwCl [(qs, .inr (3, [.ref qi, .ref qo, .ref qd, .ref qk, .ref qv, .ref qf, .ref qa, .ref gh, .ref hk, .int (nI kc), .int ivl, .int drw])), (qd, .inr (2, [.ref bd, .int (nI (min (32 * q) n))])), (bd, .inl (cI, 400, .inl (sm_ap fD 0 (sm_dr fk fv) (min (32 * q) n)))), (qk, .inr (2, [.ref bk, .int (nI 32)])), (bk, .inl (cI, 32, .inl fk)), (qv, .inr (2, [.ref bv, .int (nI 32)])), (bv, .inl (cI, 32, .inl (sm_vs fk fv q))), (qf, .inr (2, [.ref bf, .int gu])), (bf, .inl (cI, 32, .inl gf)), (hk, .inr (1, [.ref hh, .ref hB, .ref hI])), (hh, .inr (0, [.ref hm, .ref aw, .ref ad])), (hm, .inr (2, [.ref bm, .int umL])), (bm, .inl (cI, 448, .inl fmL)), (aw, .inl (cI, 64, .inl fwL)), (ad, .inl (cI, 8, .inl fdL)), (hB, .inr (2, [.ref bB, .int uBL])), (bB, .inl (cI, 64, .inl fBL)), (hI, .inr (2, [.ref bI, .int uIL])), (bI, .inl (cI, 32, .inl fIL))] H → va_D A [(qs, .inr (3, [.ref qi, .ref qo, .ref qd, .ref qk, .ref qv, .ref qf, .ref qa, .ref gh, .ref hk, .int (nI kc), .int ivl, .int drw])), (qd, .inr (2, [.ref bd, .int (nI (min (32 * q) n))])), (bd, .inl (cI, 400, .inl (sm_ap fD 0 (sm_dr fk fv) (min (32 * q) n)))), (qk, .inr (2, [.ref bk, .int (nI 32)])), (bk, .inl (cI, 32, .inl fk)), (qv, .inr (2, [.ref bv, .int (nI 32)])), (bv, .inl (cI, 32, .inl (sm_vs fk fv q))), (qf, .inr (2, [.ref bf, .int gu])), (bf, .inl (cI, 32, .inl gf)), (hk, .inr (1, [.ref hh, .ref hB, .ref hI])), (hh, .inr (0, [.ref hm, .ref aw, .ref ad])), (hm, .inr (2, [.ref bm, .int umL])), (bm, .inl (cI, 448, .inl fmL)), (aw, .inl (cI, 64, .inl fwL)), (ad, .inl (cI, 8, .inl fdL)), (hB, .inr (2, [.ref bB, .int uBL])), (bB, .inl (cI, 64, .inl fBL)), (hI, .inr (2, [.ref bI, .int uIL])), (bI, .inl (cI, 32, .inl fIL))] → va_S A s.heap H locs → lv_has ls 3 [(2, .int (nI (32 * q))), (0, .ref qs), (1, .int (nI n))] → W p l e (headSpec wsX3_fillDrawn rm_X3_fillDrawn).room s m ([.ref qs, .int (nI n)] : List Value).toArray below meth c H locs 0 0 Q (F0 m 9 ls []) := by
    intro zn
    induction zn with
    | zero => intro q gf gu fmL umL fwL fdL fBL uBL fIL uIL H locs ls hmu; exact absurd hmu (Nat.not_lt_zero _)
    | succ zn ih =>
      intro q gf gu fmL umL fwL fdL fBL uBL fIL uIL H locs ls hmu hq1 hP hD hS hl
      refine lv_iload_n hx hb dX3_fillDrawn_9 rfl (lv_at hl 0 rfl) ?_
      refine lv_iload_n hx hb dX3_fillDrawn_10 rfl (lv_at hl 2 rfl) ?_
      refine lv_icmp_ge (tgt := 43) hx hb dX3_fillDrawn_11 (by decide) (fun c_11 => ?_) (fun c_11 => ?_)
      ·
        have hex : n ≤ 32 * q := by
          rcases Nat.lt_or_ge (32 * q) n with z | z
          · exact absurd c_11 (nI_ge z (by omega))
          · exact z
        rw [show min (32 * q) n = n by omega, show q = (n + 31) / 32 by omega] at hP hD
        rw [hQ]
        have hP9 : va_P D vwCl [(qs, .inr (3, [.ref qi, .ref qo, .ref qd, .ref qk, .ref qv, .ref qf, .ref qa, .ref gh, .ref hk, .int (nI kc), .int ivl, .int drw])), (qd, .inr (2, [.ref bd, .int (nI n)])), (bd, .inl (cI, 400, .inl (sm_ap fD 0 (sm_dr fk fv) n))), (qk, .inr (2, [.ref bk, .int (nI 32)])), (bk, .inl (cI, 32, .inl fk)), (qv, .inr (2, [.ref bv, .int (nI 32)])), (bv, .inl (cI, 32, .inl (sm_vs fk fv ((n + 31) / 32)))), (qf, .inr (2, [.ref bf, .int gu])), (bf, .inl (cI, 32, .inl gf)), (hk, .inr (1, [.ref hh, .ref hB, .ref hI])), (hh, .inr (0, [.ref hm, .ref aw, .ref ad])), (hm, .inr (2, [.ref bm, .int umL])), (bm, .inl (cI, 448, .inl fmL)), (aw, .inl (cI, 64, .inl fwL)), (ad, .inl (cI, 8, .inl fdL)), (hB, .inr (2, [.ref bB, .int uBL])), (bB, .inl (cI, 64, .inl fBL)), (hI, .inr (2, [.ref bI, .int uIL])), (bI, .inl (cI, 32, .inl fIL))] H := hP
        have hD9 : va_D A [(qs, .inr (3, [.ref qi, .ref qo, .ref qd, .ref qk, .ref qv, .ref qf, .ref qa, .ref gh, .ref hk, .int (nI kc), .int ivl, .int drw])), (qd, .inr (2, [.ref bd, .int (nI n)])), (bd, .inl (cI, 400, .inl (sm_ap fD 0 (sm_dr fk fv) n))), (qk, .inr (2, [.ref bk, .int (nI 32)])), (bk, .inl (cI, 32, .inl fk)), (qv, .inr (2, [.ref bv, .int (nI 32)])), (bv, .inl (cI, 32, .inl (sm_vs fk fv ((n + 31) / 32)))), (qf, .inr (2, [.ref bf, .int gu])), (bf, .inl (cI, 32, .inl gf)), (hk, .inr (1, [.ref hh, .ref hB, .ref hI])), (hh, .inr (0, [.ref hm, .ref aw, .ref ad])), (hm, .inr (2, [.ref bm, .int umL])), (bm, .inl (cI, 448, .inl fmL)), (aw, .inl (cI, 64, .inl fwL)), (ad, .inl (cI, 8, .inl fdL)), (hB, .inr (2, [.ref bB, .int uBL])), (bB, .inl (cI, 64, .inl fBL)), (hI, .inr (2, [.ref bI, .int uIL])), (bI, .inl (cI, 32, .inl fIL))] := hD
        exact W.vret hx hb hr (fun t ht hW => ⟨⟨(), rfl, trivial, ⟨_, _, _, _, _, _, _, _, _, _, by rw [ht]; exact hP9, va_K.moved hW.alike hK, hD9⟩⟩, hS.F ht⟩) hS.2.2 dX3_fillDrawn_43
      ·
        have hlt : 32 * q < n := by
          rcases Nat.lt_or_ge (32 * q) n with z | z
          · exact z
          · exact absurd (nI_le z (by omega)) c_11
        rw [show min (32 * q) n = 32 * q by omega] at hP hD
        have hP : va_P D vwCl [(qs, .inr (3, [.ref qi, .ref qo, .ref qd, .ref qk, .ref qv, .ref qf, .ref qa, .ref gh, .ref hk, .int (nI kc), .int ivl, .int drw])), (qd, .inr (2, [.ref bd, .int (nI (32 * q))])), (bd, .inl (cI, 400, .inl (sm_ap fD 0 (sm_dr fk fv) (32 * q)))), (qk, .inr (2, [.ref bk, .int (nI 32)])), (bk, .inl (cI, 32, .inl fk)), (qv, .inr (2, [.ref bv, .int (nI 32)])), (bv, .inl (cI, 32, .inl (sm_vs fk fv q))), (qf, .inr (2, [.ref bf, .int gu])), (bf, .inl (cI, 32, .inl gf)), (hk, .inr (1, [.ref hh, .ref hB, .ref hI])), (hh, .inr (0, [.ref hm, .ref aw, .ref ad])), (hm, .inr (2, [.ref bm, .int umL])), (bm, .inl (cI, 448, .inl fmL)), (aw, .inl (cI, 64, .inl fwL)), (ad, .inl (cI, 8, .inl fdL)), (hB, .inr (2, [.ref bB, .int uBL])), (bB, .inl (cI, 64, .inl fBL)), (hI, .inr (2, [.ref bI, .int uIL])), (bI, .inl (cI, 32, .inl fIL))] H := hP
        have hD : va_D A [(qs, .inr (3, [.ref qi, .ref qo, .ref qd, .ref qk, .ref qv, .ref qf, .ref qa, .ref gh, .ref hk, .int (nI kc), .int ivl, .int drw])), (qd, .inr (2, [.ref bd, .int (nI (32 * q))])), (bd, .inl (cI, 400, .inl (sm_ap fD 0 (sm_dr fk fv) (32 * q)))), (qk, .inr (2, [.ref bk, .int (nI 32)])), (bk, .inl (cI, 32, .inl fk)), (qv, .inr (2, [.ref bv, .int (nI 32)])), (bv, .inl (cI, 32, .inl (sm_vs fk fv q))), (qf, .inr (2, [.ref bf, .int gu])), (bf, .inl (cI, 32, .inl gf)), (hk, .inr (1, [.ref hh, .ref hB, .ref hI])), (hh, .inr (0, [.ref hm, .ref aw, .ref ad])), (hm, .inr (2, [.ref bm, .int umL])), (bm, .inl (cI, 448, .inl fmL)), (aw, .inl (cI, 64, .inl fwL)), (ad, .inl (cI, 8, .inl fdL)), (hB, .inr (2, [.ref bB, .int uBL])), (bB, .inl (cI, 64, .inl fBL)), (hI, .inr (2, [.ref bI, .int uIL])), (bI, .inl (cI, 32, .inl fIL))] := hD
        refine lv_aload_n hx hb dX3_fillDrawn_14 rfl (lv_at hl 1 rfl) ?_
        refine sm_callVv (wc := [(qs, .inr (3, [.ref qi, .ref qo, .ref qd, .ref qk, .ref qv, .ref qf, .ref qa, .ref gh, .ref hk, .int (nI kc), .int ivl, .int drw])), (qk, .inr (2, [.ref bk, .int (nI 32)])), (bk, .inl (cI, 32, .inl fk)), (qv, .inr (2, [.ref bv, .int (nI 32)])), (bv, .inl (cI, 32, .inl (sm_vs fk fv q))), (qf, .inr (2, [.ref bf, .int gu])), (bf, .inl (cI, 32, .inl gf)), (hk, .inr (1, [.ref hh, .ref hB, .ref hI])), (hh, .inr (0, [.ref hm, .ref aw, .ref ad])), (hm, .inr (2, [.ref bm, .int umL])), (bm, .inl (cI, 448, .inl fmL)), (aw, .inl (cI, 64, .inl fwL)), (ad, .inl (cI, 8, .inl fdL)), (hB, .inr (2, [.ref bB, .int uBL])), (bB, .inl (cI, 64, .inl fBL)), (hI, .inr (2, [.ref bI, .int uIL])), (bI, .inl (cI, 32, .inl fIL))]) (wr := [(qd, .inr (2, [.ref bd, .int (nI (32 * q))])), (bd, .inl (cI, 400, .inl (sm_ap fD 0 (sm_dr fk fv) (32 * q))))]) (As := []) (rest := []) ⟨hx, hb, hml, hown, hts⟩ (sc_X3_renewValue l D cI tk tf _ qs qi bi qo bo qd bd qk bk qv bv qf bf qa ba gh gm gb gw gd hk hh hm bm aw ad hB bB hI bI (nI kc) ivl drw fk (sm_vs fk fv q) gf gu fmL umL fwL fdL fBL uBL fIL uIL ) (cwV 0 hts gX3_fillDrawn_X3_renewValue rfl rfl rfl (by decide +kernel) ⟨Nat.le_of_ble_eq_true rfl, Nat.le_of_ble_eq_true rfl⟩) hP hD hS hA hK hT [0, 3, 4, 5, 6, 7, 8, 9, 10, 11, 12, 13, 14, 15, 16, 17, 18] [1, 2] rfl rfl rfl rfl (by decide) 0 3 rfl rfl rfl rfl hl.1 rfl (Nat.le_of_ble_eq_true rfl) dX3_fillDrawn_15 ⟨Nat.zero_le _, Nat.zero_le _⟩ (fun zt H1 locs ht hvm hB hJ hS => ?_)
        obtain ⟨fmM, umM, fwM, fdM, fBM, uBM, fIM, uIM, hP1, -, hD1⟩ := hB
        rw [ht] at hP1
        obtain ⟨hP, hD⟩ := hJ _ hP1 hD1
        clear hJ
        generalize H1 = H at hP hS ⊢
        have hP : va_P D vwCl [(qs, .inr (3, [.ref qi, .ref qo, .ref qd, .ref qk, .ref qv, .ref qf, .ref qa, .ref gh, .ref hk, .int (nI kc), .int ivl, .int drw])), (qd, .inr (2, [.ref bd, .int (nI (32 * q))])), (bd, .inl (cI, 400, .inl (sm_ap fD 0 (sm_dr fk fv) (32 * q)))), (qk, .inr (2, [.ref bk, .int (nI 32)])), (bk, .inl (cI, 32, .inl fk)), (qv, .inr (2, [.ref bv, .int (nI 32)])), (bv, .inl (cI, 32, .inl (sm_vs fk fv (q + 1)))), (qf, .inr (2, [.ref bf, .int (nI 32)])), (bf, .inl (cI, 32, .inl (sm_vs fk fv q))), (hk, .inr (1, [.ref hh, .ref hB, .ref hI])), (hh, .inr (0, [.ref hm, .ref aw, .ref ad])), (hm, .inr (2, [.ref bm, .int umM])), (bm, .inl (cI, 448, .inl fmM)), (aw, .inl (cI, 64, .inl fwM)), (ad, .inl (cI, 8, .inl fdM)), (hB, .inr (2, [.ref bB, .int uBM])), (bB, .inl (cI, 64, .inl fBM)), (hI, .inr (2, [.ref bI, .int uIM])), (bI, .inl (cI, 32, .inl fIM))] H := hP.sub [2, 0, 1, 3, 4, 5, 6, 7, 8, 9, 10, 11, 12, 13, 14, 15, 16, 17, 18] rfl
        have hD : va_D A [(qs, .inr (3, [.ref qi, .ref qo, .ref qd, .ref qk, .ref qv, .ref qf, .ref qa, .ref gh, .ref hk, .int (nI kc), .int ivl, .int drw])), (qd, .inr (2, [.ref bd, .int (nI (32 * q))])), (bd, .inl (cI, 400, .inl (sm_ap fD 0 (sm_dr fk fv) (32 * q)))), (qk, .inr (2, [.ref bk, .int (nI 32)])), (bk, .inl (cI, 32, .inl fk)), (qv, .inr (2, [.ref bv, .int (nI 32)])), (bv, .inl (cI, 32, .inl (sm_vs fk fv (q + 1)))), (qf, .inr (2, [.ref bf, .int (nI 32)])), (bf, .inl (cI, 32, .inl (sm_vs fk fv q))), (hk, .inr (1, [.ref hh, .ref hB, .ref hI])), (hh, .inr (0, [.ref hm, .ref aw, .ref ad])), (hm, .inr (2, [.ref bm, .int umM])), (bm, .inl (cI, 448, .inl fmM)), (aw, .inl (cI, 64, .inl fwM)), (ad, .inl (cI, 8, .inl fdM)), (hB, .inr (2, [.ref bB, .int uBM])), (bB, .inl (cI, 64, .inl fBM)), (hI, .inr (2, [.ref bI, .int uIM])), (bI, .inl (cI, 32, .inl fIM))] := hD.sub [2, 0, 1, 3, 4, 5, 6, 7, 8, 9, 10, 11, 12, 13, 14, 15, 16, 17, 18] rfl rfl
        refine lv_aload_n hx hb dX3_fillDrawn_18 rfl (lv_at hl 1 rfl) ?_
        refine va_get (D := D) (ci := 3) (v := .ref qd) (C := RX3) (T := TX3) (N := 12) hx hb hts hw_X3 hown hK hP 0 rfl rfl 2 (by decide) hf_21 (fun _ h9 => h9) rfl dX3_fillDrawn_19 ?_
        refine lv_aload_n hx hb dX3_fillDrawn_22 rfl (lv_at hl 1 rfl) ?_
        refine va_get (D := D) (ci := 3) (v := .ref qv) (C := RX3) (T := TX3) (N := 12) hx hb hts hw_X3 hown hK hP 0 rfl rfl 4 (by decide) hf_27 (fun _ h9 => h9) rfl dX3_fillDrawn_23 ?_
        refine lv_bipush (v := 32) hx hb dX3_fillDrawn_26 (by decide) ?_
        refine lv_iload_n hx hb dX3_fillDrawn_28 rfl (lv_at hl 2 rfl) ?_
        refine lv_iload_n hx hb dX3_fillDrawn_29 rfl (lv_at hl 0 rfl) ?_
        refine lv_isub hx hb dX3_fillDrawn_30 ?_
        refine sm_top (z := nI (n - 32 * q)) (pk_sub (by omega)) ?_
        refine va_mmin hx hb (hml.trans hl.1.symm) hown (hts (.methodLink RX3 115 Lib.Math.min.name) (by decide +kernel)) (hts (.static Lib.Math.min.name) (by decide +kernel)) (hts (.initialized "java/lang/Math") (by decide +kernel)) (hts (.code Lib.Math.min.name Lib.Math.min.code 2 (some .int)) (by decide +kernel)) (Nat.le_of_ble_eq_true rfl) (Nat.le_of_ble_eq_true rfl) (Nat.zero_le _) (Nat.zero_le _) dX3_fillDrawn_31 ?_
        refine sm_top (z := nI (min 32 (n - 32 * q))) (sm_min (a := 32) (by decide) (by omega)) ?_
        refine sm_callVv (wc := [(qd, .inr (2, [.ref bd, .int (nI (32 * q))])), (bd, .inl (cI, 400, .inl (sm_ap fD 0 (sm_dr fk fv) (32 * q)))), (qv, .inr (2, [.ref bv, .int (nI 32)])), (bv, .inl (cI, 32, .inl (sm_vs fk fv (q + 1))))]) (wr := [(qs, .inr (3, [.ref qi, .ref qo, .ref qd, .ref qk, .ref qv, .ref qf, .ref qa, .ref gh, .ref hk, .int (nI kc), .int ivl, .int drw])), (qk, .inr (2, [.ref bk, .int (nI 32)])), (bk, .inl (cI, 32, .inl fk)), (qf, .inr (2, [.ref bf, .int (nI 32)])), (bf, .inl (cI, 32, .inl (sm_vs fk fv q))), (hk, .inr (1, [.ref hh, .ref hB, .ref hI])), (hh, .inr (0, [.ref hm, .ref aw, .ref ad])), (hm, .inr (2, [.ref bm, .int umM])), (bm, .inl (cI, 448, .inl fmM)), (aw, .inl (cI, 64, .inl fwM)), (ad, .inl (cI, 8, .inl fdM)), (hB, .inr (2, [.ref bB, .int uBM])), (bB, .inl (cI, 64, .inl fBM)), (hI, .inr (2, [.ref bI, .int uIM])), (bI, .inl (cI, 32, .inl fIM))]) (As := [.ref qv, .int (nI (min 32 (n - 32 * q)))]) (rest := []) ⟨hx, hb, hml, hown, hts⟩ (sc_X2_append l D cI (some (tk, tf)) _ qd bd 400 (32 * q) qv bv 32 32 (min 32 (n - 32 * q)) (sm_ap fD 0 (sm_dr fk fv) (32 * q)) (sm_vs fk fv (q + 1)) (by omega) (by decide) (by decide) (by decide) (by omega)) (cwV 2 hts gX3_fillDrawn_X2_append rfl rfl rfl (by decide +kernel) ⟨Nat.le_of_ble_eq_true rfl, Nat.le_of_ble_eq_true rfl⟩) hP hD hS hA hK hT [1, 2, 5, 6] [0, 3, 4, 7, 8, 9, 10, 11, 12, 13, 14, 15, 16, 17, 18] rfl rfl rfl rfl (by decide) 0 2 rfl rfl rfl rfl hl.1 rfl (Nat.le_of_ble_eq_true rfl) dX3_fillDrawn_34 ⟨Nat.zero_le _, Nat.zero_le _⟩ (fun zt H1 locs ht hvm hB hJ hS => ?_)
        obtain ⟨hP1, -, hD1⟩ := hB
        rw [ht] at hP1
        obtain ⟨hP, hD⟩ := hJ _ hP1 hD1
        clear hJ
        generalize H1 = H at hP hS ⊢
        have hP : va_P D vwCl [(qs, .inr (3, [.ref qi, .ref qo, .ref qd, .ref qk, .ref qv, .ref qf, .ref qa, .ref gh, .ref hk, .int (nI kc), .int ivl, .int drw])), (qd, .inr (2, [.ref bd, .int (nI ((32 * q) + min (min 32 (n - 32 * q)) 32))])), (bd, .inl (cI, 400, .inl (sm_ap (sm_ap fD 0 (sm_dr fk fv) (32 * q)) (32 * q) (sm_vs fk fv (q + 1)) (min (min 32 (n - 32 * q)) 32)))), (qk, .inr (2, [.ref bk, .int (nI 32)])), (bk, .inl (cI, 32, .inl fk)), (qv, .inr (2, [.ref bv, .int (nI 32)])), (bv, .inl (cI, 32, .inl (sm_vs fk fv (q + 1)))), (qf, .inr (2, [.ref bf, .int (nI 32)])), (bf, .inl (cI, 32, .inl (sm_vs fk fv q))), (hk, .inr (1, [.ref hh, .ref hB, .ref hI])), (hh, .inr (0, [.ref hm, .ref aw, .ref ad])), (hm, .inr (2, [.ref bm, .int umM])), (bm, .inl (cI, 448, .inl fmM)), (aw, .inl (cI, 64, .inl fwM)), (ad, .inl (cI, 8, .inl fdM)), (hB, .inr (2, [.ref bB, .int uBM])), (bB, .inl (cI, 64, .inl fBM)), (hI, .inr (2, [.ref bI, .int uIM])), (bI, .inl (cI, 32, .inl fIM))] H := hP.sub [0, 15, 16, 1, 2, 17, 18, 3, 4, 5, 6, 7, 8, 9, 10, 11, 12, 13, 14] rfl
        have hD : va_D A [(qs, .inr (3, [.ref qi, .ref qo, .ref qd, .ref qk, .ref qv, .ref qf, .ref qa, .ref gh, .ref hk, .int (nI kc), .int ivl, .int drw])), (qd, .inr (2, [.ref bd, .int (nI ((32 * q) + min (min 32 (n - 32 * q)) 32))])), (bd, .inl (cI, 400, .inl (sm_ap (sm_ap fD 0 (sm_dr fk fv) (32 * q)) (32 * q) (sm_vs fk fv (q + 1)) (min (min 32 (n - 32 * q)) 32)))), (qk, .inr (2, [.ref bk, .int (nI 32)])), (bk, .inl (cI, 32, .inl fk)), (qv, .inr (2, [.ref bv, .int (nI 32)])), (bv, .inl (cI, 32, .inl (sm_vs fk fv (q + 1)))), (qf, .inr (2, [.ref bf, .int (nI 32)])), (bf, .inl (cI, 32, .inl (sm_vs fk fv q))), (hk, .inr (1, [.ref hh, .ref hB, .ref hI])), (hh, .inr (0, [.ref hm, .ref aw, .ref ad])), (hm, .inr (2, [.ref bm, .int umM])), (bm, .inl (cI, 448, .inl fmM)), (aw, .inl (cI, 64, .inl fwM)), (ad, .inl (cI, 8, .inl fdM)), (hB, .inr (2, [.ref bB, .int uBM])), (bB, .inl (cI, 64, .inl fBM)), (hI, .inr (2, [.ref bI, .int uIM])), (bI, .inl (cI, 32, .inl fIM))] := hD.sub [0, 15, 16, 1, 2, 17, 18, 3, 4, 5, 6, 7, 8, 9, 10, 11, 12, 13, 14] rfl rfl
        refine lv_iinc (v := nI (32 * (q + 1))) (lv' := [(2, .int (nI (32 * (q + 1)))), (0, .ref qs), (1, .int (nI n))]) hx hb dX3_fillDrawn_37 hl (k := 0) rfl (nI_add (32 * q) 32) (by decide) rfl (fun ls hl => ?_)
        refine lv_goto (tgt := 9) hx hb dX3_fillDrawn_40 (by decide) ?_
        rw [sm_dr_s (by omega), show 32 * q + min (min 32 (n - 32 * q)) 32 = min (32 * (q + 1)) n by omega] at hP hD
        exact ih (q + 1) _ _ _ _ _ _ _ _ _ _ _ _ _ (by omega) (by omega) hP hD hS (lv_sub hl [0, 1, 2] rfl)
  exact lp9 _ 0 ff uf fm um fw fd fB uB fI uI _ _ _ (Nat.lt_succ_self _) (by omega) (by rw [show min (32 * 0) n = 0 by omega, sm_ap_0]; exact hP) (by rw [show min (32 * 0) n = 0 by omega, sm_ap_0]; exact hD) hS (lv_sub hl [0, 1, 2] rfl)
