def rm_X4_feed_no : Room := ({ frames := 0, cells := 0, slots := 0, locals := 0 } : Room)
set_option maxHeartbeats 4000000 in
set_option maxRecDepth 100000 in
/-- feed: nothing is done -/
theorem sc_X4_feed_no (l : Launch) (D : va_G) (cI : ClassId) (th : Option (Nat × Nat)) (sz : Nat) (zm zrt zfi zsu zwo zro zdi zpa zin zow zke zva zle zdr : Nat) (flt is_ os_ sd ct iv dw ds : Int32) (x : Int64) (k : Int32) (ni : Nat) (hni : ni ≤ 300) (hno : ¬ ∃ n, sm_fok k ni n) : Met l yX4_feed wsX4_feed rm_X4_feed_no (va_Pc [.ref zm, .long x, .int k] (sm_PW D cI th [(zm, .inr (4, [.int flt, .ref zrt, .ref zfi, .ref zsu, .ref zwo, .ref zro, .int (nI 0), .ref zdi, .ref zpa, .ref zin, .int (nI ni), .ref zow, .int os_, .int sd, .ref zke, .ref zva, .ref zle, .int ct, .int iv, .int dw, .ref zdr, .int ds]))] sz)) (va_Qi (fun (r : Int32) (_ : Unit) => r = -1) (fun _ t => sm_QW D cI (va_A [(zm, .inr (4, [.int flt, .ref zrt, .ref zfi, .ref zsu, .ref zwo, .ref zro, .int (nI 0), .ref zdi, .ref zpa, .ref zin, .int (nI ni), .ref zow, .int os_, .int sd, .ref zke, .ref zva, .ref zle, .int ct, .int iv, .int dw, .ref zdr, .int ds]))] sz) [(zm, .inr (4, [.int flt, .ref zrt, .ref zfi, .ref zsu, .ref zwo, .ref zro, .int (nI 0), .ref zdi, .ref zpa, .ref zin, .int (nI ni), .ref zow, .int os_, .int sd, .ref zke, .ref zva, .ref zle, .int ct, .int iv, .int dw, .ref zdr, .int ds]))] t) (va_A [(zm, .inr (4, [.int flt, .ref zrt, .ref zfi, .ref zsu, .ref zwo, .ref zro, .int (nI 0), .ref zdi, .ref zpa, .ref zin, .int (nI ni), .ref zow, .int os_, .int sd, .ref zke, .ref zva, .ref zle, .int ct, .int iv, .int dw, .ref zdr, .int ds]))] sz)) 0 0 (va_A [(zm, .inr (4, [.int flt, .ref zrt, .ref zfi, .ref zsu, .ref zwo, .ref zro, .int (nI 0), .ref zdi, .ref zpa, .ref zin, .int (nI ni), .ref zow, .int os_, .int sd, .ref zke, .ref zva, .ref zle, .int ct, .int iv, .int dw, .ref zdr, .int ds]))] sz) := by
  refine Met.ofW (cc := cX4_feed) (maxL := 5) (ret := (some .int)) (by decide) rfl ?_
  intro p e s m args below meth c s₁ B hml hv
  obtain ⟨rfl, hsz, hP, hK, hD0, hT⟩ := hv
  have hx := B.exec
  have hb := B.bytes
  have hr := B.returns
  have hts := atoms_spec (ws := wsX4_feed) B.pre
  have hown : s.vm.findClass RX4 = some m.cls := findClass_of_methodNamed B.named
  have hlocks := B.notSynchronized
  subst hsz
  have hD := hD0.self (sz := s.heap.size)
  generalize hAe : va_A [(zm, .inr (4, [.int flt, .ref zrt, .ref zfi, .ref zsu, .ref zwo, .ref zro, .int (nI 0), .ref zdi, .ref zpa, .ref zin, .int (nI ni), .ref zow, .int os_, .int sd, .ref zke, .ref zva, .ref zle, .int ct, .int iv, .int dw, .ref zdr, .int ds]))] s.heap.size = A at hD hT ⊢
  have hA : ∀ q : Nat, s.heap.size ≤ q → A q := fun q h => by rw [← hAe]; exact Or.inr h
  have hS : va_S A s.heap s.heap [] := va_S.rf
  have hl := lv_entry ([.ref zm, .long x, .int k]) (n := 5) (Nat.le_of_ble_eq_true rfl)
  rw [lg_entry_eq]
  generalize (lg_sl ([.ref zm, .long x, .int k]) ++ List.replicate (5 - (lg_sl ([.ref zm, .long x, .int k])).length) Slot.unset).toArray = ls at hl ⊢
  have hl : lv_has ls 5 [(0, .ref zm), (1, .long x), (3, .int k)] := hl
  refine sm_name (fun Q hQ => ?_)
  have hf_154 := hts (.fieldLink RX4 154 "SeedMillModel" "inputSize" "I") (by decide +kernel)
  have hw_X4 : ∀ w ∈ wsX40, w ∈ wsX4_feed := by decide +kernel
  have hf_103 := hts (.fieldLink RX4 103 "SeedMillModel" "input" "[I") (by decide +kernel)
  refine lv_iload_n hx hb dX4_feed_0 rfl (lv_at hl 2 rfl) ?_
  refine lv_iconst (v := 1) hx hb dX4_feed_1 (by decide) ?_
  refine lv_icmp_lt (tgt := 23) hx hb dX4_feed_2 (by decide) (fun c_2 => ?_) (fun c_2 => ?_)
  ·
    refine lv_iconst (v := (-1)) hx hb dX4_feed_23 (by decide) ?_
    rw [hQ]
    have hP9 : va_P D vwCl [(zm, .inr (4, [.int flt, .ref zrt, .ref zfi, .ref zsu, .ref zwo, .ref zro, .int (nI 0), .ref zdi, .ref zpa, .ref zin, .int (nI ni), .ref zow, .int os_, .int sd, .ref zke, .ref zva, .ref zle, .int ct, .int iv, .int dw, .ref zdr, .int ds]))] s.heap := hP
    have hD9 : va_D A [(zm, .inr (4, [.int flt, .ref zrt, .ref zfi, .ref zsu, .ref zwo, .ref zro, .int (nI 0), .ref zdi, .ref zpa, .ref zin, .int (nI ni), .ref zow, .int os_, .int sd, .ref zke, .ref zva, .ref zle, .int ct, .int iv, .int dw, .ref zdr, .int ds]))] := hD
    exact W.iret (v := (-1)) hx hb hr (fun t ht hW => ⟨⟨(-1), (), rfl, rfl, ⟨by rw [ht]; exact hP9, va_K.moved hW.alike hK, hD9⟩⟩, hS.F ht⟩) hS.2.2 dX4_feed_24
  ·
    refine lv_iload_n hx hb dX4_feed_5 rfl (lv_at hl 2 rfl) ?_
    refine lv_bipush (v := 8) hx hb dX4_feed_6 (by decide) ?_
    refine lv_icmp_gt (tgt := 23) hx hb dX4_feed_8 (by decide) (fun c_8 => ?_) (fun c_8 => ?_)
    ·
      refine lv_iconst (v := (-1)) hx hb dX4_feed_23 (by decide) ?_
      rw [hQ]
      have hP9 : va_P D vwCl [(zm, .inr (4, [.int flt, .ref zrt, .ref zfi, .ref zsu, .ref zwo, .ref zro, .int (nI 0), .ref zdi, .ref zpa, .ref zin, .int (nI ni), .ref zow, .int os_, .int sd, .ref zke, .ref zva, .ref zle, .int ct, .int iv, .int dw, .ref zdr, .int ds]))] s.heap := hP
      have hD9 : va_D A [(zm, .inr (4, [.int flt, .ref zrt, .ref zfi, .ref zsu, .ref zwo, .ref zro, .int (nI 0), .ref zdi, .ref zpa, .ref zin, .int (nI ni), .ref zow, .int os_, .int sd, .ref zke, .ref zva, .ref zle, .int ct, .int iv, .int dw, .ref zdr, .int ds]))] := hD
      exact W.iret (v := (-1)) hx hb hr (fun t ht hW => ⟨⟨(-1), (), rfl, rfl, ⟨by rw [ht]; exact hP9, va_K.moved hW.alike hK, hD9⟩⟩, hS.F ht⟩) hS.2.2 dX4_feed_24
    ·
      refine lv_aload_n hx hb dX4_feed_11 rfl (lv_at hl 0 rfl) ?_
      refine va_get (D := D) (ci := 4) (v := .int (nI ni)) (C := RX4) (T := TX4) (N := 22) hx hb hts hw_X4 hown hK hP 0 rfl rfl 10 (by decide) hf_154 (fun _ h9 => h9) rfl dX4_feed_12 ?_
      refine lv_iload_n hx hb dX4_feed_15 rfl (lv_at hl 2 rfl) ?_
      refine lv_iadd hx hb dX4_feed_16 ?_
      refine lv_sipush (v := 300) hx hb dX4_feed_17 (by decide) ?_
      refine lv_icmp_le (tgt := 25) hx hb dX4_feed_20 (by decide) (fun c_20 => ?_) (fun c_20 => ?_)
      ·
        exact absurd (sm_fok_of c_2 c_8 c_20 hni) hno
      ·
        refine lv_iconst (v := (-1)) hx hb dX4_feed_23 (by decide) ?_
        rw [hQ]
        have hP9 : va_P D vwCl [(zm, .inr (4, [.int flt, .ref zrt, .ref zfi, .ref zsu, .ref zwo, .ref zro, .int (nI 0), .ref zdi, .ref zpa, .ref zin, .int (nI ni), .ref zow, .int os_, .int sd, .ref zke, .ref zva, .ref zle, .int ct, .int iv, .int dw, .ref zdr, .int ds]))] s.heap := hP
        have hD9 : va_D A [(zm, .inr (4, [.int flt, .ref zrt, .ref zfi, .ref zsu, .ref zwo, .ref zro, .int (nI 0), .ref zdi, .ref zpa, .ref zin, .int (nI ni), .ref zow, .int os_, .int sd, .ref zke, .ref zva, .ref zle, .int ct, .int iv, .int dw, .ref zdr, .int ds]))] := hD
        exact W.iret (v := (-1)) hx hb hr (fun t ht hW => ⟨⟨(-1), (), rfl, rfl, ⟨by rw [ht]; exact hP9, va_K.moved hW.alike hK, hD9⟩⟩, hS.F ht⟩) hS.2.2 dX4_feed_24

def rm_X4_feed_ok : Room := ({ frames := 0, cells := 0, slots := 0, locals := 0 } : Room)
set_option maxHeartbeats 4000000 in
set_option maxRecDepth 100000 in
/-- feed: n bytes come -/
theorem sc_X4_feed_ok (l : Launch) (D : va_G) (cI : ClassId) (th : Option (Nat × Nat)) (sz : Nat) (zm zrt zfi zsu zwo zro zdi zpa zin zow zke zva zle zdr : Nat) (flt is_ os_ sd ct iv dw ds : Int32) (x : Int64) (n ni : Nat) (gi : Nat → Int32) (hn1 : 1 ≤ n) (hn8 : n ≤ 8) (hni : ni + n ≤ 300) : Met l yX4_feed wsX4_feed rm_X4_feed_ok (va_Pc [.ref zm, .long x, .int (nI n)] (sm_PW D cI th [(zm, .inr (4, [.int flt, .ref zrt, .ref zfi, .ref zsu, .ref zwo, .ref zro, .int (nI 0), .ref zdi, .ref zpa, .ref zin, .int (nI ni), .ref zow, .int os_, .int sd, .ref zke, .ref zva, .ref zle, .int ct, .int iv, .int dw, .ref zdr, .int ds])), (zin, .inl (cI, 300, .inl gi))] sz)) (va_Qi (fun (r : Int32) (_ : Unit) => r = nI (ni + n)) (fun _ t => sm_QW D cI (va_A [(zm, .inr (4, [.int flt, .ref zrt, .ref zfi, .ref zsu, .ref zwo, .ref zro, .int (nI 0), .ref zdi, .ref zpa, .ref zin, .int (nI ni), .ref zow, .int os_, .int sd, .ref zke, .ref zva, .ref zle, .int ct, .int iv, .int dw, .ref zdr, .int ds])), (zin, .inl (cI, 300, .inl gi))] sz) [(zm, .inr (4, [.int flt, .ref zrt, .ref zfi, .ref zsu, .ref zwo, .ref zro, .int (nI 0), .ref zdi, .ref zpa, .ref zin, .int (nI (ni + n)), .ref zow, .int os_, .int sd, .ref zke, .ref zva, .ref zle, .int ct, .int iv, .int dw, .ref zdr, .int ds])), (zin, .inl (cI, 300, .inl (sm_ap gi ni (sm_fb x n) n)))] t) (va_A [(zm, .inr (4, [.int flt, .ref zrt, .ref zfi, .ref zsu, .ref zwo, .ref zro, .int (nI 0), .ref zdi, .ref zpa, .ref zin, .int (nI ni), .ref zow, .int os_, .int sd, .ref zke, .ref zva, .ref zle, .int ct, .int iv, .int dw, .ref zdr, .int ds])), (zin, .inl (cI, 300, .inl gi))] sz)) 0 0 (va_A [(zm, .inr (4, [.int flt, .ref zrt, .ref zfi, .ref zsu, .ref zwo, .ref zro, .int (nI 0), .ref zdi, .ref zpa, .ref zin, .int (nI ni), .ref zow, .int os_, .int sd, .ref zke, .ref zva, .ref zle, .int ct, .int iv, .int dw, .ref zdr, .int ds])), (zin, .inl (cI, 300, .inl gi))] sz) := by
  refine Met.ofW (cc := cX4_feed) (maxL := 5) (ret := (some .int)) (by decide) rfl ?_
  intro p e s m args below meth c s₁ B hml hv
  obtain ⟨rfl, hsz, hP, hK, hD0, hT⟩ := hv
  have hx := B.exec
  have hb := B.bytes
  have hr := B.returns
  have hts := atoms_spec (ws := wsX4_feed) B.pre
  have hown : s.vm.findClass RX4 = some m.cls := findClass_of_methodNamed B.named
  have hlocks := B.notSynchronized
  subst hsz
  have hD := hD0.self (sz := s.heap.size)
  generalize hAe : va_A [(zm, .inr (4, [.int flt, .ref zrt, .ref zfi, .ref zsu, .ref zwo, .ref zro, .int (nI 0), .ref zdi, .ref zpa, .ref zin, .int (nI ni), .ref zow, .int os_, .int sd, .ref zke, .ref zva, .ref zle, .int ct, .int iv, .int dw, .ref zdr, .int ds])), (zin, .inl (cI, 300, .inl gi))] s.heap.size = A at hD hT ⊢
  have hA : ∀ q : Nat, s.heap.size ≤ q → A q := fun q h => by rw [← hAe]; exact Or.inr h
  have hS : va_S A s.heap s.heap [] := va_S.rf
  have hl := lv_entry ([.ref zm, .long x, .int (nI n)]) (n := 5) (Nat.le_of_ble_eq_true rfl)
  rw [lg_entry_eq]
  generalize (lg_sl ([.ref zm, .long x, .int (nI n)]) ++ List.replicate (5 - (lg_sl ([.ref zm, .long x, .int (nI n)])).length) Slot.unset).toArray = ls at hl ⊢
  have hl : lv_has ls 5 [(0, .ref zm), (1, .long x), (3, .int (nI n))] := hl
  refine sm_name (fun Q hQ => ?_)
  have hf_154 := hts (.fieldLink RX4 154 "SeedMillModel" "inputSize" "I") (by decide +kernel)
  have hw_X4 : ∀ w ∈ wsX40, w ∈ wsX4_feed := by decide +kernel
  have hf_103 := hts (.fieldLink RX4 103 "SeedMillModel" "input" "[I") (by decide +kernel)
  refine lv_iload_n hx hb dX4_feed_0 rfl (lv_at hl 2 rfl) ?_
  refine lv_iconst (v := 1) hx hb dX4_feed_1 (by decide) ?_
  refine lv_icmp_lt (tgt := 23) hx hb dX4_feed_2 (by decide) (fun c_2 => ?_) (fun c_2 => ?_)
  ·
    exact absurd c_2 (nI_nlt (b := 1) hn1 (by omega))
  ·
    refine lv_iload_n hx hb dX4_feed_5 rfl (lv_at hl 2 rfl) ?_
    refine lv_bipush (v := 8) hx hb dX4_feed_6 (by decide) ?_
    refine lv_icmp_gt (tgt := 23) hx hb dX4_feed_8 (by decide) (fun c_8 => ?_) (fun c_8 => ?_)
    ·
      exact absurd c_8 (nI_nlt (a := 8) (b := n) hn8 (by decide))
    ·
      refine lv_aload_n hx hb dX4_feed_11 rfl (lv_at hl 0 rfl) ?_
      refine va_get (D := D) (ci := 4) (v := .int (nI ni)) (C := RX4) (T := TX4) (N := 22) hx hb hts hw_X4 hown hK hP 0 rfl rfl 10 (by decide) hf_154 (fun _ h9 => h9) rfl dX4_feed_12 ?_
      refine lv_iload_n hx hb dX4_feed_15 rfl (lv_at hl 2 rfl) ?_
      refine lv_iadd hx hb dX4_feed_16 ?_
      refine lv_sipush (v := 300) hx hb dX4_feed_17 (by decide) ?_
      refine lv_icmp_le (tgt := 25) hx hb dX4_feed_20 (by decide) (fun c_20 => ?_) (fun c_20 => ?_)
      ·
        refine lv_iload_n hx hb dX4_feed_25 rfl (lv_at hl 2 rfl) ?_
        refine lv_iconst (v := 1) hx hb dX4_feed_26 (by decide) ?_
        refine lv_isub hx hb dX4_feed_27 ?_
        refine lv_istore (lv' := [(4, .int ((nI n) - 1)), (0, .ref zm), (1, .long x), (3, .int (nI n))]) hx hb dX4_feed_28 hl (by decide) rfl (fun ls hl => ?_)
        have lp30 : ∀ (zn : Nat) (i : Nat) (H : Heap) (locs : List Loc) (ls : Array Slot), n - i < zn → i ≤ n → va_P D vwCl [(zm, .inr (4, [.int flt, .ref zrt, .ref zfi, .ref zsu, .ref zwo, .ref zro, .int (nI 0), .ref zdi, .ref zpa, .ref zin, .int (nI (ni + i)), .ref zow, .int os_, .int sd, .ref zke, .ref zva, .ref zle, .int ct, .int iv, .int dw, .ref zdr, .int ds])), (zin, .inl (cI, 300, .inl (sm_ap gi ni (sm_fb x n) i)))] H → va_D A [(zm, .inr (4, [.int flt, .ref zrt, .ref zfi, .ref zsu, .ref zwo, .ref zro, .int (nI 0), .ref zdi, .ref zpa, .ref zin, .int (nI (ni + i)), .ref zow, .int os_, .int sd, .ref zke, .ref zva, .ref zle, .int ct, .int iv, .int dw, .ref zdr, .int ds])), (zin, .inl (cI, 300, .inl (sm_ap gi ni (sm_fb x n) i)))] → va_S A s.heap H locs → lv_has ls 5 [(4, .int (nI (n - i) - 1)), (0, .ref zm), (1, .long x), (3, .int (nI n))] → W p l e (headSpec wsX4_feed rm_X4_feed_ok).room s m ([.ref zm, .long x, .int (nI n)] : List Value).toArray below meth c H locs 0 0 Q (F0 m 30 ls []) := by
          intro zn
          induction zn with
          | zero => intro i H locs ls hmu; exact absurd hmu (Nat.not_lt_zero _)
          | succ zn ih =>
            intro i H locs ls hmu hi1 hP hD hS hl
            refine lv_iload hx hb dX4_feed_30 (lv_at hl 0 rfl) ?_
            refine lv_if_lt (tgt := 72) hx hb dX4_feed_32 (by decide) (fun c_32 => ?_) (fun c_32 => ?_)
            ·
              have hex : i = n := by
                rcases Nat.lt_or_ge i n with q | q
                · rw [sm_pl1 (by omega)] at c_32
                  exact absurd c_32 (nI_pos (by omega))
                · omega
              rw [hex] at hP hD
              have hP : va_P D vwCl [(zm, .inr (4, [.int flt, .ref zrt, .ref zfi, .ref zsu, .ref zwo, .ref zro, .int (nI 0), .ref zdi, .ref zpa, .ref zin, .int (nI (ni + n)), .ref zow, .int os_, .int sd, .ref zke, .ref zva, .ref zle, .int ct, .int iv, .int dw, .ref zdr, .int ds])), (zin, .inl (cI, 300, .inl (sm_ap gi ni (sm_fb x n) n)))] H := hP
              have hD : va_D A [(zm, .inr (4, [.int flt, .ref zrt, .ref zfi, .ref zsu, .ref zwo, .ref zro, .int (nI 0), .ref zdi, .ref zpa, .ref zin, .int (nI (ni + n)), .ref zow, .int os_, .int sd, .ref zke, .ref zva, .ref zle, .int ct, .int iv, .int dw, .ref zdr, .int ds])), (zin, .inl (cI, 300, .inl (sm_ap gi ni (sm_fb x n) n)))] := hD
              refine lv_aload_n hx hb dX4_feed_72 rfl (lv_at hl 1 rfl) ?_
              refine va_get (D := D) (ci := 4) (v := .int (nI (ni + n))) (C := RX4) (T := TX4) (N := 22) hx hb hts hw_X4 hown hK hP 0 rfl rfl 10 (by decide) hf_154 (fun _ h9 => h9) rfl dX4_feed_73 ?_
              rw [hQ]
              have hP9 : va_P D vwCl [(zm, .inr (4, [.int flt, .ref zrt, .ref zfi, .ref zsu, .ref zwo, .ref zro, .int (nI 0), .ref zdi, .ref zpa, .ref zin, .int (nI (ni + n)), .ref zow, .int os_, .int sd, .ref zke, .ref zva, .ref zle, .int ct, .int iv, .int dw, .ref zdr, .int ds])), (zin, .inl (cI, 300, .inl (sm_ap gi ni (sm_fb x n) n)))] H := hP
              have hD9 : va_D A [(zm, .inr (4, [.int flt, .ref zrt, .ref zfi, .ref zsu, .ref zwo, .ref zro, .int (nI 0), .ref zdi, .ref zpa, .ref zin, .int (nI (ni + n)), .ref zow, .int os_, .int sd, .ref zke, .ref zva, .ref zle, .int ct, .int iv, .int dw, .ref zdr, .int ds])), (zin, .inl (cI, 300, .inl (sm_ap gi ni (sm_fb x n) n)))] := hD
              exact W.iret (v := nI (ni + n)) hx hb hr (fun t ht hW => ⟨⟨nI (ni + n), (), rfl, rfl, ⟨by rw [ht]; exact hP9, va_K.moved hW.alike hK, hD9⟩⟩, hS.F ht⟩) hS.2.2 dX4_feed_76
            ·
              have hlt : i < n := by
                rcases Nat.lt_or_ge i n with q | q
                · exact q
                · have e9 : n - i = 0 := by omega
                  rw [e9] at c_32
                  exact absurd (by decide) c_32
              refine lv_aload_n hx hb dX4_feed_35 rfl (lv_at hl 1 rfl) ?_
              refine va_get (D := D) (ci := 4) (v := .ref zin) (C := RX4) (T := TX4) (N := 22) hx hb hts hw_X4 hown hK hP 0 rfl rfl 9 (by decide) hf_103 (fun _ h9 => h9) rfl dX4_feed_36 ?_
              refine lv_aload_n hx hb dX4_feed_39 rfl (lv_at hl 1 rfl) ?_
              refine va_get (D := D) (ci := 4) (v := .int (nI (ni + i))) (C := RX4) (T := TX4) (N := 22) hx hb hts hw_X4 hown hK hP 0 rfl rfl 10 (by decide) hf_154 (fun _ h9 => h9) rfl dX4_feed_40 ?_
              refine lv_lload_n hx hb dX4_feed_43 rfl (lv_at hl 2 rfl) ?_
              refine lv_bipush (v := 8) hx hb dX4_feed_44 (by decide) ?_
              refine lv_iload hx hb dX4_feed_46 (lv_at hl 0 rfl) ?_
              refine lv_imul hx hb dX4_feed_48 ?_
              refine sm_top (z := nI (8 * (n - 1 - i))) (by rw [sm_pl1 (by omega), show n - i - 1 = n - 1 - i by omega]; exact pk_mul 8 (n - 1 - i)) ?_
              refine lv_lshr (v := sm_lsr x (nI (8 * (n - 1 - i)))) hx hb dX4_feed_49 rfl ?_
              refine lv_ldc2 hx hb hown (hts (.constantLong RX4 160 (255)) (by decide +kernel)) dX4_feed_50 ?_
              refine lv_land hx hb dX4_feed_53 ?_
              refine lv_l2i (v := Int64.toInt32 ((sm_lsr x (nI (8 * (n - 1 - i)))) &&& 255)) hx hb dX4_feed_54 rfl ?_
              refine sm_top (z := sm_fb x n i) (sm_fe x (by omega)) ?_
              refine va_iast (i := nI (ni + i)) (x := sm_fb x n i) hx hb hK hP hD hS 1 0 rfl rfl (vp_in_nI (n := (ni + i)) (by omega) (by omega)) dX4_feed_55 (fun H locs hP hD hS => ?_)
              rw [show Int32.toNatClampNeg (nI (ni + i)) = (ni + i) from nI_clamp (n := (ni + i)) (by omega)] at hP hD
              have hP : va_P D vwCl [(zm, .inr (4, [.int flt, .ref zrt, .ref zfi, .ref zsu, .ref zwo, .ref zro, .int (nI 0), .ref zdi, .ref zpa, .ref zin, .int (nI (ni + i)), .ref zow, .int os_, .int sd, .ref zke, .ref zva, .ref zle, .int ct, .int iv, .int dw, .ref zdr, .int ds])), (zin, .inl (cI, 300, .inl (upd (sm_ap gi ni (sm_fb x n) i) (ni + i) (sm_fb x n i))))] H := hP
              have hD : va_D A [(zm, .inr (4, [.int flt, .ref zrt, .ref zfi, .ref zsu, .ref zwo, .ref zro, .int (nI 0), .ref zdi, .ref zpa, .ref zin, .int (nI (ni + i)), .ref zow, .int os_, .int sd, .ref zke, .ref zva, .ref zle, .int ct, .int iv, .int dw, .ref zdr, .int ds])), (zin, .inl (cI, 300, .inl (upd (sm_ap gi ni (sm_fb x n) i) (ni + i) (sm_fb x n i))))] := hD
              refine lv_aload_n hx hb dX4_feed_56 rfl (lv_at hl 1 rfl) ?_
              refine lv_dup hx hb dX4_feed_57 rfl ?_
              refine va_get (D := D) (ci := 4) (v := .int (nI (ni + i))) (C := RX4) (T := TX4) (N := 22) hx hb hts hw_X4 hown hK hP 0 rfl rfl 10 (by decide) hf_154 (fun _ h9 => h9) rfl dX4_feed_58 ?_
              refine lv_iconst (v := 1) hx hb dX4_feed_61 (by decide) ?_
              refine lv_iadd hx hb dX4_feed_62 ?_
              refine va_put (D := D) (ci := 4) (v := .int ((nI (ni + i)) + 1)) (ty := .int) (C := RX4) (T := TX4) (N := 22) hx hb hts hw_X4 tyX4 tyX4_ok nmX4 hown hK hP hD hS 0 rfl rfl 10 (by decide) hf_154 (fun _ h9 => h9) rfl (by decide +kernel) rfl rfl (Nat.le_of_ble_eq_true rfl) dX4_feed_63 (fun H locs hP hD hS => ?_)
              have hP : va_P D vwCl [(zm, .inr (4, [.int flt, .ref zrt, .ref zfi, .ref zsu, .ref zwo, .ref zro, .int (nI 0), .ref zdi, .ref zpa, .ref zin, .int ((nI (ni + i)) + 1), .ref zow, .int os_, .int sd, .ref zke, .ref zva, .ref zle, .int ct, .int iv, .int dw, .ref zdr, .int ds])), (zin, .inl (cI, 300, .inl (upd (sm_ap gi ni (sm_fb x n) i) (ni + i) (sm_fb x n i))))] H := hP
              have hD : va_D A [(zm, .inr (4, [.int flt, .ref zrt, .ref zfi, .ref zsu, .ref zwo, .ref zro, .int (nI 0), .ref zdi, .ref zpa, .ref zin, .int ((nI (ni + i)) + 1), .ref zow, .int os_, .int sd, .ref zke, .ref zva, .ref zle, .int ct, .int iv, .int dw, .ref zdr, .int ds])), (zin, .inl (cI, 300, .inl (upd (sm_ap gi ni (sm_fb x n) i) (ni + i) (sm_fb x n i))))] := hD
              refine lv_iinc (v := nI (n - (i + 1)) - 1) (lv' := [(4, .int (nI (n - (i + 1)) - 1)), (0, .ref zm), (1, .long x), (3, .int (nI n))]) hx hb dX4_feed_66 hl (k := 0) rfl (by rw [show n - i = n - (i + 1) + 1 by omega, nI_succ]; exact sm_dec _) (by decide) rfl (fun ls hl => ?_)
              refine lv_goto (tgt := 30) hx hb dX4_feed_69 (by decide) ?_
              rw [show nI (ni + i) + 1 = nI (ni + (i + 1)) from nI_1 (ni + i), show upd (sm_ap gi ni (sm_fb x n) i) (ni + i) (sm_fb x n i) = _ from sm_ap_s gi ni (sm_fb x n) i] at hP hD
              exact ih (i + 1) _ _ _ (by omega) (by omega) hP hD hS (lv_sub hl [0, 1, 2, 3] rfl)
        exact lp30 _ 0 _ _ _ (Nat.lt_succ_self _) (Nat.zero_le _) (by rw [sm_ap_0]; exact hP) (by rw [sm_ap_0]; exact hD) hS (lv_sub hl [0, 1, 2, 3] rfl)
      ·
        exact absurd (by rw [nI_add]; exact nI_le (b := 300) hni (by decide)) c_20

def rm_X4_clear : Room := ({ frames := 0, cells := 0, slots := 0, locals := 0 } : Room)
set_option maxHeartbeats 4000000 in
set_option maxRecDepth 100000 in
/-- clear -/
theorem sc_X4_clear (l : Launch) (D : va_G) (cI : ClassId) (th : Option (Nat × Nat)) (sz : Nat) (zm zrt zfi zsu zwo zro zdi zpa zin zow zke zva zle zdr : Nat) (flt is_ os_ sd ct iv dw ds : Int32)   : Met l yX4_clear wsX4_clear rm_X4_clear (va_Pc [.ref zm] (sm_PW D cI th [(zm, .inr (4, [.int flt, .ref zrt, .ref zfi, .ref zsu, .ref zwo, .ref zro, .int (nI 0), .ref zdi, .ref zpa, .ref zin, .int is_, .ref zow, .int os_, .int sd, .ref zke, .ref zva, .ref zle, .int ct, .int iv, .int dw, .ref zdr, .int ds]))] sz)) (va_Qi (fun (r : Int32) (_ : Unit) => r = is_) (fun _ t => sm_QW D cI (va_A [(zm, .inr (4, [.int flt, .ref zrt, .ref zfi, .ref zsu, .ref zwo, .ref zro, .int (nI 0), .ref zdi, .ref zpa, .ref zin, .int is_, .ref zow, .int os_, .int sd, .ref zke, .ref zva, .ref zle, .int ct, .int iv, .int dw, .ref zdr, .int ds]))] sz) [(zm, .inr (4, [.int flt, .ref zrt, .ref zfi, .ref zsu, .ref zwo, .ref zro, .int (nI 0), .ref zdi, .ref zpa, .ref zin, .int (nI 0), .ref zow, .int os_, .int sd, .ref zke, .ref zva, .ref zle, .int ct, .int iv, .int dw, .ref zdr, .int ds]))] t) (va_A [(zm, .inr (4, [.int flt, .ref zrt, .ref zfi, .ref zsu, .ref zwo, .ref zro, .int (nI 0), .ref zdi, .ref zpa, .ref zin, .int is_, .ref zow, .int os_, .int sd, .ref zke, .ref zva, .ref zle, .int ct, .int iv, .int dw, .ref zdr, .int ds]))] sz)) 0 0 (va_A [(zm, .inr (4, [.int flt, .ref zrt, .ref zfi, .ref zsu, .ref zwo, .ref zro, .int (nI 0), .ref zdi, .ref zpa, .ref zin, .int is_, .ref zow, .int os_, .int sd, .ref zke, .ref zva, .ref zle, .int ct, .int iv, .int dw, .ref zdr, .int ds]))] sz) := by
  refine Met.ofW (cc := cX4_clear) (maxL := 2) (ret := (some .int)) (by decide) rfl ?_
  intro p e s m args below meth c s₁ B hml hv
  obtain ⟨rfl, hsz, hP, hK, hD0, hT⟩ := hv
  have hx := B.exec
  have hb := B.bytes
  have hr := B.returns
  have hts := atoms_spec (ws := wsX4_clear) B.pre
  have hown : s.vm.findClass RX4 = some m.cls := findClass_of_methodNamed B.named
  have hlocks := B.notSynchronized
  subst hsz
  have hD := hD0.self (sz := s.heap.size)
  generalize hAe : va_A [(zm, .inr (4, [.int flt, .ref zrt, .ref zfi, .ref zsu, .ref zwo, .ref zro, .int (nI 0), .ref zdi, .ref zpa, .ref zin, .int is_, .ref zow, .int os_, .int sd, .ref zke, .ref zva, .ref zle, .int ct, .int iv, .int dw, .ref zdr, .int ds]))] s.heap.size = A at hD hT ⊢
  have hA : ∀ q : Nat, s.heap.size ≤ q → A q := fun q h => by rw [← hAe]; exact Or.inr h
  have hS : va_S A s.heap s.heap [] := va_S.rf
  have hl := lv_entry ([.ref zm]) (n := 2) (Nat.le_of_ble_eq_true rfl)
  rw [lg_entry_eq]
  generalize (lg_sl ([.ref zm]) ++ List.replicate (2 - (lg_sl ([.ref zm])).length) Slot.unset).toArray = ls at hl ⊢
  have hl : lv_has ls 2 [(0, .ref zm)] := hl
  refine sm_name (fun Q hQ => ?_)
  have hf_154 := hts (.fieldLink RX4 154 "SeedMillModel" "inputSize" "I") (by decide +kernel)
  have hw_X4 : ∀ w ∈ wsX40, w ∈ wsX4_clear := by decide +kernel
  refine lv_aload_n hx hb dX4_clear_0 rfl (lv_at hl 0 rfl) ?_
  refine va_get (D := D) (ci := 4) (v := .int is_) (C := RX4) (T := TX4) (N := 22) hx hb hts hw_X4 hown hK hP 0 rfl rfl 10 (by decide) hf_154 (fun _ h9 => h9) rfl dX4_clear_1 ?_
  refine lv_istore_n (lv' := [(1, .int is_), (0, .ref zm)]) hx hb dX4_clear_4 rfl hl (by decide) rfl (fun ls hl => ?_)
  refine lv_aload_n hx hb dX4_clear_5 rfl (lv_at hl 1 rfl) ?_
  refine lv_iconst (v := 0) hx hb dX4_clear_6 (by decide) ?_
  refine va_put (D := D) (ci := 4) (v := .int 0) (ty := .int) (C := RX4) (T := TX4) (N := 22) hx hb hts hw_X4 tyX4 tyX4_ok nmX4 hown hK hP hD hS 0 rfl rfl 10 (by decide) hf_154 (fun _ h9 => h9) rfl (by decide +kernel) rfl rfl (Nat.le_of_ble_eq_true rfl) dX4_clear_7 (fun H locs hP hD hS => ?_)
  have hP : va_P D vwCl [(zm, .inr (4, [.int flt, .ref zrt, .ref zfi, .ref zsu, .ref zwo, .ref zro, .int (nI 0), .ref zdi, .ref zpa, .ref zin, .int 0, .ref zow, .int os_, .int sd, .ref zke, .ref zva, .ref zle, .int ct, .int iv, .int dw, .ref zdr, .int ds]))] H := hP
  have hD : va_D A [(zm, .inr (4, [.int flt, .ref zrt, .ref zfi, .ref zsu, .ref zwo, .ref zro, .int (nI 0), .ref zdi, .ref zpa, .ref zin, .int 0, .ref zow, .int os_, .int sd, .ref zke, .ref zva, .ref zle, .int ct, .int iv, .int dw, .ref zdr, .int ds]))] := hD
  refine lv_iload_n hx hb dX4_clear_10 rfl (lv_at hl 0 rfl) ?_
  rw [hQ]
  have hP9 : va_P D vwCl [(zm, .inr (4, [.int flt, .ref zrt, .ref zfi, .ref zsu, .ref zwo, .ref zro, .int (nI 0), .ref zdi, .ref zpa, .ref zin, .int (nI 0), .ref zow, .int os_, .int sd, .ref zke, .ref zva, .ref zle, .int ct, .int iv, .int dw, .ref zdr, .int ds]))] H := hP
  have hD9 : va_D A [(zm, .inr (4, [.int flt, .ref zrt, .ref zfi, .ref zsu, .ref zwo, .ref zro, .int (nI 0), .ref zdi, .ref zpa, .ref zin, .int (nI 0), .ref zow, .int os_, .int sd, .ref zke, .ref zva, .ref zle, .int ct, .int iv, .int dw, .ref zdr, .int ds]))] := hD
  exact W.iret (v := is_) hx hb hr (fun t ht hW => ⟨⟨is_, (), rfl, rfl, ⟨by rw [ht]; exact hP9, va_K.moved hW.alike hK, hD9⟩⟩, hS.F ht⟩) hS.2.2 dX4_clear_11

def rm_X4_seed_no : Room := ({ frames := 6, cells := 0, slots := 0, locals := 139 } : Room)
set_option maxHeartbeats 4000000 in
set_option maxRecDepth 100000 in
/-- seed without input -/
theorem sc_X4_seed_no (l : Launch) (D : va_G) (cI : ClassId) (th : Option (Nat × Nat)) (sz : Nat) (zm zrt zfi zsu zwo zro zdi zpa zin zow zke zva zle zdr : Nat) (flt is_ os_ sd ct iv dw ds : Int32)   : Met l yX4_seed wsX4_seed rm_X4_seed_no (va_Pc [.ref zm] (sm_PW D cI th [(zm, .inr (4, [.int flt, .ref zrt, .ref zfi, .ref zsu, .ref zwo, .ref zro, .int (nI 0), .ref zdi, .ref zpa, .ref zin, .int (nI 0), .ref zow, .int os_, .int sd, .ref zke, .ref zva, .ref zle, .int ct, .int iv, .int dw, .ref zdr, .int ds]))] sz)) (va_Qi (fun (r : Int32) (_ : Unit) => r = 0) (fun _ t => sm_QW D cI (va_A [(zm, .inr (4, [.int flt, .ref zrt, .ref zfi, .ref zsu, .ref zwo, .ref zro, .int (nI 0), .ref zdi, .ref zpa, .ref zin, .int (nI 0), .ref zow, .int os_, .int sd, .ref zke, .ref zva, .ref zle, .int ct, .int iv, .int dw, .ref zdr, .int ds]))] sz) [(zm, .inr (4, [.int flt, .ref zrt, .ref zfi, .ref zsu, .ref zwo, .ref zro, .int (nI 0), .ref zdi, .ref zpa, .ref zin, .int (nI 0), .ref zow, .int os_, .int sd, .ref zke, .ref zva, .ref zle, .int ct, .int iv, .int dw, .ref zdr, .int ds]))] t) (va_A [(zm, .inr (4, [.int flt, .ref zrt, .ref zfi, .ref zsu, .ref zwo, .ref zro, .int (nI 0), .ref zdi, .ref zpa, .ref zin, .int (nI 0), .ref zow, .int os_, .int sd, .ref zke, .ref zva, .ref zle, .int ct, .int iv, .int dw, .ref zdr, .int ds]))] sz)) 0 0 (va_A [(zm, .inr (4, [.int flt, .ref zrt, .ref zfi, .ref zsu, .ref zwo, .ref zro, .int (nI 0), .ref zdi, .ref zpa, .ref zin, .int (nI 0), .ref zow, .int os_, .int sd, .ref zke, .ref zva, .ref zle, .int ct, .int iv, .int dw, .ref zdr, .int ds]))] sz) := by
  refine Met.ofW (cc := cX4_seed) (maxL := 2) (ret := (some .int)) (by decide) rfl ?_
  intro p e s m args below meth c s₁ B hml hv
  obtain ⟨rfl, hsz, hP, hK, hD0, hT⟩ := hv
  have hx := B.exec
  have hb := B.bytes
  have hr := B.returns
  have hts := atoms_spec (ws := wsX4_seed) B.pre
  have hown : s.vm.findClass RX4 = some m.cls := findClass_of_methodNamed B.named
  have hlocks := B.notSynchronized
  subst hsz
  have hD := hD0.self (sz := s.heap.size)
  generalize hAe : va_A [(zm, .inr (4, [.int flt, .ref zrt, .ref zfi, .ref zsu, .ref zwo, .ref zro, .int (nI 0), .ref zdi, .ref zpa, .ref zin, .int (nI 0), .ref zow, .int os_, .int sd, .ref zke, .ref zva, .ref zle, .int ct, .int iv, .int dw, .ref zdr, .int ds]))] s.heap.size = A at hD hT ⊢
  have hA : ∀ q : Nat, s.heap.size ≤ q → A q := fun q h => by rw [← hAe]; exact Or.inr h
  have hS : va_S A s.heap s.heap [] := va_S.rf
  have hl := lv_entry ([.ref zm]) (n := 2) (Nat.le_of_ble_eq_true rfl)
  rw [lg_entry_eq]
  generalize (lg_sl ([.ref zm]) ++ List.replicate (2 - (lg_sl ([.ref zm])).length) Slot.unset).toArray = ls at hl ⊢
  have hl : lv_has ls 2 [(0, .ref zm)] := hl
  refine sm_name (fun Q hQ => ?_)
  have hf_154 := hts (.fieldLink RX4 154 "SeedMillModel" "inputSize" "I") (by decide +kernel)
  have hw_X4 : ∀ w ∈ wsX40, w ∈ wsX4_seed := by decide +kernel
  have hf_109 := hts (.fieldLink RX4 109 "SeedMillModel" "key" "[I") (by decide +kernel)
  have hf_112 := hts (.fieldLink RX4 112 "SeedMillModel" "value" "[I") (by decide +kernel)
  have hf_165 := hts (.fieldLink RX4 165 "SeedMillModel" "isSeeded" "Z") (by decide +kernel)
  have hf_169 := hts (.fieldLink RX4 169 "SeedMillModel" "counter" "I") (by decide +kernel)
  refine lv_aload_n hx hb dX4_seed_0 rfl (lv_at hl 0 rfl) ?_
  refine va_get (D := D) (ci := 4) (v := .int (nI 0)) (C := RX4) (T := TX4) (N := 22) hx hb hts hw_X4 hown hK hP 0 rfl rfl 10 (by decide) hf_154 (fun _ h9 => h9) rfl dX4_seed_1 ?_
  refine lv_if_ne (tgt := 9) hx hb dX4_seed_4 (by decide) (fun c_4 => ?_) (fun c_4 => ?_)
  ·
    exact absurd c_4 (fun h9 => h9 rfl)
  ·
    refine lv_iconst (v := 0) hx hb dX4_seed_7 (by decide) ?_
    rw [hQ]
    have hP9 : va_P D vwCl [(zm, .inr (4, [.int flt, .ref zrt, .ref zfi, .ref zsu, .ref zwo, .ref zro, .int (nI 0), .ref zdi, .ref zpa, .ref zin, .int (nI 0), .ref zow, .int os_, .int sd, .ref zke, .ref zva, .ref zle, .int ct, .int iv, .int dw, .ref zdr, .int ds]))] s.heap := hP
    have hD9 : va_D A [(zm, .inr (4, [.int flt, .ref zrt, .ref zfi, .ref zsu, .ref zwo, .ref zro, .int (nI 0), .ref zdi, .ref zpa, .ref zin, .int (nI 0), .ref zow, .int os_, .int sd, .ref zke, .ref zva, .ref zle, .int ct, .int iv, .int dw, .ref zdr, .int ds]))] := hD
    exact W.iret (v := 0) hx hb hr (fun t ht hW => ⟨⟨0, (), rfl, rfl, ⟨by rw [ht]; exact hP9, va_K.moved hW.alike hK, hD9⟩⟩, hS.F ht⟩) hS.2.2 dX4_seed_8

def rm_X4_seed_ok : Room := ({ frames := 6, cells := 0, slots := 0, locals := 139 } : Room)
set_option maxHeartbeats 4000000 in
set_option maxRecDepth 100000 in
/-- seed -/
theorem sc_X4_seed_ok (l : Launch) (D : va_G) (cI : ClassId) (th : Option (Nat × Nat)) (sz : Nat) (zm zrt zfi zsu zwo zro zdi zpa zin zow zke zva zle zdr : Nat) (flt is_ os_ sd ct iv dw ds : Int32) (gs gw gr gd gp : Nat → Int32) (ni : Nat) (gi gk gv gl : Nat → Int32) (hn0 : 0 < ni) (hni : ni ≤ 300) (hgi : ∀ j, j < ni → sm_by (gi j)) : Met l yX4_seed wsX4_seed rm_X4_seed_ok (va_Pc [.ref zm] (sm_PW D cI th [(zm, .inr (4, [.int flt, .ref zrt, .ref zfi, .ref zsu, .ref zwo, .ref zro, .int (nI 0), .ref zdi, .ref zpa, .ref zin, .int (nI ni), .ref zow, .int os_, .int sd, .ref zke, .ref zva, .ref zle, .int ct, .int iv, .int dw, .ref zdr, .int ds])), (zrt, .inl (cI, 64, .inl sm_K)), (zfi, .inl (cI, 8, .inl sm_F)), (zsu, .inl (cI, 8, .inl gs)), (zwo, .inl (cI, 64, .inl gw)), (zro, .inl (cI, 512, .inl gr)), (zdi, .inl (cI, 32, .inl gd)), (zpa, .inl (cI, 64, .inl gp)), (zin, .inl (cI, 300, .inl gi)), (zke, .inl (cI, 32, .inl gk)), (zva, .inl (cI, 32, .inl gv)), (zle, .inl (cI, 32, .inl gl))] sz)) (va_Qi (fun (r : Int32) (_ : Unit) => r = 1) (fun _ t => ∃ (gs2 : Nat → Int32) (gw2 : Nat → Int32) (gr2 : Nat → Int32) (gd2 : Nat → Int32) (gp2 : Nat → Int32), sm_QW D cI (va_A [(zm, .inr (4, [.int flt, .ref zrt, .ref zfi, .ref zsu, .ref zwo, .ref zro, .int (nI 0), .ref zdi, .ref zpa, .ref zin, .int (nI ni), .ref zow, .int os_, .int sd, .ref zke, .ref zva, .ref zle, .int ct, .int iv, .int dw, .ref zdr, .int ds])), (zrt, .inl (cI, 64, .inl sm_K)), (zfi, .inl (cI, 8, .inl sm_F)), (zsu, .inl (cI, 8, .inl gs)), (zwo, .inl (cI, 64, .inl gw)), (zro, .inl (cI, 512, .inl gr)), (zdi, .inl (cI, 32, .inl gd)), (zpa, .inl (cI, 64, .inl gp)), (zin, .inl (cI, 300, .inl gi)), (zke, .inl (cI, 32, .inl gk)), (zva, .inl (cI, 32, .inl gv)), (zle, .inl (cI, 32, .inl gl))] sz) [(zm, .inr (4, [.int flt, .ref zrt, .ref zfi, .ref zsu, .ref zwo, .ref zro, .int (nI 0), .ref zdi, .ref zpa, .ref zin, .int (nI 0), .ref zow, .int os_, .int 1, .ref zke, .ref zva, .ref zle, .int (nI 1), .int iv, .int dw, .ref zdr, .int ds])), (zrt, .inl (cI, 64, .inl sm_K)), (zfi, .inl (cI, 8, .inl sm_F)), (zsu, .inl (cI, 8, .inl gs2)), (zwo, .inl (cI, 64, .inl gw2)), (zro, .inl (cI, 512, .inl gr2)), (zdi, .inl (cI, 32, .inl gd2)), (zpa, .inl (cI, 64, .inl gp2)), (zin, .inl (cI, 300, .inl gi)), (zke, .inl (cI, 32, .inl ((sm_stir (fun _ => 0, fun _ => 1) gi ni).1))), (zva, .inl (cI, 32, .inl ((sm_stir (fun _ => 0, fun _ => 1) gi ni).2))), (zle, .inl (cI, 32, .inl ((sm_stir (fun _ => 0, fun _ => 1) gi ni).2)))] t) (va_A [(zm, .inr (4, [.int flt, .ref zrt, .ref zfi, .ref zsu, .ref zwo, .ref zro, .int (nI 0), .ref zdi, .ref zpa, .ref zin, .int (nI ni), .ref zow, .int os_, .int sd, .ref zke, .ref zva, .ref zle, .int ct, .int iv, .int dw, .ref zdr, .int ds])), (zrt, .inl (cI, 64, .inl sm_K)), (zfi, .inl (cI, 8, .inl sm_F)), (zsu, .inl (cI, 8, .inl gs)), (zwo, .inl (cI, 64, .inl gw)), (zro, .inl (cI, 512, .inl gr)), (zdi, .inl (cI, 32, .inl gd)), (zpa, .inl (cI, 64, .inl gp)), (zin, .inl (cI, 300, .inl gi)), (zke, .inl (cI, 32, .inl gk)), (zva, .inl (cI, 32, .inl gv)), (zle, .inl (cI, 32, .inl gl))] sz)) 0 0 (va_A [(zm, .inr (4, [.int flt, .ref zrt, .ref zfi, .ref zsu, .ref zwo, .ref zro, .int (nI 0), .ref zdi, .ref zpa, .ref zin, .int (nI ni), .ref zow, .int os_, .int sd, .ref zke, .ref zva, .ref zle, .int ct, .int iv, .int dw, .ref zdr, .int ds])), (zrt, .inl (cI, 64, .inl sm_K)), (zfi, .inl (cI, 8, .inl sm_F)), (zsu, .inl (cI, 8, .inl gs)), (zwo, .inl (cI, 64, .inl gw)), (zro, .inl (cI, 512, .inl gr)), (zdi, .inl (cI, 32, .inl gd)), (zpa, .inl (cI, 64, .inl gp)), (zin, .inl (cI, 300, .inl gi)), (zke, .inl (cI, 32, .inl gk)), (zva, .inl (cI, 32, .inl gv)), (zle, .inl (cI, 32, .inl gl))] sz) := by
  refine Met.ofW (cc := cX4_seed) (maxL := 2) (ret := (some .int)) (by decide) rfl ?_
  intro p e s m args below meth c s₁ B hml hv
  obtain ⟨rfl, hsz, hP, hK, hD0, hT⟩ := hv
  have hx := B.exec
  have hb := B.bytes
  have hr := B.returns
  have hts := atoms_spec (ws := wsX4_seed) B.pre
  have hown : s.vm.findClass RX4 = some m.cls := findClass_of_methodNamed B.named
  have hlocks := B.notSynchronized
  subst hsz
  have hD := hD0.self (sz := s.heap.size)
  generalize hAe : va_A [(zm, .inr (4, [.int flt, .ref zrt, .ref zfi, .ref zsu, .ref zwo, .ref zro, .int (nI 0), .ref zdi, .ref zpa, .ref zin, .int (nI ni), .ref zow, .int os_, .int sd, .ref zke, .ref zva, .ref zle, .int ct, .int iv, .int dw, .ref zdr, .int ds])), (zrt, .inl (cI, 64, .inl sm_K)), (zfi, .inl (cI, 8, .inl sm_F)), (zsu, .inl (cI, 8, .inl gs)), (zwo, .inl (cI, 64, .inl gw)), (zro, .inl (cI, 512, .inl gr)), (zdi, .inl (cI, 32, .inl gd)), (zpa, .inl (cI, 64, .inl gp)), (zin, .inl (cI, 300, .inl gi)), (zke, .inl (cI, 32, .inl gk)), (zva, .inl (cI, 32, .inl gv)), (zle, .inl (cI, 32, .inl gl))] s.heap.size = A at hD hT ⊢
  have hA : ∀ q : Nat, s.heap.size ≤ q → A q := fun q h => by rw [← hAe]; exact Or.inr h
  have hS : va_S A s.heap s.heap [] := va_S.rf
  have hl := lv_entry ([.ref zm]) (n := 2) (Nat.le_of_ble_eq_true rfl)
  rw [lg_entry_eq]
  generalize (lg_sl ([.ref zm]) ++ List.replicate (2 - (lg_sl ([.ref zm])).length) Slot.unset).toArray = ls at hl ⊢
  have hl : lv_has ls 2 [(0, .ref zm)] := hl
  refine sm_name (fun Q hQ => ?_)
  have hf_154 := hts (.fieldLink RX4 154 "SeedMillModel" "inputSize" "I") (by decide +kernel)
  have hw_X4 : ∀ w ∈ wsX40, w ∈ wsX4_seed := by decide +kernel
  have hf_109 := hts (.fieldLink RX4 109 "SeedMillModel" "key" "[I") (by decide +kernel)
  have hf_112 := hts (.fieldLink RX4 112 "SeedMillModel" "value" "[I") (by decide +kernel)
  have hf_165 := hts (.fieldLink RX4 165 "SeedMillModel" "isSeeded" "Z") (by decide +kernel)
  have hf_169 := hts (.fieldLink RX4 169 "SeedMillModel" "counter" "I") (by decide +kernel)
  refine lv_aload_n hx hb dX4_seed_0 rfl (lv_at hl 0 rfl) ?_
  refine va_get (D := D) (ci := 4) (v := .int (nI ni)) (C := RX4) (T := TX4) (N := 22) hx hb hts hw_X4 hown hK hP 0 rfl rfl 10 (by decide) hf_154 (fun _ h9 => h9) rfl dX4_seed_1 ?_
  refine lv_if_ne (tgt := 9) hx hb dX4_seed_4 (by decide) (fun c_4 => ?_) (fun c_4 => ?_)
  ·
    refine lv_iconst (v := 0) hx hb dX4_seed_9 (by decide) ?_
    refine lv_istore_n (lv' := [(1, .int 0), (0, .ref zm)]) hx hb dX4_seed_10 rfl hl (by decide) rfl (fun ls hl => ?_)
    have lp11 : ∀ (zn : Nat) (i : Nat) (H : Heap) (locs : List Loc) (ls : Array Slot), 32 - i < zn → i ≤ 32 → va_P D vwCl [(zm, .inr (4, [.int flt, .ref zrt, .ref zfi, .ref zsu, .ref zwo, .ref zro, .int (nI 0), .ref zdi, .ref zpa, .ref zin, .int (nI ni), .ref zow, .int os_, .int sd, .ref zke, .ref zva, .ref zle, .int ct, .int iv, .int dw, .ref zdr, .int ds])), (zrt, .inl (cI, 64, .inl sm_K)), (zfi, .inl (cI, 8, .inl sm_F)), (zsu, .inl (cI, 8, .inl gs)), (zwo, .inl (cI, 64, .inl gw)), (zro, .inl (cI, 512, .inl gr)), (zdi, .inl (cI, 32, .inl gd)), (zpa, .inl (cI, 64, .inl gp)), (zin, .inl (cI, 300, .inl gi)), (zke, .inl (cI, 32, .inl (sm_ap gk 0 (fun _ => 0) i))), (zva, .inl (cI, 32, .inl (sm_ap gv 0 (fun _ => 1) i))), (zle, .inl (cI, 32, .inl gl))] H → va_D A [(zm, .inr (4, [.int flt, .ref zrt, .ref zfi, .ref zsu, .ref zwo, .ref zro, .int (nI 0), .ref zdi, .ref zpa, .ref zin, .int (nI ni), .ref zow, .int os_, .int sd, .ref zke, .ref zva, .ref zle, .int ct, .int iv, .int dw, .ref zdr, .int ds])), (zrt, .inl (cI, 64, .inl sm_K)), (zfi, .inl (cI, 8, .inl sm_F)), (zsu, .inl (cI, 8, .inl gs)), (zwo, .inl (cI, 64, .inl gw)), (zro, .inl (cI, 512, .inl gr)), (zdi, .inl (cI, 32, .inl gd)), (zpa, .inl (cI, 64, .inl gp)), (zin, .inl (cI, 300, .inl gi)), (zke, .inl (cI, 32, .inl (sm_ap gk 0 (fun _ => 0) i))), (zva, .inl (cI, 32, .inl (sm_ap gv 0 (fun _ => 1) i))), (zle, .inl (cI, 32, .inl gl))] → va_S A s.heap H locs → lv_has ls 2 [(1, .int (nI i)), (0, .ref zm)] → W p l e (headSpec wsX4_seed rm_X4_seed_ok).room s m ([.ref zm] : List Value).toArray below meth c H locs 0 0 Q (F0 m 11 ls []) := by
      intro zn
      induction zn with
      | zero => intro i H locs ls hmu; exact absurd hmu (Nat.not_lt_zero _)
      | succ zn ih =>
        intro i H locs ls hmu hi_11 hP hD hS hl
        refine lv_iload_n hx hb dX4_seed_11 rfl (lv_at hl 0 rfl) ?_
        refine lv_bipush (v := 32) hx hb dX4_seed_12 (by decide) ?_
        refine lv_icmp_ge (tgt := 37) hx hb dX4_seed_14 (by decide) (fun c_14 => ?_) (fun c_14 => ?_)
        ·
          have hex_11 : i = 32 := by
            rcases Nat.lt_or_ge i (32) with q | q
            · exact absurd c_14 (nI_ge q (by decide))
            · omega
          rw [hex_11] at hP hD
          have hP := sm_arr hP 9 rfl (fun _ => 0) (fun j hj => sm_ap_z hj)
          have hD := sm_arrD (y := .inl (cI, 32, .inl (fun _ => 0))) hD 9 rfl
          have hP : va_P D vwCl [(zm, .inr (4, [.int flt, .ref zrt, .ref zfi, .ref zsu, .ref zwo, .ref zro, .int (nI 0), .ref zdi, .ref zpa, .ref zin, .int (nI ni), .ref zow, .int os_, .int sd, .ref zke, .ref zva, .ref zle, .int ct, .int iv, .int dw, .ref zdr, .int ds])), (zrt, .inl (cI, 64, .inl sm_K)), (zfi, .inl (cI, 8, .inl sm_F)), (zsu, .inl (cI, 8, .inl gs)), (zwo, .inl (cI, 64, .inl gw)), (zro, .inl (cI, 512, .inl gr)), (zdi, .inl (cI, 32, .inl gd)), (zpa, .inl (cI, 64, .inl gp)), (zin, .inl (cI, 300, .inl gi)), (zke, .inl (cI, 32, .inl (fun _ => 0))), (zva, .inl (cI, 32, .inl (sm_ap gv 0 (fun _ => 1) 32))), (zle, .inl (cI, 32, .inl gl))] H := hP
          have hD : va_D A [(zm, .inr (4, [.int flt, .ref zrt, .ref zfi, .ref zsu, .ref zwo, .ref zro, .int (nI 0), .ref zdi, .ref zpa, .ref zin, .int (nI ni), .ref zow, .int os_, .int sd, .ref zke, .ref zva, .ref zle, .int ct, .int iv, .int dw, .ref zdr, .int ds])), (zrt, .inl (cI, 64, .inl sm_K)), (zfi, .inl (cI, 8, .inl sm_F)), (zsu, .inl (cI, 8, .inl gs)), (zwo, .inl (cI, 64, .inl gw)), (zro, .inl (cI, 512, .inl gr)), (zdi, .inl (cI, 32, .inl gd)), (zpa, .inl (cI, 64, .inl gp)), (zin, .inl (cI, 300, .inl gi)), (zke, .inl (cI, 32, .inl (fun _ => 0))), (zva, .inl (cI, 32, .inl (sm_ap gv 0 (fun _ => 1) 32))), (zle, .inl (cI, 32, .inl gl))] := hD
          have hP := sm_arr hP 10 rfl (fun _ => 1) (fun j hj => sm_ap_z hj)
          have hD := sm_arrD (y := .inl (cI, 32, .inl (fun _ => 1))) hD 10 rfl
          have hP : va_P D vwCl [(zm, .inr (4, [.int flt, .ref zrt, .ref zfi, .ref zsu, .ref zwo, .ref zro, .int (nI 0), .ref zdi, .ref zpa, .ref zin, .int (nI ni), .ref zow, .int os_, .int sd, .ref zke, .ref zva, .ref zle, .int ct, .int iv, .int dw, .ref zdr, .int ds])), (zrt, .inl (cI, 64, .inl sm_K)), (zfi, .inl (cI, 8, .inl sm_F)), (zsu, .inl (cI, 8, .inl gs)), (zwo, .inl (cI, 64, .inl gw)), (zro, .inl (cI, 512, .inl gr)), (zdi, .inl (cI, 32, .inl gd)), (zpa, .inl (cI, 64, .inl gp)), (zin, .inl (cI, 300, .inl gi)), (zke, .inl (cI, 32, .inl (fun _ => 0))), (zva, .inl (cI, 32, .inl (fun _ => 1))), (zle, .inl (cI, 32, .inl gl))] H := hP
          have hD : va_D A [(zm, .inr (4, [.int flt, .ref zrt, .ref zfi, .ref zsu, .ref zwo, .ref zro, .int (nI 0), .ref zdi, .ref zpa, .ref zin, .int (nI ni), .ref zow, .int os_, .int sd, .ref zke, .ref zva, .ref zle, .int ct, .int iv, .int dw, .ref zdr, .int ds])), (zrt, .inl (cI, 64, .inl sm_K)), (zfi, .inl (cI, 8, .inl sm_F)), (zsu, .inl (cI, 8, .inl gs)), (zwo, .inl (cI, 64, .inl gw)), (zro, .inl (cI, 512, .inl gr)), (zdi, .inl (cI, 32, .inl gd)), (zpa, .inl (cI, 64, .inl gp)), (zin, .inl (cI, 300, .inl gi)), (zke, .inl (cI, 32, .inl (fun _ => 0))), (zva, .inl (cI, 32, .inl (fun _ => 1))), (zle, .inl (cI, 32, .inl gl))] := hD
          refine lv_aload_n hx hb dX4_seed_37 rfl (lv_at hl 1 rfl) ?_
          refine sm_callVv (wc := [(zm, .inr (4, [.int flt, .ref zrt, .ref zfi, .ref zsu, .ref zwo, .ref zro, .int (nI 0), .ref zdi, .ref zpa, .ref zin, .int (nI ni), .ref zow, .int os_, .int sd, .ref zke, .ref zva, .ref zle, .int ct, .int iv, .int dw, .ref zdr, .int ds])), (zrt, .inl (cI, 64, .inl sm_K)), (zfi, .inl (cI, 8, .inl sm_F)), (zsu, .inl (cI, 8, .inl gs)), (zwo, .inl (cI, 64, .inl gw)), (zro, .inl (cI, 512, .inl gr)), (zdi, .inl (cI, 32, .inl gd)), (zpa, .inl (cI, 64, .inl gp)), (zin, .inl (cI, 300, .inl gi)), (zke, .inl (cI, 32, .inl (fun _ => 0))), (zva, .inl (cI, 32, .inl (fun _ => 1))), (zle, .inl (cI, 32, .inl gl))]) (wr := []) (As := []) (rest := []) ⟨hx, hb, hml, hown, hts⟩ (sc_X4_stir l D cI th _ zm zrt zfi zsu zwo zro zdi zpa zin zow zke zva zle zdr flt (nI ni) os_ sd ct iv dw ds gs gw gr gd gp ni gi (fun _ => 0) (fun _ => 1) gl (by omega) hgi (fun _ _ => by unfold sm_by; decide) (fun _ _ => by unfold sm_by; decide)) (cwV 0 hts gX4_seed_X4_stir rfl rfl rfl (by decide +kernel) ⟨Nat.le_of_ble_eq_true rfl, Nat.le_of_ble_eq_true rfl⟩) hP hD hS hA hK hT [0, 1, 2, 3, 4, 5, 6, 7, 8, 9, 10, 11] [] rfl rfl rfl rfl (by decide) 0 4 rfl rfl rfl rfl hl.1 rfl (Nat.le_of_ble_eq_true rfl) dX4_seed_38 ⟨Nat.zero_le _, Nat.zero_le _⟩ (fun zt H1 locs ht hvm hB hJ hS => ?_)
          obtain ⟨gs2, gw2, gr2, gd2, gp2, hP1, -, hD1⟩ := hB
          rw [ht] at hP1
          obtain ⟨hP, hD⟩ := hJ _ hP1 hD1
          clear hJ
          generalize H1 = H at hP hS ⊢
          have hP : va_P D vwCl [(zm, .inr (4, [.int flt, .ref zrt, .ref zfi, .ref zsu, .ref zwo, .ref zro, .int (nI 0), .ref zdi, .ref zpa, .ref zin, .int (nI ni), .ref zow, .int os_, .int sd, .ref zke, .ref zva, .ref zle, .int ct, .int iv, .int dw, .ref zdr, .int ds])), (zrt, .inl (cI, 64, .inl sm_K)), (zfi, .inl (cI, 8, .inl sm_F)), (zsu, .inl (cI, 8, .inl gs2)), (zwo, .inl (cI, 64, .inl gw2)), (zro, .inl (cI, 512, .inl gr2)), (zdi, .inl (cI, 32, .inl gd2)), (zpa, .inl (cI, 64, .inl gp2)), (zin, .inl (cI, 300, .inl gi)), (zke, .inl (cI, 32, .inl ((sm_stir (fun _ => 0, fun _ => 1) gi ni).1))), (zva, .inl (cI, 32, .inl ((sm_stir (fun _ => 0, fun _ => 1) gi ni).2))), (zle, .inl (cI, 32, .inl ((sm_stir (fun _ => 0, fun _ => 1) gi ni).2)))] H := hP.sub [0, 1, 2, 3, 4, 5, 6, 7, 8, 9, 10, 11] rfl
          have hD : va_D A [(zm, .inr (4, [.int flt, .ref zrt, .ref zfi, .ref zsu, .ref zwo, .ref zro, .int (nI 0), .ref zdi, .ref zpa, .ref zin, .int (nI ni), .ref zow, .int os_, .int sd, .ref zke, .ref zva, .ref zle, .int ct, .int iv, .int dw, .ref zdr, .int ds])), (zrt, .inl (cI, 64, .inl sm_K)), (zfi, .inl (cI, 8, .inl sm_F)), (zsu, .inl (cI, 8, .inl gs2)), (zwo, .inl (cI, 64, .inl gw2)), (zro, .inl (cI, 512, .inl gr2)), (zdi, .inl (cI, 32, .inl gd2)), (zpa, .inl (cI, 64, .inl gp2)), (zin, .inl (cI, 300, .inl gi)), (zke, .inl (cI, 32, .inl ((sm_stir (fun _ => 0, fun _ => 1) gi ni).1))), (zva, .inl (cI, 32, .inl ((sm_stir (fun _ => 0, fun _ => 1) gi ni).2))), (zle, .inl (cI, 32, .inl ((sm_stir (fun _ => 0, fun _ => 1) gi ni).2)))] := hD.sub [0, 1, 2, 3, 4, 5, 6, 7, 8, 9, 10, 11] rfl rfl
          refine lv_aload_n hx hb dX4_seed_41 rfl (lv_at hl 1 rfl) ?_
          refine lv_iconst (v := 1) hx hb dX4_seed_42 (by decide) ?_
          refine va_put (D := D) (ci := 4) (v := .int 1) (ty := .boolean) (C := RX4) (T := TX4) (N := 22) hx hb hts hw_X4 tyX4 tyX4_ok nmX4 hown hK hP hD hS 0 rfl rfl 13 (by decide) hf_165 (fun _ h9 => h9) rfl (by decide +kernel) rfl rfl (Nat.le_of_ble_eq_true rfl) dX4_seed_43 (fun H locs hP hD hS => ?_)
          have hP : va_P D vwCl [(zm, .inr (4, [.int flt, .ref zrt, .ref zfi, .ref zsu, .ref zwo, .ref zro, .int (nI 0), .ref zdi, .ref zpa, .ref zin, .int (nI ni), .ref zow, .int os_, .int 1, .ref zke, .ref zva, .ref zle, .int ct, .int iv, .int dw, .ref zdr, .int ds])), (zrt, .inl (cI, 64, .inl sm_K)), (zfi, .inl (cI, 8, .inl sm_F)), (zsu, .inl (cI, 8, .inl gs2)), (zwo, .inl (cI, 64, .inl gw2)), (zro, .inl (cI, 512, .inl gr2)), (zdi, .inl (cI, 32, .inl gd2)), (zpa, .inl (cI, 64, .inl gp2)), (zin, .inl (cI, 300, .inl gi)), (zke, .inl (cI, 32, .inl ((sm_stir (fun _ => 0, fun _ => 1) gi ni).1))), (zva, .inl (cI, 32, .inl ((sm_stir (fun _ => 0, fun _ => 1) gi ni).2))), (zle, .inl (cI, 32, .inl ((sm_stir (fun _ => 0, fun _ => 1) gi ni).2)))] H := hP
          have hD : va_D A [(zm, .inr (4, [.int flt, .ref zrt, .ref zfi, .ref zsu, .ref zwo, .ref zro, .int (nI 0), .ref zdi, .ref zpa, .ref zin, .int (nI ni), .ref zow, .int os_, .int 1, .ref zke, .ref zva, .ref zle, .int ct, .int iv, .int dw, .ref zdr, .int ds])), (zrt, .inl (cI, 64, .inl sm_K)), (zfi, .inl (cI, 8, .inl sm_F)), (zsu, .inl (cI, 8, .inl gs2)), (zwo, .inl (cI, 64, .inl gw2)), (zro, .inl (cI, 512, .inl gr2)), (zdi, .inl (cI, 32, .inl gd2)), (zpa, .inl (cI, 64, .inl gp2)), (zin, .inl (cI, 300, .inl gi)), (zke, .inl (cI, 32, .inl ((sm_stir (fun _ => 0, fun _ => 1) gi ni).1))), (zva, .inl (cI, 32, .inl ((sm_stir (fun _ => 0, fun _ => 1) gi ni).2))), (zle, .inl (cI, 32, .inl ((sm_stir (fun _ => 0, fun _ => 1) gi ni).2)))] := hD
          refine lv_aload_n hx hb dX4_seed_46 rfl (lv_at hl 1 rfl) ?_
          refine lv_iconst (v := 1) hx hb dX4_seed_47 (by decide) ?_
          refine va_put (D := D) (ci := 4) (v := .int 1) (ty := .int) (C := RX4) (T := TX4) (N := 22) hx hb hts hw_X4 tyX4 tyX4_ok nmX4 hown hK hP hD hS 0 rfl rfl 17 (by decide) hf_169 (fun _ h9 => h9) rfl (by decide +kernel) rfl rfl (Nat.le_of_ble_eq_true rfl) dX4_seed_48 (fun H locs hP hD hS => ?_)
          have hP : va_P D vwCl [(zm, .inr (4, [.int flt, .ref zrt, .ref zfi, .ref zsu, .ref zwo, .ref zro, .int (nI 0), .ref zdi, .ref zpa, .ref zin, .int (nI ni), .ref zow, .int os_, .int 1, .ref zke, .ref zva, .ref zle, .int 1, .int iv, .int dw, .ref zdr, .int ds])), (zrt, .inl (cI, 64, .inl sm_K)), (zfi, .inl (cI, 8, .inl sm_F)), (zsu, .inl (cI, 8, .inl gs2)), (zwo, .inl (cI, 64, .inl gw2)), (zro, .inl (cI, 512, .inl gr2)), (zdi, .inl (cI, 32, .inl gd2)), (zpa, .inl (cI, 64, .inl gp2)), (zin, .inl (cI, 300, .inl gi)), (zke, .inl (cI, 32, .inl ((sm_stir (fun _ => 0, fun _ => 1) gi ni).1))), (zva, .inl (cI, 32, .inl ((sm_stir (fun _ => 0, fun _ => 1) gi ni).2))), (zle, .inl (cI, 32, .inl ((sm_stir (fun _ => 0, fun _ => 1) gi ni).2)))] H := hP
          have hD : va_D A [(zm, .inr (4, [.int flt, .ref zrt, .ref zfi, .ref zsu, .ref zwo, .ref zro, .int (nI 0), .ref zdi, .ref zpa, .ref zin, .int (nI ni), .ref zow, .int os_, .int 1, .ref zke, .ref zva, .ref zle, .int 1, .int iv, .int dw, .ref zdr, .int ds])), (zrt, .inl (cI, 64, .inl sm_K)), (zfi, .inl (cI, 8, .inl sm_F)), (zsu, .inl (cI, 8, .inl gs2)), (zwo, .inl (cI, 64, .inl gw2)), (zro, .inl (cI, 512, .inl gr2)), (zdi, .inl (cI, 32, .inl gd2)), (zpa, .inl (cI, 64, .inl gp2)), (zin, .inl (cI, 300, .inl gi)), (zke, .inl (cI, 32, .inl ((sm_stir (fun _ => 0, fun _ => 1) gi ni).1))), (zva, .inl (cI, 32, .inl ((sm_stir (fun _ => 0, fun _ => 1) gi ni).2))), (zle, .inl (cI, 32, .inl ((sm_stir (fun _ => 0, fun _ => 1) gi ni).2)))] := hD
          refine lv_aload_n hx hb dX4_seed_51 rfl (lv_at hl 1 rfl) ?_
          refine lv_iconst (v := 0) hx hb dX4_seed_52 (by decide) ?_
          refine va_put (D := D) (ci := 4) (v := .int 0) (ty := .int) (C := RX4) (T := TX4) (N := 22) hx hb hts hw_X4 tyX4 tyX4_ok nmX4 hown hK hP hD hS 0 rfl rfl 10 (by decide) hf_154 (fun _ h9 => h9) rfl (by decide +kernel) rfl rfl (Nat.le_of_ble_eq_true rfl) dX4_seed_53 (fun H locs hP hD hS => ?_)
          have hP : va_P D vwCl [(zm, .inr (4, [.int flt, .ref zrt, .ref zfi, .ref zsu, .ref zwo, .ref zro, .int (nI 0), .ref zdi, .ref zpa, .ref zin, .int 0, .ref zow, .int os_, .int 1, .ref zke, .ref zva, .ref zle, .int 1, .int iv, .int dw, .ref zdr, .int ds])), (zrt, .inl (cI, 64, .inl sm_K)), (zfi, .inl (cI, 8, .inl sm_F)), (zsu, .inl (cI, 8, .inl gs2)), (zwo, .inl (cI, 64, .inl gw2)), (zro, .inl (cI, 512, .inl gr2)), (zdi, .inl (cI, 32, .inl gd2)), (zpa, .inl (cI, 64, .inl gp2)), (zin, .inl (cI, 300, .inl gi)), (zke, .inl (cI, 32, .inl ((sm_stir (fun _ => 0, fun _ => 1) gi ni).1))), (zva, .inl (cI, 32, .inl ((sm_stir (fun _ => 0, fun _ => 1) gi ni).2))), (zle, .inl (cI, 32, .inl ((sm_stir (fun _ => 0, fun _ => 1) gi ni).2)))] H := hP
          have hD : va_D A [(zm, .inr (4, [.int flt, .ref zrt, .ref zfi, .ref zsu, .ref zwo, .ref zro, .int (nI 0), .ref zdi, .ref zpa, .ref zin, .int 0, .ref zow, .int os_, .int 1, .ref zke, .ref zva, .ref zle, .int 1, .int iv, .int dw, .ref zdr, .int ds])), (zrt, .inl (cI, 64, .inl sm_K)), (zfi, .inl (cI, 8, .inl sm_F)), (zsu, .inl (cI, 8, .inl gs2)), (zwo, .inl (cI, 64, .inl gw2)), (zro, .inl (cI, 512, .inl gr2)), (zdi, .inl (cI, 32, .inl gd2)), (zpa, .inl (cI, 64, .inl gp2)), (zin, .inl (cI, 300, .inl gi)), (zke, .inl (cI, 32, .inl ((sm_stir (fun _ => 0, fun _ => 1) gi ni).1))), (zva, .inl (cI, 32, .inl ((sm_stir (fun _ => 0, fun _ => 1) gi ni).2))), (zle, .inl (cI, 32, .inl ((sm_stir (fun _ => 0, fun _ => 1) gi ni).2)))] := hD
          refine lv_iconst (v := 1) hx hb dX4_seed_56 (by decide) ?_
          rw [hQ]
          have hP9 : va_P D vwCl [(zm, .inr (4, [.int flt, .ref zrt, .ref zfi, .ref zsu, .ref zwo, .ref zro, .int (nI 0), .ref zdi, .ref zpa, .ref zin, .int (nI 0), .ref zow, .int os_, .int 1, .ref zke, .ref zva, .ref zle, .int (nI 1), .int iv, .int dw, .ref zdr, .int ds])), (zrt, .inl (cI, 64, .inl sm_K)), (zfi, .inl (cI, 8, .inl sm_F)), (zsu, .inl (cI, 8, .inl gs2)), (zwo, .inl (cI, 64, .inl gw2)), (zro, .inl (cI, 512, .inl gr2)), (zdi, .inl (cI, 32, .inl gd2)), (zpa, .inl (cI, 64, .inl gp2)), (zin, .inl (cI, 300, .inl gi)), (zke, .inl (cI, 32, .inl ((sm_stir (fun _ => 0, fun _ => 1) gi ni).1))), (zva, .inl (cI, 32, .inl ((sm_stir (fun _ => 0, fun _ => 1) gi ni).2))), (zle, .inl (cI, 32, .inl ((sm_stir (fun _ => 0, fun _ => 1) gi ni).2)))] H := hP
          have hD9 : va_D A [(zm, .inr (4, [.int flt, .ref zrt, .ref zfi, .ref zsu, .ref zwo, .ref zro, .int (nI 0), .ref zdi, .ref zpa, .ref zin, .int (nI 0), .ref zow, .int os_, .int 1, .ref zke, .ref zva, .ref zle, .int (nI 1), .int iv, .int dw, .ref zdr, .int ds])), (zrt, .inl (cI, 64, .inl sm_K)), (zfi, .inl (cI, 8, .inl sm_F)), (zsu, .inl (cI, 8, .inl gs2)), (zwo, .inl (cI, 64, .inl gw2)), (zro, .inl (cI, 512, .inl gr2)), (zdi, .inl (cI, 32, .inl gd2)), (zpa, .inl (cI, 64, .inl gp2)), (zin, .inl (cI, 300, .inl gi)), (zke, .inl (cI, 32, .inl ((sm_stir (fun _ => 0, fun _ => 1) gi ni).1))), (zva, .inl (cI, 32, .inl ((sm_stir (fun _ => 0, fun _ => 1) gi ni).2))), (zle, .inl (cI, 32, .inl ((sm_stir (fun _ => 0, fun _ => 1) gi ni).2)))] := hD
          exact W.iret (v := 1) hx hb hr (fun t ht hW => ⟨⟨1, (), rfl, rfl, ⟨_, _, _, _, _, by rw [ht]; exact hP9, va_K.moved hW.alike hK, hD9⟩⟩, hS.F ht⟩) hS.2.2 dX4_seed_57
        ·
          have hlt_11 : i < 32 := by
            rcases Nat.lt_or_ge i (32) with q | q
            · exact q
            · exact absurd (nI_le q (by omega)) c_14
          refine lv_aload_n hx hb dX4_seed_17 rfl (lv_at hl 1 rfl) ?_
          refine va_get (D := D) (ci := 4) (v := .ref zke) (C := RX4) (T := TX4) (N := 22) hx hb hts hw_X4 hown hK hP 0 rfl rfl 14 (by decide) hf_109 (fun _ h9 => h9) rfl dX4_seed_18 ?_
          refine lv_iload_n hx hb dX4_seed_21 rfl (lv_at hl 0 rfl) ?_
          refine lv_iconst (v := 0) hx hb dX4_seed_22 (by decide) ?_
          refine va_iast (i := nI i) (x := 0) hx hb hK hP hD hS 9 0 rfl rfl (vp_in_nI (n := i) (by omega) (by omega)) dX4_seed_23 (fun H locs hP hD hS => ?_)
          rw [show Int32.toNatClampNeg (nI i) = i from nI_clamp (n := i) (by omega)] at hP hD
          have hP : va_P D vwCl [(zm, .inr (4, [.int flt, .ref zrt, .ref zfi, .ref zsu, .ref zwo, .ref zro, .int (nI 0), .ref zdi, .ref zpa, .ref zin, .int (nI ni), .ref zow, .int os_, .int sd, .ref zke, .ref zva, .ref zle, .int ct, .int iv, .int dw, .ref zdr, .int ds])), (zrt, .inl (cI, 64, .inl sm_K)), (zfi, .inl (cI, 8, .inl sm_F)), (zsu, .inl (cI, 8, .inl gs)), (zwo, .inl (cI, 64, .inl gw)), (zro, .inl (cI, 512, .inl gr)), (zdi, .inl (cI, 32, .inl gd)), (zpa, .inl (cI, 64, .inl gp)), (zin, .inl (cI, 300, .inl gi)), (zke, .inl (cI, 32, .inl (upd (sm_ap gk 0 (fun _ => 0) i) i 0))), (zva, .inl (cI, 32, .inl (sm_ap gv 0 (fun _ => 1) i))), (zle, .inl (cI, 32, .inl gl))] H := hP
          have hD : va_D A [(zm, .inr (4, [.int flt, .ref zrt, .ref zfi, .ref zsu, .ref zwo, .ref zro, .int (nI 0), .ref zdi, .ref zpa, .ref zin, .int (nI ni), .ref zow, .int os_, .int sd, .ref zke, .ref zva, .ref zle, .int ct, .int iv, .int dw, .ref zdr, .int ds])), (zrt, .inl (cI, 64, .inl sm_K)), (zfi, .inl (cI, 8, .inl sm_F)), (zsu, .inl (cI, 8, .inl gs)), (zwo, .inl (cI, 64, .inl gw)), (zro, .inl (cI, 512, .inl gr)), (zdi, .inl (cI, 32, .inl gd)), (zpa, .inl (cI, 64, .inl gp)), (zin, .inl (cI, 300, .inl gi)), (zke, .inl (cI, 32, .inl (upd (sm_ap gk 0 (fun _ => 0) i) i 0))), (zva, .inl (cI, 32, .inl (sm_ap gv 0 (fun _ => 1) i))), (zle, .inl (cI, 32, .inl gl))] := hD
          refine lv_aload_n hx hb dX4_seed_24 rfl (lv_at hl 1 rfl) ?_
          refine va_get (D := D) (ci := 4) (v := .ref zva) (C := RX4) (T := TX4) (N := 22) hx hb hts hw_X4 hown hK hP 0 rfl rfl 15 (by decide) hf_112 (fun _ h9 => h9) rfl dX4_seed_25 ?_
          refine lv_iload_n hx hb dX4_seed_28 rfl (lv_at hl 0 rfl) ?_
          refine lv_iconst (v := 1) hx hb dX4_seed_29 (by decide) ?_
          refine va_iast (i := nI i) (x := 1) hx hb hK hP hD hS 10 0 rfl rfl (vp_in_nI (n := i) (by omega) (by omega)) dX4_seed_30 (fun H locs hP hD hS => ?_)
          rw [show Int32.toNatClampNeg (nI i) = i from nI_clamp (n := i) (by omega)] at hP hD
          have hP : va_P D vwCl [(zm, .inr (4, [.int flt, .ref zrt, .ref zfi, .ref zsu, .ref zwo, .ref zro, .int (nI 0), .ref zdi, .ref zpa, .ref zin, .int (nI ni), .ref zow, .int os_, .int sd, .ref zke, .ref zva, .ref zle, .int ct, .int iv, .int dw, .ref zdr, .int ds])), (zrt, .inl (cI, 64, .inl sm_K)), (zfi, .inl (cI, 8, .inl sm_F)), (zsu, .inl (cI, 8, .inl gs)), (zwo, .inl (cI, 64, .inl gw)), (zro, .inl (cI, 512, .inl gr)), (zdi, .inl (cI, 32, .inl gd)), (zpa, .inl (cI, 64, .inl gp)), (zin, .inl (cI, 300, .inl gi)), (zke, .inl (cI, 32, .inl (upd (sm_ap gk 0 (fun _ => 0) i) i 0))), (zva, .inl (cI, 32, .inl (upd (sm_ap gv 0 (fun _ => 1) i) i 1))), (zle, .inl (cI, 32, .inl gl))] H := hP
          have hD : va_D A [(zm, .inr (4, [.int flt, .ref zrt, .ref zfi, .ref zsu, .ref zwo, .ref zro, .int (nI 0), .ref zdi, .ref zpa, .ref zin, .int (nI ni), .ref zow, .int os_, .int sd, .ref zke, .ref zva, .ref zle, .int ct, .int iv, .int dw, .ref zdr, .int ds])), (zrt, .inl (cI, 64, .inl sm_K)), (zfi, .inl (cI, 8, .inl sm_F)), (zsu, .inl (cI, 8, .inl gs)), (zwo, .inl (cI, 64, .inl gw)), (zro, .inl (cI, 512, .inl gr)), (zdi, .inl (cI, 32, .inl gd)), (zpa, .inl (cI, 64, .inl gp)), (zin, .inl (cI, 300, .inl gi)), (zke, .inl (cI, 32, .inl (upd (sm_ap gk 0 (fun _ => 0) i) i 0))), (zva, .inl (cI, 32, .inl (upd (sm_ap gv 0 (fun _ => 1) i) i 1))), (zle, .inl (cI, 32, .inl gl))] := hD
          refine lv_iinc (v := nI (i + 1)) (lv' := [(1, .int (nI (i + 1))), (0, .ref zm)]) hx hb dX4_seed_31 hl (k := 0) rfl (nI_1 i) (by decide) rfl (fun ls hl => ?_)
          refine lv_goto (tgt := 11) hx hb dX4_seed_34 (by decide) ?_
          rw [show upd (sm_ap gk 0 (fun _ => 0) i) i 0 = _ from sm_ap_s0 gk (fun _ => 0) i, show upd (sm_ap gv 0 (fun _ => 1) i) i 1 = _ from sm_ap_s0 gv (fun _ => 1) i] at hP hD
          exact ih (i + 1) _ _ _ (by omega) (by omega) hP hD hS (lv_sub hl [0, 1] rfl)
    exact lp11 _ 0 _ _ _ (Nat.lt_succ_self _) (Nat.zero_le _) (by rw [sm_ap_0, sm_ap_0]; exact hP) (by rw [sm_ap_0, sm_ap_0]; exact hD) hS (lv_sub hl [0, 1] rfl)
  ·
    exact absurd c_4 (nI_ne0 hn0 (by omega))

def rm_X4_reseed_ns : Room := ({ frames := 6, cells := 0, slots := 0, locals := 139 } : Room)
set_option maxHeartbeats 4000000 in
set_option maxRecDepth 100000 in
/-- reseed, not seeded -/
theorem sc_X4_reseed_ns (l : Launch) (D : va_G) (cI : ClassId) (th : Option (Nat × Nat)) (sz : Nat) (zm zrt zfi zsu zwo zro zdi zpa zin zow zke zva zle zdr : Nat) (flt is_ os_ sd ct iv dw ds : Int32) (ni : Nat)  : Met l yX4_reseed wsX4_reseed rm_X4_reseed_ns (va_Pc [.ref zm] (sm_PW D cI th [(zm, .inr (4, [.int flt, .ref zrt, .ref zfi, .ref zsu, .ref zwo, .ref zro, .int (nI 0), .ref zdi, .ref zpa, .ref zin, .int (nI ni), .ref zow, .int os_, .int 0, .ref zke, .ref zva, .ref zle, .int ct, .int iv, .int dw, .ref zdr, .int ds]))] sz)) (va_Qi (fun (r : Int32) (_ : Unit) => r = 0) (fun _ t => sm_QW D cI (va_A [(zm, .inr (4, [.int flt, .ref zrt, .ref zfi, .ref zsu, .ref zwo, .ref zro, .int (nI 0), .ref zdi, .ref zpa, .ref zin, .int (nI ni), .ref zow, .int os_, .int 0, .ref zke, .ref zva, .ref zle, .int ct, .int iv, .int dw, .ref zdr, .int ds]))] sz) [(zm, .inr (4, [.int flt, .ref zrt, .ref zfi, .ref zsu, .ref zwo, .ref zro, .int (nI 0), .ref zdi, .ref zpa, .ref zin, .int (nI ni), .ref zow, .int os_, .int 0, .ref zke, .ref zva, .ref zle, .int ct, .int iv, .int dw, .ref zdr, .int ds]))] t) (va_A [(zm, .inr (4, [.int flt, .ref zrt, .ref zfi, .ref zsu, .ref zwo, .ref zro, .int (nI 0), .ref zdi, .ref zpa, .ref zin, .int (nI ni), .ref zow, .int os_, .int 0, .ref zke, .ref zva, .ref zle, .int ct, .int iv, .int dw, .ref zdr, .int ds]))] sz)) 0 0 (va_A [(zm, .inr (4, [.int flt, .ref zrt, .ref zfi, .ref zsu, .ref zwo, .ref zro, .int (nI 0), .ref zdi, .ref zpa, .ref zin, .int (nI ni), .ref zow, .int os_, .int 0, .ref zke, .ref zva, .ref zle, .int ct, .int iv, .int dw, .ref zdr, .int ds]))] sz) := by
  refine Met.ofW (cc := cX4_reseed) (maxL := 1) (ret := (some .int)) (by decide) rfl ?_
  intro p e s m args below meth c s₁ B hml hv
  obtain ⟨rfl, hsz, hP, hK, hD0, hT⟩ := hv
  have hx := B.exec
  have hb := B.bytes
  have hr := B.returns
  have hts := atoms_spec (ws := wsX4_reseed) B.pre
  have hown : s.vm.findClass RX4 = some m.cls := findClass_of_methodNamed B.named
  have hlocks := B.notSynchronized
  subst hsz
  have hD := hD0.self (sz := s.heap.size)
  generalize hAe : va_A [(zm, .inr (4, [.int flt, .ref zrt, .ref zfi, .ref zsu, .ref zwo, .ref zro, .int (nI 0), .ref zdi, .ref zpa, .ref zin, .int (nI ni), .ref zow, .int os_, .int 0, .ref zke, .ref zva, .ref zle, .int ct, .int iv, .int dw, .ref zdr, .int ds]))] s.heap.size = A at hD hT ⊢
  have hA : ∀ q : Nat, s.heap.size ≤ q → A q := fun q h => by rw [← hAe]; exact Or.inr h
  have hS : va_S A s.heap s.heap [] := va_S.rf
  have hl := lv_entry ([.ref zm]) (n := 1) (Nat.le_of_ble_eq_true rfl)
  rw [lg_entry_eq]
  generalize (lg_sl ([.ref zm]) ++ List.replicate (1 - (lg_sl ([.ref zm])).length) Slot.unset).toArray = ls at hl ⊢
  have hl : lv_has ls 1 [(0, .ref zm)] := hl
  refine sm_name (fun Q hQ => ?_)
  have hf_154 := hts (.fieldLink RX4 154 "SeedMillModel" "inputSize" "I") (by decide +kernel)
  have hw_X4 : ∀ w ∈ wsX40, w ∈ wsX4_reseed := by decide +kernel
  have hf_165 := hts (.fieldLink RX4 165 "SeedMillModel" "isSeeded" "Z") (by decide +kernel)
  have hf_169 := hts (.fieldLink RX4 169 "SeedMillModel" "counter" "I") (by decide +kernel)
  refine lv_aload_n hx hb dX4_reseed_0 rfl (lv_at hl 0 rfl) ?_
  refine va_get (D := D) (ci := 4) (v := .int (nI ni)) (C := RX4) (T := TX4) (N := 22) hx hb hts hw_X4 hown hK hP 0 rfl rfl 10 (by decide) hf_154 (fun _ h9 => h9) rfl dX4_reseed_1 ?_
  refine lv_if_eq (tgt := 14) hx hb dX4_reseed_4 (by decide) (fun c_4 => ?_) (fun c_4 => ?_)
  ·
    refine lv_iconst (v := 0) hx hb dX4_reseed_14 (by decide) ?_
    rw [hQ]
    have hP9 : va_P D vwCl [(zm, .inr (4, [.int flt, .ref zrt, .ref zfi, .ref zsu, .ref zwo, .ref zro, .int (nI 0), .ref zdi, .ref zpa, .ref zin, .int (nI ni), .ref zow, .int os_, .int 0, .ref zke, .ref zva, .ref zle, .int ct, .int iv, .int dw, .ref zdr, .int ds]))] s.heap := hP
    have hD9 : va_D A [(zm, .inr (4, [.int flt, .ref zrt, .ref zfi, .ref zsu, .ref zwo, .ref zro, .int (nI 0), .ref zdi, .ref zpa, .ref zin, .int (nI ni), .ref zow, .int os_, .int 0, .ref zke, .ref zva, .ref zle, .int ct, .int iv, .int dw, .ref zdr, .int ds]))] := hD
    exact W.iret (v := 0) hx hb hr (fun t ht hW => ⟨⟨0, (), rfl, rfl, ⟨by rw [ht]; exact hP9, va_K.moved hW.alike hK, hD9⟩⟩, hS.F ht⟩) hS.2.2 dX4_reseed_15
  ·
    refine lv_aload_n hx hb dX4_reseed_7 rfl (lv_at hl 0 rfl) ?_
    refine va_get (D := D) (ci := 4) (v := .int 0) (C := RX4) (T := TX4) (N := 22) hx hb hts hw_X4 hown hK hP 0 rfl rfl 13 (by decide) hf_165 (fun _ h9 => h9) rfl dX4_reseed_8 ?_
    refine lv_if_ne (tgt := 16) hx hb dX4_reseed_11 (by decide) (fun c_11 => ?_) (fun c_11 => ?_)
    ·
      exact absurd c_11 (by decide)
    ·
      refine lv_iconst (v := 0) hx hb dX4_reseed_14 (by decide) ?_
      rw [hQ]
      have hP9 : va_P D vwCl [(zm, .inr (4, [.int flt, .ref zrt, .ref zfi, .ref zsu, .ref zwo, .ref zro, .int (nI 0), .ref zdi, .ref zpa, .ref zin, .int (nI ni), .ref zow, .int os_, .int 0, .ref zke, .ref zva, .ref zle, .int ct, .int iv, .int dw, .ref zdr, .int ds]))] s.heap := hP
      have hD9 : va_D A [(zm, .inr (4, [.int flt, .ref zrt, .ref zfi, .ref zsu, .ref zwo, .ref zro, .int (nI 0), .ref zdi, .ref zpa, .ref zin, .int (nI ni), .ref zow, .int os_, .int 0, .ref zke, .ref zva, .ref zle, .int ct, .int iv, .int dw, .ref zdr, .int ds]))] := hD
      exact W.iret (v := 0) hx hb hr (fun t ht hW => ⟨⟨0, (), rfl, rfl, ⟨by rw [ht]; exact hP9, va_K.moved hW.alike hK, hD9⟩⟩, hS.F ht⟩) hS.2.2 dX4_reseed_15

def rm_X4_reseed_no : Room := ({ frames := 6, cells := 0, slots := 0, locals := 139 } : Room)
set_option maxHeartbeats 4000000 in
set_option maxRecDepth 100000 in
/-- reseed without input -/
theorem sc_X4_reseed_no (l : Launch) (D : va_G) (cI : ClassId) (th : Option (Nat × Nat)) (sz : Nat) (zm zrt zfi zsu zwo zro zdi zpa zin zow zke zva zle zdr : Nat) (flt is_ os_ sd ct iv dw ds : Int32)   : Met l yX4_reseed wsX4_reseed rm_X4_reseed_no (va_Pc [.ref zm] (sm_PW D cI th [(zm, .inr (4, [.int flt, .ref zrt, .ref zfi, .ref zsu, .ref zwo, .ref zro, .int (nI 0), .ref zdi, .ref zpa, .ref zin, .int (nI 0), .ref zow, .int os_, .int sd, .ref zke, .ref zva, .ref zle, .int ct, .int iv, .int dw, .ref zdr, .int ds]))] sz)) (va_Qi (fun (r : Int32) (_ : Unit) => r = 0) (fun _ t => sm_QW D cI (va_A [(zm, .inr (4, [.int flt, .ref zrt, .ref zfi, .ref zsu, .ref zwo, .ref zro, .int (nI 0), .ref zdi, .ref zpa, .ref zin, .int (nI 0), .ref zow, .int os_, .int sd, .ref zke, .ref zva, .ref zle, .int ct, .int iv, .int dw, .ref zdr, .int ds]))] sz) [(zm, .inr (4, [.int flt, .ref zrt, .ref zfi, .ref zsu, .ref zwo, .ref zro, .int (nI 0), .ref zdi, .ref zpa, .ref zin, .int (nI 0), .ref zow, .int os_, .int sd, .ref zke, .ref zva, .ref zle, .int ct, .int iv, .int dw, .ref zdr, .int ds]))] t) (va_A [(zm, .inr (4, [.int flt, .ref zrt, .ref zfi, .ref zsu, .ref zwo, .ref zro, .int (nI 0), .ref zdi, .ref zpa, .ref zin, .int (nI 0), .ref zow, .int os_, .int sd, .ref zke, .ref zva, .ref zle, .int ct, .int iv, .int dw, .ref zdr, .int ds]))] sz)) 0 0 (va_A [(zm, .inr (4, [.int flt, .ref zrt, .ref zfi, .ref zsu, .ref zwo, .ref zro, .int (nI 0), .ref zdi, .ref zpa, .ref zin, .int (nI 0), .ref zow, .int os_, .int sd, .ref zke, .ref zva, .ref zle, .int ct, .int iv, .int dw, .ref zdr, .int ds]))] sz) := by
  refine Met.ofW (cc := cX4_reseed) (maxL := 1) (ret := (some .int)) (by decide) rfl ?_
  intro p e s m args below meth c s₁ B hml hv
  obtain ⟨rfl, hsz, hP, hK, hD0, hT⟩ := hv
  have hx := B.exec
  have hb := B.bytes
  have hr := B.returns
  have hts := atoms_spec (ws := wsX4_reseed) B.pre
  have hown : s.vm.findClass RX4 = some m.cls := findClass_of_methodNamed B.named
  have hlocks := B.notSynchronized
  subst hsz
  have hD := hD0.self (sz := s.heap.size)
  generalize hAe : va_A [(zm, .inr (4, [.int flt, .ref zrt, .ref zfi, .ref zsu, .ref zwo, .ref zro, .int (nI 0), .ref zdi, .ref zpa, .ref zin, .int (nI 0), .ref zow, .int os_, .int sd, .ref zke, .ref zva, .ref zle, .int ct, .int iv, .int dw, .ref zdr, .int ds]))] s.heap.size = A at hD hT ⊢
  have hA : ∀ q : Nat, s.heap.size ≤ q → A q := fun q h => by rw [← hAe]; exact Or.inr h
  have hS : va_S A s.heap s.heap [] := va_S.rf
  have hl := lv_entry ([.ref zm]) (n := 1) (Nat.le_of_ble_eq_true rfl)
  rw [lg_entry_eq]
  generalize (lg_sl ([.ref zm]) ++ List.replicate (1 - (lg_sl ([.ref zm])).length) Slot.unset).toArray = ls at hl ⊢
  have hl : lv_has ls 1 [(0, .ref zm)] := hl
  refine sm_name (fun Q hQ => ?_)
  have hf_154 := hts (.fieldLink RX4 154 "SeedMillModel" "inputSize" "I") (by decide +kernel)
  have hw_X4 : ∀ w ∈ wsX40, w ∈ wsX4_reseed := by decide +kernel
  have hf_165 := hts (.fieldLink RX4 165 "SeedMillModel" "isSeeded" "Z") (by decide +kernel)
  have hf_169 := hts (.fieldLink RX4 169 "SeedMillModel" "counter" "I") (by decide +kernel)
  refine lv_aload_n hx hb dX4_reseed_0 rfl (lv_at hl 0 rfl) ?_
  refine va_get (D := D) (ci := 4) (v := .int (nI 0)) (C := RX4) (T := TX4) (N := 22) hx hb hts hw_X4 hown hK hP 0 rfl rfl 10 (by decide) hf_154 (fun _ h9 => h9) rfl dX4_reseed_1 ?_
  refine lv_if_eq (tgt := 14) hx hb dX4_reseed_4 (by decide) (fun c_4 => ?_) (fun c_4 => ?_)
  ·
    refine lv_iconst (v := 0) hx hb dX4_reseed_14 (by decide) ?_
    rw [hQ]
    have hP9 : va_P D vwCl [(zm, .inr (4, [.int flt, .ref zrt, .ref zfi, .ref zsu, .ref zwo, .ref zro, .int (nI 0), .ref zdi, .ref zpa, .ref zin, .int (nI 0), .ref zow, .int os_, .int sd, .ref zke, .ref zva, .ref zle, .int ct, .int iv, .int dw, .ref zdr, .int ds]))] s.heap := hP
    have hD9 : va_D A [(zm, .inr (4, [.int flt, .ref zrt, .ref zfi, .ref zsu, .ref zwo, .ref zro, .int (nI 0), .ref zdi, .ref zpa, .ref zin, .int (nI 0), .ref zow, .int os_, .int sd, .ref zke, .ref zva, .ref zle, .int ct, .int iv, .int dw, .ref zdr, .int ds]))] := hD
    exact W.iret (v := 0) hx hb hr (fun t ht hW => ⟨⟨0, (), rfl, rfl, ⟨by rw [ht]; exact hP9, va_K.moved hW.alike hK, hD9⟩⟩, hS.F ht⟩) hS.2.2 dX4_reseed_15
  ·
    exact absurd (show nI 0 = 0 from rfl) c_4

def rm_X4_reseed_ok : Room := ({ frames := 6, cells := 0, slots := 0, locals := 139 } : Room)
set_option maxHeartbeats 4000000 in
set_option maxRecDepth 100000 in
/-- reseed -/
theorem sc_X4_reseed_ok (l : Launch) (D : va_G) (cI : ClassId) (th : Option (Nat × Nat)) (sz : Nat) (zm zrt zfi zsu zwo zro zdi zpa zin zow zke zva zle zdr : Nat) (flt is_ os_ sd ct iv dw ds : Int32) (gs gw gr gd gp : Nat → Int32) (ni : Nat) (gi gk gv gl : Nat → Int32) (hn0 : 0 < ni) (hni : ni ≤ 300) (hgi : ∀ j, j < ni → sm_by (gi j)) (hgk : ∀ j, j < 32 → sm_by (gk j)) (hgv : ∀ j, j < 32 → sm_by (gv j)) : Met l yX4_reseed wsX4_reseed rm_X4_reseed_ok (va_Pc [.ref zm] (sm_PW D cI th [(zm, .inr (4, [.int flt, .ref zrt, .ref zfi, .ref zsu, .ref zwo, .ref zro, .int (nI 0), .ref zdi, .ref zpa, .ref zin, .int (nI ni), .ref zow, .int os_, .int 1, .ref zke, .ref zva, .ref zle, .int ct, .int iv, .int dw, .ref zdr, .int ds])), (zrt, .inl (cI, 64, .inl sm_K)), (zfi, .inl (cI, 8, .inl sm_F)), (zsu, .inl (cI, 8, .inl gs)), (zwo, .inl (cI, 64, .inl gw)), (zro, .inl (cI, 512, .inl gr)), (zdi, .inl (cI, 32, .inl gd)), (zpa, .inl (cI, 64, .inl gp)), (zin, .inl (cI, 300, .inl gi)), (zke, .inl (cI, 32, .inl gk)), (zva, .inl (cI, 32, .inl gv)), (zle, .inl (cI, 32, .inl gl))] sz)) (va_Qi (fun (r : Int32) (_ : Unit) => r = 1) (fun _ t => ∃ (gs2 : Nat → Int32) (gw2 : Nat → Int32) (gr2 : Nat → Int32) (gd2 : Nat → Int32) (gp2 : Nat → Int32), sm_QW D cI (va_A [(zm, .inr (4, [.int flt, .ref zrt, .ref zfi, .ref zsu, .ref zwo, .ref zro, .int (nI 0), .ref zdi, .ref zpa, .ref zin, .int (nI ni), .ref zow, .int os_, .int 1, .ref zke, .ref zva, .ref zle, .int ct, .int iv, .int dw, .ref zdr, .int ds])), (zrt, .inl (cI, 64, .inl sm_K)), (zfi, .inl (cI, 8, .inl sm_F)), (zsu, .inl (cI, 8, .inl gs)), (zwo, .inl (cI, 64, .inl gw)), (zro, .inl (cI, 512, .inl gr)), (zdi, .inl (cI, 32, .inl gd)), (zpa, .inl (cI, 64, .inl gp)), (zin, .inl (cI, 300, .inl gi)), (zke, .inl (cI, 32, .inl gk)), (zva, .inl (cI, 32, .inl gv)), (zle, .inl (cI, 32, .inl gl))] sz) [(zm, .inr (4, [.int flt, .ref zrt, .ref zfi, .ref zsu, .ref zwo, .ref zro, .int (nI 0), .ref zdi, .ref zpa, .ref zin, .int (nI 0), .ref zow, .int os_, .int 1, .ref zke, .ref zva, .ref zle, .int (nI 1), .int iv, .int dw, .ref zdr, .int ds])), (zrt, .inl (cI, 64, .inl sm_K)), (zfi, .inl (cI, 8, .inl sm_F)), (zsu, .inl (cI, 8, .inl gs2)), (zwo, .inl (cI, 64, .inl gw2)), (zro, .inl (cI, 512, .inl gr2)), (zdi, .inl (cI, 32, .inl gd2)), (zpa, .inl (cI, 64, .inl gp2)), (zin, .inl (cI, 300, .inl gi)), (zke, .inl (cI, 32, .inl ((sm_stir (gk, gv) gi ni).1))), (zva, .inl (cI, 32, .inl ((sm_stir (gk, gv) gi ni).2))), (zle, .inl (cI, 32, .inl ((sm_stir (gk, gv) gi ni).2)))] t) (va_A [(zm, .inr (4, [.int flt, .ref zrt, .ref zfi, .ref zsu, .ref zwo, .ref zro, .int (nI 0), .ref zdi, .ref zpa, .ref zin, .int (nI ni), .ref zow, .int os_, .int 1, .ref zke, .ref zva, .ref zle, .int ct, .int iv, .int dw, .ref zdr, .int ds])), (zrt, .inl (cI, 64, .inl sm_K)), (zfi, .inl (cI, 8, .inl sm_F)), (zsu, .inl (cI, 8, .inl gs)), (zwo, .inl (cI, 64, .inl gw)), (zro, .inl (cI, 512, .inl gr)), (zdi, .inl (cI, 32, .inl gd)), (zpa, .inl (cI, 64, .inl gp)), (zin, .inl (cI, 300, .inl gi)), (zke, .inl (cI, 32, .inl gk)), (zva, .inl (cI, 32, .inl gv)), (zle, .inl (cI, 32, .inl gl))] sz)) 0 0 (va_A [(zm, .inr (4, [.int flt, .ref zrt, .ref zfi, .ref zsu, .ref zwo, .ref zro, .int (nI 0), .ref zdi, .ref zpa, .ref zin, .int (nI ni), .ref zow, .int os_, .int 1, .ref zke, .ref zva, .ref zle, .int ct, .int iv, .int dw, .ref zdr, .int ds])), (zrt, .inl (cI, 64, .inl sm_K)), (zfi, .inl (cI, 8, .inl sm_F)), (zsu, .inl (cI, 8, .inl gs)), (zwo, .inl (cI, 64, .inl gw)), (zro, .inl (cI, 512, .inl gr)), (zdi, .inl (cI, 32, .inl gd)), (zpa, .inl (cI, 64, .inl gp)), (zin, .inl (cI, 300, .inl gi)), (zke, .inl (cI, 32, .inl gk)), (zva, .inl (cI, 32, .inl gv)), (zle, .inl (cI, 32, .inl gl))] sz) := by
  refine Met.ofW (cc := cX4_reseed) (maxL := 1) (ret := (some .int)) (by decide) rfl ?_
  intro p e s m args below meth c s₁ B hml hv
  obtain ⟨rfl, hsz, hP, hK, hD0, hT⟩ := hv
  have hx := B.exec
  have hb := B.bytes
  have hr := B.returns
  have hts := atoms_spec (ws := wsX4_reseed) B.pre
  have hown : s.vm.findClass RX4 = some m.cls := findClass_of_methodNamed B.named
  have hlocks := B.notSynchronized
  subst hsz
  have hD := hD0.self (sz := s.heap.size)
  generalize hAe : va_A [(zm, .inr (4, [.int flt, .ref zrt, .ref zfi, .ref zsu, .ref zwo, .ref zro, .int (nI 0), .ref zdi, .ref zpa, .ref zin, .int (nI ni), .ref zow, .int os_, .int 1, .ref zke, .ref zva, .ref zle, .int ct, .int iv, .int dw, .ref zdr, .int ds])), (zrt, .inl (cI, 64, .inl sm_K)), (zfi, .inl (cI, 8, .inl sm_F)), (zsu, .inl (cI, 8, .inl gs)), (zwo, .inl (cI, 64, .inl gw)), (zro, .inl (cI, 512, .inl gr)), (zdi, .inl (cI, 32, .inl gd)), (zpa, .inl (cI, 64, .inl gp)), (zin, .inl (cI, 300, .inl gi)), (zke, .inl (cI, 32, .inl gk)), (zva, .inl (cI, 32, .inl gv)), (zle, .inl (cI, 32, .inl gl))] s.heap.size = A at hD hT ⊢
  have hA : ∀ q : Nat, s.heap.size ≤ q → A q := fun q h => by rw [← hAe]; exact Or.inr h
  have hS : va_S A s.heap s.heap [] := va_S.rf
  have hl := lv_entry ([.ref zm]) (n := 1) (Nat.le_of_ble_eq_true rfl)
  rw [lg_entry_eq]
  generalize (lg_sl ([.ref zm]) ++ List.replicate (1 - (lg_sl ([.ref zm])).length) Slot.unset).toArray = ls at hl ⊢
  have hl : lv_has ls 1 [(0, .ref zm)] := hl
  refine sm_name (fun Q hQ => ?_)
  have hf_154 := hts (.fieldLink RX4 154 "SeedMillModel" "inputSize" "I") (by decide +kernel)
  have hw_X4 : ∀ w ∈ wsX40, w ∈ wsX4_reseed := by decide +kernel
  have hf_165 := hts (.fieldLink RX4 165 "SeedMillModel" "isSeeded" "Z") (by decide +kernel)
  have hf_169 := hts (.fieldLink RX4 169 "SeedMillModel" "counter" "I") (by decide +kernel)
  refine lv_aload_n hx hb dX4_reseed_0 rfl (lv_at hl 0 rfl) ?_
  refine va_get (D := D) (ci := 4) (v := .int (nI ni)) (C := RX4) (T := TX4) (N := 22) hx hb hts hw_X4 hown hK hP 0 rfl rfl 10 (by decide) hf_154 (fun _ h9 => h9) rfl dX4_reseed_1 ?_
  refine lv_if_eq (tgt := 14) hx hb dX4_reseed_4 (by decide) (fun c_4 => ?_) (fun c_4 => ?_)
  ·
    exact absurd c_4 (nI_ne0 hn0 (by omega))
  ·
    refine lv_aload_n hx hb dX4_reseed_7 rfl (lv_at hl 0 rfl) ?_
    refine va_get (D := D) (ci := 4) (v := .int 1) (C := RX4) (T := TX4) (N := 22) hx hb hts hw_X4 hown hK hP 0 rfl rfl 13 (by decide) hf_165 (fun _ h9 => h9) rfl dX4_reseed_8 ?_
    refine lv_if_ne (tgt := 16) hx hb dX4_reseed_11 (by decide) (fun c_11 => ?_) (fun c_11 => ?_)
    ·
      refine lv_aload_n hx hb dX4_reseed_16 rfl (lv_at hl 0 rfl) ?_
      refine sm_callVv (wc := [(zm, .inr (4, [.int flt, .ref zrt, .ref zfi, .ref zsu, .ref zwo, .ref zro, .int (nI 0), .ref zdi, .ref zpa, .ref zin, .int (nI ni), .ref zow, .int os_, .int 1, .ref zke, .ref zva, .ref zle, .int ct, .int iv, .int dw, .ref zdr, .int ds])), (zrt, .inl (cI, 64, .inl sm_K)), (zfi, .inl (cI, 8, .inl sm_F)), (zsu, .inl (cI, 8, .inl gs)), (zwo, .inl (cI, 64, .inl gw)), (zro, .inl (cI, 512, .inl gr)), (zdi, .inl (cI, 32, .inl gd)), (zpa, .inl (cI, 64, .inl gp)), (zin, .inl (cI, 300, .inl gi)), (zke, .inl (cI, 32, .inl gk)), (zva, .inl (cI, 32, .inl gv)), (zle, .inl (cI, 32, .inl gl))]) (wr := []) (As := []) (rest := []) ⟨hx, hb, hml, hown, hts⟩ (sc_X4_stir l D cI th _ zm zrt zfi zsu zwo zro zdi zpa zin zow zke zva zle zdr flt (nI ni) os_ 1 ct iv dw ds gs gw gr gd gp ni gi gk gv gl (by omega) hgi hgk hgv) (cwV 0 hts gX4_reseed_X4_stir rfl rfl rfl (by decide +kernel) ⟨Nat.le_of_ble_eq_true rfl, Nat.le_of_ble_eq_true rfl⟩) hP hD hS hA hK hT [0, 1, 2, 3, 4, 5, 6, 7, 8, 9, 10, 11] [] rfl rfl rfl rfl (by decide) 0 4 rfl rfl rfl rfl hl.1 rfl (Nat.le_of_ble_eq_true rfl) dX4_reseed_17 ⟨Nat.zero_le _, Nat.zero_le _⟩ (fun zt H1 locs ht hvm hB hJ hS => ?_)
      obtain ⟨gs2, gw2, gr2, gd2, gp2, hP1, -, hD1⟩ := hB
      rw [ht] at hP1
      obtain ⟨hP, hD⟩ := hJ _ hP1 hD1
      clear hJ
      generalize H1 = H at hP hS ⊢
      have hP : va_P D vwCl [(zm, .inr (4, [.int flt, .ref zrt, .ref zfi, .ref zsu, .ref zwo, .ref zro, .int (nI 0), .ref zdi, .ref zpa, .ref zin, .int (nI ni), .ref zow, .int os_, .int 1, .ref zke, .ref zva, .ref zle, .int ct, .int iv, .int dw, .ref zdr, .int ds])), (zrt, .inl (cI, 64, .inl sm_K)), (zfi, .inl (cI, 8, .inl sm_F)), (zsu, .inl (cI, 8, .inl gs2)), (zwo, .inl (cI, 64, .inl gw2)), (zro, .inl (cI, 512, .inl gr2)), (zdi, .inl (cI, 32, .inl gd2)), (zpa, .inl (cI, 64, .inl gp2)), (zin, .inl (cI, 300, .inl gi)), (zke, .inl (cI, 32, .inl ((sm_stir (gk, gv) gi ni).1))), (zva, .inl (cI, 32, .inl ((sm_stir (gk, gv) gi ni).2))), (zle, .inl (cI, 32, .inl ((sm_stir (gk, gv) gi ni).2)))] H := hP.sub [0, 1, 2, 3, 4, 5, 6, 7, 8, 9, 10, 11] rfl
      have hD : va_D A [(zm, .inr (4, [.int flt, .ref zrt, .ref zfi, .ref zsu, .ref zwo, .ref zro, .int (nI 0), .ref zdi, .ref zpa, .ref zin, .int (nI ni), .ref zow, .int os_, .int 1, .ref zke, .ref zva, .ref zle, .int ct, .int iv, .int dw, .ref zdr, .int ds])), (zrt, .inl (cI, 64, .inl sm_K)), (zfi, .inl (cI, 8, .inl sm_F)), (zsu, .inl (cI, 8, .inl gs2)), (zwo, .inl (cI, 64, .inl gw2)), (zro, .inl (cI, 512, .inl gr2)), (zdi, .inl (cI, 32, .inl gd2)), (zpa, .inl (cI, 64, .inl gp2)), (zin, .inl (cI, 300, .inl gi)), (zke, .inl (cI, 32, .inl ((sm_stir (gk, gv) gi ni).1))), (zva, .inl (cI, 32, .inl ((sm_stir (gk, gv) gi ni).2))), (zle, .inl (cI, 32, .inl ((sm_stir (gk, gv) gi ni).2)))] := hD.sub [0, 1, 2, 3, 4, 5, 6, 7, 8, 9, 10, 11] rfl rfl
      refine lv_aload_n hx hb dX4_reseed_20 rfl (lv_at hl 0 rfl) ?_
      refine lv_iconst (v := 1) hx hb dX4_reseed_21 (by decide) ?_
      refine va_put (D := D) (ci := 4) (v := .int 1) (ty := .int) (C := RX4) (T := TX4) (N := 22) hx hb hts hw_X4 tyX4 tyX4_ok nmX4 hown hK hP hD hS 0 rfl rfl 17 (by decide) hf_169 (fun _ h9 => h9) rfl (by decide +kernel) rfl rfl (Nat.le_of_ble_eq_true rfl) dX4_reseed_22 (fun H locs hP hD hS => ?_)
      have hP : va_P D vwCl [(zm, .inr (4, [.int flt, .ref zrt, .ref zfi, .ref zsu, .ref zwo, .ref zro, .int (nI 0), .ref zdi, .ref zpa, .ref zin, .int (nI ni), .ref zow, .int os_, .int 1, .ref zke, .ref zva, .ref zle, .int 1, .int iv, .int dw, .ref zdr, .int ds])), (zrt, .inl (cI, 64, .inl sm_K)), (zfi, .inl (cI, 8, .inl sm_F)), (zsu, .inl (cI, 8, .inl gs2)), (zwo, .inl (cI, 64, .inl gw2)), (zro, .inl (cI, 512, .inl gr2)), (zdi, .inl (cI, 32, .inl gd2)), (zpa, .inl (cI, 64, .inl gp2)), (zin, .inl (cI, 300, .inl gi)), (zke, .inl (cI, 32, .inl ((sm_stir (gk, gv) gi ni).1))), (zva, .inl (cI, 32, .inl ((sm_stir (gk, gv) gi ni).2))), (zle, .inl (cI, 32, .inl ((sm_stir (gk, gv) gi ni).2)))] H := hP
      have hD : va_D A [(zm, .inr (4, [.int flt, .ref zrt, .ref zfi, .ref zsu, .ref zwo, .ref zro, .int (nI 0), .ref zdi, .ref zpa, .ref zin, .int (nI ni), .ref zow, .int os_, .int 1, .ref zke, .ref zva, .ref zle, .int 1, .int iv, .int dw, .ref zdr, .int ds])), (zrt, .inl (cI, 64, .inl sm_K)), (zfi, .inl (cI, 8, .inl sm_F)), (zsu, .inl (cI, 8, .inl gs2)), (zwo, .inl (cI, 64, .inl gw2)), (zro, .inl (cI, 512, .inl gr2)), (zdi, .inl (cI, 32, .inl gd2)), (zpa, .inl (cI, 64, .inl gp2)), (zin, .inl (cI, 300, .inl gi)), (zke, .inl (cI, 32, .inl ((sm_stir (gk, gv) gi ni).1))), (zva, .inl (cI, 32, .inl ((sm_stir (gk, gv) gi ni).2))), (zle, .inl (cI, 32, .inl ((sm_stir (gk, gv) gi ni).2)))] := hD
      refine lv_aload_n hx hb dX4_reseed_25 rfl (lv_at hl 0 rfl) ?_
      refine lv_iconst (v := 0) hx hb dX4_reseed_26 (by decide) ?_
      refine va_put (D := D) (ci := 4) (v := .int 0) (ty := .int) (C := RX4) (T := TX4) (N := 22) hx hb hts hw_X4 tyX4 tyX4_ok nmX4 hown hK hP hD hS 0 rfl rfl 10 (by decide) hf_154 (fun _ h9 => h9) rfl (by decide +kernel) rfl rfl (Nat.le_of_ble_eq_true rfl) dX4_reseed_27 (fun H locs hP hD hS => ?_)
      have hP : va_P D vwCl [(zm, .inr (4, [.int flt, .ref zrt, .ref zfi, .ref zsu, .ref zwo, .ref zro, .int (nI 0), .ref zdi, .ref zpa, .ref zin, .int 0, .ref zow, .int os_, .int 1, .ref zke, .ref zva, .ref zle, .int 1, .int iv, .int dw, .ref zdr, .int ds])), (zrt, .inl (cI, 64, .inl sm_K)), (zfi, .inl (cI, 8, .inl sm_F)), (zsu, .inl (cI, 8, .inl gs2)), (zwo, .inl (cI, 64, .inl gw2)), (zro, .inl (cI, 512, .inl gr2)), (zdi, .inl (cI, 32, .inl gd2)), (zpa, .inl (cI, 64, .inl gp2)), (zin, .inl (cI, 300, .inl gi)), (zke, .inl (cI, 32, .inl ((sm_stir (gk, gv) gi ni).1))), (zva, .inl (cI, 32, .inl ((sm_stir (gk, gv) gi ni).2))), (zle, .inl (cI, 32, .inl ((sm_stir (gk, gv) gi ni).2)))] H := hP
      have hD : va_D A [(zm, .inr (4, [.int flt, .ref zrt, .ref zfi, .ref zsu, .ref zwo, .ref zro, .int (nI 0), .ref zdi, .ref zpa, .ref zin, .int 0, .ref zow, .int os_, .int 1, .ref zke, .ref zva, .ref zle, .int 1, .int iv, .int dw, .ref zdr, .int ds])), (zrt, .inl (cI, 64, .inl sm_K)), (zfi, .inl (cI, 8, .inl sm_F)), (zsu, .inl (cI, 8, .inl gs2)), (zwo, .inl (cI, 64, .inl gw2)), (zro, .inl (cI, 512, .inl gr2)), (zdi, .inl (cI, 32, .inl gd2)), (zpa, .inl (cI, 64, .inl gp2)), (zin, .inl (cI, 300, .inl gi)), (zke, .inl (cI, 32, .inl ((sm_stir (gk, gv) gi ni).1))), (zva, .inl (cI, 32, .inl ((sm_stir (gk, gv) gi ni).2))), (zle, .inl (cI, 32, .inl ((sm_stir (gk, gv) gi ni).2)))] := hD
      refine lv_iconst (v := 1) hx hb dX4_reseed_30 (by decide) ?_
      rw [hQ]
      have hP9 : va_P D vwCl [(zm, .inr (4, [.int flt, .ref zrt, .ref zfi, .ref zsu, .ref zwo, .ref zro, .int (nI 0), .ref zdi, .ref zpa, .ref zin, .int (nI 0), .ref zow, .int os_, .int 1, .ref zke, .ref zva, .ref zle, .int (nI 1), .int iv, .int dw, .ref zdr, .int ds])), (zrt, .inl (cI, 64, .inl sm_K)), (zfi, .inl (cI, 8, .inl sm_F)), (zsu, .inl (cI, 8, .inl gs2)), (zwo, .inl (cI, 64, .inl gw2)), (zro, .inl (cI, 512, .inl gr2)), (zdi, .inl (cI, 32, .inl gd2)), (zpa, .inl (cI, 64, .inl gp2)), (zin, .inl (cI, 300, .inl gi)), (zke, .inl (cI, 32, .inl ((sm_stir (gk, gv) gi ni).1))), (zva, .inl (cI, 32, .inl ((sm_stir (gk, gv) gi ni).2))), (zle, .inl (cI, 32, .inl ((sm_stir (gk, gv) gi ni).2)))] H := hP
      have hD9 : va_D A [(zm, .inr (4, [.int flt, .ref zrt, .ref zfi, .ref zsu, .ref zwo, .ref zro, .int (nI 0), .ref zdi, .ref zpa, .ref zin, .int (nI 0), .ref zow, .int os_, .int 1, .ref zke, .ref zva, .ref zle, .int (nI 1), .int iv, .int dw, .ref zdr, .int ds])), (zrt, .inl (cI, 64, .inl sm_K)), (zfi, .inl (cI, 8, .inl sm_F)), (zsu, .inl (cI, 8, .inl gs2)), (zwo, .inl (cI, 64, .inl gw2)), (zro, .inl (cI, 512, .inl gr2)), (zdi, .inl (cI, 32, .inl gd2)), (zpa, .inl (cI, 64, .inl gp2)), (zin, .inl (cI, 300, .inl gi)), (zke, .inl (cI, 32, .inl ((sm_stir (gk, gv) gi ni).1))), (zva, .inl (cI, 32, .inl ((sm_stir (gk, gv) gi ni).2))), (zle, .inl (cI, 32, .inl ((sm_stir (gk, gv) gi ni).2)))] := hD
      exact W.iret (v := 1) hx hb hr (fun t ht hW => ⟨⟨1, (), rfl, rfl, ⟨_, _, _, _, _, by rw [ht]; exact hP9, va_K.moved hW.alike hK, hD9⟩⟩, hS.F ht⟩) hS.2.2 dX4_reseed_31
    ·
      exact absurd c_11 (by decide)

def rm_X4_draw_ns : Room := ({ frames := 6, cells := 0, slots := 0, locals := 139 } : Room)
set_option maxHeartbeats 4000000 in
set_option maxRecDepth 100000 in
/-- draw, not seeded -/
theorem sc_X4_draw_ns (l : Launch) (D : va_G) (cI : ClassId) (th : Option (Nat × Nat)) (sz : Nat) (zm zrt zfi zsu zwo zro zdi zpa zin zow zke zva zle zdr : Nat) (flt is_ os_ sd ct iv dw ds : Int32) (k : Int32)  : Met l yX4_draw wsX4_draw rm_X4_draw_ns (va_Pc [.ref zm, .int k] (sm_PW D cI th [(zm, .inr (4, [.int flt, .ref zrt, .ref zfi, .ref zsu, .ref zwo, .ref zro, .int (nI 0), .ref zdi, .ref zpa, .ref zin, .int is_, .ref zow, .int os_, .int 0, .ref zke, .ref zva, .ref zle, .int ct, .int iv, .int dw, .ref zdr, .int ds]))] sz)) (va_Qi (fun (r : Int32) (_ : Unit) => r = 1) (fun _ t => sm_QW D cI (va_A [(zm, .inr (4, [.int flt, .ref zrt, .ref zfi, .ref zsu, .ref zwo, .ref zro, .int (nI 0), .ref zdi, .ref zpa, .ref zin, .int is_, .ref zow, .int os_, .int 0, .ref zke, .ref zva, .ref zle, .int ct, .int iv, .int dw, .ref zdr, .int ds]))] sz) [(zm, .inr (4, [.int flt, .ref zrt, .ref zfi, .ref zsu, .ref zwo, .ref zro, .int (nI 0), .ref zdi, .ref zpa, .ref zin, .int is_, .ref zow, .int os_, .int 0, .ref zke, .ref zva, .ref zle, .int ct, .int iv, .int dw, .ref zdr, .int ds]))] t) (va_A [(zm, .inr (4, [.int flt, .ref zrt, .ref zfi, .ref zsu, .ref zwo, .ref zro, .int (nI 0), .ref zdi, .ref zpa, .ref zin, .int is_, .ref zow, .int os_, .int 0, .ref zke, .ref zva, .ref zle, .int ct, .int iv, .int dw, .ref zdr, .int ds]))] sz)) 0 0 (va_A [(zm, .inr (4, [.int flt, .ref zrt, .ref zfi, .ref zsu, .ref zwo, .ref zro, .int (nI 0), .ref zdi, .ref zpa, .ref zin, .int is_, .ref zow, .int os_, .int 0, .ref zke, .ref zva, .ref zle, .int ct, .int iv, .int dw, .ref zdr, .int ds]))] sz) := by
  refine Met.ofW (cc := cX4_draw) (maxL := 3) (ret := (some .int)) (by decide) rfl ?_
  intro p e s m args below meth c s₁ B hml hv
  obtain ⟨rfl, hsz, hP, hK, hD0, hT⟩ := hv
  have hx := B.exec
  have hb := B.bytes
  have hr := B.returns
  have hts := atoms_spec (ws := wsX4_draw) B.pre
  have hown : s.vm.findClass RX4 = some m.cls := findClass_of_methodNamed B.named
  have hlocks := B.notSynchronized
  subst hsz
  have hD := hD0.self (sz := s.heap.size)
  generalize hAe : va_A [(zm, .inr (4, [.int flt, .ref zrt, .ref zfi, .ref zsu, .ref zwo, .ref zro, .int (nI 0), .ref zdi, .ref zpa, .ref zin, .int is_, .ref zow, .int os_, .int 0, .ref zke, .ref zva, .ref zle, .int ct, .int iv, .int dw, .ref zdr, .int ds]))] s.heap.size = A at hD hT ⊢
  have hA : ∀ q : Nat, s.heap.size ≤ q → A q := fun q h => by rw [← hAe]; exact Or.inr h
  have hS : va_S A s.heap s.heap [] := va_S.rf
  have hl := lv_entry ([.ref zm, .int k]) (n := 3) (Nat.le_of_ble_eq_true rfl)
  rw [lg_entry_eq]
  generalize (lg_sl ([.ref zm, .int k]) ++ List.replicate (3 - (lg_sl ([.ref zm, .int k])).length) Slot.unset).toArray = ls at hl ⊢
  have hl : lv_has ls 3 [(0, .ref zm), (1, .int k)] := hl
  refine sm_name (fun Q hQ => ?_)
  have hf_165 := hts (.fieldLink RX4 165 "SeedMillModel" "isSeeded" "Z") (by decide +kernel)
  have hw_X4 : ∀ w ∈ wsX40, w ∈ wsX4_draw := by decide +kernel
  have hf_169 := hts (.fieldLink RX4 169 "SeedMillModel" "counter" "I") (by decide +kernel)
  have hf_118 := hts (.fieldLink RX4 118 "SeedMillModel" "interval" "I") (by decide +kernel)
  have hf_154 := hts (.fieldLink RX4 154 "SeedMillModel" "inputSize" "I") (by decide +kernel)
  have hf_122 := hts (.fieldLink RX4 122 "SeedMillModel" "drawn" "[I") (by decide +kernel)
  have hf_112 := hts (.fieldLink RX4 112 "SeedMillModel" "value" "[I") (by decide +kernel)
  have hf_172 := hts (.fieldLink RX4 172 "SeedMillModel" "drawnSize" "I") (by decide +kernel)
  have hf_175 := hts (.fieldLink RX4 175 "SeedMillModel" "draws" "I") (by decide +kernel)
  refine lv_aload_n hx hb dX4_draw_0 rfl (lv_at hl 0 rfl) ?_
  refine va_get (D := D) (ci := 4) (v := .int 0) (C := RX4) (T := TX4) (N := 22) hx hb hts hw_X4 hown hK hP 0 rfl rfl 13 (by decide) hf_165 (fun _ h9 => h9) rfl dX4_draw_1 ?_
  refine lv_if_ne (tgt := 9) hx hb dX4_draw_4 (by decide) (fun c_4 => ?_) (fun c_4 => ?_)
  ·
    exact absurd c_4 (by decide)
  ·
    refine lv_iconst (v := 1) hx hb dX4_draw_7 (by decide) ?_
    rw [hQ]
    have hP9 : va_P D vwCl [(zm, .inr (4, [.int flt, .ref zrt, .ref zfi, .ref zsu, .ref zwo, .ref zro, .int (nI 0), .ref zdi, .ref zpa, .ref zin, .int is_, .ref zow, .int os_, .int 0, .ref zke, .ref zva, .ref zle, .int ct, .int iv, .int dw, .ref zdr, .int ds]))] s.heap := hP
    have hD9 : va_D A [(zm, .inr (4, [.int flt, .ref zrt, .ref zfi, .ref zsu, .ref zwo, .ref zro, .int (nI 0), .ref zdi, .ref zpa, .ref zin, .int is_, .ref zow, .int os_, .int 0, .ref zke, .ref zva, .ref zle, .int ct, .int iv, .int dw, .ref zdr, .int ds]))] := hD
    exact W.iret (v := 1) hx hb hr (fun t ht hW => ⟨⟨1, (), rfl, rfl, ⟨by rw [ht]; exact hP9, va_K.moved hW.alike hK, hD9⟩⟩, hS.F ht⟩) hS.2.2 dX4_draw_8

def rm_X4_draw_bad : Room := ({ frames := 6, cells := 0, slots := 0, locals := 139 } : Room)
set_option maxHeartbeats 4000000 in
set_option maxRecDepth 100000 in
/-- draw, a wrong number -/
theorem sc_X4_draw_bad (l : Launch) (D : va_G) (cI : ClassId) (th : Option (Nat × Nat)) (sz : Nat) (zm zrt zfi zsu zwo zro zdi zpa zin zow zke zva zle zdr : Nat) (flt is_ os_ sd ct iv dw ds : Int32) (k : Int32) (hno : k < 1 ∨ 400 < k) : Met l yX4_draw wsX4_draw rm_X4_draw_bad (va_Pc [.ref zm, .int k] (sm_PW D cI th [(zm, .inr (4, [.int flt, .ref zrt, .ref zfi, .ref zsu, .ref zwo, .ref zro, .int (nI 0), .ref zdi, .ref zpa, .ref zin, .int is_, .ref zow, .int os_, .int 1, .ref zke, .ref zva, .ref zle, .int ct, .int iv, .int dw, .ref zdr, .int ds]))] sz)) (va_Qi (fun (r : Int32) (_ : Unit) => r = 2) (fun _ t => sm_QW D cI (va_A [(zm, .inr (4, [.int flt, .ref zrt, .ref zfi, .ref zsu, .ref zwo, .ref zro, .int (nI 0), .ref zdi, .ref zpa, .ref zin, .int is_, .ref zow, .int os_, .int 1, .ref zke, .ref zva, .ref zle, .int ct, .int iv, .int dw, .ref zdr, .int ds]))] sz) [(zm, .inr (4, [.int flt, .ref zrt, .ref zfi, .ref zsu, .ref zwo, .ref zro, .int (nI 0), .ref zdi, .ref zpa, .ref zin, .int is_, .ref zow, .int os_, .int 1, .ref zke, .ref zva, .ref zle, .int ct, .int iv, .int dw, .ref zdr, .int ds]))] t) (va_A [(zm, .inr (4, [.int flt, .ref zrt, .ref zfi, .ref zsu, .ref zwo, .ref zro, .int (nI 0), .ref zdi, .ref zpa, .ref zin, .int is_, .ref zow, .int os_, .int 1, .ref zke, .ref zva, .ref zle, .int ct, .int iv, .int dw, .ref zdr, .int ds]))] sz)) 0 0 (va_A [(zm, .inr (4, [.int flt, .ref zrt, .ref zfi, .ref zsu, .ref zwo, .ref zro, .int (nI 0), .ref zdi, .ref zpa, .ref zin, .int is_, .ref zow, .int os_, .int 1, .ref zke, .ref zva, .ref zle, .int ct, .int iv, .int dw, .ref zdr, .int ds]))] sz) := by
  refine Met.ofW (cc := cX4_draw) (maxL := 3) (ret := (some .int)) (by decide) rfl ?_
  intro p e s m args below meth c s₁ B hml hv
  obtain ⟨rfl, hsz, hP, hK, hD0, hT⟩ := hv
  have hx := B.exec
  have hb := B.bytes
  have hr := B.returns
  have hts := atoms_spec (ws := wsX4_draw) B.pre
  have hown : s.vm.findClass RX4 = some m.cls := findClass_of_methodNamed B.named
  have hlocks := B.notSynchronized
  subst hsz
  have hD := hD0.self (sz := s.heap.size)
  generalize hAe : va_A [(zm, .inr (4, [.int flt, .ref zrt, .ref zfi, .ref zsu, .ref zwo, .ref zro, .int (nI 0), .ref zdi, .ref zpa, .ref zin, .int is_, .ref zow, .int os_, .int 1, .ref zke, .ref zva, .ref zle, .int ct, .int iv, .int dw, .ref zdr, .int ds]))] s.heap.size = A at hD hT ⊢
  have hA : ∀ q : Nat, s.heap.size ≤ q → A q := fun q h => by rw [← hAe]; exact Or.inr h
  have hS : va_S A s.heap s.heap [] := va_S.rf
  have hl := lv_entry ([.ref zm, .int k]) (n := 3) (Nat.le_of_ble_eq_true rfl)
  rw [lg_entry_eq]
  generalize (lg_sl ([.ref zm, .int k]) ++ List.replicate (3 - (lg_sl ([.ref zm, .int k])).length) Slot.unset).toArray = ls at hl ⊢
  have hl : lv_has ls 3 [(0, .ref zm), (1, .int k)] := hl
  refine sm_name (fun Q hQ => ?_)
  have hf_165 := hts (.fieldLink RX4 165 "SeedMillModel" "isSeeded" "Z") (by decide +kernel)
  have hw_X4 : ∀ w ∈ wsX40, w ∈ wsX4_draw := by decide +kernel
  have hf_169 := hts (.fieldLink RX4 169 "SeedMillModel" "counter" "I") (by decide +kernel)
  have hf_118 := hts (.fieldLink RX4 118 "SeedMillModel" "interval" "I") (by decide +kernel)
  have hf_154 := hts (.fieldLink RX4 154 "SeedMillModel" "inputSize" "I") (by decide +kernel)
  have hf_122 := hts (.fieldLink RX4 122 "SeedMillModel" "drawn" "[I") (by decide +kernel)
  have hf_112 := hts (.fieldLink RX4 112 "SeedMillModel" "value" "[I") (by decide +kernel)
  have hf_172 := hts (.fieldLink RX4 172 "SeedMillModel" "drawnSize" "I") (by decide +kernel)
  have hf_175 := hts (.fieldLink RX4 175 "SeedMillModel" "draws" "I") (by decide +kernel)
  refine lv_aload_n hx hb dX4_draw_0 rfl (lv_at hl 0 rfl) ?_
  refine va_get (D := D) (ci := 4) (v := .int 1) (C := RX4) (T := TX4) (N := 22) hx hb hts hw_X4 hown hK hP 0 rfl rfl 13 (by decide) hf_165 (fun _ h9 => h9) rfl dX4_draw_1 ?_
  refine lv_if_ne (tgt := 9) hx hb dX4_draw_4 (by decide) (fun c_4 => ?_) (fun c_4 => ?_)
  ·
    refine lv_iload_n hx hb dX4_draw_9 rfl (lv_at hl 1 rfl) ?_
    refine lv_iconst (v := 1) hx hb dX4_draw_10 (by decide) ?_
    refine lv_icmp_lt (tgt := 21) hx hb dX4_draw_11 (by decide) (fun c_11 => ?_) (fun c_11 => ?_)
    ·
      refine lv_iconst (v := 2) hx hb dX4_draw_21 (by decide) ?_
      rw [hQ]
      have hP9 : va_P D vwCl [(zm, .inr (4, [.int flt, .ref zrt, .ref zfi, .ref zsu, .ref zwo, .ref zro, .int (nI 0), .ref zdi, .ref zpa, .ref zin, .int is_, .ref zow, .int os_, .int 1, .ref zke, .ref zva, .ref zle, .int ct, .int iv, .int dw, .ref zdr, .int ds]))] s.heap := hP
      have hD9 : va_D A [(zm, .inr (4, [.int flt, .ref zrt, .ref zfi, .ref zsu, .ref zwo, .ref zro, .int (nI 0), .ref zdi, .ref zpa, .ref zin, .int is_, .ref zow, .int os_, .int 1, .ref zke, .ref zva, .ref zle, .int ct, .int iv, .int dw, .ref zdr, .int ds]))] := hD
      exact W.iret (v := 2) hx hb hr (fun t ht hW => ⟨⟨2, (), rfl, rfl, ⟨by rw [ht]; exact hP9, va_K.moved hW.alike hK, hD9⟩⟩, hS.F ht⟩) hS.2.2 dX4_draw_22
    ·
      refine lv_iload_n hx hb dX4_draw_14 rfl (lv_at hl 1 rfl) ?_
      refine lv_sipush (v := 400) hx hb dX4_draw_15 (by decide) ?_
      refine lv_icmp_le (tgt := 23) hx hb dX4_draw_18 (by decide) (fun c_18 => ?_) (fun c_18 => ?_)
      ·
        exact absurd c_18 (Int32.not_le.mpr (hno.resolve_left c_11))
      ·
        refine lv_iconst (v := 2) hx hb dX4_draw_21 (by decide) ?_
        rw [hQ]
        have hP9 : va_P D vwCl [(zm, .inr (4, [.int flt, .ref zrt, .ref zfi, .ref zsu, .ref zwo, .ref zro, .int (nI 0), .ref zdi, .ref zpa, .ref zin, .int is_, .ref zow, .int os_, .int 1, .ref zke, .ref zva, .ref zle, .int ct, .int iv, .int dw, .ref zdr, .int ds]))] s.heap := hP
        have hD9 : va_D A [(zm, .inr (4, [.int flt, .ref zrt, .ref zfi, .ref zsu, .ref zwo, .ref zro, .int (nI 0), .ref zdi, .ref zpa, .ref zin, .int is_, .ref zow, .int os_, .int 1, .ref zke, .ref zva, .ref zle, .int ct, .int iv, .int dw, .ref zdr, .int ds]))] := hD
        exact W.iret (v := 2) hx hb hr (fun t ht hW => ⟨⟨2, (), rfl, rfl, ⟨by rw [ht]; exact hP9, va_K.moved hW.alike hK, hD9⟩⟩, hS.F ht⟩) hS.2.2 dX4_draw_22
  ·
    exact absurd c_4 (by decide)

def rm_X4_draw_iv : Room := ({ frames := 6, cells := 0, slots := 0, locals := 139 } : Room)
set_option maxHeartbeats 4000000 in
set_option maxRecDepth 100000 in
/-- draw over the interval -/
theorem sc_X4_draw_iv (l : Launch) (D : va_G) (cI : ClassId) (th : Option (Nat × Nat)) (sz : Nat) (zm zrt zfi zsu zwo zro zdi zpa zin zow zke zva zle zdr : Nat) (flt is_ os_ sd ct iv dw ds : Int32) (k : Int32) (h1 : ¬ k < 1) (h4 : ¬ 400 < k) (hiv : iv < ct) : Met l yX4_draw wsX4_draw rm_X4_draw_iv (va_Pc [.ref zm, .int k] (sm_PW D cI th [(zm, .inr (4, [.int flt, .ref zrt, .ref zfi, .ref zsu, .ref zwo, .ref zro, .int (nI 0), .ref zdi, .ref zpa, .ref zin, .int is_, .ref zow, .int os_, .int 1, .ref zke, .ref zva, .ref zle, .int ct, .int iv, .int dw, .ref zdr, .int ds]))] sz)) (va_Qi (fun (r : Int32) (_ : Unit) => r = 3) (fun _ t => sm_QW D cI (va_A [(zm, .inr (4, [.int flt, .ref zrt, .ref zfi, .ref zsu, .ref zwo, .ref zro, .int (nI 0), .ref zdi, .ref zpa, .ref zin, .int is_, .ref zow, .int os_, .int 1, .ref zke, .ref zva, .ref zle, .int ct, .int iv, .int dw, .ref zdr, .int ds]))] sz) [(zm, .inr (4, [.int flt, .ref zrt, .ref zfi, .ref zsu, .ref zwo, .ref zro, .int (nI 0), .ref zdi, .ref zpa, .ref zin, .int is_, .ref zow, .int os_, .int 1, .ref zke, .ref zva, .ref zle, .int ct, .int iv, .int dw, .ref zdr, .int ds]))] t) (va_A [(zm, .inr (4, [.int flt, .ref zrt, .ref zfi, .ref zsu, .ref zwo, .ref zro, .int (nI 0), .ref zdi, .ref zpa, .ref zin, .int is_, .ref zow, .int os_, .int 1, .ref zke, .ref zva, .ref zle, .int ct, .int iv, .int dw, .ref zdr, .int ds]))] sz)) 0 0 (va_A [(zm, .inr (4, [.int flt, .ref zrt, .ref zfi, .ref zsu, .ref zwo, .ref zro, .int (nI 0), .ref zdi, .ref zpa, .ref zin, .int is_, .ref zow, .int os_, .int 1, .ref zke, .ref zva, .ref zle, .int ct, .int iv, .int dw, .ref zdr, .int ds]))] sz) := by
  refine Met.ofW (cc := cX4_draw) (maxL := 3) (ret := (some .int)) (by decide) rfl ?_
  intro p e s m args below meth c s₁ B hml hv
  obtain ⟨rfl, hsz, hP, hK, hD0, hT⟩ := hv
  have hx := B.exec
  have hb := B.bytes
  have hr := B.returns
  have hts := atoms_spec (ws := wsX4_draw) B.pre
  have hown : s.vm.findClass RX4 = some m.cls := findClass_of_methodNamed B.named
  have hlocks := B.notSynchronized
  subst hsz
  have hD := hD0.self (sz := s.heap.size)
  generalize hAe : va_A [(zm, .inr (4, [.int flt, .ref zrt, .ref zfi, .ref zsu, .ref zwo, .ref zro, .int (nI 0), .ref zdi, .ref zpa, .ref zin, .int is_, .ref zow, .int os_, .int 1, .ref zke, .ref zva, .ref zle, .int ct, .int iv, .int dw, .ref zdr, .int ds]))] s.heap.size = A at hD hT ⊢
  have hA : ∀ q : Nat, s.heap.size ≤ q → A q := fun q h => by rw [← hAe]; exact Or.inr h
  have hS : va_S A s.heap s.heap [] := va_S.rf
  have hl := lv_entry ([.ref zm, .int k]) (n := 3) (Nat.le_of_ble_eq_true rfl)
  rw [lg_entry_eq]
  generalize (lg_sl ([.ref zm, .int k]) ++ List.replicate (3 - (lg_sl ([.ref zm, .int k])).length) Slot.unset).toArray = ls at hl ⊢
  have hl : lv_has ls 3 [(0, .ref zm), (1, .int k)] := hl
  refine sm_name (fun Q hQ => ?_)
  have hf_165 := hts (.fieldLink RX4 165 "SeedMillModel" "isSeeded" "Z") (by decide +kernel)
  have hw_X4 : ∀ w ∈ wsX40, w ∈ wsX4_draw := by decide +kernel
  have hf_169 := hts (.fieldLink RX4 169 "SeedMillModel" "counter" "I") (by decide +kernel)
  have hf_118 := hts (.fieldLink RX4 118 "SeedMillModel" "interval" "I") (by decide +kernel)
  have hf_154 := hts (.fieldLink RX4 154 "SeedMillModel" "inputSize" "I") (by decide +kernel)
  have hf_122 := hts (.fieldLink RX4 122 "SeedMillModel" "drawn" "[I") (by decide +kernel)
  have hf_112 := hts (.fieldLink RX4 112 "SeedMillModel" "value" "[I") (by decide +kernel)
  have hf_172 := hts (.fieldLink RX4 172 "SeedMillModel" "drawnSize" "I") (by decide +kernel)
  have hf_175 := hts (.fieldLink RX4 175 "SeedMillModel" "draws" "I") (by decide +kernel)
  refine lv_aload_n hx hb dX4_draw_0 rfl (lv_at hl 0 rfl) ?_
  refine va_get (D := D) (ci := 4) (v := .int 1) (C := RX4) (T := TX4) (N := 22) hx hb hts hw_X4 hown hK hP 0 rfl rfl 13 (by decide) hf_165 (fun _ h9 => h9) rfl dX4_draw_1 ?_
  refine lv_if_ne (tgt := 9) hx hb dX4_draw_4 (by decide) (fun c_4 => ?_) (fun c_4 => ?_)
  ·
    refine lv_iload_n hx hb dX4_draw_9 rfl (lv_at hl 1 rfl) ?_
    refine lv_iconst (v := 1) hx hb dX4_draw_10 (by decide) ?_
    refine lv_icmp_lt (tgt := 21) hx hb dX4_draw_11 (by decide) (fun c_11 => ?_) (fun c_11 => ?_)
    ·
      exact absurd c_11 h1
    ·
      refine lv_iload_n hx hb dX4_draw_14 rfl (lv_at hl 1 rfl) ?_
      refine lv_sipush (v := 400) hx hb dX4_draw_15 (by decide) ?_
      refine lv_icmp_le (tgt := 23) hx hb dX4_draw_18 (by decide) (fun c_18 => ?_) (fun c_18 => ?_)
      ·
        refine lv_aload_n hx hb dX4_draw_23 rfl (lv_at hl 0 rfl) ?_
        refine va_get (D := D) (ci := 4) (v := .int ct) (C := RX4) (T := TX4) (N := 22) hx hb hts hw_X4 hown hK hP 0 rfl rfl 17 (by decide) hf_169 (fun _ h9 => h9) rfl dX4_draw_24 ?_
        refine lv_aload_n hx hb dX4_draw_27 rfl (lv_at hl 0 rfl) ?_
        refine va_get (D := D) (ci := 4) (v := .int iv) (C := RX4) (T := TX4) (N := 22) hx hb hts hw_X4 hown hK hP 0 rfl rfl 18 (by decide) hf_118 (fun _ h9 => h9) rfl dX4_draw_28 ?_
        refine lv_icmp_le (tgt := 36) hx hb dX4_draw_31 (by decide) (fun c_31 => ?_) (fun c_31 => ?_)
        ·
          exact absurd c_31 (Int32.not_le.mpr hiv)
        ·
          refine lv_iconst (v := 3) hx hb dX4_draw_34 (by decide) ?_
          rw [hQ]
          have hP9 : va_P D vwCl [(zm, .inr (4, [.int flt, .ref zrt, .ref zfi, .ref zsu, .ref zwo, .ref zro, .int (nI 0), .ref zdi, .ref zpa, .ref zin, .int is_, .ref zow, .int os_, .int 1, .ref zke, .ref zva, .ref zle, .int ct, .int iv, .int dw, .ref zdr, .int ds]))] s.heap := hP
          have hD9 : va_D A [(zm, .inr (4, [.int flt, .ref zrt, .ref zfi, .ref zsu, .ref zwo, .ref zro, .int (nI 0), .ref zdi, .ref zpa, .ref zin, .int is_, .ref zow, .int os_, .int 1, .ref zke, .ref zva, .ref zle, .int ct, .int iv, .int dw, .ref zdr, .int ds]))] := hD
          exact W.iret (v := 3) hx hb hr (fun t ht hW => ⟨⟨3, (), rfl, rfl, ⟨by rw [ht]; exact hP9, va_K.moved hW.alike hK, hD9⟩⟩, hS.F ht⟩) hS.2.2 dX4_draw_35
      ·
        exact absurd (Int32.not_lt.mp h4) c_18
  ·
    exact absurd c_4 (by decide)

def rm_X4_draw_ok0 : Room := ({ frames := 6, cells := 0, slots := 0, locals := 139 } : Room)
set_option maxHeartbeats 4000000 in
set_option maxRecDepth 100000 in
/-- draw -/
theorem sc_X4_draw_ok0 (l : Launch) (D : va_G) (cI : ClassId) (th : Option (Nat × Nat)) (sz : Nat) (zm zrt zfi zsu zwo zro zdi zpa zin zow zke zva zle zdr : Nat) (flt is_ os_ sd ct iv dw ds : Int32) (gs gw gr gd gp : Nat → Int32) (ni n : Nat) (gi gk gv gl gD : Nat → Int32) (hn1 : 1 ≤ n) (hn4 : n ≤ 400) (hiv : ct ≤ iv) (hgk : ∀ j, j < 32 → sm_by (gk j)) (hgv : ∀ j, j < 32 → sm_by (gv j)) : Met l yX4_draw wsX4_draw rm_X4_draw_ok0 (va_Pc [.ref zm, .int (nI n)] (sm_PW D cI th [(zm, .inr (4, [.int flt, .ref zrt, .ref zfi, .ref zsu, .ref zwo, .ref zro, .int (nI 0), .ref zdi, .ref zpa, .ref zin, .int (nI 0), .ref zow, .int os_, .int 1, .ref zke, .ref zva, .ref zle, .int ct, .int iv, .int dw, .ref zdr, .int ds])), (zrt, .inl (cI, 64, .inl sm_K)), (zfi, .inl (cI, 8, .inl sm_F)), (zsu, .inl (cI, 8, .inl gs)), (zwo, .inl (cI, 64, .inl gw)), (zro, .inl (cI, 512, .inl gr)), (zdi, .inl (cI, 32, .inl gd)), (zpa, .inl (cI, 64, .inl gp)), (zin, .inl (cI, 300, .inl gi)), (zke, .inl (cI, 32, .inl gk)), (zva, .inl (cI, 32, .inl gv)), (zle, .inl (cI, 32, .inl gl)), (zdr, .inl (cI, 400, .inl gD))] sz)) (va_Qi (fun (r : Int32) (_ : Unit) => r = 0) (fun _ t => ∃ (gs2 : Nat → Int32) (gw2 : Nat → Int32) (gr2 : Nat → Int32) (gd2 : Nat → Int32) (gp2 : Nat → Int32), sm_QW D cI (va_A [(zm, .inr (4, [.int flt, .ref zrt, .ref zfi, .ref zsu, .ref zwo, .ref zro, .int (nI 0), .ref zdi, .ref zpa, .ref zin, .int (nI 0), .ref zow, .int os_, .int 1, .ref zke, .ref zva, .ref zle, .int ct, .int iv, .int dw, .ref zdr, .int ds])), (zrt, .inl (cI, 64, .inl sm_K)), (zfi, .inl (cI, 8, .inl sm_F)), (zsu, .inl (cI, 8, .inl gs)), (zwo, .inl (cI, 64, .inl gw)), (zro, .inl (cI, 512, .inl gr)), (zdi, .inl (cI, 32, .inl gd)), (zpa, .inl (cI, 64, .inl gp)), (zin, .inl (cI, 300, .inl gi)), (zke, .inl (cI, 32, .inl gk)), (zva, .inl (cI, 32, .inl gv)), (zle, .inl (cI, 32, .inl gl)), (zdr, .inl (cI, 400, .inl gD))] sz) [(zm, .inr (4, [.int flt, .ref zrt, .ref zfi, .ref zsu, .ref zwo, .ref zro, .int (nI 0), .ref zdi, .ref zpa, .ref zin, .int (nI 0), .ref zow, .int os_, .int 1, .ref zke, .ref zva, .ref zle, .int (ct + 1), .int iv, .int (dw + 1), .ref zdr, .int (nI n)])), (zrt, .inl (cI, 64, .inl sm_K)), (zfi, .inl (cI, 8, .inl sm_F)), (zsu, .inl (cI, 8, .inl gs2)), (zwo, .inl (cI, 64, .inl gw2)), (zro, .inl (cI, 512, .inl gr2)), (zdi, .inl (cI, 32, .inl gd2)), (zpa, .inl (cI, 64, .inl gp2)), (zin, .inl (cI, 300, .inl gi)), (zke, .inl (cI, 32, .inl ((sm_stir (gk, sm_vs gk gv ((n + 31) / 32)) gi 0).1))), (zva, .inl (cI, 32, .inl ((sm_stir (gk, sm_vs gk gv ((n + 31) / 32)) gi 0).2))), (zle, .inl (cI, 32, .inl ((sm_stir (gk, sm_vs gk gv ((n + 31) / 32)) gi 0).2))), (zdr, .inl (cI, 400, .inl (sm_ap gD 0 (sm_dr gk gv) n)))] t) (va_A [(zm, .inr (4, [.int flt, .ref zrt, .ref zfi, .ref zsu, .ref zwo, .ref zro, .int (nI 0), .ref zdi, .ref zpa, .ref zin, .int (nI 0), .ref zow, .int os_, .int 1, .ref zke, .ref zva, .ref zle, .int ct, .int iv, .int dw, .ref zdr, .int ds])), (zrt, .inl (cI, 64, .inl sm_K)), (zfi, .inl (cI, 8, .inl sm_F)), (zsu, .inl (cI, 8, .inl gs)), (zwo, .inl (cI, 64, .inl gw)), (zro, .inl (cI, 512, .inl gr)), (zdi, .inl (cI, 32, .inl gd)), (zpa, .inl (cI, 64, .inl gp)), (zin, .inl (cI, 300, .inl gi)), (zke, .inl (cI, 32, .inl gk)), (zva, .inl (cI, 32, .inl gv)), (zle, .inl (cI, 32, .inl gl)), (zdr, .inl (cI, 400, .inl gD))] sz)) 0 0 (va_A [(zm, .inr (4, [.int flt, .ref zrt, .ref zfi, .ref zsu, .ref zwo, .ref zro, .int (nI 0), .ref zdi, .ref zpa, .ref zin, .int (nI 0), .ref zow, .int os_, .int 1, .ref zke, .ref zva, .ref zle, .int ct, .int iv, .int dw, .ref zdr, .int ds])), (zrt, .inl (cI, 64, .inl sm_K)), (zfi, .inl (cI, 8, .inl sm_F)), (zsu, .inl (cI, 8, .inl gs)), (zwo, .inl (cI, 64, .inl gw)), (zro, .inl (cI, 512, .inl gr)), (zdi, .inl (cI, 32, .inl gd)), (zpa, .inl (cI, 64, .inl gp)), (zin, .inl (cI, 300, .inl gi)), (zke, .inl (cI, 32, .inl gk)), (zva, .inl (cI, 32, .inl gv)), (zle, .inl (cI, 32, .inl gl)), (zdr, .inl (cI, 400, .inl gD))] sz) := by
  refine Met.ofW (cc := cX4_draw) (maxL := 3) (ret := (some .int)) (by decide) rfl ?_
  intro p e s m args below meth c s₁ B hml hv
  obtain ⟨rfl, hsz, hP, hK, hD0, hT⟩ := hv
  have hx := B.exec
  have hb := B.bytes
  have hr := B.returns
  have hts := atoms_spec (ws := wsX4_draw) B.pre
  have hown : s.vm.findClass RX4 = some m.cls := findClass_of_methodNamed B.named
  have hlocks := B.notSynchronized
  subst hsz
  have hD := hD0.self (sz := s.heap.size)
  generalize hAe : va_A [(zm, .inr (4, [.int flt, .ref zrt, .ref zfi, .ref zsu, .ref zwo, .ref zro, .int (nI 0), .ref zdi, .ref zpa, .ref zin, .int (nI 0), .ref zow, .int os_, .int 1, .ref zke, .ref zva, .ref zle, .int ct, .int iv, .int dw, .ref zdr, .int ds])), (zrt, .inl (cI, 64, .inl sm_K)), (zfi, .inl (cI, 8, .inl sm_F)), (zsu, .inl (cI, 8, .inl gs)), (zwo, .inl (cI, 64, .inl gw)), (zro, .inl (cI, 512, .inl gr)), (zdi, .inl (cI, 32, .inl gd)), (zpa, .inl (cI, 64, .inl gp)), (zin, .inl (cI, 300, .inl gi)), (zke, .inl (cI, 32, .inl gk)), (zva, .inl (cI, 32, .inl gv)), (zle, .inl (cI, 32, .inl gl)), (zdr, .inl (cI, 400, .inl gD))] s.heap.size = A at hD hT ⊢
  have hA : ∀ q : Nat, s.heap.size ≤ q → A q := fun q h => by rw [← hAe]; exact Or.inr h
  have hS : va_S A s.heap s.heap [] := va_S.rf
  have hl := lv_entry ([.ref zm, .int (nI n)]) (n := 3) (Nat.le_of_ble_eq_true rfl)
  rw [lg_entry_eq]
  generalize (lg_sl ([.ref zm, .int (nI n)]) ++ List.replicate (3 - (lg_sl ([.ref zm, .int (nI n)])).length) Slot.unset).toArray = ls at hl ⊢
  have hl : lv_has ls 3 [(0, .ref zm), (1, .int (nI n))] := hl
  refine sm_name (fun Q hQ => ?_)
  have hf_165 := hts (.fieldLink RX4 165 "SeedMillModel" "isSeeded" "Z") (by decide +kernel)
  have hw_X4 : ∀ w ∈ wsX40, w ∈ wsX4_draw := by decide +kernel
  have hf_169 := hts (.fieldLink RX4 169 "SeedMillModel" "counter" "I") (by decide +kernel)
  have hf_118 := hts (.fieldLink RX4 118 "SeedMillModel" "interval" "I") (by decide +kernel)
  have hf_154 := hts (.fieldLink RX4 154 "SeedMillModel" "inputSize" "I") (by decide +kernel)
  have hf_122 := hts (.fieldLink RX4 122 "SeedMillModel" "drawn" "[I") (by decide +kernel)
  have hf_112 := hts (.fieldLink RX4 112 "SeedMillModel" "value" "[I") (by decide +kernel)
  have hf_172 := hts (.fieldLink RX4 172 "SeedMillModel" "drawnSize" "I") (by decide +kernel)
  have hf_175 := hts (.fieldLink RX4 175 "SeedMillModel" "draws" "I") (by decide +kernel)
  have hgi : ∀ j, j < 0 → sm_by (gi j) := fun _ h => absurd h (Nat.not_lt_zero _)
  refine lv_aload_n hx hb dX4_draw_0 rfl (lv_at hl 0 rfl) ?_
  refine va_get (D := D) (ci := 4) (v := .int 1) (C := RX4) (T := TX4) (N := 22) hx hb hts hw_X4 hown hK hP 0 rfl rfl 13 (by decide) hf_165 (fun _ h9 => h9) rfl dX4_draw_1 ?_
  refine lv_if_ne (tgt := 9) hx hb dX4_draw_4 (by decide) (fun c_4 => ?_) (fun c_4 => ?_)
  ·
    refine lv_iload_n hx hb dX4_draw_9 rfl (lv_at hl 1 rfl) ?_
    refine lv_iconst (v := 1) hx hb dX4_draw_10 (by decide) ?_
    refine lv_icmp_lt (tgt := 21) hx hb dX4_draw_11 (by decide) (fun c_11 => ?_) (fun c_11 => ?_)
    ·
      exact absurd c_11 (nI_nlt (b := 1) hn1 (by omega))
    ·
      refine lv_iload_n hx hb dX4_draw_14 rfl (lv_at hl 1 rfl) ?_
      refine lv_sipush (v := 400) hx hb dX4_draw_15 (by decide) ?_
      refine lv_icmp_le (tgt := 23) hx hb dX4_draw_18 (by decide) (fun c_18 => ?_) (fun c_18 => ?_)
      ·
        refine lv_aload_n hx hb dX4_draw_23 rfl (lv_at hl 0 rfl) ?_
        refine va_get (D := D) (ci := 4) (v := .int ct) (C := RX4) (T := TX4) (N := 22) hx hb hts hw_X4 hown hK hP 0 rfl rfl 17 (by decide) hf_169 (fun _ h9 => h9) rfl dX4_draw_24 ?_
        refine lv_aload_n hx hb dX4_draw_27 rfl (lv_at hl 0 rfl) ?_
        refine va_get (D := D) (ci := 4) (v := .int iv) (C := RX4) (T := TX4) (N := 22) hx hb hts hw_X4 hown hK hP 0 rfl rfl 18 (by decide) hf_118 (fun _ h9 => h9) rfl dX4_draw_28 ?_
        refine lv_icmp_le (tgt := 36) hx hb dX4_draw_31 (by decide) (fun c_31 => ?_) (fun c_31 => ?_)
        ·
          refine lv_aload_n hx hb dX4_draw_36 rfl (lv_at hl 0 rfl) ?_
          refine va_get (D := D) (ci := 4) (v := .int (nI 0)) (C := RX4) (T := TX4) (N := 22) hx hb hts hw_X4 hown hK hP 0 rfl rfl 10 (by decide) hf_154 (fun _ h9 => h9) rfl dX4_draw_37 ?_
          refine lv_if_le (tgt := 47) hx hb dX4_draw_40 (by decide) (fun c_40 => ?_) (fun c_40 => ?_)
          ·
            refine lv_iconst (v := 0) hx hb dX4_draw_47 (by decide) ?_
            refine lv_istore_n (lv' := [(2, .int 0), (0, .ref zm), (1, .int (nI n))]) hx hb dX4_draw_48 rfl hl (by decide) rfl (fun ls hl => ?_)
            have lp49 : ∀ (zn : Nat) (k : Nat) (gsL : Nat → Int32) (gwL : Nat → Int32) (grL : Nat → Int32) (gdL : Nat → Int32) (gpL : Nat → Int32) (H : Heap) (locs : List Loc) (ls : Array Slot), n - k < zn → k ≤ n → va_P D vwCl [(zm, .inr (4, [.int flt, .ref zrt, .ref zfi, .ref zsu, .ref zwo, .ref zro, .int (nI 0), .ref zdi, .ref zpa, .ref zin, .int (nI 0), .ref zow, .int os_, .int 1, .ref zke, .ref zva, .ref zle, .int ct, .int iv, .int dw, .ref zdr, .int ds])), (zrt, .inl (cI, 64, .inl sm_K)), (zfi, .inl (cI, 8, .inl sm_F)), (zsu, .inl (cI, 8, .inl gsL)), (zwo, .inl (cI, 64, .inl gwL)), (zro, .inl (cI, 512, .inl grL)), (zdi, .inl (cI, 32, .inl gdL)), (zpa, .inl (cI, 64, .inl gpL)), (zin, .inl (cI, 300, .inl gi)), (zke, .inl (cI, 32, .inl gk)), (zva, .inl (cI, 32, .inl (sm_vs gk gv ((k + 31) / 32)))), (zle, .inl (cI, 32, .inl gl)), (zdr, .inl (cI, 400, .inl (sm_ap gD 0 (sm_dr gk gv) k)))] H → va_D A [(zm, .inr (4, [.int flt, .ref zrt, .ref zfi, .ref zsu, .ref zwo, .ref zro, .int (nI 0), .ref zdi, .ref zpa, .ref zin, .int (nI 0), .ref zow, .int os_, .int 1, .ref zke, .ref zva, .ref zle, .int ct, .int iv, .int dw, .ref zdr, .int ds])), (zrt, .inl (cI, 64, .inl sm_K)), (zfi, .inl (cI, 8, .inl sm_F)), (zsu, .inl (cI, 8, .inl gsL)), (zwo, .inl (cI, 64, .inl gwL)), (zro, .inl (cI, 512, .inl grL)), (zdi, .inl (cI, 32, .inl gdL)), (zpa, .inl (cI, 64, .inl gpL)), (zin, .inl (cI, 300, .inl gi)), (zke, .inl (cI, 32, .inl gk)), (zva, .inl (cI, 32, .inl (sm_vs gk gv ((k + 31) / 32)))), (zle, .inl (cI, 32, .inl gl)), (zdr, .inl (cI, 400, .inl (sm_ap gD 0 (sm_dr gk gv) k)))] → va_S A s.heap H locs → lv_has ls 3 [(2, .int (nI k)), (0, .ref zm), (1, .int (nI n))] → W p l e (headSpec wsX4_draw rm_X4_draw_ok0).room s m ([.ref zm, .int (nI n)] : List Value).toArray below meth c H locs 0 0 Q (F0 m 49 ls []) := by
              intro zn
              induction zn with
              | zero => intro k gsL gwL grL gdL gpL H locs ls hmu; exact absurd hmu (Nat.not_lt_zero _)
              | succ zn ih =>
                intro k gsL gwL grL gdL gpL H locs ls hmu hk1 hP hD hS hl
                refine lv_iload_n hx hb dX4_draw_49 rfl (lv_at hl 0 rfl) ?_
                refine lv_iload_n hx hb dX4_draw_50 rfl (lv_at hl 2 rfl) ?_
                refine lv_icmp_ge (tgt := 86) hx hb dX4_draw_51 (by decide) (fun c_51 => ?_) (fun c_51 => ?_)
                ·
                  have hex : k = n := by
                    rcases Nat.lt_or_ge k n with q | q
                    · exact absurd c_51 (nI_ge q (by omega))
                    · omega
                  rw [hex] at hP hD
                  have hP : va_P D vwCl [(zm, .inr (4, [.int flt, .ref zrt, .ref zfi, .ref zsu, .ref zwo, .ref zro, .int (nI 0), .ref zdi, .ref zpa, .ref zin, .int (nI 0), .ref zow, .int os_, .int 1, .ref zke, .ref zva, .ref zle, .int ct, .int iv, .int dw, .ref zdr, .int ds])), (zrt, .inl (cI, 64, .inl sm_K)), (zfi, .inl (cI, 8, .inl sm_F)), (zsu, .inl (cI, 8, .inl gsL)), (zwo, .inl (cI, 64, .inl gwL)), (zro, .inl (cI, 512, .inl grL)), (zdi, .inl (cI, 32, .inl gdL)), (zpa, .inl (cI, 64, .inl gpL)), (zin, .inl (cI, 300, .inl gi)), (zke, .inl (cI, 32, .inl gk)), (zva, .inl (cI, 32, .inl (sm_vs gk gv ((n + 31) / 32)))), (zle, .inl (cI, 32, .inl gl)), (zdr, .inl (cI, 400, .inl (sm_ap gD 0 (sm_dr gk gv) n)))] H := hP
                  have hD : va_D A [(zm, .inr (4, [.int flt, .ref zrt, .ref zfi, .ref zsu, .ref zwo, .ref zro, .int (nI 0), .ref zdi, .ref zpa, .ref zin, .int (nI 0), .ref zow, .int os_, .int 1, .ref zke, .ref zva, .ref zle, .int ct, .int iv, .int dw, .ref zdr, .int ds])), (zrt, .inl (cI, 64, .inl sm_K)), (zfi, .inl (cI, 8, .inl sm_F)), (zsu, .inl (cI, 8, .inl gsL)), (zwo, .inl (cI, 64, .inl gwL)), (zro, .inl (cI, 512, .inl grL)), (zdi, .inl (cI, 32, .inl gdL)), (zpa, .inl (cI, 64, .inl gpL)), (zin, .inl (cI, 300, .inl gi)), (zke, .inl (cI, 32, .inl gk)), (zva, .inl (cI, 32, .inl (sm_vs gk gv ((n + 31) / 32)))), (zle, .inl (cI, 32, .inl gl)), (zdr, .inl (cI, 400, .inl (sm_ap gD 0 (sm_dr gk gv) n)))] := hD
                  refine lv_aload_n hx hb dX4_draw_86 rfl (lv_at hl 1 rfl) ?_
                  refine lv_iload_n hx hb dX4_draw_87 rfl (lv_at hl 2 rfl) ?_
                  refine va_put (D := D) (ci := 4) (v := .int (nI n)) (ty := .int) (C := RX4) (T := TX4) (N := 22) hx hb hts hw_X4 tyX4 tyX4_ok nmX4 hown hK hP hD hS 0 rfl rfl 21 (by decide) hf_172 (fun _ h9 => h9) rfl (by decide +kernel) rfl rfl (Nat.le_of_ble_eq_true rfl) dX4_draw_88 (fun H locs hP hD hS => ?_)
                  have hP : va_P D vwCl [(zm, .inr (4, [.int flt, .ref zrt, .ref zfi, .ref zsu, .ref zwo, .ref zro, .int (nI 0), .ref zdi, .ref zpa, .ref zin, .int (nI 0), .ref zow, .int os_, .int 1, .ref zke, .ref zva, .ref zle, .int ct, .int iv, .int dw, .ref zdr, .int (nI n)])), (zrt, .inl (cI, 64, .inl sm_K)), (zfi, .inl (cI, 8, .inl sm_F)), (zsu, .inl (cI, 8, .inl gsL)), (zwo, .inl (cI, 64, .inl gwL)), (zro, .inl (cI, 512, .inl grL)), (zdi, .inl (cI, 32, .inl gdL)), (zpa, .inl (cI, 64, .inl gpL)), (zin, .inl (cI, 300, .inl gi)), (zke, .inl (cI, 32, .inl gk)), (zva, .inl (cI, 32, .inl (sm_vs gk gv ((n + 31) / 32)))), (zle, .inl (cI, 32, .inl gl)), (zdr, .inl (cI, 400, .inl (sm_ap gD 0 (sm_dr gk gv) n)))] H := hP
                  have hD : va_D A [(zm, .inr (4, [.int flt, .ref zrt, .ref zfi, .ref zsu, .ref zwo, .ref zro, .int (nI 0), .ref zdi, .ref zpa, .ref zin, .int (nI 0), .ref zow, .int os_, .int 1, .ref zke, .ref zva, .ref zle, .int ct, .int iv, .int dw, .ref zdr, .int (nI n)])), (zrt, .inl (cI, 64, .inl sm_K)), (zfi, .inl (cI, 8, .inl sm_F)), (zsu, .inl (cI, 8, .inl gsL)), (zwo, .inl (cI, 64, .inl gwL)), (zro, .inl (cI, 512, .inl grL)), (zdi, .inl (cI, 32, .inl gdL)), (zpa, .inl (cI, 64, .inl gpL)), (zin, .inl (cI, 300, .inl gi)), (zke, .inl (cI, 32, .inl gk)), (zva, .inl (cI, 32, .inl (sm_vs gk gv ((n + 31) / 32)))), (zle, .inl (cI, 32, .inl gl)), (zdr, .inl (cI, 400, .inl (sm_ap gD 0 (sm_dr gk gv) n)))] := hD
                  refine lv_aload_n hx hb dX4_draw_91 rfl (lv_at hl 1 rfl) ?_
                  refine sm_callVv (wc := [(zm, .inr (4, [.int flt, .ref zrt, .ref zfi, .ref zsu, .ref zwo, .ref zro, .int (nI 0), .ref zdi, .ref zpa, .ref zin, .int (nI 0), .ref zow, .int os_, .int 1, .ref zke, .ref zva, .ref zle, .int ct, .int iv, .int dw, .ref zdr, .int (nI n)])), (zrt, .inl (cI, 64, .inl sm_K)), (zfi, .inl (cI, 8, .inl sm_F)), (zsu, .inl (cI, 8, .inl gsL)), (zwo, .inl (cI, 64, .inl gwL)), (zro, .inl (cI, 512, .inl grL)), (zdi, .inl (cI, 32, .inl gdL)), (zpa, .inl (cI, 64, .inl gpL)), (zin, .inl (cI, 300, .inl gi)), (zke, .inl (cI, 32, .inl gk)), (zva, .inl (cI, 32, .inl (sm_vs gk gv ((n + 31) / 32)))), (zle, .inl (cI, 32, .inl gl))]) (wr := [(zdr, .inl (cI, 400, .inl (sm_ap gD 0 (sm_dr gk gv) n)))]) (As := []) (rest := []) ⟨hx, hb, hml, hown, hts⟩ (sc_X4_stir l D cI th _ zm zrt zfi zsu zwo zro zdi zpa zin zow zke zva zle zdr flt (nI 0) os_ 1 ct iv dw (nI n) gsL gwL grL gdL gpL 0 gi gk (sm_vs gk gv ((n + 31) / 32)) gl (by omega) hgi hgk (sm_vs_by hgv _)) (cwV 0 hts gX4_draw_X4_stir rfl rfl rfl (by decide +kernel) ⟨Nat.le_of_ble_eq_true rfl, Nat.le_of_ble_eq_true rfl⟩) hP hD hS hA hK hT [0, 1, 2, 3, 4, 5, 6, 7, 8, 9, 10, 11] [12] rfl rfl rfl rfl (by decide) 0 4 rfl rfl rfl rfl hl.1 rfl (Nat.le_of_ble_eq_true rfl) dX4_draw_92 ⟨Nat.zero_le _, Nat.zero_le _⟩ (fun zt H1 locs ht hvm hB hJ hS => ?_)
                  obtain ⟨gs2, gw2, gr2, gd2, gp2, hP1, -, hD1⟩ := hB
                  rw [ht] at hP1
                  obtain ⟨hP, hD⟩ := hJ _ hP1 hD1
                  clear hJ
                  generalize H1 = H at hP hS ⊢
                  have hP : va_P D vwCl [(zm, .inr (4, [.int flt, .ref zrt, .ref zfi, .ref zsu, .ref zwo, .ref zro, .int (nI 0), .ref zdi, .ref zpa, .ref zin, .int (nI 0), .ref zow, .int os_, .int 1, .ref zke, .ref zva, .ref zle, .int ct, .int iv, .int dw, .ref zdr, .int (nI n)])), (zrt, .inl (cI, 64, .inl sm_K)), (zfi, .inl (cI, 8, .inl sm_F)), (zsu, .inl (cI, 8, .inl gs2)), (zwo, .inl (cI, 64, .inl gw2)), (zro, .inl (cI, 512, .inl gr2)), (zdi, .inl (cI, 32, .inl gd2)), (zpa, .inl (cI, 64, .inl gp2)), (zin, .inl (cI, 300, .inl gi)), (zke, .inl (cI, 32, .inl ((sm_stir (gk, sm_vs gk gv ((n + 31) / 32)) gi 0).1))), (zva, .inl (cI, 32, .inl ((sm_stir (gk, sm_vs gk gv ((n + 31) / 32)) gi 0).2))), (zle, .inl (cI, 32, .inl ((sm_stir (gk, sm_vs gk gv ((n + 31) / 32)) gi 0).2))), (zdr, .inl (cI, 400, .inl (sm_ap gD 0 (sm_dr gk gv) n)))] H := hP.sub [1, 2, 3, 4, 5, 6, 7, 8, 9, 10, 11, 12, 0] rfl
                  have hD : va_D A [(zm, .inr (4, [.int flt, .ref zrt, .ref zfi, .ref zsu, .ref zwo, .ref zro, .int (nI 0), .ref zdi, .ref zpa, .ref zin, .int (nI 0), .ref zow, .int os_, .int 1, .ref zke, .ref zva, .ref zle, .int ct, .int iv, .int dw, .ref zdr, .int (nI n)])), (zrt, .inl (cI, 64, .inl sm_K)), (zfi, .inl (cI, 8, .inl sm_F)), (zsu, .inl (cI, 8, .inl gs2)), (zwo, .inl (cI, 64, .inl gw2)), (zro, .inl (cI, 512, .inl gr2)), (zdi, .inl (cI, 32, .inl gd2)), (zpa, .inl (cI, 64, .inl gp2)), (zin, .inl (cI, 300, .inl gi)), (zke, .inl (cI, 32, .inl ((sm_stir (gk, sm_vs gk gv ((n + 31) / 32)) gi 0).1))), (zva, .inl (cI, 32, .inl ((sm_stir (gk, sm_vs gk gv ((n + 31) / 32)) gi 0).2))), (zle, .inl (cI, 32, .inl ((sm_stir (gk, sm_vs gk gv ((n + 31) / 32)) gi 0).2))), (zdr, .inl (cI, 400, .inl (sm_ap gD 0 (sm_dr gk gv) n)))] := hD.sub [1, 2, 3, 4, 5, 6, 7, 8, 9, 10, 11, 12, 0] rfl rfl
                  refine lv_aload_n hx hb dX4_draw_95 rfl (lv_at hl 1 rfl) ?_
                  refine lv_dup hx hb dX4_draw_96 rfl ?_
                  refine va_get (D := D) (ci := 4) (v := .int ct) (C := RX4) (T := TX4) (N := 22) hx hb hts hw_X4 hown hK hP 0 rfl rfl 17 (by decide) hf_169 (fun _ h9 => h9) rfl dX4_draw_97 ?_
                  refine lv_iconst (v := 1) hx hb dX4_draw_100 (by decide) ?_
                  refine lv_iadd hx hb dX4_draw_101 ?_
                  refine va_put (D := D) (ci := 4) (v := .int (ct + 1)) (ty := .int) (C := RX4) (T := TX4) (N := 22) hx hb hts hw_X4 tyX4 tyX4_ok nmX4 hown hK hP hD hS 0 rfl rfl 17 (by decide) hf_169 (fun _ h9 => h9) rfl (by decide +kernel) rfl rfl (Nat.le_of_ble_eq_true rfl) dX4_draw_102 (fun H locs hP hD hS => ?_)
                  have hP : va_P D vwCl [(zm, .inr (4, [.int flt, .ref zrt, .ref zfi, .ref zsu, .ref zwo, .ref zro, .int (nI 0), .ref zdi, .ref zpa, .ref zin, .int (nI 0), .ref zow, .int os_, .int 1, .ref zke, .ref zva, .ref zle, .int (ct + 1), .int iv, .int dw, .ref zdr, .int (nI n)])), (zrt, .inl (cI, 64, .inl sm_K)), (zfi, .inl (cI, 8, .inl sm_F)), (zsu, .inl (cI, 8, .inl gs2)), (zwo, .inl (cI, 64, .inl gw2)), (zro, .inl (cI, 512, .inl gr2)), (zdi, .inl (cI, 32, .inl gd2)), (zpa, .inl (cI, 64, .inl gp2)), (zin, .inl (cI, 300, .inl gi)), (zke, .inl (cI, 32, .inl ((sm_stir (gk, sm_vs gk gv ((n + 31) / 32)) gi 0).1))), (zva, .inl (cI, 32, .inl ((sm_stir (gk, sm_vs gk gv ((n + 31) / 32)) gi 0).2))), (zle, .inl (cI, 32, .inl ((sm_stir (gk, sm_vs gk gv ((n + 31) / 32)) gi 0).2))), (zdr, .inl (cI, 400, .inl (sm_ap gD 0 (sm_dr gk gv) n)))] H := hP
                  have hD : va_D A [(zm, .inr (4, [.int flt, .ref zrt, .ref zfi, .ref zsu, .ref zwo, .ref zro, .int (nI 0), .ref zdi, .ref zpa, .ref zin, .int (nI 0), .ref zow, .int os_, .int 1, .ref zke, .ref zva, .ref zle, .int (ct + 1), .int iv, .int dw, .ref zdr, .int (nI n)])), (zrt, .inl (cI, 64, .inl sm_K)), (zfi, .inl (cI, 8, .inl sm_F)), (zsu, .inl (cI, 8, .inl gs2)), (zwo, .inl (cI, 64, .inl gw2)), (zro, .inl (cI, 512, .inl gr2)), (zdi, .inl (cI, 32, .inl gd2)), (zpa, .inl (cI, 64, .inl gp2)), (zin, .inl (cI, 300, .inl gi)), (zke, .inl (cI, 32, .inl ((sm_stir (gk, sm_vs gk gv ((n + 31) / 32)) gi 0).1))), (zva, .inl (cI, 32, .inl ((sm_stir (gk, sm_vs gk gv ((n + 31) / 32)) gi 0).2))), (zle, .inl (cI, 32, .inl ((sm_stir (gk, sm_vs gk gv ((n + 31) / 32)) gi 0).2))), (zdr, .inl (cI, 400, .inl (sm_ap gD 0 (sm_dr gk gv) n)))] := hD
                  refine lv_aload_n hx hb dX4_draw_105 rfl (lv_at hl 1 rfl) ?_
                  refine lv_dup hx hb dX4_draw_106 rfl ?_
                  refine va_get (D := D) (ci := 4) (v := .int dw) (C := RX4) (T := TX4) (N := 22) hx hb hts hw_X4 hown hK hP 0 rfl rfl 19 (by decide) hf_175 (fun _ h9 => h9) rfl dX4_draw_107 ?_
                  refine lv_iconst (v := 1) hx hb dX4_draw_110 (by decide) ?_
                  refine lv_iadd hx hb dX4_draw_111 ?_
                  refine va_put (D := D) (ci := 4) (v := .int (dw + 1)) (ty := .int) (C := RX4) (T := TX4) (N := 22) hx hb hts hw_X4 tyX4 tyX4_ok nmX4 hown hK hP hD hS 0 rfl rfl 19 (by decide) hf_175 (fun _ h9 => h9) rfl (by decide +kernel) rfl rfl (Nat.le_of_ble_eq_true rfl) dX4_draw_112 (fun H locs hP hD hS => ?_)
                  have hP : va_P D vwCl [(zm, .inr (4, [.int flt, .ref zrt, .ref zfi, .ref zsu, .ref zwo, .ref zro, .int (nI 0), .ref zdi, .ref zpa, .ref zin, .int (nI 0), .ref zow, .int os_, .int 1, .ref zke, .ref zva, .ref zle, .int (ct + 1), .int iv, .int (dw + 1), .ref zdr, .int (nI n)])), (zrt, .inl (cI, 64, .inl sm_K)), (zfi, .inl (cI, 8, .inl sm_F)), (zsu, .inl (cI, 8, .inl gs2)), (zwo, .inl (cI, 64, .inl gw2)), (zro, .inl (cI, 512, .inl gr2)), (zdi, .inl (cI, 32, .inl gd2)), (zpa, .inl (cI, 64, .inl gp2)), (zin, .inl (cI, 300, .inl gi)), (zke, .inl (cI, 32, .inl ((sm_stir (gk, sm_vs gk gv ((n + 31) / 32)) gi 0).1))), (zva, .inl (cI, 32, .inl ((sm_stir (gk, sm_vs gk gv ((n + 31) / 32)) gi 0).2))), (zle, .inl (cI, 32, .inl ((sm_stir (gk, sm_vs gk gv ((n + 31) / 32)) gi 0).2))), (zdr, .inl (cI, 400, .inl (sm_ap gD 0 (sm_dr gk gv) n)))] H := hP
                  have hD : va_D A [(zm, .inr (4, [.int flt, .ref zrt, .ref zfi, .ref zsu, .ref zwo, .ref zro, .int (nI 0), .ref zdi, .ref zpa, .ref zin, .int (nI 0), .ref zow, .int os_, .int 1, .ref zke, .ref zva, .ref zle, .int (ct + 1), .int iv, .int (dw + 1), .ref zdr, .int (nI n)])), (zrt, .inl (cI, 64, .inl sm_K)), (zfi, .inl (cI, 8, .inl sm_F)), (zsu, .inl (cI, 8, .inl gs2)), (zwo, .inl (cI, 64, .inl gw2)), (zro, .inl (cI, 512, .inl gr2)), (zdi, .inl (cI, 32, .inl gd2)), (zpa, .inl (cI, 64, .inl gp2)), (zin, .inl (cI, 300, .inl gi)), (zke, .inl (cI, 32, .inl ((sm_stir (gk, sm_vs gk gv ((n + 31) / 32)) gi 0).1))), (zva, .inl (cI, 32, .inl ((sm_stir (gk, sm_vs gk gv ((n + 31) / 32)) gi 0).2))), (zle, .inl (cI, 32, .inl ((sm_stir (gk, sm_vs gk gv ((n + 31) / 32)) gi 0).2))), (zdr, .inl (cI, 400, .inl (sm_ap gD 0 (sm_dr gk gv) n)))] := hD
                  refine lv_aload_n hx hb dX4_draw_115 rfl (lv_at hl 1 rfl) ?_
                  refine lv_iconst (v := 0) hx hb dX4_draw_116 (by decide) ?_
                  refine va_put (D := D) (ci := 4) (v := .int 0) (ty := .int) (C := RX4) (T := TX4) (N := 22) hx hb hts hw_X4 tyX4 tyX4_ok nmX4 hown hK hP hD hS 0 rfl rfl 10 (by decide) hf_154 (fun _ h9 => h9) rfl (by decide +kernel) rfl rfl (Nat.le_of_ble_eq_true rfl) dX4_draw_117 (fun H locs hP hD hS => ?_)
                  have hP : va_P D vwCl [(zm, .inr (4, [.int flt, .ref zrt, .ref zfi, .ref zsu, .ref zwo, .ref zro, .int (nI 0), .ref zdi, .ref zpa, .ref zin, .int 0, .ref zow, .int os_, .int 1, .ref zke, .ref zva, .ref zle, .int (ct + 1), .int iv, .int (dw + 1), .ref zdr, .int (nI n)])), (zrt, .inl (cI, 64, .inl sm_K)), (zfi, .inl (cI, 8, .inl sm_F)), (zsu, .inl (cI, 8, .inl gs2)), (zwo, .inl (cI, 64, .inl gw2)), (zro, .inl (cI, 512, .inl gr2)), (zdi, .inl (cI, 32, .inl gd2)), (zpa, .inl (cI, 64, .inl gp2)), (zin, .inl (cI, 300, .inl gi)), (zke, .inl (cI, 32, .inl ((sm_stir (gk, sm_vs gk gv ((n + 31) / 32)) gi 0).1))), (zva, .inl (cI, 32, .inl ((sm_stir (gk, sm_vs gk gv ((n + 31) / 32)) gi 0).2))), (zle, .inl (cI, 32, .inl ((sm_stir (gk, sm_vs gk gv ((n + 31) / 32)) gi 0).2))), (zdr, .inl (cI, 400, .inl (sm_ap gD 0 (sm_dr gk gv) n)))] H := hP
                  have hD : va_D A [(zm, .inr (4, [.int flt, .ref zrt, .ref zfi, .ref zsu, .ref zwo, .ref zro, .int (nI 0), .ref zdi, .ref zpa, .ref zin, .int 0, .ref zow, .int os_, .int 1, .ref zke, .ref zva, .ref zle, .int (ct + 1), .int iv, .int (dw + 1), .ref zdr, .int (nI n)])), (zrt, .inl (cI, 64, .inl sm_K)), (zfi, .inl (cI, 8, .inl sm_F)), (zsu, .inl (cI, 8, .inl gs2)), (zwo, .inl (cI, 64, .inl gw2)), (zro, .inl (cI, 512, .inl gr2)), (zdi, .inl (cI, 32, .inl gd2)), (zpa, .inl (cI, 64, .inl gp2)), (zin, .inl (cI, 300, .inl gi)), (zke, .inl (cI, 32, .inl ((sm_stir (gk, sm_vs gk gv ((n + 31) / 32)) gi 0).1))), (zva, .inl (cI, 32, .inl ((sm_stir (gk, sm_vs gk gv ((n + 31) / 32)) gi 0).2))), (zle, .inl (cI, 32, .inl ((sm_stir (gk, sm_vs gk gv ((n + 31) / 32)) gi 0).2))), (zdr, .inl (cI, 400, .inl (sm_ap gD 0 (sm_dr gk gv) n)))] := hD
                  refine lv_iconst (v := 0) hx hb dX4_draw_120 (by decide) ?_
                  rw [hQ]
                  have hP9 : va_P D vwCl [(zm, .inr (4, [.int flt, .ref zrt, .ref zfi, .ref zsu, .ref zwo, .ref zro, .int (nI 0), .ref zdi, .ref zpa, .ref zin, .int (nI 0), .ref zow, .int os_, .int 1, .ref zke, .ref zva, .ref zle, .int (ct + 1), .int iv, .int (dw + 1), .ref zdr, .int (nI n)])), (zrt, .inl (cI, 64, .inl sm_K)), (zfi, .inl (cI, 8, .inl sm_F)), (zsu, .inl (cI, 8, .inl gs2)), (zwo, .inl (cI, 64, .inl gw2)), (zro, .inl (cI, 512, .inl gr2)), (zdi, .inl (cI, 32, .inl gd2)), (zpa, .inl (cI, 64, .inl gp2)), (zin, .inl (cI, 300, .inl gi)), (zke, .inl (cI, 32, .inl ((sm_stir (gk, sm_vs gk gv ((n + 31) / 32)) gi 0).1))), (zva, .inl (cI, 32, .inl ((sm_stir (gk, sm_vs gk gv ((n + 31) / 32)) gi 0).2))), (zle, .inl (cI, 32, .inl ((sm_stir (gk, sm_vs gk gv ((n + 31) / 32)) gi 0).2))), (zdr, .inl (cI, 400, .inl (sm_ap gD 0 (sm_dr gk gv) n)))] H := hP
                  have hD9 : va_D A [(zm, .inr (4, [.int flt, .ref zrt, .ref zfi, .ref zsu, .ref zwo, .ref zro, .int (nI 0), .ref zdi, .ref zpa, .ref zin, .int (nI 0), .ref zow, .int os_, .int 1, .ref zke, .ref zva, .ref zle, .int (ct + 1), .int iv, .int (dw + 1), .ref zdr, .int (nI n)])), (zrt, .inl (cI, 64, .inl sm_K)), (zfi, .inl (cI, 8, .inl sm_F)), (zsu, .inl (cI, 8, .inl gs2)), (zwo, .inl (cI, 64, .inl gw2)), (zro, .inl (cI, 512, .inl gr2)), (zdi, .inl (cI, 32, .inl gd2)), (zpa, .inl (cI, 64, .inl gp2)), (zin, .inl (cI, 300, .inl gi)), (zke, .inl (cI, 32, .inl ((sm_stir (gk, sm_vs gk gv ((n + 31) / 32)) gi 0).1))), (zva, .inl (cI, 32, .inl ((sm_stir (gk, sm_vs gk gv ((n + 31) / 32)) gi 0).2))), (zle, .inl (cI, 32, .inl ((sm_stir (gk, sm_vs gk gv ((n + 31) / 32)) gi 0).2))), (zdr, .inl (cI, 400, .inl (sm_ap gD 0 (sm_dr gk gv) n)))] := hD
                  exact W.iret (v := 0) hx hb hr (fun t ht hW => ⟨⟨0, (), rfl, rfl, ⟨_, _, _, _, _, by rw [ht]; exact hP9, va_K.moved hW.alike hK, hD9⟩⟩, hS.F ht⟩) hS.2.2 dX4_draw_121
                ·
                  have hlt : k < n := by
                    rcases Nat.lt_or_ge k n with q | q
                    · exact q
                    · exact absurd (nI_le q (by omega)) c_51
                  refine lv_iload_n hx hb dX4_draw_54 rfl (lv_at hl 0 rfl) ?_
                  refine lv_bipush (v := 32) hx hb dX4_draw_55 (by decide) ?_
                  refine lv_irem hx hb dX4_draw_57 (by decide) ?_
                  refine sm_top (z := nI (k % 32)) (pk_rem (d := 32) (by omega) (by decide) (by decide)) ?_
                  refine lv_if_ne (tgt := 65) hx hb dX4_draw_58 (by decide) (fun c_58 => ?_) (fun c_58 => ?_)
                  ·
                    have hmd : k % 32 ≠ 0 := fun q => c_58 (by rw [q]; rfl)
                    rw [show (k + 31) / 32 = k / 32 + 1 by omega] at hP hD
                    have hP : va_P D vwCl [(zm, .inr (4, [.int flt, .ref zrt, .ref zfi, .ref zsu, .ref zwo, .ref zro, .int (nI 0), .ref zdi, .ref zpa, .ref zin, .int (nI 0), .ref zow, .int os_, .int 1, .ref zke, .ref zva, .ref zle, .int ct, .int iv, .int dw, .ref zdr, .int ds])), (zrt, .inl (cI, 64, .inl sm_K)), (zfi, .inl (cI, 8, .inl sm_F)), (zsu, .inl (cI, 8, .inl gsL)), (zwo, .inl (cI, 64, .inl gwL)), (zro, .inl (cI, 512, .inl grL)), (zdi, .inl (cI, 32, .inl gdL)), (zpa, .inl (cI, 64, .inl gpL)), (zin, .inl (cI, 300, .inl gi)), (zke, .inl (cI, 32, .inl gk)), (zva, .inl (cI, 32, .inl (sm_vs gk gv (k / 32 + 1)))), (zle, .inl (cI, 32, .inl gl)), (zdr, .inl (cI, 400, .inl (sm_ap gD 0 (sm_dr gk gv) k)))] H := hP
                    have hD : va_D A [(zm, .inr (4, [.int flt, .ref zrt, .ref zfi, .ref zsu, .ref zwo, .ref zro, .int (nI 0), .ref zdi, .ref zpa, .ref zin, .int (nI 0), .ref zow, .int os_, .int 1, .ref zke, .ref zva, .ref zle, .int ct, .int iv, .int dw, .ref zdr, .int ds])), (zrt, .inl (cI, 64, .inl sm_K)), (zfi, .inl (cI, 8, .inl sm_F)), (zsu, .inl (cI, 8, .inl gsL)), (zwo, .inl (cI, 64, .inl gwL)), (zro, .inl (cI, 512, .inl grL)), (zdi, .inl (cI, 32, .inl gdL)), (zpa, .inl (cI, 64, .inl gpL)), (zin, .inl (cI, 300, .inl gi)), (zke, .inl (cI, 32, .inl gk)), (zva, .inl (cI, 32, .inl (sm_vs gk gv (k / 32 + 1)))), (zle, .inl (cI, 32, .inl gl)), (zdr, .inl (cI, 400, .inl (sm_ap gD 0 (sm_dr gk gv) k)))] := hD
                    refine lv_aload_n hx hb dX4_draw_65 rfl (lv_at hl 1 rfl) ?_
                    refine va_get (D := D) (ci := 4) (v := .ref zdr) (C := RX4) (T := TX4) (N := 22) hx hb hts hw_X4 hown hK hP 0 rfl rfl 20 (by decide) hf_122 (fun _ h9 => h9) rfl dX4_draw_66 ?_
                    refine lv_iload_n hx hb dX4_draw_69 rfl (lv_at hl 0 rfl) ?_
                    refine lv_aload_n hx hb dX4_draw_70 rfl (lv_at hl 1 rfl) ?_
                    refine va_get (D := D) (ci := 4) (v := .ref zva) (C := RX4) (T := TX4) (N := 22) hx hb hts hw_X4 hown hK hP 0 rfl rfl 15 (by decide) hf_112 (fun _ h9 => h9) rfl dX4_draw_71 ?_
                    refine lv_iload_n hx hb dX4_draw_74 rfl (lv_at hl 0 rfl) ?_
                    refine lv_bipush (v := 32) hx hb dX4_draw_75 (by decide) ?_
                    refine lv_irem hx hb dX4_draw_77 (by decide) ?_
                    refine sm_top (z := nI (k % 32)) (pk_rem (d := 32) (by omega) (by decide) (by decide)) ?_
                    refine va_iald (i := nI (k % 32)) hx hb hK hP 10 0 rfl rfl (vp_in_nI (n := (k % 32)) (by omega) (by omega)) dX4_draw_78 ?_
                    refine sm_top (z := (sm_vs gk gv (k / 32 + 1)) (k % 32)) (congrArg (sm_vs gk gv (k / 32 + 1)) (nI_clamp (n := (k % 32)) (by omega))) ?_
                    refine va_iast (i := nI k) (x := (sm_vs gk gv (k / 32 + 1)) (k % 32)) hx hb hK hP hD hS 12 0 rfl rfl (vp_in_nI (n := k) (by omega) (by omega)) dX4_draw_79 (fun H locs hP hD hS => ?_)
                    rw [show Int32.toNatClampNeg (nI k) = k from nI_clamp (n := k) (by omega)] at hP hD
                    have hP : va_P D vwCl [(zm, .inr (4, [.int flt, .ref zrt, .ref zfi, .ref zsu, .ref zwo, .ref zro, .int (nI 0), .ref zdi, .ref zpa, .ref zin, .int (nI 0), .ref zow, .int os_, .int 1, .ref zke, .ref zva, .ref zle, .int ct, .int iv, .int dw, .ref zdr, .int ds])), (zrt, .inl (cI, 64, .inl sm_K)), (zfi, .inl (cI, 8, .inl sm_F)), (zsu, .inl (cI, 8, .inl gsL)), (zwo, .inl (cI, 64, .inl gwL)), (zro, .inl (cI, 512, .inl grL)), (zdi, .inl (cI, 32, .inl gdL)), (zpa, .inl (cI, 64, .inl gpL)), (zin, .inl (cI, 300, .inl gi)), (zke, .inl (cI, 32, .inl gk)), (zva, .inl (cI, 32, .inl (sm_vs gk gv (k / 32 + 1)))), (zle, .inl (cI, 32, .inl gl)), (zdr, .inl (cI, 400, .inl (upd (sm_ap gD 0 (sm_dr gk gv) k) k ((sm_vs gk gv (k / 32 + 1)) (k % 32)))))] H := hP
                    have hD : va_D A [(zm, .inr (4, [.int flt, .ref zrt, .ref zfi, .ref zsu, .ref zwo, .ref zro, .int (nI 0), .ref zdi, .ref zpa, .ref zin, .int (nI 0), .ref zow, .int os_, .int 1, .ref zke, .ref zva, .ref zle, .int ct, .int iv, .int dw, .ref zdr, .int ds])), (zrt, .inl (cI, 64, .inl sm_K)), (zfi, .inl (cI, 8, .inl sm_F)), (zsu, .inl (cI, 8, .inl gsL)), (zwo, .inl (cI, 64, .inl gwL)), (zro, .inl (cI, 512, .inl grL)), (zdi, .inl (cI, 32, .inl gdL)), (zpa, .inl (cI, 64, .inl gpL)), (zin, .inl (cI, 300, .inl gi)), (zke, .inl (cI, 32, .inl gk)), (zva, .inl (cI, 32, .inl (sm_vs gk gv (k / 32 + 1)))), (zle, .inl (cI, 32, .inl gl)), (zdr, .inl (cI, 400, .inl (upd (sm_ap gD 0 (sm_dr gk gv) k) k ((sm_vs gk gv (k / 32 + 1)) (k % 32)))))] := hD
                    refine lv_iinc (v := nI (k + 1)) (lv' := [(2, .int (nI (k + 1))), (0, .ref zm), (1, .int (nI n))]) hx hb dX4_draw_80 hl (k := 0) rfl (nI_1 k) (by decide) rfl (fun ls hl => ?_)
                    refine lv_goto (tgt := 49) hx hb dX4_draw_83 (by decide) ?_
                    rw [show upd (sm_ap gD 0 (sm_dr gk gv) k) k (sm_vs gk gv (k / 32 + 1) (k % 32)) = _ from sm_ap_s0 gD (sm_dr gk gv) k, show k / 32 + 1 = (k + 1 + 31) / 32 by omega] at hP hD
                    exact ih (k + 1) _ _ _ _ _ _ _ _ (by omega) (by omega) hP hD hS (lv_sub hl [0, 1, 2] rfl)
                  ·
                    have hmd : k % 32 = 0 := (nI_eq (b := 0) (by omega) (by decide)).mp c_58
                    rw [show (k + 31) / 32 = k / 32 by omega] at hP hD
                    have hP : va_P D vwCl [(zm, .inr (4, [.int flt, .ref zrt, .ref zfi, .ref zsu, .ref zwo, .ref zro, .int (nI 0), .ref zdi, .ref zpa, .ref zin, .int (nI 0), .ref zow, .int os_, .int 1, .ref zke, .ref zva, .ref zle, .int ct, .int iv, .int dw, .ref zdr, .int ds])), (zrt, .inl (cI, 64, .inl sm_K)), (zfi, .inl (cI, 8, .inl sm_F)), (zsu, .inl (cI, 8, .inl gsL)), (zwo, .inl (cI, 64, .inl gwL)), (zro, .inl (cI, 512, .inl grL)), (zdi, .inl (cI, 32, .inl gdL)), (zpa, .inl (cI, 64, .inl gpL)), (zin, .inl (cI, 300, .inl gi)), (zke, .inl (cI, 32, .inl gk)), (zva, .inl (cI, 32, .inl (sm_vs gk gv (k / 32)))), (zle, .inl (cI, 32, .inl gl)), (zdr, .inl (cI, 400, .inl (sm_ap gD 0 (sm_dr gk gv) k)))] H := hP
                    have hD : va_D A [(zm, .inr (4, [.int flt, .ref zrt, .ref zfi, .ref zsu, .ref zwo, .ref zro, .int (nI 0), .ref zdi, .ref zpa, .ref zin, .int (nI 0), .ref zow, .int os_, .int 1, .ref zke, .ref zva, .ref zle, .int ct, .int iv, .int dw, .ref zdr, .int ds])), (zrt, .inl (cI, 64, .inl sm_K)), (zfi, .inl (cI, 8, .inl sm_F)), (zsu, .inl (cI, 8, .inl gsL)), (zwo, .inl (cI, 64, .inl gwL)), (zro, .inl (cI, 512, .inl grL)), (zdi, .inl (cI, 32, .inl gdL)), (zpa, .inl (cI, 64, .inl gpL)), (zin, .inl (cI, 300, .inl gi)), (zke, .inl (cI, 32, .inl gk)), (zva, .inl (cI, 32, .inl (sm_vs gk gv (k / 32)))), (zle, .inl (cI, 32, .inl gl)), (zdr, .inl (cI, 400, .inl (sm_ap gD 0 (sm_dr gk gv) k)))] := hD
                    refine lv_aload_n hx hb dX4_draw_61 rfl (lv_at hl 1 rfl) ?_
                    refine sm_callVv (wc := [(zm, .inr (4, [.int flt, .ref zrt, .ref zfi, .ref zsu, .ref zwo, .ref zro, .int (nI 0), .ref zdi, .ref zpa, .ref zin, .int (nI 0), .ref zow, .int os_, .int 1, .ref zke, .ref zva, .ref zle, .int ct, .int iv, .int dw, .ref zdr, .int ds])), (zrt, .inl (cI, 64, .inl sm_K)), (zfi, .inl (cI, 8, .inl sm_F)), (zsu, .inl (cI, 8, .inl gsL)), (zwo, .inl (cI, 64, .inl gwL)), (zro, .inl (cI, 512, .inl grL)), (zdi, .inl (cI, 32, .inl gdL)), (zpa, .inl (cI, 64, .inl gpL)), (zke, .inl (cI, 32, .inl gk)), (zva, .inl (cI, 32, .inl (sm_vs gk gv (k / 32))))]) (wr := [(zin, .inl (cI, 300, .inl gi)), (zle, .inl (cI, 32, .inl gl)), (zdr, .inl (cI, 400, .inl (sm_ap gD 0 (sm_dr gk gv) k)))]) (As := []) (rest := []) ⟨hx, hb, hml, hown, hts⟩ (sc_X4_nextValue l D cI th _ zm zrt zfi zsu zwo zro zdi zpa zin zow zke zva zle zdr flt (nI 0) os_ 1 ct iv dw ds gsL gwL grL gdL gpL gk (sm_vs gk gv (k / 32)) hgk (sm_vs_by hgv _)) (cwV 0 hts gX4_draw_X4_nextValue rfl rfl rfl (by decide +kernel) ⟨Nat.le_of_ble_eq_true rfl, Nat.le_of_ble_eq_true rfl⟩) hP hD hS hA hK hT [0, 1, 2, 3, 4, 5, 6, 7, 9, 10] [8, 11, 12] rfl rfl rfl rfl (by decide) 0 4 rfl rfl rfl rfl hl.1 rfl (Nat.le_of_ble_eq_true rfl) dX4_draw_62 ⟨Nat.zero_le _, Nat.zero_le _⟩ (fun zt H1 locs ht hvm hB hJ hS => ?_)
                    obtain ⟨gsM, gwM, grM, gdM, gpM, hP1, -, hD1⟩ := hB
                    rw [ht] at hP1
                    obtain ⟨hP, hD⟩ := hJ _ hP1 hD1
                    clear hJ
                    generalize H1 = H at hP hS ⊢
                    have hP : va_P D vwCl [(zm, .inr (4, [.int flt, .ref zrt, .ref zfi, .ref zsu, .ref zwo, .ref zro, .int (nI 0), .ref zdi, .ref zpa, .ref zin, .int (nI 0), .ref zow, .int os_, .int 1, .ref zke, .ref zva, .ref zle, .int ct, .int iv, .int dw, .ref zdr, .int ds])), (zrt, .inl (cI, 64, .inl sm_K)), (zfi, .inl (cI, 8, .inl sm_F)), (zsu, .inl (cI, 8, .inl gsM)), (zwo, .inl (cI, 64, .inl gwM)), (zro, .inl (cI, 512, .inl grM)), (zdi, .inl (cI, 32, .inl gdM)), (zpa, .inl (cI, 64, .inl gpM)), (zin, .inl (cI, 300, .inl gi)), (zke, .inl (cI, 32, .inl gk)), (zva, .inl (cI, 32, .inl (sm_vs gk gv (k / 32 + 1)))), (zle, .inl (cI, 32, .inl gl)), (zdr, .inl (cI, 400, .inl (sm_ap gD 0 (sm_dr gk gv) k)))] H := hP.sub [3, 4, 5, 6, 7, 8, 9, 10, 0, 11, 12, 1, 2] rfl
                    have hD : va_D A [(zm, .inr (4, [.int flt, .ref zrt, .ref zfi, .ref zsu, .ref zwo, .ref zro, .int (nI 0), .ref zdi, .ref zpa, .ref zin, .int (nI 0), .ref zow, .int os_, .int 1, .ref zke, .ref zva, .ref zle, .int ct, .int iv, .int dw, .ref zdr, .int ds])), (zrt, .inl (cI, 64, .inl sm_K)), (zfi, .inl (cI, 8, .inl sm_F)), (zsu, .inl (cI, 8, .inl gsM)), (zwo, .inl (cI, 64, .inl gwM)), (zro, .inl (cI, 512, .inl grM)), (zdi, .inl (cI, 32, .inl gdM)), (zpa, .inl (cI, 64, .inl gpM)), (zin, .inl (cI, 300, .inl gi)), (zke, .inl (cI, 32, .inl gk)), (zva, .inl (cI, 32, .inl (sm_vs gk gv (k / 32 + 1)))), (zle, .inl (cI, 32, .inl gl)), (zdr, .inl (cI, 400, .inl (sm_ap gD 0 (sm_dr gk gv) k)))] := hD.sub [3, 4, 5, 6, 7, 8, 9, 10, 0, 11, 12, 1, 2] rfl rfl
                    refine lv_aload_n hx hb dX4_draw_65 rfl (lv_at hl 1 rfl) ?_
                    refine va_get (D := D) (ci := 4) (v := .ref zdr) (C := RX4) (T := TX4) (N := 22) hx hb hts hw_X4 hown hK hP 0 rfl rfl 20 (by decide) hf_122 (fun _ h9 => h9) rfl dX4_draw_66 ?_
                    refine lv_iload_n hx hb dX4_draw_69 rfl (lv_at hl 0 rfl) ?_
                    refine lv_aload_n hx hb dX4_draw_70 rfl (lv_at hl 1 rfl) ?_
                    refine va_get (D := D) (ci := 4) (v := .ref zva) (C := RX4) (T := TX4) (N := 22) hx hb hts hw_X4 hown hK hP 0 rfl rfl 15 (by decide) hf_112 (fun _ h9 => h9) rfl dX4_draw_71 ?_
                    refine lv_iload_n hx hb dX4_draw_74 rfl (lv_at hl 0 rfl) ?_
                    refine lv_bipush (v := 32) hx hb dX4_draw_75 (by decide) ?_
                    refine lv_irem hx hb dX4_draw_77 (by decide) ?_
                    refine sm_top (z := nI (k % 32)) (pk_rem (d := 32) (by omega) (by decide) (by decide)) ?_
                    refine va_iald (i := nI (k % 32)) hx hb hK hP 10 0 rfl rfl (vp_in_nI (n := (k % 32)) (by omega) (by omega)) dX4_draw_78 ?_
                    refine sm_top (z := (sm_vs gk gv (k / 32 + 1)) (k % 32)) (congrArg (sm_vs gk gv (k / 32 + 1)) (nI_clamp (n := (k % 32)) (by omega))) ?_
                    refine va_iast (i := nI k) (x := (sm_vs gk gv (k / 32 + 1)) (k % 32)) hx hb hK hP hD hS 12 0 rfl rfl (vp_in_nI (n := k) (by omega) (by omega)) dX4_draw_79 (fun H locs hP hD hS => ?_)
                    rw [show Int32.toNatClampNeg (nI k) = k from nI_clamp (n := k) (by omega)] at hP hD
                    have hP : va_P D vwCl [(zm, .inr (4, [.int flt, .ref zrt, .ref zfi, .ref zsu, .ref zwo, .ref zro, .int (nI 0), .ref zdi, .ref zpa, .ref zin, .int (nI 0), .ref zow, .int os_, .int 1, .ref zke, .ref zva, .ref zle, .int ct, .int iv, .int dw, .ref zdr, .int ds])), (zrt, .inl (cI, 64, .inl sm_K)), (zfi, .inl (cI, 8, .inl sm_F)), (zsu, .inl (cI, 8, .inl gsM)), (zwo, .inl (cI, 64, .inl gwM)), (zro, .inl (cI, 512, .inl grM)), (zdi, .inl (cI, 32, .inl gdM)), (zpa, .inl (cI, 64, .inl gpM)), (zin, .inl (cI, 300, .inl gi)), (zke, .inl (cI, 32, .inl gk)), (zva, .inl (cI, 32, .inl (sm_vs gk gv (k / 32 + 1)))), (zle, .inl (cI, 32, .inl gl)), (zdr, .inl (cI, 400, .inl (upd (sm_ap gD 0 (sm_dr gk gv) k) k ((sm_vs gk gv (k / 32 + 1)) (k % 32)))))] H := hP
                    have hD : va_D A [(zm, .inr (4, [.int flt, .ref zrt, .ref zfi, .ref zsu, .ref zwo, .ref zro, .int (nI 0), .ref zdi, .ref zpa, .ref zin, .int (nI 0), .ref zow, .int os_, .int 1, .ref zke, .ref zva, .ref zle, .int ct, .int iv, .int dw, .ref zdr, .int ds])), (zrt, .inl (cI, 64, .inl sm_K)), (zfi, .inl (cI, 8, .inl sm_F)), (zsu, .inl (cI, 8, .inl gsM)), (zwo, .inl (cI, 64, .inl gwM)), (zro, .inl (cI, 512, .inl grM)), (zdi, .inl (cI, 32, .inl gdM)), (zpa, .inl (cI, 64, .inl gpM)), (zin, .inl (cI, 300, .inl gi)), (zke, .inl (cI, 32, .inl gk)), (zva, .inl (cI, 32, .inl (sm_vs gk gv (k / 32 + 1)))), (zle, .inl (cI, 32, .inl gl)), (zdr, .inl (cI, 400, .inl (upd (sm_ap gD 0 (sm_dr gk gv) k) k ((sm_vs gk gv (k / 32 + 1)) (k % 32)))))] := hD
                    refine lv_iinc (v := nI (k + 1)) (lv' := [(2, .int (nI (k + 1))), (0, .ref zm), (1, .int (nI n))]) hx hb dX4_draw_80 hl (k := 0) rfl (nI_1 k) (by decide) rfl (fun ls hl => ?_)
                    refine lv_goto (tgt := 49) hx hb dX4_draw_83 (by decide) ?_
                    rw [show upd (sm_ap gD 0 (sm_dr gk gv) k) k (sm_vs gk gv (k / 32 + 1) (k % 32)) = _ from sm_ap_s0 gD (sm_dr gk gv) k, show k / 32 + 1 = (k + 1 + 31) / 32 by omega] at hP hD
                    exact ih (k + 1) _ _ _ _ _ _ _ _ (by omega) (by omega) hP hD hS (lv_sub hl [0, 1, 2] rfl)
            exact lp49 _ 0 gs gw gr gd gp _ _ _ (Nat.lt_succ_self _) (Nat.zero_le _) (by rw [sm_ap_0]; exact hP) (by rw [sm_ap_0]; exact hD) hS (lv_sub hl [0, 1, 2] rfl)
          ·
            exact absurd (show nI 0 ≤ 0 by decide) c_40
        ·
          exact absurd hiv c_31
      ·
        exact absurd (nI_le (b := 400) hn4 (by decide)) c_18
  ·
    exact absurd c_4 (by decide)

def rm_X4_draw_ok1 : Room := ({ frames := 6, cells := 0, slots := 0, locals := 139 } : Room)
set_option maxHeartbeats 4000000 in
set_option maxRecDepth 100000 in
/-- draw -/
theorem sc_X4_draw_ok1 (l : Launch) (D : va_G) (cI : ClassId) (th : Option (Nat × Nat)) (sz : Nat) (zm zrt zfi zsu zwo zro zdi zpa zin zow zke zva zle zdr : Nat) (flt is_ os_ sd ct iv dw ds : Int32) (gs gw gr gd gp : Nat → Int32) (ni n : Nat) (gi gk gv gl gD : Nat → Int32) (hn1 : 1 ≤ n) (hn4 : n ≤ 400) (hiv : ct ≤ iv) (hn0 : 0 < ni) (hni : ni ≤ 300) (hgi : ∀ j, j < ni → sm_by (gi j)) (hgk : ∀ j, j < 32 → sm_by (gk j)) (hgv : ∀ j, j < 32 → sm_by (gv j)) : Met l yX4_draw wsX4_draw rm_X4_draw_ok1 (va_Pc [.ref zm, .int (nI n)] (sm_PW D cI th [(zm, .inr (4, [.int flt, .ref zrt, .ref zfi, .ref zsu, .ref zwo, .ref zro, .int (nI 0), .ref zdi, .ref zpa, .ref zin, .int (nI ni), .ref zow, .int os_, .int 1, .ref zke, .ref zva, .ref zle, .int ct, .int iv, .int dw, .ref zdr, .int ds])), (zrt, .inl (cI, 64, .inl sm_K)), (zfi, .inl (cI, 8, .inl sm_F)), (zsu, .inl (cI, 8, .inl gs)), (zwo, .inl (cI, 64, .inl gw)), (zro, .inl (cI, 512, .inl gr)), (zdi, .inl (cI, 32, .inl gd)), (zpa, .inl (cI, 64, .inl gp)), (zin, .inl (cI, 300, .inl gi)), (zke, .inl (cI, 32, .inl gk)), (zva, .inl (cI, 32, .inl gv)), (zle, .inl (cI, 32, .inl gl)), (zdr, .inl (cI, 400, .inl gD))] sz)) (va_Qi (fun (r : Int32) (_ : Unit) => r = 0) (fun _ t => ∃ (gs2 : Nat → Int32) (gw2 : Nat → Int32) (gr2 : Nat → Int32) (gd2 : Nat → Int32) (gp2 : Nat → Int32), sm_QW D cI (va_A [(zm, .inr (4, [.int flt, .ref zrt, .ref zfi, .ref zsu, .ref zwo, .ref zro, .int (nI 0), .ref zdi, .ref zpa, .ref zin, .int (nI ni), .ref zow, .int os_, .int 1, .ref zke, .ref zva, .ref zle, .int ct, .int iv, .int dw, .ref zdr, .int ds])), (zrt, .inl (cI, 64, .inl sm_K)), (zfi, .inl (cI, 8, .inl sm_F)), (zsu, .inl (cI, 8, .inl gs)), (zwo, .inl (cI, 64, .inl gw)), (zro, .inl (cI, 512, .inl gr)), (zdi, .inl (cI, 32, .inl gd)), (zpa, .inl (cI, 64, .inl gp)), (zin, .inl (cI, 300, .inl gi)), (zke, .inl (cI, 32, .inl gk)), (zva, .inl (cI, 32, .inl gv)), (zle, .inl (cI, 32, .inl gl)), (zdr, .inl (cI, 400, .inl gD))] sz) [(zm, .inr (4, [.int flt, .ref zrt, .ref zfi, .ref zsu, .ref zwo, .ref zro, .int (nI 0), .ref zdi, .ref zpa, .ref zin, .int (nI 0), .ref zow, .int os_, .int 1, .ref zke, .ref zva, .ref zle, .int (ct + 1), .int iv, .int (dw + 1), .ref zdr, .int (nI n)])), (zrt, .inl (cI, 64, .inl sm_K)), (zfi, .inl (cI, 8, .inl sm_F)), (zsu, .inl (cI, 8, .inl gs2)), (zwo, .inl (cI, 64, .inl gw2)), (zro, .inl (cI, 512, .inl gr2)), (zdi, .inl (cI, 32, .inl gd2)), (zpa, .inl (cI, 64, .inl gp2)), (zin, .inl (cI, 300, .inl gi)), (zke, .inl (cI, 32, .inl ((sm_stir ((sm_stir (gk, gv) gi ni).1, sm_vs ((sm_stir (gk, gv) gi ni).1) ((sm_stir (gk, gv) gi ni).2) ((n + 31) / 32)) gi ni).1))), (zva, .inl (cI, 32, .inl ((sm_stir ((sm_stir (gk, gv) gi ni).1, sm_vs ((sm_stir (gk, gv) gi ni).1) ((sm_stir (gk, gv) gi ni).2) ((n + 31) / 32)) gi ni).2))), (zle, .inl (cI, 32, .inl ((sm_stir ((sm_stir (gk, gv) gi ni).1, sm_vs ((sm_stir (gk, gv) gi ni).1) ((sm_stir (gk, gv) gi ni).2) ((n + 31) / 32)) gi ni).2))), (zdr, .inl (cI, 400, .inl (sm_ap gD 0 (sm_dr ((sm_stir (gk, gv) gi ni).1) ((sm_stir (gk, gv) gi ni).2)) n)))] t) (va_A [(zm, .inr (4, [.int flt, .ref zrt, .ref zfi, .ref zsu, .ref zwo, .ref zro, .int (nI 0), .ref zdi, .ref zpa, .ref zin, .int (nI ni), .ref zow, .int os_, .int 1, .ref zke, .ref zva, .ref zle, .int ct, .int iv, .int dw, .ref zdr, .int ds])), (zrt, .inl (cI, 64, .inl sm_K)), (zfi, .inl (cI, 8, .inl sm_F)), (zsu, .inl (cI, 8, .inl gs)), (zwo, .inl (cI, 64, .inl gw)), (zro, .inl (cI, 512, .inl gr)), (zdi, .inl (cI, 32, .inl gd)), (zpa, .inl (cI, 64, .inl gp)), (zin, .inl (cI, 300, .inl gi)), (zke, .inl (cI, 32, .inl gk)), (zva, .inl (cI, 32, .inl gv)), (zle, .inl (cI, 32, .inl gl)), (zdr, .inl (cI, 400, .inl gD))] sz)) 0 0 (va_A [(zm, .inr (4, [.int flt, .ref zrt, .ref zfi, .ref zsu, .ref zwo, .ref zro, .int (nI 0), .ref zdi, .ref zpa, .ref zin, .int (nI ni), .ref zow, .int os_, .int 1, .ref zke, .ref zva, .ref zle, .int ct, .int iv, .int dw, .ref zdr, .int ds])), (zrt, .inl (cI, 64, .inl sm_K)), (zfi, .inl (cI, 8, .inl sm_F)), (zsu, .inl (cI, 8, .inl gs)), (zwo, .inl (cI, 64, .inl gw)), (zro, .inl (cI, 512, .inl gr)), (zdi, .inl (cI, 32, .inl gd)), (zpa, .inl (cI, 64, .inl gp)), (zin, .inl (cI, 300, .inl gi)), (zke, .inl (cI, 32, .inl gk)), (zva, .inl (cI, 32, .inl gv)), (zle, .inl (cI, 32, .inl gl)), (zdr, .inl (cI, 400, .inl gD))] sz) := by
  refine Met.ofW (cc := cX4_draw) (maxL := 3) (ret := (some .int)) (by decide) rfl ?_
  intro p e s m args below meth c s₁ B hml hv
  obtain ⟨rfl, hsz, hP, hK, hD0, hT⟩ := hv
  have hx := B.exec
  have hb := B.bytes
  have hr := B.returns
  have hts := atoms_spec (ws := wsX4_draw) B.pre
  have hown : s.vm.findClass RX4 = some m.cls := findClass_of_methodNamed B.named
  have hlocks := B.notSynchronized
  subst hsz
  have hD := hD0.self (sz := s.heap.size)
  generalize hAe : va_A [(zm, .inr (4, [.int flt, .ref zrt, .ref zfi, .ref zsu, .ref zwo, .ref zro, .int (nI 0), .ref zdi, .ref zpa, .ref zin, .int (nI ni), .ref zow, .int os_, .int 1, .ref zke, .ref zva, .ref zle, .int ct, .int iv, .int dw, .ref zdr, .int ds])), (zrt, .inl (cI, 64, .inl sm_K)), (zfi, .inl (cI, 8, .inl sm_F)), (zsu, .inl (cI, 8, .inl gs)), (zwo, .inl (cI, 64, .inl gw)), (zro, .inl (cI, 512, .inl gr)), (zdi, .inl (cI, 32, .inl gd)), (zpa, .inl (cI, 64, .inl gp)), (zin, .inl (cI, 300, .inl gi)), (zke, .inl (cI, 32, .inl gk)), (zva, .inl (cI, 32, .inl gv)), (zle, .inl (cI, 32, .inl gl)), (zdr, .inl (cI, 400, .inl gD))] s.heap.size = A at hD hT ⊢
  have hA : ∀ q : Nat, s.heap.size ≤ q → A q := fun q h => by rw [← hAe]; exact Or.inr h
  have hS : va_S A s.heap s.heap [] := va_S.rf
  have hl := lv_entry ([.ref zm, .int (nI n)]) (n := 3) (Nat.le_of_ble_eq_true rfl)
  rw [lg_entry_eq]
  generalize (lg_sl ([.ref zm, .int (nI n)]) ++ List.replicate (3 - (lg_sl ([.ref zm, .int (nI n)])).length) Slot.unset).toArray = ls at hl ⊢
  have hl : lv_has ls 3 [(0, .ref zm), (1, .int (nI n))] := hl
  refine sm_name (fun Q hQ => ?_)
  have hf_165 := hts (.fieldLink RX4 165 "SeedMillModel" "isSeeded" "Z") (by decide +kernel)
  have hw_X4 : ∀ w ∈ wsX40, w ∈ wsX4_draw := by decide +kernel
  have hf_169 := hts (.fieldLink RX4 169 "SeedMillModel" "counter" "I") (by decide +kernel)
  have hf_118 := hts (.fieldLink RX4 118 "SeedMillModel" "interval" "I") (by decide +kernel)
  have hf_154 := hts (.fieldLink RX4 154 "SeedMillModel" "inputSize" "I") (by decide +kernel)
  have hf_122 := hts (.fieldLink RX4 122 "SeedMillModel" "drawn" "[I") (by decide +kernel)
  have hf_112 := hts (.fieldLink RX4 112 "SeedMillModel" "value" "[I") (by decide +kernel)
  have hf_172 := hts (.fieldLink RX4 172 "SeedMillModel" "drawnSize" "I") (by decide +kernel)
  have hf_175 := hts (.fieldLink RX4 175 "SeedMillModel" "draws" "I") (by decide +kernel)
  refine lv_aload_n hx hb dX4_draw_0 rfl (lv_at hl 0 rfl) ?_
  refine va_get (D := D) (ci := 4) (v := .int 1) (C := RX4) (T := TX4) (N := 22) hx hb hts hw_X4 hown hK hP 0 rfl rfl 13 (by decide) hf_165 (fun _ h9 => h9) rfl dX4_draw_1 ?_
  refine lv_if_ne (tgt := 9) hx hb dX4_draw_4 (by decide) (fun c_4 => ?_) (fun c_4 => ?_)
  ·
    refine lv_iload_n hx hb dX4_draw_9 rfl (lv_at hl 1 rfl) ?_
    refine lv_iconst (v := 1) hx hb dX4_draw_10 (by decide) ?_
    refine lv_icmp_lt (tgt := 21) hx hb dX4_draw_11 (by decide) (fun c_11 => ?_) (fun c_11 => ?_)
    ·
      exact absurd c_11 (nI_nlt (b := 1) hn1 (by omega))
    ·
      refine lv_iload_n hx hb dX4_draw_14 rfl (lv_at hl 1 rfl) ?_
      refine lv_sipush (v := 400) hx hb dX4_draw_15 (by decide) ?_
      refine lv_icmp_le (tgt := 23) hx hb dX4_draw_18 (by decide) (fun c_18 => ?_) (fun c_18 => ?_)
      ·
        refine lv_aload_n hx hb dX4_draw_23 rfl (lv_at hl 0 rfl) ?_
        refine va_get (D := D) (ci := 4) (v := .int ct) (C := RX4) (T := TX4) (N := 22) hx hb hts hw_X4 hown hK hP 0 rfl rfl 17 (by decide) hf_169 (fun _ h9 => h9) rfl dX4_draw_24 ?_
        refine lv_aload_n hx hb dX4_draw_27 rfl (lv_at hl 0 rfl) ?_
        refine va_get (D := D) (ci := 4) (v := .int iv) (C := RX4) (T := TX4) (N := 22) hx hb hts hw_X4 hown hK hP 0 rfl rfl 18 (by decide) hf_118 (fun _ h9 => h9) rfl dX4_draw_28 ?_
        refine lv_icmp_le (tgt := 36) hx hb dX4_draw_31 (by decide) (fun c_31 => ?_) (fun c_31 => ?_)
        ·
          refine lv_aload_n hx hb dX4_draw_36 rfl (lv_at hl 0 rfl) ?_
          refine va_get (D := D) (ci := 4) (v := .int (nI ni)) (C := RX4) (T := TX4) (N := 22) hx hb hts hw_X4 hown hK hP 0 rfl rfl 10 (by decide) hf_154 (fun _ h9 => h9) rfl dX4_draw_37 ?_
          refine lv_if_le (tgt := 47) hx hb dX4_draw_40 (by decide) (fun c_40 => ?_) (fun c_40 => ?_)
          ·
            exact absurd c_40 (nI_nle hn0 (by omega))
          ·
            refine lv_aload_n hx hb dX4_draw_43 rfl (lv_at hl 0 rfl) ?_
            refine sm_callVv (wc := [(zm, .inr (4, [.int flt, .ref zrt, .ref zfi, .ref zsu, .ref zwo, .ref zro, .int (nI 0), .ref zdi, .ref zpa, .ref zin, .int (nI ni), .ref zow, .int os_, .int 1, .ref zke, .ref zva, .ref zle, .int ct, .int iv, .int dw, .ref zdr, .int ds])), (zrt, .inl (cI, 64, .inl sm_K)), (zfi, .inl (cI, 8, .inl sm_F)), (zsu, .inl (cI, 8, .inl gs)), (zwo, .inl (cI, 64, .inl gw)), (zro, .inl (cI, 512, .inl gr)), (zdi, .inl (cI, 32, .inl gd)), (zpa, .inl (cI, 64, .inl gp)), (zin, .inl (cI, 300, .inl gi)), (zke, .inl (cI, 32, .inl gk)), (zva, .inl (cI, 32, .inl gv)), (zle, .inl (cI, 32, .inl gl))]) (wr := [(zdr, .inl (cI, 400, .inl gD))]) (As := []) (rest := []) ⟨hx, hb, hml, hown, hts⟩ (sc_X4_stir l D cI th _ zm zrt zfi zsu zwo zro zdi zpa zin zow zke zva zle zdr flt (nI ni) os_ 1 ct iv dw ds gs gw gr gd gp ni gi gk gv gl (by omega) hgi hgk hgv) (cwV 0 hts gX4_draw_X4_stir rfl rfl rfl (by decide +kernel) ⟨Nat.le_of_ble_eq_true rfl, Nat.le_of_ble_eq_true rfl⟩) hP hD hS hA hK hT [0, 1, 2, 3, 4, 5, 6, 7, 8, 9, 10, 11] [12] rfl rfl rfl rfl (by decide) 0 4 rfl rfl rfl rfl hl.1 rfl (Nat.le_of_ble_eq_true rfl) dX4_draw_44 ⟨Nat.zero_le _, Nat.zero_le _⟩ (fun zt H1 locs ht hvm hB hJ hS => ?_)
            obtain ⟨gs1, gw1, gr1, gd1, gp1, hP1, -, hD1⟩ := hB
            rw [ht] at hP1
            obtain ⟨hP, hD⟩ := hJ _ hP1 hD1
            clear hJ
            generalize H1 = H at hP hS ⊢
            have hP : va_P D vwCl [(zm, .inr (4, [.int flt, .ref zrt, .ref zfi, .ref zsu, .ref zwo, .ref zro, .int (nI 0), .ref zdi, .ref zpa, .ref zin, .int (nI ni), .ref zow, .int os_, .int 1, .ref zke, .ref zva, .ref zle, .int ct, .int iv, .int dw, .ref zdr, .int ds])), (zrt, .inl (cI, 64, .inl sm_K)), (zfi, .inl (cI, 8, .inl sm_F)), (zsu, .inl (cI, 8, .inl gs1)), (zwo, .inl (cI, 64, .inl gw1)), (zro, .inl (cI, 512, .inl gr1)), (zdi, .inl (cI, 32, .inl gd1)), (zpa, .inl (cI, 64, .inl gp1)), (zin, .inl (cI, 300, .inl gi)), (zke, .inl (cI, 32, .inl ((sm_stir (gk, gv) gi ni).1))), (zva, .inl (cI, 32, .inl ((sm_stir (gk, gv) gi ni).2))), (zle, .inl (cI, 32, .inl ((sm_stir (gk, gv) gi ni).2))), (zdr, .inl (cI, 400, .inl gD))] H := hP.sub [1, 2, 3, 4, 5, 6, 7, 8, 9, 10, 11, 12, 0] rfl
            have hD : va_D A [(zm, .inr (4, [.int flt, .ref zrt, .ref zfi, .ref zsu, .ref zwo, .ref zro, .int (nI 0), .ref zdi, .ref zpa, .ref zin, .int (nI ni), .ref zow, .int os_, .int 1, .ref zke, .ref zva, .ref zle, .int ct, .int iv, .int dw, .ref zdr, .int ds])), (zrt, .inl (cI, 64, .inl sm_K)), (zfi, .inl (cI, 8, .inl sm_F)), (zsu, .inl (cI, 8, .inl gs1)), (zwo, .inl (cI, 64, .inl gw1)), (zro, .inl (cI, 512, .inl gr1)), (zdi, .inl (cI, 32, .inl gd1)), (zpa, .inl (cI, 64, .inl gp1)), (zin, .inl (cI, 300, .inl gi)), (zke, .inl (cI, 32, .inl ((sm_stir (gk, gv) gi ni).1))), (zva, .inl (cI, 32, .inl ((sm_stir (gk, gv) gi ni).2))), (zle, .inl (cI, 32, .inl ((sm_stir (gk, gv) gi ni).2))), (zdr, .inl (cI, 400, .inl gD))] := hD.sub [1, 2, 3, 4, 5, 6, 7, 8, 9, 10, 11, 12, 0] rfl rfl
            refine lv_iconst (v := 0) hx hb dX4_draw_47 (by decide) ?_
            refine lv_istore_n (lv' := [(2, .int 0), (0, .ref zm), (1, .int (nI n))]) hx hb dX4_draw_48 rfl hl (by decide) rfl (fun ls hl => ?_)
            have lp49 : ∀ (zn : Nat) (k : Nat) (gsL : Nat → Int32) (gwL : Nat → Int32) (grL : Nat → Int32) (gdL : Nat → Int32) (gpL : Nat → Int32) (H : Heap) (locs : List Loc) (ls : Array Slot), n - k < zn → k ≤ n → va_P D vwCl [(zm, .inr (4, [.int flt, .ref zrt, .ref zfi, .ref zsu, .ref zwo, .ref zro, .int (nI 0), .ref zdi, .ref zpa, .ref zin, .int (nI ni), .ref zow, .int os_, .int 1, .ref zke, .ref zva, .ref zle, .int ct, .int iv, .int dw, .ref zdr, .int ds])), (zrt, .inl (cI, 64, .inl sm_K)), (zfi, .inl (cI, 8, .inl sm_F)), (zsu, .inl (cI, 8, .inl gsL)), (zwo, .inl (cI, 64, .inl gwL)), (zro, .inl (cI, 512, .inl grL)), (zdi, .inl (cI, 32, .inl gdL)), (zpa, .inl (cI, 64, .inl gpL)), (zin, .inl (cI, 300, .inl gi)), (zke, .inl (cI, 32, .inl ((sm_stir (gk, gv) gi ni).1))), (zva, .inl (cI, 32, .inl (sm_vs ((sm_stir (gk, gv) gi ni).1) ((sm_stir (gk, gv) gi ni).2) ((k + 31) / 32)))), (zle, .inl (cI, 32, .inl ((sm_stir (gk, gv) gi ni).2))), (zdr, .inl (cI, 400, .inl (sm_ap gD 0 (sm_dr ((sm_stir (gk, gv) gi ni).1) ((sm_stir (gk, gv) gi ni).2)) k)))] H → va_D A [(zm, .inr (4, [.int flt, .ref zrt, .ref zfi, .ref zsu, .ref zwo, .ref zro, .int (nI 0), .ref zdi, .ref zpa, .ref zin, .int (nI ni), .ref zow, .int os_, .int 1, .ref zke, .ref zva, .ref zle, .int ct, .int iv, .int dw, .ref zdr, .int ds])), (zrt, .inl (cI, 64, .inl sm_K)), (zfi, .inl (cI, 8, .inl sm_F)), (zsu, .inl (cI, 8, .inl gsL)), (zwo, .inl (cI, 64, .inl gwL)), (zro, .inl (cI, 512, .inl grL)), (zdi, .inl (cI, 32, .inl gdL)), (zpa, .inl (cI, 64, .inl gpL)), (zin, .inl (cI, 300, .inl gi)), (zke, .inl (cI, 32, .inl ((sm_stir (gk, gv) gi ni).1))), (zva, .inl (cI, 32, .inl (sm_vs ((sm_stir (gk, gv) gi ni).1) ((sm_stir (gk, gv) gi ni).2) ((k + 31) / 32)))), (zle, .inl (cI, 32, .inl ((sm_stir (gk, gv) gi ni).2))), (zdr, .inl (cI, 400, .inl (sm_ap gD 0 (sm_dr ((sm_stir (gk, gv) gi ni).1) ((sm_stir (gk, gv) gi ni).2)) k)))] → va_S A s.heap H locs → lv_has ls 3 [(2, .int (nI k)), (0, .ref zm), (1, .int (nI n))] → W p l e (headSpec wsX4_draw rm_X4_draw_ok1).room s m ([.ref zm, .int (nI n)] : List Value).toArray below meth c H locs 0 0 Q (F0 m 49 ls []) := by
              intro zn
              induction zn with
              | zero => intro k gsL gwL grL gdL gpL H locs ls hmu; exact absurd hmu (Nat.not_lt_zero _)
              | succ zn ih =>
                intro k gsL gwL grL gdL gpL H locs ls hmu hk1 hP hD hS hl
                refine lv_iload_n hx hb dX4_draw_49 rfl (lv_at hl 0 rfl) ?_
                refine lv_iload_n hx hb dX4_draw_50 rfl (lv_at hl 2 rfl) ?_
                refine lv_icmp_ge (tgt := 86) hx hb dX4_draw_51 (by decide) (fun c_51 => ?_) (fun c_51 => ?_)
                ·
                  have hex : k = n := by
                    rcases Nat.lt_or_ge k n with q | q
                    · exact absurd c_51 (nI_ge q (by omega))
                    · omega
                  rw [hex] at hP hD
                  have hP : va_P D vwCl [(zm, .inr (4, [.int flt, .ref zrt, .ref zfi, .ref zsu, .ref zwo, .ref zro, .int (nI 0), .ref zdi, .ref zpa, .ref zin, .int (nI ni), .ref zow, .int os_, .int 1, .ref zke, .ref zva, .ref zle, .int ct, .int iv, .int dw, .ref zdr, .int ds])), (zrt, .inl (cI, 64, .inl sm_K)), (zfi, .inl (cI, 8, .inl sm_F)), (zsu, .inl (cI, 8, .inl gsL)), (zwo, .inl (cI, 64, .inl gwL)), (zro, .inl (cI, 512, .inl grL)), (zdi, .inl (cI, 32, .inl gdL)), (zpa, .inl (cI, 64, .inl gpL)), (zin, .inl (cI, 300, .inl gi)), (zke, .inl (cI, 32, .inl ((sm_stir (gk, gv) gi ni).1))), (zva, .inl (cI, 32, .inl (sm_vs ((sm_stir (gk, gv) gi ni).1) ((sm_stir (gk, gv) gi ni).2) ((n + 31) / 32)))), (zle, .inl (cI, 32, .inl ((sm_stir (gk, gv) gi ni).2))), (zdr, .inl (cI, 400, .inl (sm_ap gD 0 (sm_dr ((sm_stir (gk, gv) gi ni).1) ((sm_stir (gk, gv) gi ni).2)) n)))] H := hP
                  have hD : va_D A [(zm, .inr (4, [.int flt, .ref zrt, .ref zfi, .ref zsu, .ref zwo, .ref zro, .int (nI 0), .ref zdi, .ref zpa, .ref zin, .int (nI ni), .ref zow, .int os_, .int 1, .ref zke, .ref zva, .ref zle, .int ct, .int iv, .int dw, .ref zdr, .int ds])), (zrt, .inl (cI, 64, .inl sm_K)), (zfi, .inl (cI, 8, .inl sm_F)), (zsu, .inl (cI, 8, .inl gsL)), (zwo, .inl (cI, 64, .inl gwL)), (zro, .inl (cI, 512, .inl grL)), (zdi, .inl (cI, 32, .inl gdL)), (zpa, .inl (cI, 64, .inl gpL)), (zin, .inl (cI, 300, .inl gi)), (zke, .inl (cI, 32, .inl ((sm_stir (gk, gv) gi ni).1))), (zva, .inl (cI, 32, .inl (sm_vs ((sm_stir (gk, gv) gi ni).1) ((sm_stir (gk, gv) gi ni).2) ((n + 31) / 32)))), (zle, .inl (cI, 32, .inl ((sm_stir (gk, gv) gi ni).2))), (zdr, .inl (cI, 400, .inl (sm_ap gD 0 (sm_dr ((sm_stir (gk, gv) gi ni).1) ((sm_stir (gk, gv) gi ni).2)) n)))] := hD
                  refine lv_aload_n hx hb dX4_draw_86 rfl (lv_at hl 1 rfl) ?_
                  refine lv_iload_n hx hb dX4_draw_87 rfl (lv_at hl 2 rfl) ?_
                  refine va_put (D := D) (ci := 4) (v := .int (nI n)) (ty := .int) (C := RX4) (T := TX4) (N := 22) hx hb hts hw_X4 tyX4 tyX4_ok nmX4 hown hK hP hD hS 0 rfl rfl 21 (by decide) hf_172 (fun _ h9 => h9) rfl (by decide +kernel) rfl rfl (Nat.le_of_ble_eq_true rfl) dX4_draw_88 (fun H locs hP hD hS => ?_)
                  have hP : va_P D vwCl [(zm, .inr (4, [.int flt, .ref zrt, .ref zfi, .ref zsu, .ref zwo, .ref zro, .int (nI 0), .ref zdi, .ref zpa, .ref zin, .int (nI ni), .ref zow, .int os_, .int 1, .ref zke, .ref zva, .ref zle, .int ct, .int iv, .int dw, .ref zdr, .int (nI n)])), (zrt, .inl (cI, 64, .inl sm_K)), (zfi, .inl (cI, 8, .inl sm_F)), (zsu, .inl (cI, 8, .inl gsL)), (zwo, .inl (cI, 64, .inl gwL)), (zro, .inl (cI, 512, .inl grL)), (zdi, .inl (cI, 32, .inl gdL)), (zpa, .inl (cI, 64, .inl gpL)), (zin, .inl (cI, 300, .inl gi)), (zke, .inl (cI, 32, .inl ((sm_stir (gk, gv) gi ni).1))), (zva, .inl (cI, 32, .inl (sm_vs ((sm_stir (gk, gv) gi ni).1) ((sm_stir (gk, gv) gi ni).2) ((n + 31) / 32)))), (zle, .inl (cI, 32, .inl ((sm_stir (gk, gv) gi ni).2))), (zdr, .inl (cI, 400, .inl (sm_ap gD 0 (sm_dr ((sm_stir (gk, gv) gi ni).1) ((sm_stir (gk, gv) gi ni).2)) n)))] H := hP
                  have hD : va_D A [(zm, .inr (4, [.int flt, .ref zrt, .ref zfi, .ref zsu, .ref zwo, .ref zro, .int (nI 0), .ref zdi, .ref zpa, .ref zin, .int (nI ni), .ref zow, .int os_, .int 1, .ref zke, .ref zva, .ref zle, .int ct, .int iv, .int dw, .ref zdr, .int (nI n)])), (zrt, .inl (cI, 64, .inl sm_K)), (zfi, .inl (cI, 8, .inl sm_F)), (zsu, .inl (cI, 8, .inl gsL)), (zwo, .inl (cI, 64, .inl gwL)), (zro, .inl (cI, 512, .inl grL)), (zdi, .inl (cI, 32, .inl gdL)), (zpa, .inl (cI, 64, .inl gpL)), (zin, .inl (cI, 300, .inl gi)), (zke, .inl (cI, 32, .inl ((sm_stir (gk, gv) gi ni).1))), (zva, .inl (cI, 32, .inl (sm_vs ((sm_stir (gk, gv) gi ni).1) ((sm_stir (gk, gv) gi ni).2) ((n + 31) / 32)))), (zle, .inl (cI, 32, .inl ((sm_stir (gk, gv) gi ni).2))), (zdr, .inl (cI, 400, .inl (sm_ap gD 0 (sm_dr ((sm_stir (gk, gv) gi ni).1) ((sm_stir (gk, gv) gi ni).2)) n)))] := hD
                  refine lv_aload_n hx hb dX4_draw_91 rfl (lv_at hl 1 rfl) ?_
                  refine sm_callVv (wc := [(zm, .inr (4, [.int flt, .ref zrt, .ref zfi, .ref zsu, .ref zwo, .ref zro, .int (nI 0), .ref zdi, .ref zpa, .ref zin, .int (nI ni), .ref zow, .int os_, .int 1, .ref zke, .ref zva, .ref zle, .int ct, .int iv, .int dw, .ref zdr, .int (nI n)])), (zrt, .inl (cI, 64, .inl sm_K)), (zfi, .inl (cI, 8, .inl sm_F)), (zsu, .inl (cI, 8, .inl gsL)), (zwo, .inl (cI, 64, .inl gwL)), (zro, .inl (cI, 512, .inl grL)), (zdi, .inl (cI, 32, .inl gdL)), (zpa, .inl (cI, 64, .inl gpL)), (zin, .inl (cI, 300, .inl gi)), (zke, .inl (cI, 32, .inl ((sm_stir (gk, gv) gi ni).1))), (zva, .inl (cI, 32, .inl (sm_vs ((sm_stir (gk, gv) gi ni).1) ((sm_stir (gk, gv) gi ni).2) ((n + 31) / 32)))), (zle, .inl (cI, 32, .inl ((sm_stir (gk, gv) gi ni).2)))]) (wr := [(zdr, .inl (cI, 400, .inl (sm_ap gD 0 (sm_dr ((sm_stir (gk, gv) gi ni).1) ((sm_stir (gk, gv) gi ni).2)) n)))]) (As := []) (rest := []) ⟨hx, hb, hml, hown, hts⟩ (sc_X4_stir l D cI th _ zm zrt zfi zsu zwo zro zdi zpa zin zow zke zva zle zdr flt (nI ni) os_ 1 ct iv dw (nI n) gsL gwL grL gdL gpL ni gi ((sm_stir (gk, gv) gi ni).1) (sm_vs ((sm_stir (gk, gv) gi ni).1) ((sm_stir (gk, gv) gi ni).2) ((n + 31) / 32)) ((sm_stir (gk, gv) gi ni).2) (by omega) hgi (fun j hj => sm_st_by1 j) (sm_vs_by (fun j hj => sm_st_by2 j) _)) (cwV 0 hts gX4_draw_X4_stir rfl rfl rfl (by decide +kernel) ⟨Nat.le_of_ble_eq_true rfl, Nat.le_of_ble_eq_true rfl⟩) hP hD hS hA hK hT [0, 1, 2, 3, 4, 5, 6, 7, 8, 9, 10, 11] [12] rfl rfl rfl rfl (by decide) 0 4 rfl rfl rfl rfl hl.1 rfl (Nat.le_of_ble_eq_true rfl) dX4_draw_92 ⟨Nat.zero_le _, Nat.zero_le _⟩ (fun zt H1 locs ht hvm hB hJ hS => ?_)
                  obtain ⟨gs2, gw2, gr2, gd2, gp2, hP1, -, hD1⟩ := hB
                  rw [ht] at hP1
                  obtain ⟨hP, hD⟩ := hJ _ hP1 hD1
                  clear hJ
                  generalize H1 = H at hP hS ⊢
                  have hP : va_P D vwCl [(zm, .inr (4, [.int flt, .ref zrt, .ref zfi, .ref zsu, .ref zwo, .ref zro, .int (nI 0), .ref zdi, .ref zpa, .ref zin, .int (nI ni), .ref zow, .int os_, .int 1, .ref zke, .ref zva, .ref zle, .int ct, .int iv, .int dw, .ref zdr, .int (nI n)])), (zrt, .inl (cI, 64, .inl sm_K)), (zfi, .inl (cI, 8, .inl sm_F)), (zsu, .inl (cI, 8, .inl gs2)), (zwo, .inl (cI, 64, .inl gw2)), (zro, .inl (cI, 512, .inl gr2)), (zdi, .inl (cI, 32, .inl gd2)), (zpa, .inl (cI, 64, .inl gp2)), (zin, .inl (cI, 300, .inl gi)), (zke, .inl (cI, 32, .inl ((sm_stir ((sm_stir (gk, gv) gi ni).1, sm_vs ((sm_stir (gk, gv) gi ni).1) ((sm_stir (gk, gv) gi ni).2) ((n + 31) / 32)) gi ni).1))), (zva, .inl (cI, 32, .inl ((sm_stir ((sm_stir (gk, gv) gi ni).1, sm_vs ((sm_stir (gk, gv) gi ni).1) ((sm_stir (gk, gv) gi ni).2) ((n + 31) / 32)) gi ni).2))), (zle, .inl (cI, 32, .inl ((sm_stir ((sm_stir (gk, gv) gi ni).1, sm_vs ((sm_stir (gk, gv) gi ni).1) ((sm_stir (gk, gv) gi ni).2) ((n + 31) / 32)) gi ni).2))), (zdr, .inl (cI, 400, .inl (sm_ap gD 0 (sm_dr ((sm_stir (gk, gv) gi ni).1) ((sm_stir (gk, gv) gi ni).2)) n)))] H := hP.sub [1, 2, 3, 4, 5, 6, 7, 8, 9, 10, 11, 12, 0] rfl
                  have hD : va_D A [(zm, .inr (4, [.int flt, .ref zrt, .ref zfi, .ref zsu, .ref zwo, .ref zro, .int (nI 0), .ref zdi, .ref zpa, .ref zin, .int (nI ni), .ref zow, .int os_, .int 1, .ref zke, .ref zva, .ref zle, .int ct, .int iv, .int dw, .ref zdr, .int (nI n)])), (zrt, .inl (cI, 64, .inl sm_K)), (zfi, .inl (cI, 8, .inl sm_F)), (zsu, .inl (cI, 8, .inl gs2)), (zwo, .inl (cI, 64, .inl gw2)), (zro, .inl (cI, 512, .inl gr2)), (zdi, .inl (cI, 32, .inl gd2)), (zpa, .inl (cI, 64, .inl gp2)), (zin, .inl (cI, 300, .inl gi)), (zke, .inl (cI, 32, .inl ((sm_stir ((sm_stir (gk, gv) gi ni).1, sm_vs ((sm_stir (gk, gv) gi ni).1) ((sm_stir (gk, gv) gi ni).2) ((n + 31) / 32)) gi ni).1))), (zva, .inl (cI, 32, .inl ((sm_stir ((sm_stir (gk, gv) gi ni).1, sm_vs ((sm_stir (gk, gv) gi ni).1) ((sm_stir (gk, gv) gi ni).2) ((n + 31) / 32)) gi ni).2))), (zle, .inl (cI, 32, .inl ((sm_stir ((sm_stir (gk, gv) gi ni).1, sm_vs ((sm_stir (gk, gv) gi ni).1) ((sm_stir (gk, gv) gi ni).2) ((n + 31) / 32)) gi ni).2))), (zdr, .inl (cI, 400, .inl (sm_ap gD 0 (sm_dr ((sm_stir (gk, gv) gi ni).1) ((sm_stir (gk, gv) gi ni).2)) n)))] := hD.sub [1, 2, 3, 4, 5, 6, 7, 8, 9, 10, 11, 12, 0] rfl rfl
                  refine lv_aload_n hx hb dX4_draw_95 rfl (lv_at hl 1 rfl) ?_
                  refine lv_dup hx hb dX4_draw_96 rfl ?_
                  refine va_get (D := D) (ci := 4) (v := .int ct) (C := RX4) (T := TX4) (N := 22) hx hb hts hw_X4 hown hK hP 0 rfl rfl 17 (by decide) hf_169 (fun _ h9 => h9) rfl dX4_draw_97 ?_
                  refine lv_iconst (v := 1) hx hb dX4_draw_100 (by decide) ?_
                  refine lv_iadd hx hb dX4_draw_101 ?_
                  refine va_put (D := D) (ci := 4) (v := .int (ct + 1)) (ty := .int) (C := RX4) (T := TX4) (N := 22) hx hb hts hw_X4 tyX4 tyX4_ok nmX4 hown hK hP hD hS 0 rfl rfl 17 (by decide) hf_169 (fun _ h9 => h9) rfl (by decide +kernel) rfl rfl (Nat.le_of_ble_eq_true rfl) dX4_draw_102 (fun H locs hP hD hS => ?_)
                  have hP : va_P D vwCl [(zm, .inr (4, [.int flt, .ref zrt, .ref zfi, .ref zsu, .ref zwo, .ref zro, .int (nI 0), .ref zdi, .ref zpa, .ref zin, .int (nI ni), .ref zow, .int os_, .int 1, .ref zke, .ref zva, .ref zle, .int (ct + 1), .int iv, .int dw, .ref zdr, .int (nI n)])), (zrt, .inl (cI, 64, .inl sm_K)), (zfi, .inl (cI, 8, .inl sm_F)), (zsu, .inl (cI, 8, .inl gs2)), (zwo, .inl (cI, 64, .inl gw2)), (zro, .inl (cI, 512, .inl gr2)), (zdi, .inl (cI, 32, .inl gd2)), (zpa, .inl (cI, 64, .inl gp2)), (zin, .inl (cI, 300, .inl gi)), (zke, .inl (cI, 32, .inl ((sm_stir ((sm_stir (gk, gv) gi ni).1, sm_vs ((sm_stir (gk, gv) gi ni).1) ((sm_stir (gk, gv) gi ni).2) ((n + 31) / 32)) gi ni).1))), (zva, .inl (cI, 32, .inl ((sm_stir ((sm_stir (gk, gv) gi ni).1, sm_vs ((sm_stir (gk, gv) gi ni).1) ((sm_stir (gk, gv) gi ni).2) ((n + 31) / 32)) gi ni).2))), (zle, .inl (cI, 32, .inl ((sm_stir ((sm_stir (gk, gv) gi ni).1, sm_vs ((sm_stir (gk, gv) gi ni).1) ((sm_stir (gk, gv) gi ni).2) ((n + 31) / 32)) gi ni).2))), (zdr, .inl (cI, 400, .inl (sm_ap gD 0 (sm_dr ((sm_stir (gk, gv) gi ni).1) ((sm_stir (gk, gv) gi ni).2)) n)))] H := hP
                  have hD : va_D A [(zm, .inr (4, [.int flt, .ref zrt, .ref zfi, .ref zsu, .ref zwo, .ref zro, .int (nI 0), .ref zdi, .ref zpa, .ref zin, .int (nI ni), .ref zow, .int os_, .int 1, .ref zke, .ref zva, .ref zle, .int (ct + 1), .int iv, .int dw, .ref zdr, .int (nI n)])), (zrt, .inl (cI, 64, .inl sm_K)), (zfi, .inl (cI, 8, .inl sm_F)), (zsu, .inl (cI, 8, .inl gs2)), (zwo, .inl (cI, 64, .inl gw2)), (zro, .inl (cI, 512, .inl gr2)), (zdi, .inl (cI, 32, .inl gd2)), (zpa, .inl (cI, 64, .inl gp2)), (zin, .inl (cI, 300, .inl gi)), (zke, .inl (cI, 32, .inl ((sm_stir ((sm_stir (gk, gv) gi ni).1, sm_vs ((sm_stir (gk, gv) gi ni).1) ((sm_stir (gk, gv) gi ni).2) ((n + 31) / 32)) gi ni).1))), (zva, .inl (cI, 32, .inl ((sm_stir ((sm_stir (gk, gv) gi ni).1, sm_vs ((sm_stir (gk, gv) gi ni).1) ((sm_stir (gk, gv) gi ni).2) ((n + 31) / 32)) gi ni).2))), (zle, .inl (cI, 32, .inl ((sm_stir ((sm_stir (gk, gv) gi ni).1, sm_vs ((sm_stir (gk, gv) gi ni).1) ((sm_stir (gk, gv) gi ni).2) ((n + 31) / 32)) gi ni).2))), (zdr, .inl (cI, 400, .inl (sm_ap gD 0 (sm_dr ((sm_stir (gk, gv) gi ni).1) ((sm_stir (gk, gv) gi ni).2)) n)))] := hD
                  refine lv_aload_n hx hb dX4_draw_105 rfl (lv_at hl 1 rfl) ?_
                  refine lv_dup hx hb dX4_draw_106 rfl ?_
                  refine va_get (D := D) (ci := 4) (v := .int dw) (C := RX4) (T := TX4) (N := 22) hx hb hts hw_X4 hown hK hP 0 rfl rfl 19 (by decide) hf_175 (fun _ h9 => h9) rfl dX4_draw_107 ?_
                  refine lv_iconst (v := 1) hx hb dX4_draw_110 (by decide) ?_
                  refine lv_iadd hx hb dX4_draw_111 ?_
                  refine va_put (D := D) (ci := 4) (v := .int (dw + 1)) (ty := .int) (C := RX4) (T := TX4) (N := 22) hx hb hts hw_X4 tyX4 tyX4_ok nmX4 hown hK hP hD hS 0 rfl rfl 19 (by decide) hf_175 (fun _ h9 => h9) rfl (by decide +kernel) rfl rfl (Nat.le_of_ble_eq_true rfl) dX4_draw_112 (fun H locs hP hD hS => ?_)
                  have hP : va_P D vwCl [(zm, .inr (4, [.int flt, .ref zrt, .ref zfi, .ref zsu, .ref zwo, .ref zro, .int (nI 0), .ref zdi, .ref zpa, .ref zin, .int (nI ni), .ref zow, .int os_, .int 1, .ref zke, .ref zva, .ref zle, .int (ct + 1), .int iv, .int (dw + 1), .ref zdr, .int (nI n)])), (zrt, .inl (cI, 64, .inl sm_K)), (zfi, .inl (cI, 8, .inl sm_F)), (zsu, .inl (cI, 8, .inl gs2)), (zwo, .inl (cI, 64, .inl gw2)), (zro, .inl (cI, 512, .inl gr2)), (zdi, .inl (cI, 32, .inl gd2)), (zpa, .inl (cI, 64, .inl gp2)), (zin, .inl (cI, 300, .inl gi)), (zke, .inl (cI, 32, .inl ((sm_stir ((sm_stir (gk, gv) gi ni).1, sm_vs ((sm_stir (gk, gv) gi ni).1) ((sm_stir (gk, gv) gi ni).2) ((n + 31) / 32)) gi ni).1))), (zva, .inl (cI, 32, .inl ((sm_stir ((sm_stir (gk, gv) gi ni).1, sm_vs ((sm_stir (gk, gv) gi ni).1) ((sm_stir (gk, gv) gi ni).2) ((n + 31) / 32)) gi ni).2))), (zle, .inl (cI, 32, .inl ((sm_stir ((sm_stir (gk, gv) gi ni).1, sm_vs ((sm_stir (gk, gv) gi ni).1) ((sm_stir (gk, gv) gi ni).2) ((n + 31) / 32)) gi ni).2))), (zdr, .inl (cI, 400, .inl (sm_ap gD 0 (sm_dr ((sm_stir (gk, gv) gi ni).1) ((sm_stir (gk, gv) gi ni).2)) n)))] H := hP
                  have hD : va_D A [(zm, .inr (4, [.int flt, .ref zrt, .ref zfi, .ref zsu, .ref zwo, .ref zro, .int (nI 0), .ref zdi, .ref zpa, .ref zin, .int (nI ni), .ref zow, .int os_, .int 1, .ref zke, .ref zva, .ref zle, .int (ct + 1), .int iv, .int (dw + 1), .ref zdr, .int (nI n)])), (zrt, .inl (cI, 64, .inl sm_K)), (zfi, .inl (cI, 8, .inl sm_F)), (zsu, .inl (cI, 8, .inl gs2)), (zwo, .inl (cI, 64, .inl gw2)), (zro, .inl (cI, 512, .inl gr2)), (zdi, .inl (cI, 32, .inl gd2)), (zpa, .inl (cI, 64, .inl gp2)), (zin, .inl (cI, 300, .inl gi)), (zke, .inl (cI, 32, .inl ((sm_stir ((sm_stir (gk, gv) gi ni).1, sm_vs ((sm_stir (gk, gv) gi ni).1) ((sm_stir (gk, gv) gi ni).2) ((n + 31) / 32)) gi ni).1))), (zva, .inl (cI, 32, .inl ((sm_stir ((sm_stir (gk, gv) gi ni).1, sm_vs ((sm_stir (gk, gv) gi ni).1) ((sm_stir (gk, gv) gi ni).2) ((n + 31) / 32)) gi ni).2))), (zle, .inl (cI, 32, .inl ((sm_stir ((sm_stir (gk, gv) gi ni).1, sm_vs ((sm_stir (gk, gv) gi ni).1) ((sm_stir (gk, gv) gi ni).2) ((n + 31) / 32)) gi ni).2))), (zdr, .inl (cI, 400, .inl (sm_ap gD 0 (sm_dr ((sm_stir (gk, gv) gi ni).1) ((sm_stir (gk, gv) gi ni).2)) n)))] := hD
                  refine lv_aload_n hx hb dX4_draw_115 rfl (lv_at hl 1 rfl) ?_
                  refine lv_iconst (v := 0) hx hb dX4_draw_116 (by decide) ?_
                  refine va_put (D := D) (ci := 4) (v := .int 0) (ty := .int) (C := RX4) (T := TX4) (N := 22) hx hb hts hw_X4 tyX4 tyX4_ok nmX4 hown hK hP hD hS 0 rfl rfl 10 (by decide) hf_154 (fun _ h9 => h9) rfl (by decide +kernel) rfl rfl (Nat.le_of_ble_eq_true rfl) dX4_draw_117 (fun H locs hP hD hS => ?_)
                  have hP : va_P D vwCl [(zm, .inr (4, [.int flt, .ref zrt, .ref zfi, .ref zsu, .ref zwo, .ref zro, .int (nI 0), .ref zdi, .ref zpa, .ref zin, .int 0, .ref zow, .int os_, .int 1, .ref zke, .ref zva, .ref zle, .int (ct + 1), .int iv, .int (dw + 1), .ref zdr, .int (nI n)])), (zrt, .inl (cI, 64, .inl sm_K)), (zfi, .inl (cI, 8, .inl sm_F)), (zsu, .inl (cI, 8, .inl gs2)), (zwo, .inl (cI, 64, .inl gw2)), (zro, .inl (cI, 512, .inl gr2)), (zdi, .inl (cI, 32, .inl gd2)), (zpa, .inl (cI, 64, .inl gp2)), (zin, .inl (cI, 300, .inl gi)), (zke, .inl (cI, 32, .inl ((sm_stir ((sm_stir (gk, gv) gi ni).1, sm_vs ((sm_stir (gk, gv) gi ni).1) ((sm_stir (gk, gv) gi ni).2) ((n + 31) / 32)) gi ni).1))), (zva, .inl (cI, 32, .inl ((sm_stir ((sm_stir (gk, gv) gi ni).1, sm_vs ((sm_stir (gk, gv) gi ni).1) ((sm_stir (gk, gv) gi ni).2) ((n + 31) / 32)) gi ni).2))), (zle, .inl (cI, 32, .inl ((sm_stir ((sm_stir (gk, gv) gi ni).1, sm_vs ((sm_stir (gk, gv) gi ni).1) ((sm_stir (gk, gv) gi ni).2) ((n + 31) / 32)) gi ni).2))), (zdr, .inl (cI, 400, .inl (sm_ap gD 0 (sm_dr ((sm_stir (gk, gv) gi ni).1) ((sm_stir (gk, gv) gi ni).2)) n)))] H := hP
                  have hD : va_D A [(zm, .inr (4, [.int flt, .ref zrt, .ref zfi, .ref zsu, .ref zwo, .ref zro, .int (nI 0), .ref zdi, .ref zpa, .ref zin, .int 0, .ref zow, .int os_, .int 1, .ref zke, .ref zva, .ref zle, .int (ct + 1), .int iv, .int (dw + 1), .ref zdr, .int (nI n)])), (zrt, .inl (cI, 64, .inl sm_K)), (zfi, .inl (cI, 8, .inl sm_F)), (zsu, .inl (cI, 8, .inl gs2)), (zwo, .inl (cI, 64, .inl gw2)), (zro, .inl (cI, 512, .inl gr2)), (zdi, .inl (cI, 32, .inl gd2)), (zpa, .inl (cI, 64, .inl gp2)), (zin, .inl (cI, 300, .inl gi)), (zke, .inl (cI, 32, .inl ((sm_stir ((sm_stir (gk, gv) gi ni).1, sm_vs ((sm_stir (gk, gv) gi ni).1) ((sm_stir (gk, gv) gi ni).2) ((n + 31) / 32)) gi ni).1))), (zva, .inl (cI, 32, .inl ((sm_stir ((sm_stir (gk, gv) gi ni).1, sm_vs ((sm_stir (gk, gv) gi ni).1) ((sm_stir (gk, gv) gi ni).2) ((n + 31) / 32)) gi ni).2))), (zle, .inl (cI, 32, .inl ((sm_stir ((sm_stir (gk, gv) gi ni).1, sm_vs ((sm_stir (gk, gv) gi ni).1) ((sm_stir (gk, gv) gi ni).2) ((n + 31) / 32)) gi ni).2))), (zdr, .inl (cI, 400, .inl (sm_ap gD 0 (sm_dr ((sm_stir (gk, gv) gi ni).1) ((sm_stir (gk, gv) gi ni).2)) n)))] := hD
                  refine lv_iconst (v := 0) hx hb dX4_draw_120 (by decide) ?_
                  rw [hQ]
                  have hP9 : va_P D vwCl [(zm, .inr (4, [.int flt, .ref zrt, .ref zfi, .ref zsu, .ref zwo, .ref zro, .int (nI 0), .ref zdi, .ref zpa, .ref zin, .int (nI 0), .ref zow, .int os_, .int 1, .ref zke, .ref zva, .ref zle, .int (ct + 1), .int iv, .int (dw + 1), .ref zdr, .int (nI n)])), (zrt, .inl (cI, 64, .inl sm_K)), (zfi, .inl (cI, 8, .inl sm_F)), (zsu, .inl (cI, 8, .inl gs2)), (zwo, .inl (cI, 64, .inl gw2)), (zro, .inl (cI, 512, .inl gr2)), (zdi, .inl (cI, 32, .inl gd2)), (zpa, .inl (cI, 64, .inl gp2)), (zin, .inl (cI, 300, .inl gi)), (zke, .inl (cI, 32, .inl ((sm_stir ((sm_stir (gk, gv) gi ni).1, sm_vs ((sm_stir (gk, gv) gi ni).1) ((sm_stir (gk, gv) gi ni).2) ((n + 31) / 32)) gi ni).1))), (zva, .inl (cI, 32, .inl ((sm_stir ((sm_stir (gk, gv) gi ni).1, sm_vs ((sm_stir (gk, gv) gi ni).1) ((sm_stir (gk, gv) gi ni).2) ((n + 31) / 32)) gi ni).2))), (zle, .inl (cI, 32, .inl ((sm_stir ((sm_stir (gk, gv) gi ni).1, sm_vs ((sm_stir (gk, gv) gi ni).1) ((sm_stir (gk, gv) gi ni).2) ((n + 31) / 32)) gi ni).2))), (zdr, .inl (cI, 400, .inl (sm_ap gD 0 (sm_dr ((sm_stir (gk, gv) gi ni).1) ((sm_stir (gk, gv) gi ni).2)) n)))] H := hP
                  have hD9 : va_D A [(zm, .inr (4, [.int flt, .ref zrt, .ref zfi, .ref zsu, .ref zwo, .ref zro, .int (nI 0), .ref zdi, .ref zpa, .ref zin, .int (nI 0), .ref zow, .int os_, .int 1, .ref zke, .ref zva, .ref zle, .int (ct + 1), .int iv, .int (dw + 1), .ref zdr, .int (nI n)])), (zrt, .inl (cI, 64, .inl sm_K)), (zfi, .inl (cI, 8, .inl sm_F)), (zsu, .inl (cI, 8, .inl gs2)), (zwo, .inl (cI, 64, .inl gw2)), (zro, .inl (cI, 512, .inl gr2)), (zdi, .inl (cI, 32, .inl gd2)), (zpa, .inl (cI, 64, .inl gp2)), (zin, .inl (cI, 300, .inl gi)), (zke, .inl (cI, 32, .inl ((sm_stir ((sm_stir (gk, gv) gi ni).1, sm_vs ((sm_stir (gk, gv) gi ni).1) ((sm_stir (gk, gv) gi ni).2) ((n + 31) / 32)) gi ni).1))), (zva, .inl (cI, 32, .inl ((sm_stir ((sm_stir (gk, gv) gi ni).1, sm_vs ((sm_stir (gk, gv) gi ni).1) ((sm_stir (gk, gv) gi ni).2) ((n + 31) / 32)) gi ni).2))), (zle, .inl (cI, 32, .inl ((sm_stir ((sm_stir (gk, gv) gi ni).1, sm_vs ((sm_stir (gk, gv) gi ni).1) ((sm_stir (gk, gv) gi ni).2) ((n + 31) / 32)) gi ni).2))), (zdr, .inl (cI, 400, .inl (sm_ap gD 0 (sm_dr ((sm_stir (gk, gv) gi ni).1) ((sm_stir (gk, gv) gi ni).2)) n)))] := hD
                  exact W.iret (v := 0) hx hb hr (fun t ht hW => ⟨⟨0, (), rfl, rfl, ⟨_, _, _, _, _, by rw [ht]; exact hP9, va_K.moved hW.alike hK, hD9⟩⟩, hS.F ht⟩) hS.2.2 dX4_draw_121
                ·
                  have hlt : k < n := by
                    rcases Nat.lt_or_ge k n with q | q
                    · exact q
                    · exact absurd (nI_le q (by omega)) c_51
                  refine lv_iload_n hx hb dX4_draw_54 rfl (lv_at hl 0 rfl) ?_
                  refine lv_bipush (v := 32) hx hb dX4_draw_55 (by decide) ?_
                  refine lv_irem hx hb dX4_draw_57 (by decide) ?_
                  refine sm_top (z := nI (k % 32)) (pk_rem (d := 32) (by omega) (by decide) (by decide)) ?_
                  refine lv_if_ne (tgt := 65) hx hb dX4_draw_58 (by decide) (fun c_58 => ?_) (fun c_58 => ?_)
                  ·
                    have hmd : k % 32 ≠ 0 := fun q => c_58 (by rw [q]; rfl)
                    rw [show (k + 31) / 32 = k / 32 + 1 by omega] at hP hD
                    have hP : va_P D vwCl [(zm, .inr (4, [.int flt, .ref zrt, .ref zfi, .ref zsu, .ref zwo, .ref zro, .int (nI 0), .ref zdi, .ref zpa, .ref zin, .int (nI ni), .ref zow, .int os_, .int 1, .ref zke, .ref zva, .ref zle, .int ct, .int iv, .int dw, .ref zdr, .int ds])), (zrt, .inl (cI, 64, .inl sm_K)), (zfi, .inl (cI, 8, .inl sm_F)), (zsu, .inl (cI, 8, .inl gsL)), (zwo, .inl (cI, 64, .inl gwL)), (zro, .inl (cI, 512, .inl grL)), (zdi, .inl (cI, 32, .inl gdL)), (zpa, .inl (cI, 64, .inl gpL)), (zin, .inl (cI, 300, .inl gi)), (zke, .inl (cI, 32, .inl ((sm_stir (gk, gv) gi ni).1))), (zva, .inl (cI, 32, .inl (sm_vs ((sm_stir (gk, gv) gi ni).1) ((sm_stir (gk, gv) gi ni).2) (k / 32 + 1)))), (zle, .inl (cI, 32, .inl ((sm_stir (gk, gv) gi ni).2))), (zdr, .inl (cI, 400, .inl (sm_ap gD 0 (sm_dr ((sm_stir (gk, gv) gi ni).1) ((sm_stir (gk, gv) gi ni).2)) k)))] H := hP
                    have hD : va_D A [(zm, .inr (4, [.int flt, .ref zrt, .ref zfi, .ref zsu, .ref zwo, .ref zro, .int (nI 0), .ref zdi, .ref zpa, .ref zin, .int (nI ni), .ref zow, .int os_, .int 1, .ref zke, .ref zva, .ref zle, .int ct, .int iv, .int dw, .ref zdr, .int ds])), (zrt, .inl (cI, 64, .inl sm_K)), (zfi, .inl (cI, 8, .inl sm_F)), (zsu, .inl (cI, 8, .inl gsL)), (zwo, .inl (cI, 64, .inl gwL)), (zro, .inl (cI, 512, .inl grL)), (zdi, .inl (cI, 32, .inl gdL)), (zpa, .inl (cI, 64, .inl gpL)), (zin, .inl (cI, 300, .inl gi)), (zke, .inl (cI, 32, .inl ((sm_stir (gk, gv) gi ni).1))), (zva, .inl (cI, 32, .inl (sm_vs ((sm_stir (gk, gv) gi ni).1) ((sm_stir (gk, gv) gi ni).2) (k / 32 + 1)))), (zle, .inl (cI, 32, .inl ((sm_stir (gk, gv) gi ni).2))), (zdr, .inl (cI, 400, .inl (sm_ap gD 0 (sm_dr ((sm_stir (gk, gv) gi ni).1) ((sm_stir (gk, gv) gi ni).2)) k)))] := hD
                    refine lv_aload_n hx hb dX4_draw_65 rfl (lv_at hl 1 rfl) ?_
                    refine va_get (D := D) (ci := 4) (v := .ref zdr) (C := RX4) (T := TX4) (N := 22) hx hb hts hw_X4 hown hK hP 0 rfl rfl 20 (by decide) hf_122 (fun _ h9 => h9) rfl dX4_draw_66 ?_
                    refine lv_iload_n hx hb dX4_draw_69 rfl (lv_at hl 0 rfl) ?_
                    refine lv_aload_n hx hb dX4_draw_70 rfl (lv_at hl 1 rfl) ?_
                    refine va_get (D := D) (ci := 4) (v := .ref zva) (C := RX4) (T := TX4) (N := 22) hx hb hts hw_X4 hown hK hP 0 rfl rfl 15 (by decide) hf_112 (fun _ h9 => h9) rfl dX4_draw_71 ?_
                    refine lv_iload_n hx hb dX4_draw_74 rfl (lv_at hl 0 rfl) ?_
                    refine lv_bipush (v := 32) hx hb dX4_draw_75 (by decide) ?_
                    refine lv_irem hx hb dX4_draw_77 (by decide) ?_
                    refine sm_top (z := nI (k % 32)) (pk_rem (d := 32) (by omega) (by decide) (by decide)) ?_
                    refine va_iald (i := nI (k % 32)) hx hb hK hP 10 0 rfl rfl (vp_in_nI (n := (k % 32)) (by omega) (by omega)) dX4_draw_78 ?_
                    refine sm_top (z := (sm_vs ((sm_stir (gk, gv) gi ni).1) ((sm_stir (gk, gv) gi ni).2) (k / 32 + 1)) (k % 32)) (congrArg (sm_vs ((sm_stir (gk, gv) gi ni).1) ((sm_stir (gk, gv) gi ni).2) (k / 32 + 1)) (nI_clamp (n := (k % 32)) (by omega))) ?_
                    refine va_iast (i := nI k) (x := (sm_vs ((sm_stir (gk, gv) gi ni).1) ((sm_stir (gk, gv) gi ni).2) (k / 32 + 1)) (k % 32)) hx hb hK hP hD hS 12 0 rfl rfl (vp_in_nI (n := k) (by omega) (by omega)) dX4_draw_79 (fun H locs hP hD hS => ?_)
                    rw [show Int32.toNatClampNeg (nI k) = k from nI_clamp (n := k) (by omega)] at hP hD
                    have hP : va_P D vwCl [(zm, .inr (4, [.int flt, .ref zrt, .ref zfi, .ref zsu, .ref zwo, .ref zro, .int (nI 0), .ref zdi, .ref zpa, .ref zin, .int (nI ni), .ref zow, .int os_, .int 1, .ref zke, .ref zva, .ref zle, .int ct, .int iv, .int dw, .ref zdr, .int ds])), (zrt, .inl (cI, 64, .inl sm_K)), (zfi, .inl (cI, 8, .inl sm_F)), (zsu, .inl (cI, 8, .inl gsL)), (zwo, .inl (cI, 64, .inl gwL)), (zro, .inl (cI, 512, .inl grL)), (zdi, .inl (cI, 32, .inl gdL)), (zpa, .inl (cI, 64, .inl gpL)), (zin, .inl (cI, 300, .inl gi)), (zke, .inl (cI, 32, .inl ((sm_stir (gk, gv) gi ni).1))), (zva, .inl (cI, 32, .inl (sm_vs ((sm_stir (gk, gv) gi ni).1) ((sm_stir (gk, gv) gi ni).2) (k / 32 + 1)))), (zle, .inl (cI, 32, .inl ((sm_stir (gk, gv) gi ni).2))), (zdr, .inl (cI, 400, .inl (upd (sm_ap gD 0 (sm_dr ((sm_stir (gk, gv) gi ni).1) ((sm_stir (gk, gv) gi ni).2)) k) k ((sm_vs ((sm_stir (gk, gv) gi ni).1) ((sm_stir (gk, gv) gi ni).2) (k / 32 + 1)) (k % 32)))))] H := hP
                    have hD : va_D A [(zm, .inr (4, [.int flt, .ref zrt, .ref zfi, .ref zsu, .ref zwo, .ref zro, .int (nI 0), .ref zdi, .ref zpa, .ref zin, .int (nI ni), .ref zow, .int os_, .int 1, .ref zke, .ref zva, .ref zle, .int ct, .int iv, .int dw, .ref zdr, .int ds])), (zrt, .inl (cI, 64, .inl sm_K)), (zfi, .inl (cI, 8, .inl sm_F)), (zsu, .inl (cI, 8, .inl gsL)), (zwo, .inl (cI, 64, .inl gwL)), (zro, .inl (cI, 512, .inl grL)), (zdi, .inl (cI, 32, .inl gdL)), (zpa, .inl (cI, 64, .inl gpL)), (zin, .inl (cI, 300, .inl gi)), (zke, .inl (cI, 32, .inl ((sm_stir (gk, gv) gi ni).1))), (zva, .inl (cI, 32, .inl (sm_vs ((sm_stir (gk, gv) gi ni).1) ((sm_stir (gk, gv) gi ni).2) (k / 32 + 1)))), (zle, .inl (cI, 32, .inl ((sm_stir (gk, gv) gi ni).2))), (zdr, .inl (cI, 400, .inl (upd (sm_ap gD 0 (sm_dr ((sm_stir (gk, gv) gi ni).1) ((sm_stir (gk, gv) gi ni).2)) k) k ((sm_vs ((sm_stir (gk, gv) gi ni).1) ((sm_stir (gk, gv) gi ni).2) (k / 32 + 1)) (k % 32)))))] := hD
                    refine lv_iinc (v := nI (k + 1)) (lv' := [(2, .int (nI (k + 1))), (0, .ref zm), (1, .int (nI n))]) hx hb dX4_draw_80 hl (k := 0) rfl (nI_1 k) (by decide) rfl (fun ls hl => ?_)
                    refine lv_goto (tgt := 49) hx hb dX4_draw_83 (by decide) ?_
                    rw [show upd (sm_ap gD 0 (sm_dr ((sm_stir (gk, gv) gi ni).1) ((sm_stir (gk, gv) gi ni).2)) k) k (sm_vs ((sm_stir (gk, gv) gi ni).1) ((sm_stir (gk, gv) gi ni).2) (k / 32 + 1) (k % 32)) = _ from sm_ap_s0 gD (sm_dr ((sm_stir (gk, gv) gi ni).1) ((sm_stir (gk, gv) gi ni).2)) k, show k / 32 + 1 = (k + 1 + 31) / 32 by omega] at hP hD
                    exact ih (k + 1) _ _ _ _ _ _ _ _ (by omega) (by omega) hP hD hS (lv_sub hl [0, 1, 2] rfl)
                  ·
                    have hmd : k % 32 = 0 := (nI_eq (b := 0) (by omega) (by decide)).mp c_58
                    rw [show (k + 31) / 32 = k / 32 by omega] at hP hD
                    have hP : va_P D vwCl [(zm, .inr (4, [.int flt, .ref zrt, .ref zfi, .ref zsu, .ref zwo, .ref zro, .int (nI 0), .ref zdi, .ref zpa, .ref zin, .int (nI ni), .ref zow, .int os_, .int 1, .ref zke, .ref zva, .ref zle, .int ct, .int iv, .int dw, .ref zdr, .int ds])), (zrt, .inl (cI, 64, .inl sm_K)), (zfi, .inl (cI, 8, .inl sm_F)), (zsu, .inl (cI, 8, .inl gsL)), (zwo, .inl (cI, 64, .inl gwL)), (zro, .inl (cI, 512, .inl grL)), (zdi, .inl (cI, 32, .inl gdL)), (zpa, .inl (cI, 64, .inl gpL)), (zin, .inl (cI, 300, .inl gi)), (zke, .inl (cI, 32, .inl ((sm_stir (gk, gv) gi ni).1))), (zva, .inl (cI, 32, .inl (sm_vs ((sm_stir (gk, gv) gi ni).1) ((sm_stir (gk, gv) gi ni).2) (k / 32)))), (zle, .inl (cI, 32, .inl ((sm_stir (gk, gv) gi ni).2))), (zdr, .inl (cI, 400, .inl (sm_ap gD 0 (sm_dr ((sm_stir (gk, gv) gi ni).1) ((sm_stir (gk, gv) gi ni).2)) k)))] H := hP
                    have hD : va_D A [(zm, .inr (4, [.int flt, .ref zrt, .ref zfi, .ref zsu, .ref zwo, .ref zro, .int (nI 0), .ref zdi, .ref zpa, .ref zin, .int (nI ni), .ref zow, .int os_, .int 1, .ref zke, .ref zva, .ref zle, .int ct, .int iv, .int dw, .ref zdr, .int ds])), (zrt, .inl (cI, 64, .inl sm_K)), (zfi, .inl (cI, 8, .inl sm_F)), (zsu, .inl (cI, 8, .inl gsL)), (zwo, .inl (cI, 64, .inl gwL)), (zro, .inl (cI, 512, .inl grL)), (zdi, .inl (cI, 32, .inl gdL)), (zpa, .inl (cI, 64, .inl gpL)), (zin, .inl (cI, 300, .inl gi)), (zke, .inl (cI, 32, .inl ((sm_stir (gk, gv) gi ni).1))), (zva, .inl (cI, 32, .inl (sm_vs ((sm_stir (gk, gv) gi ni).1) ((sm_stir (gk, gv) gi ni).2) (k / 32)))), (zle, .inl (cI, 32, .inl ((sm_stir (gk, gv) gi ni).2))), (zdr, .inl (cI, 400, .inl (sm_ap gD 0 (sm_dr ((sm_stir (gk, gv) gi ni).1) ((sm_stir (gk, gv) gi ni).2)) k)))] := hD
                    refine lv_aload_n hx hb dX4_draw_61 rfl (lv_at hl 1 rfl) ?_
                    refine sm_callVv (wc := [(zm, .inr (4, [.int flt, .ref zrt, .ref zfi, .ref zsu, .ref zwo, .ref zro, .int (nI 0), .ref zdi, .ref zpa, .ref zin, .int (nI ni), .ref zow, .int os_, .int 1, .ref zke, .ref zva, .ref zle, .int ct, .int iv, .int dw, .ref zdr, .int ds])), (zrt, .inl (cI, 64, .inl sm_K)), (zfi, .inl (cI, 8, .inl sm_F)), (zsu, .inl (cI, 8, .inl gsL)), (zwo, .inl (cI, 64, .inl gwL)), (zro, .inl (cI, 512, .inl grL)), (zdi, .inl (cI, 32, .inl gdL)), (zpa, .inl (cI, 64, .inl gpL)), (zke, .inl (cI, 32, .inl ((sm_stir (gk, gv) gi ni).1))), (zva, .inl (cI, 32, .inl (sm_vs ((sm_stir (gk, gv) gi ni).1) ((sm_stir (gk, gv) gi ni).2) (k / 32))))]) (wr := [(zin, .inl (cI, 300, .inl gi)), (zle, .inl (cI, 32, .inl ((sm_stir (gk, gv) gi ni).2))), (zdr, .inl (cI, 400, .inl (sm_ap gD 0 (sm_dr ((sm_stir (gk, gv) gi ni).1) ((sm_stir (gk, gv) gi ni).2)) k)))]) (As := []) (rest := []) ⟨hx, hb, hml, hown, hts⟩ (sc_X4_nextValue l D cI th _ zm zrt zfi zsu zwo zro zdi zpa zin zow zke zva zle zdr flt (nI ni) os_ 1 ct iv dw ds gsL gwL grL gdL gpL ((sm_stir (gk, gv) gi ni).1) (sm_vs ((sm_stir (gk, gv) gi ni).1) ((sm_stir (gk, gv) gi ni).2) (k / 32)) (fun j hj => sm_st_by1 j) (sm_vs_by (fun j hj => sm_st_by2 j) _)) (cwV 0 hts gX4_draw_X4_nextValue rfl rfl rfl (by decide +kernel) ⟨Nat.le_of_ble_eq_true rfl, Nat.le_of_ble_eq_true rfl⟩) hP hD hS hA hK hT [0, 1, 2, 3, 4, 5, 6, 7, 9, 10] [8, 11, 12] rfl rfl rfl rfl (by decide) 0 4 rfl rfl rfl rfl hl.1 rfl (Nat.le_of_ble_eq_true rfl) dX4_draw_62 ⟨Nat.zero_le _, Nat.zero_le _⟩ (fun zt H1 locs ht hvm hB hJ hS => ?_)
                    obtain ⟨gsM, gwM, grM, gdM, gpM, hP1, -, hD1⟩ := hB
                    rw [ht] at hP1
                    obtain ⟨hP, hD⟩ := hJ _ hP1 hD1
                    clear hJ
                    generalize H1 = H at hP hS ⊢
                    have hP : va_P D vwCl [(zm, .inr (4, [.int flt, .ref zrt, .ref zfi, .ref zsu, .ref zwo, .ref zro, .int (nI 0), .ref zdi, .ref zpa, .ref zin, .int (nI ni), .ref zow, .int os_, .int 1, .ref zke, .ref zva, .ref zle, .int ct, .int iv, .int dw, .ref zdr, .int ds])), (zrt, .inl (cI, 64, .inl sm_K)), (zfi, .inl (cI, 8, .inl sm_F)), (zsu, .inl (cI, 8, .inl gsM)), (zwo, .inl (cI, 64, .inl gwM)), (zro, .inl (cI, 512, .inl grM)), (zdi, .inl (cI, 32, .inl gdM)), (zpa, .inl (cI, 64, .inl gpM)), (zin, .inl (cI, 300, .inl gi)), (zke, .inl (cI, 32, .inl ((sm_stir (gk, gv) gi ni).1))), (zva, .inl (cI, 32, .inl (sm_vs ((sm_stir (gk, gv) gi ni).1) ((sm_stir (gk, gv) gi ni).2) (k / 32 + 1)))), (zle, .inl (cI, 32, .inl ((sm_stir (gk, gv) gi ni).2))), (zdr, .inl (cI, 400, .inl (sm_ap gD 0 (sm_dr ((sm_stir (gk, gv) gi ni).1) ((sm_stir (gk, gv) gi ni).2)) k)))] H := hP.sub [3, 4, 5, 6, 7, 8, 9, 10, 0, 11, 12, 1, 2] rfl
                    have hD : va_D A [(zm, .inr (4, [.int flt, .ref zrt, .ref zfi, .ref zsu, .ref zwo, .ref zro, .int (nI 0), .ref zdi, .ref zpa, .ref zin, .int (nI ni), .ref zow, .int os_, .int 1, .ref zke, .ref zva, .ref zle, .int ct, .int iv, .int dw, .ref zdr, .int ds])), (zrt, .inl (cI, 64, .inl sm_K)), (zfi, .inl (cI, 8, .inl sm_F)), (zsu, .inl (cI, 8, .inl gsM)), (zwo, .inl (cI, 64, .inl gwM)), (zro, .inl (cI, 512, .inl grM)), (zdi, .inl (cI, 32, .inl gdM)), (zpa, .inl (cI, 64, .inl gpM)), (zin, .inl (cI, 300, .inl gi)), (zke, .inl (cI, 32, .inl ((sm_stir (gk, gv) gi ni).1))), (zva, .inl (cI, 32, .inl (sm_vs ((sm_stir (gk, gv) gi ni).1) ((sm_stir (gk, gv) gi ni).2) (k / 32 + 1)))), (zle, .inl (cI, 32, .inl ((sm_stir (gk, gv) gi ni).2))), (zdr, .inl (cI, 400, .inl (sm_ap gD 0 (sm_dr ((sm_stir (gk, gv) gi ni).1) ((sm_stir (gk, gv) gi ni).2)) k)))] := hD.sub [3, 4, 5, 6, 7, 8, 9, 10, 0, 11, 12, 1, 2] rfl rfl
                    refine lv_aload_n hx hb dX4_draw_65 rfl (lv_at hl 1 rfl) ?_
                    refine va_get (D := D) (ci := 4) (v := .ref zdr) (C := RX4) (T := TX4) (N := 22) hx hb hts hw_X4 hown hK hP 0 rfl rfl 20 (by decide) hf_122 (fun _ h9 => h9) rfl dX4_draw_66 ?_
                    refine lv_iload_n hx hb dX4_draw_69 rfl (lv_at hl 0 rfl) ?_
                    refine lv_aload_n hx hb dX4_draw_70 rfl (lv_at hl 1 rfl) ?_
                    refine va_get (D := D) (ci := 4) (v := .ref zva) (C := RX4) (T := TX4) (N := 22) hx hb hts hw_X4 hown hK hP 0 rfl rfl 15 (by decide) hf_112 (fun _ h9 => h9) rfl dX4_draw_71 ?_
                    refine lv_iload_n hx hb dX4_draw_74 rfl (lv_at hl 0 rfl) ?_
                    refine lv_bipush (v := 32) hx hb dX4_draw_75 (by decide) ?_
                    refine lv_irem hx hb dX4_draw_77 (by decide) ?_
                    refine sm_top (z := nI (k % 32)) (pk_rem (d := 32) (by omega) (by decide) (by decide)) ?_
                    refine va_iald (i := nI (k % 32)) hx hb hK hP 10 0 rfl rfl (vp_in_nI (n := (k % 32)) (by omega) (by omega)) dX4_draw_78 ?_
                    refine sm_top (z := (sm_vs ((sm_stir (gk, gv) gi ni).1) ((sm_stir (gk, gv) gi ni).2) (k / 32 + 1)) (k % 32)) (congrArg (sm_vs ((sm_stir (gk, gv) gi ni).1) ((sm_stir (gk, gv) gi ni).2) (k / 32 + 1)) (nI_clamp (n := (k % 32)) (by omega))) ?_
                    refine va_iast (i := nI k) (x := (sm_vs ((sm_stir (gk, gv) gi ni).1) ((sm_stir (gk, gv) gi ni).2) (k / 32 + 1)) (k % 32)) hx hb hK hP hD hS 12 0 rfl rfl (vp_in_nI (n := k) (by omega) (by omega)) dX4_draw_79 (fun H locs hP hD hS => ?_)
                    rw [show Int32.toNatClampNeg (nI k) = k from nI_clamp (n := k) (by omega)] at hP hD
                    have hP : va_P D vwCl [(zm, .inr (4, [.int flt, .ref zrt, .ref zfi, .ref zsu, .ref zwo, .ref zro, .int (nI 0), .ref zdi, .ref zpa, .ref zin, .int (nI ni), .ref zow, .int os_, .int 1, .ref zke, .ref zva, .ref zle, .int ct, .int iv, .int dw, .ref zdr, .int ds])), (zrt, .inl (cI, 64, .inl sm_K)), (zfi, .inl (cI, 8, .inl sm_F)), (zsu, .inl (cI, 8, .inl gsM)), (zwo, .inl (cI, 64, .inl gwM)), (zro, .inl (cI, 512, .inl grM)), (zdi, .inl (cI, 32, .inl gdM)), (zpa, .inl (cI, 64, .inl gpM)), (zin, .inl (cI, 300, .inl gi)), (zke, .inl (cI, 32, .inl ((sm_stir (gk, gv) gi ni).1))), (zva, .inl (cI, 32, .inl (sm_vs ((sm_stir (gk, gv) gi ni).1) ((sm_stir (gk, gv) gi ni).2) (k / 32 + 1)))), (zle, .inl (cI, 32, .inl ((sm_stir (gk, gv) gi ni).2))), (zdr, .inl (cI, 400, .inl (upd (sm_ap gD 0 (sm_dr ((sm_stir (gk, gv) gi ni).1) ((sm_stir (gk, gv) gi ni).2)) k) k ((sm_vs ((sm_stir (gk, gv) gi ni).1) ((sm_stir (gk, gv) gi ni).2) (k / 32 + 1)) (k % 32)))))] H := hP
                    have hD : va_D A [(zm, .inr (4, [.int flt, .ref zrt, .ref zfi, .ref zsu, .ref zwo, .ref zro, .int (nI 0), .ref zdi, .ref zpa, .ref zin, .int (nI ni), .ref zow, .int os_, .int 1, .ref zke, .ref zva, .ref zle, .int ct, .int iv, .int dw, .ref zdr, .int ds])), (zrt, .inl (cI, 64, .inl sm_K)), (zfi, .inl (cI, 8, .inl sm_F)), (zsu, .inl (cI, 8, .inl gsM)), (zwo, .inl (cI, 64, .inl gwM)), (zro, .inl (cI, 512, .inl grM)), (zdi, .inl (cI, 32, .inl gdM)), (zpa, .inl (cI, 64, .inl gpM)), (zin, .inl (cI, 300, .inl gi)), (zke, .inl (cI, 32, .inl ((sm_stir (gk, gv) gi ni).1))), (zva, .inl (cI, 32, .inl (sm_vs ((sm_stir (gk, gv) gi ni).1) ((sm_stir (gk, gv) gi ni).2) (k / 32 + 1)))), (zle, .inl (cI, 32, .inl ((sm_stir (gk, gv) gi ni).2))), (zdr, .inl (cI, 400, .inl (upd (sm_ap gD 0 (sm_dr ((sm_stir (gk, gv) gi ni).1) ((sm_stir (gk, gv) gi ni).2)) k) k ((sm_vs ((sm_stir (gk, gv) gi ni).1) ((sm_stir (gk, gv) gi ni).2) (k / 32 + 1)) (k % 32)))))] := hD
                    refine lv_iinc (v := nI (k + 1)) (lv' := [(2, .int (nI (k + 1))), (0, .ref zm), (1, .int (nI n))]) hx hb dX4_draw_80 hl (k := 0) rfl (nI_1 k) (by decide) rfl (fun ls hl => ?_)
                    refine lv_goto (tgt := 49) hx hb dX4_draw_83 (by decide) ?_
                    rw [show upd (sm_ap gD 0 (sm_dr ((sm_stir (gk, gv) gi ni).1) ((sm_stir (gk, gv) gi ni).2)) k) k (sm_vs ((sm_stir (gk, gv) gi ni).1) ((sm_stir (gk, gv) gi ni).2) (k / 32 + 1) (k % 32)) = _ from sm_ap_s0 gD (sm_dr ((sm_stir (gk, gv) gi ni).1) ((sm_stir (gk, gv) gi ni).2)) k, show k / 32 + 1 = (k + 1 + 31) / 32 by omega] at hP hD
                    exact ih (k + 1) _ _ _ _ _ _ _ _ (by omega) (by omega) hP hD hS (lv_sub hl [0, 1, 2] rfl)
            exact lp49 _ 0 gs1 gw1 gr1 gd1 gp1 _ _ _ (Nat.lt_succ_self _) (Nat.zero_le _) (by rw [sm_ap_0]; exact hP) (by rw [sm_ap_0]; exact hD) hS (lv_sub hl [0, 1, 2] rfl)
        ·
          exact absurd hiv c_31
      ·
        exact absurd (nI_le (b := 400) hn4 (by decide)) c_18
  ·
    exact absurd c_4 (by decide)
