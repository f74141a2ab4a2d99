def rm_X4_hashRow : Room := ({ frames := 2, cells := 0, slots := 0, locals := 53 } : Room)
set_option maxHeartbeats 4000000 in
set_option maxRecDepth 100000 in
/-- hashRow -/
theorem sc_X4_hashRow (l : Launch) (D : va_G) (cI : ClassId) (th : Option (Nat × Nat)) (sz : Nat) (zm zrt zfi zsu zwo zro zdi zpa zin zow zke zva zle zdr : Nat) (flt is_ os_ sd ct iv dw ds : Int32) (n : Nat) (gs gw gr gd : Nat → Int32) (hn : 64 * sm_nb n ≤ 512) : Met l yX4_hashRow wsX4_hashRow rm_X4_hashRow (va_Pc [.ref zm] (sm_PW D cI th [(zm, .inr (4, [.int flt, .ref zrt, .ref zfi, .ref zsu, .ref zwo, .ref zro, .int (nI n), .ref zdi, .ref zpa, .ref zin, .int is_, .ref zow, .int os_, .int sd, .ref zke, .ref zva, .ref zle, .int ct, .int iv, .int dw, .ref zdr, .int ds])), (zrt, .inl (cI, 64, .inl sm_K)), (zfi, .inl (cI, 8, .inl sm_F)), (zsu, .inl (cI, 8, .inl gs)), (zwo, .inl (cI, 64, .inl gw)), (zro, .inl (cI, 512, .inl gr)), (zdi, .inl (cI, 32, .inl gd))] sz)) (va_Qv (fun (_ : Unit) => True) (fun _ t => ∃ (gs2 : Nat → Int32) (gw2 : Nat → Int32) (gr2 : Nat → Int32), sm_QW D cI (va_A [(zm, .inr (4, [.int flt, .ref zrt, .ref zfi, .ref zsu, .ref zwo, .ref zro, .int (nI n), .ref zdi, .ref zpa, .ref zin, .int is_, .ref zow, .int os_, .int sd, .ref zke, .ref zva, .ref zle, .int ct, .int iv, .int dw, .ref zdr, .int ds])), (zrt, .inl (cI, 64, .inl sm_K)), (zfi, .inl (cI, 8, .inl sm_F)), (zsu, .inl (cI, 8, .inl gs)), (zwo, .inl (cI, 64, .inl gw)), (zro, .inl (cI, 512, .inl gr)), (zdi, .inl (cI, 32, .inl gd))] sz) [(zm, .inr (4, [.int flt, .ref zrt, .ref zfi, .ref zsu, .ref zwo, .ref zro, .int (nI 0), .ref zdi, .ref zpa, .ref zin, .int is_, .ref zow, .int os_, .int sd, .ref zke, .ref zva, .ref zle, .int ct, .int iv, .int dw, .ref zdr, .int ds])), (zrt, .inl (cI, 64, .inl sm_K)), (zfi, .inl (cI, 8, .inl sm_F)), (zsu, .inl (cI, 8, .inl gs2)), (zwo, .inl (cI, 64, .inl gw2)), (zro, .inl (cI, 512, .inl gr2)), (zdi, .inl (cI, 32, .inl (sm_sha gr n)))] t) (va_A [(zm, .inr (4, [.int flt, .ref zrt, .ref zfi, .ref zsu, .ref zwo, .ref zro, .int (nI n), .ref zdi, .ref zpa, .ref zin, .int is_, .ref zow, .int os_, .int sd, .ref zke, .ref zva, .ref zle, .int ct, .int iv, .int dw, .ref zdr, .int ds])), (zrt, .inl (cI, 64, .inl sm_K)), (zfi, .inl (cI, 8, .inl sm_F)), (zsu, .inl (cI, 8, .inl gs)), (zwo, .inl (cI, 64, .inl gw)), (zro, .inl (cI, 512, .inl gr)), (zdi, .inl (cI, 32, .inl gd))] sz)) 0 0 (va_A [(zm, .inr (4, [.int flt, .ref zrt, .ref zfi, .ref zsu, .ref zwo, .ref zro, .int (nI n), .ref zdi, .ref zpa, .ref zin, .int is_, .ref zow, .int os_, .int sd, .ref zke, .ref zva, .ref zle, .int ct, .int iv, .int dw, .ref zdr, .int ds])), (zrt, .inl (cI, 64, .inl sm_K)), (zfi, .inl (cI, 8, .inl sm_F)), (zsu, .inl (cI, 8, .inl gs)), (zwo, .inl (cI, 64, .inl gw)), (zro, .inl (cI, 512, .inl gr)), (zdi, .inl (cI, 32, .inl gd))] sz) := by
  refine Met.ofW (cc := cX4_hashRow) (maxL := 3) (ret := none) (by decide) rfl ?_
  intro p e s m args below meth c s₁ B hml hv
  obtain ⟨rfl, hsz, hP, hK, hD0, hT⟩ := hv
  have hx := B.exec
  have hb := B.bytes
  have hr := B.returns
  have hts := atoms_spec (ws := wsX4_hashRow) B.pre
  have hown : s.vm.findClass RX4 = some m.cls := findClass_of_methodNamed B.named
  have hlocks := B.notSynchronized
  subst hsz
  have hD := hD0.self (sz := s.heap.size)
  generalize hAe : va_A [(zm, .inr (4, [.int flt, .ref zrt, .ref zfi, .ref zsu, .ref zwo, .ref zro, .int (nI n), .ref zdi, .ref zpa, .ref zin, .int is_, .ref zow, .int os_, .int sd, .ref zke, .ref zva, .ref zle, .int ct, .int iv, .int dw, .ref zdr, .int ds])), (zrt, .inl (cI, 64, .inl sm_K)), (zfi, .inl (cI, 8, .inl sm_F)), (zsu, .inl (cI, 8, .inl gs)), (zwo, .inl (cI, 64, .inl gw)), (zro, .inl (cI, 512, .inl gr)), (zdi, .inl (cI, 32, .inl gd))] s.heap.size = A at hD hT ⊢
  have hA : ∀ q : Nat, s.heap.size ≤ q → A q := fun q h => by rw [← hAe]; exact Or.inr h
  have hS : va_S A s.heap s.heap [] := va_S.rf
  have hl := lv_entry ([.ref zm]) (n := 3) (Nat.le_of_ble_eq_true rfl)
  rw [lg_entry_eq]
  generalize (lg_sl ([.ref zm]) ++ List.replicate (3 - (lg_sl ([.ref zm])).length) Slot.unset).toArray = ls at hl ⊢
  have hl : lv_has ls 3 [(0, .ref zm)] := hl
  refine sm_name (fun Q hQ => ?_)
  have hf_132 := hts (.fieldLink RX4 132 "SeedMillModel" "rowSize" "I") (by decide +kernel)
  have hw_X4 : ∀ w ∈ wsX40, w ∈ wsX4_hashRow := by decide +kernel
  have hf_88 := hts (.fieldLink RX4 88 "SeedMillModel" "sum" "[I") (by decide +kernel)
  have hf_85 := hts (.fieldLink RX4 85 "SeedMillModel" "first" "[I") (by decide +kernel)
  have hf_97 := hts (.fieldLink RX4 97 "SeedMillModel" "digest" "[I") (by decide +kernel)
  obtain ⟨z, hz⟩ : ∃ z, z = (64 * ((n + 1 + 7) / 64) + 56 - (n + 1)) := ⟨_, rfl⟩
  have hnb : 64 * sm_nb n = n + 1 + z + 8 := by unfold sm_nb; omega
  refine lv_bipush (v := 8) hx hb dX4_hashRow_0 (by decide) ?_
  refine lv_aload_n hx hb dX4_hashRow_2 rfl (lv_at hl 0 rfl) ?_
  refine va_get (D := D) (ci := 4) (v := .int (nI n)) (C := RX4) (T := TX4) (N := 22) hx hb hts hw_X4 hown hK hP 0 rfl rfl 6 (by decide) hf_132 (fun _ h9 => h9) rfl dX4_hashRow_3 ?_
  refine lv_imul hx hb dX4_hashRow_6 ?_
  refine sm_top (z := nI (8 * n)) (pk_mul 8 n) ?_
  refine lv_istore_n (lv' := [(1, .int (nI (8 * n))), (0, .ref zm)]) hx hb dX4_hashRow_7 rfl hl (by decide) rfl (fun ls hl => ?_)
  refine lv_aload_n hx hb dX4_hashRow_8 rfl (lv_at hl 1 rfl) ?_
  refine lv_sipush (v := 128) hx hb dX4_hashRow_9 (by decide) ?_
  refine sm_callVv (wc := [(zm, .inr (4, [.int flt, .ref zrt, .ref zfi, .ref zsu, .ref zwo, .ref zro, .int (nI n), .ref zdi, .ref zpa, .ref zin, .int is_, .ref zow, .int os_, .int sd, .ref zke, .ref zva, .ref zle, .int ct, .int iv, .int dw, .ref zdr, .int ds])), (zro, .inl (cI, 512, .inl gr))]) (wr := [(zrt, .inl (cI, 64, .inl sm_K)), (zfi, .inl (cI, 8, .inl sm_F)), (zsu, .inl (cI, 8, .inl gs)), (zwo, .inl (cI, 64, .inl gw)), (zdi, .inl (cI, 32, .inl gd))]) (As := [.int 128]) (rest := []) ⟨hx, hb, hml, hown, hts⟩ (sc_X4_put l D cI th _ zm zrt zfi zsu zwo zro zdi zpa zin zow zke zva zle zdr flt is_ os_ sd ct iv dw ds n gr 128 (by omega)) (cwV 1 hts gX4_hashRow_X4_put rfl rfl rfl (by decide +kernel) ⟨Nat.le_of_ble_eq_true rfl, Nat.le_of_ble_eq_true rfl⟩) hP hD hS hA hK hT [0, 5] [1, 2, 3, 4, 6] rfl rfl rfl rfl (by decide) 0 4 rfl rfl rfl rfl hl.1 rfl (Nat.le_of_ble_eq_true rfl) dX4_hashRow_12 ⟨Nat.zero_le _, Nat.zero_le _⟩ (fun zt H1 locs ht hvm hB hJ hS => ?_)
  obtain ⟨hP1, -, hD1⟩ := hB
  rw [ht] at hP1
  obtain ⟨hP, hD⟩ := hJ _ hP1 hD1
  clear hJ
  generalize H1 = H at hP hS ⊢
  have hP : va_P D vwCl [(zm, .inr (4, [.int flt, .ref zrt, .ref zfi, .ref zsu, .ref zwo, .ref zro, .int (nI (n + 1)), .ref zdi, .ref zpa, .ref zin, .int is_, .ref zow, .int os_, .int sd, .ref zke, .ref zva, .ref zle, .int ct, .int iv, .int dw, .ref zdr, .int ds])), (zrt, .inl (cI, 64, .inl sm_K)), (zfi, .inl (cI, 8, .inl sm_F)), (zsu, .inl (cI, 8, .inl gs)), (zwo, .inl (cI, 64, .inl gw)), (zro, .inl (cI, 512, .inl (upd gr n (128 &&& 255)))), (zdi, .inl (cI, 32, .inl gd))] H := hP.sub [5, 0, 1, 2, 3, 6, 4] rfl
  have hD : va_D A [(zm, .inr (4, [.int flt, .ref zrt, .ref zfi, .ref zsu, .ref zwo, .ref zro, .int (nI (n + 1)), .ref zdi, .ref zpa, .ref zin, .int is_, .ref zow, .int os_, .int sd, .ref zke, .ref zva, .ref zle, .int ct, .int iv, .int dw, .ref zdr, .int ds])), (zrt, .inl (cI, 64, .inl sm_K)), (zfi, .inl (cI, 8, .inl sm_F)), (zsu, .inl (cI, 8, .inl gs)), (zwo, .inl (cI, 64, .inl gw)), (zro, .inl (cI, 512, .inl (upd gr n (128 &&& 255)))), (zdi, .inl (cI, 32, .inl gd))] := hD.sub [5, 0, 1, 2, 3, 6, 4] rfl rfl
  rw [show (128 : Int32) &&& 255 = 128 from (by decide)] at hP hD
  have hP : va_P D vwCl [(zm, .inr (4, [.int flt, .ref zrt, .ref zfi, .ref zsu, .ref zwo, .ref zro, .int (nI (n + 1)), .ref zdi, .ref zpa, .ref zin, .int is_, .ref zow, .int os_, .int sd, .ref zke, .ref zva, .ref zle, .int ct, .int iv, .int dw, .ref zdr, .int ds])), (zrt, .inl (cI, 64, .inl sm_K)), (zfi, .inl (cI, 8, .inl sm_F)), (zsu, .inl (cI, 8, .inl gs)), (zwo, .inl (cI, 64, .inl gw)), (zro, .inl (cI, 512, .inl (upd gr n 128))), (zdi, .inl (cI, 32, .inl gd))] H := hP
  have hD : va_D A [(zm, .inr (4, [.int flt, .ref zrt, .ref zfi, .ref zsu, .ref zwo, .ref zro, .int (nI (n + 1)), .ref zdi, .ref zpa, .ref zin, .int is_, .ref zow, .int os_, .int sd, .ref zke, .ref zva, .ref zle, .int ct, .int iv, .int dw, .ref zdr, .int ds])), (zrt, .inl (cI, 64, .inl sm_K)), (zfi, .inl (cI, 8, .inl sm_F)), (zsu, .inl (cI, 8, .inl gs)), (zwo, .inl (cI, 64, .inl gw)), (zro, .inl (cI, 512, .inl (upd gr n 128))), (zdi, .inl (cI, 32, .inl gd))] := hD
  have lp15 : ∀ (zn : Nat) (k : Nat) (H : Heap) (locs : List Loc) (ls : Array Slot), z - k < zn → k ≤ z → va_P D vwCl [(zm, .inr (4, [.int flt, .ref zrt, .ref zfi, .ref zsu, .ref zwo, .ref zro, .int (nI (n + 1 + k)), .ref zdi, .ref zpa, .ref zin, .int is_, .ref zow, .int os_, .int sd, .ref zke, .ref zva, .ref zle, .int ct, .int iv, .int dw, .ref zdr, .int ds])), (zrt, .inl (cI, 64, .inl sm_K)), (zfi, .inl (cI, 8, .inl sm_F)), (zsu, .inl (cI, 8, .inl gs)), (zwo, .inl (cI, 64, .inl gw)), (zro, .inl (cI, 512, .inl (sm_ap (upd gr n 128) (n + 1) (fun _ => 0) k))), (zdi, .inl (cI, 32, .inl gd))] H → va_D A [(zm, .inr (4, [.int flt, .ref zrt, .ref zfi, .ref zsu, .ref zwo, .ref zro, .int (nI (n + 1 + k)), .ref zdi, .ref zpa, .ref zin, .int is_, .ref zow, .int os_, .int sd, .ref zke, .ref zva, .ref zle, .int ct, .int iv, .int dw, .ref zdr, .int ds])), (zrt, .inl (cI, 64, .inl sm_K)), (zfi, .inl (cI, 8, .inl sm_F)), (zsu, .inl (cI, 8, .inl gs)), (zwo, .inl (cI, 64, .inl gw)), (zro, .inl (cI, 512, .inl (sm_ap (upd gr n 128) (n + 1) (fun _ => 0) k))), (zdi, .inl (cI, 32, .inl gd))] → va_S A s.heap H locs → lv_has ls 3 [(1, .int (nI (8 * n))), (0, .ref zm)] → W p l e (headSpec wsX4_hashRow rm_X4_hashRow).room s m ([.ref zm] : List Value).toArray below meth c H locs 0 0 Q (F0 m 15 ls []) := by
    intro zn
    induction zn with
    | zero => intro k H locs ls hmu; exact absurd hmu (Nat.not_lt_zero _)
    | succ zn ih =>
      intro k H locs ls hmu hk1 hP hD hS hl
      refine lv_aload_n hx hb dX4_hashRow_15 rfl (lv_at hl 1 rfl) ?_
      refine va_get (D := D) (ci := 4) (v := .int (nI (n + 1 + k))) (C := RX4) (T := TX4) (N := 22) hx hb hts hw_X4 hown hK hP 0 rfl rfl 6 (by decide) hf_132 (fun _ h9 => h9) rfl dX4_hashRow_16 ?_
      refine lv_bipush (v := 64) hx hb dX4_hashRow_19 (by decide) ?_
      refine lv_irem hx hb dX4_hashRow_21 (by decide) ?_
      refine sm_top (z := nI ((n + 1 + k) % 64)) (pk_rem (d := 64) (by omega) (by decide) (by decide)) ?_
      refine lv_bipush (v := 56) hx hb dX4_hashRow_22 (by decide) ?_
      refine lv_icmp_eq (tgt := 35) hx hb dX4_hashRow_24 (by decide) (fun c_24 => ?_) (fun c_24 => ?_)
      ·
        have hex : k = z := by
          have q := (nI_eq (a := (n + 1 + k) % 64) (b := 56) (by omega) (by decide)).mp c_24
          omega
        rw [hex] at hP hD
        have hP : va_P D vwCl [(zm, .inr (4, [.int flt, .ref zrt, .ref zfi, .ref zsu, .ref zwo, .ref zro, .int (nI (n + 1 + z)), .ref zdi, .ref zpa, .ref zin, .int is_, .ref zow, .int os_, .int sd, .ref zke, .ref zva, .ref zle, .int ct, .int iv, .int dw, .ref zdr, .int ds])), (zrt, .inl (cI, 64, .inl sm_K)), (zfi, .inl (cI, 8, .inl sm_F)), (zsu, .inl (cI, 8, .inl gs)), (zwo, .inl (cI, 64, .inl gw)), (zro, .inl (cI, 512, .inl (sm_ap (upd gr n 128) (n + 1) (fun _ => 0) z))), (zdi, .inl (cI, 32, .inl gd))] H := hP
        have hD : va_D A [(zm, .inr (4, [.int flt, .ref zrt, .ref zfi, .ref zsu, .ref zwo, .ref zro, .int (nI (n + 1 + z)), .ref zdi, .ref zpa, .ref zin, .int is_, .ref zow, .int os_, .int sd, .ref zke, .ref zva, .ref zle, .int ct, .int iv, .int dw, .ref zdr, .int ds])), (zrt, .inl (cI, 64, .inl sm_K)), (zfi, .inl (cI, 8, .inl sm_F)), (zsu, .inl (cI, 8, .inl gs)), (zwo, .inl (cI, 64, .inl gw)), (zro, .inl (cI, 512, .inl (sm_ap (upd gr n 128) (n + 1) (fun _ => 0) z))), (zdi, .inl (cI, 32, .inl gd))] := hD
        refine lv_iconst (v := 0) hx hb dX4_hashRow_35 (by decide) ?_
        refine lv_istore_n (lv' := [(2, .int 0), (1, .int (nI (8 * n))), (0, .ref zm)]) hx hb dX4_hashRow_36 rfl hl (by decide) rfl (fun ls hl => ?_)
        have lp37 : ∀ (zn : Nat) (i : Nat) (H : Heap) (locs : List Loc) (ls : Array Slot), 8 - i < zn → i ≤ 8 → va_P D vwCl [(zm, .inr (4, [.int flt, .ref zrt, .ref zfi, .ref zsu, .ref zwo, .ref zro, .int (nI (n + 1 + z + i)), .ref zdi, .ref zpa, .ref zin, .int is_, .ref zow, .int os_, .int sd, .ref zke, .ref zva, .ref zle, .int ct, .int iv, .int dw, .ref zdr, .int ds])), (zrt, .inl (cI, 64, .inl sm_K)), (zfi, .inl (cI, 8, .inl sm_F)), (zsu, .inl (cI, 8, .inl gs)), (zwo, .inl (cI, 64, .inl gw)), (zro, .inl (cI, 512, .inl (sm_ap (sm_ap (upd gr n 128) (n + 1) (fun _ => 0) z) (n + 1 + z) (sm_lb n) i))), (zdi, .inl (cI, 32, .inl gd))] H → va_D A [(zm, .inr (4, [.int flt, .ref zrt, .ref zfi, .ref zsu, .ref zwo, .ref zro, .int (nI (n + 1 + z + i)), .ref zdi, .ref zpa, .ref zin, .int is_, .ref zow, .int os_, .int sd, .ref zke, .ref zva, .ref zle, .int ct, .int iv, .int dw, .ref zdr, .int ds])), (zrt, .inl (cI, 64, .inl sm_K)), (zfi, .inl (cI, 8, .inl sm_F)), (zsu, .inl (cI, 8, .inl gs)), (zwo, .inl (cI, 64, .inl gw)), (zro, .inl (cI, 512, .inl (sm_ap (sm_ap (upd gr n 128) (n + 1) (fun _ => 0) z) (n + 1 + z) (sm_lb n) i))), (zdi, .inl (cI, 32, .inl gd))] → va_S A s.heap H locs → lv_has ls 3 [(2, .int (nI i)), (1, .int (nI (8 * n))), (0, .ref zm)] → W p l e (headSpec wsX4_hashRow rm_X4_hashRow).room s m ([.ref zm] : List Value).toArray below meth c H locs 0 0 Q (F0 m 37 ls []) := by
          intro zn
          induction zn with
          | zero => intro i H locs ls hmu; exact absurd hmu (Nat.not_lt_zero _)
          | succ zn ih =>
            intro i H locs ls hmu hi_37 hP hD hS hl
            refine lv_iload_n hx hb dX4_hashRow_37 rfl (lv_at hl 0 rfl) ?_
            refine lv_bipush (v := 8) hx hb dX4_hashRow_38 (by decide) ?_
            refine lv_icmp_ge (tgt := 71) hx hb dX4_hashRow_40 (by decide) (fun c_40 => ?_) (fun c_40 => ?_)
            ·
              have hex_37 : i = 8 := by
                rcases Nat.lt_or_ge i (8) with q | q
                · exact absurd c_40 (nI_ge q (by decide))
                · omega
              rw [hex_37, show n + 1 + z + 8 = 64 * sm_nb n by omega] at hP hD
              obtain ⟨g1, hg1⟩ : ∃ g1, g1 = sm_ap (sm_ap (upd gr n 128) (n + 1) (fun _ => 0) z) (n + 1 + z) (sm_lb n) 8 := ⟨_, rfl⟩
              rw [← hg1] at hP hD
              have hf1 : ∀ j, j < 64 * sm_nb n → g1 j = sm_pm gr n j := by rw [hg1]; exact sm_padM gr n z hz
              have hP : va_P D vwCl [(zm, .inr (4, [.int flt, .ref zrt, .ref zfi, .ref zsu, .ref zwo, .ref zro, .int (nI (64 * sm_nb n)), .ref zdi, .ref zpa, .ref zin, .int is_, .ref zow, .int os_, .int sd, .ref zke, .ref zva, .ref zle, .int ct, .int iv, .int dw, .ref zdr, .int ds])), (zrt, .inl (cI, 64, .inl sm_K)), (zfi, .inl (cI, 8, .inl sm_F)), (zsu, .inl (cI, 8, .inl gs)), (zwo, .inl (cI, 64, .inl gw)), (zro, .inl (cI, 512, .inl g1)), (zdi, .inl (cI, 32, .inl gd))] H := hP
              have hD : va_D A [(zm, .inr (4, [.int flt, .ref zrt, .ref zfi, .ref zsu, .ref zwo, .ref zro, .int (nI (64 * sm_nb n)), .ref zdi, .ref zpa, .ref zin, .int is_, .ref zow, .int os_, .int sd, .ref zke, .ref zva, .ref zle, .int ct, .int iv, .int dw, .ref zdr, .int ds])), (zrt, .inl (cI, 64, .inl sm_K)), (zfi, .inl (cI, 8, .inl sm_F)), (zsu, .inl (cI, 8, .inl gs)), (zwo, .inl (cI, 64, .inl gw)), (zro, .inl (cI, 512, .inl g1)), (zdi, .inl (cI, 32, .inl gd))] := hD
              refine lv_iconst (v := 0) hx hb dX4_hashRow_71 (by decide) ?_
              refine lv_istore_n (lv' := [(2, .int 0), (1, .int (nI (8 * n))), (0, .ref zm)]) hx hb dX4_hashRow_72 rfl hl (by decide) rfl (fun ls hl => ?_)
              have lp73 : ∀ (zn : Nat) (k2 : Nat) (H : Heap) (locs : List Loc) (ls : Array Slot), 8 - k2 < zn → k2 ≤ 8 → va_P D vwCl [(zm, .inr (4, [.int flt, .ref zrt, .ref zfi, .ref zsu, .ref zwo, .ref zro, .int (nI (64 * sm_nb n)), .ref zdi, .ref zpa, .ref zin, .int is_, .ref zow, .int os_, .int sd, .ref zke, .ref zva, .ref zle, .int ct, .int iv, .int dw, .ref zdr, .int ds])), (zrt, .inl (cI, 64, .inl sm_K)), (zfi, .inl (cI, 8, .inl sm_F)), (zsu, .inl (cI, 8, .inl (sm_ap gs 0 sm_F k2))), (zwo, .inl (cI, 64, .inl gw)), (zro, .inl (cI, 512, .inl g1)), (zdi, .inl (cI, 32, .inl gd))] H → va_D A [(zm, .inr (4, [.int flt, .ref zrt, .ref zfi, .ref zsu, .ref zwo, .ref zro, .int (nI (64 * sm_nb n)), .ref zdi, .ref zpa, .ref zin, .int is_, .ref zow, .int os_, .int sd, .ref zke, .ref zva, .ref zle, .int ct, .int iv, .int dw, .ref zdr, .int ds])), (zrt, .inl (cI, 64, .inl sm_K)), (zfi, .inl (cI, 8, .inl sm_F)), (zsu, .inl (cI, 8, .inl (sm_ap gs 0 sm_F k2))), (zwo, .inl (cI, 64, .inl gw)), (zro, .inl (cI, 512, .inl g1)), (zdi, .inl (cI, 32, .inl gd))] → va_S A s.heap H locs → lv_has ls 3 [(2, .int (nI k2)), (1, .int (nI (8 * n))), (0, .ref zm)] → W p l e (headSpec wsX4_hashRow rm_X4_hashRow).room s m ([.ref zm] : List Value).toArray below meth c H locs 0 0 Q (F0 m 73 ls []) := by
                intro zn
                induction zn with
                | zero => intro k2 H locs ls hmu; exact absurd hmu (Nat.not_lt_zero _)
                | succ zn ih =>
                  intro k2 H locs ls hmu hi_73 hP hD hS hl
                  refine lv_iload_n hx hb dX4_hashRow_73 rfl (lv_at hl 0 rfl) ?_
                  refine lv_bipush (v := 8) hx hb dX4_hashRow_74 (by decide) ?_
                  refine lv_icmp_ge (tgt := 97) hx hb dX4_hashRow_76 (by decide) (fun c_76 => ?_) (fun c_76 => ?_)
                  ·
                    have hex_73 : k2 = 8 := by
                      rcases Nat.lt_or_ge k2 (8) with q | q
                      · exact absurd c_76 (nI_ge q (by decide))
                      · omega
                    rw [hex_73] at hP hD
                    have hP := sm_arr hP 3 rfl (sm_hs g1 0) (fun j hj => sm_ap_z hj)
                    have hD := sm_arrD (y := .inl (cI, 8, .inl (sm_hs g1 0))) hD 3 rfl
                    have hP : va_P D vwCl [(zm, .inr (4, [.int flt, .ref zrt, .ref zfi, .ref zsu, .ref zwo, .ref zro, .int (nI (64 * sm_nb n)), .ref zdi, .ref zpa, .ref zin, .int is_, .ref zow, .int os_, .int sd, .ref zke, .ref zva, .ref zle, .int ct, .int iv, .int dw, .ref zdr, .int ds])), (zrt, .inl (cI, 64, .inl sm_K)), (zfi, .inl (cI, 8, .inl sm_F)), (zsu, .inl (cI, 8, .inl (sm_hs g1 0))), (zwo, .inl (cI, 64, .inl gw)), (zro, .inl (cI, 512, .inl g1)), (zdi, .inl (cI, 32, .inl gd))] H := hP
                    have hD : va_D A [(zm, .inr (4, [.int flt, .ref zrt, .ref zfi, .ref zsu, .ref zwo, .ref zro, .int (nI (64 * sm_nb n)), .ref zdi, .ref zpa, .ref zin, .int is_, .ref zow, .int os_, .int sd, .ref zke, .ref zva, .ref zle, .int ct, .int iv, .int dw, .ref zdr, .int ds])), (zrt, .inl (cI, 64, .inl sm_K)), (zfi, .inl (cI, 8, .inl sm_F)), (zsu, .inl (cI, 8, .inl (sm_hs g1 0))), (zwo, .inl (cI, 64, .inl gw)), (zro, .inl (cI, 512, .inl g1)), (zdi, .inl (cI, 32, .inl gd))] := hD
                    refine lv_iconst (v := 0) hx hb dX4_hashRow_97 (by decide) ?_
                    refine lv_istore_n (lv' := [(2, .int 0), (1, .int (nI (8 * n))), (0, .ref zm)]) hx hb dX4_hashRow_98 rfl hl (by decide) rfl (fun ls hl => ?_)
                    have lp99 : ∀ (zn : Nat) (b_ : Nat) (fv : Nat → Int32) (H : Heap) (locs : List Loc) (ls : Array Slot), sm_nb n - b_ < zn → b_ ≤ sm_nb n → va_P D vwCl [(zm, .inr (4, [.int flt, .ref zrt, .ref zfi, .ref zsu, .ref zwo, .ref zro, .int (nI (64 * sm_nb n)), .ref zdi, .ref zpa, .ref zin, .int is_, .ref zow, .int os_, .int sd, .ref zke, .ref zva, .ref zle, .int ct, .int iv, .int dw, .ref zdr, .int ds])), (zrt, .inl (cI, 64, .inl sm_K)), (zfi, .inl (cI, 8, .inl sm_F)), (zsu, .inl (cI, 8, .inl (sm_hs g1 b_))), (zwo, .inl (cI, 64, .inl fv)), (zro, .inl (cI, 512, .inl g1)), (zdi, .inl (cI, 32, .inl gd))] H → va_D A [(zm, .inr (4, [.int flt, .ref zrt, .ref zfi, .ref zsu, .ref zwo, .ref zro, .int (nI (64 * sm_nb n)), .ref zdi, .ref zpa, .ref zin, .int is_, .ref zow, .int os_, .int sd, .ref zke, .ref zva, .ref zle, .int ct, .int iv, .int dw, .ref zdr, .int ds])), (zrt, .inl (cI, 64, .inl sm_K)), (zfi, .inl (cI, 8, .inl sm_F)), (zsu, .inl (cI, 8, .inl (sm_hs g1 b_))), (zwo, .inl (cI, 64, .inl fv)), (zro, .inl (cI, 512, .inl g1)), (zdi, .inl (cI, 32, .inl gd))] → va_S A s.heap H locs → lv_has ls 3 [(2, .int (nI (64 * b_))), (1, .int (nI (8 * n))), (0, .ref zm)] → W p l e (headSpec wsX4_hashRow rm_X4_hashRow).room s m ([.ref zm] : List Value).toArray below meth c H locs 0 0 Q (F0 m 99 ls []) := by
                      intro zn
                      induction zn with
                      | zero => intro b_ fv H locs ls hmu; exact absurd hmu (Nat.not_lt_zero _)
                      | succ zn ih =>
                        intro b_ fv H locs ls hmu hb1 hP hD hS hl
                        refine lv_iload_n hx hb dX4_hashRow_99 rfl (lv_at hl 0 rfl) ?_
                        refine lv_aload_n hx hb dX4_hashRow_100 rfl (lv_at hl 2 rfl) ?_
                        refine va_get (D := D) (ci := 4) (v := .int (nI (64 * sm_nb n))) (C := RX4) (T := TX4) (N := 22) hx hb hts hw_X4 hown hK hP 0 rfl rfl 6 (by decide) hf_132 (fun _ h9 => h9) rfl dX4_hashRow_101 ?_
                        refine lv_icmp_ge (tgt := 118) hx hb dX4_hashRow_104 (by decide) (fun c_104 => ?_) (fun c_104 => ?_)
                        ·
                          have hexb : b_ = sm_nb n := by
                            rcases Nat.lt_or_ge b_ (sm_nb n) with q | q
                            · exact absurd c_104 (nI_ge (by omega) (by omega))
                            · omega
                          rw [hexb] at hP hD
                          have hP : va_P D vwCl [(zm, .inr (4, [.int flt, .ref zrt, .ref zfi, .ref zsu, .ref zwo, .ref zro, .int (nI (64 * sm_nb n)), .ref zdi, .ref zpa, .ref zin, .int is_, .ref zow, .int os_, .int sd, .ref zke, .ref zva, .ref zle, .int ct, .int iv, .int dw, .ref zdr, .int ds])), (zrt, .inl (cI, 64, .inl sm_K)), (zfi, .inl (cI, 8, .inl sm_F)), (zsu, .inl (cI, 8, .inl (sm_hs g1 (sm_nb n)))), (zwo, .inl (cI, 64, .inl fv)), (zro, .inl (cI, 512, .inl g1)), (zdi, .inl (cI, 32, .inl gd))] H := hP
                          have hD : va_D A [(zm, .inr (4, [.int flt, .ref zrt, .ref zfi, .ref zsu, .ref zwo, .ref zro, .int (nI (64 * sm_nb n)), .ref zdi, .ref zpa, .ref zin, .int is_, .ref zow, .int os_, .int sd, .ref zke, .ref zva, .ref zle, .int ct, .int iv, .int dw, .ref zdr, .int ds])), (zrt, .inl (cI, 64, .inl sm_K)), (zfi, .inl (cI, 8, .inl sm_F)), (zsu, .inl (cI, 8, .inl (sm_hs g1 (sm_nb n)))), (zwo, .inl (cI, 64, .inl fv)), (zro, .inl (cI, 512, .inl g1)), (zdi, .inl (cI, 32, .inl gd))] := hD
                          refine lv_iconst (v := 0) hx hb dX4_hashRow_118 (by decide) ?_
                          refine lv_istore_n (lv' := [(2, .int 0), (1, .int (nI (8 * n))), (0, .ref zm)]) hx hb dX4_hashRow_119 rfl hl (by decide) rfl (fun ls hl => ?_)
                          have lp120 : ∀ (zn : Nat) (k3 : Nat) (H : Heap) (locs : List Loc) (ls : Array Slot), 32 - k3 < zn → k3 ≤ 32 → va_P D vwCl [(zm, .inr (4, [.int flt, .ref zrt, .ref zfi, .ref zsu, .ref zwo, .ref zro, .int (nI (64 * sm_nb n)), .ref zdi, .ref zpa, .ref zin, .int is_, .ref zow, .int os_, .int sd, .ref zke, .ref zva, .ref zle, .int ct, .int iv, .int dw, .ref zdr, .int ds])), (zrt, .inl (cI, 64, .inl sm_K)), (zfi, .inl (cI, 8, .inl sm_F)), (zsu, .inl (cI, 8, .inl (sm_hs g1 (sm_nb n)))), (zwo, .inl (cI, 64, .inl fv)), (zro, .inl (cI, 512, .inl g1)), (zdi, .inl (cI, 32, .inl (sm_ap gd 0 (sm_dm (sm_hs g1 (sm_nb n))) k3)))] H → va_D A [(zm, .inr (4, [.int flt, .ref zrt, .ref zfi, .ref zsu, .ref zwo, .ref zro, .int (nI (64 * sm_nb n)), .ref zdi, .ref zpa, .ref zin, .int is_, .ref zow, .int os_, .int sd, .ref zke, .ref zva, .ref zle, .int ct, .int iv, .int dw, .ref zdr, .int ds])), (zrt, .inl (cI, 64, .inl sm_K)), (zfi, .inl (cI, 8, .inl sm_F)), (zsu, .inl (cI, 8, .inl (sm_hs g1 (sm_nb n)))), (zwo, .inl (cI, 64, .inl fv)), (zro, .inl (cI, 512, .inl g1)), (zdi, .inl (cI, 32, .inl (sm_ap gd 0 (sm_dm (sm_hs g1 (sm_nb n))) k3)))] → va_S A s.heap H locs → lv_has ls 3 [(2, .int (nI k3)), (1, .int (nI (8 * n))), (0, .ref zm)] → W p l e (headSpec wsX4_hashRow rm_X4_hashRow).room s m ([.ref zm] : List Value).toArray below meth c H locs 0 0 Q (F0 m 120 ls []) := by
                            intro zn
                            induction zn with
                            | zero => intro k3 H locs ls hmu; exact absurd hmu (Nat.not_lt_zero _)
                            | succ zn ih =>
                              intro k3 H locs ls hmu hi_120 hP hD hS hl
                              refine lv_iload_n hx hb dX4_hashRow_120 rfl (lv_at hl 0 rfl) ?_
                              refine lv_bipush (v := 32) hx hb dX4_hashRow_121 (by decide) ?_
                              refine lv_icmp_ge (tgt := 160) hx hb dX4_hashRow_123 (by decide) (fun c_123 => ?_) (fun c_123 => ?_)
                              ·
                                have hex_120 : k3 = 32 := by
                                  rcases Nat.lt_or_ge k3 (32) with q | q
                                  · exact absurd c_123 (nI_ge q (by decide))
                                  · omega
                                rw [hex_120] at hP hD
                                have hP := sm_arr hP 6 rfl (sm_sha gr n) (sm_dm_sha hf1)
                                have hD := sm_arrD (y := .inl (cI, 32, .inl (sm_sha gr n))) hD 6 rfl
                                have hP : va_P D vwCl [(zm, .inr (4, [.int flt, .ref zrt, .ref zfi, .ref zsu, .ref zwo, .ref zro, .int (nI (64 * sm_nb n)), .ref zdi, .ref zpa, .ref zin, .int is_, .ref zow, .int os_, .int sd, .ref zke, .ref zva, .ref zle, .int ct, .int iv, .int dw, .ref zdr, .int ds])), (zrt, .inl (cI, 64, .inl sm_K)), (zfi, .inl (cI, 8, .inl sm_F)), (zsu, .inl (cI, 8, .inl (sm_hs g1 (sm_nb n)))), (zwo, .inl (cI, 64, .inl fv)), (zro, .inl (cI, 512, .inl g1)), (zdi, .inl (cI, 32, .inl (sm_sha gr n)))] H := hP
                                have hD : va_D A [(zm, .inr (4, [.int flt, .ref zrt, .ref zfi, .ref zsu, .ref zwo, .ref zro, .int (nI (64 * sm_nb n)), .ref zdi, .ref zpa, .ref zin, .int is_, .ref zow, .int os_, .int sd, .ref zke, .ref zva, .ref zle, .int ct, .int iv, .int dw, .ref zdr, .int ds])), (zrt, .inl (cI, 64, .inl sm_K)), (zfi, .inl (cI, 8, .inl sm_F)), (zsu, .inl (cI, 8, .inl (sm_hs g1 (sm_nb n)))), (zwo, .inl (cI, 64, .inl fv)), (zro, .inl (cI, 512, .inl g1)), (zdi, .inl (cI, 32, .inl (sm_sha gr n)))] := hD
                                refine lv_aload_n hx hb dX4_hashRow_160 rfl (lv_at hl 2 rfl) ?_
                                refine lv_iconst (v := 0) hx hb dX4_hashRow_161 (by decide) ?_
                                refine va_put (D := D) (ci := 4) (v := .int 0) (ty := .int) (C := RX4) (T := TX4) (N := 22) hx hb hts hw_X4 tyX4 tyX4_ok nmX4 hown hK hP hD hS 0 rfl rfl 6 (by decide) hf_132 (fun _ h9 => h9) rfl (by decide +kernel) rfl rfl (Nat.le_of_ble_eq_true rfl) dX4_hashRow_162 (fun H locs hP hD hS => ?_)
                                have hP : va_P D vwCl [(zm, .inr (4, [.int flt, .ref zrt, .ref zfi, .ref zsu, .ref zwo, .ref zro, .int 0, .ref zdi, .ref zpa, .ref zin, .int is_, .ref zow, .int os_, .int sd, .ref zke, .ref zva, .ref zle, .int ct, .int iv, .int dw, .ref zdr, .int ds])), (zrt, .inl (cI, 64, .inl sm_K)), (zfi, .inl (cI, 8, .inl sm_F)), (zsu, .inl (cI, 8, .inl (sm_hs g1 (sm_nb n)))), (zwo, .inl (cI, 64, .inl fv)), (zro, .inl (cI, 512, .inl g1)), (zdi, .inl (cI, 32, .inl (sm_sha gr n)))] H := hP
                                have hD : va_D A [(zm, .inr (4, [.int flt, .ref zrt, .ref zfi, .ref zsu, .ref zwo, .ref zro, .int 0, .ref zdi, .ref zpa, .ref zin, .int is_, .ref zow, .int os_, .int sd, .ref zke, .ref zva, .ref zle, .int ct, .int iv, .int dw, .ref zdr, .int ds])), (zrt, .inl (cI, 64, .inl sm_K)), (zfi, .inl (cI, 8, .inl sm_F)), (zsu, .inl (cI, 8, .inl (sm_hs g1 (sm_nb n)))), (zwo, .inl (cI, 64, .inl fv)), (zro, .inl (cI, 512, .inl g1)), (zdi, .inl (cI, 32, .inl (sm_sha gr n)))] := hD
                                rw [hQ]
                                have hP9 : va_P D vwCl [(zm, .inr (4, [.int flt, .ref zrt, .ref zfi, .ref zsu, .ref zwo, .ref zro, .int (nI 0), .ref zdi, .ref zpa, .ref zin, .int is_, .ref zow, .int os_, .int sd, .ref zke, .ref zva, .ref zle, .int ct, .int iv, .int dw, .ref zdr, .int ds])), (zrt, .inl (cI, 64, .inl sm_K)), (zfi, .inl (cI, 8, .inl sm_F)), (zsu, .inl (cI, 8, .inl (sm_hs g1 (sm_nb n)))), (zwo, .inl (cI, 64, .inl fv)), (zro, .inl (cI, 512, .inl g1)), (zdi, .inl (cI, 32, .inl (sm_sha gr n)))] H := hP
                                have hD9 : va_D A [(zm, .inr (4, [.int flt, .ref zrt, .ref zfi, .ref zsu, .ref zwo, .ref zro, .int (nI 0), .ref zdi, .ref zpa, .ref zin, .int is_, .ref zow, .int os_, .int sd, .ref zke, .ref zva, .ref zle, .int ct, .int iv, .int dw, .ref zdr, .int ds])), (zrt, .inl (cI, 64, .inl sm_K)), (zfi, .inl (cI, 8, .inl sm_F)), (zsu, .inl (cI, 8, .inl (sm_hs g1 (sm_nb n)))), (zwo, .inl (cI, 64, .inl fv)), (zro, .inl (cI, 512, .inl g1)), (zdi, .inl (cI, 32, .inl (sm_sha gr n)))] := hD
                                exact W.vret hx hb hr (fun t ht hW => ⟨⟨(), rfl, trivial, ⟨_, _, _, by rw [ht]; exact hP9, va_K.moved hW.alike hK, hD9⟩⟩, hS.F ht⟩) hS.2.2 dX4_hashRow_165
                              ·
                                have hlt_120 : k3 < 32 := by
                                  rcases Nat.lt_or_ge k3 (32) with q | q
                                  · exact q
                                  · exact absurd (nI_le q (by omega)) c_123
                                refine lv_aload_n hx hb dX4_hashRow_126 rfl (lv_at hl 2 rfl) ?_
                                refine va_get (D := D) (ci := 4) (v := .ref zdi) (C := RX4) (T := TX4) (N := 22) hx hb hts hw_X4 hown hK hP 0 rfl rfl 7 (by decide) hf_97 (fun _ h9 => h9) rfl dX4_hashRow_127 ?_
                                refine lv_iload_n hx hb dX4_hashRow_130 rfl (lv_at hl 0 rfl) ?_
                                refine lv_aload_n hx hb dX4_hashRow_131 rfl (lv_at hl 2 rfl) ?_
                                refine va_get (D := D) (ci := 4) (v := .ref zsu) (C := RX4) (T := TX4) (N := 22) hx hb hts hw_X4 hown hK hP 0 rfl rfl 3 (by decide) hf_88 (fun _ h9 => h9) rfl dX4_hashRow_132 ?_
                                refine lv_iload_n hx hb dX4_hashRow_135 rfl (lv_at hl 0 rfl) ?_
                                refine lv_iconst (v := 4) hx hb dX4_hashRow_136 (by decide) ?_
                                refine lv_idiv hx hb dX4_hashRow_137 (by decide) ?_
                                refine sm_top (z := nI (k3 / 4)) (pk_div (d := 4) (by omega) (by decide) (by decide)) ?_
                                refine va_iald (i := nI (k3 / 4)) hx hb hK hP 3 0 rfl rfl (vp_in_nI (n := (k3 / 4)) (by omega) (by omega)) dX4_hashRow_138 ?_
                                refine sm_top (z := (sm_hs g1 (sm_nb n)) (k3 / 4)) (congrArg (sm_hs g1 (sm_nb n)) (nI_clamp (n := (k3 / 4)) (by omega))) ?_
                                refine lv_bipush (v := 24) hx hb dX4_hashRow_139 (by decide) ?_
                                refine lv_bipush (v := 8) hx hb dX4_hashRow_141 (by decide) ?_
                                refine lv_iload_n hx hb dX4_hashRow_143 rfl (lv_at hl 0 rfl) ?_
                                refine lv_iconst (v := 4) hx hb dX4_hashRow_144 (by decide) ?_
                                refine lv_irem hx hb dX4_hashRow_145 (by decide) ?_
                                refine sm_top (z := nI (k3 % 4)) (pk_rem (d := 4) (by omega) (by decide) (by decide)) ?_
                                refine lv_imul hx hb dX4_hashRow_146 ?_
                                refine lv_isub hx hb dX4_hashRow_147 ?_
                                refine sm_top (z := nI (24 - 8 * (k3 % 4))) (by rw [show (8 : Int32) * nI (k3 % 4) = nI (8 * (k3 % 4)) from pk_mul 8 _]; exact pk_sub (a := 24) (by omega)) ?_
                                refine lv_ishr hx hb dX4_hashRow_148 ?_
                                refine lv_sipush (v := 255) hx hb dX4_hashRow_149 (by decide) ?_
                                refine lv_iand hx hb dX4_hashRow_152 ?_
                                refine va_iast (i := nI k3) (x := (((sm_hs g1 (sm_nb n)) (k3 / 4)) >>> ((nI (24 - 8 * (k3 % 4))) &&& 31)) &&& 255) hx hb hK hP hD hS 6 0 rfl rfl (vp_in_nI (n := k3) (by omega) (by omega)) dX4_hashRow_153 (fun H locs hP hD hS => ?_)
                                rw [show Int32.toNatClampNeg (nI k3) = k3 from nI_clamp (n := k3) (by omega)] at hP hD
                                have hP : va_P D vwCl [(zm, .inr (4, [.int flt, .ref zrt, .ref zfi, .ref zsu, .ref zwo, .ref zro, .int (nI (64 * sm_nb n)), .ref zdi, .ref zpa, .ref zin, .int is_, .ref zow, .int os_, .int sd, .ref zke, .ref zva, .ref zle, .int ct, .int iv, .int dw, .ref zdr, .int ds])), (zrt, .inl (cI, 64, .inl sm_K)), (zfi, .inl (cI, 8, .inl sm_F)), (zsu, .inl (cI, 8, .inl (sm_hs g1 (sm_nb n)))), (zwo, .inl (cI, 64, .inl fv)), (zro, .inl (cI, 512, .inl g1)), (zdi, .inl (cI, 32, .inl (upd (sm_ap gd 0 (sm_dm (sm_hs g1 (sm_nb n))) k3) k3 ((((sm_hs g1 (sm_nb n)) (k3 / 4)) >>> ((nI (24 - 8 * (k3 % 4))) &&& 31)) &&& 255))))] H := hP
                                have hD : va_D A [(zm, .inr (4, [.int flt, .ref zrt, .ref zfi, .ref zsu, .ref zwo, .ref zro, .int (nI (64 * sm_nb n)), .ref zdi, .ref zpa, .ref zin, .int is_, .ref zow, .int os_, .int sd, .ref zke, .ref zva, .ref zle, .int ct, .int iv, .int dw, .ref zdr, .int ds])), (zrt, .inl (cI, 64, .inl sm_K)), (zfi, .inl (cI, 8, .inl sm_F)), (zsu, .inl (cI, 8, .inl (sm_hs g1 (sm_nb n)))), (zwo, .inl (cI, 64, .inl fv)), (zro, .inl (cI, 512, .inl g1)), (zdi, .inl (cI, 32, .inl (upd (sm_ap gd 0 (sm_dm (sm_hs g1 (sm_nb n))) k3) k3 ((((sm_hs g1 (sm_nb n)) (k3 / 4)) >>> ((nI (24 - 8 * (k3 % 4))) &&& 31)) &&& 255))))] := hD
                                refine lv_iinc (v := nI (k3 + 1)) (lv' := [(2, .int (nI (k3 + 1))), (1, .int (nI (8 * n))), (0, .ref zm)]) hx hb dX4_hashRow_154 hl (k := 0) rfl (nI_1 k3) (by decide) rfl (fun ls hl => ?_)
                                refine lv_goto (tgt := 120) hx hb dX4_hashRow_157 (by decide) ?_
                                rw [show upd (sm_ap gd 0 (sm_dm (sm_hs g1 (sm_nb n))) k3) k3 ((sm_hs g1 (sm_nb n)) (k3 / 4) >>> (nI (24 - 8 * (k3 % 4)) &&& 31) &&& 255) = _ from sm_ap_s0 gd (sm_dm (sm_hs g1 (sm_nb n))) k3] at hP hD
                                exact ih (k3 + 1) _ _ _ (by omega) (by omega) hP hD hS (lv_sub hl [0, 1, 2] rfl)
                          exact lp120 _ 0 _ _ _ (Nat.lt_succ_self _) (Nat.zero_le _) (by rw [sm_ap_0]; exact hP) (by rw [sm_ap_0]; exact hD) hS (lv_sub hl [0, 1, 2] rfl)
                        ·
                          have hltb : b_ < sm_nb n := by
                            rcases Nat.lt_or_ge b_ (sm_nb n) with q | q
                            · exact q
                            · exact absurd (nI_le (by omega) (by omega)) c_104
                          refine lv_aload_n hx hb dX4_hashRow_107 rfl (lv_at hl 2 rfl) ?_
                          refine lv_iload_n hx hb dX4_hashRow_108 rfl (lv_at hl 0 rfl) ?_
                          refine sm_callVv (wc := [(zm, .inr (4, [.int flt, .ref zrt, .ref zfi, .ref zsu, .ref zwo, .ref zro, .int (nI (64 * sm_nb n)), .ref zdi, .ref zpa, .ref zin, .int is_, .ref zow, .int os_, .int sd, .ref zke, .ref zva, .ref zle, .int ct, .int iv, .int dw, .ref zdr, .int ds])), (zrt, .inl (cI, 64, .inl sm_K)), (zsu, .inl (cI, 8, .inl (sm_hs g1 b_))), (zwo, .inl (cI, 64, .inl fv)), (zro, .inl (cI, 512, .inl g1))]) (wr := [(zfi, .inl (cI, 8, .inl sm_F)), (zdi, .inl (cI, 32, .inl gd))]) (As := [.int (nI (64 * b_))]) (rest := []) ⟨hx, hb, hml, hown, hts⟩ (sc_X4_hashBlock l D cI th _ zm zrt zfi zsu zwo zro zdi zpa zin zow zke zva zle zdr flt is_ os_ sd ct iv dw ds (64 * sm_nb n) (64 * b_) (sm_hs g1 b_) fv g1 (by omega)) (cwV 1 hts gX4_hashRow_X4_hashBlock rfl rfl rfl (by decide +kernel) ⟨Nat.le_of_ble_eq_true rfl, Nat.le_of_ble_eq_true rfl⟩) hP hD hS hA hK hT [0, 1, 3, 4, 5] [2, 6] rfl rfl rfl rfl (by decide) 0 4 rfl rfl rfl rfl hl.1 rfl (Nat.le_of_ble_eq_true rfl) dX4_hashRow_109 ⟨Nat.zero_le _, Nat.zero_le _⟩ (fun zt H1 locs ht hvm hB hJ hS => ?_)
                          obtain ⟨hP1, -, hD1⟩ := hB
                          rw [ht] at hP1
                          obtain ⟨hP, hD⟩ := hJ _ hP1 hD1
                          clear hJ
                          generalize H1 = H at hP hS ⊢
                          have hP : va_P D vwCl [(zm, .inr (4, [.int flt, .ref zrt, .ref zfi, .ref zsu, .ref zwo, .ref zro, .int (nI (64 * sm_nb n)), .ref zdi, .ref zpa, .ref zin, .int is_, .ref zow, .int os_, .int sd, .ref zke, .ref zva, .ref zle, .int ct, .int iv, .int dw, .ref zdr, .int ds])), (zrt, .inl (cI, 64, .inl sm_K)), (zfi, .inl (cI, 8, .inl sm_F)), (zsu, .inl (cI, 8, .inl (sm_hs g1 (b_ + 1)))), (zwo, .inl (cI, 64, .inl (sm_W g1 (64 * b_)))), (zro, .inl (cI, 512, .inl g1)), (zdi, .inl (cI, 32, .inl gd))] H := hP.sub [2, 3, 0, 4, 5, 6, 1] rfl
                          have hD : va_D A [(zm, .inr (4, [.int flt, .ref zrt, .ref zfi, .ref zsu, .ref zwo, .ref zro, .int (nI (64 * sm_nb n)), .ref zdi, .ref zpa, .ref zin, .int is_, .ref zow, .int os_, .int sd, .ref zke, .ref zva, .ref zle, .int ct, .int iv, .int dw, .ref zdr, .int ds])), (zrt, .inl (cI, 64, .inl sm_K)), (zfi, .inl (cI, 8, .inl sm_F)), (zsu, .inl (cI, 8, .inl (sm_hs g1 (b_ + 1)))), (zwo, .inl (cI, 64, .inl (sm_W g1 (64 * b_)))), (zro, .inl (cI, 512, .inl g1)), (zdi, .inl (cI, 32, .inl gd))] := hD.sub [2, 3, 0, 4, 5, 6, 1] rfl rfl
                          refine lv_iinc (v := nI (64 * (b_ + 1))) (lv' := [(2, .int (nI (64 * (b_ + 1)))), (1, .int (nI (8 * n))), (0, .ref zm)]) hx hb dX4_hashRow_112 hl (k := 0) rfl (nI_add (64 * b_) 64) (by decide) rfl (fun ls hl => ?_)
                          refine lv_goto (tgt := 99) hx hb dX4_hashRow_115 (by decide) ?_
                          exact ih (b_ + 1) _ _ _ _ (by omega) (by omega) hP hD hS (lv_sub hl [0, 1, 2] rfl)
                    exact lp99 _ 0 gw _ _ _ (Nat.lt_succ_self _) (Nat.zero_le _) hP hD hS (lv_sub hl [0, 1, 2] rfl)
                  ·
                    have hlt_73 : k2 < 8 := by
                      rcases Nat.lt_or_ge k2 (8) with q | q
                      · exact q
                      · exact absurd (nI_le q (by omega)) c_76
                    refine lv_aload_n hx hb dX4_hashRow_79 rfl (lv_at hl 2 rfl) ?_
                    refine va_get (D := D) (ci := 4) (v := .ref zsu) (C := RX4) (T := TX4) (N := 22) hx hb hts hw_X4 hown hK hP 0 rfl rfl 3 (by decide) hf_88 (fun _ h9 => h9) rfl dX4_hashRow_80 ?_
                    refine lv_iload_n hx hb dX4_hashRow_83 rfl (lv_at hl 0 rfl) ?_
                    refine lv_aload_n hx hb dX4_hashRow_84 rfl (lv_at hl 2 rfl) ?_
                    refine va_get (D := D) (ci := 4) (v := .ref zfi) (C := RX4) (T := TX4) (N := 22) hx hb hts hw_X4 hown hK hP 0 rfl rfl 2 (by decide) hf_85 (fun _ h9 => h9) rfl dX4_hashRow_85 ?_
                    refine lv_iload_n hx hb dX4_hashRow_88 rfl (lv_at hl 0 rfl) ?_
                    refine va_iald (i := nI k2) hx hb hK hP 2 0 rfl rfl (vp_in_nI (n := k2) (by omega) (by omega)) dX4_hashRow_89 ?_
                    refine sm_top (z := sm_F k2) (congrArg sm_F (nI_clamp (n := k2) (by omega))) ?_
                    refine va_iast (i := nI k2) (x := sm_F k2) hx hb hK hP hD hS 3 0 rfl rfl (vp_in_nI (n := k2) (by omega) (by omega)) dX4_hashRow_90 (fun H locs hP hD hS => ?_)
                    rw [show Int32.toNatClampNeg (nI k2) = k2 from nI_clamp (n := k2) (by omega)] at hP hD
                    have hP : va_P D vwCl [(zm, .inr (4, [.int flt, .ref zrt, .ref zfi, .ref zsu, .ref zwo, .ref zro, .int (nI (64 * sm_nb n)), .ref zdi, .ref zpa, .ref zin, .int is_, .ref zow, .int os_, .int sd, .ref zke, .ref zva, .ref zle, .int ct, .int iv, .int dw, .ref zdr, .int ds])), (zrt, .inl (cI, 64, .inl sm_K)), (zfi, .inl (cI, 8, .inl sm_F)), (zsu, .inl (cI, 8, .inl (upd (sm_ap gs 0 sm_F k2) k2 (sm_F k2)))), (zwo, .inl (cI, 64, .inl gw)), (zro, .inl (cI, 512, .inl g1)), (zdi, .inl (cI, 32, .inl gd))] H := hP
                    have hD : va_D A [(zm, .inr (4, [.int flt, .ref zrt, .ref zfi, .ref zsu, .ref zwo, .ref zro, .int (nI (64 * sm_nb n)), .ref zdi, .ref zpa, .ref zin, .int is_, .ref zow, .int os_, .int sd, .ref zke, .ref zva, .ref zle, .int ct, .int iv, .int dw, .ref zdr, .int ds])), (zrt, .inl (cI, 64, .inl sm_K)), (zfi, .inl (cI, 8, .inl sm_F)), (zsu, .inl (cI, 8, .inl (upd (sm_ap gs 0 sm_F k2) k2 (sm_F k2)))), (zwo, .inl (cI, 64, .inl gw)), (zro, .inl (cI, 512, .inl g1)), (zdi, .inl (cI, 32, .inl gd))] := hD
                    refine lv_iinc (v := nI (k2 + 1)) (lv' := [(2, .int (nI (k2 + 1))), (1, .int (nI (8 * n))), (0, .ref zm)]) hx hb dX4_hashRow_91 hl (k := 0) rfl (nI_1 k2) (by decide) rfl (fun ls hl => ?_)
                    refine lv_goto (tgt := 73) hx hb dX4_hashRow_94 (by decide) ?_
                    rw [show upd (sm_ap gs 0 sm_F k2) k2 (sm_F k2) = _ from sm_ap_s0 gs sm_F k2] at hP hD
                    exact ih (k2 + 1) _ _ _ (by omega) (by omega) hP hD hS (lv_sub hl [0, 1, 2] rfl)
              exact lp73 _ 0 _ _ _ (Nat.lt_succ_self _) (Nat.zero_le _) (by rw [sm_ap_0]; exact hP) (by rw [sm_ap_0]; exact hD) hS (lv_sub hl [0, 1, 2] rfl)
            ·
              have hlt_37 : i < 8 := by
                rcases Nat.lt_or_ge i (8) with q | q
                · exact q
                · exact absurd (nI_le q (by omega)) c_40
              refine lv_aload_n hx hb dX4_hashRow_43 rfl (lv_at hl 2 rfl) ?_
              refine lv_iload_n hx hb dX4_hashRow_44 rfl (lv_at hl 0 rfl) ?_
              refine lv_iconst (v := 4) hx hb dX4_hashRow_45 (by decide) ?_
              refine lv_icmp_ge (tgt := 53) hx hb dX4_hashRow_46 (by decide) (fun c_46 => ?_) (fun c_46 => ?_)
              ·
                have hsm : 4 ≤ i := by
                  rcases Nat.lt_or_ge i 4 with q | q
                  · exact absurd c_46 (nI_ge q (by decide))
                  · exact q
                refine lv_iload_n hx hb dX4_hashRow_53 rfl (lv_at hl 1 rfl) ?_
                refine lv_bipush (v := 56) hx hb dX4_hashRow_54 (by decide) ?_
                refine lv_bipush (v := 8) hx hb dX4_hashRow_56 (by decide) ?_
                refine lv_iload_n hx hb dX4_hashRow_58 rfl (lv_at hl 0 rfl) ?_
                refine lv_imul hx hb dX4_hashRow_59 ?_
                refine lv_isub hx hb dX4_hashRow_60 ?_
                refine sm_top (z := nI (56 - 8 * i)) (by rw [show (8 : Int32) * nI i = nI (8 * i) from pk_mul 8 i]; exact pk_sub (a := 56) (by omega)) ?_
                refine lv_ishr hx hb dX4_hashRow_61 ?_
                refine sm_callVv (wc := [(zm, .inr (4, [.int flt, .ref zrt, .ref zfi, .ref zsu, .ref zwo, .ref zro, .int (nI (n + 1 + z + i)), .ref zdi, .ref zpa, .ref zin, .int is_, .ref zow, .int os_, .int sd, .ref zke, .ref zva, .ref zle, .int ct, .int iv, .int dw, .ref zdr, .int ds])), (zro, .inl (cI, 512, .inl (sm_ap (sm_ap (upd gr n 128) (n + 1) (fun _ => 0) z) (n + 1 + z) (sm_lb n) i)))]) (wr := [(zrt, .inl (cI, 64, .inl sm_K)), (zfi, .inl (cI, 8, .inl sm_F)), (zsu, .inl (cI, 8, .inl gs)), (zwo, .inl (cI, 64, .inl gw)), (zdi, .inl (cI, 32, .inl gd))]) (As := [.int ((nI (8 * n)) >>> ((nI (56 - 8 * i)) &&& 31))]) (rest := []) ⟨hx, hb, hml, hown, hts⟩ (sc_X4_put l D cI th _ zm zrt zfi zsu zwo zro zdi zpa zin zow zke zva zle zdr flt is_ os_ sd ct iv dw ds (n + 1 + z + i) (sm_ap (sm_ap (upd gr n 128) (n + 1) (fun _ => 0) z) (n + 1 + z) (sm_lb n) i) ((nI (8 * n)) >>> ((nI (56 - 8 * i)) &&& 31)) (by omega)) (cwV 1 hts gX4_hashRow_X4_put rfl rfl rfl (by decide +kernel) ⟨Nat.le_of_ble_eq_true rfl, Nat.le_of_ble_eq_true rfl⟩) hP hD hS hA hK hT [0, 5] [1, 2, 3, 4, 6] rfl rfl rfl rfl (by decide) 0 4 rfl rfl rfl rfl hl.1 rfl (Nat.le_of_ble_eq_true rfl) dX4_hashRow_62 ⟨Nat.zero_le _, Nat.zero_le _⟩ (fun zt H1 locs ht hvm hB hJ hS => ?_)
                obtain ⟨hP1, -, hD1⟩ := hB
                rw [ht] at hP1
                obtain ⟨hP, hD⟩ := hJ _ hP1 hD1
                clear hJ
                generalize H1 = H at hP hS ⊢
                have hP : va_P D vwCl [(zm, .inr (4, [.int flt, .ref zrt, .ref zfi, .ref zsu, .ref zwo, .ref zro, .int (nI (n + 1 + z + i + 1)), .ref zdi, .ref zpa, .ref zin, .int is_, .ref zow, .int os_, .int sd, .ref zke, .ref zva, .ref zle, .int ct, .int iv, .int dw, .ref zdr, .int ds])), (zrt, .inl (cI, 64, .inl sm_K)), (zfi, .inl (cI, 8, .inl sm_F)), (zsu, .inl (cI, 8, .inl gs)), (zwo, .inl (cI, 64, .inl gw)), (zro, .inl (cI, 512, .inl (upd (sm_ap (sm_ap (upd gr n 128) (n + 1) (fun _ => 0) z) (n + 1 + z) (sm_lb n) i) (n + 1 + z + i) (((nI (8 * n)) >>> ((nI (56 - 8 * i)) &&& 31)) &&& 255)))), (zdi, .inl (cI, 32, .inl gd))] H := hP.sub [5, 0, 1, 2, 3, 6, 4] rfl
                have hD : va_D A [(zm, .inr (4, [.int flt, .ref zrt, .ref zfi, .ref zsu, .ref zwo, .ref zro, .int (nI (n + 1 + z + i + 1)), .ref zdi, .ref zpa, .ref zin, .int is_, .ref zow, .int os_, .int sd, .ref zke, .ref zva, .ref zle, .int ct, .int iv, .int dw, .ref zdr, .int ds])), (zrt, .inl (cI, 64, .inl sm_K)), (zfi, .inl (cI, 8, .inl sm_F)), (zsu, .inl (cI, 8, .inl gs)), (zwo, .inl (cI, 64, .inl gw)), (zro, .inl (cI, 512, .inl (upd (sm_ap (sm_ap (upd gr n 128) (n + 1) (fun _ => 0) z) (n + 1 + z) (sm_lb n) i) (n + 1 + z + i) (((nI (8 * n)) >>> ((nI (56 - 8 * i)) &&& 31)) &&& 255)))), (zdi, .inl (cI, 32, .inl gd))] := hD.sub [5, 0, 1, 2, 3, 6, 4] rfl rfl
                refine lv_iinc (v := nI (i + 1)) (lv' := [(2, .int (nI (i + 1))), (1, .int (nI (8 * n))), (0, .ref zm)]) hx hb dX4_hashRow_65 hl (k := 0) rfl (nI_1 i) (by decide) rfl (fun ls hl => ?_)
                refine lv_goto (tgt := 37) hx hb dX4_hashRow_68 (by decide) ?_
                rw [show upd (sm_ap (sm_ap (upd gr n 128) (n + 1) (fun _ => 0) z) (n + 1 + z) (sm_lb n) i) (n + 1 + z + i) (nI (8 * n) >>> (nI (56 - 8 * i) &&& 31) &&& 255) = _ from (congrArg (upd (sm_ap (sm_ap (upd gr n 128) (n + 1) (fun _ => 0) z) (n + 1 + z) (sm_lb n) i) (n + 1 + z + i)) (sm_lb_hi hsm).symm).trans (sm_ap_s _ _ (sm_lb n) i)] at hP hD
                exact ih (i + 1) _ _ _ (by omega) (by omega) hP hD hS (lv_sub hl [0, 1, 2] rfl)
              ·
                have hsm : i < 4 := by
                  rcases Nat.lt_or_ge i 4 with q | q
                  · exact q
                  · exact absurd (nI_le q (by omega)) c_46
                refine lv_iconst (v := 0) hx hb dX4_hashRow_49 (by decide) ?_
                refine lv_goto (tgt := 62) hx hb dX4_hashRow_50 (by decide) ?_
                refine sm_callVv (wc := [(zm, .inr (4, [.int flt, .ref zrt, .ref zfi, .ref zsu, .ref zwo, .ref zro, .int (nI (n + 1 + z + i)), .ref zdi, .ref zpa, .ref zin, .int is_, .ref zow, .int os_, .int sd, .ref zke, .ref zva, .ref zle, .int ct, .int iv, .int dw, .ref zdr, .int ds])), (zro, .inl (cI, 512, .inl (sm_ap (sm_ap (upd gr n 128) (n + 1) (fun _ => 0) z) (n + 1 + z) (sm_lb n) i)))]) (wr := [(zrt, .inl (cI, 64, .inl sm_K)), (zfi, .inl (cI, 8, .inl sm_F)), (zsu, .inl (cI, 8, .inl gs)), (zwo, .inl (cI, 64, .inl gw)), (zdi, .inl (cI, 32, .inl gd))]) (As := [.int 0]) (rest := []) ⟨hx, hb, hml, hown, hts⟩ (sc_X4_put l D cI th _ zm zrt zfi zsu zwo zro zdi zpa zin zow zke zva zle zdr flt is_ os_ sd ct iv dw ds (n + 1 + z + i) (sm_ap (sm_ap (upd gr n 128) (n + 1) (fun _ => 0) z) (n + 1 + z) (sm_lb n) i) 0 (by omega)) (cwV 1 hts gX4_hashRow_X4_put rfl rfl rfl (by decide +kernel) ⟨Nat.le_of_ble_eq_true rfl, Nat.le_of_ble_eq_true rfl⟩) hP hD hS hA hK hT [0, 5] [1, 2, 3, 4, 6] rfl rfl rfl rfl (by decide) 0 4 rfl rfl rfl rfl hl.1 rfl (Nat.le_of_ble_eq_true rfl) dX4_hashRow_62 ⟨Nat.zero_le _, Nat.zero_le _⟩ (fun zt H1 locs ht hvm hB hJ hS => ?_)
                obtain ⟨hP1, -, hD1⟩ := hB
                rw [ht] at hP1
                obtain ⟨hP, hD⟩ := hJ _ hP1 hD1
                clear hJ
                generalize H1 = H at hP hS ⊢
                have hP : va_P D vwCl [(zm, .inr (4, [.int flt, .ref zrt, .ref zfi, .ref zsu, .ref zwo, .ref zro, .int (nI (n + 1 + z + i + 1)), .ref zdi, .ref zpa, .ref zin, .int is_, .ref zow, .int os_, .int sd, .ref zke, .ref zva, .ref zle, .int ct, .int iv, .int dw, .ref zdr, .int ds])), (zrt, .inl (cI, 64, .inl sm_K)), (zfi, .inl (cI, 8, .inl sm_F)), (zsu, .inl (cI, 8, .inl gs)), (zwo, .inl (cI, 64, .inl gw)), (zro, .inl (cI, 512, .inl (upd (sm_ap (sm_ap (upd gr n 128) (n + 1) (fun _ => 0) z) (n + 1 + z) (sm_lb n) i) (n + 1 + z + i) (0 &&& 255)))), (zdi, .inl (cI, 32, .inl gd))] H := hP.sub [5, 0, 1, 2, 3, 6, 4] rfl
                have hD : va_D A [(zm, .inr (4, [.int flt, .ref zrt, .ref zfi, .ref zsu, .ref zwo, .ref zro, .int (nI (n + 1 + z + i + 1)), .ref zdi, .ref zpa, .ref zin, .int is_, .ref zow, .int os_, .int sd, .ref zke, .ref zva, .ref zle, .int ct, .int iv, .int dw, .ref zdr, .int ds])), (zrt, .inl (cI, 64, .inl sm_K)), (zfi, .inl (cI, 8, .inl sm_F)), (zsu, .inl (cI, 8, .inl gs)), (zwo, .inl (cI, 64, .inl gw)), (zro, .inl (cI, 512, .inl (upd (sm_ap (sm_ap (upd gr n 128) (n + 1) (fun _ => 0) z) (n + 1 + z) (sm_lb n) i) (n + 1 + z + i) (0 &&& 255)))), (zdi, .inl (cI, 32, .inl gd))] := hD.sub [5, 0, 1, 2, 3, 6, 4] rfl rfl
                rw [show (0 : Int32) &&& 255 = 0 from (by decide)] at hP hD
                have hP : va_P D vwCl [(zm, .inr (4, [.int flt, .ref zrt, .ref zfi, .ref zsu, .ref zwo, .ref zro, .int (nI (n + 1 + z + i + 1)), .ref zdi, .ref zpa, .ref zin, .int is_, .ref zow, .int os_, .int sd, .ref zke, .ref zva, .ref zle, .int ct, .int iv, .int dw, .ref zdr, .int ds])), (zrt, .inl (cI, 64, .inl sm_K)), (zfi, .inl (cI, 8, .inl sm_F)), (zsu, .inl (cI, 8, .inl gs)), (zwo, .inl (cI, 64, .inl gw)), (zro, .inl (cI, 512, .inl (upd (sm_ap (sm_ap (upd gr n 128) (n + 1) (fun _ => 0) z) (n + 1 + z) (sm_lb n) i) (n + 1 + z + i) 0))), (zdi, .inl (cI, 32, .inl gd))] H := hP
                have hD : va_D A [(zm, .inr (4, [.int flt, .ref zrt, .ref zfi, .ref zsu, .ref zwo, .ref zro, .int (nI (n + 1 + z + i + 1)), .ref zdi, .ref zpa, .ref zin, .int is_, .ref zow, .int os_, .int sd, .ref zke, .ref zva, .ref zle, .int ct, .int iv, .int dw, .ref zdr, .int ds])), (zrt, .inl (cI, 64, .inl sm_K)), (zfi, .inl (cI, 8, .inl sm_F)), (zsu, .inl (cI, 8, .inl gs)), (zwo, .inl (cI, 64, .inl gw)), (zro, .inl (cI, 512, .inl (upd (sm_ap (sm_ap (upd gr n 128) (n + 1) (fun _ => 0) z) (n + 1 + z) (sm_lb n) i) (n + 1 + z + i) 0))), (zdi, .inl (cI, 32, .inl gd))] := hD
                refine lv_iinc (v := nI (i + 1)) (lv' := [(2, .int (nI (i + 1))), (1, .int (nI (8 * n))), (0, .ref zm)]) hx hb dX4_hashRow_65 hl (k := 0) rfl (nI_1 i) (by decide) rfl (fun ls hl => ?_)
                refine lv_goto (tgt := 37) hx hb dX4_hashRow_68 (by decide) ?_
                rw [show upd (sm_ap (sm_ap (upd gr n 128) (n + 1) (fun _ => 0) z) (n + 1 + z) (sm_lb n) i) (n + 1 + z + i) 0 = _ from (congrArg (upd (sm_ap (sm_ap (upd gr n 128) (n + 1) (fun _ => 0) z) (n + 1 + z) (sm_lb n) i) (n + 1 + z + i)) (sm_lb_lo hsm).symm).trans (sm_ap_s _ _ (sm_lb n) i)] at hP hD
                exact ih (i + 1) _ _ _ (by omega) (by omega) hP hD hS (lv_sub hl [0, 1, 2] rfl)
        exact lp37 _ 0 _ _ _ (Nat.lt_succ_self _) (Nat.zero_le _) (by rw [sm_ap_0]; exact hP) (by rw [sm_ap_0]; exact hD) hS (lv_sub hl [0, 1, 2] rfl)
      ·
        have hlt : k < z := by
          rcases Nat.lt_or_ge k z with q | q
          · exact q
          · exact absurd (by rw [show (n + 1 + k) % 64 = 56 by omega]; rfl) c_24
        refine lv_aload_n hx hb dX4_hashRow_27 rfl (lv_at hl 1 rfl) ?_
        refine lv_iconst (v := 0) hx hb dX4_hashRow_28 (by decide) ?_
        refine sm_callVv (wc := [(zm, .inr (4, [.int flt, .ref zrt, .ref zfi, .ref zsu, .ref zwo, .ref zro, .int (nI (n + 1 + k)), .ref zdi, .ref zpa, .ref zin, .int is_, .ref zow, .int os_, .int sd, .ref zke, .ref zva, .ref zle, .int ct, .int iv, .int dw, .ref zdr, .int ds])), (zro, .inl (cI, 512, .inl (sm_ap (upd gr n 128) (n + 1) (fun _ => 0) k)))]) (wr := [(zrt, .inl (cI, 64, .inl sm_K)), (zfi, .inl (cI, 8, .inl sm_F)), (zsu, .inl (cI, 8, .inl gs)), (zwo, .inl (cI, 64, .inl gw)), (zdi, .inl (cI, 32, .inl gd))]) (As := [.int 0]) (rest := []) ⟨hx, hb, hml, hown, hts⟩ (sc_X4_put l D cI th _ zm zrt zfi zsu zwo zro zdi zpa zin zow zke zva zle zdr flt is_ os_ sd ct iv dw ds (n + 1 + k) (sm_ap (upd gr n 128) (n + 1) (fun _ => 0) k) 0 (by omega)) (cwV 1 hts gX4_hashRow_X4_put rfl rfl rfl (by decide +kernel) ⟨Nat.le_of_ble_eq_true rfl, Nat.le_of_ble_eq_true rfl⟩) hP hD hS hA hK hT [0, 5] [1, 2, 3, 4, 6] rfl rfl rfl rfl (by decide) 0 4 rfl rfl rfl rfl hl.1 rfl (Nat.le_of_ble_eq_true rfl) dX4_hashRow_29 ⟨Nat.zero_le _, Nat.zero_le _⟩ (fun zt H1 locs ht hvm hB hJ hS => ?_)
        obtain ⟨hP1, -, hD1⟩ := hB
        rw [ht] at hP1
        obtain ⟨hP, hD⟩ := hJ _ hP1 hD1
        clear hJ
        generalize H1 = H at hP hS ⊢
        have hP : va_P D vwCl [(zm, .inr (4, [.int flt, .ref zrt, .ref zfi, .ref zsu, .ref zwo, .ref zro, .int (nI (n + 1 + k + 1)), .ref zdi, .ref zpa, .ref zin, .int is_, .ref zow, .int os_, .int sd, .ref zke, .ref zva, .ref zle, .int ct, .int iv, .int dw, .ref zdr, .int ds])), (zrt, .inl (cI, 64, .inl sm_K)), (zfi, .inl (cI, 8, .inl sm_F)), (zsu, .inl (cI, 8, .inl gs)), (zwo, .inl (cI, 64, .inl gw)), (zro, .inl (cI, 512, .inl (upd (sm_ap (upd gr n 128) (n + 1) (fun _ => 0) k) (n + 1 + k) (0 &&& 255)))), (zdi, .inl (cI, 32, .inl gd))] H := hP.sub [5, 0, 1, 2, 3, 6, 4] rfl
        have hD : va_D A [(zm, .inr (4, [.int flt, .ref zrt, .ref zfi, .ref zsu, .ref zwo, .ref zro, .int (nI (n + 1 + k + 1)), .ref zdi, .ref zpa, .ref zin, .int is_, .ref zow, .int os_, .int sd, .ref zke, .ref zva, .ref zle, .int ct, .int iv, .int dw, .ref zdr, .int ds])), (zrt, .inl (cI, 64, .inl sm_K)), (zfi, .inl (cI, 8, .inl sm_F)), (zsu, .inl (cI, 8, .inl gs)), (zwo, .inl (cI, 64, .inl gw)), (zro, .inl (cI, 512, .inl (upd (sm_ap (upd gr n 128) (n + 1) (fun _ => 0) k) (n + 1 + k) (0 &&& 255)))), (zdi, .inl (cI, 32, .inl gd))] := hD.sub [5, 0, 1, 2, 3, 6, 4] rfl rfl
        rw [show (0 : Int32) &&& 255 = 0 from (by decide)] at hP hD
        have hP : va_P D vwCl [(zm, .inr (4, [.int flt, .ref zrt, .ref zfi, .ref zsu, .ref zwo, .ref zro, .int (nI (n + 1 + k + 1)), .ref zdi, .ref zpa, .ref zin, .int is_, .ref zow, .int os_, .int sd, .ref zke, .ref zva, .ref zle, .int ct, .int iv, .int dw, .ref zdr, .int ds])), (zrt, .inl (cI, 64, .inl sm_K)), (zfi, .inl (cI, 8, .inl sm_F)), (zsu, .inl (cI, 8, .inl gs)), (zwo, .inl (cI, 64, .inl gw)), (zro, .inl (cI, 512, .inl (upd (sm_ap (upd gr n 128) (n + 1) (fun _ => 0) k) (n + 1 + k) 0))), (zdi, .inl (cI, 32, .inl gd))] H := hP
        have hD : va_D A [(zm, .inr (4, [.int flt, .ref zrt, .ref zfi, .ref zsu, .ref zwo, .ref zro, .int (nI (n + 1 + k + 1)), .ref zdi, .ref zpa, .ref zin, .int is_, .ref zow, .int os_, .int sd, .ref zke, .ref zva, .ref zle, .int ct, .int iv, .int dw, .ref zdr, .int ds])), (zrt, .inl (cI, 64, .inl sm_K)), (zfi, .inl (cI, 8, .inl sm_F)), (zsu, .inl (cI, 8, .inl gs)), (zwo, .inl (cI, 64, .inl gw)), (zro, .inl (cI, 512, .inl (upd (sm_ap (upd gr n 128) (n + 1) (fun _ => 0) k) (n + 1 + k) 0))), (zdi, .inl (cI, 32, .inl gd))] := hD
        refine lv_goto (tgt := 15) hx hb dX4_hashRow_32 (by decide) ?_
        rw [show upd (sm_ap (upd gr n 128) (n + 1) (fun _ => 0) k) (n + 1 + k) 0 = _ from sm_ap_s (upd gr n 128) (n + 1) (fun _ => 0) k] at hP hD
        exact ih (k + 1) _ _ _ (by omega) (by omega) hP hD hS (lv_sub hl [0, 1] rfl)
  exact lp15 _ 0 _ _ _ (Nat.lt_succ_self _) (Nat.zero_le _) (by rw [sm_ap_0]; exact hP) (by rw [sm_ap_0]; exact hD) hS (lv_sub hl [0, 1] rfl)
