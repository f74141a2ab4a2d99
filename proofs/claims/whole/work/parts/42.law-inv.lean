-- ===== end of PART A; then your names; then what follows =====
/-! THE CLAIM OUT OF ONE WALK OF THE LAW'S BODY. Your part is whole_start (and what it stands on); all else here is the same for every law, but numbers. -/
def R_law : String := "SeedMillLaw"
def lw_P (b : Addr) (xs : List Int32) (args : Array Value) (s : State) : Prop := args = #[.ref b] ∧ s.IntsAt b xs ∧ xs.length ≤ 2048 ∧ (Jvm.Cond.and given_1 narrow_1).before args s = true
def lw_Q (_ : Array Value) (s : State) (o : Outcome) (t : State) : Prop := o = .returned (some (.int 1)) ∧ Framed s o t [] 600000 7302250
def lw_Z (below : List Frame) (a : Array Value) (s : State) : State → Prop := fun t => ∃ o, t.status = .running ∧ Ended t below o ∧ lw_Q a s o t
/-- the law's own end, with 1 on the stack, nothing written that was there before, its room as the claim has it -/
theorem lw_ret {p : Program} {l : Launch} {e : Env} {s : State} {m : MethodId} {below : List Frame} {meth : Method} {c : Code} {b : Nat} (hx : p.tables.exec = Jvm.exec) (hb : c.code = code) (hr : meth.sig.returnType = ret) (hlocks : meth.locks = false) {pc : Nat} {H : Heap} {ls : Array Slot} (hdg : decode code pc = .ok (.ireturn, 1)) : W p l e room_1 s m #[Value.ref b] below meth c H [] 600000 7302250 (lw_Z below #[Value.ref b] s) (F0 m pc ls [.int 1]) := by
  intro T hT X
  obtain ⟨fs, hret, hrun, hended, hW, hframe⟩ := X.leave (v := some (.int 1)) (hlocks := hlocks) (fun h => by rw [hr] at h; cases h)
  have hmeth' : T.vm.method? m = some meth := X.method'
  refine ⟨T.setFrames fs, ?_, .returned (some (.int 1)), hrun, hended, rfl, ⟨_, rfl⟩, hW, hframe⟩
  jvm_step X.here [X.here.top, hx, hb, hdg, hmeth', hr, ret, narrow_b1]
  (try refine ⟨rfl, ?_⟩); (try refine ⟨rfl, ?_⟩)
  first | (intro acts; rw [hret _ acts rfl rfl rfl]) | rw [hret _ _ rfl rfl rfl]
  exact Steps.refl _
/-- what holds at the law's entry: the machine, the code, the tables' words (any of lw_tbl by 'hts w (by decide +kernel)'), the script of L ints xs at the cell b, what the Statement gives of the start (any of its parts by flat_of_before) -/
def lw_At (p : Program) (s : State) (m : MethodId) (meth : Method) (c : Code) (b L : Nat) (xs : Nat → Int32) : Prop :=
  p.tables.exec = Jvm.exec ∧ c.code = code ∧ meth.sig.returnType = ret ∧ c.maxLocals = 4 ∧ s.vm.findClass R_law = some m.cls ∧ (∀ w ∈ lw_tbl, w.before #[Value.ref b] s = true) ∧ va_X b L xs s s.heap ∧ b < s.heap.size ∧ meth.locks = false ∧ (Jvm.Cond.and given_1 narrow_1).before #[Value.ref b] s = true

def sm_sd (kc : Nat) : Int32 := if kc = 0 then 0 else 1
theorem sm_ap_agree {f g h : Nat → Int32} {u e : Nat} (hf : ∀ j, j < u → f j = g j) : ∀ j, j < u + e → sm_ap f u h e j = sm_ap g u h e j := by
  intro j hj
  by_cases q : j < u
  · rw [sm_ap_lo q, sm_ap_lo q, hf j q]
  · obtain ⟨i, rfl⟩ : ∃ i, j = u + i := ⟨j - u, by omega⟩
    rw [sm_ap_hi (by omega), sm_ap_hi (by omega)]
theorem sm_ap_byte {f h : Nat → Int32} {u e : Nat} (hf : ∀ j, j < u → sm_by (f j)) (hh : ∀ j, j < e → sm_by (h j)) : ∀ j, j < u + e → sm_by (sm_ap f u h e j) := by
  intro j hj
  by_cases q : j < u
  · rw [sm_ap_lo q]; exact hf j q
  · obtain ⟨i, rfl⟩ : ∃ i, j = u + i := ⟨j - u, by omega⟩
    rw [sm_ap_hi (by omega)]; exact hh i (by omega)
theorem sm_at_congr {f g : Nat → Int32} {k : Nat} {i : Int32} (hk : k < 2 ^ 31) (h : ∀ j, j < k → f j = g j) : sm_at f k i = sm_at g k i := by
  unfold sm_at
  by_cases q : i < 0 ∨ nI k ≤ i
  · rw [if_pos q, if_pos q]
  · rw [if_neg q, if_neg q]
    rcases pk_ix i (n := k) hk with z | z | ⟨j, hj, ej⟩
    · exact absurd (Or.inl z) q
    · exact absurd (Or.inr z) q
    · rw [ej, nI_clamp (by omega), h j hj]
theorem sm_rng {k : Int32} (h1 : ¬ k < 1) (h2 : ¬ 400 < k) : ∃ n, 1 ≤ n ∧ n ≤ 400 ∧ k = nI n := by
  have h0 : ¬ k < 0 := fun q => h1 (by
    have a := Int32.lt_iff_toInt_lt.mp q
    apply Int32.lt_iff_toInt_lt.mpr
    have b : (0 : Int32).toInt = 0 := rfl
    have c : (1 : Int32).toInt = 1 := rfl
    omega)
  obtain ⟨n, hn, rfl⟩ := nI_of2 (x := k) (M := 400) (n := 400) rfl h0 (Int32.not_lt.mp h2)
  refine ⟨n, ?_, hn, rfl⟩
  rcases Nat.eq_zero_or_pos n with q | q
  · subst q
    exact absurd (by decide) h1
  · exact q
theorem sm_lt4 {L i : Nat} (hL : L ≤ 2048) (hi : i ≤ 4096) : nI L - 4 < nI i ↔ L < i + 4 := by
  have a : (nI L - nI 4).toInt = (L : Int) - 4 := pk_sub_toInt (by omega) (by decide)
  have b : (nI i).toInt = (i : Int) := nI_toInt (by omega)
  rw [Int32.lt_iff_toInt_lt, b]
  show (nI L - nI 4).toInt < (i : Int) ↔ _
  rw [a]
  omega
/-- at the head of the law's loop, behind k calls: the class and the reference hold the same -/
def sm_L (D : va_G) (cI : ClassId) (A : Nat → Prop) (qs zm k : Nat) (H : Heap) : Prop := ∃ (qi bi qo bo qd bd qk bk qv bv qf bf qa ba gh gm gb gw gd hk hh hm bm aw ad hB bB hI bI zrt zfi zsu zwo zro zdi zpa zin zow zke zva zle zdr ni no nd kc uk uv : Nat) (ivl drw uf ua gu um uB uI flt : Int32) (fi fo fD fk fv ff fa gf gx gy fm fw fd fB fI gi go gD gk gv gl js jw jr jd jp : Nat → Int32), ni ≤ 300 ∧ no ≤ 300 ∧ nd ≤ 400 ∧ kc ≤ k + 1 ∧ (∀ j, j < ni → fi j = gi j) ∧ (∀ j, j < ni → sm_by (gi j)) ∧ (∀ j, j < no → fo j = go j) ∧ (∀ j, j < no → sm_by (go j)) ∧ (∀ j, j < nd → fD j = gD j) ∧ (uk ≤ 32 ∧ uv ≤ 32) ∧ (kc ≠ 0 → uk = 32 ∧ uv = 32 ∧ uf = nI 32 ∧ fk = gk ∧ fv = gv ∧ fv = gl ∧ fv = sm_nv fk ff ∧ (∀ j, j < 32 → sm_by (fk j)) ∧ (∀ j, j < 32 → sm_by (fv j))) ∧ va_P D vwCl [(qs, .inr (3, [.ref qi, .ref qo, .ref qd, .ref qk, .ref qv, .ref qf, .ref qa, .ref gh, .ref hk, .int (nI kc), .int ivl, .int drw])), (qi, .inr (2, [.ref bi, .int (nI ni)])), (bi, .inl (cI, 300, .inl fi)), (qo, .inr (2, [.ref bo, .int (nI no)])), (bo, .inl (cI, 300, .inl fo)), (qd, .inr (2, [.ref bd, .int (nI nd)])), (bd, .inl (cI, 400, .inl fD)), (qk, .inr (2, [.ref bk, .int (nI uk)])), (bk, .inl (cI, 32, .inl fk)), (qv, .inr (2, [.ref bv, .int (nI uv)])), (bv, .inl (cI, 32, .inl fv)), (qf, .inr (2, [.ref bf, .int uf])), (bf, .inl (cI, 32, .inl ff)), (qa, .inr (2, [.ref ba, .int ua])), (ba, .inl (cI, 32, .inl fa)), (gh, .inr (0, [.ref gm, .ref gw, .ref gd])), (gm, .inr (2, [.ref gb, .int gu])), (gb, .inl (cI, 448, .inl gf)), (gw, .inl (cI, 64, .inl gx)), (gd, .inl (cI, 8, .inl gy)), (hk, .inr (1, [.ref hh, .ref hB, .ref hI])), (hh, .inr (0, [.ref hm, .ref aw, .ref ad])), (hm, .inr (2, [.ref bm, .int um])), (bm, .inl (cI, 448, .inl fm)), (aw, .inl (cI, 64, .inl fw)), (ad, .inl (cI, 8, .inl fd)), (hB, .inr (2, [.ref bB, .int uB])), (bB, .inl (cI, 64, .inl fB)), (hI, .inr (2, [.ref bI, .int uI])), (bI, .inl (cI, 32, .inl fI)), (zm, .inr (4, [.int flt, .ref zrt, .ref zfi, .ref zsu, .ref zwo, .ref zro, .int (nI 0), .ref zdi, .ref zpa, .ref zin, .int (nI ni), .ref zow, .int (nI no), .int (sm_sd kc), .ref zke, .ref zva, .ref zle, .int (nI kc), .int ivl, .int drw, .ref zdr, .int (nI nd)])), (zrt, .inl (cI, 64, .inl sm_K)), (zfi, .inl (cI, 8, .inl sm_F)), (zsu, .inl (cI, 8, .inl js)), (zwo, .inl (cI, 64, .inl jw)), (zro, .inl (cI, 512, .inl jr)), (zdi, .inl (cI, 32, .inl jd)), (zpa, .inl (cI, 64, .inl jp)), (zin, .inl (cI, 300, .inl gi)), (zow, .inl (cI, 300, .inl go)), (zke, .inl (cI, 32, .inl gk)), (zva, .inl (cI, 32, .inl gv)), (zle, .inl (cI, 32, .inl gl)), (zdr, .inl (cI, 400, .inl gD))] H ∧ va_D A [(qs, .inr (3, [.ref qi, .ref qo, .ref qd, .ref qk, .ref qv, .ref qf, .ref qa, .ref gh, .ref hk, .int (nI kc), .int ivl, .int drw])), (qi, .inr (2, [.ref bi, .int (nI ni)])), (bi, .inl (cI, 300, .inl fi)), (qo, .inr (2, [.ref bo, .int (nI no)])), (bo, .inl (cI, 300, .inl fo)), (qd, .inr (2, [.ref bd, .int (nI nd)])), (bd, .inl (cI, 400, .inl fD)), (qk, .inr (2, [.ref bk, .int (nI uk)])), (bk, .inl (cI, 32, .inl fk)), (qv, .inr (2, [.ref bv, .int (nI uv)])), (bv, .inl (cI, 32, .inl fv)), (qf, .inr (2, [.ref bf, .int uf])), (bf, .inl (cI, 32, .inl ff)), (qa, .inr (2, [.ref ba, .int ua])), (ba, .inl (cI, 32, .inl fa)), (gh, .inr (0, [.ref gm, .ref gw, .ref gd])), (gm, .inr (2, [.ref gb, .int gu])), (gb, .inl (cI, 448, .inl gf)), (gw, .inl (cI, 64, .inl gx)), (gd, .inl (cI, 8, .inl gy)), (hk, .inr (1, [.ref hh, .ref hB, .ref hI])), (hh, .inr (0, [.ref hm, .ref aw, .ref ad])), (hm, .inr (2, [.ref bm, .int um])), (bm, .inl (cI, 448, .inl fm)), (aw, .inl (cI, 64, .inl fw)), (ad, .inl (cI, 8, .inl fd)), (hB, .inr (2, [.ref bB, .int uB])), (bB, .inl (cI, 64, .inl fB)), (hI, .inr (2, [.ref bI, .int uI])), (bI, .inl (cI, 32, .inl fI)), (zm, .inr (4, [.int flt, .ref zrt, .ref zfi, .ref zsu, .ref zwo, .ref zro, .int (nI 0), .ref zdi, .ref zpa, .ref zin, .int (nI ni), .ref zow, .int (nI no), .int (sm_sd kc), .ref zke, .ref zva, .ref zle, .int (nI kc), .int ivl, .int drw, .ref zdr, .int (nI nd)])), (zrt, .inl (cI, 64, .inl sm_K)), (zfi, .inl (cI, 8, .inl sm_F)), (zsu, .inl (cI, 8, .inl js)), (zwo, .inl (cI, 64, .inl jw)), (zro, .inl (cI, 512, .inl jr)), (zdi, .inl (cI, 32, .inl jd)), (zpa, .inl (cI, 64, .inl jp)), (zin, .inl (cI, 300, .inl gi)), (zow, .inl (cI, 300, .inl go)), (zke, .inl (cI, 32, .inl gk)), (zva, .inl (cI, 32, .inl gv)), (zle, .inl (cI, 32, .inl gl)), (zdr, .inl (cI, 400, .inl gD))]
