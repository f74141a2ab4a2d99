/-! small laws for the walks of the hash -/
theorem sm_sc_lo {m : Nat → Int32} {s : Nat} {w : Nat → Int32} {t : Nat} (h : t < 16) : upd (sm_sc m s w t) t (sm_wd m (s + 4 * t)) = sm_sc m s w (t + 1) := by
  show _ = upd (sm_sc m s w t) t _
  rw [if_pos h]
theorem sm_sc_hi {m : Nat → Int32} {s : Nat} {w : Nat → Int32} {t : Nat} (h : 16 ≤ t) : upd (sm_sc m s w t) t (sm_sc m s w t (t - 16) + sm_s0 (sm_sc m s w t (t - 15)) + sm_sc m s w t (t - 7) + sm_s1 (sm_sc m s w t (t - 2))) = sm_sc m s w (t + 1) := by
  show _ = upd (sm_sc m s w t) t _
  rw [if_neg (by omega)]
theorem sm_cp_8 {w H : Nat → Int32} {x1 x2 x3 x4 x5 x6 x7 x8 : Int32} (hx : (x1, x2, x3, x4, x5, x6, x7, x8) = sm_rds w 64 (sm_i8 H)) : ∀ j, j < 8 → upd (upd (upd (upd (upd (upd (upd (upd H 0 (H 0 + x1)) 1 (H 1 + x2)) 2 (H 2 + x3)) 3 (H 3 + x4)) 4 (H 4 + x5)) 5 (H 5 + x6)) 6 (H 6 + x7)) 7 (H 7 + x8) j = sm_cp w H j := by
  intro j hj
  unfold sm_cp
  rw [← hx]
  rcases (show j = 0 ∨ j = 1 ∨ j = 2 ∨ j = 3 ∨ j = 4 ∨ j = 5 ∨ j = 6 ∨ j = 7 by omega) with h | h | h | h | h | h | h | h <;> subst h <;> rfl
theorem sm_rds_s {w : Nat → Int32} {t : Nat} {x : sm_T8} {x1 x2 x3 x4 x5 x6 x7 x8 : Int32} (hx : (x1, x2, x3, x4, x5, x6, x7, x8) = sm_rds w t x) : (sm_t1 x5 x6 x7 x8 (sm_K t) (w t) + sm_t2 x1 x2 x3, x1, x2, x3, x4 + sm_t1 x5 x6 x7 x8 (sm_K t) (w t), x5, x6, x7) = sm_rds w (t + 1) x := by
  show _ = sm_rd (sm_K t) (w t) (sm_rds w t x)
  rw [← hx]
  rfl
theorem sm_ap_congr {f g g' : Nat → Int32} {u e : Nat} (h : ∀ j, j < e → g j = g' j) : sm_ap f u g e = sm_ap f u g' e := by
  funext j
  unfold sm_ap
  by_cases c : u ≤ j ∧ j < u + e
  · rw [if_pos c, if_pos c, h _ (by omega)]
  · rw [if_neg c, if_neg c]
theorem sm_ap_ap {f g h : Nat → Int32} {u e k : Nat} (hh : ∀ j, j < k → h j = g (e + j)) : sm_ap (sm_ap f u g e) (u + e) h k = sm_ap f u g (e + k) := by
  funext j
  unfold sm_ap
  by_cases c : u + e ≤ j ∧ j < u + e + k
  · rw [if_pos c, if_pos (by omega), hh _ (by omega)]
    congr 1
    omega
  · rw [if_neg c]
    by_cases c2 : u ≤ j ∧ j < u + e
    · rw [if_pos c2, if_pos (by omega)]
    · rw [if_neg c2, if_neg (by omega)]
/-- the bytes of eight words -/
def sm_dg (H : Nat → Int32) : Nat → Int32 := fun j => sm_wb (H (j / 4)) (j % 4)
theorem sm_dg_s (f H : Nat → Int32) (i : Nat) : sm_ap (sm_ap f 0 (sm_dg H) (4 * i)) (4 * i) (sm_wb (H i)) 4 = sm_ap f 0 (sm_dg H) (4 * (i + 1)) := by
  have h := sm_ap_ap (f := f) (g := sm_dg H) (h := sm_wb (H i)) (u := 0) (e := 4 * i) (k := 4) (fun j hj => by
    unfold sm_dg
    rw [show (4 * i + j) / 4 = i by omega, show (4 * i + j) % 4 = j by omega])
  rw [Nat.zero_add] at h
  exact h
theorem sm_dg_sha {f m m' : Nat → Int32} {n : Nat} (h : ∀ j, j < 64 * sm_nb n → m' j = sm_pm m n j) : sm_ap f 0 (sm_dg (sm_hs m' (sm_nb n))) 32 = sm_ap f 0 (sm_sha m n) 32 := by
  apply sm_ap_congr
  intro j hj
  show sm_wb _ _ = sm_wb _ _
  rw [sm_hs_congr (sm_nb n) h (j / 4) (by omega)]
theorem sm_wb0 : ∀ j, j < 4 → sm_wb 0 j = 0 := by decide +kernel
/-- Math.floorMod as its code does it -/
def sm_fm (x y : Int32) : Int32 := if 0 ≤ x ^^^ y then x - x / y * y else if x - x / y * y = 0 then x - x / y * y else (x - x / y * y) + y
theorem sm_fm_64 : ∀ a, a < 449 → sm_fm (56 - nI a) 64 = nI (64 * ((a + 7) / 64) + 56 - a) := by decide +kernel
/-- the padded row, as it is laid -/
theorem sm_pad (f : Nat → Int32) (n z : Nat) (hz : z = 64 * ((n + 1 + 7) / 64) + 56 - (n + 1)) : ∀ j, j < 64 * sm_nb n → sm_ap (sm_ap (sm_ap (upd f n 128) (n + 1) (fun _ => 0) z) (n + 1 + z) (sm_wb 0) 4) (n + 1 + z + 4) (sm_wb (nI (n * 8))) 4 j = sm_pm f n j := by
  intro j hj
  have hb : 64 * sm_nb n = n + 1 + z + 8 := by unfold sm_nb; omega
  unfold sm_pm
  rw [hb]
  by_cases h1 : j < n
  · rw [sm_ap_lo (by omega), sm_ap_lo (by omega), sm_ap_lo (by omega), if_pos h1, pk_un (by omega)]
  · rw [if_neg h1]
    by_cases h2 : j = n
    · rw [if_pos h2, sm_ap_lo (by omega), sm_ap_lo (by omega), sm_ap_lo (by omega), h2, pk_us]
    · rw [if_neg h2]
      by_cases h3 : j < n + 1 + z + 8 - 4
      · rw [if_pos h3, sm_ap_lo (by omega)]
        by_cases h4 : j < n + 1 + z
        · rw [sm_ap_lo h4]
          obtain ⟨i, rfl⟩ : ∃ i, j = n + 1 + i := ⟨j - (n + 1), by omega⟩
          rw [sm_ap_hi (by omega)]
        · obtain ⟨i, rfl⟩ : ∃ i, j = n + 1 + z + i := ⟨j - (n + 1 + z), by omega⟩
          rw [sm_ap_hi (by omega), sm_wb0 i (by omega)]
      · rw [if_neg h3]
        obtain ⟨i, rfl⟩ : ∃ i, j = n + 1 + z + 4 + i := ⟨j - (n + 1 + z + 4), by omega⟩
        rw [sm_ap_hi (by omega), Nat.mul_comm]
        congr 1
        omega
section SMC
variable {p : Program} {l : Launch} {e : Env} {R : Room} {s : State} {m : MethodId} {args : Array Value} {below : List Frame} {meth : Method} {c : Code} {H : Heap} {locs : List Loc} {cells slots : Nat} {Q : State → Prop}
variable {pc : Nat} {ls : Array Slot} {rest : List Value} {D : va_G} {A : Nat → Prop} {a : Nat} {ws : va_W}
/-- System.arraycopy out of a static table (a table says only: at least N places, and N as an int) -/
theorem sm_copyT {cc : ByteArray} (hexec : p.tables.exec = Jvm.exec) (hb : c.code = cc) (hml : c.maxLocals = ls.size) {own : String} {index : Nat} (hown : s.vm.findClass own = some m.cls) (hlink : (Cond.methodLink own index arraycopyName).before args s = true) (hnat : (Cond.native arraycopyName).before args s = true) (hstat : (Cond.static arraycopyName).before args s = true) (hini : (Cond.initialized "java/lang/System").before args s = true)
    {tys : List (ClassId × FieldType)} (hK : va_K D vwCl tys s) (hP : va_P D vwCl ws H) (hD : va_D A ws) (hS : va_S A s.heap H locs) {b0 N : Nat} {f : Nat → Int32} (hT : va_T .int b0 N (fun j => .int (f j)) A s s.heap) (q1 t1 : Nat) {c1 : ClassId} {n1 : Nat} {g : Nat → Int32} (ha1 : ws[q1]? = some (a, .inl (c1, n1, .inl g))) (ht1 : tys[t1]? = some (c1, .int))
    {k : Nat} (hk : k < 2 ^ 31) (hkN : k ≤ N) (hk1 : k ≤ n1)
    (hframes : 1 ≤ R.frames) (hlocals : (rest.map fun v => v.category).sum + (nativeFrameWords "java/lang/System" "arraycopy" 5 + 11) ≤ R.locals) (hdg : decode cc pc = .ok (.invokestatic index, 3))
    (kk : ∀ (H1 : Heap) (locs1 : List Loc), va_P D vwCl (ws.set q1 (a, .inl (c1, n1, .inl (sm_ap g 0 f k)))) H1 → va_D A (ws.set q1 (a, .inl (c1, n1, .inl (sm_ap g 0 f k)))) → va_S A s.heap H1 locs1 → W p l e R s m args below meth c H1 locs1 cells slots Q (F0 m (pc + 3) ls rest)) : W p l e R s m args below meth c H locs cells slots Q (F0 m pc ls (.int (nI k) :: .int 0 :: .ref a :: .int 0 :: .ref b0 :: rest)) := by
  intro T hT0 X
  obtain ⟨scr, hs1, hs2, hs3, hs4, -, hs5, hbA⟩ := hT
  have hc0 : H[b0]? = some scr := by rw [hS.2.1 b0 (Array.getElem?_eq_some_iff.mp hs1).1 hbA]; exact hs1
  have hc1 : H[a]? = some (vp_cell c1 (n1, .inl g)) := hP q1 _ ha1
  obtain ⟨hs6, k0, hk0, cm0, hkk0⟩ := hs2
  obtain ⟨-, k1, hkc1, cm1, hkk1⟩ := (hK.2 t1 _ ht1).1 n1 (fun j => .int (g j))
  have z0 : (0 : Int32).toInt = 0 := rfl
  have z1 : (0 : Int32).toNatClampNeg = 0 := rfl
  have zk : (nI k).toInt = (k : Int) := nI_toInt hk
  have zc : (nI k).toNatClampNeg = k := nI_clamp hk
  obtain ⟨vm', X', step⟩ := X.arraycopy hexec hown hlink hnat hstat hini (src := b0) (dst := a) (cs := scr) (cd := vp_cell c1 (n1, .inl g)) (srcPos := 0) (destPos := 0) (n := nI k) (by rw [hT0]; exact hc0) (by rw [hT0]; exact hc1)
    hs6 (fun _ h => by cases h) hs3 (fun h => by cases h) hk0 hkc1 hkk0 hkk1 (by simp [refKind]) (by decide) (by decide) (nI_pos hk)
    (by rw [z0, zk]; omega)
    (by rw [z0, zk]; show ¬ _ > ((arrV c1 n1 (fun j => .int (g j))).slots.size : Int); rw [arrV_size]; omega)
    (fun vm₁ _ i hi => by
      have hi : i < k := by rw [← zc]; exact hi
      have e : scr.slots.getD ((0 : Int32).toNatClampNeg + i) .null = .int (f i) := by
        rw [z1, Nat.zero_add, Array.getD_eq_getD_getElem?, hs5 _ (by omega)]
        rfl
      refine ⟨?_, ?_⟩
      · rw [e]
        rfl
      · rw [e]
        exact trivial)
    (g := F0 m pc ls (.int (nI k) :: .int 0 :: .ref a :: .int 0 :: .ref b0 :: rest)) rfl (by rw [hml]) (rest := rest) rfl (by rw [hb]; exact hdg) hframes (by show 2 * 0 + _ + _ ≤ _; omega)
  have e1 : copied scr (vp_cell c1 (n1, .inl g)) 0 0 (nI k) = vp_cell c1 (n1, .inl (sm_ap g 0 f k)) := by
    have h := va_copiedX (fun z => .int z) scr c1 (n0 := N) (n1 := n1) (sp := 0) (dp := 0) (n := k) f g hs5 (by omega)
    have e2 : va_cpy f g 0 0 k = sm_ap g 0 f k := by
      funext j
      unfold va_cpy sm_ap
      by_cases q : 0 ≤ j ∧ j < 0 + k
      · rw [if_pos q, if_pos q, Nat.zero_add]
      · rw [if_neg q, if_neg q]
    rw [← e2]
    show (vp_cell c1 (n1, .inl g)).storeRun (0 : Int32).toNatClampNeg (scr.stretch (0 : Int32).toNatClampNeg (nI k).toNatClampNeg) = _
    rw [z1, zc]
    exact h
  rw [e1] at X' step
  have hl : a < H.size := (Array.getElem?_eq_some_iff.mp hc1).1
  have hheap : ((T.setVm vm').setCell a (vp_cell c1 (n1, .inl (sm_ap g 0 f k)))).heap = H.setIfInBounds a (vp_cell c1 (n1, .inl (sm_ap g 0 f k))) := by rw [← hT0]; rfl
  have oq : ∀ q : Nat, q ≠ a → (H.setIfInBounds a (vp_cell c1 (n1, .inl (sm_ap g 0 f k))))[q]? = H[q]? := fun q hq => by simp [Array.getElem?_setIfInBounds, Ne.symm hq]
  obtain ⟨t, a1, b1⟩ := kk _ _ (hP.set hD ha1 (show (H.setIfInBounds a _)[a]? = some _ by simp [Array.getElem?_setIfInBounds, hl]) oq) (hD.set ha1) ⟨by simp; exact hS.1, fun q g1 g2 => by
      rw [oq q (fun e => g2 (by rw [e]; exact hD.2 q1 _ ha1))]
      exact hS.2.1 q g1 g2, fun q hq => by
      rcases List.mem_append.mp hq with h | h
      · exact hS.2.2 q h
      · obtain ⟨z, -, hz⟩ := List.mem_map.mp h
        rw [← hz]
        exact hD.2 q1 _ ha1⟩ _ hheap X'
  exact ⟨t, step t a1, b1⟩
end SMC
theorem sm_kbA {f g k : Nat → Int32} {n : Nat} (h : 64 < n) : ∀ j, j < 64 → sm_ap (sm_ap f 0 (sm_sha (sm_ap g 0 k n) (0 + n)) 32) 32 (fun _ => 0) (64 - 32) j = sm_kb k n j := by
  intro j hj
  have e : sm_sha (sm_ap g 0 k n) (0 + n) = sm_sha k n := by
    rw [Nat.zero_add]
    apply sm_sha_congr
    intro i hi
    have := sm_ap_hi (f := g) (g := k) (u := 0) hi
    rwa [Nat.zero_add] at this
  rw [e]
  unfold sm_kb
  rw [if_pos h]
  by_cases q : j < 32
  · rw [if_pos q, sm_ap_lo q]
    have := sm_ap_hi (f := f) (g := sm_sha k n) (u := 0) q
    rwa [Nat.zero_add] at this
  · rw [if_neg q]
    obtain ⟨i, rfl⟩ : ∃ i, j = 32 + i := ⟨j - 32, by omega⟩
    rw [sm_ap_hi (by omega)]
theorem sm_kbB {f k : Nat → Int32} {n : Nat} (h : n ≤ 64) : ∀ j, j < 64 → sm_ap (sm_ap f 0 k n) n (fun _ => 0) (64 - n) j = sm_kb k n j := by
  intro j hj
  unfold sm_kb
  rw [if_neg (by omega)]
  by_cases q : j < n
  · rw [if_pos q, sm_ap_lo q]
    have := sm_ap_hi (f := f) (g := k) (u := 0) q
    rwa [Nat.zero_add] at this
  · rw [if_neg q]
    obtain ⟨i, rfl⟩ : ∃ i, j = n + i := ⟨j - n, by omega⟩
    rw [sm_ap_hi (by omega)]
theorem sm_ap_z {f g : Nat → Int32} {e j : Nat} (h : j < e) : sm_ap f 0 g e j = g j := by
  have := sm_ap_hi (f := f) (g := g) (u := 0) h
  rwa [Nat.zero_add] at this
theorem sm_outE {f g kb d : Nat → Int32} : sm_sha (sm_ap (sm_ap f 0 (fun j => kb j ^^^ 92) 64) (0 + 64) (sm_ap g 0 d 32) 32) (0 + 64 + 32) = sm_out kb d := by
  unfold sm_out
  apply sm_sha_congr
  intro j hj
  by_cases q : j < 64
  · rw [sm_ap_lo (by omega), sm_ap_z q, sm_cat_lo q]
  · obtain ⟨i, rfl⟩ : ∃ i, j = 0 + 64 + i := ⟨j - 64, by omega⟩
    rw [sm_ap_hi (by omega), sm_ap_z (by omega), sm_cat_hi (by omega)]
    congr 1
    omega
