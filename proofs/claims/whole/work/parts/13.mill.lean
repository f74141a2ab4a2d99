/-! the mill, as mathematics: stirring, drawing; small laws for its walks -/
/-- the value behind the value -/
def sm_nv (k v : Nat → Int32) : Nat → Int32 := sm_hm k 32 v 32
/-- the key behind one turn of stirring with the byte t and the n bytes i -/
def sm_tn (k v : Nat → Int32) (t : Int32) (i : Nat → Int32) (n : Nat) : Nat → Int32 := sm_hm k 32 (sm_cat v 32 (sm_cat (fun _ => t) 1 i)) (33 + n)
def sm_turn (x : (Nat → Int32) × (Nat → Int32)) (t : Int32) (i : Nat → Int32) (n : Nat) : (Nat → Int32) × (Nat → Int32) := (sm_tn x.1 x.2 t i n, sm_nv (sm_tn x.1 x.2 t i n) x.2)
/-- STIRRED with the n bytes i -/
def sm_stir (x : (Nat → Int32) × (Nat → Int32)) (i : Nat → Int32) (n : Nat) : (Nat → Int32) × (Nat → Int32) := if n = 0 then sm_turn x 0 i n else sm_turn (sm_turn x 0 i n) 1 i n
theorem sm_tn_congr {k v i i' : Nat → Int32} {t : Int32} {n : Nat} (h : ∀ j, j < n → i j = i' j) : sm_tn k v t i n = sm_tn k v t i' n := by
  refine sm_hm_congr (fun _ _ => rfl) (fun j hj => ?_)
  by_cases q : j < 32
  · rw [sm_cat_lo q, sm_cat_lo q]
  · rw [sm_cat_hi (a := 32) (by omega), sm_cat_hi (a := 32) (by omega)]
    by_cases q2 : j - 32 < 1
    · rw [sm_cat_lo q2, sm_cat_lo q2]
    · rw [sm_cat_hi (a := 1) (by omega), sm_cat_hi (a := 1) (by omega), h _ (by omega)]
theorem sm_stir_congr {x : (Nat → Int32) × (Nat → Int32)} {i i' : Nat → Int32} {n : Nat} (h : ∀ j, j < n → i j = i' j) : sm_stir x i n = sm_stir x i' n := by
  unfold sm_stir sm_turn
  rw [sm_tn_congr (i' := i') h, sm_tn_congr (k := (sm_tn x.1 x.2 0 i' n, sm_nv (sm_tn x.1 x.2 0 i' n) x.2).1) (i' := i') h]
theorem sm_stir_v (x : (Nat → Int32) × (Nat → Int32)) (i : Nat → Int32) (n : Nat) : ∃ w, (sm_stir x i n).2 = sm_nv (sm_stir x i n).1 w := by
  unfold sm_stir
  by_cases h : n = 0
  · rw [if_pos h]; exact ⟨_, rfl⟩
  · rw [if_neg h]; exact ⟨_, rfl⟩
theorem sm_hmE {f k v : Nat → Int32} {kn n : Nat} : sm_out (sm_kb k kn) (sm_sha (sm_ap (sm_ap f 0 (fun j => sm_kb k kn j ^^^ 54) 64) (0 + 64) v n) (0 + 64 + n)) = sm_hm k kn v n := by
  unfold sm_hm
  refine congrArg (sm_out (sm_kb k kn)) ?_
  rw [show 0 + 64 + n = 64 + n by omega]
  refine sm_sha_congr (fun j hj => ?_)
  by_cases q : j < 64
  · rw [sm_ap_lo (by omega), sm_ap_z q, sm_cat_lo q]
  · obtain ⟨i, rfl⟩ : ∃ i, j = 0 + 64 + i := ⟨j - 64, by omega⟩
    rw [sm_ap_hi (by omega), sm_cat_hi (by omega), show 0 + 64 + i - 64 = i by omega]
theorem sm_tnE {f k v i : Nat → Int32} {t : Int32} {n : Nat} : sm_out (sm_kb k 32) (sm_sha (sm_ap (upd (sm_ap (sm_ap f 0 (fun j => sm_kb k 32 j ^^^ 54) 64) (0 + 64) v 32) (0 + 64 + 32) t) (0 + 64 + 32 + 1) i n) (0 + 64 + 32 + 1 + n)) = sm_tn k v t i n := by
  unfold sm_tn sm_hm
  refine congrArg (sm_out (sm_kb k 32)) ?_
  rw [show 0 + 64 + 32 + 1 + n = 64 + (33 + n) by omega]
  refine sm_sha_congr (fun j hj => ?_)
  by_cases q : j < 64
  · rw [sm_ap_lo (by omega), pk_un (by omega), sm_ap_lo (by omega), sm_ap_z q, sm_cat_lo q]
  · rw [sm_cat_hi (by omega)]
    by_cases q2 : j < 96
    · rw [sm_ap_lo (by omega), pk_un (by omega), sm_cat_lo (by omega)]
      obtain ⟨i, rfl⟩ : ∃ i, j = 0 + 64 + i := ⟨j - 64, by omega⟩
      rw [sm_ap_hi (by omega), show 0 + 64 + i - 64 = i by omega]
    · rw [sm_cat_hi (by omega)]
      by_cases q3 : j = 96
      · rw [sm_ap_lo (by omega), q3, sm_cat_lo (by omega)]
        exact pk_us
      · rw [sm_cat_hi (by omega)]
        obtain ⟨z, rfl⟩ : ∃ z, j = 0 + 64 + 32 + 1 + z := ⟨j - 97, by omega⟩
        rw [sm_ap_hi (by omega), show 0 + 64 + 32 + 1 + z - 64 - 32 - 1 = z by omega]
/-- the values behind a value, one after the other -/
def sm_vs (k v : Nat → Int32) : Nat → Nat → Int32
  | 0 => v
  | t + 1 => sm_nv k (sm_vs k v t)
/-- the bytes that are drawn -/
def sm_dr (k v : Nat → Int32) : Nat → Int32 := fun j => sm_vs k v (j / 32 + 1) (j % 32)
theorem sm_dr_s {f k v : Nat → Int32} {q e : Nat} (h : e ≤ 32) : sm_ap (sm_ap f 0 (sm_dr k v) (32 * q)) (32 * q) (sm_vs k v (q + 1)) e = sm_ap f 0 (sm_dr k v) (32 * q + e) := by
  have := sm_ap_ap (f := f) (g := sm_dr k v) (h := sm_vs k v (q + 1)) (u := 0) (e := 32 * q) (k := e) (fun j hj => by
    unfold sm_dr
    rw [show (32 * q + j) / 32 = q by omega, show (32 * q + j) % 32 = j by omega])
  rw [Nat.zero_add] at this
  exact this
/-- what is fed: the n lowest bytes of x, the highest of them first -/
def sm_fb (x : Int64) (n : Nat) : Nat → Int32 := fun j => Int64.toInt32 (sm_lus x (nI (8 * (n - 1 - j)))) &&& 255
/-- a number that may be fed -/
def sm_fok (k : Int32) (ni n : Nat) : Prop := 1 ≤ n ∧ n ≤ 8 ∧ ni + n ≤ 300 ∧ k = nI n
theorem sm_fok_of {k : Int32} {ni : Nat} (h1 : ¬ k < 1) (h2 : ¬ 8 < k) (h3 : nI ni + k ≤ 300) (hn : ni ≤ 300) : ∃ n, sm_fok k ni n := by
  have h0 : ¬ k < 0 := fun q => h1 (by
    have a := Int32.lt_iff_toInt_lt.mp q
    apply Int32.lt_iff_toInt_lt.mpr
    have b : (0 : Int32).toInt = 0 := rfl
    have c : (1 : Int32).toInt = 1 := rfl
    omega)
  obtain ⟨n, hn8, rfl⟩ := nI_of2 (x := k) (M := 8) (n := 8) rfl h0 (Int32.not_lt.mp h2)
  refine ⟨n, ?_, hn8, ?_, rfl⟩
  · rcases Nat.eq_zero_or_pos n with q | q
    · subst q
      exact absurd (by decide) h1
    · exact q
  · rw [nI_add] at h3
    exact (nI_leI (b := 300) (by omega) (by decide)).mp h3
theorem sm_pl1 {n : Nat} (h : 1 ≤ n) : nI n - 1 = nI (n - 1) := pk_sub (b := 1) h
theorem sm_dec (a : Int32) : a + 1 - 1 + (-1) = a - 1 := by
  have h : a + 1 - 1 = a := by simp
  rw [h]
  exact (Int32.sub_eq_add_neg a 1).symm

/-- what count answers -/
def sm_ct (k a b c d e : Int32) : Int32 := if k = 0 then a else if k = 1 then b else if k = 2 then c else if k = 3 then d else if k = 4 then e else -1
theorem sm_ct5 {k : Int32} (h0 : ¬ k = 0) (h1 : ¬ k = 1) (h2 : ¬ k = 2) (h3 : ¬ k = 3) (h4 : ¬ k = 4) : k.toInt < 0 ∨ 4 < k.toInt := by
  have a0 : ¬ k.toInt = 0 := lv_neT h0 rfl
  have a1 : ¬ k.toInt = 1 := lv_neT h1 rfl
  have a2 : ¬ k.toInt = 2 := lv_neT h2 rfl
  have a3 : ¬ k.toInt = 3 := lv_neT h3 rfl
  have a4 : ¬ k.toInt = 4 := lv_neT h4 rfl
  omega
