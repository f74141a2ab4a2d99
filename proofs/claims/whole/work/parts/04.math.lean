/-! THE MATHEMATICS that both sides are tied to: rows as functions with a length; the hash; the keyed hash -/
def sm_us (x y : Int32) : Int32 := (x.toUInt32 >>> (y.toUInt32 &&& Int32.toUInt32 31)).toInt32
def sm_lus (x : Int64) (y : Int32) : Int64 := (x.toUInt64 >>> (y.toInt64.toUInt64 &&& Int64.toUInt64 63)).toInt64
def sm_lsr (x : Int64) (y : Int32) : Int64 := x >>> (y.toInt64 &&& 63)
def sm_lsl (x : Int64) (y : Int32) : Int64 := x <<< (y.toInt64 &&& 63)
/-- e places of g laid into f from u on -/
def sm_ap (f : Nat → Int32) (u : Nat) (g : Nat → Int32) (e : Nat) : Nat → Int32 := fun j => if u ≤ j ∧ j < u + e then g (j - u) else f j
theorem sm_ap_0 (f : Nat → Int32) (u : Nat) (g : Nat → Int32) : sm_ap f u g 0 = f := by
  funext j
  unfold sm_ap
  rw [if_neg (by omega)]
theorem sm_ap_s (f : Nat → Int32) (u : Nat) (g : Nat → Int32) (i : Nat) : upd (sm_ap f u g i) (u + i) (g i) = sm_ap f u g (i + 1) := by
  funext j
  unfold upd sm_ap
  by_cases h : j = u + i
  · subst h
    rw [if_pos rfl, if_pos (by omega)]
    congr 1
    omega
  · rw [if_neg h]
    by_cases h2 : u ≤ j ∧ j < u + i
    · rw [if_pos h2, if_pos (by omega)]
    · rw [if_neg h2, if_neg (by omega)]
theorem sm_ap_lo {f g : Nat → Int32} {u e j : Nat} (h : j < u) : sm_ap f u g e j = f j := by unfold sm_ap; rw [if_neg (by omega)]
theorem sm_ap_hi {f g : Nat → Int32} {u e j : Nat} (h : j < e) : sm_ap f u g e (u + j) = g j := by
  unfold sm_ap
  rw [if_pos (by omega)]
  congr 1
  omega
theorem sm_ap_out {f g : Nat → Int32} {u e j : Nat} (h : u + e ≤ j) : sm_ap f u g e j = f j := by unfold sm_ap; rw [if_neg (by omega)]
/-- the four bytes of a word, the highest first -/
def sm_wb (w : Int32) (j : Nat) : Int32 := sm_us w (nI (24 - 8 * j)) &&& 255
/-- the word that four bytes make -/
def sm_wd (m : Nat → Int32) (i : Nat) : Int32 := m i <<< ((24 : Int32) &&& 31) ||| m (i + 1) <<< ((16 : Int32) &&& 31) ||| m (i + 2) <<< ((8 : Int32) &&& 31) ||| m (i + 3)
theorem sm_wb_4 (f : Nat → Int32) (u : Nat) (w : Int32) : upd (upd (upd (upd f u (sm_us w 24 &&& 255)) (u + 1) (sm_us w 16 &&& 255)) (u + 1 + 1) (sm_us w 8 &&& 255)) (u + 1 + 1 + 1) (sm_us w 0 &&& 255) = sm_ap f u (sm_wb w) 4 := by
  have h := sm_ap_s f u (sm_wb w)
  rw [← h 3, ← h 2, ← h 1, ← h 0, sm_ap_0]
  rfl
/-- what Row.at answers -/
def sm_at (f : Nat → Int32) (k : Nat) (i : Int32) : Int32 := if i < 0 ∨ nI k ≤ i then -1 else f i.toNatClampNeg
theorem sm_at_in {f : Nat → Int32} {k j : Nat} (h : j < k) (hk : k < 2 ^ 31) : sm_at f k (nI j) = f j := by
  unfold sm_at
  rw [if_neg, nI_clamp (by omega)]
  intro q
  rcases q with q | q
  · exact nI_pos (by omega) q
  · exact nI_ge h hk q
theorem sm_min {a b : Nat} (ha : a < 2 ^ 31) (hb : b < 2 ^ 31) : (if nI b < nI a then nI b else nI a) = nI (min a b) := by
  by_cases h : b < a
  · rw [if_pos (nI_lt h ha), Nat.min_eq_right (Nat.le_of_lt h)]
  · rw [if_neg (nI_nlt (Nat.le_of_not_lt h) hb), Nat.min_eq_left (Nat.le_of_not_lt h)]
/-- moved round, as the library does it -/
def sm_rr (x y : Int32) : Int32 := sm_us x y ||| x <<< (-y &&& 31)
