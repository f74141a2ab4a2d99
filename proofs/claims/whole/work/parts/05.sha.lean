/-! the hash, as mathematics over rows (functions with a length) -/
def sm_s0 (x : Int32) : Int32 := sm_rr x 7 ^^^ sm_rr x 18 ^^^ sm_us x 3
def sm_s1 (x : Int32) : Int32 := sm_rr x 17 ^^^ sm_rr x 19 ^^^ sm_us x 10
def sm_S (x a b c : Int32) : Int32 := sm_rr x a ^^^ sm_rr x b ^^^ sm_rr x c
/-- the schedule's array behind t steps, w being there at first -/
def sm_sc (m : Nat → Int32) (s : Nat) (w : Nat → Int32) : Nat → Nat → Int32
  | 0 => w
  | t + 1 => upd (sm_sc m s w t) t (if t < 16 then sm_wd m (s + 4 * t) else sm_sc m s w t (t - 16) + sm_s0 (sm_sc m s w t (t - 15)) + sm_sc m s w t (t - 7) + sm_s1 (sm_sc m s w t (t - 2)))
def sm_W (m : Nat → Int32) (s : Nat) : Nat → Int32 := sm_sc m s (fun _ => 0) 64
theorem sm_sc_congr {m m' : Nat → Int32} {s : Nat} {w w' : Nat → Int32} (hm : ∀ j, s ≤ j → j < s + 64 → m j = m' j) : ∀ t j, j < t → sm_sc m s w t j = sm_sc m' s w' t j := by
  intro t
  induction t with
  | zero => intro j h; omega
  | succ t ih =>
    intro j h
    show upd (sm_sc m s w t) t _ j = upd (sm_sc m' s w' t) t _ j
    unfold upd
    by_cases e : j = t
    · rw [if_pos e, if_pos e]
      by_cases h16 : t < 16
      · rw [if_pos h16, if_pos h16]
        unfold sm_wd
        rw [hm _ (by omega) (by omega), hm _ (by omega) (by omega), hm _ (by omega) (by omega), hm _ (by omega) (by omega)]
      · rw [if_neg h16, if_neg h16, ih (t - 16) (by omega), ih (t - 15) (by omega), ih (t - 7) (by omega), ih (t - 2) (by omega)]
    · rw [if_neg e, if_neg e]
      exact ih j (by omega)
theorem sm_W_congr {m m' : Nat → Int32} {s : Nat} (hm : ∀ j, s ≤ j → j < s + 64 → m j = m' j) : ∀ j, j < 64 → sm_W m s j = sm_W m' s j := sm_sc_congr hm 64
abbrev sm_T8 : Type := Int32 × Int32 × Int32 × Int32 × Int32 × Int32 × Int32 × Int32
def sm_t1 (e f g h k w : Int32) : Int32 := h + sm_S e 6 11 25 + (e &&& f ^^^ (e ^^^ (-1)) &&& g) + k + w
def sm_t2 (a b c : Int32) : Int32 := sm_S a 2 13 22 + (a &&& b ^^^ a &&& c ^^^ b &&& c)
def sm_rd (k w : Int32) (x : sm_T8) : sm_T8 := match x with
  | (a, b, c, d, e, f, g, h) => (sm_t1 e f g h k w + sm_t2 a b c, a, b, c, d + sm_t1 e f g h k w, e, f, g)
def sm_rds (w : Nat → Int32) : Nat → sm_T8 → sm_T8
  | 0, x => x
  | t + 1, x => sm_rd (sm_K t) (w t) (sm_rds w t x)
theorem sm_rds_congr {w w' : Nat → Int32} (x : sm_T8) : ∀ t, (∀ j, j < t → w j = w' j) → sm_rds w t x = sm_rds w' t x := by
  intro t
  induction t with
  | zero => intro _; rfl
  | succ t ih =>
    intro h
    show sm_rd _ _ _ = sm_rd _ _ _
    rw [ih (fun j hj => h j (by omega)), h t (by omega)]
def sm_o8 (x : sm_T8) (j : Nat) : Int32 := match x with
  | (a, b, c, d, e, f, g, h) => match j with
    | 0 => a
    | 1 => b
    | 2 => c
    | 3 => d
    | 4 => e
    | 5 => f
    | 6 => g
    | _ => h
def sm_i8 (H : Nat → Int32) : sm_T8 := (H 0, H 1, H 2, H 3, H 4, H 5, H 6, H 7)
/-- one block: the state's words behind it -/
def sm_cp (w H : Nat → Int32) : Nat → Int32 := fun j => H j + sm_o8 (sm_rds w 64 (sm_i8 H)) j
theorem sm_cp_congr {w w' H H' : Nat → Int32} (hw : ∀ j, j < 64 → w j = w' j) (hH : ∀ j, j < 8 → H j = H' j) : ∀ j, j < 8 → sm_cp w H j = sm_cp w' H' j := by
  intro j hj
  unfold sm_cp
  have e : sm_i8 H = sm_i8 H' := by
    unfold sm_i8
    rw [hH 0 (by omega), hH 1 (by omega), hH 2 (by omega), hH 3 (by omega), hH 4 (by omega), hH 5 (by omega), hH 6 (by omega), hH 7 (by omega)]
  rw [hH j hj, e, sm_rds_congr _ 64 hw]
def sm_hs (m : Nat → Int32) : Nat → Nat → Int32
  | 0 => sm_F
  | b + 1 => sm_cp (sm_W m (64 * b)) (sm_hs m b)
theorem sm_hs_congr {m m' : Nat → Int32} : ∀ b, (∀ j, j < 64 * b → m j = m' j) → ∀ j, j < 8 → sm_hs m b j = sm_hs m' b j := by
  intro b
  induction b with
  | zero => intro _ j _; rfl
  | succ b ih =>
    intro h
    exact sm_cp_congr (sm_W_congr (fun j h1 h2 => h j (by omega))) (ih (fun j hj => h j (by omega)))
/-- blocks of a row of n bytes, padded -/
def sm_nb (n : Nat) : Nat := (n + 8) / 64 + 1
def sm_pm (m : Nat → Int32) (n : Nat) : Nat → Int32 := fun j => if j < n then m j else if j = n then 128 else if j < 64 * sm_nb n - 4 then 0 else sm_wb (nI (8 * n)) (j - (64 * sm_nb n - 4))
theorem sm_pm_congr {m m' : Nat → Int32} {n : Nat} (h : ∀ j, j < n → m j = m' j) : sm_pm m n = sm_pm m' n := by
  funext j
  unfold sm_pm
  by_cases e : j < n
  · rw [if_pos e, if_pos e, h j e]
  · rw [if_neg e, if_neg e]
/-- THE HASH of the n bytes m: its 32 bytes -/
def sm_sha (m : Nat → Int32) (n : Nat) : Nat → Int32 := fun j => sm_wb (sm_hs (sm_pm m n) (sm_nb n) (j / 4)) (j % 4)
theorem sm_sha_congr {m m' : Nat → Int32} {n : Nat} (h : ∀ j, j < n → m j = m' j) : sm_sha m n = sm_sha m' n := by
  unfold sm_sha
  rw [sm_pm_congr h]
/-- two rows, one behind the other -/
def sm_cat (f : Nat → Int32) (a : Nat) (g : Nat → Int32) : Nat → Int32 := fun j => if j < a then f j else g (j - a)
theorem sm_cat_lo {f g : Nat → Int32} {a j : Nat} (h : j < a) : sm_cat f a g j = f j := if_pos h
theorem sm_cat_hi {f g : Nat → Int32} {a j : Nat} (h : a ≤ j) : sm_cat f a g j = g (j - a) := if_neg (by omega)
/-- the key as the keyed hash has it: 64 bytes -/
def sm_kb (k : Nat → Int32) (n : Nat) : Nat → Int32 := fun j => if 64 < n then (if j < 32 then sm_sha k n j else 0) else (if j < n then k j else 0)
theorem sm_kb_congr {k k' : Nat → Int32} {n : Nat} (h : ∀ j, j < n → k j = k' j) : sm_kb k n = sm_kb k' n := by
  funext j
  unfold sm_kb
  rw [sm_sha_congr h]
  by_cases e : 64 < n
  · rw [if_pos e, if_pos e]
  · rw [if_neg e, if_neg e]
    by_cases e2 : j < n
    · rw [if_pos e2, if_pos e2, h j e2]
    · rw [if_neg e2, if_neg e2]
def sm_out (kb d : Nat → Int32) : Nat → Int32 := sm_sha (sm_cat (fun j => kb j ^^^ 92) 64 d) 96
/-- THE KEYED HASH of the key k of kn bytes and the n bytes m -/
def sm_hm (k : Nat → Int32) (kn : Nat) (m : Nat → Int32) (n : Nat) : Nat → Int32 := sm_out (sm_kb k kn) (sm_sha (sm_cat (fun j => sm_kb k kn j ^^^ 54) 64 m) (64 + n))
theorem sm_out_congr {kb kb' d d' : Nat → Int32} (h1 : ∀ j, j < 64 → kb j = kb' j) (h2 : ∀ j, j < 32 → d j = d' j) : sm_out kb d = sm_out kb' d' := by
  unfold sm_out
  apply sm_sha_congr
  intro j hj
  by_cases e : j < 64
  · rw [sm_cat_lo e, sm_cat_lo e, h1 j e]
  · rw [sm_cat_hi (by omega), sm_cat_hi (by omega), h2 _ (by omega)]
theorem sm_hm_congr {k k' m m' : Nat → Int32} {kn n : Nat} (hk : ∀ j, j < kn → k j = k' j) (hm : ∀ j, j < n → m j = m' j) : sm_hm k kn m n = sm_hm k' kn m' n := by
  unfold sm_hm
  rw [sm_kb_congr hk]
  refine congrArg (sm_out (sm_kb k' kn)) (sm_sha_congr (fun j hj => ?_))
  by_cases e : j < 64
  · rw [sm_cat_lo e, sm_cat_lo e]
  · rw [sm_cat_hi (by omega), sm_cat_hi (by omega), hm _ (by omega)]
