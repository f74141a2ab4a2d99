/-! ===== Int32 by its bits: bt x i ===== -/
def bt (x : Int32) (i : Nat) : Bool := x.toBitVec.getLsbD i
theorem b_ext {x y : Int32} (h : ∀ i, i < 32 → bt x i = bt y i) : x = y := Int32.toBitVec_inj.mp (BitVec.eq_of_getLsbD_eq (fun i hi => h i hi))
theorem b_or (x y : Int32) (i : Nat) : bt (x ||| y) i = (bt x i || bt y i) := by unfold bt; rw [Int32.toBitVec_or, BitVec.getLsbD_or]
theorem b_and (x y : Int32) (i : Nat) : bt (x &&& y) i = (bt x i && bt y i) := by unfold bt; rw [Int32.toBitVec_and, BitVec.getLsbD_and]
theorem b_xor (x y : Int32) (i : Nat) : bt (x ^^^ y) i = (bt x i ^^ bt y i) := by unfold bt; rw [Int32.toBitVec_xor, BitVec.getLsbD_xor]
theorem b_big {x : Int32} {i : Nat} (h : 32 ≤ i) : bt x i = false := BitVec.getLsbD_of_ge _ _ h
theorem b_255 (i : Nat) : bt 255 i = decide (i < 8) := by
  rcases Nat.lt_or_ge i 32 with h | h
  · exact (by decide +kernel : ∀ i, i < 32 → bt 255 i = decide (i < 8)) i h
  · rw [b_big h, decide_eq_false (by omega)]
theorem b_65535 (i : Nat) : bt 65535 i = decide (i < 16) := by
  rcases Nat.lt_or_ge i 32 with h | h
  · exact (by decide +kernel : ∀ i, i < 32 → bt 65535 i = decide (i < 16)) i h
  · rw [b_big h, decide_eq_false (by omega)]
theorem b_m1 : ∀ i, i < 32 → bt (-1) i = true := by decide +kernel
theorem b_0 (i : Nat) : bt 0 i = false := BitVec.getLsbD_zero
theorem s_l : ∀ n, n < 32 → ((nI n &&& 31).toBitVec.smod 32).toNat = n := by decide +kernel
theorem s_u : ∀ n, n < 32 → (((nI n).toUInt32 &&& Int32.toUInt32 31).toBitVec % 32).toNat = n := by decide +kernel
theorem b_shl (n : Nat) (hn : n < 32) (x : Int32) {i : Nat} (hi : i < 32) : bt (x <<< (nI n &&& 31)) i = (decide (n ≤ i) && bt x (i - n)) := by
  unfold bt
  rw [Int32.toBitVec_shiftLeft]
  show (x.toBitVec <<< ((nI n &&& 31).toBitVec.smod 32).toNat).getLsbD i = _
  rw [s_l n hn, BitVec.getLsbD_shiftLeft]
  rcases Nat.lt_or_ge i n with h | h
  · simp [h, Nat.not_le.mpr h]
  · simp [hi, h, Nat.not_lt.mpr h]
theorem b_ushr (n : Nat) (hn : n < 32) (x : Int32) (i : Nat) : bt ((x.toUInt32 >>> ((nI n).toUInt32 &&& Int32.toUInt32 31)).toInt32) i = bt x (n + i) := by
  show (x.toUInt32 >>> ((nI n).toUInt32 &&& Int32.toUInt32 31)).toBitVec.getLsbD i = x.toUInt32.toBitVec.getLsbD (n + i)
  rw [UInt32.toBitVec_shiftRight]
  show (x.toUInt32.toBitVec >>> (((nI n).toUInt32 &&& Int32.toUInt32 31).toBitVec % 32).toNat).getLsbD i = _
  rw [s_u n hn, BitVec.getLsbD_ushiftRight]
theorem b_sshr (n : Nat) (hn : n < 32) (x : Int32) {i : Nat} (hi : i < 32) : bt (x >>> (nI n &&& 31)) i = if n + i < 32 then bt x (n + i) else bt x 31 := by
  unfold bt
  rw [Int32.toBitVec_shiftRight]
  show (x.toBitVec.sshiftRight ((nI n &&& 31).toBitVec.smod 32).toNat).getLsbD i = _
  rw [s_l n hn, BitVec.getLsbD_sshiftRight, BitVec.msb_eq_getLsbD_last]
  simp [hi]
/-! bytes, and the shifts of the reference -/
def sm_by (x : Int32) : Prop := x &&& 255 = x
theorem sm_by_and (x : Int32) : sm_by (x &&& 255) := by
  apply b_ext
  intro i hi
  rw [b_and, b_and, b_255]
  cases bt x i <;> cases decide (i < 8) <;> rfl
theorem sm_by_xor {x y : Int32} (hx : sm_by x) (hy : sm_by y) : sm_by (x ^^^ y) := by
  apply b_ext
  intro i hi
  have h1 : bt (x &&& 255) i = bt x i := congrArg (fun z => bt z i) hx
  have h2 : bt (y &&& 255) i = bt y i := congrArg (fun z => bt z i) hy
  rw [b_and] at h1 h2
  rw [b_and, b_xor, ← h1, ← h2]
  cases bt x i <;> cases bt y i <;> cases bt 255 i <;> rfl
theorem sm_sh (x : Int32) {s : Nat} (h : s ≤ 24) : x >>> (nI s &&& 31) &&& 255 = sm_us x (nI s) &&& 255 := by
  apply b_ext
  intro i hi
  rw [b_and, b_and, b_255, b_sshr s (by omega) x hi]
  unfold sm_us
  rw [b_ushr s (by omega)]
  by_cases q : i < 8
  · rw [if_pos (by omega)]
  · simp [q]
theorem sm_64s : ∀ s, s < 64 → (((nI s).toInt64 &&& 63).toBitVec.smod 64).toNat = s := by decide +kernel
theorem sm_64u : ∀ s, s < 64 → (((nI s).toInt64.toUInt64 &&& Int64.toUInt64 63).toBitVec % 64).toNat = s := by decide +kernel
theorem sm_64b : ∀ i, i < 32 → (255 : Int64).toBitVec.getLsbD i = decide (i < 8) := by decide +kernel
theorem sm_fe (x : Int64) {s : Nat} (h : s ≤ 56) : Int64.toInt32 (sm_lsr x (nI s) &&& 255) = Int64.toInt32 (sm_lus x (nI s)) &&& 255 := by
  apply b_ext
  intro i hi
  rw [b_and, b_255]
  have t : ∀ y : Int64, bt (Int64.toInt32 y) i = y.toBitVec.getLsbD i := by
    intro y
    unfold bt
    rw [Int64.toBitVec_toInt32, BitVec.getLsbD_signExtend]
    simp [hi, show i < 64 by omega]
  rw [t, t, Int64.toBitVec_and, BitVec.getLsbD_and, sm_64b i hi]
  have a : (sm_lsr x (nI s)).toBitVec.getLsbD i = if s + i < 64 then x.toBitVec.getLsbD (s + i) else x.toBitVec.getLsbD 63 := by
    unfold sm_lsr
    rw [Int64.toBitVec_shiftRight]
    show (x.toBitVec.sshiftRight (((nI s).toInt64 &&& 63).toBitVec.smod 64).toNat).getLsbD i = _
    rw [sm_64s s (by omega), BitVec.getLsbD_sshiftRight, BitVec.msb_eq_getLsbD_last]
    simp [show i < 64 by omega]
  have b : (sm_lus x (nI s)).toBitVec.getLsbD i = x.toBitVec.getLsbD (s + i) := by
    unfold sm_lus
    show (x.toUInt64 >>> ((nI s).toInt64.toUInt64 &&& Int64.toUInt64 63)).toBitVec.getLsbD i = x.toUInt64.toBitVec.getLsbD (s + i)
    rw [UInt64.toBitVec_shiftRight]
    show (x.toUInt64.toBitVec >>> (((nI s).toInt64.toUInt64 &&& Int64.toUInt64 63).toBitVec % 64).toNat).getLsbD i = _
    rw [sm_64u s (by omega), BitVec.getLsbD_ushiftRight]
  by_cases q : i < 8
  · rw [a, b, if_pos (by omega)]
  · simp [q]
theorem sm_sha_by (m : Nat → Int32) (n j : Nat) : sm_by (sm_sha m n j) := sm_by_and _
theorem sm_hm_by (k : Nat → Int32) (kn : Nat) (m : Nat → Int32) (n j : Nat) : sm_by (sm_hm k kn m n j) := sm_sha_by _ _ _
/-- the reference's length bytes -/
def sm_lb (n j : Nat) : Int32 := if j < 4 then 0 else nI (8 * n) >>> (nI (56 - 8 * j) &&& 31) &&& 255
theorem sm_lb_lo {n j : Nat} (h : j < 4) : sm_lb n j = 0 := if_pos h
theorem sm_lb_hi {n j : Nat} (h : 4 ≤ j) : sm_lb n j = nI (8 * n) >>> (nI (56 - 8 * j) &&& 31) &&& 255 := if_neg (by omega)
theorem sm_padM (f : Nat → Int32) (n z : Nat) (hz : z = 64 * ((n + 1 + 7) / 64) + 56 - (n + 1)) : ∀ j, j < 64 * sm_nb n → sm_ap (sm_ap (upd f n 128) (n + 1) (fun _ => 0) z) (n + 1 + z) (sm_lb n) 8 j = sm_pm f n j := by
  intro j hj
  have hb : 64 * sm_nb n = n + 1 + z + 8 := by unfold sm_nb; omega
  unfold sm_pm
  rw [hb]
  by_cases h1 : j < n
  · rw [sm_ap_lo (by omega), sm_ap_lo (by omega), if_pos h1, pk_un (by omega)]
  · rw [if_neg h1]
    by_cases h2 : j = n
    · rw [if_pos h2, sm_ap_lo (by omega), sm_ap_lo (by omega), h2, pk_us]
    · rw [if_neg h2]
      by_cases h4 : j < n + 1 + z
      · rw [if_pos (by omega), sm_ap_lo h4]
        obtain ⟨i, rfl⟩ : ∃ i, j = n + 1 + i := ⟨j - (n + 1), by omega⟩
        rw [sm_ap_hi (by omega)]
      · obtain ⟨i, rfl⟩ : ∃ i, j = n + 1 + z + i := ⟨j - (n + 1 + z), by omega⟩
        rw [sm_ap_hi (by omega)]
        by_cases h5 : i < 4
        · rw [if_pos (by omega), sm_lb_lo h5]
        · rw [if_neg (by omega), sm_lb_hi (by omega), sm_sh _ (by omega)]
          unfold sm_wb
          rw [show n + 1 + z + i - (n + 1 + z + 8 - 4) = i - 4 by omega, show 24 - 8 * (i - 4) = 56 - 8 * i by omega]
/-- the digest as the reference reads it off the state's words -/
def sm_dm (H : Nat → Int32) : Nat → Int32 := fun j => H (j / 4) >>> (nI (24 - 8 * (j % 4)) &&& 31) &&& 255
theorem sm_dm_sha {f m m' : Nat → Int32} {n : Nat} (h : ∀ j, j < 64 * sm_nb n → m' j = sm_pm m n j) : ∀ j, j < 32 → sm_ap f 0 (sm_dm (sm_hs m' (sm_nb n))) 32 j = sm_sha m n j := by
  intro j hj
  rw [sm_ap_z hj]
  unfold sm_dm sm_sha sm_wb
  rw [sm_hs_congr (sm_nb n) h (j / 4) (by omega), sm_sh _ (by omega)]
/-- rows that are bytes stay as they are under the mask -/
theorem sm_ap_by {f g : Nat → Int32} {u e : Nat} (h : ∀ j, j < e → sm_by (g j)) : sm_ap f u (fun j => g j &&& 255) e = sm_ap f u g e := sm_ap_congr (fun j hj => h j hj)
theorem sm_kb32 (k : Nat → Int32) : ∀ j, j < 64 → (if j < 32 then k j else 0) = sm_kb k 32 j := by
  intro j _
  unfold sm_kb
  rw [if_neg (show ¬ 64 < 32 by decide)]
theorem sm_kb_by {k : Nat → Int32} {n : Nat} (h : ∀ j, j < n → sm_by (k j)) : ∀ j, sm_by (sm_kb k n j) := by
  intro j
  unfold sm_kb
  by_cases q : 64 < n
  · rw [if_pos q]
    by_cases q2 : j < 32
    · rw [if_pos q2]; exact sm_sha_by _ _ _
    · rw [if_neg q2]; rfl
  · rw [if_neg q]
    by_cases q2 : j < n
    · rw [if_pos q2]; exact h j q2
    · rw [if_neg q2]; rfl
theorem sm_ap_s0 (f g : Nat → Int32) (i : Nat) : upd (sm_ap f 0 g i) i (g i) = sm_ap f 0 g (i + 1) := by
  have := sm_ap_s f 0 g i
  rwa [Nat.zero_add] at this
theorem sm_outM {f kb d : Nat → Int32} : sm_sha (sm_ap (sm_ap f 0 (fun j => kb j ^^^ 92) 64) (0 + 64) d 32) (0 + 64 + 32) = sm_out kb d := by
  unfold sm_out
  refine sm_sha_congr (fun j hj => ?_)
  by_cases q : j < 64
  · rw [sm_ap_lo (by omega), sm_ap_z q, sm_cat_lo q]
  · obtain ⟨i, rfl⟩ : ∃ i, j = 0 + 64 + i := ⟨j - 64, by omega⟩
    rw [sm_ap_hi (by omega), sm_cat_hi (by omega), show 0 + 64 + i - 64 = i by omega]
theorem sm_vs_by {k v : Nat → Int32} (h : ∀ j, j < 32 → sm_by (v j)) (t : Nat) : ∀ j, j < 32 → sm_by (sm_vs k v t j) := by
  cases t with
  | zero => exact h
  | succ t => exact fun j _ => sm_hm_by _ _ _ _ _
theorem sm_st_by1 {x : (Nat → Int32) × (Nat → Int32)} {i : Nat → Int32} {n : Nat} (j : Nat) : sm_by ((sm_stir x i n).1 j) := by
  unfold sm_stir
  by_cases h : n = 0
  · rw [if_pos h]; exact sm_hm_by _ _ _ _ _
  · rw [if_neg h]; exact sm_hm_by _ _ _ _ _
theorem sm_st_by2 {x : (Nat → Int32) × (Nat → Int32)} {i : Nat → Int32} {n : Nat} (j : Nat) : sm_by ((sm_stir x i n).2 j) := by
  unfold sm_stir
  by_cases h : n = 0
  · rw [if_pos h]; exact sm_hm_by _ _ _ _ _
  · rw [if_neg h]; exact sm_hm_by _ _ _ _ _
theorem sm_st_lo {k i : Int32} {f g : Nat → Int32} (h : k < 0) : (if k = 0 then sm_at f 32 i else if k = 1 then sm_at g 32 i else -1) = -1 := by
  rw [if_neg (fun q => by rw [q] at h; exact absurd h (by decide)), if_neg (fun q => by rw [q] at h; exact absurd h (by decide))]
theorem sm_st_hi {k i : Int32} {f g : Nat → Int32} (h : 1 < k) : (if k = 0 then sm_at f 32 i else if k = 1 then sm_at g 32 i else -1) = -1 := by
  rw [if_neg (fun q => by rw [q] at h; exact absurd h (by decide)), if_neg (fun q => by rw [q] at h; exact absurd h (by decide))]
theorem sm_st_no {k i : Int32} {f g : Nat → Int32} (h : i < 0 ∨ nI 32 ≤ i) : (if k = 0 then sm_at f 32 i else if k = 1 then sm_at g 32 i else -1) = -1 := by
  unfold sm_at
  rw [if_pos h, if_pos h]
  by_cases a : k = 0
  · rw [if_pos a]
  · rw [if_neg a]
    by_cases b : k = 1
    · rw [if_pos b]
    · rw [if_neg b]
theorem sm_st_1 {k : Int32} (h0 : ¬ k < 0) (h1 : ¬ 1 < k) (h2 : ¬ k = 0) : k = 1 := by
  obtain ⟨j, hj, rfl⟩ := nI_of2 (x := k) (M := 1) (n := 1) rfl h0 (Int32.not_lt.mp h1)
  rcases (show j = 0 ∨ j = 1 by omega) with q | q
  · subst q; exact absurd rfl h2
  · subst q; rfl
