/-! the helpers' picture: the class's rows (cells 0 .. 8) beside the reference's memory N -/
theorem g_get : ∀ g, g < 256 → ∀ s, s < 4 → (nI g >>> (2 * nI s &&& 31)) &&& 3 = nI (g / 4 ^ s % 4) := by decide +kernel
theorem g_set : ∀ g, g < 256 → ∀ s, s < 4 → ∀ v, v < 4 → (nI g &&& (3 <<< (2 * nI s &&& 31) ^^^ -1) ||| nI v <<< (2 * nI s &&& 31)) = nI (g - g / 4 ^ s % 4 * 4 ^ s + v * 4 ^ s) := by decide +kernel
theorem g_set2 : ∀ g, g < 256 → ∀ s, s < 4 → ∀ v, v < 4 → g - g / 4 ^ s % 4 * 4 ^ s + v * 4 ^ s < 256 ∧ ∀ t, t < 4 → (g - g / 4 ^ s % 4 * 4 ^ s + v * 4 ^ s) / 4 ^ t % 4 = if t = s then v else g / 4 ^ t % 4 := by decide +kernel
def f_bit (x : Int32) : Int32 :=
  let a := x - ((x.toUInt32 >>> ((1 : Int32).toUInt32 &&& Int32.toUInt32 31)).toInt32 &&& 1431655765)
  let b := (a &&& 858993459) + ((a.toUInt32 >>> ((2 : Int32).toUInt32 &&& Int32.toUInt32 31)).toInt32 &&& 858993459)
  let c := (b + (b.toUInt32 >>> ((4 : Int32).toUInt32 &&& Int32.toUInt32 31)).toInt32) &&& 252645135
  let d := c + (c.toUInt32 >>> ((8 : Int32).toUInt32 &&& Int32.toUInt32 31)).toInt32
  let e := d + (d.toUInt32 >>> ((16 : Int32).toUInt32 &&& Int32.toUInt32 31)).toInt32
  e &&& 63
def g_cnt (g : Nat) : Nat := (if g % 4 = 0 then 0 else 1) + (if g / 4 % 4 = 0 then 0 else 1) + (if g / 16 % 4 = 0 then 0 else 1) + (if g / 64 % 4 = 0 then 0 else 1)
theorem g_bit : ∀ g, g < 256 → f_bit ((nI g ||| nI g >>> (1 &&& 31)) &&& 85) = nI (g_cnt g) := by decide +kernel
/-- one helper: the class's rows and the reference's -/
def r_h1 (H N : cr_M) (k : Nat) : Prop := (∃ g, g < 256 ∧ H 1 k = nI g ∧ ∀ s, s < 4 → N 4 (4 * k + s) = nI (g / 4 ^ s % 4)) ∧ H 2 k = N 5 k ∧ H 3 k = N 6 k ∧ H 4 k = N 22 k ∧ N 24 k = bI (H 5 k = 3) ∧ H 6 k = N 8 k ∧ H 7 k = N 9 k ∧ H 8 k = N 7 k
def r_H (hn : Nat) (H N : cr_M) : Prop := hn ≤ 10 ∧ H 0 0 = nI hn ∧ ∀ k, k < hn → r_h1 H N k
/-- could helper k take a call of sort s (w: a written one) -/
def s_cT (N : cr_M) (k s : Nat) (w : Int32) : Prop := ¬ N 4 (4 * k + s) = 0 ∧ (N 5 k = 1 ∨ (¬ w = 0 ∧ N 5 k = 2 ∧ ¬ N 24 k = 0 ∧ N 22 k < 3))
/-- of how many sorts a grade -/
noncomputable def s_so (N : cr_M) (k : Nat) : Int32 := bI (0 < N 4 (4 * k)) + bI (0 < N 4 (4 * k + 1)) + bI (0 < N 4 (4 * k + 2)) + bI (0 < N 4 (4 * k + 3))
def s_ah (N : cr_M) (s h o : Nat) : Prop :=
  (¬ N 4 (4 * h + s) = N 4 (4 * o + s) ∧ N 4 (4 * o + s) < N 4 (4 * h + s)) ∨
  (N 4 (4 * h + s) = N 4 (4 * o + s) ∧ ((¬ s_so N h = s_so N o ∧ s_so N h < s_so N o) ∨
   (s_so N h = s_so N o ∧ ((¬ N 5 h = N 5 o ∧ N 5 h = 1) ∨ (N 5 h = N 5 o ∧ N 6 h < N 6 o)))))
theorem g_pos : ∀ g, g < 256 → ∀ s, s < 4 → (0 < nI (g / 4 ^ s % 4) ↔ ¬ g / 4 ^ s % 4 = 0) := by decide +kernel
theorem s_so_g {N : cr_M} {k g : Nat} (hg : g < 256) (h : ∀ s, s < 4 → N 4 (4 * k + s) = nI (g / 4 ^ s % 4)) : s_so N k = nI (g_cnt g) := by
  have b : ∀ s, s < 4 → bI (0 < N 4 (4 * k + s)) = nI (if g / 4 ^ s % 4 = 0 then 0 else 1) := by
    intro s hs
    rw [h s hs]
    by_cases hz : g / 4 ^ s % 4 = 0
    · rw [bI_f (by rw [g_pos g hg s hs]; exact fun q => q hz), if_pos hz]; rfl
    · rw [bI_t ((g_pos g hg s hs).mpr hz), if_neg hz]; rfl
  have b0 := b 0 (by omega)
  have b1 := b 1 (by omega)
  have b2 := b 2 (by omega)
  have b3 := b 3 (by omega)
  unfold s_so g_cnt
  rw [show 4 * k = 4 * k + 0 from rfl, b0, b1, b2, b3, nI_add, nI_add, nI_add]
  simp
theorem g_sub4 : ∀ a, a < 4 → ∀ b, b < 4 → ((nI a - nI b = 0 ↔ nI a = nI b) ∧ (0 < nI a - nI b ↔ nI b < nI a)) := by decide +kernel
theorem g_sub5 : ∀ a, a < 5 → ∀ b, b < 5 → ((nI a - nI b = 0 ↔ nI a = nI b) ∧ (nI a - nI b < 0 ↔ nI a < nI b)) := by decide +kernel
theorem g_cnt5 : ∀ g, g < 256 → g_cnt g < 5 := by decide +kernel
def h_take (M : cr_M) (k : Nat) (w t : Int32) : cr_M := cr_up (cr_up (cr_up (cr_up M 4 k (M 4 k + 1)) 5 k w) 2 k 2) 3 k t
def h_let (M : cr_M) (k : Nat) (t : Int32) : cr_M := cr_up (cr_up (cr_up M 4 k (M 4 k - 1)) 2 k (if 0 < M 4 k - 1 then 2 else 1)) 3 k t
def h_busy (hn : Nat) (x : Int32) (M : cr_M) : cr_M := fun q i => if q = 7 ∧ i < hn ∧ M 2 i = 2 then M 7 i + x else M q i
def h_brk (hn : Nat) (t : Int32) (M : cr_M) : cr_M := fun q i => if q = 2 ∧ i < hn ∧ M 2 i = 3 ∧ M 8 i ≤ t then 1 else if q = 3 ∧ i < hn ∧ M 2 i = 3 ∧ M 8 i ≤ t then t else M q i
def h_nb (M : cr_M) : Nat → Int32
  | 0 => 2147483647
  | j + 1 => if M 2 j = 3 then (if M 8 j < h_nb M j then M 8 j else h_nb M j) else h_nb M j
def h_cf (M : cr_M) : Nat → Int32
  | 0 => 0
  | j + 1 => if M 2 j = 1 then h_cf M j + 1 else h_cf M j
def h_add (M : cr_M) (hn : Nat) (g t : Int32) : cr_M := cr_up (cr_up (cr_up (cr_up M 1 hn g) 2 hn 0) 3 hn t) 0 0 (nI hn + 1)
def h_cpy (hn : Nat) (M : cr_M) : cr_M := fun q i => if q = 0 ∧ i = 0 then M 9 0 else if 1 ≤ q ∧ q ≤ 8 ∧ i < hn then M (9 + q) i else M q i
