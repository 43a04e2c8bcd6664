/-! covering -/
def f_sm (B : Nat → Int32) (a : Nat) : Nat → Int32
  | 0 => 0
  | n + 1 => f_sm B a n + B (a + n)
def f_lk (w th : Int32) : Int32 := if 0 < w - th then w - th else 0
def n_z (j : Nat) (N : cr_M) : cr_M := fun q i => if q = 3 ∧ i < j then 0 else N q i
def n_cvl (L : Nat) (w : Int32) (B : Nat → Int32) (q : Nat) : Int32 := f_lk w (f_sm B (q + 1 - L) (q + 1 - (q + 1 - L)))
def n_cv (L : Nat) (N : cr_M) : Nat → cr_M
  | 0 => n_z 16 N
  | q + 1 => cr_up (n_cv L N q) 3 (min q (16 - L)) (n_cv L N q 3 (min q (16 - L)) + n_cvl L (N 2 q) (n_cv L N q 3) q)
def n_ca (L : Nat) (N : cr_M) : Nat → Int32
  | 0 => 0
  | q + 1 => n_ca L N q + n_cvl L (N 2 q) (n_cv L N q 3) q
def m_cover (N : cr_M) (x : Int32) : Int32 × cr_M := if x < 1 then (-4, n_ref N 4) else if 16 < x then (-6, n_ref N 6) else (n_ca x.toNatClampNeg N 16, n_cv x.toNatClampNeg N 16)
theorem cv_a : ∀ q, q < 16 → ∀ L, L < 17 → (if (0 : Int32) < nI q - nI L + 1 then nI q - nI L + 1 else 0) = nI (q + 1 - L) := by decide +kernel
theorem cv_b : ∀ q, q < 16 → ∀ L, L < 17 → (if 16 - nI L < nI q then 16 - nI L else nI q) = nI (min q (16 - L)) := by decide +kernel
theorem n_cv_2 (L : Nat) (N : cr_M) (i : Nat) : ∀ q, n_cv L N q 2 i = N 2 i := by
  intro q
  induction q with
  | zero => simp [n_cv, n_z]
  | succ q ih => rw [n_cv, cr_rd, if_neg (by omega), ih]
