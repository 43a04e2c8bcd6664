/-! what the reference's methods answer and leave behind -/
def n_hg (hn j : Nat) (b : Int32) (N : cr_M) : cr_M := fun q i => if q = 4 ∧ 4 * hn ≤ i ∧ i < 4 * hn + j then (b >>> (2 * nI (i - 4 * hn) &&& 31)) &&& 3 else N q i
def n_hadd (hn : Nat) (b : Int32) (N : cr_M) : cr_M := cr_up (cr_up (n_hg hn 4 b N) 6 hn (N 0 3)) 0 4 (nI hn + 1)
def m_helper (hn : Nat) (N : cr_M) (b : Int32) : Int32 × cr_M := if b < 0 then (-4, n_ref N 4) else if 255 < b ∨ hn = 10 then (-6, n_ref N 6) else (nI hn, n_hadd hn b N)
def m_grade (N : cr_M) (k s : Nat) (g : Int32) : Int32 × cr_M := if g < 0 then (-4, n_ref N 4) else if 3 < g then (-6, n_ref N 6) else (N 4 (4 * k + s), cr_up N 4 (4 * k + s) g)
def m_duty (N : cr_M) (k : Nat) : Int32 × cr_M := if N 5 k = 0 then (1, n_bec N k 1) else (-2, n_ref N 2)
def m_out (N : cr_M) (k : Nat) : Int32 × cr_M := if N 5 k = 1 ∨ N 5 k = 3 then (1, n_bec N k 0) else (-2, n_ref N 2)
def m_pause (N : cr_M) (k : Nat) (n : Int32) : Int32 × cr_M := if N 5 k = 1 then (if n < 1 then (-4, n_ref N 4) else if 5000 < n then (-6, n_ref N 6) else (N 0 3 + n, cr_up (n_bec N k 3) 7 k (N 0 3 + n))) else (-2, n_ref N 2)
def n_cadd (cn : Nat) (k s l p o : Int32) (N : cr_M) : cr_M := cr_up (cr_up (cr_up (cr_up (cr_up (cr_up (cr_up (cr_up (cr_up (cr_up (cr_up (cr_up (cr_up N 0 5 (nI cn + 1)) 10 cn k) 11 cn s) 12 cn l) 13 cn p) 14 cn (N 0 3)) 15 cn (if k = 1 then o else -9)) 16 cn 0) 17 cn (N 0 3)) 18 cn (-9)) 19 cn (-9)) 20 cn (-9)) 21 cn (-9)
def m_call (cn : Nat) (N : cr_M) (k s l p o : Int32) : Int32 × cr_M :=
  if ¬ (0 ≤ k ∧ k < 4) ∨ ¬ (0 ≤ s ∧ s < 4) ∨ (k = 1 ∧ ¬ (0 ≤ o ∧ o < N 0 4)) then (-1, n_ref N 1) else if l < 1 ∨ p < 0 then (-4, n_ref N 4) else if 1000 < l ∨ 5000 < p ∨ cn = 200 then (-6, n_ref N 6) else (nI cn, n_cadd cn k s l p o N)
def m_rule (N : cr_M) (r : Int32) : Int32 × cr_M := if 0 ≤ r ∧ r < 4 then (N 0 6, cr_up N 0 6 r) else (-1, n_ref N 1)
def m_prefer (N : cr_M) (n : Int32) : Int32 × cr_M := if n < 0 then (-4, n_ref N 4) else if 1000 < n then (-6, n_ref N 6) else (N 0 7, cr_up N 0 7 n)
def m_ring (N : cr_M) (c : Nat) (n : Int32) : Int32 × cr_M := if N 16 c = 0 then (if n < 1 then (-4, n_ref N 4) else if 5000 < n then (-6, n_ref N 6) else (N 0 3 + n, cr_up (cr_up N 16 c 4) 19 c (N 0 3 + n))) else (-2, n_ref N 2)
def n_pass (N : cr_M) (c : Nat) (s l : Int32) (k : Nat) : cr_M := n_los (cr_up (cr_up (cr_up (cr_up (cr_up (cr_up N 16 c 0) 11 c s) 12 c l) 17 c (N 0 3)) 18 c (-9)) 19 c (-9)) k
def m_pass (N : cr_M) (c : Nat) (s l : Int32) : Int32 × cr_M := if N 16 c = 1 then (if l < 1 then (-4, n_ref N 4) else if 1000 < l then (-6, n_ref N 6) else (N 18 c, n_pass N c s l (N 18 c).toNatClampNeg)) else (-2, n_ref N 2)
def m_leave (N : cr_M) (c : Nat) : Int32 × cr_M := if N 16 c = 0 ∨ N 16 c = 4 then (1, cr_up (cr_up N 16 c 3) 19 c (-9)) else (-2, n_ref N 2)
def m_urge (N : cr_M) (c : Nat) : Int32 × cr_M := if N 16 c = 0 ∧ ¬ N 10 c = 2 ∧ ¬ N 10 c = 3 then (1, cr_up (cr_up N 10 c 2) 15 c (-9)) else (-2, n_ref N 2)
def m_want (N : cr_M) (q : Nat) (n : Int32) : Int32 × cr_M := if n < 0 then (-4, n_ref N 4) else if 50 < n then (-6, n_ref N 6) else (N 2 q, cr_up N 2 q n)
/-- how many were given within n -/
noncomputable def n_wi (N : cr_M) (n : Int32) : Nat → Int32
  | 0 => 0
  | j + 1 => n_wi N n j + bI (¬ N 21 j = -9 ∧ N 21 j ≤ n)
noncomputable def m_within (cn : Nat) (N : cr_M) (n : Int32) : Int32 × cr_M := if n < 0 then (-4, n_ref N 4) else (n_wi N n cn, N)
noncomputable def n_is (N : cr_M) (s : Int32) : Nat → Int32
  | 0 => 0
  | j + 1 => n_is N s j + bI (N 16 j = s)
noncomputable def n_fr (N : cr_M) : Nat → Int32
  | 0 => 0
  | j + 1 => n_fr N j + bI (N 5 j = 1)
/-- the chance table -/
def f_l1 (b : Int64) (ld : Int32) (k : Nat) : Int64 := ld.toInt64 * b * 1048576 / (100 * (nI k).toInt64 * 1048576 + ld.toInt64 * b)
def f_l (ld : Int32) : Nat → Int64
  | 0 => 1048576
  | k + 1 => f_l1 (f_l ld k) ld (k + 1)
/-- the divisor is above 0 -/
def f_ok (ld : Int32) (n : Nat) : Prop := ∀ k, k < n → ¬ 100 * (nI (k + 1)).toInt64 * 1048576 + ld.toInt64 * f_l ld k = 0
