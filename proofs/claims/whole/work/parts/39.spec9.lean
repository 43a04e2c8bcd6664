/-! the class's plan -/
theorem f_sm_hd (B : Nat → Int32) (a : Nat) : ∀ n, f_sm B a (n + 1) = B a + f_sm B (a + 1) n := by
  intro n
  induction n with
  | zero => simp [f_sm]
  | succ n ih =>
    rw [f_sm, ih, f_sm, Int32.add_assoc, show a + (n + 1) = a + 1 + n by omega]
theorem f_sm_cg {B B' : Nat → Int32} {a : Nat} : ∀ n, (∀ i, a ≤ i → i < a + n → B i = B' i) → f_sm B a n = f_sm B' a n := by
  intro n
  induction n with
  | zero => intro _; rfl
  | succ n ih => intro h; rw [f_sm, f_sm, ih (fun i x y => h i x (by omega)), h (a + n) (by omega) (by omega)]
theorem f_sm_up (B : Nat → Int32) (a m : Nat) (x : Int32) : ∀ n, a ≤ m → m < a + n → f_sm (fun i => if i = m then B m + x else B i) a n = f_sm B a n + x := by
  intro n
  induction n with
  | zero => intro h1 h2; omega
  | succ n ih =>
    intro h1 h2
    rw [f_sm, f_sm]
    by_cases h : a + n = m
    · rw [if_pos h, f_sm_cg (B' := B) n (fun i p q => by rw [if_neg (by omega)]), h, Int32.add_assoc]
    · rw [if_neg h, ih h1 (by omega), Int32.add_assoc, Int32.add_assoc, Int32.add_comm x]
theorem n_cv_0 {L : Nat} {N : cr_M} : ∀ q, ∀ i, q ≤ i → i < 16 → n_cv L N q 3 i = 0 := by
  intro q
  induction q with
  | zero => intro i h1 h2; simp [n_cv, n_z, h2]
  | succ q ih => intro i h1 h2; rw [n_cv, cr_rd, if_neg (by omega), ih i (by omega) h2]
/-- what is there, before the quarter's own lack -/
theorem p_th {L q : Nat} {N : cr_M} (h1 : 1 ≤ L) (hq : q < 16) : f_sm (n_cv L N q 3) (q - L) (q - (q - L)) - (if L ≤ q then n_cv L N q 3 (q - L) else 0) = f_sm (n_cv L N q 3) (q + 1 - L) (q + 1 - (q + 1 - L)) := by
  rw [show q + 1 - (q + 1 - L) = (q - (q + 1 - L)) + 1 by omega, f_sm, n_cv_0 q (q + 1 - L + (q - (q + 1 - L))) (by omega) (by omega), Int32.add_zero]
  by_cases h : L ≤ q
  · rw [if_pos h, show q - (q - L) = (q - (q + 1 - L)) + 1 by omega, f_sm_hd, show q - L + 1 = q + 1 - L by omega, Int32.add_comm, Int32.add_sub_cancel]
  · rw [if_neg h, show q - L = 0 by omega, show q + 1 - L = 0 by omega, Int32.sub_zero]
theorem p_tn {L q : Nat} {N : cr_M} (h1 : 1 ≤ L) (hL : L < 17) (hq : q < 16) : f_sm (n_cv L N q 3) (q + 1 - L) (q + 1 - (q + 1 - L)) + n_cvl L (N 2 q) (n_cv L N q 3) q = f_sm (n_cv L N (q + 1) 3) (q + 1 - L) (q + 1 - (q + 1 - L)) := by
  rw [← f_sm_up (n_cv L N q 3) (q + 1 - L) (min q (16 - L)) _ _ (by omega) (by omega)]
  refine f_sm_cg _ (fun i a b => ?_)
  rw [n_cv, cr_rd]
  by_cases h : i = min q (16 - L)
  · rw [if_pos h, if_pos ⟨rfl, h⟩]
  · rw [if_neg h, if_neg (fun z => h z.2)]
def p_z (j : Nat) (S : cr_M) : cr_M := fun q i => if q = 2 ∧ i < j then 0 else S q i
def p_cv (L : Nat) (S N : cr_M) (q : Nat) : cr_M := fun c i => if c = 2 ∧ i < 16 then n_cv L N q 3 i else S c i
theorem p_z16 (L : Nat) (S N : cr_M) : p_z 16 S = p_cv L S N 0 := by
  funext c i
  unfold p_z p_cv
  by_cases h : c = 2 ∧ i < 16
  · rw [if_pos h, if_pos h, n_cv_0 0 i (by omega) h.2]
  · rw [if_neg h, if_neg h]
theorem p_cv_s {L q : Nat} {S N : cr_M} (hq : q < 16) : p_cv L S N (q + 1) = cr_up (p_cv L S N q) 2 (min q (16 - L)) (p_cv L S N q 2 (min q (16 - L)) + n_cvl L (N 2 q) (n_cv L N q 3) q) := by
  funext c i
  rw [cr_rd]
  have hm : min q (16 - L) < 16 := by omega
  by_cases h : c = 2 ∧ i = min q (16 - L)
  · rw [if_pos h]
    unfold p_cv
    rw [if_pos ⟨h.1, by omega⟩, if_pos ⟨rfl, hm⟩, n_cv, cr_rd, if_pos ⟨rfl, h.2⟩]
  · rw [if_neg h]
    unfold p_cv
    by_cases h' : c = 2 ∧ i < 16
    · rw [if_pos h', if_pos h', n_cv, cr_rd, if_neg (fun z => h ⟨h'.1, z.2⟩)]
    · rw [if_neg h', if_neg h']
theorem p_cvC : ∀ q, q < 16 → ∀ L, L < 17 → (nI q < nI L ↔ q < L) ∧ (L ≤ q → nI q - nI L = nI (q - L)) := by decide +kernel
