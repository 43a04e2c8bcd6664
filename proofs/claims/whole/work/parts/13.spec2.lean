/-! the calls' rows: cells 0 .. 12 -/
def c_add (M : cr_M) (cn : Nat) (kd ow : Int32) : cr_M := cr_up (cr_up (cr_up (cr_up (cr_up M 2 cn kd) 3 cn ow) 11 cn (-9)) 12 cn (-9)) 0 0 (nI cn + 1)
def c_desc (M : cr_M) (c : Nat) (s l p : Int32) : cr_M := cr_up (cr_up (cr_up M 4 c s) 5 c l) 6 c p
def c_wait (M : cr_M) (c : Nat) (t : Int32) : cr_M := cr_up (cr_up (cr_up M 1 c 0) 8 c t) 9 c (-9)
def c_back (M : cr_M) (c : Nat) (t : Int32) : cr_M := cr_up (cr_up M 1 c 4) 10 c t
def c_start (M : cr_M) (c : Nat) (h t e : Int32) : cr_M :=
  if M 11 c < 0 then cr_up (cr_up (cr_up (cr_up (cr_up M 1 c 1) 9 c h) 10 c e) 12 c (t - M 8 c)) 11 c (t - M 8 c)
  else cr_up (cr_up (cr_up (cr_up M 1 c 1) 9 c h) 10 c e) 12 c (t - M 8 c)
def c_ring (cn : Nat) (t : Int32) (M : cr_M) : cr_M := fun q i => if q = 1 ∧ i < cn ∧ M 1 i = 4 ∧ M 10 i ≤ t then 0 else if q = 8 ∧ i < cn ∧ M 1 i = 4 ∧ M 10 i ≤ t then t else if q = 9 ∧ i < cn ∧ M 1 i = 4 ∧ M 10 i ≤ t then -9 else M q i
def c_lose (cn : Nat) (t : Int32) (M : cr_M) : cr_M := fun q i => if q = 1 ∧ i < cn ∧ M 1 i = 0 ∧ M 6 i < t - M 8 i then 3 else M q i
def c_nc (M : cr_M) (c : Nat) (t p : Int32) : Int32 :=
  if M 1 c = 1 ∨ M 1 c = 4 then M 10 c else if M 1 c = 0 then
    (if M 2 c = 1 ∧ t < M 8 c + p then (if M 8 c + p < M 8 c + M 6 c + 1 then M 8 c + p else M 8 c + M 6 c + 1) else M 8 c + M 6 c + 1)
  else 2147483647
def c_fw (M : cr_M) (h : Int32) : Nat → Nat → Int32
  | 0, _ => -9
  | n + 1, j => if M 1 j = 1 ∧ M 9 j = h then nI j else c_fw M h n (j + 1)
def c_gw (M : cr_M) (x : Int32) : Nat → Int32
  | 0 => 0
  | j + 1 => if 0 ≤ M 11 j ∧ M 11 j ≤ x then c_gw M x j + 1 else c_gw M x j
def c_cd (M : cr_M) (x : Int32) : Nat → Int32
  | 0 => 0
  | j + 1 => if M 1 j = x then c_cd M x j + 1 else c_cd M x j
def c_cpy (cn : Nat) (M : cr_M) : cr_M := fun q i => if q = 0 ∧ i = 0 then M 13 0 else if 1 ≤ q ∧ q ≤ 12 ∧ i < cn then M (13 + q) i else M q i
