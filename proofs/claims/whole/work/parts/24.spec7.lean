/-! the chance table over Nat -/
def f_n (l : Nat) : Nat → Nat
  | 0 => 1048576
  | k + 1 => l * f_n l k * 1048576 / (100 * (k + 1) * 1048576 + l * f_n l k)
theorem f_n_le {l : Nat} (hl : l ≤ 10000) : ∀ k, f_n l k ≤ 1048576 := by
  intro k
  induction k with
  | zero => exact Nat.le_refl _
  | succ k ih =>
    rw [f_n]
    apply Nat.div_le_of_le_mul
    have h1 : l * f_n l k * 1048576 ≤ (100 * (k + 1) * 1048576 + l * f_n l k) * 1048576 := Nat.mul_le_mul_right _ (Nat.le_add_left _ _)
    omega
theorem f_div {l k : Nat} (hl : l ≤ 10000) (hk : k < 1000) : 100 * (nI (k + 1)).toInt64 * 1048576 + (nI l).toInt64 * lN (f_n l k) = lN (100 * (k + 1) * 1048576 + l * f_n l k) ∧ 0 < 100 * (k + 1) * 1048576 + l * f_n l k ∧ 100 * (k + 1) * 1048576 + l * f_n l k < 2 ^ 62 := by
  have h1 := f_n_le hl k
  have h2 : l * f_n l k ≤ 10000 * 1048576 := Nat.mul_le_mul hl h1
  refine ⟨?_, by omega, by omega⟩
  rw [nI_l (by omega), nI_l (by omega), show (100 : Int64) = lN 100 from rfl, show (1048576 : Int64) = lN 1048576 from rfl, lN_mul, lN_mul, lN_mul, lN_add]
theorem f_l_n {l : Nat} (hl : l ≤ 10000) : ∀ k, k ≤ 1000 → f_l (nI l) k = lN (f_n l k) := by
  intro k
  induction k with
  | zero => intro _; rfl
  | succ k ih =>
    intro hk
    obtain ⟨d1, d2, d3⟩ := f_div (k := k) hl (by omega)
    have h1 := f_n_le hl k
    have h2 : l * f_n l k ≤ 10000 * 1048576 := Nat.mul_le_mul hl h1
    have e2 : (nI l).toInt64 * lN (f_n l k) * 1048576 = lN (l * f_n l k * 1048576) := by
      rw [nI_l (by omega), lN_mul]
      exact lN_mul (l * f_n l k) 1048576
    have h3 : l * f_n l k * 1048576 < 2 ^ 63 := by
      have : l * f_n l k * 1048576 ≤ 10000 * 1048576 * 1048576 := Nat.mul_le_mul_right _ h2
      exact Nat.lt_of_le_of_lt this (by decide)
    have h4 : 100 * (k + 1) * 1048576 + l * f_n l k < 2 ^ 63 := Nat.lt_trans d3 (by decide)
    show f_l1 (f_l (nI l) k) (nI l) (k + 1) = _
    rw [ih (by omega)]
    unfold f_l1
    rw [d1, e2, pk_lDiv h3 d2 h4]
    rfl
theorem f_ok_n {l n : Nat} (hl : l ≤ 10000) (hn : n ≤ 1000) : f_ok (nI l) n := by
  intro k hk
  obtain ⟨d1, d2, d3⟩ := f_div (k := k) hl (by omega)
  rw [f_l_n hl k (by omega), d1, show (0 : Int64) = lN 0 from rfl, pk_lEQ (by omega) (by omega)]
  omega
def m_loss (N : cr_M) (ld n : Int32) : Int32 × cr_M := if ld < 0 ∨ n < 0 then (-4, n_ref N 4) else if 10000 < ld ∨ 200 < n then (-6, n_ref N 6) else ((f_l ld n.toNatClampNeg).toInt32, N)
def n_wa (ld pt : Int32) : Nat → Nat → Int32
  | 0, _ => -9
  | m + 1, j => if (f_l ld j).toInt32 ≤ pt then nI j else n_wa ld pt m (j + 1)
def m_wanted (N : cr_M) (ld pt : Int32) : Int32 × cr_M := if ld < 0 ∨ pt < 0 then (-4, n_ref N 4) else if 10000 < ld ∨ 1048576 < pt then (-6, n_ref N 6) else (n_wa ld pt 201 0, N)
/-! ticks, waits -/
noncomputable def n_ti (hn cn : Nat) (N : cr_M) : Nat → cr_M
  | 0 => N
  | j + 1 => n_go hn cn (n_ti hn cn N j)
noncomputable def n_td (hn cn : Nat) (N : cr_M) : Nat → Int32
  | 0 => 0
  | j + 1 => n_td hn cn N j + n_gon hn cn (n_ti hn cn N j)
noncomputable def m_ticks (hn cn : Nat) (N : cr_M) (x : Int32) : Int32 × cr_M := if x < 1 then (-4, n_ref N 4) else if 20000 - N 0 3 < x then (-6, n_ref N 6) else (n_td hn cn N x.toNatClampNeg, n_ti hn cn N x.toNatClampNeg)
theorem n_J_ti {hn cn tk : Nat} {N : cr_M} (h : n_J hn cn tk N) : ∀ j, tk + j ≤ 21000 → n_J hn cn (tk + j) (n_ti hn cn N j) := by
  intro j
  induction j with
  | zero => intro _; exact h
  | succ j ih => intro hj; exact n_J_go (by omega) (ih (by omega))
noncomputable def n_wl (hn cn c : Nat) : Nat → Nat → cr_M → Nat × cr_M
  | 0, j, N => (j, N)
  | m + 1, j, N => if N 16 c = 0 then n_wl hn cn c m (j + 1) (n_go hn cn N) else (j, N)
def n_told (c : Nat) (z : Nat × cr_M) : Int32 := if z.2 16 c = 1 then nI z.1 else if z.2 16 c = 3 then -8 else -9
noncomputable def m_wait (hn cn : Nat) (N : cr_M) (c : Nat) : Int32 × cr_M := if N 16 c = 0 then (n_told c (n_wl hn cn c 1000 0 (n_keep hn cn N)), n_putb hn cn (n_wl hn cn c 1000 0 (n_keep hn cn N)).2) else (-2, n_ref N 2)
noncomputable def n_wM (hn cn : Nat) (N : cr_M) : cr_M := n_putb hn cn (n_gv hn cn cn (n_keep hn cn N))
noncomputable def m_who (hn cn : Nat) (N : cr_M) (c : Nat) : Int32 × cr_M := if N 16 c = 0 then (n_gv hn cn cn (n_keep hn cn N) 18 c, n_wM hn cn N) else (-2, n_ref N 2)
/-- which cells a tick may change -/
def n_ch (q : Nat) : Prop := q = 5 ∨ q = 6 ∨ q = 8 ∨ q = 9 ∨ q = 16 ∨ q = 17 ∨ q = 18 ∨ q = 19 ∨ q = 20 ∨ q = 21 ∨ q = 22 ∨ q = 24
theorem n_g1_fr {N : cr_M} {c k q i : Nat} (h : ¬ n_ch q) : n_g1 N c k q i = N q i := by
  unfold n_ch at h
  unfold n_g1
  simp only [not_or] at h
  simp [h]
theorem n_gv_fr {hn cn q i : Nat} (h : ¬ n_ch q) : ∀ (m : Nat) (N : cr_M), n_gv hn cn m N q i = N q i := by
  intro m
  induction m with
  | zero => intro N; rfl
  | succ m ih =>
    intro N
    rw [n_gv]
    rcases n_nx hn cn N with _ | c
    · rfl
    · rcases hh : n_hf hn N c with _ | k
      · simp only [hh]
      · simp only [hh]
        rw [ih, n_g1_fr h]
theorem n_go_fr {hn cn q i : Nat} {N : cr_M} (h : ¬ n_ch q) (h0 : ¬ (q = 0 ∧ i = 3)) : n_go hn cn N q i = N q i := by
  unfold n_go
  rw [n_gv_fr h]
  unfold n_ch at h
  simp only [not_or] at h
  unfold n_pg n_lose
  rw [if_neg (by simp [h])]
  unfold n_ring
  rw [if_neg (by simp [h]), if_neg (by simp [h]), if_neg (by simp [h])]
  unfold n_brk
  rw [if_neg (by simp [h]), if_neg (by simp [h]), n_ec_out (by simp [h]) (by simp [h]) (by simp [h]) (by simp [h]) (by simp [h]) (by simp [h])]
  unfold n_ev n_tick
  rw [cr_rd, if_neg h0]
  unfold n_busy
  rw [if_neg (by simp [h])]
/-- keeping changes nothing that a tick looks at -/
theorem n_keep_fr {hn cn q i : Nat} {N : cr_M} (h : q < 23 ∨ q = 24) (h0 : ¬ (q = 0 ∧ i = 30)) : n_keep hn cn N q i = N q i := by
  unfold n_keep n_k2
  rw [if_neg (by omega), if_neg (by omega), if_neg (by omega), if_neg (by omega), if_neg (by omega), if_neg (by omega)]
  unfold n_k1
  rw [if_neg (by omega), if_neg (by omega), if_neg (by omega), if_neg (by omega), if_neg (by omega), if_neg (by omega), cr_rd, if_neg h0]
theorem n_J_keep {hn cn tk : Nat} {N : cr_M} (h : n_J hn cn tk N) : n_J hn cn tk (n_keep hn cn N) := by
  have k : ∀ {q i : Nat}, (q < 23 ∨ q = 24) → ¬ (q = 0 ∧ i = 30) → n_keep hn cn N q i = N q i := fun a b => n_keep_fr a b
  obtain ⟨h1, h2, h3, h4, h5, h6, h7⟩ := h
  refine ⟨n_W_of h1 (k (by omega) (by omega)) (k (by omega) (by omega)) (fun _ _ => k (by omega) (by omega)) (fun _ _ => k (by omega) (by omega)), by rw [k (by omega) (by omega)]; exact h2, h3, by rw [k (by omega) (by omega)]; exact h4, fun i hi => ?_, fun c hc => ?_, fun i hi => ?_⟩
  · have := h5 i hi
    unfold i_h at this ⊢
    rw [k (q := 24) (by omega) (by omega), k (q := 5) (by omega) (by omega), k (q := 7) (by omega) (by omega)]
    refine ⟨this.1, fun s hs => ?_, this.2.2⟩
    rw [k (q := 4) (by omega) (by omega)]
    exact this.2.1 s hs
  · have := h6 c hc
    unfold i_c at this ⊢
    rw [k (q := 10) (by omega) (by omega), k (q := 15) (by omega) (by omega), k (q := 12) (by omega) (by omega), k (q := 13) (by omega) (by omega), k (q := 17) (by omega) (by omega), k (q := 16) (by omega) (by omega), k (q := 18) (by omega) (by omega), k (q := 19) (by omega) (by omega), k (q := 21) (by omega) (by omega)]
    exact this
  · rw [k (q := 22) (by omega) (by omega), n_ct_congr (N := n_keep hn cn N) (N' := N) (fun c _ => by rw [k (q := 16) (by omega) (by omega), k (q := 18) (by omega) (by omega)])]
    exact h7 i hi
theorem n_keep_25 {hn cn i : Nat} {N : cr_M} (hi : i < hn) : n_keep hn cn N 25 i = N 24 i := by
  unfold n_keep n_k2
  rw [if_neg (by omega), if_neg (by omega), if_neg (by omega), if_neg (by omega), if_neg (by omega), if_neg (by omega)]
  unfold n_k1
  rw [if_neg (by omega), if_neg (by omega), if_neg (by omega), if_neg (by omega), if_neg (by omega), if_pos ⟨rfl, hi⟩, cr_rd, if_neg (by omega)]
theorem n_J_B {hn cn tk : Nat} {N : cr_M} (h : n_J hn cn tk N) : ∀ i, i < hn → N 24 i = 0 ∨ N 24 i = 1 := fun i hi => (h.2.2.2.2.1 i hi).1
def n_fw (N : cr_M) (h : Int32) : Nat → Nat → Int32
  | 0, _ => -9
  | n + 1, j => if N 16 j = 1 ∧ N 18 j = h then nI j else n_fw N h n (j + 1)
def m_hof (cn : Nat) (N : cr_M) (k : Nat) (w : Int32) : Int32 :=
  if w = 0 then N 5 k else if w = 1 then N 22 k else if w = 2 then n_fw N (nI k) cn 0 else if w = 3 then N 6 k else if w = 4 then N 8 k else if w = 5 then N 9 k else if w = 6 then (if N 5 k = 3 then N 7 k else -9) else if 9 < w ∧ w < 14 then N 4 (4 * k + (w - 10).toNatClampNeg) else -9
def m_cof (N : cr_M) (c : Nat) (w : Int32) : Int32 :=
  if w = 0 then N 16 c else if w = 1 then N 10 c else if w = 2 then N 11 c else if w = 3 then N 12 c else if w = 4 then N 13 c else if w = 5 then N 14 c else if w = 6 then (if N 16 c = 1 ∨ N 16 c = 2 then N 18 c else -9) else if w = 7 then (if N 16 c = 0 then N 0 3 - N 17 c else N 20 c) else if w = 8 then N 19 c else if w = 9 then N 15 c else -9
noncomputable def m_cnt (hn cn : Nat) (N : cr_M) (w : Int32) : Int32 :=
  if 10 < w ∧ w < 17 then N 1 (w - 10).toNatClampNeg else if w = 0 then N 0 3 else if w = 1 then N 0 4 else if w = 2 then N 0 5 else if w = 3 ∨ w = 4 ∨ w = 5 ∨ w = 6 ∨ w = 7 then n_is N (w - 3) cn else if w = 8 then n_fr N hn else -9
theorem w_in {w : Int32} {a b : Nat} (hab : a < 2 ^ 31) (hbb : b < 2 ^ 31) (h1 : nI a < w) (h2 : w < nI b) : ∃ j, a < j ∧ j < b ∧ w = nI j := by
  have h0 : ¬ w < 0 := by
    have := nI_pos' hab
    grind
  obtain ⟨j, hj, rfl⟩ := nI_of h0
  exact ⟨j, (nI_ltI hab hj).mp h1, (nI_ltI hj hbb).mp h2, rfl⟩
