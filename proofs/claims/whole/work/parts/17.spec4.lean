/-! giving, and a tick, on the reference's memory -/
noncomputable def n_g1 (N : cr_M) (c k : Nat) : cr_M := fun q i =>
  if q = 20 ∧ i = c then N 0 3 - N 17 c else if q = 21 ∧ i = c ∧ N 21 c = -9 then N 0 3 - N 17 c else if q = 16 ∧ i = c then 1 else if q = 18 ∧ i = c then nI k
  else if q = 19 ∧ i = c then N 0 3 + (N 12 c * (5 - N 4 (4 * k + n_s N c)) + 3) / 4 else if q = 22 ∧ i = k then N 22 k + 1 else if q = 24 ∧ i = k then bI (N 10 c = 3)
  else if q = 5 ∧ i = k then 2 else if q = 6 ∧ i = k then N 0 3 else N q i
noncomputable def n_gv (hn cn : Nat) : Nat → cr_M → cr_M
  | 0, N => N
  | m + 1, N => match n_nx hn cn N with
    | none => N
    | some c => match n_hf hn N c with
      | none => N
      | some k => n_gv hn cn m (n_g1 N c k)
def n_cw (N : cr_M) : Nat → Nat
  | 0 => 0
  | j + 1 => n_cw N j + (if N 16 j = 0 then 1 else 0)
theorem n_cw_le (N : cr_M) (j : Nat) : n_cw N j ≤ j := by
  induction j with
  | zero => exact Nat.le_refl _
  | succ j ih => rw [n_cw]; split <;> omega
theorem n_cw_pos {N : cr_M} {c j : Nat} (hc : c < j) (h : N 16 c = 0) : 0 < n_cw N j := by
  induction j with
  | zero => omega
  | succ j ih =>
    rw [n_cw]
    rcases Nat.lt_or_ge c j with q | q
    · have := ih q; omega
    · have e : c = j := by omega
      subst e
      rw [if_pos h]; omega
theorem n_g1_16 (N : cr_M) (c k i : Nat) : n_g1 N c k 16 i = if i = c then 1 else N 16 i := by
  unfold n_g1; simp
theorem n_cw_g1 {N : cr_M} {c k j : Nat} (h : N 16 c = 0) : n_cw (n_g1 N c k) j = if c < j then n_cw N j - 1 else n_cw N j := by
  induction j with
  | zero => rw [if_neg (by omega)]; rfl
  | succ j ih =>
    rw [n_cw, n_cw, ih, n_g1_16]
    by_cases hj : j = c
    · subst hj
      rw [if_neg (Nat.lt_irrefl _), if_pos (Nat.lt_succ_self _), if_pos rfl, if_pos h, if_neg (by decide)]
      omega
    · rw [if_neg hj]
      rcases Nat.lt_or_ge c j with q | q
      · have hp := n_cw_pos q h
        rw [if_pos q, if_pos (show c < j + 1 by omega)]
        split <;> omega
      · rw [if_neg (show ¬ c < j by omega), if_neg (show ¬ c < j + 1 by omega)]
theorem n_hf_some {hn cn : Nat} {N : cr_M} {c : Nat} (hW : n_W hn cn N) (hc : c < cn) (h : n_tk hn N c) : ∃ k, k < hn ∧ n_hf hn N c = some k ∧ n_may N k c := by
  unfold n_hf
  by_cases ho : 0 ≤ N 15 c ∧ n_may N (N 15 c).toNatClampNeg c
  · rw [if_pos ho]
    rcases (hW.2.2.2.2 c hc).2 with e | ⟨k, hk, e⟩
    · rw [e] at ho; exact absurd ho.1 (by decide)
    · rw [e, nI_clamp (by have := hW.1; omega)] at ho ⊢
      exact ⟨k, hk, rfl, ho.2⟩
  · rw [if_neg ho]
    rcases hf : s_fo (fun k => n_may N k c) (fun a b => s_ah N (n_s N c) a b) hn with _ | k
    · obtain ⟨i, hi, hm⟩ := h
      exact absurd hm (s_fo_none hf i hi)
    · have q := s_fo_lt hf
      exact ⟨k, q.1, rfl, q.2⟩
theorem n_nx_some {hn cn : Nat} {N : cr_M} {c : Nat} (h : n_nx hn cn N = some c) : c < cn ∧ N 16 c = 0 ∧ n_tk hn N c := by
  have q := s_fo_lt h
  exact ⟨q.1, q.2.1, q.2.2⟩
theorem n_W_of {hn cn : Nat} {N N' : cr_M} (h : n_W hn cn N) (h4 : N' 0 4 = N 0 4) (h5 : N' 0 5 = N 0 5) (h11 : ∀ c, c < cn → N' 11 c = N 11 c) (h15 : ∀ c, c < cn → N' 15 c = N 15 c) : n_W hn cn N' := by
  obtain ⟨a, b, c, d, e⟩ := h
  refine ⟨a, b, h4.trans c, h5.trans d, fun i hi => ?_⟩
  rw [h11 i hi, h15 i hi]
  exact e i hi
theorem n_W_g1 {hn cn : Nat} {N : cr_M} {c k : Nat} (h : n_W hn cn N) : n_W hn cn (n_g1 N c k) :=
  n_W_of h rfl rfl (fun _ _ => rfl) (fun _ _ => rfl)
def n_busy (hn : Nat) (x : Int32) (N : cr_M) : cr_M := fun q i => if q = 9 ∧ i < hn ∧ N 5 i = 2 then N 9 i + x else N q i
def n_tick (N : cr_M) : cr_M := cr_up N 0 3 (N 0 3 + 1)
def n_e1 (N : cr_M) (c k : Nat) : cr_M := n_los (cr_up (cr_up (cr_up N 16 c 2) 19 c (-9)) 8 k (N 8 k + 1)) k
def n_ec (N : cr_M) : Nat → cr_M
  | 0 => N
  | j + 1 => if n_ec N j 16 j = 1 ∧ n_ec N j 19 j ≤ n_ec N j 0 3 then n_e1 (n_ec N j) j (n_ec N j 18 j).toNatClampNeg else n_ec N j
def n_ecn (N : cr_M) : Nat → Int32
  | 0 => 0
  | j + 1 => if n_ec N j 16 j = 1 ∧ n_ec N j 19 j ≤ n_ec N j 0 3 then n_ecn N j + 1 else n_ecn N j
def n_brk (hn : Nat) (N : cr_M) : cr_M := fun q i => if q = 5 ∧ i < hn ∧ N 5 i = 3 ∧ N 7 i ≤ N 0 3 then 1 else if q = 6 ∧ i < hn ∧ N 5 i = 3 ∧ N 7 i ≤ N 0 3 then N 0 3 else N q i
def n_ring (cn : Nat) (N : cr_M) : cr_M := fun q i => if q = 16 ∧ i < cn ∧ N 16 i = 4 ∧ N 19 i ≤ N 0 3 then 0 else if q = 17 ∧ i < cn ∧ N 16 i = 4 ∧ N 19 i ≤ N 0 3 then N 0 3 else if q = 19 ∧ i < cn ∧ N 16 i = 4 ∧ N 19 i ≤ N 0 3 then -9 else N q i
def n_lose (cn : Nat) (N : cr_M) : cr_M := fun q i => if q = 16 ∧ i < cn ∧ N 16 i = 0 ∧ N 13 i < N 0 3 - N 17 i then 3 else N q i
/-- which cells ending a call may change -/
theorem n_e1_out {N : cr_M} {c k q i : Nat} (h16 : ¬ q = 16) (h19 : ¬ q = 19) (h8 : ¬ q = 8) (h22 : ¬ q = 22) (h5 : ¬ q = 5) (h6 : ¬ q = 6) : n_e1 N c k q i = N q i := by
  simp [n_e1, n_los, n_bec, cr_rd, h16, h19, h8, h22, h5, h6]
theorem n_e1_16 {N : cr_M} {c k i : Nat} : n_e1 N c k 16 i = if i = c then 2 else N 16 i := by
  simp [n_e1, n_los, n_bec, cr_rd]
theorem n_ec_out {N : cr_M} {q i : Nat} (h16 : ¬ q = 16) (h19 : ¬ q = 19) (h8 : ¬ q = 8) (h22 : ¬ q = 22) (h5 : ¬ q = 5) (h6 : ¬ q = 6) : ∀ j, n_ec N j q i = N q i := by
  intro j
  induction j with
  | zero => rfl
  | succ j ih =>
    rw [n_ec]
    split
    · rw [n_e1_out h16 h19 h8 h22 h5 h6, ih]
    · exact ih
theorem n_ec_16 {N : cr_M} : ∀ (j i : Nat), j ≤ i → n_ec N j 16 i = N 16 i := by
  intro j
  induction j with
  | zero => intro i _; rfl
  | succ j ih =>
    intro i hi
    rw [n_ec]
    split
    · rw [n_e1_16, if_neg (by omega), ih i (by omega)]
    · exact ih i (by omega)
theorem vnar_0 : vp_nar .boolean 0 = 0 := rfl
theorem vnar_1 : vp_nar .boolean 1 = 1 := rfl
theorem vnar_b (p : Prop) : vp_nar .boolean (bI p) = bI p := by
  rcases bI_01 p with h | h <;> rw [h] <;> rfl
