/-! what the reference's memory N means: pure functions on it (hn helpers, cn calls) -/
theorem bI_congr {p q : Prop} (h : p ↔ q) : bI p = bI q := by rw [propext h]
abbrev n_s (N : cr_M) (c : Nat) : Nat := (N 11 c).toNatClampNeg
def n_may (N : cr_M) (k c : Nat) : Prop := N 16 c = 0 ∧ ¬ N 4 (4 * k + n_s N c) = 0 ∧ (N 5 k = 1 ∨ (N 5 k = 2 ∧ N 10 c = 3 ∧ ¬ N 24 k = 0 ∧ N 22 k < 3)) ∧ (¬ N 10 c = 1 ∨ N 0 7 ≤ N 0 3 - N 17 c ∨ N 15 c = nI k)
def n_tk (hn : Nat) (N : cr_M) (c : Nat) : Prop := ∃ k, k < hn ∧ n_may N k c
noncomputable def n_ff (N : cr_M) (s : Nat) : Nat → Int32
  | 0 => 0
  | k + 1 => n_ff N s k + bI (N 5 k = 1 ∧ 0 < N 4 (4 * k + s))
noncomputable def n_rk (hn : Nat) (N : cr_M) (c : Nat) : Int32 :=
  if N 0 6 = 1 then (if N 10 c = 2 then 0 else 1) else if N 0 6 = 2 then n_ff N (n_s N c) hn else if N 0 6 = 3 then N 13 c - (N 0 3 - N 17 c) else 0
/-- of those with P the one that no later one passes by lt -/
noncomputable def s_fo (P : Nat → Prop) (lt : Nat → Nat → Prop) : Nat → Option Nat
  | 0 => none
  | j + 1 => @ite _ (P j ∧ ∀ b, s_fo P lt j = some b → lt j b) (Classical.propDecidable _) (some j) (s_fo P lt j)
theorem s_fo_t {P : Nat → Prop} {lt : Nat → Nat → Prop} {j : Nat} (h : P j) (h2 : ∀ b, s_fo P lt j = some b → lt j b) : s_fo P lt (j + 1) = some j := by
  rw [s_fo, if_pos ⟨h, h2⟩]
theorem s_fo_f {P : Nat → Prop} {lt : Nat → Nat → Prop} {j : Nat} (h : ¬ (P j ∧ ∀ b, s_fo P lt j = some b → lt j b)) : s_fo P lt (j + 1) = s_fo P lt j := by
  rw [s_fo, if_neg h]
theorem s_fo_lt {P : Nat → Prop} {lt : Nat → Nat → Prop} {j b : Nat} (h : s_fo P lt j = some b) : b < j ∧ P b := by
  induction j with
  | zero => cases h
  | succ j ih =>
    by_cases hc : P j ∧ ∀ b, s_fo P lt j = some b → lt j b
    · rw [s_fo_t hc.1 hc.2] at h
      cases h
      exact ⟨by omega, hc.1⟩
    · rw [s_fo_f hc] at h
      obtain ⟨h1, h2⟩ := ih h
      exact ⟨by omega, h2⟩
theorem s_fo_none {P : Nat → Prop} {lt : Nat → Nat → Prop} {n : Nat} (h : s_fo P lt n = none) : ∀ i, i < n → ¬ P i := by
  induction n with
  | zero => intro i hi; omega
  | succ n ih =>
    intro i hi
    by_cases hc : P n ∧ ∀ b, s_fo P lt n = some b → lt n b
    · rw [s_fo_t hc.1 hc.2] at h
      cases h
    · rw [s_fo_f hc] at h
      rcases Nat.lt_or_ge i n with q | q
      · exact ih h i q
      · have hi2 : i = n := by omega
        subst hi2
        intro hp
        exact hc ⟨hp, fun b hb => by rw [h] at hb; cases hb⟩
theorem s_fo_congr {P P' : Nat → Prop} {lt lt' : Nat → Nat → Prop} {n : Nat} (hP : ∀ i, i < n → (P i ↔ P' i)) (hl : ∀ i b, i < n → b < i → P i → P b → (lt i b ↔ lt' i b)) : s_fo P lt n = s_fo P' lt' n := by
  induction n with
  | zero => rfl
  | succ n ih =>
    have e := ih (fun i hi => hP i (by omega)) (fun i b hi hb => hl i b (by omega) hb)
    by_cases hc : P n ∧ ∀ b, s_fo P lt n = some b → lt n b
    · rw [s_fo_t hc.1 hc.2, s_fo_t ((hP n (by omega)).mp hc.1) (fun b hb => by
        rw [← e] at hb
        have q := s_fo_lt hb
        exact (hl n b (by omega) q.1 hc.1 q.2).mp (hc.2 b hb))]
    · rw [s_fo_f hc, s_fo_f (fun q => hc ⟨(hP n (by omega)).mpr q.1, fun b hb => by
        have q2 := s_fo_lt hb
        rw [e] at hb
        exact (hl n b (by omega) q2.1 ((hP n (by omega)).mpr q.1) q2.2).mpr (q.2 b hb)⟩)]
      exact e
def s_oi (d : Int32) (x : Option Nat) : Int32 := match x with
  | none => d
  | some k => nI k
noncomputable def n_nx (hn cn : Nat) (N : cr_M) : Option Nat := s_fo (fun c => N 16 c = 0 ∧ n_tk hn N c) (fun a b => n_rk hn N a < n_rk hn N b) cn
noncomputable def n_hf (hn : Nat) (N : cr_M) (c : Nat) : Option Nat :=
  @ite _ (0 ≤ N 15 c ∧ n_may N (N 15 c).toNatClampNeg c) (Classical.propDecidable _) (some (N 15 c).toNatClampNeg) (s_fo (fun k => n_may N k c) (fun a b => s_ah N (n_s N c) a b) hn)
/-- what the reference's walks need of its memory -/
def n_W (hn cn : Nat) (N : cr_M) : Prop := hn ≤ 10 ∧ cn ≤ 200 ∧ N 0 4 = nI hn ∧ N 0 5 = nI cn ∧ ∀ c, c < cn → (∃ s, s < 4 ∧ N 11 c = nI s) ∧ (N 15 c = -9 ∨ ∃ k, k < hn ∧ N 15 c = nI k)
def n_ref (N : cr_M) (k : Nat) : cr_M := cr_up N 1 k (N 1 k + 1)
def n_bec (N : cr_M) (k : Nat) (w : Int32) : cr_M := cr_up (cr_up N 5 k w) 6 k (N 0 3)
def n_los (N : cr_M) (k : Nat) : cr_M := n_bec (cr_up N 22 k (N 22 k - 1)) k (if N 22 k - 1 = 0 then 1 else 2)
theorem e_ialdV {Y : cr_Y} {pc : Nat} {lv : List (Nat × cr_AV)} {st : List cr_AV} {M : cr_M} {r : Option cr_AV × cr_M} {n q j : Nat} (v : Int32) (hd : decode (cr_by Y) pc = .ok (.iaload, 1)) (hsh : (cr_sh Y)[q]? = some (.inr (n, false))) (hj : j < n) (hn : n < 2 ^ 31) (hv : M q j = v) (k : cr_Ev Y (pc + 1) lv (.inl v :: st) M r) : cr_Ev Y pc lv (.inl (nI j) :: .inr (.inr q) :: st) M r :=
  e_ialdN hd hsh hj hn (hv ▸ k)
