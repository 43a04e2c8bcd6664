/-! what always holds of the reference's memory, and that a tick keeps it -/
def n_ct (N : cr_M) (k : Nat) : Nat → Nat
  | 0 => 0
  | j + 1 => n_ct N k j + (if N 16 j = 1 ∧ N 18 j = nI k then 1 else 0)
theorem n_ct_le (N : cr_M) (k j : Nat) : n_ct N k j ≤ j := by
  induction j with
  | zero => exact Nat.le_refl _
  | succ j ih => rw [n_ct]; split <;> omega
theorem n_ct_congr {N N' : cr_M} {k j : Nat} (h : ∀ c, c < j → ((N 16 c = 1 ∧ N 18 c = nI k) ↔ (N' 16 c = 1 ∧ N' 18 c = nI k))) : n_ct N k j = n_ct N' k j := by
  induction j with
  | zero => rfl
  | succ j ih =>
    rw [n_ct, n_ct, ih (fun c hc => h c (by omega))]
    have := h j (by omega)
    by_cases q : N 16 j = 1 ∧ N 18 j = nI k
    · rw [if_pos q, if_pos (this.mp q)]
    · rw [if_neg q, if_neg (fun z => q (this.mpr z))]
/-- one call more for k -/
theorem n_ct_one {N N' : cr_M} {k c j : Nat} (hc : c < j) (h1 : ¬ (N 16 c = 1 ∧ N 18 c = nI k)) (h2 : N' 16 c = 1 ∧ N' 18 c = nI k) (h : ∀ i, i < j → ¬ i = c → ((N 16 i = 1 ∧ N 18 i = nI k) ↔ (N' 16 i = 1 ∧ N' 18 i = nI k))) : n_ct N' k j = n_ct N k j + 1 := by
  induction j with
  | zero => omega
  | succ j ih =>
    rw [n_ct, n_ct]
    rcases Nat.lt_or_ge c j with q | q
    · rw [ih q (fun i hi => h i (by omega))]
      have := h j (by omega) (by omega)
      by_cases z : N 16 j = 1 ∧ N 18 j = nI k
      · rw [if_pos z, if_pos (this.mp z)]
      · rw [if_neg z, if_neg (fun y => z (this.mpr y))]
    · have e : c = j := by omega
      subst e
      rw [if_pos h2, if_neg h1, n_ct_congr (N := N') (N' := N) (fun i hi => (h i (by omega) (by omega)).symm)]
def i_h (N : cr_M) (d k : Nat) : Prop := (N 24 k = 0 ∨ N 24 k = 1) ∧ (∀ s, s < 4 → ∃ g, g < 4 ∧ N 4 (4 * k + s) = nI g) ∧ (N 5 k = 3 → ∃ e, d ≤ e ∧ e ≤ 30000 ∧ N 7 k = nI e)
def i_c (hn : Nat) (N : cr_M) (tk a b c : Nat) : Prop :=
  ((N 10 c = 1 ∧ ∃ k, k < hn ∧ N 15 c = nI k) ∨ (¬ N 10 c = 1 ∧ N 15 c = -9)) ∧ (∃ l, 1 ≤ l ∧ l ≤ 1000 ∧ N 12 c = nI l) ∧ (∃ p, p ≤ 5000 ∧ N 13 c = nI p) ∧ (∃ w, w ≤ tk ∧ N 17 c = nI w) ∧
  (N 16 c = 1 → (∃ k, k < hn ∧ N 18 c = nI k) ∧ ∃ e, a ≤ e ∧ e ≤ 30000 ∧ N 19 c = nI e) ∧ (N 16 c = 4 → ∃ e, b ≤ e ∧ e ≤ 30000 ∧ N 19 c = nI e) ∧
  (¬ N 16 c = 1 → ¬ N 16 c = 2 → N 18 c = -9) ∧ (¬ N 16 c = 1 → ¬ N 16 c = 4 → N 19 c = -9) ∧ (N 21 c = -9 ∨ 0 ≤ N 21 c)
def i_L (hn cn : Nat) (N : cr_M) : Prop := ∀ k, k < hn → N 22 k = nI (n_ct N k cn)
/-- the whole: tick tk; ends of calls that are ON from a on, to be rung back from b on, of breaks from d on -/
def n_I (hn cn tk b d : Nat) (a : Nat → Nat) (N : cr_M) : Prop := n_W hn cn N ∧ N 0 3 = nI tk ∧ tk ≤ 21000 ∧ (∃ p, p ≤ 1000 ∧ N 0 7 = nI p) ∧ (∀ k, k < hn → i_h N d k) ∧ (∀ c, c < cn → i_c hn N tk (a c) b c) ∧ i_L hn cn N
abbrev n_J (hn cn tk : Nat) (N : cr_M) : Prop := n_I hn cn tk (tk + 1) (tk + 1) (fun _ => tk + 1) N
theorem n_I_ON {hn cn tk b d : Nat} {a : Nat → Nat} {N : cr_M} (h : n_I hn cn tk b d a N) : n_ON hn cn N := fun c hc h1 => ((h.2.2.2.2.2.1 c hc).2.2.2.2.1 h1).1
theorem n_I_busy {hn cn tk b d : Nat} {a : Nat → Nat} {N : cr_M} {m : Nat} {x : Int32} (h : n_I hn cn tk b d a N) : n_I hn cn tk b d a (n_busy m x N) := by
  obtain ⟨h1, h2, h3, h4, h5, h6, h7⟩ := h
  refine ⟨n_W_busy h1, h2, h3, h4, h5, h6, fun k hk => ?_⟩
  rw [n_ct_congr (N := n_busy m x N) (N' := N) (fun _ _ => Iff.rfl)]
  exact h7 k hk
theorem n_I_tick {hn cn tk : Nat} {N : cr_M} (ht : tk + 1 ≤ 21000) (h : n_J hn cn tk N) : n_I hn cn (tk + 1) (tk + 1) (tk + 1) (fun _ => tk + 1) (n_tick N) := by
  obtain ⟨h1, h2, h3, h4, h5, h6, h7⟩ := h
  refine ⟨n_W_tick h1, ?_, ht, h4, h5, fun c hc => ?_, fun k hk => ?_⟩
  · show N 0 3 + 1 = _
    rw [h2, nI_1]
  · obtain ⟨c1, c2, c3, ⟨w, hw, e⟩, c5⟩ := h6 c hc
    exact ⟨c1, c2, c3, ⟨w, by omega, e⟩, c5⟩
  · rw [n_ct_congr (N := n_tick N) (N' := N) (fun _ _ => Iff.rfl)]
    exact h7 k hk
theorem n_I_e1 {hn cn tk b d : Nat} {a a' : Nat → Nat} {N : cr_M} {c k : Nat} (h : n_I hn cn tk b d a N) (hc : c < cn) (hk : k < hn) (h16 : N 16 c = 1) (h18 : N 18 c = nI k) (ha : ∀ i, ¬ i = c → a' i = a i) : n_I hn cn tk b d a' (n_e1 N c k) := by
  obtain ⟨h1, h2, h3, h4, h5, h6, h7⟩ := h
  have o : ∀ {q i : Nat}, ¬ q = 16 → ¬ q = 19 → ¬ q = 8 → ¬ q = 22 → ¬ q = 5 → ¬ q = 6 → n_e1 N c k q i = N q i := fun a1 a2 a3 a4 a5 a6 => n_e1_out a1 a2 a3 a4 a5 a6
  have e19 : ∀ i, n_e1 N c k 19 i = if i = c then -9 else N 19 i := fun i => by simp [n_e1, n_los, n_bec, cr_rd]
  have e22 : ∀ i, n_e1 N c k 22 i = if i = k then N 22 k - 1 else N 22 i := fun i => by
    by_cases hi : i = k <;> simp [n_e1, n_los, n_bec, cr_rd, hi]
  have e5 : ∀ i, n_e1 N c k 5 i = if i = k then (if N 22 k - 1 = 0 then 1 else 2) else N 5 i := fun i => by
    by_cases hi : i = k <;> simp [n_e1, n_los, n_bec, cr_rd, hi]
  refine ⟨n_W_of h1 (o (by decide) (by decide) (by decide) (by decide) (by decide) (by decide)) (o (by decide) (by decide) (by decide) (by decide) (by decide) (by decide)) (fun _ _ => o (by decide) (by decide) (by decide) (by decide) (by decide) (by decide)) (fun _ _ => o (by decide) (by decide) (by decide) (by decide) (by decide) (by decide)), (o (by decide) (by decide) (by decide) (by decide) (by decide) (by decide)).trans h2, h3, ?_, fun i hi => ?_, fun i hi => ?_, fun i hi => ?_⟩
  · rw [o (by decide) (by decide) (by decide) (by decide) (by decide) (by decide)]
    exact h4
  · obtain ⟨b1, b2, b3⟩ := h5 i hi
    refine ⟨by rw [o (by decide) (by decide) (by decide) (by decide) (by decide) (by decide)]; exact b1, fun s hs => by rw [o (by decide) (by decide) (by decide) (by decide) (by decide) (by decide)]; exact b2 s hs, fun q => ?_⟩
    rw [o (by decide) (by decide) (by decide) (by decide) (by decide) (by decide)]
    rw [e5] at q
    by_cases hi2 : i = k
    · rw [if_pos hi2] at q
      split at q <;> exact absurd q (by decide)
    · rw [if_neg hi2] at q
      exact b3 q
  · obtain ⟨c1, c2, c3, c4, c5, c6, c7, c8, c9⟩ := h6 i hi
    unfold i_c
    rw [o (q := 10) (by decide) (by decide) (by decide) (by decide) (by decide) (by decide), o (q := 15) (by decide) (by decide) (by decide) (by decide) (by decide) (by decide), o (q := 12) (by decide) (by decide) (by decide) (by decide) (by decide) (by decide), o (q := 13) (by decide) (by decide) (by decide) (by decide) (by decide) (by decide), o (q := 17) (by decide) (by decide) (by decide) (by decide) (by decide) (by decide), o (q := 18) (by decide) (by decide) (by decide) (by decide) (by decide) (by decide), o (q := 21) (by decide) (by decide) (by decide) (by decide) (by decide) (by decide), n_e1_16, e19]
    by_cases hi2 : i = c
    · subst hi2
      rw [if_pos rfl, if_pos rfl]
      exact ⟨c1, c2, c3, c4, fun q => absurd q (by decide), fun q => absurd q (by decide), fun _ q => absurd rfl q, fun _ _ => rfl, c9⟩
    · rw [if_neg hi2, if_neg hi2, ha i hi2]
      exact ⟨c1, c2, c3, c4, c5, c6, c7, c8, c9⟩
  · have e16 : ∀ z, n_e1 N c k 16 z = if z = c then 2 else N 16 z := fun z => n_e1_16
    have e18 : ∀ z, n_e1 N c k 18 z = N 18 z := fun z => o (by decide) (by decide) (by decide) (by decide) (by decide) (by decide)
    have h10 := h1.1
    rw [e22]
    by_cases hi2 : i = k
    · subst hi2
      rw [if_pos rfl, h7 i hi]
      have := n_ct_one (N := n_e1 N c i) (N' := N) hc (by rw [e16, if_pos rfl]; exact fun q => absurd q.1 (by decide)) ⟨h16, h18⟩ (fun z hz hzc => by rw [e16, e18, if_neg hzc])
      rw [this, nI_pred]
    · rw [if_neg hi2, h7 i hi, n_ct_congr (N' := n_e1 N c k) (fun z hz => ?_)]
      rw [e16, e18]
      by_cases hzc : z = c
      · subst hzc
        rw [if_pos rfl, h18]
        have : ¬ nI k = nI i := fun q => hi2 ((nI_eq (by omega) (by omega)).mp q).symm
        grind
      · rw [if_neg hzc]
theorem n_I_ec {hn cn tk b d : Nat} {N : cr_M} (h : n_I hn cn tk b d (fun _ => tk) N) : ∀ j, j ≤ cn → n_I hn cn tk b d (fun c => if c < j then tk + 1 else tk) (n_ec N j) := by
  intro j
  induction j with
  | zero => intro _; simpa [n_ec] using h
  | succ j ih =>
    intro hj
    have ih := ih (by omega)
    rw [n_ec]
    obtain ⟨h1, h2, h3, h4, h5, h6, h7⟩ := id ih
    split
    · rename_i hc
      obtain ⟨k, hk, e18⟩ := n_I_ON ih j (by omega) hc.1
      have h10 := h1.1
      rw [e18, nI_clamp (by omega)]
      exact n_I_e1 ih (by omega) hk hc.1 e18 (fun i hi => by
        by_cases q : i < j
        · rw [if_pos q, if_pos (by omega)]
        · rw [if_neg q, if_neg (by omega)])
    · rename_i hc
      refine ⟨h1, h2, h3, h4, h5, fun c hcn => ?_, h7⟩
      by_cases hcj : c = j
      · subst hcj
        obtain ⟨c1, c2, c3, c4, c5, c6, c7, c8, c9⟩ := h6 c hcn
        refine ⟨c1, c2, c3, c4, fun q => ?_, c6, c7, c8, c9⟩
        obtain ⟨g1, e, g2, g3, g4⟩ := c5 q
        refine ⟨g1, e, ?_, g3, g4⟩
        show (if c < c + 1 then tk + 1 else tk) ≤ e
        rw [if_pos (by omega)]
        have : ¬ n_ec N c 19 c ≤ n_ec N c 0 3 := fun z => hc ⟨q, z⟩
        rw [g4, h2, nI_leI (by omega) (by omega)] at this
        omega
      · have := h6 c hcn
        have e : (if c < j + 1 then tk + 1 else tk) = (if c < j then tk + 1 else tk) := by
          by_cases q : c < j
          · rw [if_pos q, if_pos (by omega)]
          · rw [if_neg q, if_neg (by omega)]
        show i_c hn (n_ec N j) tk (if c < j + 1 then tk + 1 else tk) b c
        rw [e]
        exact this
theorem n_I_brk {hn cn tk b : Nat} {a : Nat → Nat} {N : cr_M} (h : n_I hn cn tk b tk a N) : n_I hn cn tk b (tk + 1) a (n_brk hn N) := by
  obtain ⟨h1, h2, h3, h4, h5, h6, h7⟩ := h
  refine ⟨n_W_brk h1, h2, h3, h4, fun k hk => ?_, h6, fun k hk => ?_⟩
  · obtain ⟨b1, b2, b3⟩ := h5 k hk
    refine ⟨b1, b2, fun q => ?_⟩
    have q : (if 5 = 5 ∧ k < hn ∧ N 5 k = 3 ∧ N 7 k ≤ N 0 3 then (1 : Int32) else if 5 = 6 ∧ k < hn ∧ N 5 k = 3 ∧ N 7 k ≤ N 0 3 then N 0 3 else N 5 k) = 3 := q
    by_cases hc : 5 = 5 ∧ k < hn ∧ N 5 k = 3 ∧ N 7 k ≤ N 0 3
    · rw [if_pos hc] at q; exact absurd q (by decide)
    · rw [if_neg hc, if_neg (by simp)] at q
      obtain ⟨e, e1, e2, e3⟩ := b3 q
      refine ⟨e, ?_, e2, e3⟩
      have : ¬ N 7 k ≤ N 0 3 := fun z => hc ⟨rfl, hk, q, z⟩
      rw [e3, h2, nI_leI (by omega) (by omega)] at this
      omega
  · rw [n_ct_congr (N := n_brk hn N) (N' := N) (fun _ _ => Iff.rfl)]
    exact h7 k hk
theorem n_I_ring {hn cn tk d : Nat} {a : Nat → Nat} {N : cr_M} (h : n_I hn cn tk tk d a N) : n_I hn cn tk (tk + 1) d a (n_ring cn N) := by
  obtain ⟨h1, h2, h3, h4, h5, h6, h7⟩ := h
  have e16 : ∀ i, n_ring cn N 16 i = if i < cn ∧ N 16 i = 4 ∧ N 19 i ≤ N 0 3 then 0 else N 16 i := fun i => by simp [n_ring]
  have e17 : ∀ i, n_ring cn N 17 i = if i < cn ∧ N 16 i = 4 ∧ N 19 i ≤ N 0 3 then N 0 3 else N 17 i := fun i => by simp [n_ring]
  have e19 : ∀ i, n_ring cn N 19 i = if i < cn ∧ N 16 i = 4 ∧ N 19 i ≤ N 0 3 then -9 else N 19 i := fun i => by simp [n_ring]
  have o : ∀ {q i : Nat}, ¬ q = 16 → ¬ q = 17 → ¬ q = 19 → n_ring cn N q i = N q i := fun a1 a2 a3 => by simp [n_ring, a1, a2, a3]
  refine ⟨n_W_ring h1, h2, h3, h4, h5, fun c hc => ?_, fun k hk => ?_⟩
  · obtain ⟨c1, c2, c3, c4, c5, c6, c7, c8, c9⟩ := h6 c hc
    unfold i_c
    rw [e16, e17, e19, o (q := 10) (by decide) (by decide) (by decide), o (q := 15) (by decide) (by decide) (by decide), o (q := 12) (by decide) (by decide) (by decide), o (q := 13) (by decide) (by decide) (by decide), o (q := 18) (by decide) (by decide) (by decide), o (q := 21) (by decide) (by decide) (by decide)]
    by_cases hq : c < cn ∧ N 16 c = 4 ∧ N 19 c ≤ N 0 3
    · rw [if_pos hq, if_pos hq, if_pos hq]
      refine ⟨c1, c2, c3, ⟨tk, Nat.le_refl _, h2⟩, fun q => absurd q (by decide), fun q => absurd q (by decide), fun _ _ => c7 (by rw [hq.2.1]; decide) (by rw [hq.2.1]; decide), fun _ _ => rfl, c9⟩
    · rw [if_neg hq, if_neg hq, if_neg hq]
      refine ⟨c1, c2, c3, c4, c5, fun q => ?_, c7, c8, c9⟩
      obtain ⟨e, g2, g3, g4⟩ := c6 q
      refine ⟨e, ?_, g3, g4⟩
      have : ¬ N 19 c ≤ N 0 3 := fun z => hq ⟨hc, q, z⟩
      rw [g4, h2, nI_leI (by omega) (by omega)] at this
      omega
  · rw [n_ct_congr (N := n_ring cn N) (N' := N) (fun c hc => ?_)]
    · exact h7 k hk
    · rw [e16, o (q := 18) (by decide) (by decide) (by decide)]
      by_cases hq : c < cn ∧ N 16 c = 4 ∧ N 19 c ≤ N 0 3
      · rw [if_pos hq]
        constructor
        · intro z; exact absurd z.1 (by decide)
        · intro z; rw [hq.2.1] at z; exact absurd z.1 (by decide)
      · rw [if_neg hq]
theorem n_I_lose {hn cn tk b d : Nat} {a : Nat → Nat} {N : cr_M} (h : n_I hn cn tk b d a N) : n_I hn cn tk b d a (n_lose cn N) := by
  obtain ⟨h1, h2, h3, h4, h5, h6, h7⟩ := h
  have e16 : ∀ i, n_lose cn N 16 i = if i < cn ∧ N 16 i = 0 ∧ N 13 i < N 0 3 - N 17 i then 3 else N 16 i := fun i => by simp [n_lose]
  have o : ∀ {q i : Nat}, ¬ q = 16 → n_lose cn N q i = N q i := fun a1 => by simp [n_lose, a1]
  refine ⟨n_W_lose h1, h2, h3, h4, h5, fun c hc => ?_, fun k hk => ?_⟩
  · obtain ⟨c1, c2, c3, c4, c5, c6, c7, c8, c9⟩ := h6 c hc
    unfold i_c
    rw [e16, o (q := 10) (by decide), o (q := 15) (by decide), o (q := 12) (by decide), o (q := 13) (by decide), o (q := 17) (by decide), o (q := 18) (by decide), o (q := 19) (by decide), o (q := 21) (by decide)]
    by_cases hq : c < cn ∧ N 16 c = 0 ∧ N 13 c < N 0 3 - N 17 c
    · rw [if_pos hq]
      exact ⟨c1, c2, c3, c4, fun q => absurd q (by decide), fun q => absurd q (by decide), fun _ _ => c7 (by rw [hq.2.1]; decide) (by rw [hq.2.1]; decide), fun _ _ => c8 (by rw [hq.2.1]; decide) (by rw [hq.2.1]; decide), c9⟩
    · rw [if_neg hq]
      exact ⟨c1, c2, c3, c4, c5, c6, c7, c8, c9⟩
  · rw [n_ct_congr (N := n_lose cn N) (N' := N) (fun c hc => ?_)]
    · exact h7 k hk
    · rw [e16, o (q := 18) (by decide)]
      by_cases hq : c < cn ∧ N 16 c = 0 ∧ N 13 c < N 0 3 - N 17 c
      · rw [if_pos hq]
        constructor
        · intro z; exact absurd z.1 (by decide)
        · intro z; rw [hq.2.1] at z; exact absurd z.1 (by decide)
      · rw [if_neg hq]
/-- how long a call is on -/
theorem n_end {l g tk : Nat} (h1 : 1 ≤ l) (h2 : l ≤ 1000) (h3 : g < 4) (h4 : tk ≤ 21000) : nI tk + (nI l * (5 - nI g) + 3) / 4 = nI (tk + (l * (5 - g) + 3) / 4) ∧ tk + 1 ≤ tk + (l * (5 - g) + 3) / 4 ∧ tk + (l * (5 - g) + 3) / 4 ≤ 30000 := by
  have hm1 : 1 * 2 ≤ l * (5 - g) := Nat.mul_le_mul h1 (by omega)
  have hm2 : l * (5 - g) ≤ 1000 * 5 := Nat.mul_le_mul h2 (by omega)
  refine ⟨?_, by omega, by omega⟩
  rw [show (5 : Int32) = nI 5 from rfl, pk_sub (by omega), pk_mul, show (3 : Int32) = nI 3 from rfl, nI_add, show (4 : Int32) = nI 4 from rfl, pk_div (by omega) (by omega) (by omega), nI_add]
theorem n_I_g1 {hn cn tk b d : Nat} {a : Nat → Nat} {N : cr_M} {c k : Nat} (h : n_I hn cn tk b d a N) (hc : c < cn) (hk : k < hn) (h16 : N 16 c = 0) (ha : a c = tk + 1) : n_I hn cn tk b d a (n_g1 N c k) := by
  obtain ⟨h1, h2, h3, h4, h5, h6, h7⟩ := h
  have h10 := h1.1
  have e16 : ∀ i, n_g1 N c k 16 i = if i = c then 1 else N 16 i := fun i => by simp [n_g1]
  have e18 : ∀ i, n_g1 N c k 18 i = if i = c then nI k else N 18 i := fun i => by simp [n_g1]
  have e19 : ∀ i, n_g1 N c k 19 i = if i = c then N 0 3 + (N 12 c * (5 - N 4 (4 * k + n_s N c)) + 3) / 4 else N 19 i := fun i => by simp [n_g1]
  have e21 : ∀ i, n_g1 N c k 21 i = if i = c ∧ N 21 c = -9 then N 0 3 - N 17 c else N 21 i := fun i => by simp [n_g1]
  have e22 : ∀ i, n_g1 N c k 22 i = if i = k then N 22 k + 1 else N 22 i := fun i => by simp [n_g1]
  have e24 : ∀ i, n_g1 N c k 24 i = if i = k then bI (N 10 c = 3) else N 24 i := fun i => by simp [n_g1]
  have e5 : ∀ i, n_g1 N c k 5 i = if i = k then 2 else N 5 i := fun i => by simp [n_g1]
  have o : ∀ {q i : Nat}, ¬ q = 16 → ¬ q = 18 → ¬ q = 19 → ¬ q = 20 → ¬ q = 21 → ¬ q = 22 → ¬ q = 24 → ¬ q = 5 → ¬ q = 6 → n_g1 N c k q i = N q i := fun a1 a2 a3 a4 a5 a6 a7 a8 a9 => by simp [n_g1, a1, a2, a3, a4, a5, a6, a7, a8, a9]
  refine ⟨n_W_g1 h1, h2, h3, h4, fun i hi => ?_, fun i hi => ?_, fun i hi => ?_⟩
  · obtain ⟨b1, b2, b3⟩ := h5 i hi
    refine ⟨?_, b2, fun q => ?_⟩
    · rw [e24]
      by_cases hi2 : i = k
      · rw [if_pos hi2]; exact bI_01 _
      · rw [if_neg hi2]; exact b1
    · rw [e5] at q
      by_cases hi2 : i = k
      · rw [if_pos hi2] at q; exact absurd q (by decide)
      · rw [if_neg hi2] at q; exact b3 q
  · obtain ⟨c1, c2, c3, c4, c5, c6, c7, c8, c9⟩ := h6 i hi
    unfold i_c
    rw [e16, e18, e19, e21, o (q := 10) (by decide) (by decide) (by decide) (by decide) (by decide) (by decide) (by decide) (by decide) (by decide), o (q := 15) (by decide) (by decide) (by decide) (by decide) (by decide) (by decide) (by decide) (by decide) (by decide), o (q := 12) (by decide) (by decide) (by decide) (by decide) (by decide) (by decide) (by decide) (by decide) (by decide), o (q := 13) (by decide) (by decide) (by decide) (by decide) (by decide) (by decide) (by decide) (by decide) (by decide), o (q := 17) (by decide) (by decide) (by decide) (by decide) (by decide) (by decide) (by decide) (by decide) (by decide)]
    by_cases hi2 : i = c
    · subst hi2
      rw [if_pos rfl, if_pos rfl, if_pos rfl]
      obtain ⟨l, l1, l2, l3⟩ := c2
      obtain ⟨w, w1, w2⟩ := c4
      obtain ⟨s, hs, es⟩ := (h1.2.2.2.2 i hi).1
      obtain ⟨g, hg, eg⟩ := (h5 k hk).2.1 s hs
      have hsn : n_s N i = s := by show (N 11 i).toNatClampNeg = s; rw [es]; exact nI_clamp (by omega)
      obtain ⟨f1, f2, f3⟩ := n_end l1 l2 hg h3
      refine ⟨c1, ⟨l, l1, l2, l3⟩, c3, ⟨w, w1, w2⟩, fun _ => ⟨⟨k, hk, rfl⟩, _, ?_, f3, ?_⟩, fun q => absurd q (by decide), fun q => absurd rfl q, fun q => absurd rfl q, ?_⟩
      · rw [ha]; exact f2
      · rw [hsn, l3, eg, h2, f1]
      · by_cases hq : i = i ∧ N 21 i = -9
        · rw [if_pos hq, h2, w2, pk_sub w1]
          exact Or.inr (nI_pos' (by omega))
        · rw [if_neg hq]; exact c9
    · rw [if_neg hi2, if_neg hi2, if_neg hi2, if_neg (fun z => hi2 z.1)]
      exact ⟨c1, c2, c3, c4, c5, c6, c7, c8, c9⟩
  · rw [e22]
    by_cases hi2 : i = k
    · subst hi2
      rw [if_pos rfl, h7 i hi, n_ct_one (N := N) (N' := n_g1 N c i) hc (by rw [h16]; exact fun q => absurd q.1 (by decide)) ⟨by rw [e16, if_pos rfl], by rw [e18, if_pos rfl]⟩ (fun z hz hzc => by rw [e16, e18, if_neg hzc, if_neg hzc]), nI_1]
    · rw [if_neg hi2, h7 i hi, n_ct_congr (N := N) (N' := n_g1 N c k) (fun z hz => ?_)]
      rw [e16, e18]
      by_cases hzc : z = c
      · subst hzc
        rw [if_pos rfl, if_pos rfl, h16]
        have : ¬ nI k = nI i := fun q => hi2 ((nI_eq (by omega) (by omega)).mp q).symm
        constructor
        · intro y; exact absurd y.1 (by decide)
        · intro y; exact absurd y.2 this
      · rw [if_neg hzc, if_neg hzc]
theorem n_I_gv {hn cn tk b d : Nat} : ∀ (m : Nat) (N : cr_M), n_I hn cn tk b d (fun _ => tk + 1) N → n_I hn cn tk b d (fun _ => tk + 1) (n_gv hn cn m N) := by
  intro m
  induction m with
  | zero => intro N h; exact h
  | succ m ih =>
    intro N h
    rw [n_gv]
    rcases hnx : n_nx hn cn N with _ | c
    · exact h
    · obtain ⟨hcc, hc0, htk⟩ := n_nx_some hnx
      obtain ⟨k, hk, hhf, hmay⟩ := n_hf_some h.1 hcc htk
      simp only [hhf]
      exact ih _ (n_I_g1 h hcc hk hc0 rfl)
theorem n_J_pg {hn cn tk : Nat} {N : cr_M} (ht : tk + 1 ≤ 21000) (h : n_J hn cn tk N) : n_J hn cn (tk + 1) (n_pg hn cn N) := by
  have h1 : n_I hn cn (tk + 1) (tk + 1) (tk + 1) (fun _ => tk + 1) (n_ev hn N) := n_I_tick ht (n_I_busy h)
  have h2 := n_I_ec h1 cn (Nat.le_refl _)
  have h3 := n_I_lose (n_I_ring (n_I_brk h2))
  obtain ⟨g1, g2, g3, g4, g5, g6, g7⟩ := h3
  refine ⟨g1, g2, g3, g4, g5, fun c hc => ?_, g7⟩
  have := g6 c hc
  dsimp only at this
  rw [if_pos hc] at this
  exact this
theorem n_J_go {hn cn tk : Nat} {N : cr_M} (ht : tk + 1 ≤ 21000) (h : n_J hn cn tk N) : n_J hn cn (tk + 1) (n_go hn cn N) := n_I_gv cn _ (n_J_pg ht h)
