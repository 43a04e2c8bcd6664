/-! the floor's own counts, and its ranks -/
theorem r_F_c {hn cn c : Nat} {F N : cr_M} (h : r_F hn cn F N) (hc : c < cn) : F 11 c = N 16 c ∧ F 12 c = N 10 c ∧ F 13 c = N 15 c ∧ F 14 c = N 11 c ∧ F 15 c = N 12 c ∧ F 16 c = N 13 c ∧ F 17 c = N 14 c ∧ F 18 c = N 17 c ∧ F 19 c = N 18 c ∧ ((N 16 c = 1 ∨ N 16 c = 4) → F 20 c = N 19 c) ∧ F 21 c = N 21 c ∧ F 22 c = N 20 c := h.2.1.2.2 c hc
theorem r_F_h {hn cn k : Nat} {F N : cr_M} (h : r_F hn cn F N) (hk : k < hn) : F 3 k = N 5 k ∧ F 4 k = N 6 k ∧ F 5 k = N 22 k ∧ N 24 k = bI (F 6 k = 3) ∧ F 7 k = N 8 k ∧ F 8 k = N 9 k ∧ F 9 k = N 7 k := (h.1.2.2 k hk).2
theorem r_F_z {hn cn : Nat} {F N : cr_M} (h : r_F hn cn F N) : hn ≤ 10 ∧ cn ≤ 200 ∧ F 1 0 = nI hn ∧ F 10 0 = nI cn ∧ F 0 4 = N 0 3 ∧ F 0 5 = N 0 6 ∧ F 0 6 = N 0 7 := ⟨h.1.1, h.2.1.1, h.1.2.1, h.2.1.2.1, h.2.2.1, h.2.2.2.1, h.2.2.2.2.1⟩
noncomputable def t_f (N : cr_M) (s : Nat) : Nat → Nat
  | 0 => 0
  | k + 1 => t_f N s k + @ite _ (s_cT N k s 0) (Classical.propDecidable _) 1 0
noncomputable def t_w (N : cr_M) (s : Nat) : Nat → Nat
  | 0 => 0
  | k + 1 => t_w N s k + @ite _ (¬ s_cT N k s 0 ∧ s_cT N k s 1) (Classical.propDecidable _) 1 0
theorem t_f_le (N : cr_M) (s k : Nat) : t_f N s k ≤ k := by
  induction k with
  | zero => exact Nat.le_refl _
  | succ k ih =>
    by_cases h : s_cT N k s 0
    · rw [t_f, if_pos h]; omega
    · rw [t_f, if_neg h]; omega
theorem t_w_le (N : cr_M) (s k : Nat) : t_w N s k ≤ k := by
  induction k with
  | zero => exact Nat.le_refl _
  | succ k ih =>
    by_cases h : ¬ s_cT N k s 0 ∧ s_cT N k s 1
    · rw [t_w, if_pos h]; omega
    · rw [t_w, if_neg h]; omega
theorem t_f_pos {N : cr_M} {s hn : Nat} : 0 < t_f N s hn ↔ ∃ k, k < hn ∧ s_cT N k s 0 := by
  induction hn with
  | zero => constructor; intro h; exact absurd h (Nat.lt_irrefl _); rintro ⟨k, hk, -⟩; omega
  | succ n ih =>
    by_cases h : s_cT N n s 0
    · rw [t_f, if_pos h]
      exact ⟨fun _ => ⟨n, by omega, h⟩, fun _ => by omega⟩
    · rw [t_f, if_neg h, Nat.add_zero, ih]
      constructor
      · rintro ⟨k, hk, hc⟩; exact ⟨k, by omega, hc⟩
      · rintro ⟨k, hk, hc⟩
        rcases Nat.lt_or_ge k n with q | q
        · exact ⟨k, q, hc⟩
        · exact absurd hc (by rw [show k = n by omega]; exact h)
theorem t_w_pos {N : cr_M} {s hn : Nat} : 0 < t_w N s hn ↔ ∃ k, k < hn ∧ ¬ s_cT N k s 0 ∧ s_cT N k s 1 := by
  induction hn with
  | zero => constructor; intro h; exact absurd h (Nat.lt_irrefl _); rintro ⟨k, hk, -⟩; omega
  | succ n ih =>
    by_cases h : ¬ s_cT N n s 0 ∧ s_cT N n s 1
    · rw [t_w, if_pos h]
      exact ⟨fun _ => ⟨n, by omega, h⟩, fun _ => by omega⟩
    · rw [t_w, if_neg h, Nat.add_zero, ih]
      constructor
      · rintro ⟨k, hk, hc⟩; exact ⟨k, by omega, hc⟩
      · rintro ⟨k, hk, hc⟩
        rcases Nat.lt_or_ge k n with q | q
        · exact ⟨k, q, hc⟩
        · exact absurd hc (by rw [show k = n by omega]; exact h)
noncomputable def t_M (hn : Nat) (N F : cr_M) (j : Nat) : cr_M := fun q i => if q = 23 ∧ i < j then nI (t_f N i hn) else if q = 24 ∧ i < j then nI (t_w N i hn) else F q i
noncomputable def t_m (N F : cr_M) (s h : Nat) : cr_M := fun q i => if q = 23 ∧ i = s then nI (t_f N s h) else if q = 24 ∧ i = s then nI (t_w N s h) else F q i
noncomputable def t_a (hn : Nat) (N : cr_M) : Nat → Nat
  | 0 => 0
  | j + 1 => t_a hn N j + (t_f N j hn + t_w N j hn)
/-- the reference counts the free ones the same way -/
theorem n_ff_t {hn cn tk : Nat} {N : cr_M} (hJ : n_J hn cn tk N) {s : Nat} (hs : s < 4) : ∀ k, k ≤ hn → n_ff N s k = nI (t_f N s k) := by
  intro k
  induction k with
  | zero => intro _; rfl
  | succ k ih =>
    intro hk
    rw [n_ff, t_f, ih (by omega)]
    obtain ⟨g, hg, eg⟩ := (hJ.2.2.2.2.1 k (by omega)).2.1 s hs
    have hz : (N 5 k = 1 ∧ 0 < N 4 (4 * k + s)) ↔ s_cT N k s 0 := by
      unfold s_cT
      rw [eg]
      have hp : (0 < nI g ↔ ¬ nI g = 0) := by
        have : ∀ g, g < 4 → (0 < nI g ↔ ¬ nI g = 0) := by decide +kernel
        exact this g hg
      grind
    by_cases q : s_cT N k s 0
    · rw [bI_t (hz.mpr q), if_pos q, nI_1]
    · rw [bI_f (fun z => q (hz.mp z)), if_neg q]
      exact Int32.add_zero _
noncomputable def x_rk (hn : Nat) (N : cr_M) (c : Nat) : Int32 := if N 0 6 = 1 then (if N 10 c = 2 then 0 else 1) else if N 0 6 = 2 then nI (t_f N (n_s N c) hn) else if N 0 6 = 3 then N 17 c + N 13 c else 0
theorem x_rk_lt {hn cn tk a b : Nat} {N : cr_M} (hJ : n_J hn cn tk N) (ha : a < cn) (hb : b < cn) : n_rk hn N a < n_rk hn N b ↔ x_rk hn N a < x_rk hn N b := by
  obtain ⟨sa, hsa, esa⟩ := (hJ.1.2.2.2.2 a ha).1
  obtain ⟨sb, hsb, esb⟩ := (hJ.1.2.2.2.2 b hb).1
  have na : n_s N a = sa := by show (N 11 a).toNatClampNeg = sa; rw [esa]; exact nI_clamp (by omega)
  have nb : n_s N b = sb := by show (N 11 b).toNatClampNeg = sb; rw [esb]; exact nI_clamp (by omega)
  unfold n_rk x_rk
  by_cases r1 : N 0 6 = 1
  · simp only [if_pos r1]
  · simp only [if_neg r1]
    by_cases r2 : N 0 6 = 2
    · simp only [if_pos r2, na, nb]
      rw [n_ff_t hJ hsa hn (Nat.le_refl _), n_ff_t hJ hsb hn (Nat.le_refl _)]
    · simp only [if_neg r2]
      by_cases r3 : N 0 6 = 3
      · simp only [if_pos r3]
        obtain ⟨-, -, ⟨pa, pa1, pa2⟩, ⟨wa, wa1, wa2⟩, -⟩ := hJ.2.2.2.2.2.1 a ha
        obtain ⟨-, -, ⟨pb, pb1, pb2⟩, ⟨wb, wb1, wb2⟩, -⟩ := hJ.2.2.2.2.2.1 b hb
        have ht := hJ.2.2.1
        rw [hJ.2.1, pa2, wa2, pb2, wb2, pk_sub wa1, pk_sub wb1, nI_add, nI_add, Int32.lt_iff_toInt_lt, pk_sub_toInt (by omega) (by omega), pk_sub_toInt (by omega) (by omega), nI_ltI (by omega) (by omega)]
        omega
      · simp only [if_neg r3]
theorem n_nx_x {hn cn tk : Nat} {N : cr_M} (hJ : n_J hn cn tk N) : n_nx hn cn N = s_fo (fun c => N 16 c = 0 ∧ n_tk hn N c) (fun a b => x_rk hn N a < x_rk hn N b) cn :=
  s_fo_congr (fun _ _ => Iff.rfl) (fun i b hi hb _ _ => x_rk_lt hJ hi (by omega))
/-- who may take it, as the class asks -/
theorem n_may_k {hn cn tk c k s : Nat} {N : cr_M} (hJ : n_J hn cn tk N) (hc : c < cn) (h0 : N 16 c = 0) (hs : N 11 c = nI s) (hs4 : s < 4) : n_may N k c ↔ s_cT N k s (bI (N 10 c = 3)) ∧ (¬ N 10 c = 1 ∨ N 0 7 ≤ N 0 3 - N 17 c ∨ N 15 c = nI k) := by
  have hsn : n_s N c = s := by show (N 11 c).toNatClampNeg = s; rw [hs]; exact nI_clamp (by omega)
  unfold n_may s_cT
  rw [hsn]
  by_cases q : N 10 c = 3
  · rw [bI_t q]; grind
  · rw [bI_f q]; grind
theorem n_tk_k {hn cn tk c s : Nat} {N : cr_M} (hJ : n_J hn cn tk N) (hc : c < cn) (h0 : N 16 c = 0) (hs : N 11 c = nI s) (hs4 : s < 4) (hk : ¬ (N 10 c = 1 ∧ N 0 3 - N 17 c < N 0 7)) : n_tk hn N c ↔ (0 < t_f N s hn ∨ (N 10 c = 3 ∧ 0 < t_w N s hn)) := by
  rw [t_f_pos, t_w_pos]
  have e : ∀ k, n_may N k c ↔ s_cT N k s (bI (N 10 c = 3)) := fun k => by
    rw [n_may_k hJ hc h0 hs hs4]
    constructor
    · exact fun z => z.1
    · intro z
      refine ⟨z, ?_⟩
      grind
  unfold n_tk
  by_cases q : N 10 c = 3
  · have e2 : ∀ k, n_may N k c ↔ s_cT N k s 1 := fun k => by rw [e, bI_t q]
    have e3 : ∀ k, s_cT N k s 0 → s_cT N k s 1 := fun k z => by unfold s_cT at *; grind
    constructor
    · rintro ⟨k, hk, hm⟩
      by_cases z : s_cT N k s 0
      · exact Or.inl ⟨k, hk, z⟩
      · exact Or.inr ⟨q, k, hk, z, (e2 k).mp hm⟩
    · rintro (⟨k, hk, z⟩ | ⟨-, k, hk, -, z⟩)
      · exact ⟨k, hk, (e2 k).mpr (e3 k z)⟩
      · exact ⟨k, hk, (e2 k).mpr z⟩
  · have e2 : ∀ k, n_may N k c ↔ s_cT N k s 0 := fun k => by rw [e, bI_f q]
    constructor
    · rintro ⟨k, hk, hm⟩
      exact Or.inl ⟨k, hk, (e2 k).mp hm⟩
    · rintro (⟨k, hk, z⟩ | ⟨z, -⟩)
      · exact ⟨k, hk, (e2 k).mpr z⟩
      · exact absurd z q
theorem n_tk_own {hn cn tk c s k : Nat} {N : cr_M} (hJ : n_J hn cn tk N) (hc : c < cn) (h0 : N 16 c = 0) (hs : N 11 c = nI s) (hs4 : s < 4) (hk : N 10 c = 1 ∧ N 0 3 - N 17 c < N 0 7) (ho : N 15 c = nI k) (hkn : k < hn) : n_tk hn N c ↔ s_cT N k s 0 := by
  have h10 := hJ.1.1
  have e : ∀ z, z < hn → (n_may N z c ↔ (s_cT N z s 0 ∧ z = k)) := fun z hz => by
    rw [n_may_k hJ hc h0 hs hs4, bI_f (by rw [hk.1]; decide), ho, nI_eq (by omega) (by omega)]
    grind
  unfold n_tk
  constructor
  · rintro ⟨z, hz, hm⟩
    obtain ⟨a, rfl⟩ := (e z hz).mp hm
    exact a
  · intro z
    exact ⟨k, hkn, (e k hkn).mpr ⟨z, rfl⟩⟩
theorem t_f_t {N : cr_M} {s k : Nat} (h : s_cT N k s 0) : nI (t_f N s (k + 1)) = nI (t_f N s k) + 1 := by rw [t_f, if_pos h, nI_1]
theorem t_f_n {N : cr_M} {s k : Nat} (h : ¬ s_cT N k s 0) : nI (t_f N s (k + 1)) = nI (t_f N s k) := by rw [t_f, if_neg h, Nat.add_zero]
theorem t_w_t {N : cr_M} {s k : Nat} (h : ¬ s_cT N k s 0) (h2 : s_cT N k s 1) : nI (t_w N s (k + 1)) = nI (t_w N s k) + 1 := by rw [t_w, if_pos ⟨h, h2⟩, nI_1]
theorem t_w_n {N : cr_M} {s k : Nat} (h : s_cT N k s 0 ∨ ¬ s_cT N k s 1) : nI (t_w N s (k + 1)) = nI (t_w N s k) := by rw [t_w, if_neg (by grind), Nat.add_zero]
