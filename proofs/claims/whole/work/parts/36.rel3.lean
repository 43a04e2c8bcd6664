/-! when the next change is; skipping -/
def nMx : Nat := 2147483647
theorem h_nb_T {hn cn tk : Nat} {H N : cr_M} (hJ : n_J hn cn tk N) (hR : r_H hn H N) : ∀ j, j ≤ hn → ∃ T, T ≤ nMx ∧ h_nb H j = nI T ∧ ∀ k, k < j → N 5 k = 3 → ∀ e, N 7 k = nI e → e ≤ 30000 → T ≤ e := by
  intro j
  induction j with
  | zero => intro _; exact ⟨nMx, Nat.le_refl _, rfl, fun k hk => absurd hk (Nat.not_lt_zero _)⟩
  | succ j ih =>
    intro hj
    obtain ⟨T, t1, t2, t3⟩ := ih (by omega)
    obtain ⟨-, x2, -, -, -, -, -, x8⟩ := hR.2.2 j (by omega)
    rw [h_nb, x2, x8, t2]
    have last : ∀ k, k < j + 1 → k < j ∨ k = j := fun k hk => by omega
    by_cases h3 : N 5 j = 3
    · rw [if_pos h3]
      obtain ⟨e, e1, e2, e3⟩ := (hJ.2.2.2.2.1 j (by omega)).2.2 h3
      rw [e3]
      unfold nMx at *
      by_cases hlt : nI e < nI T
      · rw [if_pos hlt]
        rw [nI_ltI (by omega) (by omega)] at hlt
        refine ⟨e, by omega, rfl, fun k hk h5 e' he' hl => ?_⟩
        rcases last k hk with q | q
        · have := t3 k q h5 e' he' hl; omega
        · subst q
          have : e = e' := (nI_eq (by omega) (by omega)).mp (e3.symm.trans he')
          omega
      · rw [if_neg hlt]
        rw [nI_ltI (by omega) (by omega)] at hlt
        refine ⟨T, t1, rfl, fun k hk h5 e' he' hl => ?_⟩
        rcases last k hk with q | q
        · exact t3 k q h5 e' he' hl
        · subst q
          have : e = e' := (nI_eq (by omega) (by omega)).mp (e3.symm.trans he')
          omega
    · rw [if_neg h3]
      refine ⟨T, t1, rfl, fun k hk h5 => ?_⟩
      rcases last k hk with q | q
      · exact t3 k q h5
      · subst q; exact absurd h5 h3
/-- what y_q asks of one call -/
def y_c (tk T : Nat) (N : cr_M) (c : Nat) : Prop := ((N 16 c = 1 ∨ N 16 c = 4) → ∀ e, N 19 c = nI e → e ≤ 30000 → T ≤ e) ∧
  (N 16 c = 0 → ∀ w p, N 17 c = nI w → w ≤ tk → N 13 c = nI p → p ≤ 5000 → T ≤ w + p + 1) ∧ (N 16 c = 0 → N 10 c = 1 → ∀ w p, N 17 c = nI w → w ≤ tk → N 0 7 = nI p → p ≤ 1000 → tk < w + p → T ≤ w + p)
theorem y_c_le {tk T T' : Nat} {N : cr_M} {c : Nat} (h : y_c tk T N c) (hT : T' ≤ T) : y_c tk T' N c :=
  ⟨fun a e b d => Nat.le_trans hT (h.1 a e b d), fun a w p b d e f => Nat.le_trans hT (h.2.1 a w p b d e f), fun a b w p d e f g i => Nat.le_trans hT (h.2.2 a b w p d e f g i)⟩
theorem c_nc_E {hn cn tk c : Nat} {C N : cr_M} (hJ : n_J hn cn tk N) (hR : r_c1 C N c) (hc : c < cn) : ∃ E, E ≤ nMx ∧ c_nc C c (N 0 3) (N 0 7) = nI E ∧ y_c tk E N c := by
  obtain ⟨x1, x2, x3, x4, x5, x6, x7, x8, x9, x10, x11, x12⟩ := hR
  obtain ⟨-, -, ⟨p, p1, p2⟩, ⟨w, w1, w2⟩, c5, c6, -⟩ := hJ.2.2.2.2.2.1 c hc
  obtain ⟨pf, pf1, pf2⟩ := hJ.2.2.2.1
  have ht := hJ.2.2.1
  have h03 := hJ.2.1
  unfold c_nc nMx y_c
  rw [x1, x2, x6, x8, p2, w2, pf2, h03]
  have uw : ∀ w', N 17 c = nI w' → w' ≤ tk → w' = w := fun w' q1 q2 => (nI_eq (by omega) (by omega)).mp (q1.symm.trans w2)
  have up : ∀ p', N 13 c = nI p' → p' ≤ 5000 → p' = p := fun p' q1 q2 => (nI_eq (by omega) (by omega)).mp (q1.symm.trans p2)
  have upf : ∀ p', N 0 7 = nI p' → p' ≤ 1000 → p' = pf := fun p' q1 q2 => (nI_eq (by omega) (by omega)).mp (q1.symm.trans pf2)
  rw [w2, p2, pf2] at *
  by_cases hb : N 16 c = 1 ∨ N 16 c = 4
  · rw [if_pos hb, x10 hb]
    obtain ⟨e, e1, e2, e3⟩ : ∃ e, tk + 1 ≤ e ∧ e ≤ 30000 ∧ N 19 c = nI e := by
      rcases hb with q | q
      · exact (c5 q).2
      · exact c6 q
    refine ⟨e, by omega, e3, fun _ e' q1 q2 => ?_, fun q => ?_, fun q => ?_⟩
    · have : e = e' := (nI_eq (by omega) (by omega)).mp (e3.symm.trans q1)
      omega
    · rcases hb with z | z <;> rw [q] at z <;> exact absurd z (by decide)
    · rcases hb with z | z <;> rw [q] at z <;> exact absurd z (by decide)
  · rw [if_neg hb]
    by_cases h0 : N 16 c = 0
    · rw [if_pos h0, nI_add w pf, nI_add w p, nI_1]
      by_cases hk : N 10 c = 1 ∧ nI tk < nI (w + pf)
      · rw [if_pos hk]
        obtain ⟨hk1, hk2⟩ := hk
        rw [nI_ltI (by omega) (by omega)] at hk2
        by_cases hlt : nI (w + pf) < nI (w + p + 1)
        · rw [if_pos hlt]
          rw [nI_ltI (by omega) (by omega)] at hlt
          refine ⟨w + pf, by omega, rfl, fun q => absurd q hb, fun _ w' p' a1 a2 a3 a4 => ?_, fun _ _ w' p' a1 a2 a3 a4 _ => ?_⟩
          · have := uw w' (by rw [w2]; exact a1) a2; have := up p' (by rw [p2]; exact a3) a4; omega
          · have := uw w' (by rw [w2]; exact a1) a2; have := upf p' (by rw [pf2]; exact a3) a4; omega
        · rw [if_neg hlt]
          rw [nI_ltI (by omega) (by omega)] at hlt
          refine ⟨w + p + 1, by omega, rfl, fun q => absurd q hb, fun _ w' p' a1 a2 a3 a4 => ?_, fun _ _ w' p' a1 a2 a3 a4 _ => ?_⟩
          · have := uw w' (by rw [w2]; exact a1) a2; have := up p' (by rw [p2]; exact a3) a4; omega
          · have := uw w' (by rw [w2]; exact a1) a2; have := upf p' (by rw [pf2]; exact a3) a4; omega
      · rw [if_neg hk]
        refine ⟨w + p + 1, by omega, rfl, fun q => absurd q hb, fun _ w' p' a1 a2 a3 a4 => ?_, fun _ z w' p' a1 a2 a3 a4 a5 => ?_⟩
        · have := uw w' (by rw [w2]; exact a1) a2; have := up p' (by rw [p2]; exact a3) a4; omega
        · have e1 := uw w' (by rw [w2]; exact a1) a2
          have e2 := upf p' (by rw [pf2]; exact a3) a4
          exact absurd ⟨z, by rw [nI_ltI (by omega) (by omega)]; omega⟩ hk
    · rw [if_neg h0]
      exact ⟨2147483647, Nat.le_refl _, rfl, fun q => absurd q hb, fun q => absurd q h0, fun q => absurd q h0⟩
theorem sk_d {T tk m : Nat} (hT : T ≤ nMx) (ht : tk ≤ 21000) (hm : m ≤ 21000) : (if (0 : Int32) < (if nI m < nI T - nI tk - 1 then nI m else nI T - nI tk - 1) then (if nI m < nI T - nI tk - 1 then nI m else nI T - nI tk - 1) else 0) = nI (min (T - tk - 1) m) := by
  unfold nMx at hT
  rcases Nat.lt_or_ge tk T with h | h
  · rw [pk_sub (by omega), show (1 : Int32) = nI 1 from rfl, pk_sub (by omega)]
    by_cases hlt : nI m < nI (T - tk - 1)
    · rw [if_pos hlt]
      rw [nI_ltI (by omega) (by omega)] at hlt
      rw [Nat.min_eq_right (by omega)]
      by_cases h0 : (0 : Int32) < nI m
      · rw [if_pos h0]
      · rw [if_neg h0]
        have : ¬ nI 0 < nI m := h0
        rw [nI_ltI (by omega) (by omega)] at this
        rw [show m = 0 by omega]; rfl
    · rw [if_neg hlt]
      rw [nI_ltI (by omega) (by omega)] at hlt
      rw [Nat.min_eq_left (by omega)]
      by_cases h0 : (0 : Int32) < nI (T - tk - 1)
      · rw [if_pos h0]
      · rw [if_neg h0]
        have : ¬ nI 0 < nI (T - tk - 1) := h0
        rw [nI_ltI (by omega) (by omega)] at this
        rw [show T - tk - 1 = 0 by omega]; rfl
  · have e : nI T - nI tk - 1 = nI T - nI (tk + 1) := by rw [← nI_1]; grind
    have hn : nI T - nI (tk + 1) < 0 := pk_sneg (by omega) (by omega)
    rw [e]
    have h1 : ¬ nI m < nI T - nI (tk + 1) := fun q => absurd (show nI m < 0 by grind) (nI_pos (by omega))
    rw [if_neg h1, if_neg (by grind), show T - tk - 1 = 0 by omega, Nat.zero_min]
    rfl
theorem n_ti_add {hn cn : Nat} {N : cr_M} (a : Nat) : ∀ b, n_ti hn cn N (a + b) = n_ti hn cn (n_ti hn cn N a) b := by
  intro b
  induction b with
  | zero => rfl
  | succ b ih => rw [← Nat.add_assoc, n_ti, ih, n_ti]
theorem n_td_add {hn cn : Nat} {N : cr_M} (a : Nat) : ∀ b, n_td hn cn N (a + b) = n_td hn cn N a + n_td hn cn (n_ti hn cn N a) b := by
  intro b
  induction b with
  | zero => exact (Int32.add_zero _).symm
  | succ b ih => rw [← Nat.add_assoc, n_td, ih, n_td, n_ti_add, Int32.add_assoc]
theorem n_ec_16b {N : cr_M} {i : Nat} (h : N 16 i = 0) : ∀ j, n_ec N j 16 i = 0 := by
  intro j
  induction j with
  | zero => exact h
  | succ j ih =>
    rw [n_ec]
    split
    · rename_i hc
      rw [n_e1_16]
      by_cases q : i = j
      · subst q; rw [ih] at hc; exact absurd hc.1 (by decide)
      · rw [if_neg q]; exact ih
    · exact ih
theorem n_gv_16 {hn cn i : Nat} : ∀ (m : Nat) (N : cr_M), n_gv hn cn m N 16 i = N 16 i ∨ (N 16 i = 0 ∧ n_gv hn cn m N 16 i = 1) := by
  intro m
  induction m with
  | zero => intro N; exact Or.inl rfl
  | succ m ih =>
    intro N
    rw [n_gv]
    rcases hnx : n_nx hn cn N with _ | c
    · exact Or.inl rfl
    · obtain ⟨hcc, hc0, htk⟩ := n_nx_some hnx
      rcases hh : n_hf hn N c with _ | k
      · simp only [hh]; exact Or.inl trivial
      · simp only [hh]
        rcases ih (n_g1 N c k) with q | ⟨q1, q2⟩
        · rw [q, n_g1_16]
          by_cases z : i = c
          · subst z; rw [if_pos rfl]; exact Or.inr ⟨hc0, rfl⟩
          · rw [if_neg z]; exact Or.inl rfl
        · rw [n_g1_16] at q1
          by_cases z : i = c
          · subst z; rw [if_pos rfl] at q1; exact absurd q1 (by decide)
          · rw [if_neg z] at q1
            exact Or.inr ⟨q1, q2⟩
theorem n_go_16 {hn cn i : Nat} {N : cr_M} (h : N 16 i = 0) : n_go hn cn N 16 i = 0 ∨ n_go hn cn N 16 i = 1 ∨ n_go hn cn N 16 i = 3 := by
  have h1 : n_ec (n_ev hn N) cn 16 i = 0 := n_ec_16b (N := n_ev hn N) h cn
  have h2 : n_ring cn (n_brk hn (n_ec (n_ev hn N) cn)) 16 i = 0 := by
    unfold n_ring
    have : n_brk hn (n_ec (n_ev hn N) cn) 16 i = 0 := h1
    rw [if_neg (by rw [this]; intro z; exact absurd z.2.2.1 (by decide)), if_neg (by omega), if_neg (by omega), this]
  have h3 : n_pg hn cn N 16 i = 0 ∨ n_pg hn cn N 16 i = 3 := by
    unfold n_pg n_lose
    split
    · exact Or.inr rfl
    · exact Or.inl h2
  unfold n_go
  rcases n_gv_16 cn (n_pg hn cn N) (hn := hn) (cn := cn) (i := i) with q | ⟨q1, q2⟩
  · rw [q]; rcases h3 with z | z
    · exact Or.inl z
    · exact Or.inr (Or.inr z)
  · exact Or.inr (Or.inl q2)
theorem n_wl_skip {hn cn c : Nat} : ∀ (d m j : Nat) (N : cr_M), (∀ i, i < d → n_ti hn cn N i 16 c = 0) → n_wl hn cn c (m + d) j N = n_wl hn cn c m (j + d) (n_ti hn cn N d) := by
  intro d
  induction d with
  | zero => intro m j N _; rfl
  | succ d ih =>
    intro m j N h
    rw [← Nat.add_assoc, n_wl, if_pos (show N 16 c = 0 from h 0 (by omega)), ih m (j + 1) (n_go hn cn N) (fun i hi => by
      have := h (i + 1) (by omega)
      rw [show i + 1 = 1 + i by omega, n_ti_add] at this
      exact this), show j + 1 + d = j + (d + 1) by omega, show d + 1 = 1 + d by omega, n_ti_add]
    rfl
