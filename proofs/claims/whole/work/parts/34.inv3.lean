/-! quiet ticks -/
theorem n_gv_none {hn cn : Nat} : ∀ (m : Nat) (N : cr_M), n_W hn cn N → n_cw N cn ≤ m → n_nx hn cn (n_gv hn cn m N) = none := by
  intro m
  induction m with
  | zero =>
    intro N hW hcw
    rcases h : n_nx hn cn N with _ | c
    · exact h
    · have q := n_nx_some h
      have := n_cw_pos q.1 q.2.1
      omega
  | succ m ih =>
    intro N hW hcw
    rw [n_gv]
    rcases hnx : n_nx hn cn N with _ | c
    · exact hnx
    · obtain ⟨hcc, hc0, htk⟩ := n_nx_some hnx
      obtain ⟨k, hk, hhf, hmay⟩ := n_hf_some hW hcc htk
      simp only [hhf]
      exact ih _ (n_W_g1 hW) (by rw [n_cw_g1 hc0, if_pos hcc]; omega)
theorem n_go_none {hn cn : Nat} {N : cr_M} (hW : n_W hn cn N) : n_nx hn cn (n_go hn cn N) = none := n_gv_none cn _ (n_W_pg hW) (n_cw_le _ _)
/-- nothing happens ahead of tick T -/
def y_q (hn cn tk T : Nat) (N : cr_M) : Prop := (∀ k, k < hn → N 5 k = 3 → ∀ e, N 7 k = nI e → e ≤ 30000 → T ≤ e) ∧ ∀ c, c < cn → ((N 16 c = 1 ∨ N 16 c = 4) → ∀ e, N 19 c = nI e → e ≤ 30000 → T ≤ e) ∧
  (N 16 c = 0 → ∀ w p, N 17 c = nI w → w ≤ tk → N 13 c = nI p → p ≤ 5000 → T ≤ w + p + 1) ∧ (N 16 c = 0 → N 10 c = 1 → ∀ w p, N 17 c = nI w → w ≤ tk → N 0 7 = nI p → p ≤ 1000 → tk < w + p → T ≤ w + p)
def n_adv (hn : Nat) (d : Nat) (N : cr_M) : cr_M := cr_up (n_busy hn (nI d) N) 0 3 (N 0 3 + nI d)
theorem n_adv_0 (hn : Nat) (N : cr_M) : n_adv hn 0 N = N := by
  funext q i
  unfold n_adv n_busy
  rw [cr_rd]
  have h0 : ∀ x : Int32, x + nI 0 = x := fun x => Int32.add_zero x
  grind
/-- a tick ahead of T -/
theorem n_go_quiet {hn cn tk T : Nat} {N : cr_M} (hJ : n_J hn cn tk N) (hq : y_q hn cn tk T N) (hT : tk + 1 < T) (ht : tk + 1 ≤ 21000) (hnx : n_nx hn cn N = none) : n_go hn cn N = n_tick (n_busy hn 1 N) ∧ n_gon hn cn N = 0 ∧ n_nx hn cn (n_tick (n_busy hn 1 N)) = none := by
  obtain ⟨h1, h2, h3, h4, h5, h6, h7⟩ := id hJ
  obtain ⟨q1, q2⟩ := hq
  have e3 : n_ev hn N 0 3 = nI (tk + 1) := by show N 0 3 + 1 = _; rw [h2, nI_1]
  have hec : ∀ j, j ≤ cn → n_ec (n_ev hn N) j = n_ev hn N ∧ n_ecn (n_ev hn N) j = 0 := by
    intro j
    induction j with
    | zero => intro _; exact ⟨rfl, rfl⟩
    | succ j ih =>
      intro hj
      obtain ⟨i1, i2⟩ := ih (by omega)
      have hno : ¬ (n_ec (n_ev hn N) j 16 j = 1 ∧ n_ec (n_ev hn N) j 19 j ≤ n_ec (n_ev hn N) j 0 3) := by
        rw [i1, e3]
        rintro ⟨a, b⟩
        have a : N 16 j = 1 := a
        have b : N 19 j ≤ nI (tk + 1) := b
        obtain ⟨-, e, g1, g2, g3⟩ := (h6 j (by omega)).2.2.2.2.1 a
        have := (q2 j (by omega)).1 (Or.inl a) e g3 g2
        rw [g3, nI_leI (by omega) (by omega)] at b
        omega
      rw [n_ec, if_neg hno, n_ecn, if_neg hno]
      exact ⟨i1, i2⟩
  obtain ⟨c1, c2⟩ := hec cn (Nat.le_refl _)
  have hb : n_brk hn (n_ev hn N) = n_ev hn N := by
    funext q i
    unfold n_brk
    have : ¬ (i < hn ∧ n_ev hn N 5 i = 3 ∧ n_ev hn N 7 i ≤ n_ev hn N 0 3) := by
      rintro ⟨hi, a, b⟩
      rw [e3] at b
      obtain ⟨e, g1, g2, g3⟩ := (h5 i hi).2.2 a
      have := q1 i hi a e g3 g2
      have b : N 7 i ≤ nI (tk + 1) := b
      rw [g3, nI_leI (by omega) (by omega)] at b
      omega
    rw [if_neg (fun z => this z.2), if_neg (fun z => this z.2)]
  have hr : n_ring cn (n_ev hn N) = n_ev hn N := by
    funext q i
    unfold n_ring
    have : ¬ (i < cn ∧ n_ev hn N 16 i = 4 ∧ n_ev hn N 19 i ≤ n_ev hn N 0 3) := by
      rintro ⟨hi, a, b⟩
      rw [e3] at b
      obtain ⟨e, g1, g2, g3⟩ := (h6 i hi).2.2.2.2.2.1 a
      have := (q2 i hi).1 (Or.inr a) e g3 g2
      have b : N 19 i ≤ nI (tk + 1) := b
      rw [g3, nI_leI (by omega) (by omega)] at b
      omega
    rw [if_neg (fun z => this z.2), if_neg (fun z => this z.2), if_neg (fun z => this z.2)]
  have hl : n_lose cn (n_ev hn N) = n_ev hn N := by
    funext q i
    unfold n_lose
    have : ¬ (i < cn ∧ n_ev hn N 16 i = 0 ∧ n_ev hn N 13 i < n_ev hn N 0 3 - n_ev hn N 17 i) := by
      rintro ⟨hi, a, b⟩
      rw [e3] at b
      obtain ⟨-, -, ⟨p, p1, p2⟩, ⟨w, w1, w2⟩, -⟩ := h6 i hi
      have := (q2 i hi).2.1 a w p w2 w1 p2 p1
      have b : N 13 i < nI (tk + 1) - N 17 i := b
      rw [p2, w2, pk_sub (by omega), nI_ltI (by omega) (by omega)] at b
      omega
    rw [if_neg (fun z => this z.2)]
  have hpg : n_pg hn cn N = n_ev hn N := by
    unfold n_pg
    rw [c1, hb, hr, hl]
  have hnone : n_nx hn cn (n_ev hn N) = none := by
    rcases hx : n_nx hn cn (n_ev hn N) with _ | c
    · rfl
    · exfalso
      obtain ⟨hcc, hc0, k, hk, hm⟩ := n_nx_some hx
      have hc0 : N 16 c = 0 := hc0
      have := s_fo_none hnx c hcc
      refine this ⟨hc0, k, hk, ?_⟩
      unfold n_may at hm ⊢
      obtain ⟨m1, m2, m3, m4⟩ := hm
      refine ⟨hc0, m2, m3, ?_⟩
      rcases m4 with m4 | m4 | m4
      · exact Or.inl m4
      · by_cases hk1 : N 10 c = 1
        · right; left
          obtain ⟨-, -, -, ⟨w, w1, w2⟩, -⟩ := h6 c hcc
          obtain ⟨p, p1, p2⟩ := h4
          have m4 : N 0 7 ≤ n_ev hn N 0 3 - N 17 c := m4
          rw [e3, w2, p2, pk_sub (by omega), nI_leI (by omega) (by omega)] at m4
          rw [h2, w2, p2, pk_sub w1, nI_leI (by omega) (by omega)]
          rcases Nat.lt_or_ge tk (w + p) with z | z
          · have := (q2 c hcc).2.2 hc0 hk1 w p w2 w1 p2 p1 z
            omega
          · omega
        · exact Or.inl hk1
      · exact Or.inr (Or.inr m4)
  refine ⟨?_, c2, hnone⟩
  unfold n_go
  rw [hpg]
  rcases cn with _ | m
  · rfl
  · rw [n_gv]
    rw [hnone]
    rfl
theorem n_quiet {hn cn tk T : Nat} {N : cr_M} (hJ : n_J hn cn tk N) (hq : y_q hn cn tk T N) (hnx : n_nx hn cn N = none) : ∀ d, tk + d < T → tk + d ≤ 21000 → n_ti hn cn N d = n_adv hn d N ∧ n_td hn cn N d = 0 ∧ n_nx hn cn (n_adv hn d N) = none := by
  intro d
  induction d with
  | zero => intro _ _; rw [n_adv_0]; exact ⟨rfl, rfl, hnx⟩
  | succ d ih =>
    intro h1 h2
    obtain ⟨i1, i2, i3⟩ := ih (by omega) (by omega)
    have hJ2 := n_J_ti hJ d (by omega)
    rw [i1] at hJ2
    have hq2 : y_q hn cn (tk + d) T (n_adv hn d N) := by
      obtain ⟨a, b⟩ := hq
      refine ⟨a, fun c hc => ?_⟩
      obtain ⟨b1, b2, b3⟩ := b c hc
      obtain ⟨-, -, -, ⟨w0, w1, w2⟩, -⟩ := hJ.2.2.2.2.2.1 c hc
      refine ⟨b1, fun z w p e1 e2 e3 e4 => b2 z w p e1 ?_ e3 e4, fun z y w p e1 e2 e3 e4 e5 => b3 z y w p e1 ?_ e3 e4 (by omega)⟩
      · have e1 : N 17 c = nI w := e1
        have h3 := hJ.2.2.1
        have : w = w0 := (nI_eq (by omega) (by omega)).mp (e1.symm.trans w2)
        omega
      · have e1 : N 17 c = nI w := e1
        have h3 := hJ.2.2.1
        have : w = w0 := (nI_eq (by omega) (by omega)).mp (e1.symm.trans w2)
        omega
    obtain ⟨g1, g2, g3⟩ := n_go_quiet hJ2 hq2 (by omega) (by omega) i3
    have e : n_tick (n_busy hn 1 (n_adv hn d N)) = n_adv hn (d + 1) N := by
      funext q i
      unfold n_tick n_adv n_busy
      simp only [cr_rd]
      have ha : ∀ x : Int32, x + nI d + 1 = x + nI (d + 1) := fun x => by rw [← nI_1, Int32.add_assoc]
      grind
    rw [e] at g1 g3
    refine ⟨by rw [n_ti, i1, g1], ?_, g3⟩
    rw [n_td, i2, i1, g2]
    rfl
