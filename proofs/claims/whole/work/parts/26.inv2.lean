/-! what was kept comes back -/
/-- the same as far as anybody looks -/
def n_Q (N N' : cr_M) : Prop := ∀ q i, (q < 23 ∨ q = 24) → ¬ (q = 0 ∧ i = 30) → N' q i = N q i
def n_hc (q : Nat) : Prop := q = 5 ∨ q = 6 ∨ q = 8 ∨ q = 9 ∨ q = 22 ∨ q = 24
def n_cc (q : Nat) : Prop := q = 16 ∨ q = 17 ∨ q = 18 ∨ q = 19 ∨ q = 20 ∨ q = 21
/-- X differs from N at most in what a tick changes, within the helpers and calls that there are -/
def n_D (hn cn : Nat) (N X : cr_M) : Prop := ∀ q i, X q i = N q i ∨ (n_hc q ∧ i < hn) ∨ (n_cc q ∧ i < cn) ∨ (q = 0 ∧ i = 3)
theorem n_D_rf (hn cn : Nat) (N : cr_M) : n_D hn cn N N := fun _ _ => Or.inl rfl
theorem n_D_g1 {hn cn : Nat} {N X : cr_M} {c k : Nat} (h : n_D hn cn N X) (hc : c < cn) (hk : k < hn) : n_D hn cn N (n_g1 X c k) := by
  intro q i
  rcases h q i with h1 | h1
  · by_cases a : n_hc q ∧ i < hn
    · exact Or.inr (Or.inl a)
    · by_cases b : n_cc q ∧ i < cn
      · exact Or.inr (Or.inr (Or.inl b))
      · left
        rw [← h1]
        unfold n_g1
        unfold n_hc n_cc at *
        rw [if_neg (by omega), if_neg (by omega), if_neg (by omega), if_neg (by omega), if_neg (by omega), if_neg (by omega), if_neg (by omega), if_neg (by omega), if_neg (by omega)]
  · exact Or.inr h1
theorem n_D_gv {hn cn : Nat} {N : cr_M} : ∀ (m : Nat) (X : cr_M), n_W hn cn X → n_D hn cn N X → n_D hn cn N (n_gv hn cn m X) := by
  intro m
  induction m with
  | zero => intro X _ h; exact h
  | succ m ih =>
    intro X hW h
    rw [n_gv]
    rcases hnx : n_nx hn cn X with _ | c
    · exact h
    · obtain ⟨hcc, hc0, htk⟩ := n_nx_some hnx
      obtain ⟨k, hk, hhf, hmay⟩ := n_hf_some hW hcc htk
      simp only [hhf]
      exact ih _ (n_W_g1 hW) (n_D_g1 h hcc hk)
theorem n_D_ec {hn cn : Nat} {N X : cr_M} (hON : n_ON hn cn X) (hW : n_W hn cn X) (h : n_D hn cn N X) : ∀ j, j ≤ cn → n_D hn cn N (n_ec X j) := by
  intro j
  induction j with
  | zero => intro _; exact h
  | succ j ih =>
    intro hj
    have ih := ih (by omega)
    rw [n_ec]
    split
    · rename_i hc
      obtain ⟨k, hk, e18⟩ := hON j (by omega) (by rw [← n_ec_16 (N := X) j j (Nat.le_refl _)]; exact hc.1)
      have h10 := hW.1
      rw [n_ec_out (by decide) (by decide) (by decide) (by decide) (by decide) (by decide) j, e18, nI_clamp (by omega)]
      intro q i
      rcases ih q i with h1 | h1
      · by_cases a : n_hc q ∧ i < hn
        · exact Or.inr (Or.inl a)
        · by_cases b : n_cc q ∧ i < cn
          · exact Or.inr (Or.inr (Or.inl b))
          · left
            rw [← h1]
            unfold n_hc n_cc at *
            simp only [n_e1, n_los, n_bec, cr_rd]
            rw [if_neg (by omega), if_neg (by omega), if_neg (by omega), if_neg (by omega), if_neg (by omega), if_neg (by omega)]
      · exact Or.inr h1
    · exact ih
theorem n_D_go {hn cn : Nat} {N X : cr_M} (hON : n_ON hn cn X) (hW : n_W hn cn X) (h : n_D hn cn N X) : n_D hn cn N (n_go hn cn X) := by
  have h1 : n_D hn cn N (n_ev hn X) := by
    intro q i
    rcases h q i with h1 | h1
    · by_cases a : n_hc q ∧ i < hn
      · exact Or.inr (Or.inl a)
      · by_cases b : q = 0 ∧ i = 3
        · exact Or.inr (Or.inr (Or.inr b))
        · left
          rw [← h1]
          unfold n_hc at a
          unfold n_ev n_tick
          rw [cr_rd, if_neg b]
          unfold n_busy
          rw [if_neg (by omega)]
    · exact Or.inr h1
  have h2 := n_D_ec (N := N) (X := n_ev hn X) hON (n_W_tick (n_W_busy hW)) h1 cn (Nat.le_refl _)
  refine n_D_gv cn _ (n_W_pg hW) ?_
  intro q i
  rcases h2 q i with h1 | h1
  · by_cases a : n_hc q ∧ i < hn
    · exact Or.inr (Or.inl a)
    · by_cases b : n_cc q ∧ i < cn
      · exact Or.inr (Or.inr (Or.inl b))
      · left
        rw [← h1]
        unfold n_hc n_cc at *
        unfold n_pg n_lose
        rw [if_neg (by omega)]
        unfold n_ring
        rw [if_neg (by omega), if_neg (by omega), if_neg (by omega)]
        unfold n_brk
        rw [if_neg (by omega), if_neg (by omega)]
  · exact Or.inr h1
theorem n_kp {hn cn : Nat} {N : cr_M} : n_keep hn cn N 0 30 = N 0 3 ∧ (∀ i, i < hn → n_keep hn cn N 26 i = N 5 i ∧ n_keep hn cn N 27 i = N 6 i ∧ n_keep hn cn N 28 i = N 8 i ∧ n_keep hn cn N 29 i = N 9 i ∧ n_keep hn cn N 23 i = N 22 i ∧ n_keep hn cn N 25 i = N 24 i) ∧ ∀ i, i < cn → n_keep hn cn N 30 i = N 16 i ∧ n_keep hn cn N 31 i = N 17 i ∧ n_keep hn cn N 32 i = N 18 i ∧ n_keep hn cn N 33 i = N 19 i ∧ n_keep hn cn N 34 i = N 20 i ∧ n_keep hn cn N 35 i = N 21 i := by
  refine ⟨by simp [n_keep, n_k2, n_k1, cr_rd], fun i hi => ?_, fun i hi => ?_⟩
  · simp [n_keep, n_k2, n_k1, cr_rd, hi]
  · simp [n_keep, n_k2, n_k1, cr_rd, hi]
theorem n_back {hn cn : Nat} {N X : cr_M} (h : n_D hn cn (n_keep hn cn N) X) : n_Q N (n_putb hn cn X) := by
  obtain ⟨k0, kh, kc⟩ := n_kp (hn := hn) (cn := cn) (N := N)
  have st : ∀ q i, ¬ n_hc q → ¬ n_cc q → ¬ (q = 0 ∧ i = 3) → X q i = n_keep hn cn N q i := by
    intro q i a b c
    rcases h q i with z | z | z | z
    · exact z
    · exact absurd z.1 a
    · exact absurd z.1 b
    · exact absurd z c
  intro q i hq h0
  unfold n_putb n_b2
  by_cases hc : n_cc q ∧ i < cn
  · obtain ⟨hc1, hc2⟩ := hc
    have e : ∀ z, ¬ n_hc z → ¬ n_cc z → ¬ z = 0 → n_b1 hn (cr_up X 0 3 (X 0 30)) z i = n_keep hn cn N z i := by
      intro z a b c
      have a2 := a
      unfold n_hc at a
      unfold n_b1
      rw [if_neg (by omega), if_neg (by omega), if_neg (by omega), if_neg (by omega), if_neg (by omega), if_neg (by omega), cr_rd, if_neg (by omega)]
      exact st z i a2 b (by omega)
    obtain ⟨e1, e2, e3, e4, e5, e6⟩ := kc i hc2
    rcases hc1 with rfl | rfl | rfl | rfl | rfl | rfl
    · rw [if_pos ⟨rfl, hc2⟩, e 30 (by simp [n_hc]) (by simp [n_cc]) (by simp), e1]
    · rw [if_neg (by omega), if_pos ⟨rfl, hc2⟩, e 31 (by simp [n_hc]) (by simp [n_cc]) (by simp), e2]
    · rw [if_neg (by omega), if_neg (by omega), if_pos ⟨rfl, hc2⟩, e 32 (by simp [n_hc]) (by simp [n_cc]) (by simp), e3]
    · rw [if_neg (by omega), if_neg (by omega), if_neg (by omega), if_pos ⟨rfl, hc2⟩, e 33 (by simp [n_hc]) (by simp [n_cc]) (by simp), e4]
    · rw [if_neg (by omega), if_neg (by omega), if_neg (by omega), if_neg (by omega), if_pos ⟨rfl, hc2⟩, e 34 (by simp [n_hc]) (by simp [n_cc]) (by simp), e5]
    · rw [if_neg (by omega), if_neg (by omega), if_neg (by omega), if_neg (by omega), if_neg (by omega), if_pos ⟨rfl, hc2⟩, e 35 (by simp [n_hc]) (by simp [n_cc]) (by simp), e6]
  · have hc' : ¬ (n_cc q ∧ i < cn) := hc
    unfold n_cc at hc
    rw [if_neg (by omega), if_neg (by omega), if_neg (by omega), if_neg (by omega), if_neg (by omega), if_neg (by omega)]
    unfold n_b1
    by_cases hh : n_hc q ∧ i < hn
    · obtain ⟨hh1, hh2⟩ := hh
      have e : ∀ z, ¬ n_hc z → ¬ n_cc z → ¬ z = 0 → cr_up X 0 3 (X 0 30) z i = n_keep hn cn N z i := by
        intro z a b c
        rw [cr_rd, if_neg (by omega)]
        exact st z i a b (by omega)
      obtain ⟨e1, e2, e3, e4, e5, e6⟩ := kh i hh2
      rcases hh1 with rfl | rfl | rfl | rfl | rfl | rfl
      · rw [if_pos ⟨rfl, hh2⟩, e 26 (by simp [n_hc]) (by simp [n_cc]) (by simp), e1]
      · rw [if_neg (by omega), if_pos ⟨rfl, hh2⟩, e 27 (by simp [n_hc]) (by simp [n_cc]) (by simp), e2]
      · rw [if_neg (by omega), if_neg (by omega), if_pos ⟨rfl, hh2⟩, e 28 (by simp [n_hc]) (by simp [n_cc]) (by simp), e3]
      · rw [if_neg (by omega), if_neg (by omega), if_neg (by omega), if_pos ⟨rfl, hh2⟩, e 29 (by simp [n_hc]) (by simp [n_cc]) (by simp), e4]
      · rw [if_neg (by omega), if_neg (by omega), if_neg (by omega), if_neg (by omega), if_pos ⟨rfl, hh2⟩, e 23 (by simp [n_hc]) (by simp [n_cc]) (by simp), e5]
      · rw [if_neg (by omega), if_neg (by omega), if_neg (by omega), if_neg (by omega), if_neg (by omega), if_pos ⟨rfl, hh2⟩, e 25 (by simp [n_hc]) (by simp [n_cc]) (by simp), e6]
    · have hh' : ¬ (n_hc q ∧ i < hn) := hh
      unfold n_hc at hh
      rw [if_neg (by omega), if_neg (by omega), if_neg (by omega), if_neg (by omega), if_neg (by omega), if_neg (by omega), cr_rd]
      by_cases h3 : q = 0 ∧ i = 3
      · rw [if_pos h3, st 0 30 (by simp [n_hc]) (by simp [n_cc]) (by simp), k0]
        obtain ⟨rfl, rfl⟩ := h3
        rfl
      · rw [if_neg h3]
        rcases h q i with z | z | z | z
        · rw [z]
          exact n_keep_fr hq h0
        · exact absurd z hh'
        · exact absurd z hc'
        · exact absurd z h3
theorem n_Q_wM {hn cn tk : Nat} {N : cr_M} (hJ : n_J hn cn tk N) : n_Q N (n_wM hn cn N) := n_back (n_D_gv cn _ (n_J_keep hJ).1 (n_D_rf _ _ _))
theorem n_D_wl {hn cn c tk : Nat} {N : cr_M} (ht : tk ≤ 20000) : ∀ (m j : Nat) (X : cr_M), j + m = 1000 → n_J hn cn (tk + j) X → n_D hn cn N X → n_D hn cn N (n_wl hn cn c m j X).2 := by
  intro m
  induction m with
  | zero => intro j X _ _ h; exact h
  | succ m ih =>
    intro j X hj hJ h
    rw [n_wl]
    split
    · exact ih (j + 1) _ (by omega) (by have := n_J_go (by omega) hJ; rw [show tk + j + 1 = tk + (j + 1) by omega] at this; exact this) (n_D_go (n_I_ON hJ) hJ.1 h)
    · exact h
theorem n_Q_wait {hn cn c tk : Nat} {N : cr_M} (ht : tk ≤ 20000) (hJ : n_J hn cn tk N) : n_Q N (n_putb hn cn (n_wl hn cn c 1000 0 (n_keep hn cn N)).2) :=
  n_back (n_D_wl ht 1000 0 _ (by omega) (n_J_keep hJ) (n_D_rf _ _ _))
/-- the invariant sees no more than that -/
theorem n_J_Q {hn cn tk : Nat} {N N' : cr_M} (k : n_Q N N') (h : n_J hn cn tk N) : n_J hn cn tk N' := by
  obtain ⟨h1, h2, h3, h4, h5, h6, h7⟩ := h
  refine ⟨n_W_of h1 (k _ _ (by omega) (by omega)) (k _ _ (by omega) (by omega)) (fun _ _ => k _ _ (by omega) (by omega)) (fun _ _ => k _ _ (by omega) (by omega)), by rw [k 0 3 (by omega) (by omega)]; exact h2, h3, by rw [k 0 7 (by omega) (by omega)]; exact h4, fun i hi => ?_, fun c hc => ?_, fun i hi => ?_⟩
  · have := h5 i hi
    unfold i_h at this ⊢
    rw [k 24 i (by omega) (by omega), k 5 i (by omega) (by omega), k 7 i (by omega) (by omega)]
    refine ⟨this.1, fun s hs => ?_, this.2.2⟩
    rw [k 4 _ (by omega) (by omega)]
    exact this.2.1 s hs
  · have := h6 c hc
    unfold i_c at this ⊢
    rw [k 10 c (by omega) (by omega), k 15 c (by omega) (by omega), k 12 c (by omega) (by omega), k 13 c (by omega) (by omega), k 17 c (by omega) (by omega), k 16 c (by omega) (by omega), k 18 c (by omega) (by omega), k 19 c (by omega) (by omega), k 21 c (by omega) (by omega)]
    exact this
  · rw [k 22 i (by omega) (by omega), n_ct_congr (N := N') (N' := N) (fun c _ => by rw [k 16 c (by omega) (by omega), k 18 c (by omega) (by omega)])]
    exact h7 i hi
/-! why -/
def n_can (N : cr_M) (c k : Nat) : Prop := ¬ N 5 k = 0 ∧ ¬ N 4 (4 * k + n_s N c) = 0
def n_fre (N : cr_M) (c k : Nat) : Prop := n_can N c k ∧ (N 5 k = 1 ∨ (N 5 k = 2 ∧ N 10 c = 3 ∧ ¬ N 24 k = 0 ∧ N 22 k < 3))
noncomputable def n_why (hn : Nat) (N : cr_M) (c : Nat) : Int32 :=
  @ite _ (∃ k, k < hn ∧ n_can N c k) (Classical.propDecidable _) (@ite _ (∃ k, k < hn ∧ n_fre N c k) (Classical.propDecidable _) (@ite _ (N 10 c = 1 ∧ N 0 3 - N 17 c < N 0 7 ∧ ¬ n_may N (N 15 c).toNatClampNeg c) (Classical.propDecidable _) 3 4) 2) 1
noncomputable def m_why (hn cn : Nat) (N : cr_M) (c : Nat) : Int32 × cr_M := if N 16 c = 0 then (if 0 ≤ n_gv hn cn cn (n_keep hn cn N) 18 c then 0 else n_why hn (n_wM hn cn N) c, n_wM hn cn N) else (-2, n_ref N 2)
