/-! the class's rows beside the reference's memory -/
def r_c1 (C N : cr_M) (c : Nat) : Prop := C 1 c = N 16 c ∧ C 2 c = N 10 c ∧ C 3 c = N 15 c ∧ C 4 c = N 11 c ∧ C 5 c = N 12 c ∧ C 6 c = N 13 c ∧ C 7 c = N 14 c ∧ C 8 c = N 17 c ∧ C 9 c = N 18 c ∧ ((N 16 c = 1 ∨ N 16 c = 4) → C 10 c = N 19 c) ∧ C 11 c = N 21 c ∧ C 12 c = N 20 c
def r_C (cn : Nat) (C N : cr_M) : Prop := cn ≤ 200 ∧ C 0 0 = nI cn ∧ ∀ c, c < cn → r_c1 C N c
theorem r_H_cg {hn : Nat} {H H' N N' : cr_M} (h : r_H hn H N) (hH : ∀ j, j < 9 → H' j = H j) (hN : ∀ q i, (q = 4 ∨ q = 5 ∨ q = 6 ∨ q = 7 ∨ q = 8 ∨ q = 9 ∨ q = 22 ∨ q = 24) → N' q i = N q i) : r_H hn H' N' := by
  obtain ⟨h1, h2, h3⟩ := h
  refine ⟨h1, by rw [hH 0 (by omega)]; exact h2, fun k hk => ?_⟩
  have := h3 k hk
  unfold r_h1 at this ⊢
  rw [hH 1 (by omega), hH 2 (by omega), hH 3 (by omega), hH 4 (by omega), hH 5 (by omega), hH 6 (by omega), hH 7 (by omega), hH 8 (by omega), hN 5 k (by omega), hN 6 k (by omega), hN 22 k (by omega), hN 24 k (by omega), hN 8 k (by omega), hN 9 k (by omega), hN 7 k (by omega)]
  obtain ⟨⟨g, a, b, c⟩, d⟩ := this
  exact ⟨⟨g, a, b, fun s hs => by rw [hN 4 _ (by omega)]; exact c s hs⟩, d⟩
theorem r_C_cg {cn : Nat} {C C' N N' : cr_M} (h : r_C cn C N) (hC : ∀ j, j < 13 → C' j = C j) (hN : ∀ q i, (10 ≤ q ∧ q ≤ 21) → N' q i = N q i) : r_C cn C' N' := by
  obtain ⟨h1, h2, h3⟩ := h
  refine ⟨h1, by rw [hC 0 (by omega)]; exact h2, fun k hk => ?_⟩
  have := h3 k hk
  unfold r_c1 at this ⊢
  rw [hC 1 (by omega), hC 2 (by omega), hC 3 (by omega), hC 4 (by omega), hC 5 (by omega), hC 6 (by omega), hC 7 (by omega), hC 8 (by omega), hC 9 (by omega), hC 10 (by omega), hC 11 (by omega), hC 12 (by omega), hN 16 k (by omega), hN 10 k (by omega), hN 15 k (by omega), hN 11 k (by omega), hN 12 k (by omega), hN 13 k (by omega), hN 14 k (by omega), hN 17 k (by omega), hN 18 k (by omega), hN 19 k (by omega), hN 21 k (by omega), hN 20 k (by omega)]
  exact this
/-- the floor: helpers at 1 .. 9, calls at 10 .. 22, tick, rule, prefer -/
def u_H (hn : Nat) (H : cr_M) : Prop := ∀ q i, 4 ≤ q → q ≤ 8 → hn ≤ i → i < 10 → H q i = 0
theorem u_H_busy {hn : Nat} {H : cr_M} {x : Int32} (h : u_H hn H) : u_H hn (h_busy hn x H) := fun q i a b c d => by unfold h_busy; rw [if_neg (by omega)]; exact h q i a b c d
theorem u_H_brk {hn : Nat} {H : cr_M} {t : Int32} (h : u_H hn H) : u_H hn (h_brk hn t H) := fun q i a b c d => by unfold h_brk; rw [if_neg (by omega), if_neg (by omega)]; exact h q i a b c d
theorem u_H_take {hn k : Nat} {H : cr_M} {w t : Int32} (h : u_H hn H) (hk : k < hn) : u_H hn (h_take H k w t) := fun q i a b c d => by unfold h_take; rw [cr_rd, if_neg (by omega), cr_rd, if_neg (by omega), cr_rd, if_neg (by omega), cr_rd, if_neg (by omega)]; exact h q i a b c d
theorem u_H_let {hn k : Nat} {H : cr_M} {t : Int32} (h : u_H hn H) (hk : k < hn) : u_H hn (h_let H k t) := fun q i a b c d => by unfold h_let; rw [cr_rd, if_neg (by omega), cr_rd, if_neg (by omega), cr_rd, if_neg (by omega)]; exact h q i a b c d
theorem u_H_cg {hn : Nat} {H H' : cr_M} (h : u_H hn H) (e : ∀ j, j < 9 → H' j = H j) : u_H hn H' := fun q i a b c d => by rw [e q (by omega)]; exact h q i a b c d
def r_F (hn cn : Nat) (F N : cr_M) : Prop := r_H hn (fun j => F (1 + j)) N ∧ r_C cn (fun j => F (10 + j)) N ∧ F 0 4 = N 0 3 ∧ F 0 5 = N 0 6 ∧ F 0 6 = N 0 7 ∧ u_H hn (fun j => F (1 + j))
theorem r_F_cg {hn cn : Nat} {F F' N N' : cr_M} (h : r_F hn cn F N) (hF : ∀ j, j < 23 → F' j = F j) (hN : n_Q N N') : r_F hn cn F' N' := by
  obtain ⟨h1, h2, h3, h4, h5, h6⟩ := h
  refine ⟨r_H_cg h1 (fun j hj => hF _ (by omega)) (fun q i hq => hN q i (by omega) (by omega)), r_C_cg h2 (fun j hj => hF _ (by omega)) (fun q i hq => hN q i (by omega) (by omega)), ?_, ?_, ?_, u_H_cg h6 (fun j hj => hF _ (by omega))⟩
  · rw [hF 0 (by omega), hN 0 3 (by omega) (by omega)]; exact h3
  · rw [hF 0 (by omega), hN 0 6 (by omega) (by omega)]; exact h4
  · rw [hF 0 (by omega), hN 0 7 (by omega) (by omega)]; exact h5
/-- the helpers' part is put anew -/
theorem r_F_H {hn cn : Nat} {F H' N N' : cr_M} (h : r_F hn cn F N) (hu : u_H hn H') (hH : r_H hn H' N') (hN : ∀ q i, (10 ≤ q ∧ q ≤ 21) → N' q i = N q i) (h3 : N' 0 3 = N 0 3) (h6 : N' 0 6 = N 0 6) (h7 : N' 0 7 = N 0 7) : r_F hn cn (cr_mg F 1 9 H') N' := by
  obtain ⟨h1, h2, a, b, c, -⟩ := h
  refine ⟨r_H_cg hH (fun j hj => cr_mg_in hj) (fun _ _ _ => rfl), r_C_cg h2 (fun j hj => cr_mg_out (by omega)) hN, ?_, ?_, ?_, u_H_cg hu (fun j hj => cr_mg_in hj)⟩
  · rw [cr_mg_out (by omega), h3]; exact a
  · rw [cr_mg_out (by omega), h6]; exact b
  · rw [cr_mg_out (by omega), h7]; exact c
theorem r_F_C {hn cn : Nat} {F C' N N' : cr_M} (h : r_F hn cn F N) (hC : r_C cn C' N') (hN : ∀ q i, (q = 4 ∨ q = 5 ∨ q = 6 ∨ q = 7 ∨ q = 8 ∨ q = 9 ∨ q = 22 ∨ q = 24) → N' q i = N q i) (h3 : N' 0 3 = N 0 3) (h6 : N' 0 6 = N 0 6) (h7 : N' 0 7 = N 0 7) : r_F hn cn (cr_mg F 10 13 C') N' := by
  obtain ⟨h1, h2, a, b, c, u⟩ := h
  refine ⟨r_H_cg h1 (fun j hj => cr_mg_out (by omega)) hN, r_C_cg hC (fun j hj => cr_mg_in hj) (fun _ _ _ => rfl), ?_, ?_, ?_, u_H_cg u (fun j hj => cr_mg_out (by omega))⟩
  · rw [cr_mg_out (by omega), h3]; exact a
  · rw [cr_mg_out (by omega), h6]; exact b
  · rw [cr_mg_out (by omega), h7]; exact c
theorem r_H_busy {hn : Nat} {H N : cr_M} {x : Int32} (h : r_H hn H N) : r_H hn (h_busy hn x H) (n_busy hn x N) := by
  obtain ⟨h1, h2, h3⟩ := h
  refine ⟨h1, h2, fun k hk => ?_⟩
  obtain ⟨a, b, c, d, e, f, g, i⟩ := h3 k hk
  refine ⟨a, b, c, d, e, f, ?_, i⟩
  simp only [h_busy, n_busy, g, b]
theorem r_H_brk {hn : Nat} {H N : cr_M} (h : r_H hn H N) : r_H hn (h_brk hn (N 0 3) H) (n_brk hn N) := by
  obtain ⟨h1, h2, h3⟩ := h
  refine ⟨h1, h2, fun k hk => ?_⟩
  obtain ⟨a, b, c, d, e, f, g, i⟩ := h3 k hk
  refine ⟨a, ?_, ?_, d, e, f, g, i⟩
  · simp only [h_brk, n_brk, b, i]; simp
  · simp only [h_brk, n_brk, b, c, i]; simp
theorem r_H_take {hn c k : Nat} {H N : cr_M} {t w : Int32} (h : r_H hn H N) (ht : t = N 0 3) (hw : w = N 10 c) : r_H hn (h_take H k w t) (n_g1 N c k) := by
  obtain ⟨h1, h2, h3⟩ := h
  refine ⟨h1, by simp [h_take, cr_rd]; exact h2, fun i hi => ?_⟩
  obtain ⟨⟨g, g1, g2, g3⟩, b, c', d, e, f, g', i'⟩ := h3 i hi
  refine ⟨⟨g, g1, by simp [h_take, cr_rd]; exact g2, fun s hs => by simp [n_g1]; exact g3 s hs⟩, ?_, ?_, ?_, ?_, ?_, ?_, ?_⟩
  · simp only [h_take, n_g1, cr_rd]; grind
  · simp only [h_take, n_g1, cr_rd]; grind
  · simp only [h_take, n_g1, cr_rd]; grind
  · simp only [h_take, n_g1, cr_rd]
    by_cases q : i = k
    · subst q; simp [hw]
    · simp [q]; exact e
  · simp only [h_take, n_g1, cr_rd]; grind
  · simp only [h_take, n_g1, cr_rd]; grind
  · simp only [h_take, n_g1, cr_rd]; grind
theorem r_C_start {cn c k : Nat} {C N : cr_M} {t e h : Int32} (hr : r_C cn C N) (hc : c < cn) (ht : t = N 0 3) (he : e = N 0 3 + (N 12 c * (5 - N 4 (4 * k + n_s N c)) + 3) / 4) (hh : h = nI k) (hf : N 21 c = -9 ∨ 0 ≤ N 21 c) : r_C cn (c_start C c h t e) (n_g1 N c k) := by
  obtain ⟨h1, h2, h3⟩ := hr
  obtain ⟨x1, x2, x3, x4, x5, x6, x7, x8, x9, x10, x11, x12⟩ := h3 c hc
  have hlt : C 11 c < 0 ↔ N 21 c = -9 := by
    rw [x11]
    constructor
    · intro q; rcases hf with z | z; exact z; grind
    · intro q; rw [q]; decide
  refine ⟨h1, by unfold c_start; split <;> simp [cr_rd] <;> exact h2, fun i hi => ?_⟩
  obtain ⟨y1, y2, y3, y4, y5, y6, y7, y8, y9, y10, y11, y12⟩ := h3 i hi
  unfold r_c1
  by_cases q : i = c
  · subst q
    unfold c_start
    by_cases z : N 21 i = -9
    · rw [if_pos (hlt.mpr z)]
      simp [cr_rd, n_g1, z, y2, y3, y4, y5, y6, y7, y8, ht, he, hh]
    · rw [if_neg (fun w => z (hlt.mp w))]
      simp [cr_rd, n_g1, z, y2, y3, y4, y5, y6, y7, y8, y11, ht, he, hh]
  · unfold c_start
    split <;> simp [cr_rd, n_g1, q, y1, y2, y3, y4, y5, y6, y7, y8, y9, y11, y12] <;> exact y10
theorem r_H_let {hn k m : Nat} {H N : cr_M} {t : Int32} (h : r_H hn H N) (hk : k < hn) (ht : t = N 0 3) (hm : N 22 k = nI (m + 1)) (hm2 : m < 1000) : r_H hn (h_let H k t) (n_los N k) := by
  obtain ⟨h1, h2, h3⟩ := h
  refine ⟨h1, by simp [h_let, cr_rd]; exact h2, fun i hi => ?_⟩
  obtain ⟨⟨g, g1, g2, g3⟩, b, c', d, e, f, g', i'⟩ := h3 i hi
  have hd : H 4 k = N 22 k := (h3 k hk).2.2.2.1
  have hz : (0 < N 22 k - 1) ↔ ¬ N 22 k - 1 = 0 := by
    rw [hm, nI_pred]
    constructor
    · intro q w; rw [w] at q; exact absurd q (by decide)
    · intro q
      have : m ≠ 0 := fun w => q (by rw [w]; rfl)
      exact (nI_lt (a := 0) (by omega) (by omega))
  refine ⟨⟨g, g1, by simp [h_let, cr_rd]; exact g2, fun s hs => by simp [n_los, n_bec, cr_rd]; exact g3 s hs⟩, ?_, ?_, ?_, ?_, ?_, ?_, ?_⟩
  · simp only [h_let, n_los, n_bec, cr_rd]; grind
  · simp only [h_let, n_los, n_bec, cr_rd]; grind
  · simp only [h_let, n_los, n_bec, cr_rd]; grind
  · simp [h_let, n_los, n_bec, cr_rd]; exact e
  · simp [h_let, n_los, n_bec, cr_rd]; exact f
  · simp [h_let, n_los, n_bec, cr_rd]; exact g'
  · simp [h_let, n_los, n_bec, cr_rd]; exact i'
theorem r_C_ring {cn : Nat} {C N : cr_M} (h : r_C cn C N) (h18 : ∀ c, c < cn → N 16 c = 4 → N 18 c = -9) : r_C cn (c_ring cn (N 0 3) C) (n_ring cn N) := by
  obtain ⟨h1, h2, h3⟩ := h
  refine ⟨h1, h2, fun i hi => ?_⟩
  obtain ⟨y1, y2, y3, y4, y5, y6, y7, y8, y9, y10, y11, y12⟩ := h3 i hi
  have y18 := h18 i hi
  unfold r_c1
  simp only [c_ring, n_ring]
  by_cases q : N 16 i = 4 ∧ N 19 i ≤ N 0 3
  · have e10 := y10 (Or.inr q.1)
    simp [y1, q.1, e10, q.2, hi, y2, y3, y4, y5, y6, y7, y11, y12, y18 q.1]
  · by_cases q4 : N 16 i = 4
    · have e10 := y10 (Or.inr q4)
      have : ¬ N 19 i ≤ N 0 3 := fun z => q ⟨q4, z⟩
      simp [y1, q4, e10, this, hi, y2, y3, y4, y5, y6, y7, y8, y9, y11, y12]
    · simp [y1, q4, hi, y2, y3, y4, y5, y6, y7, y8, y9, y11, y12]
      intro z; exact y10 (Or.inl z)
theorem r_C_lose {cn : Nat} {C N : cr_M} (h : r_C cn C N) : r_C cn (c_lose cn (N 0 3) C) (n_lose cn N) := by
  obtain ⟨h1, h2, h3⟩ := h
  refine ⟨h1, h2, fun i hi => ?_⟩
  obtain ⟨y1, y2, y3, y4, y5, y6, y7, y8, y9, y10, y11, y12⟩ := h3 i hi
  unfold r_c1
  simp only [c_lose, n_lose]
  by_cases q : N 16 i = 0 ∧ N 13 i < N 0 3 - N 17 i
  · simp [y1, y6, y8, q.1, q.2, hi, y2, y3, y4, y5, y7, y9, y11, y12]
  · have q' : ¬ (i < cn ∧ N 16 i = 0 ∧ N 13 i < N 0 3 - N 17 i) := fun z => q z.2
    simp [y1, y6, y8, q', y2, y3, y4, y5, y7, y9, y11, y12]
    exact y10
