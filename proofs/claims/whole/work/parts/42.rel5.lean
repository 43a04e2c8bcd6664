/-! calls -/
theorem n_J_c1 {hn cn tk c : Nat} {N N' : cr_M} (hJ : n_J hn cn tk N) (e : ∀ q i, (¬ i = c ∨ q = 0 ∨ q = 4 ∨ q = 5 ∨ q = 7 ∨ q = 22 ∨ q = 24) → N' q i = N q i) (hs : ∃ s, s < 4 ∧ N' 11 c = nI s) (hi : i_c hn N' tk (tk + 1) (tk + 1) c) (hct : ∀ k, (N' 16 c = 1 ∧ N' 18 c = nI k) ↔ (N 16 c = 1 ∧ N 18 c = nI k)) : n_J hn cn tk N' := by
  refine n_J_mk hJ (e 0 3 (by omega)) (e 0 4 (by omega)) (e 0 5 (by omega)) (by rw [e 0 7 (by omega)]; exact hJ.2.2.2.1) (fun k hk => ?_) (fun i hin => ?_) (fun k hk => ?_)
  · have := hJ.2.2.2.2.1 k hk
    unfold i_h at this ⊢
    rw [e 24 k (by omega), e 5 k (by omega), e 7 k (by omega)]
    exact ⟨this.1, fun s hs => by rw [e 4 _ (by omega)]; exact this.2.1 s hs, this.2.2⟩
  · by_cases h : i = c
    · subst h; exact ⟨hs, hi⟩
    · have := hJ.2.2.2.2.2.1 i hin
      unfold i_c at this ⊢
      rw [e 11 i (by omega), e 10 i (by omega), e 15 i (by omega), e 12 i (by omega), e 13 i (by omega), e 17 i (by omega), e 16 i (by omega), e 18 i (by omega), e 19 i (by omega), e 21 i (by omega)]
      exact ⟨(hJ.1.2.2.2.2 i hin).1, this⟩
  · rw [e 22 k (by omega), n_ct_congr (N := N') (N' := N) (fun i _ => ?_)]
    · exact hJ.2.2.2.2.2.2 k hk
    · by_cases h : i = c
      · subst h; exact hct k
      · rw [e 16 i (by omega), e 18 i (by omega)]
theorem r_C_1 {cn c : Nat} {C C' N N' : cr_M} (h : r_C cn C N) (hs : C' 0 0 = C 0 0) (eC : ∀ j i, 1 ≤ j → j < 13 → ¬ i = c → C' j i = C j i) (eN : ∀ q i, 10 ≤ q → q ≤ 21 → ¬ i = c → N' q i = N q i) (h1 : r_c1 C' N' c) : r_C cn C' N' := by
  obtain ⟨a, b, d⟩ := h
  refine ⟨a, hs.trans b, fun i hi => ?_⟩
  by_cases h : i = c
  · subst h; exact h1
  · have := d i hi
    unfold r_c1 at this ⊢
    rw [eC 1 i (by omega) (by omega) h, eC 2 i (by omega) (by omega) h, eC 3 i (by omega) (by omega) h, eC 4 i (by omega) (by omega) h, eC 5 i (by omega) (by omega) h, eC 6 i (by omega) (by omega) h, eC 7 i (by omega) (by omega) h, eC 8 i (by omega) (by omega) h, eC 9 i (by omega) (by omega) h, eC 10 i (by omega) (by omega) h, eC 11 i (by omega) (by omega) h, eC 12 i (by omega) (by omega) h, eN 16 i (by omega) (by omega) h, eN 10 i (by omega) (by omega) h, eN 15 i (by omega) (by omega) h, eN 11 i (by omega) (by omega) h, eN 12 i (by omega) (by omega) h, eN 13 i (by omega) (by omega) h, eN 14 i (by omega) (by omega) h, eN 17 i (by omega) (by omega) h, eN 18 i (by omega) (by omega) h, eN 19 i (by omega) (by omega) h, eN 21 i (by omega) (by omega) h, eN 20 i (by omega) (by omega) h]
    exact this
theorem up2o {N : cr_M} {a b c : Nat} {x y : Int32} {q i : Nat} (h : ¬ (q = a ∧ i = c)) (h2 : ¬ (q = b ∧ i = c)) : cr_up (cr_up N a c x) b c y q i = N q i := by
  rw [cr_rd, if_neg h2, cr_rd, if_neg h]
theorem x_I_ring {hn cn tk c e : Nat} {X N : cr_M} (ht : tk ≤ 20000) (hJ : n_J hn cn tk N) (hX : r_X hn cn X N) (hc : c < cn) (h0 : N 16 c = 0) (he : tk + 1 ≤ e) (he2 : e ≤ 30000) : x_I (cr_mg X 11 13 (c_back (fun j => X (11 + j)) c (nI e))) (cr_up (cr_up N 16 c 4) 19 c (nI e)) := by
  have hC := r_X_C hX
  have o : ∀ q i, (¬ (q = 16 ∧ i = c)) → (¬ (q = 19 ∧ i = c)) → cr_up (cr_up N 16 c 4) 19 c (nI e) q i = N q i := fun q i a b => up2o a b
  have e16 : cr_up (cr_up N 16 c 4) 19 c (nI e) 16 c = 4 := by rw [cr_rd, if_neg (by omega), cr_rd, if_pos ⟨rfl, rfl⟩]
  have e19 : cr_up (cr_up N 16 c 4) 19 c (nI e) 19 c = nI e := by rw [cr_rd, if_pos ⟨rfl, rfl⟩]
  refine x_I_C ht hX (n_J_c1 (c := c) hJ (fun q i h => o q i (by omega) (by omega)) (by rw [o 11 c (by omega) (by omega)]; exact (hJ.1.2.2.2.2 c hc).1) ?_ ?_) (r_C_1 (c := c) hC rfl (fun j i a b h => by unfold c_back; rw [up2o (fun z => h z.2) (fun z => h z.2)]) (fun q i a b h => o q i (fun z => h z.2) (fun z => h z.2)) ?_) (fun q i h => o q i (by omega) (by omega)) (o 0 3 (by omega) (by omega)) (o 0 6 (by omega) (by omega)) (o 0 7 (by omega) (by omega)) (fun i _ => ⟨o 1 i (by omega) (by omega), o 2 i (by omega) (by omega), o 3 i (by omega) (by omega)⟩)
  · have := hJ.2.2.2.2.2.1 c hc
    unfold i_c at this ⊢
    rw [e16, e19, o 10 c (by omega) (by omega), o 15 c (by omega) (by omega), o 12 c (by omega) (by omega), o 13 c (by omega) (by omega), o 17 c (by omega) (by omega), o 18 c (by omega) (by omega), o 21 c (by omega) (by omega)]
    obtain ⟨c1, c2, c3, c4, c5, c6, c7, c8, c9⟩ := this
    exact ⟨c1, c2, c3, c4, fun z => absurd z (by decide), fun _ => ⟨e, he, he2, rfl⟩, fun _ _ => c7 (by rw [h0]; decide) (by rw [h0]; decide), fun _ z => absurd rfl z, c9⟩
  · intro k
    rw [e16, h0]
    exact ⟨fun z => absurd z.1 (by decide), fun z => absurd z.1 (by decide)⟩
  · have := hC.2.2 c hc
    unfold r_c1 at this ⊢
    rw [e16, e19, o 10 c (by omega) (by omega), o 15 c (by omega) (by omega), o 11 c (by omega) (by omega), o 12 c (by omega) (by omega), o 13 c (by omega) (by omega), o 14 c (by omega) (by omega), o 17 c (by omega) (by omega), o 18 c (by omega) (by omega), o 21 c (by omega) (by omega), o 20 c (by omega) (by omega)]
    obtain ⟨y1, y2, y3, y4, y5, y6, y7, y8, y9, y10, y11, y12⟩ := this
    refine ⟨by simp [c_back, cr_rd], y2, y3, y4, y5, y6, y7, y8, y9, fun _ => by simp [c_back, cr_rd], y11, y12⟩
theorem x_I_leave {hn cn tk c : Nat} {X N : cr_M} (ht : tk ≤ 20000) (hJ : n_J hn cn tk N) (hX : r_X hn cn X N) (hc : c < cn) (h0 : N 16 c = 0 ∨ N 16 c = 4) : x_I (cr_up X 12 c 3) (cr_up (cr_up N 16 c 3) 19 c (-9)) := by
  have hC := r_X_C hX
  have o : ∀ q i, (¬ (q = 16 ∧ i = c)) → (¬ (q = 19 ∧ i = c)) → cr_up (cr_up N 16 c 3) 19 c (-9) q i = N q i := fun q i a b => up2o a b
  have e16 : cr_up (cr_up N 16 c 3) 19 c (-9) 16 c = 3 := by rw [cr_rd, if_neg (by omega), cr_rd, if_pos ⟨rfl, rfl⟩]
  have e19 : cr_up (cr_up N 16 c 3) 19 c (-9) 19 c = -9 := by rw [cr_rd, if_pos ⟨rfl, rfl⟩]
  have n1 : ¬ N 16 c = 1 := by rcases h0 with z | z <;> rw [z] <;> decide
  have n2 : ¬ N 16 c = 2 := by rcases h0 with z | z <;> rw [z] <;> decide
  rw [show cr_up X 12 c 3 = cr_mg X 11 13 (cr_up (fun q => X (11 + q)) 1 c 3) from cr_up_mg (k0 := 11) (j := 1) (by omega)]
  refine x_I_C ht hX (n_J_c1 (c := c) hJ (fun q i h => o q i (by omega) (by omega)) (by rw [o 11 c (by omega) (by omega)]; exact (hJ.1.2.2.2.2 c hc).1) ?_ ?_) (r_C_1 (c := c) hC rfl (fun j i a b h => by rw [cr_rd, if_neg (fun z => h z.2)]) (fun q i a b h => o q i (fun z => h z.2) (fun z => h z.2)) ?_) (fun q i h => o q i (by omega) (by omega)) (o 0 3 (by omega) (by omega)) (o 0 6 (by omega) (by omega)) (o 0 7 (by omega) (by omega)) (fun i _ => ⟨o 1 i (by omega) (by omega), o 2 i (by omega) (by omega), o 3 i (by omega) (by omega)⟩)
  · have := hJ.2.2.2.2.2.1 c hc
    unfold i_c at this ⊢
    rw [e16, e19, o 10 c (by omega) (by omega), o 15 c (by omega) (by omega), o 12 c (by omega) (by omega), o 13 c (by omega) (by omega), o 17 c (by omega) (by omega), o 18 c (by omega) (by omega), o 21 c (by omega) (by omega)]
    obtain ⟨c1, c2, c3, c4, c5, c6, c7, c8, c9⟩ := this
    exact ⟨c1, c2, c3, c4, fun z => absurd z (by decide), fun z => absurd z (by decide), fun _ _ => c7 n1 n2, fun _ _ => rfl, c9⟩
  · intro k
    rw [e16]
    exact ⟨fun z => absurd z.1 (by decide), fun z => absurd z.1 n1⟩
  · have := hC.2.2 c hc
    unfold r_c1 at this ⊢
    rw [e16, e19, o 10 c (by omega) (by omega), o 15 c (by omega) (by omega), o 11 c (by omega) (by omega), o 12 c (by omega) (by omega), o 13 c (by omega) (by omega), o 14 c (by omega) (by omega), o 17 c (by omega) (by omega), o 18 c (by omega) (by omega), o 21 c (by omega) (by omega), o 20 c (by omega) (by omega)]
    obtain ⟨y1, y2, y3, y4, y5, y6, y7, y8, y9, y10, y11, y12⟩ := this
    refine ⟨by simp [cr_rd], y2, y3, y4, y5, y6, y7, y8, y9, fun z => ?_, y11, y12⟩
    rcases z with z | z <;> exact absurd z (by decide)
theorem x_I_urge {hn cn tk c : Nat} {X N : cr_M} (ht : tk ≤ 20000) (hJ : n_J hn cn tk N) (hX : r_X hn cn X N) (hc : c < cn) : x_I (cr_up (cr_up X 13 c 2) 14 c (-9)) (cr_up (cr_up N 10 c 2) 15 c (-9)) := by
  have hC := r_X_C hX
  have o : ∀ q i, (¬ (q = 10 ∧ i = c)) → (¬ (q = 15 ∧ i = c)) → cr_up (cr_up N 10 c 2) 15 c (-9) q i = N q i := fun q i a b => up2o a b
  have e10 : cr_up (cr_up N 10 c 2) 15 c (-9) 10 c = 2 := by rw [cr_rd, if_neg (by omega), cr_rd, if_pos ⟨rfl, rfl⟩]
  have e15 : cr_up (cr_up N 10 c 2) 15 c (-9) 15 c = -9 := by rw [cr_rd, if_pos ⟨rfl, rfl⟩]
  rw [show cr_up (cr_up X 13 c 2) 14 c (-9) = cr_mg X 11 13 (cr_up (cr_up (fun q => X (11 + q)) 2 c 2) 3 c (-9)) from by
    rw [show cr_up X 13 c 2 = cr_mg X 11 13 (cr_up (fun q => X (11 + q)) 2 c 2) from cr_up_mg (k0 := 11) (j := 2) (by omega)]
    rw [show cr_up (cr_mg X 11 13 (cr_up (fun q => X (11 + q)) 2 c 2)) 14 c (-9) = _ from cr_up_mg (k0 := 11) (n := 13) (j := 3) (by omega), cr_mg_mg]
    funext q
    by_cases h : 11 ≤ q ∧ q < 11 + 13
    · obtain ⟨a, rfl⟩ : ∃ a, q = 11 + a := ⟨q - 11, by omega⟩
      rw [cr_mg_in (by omega), cr_mg_in (by omega)]
      exact cr_up_cg (cr_mg_in (by omega))
    · rw [cr_mg_out (by omega), cr_mg_out (by omega)]]
  refine x_I_C ht hX (n_J_c1 (c := c) hJ (fun q i h => o q i (by omega) (by omega)) (by rw [o 11 c (by omega) (by omega)]; exact (hJ.1.2.2.2.2 c hc).1) ?_ ?_) (r_C_1 (c := c) hC rfl (fun j i a b h => up2o (fun z => h z.2) (fun z => h z.2)) (fun q i a b h => o q i (fun z => h z.2) (fun z => h z.2)) ?_) (fun q i h => o q i (by omega) (by omega)) (o 0 3 (by omega) (by omega)) (o 0 6 (by omega) (by omega)) (o 0 7 (by omega) (by omega)) (fun i _ => ⟨o 1 i (by omega) (by omega), o 2 i (by omega) (by omega), o 3 i (by omega) (by omega)⟩)
  · have := hJ.2.2.2.2.2.1 c hc
    unfold i_c at this ⊢
    rw [e10, e15, o 12 c (by omega) (by omega), o 13 c (by omega) (by omega), o 17 c (by omega) (by omega), o 16 c (by omega) (by omega), o 18 c (by omega) (by omega), o 19 c (by omega) (by omega), o 21 c (by omega) (by omega)]
    exact ⟨Or.inr ⟨by decide, rfl⟩, this.2⟩
  · intro k
    rw [o 16 c (by omega) (by omega), o 18 c (by omega) (by omega)]
  · have := hC.2.2 c hc
    unfold r_c1 at this ⊢
    rw [e10, e15, o 16 c (by omega) (by omega), o 11 c (by omega) (by omega), o 12 c (by omega) (by omega), o 13 c (by omega) (by omega), o 14 c (by omega) (by omega), o 17 c (by omega) (by omega), o 18 c (by omega) (by omega), o 19 c (by omega) (by omega), o 21 c (by omega) (by omega), o 20 c (by omega) (by omega)]
    obtain ⟨y1, y2, y3, y4, y5, y6, y7, y8, y9, y10, y11, y12⟩ := this
    exact ⟨y1, by simp [cr_rd], by simp [cr_rd], y4, y5, y6, y7, y8, y9, y10, y11, y12⟩
/-! a new call -/
theorem n_cadd_o {cn q i : Nat} {k s l p o : Int32} {N : cr_M} (h : ¬ (10 ≤ q ∧ q ≤ 21 ∧ i = cn)) (h0 : ¬ (q = 0 ∧ i = 5)) : n_cadd cn k s l p o N q i = N q i := by
  unfold n_cadd
  rw [cr_rd, if_neg (by omega), cr_rd, if_neg (by omega), cr_rd, if_neg (by omega), cr_rd, if_neg (by omega), cr_rd, if_neg (by omega), cr_rd, if_neg (by omega), cr_rd, if_neg (by omega), cr_rd, if_neg (by omega), cr_rd, if_neg (by omega), cr_rd, if_neg (by omega), cr_rd, if_neg (by omega), cr_rd, if_neg (by omega), cr_rd, if_neg (by omega)]
theorem n_cadd_c {cn : Nat} {k s l p o : Int32} {N : cr_M} : n_cadd cn k s l p o N 10 cn = k ∧ n_cadd cn k s l p o N 11 cn = s ∧ n_cadd cn k s l p o N 12 cn = l ∧ n_cadd cn k s l p o N 13 cn = p ∧ n_cadd cn k s l p o N 14 cn = N 0 3 ∧ n_cadd cn k s l p o N 15 cn = (if k = 1 then o else -9) ∧ n_cadd cn k s l p o N 16 cn = 0 ∧ n_cadd cn k s l p o N 17 cn = N 0 3 ∧ n_cadd cn k s l p o N 18 cn = -9 ∧ n_cadd cn k s l p o N 19 cn = -9 ∧ n_cadd cn k s l p o N 20 cn = -9 ∧ n_cadd cn k s l p o N 21 cn = -9 := by
  unfold n_cadd
  simp only [cr_rd]
  simp
theorem x_I_call {hn cn tk s l p : Nat} {k o : Int32} {X N C' : cr_M} (ht : tk ≤ 20000) (hJ : n_J hn cn tk N) (hX : r_X hn cn X N) (h2 : cn < 200) (hs : s < 4) (hl : 1 ≤ l) (hl2 : l ≤ 1000) (hp : p ≤ 5000) (ho : k = 1 → ∃ j, j < hn ∧ o = nI j) (hC' : ∀ j, j < 13 → C' j = c_wait (cr_up (c_desc (c_add (fun j => X (11 + j)) cn k (if k = 1 then o else -9)) cn (nI s) (nI l) (nI p)) 7 cn (X 1 4)) cn (X 1 4) j) : x_I (cr_mg X 11 13 C') (n_cadd cn k (nI s) (nI l) (nI p) o N) := by
  have hC := r_X_C hX
  have z5 := (r_X_z hX).2.2.2.2.1
  have h3 := hJ.2.1
  obtain ⟨d10, d11, d12, d13, d14, d15, d16, d17, d18, d19, d20, d21⟩ := n_cadd_c (cn := cn) (k := k) (s := nI s) (l := nI l) (p := nI p) (o := o) (N := N)
  have oo : ∀ q i, ¬ (10 ≤ q ∧ q ≤ 21 ∧ i = cn) → ¬ (q = 0 ∧ i = 5) → n_cadd cn k (nI s) (nI l) (nI p) o N q i = N q i := fun q i a b => n_cadd_o a b
  refine x_I_C (cn' := cn + 1) ht hX ?_ (r_C_cg (C := c_wait (cr_up (c_desc (c_add (fun j => X (11 + j)) cn k (if k = 1 then o else -9)) cn (nI s) (nI l) (nI p)) 7 cn (X 1 4)) cn (X 1 4)) ?_ hC' (fun _ _ _ => rfl)) (fun q i h => oo q i (by omega) (by omega)) (oo 0 3 (by omega) (by omega)) (oo 0 6 (by omega) (by omega)) (oo 0 7 (by omega) (by omega)) (fun i _ => ⟨oo 1 i (by omega) (by omega), oo 2 i (by omega) (by omega), oo 3 i (by omega) (by omega)⟩)
  · obtain ⟨g1, g2, g3, g4, g5, g6, g7⟩ := id hJ
    have hn1 : (k = 1 ∧ ∃ j, j < hn ∧ (if k = 1 then o else -9) = nI j) ∨ (¬ k = 1 ∧ (if k = 1 then o else -9) = -9) := by
      by_cases q : k = 1
      · rw [if_pos q]; exact Or.inl ⟨q, ho q⟩
      · rw [if_neg q]; exact Or.inr ⟨q, rfl⟩
    refine ⟨⟨g1.1, by omega, (oo 0 4 (by omega) (by omega)).trans g1.2.2.1, ?_, fun c hc => ?_⟩, (oo 0 3 (by omega) (by omega)).trans g2, g3, by rw [oo 0 7 (by omega) (by omega)]; exact g4, fun i hi => ?_, fun c hc => ?_, fun i hi => ?_⟩
    · unfold n_cadd; simp only [cr_rd]; simp; exact nI_1 cn
    · rcases Nat.lt_or_ge c cn with q | q
      · rw [oo 11 c (by omega) (by omega), oo 15 c (by omega) (by omega)]; exact g1.2.2.2.2 c q
      · have e : c = cn := by omega
        subst e
        rw [d11, d15]
        refine ⟨⟨s, hs, rfl⟩, ?_⟩
        rcases hn1 with z | z
        · exact Or.inr z.2
        · exact Or.inl z.2
    · have := g5 i hi
      unfold i_h at this ⊢
      rw [oo 24 i (by omega) (by omega), oo 5 i (by omega) (by omega), oo 7 i (by omega) (by omega)]
      exact ⟨this.1, fun s hs => by rw [oo 4 _ (by omega) (by omega)]; exact this.2.1 s hs, this.2.2⟩
    · rcases Nat.lt_or_ge c cn with q | q
      · have := g6 c q
        unfold i_c at this ⊢
        rw [oo 10 c (by omega) (by omega), oo 15 c (by omega) (by omega), oo 12 c (by omega) (by omega), oo 13 c (by omega) (by omega), oo 17 c (by omega) (by omega), oo 16 c (by omega) (by omega), oo 18 c (by omega) (by omega), oo 19 c (by omega) (by omega), oo 21 c (by omega) (by omega)]
        exact this
      · have e : c = cn := by omega
        subst e
        unfold i_c
        rw [d10, d15, d12, d13, d17, d16, d18, d19, d21]
        exact ⟨hn1, ⟨l, hl, hl2, rfl⟩, ⟨p, hp, rfl⟩, ⟨tk, Nat.le_refl _, h3⟩, fun z => absurd z (by decide), fun z => absurd z (by decide), fun _ _ => rfl, fun _ _ => rfl, Or.inl rfl⟩
    · rw [oo 22 i (by omega) (by omega), n_ct, d16, if_neg (fun z => absurd z.1 (by decide)), n_ct_congr (N := n_cadd cn k (nI s) (nI l) (nI p) o N) (N' := N) (fun c hc => by rw [oo 16 c (by omega) (by omega), oo 18 c (by omega) (by omega)])]
      exact g7 i hi
  · obtain ⟨a, b, d⟩ := hC
    refine ⟨by omega, ?_, fun c hc => ?_⟩
    · unfold c_wait c_desc c_add; simp only [cr_rd]; simp; exact nI_1 cn
    · rcases Nat.lt_or_ge c cn with q | q
      · have := d c q
        have hne : ¬ c = cn := by omega
        have hc' : ∀ j, c_wait (cr_up (c_desc (c_add (fun j => X (11 + j)) cn k (if k = 1 then o else -9)) cn (nI s) (nI l) (nI p)) 7 cn (X 1 4)) cn (X 1 4) (j + 1) c = X (11 + (j + 1)) c := by
          intro j
          unfold c_wait c_desc c_add
          rw [cr_rd, if_neg (by omega), cr_rd, if_neg (by omega), cr_rd, if_neg (by omega), cr_rd, if_neg (by omega), cr_rd, if_neg (by omega), cr_rd, if_neg (by omega), cr_rd, if_neg (by omega), cr_rd, if_neg (by omega), cr_rd, if_neg (by omega), cr_rd, if_neg (by omega), cr_rd, if_neg (by omega), cr_rd, if_neg (by omega)]
        unfold r_c1 at this ⊢
        obtain ⟨y1, y2, y3, y4, y5, y6, y7, y8, y9, y10, y11, y12⟩ := this
        rw [oo 16 c (by omega) (by omega), oo 10 c (by omega) (by omega), oo 15 c (by omega) (by omega), oo 11 c (by omega) (by omega), oo 12 c (by omega) (by omega), oo 13 c (by omega) (by omega), oo 14 c (by omega) (by omega), oo 17 c (by omega) (by omega), oo 18 c (by omega) (by omega), oo 19 c (by omega) (by omega), oo 21 c (by omega) (by omega), oo 20 c (by omega) (by omega)]
        exact ⟨(hc' 0).trans y1, (hc' 1).trans y2, (hc' 2).trans y3, (hc' 3).trans y4, (hc' 4).trans y5, (hc' 5).trans y6, (hc' 6).trans y7, (hc' 7).trans y8, (hc' 8).trans y9, fun z => (hc' 9).trans (y10 z), (hc' 10).trans y11, (hc' 11).trans y12⟩
      · have e : c = cn := by omega
        subst e
        unfold r_c1
        rw [d10, d11, d12, d13, d14, d15, d16, d17, d18, d19, d20, d21]
        unfold c_wait c_desc c_add
        simp only [cr_rd]
        simp
        exact z5
/-! passing on -/
theorem n_pass_o {N : cr_M} {c k q i : Nat} {s l : Int32} (h : ¬ ((q = 16 ∨ q = 11 ∨ q = 12 ∨ q = 17 ∨ q = 18 ∨ q = 19) ∧ i = c)) (h2 : ¬ ((q = 22 ∨ q = 5 ∨ q = 6) ∧ i = k)) : n_pass N c s l k q i = N q i := by
  unfold n_pass n_los n_bec
  rw [cr_rd, if_neg (by omega), cr_rd, if_neg (by omega), cr_rd, if_neg (by omega), cr_rd, if_neg (by omega), cr_rd, if_neg (by omega), cr_rd, if_neg (by omega), cr_rd, if_neg (by omega), cr_rd, if_neg (by omega), cr_rd, if_neg (by omega)]
theorem n_pass_c {N : cr_M} {c k : Nat} {s l : Int32} : n_pass N c s l k 16 c = 0 ∧ n_pass N c s l k 11 c = s ∧ n_pass N c s l k 12 c = l ∧ n_pass N c s l k 17 c = N 0 3 ∧ n_pass N c s l k 18 c = -9 ∧ n_pass N c s l k 19 c = -9 ∧ n_pass N c s l k 22 k = N 22 k - 1 ∧ n_pass N c s l k 5 k = (if N 22 k - 1 = 0 then 1 else 2) := by
  unfold n_pass n_los n_bec
  simp only [cr_rd]
  simp
theorem x_I_pass {hn cn tk c k s l : Nat} {X N C' H' : cr_M} (ht : tk ≤ 20000) (hJ : n_J hn cn tk N) (hX : r_X hn cn X N) (hc : c < cn) (h16 : N 16 c = 1) (hk : k < hn) (h18 : N 18 c = nI k) (hs : s < 4) (hl : 1 ≤ l) (hl2 : l ≤ 1000) (hC' : ∀ j, j < 13 → C' j = c_wait (c_desc (fun j => X (11 + j)) c (nI s) (nI l) (X 17 c)) c (X 1 4) j) (hH' : ∀ j, j < 9 → H' j = h_let (fun j => X (2 + j)) k (X 1 4) j) : x_I (cr_mg (cr_mg X 11 13 C') 2 9 H') (n_pass N c (nI s) (nI l) k) := by
  have hC := r_X_C hX
  have hH := r_X_H hX
  have h10 := hH.1
  have z5 := (r_X_z hX).2.2.2.2.1
  have h3 := hJ.2.1
  obtain ⟨d16, d11, d12, d17, d18, d19, d22, d5⟩ := n_pass_c (N := N) (c := c) (k := k) (s := nI s) (l := nI l)
  have oo : ∀ q i, ¬ ((q = 16 ∨ q = 11 ∨ q = 12 ∨ q = 17 ∨ q = 18 ∨ q = 19) ∧ i = c) → ¬ ((q = 22 ∨ q = 5 ∨ q = 6) ∧ i = k) → n_pass N c (nI s) (nI l) k q i = N q i := fun q i a b => n_pass_o a b
  have hld := hJ.2.2.2.2.2.2 k hk
  have hpos := n_ct_pos hc h16 h18
  have hle := n_ct_le N k cn
  have h200 := hC.1
  obtain ⟨m, hm⟩ : ∃ m, n_ct N k cn = m + 1 := ⟨n_ct N k cn - 1, by omega⟩
  have hJ' : n_J hn cn tk (n_pass N c (nI s) (nI l) k) := by
    refine n_J_mk hJ (oo 0 3 (by omega) (by omega)) (oo 0 4 (by omega) (by omega)) (oo 0 5 (by omega) (by omega)) (by rw [oo 0 7 (by omega) (by omega)]; exact hJ.2.2.2.1) (fun i hi => ?_) (fun i hi => ?_) (fun i hi => ?_)
    · have := hJ.2.2.2.2.1 i hi
      unfold i_h at this ⊢
      rw [oo 24 i (by omega) (by omega), oo 7 i (by omega) (by omega)]
      refine ⟨this.1, fun s hs => by rw [oo 4 _ (by omega) (by omega)]; exact this.2.1 s hs, fun z => ?_⟩
      by_cases q : i = k
      · subst q
        rw [d5] at z
        split at z <;> exact absurd z (by decide)
      · rw [oo 5 i (by omega) (by omega)] at z
        exact this.2.2 z
    · by_cases q : i = c
      · subst q
        refine ⟨⟨s, hs, d11⟩, ?_⟩
        have := hJ.2.2.2.2.2.1 i hi
        unfold i_c at this ⊢
        rw [d16, d12, d17, d18, d19, oo 10 i (by omega) (by omega), oo 15 i (by omega) (by omega), oo 13 i (by omega) (by omega), oo 21 i (by omega) (by omega)]
        obtain ⟨c1, c2, c3, c4, c5, c6, c7, c8, c9⟩ := this
        exact ⟨c1, ⟨l, hl, hl2, rfl⟩, c3, ⟨tk, Nat.le_refl _, h3⟩, fun z => absurd z (by decide), fun z => absurd z (by decide), fun _ _ => rfl, fun _ _ => rfl, c9⟩
      · rw [oo 11 i (by omega) (by omega)]
        refine ⟨(hJ.1.2.2.2.2 i hi).1, ?_⟩
        have := hJ.2.2.2.2.2.1 i hi
        unfold i_c at this ⊢
        rw [oo 16 i (by omega) (by omega), oo 12 i (by omega) (by omega), oo 17 i (by omega) (by omega), oo 18 i (by omega) (by omega), oo 19 i (by omega) (by omega), oo 10 i (by omega) (by omega), oo 15 i (by omega) (by omega), oo 13 i (by omega) (by omega), oo 21 i (by omega) (by omega)]
        exact this
    · by_cases q : i = k
      · subst q
        rw [d22, hld, n_ct_one (N := n_pass N c (nI s) (nI l) i) (N' := N) hc (by rw [d16]; exact fun z => absurd z.1 (by decide)) ⟨h16, h18⟩ (fun z hz hzc => by rw [oo 16 z (by omega) (by omega), oo 18 z (by omega) (by omega)]), nI_pred]
      · rw [oo 22 i (by omega) (by omega), hJ.2.2.2.2.2.2 i hi, n_ct_congr (N' := n_pass N c (nI s) (nI l) k) (fun z hz => ?_)]
        by_cases e : z = c
        · subst e
          rw [d16, h18, nI_eq (by omega) (by omega)]
          exact ⟨fun y => absurd y.2.symm q, fun y => absurd y.1 (by decide)⟩
        · rw [oo 16 z (by omega) (by omega), oo 18 z (by omega) (by omega)]
  refine ⟨hn, cn, tk, ht, hJ', r_X_mk (H' := H') (C' := C') (fun j hj => cr_mg_in hj) (fun j hj => by rw [cr_mg_out (by omega)]; exact cr_mg_in hj) ?_ ?_ ?_ ?_ ?_ ?_ ?_ ?_ ?_ ?_⟩
  · have hl1 := r_H_let (t := X 1 4) (m := m) hH hk z5 (by rw [hld, hm]) (by omega)
    refine r_H_cg (N := n_los N k) hl1 hH' (fun q i h => ?_)
    have e1 : n_pass N c (nI s) (nI l) k q i = n_los N k q i := by
      unfold n_pass n_los n_bec
      simp only [cr_rd]
      rcases h with rfl | rfl | rfl | rfl | rfl | rfl | rfl | rfl <;> simp
    exact e1
  · refine r_C_cg (C := c_wait (c_desc (fun j => X (11 + j)) c (nI s) (nI l) (X 17 c)) c (X 1 4)) (r_C_1 (c := c) hC ?_ ?_ ?_ ?_) hC' (fun _ _ _ => rfl)
    · unfold c_wait c_desc; simp only [cr_rd]; simp
    · intro j i a b h
      unfold c_wait c_desc
      rw [cr_rd, if_neg (fun z => h z.2), cr_rd, if_neg (fun z => h z.2), cr_rd, if_neg (fun z => h z.2), cr_rd, if_neg (fun z => h z.2), cr_rd, if_neg (fun z => h z.2), cr_rd, if_neg (fun z => h z.2)]
    · intro q i a b h
      exact oo q i (fun z => h z.2) (by omega)
    · have := hC.2.2 c hc
      unfold r_c1 at this ⊢
      obtain ⟨y1, y2, y3, y4, y5, y6, y7, y8, y9, y10, y11, y12⟩ := this
      rw [d16, d11, d12, d17, d18, d19, oo 10 c (by omega) (by omega), oo 15 c (by omega) (by omega), oo 13 c (by omega) (by omega), oo 14 c (by omega) (by omega), oo 21 c (by omega) (by omega), oo 20 c (by omega) (by omega)]
      unfold c_wait c_desc
      simp only [cr_rd]
      simp
      exact ⟨y2, y3, y6, y7, z5, y11, y12⟩
  · rw [cr_mg_out (by omega), cr_mg_out (by omega), oo 0 3 (by omega) (by omega)]; exact z5
  · rw [cr_mg_out (by omega), cr_mg_out (by omega), oo 0 6 (by omega) (by omega)]; exact (r_X_z hX).2.2.2.2.2.1
  · rw [cr_mg_out (by omega), cr_mg_out (by omega), oo 0 7 (by omega) (by omega)]; exact (r_X_z hX).2.2.2.2.2.2
  · exact u_H_cg (u_H_let (r_X_u hX) hk) hH'
  · intro q i a b d e
    show cr_mg (cr_mg X 11 13 C') 2 9 H' (27 + q) i = 0
    rw [cr_mg_out (by omega), cr_mg_out (by omega)]
    exact hX.2.1 q i a b d e
  · intro q i a b d
    rw [oo q i (by omega) (by omega)]
    exact hX.2.2.1 q i a b d
  · intro i hi
    rw [cr_mg_out (by omega), cr_mg_out (by omega), cr_mg_out (by omega), cr_mg_out (by omega), oo 2 i (by omega) (by omega), oo 3 i (by omega) (by omega)]
    exact hX.2.2.2.1 i hi
  · intro i hi
    rw [cr_mg_out (by omega), cr_mg_out (by omega), oo 1 i (by omega) (by omega)]
    exact hX.2.2.2.2 i hi
/-! ticks -/
theorem n_ti_fr {hn cn q i : Nat} {N : cr_M} (h : ¬ n_ch q) (h0 : ¬ (q = 0 ∧ i = 3)) : ∀ j, n_ti hn cn N j q i = N q i := by
  intro j
  induction j with
  | zero => rfl
  | succ j ih => rw [n_ti, n_go_fr h h0, ih]
theorem n_D_ti {hn cn tk : Nat} {N : cr_M} (hJ : n_J hn cn tk N) : ∀ j, tk + j ≤ 21000 → n_D hn cn N (n_ti hn cn N j) := by
  intro j
  induction j with
  | zero => intro _; exact n_D_rf _ _ _
  | succ j ih =>
    intro h
    have hJ2 := n_J_ti hJ j (by omega)
    exact n_D_go (n_I_ON hJ2) hJ2.1 (ih (by omega))
theorem x_I_ticks {hn cn tk m : Nat} {X N F' : cr_M} (hJ : n_J hn cn tk N) (hX : r_X hn cn X N) (hm : tk + m ≤ 20000) (hR : r_F hn cn F' (n_ti hn cn N m)) : x_I (cr_mg X 1 25 F') (n_ti hn cn N m) := by
  refine ⟨hn, cn, tk + m, hm, n_J_ti hJ m (by omega), r_F_cg hR (fun j hj => cr_mg_in (by omega)) (fun _ _ _ _ => rfl), fun q i a b c d => ?_, fun q i a b c => ?_, fun i hi => ?_, fun i hi => ?_⟩
  · show cr_mg X 1 25 F' (27 + q) i = 0
    rw [cr_mg_out (by omega)]
    exact hX.2.1 q i a b c d
  · rcases n_D_ti hJ m (by omega) q i with z | z | z | z
    · rw [z]; exact hX.2.2.1 q i a b c
    · omega
    · unfold n_cc at z; omega
    · omega
  · rw [cr_mg_out (by omega), cr_mg_out (by omega), n_ti_fr (by unfold n_ch; omega) (by omega), n_ti_fr (by unfold n_ch; omega) (by omega)]
    exact hX.2.2.2.1 i hi
  · rw [cr_mg_out (by omega), n_ti_fr (by unfold n_ch; omega) (by omega)]
    exact hX.2.2.2.2 i hi
/-! counts -/
theorem c_gw_n {hn cn tk : Nat} {C N : cr_M} {x : Int32} (hJ : n_J hn cn tk N) (hC : r_C cn C N) : ∀ j, j ≤ cn → c_gw C x j = n_wi N x j := by
  intro j
  induction j with
  | zero => intro _; rfl
  | succ j ih =>
    intro hj
    rw [c_gw, n_wi, ih (by omega)]
    have e := (hC.2.2 j (by omega)).2.2.2.2.2.2.2.2.2.2.1
    have h9 := (hJ.2.2.2.2.2.1 j (by omega)).2.2.2.2.2.2.2.2
    have e2 : (0 ≤ C 11 j ∧ C 11 j ≤ x) ↔ (¬ N 21 j = -9 ∧ N 21 j ≤ x) := by
      rw [e]
      constructor
      · rintro ⟨a, b⟩; exact ⟨fun z => by rw [z] at a; exact absurd a (by decide), b⟩
      · rintro ⟨a, b⟩
        rcases h9 with z | z
        · exact absurd z a
        · exact ⟨z, b⟩
    by_cases h : 0 ≤ C 11 j ∧ C 11 j ≤ x
    · rw [if_pos h, bI_t (e2.mp h)]
    · rw [if_neg h, bI_f (fun z => h (e2.mpr z)), Int32.add_zero]
theorem c_cd_n {cn : Nat} {C N : cr_M} {x : Int32} (hC : r_C cn C N) : ∀ j, j ≤ cn → c_cd C x j = n_is N x j := by
  intro j
  induction j with
  | zero => intro _; rfl
  | succ j ih =>
    intro hj
    rw [c_cd, n_is, ih (by omega), (hC.2.2 j (by omega)).1]
    by_cases h : N 16 j = x
    · rw [if_pos h, bI_t h]
    · rw [if_neg h, bI_f h, Int32.add_zero]
theorem h_cf_n {hn : Nat} {H N : cr_M} (hH : r_H hn H N) : ∀ j, j ≤ hn → h_cf H j = n_fr N j := by
  intro j
  induction j with
  | zero => intro _; rfl
  | succ j ih =>
    intro hj
    rw [h_cf, n_fr, ih (by omega), (hH.2.2 j (by omega)).2.1]
    by_cases h : N 5 j = 1
    · rw [if_pos h, bI_t h]
    · rw [if_neg h, bI_f h, Int32.add_zero]
theorem c_fw_n {cn : Nat} {C N : cr_M} {x : Int32} (hC : r_C cn C N) : ∀ n j, j + n = cn → c_fw C x n j = n_fw N x n j := by
  intro n
  induction n with
  | zero => intro j _; rfl
  | succ n ih =>
    intro j hj
    have h := hC.2.2 j (by omega)
    rw [c_fw, n_fw, ih (j + 1) (by omega), h.1, h.2.2.2.2.2.2.2.2.1]
