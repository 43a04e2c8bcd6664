/-! the room: ways with an open end -/
def cr_EE (Y : cr_Y) (pc : Nat) (lv : List (Nat × cr_AV)) (st : List cr_AV) (M : cr_M) (P : Option cr_AV × cr_M → Prop) : Prop := ∃ r, P r ∧ cr_Ev Y pc lv st M r
theorem cr_EEl {Y : cr_Y} {pc pc' : Nat} {lv lv' : List (Nat × cr_AV)} {st st' : List cr_AV} {M M' : cr_M} {P : Option cr_AV × cr_M → Prop} (f : ∀ r, cr_Ev Y pc' lv' st' M' r → cr_Ev Y pc lv st M r) (k : cr_EE Y pc' lv' st' M' P) : cr_EE Y pc lv st M P := by
  obtain ⟨r, h1, h2⟩ := k
  exact ⟨r, h1, f r h2⟩
theorem cr_EEb {Y : cr_Y} {pc pc1 pc2 : Nat} {lv lv1 lv2 : List (Nat × cr_AV)} {st st1 st2 : List cr_AV} {M M1 M2 : cr_M} {P : Option cr_AV × cr_M → Prop} {c : Prop} (f : ∀ r, (c → cr_Ev Y pc1 lv1 st1 M1 r) → (¬ c → cr_Ev Y pc2 lv2 st2 M2 r) → cr_Ev Y pc lv st M r) (k1 : c → cr_EE Y pc1 lv1 st1 M1 P) (k2 : ¬ c → cr_EE Y pc2 lv2 st2 M2 P) : cr_EE Y pc lv st M P := by
  by_cases h : c
  · obtain ⟨r, h1, h2⟩ := k1 h
    exact ⟨r, h1, f r (fun _ => h2) (fun n => absurd h n)⟩
  · obtain ⟨r, h1, h2⟩ := k2 h
    exact ⟨r, h1, f r (fun n => absurd n h) (fun _ => h2)⟩
theorem cr_EEn {Y : cr_Y} {pc pc1 pc2 : Nat} {lv lv1 lv2 : List (Nat × cr_AV)} {st st1 st2 : List cr_AV} {M M1 M2 : cr_M} {P : Option cr_AV × cr_M → Prop} {c : Prop} (f : ∀ r, (¬ c → cr_Ev Y pc1 lv1 st1 M1 r) → (c → cr_Ev Y pc2 lv2 st2 M2 r) → cr_Ev Y pc lv st M r) (k1 : ¬ c → cr_EE Y pc1 lv1 st1 M1 P) (k2 : c → cr_EE Y pc2 lv2 st2 M2 P) : cr_EE Y pc lv st M P := cr_EEb (fun r a b => f r b a) k2 k1
theorem cr_EEr {Y : cr_Y} {pc : Nat} {lv : List (Nat × cr_AV)} {st : List cr_AV} {M : cr_M} {r : Option cr_AV × cr_M} {P : Option cr_AV × cr_M → Prop} (f : cr_Ev Y pc lv st M r) (h : P r) : cr_EE Y pc lv st M P := ⟨r, h, f⟩
/-! the room beside the reference -/
def x_n (hn : Nat) (N : cr_M) : Prop := ∀ q i, (q = 5 ∨ q = 7 ∨ q = 8 ∨ q = 9 ∨ q = 22 ∨ q = 24) → hn ≤ i → i < 10 → N q i = 0
def r_X (hn cn : Nat) (X N : cr_M) : Prop := r_F hn cn (fun j => X (1 + j)) N ∧ u_H hn (fun j => X (27 + j)) ∧ x_n hn N ∧ (∀ i, i < 16 → X 52 i = N 2 i ∧ X 53 i = N 3 i) ∧ (∀ i, i < 7 → X 54 i = N 1 i)
def x_I (X N : cr_M) : Prop := ∃ hn cn tk, tk ≤ 20000 ∧ n_J hn cn tk N ∧ r_X hn cn X N
def x_P (z : Int32 × cr_M) (r : Option cr_AV × cr_M) : Prop := ∃ X', r = (some (.inl z.1), X') ∧ x_I X' z.2
theorem x_leaf {z : Int32 × cr_M} {v : Int32} {N' X' : cr_M} (hz : z = (v, N')) (h : x_I X' N') : x_P z (some (.inl v), X') := by
  subst hz
  exact ⟨X', rfl, h⟩
theorem r_X_H {hn cn : Nat} {X N : cr_M} (h : r_X hn cn X N) : r_H hn (fun j => X (2 + j)) N := r_H_cg h.1.1 (fun j _ => by show X (2 + j) = X (1 + (1 + j)); rw [show 1 + (1 + j) = 2 + j by omega]) (fun _ _ _ => rfl)
theorem r_X_C {hn cn : Nat} {X N : cr_M} (h : r_X hn cn X N) : r_C cn (fun j => X (11 + j)) N := r_C_cg h.1.2.1 (fun j _ => by show X (11 + j) = X (1 + (10 + j)); rw [show 1 + (10 + j) = 11 + j by omega]) (fun _ _ _ => rfl)
theorem r_X_u {hn cn : Nat} {X N : cr_M} (h : r_X hn cn X N) : u_H hn (fun j => X (2 + j)) := u_H_cg h.1.2.2.2.2.2 (fun j _ => by show X (2 + j) = X (1 + (1 + j)); rw [show 1 + (1 + j) = 2 + j by omega])
theorem r_X_mk {hn cn : Nat} {X' N' H' C' : cr_M} (eH : ∀ j, j < 9 → X' (2 + j) = H' j) (eC : ∀ j, j < 13 → X' (11 + j) = C' j) (hH : r_H hn H' N') (hC : r_C cn C' N') (a : X' 1 4 = N' 0 3) (b : X' 1 5 = N' 0 6) (c : X' 1 6 = N' 0 7) (u : u_H hn H') (u2 : u_H hn (fun j => X' (27 + j))) (xn : x_n hn N') (w : ∀ i, i < 16 → X' 52 i = N' 2 i ∧ X' 53 i = N' 3 i) (rf : ∀ i, i < 7 → X' 54 i = N' 1 i) : r_X hn cn X' N' := by
  refine ⟨⟨r_H_cg hH (fun j hj => ?_) (fun _ _ _ => rfl), r_C_cg hC (fun j hj => ?_) (fun _ _ _ => rfl), a, b, c, u_H_cg u (fun j hj => ?_)⟩, u2, xn, w, rf⟩
  · show X' (1 + (1 + j)) = _
    rw [show 1 + (1 + j) = 2 + j by omega]; exact eH j hj
  · show X' (1 + (10 + j)) = _
    rw [show 1 + (10 + j) = 11 + j by omega]; exact eC j hj
  · show X' (1 + (1 + j)) = _
    rw [show 1 + (1 + j) = 2 + j by omega]; exact eH j hj
theorem r_X_z {hn cn : Nat} {X N : cr_M} (h : r_X hn cn X N) : hn ≤ 10 ∧ cn ≤ 200 ∧ X 2 0 = nI hn ∧ X 11 0 = nI cn ∧ X 1 4 = N 0 3 ∧ X 1 5 = N 0 6 ∧ X 1 6 = N 0 7 := r_F_z h.1
/-- the helpers are put anew -/
theorem x_I_H {hn hn' cn tk : Nat} {X N H' N' : cr_M} (ht : tk ≤ 20000) (hX : r_X hn cn X N) (hJ : n_J hn' cn tk N') (hH : r_H hn' H' N') (hu : u_H hn' H') (hx : x_n hn' N') (hle : hn ≤ hn') (hC : ∀ q i, (10 ≤ q ∧ q ≤ 21) → N' q i = N q i) (h3 : N' 0 3 = N 0 3) (h6 : N' 0 6 = N 0 6) (h7 : N' 0 7 = N 0 7) (hw : ∀ i, i < 16 → N' 1 i = N 1 i ∧ N' 2 i = N 2 i ∧ N' 3 i = N 3 i) : x_I (cr_mg X 2 9 H') N' := by
  obtain ⟨z1, z2, z3, z4, z5, z6, z7⟩ := r_X_z hX
  refine ⟨hn', cn, tk, ht, hJ, r_X_mk (H' := H') (C' := fun j => X (11 + j)) (fun j hj => cr_mg_in hj) (fun j hj => cr_mg_out (by omega)) hH (r_C_cg (r_X_C hX) (fun _ _ => rfl) hC) ?_ ?_ ?_ hu ?_ hx ?_ ?_⟩
  · rw [cr_mg_out (by omega), h3]; exact z5
  · rw [cr_mg_out (by omega), h6]; exact z6
  · rw [cr_mg_out (by omega), h7]; exact z7
  · intro q i a b c d
    show cr_mg X 2 9 H' (27 + q) i = 0
    rw [cr_mg_out (by omega)]
    exact hX.2.1 q i a b (by omega) d
  · intro i hi
    rw [cr_mg_out (by omega), cr_mg_out (by omega), (hw i hi).2.1, (hw i hi).2.2]
    exact hX.2.2.2.1 i hi
  · intro i hi
    rw [cr_mg_out (by omega), (hw i (by omega)).1]
    exact hX.2.2.2.2 i hi
theorem x_I_C {hn cn cn' tk : Nat} {X N C' N' : cr_M} (ht : tk ≤ 20000) (hX : r_X hn cn X N) (hJ : n_J hn cn' tk N') (hC : r_C cn' C' N') (hN : ∀ q i, (q = 4 ∨ q = 5 ∨ q = 6 ∨ q = 7 ∨ q = 8 ∨ q = 9 ∨ q = 22 ∨ q = 24) → N' q i = N q i) (h3 : N' 0 3 = N 0 3) (h6 : N' 0 6 = N 0 6) (h7 : N' 0 7 = N 0 7) (hw : ∀ i, i < 16 → N' 1 i = N 1 i ∧ N' 2 i = N 2 i ∧ N' 3 i = N 3 i) : x_I (cr_mg X 11 13 C') N' := by
  obtain ⟨z1, z2, z3, z4, z5, z6, z7⟩ := r_X_z hX
  refine ⟨hn, cn', tk, ht, hJ, r_X_mk (H' := fun j => X (2 + j)) (C' := C') (fun j hj => cr_mg_out (by omega)) (fun j hj => cr_mg_in hj) (r_H_cg (r_X_H hX) (fun _ _ => rfl) hN) hC ?_ ?_ ?_ (r_X_u hX) ?_ ?_ ?_ ?_⟩
  · rw [cr_mg_out (by omega), h3]; exact z5
  · rw [cr_mg_out (by omega), h6]; exact z6
  · rw [cr_mg_out (by omega), h7]; exact z7
  · intro q i a b c d
    show cr_mg X 11 13 C' (27 + q) i = 0
    rw [cr_mg_out (by omega)]
    exact hX.2.1 q i a b (by omega) d
  · intro q i a b c
    rw [hN q i (by omega)]
    exact hX.2.2.1 q i a b c
  · intro i hi
    rw [cr_mg_out (by omega), cr_mg_out (by omega), (hw i hi).2.1, (hw i hi).2.2]
    exact hX.2.2.2.1 i hi
  · intro i hi
    rw [cr_mg_out (by omega), (hw i (by omega)).1]
    exact hX.2.2.2.2 i hi
theorem cr_up_cg {M M' : cr_M} {k i j : Nat} {x : Int32} (h : M j = M' j) : cr_up M k i x j = cr_up M' k i x j := by
  funext z
  rw [cr_rd, cr_rd, h]
theorem cr_up_mg {M : cr_M} {k0 n j i : Nat} {x : Int32} (hj : j < n) : cr_up M (k0 + j) i x = cr_mg M k0 n (cr_up (fun q => M (k0 + q)) j i x) := by
  funext q z
  by_cases h : k0 ≤ q ∧ q < k0 + n
  · obtain ⟨a, rfl⟩ : ∃ a, q = k0 + a := ⟨q - k0, by omega⟩
    rw [cr_mg_in (by omega), cr_rd, cr_rd]
    by_cases h2 : a = j ∧ z = i
    · rw [if_pos h2, if_pos (by omega)]
    · rw [if_neg h2, if_neg (by omega)]
  · rw [cr_mg_out (by omega), cr_rd, if_neg (by omega)]
theorem cr_mg_mg {M A B : cr_M} {k0 n : Nat} : cr_mg (cr_mg M k0 n A) k0 n B = cr_mg M k0 n B := by
  funext q
  by_cases h : k0 ≤ q ∧ q < k0 + n
  · unfold cr_mg; rw [if_pos h, if_pos h]
  · unfold cr_mg; rw [if_neg h, if_neg h, if_neg h]
/-! the invariant over an operation -/
def n_lk (q i : Nat) : Prop := (q = 0 ∧ (i = 3 ∨ i = 4 ∨ i = 5 ∨ i = 7)) ∨ q = 4 ∨ q = 5 ∨ q = 7 ∨ (10 ≤ q ∧ q ≤ 13) ∨ (15 ≤ q ∧ q ≤ 19) ∨ q = 21 ∨ q = 22 ∨ q = 24
theorem n_J_cg {hn cn tk : Nat} {N N' : cr_M} (k : ∀ q i, n_lk q i → N' q i = N q i) (h : n_J hn cn tk N) : n_J hn cn tk N' := by
  unfold n_lk at k
  obtain ⟨h1, h2, h3, h4, h5, h6, h7⟩ := h
  refine ⟨n_W_of h1 (k _ _ (by omega)) (k _ _ (by omega)) (fun _ _ => k _ _ (by omega)) (fun _ _ => k _ _ (by omega)), by rw [k 0 3 (by omega)]; exact h2, h3, by rw [k 0 7 (by omega)]; exact h4, fun i hi => ?_, fun c hc => ?_, fun i hi => ?_⟩
  · have := h5 i hi
    unfold i_h at this ⊢
    rw [k 24 i (by omega), k 5 i (by omega), k 7 i (by omega)]
    refine ⟨this.1, fun s hs => ?_, this.2.2⟩
    rw [k 4 _ (by omega)]
    exact this.2.1 s hs
  · have := h6 c hc
    unfold i_c at this ⊢
    rw [k 10 c (by omega), k 15 c (by omega), k 12 c (by omega), k 13 c (by omega), k 17 c (by omega), k 16 c (by omega), k 18 c (by omega), k 19 c (by omega), k 21 c (by omega)]
    exact this
  · rw [k 22 i (by omega), n_ct_congr (N := N') (N' := N) (fun c _ => by rw [k 16 c (by omega), k 18 c (by omega)])]
    exact h7 i hi
theorem n_J_mk {hn cn tk : Nat} {N N' : cr_M} (h : n_J hn cn tk N) (a3 : N' 0 3 = N 0 3) (a4 : N' 0 4 = N 0 4) (a5 : N' 0 5 = N 0 5) (a7 : ∃ p, p ≤ 1000 ∧ N' 0 7 = nI p) (b : ∀ k, k < hn → i_h N' (tk + 1) k) (c : ∀ c, c < cn → (∃ s, s < 4 ∧ N' 11 c = nI s) ∧ i_c hn N' tk (tk + 1) (tk + 1) c) (d : ∀ k, k < hn → N' 22 k = nI (n_ct N' k cn)) : n_J hn cn tk N' :=
  ⟨⟨h.1.1, h.1.2.1, a4.trans h.1.2.2.1, a5.trans h.1.2.2.2.1, fun i hi => ⟨(c i hi).1, by rcases (c i hi).2.1 with z | z; exact Or.inr z.2; exact Or.inl z.2⟩⟩, a3.trans h.2.1, h.2.2.1, a7, b, fun i hi => (c i hi).2, d⟩
theorem x_I_o {hn cn tk : Nat} {X N X' N' : cr_M} (ht : tk ≤ 20000) (hX : r_X hn cn X N) (hJ : n_J hn cn tk N') (eX : ∀ j, 2 ≤ j → j ≤ 50 → X' j = X j) (eN : ∀ q i, (q = 4 ∨ q = 5 ∨ q = 6 ∨ q = 7 ∨ q = 8 ∨ q = 9 ∨ q = 22 ∨ q = 24) ∨ (10 ≤ q ∧ q ≤ 21) → N' q i = N q i) (a : X' 1 4 = N' 0 3) (b : X' 1 5 = N' 0 6) (c : X' 1 6 = N' 0 7) (w : ∀ i, i < 16 → X' 52 i = N' 2 i ∧ X' 53 i = N' 3 i) (rf : ∀ i, i < 7 → X' 54 i = N' 1 i) : x_I X' N' :=
  ⟨hn, cn, tk, ht, hJ, r_X_mk (H' := fun j => X (2 + j)) (C' := fun j => X (11 + j)) (fun j hj => eX _ (by omega) (by omega)) (fun j hj => eX _ (by omega) (by omega)) (r_H_cg (r_X_H hX) (fun _ _ => rfl) (fun q i h => eN q i (Or.inl h))) (r_C_cg (r_X_C hX) (fun _ _ => rfl) (fun q i h => eN q i (Or.inr h))) a b c (r_X_u hX) (u_H_cg hX.2.1 (fun j hj => eX _ (by omega) (by omega))) (fun q i h1 h2 h3 => by rw [eN q i (by omega)]; exact hX.2.2.1 q i h1 h2 h3) w rf⟩
theorem x_I_ref {hn cn tk k : Nat} {X N : cr_M} (ht : tk ≤ 20000) (hJ : n_J hn cn tk N) (hX : r_X hn cn X N) (hk : k < 7) : x_I (cr_up X 54 k (X 54 k + 1)) (n_ref N k) := by
  obtain ⟨z1, z2, z3, z4, z5, z6, z7⟩ := r_X_z hX
  refine x_I_o ht hX (n_J_cg (fun q i hq => by unfold n_lk at hq; unfold n_ref; rw [cr_rd, if_neg (by omega)]) hJ) (fun j _ _ => by funext i; rw [cr_rd, if_neg (by omega)]) (fun q i hq => by unfold n_ref; rw [cr_rd, if_neg (by omega)]) z5 z6 z7 (fun i hi => ?_) (fun i hi => ?_)
  · exact hX.2.2.2.1 i hi
  · unfold n_ref
    rw [cr_rd, cr_rd, hX.2.2.2.2 i hi, hX.2.2.2.2 k hk]
    by_cases h : i = k
    · rw [if_pos ⟨rfl, h⟩, if_pos ⟨rfl, h⟩]
    · rw [if_neg (fun z => h z.2), if_neg (fun z => h z.2)]
theorem x_I_rule {hn cn tk : Nat} {X N : cr_M} {x : Int32} (ht : tk ≤ 20000) (hJ : n_J hn cn tk N) (hX : r_X hn cn X N) : x_I (cr_up X 1 5 x) (cr_up N 0 6 x) := by
  obtain ⟨z1, z2, z3, z4, z5, z6, z7⟩ := r_X_z hX
  exact x_I_o ht hX (n_J_cg (fun q i hq => by unfold n_lk at hq; rw [cr_rd, if_neg (by omega)]) hJ) (fun j _ _ => by funext i; rw [cr_rd, if_neg (by omega)]) (fun q i hq => by rw [cr_rd, if_neg (by omega)]) z5 rfl z7 hX.2.2.2.1 hX.2.2.2.2
theorem x_I_prefer {hn cn tk : Nat} {X N : cr_M} {p : Nat} (hp : p ≤ 1000) (ht : tk ≤ 20000) (hJ : n_J hn cn tk N) (hX : r_X hn cn X N) : x_I (cr_up X 1 6 (nI p)) (cr_up N 0 7 (nI p)) := by
  obtain ⟨z1, z2, z3, z4, z5, z6, z7⟩ := r_X_z hX
  exact x_I_o ht hX (n_J_mk hJ rfl rfl rfl ⟨p, hp, rfl⟩ hJ.2.2.2.2.1 (fun c hc => ⟨(hJ.1.2.2.2.2 c hc).1, hJ.2.2.2.2.2.1 c hc⟩) (fun k hk => by rw [n_ct_congr (N := cr_up N 0 7 (nI p)) (N' := N) (fun _ _ => Iff.rfl)]; exact hJ.2.2.2.2.2.2 k hk)) (fun j _ _ => by funext i; rw [cr_rd, if_neg (by omega)]) (fun q i hq => by rw [cr_rd, if_neg (by omega)]) z5 z6 rfl hX.2.2.2.1 hX.2.2.2.2
theorem x_I_want {hn cn tk q : Nat} {X N : cr_M} {x : Int32} (ht : tk ≤ 20000) (hJ : n_J hn cn tk N) (hX : r_X hn cn X N) : x_I (cr_up X 52 q x) (cr_up N 2 q x) := by
  obtain ⟨z1, z2, z3, z4, z5, z6, z7⟩ := r_X_z hX
  refine x_I_o ht hX (n_J_cg (fun q i hq => by unfold n_lk at hq; rw [cr_rd, if_neg (by omega)]) hJ) (fun j _ _ => by funext i; rw [cr_rd, if_neg (by omega)]) (fun q i hq => by rw [cr_rd, if_neg (by omega)]) z5 z6 z7 (fun i hi => ?_) hX.2.2.2.2
  have h := hX.2.2.2.1 i hi
  refine ⟨?_, h.2⟩
  rw [cr_rd, cr_rd, h.1]
  by_cases hq : i = q
  · rw [if_pos ⟨rfl, hq⟩, if_pos ⟨rfl, hq⟩]
  · rw [if_neg (fun z => hq z.2), if_neg (fun z => hq z.2)]
theorem n_cv_o {L q i : Nat} {N : cr_M} (hq : ¬ q = 3) : ∀ j, n_cv L N j q i = N q i := by
  intro j
  induction j with
  | zero => simp [n_cv, n_z, hq]
  | succ j ih => rw [n_cv, cr_rd, if_neg (by omega), ih]
theorem x_I_cover {hn cn tk L : Nat} {X N : cr_M} (ht : tk ≤ 20000) (hJ : n_J hn cn tk N) (hX : r_X hn cn X N) : x_I (cr_mg X 51 3 (p_cv L (fun j => X (51 + j)) N 16)) (n_cv L N 16) := by
  obtain ⟨z1, z2, z3, z4, z5, z6, z7⟩ := r_X_z hX
  refine x_I_o ht hX (n_J_cg (fun q i hq => by unfold n_lk at hq; rw [n_cv_o (by omega)]) hJ) (fun j _ _ => cr_mg_out (by omega)) (fun q i hq => n_cv_o (by omega) _) ?_ ?_ ?_ (fun i hi => ?_) (fun i hi => ?_)
  · rw [cr_mg_out (by omega), n_cv_o (by omega)]; exact z5
  · rw [cr_mg_out (by omega), n_cv_o (by omega)]; exact z6
  · rw [cr_mg_out (by omega), n_cv_o (by omega)]; exact z7
  · constructor
    · rw [n_cv_o (by omega), show 52 = 51 + 1 from rfl, cr_mg_in (by omega)]
      exact (hX.2.2.2.1 i hi).1
    · rw [show 53 = 51 + 2 from rfl, cr_mg_in (by omega)]
      unfold p_cv
      rw [if_pos ⟨rfl, hi⟩]
  · rw [cr_mg_out (by omega), n_cv_o (by omega)]; exact hX.2.2.2.2 i hi
/-- nothing that is looked at has changed in the reference, nor in the room's floor -/
theorem x_I_Q {hn cn tk : Nat} {X N X' N' : cr_M} (ht : tk ≤ 20000) (hJ : n_J hn cn tk N) (hX : r_X hn cn X N) (hQ : n_Q N N') (e : ∀ j, j < 26 ∨ 50 < j → X' j = X j) (hu : u_H hn (fun j => X' (27 + j))) : x_I X' N' := by
  refine ⟨hn, cn, tk, ht, n_J_Q hQ hJ, r_F_cg hX.1 (fun j hj => e _ (by omega)) hQ, hu, fun q i a b c => ?_, fun i hi => ?_, fun i hi => ?_⟩
  · rw [hQ q i (by omega) (by omega)]; exact hX.2.2.1 q i a b c
  · rw [hQ 2 i (by omega) (by omega), hQ 3 i (by omega) (by omega), e 52 (by omega), e 53 (by omega)]; exact hX.2.2.2.1 i hi
  · rw [hQ 1 i (by omega) (by omega), e 54 (by omega)]; exact hX.2.2.2.2 i hi
/-! helpers -/
theorem n_J_hl {hn cn tk : Nat} {N N' : cr_M} (hJ : n_J hn cn tk N) (e : ∀ q i, (q = 0 ∨ q = 11 ∨ q = 10 ∨ q = 12 ∨ q = 13 ∨ (15 ≤ q ∧ q ≤ 19) ∨ q = 21 ∨ q = 22) → N' q i = N q i) (b : ∀ k, k < hn → i_h N' (tk + 1) k) : n_J hn cn tk N' := by
  refine n_J_mk hJ (e 0 3 (by omega)) (e 0 4 (by omega)) (e 0 5 (by omega)) (by rw [e 0 7 (by omega)]; exact hJ.2.2.2.1) b (fun c hc => ⟨by rw [e 11 c (by omega)]; exact (hJ.1.2.2.2.2 c hc).1, ?_⟩) (fun k hk => ?_)
  · have := hJ.2.2.2.2.2.1 c hc
    unfold i_c at this ⊢
    rw [e 10 c (by omega), e 15 c (by omega), e 12 c (by omega), e 13 c (by omega), e 17 c (by omega), e 16 c (by omega), e 18 c (by omega), e 19 c (by omega), e 21 c (by omega)]
    exact this
  · rw [e 22 k (by omega), n_ct_congr (N := N') (N' := N) (fun c _ => by rw [e 16 c (by omega), e 18 c (by omega)])]
    exact hJ.2.2.2.2.2.2 k hk
theorem x_I_grade {hn cn tk k s v : Nat} {X N : cr_M} (ht : tk ≤ 20000) (hJ : n_J hn cn tk N) (hX : r_X hn cn X N) (hk : k < hn) (hs : s < 4) (hv : v < 4) : x_I (cr_mg X 2 9 (cr_up (fun j => X (2 + j)) 1 k (X 3 k &&& (3 <<< (2 * nI s &&& 31) ^^^ -1) ||| nI v <<< (2 * nI s &&& 31)))) (cr_up N 4 (4 * k + s) (nI v)) := by
  have hH := r_X_H hX
  refine x_I_H ht hX (n_J_hl hJ (fun q i hq => by rw [cr_rd, if_neg (by omega)]) (fun i hi => ?_)) ?_ (fun q i a b c d => ?_) (fun q i a b c => ?_) (Nat.le_refl _) (fun q i hq => by rw [cr_rd, if_neg (by omega)]) rfl rfl rfl (fun i _ => ⟨rfl, rfl, rfl⟩)
  · obtain ⟨a, b, c⟩ := hJ.2.2.2.2.1 i hi
    refine ⟨a, fun t htt => ?_, c⟩
    rw [cr_rd]
    by_cases h : 4 * i + t = 4 * k + s
    · rw [if_pos ⟨rfl, h⟩]; exact ⟨v, hv, rfl⟩
    · rw [if_neg (fun z => h z.2)]; exact b t htt
  · obtain ⟨h1, h2, h3⟩ := hH
    refine ⟨h1, h2, fun i hi => ?_⟩
    obtain ⟨⟨g, g1, g2, g3⟩, r⟩ := h3 i hi
    refine ⟨?_, r⟩
    by_cases h : i = k
    · subst h
      obtain ⟨q1, q2⟩ := g_set2 g g1 s hs v hv
      refine ⟨_, q1, ?_, fun t htt => ?_⟩
      · rw [cr_rd, if_pos ⟨rfl, rfl⟩, show X 3 i = nI g from g2]
        exact g_set g g1 s hs v hv
      · rw [cr_rd, q2 t htt]
        by_cases e : t = s
        · rw [if_pos ⟨rfl, by omega⟩, if_pos e]
        · rw [if_neg (by omega), if_neg e]; exact g3 t htt
    · refine ⟨g, g1, ?_, fun t htt => ?_⟩
      · rw [cr_rd, if_neg (fun z => h z.2)]; exact g2
      · rw [cr_rd, if_neg (by omega)]; exact g3 t htt
  · rw [cr_rd, if_neg (by omega)]; exact r_X_u hX q i a b c d
  · rw [cr_rd, if_neg (by omega)]; exact hX.2.2.1 q i a b c
theorem x_I_bec {hn cn tk k : Nat} {X N : cr_M} {w : Int32} (ht : tk ≤ 20000) (hJ : n_J hn cn tk N) (hX : r_X hn cn X N) (hk : k < hn) (hw : ¬ w = 3) : x_I (cr_mg X 2 9 (cr_up (cr_up (fun j => X (2 + j)) 2 k w) 3 k (X 1 4))) (n_bec N k w) := by
  have hH := r_X_H hX
  have z5 := (r_X_z hX).2.2.2.2.1
  refine x_I_H ht hX (n_J_hl hJ (fun q i hq => by unfold n_bec; rw [cr_rd, if_neg (by omega), cr_rd, if_neg (by omega)]) (fun i hi => ?_)) ?_ (fun q i a b c d => ?_) (fun q i a b c => ?_) (Nat.le_refl _) (fun q i hq => by unfold n_bec; rw [cr_rd, if_neg (by omega), cr_rd, if_neg (by omega)]) rfl rfl rfl (fun i _ => ⟨rfl, rfl, rfl⟩)
  · obtain ⟨a, b, c⟩ := hJ.2.2.2.2.1 i hi
    refine ⟨a, b, fun q => c ?_⟩
    unfold n_bec at q
    rw [cr_rd, if_neg (by omega), cr_rd] at q
    by_cases h : i = k
    · rw [if_pos ⟨rfl, h⟩] at q; exact absurd q hw
    · rw [if_neg (fun z => h z.2)] at q; exact q
  · obtain ⟨h1, h2, h3⟩ := hH
    refine ⟨h1, h2, fun i hi => ?_⟩
    obtain ⟨a, b, c, r⟩ := h3 i hi
    refine ⟨a, ?_, ?_, r⟩
    · by_cases h : i = k
      · simp [n_bec, cr_rd, h]
      · simp [n_bec, cr_rd, h]; exact b
    · by_cases h : i = k
      · simp [n_bec, cr_rd, h]; exact z5
      · simp [n_bec, cr_rd, h]; exact c
  · rw [cr_rd, if_neg (by omega), cr_rd, if_neg (by omega)]; exact r_X_u hX q i a b c d
  · unfold n_bec; rw [cr_rd, if_neg (by omega), cr_rd, if_neg (by omega)]; exact hX.2.2.1 q i a b c
theorem x_I_pause {hn cn tk k e : Nat} {X N : cr_M} (ht : tk ≤ 20000) (hJ : n_J hn cn tk N) (hX : r_X hn cn X N) (hk : k < hn) (he : tk + 1 ≤ e) (he2 : e ≤ 30000) : x_I (cr_mg X 2 9 (cr_up (cr_up (cr_up (fun j => X (2 + j)) 2 k 3) 3 k (X 1 4)) 8 k (nI e))) (cr_up (n_bec N k 3) 7 k (nI e)) := by
  have hH := r_X_H hX
  have z5 := (r_X_z hX).2.2.2.2.1
  have h10 := hH.1
  refine x_I_H ht hX (n_J_hl hJ (fun q i hq => by unfold n_bec; rw [cr_rd, if_neg (by omega), cr_rd, if_neg (by omega), cr_rd, if_neg (by omega)]) (fun i hi => ?_)) ?_ (fun q i a b c d => ?_) (fun q i a b c => ?_) (Nat.le_refl _) (fun q i hq => by unfold n_bec; rw [cr_rd, if_neg (by omega), cr_rd, if_neg (by omega), cr_rd, if_neg (by omega)]) rfl rfl rfl (fun i _ => ⟨rfl, rfl, rfl⟩)
  · obtain ⟨a, b, c⟩ := hJ.2.2.2.2.1 i hi
    refine ⟨a, b, fun q => ?_⟩
    rw [cr_rd]
    by_cases h : i = k
    · rw [if_pos ⟨rfl, h⟩]; exact ⟨e, he, he2, rfl⟩
    · rw [if_neg (fun z => h z.2)]
      unfold n_bec at q ⊢
      rw [cr_rd, if_neg (by omega), cr_rd, if_neg (by omega), cr_rd, if_neg (fun z => h z.2)] at q
      exact c q
  · obtain ⟨h1, h2, h3⟩ := hH
    refine ⟨h1, h2, fun i hi => ?_⟩
    obtain ⟨a, b, c, d, e', f, g, r⟩ := h3 i hi
    refine ⟨a, ?_, ?_, d, e', f, g, ?_⟩
    · by_cases h : i = k
      · simp [n_bec, cr_rd, h]
      · simp [n_bec, cr_rd, h]; exact b
    · by_cases h : i = k
      · simp [n_bec, cr_rd, h]; exact z5
      · simp [n_bec, cr_rd, h]; exact c
    · by_cases h : i = k
      · simp [n_bec, cr_rd, h]
      · simp [n_bec, cr_rd, h]; exact r
  · rw [cr_rd, if_neg (by omega), cr_rd, if_neg (by omega), cr_rd, if_neg (by omega)]; exact r_X_u hX q i a b c d
  · unfold n_bec; rw [cr_rd, if_neg (by omega), cr_rd, if_neg (by omega), cr_rd, if_neg (by omega)]; exact hX.2.2.1 q i a b c
theorem n_ct_zero {hn cn tk : Nat} {N : cr_M} (hJ : n_J hn cn tk N) : ∀ j, j ≤ cn → n_ct N hn j = 0 := by
  have h10 := hJ.1.1
  intro j
  induction j with
  | zero => intro _; rfl
  | succ j ih =>
    intro hj
    rw [n_ct, ih (by omega), if_neg]
    rintro ⟨a, b⟩
    obtain ⟨⟨k, hk, e⟩, -⟩ := (hJ.2.2.2.2.2.1 j (by omega)).2.2.2.2.1 a
    rw [e, nI_eq (by omega) (by omega)] at b
    omega
theorem n_hadd_o {hn q i : Nat} {b : Int32} {N : cr_M} (h : ¬ (q = 4 ∧ 4 * hn ≤ i ∧ i < 4 * hn + 4)) (h2 : ¬ (q = 6 ∧ i = hn)) (h3 : ¬ (q = 0 ∧ i = 4)) : n_hadd hn b N q i = N q i := by
  unfold n_hadd
  rw [cr_rd, if_neg h3, cr_rd, if_neg h2]
  unfold n_hg
  rw [if_neg h]
theorem x_I_helper {hn cn tk g : Nat} {X N : cr_M} (ht : tk ≤ 20000) (hJ : n_J hn cn tk N) (hX : r_X hn cn X N) (h9 : hn < 10) (hg : g < 256) : x_I (cr_mg X 2 9 (h_add (fun j => X (2 + j)) hn (nI g) (X 1 4))) (n_hadd hn (nI g) N) := by
  have hH := r_X_H hX
  have hU := r_X_u hX
  have hx := hX.2.2.1
  have z5 := (r_X_z hX).2.2.2.2.1
  have e4 : ∀ s, s < 4 → n_hadd hn (nI g) N 4 (4 * hn + s) = nI (g / 4 ^ s % 4) := by
    intro s hs
    unfold n_hadd
    rw [cr_rd, if_neg (by omega), cr_rd, if_neg (by omega)]
    unfold n_hg
    rw [if_pos ⟨rfl, by omega, by omega⟩, show 4 * hn + s - 4 * hn = s by omega]
    exact g_get g hg s hs
  have e4o : ∀ k s, k < hn → s < 4 → n_hadd hn (nI g) N 4 (4 * k + s) = N 4 (4 * k + s) := fun k s hk hs => n_hadd_o (by omega) (by omega) (by omega)
  refine x_I_H ht hX ?_ ?_ (fun q i a b c d => ?_) (fun q i a b c => ?_) (Nat.le_succ _) (fun q i hq => n_hadd_o (by omega) (by omega) (by omega)) (n_hadd_o (by omega) (by omega) (by omega)) (n_hadd_o (by omega) (by omega) (by omega)) (n_hadd_o (by omega) (by omega) (by omega)) (fun i _ => ⟨n_hadd_o (by omega) (by omega) (by omega), n_hadd_o (by omega) (by omega) (by omega), n_hadd_o (by omega) (by omega) (by omega)⟩)
  · obtain ⟨h1, h2, h3, h4, h5, h6, h7⟩ := id hJ
    refine ⟨⟨by omega, h1.2.1, ?_, (n_hadd_o (by omega) (by omega) (by omega)).trans h1.2.2.2.1, fun c hc => ?_⟩, (n_hadd_o (by omega) (by omega) (by omega)).trans h2, h3, by rw [n_hadd_o (by omega) (by omega) (by omega)]; exact h4, fun k hk => ?_, fun c hc => ?_, fun k hk => ?_⟩
    · unfold n_hadd; rw [cr_rd, if_pos ⟨rfl, rfl⟩, nI_1]
    · obtain ⟨a, b⟩ := h1.2.2.2.2 c hc
      rw [n_hadd_o (by omega) (by omega) (by omega), n_hadd_o (by omega) (by omega) (by omega)]
      refine ⟨a, ?_⟩
      rcases b with b | ⟨k, k1, k2⟩
      · exact Or.inl b
      · exact Or.inr ⟨k, by omega, k2⟩
    · unfold i_h
      rw [n_hadd_o (q := 24) (by omega) (by omega) (by omega), n_hadd_o (q := 5) (by omega) (by omega) (by omega), n_hadd_o (q := 7) (by omega) (by omega) (by omega)]
      rcases Nat.lt_or_ge k hn with q | q
      · obtain ⟨a, b, c⟩ := h5 k q
        exact ⟨a, fun s hs => by rw [e4o k s q hs]; exact b s hs, c⟩
      · have e : k = hn := by omega
        subst e
        refine ⟨Or.inl (hx 24 k (by omega) (Nat.le_refl _) h9), fun s hs => ⟨g / 4 ^ s % 4, Nat.mod_lt _ (by omega), e4 s hs⟩, fun z => ?_⟩
        rw [hx 5 k (by omega) (Nat.le_refl _) h9] at z
        exact absurd z (by decide)
    · have := h6 c hc
      unfold i_c at this ⊢
      rw [n_hadd_o (q := 10) (by omega) (by omega) (by omega), n_hadd_o (q := 15) (by omega) (by omega) (by omega), n_hadd_o (q := 12) (by omega) (by omega) (by omega), n_hadd_o (q := 13) (by omega) (by omega) (by omega), n_hadd_o (q := 17) (by omega) (by omega) (by omega), n_hadd_o (q := 16) (by omega) (by omega) (by omega), n_hadd_o (q := 18) (by omega) (by omega) (by omega), n_hadd_o (q := 19) (by omega) (by omega) (by omega), n_hadd_o (q := 21) (by omega) (by omega) (by omega)]
      obtain ⟨c1, c2, c3, c4, c5, c6⟩ := this
      refine ⟨?_, c2, c3, c4, fun z => ?_, c6⟩
      · rcases c1 with ⟨a, k, b, c'⟩ | c1
        · exact Or.inl ⟨a, k, by omega, c'⟩
        · exact Or.inr c1
      · obtain ⟨⟨k, a, b⟩, d⟩ := c5 z
        exact ⟨⟨k, by omega, b⟩, d⟩
    · rw [n_hadd_o (q := 22) (by omega) (by omega) (by omega), n_ct_congr (N := n_hadd hn (nI g) N) (N' := N) (fun c _ => by rw [n_hadd_o (q := 16) (by omega) (by omega) (by omega), n_hadd_o (q := 18) (by omega) (by omega) (by omega)])]
      rcases Nat.lt_or_ge k hn with q | q
      · exact h7 k q
      · have e : k = hn := by omega
        subst e
        rw [n_ct_zero hJ cn (Nat.le_refl _), hx 22 k (by omega) (Nat.le_refl _) h9]
        rfl
  · obtain ⟨h1, h2, h3⟩ := hH
    refine ⟨by omega, by unfold h_add; rw [cr_rd, if_pos ⟨rfl, rfl⟩, nI_1], fun k hk => ?_⟩
    unfold r_h1
    rw [n_hadd_o (q := 5) (by omega) (by omega) (by omega), n_hadd_o (q := 22) (by omega) (by omega) (by omega), n_hadd_o (q := 24) (by omega) (by omega) (by omega), n_hadd_o (q := 8) (by omega) (by omega) (by omega), n_hadd_o (q := 9) (by omega) (by omega) (by omega), n_hadd_o (q := 7) (by omega) (by omega) (by omega)]
    rcases Nat.lt_or_ge k hn with q | q
    · obtain ⟨⟨g', a1, a2, a3⟩, b, c, d1, d2, d3, d4, d5⟩ := h3 k q
      have hh : ∀ q, h_add (fun j => X (2 + j)) hn (nI g) (X 1 4) (q + 1) k = X (2 + (q + 1)) k := fun q => by
        unfold h_add
        rw [cr_rd, if_neg (by omega), cr_rd, if_neg (by omega), cr_rd, if_neg (by omega), cr_rd, if_neg (by omega)]
      rw [n_hadd_o (q := 6) (by omega) (by omega) (by omega)]
      exact ⟨⟨g', a1, (hh 0).trans a2, fun s hs => by rw [e4o k s q hs]; exact a3 s hs⟩, (hh 1).trans b, (hh 2).trans c, (hh 3).trans d1, d2.trans (bI_congr (show X (2 + 5) k = 3 ↔ h_add (fun j => X (2 + j)) hn (nI g) (X 1 4) (4 + 1) k = 3 by rw [hh 4])), (hh 5).trans d3, (hh 6).trans d4, (hh 7).trans d5⟩
    · have e : k = hn := by omega
      subst e
      have u : ∀ q, 4 ≤ q → q ≤ 8 → X (2 + q) k = 0 := fun q a b => hU q k a b (Nat.le_refl _) h9
      have x : ∀ q, (q = 5 ∨ q = 7 ∨ q = 8 ∨ q = 9 ∨ q = 22 ∨ q = 24) → N q k = 0 := fun q a => hx q k a (Nat.le_refl _) h9
      rw [x 5 (by omega), x 22 (by omega), x 24 (by omega), x 8 (by omega), x 9 (by omega), x 7 (by omega)]
      unfold h_add
      simp only [cr_rd]
      refine ⟨⟨g, hg, by simp, e4⟩, by simp, ?_, ?_, ?_, ?_, ?_, ?_⟩
      · simp
        rw [show n_hadd k (nI g) N 6 k = N 0 3 by unfold n_hadd; rw [cr_rd, if_neg (by omega), cr_rd, if_pos ⟨rfl, rfl⟩]]
        exact z5
      · simp; exact u 4 (by omega) (by omega)
      · have := u 5 (by omega) (by omega)
        simp
        rw [this, bI_f (by decide)]
      · simp; exact u 6 (by omega) (by omega)
      · simp; exact u 7 (by omega) (by omega)
      · simp; exact u 8 (by omega) (by omega)
  · unfold h_add
    rw [cr_rd, if_neg (by omega), cr_rd, if_neg (by omega), cr_rd, if_neg (by omega), cr_rd, if_neg (by omega)]
    exact hU q i a b (by omega) d
  · rw [n_hadd_o (by omega) (by omega) (by omega)]
    exact hx q i a (by omega) c
