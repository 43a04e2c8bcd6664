/-! numbers, truth as an int, and rows in the form that the walks use -/
noncomputable def bI (p : Prop) : Int32 := @ite _ p (Classical.propDecidable p) 1 0
theorem bI_t {p : Prop} (h : p) : bI p = 1 := by unfold bI; rw [if_pos h]
theorem bI_f {p : Prop} (h : ¬ p) : bI p = 0 := by unfold bI; rw [if_neg h]
theorem bI_01 (p : Prop) : bI p = 0 ∨ bI p = 1 := by
  by_cases h : p
  · exact Or.inr (bI_t h)
  · exact Or.inl (bI_f h)
theorem bI_eq1 {p : Prop} : bI p = 1 ↔ p := ⟨fun h => Classical.byContradiction fun hn => by rw [bI_f hn] at h; exact absurd h (by decide), bI_t⟩
theorem bI_eq0 {p : Prop} : bI p = 0 ↔ ¬ p := ⟨fun h hp => by rw [bI_t hp] at h; exact absurd h (by decide), bI_f⟩
theorem rt_t {p : Prop} {M : cr_M} (h : p) : ((some (.inl (bI p)), M) : Option cr_AV × cr_M) = (some (.inl 1), M) := by rw [bI_t h]
theorem rt_f {p : Prop} {M : cr_M} (h : ¬ p) : ((some (.inl (bI p)), M) : Option cr_AV × cr_M) = (some (.inl 0), M) := by rw [bI_f h]
theorem rt_i {x y : Int32} {M : cr_M} (h : x = y) : ((some (.inl x), M) : Option cr_AV × cr_M) = (some (.inl y), M) := by rw [h]
theorem e_iinc1 {Y : cr_Y} {pc : Nat} {lv : List (Nat × cr_AV)} {st : List cr_AV} {M : cr_M} {r : Option cr_AV × cr_M} {i j : Nat} (hd : decode (cr_by Y) pc = .ok (.iinc i 1, 3)) (hv : cr_lk lv i = some (.inl (nI j))) (hn : i < cr_ml Y) (k : cr_Ev Y (pc + 3) ((i, .inl (nI (j + 1))) :: cr_s1 lv i) st M r) : cr_Ev Y pc lv st M r :=
  e_iinc hd hv hn (nI_1 j) k
theorem e_ialdN {Y : cr_Y} {pc : Nat} {lv : List (Nat × cr_AV)} {st : List cr_AV} {M : cr_M} {r : Option cr_AV × cr_M} {n q j : Nat} (hd : decode (cr_by Y) pc = .ok (.iaload, 1)) (hsh : (cr_sh Y)[q]? = some (.inr (n, false))) (hj : j < n) (hn : n < 2 ^ 31) (k : cr_Ev Y (pc + 1) lv (.inl (M q j) :: st) M r) : cr_Ev Y pc lv (.inl (nI j) :: .inr (.inr q) :: st) M r :=
  e_iald hd hsh (vp_in_nI hj hn) (by rw [nI_clamp (Nat.lt_trans hj hn)]; exact k)
theorem e_zaldN {Y : cr_Y} {pc : Nat} {lv : List (Nat × cr_AV)} {st : List cr_AV} {M : cr_M} {r : Option cr_AV × cr_M} {n q j : Nat} (hd : decode (cr_by Y) pc = .ok (.baload, 1)) (hsh : (cr_sh Y)[q]? = some (.inr (n, true))) (hj : j < n) (hn : n < 2 ^ 31) (k : cr_Ev Y (pc + 1) lv (.inl (M q j) :: st) M r) : cr_Ev Y pc lv (.inl (nI j) :: .inr (.inr q) :: st) M r :=
  e_zald hd hsh (vp_in_nI hj hn) (by rw [nI_clamp (Nat.lt_trans hj hn)]; exact k)
theorem e_iastN {Y : cr_Y} {pc : Nat} {lv : List (Nat × cr_AV)} {st : List cr_AV} {M : cr_M} {r : Option cr_AV × cr_M} {n q j : Nat} {x : Int32} (hd : decode (cr_by Y) pc = .ok (.iastore, 1)) (hsh : (cr_sh Y)[q]? = some (.inr (n, false))) (hj : j < n) (hn : n < 2 ^ 31) (k : cr_Ev Y (pc + 1) lv st (cr_up M q j x) r) : cr_Ev Y pc lv (.inl x :: .inl (nI j) :: .inr (.inr q) :: st) M r :=
  e_iast hd hsh (vp_in_nI hj hn) (by rw [nI_clamp (Nat.lt_trans hj hn)]; exact k)
theorem e_zastN {Y : cr_Y} {pc : Nat} {lv : List (Nat × cr_AV)} {st : List cr_AV} {M : cr_M} {r : Option cr_AV × cr_M} {n q j : Nat} {x : Int32} (hd : decode (cr_by Y) pc = .ok (.bastore, 1)) (hsh : (cr_sh Y)[q]? = some (.inr (n, true))) (hj : j < n) (hn : n < 2 ^ 31) (k : cr_Ev Y (pc + 1) lv st (cr_up M q j (vp_nar .boolean x)) r) : cr_Ev Y pc lv (.inl x :: .inl (nI j) :: .inr (.inr q) :: st) M r :=
  e_zast hd hsh (vp_in_nI hj hn) (by rw [nI_clamp (Nat.lt_trans hj hn)]; exact k)
theorem e_tsw1 {Y : cr_Y} {pc : Nat} {lv : List (Nat × cr_AV)} {st : List cr_AV} {M : cr_M} {r : Option cr_AV × cr_M} {dflt lo hi : Int} {offs : Array Int} {len : Nat} {x : Int32} {off : Int} {tgt : Nat} (v : Int32) (hd : decode (cr_by Y) pc = .ok (.tableswitch dflt lo hi offs, len)) (h1 : ¬ v.toInt < lo) (h2 : ¬ hi < v.toInt) (ho : offs[(v.toInt - lo).toNat]? = some off) (ht : (pc : Int) + off = (tgt : Int)) (kt : x = v → cr_Ev Y tgt lv st M r) (kf : ¬ x = v → cr_Ev Y pc lv (.inl x :: st) M r) : cr_Ev Y pc lv (.inl x :: st) M r := by
  by_cases h : x = v
  · exact e_tswI v h hd h1 h2 ho ht (kt h)
  · exact kf h
theorem r_iret {Y : cr_Y} {pc : Nat} {lv : List (Nat × cr_AV)} {M : cr_M} {r : Option cr_AV × cr_M} {v : Int32} (hd : decode (cr_by Y) pc = .ok (.ireturn, 1)) (hrt : cr_rt Y = some .int) (he : r = (some (.inl v), M)) : cr_Ev Y pc lv [.inl v] M r := e_iret (st := []) hd hrt he
theorem r_zret {Y : cr_Y} {pc : Nat} {lv : List (Nat × cr_AV)} {M : cr_M} {r : Option cr_AV × cr_M} {v : Int32} (hd : decode (cr_by Y) pc = .ok (.ireturn, 1)) (hrt : cr_rt Y = some .boolean) (hz : v = 0 ∨ v = 1) (he : r = (some (.inl v), M)) : cr_Ev Y pc lv [.inl v] M r := e_zret (st := []) hd hrt hz he
theorem r_lret {Y : cr_Y} {pc : Nat} {lv : List (Nat × cr_AV)} {M : cr_M} {r : Option cr_AV × cr_M} {v : Int64} (hd : decode (cr_by Y) pc = .ok (.lreturn, 1)) (hrt : cr_rt Y = some .long) (he : r = (some (.inr (.inl v)), M)) : cr_Ev Y pc lv [.inr (.inl v)] M r := e_lret (st := []) hd hrt he
theorem r_vret {Y : cr_Y} {pc : Nat} {lv : List (Nat × cr_AV)} {M : cr_M} {r : Option cr_AV × cr_M} (hd : decode (cr_by Y) pc = .ok (.return_, 1)) (hrt : cr_rt Y = none) (he : r = (none, M)) : cr_Ev Y pc lv [] M r := e_vret (st := []) hd hrt he
theorem cr_rd {M : cr_M} {k i k' i' : Nat} {x : Int32} : cr_up M k i x k' i' = if k' = k ∧ i' = i then x else M k' i' := by
  unfold cr_up va_up upd
  by_cases h : k' = k
  · subst h
    by_cases h2 : i' = i <;> simp [h2]
  · simp [h]
/-- an int outside a range of Nats, or one of them -/
theorem cr_ix (x : Int32) {n : Nat} (hn : n < 2 ^ 31) : (¬ (0 ≤ x ∧ x < nI n)) ∨ ∃ j : Nat, j < n ∧ x = nI j := by
  rcases pk_ix x hn with h | h | h
  · exact Or.inl fun q => absurd h (Int32.not_lt.mpr q.1)
  · exact Or.inl fun q => absurd q.2 (Int32.not_lt.mpr h)
  · exact Or.inr h
theorem cr_ix_in {j n : Nat} (h : j < n) (hn : n < 2 ^ 31) : 0 ≤ nI j ∧ nI j < nI n := ⟨nI_pos' (by omega), nI_lt h hn⟩
theorem e_wk {Y : cr_Y} {pc : Nat} {lv lv' : List (Nat × cr_AV)} {st : List cr_AV} {M : cr_M} {r : Option cr_AV × cr_M} (k : cr_Ev Y pc lv' st M r) (h : cr_sub lv' lv) : cr_Ev Y pc lv st M r := e_weak lv' h k
theorem e_iincp {Y : cr_Y} {pc : Nat} {lv : List (Nat × cr_AV)} {st : List cr_AV} {M : cr_M} {r : Option cr_AV × cr_M} {i : Nat} {x : Int32} (hd : decode (cr_by Y) pc = .ok (.iinc i 1, 3)) (hv : cr_lk lv i = some (.inl x)) (hn : i < cr_ml Y) (k : cr_Ev Y (pc + 3) ((i, .inl (x + 1)) :: cr_s1 lv i) st M r) : cr_Ev Y pc lv st M r :=
  e_iinc hd hv hn rfl k
theorem e_getIv {Y : cr_Y} {pc : Nat} {lv : List (Nat × cr_AV)} {st : List cr_AV} {M : cr_M} {r : Option cr_AV × cr_M} {i ci j q : Nat} {fs : List (Option Nat)} (v : Int32) (hd : decode (cr_by Y) pc = .ok (.getfield i, 3)) (hf : cr_fl (cr_nm Y).cls i ci j) (hsh : (cr_sh Y)[q]? = some (.inl (ci, fs))) (hj : fs[j]? = some none) (hv : M q j = v) (k : cr_Ev Y (pc + 3) lv (.inl v :: st) M r) : cr_Ev Y pc lv (.inr (.inr q) :: st) M r := e_getI hd hf hsh hj (hv ▸ k)
