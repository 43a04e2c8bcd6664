theorem e_offn0v {Y Y' : cr_Y} {pc idx : Nat} {lv : List (Nat × cr_AV)} {st : List cr_AV} {M M' : cr_M} {r : Option cr_AV × cr_M} {k0 : Nat} (m : Nat) (hd : decode (cr_by Y) pc = .ok (.invokevirtual idx, 3)) (hc : cr_cs Y Y' idx 0) (hv : cr_csV Y') (hr : cr_rc Y') (hf : cr_fit (cr_sh Y) (cr_sh Y') (fun j => k0 + j)) (hz : 1 ≤ cr_ml Y') (hm : (cr_sh Y').length = m) (h8 : cr_w8 st ≤ 8) (E : cr_EvM Y' [.inr (.inr 0)] (fun j => M (k0 + j)) (none, M')) (k : cr_Ev Y (pc + 3) lv (st) (cr_mg M k0 m M') r) : cr_Ev Y pc lv (.inr (.inr k0) :: st) M r := e_off0v hd hc hv hr hf hz h8 E (by rw [hm]; exact k)
theorem e_offn0i {Y Y' : cr_Y} {pc idx : Nat} {lv : List (Nat × cr_AV)} {st : List cr_AV} {M M' : cr_M} {r : Option cr_AV × cr_M} {k0 : Nat} (m : Nat) {x : Int32} (hd : decode (cr_by Y) pc = .ok (.invokevirtual idx, 3)) (hc : cr_cs Y Y' idx 0) (hv : cr_csV Y') (hr : cr_rc Y') (hf : cr_fit (cr_sh Y) (cr_sh Y') (fun j => k0 + j)) (hz : 1 ≤ cr_ml Y') (hm : (cr_sh Y').length = m) (h8 : cr_w8 st ≤ 8) (E : cr_EvM Y' [.inr (.inr 0)] (fun j => M (k0 + j)) (some (.inl x), M')) (k : cr_Ev Y (pc + 3) lv (.inl x :: st) (cr_mg M k0 m M') r) : cr_Ev Y pc lv (.inr (.inr k0) :: st) M r := e_off0i hd hc hv hr hf hz h8 E (by rw [hm]; exact k)
theorem e_offn1v {Y Y' : cr_Y} {pc idx : Nat} {lv : List (Nat × cr_AV)} {st : List cr_AV} {M M' : cr_M} {r : Option cr_AV × cr_M} {k0 : Nat} (m : Nat) {a : Int32} (hd : decode (cr_by Y) pc = .ok (.invokevirtual idx, 3)) (hc : cr_cs Y Y' idx 1) (hv : cr_csV Y') (hr : cr_rc Y') (hf : cr_fit (cr_sh Y) (cr_sh Y') (fun j => k0 + j)) (hz : 2 ≤ cr_ml Y') (hm : (cr_sh Y').length = m) (h8 : cr_w8 st ≤ 8) (E : cr_EvM Y' [.inr (.inr 0), .inl a] (fun j => M (k0 + j)) (none, M')) (k : cr_Ev Y (pc + 3) lv (st) (cr_mg M k0 m M') r) : cr_Ev Y pc lv (.inl a :: .inr (.inr k0) :: st) M r := e_off1v hd hc hv hr hf hz h8 E (by rw [hm]; exact k)
theorem e_offn1i {Y Y' : cr_Y} {pc idx : Nat} {lv : List (Nat × cr_AV)} {st : List cr_AV} {M M' : cr_M} {r : Option cr_AV × cr_M} {k0 : Nat} (m : Nat) {a : Int32} {x : Int32} (hd : decode (cr_by Y) pc = .ok (.invokevirtual idx, 3)) (hc : cr_cs Y Y' idx 1) (hv : cr_csV Y') (hr : cr_rc Y') (hf : cr_fit (cr_sh Y) (cr_sh Y') (fun j => k0 + j)) (hz : 2 ≤ cr_ml Y') (hm : (cr_sh Y').length = m) (h8 : cr_w8 st ≤ 8) (E : cr_EvM Y' [.inr (.inr 0), .inl a] (fun j => M (k0 + j)) (some (.inl x), M')) (k : cr_Ev Y (pc + 3) lv (.inl x :: st) (cr_mg M k0 m M') r) : cr_Ev Y pc lv (.inl a :: .inr (.inr k0) :: st) M r := e_off1i hd hc hv hr hf hz h8 E (by rw [hm]; exact k)
theorem e_offn2v {Y Y' : cr_Y} {pc idx : Nat} {lv : List (Nat × cr_AV)} {st : List cr_AV} {M M' : cr_M} {r : Option cr_AV × cr_M} {k0 : Nat} (m : Nat) {a b : Int32} (hd : decode (cr_by Y) pc = .ok (.invokevirtual idx, 3)) (hc : cr_cs Y Y' idx 2) (hv : cr_csV Y') (hr : cr_rc Y') (hf : cr_fit (cr_sh Y) (cr_sh Y') (fun j => k0 + j)) (hz : 3 ≤ cr_ml Y') (hm : (cr_sh Y').length = m) (h8 : cr_w8 st ≤ 8) (E : cr_EvM Y' [.inr (.inr 0), .inl a, .inl b] (fun j => M (k0 + j)) (none, M')) (k : cr_Ev Y (pc + 3) lv (st) (cr_mg M k0 m M') r) : cr_Ev Y pc lv (.inl b :: .inl a :: .inr (.inr k0) :: st) M r := e_off2v hd hc hv hr hf hz h8 E (by rw [hm]; exact k)
theorem e_offn2i {Y Y' : cr_Y} {pc idx : Nat} {lv : List (Nat × cr_AV)} {st : List cr_AV} {M M' : cr_M} {r : Option cr_AV × cr_M} {k0 : Nat} (m : Nat) {a b : Int32} {x : Int32} (hd : decode (cr_by Y) pc = .ok (.invokevirtual idx, 3)) (hc : cr_cs Y Y' idx 2) (hv : cr_csV Y') (hr : cr_rc Y') (hf : cr_fit (cr_sh Y) (cr_sh Y') (fun j => k0 + j)) (hz : 3 ≤ cr_ml Y') (hm : (cr_sh Y').length = m) (h8 : cr_w8 st ≤ 8) (E : cr_EvM Y' [.inr (.inr 0), .inl a, .inl b] (fun j => M (k0 + j)) (some (.inl x), M')) (k : cr_Ev Y (pc + 3) lv (.inl x :: st) (cr_mg M k0 m M') r) : cr_Ev Y pc lv (.inl b :: .inl a :: .inr (.inr k0) :: st) M r := e_off2i hd hc hv hr hf hz h8 E (by rw [hm]; exact k)
theorem e_offn3v {Y Y' : cr_Y} {pc idx : Nat} {lv : List (Nat × cr_AV)} {st : List cr_AV} {M M' : cr_M} {r : Option cr_AV × cr_M} {k0 : Nat} (m : Nat) {a b c : Int32} (hd : decode (cr_by Y) pc = .ok (.invokevirtual idx, 3)) (hc : cr_cs Y Y' idx 3) (hv : cr_csV Y') (hr : cr_rc Y') (hf : cr_fit (cr_sh Y) (cr_sh Y') (fun j => k0 + j)) (hz : 4 ≤ cr_ml Y') (hm : (cr_sh Y').length = m) (h8 : cr_w8 st ≤ 8) (E : cr_EvM Y' [.inr (.inr 0), .inl a, .inl b, .inl c] (fun j => M (k0 + j)) (none, M')) (k : cr_Ev Y (pc + 3) lv (st) (cr_mg M k0 m M') r) : cr_Ev Y pc lv (.inl c :: .inl b :: .inl a :: .inr (.inr k0) :: st) M r := e_off3v hd hc hv hr hf hz h8 E (by rw [hm]; exact k)
theorem e_offn3i {Y Y' : cr_Y} {pc idx : Nat} {lv : List (Nat × cr_AV)} {st : List cr_AV} {M M' : cr_M} {r : Option cr_AV × cr_M} {k0 : Nat} (m : Nat) {a b c : Int32} {x : Int32} (hd : decode (cr_by Y) pc = .ok (.invokevirtual idx, 3)) (hc : cr_cs Y Y' idx 3) (hv : cr_csV Y') (hr : cr_rc Y') (hf : cr_fit (cr_sh Y) (cr_sh Y') (fun j => k0 + j)) (hz : 4 ≤ cr_ml Y') (hm : (cr_sh Y').length = m) (h8 : cr_w8 st ≤ 8) (E : cr_EvM Y' [.inr (.inr 0), .inl a, .inl b, .inl c] (fun j => M (k0 + j)) (some (.inl x), M')) (k : cr_Ev Y (pc + 3) lv (.inl x :: st) (cr_mg M k0 m M') r) : cr_Ev Y pc lv (.inl c :: .inl b :: .inl a :: .inr (.inr k0) :: st) M r := e_off3i hd hc hv hr hf hz h8 E (by rw [hm]; exact k)
theorem e_offn4v {Y Y' : cr_Y} {pc idx : Nat} {lv : List (Nat × cr_AV)} {st : List cr_AV} {M M' : cr_M} {r : Option cr_AV × cr_M} {k0 : Nat} (m : Nat) {a b c d : Int32} (hd : decode (cr_by Y) pc = .ok (.invokevirtual idx, 3)) (hc : cr_cs Y Y' idx 4) (hv : cr_csV Y') (hr : cr_rc Y') (hf : cr_fit (cr_sh Y) (cr_sh Y') (fun j => k0 + j)) (hz : 5 ≤ cr_ml Y') (hm : (cr_sh Y').length = m) (h8 : cr_w8 st ≤ 8) (E : cr_EvM Y' [.inr (.inr 0), .inl a, .inl b, .inl c, .inl d] (fun j => M (k0 + j)) (none, M')) (k : cr_Ev Y (pc + 3) lv (st) (cr_mg M k0 m M') r) : cr_Ev Y pc lv (.inl d :: .inl c :: .inl b :: .inl a :: .inr (.inr k0) :: st) M r := e_off4v hd hc hv hr hf hz h8 E (by rw [hm]; exact k)
theorem e_offn4i {Y Y' : cr_Y} {pc idx : Nat} {lv : List (Nat × cr_AV)} {st : List cr_AV} {M M' : cr_M} {r : Option cr_AV × cr_M} {k0 : Nat} (m : Nat) {a b c d : Int32} {x : Int32} (hd : decode (cr_by Y) pc = .ok (.invokevirtual idx, 3)) (hc : cr_cs Y Y' idx 4) (hv : cr_csV Y') (hr : cr_rc Y') (hf : cr_fit (cr_sh Y) (cr_sh Y') (fun j => k0 + j)) (hz : 5 ≤ cr_ml Y') (hm : (cr_sh Y').length = m) (h8 : cr_w8 st ≤ 8) (E : cr_EvM Y' [.inr (.inr 0), .inl a, .inl b, .inl c, .inl d] (fun j => M (k0 + j)) (some (.inl x), M')) (k : cr_Ev Y (pc + 3) lv (.inl x :: st) (cr_mg M k0 m M') r) : cr_Ev Y pc lv (.inl d :: .inl c :: .inl b :: .inl a :: .inr (.inr k0) :: st) M r := e_off4i hd hc hv hr hf hz h8 E (by rw [hm]; exact k)
theorem e_offn5v {Y Y' : cr_Y} {pc idx : Nat} {lv : List (Nat × cr_AV)} {st : List cr_AV} {M M' : cr_M} {r : Option cr_AV × cr_M} {k0 : Nat} (m : Nat) {a b c d f : Int32} (hd : decode (cr_by Y) pc = .ok (.invokevirtual idx, 3)) (hc : cr_cs Y Y' idx 5) (hv : cr_csV Y') (hr : cr_rc Y') (hf : cr_fit (cr_sh Y) (cr_sh Y') (fun j => k0 + j)) (hz : 6 ≤ cr_ml Y') (hm : (cr_sh Y').length = m) (h8 : cr_w8 st ≤ 8) (E : cr_EvM Y' [.inr (.inr 0), .inl a, .inl b, .inl c, .inl d, .inl f] (fun j => M (k0 + j)) (none, M')) (k : cr_Ev Y (pc + 3) lv (st) (cr_mg M k0 m M') r) : cr_Ev Y pc lv (.inl f :: .inl d :: .inl c :: .inl b :: .inl a :: .inr (.inr k0) :: st) M r := e_off5v hd hc hv hr hf hz h8 E (by rw [hm]; exact k)
theorem e_offn5i {Y Y' : cr_Y} {pc idx : Nat} {lv : List (Nat × cr_AV)} {st : List cr_AV} {M M' : cr_M} {r : Option cr_AV × cr_M} {k0 : Nat} (m : Nat) {a b c d f : Int32} {x : Int32} (hd : decode (cr_by Y) pc = .ok (.invokevirtual idx, 3)) (hc : cr_cs Y Y' idx 5) (hv : cr_csV Y') (hr : cr_rc Y') (hf : cr_fit (cr_sh Y) (cr_sh Y') (fun j => k0 + j)) (hz : 6 ≤ cr_ml Y') (hm : (cr_sh Y').length = m) (h8 : cr_w8 st ≤ 8) (E : cr_EvM Y' [.inr (.inr 0), .inl a, .inl b, .inl c, .inl d, .inl f] (fun j => M (k0 + j)) (some (.inl x), M')) (k : cr_Ev Y (pc + 3) lv (.inl x :: st) (cr_mg M k0 m M') r) : cr_Ev Y pc lv (.inl f :: .inl d :: .inl c :: .inl b :: .inl a :: .inr (.inr k0) :: st) M r := e_off5i hd hc hv hr hf hz h8 E (by rw [hm]; exact k)

theorem n_ct_pos {N : cr_M} {c k j : Nat} (hc : c < j) (h : N 16 c = 1) (h2 : N 18 c = nI k) : 0 < n_ct N k j := by
  induction j with
  | zero => omega
  | succ j ih =>
    rw [n_ct]
    rcases Nat.lt_or_ge c j with q | q
    · have := ih q; omega
    · have e : c = j := by omega
      subst e
      rw [if_pos ⟨h, h2⟩]; omega
/-- a call is ended: what the class does, and the reference -/
theorem r_F_e1 {hn cn c k m : Nat} {F N : cr_M} (hR : r_F hn cn F N) (hc : c < cn) (hk : k < hn) (hm : N 22 k = nI (m + 1)) (hm2 : m < 1000) : r_F hn cn (cr_mg (cr_up (cr_up F 11 c 2) 7 k (F 7 k + 1)) 1 9 (h_let (fun j => cr_up (cr_up F 11 c 2) 7 k (F 7 k + 1) (1 + j)) k (N 0 3))) (n_e1 N c k) := by
  have hs := (r_F_h hR hk).2.2.2.2.1
  have hH1 : r_H hn (fun j => cr_up (cr_up F 11 c 2) 7 k (F 7 k + 1) (1 + j)) (cr_up (cr_up (cr_up N 16 c 2) 19 c (-9)) 8 k (N 8 k + 1)) := by
    obtain ⟨h1, h2, h3⟩ := hR.1
    refine ⟨h1, h2, fun i hi => ?_⟩
    obtain ⟨a, b, c', d, e, f, g, i'⟩ := h3 i hi
    refine ⟨a, b, c', d, e, ?_, g, i'⟩
    show cr_up (cr_up F 11 c 2) 7 k (F 7 k + 1) 7 i = cr_up (cr_up (cr_up N 16 c 2) 19 c (-9)) 8 k (N 8 k + 1) 8 i
    have f : F 7 i = N 8 i := f
    simp only [cr_rd]
    grind
  have hH := r_H_let (t := N 0 3) hH1 hk rfl hm hm2
  refine ⟨r_H_cg hH (fun j hj => cr_mg_in hj) (fun _ _ _ => rfl), ?_, ?_, ?_, ?_, u_H_cg (u_H_let (fun q i a b c' d => by show cr_up (cr_up F 11 c 2) 7 k (F 7 k + 1) (1 + q) i = 0; rw [cr_rd, if_neg (by omega), cr_rd, if_neg (by omega)]; exact hR.2.2.2.2.2 q i a b c' d) hk) (fun j hj => cr_mg_in hj)⟩
  · have hC : r_C cn (cr_up (fun j => F (10 + j)) 1 c 2) (n_e1 N c k) := by
      obtain ⟨h1, h2, h3⟩ := hR.2.1
      refine ⟨h1, h2, fun i hi => ?_⟩
      obtain ⟨y1, y2, y3, y4, y5, y6, y7, y8, y9, y10, y11, y12⟩ := h3 i hi
      have n : ∀ q, ¬ q = 16 → ¬ q = 19 → ¬ q = 8 → ¬ q = 22 → ¬ q = 5 → ¬ q = 6 → n_e1 N c k q i = N q i := fun q a1 a2 a3 a4 a5 a6 => n_e1_out a1 a2 a3 a4 a5 a6
      have e19 : n_e1 N c k 19 i = if i = c then -9 else N 19 i := by simp [n_e1, n_los, n_bec, cr_rd]
      refine ⟨?_, y2.trans (n 10 (by omega) (by omega) (by omega) (by omega) (by omega) (by omega)).symm, y3.trans (n 15 (by omega) (by omega) (by omega) (by omega) (by omega) (by omega)).symm, y4.trans (n 11 (by omega) (by omega) (by omega) (by omega) (by omega) (by omega)).symm, y5.trans (n 12 (by omega) (by omega) (by omega) (by omega) (by omega) (by omega)).symm, y6.trans (n 13 (by omega) (by omega) (by omega) (by omega) (by omega) (by omega)).symm, y7.trans (n 14 (by omega) (by omega) (by omega) (by omega) (by omega) (by omega)).symm, y8.trans (n 17 (by omega) (by omega) (by omega) (by omega) (by omega) (by omega)).symm, y9.trans (n 18 (by omega) (by omega) (by omega) (by omega) (by omega) (by omega)).symm, ?_, y11.trans (n 21 (by omega) (by omega) (by omega) (by omega) (by omega) (by omega)).symm, y12.trans (n 20 (by omega) (by omega) (by omega) (by omega) (by omega) (by omega)).symm⟩
      · rw [cr_rd, n_e1_16]
        have y1 : F (10 + 1) i = N 16 i := y1
        by_cases q : i = c
        · rw [if_pos ⟨rfl, q⟩, if_pos q]
        · rw [if_neg (fun z => q z.2), if_neg q]; exact y1
      · rw [n_e1_16, e19]
        by_cases q : i = c
        · rw [if_pos q]; intro z; rcases z with z | z <;> exact absurd z (by decide)
        · rw [if_neg q, if_neg q]; exact y10
    refine r_C_cg hC (fun j hj => ?_) (fun _ _ _ => rfl)
    funext i
    rw [cr_mg_out (by omega), cr_rd, if_neg (by omega), cr_rd, cr_rd]
    by_cases q : j = 1 ∧ i = c
    · rw [if_pos q, if_pos (by omega)]
    · rw [if_neg q, if_neg (by omega)]
  · rw [cr_mg_out (by omega), cr_rd, if_neg (by omega), cr_rd, if_neg (by omega), n_e1_out (by decide) (by decide) (by decide) (by decide) (by decide) (by decide)]; exact hR.2.2.1
  · rw [cr_mg_out (by omega), cr_rd, if_neg (by omega), cr_rd, if_neg (by omega), n_e1_out (by decide) (by decide) (by decide) (by decide) (by decide) (by decide)]; exact hR.2.2.2.1
  · rw [cr_mg_out (by omega), cr_rd, if_neg (by omega), cr_rd, if_neg (by omega), n_e1_out (by decide) (by decide) (by decide) (by decide) (by decide) (by decide)]; exact hR.2.2.2.2.1
set_option maxHeartbeats 1000000 in
theorem ev_X1_endWith {hn : Nat} {F : cr_M} {k : Nat} (h10 : hn ≤ 10) (z1 : F 1 0 = nI hn) (hk : k < hn) : cr_EvM Y_X1_endWith [.inr (.inr 0), .inl (nI k)] F (none, cr_mg (cr_up F 7 k (F 7 k + 1)) 1 9 (h_let (fun j => cr_up F 7 k (F 7 k + 1) (1 + j)) k (F 0 4))) := by
  refine e_aload_n (pc := 0) dX1_endWith_0 rfl ?_
  refine e_getA (pc := 1) dX1_endWith_1 f_1_12 rfl rfl ?_
  refine e_iload_n (pc := 4) dX1_endWith_4 rfl ?_
  refine e_offR1i (pc := 5) (M' := fun _ _ => 0) dX1_endWith_5 cs_X1_endWith_109 cv_X2_has rc_X2_has fit_shF_shH_1 (by decide) (Nat.le_of_ble_eq_true rfl) (ev_X2_has _ _) ?_
  refine e_if_eq (pc := 8) (tgt := 36) dX1_endWith_8 (by decide) (fun hc_8 => ?_) (fun hc_8 => ?_)
  · exact absurd hc_8 (by rw [bI_t (show 0 ≤ nI k ∧ nI k < F 1 0 by rw [z1]; exact cr_ix_in hk (by omega))]; decide)
  · refine e_aload_n (pc := 11) dX1_endWith_11 rfl ?_
    refine e_getA (pc := 12) dX1_endWith_12 f_1_12 rfl rfl ?_
    refine e_getA (pc := 15) dX1_endWith_15 f_1_113 rfl rfl ?_
    refine e_iload_n (pc := 18) dX1_endWith_18 rfl ?_
    refine e_dup2 (pc := 19) dX1_endWith_19 ?_
    first | refine e_ialdN (pc := 20) dX1_endWith_20 rfl (by omega) (by decide) ?_ | refine e_iald (pc := 20) dX1_endWith_20 rfl (by assumption) ?_
    refine e_iconst (pc := 21) (v := 1) dX1_endWith_21 (by decide) ?_
    refine e_iadd (pc := 22) dX1_endWith_22 ?_
    first | refine e_iastN (pc := 23) dX1_endWith_23 rfl (by omega) (by decide) ?_ | refine e_iast (pc := 23) dX1_endWith_23 rfl (by assumption) ?_
    refine e_aload_n (pc := 24) dX1_endWith_24 rfl ?_
    refine e_getA (pc := 25) dX1_endWith_25 f_1_12 rfl rfl ?_
    refine e_iload_n (pc := 28) dX1_endWith_28 rfl ?_
    refine e_aload_n (pc := 29) dX1_endWith_29 rfl ?_
    refine e_getI (pc := 30) dX1_endWith_30 f_1_43 rfl rfl ?_
    refine e_off2v (pc := 33) dX1_endWith_33 cs_X1_endWith_116 cv_X2_letGo rc_X2_letGo fit_shF_shH_1 (by decide) (Nat.le_of_ble_eq_true rfl) (ev_X2_letGo _ _ z1 h10 hk) ?_
    refine r_vret (pc := 36) dX1_endWith_36 rfl ?_
    rfl
set_option maxHeartbeats 4000000 in
theorem lp_X1_endCalls {hn cn tk b d : Nat} {N : cr_M} (hI : n_I hn cn tk b d (fun _ => tk) N) : ∀ (n j : Nat) (F : cr_M) (z : Int32), j + n = cn → r_F hn cn F (n_ec N j) → z = n_ecn N j → ∃ F', cr_Ev Y_X1_endCalls 4 [(2, .inl (nI j)), (0, .inr (.inr 0)), (1, .inl z)] [] F (some (.inl (n_ecn N cn)), F') ∧ r_F hn cn F' (n_ec N cn) := by
  intro n
  induction n with
  | zero =>
    intro j F z hj hR hz
    obtain ⟨h10, h200, z1, z2, z3, z4, z5⟩ := r_F_z hR
    refine ⟨F, ?_, by rw [show n_ec N cn = n_ec N j by rw [show cn = j by omega]]; exact hR⟩
    · skip
      refine e_iload_n (pc := 4) dX1_endCalls_4 rfl ?_
      refine e_aload_n (pc := 5) dX1_endCalls_5 rfl ?_
      refine e_getA (pc := 6) dX1_endCalls_6 f_1_21 rfl rfl ?_
      refine e_getI (pc := 9) dX1_endCalls_9 f_1_94 rfl rfl ?_
      refine e_icmp_ge (pc := 12) (tgt := 76) dX1_endCalls_12 (by decide) (fun hc_12 => ?_) (fun hc_12 => ?_)
      · refine e_iload_n (pc := 76) dX1_endCalls_76 rfl ?_
        refine r_iret (pc := 77) dX1_endCalls_77 rfl ?_
        rw [hz, show j = cn by omega]
      · exact absurd (show F 10 0 ≤ nI j by rw [z2]; exact nI_le (by omega) (by omega)) (by assumption)
  | succ n ih =>
    intro j F z hj hR hz
    obtain ⟨h10, h200, z1, z2, z3, z4, z5⟩ := r_F_z hR
    obtain ⟨x1, x2, x3, x4, x5, x6, x7, x8, x9, x10, x11, x12⟩ := r_F_c hR (c := j) (by omega)
    have hIj := n_I_ec hI j (by omega)
    by_cases hcd : n_ec N j 16 j = 1 ∧ n_ec N j 19 j ≤ n_ec N j 0 3
    · obtain ⟨k, hk, e18⟩ := n_I_ON hIj j (by omega) hcd.1
      have e19 : F 19 j = nI k := x9.trans e18
      have hL := hIj.2.2.2.2.2.2 k hk
      have hpos : 0 < n_ct (n_ec N j) k cn := n_ct_pos (by omega) hcd.1 e18
      have hle := n_ct_le (n_ec N j) k cn
      have hR2 := r_F_e1 (c := j) (k := k) (m := n_ct (n_ec N j) k cn - 1) hR (by omega) hk (by rw [hL, show n_ct (n_ec N j) k cn - 1 + 1 = n_ct (n_ec N j) k cn by omega]) (by omega)
      have en : n_ec N (j + 1) = n_e1 (n_ec N j) j k := by rw [n_ec, if_pos hcd, e18, nI_clamp (by omega)]
      rw [← en, ← z3] at hR2
      obtain ⟨F3, hE3, hR3⟩ := ih (j + 1) _ (z + 1) (by omega) hR2 (by rw [n_ecn, if_pos hcd, hz])
      refine ⟨F3, ?_, hR3⟩
      · skip
        have hx20 := x10 (Or.inl hcd.1)
        refine e_iload_n (pc := 4) dX1_endCalls_4 rfl ?_
        refine e_aload_n (pc := 5) dX1_endCalls_5 rfl ?_
        refine e_getA (pc := 6) dX1_endCalls_6 f_1_21 rfl rfl ?_
        refine e_getI (pc := 9) dX1_endCalls_9 f_1_94 rfl rfl ?_
        refine e_icmp_ge (pc := 12) (tgt := 76) dX1_endCalls_12 (by decide) (fun hc_12 => ?_) (fun hc_12 => ?_)
        · exact absurd (show F 10 0 ≤ nI j by assumption) (by rw [z2]; exact nI_ge (by omega) (by omega))
        · refine e_aload_n (pc := 15) dX1_endCalls_15 rfl ?_
          refine e_getA (pc := 16) dX1_endCalls_16 f_1_21 rfl rfl ?_
          refine e_getA (pc := 19) dX1_endCalls_19 f_1_63 rfl rfl ?_
          refine e_iload_n (pc := 22) dX1_endCalls_22 rfl ?_
          first | refine e_ialdN (pc := 23) dX1_endCalls_23 rfl (by omega) (by decide) ?_ | refine e_iald (pc := 23) dX1_endCalls_23 rfl (by assumption) ?_
          refine e_iconst (pc := 24) (v := 1) dX1_endCalls_24 (by decide) ?_
          refine e_icmp_ne (pc := 25) (tgt := 70) dX1_endCalls_25 (by decide) (fun hc_25 => ?_) (fun hc_25 => ?_)
          · first | refine e_iinc1 (pc := 70) dX1_endCalls_70 rfl (by decide) ?_ | refine e_iincp (pc := 70) dX1_endCalls_70 rfl (by decide) ?_
            refine e_goto (pc := 73) (tgt := 4) dX1_endCalls_73 (by decide) ?_
            first | exact e_wk hE3 ⟨rfl, rfl, rfl, trivial⟩ | (exfalso; grind)
          · refine e_aload_n (pc := 28) dX1_endCalls_28 rfl ?_
            refine e_getA (pc := 29) dX1_endCalls_29 f_1_21 rfl rfl ?_
            refine e_getA (pc := 32) dX1_endCalls_32 f_1_100 rfl rfl ?_
            refine e_iload_n (pc := 35) dX1_endCalls_35 rfl ?_
            first | refine e_ialdN (pc := 36) dX1_endCalls_36 rfl (by omega) (by decide) ?_ | refine e_iald (pc := 36) dX1_endCalls_36 rfl (by assumption) ?_
            refine e_aload_n (pc := 37) dX1_endCalls_37 rfl ?_
            refine e_getI (pc := 38) dX1_endCalls_38 f_1_43 rfl rfl ?_
            refine e_icmp_gt (pc := 41) (tgt := 70) dX1_endCalls_41 (by decide) (fun hc_41 => ?_) (fun hc_41 => ?_)
            · first | refine e_iinc1 (pc := 70) dX1_endCalls_70 rfl (by decide) ?_ | refine e_iincp (pc := 70) dX1_endCalls_70 rfl (by decide) ?_
              refine e_goto (pc := 73) (tgt := 4) dX1_endCalls_73 (by decide) ?_
              first | exact e_wk hE3 ⟨rfl, rfl, rfl, trivial⟩ | (exfalso; grind)
            · refine e_aload_n (pc := 44) dX1_endCalls_44 rfl ?_
              refine e_getA (pc := 45) dX1_endCalls_45 f_1_21 rfl rfl ?_
              refine e_getA (pc := 48) dX1_endCalls_48 f_1_63 rfl rfl ?_
              refine e_iload_n (pc := 51) dX1_endCalls_51 rfl ?_
              refine e_iconst (pc := 52) (v := 2) dX1_endCalls_52 (by decide) ?_
              first | refine e_iastN (pc := 53) dX1_endCalls_53 rfl (by omega) (by decide) ?_ | refine e_iast (pc := 53) dX1_endCalls_53 rfl (by assumption) ?_
              refine e_aload_n (pc := 54) dX1_endCalls_54 rfl ?_
              refine e_aload_n (pc := 55) dX1_endCalls_55 rfl ?_
              refine e_getA (pc := 56) dX1_endCalls_56 f_1_21 rfl rfl ?_
              refine e_getA (pc := 59) dX1_endCalls_59 f_1_103 rfl rfl ?_
              refine e_iload_n (pc := 62) dX1_endCalls_62 rfl ?_
              refine e_ialdV (pc := 63) (nI k) dX1_endCalls_63 rfl (by omega) (by decide) e19 ?_
              refine e_self1v (pc := 64) dX1_endCalls_64 cs_X1_endCalls_106 cv_X1_endWith rc_X1_endWith rfl (by decide) (Nat.le_of_ble_eq_true rfl) (ev_X1_endWith h10 z1 hk) ?_
              first | refine e_iinc1 (pc := 67) dX1_endCalls_67 rfl (by decide) ?_ | refine e_iincp (pc := 67) dX1_endCalls_67 rfl (by decide) ?_
              first | refine e_iinc1 (pc := 70) dX1_endCalls_70 rfl (by decide) ?_ | refine e_iincp (pc := 70) dX1_endCalls_70 rfl (by decide) ?_
              refine e_goto (pc := 73) (tgt := 4) dX1_endCalls_73 (by decide) ?_
              first | exact e_wk hE3 ⟨rfl, rfl, rfl, trivial⟩ | (exfalso; grind)
    · have en : n_ec N (j + 1) = n_ec N j := by rw [n_ec, if_neg hcd]
      obtain ⟨F3, hE3, hR3⟩ := ih (j + 1) F z (by omega) (by rw [en]; exact hR) (by rw [n_ecn, if_neg hcd, hz])
      refine ⟨F3, ?_, hR3⟩
      · skip
        refine e_iload_n (pc := 4) dX1_endCalls_4 rfl ?_
        refine e_aload_n (pc := 5) dX1_endCalls_5 rfl ?_
        refine e_getA (pc := 6) dX1_endCalls_6 f_1_21 rfl rfl ?_
        refine e_getI (pc := 9) dX1_endCalls_9 f_1_94 rfl rfl ?_
        refine e_icmp_ge (pc := 12) (tgt := 76) dX1_endCalls_12 (by decide) (fun hc_12 => ?_) (fun hc_12 => ?_)
        · exact absurd (show F 10 0 ≤ nI j by assumption) (by rw [z2]; exact nI_ge (by omega) (by omega))
        · refine e_aload_n (pc := 15) dX1_endCalls_15 rfl ?_
          refine e_getA (pc := 16) dX1_endCalls_16 f_1_21 rfl rfl ?_
          refine e_getA (pc := 19) dX1_endCalls_19 f_1_63 rfl rfl ?_
          refine e_iload_n (pc := 22) dX1_endCalls_22 rfl ?_
          first | refine e_ialdN (pc := 23) dX1_endCalls_23 rfl (by omega) (by decide) ?_ | refine e_iald (pc := 23) dX1_endCalls_23 rfl (by assumption) ?_
          refine e_iconst (pc := 24) (v := 1) dX1_endCalls_24 (by decide) ?_
          refine e_icmp_ne (pc := 25) (tgt := 70) dX1_endCalls_25 (by decide) (fun hc_25 => ?_) (fun hc_25 => ?_)
          · first | refine e_iinc1 (pc := 70) dX1_endCalls_70 rfl (by decide) ?_ | refine e_iincp (pc := 70) dX1_endCalls_70 rfl (by decide) ?_
            refine e_goto (pc := 73) (tgt := 4) dX1_endCalls_73 (by decide) ?_
            exact e_wk hE3 ⟨rfl, rfl, rfl, trivial⟩
          · refine e_aload_n (pc := 28) dX1_endCalls_28 rfl ?_
            refine e_getA (pc := 29) dX1_endCalls_29 f_1_21 rfl rfl ?_
            refine e_getA (pc := 32) dX1_endCalls_32 f_1_100 rfl rfl ?_
            refine e_iload_n (pc := 35) dX1_endCalls_35 rfl ?_
            first | refine e_ialdN (pc := 36) dX1_endCalls_36 rfl (by omega) (by decide) ?_ | refine e_iald (pc := 36) dX1_endCalls_36 rfl (by assumption) ?_
            refine e_aload_n (pc := 37) dX1_endCalls_37 rfl ?_
            refine e_getI (pc := 38) dX1_endCalls_38 f_1_43 rfl rfl ?_
            refine e_icmp_gt (pc := 41) (tgt := 70) dX1_endCalls_41 (by decide) (fun hc_41 => ?_) (fun hc_41 => ?_)
            · first | refine e_iinc1 (pc := 70) dX1_endCalls_70 rfl (by decide) ?_ | refine e_iincp (pc := 70) dX1_endCalls_70 rfl (by decide) ?_
              refine e_goto (pc := 73) (tgt := 4) dX1_endCalls_73 (by decide) ?_
              exact e_wk hE3 ⟨rfl, rfl, rfl, trivial⟩
            · exfalso
              grind
theorem ev_X1_endCalls {hn cn tk b d : Nat} {F N : cr_M} (hI : n_I hn cn tk b d (fun _ => tk) N) (hR : r_F hn cn F N) : ∃ F', cr_EvM Y_X1_endCalls [.inr (.inr 0)] F (some (.inl (n_ecn N cn)), F') ∧ r_F hn cn F' (n_ec N cn) := by
  obtain ⟨F', hE, hR'⟩ := lp_X1_endCalls hI cn 0 F 0 (by omega) hR rfl
  refine ⟨F', ?_, hR'⟩
  unfold cr_EvM
  refine e_iconst (pc := 0) (v := 0) dX1_endCalls_0 (by decide) ?_
  refine e_istore_n (pc := 1) dX1_endCalls_1 (by decide) ?_
  refine e_iconst (pc := 2) (v := 0) dX1_endCalls_2 (by decide) ?_
  refine e_istore_n (pc := 3) dX1_endCalls_3 (by decide) ?_
  exact e_wk hE ⟨rfl, rfl, rfl, trivial⟩
theorem r_F_tick {hn cn : Nat} {F N : cr_M} {x : Int32} (hR : r_F hn cn F N) : r_F hn cn (cr_up F 0 4 (F 0 4 + x)) (cr_up N 0 3 (N 0 3 + x)) := by
  refine ⟨r_H_cg hR.1 (fun j hj => by funext i; rw [cr_rd, if_neg (by omega)]) (fun q i hq => by rw [cr_rd, if_neg (by omega)]), r_C_cg hR.2.1 (fun j hj => by funext i; rw [cr_rd, if_neg (by omega)]) (fun q i hq => by rw [cr_rd, if_neg (by omega)]), ?_, ?_, ?_, u_H_cg hR.2.2.2.2.2 (fun j hj => by funext i; rw [cr_rd, if_neg (by omega)])⟩
  · simp only [cr_rd]; simp; rw [hR.2.2.1]
  · simp only [cr_rd]; simp; exact hR.2.2.2.1
  · simp only [cr_rd]; simp; exact hR.2.2.2.2.1
theorem r_F_busy {hn cn : Nat} {F N : cr_M} {x : Int32} (hR : r_F hn cn F N) : r_F hn cn (cr_mg F 1 9 (h_busy hn x (fun j => F (1 + j)))) (n_busy hn x N) := r_F_H hR (u_H_busy hR.2.2.2.2.2) (r_H_busy hR.1) (fun q i hq => by unfold n_busy; rw [if_neg (by omega)]) rfl rfl rfl
theorem r_F_brk {hn cn : Nat} {F N : cr_M} {t : Int32} (hR : r_F hn cn F N) (ht : N 0 3 = t) : r_F hn cn (cr_mg F 1 9 (h_brk hn t (fun j => F (1 + j)))) (n_brk hn N) := by
  subst ht
  exact r_F_H hR (u_H_brk hR.2.2.2.2.2) (r_H_brk hR.1) (fun q i hq => by unfold n_brk; rw [if_neg (by omega), if_neg (by omega)]) rfl rfl rfl
theorem r_F_ring {hn cn : Nat} {F N : cr_M} {t : Int32} (hR : r_F hn cn F N) (ht : N 0 3 = t) (h18 : ∀ c, c < cn → N 16 c = 4 → N 18 c = -9) : r_F hn cn (cr_mg F 10 13 (c_ring cn t (fun j => F (10 + j)))) (n_ring cn N) := by
  subst ht
  exact r_F_C hR (r_C_ring hR.2.1 h18) (fun q i hq => by unfold n_ring; rw [if_neg (by omega), if_neg (by omega), if_neg (by omega)]) rfl rfl rfl
theorem r_F_lose {hn cn : Nat} {F N : cr_M} {t : Int32} (hR : r_F hn cn F N) (ht : N 0 3 = t) : r_F hn cn (cr_mg F 10 13 (c_lose cn t (fun j => F (10 + j)))) (n_lose cn N) := by
  subst ht
  exact r_F_C hR (r_C_lose hR.2.1) (fun q i hq => by unfold n_lose; rw [if_neg (by omega)]) rfl rfl rfl
set_option maxHeartbeats 2000000 in
theorem ev_X1_passTick {hn cn tk : Nat} {F N : cr_M} (hJ : n_J hn cn tk N) (ht : tk + 1 ≤ 21000) (hR : r_F hn cn F N) : ∃ F', cr_EvM Y_X1_passTick [.inr (.inr 0)] F (some (.inl (n_gon hn cn N)), F') ∧ r_F hn cn F' (n_go hn cn N) := by
  obtain ⟨h10, h200, z1, z2, z3, z4, z5⟩ := r_F_z hR
  have hR2 := r_F_tick (x := 1) (r_F_busy (x := 1) hR)
  have hI : n_I hn cn (tk + 1) (tk + 1) (tk + 1) (fun _ => tk + 1) (n_ev hn N) := n_I_tick ht (n_I_busy hJ)
  obtain ⟨F3, hE3, hR3⟩ := ev_X1_endCalls hI hR2
  have hI3 := n_I_ec hI cn (Nat.le_refl _)
  obtain ⟨-, -, y1, y2, y3, -⟩ := r_F_z hR3
  rw [hI3.2.1] at y3
  have hR4 := r_F_brk hR3 hI3.2.1
  have hI4 := n_I_brk hI3
  obtain ⟨-, -, u1, u2, u3, -⟩ := r_F_z hR4
  rw [hI4.2.1] at u3
  have hR5 := r_F_ring hR4 hI4.2.1 (fun c hc h4 => (hI4.2.2.2.2.2.1 c hc).2.2.2.2.2.2.1 (by rw [h4]; decide) (by rw [h4]; decide))
  have hI5 := n_I_ring hI4
  obtain ⟨-, -, v1, v2, v3, -⟩ := r_F_z hR5
  rw [hI5.2.1] at v3
  have hR6 := r_F_lose hR5 hI5.2.1
  have hJ6 := n_J_pg ht hJ
  obtain ⟨F7, hE7, hR7⟩ := ev_X1_giveAll hJ6 hR6
  refine ⟨F7, ?_, hR7⟩
  · show cr_EvM Y_X1_passTick _ F _
    refine e_aload_n (pc := 0) dX1_passTick_0 rfl ?_
    refine e_getA (pc := 1) dX1_passTick_1 f_1_12 rfl rfl ?_
    refine e_iconst (pc := 4) (v := 1) dX1_passTick_4 (by decide) ?_
    refine e_offn1v (pc := 5) 9 dX1_passTick_5 cs_X1_passTick_66 cv_X2_addBusyTicks rc_X2_addBusyTicks fit_shF_shH_1 (by decide) rfl (Nat.le_of_ble_eq_true rfl) (ev_X2_addBusyTicks 1 z1 h10) ?_
    refine e_aload_n (pc := 8) dX1_passTick_8 rfl ?_
    refine e_dup_a (pc := 9) dX1_passTick_9 ?_
    refine e_getIv (pc := 10) (F 0 4) dX1_passTick_10 f_1_43 rfl rfl rfl ?_
    refine e_iconst (pc := 13) (v := 1) dX1_passTick_13 (by decide) ?_
    refine e_iadd (pc := 14) dX1_passTick_14 ?_
    refine e_put (pc := 15) dX1_passTick_15 f_1_43 p_1_4 rfl rfl ?_
    refine e_aload_n (pc := 18) dX1_passTick_18 rfl ?_
    refine e_self0i (pc := 19) dX1_passTick_19 cs_X1_passTick_70 cv_X1_endCalls rc_X1_endCalls rfl (by decide) (Nat.le_of_ble_eq_true rfl) hE3 ?_
    refine e_istore_n (pc := 22) dX1_passTick_22 (by decide) ?_
    refine e_aload_n (pc := 23) dX1_passTick_23 rfl ?_
    refine e_getA (pc := 24) dX1_passTick_24 f_1_12 rfl rfl ?_
    refine e_aload_n (pc := 27) dX1_passTick_27 rfl ?_
    refine e_getIv (pc := 28) (nI (tk + 1)) dX1_passTick_28 f_1_43 rfl rfl y3 ?_
    refine e_offn1v (pc := 31) 9 dX1_passTick_31 cs_X1_passTick_73 cv_X2_endBreaks rc_X2_endBreaks fit_shF_shH_1 (by decide) rfl (Nat.le_of_ble_eq_true rfl) (ev_X2_endBreaks _ y1 h10) ?_
    refine e_aload_n (pc := 34) dX1_passTick_34 rfl ?_
    refine e_getA (pc := 35) dX1_passTick_35 f_1_21 rfl rfl ?_
    refine e_aload_n (pc := 38) dX1_passTick_38 rfl ?_
    refine e_getIv (pc := 39) (nI (tk + 1)) dX1_passTick_39 f_1_43 rfl rfl u3 ?_
    refine e_offn1v (pc := 42) 13 dX1_passTick_42 cs_X1_passTick_76 cv_X0_ringBackDue rc_X0_ringBackDue fit_shF_shC_10 (by decide) rfl (Nat.le_of_ble_eq_true rfl) (ev_X0_ringBackDue _ u2 h200) ?_
    refine e_aload_n (pc := 45) dX1_passTick_45 rfl ?_
    refine e_getA (pc := 46) dX1_passTick_46 f_1_21 rfl rfl ?_
    refine e_aload_n (pc := 49) dX1_passTick_49 rfl ?_
    refine e_getIv (pc := 50) (nI (tk + 1)) dX1_passTick_50 f_1_43 rfl rfl v3 ?_
    refine e_offn1v (pc := 53) 13 dX1_passTick_53 cs_X1_passTick_79 cv_X0_loseImpatient rc_X0_loseImpatient fit_shF_shC_10 (by decide) rfl (Nat.le_of_ble_eq_true rfl) (ev_X0_loseImpatient _ v2 h200) ?_
    refine e_aload_n (pc := 56) dX1_passTick_56 rfl ?_
    refine e_self0v (pc := 57) dX1_passTick_57 cs_X1_passTick_82 cv_X1_giveAll rc_X1_giveAll rfl (by decide) (Nat.le_of_ble_eq_true rfl) hE7 ?_
    refine e_iload_n (pc := 60) dX1_passTick_60 rfl ?_
    refine r_iret (pc := 61) dX1_passTick_61 rfl ?_
    rfl
