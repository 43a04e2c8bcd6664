theorem x_pz {X H : cr_M} {k : Nat} {x : Int32} : cr_up (cr_mg X 2 9 H) 10 k x = cr_mg X 2 9 (cr_up H 8 k x) := by
  funext q i
  by_cases h : 2 ≤ q ∧ q < 2 + 9
  · obtain ⟨a, rfl⟩ : ∃ a, q = 2 + a := ⟨q - 2, by omega⟩
    rw [cr_mg_in (by omega), cr_rd, cr_rd, cr_mg_in (by omega)]
    by_cases h2 : a = 8 ∧ i = k
    · rw [if_pos h2, if_pos (by omega)]
    · rw [if_neg h2, if_neg (by omega)]
  · rw [cr_rd, if_neg (by omega), cr_mg_out (by omega), cr_mg_out (by omega)]
theorem ev_X2_hasT {M : cr_M} {h : Int32} (hh : 0 ≤ h ∧ h < M 0 0) : cr_EvM Y_X2_has [.inr (.inr 0), .inl h] M (some (.inl 1), M) := by
  have e := ev_X2_has M h
  rw [bI_t hh] at e
  exact e
theorem ev_X2_hasF {M : cr_M} {h : Int32} (hh : ¬ (0 ≤ h ∧ h < M 0 0)) : cr_EvM Y_X2_has [.inr (.inr 0), .inl h] M (some (.inl 0), M) := by
  have e := ev_X2_has M h
  rw [bI_f hh] at e
  exact e
theorem ev_X0_hasT {M : cr_M} {h : Int32} (hh : 0 ≤ h ∧ h < M 0 0) : cr_EvM Y_X0_has [.inr (.inr 0), .inl h] M (some (.inl 1), M) := by
  have e := ev_X0_has M h
  rw [bI_t hh] at e
  exact e
theorem ev_X0_hasF {M : cr_M} {h : Int32} (hh : ¬ (0 ≤ h ∧ h < M 0 0)) : cr_EvM Y_X0_has [.inr (.inr 0), .inl h] M (some (.inl 0), M) := by
  have e := ev_X0_has M h
  rw [bI_f hh] at e
  exact e
def x_out (n a b : Int32) : Int32 := if n < a then -4 else if b < n then -6 else 0
theorem x_out_c (n a b : Int32) : (n < a ∧ x_out n a b = -4) ∨ (¬ n < a ∧ b < n ∧ x_out n a b = -6) ∨ (¬ n < a ∧ ¬ b < n ∧ x_out n a b = 0) := by
  unfold x_out
  by_cases h : n < a
  · exact Or.inl ⟨h, if_pos h⟩
  · by_cases h2 : b < n
    · exact Or.inr (Or.inl ⟨h, h2, by rw [if_neg h, if_pos h2]⟩)
    · exact Or.inr (Or.inr ⟨h, h2, by rw [if_neg h, if_neg h2]⟩)
set_option maxHeartbeats 1000000 in
theorem ev_X4_outside (M : cr_M) (n a b : Int32) : cr_EvM Y_X4_outside [.inl n, .inl a, .inl b] M (some (.inl (x_out n a b)), M) := by
  refine e_iload_n (pc := 0) dX4_outside_0 rfl ?_
  refine e_iload_n (pc := 1) dX4_outside_1 rfl ?_
  refine e_icmp_ge (pc := 2) (tgt := 8) dX4_outside_2 (by decide) (fun hc_2 => ?_) (fun hc_2 => ?_)
  · refine e_iload_n (pc := 8) dX4_outside_8 rfl ?_
    refine e_iload_n (pc := 9) dX4_outside_9 rfl ?_
    refine e_icmp_le (pc := 10) (tgt := 18) dX4_outside_10 (by decide) (fun hc_10 => ?_) (fun hc_10 => ?_)
    · refine e_iconst (pc := 18) (v := 0) dX4_outside_18 (by decide) ?_
      refine r_iret (pc := 19) dX4_outside_19 rfl ?_
      exact rt_i (by unfold x_out; grind)
    · refine e_bipush (pc := 13) (v := (-6)) dX4_outside_13 (by decide) ?_
      refine e_goto (pc := 15) (tgt := 19) dX4_outside_15 (by decide) ?_
      refine r_iret (pc := 19) dX4_outside_19 rfl ?_
      exact rt_i (by unfold x_out; grind)
  · refine e_bipush (pc := 5) (v := (-4)) dX4_outside_5 (by decide) ?_
    refine r_iret (pc := 7) dX4_outside_7 rfl ?_
    exact rt_i (by unfold x_out; grind)
set_option maxHeartbeats 1000000 in
theorem ev_X4_isSort (M : cr_M) (s : Int32) : cr_EvM Y_X4_isSort [.inl s] M (some (.inl (bI (0 ≤ s ∧ s < 4))), M) := by
  refine e_iload_n (pc := 0) dX4_isSort_0 rfl ?_
  refine e_if_lt (pc := 1) (tgt := 13) dX4_isSort_1 (by decide) (fun hc_1 => ?_) (fun hc_1 => ?_)
  · refine e_iconst (pc := 13) (v := 0) dX4_isSort_13 (by decide) ?_
    refine r_zret (pc := 14) dX4_isSort_14 rfl (by first | exact Or.inl rfl | exact Or.inr rfl | exact bI_01 _ | assumption) ?_
    first | exact rt_t (by grind) | exact rt_f (by grind)
  · refine e_iload_n (pc := 4) dX4_isSort_4 rfl ?_
    refine e_iconst (pc := 5) (v := 4) dX4_isSort_5 (by decide) ?_
    refine e_icmp_ge (pc := 6) (tgt := 13) dX4_isSort_6 (by decide) (fun hc_6 => ?_) (fun hc_6 => ?_)
    · refine e_iconst (pc := 13) (v := 0) dX4_isSort_13 (by decide) ?_
      refine r_zret (pc := 14) dX4_isSort_14 rfl (by first | exact Or.inl rfl | exact Or.inr rfl | exact bI_01 _ | assumption) ?_
      first | exact rt_t (by grind) | exact rt_f (by grind)
    · refine e_iconst (pc := 9) (v := 1) dX4_isSort_9 (by decide) ?_
      refine e_goto (pc := 10) (tgt := 14) dX4_isSort_10 (by decide) ?_
      refine r_zret (pc := 14) dX4_isSort_14 rfl (by first | exact Or.inl rfl | exact Or.inr rfl | exact bI_01 _ | assumption) ?_
      first | exact rt_t (by grind) | exact rt_f (by grind)
set_option maxHeartbeats 1000000 in
theorem ev_X4_isQuarter (M : cr_M) (s : Int32) : cr_EvM Y_X4_isQuarter [.inl s] M (some (.inl (bI (0 ≤ s ∧ s < 16))), M) := by
  refine e_iload_n (pc := 0) dX4_isQuarter_0 rfl ?_
  refine e_if_lt (pc := 1) (tgt := 14) dX4_isQuarter_1 (by decide) (fun hc_1 => ?_) (fun hc_1 => ?_)
  · refine e_iconst (pc := 14) (v := 0) dX4_isQuarter_14 (by decide) ?_
    refine r_zret (pc := 15) dX4_isQuarter_15 rfl (by first | exact Or.inl rfl | exact Or.inr rfl | exact bI_01 _ | assumption) ?_
    first | exact rt_t (by grind) | exact rt_f (by grind)
  · refine e_iload_n (pc := 4) dX4_isQuarter_4 rfl ?_
    refine e_bipush (pc := 5) (v := 16) dX4_isQuarter_5 (by decide) ?_
    refine e_icmp_ge (pc := 7) (tgt := 14) dX4_isQuarter_7 (by decide) (fun hc_7 => ?_) (fun hc_7 => ?_)
    · refine e_iconst (pc := 14) (v := 0) dX4_isQuarter_14 (by decide) ?_
      refine r_zret (pc := 15) dX4_isQuarter_15 rfl (by first | exact Or.inl rfl | exact Or.inr rfl | exact bI_01 _ | assumption) ?_
      first | exact rt_t (by grind) | exact rt_f (by grind)
    · refine e_iconst (pc := 10) (v := 1) dX4_isQuarter_10 (by decide) ?_
      refine e_goto (pc := 11) (tgt := 15) dX4_isQuarter_11 (by decide) ?_
      refine r_zret (pc := 15) dX4_isQuarter_15 rfl (by first | exact Or.inl rfl | exact Or.inr rfl | exact bI_01 _ | assumption) ?_
      first | exact rt_t (by grind) | exact rt_f (by grind)
theorem ev_X4_isSortT {M : cr_M} {s : Int32} (h : 0 ≤ s ∧ s < 4) : cr_EvM Y_X4_isSort [.inl s] M (some (.inl 1), M) := by
  have e := ev_X4_isSort M s
  rw [bI_t h] at e
  exact e
theorem ev_X4_isSortF {M : cr_M} {s : Int32} (h : ¬ (0 ≤ s ∧ s < 4)) : cr_EvM Y_X4_isSort [.inl s] M (some (.inl 0), M) := by
  have e := ev_X4_isSort M s
  rw [bI_f h] at e
  exact e
theorem ev_X4_isQuarterT {M : cr_M} {s : Int32} (h : 0 ≤ s ∧ s < 16) : cr_EvM Y_X4_isQuarter [.inl s] M (some (.inl 1), M) := by
  have e := ev_X4_isQuarter M s
  rw [bI_t h] at e
  exact e
theorem ev_X4_isQuarterF {M : cr_M} {s : Int32} (h : ¬ (0 ≤ s ∧ s < 16)) : cr_EvM Y_X4_isQuarter [.inl s] M (some (.inl 0), M) := by
  have e := ev_X4_isQuarter M s
  rw [bI_f h] at e
  exact e
set_option maxHeartbeats 1000000 in
theorem ev_X4_refuse (X : cr_M) {x : Int32} {k : Nat} (hx : -x = nI k) (hk : 0 < k ∧ k < 7) : cr_EvM Y_X4_refuse [.inr (.inr 0), .inl x] X (some (.inl x), cr_up X 54 k (X 54 k + 1)) := by
  have f : ∀ k, k < 7 → 0 < k → ¬ nI k < 1 ∧ ¬ 6 < nI k := by decide +kernel
  refine e_iload_n (pc := 0) dX4_refuse_0 rfl ?_
  refine e_ineg (pc := 1) dX4_refuse_1 ?_
  rw [hx]
  refine e_istore_n (pc := 2) dX4_refuse_2 (by decide) ?_
  refine e_iload_n (pc := 3) dX4_refuse_3 rfl ?_
  refine e_iconst (pc := 4) (v := 1) dX4_refuse_4 (by decide) ?_
  refine e_icmp_lt (pc := 5) (tgt := 24) dX4_refuse_5 (by decide) (fun hc_5 => absurd hc_5 (f k hk.2 hk.1).1) (fun hc_5 => ?_)
  refine e_iload_n (pc := 8) dX4_refuse_8 rfl ?_
  refine e_bipush (pc := 9) (v := 6) dX4_refuse_9 (by decide) ?_
  refine e_icmp_gt (pc := 11) (tgt := 24) dX4_refuse_11 (by decide) (fun hc_11 => absurd hc_11 (f k hk.2 hk.1).2) (fun hc_11 => ?_)
  refine e_aload_n (pc := 14) dX4_refuse_14 rfl ?_
  refine e_getA (pc := 15) dX4_refuse_15 f_4_26 rfl rfl ?_
  refine e_iload_n (pc := 18) dX4_refuse_18 rfl ?_
  refine e_dup2 (pc := 19) dX4_refuse_19 ?_
  first | refine e_ialdN (pc := 20) dX4_refuse_20 rfl (by omega) (by decide) ?_ | refine e_iald (pc := 20) dX4_refuse_20 rfl (by assumption) ?_
  refine e_iconst (pc := 21) (v := 1) dX4_refuse_21 (by decide) ?_
  refine e_iadd (pc := 22) dX4_refuse_22 ?_
  first | refine e_iastN (pc := 23) dX4_refuse_23 rfl (by omega) (by decide) ?_ | refine e_iast (pc := 23) dX4_refuse_23 rfl (by assumption) ?_
  refine e_iload_n (pc := 24) dX4_refuse_24 rfl ?_
  refine r_iret (pc := 25) dX4_refuse_25 rfl ?_
  rfl
set_option maxHeartbeats 1000000 in
theorem ev_X4_notWaiting_n (X : cr_M) {h : Int32} (hhas : ¬ (0 ≤ h ∧ h < X 11 0)) : cr_EvM Y_X4_notWaiting [.inr (.inr 0), .inl h] X (some (.inl (-1)), X) := by
  refine e_aload_n (pc := 0) dX4_notWaiting_0 rfl ?_
  refine e_getA (pc := 1) dX4_notWaiting_1 f_4_10 rfl rfl ?_
  refine e_getA (pc := 4) dX4_notWaiting_4 f_4_78 rfl rfl ?_
  refine e_iload_n (pc := 7) dX4_notWaiting_7 rfl ?_
  refine e_offR1i (pc := 8) (M' := fun _ _ => 0) dX4_notWaiting_8 cs_X4_notWaiting_106 cv_X0_has rc_X0_has fit_shR_shC_11 (by decide) (Nat.le_of_ble_eq_true rfl) (ev_X0_hasF (M := fun j => X (11 + j)) hhas) ?_
  refine e_if_ne (pc := 11) (tgt := 16) dX4_notWaiting_11 (by decide) (fun hc_11 => absurd hc_11 (by decide)) (fun hc_11 => ?_)
  refine e_iconst (pc := 14) (v := (-1)) dX4_notWaiting_14 (by decide) ?_
  refine r_iret (pc := 15) dX4_notWaiting_15 rfl ?_
  rfl
set_option maxHeartbeats 1000000 in
theorem ev_X4_notWaiting_0 (X : cr_M) {c : Nat} (hhas : 0 ≤ nI c ∧ nI c < X 11 0) (hc : c < 200) (h0 : X 12 c = 0) : cr_EvM Y_X4_notWaiting [.inr (.inr 0), .inl (nI c)] X (some (.inl 0), X) := by
  refine e_aload_n (pc := 0) dX4_notWaiting_0 rfl ?_
  refine e_getA (pc := 1) dX4_notWaiting_1 f_4_10 rfl rfl ?_
  refine e_getA (pc := 4) dX4_notWaiting_4 f_4_78 rfl rfl ?_
  refine e_iload_n (pc := 7) dX4_notWaiting_7 rfl ?_
  refine e_offR1i (pc := 8) (M' := fun _ _ => 0) dX4_notWaiting_8 cs_X4_notWaiting_106 cv_X0_has rc_X0_has fit_shR_shC_11 (by decide) (Nat.le_of_ble_eq_true rfl) (ev_X0_hasT (M := fun j => X (11 + j)) hhas) ?_
  refine e_if_ne (pc := 11) (tgt := 16) dX4_notWaiting_11 (by decide) (fun hc_11 => ?_) (fun hc_11 => absurd hc_11 (by decide))
  refine e_aload_n (pc := 16) dX4_notWaiting_16 rfl ?_
  refine e_getA (pc := 17) dX4_notWaiting_17 f_4_10 rfl rfl ?_
  refine e_getA (pc := 20) dX4_notWaiting_20 f_4_78 rfl rfl ?_
  refine e_getA (pc := 23) dX4_notWaiting_23 f_4_107 rfl rfl ?_
  refine e_iload_n (pc := 26) dX4_notWaiting_26 rfl ?_
  first | refine e_ialdN (pc := 27) dX4_notWaiting_27 rfl (by omega) (by decide) ?_ | refine e_iald (pc := 27) dX4_notWaiting_27 rfl (by assumption) ?_
  refine e_if_ne (pc := 28) (tgt := 35) dX4_notWaiting_28 (by decide) (fun hc_28 => absurd hc_28 (not_not_intro h0)) (fun hc_28 => ?_)
  refine e_iconst (pc := 31) (v := 0) dX4_notWaiting_31 (by decide) ?_
  refine e_goto (pc := 32) (tgt := 37) dX4_notWaiting_32 (by decide) ?_
  refine r_iret (pc := 37) dX4_notWaiting_37 rfl ?_
  rfl
set_option maxHeartbeats 1000000 in
theorem ev_X4_notWaiting_2 (X : cr_M) {c : Nat} (hhas : 0 ≤ nI c ∧ nI c < X 11 0) (hc : c < 200) (h0 : ¬ X 12 c = 0) : cr_EvM Y_X4_notWaiting [.inr (.inr 0), .inl (nI c)] X (some (.inl (-2)), X) := by
  refine e_aload_n (pc := 0) dX4_notWaiting_0 rfl ?_
  refine e_getA (pc := 1) dX4_notWaiting_1 f_4_10 rfl rfl ?_
  refine e_getA (pc := 4) dX4_notWaiting_4 f_4_78 rfl rfl ?_
  refine e_iload_n (pc := 7) dX4_notWaiting_7 rfl ?_
  refine e_offR1i (pc := 8) (M' := fun _ _ => 0) dX4_notWaiting_8 cs_X4_notWaiting_106 cv_X0_has rc_X0_has fit_shR_shC_11 (by decide) (Nat.le_of_ble_eq_true rfl) (ev_X0_hasT (M := fun j => X (11 + j)) hhas) ?_
  refine e_if_ne (pc := 11) (tgt := 16) dX4_notWaiting_11 (by decide) (fun hc_11 => ?_) (fun hc_11 => absurd hc_11 (by decide))
  refine e_aload_n (pc := 16) dX4_notWaiting_16 rfl ?_
  refine e_getA (pc := 17) dX4_notWaiting_17 f_4_10 rfl rfl ?_
  refine e_getA (pc := 20) dX4_notWaiting_20 f_4_78 rfl rfl ?_
  refine e_getA (pc := 23) dX4_notWaiting_23 f_4_107 rfl rfl ?_
  refine e_iload_n (pc := 26) dX4_notWaiting_26 rfl ?_
  first | refine e_ialdN (pc := 27) dX4_notWaiting_27 rfl (by omega) (by decide) ?_ | refine e_iald (pc := 27) dX4_notWaiting_27 rfl (by assumption) ?_
  refine e_if_ne (pc := 28) (tgt := 35) dX4_notWaiting_28 (by decide) (fun hc_28 => ?_) (fun hc_28 => absurd hc_28 h0)
  refine e_bipush (pc := 35) (v := (-2)) dX4_notWaiting_35 (by decide) ?_
  refine r_iret (pc := 37) dX4_notWaiting_37 rfl ?_
  rfl
set_option maxHeartbeats 4000000 in
theorem th_helper {X N : cr_M} (b : Int32) (hI : x_I X N) : ∃ z, cr_EvM Y_X5_helper [.inr (.inr 0), .inl b] N (some (.inl z.1), z.2) ∧ cr_EE Y_X4_helper 0 (cr_al 0 [.inr (.inr 0), .inl b]) [] X (x_P z) := by
  obtain ⟨hn, cn, tk, ht, hJ, hX⟩ := hI
  obtain ⟨h10, h200, z3, z4, z5, z6, z7⟩ := r_X_z hX
  have s4 : N 0 4 = nI hn := hJ.1.2.2.1
  have s5 : N 0 5 = nI cn := hJ.1.2.2.2.1
  refine ⟨m_helper hn N b, ev_X5_helper N b s4 h10, ?_⟩
  have hten : X 2 0 < 10 ↔ hn < 10 := by rw [z3, show (10 : Int32) = nI 10 from rfl, nI_ltI (by omega) (by omega)]
  refine cr_EEl (fun _ kk => e_iload_n (pc := 0) dX4_helper_0 rfl kk) ?_
  refine cr_EEb (fun _ k1 k2 => e_if_ge (pc := 1) (tgt := 11) dX4_helper_1 (by decide) k1 k2) (fun hc_1 => ?_) (fun hc_1 => ?_)
  · refine cr_EEl (fun _ kk => e_iload_n (pc := 11) dX4_helper_11 rfl kk) ?_
    refine cr_EEl (fun _ kk => e_sipush (pc := 12) (v := 255) dX4_helper_12 (by decide) kk) ?_
    refine cr_EEb (fun _ k1 k2 => e_icmp_gt (pc := 15) (tgt := 33) dX4_helper_15 (by decide) k1 k2) (fun hc_15 => ?_) (fun hc_15 => ?_)
    · refine cr_EEl (fun _ kk => e_aload_n (pc := 33) dX4_helper_33 rfl kk) ?_
      refine cr_EEl (fun _ kk => e_bipush (pc := 34) (v := (-6)) dX4_helper_34 (by decide) kk) ?_
      refine cr_EEl (fun _ kk => e_self1i (pc := 36) dX4_helper_36 cs_X4_helper_30 cv_X4_refuse rc_X4_refuse rfl (by decide) (Nat.le_of_ble_eq_true rfl) (ev_X4_refuse _ (k := 6) (by decide) (by decide)) kk) ?_
      refine cr_EEr (r_iret (pc := 39) dX4_helper_39 rfl rfl) ?_
      exact x_leaf (by unfold m_helper; first | grind | (repeat (first | rw [if_pos (by grind)] | rw [if_neg (by grind)]))) (x_I_ref ht hJ hX (by decide))
    · refine cr_EEl (fun _ kk => e_aload_n (pc := 18) dX4_helper_18 rfl kk) ?_
      refine cr_EEl (fun _ kk => e_getA (pc := 19) dX4_helper_19 f_4_10 rfl rfl kk) ?_
      refine cr_EEl (fun _ kk => e_getA (pc := 22) dX4_helper_22 f_4_34 rfl rfl kk) ?_
      refine cr_EEl (fun _ kk => e_getI (pc := 25) dX4_helper_25 f_4_38 rfl rfl kk) ?_
      refine cr_EEl (fun _ kk => e_bipush (pc := 28) (v := 10) dX4_helper_28 (by decide) kk) ?_
      refine cr_EEb (fun _ k1 k2 => e_icmp_lt (pc := 30) (tgt := 40) dX4_helper_30 (by decide) k1 k2) (fun hc_30 => ?_) (fun hc_30 => ?_)
      · refine cr_EEl (fun _ kk => e_aload_n (pc := 40) dX4_helper_40 rfl kk) ?_
        refine cr_EEl (fun _ kk => e_getA (pc := 41) dX4_helper_41 f_4_10 rfl rfl kk) ?_
        refine cr_EEl (fun _ kk => e_getA (pc := 44) dX4_helper_44 f_4_34 rfl rfl kk) ?_
        refine cr_EEl (fun _ kk => e_iload_n (pc := 47) dX4_helper_47 rfl kk) ?_
        refine cr_EEl (fun _ kk => e_aload_n (pc := 48) dX4_helper_48 rfl kk) ?_
        refine cr_EEl (fun _ kk => e_getA (pc := 49) dX4_helper_49 f_4_10 rfl rfl kk) ?_
        refine cr_EEl (fun _ kk => e_getI (pc := 52) dX4_helper_52 f_4_44 rfl rfl kk) ?_
        refine cr_EEl (fun _ kk => e_offn2i (pc := 55) 9 dX4_helper_55 cs_X4_helper_47 cv_X2_add rc_X2_add fit_shR_shH_2 (by decide) rfl (Nat.le_of_ble_eq_true rfl) (ev_X2_add (fun j => X (2 + j)) (hn := hn) _ _ z3 (by grind)) kk) ?_
        refine cr_EEr (r_iret (pc := 58) dX4_helper_58 rfl rfl) ?_
        obtain ⟨g, hg, rfl⟩ := nI_of2 (x := b) (M := 255) (n := 255) (by decide) (by grind) (by grind)
        exact x_leaf (by unfold m_helper; rw [if_neg (by grind), if_neg (by grind)]) (x_I_helper ht hJ hX (by grind) (by omega))
      · refine cr_EEl (fun _ kk => e_aload_n (pc := 33) dX4_helper_33 rfl kk) ?_
        refine cr_EEl (fun _ kk => e_bipush (pc := 34) (v := (-6)) dX4_helper_34 (by decide) kk) ?_
        refine cr_EEl (fun _ kk => e_self1i (pc := 36) dX4_helper_36 cs_X4_helper_30 cv_X4_refuse rc_X4_refuse rfl (by decide) (Nat.le_of_ble_eq_true rfl) (ev_X4_refuse _ (k := 6) (by decide) (by decide)) kk) ?_
        refine cr_EEr (r_iret (pc := 39) dX4_helper_39 rfl rfl) ?_
        exact x_leaf (by unfold m_helper; first | grind | (repeat (first | rw [if_pos (by grind)] | rw [if_neg (by grind)]))) (x_I_ref ht hJ hX (by decide))
  · refine cr_EEl (fun _ kk => e_aload_n (pc := 4) dX4_helper_4 rfl kk) ?_
    refine cr_EEl (fun _ kk => e_bipush (pc := 5) (v := (-4)) dX4_helper_5 (by decide) kk) ?_
    refine cr_EEl (fun _ kk => e_self1i (pc := 7) dX4_helper_7 cs_X4_helper_30 cv_X4_refuse rc_X4_refuse rfl (by decide) (Nat.le_of_ble_eq_true rfl) (ev_X4_refuse _ (k := 4) (by decide) (by decide)) kk) ?_
    refine cr_EEr (r_iret (pc := 10) dX4_helper_10 rfl rfl) ?_
    exact x_leaf (by unfold m_helper; first | grind | (repeat (first | rw [if_pos (by grind)] | rw [if_neg (by grind)]))) (x_I_ref ht hJ hX (by decide))
set_option maxHeartbeats 4000000 in
theorem th_grade {X N : cr_M} (h s g : Int32) (hI : x_I X N) : ∃ z, cr_EvM Y_X5_grade [.inr (.inr 0), .inl h, .inl s, .inl g] N (some (.inl z.1), z.2) ∧ cr_EE Y_X4_grade 0 (cr_al 0 [.inr (.inr 0), .inl h, .inl s, .inl g]) [] X (x_P z) := by
  obtain ⟨hn, cn, tk, ht, hJ, hX⟩ := hI
  obtain ⟨h10, h200, z3, z4, z5, z6, z7⟩ := r_X_z hX
  have s4 : N 0 4 = nI hn := hJ.1.2.2.1
  have s5 : N 0 5 = nI cn := hJ.1.2.2.2.1
  rcases cr_ix h (n := hn) (by omega) with hq | ⟨k, hk, rfl⟩
  · have hhas : ¬ (0 ≤ h ∧ h < X 2 0) := by rw [z3]; exact hq
    refine ⟨(-1, n_ref N 1), ev_X5_grade_n N h s g s4 (Or.inl hq), ?_⟩
    refine cr_EEl (fun _ kk => e_aload_n (pc := 0) dX4_grade_0 rfl kk) ?_
    refine cr_EEl (fun _ kk => e_getA (pc := 1) dX4_grade_1 f_4_10 rfl rfl kk) ?_
    refine cr_EEl (fun _ kk => e_getA (pc := 4) dX4_grade_4 f_4_34 rfl rfl kk) ?_
    refine cr_EEl (fun _ kk => e_iload_n (pc := 7) dX4_grade_7 rfl kk) ?_
    refine cr_EEl (fun _ kk => e_offR1i (pc := 8) (M' := fun _ _ => 0) dX4_grade_8 cs_X4_grade_51 cv_X2_has rc_X2_has fit_shR_shH_2 (by decide) (Nat.le_of_ble_eq_true rfl) (ev_X2_hasF (M := fun j => X (2 + j)) hhas) kk) ?_
    refine cr_EEb (fun _ k1 k2 => e_if_eq (pc := 11) (tgt := 21) dX4_grade_11 (by decide) k1 k2) (fun hc_11 => ?_) (fun hc_11 => absurd hc_11 (by decide))
    refine cr_EEl (fun _ kk => e_aload_n (pc := 21) dX4_grade_21 rfl kk) ?_
    refine cr_EEl (fun _ kk => e_iconst (pc := 22) (v := (-1)) dX4_grade_22 (by decide) kk) ?_
    refine cr_EEl (fun _ kk => e_self1i (pc := 23) dX4_grade_23 cs_X4_grade_30 cv_X4_refuse rc_X4_refuse rfl (by decide) (Nat.le_of_ble_eq_true rfl) (ev_X4_refuse _ (k := 1) (by decide) (by decide)) kk) ?_
    refine cr_EEr (r_iret (pc := 26) dX4_grade_26 rfl rfl) ?_
    exact x_leaf rfl (x_I_ref ht hJ hX (by decide))
  · have hhas : 0 ≤ nI k ∧ nI k < X 2 0 := by rw [z3]; exact cr_ix_in hk (by omega)
    rcases cr_ix s (n := 4) (by decide) with hsrt | ⟨s, hs, rfl⟩
    · have hsrt : ¬ (0 ≤ s ∧ s < 4) := hsrt
      refine ⟨(-1, n_ref N 1), ev_X5_grade_n N (nI k) s g s4 (Or.inr hsrt), ?_⟩
      refine cr_EEl (fun _ kk => e_aload_n (pc := 0) dX4_grade_0 rfl kk) ?_
      refine cr_EEl (fun _ kk => e_getA (pc := 1) dX4_grade_1 f_4_10 rfl rfl kk) ?_
      refine cr_EEl (fun _ kk => e_getA (pc := 4) dX4_grade_4 f_4_34 rfl rfl kk) ?_
      refine cr_EEl (fun _ kk => e_iload_n (pc := 7) dX4_grade_7 rfl kk) ?_
      refine cr_EEl (fun _ kk => e_offR1i (pc := 8) (M' := fun _ _ => 0) dX4_grade_8 cs_X4_grade_51 cv_X2_has rc_X2_has fit_shR_shH_2 (by decide) (Nat.le_of_ble_eq_true rfl) (ev_X2_hasT (M := fun j => X (2 + j)) hhas) kk) ?_
      refine cr_EEb (fun _ k1 k2 => e_if_eq (pc := 11) (tgt := 21) dX4_grade_11 (by decide) k1 k2) (fun hc_11 => absurd hc_11 (by decide)) (fun hc_11 => ?_)
      refine cr_EEl (fun _ kk => e_iload_n (pc := 14) dX4_grade_14 rfl kk) ?_
      refine cr_EEl (fun _ kk => e_stat1i (pc := 15) dX4_grade_15 cs_X4_grade_55 st_X4_isSort rfl (by decide) (Nat.le_of_ble_eq_true rfl) (ev_X4_isSortF hsrt) kk) ?_
      refine cr_EEn (fun _ k1 k2 => e_if_ne (pc := 18) (tgt := 27) dX4_grade_18 (by decide) k1 k2) (fun hc_18 => absurd hc_18 (by decide)) (fun hc_18 => ?_)
      refine cr_EEl (fun _ kk => e_aload_n (pc := 21) dX4_grade_21 rfl kk) ?_
      refine cr_EEl (fun _ kk => e_iconst (pc := 22) (v := (-1)) dX4_grade_22 (by decide) kk) ?_
      refine cr_EEl (fun _ kk => e_self1i (pc := 23) dX4_grade_23 cs_X4_grade_30 cv_X4_refuse rc_X4_refuse rfl (by decide) (Nat.le_of_ble_eq_true rfl) (ev_X4_refuse _ (k := 1) (by decide) (by decide)) kk) ?_
      refine cr_EEr (r_iret (pc := 26) dX4_grade_26 rfl rfl) ?_
      exact x_leaf rfl (x_I_ref ht hJ hX (by decide))
    · have hsrt : 0 ≤ nI s ∧ nI s < 4 := cr_ix_in (n := 4) hs (by decide)
      refine ⟨m_grade N k s g, ev_X5_grade g s4 h10 hk hs, ?_⟩
      refine cr_EEl (fun _ kk => e_aload_n (pc := 0) dX4_grade_0 rfl kk) ?_
      refine cr_EEl (fun _ kk => e_getA (pc := 1) dX4_grade_1 f_4_10 rfl rfl kk) ?_
      refine cr_EEl (fun _ kk => e_getA (pc := 4) dX4_grade_4 f_4_34 rfl rfl kk) ?_
      refine cr_EEl (fun _ kk => e_iload_n (pc := 7) dX4_grade_7 rfl kk) ?_
      refine cr_EEl (fun _ kk => e_offR1i (pc := 8) (M' := fun _ _ => 0) dX4_grade_8 cs_X4_grade_51 cv_X2_has rc_X2_has fit_shR_shH_2 (by decide) (Nat.le_of_ble_eq_true rfl) (ev_X2_hasT (M := fun j => X (2 + j)) hhas) kk) ?_
      refine cr_EEb (fun _ k1 k2 => e_if_eq (pc := 11) (tgt := 21) dX4_grade_11 (by decide) k1 k2) (fun hc_11 => absurd hc_11 (by decide)) (fun hc_11 => ?_)
      refine cr_EEl (fun _ kk => e_iload_n (pc := 14) dX4_grade_14 rfl kk) ?_
      refine cr_EEl (fun _ kk => e_stat1i (pc := 15) dX4_grade_15 cs_X4_grade_55 st_X4_isSort rfl (by decide) (Nat.le_of_ble_eq_true rfl) (ev_X4_isSortT hsrt) kk) ?_
      refine cr_EEn (fun _ k1 k2 => e_if_ne (pc := 18) (tgt := 27) dX4_grade_18 (by decide) k1 k2) (fun hc_18 => ?_) (fun hc_18 => absurd hc_18 (by decide))
      refine cr_EEl (fun _ kk => e_iload_n (pc := 27) dX4_grade_27 rfl kk) ?_
      refine cr_EEl (fun _ kk => e_iconst (pc := 28) (v := 0) dX4_grade_28 (by decide) kk) ?_
      refine cr_EEl (fun _ kk => e_iconst (pc := 29) (v := 3) dX4_grade_29 (by decide) kk) ?_
      refine cr_EEl (fun _ kk => e_stat3i (pc := 30) dX4_grade_30 cs_X4_grade_58 st_X4_outside rfl (by decide) (Nat.le_of_ble_eq_true rfl) (ev_X4_outside _ _ _ _) kk) ?_
      rcases x_out_c g 0 3 with ⟨ho1, he⟩ | ⟨ho1, ho2, he⟩ | ⟨ho1, ho2, he⟩
      · rw [he]
        refine cr_EEl (fun _ kk => e_istore (pc := 33) dX4_grade_33 (by decide) kk) ?_
        refine cr_EEl (fun _ kk => e_iload (pc := 35) dX4_grade_35 rfl kk) ?_
        refine cr_EEb (fun _ k1 k2 => e_if_eq (pc := 37) (tgt := 47) dX4_grade_37 (by decide) k1 k2) (fun hc_37 => absurd hc_37 (by decide)) (fun hc_37 => ?_)
        refine cr_EEl (fun _ kk => e_aload_n (pc := 40) dX4_grade_40 rfl kk) ?_
        refine cr_EEl (fun _ kk => e_iload (pc := 41) dX4_grade_41 rfl kk) ?_
        refine cr_EEl (fun _ kk => e_self1i (pc := 43) dX4_grade_43 cs_X4_grade_30 cv_X4_refuse rc_X4_refuse rfl (by decide) (Nat.le_of_ble_eq_true rfl) (ev_X4_refuse _ (k := 4) (by decide) (by decide)) kk) ?_
        refine cr_EEr (r_iret (pc := 46) dX4_grade_46 rfl rfl) ?_
        exact x_leaf (by unfold m_grade; first | grind | (repeat (first | rw [if_pos (by grind)] | rw [if_neg (by grind)]))) (x_I_ref ht hJ hX (by decide))
      · rw [he]
        refine cr_EEl (fun _ kk => e_istore (pc := 33) dX4_grade_33 (by decide) kk) ?_
        refine cr_EEl (fun _ kk => e_iload (pc := 35) dX4_grade_35 rfl kk) ?_
        refine cr_EEb (fun _ k1 k2 => e_if_eq (pc := 37) (tgt := 47) dX4_grade_37 (by decide) k1 k2) (fun hc_37 => absurd hc_37 (by decide)) (fun hc_37 => ?_)
        refine cr_EEl (fun _ kk => e_aload_n (pc := 40) dX4_grade_40 rfl kk) ?_
        refine cr_EEl (fun _ kk => e_iload (pc := 41) dX4_grade_41 rfl kk) ?_
        refine cr_EEl (fun _ kk => e_self1i (pc := 43) dX4_grade_43 cs_X4_grade_30 cv_X4_refuse rc_X4_refuse rfl (by decide) (Nat.le_of_ble_eq_true rfl) (ev_X4_refuse _ (k := 6) (by decide) (by decide)) kk) ?_
        refine cr_EEr (r_iret (pc := 46) dX4_grade_46 rfl rfl) ?_
        exact x_leaf (by unfold m_grade; first | grind | (repeat (first | rw [if_pos (by grind)] | rw [if_neg (by grind)]))) (x_I_ref ht hJ hX (by decide))
      · rw [he]
        refine cr_EEl (fun _ kk => e_istore (pc := 33) dX4_grade_33 (by decide) kk) ?_
        refine cr_EEl (fun _ kk => e_iload (pc := 35) dX4_grade_35 rfl kk) ?_
        refine cr_EEb (fun _ k1 k2 => e_if_eq (pc := 37) (tgt := 47) dX4_grade_37 (by decide) k1 k2) (fun hc_37 => ?_) (fun hc_37 => absurd hc_37 (by decide))
        refine cr_EEl (fun _ kk => e_aload_n (pc := 47) dX4_grade_47 rfl kk) ?_
        refine cr_EEl (fun _ kk => e_getA (pc := 48) dX4_grade_48 f_4_10 rfl rfl kk) ?_
        refine cr_EEl (fun _ kk => e_getA (pc := 51) dX4_grade_51 f_4_34 rfl rfl kk) ?_
        refine cr_EEl (fun _ kk => e_iload_n (pc := 54) dX4_grade_54 rfl kk) ?_
        refine cr_EEl (fun _ kk => e_iload_n (pc := 55) dX4_grade_55 rfl kk) ?_
        refine cr_EEl (fun _ kk => e_offR2i (pc := 56) (M' := fun _ _ => 0) dX4_grade_56 cs_X4_grade_62 cv_X2_gradeFor rc_X2_gradeFor fit_shR_shH_2 (by decide) (Nat.le_of_ble_eq_true rfl) (ev_X2_gradeForN (r_X_H hX) hk hs) kk) ?_
        refine cr_EEl (fun _ kk => e_istore (pc := 59) dX4_grade_59 (by decide) kk) ?_
        refine cr_EEl (fun _ kk => e_aload_n (pc := 61) dX4_grade_61 rfl kk) ?_
        refine cr_EEl (fun _ kk => e_getA (pc := 62) dX4_grade_62 f_4_10 rfl rfl kk) ?_
        refine cr_EEl (fun _ kk => e_getA (pc := 65) dX4_grade_65 f_4_34 rfl rfl kk) ?_
        refine cr_EEl (fun _ kk => e_iload_n (pc := 68) dX4_grade_68 rfl kk) ?_
        refine cr_EEl (fun _ kk => e_iload_n (pc := 69) dX4_grade_69 rfl kk) ?_
        refine cr_EEl (fun _ kk => e_iload_n (pc := 70) dX4_grade_70 rfl kk) ?_
        refine cr_EEl (fun _ kk => e_offn3v (pc := 71) 9 dX4_grade_71 cs_X4_grade_65 cv_X2_setGrade rc_X2_setGrade fit_shR_shH_2 (by decide) rfl (Nat.le_of_ble_eq_true rfl) (ev_X2_setGrade (fun j => X (2 + j)) _ _ (by omega)) kk) ?_
        refine cr_EEl (fun _ kk => e_iload (pc := 74) dX4_grade_74 rfl kk) ?_
        refine cr_EEr (r_iret (pc := 76) dX4_grade_76 rfl rfl) ?_
        obtain ⟨v, hv, rfl⟩ := nI_of2 (x := g) (M := 3) (n := 3) (by decide) (by grind) (by grind)
        exact x_leaf (by unfold m_grade; rw [if_neg (by grind), if_neg (by grind)]) (x_I_grade ht hJ hX hk hs (by omega))
set_option maxHeartbeats 4000000 in
theorem th_duty {X N : cr_M} (h : Int32) (hI : x_I X N) : ∃ z, cr_EvM Y_X5_duty [.inr (.inr 0), .inl h] N (some (.inl z.1), z.2) ∧ cr_EE Y_X4_duty 0 (cr_al 0 [.inr (.inr 0), .inl h]) [] X (x_P z) := by
  obtain ⟨hn, cn, tk, ht, hJ, hX⟩ := hI
  obtain ⟨h10, h200, z3, z4, z5, z6, z7⟩ := r_X_z hX
  have s4 : N 0 4 = nI hn := hJ.1.2.2.1
  have s5 : N 0 5 = nI cn := hJ.1.2.2.2.1
  rcases cr_ix h (n := hn) (by omega) with hq | ⟨k, hk, rfl⟩
  · have hhas : ¬ (0 ≤ h ∧ h < X 2 0) := by rw [z3]; exact hq
    refine ⟨(-1, n_ref N 1), ev_X5_duty_n N h s4 hq, ?_⟩
    refine cr_EEl (fun _ kk => e_aload_n (pc := 0) dX4_duty_0 rfl kk) ?_
    refine cr_EEl (fun _ kk => e_getA (pc := 1) dX4_duty_1 f_4_10 rfl rfl kk) ?_
    refine cr_EEl (fun _ kk => e_getA (pc := 4) dX4_duty_4 f_4_34 rfl rfl kk) ?_
    refine cr_EEl (fun _ kk => e_iload_n (pc := 7) dX4_duty_7 rfl kk) ?_
    refine cr_EEl (fun _ kk => e_offR1i (pc := 8) (M' := fun _ _ => 0) dX4_duty_8 cs_X4_duty_51 cv_X2_has rc_X2_has fit_shR_shH_2 (by decide) (Nat.le_of_ble_eq_true rfl) (ev_X2_hasF (M := fun j => X (2 + j)) hhas) kk) ?_
    refine cr_EEn (fun _ k1 k2 => e_if_ne (pc := 11) (tgt := 20) dX4_duty_11 (by decide) k1 k2) (fun hc_11 => absurd hc_11 (by decide)) (fun hc_11 => ?_)
    refine cr_EEl (fun _ kk => e_aload_n (pc := 14) dX4_duty_14 rfl kk) ?_
    refine cr_EEl (fun _ kk => e_iconst (pc := 15) (v := (-1)) dX4_duty_15 (by decide) kk) ?_
    refine cr_EEl (fun _ kk => e_self1i (pc := 16) dX4_duty_16 cs_X4_duty_30 cv_X4_refuse rc_X4_refuse rfl (by decide) (Nat.le_of_ble_eq_true rfl) (ev_X4_refuse _ (k := 1) (by decide) (by decide)) kk) ?_
    refine cr_EEr (r_iret (pc := 19) dX4_duty_19 rfl rfl) ?_
    exact x_leaf rfl (x_I_ref ht hJ hX (by decide))
  · have hhas : 0 ≤ nI k ∧ nI k < X 2 0 := by rw [z3]; exact cr_ix_in hk (by omega)
    have e5 : X 4 k = N 5 k := (r_X_H hX).2.2 k hk |>.2.1
    refine ⟨m_duty N k, ev_X5_duty s4 h10 hk, ?_⟩
    refine cr_EEl (fun _ kk => e_aload_n (pc := 0) dX4_duty_0 rfl kk) ?_
    refine cr_EEl (fun _ kk => e_getA (pc := 1) dX4_duty_1 f_4_10 rfl rfl kk) ?_
    refine cr_EEl (fun _ kk => e_getA (pc := 4) dX4_duty_4 f_4_34 rfl rfl kk) ?_
    refine cr_EEl (fun _ kk => e_iload_n (pc := 7) dX4_duty_7 rfl kk) ?_
    refine cr_EEl (fun _ kk => e_offR1i (pc := 8) (M' := fun _ _ => 0) dX4_duty_8 cs_X4_duty_51 cv_X2_has rc_X2_has fit_shR_shH_2 (by decide) (Nat.le_of_ble_eq_true rfl) (ev_X2_hasT (M := fun j => X (2 + j)) hhas) kk) ?_
    refine cr_EEn (fun _ k1 k2 => e_if_ne (pc := 11) (tgt := 20) dX4_duty_11 (by decide) k1 k2) (fun hc_11 => ?_) (fun hc_11 => absurd hc_11 (by decide))
    refine cr_EEl (fun _ kk => e_aload_n (pc := 20) dX4_duty_20 rfl kk) ?_
    refine cr_EEl (fun _ kk => e_getA (pc := 21) dX4_duty_21 f_4_10 rfl rfl kk) ?_
    refine cr_EEl (fun _ kk => e_getA (pc := 24) dX4_duty_24 f_4_34 rfl rfl kk) ?_
    refine cr_EEl (fun _ kk => e_getA (pc := 27) dX4_duty_27 f_4_69 rfl rfl kk) ?_
    refine cr_EEl (fun _ kk => e_iload_n (pc := 30) dX4_duty_30 rfl kk) ?_
    first | refine cr_EEl (fun _ kk => e_ialdN (pc := 31) dX4_duty_31 rfl (by omega) (by decide) kk) ?_ | refine cr_EEl (fun _ kk => e_iald (pc := 31) dX4_duty_31 rfl (by assumption) kk) ?_
    refine cr_EEb (fun _ k1 k2 => e_if_eq (pc := 32) (tgt := 42) dX4_duty_32 (by decide) k1 k2) (fun hc_32 => ?_) (fun hc_32 => ?_)
    · refine cr_EEl (fun _ kk => e_aload_n (pc := 42) dX4_duty_42 rfl kk) ?_
      refine cr_EEl (fun _ kk => e_getA (pc := 43) dX4_duty_43 f_4_10 rfl rfl kk) ?_
      refine cr_EEl (fun _ kk => e_getA (pc := 46) dX4_duty_46 f_4_34 rfl rfl kk) ?_
      refine cr_EEl (fun _ kk => e_iload_n (pc := 49) dX4_duty_49 rfl kk) ?_
      refine cr_EEl (fun _ kk => e_iconst (pc := 50) (v := 1) dX4_duty_50 (by decide) kk) ?_
      refine cr_EEl (fun _ kk => e_aload_n (pc := 51) dX4_duty_51 rfl kk) ?_
      refine cr_EEl (fun _ kk => e_getA (pc := 52) dX4_duty_52 f_4_10 rfl rfl kk) ?_
      refine cr_EEl (fun _ kk => e_getI (pc := 55) dX4_duty_55 f_4_44 rfl rfl kk) ?_
      refine cr_EEl (fun _ kk => e_offn3v (pc := 58) 9 dX4_duty_58 cs_X4_duty_72 cv_X2_become rc_X2_become fit_shR_shH_2 (by decide) rfl (Nat.le_of_ble_eq_true rfl) (ev_X2_become (fun j => X (2 + j)) _ _ (by omega)) kk) ?_
      refine cr_EEl (fun _ kk => e_iconst (pc := 61) (v := 1) dX4_duty_61 (by decide) kk) ?_
      refine cr_EEr (r_iret (pc := 62) dX4_duty_62 rfl rfl) ?_
      exact x_leaf (by unfold m_duty; grind) (x_I_bec ht hJ hX hk (by decide))
    · refine cr_EEl (fun _ kk => e_aload_n (pc := 35) dX4_duty_35 rfl kk) ?_
      refine cr_EEl (fun _ kk => e_bipush (pc := 36) (v := (-2)) dX4_duty_36 (by decide) kk) ?_
      refine cr_EEl (fun _ kk => e_self1i (pc := 38) dX4_duty_38 cs_X4_duty_30 cv_X4_refuse rc_X4_refuse rfl (by decide) (Nat.le_of_ble_eq_true rfl) (ev_X4_refuse _ (k := 2) (by decide) (by decide)) kk) ?_
      refine cr_EEr (r_iret (pc := 41) dX4_duty_41 rfl rfl) ?_
      exact x_leaf (by unfold m_duty; first | grind | (repeat (first | rw [if_pos (by grind)] | rw [if_neg (by grind)]))) (x_I_ref ht hJ hX (by decide))
set_option maxHeartbeats 4000000 in
theorem th_out {X N : cr_M} (h : Int32) (hI : x_I X N) : ∃ z, cr_EvM Y_X5_out [.inr (.inr 0), .inl h] N (some (.inl z.1), z.2) ∧ cr_EE Y_X4_out 0 (cr_al 0 [.inr (.inr 0), .inl h]) [] X (x_P z) := by
  obtain ⟨hn, cn, tk, ht, hJ, hX⟩ := hI
  obtain ⟨h10, h200, z3, z4, z5, z6, z7⟩ := r_X_z hX
  have s4 : N 0 4 = nI hn := hJ.1.2.2.1
  have s5 : N 0 5 = nI cn := hJ.1.2.2.2.1
  rcases cr_ix h (n := hn) (by omega) with hq | ⟨k, hk, rfl⟩
  · have hhas : ¬ (0 ≤ h ∧ h < X 2 0) := by rw [z3]; exact hq
    refine ⟨(-1, n_ref N 1), ev_X5_out_n N h s4 hq, ?_⟩
    refine cr_EEl (fun _ kk => e_aload_n (pc := 0) dX4_out_0 rfl kk) ?_
    refine cr_EEl (fun _ kk => e_getA (pc := 1) dX4_out_1 f_4_10 rfl rfl kk) ?_
    refine cr_EEl (fun _ kk => e_getA (pc := 4) dX4_out_4 f_4_34 rfl rfl kk) ?_
    refine cr_EEl (fun _ kk => e_iload_n (pc := 7) dX4_out_7 rfl kk) ?_
    refine cr_EEl (fun _ kk => e_offR1i (pc := 8) (M' := fun _ _ => 0) dX4_out_8 cs_X4_out_51 cv_X2_has rc_X2_has fit_shR_shH_2 (by decide) (Nat.le_of_ble_eq_true rfl) (ev_X2_hasF (M := fun j => X (2 + j)) hhas) kk) ?_
    refine cr_EEn (fun _ k1 k2 => e_if_ne (pc := 11) (tgt := 20) dX4_out_11 (by decide) k1 k2) (fun hc_11 => absurd hc_11 (by decide)) (fun hc_11 => ?_)
    refine cr_EEl (fun _ kk => e_aload_n (pc := 14) dX4_out_14 rfl kk) ?_
    refine cr_EEl (fun _ kk => e_iconst (pc := 15) (v := (-1)) dX4_out_15 (by decide) kk) ?_
    refine cr_EEl (fun _ kk => e_self1i (pc := 16) dX4_out_16 cs_X4_out_30 cv_X4_refuse rc_X4_refuse rfl (by decide) (Nat.le_of_ble_eq_true rfl) (ev_X4_refuse _ (k := 1) (by decide) (by decide)) kk) ?_
    refine cr_EEr (r_iret (pc := 19) dX4_out_19 rfl rfl) ?_
    exact x_leaf rfl (x_I_ref ht hJ hX (by decide))
  · have hhas : 0 ≤ nI k ∧ nI k < X 2 0 := by rw [z3]; exact cr_ix_in hk (by omega)
    have e5 : X 4 k = N 5 k := (r_X_H hX).2.2 k hk |>.2.1
    refine ⟨m_out N k, ev_X5_out s4 h10 hk, ?_⟩
    refine cr_EEl (fun _ kk => e_aload_n (pc := 0) dX4_out_0 rfl kk) ?_
    refine cr_EEl (fun _ kk => e_getA (pc := 1) dX4_out_1 f_4_10 rfl rfl kk) ?_
    refine cr_EEl (fun _ kk => e_getA (pc := 4) dX4_out_4 f_4_34 rfl rfl kk) ?_
    refine cr_EEl (fun _ kk => e_iload_n (pc := 7) dX4_out_7 rfl kk) ?_
    refine cr_EEl (fun _ kk => e_offR1i (pc := 8) (M' := fun _ _ => 0) dX4_out_8 cs_X4_out_51 cv_X2_has rc_X2_has fit_shR_shH_2 (by decide) (Nat.le_of_ble_eq_true rfl) (ev_X2_hasT (M := fun j => X (2 + j)) hhas) kk) ?_
    refine cr_EEn (fun _ k1 k2 => e_if_ne (pc := 11) (tgt := 20) dX4_out_11 (by decide) k1 k2) (fun hc_11 => ?_) (fun hc_11 => absurd hc_11 (by decide))
    refine cr_EEl (fun _ kk => e_aload_n (pc := 20) dX4_out_20 rfl kk) ?_
    refine cr_EEl (fun _ kk => e_getA (pc := 21) dX4_out_21 f_4_10 rfl rfl kk) ?_
    refine cr_EEl (fun _ kk => e_getA (pc := 24) dX4_out_24 f_4_34 rfl rfl kk) ?_
    refine cr_EEl (fun _ kk => e_getA (pc := 27) dX4_out_27 f_4_69 rfl rfl kk) ?_
    refine cr_EEl (fun _ kk => e_iload_n (pc := 30) dX4_out_30 rfl kk) ?_
    first | refine cr_EEl (fun _ kk => e_ialdN (pc := 31) dX4_out_31 rfl (by omega) (by decide) kk) ?_ | refine cr_EEl (fun _ kk => e_iald (pc := 31) dX4_out_31 rfl (by assumption) kk) ?_
    refine cr_EEl (fun _ kk => e_istore_n (pc := 32) dX4_out_32 (by decide) kk) ?_
    refine cr_EEl (fun _ kk => e_iload_n (pc := 33) dX4_out_33 rfl kk) ?_
    refine cr_EEl (fun _ kk => e_iconst (pc := 34) (v := 1) dX4_out_34 (by decide) kk) ?_
    refine cr_EEb (fun _ k1 k2 => e_icmp_eq (pc := 35) (tgt := 50) dX4_out_35 (by decide) k1 k2) (fun hc_35 => ?_) (fun hc_35 => ?_)
    · refine cr_EEl (fun _ kk => e_aload_n (pc := 50) dX4_out_50 rfl kk) ?_
      refine cr_EEl (fun _ kk => e_getA (pc := 51) dX4_out_51 f_4_10 rfl rfl kk) ?_
      refine cr_EEl (fun _ kk => e_getA (pc := 54) dX4_out_54 f_4_34 rfl rfl kk) ?_
      refine cr_EEl (fun _ kk => e_iload_n (pc := 57) dX4_out_57 rfl kk) ?_
      refine cr_EEl (fun _ kk => e_iconst (pc := 58) (v := 0) dX4_out_58 (by decide) kk) ?_
      refine cr_EEl (fun _ kk => e_aload_n (pc := 59) dX4_out_59 rfl kk) ?_
      refine cr_EEl (fun _ kk => e_getA (pc := 60) dX4_out_60 f_4_10 rfl rfl kk) ?_
      refine cr_EEl (fun _ kk => e_getI (pc := 63) dX4_out_63 f_4_44 rfl rfl kk) ?_
      refine cr_EEl (fun _ kk => e_offn3v (pc := 66) 9 dX4_out_66 cs_X4_out_72 cv_X2_become rc_X2_become fit_shR_shH_2 (by decide) rfl (Nat.le_of_ble_eq_true rfl) (ev_X2_become (fun j => X (2 + j)) _ _ (by omega)) kk) ?_
      refine cr_EEl (fun _ kk => e_iconst (pc := 69) (v := 1) dX4_out_69 (by decide) kk) ?_
      refine cr_EEr (r_iret (pc := 70) dX4_out_70 rfl rfl) ?_
      exact x_leaf (by unfold m_out; grind) (x_I_bec ht hJ hX hk (by decide))
    · refine cr_EEl (fun _ kk => e_iload_n (pc := 38) dX4_out_38 rfl kk) ?_
      refine cr_EEl (fun _ kk => e_iconst (pc := 39) (v := 3) dX4_out_39 (by decide) kk) ?_
      refine cr_EEb (fun _ k1 k2 => e_icmp_eq (pc := 40) (tgt := 50) dX4_out_40 (by decide) k1 k2) (fun hc_40 => ?_) (fun hc_40 => ?_)
      · refine cr_EEl (fun _ kk => e_aload_n (pc := 50) dX4_out_50 rfl kk) ?_
        refine cr_EEl (fun _ kk => e_getA (pc := 51) dX4_out_51 f_4_10 rfl rfl kk) ?_
        refine cr_EEl (fun _ kk => e_getA (pc := 54) dX4_out_54 f_4_34 rfl rfl kk) ?_
        refine cr_EEl (fun _ kk => e_iload_n (pc := 57) dX4_out_57 rfl kk) ?_
        refine cr_EEl (fun _ kk => e_iconst (pc := 58) (v := 0) dX4_out_58 (by decide) kk) ?_
        refine cr_EEl (fun _ kk => e_aload_n (pc := 59) dX4_out_59 rfl kk) ?_
        refine cr_EEl (fun _ kk => e_getA (pc := 60) dX4_out_60 f_4_10 rfl rfl kk) ?_
        refine cr_EEl (fun _ kk => e_getI (pc := 63) dX4_out_63 f_4_44 rfl rfl kk) ?_
        refine cr_EEl (fun _ kk => e_offn3v (pc := 66) 9 dX4_out_66 cs_X4_out_72 cv_X2_become rc_X2_become fit_shR_shH_2 (by decide) rfl (Nat.le_of_ble_eq_true rfl) (ev_X2_become (fun j => X (2 + j)) _ _ (by omega)) kk) ?_
        refine cr_EEl (fun _ kk => e_iconst (pc := 69) (v := 1) dX4_out_69 (by decide) kk) ?_
        refine cr_EEr (r_iret (pc := 70) dX4_out_70 rfl rfl) ?_
        exact x_leaf (by unfold m_out; grind) (x_I_bec ht hJ hX hk (by decide))
      · refine cr_EEl (fun _ kk => e_aload_n (pc := 43) dX4_out_43 rfl kk) ?_
        refine cr_EEl (fun _ kk => e_bipush (pc := 44) (v := (-2)) dX4_out_44 (by decide) kk) ?_
        refine cr_EEl (fun _ kk => e_self1i (pc := 46) dX4_out_46 cs_X4_out_30 cv_X4_refuse rc_X4_refuse rfl (by decide) (Nat.le_of_ble_eq_true rfl) (ev_X4_refuse _ (k := 2) (by decide) (by decide)) kk) ?_
        refine cr_EEr (r_iret (pc := 49) dX4_out_49 rfl rfl) ?_
        exact x_leaf (by unfold m_out; first | grind | (repeat (first | rw [if_pos (by grind)] | rw [if_neg (by grind)]))) (x_I_ref ht hJ hX (by decide))
set_option maxHeartbeats 4000000 in
theorem th_pause {X N : cr_M} (h n : Int32) (hI : x_I X N) : ∃ z, cr_EvM Y_X5_pause [.inr (.inr 0), .inl h, .inl n] N (some (.inl z.1), z.2) ∧ cr_EE Y_X4_pause 0 (cr_al 0 [.inr (.inr 0), .inl h, .inl n]) [] X (x_P z) := by
  obtain ⟨hn, cn, tk, ht, hJ, hX⟩ := hI
  obtain ⟨h10, h200, z3, z4, z5, z6, z7⟩ := r_X_z hX
  have s4 : N 0 4 = nI hn := hJ.1.2.2.1
  have s5 : N 0 5 = nI cn := hJ.1.2.2.2.1
  rcases cr_ix h (n := hn) (by omega) with hq | ⟨k, hk, rfl⟩
  · have hhas : ¬ (0 ≤ h ∧ h < X 2 0) := by rw [z3]; exact hq
    refine ⟨(-1, n_ref N 1), ev_X5_pause_n N h n s4 hq, ?_⟩
    refine cr_EEl (fun _ kk => e_aload_n (pc := 0) dX4_pause_0 rfl kk) ?_
    refine cr_EEl (fun _ kk => e_getA (pc := 1) dX4_pause_1 f_4_10 rfl rfl kk) ?_
    refine cr_EEl (fun _ kk => e_getA (pc := 4) dX4_pause_4 f_4_34 rfl rfl kk) ?_
    refine cr_EEl (fun _ kk => e_iload_n (pc := 7) dX4_pause_7 rfl kk) ?_
    refine cr_EEl (fun _ kk => e_offR1i (pc := 8) (M' := fun _ _ => 0) dX4_pause_8 cs_X4_pause_51 cv_X2_has rc_X2_has fit_shR_shH_2 (by decide) (Nat.le_of_ble_eq_true rfl) (ev_X2_hasF (M := fun j => X (2 + j)) hhas) kk) ?_
    refine cr_EEn (fun _ k1 k2 => e_if_ne (pc := 11) (tgt := 20) dX4_pause_11 (by decide) k1 k2) (fun hc_11 => absurd hc_11 (by decide)) (fun hc_11 => ?_)
    refine cr_EEl (fun _ kk => e_aload_n (pc := 14) dX4_pause_14 rfl kk) ?_
    refine cr_EEl (fun _ kk => e_iconst (pc := 15) (v := (-1)) dX4_pause_15 (by decide) kk) ?_
    refine cr_EEl (fun _ kk => e_self1i (pc := 16) dX4_pause_16 cs_X4_pause_30 cv_X4_refuse rc_X4_refuse rfl (by decide) (Nat.le_of_ble_eq_true rfl) (ev_X4_refuse _ (k := 1) (by decide) (by decide)) kk) ?_
    refine cr_EEr (r_iret (pc := 19) dX4_pause_19 rfl rfl) ?_
    exact x_leaf rfl (x_I_ref ht hJ hX (by decide))
  · have hhas : 0 ≤ nI k ∧ nI k < X 2 0 := by rw [z3]; exact cr_ix_in hk (by omega)
    have e5 : X 4 k = N 5 k := (r_X_H hX).2.2 k hk |>.2.1
    refine ⟨m_pause N k n, ev_X5_pause n s4 h10 hk, ?_⟩
    refine cr_EEl (fun _ kk => e_aload_n (pc := 0) dX4_pause_0 rfl kk) ?_
    refine cr_EEl (fun _ kk => e_getA (pc := 1) dX4_pause_1 f_4_10 rfl rfl kk) ?_
    refine cr_EEl (fun _ kk => e_getA (pc := 4) dX4_pause_4 f_4_34 rfl rfl kk) ?_
    refine cr_EEl (fun _ kk => e_iload_n (pc := 7) dX4_pause_7 rfl kk) ?_
    refine cr_EEl (fun _ kk => e_offR1i (pc := 8) (M' := fun _ _ => 0) dX4_pause_8 cs_X4_pause_51 cv_X2_has rc_X2_has fit_shR_shH_2 (by decide) (Nat.le_of_ble_eq_true rfl) (ev_X2_hasT (M := fun j => X (2 + j)) hhas) kk) ?_
    refine cr_EEn (fun _ k1 k2 => e_if_ne (pc := 11) (tgt := 20) dX4_pause_11 (by decide) k1 k2) (fun hc_11 => ?_) (fun hc_11 => absurd hc_11 (by decide))
    refine cr_EEl (fun _ kk => e_aload_n (pc := 20) dX4_pause_20 rfl kk) ?_
    refine cr_EEl (fun _ kk => e_getA (pc := 21) dX4_pause_21 f_4_10 rfl rfl kk) ?_
    refine cr_EEl (fun _ kk => e_getA (pc := 24) dX4_pause_24 f_4_34 rfl rfl kk) ?_
    refine cr_EEl (fun _ kk => e_getA (pc := 27) dX4_pause_27 f_4_69 rfl rfl kk) ?_
    refine cr_EEl (fun _ kk => e_iload_n (pc := 30) dX4_pause_30 rfl kk) ?_
    first | refine cr_EEl (fun _ kk => e_ialdN (pc := 31) dX4_pause_31 rfl (by omega) (by decide) kk) ?_ | refine cr_EEl (fun _ kk => e_iald (pc := 31) dX4_pause_31 rfl (by assumption) kk) ?_
    refine cr_EEl (fun _ kk => e_iconst (pc := 32) (v := 1) dX4_pause_32 (by decide) kk) ?_
    refine cr_EEb (fun _ k1 k2 => e_icmp_eq (pc := 33) (tgt := 43) dX4_pause_33 (by decide) k1 k2) (fun hc_33 => ?_) (fun hc_33 => ?_)
    · refine cr_EEl (fun _ kk => e_iload_n (pc := 43) dX4_pause_43 rfl kk) ?_
      refine cr_EEl (fun _ kk => e_iconst (pc := 44) (v := 1) dX4_pause_44 (by decide) kk) ?_
      refine cr_EEl (fun _ kk => e_sipush (pc := 45) (v := 5000) dX4_pause_45 (by decide) kk) ?_
      refine cr_EEl (fun _ kk => e_stat3i (pc := 48) dX4_pause_48 cs_X4_pause_58 st_X4_outside rfl (by decide) (Nat.le_of_ble_eq_true rfl) (ev_X4_outside _ _ _ _) kk) ?_
      rcases x_out_c n 1 5000 with ⟨ho1, he⟩ | ⟨ho1, ho2, he⟩ | ⟨ho1, ho2, he⟩
      · rw [he]
        refine cr_EEl (fun _ kk => e_istore_n (pc := 51) dX4_pause_51 (by decide) kk) ?_
        refine cr_EEl (fun _ kk => e_iload_n (pc := 52) dX4_pause_52 rfl kk) ?_
        refine cr_EEb (fun _ k1 k2 => e_if_eq (pc := 53) (tgt := 62) dX4_pause_53 (by decide) k1 k2) (fun hc_53 => absurd hc_53 (by decide)) (fun hc_53 => ?_)
        refine cr_EEl (fun _ kk => e_aload_n (pc := 56) dX4_pause_56 rfl kk) ?_
        refine cr_EEl (fun _ kk => e_iload_n (pc := 57) dX4_pause_57 rfl kk) ?_
        refine cr_EEl (fun _ kk => e_self1i (pc := 58) dX4_pause_58 cs_X4_pause_30 cv_X4_refuse rc_X4_refuse rfl (by decide) (Nat.le_of_ble_eq_true rfl) (ev_X4_refuse _ (k := 4) (by decide) (by decide)) kk) ?_
        refine cr_EEr (r_iret (pc := 61) dX4_pause_61 rfl rfl) ?_
        exact x_leaf (by unfold m_pause; first | grind | (repeat (first | rw [if_pos (by grind)] | rw [if_neg (by grind)]))) (x_I_ref ht hJ hX (by decide))
      · rw [he]
        refine cr_EEl (fun _ kk => e_istore_n (pc := 51) dX4_pause_51 (by decide) kk) ?_
        refine cr_EEl (fun _ kk => e_iload_n (pc := 52) dX4_pause_52 rfl kk) ?_
        refine cr_EEb (fun _ k1 k2 => e_if_eq (pc := 53) (tgt := 62) dX4_pause_53 (by decide) k1 k2) (fun hc_53 => absurd hc_53 (by decide)) (fun hc_53 => ?_)
        refine cr_EEl (fun _ kk => e_aload_n (pc := 56) dX4_pause_56 rfl kk) ?_
        refine cr_EEl (fun _ kk => e_iload_n (pc := 57) dX4_pause_57 rfl kk) ?_
        refine cr_EEl (fun _ kk => e_self1i (pc := 58) dX4_pause_58 cs_X4_pause_30 cv_X4_refuse rc_X4_refuse rfl (by decide) (Nat.le_of_ble_eq_true rfl) (ev_X4_refuse _ (k := 6) (by decide) (by decide)) kk) ?_
        refine cr_EEr (r_iret (pc := 61) dX4_pause_61 rfl rfl) ?_
        exact x_leaf (by unfold m_pause; first | grind | (repeat (first | rw [if_pos (by grind)] | rw [if_neg (by grind)]))) (x_I_ref ht hJ hX (by decide))
      · rw [he]
        refine cr_EEl (fun _ kk => e_istore_n (pc := 51) dX4_pause_51 (by decide) kk) ?_
        refine cr_EEl (fun _ kk => e_iload_n (pc := 52) dX4_pause_52 rfl kk) ?_
        refine cr_EEb (fun _ k1 k2 => e_if_eq (pc := 53) (tgt := 62) dX4_pause_53 (by decide) k1 k2) (fun hc_53 => ?_) (fun hc_53 => absurd hc_53 (by decide))
        refine cr_EEl (fun _ kk => e_aload_n (pc := 62) dX4_pause_62 rfl kk) ?_
        refine cr_EEl (fun _ kk => e_getA (pc := 63) dX4_pause_63 f_4_10 rfl rfl kk) ?_
        refine cr_EEl (fun _ kk => e_getA (pc := 66) dX4_pause_66 f_4_34 rfl rfl kk) ?_
        refine cr_EEl (fun _ kk => e_iload_n (pc := 69) dX4_pause_69 rfl kk) ?_
        refine cr_EEl (fun _ kk => e_iconst (pc := 70) (v := 3) dX4_pause_70 (by decide) kk) ?_
        refine cr_EEl (fun _ kk => e_aload_n (pc := 71) dX4_pause_71 rfl kk) ?_
        refine cr_EEl (fun _ kk => e_getA (pc := 72) dX4_pause_72 f_4_10 rfl rfl kk) ?_
        refine cr_EEl (fun _ kk => e_getI (pc := 75) dX4_pause_75 f_4_44 rfl rfl kk) ?_
        refine cr_EEl (fun _ kk => e_offn3v (pc := 78) 9 dX4_pause_78 cs_X4_pause_72 cv_X2_become rc_X2_become fit_shR_shH_2 (by decide) rfl (Nat.le_of_ble_eq_true rfl) (ev_X2_become (fun j => X (2 + j)) _ _ (by omega)) kk) ?_
        refine cr_EEl (fun _ kk => e_aload_n (pc := 81) dX4_pause_81 rfl kk) ?_
        refine cr_EEl (fun _ kk => e_getA (pc := 82) dX4_pause_82 f_4_10 rfl rfl kk) ?_
        refine cr_EEl (fun _ kk => e_getA (pc := 85) dX4_pause_85 f_4_34 rfl rfl kk) ?_
        refine cr_EEl (fun _ kk => e_getA (pc := 88) dX4_pause_88 f_4_75 rfl rfl kk) ?_
        refine cr_EEl (fun _ kk => e_iload_n (pc := 91) dX4_pause_91 rfl kk) ?_
        refine cr_EEl (fun _ kk => e_aload_n (pc := 92) dX4_pause_92 rfl kk) ?_
        refine cr_EEl (fun _ kk => e_getA (pc := 93) dX4_pause_93 f_4_10 rfl rfl kk) ?_
        refine cr_EEl (fun _ kk => e_getIv (pc := 96) (N 0 3) dX4_pause_96 f_4_44 rfl rfl z5 kk) ?_
        refine cr_EEl (fun _ kk => e_iload_n (pc := 99) dX4_pause_99 rfl kk) ?_
        refine cr_EEl (fun _ kk => e_iadd (pc := 100) dX4_pause_100 kk) ?_
        first | refine cr_EEl (fun _ kk => e_iastN (pc := 101) dX4_pause_101 rfl (by omega) (by decide) kk) ?_ | refine cr_EEl (fun _ kk => e_iast (pc := 101) dX4_pause_101 rfl (by assumption) kk) ?_
        refine cr_EEl (fun _ kk => e_aload_n (pc := 102) dX4_pause_102 rfl kk) ?_
        refine cr_EEl (fun _ kk => e_getA (pc := 103) dX4_pause_103 f_4_10 rfl rfl kk) ?_
        refine cr_EEl (fun _ kk => e_getIv (pc := 106) (N 0 3) dX4_pause_106 f_4_44 rfl rfl z5 kk) ?_
        refine cr_EEl (fun _ kk => e_iload_n (pc := 109) dX4_pause_109 rfl kk) ?_
        refine cr_EEl (fun _ kk => e_iadd (pc := 110) dX4_pause_110 kk) ?_
        refine cr_EEr (r_iret (pc := 111) dX4_pause_111 rfl rfl) ?_
        obtain ⟨n, hn2, rfl⟩ := nI_of2 (x := n) (M := 5000) (n := 5000) (by decide) (by grind) (by grind)
        have hn1 : 1 ≤ n := by
          have : ¬ nI n < nI 1 := ho1
          rw [nI_ltI (by omega) (by omega)] at this; omega
        have et : N 0 3 + nI n = nI (tk + n) := by rw [hJ.2.1, nI_add]
        refine x_leaf (N' := cr_up (n_bec N k 3) 7 k (nI (tk + n))) (by unfold m_pause; rw [et, if_pos (by grind), if_neg (by grind), if_neg (by grind)]) ?_
        rw [et, x_pz]
        exact x_I_pause ht hJ hX hk (by omega) (by omega)
    · refine cr_EEl (fun _ kk => e_aload_n (pc := 36) dX4_pause_36 rfl kk) ?_
      refine cr_EEl (fun _ kk => e_bipush (pc := 37) (v := (-2)) dX4_pause_37 (by decide) kk) ?_
      refine cr_EEl (fun _ kk => e_self1i (pc := 39) dX4_pause_39 cs_X4_pause_30 cv_X4_refuse rc_X4_refuse rfl (by decide) (Nat.le_of_ble_eq_true rfl) (ev_X4_refuse _ (k := 2) (by decide) (by decide)) kk) ?_
      refine cr_EEr (r_iret (pc := 42) dX4_pause_42 rfl rfl) ?_
      exact x_leaf (by unfold m_pause; first | grind | (repeat (first | rw [if_pos (by grind)] | rw [if_neg (by grind)]))) (x_I_ref ht hJ hX (by decide))
