set_option maxHeartbeats 2000000 in
theorem lp_X1_nextChange {hn cn tk : Nat} {F N : cr_M} (hJ : n_J hn cn tk N) (hR : r_F hn cn F N) : ∀ (n j : Nat) (z : Int32) (T : Nat), j + n = cn → z = nI T → T ≤ nMx → (∀ k, k < hn → N 5 k = 3 → ∀ e, N 7 k = nI e → e ≤ 30000 → T ≤ e) → (∀ c, c < j → y_c tk T N c) → ∃ T', T' ≤ nMx ∧ cr_Ev Y_X1_nextChange 10 [(2, .inl (nI j)), (0, .inr (.inr 0)), (1, .inl z)] [] F (some (.inl (nI T')), F) ∧ y_q hn cn tk T' N := by
  obtain ⟨h10, h200, z1, z2, z3, z4, z5⟩ := r_F_z hR
  intro n
  induction n with
  | zero =>
    intro j z T hj hz hT h1 h2
    refine ⟨T, hT, ?_, h1, fun c hc => h2 c (by omega)⟩
    · skip
      refine e_iload_n (pc := 10) dX1_nextChange_10 rfl ?_
      refine e_aload_n (pc := 11) dX1_nextChange_11 rfl ?_
      refine e_getA (pc := 12) dX1_nextChange_12 f_1_21 rfl rfl ?_
      refine e_getI (pc := 15) dX1_nextChange_15 f_1_94 rfl rfl ?_
      refine e_icmp_ge (pc := 18) (tgt := 48) dX1_nextChange_18 (by decide) (fun hc_18 => ?_) (fun hc_18 => ?_)
      · refine e_iload_n (pc := 48) dX1_nextChange_48 rfl ?_
        refine r_iret (pc := 49) dX1_nextChange_49 rfl ?_
        rw [hz]
      · exact absurd (show F 10 0 ≤ nI j by rw [z2]; exact nI_le (by omega) (by omega)) (by assumption)
  | succ n ih =>
    intro j z T hj hz hT h1 h2
    obtain ⟨E, e1, e2, e3⟩ := c_nc_E hJ (hR.2.1.2.2 j (by omega)) (by omega)
    have hmin : (if nI E < nI T then nI E else nI T) = nI (min E T) := by
      unfold nMx at *
      by_cases q : nI E < nI T
      · rw [if_pos q]
        rw [nI_ltI (by omega) (by omega)] at q
        rw [Nat.min_eq_left (by omega)]
      · rw [if_neg q]
        rw [nI_ltI (by omega) (by omega)] at q
        rw [Nat.min_eq_right (by omega)]
    obtain ⟨T', t1, hE3, t3⟩ := ih (j + 1) (nI (min E T)) (min E T) (by omega) rfl (Nat.le_trans (Nat.min_le_right _ _) hT) (fun k hk a e b d => Nat.le_trans (Nat.min_le_right _ _) (h1 k hk a e b d)) (fun c hc => by
      rcases Nat.lt_or_ge c j with q | q
      · exact y_c_le (h2 c q) (Nat.min_le_right _ _)
      · have : c = j := by omega
        subst this
        exact y_c_le e3 (Nat.min_le_left _ _))
    refine ⟨T', t1, ?_, t3⟩
    · skip
      refine e_iload_n (pc := 10) dX1_nextChange_10 rfl ?_
      refine e_aload_n (pc := 11) dX1_nextChange_11 rfl ?_
      refine e_getA (pc := 12) dX1_nextChange_12 f_1_21 rfl rfl ?_
      refine e_getI (pc := 15) dX1_nextChange_15 f_1_94 rfl rfl ?_
      refine e_icmp_ge (pc := 18) (tgt := 48) dX1_nextChange_18 (by decide) (fun hc_18 => ?_) (fun hc_18 => ?_)
      · exact absurd (show F 10 0 ≤ nI j by assumption) (by rw [z2]; exact nI_ge (by omega) (by omega))
      · refine e_iload_n (pc := 21) dX1_nextChange_21 rfl ?_
        refine e_aload_n (pc := 22) dX1_nextChange_22 rfl ?_
        refine e_getA (pc := 23) dX1_nextChange_23 f_1_21 rfl rfl ?_
        refine e_iload_n (pc := 26) dX1_nextChange_26 rfl ?_
        refine e_aload_n (pc := 27) dX1_nextChange_27 rfl ?_
        refine e_getIv (pc := 28) (N 0 3) dX1_nextChange_28 f_1_43 rfl rfl z3 ?_
        refine e_aload_n (pc := 31) dX1_nextChange_31 rfl ?_
        refine e_getIv (pc := 32) (N 0 7) dX1_nextChange_32 f_1_32 rfl rfl z5 ?_
        refine e_offR3i (pc := 35) (M' := fun _ _ => 0) dX1_nextChange_35 cs_X1_nextChange_97 cv_X0_nextChange rc_X0_nextChange fit_shF_shC_10 (by decide) (Nat.le_of_ble_eq_true rfl) (by have h := ev_X0_nextChange (fun q => F (10 + q)) (k := j) (N 0 3) (N 0 7) (by omega); rw [e2] at h; exact h) ?_
        refine e_mmin (pc := 38) dX1_nextChange_38 cm_X1_nextChange_88 cm_min (by decide) (by decide) (Nat.le_of_ble_eq_true rfl) ?_
        rw [hz, hmin]
        refine e_istore_n (pc := 41) dX1_nextChange_41 (by decide) ?_
        first | refine e_iinc1 (pc := 42) dX1_nextChange_42 rfl (by decide) ?_ | refine e_iincp (pc := 42) dX1_nextChange_42 rfl (by decide) ?_
        refine e_goto (pc := 45) (tgt := 10) dX1_nextChange_45 (by decide) ?_
        exact e_wk hE3 ⟨rfl, rfl, rfl, trivial⟩
theorem ev_X1_nextChange {hn cn tk : Nat} {F N : cr_M} (hJ : n_J hn cn tk N) (hR : r_F hn cn F N) : ∃ T, T ≤ nMx ∧ cr_EvM Y_X1_nextChange [.inr (.inr 0)] F (some (.inl (nI T)), F) ∧ y_q hn cn tk T N := by
  obtain ⟨h10, h200, z1, z2, z3, z4, z5⟩ := r_F_z hR
  obtain ⟨T0, a1, a2, a3⟩ := h_nb_T hJ hR.1 hn (Nat.le_refl _)
  obtain ⟨T, b1, hE, b3⟩ := lp_X1_nextChange hJ hR cn 0 (nI T0) T0 (by omega) rfl a1 a3 (fun c hc => absurd hc (Nat.not_lt_zero _))
  refine ⟨T, b1, ?_, b3⟩
  unfold cr_EvM
  refine e_aload_n (pc := 0) dX1_nextChange_0 rfl ?_
  refine e_getA (pc := 1) dX1_nextChange_1 f_1_12 rfl rfl ?_
  refine e_offR0i (pc := 4) (M' := fun _ _ => 0) dX1_nextChange_4 cs_X1_nextChange_91 cv_X2_nextBreakOver rc_X2_nextBreakOver fit_shF_shH_1 (by decide) (Nat.le_of_ble_eq_true rfl) (by have h := ev_X2_nextBreakOver (M := fun q => F (1 + q)) z1 h10; rw [a2] at h; exact h) ?_
  refine e_istore_n (pc := 7) dX1_nextChange_7 (by decide) ?_
  refine e_iconst (pc := 8) (v := 0) dX1_nextChange_8 (by decide) ?_
  refine e_istore_n (pc := 9) dX1_nextChange_9 (by decide) ?_
  exact e_wk hE ⟨rfl, rfl, rfl, trivial⟩
set_option maxHeartbeats 2000000 in
/-- it skips d ticks, all of them quiet -/
theorem ev_X1_skip {hn cn tk : Nat} {F N : cr_M} {m : Nat} (hJ : n_J hn cn tk N) (hnx : n_nx hn cn N = none) (hm : m ≤ 21000) (htm : tk + m ≤ 21000) (hR : r_F hn cn F N) : ∃ d F', d ≤ m ∧ cr_EvM Y_X1_skipQuietTicks [.inr (.inr 0), .inl (nI m)] F (some (.inl (nI d)), F') ∧ r_F hn cn F' (n_ti hn cn N d) ∧ n_td hn cn N d = 0 ∧ n_nx hn cn (n_ti hn cn N d) = none ∧ ∀ i, i ≤ d → n_ti hn cn N i = n_adv hn i N := by
  obtain ⟨h10, h200, z1, z2, z3, z4, z5⟩ := r_F_z hR
  obtain ⟨T, hT, hE, hq⟩ := ev_X1_nextChange hJ hR
  have ht := hJ.2.2.1
  have hz3 : F 0 4 = nI tk := z3.trans hJ.2.1
  have hR2 := r_F_tick (x := nI (min (T - tk - 1) m)) (r_F_busy (x := nI (min (T - tk - 1) m)) hR)
  have hall : ∀ i, i ≤ min (T - tk - 1) m → n_ti hn cn N i = n_adv hn i N ∧ n_td hn cn N i = 0 ∧ n_nx hn cn (n_adv hn i N) = none := by
    intro i hi
    rcases Nat.eq_zero_or_pos i with h0 | h0
    · subst h0; rw [n_adv_0]; exact ⟨rfl, rfl, hnx⟩
    · exact n_quiet hJ hq hnx i (by omega) (by omega)
  obtain ⟨q1, q2, q3⟩ := hall _ (Nat.le_refl _)
  refine ⟨min (T - tk - 1) m, _, Nat.min_le_right _ _, ?_, by rw [q1]; exact hR2, q2, by rw [q1]; exact q3, fun i hi => (hall i hi).1⟩
  · show cr_EvM Y_X1_skipQuietTicks _ F _
    refine e_aload_n (pc := 0) dX1_skipQuietTicks_0 rfl ?_
    refine e_self0i (pc := 1) dX1_skipQuietTicks_1 cs_X1_skipQuietTicks_85 cv_X1_nextChange rc_X1_nextChange rfl (by decide) (Nat.le_of_ble_eq_true rfl) hE ?_
    refine e_aload_n (pc := 4) dX1_skipQuietTicks_4 rfl ?_
    refine e_getIv (pc := 5) (nI tk) dX1_skipQuietTicks_5 f_1_43 rfl rfl hz3 ?_
    refine e_isub (pc := 8) dX1_skipQuietTicks_8 ?_
    refine e_iconst (pc := 9) (v := 1) dX1_skipQuietTicks_9 (by decide) ?_
    refine e_isub (pc := 10) dX1_skipQuietTicks_10 ?_
    refine e_istore_n (pc := 11) dX1_skipQuietTicks_11 (by decide) ?_
    refine e_iconst (pc := 12) (v := 0) dX1_skipQuietTicks_12 (by decide) ?_
    refine e_iload_n (pc := 13) dX1_skipQuietTicks_13 rfl ?_
    refine e_iload_n (pc := 14) dX1_skipQuietTicks_14 rfl ?_
    refine e_mmin (pc := 15) dX1_skipQuietTicks_15 cm_X1_skipQuietTicks_88 cm_min (by decide) (by decide) (Nat.le_of_ble_eq_true rfl) ?_
    refine e_mmax (pc := 18) dX1_skipQuietTicks_18 cm_X1_skipQuietTicks_57 cm_max (by decide) (by decide) (Nat.le_of_ble_eq_true rfl) ?_
    rw [sk_d hT ht hm]
    refine e_istore_n (pc := 21) dX1_skipQuietTicks_21 (by decide) ?_
    refine e_aload_n (pc := 22) dX1_skipQuietTicks_22 rfl ?_
    refine e_getA (pc := 23) dX1_skipQuietTicks_23 f_1_12 rfl rfl ?_
    refine e_iload_n (pc := 26) dX1_skipQuietTicks_26 rfl ?_
    refine e_offn1v (pc := 27) 9 dX1_skipQuietTicks_27 cs_X1_skipQuietTicks_66 cv_X2_addBusyTicks rc_X2_addBusyTicks fit_shF_shH_1 (by decide) rfl (Nat.le_of_ble_eq_true rfl) (ev_X2_addBusyTicks _ z1 h10) ?_
    refine e_aload_n (pc := 30) dX1_skipQuietTicks_30 rfl ?_
    refine e_dup_a (pc := 31) dX1_skipQuietTicks_31 ?_
    refine e_getIv (pc := 32) (F 0 4) dX1_skipQuietTicks_32 f_1_43 rfl rfl rfl ?_
    refine e_iload_n (pc := 35) dX1_skipQuietTicks_35 rfl ?_
    refine e_iadd (pc := 36) dX1_skipQuietTicks_36 ?_
    refine e_put (pc := 37) dX1_skipQuietTicks_37 f_1_43 p_1_4 rfl rfl ?_
    refine e_iload_n (pc := 40) dX1_skipQuietTicks_40 rfl ?_
    refine r_iret (pc := 41) dX1_skipQuietTicks_41 rfl ?_
    rfl
set_option maxHeartbeats 4000000 in
theorem lp_X1_goOn {hn cn tk m : Nat} {N : cr_M} (hJ : n_J hn cn tk N) (hm : tk + m ≤ 21000) : ∀ (n g : Nat) (F : cr_M) (z : Int32), m - g ≤ n → g ≤ m → r_F hn cn F (n_ti hn cn N g) → z = n_td hn cn N g → ∃ F', cr_Ev Y_X1_goOn 4 [(3, .inl (nI (g + 1))), (0, .inr (.inr 0)), (1, .inl (nI m)), (2, .inl z)] [] F (some (.inl (n_td hn cn N m)), F') ∧ r_F hn cn F' (n_ti hn cn N m) := by
  intro n
  induction n with
  | zero =>
    intro g F z hn0 hgm hR hz
    have hg : g = m := by omega
    refine ⟨F, ?_, by rw [← hg]; exact hR⟩
    · skip
      refine e_iload_n (pc := 4) dX1_goOn_4 rfl ?_
      refine e_iload_n (pc := 5) dX1_goOn_5 rfl ?_
      refine e_icmp_gt (pc := 6) (tgt := 36) dX1_goOn_6 (by decide) (fun hc_6 => ?_) (fun hc_6 => ?_)
      · refine e_iload_n (pc := 36) dX1_goOn_36 rfl ?_
        refine r_iret (pc := 37) dX1_goOn_37 rfl ?_
        rw [hz, hg]
      · exact absurd (show nI m < nI (g + 1) from nI_lt (by omega) (by omega)) (by assumption)
  | succ n ih =>
    intro g F z hn0 hgm hR hz
    by_cases hg : g = m
    · refine ⟨F, ?_, by rw [← hg]; exact hR⟩
      · skip
        refine e_iload_n (pc := 4) dX1_goOn_4 rfl ?_
        refine e_iload_n (pc := 5) dX1_goOn_5 rfl ?_
        refine e_icmp_gt (pc := 6) (tgt := 36) dX1_goOn_6 (by decide) (fun hc_6 => ?_) (fun hc_6 => ?_)
        · refine e_iload_n (pc := 36) dX1_goOn_36 rfl ?_
          refine r_iret (pc := 37) dX1_goOn_37 rfl ?_
          rw [hz, hg]
        · exact absurd (show nI m < nI (g + 1) from nI_lt (by omega) (by omega)) (by assumption)
    · have hJg := n_J_ti hJ g (by omega)
      obtain ⟨F1, hE1, hR1⟩ := ev_X1_passTick hJg (by omega) hR
      have hJ1 := n_J_ti hJ (g + 1) (by omega)
      have hnx : n_nx hn cn (n_ti hn cn N (g + 1)) = none := n_go_none hJg.1
      obtain ⟨d, F2, hd, hE2, hR2, hd2, -, -⟩ := ev_X1_skip (m := m - (g + 1)) hJ1 hnx (by omega) (by omega) hR1
      have hmx : (if (0 : Int32) < nI d then nI d else 0) = nI d := by
        by_cases q : (0 : Int32) < nI d
        · rw [if_pos q]
        · rw [if_neg q]
          have : ¬ nI 0 < nI d := q
          rw [nI_ltI (by omega) (by omega)] at this
          rw [show d = 0 by omega]; rfl
      obtain ⟨F3, hE3, hR3⟩ := ih (g + 1 + d) F2 (n_td hn cn N g + n_gon hn cn (n_ti hn cn N g)) (by omega) (by omega) (by rw [n_ti_add]; exact hR2) (by
        rw [n_td_add, hd2, n_td]
        exact (Int32.add_zero _).symm)
      refine ⟨F3, ?_, hR3⟩
      · rw [hz]
        refine e_iload_n (pc := 4) dX1_goOn_4 rfl ?_
        refine e_iload_n (pc := 5) dX1_goOn_5 rfl ?_
        refine e_icmp_gt (pc := 6) (tgt := 36) dX1_goOn_6 (by decide) (fun hc_6 => ?_) (fun hc_6 => ?_)
        · exact absurd (show nI m < nI (g + 1) by assumption) (nI_nlt (by omega) (by omega))
        · refine e_iload_n (pc := 9) dX1_goOn_9 rfl ?_
          refine e_aload_n (pc := 10) dX1_goOn_10 rfl ?_
          refine e_self0i (pc := 11) dX1_goOn_11 cs_X1_goOn_49 cv_X1_passTick rc_X1_passTick rfl (by decide) (Nat.le_of_ble_eq_true rfl) hE1 ?_
          refine e_iadd (pc := 14) dX1_goOn_14 ?_
          refine e_istore_n (pc := 15) dX1_goOn_15 (by decide) ?_
          refine e_iload_n (pc := 16) dX1_goOn_16 rfl ?_
          refine e_iconst (pc := 17) (v := 0) dX1_goOn_17 (by decide) ?_
          refine e_aload_n (pc := 18) dX1_goOn_18 rfl ?_
          refine e_iload_n (pc := 19) dX1_goOn_19 rfl ?_
          refine e_iload_n (pc := 20) dX1_goOn_20 rfl ?_
          refine e_isub (pc := 21) dX1_goOn_21 ?_
          rw [pk_sub (by omega)]
          refine e_self1i (pc := 22) dX1_goOn_22 cs_X1_goOn_53 cv_X1_skipQuietTicks rc_X1_skipQuietTicks rfl (by decide) (Nat.le_of_ble_eq_true rfl) hE2 ?_
          refine e_mmax (pc := 25) dX1_goOn_25 cm_X1_goOn_57 cm_max (by decide) (by decide) (Nat.le_of_ble_eq_true rfl) ?_
          rw [hmx]
          refine e_iadd (pc := 28) dX1_goOn_28 ?_
          rw [nI_add]
          refine e_istore_n (pc := 29) dX1_goOn_29 (by decide) ?_
          first | refine e_iinc1 (pc := 30) dX1_goOn_30 rfl (by decide) ?_ | refine e_iincp (pc := 30) dX1_goOn_30 rfl (by decide) ?_
          refine e_goto (pc := 33) (tgt := 4) dX1_goOn_33 (by decide) ?_
          exact e_wk hE3 ⟨rfl, rfl, rfl, rfl, trivial⟩
theorem ev_X1_goOn {hn cn tk : Nat} {F N : cr_M} {m : Nat} (hJ : n_J hn cn tk N) (hm : tk + m ≤ 21000) (hR : r_F hn cn F N) : ∃ F', cr_EvM Y_X1_goOn [.inr (.inr 0), .inl (nI m)] F (some (.inl (n_td hn cn N m)), F') ∧ r_F hn cn F' (n_ti hn cn N m) := by
  obtain ⟨F', hE, hR'⟩ := lp_X1_goOn hJ hm m 0 F 0 (by omega) (by omega) hR rfl
  refine ⟨F', ?_, hR'⟩
  unfold cr_EvM
  refine e_iconst (pc := 0) (v := 0) dX1_goOn_0 (by decide) ?_
  refine e_istore_n (pc := 1) dX1_goOn_1 (by decide) ?_
  refine e_iconst (pc := 2) (v := 1) dX1_goOn_2 (by decide) ?_
  refine e_istore_n (pc := 3) dX1_goOn_3 (by decide) ?_
  exact e_wk hE ⟨rfl, rfl, rfl, rfl, trivial⟩
set_option maxHeartbeats 4000000 in
theorem lp_X1_till {hn cn tk c : Nat} (ht : tk ≤ 20000) (hc : c < cn) : ∀ (n g : Nat) (F N : cr_M), 1000 - g ≤ n → g ≤ 1000 → n_J hn cn (tk + g) N → r_F hn cn F N → N 16 c = 0 → ∃ F', cr_Ev Y_X1_ticksTillOn 2 [(2, .inl (nI (g + 1))), (0, .inr (.inr 0)), (1, .inl (nI c))] [] F (some (.inl (n_told c (n_wl hn cn c (1000 - g) g N))), F') ∧ u_H hn (fun j => F' (1 + j)) := by
  intro n
  induction n with
  | zero =>
    intro g F N hn0 hg hJ hR h0
    obtain ⟨h10, h200, z1, z2, z3, z4, z5⟩ := r_F_z hR
    refine ⟨F, ?_, hR.2.2.2.2.2⟩
    refine e_iload_n (pc := 2) dX1_ticksTillOn_2 rfl ?_
    refine e_sipush (pc := 3) (v := 1000) dX1_ticksTillOn_3 (by decide) ?_
    refine e_icmp_gt (pc := 6) (tgt := 67) dX1_ticksTillOn_6 (by decide) (fun hc_6 => ?_) (fun hc_6 => ?_)
    · refine e_bipush (pc := 67) (v := (-9)) dX1_ticksTillOn_67 (by decide) ?_
      refine r_iret (pc := 69) dX1_ticksTillOn_69 rfl ?_
      rw [show 1000 - g = 0 by omega]
      show ((some (Sum.inl (n_told c (g, N))), _) : Option cr_AV × cr_M) = _
      unfold n_told
      rw [if_neg (show ¬ N 16 c = 1 by rw [h0]; decide), if_neg (show ¬ N 16 c = 3 by rw [h0]; decide)]
    · exact absurd (show (1000 : Int32) < nI (g + 1) from nI_lt (a := 1000) (by omega) (by omega)) (by assumption)
  | succ n ih =>
    intro g F N hn0 hg hJ hR h0
    obtain ⟨h10, h200, z1, z2, z3, z4, z5⟩ := r_F_z hR
    by_cases hge : g = 1000
    · refine ⟨F, ?_, hR.2.2.2.2.2⟩
      refine e_iload_n (pc := 2) dX1_ticksTillOn_2 rfl ?_
      refine e_sipush (pc := 3) (v := 1000) dX1_ticksTillOn_3 (by decide) ?_
      refine e_icmp_gt (pc := 6) (tgt := 67) dX1_ticksTillOn_6 (by decide) (fun hc_6 => ?_) (fun hc_6 => ?_)
      · refine e_bipush (pc := 67) (v := (-9)) dX1_ticksTillOn_67 (by decide) ?_
        refine r_iret (pc := 69) dX1_ticksTillOn_69 rfl ?_
        rw [show 1000 - g = 0 by omega]
        show ((some (Sum.inl (n_told c (g, N))), _) : Option cr_AV × cr_M) = _
        unfold n_told
        rw [if_neg (show ¬ N 16 c = 1 by rw [h0]; decide), if_neg (show ¬ N 16 c = 3 by rw [h0]; decide)]
      · exact absurd (show (1000 : Int32) < nI (g + 1) from nI_lt (a := 1000) (by omega) (by omega)) (by assumption)
    · obtain ⟨F1, hE1, hR1⟩ := ev_X1_passTick hJ (by omega) hR
      have hJ1 := n_J_go (by omega) hJ
      have x1 := (r_F_c hR1 hc).1
      have hstep : n_wl hn cn c (1000 - g) g N = n_wl hn cn c (1000 - (g + 1)) (g + 1) (n_go hn cn N) := by rw [show 1000 - g = (1000 - (g + 1)) + 1 by omega, n_wl, if_pos h0]
      have hst : ¬ n_go hn cn N 16 c = 0 → n_wl hn cn c (1000 - (g + 1)) (g + 1) (n_go hn cn N) = (g + 1, n_go hn cn N) := by
        intro q
        rcases hm : 1000 - (g + 1) with _ | m
        · rfl
        · rw [n_wl, if_neg q]
      rcases n_go_16 (hn := hn) (cn := cn) h0 with hs | hs | hs
      · have hnx : n_nx hn cn (n_go hn cn N) = none := n_go_none hJ.1
        obtain ⟨d, F2, hd, hE2, hR2, hd2, hnx2, hadv⟩ := ev_X1_skip (m := 1000 - (g + 1)) hJ1 hnx (by omega) (by omega) hR1
        have hz : ∀ i, i ≤ d → n_ti hn cn (n_go hn cn N) i 16 c = 0 := fun i hi => by rw [hadv i hi]; exact hs
        have hmx : (if (0 : Int32) < nI d then nI d else 0) = nI d := by
          by_cases q : (0 : Int32) < nI d
          · rw [if_pos q]
          · rw [if_neg q]
            have : ¬ nI 0 < nI d := q
            rw [nI_ltI (by omega) (by omega)] at this
            rw [show d = 0 by omega]; rfl
        have hJ2 : n_J hn cn (tk + (g + 1 + d)) (n_ti hn cn (n_go hn cn N) d) := by
          have := n_J_ti hJ1 d (by omega)
          rw [show tk + g + 1 + d = tk + (g + 1 + d) by omega] at this
          exact this
        obtain ⟨F3, hE3, hU3⟩ := ih (g + 1 + d) F2 _ (by omega) (by omega) hJ2 hR2 (hz d (Nat.le_refl _))
        refine ⟨F3, ?_, hU3⟩
        rw [hstep, show 1000 - (g + 1) = (1000 - (g + 1 + d)) + d by omega, n_wl_skip d (1000 - (g + 1 + d)) (g + 1) (n_go hn cn N) (fun i hi => hz i (by omega))]
        refine e_iload_n (pc := 2) dX1_ticksTillOn_2 rfl ?_
        refine e_sipush (pc := 3) (v := 1000) dX1_ticksTillOn_3 (by decide) ?_
        refine e_icmp_gt (pc := 6) (tgt := 67) dX1_ticksTillOn_6 (by decide) (fun hc_6 => ?_) (fun hc_6 => ?_)
        · exact absurd (show (1000 : Int32) < nI (g + 1) by assumption) (nI_nlt (a := 1000) (by omega) (by omega))
        · refine e_aload_n (pc := 9) dX1_ticksTillOn_9 rfl ?_
          refine e_self0i (pc := 10) dX1_ticksTillOn_10 cs_X1_ticksTillOn_49 cv_X1_passTick rc_X1_passTick rfl (by decide) (Nat.le_of_ble_eq_true rfl) hE1 ?_
          refine e_pop (pc := 13) dX1_ticksTillOn_13 ?_
          refine e_aload_n (pc := 14) dX1_ticksTillOn_14 rfl ?_
          refine e_getA (pc := 15) dX1_ticksTillOn_15 f_1_21 rfl rfl ?_
          refine e_getA (pc := 18) dX1_ticksTillOn_18 f_1_63 rfl rfl ?_
          refine e_iload_n (pc := 21) dX1_ticksTillOn_21 rfl ?_
          first | refine e_ialdN (pc := 22) dX1_ticksTillOn_22 rfl (by omega) (by decide) ?_ | refine e_iald (pc := 22) dX1_ticksTillOn_22 rfl (by assumption) ?_
          refine e_iconst (pc := 23) (v := 1) dX1_ticksTillOn_23 (by decide) ?_
          refine e_icmp_ne (pc := 24) (tgt := 29) dX1_ticksTillOn_24 (by decide) (fun hc_24 => ?_) (fun hc_24 => ?_)
          · refine e_aload_n (pc := 29) dX1_ticksTillOn_29 rfl ?_
            refine e_getA (pc := 30) dX1_ticksTillOn_30 f_1_21 rfl rfl ?_
            refine e_getA (pc := 33) dX1_ticksTillOn_33 f_1_63 rfl rfl ?_
            refine e_iload_n (pc := 36) dX1_ticksTillOn_36 rfl ?_
            first | refine e_ialdN (pc := 37) dX1_ticksTillOn_37 rfl (by omega) (by decide) ?_ | refine e_iald (pc := 37) dX1_ticksTillOn_37 rfl (by assumption) ?_
            refine e_iconst (pc := 38) (v := 3) dX1_ticksTillOn_38 (by decide) ?_
            refine e_icmp_ne (pc := 39) (tgt := 45) dX1_ticksTillOn_39 (by decide) (fun hc_39 => ?_) (fun hc_39 => ?_)
            · refine e_iload_n (pc := 45) dX1_ticksTillOn_45 rfl ?_
              refine e_iconst (pc := 46) (v := 0) dX1_ticksTillOn_46 (by decide) ?_
              refine e_aload_n (pc := 47) dX1_ticksTillOn_47 rfl ?_
              refine e_sipush (pc := 48) (v := 1000) dX1_ticksTillOn_48 (by decide) ?_
              refine e_iload_n (pc := 51) dX1_ticksTillOn_51 rfl ?_
              refine e_isub (pc := 52) dX1_ticksTillOn_52 ?_
              rw [show (1000 : Int32) - nI (g + 1) = nI (1000 - (g + 1)) from pk_sub (a := 1000) (by omega)]
              refine e_self1i (pc := 53) dX1_ticksTillOn_53 cs_X1_ticksTillOn_53 cv_X1_skipQuietTicks rc_X1_skipQuietTicks rfl (by decide) (Nat.le_of_ble_eq_true rfl) hE2 ?_
              refine e_mmax (pc := 56) dX1_ticksTillOn_56 cm_X1_ticksTillOn_57 cm_max (by decide) (by decide) (Nat.le_of_ble_eq_true rfl) ?_
              rw [hmx]
              refine e_iadd (pc := 59) dX1_ticksTillOn_59 ?_
              rw [nI_add]
              refine e_istore_n (pc := 60) dX1_ticksTillOn_60 (by decide) ?_
              first | refine e_iinc1 (pc := 61) dX1_ticksTillOn_61 rfl (by decide) ?_ | refine e_iincp (pc := 61) dX1_ticksTillOn_61 rfl (by decide) ?_
              refine e_goto (pc := 64) (tgt := 2) dX1_ticksTillOn_64 (by decide) ?_
              exact e_wk hE3 ⟨rfl, rfl, rfl, trivial⟩
            · exact absurd ((show F1 11 c = 3 by assumption).symm.trans (x1.trans hs)) (by decide)
          · exact absurd ((show F1 11 c = 1 by assumption).symm.trans (x1.trans hs)) (by decide)
      · have hwl := hstep.trans (hst (by rw [hs]; decide))
        refine ⟨F1, ?_, hR1.2.2.2.2.2⟩
        refine e_iload_n (pc := 2) dX1_ticksTillOn_2 rfl ?_
        refine e_sipush (pc := 3) (v := 1000) dX1_ticksTillOn_3 (by decide) ?_
        refine e_icmp_gt (pc := 6) (tgt := 67) dX1_ticksTillOn_6 (by decide) (fun hc_6 => ?_) (fun hc_6 => ?_)
        · exact absurd (show (1000 : Int32) < nI (g + 1) by assumption) (nI_nlt (a := 1000) (by omega) (by omega))
        · refine e_aload_n (pc := 9) dX1_ticksTillOn_9 rfl ?_
          refine e_self0i (pc := 10) dX1_ticksTillOn_10 cs_X1_ticksTillOn_49 cv_X1_passTick rc_X1_passTick rfl (by decide) (Nat.le_of_ble_eq_true rfl) hE1 ?_
          refine e_pop (pc := 13) dX1_ticksTillOn_13 ?_
          refine e_aload_n (pc := 14) dX1_ticksTillOn_14 rfl ?_
          refine e_getA (pc := 15) dX1_ticksTillOn_15 f_1_21 rfl rfl ?_
          refine e_getA (pc := 18) dX1_ticksTillOn_18 f_1_63 rfl rfl ?_
          refine e_iload_n (pc := 21) dX1_ticksTillOn_21 rfl ?_
          first | refine e_ialdN (pc := 22) dX1_ticksTillOn_22 rfl (by omega) (by decide) ?_ | refine e_iald (pc := 22) dX1_ticksTillOn_22 rfl (by assumption) ?_
          refine e_iconst (pc := 23) (v := 1) dX1_ticksTillOn_23 (by decide) ?_
          refine e_icmp_ne (pc := 24) (tgt := 29) dX1_ticksTillOn_24 (by decide) (fun hc_24 => ?_) (fun hc_24 => ?_)
          · exact absurd (x1.trans hs) (by assumption)
          · refine e_iload_n (pc := 27) dX1_ticksTillOn_27 rfl ?_
            refine r_iret (pc := 28) dX1_ticksTillOn_28 rfl ?_
            rw [hwl]
            unfold n_told
            rw [if_pos hs]
      · have hwl := hstep.trans (hst (by rw [hs]; decide))
        refine ⟨F1, ?_, hR1.2.2.2.2.2⟩
        refine e_iload_n (pc := 2) dX1_ticksTillOn_2 rfl ?_
        refine e_sipush (pc := 3) (v := 1000) dX1_ticksTillOn_3 (by decide) ?_
        refine e_icmp_gt (pc := 6) (tgt := 67) dX1_ticksTillOn_6 (by decide) (fun hc_6 => ?_) (fun hc_6 => ?_)
        · exact absurd (show (1000 : Int32) < nI (g + 1) by assumption) (nI_nlt (a := 1000) (by omega) (by omega))
        · refine e_aload_n (pc := 9) dX1_ticksTillOn_9 rfl ?_
          refine e_self0i (pc := 10) dX1_ticksTillOn_10 cs_X1_ticksTillOn_49 cv_X1_passTick rc_X1_passTick rfl (by decide) (Nat.le_of_ble_eq_true rfl) hE1 ?_
          refine e_pop (pc := 13) dX1_ticksTillOn_13 ?_
          refine e_aload_n (pc := 14) dX1_ticksTillOn_14 rfl ?_
          refine e_getA (pc := 15) dX1_ticksTillOn_15 f_1_21 rfl rfl ?_
          refine e_getA (pc := 18) dX1_ticksTillOn_18 f_1_63 rfl rfl ?_
          refine e_iload_n (pc := 21) dX1_ticksTillOn_21 rfl ?_
          first | refine e_ialdN (pc := 22) dX1_ticksTillOn_22 rfl (by omega) (by decide) ?_ | refine e_iald (pc := 22) dX1_ticksTillOn_22 rfl (by assumption) ?_
          refine e_iconst (pc := 23) (v := 1) dX1_ticksTillOn_23 (by decide) ?_
          refine e_icmp_ne (pc := 24) (tgt := 29) dX1_ticksTillOn_24 (by decide) (fun hc_24 => ?_) (fun hc_24 => ?_)
          · refine e_aload_n (pc := 29) dX1_ticksTillOn_29 rfl ?_
            refine e_getA (pc := 30) dX1_ticksTillOn_30 f_1_21 rfl rfl ?_
            refine e_getA (pc := 33) dX1_ticksTillOn_33 f_1_63 rfl rfl ?_
            refine e_iload_n (pc := 36) dX1_ticksTillOn_36 rfl ?_
            first | refine e_ialdN (pc := 37) dX1_ticksTillOn_37 rfl (by omega) (by decide) ?_ | refine e_iald (pc := 37) dX1_ticksTillOn_37 rfl (by assumption) ?_
            refine e_iconst (pc := 38) (v := 3) dX1_ticksTillOn_38 (by decide) ?_
            refine e_icmp_ne (pc := 39) (tgt := 45) dX1_ticksTillOn_39 (by decide) (fun hc_39 => ?_) (fun hc_39 => ?_)
            · exact absurd (x1.trans hs) (by assumption)
            · refine e_bipush (pc := 42) (v := (-8)) dX1_ticksTillOn_42 (by decide) ?_
              refine r_iret (pc := 44) dX1_ticksTillOn_44 rfl ?_
              rw [hwl]
              unfold n_told
              rw [if_neg (show ¬ n_go hn cn N 16 c = 1 by rw [hs]; decide), if_pos hs]
          · exact absurd ((show F1 11 c = 1 by assumption).symm.trans (x1.trans hs)) (by decide)
theorem ev_X1_till {hn cn tk : Nat} {F N : cr_M} {c : Nat} (hJ : n_J hn cn tk N) (ht : tk ≤ 20000) (hR : r_F hn cn F N) (hc : c < cn) (h0 : N 16 c = 0) : ∃ F', cr_EvM Y_X1_ticksTillOn [.inr (.inr 0), .inl (nI c)] F (some (.inl (n_told c (n_wl hn cn c 1000 0 N))), F') ∧ u_H hn (fun j => F' (1 + j)) := by
  obtain ⟨F', hE, hU⟩ := lp_X1_till ht hc 1000 0 F N (by omega) (by omega) hJ hR h0
  refine ⟨F', ?_, hU⟩
  unfold cr_EvM
  refine e_iconst (pc := 0) (v := 1) dX1_ticksTillOn_0 (by decide) ?_
  refine e_istore_n (pc := 1) dX1_ticksTillOn_1 (by decide) ?_
  exact e_wk hE ⟨rfl, rfl, rfl, trivial⟩
