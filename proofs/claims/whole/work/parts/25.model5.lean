set_option maxHeartbeats 1000000 in
theorem lp_X5_lossOf {N : cr_M} {x : Int32} {m : Nat} (hm : m ≤ 1000) (hok : f_ok x m) : ∀ (n j : Nat) (z : Int64), j + n = m → z = f_l x j → cr_Ev Y_X5_lossOf 7 [(4, .inl (nI (j + 1))), (0, .inl x), (1, .inl (nI m)), (2, .inr (.inl z))] [] N (some (.inl (f_l x m).toInt32), N) := by
  intro n
  induction n with
  | zero =>
    intro j z hj hz
    refine e_iload (pc := 7) dX5_lossOf_7 rfl ?_
    refine e_iload_n (pc := 9) dX5_lossOf_9 rfl ?_
    refine e_icmp_gt (pc := 10) (tgt := 45) dX5_lossOf_10 (by decide) (fun hc_10 => ?_) (fun hc_10 => ?_)
    · refine e_lload_n (pc := 45) dX5_lossOf_45 rfl ?_
      refine e_l2i (pc := 46) dX5_lossOf_46 ?_
      refine r_iret (pc := 47) dX5_lossOf_47 rfl ?_
      rw [hz, show j = m by omega]
    · exact absurd (show nI m < nI (j + 1) from nI_lt (by omega) (by omega)) (by assumption)
  | succ n ih =>
    intro j z hj hz
    refine e_iload (pc := 7) dX5_lossOf_7 rfl ?_
    refine e_iload_n (pc := 9) dX5_lossOf_9 rfl ?_
    refine e_icmp_gt (pc := 10) (tgt := 45) dX5_lossOf_10 (by decide) (fun hc_10 => ?_) (fun hc_10 => ?_)
    · exact absurd (by assumption) (nI_nlt (a := m) (b := j + 1) (by omega) (by omega))
    · refine e_iload_n (pc := 13) dX5_lossOf_13 rfl ?_
      refine e_i2l (pc := 14) dX5_lossOf_14 ?_
      refine e_lload_n (pc := 15) dX5_lossOf_15 rfl ?_
      refine e_lmul (pc := 16) dX5_lossOf_16 ?_
      refine e_ldc2 (pc := 17) (v := (1048576 : Int64)) dX5_lossOf_17 (cr_in (i := 866) (by decide +kernel) rfl) ?_
      refine e_lmul (pc := 20) dX5_lossOf_20 ?_
      refine e_ldc2 (pc := 21) (v := (100 : Int64)) dX5_lossOf_21 (cr_in (i := 867) (by decide +kernel) rfl) ?_
      refine e_iload (pc := 24) dX5_lossOf_24 rfl ?_
      refine e_i2l (pc := 26) dX5_lossOf_26 ?_
      refine e_lmul (pc := 27) dX5_lossOf_27 ?_
      refine e_ldc2 (pc := 28) (v := (1048576 : Int64)) dX5_lossOf_28 (cr_in (i := 866) (by decide +kernel) rfl) ?_
      refine e_lmul (pc := 31) dX5_lossOf_31 ?_
      refine e_iload_n (pc := 32) dX5_lossOf_32 rfl ?_
      refine e_i2l (pc := 33) dX5_lossOf_33 ?_
      refine e_lload_n (pc := 34) dX5_lossOf_34 rfl ?_
      refine e_lmul (pc := 35) dX5_lossOf_35 ?_
      refine e_ladd (pc := 36) dX5_lossOf_36 ?_
      have hne := hok j (by omega)
      rw [← hz] at hne
      refine e_ldiv (pc := 37) dX5_lossOf_37 (by assumption) ?_
      refine e_lstore_n (pc := 38) dX5_lossOf_38 (by decide) ?_
      first | refine e_iinc1 (pc := 39) dX5_lossOf_39 rfl (by decide) ?_ | refine e_iincp (pc := 39) dX5_lossOf_39 rfl (by decide) ?_
      refine e_goto (pc := 42) (tgt := 7) dX5_lossOf_42 (by decide) ?_
      exact e_wk (ih (j + 1) _ (by omega) (by subst hz; rfl)) ⟨rfl, rfl, rfl, rfl, trivial⟩
set_option maxHeartbeats 1000000 in
theorem ev_X5_lossOf (N : cr_M) {x : Int32} {m : Nat} (hm : m ≤ 1000) (hok : f_ok x m) : cr_EvM Y_X5_lossOf [.inl x, .inl (nI m)] N (some (.inl (f_l x m).toInt32), N) := by
  refine e_ldc2 (pc := 0) (v := (1048576 : Int64)) dX5_lossOf_0 (cr_in (i := 866) (by decide +kernel) rfl) ?_
  refine e_lstore_n (pc := 3) dX5_lossOf_3 (by decide) ?_
  refine e_iconst (pc := 4) (v := 1) dX5_lossOf_4 (by decide) ?_
  refine e_istore (pc := 5) dX5_lossOf_5 (by decide) ?_
  exact e_wk (lp_X5_lossOf hm hok m 0 _ (by omega) rfl) ⟨rfl, rfl, rfl, rfl, trivial⟩
set_option maxHeartbeats 1000000 in
theorem ev_X5_loss (N : cr_M) (ld x : Int32) : cr_EvM Y_X5_loss [.inr (.inr 0), .inl ld, .inl x] N (some (.inl (m_loss N ld x).1), (m_loss N ld x).2) := by
  refine e_iload_n (pc := 0) dX5_loss_0 rfl ?_
  refine e_if_lt (pc := 1) (tgt := 8) dX5_loss_1 (by decide) (fun hc_1 => ?_) (fun hc_1 => ?_)
  · refine e_aload_n (pc := 8) dX5_loss_8 rfl ?_
    refine e_bipush (pc := 9) (v := (-4)) dX5_loss_9 (by decide) ?_
    refine e_self1i (pc := 11) dX5_loss_11 cs_X5_loss_120 cv_X5_refuse rc_X5_refuse rfl (by decide) (Nat.le_of_ble_eq_true rfl) (ev_X5_refuse _ (k := 4) (by decide) (by decide)) ?_
    refine r_iret (pc := 14) dX5_loss_14 rfl ?_
    first | rfl | (unfold m_loss; repeat (first | rw [if_pos (by grind)] | rw [if_neg (by grind)]))
  · refine e_iload_n (pc := 4) dX5_loss_4 rfl ?_
    refine e_if_ge (pc := 5) (tgt := 15) dX5_loss_5 (by decide) (fun hc_5 => ?_) (fun hc_5 => ?_)
    · refine e_iload_n (pc := 15) dX5_loss_15 rfl ?_
      refine e_sipush (pc := 16) (v := 10000) dX5_loss_16 (by decide) ?_
      refine e_icmp_gt (pc := 19) (tgt := 29) dX5_loss_19 (by decide) (fun hc_19 => ?_) (fun hc_19 => ?_)
      · refine e_aload_n (pc := 29) dX5_loss_29 rfl ?_
        refine e_bipush (pc := 30) (v := (-6)) dX5_loss_30 (by decide) ?_
        refine e_self1i (pc := 32) dX5_loss_32 cs_X5_loss_120 cv_X5_refuse rc_X5_refuse rfl (by decide) (Nat.le_of_ble_eq_true rfl) (ev_X5_refuse _ (k := 6) (by decide) (by decide)) ?_
        refine e_goto (pc := 35) (tgt := 43) dX5_loss_35 (by decide) ?_
        refine r_iret (pc := 43) dX5_loss_43 rfl ?_
        first | rfl | (unfold m_loss; repeat (first | rw [if_pos (by grind)] | rw [if_neg (by grind)]))
      · refine e_iload_n (pc := 22) dX5_loss_22 rfl ?_
        refine e_sipush (pc := 23) (v := 200) dX5_loss_23 (by decide) ?_
        refine e_icmp_le (pc := 26) (tgt := 38) dX5_loss_26 (by decide) (fun hc_26 => ?_) (fun hc_26 => ?_)
        · obtain ⟨a, ha, rfl⟩ : ∃ a, a ≤ 10000 ∧ ld = nI a := by obtain ⟨a, q1, q2⟩ := nI_of2 (x := ld) (M := 10000) (n := 10000) (by decide) (by grind) (by grind); exact ⟨a, q1, q2⟩
          obtain ⟨b, hb, rfl⟩ : ∃ b, b ≤ 200 ∧ x = nI b := by obtain ⟨b, q1, q2⟩ := nI_of2 (x := x) (M := 200) (n := 200) (by decide) (by grind) (by grind); exact ⟨b, q1, q2⟩
          rw [show m_loss N (nI a) (nI b) = ((f_l (nI a) b).toInt32, N) by unfold m_loss; rw [if_neg (by grind), if_neg (by grind), nI_clamp (by omega)]]
          refine e_iload_n (pc := 38) dX5_loss_38 rfl ?_
          refine e_iload_n (pc := 39) dX5_loss_39 rfl ?_
          refine e_stat2i (pc := 40) dX5_loss_40 cs_X5_loss_207 st_X5_lossOf rfl (by decide) (Nat.le_of_ble_eq_true rfl) (ev_X5_lossOf _ (by omega) (f_ok_n ha (by omega))) ?_
          refine r_iret (pc := 43) dX5_loss_43 rfl ?_
          first | rfl | (unfold m_loss; repeat (first | rw [if_pos (by grind)] | rw [if_neg (by grind)]))
        · refine e_aload_n (pc := 29) dX5_loss_29 rfl ?_
          refine e_bipush (pc := 30) (v := (-6)) dX5_loss_30 (by decide) ?_
          refine e_self1i (pc := 32) dX5_loss_32 cs_X5_loss_120 cv_X5_refuse rc_X5_refuse rfl (by decide) (Nat.le_of_ble_eq_true rfl) (ev_X5_refuse _ (k := 6) (by decide) (by decide)) ?_
          refine e_goto (pc := 35) (tgt := 43) dX5_loss_35 (by decide) ?_
          refine r_iret (pc := 43) dX5_loss_43 rfl ?_
          first | rfl | (unfold m_loss; repeat (first | rw [if_pos (by grind)] | rw [if_neg (by grind)]))
    · refine e_aload_n (pc := 8) dX5_loss_8 rfl ?_
      refine e_bipush (pc := 9) (v := (-4)) dX5_loss_9 (by decide) ?_
      refine e_self1i (pc := 11) dX5_loss_11 cs_X5_loss_120 cv_X5_refuse rc_X5_refuse rfl (by decide) (Nat.le_of_ble_eq_true rfl) (ev_X5_refuse _ (k := 4) (by decide) (by decide)) ?_
      refine r_iret (pc := 14) dX5_loss_14 rfl ?_
      first | rfl | (unfold m_loss; repeat (first | rw [if_pos (by grind)] | rw [if_neg (by grind)]))
set_option maxHeartbeats 1000000 in
theorem lp_X5_wanted {N : cr_M} {a : Nat} {p : Int32} (ha : a ≤ 10000) : ∀ (n j : Nat), j + n = 201 → cr_Ev Y_X5_wanted 37 [(3, .inl (nI j)), (0, .inr (.inr 0)), (1, .inl (nI a)), (2, .inl p)] [] N (some (.inl (n_wa (nI a) p n j)), N) := by
  intro n
  induction n with
  | zero =>
    intro j hj
    refine e_iload_n (pc := 37) dX5_wanted_37 rfl ?_
    refine e_sipush (pc := 38) (v := 200) dX5_wanted_38 (by decide) ?_
    refine e_icmp_gt (pc := 41) (tgt := 61) dX5_wanted_41 (by decide) (fun hc_41 => ?_) (fun hc_41 => ?_)
    · refine e_bipush (pc := 61) (v := (-9)) dX5_wanted_61 (by decide) ?_
      refine r_iret (pc := 63) dX5_wanted_63 rfl ?_
      rfl
    · exact absurd (show (200 : Int32) < nI j from nI_lt (a := 200) (by omega) (by omega)) (by assumption)
  | succ n ih =>
    intro j hj
    refine e_iload_n (pc := 37) dX5_wanted_37 rfl ?_
    refine e_sipush (pc := 38) (v := 200) dX5_wanted_38 (by decide) ?_
    refine e_icmp_gt (pc := 41) (tgt := 61) dX5_wanted_41 (by decide) (fun hc_41 => ?_) (fun hc_41 => ?_)
    · exact absurd (show (200 : Int32) < nI j by assumption) (nI_nlt (a := 200) (by omega) (by omega))
    · refine e_iload_n (pc := 44) dX5_wanted_44 rfl ?_
      refine e_iload_n (pc := 45) dX5_wanted_45 rfl ?_
      refine e_stat2i (pc := 46) dX5_wanted_46 cs_X5_wanted_207 st_X5_lossOf rfl (by decide) (Nat.le_of_ble_eq_true rfl) (ev_X5_lossOf _ (by omega) (f_ok_n ha (by omega))) ?_
      refine e_iload_n (pc := 49) dX5_wanted_49 rfl ?_
      refine e_icmp_gt (pc := 50) (tgt := 55) dX5_wanted_50 (by decide) (fun hc_50 => ?_) (fun hc_50 => ?_)
      · first | refine e_iinc1 (pc := 55) dX5_wanted_55 rfl (by decide) ?_ | refine e_iincp (pc := 55) dX5_wanted_55 rfl (by decide) ?_
        refine e_goto (pc := 58) (tgt := 37) dX5_wanted_58 (by decide) ?_
        rw [show n_wa (nI a) p (n + 1) j = n_wa (nI a) p n (j + 1) by rw [n_wa, if_neg (by grind)]]
        exact e_wk (ih (j + 1) (by omega)) ⟨rfl, rfl, rfl, rfl, trivial⟩
      · refine e_iload_n (pc := 53) dX5_wanted_53 rfl ?_
        refine r_iret (pc := 54) dX5_wanted_54 rfl ?_
        rw [n_wa, if_pos (by grind)]
set_option maxHeartbeats 1000000 in
theorem ev_X5_wanted (N : cr_M) (ld p : Int32) : cr_EvM Y_X5_wanted [.inr (.inr 0), .inl ld, .inl p] N (some (.inl (m_wanted N ld p).1), (m_wanted N ld p).2) := by
  refine e_iload_n (pc := 0) dX5_wanted_0 rfl ?_
  refine e_if_lt (pc := 1) (tgt := 8) dX5_wanted_1 (by decide) (fun hc_1 => ?_) (fun hc_1 => ?_)
  · refine e_aload_n (pc := 8) dX5_wanted_8 rfl ?_
    refine e_bipush (pc := 9) (v := (-4)) dX5_wanted_9 (by decide) ?_
    refine e_self1i (pc := 11) dX5_wanted_11 cs_X5_wanted_120 cv_X5_refuse rc_X5_refuse rfl (by decide) (Nat.le_of_ble_eq_true rfl) (ev_X5_refuse _ (k := 4) (by decide) (by decide)) ?_
    refine r_iret (pc := 14) dX5_wanted_14 rfl ?_
    unfold m_wanted
    repeat (first | rw [if_pos (by grind)] | rw [if_neg (by grind)])
    try rfl
  · refine e_iload_n (pc := 4) dX5_wanted_4 rfl ?_
    refine e_if_ge (pc := 5) (tgt := 15) dX5_wanted_5 (by decide) (fun hc_5 => ?_) (fun hc_5 => ?_)
    · refine e_iload_n (pc := 15) dX5_wanted_15 rfl ?_
      refine e_sipush (pc := 16) (v := 10000) dX5_wanted_16 (by decide) ?_
      refine e_icmp_gt (pc := 19) (tgt := 28) dX5_wanted_19 (by decide) (fun hc_19 => ?_) (fun hc_19 => ?_)
      · refine e_aload_n (pc := 28) dX5_wanted_28 rfl ?_
        refine e_bipush (pc := 29) (v := (-6)) dX5_wanted_29 (by decide) ?_
        refine e_self1i (pc := 31) dX5_wanted_31 cs_X5_wanted_120 cv_X5_refuse rc_X5_refuse rfl (by decide) (Nat.le_of_ble_eq_true rfl) (ev_X5_refuse _ (k := 6) (by decide) (by decide)) ?_
        refine r_iret (pc := 34) dX5_wanted_34 rfl ?_
        unfold m_wanted
        repeat (first | rw [if_pos (by grind)] | rw [if_neg (by grind)])
        try rfl
      · refine e_iload_n (pc := 22) dX5_wanted_22 rfl ?_
        refine e_ldc (pc := 23) (v := (1048576 : Int32)) dX5_wanted_23 (cr_in (i := 872) (by decide +kernel) rfl) ?_
        refine e_icmp_le (pc := 25) (tgt := 35) dX5_wanted_25 (by decide) (fun hc_25 => ?_) (fun hc_25 => ?_)
        · refine e_iconst (pc := 35) (v := 0) dX5_wanted_35 (by decide) ?_
          refine e_istore_n (pc := 36) dX5_wanted_36 (by decide) ?_
          obtain ⟨a, ha, rfl⟩ : ∃ a, a ≤ 10000 ∧ ld = nI a := by obtain ⟨a, q1, q2⟩ := nI_of2 (x := ld) (M := 10000) (n := 10000) (by decide) (by grind) (by grind); exact ⟨a, q1, q2⟩
          rw [show m_wanted N (nI a) p = (n_wa (nI a) p 201 0, N) by unfold m_wanted; rw [if_neg (by grind), if_neg (by grind)]]
          exact e_wk (lp_X5_wanted ha 201 0 (by omega)) ⟨rfl, rfl, rfl, rfl, trivial⟩
        · refine e_aload_n (pc := 28) dX5_wanted_28 rfl ?_
          refine e_bipush (pc := 29) (v := (-6)) dX5_wanted_29 (by decide) ?_
          refine e_self1i (pc := 31) dX5_wanted_31 cs_X5_wanted_120 cv_X5_refuse rc_X5_refuse rfl (by decide) (Nat.le_of_ble_eq_true rfl) (ev_X5_refuse _ (k := 6) (by decide) (by decide)) ?_
          refine r_iret (pc := 34) dX5_wanted_34 rfl ?_
          unfold m_wanted
          repeat (first | rw [if_pos (by grind)] | rw [if_neg (by grind)])
          try rfl
    · refine e_aload_n (pc := 8) dX5_wanted_8 rfl ?_
      refine e_bipush (pc := 9) (v := (-4)) dX5_wanted_9 (by decide) ?_
      refine e_self1i (pc := 11) dX5_wanted_11 cs_X5_wanted_120 cv_X5_refuse rc_X5_refuse rfl (by decide) (Nat.le_of_ble_eq_true rfl) (ev_X5_refuse _ (k := 4) (by decide) (by decide)) ?_
      refine r_iret (pc := 14) dX5_wanted_14 rfl ?_
      unfold m_wanted
      repeat (first | rw [if_pos (by grind)] | rw [if_neg (by grind)])
      try rfl
set_option maxHeartbeats 1000000 in
theorem lp_X5_ticks {hn cn tk m : Nat} {N : cr_M} (hJ : n_J hn cn tk N) (hm : tk + m ≤ 21000) : ∀ (n j : Nat) (z : Int32) (Mc : cr_M), j + n = m → (Mc = n_ti hn cn N j) → (z = n_td hn cn N j) → cr_Ev Y_X5_ticks 35 [(3, .inl (nI j)), (0, .inr (.inr 0)), (1, .inl (nI m)), (2, .inl z)] [] Mc (some (.inl (n_td hn cn N m)), n_ti hn cn N m) := by
  intro n
  induction n with
  | zero =>
    intro j z Mc hj hM hz
    subst hM
    refine e_iload_n (pc := 35) dX5_ticks_35 rfl ?_
    refine e_iload_n (pc := 36) dX5_ticks_36 rfl ?_
    refine e_icmp_ge (pc := 37) (tgt := 53) dX5_ticks_37 (by decide) (fun hc_37 => ?_) (fun hc_37 => ?_)
    · refine e_iload_n (pc := 53) dX5_ticks_53 rfl ?_
      refine r_iret (pc := 54) dX5_ticks_54 rfl ?_
      rw [hz, show j = m by omega]
    · exact absurd (show nI m ≤ nI j by exact nI_le (by omega) (by omega)) (by assumption)
  | succ n ih =>
    intro j z Mc hj hM hz
    subst hM
    refine e_iload_n (pc := 35) dX5_ticks_35 rfl ?_
    refine e_iload_n (pc := 36) dX5_ticks_36 rfl ?_
    refine e_icmp_ge (pc := 37) (tgt := 53) dX5_ticks_37 (by decide) (fun hc_37 => ?_) (fun hc_37 => ?_)
    · exact absurd (show nI m ≤ nI j by assumption) (by exact nI_ge (by omega) (by omega))
    · refine e_iload_n (pc := 40) dX5_ticks_40 rfl ?_
      refine e_aload_n (pc := 41) dX5_ticks_41 rfl ?_
      refine e_self0i (pc := 42) dX5_ticks_42 cs_X5_ticks_188 cv_X5_goesOn rc_X5_goesOn rfl (by decide) (Nat.le_of_ble_eq_true rfl) (ev_X5_goesOn (n_J_ti hJ j (by omega)).1 (n_I_ON (n_J_ti hJ j (by omega)))) ?_
      refine e_iadd (pc := 45) dX5_ticks_45 ?_
      refine e_istore_n (pc := 46) dX5_ticks_46 (by decide) ?_
      first | refine e_iinc1 (pc := 47) dX5_ticks_47 rfl (by decide) ?_ | refine e_iincp (pc := 47) dX5_ticks_47 rfl (by decide) ?_
      refine e_goto (pc := 50) (tgt := 35) dX5_ticks_50 (by decide) ?_
      exact e_wk (ih (j + 1) _ _ (by omega) rfl (by rw [n_td, hz])) ⟨rfl, rfl, rfl, rfl, trivial⟩
set_option maxHeartbeats 1000000 in
theorem ev_X5_ticks {hn cn tk : Nat} {N : cr_M} (x : Int32) (hJ : n_J hn cn tk N) (ht : tk ≤ 20000) : cr_EvM Y_X5_ticks [.inr (.inr 0), .inl x] N (some (.inl (m_ticks hn cn N x).1), (m_ticks hn cn N x).2) := by
  refine e_iload_n (pc := 0) dX5_ticks_0 rfl ?_
  refine e_iconst (pc := 1) (v := 1) dX5_ticks_1 (by decide) ?_
  refine e_icmp_ge (pc := 2) (tgt := 12) dX5_ticks_2 (by decide) (fun hc_2 => ?_) (fun hc_2 => ?_)
  · refine e_iload_n (pc := 12) dX5_ticks_12 rfl ?_
    refine e_sipush (pc := 13) (v := 20000) dX5_ticks_13 (by decide) ?_
    refine e_aload_n (pc := 16) dX5_ticks_16 rfl ?_
    refine e_getI (pc := 17) dX5_ticks_17 f_5_127 rfl rfl ?_
    refine e_isub (pc := 20) dX5_ticks_20 ?_
    refine e_icmp_le (pc := 21) (tgt := 31) dX5_ticks_21 (by decide) (fun hc_21 => ?_) (fun hc_21 => ?_)
    · refine e_iconst (pc := 31) (v := 0) dX5_ticks_31 (by decide) ?_
      refine e_istore_n (pc := 32) dX5_ticks_32 (by decide) ?_
      refine e_iconst (pc := 33) (v := 0) dX5_ticks_33 (by decide) ?_
      refine e_istore_n (pc := 34) dX5_ticks_34 (by decide) ?_
      have h3 := hJ.2.1
      rw [h3, show (20000 : Int32) = nI 20000 from rfl, pk_sub ht] at hc_21
      obtain ⟨m, hm, rfl⟩ := nI_of2 (x := x) (M := nI (20000 - tk)) (n := 20000 - tk) (by rw [nI_toInt (by omega)]) (by grind) hc_21
      rw [show m_ticks hn cn N (nI m) = (n_td hn cn N m, n_ti hn cn N m) by unfold m_ticks; rw [if_neg (by grind), h3, show (20000 : Int32) = nI 20000 from rfl, pk_sub ht, if_neg (by grind), nI_clamp (by omega)]]
      exact e_wk (lp_X5_ticks hJ (by omega) m 0 _ _ (by omega) rfl rfl) ⟨rfl, rfl, rfl, rfl, trivial⟩
    · refine e_aload_n (pc := 24) dX5_ticks_24 rfl ?_
      refine e_bipush (pc := 25) (v := (-6)) dX5_ticks_25 (by decide) ?_
      refine e_self1i (pc := 27) dX5_ticks_27 cs_X5_ticks_120 cv_X5_refuse rc_X5_refuse rfl (by decide) (Nat.le_of_ble_eq_true rfl) (ev_X5_refuse _ (k := 6) (by decide) (by decide)) ?_
      refine r_iret (pc := 30) dX5_ticks_30 rfl ?_
      unfold m_ticks
      repeat (first | rw [if_pos (by grind)] | rw [if_neg (by grind)])
      try rfl
  · refine e_aload_n (pc := 5) dX5_ticks_5 rfl ?_
    refine e_bipush (pc := 6) (v := (-4)) dX5_ticks_6 (by decide) ?_
    refine e_self1i (pc := 8) dX5_ticks_8 cs_X5_ticks_120 cv_X5_refuse rc_X5_refuse rfl (by decide) (Nat.le_of_ble_eq_true rfl) (ev_X5_refuse _ (k := 4) (by decide) (by decide)) ?_
    refine r_iret (pc := 11) dX5_ticks_11 rfl ?_
    unfold m_ticks
    repeat (first | rw [if_pos (by grind)] | rw [if_neg (by grind)])
    try rfl
set_option maxHeartbeats 1000000 in
theorem lp_X5_wait {hn cn tk c : Nat} (ht : tk ≤ 20000) (hc : c < cn) : ∀ (n j : Nat) (Mc : cr_M), j + n = 1000 → n_J hn cn (tk + j) Mc → (∀ i, i < hn → Mc 25 i = 0 ∨ Mc 25 i = 1) → cr_Ev Y_X5_wait 39 [(2, .inl (nI j)), (0, .inr (.inr 0)), (1, .inl (nI c))] [] Mc (some (.inl (n_told c (n_wl hn cn c n j Mc))), n_putb hn cn (n_wl hn cn c n j Mc).2) := by
  intro n
  induction n with
  | zero =>
    intro j Mc hj hJ hB
    have h200 := hJ.1.2.1
    show cr_Ev Y_X5_wait 39 [(2, .inl (nI j)), (0, .inr (.inr 0)), (1, .inl (nI c))] [] Mc (some (.inl (n_told c (j, Mc))), n_putb hn cn Mc)
    refine e_iload_n (pc := 39) dX5_wait_39 rfl ?_
    refine e_sipush (pc := 40) (v := 1000) dX5_wait_40 (by decide) ?_
    refine e_icmp_ge (pc := 43) (tgt := 66) dX5_wait_43 (by decide) (fun hc_43 => ?_) (fun hc_43 => ?_)
    · refine e_aload_n (pc := 66) dX5_wait_66 rfl ?_
      refine e_getA (pc := 67) dX5_wait_67 f_5_59 rfl rfl ?_
      refine e_iload_n (pc := 70) dX5_wait_70 rfl ?_
      first | refine e_ialdN (pc := 71) dX5_wait_71 rfl (by omega) (by decide) ?_ | refine e_iald (pc := 71) dX5_wait_71 rfl (by assumption) ?_
      refine e_iconst (pc := 72) (v := 1) dX5_wait_72 (by decide) ?_
      refine e_icmp_ne (pc := 73) (tgt := 80) dX5_wait_73 (by decide) (fun hc_73 => ?_) (fun hc_73 => ?_)
      · refine e_aload_n (pc := 80) dX5_wait_80 rfl ?_
        refine e_getA (pc := 81) dX5_wait_81 f_5_59 rfl rfl ?_
        refine e_iload_n (pc := 84) dX5_wait_84 rfl ?_
        first | refine e_ialdN (pc := 85) dX5_wait_85 rfl (by omega) (by decide) ?_ | refine e_iald (pc := 85) dX5_wait_85 rfl (by assumption) ?_
        refine e_iconst (pc := 86) (v := 3) dX5_wait_86 (by decide) ?_
        refine e_icmp_ne (pc := 87) (tgt := 95) dX5_wait_87 (by decide) (fun hc_87 => ?_) (fun hc_87 => ?_)
        · refine e_bipush (pc := 95) (v := (-9)) dX5_wait_95 (by decide) ?_
          refine e_istore_n (pc := 97) dX5_wait_97 (by decide) ?_
          refine e_aload_n (pc := 98) dX5_wait_98 rfl ?_
          refine e_self0v (pc := 99) dX5_wait_99 cs_X5_wait_197 cv_X5_putBack rc_X5_putBack rfl (by decide) (Nat.le_of_ble_eq_true rfl) (ev_X5_putBack hJ.1 hB) ?_
          refine e_iload_n (pc := 102) dX5_wait_102 rfl ?_
          refine r_iret (pc := 103) dX5_wait_103 rfl ?_
          unfold n_told
          first | (rw [if_pos (by assumption)]; done) | (rw [if_neg (by assumption), if_pos (by assumption)]; done) | (rw [if_neg (by assumption), if_neg (by assumption)]; done)
        · refine e_bipush (pc := 90) (v := (-8)) dX5_wait_90 (by decide) ?_
          refine e_goto (pc := 92) (tgt := 97) dX5_wait_92 (by decide) ?_
          refine e_istore_n (pc := 97) dX5_wait_97 (by decide) ?_
          refine e_aload_n (pc := 98) dX5_wait_98 rfl ?_
          refine e_self0v (pc := 99) dX5_wait_99 cs_X5_wait_197 cv_X5_putBack rc_X5_putBack rfl (by decide) (Nat.le_of_ble_eq_true rfl) (ev_X5_putBack hJ.1 hB) ?_
          refine e_iload_n (pc := 102) dX5_wait_102 rfl ?_
          refine r_iret (pc := 103) dX5_wait_103 rfl ?_
          unfold n_told
          first | (rw [if_pos (by assumption)]; done) | (rw [if_neg (by assumption), if_pos (by assumption)]; done) | (rw [if_neg (by assumption), if_neg (by assumption)]; done)
      · refine e_iload_n (pc := 76) dX5_wait_76 rfl ?_
        refine e_goto (pc := 77) (tgt := 97) dX5_wait_77 (by decide) ?_
        refine e_istore_n (pc := 97) dX5_wait_97 (by decide) ?_
        refine e_aload_n (pc := 98) dX5_wait_98 rfl ?_
        refine e_self0v (pc := 99) dX5_wait_99 cs_X5_wait_197 cv_X5_putBack rc_X5_putBack rfl (by decide) (Nat.le_of_ble_eq_true rfl) (ev_X5_putBack hJ.1 hB) ?_
        refine e_iload_n (pc := 102) dX5_wait_102 rfl ?_
        refine r_iret (pc := 103) dX5_wait_103 rfl ?_
        unfold n_told
        first | (rw [if_pos (by assumption)]; done) | (rw [if_neg (by assumption), if_pos (by assumption)]; done) | (rw [if_neg (by assumption), if_neg (by assumption)]; done)
    · exact absurd (show (1000 : Int32) ≤ nI j from nI_le (a := 1000) (by omega) (by omega)) (by assumption)
  | succ n ih =>
    intro j Mc hj hJ hB
    have h200 := hJ.1.2.1
    refine e_iload_n (pc := 39) dX5_wait_39 rfl ?_
    refine e_sipush (pc := 40) (v := 1000) dX5_wait_40 (by decide) ?_
    refine e_icmp_ge (pc := 43) (tgt := 66) dX5_wait_43 (by decide) (fun hc_43 => ?_) (fun hc_43 => ?_)
    · refine e_aload_n (pc := 66) dX5_wait_66 rfl ?_
      refine e_getA (pc := 67) dX5_wait_67 f_5_59 rfl rfl ?_
      refine e_iload_n (pc := 70) dX5_wait_70 rfl ?_
      first | refine e_ialdN (pc := 71) dX5_wait_71 rfl (by omega) (by decide) ?_ | refine e_iald (pc := 71) dX5_wait_71 rfl (by assumption) ?_
      refine e_iconst (pc := 72) (v := 1) dX5_wait_72 (by decide) ?_
      refine e_icmp_ne (pc := 73) (tgt := 80) dX5_wait_73 (by decide) (fun hc_73 => ?_) (fun hc_73 => ?_)
      · refine e_aload_n (pc := 80) dX5_wait_80 rfl ?_
        refine e_getA (pc := 81) dX5_wait_81 f_5_59 rfl rfl ?_
        refine e_iload_n (pc := 84) dX5_wait_84 rfl ?_
        first | refine e_ialdN (pc := 85) dX5_wait_85 rfl (by omega) (by decide) ?_ | refine e_iald (pc := 85) dX5_wait_85 rfl (by assumption) ?_
        refine e_iconst (pc := 86) (v := 3) dX5_wait_86 (by decide) ?_
        refine e_icmp_ne (pc := 87) (tgt := 95) dX5_wait_87 (by decide) (fun hc_87 => ?_) (fun hc_87 => ?_)
        · refine e_bipush (pc := 95) (v := (-9)) dX5_wait_95 (by decide) ?_
          refine e_istore_n (pc := 97) dX5_wait_97 (by decide) ?_
          refine e_aload_n (pc := 98) dX5_wait_98 rfl ?_
          refine e_self0v (pc := 99) dX5_wait_99 cs_X5_wait_197 cv_X5_putBack rc_X5_putBack rfl (by decide) (Nat.le_of_ble_eq_true rfl) (ev_X5_putBack hJ.1 hB) ?_
          refine e_iload_n (pc := 102) dX5_wait_102 rfl ?_
          refine r_iret (pc := 103) dX5_wait_103 rfl ?_
          rw [show n_wl hn cn c (n + 1) j Mc = (j, Mc) by rw [n_wl, if_neg (by first | assumption | (exfalso; exact absurd (show (1000 : Int32) ≤ nI j by assumption) (nI_ge (b := 1000) (by omega) (by omega))))]]
          unfold n_told
          first | (rw [if_pos (by assumption)]; done) | (rw [if_neg (by assumption), if_pos (by assumption)]; done) | (rw [if_neg (by assumption), if_neg (by assumption)]; done)
        · refine e_bipush (pc := 90) (v := (-8)) dX5_wait_90 (by decide) ?_
          refine e_goto (pc := 92) (tgt := 97) dX5_wait_92 (by decide) ?_
          refine e_istore_n (pc := 97) dX5_wait_97 (by decide) ?_
          refine e_aload_n (pc := 98) dX5_wait_98 rfl ?_
          refine e_self0v (pc := 99) dX5_wait_99 cs_X5_wait_197 cv_X5_putBack rc_X5_putBack rfl (by decide) (Nat.le_of_ble_eq_true rfl) (ev_X5_putBack hJ.1 hB) ?_
          refine e_iload_n (pc := 102) dX5_wait_102 rfl ?_
          refine r_iret (pc := 103) dX5_wait_103 rfl ?_
          rw [show n_wl hn cn c (n + 1) j Mc = (j, Mc) by rw [n_wl, if_neg (by first | assumption | (exfalso; exact absurd (show (1000 : Int32) ≤ nI j by assumption) (nI_ge (b := 1000) (by omega) (by omega))))]]
          unfold n_told
          first | (rw [if_pos (by assumption)]; done) | (rw [if_neg (by assumption), if_pos (by assumption)]; done) | (rw [if_neg (by assumption), if_neg (by assumption)]; done)
      · refine e_iload_n (pc := 76) dX5_wait_76 rfl ?_
        refine e_goto (pc := 77) (tgt := 97) dX5_wait_77 (by decide) ?_
        refine e_istore_n (pc := 97) dX5_wait_97 (by decide) ?_
        refine e_aload_n (pc := 98) dX5_wait_98 rfl ?_
        refine e_self0v (pc := 99) dX5_wait_99 cs_X5_wait_197 cv_X5_putBack rc_X5_putBack rfl (by decide) (Nat.le_of_ble_eq_true rfl) (ev_X5_putBack hJ.1 hB) ?_
        refine e_iload_n (pc := 102) dX5_wait_102 rfl ?_
        refine r_iret (pc := 103) dX5_wait_103 rfl ?_
        rw [show n_wl hn cn c (n + 1) j Mc = (j, Mc) by rw [n_wl, if_neg (by first | assumption | (exfalso; exact absurd (show (1000 : Int32) ≤ nI j by assumption) (nI_ge (b := 1000) (by omega) (by omega))))]]
        unfold n_told
        first | (rw [if_pos (by assumption)]; done) | (rw [if_neg (by assumption), if_pos (by assumption)]; done) | (rw [if_neg (by assumption), if_neg (by assumption)]; done)
    · refine e_aload_n (pc := 46) dX5_wait_46 rfl ?_
      refine e_getA (pc := 47) dX5_wait_47 f_5_59 rfl rfl ?_
      refine e_iload_n (pc := 50) dX5_wait_50 rfl ?_
      first | refine e_ialdN (pc := 51) dX5_wait_51 rfl (by omega) (by decide) ?_ | refine e_iald (pc := 51) dX5_wait_51 rfl (by assumption) ?_
      refine e_if_ne (pc := 52) (tgt := 66) dX5_wait_52 (by decide) (fun hc_52 => ?_) (fun hc_52 => ?_)
      · refine e_aload_n (pc := 66) dX5_wait_66 rfl ?_
        refine e_getA (pc := 67) dX5_wait_67 f_5_59 rfl rfl ?_
        refine e_iload_n (pc := 70) dX5_wait_70 rfl ?_
        first | refine e_ialdN (pc := 71) dX5_wait_71 rfl (by omega) (by decide) ?_ | refine e_iald (pc := 71) dX5_wait_71 rfl (by assumption) ?_
        refine e_iconst (pc := 72) (v := 1) dX5_wait_72 (by decide) ?_
        refine e_icmp_ne (pc := 73) (tgt := 80) dX5_wait_73 (by decide) (fun hc_73 => ?_) (fun hc_73 => ?_)
        · refine e_aload_n (pc := 80) dX5_wait_80 rfl ?_
          refine e_getA (pc := 81) dX5_wait_81 f_5_59 rfl rfl ?_
          refine e_iload_n (pc := 84) dX5_wait_84 rfl ?_
          first | refine e_ialdN (pc := 85) dX5_wait_85 rfl (by omega) (by decide) ?_ | refine e_iald (pc := 85) dX5_wait_85 rfl (by assumption) ?_
          refine e_iconst (pc := 86) (v := 3) dX5_wait_86 (by decide) ?_
          refine e_icmp_ne (pc := 87) (tgt := 95) dX5_wait_87 (by decide) (fun hc_87 => ?_) (fun hc_87 => ?_)
          · refine e_bipush (pc := 95) (v := (-9)) dX5_wait_95 (by decide) ?_
            refine e_istore_n (pc := 97) dX5_wait_97 (by decide) ?_
            refine e_aload_n (pc := 98) dX5_wait_98 rfl ?_
            refine e_self0v (pc := 99) dX5_wait_99 cs_X5_wait_197 cv_X5_putBack rc_X5_putBack rfl (by decide) (Nat.le_of_ble_eq_true rfl) (ev_X5_putBack hJ.1 hB) ?_
            refine e_iload_n (pc := 102) dX5_wait_102 rfl ?_
            refine r_iret (pc := 103) dX5_wait_103 rfl ?_
            rw [show n_wl hn cn c (n + 1) j Mc = (j, Mc) by rw [n_wl, if_neg (by first | assumption | (exfalso; exact absurd (show (1000 : Int32) ≤ nI j by assumption) (nI_ge (b := 1000) (by omega) (by omega))))]]
            unfold n_told
            first | (rw [if_pos (by assumption)]; done) | (rw [if_neg (by assumption), if_pos (by assumption)]; done) | (rw [if_neg (by assumption), if_neg (by assumption)]; done)
          · refine e_bipush (pc := 90) (v := (-8)) dX5_wait_90 (by decide) ?_
            refine e_goto (pc := 92) (tgt := 97) dX5_wait_92 (by decide) ?_
            refine e_istore_n (pc := 97) dX5_wait_97 (by decide) ?_
            refine e_aload_n (pc := 98) dX5_wait_98 rfl ?_
            refine e_self0v (pc := 99) dX5_wait_99 cs_X5_wait_197 cv_X5_putBack rc_X5_putBack rfl (by decide) (Nat.le_of_ble_eq_true rfl) (ev_X5_putBack hJ.1 hB) ?_
            refine e_iload_n (pc := 102) dX5_wait_102 rfl ?_
            refine r_iret (pc := 103) dX5_wait_103 rfl ?_
            rw [show n_wl hn cn c (n + 1) j Mc = (j, Mc) by rw [n_wl, if_neg (by first | assumption | (exfalso; exact absurd (show (1000 : Int32) ≤ nI j by assumption) (nI_ge (b := 1000) (by omega) (by omega))))]]
            unfold n_told
            first | (rw [if_pos (by assumption)]; done) | (rw [if_neg (by assumption), if_pos (by assumption)]; done) | (rw [if_neg (by assumption), if_neg (by assumption)]; done)
        · refine e_iload_n (pc := 76) dX5_wait_76 rfl ?_
          refine e_goto (pc := 77) (tgt := 97) dX5_wait_77 (by decide) ?_
          refine e_istore_n (pc := 97) dX5_wait_97 (by decide) ?_
          refine e_aload_n (pc := 98) dX5_wait_98 rfl ?_
          refine e_self0v (pc := 99) dX5_wait_99 cs_X5_wait_197 cv_X5_putBack rc_X5_putBack rfl (by decide) (Nat.le_of_ble_eq_true rfl) (ev_X5_putBack hJ.1 hB) ?_
          refine e_iload_n (pc := 102) dX5_wait_102 rfl ?_
          refine r_iret (pc := 103) dX5_wait_103 rfl ?_
          rw [show n_wl hn cn c (n + 1) j Mc = (j, Mc) by rw [n_wl, if_neg (by first | assumption | (exfalso; exact absurd (show (1000 : Int32) ≤ nI j by assumption) (nI_ge (b := 1000) (by omega) (by omega))))]]
          unfold n_told
          first | (rw [if_pos (by assumption)]; done) | (rw [if_neg (by assumption), if_pos (by assumption)]; done) | (rw [if_neg (by assumption), if_neg (by assumption)]; done)
      · refine e_aload_n (pc := 55) dX5_wait_55 rfl ?_
        refine e_self0i (pc := 56) dX5_wait_56 cs_X5_wait_188 cv_X5_goesOn rc_X5_goesOn rfl (by decide) (Nat.le_of_ble_eq_true rfl) (ev_X5_goesOn hJ.1 (n_I_ON hJ)) ?_
        refine e_istore_n (pc := 59) dX5_wait_59 (by decide) ?_
        first | refine e_iinc1 (pc := 60) dX5_wait_60 rfl (by decide) ?_ | refine e_iincp (pc := 60) dX5_wait_60 rfl (by decide) ?_
        refine e_goto (pc := 63) (tgt := 39) dX5_wait_63 (by decide) ?_
        rw [show n_wl hn cn c (n + 1) j Mc = n_wl hn cn c n (j + 1) (n_go hn cn Mc) by rw [n_wl, if_pos hc_52]]
        exact e_wk (ih (j + 1) _ (by omega) (by have := n_J_go (by omega) hJ; rw [show tk + j + 1 = tk + (j + 1) by omega] at this; exact this) (fun i hi => by rw [n_go_fr (by simp [n_ch]) (by simp)]; exact hB i hi)) ⟨rfl, rfl, rfl, trivial⟩
set_option maxHeartbeats 1000000 in
theorem ev_X5_wait {hn cn tk c : Nat} {N : cr_M} (hJ : n_J hn cn tk N) (ht : tk ≤ 20000) (hk : c < cn) : cr_EvM Y_X5_wait [.inr (.inr 0), .inl (nI c)] N (some (.inl (m_wait hn cn N c).1), (m_wait hn cn N c).2) := by
  have h200 := hJ.1.2.1
  have hsz := hJ.1.2.2.2.1
  refine e_iload_n (pc := 0) dX5_wait_0 rfl ?_
  refine e_aload_n (pc := 1) dX5_wait_1 rfl ?_
  refine e_getI (pc := 2) dX5_wait_2 f_5_142 rfl rfl ?_
  refine e_stat2i (pc := 5) dX5_wait_5 cs_X5_wait_130 st_X5_isIn rfl (by decide) (Nat.le_of_ble_eq_true rfl) (ev_X5_isIn _ _ _) ?_
  refine e_if_ne (pc := 8) (tgt := 17) dX5_wait_8 (by decide) (fun hc_8 => ?_) (fun hc_8 => ?_)
  · refine e_aload_n (pc := 17) dX5_wait_17 rfl ?_
    refine e_getA (pc := 18) dX5_wait_18 f_5_59 rfl rfl ?_
    refine e_iload_n (pc := 21) dX5_wait_21 rfl ?_
    first | refine e_ialdN (pc := 22) dX5_wait_22 rfl (by omega) (by decide) ?_ | refine e_iald (pc := 22) dX5_wait_22 rfl (by assumption) ?_
    refine e_if_eq (pc := 23) (tgt := 33) dX5_wait_23 (by decide) (fun hc_23 => ?_) (fun hc_23 => ?_)
    · refine e_aload_n (pc := 33) dX5_wait_33 rfl ?_
      refine e_self0v (pc := 34) dX5_wait_34 cs_X5_wait_194 cv_X5_keep rc_X5_keep rfl (by decide) (Nat.le_of_ble_eq_true rfl) (ev_X5_keep hJ.1 (n_J_B hJ)) ?_
      refine e_iconst (pc := 37) (v := 0) dX5_wait_37 (by decide) ?_
      refine e_istore_n (pc := 38) dX5_wait_38 (by decide) ?_
      rw [show m_wait hn cn N c = (n_told c (n_wl hn cn c 1000 0 (n_keep hn cn N)), n_putb hn cn (n_wl hn cn c 1000 0 (n_keep hn cn N)).2) from if_pos hc_23]
      exact e_wk (lp_X5_wait ht hk 1000 0 _ (by omega) (n_J_keep hJ) (fun i hi => by rw [n_keep_25 hi]; exact n_J_B hJ i hi)) ⟨rfl, rfl, rfl, trivial⟩
    · refine e_aload_n (pc := 26) dX5_wait_26 rfl ?_
      refine e_bipush (pc := 27) (v := (-2)) dX5_wait_27 (by decide) ?_
      refine e_self1i (pc := 29) dX5_wait_29 cs_X5_wait_120 cv_X5_refuse rc_X5_refuse rfl (by decide) (Nat.le_of_ble_eq_true rfl) (ev_X5_refuse _ (k := 2) (by decide) (by decide)) ?_
      refine r_iret (pc := 32) dX5_wait_32 rfl ?_
      unfold m_wait
      repeat (first | rw [if_pos (by grind)] | rw [if_neg (by grind)])
      try rfl
  · exact absurd hc_8 (by rw [bI_t (by rw [hsz]; exact cr_ix_in hk (by omega))]; decide)
set_option maxHeartbeats 1000000 in
theorem ev_X5_wait_n (N : cr_M) {cn : Nat} (h : Int32) (hsz : N 0 5 = nI cn) (hh : ¬ (0 ≤ h ∧ h < nI cn)) : cr_EvM Y_X5_wait [.inr (.inr 0), .inl h] N (some (.inl (-1)), n_ref N 1) := by
  refine e_iload_n (pc := 0) dX5_wait_0 rfl ?_
  refine e_aload_n (pc := 1) dX5_wait_1 rfl ?_
  refine e_getI (pc := 2) dX5_wait_2 f_5_142 rfl rfl ?_
  refine e_stat2i (pc := 5) dX5_wait_5 cs_X5_wait_130 st_X5_isIn rfl (by decide) (Nat.le_of_ble_eq_true rfl) (ev_X5_isIn _ _ _) ?_
  refine e_if_ne (pc := 8) (tgt := 17) dX5_wait_8 (by decide) (fun hc_8 => ?_) (fun hc_8 => ?_)
  · exact absurd (bI_f (by rw [hsz]; exact hh)) hc_8
  · refine e_aload_n (pc := 11) dX5_wait_11 rfl ?_
    refine e_iconst (pc := 12) (v := (-1)) dX5_wait_12 (by decide) ?_
    refine e_self1i (pc := 13) dX5_wait_13 cs_X5_wait_120 cv_X5_refuse rc_X5_refuse rfl (by decide) (Nat.le_of_ble_eq_true rfl) (ev_X5_refuse _ (k := 1) (by decide) (by decide)) ?_
    refine r_iret (pc := 16) dX5_wait_16 rfl ?_
    rfl
set_option maxHeartbeats 1000000 in
theorem ev_X5_whoOf {hn cn tk c : Nat} {N : cr_M} (hJ : n_J hn cn tk N) (hk : c < cn) : cr_EvM Y_X5_whoOf [.inr (.inr 0), .inl (nI c)] N (some (.inl (n_gv hn cn cn (n_keep hn cn N) 18 c)), n_wM hn cn N) := by
  have h200 := hJ.1.2.1
  refine e_aload_n (pc := 0) dX5_whoOf_0 rfl ?_
  refine e_self0v (pc := 1) dX5_whoOf_1 cs_X5_whoOf_194 cv_X5_keep rc_X5_keep rfl (by decide) (Nat.le_of_ble_eq_true rfl) (ev_X5_keep hJ.1 (n_J_B hJ)) ?_
  refine e_aload_n (pc := 4) dX5_whoOf_4 rfl ?_
  refine e_self0v (pc := 5) dX5_whoOf_5 cs_X5_whoOf_185 cv_X5_give rc_X5_give rfl (by decide) (Nat.le_of_ble_eq_true rfl) (ev_X5_give (n_J_keep hJ).1) ?_
  refine e_aload_n (pc := 8) dX5_whoOf_8 rfl ?_
  refine e_getA (pc := 9) dX5_whoOf_9 f_5_65 rfl rfl ?_
  refine e_iload_n (pc := 12) dX5_whoOf_12 rfl ?_
  first | refine e_ialdN (pc := 13) dX5_whoOf_13 rfl (by omega) (by decide) ?_ | refine e_iald (pc := 13) dX5_whoOf_13 rfl (by assumption) ?_
  refine e_istore_n (pc := 14) dX5_whoOf_14 (by decide) ?_
  refine e_aload_n (pc := 15) dX5_whoOf_15 rfl ?_
  refine e_self0v (pc := 16) dX5_whoOf_16 cs_X5_whoOf_197 cv_X5_putBack rc_X5_putBack rfl (by decide) (Nat.le_of_ble_eq_true rfl) (ev_X5_putBack (n_I_gv cn _ (n_J_keep hJ)).1 (fun i hi => by rw [n_gv_fr (by simp [n_ch]), n_keep_25 hi]; exact n_J_B hJ i hi)) ?_
  refine e_iload_n (pc := 19) dX5_whoOf_19 rfl ?_
  refine r_iret (pc := 20) dX5_whoOf_20 rfl ?_
  rfl
set_option maxHeartbeats 1000000 in
theorem ev_X5_who {hn cn tk c : Nat} {N : cr_M} (hJ : n_J hn cn tk N) (hk : c < cn) : cr_EvM Y_X5_who [.inr (.inr 0), .inl (nI c)] N (some (.inl (m_who hn cn N c).1), (m_who hn cn N c).2) := by
  have h200 := hJ.1.2.1
  have hsz := hJ.1.2.2.2.1
  refine e_iload_n (pc := 0) dX5_who_0 rfl ?_
  refine e_aload_n (pc := 1) dX5_who_1 rfl ?_
  refine e_getI (pc := 2) dX5_who_2 f_5_142 rfl rfl ?_
  refine e_stat2i (pc := 5) dX5_who_5 cs_X5_who_130 st_X5_isIn rfl (by decide) (Nat.le_of_ble_eq_true rfl) (ev_X5_isIn _ _ _) ?_
  refine e_if_ne (pc := 8) (tgt := 17) dX5_who_8 (by decide) (fun hc_8 => ?_) (fun hc_8 => ?_)
  · refine e_aload_n (pc := 17) dX5_who_17 rfl ?_
    refine e_getA (pc := 18) dX5_who_18 f_5_59 rfl rfl ?_
    refine e_iload_n (pc := 21) dX5_who_21 rfl ?_
    first | refine e_ialdN (pc := 22) dX5_who_22 rfl (by omega) (by decide) ?_ | refine e_iald (pc := 22) dX5_who_22 rfl (by assumption) ?_
    refine e_if_ne (pc := 23) (tgt := 34) dX5_who_23 (by decide) (fun hc_23 => ?_) (fun hc_23 => ?_)
    · refine e_aload_n (pc := 34) dX5_who_34 rfl ?_
      refine e_bipush (pc := 35) (v := (-2)) dX5_who_35 (by decide) ?_
      refine e_self1i (pc := 37) dX5_who_37 cs_X5_who_120 cv_X5_refuse rc_X5_refuse rfl (by decide) (Nat.le_of_ble_eq_true rfl) (ev_X5_refuse _ (k := 2) (by decide) (by decide)) ?_
      refine r_iret (pc := 40) dX5_who_40 rfl ?_
      unfold m_who
      repeat (first | rw [if_pos (by grind)] | rw [if_neg (by grind)])
      try rfl
    · refine e_aload_n (pc := 26) dX5_who_26 rfl ?_
      refine e_iload_n (pc := 27) dX5_who_27 rfl ?_
      refine e_self1i (pc := 28) dX5_who_28 cs_X5_who_200 cv_X5_whoOf rc_X5_whoOf rfl (by decide) (Nat.le_of_ble_eq_true rfl) (ev_X5_whoOf hJ hk) ?_
      refine e_goto (pc := 31) (tgt := 40) dX5_who_31 (by decide) ?_
      refine r_iret (pc := 40) dX5_who_40 rfl ?_
      unfold m_who
      repeat (first | rw [if_pos (by grind)] | rw [if_neg (by grind)])
      try rfl
  · exact absurd hc_8 (by rw [bI_t (by rw [hsz]; exact cr_ix_in hk (by omega))]; decide)
set_option maxHeartbeats 1000000 in
theorem ev_X5_who_n (N : cr_M) {cn : Nat} (h : Int32) (hsz : N 0 5 = nI cn) (hh : ¬ (0 ≤ h ∧ h < nI cn)) : cr_EvM Y_X5_who [.inr (.inr 0), .inl h] N (some (.inl (-1)), n_ref N 1) := by
  refine e_iload_n (pc := 0) dX5_who_0 rfl ?_
  refine e_aload_n (pc := 1) dX5_who_1 rfl ?_
  refine e_getI (pc := 2) dX5_who_2 f_5_142 rfl rfl ?_
  refine e_stat2i (pc := 5) dX5_who_5 cs_X5_who_130 st_X5_isIn rfl (by decide) (Nat.le_of_ble_eq_true rfl) (ev_X5_isIn _ _ _) ?_
  refine e_if_ne (pc := 8) (tgt := 17) dX5_who_8 (by decide) (fun hc_8 => ?_) (fun hc_8 => ?_)
  · exact absurd (bI_f (by rw [hsz]; exact hh)) hc_8
  · refine e_aload_n (pc := 11) dX5_who_11 rfl ?_
    refine e_iconst (pc := 12) (v := (-1)) dX5_who_12 (by decide) ?_
    refine e_self1i (pc := 13) dX5_who_13 cs_X5_who_120 cv_X5_refuse rc_X5_refuse rfl (by decide) (Nat.le_of_ble_eq_true rfl) (ev_X5_refuse _ (k := 1) (by decide) (by decide)) ?_
    refine r_iret (pc := 16) dX5_who_16 rfl ?_
    rfl
set_option maxHeartbeats 1000000 in
theorem ev_X5_why_n (N : cr_M) {cn : Nat} (h : Int32) (hsz : N 0 5 = nI cn) (hh : ¬ (0 ≤ h ∧ h < nI cn)) : cr_EvM Y_X5_why [.inr (.inr 0), .inl h] N (some (.inl (-1)), n_ref N 1) := by
  refine e_iload_n (pc := 0) dX5_why_0 rfl ?_
  refine e_aload_n (pc := 1) dX5_why_1 rfl ?_
  refine e_getI (pc := 2) dX5_why_2 f_5_142 rfl rfl ?_
  refine e_stat2i (pc := 5) dX5_why_5 cs_X5_why_130 st_X5_isIn rfl (by decide) (Nat.le_of_ble_eq_true rfl) (ev_X5_isIn _ _ _) ?_
  refine e_if_ne (pc := 8) (tgt := 17) dX5_why_8 (by decide) (fun hc_8 => ?_) (fun hc_8 => ?_)
  · exact absurd (bI_f (by rw [hsz]; exact hh)) hc_8
  · refine e_aload_n (pc := 11) dX5_why_11 rfl ?_
    refine e_iconst (pc := 12) (v := (-1)) dX5_why_12 (by decide) ?_
    refine e_self1i (pc := 13) dX5_why_13 cs_X5_why_120 cv_X5_refuse rc_X5_refuse rfl (by decide) (Nat.le_of_ble_eq_true rfl) (ev_X5_refuse _ (k := 1) (by decide) (by decide)) ?_
    refine r_iret (pc := 16) dX5_why_16 rfl ?_
    rfl
set_option maxHeartbeats 1000000 in
theorem lp_X5_helperOf {cn : Nat} {N : cr_M} {x : Int32} (hsz2 : N 0 5 = nI cn) (h200 : cn ≤ 200) : ∀ (n j : Nat), j + n = cn → cr_Ev Y_X5_helperOf 76 [(3, .inl (nI j)), (0, .inr (.inr 0)), (1, .inl x)] [] N (some (.inl (n_fw N x n j)), N) := by
  intro n
  induction n with
  | zero =>
    intro j hj 
    refine e_iload_n (pc := 76) dX5_helperOf_76 rfl ?_
    refine e_aload_n (pc := 77) dX5_helperOf_77 rfl ?_
    refine e_getI (pc := 78) dX5_helperOf_78 f_5_142 rfl rfl ?_
    refine e_icmp_ge (pc := 81) (tgt := 112) dX5_helperOf_81 (by decide) (fun hc_81 => ?_) (fun hc_81 => ?_)
    · refine e_bipush (pc := 112) (v := (-9)) dX5_helperOf_112 (by decide) ?_
      refine r_iret (pc := 114) dX5_helperOf_114 rfl ?_
      rfl
    · exact absurd (show N 0 5 ≤ nI j by rw [hsz2]; exact nI_le (by omega) (by omega)) (by assumption)
  | succ n ih =>
    intro j hj 
    refine e_iload_n (pc := 76) dX5_helperOf_76 rfl ?_
    refine e_aload_n (pc := 77) dX5_helperOf_77 rfl ?_
    refine e_getI (pc := 78) dX5_helperOf_78 f_5_142 rfl rfl ?_
    refine e_icmp_ge (pc := 81) (tgt := 112) dX5_helperOf_81 (by decide) (fun hc_81 => ?_) (fun hc_81 => ?_)
    · exact absurd (show N 0 5 ≤ nI j by assumption) (by rw [hsz2]; exact nI_ge (by omega) (by omega))
    · refine e_aload_n (pc := 84) dX5_helperOf_84 rfl ?_
      refine e_getA (pc := 85) dX5_helperOf_85 f_5_59 rfl rfl ?_
      refine e_iload_n (pc := 88) dX5_helperOf_88 rfl ?_
      first | refine e_ialdN (pc := 89) dX5_helperOf_89 rfl (by omega) (by decide) ?_ | refine e_iald (pc := 89) dX5_helperOf_89 rfl (by assumption) ?_
      refine e_iconst (pc := 90) (v := 1) dX5_helperOf_90 (by decide) ?_
      refine e_icmp_ne (pc := 91) (tgt := 106) dX5_helperOf_91 (by decide) (fun hc_91 => ?_) (fun hc_91 => ?_)
      · first | refine e_iinc1 (pc := 106) dX5_helperOf_106 rfl (by decide) ?_ | refine e_iincp (pc := 106) dX5_helperOf_106 rfl (by decide) ?_
        refine e_goto (pc := 109) (tgt := 76) dX5_helperOf_109 (by decide) ?_
        rw [show n_fw N x (n + 1) j = n_fw N x n (j + 1) by simp only [n_fw]; grind]
        exact e_wk (ih (j + 1) (by omega)) ⟨rfl, rfl, rfl, trivial⟩
      · refine e_aload_n (pc := 94) dX5_helperOf_94 rfl ?_
        refine e_getA (pc := 95) dX5_helperOf_95 f_5_65 rfl rfl ?_
        refine e_iload_n (pc := 98) dX5_helperOf_98 rfl ?_
        first | refine e_ialdN (pc := 99) dX5_helperOf_99 rfl (by omega) (by decide) ?_ | refine e_iald (pc := 99) dX5_helperOf_99 rfl (by assumption) ?_
        refine e_iload_n (pc := 100) dX5_helperOf_100 rfl ?_
        refine e_icmp_ne (pc := 101) (tgt := 106) dX5_helperOf_101 (by decide) (fun hc_101 => ?_) (fun hc_101 => ?_)
        · first | refine e_iinc1 (pc := 106) dX5_helperOf_106 rfl (by decide) ?_ | refine e_iincp (pc := 106) dX5_helperOf_106 rfl (by decide) ?_
          refine e_goto (pc := 109) (tgt := 76) dX5_helperOf_109 (by decide) ?_
          rw [show n_fw N x (n + 1) j = n_fw N x n (j + 1) by simp only [n_fw]; grind]
          exact e_wk (ih (j + 1) (by omega)) ⟨rfl, rfl, rfl, trivial⟩
        · refine e_iload_n (pc := 104) dX5_helperOf_104 rfl ?_
          refine r_iret (pc := 105) dX5_helperOf_105 rfl ?_
          exact rt_i (by simp only [n_fw]; grind)
set_option maxHeartbeats 1000000 in
theorem ev_X5_helperOf {hn cn : Nat} {N : cr_M} {k : Nat} (w : Int32) (hsz : N 0 4 = nI hn) (hsz2 : N 0 5 = nI cn) (h10 : hn ≤ 10) (h200 : cn ≤ 200) (hk : k < hn) : cr_EvM Y_X5_helperOf [.inr (.inr 0), .inl (nI k), .inl w] N (some (.inl (m_hof cn N k w)), N) := by
  refine e_iload_n (pc := 0) dX5_helperOf_0 rfl ?_
  refine e_aload_n (pc := 1) dX5_helperOf_1 rfl ?_
  refine e_getI (pc := 2) dX5_helperOf_2 f_5_124 rfl rfl ?_
  refine e_stat2i (pc := 5) dX5_helperOf_5 cs_X5_helperOf_130 st_X5_isIn rfl (by decide) (Nat.le_of_ble_eq_true rfl) (ev_X5_isIn _ _ _) ?_
  refine e_if_ne (pc := 8) (tgt := 17) dX5_helperOf_8 (by decide) (fun hc_8 => ?_) (fun hc_8 => ?_)
  · refine e_iload_n (pc := 17) dX5_helperOf_17 rfl ?_
    refine e_tsw1 (pc := 18) 0 dX5_helperOf_18 (by decide) (by decide) (off := 42) (tgt := 60) rfl (by decide) (fun hs_18_0 => ?_) (fun hs_18_0 => ?_)
    · refine e_aload_n (pc := 60) dX5_helperOf_60 rfl ?_
      refine e_getA (pc := 61) dX5_helperOf_61 f_5_26 rfl rfl ?_
      refine e_iload_n (pc := 64) dX5_helperOf_64 rfl ?_
      first | refine e_ialdN (pc := 65) dX5_helperOf_65 rfl (by omega) (by decide) ?_ | refine e_iald (pc := 65) dX5_helperOf_65 rfl (by assumption) ?_
      refine r_iret (pc := 66) dX5_helperOf_66 rfl ?_
      exact rt_i (by unfold m_hof; grind)
    refine e_tsw1 (pc := 18) 1 dX5_helperOf_18 (by decide) (by decide) (off := 49) (tgt := 67) rfl (by decide) (fun hs_18_1 => ?_) (fun hs_18_1 => ?_)
    · refine e_aload_n (pc := 67) dX5_helperOf_67 rfl ?_
      refine e_getA (pc := 68) dX5_helperOf_68 f_5_77 rfl rfl ?_
      refine e_iload_n (pc := 71) dX5_helperOf_71 rfl ?_
      first | refine e_ialdN (pc := 72) dX5_helperOf_72 rfl (by omega) (by decide) ?_ | refine e_iald (pc := 72) dX5_helperOf_72 rfl (by assumption) ?_
      refine r_iret (pc := 73) dX5_helperOf_73 rfl ?_
      exact rt_i (by unfold m_hof; grind)
    refine e_tsw1 (pc := 18) 2 dX5_helperOf_18 (by decide) (by decide) (off := 56) (tgt := 74) rfl (by decide) (fun hs_18_2 => ?_) (fun hs_18_2 => ?_)
    · refine e_iconst (pc := 74) (v := 0) dX5_helperOf_74 (by decide) ?_
      refine e_istore_n (pc := 75) dX5_helperOf_75 (by decide) ?_
      rw [show m_hof cn N k w = n_fw N (nI k) cn 0 by unfold m_hof; rw [if_neg (by grind), if_neg (by grind), if_pos (by grind)]]
      exact e_wk (lp_X5_helperOf hsz2 h200 cn 0 (by omega)) ⟨rfl, rfl, rfl, trivial⟩
    refine e_tsw1 (pc := 18) 3 dX5_helperOf_18 (by decide) (by decide) (off := 97) (tgt := 115) rfl (by decide) (fun hs_18_3 => ?_) (fun hs_18_3 => ?_)
    · refine e_aload_n (pc := 115) dX5_helperOf_115 rfl ?_
      refine e_getA (pc := 116) dX5_helperOf_116 f_5_29 rfl rfl ?_
      refine e_iload_n (pc := 119) dX5_helperOf_119 rfl ?_
      first | refine e_ialdN (pc := 120) dX5_helperOf_120 rfl (by omega) (by decide) ?_ | refine e_iald (pc := 120) dX5_helperOf_120 rfl (by assumption) ?_
      refine r_iret (pc := 121) dX5_helperOf_121 rfl ?_
      exact rt_i (by unfold m_hof; grind)
    refine e_tsw1 (pc := 18) 4 dX5_helperOf_18 (by decide) (by decide) (off := 104) (tgt := 122) rfl (by decide) (fun hs_18_4 => ?_) (fun hs_18_4 => ?_)
    · refine e_aload_n (pc := 122) dX5_helperOf_122 rfl ?_
      refine e_getA (pc := 123) dX5_helperOf_123 f_5_35 rfl rfl ?_
      refine e_iload_n (pc := 126) dX5_helperOf_126 rfl ?_
      first | refine e_ialdN (pc := 127) dX5_helperOf_127 rfl (by omega) (by decide) ?_ | refine e_iald (pc := 127) dX5_helperOf_127 rfl (by assumption) ?_
      refine r_iret (pc := 128) dX5_helperOf_128 rfl ?_
      exact rt_i (by unfold m_hof; grind)
    refine e_tsw1 (pc := 18) 5 dX5_helperOf_18 (by decide) (by decide) (off := 111) (tgt := 129) rfl (by decide) (fun hs_18_5 => ?_) (fun hs_18_5 => ?_)
    · refine e_aload_n (pc := 129) dX5_helperOf_129 rfl ?_
      refine e_getA (pc := 130) dX5_helperOf_130 f_5_38 rfl rfl ?_
      refine e_iload_n (pc := 133) dX5_helperOf_133 rfl ?_
      first | refine e_ialdN (pc := 134) dX5_helperOf_134 rfl (by omega) (by decide) ?_ | refine e_iald (pc := 134) dX5_helperOf_134 rfl (by assumption) ?_
      refine r_iret (pc := 135) dX5_helperOf_135 rfl ?_
      exact rt_i (by unfold m_hof; grind)
    refine e_tsw1 (pc := 18) 6 dX5_helperOf_18 (by decide) (by decide) (off := 118) (tgt := 136) rfl (by decide) (fun hs_18_6 => ?_) (fun hs_18_6 => ?_)
    · refine e_aload_n (pc := 136) dX5_helperOf_136 rfl ?_
      refine e_getA (pc := 137) dX5_helperOf_137 f_5_26 rfl rfl ?_
      refine e_iload_n (pc := 140) dX5_helperOf_140 rfl ?_
      first | refine e_ialdN (pc := 141) dX5_helperOf_141 rfl (by omega) (by decide) ?_ | refine e_iald (pc := 141) dX5_helperOf_141 rfl (by assumption) ?_
      refine e_iconst (pc := 142) (v := 3) dX5_helperOf_142 (by decide) ?_
      refine e_icmp_ne (pc := 143) (tgt := 155) dX5_helperOf_143 (by decide) (fun hc_143 => ?_) (fun hc_143 => ?_)
      · refine e_bipush (pc := 155) (v := (-9)) dX5_helperOf_155 (by decide) ?_
        refine r_iret (pc := 157) dX5_helperOf_157 rfl ?_
        exact rt_i (by unfold m_hof; grind)
      · refine e_aload_n (pc := 146) dX5_helperOf_146 rfl ?_
        refine e_getA (pc := 147) dX5_helperOf_147 f_5_32 rfl rfl ?_
        refine e_iload_n (pc := 150) dX5_helperOf_150 rfl ?_
        first | refine e_ialdN (pc := 151) dX5_helperOf_151 rfl (by omega) (by decide) ?_ | refine e_iald (pc := 151) dX5_helperOf_151 rfl (by assumption) ?_
        refine e_goto (pc := 152) (tgt := 157) dX5_helperOf_152 (by decide) ?_
        refine r_iret (pc := 157) dX5_helperOf_157 rfl ?_
        exact rt_i (by unfold m_hof; grind)
    refine e_tswO (pc := 18) (tgt := 158) dX5_helperOf_18 (by have q0 := lv_neT hs_18_0 (a := 0) rfl; have q1 := lv_neT hs_18_1 (a := 1) rfl; have q2 := lv_neT hs_18_2 (a := 2) rfl; have q3 := lv_neT hs_18_3 (a := 3) rfl; have q4 := lv_neT hs_18_4 (a := 4) rfl; have q5 := lv_neT hs_18_5 (a := 5) rfl; have q6 := lv_neT hs_18_6 (a := 6) rfl; omega) (by decide) ?_
    refine e_iload_n (pc := 158) dX5_helperOf_158 rfl ?_
    refine e_bipush (pc := 159) (v := 9) dX5_helperOf_159 (by decide) ?_
    refine e_icmp_le (pc := 161) (tgt := 182) dX5_helperOf_161 (by decide) (fun hc_161 => ?_) (fun hc_161 => ?_)
    · refine e_bipush (pc := 182) (v := (-9)) dX5_helperOf_182 (by decide) ?_
      refine r_iret (pc := 184) dX5_helperOf_184 rfl ?_
      exact rt_i (by unfold m_hof; first | (rw [if_neg (by assumption), if_neg (by assumption), if_neg (by assumption), if_neg (by assumption), if_neg (by assumption), if_neg (by assumption), if_neg (by assumption), if_pos (by grind), show nI t - 10 = nI (t - 10) from pk_sub (b := 10) (by omega), nI_clamp (by omega)]; done) | grind)
    · refine e_iload_n (pc := 164) dX5_helperOf_164 rfl ?_
      refine e_bipush (pc := 165) (v := 14) dX5_helperOf_165 (by decide) ?_
      refine e_icmp_ge (pc := 167) (tgt := 182) dX5_helperOf_167 (by decide) (fun hc_167 => ?_) (fun hc_167 => ?_)
      · refine e_bipush (pc := 182) (v := (-9)) dX5_helperOf_182 (by decide) ?_
        refine r_iret (pc := 184) dX5_helperOf_184 rfl ?_
        exact rt_i (by unfold m_hof; first | (rw [if_neg (by assumption), if_neg (by assumption), if_neg (by assumption), if_neg (by assumption), if_neg (by assumption), if_neg (by assumption), if_neg (by assumption), if_pos (by grind), show nI t - 10 = nI (t - 10) from pk_sub (b := 10) (by omega), nI_clamp (by omega)]; done) | grind)
      · refine e_aload_n (pc := 170) dX5_helperOf_170 rfl ?_
        refine e_iload_n (pc := 171) dX5_helperOf_171 rfl ?_
        refine e_iload_n (pc := 172) dX5_helperOf_172 rfl ?_
        refine e_bipush (pc := 173) (v := 10) dX5_helperOf_173 (by decide) ?_
        refine e_isub (pc := 175) dX5_helperOf_175 ?_
        obtain ⟨t, ht1, ht2, rfl⟩ := w_in (w := w) (a := 9) (b := 14) (by decide) (by decide) (show (9 : Int32) < w by grind) (show w < (14 : Int32) by grind)
        rw [show nI t - 10 = nI (t - 10) from pk_sub (b := 10) (by omega)]
        refine e_self2i (pc := 176) dX5_helperOf_176 cs_X5_helperOf_134 cv_X5_gradeOf rc_X5_gradeOf rfl (by decide) (Nat.le_of_ble_eq_true rfl) (ev_X5_gradeOf _ (by omega) (by omega)) ?_
        refine e_goto (pc := 179) (tgt := 184) dX5_helperOf_179 (by decide) ?_
        refine r_iret (pc := 184) dX5_helperOf_184 rfl ?_
        exact rt_i (by unfold m_hof; first | (rw [if_neg (by assumption), if_neg (by assumption), if_neg (by assumption), if_neg (by assumption), if_neg (by assumption), if_neg (by assumption), if_neg (by assumption), if_pos (by grind), show nI t - 10 = nI (t - 10) from pk_sub (b := 10) (by omega), nI_clamp (by omega)]; done) | grind)
  · exact absurd hc_8 (by rw [bI_t (by rw [hsz]; exact cr_ix_in hk (by omega))]; decide)
set_option maxHeartbeats 1000000 in
theorem ev_X5_helperOf_n (N : cr_M) {hn : Nat} (h n : Int32) (hsz : N 0 4 = nI hn) (hh : ¬ (0 ≤ h ∧ h < nI hn)) : cr_EvM Y_X5_helperOf [.inr (.inr 0), .inl h, .inl n] N (some (.inl (-1)), n_ref N 1) := by
  refine e_iload_n (pc := 0) dX5_helperOf_0 rfl ?_
  refine e_aload_n (pc := 1) dX5_helperOf_1 rfl ?_
  refine e_getI (pc := 2) dX5_helperOf_2 f_5_124 rfl rfl ?_
  refine e_stat2i (pc := 5) dX5_helperOf_5 cs_X5_helperOf_130 st_X5_isIn rfl (by decide) (Nat.le_of_ble_eq_true rfl) (ev_X5_isIn _ _ _) ?_
  refine e_if_ne (pc := 8) (tgt := 17) dX5_helperOf_8 (by decide) (fun hc_8 => ?_) (fun hc_8 => ?_)
  · exact absurd (bI_f (by rw [hsz]; exact hh)) hc_8
  · refine e_aload_n (pc := 11) dX5_helperOf_11 rfl ?_
    refine e_iconst (pc := 12) (v := (-1)) dX5_helperOf_12 (by decide) ?_
    refine e_self1i (pc := 13) dX5_helperOf_13 cs_X5_helperOf_120 cv_X5_refuse rc_X5_refuse rfl (by decide) (Nat.le_of_ble_eq_true rfl) (ev_X5_refuse _ (k := 1) (by decide) (by decide)) ?_
    refine r_iret (pc := 16) dX5_helperOf_16 rfl ?_
    rfl
set_option maxHeartbeats 1000000 in
theorem ev_X5_callOf {cn : Nat} {N : cr_M} {c : Nat} (w : Int32) (hsz : N 0 5 = nI cn) (h200 : cn ≤ 200) (hk : c < cn) : cr_EvM Y_X5_callOf [.inr (.inr 0), .inl (nI c), .inl w] N (some (.inl (m_cof N c w)), N) := by
  refine e_iload_n (pc := 0) dX5_callOf_0 rfl ?_
  refine e_aload_n (pc := 1) dX5_callOf_1 rfl ?_
  refine e_getI (pc := 2) dX5_callOf_2 f_5_142 rfl rfl ?_
  refine e_stat2i (pc := 5) dX5_callOf_5 cs_X5_callOf_130 st_X5_isIn rfl (by decide) (Nat.le_of_ble_eq_true rfl) (ev_X5_isIn _ _ _) ?_
  refine e_if_ne (pc := 8) (tgt := 17) dX5_callOf_8 (by decide) (fun hc_8 => ?_) (fun hc_8 => ?_)
  · refine e_iload_n (pc := 17) dX5_callOf_17 rfl ?_
    refine e_tsw1 (pc := 18) 0 dX5_callOf_18 (by decide) (by decide) (off := 54) (tgt := 72) rfl (by decide) (fun hs_18_0 => ?_) (fun hs_18_0 => ?_)
    · refine e_aload_n (pc := 72) dX5_callOf_72 rfl ?_
      refine e_getA (pc := 73) dX5_callOf_73 f_5_59 rfl rfl ?_
      refine e_iload_n (pc := 76) dX5_callOf_76 rfl ?_
      first | refine e_ialdN (pc := 77) dX5_callOf_77 rfl (by omega) (by decide) ?_ | refine e_iald (pc := 77) dX5_callOf_77 rfl (by assumption) ?_
      refine r_iret (pc := 78) dX5_callOf_78 rfl ?_
      exact rt_i (by unfold m_cof; grind (splits := 20))
    refine e_tsw1 (pc := 18) 1 dX5_callOf_18 (by decide) (by decide) (off := 61) (tgt := 79) rfl (by decide) (fun hs_18_1 => ?_) (fun hs_18_1 => ?_)
    · refine e_aload_n (pc := 79) dX5_callOf_79 rfl ?_
      refine e_getA (pc := 80) dX5_callOf_80 f_5_41 rfl rfl ?_
      refine e_iload_n (pc := 83) dX5_callOf_83 rfl ?_
      first | refine e_ialdN (pc := 84) dX5_callOf_84 rfl (by omega) (by decide) ?_ | refine e_iald (pc := 84) dX5_callOf_84 rfl (by assumption) ?_
      refine r_iret (pc := 85) dX5_callOf_85 rfl ?_
      exact rt_i (by unfold m_cof; grind (splits := 20))
    refine e_tsw1 (pc := 18) 2 dX5_callOf_18 (by decide) (by decide) (off := 68) (tgt := 86) rfl (by decide) (fun hs_18_2 => ?_) (fun hs_18_2 => ?_)
    · refine e_aload_n (pc := 86) dX5_callOf_86 rfl ?_
      refine e_getA (pc := 87) dX5_callOf_87 f_5_44 rfl rfl ?_
      refine e_iload_n (pc := 90) dX5_callOf_90 rfl ?_
      first | refine e_ialdN (pc := 91) dX5_callOf_91 rfl (by omega) (by decide) ?_ | refine e_iald (pc := 91) dX5_callOf_91 rfl (by assumption) ?_
      refine r_iret (pc := 92) dX5_callOf_92 rfl ?_
      exact rt_i (by unfold m_cof; grind (splits := 20))
    refine e_tsw1 (pc := 18) 3 dX5_callOf_18 (by decide) (by decide) (off := 75) (tgt := 93) rfl (by decide) (fun hs_18_3 => ?_) (fun hs_18_3 => ?_)
    · refine e_aload_n (pc := 93) dX5_callOf_93 rfl ?_
      refine e_getA (pc := 94) dX5_callOf_94 f_5_47 rfl rfl ?_
      refine e_iload_n (pc := 97) dX5_callOf_97 rfl ?_
      first | refine e_ialdN (pc := 98) dX5_callOf_98 rfl (by omega) (by decide) ?_ | refine e_iald (pc := 98) dX5_callOf_98 rfl (by assumption) ?_
      refine r_iret (pc := 99) dX5_callOf_99 rfl ?_
      exact rt_i (by unfold m_cof; grind (splits := 20))
    refine e_tsw1 (pc := 18) 4 dX5_callOf_18 (by decide) (by decide) (off := 82) (tgt := 100) rfl (by decide) (fun hs_18_4 => ?_) (fun hs_18_4 => ?_)
    · refine e_aload_n (pc := 100) dX5_callOf_100 rfl ?_
      refine e_getA (pc := 101) dX5_callOf_101 f_5_50 rfl rfl ?_
      refine e_iload_n (pc := 104) dX5_callOf_104 rfl ?_
      first | refine e_ialdN (pc := 105) dX5_callOf_105 rfl (by omega) (by decide) ?_ | refine e_iald (pc := 105) dX5_callOf_105 rfl (by assumption) ?_
      refine r_iret (pc := 106) dX5_callOf_106 rfl ?_
      exact rt_i (by unfold m_cof; grind (splits := 20))
    refine e_tsw1 (pc := 18) 5 dX5_callOf_18 (by decide) (by decide) (off := 89) (tgt := 107) rfl (by decide) (fun hs_18_5 => ?_) (fun hs_18_5 => ?_)
    · refine e_aload_n (pc := 107) dX5_callOf_107 rfl ?_
      refine e_getA (pc := 108) dX5_callOf_108 f_5_53 rfl rfl ?_
      refine e_iload_n (pc := 111) dX5_callOf_111 rfl ?_
      first | refine e_ialdN (pc := 112) dX5_callOf_112 rfl (by omega) (by decide) ?_ | refine e_iald (pc := 112) dX5_callOf_112 rfl (by assumption) ?_
      refine r_iret (pc := 113) dX5_callOf_113 rfl ?_
      exact rt_i (by unfold m_cof; grind (splits := 20))
    refine e_tsw1 (pc := 18) 6 dX5_callOf_18 (by decide) (by decide) (off := 96) (tgt := 114) rfl (by decide) (fun hs_18_6 => ?_) (fun hs_18_6 => ?_)
    · refine e_aload_n (pc := 114) dX5_callOf_114 rfl ?_
      refine e_getA (pc := 115) dX5_callOf_115 f_5_59 rfl rfl ?_
      refine e_iload_n (pc := 118) dX5_callOf_118 rfl ?_
      first | refine e_ialdN (pc := 119) dX5_callOf_119 rfl (by omega) (by decide) ?_ | refine e_iald (pc := 119) dX5_callOf_119 rfl (by assumption) ?_
      refine e_iconst (pc := 120) (v := 1) dX5_callOf_120 (by decide) ?_
      refine e_icmp_eq (pc := 121) (tgt := 134) dX5_callOf_121 (by decide) (fun hc_121 => ?_) (fun hc_121 => ?_)
      · refine e_aload_n (pc := 134) dX5_callOf_134 rfl ?_
        refine e_getA (pc := 135) dX5_callOf_135 f_5_65 rfl rfl ?_
        refine e_iload_n (pc := 138) dX5_callOf_138 rfl ?_
        first | refine e_ialdN (pc := 139) dX5_callOf_139 rfl (by omega) (by decide) ?_ | refine e_iald (pc := 139) dX5_callOf_139 rfl (by assumption) ?_
        refine e_goto (pc := 140) (tgt := 145) dX5_callOf_140 (by decide) ?_
        refine r_iret (pc := 145) dX5_callOf_145 rfl ?_
        exact rt_i (by unfold m_cof; grind (splits := 20))
      · refine e_aload_n (pc := 124) dX5_callOf_124 rfl ?_
        refine e_getA (pc := 125) dX5_callOf_125 f_5_59 rfl rfl ?_
        refine e_iload_n (pc := 128) dX5_callOf_128 rfl ?_
        first | refine e_ialdN (pc := 129) dX5_callOf_129 rfl (by omega) (by decide) ?_ | refine e_iald (pc := 129) dX5_callOf_129 rfl (by assumption) ?_
        refine e_iconst (pc := 130) (v := 2) dX5_callOf_130 (by decide) ?_
        refine e_icmp_ne (pc := 131) (tgt := 143) dX5_callOf_131 (by decide) (fun hc_131 => ?_) (fun hc_131 => ?_)
        · refine e_bipush (pc := 143) (v := (-9)) dX5_callOf_143 (by decide) ?_
          refine r_iret (pc := 145) dX5_callOf_145 rfl ?_
          exact rt_i (by unfold m_cof; grind (splits := 20))
        · refine e_aload_n (pc := 134) dX5_callOf_134 rfl ?_
          refine e_getA (pc := 135) dX5_callOf_135 f_5_65 rfl rfl ?_
          refine e_iload_n (pc := 138) dX5_callOf_138 rfl ?_
          first | refine e_ialdN (pc := 139) dX5_callOf_139 rfl (by omega) (by decide) ?_ | refine e_iald (pc := 139) dX5_callOf_139 rfl (by assumption) ?_
          refine e_goto (pc := 140) (tgt := 145) dX5_callOf_140 (by decide) ?_
          refine r_iret (pc := 145) dX5_callOf_145 rfl ?_
          exact rt_i (by unfold m_cof; grind (splits := 20))
    refine e_tsw1 (pc := 18) 7 dX5_callOf_18 (by decide) (by decide) (off := 128) (tgt := 146) rfl (by decide) (fun hs_18_7 => ?_) (fun hs_18_7 => ?_)
    · refine e_aload_n (pc := 146) dX5_callOf_146 rfl ?_
      refine e_getA (pc := 147) dX5_callOf_147 f_5_59 rfl rfl ?_
      refine e_iload_n (pc := 150) dX5_callOf_150 rfl ?_
      first | refine e_ialdN (pc := 151) dX5_callOf_151 rfl (by omega) (by decide) ?_ | refine e_iald (pc := 151) dX5_callOf_151 rfl (by assumption) ?_
      refine e_if_ne (pc := 152) (tgt := 163) dX5_callOf_152 (by decide) (fun hc_152 => ?_) (fun hc_152 => ?_)
      · refine e_aload_n (pc := 163) dX5_callOf_163 rfl ?_
        refine e_getA (pc := 164) dX5_callOf_164 f_5_71 rfl rfl ?_
        refine e_iload_n (pc := 167) dX5_callOf_167 rfl ?_
        first | refine e_ialdN (pc := 168) dX5_callOf_168 rfl (by omega) (by decide) ?_ | refine e_iald (pc := 168) dX5_callOf_168 rfl (by assumption) ?_
        refine r_iret (pc := 169) dX5_callOf_169 rfl ?_
        exact rt_i (by unfold m_cof; grind (splits := 20))
      · refine e_aload_n (pc := 155) dX5_callOf_155 rfl ?_
        refine e_iload_n (pc := 156) dX5_callOf_156 rfl ?_
        refine e_self1i (pc := 157) dX5_callOf_157 cs_X5_callOf_156 cv_X5_waitedOf rc_X5_waitedOf rfl (by decide) (Nat.le_of_ble_eq_true rfl) (ev_X5_waitedOf _ (by omega)) ?_
        refine e_goto (pc := 160) (tgt := 169) dX5_callOf_160 (by decide) ?_
        refine r_iret (pc := 169) dX5_callOf_169 rfl ?_
        exact rt_i (by unfold m_cof; grind (splits := 20))
    refine e_tsw1 (pc := 18) 8 dX5_callOf_18 (by decide) (by decide) (off := 152) (tgt := 170) rfl (by decide) (fun hs_18_8 => ?_) (fun hs_18_8 => ?_)
    · refine e_aload_n (pc := 170) dX5_callOf_170 rfl ?_
      refine e_getA (pc := 171) dX5_callOf_171 f_5_68 rfl rfl ?_
      refine e_iload_n (pc := 174) dX5_callOf_174 rfl ?_
      first | refine e_ialdN (pc := 175) dX5_callOf_175 rfl (by omega) (by decide) ?_ | refine e_iald (pc := 175) dX5_callOf_175 rfl (by assumption) ?_
      refine r_iret (pc := 176) dX5_callOf_176 rfl ?_
      exact rt_i (by unfold m_cof; grind (splits := 20))
    refine e_tsw1 (pc := 18) 9 dX5_callOf_18 (by decide) (by decide) (off := 159) (tgt := 177) rfl (by decide) (fun hs_18_9 => ?_) (fun hs_18_9 => ?_)
    · refine e_aload_n (pc := 177) dX5_callOf_177 rfl ?_
      refine e_getA (pc := 178) dX5_callOf_178 f_5_56 rfl rfl ?_
      refine e_iload_n (pc := 181) dX5_callOf_181 rfl ?_
      first | refine e_ialdN (pc := 182) dX5_callOf_182 rfl (by omega) (by decide) ?_ | refine e_iald (pc := 182) dX5_callOf_182 rfl (by assumption) ?_
      refine r_iret (pc := 183) dX5_callOf_183 rfl ?_
      exact rt_i (by unfold m_cof; grind (splits := 20))
    refine e_tswO (pc := 18) (tgt := 184) dX5_callOf_18 (by have q0 := lv_neT hs_18_0 (a := 0) rfl; have q1 := lv_neT hs_18_1 (a := 1) rfl; have q2 := lv_neT hs_18_2 (a := 2) rfl; have q3 := lv_neT hs_18_3 (a := 3) rfl; have q4 := lv_neT hs_18_4 (a := 4) rfl; have q5 := lv_neT hs_18_5 (a := 5) rfl; have q6 := lv_neT hs_18_6 (a := 6) rfl; have q7 := lv_neT hs_18_7 (a := 7) rfl; have q8 := lv_neT hs_18_8 (a := 8) rfl; have q9 := lv_neT hs_18_9 (a := 9) rfl; omega) (by decide) ?_
    refine e_bipush (pc := 184) (v := (-9)) dX5_callOf_184 (by decide) ?_
    refine r_iret (pc := 186) dX5_callOf_186 rfl ?_
    exact rt_i (by unfold m_cof; grind (splits := 20))
  · exact absurd hc_8 (by rw [bI_t (by rw [hsz]; exact cr_ix_in hk (by omega))]; decide)
set_option maxHeartbeats 1000000 in
theorem ev_X5_callOf_n (N : cr_M) {cn : Nat} (h n : Int32) (hsz : N 0 5 = nI cn) (hh : ¬ (0 ≤ h ∧ h < nI cn)) : cr_EvM Y_X5_callOf [.inr (.inr 0), .inl h, .inl n] N (some (.inl (-1)), n_ref N 1) := by
  refine e_iload_n (pc := 0) dX5_callOf_0 rfl ?_
  refine e_aload_n (pc := 1) dX5_callOf_1 rfl ?_
  refine e_getI (pc := 2) dX5_callOf_2 f_5_142 rfl rfl ?_
  refine e_stat2i (pc := 5) dX5_callOf_5 cs_X5_callOf_130 st_X5_isIn rfl (by decide) (Nat.le_of_ble_eq_true rfl) (ev_X5_isIn _ _ _) ?_
  refine e_if_ne (pc := 8) (tgt := 17) dX5_callOf_8 (by decide) (fun hc_8 => ?_) (fun hc_8 => ?_)
  · exact absurd (bI_f (by rw [hsz]; exact hh)) hc_8
  · refine e_aload_n (pc := 11) dX5_callOf_11 rfl ?_
    refine e_iconst (pc := 12) (v := (-1)) dX5_callOf_12 (by decide) ?_
    refine e_self1i (pc := 13) dX5_callOf_13 cs_X5_callOf_120 cv_X5_refuse rc_X5_refuse rfl (by decide) (Nat.le_of_ble_eq_true rfl) (ev_X5_refuse _ (k := 1) (by decide) (by decide)) ?_
    refine r_iret (pc := 16) dX5_callOf_16 rfl ?_
    rfl
set_option maxHeartbeats 1000000 in
theorem lp_X5_count {hn : Nat} {N : cr_M} {x : Int32} (hsz : N 0 4 = nI hn) (h10 : hn ≤ 10) : ∀ (n j : Nat) (z : Int32), j + n = hn → (z = n_fr N j) → cr_Ev Y_X5_count 101 [(3, .inl (nI j)), (0, .inr (.inr 0)), (2, .inl z)] [] N (some (.inl (n_fr N hn)), N) := by
  intro n
  induction n with
  | zero =>
    intro j z hj hz
    refine e_iload_n (pc := 101) dX5_count_101 rfl ?_
    refine e_aload_n (pc := 102) dX5_count_102 rfl ?_
    refine e_getI (pc := 103) dX5_count_103 f_5_124 rfl rfl ?_
    refine e_icmp_ge (pc := 106) (tgt := 133) dX5_count_106 (by decide) (fun hc_106 => ?_) (fun hc_106 => ?_)
    · refine e_iload_n (pc := 133) dX5_count_133 rfl ?_
      refine r_iret (pc := 134) dX5_count_134 rfl ?_
      rw [hz, show j = hn by omega]
    · exact absurd (show N 0 4 ≤ nI j by rw [hsz]; exact nI_le (by omega) (by omega)) (by assumption)
  | succ n ih =>
    intro j z hj hz
    refine e_iload_n (pc := 101) dX5_count_101 rfl ?_
    refine e_aload_n (pc := 102) dX5_count_102 rfl ?_
    refine e_getI (pc := 103) dX5_count_103 f_5_124 rfl rfl ?_
    refine e_icmp_ge (pc := 106) (tgt := 133) dX5_count_106 (by decide) (fun hc_106 => ?_) (fun hc_106 => ?_)
    · exact absurd (show N 0 4 ≤ nI j by assumption) (by rw [hsz]; exact nI_ge (by omega) (by omega))
    · refine e_iload_n (pc := 109) dX5_count_109 rfl ?_
      refine e_aload_n (pc := 110) dX5_count_110 rfl ?_
      refine e_getA (pc := 111) dX5_count_111 f_5_26 rfl rfl ?_
      refine e_iload_n (pc := 114) dX5_count_114 rfl ?_
      first | refine e_ialdN (pc := 115) dX5_count_115 rfl (by omega) (by decide) ?_ | refine e_iald (pc := 115) dX5_count_115 rfl (by assumption) ?_
      refine e_iconst (pc := 116) (v := 1) dX5_count_116 (by decide) ?_
      refine e_icmp_ne (pc := 117) (tgt := 124) dX5_count_117 (by decide) (fun hc_117 => ?_) (fun hc_117 => ?_)
      · refine e_iconst (pc := 124) (v := 0) dX5_count_124 (by decide) ?_
        refine e_iadd (pc := 125) dX5_count_125 ?_
        refine e_istore_n (pc := 126) dX5_count_126 (by decide) ?_
        first | refine e_iinc1 (pc := 127) dX5_count_127 rfl (by decide) ?_ | refine e_iincp (pc := 127) dX5_count_127 rfl (by decide) ?_
        refine e_goto (pc := 130) (tgt := 101) dX5_count_130 (by decide) ?_
        exact e_wk (ih (j + 1) _ (by omega) (by rw [n_fr, hz]; first | rw [bI_t (by grind)] | rw [bI_f (by grind)])) ⟨rfl, rfl, rfl, trivial⟩
      · refine e_iconst (pc := 120) (v := 1) dX5_count_120 (by decide) ?_
        refine e_goto (pc := 121) (tgt := 125) dX5_count_121 (by decide) ?_
        refine e_iadd (pc := 125) dX5_count_125 ?_
        refine e_istore_n (pc := 126) dX5_count_126 (by decide) ?_
        first | refine e_iinc1 (pc := 127) dX5_count_127 rfl (by decide) ?_ | refine e_iincp (pc := 127) dX5_count_127 rfl (by decide) ?_
        refine e_goto (pc := 130) (tgt := 101) dX5_count_130 (by decide) ?_
        exact e_wk (ih (j + 1) _ (by omega) (by rw [n_fr, hz]; first | rw [bI_t (by grind)] | rw [bI_f (by grind)])) ⟨rfl, rfl, rfl, trivial⟩
set_option maxHeartbeats 1000000 in
theorem ev_X5_count {hn cn : Nat} {N : cr_M} (w : Int32) (hsz : N 0 4 = nI hn) (hsz2 : N 0 5 = nI cn) (h10 : hn ≤ 10) (h200 : cn ≤ 200) : cr_EvM Y_X5_count [.inr (.inr 0), .inl w] N (some (.inl (m_cnt hn cn N w)), N) := by
  refine e_iload_n (pc := 0) dX5_count_0 rfl ?_
  refine e_bipush (pc := 1) (v := 10) dX5_count_1 (by decide) ?_
  refine e_icmp_le (pc := 3) (tgt := 22) dX5_count_3 (by decide) (fun hc_3 => ?_) (fun hc_3 => ?_)
  · refine e_iconst (pc := 22) (v := 0) dX5_count_22 (by decide) ?_
    refine e_istore_n (pc := 23) dX5_count_23 (by decide) ?_
    refine e_iload_n (pc := 24) dX5_count_24 rfl ?_
    refine e_tsw1 (pc := 25) 0 dX5_count_25 (by decide) (by decide) (off := 51) (tgt := 76) rfl (by decide) (fun hs_25_0 => ?_) (fun hs_25_0 => ?_)
    · refine e_aload_n (pc := 76) dX5_count_76 rfl ?_
      refine e_getI (pc := 77) dX5_count_77 f_5_127 rfl rfl ?_
      refine r_iret (pc := 80) dX5_count_80 rfl ?_
      exact rt_i (by unfold m_cnt; grind (splits := 20))
    refine e_tsw1 (pc := 25) 1 dX5_count_25 (by decide) (by decide) (off := 56) (tgt := 81) rfl (by decide) (fun hs_25_1 => ?_) (fun hs_25_1 => ?_)
    · refine e_aload_n (pc := 81) dX5_count_81 rfl ?_
      refine e_getI (pc := 82) dX5_count_82 f_5_124 rfl rfl ?_
      refine r_iret (pc := 85) dX5_count_85 rfl ?_
      exact rt_i (by unfold m_cnt; grind (splits := 20))
    refine e_tsw1 (pc := 25) 2 dX5_count_25 (by decide) (by decide) (off := 61) (tgt := 86) rfl (by decide) (fun hs_25_2 => ?_) (fun hs_25_2 => ?_)
    · refine e_aload_n (pc := 86) dX5_count_86 rfl ?_
      refine e_getI (pc := 87) dX5_count_87 f_5_142 rfl rfl ?_
      refine r_iret (pc := 90) dX5_count_90 rfl ?_
      exact rt_i (by unfold m_cnt; grind (splits := 20))
    refine e_tsw1 (pc := 25) 3 dX5_count_25 (by decide) (by decide) (off := 66) (tgt := 91) rfl (by decide) (fun hs_25_3 => ?_) (fun hs_25_3 => ?_)
    · refine e_aload_n (pc := 91) dX5_count_91 rfl ?_
      refine e_iload_n (pc := 92) dX5_count_92 rfl ?_
      refine e_iconst (pc := 93) (v := 3) dX5_count_93 (by decide) ?_
      refine e_isub (pc := 94) dX5_count_94 ?_
      refine e_self1i (pc := 95) dX5_count_95 cs_X5_count_219 cv_X5_inState rc_X5_inState rfl (by decide) (Nat.le_of_ble_eq_true rfl) (ev_X5_inState _ _ hsz2 h200) ?_
      refine r_iret (pc := 98) dX5_count_98 rfl ?_
      exact rt_i (by unfold m_cnt; grind (splits := 20))
    refine e_tsw1 (pc := 25) 4 dX5_count_25 (by decide) (by decide) (off := 66) (tgt := 91) rfl (by decide) (fun hs_25_4 => ?_) (fun hs_25_4 => ?_)
    · refine e_aload_n (pc := 91) dX5_count_91 rfl ?_
      refine e_iload_n (pc := 92) dX5_count_92 rfl ?_
      refine e_iconst (pc := 93) (v := 3) dX5_count_93 (by decide) ?_
      refine e_isub (pc := 94) dX5_count_94 ?_
      refine e_self1i (pc := 95) dX5_count_95 cs_X5_count_219 cv_X5_inState rc_X5_inState rfl (by decide) (Nat.le_of_ble_eq_true rfl) (ev_X5_inState _ _ hsz2 h200) ?_
      refine r_iret (pc := 98) dX5_count_98 rfl ?_
      exact rt_i (by unfold m_cnt; grind (splits := 20))
    refine e_tsw1 (pc := 25) 5 dX5_count_25 (by decide) (by decide) (off := 66) (tgt := 91) rfl (by decide) (fun hs_25_5 => ?_) (fun hs_25_5 => ?_)
    · refine e_aload_n (pc := 91) dX5_count_91 rfl ?_
      refine e_iload_n (pc := 92) dX5_count_92 rfl ?_
      refine e_iconst (pc := 93) (v := 3) dX5_count_93 (by decide) ?_
      refine e_isub (pc := 94) dX5_count_94 ?_
      refine e_self1i (pc := 95) dX5_count_95 cs_X5_count_219 cv_X5_inState rc_X5_inState rfl (by decide) (Nat.le_of_ble_eq_true rfl) (ev_X5_inState _ _ hsz2 h200) ?_
      refine r_iret (pc := 98) dX5_count_98 rfl ?_
      exact rt_i (by unfold m_cnt; grind (splits := 20))
    refine e_tsw1 (pc := 25) 6 dX5_count_25 (by decide) (by decide) (off := 66) (tgt := 91) rfl (by decide) (fun hs_25_6 => ?_) (fun hs_25_6 => ?_)
    · refine e_aload_n (pc := 91) dX5_count_91 rfl ?_
      refine e_iload_n (pc := 92) dX5_count_92 rfl ?_
      refine e_iconst (pc := 93) (v := 3) dX5_count_93 (by decide) ?_
      refine e_isub (pc := 94) dX5_count_94 ?_
      refine e_self1i (pc := 95) dX5_count_95 cs_X5_count_219 cv_X5_inState rc_X5_inState rfl (by decide) (Nat.le_of_ble_eq_true rfl) (ev_X5_inState _ _ hsz2 h200) ?_
      refine r_iret (pc := 98) dX5_count_98 rfl ?_
      exact rt_i (by unfold m_cnt; grind (splits := 20))
    refine e_tsw1 (pc := 25) 7 dX5_count_25 (by decide) (by decide) (off := 66) (tgt := 91) rfl (by decide) (fun hs_25_7 => ?_) (fun hs_25_7 => ?_)
    · refine e_aload_n (pc := 91) dX5_count_91 rfl ?_
      refine e_iload_n (pc := 92) dX5_count_92 rfl ?_
      refine e_iconst (pc := 93) (v := 3) dX5_count_93 (by decide) ?_
      refine e_isub (pc := 94) dX5_count_94 ?_
      refine e_self1i (pc := 95) dX5_count_95 cs_X5_count_219 cv_X5_inState rc_X5_inState rfl (by decide) (Nat.le_of_ble_eq_true rfl) (ev_X5_inState _ _ hsz2 h200) ?_
      refine r_iret (pc := 98) dX5_count_98 rfl ?_
      exact rt_i (by unfold m_cnt; grind (splits := 20))
    refine e_tsw1 (pc := 25) 8 dX5_count_25 (by decide) (by decide) (off := 74) (tgt := 99) rfl (by decide) (fun hs_25_8 => ?_) (fun hs_25_8 => ?_)
    · refine e_iconst (pc := 99) (v := 0) dX5_count_99 (by decide) ?_
      refine e_istore_n (pc := 100) dX5_count_100 (by decide) ?_
      rw [show m_cnt hn cn N w = n_fr N hn by unfold m_cnt; grind]
      exact e_wk (lp_X5_count (x := w) hsz h10 hn 0 _ (by omega) rfl) ⟨rfl, rfl, rfl, trivial⟩
    refine e_tswO (pc := 25) (tgt := 135) dX5_count_25 (by have q0 := lv_neT hs_25_0 (a := 0) rfl; have q1 := lv_neT hs_25_1 (a := 1) rfl; have q2 := lv_neT hs_25_2 (a := 2) rfl; have q3 := lv_neT hs_25_3 (a := 3) rfl; have q4 := lv_neT hs_25_4 (a := 4) rfl; have q5 := lv_neT hs_25_5 (a := 5) rfl; have q6 := lv_neT hs_25_6 (a := 6) rfl; have q7 := lv_neT hs_25_7 (a := 7) rfl; have q8 := lv_neT hs_25_8 (a := 8) rfl; omega) (by decide) ?_
    refine e_bipush (pc := 135) (v := (-9)) dX5_count_135 (by decide) ?_
    refine r_iret (pc := 137) dX5_count_137 rfl ?_
    exact rt_i (by unfold m_cnt; grind (splits := 20))
  · refine e_iload_n (pc := 6) dX5_count_6 rfl ?_
    refine e_bipush (pc := 7) (v := 17) dX5_count_7 (by decide) ?_
    refine e_icmp_ge (pc := 9) (tgt := 22) dX5_count_9 (by decide) (fun hc_9 => ?_) (fun hc_9 => ?_)
    · refine e_iconst (pc := 22) (v := 0) dX5_count_22 (by decide) ?_
      refine e_istore_n (pc := 23) dX5_count_23 (by decide) ?_
      refine e_iload_n (pc := 24) dX5_count_24 rfl ?_
      refine e_tsw1 (pc := 25) 0 dX5_count_25 (by decide) (by decide) (off := 51) (tgt := 76) rfl (by decide) (fun hs_25_0 => ?_) (fun hs_25_0 => ?_)
      · refine e_aload_n (pc := 76) dX5_count_76 rfl ?_
        refine e_getI (pc := 77) dX5_count_77 f_5_127 rfl rfl ?_
        refine r_iret (pc := 80) dX5_count_80 rfl ?_
        exact rt_i (by unfold m_cnt; grind (splits := 20))
      refine e_tsw1 (pc := 25) 1 dX5_count_25 (by decide) (by decide) (off := 56) (tgt := 81) rfl (by decide) (fun hs_25_1 => ?_) (fun hs_25_1 => ?_)
      · refine e_aload_n (pc := 81) dX5_count_81 rfl ?_
        refine e_getI (pc := 82) dX5_count_82 f_5_124 rfl rfl ?_
        refine r_iret (pc := 85) dX5_count_85 rfl ?_
        exact rt_i (by unfold m_cnt; grind (splits := 20))
      refine e_tsw1 (pc := 25) 2 dX5_count_25 (by decide) (by decide) (off := 61) (tgt := 86) rfl (by decide) (fun hs_25_2 => ?_) (fun hs_25_2 => ?_)
      · refine e_aload_n (pc := 86) dX5_count_86 rfl ?_
        refine e_getI (pc := 87) dX5_count_87 f_5_142 rfl rfl ?_
        refine r_iret (pc := 90) dX5_count_90 rfl ?_
        exact rt_i (by unfold m_cnt; grind (splits := 20))
      refine e_tsw1 (pc := 25) 3 dX5_count_25 (by decide) (by decide) (off := 66) (tgt := 91) rfl (by decide) (fun hs_25_3 => ?_) (fun hs_25_3 => ?_)
      · refine e_aload_n (pc := 91) dX5_count_91 rfl ?_
        refine e_iload_n (pc := 92) dX5_count_92 rfl ?_
        refine e_iconst (pc := 93) (v := 3) dX5_count_93 (by decide) ?_
        refine e_isub (pc := 94) dX5_count_94 ?_
        refine e_self1i (pc := 95) dX5_count_95 cs_X5_count_219 cv_X5_inState rc_X5_inState rfl (by decide) (Nat.le_of_ble_eq_true rfl) (ev_X5_inState _ _ hsz2 h200) ?_
        refine r_iret (pc := 98) dX5_count_98 rfl ?_
        exact rt_i (by unfold m_cnt; grind (splits := 20))
      refine e_tsw1 (pc := 25) 4 dX5_count_25 (by decide) (by decide) (off := 66) (tgt := 91) rfl (by decide) (fun hs_25_4 => ?_) (fun hs_25_4 => ?_)
      · refine e_aload_n (pc := 91) dX5_count_91 rfl ?_
        refine e_iload_n (pc := 92) dX5_count_92 rfl ?_
        refine e_iconst (pc := 93) (v := 3) dX5_count_93 (by decide) ?_
        refine e_isub (pc := 94) dX5_count_94 ?_
        refine e_self1i (pc := 95) dX5_count_95 cs_X5_count_219 cv_X5_inState rc_X5_inState rfl (by decide) (Nat.le_of_ble_eq_true rfl) (ev_X5_inState _ _ hsz2 h200) ?_
        refine r_iret (pc := 98) dX5_count_98 rfl ?_
        exact rt_i (by unfold m_cnt; grind (splits := 20))
      refine e_tsw1 (pc := 25) 5 dX5_count_25 (by decide) (by decide) (off := 66) (tgt := 91) rfl (by decide) (fun hs_25_5 => ?_) (fun hs_25_5 => ?_)
      · refine e_aload_n (pc := 91) dX5_count_91 rfl ?_
        refine e_iload_n (pc := 92) dX5_count_92 rfl ?_
        refine e_iconst (pc := 93) (v := 3) dX5_count_93 (by decide) ?_
        refine e_isub (pc := 94) dX5_count_94 ?_
        refine e_self1i (pc := 95) dX5_count_95 cs_X5_count_219 cv_X5_inState rc_X5_inState rfl (by decide) (Nat.le_of_ble_eq_true rfl) (ev_X5_inState _ _ hsz2 h200) ?_
        refine r_iret (pc := 98) dX5_count_98 rfl ?_
        exact rt_i (by unfold m_cnt; grind (splits := 20))
      refine e_tsw1 (pc := 25) 6 dX5_count_25 (by decide) (by decide) (off := 66) (tgt := 91) rfl (by decide) (fun hs_25_6 => ?_) (fun hs_25_6 => ?_)
      · refine e_aload_n (pc := 91) dX5_count_91 rfl ?_
        refine e_iload_n (pc := 92) dX5_count_92 rfl ?_
        refine e_iconst (pc := 93) (v := 3) dX5_count_93 (by decide) ?_
        refine e_isub (pc := 94) dX5_count_94 ?_
        refine e_self1i (pc := 95) dX5_count_95 cs_X5_count_219 cv_X5_inState rc_X5_inState rfl (by decide) (Nat.le_of_ble_eq_true rfl) (ev_X5_inState _ _ hsz2 h200) ?_
        refine r_iret (pc := 98) dX5_count_98 rfl ?_
        exact rt_i (by unfold m_cnt; grind (splits := 20))
      refine e_tsw1 (pc := 25) 7 dX5_count_25 (by decide) (by decide) (off := 66) (tgt := 91) rfl (by decide) (fun hs_25_7 => ?_) (fun hs_25_7 => ?_)
      · refine e_aload_n (pc := 91) dX5_count_91 rfl ?_
        refine e_iload_n (pc := 92) dX5_count_92 rfl ?_
        refine e_iconst (pc := 93) (v := 3) dX5_count_93 (by decide) ?_
        refine e_isub (pc := 94) dX5_count_94 ?_
        refine e_self1i (pc := 95) dX5_count_95 cs_X5_count_219 cv_X5_inState rc_X5_inState rfl (by decide) (Nat.le_of_ble_eq_true rfl) (ev_X5_inState _ _ hsz2 h200) ?_
        refine r_iret (pc := 98) dX5_count_98 rfl ?_
        exact rt_i (by unfold m_cnt; grind (splits := 20))
      refine e_tsw1 (pc := 25) 8 dX5_count_25 (by decide) (by decide) (off := 74) (tgt := 99) rfl (by decide) (fun hs_25_8 => ?_) (fun hs_25_8 => ?_)
      · refine e_iconst (pc := 99) (v := 0) dX5_count_99 (by decide) ?_
        refine e_istore_n (pc := 100) dX5_count_100 (by decide) ?_
        rw [show m_cnt hn cn N w = n_fr N hn by unfold m_cnt; grind]
        exact e_wk (lp_X5_count (x := w) hsz h10 hn 0 _ (by omega) rfl) ⟨rfl, rfl, rfl, trivial⟩
      refine e_tswO (pc := 25) (tgt := 135) dX5_count_25 (by have q0 := lv_neT hs_25_0 (a := 0) rfl; have q1 := lv_neT hs_25_1 (a := 1) rfl; have q2 := lv_neT hs_25_2 (a := 2) rfl; have q3 := lv_neT hs_25_3 (a := 3) rfl; have q4 := lv_neT hs_25_4 (a := 4) rfl; have q5 := lv_neT hs_25_5 (a := 5) rfl; have q6 := lv_neT hs_25_6 (a := 6) rfl; have q7 := lv_neT hs_25_7 (a := 7) rfl; have q8 := lv_neT hs_25_8 (a := 8) rfl; omega) (by decide) ?_
      refine e_bipush (pc := 135) (v := (-9)) dX5_count_135 (by decide) ?_
      refine r_iret (pc := 137) dX5_count_137 rfl ?_
      exact rt_i (by unfold m_cnt; grind (splits := 20))
    · refine e_aload_n (pc := 12) dX5_count_12 rfl ?_
      refine e_getA (pc := 13) dX5_count_13 f_5_7 rfl rfl ?_
      refine e_iload_n (pc := 16) dX5_count_16 rfl ?_
      refine e_bipush (pc := 17) (v := 10) dX5_count_17 (by decide) ?_
      refine e_isub (pc := 19) dX5_count_19 ?_
      obtain ⟨t, ht1, ht2, rfl⟩ := w_in (w := w) (a := 10) (b := 17) (by decide) (by decide) (show (10 : Int32) < w by grind) (show w < (17 : Int32) by grind)
      rw [show nI t - 10 = nI (t - 10) from pk_sub (b := 10) (by omega)]
      first | refine e_ialdN (pc := 20) dX5_count_20 rfl (by omega) (by decide) ?_ | refine e_iald (pc := 20) dX5_count_20 rfl (by assumption) ?_
      refine r_iret (pc := 21) dX5_count_21 rfl ?_
      exact rt_i (by unfold m_cnt; rw [if_pos (by grind), show nI t - 10 = nI (t - 10) from pk_sub (b := 10) (by omega), nI_clamp (by omega)])
