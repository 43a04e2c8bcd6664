set_option maxHeartbeats 1000000 in
theorem ev_X4_loss1 (M : cr_M) {l k : Nat} (hl : l ≤ 10000) (hk : k < 1000) : cr_EvM Y_X4_lossWithOneMore [.inr (.inl (lN (f_n l k))), .inl (nI l), .inl (nI (k + 1))] M (some (.inr (.inl (lN (f_n l (k + 1))))), M) := by
  obtain ⟨d1, d2, d3⟩ := f_div (k := k) hl hk
  have hpos : (0 : Int64) < lN (100 * (k + 1) * 1048576 + l * f_n l k) := (pk_lLT (a := 0) (by omega) (by omega)).mpr d2
  have hne : ¬ lN (100 * (k + 1) * 1048576 + l * f_n l k) = 0 := fun z => by rw [z] at hpos; exact absurd hpos (by decide)
  refine e_iload_n (pc := 0) dX4_lossWithOneMore_0 rfl ?_
  refine e_i2l (pc := 1) dX4_lossWithOneMore_1 ?_
  refine e_lload_n (pc := 2) dX4_lossWithOneMore_2 rfl ?_
  refine e_lmul (pc := 3) dX4_lossWithOneMore_3 ?_
  refine e_lstore (pc := 4) dX4_lossWithOneMore_4 (by decide) ?_
  refine e_ldc2 (pc := 6) (v := (100 : Int64)) dX4_lossWithOneMore_6 (cr_in (i := 530) (by decide +kernel) rfl) ?_
  refine e_iload_n (pc := 9) dX4_lossWithOneMore_9 rfl ?_
  refine e_i2l (pc := 10) dX4_lossWithOneMore_10 ?_
  refine e_lmul (pc := 11) dX4_lossWithOneMore_11 ?_
  refine e_ldc2 (pc := 12) (v := (1048576 : Int64)) dX4_lossWithOneMore_12 (cr_in (i := 526) (by decide +kernel) rfl) ?_
  refine e_lmul (pc := 15) dX4_lossWithOneMore_15 ?_
  refine e_lload (pc := 16) dX4_lossWithOneMore_16 rfl ?_
  refine e_ladd (pc := 18) dX4_lossWithOneMore_18 ?_
  rw [d1]
  refine e_lstore (pc := 19) dX4_lossWithOneMore_19 (by decide) ?_
  refine e_lload (pc := 21) dX4_lossWithOneMore_21 rfl ?_
  refine e_lconst (pc := 23) (v := 0) dX4_lossWithOneMore_23 (by decide) ?_
  refine e_lcmp (pc := 24) dX4_lossWithOneMore_24 ?_
  have hgt : 0 < lg_cmp (lN (100 * (k + 1) * 1048576 + l * f_n l k)) 0 := (lg_cmp_gt _ _).mpr hpos
  refine e_if_gt (pc := 25) (tgt := 32) dX4_lossWithOneMore_25 (by decide) (fun hc_25 => ?_) (fun hc_25 => absurd hc_25 (not_not_intro hgt))
  refine e_lload (pc := 32) dX4_lossWithOneMore_32 rfl ?_
  refine e_ldc2 (pc := 34) (v := (1048576 : Int64)) dX4_lossWithOneMore_34 (cr_in (i := 526) (by decide +kernel) rfl) ?_
  refine e_lmul (pc := 37) dX4_lossWithOneMore_37 ?_
  refine e_lload (pc := 38) dX4_lossWithOneMore_38 rfl ?_
  refine e_ldiv (pc := 40) dX4_lossWithOneMore_40 (by assumption) ?_
  refine r_lret (pc := 41) dX4_lossWithOneMore_41 rfl ?_
  rw [← f_l_n hl (k + 1) (by omega), f_l, f_l1, f_l_n hl k (by omega), d1]
set_option maxHeartbeats 1000000 in
theorem lp_X4_loss {X : cr_M} {l m : Nat} (hl : l ≤ 10000) (hm : m ≤ 200) : ∀ (n j : Nat) (z : Int64), j + n = m → z = lN (f_n l j) → cr_Ev Y_X4_loss 43 [(5, .inl (nI (j + 1))), (0, .inr (.inr 0)), (1, .inl (nI l)), (2, .inl (nI m)), (3, .inr (.inl z))] [] X (some (.inl (f_l (nI l) m).toInt32), X) := by
  intro n
  induction n with
  | zero =>
    intro j z hj hz
    refine e_iload (pc := 43) dX4_loss_43 rfl ?_
    refine e_iload_n (pc := 45) dX4_loss_45 rfl ?_
    refine e_icmp_gt (pc := 46) (tgt := 63) dX4_loss_46 (by decide) (fun hc_46 => ?_) (fun hc_46 => ?_)
    · refine e_lload_n (pc := 63) dX4_loss_63 rfl ?_
      refine e_l2i (pc := 64) dX4_loss_64 ?_
      refine r_iret (pc := 65) dX4_loss_65 rfl ?_
      rw [hz, show j = m by omega, ← f_l_n hl m (by omega)]
    · exact absurd (show nI m < nI (j + 1) from nI_lt (by omega) (by omega)) (by assumption)
  | succ n ih =>
    intro j z hj hz
    subst hz
    refine e_iload (pc := 43) dX4_loss_43 rfl ?_
    refine e_iload_n (pc := 45) dX4_loss_45 rfl ?_
    refine e_icmp_gt (pc := 46) (tgt := 63) dX4_loss_46 (by decide) (fun hc_46 => ?_) (fun hc_46 => ?_)
    · exact absurd (show nI m < nI (j + 1) by assumption) (nI_nlt (a := m) (b := j + 1) (by omega) (by omega))
    · refine e_lload_n (pc := 49) dX4_loss_49 rfl ?_
      refine e_iload_n (pc := 50) dX4_loss_50 rfl ?_
      refine e_iload (pc := 51) dX4_loss_51 rfl ?_
      refine e_statL (pc := 53) dX4_loss_53 cs_X4_loss_147 st_X4_lossWithOneMore rfl (by decide) (Nat.le_of_ble_eq_true rfl) (ev_X4_loss1 _ hl (by omega)) ?_
      refine e_lstore_n (pc := 56) dX4_loss_56 (by decide) ?_
      first | refine e_iinc1 (pc := 57) dX4_loss_57 rfl (by decide) ?_ | refine e_iincp (pc := 57) dX4_loss_57 rfl (by decide) ?_
      refine e_goto (pc := 60) (tgt := 43) dX4_loss_60 (by decide) ?_
      exact e_wk (ih (j + 1) _ (by omega) rfl) ⟨rfl, rfl, rfl, rfl, rfl, trivial⟩
set_option maxHeartbeats 4000000 in
theorem th_loss {X N : cr_M} (ld n : Int32) (hI : x_I X N) : ∃ z, cr_EvM Y_X5_loss [.inr (.inr 0), .inl ld, .inl n] N (some (.inl z.1), z.2) ∧ cr_EE Y_X4_loss 0 (cr_al 0 [.inr (.inr 0), .inl ld, .inl n]) [] X (x_P z) := by
  obtain ⟨hn, cn, tk, ht, hJ, hX⟩ := hI
  obtain ⟨h10, h200, z3, z4, z5, z6, z7⟩ := r_X_z hX
  have s4 : N 0 4 = nI hn := hJ.1.2.2.1
  have s5 : N 0 5 = nI cn := hJ.1.2.2.2.1
  refine ⟨m_loss N ld n, ev_X5_loss N ld n, ?_⟩
  refine cr_EEl (fun _ kk => e_iload_n (pc := 0) dX4_loss_0 rfl kk) ?_
  refine cr_EEb (fun _ k1 k2 => e_if_lt (pc := 1) (tgt := 8) dX4_loss_1 (by decide) k1 k2) (fun hc_1 => ?_) (fun hc_1 => ?_)
  · refine cr_EEl (fun _ kk => e_aload_n (pc := 8) dX4_loss_8 rfl kk) ?_
    refine cr_EEl (fun _ kk => e_bipush (pc := 9) (v := (-4)) dX4_loss_9 (by decide) kk) ?_
    refine cr_EEl (fun _ kk => e_self1i (pc := 11) dX4_loss_11 cs_X4_loss_30 cv_X4_refuse rc_X4_refuse rfl (by decide) (Nat.le_of_ble_eq_true rfl) (ev_X4_refuse _ (k := 4) (by decide) (by decide)) kk) ?_
    refine cr_EEr (r_iret (pc := 14) dX4_loss_14 rfl rfl) ?_
    exact x_leaf (by unfold m_loss; first | grind | (repeat (first | rw [if_pos (by grind)] | rw [if_neg (by grind)]))) (x_I_ref ht hJ hX (by decide))
  · refine cr_EEl (fun _ kk => e_iload_n (pc := 4) dX4_loss_4 rfl kk) ?_
    refine cr_EEb (fun _ k1 k2 => e_if_ge (pc := 5) (tgt := 15) dX4_loss_5 (by decide) k1 k2) (fun hc_5 => ?_) (fun hc_5 => ?_)
    · refine cr_EEl (fun _ kk => e_iload_n (pc := 15) dX4_loss_15 rfl kk) ?_
      refine cr_EEl (fun _ kk => e_sipush (pc := 16) (v := 10000) dX4_loss_16 (by decide) kk) ?_
      refine cr_EEb (fun _ k1 k2 => e_icmp_gt (pc := 19) (tgt := 29) dX4_loss_19 (by decide) k1 k2) (fun hc_19 => ?_) (fun hc_19 => ?_)
      · refine cr_EEl (fun _ kk => e_aload_n (pc := 29) dX4_loss_29 rfl kk) ?_
        refine cr_EEl (fun _ kk => e_bipush (pc := 30) (v := (-6)) dX4_loss_30 (by decide) kk) ?_
        refine cr_EEl (fun _ kk => e_self1i (pc := 32) dX4_loss_32 cs_X4_loss_30 cv_X4_refuse rc_X4_refuse rfl (by decide) (Nat.le_of_ble_eq_true rfl) (ev_X4_refuse _ (k := 6) (by decide) (by decide)) kk) ?_
        refine cr_EEr (r_iret (pc := 35) dX4_loss_35 rfl rfl) ?_
        exact x_leaf (by unfold m_loss; first | grind | (repeat (first | rw [if_pos (by grind)] | rw [if_neg (by grind)]))) (x_I_ref ht hJ hX (by decide))
      · refine cr_EEl (fun _ kk => e_iload_n (pc := 22) dX4_loss_22 rfl kk) ?_
        refine cr_EEl (fun _ kk => e_sipush (pc := 23) (v := 200) dX4_loss_23 (by decide) kk) ?_
        refine cr_EEb (fun _ k1 k2 => e_icmp_le (pc := 26) (tgt := 36) dX4_loss_26 (by decide) k1 k2) (fun hc_26 => ?_) (fun hc_26 => ?_)
        · refine cr_EEl (fun _ kk => e_ldc2 (pc := 36) (v := (1048576 : Int64)) dX4_loss_36 (cr_in (i := 526) (by decide +kernel) rfl) kk) ?_
          refine cr_EEl (fun _ kk => e_lstore_n (pc := 39) dX4_loss_39 (by decide) kk) ?_
          refine cr_EEl (fun _ kk => e_iconst (pc := 40) (v := 1) dX4_loss_40 (by decide) kk) ?_
          refine cr_EEl (fun _ kk => e_istore (pc := 41) dX4_loss_41 (by decide) kk) ?_
          obtain ⟨a, ha, rfl⟩ := nI_of2 (x := ld) (M := 10000) (n := 10000) (by decide) (by grind) (by grind)
          obtain ⟨b, hb, rfl⟩ := nI_of2 (x := n) (M := 200) (n := 200) (by decide) (by grind) (by grind)
          exact cr_EEr (e_wk (lp_X4_loss ha hb b 0 _ (by omega) rfl) ⟨rfl, rfl, rfl, rfl, rfl, trivial⟩) (x_leaf (by unfold m_loss; rw [if_neg (by grind), if_neg (by grind), nI_clamp (by omega)]) ⟨hn, cn, tk, ht, hJ, hX⟩)
        · refine cr_EEl (fun _ kk => e_aload_n (pc := 29) dX4_loss_29 rfl kk) ?_
          refine cr_EEl (fun _ kk => e_bipush (pc := 30) (v := (-6)) dX4_loss_30 (by decide) kk) ?_
          refine cr_EEl (fun _ kk => e_self1i (pc := 32) dX4_loss_32 cs_X4_loss_30 cv_X4_refuse rc_X4_refuse rfl (by decide) (Nat.le_of_ble_eq_true rfl) (ev_X4_refuse _ (k := 6) (by decide) (by decide)) kk) ?_
          refine cr_EEr (r_iret (pc := 35) dX4_loss_35 rfl rfl) ?_
          exact x_leaf (by unfold m_loss; first | grind | (repeat (first | rw [if_pos (by grind)] | rw [if_neg (by grind)]))) (x_I_ref ht hJ hX (by decide))
    · refine cr_EEl (fun _ kk => e_aload_n (pc := 8) dX4_loss_8 rfl kk) ?_
      refine cr_EEl (fun _ kk => e_bipush (pc := 9) (v := (-4)) dX4_loss_9 (by decide) kk) ?_
      refine cr_EEl (fun _ kk => e_self1i (pc := 11) dX4_loss_11 cs_X4_loss_30 cv_X4_refuse rc_X4_refuse rfl (by decide) (Nat.le_of_ble_eq_true rfl) (ev_X4_refuse _ (k := 4) (by decide) (by decide)) kk) ?_
      refine cr_EEr (r_iret (pc := 14) dX4_loss_14 rfl rfl) ?_
      exact x_leaf (by unfold m_loss; first | grind | (repeat (first | rw [if_pos (by grind)] | rw [if_neg (by grind)]))) (x_I_ref ht hJ hX (by decide))
set_option maxHeartbeats 1000000 in
theorem lp_X4_wanted {X : cr_M} {l p : Nat} (hl : l ≤ 10000) (hp : p ≤ 1048576) : ∀ (n j : Nat) (z : Int64), j + n = 201 → z = lN (f_n l j) → cr_Ev Y_X4_wanted 42 [(5, .inl (nI j)), (0, .inr (.inr 0)), (1, .inl (nI l)), (2, .inl (nI p)), (3, .inr (.inl z))] [] X (some (.inl (n_wa (nI l) (nI p) n j)), X) := by
  intro n
  induction n with
  | zero =>
    intro j z hj hz
    refine e_iload (pc := 42) dX4_wanted_42 rfl ?_
    refine e_sipush (pc := 44) (v := 200) dX4_wanted_44 (by decide) ?_
    refine e_icmp_gt (pc := 47) (tgt := 76) dX4_wanted_47 (by decide) (fun hc_47 => ?_) (fun hc_47 => ?_)
    · refine e_bipush (pc := 76) (v := (-9)) dX4_wanted_76 (by decide) ?_
      refine r_iret (pc := 78) dX4_wanted_78 rfl ?_
      rfl
    · exact absurd (show (200 : Int32) < nI j from nI_lt (a := 200) (by omega) (by omega)) (by assumption)
  | succ n ih =>
    intro j z hj hz
    subst hz
    have hle := f_n_le hl j
    have hfl : (f_l (nI l) j).toInt32 ≤ nI p ↔ f_n l j ≤ p := by rw [f_l_n hl j (by omega), lN_i, nI_leI (by omega) (by omega)]
    refine e_iload (pc := 42) dX4_wanted_42 rfl ?_
    refine e_sipush (pc := 44) (v := 200) dX4_wanted_44 (by decide) ?_
    refine e_icmp_gt (pc := 47) (tgt := 76) dX4_wanted_47 (by decide) (fun hc_47 => ?_) (fun hc_47 => ?_)
    · exact absurd (show (200 : Int32) < nI j by assumption) (nI_nlt (a := 200) (by omega) (by omega))
    · refine e_lload_n (pc := 50) dX4_wanted_50 rfl ?_
      refine e_iload_n (pc := 51) dX4_wanted_51 rfl ?_
      refine e_i2l (pc := 52) dX4_wanted_52 ?_
      refine e_lcmp (pc := 53) dX4_wanted_53 ?_
      rw [nI_l (by omega)]
      refine e_if_gt (pc := 54) (tgt := 60) dX4_wanted_54 (by decide) (fun hc_54 => ?_) (fun hc_54 => ?_)
      · rw [lg_cmp_gt, lN_lt (by omega) (by omega)] at hc_54
        refine e_lload_n (pc := 60) dX4_wanted_60 rfl ?_
        refine e_iload_n (pc := 61) dX4_wanted_61 rfl ?_
        refine e_iload (pc := 62) dX4_wanted_62 rfl ?_
        refine e_iconst (pc := 64) (v := 1) dX4_wanted_64 (by decide) ?_
        refine e_iadd (pc := 65) dX4_wanted_65 ?_
        rw [nI_1]
        refine e_statL (pc := 66) dX4_wanted_66 cs_X4_wanted_147 st_X4_lossWithOneMore rfl (by decide) (Nat.le_of_ble_eq_true rfl) (ev_X4_loss1 _ hl (by omega)) ?_
        refine e_lstore_n (pc := 69) dX4_wanted_69 (by decide) ?_
        first | refine e_iinc1 (pc := 70) dX4_wanted_70 rfl (by decide) ?_ | refine e_iincp (pc := 70) dX4_wanted_70 rfl (by decide) ?_
        refine e_goto (pc := 73) (tgt := 42) dX4_wanted_73 (by decide) ?_
        rw [show n_wa (nI l) (nI p) (n + 1) j = n_wa (nI l) (nI p) n (j + 1) by rw [n_wa, if_neg (by rw [hfl]; omega)]]
        exact e_wk (ih (j + 1) _ (by omega) rfl) ⟨rfl, rfl, rfl, rfl, rfl, trivial⟩
      · rw [lg_cmp_gt, lN_lt (by omega) (by omega)] at hc_54
        refine e_iload (pc := 57) dX4_wanted_57 rfl ?_
        refine r_iret (pc := 59) dX4_wanted_59 rfl ?_
        rw [n_wa, if_pos (by rw [hfl]; omega)]
set_option maxHeartbeats 4000000 in
theorem th_wanted {X N : cr_M} (ld n : Int32) (hI : x_I X N) : ∃ z, cr_EvM Y_X5_wanted [.inr (.inr 0), .inl ld, .inl n] N (some (.inl z.1), z.2) ∧ cr_EE Y_X4_wanted 0 (cr_al 0 [.inr (.inr 0), .inl ld, .inl n]) [] X (x_P z) := by
  obtain ⟨hn, cn, tk, ht, hJ, hX⟩ := hI
  obtain ⟨h10, h200, z3, z4, z5, z6, z7⟩ := r_X_z hX
  have s4 : N 0 4 = nI hn := hJ.1.2.2.1
  have s5 : N 0 5 = nI cn := hJ.1.2.2.2.1
  refine ⟨m_wanted N ld n, ev_X5_wanted N ld n, ?_⟩
  refine cr_EEl (fun _ kk => e_iload_n (pc := 0) dX4_wanted_0 rfl kk) ?_
  refine cr_EEb (fun _ k1 k2 => e_if_lt (pc := 1) (tgt := 8) dX4_wanted_1 (by decide) k1 k2) (fun hc_1 => ?_) (fun hc_1 => ?_)
  · refine cr_EEl (fun _ kk => e_aload_n (pc := 8) dX4_wanted_8 rfl kk) ?_
    refine cr_EEl (fun _ kk => e_bipush (pc := 9) (v := (-4)) dX4_wanted_9 (by decide) kk) ?_
    refine cr_EEl (fun _ kk => e_self1i (pc := 11) dX4_wanted_11 cs_X4_wanted_30 cv_X4_refuse rc_X4_refuse rfl (by decide) (Nat.le_of_ble_eq_true rfl) (ev_X4_refuse _ (k := 4) (by decide) (by decide)) kk) ?_
    refine cr_EEr (r_iret (pc := 14) dX4_wanted_14 rfl rfl) ?_
    exact x_leaf (by unfold m_wanted; first | grind | (repeat (first | rw [if_pos (by grind)] | rw [if_neg (by grind)]))) (x_I_ref ht hJ hX (by decide))
  · refine cr_EEl (fun _ kk => e_iload_n (pc := 4) dX4_wanted_4 rfl kk) ?_
    refine cr_EEb (fun _ k1 k2 => e_if_ge (pc := 5) (tgt := 15) dX4_wanted_5 (by decide) k1 k2) (fun hc_5 => ?_) (fun hc_5 => ?_)
    · refine cr_EEl (fun _ kk => e_iload_n (pc := 15) dX4_wanted_15 rfl kk) ?_
      refine cr_EEl (fun _ kk => e_sipush (pc := 16) (v := 10000) dX4_wanted_16 (by decide) kk) ?_
      refine cr_EEb (fun _ k1 k2 => e_icmp_gt (pc := 19) (tgt := 28) dX4_wanted_19 (by decide) k1 k2) (fun hc_19 => ?_) (fun hc_19 => ?_)
      · refine cr_EEl (fun _ kk => e_aload_n (pc := 28) dX4_wanted_28 rfl kk) ?_
        refine cr_EEl (fun _ kk => e_bipush (pc := 29) (v := (-6)) dX4_wanted_29 (by decide) kk) ?_
        refine cr_EEl (fun _ kk => e_self1i (pc := 31) dX4_wanted_31 cs_X4_wanted_30 cv_X4_refuse rc_X4_refuse rfl (by decide) (Nat.le_of_ble_eq_true rfl) (ev_X4_refuse _ (k := 6) (by decide) (by decide)) kk) ?_
        refine cr_EEr (r_iret (pc := 34) dX4_wanted_34 rfl rfl) ?_
        exact x_leaf (by unfold m_wanted; first | grind | (repeat (first | rw [if_pos (by grind)] | rw [if_neg (by grind)]))) (x_I_ref ht hJ hX (by decide))
      · refine cr_EEl (fun _ kk => e_iload_n (pc := 22) dX4_wanted_22 rfl kk) ?_
        refine cr_EEl (fun _ kk => e_ldc (pc := 23) (v := (1048576 : Int32)) dX4_wanted_23 (cr_in (i := 535) (by decide +kernel) rfl) kk) ?_
        refine cr_EEb (fun _ k1 k2 => e_icmp_le (pc := 25) (tgt := 35) dX4_wanted_25 (by decide) k1 k2) (fun hc_25 => ?_) (fun hc_25 => ?_)
        · refine cr_EEl (fun _ kk => e_ldc2 (pc := 35) (v := (1048576 : Int64)) dX4_wanted_35 (cr_in (i := 526) (by decide +kernel) rfl) kk) ?_
          refine cr_EEl (fun _ kk => e_lstore_n (pc := 38) dX4_wanted_38 (by decide) kk) ?_
          refine cr_EEl (fun _ kk => e_iconst (pc := 39) (v := 0) dX4_wanted_39 (by decide) kk) ?_
          refine cr_EEl (fun _ kk => e_istore (pc := 40) dX4_wanted_40 (by decide) kk) ?_
          obtain ⟨a, ha, rfl⟩ := nI_of2 (x := ld) (M := 10000) (n := 10000) (by decide) (by grind) (by grind)
          obtain ⟨b, hb, rfl⟩ := nI_of2 (x := n) (M := 1048576) (n := 1048576) (by decide) (by grind) (by grind)
          exact cr_EEr (e_wk (lp_X4_wanted ha hb 201 0 _ (by omega) rfl) ⟨rfl, rfl, rfl, rfl, rfl, trivial⟩) (x_leaf (by unfold m_wanted; rw [if_neg (by grind), if_neg (by grind)]) ⟨hn, cn, tk, ht, hJ, hX⟩)
        · refine cr_EEl (fun _ kk => e_aload_n (pc := 28) dX4_wanted_28 rfl kk) ?_
          refine cr_EEl (fun _ kk => e_bipush (pc := 29) (v := (-6)) dX4_wanted_29 (by decide) kk) ?_
          refine cr_EEl (fun _ kk => e_self1i (pc := 31) dX4_wanted_31 cs_X4_wanted_30 cv_X4_refuse rc_X4_refuse rfl (by decide) (Nat.le_of_ble_eq_true rfl) (ev_X4_refuse _ (k := 6) (by decide) (by decide)) kk) ?_
          refine cr_EEr (r_iret (pc := 34) dX4_wanted_34 rfl rfl) ?_
          exact x_leaf (by unfold m_wanted; first | grind | (repeat (first | rw [if_pos (by grind)] | rw [if_neg (by grind)]))) (x_I_ref ht hJ hX (by decide))
    · refine cr_EEl (fun _ kk => e_aload_n (pc := 8) dX4_wanted_8 rfl kk) ?_
      refine cr_EEl (fun _ kk => e_bipush (pc := 9) (v := (-4)) dX4_wanted_9 (by decide) kk) ?_
      refine cr_EEl (fun _ kk => e_self1i (pc := 11) dX4_wanted_11 cs_X4_wanted_30 cv_X4_refuse rc_X4_refuse rfl (by decide) (Nat.le_of_ble_eq_true rfl) (ev_X4_refuse _ (k := 4) (by decide) (by decide)) kk) ?_
      refine cr_EEr (r_iret (pc := 14) dX4_wanted_14 rfl rfl) ?_
      exact x_leaf (by unfold m_wanted; first | grind | (repeat (first | rw [if_pos (by grind)] | rw [if_neg (by grind)]))) (x_I_ref ht hJ hX (by decide))
theorem x_pc {X A : cr_M} {c j : Nat} {t : Int32} (hj : j < 13) : c_wait (fun j => cr_mg X 11 13 A (11 + j)) c t j = c_wait A c t j := by
  unfold c_wait
  exact cr_up_cg (cr_up_cg (cr_up_cg (cr_mg_in hj)))
theorem x_ph {X A : cr_M} {k j : Nat} {t : Int32} (hj : j < 9) : h_let (fun j => cr_mg X 11 13 A (2 + j)) k t j = h_let (fun j => X (2 + j)) k t j := by
  have e : ∀ q, q < 9 → cr_mg X 11 13 A (2 + q) = X (2 + q) := fun q hq => cr_mg_out (by omega)
  unfold h_let
  simp only [e 4 (by omega)]
  exact cr_up_cg (cr_up_cg (cr_up_cg (e j hj)))
set_option maxHeartbeats 4000000 in
theorem th_pass {X N : cr_M} (h s l : Int32) (hI : x_I X N) : ∃ z, cr_EvM Y_X5_pass [.inr (.inr 0), .inl h, .inl s, .inl l] N (some (.inl z.1), z.2) ∧ cr_EE Y_X4_pass 0 (cr_al 0 [.inr (.inr 0), .inl h, .inl s, .inl l]) [] X (x_P z) := by
  obtain ⟨hn, cn, tk, ht, hJ, hX⟩ := hI
  obtain ⟨h10, h200, z3, z4, z5, z6, z7⟩ := r_X_z hX
  have s4 : N 0 4 = nI hn := hJ.1.2.2.1
  have s5 : N 0 5 = nI cn := hJ.1.2.2.2.1
  rcases cr_ix h (n := cn) (by omega) with hq | ⟨c, hc, rfl⟩
  · have hhas : ¬ (0 ≤ h ∧ h < X 11 0) := by rw [z4]; exact hq
    refine ⟨(-1, n_ref N 1), ev_X5_pass_n N h s l s5 (Or.inl hq), ?_⟩
    refine cr_EEl (fun _ kk => e_aload_n (pc := 0) dX4_pass_0 rfl kk) ?_
    refine cr_EEl (fun _ kk => e_getA (pc := 1) dX4_pass_1 f_4_10 rfl rfl kk) ?_
    refine cr_EEl (fun _ kk => e_getA (pc := 4) dX4_pass_4 f_4_78 rfl rfl kk) ?_
    refine cr_EEl (fun _ kk => e_iload_n (pc := 7) dX4_pass_7 rfl kk) ?_
    refine cr_EEl (fun _ kk => e_offR1i (pc := 8) (M' := fun _ _ => 0) dX4_pass_8 cs_X4_pass_106 cv_X0_has rc_X0_has fit_shR_shC_11 (by decide) (Nat.le_of_ble_eq_true rfl) (ev_X0_hasF (M := fun j => X (11 + j)) hhas) kk) ?_
    refine cr_EEb (fun _ k1 k2 => e_if_eq (pc := 11) (tgt := 21) dX4_pass_11 (by decide) k1 k2) (fun hc_11 => ?_) (fun hc_11 => absurd hc_11 (by decide))
    refine cr_EEl (fun _ kk => e_aload_n (pc := 21) dX4_pass_21 rfl kk) ?_
    refine cr_EEl (fun _ kk => e_iconst (pc := 22) (v := (-1)) dX4_pass_22 (by decide) kk) ?_
    refine cr_EEl (fun _ kk => e_self1i (pc := 23) dX4_pass_23 cs_X4_pass_30 cv_X4_refuse rc_X4_refuse rfl (by decide) (Nat.le_of_ble_eq_true rfl) (ev_X4_refuse _ (k := 1) (by decide) (by decide)) kk) ?_
    refine cr_EEr (r_iret (pc := 26) dX4_pass_26 rfl rfl) ?_
    exact x_leaf rfl (x_I_ref ht hJ hX (by decide))
  · have hhas : 0 ≤ nI c ∧ nI c < X 11 0 := by rw [z4]; exact cr_ix_in hc (by omega)
    obtain ⟨y1, y2, y3, y4, y5, y6, y7, y8, y9, y10, y11, y12⟩ := (r_X_C hX).2.2 c hc
    have y1 : X 12 c = N 16 c := y1
    rcases cr_ix s (n := 4) (by decide) with hsrt | ⟨s, hs, rfl⟩
    · have hsrt : ¬ (0 ≤ s ∧ s < 4) := hsrt
      refine ⟨(-1, n_ref N 1), ev_X5_pass_n N (nI c) s l s5 (Or.inr hsrt), ?_⟩
      refine cr_EEl (fun _ kk => e_aload_n (pc := 0) dX4_pass_0 rfl kk) ?_
      refine cr_EEl (fun _ kk => e_getA (pc := 1) dX4_pass_1 f_4_10 rfl rfl kk) ?_
      refine cr_EEl (fun _ kk => e_getA (pc := 4) dX4_pass_4 f_4_78 rfl rfl kk) ?_
      refine cr_EEl (fun _ kk => e_iload_n (pc := 7) dX4_pass_7 rfl kk) ?_
      refine cr_EEl (fun _ kk => e_offR1i (pc := 8) (M' := fun _ _ => 0) dX4_pass_8 cs_X4_pass_106 cv_X0_has rc_X0_has fit_shR_shC_11 (by decide) (Nat.le_of_ble_eq_true rfl) (ev_X0_hasT (M := fun j => X (11 + j)) hhas) kk) ?_
      refine cr_EEb (fun _ k1 k2 => e_if_eq (pc := 11) (tgt := 21) dX4_pass_11 (by decide) k1 k2) (fun hc_11 => absurd hc_11 (by decide)) (fun hc_11 => ?_)
      refine cr_EEl (fun _ kk => e_iload_n (pc := 14) dX4_pass_14 rfl kk) ?_
      refine cr_EEl (fun _ kk => e_stat1i (pc := 15) dX4_pass_15 cs_X4_pass_55 st_X4_isSort rfl (by decide) (Nat.le_of_ble_eq_true rfl) (ev_X4_isSortF hsrt) kk) ?_
      refine cr_EEn (fun _ k1 k2 => e_if_ne (pc := 18) (tgt := 27) dX4_pass_18 (by decide) k1 k2) (fun hc_18 => absurd hc_18 (by decide)) (fun hc_18 => ?_)
      refine cr_EEl (fun _ kk => e_aload_n (pc := 21) dX4_pass_21 rfl kk) ?_
      refine cr_EEl (fun _ kk => e_iconst (pc := 22) (v := (-1)) dX4_pass_22 (by decide) kk) ?_
      refine cr_EEl (fun _ kk => e_self1i (pc := 23) dX4_pass_23 cs_X4_pass_30 cv_X4_refuse rc_X4_refuse rfl (by decide) (Nat.le_of_ble_eq_true rfl) (ev_X4_refuse _ (k := 1) (by decide) (by decide)) kk) ?_
      refine cr_EEr (r_iret (pc := 26) dX4_pass_26 rfl rfl) ?_
      exact x_leaf rfl (x_I_ref ht hJ hX (by decide))
    · have hsrt : 0 ≤ nI s ∧ nI s < 4 := cr_ix_in (n := 4) hs (by decide)
      refine ⟨m_pass N c (nI s) l, ev_X5_pass l s5 h200 h10 hc hs (fun q => ((hJ.2.2.2.2.2.1 c hc).2.2.2.2.1 q).1), ?_⟩
      refine cr_EEl (fun _ kk => e_aload_n (pc := 0) dX4_pass_0 rfl kk) ?_
      refine cr_EEl (fun _ kk => e_getA (pc := 1) dX4_pass_1 f_4_10 rfl rfl kk) ?_
      refine cr_EEl (fun _ kk => e_getA (pc := 4) dX4_pass_4 f_4_78 rfl rfl kk) ?_
      refine cr_EEl (fun _ kk => e_iload_n (pc := 7) dX4_pass_7 rfl kk) ?_
      refine cr_EEl (fun _ kk => e_offR1i (pc := 8) (M' := fun _ _ => 0) dX4_pass_8 cs_X4_pass_106 cv_X0_has rc_X0_has fit_shR_shC_11 (by decide) (Nat.le_of_ble_eq_true rfl) (ev_X0_hasT (M := fun j => X (11 + j)) hhas) kk) ?_
      refine cr_EEb (fun _ k1 k2 => e_if_eq (pc := 11) (tgt := 21) dX4_pass_11 (by decide) k1 k2) (fun hc_11 => absurd hc_11 (by decide)) (fun hc_11 => ?_)
      refine cr_EEl (fun _ kk => e_iload_n (pc := 14) dX4_pass_14 rfl kk) ?_
      refine cr_EEl (fun _ kk => e_stat1i (pc := 15) dX4_pass_15 cs_X4_pass_55 st_X4_isSort rfl (by decide) (Nat.le_of_ble_eq_true rfl) (ev_X4_isSortT hsrt) kk) ?_
      refine cr_EEn (fun _ k1 k2 => e_if_ne (pc := 18) (tgt := 27) dX4_pass_18 (by decide) k1 k2) (fun hc_18 => ?_) (fun hc_18 => absurd hc_18 (by decide))
      refine cr_EEl (fun _ kk => e_aload_n (pc := 27) dX4_pass_27 rfl kk) ?_
      refine cr_EEl (fun _ kk => e_getA (pc := 28) dX4_pass_28 f_4_10 rfl rfl kk) ?_
      refine cr_EEl (fun _ kk => e_getA (pc := 31) dX4_pass_31 f_4_78 rfl rfl kk) ?_
      refine cr_EEl (fun _ kk => e_getA (pc := 34) dX4_pass_34 f_4_107 rfl rfl kk) ?_
      refine cr_EEl (fun _ kk => e_iload_n (pc := 37) dX4_pass_37 rfl kk) ?_
      first | refine cr_EEl (fun _ kk => e_ialdN (pc := 38) dX4_pass_38 rfl (by omega) (by decide) kk) ?_ | refine cr_EEl (fun _ kk => e_iald (pc := 38) dX4_pass_38 rfl (by assumption) kk) ?_
      refine cr_EEl (fun _ kk => e_iconst (pc := 39) (v := 1) dX4_pass_39 (by decide) kk) ?_
      refine cr_EEb (fun _ k1 k2 => e_icmp_eq (pc := 40) (tgt := 50) dX4_pass_40 (by decide) k1 k2) (fun hc_40 => ?_) (fun hc_40 => ?_)
      · refine cr_EEl (fun _ kk => e_iload_n (pc := 50) dX4_pass_50 rfl kk) ?_
        refine cr_EEl (fun _ kk => e_iconst (pc := 51) (v := 1) dX4_pass_51 (by decide) kk) ?_
        refine cr_EEl (fun _ kk => e_sipush (pc := 52) (v := 1000) dX4_pass_52 (by decide) kk) ?_
        refine cr_EEl (fun _ kk => e_stat3i (pc := 55) dX4_pass_55 cs_X4_pass_58 st_X4_outside rfl (by decide) (Nat.le_of_ble_eq_true rfl) (ev_X4_outside _ _ _ _) kk) ?_
        rcases x_out_c l 1 1000 with ⟨ho1, he⟩ | ⟨ho1, ho2, he⟩ | ⟨ho1, ho2, he⟩
        · rw [he]
          refine cr_EEl (fun _ kk => e_istore (pc := 58) dX4_pass_58 (by decide) kk) ?_
          refine cr_EEl (fun _ kk => e_iload (pc := 60) dX4_pass_60 rfl kk) ?_
          refine cr_EEb (fun _ k1 k2 => e_if_eq (pc := 62) (tgt := 72) dX4_pass_62 (by decide) k1 k2) (fun hc_62 => absurd hc_62 (by decide)) (fun hc_62 => ?_)
          refine cr_EEl (fun _ kk => e_aload_n (pc := 65) dX4_pass_65 rfl kk) ?_
          refine cr_EEl (fun _ kk => e_iload (pc := 66) dX4_pass_66 rfl kk) ?_
          refine cr_EEl (fun _ kk => e_self1i (pc := 68) dX4_pass_68 cs_X4_pass_30 cv_X4_refuse rc_X4_refuse rfl (by decide) (Nat.le_of_ble_eq_true rfl) (ev_X4_refuse _ (k := 4) (by decide) (by decide)) kk) ?_
          refine cr_EEr (r_iret (pc := 71) dX4_pass_71 rfl rfl) ?_
          exact x_leaf (by unfold m_pass; first | grind | (repeat (first | rw [if_pos (by grind)] | rw [if_neg (by grind)]))) (x_I_ref ht hJ hX (by decide))
        · rw [he]
          refine cr_EEl (fun _ kk => e_istore (pc := 58) dX4_pass_58 (by decide) kk) ?_
          refine cr_EEl (fun _ kk => e_iload (pc := 60) dX4_pass_60 rfl kk) ?_
          refine cr_EEb (fun _ k1 k2 => e_if_eq (pc := 62) (tgt := 72) dX4_pass_62 (by decide) k1 k2) (fun hc_62 => absurd hc_62 (by decide)) (fun hc_62 => ?_)
          refine cr_EEl (fun _ kk => e_aload_n (pc := 65) dX4_pass_65 rfl kk) ?_
          refine cr_EEl (fun _ kk => e_iload (pc := 66) dX4_pass_66 rfl kk) ?_
          refine cr_EEl (fun _ kk => e_self1i (pc := 68) dX4_pass_68 cs_X4_pass_30 cv_X4_refuse rc_X4_refuse rfl (by decide) (Nat.le_of_ble_eq_true rfl) (ev_X4_refuse _ (k := 6) (by decide) (by decide)) kk) ?_
          refine cr_EEr (r_iret (pc := 71) dX4_pass_71 rfl rfl) ?_
          exact x_leaf (by unfold m_pass; first | grind | (repeat (first | rw [if_pos (by grind)] | rw [if_neg (by grind)]))) (x_I_ref ht hJ hX (by decide))
        · rw [he]
          refine cr_EEl (fun _ kk => e_istore (pc := 58) dX4_pass_58 (by decide) kk) ?_
          refine cr_EEl (fun _ kk => e_iload (pc := 60) dX4_pass_60 rfl kk) ?_
          refine cr_EEb (fun _ k1 k2 => e_if_eq (pc := 62) (tgt := 72) dX4_pass_62 (by decide) k1 k2) (fun hc_62 => ?_) (fun hc_62 => absurd hc_62 (by decide))
          obtain ⟨l', hl', rfl⟩ := nI_of2 (x := l) (M := 1000) (n := 1000) (by decide) (by grind) (by grind)
          have hl1 : 1 ≤ l' := by
            have : ¬ nI l' < nI 1 := ho1
            rw [nI_ltI (by omega) (by omega)] at this; omega
          have h16 : N 16 c = 1 := by rw [← y1]; exact hc_40
          obtain ⟨⟨k, hk, h18⟩, -⟩ := (hJ.2.2.2.2.2.1 c hc).2.2.2.2.1 h16
          have e20 : X 20 c = nI k := Eq.trans y9 h18
          refine cr_EEl (fun _ kk => e_aload_n (pc := 72) dX4_pass_72 rfl kk) ?_
          refine cr_EEl (fun _ kk => e_getA (pc := 73) dX4_pass_73 f_4_10 rfl rfl kk) ?_
          refine cr_EEl (fun _ kk => e_getA (pc := 76) dX4_pass_76 f_4_78 rfl rfl kk) ?_
          refine cr_EEl (fun _ kk => e_getA (pc := 79) dX4_pass_79 f_4_108 rfl rfl kk) ?_
          refine cr_EEl (fun _ kk => e_iload_n (pc := 82) dX4_pass_82 rfl kk) ?_
          refine cr_EEl (fun _ kk => e_ialdV (pc := 83) (nI k) dX4_pass_83 rfl (by omega) (by decide) e20 kk) ?_
          refine cr_EEl (fun _ kk => e_istore (pc := 84) dX4_pass_84 (by decide) kk) ?_
          refine cr_EEl (fun _ kk => e_aload_n (pc := 86) dX4_pass_86 rfl kk) ?_
          refine cr_EEl (fun _ kk => e_getA (pc := 87) dX4_pass_87 f_4_10 rfl rfl kk) ?_
          refine cr_EEl (fun _ kk => e_getA (pc := 90) dX4_pass_90 f_4_78 rfl rfl kk) ?_
          refine cr_EEl (fun _ kk => e_iload_n (pc := 93) dX4_pass_93 rfl kk) ?_
          refine cr_EEl (fun _ kk => e_iload_n (pc := 94) dX4_pass_94 rfl kk) ?_
          refine cr_EEl (fun _ kk => e_iload_n (pc := 95) dX4_pass_95 rfl kk) ?_
          refine cr_EEl (fun _ kk => e_aload_n (pc := 96) dX4_pass_96 rfl kk) ?_
          refine cr_EEl (fun _ kk => e_getA (pc := 97) dX4_pass_97 f_4_10 rfl rfl kk) ?_
          refine cr_EEl (fun _ kk => e_getA (pc := 100) dX4_pass_100 f_4_78 rfl rfl kk) ?_
          refine cr_EEl (fun _ kk => e_getA (pc := 103) dX4_pass_103 f_4_111 rfl rfl kk) ?_
          refine cr_EEl (fun _ kk => e_iload_n (pc := 106) dX4_pass_106 rfl kk) ?_
          first | refine cr_EEl (fun _ kk => e_ialdN (pc := 107) dX4_pass_107 rfl (by omega) (by decide) kk) ?_ | refine cr_EEl (fun _ kk => e_iald (pc := 107) dX4_pass_107 rfl (by assumption) kk) ?_
          refine cr_EEl (fun _ kk => e_offn4v (pc := 108) 13 dX4_pass_108 cs_X4_pass_86 cv_X0_describe rc_X0_describe fit_shR_shC_11 (by decide) rfl (Nat.le_of_ble_eq_true rfl) (ev_X0_describe (fun j => X (11 + j)) _ _ _ (by omega)) kk) ?_
          refine cr_EEl (fun _ kk => e_aload_n (pc := 111) dX4_pass_111 rfl kk) ?_
          refine cr_EEl (fun _ kk => e_getA (pc := 112) dX4_pass_112 f_4_10 rfl rfl kk) ?_
          refine cr_EEl (fun _ kk => e_getA (pc := 115) dX4_pass_115 f_4_78 rfl rfl kk) ?_
          refine cr_EEl (fun _ kk => e_iload_n (pc := 118) dX4_pass_118 rfl kk) ?_
          refine cr_EEl (fun _ kk => e_aload_n (pc := 119) dX4_pass_119 rfl kk) ?_
          refine cr_EEl (fun _ kk => e_getA (pc := 120) dX4_pass_120 f_4_10 rfl rfl kk) ?_
          refine cr_EEl (fun _ kk => e_getIv (pc := 123) (X 1 4) dX4_pass_123 f_4_44 rfl rfl rfl kk) ?_
          refine cr_EEl (fun _ kk => e_offn2v (pc := 126) 13 dX4_pass_126 cs_X4_pass_114 cv_X0_waitAgain rc_X0_waitAgain fit_shR_shC_11 (by decide) rfl (Nat.le_of_ble_eq_true rfl) (ev_X0_waitAgain _ _ (by omega)) kk) ?_
          refine cr_EEl (fun _ kk => e_aload_n (pc := 129) dX4_pass_129 rfl kk) ?_
          refine cr_EEl (fun _ kk => e_getA (pc := 130) dX4_pass_130 f_4_10 rfl rfl kk) ?_
          refine cr_EEl (fun _ kk => e_getA (pc := 133) dX4_pass_133 f_4_34 rfl rfl kk) ?_
          refine cr_EEl (fun _ kk => e_iload (pc := 136) dX4_pass_136 rfl kk) ?_
          refine cr_EEl (fun _ kk => e_aload_n (pc := 138) dX4_pass_138 rfl kk) ?_
          refine cr_EEl (fun _ kk => e_getA (pc := 139) dX4_pass_139 f_4_10 rfl rfl kk) ?_
          refine cr_EEl (fun _ kk => e_getIv (pc := 142) (X 1 4) dX4_pass_142 f_4_44 rfl rfl rfl kk) ?_
          refine cr_EEl (fun _ kk => e_offn2v (pc := 145) 9 dX4_pass_145 cs_X4_pass_117 cv_X2_letGo rc_X2_letGo fit_shR_shH_2 (by decide) rfl (Nat.le_of_ble_eq_true rfl) (ev_X2_letGo _ (hn := hn) _ z3 h10 hk) kk) ?_
          refine cr_EEl (fun _ kk => e_iload (pc := 148) dX4_pass_148 rfl kk) ?_
          refine cr_EEr (r_iret (pc := 150) dX4_pass_150 rfl rfl) ?_
          refine x_leaf (N' := n_pass N c (nI s) (nI l') k) (by unfold m_pass; rw [h18, nI_clamp (by omega), if_pos h16, if_neg (by grind), if_neg (by grind)]) ?_
          rw [cr_mg_mg]
          exact x_I_pass ht hJ hX hc h16 hk h18 hs hl1 hl' (fun j hj => x_pc hj) (fun j hj => x_ph hj)
      · refine cr_EEl (fun _ kk => e_aload_n (pc := 43) dX4_pass_43 rfl kk) ?_
        refine cr_EEl (fun _ kk => e_bipush (pc := 44) (v := (-2)) dX4_pass_44 (by decide) kk) ?_
        refine cr_EEl (fun _ kk => e_self1i (pc := 46) dX4_pass_46 cs_X4_pass_30 cv_X4_refuse rc_X4_refuse rfl (by decide) (Nat.le_of_ble_eq_true rfl) (ev_X4_refuse _ (k := 2) (by decide) (by decide)) kk) ?_
        refine cr_EEr (r_iret (pc := 49) dX4_pass_49 rfl rfl) ?_
        exact x_leaf (by unfold m_pass; first | grind | (repeat (first | rw [if_pos (by grind)] | rw [if_neg (by grind)]))) (x_I_ref ht hJ hX (by decide))
set_option maxHeartbeats 4000000 in
theorem th_helperOf {X N : cr_M} (h w : Int32) (hI : x_I X N) : ∃ z, cr_EvM Y_X5_helperOf [.inr (.inr 0), .inl h, .inl w] N (some (.inl z.1), z.2) ∧ cr_EE Y_X4_helperOf 0 (cr_al 0 [.inr (.inr 0), .inl h, .inl w]) [] X (x_P z) := by
  obtain ⟨hn, cn, tk, ht, hJ, hX⟩ := hI
  obtain ⟨h10, h200, z3, z4, z5, z6, z7⟩ := r_X_z hX
  have s4 : N 0 4 = nI hn := hJ.1.2.2.1
  have s5 : N 0 5 = nI cn := hJ.1.2.2.2.1
  rcases cr_ix h (n := hn) (by omega) with hq | ⟨k, hk, rfl⟩
  · have hhas : ¬ (0 ≤ h ∧ h < X 2 0) := by rw [z3]; exact hq
    refine ⟨(-1, n_ref N 1), ev_X5_helperOf_n N h w s4 hq, ?_⟩
    refine cr_EEl (fun _ kk => e_aload_n (pc := 0) dX4_helperOf_0 rfl kk) ?_
    refine cr_EEl (fun _ kk => e_getA (pc := 1) dX4_helperOf_1 f_4_10 rfl rfl kk) ?_
    refine cr_EEl (fun _ kk => e_getA (pc := 4) dX4_helperOf_4 f_4_34 rfl rfl kk) ?_
    refine cr_EEl (fun _ kk => e_astore_n (pc := 7) dX4_helperOf_7 (by decide) kk) ?_
    refine cr_EEl (fun _ kk => e_aload_n (pc := 8) dX4_helperOf_8 rfl kk) ?_
    refine cr_EEl (fun _ kk => e_iload_n (pc := 9) dX4_helperOf_9 rfl kk) ?_
    refine cr_EEl (fun _ kk => e_offR1i (pc := 10) (M' := fun _ _ => 0) dX4_helperOf_10 cs_X4_helperOf_51 cv_X2_has rc_X2_has fit_shR_shH_2 (by decide) (Nat.le_of_ble_eq_true rfl) (ev_X2_hasF (M := fun j => X (2 + j)) hhas) kk) ?_
    refine cr_EEn (fun _ k1 k2 => e_if_ne (pc := 13) (tgt := 22) dX4_helperOf_13 (by decide) k1 k2) (fun hc_13 => absurd hc_13 (by decide)) (fun hc_13 => ?_)
    refine cr_EEl (fun _ kk => e_aload_n (pc := 16) dX4_helperOf_16 rfl kk) ?_
    refine cr_EEl (fun _ kk => e_iconst (pc := 17) (v := (-1)) dX4_helperOf_17 (by decide) kk) ?_
    refine cr_EEl (fun _ kk => e_self1i (pc := 18) dX4_helperOf_18 cs_X4_helperOf_30 cv_X4_refuse rc_X4_refuse rfl (by decide) (Nat.le_of_ble_eq_true rfl) (ev_X4_refuse _ (k := 1) (by decide) (by decide)) kk) ?_
    refine cr_EEr (r_iret (pc := 21) dX4_helperOf_21 rfl rfl) ?_
    exact x_leaf rfl (x_I_ref ht hJ hX (by decide))
  · have hhas : 0 ≤ nI k ∧ nI k < X 2 0 := by rw [z3]; exact cr_ix_in hk (by omega)
    obtain ⟨-, e5, e6, e22, -, e8, e9, e7⟩ := (r_X_H hX).2.2 k hk
    refine ⟨(m_hof cn N k w, N), ev_X5_helperOf w s4 s5 h10 h200 hk, ?_⟩
    refine cr_EEl (fun _ kk => e_aload_n (pc := 0) dX4_helperOf_0 rfl kk) ?_
    refine cr_EEl (fun _ kk => e_getA (pc := 1) dX4_helperOf_1 f_4_10 rfl rfl kk) ?_
    refine cr_EEl (fun _ kk => e_getA (pc := 4) dX4_helperOf_4 f_4_34 rfl rfl kk) ?_
    refine cr_EEl (fun _ kk => e_astore_n (pc := 7) dX4_helperOf_7 (by decide) kk) ?_
    refine cr_EEl (fun _ kk => e_aload_n (pc := 8) dX4_helperOf_8 rfl kk) ?_
    refine cr_EEl (fun _ kk => e_iload_n (pc := 9) dX4_helperOf_9 rfl kk) ?_
    refine cr_EEl (fun _ kk => e_offR1i (pc := 10) (M' := fun _ _ => 0) dX4_helperOf_10 cs_X4_helperOf_51 cv_X2_has rc_X2_has fit_shR_shH_2 (by decide) (Nat.le_of_ble_eq_true rfl) (ev_X2_hasT (M := fun j => X (2 + j)) hhas) kk) ?_
    refine cr_EEn (fun _ k1 k2 => e_if_ne (pc := 13) (tgt := 22) dX4_helperOf_13 (by decide) k1 k2) (fun hc_13 => ?_) (fun hc_13 => absurd hc_13 (by decide))
    refine cr_EEl (fun _ kk => e_iload_n (pc := 22) dX4_helperOf_22 rfl kk) ?_
    refine cr_EEb (fun _ k1 k2 => e_tsw1 (pc := 23) 0 dX4_helperOf_23 (by decide) (by decide) (off := 69) (tgt := 92) rfl (by decide) k1 k2) (fun hs_23_0 => ?_) (fun hs_23_0 => ?_)
    · refine cr_EEl (fun _ kk => e_aload_n (pc := 92) dX4_helperOf_92 rfl kk) ?_
      refine cr_EEl (fun _ kk => e_getA (pc := 93) dX4_helperOf_93 f_4_69 rfl rfl kk) ?_
      refine cr_EEl (fun _ kk => e_iload_n (pc := 96) dX4_helperOf_96 rfl kk) ?_
      refine cr_EEl (fun _ kk => e_ialdV (pc := 97) (N 5 k) dX4_helperOf_97 rfl (by omega) (by decide) e5 kk) ?_
      refine cr_EEr (r_iret (pc := 98) dX4_helperOf_98 rfl rfl) ?_
      exact x_leaf (congrArg (fun z => (z, N)) (by unfold m_hof; grind)) ⟨hn, cn, tk, ht, hJ, hX⟩
    refine cr_EEb (fun _ k1 k2 => e_tsw1 (pc := 23) 1 dX4_helperOf_23 (by decide) (by decide) (off := 76) (tgt := 99) rfl (by decide) k1 k2) (fun hs_23_1 => ?_) (fun hs_23_1 => ?_)
    · refine cr_EEl (fun _ kk => e_aload_n (pc := 99) dX4_helperOf_99 rfl kk) ?_
      refine cr_EEl (fun _ kk => e_getA (pc := 100) dX4_helperOf_100 f_4_164 rfl rfl kk) ?_
      refine cr_EEl (fun _ kk => e_iload_n (pc := 103) dX4_helperOf_103 rfl kk) ?_
      refine cr_EEl (fun _ kk => e_ialdV (pc := 104) (N 22 k) dX4_helperOf_104 rfl (by omega) (by decide) e22 kk) ?_
      refine cr_EEr (r_iret (pc := 105) dX4_helperOf_105 rfl rfl) ?_
      exact x_leaf (congrArg (fun z => (z, N)) (by unfold m_hof; grind)) ⟨hn, cn, tk, ht, hJ, hX⟩
    refine cr_EEb (fun _ k1 k2 => e_tsw1 (pc := 23) 2 dX4_helperOf_23 (by decide) (by decide) (off := 83) (tgt := 106) rfl (by decide) k1 k2) (fun hs_23_2 => ?_) (fun hs_23_2 => ?_)
    · refine cr_EEl (fun _ kk => e_aload_n (pc := 106) dX4_helperOf_106 rfl kk) ?_
      refine cr_EEl (fun _ kk => e_getA (pc := 107) dX4_helperOf_107 f_4_10 rfl rfl kk) ?_
      refine cr_EEl (fun _ kk => e_getA (pc := 110) dX4_helperOf_110 f_4_78 rfl rfl kk) ?_
      refine cr_EEl (fun _ kk => e_iload_n (pc := 113) dX4_helperOf_113 rfl kk) ?_
      refine cr_EEl (fun _ kk => e_offR1i (pc := 114) (M' := fun _ _ => 0) dX4_helperOf_114 cs_X4_helperOf_167 cv_X0_firstWith rc_X0_firstWith fit_shR_shC_11 (by decide) (Nat.le_of_ble_eq_true rfl) (ev_X0_firstWith _ z4 h200) kk) ?_
      refine cr_EEr (r_iret (pc := 117) dX4_helperOf_117 rfl rfl) ?_
      exact x_leaf (congrArg (fun z => (z, N)) (by unfold m_hof; rw [if_neg (by grind), if_neg (by grind), if_pos (by grind)]; exact (c_fw_n (r_X_C hX) cn 0 (by omega)).symm)) ⟨hn, cn, tk, ht, hJ, hX⟩
    refine cr_EEb (fun _ k1 k2 => e_tsw1 (pc := 23) 3 dX4_helperOf_23 (by decide) (by decide) (off := 95) (tgt := 118) rfl (by decide) k1 k2) (fun hs_23_3 => ?_) (fun hs_23_3 => ?_)
    · refine cr_EEl (fun _ kk => e_aload_n (pc := 118) dX4_helperOf_118 rfl kk) ?_
      refine cr_EEl (fun _ kk => e_getA (pc := 119) dX4_helperOf_119 f_4_170 rfl rfl kk) ?_
      refine cr_EEl (fun _ kk => e_iload_n (pc := 122) dX4_helperOf_122 rfl kk) ?_
      refine cr_EEl (fun _ kk => e_ialdV (pc := 123) (N 6 k) dX4_helperOf_123 rfl (by omega) (by decide) e6 kk) ?_
      refine cr_EEr (r_iret (pc := 124) dX4_helperOf_124 rfl rfl) ?_
      exact x_leaf (congrArg (fun z => (z, N)) (by unfold m_hof; grind)) ⟨hn, cn, tk, ht, hJ, hX⟩
    refine cr_EEb (fun _ k1 k2 => e_tsw1 (pc := 23) 4 dX4_helperOf_23 (by decide) (by decide) (off := 102) (tgt := 125) rfl (by decide) k1 k2) (fun hs_23_4 => ?_) (fun hs_23_4 => ?_)
    · refine cr_EEl (fun _ kk => e_aload_n (pc := 125) dX4_helperOf_125 rfl kk) ?_
      refine cr_EEl (fun _ kk => e_getA (pc := 126) dX4_helperOf_126 f_4_173 rfl rfl kk) ?_
      refine cr_EEl (fun _ kk => e_iload_n (pc := 129) dX4_helperOf_129 rfl kk) ?_
      refine cr_EEl (fun _ kk => e_ialdV (pc := 130) (N 8 k) dX4_helperOf_130 rfl (by omega) (by decide) e8 kk) ?_
      refine cr_EEr (r_iret (pc := 131) dX4_helperOf_131 rfl rfl) ?_
      exact x_leaf (congrArg (fun z => (z, N)) (by unfold m_hof; grind)) ⟨hn, cn, tk, ht, hJ, hX⟩
    refine cr_EEb (fun _ k1 k2 => e_tsw1 (pc := 23) 5 dX4_helperOf_23 (by decide) (by decide) (off := 109) (tgt := 132) rfl (by decide) k1 k2) (fun hs_23_5 => ?_) (fun hs_23_5 => ?_)
    · refine cr_EEl (fun _ kk => e_aload_n (pc := 132) dX4_helperOf_132 rfl kk) ?_
      refine cr_EEl (fun _ kk => e_getA (pc := 133) dX4_helperOf_133 f_4_176 rfl rfl kk) ?_
      refine cr_EEl (fun _ kk => e_iload_n (pc := 136) dX4_helperOf_136 rfl kk) ?_
      refine cr_EEl (fun _ kk => e_ialdV (pc := 137) (N 9 k) dX4_helperOf_137 rfl (by omega) (by decide) e9 kk) ?_
      refine cr_EEr (r_iret (pc := 138) dX4_helperOf_138 rfl rfl) ?_
      exact x_leaf (congrArg (fun z => (z, N)) (by unfold m_hof; grind)) ⟨hn, cn, tk, ht, hJ, hX⟩
    refine cr_EEb (fun _ k1 k2 => e_tsw1 (pc := 23) 6 dX4_helperOf_23 (by decide) (by decide) (off := 116) (tgt := 139) rfl (by decide) k1 k2) (fun hs_23_6 => ?_) (fun hs_23_6 => ?_)
    · refine cr_EEl (fun _ kk => e_aload_n (pc := 139) dX4_helperOf_139 rfl kk) ?_
      refine cr_EEl (fun _ kk => e_getA (pc := 140) dX4_helperOf_140 f_4_69 rfl rfl kk) ?_
      refine cr_EEl (fun _ kk => e_iload_n (pc := 143) dX4_helperOf_143 rfl kk) ?_
      refine cr_EEl (fun _ kk => e_ialdV (pc := 144) (N 5 k) dX4_helperOf_144 rfl (by omega) (by decide) e5 kk) ?_
      refine cr_EEl (fun _ kk => e_iconst (pc := 145) (v := 3) dX4_helperOf_145 (by decide) kk) ?_
      refine cr_EEn (fun _ k1 k2 => e_icmp_ne (pc := 146) (tgt := 158) dX4_helperOf_146 (by decide) k1 k2) (fun hc_146 => ?_) (fun hc_146 => ?_)
      · refine cr_EEl (fun _ kk => e_bipush (pc := 158) (v := (-9)) dX4_helperOf_158 (by decide) kk) ?_
        refine cr_EEr (r_iret (pc := 160) dX4_helperOf_160 rfl rfl) ?_
        exact x_leaf (congrArg (fun z => (z, N)) (by unfold m_hof; grind)) ⟨hn, cn, tk, ht, hJ, hX⟩
      · refine cr_EEl (fun _ kk => e_aload_n (pc := 149) dX4_helperOf_149 rfl kk) ?_
        refine cr_EEl (fun _ kk => e_getA (pc := 150) dX4_helperOf_150 f_4_75 rfl rfl kk) ?_
        refine cr_EEl (fun _ kk => e_iload_n (pc := 153) dX4_helperOf_153 rfl kk) ?_
        refine cr_EEl (fun _ kk => e_ialdV (pc := 154) (N 7 k) dX4_helperOf_154 rfl (by omega) (by decide) e7 kk) ?_
        refine cr_EEl (fun _ kk => e_goto (pc := 155) (tgt := 160) dX4_helperOf_155 (by decide) kk) ?_
        refine cr_EEr (r_iret (pc := 160) dX4_helperOf_160 rfl rfl) ?_
        exact x_leaf (congrArg (fun z => (z, N)) (by unfold m_hof; grind)) ⟨hn, cn, tk, ht, hJ, hX⟩
    refine cr_EEb (fun _ k1 k2 => e_tsw1 (pc := 23) 10 dX4_helperOf_23 (by decide) (by decide) (off := 138) (tgt := 161) rfl (by decide) k1 k2) (fun hs_23_10 => ?_) (fun hs_23_10 => ?_)
    · obtain ⟨s, hs, es⟩ : ∃ s, s < 4 ∧ w = nI (10 + s) := by first | exact ⟨0, by decide, hs_23_10⟩ | exact ⟨1, by decide, hs_23_11⟩ | exact ⟨2, by decide, hs_23_12⟩ | exact ⟨3, by decide, hs_23_13⟩
      have es2 : w - 10 = nI s := by rw [es, show (10 : Int32) = nI 10 from rfl, pk_sub (by omega), show 10 + s - 10 = s by omega]
      refine cr_EEl (fun _ kk => e_aload_n (pc := 161) dX4_helperOf_161 rfl kk) ?_
      refine cr_EEl (fun _ kk => e_iload_n (pc := 162) dX4_helperOf_162 rfl kk) ?_
      refine cr_EEl (fun _ kk => e_iload_n (pc := 163) dX4_helperOf_163 rfl kk) ?_
      refine cr_EEl (fun _ kk => e_bipush (pc := 164) (v := 10) dX4_helperOf_164 (by decide) kk) ?_
      refine cr_EEl (fun _ kk => e_isub (pc := 166) dX4_helperOf_166 kk) ?_
      rw [es2]
      refine cr_EEl (fun _ kk => e_offR2i (pc := 167) (M' := fun _ _ => 0) dX4_helperOf_167 cs_X4_helperOf_62 cv_X2_gradeFor rc_X2_gradeFor fit_shR_shH_2 (by decide) (Nat.le_of_ble_eq_true rfl) (ev_X2_gradeForN (r_X_H hX) hk hs) kk) ?_
      refine cr_EEr (r_iret (pc := 170) dX4_helperOf_170 rfl rfl) ?_
      exact x_leaf (congrArg (fun z => (z, N)) (by unfold m_hof; rw [if_neg (by grind), if_neg (by grind), if_neg (by grind), if_neg (by grind), if_neg (by grind), if_neg (by grind), if_neg (by grind), if_pos (by grind), es2, nI_clamp (by omega)])) ⟨hn, cn, tk, ht, hJ, hX⟩
    refine cr_EEb (fun _ k1 k2 => e_tsw1 (pc := 23) 11 dX4_helperOf_23 (by decide) (by decide) (off := 138) (tgt := 161) rfl (by decide) k1 k2) (fun hs_23_11 => ?_) (fun hs_23_11 => ?_)
    · obtain ⟨s, hs, es⟩ : ∃ s, s < 4 ∧ w = nI (10 + s) := by first | exact ⟨0, by decide, hs_23_10⟩ | exact ⟨1, by decide, hs_23_11⟩ | exact ⟨2, by decide, hs_23_12⟩ | exact ⟨3, by decide, hs_23_13⟩
      have es2 : w - 10 = nI s := by rw [es, show (10 : Int32) = nI 10 from rfl, pk_sub (by omega), show 10 + s - 10 = s by omega]
      refine cr_EEl (fun _ kk => e_aload_n (pc := 161) dX4_helperOf_161 rfl kk) ?_
      refine cr_EEl (fun _ kk => e_iload_n (pc := 162) dX4_helperOf_162 rfl kk) ?_
      refine cr_EEl (fun _ kk => e_iload_n (pc := 163) dX4_helperOf_163 rfl kk) ?_
      refine cr_EEl (fun _ kk => e_bipush (pc := 164) (v := 10) dX4_helperOf_164 (by decide) kk) ?_
      refine cr_EEl (fun _ kk => e_isub (pc := 166) dX4_helperOf_166 kk) ?_
      rw [es2]
      refine cr_EEl (fun _ kk => e_offR2i (pc := 167) (M' := fun _ _ => 0) dX4_helperOf_167 cs_X4_helperOf_62 cv_X2_gradeFor rc_X2_gradeFor fit_shR_shH_2 (by decide) (Nat.le_of_ble_eq_true rfl) (ev_X2_gradeForN (r_X_H hX) hk hs) kk) ?_
      refine cr_EEr (r_iret (pc := 170) dX4_helperOf_170 rfl rfl) ?_
      exact x_leaf (congrArg (fun z => (z, N)) (by unfold m_hof; rw [if_neg (by grind), if_neg (by grind), if_neg (by grind), if_neg (by grind), if_neg (by grind), if_neg (by grind), if_neg (by grind), if_pos (by grind), es2, nI_clamp (by omega)])) ⟨hn, cn, tk, ht, hJ, hX⟩
    refine cr_EEb (fun _ k1 k2 => e_tsw1 (pc := 23) 12 dX4_helperOf_23 (by decide) (by decide) (off := 138) (tgt := 161) rfl (by decide) k1 k2) (fun hs_23_12 => ?_) (fun hs_23_12 => ?_)
    · obtain ⟨s, hs, es⟩ : ∃ s, s < 4 ∧ w = nI (10 + s) := by first | exact ⟨0, by decide, hs_23_10⟩ | exact ⟨1, by decide, hs_23_11⟩ | exact ⟨2, by decide, hs_23_12⟩ | exact ⟨3, by decide, hs_23_13⟩
      have es2 : w - 10 = nI s := by rw [es, show (10 : Int32) = nI 10 from rfl, pk_sub (by omega), show 10 + s - 10 = s by omega]
      refine cr_EEl (fun _ kk => e_aload_n (pc := 161) dX4_helperOf_161 rfl kk) ?_
      refine cr_EEl (fun _ kk => e_iload_n (pc := 162) dX4_helperOf_162 rfl kk) ?_
      refine cr_EEl (fun _ kk => e_iload_n (pc := 163) dX4_helperOf_163 rfl kk) ?_
      refine cr_EEl (fun _ kk => e_bipush (pc := 164) (v := 10) dX4_helperOf_164 (by decide) kk) ?_
      refine cr_EEl (fun _ kk => e_isub (pc := 166) dX4_helperOf_166 kk) ?_
      rw [es2]
      refine cr_EEl (fun _ kk => e_offR2i (pc := 167) (M' := fun _ _ => 0) dX4_helperOf_167 cs_X4_helperOf_62 cv_X2_gradeFor rc_X2_gradeFor fit_shR_shH_2 (by decide) (Nat.le_of_ble_eq_true rfl) (ev_X2_gradeForN (r_X_H hX) hk hs) kk) ?_
      refine cr_EEr (r_iret (pc := 170) dX4_helperOf_170 rfl rfl) ?_
      exact x_leaf (congrArg (fun z => (z, N)) (by unfold m_hof; rw [if_neg (by grind), if_neg (by grind), if_neg (by grind), if_neg (by grind), if_neg (by grind), if_neg (by grind), if_neg (by grind), if_pos (by grind), es2, nI_clamp (by omega)])) ⟨hn, cn, tk, ht, hJ, hX⟩
    refine cr_EEb (fun _ k1 k2 => e_tsw1 (pc := 23) 13 dX4_helperOf_23 (by decide) (by decide) (off := 138) (tgt := 161) rfl (by decide) k1 k2) (fun hs_23_13 => ?_) (fun hs_23_13 => ?_)
    · obtain ⟨s, hs, es⟩ : ∃ s, s < 4 ∧ w = nI (10 + s) := by first | exact ⟨0, by decide, hs_23_10⟩ | exact ⟨1, by decide, hs_23_11⟩ | exact ⟨2, by decide, hs_23_12⟩ | exact ⟨3, by decide, hs_23_13⟩
      have es2 : w - 10 = nI s := by rw [es, show (10 : Int32) = nI 10 from rfl, pk_sub (by omega), show 10 + s - 10 = s by omega]
      refine cr_EEl (fun _ kk => e_aload_n (pc := 161) dX4_helperOf_161 rfl kk) ?_
      refine cr_EEl (fun _ kk => e_iload_n (pc := 162) dX4_helperOf_162 rfl kk) ?_
      refine cr_EEl (fun _ kk => e_iload_n (pc := 163) dX4_helperOf_163 rfl kk) ?_
      refine cr_EEl (fun _ kk => e_bipush (pc := 164) (v := 10) dX4_helperOf_164 (by decide) kk) ?_
      refine cr_EEl (fun _ kk => e_isub (pc := 166) dX4_helperOf_166 kk) ?_
      rw [es2]
      refine cr_EEl (fun _ kk => e_offR2i (pc := 167) (M' := fun _ _ => 0) dX4_helperOf_167 cs_X4_helperOf_62 cv_X2_gradeFor rc_X2_gradeFor fit_shR_shH_2 (by decide) (Nat.le_of_ble_eq_true rfl) (ev_X2_gradeForN (r_X_H hX) hk hs) kk) ?_
      refine cr_EEr (r_iret (pc := 170) dX4_helperOf_170 rfl rfl) ?_
      exact x_leaf (congrArg (fun z => (z, N)) (by unfold m_hof; rw [if_neg (by grind), if_neg (by grind), if_neg (by grind), if_neg (by grind), if_neg (by grind), if_neg (by grind), if_neg (by grind), if_pos (by grind), es2, nI_clamp (by omega)])) ⟨hn, cn, tk, ht, hJ, hX⟩
    refine cr_EEb (fun _ k1 k2 => e_tsw1 (pc := 23) 7 dX4_helperOf_23 (by decide) (by decide) (off := 148) (tgt := 171) rfl (by decide) k1 k2) (fun hs_23_7 => ?_) (fun hs_23_7 => ?_)
    · refine cr_EEl (fun _ kk => e_bipush (pc := 171) (v := (-9)) dX4_helperOf_171 (by decide) kk) ?_
      refine cr_EEr (r_iret (pc := 173) dX4_helperOf_173 rfl rfl) ?_
      exact x_leaf (congrArg (fun z => (z, N)) (by unfold m_hof; grind)) ⟨hn, cn, tk, ht, hJ, hX⟩
    refine cr_EEb (fun _ k1 k2 => e_tsw1 (pc := 23) 8 dX4_helperOf_23 (by decide) (by decide) (off := 148) (tgt := 171) rfl (by decide) k1 k2) (fun hs_23_8 => ?_) (fun hs_23_8 => ?_)
    · refine cr_EEl (fun _ kk => e_bipush (pc := 171) (v := (-9)) dX4_helperOf_171 (by decide) kk) ?_
      refine cr_EEr (r_iret (pc := 173) dX4_helperOf_173 rfl rfl) ?_
      exact x_leaf (congrArg (fun z => (z, N)) (by unfold m_hof; grind)) ⟨hn, cn, tk, ht, hJ, hX⟩
    refine cr_EEb (fun _ k1 k2 => e_tsw1 (pc := 23) 9 dX4_helperOf_23 (by decide) (by decide) (off := 148) (tgt := 171) rfl (by decide) k1 k2) (fun hs_23_9 => ?_) (fun hs_23_9 => ?_)
    · refine cr_EEl (fun _ kk => e_bipush (pc := 171) (v := (-9)) dX4_helperOf_171 (by decide) kk) ?_
      refine cr_EEr (r_iret (pc := 173) dX4_helperOf_173 rfl rfl) ?_
      exact x_leaf (congrArg (fun z => (z, N)) (by unfold m_hof; grind)) ⟨hn, cn, tk, ht, hJ, hX⟩
    refine cr_EEl (fun _ kk => e_tswO (pc := 23) (tgt := 171) dX4_helperOf_23 (by have q0 := lv_neT hs_23_0 (a := 0) rfl; have q1 := lv_neT hs_23_1 (a := 1) rfl; have q2 := lv_neT hs_23_2 (a := 2) rfl; have q3 := lv_neT hs_23_3 (a := 3) rfl; have q4 := lv_neT hs_23_4 (a := 4) rfl; have q5 := lv_neT hs_23_5 (a := 5) rfl; have q6 := lv_neT hs_23_6 (a := 6) rfl; have q7 := lv_neT hs_23_7 (a := 7) rfl; have q8 := lv_neT hs_23_8 (a := 8) rfl; have q9 := lv_neT hs_23_9 (a := 9) rfl; have q10 := lv_neT hs_23_10 (a := 10) rfl; have q11 := lv_neT hs_23_11 (a := 11) rfl; have q12 := lv_neT hs_23_12 (a := 12) rfl; have q13 := lv_neT hs_23_13 (a := 13) rfl; omega) (by decide) kk) ?_
    refine cr_EEl (fun _ kk => e_bipush (pc := 171) (v := (-9)) dX4_helperOf_171 (by decide) kk) ?_
    refine cr_EEr (r_iret (pc := 173) dX4_helperOf_173 rfl rfl) ?_
    exact x_leaf (congrArg (fun z => (z, N)) (by unfold m_hof; grind)) ⟨hn, cn, tk, ht, hJ, hX⟩
set_option maxHeartbeats 4000000 in
theorem th_callOf {X N : cr_M} (h w : Int32) (hI : x_I X N) : ∃ z, cr_EvM Y_X5_callOf [.inr (.inr 0), .inl h, .inl w] N (some (.inl z.1), z.2) ∧ cr_EE Y_X4_callOf 0 (cr_al 0 [.inr (.inr 0), .inl h, .inl w]) [] X (x_P z) := by
  obtain ⟨hn, cn, tk, ht, hJ, hX⟩ := hI
  obtain ⟨h10, h200, z3, z4, z5, z6, z7⟩ := r_X_z hX
  have s4 : N 0 4 = nI hn := hJ.1.2.2.1
  have s5 : N 0 5 = nI cn := hJ.1.2.2.2.1
  rcases cr_ix h (n := cn) (by omega) with hq | ⟨c, hc, rfl⟩
  · have hhas : ¬ (0 ≤ h ∧ h < X 11 0) := by rw [z4]; exact hq
    refine ⟨(-1, n_ref N 1), ev_X5_callOf_n N h w s5 hq, ?_⟩
    refine cr_EEl (fun _ kk => e_aload_n (pc := 0) dX4_callOf_0 rfl kk) ?_
    refine cr_EEl (fun _ kk => e_getA (pc := 1) dX4_callOf_1 f_4_10 rfl rfl kk) ?_
    refine cr_EEl (fun _ kk => e_getA (pc := 4) dX4_callOf_4 f_4_78 rfl rfl kk) ?_
    refine cr_EEl (fun _ kk => e_astore_n (pc := 7) dX4_callOf_7 (by decide) kk) ?_
    refine cr_EEl (fun _ kk => e_aload_n (pc := 8) dX4_callOf_8 rfl kk) ?_
    refine cr_EEl (fun _ kk => e_iload_n (pc := 9) dX4_callOf_9 rfl kk) ?_
    refine cr_EEl (fun _ kk => e_offR1i (pc := 10) (M' := fun _ _ => 0) dX4_callOf_10 cs_X4_callOf_106 cv_X0_has rc_X0_has fit_shR_shC_11 (by decide) (Nat.le_of_ble_eq_true rfl) (ev_X0_hasF (M := fun j => X (11 + j)) hhas) kk) ?_
    refine cr_EEn (fun _ k1 k2 => e_if_ne (pc := 13) (tgt := 22) dX4_callOf_13 (by decide) k1 k2) (fun hc_13 => absurd hc_13 (by decide)) (fun hc_13 => ?_)
    refine cr_EEl (fun _ kk => e_aload_n (pc := 16) dX4_callOf_16 rfl kk) ?_
    refine cr_EEl (fun _ kk => e_iconst (pc := 17) (v := (-1)) dX4_callOf_17 (by decide) kk) ?_
    refine cr_EEl (fun _ kk => e_self1i (pc := 18) dX4_callOf_18 cs_X4_callOf_30 cv_X4_refuse rc_X4_refuse rfl (by decide) (Nat.le_of_ble_eq_true rfl) (ev_X4_refuse _ (k := 1) (by decide) (by decide)) kk) ?_
    refine cr_EEr (r_iret (pc := 21) dX4_callOf_21 rfl rfl) ?_
    exact x_leaf rfl (x_I_ref ht hJ hX (by decide))
  · have hhas : 0 ≤ nI c ∧ nI c < X 11 0 := by rw [z4]; exact cr_ix_in hc (by omega)
    obtain ⟨y1, y2, y3, y4, y5, y6, y7, y8, y9, y10, y11, y12⟩ := (r_X_C hX).2.2 c hc
    have y1 : X 12 c = N 16 c := y1
    refine ⟨(m_cof N c w, N), ev_X5_callOf w s5 h200 hc, ?_⟩
    obtain ⟨-, -, -, -, -, -, c7, c8, -⟩ := hJ.2.2.2.2.2.1 c hc
    refine cr_EEl (fun _ kk => e_aload_n (pc := 0) dX4_callOf_0 rfl kk) ?_
    refine cr_EEl (fun _ kk => e_getA (pc := 1) dX4_callOf_1 f_4_10 rfl rfl kk) ?_
    refine cr_EEl (fun _ kk => e_getA (pc := 4) dX4_callOf_4 f_4_78 rfl rfl kk) ?_
    refine cr_EEl (fun _ kk => e_astore_n (pc := 7) dX4_callOf_7 (by decide) kk) ?_
    refine cr_EEl (fun _ kk => e_aload_n (pc := 8) dX4_callOf_8 rfl kk) ?_
    refine cr_EEl (fun _ kk => e_iload_n (pc := 9) dX4_callOf_9 rfl kk) ?_
    refine cr_EEl (fun _ kk => e_offR1i (pc := 10) (M' := fun _ _ => 0) dX4_callOf_10 cs_X4_callOf_106 cv_X0_has rc_X0_has fit_shR_shC_11 (by decide) (Nat.le_of_ble_eq_true rfl) (ev_X0_hasT (M := fun j => X (11 + j)) hhas) kk) ?_
    refine cr_EEn (fun _ k1 k2 => e_if_ne (pc := 13) (tgt := 22) dX4_callOf_13 (by decide) k1 k2) (fun hc_13 => ?_) (fun hc_13 => absurd hc_13 (by decide))
    refine cr_EEl (fun _ kk => e_iload_n (pc := 22) dX4_callOf_22 rfl kk) ?_
    refine cr_EEb (fun _ k1 k2 => e_tsw1 (pc := 23) 0 dX4_callOf_23 (by decide) (by decide) (off := 53) (tgt := 76) rfl (by decide) k1 k2) (fun hs_23_0 => ?_) (fun hs_23_0 => ?_)
    · refine cr_EEl (fun _ kk => e_aload_n (pc := 76) dX4_callOf_76 rfl kk) ?_
      refine cr_EEl (fun _ kk => e_getA (pc := 77) dX4_callOf_77 f_4_107 rfl rfl kk) ?_
      refine cr_EEl (fun _ kk => e_iload_n (pc := 80) dX4_callOf_80 rfl kk) ?_
      refine cr_EEl (fun _ kk => e_ialdV (pc := 81) (N 16 c) dX4_callOf_81 rfl (by omega) (by decide) y1 kk) ?_
      refine cr_EEr (r_iret (pc := 82) dX4_callOf_82 rfl rfl) ?_
      exact x_leaf (congrArg (fun z => (z, N)) (by unfold m_cof; grind)) ⟨hn, cn, tk, ht, hJ, hX⟩
    refine cr_EEb (fun _ k1 k2 => e_tsw1 (pc := 23) 1 dX4_callOf_23 (by decide) (by decide) (off := 60) (tgt := 83) rfl (by decide) k1 k2) (fun hs_23_1 => ?_) (fun hs_23_1 => ?_)
    · refine cr_EEl (fun _ kk => e_aload_n (pc := 83) dX4_callOf_83 rfl kk) ?_
      refine cr_EEl (fun _ kk => e_getA (pc := 84) dX4_callOf_84 f_4_120 rfl rfl kk) ?_
      refine cr_EEl (fun _ kk => e_iload_n (pc := 87) dX4_callOf_87 rfl kk) ?_
      refine cr_EEl (fun _ kk => e_ialdV (pc := 88) (N 10 c) dX4_callOf_88 rfl (by omega) (by decide) y2 kk) ?_
      refine cr_EEr (r_iret (pc := 89) dX4_callOf_89 rfl rfl) ?_
      exact x_leaf (congrArg (fun z => (z, N)) (by unfold m_cof; grind)) ⟨hn, cn, tk, ht, hJ, hX⟩
    refine cr_EEb (fun _ k1 k2 => e_tsw1 (pc := 23) 2 dX4_callOf_23 (by decide) (by decide) (off := 67) (tgt := 90) rfl (by decide) k1 k2) (fun hs_23_2 => ?_) (fun hs_23_2 => ?_)
    · refine cr_EEl (fun _ kk => e_aload_n (pc := 90) dX4_callOf_90 rfl kk) ?_
      refine cr_EEl (fun _ kk => e_getA (pc := 91) dX4_callOf_91 f_4_179 rfl rfl kk) ?_
      refine cr_EEl (fun _ kk => e_iload_n (pc := 94) dX4_callOf_94 rfl kk) ?_
      refine cr_EEl (fun _ kk => e_ialdV (pc := 95) (N 11 c) dX4_callOf_95 rfl (by omega) (by decide) y4 kk) ?_
      refine cr_EEr (r_iret (pc := 96) dX4_callOf_96 rfl rfl) ?_
      exact x_leaf (congrArg (fun z => (z, N)) (by unfold m_cof; grind)) ⟨hn, cn, tk, ht, hJ, hX⟩
    refine cr_EEb (fun _ k1 k2 => e_tsw1 (pc := 23) 3 dX4_callOf_23 (by decide) (by decide) (off := 74) (tgt := 97) rfl (by decide) k1 k2) (fun hs_23_3 => ?_) (fun hs_23_3 => ?_)
    · refine cr_EEl (fun _ kk => e_aload_n (pc := 97) dX4_callOf_97 rfl kk) ?_
      refine cr_EEl (fun _ kk => e_getA (pc := 98) dX4_callOf_98 f_4_182 rfl rfl kk) ?_
      refine cr_EEl (fun _ kk => e_iload_n (pc := 101) dX4_callOf_101 rfl kk) ?_
      refine cr_EEl (fun _ kk => e_ialdV (pc := 102) (N 12 c) dX4_callOf_102 rfl (by omega) (by decide) y5 kk) ?_
      refine cr_EEr (r_iret (pc := 103) dX4_callOf_103 rfl rfl) ?_
      exact x_leaf (congrArg (fun z => (z, N)) (by unfold m_cof; grind)) ⟨hn, cn, tk, ht, hJ, hX⟩
    refine cr_EEb (fun _ k1 k2 => e_tsw1 (pc := 23) 4 dX4_callOf_23 (by decide) (by decide) (off := 81) (tgt := 104) rfl (by decide) k1 k2) (fun hs_23_4 => ?_) (fun hs_23_4 => ?_)
    · refine cr_EEl (fun _ kk => e_aload_n (pc := 104) dX4_callOf_104 rfl kk) ?_
      refine cr_EEl (fun _ kk => e_getA (pc := 105) dX4_callOf_105 f_4_111 rfl rfl kk) ?_
      refine cr_EEl (fun _ kk => e_iload_n (pc := 108) dX4_callOf_108 rfl kk) ?_
      refine cr_EEl (fun _ kk => e_ialdV (pc := 109) (N 13 c) dX4_callOf_109 rfl (by omega) (by decide) y6 kk) ?_
      refine cr_EEr (r_iret (pc := 110) dX4_callOf_110 rfl rfl) ?_
      exact x_leaf (congrArg (fun z => (z, N)) (by unfold m_cof; grind)) ⟨hn, cn, tk, ht, hJ, hX⟩
    refine cr_EEb (fun _ k1 k2 => e_tsw1 (pc := 23) 5 dX4_callOf_23 (by decide) (by decide) (off := 88) (tgt := 111) rfl (by decide) k1 k2) (fun hs_23_5 => ?_) (fun hs_23_5 => ?_)
    · refine cr_EEl (fun _ kk => e_aload_n (pc := 111) dX4_callOf_111 rfl kk) ?_
      refine cr_EEl (fun _ kk => e_getA (pc := 112) dX4_callOf_112 f_4_185 rfl rfl kk) ?_
      refine cr_EEl (fun _ kk => e_iload_n (pc := 115) dX4_callOf_115 rfl kk) ?_
      refine cr_EEl (fun _ kk => e_ialdV (pc := 116) (N 14 c) dX4_callOf_116 rfl (by omega) (by decide) y7 kk) ?_
      refine cr_EEr (r_iret (pc := 117) dX4_callOf_117 rfl rfl) ?_
      exact x_leaf (congrArg (fun z => (z, N)) (by unfold m_cof; grind)) ⟨hn, cn, tk, ht, hJ, hX⟩
    refine cr_EEb (fun _ k1 k2 => e_tsw1 (pc := 23) 6 dX4_callOf_23 (by decide) (by decide) (off := 95) (tgt := 118) rfl (by decide) k1 k2) (fun hs_23_6 => ?_) (fun hs_23_6 => ?_)
    · refine cr_EEl (fun _ kk => e_aload_n (pc := 118) dX4_callOf_118 rfl kk) ?_
      refine cr_EEl (fun _ kk => e_getA (pc := 119) dX4_callOf_119 f_4_108 rfl rfl kk) ?_
      refine cr_EEl (fun _ kk => e_iload_n (pc := 122) dX4_callOf_122 rfl kk) ?_
      refine cr_EEl (fun _ kk => e_ialdV (pc := 123) (N 18 c) dX4_callOf_123 rfl (by omega) (by decide) y9 kk) ?_
      refine cr_EEr (r_iret (pc := 124) dX4_callOf_124 rfl rfl) ?_
      exact x_leaf (congrArg (fun z => (z, N)) (by unfold m_cof; grind)) ⟨hn, cn, tk, ht, hJ, hX⟩
    refine cr_EEb (fun _ k1 k2 => e_tsw1 (pc := 23) 7 dX4_callOf_23 (by decide) (by decide) (off := 102) (tgt := 125) rfl (by decide) k1 k2) (fun hs_23_7 => ?_) (fun hs_23_7 => ?_)
    · refine cr_EEl (fun _ kk => e_aload_n (pc := 125) dX4_callOf_125 rfl kk) ?_
      refine cr_EEl (fun _ kk => e_getA (pc := 126) dX4_callOf_126 f_4_107 rfl rfl kk) ?_
      refine cr_EEl (fun _ kk => e_iload_n (pc := 129) dX4_callOf_129 rfl kk) ?_
      refine cr_EEl (fun _ kk => e_ialdV (pc := 130) (N 16 c) dX4_callOf_130 rfl (by omega) (by decide) y1 kk) ?_
      refine cr_EEn (fun _ k1 k2 => e_if_ne (pc := 131) (tgt := 151) dX4_callOf_131 (by decide) k1 k2) (fun hc_131 => ?_) (fun hc_131 => ?_)
      · refine cr_EEl (fun _ kk => e_aload_n (pc := 151) dX4_callOf_151 rfl kk) ?_
        refine cr_EEl (fun _ kk => e_getA (pc := 152) dX4_callOf_152 f_4_189 rfl rfl kk) ?_
        refine cr_EEl (fun _ kk => e_iload_n (pc := 155) dX4_callOf_155 rfl kk) ?_
        refine cr_EEl (fun _ kk => e_ialdV (pc := 156) (N 20 c) dX4_callOf_156 rfl (by omega) (by decide) y12 kk) ?_
        refine cr_EEr (r_iret (pc := 157) dX4_callOf_157 rfl rfl) ?_
        exact x_leaf (congrArg (fun z => (z, N)) (by unfold m_cof; grind)) ⟨hn, cn, tk, ht, hJ, hX⟩
      · refine cr_EEl (fun _ kk => e_aload_n (pc := 134) dX4_callOf_134 rfl kk) ?_
        refine cr_EEl (fun _ kk => e_getA (pc := 135) dX4_callOf_135 f_4_10 rfl rfl kk) ?_
        refine cr_EEl (fun _ kk => e_getIv (pc := 138) (N 0 3) dX4_callOf_138 f_4_44 rfl rfl z5 kk) ?_
        refine cr_EEl (fun _ kk => e_aload_n (pc := 141) dX4_callOf_141 rfl kk) ?_
        refine cr_EEl (fun _ kk => e_getA (pc := 142) dX4_callOf_142 f_4_188 rfl rfl kk) ?_
        refine cr_EEl (fun _ kk => e_iload_n (pc := 145) dX4_callOf_145 rfl kk) ?_
        refine cr_EEl (fun _ kk => e_ialdV (pc := 146) (N 17 c) dX4_callOf_146 rfl (by omega) (by decide) y8 kk) ?_
        refine cr_EEl (fun _ kk => e_isub (pc := 147) dX4_callOf_147 kk) ?_
        refine cr_EEl (fun _ kk => e_goto (pc := 148) (tgt := 157) dX4_callOf_148 (by decide) kk) ?_
        refine cr_EEr (r_iret (pc := 157) dX4_callOf_157 rfl rfl) ?_
        exact x_leaf (congrArg (fun z => (z, N)) (by unfold m_cof; grind)) ⟨hn, cn, tk, ht, hJ, hX⟩
    refine cr_EEb (fun _ k1 k2 => e_tsw1 (pc := 23) 8 dX4_callOf_23 (by decide) (by decide) (off := 135) (tgt := 158) rfl (by decide) k1 k2) (fun hs_23_8 => ?_) (fun hs_23_8 => ?_)
    · refine cr_EEl (fun _ kk => e_aload_n (pc := 158) dX4_callOf_158 rfl kk) ?_
      refine cr_EEl (fun _ kk => e_getA (pc := 159) dX4_callOf_159 f_4_107 rfl rfl kk) ?_
      refine cr_EEl (fun _ kk => e_iload_n (pc := 162) dX4_callOf_162 rfl kk) ?_
      refine cr_EEl (fun _ kk => e_ialdV (pc := 163) (N 16 c) dX4_callOf_163 rfl (by omega) (by decide) y1 kk) ?_
      refine cr_EEl (fun _ kk => e_iconst (pc := 164) (v := 1) dX4_callOf_164 (by decide) kk) ?_
      refine cr_EEb (fun _ k1 k2 => e_icmp_eq (pc := 165) (tgt := 178) dX4_callOf_165 (by decide) k1 k2) (fun hc_165 => ?_) (fun hc_165 => ?_)
      · refine cr_EEl (fun _ kk => e_aload_n (pc := 178) dX4_callOf_178 rfl kk) ?_
        refine cr_EEl (fun _ kk => e_getA (pc := 179) dX4_callOf_179 f_4_192 rfl rfl kk) ?_
        refine cr_EEl (fun _ kk => e_iload_n (pc := 182) dX4_callOf_182 rfl kk) ?_
        refine cr_EEl (fun _ kk => e_ialdV (pc := 183) (N 19 c) dX4_callOf_183 rfl (by omega) (by decide) (y10 (by grind)) kk) ?_
        refine cr_EEl (fun _ kk => e_goto (pc := 184) (tgt := 189) dX4_callOf_184 (by decide) kk) ?_
        refine cr_EEr (r_iret (pc := 189) dX4_callOf_189 rfl rfl) ?_
        exact x_leaf (congrArg (fun z => (z, N)) (by unfold m_cof; grind)) ⟨hn, cn, tk, ht, hJ, hX⟩
      · refine cr_EEl (fun _ kk => e_aload_n (pc := 168) dX4_callOf_168 rfl kk) ?_
        refine cr_EEl (fun _ kk => e_getA (pc := 169) dX4_callOf_169 f_4_107 rfl rfl kk) ?_
        refine cr_EEl (fun _ kk => e_iload_n (pc := 172) dX4_callOf_172 rfl kk) ?_
        refine cr_EEl (fun _ kk => e_ialdV (pc := 173) (N 16 c) dX4_callOf_173 rfl (by omega) (by decide) y1 kk) ?_
        refine cr_EEl (fun _ kk => e_iconst (pc := 174) (v := 4) dX4_callOf_174 (by decide) kk) ?_
        refine cr_EEn (fun _ k1 k2 => e_icmp_ne (pc := 175) (tgt := 187) dX4_callOf_175 (by decide) k1 k2) (fun hc_175 => ?_) (fun hc_175 => ?_)
        · refine cr_EEl (fun _ kk => e_bipush (pc := 187) (v := (-9)) dX4_callOf_187 (by decide) kk) ?_
          refine cr_EEr (r_iret (pc := 189) dX4_callOf_189 rfl rfl) ?_
          exact x_leaf (congrArg (fun z => (z, N)) (by unfold m_cof; grind)) ⟨hn, cn, tk, ht, hJ, hX⟩
        · refine cr_EEl (fun _ kk => e_aload_n (pc := 178) dX4_callOf_178 rfl kk) ?_
          refine cr_EEl (fun _ kk => e_getA (pc := 179) dX4_callOf_179 f_4_192 rfl rfl kk) ?_
          refine cr_EEl (fun _ kk => e_iload_n (pc := 182) dX4_callOf_182 rfl kk) ?_
          refine cr_EEl (fun _ kk => e_ialdV (pc := 183) (N 19 c) dX4_callOf_183 rfl (by omega) (by decide) (y10 (by grind)) kk) ?_
          refine cr_EEl (fun _ kk => e_goto (pc := 184) (tgt := 189) dX4_callOf_184 (by decide) kk) ?_
          refine cr_EEr (r_iret (pc := 189) dX4_callOf_189 rfl rfl) ?_
          exact x_leaf (congrArg (fun z => (z, N)) (by unfold m_cof; grind)) ⟨hn, cn, tk, ht, hJ, hX⟩
    refine cr_EEb (fun _ k1 k2 => e_tsw1 (pc := 23) 9 dX4_callOf_23 (by decide) (by decide) (off := 167) (tgt := 190) rfl (by decide) k1 k2) (fun hs_23_9 => ?_) (fun hs_23_9 => ?_)
    · refine cr_EEl (fun _ kk => e_aload_n (pc := 190) dX4_callOf_190 rfl kk) ?_
      refine cr_EEl (fun _ kk => e_getA (pc := 191) dX4_callOf_191 f_4_123 rfl rfl kk) ?_
      refine cr_EEl (fun _ kk => e_iload_n (pc := 194) dX4_callOf_194 rfl kk) ?_
      refine cr_EEl (fun _ kk => e_ialdV (pc := 195) (N 15 c) dX4_callOf_195 rfl (by omega) (by decide) y3 kk) ?_
      refine cr_EEr (r_iret (pc := 196) dX4_callOf_196 rfl rfl) ?_
      exact x_leaf (congrArg (fun z => (z, N)) (by unfold m_cof; grind)) ⟨hn, cn, tk, ht, hJ, hX⟩
    refine cr_EEl (fun _ kk => e_tswO (pc := 23) (tgt := 197) dX4_callOf_23 (by have q0 := lv_neT hs_23_0 (a := 0) rfl; have q1 := lv_neT hs_23_1 (a := 1) rfl; have q2 := lv_neT hs_23_2 (a := 2) rfl; have q3 := lv_neT hs_23_3 (a := 3) rfl; have q4 := lv_neT hs_23_4 (a := 4) rfl; have q5 := lv_neT hs_23_5 (a := 5) rfl; have q6 := lv_neT hs_23_6 (a := 6) rfl; have q7 := lv_neT hs_23_7 (a := 7) rfl; have q8 := lv_neT hs_23_8 (a := 8) rfl; have q9 := lv_neT hs_23_9 (a := 9) rfl; omega) (by decide) kk) ?_
    refine cr_EEl (fun _ kk => e_bipush (pc := 197) (v := (-9)) dX4_callOf_197 (by decide) kk) ?_
    refine cr_EEr (r_iret (pc := 199) dX4_callOf_199 rfl rfl) ?_
    exact x_leaf (congrArg (fun z => (z, N)) (by unfold m_cof; grind)) ⟨hn, cn, tk, ht, hJ, hX⟩
set_option maxHeartbeats 4000000 in
theorem th_count {X N : cr_M} (w : Int32) (hI : x_I X N) : ∃ z, cr_EvM Y_X5_count [.inr (.inr 0), .inl w] N (some (.inl z.1), z.2) ∧ cr_EE Y_X4_count 0 (cr_al 0 [.inr (.inr 0), .inl w]) [] X (x_P z) := by
  obtain ⟨hn, cn, tk, ht, hJ, hX⟩ := hI
  obtain ⟨h10, h200, z3, z4, z5, z6, z7⟩ := r_X_z hX
  have s4 : N 0 4 = nI hn := hJ.1.2.2.1
  have s5 : N 0 5 = nI cn := hJ.1.2.2.2.1
  refine ⟨(m_cnt hn cn N w, N), ev_X5_count w s4 s5 h10 h200, ?_⟩
  refine cr_EEl (fun _ kk => e_iload_n (pc := 0) dX4_count_0 rfl kk) ?_
  refine cr_EEb (fun _ k1 k2 => e_tsw1 (pc := 1) 0 dX4_count_1 (by decide) (by decide) (off := 51) (tgt := 52) rfl (by decide) k1 k2) (fun hs_1_0 => ?_) (fun hs_1_0 => ?_)
  · refine cr_EEl (fun _ kk => e_aload_n (pc := 52) dX4_count_52 rfl kk) ?_
    refine cr_EEl (fun _ kk => e_getA (pc := 53) dX4_count_53 f_4_10 rfl rfl kk) ?_
    refine cr_EEl (fun _ kk => e_getIv (pc := 56) (N 0 3) dX4_count_56 f_4_44 rfl rfl z5 kk) ?_
    refine cr_EEr (r_iret (pc := 59) dX4_count_59 rfl rfl) ?_
    exact x_leaf (congrArg (fun z => (z, N)) (by unfold m_cnt; grind)) ⟨hn, cn, tk, ht, hJ, hX⟩
  refine cr_EEb (fun _ k1 k2 => e_tsw1 (pc := 1) 1 dX4_count_1 (by decide) (by decide) (off := 59) (tgt := 60) rfl (by decide) k1 k2) (fun hs_1_1 => ?_) (fun hs_1_1 => ?_)
  · refine cr_EEl (fun _ kk => e_aload_n (pc := 60) dX4_count_60 rfl kk) ?_
    refine cr_EEl (fun _ kk => e_getA (pc := 61) dX4_count_61 f_4_10 rfl rfl kk) ?_
    refine cr_EEl (fun _ kk => e_getA (pc := 64) dX4_count_64 f_4_34 rfl rfl kk) ?_
    refine cr_EEl (fun _ kk => e_getIv (pc := 67) (N 0 4) dX4_count_67 f_4_38 rfl rfl (z3.trans s4.symm) kk) ?_
    refine cr_EEr (r_iret (pc := 70) dX4_count_70 rfl rfl) ?_
    exact x_leaf (congrArg (fun z => (z, N)) (by unfold m_cnt; grind)) ⟨hn, cn, tk, ht, hJ, hX⟩
  refine cr_EEb (fun _ k1 k2 => e_tsw1 (pc := 1) 2 dX4_count_1 (by decide) (by decide) (off := 70) (tgt := 71) rfl (by decide) k1 k2) (fun hs_1_2 => ?_) (fun hs_1_2 => ?_)
  · refine cr_EEl (fun _ kk => e_aload_n (pc := 71) dX4_count_71 rfl kk) ?_
    refine cr_EEl (fun _ kk => e_getA (pc := 72) dX4_count_72 f_4_10 rfl rfl kk) ?_
    refine cr_EEl (fun _ kk => e_getA (pc := 75) dX4_count_75 f_4_78 rfl rfl kk) ?_
    refine cr_EEl (fun _ kk => e_getIv (pc := 78) (N 0 5) dX4_count_78 f_4_82 rfl rfl (z4.trans s5.symm) kk) ?_
    refine cr_EEr (r_iret (pc := 81) dX4_count_81 rfl rfl) ?_
    exact x_leaf (congrArg (fun z => (z, N)) (by unfold m_cnt; grind)) ⟨hn, cn, tk, ht, hJ, hX⟩
  refine cr_EEb (fun _ k1 k2 => e_tsw1 (pc := 1) 3 dX4_count_1 (by decide) (by decide) (off := 81) (tgt := 82) rfl (by decide) k1 k2) (fun hs_1_3 => ?_) (fun hs_1_3 => ?_)
  · refine cr_EEl (fun _ kk => e_aload_n (pc := 82) dX4_count_82 rfl kk) ?_
    refine cr_EEl (fun _ kk => e_getA (pc := 83) dX4_count_83 f_4_10 rfl rfl kk) ?_
    refine cr_EEl (fun _ kk => e_getA (pc := 86) dX4_count_86 f_4_78 rfl rfl kk) ?_
    refine cr_EEl (fun _ kk => e_iconst (pc := 89) (v := 0) dX4_count_89 (by decide) kk) ?_
    refine cr_EEl (fun _ kk => e_offR1i (pc := 90) (M' := fun _ _ => 0) dX4_count_90 cs_X4_count_195 cv_X0_countDoing rc_X0_countDoing fit_shR_shC_11 (by decide) (Nat.le_of_ble_eq_true rfl) (ev_X0_countDoing _ z4 h200) kk) ?_
    refine cr_EEr (r_iret (pc := 93) dX4_count_93 rfl rfl) ?_
    exact x_leaf (congrArg (fun z => (z, N)) (by unfold m_cnt; rw [if_neg (by grind), if_neg (by grind), if_neg (by grind), if_neg (by grind), if_pos (by grind), ← c_cd_n (r_X_C hX) cn (Nat.le_refl _)]; first | (rw [hs_1_3]; rfl) | (rw [hs_1_4]; rfl) | (rw [hs_1_5]; rfl) | (rw [hs_1_6]; rfl) | (rw [hs_1_7]; rfl))) ⟨hn, cn, tk, ht, hJ, hX⟩
  refine cr_EEb (fun _ k1 k2 => e_tsw1 (pc := 1) 4 dX4_count_1 (by decide) (by decide) (off := 93) (tgt := 94) rfl (by decide) k1 k2) (fun hs_1_4 => ?_) (fun hs_1_4 => ?_)
  · refine cr_EEl (fun _ kk => e_aload_n (pc := 94) dX4_count_94 rfl kk) ?_
    refine cr_EEl (fun _ kk => e_getA (pc := 95) dX4_count_95 f_4_10 rfl rfl kk) ?_
    refine cr_EEl (fun _ kk => e_getA (pc := 98) dX4_count_98 f_4_78 rfl rfl kk) ?_
    refine cr_EEl (fun _ kk => e_iconst (pc := 101) (v := 1) dX4_count_101 (by decide) kk) ?_
    refine cr_EEl (fun _ kk => e_offR1i (pc := 102) (M' := fun _ _ => 0) dX4_count_102 cs_X4_count_195 cv_X0_countDoing rc_X0_countDoing fit_shR_shC_11 (by decide) (Nat.le_of_ble_eq_true rfl) (ev_X0_countDoing _ z4 h200) kk) ?_
    refine cr_EEr (r_iret (pc := 105) dX4_count_105 rfl rfl) ?_
    exact x_leaf (congrArg (fun z => (z, N)) (by unfold m_cnt; rw [if_neg (by grind), if_neg (by grind), if_neg (by grind), if_neg (by grind), if_pos (by grind), ← c_cd_n (r_X_C hX) cn (Nat.le_refl _)]; first | (rw [hs_1_3]; rfl) | (rw [hs_1_4]; rfl) | (rw [hs_1_5]; rfl) | (rw [hs_1_6]; rfl) | (rw [hs_1_7]; rfl))) ⟨hn, cn, tk, ht, hJ, hX⟩
  refine cr_EEb (fun _ k1 k2 => e_tsw1 (pc := 1) 5 dX4_count_1 (by decide) (by decide) (off := 105) (tgt := 106) rfl (by decide) k1 k2) (fun hs_1_5 => ?_) (fun hs_1_5 => ?_)
  · refine cr_EEl (fun _ kk => e_aload_n (pc := 106) dX4_count_106 rfl kk) ?_
    refine cr_EEl (fun _ kk => e_getA (pc := 107) dX4_count_107 f_4_10 rfl rfl kk) ?_
    refine cr_EEl (fun _ kk => e_getA (pc := 110) dX4_count_110 f_4_78 rfl rfl kk) ?_
    refine cr_EEl (fun _ kk => e_iconst (pc := 113) (v := 2) dX4_count_113 (by decide) kk) ?_
    refine cr_EEl (fun _ kk => e_offR1i (pc := 114) (M' := fun _ _ => 0) dX4_count_114 cs_X4_count_195 cv_X0_countDoing rc_X0_countDoing fit_shR_shC_11 (by decide) (Nat.le_of_ble_eq_true rfl) (ev_X0_countDoing _ z4 h200) kk) ?_
    refine cr_EEr (r_iret (pc := 117) dX4_count_117 rfl rfl) ?_
    exact x_leaf (congrArg (fun z => (z, N)) (by unfold m_cnt; rw [if_neg (by grind), if_neg (by grind), if_neg (by grind), if_neg (by grind), if_pos (by grind), ← c_cd_n (r_X_C hX) cn (Nat.le_refl _)]; first | (rw [hs_1_3]; rfl) | (rw [hs_1_4]; rfl) | (rw [hs_1_5]; rfl) | (rw [hs_1_6]; rfl) | (rw [hs_1_7]; rfl))) ⟨hn, cn, tk, ht, hJ, hX⟩
  refine cr_EEb (fun _ k1 k2 => e_tsw1 (pc := 1) 6 dX4_count_1 (by decide) (by decide) (off := 117) (tgt := 118) rfl (by decide) k1 k2) (fun hs_1_6 => ?_) (fun hs_1_6 => ?_)
  · refine cr_EEl (fun _ kk => e_aload_n (pc := 118) dX4_count_118 rfl kk) ?_
    refine cr_EEl (fun _ kk => e_getA (pc := 119) dX4_count_119 f_4_10 rfl rfl kk) ?_
    refine cr_EEl (fun _ kk => e_getA (pc := 122) dX4_count_122 f_4_78 rfl rfl kk) ?_
    refine cr_EEl (fun _ kk => e_iconst (pc := 125) (v := 3) dX4_count_125 (by decide) kk) ?_
    refine cr_EEl (fun _ kk => e_offR1i (pc := 126) (M' := fun _ _ => 0) dX4_count_126 cs_X4_count_195 cv_X0_countDoing rc_X0_countDoing fit_shR_shC_11 (by decide) (Nat.le_of_ble_eq_true rfl) (ev_X0_countDoing _ z4 h200) kk) ?_
    refine cr_EEr (r_iret (pc := 129) dX4_count_129 rfl rfl) ?_
    exact x_leaf (congrArg (fun z => (z, N)) (by unfold m_cnt; rw [if_neg (by grind), if_neg (by grind), if_neg (by grind), if_neg (by grind), if_pos (by grind), ← c_cd_n (r_X_C hX) cn (Nat.le_refl _)]; first | (rw [hs_1_3]; rfl) | (rw [hs_1_4]; rfl) | (rw [hs_1_5]; rfl) | (rw [hs_1_6]; rfl) | (rw [hs_1_7]; rfl))) ⟨hn, cn, tk, ht, hJ, hX⟩
  refine cr_EEb (fun _ k1 k2 => e_tsw1 (pc := 1) 7 dX4_count_1 (by decide) (by decide) (off := 129) (tgt := 130) rfl (by decide) k1 k2) (fun hs_1_7 => ?_) (fun hs_1_7 => ?_)
  · refine cr_EEl (fun _ kk => e_aload_n (pc := 130) dX4_count_130 rfl kk) ?_
    refine cr_EEl (fun _ kk => e_getA (pc := 131) dX4_count_131 f_4_10 rfl rfl kk) ?_
    refine cr_EEl (fun _ kk => e_getA (pc := 134) dX4_count_134 f_4_78 rfl rfl kk) ?_
    refine cr_EEl (fun _ kk => e_iconst (pc := 137) (v := 4) dX4_count_137 (by decide) kk) ?_
    refine cr_EEl (fun _ kk => e_offR1i (pc := 138) (M' := fun _ _ => 0) dX4_count_138 cs_X4_count_195 cv_X0_countDoing rc_X0_countDoing fit_shR_shC_11 (by decide) (Nat.le_of_ble_eq_true rfl) (ev_X0_countDoing _ z4 h200) kk) ?_
    refine cr_EEr (r_iret (pc := 141) dX4_count_141 rfl rfl) ?_
    exact x_leaf (congrArg (fun z => (z, N)) (by unfold m_cnt; rw [if_neg (by grind), if_neg (by grind), if_neg (by grind), if_neg (by grind), if_pos (by grind), ← c_cd_n (r_X_C hX) cn (Nat.le_refl _)]; first | (rw [hs_1_3]; rfl) | (rw [hs_1_4]; rfl) | (rw [hs_1_5]; rfl) | (rw [hs_1_6]; rfl) | (rw [hs_1_7]; rfl))) ⟨hn, cn, tk, ht, hJ, hX⟩
  refine cr_EEb (fun _ k1 k2 => e_tsw1 (pc := 1) 8 dX4_count_1 (by decide) (by decide) (off := 141) (tgt := 142) rfl (by decide) k1 k2) (fun hs_1_8 => ?_) (fun hs_1_8 => ?_)
  · refine cr_EEl (fun _ kk => e_aload_n (pc := 142) dX4_count_142 rfl kk) ?_
    refine cr_EEl (fun _ kk => e_getA (pc := 143) dX4_count_143 f_4_10 rfl rfl kk) ?_
    refine cr_EEl (fun _ kk => e_getA (pc := 146) dX4_count_146 f_4_34 rfl rfl kk) ?_
    refine cr_EEl (fun _ kk => e_offR0i (pc := 149) (M' := fun _ _ => 0) dX4_count_149 cs_X4_count_198 cv_X2_countFree rc_X2_countFree fit_shR_shH_2 (by decide) (Nat.le_of_ble_eq_true rfl) (ev_X2_countFree z3 h10) kk) ?_
    refine cr_EEr (r_iret (pc := 152) dX4_count_152 rfl rfl) ?_
    exact x_leaf (congrArg (fun z => (z, N)) (by unfold m_cnt; rw [if_neg (by grind), if_neg (by grind), if_neg (by grind), if_neg (by grind), if_neg (by grind), if_pos (by grind)]; exact (h_cf_n (r_X_H hX) hn (Nat.le_refl _)).symm)) ⟨hn, cn, tk, ht, hJ, hX⟩
  refine cr_EEl (fun _ kk => e_tswO (pc := 1) (tgt := 153) dX4_count_1 (by have q0 := lv_neT hs_1_0 (a := 0) rfl; have q1 := lv_neT hs_1_1 (a := 1) rfl; have q2 := lv_neT hs_1_2 (a := 2) rfl; have q3 := lv_neT hs_1_3 (a := 3) rfl; have q4 := lv_neT hs_1_4 (a := 4) rfl; have q5 := lv_neT hs_1_5 (a := 5) rfl; have q6 := lv_neT hs_1_6 (a := 6) rfl; have q7 := lv_neT hs_1_7 (a := 7) rfl; have q8 := lv_neT hs_1_8 (a := 8) rfl; omega) (by decide) kk) ?_
  refine cr_EEl (fun _ kk => e_iload_n (pc := 153) dX4_count_153 rfl kk) ?_
  refine cr_EEl (fun _ kk => e_bipush (pc := 154) (v := 10) dX4_count_154 (by decide) kk) ?_
  refine cr_EEb (fun _ k1 k2 => e_icmp_le (pc := 156) (tgt := 177) dX4_count_156 (by decide) k1 k2) (fun hc_156 => ?_) (fun hc_156 => ?_)
  · refine cr_EEl (fun _ kk => e_bipush (pc := 177) (v := (-9)) dX4_count_177 (by decide) kk) ?_
    refine cr_EEr (r_iret (pc := 179) dX4_count_179 rfl rfl) ?_
    first | exact x_leaf (congrArg (fun z => (z, N)) (by unfold m_cnt; rw [if_pos (by grind), show nI j - 10 = nI (j - 10) from pk_sub (b := 10) (by omega), nI_clamp (by omega)])) ⟨hn, cn, tk, ht, hJ, hX⟩ | exact x_leaf (congrArg (fun z => (z, N)) (by unfold m_cnt; grind)) ⟨hn, cn, tk, ht, hJ, hX⟩
  · refine cr_EEl (fun _ kk => e_iload_n (pc := 159) dX4_count_159 rfl kk) ?_
    refine cr_EEl (fun _ kk => e_bipush (pc := 160) (v := 16) dX4_count_160 (by decide) kk) ?_
    refine cr_EEb (fun _ k1 k2 => e_icmp_gt (pc := 162) (tgt := 177) dX4_count_162 (by decide) k1 k2) (fun hc_162 => ?_) (fun hc_162 => ?_)
    · refine cr_EEl (fun _ kk => e_bipush (pc := 177) (v := (-9)) dX4_count_177 (by decide) kk) ?_
      refine cr_EEr (r_iret (pc := 179) dX4_count_179 rfl rfl) ?_
      first | exact x_leaf (congrArg (fun z => (z, N)) (by unfold m_cnt; rw [if_pos (by grind), show nI j - 10 = nI (j - 10) from pk_sub (b := 10) (by omega), nI_clamp (by omega)])) ⟨hn, cn, tk, ht, hJ, hX⟩ | exact x_leaf (congrArg (fun z => (z, N)) (by unfold m_cnt; grind)) ⟨hn, cn, tk, ht, hJ, hX⟩
    · obtain ⟨j, hj1, hj2, rfl⟩ := w_in (w := w) (a := 10) (b := 17) (by omega) (by omega) (Int32.not_le.mp hc_156) (by show w < 17; grind)
      refine cr_EEl (fun _ kk => e_aload_n (pc := 165) dX4_count_165 rfl kk) ?_
      refine cr_EEl (fun _ kk => e_getA (pc := 166) dX4_count_166 f_4_26 rfl rfl kk) ?_
      refine cr_EEl (fun _ kk => e_iload_n (pc := 169) dX4_count_169 rfl kk) ?_
      refine cr_EEl (fun _ kk => e_bipush (pc := 170) (v := 10) dX4_count_170 (by decide) kk) ?_
      refine cr_EEl (fun _ kk => e_isub (pc := 172) dX4_count_172 kk) ?_
      rw [show nI j - 10 = nI (j - 10) from pk_sub (b := 10) (by omega)]
      refine cr_EEl (fun _ kk => e_ialdV (pc := 173) (N 1 (j - 10)) dX4_count_173 rfl (by omega) (by decide) (hX.2.2.2.2 (j - 10) (by omega)) kk) ?_
      refine cr_EEl (fun _ kk => e_goto (pc := 174) (tgt := 179) dX4_count_174 (by decide) kk) ?_
      refine cr_EEr (r_iret (pc := 179) dX4_count_179 rfl rfl) ?_
      first | exact x_leaf (congrArg (fun z => (z, N)) (by unfold m_cnt; rw [if_pos (by grind), show nI j - 10 = nI (j - 10) from pk_sub (b := 10) (by omega), nI_clamp (by omega)])) ⟨hn, cn, tk, ht, hJ, hX⟩ | exact x_leaf (congrArg (fun z => (z, N)) (by unfold m_cnt; grind)) ⟨hn, cn, tk, ht, hJ, hX⟩
