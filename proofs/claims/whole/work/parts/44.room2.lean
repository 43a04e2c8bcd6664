set_option maxHeartbeats 4000000 in
theorem th_rule {X N : cr_M} (x : Int32) (hI : x_I X N) : ∃ z, cr_EvM Y_X5_rule [.inr (.inr 0), .inl x] N (some (.inl z.1), z.2) ∧ cr_EE Y_X4_rule 0 (cr_al 0 [.inr (.inr 0), .inl x]) [] X (x_P z) := by
  obtain ⟨hn, cn, tk, ht, hJ, hX⟩ := hI
  obtain ⟨h10, h200, z3, z4, z5, z6, z7⟩ := r_X_z hX
  have s4 : N 0 4 = nI hn := hJ.1.2.2.1
  have s5 : N 0 5 = nI cn := hJ.1.2.2.2.1
  refine ⟨m_rule N x, ev_X5_rule N x, ?_⟩
  refine cr_EEl (fun _ kk => e_iload_n (pc := 0) dX4_rule_0 rfl kk) ?_
  refine cr_EEb (fun _ k1 k2 => e_if_lt (pc := 1) (tgt := 9) dX4_rule_1 (by decide) k1 k2) (fun hc_1 => ?_) (fun hc_1 => ?_)
  · refine cr_EEl (fun _ kk => e_aload_n (pc := 9) dX4_rule_9 rfl kk) ?_
    refine cr_EEl (fun _ kk => e_iconst (pc := 10) (v := (-1)) dX4_rule_10 (by decide) kk) ?_
    refine cr_EEl (fun _ kk => e_self1i (pc := 11) dX4_rule_11 cs_X4_rule_30 cv_X4_refuse rc_X4_refuse rfl (by decide) (Nat.le_of_ble_eq_true rfl) (ev_X4_refuse _ (k := 1) (by decide) (by decide)) kk) ?_
    refine cr_EEr (r_iret (pc := 14) dX4_rule_14 rfl rfl) ?_
    exact x_leaf (by unfold m_rule; first | grind | (repeat (first | rw [if_pos (by grind)] | rw [if_neg (by grind)]))) (x_I_ref ht hJ hX (by decide))
  · refine cr_EEl (fun _ kk => e_iload_n (pc := 4) dX4_rule_4 rfl kk) ?_
    refine cr_EEl (fun _ kk => e_iconst (pc := 5) (v := 4) dX4_rule_5 (by decide) kk) ?_
    refine cr_EEb (fun _ k1 k2 => e_icmp_lt (pc := 6) (tgt := 15) dX4_rule_6 (by decide) k1 k2) (fun hc_6 => ?_) (fun hc_6 => ?_)
    · refine cr_EEl (fun _ kk => e_aload_n (pc := 15) dX4_rule_15 rfl kk) ?_
      refine cr_EEl (fun _ kk => e_getA (pc := 16) dX4_rule_16 f_4_10 rfl rfl kk) ?_
      refine cr_EEl (fun _ kk => e_getIv (pc := 19) (N 0 6) dX4_rule_19 f_4_94 rfl rfl z6 kk) ?_
      refine cr_EEl (fun _ kk => e_istore_n (pc := 22) dX4_rule_22 (by decide) kk) ?_
      refine cr_EEl (fun _ kk => e_aload_n (pc := 23) dX4_rule_23 rfl kk) ?_
      refine cr_EEl (fun _ kk => e_getA (pc := 24) dX4_rule_24 f_4_10 rfl rfl kk) ?_
      refine cr_EEl (fun _ kk => e_iload_n (pc := 27) dX4_rule_27 rfl kk) ?_
      refine cr_EEl (fun _ kk => e_put (pc := 28) dX4_rule_28 f_4_94 p_1_5 rfl rfl kk) ?_
      refine cr_EEl (fun _ kk => e_iload_n (pc := 31) dX4_rule_31 rfl kk) ?_
      refine cr_EEr (r_iret (pc := 32) dX4_rule_32 rfl rfl) ?_
      exact x_leaf (by unfold m_rule; rw [if_pos (by grind)]) (x_I_rule ht hJ hX)
    · refine cr_EEl (fun _ kk => e_aload_n (pc := 9) dX4_rule_9 rfl kk) ?_
      refine cr_EEl (fun _ kk => e_iconst (pc := 10) (v := (-1)) dX4_rule_10 (by decide) kk) ?_
      refine cr_EEl (fun _ kk => e_self1i (pc := 11) dX4_rule_11 cs_X4_rule_30 cv_X4_refuse rc_X4_refuse rfl (by decide) (Nat.le_of_ble_eq_true rfl) (ev_X4_refuse _ (k := 1) (by decide) (by decide)) kk) ?_
      refine cr_EEr (r_iret (pc := 14) dX4_rule_14 rfl rfl) ?_
      exact x_leaf (by unfold m_rule; first | grind | (repeat (first | rw [if_pos (by grind)] | rw [if_neg (by grind)]))) (x_I_ref ht hJ hX (by decide))
set_option maxHeartbeats 4000000 in
theorem th_prefer {X N : cr_M} (x : Int32) (hI : x_I X N) : ∃ z, cr_EvM Y_X5_prefer [.inr (.inr 0), .inl x] N (some (.inl z.1), z.2) ∧ cr_EE Y_X4_prefer 0 (cr_al 0 [.inr (.inr 0), .inl x]) [] X (x_P z) := by
  obtain ⟨hn, cn, tk, ht, hJ, hX⟩ := hI
  obtain ⟨h10, h200, z3, z4, z5, z6, z7⟩ := r_X_z hX
  have s4 : N 0 4 = nI hn := hJ.1.2.2.1
  have s5 : N 0 5 = nI cn := hJ.1.2.2.2.1
  refine ⟨m_prefer N x, ev_X5_prefer N x, ?_⟩
  refine cr_EEl (fun _ kk => e_iload_n (pc := 0) dX4_prefer_0 rfl kk) ?_
  refine cr_EEl (fun _ kk => e_iconst (pc := 1) (v := 0) dX4_prefer_1 (by decide) kk) ?_
  refine cr_EEl (fun _ kk => e_sipush (pc := 2) (v := 1000) dX4_prefer_2 (by decide) kk) ?_
  refine cr_EEl (fun _ kk => e_stat3i (pc := 5) dX4_prefer_5 cs_X4_prefer_58 st_X4_outside rfl (by decide) (Nat.le_of_ble_eq_true rfl) (ev_X4_outside _ _ _ _) kk) ?_
  rcases x_out_c x 0 1000 with ⟨ho1, he⟩ | ⟨ho1, ho2, he⟩ | ⟨ho1, ho2, he⟩
  · rw [he]
    refine cr_EEl (fun _ kk => e_istore_n (pc := 8) dX4_prefer_8 (by decide) kk) ?_
    refine cr_EEl (fun _ kk => e_iload_n (pc := 9) dX4_prefer_9 rfl kk) ?_
    refine cr_EEb (fun _ k1 k2 => e_if_eq (pc := 10) (tgt := 19) dX4_prefer_10 (by decide) k1 k2) (fun hc_10 => absurd hc_10 (by decide)) (fun hc_10 => ?_)
    refine cr_EEl (fun _ kk => e_aload_n (pc := 13) dX4_prefer_13 rfl kk) ?_
    refine cr_EEl (fun _ kk => e_iload_n (pc := 14) dX4_prefer_14 rfl kk) ?_
    refine cr_EEl (fun _ kk => e_self1i (pc := 15) dX4_prefer_15 cs_X4_prefer_30 cv_X4_refuse rc_X4_refuse rfl (by decide) (Nat.le_of_ble_eq_true rfl) (ev_X4_refuse _ (k := 4) (by decide) (by decide)) kk) ?_
    refine cr_EEr (r_iret (pc := 18) dX4_prefer_18 rfl rfl) ?_
    exact x_leaf (by unfold m_prefer; first | grind | (repeat (first | rw [if_pos (by grind)] | rw [if_neg (by grind)]))) (x_I_ref ht hJ hX (by decide))
  · rw [he]
    refine cr_EEl (fun _ kk => e_istore_n (pc := 8) dX4_prefer_8 (by decide) kk) ?_
    refine cr_EEl (fun _ kk => e_iload_n (pc := 9) dX4_prefer_9 rfl kk) ?_
    refine cr_EEb (fun _ k1 k2 => e_if_eq (pc := 10) (tgt := 19) dX4_prefer_10 (by decide) k1 k2) (fun hc_10 => absurd hc_10 (by decide)) (fun hc_10 => ?_)
    refine cr_EEl (fun _ kk => e_aload_n (pc := 13) dX4_prefer_13 rfl kk) ?_
    refine cr_EEl (fun _ kk => e_iload_n (pc := 14) dX4_prefer_14 rfl kk) ?_
    refine cr_EEl (fun _ kk => e_self1i (pc := 15) dX4_prefer_15 cs_X4_prefer_30 cv_X4_refuse rc_X4_refuse rfl (by decide) (Nat.le_of_ble_eq_true rfl) (ev_X4_refuse _ (k := 6) (by decide) (by decide)) kk) ?_
    refine cr_EEr (r_iret (pc := 18) dX4_prefer_18 rfl rfl) ?_
    exact x_leaf (by unfold m_prefer; first | grind | (repeat (first | rw [if_pos (by grind)] | rw [if_neg (by grind)]))) (x_I_ref ht hJ hX (by decide))
  · rw [he]
    refine cr_EEl (fun _ kk => e_istore_n (pc := 8) dX4_prefer_8 (by decide) kk) ?_
    refine cr_EEl (fun _ kk => e_iload_n (pc := 9) dX4_prefer_9 rfl kk) ?_
    refine cr_EEb (fun _ k1 k2 => e_if_eq (pc := 10) (tgt := 19) dX4_prefer_10 (by decide) k1 k2) (fun hc_10 => ?_) (fun hc_10 => absurd hc_10 (by decide))
    refine cr_EEl (fun _ kk => e_aload_n (pc := 19) dX4_prefer_19 rfl kk) ?_
    refine cr_EEl (fun _ kk => e_getA (pc := 20) dX4_prefer_20 f_4_10 rfl rfl kk) ?_
    refine cr_EEl (fun _ kk => e_getIv (pc := 23) (N 0 7) dX4_prefer_23 f_4_97 rfl rfl z7 kk) ?_
    refine cr_EEl (fun _ kk => e_istore_n (pc := 26) dX4_prefer_26 (by decide) kk) ?_
    refine cr_EEl (fun _ kk => e_aload_n (pc := 27) dX4_prefer_27 rfl kk) ?_
    refine cr_EEl (fun _ kk => e_getA (pc := 28) dX4_prefer_28 f_4_10 rfl rfl kk) ?_
    refine cr_EEl (fun _ kk => e_iload_n (pc := 31) dX4_prefer_31 rfl kk) ?_
    refine cr_EEl (fun _ kk => e_put (pc := 32) dX4_prefer_32 f_4_97 p_1_6 rfl rfl kk) ?_
    refine cr_EEl (fun _ kk => e_iload_n (pc := 35) dX4_prefer_35 rfl kk) ?_
    refine cr_EEr (r_iret (pc := 36) dX4_prefer_36 rfl rfl) ?_
    obtain ⟨p, hp, rfl⟩ := nI_of2 (x := x) (M := 1000) (n := 1000) (by decide) (by grind) (by grind)
    exact x_leaf (by unfold m_prefer; rw [if_neg (by grind), if_neg (by grind)]) (x_I_prefer hp ht hJ hX)
theorem x_cc {X A : cr_M} {cn j : Nat} {s l p t : Int32} (hj : j < 13) : c_wait (cr_up (fun j => cr_mg (cr_mg X 11 13 A) 11 13 (c_desc (fun j => cr_mg X 11 13 A (11 + j)) cn s l p) (11 + j)) 7 cn t) cn t j = c_wait (cr_up (c_desc A cn s l p) 7 cn t) cn t j := by
  unfold c_wait c_desc
  refine cr_up_cg (cr_up_cg (cr_up_cg (cr_up_cg ?_)))
  rw [cr_mg_in hj]
  exact cr_up_cg (cr_up_cg (cr_up_cg (cr_mg_in hj)))
set_option maxHeartbeats 4000000 in
theorem th_call {X N : cr_M} (k s l p w : Int32) (hI : x_I X N) : ∃ z, cr_EvM Y_X5_call [.inr (.inr 0), .inl k, .inl s, .inl l, .inl p, .inl w] N (some (.inl z.1), z.2) ∧ cr_EE Y_X4_call 0 (cr_al 0 [.inr (.inr 0), .inl k, .inl s, .inl l, .inl p, .inl w]) [] X (x_P z) := by
  obtain ⟨hn, cn, tk, ht, hJ, hX⟩ := hI
  obtain ⟨h10, h200, z3, z4, z5, z6, z7⟩ := r_X_z hX
  have s4 : N 0 4 = nI hn := hJ.1.2.2.1
  have s5 : N 0 5 = nI cn := hJ.1.2.2.2.1
  refine ⟨m_call cn N k s l p w, ev_X5_call N (hn := hn) k s l p w s5 h200, ?_⟩
  have hten : X 11 0 < 200 ↔ cn < 200 := by rw [z4, show (200 : Int32) = nI 200 from rfl, nI_ltI (by omega) (by omega)]
  have hsz : X 2 0 = N 0 4 := by rw [z3, s4]
  refine cr_EEl (fun _ kk => e_iload_n (pc := 0) dX4_call_0 rfl kk) ?_
  refine cr_EEl (fun _ kk => e_iconst (pc := 1) (v := 1) dX4_call_1 (by decide) kk) ?_
  refine cr_EEn (fun _ k1 k2 => e_icmp_ne (pc := 2) (tgt := 24) dX4_call_2 (by decide) k1 k2) (fun hc_2 => ?_) (fun hc_2 => ?_)
  · refine cr_EEl (fun _ kk => e_iconst (pc := 24) (v := 0) dX4_call_24 (by decide) kk) ?_
    refine cr_EEl (fun _ kk => e_istore (pc := 25) dX4_call_25 (by decide) kk) ?_
    refine cr_EEl (fun _ kk => e_iload_n (pc := 27) dX4_call_27 rfl kk) ?_
    refine cr_EEb (fun _ k1 k2 => e_if_lt (pc := 28) (tgt := 48) dX4_call_28 (by decide) k1 k2) (fun hc_28 => ?_) (fun hc_28 => ?_)
    · refine cr_EEl (fun _ kk => e_aload_n (pc := 48) dX4_call_48 rfl kk) ?_
      refine cr_EEl (fun _ kk => e_iconst (pc := 49) (v := (-1)) dX4_call_49 (by decide) kk) ?_
      refine cr_EEl (fun _ kk => e_self1i (pc := 50) dX4_call_50 cs_X4_call_30 cv_X4_refuse rc_X4_refuse rfl (by decide) (Nat.le_of_ble_eq_true rfl) (ev_X4_refuse _ (k := 1) (by decide) (by decide)) kk) ?_
      refine cr_EEr (r_iret (pc := 53) dX4_call_53 rfl rfl) ?_
      exact x_leaf (by unfold m_call; rw [if_pos (by grind [bI_eq0])]) (x_I_ref ht hJ hX (by decide))
    · refine cr_EEl (fun _ kk => e_iload_n (pc := 31) dX4_call_31 rfl kk) ?_
      refine cr_EEl (fun _ kk => e_iconst (pc := 32) (v := 4) dX4_call_32 (by decide) kk) ?_
      refine cr_EEb (fun _ k1 k2 => e_icmp_ge (pc := 33) (tgt := 48) dX4_call_33 (by decide) k1 k2) (fun hc_33 => ?_) (fun hc_33 => ?_)
      · refine cr_EEl (fun _ kk => e_aload_n (pc := 48) dX4_call_48 rfl kk) ?_
        refine cr_EEl (fun _ kk => e_iconst (pc := 49) (v := (-1)) dX4_call_49 (by decide) kk) ?_
        refine cr_EEl (fun _ kk => e_self1i (pc := 50) dX4_call_50 cs_X4_call_30 cv_X4_refuse rc_X4_refuse rfl (by decide) (Nat.le_of_ble_eq_true rfl) (ev_X4_refuse _ (k := 1) (by decide) (by decide)) kk) ?_
        refine cr_EEr (r_iret (pc := 53) dX4_call_53 rfl rfl) ?_
        exact x_leaf (by unfold m_call; rw [if_pos (by grind [bI_eq0])]) (x_I_ref ht hJ hX (by decide))
      · refine cr_EEl (fun _ kk => e_iload_n (pc := 36) dX4_call_36 rfl kk) ?_
        refine cr_EEl (fun _ kk => e_stat1i (pc := 37) dX4_call_37 cs_X4_call_55 st_X4_isSort rfl (by decide) (Nat.le_of_ble_eq_true rfl) (ev_X4_isSort _ _) kk) ?_
        refine cr_EEb (fun _ k1 k2 => e_if_eq (pc := 40) (tgt := 48) dX4_call_40 (by decide) k1 k2) (fun hc_40 => ?_) (fun hc_40 => ?_)
        · refine cr_EEl (fun _ kk => e_aload_n (pc := 48) dX4_call_48 rfl kk) ?_
          refine cr_EEl (fun _ kk => e_iconst (pc := 49) (v := (-1)) dX4_call_49 (by decide) kk) ?_
          refine cr_EEl (fun _ kk => e_self1i (pc := 50) dX4_call_50 cs_X4_call_30 cv_X4_refuse rc_X4_refuse rfl (by decide) (Nat.le_of_ble_eq_true rfl) (ev_X4_refuse _ (k := 1) (by decide) (by decide)) kk) ?_
          refine cr_EEr (r_iret (pc := 53) dX4_call_53 rfl rfl) ?_
          exact x_leaf (by unfold m_call; rw [if_pos (by grind [bI_eq0])]) (x_I_ref ht hJ hX (by decide))
        · refine cr_EEl (fun _ kk => e_iload (pc := 43) dX4_call_43 rfl kk) ?_
          refine cr_EEb (fun _ k1 k2 => e_if_eq (pc := 45) (tgt := 54) dX4_call_45 (by decide) k1 k2) (fun hc_45 => ?_) (fun hc_45 => ?_)
          · refine cr_EEl (fun _ kk => e_iload_n (pc := 54) dX4_call_54 rfl kk) ?_
            refine cr_EEl (fun _ kk => e_iconst (pc := 55) (v := 1) dX4_call_55 (by decide) kk) ?_
            refine cr_EEb (fun _ k1 k2 => e_icmp_lt (pc := 56) (tgt := 64) dX4_call_56 (by decide) k1 k2) (fun hc_56 => ?_) (fun hc_56 => ?_)
            · refine cr_EEl (fun _ kk => e_aload_n (pc := 64) dX4_call_64 rfl kk) ?_
              refine cr_EEl (fun _ kk => e_bipush (pc := 65) (v := (-4)) dX4_call_65 (by decide) kk) ?_
              refine cr_EEl (fun _ kk => e_self1i (pc := 67) dX4_call_67 cs_X4_call_30 cv_X4_refuse rc_X4_refuse rfl (by decide) (Nat.le_of_ble_eq_true rfl) (ev_X4_refuse _ (k := 4) (by decide) (by decide)) kk) ?_
              refine cr_EEr (r_iret (pc := 70) dX4_call_70 rfl rfl) ?_
              exact x_leaf (by unfold m_call; rw [if_neg (by grind [bI_eq0]), if_pos (by grind)]) (x_I_ref ht hJ hX (by decide))
            · refine cr_EEl (fun _ kk => e_iload (pc := 59) dX4_call_59 rfl kk) ?_
              refine cr_EEb (fun _ k1 k2 => e_if_ge (pc := 61) (tgt := 71) dX4_call_61 (by decide) k1 k2) (fun hc_61 => ?_) (fun hc_61 => ?_)
              · refine cr_EEl (fun _ kk => e_iload_n (pc := 71) dX4_call_71 rfl kk) ?_
                refine cr_EEl (fun _ kk => e_sipush (pc := 72) (v := 1000) dX4_call_72 (by decide) kk) ?_
                refine cr_EEb (fun _ k1 k2 => e_icmp_gt (pc := 75) (tgt := 102) dX4_call_75 (by decide) k1 k2) (fun hc_75 => ?_) (fun hc_75 => ?_)
                · refine cr_EEl (fun _ kk => e_aload_n (pc := 102) dX4_call_102 rfl kk) ?_
                  refine cr_EEl (fun _ kk => e_bipush (pc := 103) (v := (-6)) dX4_call_103 (by decide) kk) ?_
                  refine cr_EEl (fun _ kk => e_self1i (pc := 105) dX4_call_105 cs_X4_call_30 cv_X4_refuse rc_X4_refuse rfl (by decide) (Nat.le_of_ble_eq_true rfl) (ev_X4_refuse _ (k := 6) (by decide) (by decide)) kk) ?_
                  refine cr_EEr (r_iret (pc := 108) dX4_call_108 rfl rfl) ?_
                  exact x_leaf (by unfold m_call; rw [if_neg (by grind [bI_eq0]), if_neg (by grind), if_pos (by grind)]) (x_I_ref ht hJ hX (by decide))
                · refine cr_EEl (fun _ kk => e_iload (pc := 78) dX4_call_78 rfl kk) ?_
                  refine cr_EEl (fun _ kk => e_sipush (pc := 80) (v := 5000) dX4_call_80 (by decide) kk) ?_
                  refine cr_EEb (fun _ k1 k2 => e_icmp_gt (pc := 83) (tgt := 102) dX4_call_83 (by decide) k1 k2) (fun hc_83 => ?_) (fun hc_83 => ?_)
                  · refine cr_EEl (fun _ kk => e_aload_n (pc := 102) dX4_call_102 rfl kk) ?_
                    refine cr_EEl (fun _ kk => e_bipush (pc := 103) (v := (-6)) dX4_call_103 (by decide) kk) ?_
                    refine cr_EEl (fun _ kk => e_self1i (pc := 105) dX4_call_105 cs_X4_call_30 cv_X4_refuse rc_X4_refuse rfl (by decide) (Nat.le_of_ble_eq_true rfl) (ev_X4_refuse _ (k := 6) (by decide) (by decide)) kk) ?_
                    refine cr_EEr (r_iret (pc := 108) dX4_call_108 rfl rfl) ?_
                    exact x_leaf (by unfold m_call; rw [if_neg (by grind [bI_eq0]), if_neg (by grind), if_pos (by grind)]) (x_I_ref ht hJ hX (by decide))
                  · refine cr_EEl (fun _ kk => e_aload_n (pc := 86) dX4_call_86 rfl kk) ?_
                    refine cr_EEl (fun _ kk => e_getA (pc := 87) dX4_call_87 f_4_10 rfl rfl kk) ?_
                    refine cr_EEl (fun _ kk => e_getA (pc := 90) dX4_call_90 f_4_78 rfl rfl kk) ?_
                    refine cr_EEl (fun _ kk => e_getI (pc := 93) dX4_call_93 f_4_82 rfl rfl kk) ?_
                    refine cr_EEl (fun _ kk => e_sipush (pc := 96) (v := 200) dX4_call_96 (by decide) kk) ?_
                    refine cr_EEb (fun _ k1 k2 => e_icmp_lt (pc := 99) (tgt := 109) dX4_call_99 (by decide) k1 k2) (fun hc_99 => ?_) (fun hc_99 => ?_)
                    · refine cr_EEl (fun _ kk => e_aload_n (pc := 109) dX4_call_109 rfl kk) ?_
                      refine cr_EEl (fun _ kk => e_getA (pc := 110) dX4_call_110 f_4_10 rfl rfl kk) ?_
                      refine cr_EEl (fun _ kk => e_getA (pc := 113) dX4_call_113 f_4_78 rfl rfl kk) ?_
                      refine cr_EEl (fun _ kk => e_iload_n (pc := 116) dX4_call_116 rfl kk) ?_
                      refine cr_EEl (fun _ kk => e_iload_n (pc := 117) dX4_call_117 rfl kk) ?_
                      refine cr_EEl (fun _ kk => e_iconst (pc := 118) (v := 1) dX4_call_118 (by decide) kk) ?_
                      refine cr_EEn (fun _ k1 k2 => e_icmp_ne (pc := 119) (tgt := 127) dX4_call_119 (by decide) k1 k2) (fun hc_119 => ?_) (fun hc_119 => ?_)
                      · refine cr_EEl (fun _ kk => e_bipush (pc := 127) (v := (-9)) dX4_call_127 (by decide) kk) ?_
                        refine cr_EEl (fun _ kk => e_offn2i (pc := 129) 13 dX4_call_129 cs_X4_call_85 cv_X0_add rc_X0_add fit_shR_shC_11 (by decide) rfl (Nat.le_of_ble_eq_true rfl) (ev_X0_add (fun j => X (11 + j)) (cn := cn) _ _ z4 (by grind)) kk) ?_
                        refine cr_EEl (fun _ kk => e_istore (pc := 132) dX4_call_132 (by decide) kk) ?_
                        refine cr_EEl (fun _ kk => e_aload_n (pc := 134) dX4_call_134 rfl kk) ?_
                        refine cr_EEl (fun _ kk => e_getA (pc := 135) dX4_call_135 f_4_10 rfl rfl kk) ?_
                        refine cr_EEl (fun _ kk => e_getA (pc := 138) dX4_call_138 f_4_78 rfl rfl kk) ?_
                        refine cr_EEl (fun _ kk => e_iload (pc := 141) dX4_call_141 rfl kk) ?_
                        refine cr_EEl (fun _ kk => e_iload_n (pc := 143) dX4_call_143 rfl kk) ?_
                        refine cr_EEl (fun _ kk => e_iload_n (pc := 144) dX4_call_144 rfl kk) ?_
                        refine cr_EEl (fun _ kk => e_iload (pc := 145) dX4_call_145 rfl kk) ?_
                        refine cr_EEl (fun _ kk => e_offn4v (pc := 147) 13 dX4_call_147 cs_X4_call_86 cv_X0_describe rc_X0_describe fit_shR_shC_11 (by decide) rfl (Nat.le_of_ble_eq_true rfl) (ev_X0_describe _ _ _ _ (by grind)) kk) ?_
                        refine cr_EEl (fun _ kk => e_aload_n (pc := 150) dX4_call_150 rfl kk) ?_
                        refine cr_EEl (fun _ kk => e_getA (pc := 151) dX4_call_151 f_4_10 rfl rfl kk) ?_
                        refine cr_EEl (fun _ kk => e_getA (pc := 154) dX4_call_154 f_4_78 rfl rfl kk) ?_
                        refine cr_EEl (fun _ kk => e_iload (pc := 157) dX4_call_157 rfl kk) ?_
                        refine cr_EEl (fun _ kk => e_aload_n (pc := 159) dX4_call_159 rfl kk) ?_
                        refine cr_EEl (fun _ kk => e_getA (pc := 160) dX4_call_160 f_4_10 rfl rfl kk) ?_
                        refine cr_EEl (fun _ kk => e_getIv (pc := 163) (X 1 4) dX4_call_163 f_4_44 rfl rfl rfl kk) ?_
                        refine cr_EEl (fun _ kk => e_offn2v (pc := 166) 13 dX4_call_166 cs_X4_call_90 cv_X0_arrive rc_X0_arrive fit_shR_shC_11 (by decide) rfl (Nat.le_of_ble_eq_true rfl) (ev_X0_arrive _ _ (by grind)) kk) ?_
                        refine cr_EEl (fun _ kk => e_iload (pc := 169) dX4_call_169 rfl kk) ?_
                        refine cr_EEr (r_iret (pc := 171) dX4_call_171 rfl rfl) ?_
                        obtain ⟨s', hs', rfl⟩ := nI_of2 (x := s) (M := 3) (n := 3) (by decide) (by grind [bI_eq0]) (by grind [bI_eq0])
                        obtain ⟨l', hl', rfl⟩ := nI_of2 (x := l) (M := 1000) (n := 1000) (by decide) (by grind) (by grind)
                        obtain ⟨p', hp', rfl⟩ := nI_of2 (x := p) (M := 5000) (n := 5000) (by decide) (by grind) (by grind)
                        have hl1 : 1 ≤ l' := by
                          have : ¬ nI l' < nI 1 := by assumption
                          rw [nI_ltI (by omega) (by omega)] at this; omega
                        have ho : k = 1 → ∃ j, j < hn ∧ w = nI j := by
                          intro q
                          have hw : 0 ≤ w ∧ w < nI hn := by rw [← z3]; grind [bI_eq0]
                          rcases cr_ix w (n := hn) (by omega) with z | z
                          · exact absurd hw z
                          · exact z
                        refine x_leaf (by unfold m_call; rw [if_neg (by grind [bI_eq0]), if_neg (by grind), if_neg (by grind)]) ?_
                        rw [cr_mg_mg, cr_mg_mg]
                        exact x_I_call ht hJ hX (by grind) (by omega) hl1 hl' hp' ho (fun j hj => by first | (rw [if_pos (by assumption)]; exact x_cc hj) | (rw [if_neg (by assumption)]; exact x_cc hj))
                      · refine cr_EEl (fun _ kk => e_iload (pc := 122) dX4_call_122 rfl kk) ?_
                        refine cr_EEl (fun _ kk => e_goto (pc := 124) (tgt := 129) dX4_call_124 (by decide) kk) ?_
                        refine cr_EEl (fun _ kk => e_offn2i (pc := 129) 13 dX4_call_129 cs_X4_call_85 cv_X0_add rc_X0_add fit_shR_shC_11 (by decide) rfl (Nat.le_of_ble_eq_true rfl) (ev_X0_add (fun j => X (11 + j)) (cn := cn) _ _ z4 (by grind)) kk) ?_
                        refine cr_EEl (fun _ kk => e_istore (pc := 132) dX4_call_132 (by decide) kk) ?_
                        refine cr_EEl (fun _ kk => e_aload_n (pc := 134) dX4_call_134 rfl kk) ?_
                        refine cr_EEl (fun _ kk => e_getA (pc := 135) dX4_call_135 f_4_10 rfl rfl kk) ?_
                        refine cr_EEl (fun _ kk => e_getA (pc := 138) dX4_call_138 f_4_78 rfl rfl kk) ?_
                        refine cr_EEl (fun _ kk => e_iload (pc := 141) dX4_call_141 rfl kk) ?_
                        refine cr_EEl (fun _ kk => e_iload_n (pc := 143) dX4_call_143 rfl kk) ?_
                        refine cr_EEl (fun _ kk => e_iload_n (pc := 144) dX4_call_144 rfl kk) ?_
                        refine cr_EEl (fun _ kk => e_iload (pc := 145) dX4_call_145 rfl kk) ?_
                        refine cr_EEl (fun _ kk => e_offn4v (pc := 147) 13 dX4_call_147 cs_X4_call_86 cv_X0_describe rc_X0_describe fit_shR_shC_11 (by decide) rfl (Nat.le_of_ble_eq_true rfl) (ev_X0_describe _ _ _ _ (by grind)) kk) ?_
                        refine cr_EEl (fun _ kk => e_aload_n (pc := 150) dX4_call_150 rfl kk) ?_
                        refine cr_EEl (fun _ kk => e_getA (pc := 151) dX4_call_151 f_4_10 rfl rfl kk) ?_
                        refine cr_EEl (fun _ kk => e_getA (pc := 154) dX4_call_154 f_4_78 rfl rfl kk) ?_
                        refine cr_EEl (fun _ kk => e_iload (pc := 157) dX4_call_157 rfl kk) ?_
                        refine cr_EEl (fun _ kk => e_aload_n (pc := 159) dX4_call_159 rfl kk) ?_
                        refine cr_EEl (fun _ kk => e_getA (pc := 160) dX4_call_160 f_4_10 rfl rfl kk) ?_
                        refine cr_EEl (fun _ kk => e_getIv (pc := 163) (X 1 4) dX4_call_163 f_4_44 rfl rfl rfl kk) ?_
                        refine cr_EEl (fun _ kk => e_offn2v (pc := 166) 13 dX4_call_166 cs_X4_call_90 cv_X0_arrive rc_X0_arrive fit_shR_shC_11 (by decide) rfl (Nat.le_of_ble_eq_true rfl) (ev_X0_arrive _ _ (by grind)) kk) ?_
                        refine cr_EEl (fun _ kk => e_iload (pc := 169) dX4_call_169 rfl kk) ?_
                        refine cr_EEr (r_iret (pc := 171) dX4_call_171 rfl rfl) ?_
                        obtain ⟨s', hs', rfl⟩ := nI_of2 (x := s) (M := 3) (n := 3) (by decide) (by grind [bI_eq0]) (by grind [bI_eq0])
                        obtain ⟨l', hl', rfl⟩ := nI_of2 (x := l) (M := 1000) (n := 1000) (by decide) (by grind) (by grind)
                        obtain ⟨p', hp', rfl⟩ := nI_of2 (x := p) (M := 5000) (n := 5000) (by decide) (by grind) (by grind)
                        have hl1 : 1 ≤ l' := by
                          have : ¬ nI l' < nI 1 := by assumption
                          rw [nI_ltI (by omega) (by omega)] at this; omega
                        have ho : k = 1 → ∃ j, j < hn ∧ w = nI j := by
                          intro q
                          have hw : 0 ≤ w ∧ w < nI hn := by rw [← z3]; grind [bI_eq0]
                          rcases cr_ix w (n := hn) (by omega) with z | z
                          · exact absurd hw z
                          · exact z
                        refine x_leaf (by unfold m_call; rw [if_neg (by grind [bI_eq0]), if_neg (by grind), if_neg (by grind)]) ?_
                        rw [cr_mg_mg, cr_mg_mg]
                        exact x_I_call ht hJ hX (by grind) (by omega) hl1 hl' hp' ho (fun j hj => by first | (rw [if_pos (by assumption)]; exact x_cc hj) | (rw [if_neg (by assumption)]; exact x_cc hj))
                    · refine cr_EEl (fun _ kk => e_aload_n (pc := 102) dX4_call_102 rfl kk) ?_
                      refine cr_EEl (fun _ kk => e_bipush (pc := 103) (v := (-6)) dX4_call_103 (by decide) kk) ?_
                      refine cr_EEl (fun _ kk => e_self1i (pc := 105) dX4_call_105 cs_X4_call_30 cv_X4_refuse rc_X4_refuse rfl (by decide) (Nat.le_of_ble_eq_true rfl) (ev_X4_refuse _ (k := 6) (by decide) (by decide)) kk) ?_
                      refine cr_EEr (r_iret (pc := 108) dX4_call_108 rfl rfl) ?_
                      exact x_leaf (by unfold m_call; rw [if_neg (by grind [bI_eq0]), if_neg (by grind), if_pos (by grind)]) (x_I_ref ht hJ hX (by decide))
              · refine cr_EEl (fun _ kk => e_aload_n (pc := 64) dX4_call_64 rfl kk) ?_
                refine cr_EEl (fun _ kk => e_bipush (pc := 65) (v := (-4)) dX4_call_65 (by decide) kk) ?_
                refine cr_EEl (fun _ kk => e_self1i (pc := 67) dX4_call_67 cs_X4_call_30 cv_X4_refuse rc_X4_refuse rfl (by decide) (Nat.le_of_ble_eq_true rfl) (ev_X4_refuse _ (k := 4) (by decide) (by decide)) kk) ?_
                refine cr_EEr (r_iret (pc := 70) dX4_call_70 rfl rfl) ?_
                exact x_leaf (by unfold m_call; rw [if_neg (by grind [bI_eq0]), if_pos (by grind)]) (x_I_ref ht hJ hX (by decide))
          · refine cr_EEl (fun _ kk => e_aload_n (pc := 48) dX4_call_48 rfl kk) ?_
            refine cr_EEl (fun _ kk => e_iconst (pc := 49) (v := (-1)) dX4_call_49 (by decide) kk) ?_
            refine cr_EEl (fun _ kk => e_self1i (pc := 50) dX4_call_50 cs_X4_call_30 cv_X4_refuse rc_X4_refuse rfl (by decide) (Nat.le_of_ble_eq_true rfl) (ev_X4_refuse _ (k := 1) (by decide) (by decide)) kk) ?_
            refine cr_EEr (r_iret (pc := 53) dX4_call_53 rfl rfl) ?_
            exact x_leaf (by unfold m_call; rw [if_pos (by grind [bI_eq0])]) (x_I_ref ht hJ hX (by decide))
  · refine cr_EEl (fun _ kk => e_aload_n (pc := 5) dX4_call_5 rfl kk) ?_
    refine cr_EEl (fun _ kk => e_getA (pc := 6) dX4_call_6 f_4_10 rfl rfl kk) ?_
    refine cr_EEl (fun _ kk => e_getA (pc := 9) dX4_call_9 f_4_34 rfl rfl kk) ?_
    refine cr_EEl (fun _ kk => e_iload (pc := 12) dX4_call_12 rfl kk) ?_
    refine cr_EEl (fun _ kk => e_offR1i (pc := 14) (M' := fun _ _ => 0) dX4_call_14 cs_X4_call_51 cv_X2_has rc_X2_has fit_shR_shH_2 (by decide) (Nat.le_of_ble_eq_true rfl) (ev_X2_has (fun j => X (2 + j)) w) kk) ?_
    refine cr_EEn (fun _ k1 k2 => e_if_ne (pc := 17) (tgt := 24) dX4_call_17 (by decide) k1 k2) (fun hc_17 => ?_) (fun hc_17 => ?_)
    · refine cr_EEl (fun _ kk => e_iconst (pc := 24) (v := 0) dX4_call_24 (by decide) kk) ?_
      refine cr_EEl (fun _ kk => e_istore (pc := 25) dX4_call_25 (by decide) kk) ?_
      refine cr_EEl (fun _ kk => e_iload_n (pc := 27) dX4_call_27 rfl kk) ?_
      refine cr_EEb (fun _ k1 k2 => e_if_lt (pc := 28) (tgt := 48) dX4_call_28 (by decide) k1 k2) (fun hc_28 => ?_) (fun hc_28 => ?_)
      · refine cr_EEl (fun _ kk => e_aload_n (pc := 48) dX4_call_48 rfl kk) ?_
        refine cr_EEl (fun _ kk => e_iconst (pc := 49) (v := (-1)) dX4_call_49 (by decide) kk) ?_
        refine cr_EEl (fun _ kk => e_self1i (pc := 50) dX4_call_50 cs_X4_call_30 cv_X4_refuse rc_X4_refuse rfl (by decide) (Nat.le_of_ble_eq_true rfl) (ev_X4_refuse _ (k := 1) (by decide) (by decide)) kk) ?_
        refine cr_EEr (r_iret (pc := 53) dX4_call_53 rfl rfl) ?_
        exact x_leaf (by unfold m_call; rw [if_pos (by grind [bI_eq0])]) (x_I_ref ht hJ hX (by decide))
      · refine cr_EEl (fun _ kk => e_iload_n (pc := 31) dX4_call_31 rfl kk) ?_
        refine cr_EEl (fun _ kk => e_iconst (pc := 32) (v := 4) dX4_call_32 (by decide) kk) ?_
        refine cr_EEb (fun _ k1 k2 => e_icmp_ge (pc := 33) (tgt := 48) dX4_call_33 (by decide) k1 k2) (fun hc_33 => ?_) (fun hc_33 => ?_)
        · refine cr_EEl (fun _ kk => e_aload_n (pc := 48) dX4_call_48 rfl kk) ?_
          refine cr_EEl (fun _ kk => e_iconst (pc := 49) (v := (-1)) dX4_call_49 (by decide) kk) ?_
          refine cr_EEl (fun _ kk => e_self1i (pc := 50) dX4_call_50 cs_X4_call_30 cv_X4_refuse rc_X4_refuse rfl (by decide) (Nat.le_of_ble_eq_true rfl) (ev_X4_refuse _ (k := 1) (by decide) (by decide)) kk) ?_
          refine cr_EEr (r_iret (pc := 53) dX4_call_53 rfl rfl) ?_
          exact x_leaf (by unfold m_call; rw [if_pos (by grind [bI_eq0])]) (x_I_ref ht hJ hX (by decide))
        · refine cr_EEl (fun _ kk => e_iload_n (pc := 36) dX4_call_36 rfl kk) ?_
          refine cr_EEl (fun _ kk => e_stat1i (pc := 37) dX4_call_37 cs_X4_call_55 st_X4_isSort rfl (by decide) (Nat.le_of_ble_eq_true rfl) (ev_X4_isSort _ _) kk) ?_
          refine cr_EEb (fun _ k1 k2 => e_if_eq (pc := 40) (tgt := 48) dX4_call_40 (by decide) k1 k2) (fun hc_40 => ?_) (fun hc_40 => ?_)
          · refine cr_EEl (fun _ kk => e_aload_n (pc := 48) dX4_call_48 rfl kk) ?_
            refine cr_EEl (fun _ kk => e_iconst (pc := 49) (v := (-1)) dX4_call_49 (by decide) kk) ?_
            refine cr_EEl (fun _ kk => e_self1i (pc := 50) dX4_call_50 cs_X4_call_30 cv_X4_refuse rc_X4_refuse rfl (by decide) (Nat.le_of_ble_eq_true rfl) (ev_X4_refuse _ (k := 1) (by decide) (by decide)) kk) ?_
            refine cr_EEr (r_iret (pc := 53) dX4_call_53 rfl rfl) ?_
            exact x_leaf (by unfold m_call; rw [if_pos (by grind [bI_eq0])]) (x_I_ref ht hJ hX (by decide))
          · refine cr_EEl (fun _ kk => e_iload (pc := 43) dX4_call_43 rfl kk) ?_
            refine cr_EEb (fun _ k1 k2 => e_if_eq (pc := 45) (tgt := 54) dX4_call_45 (by decide) k1 k2) (fun hc_45 => ?_) (fun hc_45 => ?_)
            · refine cr_EEl (fun _ kk => e_iload_n (pc := 54) dX4_call_54 rfl kk) ?_
              refine cr_EEl (fun _ kk => e_iconst (pc := 55) (v := 1) dX4_call_55 (by decide) kk) ?_
              refine cr_EEb (fun _ k1 k2 => e_icmp_lt (pc := 56) (tgt := 64) dX4_call_56 (by decide) k1 k2) (fun hc_56 => ?_) (fun hc_56 => ?_)
              · refine cr_EEl (fun _ kk => e_aload_n (pc := 64) dX4_call_64 rfl kk) ?_
                refine cr_EEl (fun _ kk => e_bipush (pc := 65) (v := (-4)) dX4_call_65 (by decide) kk) ?_
                refine cr_EEl (fun _ kk => e_self1i (pc := 67) dX4_call_67 cs_X4_call_30 cv_X4_refuse rc_X4_refuse rfl (by decide) (Nat.le_of_ble_eq_true rfl) (ev_X4_refuse _ (k := 4) (by decide) (by decide)) kk) ?_
                refine cr_EEr (r_iret (pc := 70) dX4_call_70 rfl rfl) ?_
                exact x_leaf (by unfold m_call; rw [if_neg (by grind [bI_eq0]), if_pos (by grind)]) (x_I_ref ht hJ hX (by decide))
              · refine cr_EEl (fun _ kk => e_iload (pc := 59) dX4_call_59 rfl kk) ?_
                refine cr_EEb (fun _ k1 k2 => e_if_ge (pc := 61) (tgt := 71) dX4_call_61 (by decide) k1 k2) (fun hc_61 => ?_) (fun hc_61 => ?_)
                · refine cr_EEl (fun _ kk => e_iload_n (pc := 71) dX4_call_71 rfl kk) ?_
                  refine cr_EEl (fun _ kk => e_sipush (pc := 72) (v := 1000) dX4_call_72 (by decide) kk) ?_
                  refine cr_EEb (fun _ k1 k2 => e_icmp_gt (pc := 75) (tgt := 102) dX4_call_75 (by decide) k1 k2) (fun hc_75 => ?_) (fun hc_75 => ?_)
                  · refine cr_EEl (fun _ kk => e_aload_n (pc := 102) dX4_call_102 rfl kk) ?_
                    refine cr_EEl (fun _ kk => e_bipush (pc := 103) (v := (-6)) dX4_call_103 (by decide) kk) ?_
                    refine cr_EEl (fun _ kk => e_self1i (pc := 105) dX4_call_105 cs_X4_call_30 cv_X4_refuse rc_X4_refuse rfl (by decide) (Nat.le_of_ble_eq_true rfl) (ev_X4_refuse _ (k := 6) (by decide) (by decide)) kk) ?_
                    refine cr_EEr (r_iret (pc := 108) dX4_call_108 rfl rfl) ?_
                    exact x_leaf (by unfold m_call; rw [if_neg (by grind [bI_eq0]), if_neg (by grind), if_pos (by grind)]) (x_I_ref ht hJ hX (by decide))
                  · refine cr_EEl (fun _ kk => e_iload (pc := 78) dX4_call_78 rfl kk) ?_
                    refine cr_EEl (fun _ kk => e_sipush (pc := 80) (v := 5000) dX4_call_80 (by decide) kk) ?_
                    refine cr_EEb (fun _ k1 k2 => e_icmp_gt (pc := 83) (tgt := 102) dX4_call_83 (by decide) k1 k2) (fun hc_83 => ?_) (fun hc_83 => ?_)
                    · refine cr_EEl (fun _ kk => e_aload_n (pc := 102) dX4_call_102 rfl kk) ?_
                      refine cr_EEl (fun _ kk => e_bipush (pc := 103) (v := (-6)) dX4_call_103 (by decide) kk) ?_
                      refine cr_EEl (fun _ kk => e_self1i (pc := 105) dX4_call_105 cs_X4_call_30 cv_X4_refuse rc_X4_refuse rfl (by decide) (Nat.le_of_ble_eq_true rfl) (ev_X4_refuse _ (k := 6) (by decide) (by decide)) kk) ?_
                      refine cr_EEr (r_iret (pc := 108) dX4_call_108 rfl rfl) ?_
                      exact x_leaf (by unfold m_call; rw [if_neg (by grind [bI_eq0]), if_neg (by grind), if_pos (by grind)]) (x_I_ref ht hJ hX (by decide))
                    · refine cr_EEl (fun _ kk => e_aload_n (pc := 86) dX4_call_86 rfl kk) ?_
                      refine cr_EEl (fun _ kk => e_getA (pc := 87) dX4_call_87 f_4_10 rfl rfl kk) ?_
                      refine cr_EEl (fun _ kk => e_getA (pc := 90) dX4_call_90 f_4_78 rfl rfl kk) ?_
                      refine cr_EEl (fun _ kk => e_getI (pc := 93) dX4_call_93 f_4_82 rfl rfl kk) ?_
                      refine cr_EEl (fun _ kk => e_sipush (pc := 96) (v := 200) dX4_call_96 (by decide) kk) ?_
                      refine cr_EEb (fun _ k1 k2 => e_icmp_lt (pc := 99) (tgt := 109) dX4_call_99 (by decide) k1 k2) (fun hc_99 => ?_) (fun hc_99 => ?_)
                      · refine cr_EEl (fun _ kk => e_aload_n (pc := 109) dX4_call_109 rfl kk) ?_
                        refine cr_EEl (fun _ kk => e_getA (pc := 110) dX4_call_110 f_4_10 rfl rfl kk) ?_
                        refine cr_EEl (fun _ kk => e_getA (pc := 113) dX4_call_113 f_4_78 rfl rfl kk) ?_
                        refine cr_EEl (fun _ kk => e_iload_n (pc := 116) dX4_call_116 rfl kk) ?_
                        refine cr_EEl (fun _ kk => e_iload_n (pc := 117) dX4_call_117 rfl kk) ?_
                        refine cr_EEl (fun _ kk => e_iconst (pc := 118) (v := 1) dX4_call_118 (by decide) kk) ?_
                        refine cr_EEn (fun _ k1 k2 => e_icmp_ne (pc := 119) (tgt := 127) dX4_call_119 (by decide) k1 k2) (fun hc_119 => ?_) (fun hc_119 => ?_)
                        · refine cr_EEl (fun _ kk => e_bipush (pc := 127) (v := (-9)) dX4_call_127 (by decide) kk) ?_
                          refine cr_EEl (fun _ kk => e_offn2i (pc := 129) 13 dX4_call_129 cs_X4_call_85 cv_X0_add rc_X0_add fit_shR_shC_11 (by decide) rfl (Nat.le_of_ble_eq_true rfl) (ev_X0_add (fun j => X (11 + j)) (cn := cn) _ _ z4 (by grind)) kk) ?_
                          refine cr_EEl (fun _ kk => e_istore (pc := 132) dX4_call_132 (by decide) kk) ?_
                          refine cr_EEl (fun _ kk => e_aload_n (pc := 134) dX4_call_134 rfl kk) ?_
                          refine cr_EEl (fun _ kk => e_getA (pc := 135) dX4_call_135 f_4_10 rfl rfl kk) ?_
                          refine cr_EEl (fun _ kk => e_getA (pc := 138) dX4_call_138 f_4_78 rfl rfl kk) ?_
                          refine cr_EEl (fun _ kk => e_iload (pc := 141) dX4_call_141 rfl kk) ?_
                          refine cr_EEl (fun _ kk => e_iload_n (pc := 143) dX4_call_143 rfl kk) ?_
                          refine cr_EEl (fun _ kk => e_iload_n (pc := 144) dX4_call_144 rfl kk) ?_
                          refine cr_EEl (fun _ kk => e_iload (pc := 145) dX4_call_145 rfl kk) ?_
                          refine cr_EEl (fun _ kk => e_offn4v (pc := 147) 13 dX4_call_147 cs_X4_call_86 cv_X0_describe rc_X0_describe fit_shR_shC_11 (by decide) rfl (Nat.le_of_ble_eq_true rfl) (ev_X0_describe _ _ _ _ (by grind)) kk) ?_
                          refine cr_EEl (fun _ kk => e_aload_n (pc := 150) dX4_call_150 rfl kk) ?_
                          refine cr_EEl (fun _ kk => e_getA (pc := 151) dX4_call_151 f_4_10 rfl rfl kk) ?_
                          refine cr_EEl (fun _ kk => e_getA (pc := 154) dX4_call_154 f_4_78 rfl rfl kk) ?_
                          refine cr_EEl (fun _ kk => e_iload (pc := 157) dX4_call_157 rfl kk) ?_
                          refine cr_EEl (fun _ kk => e_aload_n (pc := 159) dX4_call_159 rfl kk) ?_
                          refine cr_EEl (fun _ kk => e_getA (pc := 160) dX4_call_160 f_4_10 rfl rfl kk) ?_
                          refine cr_EEl (fun _ kk => e_getIv (pc := 163) (X 1 4) dX4_call_163 f_4_44 rfl rfl rfl kk) ?_
                          refine cr_EEl (fun _ kk => e_offn2v (pc := 166) 13 dX4_call_166 cs_X4_call_90 cv_X0_arrive rc_X0_arrive fit_shR_shC_11 (by decide) rfl (Nat.le_of_ble_eq_true rfl) (ev_X0_arrive _ _ (by grind)) kk) ?_
                          refine cr_EEl (fun _ kk => e_iload (pc := 169) dX4_call_169 rfl kk) ?_
                          refine cr_EEr (r_iret (pc := 171) dX4_call_171 rfl rfl) ?_
                          obtain ⟨s', hs', rfl⟩ := nI_of2 (x := s) (M := 3) (n := 3) (by decide) (by grind [bI_eq0]) (by grind [bI_eq0])
                          obtain ⟨l', hl', rfl⟩ := nI_of2 (x := l) (M := 1000) (n := 1000) (by decide) (by grind) (by grind)
                          obtain ⟨p', hp', rfl⟩ := nI_of2 (x := p) (M := 5000) (n := 5000) (by decide) (by grind) (by grind)
                          have hl1 : 1 ≤ l' := by
                            have : ¬ nI l' < nI 1 := by assumption
                            rw [nI_ltI (by omega) (by omega)] at this; omega
                          have ho : k = 1 → ∃ j, j < hn ∧ w = nI j := by
                            intro q
                            have hw : 0 ≤ w ∧ w < nI hn := by rw [← z3]; grind [bI_eq0]
                            rcases cr_ix w (n := hn) (by omega) with z | z
                            · exact absurd hw z
                            · exact z
                          refine x_leaf (by unfold m_call; rw [if_neg (by grind [bI_eq0]), if_neg (by grind), if_neg (by grind)]) ?_
                          rw [cr_mg_mg, cr_mg_mg]
                          exact x_I_call ht hJ hX (by grind) (by omega) hl1 hl' hp' ho (fun j hj => by first | (rw [if_pos (by assumption)]; exact x_cc hj) | (rw [if_neg (by assumption)]; exact x_cc hj))
                        · refine cr_EEl (fun _ kk => e_iload (pc := 122) dX4_call_122 rfl kk) ?_
                          refine cr_EEl (fun _ kk => e_goto (pc := 124) (tgt := 129) dX4_call_124 (by decide) kk) ?_
                          refine cr_EEl (fun _ kk => e_offn2i (pc := 129) 13 dX4_call_129 cs_X4_call_85 cv_X0_add rc_X0_add fit_shR_shC_11 (by decide) rfl (Nat.le_of_ble_eq_true rfl) (ev_X0_add (fun j => X (11 + j)) (cn := cn) _ _ z4 (by grind)) kk) ?_
                          refine cr_EEl (fun _ kk => e_istore (pc := 132) dX4_call_132 (by decide) kk) ?_
                          refine cr_EEl (fun _ kk => e_aload_n (pc := 134) dX4_call_134 rfl kk) ?_
                          refine cr_EEl (fun _ kk => e_getA (pc := 135) dX4_call_135 f_4_10 rfl rfl kk) ?_
                          refine cr_EEl (fun _ kk => e_getA (pc := 138) dX4_call_138 f_4_78 rfl rfl kk) ?_
                          refine cr_EEl (fun _ kk => e_iload (pc := 141) dX4_call_141 rfl kk) ?_
                          refine cr_EEl (fun _ kk => e_iload_n (pc := 143) dX4_call_143 rfl kk) ?_
                          refine cr_EEl (fun _ kk => e_iload_n (pc := 144) dX4_call_144 rfl kk) ?_
                          refine cr_EEl (fun _ kk => e_iload (pc := 145) dX4_call_145 rfl kk) ?_
                          refine cr_EEl (fun _ kk => e_offn4v (pc := 147) 13 dX4_call_147 cs_X4_call_86 cv_X0_describe rc_X0_describe fit_shR_shC_11 (by decide) rfl (Nat.le_of_ble_eq_true rfl) (ev_X0_describe _ _ _ _ (by grind)) kk) ?_
                          refine cr_EEl (fun _ kk => e_aload_n (pc := 150) dX4_call_150 rfl kk) ?_
                          refine cr_EEl (fun _ kk => e_getA (pc := 151) dX4_call_151 f_4_10 rfl rfl kk) ?_
                          refine cr_EEl (fun _ kk => e_getA (pc := 154) dX4_call_154 f_4_78 rfl rfl kk) ?_
                          refine cr_EEl (fun _ kk => e_iload (pc := 157) dX4_call_157 rfl kk) ?_
                          refine cr_EEl (fun _ kk => e_aload_n (pc := 159) dX4_call_159 rfl kk) ?_
                          refine cr_EEl (fun _ kk => e_getA (pc := 160) dX4_call_160 f_4_10 rfl rfl kk) ?_
                          refine cr_EEl (fun _ kk => e_getIv (pc := 163) (X 1 4) dX4_call_163 f_4_44 rfl rfl rfl kk) ?_
                          refine cr_EEl (fun _ kk => e_offn2v (pc := 166) 13 dX4_call_166 cs_X4_call_90 cv_X0_arrive rc_X0_arrive fit_shR_shC_11 (by decide) rfl (Nat.le_of_ble_eq_true rfl) (ev_X0_arrive _ _ (by grind)) kk) ?_
                          refine cr_EEl (fun _ kk => e_iload (pc := 169) dX4_call_169 rfl kk) ?_
                          refine cr_EEr (r_iret (pc := 171) dX4_call_171 rfl rfl) ?_
                          obtain ⟨s', hs', rfl⟩ := nI_of2 (x := s) (M := 3) (n := 3) (by decide) (by grind [bI_eq0]) (by grind [bI_eq0])
                          obtain ⟨l', hl', rfl⟩ := nI_of2 (x := l) (M := 1000) (n := 1000) (by decide) (by grind) (by grind)
                          obtain ⟨p', hp', rfl⟩ := nI_of2 (x := p) (M := 5000) (n := 5000) (by decide) (by grind) (by grind)
                          have hl1 : 1 ≤ l' := by
                            have : ¬ nI l' < nI 1 := by assumption
                            rw [nI_ltI (by omega) (by omega)] at this; omega
                          have ho : k = 1 → ∃ j, j < hn ∧ w = nI j := by
                            intro q
                            have hw : 0 ≤ w ∧ w < nI hn := by rw [← z3]; grind [bI_eq0]
                            rcases cr_ix w (n := hn) (by omega) with z | z
                            · exact absurd hw z
                            · exact z
                          refine x_leaf (by unfold m_call; rw [if_neg (by grind [bI_eq0]), if_neg (by grind), if_neg (by grind)]) ?_
                          rw [cr_mg_mg, cr_mg_mg]
                          exact x_I_call ht hJ hX (by grind) (by omega) hl1 hl' hp' ho (fun j hj => by first | (rw [if_pos (by assumption)]; exact x_cc hj) | (rw [if_neg (by assumption)]; exact x_cc hj))
                      · refine cr_EEl (fun _ kk => e_aload_n (pc := 102) dX4_call_102 rfl kk) ?_
                        refine cr_EEl (fun _ kk => e_bipush (pc := 103) (v := (-6)) dX4_call_103 (by decide) kk) ?_
                        refine cr_EEl (fun _ kk => e_self1i (pc := 105) dX4_call_105 cs_X4_call_30 cv_X4_refuse rc_X4_refuse rfl (by decide) (Nat.le_of_ble_eq_true rfl) (ev_X4_refuse _ (k := 6) (by decide) (by decide)) kk) ?_
                        refine cr_EEr (r_iret (pc := 108) dX4_call_108 rfl rfl) ?_
                        exact x_leaf (by unfold m_call; rw [if_neg (by grind [bI_eq0]), if_neg (by grind), if_pos (by grind)]) (x_I_ref ht hJ hX (by decide))
                · refine cr_EEl (fun _ kk => e_aload_n (pc := 64) dX4_call_64 rfl kk) ?_
                  refine cr_EEl (fun _ kk => e_bipush (pc := 65) (v := (-4)) dX4_call_65 (by decide) kk) ?_
                  refine cr_EEl (fun _ kk => e_self1i (pc := 67) dX4_call_67 cs_X4_call_30 cv_X4_refuse rc_X4_refuse rfl (by decide) (Nat.le_of_ble_eq_true rfl) (ev_X4_refuse _ (k := 4) (by decide) (by decide)) kk) ?_
                  refine cr_EEr (r_iret (pc := 70) dX4_call_70 rfl rfl) ?_
                  exact x_leaf (by unfold m_call; rw [if_neg (by grind [bI_eq0]), if_pos (by grind)]) (x_I_ref ht hJ hX (by decide))
            · refine cr_EEl (fun _ kk => e_aload_n (pc := 48) dX4_call_48 rfl kk) ?_
              refine cr_EEl (fun _ kk => e_iconst (pc := 49) (v := (-1)) dX4_call_49 (by decide) kk) ?_
              refine cr_EEl (fun _ kk => e_self1i (pc := 50) dX4_call_50 cs_X4_call_30 cv_X4_refuse rc_X4_refuse rfl (by decide) (Nat.le_of_ble_eq_true rfl) (ev_X4_refuse _ (k := 1) (by decide) (by decide)) kk) ?_
              refine cr_EEr (r_iret (pc := 53) dX4_call_53 rfl rfl) ?_
              exact x_leaf (by unfold m_call; rw [if_pos (by grind [bI_eq0])]) (x_I_ref ht hJ hX (by decide))
    · refine cr_EEl (fun _ kk => e_iconst (pc := 20) (v := 1) dX4_call_20 (by decide) kk) ?_
      refine cr_EEl (fun _ kk => e_goto (pc := 21) (tgt := 25) dX4_call_21 (by decide) kk) ?_
      refine cr_EEl (fun _ kk => e_istore (pc := 25) dX4_call_25 (by decide) kk) ?_
      refine cr_EEl (fun _ kk => e_iload_n (pc := 27) dX4_call_27 rfl kk) ?_
      refine cr_EEb (fun _ k1 k2 => e_if_lt (pc := 28) (tgt := 48) dX4_call_28 (by decide) k1 k2) (fun hc_28 => ?_) (fun hc_28 => ?_)
      · refine cr_EEl (fun _ kk => e_aload_n (pc := 48) dX4_call_48 rfl kk) ?_
        refine cr_EEl (fun _ kk => e_iconst (pc := 49) (v := (-1)) dX4_call_49 (by decide) kk) ?_
        refine cr_EEl (fun _ kk => e_self1i (pc := 50) dX4_call_50 cs_X4_call_30 cv_X4_refuse rc_X4_refuse rfl (by decide) (Nat.le_of_ble_eq_true rfl) (ev_X4_refuse _ (k := 1) (by decide) (by decide)) kk) ?_
        refine cr_EEr (r_iret (pc := 53) dX4_call_53 rfl rfl) ?_
        exact x_leaf (by unfold m_call; rw [if_pos (by grind [bI_eq0])]) (x_I_ref ht hJ hX (by decide))
      · refine cr_EEl (fun _ kk => e_iload_n (pc := 31) dX4_call_31 rfl kk) ?_
        refine cr_EEl (fun _ kk => e_iconst (pc := 32) (v := 4) dX4_call_32 (by decide) kk) ?_
        refine cr_EEb (fun _ k1 k2 => e_icmp_ge (pc := 33) (tgt := 48) dX4_call_33 (by decide) k1 k2) (fun hc_33 => ?_) (fun hc_33 => ?_)
        · refine cr_EEl (fun _ kk => e_aload_n (pc := 48) dX4_call_48 rfl kk) ?_
          refine cr_EEl (fun _ kk => e_iconst (pc := 49) (v := (-1)) dX4_call_49 (by decide) kk) ?_
          refine cr_EEl (fun _ kk => e_self1i (pc := 50) dX4_call_50 cs_X4_call_30 cv_X4_refuse rc_X4_refuse rfl (by decide) (Nat.le_of_ble_eq_true rfl) (ev_X4_refuse _ (k := 1) (by decide) (by decide)) kk) ?_
          refine cr_EEr (r_iret (pc := 53) dX4_call_53 rfl rfl) ?_
          exact x_leaf (by unfold m_call; rw [if_pos (by grind [bI_eq0])]) (x_I_ref ht hJ hX (by decide))
        · refine cr_EEl (fun _ kk => e_iload_n (pc := 36) dX4_call_36 rfl kk) ?_
          refine cr_EEl (fun _ kk => e_stat1i (pc := 37) dX4_call_37 cs_X4_call_55 st_X4_isSort rfl (by decide) (Nat.le_of_ble_eq_true rfl) (ev_X4_isSort _ _) kk) ?_
          refine cr_EEb (fun _ k1 k2 => e_if_eq (pc := 40) (tgt := 48) dX4_call_40 (by decide) k1 k2) (fun hc_40 => ?_) (fun hc_40 => ?_)
          · refine cr_EEl (fun _ kk => e_aload_n (pc := 48) dX4_call_48 rfl kk) ?_
            refine cr_EEl (fun _ kk => e_iconst (pc := 49) (v := (-1)) dX4_call_49 (by decide) kk) ?_
            refine cr_EEl (fun _ kk => e_self1i (pc := 50) dX4_call_50 cs_X4_call_30 cv_X4_refuse rc_X4_refuse rfl (by decide) (Nat.le_of_ble_eq_true rfl) (ev_X4_refuse _ (k := 1) (by decide) (by decide)) kk) ?_
            refine cr_EEr (r_iret (pc := 53) dX4_call_53 rfl rfl) ?_
            exact x_leaf (by unfold m_call; rw [if_pos (by grind [bI_eq0])]) (x_I_ref ht hJ hX (by decide))
          · refine cr_EEl (fun _ kk => e_iload (pc := 43) dX4_call_43 rfl kk) ?_
            refine cr_EEb (fun _ k1 k2 => e_if_eq (pc := 45) (tgt := 54) dX4_call_45 (by decide) k1 k2) (fun hc_45 => ?_) (fun hc_45 => ?_)
            · refine cr_EEl (fun _ kk => e_iload_n (pc := 54) dX4_call_54 rfl kk) ?_
              refine cr_EEl (fun _ kk => e_iconst (pc := 55) (v := 1) dX4_call_55 (by decide) kk) ?_
              refine cr_EEb (fun _ k1 k2 => e_icmp_lt (pc := 56) (tgt := 64) dX4_call_56 (by decide) k1 k2) (fun hc_56 => ?_) (fun hc_56 => ?_)
              · refine cr_EEl (fun _ kk => e_aload_n (pc := 64) dX4_call_64 rfl kk) ?_
                refine cr_EEl (fun _ kk => e_bipush (pc := 65) (v := (-4)) dX4_call_65 (by decide) kk) ?_
                refine cr_EEl (fun _ kk => e_self1i (pc := 67) dX4_call_67 cs_X4_call_30 cv_X4_refuse rc_X4_refuse rfl (by decide) (Nat.le_of_ble_eq_true rfl) (ev_X4_refuse _ (k := 4) (by decide) (by decide)) kk) ?_
                refine cr_EEr (r_iret (pc := 70) dX4_call_70 rfl rfl) ?_
                exact x_leaf (by unfold m_call; rw [if_neg (by grind [bI_eq0]), if_pos (by grind)]) (x_I_ref ht hJ hX (by decide))
              · refine cr_EEl (fun _ kk => e_iload (pc := 59) dX4_call_59 rfl kk) ?_
                refine cr_EEb (fun _ k1 k2 => e_if_ge (pc := 61) (tgt := 71) dX4_call_61 (by decide) k1 k2) (fun hc_61 => ?_) (fun hc_61 => ?_)
                · refine cr_EEl (fun _ kk => e_iload_n (pc := 71) dX4_call_71 rfl kk) ?_
                  refine cr_EEl (fun _ kk => e_sipush (pc := 72) (v := 1000) dX4_call_72 (by decide) kk) ?_
                  refine cr_EEb (fun _ k1 k2 => e_icmp_gt (pc := 75) (tgt := 102) dX4_call_75 (by decide) k1 k2) (fun hc_75 => ?_) (fun hc_75 => ?_)
                  · refine cr_EEl (fun _ kk => e_aload_n (pc := 102) dX4_call_102 rfl kk) ?_
                    refine cr_EEl (fun _ kk => e_bipush (pc := 103) (v := (-6)) dX4_call_103 (by decide) kk) ?_
                    refine cr_EEl (fun _ kk => e_self1i (pc := 105) dX4_call_105 cs_X4_call_30 cv_X4_refuse rc_X4_refuse rfl (by decide) (Nat.le_of_ble_eq_true rfl) (ev_X4_refuse _ (k := 6) (by decide) (by decide)) kk) ?_
                    refine cr_EEr (r_iret (pc := 108) dX4_call_108 rfl rfl) ?_
                    exact x_leaf (by unfold m_call; rw [if_neg (by grind [bI_eq0]), if_neg (by grind), if_pos (by grind)]) (x_I_ref ht hJ hX (by decide))
                  · refine cr_EEl (fun _ kk => e_iload (pc := 78) dX4_call_78 rfl kk) ?_
                    refine cr_EEl (fun _ kk => e_sipush (pc := 80) (v := 5000) dX4_call_80 (by decide) kk) ?_
                    refine cr_EEb (fun _ k1 k2 => e_icmp_gt (pc := 83) (tgt := 102) dX4_call_83 (by decide) k1 k2) (fun hc_83 => ?_) (fun hc_83 => ?_)
                    · refine cr_EEl (fun _ kk => e_aload_n (pc := 102) dX4_call_102 rfl kk) ?_
                      refine cr_EEl (fun _ kk => e_bipush (pc := 103) (v := (-6)) dX4_call_103 (by decide) kk) ?_
                      refine cr_EEl (fun _ kk => e_self1i (pc := 105) dX4_call_105 cs_X4_call_30 cv_X4_refuse rc_X4_refuse rfl (by decide) (Nat.le_of_ble_eq_true rfl) (ev_X4_refuse _ (k := 6) (by decide) (by decide)) kk) ?_
                      refine cr_EEr (r_iret (pc := 108) dX4_call_108 rfl rfl) ?_
                      exact x_leaf (by unfold m_call; rw [if_neg (by grind [bI_eq0]), if_neg (by grind), if_pos (by grind)]) (x_I_ref ht hJ hX (by decide))
                    · refine cr_EEl (fun _ kk => e_aload_n (pc := 86) dX4_call_86 rfl kk) ?_
                      refine cr_EEl (fun _ kk => e_getA (pc := 87) dX4_call_87 f_4_10 rfl rfl kk) ?_
                      refine cr_EEl (fun _ kk => e_getA (pc := 90) dX4_call_90 f_4_78 rfl rfl kk) ?_
                      refine cr_EEl (fun _ kk => e_getI (pc := 93) dX4_call_93 f_4_82 rfl rfl kk) ?_
                      refine cr_EEl (fun _ kk => e_sipush (pc := 96) (v := 200) dX4_call_96 (by decide) kk) ?_
                      refine cr_EEb (fun _ k1 k2 => e_icmp_lt (pc := 99) (tgt := 109) dX4_call_99 (by decide) k1 k2) (fun hc_99 => ?_) (fun hc_99 => ?_)
                      · refine cr_EEl (fun _ kk => e_aload_n (pc := 109) dX4_call_109 rfl kk) ?_
                        refine cr_EEl (fun _ kk => e_getA (pc := 110) dX4_call_110 f_4_10 rfl rfl kk) ?_
                        refine cr_EEl (fun _ kk => e_getA (pc := 113) dX4_call_113 f_4_78 rfl rfl kk) ?_
                        refine cr_EEl (fun _ kk => e_iload_n (pc := 116) dX4_call_116 rfl kk) ?_
                        refine cr_EEl (fun _ kk => e_iload_n (pc := 117) dX4_call_117 rfl kk) ?_
                        refine cr_EEl (fun _ kk => e_iconst (pc := 118) (v := 1) dX4_call_118 (by decide) kk) ?_
                        refine cr_EEn (fun _ k1 k2 => e_icmp_ne (pc := 119) (tgt := 127) dX4_call_119 (by decide) k1 k2) (fun hc_119 => ?_) (fun hc_119 => ?_)
                        · refine cr_EEl (fun _ kk => e_bipush (pc := 127) (v := (-9)) dX4_call_127 (by decide) kk) ?_
                          refine cr_EEl (fun _ kk => e_offn2i (pc := 129) 13 dX4_call_129 cs_X4_call_85 cv_X0_add rc_X0_add fit_shR_shC_11 (by decide) rfl (Nat.le_of_ble_eq_true rfl) (ev_X0_add (fun j => X (11 + j)) (cn := cn) _ _ z4 (by grind)) kk) ?_
                          refine cr_EEl (fun _ kk => e_istore (pc := 132) dX4_call_132 (by decide) kk) ?_
                          refine cr_EEl (fun _ kk => e_aload_n (pc := 134) dX4_call_134 rfl kk) ?_
                          refine cr_EEl (fun _ kk => e_getA (pc := 135) dX4_call_135 f_4_10 rfl rfl kk) ?_
                          refine cr_EEl (fun _ kk => e_getA (pc := 138) dX4_call_138 f_4_78 rfl rfl kk) ?_
                          refine cr_EEl (fun _ kk => e_iload (pc := 141) dX4_call_141 rfl kk) ?_
                          refine cr_EEl (fun _ kk => e_iload_n (pc := 143) dX4_call_143 rfl kk) ?_
                          refine cr_EEl (fun _ kk => e_iload_n (pc := 144) dX4_call_144 rfl kk) ?_
                          refine cr_EEl (fun _ kk => e_iload (pc := 145) dX4_call_145 rfl kk) ?_
                          refine cr_EEl (fun _ kk => e_offn4v (pc := 147) 13 dX4_call_147 cs_X4_call_86 cv_X0_describe rc_X0_describe fit_shR_shC_11 (by decide) rfl (Nat.le_of_ble_eq_true rfl) (ev_X0_describe _ _ _ _ (by grind)) kk) ?_
                          refine cr_EEl (fun _ kk => e_aload_n (pc := 150) dX4_call_150 rfl kk) ?_
                          refine cr_EEl (fun _ kk => e_getA (pc := 151) dX4_call_151 f_4_10 rfl rfl kk) ?_
                          refine cr_EEl (fun _ kk => e_getA (pc := 154) dX4_call_154 f_4_78 rfl rfl kk) ?_
                          refine cr_EEl (fun _ kk => e_iload (pc := 157) dX4_call_157 rfl kk) ?_
                          refine cr_EEl (fun _ kk => e_aload_n (pc := 159) dX4_call_159 rfl kk) ?_
                          refine cr_EEl (fun _ kk => e_getA (pc := 160) dX4_call_160 f_4_10 rfl rfl kk) ?_
                          refine cr_EEl (fun _ kk => e_getIv (pc := 163) (X 1 4) dX4_call_163 f_4_44 rfl rfl rfl kk) ?_
                          refine cr_EEl (fun _ kk => e_offn2v (pc := 166) 13 dX4_call_166 cs_X4_call_90 cv_X0_arrive rc_X0_arrive fit_shR_shC_11 (by decide) rfl (Nat.le_of_ble_eq_true rfl) (ev_X0_arrive _ _ (by grind)) kk) ?_
                          refine cr_EEl (fun _ kk => e_iload (pc := 169) dX4_call_169 rfl kk) ?_
                          refine cr_EEr (r_iret (pc := 171) dX4_call_171 rfl rfl) ?_
                          obtain ⟨s', hs', rfl⟩ := nI_of2 (x := s) (M := 3) (n := 3) (by decide) (by grind [bI_eq0]) (by grind [bI_eq0])
                          obtain ⟨l', hl', rfl⟩ := nI_of2 (x := l) (M := 1000) (n := 1000) (by decide) (by grind) (by grind)
                          obtain ⟨p', hp', rfl⟩ := nI_of2 (x := p) (M := 5000) (n := 5000) (by decide) (by grind) (by grind)
                          have hl1 : 1 ≤ l' := by
                            have : ¬ nI l' < nI 1 := by assumption
                            rw [nI_ltI (by omega) (by omega)] at this; omega
                          have ho : k = 1 → ∃ j, j < hn ∧ w = nI j := by
                            intro q
                            have hw : 0 ≤ w ∧ w < nI hn := by rw [← z3]; grind [bI_eq0]
                            rcases cr_ix w (n := hn) (by omega) with z | z
                            · exact absurd hw z
                            · exact z
                          refine x_leaf (by unfold m_call; rw [if_neg (by grind [bI_eq0]), if_neg (by grind), if_neg (by grind)]) ?_
                          rw [cr_mg_mg, cr_mg_mg]
                          exact x_I_call ht hJ hX (by grind) (by omega) hl1 hl' hp' ho (fun j hj => by first | (rw [if_pos (by assumption)]; exact x_cc hj) | (rw [if_neg (by assumption)]; exact x_cc hj))
                        · refine cr_EEl (fun _ kk => e_iload (pc := 122) dX4_call_122 rfl kk) ?_
                          refine cr_EEl (fun _ kk => e_goto (pc := 124) (tgt := 129) dX4_call_124 (by decide) kk) ?_
                          refine cr_EEl (fun _ kk => e_offn2i (pc := 129) 13 dX4_call_129 cs_X4_call_85 cv_X0_add rc_X0_add fit_shR_shC_11 (by decide) rfl (Nat.le_of_ble_eq_true rfl) (ev_X0_add (fun j => X (11 + j)) (cn := cn) _ _ z4 (by grind)) kk) ?_
                          refine cr_EEl (fun _ kk => e_istore (pc := 132) dX4_call_132 (by decide) kk) ?_
                          refine cr_EEl (fun _ kk => e_aload_n (pc := 134) dX4_call_134 rfl kk) ?_
                          refine cr_EEl (fun _ kk => e_getA (pc := 135) dX4_call_135 f_4_10 rfl rfl kk) ?_
                          refine cr_EEl (fun _ kk => e_getA (pc := 138) dX4_call_138 f_4_78 rfl rfl kk) ?_
                          refine cr_EEl (fun _ kk => e_iload (pc := 141) dX4_call_141 rfl kk) ?_
                          refine cr_EEl (fun _ kk => e_iload_n (pc := 143) dX4_call_143 rfl kk) ?_
                          refine cr_EEl (fun _ kk => e_iload_n (pc := 144) dX4_call_144 rfl kk) ?_
                          refine cr_EEl (fun _ kk => e_iload (pc := 145) dX4_call_145 rfl kk) ?_
                          refine cr_EEl (fun _ kk => e_offn4v (pc := 147) 13 dX4_call_147 cs_X4_call_86 cv_X0_describe rc_X0_describe fit_shR_shC_11 (by decide) rfl (Nat.le_of_ble_eq_true rfl) (ev_X0_describe _ _ _ _ (by grind)) kk) ?_
                          refine cr_EEl (fun _ kk => e_aload_n (pc := 150) dX4_call_150 rfl kk) ?_
                          refine cr_EEl (fun _ kk => e_getA (pc := 151) dX4_call_151 f_4_10 rfl rfl kk) ?_
                          refine cr_EEl (fun _ kk => e_getA (pc := 154) dX4_call_154 f_4_78 rfl rfl kk) ?_
                          refine cr_EEl (fun _ kk => e_iload (pc := 157) dX4_call_157 rfl kk) ?_
                          refine cr_EEl (fun _ kk => e_aload_n (pc := 159) dX4_call_159 rfl kk) ?_
                          refine cr_EEl (fun _ kk => e_getA (pc := 160) dX4_call_160 f_4_10 rfl rfl kk) ?_
                          refine cr_EEl (fun _ kk => e_getIv (pc := 163) (X 1 4) dX4_call_163 f_4_44 rfl rfl rfl kk) ?_
                          refine cr_EEl (fun _ kk => e_offn2v (pc := 166) 13 dX4_call_166 cs_X4_call_90 cv_X0_arrive rc_X0_arrive fit_shR_shC_11 (by decide) rfl (Nat.le_of_ble_eq_true rfl) (ev_X0_arrive _ _ (by grind)) kk) ?_
                          refine cr_EEl (fun _ kk => e_iload (pc := 169) dX4_call_169 rfl kk) ?_
                          refine cr_EEr (r_iret (pc := 171) dX4_call_171 rfl rfl) ?_
                          obtain ⟨s', hs', rfl⟩ := nI_of2 (x := s) (M := 3) (n := 3) (by decide) (by grind [bI_eq0]) (by grind [bI_eq0])
                          obtain ⟨l', hl', rfl⟩ := nI_of2 (x := l) (M := 1000) (n := 1000) (by decide) (by grind) (by grind)
                          obtain ⟨p', hp', rfl⟩ := nI_of2 (x := p) (M := 5000) (n := 5000) (by decide) (by grind) (by grind)
                          have hl1 : 1 ≤ l' := by
                            have : ¬ nI l' < nI 1 := by assumption
                            rw [nI_ltI (by omega) (by omega)] at this; omega
                          have ho : k = 1 → ∃ j, j < hn ∧ w = nI j := by
                            intro q
                            have hw : 0 ≤ w ∧ w < nI hn := by rw [← z3]; grind [bI_eq0]
                            rcases cr_ix w (n := hn) (by omega) with z | z
                            · exact absurd hw z
                            · exact z
                          refine x_leaf (by unfold m_call; rw [if_neg (by grind [bI_eq0]), if_neg (by grind), if_neg (by grind)]) ?_
                          rw [cr_mg_mg, cr_mg_mg]
                          exact x_I_call ht hJ hX (by grind) (by omega) hl1 hl' hp' ho (fun j hj => by first | (rw [if_pos (by assumption)]; exact x_cc hj) | (rw [if_neg (by assumption)]; exact x_cc hj))
                      · refine cr_EEl (fun _ kk => e_aload_n (pc := 102) dX4_call_102 rfl kk) ?_
                        refine cr_EEl (fun _ kk => e_bipush (pc := 103) (v := (-6)) dX4_call_103 (by decide) kk) ?_
                        refine cr_EEl (fun _ kk => e_self1i (pc := 105) dX4_call_105 cs_X4_call_30 cv_X4_refuse rc_X4_refuse rfl (by decide) (Nat.le_of_ble_eq_true rfl) (ev_X4_refuse _ (k := 6) (by decide) (by decide)) kk) ?_
                        refine cr_EEr (r_iret (pc := 108) dX4_call_108 rfl rfl) ?_
                        exact x_leaf (by unfold m_call; rw [if_neg (by grind [bI_eq0]), if_neg (by grind), if_pos (by grind)]) (x_I_ref ht hJ hX (by decide))
                · refine cr_EEl (fun _ kk => e_aload_n (pc := 64) dX4_call_64 rfl kk) ?_
                  refine cr_EEl (fun _ kk => e_bipush (pc := 65) (v := (-4)) dX4_call_65 (by decide) kk) ?_
                  refine cr_EEl (fun _ kk => e_self1i (pc := 67) dX4_call_67 cs_X4_call_30 cv_X4_refuse rc_X4_refuse rfl (by decide) (Nat.le_of_ble_eq_true rfl) (ev_X4_refuse _ (k := 4) (by decide) (by decide)) kk) ?_
                  refine cr_EEr (r_iret (pc := 70) dX4_call_70 rfl rfl) ?_
                  exact x_leaf (by unfold m_call; rw [if_neg (by grind [bI_eq0]), if_pos (by grind)]) (x_I_ref ht hJ hX (by decide))
            · refine cr_EEl (fun _ kk => e_aload_n (pc := 48) dX4_call_48 rfl kk) ?_
              refine cr_EEl (fun _ kk => e_iconst (pc := 49) (v := (-1)) dX4_call_49 (by decide) kk) ?_
              refine cr_EEl (fun _ kk => e_self1i (pc := 50) dX4_call_50 cs_X4_call_30 cv_X4_refuse rc_X4_refuse rfl (by decide) (Nat.le_of_ble_eq_true rfl) (ev_X4_refuse _ (k := 1) (by decide) (by decide)) kk) ?_
              refine cr_EEr (r_iret (pc := 53) dX4_call_53 rfl rfl) ?_
              exact x_leaf (by unfold m_call; rw [if_pos (by grind [bI_eq0])]) (x_I_ref ht hJ hX (by decide))
set_option maxHeartbeats 4000000 in
theorem th_ring {X N : cr_M} (h n : Int32) (hI : x_I X N) : ∃ z, cr_EvM Y_X5_ring [.inr (.inr 0), .inl h, .inl n] N (some (.inl z.1), z.2) ∧ cr_EE Y_X4_ring 0 (cr_al 0 [.inr (.inr 0), .inl h, .inl n]) [] X (x_P z) := by
  obtain ⟨hn, cn, tk, ht, hJ, hX⟩ := hI
  obtain ⟨h10, h200, z3, z4, z5, z6, z7⟩ := r_X_z hX
  have s4 : N 0 4 = nI hn := hJ.1.2.2.1
  have s5 : N 0 5 = nI cn := hJ.1.2.2.2.1
  rcases cr_ix h (n := cn) (by omega) with hq | ⟨c, hc, rfl⟩
  · have hhas : ¬ (0 ≤ h ∧ h < X 11 0) := by rw [z4]; exact hq
    refine ⟨(-1, n_ref N 1), ev_X5_ring_n N h n s5 hq, ?_⟩
    refine cr_EEl (fun _ kk => e_aload_n (pc := 0) dX4_ring_0 rfl kk) ?_
    refine cr_EEl (fun _ kk => e_iload_n (pc := 1) dX4_ring_1 rfl kk) ?_
    refine cr_EEl (fun _ kk => e_self1i (pc := 2) dX4_ring_2 cs_X4_ring_100 cv_X4_notWaiting rc_X4_notWaiting rfl (by decide) (Nat.le_of_ble_eq_true rfl) (ev_X4_notWaiting_n X hhas) kk) ?_
    refine cr_EEl (fun _ kk => e_istore_n (pc := 5) dX4_ring_5 (by decide) kk) ?_
    refine cr_EEl (fun _ kk => e_iload_n (pc := 6) dX4_ring_6 rfl kk) ?_
    refine cr_EEn (fun _ k1 k2 => e_if_ne (pc := 7) (tgt := 19) dX4_ring_7 (by decide) k1 k2) (fun hc_7 => ?_) (fun hc_7 => absurd hc_7 (by decide))
    refine cr_EEl (fun _ kk => e_iload_n (pc := 19) dX4_ring_19 rfl kk) ?_
    refine cr_EEb (fun _ k1 k2 => e_if_eq (pc := 20) (tgt := 29) dX4_ring_20 (by decide) k1 k2) (fun hc_20 => absurd hc_20 (by decide)) (fun hc_20 => ?_)
    refine cr_EEl (fun _ kk => e_aload_n (pc := 23) dX4_ring_23 rfl kk) ?_
    refine cr_EEl (fun _ kk => e_iload_n (pc := 24) dX4_ring_24 rfl kk) ?_
    refine cr_EEl (fun _ kk => e_self1i (pc := 25) dX4_ring_25 cs_X4_ring_30 cv_X4_refuse rc_X4_refuse rfl (by decide) (Nat.le_of_ble_eq_true rfl) (ev_X4_refuse _ (k := 1) (by decide) (by decide)) kk) ?_
    refine cr_EEr (r_iret (pc := 28) dX4_ring_28 rfl rfl) ?_
    exact x_leaf rfl (x_I_ref ht hJ hX (by decide))
  · have hhas : 0 ≤ nI c ∧ nI c < X 11 0 := by rw [z4]; exact cr_ix_in hc (by omega)
    have e16 : X 12 c = N 16 c := ((r_X_C hX).2.2 c hc).1
    by_cases h0 : N 16 c = 0
    · have h0x : X 12 c = 0 := e16.trans h0
      refine ⟨m_ring N c n, ev_X5_ring n s5 h200 hc, ?_⟩
      refine cr_EEl (fun _ kk => e_aload_n (pc := 0) dX4_ring_0 rfl kk) ?_
      refine cr_EEl (fun _ kk => e_iload_n (pc := 1) dX4_ring_1 rfl kk) ?_
      refine cr_EEl (fun _ kk => e_self1i (pc := 2) dX4_ring_2 cs_X4_ring_100 cv_X4_notWaiting rc_X4_notWaiting rfl (by decide) (Nat.le_of_ble_eq_true rfl) (ev_X4_notWaiting_0 X hhas (by omega) h0x) kk) ?_
      refine cr_EEl (fun _ kk => e_istore_n (pc := 5) dX4_ring_5 (by decide) kk) ?_
      refine cr_EEl (fun _ kk => e_iload_n (pc := 6) dX4_ring_6 rfl kk) ?_
      refine cr_EEn (fun _ k1 k2 => e_if_ne (pc := 7) (tgt := 19) dX4_ring_7 (by decide) k1 k2) (fun hc_7 => absurd hc_7 (by decide)) (fun hc_7 => ?_)
      refine cr_EEl (fun _ kk => e_iload_n (pc := 10) dX4_ring_10 rfl kk) ?_
      refine cr_EEl (fun _ kk => e_iconst (pc := 11) (v := 1) dX4_ring_11 (by decide) kk) ?_
      refine cr_EEl (fun _ kk => e_sipush (pc := 12) (v := 5000) dX4_ring_12 (by decide) kk) ?_
      refine cr_EEl (fun _ kk => e_stat3i (pc := 15) dX4_ring_15 cs_X4_ring_58 st_X4_outside rfl (by decide) (Nat.le_of_ble_eq_true rfl) (ev_X4_outside _ _ _ _) kk) ?_
      rcases x_out_c n 1 5000 with ⟨ho1, he⟩ | ⟨ho1, ho2, he⟩ | ⟨ho1, ho2, he⟩
      · rw [he]
        refine cr_EEl (fun _ kk => e_istore_n (pc := 18) dX4_ring_18 (by decide) kk) ?_
        refine cr_EEl (fun _ kk => e_iload_n (pc := 19) dX4_ring_19 rfl kk) ?_
        refine cr_EEb (fun _ k1 k2 => e_if_eq (pc := 20) (tgt := 29) dX4_ring_20 (by decide) k1 k2) (fun hc_20 => absurd hc_20 (by decide)) (fun hc_20 => ?_)
        refine cr_EEl (fun _ kk => e_aload_n (pc := 23) dX4_ring_23 rfl kk) ?_
        refine cr_EEl (fun _ kk => e_iload_n (pc := 24) dX4_ring_24 rfl kk) ?_
        refine cr_EEl (fun _ kk => e_self1i (pc := 25) dX4_ring_25 cs_X4_ring_30 cv_X4_refuse rc_X4_refuse rfl (by decide) (Nat.le_of_ble_eq_true rfl) (ev_X4_refuse _ (k := 4) (by decide) (by decide)) kk) ?_
        refine cr_EEr (r_iret (pc := 28) dX4_ring_28 rfl rfl) ?_
        exact x_leaf (by unfold m_ring; first | grind | (repeat (first | rw [if_pos (by grind)] | rw [if_neg (by grind)]))) (x_I_ref ht hJ hX (by decide))
      · rw [he]
        refine cr_EEl (fun _ kk => e_istore_n (pc := 18) dX4_ring_18 (by decide) kk) ?_
        refine cr_EEl (fun _ kk => e_iload_n (pc := 19) dX4_ring_19 rfl kk) ?_
        refine cr_EEb (fun _ k1 k2 => e_if_eq (pc := 20) (tgt := 29) dX4_ring_20 (by decide) k1 k2) (fun hc_20 => absurd hc_20 (by decide)) (fun hc_20 => ?_)
        refine cr_EEl (fun _ kk => e_aload_n (pc := 23) dX4_ring_23 rfl kk) ?_
        refine cr_EEl (fun _ kk => e_iload_n (pc := 24) dX4_ring_24 rfl kk) ?_
        refine cr_EEl (fun _ kk => e_self1i (pc := 25) dX4_ring_25 cs_X4_ring_30 cv_X4_refuse rc_X4_refuse rfl (by decide) (Nat.le_of_ble_eq_true rfl) (ev_X4_refuse _ (k := 6) (by decide) (by decide)) kk) ?_
        refine cr_EEr (r_iret (pc := 28) dX4_ring_28 rfl rfl) ?_
        exact x_leaf (by unfold m_ring; first | grind | (repeat (first | rw [if_pos (by grind)] | rw [if_neg (by grind)]))) (x_I_ref ht hJ hX (by decide))
      · rw [he]
        refine cr_EEl (fun _ kk => e_istore_n (pc := 18) dX4_ring_18 (by decide) kk) ?_
        refine cr_EEl (fun _ kk => e_iload_n (pc := 19) dX4_ring_19 rfl kk) ?_
        refine cr_EEb (fun _ k1 k2 => e_if_eq (pc := 20) (tgt := 29) dX4_ring_20 (by decide) k1 k2) (fun hc_20 => ?_) (fun hc_20 => absurd hc_20 (by decide))
        refine cr_EEl (fun _ kk => e_aload_n (pc := 29) dX4_ring_29 rfl kk) ?_
        refine cr_EEl (fun _ kk => e_getA (pc := 30) dX4_ring_30 f_4_10 rfl rfl kk) ?_
        refine cr_EEl (fun _ kk => e_getA (pc := 33) dX4_ring_33 f_4_78 rfl rfl kk) ?_
        refine cr_EEl (fun _ kk => e_iload_n (pc := 36) dX4_ring_36 rfl kk) ?_
        refine cr_EEl (fun _ kk => e_aload_n (pc := 37) dX4_ring_37 rfl kk) ?_
        refine cr_EEl (fun _ kk => e_getA (pc := 38) dX4_ring_38 f_4_10 rfl rfl kk) ?_
        refine cr_EEl (fun _ kk => e_getIv (pc := 41) (N 0 3) dX4_ring_41 f_4_44 rfl rfl z5 kk) ?_
        refine cr_EEl (fun _ kk => e_iload_n (pc := 44) dX4_ring_44 rfl kk) ?_
        refine cr_EEl (fun _ kk => e_iadd (pc := 45) dX4_ring_45 kk) ?_
        refine cr_EEl (fun _ kk => e_offn2v (pc := 46) 13 dX4_ring_46 cs_X4_ring_103 cv_X0_putBack rc_X0_putBack fit_shR_shC_11 (by decide) rfl (Nat.le_of_ble_eq_true rfl) (ev_X0_putBack (fun j => X (11 + j)) _ (by omega)) kk) ?_
        refine cr_EEl (fun _ kk => e_aload_n (pc := 49) dX4_ring_49 rfl kk) ?_
        refine cr_EEl (fun _ kk => e_getA (pc := 50) dX4_ring_50 f_4_10 rfl rfl kk) ?_
        refine cr_EEl (fun _ kk => e_getIv (pc := 53) (N 0 3) dX4_ring_53 f_4_44 rfl rfl z5 kk) ?_
        refine cr_EEl (fun _ kk => e_iload_n (pc := 56) dX4_ring_56 rfl kk) ?_
        refine cr_EEl (fun _ kk => e_iadd (pc := 57) dX4_ring_57 kk) ?_
        refine cr_EEr (r_iret (pc := 58) dX4_ring_58 rfl rfl) ?_
        obtain ⟨n, hn2, rfl⟩ := nI_of2 (x := n) (M := 5000) (n := 5000) (by decide) (by grind) (by grind)
        have hn1 : 1 ≤ n := by
          have : ¬ nI n < nI 1 := ho1
          rw [nI_ltI (by omega) (by omega)] at this; omega
        have et : N 0 3 + nI n = nI (tk + n) := by rw [hJ.2.1, nI_add]
        refine x_leaf (N' := cr_up (cr_up N 16 c 4) 19 c (nI (tk + n))) (by unfold m_ring; rw [et, if_pos (by grind), if_neg (by grind), if_neg (by grind)]) ?_
        rw [et]
        exact x_I_ring ht hJ hX hc h0 (by omega) (by omega)
    · have h0x : ¬ X 12 c = 0 := by rw [e16]; exact h0
      refine ⟨m_ring N c n, ev_X5_ring n s5 h200 hc, ?_⟩
      refine cr_EEl (fun _ kk => e_aload_n (pc := 0) dX4_ring_0 rfl kk) ?_
      refine cr_EEl (fun _ kk => e_iload_n (pc := 1) dX4_ring_1 rfl kk) ?_
      refine cr_EEl (fun _ kk => e_self1i (pc := 2) dX4_ring_2 cs_X4_ring_100 cv_X4_notWaiting rc_X4_notWaiting rfl (by decide) (Nat.le_of_ble_eq_true rfl) (ev_X4_notWaiting_2 X hhas (by omega) h0x) kk) ?_
      refine cr_EEl (fun _ kk => e_istore_n (pc := 5) dX4_ring_5 (by decide) kk) ?_
      refine cr_EEl (fun _ kk => e_iload_n (pc := 6) dX4_ring_6 rfl kk) ?_
      refine cr_EEn (fun _ k1 k2 => e_if_ne (pc := 7) (tgt := 19) dX4_ring_7 (by decide) k1 k2) (fun hc_7 => ?_) (fun hc_7 => absurd hc_7 (by decide))
      refine cr_EEl (fun _ kk => e_iload_n (pc := 19) dX4_ring_19 rfl kk) ?_
      refine cr_EEb (fun _ k1 k2 => e_if_eq (pc := 20) (tgt := 29) dX4_ring_20 (by decide) k1 k2) (fun hc_20 => absurd hc_20 (by decide)) (fun hc_20 => ?_)
      refine cr_EEl (fun _ kk => e_aload_n (pc := 23) dX4_ring_23 rfl kk) ?_
      refine cr_EEl (fun _ kk => e_iload_n (pc := 24) dX4_ring_24 rfl kk) ?_
      refine cr_EEl (fun _ kk => e_self1i (pc := 25) dX4_ring_25 cs_X4_ring_30 cv_X4_refuse rc_X4_refuse rfl (by decide) (Nat.le_of_ble_eq_true rfl) (ev_X4_refuse _ (k := 2) (by decide) (by decide)) kk) ?_
      refine cr_EEr (r_iret (pc := 28) dX4_ring_28 rfl rfl) ?_
      exact x_leaf (by unfold m_ring; first | grind | (repeat (first | rw [if_pos (by grind)] | rw [if_neg (by grind)]))) (x_I_ref ht hJ hX (by decide))
set_option maxHeartbeats 4000000 in
theorem th_leave {X N : cr_M} (h : Int32) (hI : x_I X N) : ∃ z, cr_EvM Y_X5_leave [.inr (.inr 0), .inl h] N (some (.inl z.1), z.2) ∧ cr_EE Y_X4_leave 0 (cr_al 0 [.inr (.inr 0), .inl h]) [] X (x_P z) := by
  obtain ⟨hn, cn, tk, ht, hJ, hX⟩ := hI
  obtain ⟨h10, h200, z3, z4, z5, z6, z7⟩ := r_X_z hX
  have s4 : N 0 4 = nI hn := hJ.1.2.2.1
  have s5 : N 0 5 = nI cn := hJ.1.2.2.2.1
  rcases cr_ix h (n := cn) (by omega) with hq | ⟨c, hc, rfl⟩
  · have hhas : ¬ (0 ≤ h ∧ h < X 11 0) := by rw [z4]; exact hq
    refine ⟨(-1, n_ref N 1), ev_X5_leave_n N h s5 hq, ?_⟩
    refine cr_EEl (fun _ kk => e_aload_n (pc := 0) dX4_leave_0 rfl kk) ?_
    refine cr_EEl (fun _ kk => e_getA (pc := 1) dX4_leave_1 f_4_10 rfl rfl kk) ?_
    refine cr_EEl (fun _ kk => e_getA (pc := 4) dX4_leave_4 f_4_78 rfl rfl kk) ?_
    refine cr_EEl (fun _ kk => e_iload_n (pc := 7) dX4_leave_7 rfl kk) ?_
    refine cr_EEl (fun _ kk => e_offR1i (pc := 8) (M' := fun _ _ => 0) dX4_leave_8 cs_X4_leave_106 cv_X0_has rc_X0_has fit_shR_shC_11 (by decide) (Nat.le_of_ble_eq_true rfl) (ev_X0_hasF (M := fun j => X (11 + j)) hhas) kk) ?_
    refine cr_EEn (fun _ k1 k2 => e_if_ne (pc := 11) (tgt := 20) dX4_leave_11 (by decide) k1 k2) (fun hc_11 => absurd hc_11 (by decide)) (fun hc_11 => ?_)
    refine cr_EEl (fun _ kk => e_aload_n (pc := 14) dX4_leave_14 rfl kk) ?_
    refine cr_EEl (fun _ kk => e_iconst (pc := 15) (v := (-1)) dX4_leave_15 (by decide) kk) ?_
    refine cr_EEl (fun _ kk => e_self1i (pc := 16) dX4_leave_16 cs_X4_leave_30 cv_X4_refuse rc_X4_refuse rfl (by decide) (Nat.le_of_ble_eq_true rfl) (ev_X4_refuse _ (k := 1) (by decide) (by decide)) kk) ?_
    refine cr_EEr (r_iret (pc := 19) dX4_leave_19 rfl rfl) ?_
    exact x_leaf rfl (x_I_ref ht hJ hX (by decide))
  · have hhas : 0 ≤ nI c ∧ nI c < X 11 0 := by rw [z4]; exact cr_ix_in hc (by omega)
    obtain ⟨y1, y2, y3, y4, y5, y6, y7, y8, y9, y10, y11, y12⟩ := (r_X_C hX).2.2 c hc
    have y1 : X 12 c = N 16 c := y1
    refine ⟨m_leave N c, ev_X5_leave s5 h200 hc, ?_⟩
    refine cr_EEl (fun _ kk => e_aload_n (pc := 0) dX4_leave_0 rfl kk) ?_
    refine cr_EEl (fun _ kk => e_getA (pc := 1) dX4_leave_1 f_4_10 rfl rfl kk) ?_
    refine cr_EEl (fun _ kk => e_getA (pc := 4) dX4_leave_4 f_4_78 rfl rfl kk) ?_
    refine cr_EEl (fun _ kk => e_iload_n (pc := 7) dX4_leave_7 rfl kk) ?_
    refine cr_EEl (fun _ kk => e_offR1i (pc := 8) (M' := fun _ _ => 0) dX4_leave_8 cs_X4_leave_106 cv_X0_has rc_X0_has fit_shR_shC_11 (by decide) (Nat.le_of_ble_eq_true rfl) (ev_X0_hasT (M := fun j => X (11 + j)) hhas) kk) ?_
    refine cr_EEn (fun _ k1 k2 => e_if_ne (pc := 11) (tgt := 20) dX4_leave_11 (by decide) k1 k2) (fun hc_11 => ?_) (fun hc_11 => absurd hc_11 (by decide))
    refine cr_EEl (fun _ kk => e_aload_n (pc := 20) dX4_leave_20 rfl kk) ?_
    refine cr_EEl (fun _ kk => e_getA (pc := 21) dX4_leave_21 f_4_10 rfl rfl kk) ?_
    refine cr_EEl (fun _ kk => e_getA (pc := 24) dX4_leave_24 f_4_78 rfl rfl kk) ?_
    refine cr_EEl (fun _ kk => e_getA (pc := 27) dX4_leave_27 f_4_107 rfl rfl kk) ?_
    refine cr_EEl (fun _ kk => e_iload_n (pc := 30) dX4_leave_30 rfl kk) ?_
    first | refine cr_EEl (fun _ kk => e_ialdN (pc := 31) dX4_leave_31 rfl (by omega) (by decide) kk) ?_ | refine cr_EEl (fun _ kk => e_iald (pc := 31) dX4_leave_31 rfl (by assumption) kk) ?_
    refine cr_EEl (fun _ kk => e_istore_n (pc := 32) dX4_leave_32 (by decide) kk) ?_
    refine cr_EEl (fun _ kk => e_iload_n (pc := 33) dX4_leave_33 rfl kk) ?_
    refine cr_EEb (fun _ k1 k2 => e_if_eq (pc := 34) (tgt := 49) dX4_leave_34 (by decide) k1 k2) (fun hc_34 => ?_) (fun hc_34 => ?_)
    · refine cr_EEl (fun _ kk => e_aload_n (pc := 49) dX4_leave_49 rfl kk) ?_
      refine cr_EEl (fun _ kk => e_getA (pc := 50) dX4_leave_50 f_4_10 rfl rfl kk) ?_
      refine cr_EEl (fun _ kk => e_getA (pc := 53) dX4_leave_53 f_4_78 rfl rfl kk) ?_
      refine cr_EEl (fun _ kk => e_getA (pc := 56) dX4_leave_56 f_4_107 rfl rfl kk) ?_
      refine cr_EEl (fun _ kk => e_iload_n (pc := 59) dX4_leave_59 rfl kk) ?_
      refine cr_EEl (fun _ kk => e_iconst (pc := 60) (v := 3) dX4_leave_60 (by decide) kk) ?_
      first | refine cr_EEl (fun _ kk => e_iastN (pc := 61) dX4_leave_61 rfl (by omega) (by decide) kk) ?_ | refine cr_EEl (fun _ kk => e_iast (pc := 61) dX4_leave_61 rfl (by assumption) kk) ?_
      refine cr_EEl (fun _ kk => e_iconst (pc := 62) (v := 1) dX4_leave_62 (by decide) kk) ?_
      refine cr_EEr (r_iret (pc := 63) dX4_leave_63 rfl rfl) ?_
      exact x_leaf (by unfold m_leave; rw [if_pos (by grind)]) (x_I_leave ht hJ hX hc (by grind))
    · refine cr_EEl (fun _ kk => e_iload_n (pc := 37) dX4_leave_37 rfl kk) ?_
      refine cr_EEl (fun _ kk => e_iconst (pc := 38) (v := 4) dX4_leave_38 (by decide) kk) ?_
      refine cr_EEb (fun _ k1 k2 => e_icmp_eq (pc := 39) (tgt := 49) dX4_leave_39 (by decide) k1 k2) (fun hc_39 => ?_) (fun hc_39 => ?_)
      · refine cr_EEl (fun _ kk => e_aload_n (pc := 49) dX4_leave_49 rfl kk) ?_
        refine cr_EEl (fun _ kk => e_getA (pc := 50) dX4_leave_50 f_4_10 rfl rfl kk) ?_
        refine cr_EEl (fun _ kk => e_getA (pc := 53) dX4_leave_53 f_4_78 rfl rfl kk) ?_
        refine cr_EEl (fun _ kk => e_getA (pc := 56) dX4_leave_56 f_4_107 rfl rfl kk) ?_
        refine cr_EEl (fun _ kk => e_iload_n (pc := 59) dX4_leave_59 rfl kk) ?_
        refine cr_EEl (fun _ kk => e_iconst (pc := 60) (v := 3) dX4_leave_60 (by decide) kk) ?_
        first | refine cr_EEl (fun _ kk => e_iastN (pc := 61) dX4_leave_61 rfl (by omega) (by decide) kk) ?_ | refine cr_EEl (fun _ kk => e_iast (pc := 61) dX4_leave_61 rfl (by assumption) kk) ?_
        refine cr_EEl (fun _ kk => e_iconst (pc := 62) (v := 1) dX4_leave_62 (by decide) kk) ?_
        refine cr_EEr (r_iret (pc := 63) dX4_leave_63 rfl rfl) ?_
        exact x_leaf (by unfold m_leave; rw [if_pos (by grind)]) (x_I_leave ht hJ hX hc (by grind))
      · refine cr_EEl (fun _ kk => e_aload_n (pc := 42) dX4_leave_42 rfl kk) ?_
        refine cr_EEl (fun _ kk => e_bipush (pc := 43) (v := (-2)) dX4_leave_43 (by decide) kk) ?_
        refine cr_EEl (fun _ kk => e_self1i (pc := 45) dX4_leave_45 cs_X4_leave_30 cv_X4_refuse rc_X4_refuse rfl (by decide) (Nat.le_of_ble_eq_true rfl) (ev_X4_refuse _ (k := 2) (by decide) (by decide)) kk) ?_
        refine cr_EEr (r_iret (pc := 48) dX4_leave_48 rfl rfl) ?_
        exact x_leaf (by unfold m_leave; first | grind | (repeat (first | rw [if_pos (by grind)] | rw [if_neg (by grind)]))) (x_I_ref ht hJ hX (by decide))
set_option maxHeartbeats 4000000 in
theorem th_urge {X N : cr_M} (h : Int32) (hI : x_I X N) : ∃ z, cr_EvM Y_X5_urge [.inr (.inr 0), .inl h] N (some (.inl z.1), z.2) ∧ cr_EE Y_X4_urge 0 (cr_al 0 [.inr (.inr 0), .inl h]) [] X (x_P z) := by
  obtain ⟨hn, cn, tk, ht, hJ, hX⟩ := hI
  obtain ⟨h10, h200, z3, z4, z5, z6, z7⟩ := r_X_z hX
  have s4 : N 0 4 = nI hn := hJ.1.2.2.1
  have s5 : N 0 5 = nI cn := hJ.1.2.2.2.1
  rcases cr_ix h (n := cn) (by omega) with hq | ⟨c, hc, rfl⟩
  · have hhas : ¬ (0 ≤ h ∧ h < X 11 0) := by rw [z4]; exact hq
    refine ⟨(-1, n_ref N 1), ev_X5_urge_n N h s5 hq, ?_⟩
    refine cr_EEl (fun _ kk => e_aload_n (pc := 0) dX4_urge_0 rfl kk) ?_
    refine cr_EEl (fun _ kk => e_iload_n (pc := 1) dX4_urge_1 rfl kk) ?_
    refine cr_EEl (fun _ kk => e_self1i (pc := 2) dX4_urge_2 cs_X4_urge_100 cv_X4_notWaiting rc_X4_notWaiting rfl (by decide) (Nat.le_of_ble_eq_true rfl) (ev_X4_notWaiting_n X hhas) kk) ?_
    refine cr_EEl (fun _ kk => e_istore_n (pc := 5) dX4_urge_5 (by decide) kk) ?_
    refine cr_EEl (fun _ kk => e_iload_n (pc := 6) dX4_urge_6 rfl kk) ?_
    refine cr_EEb (fun _ k1 k2 => e_if_eq (pc := 7) (tgt := 16) dX4_urge_7 (by decide) k1 k2) (fun hc_7 => absurd hc_7 (by decide)) (fun hc_7 => ?_)
    refine cr_EEl (fun _ kk => e_aload_n (pc := 10) dX4_urge_10 rfl kk) ?_
    refine cr_EEl (fun _ kk => e_iload_n (pc := 11) dX4_urge_11 rfl kk) ?_
    refine cr_EEl (fun _ kk => e_self1i (pc := 12) dX4_urge_12 cs_X4_urge_30 cv_X4_refuse rc_X4_refuse rfl (by decide) (Nat.le_of_ble_eq_true rfl) (ev_X4_refuse _ (k := 1) (by decide) (by decide)) kk) ?_
    refine cr_EEr (r_iret (pc := 15) dX4_urge_15 rfl rfl) ?_
    exact x_leaf rfl (x_I_ref ht hJ hX (by decide))
  · have hhas : 0 ≤ nI c ∧ nI c < X 11 0 := by rw [z4]; exact cr_ix_in hc (by omega)
    have e16 : X 12 c = N 16 c := ((r_X_C hX).2.2 c hc).1
    by_cases h0 : N 16 c = 0
    · have h0x : X 12 c = 0 := e16.trans h0
      refine ⟨m_urge N c, ev_X5_urge s5 h200 hc, ?_⟩
      have y2 : X 13 c = N 10 c := ((r_X_C hX).2.2 c hc).2.1
      refine cr_EEl (fun _ kk => e_aload_n (pc := 0) dX4_urge_0 rfl kk) ?_
      refine cr_EEl (fun _ kk => e_iload_n (pc := 1) dX4_urge_1 rfl kk) ?_
      refine cr_EEl (fun _ kk => e_self1i (pc := 2) dX4_urge_2 cs_X4_urge_100 cv_X4_notWaiting rc_X4_notWaiting rfl (by decide) (Nat.le_of_ble_eq_true rfl) (ev_X4_notWaiting_0 X hhas (by omega) h0x) kk) ?_
      refine cr_EEl (fun _ kk => e_istore_n (pc := 5) dX4_urge_5 (by decide) kk) ?_
      refine cr_EEl (fun _ kk => e_iload_n (pc := 6) dX4_urge_6 rfl kk) ?_
      refine cr_EEb (fun _ k1 k2 => e_if_eq (pc := 7) (tgt := 16) dX4_urge_7 (by decide) k1 k2) (fun hc_7 => ?_) (fun hc_7 => absurd hc_7 (by decide))
      refine cr_EEl (fun _ kk => e_aload_n (pc := 16) dX4_urge_16 rfl kk) ?_
      refine cr_EEl (fun _ kk => e_getA (pc := 17) dX4_urge_17 f_4_10 rfl rfl kk) ?_
      refine cr_EEl (fun _ kk => e_getA (pc := 20) dX4_urge_20 f_4_78 rfl rfl kk) ?_
      refine cr_EEl (fun _ kk => e_getA (pc := 23) dX4_urge_23 f_4_120 rfl rfl kk) ?_
      refine cr_EEl (fun _ kk => e_iload_n (pc := 26) dX4_urge_26 rfl kk) ?_
      first | refine cr_EEl (fun _ kk => e_ialdN (pc := 27) dX4_urge_27 rfl (by omega) (by decide) kk) ?_ | refine cr_EEl (fun _ kk => e_iald (pc := 27) dX4_urge_27 rfl (by assumption) kk) ?_
      refine cr_EEl (fun _ kk => e_istore_n (pc := 28) dX4_urge_28 (by decide) kk) ?_
      refine cr_EEl (fun _ kk => e_iload_n (pc := 29) dX4_urge_29 rfl kk) ?_
      refine cr_EEl (fun _ kk => e_iconst (pc := 30) (v := 2) dX4_urge_30 (by decide) kk) ?_
      refine cr_EEb (fun _ k1 k2 => e_icmp_eq (pc := 31) (tgt := 39) dX4_urge_31 (by decide) k1 k2) (fun hc_31 => ?_) (fun hc_31 => ?_)
      · refine cr_EEl (fun _ kk => e_aload_n (pc := 39) dX4_urge_39 rfl kk) ?_
        refine cr_EEl (fun _ kk => e_bipush (pc := 40) (v := (-2)) dX4_urge_40 (by decide) kk) ?_
        refine cr_EEl (fun _ kk => e_self1i (pc := 42) dX4_urge_42 cs_X4_urge_30 cv_X4_refuse rc_X4_refuse rfl (by decide) (Nat.le_of_ble_eq_true rfl) (ev_X4_refuse _ (k := 2) (by decide) (by decide)) kk) ?_
        refine cr_EEr (r_iret (pc := 45) dX4_urge_45 rfl rfl) ?_
        exact x_leaf (by unfold m_urge; first | grind | (repeat (first | rw [if_pos (by grind)] | rw [if_neg (by grind)]))) (x_I_ref ht hJ hX (by decide))
      · refine cr_EEl (fun _ kk => e_iload_n (pc := 34) dX4_urge_34 rfl kk) ?_
        refine cr_EEl (fun _ kk => e_iconst (pc := 35) (v := 3) dX4_urge_35 (by decide) kk) ?_
        refine cr_EEn (fun _ k1 k2 => e_icmp_ne (pc := 36) (tgt := 46) dX4_urge_36 (by decide) k1 k2) (fun hc_36 => ?_) (fun hc_36 => ?_)
        · refine cr_EEl (fun _ kk => e_aload_n (pc := 46) dX4_urge_46 rfl kk) ?_
          refine cr_EEl (fun _ kk => e_getA (pc := 47) dX4_urge_47 f_4_10 rfl rfl kk) ?_
          refine cr_EEl (fun _ kk => e_getA (pc := 50) dX4_urge_50 f_4_78 rfl rfl kk) ?_
          refine cr_EEl (fun _ kk => e_getA (pc := 53) dX4_urge_53 f_4_120 rfl rfl kk) ?_
          refine cr_EEl (fun _ kk => e_iload_n (pc := 56) dX4_urge_56 rfl kk) ?_
          refine cr_EEl (fun _ kk => e_iconst (pc := 57) (v := 2) dX4_urge_57 (by decide) kk) ?_
          first | refine cr_EEl (fun _ kk => e_iastN (pc := 58) dX4_urge_58 rfl (by omega) (by decide) kk) ?_ | refine cr_EEl (fun _ kk => e_iast (pc := 58) dX4_urge_58 rfl (by assumption) kk) ?_
          refine cr_EEl (fun _ kk => e_aload_n (pc := 59) dX4_urge_59 rfl kk) ?_
          refine cr_EEl (fun _ kk => e_getA (pc := 60) dX4_urge_60 f_4_10 rfl rfl kk) ?_
          refine cr_EEl (fun _ kk => e_getA (pc := 63) dX4_urge_63 f_4_78 rfl rfl kk) ?_
          refine cr_EEl (fun _ kk => e_getA (pc := 66) dX4_urge_66 f_4_123 rfl rfl kk) ?_
          refine cr_EEl (fun _ kk => e_iload_n (pc := 69) dX4_urge_69 rfl kk) ?_
          refine cr_EEl (fun _ kk => e_bipush (pc := 70) (v := (-9)) dX4_urge_70 (by decide) kk) ?_
          first | refine cr_EEl (fun _ kk => e_iastN (pc := 72) dX4_urge_72 rfl (by omega) (by decide) kk) ?_ | refine cr_EEl (fun _ kk => e_iast (pc := 72) dX4_urge_72 rfl (by assumption) kk) ?_
          refine cr_EEl (fun _ kk => e_iconst (pc := 73) (v := 1) dX4_urge_73 (by decide) kk) ?_
          refine cr_EEr (r_iret (pc := 74) dX4_urge_74 rfl rfl) ?_
          exact x_leaf (by unfold m_urge; rw [if_pos (by grind)]) (x_I_urge ht hJ hX hc)
        · refine cr_EEl (fun _ kk => e_aload_n (pc := 39) dX4_urge_39 rfl kk) ?_
          refine cr_EEl (fun _ kk => e_bipush (pc := 40) (v := (-2)) dX4_urge_40 (by decide) kk) ?_
          refine cr_EEl (fun _ kk => e_self1i (pc := 42) dX4_urge_42 cs_X4_urge_30 cv_X4_refuse rc_X4_refuse rfl (by decide) (Nat.le_of_ble_eq_true rfl) (ev_X4_refuse _ (k := 2) (by decide) (by decide)) kk) ?_
          refine cr_EEr (r_iret (pc := 45) dX4_urge_45 rfl rfl) ?_
          exact x_leaf (by unfold m_urge; first | grind | (repeat (first | rw [if_pos (by grind)] | rw [if_neg (by grind)]))) (x_I_ref ht hJ hX (by decide))
    · have h0x : ¬ X 12 c = 0 := by rw [e16]; exact h0
      refine ⟨m_urge N c, ev_X5_urge s5 h200 hc, ?_⟩
      refine cr_EEl (fun _ kk => e_aload_n (pc := 0) dX4_urge_0 rfl kk) ?_
      refine cr_EEl (fun _ kk => e_iload_n (pc := 1) dX4_urge_1 rfl kk) ?_
      refine cr_EEl (fun _ kk => e_self1i (pc := 2) dX4_urge_2 cs_X4_urge_100 cv_X4_notWaiting rc_X4_notWaiting rfl (by decide) (Nat.le_of_ble_eq_true rfl) (ev_X4_notWaiting_2 X hhas (by omega) h0x) kk) ?_
      refine cr_EEl (fun _ kk => e_istore_n (pc := 5) dX4_urge_5 (by decide) kk) ?_
      refine cr_EEl (fun _ kk => e_iload_n (pc := 6) dX4_urge_6 rfl kk) ?_
      refine cr_EEb (fun _ k1 k2 => e_if_eq (pc := 7) (tgt := 16) dX4_urge_7 (by decide) k1 k2) (fun hc_7 => absurd hc_7 (by decide)) (fun hc_7 => ?_)
      refine cr_EEl (fun _ kk => e_aload_n (pc := 10) dX4_urge_10 rfl kk) ?_
      refine cr_EEl (fun _ kk => e_iload_n (pc := 11) dX4_urge_11 rfl kk) ?_
      refine cr_EEl (fun _ kk => e_self1i (pc := 12) dX4_urge_12 cs_X4_urge_30 cv_X4_refuse rc_X4_refuse rfl (by decide) (Nat.le_of_ble_eq_true rfl) (ev_X4_refuse _ (k := 2) (by decide) (by decide)) kk) ?_
      refine cr_EEr (r_iret (pc := 15) dX4_urge_15 rfl rfl) ?_
      exact x_leaf (by unfold m_urge; first | grind | (repeat (first | rw [if_pos (by grind)] | rw [if_neg (by grind)]))) (x_I_ref ht hJ hX (by decide))
set_option maxHeartbeats 4000000 in
theorem th_within {X N : cr_M} (n : Int32) (hI : x_I X N) : ∃ z, cr_EvM Y_X5_within [.inr (.inr 0), .inl n] N (some (.inl z.1), z.2) ∧ cr_EE Y_X4_within 0 (cr_al 0 [.inr (.inr 0), .inl n]) [] X (x_P z) := by
  obtain ⟨hn, cn, tk, ht, hJ, hX⟩ := hI
  obtain ⟨h10, h200, z3, z4, z5, z6, z7⟩ := r_X_z hX
  have s4 : N 0 4 = nI hn := hJ.1.2.2.1
  have s5 : N 0 5 = nI cn := hJ.1.2.2.2.1
  refine ⟨m_within cn N n, ev_X5_within N n s5 h200, ?_⟩
  refine cr_EEl (fun _ kk => e_iload_n (pc := 0) dX4_within_0 rfl kk) ?_
  refine cr_EEb (fun _ k1 k2 => e_if_ge (pc := 1) (tgt := 11) dX4_within_1 (by decide) k1 k2) (fun hc_1 => ?_) (fun hc_1 => ?_)
  · refine cr_EEl (fun _ kk => e_aload_n (pc := 11) dX4_within_11 rfl kk) ?_
    refine cr_EEl (fun _ kk => e_getA (pc := 12) dX4_within_12 f_4_10 rfl rfl kk) ?_
    refine cr_EEl (fun _ kk => e_getA (pc := 15) dX4_within_15 f_4_78 rfl rfl kk) ?_
    refine cr_EEl (fun _ kk => e_iload_n (pc := 18) dX4_within_18 rfl kk) ?_
    refine cr_EEl (fun _ kk => e_offR1i (pc := 19) (M' := fun _ _ => 0) dX4_within_19 cs_X4_within_142 cv_X0_givenWithin rc_X0_givenWithin fit_shR_shC_11 (by decide) (Nat.le_of_ble_eq_true rfl) (ev_X0_givenWithin n z4 h200) kk) ?_
    refine cr_EEr (r_iret (pc := 22) dX4_within_22 rfl rfl) ?_
    exact x_leaf (by unfold m_within; rw [if_neg (by grind), c_gw_n hJ (r_X_C hX) cn (Nat.le_refl _)]) ⟨hn, cn, tk, ht, hJ, hX⟩
  · refine cr_EEl (fun _ kk => e_aload_n (pc := 4) dX4_within_4 rfl kk) ?_
    refine cr_EEl (fun _ kk => e_bipush (pc := 5) (v := (-4)) dX4_within_5 (by decide) kk) ?_
    refine cr_EEl (fun _ kk => e_self1i (pc := 7) dX4_within_7 cs_X4_within_30 cv_X4_refuse rc_X4_refuse rfl (by decide) (Nat.le_of_ble_eq_true rfl) (ev_X4_refuse _ (k := 4) (by decide) (by decide)) kk) ?_
    refine cr_EEr (r_iret (pc := 10) dX4_within_10 rfl rfl) ?_
    exact x_leaf (by unfold m_within; first | grind | (repeat (first | rw [if_pos (by grind)] | rw [if_neg (by grind)]))) (x_I_ref ht hJ hX (by decide))
set_option maxHeartbeats 4000000 in
theorem th_want {X N : cr_M} (q n : Int32) (hI : x_I X N) : ∃ z, cr_EvM Y_X5_want [.inr (.inr 0), .inl q, .inl n] N (some (.inl z.1), z.2) ∧ cr_EE Y_X4_want 0 (cr_al 0 [.inr (.inr 0), .inl q, .inl n]) [] X (x_P z) := by
  obtain ⟨hn, cn, tk, ht, hJ, hX⟩ := hI
  obtain ⟨h10, h200, z3, z4, z5, z6, z7⟩ := r_X_z hX
  have s4 : N 0 4 = nI hn := hJ.1.2.2.1
  have s5 : N 0 5 = nI cn := hJ.1.2.2.2.1
  rcases cr_ix q (n := 16) (by decide) with hqr | ⟨q, hq, rfl⟩
  · have hqr : ¬ (0 ≤ q ∧ q < 16) := hqr
    refine ⟨(-1, n_ref N 1), ev_X5_want_n N q n hqr, ?_⟩
    refine cr_EEl (fun _ kk => e_iload_n (pc := 0) dX4_want_0 rfl kk) ?_
    refine cr_EEl (fun _ kk => e_stat1i (pc := 1) dX4_want_1 cs_X4_want_152 st_X4_isQuarter rfl (by decide) (Nat.le_of_ble_eq_true rfl) (ev_X4_isQuarterF hqr) kk) ?_
    refine cr_EEn (fun _ k1 k2 => e_if_ne (pc := 4) (tgt := 13) dX4_want_4 (by decide) k1 k2) (fun hc_4 => absurd hc_4 (by decide)) (fun hc_4 => ?_)
    refine cr_EEl (fun _ kk => e_aload_n (pc := 7) dX4_want_7 rfl kk) ?_
    refine cr_EEl (fun _ kk => e_iconst (pc := 8) (v := (-1)) dX4_want_8 (by decide) kk) ?_
    refine cr_EEl (fun _ kk => e_self1i (pc := 9) dX4_want_9 cs_X4_want_30 cv_X4_refuse rc_X4_refuse rfl (by decide) (Nat.le_of_ble_eq_true rfl) (ev_X4_refuse _ (k := 1) (by decide) (by decide)) kk) ?_
    refine cr_EEr (r_iret (pc := 12) dX4_want_12 rfl rfl) ?_
    exact x_leaf rfl (x_I_ref ht hJ hX (by decide))
  · have hqr : 0 ≤ nI q ∧ nI q < 16 := cr_ix_in (n := 16) hq (by decide)
    refine ⟨m_want N q n, ev_X5_want N n hq, ?_⟩
    refine cr_EEl (fun _ kk => e_iload_n (pc := 0) dX4_want_0 rfl kk) ?_
    refine cr_EEl (fun _ kk => e_stat1i (pc := 1) dX4_want_1 cs_X4_want_152 st_X4_isQuarter rfl (by decide) (Nat.le_of_ble_eq_true rfl) (ev_X4_isQuarterT hqr) kk) ?_
    refine cr_EEn (fun _ k1 k2 => e_if_ne (pc := 4) (tgt := 13) dX4_want_4 (by decide) k1 k2) (fun hc_4 => ?_) (fun hc_4 => absurd hc_4 (by decide))
    refine cr_EEl (fun _ kk => e_iload_n (pc := 13) dX4_want_13 rfl kk) ?_
    refine cr_EEl (fun _ kk => e_iconst (pc := 14) (v := 0) dX4_want_14 (by decide) kk) ?_
    refine cr_EEl (fun _ kk => e_bipush (pc := 15) (v := 50) dX4_want_15 (by decide) kk) ?_
    refine cr_EEl (fun _ kk => e_stat3i (pc := 17) dX4_want_17 cs_X4_want_58 st_X4_outside rfl (by decide) (Nat.le_of_ble_eq_true rfl) (ev_X4_outside _ _ _ _) kk) ?_
    rcases x_out_c n 0 50 with ⟨ho1, he⟩ | ⟨ho1, ho2, he⟩ | ⟨ho1, ho2, he⟩
    · rw [he]
      refine cr_EEl (fun _ kk => e_istore_n (pc := 20) dX4_want_20 (by decide) kk) ?_
      refine cr_EEl (fun _ kk => e_iload_n (pc := 21) dX4_want_21 rfl kk) ?_
      refine cr_EEb (fun _ k1 k2 => e_if_eq (pc := 22) (tgt := 31) dX4_want_22 (by decide) k1 k2) (fun hc_22 => absurd hc_22 (by decide)) (fun hc_22 => ?_)
      refine cr_EEl (fun _ kk => e_aload_n (pc := 25) dX4_want_25 rfl kk) ?_
      refine cr_EEl (fun _ kk => e_iload_n (pc := 26) dX4_want_26 rfl kk) ?_
      refine cr_EEl (fun _ kk => e_self1i (pc := 27) dX4_want_27 cs_X4_want_30 cv_X4_refuse rc_X4_refuse rfl (by decide) (Nat.le_of_ble_eq_true rfl) (ev_X4_refuse _ (k := 4) (by decide) (by decide)) kk) ?_
      refine cr_EEr (r_iret (pc := 30) dX4_want_30 rfl rfl) ?_
      exact x_leaf (by unfold m_want; first | grind | (repeat (first | rw [if_pos (by grind)] | rw [if_neg (by grind)]))) (x_I_ref ht hJ hX (by decide))
    · rw [he]
      refine cr_EEl (fun _ kk => e_istore_n (pc := 20) dX4_want_20 (by decide) kk) ?_
      refine cr_EEl (fun _ kk => e_iload_n (pc := 21) dX4_want_21 rfl kk) ?_
      refine cr_EEb (fun _ k1 k2 => e_if_eq (pc := 22) (tgt := 31) dX4_want_22 (by decide) k1 k2) (fun hc_22 => absurd hc_22 (by decide)) (fun hc_22 => ?_)
      refine cr_EEl (fun _ kk => e_aload_n (pc := 25) dX4_want_25 rfl kk) ?_
      refine cr_EEl (fun _ kk => e_iload_n (pc := 26) dX4_want_26 rfl kk) ?_
      refine cr_EEl (fun _ kk => e_self1i (pc := 27) dX4_want_27 cs_X4_want_30 cv_X4_refuse rc_X4_refuse rfl (by decide) (Nat.le_of_ble_eq_true rfl) (ev_X4_refuse _ (k := 6) (by decide) (by decide)) kk) ?_
      refine cr_EEr (r_iret (pc := 30) dX4_want_30 rfl rfl) ?_
      exact x_leaf (by unfold m_want; first | grind | (repeat (first | rw [if_pos (by grind)] | rw [if_neg (by grind)]))) (x_I_ref ht hJ hX (by decide))
    · rw [he]
      refine cr_EEl (fun _ kk => e_istore_n (pc := 20) dX4_want_20 (by decide) kk) ?_
      refine cr_EEl (fun _ kk => e_iload_n (pc := 21) dX4_want_21 rfl kk) ?_
      refine cr_EEb (fun _ k1 k2 => e_if_eq (pc := 22) (tgt := 31) dX4_want_22 (by decide) k1 k2) (fun hc_22 => ?_) (fun hc_22 => absurd hc_22 (by decide))
      refine cr_EEl (fun _ kk => e_aload_n (pc := 31) dX4_want_31 rfl kk) ?_
      refine cr_EEl (fun _ kk => e_getA (pc := 32) dX4_want_32 f_4_22 rfl rfl kk) ?_
      refine cr_EEl (fun _ kk => e_getA (pc := 35) dX4_want_35 f_4_155 rfl rfl kk) ?_
      refine cr_EEl (fun _ kk => e_iload_n (pc := 38) dX4_want_38 rfl kk) ?_
      refine cr_EEl (fun _ kk => e_ialdV (pc := 39) (N 2 q) dX4_want_39 rfl (by omega) (by decide) ((hX.2.2.2.1 q hq).1) kk) ?_
      refine cr_EEl (fun _ kk => e_istore (pc := 40) dX4_want_40 (by decide) kk) ?_
      refine cr_EEl (fun _ kk => e_aload_n (pc := 42) dX4_want_42 rfl kk) ?_
      refine cr_EEl (fun _ kk => e_getA (pc := 43) dX4_want_43 f_4_22 rfl rfl kk) ?_
      refine cr_EEl (fun _ kk => e_getA (pc := 46) dX4_want_46 f_4_155 rfl rfl kk) ?_
      refine cr_EEl (fun _ kk => e_iload_n (pc := 49) dX4_want_49 rfl kk) ?_
      refine cr_EEl (fun _ kk => e_iload_n (pc := 50) dX4_want_50 rfl kk) ?_
      first | refine cr_EEl (fun _ kk => e_iastN (pc := 51) dX4_want_51 rfl (by omega) (by decide) kk) ?_ | refine cr_EEl (fun _ kk => e_iast (pc := 51) dX4_want_51 rfl (by assumption) kk) ?_
      refine cr_EEl (fun _ kk => e_iload (pc := 52) dX4_want_52 rfl kk) ?_
      refine cr_EEr (r_iret (pc := 54) dX4_want_54 rfl rfl) ?_
      exact x_leaf (by unfold m_want; rw [if_neg (by grind), if_neg (by grind)]) (x_I_want ht hJ hX)
set_option maxHeartbeats 4000000 in
theorem th_cover {X N : cr_M} (x : Int32) (hI : x_I X N) : ∃ z, cr_EvM Y_X5_cover [.inr (.inr 0), .inl x] N (some (.inl z.1), z.2) ∧ cr_EE Y_X4_cover 0 (cr_al 0 [.inr (.inr 0), .inl x]) [] X (x_P z) := by
  obtain ⟨hn, cn, tk, ht, hJ, hX⟩ := hI
  obtain ⟨h10, h200, z3, z4, z5, z6, z7⟩ := r_X_z hX
  have s4 : N 0 4 = nI hn := hJ.1.2.2.1
  have s5 : N 0 5 = nI cn := hJ.1.2.2.2.1
  refine ⟨m_cover N x, ev_X5_cover N x, ?_⟩
  refine cr_EEl (fun _ kk => e_iload_n (pc := 0) dX4_cover_0 rfl kk) ?_
  refine cr_EEl (fun _ kk => e_iconst (pc := 1) (v := 1) dX4_cover_1 (by decide) kk) ?_
  refine cr_EEl (fun _ kk => e_bipush (pc := 2) (v := 16) dX4_cover_2 (by decide) kk) ?_
  refine cr_EEl (fun _ kk => e_stat3i (pc := 4) dX4_cover_4 cs_X4_cover_58 st_X4_outside rfl (by decide) (Nat.le_of_ble_eq_true rfl) (ev_X4_outside _ _ _ _) kk) ?_
  rcases x_out_c x 1 16 with ⟨ho1, he⟩ | ⟨ho1, ho2, he⟩ | ⟨ho1, ho2, he⟩
  · rw [he]
    refine cr_EEl (fun _ kk => e_istore_n (pc := 7) dX4_cover_7 (by decide) kk) ?_
    refine cr_EEl (fun _ kk => e_iload_n (pc := 8) dX4_cover_8 rfl kk) ?_
    refine cr_EEb (fun _ k1 k2 => e_if_eq (pc := 9) (tgt := 18) dX4_cover_9 (by decide) k1 k2) (fun hc_9 => absurd hc_9 (by decide)) (fun hc_9 => ?_)
    refine cr_EEl (fun _ kk => e_aload_n (pc := 12) dX4_cover_12 rfl kk) ?_
    refine cr_EEl (fun _ kk => e_iload_n (pc := 13) dX4_cover_13 rfl kk) ?_
    refine cr_EEl (fun _ kk => e_self1i (pc := 14) dX4_cover_14 cs_X4_cover_30 cv_X4_refuse rc_X4_refuse rfl (by decide) (Nat.le_of_ble_eq_true rfl) (ev_X4_refuse _ (k := 4) (by decide) (by decide)) kk) ?_
    refine cr_EEr (r_iret (pc := 17) dX4_cover_17 rfl rfl) ?_
    exact x_leaf (by unfold m_cover; first | grind | (repeat (first | rw [if_pos (by grind)] | rw [if_neg (by grind)]))) (x_I_ref ht hJ hX (by decide))
  · rw [he]
    refine cr_EEl (fun _ kk => e_istore_n (pc := 7) dX4_cover_7 (by decide) kk) ?_
    refine cr_EEl (fun _ kk => e_iload_n (pc := 8) dX4_cover_8 rfl kk) ?_
    refine cr_EEb (fun _ k1 k2 => e_if_eq (pc := 9) (tgt := 18) dX4_cover_9 (by decide) k1 k2) (fun hc_9 => absurd hc_9 (by decide)) (fun hc_9 => ?_)
    refine cr_EEl (fun _ kk => e_aload_n (pc := 12) dX4_cover_12 rfl kk) ?_
    refine cr_EEl (fun _ kk => e_iload_n (pc := 13) dX4_cover_13 rfl kk) ?_
    refine cr_EEl (fun _ kk => e_self1i (pc := 14) dX4_cover_14 cs_X4_cover_30 cv_X4_refuse rc_X4_refuse rfl (by decide) (Nat.le_of_ble_eq_true rfl) (ev_X4_refuse _ (k := 6) (by decide) (by decide)) kk) ?_
    refine cr_EEr (r_iret (pc := 17) dX4_cover_17 rfl rfl) ?_
    exact x_leaf (by unfold m_cover; first | grind | (repeat (first | rw [if_pos (by grind)] | rw [if_neg (by grind)]))) (x_I_ref ht hJ hX (by decide))
  · rw [he]
    refine cr_EEl (fun _ kk => e_istore_n (pc := 7) dX4_cover_7 (by decide) kk) ?_
    refine cr_EEl (fun _ kk => e_iload_n (pc := 8) dX4_cover_8 rfl kk) ?_
    refine cr_EEb (fun _ k1 k2 => e_if_eq (pc := 9) (tgt := 18) dX4_cover_9 (by decide) k1 k2) (fun hc_9 => ?_) (fun hc_9 => absurd hc_9 (by decide))
    obtain ⟨L, hL, rfl⟩ := nI_of2 (x := x) (M := 16) (n := 16) (by decide) (by grind) (by grind)
    have hL1 : 1 ≤ L := by
      have : ¬ nI L < nI 1 := ho1
      rw [nI_ltI (by omega) (by omega)] at this; omega
    refine cr_EEl (fun _ kk => e_aload_n (pc := 18) dX4_cover_18 rfl kk) ?_
    refine cr_EEl (fun _ kk => e_getA (pc := 19) dX4_cover_19 f_4_22 rfl rfl kk) ?_
    refine cr_EEl (fun _ kk => e_iload_n (pc := 22) dX4_cover_22 rfl kk) ?_
    refine cr_EEl (fun _ kk => e_offn1i (pc := 23) 3 dX4_cover_23 cs_X4_cover_158 cv_X3_plan rc_X3_plan fit_shR_shS_51 (by decide) rfl (Nat.le_of_ble_eq_true rfl) (ev_X3_plan (S := fun j => X (51 + j)) (N := N) hL1 (by omega) (fun i hi => (hX.2.2.2.1 i hi).1)) kk) ?_
    refine cr_EEr (r_iret (pc := 26) dX4_cover_26 rfl rfl) ?_
    exact x_leaf (by unfold m_cover; rw [if_neg (by grind), if_neg (by grind), nI_clamp (by omega)]) (x_I_cover ht hJ hX)
set_option maxHeartbeats 4000000 in
theorem th_begins {X N : cr_M} (q : Int32) (hI : x_I X N) : ∃ z, cr_EvM Y_X5_begins [.inr (.inr 0), .inl q] N (some (.inl z.1), z.2) ∧ cr_EE Y_X4_begins 0 (cr_al 0 [.inr (.inr 0), .inl q]) [] X (x_P z) := by
  obtain ⟨hn, cn, tk, ht, hJ, hX⟩ := hI
  obtain ⟨h10, h200, z3, z4, z5, z6, z7⟩ := r_X_z hX
  have s4 : N 0 4 = nI hn := hJ.1.2.2.1
  have s5 : N 0 5 = nI cn := hJ.1.2.2.2.1
  rcases cr_ix q (n := 16) (by decide) with hqr | ⟨q, hq, rfl⟩
  · have hqr : ¬ (0 ≤ q ∧ q < 16) := hqr
    refine ⟨(-1, n_ref N 1), ev_X5_begins_n N q hqr, ?_⟩
    refine cr_EEl (fun _ kk => e_iload_n (pc := 0) dX4_begins_0 rfl kk) ?_
    refine cr_EEl (fun _ kk => e_stat1i (pc := 1) dX4_begins_1 cs_X4_begins_152 st_X4_isQuarter rfl (by decide) (Nat.le_of_ble_eq_true rfl) (ev_X4_isQuarterF hqr) kk) ?_
    refine cr_EEb (fun _ k1 k2 => e_if_eq (pc := 4) (tgt := 19) dX4_begins_4 (by decide) k1 k2) (fun hc_4 => ?_) (fun hc_4 => absurd hc_4 (by decide))
    refine cr_EEl (fun _ kk => e_aload_n (pc := 19) dX4_begins_19 rfl kk) ?_
    refine cr_EEl (fun _ kk => e_iconst (pc := 20) (v := (-1)) dX4_begins_20 (by decide) kk) ?_
    refine cr_EEl (fun _ kk => e_self1i (pc := 21) dX4_begins_21 cs_X4_begins_30 cv_X4_refuse rc_X4_refuse rfl (by decide) (Nat.le_of_ble_eq_true rfl) (ev_X4_refuse _ (k := 1) (by decide) (by decide)) kk) ?_
    refine cr_EEr (r_iret (pc := 24) dX4_begins_24 rfl rfl) ?_
    exact x_leaf rfl (x_I_ref ht hJ hX (by decide))
  · have hqr : 0 ≤ nI q ∧ nI q < 16 := cr_ix_in (n := 16) hq (by decide)
    refine ⟨(N 3 q, N), ev_X5_begins N hq, ?_⟩
    refine cr_EEl (fun _ kk => e_iload_n (pc := 0) dX4_begins_0 rfl kk) ?_
    refine cr_EEl (fun _ kk => e_stat1i (pc := 1) dX4_begins_1 cs_X4_begins_152 st_X4_isQuarter rfl (by decide) (Nat.le_of_ble_eq_true rfl) (ev_X4_isQuarterT hqr) kk) ?_
    refine cr_EEb (fun _ k1 k2 => e_if_eq (pc := 4) (tgt := 19) dX4_begins_4 (by decide) k1 k2) (fun hc_4 => absurd hc_4 (by decide)) (fun hc_4 => ?_)
    refine cr_EEl (fun _ kk => e_aload_n (pc := 7) dX4_begins_7 rfl kk) ?_
    refine cr_EEl (fun _ kk => e_getA (pc := 8) dX4_begins_8 f_4_22 rfl rfl kk) ?_
    refine cr_EEl (fun _ kk => e_getA (pc := 11) dX4_begins_11 f_4_161 rfl rfl kk) ?_
    refine cr_EEl (fun _ kk => e_iload_n (pc := 14) dX4_begins_14 rfl kk) ?_
    refine cr_EEl (fun _ kk => e_ialdV (pc := 15) (N 3 q) dX4_begins_15 rfl (by omega) (by decide) ((hX.2.2.2.1 q hq).2) kk) ?_
    refine cr_EEl (fun _ kk => e_goto (pc := 16) (tgt := 24) dX4_begins_16 (by decide) kk) ?_
    refine cr_EEr (r_iret (pc := 24) dX4_begins_24 rfl rfl) ?_
    exact x_leaf rfl ⟨hn, cn, tk, ht, hJ, hX⟩
set_option maxHeartbeats 4000000 in
theorem th_ticks {X N : cr_M} (x : Int32) (hI : x_I X N) : ∃ z, cr_EvM Y_X5_ticks [.inr (.inr 0), .inl x] N (some (.inl z.1), z.2) ∧ cr_EE Y_X4_ticks 0 (cr_al 0 [.inr (.inr 0), .inl x]) [] X (x_P z) := by
  obtain ⟨hn, cn, tk, ht, hJ, hX⟩ := hI
  obtain ⟨h10, h200, z3, z4, z5, z6, z7⟩ := r_X_z hX
  have s4 : N 0 4 = nI hn := hJ.1.2.2.1
  have s5 : N 0 5 = nI cn := hJ.1.2.2.2.1
  refine ⟨m_ticks hn cn N x, ev_X5_ticks x hJ ht, ?_⟩
  refine cr_EEl (fun _ kk => e_iload_n (pc := 0) dX4_ticks_0 rfl kk) ?_
  refine cr_EEl (fun _ kk => e_iconst (pc := 1) (v := 1) dX4_ticks_1 (by decide) kk) ?_
  refine cr_EEl (fun _ kk => e_sipush (pc := 2) (v := 20000) dX4_ticks_2 (by decide) kk) ?_
  refine cr_EEl (fun _ kk => e_aload_n (pc := 5) dX4_ticks_5 rfl kk) ?_
  refine cr_EEl (fun _ kk => e_getA (pc := 6) dX4_ticks_6 f_4_10 rfl rfl kk) ?_
  refine cr_EEl (fun _ kk => e_getIv (pc := 9) (N 0 3) dX4_ticks_9 f_4_44 rfl rfl z5 kk) ?_
  refine cr_EEl (fun _ kk => e_isub (pc := 12) dX4_ticks_12 kk) ?_
  refine cr_EEl (fun _ kk => e_stat3i (pc := 13) dX4_ticks_13 cs_X4_ticks_58 st_X4_outside rfl (by decide) (Nat.le_of_ble_eq_true rfl) (ev_X4_outside _ _ _ _) kk) ?_
  rcases x_out_c x 1 (20000 - N 0 3) with ⟨ho1, he⟩ | ⟨ho1, ho2, he⟩ | ⟨ho1, ho2, he⟩
  · rw [he]
    refine cr_EEl (fun _ kk => e_istore_n (pc := 16) dX4_ticks_16 (by decide) kk) ?_
    refine cr_EEl (fun _ kk => e_iload_n (pc := 17) dX4_ticks_17 rfl kk) ?_
    refine cr_EEb (fun _ k1 k2 => e_if_eq (pc := 18) (tgt := 27) dX4_ticks_18 (by decide) k1 k2) (fun hc_18 => absurd hc_18 (by decide)) (fun hc_18 => ?_)
    refine cr_EEl (fun _ kk => e_aload_n (pc := 21) dX4_ticks_21 rfl kk) ?_
    refine cr_EEl (fun _ kk => e_iload_n (pc := 22) dX4_ticks_22 rfl kk) ?_
    refine cr_EEl (fun _ kk => e_self1i (pc := 23) dX4_ticks_23 cs_X4_ticks_30 cv_X4_refuse rc_X4_refuse rfl (by decide) (Nat.le_of_ble_eq_true rfl) (ev_X4_refuse _ (k := 4) (by decide) (by decide)) kk) ?_
    refine cr_EEr (r_iret (pc := 26) dX4_ticks_26 rfl rfl) ?_
    exact x_leaf (by unfold m_ticks; first | grind | (repeat (first | rw [if_pos (by grind)] | rw [if_neg (by grind)]))) (x_I_ref ht hJ hX (by decide))
  · rw [he]
    refine cr_EEl (fun _ kk => e_istore_n (pc := 16) dX4_ticks_16 (by decide) kk) ?_
    refine cr_EEl (fun _ kk => e_iload_n (pc := 17) dX4_ticks_17 rfl kk) ?_
    refine cr_EEb (fun _ k1 k2 => e_if_eq (pc := 18) (tgt := 27) dX4_ticks_18 (by decide) k1 k2) (fun hc_18 => absurd hc_18 (by decide)) (fun hc_18 => ?_)
    refine cr_EEl (fun _ kk => e_aload_n (pc := 21) dX4_ticks_21 rfl kk) ?_
    refine cr_EEl (fun _ kk => e_iload_n (pc := 22) dX4_ticks_22 rfl kk) ?_
    refine cr_EEl (fun _ kk => e_self1i (pc := 23) dX4_ticks_23 cs_X4_ticks_30 cv_X4_refuse rc_X4_refuse rfl (by decide) (Nat.le_of_ble_eq_true rfl) (ev_X4_refuse _ (k := 6) (by decide) (by decide)) kk) ?_
    refine cr_EEr (r_iret (pc := 26) dX4_ticks_26 rfl rfl) ?_
    exact x_leaf (by unfold m_ticks; first | grind | (repeat (first | rw [if_pos (by grind)] | rw [if_neg (by grind)]))) (x_I_ref ht hJ hX (by decide))
  · rw [he]
    refine cr_EEl (fun _ kk => e_istore_n (pc := 16) dX4_ticks_16 (by decide) kk) ?_
    refine cr_EEl (fun _ kk => e_iload_n (pc := 17) dX4_ticks_17 rfl kk) ?_
    refine cr_EEb (fun _ k1 k2 => e_if_eq (pc := 18) (tgt := 27) dX4_ticks_18 (by decide) k1 k2) (fun hc_18 => ?_) (fun hc_18 => absurd hc_18 (by decide))
    obtain ⟨m, hm, rfl⟩ := nI_of2 (x := x) (M := 20000 - nI tk) (n := 20000 - tk) (by rw [show (20000 : Int32) = nI 20000 from rfl, pk_sub (by omega)]; exact nI_toInt (by omega)) (by grind) (by rw [← hJ.2.1]; grind)
    obtain ⟨F', hE, hR⟩ := ev_X1_goOn (m := m) hJ (by omega) hX.1
    refine cr_EEl (fun _ kk => e_aload_n (pc := 27) dX4_ticks_27 rfl kk) ?_
    refine cr_EEl (fun _ kk => e_getA (pc := 28) dX4_ticks_28 f_4_10 rfl rfl kk) ?_
    refine cr_EEl (fun _ kk => e_iload_n (pc := 31) dX4_ticks_31 rfl kk) ?_
    refine cr_EEl (fun _ kk => e_offn1i (pc := 32) 25 dX4_ticks_32 cs_X4_ticks_126 cv_X1_goOn rc_X1_goOn fit_shR_shF_1 (by decide) rfl (Nat.le_of_ble_eq_true rfl) hE kk) ?_
    refine cr_EEr (r_iret (pc := 35) dX4_ticks_35 rfl rfl) ?_
    exact x_leaf (by unfold m_ticks; rw [if_neg (by grind), if_neg (by grind), nI_clamp (by omega)]) (x_I_ticks hJ hX (by omega) hR)
