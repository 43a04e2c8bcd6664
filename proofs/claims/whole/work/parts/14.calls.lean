set_option maxHeartbeats 1000000 in
theorem ev_X0_has (M : cr_M) (h : Int32) : cr_EvM Y_X0_has [.inr (.inr 0), .inl h] M (some (.inl (bI (0 ≤ h ∧ h < M 0 0))), M) := by
  refine e_iload_n (pc := 0) dX0_has_0 rfl ?_
  refine e_if_lt (pc := 1) (tgt := 16) dX0_has_1 (by decide) (fun hc_1 => ?_) (fun hc_1 => ?_)
  · refine e_iconst (pc := 16) (v := 0) dX0_has_16 (by decide) ?_
    refine r_zret (pc := 17) dX0_has_17 rfl (by first | exact Or.inl rfl | exact Or.inr rfl | exact bI_01 _ | assumption) ?_
    first | exact rt_t (by grind) | exact rt_f (by grind)
  · refine e_iload_n (pc := 4) dX0_has_4 rfl ?_
    refine e_aload_n (pc := 5) dX0_has_5 rfl ?_
    refine e_getI (pc := 6) dX0_has_6 f_0_48 rfl rfl ?_
    refine e_icmp_ge (pc := 9) (tgt := 16) dX0_has_9 (by decide) (fun hc_9 => ?_) (fun hc_9 => ?_)
    · refine e_iconst (pc := 16) (v := 0) dX0_has_16 (by decide) ?_
      refine r_zret (pc := 17) dX0_has_17 rfl (by first | exact Or.inl rfl | exact Or.inr rfl | exact bI_01 _ | assumption) ?_
      first | exact rt_t (by grind) | exact rt_f (by grind)
    · refine e_iconst (pc := 12) (v := 1) dX0_has_12 (by decide) ?_
      refine e_goto (pc := 13) (tgt := 17) dX0_has_13 (by decide) ?_
      refine r_zret (pc := 17) dX0_has_17 rfl (by first | exact Or.inl rfl | exact Or.inr rfl | exact bI_01 _ | assumption) ?_
      first | exact rt_t (by grind) | exact rt_f (by grind)
set_option maxHeartbeats 1000000 in
theorem ev_X0_add (M : cr_M) {cn : Nat} (g t : Int32) (hsz : M 0 0 = nI cn) (h10 : cn < 200) : cr_EvM Y_X0_add [.inr (.inr 0), .inl g, .inl t] M (some (.inl (nI cn)), c_add M cn g t) := by
  refine e_aload_n (pc := 0) dX0_add_0 rfl ?_
  refine e_getIv (pc := 1) (nI cn) dX0_add_1 f_0_48 rfl rfl hsz ?_
  refine e_sipush (pc := 4) (v := 200) dX0_add_4 (by decide) ?_
  refine e_icmp_lt (pc := 7) (tgt := 13) dX0_add_7 (by decide) (fun hc_7 => ?_) (fun hc_7 => ?_)
  · refine e_aload_n (pc := 13) dX0_add_13 rfl ?_
    refine e_getA (pc := 14) dX0_add_14 f_0_15 rfl rfl ?_
    refine e_aload_n (pc := 17) dX0_add_17 rfl ?_
    refine e_getIv (pc := 18) (nI cn) dX0_add_18 f_0_48 rfl rfl hsz ?_
    refine e_iload_n (pc := 21) dX0_add_21 rfl ?_
    first | refine e_iastN (pc := 22) dX0_add_22 rfl (by omega) (by decide) ?_ | refine e_iast (pc := 22) dX0_add_22 rfl (by assumption) ?_
    refine e_aload_n (pc := 23) dX0_add_23 rfl ?_
    refine e_getA (pc := 24) dX0_add_24 f_0_18 rfl rfl ?_
    refine e_aload_n (pc := 27) dX0_add_27 rfl ?_
    refine e_getIv (pc := 28) (nI cn) dX0_add_28 f_0_48 rfl rfl hsz ?_
    refine e_iload_n (pc := 31) dX0_add_31 rfl ?_
    first | refine e_iastN (pc := 32) dX0_add_32 rfl (by omega) (by decide) ?_ | refine e_iast (pc := 32) dX0_add_32 rfl (by assumption) ?_
    refine e_aload_n (pc := 33) dX0_add_33 rfl ?_
    refine e_getA (pc := 34) dX0_add_34 f_0_42 rfl rfl ?_
    refine e_aload_n (pc := 37) dX0_add_37 rfl ?_
    refine e_getIv (pc := 38) (nI cn) dX0_add_38 f_0_48 rfl rfl hsz ?_
    refine e_bipush (pc := 41) (v := (-9)) dX0_add_41 (by decide) ?_
    first | refine e_iastN (pc := 43) dX0_add_43 rfl (by omega) (by decide) ?_ | refine e_iast (pc := 43) dX0_add_43 rfl (by assumption) ?_
    refine e_aload_n (pc := 44) dX0_add_44 rfl ?_
    refine e_getA (pc := 45) dX0_add_45 f_0_45 rfl rfl ?_
    refine e_aload_n (pc := 48) dX0_add_48 rfl ?_
    refine e_getIv (pc := 49) (nI cn) dX0_add_49 f_0_48 rfl rfl hsz ?_
    refine e_bipush (pc := 52) (v := (-9)) dX0_add_52 (by decide) ?_
    first | refine e_iastN (pc := 54) dX0_add_54 rfl (by omega) (by decide) ?_ | refine e_iast (pc := 54) dX0_add_54 rfl (by assumption) ?_
    refine e_aload_n (pc := 55) dX0_add_55 rfl ?_
    refine e_dup_a (pc := 56) dX0_add_56 ?_
    refine e_getIv (pc := 57) (nI cn) dX0_add_57 f_0_48 rfl rfl hsz ?_
    refine e_dup_x1 (pc := 60) dX0_add_60 ?_
    refine e_iconst (pc := 61) (v := 1) dX0_add_61 (by decide) ?_
    refine e_iadd (pc := 62) dX0_add_62 ?_
    refine e_put (pc := 63) dX0_add_63 f_0_48 p_0_0 rfl rfl ?_
    refine r_iret (pc := 66) dX0_add_66 rfl ?_
    rfl
  · refine e_bipush (pc := 10) (v := (-9)) dX0_add_10 (by decide) ?_
    refine r_iret (pc := 12) dX0_add_12 rfl ?_
    exact absurd (nI_lt h10 (by decide)) (by assumption)
set_option maxHeartbeats 1000000 in
theorem ev_X0_describe (M : cr_M) {k : Nat} (s l p : Int32) (hk : k < 200) : cr_EvM Y_X0_describe [.inr (.inr 0), .inl (nI k), .inl s, .inl l, .inl p] M (none, c_desc M k s l p) := by
  refine e_aload_n (pc := 0) dX0_describe_0 rfl ?_
  refine e_getA (pc := 1) dX0_describe_1 f_0_21 rfl rfl ?_
  refine e_iload_n (pc := 4) dX0_describe_4 rfl ?_
  refine e_iload_n (pc := 5) dX0_describe_5 rfl ?_
  first | refine e_iastN (pc := 6) dX0_describe_6 rfl (by omega) (by decide) ?_ | refine e_iast (pc := 6) dX0_describe_6 rfl (by assumption) ?_
  refine e_aload_n (pc := 7) dX0_describe_7 rfl ?_
  refine e_getA (pc := 8) dX0_describe_8 f_0_24 rfl rfl ?_
  refine e_iload_n (pc := 11) dX0_describe_11 rfl ?_
  refine e_iload_n (pc := 12) dX0_describe_12 rfl ?_
  first | refine e_iastN (pc := 13) dX0_describe_13 rfl (by omega) (by decide) ?_ | refine e_iast (pc := 13) dX0_describe_13 rfl (by assumption) ?_
  refine e_aload_n (pc := 14) dX0_describe_14 rfl ?_
  refine e_getA (pc := 15) dX0_describe_15 f_0_27 rfl rfl ?_
  refine e_iload_n (pc := 18) dX0_describe_18 rfl ?_
  refine e_iload (pc := 19) dX0_describe_19 rfl ?_
  first | refine e_iastN (pc := 21) dX0_describe_21 rfl (by omega) (by decide) ?_ | refine e_iast (pc := 21) dX0_describe_21 rfl (by assumption) ?_
  refine r_vret (pc := 22) dX0_describe_22 rfl ?_
  rfl
set_option maxHeartbeats 1000000 in
theorem ev_X0_waitAgain (M : cr_M) {k : Nat} (t : Int32) (hk : k < 200) : cr_EvM Y_X0_waitAgain [.inr (.inr 0), .inl (nI k), .inl t] M (none, c_wait M k t) := by
  refine e_aload_n (pc := 0) dX0_waitAgain_0 rfl ?_
  refine e_getA (pc := 1) dX0_waitAgain_1 f_0_9 rfl rfl ?_
  refine e_iload_n (pc := 4) dX0_waitAgain_4 rfl ?_
  refine e_iconst (pc := 5) (v := 0) dX0_waitAgain_5 (by decide) ?_
  first | refine e_iastN (pc := 6) dX0_waitAgain_6 rfl (by omega) (by decide) ?_ | refine e_iast (pc := 6) dX0_waitAgain_6 rfl (by assumption) ?_
  refine e_aload_n (pc := 7) dX0_waitAgain_7 rfl ?_
  refine e_getA (pc := 8) dX0_waitAgain_8 f_0_33 rfl rfl ?_
  refine e_iload_n (pc := 11) dX0_waitAgain_11 rfl ?_
  refine e_iload_n (pc := 12) dX0_waitAgain_12 rfl ?_
  first | refine e_iastN (pc := 13) dX0_waitAgain_13 rfl (by omega) (by decide) ?_ | refine e_iast (pc := 13) dX0_waitAgain_13 rfl (by assumption) ?_
  refine e_aload_n (pc := 14) dX0_waitAgain_14 rfl ?_
  refine e_getA (pc := 15) dX0_waitAgain_15 f_0_36 rfl rfl ?_
  refine e_iload_n (pc := 18) dX0_waitAgain_18 rfl ?_
  refine e_bipush (pc := 19) (v := (-9)) dX0_waitAgain_19 (by decide) ?_
  first | refine e_iastN (pc := 21) dX0_waitAgain_21 rfl (by omega) (by decide) ?_ | refine e_iast (pc := 21) dX0_waitAgain_21 rfl (by assumption) ?_
  refine r_vret (pc := 22) dX0_waitAgain_22 rfl ?_
  rfl
set_option maxHeartbeats 1000000 in
theorem ev_X0_arrive (M : cr_M) {k : Nat} (t : Int32) (hk : k < 200) : cr_EvM Y_X0_arrive [.inr (.inr 0), .inl (nI k), .inl t] M (none, c_wait (cr_up M 7 k t) k t) := by
  refine e_aload_n (pc := 0) dX0_arrive_0 rfl ?_
  refine e_getA (pc := 1) dX0_arrive_1 f_0_30 rfl rfl ?_
  refine e_iload_n (pc := 4) dX0_arrive_4 rfl ?_
  refine e_iload_n (pc := 5) dX0_arrive_5 rfl ?_
  first | refine e_iastN (pc := 6) dX0_arrive_6 rfl (by omega) (by decide) ?_ | refine e_iast (pc := 6) dX0_arrive_6 rfl (by assumption) ?_
  refine e_aload_n (pc := 7) dX0_arrive_7 rfl ?_
  refine e_iload_n (pc := 8) dX0_arrive_8 rfl ?_
  refine e_iload_n (pc := 9) dX0_arrive_9 rfl ?_
  refine e_self2v (pc := 10) dX0_arrive_10 cs_X0_arrive_52 cv_X0_waitAgain rc_X0_waitAgain rfl (by decide) (Nat.le_of_ble_eq_true rfl) (ev_X0_waitAgain _ _ hk) ?_
  refine r_vret (pc := 13) dX0_arrive_13 rfl ?_
  rfl
set_option maxHeartbeats 1000000 in
theorem ev_X0_putBack (M : cr_M) {k : Nat} (t : Int32) (hk : k < 200) : cr_EvM Y_X0_putBack [.inr (.inr 0), .inl (nI k), .inl t] M (none, c_back M k t) := by
  refine e_aload_n (pc := 0) dX0_putBack_0 rfl ?_
  refine e_getA (pc := 1) dX0_putBack_1 f_0_9 rfl rfl ?_
  refine e_iload_n (pc := 4) dX0_putBack_4 rfl ?_
  refine e_iconst (pc := 5) (v := 4) dX0_putBack_5 (by decide) ?_
  first | refine e_iastN (pc := 6) dX0_putBack_6 rfl (by omega) (by decide) ?_ | refine e_iast (pc := 6) dX0_putBack_6 rfl (by assumption) ?_
  refine e_aload_n (pc := 7) dX0_putBack_7 rfl ?_
  refine e_getA (pc := 8) dX0_putBack_8 f_0_39 rfl rfl ?_
  refine e_iload_n (pc := 11) dX0_putBack_11 rfl ?_
  refine e_iload_n (pc := 12) dX0_putBack_12 rfl ?_
  first | refine e_iastN (pc := 13) dX0_putBack_13 rfl (by omega) (by decide) ?_ | refine e_iast (pc := 13) dX0_putBack_13 rfl (by assumption) ?_
  refine r_vret (pc := 14) dX0_putBack_14 rfl ?_
  rfl
set_option maxHeartbeats 1000000 in
theorem ev_X0_start (M : cr_M) {k : Nat} (h t e : Int32) (hk : k < 200) : cr_EvM Y_X0_start [.inr (.inr 0), .inl (nI k), .inl h, .inl t, .inl e] M (none, c_start M k h t e) := by
  refine e_aload_n (pc := 0) dX0_start_0 rfl ?_
  refine e_getA (pc := 1) dX0_start_1 f_0_9 rfl rfl ?_
  refine e_iload_n (pc := 4) dX0_start_4 rfl ?_
  refine e_iconst (pc := 5) (v := 1) dX0_start_5 (by decide) ?_
  first | refine e_iastN (pc := 6) dX0_start_6 rfl (by omega) (by decide) ?_ | refine e_iast (pc := 6) dX0_start_6 rfl (by assumption) ?_
  refine e_aload_n (pc := 7) dX0_start_7 rfl ?_
  refine e_getA (pc := 8) dX0_start_8 f_0_36 rfl rfl ?_
  refine e_iload_n (pc := 11) dX0_start_11 rfl ?_
  refine e_iload_n (pc := 12) dX0_start_12 rfl ?_
  first | refine e_iastN (pc := 13) dX0_start_13 rfl (by omega) (by decide) ?_ | refine e_iast (pc := 13) dX0_start_13 rfl (by assumption) ?_
  refine e_aload_n (pc := 14) dX0_start_14 rfl ?_
  refine e_getA (pc := 15) dX0_start_15 f_0_39 rfl rfl ?_
  refine e_iload_n (pc := 18) dX0_start_18 rfl ?_
  refine e_iload (pc := 19) dX0_start_19 rfl ?_
  first | refine e_iastN (pc := 21) dX0_start_21 rfl (by omega) (by decide) ?_ | refine e_iast (pc := 21) dX0_start_21 rfl (by assumption) ?_
  refine e_aload_n (pc := 22) dX0_start_22 rfl ?_
  refine e_getA (pc := 23) dX0_start_23 f_0_45 rfl rfl ?_
  refine e_iload_n (pc := 26) dX0_start_26 rfl ?_
  refine e_iload_n (pc := 27) dX0_start_27 rfl ?_
  refine e_aload_n (pc := 28) dX0_start_28 rfl ?_
  refine e_getA (pc := 29) dX0_start_29 f_0_33 rfl rfl ?_
  refine e_iload_n (pc := 32) dX0_start_32 rfl ?_
  first | refine e_ialdN (pc := 33) dX0_start_33 rfl (by omega) (by decide) ?_ | refine e_iald (pc := 33) dX0_start_33 rfl (by assumption) ?_
  refine e_isub (pc := 34) dX0_start_34 ?_
  first | refine e_iastN (pc := 35) dX0_start_35 rfl (by omega) (by decide) ?_ | refine e_iast (pc := 35) dX0_start_35 rfl (by assumption) ?_
  refine e_aload_n (pc := 36) dX0_start_36 rfl ?_
  refine e_getA (pc := 37) dX0_start_37 f_0_42 rfl rfl ?_
  refine e_iload_n (pc := 40) dX0_start_40 rfl ?_
  first | refine e_ialdN (pc := 41) dX0_start_41 rfl (by omega) (by decide) ?_ | refine e_iald (pc := 41) dX0_start_41 rfl (by assumption) ?_
  refine e_if_ge (pc := 42) (tgt := 57) dX0_start_42 (by decide) (fun hc_42 => ?_) (fun hc_42 => ?_)
  · refine r_vret (pc := 57) dX0_start_57 rfl ?_
    unfold c_start
    first | (rw [if_pos (by grind [cr_rd])]; simp [cr_rd]; done) | (rw [if_neg (by grind [cr_rd])]; simp [cr_rd])
  · refine e_aload_n (pc := 45) dX0_start_45 rfl ?_
    refine e_getA (pc := 46) dX0_start_46 f_0_42 rfl rfl ?_
    refine e_iload_n (pc := 49) dX0_start_49 rfl ?_
    refine e_aload_n (pc := 50) dX0_start_50 rfl ?_
    refine e_getA (pc := 51) dX0_start_51 f_0_45 rfl rfl ?_
    refine e_iload_n (pc := 54) dX0_start_54 rfl ?_
    first | refine e_ialdN (pc := 55) dX0_start_55 rfl (by omega) (by decide) ?_ | refine e_iald (pc := 55) dX0_start_55 rfl (by assumption) ?_
    first | refine e_iastN (pc := 56) dX0_start_56 rfl (by omega) (by decide) ?_ | refine e_iast (pc := 56) dX0_start_56 rfl (by assumption) ?_
    refine r_vret (pc := 57) dX0_start_57 rfl ?_
    unfold c_start
    first | (rw [if_pos (by grind [cr_rd])]; simp [cr_rd]; done) | (rw [if_neg (by grind [cr_rd])]; simp [cr_rd])
set_option maxHeartbeats 1000000 in
theorem ev_X0_nextChange (M : cr_M) {k : Nat} (t p : Int32) (hk : k < 200) : cr_EvM Y_X0_nextChange [.inr (.inr 0), .inl (nI k), .inl t, .inl p] M (some (.inl (c_nc M k t p)), M) := by
  refine e_aload_n (pc := 0) dX0_nextChange_0 rfl ?_
  refine e_getA (pc := 1) dX0_nextChange_1 f_0_9 rfl rfl ?_
  refine e_iload_n (pc := 4) dX0_nextChange_4 rfl ?_
  first | refine e_ialdN (pc := 5) dX0_nextChange_5 rfl (by omega) (by decide) ?_ | refine e_iald (pc := 5) dX0_nextChange_5 rfl (by assumption) ?_
  refine e_iconst (pc := 6) (v := 1) dX0_nextChange_6 (by decide) ?_
  refine e_icmp_eq (pc := 7) (tgt := 20) dX0_nextChange_7 (by decide) (fun hc_7 => ?_) (fun hc_7 => ?_)
  · refine e_aload_n (pc := 20) dX0_nextChange_20 rfl ?_
    refine e_getA (pc := 21) dX0_nextChange_21 f_0_39 rfl rfl ?_
    refine e_iload_n (pc := 24) dX0_nextChange_24 rfl ?_
    first | refine e_ialdN (pc := 25) dX0_nextChange_25 rfl (by omega) (by decide) ?_ | refine e_iald (pc := 25) dX0_nextChange_25 rfl (by assumption) ?_
    refine r_iret (pc := 26) dX0_nextChange_26 rfl ?_
    exact rt_i (by unfold c_nc; grind)
  · refine e_aload_n (pc := 10) dX0_nextChange_10 rfl ?_
    refine e_getA (pc := 11) dX0_nextChange_11 f_0_9 rfl rfl ?_
    refine e_iload_n (pc := 14) dX0_nextChange_14 rfl ?_
    first | refine e_ialdN (pc := 15) dX0_nextChange_15 rfl (by omega) (by decide) ?_ | refine e_iald (pc := 15) dX0_nextChange_15 rfl (by assumption) ?_
    refine e_iconst (pc := 16) (v := 4) dX0_nextChange_16 (by decide) ?_
    refine e_icmp_ne (pc := 17) (tgt := 27) dX0_nextChange_17 (by decide) (fun hc_17 => ?_) (fun hc_17 => ?_)
    · refine e_aload_n (pc := 27) dX0_nextChange_27 rfl ?_
      refine e_getA (pc := 28) dX0_nextChange_28 f_0_9 rfl rfl ?_
      refine e_iload_n (pc := 31) dX0_nextChange_31 rfl ?_
      first | refine e_ialdN (pc := 32) dX0_nextChange_32 rfl (by omega) (by decide) ?_ | refine e_iald (pc := 32) dX0_nextChange_32 rfl (by assumption) ?_
      refine e_if_eq (pc := 33) (tgt := 39) dX0_nextChange_33 (by decide) (fun hc_33 => ?_) (fun hc_33 => ?_)
      · refine e_aload_n (pc := 39) dX0_nextChange_39 rfl ?_
        refine e_getA (pc := 40) dX0_nextChange_40 f_0_33 rfl rfl ?_
        refine e_iload_n (pc := 43) dX0_nextChange_43 rfl ?_
        first | refine e_ialdN (pc := 44) dX0_nextChange_44 rfl (by omega) (by decide) ?_ | refine e_iald (pc := 44) dX0_nextChange_44 rfl (by assumption) ?_
        refine e_aload_n (pc := 45) dX0_nextChange_45 rfl ?_
        refine e_getA (pc := 46) dX0_nextChange_46 f_0_27 rfl rfl ?_
        refine e_iload_n (pc := 49) dX0_nextChange_49 rfl ?_
        first | refine e_ialdN (pc := 50) dX0_nextChange_50 rfl (by omega) (by decide) ?_ | refine e_iald (pc := 50) dX0_nextChange_50 rfl (by assumption) ?_
        refine e_iadd (pc := 51) dX0_nextChange_51 ?_
        refine e_iconst (pc := 52) (v := 1) dX0_nextChange_52 (by decide) ?_
        refine e_iadd (pc := 53) dX0_nextChange_53 ?_
        refine e_istore (pc := 54) dX0_nextChange_54 (by decide) ?_
        refine e_aload_n (pc := 56) dX0_nextChange_56 rfl ?_
        refine e_getA (pc := 57) dX0_nextChange_57 f_0_33 rfl rfl ?_
        refine e_iload_n (pc := 60) dX0_nextChange_60 rfl ?_
        first | refine e_ialdN (pc := 61) dX0_nextChange_61 rfl (by omega) (by decide) ?_ | refine e_iald (pc := 61) dX0_nextChange_61 rfl (by assumption) ?_
        refine e_iload_n (pc := 62) dX0_nextChange_62 rfl ?_
        refine e_iadd (pc := 63) dX0_nextChange_63 ?_
        refine e_istore (pc := 64) dX0_nextChange_64 (by decide) ?_
        refine e_aload_n (pc := 66) dX0_nextChange_66 rfl ?_
        refine e_getA (pc := 67) dX0_nextChange_67 f_0_15 rfl rfl ?_
        refine e_iload_n (pc := 70) dX0_nextChange_70 rfl ?_
        first | refine e_ialdN (pc := 71) dX0_nextChange_71 rfl (by omega) (by decide) ?_ | refine e_iald (pc := 71) dX0_nextChange_71 rfl (by assumption) ?_
        refine e_iconst (pc := 72) (v := 1) dX0_nextChange_72 (by decide) ?_
        refine e_icmp_ne (pc := 73) (tgt := 92) dX0_nextChange_73 (by decide) (fun hc_73 => ?_) (fun hc_73 => ?_)
        · refine e_iload (pc := 92) dX0_nextChange_92 rfl ?_
          refine r_iret (pc := 94) dX0_nextChange_94 rfl ?_
          exact rt_i (by unfold c_nc; grind)
        · refine e_iload (pc := 76) dX0_nextChange_76 rfl ?_
          refine e_iload_n (pc := 78) dX0_nextChange_78 rfl ?_
          refine e_icmp_le (pc := 79) (tgt := 92) dX0_nextChange_79 (by decide) (fun hc_79 => ?_) (fun hc_79 => ?_)
          · refine e_iload (pc := 92) dX0_nextChange_92 rfl ?_
            refine r_iret (pc := 94) dX0_nextChange_94 rfl ?_
            exact rt_i (by unfold c_nc; grind)
          · refine e_iload (pc := 82) dX0_nextChange_82 rfl ?_
            refine e_iload (pc := 84) dX0_nextChange_84 rfl ?_
            refine e_mmin (pc := 86) dX0_nextChange_86 cm_X0_nextChange_57 cm_min (by decide) (by decide) (Nat.le_of_ble_eq_true rfl) ?_
            refine e_goto (pc := 89) (tgt := 94) dX0_nextChange_89 (by decide) ?_
            refine r_iret (pc := 94) dX0_nextChange_94 rfl ?_
            exact rt_i (by unfold c_nc; grind)
      · refine e_ldc (pc := 36) (v := (2147483647 : Int32)) dX0_nextChange_36 (cr_in (i := 458) (by decide +kernel) rfl) ?_
        refine r_iret (pc := 38) dX0_nextChange_38 rfl ?_
        exact rt_i (by unfold c_nc; grind)
    · refine e_aload_n (pc := 20) dX0_nextChange_20 rfl ?_
      refine e_getA (pc := 21) dX0_nextChange_21 f_0_39 rfl rfl ?_
      refine e_iload_n (pc := 24) dX0_nextChange_24 rfl ?_
      first | refine e_ialdN (pc := 25) dX0_nextChange_25 rfl (by omega) (by decide) ?_ | refine e_iald (pc := 25) dX0_nextChange_25 rfl (by assumption) ?_
      refine r_iret (pc := 26) dX0_nextChange_26 rfl ?_
      exact rt_i (by unfold c_nc; grind)
set_option maxHeartbeats 1000000 in
theorem lp_X0_ringBackDue {cn : Nat} {M : cr_M} {x : Int32} (hsz : M 0 0 = nI cn) (h10 : cn ≤ 200) : ∀ (n j : Nat) (Mc : cr_M), j + n = cn → (Mc = c_ring j x M) → cr_Ev Y_X0_ringBackDue 2 [(2, .inl (nI j)), (0, .inr (.inr 0)), (1, .inl x)] [] Mc (none, c_ring cn x M) := by
  intro n
  induction n with
  | zero =>
    intro j Mc hj hM
    subst hM
    refine e_iload_n (pc := 2) dX0_ringBackDue_2 rfl ?_
    refine e_aload_n (pc := 3) dX0_ringBackDue_3 rfl ?_
    refine e_getI (pc := 4) dX0_ringBackDue_4 f_0_48 rfl rfl ?_
    refine e_icmp_ge (pc := 7) (tgt := 42) dX0_ringBackDue_7 (by decide) (fun hc_7 => ?_) (fun hc_7 => ?_)
    · refine r_vret (pc := 42) dX0_ringBackDue_42 rfl ?_
      rw [show j = cn by omega]
    · exact absurd (show M 0 0 ≤ nI j by rw [hsz]; exact nI_le (by omega) (by omega)) (by assumption)
  | succ n ih =>
    intro j Mc hj hM
    subst hM
    refine e_iload_n (pc := 2) dX0_ringBackDue_2 rfl ?_
    refine e_aload_n (pc := 3) dX0_ringBackDue_3 rfl ?_
    refine e_getI (pc := 4) dX0_ringBackDue_4 f_0_48 rfl rfl ?_
    refine e_icmp_ge (pc := 7) (tgt := 42) dX0_ringBackDue_7 (by decide) (fun hc_7 => ?_) (fun hc_7 => ?_)
    · exact absurd (show M 0 0 ≤ nI j by assumption) (by rw [hsz]; exact nI_ge (by omega) (by omega))
    · refine e_aload_n (pc := 10) dX0_ringBackDue_10 rfl ?_
      refine e_getA (pc := 11) dX0_ringBackDue_11 f_0_9 rfl rfl ?_
      refine e_iload_n (pc := 14) dX0_ringBackDue_14 rfl ?_
      first | refine e_ialdN (pc := 15) dX0_ringBackDue_15 rfl (by omega) (by decide) ?_ | refine e_iald (pc := 15) dX0_ringBackDue_15 rfl (by assumption) ?_
      refine e_iconst (pc := 16) (v := 4) dX0_ringBackDue_16 (by decide) ?_
      refine e_icmp_ne (pc := 17) (tgt := 36) dX0_ringBackDue_17 (by decide) (fun hc_17 => ?_) (fun hc_17 => ?_)
      · first | refine e_iinc1 (pc := 36) dX0_ringBackDue_36 rfl (by decide) ?_ | refine e_iincp (pc := 36) dX0_ringBackDue_36 rfl (by decide) ?_
        refine e_goto (pc := 39) (tgt := 2) dX0_ringBackDue_39 (by decide) ?_
        exact e_wk (ih (j + 1) _ (by omega) (by clear ih; funext q i; simp only [cr_rd, c_ring, c_wait] at *; grind (splits := 20))) ⟨rfl, rfl, rfl, trivial⟩
      · refine e_aload_n (pc := 20) dX0_ringBackDue_20 rfl ?_
        refine e_getA (pc := 21) dX0_ringBackDue_21 f_0_39 rfl rfl ?_
        refine e_iload_n (pc := 24) dX0_ringBackDue_24 rfl ?_
        first | refine e_ialdN (pc := 25) dX0_ringBackDue_25 rfl (by omega) (by decide) ?_ | refine e_iald (pc := 25) dX0_ringBackDue_25 rfl (by assumption) ?_
        refine e_iload_n (pc := 26) dX0_ringBackDue_26 rfl ?_
        refine e_icmp_gt (pc := 27) (tgt := 36) dX0_ringBackDue_27 (by decide) (fun hc_27 => ?_) (fun hc_27 => ?_)
        · first | refine e_iinc1 (pc := 36) dX0_ringBackDue_36 rfl (by decide) ?_ | refine e_iincp (pc := 36) dX0_ringBackDue_36 rfl (by decide) ?_
          refine e_goto (pc := 39) (tgt := 2) dX0_ringBackDue_39 (by decide) ?_
          exact e_wk (ih (j + 1) _ (by omega) (by clear ih; funext q i; simp only [cr_rd, c_ring, c_wait] at *; grind (splits := 20))) ⟨rfl, rfl, rfl, trivial⟩
        · refine e_aload_n (pc := 30) dX0_ringBackDue_30 rfl ?_
          refine e_iload_n (pc := 31) dX0_ringBackDue_31 rfl ?_
          refine e_iload_n (pc := 32) dX0_ringBackDue_32 rfl ?_
          refine e_self2v (pc := 33) dX0_ringBackDue_33 cs_X0_ringBackDue_52 cv_X0_waitAgain rc_X0_waitAgain rfl (by decide) (Nat.le_of_ble_eq_true rfl) (ev_X0_waitAgain _ _ (by omega)) ?_
          first | refine e_iinc1 (pc := 36) dX0_ringBackDue_36 rfl (by decide) ?_ | refine e_iincp (pc := 36) dX0_ringBackDue_36 rfl (by decide) ?_
          refine e_goto (pc := 39) (tgt := 2) dX0_ringBackDue_39 (by decide) ?_
          exact e_wk (ih (j + 1) _ (by omega) (by clear ih; funext q i; simp only [cr_rd, c_ring, c_wait] at *; grind (splits := 20))) ⟨rfl, rfl, rfl, trivial⟩
set_option maxHeartbeats 1000000 in
theorem ev_X0_ringBackDue {cn : Nat} {M : cr_M} (x : Int32) (hsz : M 0 0 = nI cn) (h10 : cn ≤ 200) : cr_EvM Y_X0_ringBackDue [.inr (.inr 0), .inl x] M (none, c_ring cn x M) := by
  refine e_iconst (pc := 0) (v := 0) dX0_ringBackDue_0 (by decide) ?_
  refine e_istore_n (pc := 1) dX0_ringBackDue_1 (by decide) ?_
  exact e_wk (lp_X0_ringBackDue hsz h10 cn 0 M (by omega) (by funext q i; simp [c_ring])) ⟨rfl, rfl, rfl, trivial⟩
set_option maxHeartbeats 1000000 in
theorem lp_X0_loseImpatient {cn : Nat} {M : cr_M} {x : Int32} (hsz : M 0 0 = nI cn) (h10 : cn ≤ 200) : ∀ (n j : Nat) (Mc : cr_M), j + n = cn → (Mc = c_lose j x M) → cr_Ev Y_X0_loseImpatient 2 [(2, .inl (nI j)), (0, .inr (.inr 0)), (1, .inl x)] [] Mc (none, c_lose cn x M) := by
  intro n
  induction n with
  | zero =>
    intro j Mc hj hM
    subst hM
    refine e_iload_n (pc := 2) dX0_loseImpatient_2 rfl ?_
    refine e_aload_n (pc := 3) dX0_loseImpatient_3 rfl ?_
    refine e_getI (pc := 4) dX0_loseImpatient_4 f_0_48 rfl rfl ?_
    refine e_icmp_ge (pc := 7) (tgt := 49) dX0_loseImpatient_7 (by decide) (fun hc_7 => ?_) (fun hc_7 => ?_)
    · refine r_vret (pc := 49) dX0_loseImpatient_49 rfl ?_
      rw [show j = cn by omega]
    · exact absurd (show M 0 0 ≤ nI j by rw [hsz]; exact nI_le (by omega) (by omega)) (by assumption)
  | succ n ih =>
    intro j Mc hj hM
    subst hM
    refine e_iload_n (pc := 2) dX0_loseImpatient_2 rfl ?_
    refine e_aload_n (pc := 3) dX0_loseImpatient_3 rfl ?_
    refine e_getI (pc := 4) dX0_loseImpatient_4 f_0_48 rfl rfl ?_
    refine e_icmp_ge (pc := 7) (tgt := 49) dX0_loseImpatient_7 (by decide) (fun hc_7 => ?_) (fun hc_7 => ?_)
    · exact absurd (show M 0 0 ≤ nI j by assumption) (by rw [hsz]; exact nI_ge (by omega) (by omega))
    · refine e_aload_n (pc := 10) dX0_loseImpatient_10 rfl ?_
      refine e_getA (pc := 11) dX0_loseImpatient_11 f_0_9 rfl rfl ?_
      refine e_iload_n (pc := 14) dX0_loseImpatient_14 rfl ?_
      first | refine e_ialdN (pc := 15) dX0_loseImpatient_15 rfl (by omega) (by decide) ?_ | refine e_iald (pc := 15) dX0_loseImpatient_15 rfl (by assumption) ?_
      refine e_if_ne (pc := 16) (tgt := 43) dX0_loseImpatient_16 (by decide) (fun hc_16 => ?_) (fun hc_16 => ?_)
      · first | refine e_iinc1 (pc := 43) dX0_loseImpatient_43 rfl (by decide) ?_ | refine e_iincp (pc := 43) dX0_loseImpatient_43 rfl (by decide) ?_
        refine e_goto (pc := 46) (tgt := 2) dX0_loseImpatient_46 (by decide) ?_
        exact e_wk (ih (j + 1) _ (by omega) (by funext q i; simp only [cr_rd, c_lose] at *; grind)) ⟨rfl, rfl, rfl, trivial⟩
      · refine e_iload_n (pc := 19) dX0_loseImpatient_19 rfl ?_
        refine e_aload_n (pc := 20) dX0_loseImpatient_20 rfl ?_
        refine e_getA (pc := 21) dX0_loseImpatient_21 f_0_33 rfl rfl ?_
        refine e_iload_n (pc := 24) dX0_loseImpatient_24 rfl ?_
        first | refine e_ialdN (pc := 25) dX0_loseImpatient_25 rfl (by omega) (by decide) ?_ | refine e_iald (pc := 25) dX0_loseImpatient_25 rfl (by assumption) ?_
        refine e_isub (pc := 26) dX0_loseImpatient_26 ?_
        refine e_aload_n (pc := 27) dX0_loseImpatient_27 rfl ?_
        refine e_getA (pc := 28) dX0_loseImpatient_28 f_0_27 rfl rfl ?_
        refine e_iload_n (pc := 31) dX0_loseImpatient_31 rfl ?_
        first | refine e_ialdN (pc := 32) dX0_loseImpatient_32 rfl (by omega) (by decide) ?_ | refine e_iald (pc := 32) dX0_loseImpatient_32 rfl (by assumption) ?_
        refine e_icmp_le (pc := 33) (tgt := 43) dX0_loseImpatient_33 (by decide) (fun hc_33 => ?_) (fun hc_33 => ?_)
        · first | refine e_iinc1 (pc := 43) dX0_loseImpatient_43 rfl (by decide) ?_ | refine e_iincp (pc := 43) dX0_loseImpatient_43 rfl (by decide) ?_
          refine e_goto (pc := 46) (tgt := 2) dX0_loseImpatient_46 (by decide) ?_
          exact e_wk (ih (j + 1) _ (by omega) (by funext q i; simp only [cr_rd, c_lose] at *; grind)) ⟨rfl, rfl, rfl, trivial⟩
        · refine e_aload_n (pc := 36) dX0_loseImpatient_36 rfl ?_
          refine e_getA (pc := 37) dX0_loseImpatient_37 f_0_9 rfl rfl ?_
          refine e_iload_n (pc := 40) dX0_loseImpatient_40 rfl ?_
          refine e_iconst (pc := 41) (v := 3) dX0_loseImpatient_41 (by decide) ?_
          first | refine e_iastN (pc := 42) dX0_loseImpatient_42 rfl (by omega) (by decide) ?_ | refine e_iast (pc := 42) dX0_loseImpatient_42 rfl (by assumption) ?_
          first | refine e_iinc1 (pc := 43) dX0_loseImpatient_43 rfl (by decide) ?_ | refine e_iincp (pc := 43) dX0_loseImpatient_43 rfl (by decide) ?_
          refine e_goto (pc := 46) (tgt := 2) dX0_loseImpatient_46 (by decide) ?_
          exact e_wk (ih (j + 1) _ (by omega) (by funext q i; simp only [cr_rd, c_lose] at *; grind)) ⟨rfl, rfl, rfl, trivial⟩
set_option maxHeartbeats 1000000 in
theorem ev_X0_loseImpatient {cn : Nat} {M : cr_M} (x : Int32) (hsz : M 0 0 = nI cn) (h10 : cn ≤ 200) : cr_EvM Y_X0_loseImpatient [.inr (.inr 0), .inl x] M (none, c_lose cn x M) := by
  refine e_iconst (pc := 0) (v := 0) dX0_loseImpatient_0 (by decide) ?_
  refine e_istore_n (pc := 1) dX0_loseImpatient_1 (by decide) ?_
  exact e_wk (lp_X0_loseImpatient hsz h10 cn 0 M (by omega) (by funext q i; simp [c_lose])) ⟨rfl, rfl, rfl, trivial⟩
set_option maxHeartbeats 1000000 in
theorem lp_X0_firstWith {cn : Nat} {M : cr_M} {x : Int32} (hsz : M 0 0 = nI cn) (h10 : cn ≤ 200) : ∀ (n j : Nat), j + n = cn → cr_Ev Y_X0_firstWith 2 [(2, .inl (nI j)), (0, .inr (.inr 0)), (1, .inl x)] [] M (some (.inl (c_fw M x n j)), M) := by
  intro n
  induction n with
  | zero =>
    intro j hj 
    refine e_iload_n (pc := 2) dX0_firstWith_2 rfl ?_
    refine e_aload_n (pc := 3) dX0_firstWith_3 rfl ?_
    refine e_getI (pc := 4) dX0_firstWith_4 f_0_48 rfl rfl ?_
    refine e_icmp_ge (pc := 7) (tgt := 38) dX0_firstWith_7 (by decide) (fun hc_7 => ?_) (fun hc_7 => ?_)
    · refine e_bipush (pc := 38) (v := (-9)) dX0_firstWith_38 (by decide) ?_
      refine r_iret (pc := 40) dX0_firstWith_40 rfl ?_
      rfl
    · exact absurd (show M 0 0 ≤ nI j by rw [hsz]; exact nI_le (by omega) (by omega)) (by assumption)
  | succ n ih =>
    intro j hj 
    refine e_iload_n (pc := 2) dX0_firstWith_2 rfl ?_
    refine e_aload_n (pc := 3) dX0_firstWith_3 rfl ?_
    refine e_getI (pc := 4) dX0_firstWith_4 f_0_48 rfl rfl ?_
    refine e_icmp_ge (pc := 7) (tgt := 38) dX0_firstWith_7 (by decide) (fun hc_7 => ?_) (fun hc_7 => ?_)
    · exact absurd (show M 0 0 ≤ nI j by assumption) (by rw [hsz]; exact nI_ge (by omega) (by omega))
    · refine e_aload_n (pc := 10) dX0_firstWith_10 rfl ?_
      refine e_getA (pc := 11) dX0_firstWith_11 f_0_9 rfl rfl ?_
      refine e_iload_n (pc := 14) dX0_firstWith_14 rfl ?_
      first | refine e_ialdN (pc := 15) dX0_firstWith_15 rfl (by omega) (by decide) ?_ | refine e_iald (pc := 15) dX0_firstWith_15 rfl (by assumption) ?_
      refine e_iconst (pc := 16) (v := 1) dX0_firstWith_16 (by decide) ?_
      refine e_icmp_ne (pc := 17) (tgt := 32) dX0_firstWith_17 (by decide) (fun hc_17 => ?_) (fun hc_17 => ?_)
      · first | refine e_iinc1 (pc := 32) dX0_firstWith_32 rfl (by decide) ?_ | refine e_iincp (pc := 32) dX0_firstWith_32 rfl (by decide) ?_
        refine e_goto (pc := 35) (tgt := 2) dX0_firstWith_35 (by decide) ?_
        rw [show c_fw M x (n + 1) j = c_fw M x n (j + 1) by simp only [c_fw]; grind]
        exact e_wk (ih (j + 1) (by omega)) ⟨rfl, rfl, rfl, trivial⟩
      · refine e_aload_n (pc := 20) dX0_firstWith_20 rfl ?_
        refine e_getA (pc := 21) dX0_firstWith_21 f_0_36 rfl rfl ?_
        refine e_iload_n (pc := 24) dX0_firstWith_24 rfl ?_
        first | refine e_ialdN (pc := 25) dX0_firstWith_25 rfl (by omega) (by decide) ?_ | refine e_iald (pc := 25) dX0_firstWith_25 rfl (by assumption) ?_
        refine e_iload_n (pc := 26) dX0_firstWith_26 rfl ?_
        refine e_icmp_ne (pc := 27) (tgt := 32) dX0_firstWith_27 (by decide) (fun hc_27 => ?_) (fun hc_27 => ?_)
        · first | refine e_iinc1 (pc := 32) dX0_firstWith_32 rfl (by decide) ?_ | refine e_iincp (pc := 32) dX0_firstWith_32 rfl (by decide) ?_
          refine e_goto (pc := 35) (tgt := 2) dX0_firstWith_35 (by decide) ?_
          rw [show c_fw M x (n + 1) j = c_fw M x n (j + 1) by simp only [c_fw]; grind]
          exact e_wk (ih (j + 1) (by omega)) ⟨rfl, rfl, rfl, trivial⟩
        · refine e_iload_n (pc := 30) dX0_firstWith_30 rfl ?_
          refine r_iret (pc := 31) dX0_firstWith_31 rfl ?_
          exact rt_i (by simp only [c_fw]; grind)
set_option maxHeartbeats 1000000 in
theorem ev_X0_firstWith {cn : Nat} {M : cr_M} (x : Int32) (hsz : M 0 0 = nI cn) (h10 : cn ≤ 200) : cr_EvM Y_X0_firstWith [.inr (.inr 0), .inl x] M (some (.inl (c_fw M x cn 0)), M) := by
  refine e_iconst (pc := 0) (v := 0) dX0_firstWith_0 (by decide) ?_
  refine e_istore_n (pc := 1) dX0_firstWith_1 (by decide) ?_
  exact e_wk (lp_X0_firstWith hsz h10 cn 0 (by omega)) ⟨rfl, rfl, rfl, trivial⟩
set_option maxHeartbeats 1000000 in
theorem lp_X0_givenWithin {cn : Nat} {M : cr_M} {x : Int32} (hsz : M 0 0 = nI cn) (h10 : cn ≤ 200) : ∀ (n j : Nat) (z : Int32), j + n = cn → (z = c_gw M x j) → cr_Ev Y_X0_givenWithin 4 [(3, .inl (nI j)), (0, .inr (.inr 0)), (1, .inl x), (2, .inl z)] [] M (some (.inl (c_gw M x cn)), M) := by
  intro n
  induction n with
  | zero =>
    intro j z hj hx
    refine e_iload_n (pc := 4) dX0_givenWithin_4 rfl ?_
    refine e_aload_n (pc := 5) dX0_givenWithin_5 rfl ?_
    refine e_getI (pc := 6) dX0_givenWithin_6 f_0_48 rfl rfl ?_
    refine e_icmp_ge (pc := 9) (tgt := 40) dX0_givenWithin_9 (by decide) (fun hc_9 => ?_) (fun hc_9 => ?_)
    · refine e_iload_n (pc := 40) dX0_givenWithin_40 rfl ?_
      refine r_iret (pc := 41) dX0_givenWithin_41 rfl ?_
      rw [hx, show j = cn by omega]
    · exact absurd (show M 0 0 ≤ nI j by rw [hsz]; exact nI_le (by omega) (by omega)) (by assumption)
  | succ n ih =>
    intro j z hj hx
    refine e_iload_n (pc := 4) dX0_givenWithin_4 rfl ?_
    refine e_aload_n (pc := 5) dX0_givenWithin_5 rfl ?_
    refine e_getI (pc := 6) dX0_givenWithin_6 f_0_48 rfl rfl ?_
    refine e_icmp_ge (pc := 9) (tgt := 40) dX0_givenWithin_9 (by decide) (fun hc_9 => ?_) (fun hc_9 => ?_)
    · exact absurd (show M 0 0 ≤ nI j by assumption) (by rw [hsz]; exact nI_ge (by omega) (by omega))
    · refine e_aload_n (pc := 12) dX0_givenWithin_12 rfl ?_
      refine e_getA (pc := 13) dX0_givenWithin_13 f_0_42 rfl rfl ?_
      refine e_iload_n (pc := 16) dX0_givenWithin_16 rfl ?_
      first | refine e_ialdN (pc := 17) dX0_givenWithin_17 rfl (by omega) (by decide) ?_ | refine e_iald (pc := 17) dX0_givenWithin_17 rfl (by assumption) ?_
      refine e_if_lt (pc := 18) (tgt := 34) dX0_givenWithin_18 (by decide) (fun hc_18 => ?_) (fun hc_18 => ?_)
      · first | refine e_iinc1 (pc := 34) dX0_givenWithin_34 rfl (by decide) ?_ | refine e_iincp (pc := 34) dX0_givenWithin_34 rfl (by decide) ?_
        refine e_goto (pc := 37) (tgt := 4) dX0_givenWithin_37 (by decide) ?_
        exact e_wk (ih (j + 1) _ (by omega) (by subst hx; simp only [c_gw]; grind)) ⟨rfl, rfl, rfl, rfl, trivial⟩
      · refine e_aload_n (pc := 21) dX0_givenWithin_21 rfl ?_
        refine e_getA (pc := 22) dX0_givenWithin_22 f_0_42 rfl rfl ?_
        refine e_iload_n (pc := 25) dX0_givenWithin_25 rfl ?_
        first | refine e_ialdN (pc := 26) dX0_givenWithin_26 rfl (by omega) (by decide) ?_ | refine e_iald (pc := 26) dX0_givenWithin_26 rfl (by assumption) ?_
        refine e_iload_n (pc := 27) dX0_givenWithin_27 rfl ?_
        refine e_icmp_gt (pc := 28) (tgt := 34) dX0_givenWithin_28 (by decide) (fun hc_28 => ?_) (fun hc_28 => ?_)
        · first | refine e_iinc1 (pc := 34) dX0_givenWithin_34 rfl (by decide) ?_ | refine e_iincp (pc := 34) dX0_givenWithin_34 rfl (by decide) ?_
          refine e_goto (pc := 37) (tgt := 4) dX0_givenWithin_37 (by decide) ?_
          exact e_wk (ih (j + 1) _ (by omega) (by subst hx; simp only [c_gw]; grind)) ⟨rfl, rfl, rfl, rfl, trivial⟩
        · first | refine e_iinc1 (pc := 31) dX0_givenWithin_31 rfl (by decide) ?_ | refine e_iincp (pc := 31) dX0_givenWithin_31 rfl (by decide) ?_
          first | refine e_iinc1 (pc := 34) dX0_givenWithin_34 rfl (by decide) ?_ | refine e_iincp (pc := 34) dX0_givenWithin_34 rfl (by decide) ?_
          refine e_goto (pc := 37) (tgt := 4) dX0_givenWithin_37 (by decide) ?_
          exact e_wk (ih (j + 1) _ (by omega) (by subst hx; simp only [c_gw]; grind)) ⟨rfl, rfl, rfl, rfl, trivial⟩
set_option maxHeartbeats 1000000 in
theorem ev_X0_givenWithin {cn : Nat} {M : cr_M} (x : Int32) (hsz : M 0 0 = nI cn) (h10 : cn ≤ 200) : cr_EvM Y_X0_givenWithin [.inr (.inr 0), .inl x] M (some (.inl (c_gw M x cn)), M) := by
  refine e_iconst (pc := 0) (v := 0) dX0_givenWithin_0 (by decide) ?_
  refine e_istore_n (pc := 1) dX0_givenWithin_1 (by decide) ?_
  refine e_iconst (pc := 2) (v := 0) dX0_givenWithin_2 (by decide) ?_
  refine e_istore_n (pc := 3) dX0_givenWithin_3 (by decide) ?_
  exact e_wk (lp_X0_givenWithin hsz h10 cn 0 _ (by omega) rfl) ⟨rfl, rfl, rfl, rfl, trivial⟩
set_option maxHeartbeats 1000000 in
theorem lp_X0_countDoing {cn : Nat} {M : cr_M} {x : Int32} (hsz : M 0 0 = nI cn) (h10 : cn ≤ 200) : ∀ (n j : Nat) (z : Int32), j + n = cn → (z = c_cd M x j) → cr_Ev Y_X0_countDoing 4 [(3, .inl (nI j)), (0, .inr (.inr 0)), (1, .inl x), (2, .inl z)] [] M (some (.inl (c_cd M x cn)), M) := by
  intro n
  induction n with
  | zero =>
    intro j z hj hx
    refine e_iload_n (pc := 4) dX0_countDoing_4 rfl ?_
    refine e_aload_n (pc := 5) dX0_countDoing_5 rfl ?_
    refine e_getI (pc := 6) dX0_countDoing_6 f_0_48 rfl rfl ?_
    refine e_icmp_ge (pc := 9) (tgt := 31) dX0_countDoing_9 (by decide) (fun hc_9 => ?_) (fun hc_9 => ?_)
    · refine e_iload_n (pc := 31) dX0_countDoing_31 rfl ?_
      refine r_iret (pc := 32) dX0_countDoing_32 rfl ?_
      rw [hx, show j = cn by omega]
    · exact absurd (show M 0 0 ≤ nI j by rw [hsz]; exact nI_le (by omega) (by omega)) (by assumption)
  | succ n ih =>
    intro j z hj hx
    refine e_iload_n (pc := 4) dX0_countDoing_4 rfl ?_
    refine e_aload_n (pc := 5) dX0_countDoing_5 rfl ?_
    refine e_getI (pc := 6) dX0_countDoing_6 f_0_48 rfl rfl ?_
    refine e_icmp_ge (pc := 9) (tgt := 31) dX0_countDoing_9 (by decide) (fun hc_9 => ?_) (fun hc_9 => ?_)
    · exact absurd (show M 0 0 ≤ nI j by assumption) (by rw [hsz]; exact nI_ge (by omega) (by omega))
    · refine e_aload_n (pc := 12) dX0_countDoing_12 rfl ?_
      refine e_getA (pc := 13) dX0_countDoing_13 f_0_9 rfl rfl ?_
      refine e_iload_n (pc := 16) dX0_countDoing_16 rfl ?_
      first | refine e_ialdN (pc := 17) dX0_countDoing_17 rfl (by omega) (by decide) ?_ | refine e_iald (pc := 17) dX0_countDoing_17 rfl (by assumption) ?_
      refine e_iload_n (pc := 18) dX0_countDoing_18 rfl ?_
      refine e_icmp_ne (pc := 19) (tgt := 25) dX0_countDoing_19 (by decide) (fun hc_19 => ?_) (fun hc_19 => ?_)
      · first | refine e_iinc1 (pc := 25) dX0_countDoing_25 rfl (by decide) ?_ | refine e_iincp (pc := 25) dX0_countDoing_25 rfl (by decide) ?_
        refine e_goto (pc := 28) (tgt := 4) dX0_countDoing_28 (by decide) ?_
        exact e_wk (ih (j + 1) _ (by omega) (by subst hx; simp only [c_cd]; grind)) ⟨rfl, rfl, rfl, rfl, trivial⟩
      · first | refine e_iinc1 (pc := 22) dX0_countDoing_22 rfl (by decide) ?_ | refine e_iincp (pc := 22) dX0_countDoing_22 rfl (by decide) ?_
        first | refine e_iinc1 (pc := 25) dX0_countDoing_25 rfl (by decide) ?_ | refine e_iincp (pc := 25) dX0_countDoing_25 rfl (by decide) ?_
        refine e_goto (pc := 28) (tgt := 4) dX0_countDoing_28 (by decide) ?_
        exact e_wk (ih (j + 1) _ (by omega) (by subst hx; simp only [c_cd]; grind)) ⟨rfl, rfl, rfl, rfl, trivial⟩
set_option maxHeartbeats 1000000 in
theorem ev_X0_countDoing {cn : Nat} {M : cr_M} (x : Int32) (hsz : M 0 0 = nI cn) (h10 : cn ≤ 200) : cr_EvM Y_X0_countDoing [.inr (.inr 0), .inl x] M (some (.inl (c_cd M x cn)), M) := by
  refine e_iconst (pc := 0) (v := 0) dX0_countDoing_0 (by decide) ?_
  refine e_istore_n (pc := 1) dX0_countDoing_1 (by decide) ?_
  refine e_iconst (pc := 2) (v := 0) dX0_countDoing_2 (by decide) ?_
  refine e_istore_n (pc := 3) dX0_countDoing_3 (by decide) ?_
  exact e_wk (lp_X0_countDoing hsz h10 cn 0 _ (by omega) rfl) ⟨rfl, rfl, rfl, rfl, trivial⟩
set_option maxHeartbeats 1000000 in
theorem ev_X0_copyFrom (M : cr_M) {cn : Nat} (hsz : M 13 0 = nI cn) (h10 : cn ≤ 200) : cr_EvM Y_X0_copyFrom [.inr (.inr 0), .inr (.inr 13)] M (none, c_cpy cn M) := by
  have hcl : (M 13 0).toNatClampNeg = cn := by rw [hsz]; exact nI_clamp (by omega)
  have hsz0 : ¬ M 13 0 < 0 := by rw [hsz]; exact nI_pos (by omega)
  have hsz1 : (0 : Int32).toNatClampNeg + (M 13 0).toNatClampNeg ≤ 200 := by rw [hsz, nI_clamp (by omega)]; exact (by simpa using h10)
  refine e_aload_n (pc := 0) dX0_copyFrom_0 rfl ?_
  refine e_aload_n (pc := 1) dX0_copyFrom_1 rfl ?_
  refine e_getI (pc := 2) dX0_copyFrom_2 f_0_48 rfl rfl ?_
  refine e_put (pc := 5) dX0_copyFrom_5 f_0_48 p_0_0 rfl rfl ?_
  refine e_aload_n (pc := 8) dX0_copyFrom_8 rfl ?_
  refine e_getA (pc := 9) dX0_copyFrom_9 f_0_9 rfl rfl ?_
  refine e_iconst (pc := 12) (v := 0) dX0_copyFrom_12 (by decide) ?_
  refine e_aload_n (pc := 13) dX0_copyFrom_13 rfl ?_
  refine e_getA (pc := 14) dX0_copyFrom_14 f_0_9 rfl rfl ?_
  refine e_iconst (pc := 17) (v := 0) dX0_copyFrom_17 (by decide) ?_
  refine e_aload_n (pc := 18) dX0_copyFrom_18 rfl ?_
  refine e_getI (pc := 19) dX0_copyFrom_19 f_0_48 rfl rfl ?_
  refine e_acopy (pc := 22) dX0_copyFrom_22 ac_0_63 (by decide) (Nat.le_of_ble_eq_true rfl) rfl rfl (by decide) (by decide) hsz0 hsz1 hsz1 ?_
  refine e_aload_n (pc := 25) dX0_copyFrom_25 rfl ?_
  refine e_getA (pc := 26) dX0_copyFrom_26 f_0_15 rfl rfl ?_
  refine e_iconst (pc := 29) (v := 0) dX0_copyFrom_29 (by decide) ?_
  refine e_aload_n (pc := 30) dX0_copyFrom_30 rfl ?_
  refine e_getA (pc := 31) dX0_copyFrom_31 f_0_15 rfl rfl ?_
  refine e_iconst (pc := 34) (v := 0) dX0_copyFrom_34 (by decide) ?_
  refine e_aload_n (pc := 35) dX0_copyFrom_35 rfl ?_
  refine e_getI (pc := 36) dX0_copyFrom_36 f_0_48 rfl rfl ?_
  refine e_acopy (pc := 39) dX0_copyFrom_39 ac_0_63 (by decide) (Nat.le_of_ble_eq_true rfl) rfl rfl (by decide) (by decide) hsz0 hsz1 hsz1 ?_
  refine e_aload_n (pc := 42) dX0_copyFrom_42 rfl ?_
  refine e_getA (pc := 43) dX0_copyFrom_43 f_0_18 rfl rfl ?_
  refine e_iconst (pc := 46) (v := 0) dX0_copyFrom_46 (by decide) ?_
  refine e_aload_n (pc := 47) dX0_copyFrom_47 rfl ?_
  refine e_getA (pc := 48) dX0_copyFrom_48 f_0_18 rfl rfl ?_
  refine e_iconst (pc := 51) (v := 0) dX0_copyFrom_51 (by decide) ?_
  refine e_aload_n (pc := 52) dX0_copyFrom_52 rfl ?_
  refine e_getI (pc := 53) dX0_copyFrom_53 f_0_48 rfl rfl ?_
  refine e_acopy (pc := 56) dX0_copyFrom_56 ac_0_63 (by decide) (Nat.le_of_ble_eq_true rfl) rfl rfl (by decide) (by decide) hsz0 hsz1 hsz1 ?_
  refine e_aload_n (pc := 59) dX0_copyFrom_59 rfl ?_
  refine e_getA (pc := 60) dX0_copyFrom_60 f_0_21 rfl rfl ?_
  refine e_iconst (pc := 63) (v := 0) dX0_copyFrom_63 (by decide) ?_
  refine e_aload_n (pc := 64) dX0_copyFrom_64 rfl ?_
  refine e_getA (pc := 65) dX0_copyFrom_65 f_0_21 rfl rfl ?_
  refine e_iconst (pc := 68) (v := 0) dX0_copyFrom_68 (by decide) ?_
  refine e_aload_n (pc := 69) dX0_copyFrom_69 rfl ?_
  refine e_getI (pc := 70) dX0_copyFrom_70 f_0_48 rfl rfl ?_
  refine e_acopy (pc := 73) dX0_copyFrom_73 ac_0_63 (by decide) (Nat.le_of_ble_eq_true rfl) rfl rfl (by decide) (by decide) hsz0 hsz1 hsz1 ?_
  refine e_aload_n (pc := 76) dX0_copyFrom_76 rfl ?_
  refine e_getA (pc := 77) dX0_copyFrom_77 f_0_24 rfl rfl ?_
  refine e_iconst (pc := 80) (v := 0) dX0_copyFrom_80 (by decide) ?_
  refine e_aload_n (pc := 81) dX0_copyFrom_81 rfl ?_
  refine e_getA (pc := 82) dX0_copyFrom_82 f_0_24 rfl rfl ?_
  refine e_iconst (pc := 85) (v := 0) dX0_copyFrom_85 (by decide) ?_
  refine e_aload_n (pc := 86) dX0_copyFrom_86 rfl ?_
  refine e_getI (pc := 87) dX0_copyFrom_87 f_0_48 rfl rfl ?_
  refine e_acopy (pc := 90) dX0_copyFrom_90 ac_0_63 (by decide) (Nat.le_of_ble_eq_true rfl) rfl rfl (by decide) (by decide) hsz0 hsz1 hsz1 ?_
  refine e_aload_n (pc := 93) dX0_copyFrom_93 rfl ?_
  refine e_getA (pc := 94) dX0_copyFrom_94 f_0_27 rfl rfl ?_
  refine e_iconst (pc := 97) (v := 0) dX0_copyFrom_97 (by decide) ?_
  refine e_aload_n (pc := 98) dX0_copyFrom_98 rfl ?_
  refine e_getA (pc := 99) dX0_copyFrom_99 f_0_27 rfl rfl ?_
  refine e_iconst (pc := 102) (v := 0) dX0_copyFrom_102 (by decide) ?_
  refine e_aload_n (pc := 103) dX0_copyFrom_103 rfl ?_
  refine e_getI (pc := 104) dX0_copyFrom_104 f_0_48 rfl rfl ?_
  refine e_acopy (pc := 107) dX0_copyFrom_107 ac_0_63 (by decide) (Nat.le_of_ble_eq_true rfl) rfl rfl (by decide) (by decide) hsz0 hsz1 hsz1 ?_
  refine e_aload_n (pc := 110) dX0_copyFrom_110 rfl ?_
  refine e_getA (pc := 111) dX0_copyFrom_111 f_0_30 rfl rfl ?_
  refine e_iconst (pc := 114) (v := 0) dX0_copyFrom_114 (by decide) ?_
  refine e_aload_n (pc := 115) dX0_copyFrom_115 rfl ?_
  refine e_getA (pc := 116) dX0_copyFrom_116 f_0_30 rfl rfl ?_
  refine e_iconst (pc := 119) (v := 0) dX0_copyFrom_119 (by decide) ?_
  refine e_aload_n (pc := 120) dX0_copyFrom_120 rfl ?_
  refine e_getI (pc := 121) dX0_copyFrom_121 f_0_48 rfl rfl ?_
  refine e_acopy (pc := 124) dX0_copyFrom_124 ac_0_63 (by decide) (Nat.le_of_ble_eq_true rfl) rfl rfl (by decide) (by decide) hsz0 hsz1 hsz1 ?_
  refine e_aload_n (pc := 127) dX0_copyFrom_127 rfl ?_
  refine e_getA (pc := 128) dX0_copyFrom_128 f_0_33 rfl rfl ?_
  refine e_iconst (pc := 131) (v := 0) dX0_copyFrom_131 (by decide) ?_
  refine e_aload_n (pc := 132) dX0_copyFrom_132 rfl ?_
  refine e_getA (pc := 133) dX0_copyFrom_133 f_0_33 rfl rfl ?_
  refine e_iconst (pc := 136) (v := 0) dX0_copyFrom_136 (by decide) ?_
  refine e_aload_n (pc := 137) dX0_copyFrom_137 rfl ?_
  refine e_getI (pc := 138) dX0_copyFrom_138 f_0_48 rfl rfl ?_
  refine e_acopy (pc := 141) dX0_copyFrom_141 ac_0_63 (by decide) (Nat.le_of_ble_eq_true rfl) rfl rfl (by decide) (by decide) hsz0 hsz1 hsz1 ?_
  refine e_aload_n (pc := 144) dX0_copyFrom_144 rfl ?_
  refine e_getA (pc := 145) dX0_copyFrom_145 f_0_36 rfl rfl ?_
  refine e_iconst (pc := 148) (v := 0) dX0_copyFrom_148 (by decide) ?_
  refine e_aload_n (pc := 149) dX0_copyFrom_149 rfl ?_
  refine e_getA (pc := 150) dX0_copyFrom_150 f_0_36 rfl rfl ?_
  refine e_iconst (pc := 153) (v := 0) dX0_copyFrom_153 (by decide) ?_
  refine e_aload_n (pc := 154) dX0_copyFrom_154 rfl ?_
  refine e_getI (pc := 155) dX0_copyFrom_155 f_0_48 rfl rfl ?_
  refine e_acopy (pc := 158) dX0_copyFrom_158 ac_0_63 (by decide) (Nat.le_of_ble_eq_true rfl) rfl rfl (by decide) (by decide) hsz0 hsz1 hsz1 ?_
  refine e_aload_n (pc := 161) dX0_copyFrom_161 rfl ?_
  refine e_getA (pc := 162) dX0_copyFrom_162 f_0_39 rfl rfl ?_
  refine e_iconst (pc := 165) (v := 0) dX0_copyFrom_165 (by decide) ?_
  refine e_aload_n (pc := 166) dX0_copyFrom_166 rfl ?_
  refine e_getA (pc := 167) dX0_copyFrom_167 f_0_39 rfl rfl ?_
  refine e_iconst (pc := 170) (v := 0) dX0_copyFrom_170 (by decide) ?_
  refine e_aload_n (pc := 171) dX0_copyFrom_171 rfl ?_
  refine e_getI (pc := 172) dX0_copyFrom_172 f_0_48 rfl rfl ?_
  refine e_acopy (pc := 175) dX0_copyFrom_175 ac_0_63 (by decide) (Nat.le_of_ble_eq_true rfl) rfl rfl (by decide) (by decide) hsz0 hsz1 hsz1 ?_
  refine e_aload_n (pc := 178) dX0_copyFrom_178 rfl ?_
  refine e_getA (pc := 179) dX0_copyFrom_179 f_0_42 rfl rfl ?_
  refine e_iconst (pc := 182) (v := 0) dX0_copyFrom_182 (by decide) ?_
  refine e_aload_n (pc := 183) dX0_copyFrom_183 rfl ?_
  refine e_getA (pc := 184) dX0_copyFrom_184 f_0_42 rfl rfl ?_
  refine e_iconst (pc := 187) (v := 0) dX0_copyFrom_187 (by decide) ?_
  refine e_aload_n (pc := 188) dX0_copyFrom_188 rfl ?_
  refine e_getI (pc := 189) dX0_copyFrom_189 f_0_48 rfl rfl ?_
  refine e_acopy (pc := 192) dX0_copyFrom_192 ac_0_63 (by decide) (Nat.le_of_ble_eq_true rfl) rfl rfl (by decide) (by decide) hsz0 hsz1 hsz1 ?_
  refine e_aload_n (pc := 195) dX0_copyFrom_195 rfl ?_
  refine e_getA (pc := 196) dX0_copyFrom_196 f_0_45 rfl rfl ?_
  refine e_iconst (pc := 199) (v := 0) dX0_copyFrom_199 (by decide) ?_
  refine e_aload_n (pc := 200) dX0_copyFrom_200 rfl ?_
  refine e_getA (pc := 201) dX0_copyFrom_201 f_0_45 rfl rfl ?_
  refine e_iconst (pc := 204) (v := 0) dX0_copyFrom_204 (by decide) ?_
  refine e_aload_n (pc := 205) dX0_copyFrom_205 rfl ?_
  refine e_getI (pc := 206) dX0_copyFrom_206 f_0_48 rfl rfl ?_
  refine e_acopy (pc := 209) dX0_copyFrom_209 ac_0_63 (by decide) (Nat.le_of_ble_eq_true rfl) rfl rfl (by decide) (by decide) hsz0 hsz1 hsz1 ?_
  refine r_vret (pc := 212) dX0_copyFrom_212 rfl ?_
  refine congrArg (fun z => ((none, z) : Option cr_AV × cr_M)) ?_
  funext q i
  rcases q with _ | _ | _ | _ | _ | _ | _ | _ | _ | _ | _ | _ | _ | q <;> simp [c_cpy, va_up, va_cpy, cr_up, upd, hcl]
