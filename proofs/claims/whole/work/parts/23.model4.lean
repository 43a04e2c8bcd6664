set_option maxHeartbeats 1000000 in
theorem lp_X5_helper {hn : Nat} {N : cr_M} {b : Int32} (hsz : N 0 4 = nI hn) (h10 : hn < 10) : ∀ (n j : Nat) (Mc : cr_M), j + n = 4 → (Mc = n_hg hn j b N) → cr_Ev Y_X5_helper 36 [(2, .inl (nI j)), (0, .inr (.inr 0)), (1, .inl b)] [] Mc (some (.inl (nI hn)), n_hadd hn b N) := by
  intro n
  induction n with
  | zero =>
    intro j Mc hj hM
    subst hM
    refine e_iload_n (pc := 36) dX5_helper_36 rfl ?_
    refine e_iconst (pc := 37) (v := 4) dX5_helper_37 (by decide) ?_
    refine e_icmp_ge (pc := 38) (tgt := 67) dX5_helper_38 (by decide) (fun hc_38 => ?_) (fun hc_38 => ?_)
    · refine e_aload_n (pc := 67) dX5_helper_67 rfl ?_
      refine e_getA (pc := 68) dX5_helper_68 f_5_29 rfl rfl ?_
      refine e_aload_n (pc := 71) dX5_helper_71 rfl ?_
      refine e_getIv (pc := 72) (nI hn) dX5_helper_72 f_5_124 rfl rfl hsz ?_
      refine e_aload_n (pc := 75) dX5_helper_75 rfl ?_
      refine e_getI (pc := 76) dX5_helper_76 f_5_127 rfl rfl ?_
      first | refine e_iastN (pc := 79) dX5_helper_79 rfl (by omega) (by decide) ?_ | refine e_iast (pc := 79) dX5_helper_79 rfl (by assumption) ?_
      refine e_aload_n (pc := 80) dX5_helper_80 rfl ?_
      refine e_dup_a (pc := 81) dX5_helper_81 ?_
      refine e_getIv (pc := 82) (nI hn) dX5_helper_82 f_5_124 rfl rfl hsz ?_
      refine e_iconst (pc := 85) (v := 1) dX5_helper_85 (by decide) ?_
      refine e_iadd (pc := 86) dX5_helper_86 ?_
      refine e_put (pc := 87) dX5_helper_87 f_5_124 p_5_4 rfl rfl ?_
      refine e_aload_n (pc := 90) dX5_helper_90 rfl ?_
      refine e_getI (pc := 91) dX5_helper_91 f_5_124 rfl rfl ?_
      refine e_iconst (pc := 94) (v := 1) dX5_helper_94 (by decide) ?_
      refine e_isub (pc := 95) dX5_helper_95 ?_
      refine r_iret (pc := 96) dX5_helper_96 rfl ?_
      rw [show j = 4 by omega]
      exact rt_i (by show nI hn = nI hn + 1 - 1; rw [nI_1, nI_pred])
    · exact absurd (show (4 : Int32) ≤ nI j by rw [show (4 : Int32) = nI 4 from rfl]; exact nI_le (by omega) (by omega)) (by assumption)
  | succ n ih =>
    intro j Mc hj hM
    subst hM
    refine e_iload_n (pc := 36) dX5_helper_36 rfl ?_
    refine e_iconst (pc := 37) (v := 4) dX5_helper_37 (by decide) ?_
    refine e_icmp_ge (pc := 38) (tgt := 67) dX5_helper_38 (by decide) (fun hc_38 => ?_) (fun hc_38 => ?_)
    · exact absurd (show (4 : Int32) ≤ nI j by assumption) (by rw [show (4 : Int32) = nI 4 from rfl]; exact nI_ge (by omega) (by omega))
    · refine e_aload_n (pc := 41) dX5_helper_41 rfl ?_
      refine e_getA (pc := 42) dX5_helper_42 f_5_23 rfl rfl ?_
      refine e_iconst (pc := 45) (v := 4) dX5_helper_45 (by decide) ?_
      refine e_aload_n (pc := 46) dX5_helper_46 rfl ?_
      refine e_getIv (pc := 47) (nI hn) dX5_helper_47 f_5_124 rfl rfl hsz ?_
      refine e_imul (pc := 50) dX5_helper_50 ?_
      refine e_iload_n (pc := 51) dX5_helper_51 rfl ?_
      refine e_iadd (pc := 52) dX5_helper_52 ?_
      rw [show (4 : Int32) * nI hn + nI j = nI (4 * hn + j) by rw [show (4 : Int32) = nI 4 from rfl, pk_mul, nI_add]]
      refine e_iload_n (pc := 53) dX5_helper_53 rfl ?_
      refine e_iconst (pc := 54) (v := 2) dX5_helper_54 (by decide) ?_
      refine e_iload_n (pc := 55) dX5_helper_55 rfl ?_
      refine e_imul (pc := 56) dX5_helper_56 ?_
      refine e_ishr (pc := 57) dX5_helper_57 ?_
      refine e_iconst (pc := 58) (v := 3) dX5_helper_58 (by decide) ?_
      refine e_iand (pc := 59) dX5_helper_59 ?_
      first | refine e_iastN (pc := 60) dX5_helper_60 rfl (by omega) (by decide) ?_ | refine e_iast (pc := 60) dX5_helper_60 rfl (by assumption) ?_
      first | refine e_iinc1 (pc := 61) dX5_helper_61 rfl (by decide) ?_ | refine e_iincp (pc := 61) dX5_helper_61 rfl (by decide) ?_
      refine e_goto (pc := 64) (tgt := 36) dX5_helper_64 (by decide) ?_
      exact e_wk (ih (j + 1) _ (by omega) (by clear ih; funext q i; simp only [cr_rd, n_hg]; grind)) ⟨rfl, rfl, rfl, trivial⟩
set_option maxHeartbeats 1000000 in
theorem ev_X5_helper (N : cr_M) {hn : Nat} (b : Int32) (hsz : N 0 4 = nI hn) (h10 : hn ≤ 10) : cr_EvM Y_X5_helper [.inr (.inr 0), .inl b] N (some (.inl (m_helper hn N b).1), (m_helper hn N b).2) := by
  have hten : N 0 4 = 10 ↔ hn = 10 := by rw [hsz, show (10 : Int32) = nI 10 from rfl, nI_eq (by omega) (by omega)]
  refine e_iload_n (pc := 0) dX5_helper_0 rfl ?_
  refine e_if_ge (pc := 1) (tgt := 11) dX5_helper_1 (by decide) (fun hc_1 => ?_) (fun hc_1 => ?_)
  · refine e_iload_n (pc := 11) dX5_helper_11 rfl ?_
    refine e_sipush (pc := 12) (v := 255) dX5_helper_12 (by decide) ?_
    refine e_icmp_gt (pc := 15) (tgt := 27) dX5_helper_15 (by decide) (fun hc_15 => ?_) (fun hc_15 => ?_)
    · refine e_aload_n (pc := 27) dX5_helper_27 rfl ?_
      refine e_bipush (pc := 28) (v := (-6)) dX5_helper_28 (by decide) ?_
      refine e_self1i (pc := 30) dX5_helper_30 cs_X5_helper_120 cv_X5_refuse rc_X5_refuse rfl (by decide) (Nat.le_of_ble_eq_true rfl) (ev_X5_refuse _ (k := 6) (by decide) (by decide)) ?_
      refine r_iret (pc := 33) dX5_helper_33 rfl ?_
      unfold m_helper
      repeat (first | rw [if_pos (by grind)] | rw [if_neg (by grind)])
      try rfl
    · refine e_aload_n (pc := 18) dX5_helper_18 rfl ?_
      refine e_getI (pc := 19) dX5_helper_19 f_5_124 rfl rfl ?_
      refine e_bipush (pc := 22) (v := 10) dX5_helper_22 (by decide) ?_
      refine e_icmp_ne (pc := 24) (tgt := 34) dX5_helper_24 (by decide) (fun hc_24 => ?_) (fun hc_24 => ?_)
      · refine e_iconst (pc := 34) (v := 0) dX5_helper_34 (by decide) ?_
        refine e_istore_n (pc := 35) dX5_helper_35 (by decide) ?_
        rw [show m_helper hn N b = (nI hn, n_hadd hn b N) by unfold m_helper; rw [if_neg (by grind), if_neg (by grind)]]
        exact e_wk (lp_X5_helper hsz (by grind) 4 0 _ (by omega) (by funext q i; simp only [n_hg]; grind)) ⟨rfl, rfl, rfl, trivial⟩
      · refine e_aload_n (pc := 27) dX5_helper_27 rfl ?_
        refine e_bipush (pc := 28) (v := (-6)) dX5_helper_28 (by decide) ?_
        refine e_self1i (pc := 30) dX5_helper_30 cs_X5_helper_120 cv_X5_refuse rc_X5_refuse rfl (by decide) (Nat.le_of_ble_eq_true rfl) (ev_X5_refuse _ (k := 6) (by decide) (by decide)) ?_
        refine r_iret (pc := 33) dX5_helper_33 rfl ?_
        unfold m_helper
        repeat (first | rw [if_pos (by grind)] | rw [if_neg (by grind)])
        try rfl
  · refine e_aload_n (pc := 4) dX5_helper_4 rfl ?_
    refine e_bipush (pc := 5) (v := (-4)) dX5_helper_5 (by decide) ?_
    refine e_self1i (pc := 7) dX5_helper_7 cs_X5_helper_120 cv_X5_refuse rc_X5_refuse rfl (by decide) (Nat.le_of_ble_eq_true rfl) (ev_X5_refuse _ (k := 4) (by decide) (by decide)) ?_
    refine r_iret (pc := 10) dX5_helper_10 rfl ?_
    unfold m_helper
    repeat (first | rw [if_pos (by grind)] | rw [if_neg (by grind)])
    try rfl
set_option maxHeartbeats 1000000 in
theorem ev_X5_grade {hn : Nat} {N : cr_M} {k s : Nat} (g : Int32) (hsz : N 0 4 = nI hn) (h10 : hn ≤ 10) (hk : k < hn) (hs : s < 4) : cr_EvM Y_X5_grade [.inr (.inr 0), .inl (nI k), .inl (nI s), .inl g] N (some (.inl (m_grade N k s g).1), (m_grade N k s g).2) := by
  refine e_iload_n (pc := 0) dX5_grade_0 rfl ?_
  refine e_aload_n (pc := 1) dX5_grade_1 rfl ?_
  refine e_getI (pc := 2) dX5_grade_2 f_5_124 rfl rfl ?_
  refine e_stat2i (pc := 5) dX5_grade_5 cs_X5_grade_130 st_X5_isIn rfl (by decide) (Nat.le_of_ble_eq_true rfl) (ev_X5_isIn _ _ _) ?_
  refine e_if_eq (pc := 8) (tgt := 19) dX5_grade_8 (by decide) (fun hc_8 => ?_) (fun hc_8 => ?_)
  · have q1 : 0 ≤ nI s ∧ nI s < 4 := cr_ix_in (n := 4) hs (by decide)
    have q2 := cr_ix_in hk (by omega)
    rw [← hsz] at q2
    exfalso
    grind [bI_eq0]
  · refine e_iload_n (pc := 11) dX5_grade_11 rfl ?_
    refine e_iconst (pc := 12) (v := 4) dX5_grade_12 (by decide) ?_
    refine e_stat2i (pc := 13) dX5_grade_13 cs_X5_grade_130 st_X5_isIn rfl (by decide) (Nat.le_of_ble_eq_true rfl) (ev_X5_isIn _ _ _) ?_
    refine e_if_ne (pc := 16) (tgt := 25) dX5_grade_16 (by decide) (fun hc_16 => ?_) (fun hc_16 => ?_)
    · refine e_iload_n (pc := 25) dX5_grade_25 rfl ?_
      refine e_if_ge (pc := 26) (tgt := 36) dX5_grade_26 (by decide) (fun hc_26 => ?_) (fun hc_26 => ?_)
      · refine e_iload_n (pc := 36) dX5_grade_36 rfl ?_
        refine e_iconst (pc := 37) (v := 3) dX5_grade_37 (by decide) ?_
        refine e_icmp_le (pc := 38) (tgt := 48) dX5_grade_38 (by decide) (fun hc_38 => ?_) (fun hc_38 => ?_)
        · refine e_aload_n (pc := 48) dX5_grade_48 rfl ?_
          refine e_iload_n (pc := 49) dX5_grade_49 rfl ?_
          refine e_iload_n (pc := 50) dX5_grade_50 rfl ?_
          refine e_self2i (pc := 51) dX5_grade_51 cs_X5_grade_134 cv_X5_gradeOf rc_X5_gradeOf rfl (by decide) (Nat.le_of_ble_eq_true rfl) (ev_X5_gradeOf _ (by omega) hs) ?_
          refine e_istore (pc := 54) dX5_grade_54 (by decide) ?_
          refine e_aload_n (pc := 56) dX5_grade_56 rfl ?_
          refine e_getA (pc := 57) dX5_grade_57 f_5_23 rfl rfl ?_
          refine e_iconst (pc := 60) (v := 4) dX5_grade_60 (by decide) ?_
          refine e_iload_n (pc := 61) dX5_grade_61 rfl ?_
          refine e_imul (pc := 62) dX5_grade_62 ?_
          refine e_iload_n (pc := 63) dX5_grade_63 rfl ?_
          refine e_iadd (pc := 64) dX5_grade_64 ?_
          rw [show (4 : Int32) * nI k + nI s = nI (4 * k + s) by rw [show (4 : Int32) = nI 4 from rfl, pk_mul, nI_add]]
          refine e_iload_n (pc := 65) dX5_grade_65 rfl ?_
          first | refine e_iastN (pc := 66) dX5_grade_66 rfl (by omega) (by decide) ?_ | refine e_iast (pc := 66) dX5_grade_66 rfl (by assumption) ?_
          refine e_iload (pc := 67) dX5_grade_67 rfl ?_
          refine r_iret (pc := 69) dX5_grade_69 rfl ?_
          unfold m_grade
          repeat (first | rw [if_pos (by grind)] | rw [if_neg (by grind)])
          try rfl
        · refine e_aload_n (pc := 41) dX5_grade_41 rfl ?_
          refine e_bipush (pc := 42) (v := (-6)) dX5_grade_42 (by decide) ?_
          refine e_self1i (pc := 44) dX5_grade_44 cs_X5_grade_120 cv_X5_refuse rc_X5_refuse rfl (by decide) (Nat.le_of_ble_eq_true rfl) (ev_X5_refuse _ (k := 6) (by decide) (by decide)) ?_
          refine r_iret (pc := 47) dX5_grade_47 rfl ?_
          unfold m_grade
          repeat (first | rw [if_pos (by grind)] | rw [if_neg (by grind)])
          try rfl
      · refine e_aload_n (pc := 29) dX5_grade_29 rfl ?_
        refine e_bipush (pc := 30) (v := (-4)) dX5_grade_30 (by decide) ?_
        refine e_self1i (pc := 32) dX5_grade_32 cs_X5_grade_120 cv_X5_refuse rc_X5_refuse rfl (by decide) (Nat.le_of_ble_eq_true rfl) (ev_X5_refuse _ (k := 4) (by decide) (by decide)) ?_
        refine r_iret (pc := 35) dX5_grade_35 rfl ?_
        unfold m_grade
        repeat (first | rw [if_pos (by grind)] | rw [if_neg (by grind)])
        try rfl
    · have q1 : 0 ≤ nI s ∧ nI s < 4 := cr_ix_in (n := 4) hs (by decide)
      have q2 := cr_ix_in hk (by omega)
      rw [← hsz] at q2
      exfalso
      grind [bI_eq0]
set_option maxHeartbeats 1000000 in
theorem ev_X5_grade_n (N : cr_M) {hn : Nat} (h s g : Int32) (hsz : N 0 4 = nI hn) (hh : ¬ (0 ≤ h ∧ h < nI hn) ∨ ¬ (0 ≤ s ∧ s < 4)) : cr_EvM Y_X5_grade [.inr (.inr 0), .inl h, .inl s, .inl g] N (some (.inl (-1)), n_ref N 1) := by
  refine e_iload_n (pc := 0) dX5_grade_0 rfl ?_
  refine e_aload_n (pc := 1) dX5_grade_1 rfl ?_
  refine e_getI (pc := 2) dX5_grade_2 f_5_124 rfl rfl ?_
  refine e_stat2i (pc := 5) dX5_grade_5 cs_X5_grade_130 st_X5_isIn rfl (by decide) (Nat.le_of_ble_eq_true rfl) (ev_X5_isIn _ _ _) ?_
  refine e_if_eq (pc := 8) (tgt := 19) dX5_grade_8 (by decide) (fun hc_8 => ?_) (fun hc_8 => ?_)
  · refine e_aload_n (pc := 19) dX5_grade_19 rfl ?_
    refine e_iconst (pc := 20) (v := (-1)) dX5_grade_20 (by decide) ?_
    refine e_self1i (pc := 21) dX5_grade_21 cs_X5_grade_120 cv_X5_refuse rc_X5_refuse rfl (by decide) (Nat.le_of_ble_eq_true rfl) (ev_X5_refuse _ (k := 1) (by decide) (by decide)) ?_
    refine r_iret (pc := 24) dX5_grade_24 rfl ?_
    rfl
  · refine e_iload_n (pc := 11) dX5_grade_11 rfl ?_
    refine e_iconst (pc := 12) (v := 4) dX5_grade_12 (by decide) ?_
    refine e_stat2i (pc := 13) dX5_grade_13 cs_X5_grade_130 st_X5_isIn rfl (by decide) (Nat.le_of_ble_eq_true rfl) (ev_X5_isIn _ _ _) ?_
    refine e_if_ne (pc := 16) (tgt := 25) dX5_grade_16 (by decide) (fun hc_16 => ?_) (fun hc_16 => ?_)
    · rw [hsz] at hc_8
      grind [bI_eq0]
    · refine e_aload_n (pc := 19) dX5_grade_19 rfl ?_
      refine e_iconst (pc := 20) (v := (-1)) dX5_grade_20 (by decide) ?_
      refine e_self1i (pc := 21) dX5_grade_21 cs_X5_grade_120 cv_X5_refuse rc_X5_refuse rfl (by decide) (Nat.le_of_ble_eq_true rfl) (ev_X5_refuse _ (k := 1) (by decide) (by decide)) ?_
      refine r_iret (pc := 24) dX5_grade_24 rfl ?_
      rfl
set_option maxHeartbeats 1000000 in
theorem ev_X5_duty {hn : Nat} {N : cr_M} {k : Nat} (hsz : N 0 4 = nI hn) (h10 : hn ≤ 10) (hk : k < hn) : cr_EvM Y_X5_duty [.inr (.inr 0), .inl (nI k)] N (some (.inl (m_duty N k).1), (m_duty N k).2) := by
  refine e_iload_n (pc := 0) dX5_duty_0 rfl ?_
  refine e_aload_n (pc := 1) dX5_duty_1 rfl ?_
  refine e_getI (pc := 2) dX5_duty_2 f_5_124 rfl rfl ?_
  refine e_stat2i (pc := 5) dX5_duty_5 cs_X5_duty_130 st_X5_isIn rfl (by decide) (Nat.le_of_ble_eq_true rfl) (ev_X5_isIn _ _ _) ?_
  refine e_if_ne (pc := 8) (tgt := 17) dX5_duty_8 (by decide) (fun hc_8 => ?_) (fun hc_8 => ?_)
  · refine e_aload_n (pc := 17) dX5_duty_17 rfl ?_
    refine e_getA (pc := 18) dX5_duty_18 f_5_26 rfl rfl ?_
    refine e_iload_n (pc := 21) dX5_duty_21 rfl ?_
    first | refine e_ialdN (pc := 22) dX5_duty_22 rfl (by omega) (by decide) ?_ | refine e_iald (pc := 22) dX5_duty_22 rfl (by assumption) ?_
    refine e_if_eq (pc := 23) (tgt := 33) dX5_duty_23 (by decide) (fun hc_23 => ?_) (fun hc_23 => ?_)
    · refine e_aload_n (pc := 33) dX5_duty_33 rfl ?_
      refine e_iload_n (pc := 34) dX5_duty_34 rfl ?_
      refine e_iconst (pc := 35) (v := 1) dX5_duty_35 (by decide) ?_
      refine e_self2v (pc := 36) dX5_duty_36 cs_X5_duty_138 cv_X5_becomes rc_X5_becomes rfl (by decide) (Nat.le_of_ble_eq_true rfl) (ev_X5_becomes _ _ (by omega)) ?_
      refine e_iconst (pc := 39) (v := 1) dX5_duty_39 (by decide) ?_
      refine r_iret (pc := 40) dX5_duty_40 rfl ?_
      unfold m_duty
      repeat (first | rw [if_pos (by grind)] | rw [if_neg (by grind)])
      try rfl
    · refine e_aload_n (pc := 26) dX5_duty_26 rfl ?_
      refine e_bipush (pc := 27) (v := (-2)) dX5_duty_27 (by decide) ?_
      refine e_self1i (pc := 29) dX5_duty_29 cs_X5_duty_120 cv_X5_refuse rc_X5_refuse rfl (by decide) (Nat.le_of_ble_eq_true rfl) (ev_X5_refuse _ (k := 2) (by decide) (by decide)) ?_
      refine r_iret (pc := 32) dX5_duty_32 rfl ?_
      unfold m_duty
      repeat (first | rw [if_pos (by grind)] | rw [if_neg (by grind)])
      try rfl
  · exact absurd hc_8 (by rw [bI_t (by rw [hsz]; exact cr_ix_in hk (by omega))]; decide)
set_option maxHeartbeats 1000000 in
theorem ev_X5_duty_n (N : cr_M) {hn : Nat} (h : Int32) (hsz : N 0 4 = nI hn) (hh : ¬ (0 ≤ h ∧ h < nI hn)) : cr_EvM Y_X5_duty [.inr (.inr 0), .inl h] N (some (.inl (-1)), n_ref N 1) := by
  refine e_iload_n (pc := 0) dX5_duty_0 rfl ?_
  refine e_aload_n (pc := 1) dX5_duty_1 rfl ?_
  refine e_getI (pc := 2) dX5_duty_2 f_5_124 rfl rfl ?_
  refine e_stat2i (pc := 5) dX5_duty_5 cs_X5_duty_130 st_X5_isIn rfl (by decide) (Nat.le_of_ble_eq_true rfl) (ev_X5_isIn _ _ _) ?_
  refine e_if_ne (pc := 8) (tgt := 17) dX5_duty_8 (by decide) (fun hc_8 => ?_) (fun hc_8 => ?_)
  · exact absurd (bI_f (by rw [hsz]; exact hh)) hc_8
  · refine e_aload_n (pc := 11) dX5_duty_11 rfl ?_
    refine e_iconst (pc := 12) (v := (-1)) dX5_duty_12 (by decide) ?_
    refine e_self1i (pc := 13) dX5_duty_13 cs_X5_duty_120 cv_X5_refuse rc_X5_refuse rfl (by decide) (Nat.le_of_ble_eq_true rfl) (ev_X5_refuse _ (k := 1) (by decide) (by decide)) ?_
    refine r_iret (pc := 16) dX5_duty_16 rfl ?_
    rfl
set_option maxHeartbeats 1000000 in
theorem ev_X5_out {hn : Nat} {N : cr_M} {k : Nat} (hsz : N 0 4 = nI hn) (h10 : hn ≤ 10) (hk : k < hn) : cr_EvM Y_X5_out [.inr (.inr 0), .inl (nI k)] N (some (.inl (m_out N k).1), (m_out N k).2) := by
  refine e_iload_n (pc := 0) dX5_out_0 rfl ?_
  refine e_aload_n (pc := 1) dX5_out_1 rfl ?_
  refine e_getI (pc := 2) dX5_out_2 f_5_124 rfl rfl ?_
  refine e_stat2i (pc := 5) dX5_out_5 cs_X5_out_130 st_X5_isIn rfl (by decide) (Nat.le_of_ble_eq_true rfl) (ev_X5_isIn _ _ _) ?_
  refine e_if_ne (pc := 8) (tgt := 17) dX5_out_8 (by decide) (fun hc_8 => ?_) (fun hc_8 => ?_)
  · refine e_aload_n (pc := 17) dX5_out_17 rfl ?_
    refine e_getA (pc := 18) dX5_out_18 f_5_26 rfl rfl ?_
    refine e_iload_n (pc := 21) dX5_out_21 rfl ?_
    first | refine e_ialdN (pc := 22) dX5_out_22 rfl (by omega) (by decide) ?_ | refine e_iald (pc := 22) dX5_out_22 rfl (by assumption) ?_
    refine e_iconst (pc := 23) (v := 1) dX5_out_23 (by decide) ?_
    refine e_icmp_eq (pc := 24) (tgt := 44) dX5_out_24 (by decide) (fun hc_24 => ?_) (fun hc_24 => ?_)
    · refine e_aload_n (pc := 44) dX5_out_44 rfl ?_
      refine e_iload_n (pc := 45) dX5_out_45 rfl ?_
      refine e_iconst (pc := 46) (v := 0) dX5_out_46 (by decide) ?_
      refine e_self2v (pc := 47) dX5_out_47 cs_X5_out_138 cv_X5_becomes rc_X5_becomes rfl (by decide) (Nat.le_of_ble_eq_true rfl) (ev_X5_becomes _ _ (by omega)) ?_
      refine e_iconst (pc := 50) (v := 1) dX5_out_50 (by decide) ?_
      refine r_iret (pc := 51) dX5_out_51 rfl ?_
      unfold m_out
      repeat (first | rw [if_pos (by grind)] | rw [if_neg (by grind)])
      try rfl
    · refine e_aload_n (pc := 27) dX5_out_27 rfl ?_
      refine e_getA (pc := 28) dX5_out_28 f_5_26 rfl rfl ?_
      refine e_iload_n (pc := 31) dX5_out_31 rfl ?_
      first | refine e_ialdN (pc := 32) dX5_out_32 rfl (by omega) (by decide) ?_ | refine e_iald (pc := 32) dX5_out_32 rfl (by assumption) ?_
      refine e_iconst (pc := 33) (v := 3) dX5_out_33 (by decide) ?_
      refine e_icmp_eq (pc := 34) (tgt := 44) dX5_out_34 (by decide) (fun hc_34 => ?_) (fun hc_34 => ?_)
      · refine e_aload_n (pc := 44) dX5_out_44 rfl ?_
        refine e_iload_n (pc := 45) dX5_out_45 rfl ?_
        refine e_iconst (pc := 46) (v := 0) dX5_out_46 (by decide) ?_
        refine e_self2v (pc := 47) dX5_out_47 cs_X5_out_138 cv_X5_becomes rc_X5_becomes rfl (by decide) (Nat.le_of_ble_eq_true rfl) (ev_X5_becomes _ _ (by omega)) ?_
        refine e_iconst (pc := 50) (v := 1) dX5_out_50 (by decide) ?_
        refine r_iret (pc := 51) dX5_out_51 rfl ?_
        unfold m_out
        repeat (first | rw [if_pos (by grind)] | rw [if_neg (by grind)])
        try rfl
      · refine e_aload_n (pc := 37) dX5_out_37 rfl ?_
        refine e_bipush (pc := 38) (v := (-2)) dX5_out_38 (by decide) ?_
        refine e_self1i (pc := 40) dX5_out_40 cs_X5_out_120 cv_X5_refuse rc_X5_refuse rfl (by decide) (Nat.le_of_ble_eq_true rfl) (ev_X5_refuse _ (k := 2) (by decide) (by decide)) ?_
        refine r_iret (pc := 43) dX5_out_43 rfl ?_
        unfold m_out
        repeat (first | rw [if_pos (by grind)] | rw [if_neg (by grind)])
        try rfl
  · exact absurd hc_8 (by rw [bI_t (by rw [hsz]; exact cr_ix_in hk (by omega))]; decide)
set_option maxHeartbeats 1000000 in
theorem ev_X5_out_n (N : cr_M) {hn : Nat} (h : Int32) (hsz : N 0 4 = nI hn) (hh : ¬ (0 ≤ h ∧ h < nI hn)) : cr_EvM Y_X5_out [.inr (.inr 0), .inl h] N (some (.inl (-1)), n_ref N 1) := by
  refine e_iload_n (pc := 0) dX5_out_0 rfl ?_
  refine e_aload_n (pc := 1) dX5_out_1 rfl ?_
  refine e_getI (pc := 2) dX5_out_2 f_5_124 rfl rfl ?_
  refine e_stat2i (pc := 5) dX5_out_5 cs_X5_out_130 st_X5_isIn rfl (by decide) (Nat.le_of_ble_eq_true rfl) (ev_X5_isIn _ _ _) ?_
  refine e_if_ne (pc := 8) (tgt := 17) dX5_out_8 (by decide) (fun hc_8 => ?_) (fun hc_8 => ?_)
  · exact absurd (bI_f (by rw [hsz]; exact hh)) hc_8
  · refine e_aload_n (pc := 11) dX5_out_11 rfl ?_
    refine e_iconst (pc := 12) (v := (-1)) dX5_out_12 (by decide) ?_
    refine e_self1i (pc := 13) dX5_out_13 cs_X5_out_120 cv_X5_refuse rc_X5_refuse rfl (by decide) (Nat.le_of_ble_eq_true rfl) (ev_X5_refuse _ (k := 1) (by decide) (by decide)) ?_
    refine r_iret (pc := 16) dX5_out_16 rfl ?_
    rfl
set_option maxHeartbeats 1000000 in
theorem ev_X5_pause {hn : Nat} {N : cr_M} {k : Nat} (n : Int32) (hsz : N 0 4 = nI hn) (h10 : hn ≤ 10) (hk : k < hn) : cr_EvM Y_X5_pause [.inr (.inr 0), .inl (nI k), .inl n] N (some (.inl (m_pause N k n).1), (m_pause N k n).2) := by
  refine e_iload_n (pc := 0) dX5_pause_0 rfl ?_
  refine e_aload_n (pc := 1) dX5_pause_1 rfl ?_
  refine e_getI (pc := 2) dX5_pause_2 f_5_124 rfl rfl ?_
  refine e_stat2i (pc := 5) dX5_pause_5 cs_X5_pause_130 st_X5_isIn rfl (by decide) (Nat.le_of_ble_eq_true rfl) (ev_X5_isIn _ _ _) ?_
  refine e_if_ne (pc := 8) (tgt := 17) dX5_pause_8 (by decide) (fun hc_8 => ?_) (fun hc_8 => ?_)
  · refine e_aload_n (pc := 17) dX5_pause_17 rfl ?_
    refine e_getA (pc := 18) dX5_pause_18 f_5_26 rfl rfl ?_
    refine e_iload_n (pc := 21) dX5_pause_21 rfl ?_
    first | refine e_ialdN (pc := 22) dX5_pause_22 rfl (by omega) (by decide) ?_ | refine e_iald (pc := 22) dX5_pause_22 rfl (by assumption) ?_
    refine e_iconst (pc := 23) (v := 1) dX5_pause_23 (by decide) ?_
    refine e_icmp_eq (pc := 24) (tgt := 34) dX5_pause_24 (by decide) (fun hc_24 => ?_) (fun hc_24 => ?_)
    · refine e_iload_n (pc := 34) dX5_pause_34 rfl ?_
      refine e_iconst (pc := 35) (v := 1) dX5_pause_35 (by decide) ?_
      refine e_icmp_ge (pc := 36) (tgt := 46) dX5_pause_36 (by decide) (fun hc_36 => ?_) (fun hc_36 => ?_)
      · refine e_iload_n (pc := 46) dX5_pause_46 rfl ?_
        refine e_sipush (pc := 47) (v := 5000) dX5_pause_47 (by decide) ?_
        refine e_icmp_le (pc := 50) (tgt := 60) dX5_pause_50 (by decide) (fun hc_50 => ?_) (fun hc_50 => ?_)
        · refine e_aload_n (pc := 60) dX5_pause_60 rfl ?_
          refine e_iload_n (pc := 61) dX5_pause_61 rfl ?_
          refine e_iconst (pc := 62) (v := 3) dX5_pause_62 (by decide) ?_
          refine e_self2v (pc := 63) dX5_pause_63 cs_X5_pause_138 cv_X5_becomes rc_X5_becomes rfl (by decide) (Nat.le_of_ble_eq_true rfl) (ev_X5_becomes _ _ (by omega)) ?_
          refine e_aload_n (pc := 66) dX5_pause_66 rfl ?_
          refine e_getA (pc := 67) dX5_pause_67 f_5_32 rfl rfl ?_
          refine e_iload_n (pc := 70) dX5_pause_70 rfl ?_
          refine e_aload_n (pc := 71) dX5_pause_71 rfl ?_
          refine e_getI (pc := 72) dX5_pause_72 f_5_127 rfl rfl ?_
          refine e_iload_n (pc := 75) dX5_pause_75 rfl ?_
          refine e_iadd (pc := 76) dX5_pause_76 ?_
          first | refine e_iastN (pc := 77) dX5_pause_77 rfl (by omega) (by decide) ?_ | refine e_iast (pc := 77) dX5_pause_77 rfl (by assumption) ?_
          refine e_aload_n (pc := 78) dX5_pause_78 rfl ?_
          refine e_getA (pc := 79) dX5_pause_79 f_5_32 rfl rfl ?_
          refine e_iload_n (pc := 82) dX5_pause_82 rfl ?_
          first | refine e_ialdN (pc := 83) dX5_pause_83 rfl (by omega) (by decide) ?_ | refine e_iald (pc := 83) dX5_pause_83 rfl (by assumption) ?_
          refine r_iret (pc := 84) dX5_pause_84 rfl ?_
          unfold m_pause
          repeat (first | rw [if_pos (by grind)] | rw [if_neg (by grind)])
          try simp [cr_rd, n_bec]
        · refine e_aload_n (pc := 53) dX5_pause_53 rfl ?_
          refine e_bipush (pc := 54) (v := (-6)) dX5_pause_54 (by decide) ?_
          refine e_self1i (pc := 56) dX5_pause_56 cs_X5_pause_120 cv_X5_refuse rc_X5_refuse rfl (by decide) (Nat.le_of_ble_eq_true rfl) (ev_X5_refuse _ (k := 6) (by decide) (by decide)) ?_
          refine r_iret (pc := 59) dX5_pause_59 rfl ?_
          unfold m_pause
          repeat (first | rw [if_pos (by grind)] | rw [if_neg (by grind)])
          try simp [cr_rd, n_bec]
      · refine e_aload_n (pc := 39) dX5_pause_39 rfl ?_
        refine e_bipush (pc := 40) (v := (-4)) dX5_pause_40 (by decide) ?_
        refine e_self1i (pc := 42) dX5_pause_42 cs_X5_pause_120 cv_X5_refuse rc_X5_refuse rfl (by decide) (Nat.le_of_ble_eq_true rfl) (ev_X5_refuse _ (k := 4) (by decide) (by decide)) ?_
        refine r_iret (pc := 45) dX5_pause_45 rfl ?_
        unfold m_pause
        repeat (first | rw [if_pos (by grind)] | rw [if_neg (by grind)])
        try simp [cr_rd, n_bec]
    · refine e_aload_n (pc := 27) dX5_pause_27 rfl ?_
      refine e_bipush (pc := 28) (v := (-2)) dX5_pause_28 (by decide) ?_
      refine e_self1i (pc := 30) dX5_pause_30 cs_X5_pause_120 cv_X5_refuse rc_X5_refuse rfl (by decide) (Nat.le_of_ble_eq_true rfl) (ev_X5_refuse _ (k := 2) (by decide) (by decide)) ?_
      refine r_iret (pc := 33) dX5_pause_33 rfl ?_
      unfold m_pause
      repeat (first | rw [if_pos (by grind)] | rw [if_neg (by grind)])
      try simp [cr_rd, n_bec]
  · exact absurd hc_8 (by rw [bI_t (by rw [hsz]; exact cr_ix_in hk (by omega))]; decide)
set_option maxHeartbeats 1000000 in
theorem ev_X5_pause_n (N : cr_M) {hn : Nat} (h n : Int32) (hsz : N 0 4 = nI hn) (hh : ¬ (0 ≤ h ∧ h < nI hn)) : cr_EvM Y_X5_pause [.inr (.inr 0), .inl h, .inl n] N (some (.inl (-1)), n_ref N 1) := by
  refine e_iload_n (pc := 0) dX5_pause_0 rfl ?_
  refine e_aload_n (pc := 1) dX5_pause_1 rfl ?_
  refine e_getI (pc := 2) dX5_pause_2 f_5_124 rfl rfl ?_
  refine e_stat2i (pc := 5) dX5_pause_5 cs_X5_pause_130 st_X5_isIn rfl (by decide) (Nat.le_of_ble_eq_true rfl) (ev_X5_isIn _ _ _) ?_
  refine e_if_ne (pc := 8) (tgt := 17) dX5_pause_8 (by decide) (fun hc_8 => ?_) (fun hc_8 => ?_)
  · exact absurd (bI_f (by rw [hsz]; exact hh)) hc_8
  · refine e_aload_n (pc := 11) dX5_pause_11 rfl ?_
    refine e_iconst (pc := 12) (v := (-1)) dX5_pause_12 (by decide) ?_
    refine e_self1i (pc := 13) dX5_pause_13 cs_X5_pause_120 cv_X5_refuse rc_X5_refuse rfl (by decide) (Nat.le_of_ble_eq_true rfl) (ev_X5_refuse _ (k := 1) (by decide) (by decide)) ?_
    refine r_iret (pc := 16) dX5_pause_16 rfl ?_
    rfl
set_option maxHeartbeats 1000000 in
theorem ev_X5_call (N : cr_M) {hn cn : Nat} (k s l p o : Int32) (hsz2 : N 0 5 = nI cn) (h200 : cn ≤ 200) : cr_EvM Y_X5_call [.inr (.inr 0), .inl k, .inl s, .inl l, .inl p, .inl o] N (some (.inl (m_call cn N k s l p o).1), (m_call cn N k s l p o).2) := by
  have h2 : nI cn = 200 ↔ cn = 200 := by rw [show (200 : Int32) = nI 200 from rfl, nI_eq (by omega) (by omega)]
  refine e_iload_n (pc := 0) dX5_call_0 rfl ?_
  refine e_iconst (pc := 1) (v := 4) dX5_call_1 (by decide) ?_
  refine e_stat2i (pc := 2) dX5_call_2 cs_X5_call_130 st_X5_isIn rfl (by decide) (Nat.le_of_ble_eq_true rfl) (ev_X5_isIn _ _ _) ?_
  refine e_if_eq (pc := 5) (tgt := 33) dX5_call_5 (by decide) (fun hc_5 => ?_) (fun hc_5 => ?_)
  · refine e_aload_n (pc := 33) dX5_call_33 rfl ?_
    refine e_iconst (pc := 34) (v := (-1)) dX5_call_34 (by decide) ?_
    refine e_self1i (pc := 35) dX5_call_35 cs_X5_call_120 cv_X5_refuse rc_X5_refuse rfl (by decide) (Nat.le_of_ble_eq_true rfl) (ev_X5_refuse _ (k := 1) (by decide) (by decide)) ?_
    refine r_iret (pc := 38) dX5_call_38 rfl ?_
    simp only [bI_eq0] at *
    unfold m_call
    repeat (first | rw [if_pos (by grind)] | rw [if_neg (by grind)])
    try (first | (exfalso; grind; done) | (unfold n_cadd; rw [if_pos (by grind)]; rfl) | (unfold n_cadd; rw [if_neg (by grind)]; rfl))
  · refine e_iload_n (pc := 8) dX5_call_8 rfl ?_
    refine e_iconst (pc := 9) (v := 4) dX5_call_9 (by decide) ?_
    refine e_stat2i (pc := 10) dX5_call_10 cs_X5_call_130 st_X5_isIn rfl (by decide) (Nat.le_of_ble_eq_true rfl) (ev_X5_isIn _ _ _) ?_
    refine e_if_eq (pc := 13) (tgt := 33) dX5_call_13 (by decide) (fun hc_13 => ?_) (fun hc_13 => ?_)
    · refine e_aload_n (pc := 33) dX5_call_33 rfl ?_
      refine e_iconst (pc := 34) (v := (-1)) dX5_call_34 (by decide) ?_
      refine e_self1i (pc := 35) dX5_call_35 cs_X5_call_120 cv_X5_refuse rc_X5_refuse rfl (by decide) (Nat.le_of_ble_eq_true rfl) (ev_X5_refuse _ (k := 1) (by decide) (by decide)) ?_
      refine r_iret (pc := 38) dX5_call_38 rfl ?_
      simp only [bI_eq0] at *
      unfold m_call
      repeat (first | rw [if_pos (by grind)] | rw [if_neg (by grind)])
      try (first | (exfalso; grind; done) | (unfold n_cadd; rw [if_pos (by grind)]; rfl) | (unfold n_cadd; rw [if_neg (by grind)]; rfl))
    · refine e_iload_n (pc := 16) dX5_call_16 rfl ?_
      refine e_iconst (pc := 17) (v := 1) dX5_call_17 (by decide) ?_
      refine e_icmp_ne (pc := 18) (tgt := 39) dX5_call_18 (by decide) (fun hc_18 => ?_) (fun hc_18 => ?_)
      · refine e_iload_n (pc := 39) dX5_call_39 rfl ?_
        refine e_iconst (pc := 40) (v := 1) dX5_call_40 (by decide) ?_
        refine e_icmp_lt (pc := 41) (tgt := 49) dX5_call_41 (by decide) (fun hc_41 => ?_) (fun hc_41 => ?_)
        · refine e_aload_n (pc := 49) dX5_call_49 rfl ?_
          refine e_bipush (pc := 50) (v := (-4)) dX5_call_50 (by decide) ?_
          refine e_self1i (pc := 52) dX5_call_52 cs_X5_call_120 cv_X5_refuse rc_X5_refuse rfl (by decide) (Nat.le_of_ble_eq_true rfl) (ev_X5_refuse _ (k := 4) (by decide) (by decide)) ?_
          refine r_iret (pc := 55) dX5_call_55 rfl ?_
          simp only [bI_eq0] at *
          unfold m_call
          repeat (first | rw [if_pos (by grind)] | rw [if_neg (by grind)])
          try (first | (exfalso; grind; done) | (unfold n_cadd; rw [if_pos (by grind)]; rfl) | (unfold n_cadd; rw [if_neg (by grind)]; rfl))
        · refine e_iload (pc := 44) dX5_call_44 rfl ?_
          refine e_if_ge (pc := 46) (tgt := 56) dX5_call_46 (by decide) (fun hc_46 => ?_) (fun hc_46 => ?_)
          · refine e_iload_n (pc := 56) dX5_call_56 rfl ?_
            refine e_sipush (pc := 57) (v := 1000) dX5_call_57 (by decide) ?_
            refine e_icmp_gt (pc := 60) (tgt := 81) dX5_call_60 (by decide) (fun hc_60 => ?_) (fun hc_60 => ?_)
            · refine e_aload_n (pc := 81) dX5_call_81 rfl ?_
              refine e_bipush (pc := 82) (v := (-6)) dX5_call_82 (by decide) ?_
              refine e_self1i (pc := 84) dX5_call_84 cs_X5_call_120 cv_X5_refuse rc_X5_refuse rfl (by decide) (Nat.le_of_ble_eq_true rfl) (ev_X5_refuse _ (k := 6) (by decide) (by decide)) ?_
              refine r_iret (pc := 87) dX5_call_87 rfl ?_
              simp only [bI_eq0] at *
              unfold m_call
              repeat (first | rw [if_pos (by grind)] | rw [if_neg (by grind)])
              try (first | (exfalso; grind; done) | (unfold n_cadd; rw [if_pos (by grind)]; rfl) | (unfold n_cadd; rw [if_neg (by grind)]; rfl))
            · refine e_iload (pc := 63) dX5_call_63 rfl ?_
              refine e_sipush (pc := 65) (v := 5000) dX5_call_65 (by decide) ?_
              refine e_icmp_gt (pc := 68) (tgt := 81) dX5_call_68 (by decide) (fun hc_68 => ?_) (fun hc_68 => ?_)
              · refine e_aload_n (pc := 81) dX5_call_81 rfl ?_
                refine e_bipush (pc := 82) (v := (-6)) dX5_call_82 (by decide) ?_
                refine e_self1i (pc := 84) dX5_call_84 cs_X5_call_120 cv_X5_refuse rc_X5_refuse rfl (by decide) (Nat.le_of_ble_eq_true rfl) (ev_X5_refuse _ (k := 6) (by decide) (by decide)) ?_
                refine r_iret (pc := 87) dX5_call_87 rfl ?_
                simp only [bI_eq0] at *
                unfold m_call
                repeat (first | rw [if_pos (by grind)] | rw [if_neg (by grind)])
                try (first | (exfalso; grind; done) | (unfold n_cadd; rw [if_pos (by grind)]; rfl) | (unfold n_cadd; rw [if_neg (by grind)]; rfl))
              · refine e_aload_n (pc := 71) dX5_call_71 rfl ?_
                refine e_getIv (pc := 72) (nI cn) dX5_call_72 f_5_142 rfl rfl hsz2 ?_
                refine e_sipush (pc := 75) (v := 200) dX5_call_75 (by decide) ?_
                refine e_icmp_ne (pc := 78) (tgt := 88) dX5_call_78 (by decide) (fun hc_78 => ?_) (fun hc_78 => ?_)
                · have hc2 : cn < 200 := by rcases Nat.lt_or_ge cn 200 with q | q; exact q; exact absurd (show nI cn = 200 by rw [show cn = 200 by omega]; rfl) hc_78
                  refine e_aload_n (pc := 88) dX5_call_88 rfl ?_
                  refine e_getIv (pc := 89) (nI cn) dX5_call_89 f_5_142 rfl rfl hsz2 ?_
                  refine e_istore (pc := 92) dX5_call_92 (by decide) ?_
                  refine e_aload_n (pc := 94) dX5_call_94 rfl ?_
                  refine e_dup_a (pc := 95) dX5_call_95 ?_
                  refine e_getIv (pc := 96) (nI cn) dX5_call_96 f_5_142 rfl rfl hsz2 ?_
                  refine e_iconst (pc := 99) (v := 1) dX5_call_99 (by decide) ?_
                  refine e_iadd (pc := 100) dX5_call_100 ?_
                  refine e_put (pc := 101) dX5_call_101 f_5_142 p_5_5 rfl rfl ?_
                  refine e_aload_n (pc := 104) dX5_call_104 rfl ?_
                  refine e_getA (pc := 105) dX5_call_105 f_5_41 rfl rfl ?_
                  refine e_iload (pc := 108) dX5_call_108 rfl ?_
                  refine e_iload_n (pc := 110) dX5_call_110 rfl ?_
                  first | refine e_iastN (pc := 111) dX5_call_111 rfl (by omega) (by decide) ?_ | refine e_iast (pc := 111) dX5_call_111 rfl (by assumption) ?_
                  refine e_aload_n (pc := 112) dX5_call_112 rfl ?_
                  refine e_getA (pc := 113) dX5_call_113 f_5_44 rfl rfl ?_
                  refine e_iload (pc := 116) dX5_call_116 rfl ?_
                  refine e_iload_n (pc := 118) dX5_call_118 rfl ?_
                  first | refine e_iastN (pc := 119) dX5_call_119 rfl (by omega) (by decide) ?_ | refine e_iast (pc := 119) dX5_call_119 rfl (by assumption) ?_
                  refine e_aload_n (pc := 120) dX5_call_120 rfl ?_
                  refine e_getA (pc := 121) dX5_call_121 f_5_47 rfl rfl ?_
                  refine e_iload (pc := 124) dX5_call_124 rfl ?_
                  refine e_iload_n (pc := 126) dX5_call_126 rfl ?_
                  first | refine e_iastN (pc := 127) dX5_call_127 rfl (by omega) (by decide) ?_ | refine e_iast (pc := 127) dX5_call_127 rfl (by assumption) ?_
                  refine e_aload_n (pc := 128) dX5_call_128 rfl ?_
                  refine e_getA (pc := 129) dX5_call_129 f_5_50 rfl rfl ?_
                  refine e_iload (pc := 132) dX5_call_132 rfl ?_
                  refine e_iload (pc := 134) dX5_call_134 rfl ?_
                  first | refine e_iastN (pc := 136) dX5_call_136 rfl (by omega) (by decide) ?_ | refine e_iast (pc := 136) dX5_call_136 rfl (by assumption) ?_
                  refine e_aload_n (pc := 137) dX5_call_137 rfl ?_
                  refine e_getA (pc := 138) dX5_call_138 f_5_53 rfl rfl ?_
                  refine e_iload (pc := 141) dX5_call_141 rfl ?_
                  refine e_aload_n (pc := 143) dX5_call_143 rfl ?_
                  refine e_getI (pc := 144) dX5_call_144 f_5_127 rfl rfl ?_
                  first | refine e_iastN (pc := 147) dX5_call_147 rfl (by omega) (by decide) ?_ | refine e_iast (pc := 147) dX5_call_147 rfl (by assumption) ?_
                  refine e_aload_n (pc := 148) dX5_call_148 rfl ?_
                  refine e_getA (pc := 149) dX5_call_149 f_5_56 rfl rfl ?_
                  refine e_iload (pc := 152) dX5_call_152 rfl ?_
                  refine e_iload_n (pc := 154) dX5_call_154 rfl ?_
                  refine e_iconst (pc := 155) (v := 1) dX5_call_155 (by decide) ?_
                  refine e_icmp_ne (pc := 156) (tgt := 164) dX5_call_156 (by decide) (fun hc_156 => ?_) (fun hc_156 => ?_)
                  · refine e_bipush (pc := 164) (v := (-9)) dX5_call_164 (by decide) ?_
                    first | refine e_iastN (pc := 166) dX5_call_166 rfl (by omega) (by decide) ?_ | refine e_iast (pc := 166) dX5_call_166 rfl (by assumption) ?_
                    refine e_aload_n (pc := 167) dX5_call_167 rfl ?_
                    refine e_getA (pc := 168) dX5_call_168 f_5_59 rfl rfl ?_
                    refine e_iload (pc := 171) dX5_call_171 rfl ?_
                    refine e_iconst (pc := 173) (v := 0) dX5_call_173 (by decide) ?_
                    first | refine e_iastN (pc := 174) dX5_call_174 rfl (by omega) (by decide) ?_ | refine e_iast (pc := 174) dX5_call_174 rfl (by assumption) ?_
                    refine e_aload_n (pc := 175) dX5_call_175 rfl ?_
                    refine e_getA (pc := 176) dX5_call_176 f_5_62 rfl rfl ?_
                    refine e_iload (pc := 179) dX5_call_179 rfl ?_
                    refine e_aload_n (pc := 181) dX5_call_181 rfl ?_
                    refine e_getI (pc := 182) dX5_call_182 f_5_127 rfl rfl ?_
                    first | refine e_iastN (pc := 185) dX5_call_185 rfl (by omega) (by decide) ?_ | refine e_iast (pc := 185) dX5_call_185 rfl (by assumption) ?_
                    refine e_aload_n (pc := 186) dX5_call_186 rfl ?_
                    refine e_getA (pc := 187) dX5_call_187 f_5_65 rfl rfl ?_
                    refine e_iload (pc := 190) dX5_call_190 rfl ?_
                    refine e_bipush (pc := 192) (v := (-9)) dX5_call_192 (by decide) ?_
                    first | refine e_iastN (pc := 194) dX5_call_194 rfl (by omega) (by decide) ?_ | refine e_iast (pc := 194) dX5_call_194 rfl (by assumption) ?_
                    refine e_aload_n (pc := 195) dX5_call_195 rfl ?_
                    refine e_getA (pc := 196) dX5_call_196 f_5_68 rfl rfl ?_
                    refine e_iload (pc := 199) dX5_call_199 rfl ?_
                    refine e_bipush (pc := 201) (v := (-9)) dX5_call_201 (by decide) ?_
                    first | refine e_iastN (pc := 203) dX5_call_203 rfl (by omega) (by decide) ?_ | refine e_iast (pc := 203) dX5_call_203 rfl (by assumption) ?_
                    refine e_aload_n (pc := 204) dX5_call_204 rfl ?_
                    refine e_getA (pc := 205) dX5_call_205 f_5_71 rfl rfl ?_
                    refine e_iload (pc := 208) dX5_call_208 rfl ?_
                    refine e_bipush (pc := 210) (v := (-9)) dX5_call_210 (by decide) ?_
                    first | refine e_iastN (pc := 212) dX5_call_212 rfl (by omega) (by decide) ?_ | refine e_iast (pc := 212) dX5_call_212 rfl (by assumption) ?_
                    refine e_aload_n (pc := 213) dX5_call_213 rfl ?_
                    refine e_getA (pc := 214) dX5_call_214 f_5_74 rfl rfl ?_
                    refine e_iload (pc := 217) dX5_call_217 rfl ?_
                    refine e_bipush (pc := 219) (v := (-9)) dX5_call_219 (by decide) ?_
                    first | refine e_iastN (pc := 221) dX5_call_221 rfl (by omega) (by decide) ?_ | refine e_iast (pc := 221) dX5_call_221 rfl (by assumption) ?_
                    refine e_iload (pc := 222) dX5_call_222 rfl ?_
                    refine r_iret (pc := 224) dX5_call_224 rfl ?_
                    simp only [bI_eq0] at *
                    unfold m_call
                    repeat (first | rw [if_pos (by grind)] | rw [if_neg (by grind)])
                    try (first | (exfalso; grind; done) | (unfold n_cadd; rw [if_pos (by grind)]; rfl) | (unfold n_cadd; rw [if_neg (by grind)]; rfl))
                  · refine e_iload (pc := 159) dX5_call_159 rfl ?_
                    refine e_goto (pc := 161) (tgt := 166) dX5_call_161 (by decide) ?_
                    first | refine e_iastN (pc := 166) dX5_call_166 rfl (by omega) (by decide) ?_ | refine e_iast (pc := 166) dX5_call_166 rfl (by assumption) ?_
                    refine e_aload_n (pc := 167) dX5_call_167 rfl ?_
                    refine e_getA (pc := 168) dX5_call_168 f_5_59 rfl rfl ?_
                    refine e_iload (pc := 171) dX5_call_171 rfl ?_
                    refine e_iconst (pc := 173) (v := 0) dX5_call_173 (by decide) ?_
                    first | refine e_iastN (pc := 174) dX5_call_174 rfl (by omega) (by decide) ?_ | refine e_iast (pc := 174) dX5_call_174 rfl (by assumption) ?_
                    refine e_aload_n (pc := 175) dX5_call_175 rfl ?_
                    refine e_getA (pc := 176) dX5_call_176 f_5_62 rfl rfl ?_
                    refine e_iload (pc := 179) dX5_call_179 rfl ?_
                    refine e_aload_n (pc := 181) dX5_call_181 rfl ?_
                    refine e_getI (pc := 182) dX5_call_182 f_5_127 rfl rfl ?_
                    first | refine e_iastN (pc := 185) dX5_call_185 rfl (by omega) (by decide) ?_ | refine e_iast (pc := 185) dX5_call_185 rfl (by assumption) ?_
                    refine e_aload_n (pc := 186) dX5_call_186 rfl ?_
                    refine e_getA (pc := 187) dX5_call_187 f_5_65 rfl rfl ?_
                    refine e_iload (pc := 190) dX5_call_190 rfl ?_
                    refine e_bipush (pc := 192) (v := (-9)) dX5_call_192 (by decide) ?_
                    first | refine e_iastN (pc := 194) dX5_call_194 rfl (by omega) (by decide) ?_ | refine e_iast (pc := 194) dX5_call_194 rfl (by assumption) ?_
                    refine e_aload_n (pc := 195) dX5_call_195 rfl ?_
                    refine e_getA (pc := 196) dX5_call_196 f_5_68 rfl rfl ?_
                    refine e_iload (pc := 199) dX5_call_199 rfl ?_
                    refine e_bipush (pc := 201) (v := (-9)) dX5_call_201 (by decide) ?_
                    first | refine e_iastN (pc := 203) dX5_call_203 rfl (by omega) (by decide) ?_ | refine e_iast (pc := 203) dX5_call_203 rfl (by assumption) ?_
                    refine e_aload_n (pc := 204) dX5_call_204 rfl ?_
                    refine e_getA (pc := 205) dX5_call_205 f_5_71 rfl rfl ?_
                    refine e_iload (pc := 208) dX5_call_208 rfl ?_
                    refine e_bipush (pc := 210) (v := (-9)) dX5_call_210 (by decide) ?_
                    first | refine e_iastN (pc := 212) dX5_call_212 rfl (by omega) (by decide) ?_ | refine e_iast (pc := 212) dX5_call_212 rfl (by assumption) ?_
                    refine e_aload_n (pc := 213) dX5_call_213 rfl ?_
                    refine e_getA (pc := 214) dX5_call_214 f_5_74 rfl rfl ?_
                    refine e_iload (pc := 217) dX5_call_217 rfl ?_
                    refine e_bipush (pc := 219) (v := (-9)) dX5_call_219 (by decide) ?_
                    first | refine e_iastN (pc := 221) dX5_call_221 rfl (by omega) (by decide) ?_ | refine e_iast (pc := 221) dX5_call_221 rfl (by assumption) ?_
                    refine e_iload (pc := 222) dX5_call_222 rfl ?_
                    refine r_iret (pc := 224) dX5_call_224 rfl ?_
                    simp only [bI_eq0] at *
                    unfold m_call
                    repeat (first | rw [if_pos (by grind)] | rw [if_neg (by grind)])
                    try (first | (exfalso; grind; done) | (unfold n_cadd; rw [if_pos (by grind)]; rfl) | (unfold n_cadd; rw [if_neg (by grind)]; rfl))
                · refine e_aload_n (pc := 81) dX5_call_81 rfl ?_
                  refine e_bipush (pc := 82) (v := (-6)) dX5_call_82 (by decide) ?_
                  refine e_self1i (pc := 84) dX5_call_84 cs_X5_call_120 cv_X5_refuse rc_X5_refuse rfl (by decide) (Nat.le_of_ble_eq_true rfl) (ev_X5_refuse _ (k := 6) (by decide) (by decide)) ?_
                  refine r_iret (pc := 87) dX5_call_87 rfl ?_
                  simp only [bI_eq0] at *
                  unfold m_call
                  repeat (first | rw [if_pos (by grind)] | rw [if_neg (by grind)])
                  try (first | (exfalso; grind; done) | (unfold n_cadd; rw [if_pos (by grind)]; rfl) | (unfold n_cadd; rw [if_neg (by grind)]; rfl))
          · refine e_aload_n (pc := 49) dX5_call_49 rfl ?_
            refine e_bipush (pc := 50) (v := (-4)) dX5_call_50 (by decide) ?_
            refine e_self1i (pc := 52) dX5_call_52 cs_X5_call_120 cv_X5_refuse rc_X5_refuse rfl (by decide) (Nat.le_of_ble_eq_true rfl) (ev_X5_refuse _ (k := 4) (by decide) (by decide)) ?_
            refine r_iret (pc := 55) dX5_call_55 rfl ?_
            simp only [bI_eq0] at *
            unfold m_call
            repeat (first | rw [if_pos (by grind)] | rw [if_neg (by grind)])
            try (first | (exfalso; grind; done) | (unfold n_cadd; rw [if_pos (by grind)]; rfl) | (unfold n_cadd; rw [if_neg (by grind)]; rfl))
      · refine e_iload (pc := 21) dX5_call_21 rfl ?_
        refine e_aload_n (pc := 23) dX5_call_23 rfl ?_
        refine e_getI (pc := 24) dX5_call_24 f_5_124 rfl rfl ?_
        refine e_stat2i (pc := 27) dX5_call_27 cs_X5_call_130 st_X5_isIn rfl (by decide) (Nat.le_of_ble_eq_true rfl) (ev_X5_isIn _ _ _) ?_
        refine e_if_ne (pc := 30) (tgt := 39) dX5_call_30 (by decide) (fun hc_30 => ?_) (fun hc_30 => ?_)
        · refine e_iload_n (pc := 39) dX5_call_39 rfl ?_
          refine e_iconst (pc := 40) (v := 1) dX5_call_40 (by decide) ?_
          refine e_icmp_lt (pc := 41) (tgt := 49) dX5_call_41 (by decide) (fun hc_41 => ?_) (fun hc_41 => ?_)
          · refine e_aload_n (pc := 49) dX5_call_49 rfl ?_
            refine e_bipush (pc := 50) (v := (-4)) dX5_call_50 (by decide) ?_
            refine e_self1i (pc := 52) dX5_call_52 cs_X5_call_120 cv_X5_refuse rc_X5_refuse rfl (by decide) (Nat.le_of_ble_eq_true rfl) (ev_X5_refuse _ (k := 4) (by decide) (by decide)) ?_
            refine r_iret (pc := 55) dX5_call_55 rfl ?_
            simp only [bI_eq0] at *
            unfold m_call
            repeat (first | rw [if_pos (by grind)] | rw [if_neg (by grind)])
            try (first | (exfalso; grind; done) | (unfold n_cadd; rw [if_pos (by grind)]; rfl) | (unfold n_cadd; rw [if_neg (by grind)]; rfl))
          · refine e_iload (pc := 44) dX5_call_44 rfl ?_
            refine e_if_ge (pc := 46) (tgt := 56) dX5_call_46 (by decide) (fun hc_46 => ?_) (fun hc_46 => ?_)
            · refine e_iload_n (pc := 56) dX5_call_56 rfl ?_
              refine e_sipush (pc := 57) (v := 1000) dX5_call_57 (by decide) ?_
              refine e_icmp_gt (pc := 60) (tgt := 81) dX5_call_60 (by decide) (fun hc_60 => ?_) (fun hc_60 => ?_)
              · refine e_aload_n (pc := 81) dX5_call_81 rfl ?_
                refine e_bipush (pc := 82) (v := (-6)) dX5_call_82 (by decide) ?_
                refine e_self1i (pc := 84) dX5_call_84 cs_X5_call_120 cv_X5_refuse rc_X5_refuse rfl (by decide) (Nat.le_of_ble_eq_true rfl) (ev_X5_refuse _ (k := 6) (by decide) (by decide)) ?_
                refine r_iret (pc := 87) dX5_call_87 rfl ?_
                simp only [bI_eq0] at *
                unfold m_call
                repeat (first | rw [if_pos (by grind)] | rw [if_neg (by grind)])
                try (first | (exfalso; grind; done) | (unfold n_cadd; rw [if_pos (by grind)]; rfl) | (unfold n_cadd; rw [if_neg (by grind)]; rfl))
              · refine e_iload (pc := 63) dX5_call_63 rfl ?_
                refine e_sipush (pc := 65) (v := 5000) dX5_call_65 (by decide) ?_
                refine e_icmp_gt (pc := 68) (tgt := 81) dX5_call_68 (by decide) (fun hc_68 => ?_) (fun hc_68 => ?_)
                · refine e_aload_n (pc := 81) dX5_call_81 rfl ?_
                  refine e_bipush (pc := 82) (v := (-6)) dX5_call_82 (by decide) ?_
                  refine e_self1i (pc := 84) dX5_call_84 cs_X5_call_120 cv_X5_refuse rc_X5_refuse rfl (by decide) (Nat.le_of_ble_eq_true rfl) (ev_X5_refuse _ (k := 6) (by decide) (by decide)) ?_
                  refine r_iret (pc := 87) dX5_call_87 rfl ?_
                  simp only [bI_eq0] at *
                  unfold m_call
                  repeat (first | rw [if_pos (by grind)] | rw [if_neg (by grind)])
                  try (first | (exfalso; grind; done) | (unfold n_cadd; rw [if_pos (by grind)]; rfl) | (unfold n_cadd; rw [if_neg (by grind)]; rfl))
                · refine e_aload_n (pc := 71) dX5_call_71 rfl ?_
                  refine e_getIv (pc := 72) (nI cn) dX5_call_72 f_5_142 rfl rfl hsz2 ?_
                  refine e_sipush (pc := 75) (v := 200) dX5_call_75 (by decide) ?_
                  refine e_icmp_ne (pc := 78) (tgt := 88) dX5_call_78 (by decide) (fun hc_78 => ?_) (fun hc_78 => ?_)
                  · have hc2 : cn < 200 := by rcases Nat.lt_or_ge cn 200 with q | q; exact q; exact absurd (show nI cn = 200 by rw [show cn = 200 by omega]; rfl) hc_78
                    refine e_aload_n (pc := 88) dX5_call_88 rfl ?_
                    refine e_getIv (pc := 89) (nI cn) dX5_call_89 f_5_142 rfl rfl hsz2 ?_
                    refine e_istore (pc := 92) dX5_call_92 (by decide) ?_
                    refine e_aload_n (pc := 94) dX5_call_94 rfl ?_
                    refine e_dup_a (pc := 95) dX5_call_95 ?_
                    refine e_getIv (pc := 96) (nI cn) dX5_call_96 f_5_142 rfl rfl hsz2 ?_
                    refine e_iconst (pc := 99) (v := 1) dX5_call_99 (by decide) ?_
                    refine e_iadd (pc := 100) dX5_call_100 ?_
                    refine e_put (pc := 101) dX5_call_101 f_5_142 p_5_5 rfl rfl ?_
                    refine e_aload_n (pc := 104) dX5_call_104 rfl ?_
                    refine e_getA (pc := 105) dX5_call_105 f_5_41 rfl rfl ?_
                    refine e_iload (pc := 108) dX5_call_108 rfl ?_
                    refine e_iload_n (pc := 110) dX5_call_110 rfl ?_
                    first | refine e_iastN (pc := 111) dX5_call_111 rfl (by omega) (by decide) ?_ | refine e_iast (pc := 111) dX5_call_111 rfl (by assumption) ?_
                    refine e_aload_n (pc := 112) dX5_call_112 rfl ?_
                    refine e_getA (pc := 113) dX5_call_113 f_5_44 rfl rfl ?_
                    refine e_iload (pc := 116) dX5_call_116 rfl ?_
                    refine e_iload_n (pc := 118) dX5_call_118 rfl ?_
                    first | refine e_iastN (pc := 119) dX5_call_119 rfl (by omega) (by decide) ?_ | refine e_iast (pc := 119) dX5_call_119 rfl (by assumption) ?_
                    refine e_aload_n (pc := 120) dX5_call_120 rfl ?_
                    refine e_getA (pc := 121) dX5_call_121 f_5_47 rfl rfl ?_
                    refine e_iload (pc := 124) dX5_call_124 rfl ?_
                    refine e_iload_n (pc := 126) dX5_call_126 rfl ?_
                    first | refine e_iastN (pc := 127) dX5_call_127 rfl (by omega) (by decide) ?_ | refine e_iast (pc := 127) dX5_call_127 rfl (by assumption) ?_
                    refine e_aload_n (pc := 128) dX5_call_128 rfl ?_
                    refine e_getA (pc := 129) dX5_call_129 f_5_50 rfl rfl ?_
                    refine e_iload (pc := 132) dX5_call_132 rfl ?_
                    refine e_iload (pc := 134) dX5_call_134 rfl ?_
                    first | refine e_iastN (pc := 136) dX5_call_136 rfl (by omega) (by decide) ?_ | refine e_iast (pc := 136) dX5_call_136 rfl (by assumption) ?_
                    refine e_aload_n (pc := 137) dX5_call_137 rfl ?_
                    refine e_getA (pc := 138) dX5_call_138 f_5_53 rfl rfl ?_
                    refine e_iload (pc := 141) dX5_call_141 rfl ?_
                    refine e_aload_n (pc := 143) dX5_call_143 rfl ?_
                    refine e_getI (pc := 144) dX5_call_144 f_5_127 rfl rfl ?_
                    first | refine e_iastN (pc := 147) dX5_call_147 rfl (by omega) (by decide) ?_ | refine e_iast (pc := 147) dX5_call_147 rfl (by assumption) ?_
                    refine e_aload_n (pc := 148) dX5_call_148 rfl ?_
                    refine e_getA (pc := 149) dX5_call_149 f_5_56 rfl rfl ?_
                    refine e_iload (pc := 152) dX5_call_152 rfl ?_
                    refine e_iload_n (pc := 154) dX5_call_154 rfl ?_
                    refine e_iconst (pc := 155) (v := 1) dX5_call_155 (by decide) ?_
                    refine e_icmp_ne (pc := 156) (tgt := 164) dX5_call_156 (by decide) (fun hc_156 => ?_) (fun hc_156 => ?_)
                    · refine e_bipush (pc := 164) (v := (-9)) dX5_call_164 (by decide) ?_
                      first | refine e_iastN (pc := 166) dX5_call_166 rfl (by omega) (by decide) ?_ | refine e_iast (pc := 166) dX5_call_166 rfl (by assumption) ?_
                      refine e_aload_n (pc := 167) dX5_call_167 rfl ?_
                      refine e_getA (pc := 168) dX5_call_168 f_5_59 rfl rfl ?_
                      refine e_iload (pc := 171) dX5_call_171 rfl ?_
                      refine e_iconst (pc := 173) (v := 0) dX5_call_173 (by decide) ?_
                      first | refine e_iastN (pc := 174) dX5_call_174 rfl (by omega) (by decide) ?_ | refine e_iast (pc := 174) dX5_call_174 rfl (by assumption) ?_
                      refine e_aload_n (pc := 175) dX5_call_175 rfl ?_
                      refine e_getA (pc := 176) dX5_call_176 f_5_62 rfl rfl ?_
                      refine e_iload (pc := 179) dX5_call_179 rfl ?_
                      refine e_aload_n (pc := 181) dX5_call_181 rfl ?_
                      refine e_getI (pc := 182) dX5_call_182 f_5_127 rfl rfl ?_
                      first | refine e_iastN (pc := 185) dX5_call_185 rfl (by omega) (by decide) ?_ | refine e_iast (pc := 185) dX5_call_185 rfl (by assumption) ?_
                      refine e_aload_n (pc := 186) dX5_call_186 rfl ?_
                      refine e_getA (pc := 187) dX5_call_187 f_5_65 rfl rfl ?_
                      refine e_iload (pc := 190) dX5_call_190 rfl ?_
                      refine e_bipush (pc := 192) (v := (-9)) dX5_call_192 (by decide) ?_
                      first | refine e_iastN (pc := 194) dX5_call_194 rfl (by omega) (by decide) ?_ | refine e_iast (pc := 194) dX5_call_194 rfl (by assumption) ?_
                      refine e_aload_n (pc := 195) dX5_call_195 rfl ?_
                      refine e_getA (pc := 196) dX5_call_196 f_5_68 rfl rfl ?_
                      refine e_iload (pc := 199) dX5_call_199 rfl ?_
                      refine e_bipush (pc := 201) (v := (-9)) dX5_call_201 (by decide) ?_
                      first | refine e_iastN (pc := 203) dX5_call_203 rfl (by omega) (by decide) ?_ | refine e_iast (pc := 203) dX5_call_203 rfl (by assumption) ?_
                      refine e_aload_n (pc := 204) dX5_call_204 rfl ?_
                      refine e_getA (pc := 205) dX5_call_205 f_5_71 rfl rfl ?_
                      refine e_iload (pc := 208) dX5_call_208 rfl ?_
                      refine e_bipush (pc := 210) (v := (-9)) dX5_call_210 (by decide) ?_
                      first | refine e_iastN (pc := 212) dX5_call_212 rfl (by omega) (by decide) ?_ | refine e_iast (pc := 212) dX5_call_212 rfl (by assumption) ?_
                      refine e_aload_n (pc := 213) dX5_call_213 rfl ?_
                      refine e_getA (pc := 214) dX5_call_214 f_5_74 rfl rfl ?_
                      refine e_iload (pc := 217) dX5_call_217 rfl ?_
                      refine e_bipush (pc := 219) (v := (-9)) dX5_call_219 (by decide) ?_
                      first | refine e_iastN (pc := 221) dX5_call_221 rfl (by omega) (by decide) ?_ | refine e_iast (pc := 221) dX5_call_221 rfl (by assumption) ?_
                      refine e_iload (pc := 222) dX5_call_222 rfl ?_
                      refine r_iret (pc := 224) dX5_call_224 rfl ?_
                      simp only [bI_eq0] at *
                      unfold m_call
                      repeat (first | rw [if_pos (by grind)] | rw [if_neg (by grind)])
                      try (first | (exfalso; grind; done) | (unfold n_cadd; rw [if_pos (by grind)]; rfl) | (unfold n_cadd; rw [if_neg (by grind)]; rfl))
                    · refine e_iload (pc := 159) dX5_call_159 rfl ?_
                      refine e_goto (pc := 161) (tgt := 166) dX5_call_161 (by decide) ?_
                      first | refine e_iastN (pc := 166) dX5_call_166 rfl (by omega) (by decide) ?_ | refine e_iast (pc := 166) dX5_call_166 rfl (by assumption) ?_
                      refine e_aload_n (pc := 167) dX5_call_167 rfl ?_
                      refine e_getA (pc := 168) dX5_call_168 f_5_59 rfl rfl ?_
                      refine e_iload (pc := 171) dX5_call_171 rfl ?_
                      refine e_iconst (pc := 173) (v := 0) dX5_call_173 (by decide) ?_
                      first | refine e_iastN (pc := 174) dX5_call_174 rfl (by omega) (by decide) ?_ | refine e_iast (pc := 174) dX5_call_174 rfl (by assumption) ?_
                      refine e_aload_n (pc := 175) dX5_call_175 rfl ?_
                      refine e_getA (pc := 176) dX5_call_176 f_5_62 rfl rfl ?_
                      refine e_iload (pc := 179) dX5_call_179 rfl ?_
                      refine e_aload_n (pc := 181) dX5_call_181 rfl ?_
                      refine e_getI (pc := 182) dX5_call_182 f_5_127 rfl rfl ?_
                      first | refine e_iastN (pc := 185) dX5_call_185 rfl (by omega) (by decide) ?_ | refine e_iast (pc := 185) dX5_call_185 rfl (by assumption) ?_
                      refine e_aload_n (pc := 186) dX5_call_186 rfl ?_
                      refine e_getA (pc := 187) dX5_call_187 f_5_65 rfl rfl ?_
                      refine e_iload (pc := 190) dX5_call_190 rfl ?_
                      refine e_bipush (pc := 192) (v := (-9)) dX5_call_192 (by decide) ?_
                      first | refine e_iastN (pc := 194) dX5_call_194 rfl (by omega) (by decide) ?_ | refine e_iast (pc := 194) dX5_call_194 rfl (by assumption) ?_
                      refine e_aload_n (pc := 195) dX5_call_195 rfl ?_
                      refine e_getA (pc := 196) dX5_call_196 f_5_68 rfl rfl ?_
                      refine e_iload (pc := 199) dX5_call_199 rfl ?_
                      refine e_bipush (pc := 201) (v := (-9)) dX5_call_201 (by decide) ?_
                      first | refine e_iastN (pc := 203) dX5_call_203 rfl (by omega) (by decide) ?_ | refine e_iast (pc := 203) dX5_call_203 rfl (by assumption) ?_
                      refine e_aload_n (pc := 204) dX5_call_204 rfl ?_
                      refine e_getA (pc := 205) dX5_call_205 f_5_71 rfl rfl ?_
                      refine e_iload (pc := 208) dX5_call_208 rfl ?_
                      refine e_bipush (pc := 210) (v := (-9)) dX5_call_210 (by decide) ?_
                      first | refine e_iastN (pc := 212) dX5_call_212 rfl (by omega) (by decide) ?_ | refine e_iast (pc := 212) dX5_call_212 rfl (by assumption) ?_
                      refine e_aload_n (pc := 213) dX5_call_213 rfl ?_
                      refine e_getA (pc := 214) dX5_call_214 f_5_74 rfl rfl ?_
                      refine e_iload (pc := 217) dX5_call_217 rfl ?_
                      refine e_bipush (pc := 219) (v := (-9)) dX5_call_219 (by decide) ?_
                      first | refine e_iastN (pc := 221) dX5_call_221 rfl (by omega) (by decide) ?_ | refine e_iast (pc := 221) dX5_call_221 rfl (by assumption) ?_
                      refine e_iload (pc := 222) dX5_call_222 rfl ?_
                      refine r_iret (pc := 224) dX5_call_224 rfl ?_
                      simp only [bI_eq0] at *
                      unfold m_call
                      repeat (first | rw [if_pos (by grind)] | rw [if_neg (by grind)])
                      try (first | (exfalso; grind; done) | (unfold n_cadd; rw [if_pos (by grind)]; rfl) | (unfold n_cadd; rw [if_neg (by grind)]; rfl))
                  · refine e_aload_n (pc := 81) dX5_call_81 rfl ?_
                    refine e_bipush (pc := 82) (v := (-6)) dX5_call_82 (by decide) ?_
                    refine e_self1i (pc := 84) dX5_call_84 cs_X5_call_120 cv_X5_refuse rc_X5_refuse rfl (by decide) (Nat.le_of_ble_eq_true rfl) (ev_X5_refuse _ (k := 6) (by decide) (by decide)) ?_
                    refine r_iret (pc := 87) dX5_call_87 rfl ?_
                    simp only [bI_eq0] at *
                    unfold m_call
                    repeat (first | rw [if_pos (by grind)] | rw [if_neg (by grind)])
                    try (first | (exfalso; grind; done) | (unfold n_cadd; rw [if_pos (by grind)]; rfl) | (unfold n_cadd; rw [if_neg (by grind)]; rfl))
            · refine e_aload_n (pc := 49) dX5_call_49 rfl ?_
              refine e_bipush (pc := 50) (v := (-4)) dX5_call_50 (by decide) ?_
              refine e_self1i (pc := 52) dX5_call_52 cs_X5_call_120 cv_X5_refuse rc_X5_refuse rfl (by decide) (Nat.le_of_ble_eq_true rfl) (ev_X5_refuse _ (k := 4) (by decide) (by decide)) ?_
              refine r_iret (pc := 55) dX5_call_55 rfl ?_
              simp only [bI_eq0] at *
              unfold m_call
              repeat (first | rw [if_pos (by grind)] | rw [if_neg (by grind)])
              try (first | (exfalso; grind; done) | (unfold n_cadd; rw [if_pos (by grind)]; rfl) | (unfold n_cadd; rw [if_neg (by grind)]; rfl))
        · refine e_aload_n (pc := 33) dX5_call_33 rfl ?_
          refine e_iconst (pc := 34) (v := (-1)) dX5_call_34 (by decide) ?_
          refine e_self1i (pc := 35) dX5_call_35 cs_X5_call_120 cv_X5_refuse rc_X5_refuse rfl (by decide) (Nat.le_of_ble_eq_true rfl) (ev_X5_refuse _ (k := 1) (by decide) (by decide)) ?_
          refine r_iret (pc := 38) dX5_call_38 rfl ?_
          simp only [bI_eq0] at *
          unfold m_call
          repeat (first | rw [if_pos (by grind)] | rw [if_neg (by grind)])
          try (first | (exfalso; grind; done) | (unfold n_cadd; rw [if_pos (by grind)]; rfl) | (unfold n_cadd; rw [if_neg (by grind)]; rfl))
set_option maxHeartbeats 1000000 in
theorem ev_X5_rule (N : cr_M) (x : Int32) : cr_EvM Y_X5_rule [.inr (.inr 0), .inl x] N (some (.inl (m_rule N x).1), (m_rule N x).2) := by
  refine e_iload_n (pc := 0) dX5_rule_0 rfl ?_
  refine e_iconst (pc := 1) (v := 4) dX5_rule_1 (by decide) ?_
  refine e_stat2i (pc := 2) dX5_rule_2 cs_X5_rule_130 st_X5_isIn rfl (by decide) (Nat.le_of_ble_eq_true rfl) (ev_X5_isIn _ _ _) ?_
  refine e_if_ne (pc := 5) (tgt := 14) dX5_rule_5 (by decide) (fun hc_5 => ?_) (fun hc_5 => ?_)
  · refine e_aload_n (pc := 14) dX5_rule_14 rfl ?_
    refine e_getI (pc := 15) dX5_rule_15 f_5_145 rfl rfl ?_
    refine e_istore_n (pc := 18) dX5_rule_18 (by decide) ?_
    refine e_aload_n (pc := 19) dX5_rule_19 rfl ?_
    refine e_iload_n (pc := 20) dX5_rule_20 rfl ?_
    refine e_put (pc := 21) dX5_rule_21 f_5_145 p_5_6 rfl rfl ?_
    refine e_iload_n (pc := 24) dX5_rule_24 rfl ?_
    refine r_iret (pc := 25) dX5_rule_25 rfl ?_
    simp only [bI_eq0] at *
    unfold m_rule
    repeat (first | rw [if_pos (by grind)] | rw [if_neg (by grind)])
    try rfl
  · refine e_aload_n (pc := 8) dX5_rule_8 rfl ?_
    refine e_iconst (pc := 9) (v := (-1)) dX5_rule_9 (by decide) ?_
    refine e_self1i (pc := 10) dX5_rule_10 cs_X5_rule_120 cv_X5_refuse rc_X5_refuse rfl (by decide) (Nat.le_of_ble_eq_true rfl) (ev_X5_refuse _ (k := 1) (by decide) (by decide)) ?_
    refine r_iret (pc := 13) dX5_rule_13 rfl ?_
    simp only [bI_eq0] at *
    unfold m_rule
    repeat (first | rw [if_pos (by grind)] | rw [if_neg (by grind)])
    try rfl
set_option maxHeartbeats 1000000 in
theorem ev_X5_prefer (N : cr_M) (x : Int32) : cr_EvM Y_X5_prefer [.inr (.inr 0), .inl x] N (some (.inl (m_prefer N x).1), (m_prefer N x).2) := by
  refine e_iload_n (pc := 0) dX5_prefer_0 rfl ?_
  refine e_if_ge (pc := 1) (tgt := 11) dX5_prefer_1 (by decide) (fun hc_1 => ?_) (fun hc_1 => ?_)
  · refine e_iload_n (pc := 11) dX5_prefer_11 rfl ?_
    refine e_sipush (pc := 12) (v := 1000) dX5_prefer_12 (by decide) ?_
    refine e_icmp_le (pc := 15) (tgt := 25) dX5_prefer_15 (by decide) (fun hc_15 => ?_) (fun hc_15 => ?_)
    · refine e_aload_n (pc := 25) dX5_prefer_25 rfl ?_
      refine e_getI (pc := 26) dX5_prefer_26 f_5_19 rfl rfl ?_
      refine e_istore_n (pc := 29) dX5_prefer_29 (by decide) ?_
      refine e_aload_n (pc := 30) dX5_prefer_30 rfl ?_
      refine e_iload_n (pc := 31) dX5_prefer_31 rfl ?_
      refine e_put (pc := 32) dX5_prefer_32 f_5_19 p_5_7 rfl rfl ?_
      refine e_iload_n (pc := 35) dX5_prefer_35 rfl ?_
      refine r_iret (pc := 36) dX5_prefer_36 rfl ?_
      unfold m_prefer
      repeat (first | rw [if_pos (by grind)] | rw [if_neg (by grind)])
      try rfl
    · refine e_aload_n (pc := 18) dX5_prefer_18 rfl ?_
      refine e_bipush (pc := 19) (v := (-6)) dX5_prefer_19 (by decide) ?_
      refine e_self1i (pc := 21) dX5_prefer_21 cs_X5_prefer_120 cv_X5_refuse rc_X5_refuse rfl (by decide) (Nat.le_of_ble_eq_true rfl) (ev_X5_refuse _ (k := 6) (by decide) (by decide)) ?_
      refine r_iret (pc := 24) dX5_prefer_24 rfl ?_
      unfold m_prefer
      repeat (first | rw [if_pos (by grind)] | rw [if_neg (by grind)])
      try rfl
  · refine e_aload_n (pc := 4) dX5_prefer_4 rfl ?_
    refine e_bipush (pc := 5) (v := (-4)) dX5_prefer_5 (by decide) ?_
    refine e_self1i (pc := 7) dX5_prefer_7 cs_X5_prefer_120 cv_X5_refuse rc_X5_refuse rfl (by decide) (Nat.le_of_ble_eq_true rfl) (ev_X5_refuse _ (k := 4) (by decide) (by decide)) ?_
    refine r_iret (pc := 10) dX5_prefer_10 rfl ?_
    unfold m_prefer
    repeat (first | rw [if_pos (by grind)] | rw [if_neg (by grind)])
    try rfl
set_option maxHeartbeats 1000000 in
theorem ev_X5_ring {cn : Nat} {N : cr_M} {c : Nat} (n : Int32) (hsz : N 0 5 = nI cn) (h200 : cn ≤ 200) (hk : c < cn) : cr_EvM Y_X5_ring [.inr (.inr 0), .inl (nI c), .inl n] N (some (.inl (m_ring N c n).1), (m_ring N c n).2) := by
  refine e_iload_n (pc := 0) dX5_ring_0 rfl ?_
  refine e_aload_n (pc := 1) dX5_ring_1 rfl ?_
  refine e_getI (pc := 2) dX5_ring_2 f_5_142 rfl rfl ?_
  refine e_stat2i (pc := 5) dX5_ring_5 cs_X5_ring_130 st_X5_isIn rfl (by decide) (Nat.le_of_ble_eq_true rfl) (ev_X5_isIn _ _ _) ?_
  refine e_if_ne (pc := 8) (tgt := 17) dX5_ring_8 (by decide) (fun hc_8 => ?_) (fun hc_8 => ?_)
  · refine e_aload_n (pc := 17) dX5_ring_17 rfl ?_
    refine e_getA (pc := 18) dX5_ring_18 f_5_59 rfl rfl ?_
    refine e_iload_n (pc := 21) dX5_ring_21 rfl ?_
    first | refine e_ialdN (pc := 22) dX5_ring_22 rfl (by omega) (by decide) ?_ | refine e_iald (pc := 22) dX5_ring_22 rfl (by assumption) ?_
    refine e_if_eq (pc := 23) (tgt := 33) dX5_ring_23 (by decide) (fun hc_23 => ?_) (fun hc_23 => ?_)
    · refine e_iload_n (pc := 33) dX5_ring_33 rfl ?_
      refine e_iconst (pc := 34) (v := 1) dX5_ring_34 (by decide) ?_
      refine e_icmp_ge (pc := 35) (tgt := 45) dX5_ring_35 (by decide) (fun hc_35 => ?_) (fun hc_35 => ?_)
      · refine e_iload_n (pc := 45) dX5_ring_45 rfl ?_
        refine e_sipush (pc := 46) (v := 5000) dX5_ring_46 (by decide) ?_
        refine e_icmp_le (pc := 49) (tgt := 59) dX5_ring_49 (by decide) (fun hc_49 => ?_) (fun hc_49 => ?_)
        · refine e_aload_n (pc := 59) dX5_ring_59 rfl ?_
          refine e_getA (pc := 60) dX5_ring_60 f_5_59 rfl rfl ?_
          refine e_iload_n (pc := 63) dX5_ring_63 rfl ?_
          refine e_iconst (pc := 64) (v := 4) dX5_ring_64 (by decide) ?_
          first | refine e_iastN (pc := 65) dX5_ring_65 rfl (by omega) (by decide) ?_ | refine e_iast (pc := 65) dX5_ring_65 rfl (by assumption) ?_
          refine e_aload_n (pc := 66) dX5_ring_66 rfl ?_
          refine e_getA (pc := 67) dX5_ring_67 f_5_68 rfl rfl ?_
          refine e_iload_n (pc := 70) dX5_ring_70 rfl ?_
          refine e_aload_n (pc := 71) dX5_ring_71 rfl ?_
          refine e_getI (pc := 72) dX5_ring_72 f_5_127 rfl rfl ?_
          refine e_iload_n (pc := 75) dX5_ring_75 rfl ?_
          refine e_iadd (pc := 76) dX5_ring_76 ?_
          first | refine e_iastN (pc := 77) dX5_ring_77 rfl (by omega) (by decide) ?_ | refine e_iast (pc := 77) dX5_ring_77 rfl (by assumption) ?_
          refine e_aload_n (pc := 78) dX5_ring_78 rfl ?_
          refine e_getA (pc := 79) dX5_ring_79 f_5_68 rfl rfl ?_
          refine e_iload_n (pc := 82) dX5_ring_82 rfl ?_
          first | refine e_ialdN (pc := 83) dX5_ring_83 rfl (by omega) (by decide) ?_ | refine e_iald (pc := 83) dX5_ring_83 rfl (by assumption) ?_
          refine r_iret (pc := 84) dX5_ring_84 rfl ?_
          unfold m_ring
          repeat (first | rw [if_pos (by grind)] | rw [if_neg (by grind)])
          try simp [cr_rd, n_bec]
        · refine e_aload_n (pc := 52) dX5_ring_52 rfl ?_
          refine e_bipush (pc := 53) (v := (-6)) dX5_ring_53 (by decide) ?_
          refine e_self1i (pc := 55) dX5_ring_55 cs_X5_ring_120 cv_X5_refuse rc_X5_refuse rfl (by decide) (Nat.le_of_ble_eq_true rfl) (ev_X5_refuse _ (k := 6) (by decide) (by decide)) ?_
          refine r_iret (pc := 58) dX5_ring_58 rfl ?_
          unfold m_ring
          repeat (first | rw [if_pos (by grind)] | rw [if_neg (by grind)])
          try simp [cr_rd, n_bec]
      · refine e_aload_n (pc := 38) dX5_ring_38 rfl ?_
        refine e_bipush (pc := 39) (v := (-4)) dX5_ring_39 (by decide) ?_
        refine e_self1i (pc := 41) dX5_ring_41 cs_X5_ring_120 cv_X5_refuse rc_X5_refuse rfl (by decide) (Nat.le_of_ble_eq_true rfl) (ev_X5_refuse _ (k := 4) (by decide) (by decide)) ?_
        refine r_iret (pc := 44) dX5_ring_44 rfl ?_
        unfold m_ring
        repeat (first | rw [if_pos (by grind)] | rw [if_neg (by grind)])
        try simp [cr_rd, n_bec]
    · refine e_aload_n (pc := 26) dX5_ring_26 rfl ?_
      refine e_bipush (pc := 27) (v := (-2)) dX5_ring_27 (by decide) ?_
      refine e_self1i (pc := 29) dX5_ring_29 cs_X5_ring_120 cv_X5_refuse rc_X5_refuse rfl (by decide) (Nat.le_of_ble_eq_true rfl) (ev_X5_refuse _ (k := 2) (by decide) (by decide)) ?_
      refine r_iret (pc := 32) dX5_ring_32 rfl ?_
      unfold m_ring
      repeat (first | rw [if_pos (by grind)] | rw [if_neg (by grind)])
      try simp [cr_rd, n_bec]
  · exact absurd hc_8 (by rw [bI_t (by rw [hsz]; exact cr_ix_in hk (by omega))]; decide)
set_option maxHeartbeats 1000000 in
theorem ev_X5_ring_n (N : cr_M) {cn : Nat} (h n : Int32) (hsz : N 0 5 = nI cn) (hh : ¬ (0 ≤ h ∧ h < nI cn)) : cr_EvM Y_X5_ring [.inr (.inr 0), .inl h, .inl n] N (some (.inl (-1)), n_ref N 1) := by
  refine e_iload_n (pc := 0) dX5_ring_0 rfl ?_
  refine e_aload_n (pc := 1) dX5_ring_1 rfl ?_
  refine e_getI (pc := 2) dX5_ring_2 f_5_142 rfl rfl ?_
  refine e_stat2i (pc := 5) dX5_ring_5 cs_X5_ring_130 st_X5_isIn rfl (by decide) (Nat.le_of_ble_eq_true rfl) (ev_X5_isIn _ _ _) ?_
  refine e_if_ne (pc := 8) (tgt := 17) dX5_ring_8 (by decide) (fun hc_8 => ?_) (fun hc_8 => ?_)
  · exact absurd (bI_f (by rw [hsz]; exact hh)) hc_8
  · refine e_aload_n (pc := 11) dX5_ring_11 rfl ?_
    refine e_iconst (pc := 12) (v := (-1)) dX5_ring_12 (by decide) ?_
    refine e_self1i (pc := 13) dX5_ring_13 cs_X5_ring_120 cv_X5_refuse rc_X5_refuse rfl (by decide) (Nat.le_of_ble_eq_true rfl) (ev_X5_refuse _ (k := 1) (by decide) (by decide)) ?_
    refine r_iret (pc := 16) dX5_ring_16 rfl ?_
    rfl
set_option maxHeartbeats 1000000 in
theorem ev_X5_leave {cn : Nat} {N : cr_M} {c : Nat} (hsz : N 0 5 = nI cn) (h200 : cn ≤ 200) (hk : c < cn) : cr_EvM Y_X5_leave [.inr (.inr 0), .inl (nI c)] N (some (.inl (m_leave N c).1), (m_leave N c).2) := by
  refine e_iload_n (pc := 0) dX5_leave_0 rfl ?_
  refine e_aload_n (pc := 1) dX5_leave_1 rfl ?_
  refine e_getI (pc := 2) dX5_leave_2 f_5_142 rfl rfl ?_
  refine e_stat2i (pc := 5) dX5_leave_5 cs_X5_leave_130 st_X5_isIn rfl (by decide) (Nat.le_of_ble_eq_true rfl) (ev_X5_isIn _ _ _) ?_
  refine e_if_ne (pc := 8) (tgt := 17) dX5_leave_8 (by decide) (fun hc_8 => ?_) (fun hc_8 => ?_)
  · refine e_aload_n (pc := 17) dX5_leave_17 rfl ?_
    refine e_getA (pc := 18) dX5_leave_18 f_5_59 rfl rfl ?_
    refine e_iload_n (pc := 21) dX5_leave_21 rfl ?_
    first | refine e_ialdN (pc := 22) dX5_leave_22 rfl (by omega) (by decide) ?_ | refine e_iald (pc := 22) dX5_leave_22 rfl (by assumption) ?_
    refine e_if_eq (pc := 23) (tgt := 43) dX5_leave_23 (by decide) (fun hc_23 => ?_) (fun hc_23 => ?_)
    · refine e_aload_n (pc := 43) dX5_leave_43 rfl ?_
      refine e_getA (pc := 44) dX5_leave_44 f_5_59 rfl rfl ?_
      refine e_iload_n (pc := 47) dX5_leave_47 rfl ?_
      refine e_iconst (pc := 48) (v := 3) dX5_leave_48 (by decide) ?_
      first | refine e_iastN (pc := 49) dX5_leave_49 rfl (by omega) (by decide) ?_ | refine e_iast (pc := 49) dX5_leave_49 rfl (by assumption) ?_
      refine e_aload_n (pc := 50) dX5_leave_50 rfl ?_
      refine e_getA (pc := 51) dX5_leave_51 f_5_68 rfl rfl ?_
      refine e_iload_n (pc := 54) dX5_leave_54 rfl ?_
      refine e_bipush (pc := 55) (v := (-9)) dX5_leave_55 (by decide) ?_
      first | refine e_iastN (pc := 57) dX5_leave_57 rfl (by omega) (by decide) ?_ | refine e_iast (pc := 57) dX5_leave_57 rfl (by assumption) ?_
      refine e_iconst (pc := 58) (v := 1) dX5_leave_58 (by decide) ?_
      refine r_iret (pc := 59) dX5_leave_59 rfl ?_
      unfold m_leave
      repeat (first | rw [if_pos (by grind)] | rw [if_neg (by grind)])
      try rfl
    · refine e_aload_n (pc := 26) dX5_leave_26 rfl ?_
      refine e_getA (pc := 27) dX5_leave_27 f_5_59 rfl rfl ?_
      refine e_iload_n (pc := 30) dX5_leave_30 rfl ?_
      first | refine e_ialdN (pc := 31) dX5_leave_31 rfl (by omega) (by decide) ?_ | refine e_iald (pc := 31) dX5_leave_31 rfl (by assumption) ?_
      refine e_iconst (pc := 32) (v := 4) dX5_leave_32 (by decide) ?_
      refine e_icmp_eq (pc := 33) (tgt := 43) dX5_leave_33 (by decide) (fun hc_33 => ?_) (fun hc_33 => ?_)
      · refine e_aload_n (pc := 43) dX5_leave_43 rfl ?_
        refine e_getA (pc := 44) dX5_leave_44 f_5_59 rfl rfl ?_
        refine e_iload_n (pc := 47) dX5_leave_47 rfl ?_
        refine e_iconst (pc := 48) (v := 3) dX5_leave_48 (by decide) ?_
        first | refine e_iastN (pc := 49) dX5_leave_49 rfl (by omega) (by decide) ?_ | refine e_iast (pc := 49) dX5_leave_49 rfl (by assumption) ?_
        refine e_aload_n (pc := 50) dX5_leave_50 rfl ?_
        refine e_getA (pc := 51) dX5_leave_51 f_5_68 rfl rfl ?_
        refine e_iload_n (pc := 54) dX5_leave_54 rfl ?_
        refine e_bipush (pc := 55) (v := (-9)) dX5_leave_55 (by decide) ?_
        first | refine e_iastN (pc := 57) dX5_leave_57 rfl (by omega) (by decide) ?_ | refine e_iast (pc := 57) dX5_leave_57 rfl (by assumption) ?_
        refine e_iconst (pc := 58) (v := 1) dX5_leave_58 (by decide) ?_
        refine r_iret (pc := 59) dX5_leave_59 rfl ?_
        unfold m_leave
        repeat (first | rw [if_pos (by grind)] | rw [if_neg (by grind)])
        try rfl
      · refine e_aload_n (pc := 36) dX5_leave_36 rfl ?_
        refine e_bipush (pc := 37) (v := (-2)) dX5_leave_37 (by decide) ?_
        refine e_self1i (pc := 39) dX5_leave_39 cs_X5_leave_120 cv_X5_refuse rc_X5_refuse rfl (by decide) (Nat.le_of_ble_eq_true rfl) (ev_X5_refuse _ (k := 2) (by decide) (by decide)) ?_
        refine r_iret (pc := 42) dX5_leave_42 rfl ?_
        unfold m_leave
        repeat (first | rw [if_pos (by grind)] | rw [if_neg (by grind)])
        try rfl
  · exact absurd hc_8 (by rw [bI_t (by rw [hsz]; exact cr_ix_in hk (by omega))]; decide)
set_option maxHeartbeats 1000000 in
theorem ev_X5_leave_n (N : cr_M) {cn : Nat} (h : Int32) (hsz : N 0 5 = nI cn) (hh : ¬ (0 ≤ h ∧ h < nI cn)) : cr_EvM Y_X5_leave [.inr (.inr 0), .inl h] N (some (.inl (-1)), n_ref N 1) := by
  refine e_iload_n (pc := 0) dX5_leave_0 rfl ?_
  refine e_aload_n (pc := 1) dX5_leave_1 rfl ?_
  refine e_getI (pc := 2) dX5_leave_2 f_5_142 rfl rfl ?_
  refine e_stat2i (pc := 5) dX5_leave_5 cs_X5_leave_130 st_X5_isIn rfl (by decide) (Nat.le_of_ble_eq_true rfl) (ev_X5_isIn _ _ _) ?_
  refine e_if_ne (pc := 8) (tgt := 17) dX5_leave_8 (by decide) (fun hc_8 => ?_) (fun hc_8 => ?_)
  · exact absurd (bI_f (by rw [hsz]; exact hh)) hc_8
  · refine e_aload_n (pc := 11) dX5_leave_11 rfl ?_
    refine e_iconst (pc := 12) (v := (-1)) dX5_leave_12 (by decide) ?_
    refine e_self1i (pc := 13) dX5_leave_13 cs_X5_leave_120 cv_X5_refuse rc_X5_refuse rfl (by decide) (Nat.le_of_ble_eq_true rfl) (ev_X5_refuse _ (k := 1) (by decide) (by decide)) ?_
    refine r_iret (pc := 16) dX5_leave_16 rfl ?_
    rfl
set_option maxHeartbeats 1000000 in
theorem ev_X5_urge {cn : Nat} {N : cr_M} {c : Nat} (hsz : N 0 5 = nI cn) (h200 : cn ≤ 200) (hk : c < cn) : cr_EvM Y_X5_urge [.inr (.inr 0), .inl (nI c)] N (some (.inl (m_urge N c).1), (m_urge N c).2) := by
  refine e_iload_n (pc := 0) dX5_urge_0 rfl ?_
  refine e_aload_n (pc := 1) dX5_urge_1 rfl ?_
  refine e_getI (pc := 2) dX5_urge_2 f_5_142 rfl rfl ?_
  refine e_stat2i (pc := 5) dX5_urge_5 cs_X5_urge_130 st_X5_isIn rfl (by decide) (Nat.le_of_ble_eq_true rfl) (ev_X5_isIn _ _ _) ?_
  refine e_if_ne (pc := 8) (tgt := 17) dX5_urge_8 (by decide) (fun hc_8 => ?_) (fun hc_8 => ?_)
  · refine e_aload_n (pc := 17) dX5_urge_17 rfl ?_
    refine e_getA (pc := 18) dX5_urge_18 f_5_59 rfl rfl ?_
    refine e_iload_n (pc := 21) dX5_urge_21 rfl ?_
    first | refine e_ialdN (pc := 22) dX5_urge_22 rfl (by omega) (by decide) ?_ | refine e_iald (pc := 22) dX5_urge_22 rfl (by assumption) ?_
    refine e_if_ne (pc := 23) (tgt := 46) dX5_urge_23 (by decide) (fun hc_23 => ?_) (fun hc_23 => ?_)
    · refine e_aload_n (pc := 46) dX5_urge_46 rfl ?_
      refine e_bipush (pc := 47) (v := (-2)) dX5_urge_47 (by decide) ?_
      refine e_self1i (pc := 49) dX5_urge_49 cs_X5_urge_120 cv_X5_refuse rc_X5_refuse rfl (by decide) (Nat.le_of_ble_eq_true rfl) (ev_X5_refuse _ (k := 2) (by decide) (by decide)) ?_
      refine r_iret (pc := 52) dX5_urge_52 rfl ?_
      unfold m_urge
      repeat (first | rw [if_pos (by grind)] | rw [if_neg (by grind)])
      try rfl
    · refine e_aload_n (pc := 26) dX5_urge_26 rfl ?_
      refine e_getA (pc := 27) dX5_urge_27 f_5_41 rfl rfl ?_
      refine e_iload_n (pc := 30) dX5_urge_30 rfl ?_
      first | refine e_ialdN (pc := 31) dX5_urge_31 rfl (by omega) (by decide) ?_ | refine e_iald (pc := 31) dX5_urge_31 rfl (by assumption) ?_
      refine e_iconst (pc := 32) (v := 2) dX5_urge_32 (by decide) ?_
      refine e_icmp_eq (pc := 33) (tgt := 46) dX5_urge_33 (by decide) (fun hc_33 => ?_) (fun hc_33 => ?_)
      · refine e_aload_n (pc := 46) dX5_urge_46 rfl ?_
        refine e_bipush (pc := 47) (v := (-2)) dX5_urge_47 (by decide) ?_
        refine e_self1i (pc := 49) dX5_urge_49 cs_X5_urge_120 cv_X5_refuse rc_X5_refuse rfl (by decide) (Nat.le_of_ble_eq_true rfl) (ev_X5_refuse _ (k := 2) (by decide) (by decide)) ?_
        refine r_iret (pc := 52) dX5_urge_52 rfl ?_
        unfold m_urge
        repeat (first | rw [if_pos (by grind)] | rw [if_neg (by grind)])
        try rfl
      · refine e_aload_n (pc := 36) dX5_urge_36 rfl ?_
        refine e_getA (pc := 37) dX5_urge_37 f_5_41 rfl rfl ?_
        refine e_iload_n (pc := 40) dX5_urge_40 rfl ?_
        first | refine e_ialdN (pc := 41) dX5_urge_41 rfl (by omega) (by decide) ?_ | refine e_iald (pc := 41) dX5_urge_41 rfl (by assumption) ?_
        refine e_iconst (pc := 42) (v := 3) dX5_urge_42 (by decide) ?_
        refine e_icmp_ne (pc := 43) (tgt := 53) dX5_urge_43 (by decide) (fun hc_43 => ?_) (fun hc_43 => ?_)
        · refine e_aload_n (pc := 53) dX5_urge_53 rfl ?_
          refine e_getA (pc := 54) dX5_urge_54 f_5_41 rfl rfl ?_
          refine e_iload_n (pc := 57) dX5_urge_57 rfl ?_
          refine e_iconst (pc := 58) (v := 2) dX5_urge_58 (by decide) ?_
          first | refine e_iastN (pc := 59) dX5_urge_59 rfl (by omega) (by decide) ?_ | refine e_iast (pc := 59) dX5_urge_59 rfl (by assumption) ?_
          refine e_aload_n (pc := 60) dX5_urge_60 rfl ?_
          refine e_getA (pc := 61) dX5_urge_61 f_5_56 rfl rfl ?_
          refine e_iload_n (pc := 64) dX5_urge_64 rfl ?_
          refine e_bipush (pc := 65) (v := (-9)) dX5_urge_65 (by decide) ?_
          first | refine e_iastN (pc := 67) dX5_urge_67 rfl (by omega) (by decide) ?_ | refine e_iast (pc := 67) dX5_urge_67 rfl (by assumption) ?_
          refine e_iconst (pc := 68) (v := 1) dX5_urge_68 (by decide) ?_
          refine r_iret (pc := 69) dX5_urge_69 rfl ?_
          unfold m_urge
          repeat (first | rw [if_pos (by grind)] | rw [if_neg (by grind)])
          try rfl
        · refine e_aload_n (pc := 46) dX5_urge_46 rfl ?_
          refine e_bipush (pc := 47) (v := (-2)) dX5_urge_47 (by decide) ?_
          refine e_self1i (pc := 49) dX5_urge_49 cs_X5_urge_120 cv_X5_refuse rc_X5_refuse rfl (by decide) (Nat.le_of_ble_eq_true rfl) (ev_X5_refuse _ (k := 2) (by decide) (by decide)) ?_
          refine r_iret (pc := 52) dX5_urge_52 rfl ?_
          unfold m_urge
          repeat (first | rw [if_pos (by grind)] | rw [if_neg (by grind)])
          try rfl
  · exact absurd hc_8 (by rw [bI_t (by rw [hsz]; exact cr_ix_in hk (by omega))]; decide)
set_option maxHeartbeats 1000000 in
theorem ev_X5_urge_n (N : cr_M) {cn : Nat} (h : Int32) (hsz : N 0 5 = nI cn) (hh : ¬ (0 ≤ h ∧ h < nI cn)) : cr_EvM Y_X5_urge [.inr (.inr 0), .inl h] N (some (.inl (-1)), n_ref N 1) := by
  refine e_iload_n (pc := 0) dX5_urge_0 rfl ?_
  refine e_aload_n (pc := 1) dX5_urge_1 rfl ?_
  refine e_getI (pc := 2) dX5_urge_2 f_5_142 rfl rfl ?_
  refine e_stat2i (pc := 5) dX5_urge_5 cs_X5_urge_130 st_X5_isIn rfl (by decide) (Nat.le_of_ble_eq_true rfl) (ev_X5_isIn _ _ _) ?_
  refine e_if_ne (pc := 8) (tgt := 17) dX5_urge_8 (by decide) (fun hc_8 => ?_) (fun hc_8 => ?_)
  · exact absurd (bI_f (by rw [hsz]; exact hh)) hc_8
  · refine e_aload_n (pc := 11) dX5_urge_11 rfl ?_
    refine e_iconst (pc := 12) (v := (-1)) dX5_urge_12 (by decide) ?_
    refine e_self1i (pc := 13) dX5_urge_13 cs_X5_urge_120 cv_X5_refuse rc_X5_refuse rfl (by decide) (Nat.le_of_ble_eq_true rfl) (ev_X5_refuse _ (k := 1) (by decide) (by decide)) ?_
    refine r_iret (pc := 16) dX5_urge_16 rfl ?_
    rfl
set_option maxHeartbeats 1000000 in
theorem ev_X5_pass {hn cn : Nat} {N : cr_M} {c s : Nat} (l : Int32) (hsz : N 0 5 = nI cn) (h200 : cn ≤ 200) (h10 : hn ≤ 10) (hk : c < cn) (hs : s < 4) (hON : N 16 c = 1 → ∃ k, k < hn ∧ N 18 c = nI k) : cr_EvM Y_X5_pass [.inr (.inr 0), .inl (nI c), .inl (nI s), .inl l] N (some (.inl (m_pass N c (nI s) l).1), (m_pass N c (nI s) l).2) := by
  refine e_iload_n (pc := 0) dX5_pass_0 rfl ?_
  refine e_aload_n (pc := 1) dX5_pass_1 rfl ?_
  refine e_getI (pc := 2) dX5_pass_2 f_5_142 rfl rfl ?_
  refine e_stat2i (pc := 5) dX5_pass_5 cs_X5_pass_130 st_X5_isIn rfl (by decide) (Nat.le_of_ble_eq_true rfl) (ev_X5_isIn _ _ _) ?_
  refine e_if_eq (pc := 8) (tgt := 19) dX5_pass_8 (by decide) (fun hc_8 => ?_) (fun hc_8 => ?_)
  · have q1 : 0 ≤ nI s ∧ nI s < 4 := cr_ix_in (n := 4) hs (by decide)
    have q2 := cr_ix_in hk (by omega)
    rw [← hsz] at q2
    exfalso
    grind [bI_eq0]
  · refine e_iload_n (pc := 11) dX5_pass_11 rfl ?_
    refine e_iconst (pc := 12) (v := 4) dX5_pass_12 (by decide) ?_
    refine e_stat2i (pc := 13) dX5_pass_13 cs_X5_pass_130 st_X5_isIn rfl (by decide) (Nat.le_of_ble_eq_true rfl) (ev_X5_isIn _ _ _) ?_
    refine e_if_ne (pc := 16) (tgt := 25) dX5_pass_16 (by decide) (fun hc_16 => ?_) (fun hc_16 => ?_)
    · refine e_aload_n (pc := 25) dX5_pass_25 rfl ?_
      refine e_getA (pc := 26) dX5_pass_26 f_5_59 rfl rfl ?_
      refine e_iload_n (pc := 29) dX5_pass_29 rfl ?_
      first | refine e_ialdN (pc := 30) dX5_pass_30 rfl (by omega) (by decide) ?_ | refine e_iald (pc := 30) dX5_pass_30 rfl (by assumption) ?_
      refine e_iconst (pc := 31) (v := 1) dX5_pass_31 (by decide) ?_
      refine e_icmp_eq (pc := 32) (tgt := 42) dX5_pass_32 (by decide) (fun hc_32 => ?_) (fun hc_32 => ?_)
      · refine e_iload_n (pc := 42) dX5_pass_42 rfl ?_
        refine e_iconst (pc := 43) (v := 1) dX5_pass_43 (by decide) ?_
        refine e_icmp_ge (pc := 44) (tgt := 54) dX5_pass_44 (by decide) (fun hc_44 => ?_) (fun hc_44 => ?_)
        · refine e_iload_n (pc := 54) dX5_pass_54 rfl ?_
          refine e_sipush (pc := 55) (v := 1000) dX5_pass_55 (by decide) ?_
          refine e_icmp_le (pc := 58) (tgt := 68) dX5_pass_58 (by decide) (fun hc_58 => ?_) (fun hc_58 => ?_)
          · obtain ⟨k, hk2, h18⟩ := hON hc_32
            refine e_aload_n (pc := 68) dX5_pass_68 rfl ?_
            refine e_getA (pc := 69) dX5_pass_69 f_5_65 rfl rfl ?_
            refine e_iload_n (pc := 72) dX5_pass_72 rfl ?_
            refine e_ialdV (pc := 73) (nI k) dX5_pass_73 rfl (by omega) (by decide) h18 ?_
            refine e_istore (pc := 74) dX5_pass_74 (by decide) ?_
            refine e_aload_n (pc := 76) dX5_pass_76 rfl ?_
            refine e_getA (pc := 77) dX5_pass_77 f_5_59 rfl rfl ?_
            refine e_iload_n (pc := 80) dX5_pass_80 rfl ?_
            refine e_iconst (pc := 81) (v := 0) dX5_pass_81 (by decide) ?_
            first | refine e_iastN (pc := 82) dX5_pass_82 rfl (by omega) (by decide) ?_ | refine e_iast (pc := 82) dX5_pass_82 rfl (by assumption) ?_
            refine e_aload_n (pc := 83) dX5_pass_83 rfl ?_
            refine e_getA (pc := 84) dX5_pass_84 f_5_44 rfl rfl ?_
            refine e_iload_n (pc := 87) dX5_pass_87 rfl ?_
            refine e_iload_n (pc := 88) dX5_pass_88 rfl ?_
            first | refine e_iastN (pc := 89) dX5_pass_89 rfl (by omega) (by decide) ?_ | refine e_iast (pc := 89) dX5_pass_89 rfl (by assumption) ?_
            refine e_aload_n (pc := 90) dX5_pass_90 rfl ?_
            refine e_getA (pc := 91) dX5_pass_91 f_5_47 rfl rfl ?_
            refine e_iload_n (pc := 94) dX5_pass_94 rfl ?_
            refine e_iload_n (pc := 95) dX5_pass_95 rfl ?_
            first | refine e_iastN (pc := 96) dX5_pass_96 rfl (by omega) (by decide) ?_ | refine e_iast (pc := 96) dX5_pass_96 rfl (by assumption) ?_
            refine e_aload_n (pc := 97) dX5_pass_97 rfl ?_
            refine e_getA (pc := 98) dX5_pass_98 f_5_62 rfl rfl ?_
            refine e_iload_n (pc := 101) dX5_pass_101 rfl ?_
            refine e_aload_n (pc := 102) dX5_pass_102 rfl ?_
            refine e_getI (pc := 103) dX5_pass_103 f_5_127 rfl rfl ?_
            first | refine e_iastN (pc := 106) dX5_pass_106 rfl (by omega) (by decide) ?_ | refine e_iast (pc := 106) dX5_pass_106 rfl (by assumption) ?_
            refine e_aload_n (pc := 107) dX5_pass_107 rfl ?_
            refine e_getA (pc := 108) dX5_pass_108 f_5_65 rfl rfl ?_
            refine e_iload_n (pc := 111) dX5_pass_111 rfl ?_
            refine e_bipush (pc := 112) (v := (-9)) dX5_pass_112 (by decide) ?_
            first | refine e_iastN (pc := 114) dX5_pass_114 rfl (by omega) (by decide) ?_ | refine e_iast (pc := 114) dX5_pass_114 rfl (by assumption) ?_
            refine e_aload_n (pc := 115) dX5_pass_115 rfl ?_
            refine e_getA (pc := 116) dX5_pass_116 f_5_68 rfl rfl ?_
            refine e_iload_n (pc := 119) dX5_pass_119 rfl ?_
            refine e_bipush (pc := 120) (v := (-9)) dX5_pass_120 (by decide) ?_
            first | refine e_iastN (pc := 122) dX5_pass_122 rfl (by omega) (by decide) ?_ | refine e_iast (pc := 122) dX5_pass_122 rfl (by assumption) ?_
            refine e_aload_n (pc := 123) dX5_pass_123 rfl ?_
            refine e_iload (pc := 124) dX5_pass_124 rfl ?_
            refine e_self1v (pc := 126) dX5_pass_126 cs_X5_pass_148 cv_X5_loses rc_X5_loses rfl (by decide) (Nat.le_of_ble_eq_true rfl) (ev_X5_loses _ (by omega)) ?_
            refine e_iload (pc := 129) dX5_pass_129 rfl ?_
            refine r_iret (pc := 131) dX5_pass_131 rfl ?_
            unfold m_pass
            rw [if_pos hc_32, if_neg (by grind), if_neg (by grind), h18, nI_clamp (by omega)]
            rfl
          · refine e_aload_n (pc := 61) dX5_pass_61 rfl ?_
            refine e_bipush (pc := 62) (v := (-6)) dX5_pass_62 (by decide) ?_
            refine e_self1i (pc := 64) dX5_pass_64 cs_X5_pass_120 cv_X5_refuse rc_X5_refuse rfl (by decide) (Nat.le_of_ble_eq_true rfl) (ev_X5_refuse _ (k := 6) (by decide) (by decide)) ?_
            refine r_iret (pc := 67) dX5_pass_67 rfl ?_
            unfold m_pass
            repeat (first | rw [if_pos (by grind)] | rw [if_neg (by grind)])
            try rfl
        · refine e_aload_n (pc := 47) dX5_pass_47 rfl ?_
          refine e_bipush (pc := 48) (v := (-4)) dX5_pass_48 (by decide) ?_
          refine e_self1i (pc := 50) dX5_pass_50 cs_X5_pass_120 cv_X5_refuse rc_X5_refuse rfl (by decide) (Nat.le_of_ble_eq_true rfl) (ev_X5_refuse _ (k := 4) (by decide) (by decide)) ?_
          refine r_iret (pc := 53) dX5_pass_53 rfl ?_
          unfold m_pass
          repeat (first | rw [if_pos (by grind)] | rw [if_neg (by grind)])
          try rfl
      · refine e_aload_n (pc := 35) dX5_pass_35 rfl ?_
        refine e_bipush (pc := 36) (v := (-2)) dX5_pass_36 (by decide) ?_
        refine e_self1i (pc := 38) dX5_pass_38 cs_X5_pass_120 cv_X5_refuse rc_X5_refuse rfl (by decide) (Nat.le_of_ble_eq_true rfl) (ev_X5_refuse _ (k := 2) (by decide) (by decide)) ?_
        refine r_iret (pc := 41) dX5_pass_41 rfl ?_
        unfold m_pass
        repeat (first | rw [if_pos (by grind)] | rw [if_neg (by grind)])
        try rfl
    · have q1 : 0 ≤ nI s ∧ nI s < 4 := cr_ix_in (n := 4) hs (by decide)
      have q2 := cr_ix_in hk (by omega)
      rw [← hsz] at q2
      exfalso
      grind [bI_eq0]
set_option maxHeartbeats 1000000 in
theorem ev_X5_pass_n (N : cr_M) {cn : Nat} (h s l : Int32) (hsz : N 0 5 = nI cn) (hh : ¬ (0 ≤ h ∧ h < nI cn) ∨ ¬ (0 ≤ s ∧ s < 4)) : cr_EvM Y_X5_pass [.inr (.inr 0), .inl h, .inl s, .inl l] N (some (.inl (-1)), n_ref N 1) := by
  refine e_iload_n (pc := 0) dX5_pass_0 rfl ?_
  refine e_aload_n (pc := 1) dX5_pass_1 rfl ?_
  refine e_getI (pc := 2) dX5_pass_2 f_5_142 rfl rfl ?_
  refine e_stat2i (pc := 5) dX5_pass_5 cs_X5_pass_130 st_X5_isIn rfl (by decide) (Nat.le_of_ble_eq_true rfl) (ev_X5_isIn _ _ _) ?_
  refine e_if_eq (pc := 8) (tgt := 19) dX5_pass_8 (by decide) (fun hc_8 => ?_) (fun hc_8 => ?_)
  · refine e_aload_n (pc := 19) dX5_pass_19 rfl ?_
    refine e_iconst (pc := 20) (v := (-1)) dX5_pass_20 (by decide) ?_
    refine e_self1i (pc := 21) dX5_pass_21 cs_X5_pass_120 cv_X5_refuse rc_X5_refuse rfl (by decide) (Nat.le_of_ble_eq_true rfl) (ev_X5_refuse _ (k := 1) (by decide) (by decide)) ?_
    refine r_iret (pc := 24) dX5_pass_24 rfl ?_
    rfl
  · refine e_iload_n (pc := 11) dX5_pass_11 rfl ?_
    refine e_iconst (pc := 12) (v := 4) dX5_pass_12 (by decide) ?_
    refine e_stat2i (pc := 13) dX5_pass_13 cs_X5_pass_130 st_X5_isIn rfl (by decide) (Nat.le_of_ble_eq_true rfl) (ev_X5_isIn _ _ _) ?_
    refine e_if_ne (pc := 16) (tgt := 25) dX5_pass_16 (by decide) (fun hc_16 => ?_) (fun hc_16 => ?_)
    · rw [hsz] at hc_8
      grind [bI_eq0]
    · refine e_aload_n (pc := 19) dX5_pass_19 rfl ?_
      refine e_iconst (pc := 20) (v := (-1)) dX5_pass_20 (by decide) ?_
      refine e_self1i (pc := 21) dX5_pass_21 cs_X5_pass_120 cv_X5_refuse rc_X5_refuse rfl (by decide) (Nat.le_of_ble_eq_true rfl) (ev_X5_refuse _ (k := 1) (by decide) (by decide)) ?_
      refine r_iret (pc := 24) dX5_pass_24 rfl ?_
      rfl
set_option maxHeartbeats 1000000 in
theorem ev_X5_want (N : cr_M) {q : Nat} (n : Int32) (hq : q < 16) : cr_EvM Y_X5_want [.inr (.inr 0), .inl (nI q), .inl n] N (some (.inl (m_want N q n).1), (m_want N q n).2) := by
  refine e_iload_n (pc := 0) dX5_want_0 rfl ?_
  refine e_bipush (pc := 1) (v := 16) dX5_want_1 (by decide) ?_
  refine e_stat2i (pc := 3) dX5_want_3 cs_X5_want_130 st_X5_isIn rfl (by decide) (Nat.le_of_ble_eq_true rfl) (ev_X5_isIn _ _ _) ?_
  refine e_if_ne (pc := 6) (tgt := 15) dX5_want_6 (by decide) (fun hc_6 => ?_) (fun hc_6 => ?_)
  · refine e_iload_n (pc := 15) dX5_want_15 rfl ?_
    refine e_if_ge (pc := 16) (tgt := 26) dX5_want_16 (by decide) (fun hc_16 => ?_) (fun hc_16 => ?_)
    · refine e_iload_n (pc := 26) dX5_want_26 rfl ?_
      refine e_bipush (pc := 27) (v := 50) dX5_want_27 (by decide) ?_
      refine e_icmp_le (pc := 29) (tgt := 39) dX5_want_29 (by decide) (fun hc_29 => ?_) (fun hc_29 => ?_)
      · refine e_aload_n (pc := 39) dX5_want_39 rfl ?_
        refine e_getA (pc := 40) dX5_want_40 f_5_13 rfl rfl ?_
        refine e_iload_n (pc := 43) dX5_want_43 rfl ?_
        first | refine e_ialdN (pc := 44) dX5_want_44 rfl (by omega) (by decide) ?_ | refine e_iald (pc := 44) dX5_want_44 rfl (by assumption) ?_
        refine e_istore_n (pc := 45) dX5_want_45 (by decide) ?_
        refine e_aload_n (pc := 46) dX5_want_46 rfl ?_
        refine e_getA (pc := 47) dX5_want_47 f_5_13 rfl rfl ?_
        refine e_iload_n (pc := 50) dX5_want_50 rfl ?_
        refine e_iload_n (pc := 51) dX5_want_51 rfl ?_
        first | refine e_iastN (pc := 52) dX5_want_52 rfl (by omega) (by decide) ?_ | refine e_iast (pc := 52) dX5_want_52 rfl (by assumption) ?_
        refine e_iload_n (pc := 53) dX5_want_53 rfl ?_
        refine r_iret (pc := 54) dX5_want_54 rfl ?_
        unfold m_want
        repeat (first | rw [if_pos (by grind)] | rw [if_neg (by grind)])
        try rfl
      · refine e_aload_n (pc := 32) dX5_want_32 rfl ?_
        refine e_bipush (pc := 33) (v := (-6)) dX5_want_33 (by decide) ?_
        refine e_self1i (pc := 35) dX5_want_35 cs_X5_want_120 cv_X5_refuse rc_X5_refuse rfl (by decide) (Nat.le_of_ble_eq_true rfl) (ev_X5_refuse _ (k := 6) (by decide) (by decide)) ?_
        refine r_iret (pc := 38) dX5_want_38 rfl ?_
        unfold m_want
        repeat (first | rw [if_pos (by grind)] | rw [if_neg (by grind)])
        try rfl
    · refine e_aload_n (pc := 19) dX5_want_19 rfl ?_
      refine e_bipush (pc := 20) (v := (-4)) dX5_want_20 (by decide) ?_
      refine e_self1i (pc := 22) dX5_want_22 cs_X5_want_120 cv_X5_refuse rc_X5_refuse rfl (by decide) (Nat.le_of_ble_eq_true rfl) (ev_X5_refuse _ (k := 4) (by decide) (by decide)) ?_
      refine r_iret (pc := 25) dX5_want_25 rfl ?_
      unfold m_want
      repeat (first | rw [if_pos (by grind)] | rw [if_neg (by grind)])
      try rfl
  · exact absurd hc_6 (by rw [bI_t (show 0 ≤ nI q ∧ nI q < 16 from cr_ix_in (n := 16) hq (by decide))]; decide)
set_option maxHeartbeats 1000000 in
theorem ev_X5_want_n (N : cr_M) (q n : Int32) (hq : ¬ (0 ≤ q ∧ q < 16)) : cr_EvM Y_X5_want [.inr (.inr 0), .inl q, .inl n] N (some (.inl (-1)), n_ref N 1) := by
  refine e_iload_n (pc := 0) dX5_want_0 rfl ?_
  refine e_bipush (pc := 1) (v := 16) dX5_want_1 (by decide) ?_
  refine e_stat2i (pc := 3) dX5_want_3 cs_X5_want_130 st_X5_isIn rfl (by decide) (Nat.le_of_ble_eq_true rfl) (ev_X5_isIn _ _ _) ?_
  refine e_if_ne (pc := 6) (tgt := 15) dX5_want_6 (by decide) (fun hc_6 => ?_) (fun hc_6 => ?_)
  · exact absurd (bI_f hq) hc_6
  · refine e_aload_n (pc := 9) dX5_want_9 rfl ?_
    refine e_iconst (pc := 10) (v := (-1)) dX5_want_10 (by decide) ?_
    refine e_self1i (pc := 11) dX5_want_11 cs_X5_want_120 cv_X5_refuse rc_X5_refuse rfl (by decide) (Nat.le_of_ble_eq_true rfl) (ev_X5_refuse _ (k := 1) (by decide) (by decide)) ?_
    refine r_iret (pc := 14) dX5_want_14 rfl ?_
    rfl
set_option maxHeartbeats 1000000 in
theorem ev_X5_begins (N : cr_M) {q : Nat} (hq : q < 16) : cr_EvM Y_X5_begins [.inr (.inr 0), .inl (nI q)] N (some (.inl (N 3 q)), N) := by
  refine e_iload_n (pc := 0) dX5_begins_0 rfl ?_
  refine e_bipush (pc := 1) (v := 16) dX5_begins_1 (by decide) ?_
  refine e_stat2i (pc := 3) dX5_begins_3 cs_X5_begins_130 st_X5_isIn rfl (by decide) (Nat.le_of_ble_eq_true rfl) (ev_X5_isIn _ _ _) ?_
  refine e_if_eq (pc := 6) (tgt := 18) dX5_begins_6 (by decide) (fun hc_6 => ?_) (fun hc_6 => ?_)
  · exact absurd hc_6 (by rw [bI_t (show 0 ≤ nI q ∧ nI q < 16 from cr_ix_in (n := 16) hq (by decide))]; decide)
  · refine e_aload_n (pc := 9) dX5_begins_9 rfl ?_
    refine e_getA (pc := 10) dX5_begins_10 f_5_16 rfl rfl ?_
    refine e_iload_n (pc := 13) dX5_begins_13 rfl ?_
    first | refine e_ialdN (pc := 14) dX5_begins_14 rfl (by omega) (by decide) ?_ | refine e_iald (pc := 14) dX5_begins_14 rfl (by assumption) ?_
    refine e_goto (pc := 15) (tgt := 23) dX5_begins_15 (by decide) ?_
    refine r_iret (pc := 23) dX5_begins_23 rfl ?_
    rfl
set_option maxHeartbeats 1000000 in
theorem ev_X5_begins_n (N : cr_M) (q : Int32) (hq : ¬ (0 ≤ q ∧ q < 16)) : cr_EvM Y_X5_begins [.inr (.inr 0), .inl q] N (some (.inl (-1)), n_ref N 1) := by
  refine e_iload_n (pc := 0) dX5_begins_0 rfl ?_
  refine e_bipush (pc := 1) (v := 16) dX5_begins_1 (by decide) ?_
  refine e_stat2i (pc := 3) dX5_begins_3 cs_X5_begins_130 st_X5_isIn rfl (by decide) (Nat.le_of_ble_eq_true rfl) (ev_X5_isIn _ _ _) ?_
  refine e_if_eq (pc := 6) (tgt := 18) dX5_begins_6 (by decide) (fun hc_6 => ?_) (fun hc_6 => ?_)
  · refine e_aload_n (pc := 18) dX5_begins_18 rfl ?_
    refine e_iconst (pc := 19) (v := (-1)) dX5_begins_19 (by decide) ?_
    refine e_self1i (pc := 20) dX5_begins_20 cs_X5_begins_120 cv_X5_refuse rc_X5_refuse rfl (by decide) (Nat.le_of_ble_eq_true rfl) (ev_X5_refuse _ (k := 1) (by decide) (by decide)) ?_
    refine r_iret (pc := 23) dX5_begins_23 rfl ?_
    rfl
  · exact absurd (bI_f hq) hc_6
set_option maxHeartbeats 1000000 in
theorem lp_X5_within {cn : Nat} {N : cr_M} {x : Int32} (hsz : N 0 5 = nI cn) (h200 : cn ≤ 200) : ∀ (n j : Nat) (z : Int32), j + n = cn → (z = n_wi N x j) → cr_Ev Y_X5_within 15 [(3, .inl (nI j)), (0, .inr (.inr 0)), (1, .inl x), (2, .inl z)] [] N (some (.inl (n_wi N x cn)), N) := by
  intro n
  induction n with
  | zero =>
    intro j z hj hz
    refine e_iload_n (pc := 15) dX5_within_15 rfl ?_
    refine e_aload_n (pc := 16) dX5_within_16 rfl ?_
    refine e_getI (pc := 17) dX5_within_17 f_5_142 rfl rfl ?_
    refine e_icmp_ge (pc := 20) (tgt := 58) dX5_within_20 (by decide) (fun hc_20 => ?_) (fun hc_20 => ?_)
    · refine e_iload_n (pc := 58) dX5_within_58 rfl ?_
      refine r_iret (pc := 59) dX5_within_59 rfl ?_
      rw [hz, show j = cn by omega]
    · exact absurd (show N 0 5 ≤ nI j by rw [hsz]; exact nI_le (by omega) (by omega)) (by assumption)
  | succ n ih =>
    intro j z hj hz
    refine e_iload_n (pc := 15) dX5_within_15 rfl ?_
    refine e_aload_n (pc := 16) dX5_within_16 rfl ?_
    refine e_getI (pc := 17) dX5_within_17 f_5_142 rfl rfl ?_
    refine e_icmp_ge (pc := 20) (tgt := 58) dX5_within_20 (by decide) (fun hc_20 => ?_) (fun hc_20 => ?_)
    · exact absurd (show N 0 5 ≤ nI j by assumption) (by rw [hsz]; exact nI_ge (by omega) (by omega))
    · refine e_iload_n (pc := 23) dX5_within_23 rfl ?_
      refine e_aload_n (pc := 24) dX5_within_24 rfl ?_
      refine e_getA (pc := 25) dX5_within_25 f_5_74 rfl rfl ?_
      refine e_iload_n (pc := 28) dX5_within_28 rfl ?_
      first | refine e_ialdN (pc := 29) dX5_within_29 rfl (by omega) (by decide) ?_ | refine e_iald (pc := 29) dX5_within_29 rfl (by assumption) ?_
      refine e_bipush (pc := 30) (v := (-9)) dX5_within_30 (by decide) ?_
      refine e_icmp_eq (pc := 32) (tgt := 49) dX5_within_32 (by decide) (fun hc_32 => ?_) (fun hc_32 => ?_)
      · refine e_iconst (pc := 49) (v := 0) dX5_within_49 (by decide) ?_
        refine e_iadd (pc := 50) dX5_within_50 ?_
        refine e_istore_n (pc := 51) dX5_within_51 (by decide) ?_
        first | refine e_iinc1 (pc := 52) dX5_within_52 rfl (by decide) ?_ | refine e_iincp (pc := 52) dX5_within_52 rfl (by decide) ?_
        refine e_goto (pc := 55) (tgt := 15) dX5_within_55 (by decide) ?_
        exact e_wk (ih (j + 1) _ (by omega) (by rw [n_wi, hz]; first | rw [bI_t (by grind)] | rw [bI_f (by grind)])) ⟨rfl, rfl, rfl, rfl, trivial⟩
      · refine e_aload_n (pc := 35) dX5_within_35 rfl ?_
        refine e_getA (pc := 36) dX5_within_36 f_5_74 rfl rfl ?_
        refine e_iload_n (pc := 39) dX5_within_39 rfl ?_
        first | refine e_ialdN (pc := 40) dX5_within_40 rfl (by omega) (by decide) ?_ | refine e_iald (pc := 40) dX5_within_40 rfl (by assumption) ?_
        refine e_iload_n (pc := 41) dX5_within_41 rfl ?_
        refine e_icmp_gt (pc := 42) (tgt := 49) dX5_within_42 (by decide) (fun hc_42 => ?_) (fun hc_42 => ?_)
        · refine e_iconst (pc := 49) (v := 0) dX5_within_49 (by decide) ?_
          refine e_iadd (pc := 50) dX5_within_50 ?_
          refine e_istore_n (pc := 51) dX5_within_51 (by decide) ?_
          first | refine e_iinc1 (pc := 52) dX5_within_52 rfl (by decide) ?_ | refine e_iincp (pc := 52) dX5_within_52 rfl (by decide) ?_
          refine e_goto (pc := 55) (tgt := 15) dX5_within_55 (by decide) ?_
          exact e_wk (ih (j + 1) _ (by omega) (by rw [n_wi, hz]; first | rw [bI_t (by grind)] | rw [bI_f (by grind)])) ⟨rfl, rfl, rfl, rfl, trivial⟩
        · refine e_iconst (pc := 45) (v := 1) dX5_within_45 (by decide) ?_
          refine e_goto (pc := 46) (tgt := 50) dX5_within_46 (by decide) ?_
          refine e_iadd (pc := 50) dX5_within_50 ?_
          refine e_istore_n (pc := 51) dX5_within_51 (by decide) ?_
          first | refine e_iinc1 (pc := 52) dX5_within_52 rfl (by decide) ?_ | refine e_iincp (pc := 52) dX5_within_52 rfl (by decide) ?_
          refine e_goto (pc := 55) (tgt := 15) dX5_within_55 (by decide) ?_
          exact e_wk (ih (j + 1) _ (by omega) (by rw [n_wi, hz]; first | rw [bI_t (by grind)] | rw [bI_f (by grind)])) ⟨rfl, rfl, rfl, rfl, trivial⟩
set_option maxHeartbeats 1000000 in
theorem ev_X5_within {cn : Nat} (N : cr_M) (x : Int32) (hsz : N 0 5 = nI cn) (h200 : cn ≤ 200) : cr_EvM Y_X5_within [.inr (.inr 0), .inl x] N (some (.inl (m_within cn N x).1), (m_within cn N x).2) := by
  refine e_iload_n (pc := 0) dX5_within_0 rfl ?_
  refine e_if_ge (pc := 1) (tgt := 11) dX5_within_1 (by decide) (fun hc_1 => ?_) (fun hc_1 => ?_)
  · refine e_iconst (pc := 11) (v := 0) dX5_within_11 (by decide) ?_
    refine e_istore_n (pc := 12) dX5_within_12 (by decide) ?_
    refine e_iconst (pc := 13) (v := 0) dX5_within_13 (by decide) ?_
    refine e_istore_n (pc := 14) dX5_within_14 (by decide) ?_
    rw [show m_within cn N x = (n_wi N x cn, N) by unfold m_within; rw [if_neg (by grind)]]
    exact e_wk (lp_X5_within hsz h200 cn 0 _ (by omega) rfl) ⟨rfl, rfl, rfl, rfl, trivial⟩
  · refine e_aload_n (pc := 4) dX5_within_4 rfl ?_
    refine e_bipush (pc := 5) (v := (-4)) dX5_within_5 (by decide) ?_
    refine e_self1i (pc := 7) dX5_within_7 cs_X5_within_120 cv_X5_refuse rc_X5_refuse rfl (by decide) (Nat.le_of_ble_eq_true rfl) (ev_X5_refuse _ (k := 4) (by decide) (by decide)) ?_
    refine r_iret (pc := 10) dX5_within_10 rfl ?_
    unfold m_within
    repeat (first | rw [if_pos (by grind)] | rw [if_neg (by grind)])
    try rfl
set_option maxHeartbeats 1000000 in
theorem lp_X5_inState {cn : Nat} {N : cr_M} {x : Int32} (hsz : N 0 5 = nI cn) (h200 : cn ≤ 200) : ∀ (n j : Nat) (z : Int32), j + n = cn → (z = n_is N x j) → cr_Ev Y_X5_inState 4 [(3, .inl (nI j)), (0, .inr (.inr 0)), (1, .inl x), (2, .inl z)] [] N (some (.inl (n_is N x cn)), N) := by
  intro n
  induction n with
  | zero =>
    intro j z hj hz
    refine e_iload_n (pc := 4) dX5_inState_4 rfl ?_
    refine e_aload_n (pc := 5) dX5_inState_5 rfl ?_
    refine e_getI (pc := 6) dX5_inState_6 f_5_142 rfl rfl ?_
    refine e_icmp_ge (pc := 9) (tgt := 36) dX5_inState_9 (by decide) (fun hc_9 => ?_) (fun hc_9 => ?_)
    · refine e_iload_n (pc := 36) dX5_inState_36 rfl ?_
      refine r_iret (pc := 37) dX5_inState_37 rfl ?_
      rw [hz, show j = cn by omega]
    · exact absurd (show N 0 5 ≤ nI j by rw [hsz]; exact nI_le (by omega) (by omega)) (by assumption)
  | succ n ih =>
    intro j z hj hz
    refine e_iload_n (pc := 4) dX5_inState_4 rfl ?_
    refine e_aload_n (pc := 5) dX5_inState_5 rfl ?_
    refine e_getI (pc := 6) dX5_inState_6 f_5_142 rfl rfl ?_
    refine e_icmp_ge (pc := 9) (tgt := 36) dX5_inState_9 (by decide) (fun hc_9 => ?_) (fun hc_9 => ?_)
    · exact absurd (show N 0 5 ≤ nI j by assumption) (by rw [hsz]; exact nI_ge (by omega) (by omega))
    · refine e_iload_n (pc := 12) dX5_inState_12 rfl ?_
      refine e_aload_n (pc := 13) dX5_inState_13 rfl ?_
      refine e_getA (pc := 14) dX5_inState_14 f_5_59 rfl rfl ?_
      refine e_iload_n (pc := 17) dX5_inState_17 rfl ?_
      first | refine e_ialdN (pc := 18) dX5_inState_18 rfl (by omega) (by decide) ?_ | refine e_iald (pc := 18) dX5_inState_18 rfl (by assumption) ?_
      refine e_iload_n (pc := 19) dX5_inState_19 rfl ?_
      refine e_icmp_ne (pc := 20) (tgt := 27) dX5_inState_20 (by decide) (fun hc_20 => ?_) (fun hc_20 => ?_)
      · refine e_iconst (pc := 27) (v := 0) dX5_inState_27 (by decide) ?_
        refine e_iadd (pc := 28) dX5_inState_28 ?_
        refine e_istore_n (pc := 29) dX5_inState_29 (by decide) ?_
        first | refine e_iinc1 (pc := 30) dX5_inState_30 rfl (by decide) ?_ | refine e_iincp (pc := 30) dX5_inState_30 rfl (by decide) ?_
        refine e_goto (pc := 33) (tgt := 4) dX5_inState_33 (by decide) ?_
        exact e_wk (ih (j + 1) _ (by omega) (by rw [n_is, hz]; first | rw [bI_t (by grind)] | rw [bI_f (by grind)])) ⟨rfl, rfl, rfl, rfl, trivial⟩
      · refine e_iconst (pc := 23) (v := 1) dX5_inState_23 (by decide) ?_
        refine e_goto (pc := 24) (tgt := 28) dX5_inState_24 (by decide) ?_
        refine e_iadd (pc := 28) dX5_inState_28 ?_
        refine e_istore_n (pc := 29) dX5_inState_29 (by decide) ?_
        first | refine e_iinc1 (pc := 30) dX5_inState_30 rfl (by decide) ?_ | refine e_iincp (pc := 30) dX5_inState_30 rfl (by decide) ?_
        refine e_goto (pc := 33) (tgt := 4) dX5_inState_33 (by decide) ?_
        exact e_wk (ih (j + 1) _ (by omega) (by rw [n_is, hz]; first | rw [bI_t (by grind)] | rw [bI_f (by grind)])) ⟨rfl, rfl, rfl, rfl, trivial⟩
set_option maxHeartbeats 1000000 in
theorem ev_X5_inState {cn : Nat} (N : cr_M) (x : Int32) (hsz : N 0 5 = nI cn) (h200 : cn ≤ 200) : cr_EvM Y_X5_inState [.inr (.inr 0), .inl x] N (some (.inl (n_is N x cn)), N) := by
  refine e_iconst (pc := 0) (v := 0) dX5_inState_0 (by decide) ?_
  refine e_istore_n (pc := 1) dX5_inState_1 (by decide) ?_
  refine e_iconst (pc := 2) (v := 0) dX5_inState_2 (by decide) ?_
  refine e_istore_n (pc := 3) dX5_inState_3 (by decide) ?_
  exact e_wk (lp_X5_inState hsz h200 cn 0 _ (by omega) rfl) ⟨rfl, rfl, rfl, rfl, trivial⟩
