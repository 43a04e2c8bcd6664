set_option maxHeartbeats 1000000 in
theorem ev_X5_refuse (N : cr_M) {x : Int32} {k : Nat} (hx : -x = nI k) (hk : k < 7) : cr_EvM Y_X5_refuse [.inr (.inr 0), .inl x] N (some (.inl x), n_ref N k) := by
  refine e_aload_n (pc := 0) dX5_refuse_0 rfl ?_
  refine e_getA (pc := 1) dX5_refuse_1 f_5_7 rfl rfl ?_
  refine e_iload_n (pc := 4) dX5_refuse_4 rfl ?_
  refine e_ineg (pc := 5) dX5_refuse_5 ?_
  rw [hx]
  refine e_dup2 (pc := 6) dX5_refuse_6 ?_
  first | refine e_ialdN (pc := 7) dX5_refuse_7 rfl (by omega) (by decide) ?_ | refine e_iald (pc := 7) dX5_refuse_7 rfl (by assumption) ?_
  refine e_iconst (pc := 8) (v := 1) dX5_refuse_8 (by decide) ?_
  refine e_iadd (pc := 9) dX5_refuse_9 ?_
  first | refine e_iastN (pc := 10) dX5_refuse_10 rfl (by omega) (by decide) ?_ | refine e_iast (pc := 10) dX5_refuse_10 rfl (by assumption) ?_
  refine e_iload_n (pc := 11) dX5_refuse_11 rfl ?_
  refine r_iret (pc := 12) dX5_refuse_12 rfl ?_
  rfl
set_option maxHeartbeats 1000000 in
theorem ev_X5_isIn (N : cr_M) (x n : Int32) : cr_EvM Y_X5_isIn [.inl x, .inl n] N (some (.inl (bI (0 ≤ x ∧ x < n))), N) := by
  refine e_iload_n (pc := 0) dX5_isIn_0 rfl ?_
  refine e_if_lt (pc := 1) (tgt := 13) dX5_isIn_1 (by decide) (fun hc_1 => ?_) (fun hc_1 => ?_)
  · refine e_iconst (pc := 13) (v := 0) dX5_isIn_13 (by decide) ?_
    refine r_zret (pc := 14) dX5_isIn_14 rfl (by first | exact Or.inl rfl | exact Or.inr rfl | exact bI_01 _ | assumption) ?_
    first | exact rt_t (by grind) | exact rt_f (by grind)
  · refine e_iload_n (pc := 4) dX5_isIn_4 rfl ?_
    refine e_iload_n (pc := 5) dX5_isIn_5 rfl ?_
    refine e_icmp_ge (pc := 6) (tgt := 13) dX5_isIn_6 (by decide) (fun hc_6 => ?_) (fun hc_6 => ?_)
    · refine e_iconst (pc := 13) (v := 0) dX5_isIn_13 (by decide) ?_
      refine r_zret (pc := 14) dX5_isIn_14 rfl (by first | exact Or.inl rfl | exact Or.inr rfl | exact bI_01 _ | assumption) ?_
      first | exact rt_t (by grind) | exact rt_f (by grind)
    · refine e_iconst (pc := 9) (v := 1) dX5_isIn_9 (by decide) ?_
      refine e_goto (pc := 10) (tgt := 14) dX5_isIn_10 (by decide) ?_
      refine r_zret (pc := 14) dX5_isIn_14 rfl (by first | exact Or.inl rfl | exact Or.inr rfl | exact bI_01 _ | assumption) ?_
      first | exact rt_t (by grind) | exact rt_f (by grind)
set_option maxHeartbeats 1000000 in
theorem ev_X5_gradeOf (N : cr_M) {k s : Nat} (hk : k < 10) (hs : s < 4) : cr_EvM Y_X5_gradeOf [.inr (.inr 0), .inl (nI k), .inl (nI s)] N (some (.inl (N 4 (4 * k + s))), N) := by
  refine e_aload_n (pc := 0) dX5_gradeOf_0 rfl ?_
  refine e_getA (pc := 1) dX5_gradeOf_1 f_5_23 rfl rfl ?_
  refine e_iconst (pc := 4) (v := 4) dX5_gradeOf_4 (by decide) ?_
  refine e_iload_n (pc := 5) dX5_gradeOf_5 rfl ?_
  refine e_imul (pc := 6) dX5_gradeOf_6 ?_
  refine e_iload_n (pc := 7) dX5_gradeOf_7 rfl ?_
  refine e_iadd (pc := 8) dX5_gradeOf_8 ?_
  rw [show (4 : Int32) * nI k + nI s = nI (4 * k + s) by rw [show (4 : Int32) = nI 4 from rfl, pk_mul, nI_add]]
  first | refine e_ialdN (pc := 9) dX5_gradeOf_9 rfl (by omega) (by decide) ?_ | refine e_iald (pc := 9) dX5_gradeOf_9 rfl (by assumption) ?_
  refine r_iret (pc := 10) dX5_gradeOf_10 rfl ?_
  rfl
set_option maxHeartbeats 1000000 in
theorem ev_X5_becomes (N : cr_M) {k : Nat} (w : Int32) (hk : k < 10) : cr_EvM Y_X5_becomes [.inr (.inr 0), .inl (nI k), .inl w] N (none, n_bec N k w) := by
  refine e_aload_n (pc := 0) dX5_becomes_0 rfl ?_
  refine e_getA (pc := 1) dX5_becomes_1 f_5_26 rfl rfl ?_
  refine e_iload_n (pc := 4) dX5_becomes_4 rfl ?_
  refine e_iload_n (pc := 5) dX5_becomes_5 rfl ?_
  first | refine e_iastN (pc := 6) dX5_becomes_6 rfl (by omega) (by decide) ?_ | refine e_iast (pc := 6) dX5_becomes_6 rfl (by assumption) ?_
  refine e_aload_n (pc := 7) dX5_becomes_7 rfl ?_
  refine e_getA (pc := 8) dX5_becomes_8 f_5_29 rfl rfl ?_
  refine e_iload_n (pc := 11) dX5_becomes_11 rfl ?_
  refine e_aload_n (pc := 12) dX5_becomes_12 rfl ?_
  refine e_getI (pc := 13) dX5_becomes_13 f_5_127 rfl rfl ?_
  first | refine e_iastN (pc := 16) dX5_becomes_16 rfl (by omega) (by decide) ?_ | refine e_iast (pc := 16) dX5_becomes_16 rfl (by assumption) ?_
  refine r_vret (pc := 17) dX5_becomes_17 rfl ?_
  rfl
set_option maxHeartbeats 1000000 in
theorem ev_X5_loses (N : cr_M) {k : Nat} (hk : k < 10) : cr_EvM Y_X5_loses [.inr (.inr 0), .inl (nI k)] N (none, n_los N k) := by
  refine e_aload_n (pc := 0) dX5_loses_0 rfl ?_
  refine e_getA (pc := 1) dX5_loses_1 f_5_77 rfl rfl ?_
  refine e_iload_n (pc := 4) dX5_loses_4 rfl ?_
  refine e_dup2 (pc := 5) dX5_loses_5 ?_
  first | refine e_ialdN (pc := 6) dX5_loses_6 rfl (by omega) (by decide) ?_ | refine e_iald (pc := 6) dX5_loses_6 rfl (by assumption) ?_
  refine e_iconst (pc := 7) (v := 1) dX5_loses_7 (by decide) ?_
  refine e_isub (pc := 8) dX5_loses_8 ?_
  first | refine e_iastN (pc := 9) dX5_loses_9 rfl (by omega) (by decide) ?_ | refine e_iast (pc := 9) dX5_loses_9 rfl (by assumption) ?_
  refine e_aload_n (pc := 10) dX5_loses_10 rfl ?_
  refine e_iload_n (pc := 11) dX5_loses_11 rfl ?_
  refine e_aload_n (pc := 12) dX5_loses_12 rfl ?_
  refine e_getA (pc := 13) dX5_loses_13 f_5_77 rfl rfl ?_
  refine e_iload_n (pc := 16) dX5_loses_16 rfl ?_
  first | refine e_ialdN (pc := 17) dX5_loses_17 rfl (by omega) (by decide) ?_ | refine e_iald (pc := 17) dX5_loses_17 rfl (by assumption) ?_
  refine e_if_ne (pc := 18) (tgt := 25) dX5_loses_18 (by decide) (fun hc_18 => ?_) (fun hc_18 => ?_)
  · refine e_iconst (pc := 25) (v := 2) dX5_loses_25 (by decide) ?_
    refine e_self2v (pc := 26) dX5_loses_26 cs_X5_loses_138 cv_X5_becomes rc_X5_becomes rfl (by decide) (Nat.le_of_ble_eq_true rfl) (ev_X5_becomes _ _ hk) ?_
    refine r_vret (pc := 29) dX5_loses_29 rfl ?_
    unfold n_los
    first | (rw [if_pos (by grind [cr_rd])]; done) | rw [if_neg (by grind [cr_rd])]
  · refine e_iconst (pc := 21) (v := 1) dX5_loses_21 (by decide) ?_
    refine e_goto (pc := 22) (tgt := 26) dX5_loses_22 (by decide) ?_
    refine e_self2v (pc := 26) dX5_loses_26 cs_X5_loses_138 cv_X5_becomes rc_X5_becomes rfl (by decide) (Nat.le_of_ble_eq_true rfl) (ev_X5_becomes _ _ hk) ?_
    refine r_vret (pc := 29) dX5_loses_29 rfl ?_
    unfold n_los
    first | (rw [if_pos (by grind [cr_rd])]; done) | rw [if_neg (by grind [cr_rd])]
set_option maxHeartbeats 1000000 in
theorem ev_X5_waitedOf (N : cr_M) {c : Nat} (hc : c < 200) : cr_EvM Y_X5_waitedOf [.inr (.inr 0), .inl (nI c)] N (some (.inl (N 0 3 - N 17 c)), N) := by
  refine e_aload_n (pc := 0) dX5_waitedOf_0 rfl ?_
  refine e_getI (pc := 1) dX5_waitedOf_1 f_5_127 rfl rfl ?_
  refine e_aload_n (pc := 4) dX5_waitedOf_4 rfl ?_
  refine e_getA (pc := 5) dX5_waitedOf_5 f_5_62 rfl rfl ?_
  refine e_iload_n (pc := 8) dX5_waitedOf_8 rfl ?_
  first | refine e_ialdN (pc := 9) dX5_waitedOf_9 rfl (by omega) (by decide) ?_ | refine e_iald (pc := 9) dX5_waitedOf_9 rfl (by assumption) ?_
  refine e_isub (pc := 10) dX5_waitedOf_10 ?_
  refine r_iret (pc := 11) dX5_waitedOf_11 rfl ?_
  rfl
set_option maxHeartbeats 1000000 in
theorem ev_X5_hasRoom (N : cr_M) {k : Nat} (hk : k < 10) : cr_EvM Y_X5_hasRoom [.inr (.inr 0), .inl (nI k)] N (some (.inl (bI (¬ N 24 k = 0 ∧ N 22 k < 3))), N) := by
  refine e_aload_n (pc := 0) dX5_hasRoom_0 rfl ?_
  refine e_getA (pc := 1) dX5_hasRoom_1 f_5_83 rfl rfl ?_
  refine e_iload_n (pc := 4) dX5_hasRoom_4 rfl ?_
  first | refine e_zaldN (pc := 5) dX5_hasRoom_5 rfl (by omega) (by decide) ?_ | refine e_zald (pc := 5) dX5_hasRoom_5 rfl (by assumption) ?_
  refine e_if_eq (pc := 6) (tgt := 23) dX5_hasRoom_6 (by decide) (fun hc_6 => ?_) (fun hc_6 => ?_)
  · refine e_iconst (pc := 23) (v := 0) dX5_hasRoom_23 (by decide) ?_
    refine r_zret (pc := 24) dX5_hasRoom_24 rfl (by first | exact Or.inl rfl | exact Or.inr rfl | exact bI_01 _ | assumption) ?_
    first | exact rt_t (by grind) | exact rt_f (by grind)
  · refine e_aload_n (pc := 9) dX5_hasRoom_9 rfl ?_
    refine e_getA (pc := 10) dX5_hasRoom_10 f_5_77 rfl rfl ?_
    refine e_iload_n (pc := 13) dX5_hasRoom_13 rfl ?_
    first | refine e_ialdN (pc := 14) dX5_hasRoom_14 rfl (by omega) (by decide) ?_ | refine e_iald (pc := 14) dX5_hasRoom_14 rfl (by assumption) ?_
    refine e_iconst (pc := 15) (v := 3) dX5_hasRoom_15 (by decide) ?_
    refine e_icmp_ge (pc := 16) (tgt := 23) dX5_hasRoom_16 (by decide) (fun hc_16 => ?_) (fun hc_16 => ?_)
    · refine e_iconst (pc := 23) (v := 0) dX5_hasRoom_23 (by decide) ?_
      refine r_zret (pc := 24) dX5_hasRoom_24 rfl (by first | exact Or.inl rfl | exact Or.inr rfl | exact bI_01 _ | assumption) ?_
      first | exact rt_t (by grind) | exact rt_f (by grind)
    · refine e_iconst (pc := 19) (v := 1) dX5_hasRoom_19 (by decide) ?_
      refine e_goto (pc := 20) (tgt := 24) dX5_hasRoom_20 (by decide) ?_
      refine r_zret (pc := 24) dX5_hasRoom_24 rfl (by first | exact Or.inl rfl | exact Or.inr rfl | exact bI_01 _ | assumption) ?_
      first | exact rt_t (by grind) | exact rt_f (by grind)
set_option maxHeartbeats 1000000 in
theorem ev_X5_may (N : cr_M) {k c s : Nat} (hk : k < 10) (hc : c < 200) (hs : s < 4) (hsc : N 11 c = nI s) : cr_EvM Y_X5_may [.inr (.inr 0), .inl (nI k), .inl (nI c)] N (some (.inl (bI (n_may N k c))), N) := by
  have hsn : n_s N c = s := by show (N 11 c).toNatClampNeg = s; rw [hsc]; exact nI_clamp (by omega)
  unfold n_may
  rw [hsn]
  refine e_aload_n (pc := 0) dX5_may_0 rfl ?_
  refine e_getA (pc := 1) dX5_may_1 f_5_59 rfl rfl ?_
  refine e_iload_n (pc := 4) dX5_may_4 rfl ?_
  first | refine e_ialdN (pc := 5) dX5_may_5 rfl (by omega) (by decide) ?_ | refine e_iald (pc := 5) dX5_may_5 rfl (by assumption) ?_
  refine e_if_ne (pc := 6) (tgt := 23) dX5_may_6 (by decide) (fun hc_6 => ?_) (fun hc_6 => ?_)
  · refine e_iconst (pc := 23) (v := 0) dX5_may_23 (by decide) ?_
    refine r_zret (pc := 24) dX5_may_24 rfl (by first | exact Or.inl rfl | exact Or.inr rfl | exact bI_01 _ | assumption) ?_
    first | exact rt_t (by grind [bI_eq0]) | exact rt_f (by grind [bI_eq0])
  · refine e_aload_n (pc := 9) dX5_may_9 rfl ?_
    refine e_iload_n (pc := 10) dX5_may_10 rfl ?_
    refine e_aload_n (pc := 11) dX5_may_11 rfl ?_
    refine e_getA (pc := 12) dX5_may_12 f_5_44 rfl rfl ?_
    refine e_iload_n (pc := 15) dX5_may_15 rfl ?_
    first | refine e_ialdN (pc := 16) dX5_may_16 rfl (by omega) (by decide) ?_ | refine e_iald (pc := 16) dX5_may_16 rfl (by assumption) ?_
    rw [hsc]
    refine e_self2i (pc := 17) dX5_may_17 cs_X5_may_134 cv_X5_gradeOf rc_X5_gradeOf rfl (by decide) (Nat.le_of_ble_eq_true rfl) (ev_X5_gradeOf N hk hs) ?_
    refine e_if_ne (pc := 20) (tgt := 25) dX5_may_20 (by decide) (fun hc_20 => ?_) (fun hc_20 => ?_)
    · refine e_aload_n (pc := 25) dX5_may_25 rfl ?_
      refine e_getA (pc := 26) dX5_may_26 f_5_26 rfl rfl ?_
      refine e_iload_n (pc := 29) dX5_may_29 rfl ?_
      first | refine e_ialdN (pc := 30) dX5_may_30 rfl (by omega) (by decide) ?_ | refine e_iald (pc := 30) dX5_may_30 rfl (by assumption) ?_
      refine e_iconst (pc := 31) (v := 1) dX5_may_31 (by decide) ?_
      refine e_icmp_eq (pc := 32) (tgt := 65) dX5_may_32 (by decide) (fun hc_32 => ?_) (fun hc_32 => ?_)
      · refine e_aload_n (pc := 65) dX5_may_65 rfl ?_
        refine e_getA (pc := 66) dX5_may_66 f_5_41 rfl rfl ?_
        refine e_iload_n (pc := 69) dX5_may_69 rfl ?_
        first | refine e_ialdN (pc := 70) dX5_may_70 rfl (by omega) (by decide) ?_ | refine e_iald (pc := 70) dX5_may_70 rfl (by assumption) ?_
        refine e_iconst (pc := 71) (v := 1) dX5_may_71 (by decide) ?_
        refine e_icmp_ne (pc := 72) (tgt := 97) dX5_may_72 (by decide) (fun hc_72 => ?_) (fun hc_72 => ?_)
        · refine e_iconst (pc := 97) (v := 1) dX5_may_97 (by decide) ?_
          refine e_goto (pc := 98) (tgt := 102) dX5_may_98 (by decide) ?_
          refine r_zret (pc := 102) dX5_may_102 rfl (by first | exact Or.inl rfl | exact Or.inr rfl | exact bI_01 _ | assumption) ?_
          first | exact rt_t (by grind [bI_eq0]) | exact rt_f (by grind [bI_eq0])
        · refine e_aload_n (pc := 75) dX5_may_75 rfl ?_
          refine e_iload_n (pc := 76) dX5_may_76 rfl ?_
          refine e_self1i (pc := 77) dX5_may_77 cs_X5_may_156 cv_X5_waitedOf rc_X5_waitedOf rfl (by decide) (Nat.le_of_ble_eq_true rfl) (ev_X5_waitedOf N hc) ?_
          refine e_aload_n (pc := 80) dX5_may_80 rfl ?_
          refine e_getI (pc := 81) dX5_may_81 f_5_19 rfl rfl ?_
          refine e_icmp_ge (pc := 84) (tgt := 97) dX5_may_84 (by decide) (fun hc_84 => ?_) (fun hc_84 => ?_)
          · refine e_iconst (pc := 97) (v := 1) dX5_may_97 (by decide) ?_
            refine e_goto (pc := 98) (tgt := 102) dX5_may_98 (by decide) ?_
            refine r_zret (pc := 102) dX5_may_102 rfl (by first | exact Or.inl rfl | exact Or.inr rfl | exact bI_01 _ | assumption) ?_
            first | exact rt_t (by grind [bI_eq0]) | exact rt_f (by grind [bI_eq0])
          · refine e_aload_n (pc := 87) dX5_may_87 rfl ?_
            refine e_getA (pc := 88) dX5_may_88 f_5_56 rfl rfl ?_
            refine e_iload_n (pc := 91) dX5_may_91 rfl ?_
            first | refine e_ialdN (pc := 92) dX5_may_92 rfl (by omega) (by decide) ?_ | refine e_iald (pc := 92) dX5_may_92 rfl (by assumption) ?_
            refine e_iload_n (pc := 93) dX5_may_93 rfl ?_
            refine e_icmp_ne (pc := 94) (tgt := 101) dX5_may_94 (by decide) (fun hc_94 => ?_) (fun hc_94 => ?_)
            · refine e_iconst (pc := 101) (v := 0) dX5_may_101 (by decide) ?_
              refine r_zret (pc := 102) dX5_may_102 rfl (by first | exact Or.inl rfl | exact Or.inr rfl | exact bI_01 _ | assumption) ?_
              first | exact rt_t (by grind [bI_eq0]) | exact rt_f (by grind [bI_eq0])
            · refine e_iconst (pc := 97) (v := 1) dX5_may_97 (by decide) ?_
              refine e_goto (pc := 98) (tgt := 102) dX5_may_98 (by decide) ?_
              refine r_zret (pc := 102) dX5_may_102 rfl (by first | exact Or.inl rfl | exact Or.inr rfl | exact bI_01 _ | assumption) ?_
              first | exact rt_t (by grind [bI_eq0]) | exact rt_f (by grind [bI_eq0])
      · refine e_aload_n (pc := 35) dX5_may_35 rfl ?_
        refine e_getA (pc := 36) dX5_may_36 f_5_26 rfl rfl ?_
        refine e_iload_n (pc := 39) dX5_may_39 rfl ?_
        first | refine e_ialdN (pc := 40) dX5_may_40 rfl (by omega) (by decide) ?_ | refine e_iald (pc := 40) dX5_may_40 rfl (by assumption) ?_
        refine e_iconst (pc := 41) (v := 2) dX5_may_41 (by decide) ?_
        refine e_icmp_ne (pc := 42) (tgt := 63) dX5_may_42 (by decide) (fun hc_42 => ?_) (fun hc_42 => ?_)
        · refine e_iconst (pc := 63) (v := 0) dX5_may_63 (by decide) ?_
          refine r_zret (pc := 64) dX5_may_64 rfl (by first | exact Or.inl rfl | exact Or.inr rfl | exact bI_01 _ | assumption) ?_
          first | exact rt_t (by grind [bI_eq0]) | exact rt_f (by grind [bI_eq0])
        · refine e_aload_n (pc := 45) dX5_may_45 rfl ?_
          refine e_getA (pc := 46) dX5_may_46 f_5_41 rfl rfl ?_
          refine e_iload_n (pc := 49) dX5_may_49 rfl ?_
          first | refine e_ialdN (pc := 50) dX5_may_50 rfl (by omega) (by decide) ?_ | refine e_iald (pc := 50) dX5_may_50 rfl (by assumption) ?_
          refine e_iconst (pc := 51) (v := 3) dX5_may_51 (by decide) ?_
          refine e_icmp_ne (pc := 52) (tgt := 63) dX5_may_52 (by decide) (fun hc_52 => ?_) (fun hc_52 => ?_)
          · refine e_iconst (pc := 63) (v := 0) dX5_may_63 (by decide) ?_
            refine r_zret (pc := 64) dX5_may_64 rfl (by first | exact Or.inl rfl | exact Or.inr rfl | exact bI_01 _ | assumption) ?_
            first | exact rt_t (by grind [bI_eq0]) | exact rt_f (by grind [bI_eq0])
          · refine e_aload_n (pc := 55) dX5_may_55 rfl ?_
            refine e_iload_n (pc := 56) dX5_may_56 rfl ?_
            refine e_self1i (pc := 57) dX5_may_57 cs_X5_may_152 cv_X5_hasRoom rc_X5_hasRoom rfl (by decide) (Nat.le_of_ble_eq_true rfl) (ev_X5_hasRoom N hk) ?_
            refine e_if_ne (pc := 60) (tgt := 65) dX5_may_60 (by decide) (fun hc_60 => ?_) (fun hc_60 => ?_)
            · refine e_aload_n (pc := 65) dX5_may_65 rfl ?_
              refine e_getA (pc := 66) dX5_may_66 f_5_41 rfl rfl ?_
              refine e_iload_n (pc := 69) dX5_may_69 rfl ?_
              first | refine e_ialdN (pc := 70) dX5_may_70 rfl (by omega) (by decide) ?_ | refine e_iald (pc := 70) dX5_may_70 rfl (by assumption) ?_
              refine e_iconst (pc := 71) (v := 1) dX5_may_71 (by decide) ?_
              refine e_icmp_ne (pc := 72) (tgt := 97) dX5_may_72 (by decide) (fun hc_72 => ?_) (fun hc_72 => ?_)
              · refine e_iconst (pc := 97) (v := 1) dX5_may_97 (by decide) ?_
                refine e_goto (pc := 98) (tgt := 102) dX5_may_98 (by decide) ?_
                refine r_zret (pc := 102) dX5_may_102 rfl (by first | exact Or.inl rfl | exact Or.inr rfl | exact bI_01 _ | assumption) ?_
                first | exact rt_t (by grind [bI_eq0]) | exact rt_f (by grind [bI_eq0])
              · refine e_aload_n (pc := 75) dX5_may_75 rfl ?_
                refine e_iload_n (pc := 76) dX5_may_76 rfl ?_
                refine e_self1i (pc := 77) dX5_may_77 cs_X5_may_156 cv_X5_waitedOf rc_X5_waitedOf rfl (by decide) (Nat.le_of_ble_eq_true rfl) (ev_X5_waitedOf N hc) ?_
                refine e_aload_n (pc := 80) dX5_may_80 rfl ?_
                refine e_getI (pc := 81) dX5_may_81 f_5_19 rfl rfl ?_
                refine e_icmp_ge (pc := 84) (tgt := 97) dX5_may_84 (by decide) (fun hc_84 => ?_) (fun hc_84 => ?_)
                · refine e_iconst (pc := 97) (v := 1) dX5_may_97 (by decide) ?_
                  refine e_goto (pc := 98) (tgt := 102) dX5_may_98 (by decide) ?_
                  refine r_zret (pc := 102) dX5_may_102 rfl (by first | exact Or.inl rfl | exact Or.inr rfl | exact bI_01 _ | assumption) ?_
                  first | exact rt_t (by grind [bI_eq0]) | exact rt_f (by grind [bI_eq0])
                · refine e_aload_n (pc := 87) dX5_may_87 rfl ?_
                  refine e_getA (pc := 88) dX5_may_88 f_5_56 rfl rfl ?_
                  refine e_iload_n (pc := 91) dX5_may_91 rfl ?_
                  first | refine e_ialdN (pc := 92) dX5_may_92 rfl (by omega) (by decide) ?_ | refine e_iald (pc := 92) dX5_may_92 rfl (by assumption) ?_
                  refine e_iload_n (pc := 93) dX5_may_93 rfl ?_
                  refine e_icmp_ne (pc := 94) (tgt := 101) dX5_may_94 (by decide) (fun hc_94 => ?_) (fun hc_94 => ?_)
                  · refine e_iconst (pc := 101) (v := 0) dX5_may_101 (by decide) ?_
                    refine r_zret (pc := 102) dX5_may_102 rfl (by first | exact Or.inl rfl | exact Or.inr rfl | exact bI_01 _ | assumption) ?_
                    first | exact rt_t (by grind [bI_eq0]) | exact rt_f (by grind [bI_eq0])
                  · refine e_iconst (pc := 97) (v := 1) dX5_may_97 (by decide) ?_
                    refine e_goto (pc := 98) (tgt := 102) dX5_may_98 (by decide) ?_
                    refine r_zret (pc := 102) dX5_may_102 rfl (by first | exact Or.inl rfl | exact Or.inr rfl | exact bI_01 _ | assumption) ?_
                    first | exact rt_t (by grind [bI_eq0]) | exact rt_f (by grind [bI_eq0])
            · refine e_iconst (pc := 63) (v := 0) dX5_may_63 (by decide) ?_
              refine r_zret (pc := 64) dX5_may_64 rfl (by first | exact Or.inl rfl | exact Or.inr rfl | exact bI_01 _ | assumption) ?_
              first | exact rt_t (by grind [bI_eq0]) | exact rt_f (by grind [bI_eq0])
    · refine e_iconst (pc := 23) (v := 0) dX5_may_23 (by decide) ?_
      refine r_zret (pc := 24) dX5_may_24 rfl (by first | exact Or.inl rfl | exact Or.inr rfl | exact bI_01 _ | assumption) ?_
      first | exact rt_t (by grind [bI_eq0]) | exact rt_f (by grind [bI_eq0])
set_option maxHeartbeats 1000000 in
theorem lp_X5_isTakeable {hn cn : Nat} {N : cr_M} {c : Nat} (hW : n_W hn cn N) (hc : c < cn) : ∀ (n j : Nat) (z : Int32), j + n = hn → z = bI (∃ i, i < j ∧ n_may N i c) → cr_Ev Y_X5_isTakeable 4 [(3, .inl (nI j)), (0, .inr (.inr 0)), (1, .inl (nI c)), (2, .inl z)] [] N (some (.inl (bI (n_tk hn N c))), N) := by
  obtain ⟨h10, h200, hsz, -, hall⟩ := hW
  obtain ⟨⟨s, hs, hsc⟩, -⟩ := hall c hc
  unfold n_tk
  intro n
  induction n with
  | zero =>
    intro j z hj hz
    have hz01 := bI_01 (∃ i, i < j ∧ n_may N i c)
    rw [← hz] at hz01
    refine e_iload_n (pc := 4) dX5_isTakeable_4 rfl ?_
    refine e_aload_n (pc := 5) dX5_isTakeable_5 rfl ?_
    refine e_getI (pc := 6) dX5_isTakeable_6 f_5_124 rfl rfl ?_
    refine e_icmp_ge (pc := 9) (tgt := 29) dX5_isTakeable_9 (by decide) (fun hc_9 => ?_) (fun hc_9 => ?_)
    · refine e_iload_n (pc := 29) dX5_isTakeable_29 rfl ?_
      refine r_zret (pc := 30) dX5_isTakeable_30 rfl (by first | exact Or.inl rfl | exact Or.inr rfl | exact bI_01 _ | assumption) ?_
      first
        | exact rt_i (by rw [hz]; exact bI_congr (by have hj2 : hn ≤ j := (nI_leI (by omega) (by omega)).mp (hsz ▸ hc_9); grind))
        | exact rt_i (by rw [hz] at hc_13 ⊢; rw [bI_eq0, Classical.not_not] at hc_13; exact bI_congr (by grind))
    · exact absurd (show N 0 4 ≤ nI j by rw [hsz]; exact nI_le (by omega) (by omega)) (by assumption)
  | succ n ih =>
    intro j z hj hz
    have hz01 := bI_01 (∃ i, i < j ∧ n_may N i c)
    rw [← hz] at hz01
    refine e_iload_n (pc := 4) dX5_isTakeable_4 rfl ?_
    refine e_aload_n (pc := 5) dX5_isTakeable_5 rfl ?_
    refine e_getI (pc := 6) dX5_isTakeable_6 f_5_124 rfl rfl ?_
    refine e_icmp_ge (pc := 9) (tgt := 29) dX5_isTakeable_9 (by decide) (fun hc_9 => ?_) (fun hc_9 => ?_)
    · refine e_iload_n (pc := 29) dX5_isTakeable_29 rfl ?_
      refine r_zret (pc := 30) dX5_isTakeable_30 rfl (by first | exact Or.inl rfl | exact Or.inr rfl | exact bI_01 _ | assumption) ?_
      first
        | exact rt_i (by rw [hz]; exact bI_congr (by have hj2 : hn ≤ j := (nI_leI (by omega) (by omega)).mp (hsz ▸ hc_9); grind))
        | exact rt_i (by rw [hz] at hc_13 ⊢; rw [bI_eq0, Classical.not_not] at hc_13; exact bI_congr (by grind))
    · refine e_iload_n (pc := 12) dX5_isTakeable_12 rfl ?_
      refine e_if_ne (pc := 13) (tgt := 29) dX5_isTakeable_13 (by decide) (fun hc_13 => ?_) (fun hc_13 => ?_)
      · refine e_iload_n (pc := 29) dX5_isTakeable_29 rfl ?_
        refine r_zret (pc := 30) dX5_isTakeable_30 rfl (by first | exact Or.inl rfl | exact Or.inr rfl | exact bI_01 _ | assumption) ?_
        first
          | exact rt_i (by rw [hz]; exact bI_congr (by have hj2 : hn ≤ j := (nI_leI (by omega) (by omega)).mp (hsz ▸ hc_9); grind))
          | exact rt_i (by rw [hz] at hc_13 ⊢; rw [bI_eq0, Classical.not_not] at hc_13; exact bI_congr (by grind))
      · refine e_aload_n (pc := 16) dX5_isTakeable_16 rfl ?_
        refine e_iload_n (pc := 17) dX5_isTakeable_17 rfl ?_
        refine e_iload_n (pc := 18) dX5_isTakeable_18 rfl ?_
        refine e_self2i (pc := 19) dX5_isTakeable_19 cs_X5_isTakeable_159 cv_X5_may rc_X5_may rfl (by decide) (Nat.le_of_ble_eq_true rfl) (ev_X5_may N (by omega) (by omega) hs hsc) ?_
        refine e_istore_n (pc := 22) dX5_isTakeable_22 (by decide) ?_
        first | refine e_iinc1 (pc := 23) dX5_isTakeable_23 rfl (by decide) ?_ | refine e_iincp (pc := 23) dX5_isTakeable_23 rfl (by decide) ?_
        refine e_goto (pc := 26) (tgt := 4) dX5_isTakeable_26 (by decide) ?_
        exact e_wk (ih (j + 1) _ (by omega) (by rw [hz, bI_eq0] at hc_13; exact bI_congr (by grind))) ⟨rfl, rfl, rfl, rfl, trivial⟩
set_option maxHeartbeats 1000000 in
theorem ev_X5_isTakeable {hn cn : Nat} {N : cr_M} {c : Nat} (hW : n_W hn cn N) (hc : c < cn) : cr_EvM Y_X5_isTakeable [.inr (.inr 0), .inl (nI c)] N (some (.inl (bI (n_tk hn N c))), N) := by
  refine e_iconst (pc := 0) (v := 0) dX5_isTakeable_0 (by decide) ?_
  refine e_istore_n (pc := 1) dX5_isTakeable_1 (by decide) ?_
  refine e_iconst (pc := 2) (v := 0) dX5_isTakeable_2 (by decide) ?_
  refine e_istore_n (pc := 3) dX5_isTakeable_3 (by decide) ?_
  exact e_wk (lp_X5_isTakeable hW hc hn 0 _ (by omega) (bI_f (by rintro ⟨i, hi, -⟩; omega)).symm) ⟨rfl, rfl, rfl, rfl, trivial⟩
set_option maxHeartbeats 1000000 in
theorem lp_X5_freeFor {hn cn : Nat} {N : cr_M} {s : Nat} (hW : n_W hn cn N) (hs : s < 4) : ∀ (n j : Nat) (z : Int32), j + n = hn → (z = n_ff N s j) → cr_Ev Y_X5_freeFor 4 [(3, .inl (nI j)), (0, .inr (.inr 0)), (1, .inl (nI s)), (2, .inl z)] [] N (some (.inl (n_ff N s hn)), N) := by
  obtain ⟨h10, h200, hsz, -, -⟩ := hW
  intro n
  induction n with
  | zero =>
    intro j z hj hz
    refine e_iload_n (pc := 4) dX5_freeFor_4 rfl ?_
    refine e_aload_n (pc := 5) dX5_freeFor_5 rfl ?_
    refine e_getI (pc := 6) dX5_freeFor_6 f_5_124 rfl rfl ?_
    refine e_icmp_ge (pc := 9) (tgt := 45) dX5_freeFor_9 (by decide) (fun hc_9 => ?_) (fun hc_9 => ?_)
    · refine e_iload_n (pc := 45) dX5_freeFor_45 rfl ?_
      refine r_iret (pc := 46) dX5_freeFor_46 rfl ?_
      rw [hz, show j = hn by omega]
    · exact absurd (show N 0 4 ≤ nI j by rw [hsz]; exact nI_le (by omega) (by omega)) (by assumption)
  | succ n ih =>
    intro j z hj hz
    refine e_iload_n (pc := 4) dX5_freeFor_4 rfl ?_
    refine e_aload_n (pc := 5) dX5_freeFor_5 rfl ?_
    refine e_getI (pc := 6) dX5_freeFor_6 f_5_124 rfl rfl ?_
    refine e_icmp_ge (pc := 9) (tgt := 45) dX5_freeFor_9 (by decide) (fun hc_9 => ?_) (fun hc_9 => ?_)
    · exact absurd (show N 0 4 ≤ nI j by assumption) (by rw [hsz]; exact nI_ge (by omega) (by omega))
    · refine e_iload_n (pc := 12) dX5_freeFor_12 rfl ?_
      refine e_aload_n (pc := 13) dX5_freeFor_13 rfl ?_
      refine e_getA (pc := 14) dX5_freeFor_14 f_5_26 rfl rfl ?_
      refine e_iload_n (pc := 17) dX5_freeFor_17 rfl ?_
      first | refine e_ialdN (pc := 18) dX5_freeFor_18 rfl (by omega) (by decide) ?_ | refine e_iald (pc := 18) dX5_freeFor_18 rfl (by assumption) ?_
      refine e_iconst (pc := 19) (v := 1) dX5_freeFor_19 (by decide) ?_
      refine e_icmp_ne (pc := 20) (tgt := 36) dX5_freeFor_20 (by decide) (fun hc_20 => ?_) (fun hc_20 => ?_)
      · refine e_iconst (pc := 36) (v := 0) dX5_freeFor_36 (by decide) ?_
        refine e_iadd (pc := 37) dX5_freeFor_37 ?_
        refine e_istore_n (pc := 38) dX5_freeFor_38 (by decide) ?_
        first | refine e_iinc1 (pc := 39) dX5_freeFor_39 rfl (by decide) ?_ | refine e_iincp (pc := 39) dX5_freeFor_39 rfl (by decide) ?_
        refine e_goto (pc := 42) (tgt := 4) dX5_freeFor_42 (by decide) ?_
        exact e_wk (ih (j + 1) _ (by omega) (by rw [n_ff, hz]; first | rw [bI_t (by grind)] | rw [bI_f (by grind)])) ⟨rfl, rfl, rfl, rfl, trivial⟩
      · refine e_aload_n (pc := 23) dX5_freeFor_23 rfl ?_
        refine e_iload_n (pc := 24) dX5_freeFor_24 rfl ?_
        refine e_iload_n (pc := 25) dX5_freeFor_25 rfl ?_
        refine e_self2i (pc := 26) dX5_freeFor_26 cs_X5_freeFor_134 cv_X5_gradeOf rc_X5_gradeOf rfl (by decide) (Nat.le_of_ble_eq_true rfl) (ev_X5_gradeOf N (by omega) hs) ?_
        refine e_if_le (pc := 29) (tgt := 36) dX5_freeFor_29 (by decide) (fun hc_29 => ?_) (fun hc_29 => ?_)
        · refine e_iconst (pc := 36) (v := 0) dX5_freeFor_36 (by decide) ?_
          refine e_iadd (pc := 37) dX5_freeFor_37 ?_
          refine e_istore_n (pc := 38) dX5_freeFor_38 (by decide) ?_
          first | refine e_iinc1 (pc := 39) dX5_freeFor_39 rfl (by decide) ?_ | refine e_iincp (pc := 39) dX5_freeFor_39 rfl (by decide) ?_
          refine e_goto (pc := 42) (tgt := 4) dX5_freeFor_42 (by decide) ?_
          exact e_wk (ih (j + 1) _ (by omega) (by rw [n_ff, hz]; first | rw [bI_t (by grind)] | rw [bI_f (by grind)])) ⟨rfl, rfl, rfl, rfl, trivial⟩
        · refine e_iconst (pc := 32) (v := 1) dX5_freeFor_32 (by decide) ?_
          refine e_goto (pc := 33) (tgt := 37) dX5_freeFor_33 (by decide) ?_
          refine e_iadd (pc := 37) dX5_freeFor_37 ?_
          refine e_istore_n (pc := 38) dX5_freeFor_38 (by decide) ?_
          first | refine e_iinc1 (pc := 39) dX5_freeFor_39 rfl (by decide) ?_ | refine e_iincp (pc := 39) dX5_freeFor_39 rfl (by decide) ?_
          refine e_goto (pc := 42) (tgt := 4) dX5_freeFor_42 (by decide) ?_
          exact e_wk (ih (j + 1) _ (by omega) (by rw [n_ff, hz]; first | rw [bI_t (by grind)] | rw [bI_f (by grind)])) ⟨rfl, rfl, rfl, rfl, trivial⟩
set_option maxHeartbeats 1000000 in
theorem ev_X5_freeFor {hn cn : Nat} {N : cr_M} {s : Nat} (hW : n_W hn cn N) (hs : s < 4) : cr_EvM Y_X5_freeFor [.inr (.inr 0), .inl (nI s)] N (some (.inl (n_ff N s hn)), N) := by
  refine e_iconst (pc := 0) (v := 0) dX5_freeFor_0 (by decide) ?_
  refine e_istore_n (pc := 1) dX5_freeFor_1 (by decide) ?_
  refine e_iconst (pc := 2) (v := 0) dX5_freeFor_2 (by decide) ?_
  refine e_istore_n (pc := 3) dX5_freeFor_3 (by decide) ?_
  exact e_wk (lp_X5_freeFor hW hs hn 0 _ (by omega) rfl) ⟨rfl, rfl, rfl, rfl, trivial⟩
set_option maxHeartbeats 1000000 in
theorem ev_X5_rankOf {hn cn : Nat} {N : cr_M} {c : Nat} (hW : n_W hn cn N) (hc : c < cn) : cr_EvM Y_X5_rankOf [.inr (.inr 0), .inl (nI c)] N (some (.inl (n_rk hn N c)), N) := by
  obtain ⟨h10, h200, hsz, -, hall⟩ := id hW
  obtain ⟨⟨s, hs, hsc⟩, -⟩ := hall c hc
  have hsn : n_s N c = s := by show (N 11 c).toNatClampNeg = s; rw [hsc]; exact nI_clamp (by omega)
  refine e_aload_n (pc := 0) dX5_rankOf_0 rfl ?_
  refine e_getI (pc := 1) dX5_rankOf_1 f_5_145 rfl rfl ?_
  refine e_tsw1 (pc := 4) 1 dX5_rankOf_4 (by decide) (by decide) (off := 28) (tgt := 32) rfl (by decide) (fun hs_4_1 => ?_) (fun hs_4_1 => ?_)
  · refine e_aload_n (pc := 32) dX5_rankOf_32 rfl ?_
    refine e_getA (pc := 33) dX5_rankOf_33 f_5_41 rfl rfl ?_
    refine e_iload_n (pc := 36) dX5_rankOf_36 rfl ?_
    first | refine e_ialdN (pc := 37) dX5_rankOf_37 rfl (by omega) (by decide) ?_ | refine e_iald (pc := 37) dX5_rankOf_37 rfl (by assumption) ?_
    refine e_iconst (pc := 38) (v := 2) dX5_rankOf_38 (by decide) ?_
    refine e_icmp_ne (pc := 39) (tgt := 46) dX5_rankOf_39 (by decide) (fun hc_39 => ?_) (fun hc_39 => ?_)
    · refine e_iconst (pc := 46) (v := 1) dX5_rankOf_46 (by decide) ?_
      refine r_iret (pc := 47) dX5_rankOf_47 rfl ?_
      exact rt_i (by unfold n_rk; grind)
    · refine e_iconst (pc := 42) (v := 0) dX5_rankOf_42 (by decide) ?_
      refine e_goto (pc := 43) (tgt := 47) dX5_rankOf_43 (by decide) ?_
      refine r_iret (pc := 47) dX5_rankOf_47 rfl ?_
      exact rt_i (by unfold n_rk; grind)
  refine e_tsw1 (pc := 4) 2 dX5_rankOf_4 (by decide) (by decide) (off := 44) (tgt := 48) rfl (by decide) (fun hs_4_2 => ?_) (fun hs_4_2 => ?_)
  · refine e_aload_n (pc := 48) dX5_rankOf_48 rfl ?_
    refine e_aload_n (pc := 49) dX5_rankOf_49 rfl ?_
    refine e_getA (pc := 50) dX5_rankOf_50 f_5_44 rfl rfl ?_
    refine e_iload_n (pc := 53) dX5_rankOf_53 rfl ?_
    first | refine e_ialdN (pc := 54) dX5_rankOf_54 rfl (by omega) (by decide) ?_ | refine e_iald (pc := 54) dX5_rankOf_54 rfl (by assumption) ?_
    rw [hsc]
    refine e_self1i (pc := 55) dX5_rankOf_55 cs_X5_rankOf_162 cv_X5_freeFor rc_X5_freeFor rfl (by decide) (Nat.le_of_ble_eq_true rfl) (ev_X5_freeFor hW hs) ?_
    refine r_iret (pc := 58) dX5_rankOf_58 rfl ?_
    exact rt_i (by unfold n_rk; grind)
  refine e_tsw1 (pc := 4) 3 dX5_rankOf_4 (by decide) (by decide) (off := 55) (tgt := 59) rfl (by decide) (fun hs_4_3 => ?_) (fun hs_4_3 => ?_)
  · refine e_aload_n (pc := 59) dX5_rankOf_59 rfl ?_
    refine e_getA (pc := 60) dX5_rankOf_60 f_5_50 rfl rfl ?_
    refine e_iload_n (pc := 63) dX5_rankOf_63 rfl ?_
    first | refine e_ialdN (pc := 64) dX5_rankOf_64 rfl (by omega) (by decide) ?_ | refine e_iald (pc := 64) dX5_rankOf_64 rfl (by assumption) ?_
    refine e_aload_n (pc := 65) dX5_rankOf_65 rfl ?_
    refine e_iload_n (pc := 66) dX5_rankOf_66 rfl ?_
    refine e_self1i (pc := 67) dX5_rankOf_67 cs_X5_rankOf_156 cv_X5_waitedOf rc_X5_waitedOf rfl (by decide) (Nat.le_of_ble_eq_true rfl) (ev_X5_waitedOf N (by omega)) ?_
    refine e_isub (pc := 70) dX5_rankOf_70 ?_
    refine r_iret (pc := 71) dX5_rankOf_71 rfl ?_
    exact rt_i (by unfold n_rk; grind)
  refine e_tswO (pc := 4) (tgt := 72) dX5_rankOf_4 (by have q1 := lv_neT hs_4_1 (a := 1) rfl; have q2 := lv_neT hs_4_2 (a := 2) rfl; have q3 := lv_neT hs_4_3 (a := 3) rfl; omega) (by decide) ?_
  refine e_iconst (pc := 72) (v := 0) dX5_rankOf_72 (by decide) ?_
  refine r_iret (pc := 73) dX5_rankOf_73 rfl ?_
  exact rt_i (by unfold n_rk; grind)
set_option maxHeartbeats 2000000 in
theorem lp_X5_nextCall {hn cn : Nat} {N : cr_M} (hW : n_W hn cn N) : ∀ (n j : Nat) (z : Int32), j + n = cn → z = s_oi (-1) (s_fo (fun c => N 16 c = 0 ∧ n_tk hn N c) (fun a b => n_rk hn N a < n_rk hn N b) j) → cr_Ev Y_X5_nextCall 4 [(2, .inl (nI j)), (0, .inr (.inr 0)), (1, .inl z)] [] N (some (.inl (s_oi (-1) (n_nx hn cn N))), N) := by
  obtain ⟨h10, h200, -, hsz, -⟩ := id hW
  intro n
  induction n with
  | zero =>
    intro j z hj hz
    refine e_iload_n (pc := 4) dX5_nextCall_4 rfl ?_
    refine e_aload_n (pc := 5) dX5_nextCall_5 rfl ?_
    refine e_getI (pc := 6) dX5_nextCall_6 f_5_142 rfl rfl ?_
    refine e_icmp_ge (pc := 9) (tgt := 54) dX5_nextCall_9 (by decide) (fun hc_9 => ?_) (fun hc_9 => ?_)
    · refine e_iload_n (pc := 54) dX5_nextCall_54 rfl ?_
      refine r_iret (pc := 55) dX5_nextCall_55 rfl ?_
      rw [hz, show j = cn by omega]; rfl
    · exact absurd (show N 0 5 ≤ nI j by rw [hsz]; exact nI_le (by omega) (by omega)) (by assumption)
  | succ n ih =>
    intro j z hj hz
    rcases hfo : s_fo (fun c => N 16 c = 0 ∧ n_tk hn N c) (fun a b => n_rk hn N a < n_rk hn N b) j with _ | b
    · rw [hfo] at hz
      have hz : z = (-1) := hz
      subst hz
      refine e_iload_n (pc := 4) dX5_nextCall_4 rfl ?_
      refine e_aload_n (pc := 5) dX5_nextCall_5 rfl ?_
      refine e_getI (pc := 6) dX5_nextCall_6 f_5_142 rfl rfl ?_
      refine e_icmp_ge (pc := 9) (tgt := 54) dX5_nextCall_9 (by decide) (fun hc_9 => ?_) (fun hc_9 => ?_)
      · exact absurd (show N 0 5 ≤ nI j by assumption) (by rw [hsz]; exact nI_ge (by omega) (by omega))
      · refine e_aload_n (pc := 12) dX5_nextCall_12 rfl ?_
        refine e_getA (pc := 13) dX5_nextCall_13 f_5_59 rfl rfl ?_
        refine e_iload_n (pc := 16) dX5_nextCall_16 rfl ?_
        first | refine e_ialdN (pc := 17) dX5_nextCall_17 rfl (by omega) (by decide) ?_ | refine e_iald (pc := 17) dX5_nextCall_17 rfl (by assumption) ?_
        refine e_if_ne (pc := 18) (tgt := 48) dX5_nextCall_18 (by decide) (fun hc_18 => ?_) (fun hc_18 => ?_)
        · first | refine e_iinc1 (pc := 48) dX5_nextCall_48 rfl (by decide) ?_ | refine e_iincp (pc := 48) dX5_nextCall_48 rfl (by decide) ?_
          refine e_goto (pc := 51) (tgt := 4) dX5_nextCall_51 (by decide) ?_
          exact e_wk (ih (j + 1) _ (by omega) (by first | (rw [s_fo_t (by grind [bI_eq0]) (by grind [bI_eq0])]; rfl) | (rw [s_fo_f (by grind [bI_eq0]), hfo]; rfl))) ⟨rfl, rfl, rfl, trivial⟩
        · refine e_aload_n (pc := 21) dX5_nextCall_21 rfl ?_
          refine e_iload_n (pc := 22) dX5_nextCall_22 rfl ?_
          refine e_self1i (pc := 23) dX5_nextCall_23 cs_X5_nextCall_165 cv_X5_isTakeable rc_X5_isTakeable rfl (by decide) (Nat.le_of_ble_eq_true rfl) (ev_X5_isTakeable hW (by omega)) ?_
          refine e_if_eq (pc := 26) (tgt := 48) dX5_nextCall_26 (by decide) (fun hc_26 => ?_) (fun hc_26 => ?_)
          · first | refine e_iinc1 (pc := 48) dX5_nextCall_48 rfl (by decide) ?_ | refine e_iincp (pc := 48) dX5_nextCall_48 rfl (by decide) ?_
            refine e_goto (pc := 51) (tgt := 4) dX5_nextCall_51 (by decide) ?_
            exact e_wk (ih (j + 1) _ (by omega) (by first | (rw [s_fo_t (by grind [bI_eq0]) (by grind [bI_eq0])]; rfl) | (rw [s_fo_f (by grind [bI_eq0]), hfo]; rfl))) ⟨rfl, rfl, rfl, trivial⟩
          · refine e_iload_n (pc := 29) dX5_nextCall_29 rfl ?_
            refine e_if_lt (pc := 30) (tgt := 46) dX5_nextCall_30 (by decide) (fun hc_30 => ?_) (fun hc_30 => ?_)
            · refine e_iload_n (pc := 46) dX5_nextCall_46 rfl ?_
              refine e_istore_n (pc := 47) dX5_nextCall_47 (by decide) ?_
              first | refine e_iinc1 (pc := 48) dX5_nextCall_48 rfl (by decide) ?_ | refine e_iincp (pc := 48) dX5_nextCall_48 rfl (by decide) ?_
              refine e_goto (pc := 51) (tgt := 4) dX5_nextCall_51 (by decide) ?_
              exact e_wk (ih (j + 1) _ (by omega) (by first | (rw [s_fo_t (by grind [bI_eq0]) (by grind [bI_eq0])]; rfl) | (rw [s_fo_f (by grind [bI_eq0]), hfo]; rfl))) ⟨rfl, rfl, rfl, trivial⟩
            · exact absurd (show (-1 : Int32) < 0 by decide) (by assumption)
    · rw [hfo] at hz
      have hz : z = nI b := hz
      have hb := s_fo_lt hfo
      have hbn : ¬ nI b < 0 := nI_pos (by omega)
      subst hz
      refine e_iload_n (pc := 4) dX5_nextCall_4 rfl ?_
      refine e_aload_n (pc := 5) dX5_nextCall_5 rfl ?_
      refine e_getI (pc := 6) dX5_nextCall_6 f_5_142 rfl rfl ?_
      refine e_icmp_ge (pc := 9) (tgt := 54) dX5_nextCall_9 (by decide) (fun hc_9 => ?_) (fun hc_9 => ?_)
      · exact absurd (show N 0 5 ≤ nI j by assumption) (by rw [hsz]; exact nI_ge (by omega) (by omega))
      · refine e_aload_n (pc := 12) dX5_nextCall_12 rfl ?_
        refine e_getA (pc := 13) dX5_nextCall_13 f_5_59 rfl rfl ?_
        refine e_iload_n (pc := 16) dX5_nextCall_16 rfl ?_
        first | refine e_ialdN (pc := 17) dX5_nextCall_17 rfl (by omega) (by decide) ?_ | refine e_iald (pc := 17) dX5_nextCall_17 rfl (by assumption) ?_
        refine e_if_ne (pc := 18) (tgt := 48) dX5_nextCall_18 (by decide) (fun hc_18 => ?_) (fun hc_18 => ?_)
        · first | refine e_iinc1 (pc := 48) dX5_nextCall_48 rfl (by decide) ?_ | refine e_iincp (pc := 48) dX5_nextCall_48 rfl (by decide) ?_
          refine e_goto (pc := 51) (tgt := 4) dX5_nextCall_51 (by decide) ?_
          exact e_wk (ih (j + 1) _ (by omega) (by first | (rw [s_fo_t (by grind [bI_eq0]) (by grind [bI_eq0])]; rfl) | (rw [s_fo_f (by grind [bI_eq0]), hfo]; rfl))) ⟨rfl, rfl, rfl, trivial⟩
        · refine e_aload_n (pc := 21) dX5_nextCall_21 rfl ?_
          refine e_iload_n (pc := 22) dX5_nextCall_22 rfl ?_
          refine e_self1i (pc := 23) dX5_nextCall_23 cs_X5_nextCall_165 cv_X5_isTakeable rc_X5_isTakeable rfl (by decide) (Nat.le_of_ble_eq_true rfl) (ev_X5_isTakeable hW (by omega)) ?_
          refine e_if_eq (pc := 26) (tgt := 48) dX5_nextCall_26 (by decide) (fun hc_26 => ?_) (fun hc_26 => ?_)
          · first | refine e_iinc1 (pc := 48) dX5_nextCall_48 rfl (by decide) ?_ | refine e_iincp (pc := 48) dX5_nextCall_48 rfl (by decide) ?_
            refine e_goto (pc := 51) (tgt := 4) dX5_nextCall_51 (by decide) ?_
            exact e_wk (ih (j + 1) _ (by omega) (by first | (rw [s_fo_t (by grind [bI_eq0]) (by grind [bI_eq0])]; rfl) | (rw [s_fo_f (by grind [bI_eq0]), hfo]; rfl))) ⟨rfl, rfl, rfl, trivial⟩
          · refine e_iload_n (pc := 29) dX5_nextCall_29 rfl ?_
            refine e_if_lt (pc := 30) (tgt := 46) dX5_nextCall_30 (by decide) (fun hc_30 => ?_) (fun hc_30 => ?_)
            · refine e_iload_n (pc := 46) dX5_nextCall_46 rfl ?_
              refine e_istore_n (pc := 47) dX5_nextCall_47 (by decide) ?_
              first | refine e_iinc1 (pc := 48) dX5_nextCall_48 rfl (by decide) ?_ | refine e_iincp (pc := 48) dX5_nextCall_48 rfl (by decide) ?_
              refine e_goto (pc := 51) (tgt := 4) dX5_nextCall_51 (by decide) ?_
              exact e_wk (ih (j + 1) _ (by omega) (by first | (rw [s_fo_t (by grind [bI_eq0]) (by grind [bI_eq0])]; rfl) | (rw [s_fo_f (by grind [bI_eq0]), hfo]; rfl))) ⟨rfl, rfl, rfl, trivial⟩
            · refine e_aload_n (pc := 33) dX5_nextCall_33 rfl ?_
              refine e_iload_n (pc := 34) dX5_nextCall_34 rfl ?_
              refine e_self1i (pc := 35) dX5_nextCall_35 cs_X5_nextCall_168 cv_X5_rankOf rc_X5_rankOf rfl (by decide) (Nat.le_of_ble_eq_true rfl) (ev_X5_rankOf hW (by omega)) ?_
              refine e_aload_n (pc := 38) dX5_nextCall_38 rfl ?_
              refine e_iload_n (pc := 39) dX5_nextCall_39 rfl ?_
              refine e_self1i (pc := 40) dX5_nextCall_40 cs_X5_nextCall_168 cv_X5_rankOf rc_X5_rankOf rfl (by decide) (Nat.le_of_ble_eq_true rfl) (ev_X5_rankOf hW (by omega)) ?_
              refine e_icmp_ge (pc := 43) (tgt := 48) dX5_nextCall_43 (by decide) (fun hc_43 => ?_) (fun hc_43 => ?_)
              · first | refine e_iinc1 (pc := 48) dX5_nextCall_48 rfl (by decide) ?_ | refine e_iincp (pc := 48) dX5_nextCall_48 rfl (by decide) ?_
                refine e_goto (pc := 51) (tgt := 4) dX5_nextCall_51 (by decide) ?_
                exact e_wk (ih (j + 1) _ (by omega) (by first | (rw [s_fo_t (by grind [bI_eq0]) (by grind [bI_eq0])]; rfl) | (rw [s_fo_f (by grind [bI_eq0]), hfo]; rfl))) ⟨rfl, rfl, rfl, trivial⟩
              · refine e_iload_n (pc := 46) dX5_nextCall_46 rfl ?_
                refine e_istore_n (pc := 47) dX5_nextCall_47 (by decide) ?_
                first | refine e_iinc1 (pc := 48) dX5_nextCall_48 rfl (by decide) ?_ | refine e_iincp (pc := 48) dX5_nextCall_48 rfl (by decide) ?_
                refine e_goto (pc := 51) (tgt := 4) dX5_nextCall_51 (by decide) ?_
                exact e_wk (ih (j + 1) _ (by omega) (by first | (rw [s_fo_t (by grind [bI_eq0]) (by grind [bI_eq0])]; rfl) | (rw [s_fo_f (by grind [bI_eq0]), hfo]; rfl))) ⟨rfl, rfl, rfl, trivial⟩
set_option maxHeartbeats 1000000 in
theorem ev_X5_nextCall {hn cn : Nat} {N : cr_M} (hW : n_W hn cn N) : cr_EvM Y_X5_nextCall [.inr (.inr 0)] N (some (.inl (s_oi (-1) (n_nx hn cn N))), N) := by
  refine e_iconst (pc := 0) (v := (-1)) dX5_nextCall_0 (by decide) ?_
  refine e_istore_n (pc := 1) dX5_nextCall_1 (by decide) ?_
  refine e_iconst (pc := 2) (v := 0) dX5_nextCall_2 (by decide) ?_
  refine e_istore_n (pc := 3) dX5_nextCall_3 (by decide) ?_
  exact e_wk (lp_X5_nextCall hW cn 0 _ (by omega) rfl) ⟨rfl, rfl, rfl, trivial⟩
noncomputable def n_so (N : cr_M) (k : Nat) : Nat → Int32
  | 0 => 0
  | j + 1 => n_so N k j + bI (0 < N 4 (4 * k + j))
theorem n_so4 (N : cr_M) (k : Nat) : n_so N k 4 = s_so N k := by
  simp only [n_so, s_so, Nat.add_zero]
  rw [show (0 : Int32) + bI (0 < N 4 (4 * k)) = bI (0 < N 4 (4 * k)) from Int32.zero_add _]
set_option maxHeartbeats 1000000 in
theorem lp_X5_sortsOf {N : cr_M} {k : Nat} (hk : k < 10) : ∀ (n j : Nat) (z : Int32), j + n = 4 → (z = n_so N k j) → cr_Ev Y_X5_sortsOf 4 [(3, .inl (nI j)), (0, .inr (.inr 0)), (1, .inl (nI k)), (2, .inl z)] [] N (some (.inl (s_so N k)), N) := by
  intro n
  induction n with
  | zero =>
    intro j z hj hz
    refine e_iload_n (pc := 4) dX5_sortsOf_4 rfl ?_
    refine e_iconst (pc := 5) (v := 4) dX5_sortsOf_5 (by decide) ?_
    refine e_icmp_ge (pc := 6) (tgt := 32) dX5_sortsOf_6 (by decide) (fun hc_6 => ?_) (fun hc_6 => ?_)
    · refine e_iload_n (pc := 32) dX5_sortsOf_32 rfl ?_
      refine r_iret (pc := 33) dX5_sortsOf_33 rfl ?_
      rw [hz, show j = 4 by omega, n_so4]
    · exact absurd (show (4 : Int32) ≤ nI j by rw [show (4 : Int32) = nI 4 from rfl]; exact nI_le (by omega) (by omega)) (by assumption)
  | succ n ih =>
    intro j z hj hz
    refine e_iload_n (pc := 4) dX5_sortsOf_4 rfl ?_
    refine e_iconst (pc := 5) (v := 4) dX5_sortsOf_5 (by decide) ?_
    refine e_icmp_ge (pc := 6) (tgt := 32) dX5_sortsOf_6 (by decide) (fun hc_6 => ?_) (fun hc_6 => ?_)
    · exact absurd (show (4 : Int32) ≤ nI j by assumption) (by rw [show (4 : Int32) = nI 4 from rfl]; exact nI_ge (by omega) (by omega))
    · refine e_iload_n (pc := 9) dX5_sortsOf_9 rfl ?_
      refine e_aload_n (pc := 10) dX5_sortsOf_10 rfl ?_
      refine e_iload_n (pc := 11) dX5_sortsOf_11 rfl ?_
      refine e_iload_n (pc := 12) dX5_sortsOf_12 rfl ?_
      refine e_self2i (pc := 13) dX5_sortsOf_13 cs_X5_sortsOf_134 cv_X5_gradeOf rc_X5_gradeOf rfl (by decide) (Nat.le_of_ble_eq_true rfl) (ev_X5_gradeOf N hk (by omega)) ?_
      refine e_if_le (pc := 16) (tgt := 23) dX5_sortsOf_16 (by decide) (fun hc_16 => ?_) (fun hc_16 => ?_)
      · refine e_iconst (pc := 23) (v := 0) dX5_sortsOf_23 (by decide) ?_
        refine e_iadd (pc := 24) dX5_sortsOf_24 ?_
        refine e_istore_n (pc := 25) dX5_sortsOf_25 (by decide) ?_
        first | refine e_iinc1 (pc := 26) dX5_sortsOf_26 rfl (by decide) ?_ | refine e_iincp (pc := 26) dX5_sortsOf_26 rfl (by decide) ?_
        refine e_goto (pc := 29) (tgt := 4) dX5_sortsOf_29 (by decide) ?_
        exact e_wk (ih (j + 1) _ (by omega) (by rw [n_so, hz]; first | rw [bI_t (by grind)] | rw [bI_f (by grind)])) ⟨rfl, rfl, rfl, rfl, trivial⟩
      · refine e_iconst (pc := 19) (v := 1) dX5_sortsOf_19 (by decide) ?_
        refine e_goto (pc := 20) (tgt := 24) dX5_sortsOf_20 (by decide) ?_
        refine e_iadd (pc := 24) dX5_sortsOf_24 ?_
        refine e_istore_n (pc := 25) dX5_sortsOf_25 (by decide) ?_
        first | refine e_iinc1 (pc := 26) dX5_sortsOf_26 rfl (by decide) ?_ | refine e_iincp (pc := 26) dX5_sortsOf_26 rfl (by decide) ?_
        refine e_goto (pc := 29) (tgt := 4) dX5_sortsOf_29 (by decide) ?_
        exact e_wk (ih (j + 1) _ (by omega) (by rw [n_so, hz]; first | rw [bI_t (by grind)] | rw [bI_f (by grind)])) ⟨rfl, rfl, rfl, rfl, trivial⟩
set_option maxHeartbeats 1000000 in
theorem ev_X5_sortsOf (N : cr_M) {k : Nat} (hk : k < 10) : cr_EvM Y_X5_sortsOf [.inr (.inr 0), .inl (nI k)] N (some (.inl (s_so N k)), N) := by
  refine e_iconst (pc := 0) (v := 0) dX5_sortsOf_0 (by decide) ?_
  refine e_istore_n (pc := 1) dX5_sortsOf_1 (by decide) ?_
  refine e_iconst (pc := 2) (v := 0) dX5_sortsOf_2 (by decide) ?_
  refine e_istore_n (pc := 3) dX5_sortsOf_3 (by decide) ?_
  exact e_wk (lp_X5_sortsOf hk 4 0 _ (by omega) rfl) ⟨rfl, rfl, rfl, rfl, trivial⟩
set_option maxHeartbeats 1000000 in
theorem ev_X5_isAhead (N : cr_M) {h p s : Nat} (hh : h < 10) (hp : p < 10) (hs : s < 4) : cr_EvM Y_X5_isAhead [.inr (.inr 0), .inl (nI h), .inl (nI p), .inl (nI s)] N (some (.inl (bI (s_ah N s h p))), N) := by
  unfold s_ah
  refine e_aload_n (pc := 0) dX5_isAhead_0 rfl ?_
  refine e_iload_n (pc := 1) dX5_isAhead_1 rfl ?_
  refine e_iload_n (pc := 2) dX5_isAhead_2 rfl ?_
  refine e_self2i (pc := 3) dX5_isAhead_3 cs_X5_isAhead_134 cv_X5_gradeOf rc_X5_gradeOf rfl (by decide) (Nat.le_of_ble_eq_true rfl) (ev_X5_gradeOf N (by assumption) hs) ?_
  refine e_aload_n (pc := 6) dX5_isAhead_6 rfl ?_
  refine e_iload_n (pc := 7) dX5_isAhead_7 rfl ?_
  refine e_iload_n (pc := 8) dX5_isAhead_8 rfl ?_
  refine e_self2i (pc := 9) dX5_isAhead_9 cs_X5_isAhead_134 cv_X5_gradeOf rc_X5_gradeOf rfl (by decide) (Nat.le_of_ble_eq_true rfl) (ev_X5_gradeOf N (by assumption) hs) ?_
  refine e_icmp_eq (pc := 12) (tgt := 36) dX5_isAhead_12 (by decide) (fun hc_12 => ?_) (fun hc_12 => ?_)
  · refine e_aload_n (pc := 36) dX5_isAhead_36 rfl ?_
    refine e_iload_n (pc := 37) dX5_isAhead_37 rfl ?_
    refine e_self1i (pc := 38) dX5_isAhead_38 cs_X5_isAhead_171 cv_X5_sortsOf rc_X5_sortsOf rfl (by decide) (Nat.le_of_ble_eq_true rfl) (ev_X5_sortsOf N (by assumption)) ?_
    refine e_aload_n (pc := 41) dX5_isAhead_41 rfl ?_
    refine e_iload_n (pc := 42) dX5_isAhead_42 rfl ?_
    refine e_self1i (pc := 43) dX5_isAhead_43 cs_X5_isAhead_171 cv_X5_sortsOf rc_X5_sortsOf rfl (by decide) (Nat.le_of_ble_eq_true rfl) (ev_X5_sortsOf N (by assumption)) ?_
    refine e_icmp_eq (pc := 46) (tgt := 68) dX5_isAhead_46 (by decide) (fun hc_46 => ?_) (fun hc_46 => ?_)
    · refine e_aload_n (pc := 68) dX5_isAhead_68 rfl ?_
      refine e_getA (pc := 69) dX5_isAhead_69 f_5_26 rfl rfl ?_
      refine e_iload_n (pc := 72) dX5_isAhead_72 rfl ?_
      first | refine e_ialdN (pc := 73) dX5_isAhead_73 rfl (by omega) (by decide) ?_ | refine e_iald (pc := 73) dX5_isAhead_73 rfl (by assumption) ?_
      refine e_aload_n (pc := 74) dX5_isAhead_74 rfl ?_
      refine e_getA (pc := 75) dX5_isAhead_75 f_5_26 rfl rfl ?_
      refine e_iload_n (pc := 78) dX5_isAhead_78 rfl ?_
      first | refine e_ialdN (pc := 79) dX5_isAhead_79 rfl (by omega) (by decide) ?_ | refine e_iald (pc := 79) dX5_isAhead_79 rfl (by assumption) ?_
      refine e_icmp_eq (pc := 80) (tgt := 99) dX5_isAhead_80 (by decide) (fun hc_80 => ?_) (fun hc_80 => ?_)
      · refine e_aload_n (pc := 99) dX5_isAhead_99 rfl ?_
        refine e_getA (pc := 100) dX5_isAhead_100 f_5_29 rfl rfl ?_
        refine e_iload_n (pc := 103) dX5_isAhead_103 rfl ?_
        first | refine e_ialdN (pc := 104) dX5_isAhead_104 rfl (by omega) (by decide) ?_ | refine e_iald (pc := 104) dX5_isAhead_104 rfl (by assumption) ?_
        refine e_aload_n (pc := 105) dX5_isAhead_105 rfl ?_
        refine e_getA (pc := 106) dX5_isAhead_106 f_5_29 rfl rfl ?_
        refine e_iload_n (pc := 109) dX5_isAhead_109 rfl ?_
        first | refine e_ialdN (pc := 110) dX5_isAhead_110 rfl (by omega) (by decide) ?_ | refine e_iald (pc := 110) dX5_isAhead_110 rfl (by assumption) ?_
        refine e_icmp_ge (pc := 111) (tgt := 118) dX5_isAhead_111 (by decide) (fun hc_111 => ?_) (fun hc_111 => ?_)
        · refine e_iconst (pc := 118) (v := 0) dX5_isAhead_118 (by decide) ?_
          refine r_zret (pc := 119) dX5_isAhead_119 rfl (by first | exact Or.inl rfl | exact Or.inr rfl | exact bI_01 _ | assumption) ?_
          first | exact rt_t (by grind) | exact rt_f (by grind)
        · refine e_iconst (pc := 114) (v := 1) dX5_isAhead_114 (by decide) ?_
          refine e_goto (pc := 115) (tgt := 119) dX5_isAhead_115 (by decide) ?_
          refine r_zret (pc := 119) dX5_isAhead_119 rfl (by first | exact Or.inl rfl | exact Or.inr rfl | exact bI_01 _ | assumption) ?_
          first | exact rt_t (by grind) | exact rt_f (by grind)
      · refine e_aload_n (pc := 83) dX5_isAhead_83 rfl ?_
        refine e_getA (pc := 84) dX5_isAhead_84 f_5_26 rfl rfl ?_
        refine e_iload_n (pc := 87) dX5_isAhead_87 rfl ?_
        first | refine e_ialdN (pc := 88) dX5_isAhead_88 rfl (by omega) (by decide) ?_ | refine e_iald (pc := 88) dX5_isAhead_88 rfl (by assumption) ?_
        refine e_iconst (pc := 89) (v := 1) dX5_isAhead_89 (by decide) ?_
        refine e_icmp_ne (pc := 90) (tgt := 97) dX5_isAhead_90 (by decide) (fun hc_90 => ?_) (fun hc_90 => ?_)
        · refine e_iconst (pc := 97) (v := 0) dX5_isAhead_97 (by decide) ?_
          refine r_zret (pc := 98) dX5_isAhead_98 rfl (by first | exact Or.inl rfl | exact Or.inr rfl | exact bI_01 _ | assumption) ?_
          first | exact rt_t (by grind) | exact rt_f (by grind)
        · refine e_iconst (pc := 93) (v := 1) dX5_isAhead_93 (by decide) ?_
          refine e_goto (pc := 94) (tgt := 98) dX5_isAhead_94 (by decide) ?_
          refine r_zret (pc := 98) dX5_isAhead_98 rfl (by first | exact Or.inl rfl | exact Or.inr rfl | exact bI_01 _ | assumption) ?_
          first | exact rt_t (by grind) | exact rt_f (by grind)
    · refine e_aload_n (pc := 49) dX5_isAhead_49 rfl ?_
      refine e_iload_n (pc := 50) dX5_isAhead_50 rfl ?_
      refine e_self1i (pc := 51) dX5_isAhead_51 cs_X5_isAhead_171 cv_X5_sortsOf rc_X5_sortsOf rfl (by decide) (Nat.le_of_ble_eq_true rfl) (ev_X5_sortsOf N (by assumption)) ?_
      refine e_aload_n (pc := 54) dX5_isAhead_54 rfl ?_
      refine e_iload_n (pc := 55) dX5_isAhead_55 rfl ?_
      refine e_self1i (pc := 56) dX5_isAhead_56 cs_X5_isAhead_171 cv_X5_sortsOf rc_X5_sortsOf rfl (by decide) (Nat.le_of_ble_eq_true rfl) (ev_X5_sortsOf N (by assumption)) ?_
      refine e_icmp_ge (pc := 59) (tgt := 66) dX5_isAhead_59 (by decide) (fun hc_59 => ?_) (fun hc_59 => ?_)
      · refine e_iconst (pc := 66) (v := 0) dX5_isAhead_66 (by decide) ?_
        refine r_zret (pc := 67) dX5_isAhead_67 rfl (by first | exact Or.inl rfl | exact Or.inr rfl | exact bI_01 _ | assumption) ?_
        first | exact rt_t (by grind) | exact rt_f (by grind)
      · refine e_iconst (pc := 62) (v := 1) dX5_isAhead_62 (by decide) ?_
        refine e_goto (pc := 63) (tgt := 67) dX5_isAhead_63 (by decide) ?_
        refine r_zret (pc := 67) dX5_isAhead_67 rfl (by first | exact Or.inl rfl | exact Or.inr rfl | exact bI_01 _ | assumption) ?_
        first | exact rt_t (by grind) | exact rt_f (by grind)
  · refine e_aload_n (pc := 15) dX5_isAhead_15 rfl ?_
    refine e_iload_n (pc := 16) dX5_isAhead_16 rfl ?_
    refine e_iload_n (pc := 17) dX5_isAhead_17 rfl ?_
    refine e_self2i (pc := 18) dX5_isAhead_18 cs_X5_isAhead_134 cv_X5_gradeOf rc_X5_gradeOf rfl (by decide) (Nat.le_of_ble_eq_true rfl) (ev_X5_gradeOf N (by assumption) hs) ?_
    refine e_aload_n (pc := 21) dX5_isAhead_21 rfl ?_
    refine e_iload_n (pc := 22) dX5_isAhead_22 rfl ?_
    refine e_iload_n (pc := 23) dX5_isAhead_23 rfl ?_
    refine e_self2i (pc := 24) dX5_isAhead_24 cs_X5_isAhead_134 cv_X5_gradeOf rc_X5_gradeOf rfl (by decide) (Nat.le_of_ble_eq_true rfl) (ev_X5_gradeOf N (by assumption) hs) ?_
    refine e_icmp_le (pc := 27) (tgt := 34) dX5_isAhead_27 (by decide) (fun hc_27 => ?_) (fun hc_27 => ?_)
    · refine e_iconst (pc := 34) (v := 0) dX5_isAhead_34 (by decide) ?_
      refine r_zret (pc := 35) dX5_isAhead_35 rfl (by first | exact Or.inl rfl | exact Or.inr rfl | exact bI_01 _ | assumption) ?_
      first | exact rt_t (by grind) | exact rt_f (by grind)
    · refine e_iconst (pc := 30) (v := 1) dX5_isAhead_30 (by decide) ?_
      refine e_goto (pc := 31) (tgt := 35) dX5_isAhead_31 (by decide) ?_
      refine r_zret (pc := 35) dX5_isAhead_35 rfl (by first | exact Or.inl rfl | exact Or.inr rfl | exact bI_01 _ | assumption) ?_
      first | exact rt_t (by grind) | exact rt_f (by grind)
set_option maxHeartbeats 2000000 in
theorem lp_X5_helperFor {hn cn : Nat} {N : cr_M} {c : Nat} (hW : n_W hn cn N) (hc : c < cn) : ∀ (n j : Nat) (z : Int32), j + n = hn → z = s_oi (-1) (s_fo (fun k => n_may N k c) (fun a b => s_ah N (n_s N c) a b) j) → cr_Ev Y_X5_helperFor 34 [(3, .inl (nI j)), (0, .inr (.inr 0)), (1, .inl (nI c)), (2, .inl z)] [] N (some (.inl (s_oi (-1) (s_fo (fun k => n_may N k c) (fun a b => s_ah N (n_s N c) a b) hn))), N) := by
  obtain ⟨h10, h200, hsz, -, hall⟩ := id hW
  obtain ⟨⟨s, hs, hsc⟩, -⟩ := hall c hc
  have hsn : n_s N c = s := by show (N 11 c).toNatClampNeg = s; rw [hsc]; exact nI_clamp (by omega)
  rw [hsn]
  intro n
  induction n with
  | zero =>
    intro j z hj hz
    refine e_iload_n (pc := 34) dX5_helperFor_34 rfl ?_
    refine e_aload_n (pc := 35) dX5_helperFor_35 rfl ?_
    refine e_getI (pc := 36) dX5_helperFor_36 f_5_124 rfl rfl ?_
    refine e_icmp_ge (pc := 39) (tgt := 78) dX5_helperFor_39 (by decide) (fun hc_39 => ?_) (fun hc_39 => ?_)
    · refine e_iload_n (pc := 78) dX5_helperFor_78 rfl ?_
      refine r_iret (pc := 79) dX5_helperFor_79 rfl ?_
      rw [hz, show j = hn by omega]
    · exact absurd (show N 0 4 ≤ nI j by rw [hsz]; exact nI_le (by omega) (by omega)) (by assumption)
  | succ n ih =>
    intro j z hj hz
    rcases hfo : s_fo (fun k => n_may N k c) (fun a b => s_ah N s a b) j with _ | b
    · rw [hfo] at hz
      have hz : z = (-1) := hz
      subst hz
      refine e_iload_n (pc := 34) dX5_helperFor_34 rfl ?_
      refine e_aload_n (pc := 35) dX5_helperFor_35 rfl ?_
      refine e_getI (pc := 36) dX5_helperFor_36 f_5_124 rfl rfl ?_
      refine e_icmp_ge (pc := 39) (tgt := 78) dX5_helperFor_39 (by decide) (fun hc_39 => ?_) (fun hc_39 => ?_)
      · exact absurd (show N 0 4 ≤ nI j by assumption) (by rw [hsz]; exact nI_ge (by omega) (by omega))
      · refine e_aload_n (pc := 42) dX5_helperFor_42 rfl ?_
        refine e_iload_n (pc := 43) dX5_helperFor_43 rfl ?_
        refine e_iload_n (pc := 44) dX5_helperFor_44 rfl ?_
        refine e_self2i (pc := 45) dX5_helperFor_45 cs_X5_helperFor_159 cv_X5_may rc_X5_may rfl (by decide) (Nat.le_of_ble_eq_true rfl) (ev_X5_may N (by omega) (by omega) hs hsc) ?_
        refine e_if_eq (pc := 48) (tgt := 72) dX5_helperFor_48 (by decide) (fun hc_48 => ?_) (fun hc_48 => ?_)
        · first | refine e_iinc1 (pc := 72) dX5_helperFor_72 rfl (by decide) ?_ | refine e_iincp (pc := 72) dX5_helperFor_72 rfl (by decide) ?_
          refine e_goto (pc := 75) (tgt := 34) dX5_helperFor_75 (by decide) ?_
          exact e_wk (ih (j + 1) _ (by omega) (by first | (rw [s_fo_t (by grind [bI_eq0]) (by grind [bI_eq0])]; rfl) | (rw [s_fo_f (by grind [bI_eq0]), hfo]; rfl))) ⟨rfl, rfl, rfl, rfl, trivial⟩
        · refine e_iload_n (pc := 51) dX5_helperFor_51 rfl ?_
          refine e_if_lt (pc := 52) (tgt := 70) dX5_helperFor_52 (by decide) (fun hc_52 => ?_) (fun hc_52 => ?_)
          · refine e_iload_n (pc := 70) dX5_helperFor_70 rfl ?_
            refine e_istore_n (pc := 71) dX5_helperFor_71 (by decide) ?_
            first | refine e_iinc1 (pc := 72) dX5_helperFor_72 rfl (by decide) ?_ | refine e_iincp (pc := 72) dX5_helperFor_72 rfl (by decide) ?_
            refine e_goto (pc := 75) (tgt := 34) dX5_helperFor_75 (by decide) ?_
            exact e_wk (ih (j + 1) _ (by omega) (by first | (rw [s_fo_t (by grind [bI_eq0]) (by grind [bI_eq0])]; rfl) | (rw [s_fo_f (by grind [bI_eq0]), hfo]; rfl))) ⟨rfl, rfl, rfl, rfl, trivial⟩
          · exact absurd (show (-1 : Int32) < 0 by decide) (by assumption)
    · rw [hfo] at hz
      have hz : z = nI b := hz
      have hb := s_fo_lt hfo
      have hbn : ¬ nI b < 0 := nI_pos (by omega)
      subst hz
      refine e_iload_n (pc := 34) dX5_helperFor_34 rfl ?_
      refine e_aload_n (pc := 35) dX5_helperFor_35 rfl ?_
      refine e_getI (pc := 36) dX5_helperFor_36 f_5_124 rfl rfl ?_
      refine e_icmp_ge (pc := 39) (tgt := 78) dX5_helperFor_39 (by decide) (fun hc_39 => ?_) (fun hc_39 => ?_)
      · exact absurd (show N 0 4 ≤ nI j by assumption) (by rw [hsz]; exact nI_ge (by omega) (by omega))
      · refine e_aload_n (pc := 42) dX5_helperFor_42 rfl ?_
        refine e_iload_n (pc := 43) dX5_helperFor_43 rfl ?_
        refine e_iload_n (pc := 44) dX5_helperFor_44 rfl ?_
        refine e_self2i (pc := 45) dX5_helperFor_45 cs_X5_helperFor_159 cv_X5_may rc_X5_may rfl (by decide) (Nat.le_of_ble_eq_true rfl) (ev_X5_may N (by omega) (by omega) hs hsc) ?_
        refine e_if_eq (pc := 48) (tgt := 72) dX5_helperFor_48 (by decide) (fun hc_48 => ?_) (fun hc_48 => ?_)
        · first | refine e_iinc1 (pc := 72) dX5_helperFor_72 rfl (by decide) ?_ | refine e_iincp (pc := 72) dX5_helperFor_72 rfl (by decide) ?_
          refine e_goto (pc := 75) (tgt := 34) dX5_helperFor_75 (by decide) ?_
          exact e_wk (ih (j + 1) _ (by omega) (by first | (rw [s_fo_t (by grind [bI_eq0]) (by grind [bI_eq0])]; rfl) | (rw [s_fo_f (by grind [bI_eq0]), hfo]; rfl))) ⟨rfl, rfl, rfl, rfl, trivial⟩
        · refine e_iload_n (pc := 51) dX5_helperFor_51 rfl ?_
          refine e_if_lt (pc := 52) (tgt := 70) dX5_helperFor_52 (by decide) (fun hc_52 => ?_) (fun hc_52 => ?_)
          · refine e_iload_n (pc := 70) dX5_helperFor_70 rfl ?_
            refine e_istore_n (pc := 71) dX5_helperFor_71 (by decide) ?_
            first | refine e_iinc1 (pc := 72) dX5_helperFor_72 rfl (by decide) ?_ | refine e_iincp (pc := 72) dX5_helperFor_72 rfl (by decide) ?_
            refine e_goto (pc := 75) (tgt := 34) dX5_helperFor_75 (by decide) ?_
            exact e_wk (ih (j + 1) _ (by omega) (by first | (rw [s_fo_t (by grind [bI_eq0]) (by grind [bI_eq0])]; rfl) | (rw [s_fo_f (by grind [bI_eq0]), hfo]; rfl))) ⟨rfl, rfl, rfl, rfl, trivial⟩
          · refine e_aload_n (pc := 55) dX5_helperFor_55 rfl ?_
            refine e_iload_n (pc := 56) dX5_helperFor_56 rfl ?_
            refine e_iload_n (pc := 57) dX5_helperFor_57 rfl ?_
            refine e_aload_n (pc := 58) dX5_helperFor_58 rfl ?_
            refine e_getA (pc := 59) dX5_helperFor_59 f_5_44 rfl rfl ?_
            refine e_iload_n (pc := 62) dX5_helperFor_62 rfl ?_
            first | refine e_ialdN (pc := 63) dX5_helperFor_63 rfl (by omega) (by decide) ?_ | refine e_iald (pc := 63) dX5_helperFor_63 rfl (by assumption) ?_
            rw [hsc]
            refine e_self3i (pc := 64) dX5_helperFor_64 cs_X5_helperFor_174 cv_X5_isAhead rc_X5_isAhead rfl (by decide) (Nat.le_of_ble_eq_true rfl) (ev_X5_isAhead N (by omega) (by omega) hs) ?_
            refine e_if_eq (pc := 67) (tgt := 72) dX5_helperFor_67 (by decide) (fun hc_67 => ?_) (fun hc_67 => ?_)
            · first | refine e_iinc1 (pc := 72) dX5_helperFor_72 rfl (by decide) ?_ | refine e_iincp (pc := 72) dX5_helperFor_72 rfl (by decide) ?_
              refine e_goto (pc := 75) (tgt := 34) dX5_helperFor_75 (by decide) ?_
              exact e_wk (ih (j + 1) _ (by omega) (by first | (rw [s_fo_t (by grind [bI_eq0]) (by grind [bI_eq0])]; rfl) | (rw [s_fo_f (by grind [bI_eq0]), hfo]; rfl))) ⟨rfl, rfl, rfl, rfl, trivial⟩
            · refine e_iload_n (pc := 70) dX5_helperFor_70 rfl ?_
              refine e_istore_n (pc := 71) dX5_helperFor_71 (by decide) ?_
              first | refine e_iinc1 (pc := 72) dX5_helperFor_72 rfl (by decide) ?_ | refine e_iincp (pc := 72) dX5_helperFor_72 rfl (by decide) ?_
              refine e_goto (pc := 75) (tgt := 34) dX5_helperFor_75 (by decide) ?_
              exact e_wk (ih (j + 1) _ (by omega) (by first | (rw [s_fo_t (by grind [bI_eq0]) (by grind [bI_eq0])]; rfl) | (rw [s_fo_f (by grind [bI_eq0]), hfo]; rfl))) ⟨rfl, rfl, rfl, rfl, trivial⟩
