set_option maxHeartbeats 1000000 in
theorem lp_X5_cv1 {L : Nat} {z : Int32} {N : cr_M} {r : Option cr_AV × cr_M} (kc : cr_Ev Y_X5_cover 48 [(0, .inr (.inr 0)), (1, .inl (nI L)), (2, .inl z)] [] (n_z 16 N) r) : ∀ (n j : Nat) (Mc : cr_M), j + n = 16 → (Mc = n_z j N) → cr_Ev Y_X5_cover 29 [(3, .inl (nI j)), (0, .inr (.inr 0)), (1, .inl (nI L)), (2, .inl z)] [] Mc r := by
  intro n
  induction n with
  | zero =>
    intro j Mc hj hM
    subst hM
    refine e_iload_n (pc := 29) dX5_cover_29 rfl ?_
    refine e_bipush (pc := 30) (v := 16) dX5_cover_30 (by decide) ?_
    refine e_icmp_ge (pc := 32) (tgt := 48) dX5_cover_32 (by decide) (fun hc_32 => ?_) (fun hc_32 => ?_)
    · have hj2 : j = 16 := by omega
      rw [hj2]
      exact e_wk kc ⟨rfl, rfl, rfl, trivial⟩
    · exact absurd (show (16 : Int32) ≤ nI j by rw [show (16 : Int32) = nI 16 from rfl]; exact nI_le (by omega) (by omega)) (by assumption)
  | succ n ih =>
    intro j Mc hj hM
    subst hM
    refine e_iload_n (pc := 29) dX5_cover_29 rfl ?_
    refine e_bipush (pc := 30) (v := 16) dX5_cover_30 (by decide) ?_
    refine e_icmp_ge (pc := 32) (tgt := 48) dX5_cover_32 (by decide) (fun hc_32 => ?_) (fun hc_32 => ?_)
    · exact absurd (show (16 : Int32) ≤ nI j by assumption) (by rw [show (16 : Int32) = nI 16 from rfl]; exact nI_ge (by omega) (by omega))
    · refine e_aload_n (pc := 35) dX5_cover_35 rfl ?_
      refine e_getA (pc := 36) dX5_cover_36 f_5_16 rfl rfl ?_
      refine e_iload_n (pc := 39) dX5_cover_39 rfl ?_
      refine e_iconst (pc := 40) (v := 0) dX5_cover_40 (by decide) ?_
      first | refine e_iastN (pc := 41) dX5_cover_41 rfl (by omega) (by decide) ?_ | refine e_iast (pc := 41) dX5_cover_41 rfl (by assumption) ?_
      first | refine e_iinc1 (pc := 42) dX5_cover_42 rfl (by decide) ?_ | refine e_iincp (pc := 42) dX5_cover_42 rfl (by decide) ?_
      refine e_goto (pc := 45) (tgt := 29) dX5_cover_45 (by decide) ?_
      exact e_wk (ih (j + 1) _ (by omega) (by clear ih; funext q i; simp only [cr_rd, n_z]; grind)) ⟨rfl, rfl, rfl, rfl, trivial⟩
set_option maxHeartbeats 1000000 in
theorem lp_X5_cv3 {L q a : Nat} {y : Int32} {M : cr_M} (hq : q < 16) {r : Option cr_AV × cr_M} (kc : cr_Ev Y_X5_cover 94 [(0, .inr (.inr 0)), (1, .inl (nI L)), (2, .inl y), (3, .inl (nI q)), (4, .inl (f_sm (M 3) a (q + 1 - a)))] [] M r) : ∀ (n j : Nat) (z : Int32), j + n = q + 1 → a ≤ j → z = f_sm (M 3) a (j - a) → cr_Ev Y_X5_cover 70 [(5, .inl (nI j)), (0, .inr (.inr 0)), (1, .inl (nI L)), (2, .inl y), (3, .inl (nI q)), (4, .inl z)] [] M r := by
  intro n
  induction n with
  | zero =>
    intro j z hj ha hz
    refine e_iload (pc := 70) dX5_cover_70 rfl ?_
    refine e_iload_n (pc := 72) dX5_cover_72 rfl ?_
    refine e_icmp_gt (pc := 73) (tgt := 94) dX5_cover_73 (by decide) (fun hc_73 => ?_) (fun hc_73 => ?_)
    · rw [hz, show j = q + 1 by omega]
      exact e_wk kc ⟨rfl, rfl, rfl, rfl, rfl, trivial⟩
    · exact absurd (show nI q < nI j from nI_lt (by omega) (by omega)) (by assumption)
  | succ n ih =>
    intro j z hj ha hz
    refine e_iload (pc := 70) dX5_cover_70 rfl ?_
    refine e_iload_n (pc := 72) dX5_cover_72 rfl ?_
    refine e_icmp_gt (pc := 73) (tgt := 94) dX5_cover_73 (by decide) (fun hc_73 => ?_) (fun hc_73 => ?_)
    · exact absurd (show nI q < nI j by assumption) (nI_nlt (by omega) (by omega))
    · refine e_iload (pc := 76) dX5_cover_76 rfl ?_
      refine e_aload_n (pc := 78) dX5_cover_78 rfl ?_
      refine e_getA (pc := 79) dX5_cover_79 f_5_16 rfl rfl ?_
      refine e_iload (pc := 82) dX5_cover_82 rfl ?_
      first | refine e_ialdN (pc := 84) dX5_cover_84 rfl (by omega) (by decide) ?_ | refine e_iald (pc := 84) dX5_cover_84 rfl (by assumption) ?_
      refine e_iadd (pc := 85) dX5_cover_85 ?_
      refine e_istore (pc := 86) dX5_cover_86 (by decide) ?_
      first | refine e_iinc1 (pc := 88) dX5_cover_88 rfl (by decide) ?_ | refine e_iincp (pc := 88) dX5_cover_88 rfl (by decide) ?_
      refine e_goto (pc := 91) (tgt := 70) dX5_cover_91 (by decide) ?_
      exact e_wk (ih (j + 1) _ (by omega) (by omega) (by rw [show j + 1 - a = (j - a) + 1 by omega, f_sm, hz, show a + (j - a) = j by omega])) ⟨rfl, rfl, rfl, rfl, rfl, rfl, trivial⟩
set_option maxHeartbeats 1000000 in
theorem lp_X5_cv2 {L : Nat} {N : cr_M} (hL : L < 17) : ∀ (n j : Nat) (z : Int32) (Mc : cr_M), j + n = 16 → (Mc = n_cv L N j) → (z = n_ca L N j) → cr_Ev Y_X5_cover 50 [(3, .inl (nI j)), (0, .inr (.inr 0)), (1, .inl (nI L)), (2, .inl z)] [] Mc (some (.inl (n_ca L N 16)), n_cv L N 16) := by
  intro n
  induction n with
  | zero =>
    intro j z Mc hj hM hz
    subst hM
    refine e_iload_n (pc := 50) dX5_cover_50 rfl ?_
    refine e_bipush (pc := 51) (v := 16) dX5_cover_51 (by decide) ?_
    refine e_icmp_ge (pc := 53) (tgt := 138) dX5_cover_53 (by decide) (fun hc_53 => ?_) (fun hc_53 => ?_)
    · refine e_iload_n (pc := 138) dX5_cover_138 rfl ?_
      refine r_iret (pc := 139) dX5_cover_139 rfl ?_
      rw [hz, show j = 16 by omega]
    · exact absurd (show (16 : Int32) ≤ nI j by rw [show (16 : Int32) = nI 16 from rfl]; exact nI_le (by omega) (by omega)) (by assumption)
  | succ n ih =>
    intro j z Mc hj hM hz
    subst hM
    refine e_iload_n (pc := 50) dX5_cover_50 rfl ?_
    refine e_bipush (pc := 51) (v := 16) dX5_cover_51 (by decide) ?_
    refine e_icmp_ge (pc := 53) (tgt := 138) dX5_cover_53 (by decide) (fun hc_53 => ?_) (fun hc_53 => ?_)
    · exact absurd (show (16 : Int32) ≤ nI j by assumption) (by rw [show (16 : Int32) = nI 16 from rfl]; exact nI_ge (by omega) (by omega))
    · refine e_iconst (pc := 56) (v := 0) dX5_cover_56 (by decide) ?_
      refine e_istore (pc := 57) dX5_cover_57 (by decide) ?_
      refine e_iconst (pc := 59) (v := 0) dX5_cover_59 (by decide) ?_
      refine e_iload_n (pc := 60) dX5_cover_60 rfl ?_
      refine e_iload_n (pc := 61) dX5_cover_61 rfl ?_
      refine e_isub (pc := 62) dX5_cover_62 ?_
      refine e_iconst (pc := 63) (v := 1) dX5_cover_63 (by decide) ?_
      refine e_iadd (pc := 64) dX5_cover_64 ?_
      refine e_mmax (pc := 65) dX5_cover_65 cm_X5_cover_211 cm_max (by decide) (by decide) (Nat.le_of_ble_eq_true rfl) ?_
      refine e_istore (pc := 68) dX5_cover_68 (by decide) ?_
      rw [cv_a j (by omega) L (by omega)]
      refine e_wk (lp_X5_cv3 (a := j + 1 - L) (by omega) ?_ (j + 1 - (j + 1 - L)) (j + 1 - L) 0 (by omega) (Nat.le_refl _) (by rw [Nat.sub_self]; rfl)) ⟨rfl, rfl, rfl, rfl, rfl, rfl, trivial⟩
      refine e_iconst (pc := 94) (v := 0) dX5_cover_94 (by decide) ?_
      refine e_aload_n (pc := 95) dX5_cover_95 rfl ?_
      refine e_getA (pc := 96) dX5_cover_96 f_5_13 rfl rfl ?_
      refine e_iload_n (pc := 99) dX5_cover_99 rfl ?_
      first | refine e_ialdN (pc := 100) dX5_cover_100 rfl (by omega) (by decide) ?_ | refine e_iald (pc := 100) dX5_cover_100 rfl (by assumption) ?_
      refine e_iload (pc := 101) dX5_cover_101 rfl ?_
      refine e_isub (pc := 103) dX5_cover_103 ?_
      refine e_mmax (pc := 104) dX5_cover_104 cm_X5_cover_211 cm_max (by decide) (by decide) (Nat.le_of_ble_eq_true rfl) ?_
      refine e_istore (pc := 107) dX5_cover_107 (by decide) ?_
      refine e_aload_n (pc := 109) dX5_cover_109 rfl ?_
      refine e_getA (pc := 110) dX5_cover_110 f_5_16 rfl rfl ?_
      refine e_iload_n (pc := 113) dX5_cover_113 rfl ?_
      refine e_bipush (pc := 114) (v := 16) dX5_cover_114 (by decide) ?_
      refine e_iload_n (pc := 116) dX5_cover_116 rfl ?_
      refine e_isub (pc := 117) dX5_cover_117 ?_
      refine e_mmin (pc := 118) dX5_cover_118 cm_X5_cover_216 cm_min (by decide) (by decide) (Nat.le_of_ble_eq_true rfl) ?_
      rw [cv_b j (by omega) L (by omega)]
      refine e_dup2 (pc := 121) dX5_cover_121 ?_
      first | refine e_ialdN (pc := 122) dX5_cover_122 rfl (by omega) (by decide) ?_ | refine e_iald (pc := 122) dX5_cover_122 rfl (by assumption) ?_
      refine e_iload (pc := 123) dX5_cover_123 rfl ?_
      refine e_iadd (pc := 125) dX5_cover_125 ?_
      first | refine e_iastN (pc := 126) dX5_cover_126 rfl (by omega) (by decide) ?_ | refine e_iast (pc := 126) dX5_cover_126 rfl (by assumption) ?_
      refine e_iload_n (pc := 127) dX5_cover_127 rfl ?_
      refine e_iload (pc := 128) dX5_cover_128 rfl ?_
      refine e_iadd (pc := 130) dX5_cover_130 ?_
      refine e_istore_n (pc := 131) dX5_cover_131 (by decide) ?_
      first | refine e_iinc1 (pc := 132) dX5_cover_132 rfl (by decide) ?_ | refine e_iincp (pc := 132) dX5_cover_132 rfl (by decide) ?_
      refine e_goto (pc := 135) (tgt := 50) dX5_cover_135 (by decide) ?_
      exact e_wk (ih (j + 1) _ _ (by omega) (by rw [n_cv, ← n_cv_2 L N j j]; rfl) (by rw [n_ca, hz, ← n_cv_2 L N j j]; rfl)) ⟨rfl, rfl, rfl, rfl, trivial⟩
set_option maxHeartbeats 1000000 in
theorem ev_X5_cover (N : cr_M) (x : Int32) : cr_EvM Y_X5_cover [.inr (.inr 0), .inl x] N (some (.inl (m_cover N x).1), (m_cover N x).2) := by
  refine e_iload_n (pc := 0) dX5_cover_0 rfl ?_
  refine e_iconst (pc := 1) (v := 1) dX5_cover_1 (by decide) ?_
  refine e_icmp_ge (pc := 2) (tgt := 12) dX5_cover_2 (by decide) (fun hc_2 => ?_) (fun hc_2 => ?_)
  · refine e_iload_n (pc := 12) dX5_cover_12 rfl ?_
    refine e_bipush (pc := 13) (v := 16) dX5_cover_13 (by decide) ?_
    refine e_icmp_le (pc := 15) (tgt := 25) dX5_cover_15 (by decide) (fun hc_15 => ?_) (fun hc_15 => ?_)
    · refine e_iconst (pc := 25) (v := 0) dX5_cover_25 (by decide) ?_
      refine e_istore_n (pc := 26) dX5_cover_26 (by decide) ?_
      refine e_iconst (pc := 27) (v := 0) dX5_cover_27 (by decide) ?_
      refine e_istore_n (pc := 28) dX5_cover_28 (by decide) ?_
      obtain ⟨L, hL, rfl⟩ := nI_of2 (x := x) (M := 16) (n := 16) (by decide) (by grind) (by grind)
      rw [show m_cover N (nI L) = (n_ca L N 16, n_cv L N 16) by unfold m_cover; rw [if_neg (by grind), if_neg (by grind), nI_clamp (by omega)]]
      refine e_wk (lp_X5_cv1 (N := N) ?_ 16 0 _ (by omega) (by funext q i; simp [n_z])) ⟨rfl, rfl, rfl, rfl, trivial⟩
      refine e_iconst (pc := 48) (v := 0) dX5_cover_48 (by decide) ?_
      refine e_istore_n (pc := 49) dX5_cover_49 (by decide) ?_
      exact e_wk (lp_X5_cv2 (by omega) 16 0 _ _ (by omega) rfl rfl) ⟨rfl, rfl, rfl, rfl, trivial⟩
    · refine e_aload_n (pc := 18) dX5_cover_18 rfl ?_
      refine e_bipush (pc := 19) (v := (-6)) dX5_cover_19 (by decide) ?_
      refine e_self1i (pc := 21) dX5_cover_21 cs_X5_cover_120 cv_X5_refuse rc_X5_refuse rfl (by decide) (Nat.le_of_ble_eq_true rfl) (ev_X5_refuse _ (k := 6) (by decide) (by decide)) ?_
      refine r_iret (pc := 24) dX5_cover_24 rfl ?_
      unfold m_cover
      repeat (first | rw [if_pos (by grind)] | rw [if_neg (by grind)])
      try rfl
  · refine e_aload_n (pc := 5) dX5_cover_5 rfl ?_
    refine e_bipush (pc := 6) (v := (-4)) dX5_cover_6 (by decide) ?_
    refine e_self1i (pc := 8) dX5_cover_8 cs_X5_cover_120 cv_X5_refuse rc_X5_refuse rfl (by decide) (Nat.le_of_ble_eq_true rfl) (ev_X5_refuse _ (k := 4) (by decide) (by decide)) ?_
    refine r_iret (pc := 11) dX5_cover_11 rfl ?_
    unfold m_cover
    repeat (first | rw [if_pos (by grind)] | rw [if_neg (by grind)])
    try rfl
