set_option maxHeartbeats 1000000 in
theorem lp_X3_z {L : Nat} {S : cr_M} {r : Option cr_AV × cr_M} (kc : cr_Ev Y_X3_plan 37 [(0, .inr (.inr 0)), (1, .inl (nI L)), (2, .inl (16 - nI L))] [] (p_z 16 S) r) : ∀ (n j : Nat) (Mc : cr_M), j + n = 16 → (Mc = p_z j S) → cr_Ev Y_X3_plan 18 [(3, .inl (nI j)), (0, .inr (.inr 0)), (1, .inl (nI L)), (2, .inl (16 - nI L))] [] Mc r := by
  intro n
  induction n with
  | zero =>
    intro j Mc hj hM
    subst hM
    refine e_iload_n (pc := 18) dX3_plan_18 rfl ?_
    refine e_bipush (pc := 19) (v := 16) dX3_plan_19 (by decide) ?_
    refine e_icmp_ge (pc := 21) (tgt := 37) dX3_plan_21 (by decide) (fun hc_21 => ?_) (fun hc_21 => ?_)
    · have hj2 : j = 16 := by omega
      rw [hj2]
      exact e_wk kc ⟨rfl, rfl, rfl, trivial⟩
    · exact absurd (show (16 : Int32) ≤ nI j by rw [show (16 : Int32) = nI 16 from rfl]; exact nI_le (by omega) (by omega)) (by assumption)
  | succ n ih =>
    intro j Mc hj hM
    subst hM
    refine e_iload_n (pc := 18) dX3_plan_18 rfl ?_
    refine e_bipush (pc := 19) (v := 16) dX3_plan_19 (by decide) ?_
    refine e_icmp_ge (pc := 21) (tgt := 37) dX3_plan_21 (by decide) (fun hc_21 => ?_) (fun hc_21 => ?_)
    · exact absurd (show (16 : Int32) ≤ nI j by assumption) (by rw [show (16 : Int32) = nI 16 from rfl]; exact nI_ge (by omega) (by omega))
    · refine e_aload_n (pc := 24) dX3_plan_24 rfl ?_
      refine e_getA (pc := 25) dX3_plan_25 f_3_15 rfl rfl ?_
      refine e_iload_n (pc := 28) dX3_plan_28 rfl ?_
      refine e_iconst (pc := 29) (v := 0) dX3_plan_29 (by decide) ?_
      first | refine e_iastN (pc := 30) dX3_plan_30 rfl (by omega) (by decide) ?_ | refine e_iast (pc := 30) dX3_plan_30 rfl (by assumption) ?_
      first | refine e_iinc1 (pc := 31) dX3_plan_31 rfl (by decide) ?_ | refine e_iincp (pc := 31) dX3_plan_31 rfl (by decide) ?_
      refine e_goto (pc := 34) (tgt := 18) dX3_plan_34 (by decide) ?_
      exact e_wk (ih (j + 1) _ (by omega) (by clear ih; funext q i; simp only [cr_rd, p_z]; grind)) ⟨rfl, rfl, rfl, rfl, trivial⟩
set_option maxHeartbeats 1000000 in
theorem lp_X3_plan {L : Nat} {S N : cr_M} (h1 : 1 ≤ L) (hL : L < 17) (hN : ∀ i, i < 16 → S 1 i = N 2 i) : ∀ (n j : Nat) (t z : Int32) (Mc : cr_M), j + n = 16 → (Mc = p_cv L S N j) → (t = f_sm (n_cv L N j 3) (j - L) (j - (j - L))) → (z = n_ca L N j) → cr_Ev Y_X3_plan 45 [(5, .inl (nI j)), (0, .inr (.inr 0)), (1, .inl (nI L)), (2, .inl (16 - nI L)), (3, .inl t), (4, .inl z)] [] Mc (some (.inl (n_ca L N 16)), p_cv L S N 16) := by
  intro n
  induction n with
  | zero =>
    intro j t z Mc hj hM ht hz
    subst hM
    refine e_iload (pc := 45) dX3_plan_45 rfl ?_
    refine e_bipush (pc := 47) (v := 16) dX3_plan_47 (by decide) ?_
    refine e_icmp_ge (pc := 49) (tgt := 123) dX3_plan_49 (by decide) (fun hc_49 => ?_) (fun hc_49 => ?_)
    · refine e_iload (pc := 123) dX3_plan_123 rfl ?_
      refine r_iret (pc := 125) dX3_plan_125 rfl ?_
      rw [hz, show j = 16 by omega]
    · exact absurd (show (16 : Int32) ≤ nI j by rw [show (16 : Int32) = nI 16 from rfl]; exact nI_le (by omega) (by omega)) (by assumption)
  | succ n ih =>
    intro j t z Mc hj hM ht hz
    subst hM
    refine e_iload (pc := 45) dX3_plan_45 rfl ?_
    refine e_bipush (pc := 47) (v := 16) dX3_plan_47 (by decide) ?_
    refine e_icmp_ge (pc := 49) (tgt := 123) dX3_plan_49 (by decide) (fun hc_49 => ?_) (fun hc_49 => ?_)
    · exact absurd (show (16 : Int32) ≤ nI j by assumption) (by rw [show (16 : Int32) = nI 16 from rfl]; exact nI_ge (by omega) (by omega))
    · have hj16 : j < 16 := by omega
      have pC := p_cvC j hj16 L hL
      refine e_iload_n (pc := 52) dX3_plan_52 rfl ?_
      refine e_iload (pc := 53) dX3_plan_53 rfl ?_
      refine e_iload_n (pc := 55) dX3_plan_55 rfl ?_
      refine e_icmp_lt (pc := 56) (tgt := 71) dX3_plan_56 (by decide) (fun hc_56 => ?_) (fun hc_56 => ?_)
      · refine e_iconst (pc := 71) (v := 0) dX3_plan_71 (by decide) ?_
        refine e_isub (pc := 72) dX3_plan_72 ?_
        refine e_istore_n (pc := 73) dX3_plan_73 (by decide) ?_
        first
          | rw [show t - p_cv L S N j 2 (j - L) = f_sm (n_cv L N j 3) (j + 1 - L) (j + 1 - (j + 1 - L)) by rw [ht, ← p_th h1 hj16, if_pos (by grind), p_cv, if_pos ⟨rfl, by omega⟩]]
          | rw [show t - 0 = f_sm (n_cv L N j 3) (j + 1 - L) (j + 1 - (j + 1 - L)) by rw [ht, ← p_th h1 hj16, if_neg (by grind)]]
        refine e_iconst (pc := 74) (v := 0) dX3_plan_74 (by decide) ?_
        refine e_aload_n (pc := 75) dX3_plan_75 rfl ?_
        refine e_getA (pc := 76) dX3_plan_76 f_3_9 rfl rfl ?_
        refine e_iload (pc := 79) dX3_plan_79 rfl ?_
        first | refine e_ialdN (pc := 81) dX3_plan_81 rfl (by omega) (by decide) ?_ | refine e_iald (pc := 81) dX3_plan_81 rfl (by assumption) ?_
        refine e_iload_n (pc := 82) dX3_plan_82 rfl ?_
        refine e_isub (pc := 83) dX3_plan_83 ?_
        refine e_mmax (pc := 84) dX3_plan_84 cm_X3_plan_18 cm_max (by decide) (by decide) (Nat.le_of_ble_eq_true rfl) ?_
        refine e_istore (pc := 87) dX3_plan_87 (by decide) ?_
        refine e_aload_n (pc := 89) dX3_plan_89 rfl ?_
        refine e_getA (pc := 90) dX3_plan_90 f_3_15 rfl rfl ?_
        refine e_iload (pc := 93) dX3_plan_93 rfl ?_
        refine e_iload_n (pc := 95) dX3_plan_95 rfl ?_
        refine e_mmin (pc := 96) dX3_plan_96 cm_X3_plan_24 cm_min (by decide) (by decide) (Nat.le_of_ble_eq_true rfl) ?_
        rw [cv_b j (by omega) L (by omega)]
        refine e_dup2 (pc := 99) dX3_plan_99 ?_
        first | refine e_ialdN (pc := 100) dX3_plan_100 rfl (by omega) (by decide) ?_ | refine e_iald (pc := 100) dX3_plan_100 rfl (by assumption) ?_
        refine e_iload (pc := 101) dX3_plan_101 rfl ?_
        refine e_iadd (pc := 103) dX3_plan_103 ?_
        first | refine e_iastN (pc := 104) dX3_plan_104 rfl (by omega) (by decide) ?_ | refine e_iast (pc := 104) dX3_plan_104 rfl (by assumption) ?_
        refine e_iload_n (pc := 105) dX3_plan_105 rfl ?_
        refine e_iload (pc := 106) dX3_plan_106 rfl ?_
        refine e_iadd (pc := 108) dX3_plan_108 ?_
        refine e_istore_n (pc := 109) dX3_plan_109 (by decide) ?_
        refine e_iload (pc := 110) dX3_plan_110 rfl ?_
        refine e_iload (pc := 112) dX3_plan_112 rfl ?_
        refine e_iadd (pc := 114) dX3_plan_114 ?_
        refine e_istore (pc := 115) dX3_plan_115 (by decide) ?_
        first | refine e_iinc1 (pc := 117) dX3_plan_117 rfl (by decide) ?_ | refine e_iincp (pc := 117) dX3_plan_117 rfl (by decide) ?_
        refine e_goto (pc := 120) (tgt := 45) dX3_plan_120 (by decide) ?_
        refine e_wk (ih (j + 1) _ _ _ (by omega) ?_ ?_ ?_) ⟨rfl, rfl, rfl, rfl, rfl, rfl, trivial⟩
        · rw [p_cv_s hj16, ← hN j hj16]; rfl
        · rw [← p_tn h1 hL hj16, ← hN j hj16]; rfl
        · rw [n_ca, hz, ← hN j hj16]; rfl
      · refine e_aload_n (pc := 59) dX3_plan_59 rfl ?_
        refine e_getA (pc := 60) dX3_plan_60 f_3_15 rfl rfl ?_
        refine e_iload (pc := 63) dX3_plan_63 rfl ?_
        refine e_iload_n (pc := 65) dX3_plan_65 rfl ?_
        refine e_isub (pc := 66) dX3_plan_66 ?_
        rw [pC.2 (by grind)]
        have hLj : L ≤ j := by grind
        first | refine e_ialdN (pc := 67) dX3_plan_67 rfl (by omega) (by decide) ?_ | refine e_iald (pc := 67) dX3_plan_67 rfl (by assumption) ?_
        refine e_goto (pc := 68) (tgt := 72) dX3_plan_68 (by decide) ?_
        refine e_isub (pc := 72) dX3_plan_72 ?_
        refine e_istore_n (pc := 73) dX3_plan_73 (by decide) ?_
        first
          | rw [show t - p_cv L S N j 2 (j - L) = f_sm (n_cv L N j 3) (j + 1 - L) (j + 1 - (j + 1 - L)) by rw [ht, ← p_th h1 hj16, if_pos (by grind), p_cv, if_pos ⟨rfl, by omega⟩]]
          | rw [show t - 0 = f_sm (n_cv L N j 3) (j + 1 - L) (j + 1 - (j + 1 - L)) by rw [ht, ← p_th h1 hj16, if_neg (by grind)]]
        refine e_iconst (pc := 74) (v := 0) dX3_plan_74 (by decide) ?_
        refine e_aload_n (pc := 75) dX3_plan_75 rfl ?_
        refine e_getA (pc := 76) dX3_plan_76 f_3_9 rfl rfl ?_
        refine e_iload (pc := 79) dX3_plan_79 rfl ?_
        first | refine e_ialdN (pc := 81) dX3_plan_81 rfl (by omega) (by decide) ?_ | refine e_iald (pc := 81) dX3_plan_81 rfl (by assumption) ?_
        refine e_iload_n (pc := 82) dX3_plan_82 rfl ?_
        refine e_isub (pc := 83) dX3_plan_83 ?_
        refine e_mmax (pc := 84) dX3_plan_84 cm_X3_plan_18 cm_max (by decide) (by decide) (Nat.le_of_ble_eq_true rfl) ?_
        refine e_istore (pc := 87) dX3_plan_87 (by decide) ?_
        refine e_aload_n (pc := 89) dX3_plan_89 rfl ?_
        refine e_getA (pc := 90) dX3_plan_90 f_3_15 rfl rfl ?_
        refine e_iload (pc := 93) dX3_plan_93 rfl ?_
        refine e_iload_n (pc := 95) dX3_plan_95 rfl ?_
        refine e_mmin (pc := 96) dX3_plan_96 cm_X3_plan_24 cm_min (by decide) (by decide) (Nat.le_of_ble_eq_true rfl) ?_
        rw [cv_b j (by omega) L (by omega)]
        refine e_dup2 (pc := 99) dX3_plan_99 ?_
        first | refine e_ialdN (pc := 100) dX3_plan_100 rfl (by omega) (by decide) ?_ | refine e_iald (pc := 100) dX3_plan_100 rfl (by assumption) ?_
        refine e_iload (pc := 101) dX3_plan_101 rfl ?_
        refine e_iadd (pc := 103) dX3_plan_103 ?_
        first | refine e_iastN (pc := 104) dX3_plan_104 rfl (by omega) (by decide) ?_ | refine e_iast (pc := 104) dX3_plan_104 rfl (by assumption) ?_
        refine e_iload_n (pc := 105) dX3_plan_105 rfl ?_
        refine e_iload (pc := 106) dX3_plan_106 rfl ?_
        refine e_iadd (pc := 108) dX3_plan_108 ?_
        refine e_istore_n (pc := 109) dX3_plan_109 (by decide) ?_
        refine e_iload (pc := 110) dX3_plan_110 rfl ?_
        refine e_iload (pc := 112) dX3_plan_112 rfl ?_
        refine e_iadd (pc := 114) dX3_plan_114 ?_
        refine e_istore (pc := 115) dX3_plan_115 (by decide) ?_
        first | refine e_iinc1 (pc := 117) dX3_plan_117 rfl (by decide) ?_ | refine e_iincp (pc := 117) dX3_plan_117 rfl (by decide) ?_
        refine e_goto (pc := 120) (tgt := 45) dX3_plan_120 (by decide) ?_
        refine e_wk (ih (j + 1) _ _ _ (by omega) ?_ ?_ ?_) ⟨rfl, rfl, rfl, rfl, rfl, rfl, trivial⟩
        · rw [p_cv_s hj16, ← hN j hj16]; rfl
        · rw [← p_tn h1 hL hj16, ← hN j hj16]; rfl
        · rw [n_ca, hz, ← hN j hj16]; rfl
set_option maxHeartbeats 1000000 in
theorem ev_X3_plan {L : Nat} {S N : cr_M} (h1 : 1 ≤ L) (hL : L < 17) (hN : ∀ i, i < 16 → S 1 i = N 2 i) : cr_EvM Y_X3_plan [.inr (.inr 0), .inl (nI L)] S (some (.inl (n_ca L N 16)), p_cv L S N 16) := by
  have pL : ∀ L, L < 17 → 1 ≤ L → ¬ nI L < 1 ∧ 0 ≤ 16 - nI L := by decide +kernel
  refine e_bipush (pc := 0) (v := 16) dX3_plan_0 (by decide) ?_
  refine e_iload_n (pc := 2) dX3_plan_2 rfl ?_
  refine e_isub (pc := 3) dX3_plan_3 ?_
  refine e_istore_n (pc := 4) dX3_plan_4 (by decide) ?_
  refine e_iload_n (pc := 5) dX3_plan_5 rfl ?_
  refine e_iconst (pc := 6) (v := 1) dX3_plan_6 (by decide) ?_
  refine e_icmp_lt (pc := 7) (tgt := 14) dX3_plan_7 (by decide) (fun hc_7 => ?_) (fun hc_7 => ?_)
  · exact absurd (pL L hL h1) (by grind)
  · refine e_iload_n (pc := 10) dX3_plan_10 rfl ?_
    refine e_if_ge (pc := 11) (tgt := 16) dX3_plan_11 (by decide) (fun hc_11 => ?_) (fun hc_11 => ?_)
    · refine e_iconst (pc := 16) (v := 0) dX3_plan_16 (by decide) ?_
      refine e_istore_n (pc := 17) dX3_plan_17 (by decide) ?_
      refine e_wk (lp_X3_z (S := S) ?_ 16 0 _ (by omega) (by funext q i; simp [p_z])) ⟨rfl, rfl, rfl, rfl, trivial⟩
      refine e_iconst (pc := 37) (v := 0) dX3_plan_37 (by decide) ?_
      refine e_istore_n (pc := 38) dX3_plan_38 (by decide) ?_
      refine e_iconst (pc := 39) (v := 0) dX3_plan_39 (by decide) ?_
      refine e_istore (pc := 40) dX3_plan_40 (by decide) ?_
      refine e_iconst (pc := 42) (v := 0) dX3_plan_42 (by decide) ?_
      refine e_istore (pc := 43) dX3_plan_43 (by decide) ?_
      rw [p_z16 L S N]
      exact e_wk (lp_X3_plan h1 hL hN 16 0 _ _ _ (by omega) rfl (by rw [Nat.zero_sub]; rfl) rfl) ⟨rfl, rfl, rfl, rfl, rfl, rfl, trivial⟩
    · exact absurd (pL L hL h1) (by grind)
