set_option maxHeartbeats 1000000 in
theorem ev_X5_helperFor {hn cn : Nat} {N : cr_M} {c : Nat} (hW : n_W hn cn N) (hc : c < cn) : cr_EvM Y_X5_helperFor [.inr (.inr 0), .inl (nI c)] N (some (.inl (s_oi (-1) (n_hf hn N c))), N) := by
  obtain ⟨h10, h200, hsz, -, hall⟩ := id hW
  obtain ⟨⟨s, hs, hsc⟩, hown⟩ := hall c hc
  show cr_EvM Y_X5_helperFor _ _ (some (.inl (s_oi (-1) (n_hf hn N c))), N)
  unfold n_hf
  rcases hown with hown | ⟨k, hk, hown⟩
  · refine e_aload_n (pc := 0) dX5_helperFor_0 rfl ?_
    refine e_getA (pc := 1) dX5_helperFor_1 f_5_56 rfl rfl ?_
    refine e_iload_n (pc := 4) dX5_helperFor_4 rfl ?_
    refine e_ialdV (pc := 5) (-9) dX5_helperFor_5 rfl (by omega) (by decide) hown ?_
    refine e_if_lt (pc := 6) (tgt := 30) dX5_helperFor_6 (by decide) (fun hc_6 => ?_) (fun hc_6 => ?_)
    · refine e_iconst (pc := 30) (v := (-1)) dX5_helperFor_30 (by decide) ?_
      refine e_istore_n (pc := 31) dX5_helperFor_31 (by decide) ?_
      refine e_iconst (pc := 32) (v := 0) dX5_helperFor_32 (by decide) ?_
      refine e_istore_n (pc := 33) dX5_helperFor_33 (by decide) ?_
      rw [if_neg (by rintro ⟨h1, -⟩; rw [hown] at h1; exact absurd h1 (by decide))]
      exact e_wk (lp_X5_helperFor hW hc hn 0 _ (by omega) rfl) ⟨rfl, rfl, rfl, rfl, trivial⟩
    · exact absurd (show (-9 : Int32) < 0 by decide) (by assumption)
  · refine e_aload_n (pc := 0) dX5_helperFor_0 rfl ?_
    refine e_getA (pc := 1) dX5_helperFor_1 f_5_56 rfl rfl ?_
    refine e_iload_n (pc := 4) dX5_helperFor_4 rfl ?_
    refine e_ialdV (pc := 5) (nI k) dX5_helperFor_5 rfl (by omega) (by decide) hown ?_
    refine e_if_lt (pc := 6) (tgt := 30) dX5_helperFor_6 (by decide) (fun hc_6 => ?_) (fun hc_6 => ?_)
    · exact absurd (by assumption : nI k < 0) (nI_pos (by omega))
    · refine e_aload_n (pc := 9) dX5_helperFor_9 rfl ?_
      refine e_aload_n (pc := 10) dX5_helperFor_10 rfl ?_
      refine e_getA (pc := 11) dX5_helperFor_11 f_5_56 rfl rfl ?_
      refine e_iload_n (pc := 14) dX5_helperFor_14 rfl ?_
      refine e_ialdV (pc := 15) (nI k) dX5_helperFor_15 rfl (by omega) (by decide) hown ?_
      refine e_iload_n (pc := 16) dX5_helperFor_16 rfl ?_
      refine e_self2i (pc := 17) dX5_helperFor_17 cs_X5_helperFor_159 cv_X5_may rc_X5_may rfl (by decide) (Nat.le_of_ble_eq_true rfl) (ev_X5_may N (by omega) (by omega) hs hsc) ?_
      refine e_if_eq (pc := 20) (tgt := 30) dX5_helperFor_20 (by decide) (fun hc_20 => ?_) (fun hc_20 => ?_)
      · refine e_iconst (pc := 30) (v := (-1)) dX5_helperFor_30 (by decide) ?_
        refine e_istore_n (pc := 31) dX5_helperFor_31 (by decide) ?_
        refine e_iconst (pc := 32) (v := 0) dX5_helperFor_32 (by decide) ?_
        refine e_istore_n (pc := 33) dX5_helperFor_33 (by decide) ?_
        rw [if_neg (by rintro ⟨h1, h2⟩; rw [hown, nI_clamp (by omega)] at h2; grind [bI_eq0])]
        exact e_wk (lp_X5_helperFor hW hc hn 0 _ (by omega) rfl) ⟨rfl, rfl, rfl, rfl, trivial⟩
      · refine e_aload_n (pc := 23) dX5_helperFor_23 rfl ?_
        refine e_getA (pc := 24) dX5_helperFor_24 f_5_56 rfl rfl ?_
        refine e_iload_n (pc := 27) dX5_helperFor_27 rfl ?_
        refine e_ialdV (pc := 28) (nI k) dX5_helperFor_28 rfl (by omega) (by decide) hown ?_
        refine r_iret (pc := 29) dX5_helperFor_29 rfl ?_
        rw [if_pos ⟨by rw [hown]; exact nI_pos' (by omega), by rw [hown, nI_clamp (by omega)]; grind [bI_eq0]⟩, hown, nI_clamp (by omega)]
        rfl
set_option maxHeartbeats 4000000 in
theorem lp_X5_give {hn cn : Nat} : ∀ (m : Nat) (N : cr_M), n_W hn cn N → n_cw N cn ≤ m → cr_Ev Y_X5_give 5 [(0, .inr (.inr 0)), (1, .inl (s_oi (-1) (n_nx hn cn N)))] [] N (none, n_gv hn cn m N) := by
  intro m
  induction m with
  | zero =>
    intro N hW hcw
    have hnx : n_nx hn cn N = none := by
      rcases h : n_nx hn cn N with _ | c
      · rfl
      · have q := n_nx_some h
        have := n_cw_pos q.1 q.2.1
        omega
    rw [hnx]
    show cr_Ev Y_X5_give 5 [(0, .inr (.inr 0)), (1, .inl (-1))] [] N (none, N)
    refine e_iload_n (pc := 5) dX5_give_5 rfl ?_
    refine e_if_lt (pc := 6) (tgt := 143) dX5_give_6 (by decide) (fun hc_6 => ?_) (fun hc_6 => ?_)
    · refine r_vret (pc := 143) dX5_give_143 rfl ?_
      rfl
    · exact absurd (show (-1 : Int32) < 0 by decide) (by assumption)
  | succ m ih =>
    intro N hW hcw
    rcases hnx : n_nx hn cn N with _ | c
    · rw [show n_gv hn cn (m + 1) N = N by rw [n_gv, hnx]]
      show cr_Ev Y_X5_give 5 [(0, .inr (.inr 0)), (1, .inl (-1))] [] N (none, N)
      refine e_iload_n (pc := 5) dX5_give_5 rfl ?_
      refine e_if_lt (pc := 6) (tgt := 143) dX5_give_6 (by decide) (fun hc_6 => ?_) (fun hc_6 => ?_)
      · refine r_vret (pc := 143) dX5_give_143 rfl ?_
        rfl
      · exact absurd (show (-1 : Int32) < 0 by decide) (by assumption)
    · obtain ⟨hcc, hc0, htk⟩ := n_nx_some hnx
      obtain ⟨k, hk, hhf, hmay⟩ := n_hf_some hW hcc htk
      obtain ⟨h10, h200, hsz, -, hall⟩ := id hW
      obtain ⟨⟨s, hs, hsc⟩, -⟩ := hall c hcc
      have hsn : n_s N c = s := by show (N 11 c).toNatClampNeg = s; rw [hsc]; exact nI_clamp (by omega)
      have hcw2 : n_cw (n_g1 N c k) cn ≤ m := by rw [n_cw_g1 hc0, if_pos hcc]; omega
      rw [show n_gv hn cn (m + 1) N = n_gv hn cn m (n_g1 N c k) by rw [n_gv, hnx]; simp only [hhf]]
      show cr_Ev Y_X5_give 5 [(0, .inr (.inr 0)), (1, .inl (nI c))] [] N _
      have hmem : ∀ Z, Z = n_g1 N c k → cr_Ev Y_X5_give 135 [(0, .inr (.inr 0))] [] Z (none, n_gv hn cn m (n_g1 N c k)) := by
        intro Z hZ
        subst hZ
        refine e_aload_n (pc := 135) dX5_give_135 rfl ?_
        refine e_self0i (pc := 136) dX5_give_136 cs_X5_give_178 cv_X5_nextCall rc_X5_nextCall rfl (by decide) (Nat.le_of_ble_eq_true rfl) (ev_X5_nextCall (n_W_g1 hW)) ?_
        refine e_istore_n (pc := 139) dX5_give_139 (by decide) ?_
        refine e_goto (pc := 140) (tgt := 5) dX5_give_140 (by decide) ?_
        exact e_wk (ih _ (n_W_g1 hW) hcw2) ⟨rfl, rfl, trivial⟩
      refine e_iload_n (pc := 5) dX5_give_5 rfl ?_
      refine e_if_lt (pc := 6) (tgt := 143) dX5_give_6 (by decide) (fun hc_6 => ?_) (fun hc_6 => ?_)
      · exact absurd hc_6 (nI_pos (by omega))
      · refine e_aload_n (pc := 9) dX5_give_9 rfl ?_
        refine e_iload_n (pc := 10) dX5_give_10 rfl ?_
        refine e_self1i (pc := 11) dX5_give_11 cs_X5_give_182 cv_X5_helperFor rc_X5_helperFor rfl (by decide) (Nat.le_of_ble_eq_true rfl) (by have h := ev_X5_helperFor hW (c := c) hcc; rw [hhf] at h; exact h) ?_
        refine e_istore_n (pc := 14) dX5_give_14 (by decide) ?_
        refine e_aload_n (pc := 15) dX5_give_15 rfl ?_
        refine e_getA (pc := 16) dX5_give_16 f_5_71 rfl rfl ?_
        refine e_iload_n (pc := 19) dX5_give_19 rfl ?_
        refine e_aload_n (pc := 20) dX5_give_20 rfl ?_
        refine e_iload_n (pc := 21) dX5_give_21 rfl ?_
        refine e_self1i (pc := 22) dX5_give_22 cs_X5_give_156 cv_X5_waitedOf rc_X5_waitedOf rfl (by decide) (Nat.le_of_ble_eq_true rfl) (ev_X5_waitedOf _ (by omega)) ?_
        first | refine e_iastN (pc := 25) dX5_give_25 rfl (by omega) (by decide) ?_ | refine e_iast (pc := 25) dX5_give_25 rfl (by assumption) ?_
        refine e_aload_n (pc := 26) dX5_give_26 rfl ?_
        refine e_getA (pc := 27) dX5_give_27 f_5_74 rfl rfl ?_
        refine e_iload_n (pc := 30) dX5_give_30 rfl ?_
        first | refine e_ialdN (pc := 31) dX5_give_31 rfl (by omega) (by decide) ?_ | refine e_iald (pc := 31) dX5_give_31 rfl (by assumption) ?_
        refine e_bipush (pc := 32) (v := (-9)) dX5_give_32 (by decide) ?_
        refine e_icmp_ne (pc := 34) (tgt := 49) dX5_give_34 (by decide) (fun hc_34 => ?_) (fun hc_34 => ?_)
        · refine e_aload_n (pc := 49) dX5_give_49 rfl ?_
          refine e_getA (pc := 50) dX5_give_50 f_5_59 rfl rfl ?_
          refine e_iload_n (pc := 53) dX5_give_53 rfl ?_
          refine e_iconst (pc := 54) (v := 1) dX5_give_54 (by decide) ?_
          first | refine e_iastN (pc := 55) dX5_give_55 rfl (by omega) (by decide) ?_ | refine e_iast (pc := 55) dX5_give_55 rfl (by assumption) ?_
          refine e_aload_n (pc := 56) dX5_give_56 rfl ?_
          refine e_getA (pc := 57) dX5_give_57 f_5_65 rfl rfl ?_
          refine e_iload_n (pc := 60) dX5_give_60 rfl ?_
          refine e_iload_n (pc := 61) dX5_give_61 rfl ?_
          first | refine e_iastN (pc := 62) dX5_give_62 rfl (by omega) (by decide) ?_ | refine e_iast (pc := 62) dX5_give_62 rfl (by assumption) ?_
          refine e_aload_n (pc := 63) dX5_give_63 rfl ?_
          refine e_getA (pc := 64) dX5_give_64 f_5_68 rfl rfl ?_
          refine e_iload_n (pc := 67) dX5_give_67 rfl ?_
          refine e_aload_n (pc := 68) dX5_give_68 rfl ?_
          refine e_getI (pc := 69) dX5_give_69 f_5_127 rfl rfl ?_
          refine e_aload_n (pc := 72) dX5_give_72 rfl ?_
          refine e_getA (pc := 73) dX5_give_73 f_5_47 rfl rfl ?_
          refine e_iload_n (pc := 76) dX5_give_76 rfl ?_
          first | refine e_ialdN (pc := 77) dX5_give_77 rfl (by omega) (by decide) ?_ | refine e_iald (pc := 77) dX5_give_77 rfl (by assumption) ?_
          refine e_iconst (pc := 78) (v := 5) dX5_give_78 (by decide) ?_
          refine e_aload_n (pc := 79) dX5_give_79 rfl ?_
          refine e_iload_n (pc := 80) dX5_give_80 rfl ?_
          refine e_aload_n (pc := 81) dX5_give_81 rfl ?_
          refine e_getA (pc := 82) dX5_give_82 f_5_44 rfl rfl ?_
          refine e_iload_n (pc := 85) dX5_give_85 rfl ?_
          refine e_ialdV (pc := 86) (nI s) dX5_give_86 rfl (by omega) (by decide) hsc ?_
          refine e_self2i (pc := 87) dX5_give_87 cs_X5_give_134 cv_X5_gradeOf rc_X5_gradeOf rfl (by decide) (Nat.le_of_ble_eq_true rfl) (ev_X5_gradeOf _ (by omega) hs) ?_
          refine e_isub (pc := 90) dX5_give_90 ?_
          refine e_imul (pc := 91) dX5_give_91 ?_
          refine e_iconst (pc := 92) (v := 3) dX5_give_92 (by decide) ?_
          refine e_iadd (pc := 93) dX5_give_93 ?_
          refine e_iconst (pc := 94) (v := 4) dX5_give_94 (by decide) ?_
          refine e_idiv (pc := 95) dX5_give_95 (by decide) ?_
          refine e_iadd (pc := 96) dX5_give_96 ?_
          first | refine e_iastN (pc := 97) dX5_give_97 rfl (by omega) (by decide) ?_ | refine e_iast (pc := 97) dX5_give_97 rfl (by assumption) ?_
          refine e_aload_n (pc := 98) dX5_give_98 rfl ?_
          refine e_getA (pc := 99) dX5_give_99 f_5_77 rfl rfl ?_
          refine e_iload_n (pc := 102) dX5_give_102 rfl ?_
          refine e_dup2 (pc := 103) dX5_give_103 ?_
          first | refine e_ialdN (pc := 104) dX5_give_104 rfl (by omega) (by decide) ?_ | refine e_iald (pc := 104) dX5_give_104 rfl (by assumption) ?_
          refine e_iconst (pc := 105) (v := 1) dX5_give_105 (by decide) ?_
          refine e_iadd (pc := 106) dX5_give_106 ?_
          first | refine e_iastN (pc := 107) dX5_give_107 rfl (by omega) (by decide) ?_ | refine e_iast (pc := 107) dX5_give_107 rfl (by assumption) ?_
          refine e_aload_n (pc := 108) dX5_give_108 rfl ?_
          refine e_getA (pc := 109) dX5_give_109 f_5_83 rfl rfl ?_
          refine e_iload_n (pc := 112) dX5_give_112 rfl ?_
          refine e_aload_n (pc := 113) dX5_give_113 rfl ?_
          refine e_getA (pc := 114) dX5_give_114 f_5_41 rfl rfl ?_
          refine e_iload_n (pc := 117) dX5_give_117 rfl ?_
          first | refine e_ialdN (pc := 118) dX5_give_118 rfl (by omega) (by decide) ?_ | refine e_iald (pc := 118) dX5_give_118 rfl (by assumption) ?_
          refine e_iconst (pc := 119) (v := 3) dX5_give_119 (by decide) ?_
          refine e_icmp_ne (pc := 120) (tgt := 127) dX5_give_120 (by decide) (fun hc_120 => ?_) (fun hc_120 => ?_)
          · refine e_iconst (pc := 127) (v := 0) dX5_give_127 (by decide) ?_
            first | refine e_zastN (pc := 128) dX5_give_128 rfl (by omega) (by decide) ?_ | refine e_zast (pc := 128) dX5_give_128 rfl (by assumption) ?_
            refine e_aload_n (pc := 129) dX5_give_129 rfl ?_
            refine e_iload_n (pc := 130) dX5_give_130 rfl ?_
            refine e_iconst (pc := 131) (v := 2) dX5_give_131 (by decide) ?_
            refine e_self2v (pc := 132) dX5_give_132 cs_X5_give_138 cv_X5_becomes rc_X5_becomes rfl (by decide) (Nat.le_of_ble_eq_true rfl) (ev_X5_becomes _ _ (by omega)) ?_
            exact e_wk (hmem _ (by clear hmem ih; simp [cr_rd] at hc_34 hc_120; (first | have hb : bI (N 10 c = 3) = 1 := bI_t hc_120 | have hb : bI (N 10 c = 3) = 0 := bI_f hc_120); funext q i; simp only [cr_rd, n_g1, n_bec, hsn, s_oi, vnar_0, vnar_1, hb]; clear hall hW hnx hhf hmay htk; grind (splits := 30))) ⟨rfl, trivial⟩
          · refine e_iconst (pc := 123) (v := 1) dX5_give_123 (by decide) ?_
            refine e_goto (pc := 124) (tgt := 128) dX5_give_124 (by decide) ?_
            first | refine e_zastN (pc := 128) dX5_give_128 rfl (by omega) (by decide) ?_ | refine e_zast (pc := 128) dX5_give_128 rfl (by assumption) ?_
            refine e_aload_n (pc := 129) dX5_give_129 rfl ?_
            refine e_iload_n (pc := 130) dX5_give_130 rfl ?_
            refine e_iconst (pc := 131) (v := 2) dX5_give_131 (by decide) ?_
            refine e_self2v (pc := 132) dX5_give_132 cs_X5_give_138 cv_X5_becomes rc_X5_becomes rfl (by decide) (Nat.le_of_ble_eq_true rfl) (ev_X5_becomes _ _ (by omega)) ?_
            exact e_wk (hmem _ (by clear hmem ih; simp [cr_rd] at hc_34 hc_120; (first | have hb : bI (N 10 c = 3) = 1 := bI_t hc_120 | have hb : bI (N 10 c = 3) = 0 := bI_f hc_120); funext q i; simp only [cr_rd, n_g1, n_bec, hsn, s_oi, vnar_0, vnar_1, hb]; clear hall hW hnx hhf hmay htk; grind (splits := 30))) ⟨rfl, trivial⟩
        · refine e_aload_n (pc := 37) dX5_give_37 rfl ?_
          refine e_getA (pc := 38) dX5_give_38 f_5_74 rfl rfl ?_
          refine e_iload_n (pc := 41) dX5_give_41 rfl ?_
          refine e_aload_n (pc := 42) dX5_give_42 rfl ?_
          refine e_getA (pc := 43) dX5_give_43 f_5_71 rfl rfl ?_
          refine e_iload_n (pc := 46) dX5_give_46 rfl ?_
          first | refine e_ialdN (pc := 47) dX5_give_47 rfl (by omega) (by decide) ?_ | refine e_iald (pc := 47) dX5_give_47 rfl (by assumption) ?_
          first | refine e_iastN (pc := 48) dX5_give_48 rfl (by omega) (by decide) ?_ | refine e_iast (pc := 48) dX5_give_48 rfl (by assumption) ?_
          refine e_aload_n (pc := 49) dX5_give_49 rfl ?_
          refine e_getA (pc := 50) dX5_give_50 f_5_59 rfl rfl ?_
          refine e_iload_n (pc := 53) dX5_give_53 rfl ?_
          refine e_iconst (pc := 54) (v := 1) dX5_give_54 (by decide) ?_
          first | refine e_iastN (pc := 55) dX5_give_55 rfl (by omega) (by decide) ?_ | refine e_iast (pc := 55) dX5_give_55 rfl (by assumption) ?_
          refine e_aload_n (pc := 56) dX5_give_56 rfl ?_
          refine e_getA (pc := 57) dX5_give_57 f_5_65 rfl rfl ?_
          refine e_iload_n (pc := 60) dX5_give_60 rfl ?_
          refine e_iload_n (pc := 61) dX5_give_61 rfl ?_
          first | refine e_iastN (pc := 62) dX5_give_62 rfl (by omega) (by decide) ?_ | refine e_iast (pc := 62) dX5_give_62 rfl (by assumption) ?_
          refine e_aload_n (pc := 63) dX5_give_63 rfl ?_
          refine e_getA (pc := 64) dX5_give_64 f_5_68 rfl rfl ?_
          refine e_iload_n (pc := 67) dX5_give_67 rfl ?_
          refine e_aload_n (pc := 68) dX5_give_68 rfl ?_
          refine e_getI (pc := 69) dX5_give_69 f_5_127 rfl rfl ?_
          refine e_aload_n (pc := 72) dX5_give_72 rfl ?_
          refine e_getA (pc := 73) dX5_give_73 f_5_47 rfl rfl ?_
          refine e_iload_n (pc := 76) dX5_give_76 rfl ?_
          first | refine e_ialdN (pc := 77) dX5_give_77 rfl (by omega) (by decide) ?_ | refine e_iald (pc := 77) dX5_give_77 rfl (by assumption) ?_
          refine e_iconst (pc := 78) (v := 5) dX5_give_78 (by decide) ?_
          refine e_aload_n (pc := 79) dX5_give_79 rfl ?_
          refine e_iload_n (pc := 80) dX5_give_80 rfl ?_
          refine e_aload_n (pc := 81) dX5_give_81 rfl ?_
          refine e_getA (pc := 82) dX5_give_82 f_5_44 rfl rfl ?_
          refine e_iload_n (pc := 85) dX5_give_85 rfl ?_
          refine e_ialdV (pc := 86) (nI s) dX5_give_86 rfl (by omega) (by decide) hsc ?_
          refine e_self2i (pc := 87) dX5_give_87 cs_X5_give_134 cv_X5_gradeOf rc_X5_gradeOf rfl (by decide) (Nat.le_of_ble_eq_true rfl) (ev_X5_gradeOf _ (by omega) hs) ?_
          refine e_isub (pc := 90) dX5_give_90 ?_
          refine e_imul (pc := 91) dX5_give_91 ?_
          refine e_iconst (pc := 92) (v := 3) dX5_give_92 (by decide) ?_
          refine e_iadd (pc := 93) dX5_give_93 ?_
          refine e_iconst (pc := 94) (v := 4) dX5_give_94 (by decide) ?_
          refine e_idiv (pc := 95) dX5_give_95 (by decide) ?_
          refine e_iadd (pc := 96) dX5_give_96 ?_
          first | refine e_iastN (pc := 97) dX5_give_97 rfl (by omega) (by decide) ?_ | refine e_iast (pc := 97) dX5_give_97 rfl (by assumption) ?_
          refine e_aload_n (pc := 98) dX5_give_98 rfl ?_
          refine e_getA (pc := 99) dX5_give_99 f_5_77 rfl rfl ?_
          refine e_iload_n (pc := 102) dX5_give_102 rfl ?_
          refine e_dup2 (pc := 103) dX5_give_103 ?_
          first | refine e_ialdN (pc := 104) dX5_give_104 rfl (by omega) (by decide) ?_ | refine e_iald (pc := 104) dX5_give_104 rfl (by assumption) ?_
          refine e_iconst (pc := 105) (v := 1) dX5_give_105 (by decide) ?_
          refine e_iadd (pc := 106) dX5_give_106 ?_
          first | refine e_iastN (pc := 107) dX5_give_107 rfl (by omega) (by decide) ?_ | refine e_iast (pc := 107) dX5_give_107 rfl (by assumption) ?_
          refine e_aload_n (pc := 108) dX5_give_108 rfl ?_
          refine e_getA (pc := 109) dX5_give_109 f_5_83 rfl rfl ?_
          refine e_iload_n (pc := 112) dX5_give_112 rfl ?_
          refine e_aload_n (pc := 113) dX5_give_113 rfl ?_
          refine e_getA (pc := 114) dX5_give_114 f_5_41 rfl rfl ?_
          refine e_iload_n (pc := 117) dX5_give_117 rfl ?_
          first | refine e_ialdN (pc := 118) dX5_give_118 rfl (by omega) (by decide) ?_ | refine e_iald (pc := 118) dX5_give_118 rfl (by assumption) ?_
          refine e_iconst (pc := 119) (v := 3) dX5_give_119 (by decide) ?_
          refine e_icmp_ne (pc := 120) (tgt := 127) dX5_give_120 (by decide) (fun hc_120 => ?_) (fun hc_120 => ?_)
          · refine e_iconst (pc := 127) (v := 0) dX5_give_127 (by decide) ?_
            first | refine e_zastN (pc := 128) dX5_give_128 rfl (by omega) (by decide) ?_ | refine e_zast (pc := 128) dX5_give_128 rfl (by assumption) ?_
            refine e_aload_n (pc := 129) dX5_give_129 rfl ?_
            refine e_iload_n (pc := 130) dX5_give_130 rfl ?_
            refine e_iconst (pc := 131) (v := 2) dX5_give_131 (by decide) ?_
            refine e_self2v (pc := 132) dX5_give_132 cs_X5_give_138 cv_X5_becomes rc_X5_becomes rfl (by decide) (Nat.le_of_ble_eq_true rfl) (ev_X5_becomes _ _ (by omega)) ?_
            exact e_wk (hmem _ (by clear hmem ih; simp [cr_rd] at hc_34 hc_120; (first | have hb : bI (N 10 c = 3) = 1 := bI_t hc_120 | have hb : bI (N 10 c = 3) = 0 := bI_f hc_120); funext q i; simp only [cr_rd, n_g1, n_bec, hsn, s_oi, vnar_0, vnar_1, hb]; clear hall hW hnx hhf hmay htk; grind (splits := 30))) ⟨rfl, trivial⟩
          · refine e_iconst (pc := 123) (v := 1) dX5_give_123 (by decide) ?_
            refine e_goto (pc := 124) (tgt := 128) dX5_give_124 (by decide) ?_
            first | refine e_zastN (pc := 128) dX5_give_128 rfl (by omega) (by decide) ?_ | refine e_zast (pc := 128) dX5_give_128 rfl (by assumption) ?_
            refine e_aload_n (pc := 129) dX5_give_129 rfl ?_
            refine e_iload_n (pc := 130) dX5_give_130 rfl ?_
            refine e_iconst (pc := 131) (v := 2) dX5_give_131 (by decide) ?_
            refine e_self2v (pc := 132) dX5_give_132 cs_X5_give_138 cv_X5_becomes rc_X5_becomes rfl (by decide) (Nat.le_of_ble_eq_true rfl) (ev_X5_becomes _ _ (by omega)) ?_
            exact e_wk (hmem _ (by clear hmem ih; simp [cr_rd] at hc_34 hc_120; (first | have hb : bI (N 10 c = 3) = 1 := bI_t hc_120 | have hb : bI (N 10 c = 3) = 0 := bI_f hc_120); funext q i; simp only [cr_rd, n_g1, n_bec, hsn, s_oi, vnar_0, vnar_1, hb]; clear hall hW hnx hhf hmay htk; grind (splits := 30))) ⟨rfl, trivial⟩
set_option maxHeartbeats 1000000 in
theorem ev_X5_give {hn cn : Nat} {N : cr_M} (hW : n_W hn cn N) : cr_EvM Y_X5_give [.inr (.inr 0)] N (none, n_gv hn cn cn N) := by
  refine e_aload_n (pc := 0) dX5_give_0 rfl ?_
  refine e_self0i (pc := 1) dX5_give_1 cs_X5_give_178 cv_X5_nextCall rc_X5_nextCall rfl (by decide) (Nat.le_of_ble_eq_true rfl) (ev_X5_nextCall hW) ?_
  refine e_istore_n (pc := 4) dX5_give_4 (by decide) ?_
  exact e_wk (lp_X5_give cn N hW (n_cw_le N cn)) ⟨rfl, rfl, trivial⟩
