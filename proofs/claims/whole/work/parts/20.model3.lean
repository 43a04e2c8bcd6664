set_option maxHeartbeats 1000000 in
theorem lp_X5_go1 {hn cn : Nat} {N : cr_M} (hW : n_W hn cn N) {z : Int32} {r : Option cr_AV × cr_M} (kc : cr_Ev Y_X5_goesOn 42 [(0, .inr (.inr 0)), (1, .inl z)] [] (n_busy hn 1 N) r) : ∀ (n j : Nat) (Mc : cr_M), j + n = hn → (Mc = n_busy j 1 N) → cr_Ev Y_X5_goesOn 4 [(2, .inl (nI j)), (0, .inr (.inr 0)), (1, .inl z)] [] Mc r := by
  obtain ⟨h10, h200, hsz, hsz2, -⟩ := id hW
  intro n
  induction n with
  | zero =>
    intro j Mc hj hM
    subst hM
    refine e_iload_n (pc := 4) dX5_goesOn_4 rfl ?_
    refine e_aload_n (pc := 5) dX5_goesOn_5 rfl ?_
    refine e_getI (pc := 6) dX5_goesOn_6 f_5_124 rfl rfl ?_
    refine e_icmp_ge (pc := 9) (tgt := 42) dX5_goesOn_9 (by decide) (fun hc_9 => ?_) (fun hc_9 => ?_)
    · have hj2 : j = hn := by omega
      rw [hj2]
      exact e_wk kc ⟨rfl, rfl, trivial⟩
    · exact absurd (show N 0 4 ≤ nI j by rw [hsz]; exact nI_le (by omega) (by omega)) (by assumption)
  | succ n ih =>
    intro j Mc hj hM
    subst hM
    refine e_iload_n (pc := 4) dX5_goesOn_4 rfl ?_
    refine e_aload_n (pc := 5) dX5_goesOn_5 rfl ?_
    refine e_getI (pc := 6) dX5_goesOn_6 f_5_124 rfl rfl ?_
    refine e_icmp_ge (pc := 9) (tgt := 42) dX5_goesOn_9 (by decide) (fun hc_9 => ?_) (fun hc_9 => ?_)
    · exact absurd (show N 0 4 ≤ nI j by assumption) (by rw [hsz]; exact nI_ge (by omega) (by omega))
    · refine e_aload_n (pc := 12) dX5_goesOn_12 rfl ?_
      refine e_getA (pc := 13) dX5_goesOn_13 f_5_38 rfl rfl ?_
      refine e_iload_n (pc := 16) dX5_goesOn_16 rfl ?_
      refine e_dup2 (pc := 17) dX5_goesOn_17 ?_
      first | refine e_ialdN (pc := 18) dX5_goesOn_18 rfl (by omega) (by decide) ?_ | refine e_iald (pc := 18) dX5_goesOn_18 rfl (by assumption) ?_
      refine e_aload_n (pc := 19) dX5_goesOn_19 rfl ?_
      refine e_getA (pc := 20) dX5_goesOn_20 f_5_26 rfl rfl ?_
      refine e_iload_n (pc := 23) dX5_goesOn_23 rfl ?_
      first | refine e_ialdN (pc := 24) dX5_goesOn_24 rfl (by omega) (by decide) ?_ | refine e_iald (pc := 24) dX5_goesOn_24 rfl (by assumption) ?_
      refine e_iconst (pc := 25) (v := 2) dX5_goesOn_25 (by decide) ?_
      refine e_icmp_ne (pc := 26) (tgt := 33) dX5_goesOn_26 (by decide) (fun hc_26 => ?_) (fun hc_26 => ?_)
      · refine e_iconst (pc := 33) (v := 0) dX5_goesOn_33 (by decide) ?_
        refine e_iadd (pc := 34) dX5_goesOn_34 ?_
        first | refine e_iastN (pc := 35) dX5_goesOn_35 rfl (by omega) (by decide) ?_ | refine e_iast (pc := 35) dX5_goesOn_35 rfl (by assumption) ?_
        first | refine e_iinc1 (pc := 36) dX5_goesOn_36 rfl (by decide) ?_ | refine e_iincp (pc := 36) dX5_goesOn_36 rfl (by decide) ?_
        refine e_goto (pc := 39) (tgt := 4) dX5_goesOn_39 (by decide) ?_
        exact e_wk (ih (j + 1) _ (by omega) (by clear ih; funext q i; simp only [cr_rd, n_busy] at *; grind)) ⟨rfl, rfl, rfl, trivial⟩
      · refine e_iconst (pc := 29) (v := 1) dX5_goesOn_29 (by decide) ?_
        refine e_goto (pc := 30) (tgt := 34) dX5_goesOn_30 (by decide) ?_
        refine e_iadd (pc := 34) dX5_goesOn_34 ?_
        first | refine e_iastN (pc := 35) dX5_goesOn_35 rfl (by omega) (by decide) ?_ | refine e_iast (pc := 35) dX5_goesOn_35 rfl (by assumption) ?_
        first | refine e_iinc1 (pc := 36) dX5_goesOn_36 rfl (by decide) ?_ | refine e_iincp (pc := 36) dX5_goesOn_36 rfl (by decide) ?_
        refine e_goto (pc := 39) (tgt := 4) dX5_goesOn_39 (by decide) ?_
        exact e_wk (ih (j + 1) _ (by omega) (by clear ih; funext q i; simp only [cr_rd, n_busy] at *; grind)) ⟨rfl, rfl, rfl, trivial⟩
set_option maxHeartbeats 1000000 in
theorem lp_X5_go2 {hn cn : Nat} {N : cr_M} (hW : n_W hn cn N) (hON : n_ON hn cn N) {r : Option cr_AV × cr_M} (kc : cr_Ev Y_X5_goesOn 137 [(0, .inr (.inr 0)), (1, .inl (n_ecn N cn))] [] (n_ec N cn) r) : ∀ (n j : Nat) (z : Int32) (Mc : cr_M), j + n = cn → (Mc = n_ec N j) → (z = n_ecn N j) → cr_Ev Y_X5_goesOn 54 [(2, .inl (nI j)), (0, .inr (.inr 0)), (1, .inl z)] [] Mc r := by
  obtain ⟨h10, h200, hsz, hsz2, -⟩ := id hW
  have hsz5 : ∀ j, n_ec N j 0 5 = nI cn := fun j => (n_W_ec hW j).2.2.2.1
  intro n
  induction n with
  | zero =>
    intro j z Mc hj hM hz
    subst hM
    refine e_iload_n (pc := 54) dX5_goesOn_54 rfl ?_
    refine e_aload_n (pc := 55) dX5_goesOn_55 rfl ?_
    refine e_getI (pc := 56) dX5_goesOn_56 f_5_142 rfl rfl ?_
    refine e_icmp_ge (pc := 59) (tgt := 137) dX5_goesOn_59 (by decide) (fun hc_59 => ?_) (fun hc_59 => ?_)
    · have hj2 : j = cn := by omega
      rw [hz, hj2]
      exact e_wk kc ⟨rfl, rfl, trivial⟩
    · exact absurd (show n_ec N j 0 5 ≤ nI j by rw [hsz5 j]; exact nI_le (by omega) (by omega)) (by assumption)
  | succ n ih =>
    intro j z Mc hj hM hz
    subst hM
    refine e_iload_n (pc := 54) dX5_goesOn_54 rfl ?_
    refine e_aload_n (pc := 55) dX5_goesOn_55 rfl ?_
    refine e_getI (pc := 56) dX5_goesOn_56 f_5_142 rfl rfl ?_
    refine e_icmp_ge (pc := 59) (tgt := 137) dX5_goesOn_59 (by decide) (fun hc_59 => ?_) (fun hc_59 => ?_)
    · exact absurd (show n_ec N j 0 5 ≤ nI j by assumption) (by rw [hsz5 j]; exact nI_ge (by omega) (by omega))
    · refine e_aload_n (pc := 62) dX5_goesOn_62 rfl ?_
      refine e_getA (pc := 63) dX5_goesOn_63 f_5_59 rfl rfl ?_
      refine e_iload_n (pc := 66) dX5_goesOn_66 rfl ?_
      first | refine e_ialdN (pc := 67) dX5_goesOn_67 rfl (by omega) (by decide) ?_ | refine e_iald (pc := 67) dX5_goesOn_67 rfl (by assumption) ?_
      refine e_iconst (pc := 68) (v := 1) dX5_goesOn_68 (by decide) ?_
      refine e_icmp_ne (pc := 69) (tgt := 131) dX5_goesOn_69 (by decide) (fun hc_69 => ?_) (fun hc_69 => ?_)
      · first | refine e_iinc1 (pc := 131) dX5_goesOn_131 rfl (by decide) ?_ | refine e_iincp (pc := 131) dX5_goesOn_131 rfl (by decide) ?_
        refine e_goto (pc := 134) (tgt := 54) dX5_goesOn_134 (by decide) ?_
        exact e_wk (ih (j + 1) _ _ (by omega) (by first | (rw [n_ec, if_pos (by grind), hk18, nI_clamp (by omega)]; rfl) | (rw [n_ec, if_neg (by grind)])) (by rw [n_ecn, hz]; first | rw [if_pos (by grind)] | rw [if_neg (by grind)])) ⟨rfl, rfl, rfl, trivial⟩
      · refine e_aload_n (pc := 72) dX5_goesOn_72 rfl ?_
        refine e_getA (pc := 73) dX5_goesOn_73 f_5_68 rfl rfl ?_
        refine e_iload_n (pc := 76) dX5_goesOn_76 rfl ?_
        first | refine e_ialdN (pc := 77) dX5_goesOn_77 rfl (by omega) (by decide) ?_ | refine e_iald (pc := 77) dX5_goesOn_77 rfl (by assumption) ?_
        refine e_aload_n (pc := 78) dX5_goesOn_78 rfl ?_
        refine e_getI (pc := 79) dX5_goesOn_79 f_5_127 rfl rfl ?_
        refine e_icmp_le (pc := 82) (tgt := 88) dX5_goesOn_82 (by decide) (fun hc_82 => ?_) (fun hc_82 => ?_)
        · obtain ⟨k, hk, hk18⟩ : ∃ k, k < hn ∧ n_ec N j 18 j = nI k := by
            rw [n_ec_out (by decide) (by decide) (by decide) (by decide) (by decide) (by decide) j]
            exact hON j (by omega) (by rw [← n_ec_16 (N := N) j j (Nat.le_refl _)]; exact hc_69)
          refine e_aload_n (pc := 88) dX5_goesOn_88 rfl ?_
          refine e_getA (pc := 89) dX5_goesOn_89 f_5_59 rfl rfl ?_
          refine e_iload_n (pc := 92) dX5_goesOn_92 rfl ?_
          refine e_iconst (pc := 93) (v := 2) dX5_goesOn_93 (by decide) ?_
          first | refine e_iastN (pc := 94) dX5_goesOn_94 rfl (by omega) (by decide) ?_ | refine e_iast (pc := 94) dX5_goesOn_94 rfl (by assumption) ?_
          refine e_aload_n (pc := 95) dX5_goesOn_95 rfl ?_
          refine e_getA (pc := 96) dX5_goesOn_96 f_5_68 rfl rfl ?_
          refine e_iload_n (pc := 99) dX5_goesOn_99 rfl ?_
          refine e_bipush (pc := 100) (v := (-9)) dX5_goesOn_100 (by decide) ?_
          first | refine e_iastN (pc := 102) dX5_goesOn_102 rfl (by omega) (by decide) ?_ | refine e_iast (pc := 102) dX5_goesOn_102 rfl (by assumption) ?_
          refine e_aload_n (pc := 103) dX5_goesOn_103 rfl ?_
          refine e_getA (pc := 104) dX5_goesOn_104 f_5_35 rfl rfl ?_
          refine e_aload_n (pc := 107) dX5_goesOn_107 rfl ?_
          refine e_getA (pc := 108) dX5_goesOn_108 f_5_65 rfl rfl ?_
          refine e_iload_n (pc := 111) dX5_goesOn_111 rfl ?_
          refine e_ialdV (pc := 112) (nI k) dX5_goesOn_112 rfl (by omega) (by decide) hk18 ?_
          refine e_dup2 (pc := 113) dX5_goesOn_113 ?_
          first | refine e_ialdN (pc := 114) dX5_goesOn_114 rfl (by omega) (by decide) ?_ | refine e_iald (pc := 114) dX5_goesOn_114 rfl (by assumption) ?_
          refine e_iconst (pc := 115) (v := 1) dX5_goesOn_115 (by decide) ?_
          refine e_iadd (pc := 116) dX5_goesOn_116 ?_
          first | refine e_iastN (pc := 117) dX5_goesOn_117 rfl (by omega) (by decide) ?_ | refine e_iast (pc := 117) dX5_goesOn_117 rfl (by assumption) ?_
          refine e_aload_n (pc := 118) dX5_goesOn_118 rfl ?_
          refine e_aload_n (pc := 119) dX5_goesOn_119 rfl ?_
          refine e_getA (pc := 120) dX5_goesOn_120 f_5_65 rfl rfl ?_
          refine e_iload_n (pc := 123) dX5_goesOn_123 rfl ?_
          refine e_ialdV (pc := 124) (nI k) dX5_goesOn_124 rfl (by omega) (by decide) hk18 ?_
          refine e_self1v (pc := 125) dX5_goesOn_125 cs_X5_goesOn_148 cv_X5_loses rc_X5_loses rfl (by decide) (Nat.le_of_ble_eq_true rfl) (ev_X5_loses _ (by omega)) ?_
          first | refine e_iinc1 (pc := 128) dX5_goesOn_128 rfl (by decide) ?_ | refine e_iincp (pc := 128) dX5_goesOn_128 rfl (by decide) ?_
          first | refine e_iinc1 (pc := 131) dX5_goesOn_131 rfl (by decide) ?_ | refine e_iincp (pc := 131) dX5_goesOn_131 rfl (by decide) ?_
          refine e_goto (pc := 134) (tgt := 54) dX5_goesOn_134 (by decide) ?_
          exact e_wk (ih (j + 1) _ _ (by omega) (by first | (rw [n_ec, if_pos (by grind), hk18, nI_clamp (by omega)]; rfl) | (rw [n_ec, if_neg (by grind)])) (by rw [n_ecn, hz]; first | rw [if_pos (by grind)] | rw [if_neg (by grind)])) ⟨rfl, rfl, rfl, trivial⟩
        · refine e_goto (pc := 85) (tgt := 131) dX5_goesOn_85 (by decide) ?_
          first | refine e_iinc1 (pc := 131) dX5_goesOn_131 rfl (by decide) ?_ | refine e_iincp (pc := 131) dX5_goesOn_131 rfl (by decide) ?_
          refine e_goto (pc := 134) (tgt := 54) dX5_goesOn_134 (by decide) ?_
          exact e_wk (ih (j + 1) _ _ (by omega) (by first | (rw [n_ec, if_pos (by grind), hk18, nI_clamp (by omega)]; rfl) | (rw [n_ec, if_neg (by grind)])) (by rw [n_ecn, hz]; first | rw [if_pos (by grind)] | rw [if_neg (by grind)])) ⟨rfl, rfl, rfl, trivial⟩
set_option maxHeartbeats 1000000 in
theorem lp_X5_go3 {hn cn : Nat} {N : cr_M} (hW : n_W hn cn N) {z : Int32} {r : Option cr_AV × cr_M} (kc : cr_Ev Y_X5_goesOn 182 [(0, .inr (.inr 0)), (1, .inl z)] [] (n_brk hn N) r) : ∀ (n j : Nat) (Mc : cr_M), j + n = hn → (Mc = n_brk j N) → cr_Ev Y_X5_goesOn 139 [(2, .inl (nI j)), (0, .inr (.inr 0)), (1, .inl z)] [] Mc r := by
  obtain ⟨h10, h200, hsz, hsz2, -⟩ := id hW
  intro n
  induction n with
  | zero =>
    intro j Mc hj hM
    subst hM
    refine e_iload_n (pc := 139) dX5_goesOn_139 rfl ?_
    refine e_aload_n (pc := 140) dX5_goesOn_140 rfl ?_
    refine e_getI (pc := 141) dX5_goesOn_141 f_5_124 rfl rfl ?_
    refine e_icmp_ge (pc := 144) (tgt := 182) dX5_goesOn_144 (by decide) (fun hc_144 => ?_) (fun hc_144 => ?_)
    · have hj2 : j = hn := by omega
      rw [hj2]
      exact e_wk kc ⟨rfl, rfl, trivial⟩
    · exact absurd (show N 0 4 ≤ nI j by rw [hsz]; exact nI_le (by omega) (by omega)) (by assumption)
  | succ n ih =>
    intro j Mc hj hM
    subst hM
    refine e_iload_n (pc := 139) dX5_goesOn_139 rfl ?_
    refine e_aload_n (pc := 140) dX5_goesOn_140 rfl ?_
    refine e_getI (pc := 141) dX5_goesOn_141 f_5_124 rfl rfl ?_
    refine e_icmp_ge (pc := 144) (tgt := 182) dX5_goesOn_144 (by decide) (fun hc_144 => ?_) (fun hc_144 => ?_)
    · exact absurd (show N 0 4 ≤ nI j by assumption) (by rw [hsz]; exact nI_ge (by omega) (by omega))
    · refine e_aload_n (pc := 147) dX5_goesOn_147 rfl ?_
      refine e_getA (pc := 148) dX5_goesOn_148 f_5_26 rfl rfl ?_
      refine e_iload_n (pc := 151) dX5_goesOn_151 rfl ?_
      first | refine e_ialdN (pc := 152) dX5_goesOn_152 rfl (by omega) (by decide) ?_ | refine e_iald (pc := 152) dX5_goesOn_152 rfl (by assumption) ?_
      refine e_iconst (pc := 153) (v := 3) dX5_goesOn_153 (by decide) ?_
      refine e_icmp_ne (pc := 154) (tgt := 176) dX5_goesOn_154 (by decide) (fun hc_154 => ?_) (fun hc_154 => ?_)
      · first | refine e_iinc1 (pc := 176) dX5_goesOn_176 rfl (by decide) ?_ | refine e_iincp (pc := 176) dX5_goesOn_176 rfl (by decide) ?_
        refine e_goto (pc := 179) (tgt := 139) dX5_goesOn_179 (by decide) ?_
        exact e_wk (ih (j + 1) _ (by omega) (by clear ih; funext q i; simp only [cr_rd, n_brk, n_bec] at *; grind (splits := 20))) ⟨rfl, rfl, rfl, trivial⟩
      · refine e_aload_n (pc := 157) dX5_goesOn_157 rfl ?_
        refine e_getA (pc := 158) dX5_goesOn_158 f_5_32 rfl rfl ?_
        refine e_iload_n (pc := 161) dX5_goesOn_161 rfl ?_
        first | refine e_ialdN (pc := 162) dX5_goesOn_162 rfl (by omega) (by decide) ?_ | refine e_iald (pc := 162) dX5_goesOn_162 rfl (by assumption) ?_
        refine e_aload_n (pc := 163) dX5_goesOn_163 rfl ?_
        refine e_getI (pc := 164) dX5_goesOn_164 f_5_127 rfl rfl ?_
        refine e_icmp_gt (pc := 167) (tgt := 176) dX5_goesOn_167 (by decide) (fun hc_167 => ?_) (fun hc_167 => ?_)
        · first | refine e_iinc1 (pc := 176) dX5_goesOn_176 rfl (by decide) ?_ | refine e_iincp (pc := 176) dX5_goesOn_176 rfl (by decide) ?_
          refine e_goto (pc := 179) (tgt := 139) dX5_goesOn_179 (by decide) ?_
          exact e_wk (ih (j + 1) _ (by omega) (by clear ih; funext q i; simp only [cr_rd, n_brk, n_bec] at *; grind (splits := 20))) ⟨rfl, rfl, rfl, trivial⟩
        · refine e_aload_n (pc := 170) dX5_goesOn_170 rfl ?_
          refine e_iload_n (pc := 171) dX5_goesOn_171 rfl ?_
          refine e_iconst (pc := 172) (v := 1) dX5_goesOn_172 (by decide) ?_
          refine e_self2v (pc := 173) dX5_goesOn_173 cs_X5_goesOn_138 cv_X5_becomes rc_X5_becomes rfl (by decide) (Nat.le_of_ble_eq_true rfl) (ev_X5_becomes _ _ (by omega)) ?_
          first | refine e_iinc1 (pc := 176) dX5_goesOn_176 rfl (by decide) ?_ | refine e_iincp (pc := 176) dX5_goesOn_176 rfl (by decide) ?_
          refine e_goto (pc := 179) (tgt := 139) dX5_goesOn_179 (by decide) ?_
          exact e_wk (ih (j + 1) _ (by omega) (by clear ih; funext q i; simp only [cr_rd, n_brk, n_bec] at *; grind (splits := 20))) ⟨rfl, rfl, rfl, trivial⟩
set_option maxHeartbeats 1000000 in
theorem lp_X5_go4 {hn cn : Nat} {N : cr_M} (hW : n_W hn cn N) {z : Int32} {r : Option cr_AV × cr_M} (kc : cr_Ev Y_X5_goesOn 249 [(0, .inr (.inr 0)), (1, .inl z)] [] (n_ring cn N) r) : ∀ (n j : Nat) (Mc : cr_M), j + n = cn → (Mc = n_ring j N) → cr_Ev Y_X5_goesOn 184 [(2, .inl (nI j)), (0, .inr (.inr 0)), (1, .inl z)] [] Mc r := by
  obtain ⟨h10, h200, hsz, hsz2, -⟩ := id hW
  intro n
  induction n with
  | zero =>
    intro j Mc hj hM
    subst hM
    refine e_iload_n (pc := 184) dX5_goesOn_184 rfl ?_
    refine e_aload_n (pc := 185) dX5_goesOn_185 rfl ?_
    refine e_getI (pc := 186) dX5_goesOn_186 f_5_142 rfl rfl ?_
    refine e_icmp_ge (pc := 189) (tgt := 249) dX5_goesOn_189 (by decide) (fun hc_189 => ?_) (fun hc_189 => ?_)
    · have hj2 : j = cn := by omega
      rw [hj2]
      exact e_wk kc ⟨rfl, rfl, trivial⟩
    · exact absurd (show N 0 5 ≤ nI j by rw [hsz2]; exact nI_le (by omega) (by omega)) (by assumption)
  | succ n ih =>
    intro j Mc hj hM
    subst hM
    refine e_iload_n (pc := 184) dX5_goesOn_184 rfl ?_
    refine e_aload_n (pc := 185) dX5_goesOn_185 rfl ?_
    refine e_getI (pc := 186) dX5_goesOn_186 f_5_142 rfl rfl ?_
    refine e_icmp_ge (pc := 189) (tgt := 249) dX5_goesOn_189 (by decide) (fun hc_189 => ?_) (fun hc_189 => ?_)
    · exact absurd (show N 0 5 ≤ nI j by assumption) (by rw [hsz2]; exact nI_ge (by omega) (by omega))
    · refine e_aload_n (pc := 192) dX5_goesOn_192 rfl ?_
      refine e_getA (pc := 193) dX5_goesOn_193 f_5_59 rfl rfl ?_
      refine e_iload_n (pc := 196) dX5_goesOn_196 rfl ?_
      first | refine e_ialdN (pc := 197) dX5_goesOn_197 rfl (by omega) (by decide) ?_ | refine e_iald (pc := 197) dX5_goesOn_197 rfl (by assumption) ?_
      refine e_iconst (pc := 198) (v := 4) dX5_goesOn_198 (by decide) ?_
      refine e_icmp_ne (pc := 199) (tgt := 243) dX5_goesOn_199 (by decide) (fun hc_199 => ?_) (fun hc_199 => ?_)
      · first | refine e_iinc1 (pc := 243) dX5_goesOn_243 rfl (by decide) ?_ | refine e_iincp (pc := 243) dX5_goesOn_243 rfl (by decide) ?_
        refine e_goto (pc := 246) (tgt := 184) dX5_goesOn_246 (by decide) ?_
        exact e_wk (ih (j + 1) _ (by omega) (by clear ih; funext q i; simp only [cr_rd, n_ring] at *; grind (splits := 30))) ⟨rfl, rfl, rfl, trivial⟩
      · refine e_aload_n (pc := 202) dX5_goesOn_202 rfl ?_
        refine e_getA (pc := 203) dX5_goesOn_203 f_5_68 rfl rfl ?_
        refine e_iload_n (pc := 206) dX5_goesOn_206 rfl ?_
        first | refine e_ialdN (pc := 207) dX5_goesOn_207 rfl (by omega) (by decide) ?_ | refine e_iald (pc := 207) dX5_goesOn_207 rfl (by assumption) ?_
        refine e_aload_n (pc := 208) dX5_goesOn_208 rfl ?_
        refine e_getI (pc := 209) dX5_goesOn_209 f_5_127 rfl rfl ?_
        refine e_icmp_le (pc := 212) (tgt := 218) dX5_goesOn_212 (by decide) (fun hc_212 => ?_) (fun hc_212 => ?_)
        · refine e_aload_n (pc := 218) dX5_goesOn_218 rfl ?_
          refine e_getA (pc := 219) dX5_goesOn_219 f_5_59 rfl rfl ?_
          refine e_iload_n (pc := 222) dX5_goesOn_222 rfl ?_
          refine e_iconst (pc := 223) (v := 0) dX5_goesOn_223 (by decide) ?_
          first | refine e_iastN (pc := 224) dX5_goesOn_224 rfl (by omega) (by decide) ?_ | refine e_iast (pc := 224) dX5_goesOn_224 rfl (by assumption) ?_
          refine e_aload_n (pc := 225) dX5_goesOn_225 rfl ?_
          refine e_getA (pc := 226) dX5_goesOn_226 f_5_62 rfl rfl ?_
          refine e_iload_n (pc := 229) dX5_goesOn_229 rfl ?_
          refine e_aload_n (pc := 230) dX5_goesOn_230 rfl ?_
          refine e_getI (pc := 231) dX5_goesOn_231 f_5_127 rfl rfl ?_
          first | refine e_iastN (pc := 234) dX5_goesOn_234 rfl (by omega) (by decide) ?_ | refine e_iast (pc := 234) dX5_goesOn_234 rfl (by assumption) ?_
          refine e_aload_n (pc := 235) dX5_goesOn_235 rfl ?_
          refine e_getA (pc := 236) dX5_goesOn_236 f_5_68 rfl rfl ?_
          refine e_iload_n (pc := 239) dX5_goesOn_239 rfl ?_
          refine e_bipush (pc := 240) (v := (-9)) dX5_goesOn_240 (by decide) ?_
          first | refine e_iastN (pc := 242) dX5_goesOn_242 rfl (by omega) (by decide) ?_ | refine e_iast (pc := 242) dX5_goesOn_242 rfl (by assumption) ?_
          first | refine e_iinc1 (pc := 243) dX5_goesOn_243 rfl (by decide) ?_ | refine e_iincp (pc := 243) dX5_goesOn_243 rfl (by decide) ?_
          refine e_goto (pc := 246) (tgt := 184) dX5_goesOn_246 (by decide) ?_
          exact e_wk (ih (j + 1) _ (by omega) (by clear ih; funext q i; simp only [cr_rd, n_ring] at *; grind (splits := 30))) ⟨rfl, rfl, rfl, trivial⟩
        · refine e_goto (pc := 215) (tgt := 243) dX5_goesOn_215 (by decide) ?_
          first | refine e_iinc1 (pc := 243) dX5_goesOn_243 rfl (by decide) ?_ | refine e_iincp (pc := 243) dX5_goesOn_243 rfl (by decide) ?_
          refine e_goto (pc := 246) (tgt := 184) dX5_goesOn_246 (by decide) ?_
          exact e_wk (ih (j + 1) _ (by omega) (by clear ih; funext q i; simp only [cr_rd, n_ring] at *; grind (splits := 30))) ⟨rfl, rfl, rfl, trivial⟩
set_option maxHeartbeats 1000000 in
theorem lp_X5_go5 {hn cn : Nat} {N : cr_M} (hW : n_W hn cn N) {z : Int32} {r : Option cr_AV × cr_M} (kc : cr_Ev Y_X5_goesOn 295 [(0, .inr (.inr 0)), (1, .inl z)] [] (n_lose cn N) r) : ∀ (n j : Nat) (Mc : cr_M), j + n = cn → (Mc = n_lose j N) → cr_Ev Y_X5_goesOn 251 [(2, .inl (nI j)), (0, .inr (.inr 0)), (1, .inl z)] [] Mc r := by
  obtain ⟨h10, h200, hsz, hsz2, -⟩ := id hW
  intro n
  induction n with
  | zero =>
    intro j Mc hj hM
    subst hM
    refine e_iload_n (pc := 251) dX5_goesOn_251 rfl ?_
    refine e_aload_n (pc := 252) dX5_goesOn_252 rfl ?_
    refine e_getI (pc := 253) dX5_goesOn_253 f_5_142 rfl rfl ?_
    refine e_icmp_ge (pc := 256) (tgt := 295) dX5_goesOn_256 (by decide) (fun hc_256 => ?_) (fun hc_256 => ?_)
    · have hj2 : j = cn := by omega
      rw [hj2]
      exact e_wk kc ⟨rfl, rfl, trivial⟩
    · exact absurd (show N 0 5 ≤ nI j by rw [hsz2]; exact nI_le (by omega) (by omega)) (by assumption)
  | succ n ih =>
    intro j Mc hj hM
    subst hM
    refine e_iload_n (pc := 251) dX5_goesOn_251 rfl ?_
    refine e_aload_n (pc := 252) dX5_goesOn_252 rfl ?_
    refine e_getI (pc := 253) dX5_goesOn_253 f_5_142 rfl rfl ?_
    refine e_icmp_ge (pc := 256) (tgt := 295) dX5_goesOn_256 (by decide) (fun hc_256 => ?_) (fun hc_256 => ?_)
    · exact absurd (show N 0 5 ≤ nI j by assumption) (by rw [hsz2]; exact nI_ge (by omega) (by omega))
    · refine e_aload_n (pc := 259) dX5_goesOn_259 rfl ?_
      refine e_getA (pc := 260) dX5_goesOn_260 f_5_59 rfl rfl ?_
      refine e_iload_n (pc := 263) dX5_goesOn_263 rfl ?_
      first | refine e_ialdN (pc := 264) dX5_goesOn_264 rfl (by omega) (by decide) ?_ | refine e_iald (pc := 264) dX5_goesOn_264 rfl (by assumption) ?_
      refine e_if_ne (pc := 265) (tgt := 289) dX5_goesOn_265 (by decide) (fun hc_265 => ?_) (fun hc_265 => ?_)
      · first | refine e_iinc1 (pc := 289) dX5_goesOn_289 rfl (by decide) ?_ | refine e_iincp (pc := 289) dX5_goesOn_289 rfl (by decide) ?_
        refine e_goto (pc := 292) (tgt := 251) dX5_goesOn_292 (by decide) ?_
        exact e_wk (ih (j + 1) _ (by omega) (by clear ih; funext q i; simp only [cr_rd, n_lose] at *; grind (splits := 20))) ⟨rfl, rfl, rfl, trivial⟩
      · refine e_aload_n (pc := 268) dX5_goesOn_268 rfl ?_
        refine e_iload_n (pc := 269) dX5_goesOn_269 rfl ?_
        refine e_self1i (pc := 270) dX5_goesOn_270 cs_X5_goesOn_156 cv_X5_waitedOf rc_X5_waitedOf rfl (by decide) (Nat.le_of_ble_eq_true rfl) (ev_X5_waitedOf _ (by omega)) ?_
        refine e_aload_n (pc := 273) dX5_goesOn_273 rfl ?_
        refine e_getA (pc := 274) dX5_goesOn_274 f_5_50 rfl rfl ?_
        refine e_iload_n (pc := 277) dX5_goesOn_277 rfl ?_
        first | refine e_ialdN (pc := 278) dX5_goesOn_278 rfl (by omega) (by decide) ?_ | refine e_iald (pc := 278) dX5_goesOn_278 rfl (by assumption) ?_
        refine e_icmp_le (pc := 279) (tgt := 289) dX5_goesOn_279 (by decide) (fun hc_279 => ?_) (fun hc_279 => ?_)
        · first | refine e_iinc1 (pc := 289) dX5_goesOn_289 rfl (by decide) ?_ | refine e_iincp (pc := 289) dX5_goesOn_289 rfl (by decide) ?_
          refine e_goto (pc := 292) (tgt := 251) dX5_goesOn_292 (by decide) ?_
          exact e_wk (ih (j + 1) _ (by omega) (by clear ih; funext q i; simp only [cr_rd, n_lose] at *; grind (splits := 20))) ⟨rfl, rfl, rfl, trivial⟩
        · refine e_aload_n (pc := 282) dX5_goesOn_282 rfl ?_
          refine e_getA (pc := 283) dX5_goesOn_283 f_5_59 rfl rfl ?_
          refine e_iload_n (pc := 286) dX5_goesOn_286 rfl ?_
          refine e_iconst (pc := 287) (v := 3) dX5_goesOn_287 (by decide) ?_
          first | refine e_iastN (pc := 288) dX5_goesOn_288 rfl (by omega) (by decide) ?_ | refine e_iast (pc := 288) dX5_goesOn_288 rfl (by assumption) ?_
          first | refine e_iinc1 (pc := 289) dX5_goesOn_289 rfl (by decide) ?_ | refine e_iincp (pc := 289) dX5_goesOn_289 rfl (by decide) ?_
          refine e_goto (pc := 292) (tgt := 251) dX5_goesOn_292 (by decide) ?_
          exact e_wk (ih (j + 1) _ (by omega) (by clear ih; funext q i; simp only [cr_rd, n_lose] at *; grind (splits := 20))) ⟨rfl, rfl, rfl, trivial⟩
set_option maxHeartbeats 1000000 in
theorem ev_X5_goesOn {hn cn : Nat} {N : cr_M} (hW : n_W hn cn N) (hON : n_ON hn cn N) : cr_EvM Y_X5_goesOn [.inr (.inr 0)] N (some (.inl (n_gon hn cn N)), n_go hn cn N) := by
  refine e_iconst (pc := 0) (v := 0) dX5_goesOn_0 (by decide) ?_
  refine e_istore_n (pc := 1) dX5_goesOn_1 (by decide) ?_
  refine e_iconst (pc := 2) (v := 0) dX5_goesOn_2 (by decide) ?_
  refine e_istore_n (pc := 3) dX5_goesOn_3 (by decide) ?_
  refine e_wk (lp_X5_go1 hW ?_ hn 0 _ (by omega) (by funext q i; simp [n_busy])) ⟨rfl, rfl, rfl, trivial⟩
  refine e_aload_n (pc := 42) dX5_goesOn_42 rfl ?_
  refine e_dup_a (pc := 43) dX5_goesOn_43 ?_
  refine e_getI (pc := 44) dX5_goesOn_44 f_5_127 rfl rfl ?_
  refine e_iconst (pc := 47) (v := 1) dX5_goesOn_47 (by decide) ?_
  refine e_iadd (pc := 48) dX5_goesOn_48 ?_
  refine e_put (pc := 49) dX5_goesOn_49 f_5_127 p_5_3 rfl rfl ?_
  refine e_iconst (pc := 52) (v := 0) dX5_goesOn_52 (by decide) ?_
  refine e_istore_n (pc := 53) dX5_goesOn_53 (by decide) ?_
  refine e_wk (lp_X5_go2 (n_W_tick (n_W_busy (m := hn) (x := 1) hW)) hON ?_ cn 0 _ _ (by omega) rfl rfl) ⟨rfl, rfl, rfl, trivial⟩
  refine e_iconst (pc := 137) (v := 0) dX5_goesOn_137 (by decide) ?_
  refine e_istore_n (pc := 138) dX5_goesOn_138 (by decide) ?_
  refine e_wk (lp_X5_go3 (n_W_ec (n_W_tick (n_W_busy (m := hn) (x := 1) hW)) cn) ?_ hn 0 _ (by omega) (by funext q i; simp [n_brk])) ⟨rfl, rfl, rfl, trivial⟩
  refine e_iconst (pc := 182) (v := 0) dX5_goesOn_182 (by decide) ?_
  refine e_istore_n (pc := 183) dX5_goesOn_183 (by decide) ?_
  refine e_wk (lp_X5_go4 (n_W_brk (m := hn) (n_W_ec (n_W_tick (n_W_busy (m := hn) (x := 1) hW)) cn)) ?_ cn 0 _ (by omega) (by funext q i; simp [n_ring])) ⟨rfl, rfl, rfl, trivial⟩
  refine e_iconst (pc := 249) (v := 0) dX5_goesOn_249 (by decide) ?_
  refine e_istore_n (pc := 250) dX5_goesOn_250 (by decide) ?_
  refine e_wk (lp_X5_go5 (n_W_ring (m := cn) (n_W_brk (m := hn) (n_W_ec (n_W_tick (n_W_busy (m := hn) (x := 1) hW)) cn))) ?_ cn 0 _ (by omega) (by funext q i; simp [n_lose])) ⟨rfl, rfl, rfl, trivial⟩
  refine e_aload_n (pc := 295) dX5_goesOn_295 rfl ?_
  refine e_self0v (pc := 296) dX5_goesOn_296 cs_X5_goesOn_185 cv_X5_give rc_X5_give rfl (by decide) (Nat.le_of_ble_eq_true rfl) (ev_X5_give (n_W_lose (n_W_ring (m := cn) (n_W_brk (m := hn) (n_W_ec (n_W_tick (n_W_busy (m := hn) (x := 1) hW)) cn))))) ?_
  refine e_iload_n (pc := 299) dX5_goesOn_299 rfl ?_
  refine r_iret (pc := 300) dX5_goesOn_300 rfl ?_
  rfl
def n_k1 (hn : Nat) (N : cr_M) : cr_M := fun q i => if q = 26 ∧ i < hn then N 5 i else if q = 27 ∧ i < hn then N 6 i else if q = 28 ∧ i < hn then N 8 i else if q = 29 ∧ i < hn then N 9 i else if q = 23 ∧ i < hn then N 22 i else if q = 25 ∧ i < hn then N 24 i else N q i
def n_k2 (cn : Nat) (N : cr_M) : cr_M := fun q i => if q = 30 ∧ i < cn then N 16 i else if q = 31 ∧ i < cn then N 17 i else if q = 32 ∧ i < cn then N 18 i else if q = 33 ∧ i < cn then N 19 i else if q = 34 ∧ i < cn then N 20 i else if q = 35 ∧ i < cn then N 21 i else N q i
def n_b1 (hn : Nat) (N : cr_M) : cr_M := fun q i => if q = 5 ∧ i < hn then N 26 i else if q = 6 ∧ i < hn then N 27 i else if q = 8 ∧ i < hn then N 28 i else if q = 9 ∧ i < hn then N 29 i else if q = 22 ∧ i < hn then N 23 i else if q = 24 ∧ i < hn then N 25 i else N q i
def n_b2 (cn : Nat) (N : cr_M) : cr_M := fun q i => if q = 16 ∧ i < cn then N 30 i else if q = 17 ∧ i < cn then N 31 i else if q = 18 ∧ i < cn then N 32 i else if q = 19 ∧ i < cn then N 33 i else if q = 20 ∧ i < cn then N 34 i else if q = 21 ∧ i < cn then N 35 i else N q i
def n_keep (hn cn : Nat) (N : cr_M) : cr_M := n_k2 cn (n_k1 hn (cr_up N 0 30 (N 0 3)))
def n_putb (hn cn : Nat) (N : cr_M) : cr_M := n_b2 cn (n_b1 hn (cr_up N 0 3 (N 0 30)))
theorem n_W_k1 {hn cn : Nat} {N : cr_M} (h : n_W hn cn N) {m : Nat} : n_W hn cn (n_k1 m N) := n_W_of h rfl rfl (fun _ _ => rfl) (fun _ _ => rfl)
theorem n_W_b1 {hn cn : Nat} {N : cr_M} (h : n_W hn cn N) {m : Nat} : n_W hn cn (n_b1 m N) := n_W_of h rfl rfl (fun _ _ => rfl) (fun _ _ => rfl)
theorem n_W_up {hn cn : Nat} {N : cr_M} (h : n_W hn cn N) {i : Nat} {x : Int32} (hi : i = 3 ∨ i = 30) : n_W hn cn (cr_up N 0 i x) := by
  rcases hi with rfl | rfl <;> exact n_W_of h rfl rfl (fun _ _ => rfl) (fun _ _ => rfl)
theorem vnar_z {x : Int32} (h : x = 0 ∨ x = 1) : vp_nar .boolean x = x := by rcases h with rfl | rfl <;> rfl
set_option maxHeartbeats 1000000 in
theorem lp_X5_keep1 {hn cn : Nat} {N : cr_M} (hW : n_W hn cn N) (hB : ∀ i, i < hn → N 24 i = 0 ∨ N 24 i = 1) {r : Option cr_AV × cr_M} (kc : cr_Ev Y_X5_keep 96 [(0, .inr (.inr 0))] [] (n_k1 hn N) r) : ∀ (n j : Nat) (Mc : cr_M), j + n = hn → (Mc = n_k1 j N) → cr_Ev Y_X5_keep 10 [(1, .inl (nI j)), (0, .inr (.inr 0))] [] Mc r := by
  obtain ⟨h10, h200, hsz, hsz2, -⟩ := id hW
  intro n
  induction n with
  | zero =>
    intro j Mc hj hM
    subst hM
    refine e_iload_n (pc := 10) dX5_keep_10 rfl ?_
    refine e_aload_n (pc := 11) dX5_keep_11 rfl ?_
    refine e_getI (pc := 12) dX5_keep_12 f_5_124 rfl rfl ?_
    refine e_icmp_ge (pc := 15) (tgt := 96) dX5_keep_15 (by decide) (fun hc_15 => ?_) (fun hc_15 => ?_)
    · have hj2 : j = hn := by omega
      rw [hj2]
      exact e_wk kc ⟨rfl, trivial⟩
    · exact absurd (show N 0 4 ≤ nI j by rw [hsz]; exact nI_le (by omega) (by omega)) (by assumption)
  | succ n ih =>
    intro j Mc hj hM
    subst hM
    refine e_iload_n (pc := 10) dX5_keep_10 rfl ?_
    refine e_aload_n (pc := 11) dX5_keep_11 rfl ?_
    refine e_getI (pc := 12) dX5_keep_12 f_5_124 rfl rfl ?_
    refine e_icmp_ge (pc := 15) (tgt := 96) dX5_keep_15 (by decide) (fun hc_15 => ?_) (fun hc_15 => ?_)
    · exact absurd (show N 0 4 ≤ nI j by assumption) (by rw [hsz]; exact nI_ge (by omega) (by omega))
    · refine e_aload_n (pc := 18) dX5_keep_18 rfl ?_
      refine e_getA (pc := 19) dX5_keep_19 f_5_90 rfl rfl ?_
      refine e_iload_n (pc := 22) dX5_keep_22 rfl ?_
      refine e_aload_n (pc := 23) dX5_keep_23 rfl ?_
      refine e_getA (pc := 24) dX5_keep_24 f_5_26 rfl rfl ?_
      refine e_iload_n (pc := 27) dX5_keep_27 rfl ?_
      first | refine e_ialdN (pc := 28) dX5_keep_28 rfl (by omega) (by decide) ?_ | refine e_iald (pc := 28) dX5_keep_28 rfl (by assumption) ?_
      first | refine e_iastN (pc := 29) dX5_keep_29 rfl (by omega) (by decide) ?_ | refine e_iast (pc := 29) dX5_keep_29 rfl (by assumption) ?_
      refine e_aload_n (pc := 30) dX5_keep_30 rfl ?_
      refine e_getA (pc := 31) dX5_keep_31 f_5_93 rfl rfl ?_
      refine e_iload_n (pc := 34) dX5_keep_34 rfl ?_
      refine e_aload_n (pc := 35) dX5_keep_35 rfl ?_
      refine e_getA (pc := 36) dX5_keep_36 f_5_29 rfl rfl ?_
      refine e_iload_n (pc := 39) dX5_keep_39 rfl ?_
      first | refine e_ialdN (pc := 40) dX5_keep_40 rfl (by omega) (by decide) ?_ | refine e_iald (pc := 40) dX5_keep_40 rfl (by assumption) ?_
      first | refine e_iastN (pc := 41) dX5_keep_41 rfl (by omega) (by decide) ?_ | refine e_iast (pc := 41) dX5_keep_41 rfl (by assumption) ?_
      refine e_aload_n (pc := 42) dX5_keep_42 rfl ?_
      refine e_getA (pc := 43) dX5_keep_43 f_5_96 rfl rfl ?_
      refine e_iload_n (pc := 46) dX5_keep_46 rfl ?_
      refine e_aload_n (pc := 47) dX5_keep_47 rfl ?_
      refine e_getA (pc := 48) dX5_keep_48 f_5_35 rfl rfl ?_
      refine e_iload_n (pc := 51) dX5_keep_51 rfl ?_
      first | refine e_ialdN (pc := 52) dX5_keep_52 rfl (by omega) (by decide) ?_ | refine e_iald (pc := 52) dX5_keep_52 rfl (by assumption) ?_
      first | refine e_iastN (pc := 53) dX5_keep_53 rfl (by omega) (by decide) ?_ | refine e_iast (pc := 53) dX5_keep_53 rfl (by assumption) ?_
      refine e_aload_n (pc := 54) dX5_keep_54 rfl ?_
      refine e_getA (pc := 55) dX5_keep_55 f_5_99 rfl rfl ?_
      refine e_iload_n (pc := 58) dX5_keep_58 rfl ?_
      refine e_aload_n (pc := 59) dX5_keep_59 rfl ?_
      refine e_getA (pc := 60) dX5_keep_60 f_5_38 rfl rfl ?_
      refine e_iload_n (pc := 63) dX5_keep_63 rfl ?_
      first | refine e_ialdN (pc := 64) dX5_keep_64 rfl (by omega) (by decide) ?_ | refine e_iald (pc := 64) dX5_keep_64 rfl (by assumption) ?_
      first | refine e_iastN (pc := 65) dX5_keep_65 rfl (by omega) (by decide) ?_ | refine e_iast (pc := 65) dX5_keep_65 rfl (by assumption) ?_
      refine e_aload_n (pc := 66) dX5_keep_66 rfl ?_
      refine e_getA (pc := 67) dX5_keep_67 f_5_80 rfl rfl ?_
      refine e_iload_n (pc := 70) dX5_keep_70 rfl ?_
      refine e_aload_n (pc := 71) dX5_keep_71 rfl ?_
      refine e_getA (pc := 72) dX5_keep_72 f_5_77 rfl rfl ?_
      refine e_iload_n (pc := 75) dX5_keep_75 rfl ?_
      first | refine e_ialdN (pc := 76) dX5_keep_76 rfl (by omega) (by decide) ?_ | refine e_iald (pc := 76) dX5_keep_76 rfl (by assumption) ?_
      first | refine e_iastN (pc := 77) dX5_keep_77 rfl (by omega) (by decide) ?_ | refine e_iast (pc := 77) dX5_keep_77 rfl (by assumption) ?_
      refine e_aload_n (pc := 78) dX5_keep_78 rfl ?_
      refine e_getA (pc := 79) dX5_keep_79 f_5_87 rfl rfl ?_
      refine e_iload_n (pc := 82) dX5_keep_82 rfl ?_
      refine e_aload_n (pc := 83) dX5_keep_83 rfl ?_
      refine e_getA (pc := 84) dX5_keep_84 f_5_83 rfl rfl ?_
      refine e_iload_n (pc := 87) dX5_keep_87 rfl ?_
      first | refine e_zaldN (pc := 88) dX5_keep_88 rfl (by omega) (by decide) ?_ | refine e_zald (pc := 88) dX5_keep_88 rfl (by assumption) ?_
      first | refine e_zastN (pc := 89) dX5_keep_89 rfl (by omega) (by decide) ?_ | refine e_zast (pc := 89) dX5_keep_89 rfl (by assumption) ?_
      first | refine e_iinc1 (pc := 90) dX5_keep_90 rfl (by decide) ?_ | refine e_iincp (pc := 90) dX5_keep_90 rfl (by decide) ?_
      refine e_goto (pc := 93) (tgt := 10) dX5_keep_93 (by decide) ?_
      exact e_wk (ih (j + 1) _ (by omega) (by clear ih; have hv := vnar_z (hB j (by omega)); funext q i; simp only [cr_rd, n_k1] at *; simp at *; grind (splits := 30))) ⟨rfl, rfl, trivial⟩
set_option maxHeartbeats 1000000 in
theorem lp_X5_keep2 {hn cn : Nat} {N : cr_M} (hW : n_W hn cn N) : ∀ (n j : Nat) (Mc : cr_M), j + n = cn → (Mc = n_k2 j N) → cr_Ev Y_X5_keep 98 [(1, .inl (nI j)), (0, .inr (.inr 0))] [] Mc (none, n_k2 cn N) := by
  obtain ⟨h10, h200, hsz, hsz2, -⟩ := id hW
  intro n
  induction n with
  | zero =>
    intro j Mc hj hM
    subst hM
    refine e_iload_n (pc := 98) dX5_keep_98 rfl ?_
    refine e_aload_n (pc := 99) dX5_keep_99 rfl ?_
    refine e_getI (pc := 100) dX5_keep_100 f_5_142 rfl rfl ?_
    refine e_icmp_ge (pc := 103) (tgt := 184) dX5_keep_103 (by decide) (fun hc_103 => ?_) (fun hc_103 => ?_)
    · refine r_vret (pc := 184) dX5_keep_184 rfl ?_
      rw [show j = cn by omega]
    · exact absurd (show N 0 5 ≤ nI j by rw [hsz2]; exact nI_le (by omega) (by omega)) (by assumption)
  | succ n ih =>
    intro j Mc hj hM
    subst hM
    refine e_iload_n (pc := 98) dX5_keep_98 rfl ?_
    refine e_aload_n (pc := 99) dX5_keep_99 rfl ?_
    refine e_getI (pc := 100) dX5_keep_100 f_5_142 rfl rfl ?_
    refine e_icmp_ge (pc := 103) (tgt := 184) dX5_keep_103 (by decide) (fun hc_103 => ?_) (fun hc_103 => ?_)
    · exact absurd (show N 0 5 ≤ nI j by assumption) (by rw [hsz2]; exact nI_ge (by omega) (by omega))
    · refine e_aload_n (pc := 106) dX5_keep_106 rfl ?_
      refine e_getA (pc := 107) dX5_keep_107 f_5_102 rfl rfl ?_
      refine e_iload_n (pc := 110) dX5_keep_110 rfl ?_
      refine e_aload_n (pc := 111) dX5_keep_111 rfl ?_
      refine e_getA (pc := 112) dX5_keep_112 f_5_59 rfl rfl ?_
      refine e_iload_n (pc := 115) dX5_keep_115 rfl ?_
      first | refine e_ialdN (pc := 116) dX5_keep_116 rfl (by omega) (by decide) ?_ | refine e_iald (pc := 116) dX5_keep_116 rfl (by assumption) ?_
      first | refine e_iastN (pc := 117) dX5_keep_117 rfl (by omega) (by decide) ?_ | refine e_iast (pc := 117) dX5_keep_117 rfl (by assumption) ?_
      refine e_aload_n (pc := 118) dX5_keep_118 rfl ?_
      refine e_getA (pc := 119) dX5_keep_119 f_5_105 rfl rfl ?_
      refine e_iload_n (pc := 122) dX5_keep_122 rfl ?_
      refine e_aload_n (pc := 123) dX5_keep_123 rfl ?_
      refine e_getA (pc := 124) dX5_keep_124 f_5_62 rfl rfl ?_
      refine e_iload_n (pc := 127) dX5_keep_127 rfl ?_
      first | refine e_ialdN (pc := 128) dX5_keep_128 rfl (by omega) (by decide) ?_ | refine e_iald (pc := 128) dX5_keep_128 rfl (by assumption) ?_
      first | refine e_iastN (pc := 129) dX5_keep_129 rfl (by omega) (by decide) ?_ | refine e_iast (pc := 129) dX5_keep_129 rfl (by assumption) ?_
      refine e_aload_n (pc := 130) dX5_keep_130 rfl ?_
      refine e_getA (pc := 131) dX5_keep_131 f_5_108 rfl rfl ?_
      refine e_iload_n (pc := 134) dX5_keep_134 rfl ?_
      refine e_aload_n (pc := 135) dX5_keep_135 rfl ?_
      refine e_getA (pc := 136) dX5_keep_136 f_5_65 rfl rfl ?_
      refine e_iload_n (pc := 139) dX5_keep_139 rfl ?_
      first | refine e_ialdN (pc := 140) dX5_keep_140 rfl (by omega) (by decide) ?_ | refine e_iald (pc := 140) dX5_keep_140 rfl (by assumption) ?_
      first | refine e_iastN (pc := 141) dX5_keep_141 rfl (by omega) (by decide) ?_ | refine e_iast (pc := 141) dX5_keep_141 rfl (by assumption) ?_
      refine e_aload_n (pc := 142) dX5_keep_142 rfl ?_
      refine e_getA (pc := 143) dX5_keep_143 f_5_111 rfl rfl ?_
      refine e_iload_n (pc := 146) dX5_keep_146 rfl ?_
      refine e_aload_n (pc := 147) dX5_keep_147 rfl ?_
      refine e_getA (pc := 148) dX5_keep_148 f_5_68 rfl rfl ?_
      refine e_iload_n (pc := 151) dX5_keep_151 rfl ?_
      first | refine e_ialdN (pc := 152) dX5_keep_152 rfl (by omega) (by decide) ?_ | refine e_iald (pc := 152) dX5_keep_152 rfl (by assumption) ?_
      first | refine e_iastN (pc := 153) dX5_keep_153 rfl (by omega) (by decide) ?_ | refine e_iast (pc := 153) dX5_keep_153 rfl (by assumption) ?_
      refine e_aload_n (pc := 154) dX5_keep_154 rfl ?_
      refine e_getA (pc := 155) dX5_keep_155 f_5_114 rfl rfl ?_
      refine e_iload_n (pc := 158) dX5_keep_158 rfl ?_
      refine e_aload_n (pc := 159) dX5_keep_159 rfl ?_
      refine e_getA (pc := 160) dX5_keep_160 f_5_71 rfl rfl ?_
      refine e_iload_n (pc := 163) dX5_keep_163 rfl ?_
      first | refine e_ialdN (pc := 164) dX5_keep_164 rfl (by omega) (by decide) ?_ | refine e_iald (pc := 164) dX5_keep_164 rfl (by assumption) ?_
      first | refine e_iastN (pc := 165) dX5_keep_165 rfl (by omega) (by decide) ?_ | refine e_iast (pc := 165) dX5_keep_165 rfl (by assumption) ?_
      refine e_aload_n (pc := 166) dX5_keep_166 rfl ?_
      refine e_getA (pc := 167) dX5_keep_167 f_5_117 rfl rfl ?_
      refine e_iload_n (pc := 170) dX5_keep_170 rfl ?_
      refine e_aload_n (pc := 171) dX5_keep_171 rfl ?_
      refine e_getA (pc := 172) dX5_keep_172 f_5_74 rfl rfl ?_
      refine e_iload_n (pc := 175) dX5_keep_175 rfl ?_
      first | refine e_ialdN (pc := 176) dX5_keep_176 rfl (by omega) (by decide) ?_ | refine e_iald (pc := 176) dX5_keep_176 rfl (by assumption) ?_
      first | refine e_iastN (pc := 177) dX5_keep_177 rfl (by omega) (by decide) ?_ | refine e_iast (pc := 177) dX5_keep_177 rfl (by assumption) ?_
      first | refine e_iinc1 (pc := 178) dX5_keep_178 rfl (by decide) ?_ | refine e_iincp (pc := 178) dX5_keep_178 rfl (by decide) ?_
      refine e_goto (pc := 181) (tgt := 98) dX5_keep_181 (by decide) ?_
      exact e_wk (ih (j + 1) _ (by omega) (by clear ih; funext q i; simp only [cr_rd, n_k2] at *; simp at *; grind (splits := 30))) ⟨rfl, rfl, trivial⟩
set_option maxHeartbeats 1000000 in
theorem ev_X5_keep {hn cn : Nat} {N : cr_M} (hW : n_W hn cn N) (hB : ∀ i, i < hn → N 24 i = 0 ∨ N 24 i = 1) : cr_EvM Y_X5_keep [.inr (.inr 0)] N (none, n_keep hn cn N) := by
  refine e_aload_n (pc := 0) dX5_keep_0 rfl ?_
  refine e_aload_n (pc := 1) dX5_keep_1 rfl ?_
  refine e_getI (pc := 2) dX5_keep_2 f_5_127 rfl rfl ?_
  refine e_put (pc := 5) dX5_keep_5 f_5_191 p_5_30 rfl rfl ?_
  refine e_iconst (pc := 8) (v := 0) dX5_keep_8 (by decide) ?_
  refine e_istore_n (pc := 9) dX5_keep_9 (by decide) ?_
  refine e_wk (lp_X5_keep1 (n_W_up (i := 30) (x := N 0 3) hW (Or.inr rfl)) hB ?_ hn 0 _ (by omega) (by funext q i; simp [n_k1])) ⟨rfl, rfl, trivial⟩
  refine e_iconst (pc := 96) (v := 0) dX5_keep_96 (by decide) ?_
  refine e_istore_n (pc := 97) dX5_keep_97 (by decide) ?_
  exact e_wk (lp_X5_keep2 (n_W_k1 (m := hn) (n_W_up (i := 30) (x := N 0 3) hW (Or.inr rfl))) cn 0 _ (by omega) (by funext q i; simp [n_k2])) ⟨rfl, rfl, trivial⟩
set_option maxHeartbeats 1000000 in
theorem lp_X5_putb1 {hn cn : Nat} {N : cr_M} (hW : n_W hn cn N) (hB : ∀ i, i < hn → N 25 i = 0 ∨ N 25 i = 1) {r : Option cr_AV × cr_M} (kc : cr_Ev Y_X5_putBack 96 [(0, .inr (.inr 0))] [] (n_b1 hn N) r) : ∀ (n j : Nat) (Mc : cr_M), j + n = hn → (Mc = n_b1 j N) → cr_Ev Y_X5_putBack 10 [(1, .inl (nI j)), (0, .inr (.inr 0))] [] Mc r := by
  obtain ⟨h10, h200, hsz, hsz2, -⟩ := id hW
  intro n
  induction n with
  | zero =>
    intro j Mc hj hM
    subst hM
    refine e_iload_n (pc := 10) dX5_putBack_10 rfl ?_
    refine e_aload_n (pc := 11) dX5_putBack_11 rfl ?_
    refine e_getI (pc := 12) dX5_putBack_12 f_5_124 rfl rfl ?_
    refine e_icmp_ge (pc := 15) (tgt := 96) dX5_putBack_15 (by decide) (fun hc_15 => ?_) (fun hc_15 => ?_)
    · have hj2 : j = hn := by omega
      rw [hj2]
      exact e_wk kc ⟨rfl, trivial⟩
    · exact absurd (show N 0 4 ≤ nI j by rw [hsz]; exact nI_le (by omega) (by omega)) (by assumption)
  | succ n ih =>
    intro j Mc hj hM
    subst hM
    refine e_iload_n (pc := 10) dX5_putBack_10 rfl ?_
    refine e_aload_n (pc := 11) dX5_putBack_11 rfl ?_
    refine e_getI (pc := 12) dX5_putBack_12 f_5_124 rfl rfl ?_
    refine e_icmp_ge (pc := 15) (tgt := 96) dX5_putBack_15 (by decide) (fun hc_15 => ?_) (fun hc_15 => ?_)
    · exact absurd (show N 0 4 ≤ nI j by assumption) (by rw [hsz]; exact nI_ge (by omega) (by omega))
    · refine e_aload_n (pc := 18) dX5_putBack_18 rfl ?_
      refine e_getA (pc := 19) dX5_putBack_19 f_5_26 rfl rfl ?_
      refine e_iload_n (pc := 22) dX5_putBack_22 rfl ?_
      refine e_aload_n (pc := 23) dX5_putBack_23 rfl ?_
      refine e_getA (pc := 24) dX5_putBack_24 f_5_90 rfl rfl ?_
      refine e_iload_n (pc := 27) dX5_putBack_27 rfl ?_
      first | refine e_ialdN (pc := 28) dX5_putBack_28 rfl (by omega) (by decide) ?_ | refine e_iald (pc := 28) dX5_putBack_28 rfl (by assumption) ?_
      first | refine e_iastN (pc := 29) dX5_putBack_29 rfl (by omega) (by decide) ?_ | refine e_iast (pc := 29) dX5_putBack_29 rfl (by assumption) ?_
      refine e_aload_n (pc := 30) dX5_putBack_30 rfl ?_
      refine e_getA (pc := 31) dX5_putBack_31 f_5_29 rfl rfl ?_
      refine e_iload_n (pc := 34) dX5_putBack_34 rfl ?_
      refine e_aload_n (pc := 35) dX5_putBack_35 rfl ?_
      refine e_getA (pc := 36) dX5_putBack_36 f_5_93 rfl rfl ?_
      refine e_iload_n (pc := 39) dX5_putBack_39 rfl ?_
      first | refine e_ialdN (pc := 40) dX5_putBack_40 rfl (by omega) (by decide) ?_ | refine e_iald (pc := 40) dX5_putBack_40 rfl (by assumption) ?_
      first | refine e_iastN (pc := 41) dX5_putBack_41 rfl (by omega) (by decide) ?_ | refine e_iast (pc := 41) dX5_putBack_41 rfl (by assumption) ?_
      refine e_aload_n (pc := 42) dX5_putBack_42 rfl ?_
      refine e_getA (pc := 43) dX5_putBack_43 f_5_35 rfl rfl ?_
      refine e_iload_n (pc := 46) dX5_putBack_46 rfl ?_
      refine e_aload_n (pc := 47) dX5_putBack_47 rfl ?_
      refine e_getA (pc := 48) dX5_putBack_48 f_5_96 rfl rfl ?_
      refine e_iload_n (pc := 51) dX5_putBack_51 rfl ?_
      first | refine e_ialdN (pc := 52) dX5_putBack_52 rfl (by omega) (by decide) ?_ | refine e_iald (pc := 52) dX5_putBack_52 rfl (by assumption) ?_
      first | refine e_iastN (pc := 53) dX5_putBack_53 rfl (by omega) (by decide) ?_ | refine e_iast (pc := 53) dX5_putBack_53 rfl (by assumption) ?_
      refine e_aload_n (pc := 54) dX5_putBack_54 rfl ?_
      refine e_getA (pc := 55) dX5_putBack_55 f_5_38 rfl rfl ?_
      refine e_iload_n (pc := 58) dX5_putBack_58 rfl ?_
      refine e_aload_n (pc := 59) dX5_putBack_59 rfl ?_
      refine e_getA (pc := 60) dX5_putBack_60 f_5_99 rfl rfl ?_
      refine e_iload_n (pc := 63) dX5_putBack_63 rfl ?_
      first | refine e_ialdN (pc := 64) dX5_putBack_64 rfl (by omega) (by decide) ?_ | refine e_iald (pc := 64) dX5_putBack_64 rfl (by assumption) ?_
      first | refine e_iastN (pc := 65) dX5_putBack_65 rfl (by omega) (by decide) ?_ | refine e_iast (pc := 65) dX5_putBack_65 rfl (by assumption) ?_
      refine e_aload_n (pc := 66) dX5_putBack_66 rfl ?_
      refine e_getA (pc := 67) dX5_putBack_67 f_5_77 rfl rfl ?_
      refine e_iload_n (pc := 70) dX5_putBack_70 rfl ?_
      refine e_aload_n (pc := 71) dX5_putBack_71 rfl ?_
      refine e_getA (pc := 72) dX5_putBack_72 f_5_80 rfl rfl ?_
      refine e_iload_n (pc := 75) dX5_putBack_75 rfl ?_
      first | refine e_ialdN (pc := 76) dX5_putBack_76 rfl (by omega) (by decide) ?_ | refine e_iald (pc := 76) dX5_putBack_76 rfl (by assumption) ?_
      first | refine e_iastN (pc := 77) dX5_putBack_77 rfl (by omega) (by decide) ?_ | refine e_iast (pc := 77) dX5_putBack_77 rfl (by assumption) ?_
      refine e_aload_n (pc := 78) dX5_putBack_78 rfl ?_
      refine e_getA (pc := 79) dX5_putBack_79 f_5_83 rfl rfl ?_
      refine e_iload_n (pc := 82) dX5_putBack_82 rfl ?_
      refine e_aload_n (pc := 83) dX5_putBack_83 rfl ?_
      refine e_getA (pc := 84) dX5_putBack_84 f_5_87 rfl rfl ?_
      refine e_iload_n (pc := 87) dX5_putBack_87 rfl ?_
      first | refine e_zaldN (pc := 88) dX5_putBack_88 rfl (by omega) (by decide) ?_ | refine e_zald (pc := 88) dX5_putBack_88 rfl (by assumption) ?_
      first | refine e_zastN (pc := 89) dX5_putBack_89 rfl (by omega) (by decide) ?_ | refine e_zast (pc := 89) dX5_putBack_89 rfl (by assumption) ?_
      first | refine e_iinc1 (pc := 90) dX5_putBack_90 rfl (by decide) ?_ | refine e_iincp (pc := 90) dX5_putBack_90 rfl (by decide) ?_
      refine e_goto (pc := 93) (tgt := 10) dX5_putBack_93 (by decide) ?_
      exact e_wk (ih (j + 1) _ (by omega) (by clear ih; have hv := vnar_z (hB j (by omega)); funext q i; simp only [cr_rd, n_b1] at *; simp at *; grind (splits := 30))) ⟨rfl, rfl, trivial⟩
set_option maxHeartbeats 1000000 in
theorem lp_X5_putb2 {hn cn : Nat} {N : cr_M} (hW : n_W hn cn N) : ∀ (n j : Nat) (Mc : cr_M), j + n = cn → (Mc = n_b2 j N) → cr_Ev Y_X5_putBack 98 [(1, .inl (nI j)), (0, .inr (.inr 0))] [] Mc (none, n_b2 cn N) := by
  obtain ⟨h10, h200, hsz, hsz2, -⟩ := id hW
  intro n
  induction n with
  | zero =>
    intro j Mc hj hM
    subst hM
    refine e_iload_n (pc := 98) dX5_putBack_98 rfl ?_
    refine e_aload_n (pc := 99) dX5_putBack_99 rfl ?_
    refine e_getI (pc := 100) dX5_putBack_100 f_5_142 rfl rfl ?_
    refine e_icmp_ge (pc := 103) (tgt := 184) dX5_putBack_103 (by decide) (fun hc_103 => ?_) (fun hc_103 => ?_)
    · refine r_vret (pc := 184) dX5_putBack_184 rfl ?_
      rw [show j = cn by omega]
    · exact absurd (show N 0 5 ≤ nI j by rw [hsz2]; exact nI_le (by omega) (by omega)) (by assumption)
  | succ n ih =>
    intro j Mc hj hM
    subst hM
    refine e_iload_n (pc := 98) dX5_putBack_98 rfl ?_
    refine e_aload_n (pc := 99) dX5_putBack_99 rfl ?_
    refine e_getI (pc := 100) dX5_putBack_100 f_5_142 rfl rfl ?_
    refine e_icmp_ge (pc := 103) (tgt := 184) dX5_putBack_103 (by decide) (fun hc_103 => ?_) (fun hc_103 => ?_)
    · exact absurd (show N 0 5 ≤ nI j by assumption) (by rw [hsz2]; exact nI_ge (by omega) (by omega))
    · refine e_aload_n (pc := 106) dX5_putBack_106 rfl ?_
      refine e_getA (pc := 107) dX5_putBack_107 f_5_59 rfl rfl ?_
      refine e_iload_n (pc := 110) dX5_putBack_110 rfl ?_
      refine e_aload_n (pc := 111) dX5_putBack_111 rfl ?_
      refine e_getA (pc := 112) dX5_putBack_112 f_5_102 rfl rfl ?_
      refine e_iload_n (pc := 115) dX5_putBack_115 rfl ?_
      first | refine e_ialdN (pc := 116) dX5_putBack_116 rfl (by omega) (by decide) ?_ | refine e_iald (pc := 116) dX5_putBack_116 rfl (by assumption) ?_
      first | refine e_iastN (pc := 117) dX5_putBack_117 rfl (by omega) (by decide) ?_ | refine e_iast (pc := 117) dX5_putBack_117 rfl (by assumption) ?_
      refine e_aload_n (pc := 118) dX5_putBack_118 rfl ?_
      refine e_getA (pc := 119) dX5_putBack_119 f_5_62 rfl rfl ?_
      refine e_iload_n (pc := 122) dX5_putBack_122 rfl ?_
      refine e_aload_n (pc := 123) dX5_putBack_123 rfl ?_
      refine e_getA (pc := 124) dX5_putBack_124 f_5_105 rfl rfl ?_
      refine e_iload_n (pc := 127) dX5_putBack_127 rfl ?_
      first | refine e_ialdN (pc := 128) dX5_putBack_128 rfl (by omega) (by decide) ?_ | refine e_iald (pc := 128) dX5_putBack_128 rfl (by assumption) ?_
      first | refine e_iastN (pc := 129) dX5_putBack_129 rfl (by omega) (by decide) ?_ | refine e_iast (pc := 129) dX5_putBack_129 rfl (by assumption) ?_
      refine e_aload_n (pc := 130) dX5_putBack_130 rfl ?_
      refine e_getA (pc := 131) dX5_putBack_131 f_5_65 rfl rfl ?_
      refine e_iload_n (pc := 134) dX5_putBack_134 rfl ?_
      refine e_aload_n (pc := 135) dX5_putBack_135 rfl ?_
      refine e_getA (pc := 136) dX5_putBack_136 f_5_108 rfl rfl ?_
      refine e_iload_n (pc := 139) dX5_putBack_139 rfl ?_
      first | refine e_ialdN (pc := 140) dX5_putBack_140 rfl (by omega) (by decide) ?_ | refine e_iald (pc := 140) dX5_putBack_140 rfl (by assumption) ?_
      first | refine e_iastN (pc := 141) dX5_putBack_141 rfl (by omega) (by decide) ?_ | refine e_iast (pc := 141) dX5_putBack_141 rfl (by assumption) ?_
      refine e_aload_n (pc := 142) dX5_putBack_142 rfl ?_
      refine e_getA (pc := 143) dX5_putBack_143 f_5_68 rfl rfl ?_
      refine e_iload_n (pc := 146) dX5_putBack_146 rfl ?_
      refine e_aload_n (pc := 147) dX5_putBack_147 rfl ?_
      refine e_getA (pc := 148) dX5_putBack_148 f_5_111 rfl rfl ?_
      refine e_iload_n (pc := 151) dX5_putBack_151 rfl ?_
      first | refine e_ialdN (pc := 152) dX5_putBack_152 rfl (by omega) (by decide) ?_ | refine e_iald (pc := 152) dX5_putBack_152 rfl (by assumption) ?_
      first | refine e_iastN (pc := 153) dX5_putBack_153 rfl (by omega) (by decide) ?_ | refine e_iast (pc := 153) dX5_putBack_153 rfl (by assumption) ?_
      refine e_aload_n (pc := 154) dX5_putBack_154 rfl ?_
      refine e_getA (pc := 155) dX5_putBack_155 f_5_71 rfl rfl ?_
      refine e_iload_n (pc := 158) dX5_putBack_158 rfl ?_
      refine e_aload_n (pc := 159) dX5_putBack_159 rfl ?_
      refine e_getA (pc := 160) dX5_putBack_160 f_5_114 rfl rfl ?_
      refine e_iload_n (pc := 163) dX5_putBack_163 rfl ?_
      first | refine e_ialdN (pc := 164) dX5_putBack_164 rfl (by omega) (by decide) ?_ | refine e_iald (pc := 164) dX5_putBack_164 rfl (by assumption) ?_
      first | refine e_iastN (pc := 165) dX5_putBack_165 rfl (by omega) (by decide) ?_ | refine e_iast (pc := 165) dX5_putBack_165 rfl (by assumption) ?_
      refine e_aload_n (pc := 166) dX5_putBack_166 rfl ?_
      refine e_getA (pc := 167) dX5_putBack_167 f_5_74 rfl rfl ?_
      refine e_iload_n (pc := 170) dX5_putBack_170 rfl ?_
      refine e_aload_n (pc := 171) dX5_putBack_171 rfl ?_
      refine e_getA (pc := 172) dX5_putBack_172 f_5_117 rfl rfl ?_
      refine e_iload_n (pc := 175) dX5_putBack_175 rfl ?_
      first | refine e_ialdN (pc := 176) dX5_putBack_176 rfl (by omega) (by decide) ?_ | refine e_iald (pc := 176) dX5_putBack_176 rfl (by assumption) ?_
      first | refine e_iastN (pc := 177) dX5_putBack_177 rfl (by omega) (by decide) ?_ | refine e_iast (pc := 177) dX5_putBack_177 rfl (by assumption) ?_
      first | refine e_iinc1 (pc := 178) dX5_putBack_178 rfl (by decide) ?_ | refine e_iincp (pc := 178) dX5_putBack_178 rfl (by decide) ?_
      refine e_goto (pc := 181) (tgt := 98) dX5_putBack_181 (by decide) ?_
      exact e_wk (ih (j + 1) _ (by omega) (by clear ih; funext q i; simp only [cr_rd, n_b2] at *; simp at *; grind (splits := 30))) ⟨rfl, rfl, trivial⟩
set_option maxHeartbeats 1000000 in
theorem ev_X5_putBack {hn cn : Nat} {N : cr_M} (hW : n_W hn cn N) (hB : ∀ i, i < hn → N 25 i = 0 ∨ N 25 i = 1) : cr_EvM Y_X5_putBack [.inr (.inr 0)] N (none, n_putb hn cn N) := by
  refine e_aload_n (pc := 0) dX5_putBack_0 rfl ?_
  refine e_aload_n (pc := 1) dX5_putBack_1 rfl ?_
  refine e_getI (pc := 2) dX5_putBack_2 f_5_191 rfl rfl ?_
  refine e_put (pc := 5) dX5_putBack_5 f_5_127 p_5_3 rfl rfl ?_
  refine e_iconst (pc := 8) (v := 0) dX5_putBack_8 (by decide) ?_
  refine e_istore_n (pc := 9) dX5_putBack_9 (by decide) ?_
  refine e_wk (lp_X5_putb1 (n_W_up (i := 3) (x := N 0 30) hW (Or.inl rfl)) hB ?_ hn 0 _ (by omega) (by funext q i; simp [n_b1])) ⟨rfl, rfl, trivial⟩
  refine e_iconst (pc := 96) (v := 0) dX5_putBack_96 (by decide) ?_
  refine e_istore_n (pc := 97) dX5_putBack_97 (by decide) ?_
  exact e_wk (lp_X5_putb2 (n_W_b1 (m := hn) (n_W_up (i := 3) (x := N 0 30) hW (Or.inl rfl))) cn 0 _ (by omega) (by funext q i; simp [n_b2])) ⟨rfl, rfl, trivial⟩
