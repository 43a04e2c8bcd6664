set_option maxHeartbeats 4000000 in
theorem lp_X5_why {hn cn : Nat} {N : cr_M} {c : Nat} (hW : n_W hn cn N) (hc : c < cn) (hown : N 10 c = 1 → ∃ k, k < hn ∧ N 15 c = nI k) : ∀ (n j : Nat) (z1 z2 : Int32), j + n = hn → z1 = bI (∃ k, k < j ∧ n_can N c k) → z2 = bI (∃ k, k < j ∧ n_fre N c k) → cr_Ev Y_X5_why 50 [(4, .inl (nI j)), (0, .inr (.inr 0)), (1, .inl (nI c)), (2, .inl z1), (3, .inl z2)] [] N (some (.inl (n_why hn N c)), N) := by
  obtain ⟨h10, h200, hsz, -, hall⟩ := id hW
  obtain ⟨⟨s, hs, hsc⟩, -⟩ := hall c hc
  have hsn : n_s N c = s := by show (N 11 c).toNatClampNeg = s; rw [hsc]; exact nI_clamp (by omega)
  have hcan : ∀ k, n_can N c k ↔ (¬ N 5 k = 0 ∧ ¬ N 4 (4 * k + s) = 0) := fun k => by unfold n_can; rw [hsn]
  have hfre : ∀ k, n_fre N c k ↔ ((¬ N 5 k = 0 ∧ ¬ N 4 (4 * k + s) = 0) ∧ (N 5 k = 1 ∨ (N 5 k = 2 ∧ N 10 c = 3 ∧ ¬ N 24 k = 0 ∧ N 22 k < 3))) := fun k => by unfold n_fre; rw [hcan]
  intro n
  induction n with
  | zero =>
    intro j z1 z2 hj hz1 hz2
    have hj2 : j = hn := by omega
    refine e_iload (pc := 50) dX5_why_50 rfl ?_
    refine e_aload_n (pc := 52) dX5_why_52 rfl ?_
    refine e_getI (pc := 53) dX5_why_53 f_5_124 rfl rfl ?_
    refine e_icmp_ge (pc := 56) (tgt := 146) dX5_why_56 (by decide) (fun hc_56 => ?_) (fun hc_56 => ?_)
    · refine e_iload_n (pc := 146) dX5_why_146 rfl ?_
      refine e_if_ne (pc := 147) (tgt := 152) dX5_why_147 (by decide) (fun hc_147 => ?_) (fun hc_147 => ?_)
      · have hA : ∃ k, k < hn ∧ n_can N c k := by rw [hz1, hj2] at hc_147; exact Classical.not_not.mp (fun q => hc_147 (bI_f q))
        refine e_iload_n (pc := 152) dX5_why_152 rfl ?_
        refine e_if_ne (pc := 153) (tgt := 158) dX5_why_153 (by decide) (fun hc_153 => ?_) (fun hc_153 => ?_)
        · have hB : ∃ k, k < hn ∧ n_fre N c k := by rw [hz2, hj2] at hc_153; exact Classical.not_not.mp (fun q => hc_153 (bI_f q))
          refine e_aload_n (pc := 158) dX5_why_158 rfl ?_
          refine e_getA (pc := 159) dX5_why_159 f_5_41 rfl rfl ?_
          refine e_iload_n (pc := 162) dX5_why_162 rfl ?_
          first | refine e_ialdN (pc := 163) dX5_why_163 rfl (by omega) (by decide) ?_ | refine e_iald (pc := 163) dX5_why_163 rfl (by assumption) ?_
          refine e_iconst (pc := 164) (v := 1) dX5_why_164 (by decide) ?_
          refine e_icmp_ne (pc := 165) (tgt := 198) dX5_why_165 (by decide) (fun hc_165 => ?_) (fun hc_165 => ?_)
          · refine e_iconst (pc := 198) (v := 4) dX5_why_198 (by decide) ?_
            refine r_iret (pc := 199) dX5_why_199 rfl ?_
            first
              | exact rt_i (by unfold n_why; rw [if_pos hA, if_pos hB, if_neg (by grind [bI_eq0])])
              | exact rt_i (by unfold n_why; rw [hko, nI_clamp (by omega), if_pos hA, if_pos hB, if_pos (by grind [bI_eq0])])
              | exact rt_i (by unfold n_why; rw [hko, nI_clamp (by omega), if_pos hA, if_pos hB, if_neg (by grind [bI_eq0])])
          · refine e_aload_n (pc := 168) dX5_why_168 rfl ?_
            refine e_iload_n (pc := 169) dX5_why_169 rfl ?_
            refine e_self1i (pc := 170) dX5_why_170 cs_X5_why_156 cv_X5_waitedOf rc_X5_waitedOf rfl (by decide) (Nat.le_of_ble_eq_true rfl) (ev_X5_waitedOf _ (by omega)) ?_
            refine e_aload_n (pc := 173) dX5_why_173 rfl ?_
            refine e_getI (pc := 174) dX5_why_174 f_5_19 rfl rfl ?_
            refine e_icmp_ge (pc := 177) (tgt := 198) dX5_why_177 (by decide) (fun hc_177 => ?_) (fun hc_177 => ?_)
            · refine e_iconst (pc := 198) (v := 4) dX5_why_198 (by decide) ?_
              refine r_iret (pc := 199) dX5_why_199 rfl ?_
              first
                | exact rt_i (by unfold n_why; rw [if_pos hA, if_pos hB, if_neg (by grind [bI_eq0])])
                | exact rt_i (by unfold n_why; rw [hko, nI_clamp (by omega), if_pos hA, if_pos hB, if_pos (by grind [bI_eq0])])
                | exact rt_i (by unfold n_why; rw [hko, nI_clamp (by omega), if_pos hA, if_pos hB, if_neg (by grind [bI_eq0])])
            · obtain ⟨ko, hkl, hko⟩ := hown (by assumption)
              refine e_aload_n (pc := 180) dX5_why_180 rfl ?_
              refine e_aload_n (pc := 181) dX5_why_181 rfl ?_
              refine e_getA (pc := 182) dX5_why_182 f_5_56 rfl rfl ?_
              refine e_iload_n (pc := 185) dX5_why_185 rfl ?_
              refine e_ialdV (pc := 186) (nI ko) dX5_why_186 rfl (by omega) (by decide) hko ?_
              refine e_iload_n (pc := 187) dX5_why_187 rfl ?_
              refine e_self2i (pc := 188) dX5_why_188 cs_X5_why_159 cv_X5_may rc_X5_may rfl (by decide) (Nat.le_of_ble_eq_true rfl) (ev_X5_may _ (by omega) (by omega) hs hsc) ?_
              refine e_if_ne (pc := 191) (tgt := 198) dX5_why_191 (by decide) (fun hc_191 => ?_) (fun hc_191 => ?_)
              · refine e_iconst (pc := 198) (v := 4) dX5_why_198 (by decide) ?_
                refine r_iret (pc := 199) dX5_why_199 rfl ?_
                first
                  | exact rt_i (by unfold n_why; rw [if_pos hA, if_pos hB, if_neg (by grind [bI_eq0])])
                  | exact rt_i (by unfold n_why; rw [hko, nI_clamp (by omega), if_pos hA, if_pos hB, if_pos (by grind [bI_eq0])])
                  | exact rt_i (by unfold n_why; rw [hko, nI_clamp (by omega), if_pos hA, if_pos hB, if_neg (by grind [bI_eq0])])
              · refine e_iconst (pc := 194) (v := 3) dX5_why_194 (by decide) ?_
                refine e_goto (pc := 195) (tgt := 199) dX5_why_195 (by decide) ?_
                refine r_iret (pc := 199) dX5_why_199 rfl ?_
                first
                  | exact rt_i (by unfold n_why; rw [if_pos hA, if_pos hB, if_neg (by grind [bI_eq0])])
                  | exact rt_i (by unfold n_why; rw [hko, nI_clamp (by omega), if_pos hA, if_pos hB, if_pos (by grind [bI_eq0])])
                  | exact rt_i (by unfold n_why; rw [hko, nI_clamp (by omega), if_pos hA, if_pos hB, if_neg (by grind [bI_eq0])])
        · refine e_iconst (pc := 156) (v := 2) dX5_why_156 (by decide) ?_
          refine r_iret (pc := 157) dX5_why_157 rfl ?_
          exact rt_i (by unfold n_why; rw [if_pos hA, if_neg (by rw [hz2, hj2] at hc_153; exact bI_eq0.mp hc_153)])
      · refine e_iconst (pc := 150) (v := 1) dX5_why_150 (by decide) ?_
        refine r_iret (pc := 151) dX5_why_151 rfl ?_
        exact rt_i (by unfold n_why; rw [if_neg (by rw [hz1, hj2] at hc_147; exact bI_eq0.mp hc_147)])
    · exact absurd (show N 0 4 ≤ nI j by rw [hsz]; exact nI_le (by omega) (by omega)) (by assumption)
  | succ n ih =>
    intro j z1 z2 hj hz1 hz2
    have hz01 := bI_01 (∃ k, k < j ∧ n_fre N c k)
    rw [← hz2] at hz01
    refine e_iload (pc := 50) dX5_why_50 rfl ?_
    refine e_aload_n (pc := 52) dX5_why_52 rfl ?_
    refine e_getI (pc := 53) dX5_why_53 f_5_124 rfl rfl ?_
    refine e_icmp_ge (pc := 56) (tgt := 146) dX5_why_56 (by decide) (fun hc_56 => ?_) (fun hc_56 => ?_)
    · exact absurd (show N 0 4 ≤ nI j by assumption) (by rw [hsz]; exact nI_ge (by omega) (by omega))
    · refine e_aload_n (pc := 59) dX5_why_59 rfl ?_
      refine e_getA (pc := 60) dX5_why_60 f_5_26 rfl rfl ?_
      refine e_iload (pc := 63) dX5_why_63 rfl ?_
      first | refine e_ialdN (pc := 65) dX5_why_65 rfl (by omega) (by decide) ?_ | refine e_iald (pc := 65) dX5_why_65 rfl (by assumption) ?_
      refine e_if_eq (pc := 66) (tgt := 140) dX5_why_66 (by decide) (fun hc_66 => ?_) (fun hc_66 => ?_)
      · first | refine e_iinc1 (pc := 140) dX5_why_140 rfl (by decide) ?_ | refine e_iincp (pc := 140) dX5_why_140 rfl (by decide) ?_
        refine e_goto (pc := 143) (tgt := 50) dX5_why_143 (by decide) ?_
        exact e_wk (ih (j + 1) _ _ (by omega) (by first | (rw [hz1]; exact bI_congr (by grind)) | exact (bI_t (by grind)).symm) (by first | (rw [hz2]; exact bI_congr (by grind [bI_eq0])) | exact (bI_t (by grind [bI_eq0])).symm | exact (bI_f (by grind [bI_eq0])).symm)) ⟨rfl, rfl, rfl, rfl, rfl, trivial⟩
      · refine e_aload_n (pc := 69) dX5_why_69 rfl ?_
        refine e_iload (pc := 70) dX5_why_70 rfl ?_
        refine e_aload_n (pc := 72) dX5_why_72 rfl ?_
        refine e_getA (pc := 73) dX5_why_73 f_5_44 rfl rfl ?_
        refine e_iload_n (pc := 76) dX5_why_76 rfl ?_
        refine e_ialdV (pc := 77) (nI s) dX5_why_77 rfl (by omega) (by decide) hsc ?_
        refine e_self2i (pc := 78) dX5_why_78 cs_X5_why_134 cv_X5_gradeOf rc_X5_gradeOf rfl (by decide) (Nat.le_of_ble_eq_true rfl) (ev_X5_gradeOf _ (by omega) hs) ?_
        refine e_if_ne (pc := 81) (tgt := 87) dX5_why_81 (by decide) (fun hc_81 => ?_) (fun hc_81 => ?_)
        · refine e_iconst (pc := 87) (v := 1) dX5_why_87 (by decide) ?_
          refine e_istore_n (pc := 88) dX5_why_88 (by decide) ?_
          refine e_iload_n (pc := 89) dX5_why_89 rfl ?_
          refine e_if_ne (pc := 90) (tgt := 134) dX5_why_90 (by decide) (fun hc_90 => ?_) (fun hc_90 => ?_)
          · refine e_iconst (pc := 134) (v := 1) dX5_why_134 (by decide) ?_
            refine e_goto (pc := 135) (tgt := 139) dX5_why_135 (by decide) ?_
            refine e_istore_n (pc := 139) dX5_why_139 (by decide) ?_
            first | refine e_iinc1 (pc := 140) dX5_why_140 rfl (by decide) ?_ | refine e_iincp (pc := 140) dX5_why_140 rfl (by decide) ?_
            refine e_goto (pc := 143) (tgt := 50) dX5_why_143 (by decide) ?_
            exact e_wk (ih (j + 1) _ _ (by omega) (by first | (rw [hz1]; exact bI_congr (by grind)) | exact (bI_t (by grind)).symm) (by first | (rw [hz2]; exact bI_congr (by grind [bI_eq0])) | exact (bI_t (by grind [bI_eq0])).symm | exact (bI_f (by grind [bI_eq0])).symm)) ⟨rfl, rfl, rfl, rfl, rfl, trivial⟩
          · refine e_aload_n (pc := 93) dX5_why_93 rfl ?_
            refine e_getA (pc := 94) dX5_why_94 f_5_26 rfl rfl ?_
            refine e_iload (pc := 97) dX5_why_97 rfl ?_
            first | refine e_ialdN (pc := 99) dX5_why_99 rfl (by omega) (by decide) ?_ | refine e_iald (pc := 99) dX5_why_99 rfl (by assumption) ?_
            refine e_iconst (pc := 100) (v := 1) dX5_why_100 (by decide) ?_
            refine e_icmp_eq (pc := 101) (tgt := 134) dX5_why_101 (by decide) (fun hc_101 => ?_) (fun hc_101 => ?_)
            · refine e_iconst (pc := 134) (v := 1) dX5_why_134 (by decide) ?_
              refine e_goto (pc := 135) (tgt := 139) dX5_why_135 (by decide) ?_
              refine e_istore_n (pc := 139) dX5_why_139 (by decide) ?_
              first | refine e_iinc1 (pc := 140) dX5_why_140 rfl (by decide) ?_ | refine e_iincp (pc := 140) dX5_why_140 rfl (by decide) ?_
              refine e_goto (pc := 143) (tgt := 50) dX5_why_143 (by decide) ?_
              exact e_wk (ih (j + 1) _ _ (by omega) (by first | (rw [hz1]; exact bI_congr (by grind)) | exact (bI_t (by grind)).symm) (by first | (rw [hz2]; exact bI_congr (by grind [bI_eq0])) | exact (bI_t (by grind [bI_eq0])).symm | exact (bI_f (by grind [bI_eq0])).symm)) ⟨rfl, rfl, rfl, rfl, rfl, trivial⟩
            · refine e_aload_n (pc := 104) dX5_why_104 rfl ?_
              refine e_getA (pc := 105) dX5_why_105 f_5_26 rfl rfl ?_
              refine e_iload (pc := 108) dX5_why_108 rfl ?_
              first | refine e_ialdN (pc := 110) dX5_why_110 rfl (by omega) (by decide) ?_ | refine e_iald (pc := 110) dX5_why_110 rfl (by assumption) ?_
              refine e_iconst (pc := 111) (v := 2) dX5_why_111 (by decide) ?_
              refine e_icmp_ne (pc := 112) (tgt := 138) dX5_why_112 (by decide) (fun hc_112 => ?_) (fun hc_112 => ?_)
              · refine e_iconst (pc := 138) (v := 0) dX5_why_138 (by decide) ?_
                refine e_istore_n (pc := 139) dX5_why_139 (by decide) ?_
                first | refine e_iinc1 (pc := 140) dX5_why_140 rfl (by decide) ?_ | refine e_iincp (pc := 140) dX5_why_140 rfl (by decide) ?_
                refine e_goto (pc := 143) (tgt := 50) dX5_why_143 (by decide) ?_
                exact e_wk (ih (j + 1) _ _ (by omega) (by first | (rw [hz1]; exact bI_congr (by grind)) | exact (bI_t (by grind)).symm) (by first | (rw [hz2]; exact bI_congr (by grind [bI_eq0])) | exact (bI_t (by grind [bI_eq0])).symm | exact (bI_f (by grind [bI_eq0])).symm)) ⟨rfl, rfl, rfl, rfl, rfl, trivial⟩
              · refine e_aload_n (pc := 115) dX5_why_115 rfl ?_
                refine e_getA (pc := 116) dX5_why_116 f_5_41 rfl rfl ?_
                refine e_iload_n (pc := 119) dX5_why_119 rfl ?_
                first | refine e_ialdN (pc := 120) dX5_why_120 rfl (by omega) (by decide) ?_ | refine e_iald (pc := 120) dX5_why_120 rfl (by assumption) ?_
                refine e_iconst (pc := 121) (v := 3) dX5_why_121 (by decide) ?_
                refine e_icmp_ne (pc := 122) (tgt := 138) dX5_why_122 (by decide) (fun hc_122 => ?_) (fun hc_122 => ?_)
                · refine e_iconst (pc := 138) (v := 0) dX5_why_138 (by decide) ?_
                  refine e_istore_n (pc := 139) dX5_why_139 (by decide) ?_
                  first | refine e_iinc1 (pc := 140) dX5_why_140 rfl (by decide) ?_ | refine e_iincp (pc := 140) dX5_why_140 rfl (by decide) ?_
                  refine e_goto (pc := 143) (tgt := 50) dX5_why_143 (by decide) ?_
                  exact e_wk (ih (j + 1) _ _ (by omega) (by first | (rw [hz1]; exact bI_congr (by grind)) | exact (bI_t (by grind)).symm) (by first | (rw [hz2]; exact bI_congr (by grind [bI_eq0])) | exact (bI_t (by grind [bI_eq0])).symm | exact (bI_f (by grind [bI_eq0])).symm)) ⟨rfl, rfl, rfl, rfl, rfl, trivial⟩
                · refine e_aload_n (pc := 125) dX5_why_125 rfl ?_
                  refine e_iload (pc := 126) dX5_why_126 rfl ?_
                  refine e_self1i (pc := 128) dX5_why_128 cs_X5_why_152 cv_X5_hasRoom rc_X5_hasRoom rfl (by decide) (Nat.le_of_ble_eq_true rfl) (ev_X5_hasRoom _ (by omega)) ?_
                  refine e_if_eq (pc := 131) (tgt := 138) dX5_why_131 (by decide) (fun hc_131 => ?_) (fun hc_131 => ?_)
                  · refine e_iconst (pc := 138) (v := 0) dX5_why_138 (by decide) ?_
                    refine e_istore_n (pc := 139) dX5_why_139 (by decide) ?_
                    first | refine e_iinc1 (pc := 140) dX5_why_140 rfl (by decide) ?_ | refine e_iincp (pc := 140) dX5_why_140 rfl (by decide) ?_
                    refine e_goto (pc := 143) (tgt := 50) dX5_why_143 (by decide) ?_
                    exact e_wk (ih (j + 1) _ _ (by omega) (by first | (rw [hz1]; exact bI_congr (by grind)) | exact (bI_t (by grind)).symm) (by first | (rw [hz2]; exact bI_congr (by grind [bI_eq0])) | exact (bI_t (by grind [bI_eq0])).symm | exact (bI_f (by grind [bI_eq0])).symm)) ⟨rfl, rfl, rfl, rfl, rfl, trivial⟩
                  · refine e_iconst (pc := 134) (v := 1) dX5_why_134 (by decide) ?_
                    refine e_goto (pc := 135) (tgt := 139) dX5_why_135 (by decide) ?_
                    refine e_istore_n (pc := 139) dX5_why_139 (by decide) ?_
                    first | refine e_iinc1 (pc := 140) dX5_why_140 rfl (by decide) ?_ | refine e_iincp (pc := 140) dX5_why_140 rfl (by decide) ?_
                    refine e_goto (pc := 143) (tgt := 50) dX5_why_143 (by decide) ?_
                    exact e_wk (ih (j + 1) _ _ (by omega) (by first | (rw [hz1]; exact bI_congr (by grind)) | exact (bI_t (by grind)).symm) (by first | (rw [hz2]; exact bI_congr (by grind [bI_eq0])) | exact (bI_t (by grind [bI_eq0])).symm | exact (bI_f (by grind [bI_eq0])).symm)) ⟨rfl, rfl, rfl, rfl, rfl, trivial⟩
        · refine e_goto (pc := 84) (tgt := 140) dX5_why_84 (by decide) ?_
          first | refine e_iinc1 (pc := 140) dX5_why_140 rfl (by decide) ?_ | refine e_iincp (pc := 140) dX5_why_140 rfl (by decide) ?_
          refine e_goto (pc := 143) (tgt := 50) dX5_why_143 (by decide) ?_
          exact e_wk (ih (j + 1) _ _ (by omega) (by first | (rw [hz1]; exact bI_congr (by grind)) | exact (bI_t (by grind)).symm) (by first | (rw [hz2]; exact bI_congr (by grind [bI_eq0])) | exact (bI_t (by grind [bI_eq0])).symm | exact (bI_f (by grind [bI_eq0])).symm)) ⟨rfl, rfl, rfl, rfl, rfl, trivial⟩
set_option maxHeartbeats 1000000 in
theorem ev_X5_why {hn cn tk c : Nat} {N : cr_M} (hJ : n_J hn cn tk N) (hk : c < cn) : cr_EvM Y_X5_why [.inr (.inr 0), .inl (nI c)] N (some (.inl (m_why hn cn N c).1), (m_why hn cn N c).2) := by
  have h200 := hJ.1.2.1
  have hsz := hJ.1.2.2.2.1
  refine e_iload_n (pc := 0) dX5_why_0 rfl ?_
  refine e_aload_n (pc := 1) dX5_why_1 rfl ?_
  refine e_getI (pc := 2) dX5_why_2 f_5_142 rfl rfl ?_
  refine e_stat2i (pc := 5) dX5_why_5 cs_X5_why_130 st_X5_isIn rfl (by decide) (Nat.le_of_ble_eq_true rfl) (ev_X5_isIn _ _ _) ?_
  refine e_if_ne (pc := 8) (tgt := 17) dX5_why_8 (by decide) (fun hc_8 => ?_) (fun hc_8 => ?_)
  · refine e_aload_n (pc := 17) dX5_why_17 rfl ?_
    refine e_getA (pc := 18) dX5_why_18 f_5_59 rfl rfl ?_
    refine e_iload_n (pc := 21) dX5_why_21 rfl ?_
    first | refine e_ialdN (pc := 22) dX5_why_22 rfl (by omega) (by decide) ?_ | refine e_iald (pc := 22) dX5_why_22 rfl (by assumption) ?_
    refine e_if_eq (pc := 23) (tgt := 33) dX5_why_23 (by decide) (fun hc_23 => ?_) (fun hc_23 => ?_)
    · refine e_aload_n (pc := 33) dX5_why_33 rfl ?_
      refine e_iload_n (pc := 34) dX5_why_34 rfl ?_
      refine e_self1i (pc := 35) dX5_why_35 cs_X5_why_200 cv_X5_whoOf rc_X5_whoOf rfl (by decide) (Nat.le_of_ble_eq_true rfl) (ev_X5_whoOf hJ hk) ?_
      refine e_if_lt (pc := 38) (tgt := 43) dX5_why_38 (by decide) (fun hc_38 => ?_) (fun hc_38 => ?_)
      · refine e_iconst (pc := 43) (v := 0) dX5_why_43 (by decide) ?_
        refine e_istore_n (pc := 44) dX5_why_44 (by decide) ?_
        refine e_iconst (pc := 45) (v := 0) dX5_why_45 (by decide) ?_
        refine e_istore_n (pc := 46) dX5_why_46 (by decide) ?_
        refine e_iconst (pc := 47) (v := 0) dX5_why_47 (by decide) ?_
        refine e_istore (pc := 48) dX5_why_48 (by decide) ?_
        have hJ2 := n_J_Q (n_Q_wM hJ) hJ
        rw [show m_why hn cn N c = (n_why hn (n_wM hn cn N) c, n_wM hn cn N) by unfold m_why; rw [if_pos hc_23, if_neg (by grind)]]
        exact e_wk (lp_X5_why hJ2.1 hk (fun q => by rcases (hJ2.2.2.2.2.2.1 c hk).1 with z | z; exact z.2; exact absurd q z.1) hn 0 _ _ (by omega) (bI_f (by rintro ⟨i, hi, -⟩; omega)).symm (bI_f (by rintro ⟨i, hi, -⟩; omega)).symm) ⟨rfl, rfl, rfl, rfl, rfl, trivial⟩
      · refine e_iconst (pc := 41) (v := 0) dX5_why_41 (by decide) ?_
        refine r_iret (pc := 42) dX5_why_42 rfl ?_
        unfold m_why
        rw [if_pos (by assumption), if_pos (by grind)]
    · refine e_aload_n (pc := 26) dX5_why_26 rfl ?_
      refine e_bipush (pc := 27) (v := (-2)) dX5_why_27 (by decide) ?_
      refine e_self1i (pc := 29) dX5_why_29 cs_X5_why_120 cv_X5_refuse rc_X5_refuse rfl (by decide) (Nat.le_of_ble_eq_true rfl) (ev_X5_refuse _ (k := 2) (by decide) (by decide)) ?_
      refine r_iret (pc := 32) dX5_why_32 rfl ?_
      unfold m_why
      repeat (first | rw [if_pos (by grind)] | rw [if_neg (by grind)])
      try rfl
  · exact absurd hc_8 (by rw [bI_t (by rw [hsz]; exact cr_ix_in hk (by omega))]; decide)
