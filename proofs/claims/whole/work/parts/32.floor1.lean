set_option maxHeartbeats 1000000 in
theorem ev_X1_isKeptForOwn {hn cn : Nat} {F N : cr_M} {c : Nat} (hR : r_F hn cn F N) (hc : c < cn) : cr_EvM Y_X1_isKeptForOwn [.inr (.inr 0), .inl (nI c)] F (some (.inl (bI (N 10 c = 1 ∧ N 0 3 - N 17 c < N 0 7))), F) := by
  obtain ⟨x1, x2, x3, x4, x5, x6, x7, x8, x9, x10, x11, x12⟩ := r_F_c hR hc
  obtain ⟨h10, h200, z1, z2, z3, z4, z5⟩ := r_F_z hR
  refine e_aload_n (pc := 0) dX1_isKeptForOwn_0 rfl ?_
  refine e_getA (pc := 1) dX1_isKeptForOwn_1 f_1_21 rfl rfl ?_
  refine e_getA (pc := 4) dX1_isKeptForOwn_4 f_1_143 rfl rfl ?_
  refine e_iload_n (pc := 7) dX1_isKeptForOwn_7 rfl ?_
  first | refine e_ialdN (pc := 8) dX1_isKeptForOwn_8 rfl (by omega) (by decide) ?_ | refine e_iald (pc := 8) dX1_isKeptForOwn_8 rfl (by assumption) ?_
  refine e_iconst (pc := 9) (v := 1) dX1_isKeptForOwn_9 (by decide) ?_
  refine e_icmp_ne (pc := 10) (tgt := 38) dX1_isKeptForOwn_10 (by decide) (fun hc_10 => ?_) (fun hc_10 => ?_)
  · refine e_iconst (pc := 38) (v := 0) dX1_isKeptForOwn_38 (by decide) ?_
    refine r_zret (pc := 39) dX1_isKeptForOwn_39 rfl (by first | exact Or.inl rfl | exact Or.inr rfl | exact bI_01 _ | assumption) ?_
    first | exact rt_t (by grind) | exact rt_f (by grind)
  · refine e_aload_n (pc := 13) dX1_isKeptForOwn_13 rfl ?_
    refine e_getI (pc := 14) dX1_isKeptForOwn_14 f_1_43 rfl rfl ?_
    refine e_aload_n (pc := 17) dX1_isKeptForOwn_17 rfl ?_
    refine e_getA (pc := 18) dX1_isKeptForOwn_18 f_1_21 rfl rfl ?_
    refine e_getA (pc := 21) dX1_isKeptForOwn_21 f_1_159 rfl rfl ?_
    refine e_iload_n (pc := 24) dX1_isKeptForOwn_24 rfl ?_
    first | refine e_ialdN (pc := 25) dX1_isKeptForOwn_25 rfl (by omega) (by decide) ?_ | refine e_iald (pc := 25) dX1_isKeptForOwn_25 rfl (by assumption) ?_
    refine e_isub (pc := 26) dX1_isKeptForOwn_26 ?_
    refine e_aload_n (pc := 27) dX1_isKeptForOwn_27 rfl ?_
    refine e_getI (pc := 28) dX1_isKeptForOwn_28 f_1_32 rfl rfl ?_
    refine e_icmp_ge (pc := 31) (tgt := 38) dX1_isKeptForOwn_31 (by decide) (fun hc_31 => ?_) (fun hc_31 => ?_)
    · refine e_iconst (pc := 38) (v := 0) dX1_isKeptForOwn_38 (by decide) ?_
      refine r_zret (pc := 39) dX1_isKeptForOwn_39 rfl (by first | exact Or.inl rfl | exact Or.inr rfl | exact bI_01 _ | assumption) ?_
      first | exact rt_t (by grind) | exact rt_f (by grind)
    · refine e_iconst (pc := 34) (v := 1) dX1_isKeptForOwn_34 (by decide) ?_
      refine e_goto (pc := 35) (tgt := 39) dX1_isKeptForOwn_35 (by decide) ?_
      refine r_zret (pc := 39) dX1_isKeptForOwn_39 rfl (by first | exact Or.inl rfl | exact Or.inr rfl | exact bI_01 _ | assumption) ?_
      first | exact rt_t (by grind) | exact rt_f (by grind)
set_option maxHeartbeats 1000000 in
theorem lp_X1_ct1 {hn cn : Nat} {N : cr_M} {s : Nat} {y : Int32} {G : cr_M} (hR : r_F hn cn G N) (hs : s < 4) {r : Option cr_AV × cr_M} (kc : cr_Ev Y_X1_countTakers 91 [(0, .inr (.inr 0)), (1, .inl y), (2, .inl (nI s))] [] (t_m N G s hn) r) : ∀ (n j : Nat) (Mc : cr_M), j + n = hn → (Mc = t_m N G s j) → cr_Ev Y_X1_countTakers 25 [(3, .inl (nI j)), (0, .inr (.inr 0)), (1, .inl y), (2, .inl (nI s))] [] Mc r := by
  obtain ⟨h10, h200, z1, z2, z3, z4, z5⟩ := r_F_z hR
  intro n
  induction n with
  | zero =>
    intro j Mc hj hM
    subst hM
    refine e_iload_n (pc := 25) dX1_countTakers_25 rfl ?_
    refine e_aload_n (pc := 26) dX1_countTakers_26 rfl ?_
    refine e_getA (pc := 27) dX1_countTakers_27 f_1_12 rfl rfl ?_
    refine e_getI (pc := 30) dX1_countTakers_30 f_1_165 rfl rfl ?_
    refine e_icmp_ge (pc := 33) (tgt := 91) dX1_countTakers_33 (by decide) (fun hc_33 => ?_) (fun hc_33 => ?_)
    · have hj2 : j = hn := by omega
      rw [hj2]
      exact e_wk kc ⟨rfl, rfl, rfl, trivial⟩
    · exact absurd (show G 1 0 ≤ nI j by rw [z1]; exact nI_le (by omega) (by omega)) (by assumption)
  | succ n ih =>
    intro j Mc hj hM
    subst hM
    refine e_iload_n (pc := 25) dX1_countTakers_25 rfl ?_
    refine e_aload_n (pc := 26) dX1_countTakers_26 rfl ?_
    refine e_getA (pc := 27) dX1_countTakers_27 f_1_12 rfl rfl ?_
    refine e_getI (pc := 30) dX1_countTakers_30 f_1_165 rfl rfl ?_
    refine e_icmp_ge (pc := 33) (tgt := 91) dX1_countTakers_33 (by decide) (fun hc_33 => ?_) (fun hc_33 => ?_)
    · exact absurd (show G 1 0 ≤ nI j by assumption) (by rw [z1]; exact nI_ge (by omega) (by omega))
    · refine e_aload_n (pc := 36) dX1_countTakers_36 rfl ?_
      refine e_getA (pc := 37) dX1_countTakers_37 f_1_12 rfl rfl ?_
      refine e_iload_n (pc := 40) dX1_countTakers_40 rfl ?_
      refine e_iload_n (pc := 41) dX1_countTakers_41 rfl ?_
      refine e_iconst (pc := 42) (v := 0) dX1_countTakers_42 (by decide) ?_
      refine e_offR3i (pc := 43) (M' := fun _ _ => 0) dX1_countTakers_43 cs_X1_countTakers_166 cv_X2_canTake rc_X2_canTake fit_shF_shH_1 (by decide) (Nat.le_of_ble_eq_true rfl) (ev_X2_canTake _ (r_H_cg hR.1 (fun q hq => by funext i; simp only [t_m]; rw [if_neg (by omega), if_neg (by omega)]) (fun _ _ _ => rfl)) (by omega) hs) ?_
      refine e_if_eq (pc := 46) (tgt := 62) dX1_countTakers_46 (by decide) (fun hc_46 => ?_) (fun hc_46 => ?_)
      · refine e_aload_n (pc := 62) dX1_countTakers_62 rfl ?_
        refine e_getA (pc := 63) dX1_countTakers_63 f_1_12 rfl rfl ?_
        refine e_iload_n (pc := 66) dX1_countTakers_66 rfl ?_
        refine e_iload_n (pc := 67) dX1_countTakers_67 rfl ?_
        refine e_iconst (pc := 68) (v := 1) dX1_countTakers_68 (by decide) ?_
        refine e_offR3i (pc := 69) (M' := fun _ _ => 0) dX1_countTakers_69 cs_X1_countTakers_166 cv_X2_canTake rc_X2_canTake fit_shF_shH_1 (by decide) (Nat.le_of_ble_eq_true rfl) (ev_X2_canTake _ (r_H_cg hR.1 (fun q hq => by funext i; simp only [t_m]; rw [if_neg (by omega), if_neg (by omega)]) (fun _ _ _ => rfl)) (by omega) hs) ?_
        refine e_if_eq (pc := 72) (tgt := 85) dX1_countTakers_72 (by decide) (fun hc_72 => ?_) (fun hc_72 => ?_)
        · first | refine e_iinc1 (pc := 85) dX1_countTakers_85 rfl (by decide) ?_ | refine e_iincp (pc := 85) dX1_countTakers_85 rfl (by decide) ?_
          refine e_goto (pc := 88) (tgt := 25) dX1_countTakers_88 (by decide) ?_
          exact e_wk (ih (j + 1) _ (by omega) (by clear ih; simp only [bI_eq0, Classical.not_not] at *; (first | (have e1 := t_f_t hc_46; have e2 := t_w_n (Or.inl hc_46)) | (have e1 := t_f_n hc_46; have e2 := t_w_t hc_46 hc_72) | (have e1 := t_f_n hc_46; have e2 := t_w_n (Or.inr hc_72))); funext q i; simp only [cr_rd, t_m, e1, e2]; (try grind (splits := 20)))) ⟨rfl, rfl, rfl, rfl, trivial⟩
        · refine e_aload_n (pc := 75) dX1_countTakers_75 rfl ?_
          refine e_getA (pc := 76) dX1_countTakers_76 f_1_29 rfl rfl ?_
          refine e_iload_n (pc := 79) dX1_countTakers_79 rfl ?_
          refine e_dup2 (pc := 80) dX1_countTakers_80 ?_
          first | refine e_ialdN (pc := 81) dX1_countTakers_81 rfl (by omega) (by decide) ?_ | refine e_iald (pc := 81) dX1_countTakers_81 rfl (by assumption) ?_
          refine e_iconst (pc := 82) (v := 1) dX1_countTakers_82 (by decide) ?_
          refine e_iadd (pc := 83) dX1_countTakers_83 ?_
          first | refine e_iastN (pc := 84) dX1_countTakers_84 rfl (by omega) (by decide) ?_ | refine e_iast (pc := 84) dX1_countTakers_84 rfl (by assumption) ?_
          first | refine e_iinc1 (pc := 85) dX1_countTakers_85 rfl (by decide) ?_ | refine e_iincp (pc := 85) dX1_countTakers_85 rfl (by decide) ?_
          refine e_goto (pc := 88) (tgt := 25) dX1_countTakers_88 (by decide) ?_
          exact e_wk (ih (j + 1) _ (by omega) (by clear ih; simp only [bI_eq0, Classical.not_not] at *; (first | (have e1 := t_f_t hc_46; have e2 := t_w_n (Or.inl hc_46)) | (have e1 := t_f_n hc_46; have e2 := t_w_t hc_46 hc_72) | (have e1 := t_f_n hc_46; have e2 := t_w_n (Or.inr hc_72))); funext q i; simp only [cr_rd, t_m, e1, e2]; (try grind (splits := 20)))) ⟨rfl, rfl, rfl, rfl, trivial⟩
      · refine e_aload_n (pc := 49) dX1_countTakers_49 rfl ?_
        refine e_getA (pc := 50) dX1_countTakers_50 f_1_25 rfl rfl ?_
        refine e_iload_n (pc := 53) dX1_countTakers_53 rfl ?_
        refine e_dup2 (pc := 54) dX1_countTakers_54 ?_
        first | refine e_ialdN (pc := 55) dX1_countTakers_55 rfl (by omega) (by decide) ?_ | refine e_iald (pc := 55) dX1_countTakers_55 rfl (by assumption) ?_
        refine e_iconst (pc := 56) (v := 1) dX1_countTakers_56 (by decide) ?_
        refine e_iadd (pc := 57) dX1_countTakers_57 ?_
        first | refine e_iastN (pc := 58) dX1_countTakers_58 rfl (by omega) (by decide) ?_ | refine e_iast (pc := 58) dX1_countTakers_58 rfl (by assumption) ?_
        refine e_goto (pc := 59) (tgt := 85) dX1_countTakers_59 (by decide) ?_
        first | refine e_iinc1 (pc := 85) dX1_countTakers_85 rfl (by decide) ?_ | refine e_iincp (pc := 85) dX1_countTakers_85 rfl (by decide) ?_
        refine e_goto (pc := 88) (tgt := 25) dX1_countTakers_88 (by decide) ?_
        exact e_wk (ih (j + 1) _ (by omega) (by clear ih; simp only [bI_eq0, Classical.not_not] at *; (first | (have e1 := t_f_t hc_46; have e2 := t_w_n (Or.inl hc_46)) | (have e1 := t_f_n hc_46; have e2 := t_w_t hc_46 hc_72) | (have e1 := t_f_n hc_46; have e2 := t_w_n (Or.inr hc_72))); funext q i; simp only [cr_rd, t_m, e1, e2]; (try grind (splits := 20)))) ⟨rfl, rfl, rfl, rfl, trivial⟩
set_option maxHeartbeats 1000000 in
theorem lp_X1_ct2 {hn cn : Nat} {F N : cr_M} (hR : r_F hn cn F N) : ∀ (n j : Nat) (z : Int32) (Mc : cr_M), j + n = 4 → (Mc = t_M hn N F j) → (z = nI (t_a hn N j)) → cr_Ev Y_X1_countTakers 4 [(2, .inl (nI j)), (0, .inr (.inr 0)), (1, .inl z)] [] Mc (some (.inl (nI (t_a hn N 4))), t_M hn N F 4) := by
  obtain ⟨h10, h200, z1, z2, z3, z4, z5⟩ := r_F_z hR
  intro n
  induction n with
  | zero =>
    intro j z Mc hj hM hz
    subst hM
    refine e_iload_n (pc := 4) dX1_countTakers_4 rfl ?_
    refine e_iconst (pc := 5) (v := 4) dX1_countTakers_5 (by decide) ?_
    refine e_icmp_ge (pc := 6) (tgt := 113) dX1_countTakers_6 (by decide) (fun hc_6 => ?_) (fun hc_6 => ?_)
    · refine e_iload_n (pc := 113) dX1_countTakers_113 rfl ?_
      refine r_iret (pc := 114) dX1_countTakers_114 rfl ?_
      rw [hz, show j = 4 by omega]
    · exact absurd (show (4 : Int32) ≤ nI j by rw [show (4 : Int32) = nI 4 from rfl]; exact nI_le (by omega) (by omega)) (by assumption)
  | succ n ih =>
    intro j z Mc hj hM hz
    subst hM
    refine e_iload_n (pc := 4) dX1_countTakers_4 rfl ?_
    refine e_iconst (pc := 5) (v := 4) dX1_countTakers_5 (by decide) ?_
    refine e_icmp_ge (pc := 6) (tgt := 113) dX1_countTakers_6 (by decide) (fun hc_6 => ?_) (fun hc_6 => ?_)
    · exact absurd (show (4 : Int32) ≤ nI j by assumption) (by rw [show (4 : Int32) = nI 4 from rfl]; exact nI_ge (by omega) (by omega))
    · refine e_aload_n (pc := 9) dX1_countTakers_9 rfl ?_
      refine e_getA (pc := 10) dX1_countTakers_10 f_1_25 rfl rfl ?_
      refine e_iload_n (pc := 13) dX1_countTakers_13 rfl ?_
      refine e_iconst (pc := 14) (v := 0) dX1_countTakers_14 (by decide) ?_
      first | refine e_iastN (pc := 15) dX1_countTakers_15 rfl (by omega) (by decide) ?_ | refine e_iast (pc := 15) dX1_countTakers_15 rfl (by assumption) ?_
      refine e_aload_n (pc := 16) dX1_countTakers_16 rfl ?_
      refine e_getA (pc := 17) dX1_countTakers_17 f_1_29 rfl rfl ?_
      refine e_iload_n (pc := 20) dX1_countTakers_20 rfl ?_
      refine e_iconst (pc := 21) (v := 0) dX1_countTakers_21 (by decide) ?_
      first | refine e_iastN (pc := 22) dX1_countTakers_22 rfl (by omega) (by decide) ?_ | refine e_iast (pc := 22) dX1_countTakers_22 rfl (by assumption) ?_
      refine e_iconst (pc := 23) (v := 0) dX1_countTakers_23 (by decide) ?_
      refine e_istore_n (pc := 24) dX1_countTakers_24 (by decide) ?_
      refine e_wk (lp_X1_ct1 (G := cr_up (cr_up (t_M hn N F j) 23 j 0) 24 j 0) (r_F_cg hR (fun q hq => by funext i; simp only [cr_rd, t_M]; rw [if_neg (by omega), if_neg (by omega), if_neg (by omega), if_neg (by omega)]) (fun _ _ _ _ => rfl)) (by omega) ?_ hn 0 _ (by omega) (by clear ih; funext q i; simp only [cr_rd, t_m, t_f, t_w]; grind [nI_0])) ⟨rfl, rfl, rfl, rfl, trivial⟩
      rw [show t_m N (cr_up (cr_up (t_M hn N F j) 23 j 0) 24 j 0) j hn = t_m N (t_M hn N F j) j hn by funext q i; simp only [cr_rd, t_m]; grind]
      refine e_iload_n (pc := 91) dX1_countTakers_91 rfl ?_
      refine e_aload_n (pc := 92) dX1_countTakers_92 rfl ?_
      refine e_getA (pc := 93) dX1_countTakers_93 f_1_25 rfl rfl ?_
      refine e_iload_n (pc := 96) dX1_countTakers_96 rfl ?_
      first | refine e_ialdN (pc := 97) dX1_countTakers_97 rfl (by omega) (by decide) ?_ | refine e_iald (pc := 97) dX1_countTakers_97 rfl (by assumption) ?_
      refine e_aload_n (pc := 98) dX1_countTakers_98 rfl ?_
      refine e_getA (pc := 99) dX1_countTakers_99 f_1_29 rfl rfl ?_
      refine e_iload_n (pc := 102) dX1_countTakers_102 rfl ?_
      first | refine e_ialdN (pc := 103) dX1_countTakers_103 rfl (by omega) (by decide) ?_ | refine e_iald (pc := 103) dX1_countTakers_103 rfl (by assumption) ?_
      refine e_iadd (pc := 104) dX1_countTakers_104 ?_
      refine e_iadd (pc := 105) dX1_countTakers_105 ?_
      refine e_istore_n (pc := 106) dX1_countTakers_106 (by decide) ?_
      first | refine e_iinc1 (pc := 107) dX1_countTakers_107 rfl (by decide) ?_ | refine e_iincp (pc := 107) dX1_countTakers_107 rfl (by decide) ?_
      refine e_goto (pc := 110) (tgt := 4) dX1_countTakers_110 (by decide) ?_
      exact e_wk (ih (j + 1) _ _ (by omega) (by clear ih; funext q i; simp only [t_m, t_M]; grind (splits := 20)) (by rw [t_a, hz, ← nI_add, ← nI_add]; simp [t_m])) ⟨rfl, rfl, rfl, trivial⟩
set_option maxHeartbeats 1000000 in
theorem ev_X1_countTakers {hn cn : Nat} {F N : cr_M} (hR : r_F hn cn F N) : cr_EvM Y_X1_countTakers [.inr (.inr 0)] F (some (.inl (nI (t_a hn N 4))), t_M hn N F 4) := by
  refine e_iconst (pc := 0) (v := 0) dX1_countTakers_0 (by decide) ?_
  refine e_istore_n (pc := 1) dX1_countTakers_1 (by decide) ?_
  refine e_iconst (pc := 2) (v := 0) dX1_countTakers_2 (by decide) ?_
  refine e_istore_n (pc := 3) dX1_countTakers_3 (by decide) ?_
  exact e_wk (lp_X1_ct2 hR 4 0 _ _ (by omega) (by funext q i; simp [t_M]) rfl) ⟨rfl, rfl, rfl, trivial⟩
/-- the memory behind counting -/
def t_G (hn cn : Nat) (G N : cr_M) : Prop := r_F hn cn G N ∧ ∀ s, s < 4 → G 23 s = nI (t_f N s hn) ∧ G 24 s = nI (t_w N s hn)
theorem t_G_M {hn cn : Nat} {F N : cr_M} (hR : r_F hn cn F N) : t_G hn cn (t_M hn N F 4) N := ⟨r_F_cg hR (fun q hq => by funext i; simp only [t_M]; rw [if_neg (by omega), if_neg (by omega)]) (fun _ _ _ _ => rfl), fun s hs => ⟨by simp [t_M, hs], by simp [t_M, hs]⟩⟩
set_option maxHeartbeats 1000000 in
theorem ev_X1_isTakeable {hn cn tk : Nat} {G N : cr_M} {c : Nat} (hJ : n_J hn cn tk N) (hG : t_G hn cn G N) (hc : c < cn) (h0 : N 16 c = 0) : cr_EvM Y_X1_isTakeable [.inr (.inr 0), .inl (nI c)] G (some (.inl (bI (n_tk hn N c))), G) := by
  have hR := hG.1
  obtain ⟨s, hs, es⟩ := (hJ.1.2.2.2.2 c hc).1
  obtain ⟨g1, g2⟩ := hG.2 s hs
  have es2 : G 14 c = nI s := (r_F_c hR hc).2.2.2.1.trans es
  obtain ⟨x1, x2, x3, x4, x5, x6, x7, x8, x9, x10, x11, x12⟩ := r_F_c hR hc
  obtain ⟨h10, h200, z1, z2, z3, z4, z5⟩ := r_F_z hR
  have hft := t_f_le N s hn
  have hwt := t_w_le N s hn
  have p1 : 0 < nI (t_f N s hn) ↔ 0 < t_f N s hn := nI_ltI (a := 0) (by omega) (by omega)
  have p2 : 0 < nI (t_w N s hn) ↔ 0 < t_w N s hn := nI_ltI (a := 0) (by omega) (by omega)
  refine e_aload_n (pc := 0) dX1_isTakeable_0 rfl ?_
  refine e_getA (pc := 1) dX1_isTakeable_1 f_1_21 rfl rfl ?_
  refine e_getA (pc := 4) dX1_isTakeable_4 f_1_133 rfl rfl ?_
  refine e_iload_n (pc := 7) dX1_isTakeable_7 rfl ?_
  refine e_ialdV (pc := 8) (nI s) dX1_isTakeable_8 rfl (by omega) (by decide) es2 ?_
  refine e_istore_n (pc := 9) dX1_isTakeable_9 (by decide) ?_
  refine e_aload_n (pc := 10) dX1_isTakeable_10 rfl ?_
  refine e_iload_n (pc := 11) dX1_isTakeable_11 rfl ?_
  refine e_self1i (pc := 12) dX1_isTakeable_12 cs_X1_isTakeable_170 cv_X1_isKeptForOwn rc_X1_isKeptForOwn rfl (by decide) (Nat.le_of_ble_eq_true rfl) (ev_X1_isKeptForOwn hR hc) ?_
  refine e_if_eq (pc := 15) (tgt := 37) dX1_isTakeable_15 (by decide) (fun hc_15 => ?_) (fun hc_15 => ?_)
  · have hkp := bI_eq0.mp hc_15
    have htk := n_tk_k hJ hc h0 es hs hkp
    refine e_aload_n (pc := 37) dX1_isTakeable_37 rfl ?_
    refine e_getA (pc := 38) dX1_isTakeable_38 f_1_25 rfl rfl ?_
    refine e_iload_n (pc := 41) dX1_isTakeable_41 rfl ?_
    first | refine e_ialdN (pc := 42) dX1_isTakeable_42 rfl (by omega) (by decide) ?_ | refine e_iald (pc := 42) dX1_isTakeable_42 rfl (by assumption) ?_
    refine e_if_gt (pc := 43) (tgt := 68) dX1_isTakeable_43 (by decide) (fun hc_43 => ?_) (fun hc_43 => ?_)
    · refine e_iconst (pc := 68) (v := 1) dX1_isTakeable_68 (by decide) ?_
      refine e_goto (pc := 69) (tgt := 73) dX1_isTakeable_69 (by decide) ?_
      refine r_zret (pc := 73) dX1_isTakeable_73 rfl (by first | exact Or.inl rfl | exact Or.inr rfl | exact bI_01 _ | assumption) ?_
      first | exact rt_t (by grind) | exact rt_f (by grind)
    · refine e_aload_n (pc := 46) dX1_isTakeable_46 rfl ?_
      refine e_getA (pc := 47) dX1_isTakeable_47 f_1_21 rfl rfl ?_
      refine e_getA (pc := 50) dX1_isTakeable_50 f_1_143 rfl rfl ?_
      refine e_iload_n (pc := 53) dX1_isTakeable_53 rfl ?_
      first | refine e_ialdN (pc := 54) dX1_isTakeable_54 rfl (by omega) (by decide) ?_ | refine e_iald (pc := 54) dX1_isTakeable_54 rfl (by assumption) ?_
      refine e_iconst (pc := 55) (v := 3) dX1_isTakeable_55 (by decide) ?_
      refine e_icmp_ne (pc := 56) (tgt := 72) dX1_isTakeable_56 (by decide) (fun hc_56 => ?_) (fun hc_56 => ?_)
      · refine e_iconst (pc := 72) (v := 0) dX1_isTakeable_72 (by decide) ?_
        refine r_zret (pc := 73) dX1_isTakeable_73 rfl (by first | exact Or.inl rfl | exact Or.inr rfl | exact bI_01 _ | assumption) ?_
        first | exact rt_t (by grind) | exact rt_f (by grind)
      · refine e_aload_n (pc := 59) dX1_isTakeable_59 rfl ?_
        refine e_getA (pc := 60) dX1_isTakeable_60 f_1_29 rfl rfl ?_
        refine e_iload_n (pc := 63) dX1_isTakeable_63 rfl ?_
        first | refine e_ialdN (pc := 64) dX1_isTakeable_64 rfl (by omega) (by decide) ?_ | refine e_iald (pc := 64) dX1_isTakeable_64 rfl (by assumption) ?_
        refine e_if_le (pc := 65) (tgt := 72) dX1_isTakeable_65 (by decide) (fun hc_65 => ?_) (fun hc_65 => ?_)
        · refine e_iconst (pc := 72) (v := 0) dX1_isTakeable_72 (by decide) ?_
          refine r_zret (pc := 73) dX1_isTakeable_73 rfl (by first | exact Or.inl rfl | exact Or.inr rfl | exact bI_01 _ | assumption) ?_
          first | exact rt_t (by grind) | exact rt_f (by grind)
        · refine e_iconst (pc := 68) (v := 1) dX1_isTakeable_68 (by decide) ?_
          refine e_goto (pc := 69) (tgt := 73) dX1_isTakeable_69 (by decide) ?_
          refine r_zret (pc := 73) dX1_isTakeable_73 rfl (by first | exact Or.inl rfl | exact Or.inr rfl | exact bI_01 _ | assumption) ?_
          first | exact rt_t (by grind) | exact rt_f (by grind)
  · have hkp : N 10 c = 1 ∧ N 0 3 - N 17 c < N 0 7 := Classical.not_not.mp (fun q => hc_15 (bI_f q))
    obtain ⟨ko, hkl, hko⟩ : ∃ k, k < hn ∧ N 15 c = nI k := by rcases (hJ.2.2.2.2.2.1 c hc).1 with z | z; exact z.2; exact absurd hkp.1 z.1
    have hko2 : G 13 c = nI ko := x3.trans hko
    refine e_aload_n (pc := 18) dX1_isTakeable_18 rfl ?_
    refine e_getA (pc := 19) dX1_isTakeable_19 f_1_12 rfl rfl ?_
    refine e_aload_n (pc := 22) dX1_isTakeable_22 rfl ?_
    refine e_getA (pc := 23) dX1_isTakeable_23 f_1_21 rfl rfl ?_
    refine e_getA (pc := 26) dX1_isTakeable_26 f_1_173 rfl rfl ?_
    refine e_iload_n (pc := 29) dX1_isTakeable_29 rfl ?_
    refine e_ialdV (pc := 30) (nI ko) dX1_isTakeable_30 rfl (by omega) (by decide) hko2 ?_
    refine e_iload_n (pc := 31) dX1_isTakeable_31 rfl ?_
    refine e_iconst (pc := 32) (v := 0) dX1_isTakeable_32 (by decide) ?_
    refine e_offR3i (pc := 33) (M' := fun _ _ => 0) dX1_isTakeable_33 cs_X1_isTakeable_166 cv_X2_canTake rc_X2_canTake fit_shF_shH_1 (by decide) (Nat.le_of_ble_eq_true rfl) (ev_X2_canTake 0 hR.1 hkl hs) ?_
    refine r_zret (pc := 36) dX1_isTakeable_36 rfl (by first | exact Or.inl rfl | exact Or.inr rfl | exact bI_01 _ | assumption) ?_
    exact rt_i (bI_congr (n_tk_own hJ hc h0 es hs hkp hko hkl))
set_option maxHeartbeats 1000000 in
theorem ev_X1_rankOf {hn cn tk : Nat} {G N : cr_M} {c : Nat} (hJ : n_J hn cn tk N) (hG : t_G hn cn G N) (hc : c < cn) : cr_EvM Y_X1_rankOf [.inr (.inr 0), .inl (nI c)] G (some (.inl (x_rk hn N c)), G) := by
  have hR := hG.1
  obtain ⟨s, hs, es⟩ := (hJ.1.2.2.2.2 c hc).1
  obtain ⟨g1, g2⟩ := hG.2 s hs
  have es2 : G 14 c = nI s := (r_F_c hR hc).2.2.2.1.trans es
  obtain ⟨x1, x2, x3, x4, x5, x6, x7, x8, x9, x10, x11, x12⟩ := r_F_c hR hc
  obtain ⟨h10, h200, z1, z2, z3, z4, z5⟩ := r_F_z hR
  have hsn : n_s N c = s := by show (N 11 c).toNatClampNeg = s; rw [es]; exact nI_clamp (by omega)
  refine e_aload_n (pc := 0) dX1_rankOf_0 rfl ?_
  refine e_getI (pc := 1) dX1_rankOf_1 f_1_46 rfl rfl ?_
  refine e_tsw1 (pc := 4) 1 dX1_rankOf_4 (by decide) (by decide) (off := 28) (tgt := 32) rfl (by decide) (fun hs_4_1 => ?_) (fun hs_4_1 => ?_)
  · refine e_aload_n (pc := 32) dX1_rankOf_32 rfl ?_
    refine e_getA (pc := 33) dX1_rankOf_33 f_1_21 rfl rfl ?_
    refine e_getA (pc := 36) dX1_rankOf_36 f_1_143 rfl rfl ?_
    refine e_iload_n (pc := 39) dX1_rankOf_39 rfl ?_
    first | refine e_ialdN (pc := 40) dX1_rankOf_40 rfl (by omega) (by decide) ?_ | refine e_iald (pc := 40) dX1_rankOf_40 rfl (by assumption) ?_
    refine e_iconst (pc := 41) (v := 2) dX1_rankOf_41 (by decide) ?_
    refine e_icmp_ne (pc := 42) (tgt := 49) dX1_rankOf_42 (by decide) (fun hc_42 => ?_) (fun hc_42 => ?_)
    · refine e_iconst (pc := 49) (v := 1) dX1_rankOf_49 (by decide) ?_
      refine r_iret (pc := 50) dX1_rankOf_50 rfl ?_
      exact rt_i (by unfold x_rk; rw [hsn]; grind)
    · refine e_iconst (pc := 45) (v := 0) dX1_rankOf_45 (by decide) ?_
      refine e_goto (pc := 46) (tgt := 50) dX1_rankOf_46 (by decide) ?_
      refine r_iret (pc := 50) dX1_rankOf_50 rfl ?_
      exact rt_i (by unfold x_rk; rw [hsn]; grind)
  refine e_tsw1 (pc := 4) 2 dX1_rankOf_4 (by decide) (by decide) (off := 47) (tgt := 51) rfl (by decide) (fun hs_4_2 => ?_) (fun hs_4_2 => ?_)
  · refine e_aload_n (pc := 51) dX1_rankOf_51 rfl ?_
    refine e_getA (pc := 52) dX1_rankOf_52 f_1_25 rfl rfl ?_
    refine e_aload_n (pc := 55) dX1_rankOf_55 rfl ?_
    refine e_getA (pc := 56) dX1_rankOf_56 f_1_21 rfl rfl ?_
    refine e_getA (pc := 59) dX1_rankOf_59 f_1_133 rfl rfl ?_
    refine e_iload_n (pc := 62) dX1_rankOf_62 rfl ?_
    refine e_ialdV (pc := 63) (nI s) dX1_rankOf_63 rfl (by omega) (by decide) es2 ?_
    first | refine e_ialdN (pc := 64) dX1_rankOf_64 rfl (by omega) (by decide) ?_ | refine e_iald (pc := 64) dX1_rankOf_64 rfl (by assumption) ?_
    refine r_iret (pc := 65) dX1_rankOf_65 rfl ?_
    exact rt_i (by unfold x_rk; rw [hsn]; grind)
  refine e_tsw1 (pc := 4) 3 dX1_rankOf_4 (by decide) (by decide) (off := 62) (tgt := 66) rfl (by decide) (fun hs_4_3 => ?_) (fun hs_4_3 => ?_)
  · refine e_aload_n (pc := 66) dX1_rankOf_66 rfl ?_
    refine e_getA (pc := 67) dX1_rankOf_67 f_1_21 rfl rfl ?_
    refine e_getA (pc := 70) dX1_rankOf_70 f_1_159 rfl rfl ?_
    refine e_iload_n (pc := 73) dX1_rankOf_73 rfl ?_
    first | refine e_ialdN (pc := 74) dX1_rankOf_74 rfl (by omega) (by decide) ?_ | refine e_iald (pc := 74) dX1_rankOf_74 rfl (by assumption) ?_
    refine e_aload_n (pc := 75) dX1_rankOf_75 rfl ?_
    refine e_getA (pc := 76) dX1_rankOf_76 f_1_21 rfl rfl ?_
    refine e_getA (pc := 79) dX1_rankOf_79 f_1_162 rfl rfl ?_
    refine e_iload_n (pc := 82) dX1_rankOf_82 rfl ?_
    first | refine e_ialdN (pc := 83) dX1_rankOf_83 rfl (by omega) (by decide) ?_ | refine e_iald (pc := 83) dX1_rankOf_83 rfl (by assumption) ?_
    refine e_iadd (pc := 84) dX1_rankOf_84 ?_
    refine r_iret (pc := 85) dX1_rankOf_85 rfl ?_
    exact rt_i (by unfold x_rk; rw [hsn]; grind)
  refine e_tswO (pc := 4) (tgt := 86) dX1_rankOf_4 (by have q1 := lv_neT hs_4_1 (a := 1) rfl; have q2 := lv_neT hs_4_2 (a := 2) rfl; have q3 := lv_neT hs_4_3 (a := 3) rfl; omega) (by decide) ?_
  refine e_iconst (pc := 86) (v := 0) dX1_rankOf_86 (by decide) ?_
  refine r_iret (pc := 87) dX1_rankOf_87 rfl ?_
  exact rt_i (by unfold x_rk; rw [hsn]; grind)
set_option maxHeartbeats 4000000 in
theorem lp_X1_nextToGive {hn cn tk : Nat} {G N : cr_M} (hJ : n_J hn cn tk N) (hG : t_G hn cn G N) : ∀ (n j : Nat) (z y : Int32), j + n = cn → z = s_oi (-9) (s_fo (fun c => N 16 c = 0 ∧ n_tk hn N c) (fun a b => x_rk hn N a < x_rk hn N b) j) → (∀ b, s_fo (fun c => N 16 c = 0 ∧ n_tk hn N c) (fun a b => x_rk hn N a < x_rk hn N b) j = some b → y = x_rk hn N b) → cr_Ev Y_X1_nextToGive 16 [(3, .inl (nI j)), (0, .inr (.inr 0)), (1, .inl z), (2, .inl y)] [] G (some (.inl (s_oi (-9) (s_fo (fun c => N 16 c = 0 ∧ n_tk hn N c) (fun a b => x_rk hn N a < x_rk hn N b) cn))), G) := by
  obtain ⟨h10, h200, z1, z2, z3, z4, z5⟩ := r_F_z hG.1
  intro n
  induction n with
  | zero =>
    intro j z y hj hz hy
    refine e_iload_n (pc := 16) dX1_nextToGive_16 rfl ?_
    refine e_aload_n (pc := 17) dX1_nextToGive_17 rfl ?_
    refine e_getA (pc := 18) dX1_nextToGive_18 f_1_21 rfl rfl ?_
    refine e_getI (pc := 21) dX1_nextToGive_21 f_1_94 rfl rfl ?_
    refine e_icmp_ge (pc := 24) (tgt := 80) dX1_nextToGive_24 (by decide) (fun hc_24 => ?_) (fun hc_24 => ?_)
    · refine e_iload_n (pc := 80) dX1_nextToGive_80 rfl ?_
      refine r_iret (pc := 81) dX1_nextToGive_81 rfl ?_
      rw [hz, show j = cn by omega]
    · exact absurd (show G 10 0 ≤ nI j by rw [z2]; exact nI_le (by omega) (by omega)) (by assumption)
  | succ n ih =>
    intro j z y hj hz hy
    rcases hfo : s_fo (fun c => N 16 c = 0 ∧ n_tk hn N c) (fun a b => x_rk hn N a < x_rk hn N b) j with _ | b
    · have hz0 : z = s_oi (-9) (s_fo (fun c => N 16 c = 0 ∧ n_tk hn N c) (fun a b => x_rk hn N a < x_rk hn N b) j) := hz
      rw [hfo] at hz
      have hz : z = -9 := hz
      subst hz
      refine e_iload_n (pc := 16) dX1_nextToGive_16 rfl ?_
      refine e_aload_n (pc := 17) dX1_nextToGive_17 rfl ?_
      refine e_getA (pc := 18) dX1_nextToGive_18 f_1_21 rfl rfl ?_
      refine e_getI (pc := 21) dX1_nextToGive_21 f_1_94 rfl rfl ?_
      refine e_icmp_ge (pc := 24) (tgt := 80) dX1_nextToGive_24 (by decide) (fun hc_24 => ?_) (fun hc_24 => ?_)
      · exact absurd (show G 10 0 ≤ nI j by assumption) (by rw [z2]; exact nI_ge (by omega) (by omega))
      · refine e_aload_n (pc := 27) dX1_nextToGive_27 rfl ?_
        refine e_getA (pc := 28) dX1_nextToGive_28 f_1_21 rfl rfl ?_
        refine e_getA (pc := 31) dX1_nextToGive_31 f_1_63 rfl rfl ?_
        refine e_iload_n (pc := 34) dX1_nextToGive_34 rfl ?_
        first | refine e_ialdN (pc := 35) dX1_nextToGive_35 rfl (by omega) (by decide) ?_ | refine e_iald (pc := 35) dX1_nextToGive_35 rfl (by assumption) ?_
        refine e_if_ne (pc := 36) (tgt := 74) dX1_nextToGive_36 (by decide) (fun hc_36 => ?_) (fun hc_36 => ?_)
        · first | refine e_iinc1 (pc := 74) dX1_nextToGive_74 rfl (by decide) ?_ | refine e_iincp (pc := 74) dX1_nextToGive_74 rfl (by decide) ?_
          refine e_goto (pc := 77) (tgt := 16) dX1_nextToGive_77 (by decide) ?_
          have q := (r_F_c hG.1 (c := j) (by omega)).1
          first
            | exact e_wk (ih (j + 1) _ _ (by omega) (by rw [s_fo_t (by grind [bI_eq0]) (by grind [bI_eq0])]; rfl) (by rw [s_fo_t (by grind [bI_eq0]) (by grind [bI_eq0])]; intro b hb; cases hb; rfl)) ⟨rfl, rfl, rfl, rfl, trivial⟩
            | exact e_wk (ih (j + 1) _ _ (by omega) (by rw [s_fo_f (by grind [bI_eq0])]; exact hz0) (by rw [s_fo_f (by grind [bI_eq0])]; exact hy)) ⟨rfl, rfl, rfl, rfl, trivial⟩
        · refine e_aload_n (pc := 39) dX1_nextToGive_39 rfl ?_
          refine e_iload_n (pc := 40) dX1_nextToGive_40 rfl ?_
          refine e_self1i (pc := 41) dX1_nextToGive_41 cs_X1_nextToGive_153 cv_X1_isTakeable rc_X1_isTakeable rfl (by decide) (Nat.le_of_ble_eq_true rfl) (ev_X1_isTakeable hJ hG (by omega) (by have q := (r_F_c hG.1 (c := j) (by omega)).1; grind)) ?_
          refine e_if_ne (pc := 44) (tgt := 50) dX1_nextToGive_44 (by decide) (fun hc_44 => ?_) (fun hc_44 => ?_)
          · refine e_aload_n (pc := 50) dX1_nextToGive_50 rfl ?_
            refine e_iload_n (pc := 51) dX1_nextToGive_51 rfl ?_
            refine e_self1i (pc := 52) dX1_nextToGive_52 cs_X1_nextToGive_156 cv_X1_rankOf rc_X1_rankOf rfl (by decide) (Nat.le_of_ble_eq_true rfl) (ev_X1_rankOf hJ hG (by omega)) ?_
            refine e_istore (pc := 55) dX1_nextToGive_55 (by decide) ?_
            refine e_iload_n (pc := 57) dX1_nextToGive_57 rfl ?_
            refine e_bipush (pc := 58) (v := (-9)) dX1_nextToGive_58 (by decide) ?_
            refine e_icmp_eq (pc := 60) (tgt := 69) dX1_nextToGive_60 (by decide) (fun hc_60 => ?_) (fun hc_60 => ?_)
            · refine e_iload_n (pc := 69) dX1_nextToGive_69 rfl ?_
              refine e_istore_n (pc := 70) dX1_nextToGive_70 (by decide) ?_
              refine e_iload (pc := 71) dX1_nextToGive_71 rfl ?_
              refine e_istore_n (pc := 73) dX1_nextToGive_73 (by decide) ?_
              first | refine e_iinc1 (pc := 74) dX1_nextToGive_74 rfl (by decide) ?_ | refine e_iincp (pc := 74) dX1_nextToGive_74 rfl (by decide) ?_
              refine e_goto (pc := 77) (tgt := 16) dX1_nextToGive_77 (by decide) ?_
              have q := (r_F_c hG.1 (c := j) (by omega)).1
              first
                | exact e_wk (ih (j + 1) _ _ (by omega) (by rw [s_fo_t (by grind [bI_eq0]) (by grind [bI_eq0])]; rfl) (by rw [s_fo_t (by grind [bI_eq0]) (by grind [bI_eq0])]; intro b hb; cases hb; rfl)) ⟨rfl, rfl, rfl, rfl, trivial⟩
                | exact e_wk (ih (j + 1) _ _ (by omega) (by rw [s_fo_f (by grind [bI_eq0])]; exact hz0) (by rw [s_fo_f (by grind [bI_eq0])]; exact hy)) ⟨rfl, rfl, rfl, rfl, trivial⟩
            · exact absurd (rfl : (-9 : Int32) = -9) (by assumption)
          · refine e_goto (pc := 47) (tgt := 74) dX1_nextToGive_47 (by decide) ?_
            first | refine e_iinc1 (pc := 74) dX1_nextToGive_74 rfl (by decide) ?_ | refine e_iincp (pc := 74) dX1_nextToGive_74 rfl (by decide) ?_
            refine e_goto (pc := 77) (tgt := 16) dX1_nextToGive_77 (by decide) ?_
            have q := (r_F_c hG.1 (c := j) (by omega)).1
            first
              | exact e_wk (ih (j + 1) _ _ (by omega) (by rw [s_fo_t (by grind [bI_eq0]) (by grind [bI_eq0])]; rfl) (by rw [s_fo_t (by grind [bI_eq0]) (by grind [bI_eq0])]; intro b hb; cases hb; rfl)) ⟨rfl, rfl, rfl, rfl, trivial⟩
              | exact e_wk (ih (j + 1) _ _ (by omega) (by rw [s_fo_f (by grind [bI_eq0])]; exact hz0) (by rw [s_fo_f (by grind [bI_eq0])]; exact hy)) ⟨rfl, rfl, rfl, rfl, trivial⟩
    · have hz0 : z = s_oi (-9) (s_fo (fun c => N 16 c = 0 ∧ n_tk hn N c) (fun a b => x_rk hn N a < x_rk hn N b) j) := hz
      have hy2 := hy b hfo
      rw [hfo] at hz
      have hz : z = nI b := hz
      have hb := s_fo_lt hfo
      have hbn : ¬ nI b = -9 := fun q => absurd (show nI b < 0 by rw [q]; decide) (nI_pos (by omega))
      subst hz
      refine e_iload_n (pc := 16) dX1_nextToGive_16 rfl ?_
      refine e_aload_n (pc := 17) dX1_nextToGive_17 rfl ?_
      refine e_getA (pc := 18) dX1_nextToGive_18 f_1_21 rfl rfl ?_
      refine e_getI (pc := 21) dX1_nextToGive_21 f_1_94 rfl rfl ?_
      refine e_icmp_ge (pc := 24) (tgt := 80) dX1_nextToGive_24 (by decide) (fun hc_24 => ?_) (fun hc_24 => ?_)
      · exact absurd (show G 10 0 ≤ nI j by assumption) (by rw [z2]; exact nI_ge (by omega) (by omega))
      · refine e_aload_n (pc := 27) dX1_nextToGive_27 rfl ?_
        refine e_getA (pc := 28) dX1_nextToGive_28 f_1_21 rfl rfl ?_
        refine e_getA (pc := 31) dX1_nextToGive_31 f_1_63 rfl rfl ?_
        refine e_iload_n (pc := 34) dX1_nextToGive_34 rfl ?_
        first | refine e_ialdN (pc := 35) dX1_nextToGive_35 rfl (by omega) (by decide) ?_ | refine e_iald (pc := 35) dX1_nextToGive_35 rfl (by assumption) ?_
        refine e_if_ne (pc := 36) (tgt := 74) dX1_nextToGive_36 (by decide) (fun hc_36 => ?_) (fun hc_36 => ?_)
        · first | refine e_iinc1 (pc := 74) dX1_nextToGive_74 rfl (by decide) ?_ | refine e_iincp (pc := 74) dX1_nextToGive_74 rfl (by decide) ?_
          refine e_goto (pc := 77) (tgt := 16) dX1_nextToGive_77 (by decide) ?_
          have q := (r_F_c hG.1 (c := j) (by omega)).1
          first
            | exact e_wk (ih (j + 1) _ _ (by omega) (by rw [s_fo_t (by grind [bI_eq0]) (by grind [bI_eq0])]; rfl) (by rw [s_fo_t (by grind [bI_eq0]) (by grind [bI_eq0])]; intro b hb; cases hb; rfl)) ⟨rfl, rfl, rfl, rfl, trivial⟩
            | exact e_wk (ih (j + 1) _ _ (by omega) (by rw [s_fo_f (by grind [bI_eq0])]; exact hz0) (by rw [s_fo_f (by grind [bI_eq0])]; exact hy)) ⟨rfl, rfl, rfl, rfl, trivial⟩
        · refine e_aload_n (pc := 39) dX1_nextToGive_39 rfl ?_
          refine e_iload_n (pc := 40) dX1_nextToGive_40 rfl ?_
          refine e_self1i (pc := 41) dX1_nextToGive_41 cs_X1_nextToGive_153 cv_X1_isTakeable rc_X1_isTakeable rfl (by decide) (Nat.le_of_ble_eq_true rfl) (ev_X1_isTakeable hJ hG (by omega) (by have q := (r_F_c hG.1 (c := j) (by omega)).1; grind)) ?_
          refine e_if_ne (pc := 44) (tgt := 50) dX1_nextToGive_44 (by decide) (fun hc_44 => ?_) (fun hc_44 => ?_)
          · refine e_aload_n (pc := 50) dX1_nextToGive_50 rfl ?_
            refine e_iload_n (pc := 51) dX1_nextToGive_51 rfl ?_
            refine e_self1i (pc := 52) dX1_nextToGive_52 cs_X1_nextToGive_156 cv_X1_rankOf rc_X1_rankOf rfl (by decide) (Nat.le_of_ble_eq_true rfl) (ev_X1_rankOf hJ hG (by omega)) ?_
            refine e_istore (pc := 55) dX1_nextToGive_55 (by decide) ?_
            refine e_iload_n (pc := 57) dX1_nextToGive_57 rfl ?_
            refine e_bipush (pc := 58) (v := (-9)) dX1_nextToGive_58 (by decide) ?_
            refine e_icmp_eq (pc := 60) (tgt := 69) dX1_nextToGive_60 (by decide) (fun hc_60 => ?_) (fun hc_60 => ?_)
            · refine e_iload_n (pc := 69) dX1_nextToGive_69 rfl ?_
              refine e_istore_n (pc := 70) dX1_nextToGive_70 (by decide) ?_
              refine e_iload (pc := 71) dX1_nextToGive_71 rfl ?_
              refine e_istore_n (pc := 73) dX1_nextToGive_73 (by decide) ?_
              first | refine e_iinc1 (pc := 74) dX1_nextToGive_74 rfl (by decide) ?_ | refine e_iincp (pc := 74) dX1_nextToGive_74 rfl (by decide) ?_
              refine e_goto (pc := 77) (tgt := 16) dX1_nextToGive_77 (by decide) ?_
              have q := (r_F_c hG.1 (c := j) (by omega)).1
              first
                | exact e_wk (ih (j + 1) _ _ (by omega) (by rw [s_fo_t (by grind [bI_eq0]) (by grind [bI_eq0])]; rfl) (by rw [s_fo_t (by grind [bI_eq0]) (by grind [bI_eq0])]; intro b hb; cases hb; rfl)) ⟨rfl, rfl, rfl, rfl, trivial⟩
                | exact e_wk (ih (j + 1) _ _ (by omega) (by rw [s_fo_f (by grind [bI_eq0])]; exact hz0) (by rw [s_fo_f (by grind [bI_eq0])]; exact hy)) ⟨rfl, rfl, rfl, rfl, trivial⟩
            · refine e_iload (pc := 63) dX1_nextToGive_63 rfl ?_
              refine e_iload_n (pc := 65) dX1_nextToGive_65 rfl ?_
              refine e_icmp_ge (pc := 66) (tgt := 74) dX1_nextToGive_66 (by decide) (fun hc_66 => ?_) (fun hc_66 => ?_)
              · first | refine e_iinc1 (pc := 74) dX1_nextToGive_74 rfl (by decide) ?_ | refine e_iincp (pc := 74) dX1_nextToGive_74 rfl (by decide) ?_
                refine e_goto (pc := 77) (tgt := 16) dX1_nextToGive_77 (by decide) ?_
                have q := (r_F_c hG.1 (c := j) (by omega)).1
                first
                  | exact e_wk (ih (j + 1) _ _ (by omega) (by rw [s_fo_t (by grind [bI_eq0]) (by grind [bI_eq0])]; rfl) (by rw [s_fo_t (by grind [bI_eq0]) (by grind [bI_eq0])]; intro b hb; cases hb; rfl)) ⟨rfl, rfl, rfl, rfl, trivial⟩
                  | exact e_wk (ih (j + 1) _ _ (by omega) (by rw [s_fo_f (by grind [bI_eq0])]; exact hz0) (by rw [s_fo_f (by grind [bI_eq0])]; exact hy)) ⟨rfl, rfl, rfl, rfl, trivial⟩
              · refine e_iload_n (pc := 69) dX1_nextToGive_69 rfl ?_
                refine e_istore_n (pc := 70) dX1_nextToGive_70 (by decide) ?_
                refine e_iload (pc := 71) dX1_nextToGive_71 rfl ?_
                refine e_istore_n (pc := 73) dX1_nextToGive_73 (by decide) ?_
                first | refine e_iinc1 (pc := 74) dX1_nextToGive_74 rfl (by decide) ?_ | refine e_iincp (pc := 74) dX1_nextToGive_74 rfl (by decide) ?_
                refine e_goto (pc := 77) (tgt := 16) dX1_nextToGive_77 (by decide) ?_
                have q := (r_F_c hG.1 (c := j) (by omega)).1
                first
                  | exact e_wk (ih (j + 1) _ _ (by omega) (by rw [s_fo_t (by grind [bI_eq0]) (by grind [bI_eq0])]; rfl) (by rw [s_fo_t (by grind [bI_eq0]) (by grind [bI_eq0])]; intro b hb; cases hb; rfl)) ⟨rfl, rfl, rfl, rfl, trivial⟩
                  | exact e_wk (ih (j + 1) _ _ (by omega) (by rw [s_fo_f (by grind [bI_eq0])]; exact hz0) (by rw [s_fo_f (by grind [bI_eq0])]; exact hy)) ⟨rfl, rfl, rfl, rfl, trivial⟩
          · refine e_goto (pc := 47) (tgt := 74) dX1_nextToGive_47 (by decide) ?_
            first | refine e_iinc1 (pc := 74) dX1_nextToGive_74 rfl (by decide) ?_ | refine e_iincp (pc := 74) dX1_nextToGive_74 rfl (by decide) ?_
            refine e_goto (pc := 77) (tgt := 16) dX1_nextToGive_77 (by decide) ?_
            have q := (r_F_c hG.1 (c := j) (by omega)).1
            first
              | exact e_wk (ih (j + 1) _ _ (by omega) (by rw [s_fo_t (by grind [bI_eq0]) (by grind [bI_eq0])]; rfl) (by rw [s_fo_t (by grind [bI_eq0]) (by grind [bI_eq0])]; intro b hb; cases hb; rfl)) ⟨rfl, rfl, rfl, rfl, trivial⟩
              | exact e_wk (ih (j + 1) _ _ (by omega) (by rw [s_fo_f (by grind [bI_eq0])]; exact hz0) (by rw [s_fo_f (by grind [bI_eq0])]; exact hy)) ⟨rfl, rfl, rfl, rfl, trivial⟩
theorem t_a_none {hn cn tk : Nat} {N : cr_M} (hJ : n_J hn cn tk N) (h : nI (t_a hn N 4) = 0) : n_nx hn cn N = none := by
  have h10 := hJ.1.1
  have b : ∀ s, t_f N s hn + t_w N s hn ≤ 20 := fun s => by have := t_f_le N s hn; have := t_w_le N s hn; omega
  have e : t_a hn N 4 = 0 + (t_f N 0 hn + t_w N 0 hn) + (t_f N 1 hn + t_w N 1 hn) + (t_f N 2 hn + t_w N 2 hn) + (t_f N 3 hn + t_w N 3 hn) := rfl
  have b0 := b 0
  have b1 := b 1
  have b2 := b 2
  have b3 := b 3
  have h0 : t_a hn N 4 = 0 := (nI_eq (a := t_a hn N 4) (b := 0) (by omega) (by omega)).mp h
  have z : ∀ s, s < 4 → t_f N s hn = 0 ∧ t_w N s hn = 0 := by
    intro s hs
    rcases (show s = 0 ∨ s = 1 ∨ s = 2 ∨ s = 3 by omega) with rfl | rfl | rfl | rfl <;> omega
  rcases hx : n_nx hn cn N with _ | c
  · rfl
  · obtain ⟨hc, hc0, htk⟩ := n_nx_some hx
    obtain ⟨s, hs, es⟩ := (hJ.1.2.2.2.2 c hc).1
    obtain ⟨z1, z2⟩ := z s hs
    exfalso
    by_cases hkp : N 10 c = 1 ∧ N 0 3 - N 17 c < N 0 7
    · obtain ⟨k, hk, ho⟩ : ∃ k, k < hn ∧ N 15 c = nI k := by rcases (hJ.2.2.2.2.2.1 c hc).1 with y | y; exact y.2; exact absurd hkp.1 y.1
      have q := (n_tk_own hJ hc hc0 es hs hkp ho hk).mp htk
      have : 0 < t_f N s hn := t_f_pos.mpr ⟨k, hk, q⟩
      omega
    · have q := (n_tk_k hJ hc hc0 es hs hkp).mp htk
      omega
set_option maxHeartbeats 1000000 in
theorem ev_X1_nextToGive {hn cn tk : Nat} {F N : cr_M} (hJ : n_J hn cn tk N) (hR : r_F hn cn F N) : cr_EvM Y_X1_nextToGive [.inr (.inr 0)] F (some (.inl (s_oi (-9) (n_nx hn cn N))), t_M hn N F 4) := by
  refine e_bipush (pc := 0) (v := (-9)) dX1_nextToGive_0 (by decide) ?_
  refine e_istore_n (pc := 2) dX1_nextToGive_2 (by decide) ?_
  refine e_aload_n (pc := 3) dX1_nextToGive_3 rfl ?_
  refine e_self0i (pc := 4) dX1_nextToGive_4 cs_X1_nextToGive_150 cv_X1_countTakers rc_X1_countTakers rfl (by decide) (Nat.le_of_ble_eq_true rfl) (ev_X1_countTakers hR) ?_
  refine e_if_ne (pc := 7) (tgt := 12) dX1_nextToGive_7 (by decide) (fun hc_7 => ?_) (fun hc_7 => ?_)
  · refine e_iconst (pc := 12) (v := 0) dX1_nextToGive_12 (by decide) ?_
    refine e_istore_n (pc := 13) dX1_nextToGive_13 (by decide) ?_
    refine e_iconst (pc := 14) (v := 0) dX1_nextToGive_14 (by decide) ?_
    refine e_istore_n (pc := 15) dX1_nextToGive_15 (by decide) ?_
    rw [n_nx_x hJ]
    exact e_wk (lp_X1_nextToGive hJ (t_G_M hR) cn 0 _ _ (by omega) rfl (fun b hb => by cases hb)) ⟨rfl, rfl, rfl, rfl, trivial⟩
  · refine e_iload_n (pc := 10) dX1_nextToGive_10 rfl ?_
    refine r_iret (pc := 11) dX1_nextToGive_11 rfl ?_
    rw [show n_nx hn cn N = none from t_a_none hJ hc_7]
    rfl
