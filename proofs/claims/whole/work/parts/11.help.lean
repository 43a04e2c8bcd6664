set_option maxHeartbeats 1000000 in
theorem ev_X2_has (M : cr_M) (h : Int32) : cr_EvM Y_X2_has [.inr (.inr 0), .inl h] M (some (.inl (bI (0 ≤ h ∧ h < M 0 0))), M) := by
  refine e_iload_n dX2_has_0 rfl ?_
  refine e_if_lt (tgt := 16) dX2_has_1 (by decide) (fun hc_1 => ?_) (fun hc_1 => ?_)
  · refine e_iconst (v := 0) dX2_has_16 (by decide) ?_
    refine e_zret dX2_has_17 rfl (by first | exact Or.inl rfl | exact Or.inr rfl | exact bI_01 _ | assumption) ?_
    first | exact rt_t ⟨by simpa using ‹_›, by simpa using ‹_›⟩ | exact rt_f (by rintro ⟨h1, h2⟩; simp_all)
  · refine e_iload_n dX2_has_4 rfl ?_
    refine e_aload_n dX2_has_5 rfl ?_
    refine e_getI dX2_has_6 f_2_36 rfl rfl ?_
    refine e_icmp_ge (tgt := 16) dX2_has_9 (by decide) (fun hc_9 => ?_) (fun hc_9 => ?_)
    · refine e_iconst (v := 0) dX2_has_16 (by decide) ?_
      refine e_zret dX2_has_17 rfl (by first | exact Or.inl rfl | exact Or.inr rfl | exact bI_01 _ | assumption) ?_
      first | exact rt_t ⟨by simpa using ‹_›, by simpa using ‹_›⟩ | exact rt_f (by rintro ⟨h1, h2⟩; simp_all)
    · refine e_iconst (v := 1) dX2_has_12 (by decide) ?_
      refine e_goto (tgt := 17) dX2_has_13 (by decide) ?_
      refine e_zret dX2_has_17 rfl (by first | exact Or.inl rfl | exact Or.inr rfl | exact bI_01 _ | assumption) ?_
      first | exact rt_t ⟨by simpa using ‹_›, by simpa using ‹_›⟩ | exact rt_f (by rintro ⟨h1, h2⟩; simp_all)
set_option maxHeartbeats 1000000 in
theorem ev_X2_become (M : cr_M) {k : Nat} (w t : Int32) (hk : k < 10) : cr_EvM Y_X2_become [.inr (.inr 0), .inl (nI k), .inl w, .inl t] M (none, cr_up (cr_up M 2 k w) 3 k t) := by
  refine e_aload_n dX2_become_0 rfl ?_
  refine e_getA dX2_become_1 f_2_15 rfl rfl ?_
  refine e_iload_n dX2_become_4 rfl ?_
  refine e_iload_n dX2_become_5 rfl ?_
  first | refine e_iastN dX2_become_6 rfl (by omega) (by decide) ?_ | refine e_iast dX2_become_6 rfl (by assumption) ?_
  refine e_aload_n dX2_become_7 rfl ?_
  refine e_getA dX2_become_8 f_2_18 rfl rfl ?_
  refine e_iload_n dX2_become_11 rfl ?_
  refine e_iload_n dX2_become_12 rfl ?_
  first | refine e_iastN dX2_become_13 rfl (by omega) (by decide) ?_ | refine e_iast dX2_become_13 rfl (by assumption) ?_
  refine e_vret dX2_become_14 rfl ?_
  rfl
set_option maxHeartbeats 1000000 in
theorem ev_X2_gradeFor (M : cr_M) {k : Nat} (s : Int32) (hk : k < 10) : cr_EvM Y_X2_gradeFor [.inr (.inr 0), .inl (nI k), .inl s] M (some (.inl ((M 1 k >>> (2 * s &&& 31)) &&& 3)), M) := by
  refine e_aload_n dX2_gradeFor_0 rfl ?_
  refine e_getA dX2_gradeFor_1 f_2_9 rfl rfl ?_
  refine e_iload_n dX2_gradeFor_4 rfl ?_
  first | refine e_ialdN dX2_gradeFor_5 rfl (by omega) (by decide) ?_ | refine e_iald dX2_gradeFor_5 rfl (by assumption) ?_
  refine e_iconst (v := 2) dX2_gradeFor_6 (by decide) ?_
  refine e_iload_n dX2_gradeFor_7 rfl ?_
  refine e_imul dX2_gradeFor_8 ?_
  refine e_ishr dX2_gradeFor_9 ?_
  refine e_iconst (v := 3) dX2_gradeFor_10 (by decide) ?_
  refine e_iand dX2_gradeFor_11 ?_
  refine e_iret dX2_gradeFor_12 rfl ?_
  rfl
set_option maxHeartbeats 1000000 in
theorem ev_X2_setGrade (M : cr_M) {k : Nat} (s g : Int32) (hk : k < 10) : cr_EvM Y_X2_setGrade [.inr (.inr 0), .inl (nI k), .inl s, .inl g] M (none, cr_up M 1 k (M 1 k &&& (3 <<< (2 * s &&& 31) ^^^ -1) ||| g <<< (2 * s &&& 31))) := by
  refine e_aload_n dX2_setGrade_0 rfl ?_
  refine e_getA dX2_setGrade_1 f_2_9 rfl rfl ?_
  refine e_iload_n dX2_setGrade_4 rfl ?_
  refine e_aload_n dX2_setGrade_5 rfl ?_
  refine e_getA dX2_setGrade_6 f_2_9 rfl rfl ?_
  refine e_iload_n dX2_setGrade_9 rfl ?_
  first | refine e_ialdN dX2_setGrade_10 rfl (by omega) (by decide) ?_ | refine e_iald dX2_setGrade_10 rfl (by assumption) ?_
  refine e_iconst (v := 3) dX2_setGrade_11 (by decide) ?_
  refine e_iconst (v := 2) dX2_setGrade_12 (by decide) ?_
  refine e_iload_n dX2_setGrade_13 rfl ?_
  refine e_imul dX2_setGrade_14 ?_
  refine e_ishl dX2_setGrade_15 ?_
  refine e_iconst (v := (-1)) dX2_setGrade_16 (by decide) ?_
  refine e_ixor dX2_setGrade_17 ?_
  refine e_iand dX2_setGrade_18 ?_
  refine e_iload_n dX2_setGrade_19 rfl ?_
  refine e_iconst (v := 2) dX2_setGrade_20 (by decide) ?_
  refine e_iload_n dX2_setGrade_21 rfl ?_
  refine e_imul dX2_setGrade_22 ?_
  refine e_ishl dX2_setGrade_23 ?_
  refine e_ior dX2_setGrade_24 ?_
  first | refine e_iastN dX2_setGrade_25 rfl (by omega) (by decide) ?_ | refine e_iast dX2_setGrade_25 rfl (by assumption) ?_
  refine e_vret dX2_setGrade_26 rfl ?_
  rfl
