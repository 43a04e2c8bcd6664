set_option maxHeartbeats 1000000 in
theorem ev_X2_has (M : cr_M) (h : Int32) : cr_EvM Y_X2_has [.inr (.inr 0), .inl h] M (some (.inl (bI (0 ≤ h ∧ h < M 0 0))), M) := by
  refine e_iload_n (pc := 0) dX2_has_0 rfl ?_
  refine e_if_lt (pc := 1) (tgt := 16) dX2_has_1 (by decide) (fun hc_1 => ?_) (fun hc_1 => ?_)
  · refine e_iconst (pc := 16) (v := 0) dX2_has_16 (by decide) ?_
    refine r_zret (pc := 17) dX2_has_17 rfl (by first | exact Or.inl rfl | exact Or.inr rfl | exact bI_01 _ | assumption) ?_
    first | exact rt_t (by grind) | exact rt_f (by grind)
  · refine e_iload_n (pc := 4) dX2_has_4 rfl ?_
    refine e_aload_n (pc := 5) dX2_has_5 rfl ?_
    refine e_getI (pc := 6) dX2_has_6 f_2_36 rfl rfl ?_
    refine e_icmp_ge (pc := 9) (tgt := 16) dX2_has_9 (by decide) (fun hc_9 => ?_) (fun hc_9 => ?_)
    · refine e_iconst (pc := 16) (v := 0) dX2_has_16 (by decide) ?_
      refine r_zret (pc := 17) dX2_has_17 rfl (by first | exact Or.inl rfl | exact Or.inr rfl | exact bI_01 _ | assumption) ?_
      first | exact rt_t (by grind) | exact rt_f (by grind)
    · refine e_iconst (pc := 12) (v := 1) dX2_has_12 (by decide) ?_
      refine e_goto (pc := 13) (tgt := 17) dX2_has_13 (by decide) ?_
      refine r_zret (pc := 17) dX2_has_17 rfl (by first | exact Or.inl rfl | exact Or.inr rfl | exact bI_01 _ | assumption) ?_
      first | exact rt_t (by grind) | exact rt_f (by grind)
set_option maxHeartbeats 1000000 in
theorem ev_X2_become (M : cr_M) {k : Nat} (w t : Int32) (hk : k < 10) : cr_EvM Y_X2_become [.inr (.inr 0), .inl (nI k), .inl w, .inl t] M (none, cr_up (cr_up M 2 k w) 3 k t) := by
  refine e_aload_n (pc := 0) dX2_become_0 rfl ?_
  refine e_getA (pc := 1) dX2_become_1 f_2_15 rfl rfl ?_
  refine e_iload_n (pc := 4) dX2_become_4 rfl ?_
  refine e_iload_n (pc := 5) dX2_become_5 rfl ?_
  first | refine e_iastN (pc := 6) dX2_become_6 rfl (by omega) (by decide) ?_ | refine e_iast (pc := 6) dX2_become_6 rfl (by assumption) ?_
  refine e_aload_n (pc := 7) dX2_become_7 rfl ?_
  refine e_getA (pc := 8) dX2_become_8 f_2_18 rfl rfl ?_
  refine e_iload_n (pc := 11) dX2_become_11 rfl ?_
  refine e_iload_n (pc := 12) dX2_become_12 rfl ?_
  first | refine e_iastN (pc := 13) dX2_become_13 rfl (by omega) (by decide) ?_ | refine e_iast (pc := 13) dX2_become_13 rfl (by assumption) ?_
  refine r_vret (pc := 14) dX2_become_14 rfl ?_
  rfl
set_option maxHeartbeats 1000000 in
theorem ev_X2_gradeFor (M : cr_M) {k : Nat} (s : Int32) (hk : k < 10) : cr_EvM Y_X2_gradeFor [.inr (.inr 0), .inl (nI k), .inl s] M (some (.inl ((M 1 k >>> (2 * s &&& 31)) &&& 3)), M) := by
  refine e_aload_n (pc := 0) dX2_gradeFor_0 rfl ?_
  refine e_getA (pc := 1) dX2_gradeFor_1 f_2_9 rfl rfl ?_
  refine e_iload_n (pc := 4) dX2_gradeFor_4 rfl ?_
  first | refine e_ialdN (pc := 5) dX2_gradeFor_5 rfl (by omega) (by decide) ?_ | refine e_iald (pc := 5) dX2_gradeFor_5 rfl (by assumption) ?_
  refine e_iconst (pc := 6) (v := 2) dX2_gradeFor_6 (by decide) ?_
  refine e_iload_n (pc := 7) dX2_gradeFor_7 rfl ?_
  refine e_imul (pc := 8) dX2_gradeFor_8 ?_
  refine e_ishr (pc := 9) dX2_gradeFor_9 ?_
  refine e_iconst (pc := 10) (v := 3) dX2_gradeFor_10 (by decide) ?_
  refine e_iand (pc := 11) dX2_gradeFor_11 ?_
  refine r_iret (pc := 12) dX2_gradeFor_12 rfl ?_
  rfl
theorem ev_X2_gradeForN {hn : Nat} {M N : cr_M} {k s : Nat} (hR : r_H hn M N) (hk : k < hn) (hs : s < 4) : cr_EvM Y_X2_gradeFor [.inr (.inr 0), .inl (nI k), .inl (nI s)] M (some (.inl (N 4 (4 * k + s))), M) := by
  obtain ⟨h10, -, hall⟩ := hR
  obtain ⟨⟨g, hg, e1, e2⟩, -⟩ := hall k hk
  have h := ev_X2_gradeFor M (k := k) (nI s) (by omega)
  rw [e1, g_get g hg s hs, ← e2 s hs] at h
  exact h
set_option maxHeartbeats 1000000 in
theorem ev_X2_setGrade (M : cr_M) {k : Nat} (s g : Int32) (hk : k < 10) : cr_EvM Y_X2_setGrade [.inr (.inr 0), .inl (nI k), .inl s, .inl g] M (none, cr_up M 1 k (M 1 k &&& (3 <<< (2 * s &&& 31) ^^^ -1) ||| g <<< (2 * s &&& 31))) := by
  refine e_aload_n (pc := 0) dX2_setGrade_0 rfl ?_
  refine e_getA (pc := 1) dX2_setGrade_1 f_2_9 rfl rfl ?_
  refine e_iload_n (pc := 4) dX2_setGrade_4 rfl ?_
  refine e_aload_n (pc := 5) dX2_setGrade_5 rfl ?_
  refine e_getA (pc := 6) dX2_setGrade_6 f_2_9 rfl rfl ?_
  refine e_iload_n (pc := 9) dX2_setGrade_9 rfl ?_
  first | refine e_ialdN (pc := 10) dX2_setGrade_10 rfl (by omega) (by decide) ?_ | refine e_iald (pc := 10) dX2_setGrade_10 rfl (by assumption) ?_
  refine e_iconst (pc := 11) (v := 3) dX2_setGrade_11 (by decide) ?_
  refine e_iconst (pc := 12) (v := 2) dX2_setGrade_12 (by decide) ?_
  refine e_iload_n (pc := 13) dX2_setGrade_13 rfl ?_
  refine e_imul (pc := 14) dX2_setGrade_14 ?_
  refine e_ishl (pc := 15) dX2_setGrade_15 ?_
  refine e_iconst (pc := 16) (v := (-1)) dX2_setGrade_16 (by decide) ?_
  refine e_ixor (pc := 17) dX2_setGrade_17 ?_
  refine e_iand (pc := 18) dX2_setGrade_18 ?_
  refine e_iload_n (pc := 19) dX2_setGrade_19 rfl ?_
  refine e_iconst (pc := 20) (v := 2) dX2_setGrade_20 (by decide) ?_
  refine e_iload_n (pc := 21) dX2_setGrade_21 rfl ?_
  refine e_imul (pc := 22) dX2_setGrade_22 ?_
  refine e_ishl (pc := 23) dX2_setGrade_23 ?_
  refine e_ior (pc := 24) dX2_setGrade_24 ?_
  first | refine e_iastN (pc := 25) dX2_setGrade_25 rfl (by omega) (by decide) ?_ | refine e_iast (pc := 25) dX2_setGrade_25 rfl (by assumption) ?_
  refine r_vret (pc := 26) dX2_setGrade_26 rfl ?_
  rfl
set_option maxHeartbeats 1000000 in
theorem ev_J_bit (M : cr_M) (x : Int32) : cr_EvM Y_J_bit [.inl x] M (some (.inl (f_bit x)), M) := by
  refine e_iload_n (pc := 0) dJ_bit_0 rfl ?_
  refine e_iload_n (pc := 1) dJ_bit_1 rfl ?_
  refine e_iconst (pc := 2) (v := 1) dJ_bit_2 (by decide) ?_
  refine e_iushr (pc := 3) dJ_bit_3 rfl ?_
  refine e_ldcw (pc := 4) (v := (1431655765 : Int32)) dJ_bit_4 (cr_in (i := 422) (by decide +kernel) rfl) ?_
  refine e_iand (pc := 7) dJ_bit_7 ?_
  refine e_isub (pc := 8) dJ_bit_8 ?_
  refine e_istore_n (pc := 9) dJ_bit_9 (by decide) ?_
  refine e_iload_n (pc := 10) dJ_bit_10 rfl ?_
  refine e_ldcw (pc := 11) (v := (858993459 : Int32)) dJ_bit_11 (cr_in (i := 423) (by decide +kernel) rfl) ?_
  refine e_iand (pc := 14) dJ_bit_14 ?_
  refine e_iload_n (pc := 15) dJ_bit_15 rfl ?_
  refine e_iconst (pc := 16) (v := 2) dJ_bit_16 (by decide) ?_
  refine e_iushr (pc := 17) dJ_bit_17 rfl ?_
  refine e_ldcw (pc := 18) (v := (858993459 : Int32)) dJ_bit_18 (cr_in (i := 423) (by decide +kernel) rfl) ?_
  refine e_iand (pc := 21) dJ_bit_21 ?_
  refine e_iadd (pc := 22) dJ_bit_22 ?_
  refine e_istore_n (pc := 23) dJ_bit_23 (by decide) ?_
  refine e_iload_n (pc := 24) dJ_bit_24 rfl ?_
  refine e_iload_n (pc := 25) dJ_bit_25 rfl ?_
  refine e_iconst (pc := 26) (v := 4) dJ_bit_26 (by decide) ?_
  refine e_iushr (pc := 27) dJ_bit_27 rfl ?_
  refine e_iadd (pc := 28) dJ_bit_28 ?_
  refine e_ldcw (pc := 29) (v := (252645135 : Int32)) dJ_bit_29 (cr_in (i := 424) (by decide +kernel) rfl) ?_
  refine e_iand (pc := 32) dJ_bit_32 ?_
  refine e_istore_n (pc := 33) dJ_bit_33 (by decide) ?_
  refine e_iload_n (pc := 34) dJ_bit_34 rfl ?_
  refine e_iload_n (pc := 35) dJ_bit_35 rfl ?_
  refine e_bipush (pc := 36) (v := 8) dJ_bit_36 (by decide) ?_
  refine e_iushr (pc := 38) dJ_bit_38 rfl ?_
  refine e_iadd (pc := 39) dJ_bit_39 ?_
  refine e_istore_n (pc := 40) dJ_bit_40 (by decide) ?_
  refine e_iload_n (pc := 41) dJ_bit_41 rfl ?_
  refine e_iload_n (pc := 42) dJ_bit_42 rfl ?_
  refine e_bipush (pc := 43) (v := 16) dJ_bit_43 (by decide) ?_
  refine e_iushr (pc := 45) dJ_bit_45 rfl ?_
  refine e_iadd (pc := 46) dJ_bit_46 ?_
  refine e_istore_n (pc := 47) dJ_bit_47 (by decide) ?_
  refine e_iload_n (pc := 48) dJ_bit_48 rfl ?_
  refine e_bipush (pc := 49) (v := 63) dJ_bit_49 (by decide) ?_
  refine e_iand (pc := 51) dJ_bit_51 ?_
  refine r_iret (pc := 52) dJ_bit_52 rfl ?_
  rfl
set_option maxHeartbeats 1000000 in
theorem ev_X2_sortsOf {hn : Nat} {M N : cr_M} {k : Nat} (hR : r_H hn M N) (hk : k < hn) : cr_EvM Y_X2_sortsOf [.inr (.inr 0), .inl (nI k)] M (some (.inl (s_so N k)), M) := by
  obtain ⟨h10, -, hall⟩ := hR
  obtain ⟨⟨g, hg, e1, e2⟩, -⟩ := hall k hk
  refine e_aload_n (pc := 0) dX2_sortsOf_0 rfl ?_
  refine e_getA (pc := 1) dX2_sortsOf_1 f_2_9 rfl rfl ?_
  refine e_iload_n (pc := 4) dX2_sortsOf_4 rfl ?_
  first | refine e_ialdN (pc := 5) dX2_sortsOf_5 rfl (by omega) (by decide) ?_ | refine e_iald (pc := 5) dX2_sortsOf_5 rfl (by assumption) ?_
  refine e_aload_n (pc := 6) dX2_sortsOf_6 rfl ?_
  refine e_getA (pc := 7) dX2_sortsOf_7 f_2_9 rfl rfl ?_
  refine e_iload_n (pc := 10) dX2_sortsOf_10 rfl ?_
  first | refine e_ialdN (pc := 11) dX2_sortsOf_11 rfl (by omega) (by decide) ?_ | refine e_iald (pc := 11) dX2_sortsOf_11 rfl (by assumption) ?_
  refine e_iconst (pc := 12) (v := 1) dX2_sortsOf_12 (by decide) ?_
  refine e_ishr (pc := 13) dX2_sortsOf_13 ?_
  refine e_ior (pc := 14) dX2_sortsOf_14 ?_
  refine e_bipush (pc := 15) (v := 85) dX2_sortsOf_15 (by decide) ?_
  refine e_iand (pc := 17) dX2_sortsOf_17 ?_
  refine e_stat1i (pc := 18) dX2_sortsOf_18 cs_X2_sortsOf_40 st_J_bit rfl (by decide) (Nat.le_of_ble_eq_true rfl) (ev_J_bit _ _) ?_
  refine r_iret (pc := 21) dX2_sortsOf_21 rfl ?_
  exact rt_i (by rw [s_so_g hg e2, ← g_bit g hg, e1])
set_option maxHeartbeats 1000000 in
theorem ev_X2_canTake {hn : Nat} {M N : cr_M} {k s : Nat} (w : Int32) (hR : r_H hn M N) (hk : k < hn) (hs : s < 4) : cr_EvM Y_X2_canTake [.inr (.inr 0), .inl (nI k), .inl (nI s), .inl w] M (some (.inl (bI (s_cT N k s w))), M) := by
  obtain ⟨h10, hsz, hall⟩ := hR
  obtain ⟨⟨g, hg, e1, e2⟩, e3, -, e5, e6, -⟩ := hall k hk
  have eg : (M 1 k >>> (2 * nI s &&& 31)) &&& 3 = N 4 (4 * k + s) := by rw [e1, g_get g hg s hs, e2 s hs]
  have hlt : nI k < M 0 0 := by rw [hsz]; exact nI_lt hk (by omega)
  have hp : ¬ nI k < 0 := nI_pos (by omega)
  have e7 : (¬ N 24 k = 0) ↔ M 5 k = 3 := by rw [e6, bI_eq0]; exact Classical.not_not
  unfold s_cT
  refine e_iload_n (pc := 0) dX2_canTake_0 rfl ?_
  refine e_if_lt (pc := 1) (tgt := 27) dX2_canTake_1 (by decide) (fun hc_1 => ?_) (fun hc_1 => ?_)
  · refine e_iconst (pc := 27) (v := 0) dX2_canTake_27 (by decide) ?_
    refine r_zret (pc := 28) dX2_canTake_28 rfl (by first | exact Or.inl rfl | exact Or.inr rfl | exact bI_01 _ | assumption) ?_
    first | exact rt_t (by grind) | exact rt_f (by grind)
  · refine e_iload_n (pc := 4) dX2_canTake_4 rfl ?_
    refine e_aload_n (pc := 5) dX2_canTake_5 rfl ?_
    refine e_getI (pc := 6) dX2_canTake_6 f_2_36 rfl rfl ?_
    refine e_icmp_ge (pc := 9) (tgt := 27) dX2_canTake_9 (by decide) (fun hc_9 => ?_) (fun hc_9 => ?_)
    · refine e_iconst (pc := 27) (v := 0) dX2_canTake_27 (by decide) ?_
      refine r_zret (pc := 28) dX2_canTake_28 rfl (by first | exact Or.inl rfl | exact Or.inr rfl | exact bI_01 _ | assumption) ?_
      first | exact rt_t (by grind) | exact rt_f (by grind)
    · refine e_aload_n (pc := 12) dX2_canTake_12 rfl ?_
      refine e_getA (pc := 13) dX2_canTake_13 f_2_9 rfl rfl ?_
      refine e_iload_n (pc := 16) dX2_canTake_16 rfl ?_
      first | refine e_ialdN (pc := 17) dX2_canTake_17 rfl (by omega) (by decide) ?_ | refine e_iald (pc := 17) dX2_canTake_17 rfl (by assumption) ?_
      refine e_iconst (pc := 18) (v := 2) dX2_canTake_18 (by decide) ?_
      refine e_iload_n (pc := 19) dX2_canTake_19 rfl ?_
      refine e_imul (pc := 20) dX2_canTake_20 ?_
      refine e_ishr (pc := 21) dX2_canTake_21 ?_
      refine e_iconst (pc := 22) (v := 3) dX2_canTake_22 (by decide) ?_
      refine e_iand (pc := 23) dX2_canTake_23 ?_
      refine e_if_ne (pc := 24) (tgt := 29) dX2_canTake_24 (by decide) (fun hc_24 => ?_) (fun hc_24 => ?_)
      · refine e_aload_n (pc := 29) dX2_canTake_29 rfl ?_
        refine e_getA (pc := 30) dX2_canTake_30 f_2_15 rfl rfl ?_
        refine e_iload_n (pc := 33) dX2_canTake_33 rfl ?_
        first | refine e_ialdN (pc := 34) dX2_canTake_34 rfl (by omega) (by decide) ?_ | refine e_iald (pc := 34) dX2_canTake_34 rfl (by assumption) ?_
        refine e_iconst (pc := 35) (v := 1) dX2_canTake_35 (by decide) ?_
        refine e_icmp_ne (pc := 36) (tgt := 41) dX2_canTake_36 (by decide) (fun hc_36 => ?_) (fun hc_36 => ?_)
        · refine e_iload_n (pc := 41) dX2_canTake_41 rfl ?_
          refine e_if_eq (pc := 42) (tgt := 79) dX2_canTake_42 (by decide) (fun hc_42 => ?_) (fun hc_42 => ?_)
          · refine e_iconst (pc := 79) (v := 0) dX2_canTake_79 (by decide) ?_
            refine r_zret (pc := 80) dX2_canTake_80 rfl (by first | exact Or.inl rfl | exact Or.inr rfl | exact bI_01 _ | assumption) ?_
            first | exact rt_t (by grind) | exact rt_f (by grind)
          · refine e_aload_n (pc := 45) dX2_canTake_45 rfl ?_
            refine e_getA (pc := 46) dX2_canTake_46 f_2_15 rfl rfl ?_
            refine e_iload_n (pc := 49) dX2_canTake_49 rfl ?_
            first | refine e_ialdN (pc := 50) dX2_canTake_50 rfl (by omega) (by decide) ?_ | refine e_iald (pc := 50) dX2_canTake_50 rfl (by assumption) ?_
            refine e_iconst (pc := 51) (v := 2) dX2_canTake_51 (by decide) ?_
            refine e_icmp_ne (pc := 52) (tgt := 79) dX2_canTake_52 (by decide) (fun hc_52 => ?_) (fun hc_52 => ?_)
            · refine e_iconst (pc := 79) (v := 0) dX2_canTake_79 (by decide) ?_
              refine r_zret (pc := 80) dX2_canTake_80 rfl (by first | exact Or.inl rfl | exact Or.inr rfl | exact bI_01 _ | assumption) ?_
              first | exact rt_t (by grind) | exact rt_f (by grind)
            · refine e_aload_n (pc := 55) dX2_canTake_55 rfl ?_
              refine e_getA (pc := 56) dX2_canTake_56 f_2_24 rfl rfl ?_
              refine e_iload_n (pc := 59) dX2_canTake_59 rfl ?_
              first | refine e_ialdN (pc := 60) dX2_canTake_60 rfl (by omega) (by decide) ?_ | refine e_iald (pc := 60) dX2_canTake_60 rfl (by assumption) ?_
              refine e_iconst (pc := 61) (v := 3) dX2_canTake_61 (by decide) ?_
              refine e_icmp_ne (pc := 62) (tgt := 79) dX2_canTake_62 (by decide) (fun hc_62 => ?_) (fun hc_62 => ?_)
              · refine e_iconst (pc := 79) (v := 0) dX2_canTake_79 (by decide) ?_
                refine r_zret (pc := 80) dX2_canTake_80 rfl (by first | exact Or.inl rfl | exact Or.inr rfl | exact bI_01 _ | assumption) ?_
                first | exact rt_t (by grind) | exact rt_f (by grind)
              · refine e_aload_n (pc := 65) dX2_canTake_65 rfl ?_
                refine e_getA (pc := 66) dX2_canTake_66 f_2_21 rfl rfl ?_
                refine e_iload_n (pc := 69) dX2_canTake_69 rfl ?_
                first | refine e_ialdN (pc := 70) dX2_canTake_70 rfl (by omega) (by decide) ?_ | refine e_iald (pc := 70) dX2_canTake_70 rfl (by assumption) ?_
                refine e_iconst (pc := 71) (v := 3) dX2_canTake_71 (by decide) ?_
                refine e_icmp_ge (pc := 72) (tgt := 79) dX2_canTake_72 (by decide) (fun hc_72 => ?_) (fun hc_72 => ?_)
                · refine e_iconst (pc := 79) (v := 0) dX2_canTake_79 (by decide) ?_
                  refine r_zret (pc := 80) dX2_canTake_80 rfl (by first | exact Or.inl rfl | exact Or.inr rfl | exact bI_01 _ | assumption) ?_
                  first | exact rt_t (by grind) | exact rt_f (by grind)
                · refine e_iconst (pc := 75) (v := 1) dX2_canTake_75 (by decide) ?_
                  refine e_goto (pc := 76) (tgt := 80) dX2_canTake_76 (by decide) ?_
                  refine r_zret (pc := 80) dX2_canTake_80 rfl (by first | exact Or.inl rfl | exact Or.inr rfl | exact bI_01 _ | assumption) ?_
                  first | exact rt_t (by grind) | exact rt_f (by grind)
        · refine e_iconst (pc := 39) (v := 1) dX2_canTake_39 (by decide) ?_
          refine r_zret (pc := 40) dX2_canTake_40 rfl (by first | exact Or.inl rfl | exact Or.inr rfl | exact bI_01 _ | assumption) ?_
          first | exact rt_t (by grind) | exact rt_f (by grind)
      · refine e_iconst (pc := 27) (v := 0) dX2_canTake_27 (by decide) ?_
        refine r_zret (pc := 28) dX2_canTake_28 rfl (by first | exact Or.inl rfl | exact Or.inr rfl | exact bI_01 _ | assumption) ?_
        first | exact rt_t (by grind) | exact rt_f (by grind)
set_option maxHeartbeats 1000000 in
theorem ev_X2_canTake0 (M : cr_M) (h s w : Int32) (hh : h < 0) : cr_EvM Y_X2_canTake [.inr (.inr 0), .inl h, .inl s, .inl w] M (some (.inl 0), M) := by
  refine e_iload_n (pc := 0) dX2_canTake_0 rfl ?_
  refine e_if_lt (pc := 1) (tgt := 27) dX2_canTake_1 (by decide) (fun hc_1 => ?_) (fun hc_1 => ?_)
  · refine e_iconst (pc := 27) (v := 0) dX2_canTake_27 (by decide) ?_
    refine r_zret (pc := 28) dX2_canTake_28 rfl (by first | exact Or.inl rfl | exact Or.inr rfl | exact bI_01 _ | assumption) ?_
    rfl
  · exact absurd hh (by assumption)
set_option maxHeartbeats 1000000 in
theorem lp_X2_someCanTake {hn : Nat} {M N : cr_M} {s : Nat} (w : Int32) (hR : r_H hn M N) (hs : s < 4) : ∀ (n j : Nat), j + n = hn → (∀ i, i < j → ¬ s_cT N i s w) → cr_Ev Y_X2_someCanTake 2 [(3, .inl (nI j)), (0, .inr (.inr 0)), (1, .inl (nI s)), (2, .inl w)] [] M (some (.inl (bI (∃ i, i < hn ∧ s_cT N i s w))), M) := by
  have h10 := hR.1
  have hsz := hR.2.1
  intro n
  induction n with
  | zero =>
    intro j hj hq
    refine e_iload_n (pc := 2) dX2_someCanTake_2 rfl ?_
    refine e_aload_n (pc := 3) dX2_someCanTake_3 rfl ?_
    refine e_getI (pc := 4) dX2_someCanTake_4 f_2_36 rfl rfl ?_
    refine e_icmp_ge (pc := 7) (tgt := 28) dX2_someCanTake_7 (by decide) (fun hc_7 => ?_) (fun hc_7 => ?_)
    · refine e_iconst (pc := 28) (v := 0) dX2_someCanTake_28 (by decide) ?_
      refine r_zret (pc := 29) dX2_someCanTake_29 rfl (by first | exact Or.inl rfl | exact Or.inr rfl | exact bI_01 _ | assumption) ?_
      exact rt_f (by rintro ⟨i, hi, hc⟩; exact hq i (by omega) hc)
    · exact absurd (show M 0 0 ≤ nI j by rw [hsz]; exact nI_le (by omega) (by omega)) (by assumption)
  | succ n ih =>
    intro j hj hq
    refine e_iload_n (pc := 2) dX2_someCanTake_2 rfl ?_
    refine e_aload_n (pc := 3) dX2_someCanTake_3 rfl ?_
    refine e_getI (pc := 4) dX2_someCanTake_4 f_2_36 rfl rfl ?_
    refine e_icmp_ge (pc := 7) (tgt := 28) dX2_someCanTake_7 (by decide) (fun hc_7 => ?_) (fun hc_7 => ?_)
    · exact absurd (show M 0 0 ≤ nI j by assumption) (by rw [hsz]; exact nI_ge (by omega) (by omega))
    · refine e_aload_n (pc := 10) dX2_someCanTake_10 rfl ?_
      refine e_iload_n (pc := 11) dX2_someCanTake_11 rfl ?_
      refine e_iload_n (pc := 12) dX2_someCanTake_12 rfl ?_
      refine e_iload_n (pc := 13) dX2_someCanTake_13 rfl ?_
      refine e_self3i (pc := 14) dX2_someCanTake_14 cs_X2_someCanTake_46 cv_X2_canTake rc_X2_canTake rfl (by decide) (Nat.le_of_ble_eq_true rfl) (ev_X2_canTake w hR (by omega) hs) ?_
      refine e_if_eq (pc := 17) (tgt := 22) dX2_someCanTake_17 (by decide) (fun hc_17 => ?_) (fun hc_17 => ?_)
      · first | refine e_iinc1 (pc := 22) dX2_someCanTake_22 rfl (by decide) ?_ | refine e_iincp (pc := 22) dX2_someCanTake_22 rfl (by decide) ?_
        refine e_goto (pc := 25) (tgt := 2) dX2_someCanTake_25 (by decide) ?_
        exact e_wk (ih (j + 1) (by omega) (fun i hi => by grind [bI_eq0])) ⟨rfl, rfl, rfl, rfl, trivial⟩
      · refine e_iconst (pc := 20) (v := 1) dX2_someCanTake_20 (by decide) ?_
        refine r_zret (pc := 21) dX2_someCanTake_21 rfl (by first | exact Or.inl rfl | exact Or.inr rfl | exact bI_01 _ | assumption) ?_
        exact rt_t ⟨j, by omega, by grind [bI_eq0]⟩
set_option maxHeartbeats 1000000 in
theorem ev_X2_someCanTake {hn : Nat} {M N : cr_M} {s : Nat} (w : Int32) (hR : r_H hn M N) (hs : s < 4) : cr_EvM Y_X2_someCanTake [.inr (.inr 0), .inl (nI s), .inl w] M (some (.inl (bI (∃ i, i < hn ∧ s_cT N i s w))), M) := by
  refine e_iconst (pc := 0) (v := 0) dX2_someCanTake_0 (by decide) ?_
  refine e_istore_n (pc := 1) dX2_someCanTake_1 (by decide) ?_
  exact e_wk (lp_X2_someCanTake w hR hs hn 0 (by omega) (fun i hi => absurd hi (Nat.not_lt_zero _))) ⟨rfl, rfl, rfl, rfl, trivial⟩
set_option maxHeartbeats 1000000 in
theorem lp_X2_someInHasGrade {hn : Nat} {M N : cr_M} {s : Nat} (hR : r_H hn M N) (hs : s < 4) : ∀ (n j : Nat), j + n = hn → (∀ i, i < j → ¬ (¬ N 5 i = 0 ∧ 0 < N 4 (4 * i + s))) → cr_Ev Y_X2_someInHasGrade 2 [(2, .inl (nI j)), (0, .inr (.inr 0)), (1, .inl (nI s))] [] M (some (.inl (bI (∃ i, i < hn ∧ ¬ N 5 i = 0 ∧ 0 < N 4 (4 * i + s)))), M) := by
  have h10 := hR.1
  have hsz := hR.2.1
  intro n
  induction n with
  | zero =>
    intro j hj hq
    refine e_iload_n (pc := 2) dX2_someInHasGrade_2 rfl ?_
    refine e_aload_n (pc := 3) dX2_someInHasGrade_3 rfl ?_
    refine e_getI (pc := 4) dX2_someInHasGrade_4 f_2_36 rfl rfl ?_
    refine e_icmp_ge (pc := 7) (tgt := 36) dX2_someInHasGrade_7 (by decide) (fun hc_7 => ?_) (fun hc_7 => ?_)
    · refine e_iconst (pc := 36) (v := 0) dX2_someInHasGrade_36 (by decide) ?_
      refine r_zret (pc := 37) dX2_someInHasGrade_37 rfl (by first | exact Or.inl rfl | exact Or.inr rfl | exact bI_01 _ | assumption) ?_
      exact rt_f (by rintro ⟨i, hi, hc⟩; exact hq i (by omega) hc)
    · exact absurd (show M 0 0 ≤ nI j by rw [hsz]; exact nI_le (by omega) (by omega)) (by assumption)
  | succ n ih =>
    intro j hj hq
    refine e_iload_n (pc := 2) dX2_someInHasGrade_2 rfl ?_
    refine e_aload_n (pc := 3) dX2_someInHasGrade_3 rfl ?_
    refine e_getI (pc := 4) dX2_someInHasGrade_4 f_2_36 rfl rfl ?_
    refine e_icmp_ge (pc := 7) (tgt := 36) dX2_someInHasGrade_7 (by decide) (fun hc_7 => ?_) (fun hc_7 => ?_)
    · exact absurd (show M 0 0 ≤ nI j by assumption) (by rw [hsz]; exact nI_ge (by omega) (by omega))
    · refine e_aload_n (pc := 10) dX2_someInHasGrade_10 rfl ?_
      refine e_getA (pc := 11) dX2_someInHasGrade_11 f_2_15 rfl rfl ?_
      refine e_iload_n (pc := 14) dX2_someInHasGrade_14 rfl ?_
      first | refine e_ialdN (pc := 15) dX2_someInHasGrade_15 rfl (by omega) (by decide) ?_ | refine e_iald (pc := 15) dX2_someInHasGrade_15 rfl (by assumption) ?_
      refine e_if_eq (pc := 16) (tgt := 30) dX2_someInHasGrade_16 (by decide) (fun hc_16 => ?_) (fun hc_16 => ?_)
      · first | refine e_iinc1 (pc := 30) dX2_someInHasGrade_30 rfl (by decide) ?_ | refine e_iincp (pc := 30) dX2_someInHasGrade_30 rfl (by decide) ?_
        refine e_goto (pc := 33) (tgt := 2) dX2_someInHasGrade_33 (by decide) ?_
        exact e_wk (ih (j + 1) (by omega) (fun i hi => by have q := (hR.2.2 j (by omega)).2.1; grind)) ⟨rfl, rfl, rfl, trivial⟩
      · refine e_aload_n (pc := 19) dX2_someInHasGrade_19 rfl ?_
        refine e_iload_n (pc := 20) dX2_someInHasGrade_20 rfl ?_
        refine e_iload_n (pc := 21) dX2_someInHasGrade_21 rfl ?_
        refine e_self2i (pc := 22) dX2_someInHasGrade_22 cs_X2_someInHasGrade_50 cv_X2_gradeFor rc_X2_gradeFor rfl (by decide) (Nat.le_of_ble_eq_true rfl) (ev_X2_gradeForN hR (by omega) hs) ?_
        refine e_if_le (pc := 25) (tgt := 30) dX2_someInHasGrade_25 (by decide) (fun hc_25 => ?_) (fun hc_25 => ?_)
        · first | refine e_iinc1 (pc := 30) dX2_someInHasGrade_30 rfl (by decide) ?_ | refine e_iincp (pc := 30) dX2_someInHasGrade_30 rfl (by decide) ?_
          refine e_goto (pc := 33) (tgt := 2) dX2_someInHasGrade_33 (by decide) ?_
          exact e_wk (ih (j + 1) (by omega) (fun i hi => by have q := (hR.2.2 j (by omega)).2.1; grind)) ⟨rfl, rfl, rfl, trivial⟩
        · refine e_iconst (pc := 28) (v := 1) dX2_someInHasGrade_28 (by decide) ?_
          refine r_zret (pc := 29) dX2_someInHasGrade_29 rfl (by first | exact Or.inl rfl | exact Or.inr rfl | exact bI_01 _ | assumption) ?_
          exact rt_t ⟨j, by omega, by have q := (hR.2.2 j (by omega)).2.1; grind⟩
set_option maxHeartbeats 1000000 in
theorem ev_X2_someInHasGrade {hn : Nat} {M N : cr_M} {s : Nat} (hR : r_H hn M N) (hs : s < 4) : cr_EvM Y_X2_someInHasGrade [.inr (.inr 0), .inl (nI s)] M (some (.inl (bI (∃ i, i < hn ∧ ¬ N 5 i = 0 ∧ 0 < N 4 (4 * i + s)))), M) := by
  refine e_iconst (pc := 0) (v := 0) dX2_someInHasGrade_0 (by decide) ?_
  refine e_istore_n (pc := 1) dX2_someInHasGrade_1 (by decide) ?_
  exact e_wk (lp_X2_someInHasGrade hR hs hn 0 (by omega) (fun i hi => absurd hi (Nat.not_lt_zero _))) ⟨rfl, rfl, rfl, trivial⟩
set_option maxHeartbeats 1000000 in
theorem ev_X2_isBetter {hn : Nat} {M N : cr_M} {h p s : Nat} (hR : r_H hn M N) (hh : h < hn) (hp : p < hn) (hs : s < 4) : cr_EvM Y_X2_isBetter [.inr (.inr 0), .inl (nI h), .inl (nI p), .inl (nI s)] M (some (.inl (bI (s_ah N s h p))), M) := by
  have h10 := hR.1
  obtain ⟨⟨g, hg, -, a2⟩, a3, a4, -⟩ := hR.2.2 h hh
  obtain ⟨⟨g', hg', -, b2⟩, b3, b4, -⟩ := hR.2.2 p hp
  have q1 := g_sub4 (g / 4 ^ s % 4) (Nat.mod_lt _ (by omega)) (g' / 4 ^ s % 4) (Nat.mod_lt _ (by omega))
  rw [← a2 s hs, ← b2 s hs] at q1
  have q2 := g_sub5 (g_cnt g) (g_cnt5 g hg) (g_cnt g') (g_cnt5 g' hg')
  rw [← s_so_g hg a2, ← s_so_g hg' b2] at q2
  unfold s_ah
  refine e_aload_n (pc := 0) dX2_isBetter_0 rfl ?_
  refine e_iload_n (pc := 1) dX2_isBetter_1 rfl ?_
  refine e_iload_n (pc := 2) dX2_isBetter_2 rfl ?_
  refine e_self2i (pc := 3) dX2_isBetter_3 cs_X2_isBetter_50 cv_X2_gradeFor rc_X2_gradeFor rfl (by decide) (Nat.le_of_ble_eq_true rfl) (ev_X2_gradeForN hR (by assumption) hs) ?_
  refine e_aload_n (pc := 6) dX2_isBetter_6 rfl ?_
  refine e_iload_n (pc := 7) dX2_isBetter_7 rfl ?_
  refine e_iload_n (pc := 8) dX2_isBetter_8 rfl ?_
  refine e_self2i (pc := 9) dX2_isBetter_9 cs_X2_isBetter_50 cv_X2_gradeFor rc_X2_gradeFor rfl (by decide) (Nat.le_of_ble_eq_true rfl) (ev_X2_gradeForN hR (by assumption) hs) ?_
  refine e_isub (pc := 12) dX2_isBetter_12 ?_
  refine e_istore (pc := 13) dX2_isBetter_13 (by decide) ?_
  refine e_iload (pc := 15) dX2_isBetter_15 rfl ?_
  refine e_if_eq (pc := 17) (tgt := 31) dX2_isBetter_17 (by decide) (fun hc_17 => ?_) (fun hc_17 => ?_)
  · refine e_aload_n (pc := 31) dX2_isBetter_31 rfl ?_
    refine e_iload_n (pc := 32) dX2_isBetter_32 rfl ?_
    refine e_self1i (pc := 33) dX2_isBetter_33 cs_X2_isBetter_54 cv_X2_sortsOf rc_X2_sortsOf rfl (by decide) (Nat.le_of_ble_eq_true rfl) (ev_X2_sortsOf hR (by assumption)) ?_
    refine e_aload_n (pc := 36) dX2_isBetter_36 rfl ?_
    refine e_iload_n (pc := 37) dX2_isBetter_37 rfl ?_
    refine e_self1i (pc := 38) dX2_isBetter_38 cs_X2_isBetter_54 cv_X2_sortsOf rc_X2_sortsOf rfl (by decide) (Nat.le_of_ble_eq_true rfl) (ev_X2_sortsOf hR (by assumption)) ?_
    refine e_isub (pc := 41) dX2_isBetter_41 ?_
    refine e_istore (pc := 42) dX2_isBetter_42 (by decide) ?_
    refine e_iload (pc := 44) dX2_isBetter_44 rfl ?_
    refine e_if_eq (pc := 46) (tgt := 60) dX2_isBetter_46 (by decide) (fun hc_46 => ?_) (fun hc_46 => ?_)
    · refine e_aload_n (pc := 60) dX2_isBetter_60 rfl ?_
      refine e_getA (pc := 61) dX2_isBetter_61 f_2_15 rfl rfl ?_
      refine e_iload_n (pc := 64) dX2_isBetter_64 rfl ?_
      first | refine e_ialdN (pc := 65) dX2_isBetter_65 rfl (by omega) (by decide) ?_ | refine e_iald (pc := 65) dX2_isBetter_65 rfl (by assumption) ?_
      refine e_aload_n (pc := 66) dX2_isBetter_66 rfl ?_
      refine e_getA (pc := 67) dX2_isBetter_67 f_2_15 rfl rfl ?_
      refine e_iload_n (pc := 70) dX2_isBetter_70 rfl ?_
      first | refine e_ialdN (pc := 71) dX2_isBetter_71 rfl (by omega) (by decide) ?_ | refine e_iald (pc := 71) dX2_isBetter_71 rfl (by assumption) ?_
      refine e_icmp_eq (pc := 72) (tgt := 91) dX2_isBetter_72 (by decide) (fun hc_72 => ?_) (fun hc_72 => ?_)
      · refine e_aload_n (pc := 91) dX2_isBetter_91 rfl ?_
        refine e_getA (pc := 92) dX2_isBetter_92 f_2_18 rfl rfl ?_
        refine e_iload_n (pc := 95) dX2_isBetter_95 rfl ?_
        first | refine e_ialdN (pc := 96) dX2_isBetter_96 rfl (by omega) (by decide) ?_ | refine e_iald (pc := 96) dX2_isBetter_96 rfl (by assumption) ?_
        refine e_aload_n (pc := 97) dX2_isBetter_97 rfl ?_
        refine e_getA (pc := 98) dX2_isBetter_98 f_2_18 rfl rfl ?_
        refine e_iload_n (pc := 101) dX2_isBetter_101 rfl ?_
        first | refine e_ialdN (pc := 102) dX2_isBetter_102 rfl (by omega) (by decide) ?_ | refine e_iald (pc := 102) dX2_isBetter_102 rfl (by assumption) ?_
        refine e_icmp_ge (pc := 103) (tgt := 110) dX2_isBetter_103 (by decide) (fun hc_103 => ?_) (fun hc_103 => ?_)
        · refine e_iconst (pc := 110) (v := 0) dX2_isBetter_110 (by decide) ?_
          refine r_zret (pc := 111) dX2_isBetter_111 rfl (by first | exact Or.inl rfl | exact Or.inr rfl | exact bI_01 _ | assumption) ?_
          first | exact rt_t (by grind) | exact rt_f (by grind)
        · refine e_iconst (pc := 106) (v := 1) dX2_isBetter_106 (by decide) ?_
          refine e_goto (pc := 107) (tgt := 111) dX2_isBetter_107 (by decide) ?_
          refine r_zret (pc := 111) dX2_isBetter_111 rfl (by first | exact Or.inl rfl | exact Or.inr rfl | exact bI_01 _ | assumption) ?_
          first | exact rt_t (by grind) | exact rt_f (by grind)
      · refine e_aload_n (pc := 75) dX2_isBetter_75 rfl ?_
        refine e_getA (pc := 76) dX2_isBetter_76 f_2_15 rfl rfl ?_
        refine e_iload_n (pc := 79) dX2_isBetter_79 rfl ?_
        first | refine e_ialdN (pc := 80) dX2_isBetter_80 rfl (by omega) (by decide) ?_ | refine e_iald (pc := 80) dX2_isBetter_80 rfl (by assumption) ?_
        refine e_iconst (pc := 81) (v := 1) dX2_isBetter_81 (by decide) ?_
        refine e_icmp_ne (pc := 82) (tgt := 89) dX2_isBetter_82 (by decide) (fun hc_82 => ?_) (fun hc_82 => ?_)
        · refine e_iconst (pc := 89) (v := 0) dX2_isBetter_89 (by decide) ?_
          refine r_zret (pc := 90) dX2_isBetter_90 rfl (by first | exact Or.inl rfl | exact Or.inr rfl | exact bI_01 _ | assumption) ?_
          first | exact rt_t (by grind) | exact rt_f (by grind)
        · refine e_iconst (pc := 85) (v := 1) dX2_isBetter_85 (by decide) ?_
          refine e_goto (pc := 86) (tgt := 90) dX2_isBetter_86 (by decide) ?_
          refine r_zret (pc := 90) dX2_isBetter_90 rfl (by first | exact Or.inl rfl | exact Or.inr rfl | exact bI_01 _ | assumption) ?_
          first | exact rt_t (by grind) | exact rt_f (by grind)
    · refine e_iload (pc := 49) dX2_isBetter_49 rfl ?_
      refine e_if_ge (pc := 51) (tgt := 58) dX2_isBetter_51 (by decide) (fun hc_51 => ?_) (fun hc_51 => ?_)
      · refine e_iconst (pc := 58) (v := 0) dX2_isBetter_58 (by decide) ?_
        refine r_zret (pc := 59) dX2_isBetter_59 rfl (by first | exact Or.inl rfl | exact Or.inr rfl | exact bI_01 _ | assumption) ?_
        first | exact rt_t (by grind) | exact rt_f (by grind)
      · refine e_iconst (pc := 54) (v := 1) dX2_isBetter_54 (by decide) ?_
        refine e_goto (pc := 55) (tgt := 59) dX2_isBetter_55 (by decide) ?_
        refine r_zret (pc := 59) dX2_isBetter_59 rfl (by first | exact Or.inl rfl | exact Or.inr rfl | exact bI_01 _ | assumption) ?_
        first | exact rt_t (by grind) | exact rt_f (by grind)
  · refine e_iload (pc := 20) dX2_isBetter_20 rfl ?_
    refine e_if_le (pc := 22) (tgt := 29) dX2_isBetter_22 (by decide) (fun hc_22 => ?_) (fun hc_22 => ?_)
    · refine e_iconst (pc := 29) (v := 0) dX2_isBetter_29 (by decide) ?_
      refine r_zret (pc := 30) dX2_isBetter_30 rfl (by first | exact Or.inl rfl | exact Or.inr rfl | exact bI_01 _ | assumption) ?_
      first | exact rt_t (by grind) | exact rt_f (by grind)
    · refine e_iconst (pc := 25) (v := 1) dX2_isBetter_25 (by decide) ?_
      refine e_goto (pc := 26) (tgt := 30) dX2_isBetter_26 (by decide) ?_
      refine r_zret (pc := 30) dX2_isBetter_30 rfl (by first | exact Or.inl rfl | exact Or.inr rfl | exact bI_01 _ | assumption) ?_
      first | exact rt_t (by grind) | exact rt_f (by grind)
set_option maxHeartbeats 1000000 in
theorem ev_X2_take (M : cr_M) {k : Nat} (w t : Int32) (hk : k < 10) : cr_EvM Y_X2_take [.inr (.inr 0), .inl (nI k), .inl w, .inl t] M (none, h_take M k w t) := by
  refine e_aload_n (pc := 0) dX2_take_0 rfl ?_
  refine e_getA (pc := 1) dX2_take_1 f_2_21 rfl rfl ?_
  refine e_iload_n (pc := 4) dX2_take_4 rfl ?_
  refine e_dup2 (pc := 5) dX2_take_5 ?_
  first | refine e_ialdN (pc := 6) dX2_take_6 rfl (by omega) (by decide) ?_ | refine e_iald (pc := 6) dX2_take_6 rfl (by assumption) ?_
  refine e_iconst (pc := 7) (v := 1) dX2_take_7 (by decide) ?_
  refine e_iadd (pc := 8) dX2_take_8 ?_
  first | refine e_iastN (pc := 9) dX2_take_9 rfl (by omega) (by decide) ?_ | refine e_iast (pc := 9) dX2_take_9 rfl (by assumption) ?_
  refine e_aload_n (pc := 10) dX2_take_10 rfl ?_
  refine e_getA (pc := 11) dX2_take_11 f_2_24 rfl rfl ?_
  refine e_iload_n (pc := 14) dX2_take_14 rfl ?_
  refine e_iload_n (pc := 15) dX2_take_15 rfl ?_
  first | refine e_iastN (pc := 16) dX2_take_16 rfl (by omega) (by decide) ?_ | refine e_iast (pc := 16) dX2_take_16 rfl (by assumption) ?_
  refine e_aload_n (pc := 17) dX2_take_17 rfl ?_
  refine e_iload_n (pc := 18) dX2_take_18 rfl ?_
  refine e_iconst (pc := 19) (v := 2) dX2_take_19 (by decide) ?_
  refine e_iload_n (pc := 20) dX2_take_20 rfl ?_
  refine e_self3v (pc := 21) dX2_take_21 cs_X2_take_57 cv_X2_become rc_X2_become rfl (by decide) (Nat.le_of_ble_eq_true rfl) (ev_X2_become _ _ _ hk) ?_
  refine r_vret (pc := 24) dX2_take_24 rfl ?_
  rfl
set_option maxHeartbeats 1000000 in
theorem ev_X2_letGo (M : cr_M) {hn k : Nat} (t : Int32) (hsz : M 0 0 = nI hn) (h10 : hn ≤ 10) (hk : k < hn) : cr_EvM Y_X2_letGo [.inr (.inr 0), .inl (nI k), .inl t] M (none, h_let M k t) := by
  refine e_aload_n (pc := 0) dX2_letGo_0 rfl ?_
  refine e_iload_n (pc := 1) dX2_letGo_1 rfl ?_
  refine e_self1i (pc := 2) dX2_letGo_2 cs_X2_letGo_61 cv_X2_has rc_X2_has rfl (by decide) (Nat.le_of_ble_eq_true rfl) (ev_X2_has _ _) ?_
  refine e_if_ne (pc := 5) (tgt := 9) dX2_letGo_5 (by decide) (fun hc_5 => ?_) (fun hc_5 => ?_)
  · refine e_aload_n (pc := 9) dX2_letGo_9 rfl ?_
    refine e_getA (pc := 10) dX2_letGo_10 f_2_21 rfl rfl ?_
    refine e_iload_n (pc := 13) dX2_letGo_13 rfl ?_
    refine e_dup2 (pc := 14) dX2_letGo_14 ?_
    first | refine e_ialdN (pc := 15) dX2_letGo_15 rfl (by omega) (by decide) ?_ | refine e_iald (pc := 15) dX2_letGo_15 rfl (by assumption) ?_
    refine e_iconst (pc := 16) (v := 1) dX2_letGo_16 (by decide) ?_
    refine e_isub (pc := 17) dX2_letGo_17 ?_
    first | refine e_iastN (pc := 18) dX2_letGo_18 rfl (by omega) (by decide) ?_ | refine e_iast (pc := 18) dX2_letGo_18 rfl (by assumption) ?_
    refine e_aload_n (pc := 19) dX2_letGo_19 rfl ?_
    refine e_iload_n (pc := 20) dX2_letGo_20 rfl ?_
    refine e_aload_n (pc := 21) dX2_letGo_21 rfl ?_
    refine e_getA (pc := 22) dX2_letGo_22 f_2_21 rfl rfl ?_
    refine e_iload_n (pc := 25) dX2_letGo_25 rfl ?_
    first | refine e_ialdN (pc := 26) dX2_letGo_26 rfl (by omega) (by decide) ?_ | refine e_iald (pc := 26) dX2_letGo_26 rfl (by assumption) ?_
    refine e_if_le (pc := 27) (tgt := 34) dX2_letGo_27 (by decide) (fun hc_27 => ?_) (fun hc_27 => ?_)
    · refine e_iconst (pc := 34) (v := 1) dX2_letGo_34 (by decide) ?_
      refine e_iload_n (pc := 35) dX2_letGo_35 rfl ?_
      refine e_self3v (pc := 36) dX2_letGo_36 cs_X2_letGo_57 cv_X2_become rc_X2_become rfl (by decide) (Nat.le_of_ble_eq_true rfl) (ev_X2_become _ _ _ (by omega)) ?_
      refine r_vret (pc := 39) dX2_letGo_39 rfl ?_
      unfold h_let
      first | (rw [if_pos (by grind [cr_rd])]; done) | rw [if_neg (by grind [cr_rd])]
    · refine e_iconst (pc := 30) (v := 2) dX2_letGo_30 (by decide) ?_
      refine e_goto (pc := 31) (tgt := 35) dX2_letGo_31 (by decide) ?_
      refine e_iload_n (pc := 35) dX2_letGo_35 rfl ?_
      refine e_self3v (pc := 36) dX2_letGo_36 cs_X2_letGo_57 cv_X2_become rc_X2_become rfl (by decide) (Nat.le_of_ble_eq_true rfl) (ev_X2_become _ _ _ (by omega)) ?_
      refine r_vret (pc := 39) dX2_letGo_39 rfl ?_
      unfold h_let
      first | (rw [if_pos (by grind [cr_rd])]; done) | rw [if_neg (by grind [cr_rd])]
  · refine r_vret (pc := 8) dX2_letGo_8 rfl ?_
    have q := cr_ix_in hk (by omega)
    grind [bI_eq0]
set_option maxHeartbeats 1000000 in
theorem lp_X2_addBusyTicks {hn : Nat} {M : cr_M} {x : Int32} (hsz : M 0 0 = nI hn) (h10 : hn ≤ 10) : ∀ (n j : Nat) (Mc : cr_M), j + n = hn → (Mc = h_busy j x M) → cr_Ev Y_X2_addBusyTicks 2 [(2, .inl (nI j)), (0, .inr (.inr 0)), (1, .inl x)] [] Mc (none, h_busy hn x M) := by
  intro n
  induction n with
  | zero =>
    intro j Mc hj hM
    subst hM
    refine e_iload_n (pc := 2) dX2_addBusyTicks_2 rfl ?_
    refine e_aload_n (pc := 3) dX2_addBusyTicks_3 rfl ?_
    refine e_getI (pc := 4) dX2_addBusyTicks_4 f_2_36 rfl rfl ?_
    refine e_icmp_ge (pc := 7) (tgt := 36) dX2_addBusyTicks_7 (by decide) (fun hc_7 => ?_) (fun hc_7 => ?_)
    · refine r_vret (pc := 36) dX2_addBusyTicks_36 rfl ?_
      rw [show j = hn by omega]
    · exact absurd (show M 0 0 ≤ nI j by rw [hsz]; exact nI_le (by omega) (by omega)) (by assumption)
  | succ n ih =>
    intro j Mc hj hM
    subst hM
    refine e_iload_n (pc := 2) dX2_addBusyTicks_2 rfl ?_
    refine e_aload_n (pc := 3) dX2_addBusyTicks_3 rfl ?_
    refine e_getI (pc := 4) dX2_addBusyTicks_4 f_2_36 rfl rfl ?_
    refine e_icmp_ge (pc := 7) (tgt := 36) dX2_addBusyTicks_7 (by decide) (fun hc_7 => ?_) (fun hc_7 => ?_)
    · exact absurd (show M 0 0 ≤ nI j by assumption) (by rw [hsz]; exact nI_ge (by omega) (by omega))
    · refine e_aload_n (pc := 10) dX2_addBusyTicks_10 rfl ?_
      refine e_getA (pc := 11) dX2_addBusyTicks_11 f_2_15 rfl rfl ?_
      refine e_iload_n (pc := 14) dX2_addBusyTicks_14 rfl ?_
      first | refine e_ialdN (pc := 15) dX2_addBusyTicks_15 rfl (by omega) (by decide) ?_ | refine e_iald (pc := 15) dX2_addBusyTicks_15 rfl (by assumption) ?_
      refine e_iconst (pc := 16) (v := 2) dX2_addBusyTicks_16 (by decide) ?_
      refine e_icmp_ne (pc := 17) (tgt := 30) dX2_addBusyTicks_17 (by decide) (fun hc_17 => ?_) (fun hc_17 => ?_)
      · first | refine e_iinc1 (pc := 30) dX2_addBusyTicks_30 rfl (by decide) ?_ | refine e_iincp (pc := 30) dX2_addBusyTicks_30 rfl (by decide) ?_
        refine e_goto (pc := 33) (tgt := 2) dX2_addBusyTicks_33 (by decide) ?_
        exact e_wk (ih (j + 1) _ (by omega) (by funext q i; simp only [cr_rd, h_busy] at *; grind)) ⟨rfl, rfl, rfl, trivial⟩
      · refine e_aload_n (pc := 20) dX2_addBusyTicks_20 rfl ?_
        refine e_getA (pc := 21) dX2_addBusyTicks_21 f_2_30 rfl rfl ?_
        refine e_iload_n (pc := 24) dX2_addBusyTicks_24 rfl ?_
        refine e_dup2 (pc := 25) dX2_addBusyTicks_25 ?_
        first | refine e_ialdN (pc := 26) dX2_addBusyTicks_26 rfl (by omega) (by decide) ?_ | refine e_iald (pc := 26) dX2_addBusyTicks_26 rfl (by assumption) ?_
        refine e_iload_n (pc := 27) dX2_addBusyTicks_27 rfl ?_
        refine e_iadd (pc := 28) dX2_addBusyTicks_28 ?_
        first | refine e_iastN (pc := 29) dX2_addBusyTicks_29 rfl (by omega) (by decide) ?_ | refine e_iast (pc := 29) dX2_addBusyTicks_29 rfl (by assumption) ?_
        first | refine e_iinc1 (pc := 30) dX2_addBusyTicks_30 rfl (by decide) ?_ | refine e_iincp (pc := 30) dX2_addBusyTicks_30 rfl (by decide) ?_
        refine e_goto (pc := 33) (tgt := 2) dX2_addBusyTicks_33 (by decide) ?_
        exact e_wk (ih (j + 1) _ (by omega) (by funext q i; simp only [cr_rd, h_busy] at *; grind)) ⟨rfl, rfl, rfl, trivial⟩
set_option maxHeartbeats 1000000 in
theorem ev_X2_addBusyTicks {hn : Nat} {M : cr_M} (x : Int32) (hsz : M 0 0 = nI hn) (h10 : hn ≤ 10) : cr_EvM Y_X2_addBusyTicks [.inr (.inr 0), .inl x] M (none, h_busy hn x M) := by
  refine e_iconst (pc := 0) (v := 0) dX2_addBusyTicks_0 (by decide) ?_
  refine e_istore_n (pc := 1) dX2_addBusyTicks_1 (by decide) ?_
  exact e_wk (lp_X2_addBusyTicks hsz h10 hn 0 M (by omega) (by funext q i; simp [h_busy])) ⟨rfl, rfl, rfl, trivial⟩
set_option maxHeartbeats 1000000 in
theorem lp_X2_endBreaks {hn : Nat} {M : cr_M} {x : Int32} (hsz : M 0 0 = nI hn) (h10 : hn ≤ 10) : ∀ (n j : Nat) (Mc : cr_M), j + n = hn → (Mc = h_brk j x M) → cr_Ev Y_X2_endBreaks 2 [(2, .inl (nI j)), (0, .inr (.inr 0)), (1, .inl x)] [] Mc (none, h_brk hn x M) := by
  intro n
  induction n with
  | zero =>
    intro j Mc hj hM
    subst hM
    refine e_iload_n (pc := 2) dX2_endBreaks_2 rfl ?_
    refine e_aload_n (pc := 3) dX2_endBreaks_3 rfl ?_
    refine e_getI (pc := 4) dX2_endBreaks_4 f_2_36 rfl rfl ?_
    refine e_icmp_ge (pc := 7) (tgt := 43) dX2_endBreaks_7 (by decide) (fun hc_7 => ?_) (fun hc_7 => ?_)
    · refine r_vret (pc := 43) dX2_endBreaks_43 rfl ?_
      rw [show j = hn by omega]
    · exact absurd (show M 0 0 ≤ nI j by rw [hsz]; exact nI_le (by omega) (by omega)) (by assumption)
  | succ n ih =>
    intro j Mc hj hM
    subst hM
    refine e_iload_n (pc := 2) dX2_endBreaks_2 rfl ?_
    refine e_aload_n (pc := 3) dX2_endBreaks_3 rfl ?_
    refine e_getI (pc := 4) dX2_endBreaks_4 f_2_36 rfl rfl ?_
    refine e_icmp_ge (pc := 7) (tgt := 43) dX2_endBreaks_7 (by decide) (fun hc_7 => ?_) (fun hc_7 => ?_)
    · exact absurd (show M 0 0 ≤ nI j by assumption) (by rw [hsz]; exact nI_ge (by omega) (by omega))
    · refine e_aload_n (pc := 10) dX2_endBreaks_10 rfl ?_
      refine e_getA (pc := 11) dX2_endBreaks_11 f_2_15 rfl rfl ?_
      refine e_iload_n (pc := 14) dX2_endBreaks_14 rfl ?_
      first | refine e_ialdN (pc := 15) dX2_endBreaks_15 rfl (by omega) (by decide) ?_ | refine e_iald (pc := 15) dX2_endBreaks_15 rfl (by assumption) ?_
      refine e_iconst (pc := 16) (v := 3) dX2_endBreaks_16 (by decide) ?_
      refine e_icmp_ne (pc := 17) (tgt := 37) dX2_endBreaks_17 (by decide) (fun hc_17 => ?_) (fun hc_17 => ?_)
      · first | refine e_iinc1 (pc := 37) dX2_endBreaks_37 rfl (by decide) ?_ | refine e_iincp (pc := 37) dX2_endBreaks_37 rfl (by decide) ?_
        refine e_goto (pc := 40) (tgt := 2) dX2_endBreaks_40 (by decide) ?_
        exact e_wk (ih (j + 1) _ (by omega) (by funext q i; simp only [cr_rd, h_brk] at *; grind)) ⟨rfl, rfl, rfl, trivial⟩
      · refine e_aload_n (pc := 20) dX2_endBreaks_20 rfl ?_
        refine e_getA (pc := 21) dX2_endBreaks_21 f_2_33 rfl rfl ?_
        refine e_iload_n (pc := 24) dX2_endBreaks_24 rfl ?_
        first | refine e_ialdN (pc := 25) dX2_endBreaks_25 rfl (by omega) (by decide) ?_ | refine e_iald (pc := 25) dX2_endBreaks_25 rfl (by assumption) ?_
        refine e_iload_n (pc := 26) dX2_endBreaks_26 rfl ?_
        refine e_icmp_gt (pc := 27) (tgt := 37) dX2_endBreaks_27 (by decide) (fun hc_27 => ?_) (fun hc_27 => ?_)
        · first | refine e_iinc1 (pc := 37) dX2_endBreaks_37 rfl (by decide) ?_ | refine e_iincp (pc := 37) dX2_endBreaks_37 rfl (by decide) ?_
          refine e_goto (pc := 40) (tgt := 2) dX2_endBreaks_40 (by decide) ?_
          exact e_wk (ih (j + 1) _ (by omega) (by funext q i; simp only [cr_rd, h_brk] at *; grind)) ⟨rfl, rfl, rfl, trivial⟩
        · refine e_aload_n (pc := 30) dX2_endBreaks_30 rfl ?_
          refine e_iload_n (pc := 31) dX2_endBreaks_31 rfl ?_
          refine e_iconst (pc := 32) (v := 1) dX2_endBreaks_32 (by decide) ?_
          refine e_iload_n (pc := 33) dX2_endBreaks_33 rfl ?_
          refine e_self3v (pc := 34) dX2_endBreaks_34 cs_X2_endBreaks_57 cv_X2_become rc_X2_become rfl (by decide) (Nat.le_of_ble_eq_true rfl) (ev_X2_become _ _ _ (by omega)) ?_
          first | refine e_iinc1 (pc := 37) dX2_endBreaks_37 rfl (by decide) ?_ | refine e_iincp (pc := 37) dX2_endBreaks_37 rfl (by decide) ?_
          refine e_goto (pc := 40) (tgt := 2) dX2_endBreaks_40 (by decide) ?_
          exact e_wk (ih (j + 1) _ (by omega) (by funext q i; simp only [cr_rd, h_brk] at *; grind)) ⟨rfl, rfl, rfl, trivial⟩
set_option maxHeartbeats 1000000 in
theorem ev_X2_endBreaks {hn : Nat} {M : cr_M} (x : Int32) (hsz : M 0 0 = nI hn) (h10 : hn ≤ 10) : cr_EvM Y_X2_endBreaks [.inr (.inr 0), .inl x] M (none, h_brk hn x M) := by
  refine e_iconst (pc := 0) (v := 0) dX2_endBreaks_0 (by decide) ?_
  refine e_istore_n (pc := 1) dX2_endBreaks_1 (by decide) ?_
  exact e_wk (lp_X2_endBreaks hsz h10 hn 0 M (by omega) (by funext q i; simp [h_brk])) ⟨rfl, rfl, rfl, trivial⟩
set_option maxHeartbeats 1000000 in
theorem lp_X2_nextBreakOver {hn : Nat} {M : cr_M} (hsz : M 0 0 = nI hn) (h10 : hn ≤ 10) : ∀ (n j : Nat) (x : Int32), j + n = hn → (x = h_nb M j) → cr_Ev Y_X2_nextBreakOver 5 [(2, .inl (nI j)), (0, .inr (.inr 0)), (1, .inl x)] [] M (some (.inl (h_nb M hn)), M) := by
  intro n
  induction n with
  | zero =>
    intro j x hj hx
    refine e_iload_n (pc := 5) dX2_nextBreakOver_5 rfl ?_
    refine e_aload_n (pc := 6) dX2_nextBreakOver_6 rfl ?_
    refine e_getI (pc := 7) dX2_nextBreakOver_7 f_2_36 rfl rfl ?_
    refine e_icmp_ge (pc := 10) (tgt := 40) dX2_nextBreakOver_10 (by decide) (fun hc_10 => ?_) (fun hc_10 => ?_)
    · refine e_iload_n (pc := 40) dX2_nextBreakOver_40 rfl ?_
      refine r_iret (pc := 41) dX2_nextBreakOver_41 rfl ?_
      rw [hx, show j = hn by omega]
    · exact absurd (show M 0 0 ≤ nI j by rw [hsz]; exact nI_le (by omega) (by omega)) (by assumption)
  | succ n ih =>
    intro j x hj hx
    refine e_iload_n (pc := 5) dX2_nextBreakOver_5 rfl ?_
    refine e_aload_n (pc := 6) dX2_nextBreakOver_6 rfl ?_
    refine e_getI (pc := 7) dX2_nextBreakOver_7 f_2_36 rfl rfl ?_
    refine e_icmp_ge (pc := 10) (tgt := 40) dX2_nextBreakOver_10 (by decide) (fun hc_10 => ?_) (fun hc_10 => ?_)
    · exact absurd (show M 0 0 ≤ nI j by assumption) (by rw [hsz]; exact nI_ge (by omega) (by omega))
    · refine e_aload_n (pc := 13) dX2_nextBreakOver_13 rfl ?_
      refine e_getA (pc := 14) dX2_nextBreakOver_14 f_2_15 rfl rfl ?_
      refine e_iload_n (pc := 17) dX2_nextBreakOver_17 rfl ?_
      first | refine e_ialdN (pc := 18) dX2_nextBreakOver_18 rfl (by omega) (by decide) ?_ | refine e_iald (pc := 18) dX2_nextBreakOver_18 rfl (by assumption) ?_
      refine e_iconst (pc := 19) (v := 3) dX2_nextBreakOver_19 (by decide) ?_
      refine e_icmp_ne (pc := 20) (tgt := 34) dX2_nextBreakOver_20 (by decide) (fun hc_20 => ?_) (fun hc_20 => ?_)
      · first | refine e_iinc1 (pc := 34) dX2_nextBreakOver_34 rfl (by decide) ?_ | refine e_iincp (pc := 34) dX2_nextBreakOver_34 rfl (by decide) ?_
        refine e_goto (pc := 37) (tgt := 5) dX2_nextBreakOver_37 (by decide) ?_
        exact e_wk (ih (j + 1) _ (by omega) (by subst hx; simp only [h_nb]; grind)) ⟨rfl, rfl, rfl, trivial⟩
      · refine e_iload_n (pc := 23) dX2_nextBreakOver_23 rfl ?_
        refine e_aload_n (pc := 24) dX2_nextBreakOver_24 rfl ?_
        refine e_getA (pc := 25) dX2_nextBreakOver_25 f_2_33 rfl rfl ?_
        refine e_iload_n (pc := 28) dX2_nextBreakOver_28 rfl ?_
        first | refine e_ialdN (pc := 29) dX2_nextBreakOver_29 rfl (by omega) (by decide) ?_ | refine e_iald (pc := 29) dX2_nextBreakOver_29 rfl (by assumption) ?_
        refine e_mmin (pc := 30) dX2_nextBreakOver_30 cm_X2_nextBreakOver_66 cm_min (by decide) (by decide) (Nat.le_of_ble_eq_true rfl) ?_
        refine e_istore_n (pc := 33) dX2_nextBreakOver_33 (by decide) ?_
        first | refine e_iinc1 (pc := 34) dX2_nextBreakOver_34 rfl (by decide) ?_ | refine e_iincp (pc := 34) dX2_nextBreakOver_34 rfl (by decide) ?_
        refine e_goto (pc := 37) (tgt := 5) dX2_nextBreakOver_37 (by decide) ?_
        exact e_wk (ih (j + 1) _ (by omega) (by subst hx; simp only [h_nb]; grind)) ⟨rfl, rfl, rfl, trivial⟩
set_option maxHeartbeats 1000000 in
theorem ev_X2_nextBreakOver {hn : Nat} {M : cr_M} (hsz : M 0 0 = nI hn) (h10 : hn ≤ 10) : cr_EvM Y_X2_nextBreakOver [.inr (.inr 0)] M (some (.inl (h_nb M hn)), M) := by
  refine e_ldc (pc := 0) (v := (2147483647 : Int32)) dX2_nextBreakOver_0 (cr_in (i := 450) (by decide +kernel) rfl) ?_
  refine e_istore_n (pc := 2) dX2_nextBreakOver_2 (by decide) ?_
  refine e_iconst (pc := 3) (v := 0) dX2_nextBreakOver_3 (by decide) ?_
  refine e_istore_n (pc := 4) dX2_nextBreakOver_4 (by decide) ?_
  exact e_wk (lp_X2_nextBreakOver hsz h10 hn 0 _ (by omega) rfl) ⟨rfl, rfl, rfl, trivial⟩
set_option maxHeartbeats 1000000 in
theorem lp_X2_countFree {hn : Nat} {M : cr_M} (hsz : M 0 0 = nI hn) (h10 : hn ≤ 10) : ∀ (n j : Nat) (x : Int32), j + n = hn → (x = h_cf M j) → cr_Ev Y_X2_countFree 4 [(2, .inl (nI j)), (0, .inr (.inr 0)), (1, .inl x)] [] M (some (.inl (h_cf M hn)), M) := by
  intro n
  induction n with
  | zero =>
    intro j x hj hx
    refine e_iload_n (pc := 4) dX2_countFree_4 rfl ?_
    refine e_aload_n (pc := 5) dX2_countFree_5 rfl ?_
    refine e_getI (pc := 6) dX2_countFree_6 f_2_36 rfl rfl ?_
    refine e_icmp_ge (pc := 9) (tgt := 31) dX2_countFree_9 (by decide) (fun hc_9 => ?_) (fun hc_9 => ?_)
    · refine e_iload_n (pc := 31) dX2_countFree_31 rfl ?_
      refine r_iret (pc := 32) dX2_countFree_32 rfl ?_
      rw [hx, show j = hn by omega]
    · exact absurd (show M 0 0 ≤ nI j by rw [hsz]; exact nI_le (by omega) (by omega)) (by assumption)
  | succ n ih =>
    intro j x hj hx
    refine e_iload_n (pc := 4) dX2_countFree_4 rfl ?_
    refine e_aload_n (pc := 5) dX2_countFree_5 rfl ?_
    refine e_getI (pc := 6) dX2_countFree_6 f_2_36 rfl rfl ?_
    refine e_icmp_ge (pc := 9) (tgt := 31) dX2_countFree_9 (by decide) (fun hc_9 => ?_) (fun hc_9 => ?_)
    · exact absurd (show M 0 0 ≤ nI j by assumption) (by rw [hsz]; exact nI_ge (by omega) (by omega))
    · refine e_aload_n (pc := 12) dX2_countFree_12 rfl ?_
      refine e_getA (pc := 13) dX2_countFree_13 f_2_15 rfl rfl ?_
      refine e_iload_n (pc := 16) dX2_countFree_16 rfl ?_
      first | refine e_ialdN (pc := 17) dX2_countFree_17 rfl (by omega) (by decide) ?_ | refine e_iald (pc := 17) dX2_countFree_17 rfl (by assumption) ?_
      refine e_iconst (pc := 18) (v := 1) dX2_countFree_18 (by decide) ?_
      refine e_icmp_ne (pc := 19) (tgt := 25) dX2_countFree_19 (by decide) (fun hc_19 => ?_) (fun hc_19 => ?_)
      · first | refine e_iinc1 (pc := 25) dX2_countFree_25 rfl (by decide) ?_ | refine e_iincp (pc := 25) dX2_countFree_25 rfl (by decide) ?_
        refine e_goto (pc := 28) (tgt := 4) dX2_countFree_28 (by decide) ?_
        exact e_wk (ih (j + 1) _ (by omega) (by subst hx; simp only [h_cf]; grind)) ⟨rfl, rfl, rfl, trivial⟩
      · first | refine e_iinc1 (pc := 22) dX2_countFree_22 rfl (by decide) ?_ | refine e_iincp (pc := 22) dX2_countFree_22 rfl (by decide) ?_
        first | refine e_iinc1 (pc := 25) dX2_countFree_25 rfl (by decide) ?_ | refine e_iincp (pc := 25) dX2_countFree_25 rfl (by decide) ?_
        refine e_goto (pc := 28) (tgt := 4) dX2_countFree_28 (by decide) ?_
        exact e_wk (ih (j + 1) _ (by omega) (by subst hx; simp only [h_cf]; grind)) ⟨rfl, rfl, rfl, trivial⟩
set_option maxHeartbeats 1000000 in
theorem ev_X2_countFree {hn : Nat} {M : cr_M} (hsz : M 0 0 = nI hn) (h10 : hn ≤ 10) : cr_EvM Y_X2_countFree [.inr (.inr 0)] M (some (.inl (h_cf M hn)), M) := by
  refine e_iconst (pc := 0) (v := 0) dX2_countFree_0 (by decide) ?_
  refine e_istore_n (pc := 1) dX2_countFree_1 (by decide) ?_
  refine e_iconst (pc := 2) (v := 0) dX2_countFree_2 (by decide) ?_
  refine e_istore_n (pc := 3) dX2_countFree_3 (by decide) ?_
  exact e_wk (lp_X2_countFree hsz h10 hn 0 _ (by omega) rfl) ⟨rfl, rfl, rfl, trivial⟩
set_option maxHeartbeats 1000000 in
theorem ev_X2_add (M : cr_M) {hn : Nat} (g t : Int32) (hsz : M 0 0 = nI hn) (h10 : hn < 10) : cr_EvM Y_X2_add [.inr (.inr 0), .inl g, .inl t] M (some (.inl (nI hn)), h_add M hn g t) := by
  refine e_aload_n (pc := 0) dX2_add_0 rfl ?_
  refine e_getIv (pc := 1) (nI hn) dX2_add_1 f_2_36 rfl rfl hsz ?_
  refine e_bipush (pc := 4) (v := 10) dX2_add_4 (by decide) ?_
  refine e_icmp_lt (pc := 6) (tgt := 12) dX2_add_6 (by decide) (fun hc_6 => ?_) (fun hc_6 => ?_)
  · refine e_aload_n (pc := 12) dX2_add_12 rfl ?_
    refine e_getA (pc := 13) dX2_add_13 f_2_9 rfl rfl ?_
    refine e_aload_n (pc := 16) dX2_add_16 rfl ?_
    refine e_getIv (pc := 17) (nI hn) dX2_add_17 f_2_36 rfl rfl hsz ?_
    refine e_iload_n (pc := 20) dX2_add_20 rfl ?_
    first | refine e_iastN (pc := 21) dX2_add_21 rfl (by omega) (by decide) ?_ | refine e_iast (pc := 21) dX2_add_21 rfl (by assumption) ?_
    refine e_aload_n (pc := 22) dX2_add_22 rfl ?_
    refine e_getA (pc := 23) dX2_add_23 f_2_15 rfl rfl ?_
    refine e_aload_n (pc := 26) dX2_add_26 rfl ?_
    refine e_getIv (pc := 27) (nI hn) dX2_add_27 f_2_36 rfl rfl hsz ?_
    refine e_iconst (pc := 30) (v := 0) dX2_add_30 (by decide) ?_
    first | refine e_iastN (pc := 31) dX2_add_31 rfl (by omega) (by decide) ?_ | refine e_iast (pc := 31) dX2_add_31 rfl (by assumption) ?_
    refine e_aload_n (pc := 32) dX2_add_32 rfl ?_
    refine e_getA (pc := 33) dX2_add_33 f_2_18 rfl rfl ?_
    refine e_aload_n (pc := 36) dX2_add_36 rfl ?_
    refine e_getIv (pc := 37) (nI hn) dX2_add_37 f_2_36 rfl rfl hsz ?_
    refine e_iload_n (pc := 40) dX2_add_40 rfl ?_
    first | refine e_iastN (pc := 41) dX2_add_41 rfl (by omega) (by decide) ?_ | refine e_iast (pc := 41) dX2_add_41 rfl (by assumption) ?_
    refine e_aload_n (pc := 42) dX2_add_42 rfl ?_
    refine e_dup_a (pc := 43) dX2_add_43 ?_
    refine e_getIv (pc := 44) (nI hn) dX2_add_44 f_2_36 rfl rfl hsz ?_
    refine e_dup_x1 (pc := 47) dX2_add_47 ?_
    refine e_iconst (pc := 48) (v := 1) dX2_add_48 (by decide) ?_
    refine e_iadd (pc := 49) dX2_add_49 ?_
    refine e_put (pc := 50) dX2_add_50 f_2_36 p_2_0 rfl rfl ?_
    refine r_iret (pc := 53) dX2_add_53 rfl ?_
    rfl
  · refine e_bipush (pc := 9) (v := (-9)) dX2_add_9 (by decide) ?_
    refine r_iret (pc := 11) dX2_add_11 rfl ?_
    exact absurd (nI_lt h10 (by decide)) (by assumption)
set_option maxHeartbeats 1000000 in
theorem ev_X2_copyFrom (M : cr_M) {hn : Nat} (hsz : M 9 0 = nI hn) (h10 : hn ≤ 10) : cr_EvM Y_X2_copyFrom [.inr (.inr 0), .inr (.inr 9)] M (none, h_cpy hn M) := by
  have hcl : (M 9 0).toNatClampNeg = hn := by rw [hsz]; exact nI_clamp (by omega)
  have hsz0 : ¬ M 9 0 < 0 := by rw [hsz]; exact nI_pos (by omega)
  have hsz1 : (0 : Int32).toNatClampNeg + (M 9 0).toNatClampNeg ≤ 10 := by rw [hsz, nI_clamp (by omega)]; exact (by simpa using h10)
  refine e_aload_n (pc := 0) dX2_copyFrom_0 rfl ?_
  refine e_aload_n (pc := 1) dX2_copyFrom_1 rfl ?_
  refine e_getI (pc := 2) dX2_copyFrom_2 f_2_36 rfl rfl ?_
  refine e_put (pc := 5) dX2_copyFrom_5 f_2_36 p_2_0 rfl rfl ?_
  refine e_aload_n (pc := 8) dX2_copyFrom_8 rfl ?_
  refine e_getA (pc := 9) dX2_copyFrom_9 f_2_9 rfl rfl ?_
  refine e_iconst (pc := 12) (v := 0) dX2_copyFrom_12 (by decide) ?_
  refine e_aload_n (pc := 13) dX2_copyFrom_13 rfl ?_
  refine e_getA (pc := 14) dX2_copyFrom_14 f_2_9 rfl rfl ?_
  refine e_iconst (pc := 17) (v := 0) dX2_copyFrom_17 (by decide) ?_
  refine e_aload_n (pc := 18) dX2_copyFrom_18 rfl ?_
  refine e_getI (pc := 19) dX2_copyFrom_19 f_2_36 rfl rfl ?_
  refine e_acopy (pc := 22) dX2_copyFrom_22 ac_2_71 (by decide) (Nat.le_of_ble_eq_true rfl) rfl rfl (by decide) (by decide) hsz0 hsz1 hsz1 ?_
  refine e_aload_n (pc := 25) dX2_copyFrom_25 rfl ?_
  refine e_getA (pc := 26) dX2_copyFrom_26 f_2_15 rfl rfl ?_
  refine e_iconst (pc := 29) (v := 0) dX2_copyFrom_29 (by decide) ?_
  refine e_aload_n (pc := 30) dX2_copyFrom_30 rfl ?_
  refine e_getA (pc := 31) dX2_copyFrom_31 f_2_15 rfl rfl ?_
  refine e_iconst (pc := 34) (v := 0) dX2_copyFrom_34 (by decide) ?_
  refine e_aload_n (pc := 35) dX2_copyFrom_35 rfl ?_
  refine e_getI (pc := 36) dX2_copyFrom_36 f_2_36 rfl rfl ?_
  refine e_acopy (pc := 39) dX2_copyFrom_39 ac_2_71 (by decide) (Nat.le_of_ble_eq_true rfl) rfl rfl (by decide) (by decide) hsz0 hsz1 hsz1 ?_
  refine e_aload_n (pc := 42) dX2_copyFrom_42 rfl ?_
  refine e_getA (pc := 43) dX2_copyFrom_43 f_2_18 rfl rfl ?_
  refine e_iconst (pc := 46) (v := 0) dX2_copyFrom_46 (by decide) ?_
  refine e_aload_n (pc := 47) dX2_copyFrom_47 rfl ?_
  refine e_getA (pc := 48) dX2_copyFrom_48 f_2_18 rfl rfl ?_
  refine e_iconst (pc := 51) (v := 0) dX2_copyFrom_51 (by decide) ?_
  refine e_aload_n (pc := 52) dX2_copyFrom_52 rfl ?_
  refine e_getI (pc := 53) dX2_copyFrom_53 f_2_36 rfl rfl ?_
  refine e_acopy (pc := 56) dX2_copyFrom_56 ac_2_71 (by decide) (Nat.le_of_ble_eq_true rfl) rfl rfl (by decide) (by decide) hsz0 hsz1 hsz1 ?_
  refine e_aload_n (pc := 59) dX2_copyFrom_59 rfl ?_
  refine e_getA (pc := 60) dX2_copyFrom_60 f_2_21 rfl rfl ?_
  refine e_iconst (pc := 63) (v := 0) dX2_copyFrom_63 (by decide) ?_
  refine e_aload_n (pc := 64) dX2_copyFrom_64 rfl ?_
  refine e_getA (pc := 65) dX2_copyFrom_65 f_2_21 rfl rfl ?_
  refine e_iconst (pc := 68) (v := 0) dX2_copyFrom_68 (by decide) ?_
  refine e_aload_n (pc := 69) dX2_copyFrom_69 rfl ?_
  refine e_getI (pc := 70) dX2_copyFrom_70 f_2_36 rfl rfl ?_
  refine e_acopy (pc := 73) dX2_copyFrom_73 ac_2_71 (by decide) (Nat.le_of_ble_eq_true rfl) rfl rfl (by decide) (by decide) hsz0 hsz1 hsz1 ?_
  refine e_aload_n (pc := 76) dX2_copyFrom_76 rfl ?_
  refine e_getA (pc := 77) dX2_copyFrom_77 f_2_24 rfl rfl ?_
  refine e_iconst (pc := 80) (v := 0) dX2_copyFrom_80 (by decide) ?_
  refine e_aload_n (pc := 81) dX2_copyFrom_81 rfl ?_
  refine e_getA (pc := 82) dX2_copyFrom_82 f_2_24 rfl rfl ?_
  refine e_iconst (pc := 85) (v := 0) dX2_copyFrom_85 (by decide) ?_
  refine e_aload_n (pc := 86) dX2_copyFrom_86 rfl ?_
  refine e_getI (pc := 87) dX2_copyFrom_87 f_2_36 rfl rfl ?_
  refine e_acopy (pc := 90) dX2_copyFrom_90 ac_2_71 (by decide) (Nat.le_of_ble_eq_true rfl) rfl rfl (by decide) (by decide) hsz0 hsz1 hsz1 ?_
  refine e_aload_n (pc := 93) dX2_copyFrom_93 rfl ?_
  refine e_getA (pc := 94) dX2_copyFrom_94 f_2_27 rfl rfl ?_
  refine e_iconst (pc := 97) (v := 0) dX2_copyFrom_97 (by decide) ?_
  refine e_aload_n (pc := 98) dX2_copyFrom_98 rfl ?_
  refine e_getA (pc := 99) dX2_copyFrom_99 f_2_27 rfl rfl ?_
  refine e_iconst (pc := 102) (v := 0) dX2_copyFrom_102 (by decide) ?_
  refine e_aload_n (pc := 103) dX2_copyFrom_103 rfl ?_
  refine e_getI (pc := 104) dX2_copyFrom_104 f_2_36 rfl rfl ?_
  refine e_acopy (pc := 107) dX2_copyFrom_107 ac_2_71 (by decide) (Nat.le_of_ble_eq_true rfl) rfl rfl (by decide) (by decide) hsz0 hsz1 hsz1 ?_
  refine e_aload_n (pc := 110) dX2_copyFrom_110 rfl ?_
  refine e_getA (pc := 111) dX2_copyFrom_111 f_2_30 rfl rfl ?_
  refine e_iconst (pc := 114) (v := 0) dX2_copyFrom_114 (by decide) ?_
  refine e_aload_n (pc := 115) dX2_copyFrom_115 rfl ?_
  refine e_getA (pc := 116) dX2_copyFrom_116 f_2_30 rfl rfl ?_
  refine e_iconst (pc := 119) (v := 0) dX2_copyFrom_119 (by decide) ?_
  refine e_aload_n (pc := 120) dX2_copyFrom_120 rfl ?_
  refine e_getI (pc := 121) dX2_copyFrom_121 f_2_36 rfl rfl ?_
  refine e_acopy (pc := 124) dX2_copyFrom_124 ac_2_71 (by decide) (Nat.le_of_ble_eq_true rfl) rfl rfl (by decide) (by decide) hsz0 hsz1 hsz1 ?_
  refine e_aload_n (pc := 127) dX2_copyFrom_127 rfl ?_
  refine e_getA (pc := 128) dX2_copyFrom_128 f_2_33 rfl rfl ?_
  refine e_iconst (pc := 131) (v := 0) dX2_copyFrom_131 (by decide) ?_
  refine e_aload_n (pc := 132) dX2_copyFrom_132 rfl ?_
  refine e_getA (pc := 133) dX2_copyFrom_133 f_2_33 rfl rfl ?_
  refine e_iconst (pc := 136) (v := 0) dX2_copyFrom_136 (by decide) ?_
  refine e_aload_n (pc := 137) dX2_copyFrom_137 rfl ?_
  refine e_getI (pc := 138) dX2_copyFrom_138 f_2_36 rfl rfl ?_
  refine e_acopy (pc := 141) dX2_copyFrom_141 ac_2_71 (by decide) (Nat.le_of_ble_eq_true rfl) rfl rfl (by decide) (by decide) hsz0 hsz1 hsz1 ?_
  refine r_vret (pc := 144) dX2_copyFrom_144 rfl ?_
  refine congrArg (fun z => ((none, z) : Option cr_AV × cr_M)) ?_
  funext q i
  rcases q with _ | _ | _ | _ | _ | _ | _ | _ | _ | q <;> simp [h_cpy, va_up, va_cpy, cr_up, upd, hcl]
