set_option maxHeartbeats 1000000 in
theorem ev_X1_hindrance {hn cn tk : Nat} {F N : cr_M} {c : Nat} (hJ : n_J hn cn tk N) (hR : r_F hn cn F N) (hc : c < cn) (h0 : N 16 c = 0) : cr_EvM Y_X1_hindrance [.inr (.inr 0), .inl (nI c)] F (some (.inl (n_why hn N c)), F) := by
  obtain ⟨s, hs, es⟩ := (hJ.1.2.2.2.2 c hc).1
  have es2 : F 14 c = nI s := (r_F_c hR hc).2.2.2.1.trans es
  have hsn : n_s N c = s := by show (N 11 c).toNatClampNeg = s; rw [es]; exact nI_clamp (by omega)
  have hA : (∃ i, i < hn ∧ ¬ N 5 i = 0 ∧ 0 < N 4 (4 * i + s)) ↔ (∃ k, k < hn ∧ n_can N c k) := by
    constructor
    · rintro ⟨i, hi, a, b⟩; exact ⟨i, hi, a, by rw [hsn]; intro q; rw [q] at b; exact absurd b (by decide)⟩
    · rintro ⟨i, hi, a, b⟩
      refine ⟨i, hi, a, ?_⟩
      rw [hsn] at b
      obtain ⟨g, hg, eg⟩ := (hJ.2.2.2.2.1 i hi).2.1 s hs
      rw [eg] at b ⊢
      have : ∀ g, g < 4 → ¬ nI g = 0 → 0 < nI g := by decide +kernel
      exact this g hg b
  have hB : ∀ w : Int32, (w = 0 ↔ ¬ N 10 c = 3) → ((∃ i, i < hn ∧ s_cT N i s w) ↔ (∃ k, k < hn ∧ n_fre N c k)) := by
    intro w hw
    constructor
    · rintro ⟨i, hi, a⟩; exact ⟨i, hi, by unfold n_fre n_can; rw [hsn]; unfold s_cT at a; grind⟩
    · rintro ⟨i, hi, a⟩; exact ⟨i, hi, by unfold n_fre n_can at a; rw [hsn] at a; unfold s_cT; grind⟩
  obtain ⟨x1, x2, x3, x4, x5, x6, x7, x8, x9, x10, x11, x12⟩ := r_F_c hR hc
  obtain ⟨h10, h200, z1, z2, z3, z4, z5⟩ := r_F_z hR
  refine e_aload_n (pc := 0) dX1_hindrance_0 rfl ?_
  refine e_getA (pc := 1) dX1_hindrance_1 f_1_21 rfl rfl ?_
  refine e_getA (pc := 4) dX1_hindrance_4 f_1_133 rfl rfl ?_
  refine e_iload_n (pc := 7) dX1_hindrance_7 rfl ?_
  refine e_ialdV (pc := 8) (nI s) dX1_hindrance_8 rfl (by omega) (by decide) es2 ?_
  refine e_istore_n (pc := 9) dX1_hindrance_9 (by decide) ?_
  refine e_aload_n (pc := 10) dX1_hindrance_10 rfl ?_
  refine e_getA (pc := 11) dX1_hindrance_11 f_1_12 rfl rfl ?_
  refine e_iload_n (pc := 14) dX1_hindrance_14 rfl ?_
  refine e_offR1i (pc := 15) (M' := fun _ _ => 0) dX1_hindrance_15 cs_X1_hindrance_180 cv_X2_someInHasGrade rc_X2_someInHasGrade fit_shF_shH_1 (by decide) (Nat.le_of_ble_eq_true rfl) (ev_X2_someInHasGrade hR.1 hs) ?_
  refine e_if_ne (pc := 18) (tgt := 23) dX1_hindrance_18 (by decide) (fun hc_18 => ?_) (fun hc_18 => ?_)
  · refine e_aload_n (pc := 23) dX1_hindrance_23 rfl ?_
    refine e_getA (pc := 24) dX1_hindrance_24 f_1_12 rfl rfl ?_
    refine e_iload_n (pc := 27) dX1_hindrance_27 rfl ?_
    refine e_aload_n (pc := 28) dX1_hindrance_28 rfl ?_
    refine e_getA (pc := 29) dX1_hindrance_29 f_1_21 rfl rfl ?_
    refine e_getA (pc := 32) dX1_hindrance_32 f_1_143 rfl rfl ?_
    refine e_iload_n (pc := 35) dX1_hindrance_35 rfl ?_
    first | refine e_ialdN (pc := 36) dX1_hindrance_36 rfl (by omega) (by decide) ?_ | refine e_iald (pc := 36) dX1_hindrance_36 rfl (by assumption) ?_
    refine e_iconst (pc := 37) (v := 3) dX1_hindrance_37 (by decide) ?_
    refine e_icmp_ne (pc := 38) (tgt := 45) dX1_hindrance_38 (by decide) (fun hc_38 => ?_) (fun hc_38 => ?_)
    · refine e_iconst (pc := 45) (v := 0) dX1_hindrance_45 (by decide) ?_
      refine e_offR2i (pc := 46) (M' := fun _ _ => 0) dX1_hindrance_46 cs_X1_hindrance_183 cv_X2_someCanTake rc_X2_someCanTake fit_shF_shH_1 (by decide) (Nat.le_of_ble_eq_true rfl) (ev_X2_someCanTake _ hR.1 hs) ?_
      refine e_if_ne (pc := 49) (tgt := 54) dX1_hindrance_49 (by decide) (fun hc_49 => ?_) (fun hc_49 => ?_)
      · have hGB : ∃ k, k < hn ∧ n_fre N c k := (hB _ (by grind)).mp (Classical.not_not.mp (fun q => hc_49 (bI_f q)))
        refine e_aload_n (pc := 54) dX1_hindrance_54 rfl ?_
        refine e_iload_n (pc := 55) dX1_hindrance_55 rfl ?_
        refine e_self1i (pc := 56) dX1_hindrance_56 cs_X1_hindrance_170 cv_X1_isKeptForOwn rc_X1_isKeptForOwn rfl (by decide) (Nat.le_of_ble_eq_true rfl) (ev_X1_isKeptForOwn hR hc) ?_
        refine e_if_eq (pc := 59) (tgt := 87) dX1_hindrance_59 (by decide) (fun hc_59 => ?_) (fun hc_59 => ?_)
        · refine e_iconst (pc := 87) (v := 4) dX1_hindrance_87 (by decide) ?_
          refine r_iret (pc := 88) dX1_hindrance_88 rfl ?_
          first
            | (exfalso; grind; done)
            | exact rt_i (by unfold n_why; rw [if_pos (show ∃ k, k < hn ∧ n_can N c k from hA.mp (Classical.not_not.mp (fun q => hc_18 (bI_f q)))), if_pos hGB, if_neg (by grind [bI_eq0])])
            | exact rt_i (by unfold n_why; rw [if_pos (show ∃ k, k < hn ∧ n_can N c k from hA.mp (Classical.not_not.mp (fun q => hc_18 (bI_f q)))), if_pos hGB, hko, nI_clamp (by omega), if_pos (by grind [bI_eq0])])
            | exact rt_i (by unfold n_why; rw [if_pos (show ∃ k, k < hn ∧ n_can N c k from hA.mp (Classical.not_not.mp (fun q => hc_18 (bI_f q)))), if_pos hGB, hko, nI_clamp (by omega), if_neg (by grind [bI_eq0])])
        · have hkp : N 10 c = 1 ∧ N 0 3 - N 17 c < N 0 7 := Classical.not_not.mp (fun q => hc_59 (bI_f q))
          obtain ⟨ko, hkl, hko⟩ : ∃ k, k < hn ∧ N 15 c = nI k := by rcases (hJ.2.2.2.2.2.1 c hc).1 with z | z; exact z.2; exact absurd hkp.1 z.1
          have hko2 : F 13 c = nI ko := x3.trans hko
          have hmay : n_may N ko c ↔ s_cT N ko s 0 := by rw [n_may_k hJ hc h0 es hs, bI_f (by rw [hkp.1]; decide)]; exact ⟨fun z => z.1, fun z => ⟨z, Or.inr (Or.inr hko)⟩⟩
          refine e_aload_n (pc := 62) dX1_hindrance_62 rfl ?_
          refine e_getA (pc := 63) dX1_hindrance_63 f_1_12 rfl rfl ?_
          refine e_aload_n (pc := 66) dX1_hindrance_66 rfl ?_
          refine e_getA (pc := 67) dX1_hindrance_67 f_1_21 rfl rfl ?_
          refine e_getA (pc := 70) dX1_hindrance_70 f_1_173 rfl rfl ?_
          refine e_iload_n (pc := 73) dX1_hindrance_73 rfl ?_
          refine e_ialdV (pc := 74) (nI ko) dX1_hindrance_74 rfl (by omega) (by decide) hko2 ?_
          refine e_iload_n (pc := 75) dX1_hindrance_75 rfl ?_
          refine e_iconst (pc := 76) (v := 0) dX1_hindrance_76 (by decide) ?_
          refine e_offR3i (pc := 77) (M' := fun _ _ => 0) dX1_hindrance_77 cs_X1_hindrance_166 cv_X2_canTake rc_X2_canTake fit_shF_shH_1 (by decide) (Nat.le_of_ble_eq_true rfl) (ev_X2_canTake 0 hR.1 hkl hs) ?_
          refine e_if_ne (pc := 80) (tgt := 87) dX1_hindrance_80 (by decide) (fun hc_80 => ?_) (fun hc_80 => ?_)
          · refine e_iconst (pc := 87) (v := 4) dX1_hindrance_87 (by decide) ?_
            refine r_iret (pc := 88) dX1_hindrance_88 rfl ?_
            first
              | (exfalso; grind; done)
              | exact rt_i (by unfold n_why; rw [if_pos (show ∃ k, k < hn ∧ n_can N c k from hA.mp (Classical.not_not.mp (fun q => hc_18 (bI_f q)))), if_pos hGB, if_neg (by grind [bI_eq0])])
              | exact rt_i (by unfold n_why; rw [if_pos (show ∃ k, k < hn ∧ n_can N c k from hA.mp (Classical.not_not.mp (fun q => hc_18 (bI_f q)))), if_pos hGB, hko, nI_clamp (by omega), if_pos (by grind [bI_eq0])])
              | exact rt_i (by unfold n_why; rw [if_pos (show ∃ k, k < hn ∧ n_can N c k from hA.mp (Classical.not_not.mp (fun q => hc_18 (bI_f q)))), if_pos hGB, hko, nI_clamp (by omega), if_neg (by grind [bI_eq0])])
          · refine e_iconst (pc := 83) (v := 3) dX1_hindrance_83 (by decide) ?_
            refine e_goto (pc := 84) (tgt := 88) dX1_hindrance_84 (by decide) ?_
            refine r_iret (pc := 88) dX1_hindrance_88 rfl ?_
            first
              | (exfalso; grind; done)
              | exact rt_i (by unfold n_why; rw [if_pos (show ∃ k, k < hn ∧ n_can N c k from hA.mp (Classical.not_not.mp (fun q => hc_18 (bI_f q)))), if_pos hGB, if_neg (by grind [bI_eq0])])
              | exact rt_i (by unfold n_why; rw [if_pos (show ∃ k, k < hn ∧ n_can N c k from hA.mp (Classical.not_not.mp (fun q => hc_18 (bI_f q)))), if_pos hGB, hko, nI_clamp (by omega), if_pos (by grind [bI_eq0])])
              | exact rt_i (by unfold n_why; rw [if_pos (show ∃ k, k < hn ∧ n_can N c k from hA.mp (Classical.not_not.mp (fun q => hc_18 (bI_f q)))), if_pos hGB, hko, nI_clamp (by omega), if_neg (by grind [bI_eq0])])
      · refine e_iconst (pc := 52) (v := 2) dX1_hindrance_52 (by decide) ?_
        refine r_iret (pc := 53) dX1_hindrance_53 rfl ?_
        exact rt_i (by unfold n_why; rw [if_pos (show ∃ k, k < hn ∧ n_can N c k from hA.mp (Classical.not_not.mp (fun q => hc_18 (bI_f q)))), if_neg (fun q => bI_eq0.mp hc_49 ((hB _ (by grind)).mpr q))])
    · refine e_iconst (pc := 41) (v := 1) dX1_hindrance_41 (by decide) ?_
      refine e_goto (pc := 42) (tgt := 46) dX1_hindrance_42 (by decide) ?_
      refine e_offR2i (pc := 46) (M' := fun _ _ => 0) dX1_hindrance_46 cs_X1_hindrance_183 cv_X2_someCanTake rc_X2_someCanTake fit_shF_shH_1 (by decide) (Nat.le_of_ble_eq_true rfl) (ev_X2_someCanTake _ hR.1 hs) ?_
      refine e_if_ne (pc := 49) (tgt := 54) dX1_hindrance_49 (by decide) (fun hc_49 => ?_) (fun hc_49 => ?_)
      · have hGB : ∃ k, k < hn ∧ n_fre N c k := (hB _ (by grind)).mp (Classical.not_not.mp (fun q => hc_49 (bI_f q)))
        refine e_aload_n (pc := 54) dX1_hindrance_54 rfl ?_
        refine e_iload_n (pc := 55) dX1_hindrance_55 rfl ?_
        refine e_self1i (pc := 56) dX1_hindrance_56 cs_X1_hindrance_170 cv_X1_isKeptForOwn rc_X1_isKeptForOwn rfl (by decide) (Nat.le_of_ble_eq_true rfl) (ev_X1_isKeptForOwn hR hc) ?_
        refine e_if_eq (pc := 59) (tgt := 87) dX1_hindrance_59 (by decide) (fun hc_59 => ?_) (fun hc_59 => ?_)
        · refine e_iconst (pc := 87) (v := 4) dX1_hindrance_87 (by decide) ?_
          refine r_iret (pc := 88) dX1_hindrance_88 rfl ?_
          first
            | (exfalso; grind; done)
            | exact rt_i (by unfold n_why; rw [if_pos (show ∃ k, k < hn ∧ n_can N c k from hA.mp (Classical.not_not.mp (fun q => hc_18 (bI_f q)))), if_pos hGB, if_neg (by grind [bI_eq0])])
            | exact rt_i (by unfold n_why; rw [if_pos (show ∃ k, k < hn ∧ n_can N c k from hA.mp (Classical.not_not.mp (fun q => hc_18 (bI_f q)))), if_pos hGB, hko, nI_clamp (by omega), if_pos (by grind [bI_eq0])])
            | exact rt_i (by unfold n_why; rw [if_pos (show ∃ k, k < hn ∧ n_can N c k from hA.mp (Classical.not_not.mp (fun q => hc_18 (bI_f q)))), if_pos hGB, hko, nI_clamp (by omega), if_neg (by grind [bI_eq0])])
        · have hkp : N 10 c = 1 ∧ N 0 3 - N 17 c < N 0 7 := Classical.not_not.mp (fun q => hc_59 (bI_f q))
          obtain ⟨ko, hkl, hko⟩ : ∃ k, k < hn ∧ N 15 c = nI k := by rcases (hJ.2.2.2.2.2.1 c hc).1 with z | z; exact z.2; exact absurd hkp.1 z.1
          have hko2 : F 13 c = nI ko := x3.trans hko
          have hmay : n_may N ko c ↔ s_cT N ko s 0 := by rw [n_may_k hJ hc h0 es hs, bI_f (by rw [hkp.1]; decide)]; exact ⟨fun z => z.1, fun z => ⟨z, Or.inr (Or.inr hko)⟩⟩
          refine e_aload_n (pc := 62) dX1_hindrance_62 rfl ?_
          refine e_getA (pc := 63) dX1_hindrance_63 f_1_12 rfl rfl ?_
          refine e_aload_n (pc := 66) dX1_hindrance_66 rfl ?_
          refine e_getA (pc := 67) dX1_hindrance_67 f_1_21 rfl rfl ?_
          refine e_getA (pc := 70) dX1_hindrance_70 f_1_173 rfl rfl ?_
          refine e_iload_n (pc := 73) dX1_hindrance_73 rfl ?_
          refine e_ialdV (pc := 74) (nI ko) dX1_hindrance_74 rfl (by omega) (by decide) hko2 ?_
          refine e_iload_n (pc := 75) dX1_hindrance_75 rfl ?_
          refine e_iconst (pc := 76) (v := 0) dX1_hindrance_76 (by decide) ?_
          refine e_offR3i (pc := 77) (M' := fun _ _ => 0) dX1_hindrance_77 cs_X1_hindrance_166 cv_X2_canTake rc_X2_canTake fit_shF_shH_1 (by decide) (Nat.le_of_ble_eq_true rfl) (ev_X2_canTake 0 hR.1 hkl hs) ?_
          refine e_if_ne (pc := 80) (tgt := 87) dX1_hindrance_80 (by decide) (fun hc_80 => ?_) (fun hc_80 => ?_)
          · refine e_iconst (pc := 87) (v := 4) dX1_hindrance_87 (by decide) ?_
            refine r_iret (pc := 88) dX1_hindrance_88 rfl ?_
            first
              | (exfalso; grind; done)
              | exact rt_i (by unfold n_why; rw [if_pos (show ∃ k, k < hn ∧ n_can N c k from hA.mp (Classical.not_not.mp (fun q => hc_18 (bI_f q)))), if_pos hGB, if_neg (by grind [bI_eq0])])
              | exact rt_i (by unfold n_why; rw [if_pos (show ∃ k, k < hn ∧ n_can N c k from hA.mp (Classical.not_not.mp (fun q => hc_18 (bI_f q)))), if_pos hGB, hko, nI_clamp (by omega), if_pos (by grind [bI_eq0])])
              | exact rt_i (by unfold n_why; rw [if_pos (show ∃ k, k < hn ∧ n_can N c k from hA.mp (Classical.not_not.mp (fun q => hc_18 (bI_f q)))), if_pos hGB, hko, nI_clamp (by omega), if_neg (by grind [bI_eq0])])
          · refine e_iconst (pc := 83) (v := 3) dX1_hindrance_83 (by decide) ?_
            refine e_goto (pc := 84) (tgt := 88) dX1_hindrance_84 (by decide) ?_
            refine r_iret (pc := 88) dX1_hindrance_88 rfl ?_
            first
              | (exfalso; grind; done)
              | exact rt_i (by unfold n_why; rw [if_pos (show ∃ k, k < hn ∧ n_can N c k from hA.mp (Classical.not_not.mp (fun q => hc_18 (bI_f q)))), if_pos hGB, if_neg (by grind [bI_eq0])])
              | exact rt_i (by unfold n_why; rw [if_pos (show ∃ k, k < hn ∧ n_can N c k from hA.mp (Classical.not_not.mp (fun q => hc_18 (bI_f q)))), if_pos hGB, hko, nI_clamp (by omega), if_pos (by grind [bI_eq0])])
              | exact rt_i (by unfold n_why; rw [if_pos (show ∃ k, k < hn ∧ n_can N c k from hA.mp (Classical.not_not.mp (fun q => hc_18 (bI_f q)))), if_pos hGB, hko, nI_clamp (by omega), if_neg (by grind [bI_eq0])])
      · refine e_iconst (pc := 52) (v := 2) dX1_hindrance_52 (by decide) ?_
        refine r_iret (pc := 53) dX1_hindrance_53 rfl ?_
        exact rt_i (by unfold n_why; rw [if_pos (show ∃ k, k < hn ∧ n_can N c k from hA.mp (Classical.not_not.mp (fun q => hc_18 (bI_f q)))), if_neg (fun q => bI_eq0.mp hc_49 ((hB _ (by grind)).mpr q))])
  · refine e_iconst (pc := 21) (v := 1) dX1_hindrance_21 (by decide) ?_
    refine r_iret (pc := 22) dX1_hindrance_22 rfl ?_
    exact rt_i (by unfold n_why; rw [if_neg (fun q => bI_eq0.mp hc_18 (hA.mpr q))])
theorem fit_cpH : cr_fit shFF shHH (fun j => if j < 9 then 1 + j else 17 + j) := cr_fit_of (by decide +kernel) (fun i j hi hj h => by
  have hi : i < 18 := hi
  have hj : j < 18 := hj
  split at h <;> split at h <;> omega)
theorem fit_cpC : cr_fit shFF shCC (fun j => if j < 13 then 10 + j else 22 + j) := cr_fit_of (by decide +kernel) (fun i j hi hj h => by
  have hi : i < 26 := hi
  have hj : j < 26 := hj
  split at h <;> split at h <;> omega)
/-- the helpers' rows copied, within two floors -/
def k_H (hn : Nat) (M : cr_M) : cr_M := fun q i => if q = 1 ∧ i = 0 then M 26 0 else if 2 ≤ q ∧ q ≤ 9 ∧ i < hn then M (25 + q) i else M q i
def k_C (cn : Nat) (M : cr_M) : cr_M := fun q i => if q = 10 ∧ i = 0 then M 35 0 else if 11 ≤ q ∧ q ≤ 22 ∧ i < cn then M (25 + q) i else M q i
theorem k_H_in {hn : Nat} {M : cr_M} : ∀ j, j < 18 → k_H hn M (if j < 9 then 1 + j else 17 + j) = h_cpy hn (fun k => M (if k < 9 then 1 + k else 17 + k)) j := by
  intro j hj
  funext i
  unfold k_H h_cpy
  by_cases h : j < 9
  · rw [if_pos h]
    by_cases a : j = 0 ∧ i = 0
    · obtain ⟨rfl, rfl⟩ := a; rfl
    · by_cases b : 1 ≤ j ∧ j ≤ 8 ∧ i < hn
      · rw [if_neg (by omega), if_pos (by omega), if_neg a, if_pos b]
        show M (25 + (1 + j)) i = M (if 9 + j < 9 then 1 + (9 + j) else 17 + (9 + j)) i
        rw [if_neg (by omega)]
        congr 1; omega
      · rw [if_neg (by omega), if_neg (by omega), if_neg a, if_neg b]
        show M (1 + j) i = M (if j < 9 then 1 + j else 17 + j) i
        rw [if_pos h]
  · rw [if_neg h, if_neg (by omega), if_neg (by omega), if_neg (by omega), if_neg (by omega)]
    show M (17 + j) i = M (if j < 9 then 1 + j else 17 + j) i
    rw [if_neg h]
theorem k_C_in {cn : Nat} {M : cr_M} : ∀ j, j < 26 → k_C cn M (if j < 13 then 10 + j else 22 + j) = c_cpy cn (fun k => M (if k < 13 then 10 + k else 22 + k)) j := by
  intro j hj
  funext i
  unfold k_C c_cpy
  by_cases h : j < 13
  · rw [if_pos h]
    by_cases a : j = 0 ∧ i = 0
    · obtain ⟨rfl, rfl⟩ := a; rfl
    · by_cases b : 1 ≤ j ∧ j ≤ 12 ∧ i < cn
      · rw [if_neg (by omega), if_pos (by omega), if_neg a, if_pos b]
        show M (25 + (10 + j)) i = M (if 13 + j < 13 then 10 + (13 + j) else 22 + (13 + j)) i
        rw [if_neg (by omega)]
        congr 1; omega
      · rw [if_neg (by omega), if_neg (by omega), if_neg a, if_neg b]
        show M (10 + j) i = M (if j < 13 then 10 + j else 22 + j) i
        rw [if_pos h]
  · rw [if_neg h, if_neg (by omega), if_neg (by omega), if_neg (by omega), if_neg (by omega)]
    show M (22 + j) i = M (if j < 13 then 10 + j else 22 + j) i
    rw [if_neg h]
def k_F (hn cn : Nat) (M : cr_M) : cr_M := cr_up (cr_up (cr_up (k_C cn (k_H hn M)) 0 4 (M 25 4)) 0 5 (M 25 5)) 0 6 (M 25 6)
theorem k_F_oth {hn cn : Nat} {M : cr_M} {j : Nat} (h : 25 ≤ j) : k_F hn cn M j = M j := by
  funext i
  unfold k_F
  rw [cr_rd, if_neg (by omega), cr_rd, if_neg (by omega), cr_rd, if_neg (by omega)]
  unfold k_C
  rw [if_neg (by omega), if_neg (by omega)]
  unfold k_H
  rw [if_neg (by omega), if_neg (by omega)]
theorem k_F_r {hn cn : Nat} {M N : cr_M} (hu : u_H hn (fun j => M (1 + j))) (h : r_F hn cn (fun j => M (25 + j)) N) : r_F hn cn (k_F hn cn M) N := by
  obtain ⟨⟨h1, h2, h3⟩, ⟨c1, c2, c3⟩, d1, d2, d3, -⟩ := h
  have eH : ∀ q i, 2 ≤ q → q ≤ 9 → i < hn → k_F hn cn M q i = M (25 + q) i := by
    intro q i a b c
    unfold k_F
    rw [cr_rd, if_neg (by omega), cr_rd, if_neg (by omega), cr_rd, if_neg (by omega)]
    unfold k_C
    rw [if_neg (by omega), if_neg (by omega)]
    unfold k_H
    rw [if_neg (by omega), if_pos ⟨a, b, c⟩]
  have eC : ∀ q i, 11 ≤ q → q ≤ 22 → i < cn → k_F hn cn M q i = M (25 + q) i := by
    intro q i a b c
    unfold k_F
    rw [cr_rd, if_neg (by omega), cr_rd, if_neg (by omega), cr_rd, if_neg (by omega)]
    unfold k_C
    rw [if_neg (by omega), if_pos ⟨a, b, c⟩]
    unfold k_H
    rw [if_neg (by omega), if_neg (by omega)]
  refine ⟨⟨h1, ?_, fun k hk => ?_⟩, ⟨c1, ?_, fun c hc => ?_⟩, ?_, ?_, ?_, fun q i a b c d => ?_⟩
  · have : k_F hn cn M (1 + 0) 0 = M 26 0 := by simp [k_F, cr_rd, k_C, k_H]
    exact this.trans h2
  · have q := h3 k hk
    unfold r_h1 at q ⊢
    have e : ∀ j, 1 ≤ j → j ≤ 8 → k_F hn cn M (1 + j) k = M (25 + (1 + j)) k := fun j a b => eH (1 + j) k (by omega) (by omega) hk
    obtain ⟨⟨g, g1, g2, g3⟩, q2, q3, q4, q5, q6, q7, q8⟩ := q
    exact ⟨⟨g, g1, (e 1 (by omega) (by omega)).trans g2, g3⟩, (e 2 (by omega) (by omega)).trans q2, (e 3 (by omega) (by omega)).trans q3, (e 4 (by omega) (by omega)).trans q4, q5.trans (bI_congr (show M (25 + (1 + 5)) k = 3 ↔ k_F hn cn M (1 + 5) k = 3 by rw [e 5 (by omega) (by omega)])), (e 6 (by omega) (by omega)).trans q6, (e 7 (by omega) (by omega)).trans q7, (e 8 (by omega) (by omega)).trans q8⟩
  · have : k_F hn cn M (10 + 0) 0 = M 35 0 := by simp [k_F, cr_rd, k_C, k_H]
    exact this.trans c2
  · have q := c3 c hc
    unfold r_c1 at q ⊢
    have e : ∀ j, 1 ≤ j → j ≤ 12 → k_F hn cn M (10 + j) c = M (25 + (10 + j)) c := fun j a b => eC (10 + j) c (by omega) (by omega) hc
    obtain ⟨q1, q2, q3, q4, q5, q6, q7, q8, q9, q10, q11, q12⟩ := q
    exact ⟨(e 1 (by omega) (by omega)).trans q1, (e 2 (by omega) (by omega)).trans q2, (e 3 (by omega) (by omega)).trans q3, (e 4 (by omega) (by omega)).trans q4, (e 5 (by omega) (by omega)).trans q5, (e 6 (by omega) (by omega)).trans q6, (e 7 (by omega) (by omega)).trans q7, (e 8 (by omega) (by omega)).trans q8, (e 9 (by omega) (by omega)).trans q9, fun z => (e 10 (by omega) (by omega)).trans (q10 z), (e 11 (by omega) (by omega)).trans q11, (e 12 (by omega) (by omega)).trans q12⟩
  · have : k_F hn cn M 0 4 = M 25 4 := by simp [k_F, cr_rd]
    exact this.trans d1
  · have : k_F hn cn M 0 5 = M 25 5 := by simp [k_F, cr_rd]
    exact this.trans d2
  · have : k_F hn cn M 0 6 = M 25 6 := by simp [k_F, cr_rd]
    exact this.trans d3
  · show k_F hn cn M (1 + q) i = 0
    unfold k_F
    rw [cr_rd, if_neg (by omega), cr_rd, if_neg (by omega), cr_rd, if_neg (by omega)]
    unfold k_C
    rw [if_neg (by omega), if_neg (by omega)]
    unfold k_H
    rw [if_neg (by omega), if_neg (by omega)]
    exact hu q i a b c d
set_option maxHeartbeats 2000000 in
theorem ev_X1_copyFrom {hn cn : Nat} {M N : cr_M} (h : r_F hn cn (fun j => M (25 + j)) N) : cr_EvM Y_X1_copyFrom [.inr (.inr 0), .inr (.inr 25)] M (none, k_F hn cn M) := by
  obtain ⟨h10, h200, z1, z2, -⟩ := r_F_z h
  have hz1 : (fun k => M (if k < 9 then 1 + k else 17 + k)) 9 0 = nI hn := z1
  have hz2 : (fun k => k_H hn M (if k < 13 then 10 + k else 22 + k)) 13 0 = nI cn := by
    show k_H hn M 35 0 = nI cn
    unfold k_H
    rw [if_neg (by omega), if_neg (by omega)]
    exact z2
  refine e_aload_n (pc := 0) dX1_copyFrom_0 rfl ?_
  refine e_getA (pc := 1) dX1_copyFrom_1 f_1_12 rfl rfl ?_
  refine e_aload_n (pc := 4) dX1_copyFrom_4 rfl ?_
  refine e_getA (pc := 5) dX1_copyFrom_5 f_1_12 rfl rfl ?_
  refine e_callV (pc := 8) (as := [.inr (.inr 9)]) (st := []) (v := none) (pl := fun j => if j < 9 then 1 + j else 17 + j) (M2 := k_H hn M) dX1_copyFrom_8 cs_X1_copyFrom_36 cv_X2_copyFrom fit_cpH rc_X2_copyFrom rfl (by decide) rfl (Nat.le_of_ble_eq_true rfl) (ev_X2_copyFrom (fun k => M (if k < 9 then 1 + k else 17 + k)) (hn := hn) hz1 h10) (fun j hj => k_H_in j hj) (fun k _ hk => by funext i; unfold k_H; rw [if_neg (fun z => hk 0 (by decide) (by rw [z.1]; rfl)), if_neg (fun z => hk (k - 1) (show k - 1 < 18 by omega) (by rw [if_pos (by omega)]; omega))]) ?_
  refine e_aload_n (pc := 11) dX1_copyFrom_11 rfl ?_
  refine e_getA (pc := 12) dX1_copyFrom_12 f_1_21 rfl rfl ?_
  refine e_aload_n (pc := 15) dX1_copyFrom_15 rfl ?_
  refine e_getA (pc := 16) dX1_copyFrom_16 f_1_21 rfl rfl ?_
  refine e_callV (pc := 19) (as := [.inr (.inr 13)]) (st := []) (v := none) (pl := fun j => if j < 13 then 10 + j else 22 + j) (M2 := k_C cn (k_H hn M)) dX1_copyFrom_19 cs_X1_copyFrom_40 cv_X0_copyFrom fit_cpC rc_X0_copyFrom rfl (by decide) rfl (Nat.le_of_ble_eq_true rfl) (ev_X0_copyFrom (fun k => k_H hn M (if k < 13 then 10 + k else 22 + k)) (cn := cn) hz2 h200) (fun j hj => k_C_in j hj) (fun k _ hk => by funext i; unfold k_C; rw [if_neg (fun z => hk 0 (by decide) (by rw [z.1]; rfl)), if_neg (fun z => hk (k - 10) (show k - 10 < 26 by omega) (by rw [if_pos (by omega)]; omega))]) ?_
  refine e_aload_n (pc := 22) dX1_copyFrom_22 rfl ?_
  refine e_aload_n (pc := 23) dX1_copyFrom_23 rfl ?_
  refine e_getI (pc := 24) dX1_copyFrom_24 f_1_43 rfl rfl ?_
  refine e_put (pc := 27) dX1_copyFrom_27 f_1_43 p_1_4 rfl rfl ?_
  refine e_aload_n (pc := 30) dX1_copyFrom_30 rfl ?_
  refine e_aload_n (pc := 31) dX1_copyFrom_31 rfl ?_
  refine e_getI (pc := 32) dX1_copyFrom_32 f_1_46 rfl rfl ?_
  refine e_put (pc := 35) dX1_copyFrom_35 f_1_46 p_1_5 rfl rfl ?_
  refine e_aload_n (pc := 38) dX1_copyFrom_38 rfl ?_
  refine e_aload_n (pc := 39) dX1_copyFrom_39 rfl ?_
  refine e_getI (pc := 40) dX1_copyFrom_40 f_1_32 rfl rfl ?_
  refine e_put (pc := 43) dX1_copyFrom_43 f_1_32 p_1_6 rfl rfl ?_
  refine r_vret (pc := 46) dX1_copyFrom_46 rfl ?_
  rfl
