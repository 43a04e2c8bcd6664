set_option maxHeartbeats 2000000 in
theorem lp_X1_bestHelper {hn cn : Nat} {F N : cr_M} {s : Nat} {w : Int32} (hR : r_F hn cn F N) (hs : s < 4) : ∀ (n j : Nat) (z : Int32), j + n = hn → z = s_oi (-9) (s_fo (fun k => s_cT N k s w) (fun a b => s_ah N s a b) j) → cr_Ev Y_X1_bestHelper 75 [(6, .inl (nI j)), (0, .inr (.inr 0)), (2, .inl (nI s)), (3, .inl w), (5, .inl z)] [] F (some (.inl (s_oi (-9) (s_fo (fun k => s_cT N k s w) (fun a b => s_ah N s a b) hn))), F) := by
  obtain ⟨h10, h200, z1, z2, z3, z4, z5⟩ := r_F_z hR
  intro n
  induction n with
  | zero =>
    intro j z hj hz
    refine e_iload (pc := 75) dX1_bestHelper_75 rfl ?_
    refine e_aload_n (pc := 77) dX1_bestHelper_77 rfl ?_
    refine e_getA (pc := 78) dX1_bestHelper_78 f_1_12 rfl rfl ?_
    refine e_getI (pc := 81) dX1_bestHelper_81 f_1_165 rfl rfl ?_
    refine e_icmp_ge (pc := 84) (tgt := 133) dX1_bestHelper_84 (by decide) (fun hc_84 => ?_) (fun hc_84 => ?_)
    · refine e_iload (pc := 133) dX1_bestHelper_133 rfl ?_
      refine r_iret (pc := 135) dX1_bestHelper_135 rfl ?_
      rw [hz, show j = hn by omega]
    · exact absurd (show F 1 0 ≤ nI j by rw [z1]; exact nI_le (by omega) (by omega)) (by assumption)
  | succ n ih =>
    intro j z hj hz
    rcases hfo : s_fo (fun k => s_cT N k s w) (fun a b => s_ah N s a b) j with _ | b
    · rw [hfo] at hz
      have hz : z = (-9) := hz
      subst hz
      refine e_iload (pc := 75) dX1_bestHelper_75 rfl ?_
      refine e_aload_n (pc := 77) dX1_bestHelper_77 rfl ?_
      refine e_getA (pc := 78) dX1_bestHelper_78 f_1_12 rfl rfl ?_
      refine e_getI (pc := 81) dX1_bestHelper_81 f_1_165 rfl rfl ?_
      refine e_icmp_ge (pc := 84) (tgt := 133) dX1_bestHelper_84 (by decide) (fun hc_84 => ?_) (fun hc_84 => ?_)
      · exact absurd (show F 1 0 ≤ nI j by assumption) (by rw [z1]; exact nI_ge (by omega) (by omega))
      · refine e_aload_n (pc := 87) dX1_bestHelper_87 rfl ?_
        refine e_getA (pc := 88) dX1_bestHelper_88 f_1_12 rfl rfl ?_
        refine e_iload (pc := 91) dX1_bestHelper_91 rfl ?_
        refine e_iload_n (pc := 93) dX1_bestHelper_93 rfl ?_
        refine e_iload_n (pc := 94) dX1_bestHelper_94 rfl ?_
        refine e_offR3i (pc := 95) (M' := fun _ _ => 0) dX1_bestHelper_95 cs_X1_bestHelper_166 cv_X2_canTake rc_X2_canTake fit_shF_shH_1 (by decide) (Nat.le_of_ble_eq_true rfl) (ev_X2_canTake w hR.1 (by omega) hs) ?_
        refine e_if_eq (pc := 98) (tgt := 127) dX1_bestHelper_98 (by decide) (fun hc_98 => ?_) (fun hc_98 => ?_)
        · first | refine e_iinc1 (pc := 127) dX1_bestHelper_127 rfl (by decide) ?_ | refine e_iincp (pc := 127) dX1_bestHelper_127 rfl (by decide) ?_
          refine e_goto (pc := 130) (tgt := 75) dX1_bestHelper_130 (by decide) ?_
          exact e_wk (ih (j + 1) _ (by omega) (by first | (rw [s_fo_t (by grind [bI_eq0]) (by grind [bI_eq0])]; rfl) | (rw [s_fo_f (by grind [bI_eq0]), hfo]; rfl))) ⟨rfl, rfl, rfl, rfl, rfl, trivial⟩
        · refine e_iload (pc := 101) dX1_bestHelper_101 rfl ?_
          refine e_bipush (pc := 103) (v := (-9)) dX1_bestHelper_103 (by decide) ?_
          refine e_icmp_eq (pc := 105) (tgt := 123) dX1_bestHelper_105 (by decide) (fun hc_105 => ?_) (fun hc_105 => ?_)
          · refine e_iload (pc := 123) dX1_bestHelper_123 rfl ?_
            refine e_istore (pc := 125) dX1_bestHelper_125 (by decide) ?_
            first | refine e_iinc1 (pc := 127) dX1_bestHelper_127 rfl (by decide) ?_ | refine e_iincp (pc := 127) dX1_bestHelper_127 rfl (by decide) ?_
            refine e_goto (pc := 130) (tgt := 75) dX1_bestHelper_130 (by decide) ?_
            exact e_wk (ih (j + 1) _ (by omega) (by first | (rw [s_fo_t (by grind [bI_eq0]) (by grind [bI_eq0])]; rfl) | (rw [s_fo_f (by grind [bI_eq0]), hfo]; rfl))) ⟨rfl, rfl, rfl, rfl, rfl, trivial⟩
          · exact absurd (rfl : (-9 : Int32) = -9) (by assumption)
    · rw [hfo] at hz
      have hz : z = nI b := hz
      have hb := s_fo_lt hfo
      have hbn : ¬ nI b = -9 := fun q => absurd (show nI b < 0 by rw [q]; decide) (nI_pos (by omega))
      subst hz
      refine e_iload (pc := 75) dX1_bestHelper_75 rfl ?_
      refine e_aload_n (pc := 77) dX1_bestHelper_77 rfl ?_
      refine e_getA (pc := 78) dX1_bestHelper_78 f_1_12 rfl rfl ?_
      refine e_getI (pc := 81) dX1_bestHelper_81 f_1_165 rfl rfl ?_
      refine e_icmp_ge (pc := 84) (tgt := 133) dX1_bestHelper_84 (by decide) (fun hc_84 => ?_) (fun hc_84 => ?_)
      · exact absurd (show F 1 0 ≤ nI j by assumption) (by rw [z1]; exact nI_ge (by omega) (by omega))
      · refine e_aload_n (pc := 87) dX1_bestHelper_87 rfl ?_
        refine e_getA (pc := 88) dX1_bestHelper_88 f_1_12 rfl rfl ?_
        refine e_iload (pc := 91) dX1_bestHelper_91 rfl ?_
        refine e_iload_n (pc := 93) dX1_bestHelper_93 rfl ?_
        refine e_iload_n (pc := 94) dX1_bestHelper_94 rfl ?_
        refine e_offR3i (pc := 95) (M' := fun _ _ => 0) dX1_bestHelper_95 cs_X1_bestHelper_166 cv_X2_canTake rc_X2_canTake fit_shF_shH_1 (by decide) (Nat.le_of_ble_eq_true rfl) (ev_X2_canTake w hR.1 (by omega) hs) ?_
        refine e_if_eq (pc := 98) (tgt := 127) dX1_bestHelper_98 (by decide) (fun hc_98 => ?_) (fun hc_98 => ?_)
        · first | refine e_iinc1 (pc := 127) dX1_bestHelper_127 rfl (by decide) ?_ | refine e_iincp (pc := 127) dX1_bestHelper_127 rfl (by decide) ?_
          refine e_goto (pc := 130) (tgt := 75) dX1_bestHelper_130 (by decide) ?_
          exact e_wk (ih (j + 1) _ (by omega) (by first | (rw [s_fo_t (by grind [bI_eq0]) (by grind [bI_eq0])]; rfl) | (rw [s_fo_f (by grind [bI_eq0]), hfo]; rfl))) ⟨rfl, rfl, rfl, rfl, rfl, trivial⟩
        · refine e_iload (pc := 101) dX1_bestHelper_101 rfl ?_
          refine e_bipush (pc := 103) (v := (-9)) dX1_bestHelper_103 (by decide) ?_
          refine e_icmp_eq (pc := 105) (tgt := 123) dX1_bestHelper_105 (by decide) (fun hc_105 => ?_) (fun hc_105 => ?_)
          · refine e_iload (pc := 123) dX1_bestHelper_123 rfl ?_
            refine e_istore (pc := 125) dX1_bestHelper_125 (by decide) ?_
            first | refine e_iinc1 (pc := 127) dX1_bestHelper_127 rfl (by decide) ?_ | refine e_iincp (pc := 127) dX1_bestHelper_127 rfl (by decide) ?_
            refine e_goto (pc := 130) (tgt := 75) dX1_bestHelper_130 (by decide) ?_
            exact e_wk (ih (j + 1) _ (by omega) (by first | (rw [s_fo_t (by grind [bI_eq0]) (by grind [bI_eq0])]; rfl) | (rw [s_fo_f (by grind [bI_eq0]), hfo]; rfl))) ⟨rfl, rfl, rfl, rfl, rfl, trivial⟩
          · refine e_aload_n (pc := 108) dX1_bestHelper_108 rfl ?_
            refine e_getA (pc := 109) dX1_bestHelper_109 f_1_12 rfl rfl ?_
            refine e_iload (pc := 112) dX1_bestHelper_112 rfl ?_
            refine e_iload (pc := 114) dX1_bestHelper_114 rfl ?_
            refine e_iload_n (pc := 116) dX1_bestHelper_116 rfl ?_
            refine e_offR3i (pc := 117) (M' := fun _ _ => 0) dX1_bestHelper_117 cs_X1_bestHelper_176 cv_X2_isBetter rc_X2_isBetter fit_shF_shH_1 (by decide) (Nat.le_of_ble_eq_true rfl) (ev_X2_isBetter hR.1 (by omega) (by omega) hs) ?_
            refine e_if_eq (pc := 120) (tgt := 127) dX1_bestHelper_120 (by decide) (fun hc_120 => ?_) (fun hc_120 => ?_)
            · first | refine e_iinc1 (pc := 127) dX1_bestHelper_127 rfl (by decide) ?_ | refine e_iincp (pc := 127) dX1_bestHelper_127 rfl (by decide) ?_
              refine e_goto (pc := 130) (tgt := 75) dX1_bestHelper_130 (by decide) ?_
              exact e_wk (ih (j + 1) _ (by omega) (by first | (rw [s_fo_t (by grind [bI_eq0]) (by grind [bI_eq0])]; rfl) | (rw [s_fo_f (by grind [bI_eq0]), hfo]; rfl))) ⟨rfl, rfl, rfl, rfl, rfl, trivial⟩
            · refine e_iload (pc := 123) dX1_bestHelper_123 rfl ?_
              refine e_istore (pc := 125) dX1_bestHelper_125 (by decide) ?_
              first | refine e_iinc1 (pc := 127) dX1_bestHelper_127 rfl (by decide) ?_ | refine e_iincp (pc := 127) dX1_bestHelper_127 rfl (by decide) ?_
              refine e_goto (pc := 130) (tgt := 75) dX1_bestHelper_130 (by decide) ?_
              exact e_wk (ih (j + 1) _ (by omega) (by first | (rw [s_fo_t (by grind [bI_eq0]) (by grind [bI_eq0])]; rfl) | (rw [s_fo_f (by grind [bI_eq0]), hfo]; rfl))) ⟨rfl, rfl, rfl, rfl, rfl, trivial⟩
/-- where anybody may take it who can -/
theorem n_hf_loop {hn cn tk c s : Nat} {N : cr_M} (hJ : n_J hn cn tk N) (hc : c < cn) (h0 : N 16 c = 0) (es : N 11 c = nI s) (hs : s < 4) (hkp : ¬ (N 10 c = 1 ∧ N 0 3 - N 17 c < N 0 7)) (hno : ∀ k, k < hn → N 15 c = nI k → ¬ s_cT N k s (bI (N 10 c = 3))) : n_hf hn N c = s_fo (fun k => s_cT N k s (bI (N 10 c = 3))) (fun a b => s_ah N s a b) hn := by
  have h10 := hJ.1.1
  have hsn : n_s N c = s := by show (N 11 c).toNatClampNeg = s; rw [es]; exact nI_clamp (by omega)
  have e : ∀ k, n_may N k c ↔ s_cT N k s (bI (N 10 c = 3)) := fun k => by
    rw [n_may_k hJ hc h0 es hs]
    constructor
    · exact fun z => z.1
    · intro z; exact ⟨z, by grind⟩
  unfold n_hf
  rw [if_neg ?_, hsn]
  · exact s_fo_congr (fun i _ => e i) (fun _ _ _ _ _ _ => Iff.rfl)
  · rintro ⟨h1, h2⟩
    rcases (hJ.1.2.2.2.2 c hc).2 with q | ⟨k, hk, q⟩
    · rw [q] at h1; exact absurd h1 (by decide)
    · rw [q, nI_clamp (by omega)] at h2
      exact hno k hk q ((e k).mp h2)
theorem n_hf_own {hn cn tk c s k : Nat} {N : cr_M} (hJ : n_J hn cn tk N) (hc : c < cn) (h0 : N 16 c = 0) (es : N 11 c = nI s) (hs : s < 4) (hk : k < hn) (ho : N 15 c = nI k) (hcT : s_cT N k s (bI (N 10 c = 3))) : n_hf hn N c = some k := by
  have h10 := hJ.1.1
  unfold n_hf
  rw [ho, nI_clamp (by omega), if_pos ⟨nI_pos' (by omega), (n_may_k hJ hc h0 es hs).mpr ⟨hcT, Or.inr (Or.inr ho)⟩⟩]
set_option maxHeartbeats 2000000 in
theorem ev_X1_bestHelper {hn cn tk : Nat} {F N : cr_M} {c : Nat} (hJ : n_J hn cn tk N) (hR : r_F hn cn F N) (hc : c < cn) (h0 : N 16 c = 0) (htk : n_tk hn N c) : cr_EvM Y_X1_bestHelper [.inr (.inr 0), .inl (nI c)] F (some (.inl (s_oi (-9) (n_hf hn N c))), F) := by
  obtain ⟨s, hs, es⟩ := (hJ.1.2.2.2.2 c hc).1
  have es2 : F 14 c = nI s := (r_F_c hR hc).2.2.2.1.trans es
  have hsn : n_s N c = s := by show (N 11 c).toNatClampNeg = s; rw [es]; exact nI_clamp (by omega)
  obtain ⟨x1, x2, x3, x4, x5, x6, x7, x8, x9, x10, x11, x12⟩ := r_F_c hR hc
  obtain ⟨h10, h200, z1, z2, z3, z4, z5⟩ := r_F_z hR
  rcases (hJ.2.2.2.2.2.1 c hc).1 with ⟨hk1, ko, hkl, hno⟩ | ⟨hk1, hno⟩
  · have hno2 : F 13 c = nI ko := x3.trans hno
    refine e_aload_n (pc := 0) dX1_bestHelper_0 rfl ?_
    refine e_getA (pc := 1) dX1_bestHelper_1 f_1_21 rfl rfl ?_
    refine e_getA (pc := 4) dX1_bestHelper_4 f_1_133 rfl rfl ?_
    refine e_iload_n (pc := 7) dX1_bestHelper_7 rfl ?_
    refine e_ialdV (pc := 8) (nI s) dX1_bestHelper_8 rfl (by omega) (by decide) es2 ?_
    refine e_istore_n (pc := 9) dX1_bestHelper_9 (by decide) ?_
    refine e_aload_n (pc := 10) dX1_bestHelper_10 rfl ?_
    refine e_getA (pc := 11) dX1_bestHelper_11 f_1_21 rfl rfl ?_
    refine e_getA (pc := 14) dX1_bestHelper_14 f_1_143 rfl rfl ?_
    refine e_iload_n (pc := 17) dX1_bestHelper_17 rfl ?_
    first | refine e_ialdN (pc := 18) dX1_bestHelper_18 rfl (by omega) (by decide) ?_ | refine e_iald (pc := 18) dX1_bestHelper_18 rfl (by assumption) ?_
    refine e_iconst (pc := 19) (v := 3) dX1_bestHelper_19 (by decide) ?_
    refine e_icmp_ne (pc := 20) (tgt := 27) dX1_bestHelper_20 (by decide) (fun hc_20 => ?_) (fun hc_20 => ?_)
    · refine e_iconst (pc := 27) (v := 0) dX1_bestHelper_27 (by decide) ?_
      have hw : bI (N 10 c = 3) = 0 := bI_f (fun q => hc_20 (x2.trans q))
      refine e_istore_n (pc := 28) dX1_bestHelper_28 (by decide) ?_
      refine e_aload_n (pc := 29) dX1_bestHelper_29 rfl ?_
      refine e_getA (pc := 30) dX1_bestHelper_30 f_1_21 rfl rfl ?_
      refine e_getA (pc := 33) dX1_bestHelper_33 f_1_173 rfl rfl ?_
      refine e_iload_n (pc := 36) dX1_bestHelper_36 rfl ?_
      refine e_ialdV (pc := 37) (nI ko) dX1_bestHelper_37 rfl (by omega) (by decide) hno2 ?_
      refine e_istore (pc := 38) dX1_bestHelper_38 (by decide) ?_
      refine e_aload_n (pc := 40) dX1_bestHelper_40 rfl ?_
      refine e_getA (pc := 41) dX1_bestHelper_41 f_1_12 rfl rfl ?_
      refine e_iload (pc := 44) dX1_bestHelper_44 rfl ?_
      refine e_iload_n (pc := 46) dX1_bestHelper_46 rfl ?_
      refine e_iload_n (pc := 47) dX1_bestHelper_47 rfl ?_
      refine e_offR3i (pc := 48) (M' := fun _ _ => 0) dX1_bestHelper_48 cs_X1_bestHelper_166 cv_X2_canTake rc_X2_canTake fit_shF_shH_1 (by decide) (Nat.le_of_ble_eq_true rfl) (ev_X2_canTake _ hR.1 hkl hs) ?_
      refine e_if_eq (pc := 51) (tgt := 57) dX1_bestHelper_51 (by decide) (fun hc_51 => ?_) (fun hc_51 => ?_)
      · refine e_aload_n (pc := 57) dX1_bestHelper_57 rfl ?_
        refine e_iload_n (pc := 58) dX1_bestHelper_58 rfl ?_
        refine e_self1i (pc := 59) dX1_bestHelper_59 cs_X1_bestHelper_170 cv_X1_isKeptForOwn rc_X1_isKeptForOwn rfl (by decide) (Nat.le_of_ble_eq_true rfl) (ev_X1_isKeptForOwn hR hc) ?_
        refine e_if_eq (pc := 62) (tgt := 68) dX1_bestHelper_62 (by decide) (fun hc_62 => ?_) (fun hc_62 => ?_)
        · refine e_bipush (pc := 68) (v := (-9)) dX1_bestHelper_68 (by decide) ?_
          refine e_istore (pc := 70) dX1_bestHelper_70 (by decide) ?_
          refine e_iconst (pc := 72) (v := 0) dX1_bestHelper_72 (by decide) ?_
          refine e_istore (pc := 73) dX1_bestHelper_73 (by decide) ?_
          rw [n_hf_loop hJ hc h0 es hs (bI_eq0.mp hc_62) (fun k hk q => by rw [hno] at q; rw [← (nI_eq (by omega) (by omega)).mp q, hw]; exact bI_eq0.mp hc_51), hw]
          exact e_wk (lp_X1_bestHelper hR hs hn 0 _ (by omega) rfl) ⟨rfl, rfl, rfl, rfl, rfl, trivial⟩
        · have hkp := Classical.not_not.mp (fun q => hc_62 (bI_f q))
          rw [n_tk_own hJ hc h0 es hs hkp hno hkl] at htk
          exact absurd htk (by have q := bI_eq0.mp hc_51; rw [show bI (N 10 c = 3) = 0 from bI_f (by rw [hkp.1]; decide)] at hw; first | (rw [← hw] at q; exact q) | exact q)
      · refine e_iload (pc := 54) dX1_bestHelper_54 rfl ?_
        refine r_iret (pc := 56) dX1_bestHelper_56 rfl ?_
        rw [n_hf_own hJ hc h0 es hs hkl hno (by rw [hw]; exact Classical.not_not.mp (fun q => hc_51 (bI_f q)))]
        rfl
    · refine e_iconst (pc := 23) (v := 1) dX1_bestHelper_23 (by decide) ?_
      refine e_goto (pc := 24) (tgt := 28) dX1_bestHelper_24 (by decide) ?_
      have hw : bI (N 10 c = 3) = 1 := bI_t (x2.symm.trans hc_20)
      refine e_istore_n (pc := 28) dX1_bestHelper_28 (by decide) ?_
      refine e_aload_n (pc := 29) dX1_bestHelper_29 rfl ?_
      refine e_getA (pc := 30) dX1_bestHelper_30 f_1_21 rfl rfl ?_
      refine e_getA (pc := 33) dX1_bestHelper_33 f_1_173 rfl rfl ?_
      refine e_iload_n (pc := 36) dX1_bestHelper_36 rfl ?_
      refine e_ialdV (pc := 37) (nI ko) dX1_bestHelper_37 rfl (by omega) (by decide) hno2 ?_
      refine e_istore (pc := 38) dX1_bestHelper_38 (by decide) ?_
      refine e_aload_n (pc := 40) dX1_bestHelper_40 rfl ?_
      refine e_getA (pc := 41) dX1_bestHelper_41 f_1_12 rfl rfl ?_
      refine e_iload (pc := 44) dX1_bestHelper_44 rfl ?_
      refine e_iload_n (pc := 46) dX1_bestHelper_46 rfl ?_
      refine e_iload_n (pc := 47) dX1_bestHelper_47 rfl ?_
      refine e_offR3i (pc := 48) (M' := fun _ _ => 0) dX1_bestHelper_48 cs_X1_bestHelper_166 cv_X2_canTake rc_X2_canTake fit_shF_shH_1 (by decide) (Nat.le_of_ble_eq_true rfl) (ev_X2_canTake _ hR.1 hkl hs) ?_
      refine e_if_eq (pc := 51) (tgt := 57) dX1_bestHelper_51 (by decide) (fun hc_51 => ?_) (fun hc_51 => ?_)
      · refine e_aload_n (pc := 57) dX1_bestHelper_57 rfl ?_
        refine e_iload_n (pc := 58) dX1_bestHelper_58 rfl ?_
        refine e_self1i (pc := 59) dX1_bestHelper_59 cs_X1_bestHelper_170 cv_X1_isKeptForOwn rc_X1_isKeptForOwn rfl (by decide) (Nat.le_of_ble_eq_true rfl) (ev_X1_isKeptForOwn hR hc) ?_
        refine e_if_eq (pc := 62) (tgt := 68) dX1_bestHelper_62 (by decide) (fun hc_62 => ?_) (fun hc_62 => ?_)
        · refine e_bipush (pc := 68) (v := (-9)) dX1_bestHelper_68 (by decide) ?_
          refine e_istore (pc := 70) dX1_bestHelper_70 (by decide) ?_
          refine e_iconst (pc := 72) (v := 0) dX1_bestHelper_72 (by decide) ?_
          refine e_istore (pc := 73) dX1_bestHelper_73 (by decide) ?_
          rw [n_hf_loop hJ hc h0 es hs (bI_eq0.mp hc_62) (fun k hk q => by rw [hno] at q; rw [← (nI_eq (by omega) (by omega)).mp q, hw]; exact bI_eq0.mp hc_51), hw]
          exact e_wk (lp_X1_bestHelper hR hs hn 0 _ (by omega) rfl) ⟨rfl, rfl, rfl, rfl, rfl, trivial⟩
        · have hkp := Classical.not_not.mp (fun q => hc_62 (bI_f q))
          rw [n_tk_own hJ hc h0 es hs hkp hno hkl] at htk
          exact absurd htk (by have q := bI_eq0.mp hc_51; rw [show bI (N 10 c = 3) = 0 from bI_f (by rw [hkp.1]; decide)] at hw; first | (rw [← hw] at q; exact q) | exact q)
      · refine e_iload (pc := 54) dX1_bestHelper_54 rfl ?_
        refine r_iret (pc := 56) dX1_bestHelper_56 rfl ?_
        rw [n_hf_own hJ hc h0 es hs hkl hno (by rw [hw]; exact Classical.not_not.mp (fun q => hc_51 (bI_f q)))]
        rfl
  · have hno2 : F 13 c = -9 := x3.trans hno
    refine e_aload_n (pc := 0) dX1_bestHelper_0 rfl ?_
    refine e_getA (pc := 1) dX1_bestHelper_1 f_1_21 rfl rfl ?_
    refine e_getA (pc := 4) dX1_bestHelper_4 f_1_133 rfl rfl ?_
    refine e_iload_n (pc := 7) dX1_bestHelper_7 rfl ?_
    refine e_ialdV (pc := 8) (nI s) dX1_bestHelper_8 rfl (by omega) (by decide) es2 ?_
    refine e_istore_n (pc := 9) dX1_bestHelper_9 (by decide) ?_
    refine e_aload_n (pc := 10) dX1_bestHelper_10 rfl ?_
    refine e_getA (pc := 11) dX1_bestHelper_11 f_1_21 rfl rfl ?_
    refine e_getA (pc := 14) dX1_bestHelper_14 f_1_143 rfl rfl ?_
    refine e_iload_n (pc := 17) dX1_bestHelper_17 rfl ?_
    first | refine e_ialdN (pc := 18) dX1_bestHelper_18 rfl (by omega) (by decide) ?_ | refine e_iald (pc := 18) dX1_bestHelper_18 rfl (by assumption) ?_
    refine e_iconst (pc := 19) (v := 3) dX1_bestHelper_19 (by decide) ?_
    refine e_icmp_ne (pc := 20) (tgt := 27) dX1_bestHelper_20 (by decide) (fun hc_20 => ?_) (fun hc_20 => ?_)
    · refine e_iconst (pc := 27) (v := 0) dX1_bestHelper_27 (by decide) ?_
      have hw : bI (N 10 c = 3) = 0 := bI_f (fun q => hc_20 (x2.trans q))
      refine e_istore_n (pc := 28) dX1_bestHelper_28 (by decide) ?_
      refine e_aload_n (pc := 29) dX1_bestHelper_29 rfl ?_
      refine e_getA (pc := 30) dX1_bestHelper_30 f_1_21 rfl rfl ?_
      refine e_getA (pc := 33) dX1_bestHelper_33 f_1_173 rfl rfl ?_
      refine e_iload_n (pc := 36) dX1_bestHelper_36 rfl ?_
      refine e_ialdV (pc := 37) (-9) dX1_bestHelper_37 rfl (by omega) (by decide) hno2 ?_
      refine e_istore (pc := 38) dX1_bestHelper_38 (by decide) ?_
      refine e_aload_n (pc := 40) dX1_bestHelper_40 rfl ?_
      refine e_getA (pc := 41) dX1_bestHelper_41 f_1_12 rfl rfl ?_
      refine e_iload (pc := 44) dX1_bestHelper_44 rfl ?_
      refine e_iload_n (pc := 46) dX1_bestHelper_46 rfl ?_
      refine e_iload_n (pc := 47) dX1_bestHelper_47 rfl ?_
      refine e_offR3i (pc := 48) (M' := fun _ _ => 0) dX1_bestHelper_48 cs_X1_bestHelper_166 cv_X2_canTake rc_X2_canTake fit_shF_shH_1 (by decide) (Nat.le_of_ble_eq_true rfl) (ev_X2_canTake0 _ _ _ _ (by decide)) ?_
      refine e_if_eq (pc := 51) (tgt := 57) dX1_bestHelper_51 (by decide) (fun hc_51 => ?_) (fun hc_51 => ?_)
      · refine e_aload_n (pc := 57) dX1_bestHelper_57 rfl ?_
        refine e_iload_n (pc := 58) dX1_bestHelper_58 rfl ?_
        refine e_self1i (pc := 59) dX1_bestHelper_59 cs_X1_bestHelper_170 cv_X1_isKeptForOwn rc_X1_isKeptForOwn rfl (by decide) (Nat.le_of_ble_eq_true rfl) (ev_X1_isKeptForOwn hR hc) ?_
        refine e_if_eq (pc := 62) (tgt := 68) dX1_bestHelper_62 (by decide) (fun hc_62 => ?_) (fun hc_62 => ?_)
        · refine e_bipush (pc := 68) (v := (-9)) dX1_bestHelper_68 (by decide) ?_
          refine e_istore (pc := 70) dX1_bestHelper_70 (by decide) ?_
          refine e_iconst (pc := 72) (v := 0) dX1_bestHelper_72 (by decide) ?_
          refine e_istore (pc := 73) dX1_bestHelper_73 (by decide) ?_
          rw [n_hf_loop hJ hc h0 es hs (bI_eq0.mp hc_62) (fun k hk q => absurd (hno.symm.trans q) (fun y => absurd (show nI k < 0 by rw [← y]; decide) (nI_pos (by omega)))), hw]
          exact e_wk (lp_X1_bestHelper hR hs hn 0 _ (by omega) rfl) ⟨rfl, rfl, rfl, rfl, rfl, trivial⟩
        · exact absurd (Classical.not_not.mp (fun q => hc_62 (bI_f q))).1 hk1
      · exact absurd rfl (by assumption)
    · refine e_iconst (pc := 23) (v := 1) dX1_bestHelper_23 (by decide) ?_
      refine e_goto (pc := 24) (tgt := 28) dX1_bestHelper_24 (by decide) ?_
      have hw : bI (N 10 c = 3) = 1 := bI_t (x2.symm.trans hc_20)
      refine e_istore_n (pc := 28) dX1_bestHelper_28 (by decide) ?_
      refine e_aload_n (pc := 29) dX1_bestHelper_29 rfl ?_
      refine e_getA (pc := 30) dX1_bestHelper_30 f_1_21 rfl rfl ?_
      refine e_getA (pc := 33) dX1_bestHelper_33 f_1_173 rfl rfl ?_
      refine e_iload_n (pc := 36) dX1_bestHelper_36 rfl ?_
      refine e_ialdV (pc := 37) (-9) dX1_bestHelper_37 rfl (by omega) (by decide) hno2 ?_
      refine e_istore (pc := 38) dX1_bestHelper_38 (by decide) ?_
      refine e_aload_n (pc := 40) dX1_bestHelper_40 rfl ?_
      refine e_getA (pc := 41) dX1_bestHelper_41 f_1_12 rfl rfl ?_
      refine e_iload (pc := 44) dX1_bestHelper_44 rfl ?_
      refine e_iload_n (pc := 46) dX1_bestHelper_46 rfl ?_
      refine e_iload_n (pc := 47) dX1_bestHelper_47 rfl ?_
      refine e_offR3i (pc := 48) (M' := fun _ _ => 0) dX1_bestHelper_48 cs_X1_bestHelper_166 cv_X2_canTake rc_X2_canTake fit_shF_shH_1 (by decide) (Nat.le_of_ble_eq_true rfl) (ev_X2_canTake0 _ _ _ _ (by decide)) ?_
      refine e_if_eq (pc := 51) (tgt := 57) dX1_bestHelper_51 (by decide) (fun hc_51 => ?_) (fun hc_51 => ?_)
      · refine e_aload_n (pc := 57) dX1_bestHelper_57 rfl ?_
        refine e_iload_n (pc := 58) dX1_bestHelper_58 rfl ?_
        refine e_self1i (pc := 59) dX1_bestHelper_59 cs_X1_bestHelper_170 cv_X1_isKeptForOwn rc_X1_isKeptForOwn rfl (by decide) (Nat.le_of_ble_eq_true rfl) (ev_X1_isKeptForOwn hR hc) ?_
        refine e_if_eq (pc := 62) (tgt := 68) dX1_bestHelper_62 (by decide) (fun hc_62 => ?_) (fun hc_62 => ?_)
        · refine e_bipush (pc := 68) (v := (-9)) dX1_bestHelper_68 (by decide) ?_
          refine e_istore (pc := 70) dX1_bestHelper_70 (by decide) ?_
          refine e_iconst (pc := 72) (v := 0) dX1_bestHelper_72 (by decide) ?_
          refine e_istore (pc := 73) dX1_bestHelper_73 (by decide) ?_
          rw [n_hf_loop hJ hc h0 es hs (bI_eq0.mp hc_62) (fun k hk q => absurd (hno.symm.trans q) (fun y => absurd (show nI k < 0 by rw [← y]; decide) (nI_pos (by omega)))), hw]
          exact e_wk (lp_X1_bestHelper hR hs hn 0 _ (by omega) rfl) ⟨rfl, rfl, rfl, rfl, rfl, trivial⟩
        · exact absurd (Classical.not_not.mp (fun q => hc_62 (bI_f q))).1 hk1
      · exact absurd rfl (by assumption)
theorem r_F_g1 {hn cn tk c k s : Nat} {F N : cr_M} (hJ : n_J hn cn tk N) (hR : r_F hn cn F N) (hc : c < cn) (hk : k < hn) (es : N 11 c = nI s) (hs : s < 4) {e : Int32} (he : e = N 0 3 + (N 12 c * (5 - N 4 (4 * k + s)) + 3) / 4) : r_F hn cn (cr_mg (cr_mg F 10 13 (c_start (fun j => F (10 + j)) c (nI k) (N 0 3) e)) 1 9 (h_take (fun j => cr_mg F 10 13 (c_start (fun j => F (10 + j)) c (nI k) (N 0 3) e) (1 + j)) k (N 10 c) (N 0 3))) (n_g1 N c k) := by
  have hsn : n_s N c = s := by show (N 11 c).toNatClampNeg = s; rw [es]; exact nI_clamp (by omega)
  have hC := r_C_start (k := k) (h := nI k) (t := N 0 3) (e := e) hR.2.1 hc rfl (by rw [he, hsn]) rfl (hJ.2.2.2.2.2.1 c hc).2.2.2.2.2.2.2.2
  have hH := r_H_take (c := c) (k := k) (t := N 0 3) (w := N 10 c) (r_H_cg (H' := fun j => cr_mg F 10 13 (c_start (fun j => F (10 + j)) c (nI k) (N 0 3) e) (1 + j)) hR.1 (fun j hj => cr_mg_out (by omega)) (fun _ _ _ => rfl)) rfl rfl
  refine ⟨r_H_cg hH (fun j hj => cr_mg_in hj) (fun _ _ _ => rfl), r_C_cg hC (fun j hj => ?_) (fun _ _ _ => rfl), ?_, ?_, ?_, u_H_cg (u_H_take (u_H_cg hR.2.2.2.2.2 (fun j hj => cr_mg_out (by omega))) hk) (fun j hj => cr_mg_in hj)⟩
  · rw [cr_mg_out (by omega)]
    exact cr_mg_in hj
  · rw [cr_mg_out (by omega), cr_mg_out (by omega)]; exact hR.2.2.1
  · rw [cr_mg_out (by omega), cr_mg_out (by omega)]; exact hR.2.2.2.1
  · rw [cr_mg_out (by omega), cr_mg_out (by omega)]; exact hR.2.2.2.2.1
theorem give_k {F N : cr_M} {c : Nat} {h t e : Int32} (x2 : F 12 c = N 10 c) : cr_mg F 10 (cr_sh Y_X0_start).length (c_start (fun j => F (10 + j)) c h t e) 12 c = N 10 c := by
  show cr_mg F 10 13 (c_start (fun j => F (10 + j)) c h t e) (10 + 2) c = _
  rw [cr_mg_in (by omega)]
  unfold c_start
  split <;> simp [cr_rd] <;> exact x2
set_option maxHeartbeats 2000000 in
theorem ev_X1_give {hn cn tk : Nat} {F N : cr_M} {c k : Nat} (hJ : n_J hn cn tk N) (hR : r_F hn cn F N) (hc : c < cn) (hk : k < hn) : ∃ F', cr_EvM Y_X1_give [.inr (.inr 0), .inl (nI c), .inl (nI k)] F (none, F') ∧ r_F hn cn F' (n_g1 N c k) := by
  obtain ⟨s, hs, es⟩ := (hJ.1.2.2.2.2 c hc).1
  have es2 : F 14 c = nI s := (r_F_c hR hc).2.2.2.1.trans es
  have hsn : n_s N c = s := by show (N 11 c).toNatClampNeg = s; rw [es]; exact nI_clamp (by omega)
  obtain ⟨x1, x2, x3, x4, x5, x6, x7, x8, x9, x10, x11, x12⟩ := r_F_c hR hc
  obtain ⟨h10, h200, z1, z2, z3, z4, z5⟩ := r_F_z hR
  refine ⟨_, ?_, r_F_g1 hJ hR hc hk es hs rfl⟩
  · show cr_EvM Y_X1_give _ F (none, _)
    refine e_aload_n (pc := 0) dX1_give_0 rfl ?_
    refine e_getA (pc := 1) dX1_give_1 f_1_21 rfl rfl ?_
    refine e_getA (pc := 4) dX1_give_4 f_1_130 rfl rfl ?_
    refine e_iload_n (pc := 7) dX1_give_7 rfl ?_
    refine e_ialdV (pc := 8) (N 12 c) dX1_give_8 rfl (by omega) (by decide) x5 ?_
    refine e_iconst (pc := 9) (v := 5) dX1_give_9 (by decide) ?_
    refine e_aload_n (pc := 10) dX1_give_10 rfl ?_
    refine e_getA (pc := 11) dX1_give_11 f_1_12 rfl rfl ?_
    refine e_iload_n (pc := 14) dX1_give_14 rfl ?_
    refine e_aload_n (pc := 15) dX1_give_15 rfl ?_
    refine e_getA (pc := 16) dX1_give_16 f_1_21 rfl rfl ?_
    refine e_getA (pc := 19) dX1_give_19 f_1_133 rfl rfl ?_
    refine e_iload_n (pc := 22) dX1_give_22 rfl ?_
    refine e_ialdV (pc := 23) (nI s) dX1_give_23 rfl (by omega) (by decide) es2 ?_
    refine e_offR2i (pc := 24) (M' := fun _ _ => 0) dX1_give_24 cs_X1_give_136 cv_X2_gradeFor rc_X2_gradeFor fit_shF_shH_1 (by decide) (Nat.le_of_ble_eq_true rfl) (ev_X2_gradeForN hR.1 hk hs) ?_
    refine e_isub (pc := 27) dX1_give_27 ?_
    refine e_imul (pc := 28) dX1_give_28 ?_
    refine e_istore_n (pc := 29) dX1_give_29 (by decide) ?_
    refine e_aload_n (pc := 30) dX1_give_30 rfl ?_
    refine e_getA (pc := 31) dX1_give_31 f_1_21 rfl rfl ?_
    refine e_iload_n (pc := 34) dX1_give_34 rfl ?_
    refine e_iload_n (pc := 35) dX1_give_35 rfl ?_
    refine e_aload_n (pc := 36) dX1_give_36 rfl ?_
    refine e_getIv (pc := 37) (N 0 3) dX1_give_37 f_1_43 rfl rfl z3 ?_
    refine e_aload_n (pc := 40) dX1_give_40 rfl ?_
    refine e_getIv (pc := 41) (N 0 3) dX1_give_41 f_1_43 rfl rfl z3 ?_
    refine e_iload_n (pc := 44) dX1_give_44 rfl ?_
    refine e_iconst (pc := 45) (v := 3) dX1_give_45 (by decide) ?_
    refine e_iadd (pc := 46) dX1_give_46 ?_
    refine e_iconst (pc := 47) (v := 4) dX1_give_47 (by decide) ?_
    refine e_idiv (pc := 48) dX1_give_48 (by decide) ?_
    refine e_iadd (pc := 49) dX1_give_49 ?_
    refine e_off4v (pc := 50) dX1_give_50 cs_X1_give_139 cv_X0_start rc_X0_start fit_shF_shC_10 (by decide) (Nat.le_of_ble_eq_true rfl) (ev_X0_start _ _ _ _ (by omega)) ?_
    refine e_aload_n (pc := 53) dX1_give_53 rfl ?_
    refine e_getA (pc := 54) dX1_give_54 f_1_12 rfl rfl ?_
    refine e_iload_n (pc := 57) dX1_give_57 rfl ?_
    refine e_aload_n (pc := 58) dX1_give_58 rfl ?_
    refine e_getA (pc := 59) dX1_give_59 f_1_21 rfl rfl ?_
    refine e_getA (pc := 62) dX1_give_62 f_1_143 rfl rfl ?_
    refine e_iload_n (pc := 65) dX1_give_65 rfl ?_
    refine e_ialdV (pc := 66) (N 10 c) dX1_give_66 rfl (by omega) (by decide) (give_k x2) ?_
    refine e_aload_n (pc := 67) dX1_give_67 rfl ?_
    refine e_getIv (pc := 68) (N 0 3) dX1_give_68 f_1_43 rfl rfl z3 ?_
    refine e_off3v (pc := 71) dX1_give_71 cs_X1_give_146 cv_X2_take rc_X2_take fit_shF_shH_1 (by decide) (Nat.le_of_ble_eq_true rfl) (ev_X2_take _ _ _ (by omega)) ?_
    refine r_vret (pc := 74) dX1_give_74 rfl ?_
    rfl
set_option maxHeartbeats 4000000 in
theorem lp_X1_giveAll {hn cn tk : Nat} : ∀ (n j : Nat) (F N : cr_M), j + n = cn → n_J hn cn tk N → r_F hn cn F N → ∃ F', cr_Ev Y_X1_giveAll 2 [(1, .inl (nI j)), (0, .inr (.inr 0))] [] F (none, F') ∧ r_F hn cn F' (n_gv hn cn n N) := by
  intro n
  induction n with
  | zero =>
    intro j F N hj hJ hR
    obtain ⟨h10, h200, z1, z2, z3, z4, z5⟩ := r_F_z hR
    refine ⟨F, ?_, hR⟩
    · skip
      refine e_iload_n (pc := 2) dX1_giveAll_2 rfl ?_
      refine e_aload_n (pc := 3) dX1_giveAll_3 rfl ?_
      refine e_getA (pc := 4) dX1_giveAll_4 f_1_21 rfl rfl ?_
      refine e_getI (pc := 7) dX1_giveAll_7 f_1_94 rfl rfl ?_
      refine e_icmp_ge (pc := 10) (tgt := 64) dX1_giveAll_10 (by decide) (fun hc_10 => ?_) (fun hc_10 => ?_)
      · refine r_vret (pc := 64) dX1_giveAll_64 rfl ?_
        rfl
      · exact absurd (show F 10 0 ≤ nI j by rw [z2]; exact nI_le (by omega) (by omega)) (by assumption)
  | succ n ih =>
    intro j F N hj hJ hR
    obtain ⟨h10, h200, z1, z2, z3, z4, z5⟩ := r_F_z hR
    have hRM := (t_G_M hR).1
    obtain ⟨-, -, y1, y2, -⟩ := r_F_z hRM
    rcases hnx : n_nx hn cn N with _ | c
    · refine ⟨t_M hn N F 4, ?_, by rw [show n_gv hn cn (n + 1) N = N by rw [n_gv, hnx]]; exact hRM⟩
      · skip
        refine e_iload_n (pc := 2) dX1_giveAll_2 rfl ?_
        refine e_aload_n (pc := 3) dX1_giveAll_3 rfl ?_
        refine e_getA (pc := 4) dX1_giveAll_4 f_1_21 rfl rfl ?_
        refine e_getI (pc := 7) dX1_giveAll_7 f_1_94 rfl rfl ?_
        refine e_icmp_ge (pc := 10) (tgt := 64) dX1_giveAll_10 (by decide) (fun hc_10 => ?_) (fun hc_10 => ?_)
        · exact absurd (show F 10 0 ≤ nI j by assumption) (by rw [z2]; exact nI_ge (by omega) (by omega))
        · refine e_aload_n (pc := 13) dX1_giveAll_13 rfl ?_
          refine e_self0i (pc := 14) dX1_giveAll_14 cs_X1_giveAll_120 cv_X1_nextToGive rc_X1_nextToGive rfl (by decide) (Nat.le_of_ble_eq_true rfl) (by have h := ev_X1_nextToGive hJ hR; rw [hnx] at h; exact h) ?_
          refine e_istore_n (pc := 17) dX1_giveAll_17 (by decide) ?_
          refine e_aload_n (pc := 18) dX1_giveAll_18 rfl ?_
          refine e_getA (pc := 19) dX1_giveAll_19 f_1_21 rfl rfl ?_
          refine e_iload_n (pc := 22) dX1_giveAll_22 rfl ?_
          refine e_offR1i (pc := 23) (M' := fun _ _ => 0) dX1_giveAll_23 cs_X1_giveAll_123 cv_X0_has rc_X0_has fit_shF_shC_10 (by decide) (Nat.le_of_ble_eq_true rfl) (ev_X0_has _ _) ?_
          refine e_if_eq (pc := 26) (tgt := 37) dX1_giveAll_26 (by decide) (fun hc_26 => ?_) (fun hc_26 => ?_)
          · refine e_bipush (pc := 37) (v := (-9)) dX1_giveAll_37 (by decide) ?_
            refine e_istore_n (pc := 39) dX1_giveAll_39 (by decide) ?_
            refine e_aload_n (pc := 40) dX1_giveAll_40 rfl ?_
            refine e_getA (pc := 41) dX1_giveAll_41 f_1_12 rfl rfl ?_
            refine e_iload_n (pc := 44) dX1_giveAll_44 rfl ?_
            refine e_offR1i (pc := 45) (M' := fun _ _ => 0) dX1_giveAll_45 cs_X1_giveAll_109 cv_X2_has rc_X2_has fit_shF_shH_1 (by decide) (Nat.le_of_ble_eq_true rfl) (ev_X2_has _ _) ?_
            refine e_if_ne (pc := 48) (tgt := 52) dX1_giveAll_48 (by decide) (fun hc_48 => ?_) (fun hc_48 => ?_)
            · exact absurd (bI_f (by intro q; exact absurd q.1 (by decide))) hc_48
            · refine r_vret (pc := 51) dX1_giveAll_51 rfl ?_
              rfl
          · exact absurd (bI_f (by intro q; exact absurd q.1 (by decide))) hc_26
    · obtain ⟨hcc, hc0, htk⟩ := n_nx_some hnx
      obtain ⟨k, hk, hhf, hmay⟩ := n_hf_some hJ.1 hcc htk
      obtain ⟨F2, hE2, hR2⟩ := ev_X1_give hJ hRM hcc hk
      obtain ⟨F3, hE3, hR3⟩ := ih (j + 1) F2 _ (by omega) (n_I_g1 hJ hcc hk hc0 rfl) hR2
      refine ⟨F3, ?_, by rw [show n_gv hn cn (n + 1) N = n_gv hn cn n (n_g1 N c k) by rw [n_gv, hnx]; simp only [hhf]]; exact hR3⟩
      · skip
        refine e_iload_n (pc := 2) dX1_giveAll_2 rfl ?_
        refine e_aload_n (pc := 3) dX1_giveAll_3 rfl ?_
        refine e_getA (pc := 4) dX1_giveAll_4 f_1_21 rfl rfl ?_
        refine e_getI (pc := 7) dX1_giveAll_7 f_1_94 rfl rfl ?_
        refine e_icmp_ge (pc := 10) (tgt := 64) dX1_giveAll_10 (by decide) (fun hc_10 => ?_) (fun hc_10 => ?_)
        · exact absurd (show F 10 0 ≤ nI j by assumption) (by rw [z2]; exact nI_ge (by omega) (by omega))
        · refine e_aload_n (pc := 13) dX1_giveAll_13 rfl ?_
          refine e_self0i (pc := 14) dX1_giveAll_14 cs_X1_giveAll_120 cv_X1_nextToGive rc_X1_nextToGive rfl (by decide) (Nat.le_of_ble_eq_true rfl) (by have h := ev_X1_nextToGive hJ hR; rw [hnx] at h; exact h) ?_
          refine e_istore_n (pc := 17) dX1_giveAll_17 (by decide) ?_
          refine e_aload_n (pc := 18) dX1_giveAll_18 rfl ?_
          refine e_getA (pc := 19) dX1_giveAll_19 f_1_21 rfl rfl ?_
          refine e_iload_n (pc := 22) dX1_giveAll_22 rfl ?_
          refine e_offR1i (pc := 23) (M' := fun _ _ => 0) dX1_giveAll_23 cs_X1_giveAll_123 cv_X0_has rc_X0_has fit_shF_shC_10 (by decide) (Nat.le_of_ble_eq_true rfl) (ev_X0_has _ _) ?_
          refine e_if_eq (pc := 26) (tgt := 37) dX1_giveAll_26 (by decide) (fun hc_26 => ?_) (fun hc_26 => ?_)
          · exact absurd hc_26 (by rw [bI_t ⟨nI_pos' (by omega), by rw [y2]; exact nI_lt hcc (by omega)⟩]; decide)
          · refine e_aload_n (pc := 29) dX1_giveAll_29 rfl ?_
            refine e_iload_n (pc := 30) dX1_giveAll_30 rfl ?_
            refine e_self1i (pc := 31) dX1_giveAll_31 cs_X1_giveAll_124 cv_X1_bestHelper rc_X1_bestHelper rfl (by decide) (Nat.le_of_ble_eq_true rfl) (by have h := ev_X1_bestHelper hJ hRM hcc hc0 htk; rw [hhf] at h; exact h) ?_
            refine e_goto (pc := 34) (tgt := 39) dX1_giveAll_34 (by decide) ?_
            refine e_istore_n (pc := 39) dX1_giveAll_39 (by decide) ?_
            refine e_aload_n (pc := 40) dX1_giveAll_40 rfl ?_
            refine e_getA (pc := 41) dX1_giveAll_41 f_1_12 rfl rfl ?_
            refine e_iload_n (pc := 44) dX1_giveAll_44 rfl ?_
            refine e_offR1i (pc := 45) (M' := fun _ _ => 0) dX1_giveAll_45 cs_X1_giveAll_109 cv_X2_has rc_X2_has fit_shF_shH_1 (by decide) (Nat.le_of_ble_eq_true rfl) (ev_X2_has _ _) ?_
            refine e_if_ne (pc := 48) (tgt := 52) dX1_giveAll_48 (by decide) (fun hc_48 => ?_) (fun hc_48 => ?_)
            · refine e_aload_n (pc := 52) dX1_giveAll_52 rfl ?_
              refine e_iload_n (pc := 53) dX1_giveAll_53 rfl ?_
              refine e_iload_n (pc := 54) dX1_giveAll_54 rfl ?_
              refine e_self2v (pc := 55) dX1_giveAll_55 cs_X1_giveAll_127 cv_X1_give rc_X1_give rfl (by decide) (Nat.le_of_ble_eq_true rfl) hE2 ?_
              first | refine e_iinc1 (pc := 58) dX1_giveAll_58 rfl (by decide) ?_ | refine e_iincp (pc := 58) dX1_giveAll_58 rfl (by decide) ?_
              refine e_goto (pc := 61) (tgt := 2) dX1_giveAll_61 (by decide) ?_
              exact e_wk hE3 ⟨rfl, rfl, trivial⟩
            · exact absurd hc_48 (by rw [bI_t ⟨nI_pos' (by omega), by rw [y1]; exact nI_lt hk (by omega)⟩]; decide)
theorem ev_X1_giveAll {hn cn tk : Nat} {F N : cr_M} (hJ : n_J hn cn tk N) (hR : r_F hn cn F N) : ∃ F', cr_EvM Y_X1_giveAll [.inr (.inr 0)] F (none, F') ∧ r_F hn cn F' (n_gv hn cn cn N) := by
  obtain ⟨F', hE, hR'⟩ := lp_X1_giveAll cn 0 F N (by omega) hJ hR
  refine ⟨F', ?_, hR'⟩
  unfold cr_EvM
  refine e_iconst (pc := 0) (v := 0) dX1_giveAll_0 (by decide) ?_
  refine e_istore_n (pc := 1) dX1_giveAll_1 (by decide) ?_
  exact e_wk hE ⟨rfl, rfl, trivial⟩
