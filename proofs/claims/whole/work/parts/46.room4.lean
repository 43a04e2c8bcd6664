theorem fit_cpF : cr_fit shR shFF (fun j => if j < 25 then 26 + j else j - 24) := cr_fit_of (by decide +kernel) (fun i j hi hj h => by
  have hi : i < 50 := hi
  have hj : j < 50 := hj
  split at h <;> split at h <;> omega)
/-- the trial after the copy -/
def x_cp (hn cn : Nat) (X : cr_M) : cr_M := fun k => if 26 ≤ k ∧ k < 51 then k_F hn cn (fun j => X (if j < 25 then 26 + j else j - 24)) (k - 26) else X k
theorem x_cp_t {hn cn j : Nat} {X : cr_M} (hj : j < 25) : x_cp hn cn X (26 + j) = k_F hn cn (fun j => X (if j < 25 then 26 + j else j - 24)) j := by
  unfold x_cp
  rw [if_pos (by omega), show 26 + j - 26 = j by omega]
theorem x_cp_o {hn cn j : Nat} {X : cr_M} (hj : j < 26 ∨ 50 < j) : x_cp hn cn X j = X j := by
  unfold x_cp
  rw [if_neg (by omega)]
theorem x_cp_in {hn cn : Nat} {X : cr_M} (j : Nat) (hj : j < 50) : x_cp hn cn X (if j < 25 then 26 + j else j - 24) = k_F hn cn (fun j => X (if j < 25 then 26 + j else j - 24)) j := by
  by_cases h : j < 25
  · rw [if_pos h]; exact x_cp_t h
  · rw [if_neg h, x_cp_o (by omega), k_F_oth (by omega)]
    show X (j - 24) = X (if j < 25 then 26 + j else j - 24)
    rw [if_neg h]
theorem x_cp_out {hn cn : Nat} {X : cr_M} (k : Nat) (hk : ∀ j, j < 50 → ¬ (if j < 25 then 26 + j else j - 24) = k) : x_cp hn cn X k = X k := by
  refine x_cp_o ?_
  rcases Nat.lt_or_ge k 26 with h | h
  · exact Or.inl h
  · rcases Nat.lt_or_ge 50 k with h2 | h2
    · exact Or.inr h2
    · exact absurd (show (if k - 26 < 25 then 26 + (k - 26) else k - 26 - 24) = k by rw [if_pos (by omega)]; omega) (hk (k - 26) (by omega))
theorem x_cp_f {hn cn : Nat} {X N : cr_M} (hX : r_X hn cn X N) : r_F hn cn (fun j => X (if 25 + j < 25 then 26 + (25 + j) else 25 + j - 24)) N :=
  r_F_cg hX.1 (fun j hj => by rw [if_neg (by omega), show 25 + j - 24 = 1 + j by omega]) (fun _ _ _ _ => rfl)
theorem n_Q_keep (hn cn : Nat) (N : cr_M) : n_Q N (n_keep hn cn N) := fun _ _ a b => n_keep_fr a b
theorem x_cp_r {hn cn : Nat} {X N : cr_M} (hX : r_X hn cn X N) : r_F hn cn (fun j => x_cp hn cn X (26 + j)) (n_keep hn cn N) := by
  have hu : u_H hn (fun j => (fun j => X (if j < 25 then 26 + j else j - 24)) (1 + j)) := u_H_cg hX.2.1 (fun j hj => by
    show X (if 1 + j < 25 then 26 + (1 + j) else 1 + j - 24) = X (27 + j)
    rw [if_pos (by omega), show 26 + (1 + j) = 27 + j by omega])
  exact r_F_cg (k_F_r hu (x_cp_f hX)) (fun j hj => x_cp_t (by omega)) (n_Q_keep hn cn N)
theorem x_tr {hn cn : Nat} {X F' : cr_M} (hu : u_H hn (fun j => F' (1 + j))) : (∀ j, j < 26 ∨ 50 < j → cr_mg (x_cp hn cn X) 26 25 F' j = X j) ∧ u_H hn (fun j => cr_mg (x_cp hn cn X) 26 25 F' (27 + j)) :=
  ⟨fun j hj => by rw [cr_mg_out (by omega)]; exact x_cp_o hj, u_H_cg hu (fun j hj => by rw [show 27 + j = 26 + (1 + j) by omega]; exact cr_mg_in (by omega))⟩
set_option maxHeartbeats 2000000 in
theorem ev_X4_hig {hn cn tk c : Nat} {X N : cr_M} (hJ : n_J hn cn tk N) (hX : r_X hn cn X N) (hc : c < cn) : ∃ X', cr_EvM Y_X4_helperIfGivenNow [.inr (.inr 0), .inl (nI c)] X (some (.inl (n_gv hn cn cn (n_keep hn cn N) 18 c)), X') ∧ (∀ j, j < 26 ∨ 50 < j → X' j = X j) ∧ u_H hn (fun j => X' (27 + j)) := by
  obtain ⟨h10, h200, z3, z4, z5, z6, z7⟩ := r_X_z hX
  have hRf := x_cp_f hX
  obtain ⟨F', hE, hR⟩ := ev_X1_giveAll (n_J_keep hJ) (x_cp_r hX)
  have e45 : cr_mg (x_cp hn cn X) 26 25 F' 45 c = n_gv hn cn cn (n_keep hn cn N) 18 c := by
    show cr_mg (x_cp hn cn X) 26 25 F' (26 + 19) c = _
    rw [cr_mg_in (by omega)]
    exact (r_F_c hR hc).2.2.2.2.2.2.2.2.1
  refine ⟨cr_mg (x_cp hn cn X) 26 25 F', ?_, x_tr hR.2.2.2.2.2⟩
  unfold cr_EvM
  refine e_aload_n (pc := 0) dX4_helperIfGivenNow_0 rfl ?_
  refine e_getA (pc := 1) dX4_helperIfGivenNow_1 f_4_16 rfl rfl ?_
  refine e_aload_n (pc := 4) dX4_helperIfGivenNow_4 rfl ?_
  refine e_getA (pc := 5) dX4_helperIfGivenNow_5 f_4_10 rfl rfl ?_
  refine e_callV (pc := 8) (as := [.inr (.inr 25)]) (st := []) (v := none) (pl := (fun j => if j < 25 then 26 + j else j - 24)) (M2 := x_cp hn cn X) dX4_helperIfGivenNow_8 cs_X4_helperIfGivenNow_129 cv_X1_copyFrom fit_cpF rc_X1_copyFrom rfl (by decide) rfl (Nat.le_of_ble_eq_true rfl) (ev_X1_copyFrom (M := fun j => X (if j < 25 then 26 + j else j - 24)) (N := N) hRf) (fun j hj => x_cp_in j hj) (fun k _ hk => x_cp_out k hk) ?_
  refine e_aload_n (pc := 11) dX4_helperIfGivenNow_11 rfl ?_
  refine e_getA (pc := 12) dX4_helperIfGivenNow_12 f_4_16 rfl rfl ?_
  refine e_offn0v (pc := 15) 25 dX4_helperIfGivenNow_15 cs_X4_helperIfGivenNow_202 cv_X1_giveAll rc_X1_giveAll fit_shR_shF_26 (by decide) rfl (Nat.le_of_ble_eq_true rfl) hE ?_
  refine e_aload_n (pc := 18) dX4_helperIfGivenNow_18 rfl ?_
  refine e_getA (pc := 19) dX4_helperIfGivenNow_19 f_4_16 rfl rfl ?_
  refine e_getA (pc := 22) dX4_helperIfGivenNow_22 f_4_78 rfl rfl ?_
  refine e_getA (pc := 25) dX4_helperIfGivenNow_25 f_4_108 rfl rfl ?_
  refine e_iload_n (pc := 28) dX4_helperIfGivenNow_28 rfl ?_
  refine e_ialdV (pc := 29) (n_gv hn cn cn (n_keep hn cn N) 18 c) dX4_helperIfGivenNow_29 rfl (by omega) (by decide) e45 ?_
  refine r_iret (pc := 30) dX4_helperIfGivenNow_30 rfl ?_
  rfl
set_option maxHeartbeats 4000000 in
theorem th_wait {X N : cr_M} (h : Int32) (hI : x_I X N) : ∃ z, cr_EvM Y_X5_wait [.inr (.inr 0), .inl h] N (some (.inl z.1), z.2) ∧ cr_EE Y_X4_wait 0 (cr_al 0 [.inr (.inr 0), .inl h]) [] X (x_P z) := by
  obtain ⟨hn, cn, tk, ht, hJ, hX⟩ := hI
  obtain ⟨h10, h200, z3, z4, z5, z6, z7⟩ := r_X_z hX
  have s4 : N 0 4 = nI hn := hJ.1.2.2.1
  have s5 : N 0 5 = nI cn := hJ.1.2.2.2.1
  rcases cr_ix h (n := cn) (by omega) with hq | ⟨c, hc, rfl⟩
  · have hhas : ¬ (0 ≤ h ∧ h < X 11 0) := by rw [z4]; exact hq
    refine ⟨(-1, n_ref N 1), ev_X5_wait_n N h s5 hq, ?_⟩
    refine cr_EEl (fun _ kk => e_aload_n (pc := 0) dX4_wait_0 rfl kk) ?_
    refine cr_EEl (fun _ kk => e_iload_n (pc := 1) dX4_wait_1 rfl kk) ?_
    refine cr_EEl (fun _ kk => e_self1i (pc := 2) dX4_wait_2 cs_X4_wait_100 cv_X4_notWaiting rc_X4_notWaiting rfl (by decide) (Nat.le_of_ble_eq_true rfl) (ev_X4_notWaiting_n X hhas) kk) ?_
    refine cr_EEl (fun _ kk => e_istore_n (pc := 5) dX4_wait_5 (by decide) kk) ?_
    refine cr_EEl (fun _ kk => e_iload_n (pc := 6) dX4_wait_6 rfl kk) ?_
    refine cr_EEb (fun _ k1 k2 => e_if_eq (pc := 7) (tgt := 16) dX4_wait_7 (by decide) k1 k2) (fun hc_7 => absurd hc_7 (by decide)) (fun hc_7 => ?_)
    refine cr_EEl (fun _ kk => e_aload_n (pc := 10) dX4_wait_10 rfl kk) ?_
    refine cr_EEl (fun _ kk => e_iload_n (pc := 11) dX4_wait_11 rfl kk) ?_
    refine cr_EEl (fun _ kk => e_self1i (pc := 12) dX4_wait_12 cs_X4_wait_30 cv_X4_refuse rc_X4_refuse rfl (by decide) (Nat.le_of_ble_eq_true rfl) (ev_X4_refuse _ (k := 1) (by decide) (by decide)) kk) ?_
    refine cr_EEr (r_iret (pc := 15) dX4_wait_15 rfl rfl) ?_
    exact x_leaf rfl (x_I_ref ht hJ hX (by decide))
  · have hhas : 0 ≤ nI c ∧ nI c < X 11 0 := by rw [z4]; exact cr_ix_in hc (by omega)
    have e16 : X 12 c = N 16 c := ((r_X_C hX).2.2 c hc).1
    by_cases h0 : N 16 c = 0
    · have h0x : X 12 c = 0 := e16.trans h0
      refine ⟨m_wait hn cn N c, ev_X5_wait hJ ht hc, ?_⟩
      have hRf := x_cp_f hX
      obtain ⟨F', hE, hU⟩ := ev_X1_till (n_J_keep hJ) ht (x_cp_r hX) hc (by rw [n_keep_fr (by omega) (by omega)]; exact h0)
      refine cr_EEl (fun _ kk => e_aload_n (pc := 0) dX4_wait_0 rfl kk) ?_
      refine cr_EEl (fun _ kk => e_iload_n (pc := 1) dX4_wait_1 rfl kk) ?_
      refine cr_EEl (fun _ kk => e_self1i (pc := 2) dX4_wait_2 cs_X4_wait_100 cv_X4_notWaiting rc_X4_notWaiting rfl (by decide) (Nat.le_of_ble_eq_true rfl) (ev_X4_notWaiting_0 X hhas (by omega) h0x) kk) ?_
      refine cr_EEl (fun _ kk => e_istore_n (pc := 5) dX4_wait_5 (by decide) kk) ?_
      refine cr_EEl (fun _ kk => e_iload_n (pc := 6) dX4_wait_6 rfl kk) ?_
      refine cr_EEb (fun _ k1 k2 => e_if_eq (pc := 7) (tgt := 16) dX4_wait_7 (by decide) k1 k2) (fun hc_7 => ?_) (fun hc_7 => absurd hc_7 (by decide))
      refine cr_EEl (fun _ kk => e_aload_n (pc := 16) dX4_wait_16 rfl kk) ?_
      refine cr_EEl (fun _ kk => e_getA (pc := 17) dX4_wait_17 f_4_16 rfl rfl kk) ?_
      refine cr_EEl (fun _ kk => e_aload_n (pc := 20) dX4_wait_20 rfl kk) ?_
      refine cr_EEl (fun _ kk => e_getA (pc := 21) dX4_wait_21 f_4_10 rfl rfl kk) ?_
      refine cr_EEl (fun _ kk => e_callV (pc := 24) (as := [.inr (.inr 25)]) (st := []) (v := none) (pl := (fun j => if j < 25 then 26 + j else j - 24)) (M2 := x_cp hn cn X) dX4_wait_24 cs_X4_wait_129 cv_X1_copyFrom fit_cpF rc_X1_copyFrom rfl (by decide) rfl (Nat.le_of_ble_eq_true rfl) (ev_X1_copyFrom (M := fun j => X (if j < 25 then 26 + j else j - 24)) (N := N) hRf) (fun j hj => x_cp_in j hj) (fun k _ hk => x_cp_out k hk) kk) ?_
      refine cr_EEl (fun _ kk => e_aload_n (pc := 27) dX4_wait_27 rfl kk) ?_
      refine cr_EEl (fun _ kk => e_getA (pc := 28) dX4_wait_28 f_4_16 rfl rfl kk) ?_
      refine cr_EEl (fun _ kk => e_iload_n (pc := 31) dX4_wait_31 rfl kk) ?_
      refine cr_EEl (fun _ kk => e_offn1i (pc := 32) 25 dX4_wait_32 cs_X4_wait_133 cv_X1_ticksTillOn rc_X1_ticksTillOn fit_shR_shF_26 (by decide) rfl (Nat.le_of_ble_eq_true rfl) hE kk) ?_
      refine cr_EEr (r_iret (pc := 35) dX4_wait_35 rfl rfl) ?_
      exact x_leaf (by unfold m_wait; rw [if_pos h0]) (x_I_Q ht hJ hX (n_Q_wait ht hJ) (x_tr hU).1 (x_tr hU).2)
    · have h0x : ¬ X 12 c = 0 := by rw [e16]; exact h0
      refine ⟨m_wait hn cn N c, ev_X5_wait hJ ht hc, ?_⟩
      refine cr_EEl (fun _ kk => e_aload_n (pc := 0) dX4_wait_0 rfl kk) ?_
      refine cr_EEl (fun _ kk => e_iload_n (pc := 1) dX4_wait_1 rfl kk) ?_
      refine cr_EEl (fun _ kk => e_self1i (pc := 2) dX4_wait_2 cs_X4_wait_100 cv_X4_notWaiting rc_X4_notWaiting rfl (by decide) (Nat.le_of_ble_eq_true rfl) (ev_X4_notWaiting_2 X hhas (by omega) h0x) kk) ?_
      refine cr_EEl (fun _ kk => e_istore_n (pc := 5) dX4_wait_5 (by decide) kk) ?_
      refine cr_EEl (fun _ kk => e_iload_n (pc := 6) dX4_wait_6 rfl kk) ?_
      refine cr_EEb (fun _ k1 k2 => e_if_eq (pc := 7) (tgt := 16) dX4_wait_7 (by decide) k1 k2) (fun hc_7 => absurd hc_7 (by decide)) (fun hc_7 => ?_)
      refine cr_EEl (fun _ kk => e_aload_n (pc := 10) dX4_wait_10 rfl kk) ?_
      refine cr_EEl (fun _ kk => e_iload_n (pc := 11) dX4_wait_11 rfl kk) ?_
      refine cr_EEl (fun _ kk => e_self1i (pc := 12) dX4_wait_12 cs_X4_wait_30 cv_X4_refuse rc_X4_refuse rfl (by decide) (Nat.le_of_ble_eq_true rfl) (ev_X4_refuse _ (k := 2) (by decide) (by decide)) kk) ?_
      refine cr_EEr (r_iret (pc := 15) dX4_wait_15 rfl rfl) ?_
      exact x_leaf (by unfold m_wait; first | grind | (repeat (first | rw [if_pos (by grind)] | rw [if_neg (by grind)]))) (x_I_ref ht hJ hX (by decide))
set_option maxHeartbeats 4000000 in
theorem th_who {X N : cr_M} (h : Int32) (hI : x_I X N) : ∃ z, cr_EvM Y_X5_who [.inr (.inr 0), .inl h] N (some (.inl z.1), z.2) ∧ cr_EE Y_X4_who 0 (cr_al 0 [.inr (.inr 0), .inl h]) [] X (x_P z) := by
  obtain ⟨hn, cn, tk, ht, hJ, hX⟩ := hI
  obtain ⟨h10, h200, z3, z4, z5, z6, z7⟩ := r_X_z hX
  have s4 : N 0 4 = nI hn := hJ.1.2.2.1
  have s5 : N 0 5 = nI cn := hJ.1.2.2.2.1
  rcases cr_ix h (n := cn) (by omega) with hq | ⟨c, hc, rfl⟩
  · have hhas : ¬ (0 ≤ h ∧ h < X 11 0) := by rw [z4]; exact hq
    refine ⟨(-1, n_ref N 1), ev_X5_who_n N h s5 hq, ?_⟩
    refine cr_EEl (fun _ kk => e_aload_n (pc := 0) dX4_who_0 rfl kk) ?_
    refine cr_EEl (fun _ kk => e_iload_n (pc := 1) dX4_who_1 rfl kk) ?_
    refine cr_EEl (fun _ kk => e_self1i (pc := 2) dX4_who_2 cs_X4_who_100 cv_X4_notWaiting rc_X4_notWaiting rfl (by decide) (Nat.le_of_ble_eq_true rfl) (ev_X4_notWaiting_n X hhas) kk) ?_
    refine cr_EEl (fun _ kk => e_istore_n (pc := 5) dX4_who_5 (by decide) kk) ?_
    refine cr_EEl (fun _ kk => e_iload_n (pc := 6) dX4_who_6 rfl kk) ?_
    refine cr_EEb (fun _ k1 k2 => e_if_eq (pc := 7) (tgt := 16) dX4_who_7 (by decide) k1 k2) (fun hc_7 => absurd hc_7 (by decide)) (fun hc_7 => ?_)
    refine cr_EEl (fun _ kk => e_aload_n (pc := 10) dX4_who_10 rfl kk) ?_
    refine cr_EEl (fun _ kk => e_iload_n (pc := 11) dX4_who_11 rfl kk) ?_
    refine cr_EEl (fun _ kk => e_self1i (pc := 12) dX4_who_12 cs_X4_who_30 cv_X4_refuse rc_X4_refuse rfl (by decide) (Nat.le_of_ble_eq_true rfl) (ev_X4_refuse _ (k := 1) (by decide) (by decide)) kk) ?_
    refine cr_EEr (r_iret (pc := 15) dX4_who_15 rfl rfl) ?_
    exact x_leaf rfl (x_I_ref ht hJ hX (by decide))
  · have hhas : 0 ≤ nI c ∧ nI c < X 11 0 := by rw [z4]; exact cr_ix_in hc (by omega)
    have e16 : X 12 c = N 16 c := ((r_X_C hX).2.2 c hc).1
    by_cases h0 : N 16 c = 0
    · have h0x : X 12 c = 0 := e16.trans h0
      refine ⟨m_who hn cn N c, ev_X5_who hJ hc, ?_⟩
      obtain ⟨X', hE, hO, hU⟩ := ev_X4_hig hJ hX hc
      refine cr_EEl (fun _ kk => e_aload_n (pc := 0) dX4_who_0 rfl kk) ?_
      refine cr_EEl (fun _ kk => e_iload_n (pc := 1) dX4_who_1 rfl kk) ?_
      refine cr_EEl (fun _ kk => e_self1i (pc := 2) dX4_who_2 cs_X4_who_100 cv_X4_notWaiting rc_X4_notWaiting rfl (by decide) (Nat.le_of_ble_eq_true rfl) (ev_X4_notWaiting_0 X hhas (by omega) h0x) kk) ?_
      refine cr_EEl (fun _ kk => e_istore_n (pc := 5) dX4_who_5 (by decide) kk) ?_
      refine cr_EEl (fun _ kk => e_iload_n (pc := 6) dX4_who_6 rfl kk) ?_
      refine cr_EEb (fun _ k1 k2 => e_if_eq (pc := 7) (tgt := 16) dX4_who_7 (by decide) k1 k2) (fun hc_7 => ?_) (fun hc_7 => absurd hc_7 (by decide))
      refine cr_EEl (fun _ kk => e_aload_n (pc := 16) dX4_who_16 rfl kk) ?_
      refine cr_EEl (fun _ kk => e_iload_n (pc := 17) dX4_who_17 rfl kk) ?_
      refine cr_EEl (fun _ kk => e_self1i (pc := 18) dX4_who_18 cs_X4_who_136 cv_X4_helperIfGivenNow rc_X4_helperIfGivenNow rfl (by decide) (Nat.le_of_ble_eq_true rfl) hE kk) ?_
      refine cr_EEr (r_iret (pc := 21) dX4_who_21 rfl rfl) ?_
      exact x_leaf (by unfold m_who; rw [if_pos h0]) (x_I_Q ht hJ hX (n_Q_wM hJ) hO hU)
    · have h0x : ¬ X 12 c = 0 := by rw [e16]; exact h0
      refine ⟨m_who hn cn N c, ev_X5_who hJ hc, ?_⟩
      refine cr_EEl (fun _ kk => e_aload_n (pc := 0) dX4_who_0 rfl kk) ?_
      refine cr_EEl (fun _ kk => e_iload_n (pc := 1) dX4_who_1 rfl kk) ?_
      refine cr_EEl (fun _ kk => e_self1i (pc := 2) dX4_who_2 cs_X4_who_100 cv_X4_notWaiting rc_X4_notWaiting rfl (by decide) (Nat.le_of_ble_eq_true rfl) (ev_X4_notWaiting_2 X hhas (by omega) h0x) kk) ?_
      refine cr_EEl (fun _ kk => e_istore_n (pc := 5) dX4_who_5 (by decide) kk) ?_
      refine cr_EEl (fun _ kk => e_iload_n (pc := 6) dX4_who_6 rfl kk) ?_
      refine cr_EEb (fun _ k1 k2 => e_if_eq (pc := 7) (tgt := 16) dX4_who_7 (by decide) k1 k2) (fun hc_7 => absurd hc_7 (by decide)) (fun hc_7 => ?_)
      refine cr_EEl (fun _ kk => e_aload_n (pc := 10) dX4_who_10 rfl kk) ?_
      refine cr_EEl (fun _ kk => e_iload_n (pc := 11) dX4_who_11 rfl kk) ?_
      refine cr_EEl (fun _ kk => e_self1i (pc := 12) dX4_who_12 cs_X4_who_30 cv_X4_refuse rc_X4_refuse rfl (by decide) (Nat.le_of_ble_eq_true rfl) (ev_X4_refuse _ (k := 2) (by decide) (by decide)) kk) ?_
      refine cr_EEr (r_iret (pc := 15) dX4_who_15 rfl rfl) ?_
      exact x_leaf (by unfold m_who; first | grind | (repeat (first | rw [if_pos (by grind)] | rw [if_neg (by grind)]))) (x_I_ref ht hJ hX (by decide))
set_option maxHeartbeats 4000000 in
theorem th_why {X N : cr_M} (h : Int32) (hI : x_I X N) : ∃ z, cr_EvM Y_X5_why [.inr (.inr 0), .inl h] N (some (.inl z.1), z.2) ∧ cr_EE Y_X4_why 0 (cr_al 0 [.inr (.inr 0), .inl h]) [] X (x_P z) := by
  obtain ⟨hn, cn, tk, ht, hJ, hX⟩ := hI
  obtain ⟨h10, h200, z3, z4, z5, z6, z7⟩ := r_X_z hX
  have s4 : N 0 4 = nI hn := hJ.1.2.2.1
  have s5 : N 0 5 = nI cn := hJ.1.2.2.2.1
  rcases cr_ix h (n := cn) (by omega) with hq | ⟨c, hc, rfl⟩
  · have hhas : ¬ (0 ≤ h ∧ h < X 11 0) := by rw [z4]; exact hq
    refine ⟨(-1, n_ref N 1), ev_X5_why_n N h s5 hq, ?_⟩
    refine cr_EEl (fun _ kk => e_aload_n (pc := 0) dX4_why_0 rfl kk) ?_
    refine cr_EEl (fun _ kk => e_iload_n (pc := 1) dX4_why_1 rfl kk) ?_
    refine cr_EEl (fun _ kk => e_self1i (pc := 2) dX4_why_2 cs_X4_why_100 cv_X4_notWaiting rc_X4_notWaiting rfl (by decide) (Nat.le_of_ble_eq_true rfl) (ev_X4_notWaiting_n X hhas) kk) ?_
    refine cr_EEl (fun _ kk => e_istore_n (pc := 5) dX4_why_5 (by decide) kk) ?_
    refine cr_EEl (fun _ kk => e_iload_n (pc := 6) dX4_why_6 rfl kk) ?_
    refine cr_EEb (fun _ k1 k2 => e_if_eq (pc := 7) (tgt := 16) dX4_why_7 (by decide) k1 k2) (fun hc_7 => absurd hc_7 (by decide)) (fun hc_7 => ?_)
    refine cr_EEl (fun _ kk => e_aload_n (pc := 10) dX4_why_10 rfl kk) ?_
    refine cr_EEl (fun _ kk => e_iload_n (pc := 11) dX4_why_11 rfl kk) ?_
    refine cr_EEl (fun _ kk => e_self1i (pc := 12) dX4_why_12 cs_X4_why_30 cv_X4_refuse rc_X4_refuse rfl (by decide) (Nat.le_of_ble_eq_true rfl) (ev_X4_refuse _ (k := 1) (by decide) (by decide)) kk) ?_
    refine cr_EEr (r_iret (pc := 15) dX4_why_15 rfl rfl) ?_
    exact x_leaf rfl (x_I_ref ht hJ hX (by decide))
  · have hhas : 0 ≤ nI c ∧ nI c < X 11 0 := by rw [z4]; exact cr_ix_in hc (by omega)
    have e16 : X 12 c = N 16 c := ((r_X_C hX).2.2 c hc).1
    by_cases h0 : N 16 c = 0
    · have h0x : X 12 c = 0 := e16.trans h0
      refine ⟨m_why hn cn N c, ev_X5_why hJ hc, ?_⟩
      obtain ⟨X', hE, hO, hU⟩ := ev_X4_hig hJ hX hc
      have hH := ev_X1_hindrance (n_J_Q (n_Q_wM hJ) hJ) (r_F_cg (F' := fun j => X' (1 + j)) hX.1 (fun j hj => hO _ (by omega)) (n_Q_wM hJ)) hc (by rw [n_Q_wM hJ 16 c (by omega) (by omega)]; exact h0)
      refine cr_EEl (fun _ kk => e_aload_n (pc := 0) dX4_why_0 rfl kk) ?_
      refine cr_EEl (fun _ kk => e_iload_n (pc := 1) dX4_why_1 rfl kk) ?_
      refine cr_EEl (fun _ kk => e_self1i (pc := 2) dX4_why_2 cs_X4_why_100 cv_X4_notWaiting rc_X4_notWaiting rfl (by decide) (Nat.le_of_ble_eq_true rfl) (ev_X4_notWaiting_0 X hhas (by omega) h0x) kk) ?_
      refine cr_EEl (fun _ kk => e_istore_n (pc := 5) dX4_why_5 (by decide) kk) ?_
      refine cr_EEl (fun _ kk => e_iload_n (pc := 6) dX4_why_6 rfl kk) ?_
      refine cr_EEb (fun _ k1 k2 => e_if_eq (pc := 7) (tgt := 16) dX4_why_7 (by decide) k1 k2) (fun hc_7 => ?_) (fun hc_7 => absurd hc_7 (by decide))
      refine cr_EEl (fun _ kk => e_aload_n (pc := 16) dX4_why_16 rfl kk) ?_
      refine cr_EEl (fun _ kk => e_iload_n (pc := 17) dX4_why_17 rfl kk) ?_
      refine cr_EEl (fun _ kk => e_self1i (pc := 18) dX4_why_18 cs_X4_why_136 cv_X4_helperIfGivenNow rc_X4_helperIfGivenNow rfl (by decide) (Nat.le_of_ble_eq_true rfl) hE kk) ?_
      refine cr_EEb (fun _ k1 k2 => e_if_lt (pc := 21) (tgt := 28) dX4_why_21 (by decide) k1 k2) (fun hc_21 => ?_) (fun hc_21 => ?_)
      · refine cr_EEl (fun _ kk => e_aload_n (pc := 28) dX4_why_28 rfl kk) ?_
        refine cr_EEl (fun _ kk => e_getA (pc := 29) dX4_why_29 f_4_10 rfl rfl kk) ?_
        refine cr_EEl (fun _ kk => e_iload_n (pc := 32) dX4_why_32 rfl kk) ?_
        refine cr_EEl (fun _ kk => e_offR1i (pc := 33) (M' := fun _ _ => 0) dX4_why_33 cs_X4_why_139 cv_X1_hindrance rc_X1_hindrance fit_shR_shF_1 (by decide) (Nat.le_of_ble_eq_true rfl) hH kk) ?_
        refine cr_EEr (r_iret (pc := 36) dX4_why_36 rfl rfl) ?_
        exact x_leaf (by unfold m_why; rw [if_pos h0]; first | (rw [if_pos (by grind)]; done) | rw [if_neg (by grind)]) (x_I_Q ht hJ hX (n_Q_wM hJ) hO hU)
      · refine cr_EEl (fun _ kk => e_iconst (pc := 24) (v := 0) dX4_why_24 (by decide) kk) ?_
        refine cr_EEl (fun _ kk => e_goto (pc := 25) (tgt := 36) dX4_why_25 (by decide) kk) ?_
        refine cr_EEr (r_iret (pc := 36) dX4_why_36 rfl rfl) ?_
        exact x_leaf (by unfold m_why; rw [if_pos h0]; first | (rw [if_pos (by grind)]; done) | rw [if_neg (by grind)]) (x_I_Q ht hJ hX (n_Q_wM hJ) hO hU)
    · have h0x : ¬ X 12 c = 0 := by rw [e16]; exact h0
      refine ⟨m_why hn cn N c, ev_X5_why hJ hc, ?_⟩
      refine cr_EEl (fun _ kk => e_aload_n (pc := 0) dX4_why_0 rfl kk) ?_
      refine cr_EEl (fun _ kk => e_iload_n (pc := 1) dX4_why_1 rfl kk) ?_
      refine cr_EEl (fun _ kk => e_self1i (pc := 2) dX4_why_2 cs_X4_why_100 cv_X4_notWaiting rc_X4_notWaiting rfl (by decide) (Nat.le_of_ble_eq_true rfl) (ev_X4_notWaiting_2 X hhas (by omega) h0x) kk) ?_
      refine cr_EEl (fun _ kk => e_istore_n (pc := 5) dX4_why_5 (by decide) kk) ?_
      refine cr_EEl (fun _ kk => e_iload_n (pc := 6) dX4_why_6 rfl kk) ?_
      refine cr_EEb (fun _ k1 k2 => e_if_eq (pc := 7) (tgt := 16) dX4_why_7 (by decide) k1 k2) (fun hc_7 => absurd hc_7 (by decide)) (fun hc_7 => ?_)
      refine cr_EEl (fun _ kk => e_aload_n (pc := 10) dX4_why_10 rfl kk) ?_
      refine cr_EEl (fun _ kk => e_iload_n (pc := 11) dX4_why_11 rfl kk) ?_
      refine cr_EEl (fun _ kk => e_self1i (pc := 12) dX4_why_12 cs_X4_why_30 cv_X4_refuse rc_X4_refuse rfl (by decide) (Nat.le_of_ble_eq_true rfl) (ev_X4_refuse _ (k := 2) (by decide) (by decide)) kk) ?_
      refine cr_EEr (r_iret (pc := 15) dX4_why_15 rfl rfl) ?_
      exact x_leaf (by unfold m_why; first | grind | (repeat (first | rw [if_pos (by grind)] | rw [if_neg (by grind)]))) (x_I_ref ht hJ hX (by decide))
