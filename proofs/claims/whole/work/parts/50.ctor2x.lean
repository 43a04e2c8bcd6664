theorem bl_2 : ∀ j, j < 9 → defaultValue (tyX2 j) = vp_V [.int 0, .null, .null, .null, .null, .null, .null, .null, .null] j := by decide +kernel
set_option maxHeartbeats 4000000 in
set_option maxRecDepth 100000 in
theorem in_X2 (l : Launch) (D : va_G) (cI cZ : ClassId) (h0 sz : Nat) : Met l yX2_init (cn_ws yX2_init cX2_init) { frames := 1, cells := 8, slots := 80, locals := 12 } (cn_Pc D cI cZ h0 2 [.int 0, .null, .null, .null, .null, .null, .null, .null, .null] sz) (cn_Q D cI cZ h0 (va_A [(h0, .inr (2, [.int 0, .null, .null, .null, .null, .null, .null, .null, .null]))] sz) shH m0) 8 80 (va_A [(h0, .inr (2, [.int 0, .null, .null, .null, .null, .null, .null, .null, .null]))] sz) := by
  refine cn_met (by decide +kernel) rfl ?_
  intro p e s m args below meth c A C hP hD hS ls hl
  have hN : cn_N s := C.2.2.2.2.2.2.2.2.1
  refine cn_obj (pc := 0) C hl (cr_in (i := 64) (by decide +kernel) rfl) (cr_in (i := 51) (by decide +kernel) rfl) (cr_in (i := 52) (by decide +kernel) rfl) (Nat.le_of_ble_eq_true rfl) (Nat.le_of_ble_eq_true rfl) dX2_init_0 dX2_init_1 ?_
  refine lv_aload_n (pc := 4) C.1 C.2.1 dX2_init_4 rfl (lv_at hl 0 rfl) ?_
  refine lv_bipush (pc := 5) (v := 10) C.1 C.2.1 dX2_init_5 (by decide) ?_
  refine cn_na (pc := 7) (b := false) C f_2_9 q_2_1 (Nat.le_of_ble_eq_true rfl) rfl (cr_in (i := 102) (by decide +kernel) rfl) (n' := 10) (by decide) (by decide) (Nat.le_of_ble_eq_true rfl) (Nat.le_of_ble_eq_true rfl) (Nat.le_of_ble_eq_true rfl) dX2_init_7 dX2_init_9 hP hD hS (fun q1 H locs hP hD hS => ?_)
  refine W.widen (k := 1) (n := 10) (Nat.le_of_ble_eq_true rfl) (Nat.le_of_ble_eq_true rfl) ?_
  refine lv_aload_n (pc := 12) C.1 C.2.1 dX2_init_12 rfl (lv_at hl 0 rfl) ?_
  refine lv_bipush (pc := 13) (v := 10) C.1 C.2.1 dX2_init_13 (by decide) ?_
  refine cn_na (pc := 15) (b := false) C f_2_15 q_2_2 (Nat.le_of_ble_eq_true rfl) rfl (cr_in (i := 102) (by decide +kernel) rfl) (n' := 10) (by decide) (by decide) (Nat.le_of_ble_eq_true rfl) (Nat.le_of_ble_eq_true rfl) (Nat.le_of_ble_eq_true rfl) dX2_init_15 dX2_init_17 hP hD hS (fun q2 H locs hP hD hS => ?_)
  refine W.widen (k := 2) (n := 20) (Nat.le_of_ble_eq_true rfl) (Nat.le_of_ble_eq_true rfl) ?_
  refine lv_aload_n (pc := 20) C.1 C.2.1 dX2_init_20 rfl (lv_at hl 0 rfl) ?_
  refine lv_bipush (pc := 21) (v := 10) C.1 C.2.1 dX2_init_21 (by decide) ?_
  refine cn_na (pc := 23) (b := false) C f_2_18 q_2_3 (Nat.le_of_ble_eq_true rfl) rfl (cr_in (i := 102) (by decide +kernel) rfl) (n' := 10) (by decide) (by decide) (Nat.le_of_ble_eq_true rfl) (Nat.le_of_ble_eq_true rfl) (Nat.le_of_ble_eq_true rfl) dX2_init_23 dX2_init_25 hP hD hS (fun q3 H locs hP hD hS => ?_)
  refine W.widen (k := 3) (n := 30) (Nat.le_of_ble_eq_true rfl) (Nat.le_of_ble_eq_true rfl) ?_
  refine lv_aload_n (pc := 28) C.1 C.2.1 dX2_init_28 rfl (lv_at hl 0 rfl) ?_
  refine lv_bipush (pc := 29) (v := 10) C.1 C.2.1 dX2_init_29 (by decide) ?_
  refine cn_na (pc := 31) (b := false) C f_2_21 q_2_4 (Nat.le_of_ble_eq_true rfl) rfl (cr_in (i := 102) (by decide +kernel) rfl) (n' := 10) (by decide) (by decide) (Nat.le_of_ble_eq_true rfl) (Nat.le_of_ble_eq_true rfl) (Nat.le_of_ble_eq_true rfl) dX2_init_31 dX2_init_33 hP hD hS (fun q4 H locs hP hD hS => ?_)
  refine W.widen (k := 4) (n := 40) (Nat.le_of_ble_eq_true rfl) (Nat.le_of_ble_eq_true rfl) ?_
  refine lv_aload_n (pc := 36) C.1 C.2.1 dX2_init_36 rfl (lv_at hl 0 rfl) ?_
  refine lv_bipush (pc := 37) (v := 10) C.1 C.2.1 dX2_init_37 (by decide) ?_
  refine cn_na (pc := 39) (b := false) C f_2_24 q_2_5 (Nat.le_of_ble_eq_true rfl) rfl (cr_in (i := 102) (by decide +kernel) rfl) (n' := 10) (by decide) (by decide) (Nat.le_of_ble_eq_true rfl) (Nat.le_of_ble_eq_true rfl) (Nat.le_of_ble_eq_true rfl) dX2_init_39 dX2_init_41 hP hD hS (fun q5 H locs hP hD hS => ?_)
  refine W.widen (k := 5) (n := 50) (Nat.le_of_ble_eq_true rfl) (Nat.le_of_ble_eq_true rfl) ?_
  refine lv_aload_n (pc := 44) C.1 C.2.1 dX2_init_44 rfl (lv_at hl 0 rfl) ?_
  refine lv_bipush (pc := 45) (v := 10) C.1 C.2.1 dX2_init_45 (by decide) ?_
  refine cn_na (pc := 47) (b := false) C f_2_27 q_2_6 (Nat.le_of_ble_eq_true rfl) rfl (cr_in (i := 102) (by decide +kernel) rfl) (n' := 10) (by decide) (by decide) (Nat.le_of_ble_eq_true rfl) (Nat.le_of_ble_eq_true rfl) (Nat.le_of_ble_eq_true rfl) dX2_init_47 dX2_init_49 hP hD hS (fun q6 H locs hP hD hS => ?_)
  refine W.widen (k := 6) (n := 60) (Nat.le_of_ble_eq_true rfl) (Nat.le_of_ble_eq_true rfl) ?_
  refine lv_aload_n (pc := 52) C.1 C.2.1 dX2_init_52 rfl (lv_at hl 0 rfl) ?_
  refine lv_bipush (pc := 53) (v := 10) C.1 C.2.1 dX2_init_53 (by decide) ?_
  refine cn_na (pc := 55) (b := false) C f_2_30 q_2_7 (Nat.le_of_ble_eq_true rfl) rfl (cr_in (i := 102) (by decide +kernel) rfl) (n' := 10) (by decide) (by decide) (Nat.le_of_ble_eq_true rfl) (Nat.le_of_ble_eq_true rfl) (Nat.le_of_ble_eq_true rfl) dX2_init_55 dX2_init_57 hP hD hS (fun q7 H locs hP hD hS => ?_)
  refine W.widen (k := 7) (n := 70) (Nat.le_of_ble_eq_true rfl) (Nat.le_of_ble_eq_true rfl) ?_
  refine lv_aload_n (pc := 60) C.1 C.2.1 dX2_init_60 rfl (lv_at hl 0 rfl) ?_
  refine lv_bipush (pc := 61) (v := 10) C.1 C.2.1 dX2_init_61 (by decide) ?_
  refine cn_na (pc := 63) (b := false) C f_2_33 q_2_8 (Nat.le_of_ble_eq_true rfl) rfl (cr_in (i := 102) (by decide +kernel) rfl) (n' := 10) (by decide) (by decide) (Nat.le_of_ble_eq_true rfl) (Nat.le_of_ble_eq_true rfl) (Nat.le_of_ble_eq_true rfl) dX2_init_63 dX2_init_65 hP hD hS (fun q8 H locs hP hD hS => ?_)
  refine W.widen (k := 8) (n := 80) (Nat.le_of_ble_eq_true rfl) (Nat.le_of_ble_eq_true rfl) ?_
  exact cn_end (pc := 68) C (fun k => if k < 1 then h0 else if k < 2 then q1 else if k < 3 then q2 else if k < 4 then q3 else if k < 5 then q4 else if k < 6 then q5 else if k < 7 then q6 else if k < 8 then q7 else q8) rfl (Nat.le_of_ble_eq_true rfl) (Nat.le_of_ble_eq_true rfl) hP hD hS dX2_init_68
