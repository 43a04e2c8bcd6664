theorem bl_1 : ∀ j, j < 7 → defaultValue (tyX1 j) = vp_V [.null, .null, .null, .null, .int 0, .int 0, .int 0] j := by decide +kernel
set_option maxHeartbeats 4000000 in
set_option maxRecDepth 100000 in
theorem in_X1 (l : Launch) (D : va_G) (cI cZ : ClassId) (h0 sz : Nat) : Met l yX1_init (cn_ws yX1_init cX1_init) { frames := 2, cells := 24, slots := 2510, locals := 32 } (cn_Pc D cI cZ h0 1 [.null, .null, .null, .null, .int 0, .int 0, .int 0] sz) (cn_Q D cI cZ h0 (va_A [(h0, .inr (1, [.null, .null, .null, .null, .int 0, .int 0, .int 0]))] sz) shF mF) 24 2510 (va_A [(h0, .inr (1, [.null, .null, .null, .null, .int 0, .int 0, .int 0]))] sz) := by
  refine cn_met (by decide +kernel) rfl ?_
  intro p e s m args below meth c A C hP hD hS ls hl
  have hN : cn_N s := C.2.2.2.2.2.2.2.2.1
  refine cn_obj (pc := 0) C hl (cr_in (i := 58) (by decide +kernel) rfl) (cr_in (i := 51) (by decide +kernel) rfl) (cr_in (i := 52) (by decide +kernel) rfl) (Nat.le_of_ble_eq_true rfl) (Nat.le_of_ble_eq_true rfl) dX1_init_0 dX1_init_1 ?_
  refine cn_new (pc := 4) (host := "CallRoom") (ci' := 2) (N' := 9) (C' := RX2) (T' := TX2) (ty' := tyX2) (fs' := [.int 0, .null, .null, .null, .null, .null, .null, .null, .null]) (y := yX2_init) (cc' := cX2_init) C hl f_1_12 q_1_0 (Nat.le_of_ble_eq_true rfl) rfl iX2 tyX2_ok bl_2 (cr_in (i := 59) (by decide +kernel) rfl) (cr_in (i := 60) (by decide +kernel) rfl) (cr_in (i := 38) (by decide +kernel) rfl) (fun q sz => in_X2 l D cI cZ q sz) rfl rfl (cr_in (i := 63) (by decide +kernel) rfl) (cr_in (i := 62) (by decide +kernel) rfl) hN.2.1 rfl rfl (by decide +kernel) ⟨Nat.le_of_ble_eq_true rfl, Nat.le_of_ble_eq_true rfl⟩ (Nat.le_of_ble_eq_true rfl) (Nat.le_of_ble_eq_true rfl) dX1_init_4 dX1_init_5 dX1_init_8 dX1_init_9 dX1_init_12 hP hD hS (fun ad1 H locs hP hD hS => ?_)
  refine W.widen (k := 9) (n := 89) (Nat.le_of_ble_eq_true rfl) (Nat.le_of_ble_eq_true rfl) ?_
  refine cn_new (pc := 15) (host := "CallRoom") (ci' := 0) (N' := 13) (C' := RX0) (T' := TX0) (ty' := tyX0) (fs' := [.int 0, .null, .null, .null, .null, .null, .null, .null, .null, .null, .null, .null, .null]) (y := yX0_init) (cc' := cX0_init) C hl f_1_21 q_1_1 (Nat.le_of_ble_eq_true rfl) rfl iX0 tyX0_ok bl_0 (cr_in (i := 103) (by decide +kernel) rfl) (cr_in (i := 104) (by decide +kernel) rfl) (cr_in (i := 39) (by decide +kernel) rfl) (fun q sz => in_X0 l D cI cZ q sz) rfl rfl (cr_in (i := 107) (by decide +kernel) rfl) (cr_in (i := 106) (by decide +kernel) rfl) hN.2.2.1 rfl rfl (by decide +kernel) ⟨Nat.le_of_ble_eq_true rfl, Nat.le_of_ble_eq_true rfl⟩ (Nat.le_of_ble_eq_true rfl) (Nat.le_of_ble_eq_true rfl) dX1_init_15 dX1_init_16 dX1_init_19 dX1_init_20 dX1_init_23 hP hD hS (fun ad2 H locs hP hD hS => ?_)
  refine W.widen (k := 22) (n := 2502) (Nat.le_of_ble_eq_true rfl) (Nat.le_of_ble_eq_true rfl) ?_
  refine lv_aload_n (pc := 26) C.1 C.2.1 dX1_init_26 rfl (lv_at hl 0 rfl) ?_
  refine lv_iconst (pc := 27) (v := 4) C.1 C.2.1 dX1_init_27 (by decide) ?_
  refine cn_na (pc := 28) (b := false) C f_1_25 q_1_2 (Nat.le_of_ble_eq_true rfl) rfl (cr_in (i := 102) (by decide +kernel) rfl) (n' := 4) (by decide) (by decide) (Nat.le_of_ble_eq_true rfl) (Nat.le_of_ble_eq_true rfl) (Nat.le_of_ble_eq_true rfl) dX1_init_28 dX1_init_30 hP hD hS (fun q3 H locs hP hD hS => ?_)
  refine W.widen (k := 23) (n := 2506) (Nat.le_of_ble_eq_true rfl) (Nat.le_of_ble_eq_true rfl) ?_
  refine lv_aload_n (pc := 33) C.1 C.2.1 dX1_init_33 rfl (lv_at hl 0 rfl) ?_
  refine lv_iconst (pc := 34) (v := 4) C.1 C.2.1 dX1_init_34 (by decide) ?_
  refine cn_na (pc := 35) (b := false) C f_1_29 q_1_3 (Nat.le_of_ble_eq_true rfl) rfl (cr_in (i := 102) (by decide +kernel) rfl) (n' := 4) (by decide) (by decide) (Nat.le_of_ble_eq_true rfl) (Nat.le_of_ble_eq_true rfl) (Nat.le_of_ble_eq_true rfl) dX1_init_35 dX1_init_37 hP hD hS (fun q4 H locs hP hD hS => ?_)
  refine W.widen (k := 24) (n := 2510) (Nat.le_of_ble_eq_true rfl) (Nat.le_of_ble_eq_true rfl) ?_
  refine lv_aload_n (pc := 40) C.1 C.2.1 dX1_init_40 rfl (lv_at hl 0 rfl) ?_
  refine lv_bipush (pc := 41) (v := 20) C.1 C.2.1 dX1_init_41 (by decide) ?_
  refine cn_pi (pc := 43) C f_1_32 p_1_6 (Nat.le_of_ble_eq_true rfl) dX1_init_43 hP hD hS (fun H locs hP hD hS => ?_)
  refine W.widen (k := 24) (n := 2510) (Nat.le_of_ble_eq_true rfl) (Nat.le_of_ble_eq_true rfl) ?_
  exact cn_end (pc := 46) C (fun k => if k < 1 then h0 else if k < 10 then ad1 (k - 1) else if k < 23 then ad2 (k - 10) else if k < 24 then q3 else q4) rfl (Nat.le_of_ble_eq_true rfl) (Nat.le_of_ble_eq_true rfl) hP hD hS dX1_init_46
