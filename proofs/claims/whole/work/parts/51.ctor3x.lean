theorem bl_3 : ∀ j, j < 2 → defaultValue (tyX3 j) = vp_V [.null, .null] j := by decide +kernel
set_option maxHeartbeats 4000000 in
set_option maxRecDepth 100000 in
theorem in_X3 (l : Launch) (D : va_G) (cI cZ : ClassId) (h0 sz : Nat) : Met l yX3_init (cn_ws yX3_init cX3_init) { frames := 1, cells := 2, slots := 32, locals := 12 } (cn_Pc D cI cZ h0 3 [.null, .null] sz) (cn_Q D cI cZ h0 (va_A [(h0, .inr (3, [.null, .null]))] sz) shS m0) 2 32 (va_A [(h0, .inr (3, [.null, .null]))] sz) := by
  refine cn_met (by decide +kernel) rfl ?_
  intro p e s m args below meth c A C hP hD hS ls hl
  have hN : cn_N s := C.2.2.2.2.2.2.2.2.1
  refine cn_obj (pc := 0) C hl (cr_in (i := 203) (by decide +kernel) rfl) (cr_in (i := 51) (by decide +kernel) rfl) (cr_in (i := 52) (by decide +kernel) rfl) (Nat.le_of_ble_eq_true rfl) (Nat.le_of_ble_eq_true rfl) dX3_init_0 dX3_init_1 ?_
  refine lv_aload_n (pc := 4) C.1 C.2.1 dX3_init_4 rfl (lv_at hl 0 rfl) ?_
  refine lv_bipush (pc := 5) (v := 16) C.1 C.2.1 dX3_init_5 (by decide) ?_
  refine cn_na (pc := 7) (b := false) C f_3_9 q_3_0 (Nat.le_of_ble_eq_true rfl) rfl (cr_in (i := 102) (by decide +kernel) rfl) (n' := 16) (by decide) (by decide) (Nat.le_of_ble_eq_true rfl) (Nat.le_of_ble_eq_true rfl) (Nat.le_of_ble_eq_true rfl) dX3_init_7 dX3_init_9 hP hD hS (fun q1 H locs hP hD hS => ?_)
  refine W.widen (k := 1) (n := 16) (Nat.le_of_ble_eq_true rfl) (Nat.le_of_ble_eq_true rfl) ?_
  refine lv_aload_n (pc := 12) C.1 C.2.1 dX3_init_12 rfl (lv_at hl 0 rfl) ?_
  refine lv_bipush (pc := 13) (v := 16) C.1 C.2.1 dX3_init_13 (by decide) ?_
  refine cn_na (pc := 15) (b := false) C f_3_15 q_3_1 (Nat.le_of_ble_eq_true rfl) rfl (cr_in (i := 102) (by decide +kernel) rfl) (n' := 16) (by decide) (by decide) (Nat.le_of_ble_eq_true rfl) (Nat.le_of_ble_eq_true rfl) (Nat.le_of_ble_eq_true rfl) dX3_init_15 dX3_init_17 hP hD hS (fun q2 H locs hP hD hS => ?_)
  refine W.widen (k := 2) (n := 32) (Nat.le_of_ble_eq_true rfl) (Nat.le_of_ble_eq_true rfl) ?_
  exact cn_end (pc := 20) C (fun k => if k < 1 then h0 else if k < 2 then q1 else q2) rfl (Nat.le_of_ble_eq_true rfl) (Nat.le_of_ble_eq_true rfl) hP hD hS dX3_init_20
