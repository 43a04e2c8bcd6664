theorem bl_0 : ∀ j, j < 13 → defaultValue (tyX0 j) = vp_V [.int 0, .null, .null, .null, .null, .null, .null, .null, .null, .null, .null, .null, .null] j := by decide +kernel
set_option maxHeartbeats 4000000 in
set_option maxRecDepth 100000 in
theorem in_X0 (l : Launch) (D : va_G) (cI cZ : ClassId) (h0 sz : Nat) : Met l yX0_init (cn_ws yX0_init cX0_init) { frames := 1, cells := 12, slots := 2400, locals := 12 } (cn_Pc D cI cZ h0 0 [.int 0, .null, .null, .null, .null, .null, .null, .null, .null, .null, .null, .null, .null] sz) (cn_Q D cI cZ h0 (va_A [(h0, .inr (0, [.int 0, .null, .null, .null, .null, .null, .null, .null, .null, .null, .null, .null, .null]))] sz) shC m0) 12 2400 (va_A [(h0, .inr (0, [.int 0, .null, .null, .null, .null, .null, .null, .null, .null, .null, .null, .null, .null]))] sz) := by
  refine cn_met (by decide +kernel) rfl ?_
  intro p e s m args below meth c A C hP hD hS ls hl
  have hN : cn_N s := C.2.2.2.2.2.2.2.2.1
  refine cn_obj (pc := 0) C hl (cr_in (i := 108) (by decide +kernel) rfl) (cr_in (i := 51) (by decide +kernel) rfl) (cr_in (i := 52) (by decide +kernel) rfl) (Nat.le_of_ble_eq_true rfl) (Nat.le_of_ble_eq_true rfl) dX0_init_0 dX0_init_1 ?_
  refine lv_aload_n (pc := 4) C.1 C.2.1 dX0_init_4 rfl (lv_at hl 0 rfl) ?_
  refine lv_sipush (pc := 5) (v := 200) C.1 C.2.1 dX0_init_5 (by decide) ?_
  refine cn_na (pc := 8) (b := false) C f_0_9 q_0_1 (Nat.le_of_ble_eq_true rfl) rfl (cr_in (i := 102) (by decide +kernel) rfl) (n' := 200) (by decide) (by decide) (Nat.le_of_ble_eq_true rfl) (Nat.le_of_ble_eq_true rfl) (Nat.le_of_ble_eq_true rfl) dX0_init_8 dX0_init_10 hP hD hS (fun q1 H locs hP hD hS => ?_)
  refine W.widen (k := 1) (n := 200) (Nat.le_of_ble_eq_true rfl) (Nat.le_of_ble_eq_true rfl) ?_
  refine lv_aload_n (pc := 13) C.1 C.2.1 dX0_init_13 rfl (lv_at hl 0 rfl) ?_
  refine lv_sipush (pc := 14) (v := 200) C.1 C.2.1 dX0_init_14 (by decide) ?_
  refine cn_na (pc := 17) (b := false) C f_0_15 q_0_2 (Nat.le_of_ble_eq_true rfl) rfl (cr_in (i := 102) (by decide +kernel) rfl) (n' := 200) (by decide) (by decide) (Nat.le_of_ble_eq_true rfl) (Nat.le_of_ble_eq_true rfl) (Nat.le_of_ble_eq_true rfl) dX0_init_17 dX0_init_19 hP hD hS (fun q2 H locs hP hD hS => ?_)
  refine W.widen (k := 2) (n := 400) (Nat.le_of_ble_eq_true rfl) (Nat.le_of_ble_eq_true rfl) ?_
  refine lv_aload_n (pc := 22) C.1 C.2.1 dX0_init_22 rfl (lv_at hl 0 rfl) ?_
  refine lv_sipush (pc := 23) (v := 200) C.1 C.2.1 dX0_init_23 (by decide) ?_
  refine cn_na (pc := 26) (b := false) C f_0_18 q_0_3 (Nat.le_of_ble_eq_true rfl) rfl (cr_in (i := 102) (by decide +kernel) rfl) (n' := 200) (by decide) (by decide) (Nat.le_of_ble_eq_true rfl) (Nat.le_of_ble_eq_true rfl) (Nat.le_of_ble_eq_true rfl) dX0_init_26 dX0_init_28 hP hD hS (fun q3 H locs hP hD hS => ?_)
  refine W.widen (k := 3) (n := 600) (Nat.le_of_ble_eq_true rfl) (Nat.le_of_ble_eq_true rfl) ?_
  refine lv_aload_n (pc := 31) C.1 C.2.1 dX0_init_31 rfl (lv_at hl 0 rfl) ?_
  refine lv_sipush (pc := 32) (v := 200) C.1 C.2.1 dX0_init_32 (by decide) ?_
  refine cn_na (pc := 35) (b := false) C f_0_21 q_0_4 (Nat.le_of_ble_eq_true rfl) rfl (cr_in (i := 102) (by decide +kernel) rfl) (n' := 200) (by decide) (by decide) (Nat.le_of_ble_eq_true rfl) (Nat.le_of_ble_eq_true rfl) (Nat.le_of_ble_eq_true rfl) dX0_init_35 dX0_init_37 hP hD hS (fun q4 H locs hP hD hS => ?_)
  refine W.widen (k := 4) (n := 800) (Nat.le_of_ble_eq_true rfl) (Nat.le_of_ble_eq_true rfl) ?_
  refine lv_aload_n (pc := 40) C.1 C.2.1 dX0_init_40 rfl (lv_at hl 0 rfl) ?_
  refine lv_sipush (pc := 41) (v := 200) C.1 C.2.1 dX0_init_41 (by decide) ?_
  refine cn_na (pc := 44) (b := false) C f_0_24 q_0_5 (Nat.le_of_ble_eq_true rfl) rfl (cr_in (i := 102) (by decide +kernel) rfl) (n' := 200) (by decide) (by decide) (Nat.le_of_ble_eq_true rfl) (Nat.le_of_ble_eq_true rfl) (Nat.le_of_ble_eq_true rfl) dX0_init_44 dX0_init_46 hP hD hS (fun q5 H locs hP hD hS => ?_)
  refine W.widen (k := 5) (n := 1000) (Nat.le_of_ble_eq_true rfl) (Nat.le_of_ble_eq_true rfl) ?_
  refine lv_aload_n (pc := 49) C.1 C.2.1 dX0_init_49 rfl (lv_at hl 0 rfl) ?_
  refine lv_sipush (pc := 50) (v := 200) C.1 C.2.1 dX0_init_50 (by decide) ?_
  refine cn_na (pc := 53) (b := false) C f_0_27 q_0_6 (Nat.le_of_ble_eq_true rfl) rfl (cr_in (i := 102) (by decide +kernel) rfl) (n' := 200) (by decide) (by decide) (Nat.le_of_ble_eq_true rfl) (Nat.le_of_ble_eq_true rfl) (Nat.le_of_ble_eq_true rfl) dX0_init_53 dX0_init_55 hP hD hS (fun q6 H locs hP hD hS => ?_)
  refine W.widen (k := 6) (n := 1200) (Nat.le_of_ble_eq_true rfl) (Nat.le_of_ble_eq_true rfl) ?_
  refine lv_aload_n (pc := 58) C.1 C.2.1 dX0_init_58 rfl (lv_at hl 0 rfl) ?_
  refine lv_sipush (pc := 59) (v := 200) C.1 C.2.1 dX0_init_59 (by decide) ?_
  refine cn_na (pc := 62) (b := false) C f_0_30 q_0_7 (Nat.le_of_ble_eq_true rfl) rfl (cr_in (i := 102) (by decide +kernel) rfl) (n' := 200) (by decide) (by decide) (Nat.le_of_ble_eq_true rfl) (Nat.le_of_ble_eq_true rfl) (Nat.le_of_ble_eq_true rfl) dX0_init_62 dX0_init_64 hP hD hS (fun q7 H locs hP hD hS => ?_)
  refine W.widen (k := 7) (n := 1400) (Nat.le_of_ble_eq_true rfl) (Nat.le_of_ble_eq_true rfl) ?_
  refine lv_aload_n (pc := 67) C.1 C.2.1 dX0_init_67 rfl (lv_at hl 0 rfl) ?_
  refine lv_sipush (pc := 68) (v := 200) C.1 C.2.1 dX0_init_68 (by decide) ?_
  refine cn_na (pc := 71) (b := false) C f_0_33 q_0_8 (Nat.le_of_ble_eq_true rfl) rfl (cr_in (i := 102) (by decide +kernel) rfl) (n' := 200) (by decide) (by decide) (Nat.le_of_ble_eq_true rfl) (Nat.le_of_ble_eq_true rfl) (Nat.le_of_ble_eq_true rfl) dX0_init_71 dX0_init_73 hP hD hS (fun q8 H locs hP hD hS => ?_)
  refine W.widen (k := 8) (n := 1600) (Nat.le_of_ble_eq_true rfl) (Nat.le_of_ble_eq_true rfl) ?_
  refine lv_aload_n (pc := 76) C.1 C.2.1 dX0_init_76 rfl (lv_at hl 0 rfl) ?_
  refine lv_sipush (pc := 77) (v := 200) C.1 C.2.1 dX0_init_77 (by decide) ?_
  refine cn_na (pc := 80) (b := false) C f_0_36 q_0_9 (Nat.le_of_ble_eq_true rfl) rfl (cr_in (i := 102) (by decide +kernel) rfl) (n' := 200) (by decide) (by decide) (Nat.le_of_ble_eq_true rfl) (Nat.le_of_ble_eq_true rfl) (Nat.le_of_ble_eq_true rfl) dX0_init_80 dX0_init_82 hP hD hS (fun q9 H locs hP hD hS => ?_)
  refine W.widen (k := 9) (n := 1800) (Nat.le_of_ble_eq_true rfl) (Nat.le_of_ble_eq_true rfl) ?_
  refine lv_aload_n (pc := 85) C.1 C.2.1 dX0_init_85 rfl (lv_at hl 0 rfl) ?_
  refine lv_sipush (pc := 86) (v := 200) C.1 C.2.1 dX0_init_86 (by decide) ?_
  refine cn_na (pc := 89) (b := false) C f_0_39 q_0_10 (Nat.le_of_ble_eq_true rfl) rfl (cr_in (i := 102) (by decide +kernel) rfl) (n' := 200) (by decide) (by decide) (Nat.le_of_ble_eq_true rfl) (Nat.le_of_ble_eq_true rfl) (Nat.le_of_ble_eq_true rfl) dX0_init_89 dX0_init_91 hP hD hS (fun q10 H locs hP hD hS => ?_)
  refine W.widen (k := 10) (n := 2000) (Nat.le_of_ble_eq_true rfl) (Nat.le_of_ble_eq_true rfl) ?_
  refine lv_aload_n (pc := 94) C.1 C.2.1 dX0_init_94 rfl (lv_at hl 0 rfl) ?_
  refine lv_sipush (pc := 95) (v := 200) C.1 C.2.1 dX0_init_95 (by decide) ?_
  refine cn_na (pc := 98) (b := false) C f_0_42 q_0_11 (Nat.le_of_ble_eq_true rfl) rfl (cr_in (i := 102) (by decide +kernel) rfl) (n' := 200) (by decide) (by decide) (Nat.le_of_ble_eq_true rfl) (Nat.le_of_ble_eq_true rfl) (Nat.le_of_ble_eq_true rfl) dX0_init_98 dX0_init_100 hP hD hS (fun q11 H locs hP hD hS => ?_)
  refine W.widen (k := 11) (n := 2200) (Nat.le_of_ble_eq_true rfl) (Nat.le_of_ble_eq_true rfl) ?_
  refine lv_aload_n (pc := 103) C.1 C.2.1 dX0_init_103 rfl (lv_at hl 0 rfl) ?_
  refine lv_sipush (pc := 104) (v := 200) C.1 C.2.1 dX0_init_104 (by decide) ?_
  refine cn_na (pc := 107) (b := false) C f_0_45 q_0_12 (Nat.le_of_ble_eq_true rfl) rfl (cr_in (i := 102) (by decide +kernel) rfl) (n' := 200) (by decide) (by decide) (Nat.le_of_ble_eq_true rfl) (Nat.le_of_ble_eq_true rfl) (Nat.le_of_ble_eq_true rfl) dX0_init_107 dX0_init_109 hP hD hS (fun q12 H locs hP hD hS => ?_)
  refine W.widen (k := 12) (n := 2400) (Nat.le_of_ble_eq_true rfl) (Nat.le_of_ble_eq_true rfl) ?_
  exact cn_end (pc := 112) C (fun k => if k < 1 then h0 else if k < 2 then q1 else if k < 3 then q2 else if k < 4 then q3 else if k < 5 then q4 else if k < 6 then q5 else if k < 7 then q6 else if k < 8 then q7 else if k < 9 then q8 else if k < 10 then q9 else if k < 11 then q10 else if k < 12 then q11 else q12) rfl (Nat.le_of_ble_eq_true rfl) (Nat.le_of_ble_eq_true rfl) hP hD hS dX0_init_112
