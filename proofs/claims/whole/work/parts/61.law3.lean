/-! the law's loop and its start -/
set_option maxHeartbeats 4000000 in
set_option maxRecDepth 100000 in
theorem la_loop {p : Program} {l : Launch} {e : Env} {s : State} {m : MethodId} {below : List Frame} {meth : Method} {c : Code} {b L : Nat} {xs : Nat → Int32} {D : va_G} {cI cZ : ClassId} (C : la_C p s m meth c b L xs D cI cZ) (hL : L ≤ 3072) {a4 a5 : Nat → Nat} :
    ∀ (n i : Nat), i ≤ L + 5 → L + 6 ≤ i + n → ∀ (X N : cr_M), x_I X N → ∀ (H : Heap) (locs : List Loc), la_H D cI cZ a4 a5 X N s H locs → ∀ (ls : Array Slot), lv_has ls 4 [(0, .ref b), (1, .ref (a4 0)), (2, .ref (a5 0)), (3, .int (nI i))] → W p l e room_1 s m #[Value.ref b] below meth c H locs 91 8929 (lw_Z below #[Value.ref b] s) (F0 m 18 ls []) := by
  obtain ⟨hx, hb, hr, hml, hown, hts, hX, hbl, hlk, hK⟩ := id C
  have hbA : ¬ la_A s b := Nat.not_le.mpr hbl
  intro n
  induction n with
  | zero =>
    intro i h1 h2
    exact absurd h2 (by omega)
  | succ n ih =>
    intro i hi hin X N hI H locs hH ls hl
    have hS : va_S (la_A s) s.heap H locs := hH.2.2.2.2.2
    refine lv_iload_n hx hb ld_18 rfl (lv_at hl 3 rfl) ?_
    refine lv_aload_n hx hb ld_19 rfl (lv_at hl 0 rfl) ?_
    refine va_slen hx hb hX hbl hbA hS ld_20 ?_
    refine lv_bipush (v := 6) hx hb ld_21 (by decide) ?_
    refine lv_isub hx hb ld_23 ?_
    refine lv_icmp_gt (tgt := 879) hx hb ld_24 (by decide) (fun hg => ?_) (fun hg => ?_)
    · refine lv_iconst (v := 1) hx hb ld_879 (by decide) ?_
      refine va_forget (fun q hq => hS.2.2 q hq) ?_
      exact lw_ret hx hb hr hlk ld_880
    · have hlt : i + 6 ≤ L := la_ge hi hL hg
      have key : ∀ (X2 N2 : cr_M) (H1 : Heap) (locs1 : List Loc), x_I X2 N2 → la_H D cI cZ a4 a5 X2 N2 s H1 locs1 → W p l e room_1 s m #[Value.ref b] below meth c H1 locs1 91 8929 (lw_Z below #[Value.ref b] s) (F0 m 873 ls []) := by
        intro X2 N2 H1 locs1 hI2 hH2
        refine lv_iinc (v := nI (i + 6)) (lv' := [(3, .int (nI (i + 6))), (0, .ref b), (1, .ref (a4 0)), (2, .ref (a5 0))]) hx hb ld_873 hl (k := 3) rfl (nI_add i 6) (by decide) rfl (fun ls hl => ?_)
        refine lv_goto (tgt := 18) hx hb ld_876 (by decide) ?_
        exact ih (i + 6) (by omega) (by omega) X2 N2 hI2 H1 locs1 hH2 ls (lv_sub hl [1, 2, 3, 0] rfl)
      refine lv_aload_n hx hb ld_27 rfl (lv_at hl 0 rfl) ?_
      refine lv_iload_n hx hb ld_28 rfl (lv_at hl 3 rfl) ?_
      refine va_sld hx hb hX hbl hbA hS (vp_in_nI (by omega) (by omega)) ld_29 ?_
      refine lv_bipush (v := 31) hx hb ld_30 (by decide) ?_
      refine lv_iand hx hb ld_32 ?_
      refine lv_topi (fun y ey => ?_)
      rcases la_sw y with h | ⟨k, hk, rfl⟩
      · exact lv_tableOut (tgt := 873) hx hb ld_33 h (by decide) (key X N H locs hI hH)
      clear ey
      rcases (by omega : k = 0 ∨ k = 1 ∨ k = 2 ∨ k = 3 ∨ k = 4 ∨ k = 5 ∨ k = 6 ∨ k = 7 ∨ k = 8 ∨ k = 9 ∨ k = 10 ∨ k = 11 ∨ k = 12 ∨ k = 13 ∨ k = 14 ∨ k = 15 ∨ k = 16 ∨ k = 17 ∨ k = 18 ∨ k = 19 ∨ k = 20 ∨ k = 21 ∨ k = 22 ∨ k = 23 ∨ k = 24) with rfl | rfl | rfl | rfl | rfl | rfl | rfl | rfl | rfl | rfl | rfl | rfl | rfl | rfl | rfl | rfl | rfl | rfl | rfl | rfl | rfl | rfl | rfl | rfl | rfl
      · refine lv_tableIn (off := 115) (tgt := 148) hx hb ld_33 (by decide +kernel) (by decide +kernel) (by decide +kernel) (by decide) ?_
        exact lx_helper C hL hlt hI hH hl key
      · refine lv_tableIn (off := 138) (tgt := 171) hx hb ld_33 (by decide +kernel) (by decide +kernel) (by decide +kernel) (by decide) ?_
        exact lx_grade C hL hlt hI hH hl key
      · refine lv_tableIn (off := 181) (tgt := 214) hx hb ld_33 (by decide +kernel) (by decide +kernel) (by decide +kernel) (by decide) ?_
        exact lx_duty C hL hlt hI hH hl key
      · refine lv_tableIn (off := 204) (tgt := 237) hx hb ld_33 (by decide +kernel) (by decide +kernel) (by decide +kernel) (by decide) ?_
        exact lx_out C hL hlt hI hH hl key
      · refine lv_tableIn (off := 227) (tgt := 260) hx hb ld_33 (by decide +kernel) (by decide +kernel) (by decide +kernel) (by decide) ?_
        exact lx_pause C hL hlt hI hH hl key
      · refine lv_tableIn (off := 260) (tgt := 293) hx hb ld_33 (by decide +kernel) (by decide +kernel) (by decide +kernel) (by decide) ?_
        exact lx_call C hL hlt hI hH hl key
      · refine lv_tableIn (off := 323) (tgt := 356) hx hb ld_33 (by decide +kernel) (by decide +kernel) (by decide +kernel) (by decide) ?_
        exact lx_rule C hL hlt hI hH hl key
      · refine lv_tableIn (off := 346) (tgt := 379) hx hb ld_33 (by decide +kernel) (by decide +kernel) (by decide +kernel) (by decide) ?_
        exact lx_prefer C hL hlt hI hH hl key
      · refine lv_tableIn (off := 369) (tgt := 402) hx hb ld_33 (by decide +kernel) (by decide +kernel) (by decide +kernel) (by decide) ?_
        exact lx_ring C hL hlt hI hH hl key
      · refine lv_tableIn (off := 402) (tgt := 435) hx hb ld_33 (by decide +kernel) (by decide +kernel) (by decide +kernel) (by decide) ?_
        exact lx_pass C hL hlt hI hH hl key
      · refine lv_tableIn (off := 445) (tgt := 478) hx hb ld_33 (by decide +kernel) (by decide +kernel) (by decide +kernel) (by decide) ?_
        exact lx_leave C hL hlt hI hH hl key
      · refine lv_tableIn (off := 468) (tgt := 501) hx hb ld_33 (by decide +kernel) (by decide +kernel) (by decide +kernel) (by decide) ?_
        exact lx_urge C hL hlt hI hH hl key
      · refine lv_tableIn (off := 491) (tgt := 524) hx hb ld_33 (by decide +kernel) (by decide +kernel) (by decide +kernel) (by decide) ?_
        exact lx_ticks C hL hlt hI hH hl key
      · refine lv_tableIn (off := 514) (tgt := 547) hx hb ld_33 (by decide +kernel) (by decide +kernel) (by decide +kernel) (by decide) ?_
        exact lx_wait C hL hlt hI hH hl key
      · refine lv_tableIn (off := 537) (tgt := 570) hx hb ld_33 (by decide +kernel) (by decide +kernel) (by decide +kernel) (by decide) ?_
        exact lx_who C hL hlt hI hH hl key
      · refine lv_tableIn (off := 560) (tgt := 593) hx hb ld_33 (by decide +kernel) (by decide +kernel) (by decide +kernel) (by decide) ?_
        exact lx_why C hL hlt hI hH hl key
      · refine lv_tableIn (off := 583) (tgt := 616) hx hb ld_33 (by decide +kernel) (by decide +kernel) (by decide +kernel) (by decide) ?_
        exact lx_within C hL hlt hI hH hl key
      · refine lv_tableIn (off := 606) (tgt := 639) hx hb ld_33 (by decide +kernel) (by decide +kernel) (by decide +kernel) (by decide) ?_
        exact lx_loss C hL hlt hI hH hl key
      · refine lv_tableIn (off := 639) (tgt := 672) hx hb ld_33 (by decide +kernel) (by decide +kernel) (by decide +kernel) (by decide) ?_
        exact lx_wanted C hL hlt hI hH hl key
      · refine lv_tableIn (off := 672) (tgt := 705) hx hb ld_33 (by decide +kernel) (by decide +kernel) (by decide +kernel) (by decide) ?_
        exact lx_want C hL hlt hI hH hl key
      · refine lv_tableIn (off := 705) (tgt := 738) hx hb ld_33 (by decide +kernel) (by decide +kernel) (by decide +kernel) (by decide) ?_
        exact lx_cover C hL hlt hI hH hl key
      · refine lv_tableIn (off := 728) (tgt := 761) hx hb ld_33 (by decide +kernel) (by decide +kernel) (by decide +kernel) (by decide) ?_
        exact lx_begins C hL hlt hI hH hl key
      · refine lv_tableIn (off := 751) (tgt := 784) hx hb ld_33 (by decide +kernel) (by decide +kernel) (by decide +kernel) (by decide) ?_
        exact lx_helperOf C hL hlt hI hH hl key
      · refine lv_tableIn (off := 784) (tgt := 817) hx hb ld_33 (by decide +kernel) (by decide +kernel) (by decide +kernel) (by decide) ?_
        exact lx_callOf C hL hlt hI hH hl key
      · refine lv_tableIn (off := 817) (tgt := 850) hx hb ld_33 (by decide +kernel) (by decide +kernel) (by decide +kernel) (by decide) ?_
        exact lx_count C hL hlt hI hH hl key
theorem la_arr {s : State} {args : Array Value} {ty : FieldType} (h : (Cond.arrayClass ty).before args s = true) : ∃ cA : ClassId, ArrOfT s cA ty ∧ s.vm.findClass ("[" ++ ty.toString) = some cA := by
  obtain ⟨cA, kA, comp, h1, h2, h3⟩ := Cond.arrayClass_spec h
  exact ⟨cA, fun n z => ⟨fun k h => (by cases h), kA, h2, comp, h3⟩, h1⟩
/-- a new object in the law, its constructor -/
theorem la_new {p : Program} {l : Launch} {e : Env} {s : State} {m : MethodId} {below : List Frame} {meth : Method} {c : Code} {b L : Nat} {xs : Nat → Int32} {D : va_G} {cI cZ : ClassId} {H : Heap} {locs : List Loc} {cells slots : Nat} {Q : State → Prop} {ls : Array Slot} {w : va_W} {pc i1 i2 ci N : Nat} {C1 : String} {T : u_T} {ty : Nat → FieldType} {fs : List Value} {y : MethodName} {cc : ByteArray} {rm : Room} {sh : List cr_Shp} {M : cr_M} {mc ms : Nat}
    (C : la_C p s m meth c b L xs D cI cZ) (hN : cn_N s) (hls : ls.size = 4) (hc : cr_cl[ci]? = some (C1, T, N)) (hiw : ∀ w ∈ u_ws C1 T N, w ∈ cr_tb) (hty : ∀ k, k < N → parseFieldDescriptor (T k).2.2.1 = some (ty k)) (hfs : ∀ j, j < N → defaultValue (ty j) = vp_V fs j) (hcl : Cond.classLink R_law i1 C1 ∈ cr_tb) (hinst : Cond.instantiable C1 N ∈ cr_tb) (hini : Cond.initialized C1 ∈ cr_tb)
    (hM : ∀ q sz, Met l y (cn_ws y cc) rm (cn_Pc D cI cZ q ci fs sz) (cn_Q D cI cZ q (va_A [(q, .inr (ci, fs))] sz) sh M) mc ms (va_A [(q, .inr (ci, fs))] sz)) (hyc : y.cls = C1) (hyi : y.name = "<init>") (hcode : Cond.code y cc 1 none ∈ cr_tb) (hinm : Cond.instanceMethod y ∈ cr_tb) (hlink : Cond.methodLink R_law i2 y ∈ cr_tb) (hrc : rm.cells = mc) (hrs : rm.slots = ms) (hyd : y.cls ≠ "java/lang/invoke/MethodHandle" ∧ y.cls ≠ "java/lang/invoke/VarHandle" ∧ (parseMethodDescriptor y.desc).map (fun d => d.parameters.length) = some 0) (hR : rm.frames + 1 ≤ 10 ∧ 8 + (1 + 11) + rm.locals ≤ 364)
    (hcells : cells + 1 + mc ≤ 91) (hslots : slots + N + ms ≤ 8929) (hd1 : decode code pc = .ok (.new i1, 3)) (hd2 : decode code (pc + 3) = .ok (.dup, 1)) (hd3 : decode code (pc + 4) = .ok (.invokespecial i2, 3))
    (hP : va_P D cr_cl w H) (hD : va_D (la_A s) w) (hS : va_S (la_A s) s.heap H locs)
    (kk : ∀ (ad : Nat → Nat) (H1 : Heap) (locs1 : List Loc), va_P D cr_cl (w ++ cr_wl cI cZ ad M 0 sh) H1 → va_D (la_A s) (w ++ cr_wl cI cZ ad M 0 sh) → va_S (la_A s) s.heap H1 locs1 → W p l e room_1 s m #[Value.ref b] below meth c H1 locs1 (cells + 1 + mc) (slots + N + ms) Q (F0 m (pc + 7) ls [.ref (ad 0)])) :
    W p l e room_1 s m #[Value.ref b] below meth c H locs cells slots Q (F0 m pc ls []) := by
  obtain ⟨hx, hb, hr, hml, hown, hts, hX, hbl, hlk, hK⟩ := C
  have hA : ∀ q : Nat, s.heap.size ≤ q → la_A s q := fun _ h => h
  have e91 : room_1.cells = 91 := rfl
  have e89 : room_1.slots = 8929 := rfl
  refine va_new (ci := ci) (fs := fs) (C := C1) (T := T) (N := N) hx hb hts hiw ty hty hown (hts _ hcl) (hts _ hinst) (hts _ hini) hK hP hD hS hA hc hfs (by rw [e91]; omega) (by rw [e89]; omega) hd1 (fun q H1 hP1 hD1 hS1 => ?_)
  refine lv_dup hx hb hd2 rfl ?_
  have hlast : (w ++ [(q, (.inr (ci, fs) : va_E))])[w.length]? = some (q, .inr (ci, fs)) := by simp
  have hPc : va_P D cr_cl [(q, .inr (ci, fs))] H1 := fun k x hx => by
    have hk : k < 1 := (List.getElem?_eq_some_iff.mp hx).1
    rw [show k = 0 by omega] at hx
    cases hx
    exact hP1 _ _ hlast
  have hDc : va_D (fun _ => True) [(q, (.inr (ci, fs) : va_E))] := ⟨fun i j a b ha hb _ => by
    have h1 : i < 1 := (List.getElem?_eq_some_iff.mp ha).1
    have h2 : j < 1 := (List.getElem?_eq_some_iff.mp hb).1
    omega, fun _ _ _ => trivial⟩
  have hFc : ∀ x, va_A [(q, .inr (ci, fs))] H1.size x → la_A s x := by
    rintro x (⟨k, e, hk⟩ | h)
    · have hk0 : k < 1 := (List.getElem?_eq_some_iff.mp hk).1
      rw [show k = 0 by omega] at hk
      cases hk
      exact hD1.2 _ _ hlast
    · exact Nat.le_trans hS1.1 h
  refine va_callv (va_runI (As := []) (rest := [.ref q]) ⟨hx, hb, hml, hown, hts⟩ (hM q H1.size) ⟨callB_of (R := room_1) 0 hts (cn_good hcode) rfl hrc hrs (by rw [hyc]; exact hts _ hini) (hts _ hlink) hyd hR, hyi, hts _ hinm⟩ ⟨cn_blind, fun U hU hW => ⟨rfl, by rw [hU], by rw [hU]; exact hPc, va_K.moved hW.alike hK, hDc, cn_N.warm hW hN⟩⟩ rfl rfl hls rfl (lv_room (Nat.le_of_ble_eq_true rfl)) hd3 ⟨by rw [e91]; exact hcells, by rw [e89]; exact hslots⟩) hS1 (fun x _ h => hFc x h) hFc (fun ad t H2 locs2 ht hvm hw hB hz1 hk1 hS2 => ?_)
  obtain ⟨hPw, hKw, hDw⟩ := hB
  rw [ht] at hPw
  have hw : ad 0 = q := hw
  obtain ⟨hP2, hD2⟩ := cn_join hP1 hD1 hFc hk1 hPw hDw
  subst hw
  exact kk ad H2 locs2 hP2 hD2 hS2
set_option maxHeartbeats 4000000 in
set_option maxRecDepth 100000 in
/-- THE LAW, from its entry -/
theorem whole_start {p : Program} {e : Env} {s : State} {m : MethodId} {below : List Frame} {meth : Method} {c : Code} (l : Launch) {b L : Nat} {xs : Nat → Int32} (hL : L ≤ 3072) (C0 : lw_At p s m meth c b L xs) : W p l e room_1 s m #[Value.ref b] below meth c s.heap [] 0 0 (lw_Z below #[Value.ref b] s) (entryFrame m ([Value.ref b] : List Value).toArray 4) := by
  obtain ⟨hx, hb, hr, hml, hown, hts0, hX, hbl, hlocks, hgv⟩ := id C0
  have hts : ∀ w ∈ cr_tb, w.before #[Value.ref b] s = true := fun w h => hts0 w (cr_lw h).1
  obtain ⟨c0, i0, k0⟩ := u_known (C := RX0) (T := TX0) (N := 13) (n := 13) hts iX0 (hts (.instantiable RX0 13) (cr_in (i := 104) (by decide +kernel) rfl))
  obtain ⟨c1, i1, k1⟩ := u_known (C := RX1) (T := TX1) (N := 7) (n := 7) hts iX1 (hts (.instantiable RX1 7) (cr_in (i := 54) (by decide +kernel) rfl))
  obtain ⟨c2, i2, k2⟩ := u_known (C := RX2) (T := TX2) (N := 9) (n := 9) hts iX2 (hts (.instantiable RX2 9) (cr_in (i := 60) (by decide +kernel) rfl))
  obtain ⟨c3, i3, k3⟩ := u_known (C := RX3) (T := TX3) (N := 2) (n := 2) hts iX3 (hts (.instantiable RX3 2) (cr_in (i := 199) (by decide +kernel) rfl))
  obtain ⟨c4, i4, k4⟩ := u_known (C := RX4) (T := TX4) (N := 4) (n := 4) hts iX4 (hts (.instantiable RX4 4) (cr_in (i := 46) (by decide +kernel) rfl))
  obtain ⟨c5, i5, k5⟩ := u_known (C := RX5) (T := TX5) (N := 41) (n := 41) hts iX5 (hts (.instantiable RX5 41) (cr_in (i := 582) (by decide +kernel) rfl))
  obtain ⟨D, hKc⟩ : ∃ D : va_G, ∀ (k : Nat) (q : vw_C), cr_cl[k]? = some q → u_Kn s q.1 q.2.1 q.2.2 (D.1 k) (D.2 k) := by
    refine ⟨(fun k => if k = 0 then c0 else if k = 1 then c1 else if k = 2 then c2 else if k = 3 then c3 else if k = 4 then c4 else c5, fun k => if k = 0 then i0 else if k = 1 then i1 else if k = 2 then i2 else if k = 3 then i3 else if k = 4 then i4 else i5), ?_⟩
    intro k q hq
    match k, hq with
    | 0, hq => cases hq; exact k0
    | 1, hq => cases hq; exact k1
    | 2, hq => cases hq; exact k2
    | 3, hq => cases hq; exact k3
    | 4, hq => cases hq; exact k4
    | 5, hq => cases hq; exact k5
    | k + 6, hq => simp [cr_cl] at hq
  obtain ⟨cI, hI1, hI2⟩ := la_arr (hts (.arrayClass .int) (cr_in (i := 102) (by decide +kernel) rfl))
  obtain ⟨cZ, hZ1, hZ2⟩ := la_arr (hts (.arrayClass .boolean) (cr_in (i := 711) (by decide +kernel) rfl))
  have hK : va_K D cr_cl (cr_ty cI cZ) s := ⟨hKc, fun k q h => by
    match k, h with
    | 0, h => cases h; exact ⟨hI1, hI2⟩
    | 1, h => cases h; exact ⟨hZ1, hZ2⟩
    | k + 2, h => simp at h⟩
  have hN : cn_N s := ⟨va_Nw.of rfl (hts0 cn_w1 (List.mem_of_getElem? (i := 55) (by decide +kernel))), va_Nw.of rfl (hts0 cn_w2 (List.mem_of_getElem? (i := 61) (by decide +kernel))), va_Nw.of rfl (hts0 cn_w3 (List.mem_of_getElem? (i := 105) (by decide +kernel))), va_Nw.of rfl (hts0 cn_w4 (List.mem_of_getElem? (i := 200) (by decide +kernel)))⟩
  have C : la_C p s m meth c b L xs D cI cZ := ⟨hx, hb, hr, hml, hown, hts, hX, hbl, hlocks, hK⟩
  have hS : va_S (la_A s) s.heap s.heap [] := va_S.rf
  have hP : va_P D cr_cl [] s.heap := fun k q h => by simp at h
  have hD : va_D (la_A s) [] := ⟨fun i j p q h => by simp at h, fun k q h => by simp at h⟩
  have hl := lv_entry ([.ref b]) (n := 4) (Nat.le_of_ble_eq_true rfl)
  rw [lg_entry_eq]
  generalize (lg_sl ([.ref b]) ++ List.replicate (4 - (lg_sl ([.ref b])).length) Slot.unset).toArray = ls at hl ⊢
  have hl : lv_has ls 4 [(0, .ref b)] := hl
  refine la_new (pc := 0) (ci := 4) (N := 4) (C1 := RX4) (T := TX4) (ty := tyX4) (fs := [.null, .null, .null, .null]) (y := yX4_init) (cc := cX4_init) C hN hl.1 rfl iX4 tyX4_ok bl_4 (cr_in (i := 45) (by decide +kernel) rfl) (cr_in (i := 46) (by decide +kernel) rfl) (cr_in (i := 36) (by decide +kernel) rfl) (fun q sz => in_X4 l D cI cZ q sz) rfl rfl (cr_in (i := 49) (by decide +kernel) rfl) (cr_in (i := 48) (by decide +kernel) rfl) (cr_in (i := 47) (by decide +kernel) rfl) rfl rfl (by decide +kernel) ⟨Nat.le_of_ble_eq_true rfl, Nat.le_of_ble_eq_true rfl⟩ (Nat.le_of_ble_eq_true rfl) (Nat.le_of_ble_eq_true rfl) ld_0 ld_3 ld_4 hP hD hS (fun a4 H locs hP hD hS => ?_)
  refine W.widen (k := 55) (n := 5079) (Nat.le_of_ble_eq_true rfl) (Nat.le_of_ble_eq_true rfl) ?_
  have hP : va_P D cr_cl (cr_wl cI cZ a4 mX 0 shR) H := hP
  have hD : va_D (la_A s) (cr_wl cI cZ a4 mX 0 shR) := hD
  refine lv_astore_n (pc := 7) (lv' := [(1, .ref (a4 0)), (0, .ref b)]) hx hb ld_7 rfl hl (by decide) rfl (fun ls hl => ?_)
  refine la_new (pc := 8) (ci := 5) (N := 41) (C1 := RX5) (T := TX5) (ty := tyX5) (fs := [.null, .null, .null, .int 0, .int 0, .int 0, .int 0, .int 0, .null, .null, .null, .null, .null, .null, .null, .null, .null, .null, .null, .null, .null, .null, .null, .null, .null, .null, .null, .null, .null, .null, .int 0, .null, .null, .null, .null, .null, .null, .null, .null, .null, .null]) (y := yX5_init) (cc := cX5_init) C hN hl.1 rfl iX5 tyX5_ok bl_5 (cr_in (i := 581) (by decide +kernel) rfl) (cr_in (i := 582) (by decide +kernel) rfl) (cr_in (i := 41) (by decide +kernel) rfl) (fun q sz => in_X5 l D cI cZ q sz) rfl rfl (cr_in (i := 585) (by decide +kernel) rfl) (cr_in (i := 584) (by decide +kernel) rfl) (cr_in (i := 583) (by decide +kernel) rfl) rfl rfl (by decide +kernel) ⟨Nat.le_of_ble_eq_true rfl, Nat.le_of_ble_eq_true rfl⟩ (Nat.le_of_ble_eq_true rfl) (Nat.le_of_ble_eq_true rfl) ld_8 ld_11 ld_12 hP hD hS (fun a5 H locs hP hD hS => ?_)
  refine W.widen (k := 91) (n := 8929) (Nat.le_of_ble_eq_true rfl) (Nat.le_of_ble_eq_true rfl) ?_
  obtain ⟨hP4, hP5, hD4, hD5, hap⟩ := la_split hP hD
  have hH : la_H D cI cZ a4 a5 mX mM s H locs := by
    refine ⟨hP4, hP5, hD4, hD5, fun i j hi hj => ?_, hS⟩
    obtain ⟨d1, h1⟩ : ∃ d, shR[i]? = some d := ⟨_, List.getElem?_eq_getElem (show i < shR.length from hi)⟩
    obtain ⟨d2, h2⟩ : ∃ d, shM[j]? = some d := ⟨_, List.getElem?_eq_getElem (show j < shM.length from hj)⟩
    exact hap i j _ _ (cr_wl_get0 h1) (cr_wl_get0 h2)
  refine lv_astore_n (pc := 15) (lv' := [(2, .ref (a5 0)), (1, .ref (a4 0)), (0, .ref b)]) hx hb ld_15 rfl hl (by decide) rfl (fun ls hl => ?_)
  refine lv_iconst (pc := 16) (v := 0) hx hb ld_16 (by decide) ?_
  refine lv_istore_n (pc := 17) (lv' := [(3, .int 0), (2, .ref (a5 0)), (1, .ref (a4 0)), (0, .ref b)]) hx hb ld_17 rfl hl (by decide) rfl (fun ls hl => ?_)
  exact la_loop C hL (L + 6) 0 (by omega) (by omega) mX mM x_I_0 H locs hH ls (lv_sub hl [3, 2, 1, 0] rfl)
