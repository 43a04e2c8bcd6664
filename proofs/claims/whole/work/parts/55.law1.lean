/-! THE CLAIM OUT OF ONE WALK OF THE LAW'S BODY. Your part is whole_start (and what it stands on); all else here is the same for every law, but numbers. -/
def R_law : String := "CallRoomLaw"
def lw_P (b : Addr) (xs : List Int32) (args : Array Value) (s : State) : Prop := args = #[.ref b] ∧ s.IntsAt b xs ∧ xs.length ≤ 3072 ∧ (Jvm.Cond.and given_1 narrow_1).before args s = true
def lw_Q (_ : Array Value) (s : State) (o : Outcome) (t : State) : Prop := o = .returned (some (.int 1)) ∧ Framed s o t [] 91 8929
def lw_Z (below : List Frame) (a : Array Value) (s : State) : State → Prop := fun t => ∃ o, t.status = .running ∧ Ended t below o ∧ lw_Q a s o t
/-- the law's own end, with 1 on the stack, nothing written that was there before, its room as the claim has it -/
theorem lw_ret {p : Program} {l : Launch} {e : Env} {s : State} {m : MethodId} {below : List Frame} {meth : Method} {c : Code} {b : Nat} (hx : p.tables.exec = Jvm.exec) (hb : c.code = code) (hr : meth.sig.returnType = ret) (hlocks : meth.locks = false) {pc : Nat} {H : Heap} {ls : Array Slot} (hdg : decode code pc = .ok (.ireturn, 1)) : W p l e room_1 s m #[Value.ref b] below meth c H [] 91 8929 (lw_Z below #[Value.ref b] s) (F0 m pc ls [.int 1]) := by
  intro T hT X
  obtain ⟨fs, hret, hrun, hended, hW, hframe⟩ := X.leave (v := some (.int 1)) (hlocks := hlocks) (fun h => by rw [hr] at h; cases h)
  have hmeth' : T.vm.method? m = some meth := X.method'
  refine ⟨T.setFrames fs, ?_, .returned (some (.int 1)), hrun, hended, rfl, ⟨_, rfl⟩, hW, hframe⟩
  jvm_step X.here [X.here.top, hx, hb, hdg, hmeth', hr, ret, narrow_b1]
  (try refine ⟨rfl, ?_⟩); (try refine ⟨rfl, ?_⟩)
  first | (intro acts; rw [hret _ acts rfl rfl rfl]) | rw [hret _ _ rfl rfl rfl]
  exact Steps.refl _
/-- what holds at the law's entry: the machine, the code, the tables' words (any of lw_tbl by 'hts w (by decide +kernel)'), the script of L ints xs at the cell b, what the Statement gives of the start (any of its parts by flat_of_before) -/
def lw_At (p : Program) (s : State) (m : MethodId) (meth : Method) (c : Code) (b L : Nat) (xs : Nat → Int32) : Prop :=
  p.tables.exec = Jvm.exec ∧ c.code = code ∧ meth.sig.returnType = ret ∧ c.maxLocals = 4 ∧ s.vm.findClass R_law = some m.cls ∧ (∀ w ∈ lw_tbl, w.before #[Value.ref b] s = true) ∧ va_X b L xs s s.heap ∧ b < s.heap.size ∧ meth.locks = false ∧ (Jvm.Cond.and given_1 narrow_1).before #[Value.ref b] s = true
/-! the first states beside each other; the law's rows -/
theorem x_I_0 : x_I mX mM := by
  refine ⟨0, 0, 0, by omega, ⟨⟨by omega, by omega, by decide +kernel, by decide +kernel, fun c hc => absurd hc (Nat.not_lt_zero c)⟩, by decide +kernel, by omega, ⟨20, by omega, by decide +kernel⟩, fun k hk => absurd hk (Nat.not_lt_zero k), fun k hk => absurd hk (Nat.not_lt_zero k), fun k hk => absurd hk (Nat.not_lt_zero k)⟩, ⟨⟨⟨by omega, by decide +kernel, fun k hk => absurd hk (Nat.not_lt_zero k)⟩, ⟨by omega, by decide +kernel, fun k hk => absurd hk (Nat.not_lt_zero k)⟩, by decide +kernel, by decide +kernel, by decide +kernel, ?_⟩, ?_, ?_, ?_, ?_⟩⟩
  · intro q i h1 h2 h3 h4
    show mX (1 + (1 + q)) i = 0
    unfold mX
    rw [if_neg (by omega), if_neg (by omega)]
  · intro q i h1 h2 h3 h4
    show mX (27 + q) i = 0
    unfold mX
    rw [if_neg (by omega), if_neg (by omega)]
  · intro q i h1 h2 h3
    unfold mM
    rw [if_neg (by omega)]
  · intro i hi
    unfold mX mM
    rw [if_neg (by omega), if_neg (by omega), if_neg (by omega), if_neg (by omega), if_neg (by omega), if_neg (by omega)]
    exact ⟨rfl, rfl⟩
  · intro i hi
    unfold mX mM
    rw [if_neg (by omega), if_neg (by omega), if_neg (by omega)]
theorem la_split {A : Nat → Prop} {D : va_G} {w1 w2 : va_W} {H : Heap} (hP : va_P D cr_cl (w1 ++ w2) H) (hD : va_D A (w1 ++ w2)) : va_P D cr_cl w1 H ∧ va_P D cr_cl w2 H ∧ va_D A w1 ∧ va_D A w2 ∧ ∀ (i j : Nat) (p q : Nat × va_E), w1[i]? = some p → w2[j]? = some q → ¬ p.1 = q.1 := by
  have h1 : ∀ (i : Nat) (x : Nat × va_E), w1[i]? = some x → (w1 ++ w2)[i]? = some x := fun i x hx => by
    rw [List.getElem?_append_left (List.getElem?_eq_some_iff.mp hx).1]; exact hx
  have h2 : ∀ (i : Nat) (x : Nat × va_E), w2[i]? = some x → (w1 ++ w2)[w1.length + i]? = some x := fun i x hx => by
    rw [List.getElem?_append_right (Nat.le_add_right _ _), Nat.add_sub_cancel_left]; exact hx
  refine ⟨fun k q hq => hP k q (h1 k q hq), fun k q hq => hP _ q (h2 k q hq), ⟨fun i j p q hi hj e => hD.1 i j p q (h1 i p hi) (h1 j q hj) e, fun k q hq => hD.2 k q (h1 k q hq)⟩, ⟨fun i j p q hi hj e => ?_, fun k q hq => hD.2 _ q (h2 k q hq)⟩, fun i j p q hi hj e => ?_⟩
  · have := hD.1 _ _ p q (h2 i p hi) (h2 j q hj) e
    omega
  · have h3 := hD.1 _ _ p q (h1 i p hi) (h2 j q hj) e
    have h4 := (List.getElem?_eq_some_iff.mp hi).1
    omega
/-- cells that a call doesn't have stay -/
theorem la_kept {D : va_G} {cI cZ : ClassId} {a a' : Nat → Nat} {M M' : cr_M} {sh sh' : List cr_Shp} {H H1 : Heap} (hP : va_P D cr_cl (cr_wl cI cZ a' M' 0 sh') H) (hap : ∀ i j : Nat, i < sh.length → j < sh'.length → ¬ a i = a' j) (hk : ∀ q : Nat, q < H.size → ¬ va_A (cr_wl cI cZ a M 0 sh) H.size q → H1[q]? = H[q]?) : va_P D cr_cl (cr_wl cI cZ a' M' 0 sh') H1 := by
  intro k q hq
  have e1 := hP k q hq
  refine e1.kept (hk _ e1.lt ?_)
  rintro (⟨j, x, hx⟩ | hx)
  · obtain ⟨c, hc, rfl⟩ := cr_wl_inv hq
    obtain ⟨d, hd, hq2⟩ := cr_wl_inv hx
    have e9 : a' k = a j := congrArg Prod.fst hq2
    exact hap j k (List.getElem?_eq_some_iff.mp hd).1 (List.getElem?_eq_some_iff.mp hc).1 e9.symm
  · exact absurd e1.lt (Nat.not_lt.mpr hx)
def la_cs (Y : cr_Y) (idx n : Nat) : Prop :=
  Cond.code (cr_nm Y) (cr_by Y) (cr_ml Y) (cr_rt Y) ∈ cr_tb ∧ Cond.methodLink R_law idx (cr_nm Y) ∈ cr_tb ∧ Cond.initialized (cr_nm Y).cls ∈ cr_tb ∧
  ((cr_nm Y).cls ≠ "java/lang/invoke/MethodHandle" ∧ (cr_nm Y).cls ≠ "java/lang/invoke/VarHandle" ∧ (parseMethodDescriptor (cr_nm Y).desc).map (fun d => d.parameters.length) = some n) ∧
  (cr_fr Y + 1 ≤ 10 ∧ 8 + (cr_ml Y + 11) + cr_lo Y ≤ 364) ∧ plainName (cr_nm Y).cls = true
abbrev la_A (s : State) : Nat → Prop := fun q : Nat => s.heap.size ≤ q
def la_C (p : Program) (s : State) (m : MethodId) (meth : Method) (c : Code) (b L : Nat) (xs : Nat → Int32) (D : va_G) (cI cZ : ClassId) : Prop :=
  p.tables.exec = Jvm.exec ∧ c.code = code ∧ meth.sig.returnType = ret ∧ c.maxLocals = 4 ∧ s.vm.findClass R_law = some m.cls ∧ (∀ w ∈ cr_tb, w.before #[Value.ref b] s = true) ∧ va_X b L xs s s.heap ∧ b < s.heap.size ∧ meth.locks = false ∧ va_K D cr_cl (cr_ty cI cZ) s
def la_H (D : va_G) (cI cZ : ClassId) (a4 a5 : Nat → Nat) (X N : cr_M) (s : State) (H : Heap) (locs : List Loc) : Prop :=
  va_P D cr_cl (cr_wl cI cZ a4 X 0 shR) H ∧ va_P D cr_cl (cr_wl cI cZ a5 N 0 shM) H ∧ va_D (la_A s) (cr_wl cI cZ a4 X 0 shR) ∧ va_D (la_A s) (cr_wl cI cZ a5 N 0 shM) ∧ (∀ i j : Nat, i < 55 → j < 36 → ¬ a4 i = a5 j) ∧ va_S (la_A s) s.heap H locs
def la_th (Y4 Y5 : cr_Y) (as : List Int32) : Prop := ∀ X N, x_I X N → ∃ (v : Int32) (X' N' : cr_M), cr_EvM Y4 (.inr (.inr 0) :: as.map .inl) X (some (.inl v), X') ∧ cr_EvM Y5 (.inr (.inr 0) :: as.map .inl) N (some (.inl v), N') ∧ x_I X' N'
def la_dA (pc : Nat) (k : Int) : Prop := decode code pc = .ok (.aload_n 0, 1) ∧ decode code (pc + 1) = .ok (.iload_n 3, 1) ∧ decode code (pc + 2) = .ok (.iconst k, 1) ∧ decode code (pc + 3) = .ok (.iadd, 1) ∧ decode code (pc + 4) = .ok (.iaload, 1)
section LA
variable {p : Program} {l : Launch} {e : Env} {s : State} {m : MethodId} {below : List Frame} {meth : Method} {c : Code} {b L : Nat} {xs : Nat → Int32} {D : va_G} {cI cZ : ClassId} {Q : State → Prop} {H : Heap} {locs : List Loc} {cells slots : Nat} {ls : Array Slot} {pc : Nat}
/-- a call of the law by a receiver -/
theorem la_call (C : la_C p s m meth c b L xs D cI cZ) {Y : cr_Y} {idx n : Nat} {as : List Int32} {v : Int32} {a : Nat → Nat} {M M' : cr_M} {st stk : List Value} (hd : decode code pc = .ok (.invokevirtual idx, 3)) (hc : la_cs Y idx n) (hv : cr_csV Y) (hr : cr_rc Y) (hn : as.length = n) (hz : cr_sz (.inr (.inr 0) :: as.map .inl) ≤ cr_ml Y) (hst : stk = (as.map Value.int).reverse ++ .ref (a 0) :: st) (h8 : (st.map fun v => v.category).sum ≤ 8) (hcs : cells ≤ 91) (hss : slots ≤ 8929)
    (E : cr_EvM Y (.inr (.inr 0) :: as.map .inl) M (some (.inl v), M')) (hP : va_P D cr_cl (cr_wl cI cZ a M 0 (cr_sh Y)) H) (hD : va_D (la_A s) (cr_wl cI cZ a M 0 (cr_sh Y))) (hS : va_S (la_A s) s.heap H locs) (hl : ls.size = 4)
    (kk : ∀ (H1 : Heap) (locs1 : List Loc), va_P D cr_cl (cr_wl cI cZ a M' 0 (cr_sh Y)) H1 → (∀ q : Nat, q < H.size → ¬ va_A (cr_wl cI cZ a M 0 (cr_sh Y)) H.size q → H1[q]? = H[q]?) → va_S (la_A s) s.heap H1 locs1 → W p l e room_1 s m #[Value.ref b] below meth c H1 locs1 cells slots Q (F0 m (pc + 3) ls (.int v :: st))) :
    W p l e room_1 s m #[Value.ref b] below meth c H locs cells slots Q (F0 m pc ls stk) := by
  obtain ⟨hx, hb, hrt, hml, hown, hts, hX, hbl, hlk, hK⟩ := C
  obtain ⟨c1, c2, c3, c4, c5, c6⟩ := hc
  obtain ⟨ci, qc, fs, s1, s2, s3⟩ := hr
  have hrec := va_recv hK hP (ci := ci) (q0 := 0) s2 (cr_wl_get0 s1)
  rw [s3] at hrec
  have hm := cr_met (as := .inr (.inr 0) :: as.map .inl) c6 hz E l D cI cZ a H.size
  have hB := callB_of (R := room_1) (rm := cr_rm Y) n hts (cr_goodIn c1) rfl rfl rfl (hts _ c3) (hts _ c2) c4 c5
  have hmp : (as.map (fun x => (.inl x : cr_AV))).map (cr_tv a) = as.map Value.int := by
    rw [List.map_map]; apply List.map_congr_left; intro x _; rfl
  have hF : ∀ q, va_A (cr_wl cI cZ a M 0 (cr_sh Y)) H.size q → la_A s q := by
    rintro q (⟨j, x, hx⟩ | hx)
    · exact hD.2 j _ hx
    · exact Nat.le_trans hS.1 hx
  refine va_calli (va_runV (As := (as.map (fun x => (.inl x : cr_AV))).map (cr_tv a)) (b := a 0) (rest := st) ⟨hx, hb, hml, hown, hts⟩ hm ⟨hB, hts _ hv.1, hts _ hv.2⟩ ⟨cr_blind, hrec, fun U hU hW => ⟨rfl, by rw [hU], by rw [hU]; exact hP, va_K.moved hW.alike hK, hD.weaken (fun _ _ _ _ => trivial)⟩⟩ rfl (by rw [List.length_map, List.length_map]; exact hn) hl (by rw [hmp]; exact hst) (lv_room h8) hd ⟨hcs, hss⟩) hS (fun q _ h => hF q h) hF (fun r1 u t H1 locs1 ht hvm hw hB hz1 hk1 hS1 => ?_)
  obtain ⟨hP1, hK1, hD1⟩ := hB
  rw [ht] at hP1
  have hw : r1 = v := hw
  subst hw
  exact kk H1 locs1 hP1 hk1 hS1
/-- an argument out of the script -/
theorem la_arg (C : la_C p s m meth c b L xs D cI cZ) (hL : L ≤ 3072) {i k r4 r5 : Nat} {z : Int} {rest : List Value} (hi : i + k < L) (dA : la_dA pc z) (hk : Int32.ofInt z = nI k) (hl : lv_has ls 4 [(0, .ref b), (1, .ref r4), (2, .ref r5), (3, .int (nI i))]) (hS : va_S (la_A s) s.heap H locs)
    (kk : W p l e room_1 s m #[Value.ref b] below meth c H locs cells slots Q (F0 m (pc + 5) ls (.int (xs (i + k)) :: rest))) : W p l e room_1 s m #[Value.ref b] below meth c H locs cells slots Q (F0 m pc ls rest) := by
  obtain ⟨hx, hb, hrt, hml, hown, hts, hX, hbl, hlk, hK⟩ := C
  obtain ⟨d0, d1, d2, d3, d4⟩ := dA
  have hbA : ¬ la_A s b := Nat.not_le.mpr hbl
  refine lv_aload_n hx hb d0 rfl (lv_at hl 0 rfl) ?_
  refine lv_iload_n hx hb d1 rfl (lv_at hl 3 rfl) ?_
  refine lv_iconst (v := nI k) hx hb d2 hk ?_
  refine lv_iadd hx hb d3 ?_
  have e := nI_add i k
  rw [e]
  refine va_sld hx hb hX hbl hbA hS (vp_in_nI hi (by omega)) d4 ?_
  have e2 : (nI (i + k)).toNatClampNeg = i + k := nI_clamp (by omega)
  rw [e2]
  exact kk
/-- a case of 1 arguments -/
theorem la_c1 (C : la_C p s m meth c b L xs D cI cZ) (hL : L ≤ 3072) {i p0 i4 i5 : Nat} {off : Int} {Y4 Y5 : cr_Y} {a4 a5 : Nat → Nat} {X N : cr_M} (hi : i + 6 ≤ L) (hcs : cells ≤ 91) (hss : slots ≤ 8929) (d0 : decode code p0 = .ok (.aload_n 1, 1)) (ga0 : la_dA (p0 + 1) 1) (d1 : decode code (p0 + 6) = .ok (.invokevirtual i4, 3)) (d2 : decode code (p0 + 9) = .ok (.aload_n 2, 1)) (gb0 : la_dA (p0 + 10) 1) (d3 : decode code (p0 + 15) = .ok (.invokevirtual i5, 3)) (d4 : decode code (p0 + 18) = .ok (.if_icmp .eq off, 3)) (ht : ((p0 + 18 : Nat) : Int) + off = ((873 : Nat) : Int)) (c4 : la_cs Y4 i4 1) (v4 : cr_csV Y4) (r4 : cr_rc Y4) (s4 : cr_sh Y4 = shR) (z4 : 2 ≤ cr_ml Y4) (c5 : la_cs Y5 i5 1) (v5 : cr_csV Y5) (r5 : cr_rc Y5) (s5 : cr_sh Y5 = shM) (z5 : 2 ≤ cr_ml Y5) (th : la_th Y4 Y5 [xs (i + 1)]) (hI : x_I X N) (hH : la_H D cI cZ a4 a5 X N s H locs) (hl : lv_has ls 4 [(0, .ref b), (1, .ref (a4 0)), (2, .ref (a5 0)), (3, .int (nI i))])
    (kk : ∀ (X2 N2 : cr_M) (H1 : Heap) (locs1 : List Loc), x_I X2 N2 → la_H D cI cZ a4 a5 X2 N2 s H1 locs1 → W p l e room_1 s m #[Value.ref b] below meth c H1 locs1 cells slots Q (F0 m 873 ls [])) : W p l e room_1 s m #[Value.ref b] below meth c H locs cells slots Q (F0 m p0 ls []) := by
  obtain ⟨v, X2, N2, E4, E5, hI2⟩ := th X N hI
  obtain ⟨hP4, hP5, hD4, hD5, hap, hS⟩ := hH
  refine lv_aload_n (pc := p0) C.1 C.2.1 d0 rfl (lv_at hl 1 rfl) ?_
  refine la_arg (pc := p0 + 1) (k := 1) C hL (by omega) ga0 (by decide) hl hS ?_
  refine la_call (pc := p0 + 6) (as := [xs (i + 1)]) (a := a4) (M := X) (st := []) C d1 c4 v4 r4 rfl z4 rfl (Nat.le_of_ble_eq_true rfl) hcs hss E4 (by rw [s4]; exact hP4) (by rw [s4]; exact hD4) hS hl.1 (fun H1 locs1 hQ4 hk1 hS1 => ?_)
  rw [s4] at hQ4 hk1
  have hQ5 : va_P D cr_cl (cr_wl cI cZ a5 N 0 shM) H1 := la_kept (a := a4) (M := X) (sh := shR) (sh' := shM) hP5 (fun i j hi hj => hap i j hi hj) hk1
  refine lv_aload_n (pc := p0 + 9) C.1 C.2.1 d2 rfl (lv_at hl 2 rfl) ?_
  refine la_arg (pc := p0 + 10) (k := 1) C hL (by omega) gb0 (by decide) hl hS1 ?_
  refine la_call (pc := p0 + 15) (as := [xs (i + 1)]) (a := a5) (M := N) (st := [.int v]) C d3 c5 v5 r5 rfl z5 rfl (Nat.le_of_ble_eq_true rfl) hcs hss E5 (by rw [s5]; exact hQ5) (by rw [s5]; exact hD5) hS1 hl.1 (fun H2 locs2 hR5 hk2 hS2 => ?_)
  rw [s5] at hR5 hk2
  have hR4 : va_P D cr_cl (cr_wl cI cZ a4 X2 0 shR) H2 := la_kept (a := a5) (M := N) (sh := shM) (sh' := shR) hQ4 (fun i j hi hj e => hap j i hj hi e.symm) hk2
  refine lv_icmp_eq (pc := p0 + 18) (tgt := 873) C.1 C.2.1 d4 ht (fun _ => ?_) (fun h => absurd rfl h)
  exact kk X2 N2 H2 locs2 hI2 ⟨hR4, hR5, cr_wl_D hD4, cr_wl_D hD5, hap, hS2⟩
/-- a case of 2 arguments -/
theorem la_c2 (C : la_C p s m meth c b L xs D cI cZ) (hL : L ≤ 3072) {i p0 i4 i5 : Nat} {off : Int} {Y4 Y5 : cr_Y} {a4 a5 : Nat → Nat} {X N : cr_M} (hi : i + 6 ≤ L) (hcs : cells ≤ 91) (hss : slots ≤ 8929) (d0 : decode code p0 = .ok (.aload_n 1, 1)) (ga0 : la_dA (p0 + 1) 1) (ga1 : la_dA (p0 + 6) 2) (d1 : decode code (p0 + 11) = .ok (.invokevirtual i4, 3)) (d2 : decode code (p0 + 14) = .ok (.aload_n 2, 1)) (gb0 : la_dA (p0 + 15) 1) (gb1 : la_dA (p0 + 20) 2) (d3 : decode code (p0 + 25) = .ok (.invokevirtual i5, 3)) (d4 : decode code (p0 + 28) = .ok (.if_icmp .eq off, 3)) (ht : ((p0 + 28 : Nat) : Int) + off = ((873 : Nat) : Int)) (c4 : la_cs Y4 i4 2) (v4 : cr_csV Y4) (r4 : cr_rc Y4) (s4 : cr_sh Y4 = shR) (z4 : 3 ≤ cr_ml Y4) (c5 : la_cs Y5 i5 2) (v5 : cr_csV Y5) (r5 : cr_rc Y5) (s5 : cr_sh Y5 = shM) (z5 : 3 ≤ cr_ml Y5) (th : la_th Y4 Y5 [xs (i + 1), xs (i + 2)]) (hI : x_I X N) (hH : la_H D cI cZ a4 a5 X N s H locs) (hl : lv_has ls 4 [(0, .ref b), (1, .ref (a4 0)), (2, .ref (a5 0)), (3, .int (nI i))])
    (kk : ∀ (X2 N2 : cr_M) (H1 : Heap) (locs1 : List Loc), x_I X2 N2 → la_H D cI cZ a4 a5 X2 N2 s H1 locs1 → W p l e room_1 s m #[Value.ref b] below meth c H1 locs1 cells slots Q (F0 m 873 ls [])) : W p l e room_1 s m #[Value.ref b] below meth c H locs cells slots Q (F0 m p0 ls []) := by
  obtain ⟨v, X2, N2, E4, E5, hI2⟩ := th X N hI
  obtain ⟨hP4, hP5, hD4, hD5, hap, hS⟩ := hH
  refine lv_aload_n (pc := p0) C.1 C.2.1 d0 rfl (lv_at hl 1 rfl) ?_
  refine la_arg (pc := p0 + 1) (k := 1) C hL (by omega) ga0 (by decide) hl hS ?_
  refine la_arg (pc := p0 + 6) (k := 2) C hL (by omega) ga1 (by decide) hl hS ?_
  refine la_call (pc := p0 + 11) (as := [xs (i + 1), xs (i + 2)]) (a := a4) (M := X) (st := []) C d1 c4 v4 r4 rfl z4 rfl (Nat.le_of_ble_eq_true rfl) hcs hss E4 (by rw [s4]; exact hP4) (by rw [s4]; exact hD4) hS hl.1 (fun H1 locs1 hQ4 hk1 hS1 => ?_)
  rw [s4] at hQ4 hk1
  have hQ5 : va_P D cr_cl (cr_wl cI cZ a5 N 0 shM) H1 := la_kept (a := a4) (M := X) (sh := shR) (sh' := shM) hP5 (fun i j hi hj => hap i j hi hj) hk1
  refine lv_aload_n (pc := p0 + 14) C.1 C.2.1 d2 rfl (lv_at hl 2 rfl) ?_
  refine la_arg (pc := p0 + 15) (k := 1) C hL (by omega) gb0 (by decide) hl hS1 ?_
  refine la_arg (pc := p0 + 20) (k := 2) C hL (by omega) gb1 (by decide) hl hS1 ?_
  refine la_call (pc := p0 + 25) (as := [xs (i + 1), xs (i + 2)]) (a := a5) (M := N) (st := [.int v]) C d3 c5 v5 r5 rfl z5 rfl (Nat.le_of_ble_eq_true rfl) hcs hss E5 (by rw [s5]; exact hQ5) (by rw [s5]; exact hD5) hS1 hl.1 (fun H2 locs2 hR5 hk2 hS2 => ?_)
  rw [s5] at hR5 hk2
  have hR4 : va_P D cr_cl (cr_wl cI cZ a4 X2 0 shR) H2 := la_kept (a := a5) (M := N) (sh := shM) (sh' := shR) hQ4 (fun i j hi hj e => hap j i hj hi e.symm) hk2
  refine lv_icmp_eq (pc := p0 + 28) (tgt := 873) C.1 C.2.1 d4 ht (fun _ => ?_) (fun h => absurd rfl h)
  exact kk X2 N2 H2 locs2 hI2 ⟨hR4, hR5, cr_wl_D hD4, cr_wl_D hD5, hap, hS2⟩
/-- a case of 3 arguments -/
theorem la_c3 (C : la_C p s m meth c b L xs D cI cZ) (hL : L ≤ 3072) {i p0 i4 i5 : Nat} {off : Int} {Y4 Y5 : cr_Y} {a4 a5 : Nat → Nat} {X N : cr_M} (hi : i + 6 ≤ L) (hcs : cells ≤ 91) (hss : slots ≤ 8929) (d0 : decode code p0 = .ok (.aload_n 1, 1)) (ga0 : la_dA (p0 + 1) 1) (ga1 : la_dA (p0 + 6) 2) (ga2 : la_dA (p0 + 11) 3) (d1 : decode code (p0 + 16) = .ok (.invokevirtual i4, 3)) (d2 : decode code (p0 + 19) = .ok (.aload_n 2, 1)) (gb0 : la_dA (p0 + 20) 1) (gb1 : la_dA (p0 + 25) 2) (gb2 : la_dA (p0 + 30) 3) (d3 : decode code (p0 + 35) = .ok (.invokevirtual i5, 3)) (d4 : decode code (p0 + 38) = .ok (.if_icmp .eq off, 3)) (ht : ((p0 + 38 : Nat) : Int) + off = ((873 : Nat) : Int)) (c4 : la_cs Y4 i4 3) (v4 : cr_csV Y4) (r4 : cr_rc Y4) (s4 : cr_sh Y4 = shR) (z4 : 4 ≤ cr_ml Y4) (c5 : la_cs Y5 i5 3) (v5 : cr_csV Y5) (r5 : cr_rc Y5) (s5 : cr_sh Y5 = shM) (z5 : 4 ≤ cr_ml Y5) (th : la_th Y4 Y5 [xs (i + 1), xs (i + 2), xs (i + 3)]) (hI : x_I X N) (hH : la_H D cI cZ a4 a5 X N s H locs) (hl : lv_has ls 4 [(0, .ref b), (1, .ref (a4 0)), (2, .ref (a5 0)), (3, .int (nI i))])
    (kk : ∀ (X2 N2 : cr_M) (H1 : Heap) (locs1 : List Loc), x_I X2 N2 → la_H D cI cZ a4 a5 X2 N2 s H1 locs1 → W p l e room_1 s m #[Value.ref b] below meth c H1 locs1 cells slots Q (F0 m 873 ls [])) : W p l e room_1 s m #[Value.ref b] below meth c H locs cells slots Q (F0 m p0 ls []) := by
  obtain ⟨v, X2, N2, E4, E5, hI2⟩ := th X N hI
  obtain ⟨hP4, hP5, hD4, hD5, hap, hS⟩ := hH
  refine lv_aload_n (pc := p0) C.1 C.2.1 d0 rfl (lv_at hl 1 rfl) ?_
  refine la_arg (pc := p0 + 1) (k := 1) C hL (by omega) ga0 (by decide) hl hS ?_
  refine la_arg (pc := p0 + 6) (k := 2) C hL (by omega) ga1 (by decide) hl hS ?_
  refine la_arg (pc := p0 + 11) (k := 3) C hL (by omega) ga2 (by decide) hl hS ?_
  refine la_call (pc := p0 + 16) (as := [xs (i + 1), xs (i + 2), xs (i + 3)]) (a := a4) (M := X) (st := []) C d1 c4 v4 r4 rfl z4 rfl (Nat.le_of_ble_eq_true rfl) hcs hss E4 (by rw [s4]; exact hP4) (by rw [s4]; exact hD4) hS hl.1 (fun H1 locs1 hQ4 hk1 hS1 => ?_)
  rw [s4] at hQ4 hk1
  have hQ5 : va_P D cr_cl (cr_wl cI cZ a5 N 0 shM) H1 := la_kept (a := a4) (M := X) (sh := shR) (sh' := shM) hP5 (fun i j hi hj => hap i j hi hj) hk1
  refine lv_aload_n (pc := p0 + 19) C.1 C.2.1 d2 rfl (lv_at hl 2 rfl) ?_
  refine la_arg (pc := p0 + 20) (k := 1) C hL (by omega) gb0 (by decide) hl hS1 ?_
  refine la_arg (pc := p0 + 25) (k := 2) C hL (by omega) gb1 (by decide) hl hS1 ?_
  refine la_arg (pc := p0 + 30) (k := 3) C hL (by omega) gb2 (by decide) hl hS1 ?_
  refine la_call (pc := p0 + 35) (as := [xs (i + 1), xs (i + 2), xs (i + 3)]) (a := a5) (M := N) (st := [.int v]) C d3 c5 v5 r5 rfl z5 rfl (Nat.le_of_ble_eq_true rfl) hcs hss E5 (by rw [s5]; exact hQ5) (by rw [s5]; exact hD5) hS1 hl.1 (fun H2 locs2 hR5 hk2 hS2 => ?_)
  rw [s5] at hR5 hk2
  have hR4 : va_P D cr_cl (cr_wl cI cZ a4 X2 0 shR) H2 := la_kept (a := a5) (M := N) (sh := shM) (sh' := shR) hQ4 (fun i j hi hj e => hap j i hj hi e.symm) hk2
  refine lv_icmp_eq (pc := p0 + 38) (tgt := 873) C.1 C.2.1 d4 ht (fun _ => ?_) (fun h => absurd rfl h)
  exact kk X2 N2 H2 locs2 hI2 ⟨hR4, hR5, cr_wl_D hD4, cr_wl_D hD5, hap, hS2⟩
/-- a case of 5 arguments -/
theorem la_c5 (C : la_C p s m meth c b L xs D cI cZ) (hL : L ≤ 3072) {i p0 i4 i5 : Nat} {off : Int} {Y4 Y5 : cr_Y} {a4 a5 : Nat → Nat} {X N : cr_M} (hi : i + 6 ≤ L) (hcs : cells ≤ 91) (hss : slots ≤ 8929) (d0 : decode code p0 = .ok (.aload_n 1, 1)) (ga0 : la_dA (p0 + 1) 1) (ga1 : la_dA (p0 + 6) 2) (ga2 : la_dA (p0 + 11) 3) (ga3 : la_dA (p0 + 16) 4) (ga4 : la_dA (p0 + 21) 5) (d1 : decode code (p0 + 26) = .ok (.invokevirtual i4, 3)) (d2 : decode code (p0 + 29) = .ok (.aload_n 2, 1)) (gb0 : la_dA (p0 + 30) 1) (gb1 : la_dA (p0 + 35) 2) (gb2 : la_dA (p0 + 40) 3) (gb3 : la_dA (p0 + 45) 4) (gb4 : la_dA (p0 + 50) 5) (d3 : decode code (p0 + 55) = .ok (.invokevirtual i5, 3)) (d4 : decode code (p0 + 58) = .ok (.if_icmp .eq off, 3)) (ht : ((p0 + 58 : Nat) : Int) + off = ((873 : Nat) : Int)) (c4 : la_cs Y4 i4 5) (v4 : cr_csV Y4) (r4 : cr_rc Y4) (s4 : cr_sh Y4 = shR) (z4 : 6 ≤ cr_ml Y4) (c5 : la_cs Y5 i5 5) (v5 : cr_csV Y5) (r5 : cr_rc Y5) (s5 : cr_sh Y5 = shM) (z5 : 6 ≤ cr_ml Y5) (th : la_th Y4 Y5 [xs (i + 1), xs (i + 2), xs (i + 3), xs (i + 4), xs (i + 5)]) (hI : x_I X N) (hH : la_H D cI cZ a4 a5 X N s H locs) (hl : lv_has ls 4 [(0, .ref b), (1, .ref (a4 0)), (2, .ref (a5 0)), (3, .int (nI i))])
    (kk : ∀ (X2 N2 : cr_M) (H1 : Heap) (locs1 : List Loc), x_I X2 N2 → la_H D cI cZ a4 a5 X2 N2 s H1 locs1 → W p l e room_1 s m #[Value.ref b] below meth c H1 locs1 cells slots Q (F0 m 873 ls [])) : W p l e room_1 s m #[Value.ref b] below meth c H locs cells slots Q (F0 m p0 ls []) := by
  obtain ⟨v, X2, N2, E4, E5, hI2⟩ := th X N hI
  obtain ⟨hP4, hP5, hD4, hD5, hap, hS⟩ := hH
  refine lv_aload_n (pc := p0) C.1 C.2.1 d0 rfl (lv_at hl 1 rfl) ?_
  refine la_arg (pc := p0 + 1) (k := 1) C hL (by omega) ga0 (by decide) hl hS ?_
  refine la_arg (pc := p0 + 6) (k := 2) C hL (by omega) ga1 (by decide) hl hS ?_
  refine la_arg (pc := p0 + 11) (k := 3) C hL (by omega) ga2 (by decide) hl hS ?_
  refine la_arg (pc := p0 + 16) (k := 4) C hL (by omega) ga3 (by decide) hl hS ?_
  refine la_arg (pc := p0 + 21) (k := 5) C hL (by omega) ga4 (by decide) hl hS ?_
  refine la_call (pc := p0 + 26) (as := [xs (i + 1), xs (i + 2), xs (i + 3), xs (i + 4), xs (i + 5)]) (a := a4) (M := X) (st := []) C d1 c4 v4 r4 rfl z4 rfl (Nat.le_of_ble_eq_true rfl) hcs hss E4 (by rw [s4]; exact hP4) (by rw [s4]; exact hD4) hS hl.1 (fun H1 locs1 hQ4 hk1 hS1 => ?_)
  rw [s4] at hQ4 hk1
  have hQ5 : va_P D cr_cl (cr_wl cI cZ a5 N 0 shM) H1 := la_kept (a := a4) (M := X) (sh := shR) (sh' := shM) hP5 (fun i j hi hj => hap i j hi hj) hk1
  refine lv_aload_n (pc := p0 + 29) C.1 C.2.1 d2 rfl (lv_at hl 2 rfl) ?_
  refine la_arg (pc := p0 + 30) (k := 1) C hL (by omega) gb0 (by decide) hl hS1 ?_
  refine la_arg (pc := p0 + 35) (k := 2) C hL (by omega) gb1 (by decide) hl hS1 ?_
  refine la_arg (pc := p0 + 40) (k := 3) C hL (by omega) gb2 (by decide) hl hS1 ?_
  refine la_arg (pc := p0 + 45) (k := 4) C hL (by omega) gb3 (by decide) hl hS1 ?_
  refine la_arg (pc := p0 + 50) (k := 5) C hL (by omega) gb4 (by decide) hl hS1 ?_
  refine la_call (pc := p0 + 55) (as := [xs (i + 1), xs (i + 2), xs (i + 3), xs (i + 4), xs (i + 5)]) (a := a5) (M := N) (st := [.int v]) C d3 c5 v5 r5 rfl z5 rfl (Nat.le_of_ble_eq_true rfl) hcs hss E5 (by rw [s5]; exact hQ5) (by rw [s5]; exact hD5) hS1 hl.1 (fun H2 locs2 hR5 hk2 hS2 => ?_)
  rw [s5] at hR5 hk2
  have hR4 : va_P D cr_cl (cr_wl cI cZ a4 X2 0 shR) H2 := la_kept (a := a5) (M := N) (sh := shM) (sh' := shR) hQ4 (fun i j hi hj e => hap j i hj hi e.symm) hk2
  refine lv_icmp_eq (pc := p0 + 58) (tgt := 873) C.1 C.2.1 d4 ht (fun _ => ?_) (fun h => absurd rfl h)
  exact kk X2 N2 H2 locs2 hI2 ⟨hR4, hR5, cr_wl_D hD4, cr_wl_D hD5, hap, hS2⟩
end LA
theorem la_ge {i L : Nat} (hi : i ≤ L + 5) (hL : L ≤ 3072) (h : ¬ (Int32.ofNat L - 6 < nI i)) : i + 6 ≤ L := by
  have a2 : (nI i).toInt = i := nI_toInt (by omega)
  rcases Nat.lt_or_ge L 6 with h6 | h6
  · have a1 : (Int32.ofNat L - 6).toInt < 0 := by
      rcases (by omega : L = 0 ∨ L = 1 ∨ L = 2 ∨ L = 3 ∨ L = 4 ∨ L = 5) with rfl | rfl | rfl | rfl | rfl | rfl <;> decide
    exact absurd (Int32.lt_iff_toInt_lt.mpr (by omega)) h
  · obtain ⟨k, rfl⟩ : ∃ k, L = k + 6 := ⟨L - 6, by omega⟩
    have e : Int32.ofNat (k + 6) - 6 = nI k := by
      show nI (k + 6) - nI 6 = nI k
      rw [← nI_add k 6]
      exact Int32.add_sub_cancel _ _
    rw [e] at h
    rcases Nat.lt_or_ge k i with q | q
    · exact absurd (nI_lt q (by omega)) h
    · omega
theorem la_sw (y : Int32) : (y.toInt < 0 ∨ 24 < y.toInt) ∨ ∃ k : Nat, k < 25 ∧ y = nI k := by
  by_cases h : y.toInt < 0 ∨ 24 < y.toInt
  · exact Or.inl h
  · refine Or.inr ⟨y.toInt.toNat, by omega, ?_⟩
    apply Int32.toInt_inj.mp
    rw [nI_toInt (by omega)]
    omega
