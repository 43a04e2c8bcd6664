/-! constructors -/
def cn_w1 : Cond := .methodLinkNest "CallRoom" 9 ⟨"CallRoom$Floor", "<init>", "()V"⟩ "CallRoom"
def cn_w2 : Cond := .methodLinkNest "CallRoom$Floor" 11 ⟨"CallRoom$Helpers", "<init>", "()V"⟩ "CallRoom"
def cn_w3 : Cond := .methodLinkNest "CallRoom$Floor" 20 ⟨"CallRoom$Calls", "<init>", "()V"⟩ "CallRoom"
def cn_w4 : Cond := .methodLinkNest "CallRoom" 21 ⟨"CallRoom$Shifts", "<init>", "()V"⟩ "CallRoom"
def cn_N (U : State) : Prop := va_Nw cn_w1 U ∧ va_Nw cn_w2 U ∧ va_Nw cn_w3 U ∧ va_Nw cn_w4 U
theorem cn_N.warm {s U : State} (hW : s.WarmedH U.vm) (h : cn_N s) : cn_N U := ⟨va_Nw.warmM hW h.1, va_Nw.warmM hW h.2.1, va_Nw.warmM hW h.2.2.1, va_Nw.warmM hW h.2.2.2⟩
theorem cn_N.same {s U : State} (e : s.vm = U.vm) (h : cn_N s) : cn_N U := ⟨va_Nw.same rfl e h.1, va_Nw.same rfl e h.2.1, va_Nw.same rfl e h.2.2.1, va_Nw.same rfl e h.2.2.2⟩
def cn_ty (b : Bool) : FieldType := match b with
  | true => .boolean
  | false => .int
def cn_C (own : String) (cc : ByteArray) (D : va_G) (cI cZ : ClassId) (A : Nat → Prop) (p : Program) (s : State) (m : MethodId) (args : Array Value) (meth : Method) (c : Code) : Prop :=
  p.tables.exec = Jvm.exec ∧ c.code = cc ∧ c.maxLocals = 1 ∧ s.vm.findClass own = some m.cls ∧ (∀ w ∈ cr_tb, w.before args s = true) ∧ meth.name = "<init>" ∧ va_K D cr_cl (cr_ty cI cZ) s ∧ (∀ q : Nat, s.heap.size ≤ q → A q) ∧ cn_N s ∧ meth.sig.returnType = none ∧ meth.locks = false
def cr_ff (own : String) (ci j : Nat) (ty : FieldType) : Prop := ∀ (C : String) (T : u_T) (N : Nat), cr_cl[ci]? = some (C, T, N) → (∃ ty0 : Nat → FieldType, ∀ k, k < N → parseFieldDescriptor (T k).2.2.1 = some (ty0 k)) ∧ (∀ a, a < N → ∀ b, b < N → a ≠ b → (T a).2.1 ≠ (T b).2.1) ∧ (T j).2.2.2 = true ∧ (T j).1 = own ∧ parseFieldDescriptor (T j).2.2.1 = some ty
theorem cn_cA {D : va_G} {cI cZ : ClassId} {s : State} {cA : ClassId} {b : Bool} (hK : va_K D cr_cl (cr_ty cI cZ) s) (h : va_RA s cA (cn_ty b)) : cA = cr_ca cI cZ b := by
  cases b
  · have h1 := (hK.2 0 (cI, .int) rfl).2
    exact Option.some.inj (Eq.trans (Eq.symm h) h1)
  · have h1 := (hK.2 1 (cZ, .boolean) rfl).2
    exact Option.some.inj (Eq.trans (Eq.symm h) h1)
section CN
variable {p : Program} {l : Launch} {e : Env} {R : Room} {s : State} {m : MethodId} {args : Array Value} {below : List Frame} {meth : Method} {c : Code} {H : Heap} {locs : List Loc} {cells slots : Nat} {Q : State → Prop} {own : String} {cc : ByteArray} {D : va_G} {cI cZ : ClassId} {A : Nat → Prop} {h0 : Nat} {ls : Array Slot} {w : va_W} {ci : Nat} {fs : List Value} {pc index j : Nat}
/-- Object's own -/
theorem cn_obj (C : cn_C own cc D cI cZ A p s m args meth c) (hl : lv_has ls 1 [(0, .ref h0)]) (h1 : Cond.methodLink own index Lib.objectInit ∈ cr_tb) (h2 : Cond.instanceMethod Lib.objectInit ∈ cr_tb) (h3 : Cond.code Lib.objectInit ⟨#[0xb1]⟩ 1 none ∈ cr_tb) (hf : 1 ≤ R.frames) (hL : 12 ≤ R.locals) (hd0 : decode cc pc = .ok (.aload_n 0, 1)) (hd1 : decode cc (pc + 1) = .ok (.invokespecial index, 3))
    (kk : W p l e R s m args below meth c H locs cells slots Q (F0 m (pc + 4) ls [])) : W p l e R s m args below meth c H locs cells slots Q (F0 m pc ls []) := by
  obtain ⟨hx, hb, hml, hown, hts, hin, hK, hA, hN, -⟩ := C
  refine lv_aload_n hx hb hd0 rfl (lv_at hl 0 rfl) ?_
  refine W.objInit hx hb hown (hts _ h1) (hts _ h2) (hts _ h3) rfl (by rw [hml]; exact hl.1) rfl hd1 hf ?_ kk
  simpa [F0, JFrame.monitorRoom] using hL
/-- a new row, into a final field -/
theorem cn_na (C : cn_C own cc D cI cZ A p s m args meth c) (hf : cr_fl own index ci j) {b : Bool} (hq : cr_ff own ci j (.array (cn_ty b))) (hj : j < fs.length) {at' : ArrayType} (hat : newarray.typeOf at' = cn_ty b) (harr : Cond.arrayClass (cn_ty b) ∈ cr_tb) {n : Int32} {n' : Nat} (hn : ¬ n < 0) (hn' : n.toNatClampNeg = n') (hby : n' * componentBytes (cn_ty b) ≤ 536870912) (hcells : cells + 1 ≤ R.cells) (hslots : slots + n' ≤ R.slots) (hd1 : decode cc pc = .ok (.newarray at', 2)) (hd2 : decode cc (pc + 2) = .ok (.putfield index, 3))
    (hP : va_P D cr_cl ((h0, .inr (ci, fs)) :: w) H) (hD : va_D A ((h0, .inr (ci, fs)) :: w)) (hS : va_S A s.heap H locs)
    (kk : ∀ (q : Nat) (H1 : Heap) (locs1 : List Loc), va_P D cr_cl ((h0, .inr (ci, fs.set j (.ref q))) :: (w ++ [(q, .inl (cr_ca cI cZ b, n', .inl (fun _ => 0)))])) H1 → va_D A ((h0, .inr (ci, fs.set j (.ref q))) :: (w ++ [(q, .inl (cr_ca cI cZ b, n', .inl (fun _ => 0)))])) → va_S A s.heap H1 locs1 → W p l e R s m args below meth c H1 locs1 (cells + 1) (slots + n') Q (F0 m (pc + 5) ls [])) :
    W p l e R s m args below meth c H locs cells slots Q (F0 m pc ls [.int n, .ref h0]) := by
  obtain ⟨hx, hb, hml, hown, hts, hin, hK, hA, hN, -⟩ := C
  obtain ⟨C', T, N, hc, hiw, hjN, hlink⟩ := hf
  obtain ⟨⟨ty0, hty⟩, hnm, hfin, hdecl, hpd⟩ := hq C' T N hc
  refine va_newa hx hb (by rw [hat]; exact hts _ harr) hat hK hP hD hS hA (a0 := (n', .inl (fun _ => 0))) ?_ hn hn' hby hcells hslots hd1 (fun q cA H1 hK1 hP1 hD1 hS1 => ?_)
  · intro cA
    cases b <;> rfl
  · have e1 : cA = cr_ca cI cZ b := cn_cA hK (hK1.2 2 (cA, cn_ty b) rfl).2
    subst e1
    exact va_putF (D := D) (ci := ci) (v := .ref q) (ty := .array (cn_ty b)) (C := C') (T := T) (N := N) hx hb hts hiw ty0 hty hnm hown hK hP1 hD1 hS1 0 rfl hc j hjN (hts _ hlink) (fun _ h => h) hfin hin hdecl hpd (by cases b <;> rfl) (by cases b <;> rfl) hj hd2 (fun H2 locs2 hP2 hD2 hS2 => kk q H2 locs2 hP2 hD2 hS2)
/-- an int into a field that isn't final -/
theorem cn_pi (C : cn_C own cc D cI cZ A p s m args meth c) (hf : cr_fl own index ci j) (hq : cr_fp ci j) (hj : j < fs.length) {x : Int32} (hd2 : decode cc pc = .ok (.putfield index, 3))
    (hP : va_P D cr_cl ((h0, .inr (ci, fs)) :: w) H) (hD : va_D A ((h0, .inr (ci, fs)) :: w)) (hS : va_S A s.heap H locs)
    (kk : ∀ (H1 : Heap) (locs1 : List Loc), va_P D cr_cl ((h0, .inr (ci, fs.set j (.int x))) :: w) H1 → va_D A ((h0, .inr (ci, fs.set j (.int x))) :: w) → va_S A s.heap H1 locs1 → W p l e R s m args below meth c H1 locs1 cells slots Q (F0 m (pc + 3) ls [])) :
    W p l e R s m args below meth c H locs cells slots Q (F0 m pc ls [.int x, .ref h0]) := by
  obtain ⟨hx, hb, hml, hown, hts, hin, hK, hA, hN, -⟩ := C
  obtain ⟨C', T, N, hc, hiw, hjN, hlink⟩ := hf
  obtain ⟨⟨ty0, hty⟩, hnm, hfin, hpd⟩ := hq C' T N hc
  exact va_put (D := D) (ci := ci) (v := .int x) (ty := .int) (C := C') (T := T) (N := N) hx hb hts hiw ty0 hty hnm hown hK hP hD hS 0 rfl hc j hjN (hts _ hlink) (fun _ h => h) hfin hpd rfl rfl hj hd2 (fun H2 locs2 hP2 hD2 hS2 => kk H2 locs2 hP2 hD2 hS2)
end CN
def cn_Pc (D : va_G) (cI cZ : ClassId) (h0 ci : Nat) (fs : List Value) (sz : Nat) : Array Value → State → Prop :=
  va_Pc [.ref h0] (fun U => U.heap.size = sz ∧ va_P D cr_cl [(h0, .inr (ci, fs))] U.heap ∧ va_K D cr_cl (cr_ty cI cZ) U ∧ va_D (fun _ => True) [(h0, .inr (ci, fs))] ∧ cn_N U)
def cn_Q (D : va_G) (cI cZ : ClassId) (h0 : Nat) (A : Nat → Prop) (sh : List cr_Shp) (M : cr_M) : Array Value → State → Outcome → State → Prop := va_Qv (fun ad : Nat → Nat => ad 0 = h0) (fun ad t => cr_B D cI cZ ad A sh M t) A
theorem cn_blind {D : va_G} {cI cZ : ClassId} {h0 ci : Nat} {fs : List Value} {sz : Nat} : FrameBlind (cn_Pc D cI cZ h0 ci fs sz) := fun a U g mk q => by
  obtain ⟨q0, q1, qP, qK, qD, qN⟩ := q
  exact ⟨q0, q1, qP, va_K.moved (u := U) (U := U.calling g mk a) (Vm.Alike.refl U.vm) qK, qD, cn_N.same (s := U) (U := U.calling g mk a) rfl qN⟩
abbrev cn_ws (y : MethodName) (cc : ByteArray) : List Cond := Cond.code y cc 1 none :: cr_tb
theorem cn_good {y : MethodName} {cc : ByteArray} (h : Cond.code y cc 1 none ∈ cr_tb) : GoodIn cr_tb (cn_ws y cc) := by
  intro w hw
  rcases List.mem_cons.mp hw with rfl | hw
  · exact ⟨h, good_of_word (cr_lw h).2⟩
  · exact ⟨hw, good_of_word (cr_lw hw).2⟩
/-- a constructor's contract out of its walk -/
theorem cn_met {y : MethodName} {cc : ByteArray} {rm : Room} {D : va_G} {cI cZ : ClassId} {h0 ci : Nat} {fs : List Value} {sz : Nat} {sh : List cr_Shp} {M : cr_M} {mc ms : Nat} {l : Launch} (hpl : plainName y.cls = true) (hyi : y.name = "<init>")
    (K : ∀ (p : Program) (e : Env) (s : State) (m : MethodId) (args : Array Value) (below : List Frame) (meth : Method) (c : Code) (A : Nat → Prop), cn_C y.cls cc D cI cZ A p s m args meth c → va_P D cr_cl [(h0, .inr (ci, fs))] s.heap → va_D A [(h0, .inr (ci, fs))] → va_S A s.heap s.heap [] → ∀ ls : Array Slot, lv_has ls 1 [(0, .ref h0)] → W p l e rm s m args below meth c s.heap [] 0 0 (MQ below (cn_Q D cI cZ h0 A sh M) args s mc ms A) (F0 m 0 ls [])) :
    Met l y (cn_ws y cc) rm (cn_Pc D cI cZ h0 ci fs sz) (cn_Q D cI cZ h0 (va_A [(h0, .inr (ci, fs))] sz) sh M) mc ms (va_A [(h0, .inr (ci, fs))] sz) := by
  refine Met.ofW (cc := cc) (maxL := 1) (ret := none) hpl rfl ?_
  intro p e s m args below meth c s₁ B hml hv
  obtain ⟨rfl, hsz, hP, hK, hD0, hN⟩ := hv
  have hts := atoms_spec (ws := cn_ws y cc) B.pre
  have hown : s.vm.findClass y.cls = some m.cls := findClass_of_methodNamed B.named
  have hin : meth.name = "<init>" := ((name_of_methodNamed B.named B.method).1).trans hyi
  subst hsz
  have hD := hD0.self (sz := s.heap.size)
  have hA : ∀ q : Nat, s.heap.size ≤ q → va_A [(h0, .inr (ci, fs))] s.heap.size q := fun q h => Or.inr h
  have hl := lv_entry ([.ref h0]) (n := 1) (Nat.le_of_ble_eq_true rfl)
  rw [lg_entry_eq]
  exact K p e s m _ below meth c _ ⟨B.exec, B.bytes, hml, hown, fun w h => hts w (List.mem_cons_of_mem _ h), hin, hK, hA, hN, B.returns, B.notSynchronized⟩ hP hD va_S.rf _ hl
theorem cn_end {p : Program} {l : Launch} {e : Env} {R : Room} {s : State} {m : MethodId} {args : Array Value} {below : List Frame} {meth : Method} {c : Code} {H : Heap} {locs : List Loc} {cells slots : Nat} {own : String} {cc : ByteArray} {D : va_G} {cI cZ : ClassId} {A : Nat → Prop} {h0 : Nat} {ls : Array Slot} {pc : Nat} {sh : List cr_Shp} {M : cr_M} {mc ms : Nat} (C : cn_C own cc D cI cZ A p s m args meth c) (ad : Nat → Nat) (had : ad 0 = h0) (hc : cells ≤ mc) (hs : slots ≤ ms) (hP : va_P D cr_cl (cr_wl cI cZ ad M 0 sh) H) (hD : va_D A (cr_wl cI cZ ad M 0 sh)) (hS : va_S A s.heap H locs) (hd : decode cc pc = .ok (.return_, 1)) : W p l e R s m args below meth c H locs cells slots (MQ below (cn_Q D cI cZ h0 A sh M) args s mc ms A) (F0 m pc ls []) := by
  obtain ⟨hx, hb, hml, hown, hts, hin, hK, hA, hN, hr, hlk⟩ := C
  refine W.widen (k := mc) (n := ms) hc hs ?_
  exact W.vret hx hb hr (fun t ht hW => ⟨⟨ad, rfl, had, by rw [ht]; exact hP, va_K.moved hW.alike hK, hD⟩, hS.F ht⟩) hS.2.2 hd hlk
/-- new cells behind the rest -/
theorem cn_join {A : Nat → Prop} {D : va_G} {ws w1 : va_W} {x : Nat × va_E} {H H1 : Heap} (hP : va_P D cr_cl (ws ++ [x]) H) (hD : va_D A (ws ++ [x])) (hF : ∀ q, va_A [x] H.size q → A q) (hk : ∀ q : Nat, q < H.size → ¬ va_A [x] H.size q → H1[q]? = H[q]?) (hP1 : va_P D cr_cl w1 H1) (hD1 : va_D (va_A [x] H.size) w1) : va_P D cr_cl (ws ++ w1) H1 ∧ va_D A (ws ++ w1) := by
  have hi : ∀ (k : Nat) (y : Nat × va_E), ws[k]? = some y → (ws ++ [x])[k]? = some y := fun k y hy => by
    rw [List.getElem?_append_left (List.getElem?_eq_some_iff.mp hy).1]; exact hy
  have hlast : (ws ++ [x])[ws.length]? = some x := by simp
  have ap : ∀ (k : Nat) (y : Nat × va_E), ws[k]? = some y → y.1 < H.size ∧ ¬ va_A [x] H.size y.1 := by
    intro k y hy
    have hl := (hP k y (hi k y hy)).lt
    refine ⟨hl, ?_⟩
    rintro (⟨j, e, hj⟩ | h)
    · have hj0 : j < 1 := (List.getElem?_eq_some_iff.mp hj).1
      rw [show j = 0 by omega] at hj
      have hx : x = (y.1, e) := Option.some.inj hj
      have := hD.1 k ws.length y x (hi k y hy) hlast (by rw [hx])
      have := (List.getElem?_eq_some_iff.mp hy).1
      omega
    · omega
  refine ⟨va_P.app (fun k y hy => (hP k y (hi k y hy)).kept (hk _ (ap k y hy).1 (ap k y hy).2)) hP1, va_D.app ⟨fun i j a b ha hb hab => hD.1 i j a b (hi i a ha) (hi j b hb) hab, fun k y hy => hD.2 k y (hi k y hy)⟩ (hD1.weaken (fun k q _ h => hF q.1 h)) (fun i j a b ha hb hab => ?_)⟩
  exact (ap i a ha).2 (by rw [hab]; exact hD1.2 j b hb)
/-- a new object, its constructor, into a final field -/
theorem cn_new {p : Program} {l : Launch} {e : Env} {R : Room} {s : State} {m : MethodId} {args : Array Value} {below : List Frame} {meth : Method} {c : Code} {H : Heap} {locs : List Loc} {cells slots : Nat} {Q : State → Prop} {own : String} {cc : ByteArray} {D : va_G} {cI cZ : ClassId} {A : Nat → Prop} {h0 : Nat} {ls : Array Slot} {w : va_W} {ci : Nat} {fs : List Value} {pc index j : Nat} {i1 i2 ci' N' : Nat} {C' host : String} {T' : u_T} {ty' : Nat → FieldType} {fs' : List Value} {y : MethodName} {cc' : ByteArray} {rm : Room} {sh' : List cr_Shp} {M' : cr_M} {mc ms : Nat}
    (C : cn_C own cc D cI cZ A p s m args meth c) (hl : lv_has ls 1 [(0, .ref h0)]) (hf : cr_fl own index ci j) (hq : cr_ff own ci j (.object C')) (hj : j < fs.length)
    (hc' : cr_cl[ci']? = some (C', T', N')) (hiw' : ∀ w ∈ u_ws C' T' N', w ∈ cr_tb) (hty' : ∀ k, k < N' → parseFieldDescriptor (T' k).2.2.1 = some (ty' k)) (hfs' : ∀ j, j < N' → defaultValue (ty' j) = vp_V fs' j) (hcl : Cond.classLink own i1 C' ∈ cr_tb) (hinst : Cond.instantiable C' N' ∈ cr_tb) (hini : Cond.initialized C' ∈ cr_tb)
    (hM : ∀ q sz, Met l y (cn_ws y cc') rm (cn_Pc D cI cZ q ci' fs' sz) (cn_Q D cI cZ q (va_A [(q, .inr (ci', fs'))] sz) sh' M') mc ms (va_A [(q, .inr (ci', fs'))] sz)) (hyc : y.cls = C') (hyi : y.name = "<init>") (hcode : Cond.code y cc' 1 none ∈ cr_tb) (hinm : Cond.instanceMethod y ∈ cr_tb) (hnest : va_Nw (.methodLinkNest own i2 y host) s) (hrc : rm.cells = mc) (hrs : rm.slots = ms) (hyd : y.cls ≠ "java/lang/invoke/MethodHandle" ∧ y.cls ≠ "java/lang/invoke/VarHandle" ∧ (parseMethodDescriptor y.desc).map (fun d => d.parameters.length) = some 0) (hR : rm.frames + 1 ≤ R.frames ∧ 8 + (1 + 11) + rm.locals ≤ R.locals)
    (hcells : cells + 1 + mc ≤ R.cells) (hslots : slots + N' + ms ≤ R.slots)
    (hd0 : decode cc pc = .ok (.aload_n 0, 1)) (hd1 : decode cc (pc + 1) = .ok (.new i1, 3)) (hd2 : decode cc (pc + 4) = .ok (.dup, 1)) (hd3 : decode cc (pc + 5) = .ok (.invokespecial i2, 3)) (hd4 : decode cc (pc + 8) = .ok (.putfield index, 3))
    (hP : va_P D cr_cl ((h0, .inr (ci, fs)) :: w) H) (hD : va_D A ((h0, .inr (ci, fs)) :: w)) (hS : va_S A s.heap H locs)
    (kk : ∀ (ad : Nat → Nat) (H1 : Heap) (locs1 : List Loc), va_P D cr_cl ((h0, .inr (ci, fs.set j (.ref (ad 0)))) :: (w ++ cr_wl cI cZ ad M' 0 sh')) H1 → va_D A ((h0, .inr (ci, fs.set j (.ref (ad 0)))) :: (w ++ cr_wl cI cZ ad M' 0 sh')) → va_S A s.heap H1 locs1 → W p l e R s m args below meth c H1 locs1 (cells + 1 + mc) (slots + N' + ms) Q (F0 m (pc + 11) ls [])) :
    W p l e R s m args below meth c H locs cells slots Q (F0 m pc ls []) := by
  obtain ⟨hx, hb, hml, hown, hts, hin, hK, hA, hN, -⟩ := C
  refine lv_aload_n hx hb hd0 rfl (lv_at hl 0 rfl) ?_
  refine va_new (ci := ci') (fs := fs') (C := C') (T := T') (N := N') hx hb hts hiw' ty' hty' hown (hts _ hcl) (hts _ hinst) (hts _ hini) hK hP hD hS hA hc' hfs' (by omega) (by omega) hd1 (fun q H1 hP1 hD1 hS1 => ?_)
  refine lv_dup hx hb hd2 rfl ?_
  have hlast : ((h0, (.inr (ci, fs) : va_E)) :: w ++ [(q, .inr (ci', fs'))])[((h0, (.inr (ci, fs) : va_E)) :: w).length]? = some (q, .inr (ci', fs')) := by simp
  have hPc : va_P D cr_cl [(q, .inr (ci', fs'))] H1 := fun k x hx => by
    have hk : k < 1 := (List.getElem?_eq_some_iff.mp hx).1
    rw [show k = 0 by omega] at hx
    cases hx
    exact hP1 _ _ hlast
  have hDc : va_D (fun _ => True) [(q, (.inr (ci', fs') : va_E))] := ⟨fun i j a b ha hb _ => by
    have h1 : i < 1 := (List.getElem?_eq_some_iff.mp ha).1
    have h2 : j < 1 := (List.getElem?_eq_some_iff.mp hb).1
    omega, fun _ _ _ => trivial⟩
  have hFc : ∀ x, va_A [(q, .inr (ci', fs'))] H1.size x → A x := by
    rintro x (⟨k, e, hk⟩ | h)
    · have hk0 : k < 1 := (List.getElem?_eq_some_iff.mp hk).1
      rw [show k = 0 by omega] at hk
      cases hk
      exact hD1.2 _ _ hlast
    · exact hA x (Nat.le_trans hS1.1 h)
  refine va_callv (va_runIN (host := host) (As := []) (rest := [.ref q, .ref h0]) ⟨hx, hb, hml, hown, hts⟩ (hM q H1.size) ⟨va_cnB 0 hts (cn_good hcode) rfl hrc hrs hnest (by rw [hyc]; exact hts _ hini) hyd hR, hyi, hts _ hinm⟩ ⟨cn_blind, fun U hU hW => ⟨rfl, by rw [hU], by rw [hU]; exact hPc, va_K.moved hW.alike hK, hDc, cn_N.warm hW hN⟩⟩ rfl rfl hl.1 rfl (lv_room (Nat.le_of_ble_eq_true rfl)) hd3 ⟨hcells, hslots⟩) hS1 (fun x _ h => hFc x h) hFc (fun ad t H2 locs2 ht hvm hw hB hz1 hk1 hS2 => ?_)
  obtain ⟨hPw, hKw, hDw⟩ := hB
  rw [ht] at hPw
  have hw : ad 0 = q := hw
  obtain ⟨hP2, hD2⟩ := cn_join hP1 hD1 hFc hk1 hPw hDw
  obtain ⟨C0, T, N, hc, hiw, hjN, hlink⟩ := hf
  obtain ⟨⟨ty0, hty⟩, hnm, hfin, hdecl, hpd⟩ := hq C0 T N hc
  subst hw
  exact va_putF (D := D) (ci := ci) (v := .ref (ad 0)) (ty := .object C') (C := C0) (T := T) (N := N) hx hb hts hiw ty0 hty hnm hown hK hP2 hD2 hS2 0 rfl hc j hjN (hts _ hlink) (fun _ h => h) hfin hin hdecl hpd rfl rfl hj hd4 (fun H3 locs3 hP3 hD3 hS3 => kk ad H3 locs3 hP3 hD3 hS3)
