/-! own picture of the worlds: cells by number, ints by cell and place -/
abbrev cr_AV : Type := Int32 ⊕ (Int64 ⊕ Nat)
abbrev cr_M : Type := Nat → Nat → Int32
/-- a cell's shape: an object (its class's number, its fields: none an int, some r a reference to cell r), or an array (length, boolean or int) -/
abbrev cr_Shp : Type := (Nat × List (Option Nat)) ⊕ (Nat × Bool)
/-- a method: name, bytes, locals, answer, the shape of its world, frames, words -/
abbrev cr_Y : Type := MethodName × ByteArray × Nat × Option FieldType × List cr_Shp × Nat × Nat
def cr_nm (Y : cr_Y) : MethodName := Y.1
def cr_by (Y : cr_Y) : ByteArray := Y.2.1
def cr_ml (Y : cr_Y) : Nat := Y.2.2.1
def cr_rt (Y : cr_Y) : Option FieldType := Y.2.2.2.1
def cr_sh (Y : cr_Y) : List cr_Shp := Y.2.2.2.2.1
def cr_fr (Y : cr_Y) : Nat := Y.2.2.2.2.2.1
def cr_lo (Y : cr_Y) : Nat := Y.2.2.2.2.2.2
def cr_rm (Y : cr_Y) : Room := { frames := cr_fr Y, cells := 0, slots := 0, locals := cr_lo Y }
def cr_tv (ad : Nat → Nat) (v : cr_AV) : Value := match v with
  | .inl x => .int x
  | .inr (.inl x) => .long x
  | .inr (.inr k) => .ref (ad k)
def cr_tl (ad : Nat → Nat) (q : Nat × cr_AV) : Nat × Value := (q.1, cr_tv ad q.2)
def cr_fv (ad : Nat → Nat) (row : Nat → Int32) (j : Nat) (f : Option Nat) : Value := match f with
  | none => .int (row j)
  | some r => .ref (ad r)
def cr_fs (ad : Nat → Nat) (row : Nat → Int32) : Nat → List (Option Nat) → List Value
  | _, [] => []
  | j, f :: t => cr_fv ad row j f :: cr_fs ad row (j + 1) t
def cr_ca (cI cZ : ClassId) (b : Bool) : ClassId := match b with
  | true => cZ
  | false => cI
def cr_en (cI cZ : ClassId) (ad : Nat → Nat) (row : Nat → Int32) (c : cr_Shp) : va_E := match c with
  | .inl o => .inr (o.1, cr_fs ad row 0 o.2)
  | .inr a => .inl (cr_ca cI cZ a.2, a.1, .inl row)
def cr_wl (cI cZ : ClassId) (ad : Nat → Nat) (M : cr_M) : Nat → List cr_Shp → va_W
  | _, [] => []
  | k, c :: t => (ad k, cr_en cI cZ ad (M k) c) :: cr_wl cI cZ ad M (k + 1) t
/-- one place of the memory changes -/
def cr_up (M : cr_M) (k i : Nat) (x : Int32) : cr_M := va_up M k (upd (M k) i x)
theorem cr_wl_get (cI cZ : ClassId) (ad : Nat → Nat) (M : cr_M) (sh : List cr_Shp) : ∀ (k i : Nat), (cr_wl cI cZ ad M k sh)[i]? = (sh[i]?).map (fun c => (ad (k + i), cr_en cI cZ ad (M (k + i)) c)) := by
  induction sh with
  | nil => intro k i; simp [cr_wl]
  | cons c t ih =>
    intro k i
    cases i with
    | zero => simp [cr_wl]
    | succ i =>
      have h : k + 1 + i = k + (i + 1) := by omega
      simp [cr_wl, ih, h]
theorem cr_wl_get0 {cI cZ : ClassId} {ad : Nat → Nat} {M : cr_M} {sh : List cr_Shp} {i : Nat} {c : cr_Shp} (h : sh[i]? = some c) : (cr_wl cI cZ ad M 0 sh)[i]? = some (ad i, cr_en cI cZ ad (M i) c) := by
  rw [cr_wl_get, h]; simp
theorem cr_wl_inv {cI cZ : ClassId} {ad : Nat → Nat} {M : cr_M} {sh : List cr_Shp} {i : Nat} {q : Nat × va_E} (h : (cr_wl cI cZ ad M 0 sh)[i]? = some q) : ∃ c, sh[i]? = some c ∧ q = (ad i, cr_en cI cZ ad (M i) c) := by
  rw [cr_wl_get] at h
  cases hc : sh[i]? with
  | none => rw [hc] at h; cases h
  | some c => rw [hc] at h; refine ⟨c, rfl, ?_⟩; simpa using h.symm
theorem cr_wl_set {cI cZ : ClassId} {ad : Nat → Nat} {M : cr_M} {sh : List cr_Shp} {k : Nat} {c : cr_Shp} (h : sh[k]? = some c) (row : Nat → Int32) : (cr_wl cI cZ ad M 0 sh).set k (ad k, cr_en cI cZ ad row c) = cr_wl cI cZ ad (va_up M k row) 0 sh := by
  apply List.ext_getElem?
  intro i
  rw [List.getElem?_set, cr_wl_get, cr_wl_get]
  by_cases hi : k = i
  · subst hi
    have hl : k < (cr_wl cI cZ ad M 0 sh).length := by
      have := cr_wl_get0 (cI := cI) (cZ := cZ) (ad := ad) (M := M) h
      exact (List.getElem?_eq_some_iff.mp this).1
    simp [hl, h, va_up]
  · have hi2 : ¬ i = k := fun e => hi e.symm
    simp [hi, hi2, va_up]
theorem cr_fs_get (ad : Nat → Nat) (row : Nat → Int32) (fs : List (Option Nat)) : ∀ (j i : Nat), (cr_fs ad row j fs)[i]? = (fs[i]?).map (cr_fv ad row (j + i)) := by
  induction fs with
  | nil => intro j i; simp [cr_fs]
  | cons f t ih =>
    intro j i
    cases i with
    | zero => simp [cr_fs]
    | succ i =>
      have h : j + 1 + i = j + (i + 1) := by omega
      simp [cr_fs, ih, h]
theorem cr_fs_set {ad : Nat → Nat} {row : Nat → Int32} {fs : List (Option Nat)} {j : Nat} (h : fs[j]? = some none) (x : Int32) : (cr_fs ad row 0 fs).set j (.int x) = cr_fs ad (upd row j x) 0 fs := by
  apply List.ext_getElem?
  intro i
  rw [List.getElem?_set, cr_fs_get, cr_fs_get]
  by_cases hi : j = i
  · subst hi
    have hl : j < (cr_fs ad row 0 fs).length := by
      have h2 : (cr_fs ad row 0 fs)[j]? = some (cr_fv ad row (0 + j) none) := by rw [cr_fs_get, h]; rfl
      exact (List.getElem?_eq_some_iff.mp h2).1
    simp [hl, h, cr_fv, upd]
  · have hi2 : ¬ i = j := fun e => hi e.symm
    simp only [hi, if_false]
    cases hf : fs[i]? with
    | none => rfl
    | some f => cases f <;> simp [cr_fv, upd, hi2]
/-- the addresses alone decide how the cells lie -/
theorem cr_wl_D {cI cZ : ClassId} {ad : Nat → Nat} {M M2 : cr_M} {sh : List cr_Shp} {A : Nat → Prop} (h : va_D A (cr_wl cI cZ ad M 0 sh)) : va_D A (cr_wl cI cZ ad M2 0 sh) := by
  refine ⟨fun i j p q hi hj hpq => ?_, fun k q hk => ?_⟩
  · obtain ⟨c, hc, rfl⟩ := cr_wl_inv hi
    obtain ⟨d, hd, rfl⟩ := cr_wl_inv hj
    exact h.1 i j _ _ (cr_wl_get0 hc) (cr_wl_get0 hd) hpq
  · obtain ⟨c, hc, rfl⟩ := cr_wl_inv hk
    exact (h.2 k (ad k, cr_en cI cZ ad (M k) c) (cr_wl_get0 hc) : A (ad k))
abbrev cr_ty (cI cZ : ClassId) : List (ClassId × FieldType) := [(cI, .int), (cZ, .boolean)]
def cr_B (D : va_G) (cI cZ : ClassId) (ad : Nat → Nat) (A : Nat → Prop) (sh : List cr_Shp) (M : cr_M) (t : State) : Prop :=
  va_P D cr_cl (cr_wl cI cZ ad M 0 sh) t.heap ∧ va_K D cr_cl (cr_ty cI cZ) t ∧ va_D A (cr_wl cI cZ ad M 0 sh)
def cr_Q (D : va_G) (cI cZ : ClassId) (ad : Nat → Nat) (A : Nat → Prop) (sh : List cr_Shp) (r : Option cr_AV × cr_M) : Array Value → State → Outcome → State → Prop := match r.1 with
  | none => va_Qv (fun _ : Unit => True) (fun _ t => cr_B D cI cZ ad A sh r.2 t) A
  | some (.inl v) => va_Qi (fun (x : Int32) (_ : Unit) => x = v) (fun _ t => cr_B D cI cZ ad A sh r.2 t) A
  | some (.inr (.inl v)) => va_Ql (fun (x : Int64) (_ : Unit) => x = v) (fun _ t => cr_B D cI cZ ad A sh r.2 t) A
  | some (.inr (.inr _)) => fun _ _ _ _ => False
def cr_Cx (Y : cr_Y) (D : va_G) (cI cZ : ClassId) (A : Nat → Prop) (p : Program) (s : State) (m : MethodId) (args : Array Value) (meth : Method) (c : Code) : Prop :=
  p.tables.exec = Jvm.exec ∧ c.code = cr_by Y ∧ meth.sig.returnType = cr_rt Y ∧ c.maxLocals = cr_ml Y ∧ s.vm.findClass (cr_nm Y).cls = some m.cls ∧ (∀ w ∈ cr_tb, w.before args s = true) ∧ meth.locks = false ∧ va_K D cr_cl (cr_ty cI cZ) s ∧ (∀ q : Nat, s.heap.size ≤ q → A q)
/-- from pc, with these locals, this stack and this memory, the method Y comes to its end with r (its answer, the memory then) -/
def cr_Ev (Y : cr_Y) (pc : Nat) (lv : List (Nat × cr_AV)) (st : List cr_AV) (M : cr_M) (r : Option cr_AV × cr_M) : Prop :=
  ∀ (l : Launch) (D : va_G) (cI cZ : ClassId) (ad : Nat → Nat) (A : Nat → Prop) (p : Program) (e : Env) (s : State) (m : MethodId) (args : Array Value) (below : List Frame) (meth : Method) (c : Code),
    cr_Cx Y D cI cZ A p s m args meth c → ∀ (H : Heap) (locs : List Loc) (ls : Array Slot), va_P D cr_cl (cr_wl cI cZ ad M 0 (cr_sh Y)) H → va_D A (cr_wl cI cZ ad M 0 (cr_sh Y)) → va_S A s.heap H locs → lv_has ls (cr_ml Y) (lv.map (cr_tl ad)) →
    W p l e (cr_rm Y) s m args below meth c H locs 0 0 (MQ below (cr_Q D cI cZ ad A (cr_sh Y) r) args s 0 0 A) (F0 m pc ls (st.map (cr_tv ad)))
def cr_lk : List (Nat × cr_AV) → Nat → Option cr_AV
  | [], _ => none
  | (j, v) :: t, i => if j = i then some v else cr_lk t i
theorem cr_lk_mem {lv : List (Nat × cr_AV)} {i : Nat} {v : cr_AV} (h : cr_lk lv i = some v) : (i, v) ∈ lv := by
  induction lv with
  | nil => cases h
  | cons a t ih =>
    obtain ⟨j, w⟩ := a
    unfold cr_lk at h
    by_cases hj : j = i
    · rw [if_pos hj] at h
      cases h; subst hj
      exact List.mem_cons_self
    · rw [if_neg hj] at h
      exact List.mem_cons_of_mem _ (ih h)
theorem cr_lk_at {ls : Array Slot} {n : Nat} {ad : Nat → Nat} {lv : List (Nat × cr_AV)} {i : Nat} {v : cr_AV} (hl : lv_has ls n (lv.map (cr_tl ad))) (h : cr_lk lv i = some v) : ls[i]? = some (.val (cr_tv ad v)) :=
  hl.2.2 (i, cr_tv ad v) (List.mem_map.mpr ⟨(i, v), cr_lk_mem h, rfl⟩)
/-- a local of one word is put -/
def cr_s1 : List (Nat × cr_AV) → Nat → List (Nat × cr_AV)
  | [], _ => []
  | (j, v) :: t, i => if j = i then cr_s1 t i else match v with
    | .inr (.inl _) => if j + 1 = i then cr_s1 t i else (j, v) :: cr_s1 t i
    | _ => (j, v) :: cr_s1 t i
def cr_s2 : List (Nat × cr_AV) → Nat → List (Nat × cr_AV)
  | [], _ => []
  | (j, v) :: t, i => if j = i then cr_s2 t i else if j = i + 1 then cr_s2 t i else match v with
    | .inr (.inl _) => if j + 1 = i then cr_s2 t i else (j, v) :: cr_s2 t i
    | _ => (j, v) :: cr_s2 t i
theorem cr_cat {ad : Nat → Nat} {v : cr_AV} : (cr_tv ad v).category = (match v with | .inr (.inl _) => 2 | _ => 1) := by
  rcases v with x | x | x <;> rfl
theorem cr_s1_mem {lv : List (Nat × cr_AV)} {i : Nat} {q : Nat × cr_AV} (h : q ∈ cr_s1 lv i) : q ∈ lv ∧ ¬ q.1 = i ∧ ∀ ad, ¬ (q.1 + 1 = i ∧ (cr_tv ad q.2).category = 2) := by
  induction lv with
  | nil => cases h
  | cons a t ih =>
    obtain ⟨j, v⟩ := a
    unfold cr_s1 at h
    by_cases hj : j = i
    · rw [if_pos hj] at h
      obtain ⟨h1, h2⟩ := ih h
      exact ⟨List.mem_cons_of_mem _ h1, h2⟩
    · rw [if_neg hj] at h
      rcases v with x | x | x
      · rcases List.mem_cons.mp h with rfl | h
        · exact ⟨List.mem_cons_self, hj, fun ad hc => by simp [cr_tv, Value.category] at hc⟩
        · obtain ⟨h1, h2⟩ := ih h
          exact ⟨List.mem_cons_of_mem _ h1, h2⟩
      · by_cases h3 : j + 1 = i
        · simp only [h3, if_true] at h
          obtain ⟨h1, h2⟩ := ih h
          exact ⟨List.mem_cons_of_mem _ h1, h2⟩
        · simp only [h3, if_false] at h
          rcases List.mem_cons.mp h with rfl | h
          · exact ⟨List.mem_cons_self, hj, fun ad hc => h3 hc.1⟩
          · obtain ⟨h1, h2⟩ := ih h
            exact ⟨List.mem_cons_of_mem _ h1, h2⟩
      · rcases List.mem_cons.mp h with rfl | h
        · exact ⟨List.mem_cons_self, hj, fun ad hc => by simp [cr_tv, Value.category] at hc⟩
        · obtain ⟨h1, h2⟩ := ih h
          exact ⟨List.mem_cons_of_mem _ h1, h2⟩
theorem cr_s2_mem {lv : List (Nat × cr_AV)} {i : Nat} {q : Nat × cr_AV} (h : q ∈ cr_s2 lv i) : q ∈ lv ∧ ¬ q.1 = i ∧ ¬ q.1 = i + 1 ∧ ∀ ad, ¬ (q.1 + 1 = i ∧ (cr_tv ad q.2).category = 2) := by
  induction lv with
  | nil => cases h
  | cons a t ih =>
    obtain ⟨j, v⟩ := a
    unfold cr_s2 at h
    by_cases hj : j = i
    · rw [if_pos hj] at h
      obtain ⟨h1, h2⟩ := ih h
      exact ⟨List.mem_cons_of_mem _ h1, h2⟩
    · rw [if_neg hj] at h
      by_cases hj2 : j = i + 1
      · rw [if_pos hj2] at h
        obtain ⟨h1, h2⟩ := ih h
        exact ⟨List.mem_cons_of_mem _ h1, h2⟩
      · rw [if_neg hj2] at h
        rcases v with x | x | x
        · rcases List.mem_cons.mp h with rfl | h
          · exact ⟨List.mem_cons_self, hj, hj2, fun ad hc => by simp [cr_tv, Value.category] at hc⟩
          · obtain ⟨h1, h2⟩ := ih h
            exact ⟨List.mem_cons_of_mem _ h1, h2⟩
        · by_cases h3 : j + 1 = i
          · simp only [h3, if_true] at h
            obtain ⟨h1, h2⟩ := ih h
            exact ⟨List.mem_cons_of_mem _ h1, h2⟩
          · simp only [h3, if_false] at h
            rcases List.mem_cons.mp h with rfl | h
            · exact ⟨List.mem_cons_self, hj, hj2, fun ad hc => h3 hc.1⟩
            · obtain ⟨h1, h2⟩ := ih h
              exact ⟨List.mem_cons_of_mem _ h1, h2⟩
        · rcases List.mem_cons.mp h with rfl | h
          · exact ⟨List.mem_cons_self, hj, hj2, fun ad hc => by simp [cr_tv, Value.category] at hc⟩
          · obtain ⟨h1, h2⟩ := ih h
            exact ⟨List.mem_cons_of_mem _ h1, h2⟩
theorem cr_s1_has {ls : Array Slot} {n : Nat} {ad : Nat → Nat} {lv : List (Nat × cr_AV)} {i : Nat} {v : cr_AV} (h : lv_has ls n ((i, cr_tv ad v) :: (lv.map (cr_tl ad)).filter (fun q => !(q.1 == i) && !(q.1 + 1 == i && q.2.category == 2)))) : lv_has ls n (((i, v) :: cr_s1 lv i).map (cr_tl ad)) := by
  refine ⟨h.1, h.2.1, fun q hq => h.2.2 q ?_⟩
  obtain ⟨a, ha, rfl⟩ := List.mem_map.mp hq
  rcases List.mem_cons.mp ha with rfl | ha
  · exact List.mem_cons_self
  · obtain ⟨h1, h2, h3⟩ := cr_s1_mem ha
    refine List.mem_cons_of_mem _ (List.mem_filter.mpr ⟨List.mem_map.mpr ⟨a, h1, rfl⟩, ?_⟩)
    have h4 := h3 ad
    simp [cr_tl, h2]
    exact Decidable.not_and_iff_or_not.mp h4
theorem cr_s2_has {ls : Array Slot} {n : Nat} {ad : Nat → Nat} {lv : List (Nat × cr_AV)} {i : Nat} {v : cr_AV} (h : lv_has ls n ((i, cr_tv ad v) :: (lv.map (cr_tl ad)).filter (fun q => !(q.1 == i) && (!(q.1 == i + 1) && !(q.1 + 1 == i && q.2.category == 2))))) : lv_has ls n (((i, v) :: cr_s2 lv i).map (cr_tl ad)) := by
  refine ⟨h.1, h.2.1, fun q hq => h.2.2 q ?_⟩
  obtain ⟨a, ha, rfl⟩ := List.mem_map.mp hq
  rcases List.mem_cons.mp ha with rfl | ha
  · exact List.mem_cons_self
  · obtain ⟨h1, h2, h3, h4⟩ := cr_s2_mem ha
    refine List.mem_cons_of_mem _ (List.mem_filter.mpr ⟨List.mem_map.mpr ⟨a, h1, rfl⟩, ?_⟩)
    have h5 := h4 ad
    simp [cr_tl, h2, h3]
    exact Decidable.not_and_iff_or_not.mp h5
theorem e_iconst {Y : cr_Y} {pc : Nat} {lv : List (Nat × cr_AV)} {st : List cr_AV} {M : cr_M} {r : Option cr_AV × cr_M} {n : Int} {v : Int32} (hd : decode (cr_by Y) pc = .ok (.iconst n, 1)) (hv : Int32.ofInt n = v) (k : cr_Ev Y (pc + 1) lv (.inl v :: st) M r) : cr_Ev Y pc lv (st) M r := by
  intro l D cI cZ ad A p e s m args below meth c C H locs ls hP hD hS hl
  obtain ⟨hx, hb, hr, hml, hown, hts, hlk, hK, hA⟩ := id C
  exact lv_iconst hx hb hd hv (k l D cI cZ ad A p e s m args below meth c C H locs ls hP hD hS hl)
theorem e_bipush {Y : cr_Y} {pc : Nat} {lv : List (Nat × cr_AV)} {st : List cr_AV} {M : cr_M} {r : Option cr_AV × cr_M} {n : Int} {v : Int32} (hd : decode (cr_by Y) pc = .ok (.bipush n, 2)) (hv : (Int8.ofInt n).toInt32 = v) (k : cr_Ev Y (pc + 2) lv (.inl v :: st) M r) : cr_Ev Y pc lv (st) M r := by
  intro l D cI cZ ad A p e s m args below meth c C H locs ls hP hD hS hl
  obtain ⟨hx, hb, hr, hml, hown, hts, hlk, hK, hA⟩ := id C
  exact lv_bipush hx hb hd hv (k l D cI cZ ad A p e s m args below meth c C H locs ls hP hD hS hl)
theorem e_sipush {Y : cr_Y} {pc : Nat} {lv : List (Nat × cr_AV)} {st : List cr_AV} {M : cr_M} {r : Option cr_AV × cr_M} {n : Int} {v : Int32} (hd : decode (cr_by Y) pc = .ok (.sipush n, 3)) (hv : (Int16.ofInt n).toInt32 = v) (k : cr_Ev Y (pc + 3) lv (.inl v :: st) M r) : cr_Ev Y pc lv (st) M r := by
  intro l D cI cZ ad A p e s m args below meth c C H locs ls hP hD hS hl
  obtain ⟨hx, hb, hr, hml, hown, hts, hlk, hK, hA⟩ := id C
  exact lv_sipush hx hb hd hv (k l D cI cZ ad A p e s m args below meth c C H locs ls hP hD hS hl)
theorem e_lconst {Y : cr_Y} {pc : Nat} {lv : List (Nat × cr_AV)} {st : List cr_AV} {M : cr_M} {r : Option cr_AV × cr_M} {n : Fin 2} {v : Int64} (hd : decode (cr_by Y) pc = .ok (.lconst n, 1)) (hv : Int64.ofNat (n : Nat) = v) (k : cr_Ev Y (pc + 1) lv (.inr (.inl v) :: st) M r) : cr_Ev Y pc lv (st) M r := by
  intro l D cI cZ ad A p e s m args below meth c C H locs ls hP hD hS hl
  obtain ⟨hx, hb, hr, hml, hown, hts, hlk, hK, hA⟩ := id C
  exact lv_lconst hx hb hd hv (k l D cI cZ ad A p e s m args below meth c C H locs ls hP hD hS hl)
theorem e_ldc {Y : cr_Y} {pc : Nat} {lv : List (Nat × cr_AV)} {st : List cr_AV} {M : cr_M} {r : Option cr_AV × cr_M} {i : Nat} {v : Int32} (hd : decode (cr_by Y) pc = .ok (.ldc i, 2)) (hc : Cond.constant (cr_nm Y).cls i v ∈ cr_tb) (k : cr_Ev Y (pc + 2) lv (.inl v :: st) M r) : cr_Ev Y pc lv (st) M r := by
  intro l D cI cZ ad A p e s m args below meth c C H locs ls hP hD hS hl
  obtain ⟨hx, hb, hr, hml, hown, hts, hlk, hK, hA⟩ := id C
  exact lv_ldc hx hb hown (hts _ hc) hd (k l D cI cZ ad A p e s m args below meth c C H locs ls hP hD hS hl)
theorem e_ldcw {Y : cr_Y} {pc : Nat} {lv : List (Nat × cr_AV)} {st : List cr_AV} {M : cr_M} {r : Option cr_AV × cr_M} {i : Nat} {v : Int32} (hd : decode (cr_by Y) pc = .ok (.ldc_w i, 3)) (hc : Cond.constant (cr_nm Y).cls i v ∈ cr_tb) (k : cr_Ev Y (pc + 3) lv (.inl v :: st) M r) : cr_Ev Y pc lv (st) M r := by
  intro l D cI cZ ad A p e s m args below meth c C H locs ls hP hD hS hl
  obtain ⟨hx, hb, hr, hml, hown, hts, hlk, hK, hA⟩ := id C
  exact lv_ldcw hx hb hown (hts _ hc) hd (k l D cI cZ ad A p e s m args below meth c C H locs ls hP hD hS hl)
theorem e_ldc2 {Y : cr_Y} {pc : Nat} {lv : List (Nat × cr_AV)} {st : List cr_AV} {M : cr_M} {r : Option cr_AV × cr_M} {i : Nat} {v : Int64} (hd : decode (cr_by Y) pc = .ok (.ldc2_w i, 3)) (hc : Cond.constantLong (cr_nm Y).cls i v ∈ cr_tb) (k : cr_Ev Y (pc + 3) lv (.inr (.inl v) :: st) M r) : cr_Ev Y pc lv (st) M r := by
  intro l D cI cZ ad A p e s m args below meth c C H locs ls hP hD hS hl
  obtain ⟨hx, hb, hr, hml, hown, hts, hlk, hK, hA⟩ := id C
  exact lv_ldc2 hx hb hown (hts _ hc) hd (k l D cI cZ ad A p e s m args below meth c C H locs ls hP hD hS hl)
theorem e_iload_n {Y : cr_Y} {pc : Nat} {lv : List (Nat × cr_AV)} {st : List cr_AV} {M : cr_M} {r : Option cr_AV × cr_M} {i : Fin 4} {x : Int32} (hd : decode (cr_by Y) pc = .ok (.iload_n i, 1)) (hv : cr_lk lv (i : Nat) = some (.inl x)) (k : cr_Ev Y (pc + 1) lv (.inl x :: st) M r) : cr_Ev Y pc lv (st) M r := by
  intro l D cI cZ ad A p e s m args below meth c C H locs ls hP hD hS hl
  obtain ⟨hx, hb, hr, hml, hown, hts, hlk, hK, hA⟩ := id C
  exact lv_iload_n hx hb hd rfl (cr_lk_at hl hv) (k l D cI cZ ad A p e s m args below meth c C H locs ls hP hD hS hl)
theorem e_iload {Y : cr_Y} {pc : Nat} {lv : List (Nat × cr_AV)} {st : List cr_AV} {M : cr_M} {r : Option cr_AV × cr_M} {i : Nat} {x : Int32} (hd : decode (cr_by Y) pc = .ok (.iload i, 2)) (hv : cr_lk lv i = some (.inl x)) (k : cr_Ev Y (pc + 2) lv (.inl x :: st) M r) : cr_Ev Y pc lv (st) M r := by
  intro l D cI cZ ad A p e s m args below meth c C H locs ls hP hD hS hl
  obtain ⟨hx, hb, hr, hml, hown, hts, hlk, hK, hA⟩ := id C
  exact lv_iload hx hb hd (cr_lk_at hl hv) (k l D cI cZ ad A p e s m args below meth c C H locs ls hP hD hS hl)
theorem e_lload_n {Y : cr_Y} {pc : Nat} {lv : List (Nat × cr_AV)} {st : List cr_AV} {M : cr_M} {r : Option cr_AV × cr_M} {i : Fin 4} {x : Int64} (hd : decode (cr_by Y) pc = .ok (.lload_n i, 1)) (hv : cr_lk lv (i : Nat) = some (.inr (.inl x))) (k : cr_Ev Y (pc + 1) lv (.inr (.inl x) :: st) M r) : cr_Ev Y pc lv (st) M r := by
  intro l D cI cZ ad A p e s m args below meth c C H locs ls hP hD hS hl
  obtain ⟨hx, hb, hr, hml, hown, hts, hlk, hK, hA⟩ := id C
  exact lv_lload_n hx hb hd rfl (cr_lk_at hl hv) (k l D cI cZ ad A p e s m args below meth c C H locs ls hP hD hS hl)
theorem e_lload {Y : cr_Y} {pc : Nat} {lv : List (Nat × cr_AV)} {st : List cr_AV} {M : cr_M} {r : Option cr_AV × cr_M} {i : Nat} {x : Int64} (hd : decode (cr_by Y) pc = .ok (.lload i, 2)) (hv : cr_lk lv i = some (.inr (.inl x))) (k : cr_Ev Y (pc + 2) lv (.inr (.inl x) :: st) M r) : cr_Ev Y pc lv (st) M r := by
  intro l D cI cZ ad A p e s m args below meth c C H locs ls hP hD hS hl
  obtain ⟨hx, hb, hr, hml, hown, hts, hlk, hK, hA⟩ := id C
  exact lv_lload hx hb hd (cr_lk_at hl hv) (k l D cI cZ ad A p e s m args below meth c C H locs ls hP hD hS hl)
theorem e_aload_n {Y : cr_Y} {pc : Nat} {lv : List (Nat × cr_AV)} {st : List cr_AV} {M : cr_M} {r : Option cr_AV × cr_M} {i : Fin 4} {x : Nat} (hd : decode (cr_by Y) pc = .ok (.aload_n i, 1)) (hv : cr_lk lv (i : Nat) = some (.inr (.inr x))) (k : cr_Ev Y (pc + 1) lv (.inr (.inr x) :: st) M r) : cr_Ev Y pc lv (st) M r := by
  intro l D cI cZ ad A p e s m args below meth c C H locs ls hP hD hS hl
  obtain ⟨hx, hb, hr, hml, hown, hts, hlk, hK, hA⟩ := id C
  exact lv_aload_n hx hb hd rfl (cr_lk_at hl hv) (k l D cI cZ ad A p e s m args below meth c C H locs ls hP hD hS hl)
theorem e_aload {Y : cr_Y} {pc : Nat} {lv : List (Nat × cr_AV)} {st : List cr_AV} {M : cr_M} {r : Option cr_AV × cr_M} {i : Nat} {x : Nat} (hd : decode (cr_by Y) pc = .ok (.aload i, 2)) (hv : cr_lk lv i = some (.inr (.inr x))) (k : cr_Ev Y (pc + 2) lv (.inr (.inr x) :: st) M r) : cr_Ev Y pc lv (st) M r := by
  intro l D cI cZ ad A p e s m args below meth c C H locs ls hP hD hS hl
  obtain ⟨hx, hb, hr, hml, hown, hts, hlk, hK, hA⟩ := id C
  exact lv_aload hx hb hd (cr_lk_at hl hv) (k l D cI cZ ad A p e s m args below meth c C H locs ls hP hD hS hl)
theorem e_istore_n {Y : cr_Y} {pc : Nat} {lv : List (Nat × cr_AV)} {st : List cr_AV} {M : cr_M} {r : Option cr_AV × cr_M} {i : Fin 4} {x : Int32} (hd : decode (cr_by Y) pc = .ok (.istore_n i, 1)) (hn : (i : Nat) < cr_ml Y) (k : cr_Ev Y (pc + 1) (((i : Nat), .inl x) :: cr_s1 lv i) st M r) : cr_Ev Y pc lv (.inl x :: st) M r := by
  intro l D cI cZ ad A p e s m args below meth c C H locs ls hP hD hS hl
  obtain ⟨hx, hb, hr, hml, hown, hts, hlk, hK, hA⟩ := id C
  exact lv_istore_n hx hb hd rfl hl hn rfl (fun ls' hl' => k l D cI cZ ad A p e s m args below meth c C H locs ls' hP hD hS (cr_s1_has hl'))
theorem e_istore {Y : cr_Y} {pc : Nat} {lv : List (Nat × cr_AV)} {st : List cr_AV} {M : cr_M} {r : Option cr_AV × cr_M} {i : Nat} {x : Int32} (hd : decode (cr_by Y) pc = .ok (.istore i, 2)) (hn : i < cr_ml Y) (k : cr_Ev Y (pc + 2) ((i, .inl x) :: cr_s1 lv i) st M r) : cr_Ev Y pc lv (.inl x :: st) M r := by
  intro l D cI cZ ad A p e s m args below meth c C H locs ls hP hD hS hl
  obtain ⟨hx, hb, hr, hml, hown, hts, hlk, hK, hA⟩ := id C
  exact lv_istore hx hb hd hl hn rfl (fun ls' hl' => k l D cI cZ ad A p e s m args below meth c C H locs ls' hP hD hS (cr_s1_has hl'))
theorem e_lstore_n {Y : cr_Y} {pc : Nat} {lv : List (Nat × cr_AV)} {st : List cr_AV} {M : cr_M} {r : Option cr_AV × cr_M} {i : Fin 4} {x : Int64} (hd : decode (cr_by Y) pc = .ok (.lstore_n i, 1)) (hn : (i : Nat) + 1 < cr_ml Y) (k : cr_Ev Y (pc + 1) (((i : Nat), .inr (.inl x)) :: cr_s2 lv i) st M r) : cr_Ev Y pc lv (.inr (.inl x) :: st) M r := by
  intro l D cI cZ ad A p e s m args below meth c C H locs ls hP hD hS hl
  obtain ⟨hx, hb, hr, hml, hown, hts, hlk, hK, hA⟩ := id C
  exact lv_lstore_n hx hb hd rfl hl hn rfl (fun ls' hl' => k l D cI cZ ad A p e s m args below meth c C H locs ls' hP hD hS (cr_s2_has hl'))
theorem e_lstore {Y : cr_Y} {pc : Nat} {lv : List (Nat × cr_AV)} {st : List cr_AV} {M : cr_M} {r : Option cr_AV × cr_M} {i : Nat} {x : Int64} (hd : decode (cr_by Y) pc = .ok (.lstore i, 2)) (hn : i + 1 < cr_ml Y) (k : cr_Ev Y (pc + 2) ((i, .inr (.inl x)) :: cr_s2 lv i) st M r) : cr_Ev Y pc lv (.inr (.inl x) :: st) M r := by
  intro l D cI cZ ad A p e s m args below meth c C H locs ls hP hD hS hl
  obtain ⟨hx, hb, hr, hml, hown, hts, hlk, hK, hA⟩ := id C
  exact lv_lstore hx hb hd hl hn rfl (fun ls' hl' => k l D cI cZ ad A p e s m args below meth c C H locs ls' hP hD hS (cr_s2_has hl'))
theorem e_astore_n {Y : cr_Y} {pc : Nat} {lv : List (Nat × cr_AV)} {st : List cr_AV} {M : cr_M} {r : Option cr_AV × cr_M} {i : Fin 4} {x : Nat} (hd : decode (cr_by Y) pc = .ok (.astore_n i, 1)) (hn : (i : Nat) < cr_ml Y) (k : cr_Ev Y (pc + 1) (((i : Nat), .inr (.inr x)) :: cr_s1 lv i) st M r) : cr_Ev Y pc lv (.inr (.inr x) :: st) M r := by
  intro l D cI cZ ad A p e s m args below meth c C H locs ls hP hD hS hl
  obtain ⟨hx, hb, hr, hml, hown, hts, hlk, hK, hA⟩ := id C
  exact lv_astore_n hx hb hd rfl hl hn rfl (fun ls' hl' => k l D cI cZ ad A p e s m args below meth c C H locs ls' hP hD hS (cr_s1_has hl'))
theorem e_astore {Y : cr_Y} {pc : Nat} {lv : List (Nat × cr_AV)} {st : List cr_AV} {M : cr_M} {r : Option cr_AV × cr_M} {i : Nat} {x : Nat} (hd : decode (cr_by Y) pc = .ok (.astore i, 2)) (hn : i < cr_ml Y) (k : cr_Ev Y (pc + 2) ((i, .inr (.inr x)) :: cr_s1 lv i) st M r) : cr_Ev Y pc lv (.inr (.inr x) :: st) M r := by
  intro l D cI cZ ad A p e s m args below meth c C H locs ls hP hD hS hl
  obtain ⟨hx, hb, hr, hml, hown, hts, hlk, hK, hA⟩ := id C
  exact lv_astore hx hb hd hl hn rfl (fun ls' hl' => k l D cI cZ ad A p e s m args below meth c C H locs ls' hP hD hS (cr_s1_has hl'))
theorem e_iinc {Y : cr_Y} {pc : Nat} {lv : List (Nat × cr_AV)} {st : List cr_AV} {M : cr_M} {r : Option cr_AV × cr_M} {i : Nat} {n : Int} {x v : Int32} (hd : decode (cr_by Y) pc = .ok (.iinc i n, 3)) (hv : cr_lk lv i = some (.inl x)) (hn : i < cr_ml Y) (he : x + Int32.ofInt n = v) (k : cr_Ev Y (pc + 3) ((i, .inl v) :: cr_s1 lv i) st M r) : cr_Ev Y pc lv st M r := by
  intro l D cI cZ ad A p e s m args below meth c C H locs ls hP hD hS hl
  obtain ⟨hx, hb, hr, hml, hown, hts, hlk, hK, hA⟩ := id C
  obtain ⟨j, hj⟩ := List.getElem?_of_mem (List.mem_map.mpr ⟨(i, (.inl x : cr_AV)), cr_lk_mem hv, rfl⟩ : cr_tl ad (i, .inl x) ∈ lv.map (cr_tl ad))
  exact lv_iinc (v := v) hx hb hd hl hj he hn rfl (fun ls' hl' => k l D cI cZ ad A p e s m args below meth c C H locs ls' hP hD hS (cr_s1_has hl'))
theorem e_iadd {Y : cr_Y} {pc : Nat} {lv : List (Nat × cr_AV)} {st : List cr_AV} {M : cr_M} {r : Option cr_AV × cr_M} {x y : Int32} (hd : decode (cr_by Y) pc = .ok (.iadd, 1)) (k : cr_Ev Y (pc + 1) lv (.inl (x + y) :: st) M r) : cr_Ev Y pc lv (.inl y :: .inl x :: st) M r := by
  intro l D cI cZ ad A p e s m args below meth c C H locs ls hP hD hS hl
  obtain ⟨hx, hb, hr, hml, hown, hts, hlk, hK, hA⟩ := id C
  exact lv_iadd hx hb hd (k l D cI cZ ad A p e s m args below meth c C H locs ls hP hD hS hl)
theorem e_isub {Y : cr_Y} {pc : Nat} {lv : List (Nat × cr_AV)} {st : List cr_AV} {M : cr_M} {r : Option cr_AV × cr_M} {x y : Int32} (hd : decode (cr_by Y) pc = .ok (.isub, 1)) (k : cr_Ev Y (pc + 1) lv (.inl (x - y) :: st) M r) : cr_Ev Y pc lv (.inl y :: .inl x :: st) M r := by
  intro l D cI cZ ad A p e s m args below meth c C H locs ls hP hD hS hl
  obtain ⟨hx, hb, hr, hml, hown, hts, hlk, hK, hA⟩ := id C
  exact lv_isub hx hb hd (k l D cI cZ ad A p e s m args below meth c C H locs ls hP hD hS hl)
theorem e_imul {Y : cr_Y} {pc : Nat} {lv : List (Nat × cr_AV)} {st : List cr_AV} {M : cr_M} {r : Option cr_AV × cr_M} {x y : Int32} (hd : decode (cr_by Y) pc = .ok (.imul, 1)) (k : cr_Ev Y (pc + 1) lv (.inl (x * y) :: st) M r) : cr_Ev Y pc lv (.inl y :: .inl x :: st) M r := by
  intro l D cI cZ ad A p e s m args below meth c C H locs ls hP hD hS hl
  obtain ⟨hx, hb, hr, hml, hown, hts, hlk, hK, hA⟩ := id C
  exact lv_imul hx hb hd (k l D cI cZ ad A p e s m args below meth c C H locs ls hP hD hS hl)
theorem e_iand {Y : cr_Y} {pc : Nat} {lv : List (Nat × cr_AV)} {st : List cr_AV} {M : cr_M} {r : Option cr_AV × cr_M} {x y : Int32} (hd : decode (cr_by Y) pc = .ok (.iand, 1)) (k : cr_Ev Y (pc + 1) lv (.inl (x &&& y) :: st) M r) : cr_Ev Y pc lv (.inl y :: .inl x :: st) M r := by
  intro l D cI cZ ad A p e s m args below meth c C H locs ls hP hD hS hl
  obtain ⟨hx, hb, hr, hml, hown, hts, hlk, hK, hA⟩ := id C
  exact lv_iand hx hb hd (k l D cI cZ ad A p e s m args below meth c C H locs ls hP hD hS hl)
theorem e_ior {Y : cr_Y} {pc : Nat} {lv : List (Nat × cr_AV)} {st : List cr_AV} {M : cr_M} {r : Option cr_AV × cr_M} {x y : Int32} (hd : decode (cr_by Y) pc = .ok (.ior, 1)) (k : cr_Ev Y (pc + 1) lv (.inl (x ||| y) :: st) M r) : cr_Ev Y pc lv (.inl y :: .inl x :: st) M r := by
  intro l D cI cZ ad A p e s m args below meth c C H locs ls hP hD hS hl
  obtain ⟨hx, hb, hr, hml, hown, hts, hlk, hK, hA⟩ := id C
  exact lv_ior hx hb hd (k l D cI cZ ad A p e s m args below meth c C H locs ls hP hD hS hl)
theorem e_ixor {Y : cr_Y} {pc : Nat} {lv : List (Nat × cr_AV)} {st : List cr_AV} {M : cr_M} {r : Option cr_AV × cr_M} {x y : Int32} (hd : decode (cr_by Y) pc = .ok (.ixor, 1)) (k : cr_Ev Y (pc + 1) lv (.inl (x ^^^ y) :: st) M r) : cr_Ev Y pc lv (.inl y :: .inl x :: st) M r := by
  intro l D cI cZ ad A p e s m args below meth c C H locs ls hP hD hS hl
  obtain ⟨hx, hb, hr, hml, hown, hts, hlk, hK, hA⟩ := id C
  exact lv_ixor hx hb hd (k l D cI cZ ad A p e s m args below meth c C H locs ls hP hD hS hl)
theorem e_ishl {Y : cr_Y} {pc : Nat} {lv : List (Nat × cr_AV)} {st : List cr_AV} {M : cr_M} {r : Option cr_AV × cr_M} {x y : Int32} (hd : decode (cr_by Y) pc = .ok (.ishl, 1)) (k : cr_Ev Y (pc + 1) lv (.inl (x <<< (y &&& 31)) :: st) M r) : cr_Ev Y pc lv (.inl y :: .inl x :: st) M r := by
  intro l D cI cZ ad A p e s m args below meth c C H locs ls hP hD hS hl
  obtain ⟨hx, hb, hr, hml, hown, hts, hlk, hK, hA⟩ := id C
  exact lv_ishl hx hb hd (k l D cI cZ ad A p e s m args below meth c C H locs ls hP hD hS hl)
theorem e_ishr {Y : cr_Y} {pc : Nat} {lv : List (Nat × cr_AV)} {st : List cr_AV} {M : cr_M} {r : Option cr_AV × cr_M} {x y : Int32} (hd : decode (cr_by Y) pc = .ok (.ishr, 1)) (k : cr_Ev Y (pc + 1) lv (.inl (x >>> (y &&& 31)) :: st) M r) : cr_Ev Y pc lv (.inl y :: .inl x :: st) M r := by
  intro l D cI cZ ad A p e s m args below meth c C H locs ls hP hD hS hl
  obtain ⟨hx, hb, hr, hml, hown, hts, hlk, hK, hA⟩ := id C
  exact lv_ishr hx hb hd (k l D cI cZ ad A p e s m args below meth c C H locs ls hP hD hS hl)
theorem e_idiv {Y : cr_Y} {pc : Nat} {lv : List (Nat × cr_AV)} {st : List cr_AV} {M : cr_M} {r : Option cr_AV × cr_M} {x y : Int32} (hd : decode (cr_by Y) pc = .ok (.idiv, 1)) (hne : ¬ y = 0) (k : cr_Ev Y (pc + 1) lv (.inl (x / y) :: st) M r) : cr_Ev Y pc lv (.inl y :: .inl x :: st) M r := by
  intro l D cI cZ ad A p e s m args below meth c C H locs ls hP hD hS hl
  obtain ⟨hx, hb, hr, hml, hown, hts, hlk, hK, hA⟩ := id C
  exact lv_idiv hx hb hd hne (k l D cI cZ ad A p e s m args below meth c C H locs ls hP hD hS hl)
theorem e_iushr {Y : cr_Y} {pc : Nat} {lv : List (Nat × cr_AV)} {st : List cr_AV} {M : cr_M} {r : Option cr_AV × cr_M} {x y v : Int32} (hd : decode (cr_by Y) pc = .ok (.iushr, 1)) (hv : (x.toUInt32 >>> (y.toUInt32 &&& Int32.toUInt32 31)).toInt32 = v) (k : cr_Ev Y (pc + 1) lv (.inl v :: st) M r) : cr_Ev Y pc lv (.inl y :: .inl x :: st) M r := by
  intro l D cI cZ ad A p e s m args below meth c C H locs ls hP hD hS hl
  obtain ⟨hx, hb, hr, hml, hown, hts, hlk, hK, hA⟩ := id C
  exact lv_iushr hx hb hd hv (k l D cI cZ ad A p e s m args below meth c C H locs ls hP hD hS hl)
theorem e_ineg {Y : cr_Y} {pc : Nat} {lv : List (Nat × cr_AV)} {st : List cr_AV} {M : cr_M} {r : Option cr_AV × cr_M} {x : Int32} (hd : decode (cr_by Y) pc = .ok (.ineg, 1)) (k : cr_Ev Y (pc + 1) lv (.inl (-x) :: st) M r) : cr_Ev Y pc lv (.inl x :: st) M r := by
  intro l D cI cZ ad A p e s m args below meth c C H locs ls hP hD hS hl
  obtain ⟨hx, hb, hr, hml, hown, hts, hlk, hK, hA⟩ := id C
  exact lv_ineg hx hb hd (k l D cI cZ ad A p e s m args below meth c C H locs ls hP hD hS hl)
theorem e_ladd {Y : cr_Y} {pc : Nat} {lv : List (Nat × cr_AV)} {st : List cr_AV} {M : cr_M} {r : Option cr_AV × cr_M} {x y : Int64} (hd : decode (cr_by Y) pc = .ok (.ladd, 1)) (k : cr_Ev Y (pc + 1) lv (.inr (.inl (x + y)) :: st) M r) : cr_Ev Y pc lv (.inr (.inl y) :: .inr (.inl x) :: st) M r := by
  intro l D cI cZ ad A p e s m args below meth c C H locs ls hP hD hS hl
  obtain ⟨hx, hb, hr, hml, hown, hts, hlk, hK, hA⟩ := id C
  exact lv_ladd hx hb hd (k l D cI cZ ad A p e s m args below meth c C H locs ls hP hD hS hl)
theorem e_lmul {Y : cr_Y} {pc : Nat} {lv : List (Nat × cr_AV)} {st : List cr_AV} {M : cr_M} {r : Option cr_AV × cr_M} {x y : Int64} (hd : decode (cr_by Y) pc = .ok (.lmul, 1)) (k : cr_Ev Y (pc + 1) lv (.inr (.inl (x * y)) :: st) M r) : cr_Ev Y pc lv (.inr (.inl y) :: .inr (.inl x) :: st) M r := by
  intro l D cI cZ ad A p e s m args below meth c C H locs ls hP hD hS hl
  obtain ⟨hx, hb, hr, hml, hown, hts, hlk, hK, hA⟩ := id C
  exact lv_lmul hx hb hd (k l D cI cZ ad A p e s m args below meth c C H locs ls hP hD hS hl)
theorem e_ldiv {Y : cr_Y} {pc : Nat} {lv : List (Nat × cr_AV)} {st : List cr_AV} {M : cr_M} {r : Option cr_AV × cr_M} {x y : Int64} (hd : decode (cr_by Y) pc = .ok (.ldiv, 1)) (hne : ¬ y = 0) (k : cr_Ev Y (pc + 1) lv (.inr (.inl (x / y)) :: st) M r) : cr_Ev Y pc lv (.inr (.inl y) :: .inr (.inl x) :: st) M r := by
  intro l D cI cZ ad A p e s m args below meth c C H locs ls hP hD hS hl
  obtain ⟨hx, hb, hr, hml, hown, hts, hlk, hK, hA⟩ := id C
  exact lv_ldiv hx hb hd hne (k l D cI cZ ad A p e s m args below meth c C H locs ls hP hD hS hl)
theorem e_lcmp {Y : cr_Y} {pc : Nat} {lv : List (Nat × cr_AV)} {st : List cr_AV} {M : cr_M} {r : Option cr_AV × cr_M} {x y : Int64} (hd : decode (cr_by Y) pc = .ok (.lcmp, 1)) (k : cr_Ev Y (pc + 1) lv (.inl (lg_cmp x y) :: st) M r) : cr_Ev Y pc lv (.inr (.inl y) :: .inr (.inl x) :: st) M r := by
  intro l D cI cZ ad A p e s m args below meth c C H locs ls hP hD hS hl
  obtain ⟨hx, hb, hr, hml, hown, hts, hlk, hK, hA⟩ := id C
  exact W.lcmp hx hb hd (k l D cI cZ ad A p e s m args below meth c C H locs ls hP hD hS hl)
theorem e_i2l {Y : cr_Y} {pc : Nat} {lv : List (Nat × cr_AV)} {st : List cr_AV} {M : cr_M} {r : Option cr_AV × cr_M} {x : Int32} (hd : decode (cr_by Y) pc = .ok (.i2l, 1)) (k : cr_Ev Y (pc + 1) lv (.inr (.inl x.toInt64) :: st) M r) : cr_Ev Y pc lv (.inl x :: st) M r := by
  intro l D cI cZ ad A p e s m args below meth c C H locs ls hP hD hS hl
  obtain ⟨hx, hb, hr, hml, hown, hts, hlk, hK, hA⟩ := id C
  exact lv_i2l hx hb hd rfl (k l D cI cZ ad A p e s m args below meth c C H locs ls hP hD hS hl)
theorem e_l2i {Y : cr_Y} {pc : Nat} {lv : List (Nat × cr_AV)} {st : List cr_AV} {M : cr_M} {r : Option cr_AV × cr_M} {x : Int64} (hd : decode (cr_by Y) pc = .ok (.l2i, 1)) (k : cr_Ev Y (pc + 1) lv (.inl x.toInt32 :: st) M r) : cr_Ev Y pc lv (.inr (.inl x) :: st) M r := by
  intro l D cI cZ ad A p e s m args below meth c C H locs ls hP hD hS hl
  obtain ⟨hx, hb, hr, hml, hown, hts, hlk, hK, hA⟩ := id C
  exact lv_l2i hx hb hd rfl (k l D cI cZ ad A p e s m args below meth c C H locs ls hP hD hS hl)
theorem e_dup_i {Y : cr_Y} {pc : Nat} {lv : List (Nat × cr_AV)} {st : List cr_AV} {M : cr_M} {r : Option cr_AV × cr_M} {x : Int32} (hd : decode (cr_by Y) pc = .ok (.dup, 1)) (k : cr_Ev Y (pc + 1) lv (.inl x :: .inl x :: st) M r) : cr_Ev Y pc lv (.inl x :: st) M r := by
  intro l D cI cZ ad A p e s m args below meth c C H locs ls hP hD hS hl
  obtain ⟨hx, hb, hr, hml, hown, hts, hlk, hK, hA⟩ := id C
  exact lv_dup hx hb hd rfl (k l D cI cZ ad A p e s m args below meth c C H locs ls hP hD hS hl)
theorem e_dup_a {Y : cr_Y} {pc : Nat} {lv : List (Nat × cr_AV)} {st : List cr_AV} {M : cr_M} {r : Option cr_AV × cr_M} {x : Nat} (hd : decode (cr_by Y) pc = .ok (.dup, 1)) (k : cr_Ev Y (pc + 1) lv (.inr (.inr x) :: .inr (.inr x) :: st) M r) : cr_Ev Y pc lv (.inr (.inr x) :: st) M r := by
  intro l D cI cZ ad A p e s m args below meth c C H locs ls hP hD hS hl
  obtain ⟨hx, hb, hr, hml, hown, hts, hlk, hK, hA⟩ := id C
  exact lv_dup hx hb hd rfl (k l D cI cZ ad A p e s m args below meth c C H locs ls hP hD hS hl)
theorem e_pop {Y : cr_Y} {pc : Nat} {lv : List (Nat × cr_AV)} {st : List cr_AV} {M : cr_M} {r : Option cr_AV × cr_M} {x : Int32} (hd : decode (cr_by Y) pc = .ok (.pop, 1)) (k : cr_Ev Y (pc + 1) lv (st) M r) : cr_Ev Y pc lv (.inl x :: st) M r := by
  intro l D cI cZ ad A p e s m args below meth c C H locs ls hP hD hS hl
  obtain ⟨hx, hb, hr, hml, hown, hts, hlk, hK, hA⟩ := id C
  exact lv_pop hx hb hd rfl (k l D cI cZ ad A p e s m args below meth c C H locs ls hP hD hS hl)
theorem e_dup_x1 {Y : cr_Y} {pc : Nat} {lv : List (Nat × cr_AV)} {st : List cr_AV} {M : cr_M} {r : Option cr_AV × cr_M} {x : Int32} {y : Nat} (hd : decode (cr_by Y) pc = .ok (.dup_x1, 1)) (k : cr_Ev Y (pc + 1) lv (.inl x :: .inr (.inr y) :: .inl x :: st) M r) : cr_Ev Y pc lv (.inl x :: .inr (.inr y) :: st) M r := by
  intro l D cI cZ ad A p e s m args below meth c C H locs ls hP hD hS hl
  obtain ⟨hx, hb, hr, hml, hown, hts, hlk, hK, hA⟩ := id C
  exact lv_dup_x1 hx hb hd rfl rfl (k l D cI cZ ad A p e s m args below meth c C H locs ls hP hD hS hl)
theorem e_dup2 {Y : cr_Y} {pc : Nat} {lv : List (Nat × cr_AV)} {st : List cr_AV} {M : cr_M} {r : Option cr_AV × cr_M} {x : Int32} {y : Nat} (hd : decode (cr_by Y) pc = .ok (.dup2, 1)) (k : cr_Ev Y (pc + 1) lv (.inl x :: .inr (.inr y) :: .inl x :: .inr (.inr y) :: st) M r) : cr_Ev Y pc lv (.inl x :: .inr (.inr y) :: st) M r := by
  intro l D cI cZ ad A p e s m args below meth c C H locs ls hP hD hS hl
  obtain ⟨hx, hb, hr, hml, hown, hts, hlk, hK, hA⟩ := id C
  exact lv_dup2_11 hx hb hd rfl rfl (k l D cI cZ ad A p e s m args below meth c C H locs ls hP hD hS hl)
theorem e_if_eq {Y : cr_Y} {pc : Nat} {lv : List (Nat × cr_AV)} {st : List cr_AV} {M : cr_M} {r : Option cr_AV × cr_M} {x : Int32} {off : Int} {tgt : Nat} (hd : decode (cr_by Y) pc = .ok (.ifCond .eq off, 3)) (ht : (pc : Int) + off = (tgt : Int)) (kt : x = 0 → cr_Ev Y tgt lv st M r) (kf : ¬ x = 0 → cr_Ev Y (pc + 3) lv st M r) : cr_Ev Y pc lv (.inl x :: st) M r := by
  intro l D cI cZ ad A p e s m args below meth c C H locs ls hP hD hS hl
  obtain ⟨hx, hb, hr, hml, hown, hts, hlk, hK, hA⟩ := id C
  exact lv_if_eq hx hb hd ht (fun hc => kt hc l D cI cZ ad A p e s m args below meth c C H locs ls hP hD hS hl) (fun hc => kf hc l D cI cZ ad A p e s m args below meth c C H locs ls hP hD hS hl)
theorem e_icmp_eq {Y : cr_Y} {pc : Nat} {lv : List (Nat × cr_AV)} {st : List cr_AV} {M : cr_M} {r : Option cr_AV × cr_M} {x y : Int32} {off : Int} {tgt : Nat} (hd : decode (cr_by Y) pc = .ok (.if_icmp .eq off, 3)) (ht : (pc : Int) + off = (tgt : Int)) (kt : x = y → cr_Ev Y tgt lv st M r) (kf : ¬ x = y → cr_Ev Y (pc + 3) lv st M r) : cr_Ev Y pc lv (.inl y :: .inl x :: st) M r := by
  intro l D cI cZ ad A p e s m args below meth c C H locs ls hP hD hS hl
  obtain ⟨hx, hb, hr, hml, hown, hts, hlk, hK, hA⟩ := id C
  exact lv_icmp_eq hx hb hd ht (fun hc => kt hc l D cI cZ ad A p e s m args below meth c C H locs ls hP hD hS hl) (fun hc => kf hc l D cI cZ ad A p e s m args below meth c C H locs ls hP hD hS hl)
theorem e_if_ne {Y : cr_Y} {pc : Nat} {lv : List (Nat × cr_AV)} {st : List cr_AV} {M : cr_M} {r : Option cr_AV × cr_M} {x : Int32} {off : Int} {tgt : Nat} (hd : decode (cr_by Y) pc = .ok (.ifCond .ne off, 3)) (ht : (pc : Int) + off = (tgt : Int)) (kt : ¬ x = 0 → cr_Ev Y tgt lv st M r) (kf : x = 0 → cr_Ev Y (pc + 3) lv st M r) : cr_Ev Y pc lv (.inl x :: st) M r := by
  intro l D cI cZ ad A p e s m args below meth c C H locs ls hP hD hS hl
  obtain ⟨hx, hb, hr, hml, hown, hts, hlk, hK, hA⟩ := id C
  exact lv_if_ne hx hb hd ht (fun hc => kt hc l D cI cZ ad A p e s m args below meth c C H locs ls hP hD hS hl) (fun hc => kf hc l D cI cZ ad A p e s m args below meth c C H locs ls hP hD hS hl)
theorem e_icmp_ne {Y : cr_Y} {pc : Nat} {lv : List (Nat × cr_AV)} {st : List cr_AV} {M : cr_M} {r : Option cr_AV × cr_M} {x y : Int32} {off : Int} {tgt : Nat} (hd : decode (cr_by Y) pc = .ok (.if_icmp .ne off, 3)) (ht : (pc : Int) + off = (tgt : Int)) (kt : ¬ x = y → cr_Ev Y tgt lv st M r) (kf : x = y → cr_Ev Y (pc + 3) lv st M r) : cr_Ev Y pc lv (.inl y :: .inl x :: st) M r := by
  intro l D cI cZ ad A p e s m args below meth c C H locs ls hP hD hS hl
  obtain ⟨hx, hb, hr, hml, hown, hts, hlk, hK, hA⟩ := id C
  exact lv_icmp_ne hx hb hd ht (fun hc => kt hc l D cI cZ ad A p e s m args below meth c C H locs ls hP hD hS hl) (fun hc => kf hc l D cI cZ ad A p e s m args below meth c C H locs ls hP hD hS hl)
theorem e_if_lt {Y : cr_Y} {pc : Nat} {lv : List (Nat × cr_AV)} {st : List cr_AV} {M : cr_M} {r : Option cr_AV × cr_M} {x : Int32} {off : Int} {tgt : Nat} (hd : decode (cr_by Y) pc = .ok (.ifCond .lt off, 3)) (ht : (pc : Int) + off = (tgt : Int)) (kt : x < 0 → cr_Ev Y tgt lv st M r) (kf : ¬ x < 0 → cr_Ev Y (pc + 3) lv st M r) : cr_Ev Y pc lv (.inl x :: st) M r := by
  intro l D cI cZ ad A p e s m args below meth c C H locs ls hP hD hS hl
  obtain ⟨hx, hb, hr, hml, hown, hts, hlk, hK, hA⟩ := id C
  exact lv_if_lt hx hb hd ht (fun hc => kt hc l D cI cZ ad A p e s m args below meth c C H locs ls hP hD hS hl) (fun hc => kf hc l D cI cZ ad A p e s m args below meth c C H locs ls hP hD hS hl)
theorem e_icmp_lt {Y : cr_Y} {pc : Nat} {lv : List (Nat × cr_AV)} {st : List cr_AV} {M : cr_M} {r : Option cr_AV × cr_M} {x y : Int32} {off : Int} {tgt : Nat} (hd : decode (cr_by Y) pc = .ok (.if_icmp .lt off, 3)) (ht : (pc : Int) + off = (tgt : Int)) (kt : x < y → cr_Ev Y tgt lv st M r) (kf : ¬ x < y → cr_Ev Y (pc + 3) lv st M r) : cr_Ev Y pc lv (.inl y :: .inl x :: st) M r := by
  intro l D cI cZ ad A p e s m args below meth c C H locs ls hP hD hS hl
  obtain ⟨hx, hb, hr, hml, hown, hts, hlk, hK, hA⟩ := id C
  exact lv_icmp_lt hx hb hd ht (fun hc => kt hc l D cI cZ ad A p e s m args below meth c C H locs ls hP hD hS hl) (fun hc => kf hc l D cI cZ ad A p e s m args below meth c C H locs ls hP hD hS hl)
theorem e_if_ge {Y : cr_Y} {pc : Nat} {lv : List (Nat × cr_AV)} {st : List cr_AV} {M : cr_M} {r : Option cr_AV × cr_M} {x : Int32} {off : Int} {tgt : Nat} (hd : decode (cr_by Y) pc = .ok (.ifCond .ge off, 3)) (ht : (pc : Int) + off = (tgt : Int)) (kt : 0 ≤ x → cr_Ev Y tgt lv st M r) (kf : ¬ 0 ≤ x → cr_Ev Y (pc + 3) lv st M r) : cr_Ev Y pc lv (.inl x :: st) M r := by
  intro l D cI cZ ad A p e s m args below meth c C H locs ls hP hD hS hl
  obtain ⟨hx, hb, hr, hml, hown, hts, hlk, hK, hA⟩ := id C
  exact lv_if_ge hx hb hd ht (fun hc => kt hc l D cI cZ ad A p e s m args below meth c C H locs ls hP hD hS hl) (fun hc => kf hc l D cI cZ ad A p e s m args below meth c C H locs ls hP hD hS hl)
theorem e_icmp_ge {Y : cr_Y} {pc : Nat} {lv : List (Nat × cr_AV)} {st : List cr_AV} {M : cr_M} {r : Option cr_AV × cr_M} {x y : Int32} {off : Int} {tgt : Nat} (hd : decode (cr_by Y) pc = .ok (.if_icmp .ge off, 3)) (ht : (pc : Int) + off = (tgt : Int)) (kt : y ≤ x → cr_Ev Y tgt lv st M r) (kf : ¬ y ≤ x → cr_Ev Y (pc + 3) lv st M r) : cr_Ev Y pc lv (.inl y :: .inl x :: st) M r := by
  intro l D cI cZ ad A p e s m args below meth c C H locs ls hP hD hS hl
  obtain ⟨hx, hb, hr, hml, hown, hts, hlk, hK, hA⟩ := id C
  exact lv_icmp_ge hx hb hd ht (fun hc => kt hc l D cI cZ ad A p e s m args below meth c C H locs ls hP hD hS hl) (fun hc => kf hc l D cI cZ ad A p e s m args below meth c C H locs ls hP hD hS hl)
theorem e_if_gt {Y : cr_Y} {pc : Nat} {lv : List (Nat × cr_AV)} {st : List cr_AV} {M : cr_M} {r : Option cr_AV × cr_M} {x : Int32} {off : Int} {tgt : Nat} (hd : decode (cr_by Y) pc = .ok (.ifCond .gt off, 3)) (ht : (pc : Int) + off = (tgt : Int)) (kt : 0 < x → cr_Ev Y tgt lv st M r) (kf : ¬ 0 < x → cr_Ev Y (pc + 3) lv st M r) : cr_Ev Y pc lv (.inl x :: st) M r := by
  intro l D cI cZ ad A p e s m args below meth c C H locs ls hP hD hS hl
  obtain ⟨hx, hb, hr, hml, hown, hts, hlk, hK, hA⟩ := id C
  exact lv_if_gt hx hb hd ht (fun hc => kt hc l D cI cZ ad A p e s m args below meth c C H locs ls hP hD hS hl) (fun hc => kf hc l D cI cZ ad A p e s m args below meth c C H locs ls hP hD hS hl)
theorem e_icmp_gt {Y : cr_Y} {pc : Nat} {lv : List (Nat × cr_AV)} {st : List cr_AV} {M : cr_M} {r : Option cr_AV × cr_M} {x y : Int32} {off : Int} {tgt : Nat} (hd : decode (cr_by Y) pc = .ok (.if_icmp .gt off, 3)) (ht : (pc : Int) + off = (tgt : Int)) (kt : y < x → cr_Ev Y tgt lv st M r) (kf : ¬ y < x → cr_Ev Y (pc + 3) lv st M r) : cr_Ev Y pc lv (.inl y :: .inl x :: st) M r := by
  intro l D cI cZ ad A p e s m args below meth c C H locs ls hP hD hS hl
  obtain ⟨hx, hb, hr, hml, hown, hts, hlk, hK, hA⟩ := id C
  exact lv_icmp_gt hx hb hd ht (fun hc => kt hc l D cI cZ ad A p e s m args below meth c C H locs ls hP hD hS hl) (fun hc => kf hc l D cI cZ ad A p e s m args below meth c C H locs ls hP hD hS hl)
theorem e_if_le {Y : cr_Y} {pc : Nat} {lv : List (Nat × cr_AV)} {st : List cr_AV} {M : cr_M} {r : Option cr_AV × cr_M} {x : Int32} {off : Int} {tgt : Nat} (hd : decode (cr_by Y) pc = .ok (.ifCond .le off, 3)) (ht : (pc : Int) + off = (tgt : Int)) (kt : x ≤ 0 → cr_Ev Y tgt lv st M r) (kf : ¬ x ≤ 0 → cr_Ev Y (pc + 3) lv st M r) : cr_Ev Y pc lv (.inl x :: st) M r := by
  intro l D cI cZ ad A p e s m args below meth c C H locs ls hP hD hS hl
  obtain ⟨hx, hb, hr, hml, hown, hts, hlk, hK, hA⟩ := id C
  exact lv_if_le hx hb hd ht (fun hc => kt hc l D cI cZ ad A p e s m args below meth c C H locs ls hP hD hS hl) (fun hc => kf hc l D cI cZ ad A p e s m args below meth c C H locs ls hP hD hS hl)
theorem e_icmp_le {Y : cr_Y} {pc : Nat} {lv : List (Nat × cr_AV)} {st : List cr_AV} {M : cr_M} {r : Option cr_AV × cr_M} {x y : Int32} {off : Int} {tgt : Nat} (hd : decode (cr_by Y) pc = .ok (.if_icmp .le off, 3)) (ht : (pc : Int) + off = (tgt : Int)) (kt : x ≤ y → cr_Ev Y tgt lv st M r) (kf : ¬ x ≤ y → cr_Ev Y (pc + 3) lv st M r) : cr_Ev Y pc lv (.inl y :: .inl x :: st) M r := by
  intro l D cI cZ ad A p e s m args below meth c C H locs ls hP hD hS hl
  obtain ⟨hx, hb, hr, hml, hown, hts, hlk, hK, hA⟩ := id C
  exact lv_icmp_le hx hb hd ht (fun hc => kt hc l D cI cZ ad A p e s m args below meth c C H locs ls hP hD hS hl) (fun hc => kf hc l D cI cZ ad A p e s m args below meth c C H locs ls hP hD hS hl)
theorem e_goto {Y : cr_Y} {pc : Nat} {lv : List (Nat × cr_AV)} {st : List cr_AV} {M : cr_M} {r : Option cr_AV × cr_M} {off : Int} {tgt : Nat} (hd : decode (cr_by Y) pc = .ok (.goto off, 3)) (ht : (pc : Int) + off = (tgt : Int)) (k : cr_Ev Y tgt lv st M r) : cr_Ev Y pc lv st M r := by
  intro l D cI cZ ad A p e s m args below meth c C H locs ls hP hD hS hl
  obtain ⟨hx, hb, hr, hml, hown, hts, hlk, hK, hA⟩ := id C
  exact lv_goto hx hb hd ht (k l D cI cZ ad A p e s m args below meth c C H locs ls hP hD hS hl)
theorem e_tswO {Y : cr_Y} {pc : Nat} {lv : List (Nat × cr_AV)} {st : List cr_AV} {M : cr_M} {r : Option cr_AV × cr_M} {dflt lo hi : Int} {offs : Array Int} {len : Nat} {x : Int32} {tgt : Nat} (hd : decode (cr_by Y) pc = .ok (.tableswitch dflt lo hi offs, len)) (h : x.toInt < lo ∨ hi < x.toInt) (ht : (pc : Int) + dflt = (tgt : Int)) (k : cr_Ev Y tgt lv st M r) : cr_Ev Y pc lv (.inl x :: st) M r := by
  intro l D cI cZ ad A p e s m args below meth c C H locs ls hP hD hS hl
  obtain ⟨hx, hb, hr, hml, hown, hts, hlk, hK, hA⟩ := id C
  exact lv_tableOut hx hb hd h ht (k l D cI cZ ad A p e s m args below meth c C H locs ls hP hD hS hl)
theorem e_tswI {Y : cr_Y} {pc : Nat} {lv : List (Nat × cr_AV)} {st : List cr_AV} {M : cr_M} {r : Option cr_AV × cr_M} {dflt lo hi : Int} {offs : Array Int} {len : Nat} {x : Int32} {off : Int} {tgt : Nat} (v : Int32) (hv : x = v) (hd : decode (cr_by Y) pc = .ok (.tableswitch dflt lo hi offs, len)) (h1 : ¬ v.toInt < lo) (h2 : ¬ hi < v.toInt) (ho : offs[(v.toInt - lo).toNat]? = some off) (ht : (pc : Int) + off = (tgt : Int)) (k : cr_Ev Y tgt lv st M r) : cr_Ev Y pc lv (.inl x :: st) M r := by
  intro l D cI cZ ad A p e s m args below meth c C H locs ls hP hD hS hl
  obtain ⟨hx, hb, hr, hml, hown, hts, hlk, hK, hA⟩ := id C
  subst hv
  exact lv_tableIn hx hb hd h1 h2 ho ht (k l D cI cZ ad A p e s m args below meth c C H locs ls hP hD hS hl)
/-- the field at place i of own's pool: field j of class number ci -/
def cr_fl (own : String) (i ci j : Nat) : Prop := ∃ (C : String) (T : u_T) (N : Nat), cr_cl[ci]? = some (C, T, N) ∧ (∀ w ∈ u_ws C T N, w ∈ cr_tb) ∧ j < N ∧ Cond.fieldLink own i (T j).1 (T j).2.1 (T j).2.2.1 ∈ cr_tb
/-- an int field that may be put -/
def cr_fp (ci j : Nat) : Prop := ∀ (C : String) (T : u_T) (N : Nat), cr_cl[ci]? = some (C, T, N) → (∃ ty0 : Nat → FieldType, ∀ k, k < N → parseFieldDescriptor (T k).2.2.1 = some (ty0 k)) ∧ (∀ a, a < N → ∀ b, b < N → a ≠ b → (T a).2.1 ≠ (T b).2.1) ∧ (T j).2.2.2 = false ∧ parseFieldDescriptor (T j).2.2.1 = some .int
theorem e_getI {Y : cr_Y} {pc : Nat} {lv : List (Nat × cr_AV)} {st : List cr_AV} {M : cr_M} {r : Option cr_AV × cr_M} {i ci j q : Nat} {fs : List (Option Nat)} (hd : decode (cr_by Y) pc = .ok (.getfield i, 3)) (hf : cr_fl (cr_nm Y).cls i ci j) (hsh : (cr_sh Y)[q]? = some (.inl (ci, fs))) (hj : fs[j]? = some none) (k : cr_Ev Y (pc + 3) lv (.inl (M q j) :: st) M r) : cr_Ev Y pc lv (.inr (.inr q) :: st) M r := by
  intro l D cI cZ ad A p e s m args below meth c C H locs ls hP hD hS hl
  obtain ⟨hx, hb, hr, hml, hown, hts, hlk, hK, hA⟩ := id C
  obtain ⟨C', T, N, hc, hin, hjN, hlink⟩ := hf
  exact va_get (D := D) (ci := ci) (v := .int (M q j)) (C := C') (T := T) (N := N) hx hb hts hin hown hK hP q (cr_wl_get0 hsh) hc j hjN (hts _ hlink) (fun _ h => h) (by rw [cr_fs_get, hj]; simp [cr_fv]) hd (k l D cI cZ ad A p e s m args below meth c C H locs ls hP hD hS hl)
theorem e_getA {Y : cr_Y} {pc : Nat} {lv : List (Nat × cr_AV)} {st : List cr_AV} {M : cr_M} {r : Option cr_AV × cr_M} {i ci j q a : Nat} {fs : List (Option Nat)} (hd : decode (cr_by Y) pc = .ok (.getfield i, 3)) (hf : cr_fl (cr_nm Y).cls i ci j) (hsh : (cr_sh Y)[q]? = some (.inl (ci, fs))) (hj : fs[j]? = some (some a)) (k : cr_Ev Y (pc + 3) lv (.inr (.inr a) :: st) M r) : cr_Ev Y pc lv (.inr (.inr q) :: st) M r := by
  intro l D cI cZ ad A p e s m args below meth c C H locs ls hP hD hS hl
  obtain ⟨hx, hb, hr, hml, hown, hts, hlk, hK, hA⟩ := id C
  obtain ⟨C', T, N, hc, hin, hjN, hlink⟩ := hf
  exact va_get (D := D) (ci := ci) (v := .ref (ad a)) (C := C') (T := T) (N := N) hx hb hts hin hown hK hP q (cr_wl_get0 hsh) hc j hjN (hts _ hlink) (fun _ h => h) (by rw [cr_fs_get, hj]; simp [cr_fv]) hd (k l D cI cZ ad A p e s m args below meth c C H locs ls hP hD hS hl)
theorem e_put {Y : cr_Y} {pc : Nat} {lv : List (Nat × cr_AV)} {st : List cr_AV} {M : cr_M} {r : Option cr_AV × cr_M} {i ci j q : Nat} {x : Int32} {fs : List (Option Nat)} (hd : decode (cr_by Y) pc = .ok (.putfield i, 3)) (hf : cr_fl (cr_nm Y).cls i ci j) (hp : cr_fp ci j) (hsh : (cr_sh Y)[q]? = some (.inl (ci, fs))) (hj : fs[j]? = some none) (k : cr_Ev Y (pc + 3) lv st (cr_up M q j x) r) : cr_Ev Y pc lv (.inl x :: .inr (.inr q) :: st) M r := by
  intro l D cI cZ ad A p e s m args below meth c C H locs ls hP hD hS hl
  obtain ⟨hx, hb, hr, hml, hown, hts, hlk, hK, hA⟩ := id C
  obtain ⟨C', T, N, hc, hin, hjN, hlink⟩ := hf
  obtain ⟨⟨ty0, hty⟩, hnm, hfin, hpd⟩ := hp C' T N hc
  have hlen : j < (cr_fs ad (M q) 0 fs).length := by
    have h2 : (cr_fs ad (M q) 0 fs)[j]? = some (cr_fv ad (M q) (0 + j) none) := by rw [cr_fs_get, hj]; rfl
    exact (List.getElem?_eq_some_iff.mp h2).1
  refine va_put (D := D) (ci := ci) (v := .int x) (ty := .int) (C := C') (T := T) (N := N) hx hb hts hin ty0 hty hnm hown hK hP hD hS q (cr_wl_get0 hsh) hc j hjN (hts _ hlink) (fun _ h => h) hfin hpd rfl rfl hlen hd (fun H1 locs1 hP1 hD1 hS1 => ?_)
  have he : (cr_wl cI cZ ad M 0 (cr_sh Y)).set q (ad q, .inr (ci, (cr_fs ad (M q) 0 fs).set j (.int x))) = cr_wl cI cZ ad (cr_up M q j x) 0 (cr_sh Y) := by
    rw [cr_fs_set hj]
    exact cr_wl_set hsh (upd (M q) j x)
  rw [he] at hP1 hD1
  exact k l D cI cZ ad A p e s m args below meth c C H1 locs1 ls hP1 hD1 hS1 hl
theorem e_iald {Y : cr_Y} {pc : Nat} {lv : List (Nat × cr_AV)} {st : List cr_AV} {M : cr_M} {r : Option cr_AV × cr_M} {n q : Nat} {i : Int32} (hd : decode (cr_by Y) pc = .ok (.iaload, 1)) (hsh : (cr_sh Y)[q]? = some (.inr (n, false))) (hi : vp_in i n) (k : cr_Ev Y (pc + 1) lv (.inl (M q i.toNatClampNeg) :: st) M r) : cr_Ev Y pc lv (.inl i :: .inr (.inr q) :: st) M r := by
  intro l D cI cZ ad A p e s m args below meth c C H locs ls hP hD hS hl
  obtain ⟨hx, hb, hr, hml, hown, hts, hlk, hK, hA⟩ := id C
  exact va_iald hx hb hK hP q 0 (cr_wl_get0 hsh) rfl hi hd (k l D cI cZ ad A p e s m args below meth c C H locs ls hP hD hS hl)
theorem e_zald {Y : cr_Y} {pc : Nat} {lv : List (Nat × cr_AV)} {st : List cr_AV} {M : cr_M} {r : Option cr_AV × cr_M} {n q : Nat} {i : Int32} (hd : decode (cr_by Y) pc = .ok (.baload, 1)) (hsh : (cr_sh Y)[q]? = some (.inr (n, true))) (hi : vp_in i n) (k : cr_Ev Y (pc + 1) lv (.inl (M q i.toNatClampNeg) :: st) M r) : cr_Ev Y pc lv (.inl i :: .inr (.inr q) :: st) M r := by
  intro l D cI cZ ad A p e s m args below meth c C H locs ls hP hD hS hl
  obtain ⟨hx, hb, hr, hml, hown, hts, hlk, hK, hA⟩ := id C
  exact va_zald hx hb hK hP q 1 (cr_wl_get0 hsh) rfl hi hd (k l D cI cZ ad A p e s m args below meth c C H locs ls hP hD hS hl)
theorem e_iast {Y : cr_Y} {pc : Nat} {lv : List (Nat × cr_AV)} {st : List cr_AV} {M : cr_M} {r : Option cr_AV × cr_M} {n q : Nat} {i x : Int32} (hd : decode (cr_by Y) pc = .ok (.iastore, 1)) (hsh : (cr_sh Y)[q]? = some (.inr (n, false))) (hi : vp_in i n) (k : cr_Ev Y (pc + 1) lv st (cr_up M q i.toNatClampNeg x) r) : cr_Ev Y pc lv (.inl x :: .inl i :: .inr (.inr q) :: st) M r := by
  intro l D cI cZ ad A p e s m args below meth c C H locs ls hP hD hS hl
  obtain ⟨hx, hb, hr, hml, hown, hts, hlk, hK, hA⟩ := id C
  refine va_iast hx hb hK hP hD hS q 0 (cr_wl_get0 hsh) rfl hi hd (fun H1 locs1 hP1 hD1 hS1 => ?_)
  have he : (cr_wl cI cZ ad M 0 (cr_sh Y)).set q (ad q, .inl (cr_ca cI cZ false, n, .inl (upd (M q) i.toNatClampNeg x))) = cr_wl cI cZ ad (cr_up M q i.toNatClampNeg x) 0 (cr_sh Y) := cr_wl_set hsh (upd (M q) i.toNatClampNeg x)
  have hP2 : va_P D cr_cl ((cr_wl cI cZ ad M 0 (cr_sh Y)).set q (ad q, .inl (cr_ca cI cZ false, n, .inl (upd (M q) i.toNatClampNeg x)))) H1 := hP1
  have hD2 : va_D A ((cr_wl cI cZ ad M 0 (cr_sh Y)).set q (ad q, .inl (cr_ca cI cZ false, n, .inl (upd (M q) i.toNatClampNeg x)))) := hD1
  rw [he] at hP2 hD2
  exact k l D cI cZ ad A p e s m args below meth c C H1 locs1 ls hP2 hD2 hS1 hl
theorem e_zast {Y : cr_Y} {pc : Nat} {lv : List (Nat × cr_AV)} {st : List cr_AV} {M : cr_M} {r : Option cr_AV × cr_M} {n q : Nat} {i x : Int32} (hd : decode (cr_by Y) pc = .ok (.bastore, 1)) (hsh : (cr_sh Y)[q]? = some (.inr (n, true))) (hi : vp_in i n) (k : cr_Ev Y (pc + 1) lv st (cr_up M q i.toNatClampNeg (vp_nar .boolean x)) r) : cr_Ev Y pc lv (.inl x :: .inl i :: .inr (.inr q) :: st) M r := by
  intro l D cI cZ ad A p e s m args below meth c C H locs ls hP hD hS hl
  obtain ⟨hx, hb, hr, hml, hown, hts, hlk, hK, hA⟩ := id C
  refine va_zast hx hb hK hP hD hS q 1 (cr_wl_get0 hsh) rfl hi hd (fun H1 locs1 hP1 hD1 hS1 => ?_)
  have he : (cr_wl cI cZ ad M 0 (cr_sh Y)).set q (ad q, .inl (cr_ca cI cZ true, n, .inl (upd (M q) i.toNatClampNeg (vp_nar .boolean x)))) = cr_wl cI cZ ad (cr_up M q i.toNatClampNeg (vp_nar .boolean x)) 0 (cr_sh Y) := cr_wl_set hsh (upd (M q) i.toNatClampNeg (vp_nar .boolean x))
  have hP2 : va_P D cr_cl ((cr_wl cI cZ ad M 0 (cr_sh Y)).set q (ad q, .inl (cr_ca cI cZ true, n, .inl (upd (M q) i.toNatClampNeg (vp_nar .boolean x))))) H1 := hP1
  have hD2 : va_D A ((cr_wl cI cZ ad M 0 (cr_sh Y)).set q (ad q, .inl (cr_ca cI cZ true, n, .inl (upd (M q) i.toNatClampNeg (vp_nar .boolean x))))) := hD1
  rw [he] at hP2 hD2
  exact k l D cI cZ ad A p e s m args below meth c C H1 locs1 ls hP2 hD2 hS1 hl
theorem e_acopy {Y : cr_Y} {pc : Nat} {lv : List (Nat × cr_AV)} {st : List cr_AV} {M : cr_M} {r : Option cr_AV × cr_M} {i n0 n1 q0 q1 : Nat} {n sp dp : Int32} (hd : decode (cr_by Y) pc = .ok (.invokestatic i, 3)) (hw : Cond.methodLink (cr_nm Y).cls i arraycopyName ∈ cr_tb ∧ Cond.native arraycopyName ∈ cr_tb ∧ Cond.static arraycopyName ∈ cr_tb ∧ Cond.initialized "java/lang/System" ∈ cr_tb) (hr1 : 1 ≤ cr_fr Y) (hr2 : (st.map (fun v => match v with | .inr (.inl _) => 2 | _ => 1)).sum + (nativeFrameWords "java/lang/System" "arraycopy" 5 + 11) ≤ cr_lo Y) (hs0 : (cr_sh Y)[q0]? = some (.inr (n0, false))) (hs1 : (cr_sh Y)[q1]? = some (.inr (n1, false))) (h1 : ¬ sp < 0) (h2 : ¬ dp < 0) (h3 : ¬ n < 0) (h4 : sp.toNatClampNeg + n.toNatClampNeg ≤ n0) (h5 : dp.toNatClampNeg + n.toNatClampNeg ≤ n1) (k : cr_Ev Y (pc + 3) lv st (va_up M q1 (va_cpy (M q0) (M q1) sp.toNatClampNeg dp.toNatClampNeg n.toNatClampNeg)) r) : cr_Ev Y pc lv (.inl n :: .inl dp :: .inr (.inr q1) :: .inl sp :: .inr (.inr q0) :: st) M r := by
  intro l D cI cZ ad A p e s m args below meth c C H locs ls hP hD hS hl
  obtain ⟨hx, hb, hr, hml, hown, hts, hlk, hK, hA⟩ := id C
  obtain ⟨w1, w2, w3, w4⟩ := hw
  have hz : ((st.map (cr_tv ad)).map fun v => v.category).sum = (st.map (fun v : cr_AV => match v with | .inr (.inl _) => 2 | _ => 1)).sum := by
    rw [List.map_map]; congr 1; apply List.map_congr_left; intro v _; exact cr_cat
  refine va_copyi (ty := .int) (sp := sp) (dp := dp) (n := n) hx hb (hml.trans hl.1.symm) hown (hts _ w1) (hts _ w2) (hts _ w3) (hts _ w4) hK hP hD hS q0 q1 0 0 (cr_wl_get0 hs0) (cr_wl_get0 hs1) rfl rfl rfl h1 h2 h3 h4 h5 (fun _ _ => rfl) hr1 (by rw [hz]; exact hr2) hd (fun H1 locs1 hP1 hD1 hS1 => ?_)
  have he := cr_wl_set (cI := cI) (cZ := cZ) (ad := ad) (M := M) hs1 (va_cpy (M q0) (M q1) sp.toNatClampNeg dp.toNatClampNeg n.toNatClampNeg)
  have hP2 : va_P D cr_cl ((cr_wl cI cZ ad M 0 (cr_sh Y)).set q1 (ad q1, cr_en cI cZ ad (va_cpy (M q0) (M q1) sp.toNatClampNeg dp.toNatClampNeg n.toNatClampNeg) (.inr (n1, false)))) H1 := hP1
  have hD2 : va_D A ((cr_wl cI cZ ad M 0 (cr_sh Y)).set q1 (ad q1, cr_en cI cZ ad (va_cpy (M q0) (M q1) sp.toNatClampNeg dp.toNatClampNeg n.toNatClampNeg) (.inr (n1, false)))) := hD1
  rw [he] at hP2 hD2
  exact k l D cI cZ ad A p e s m args below meth c C H1 locs1 ls hP2 hD2 hS1 hl
theorem e_iret {Y : cr_Y} {pc : Nat} {lv : List (Nat × cr_AV)} {st : List cr_AV} {M : cr_M} {r : Option cr_AV × cr_M} {v : Int32} (hd : decode (cr_by Y) pc = .ok (.ireturn, 1)) (hrt : cr_rt Y = some .int) (he : r = (some (.inl v), M)) : cr_Ev Y pc lv [.inl v] M r := by
  intro l D cI cZ ad A p e s m args below meth c C H locs ls hP hD hS hl
  obtain ⟨hx, hb, hr, hml, hown, hts, hlk, hK, hA⟩ := id C
  subst he
  exact W.iret (v := v) hx hb (hr.trans hrt) (fun t ht hW => ⟨⟨v, (), rfl, rfl, by rw [ht]; exact hP, va_K.moved hW.alike hK, hD⟩, hS.F ht⟩) hS.2.2 hd
theorem e_zret {Y : cr_Y} {pc : Nat} {lv : List (Nat × cr_AV)} {st : List cr_AV} {M : cr_M} {r : Option cr_AV × cr_M} {v : Int32} (hd : decode (cr_by Y) pc = .ok (.ireturn, 1)) (hrt : cr_rt Y = some .boolean) (hz : v = 0 ∨ v = 1) (he : r = (some (.inl v), M)) : cr_Ev Y pc lv [.inl v] M r := by
  intro l D cI cZ ad A p e s m args below meth c C H locs ls hP hD hS hl
  obtain ⟨hx, hb, hr, hml, hown, hts, hlk, hK, hA⟩ := id C
  subst he
  exact W.zret (v := v) (ty := .boolean) hx hb (hr.trans hrt) (by rcases hz with rfl | rfl <;> rfl) (fun t ht hW => ⟨⟨v, (), rfl, rfl, by rw [ht]; exact hP, va_K.moved hW.alike hK, hD⟩, hS.F ht⟩) hS.2.2 hd
theorem e_lret {Y : cr_Y} {pc : Nat} {lv : List (Nat × cr_AV)} {st : List cr_AV} {M : cr_M} {r : Option cr_AV × cr_M} {v : Int64} (hd : decode (cr_by Y) pc = .ok (.lreturn, 1)) (hrt : cr_rt Y = some .long) (he : r = (some (.inr (.inl v)), M)) : cr_Ev Y pc lv [.inr (.inl v)] M r := by
  intro l D cI cZ ad A p e s m args below meth c C H locs ls hP hD hS hl
  obtain ⟨hx, hb, hr, hml, hown, hts, hlk, hK, hA⟩ := id C
  subst he
  exact W.lret (v := v) hx hb (hr.trans hrt) (fun t ht hW => ⟨⟨v, (), rfl, rfl, by rw [ht]; exact hP, va_K.moved hW.alike hK, hD⟩, hS.F ht⟩) hS.2.2 hd
theorem e_vret {Y : cr_Y} {pc : Nat} {lv : List (Nat × cr_AV)} {st : List cr_AV} {M : cr_M} {r : Option cr_AV × cr_M} (hd : decode (cr_by Y) pc = .ok (.return_, 1)) (hrt : cr_rt Y = none) (he : r = (none, M)) : cr_Ev Y pc lv [] M r := by
  intro l D cI cZ ad A p e s m args below meth c C H locs ls hP hD hS hl
  obtain ⟨hx, hb, hr, hml, hown, hts, hlk, hK, hA⟩ := id C
  subst he
  exact W.vret hx hb (hr.trans hrt) (fun t ht hW => ⟨⟨(), rfl, trivial, by rw [ht]; exact hP, va_K.moved hW.alike hK, hD⟩, hS.F ht⟩) hS.2.2 hd
def cr_sub : List (Nat × cr_AV) → List (Nat × cr_AV) → Prop
  | [], _ => True
  | q :: t, lv => cr_lk lv q.1 = some q.2 ∧ cr_sub t lv
theorem cr_sub_mem {lv' lv : List (Nat × cr_AV)} (h : cr_sub lv' lv) : ∀ q ∈ lv', q ∈ lv := by
  induction lv' with
  | nil => intro q hq; cases hq
  | cons a t ih =>
    intro q hq
    rcases List.mem_cons.mp hq with rfl | hq
    · exact cr_lk_mem h.1
    · exact ih h.2 q hq
/-- fewer locals are enough -/
theorem e_weak {Y : cr_Y} {pc : Nat} {lv : List (Nat × cr_AV)} {st : List cr_AV} {M : cr_M} {r : Option cr_AV × cr_M} (lv' : List (Nat × cr_AV)) (h : cr_sub lv' lv) (k : cr_Ev Y pc lv' st M r) : cr_Ev Y pc lv st M r := by
  intro l D cI cZ ad A p e s m args below meth c C H locs ls hP hD hS hl
  obtain ⟨hx, hb, hr, hml, hown, hts, hlk, hK, hA⟩ := id C
  refine k l D cI cZ ad A p e s m args below meth c C H locs ls hP hD hS ⟨hl.1, hl.2.1, fun q hq => hl.2.2 q ?_⟩
  obtain ⟨a, ha, rfl⟩ := List.mem_map.mp hq
  exact List.mem_map.mpr ⟨a, cr_sub_mem h a ha, rfl⟩
/-! contracts out of cr_Ev, and calls -/
def cr_al : Nat → List cr_AV → List (Nat × cr_AV)
  | _, [] => []
  | n, .inl x :: t => (n, .inl x) :: cr_al (n + 1) t
  | n, .inr (.inl x) :: t => (n, .inr (.inl x)) :: cr_al (n + 2) t
  | n, .inr (.inr x) :: t => (n, .inr (.inr x)) :: cr_al (n + 1) t
def cr_sz : List cr_AV → Nat
  | [] => 0
  | .inr (.inl _) :: t => 2 + cr_sz t
  | .inl _ :: t => 1 + cr_sz t
  | .inr (.inr _) :: t => 1 + cr_sz t
theorem cr_al_args (ad : Nat → Nat) (as : List cr_AV) : ∀ n, (cr_al n as).map (cr_tl ad) = lv_args n (as.map (cr_tv ad)) := by
  induction as with
  | nil => intro n; rfl
  | cons v t ih =>
    intro n
    rcases v with x | x | x <;> simp [cr_al, lv_args, cr_tl, cr_tv, Value.category, ih]
theorem cr_sz_len (ad : Nat → Nat) (as : List cr_AV) : (lg_sl (as.map (cr_tv ad))).length = cr_sz as := by
  induction as with
  | nil => rfl
  | cons v t ih =>
    unfold lg_sl at ih ⊢
    rcases v with x | x | x <;> simp [cr_sz, cr_tv, Value.category] at ih ⊢ <;> omega
def cr_EvM (Y : cr_Y) (as : List cr_AV) (M : cr_M) (r : Option cr_AV × cr_M) : Prop := cr_Ev Y 0 (cr_al 0 as) [] M r
abbrev cr_ws (Y : cr_Y) : List Cond := Cond.code (cr_nm Y) (cr_by Y) (cr_ml Y) (cr_rt Y) :: cr_tb
def cr_Pc (D : va_G) (cI cZ : ClassId) (ad : Nat → Nat) (sh : List cr_Shp) (as : List cr_AV) (M : cr_M) (sz : Nat) : Array Value → State → Prop :=
  va_Pc (as.map (cr_tv ad)) (fun U => U.heap.size = sz ∧ va_P D cr_cl (cr_wl cI cZ ad M 0 sh) U.heap ∧ va_K D cr_cl (cr_ty cI cZ) U ∧ va_D (fun _ => True) (cr_wl cI cZ ad M 0 sh))
theorem cr_met {Y : cr_Y} {as : List cr_AV} {M : cr_M} {r : Option cr_AV × cr_M} (hpl : plainName (cr_nm Y).cls = true) (hlen : cr_sz as ≤ cr_ml Y) (E : cr_EvM Y as M r) (l : Launch) (D : va_G) (cI cZ : ClassId) (ad : Nat → Nat) (sz : Nat) :
    Met l (cr_nm Y) (cr_ws Y) (cr_rm Y) (cr_Pc D cI cZ ad (cr_sh Y) as M sz) (cr_Q D cI cZ ad (va_A (cr_wl cI cZ ad M 0 (cr_sh Y)) sz) (cr_sh Y) r) 0 0 (va_A (cr_wl cI cZ ad M 0 (cr_sh Y)) sz) := by
  refine Met.ofW (cc := cr_by Y) (maxL := cr_ml Y) (ret := cr_rt Y) hpl rfl ?_
  intro p e s m args below meth c s₁ B hml hv
  obtain ⟨rfl, hsz, hP, hK, hD0⟩ := hv
  have hts := atoms_spec (ws := cr_ws Y) B.pre
  have hown : s.vm.findClass (cr_nm Y).cls = some m.cls := findClass_of_methodNamed B.named
  subst hsz
  have hD := hD0.self (sz := s.heap.size)
  have hA : ∀ q : Nat, s.heap.size ≤ q → va_A (cr_wl cI cZ ad M 0 (cr_sh Y)) s.heap.size q := fun q h => Or.inr h
  have hS : va_S (va_A (cr_wl cI cZ ad M 0 (cr_sh Y)) s.heap.size) s.heap s.heap [] := va_S.rf
  have hl := lv_entry (as.map (cr_tv ad)) (n := cr_ml Y) (by rw [cr_sz_len]; exact hlen)
  rw [← cr_al_args] at hl
  rw [lg_entry_eq]
  exact E l D cI cZ ad _ p e s m _ below meth c ⟨B.exec, B.bytes, B.returns, hml, hown, fun w h => hts w (List.mem_cons_of_mem _ h), B.notSynchronized, hK, hA⟩ s.heap [] _ hP hD hS hl
/-- a shape's references through a map of cells -/
def cr_rs (pl : Nat → Nat) (c : cr_Shp) : cr_Shp := match c with
  | .inl o => .inl (o.1, o.2.map (fun f => f.map pl))
  | .inr a => .inr a
theorem cr_fs_rs (ad pl : Nat → Nat) (row : Nat → Int32) (fs : List (Option Nat)) : ∀ j, cr_fs ad row j (fs.map (fun f => f.map pl)) = cr_fs (fun k => ad (pl k)) row j fs := by
  induction fs with
  | nil => intro j; rfl
  | cons f t ih => intro j; cases f <;> simp [cr_fs, cr_fv, ih]
theorem cr_en_rs (cI cZ : ClassId) (ad pl : Nat → Nat) (row : Nat → Int32) (c : cr_Shp) : cr_en cI cZ ad row (cr_rs pl c) = cr_en cI cZ (fun k => ad (pl k)) row c := by
  rcases c with o | a
  · simp [cr_en, cr_rs, cr_fs_rs]
  · rfl
def cr_rv (pl : Nat → Nat) (v : cr_AV) : cr_AV := match v with
  | .inl x => .inl x
  | .inr (.inl x) => .inr (.inl x)
  | .inr (.inr k) => .inr (.inr (pl k))
theorem cr_tv_rv (ad pl : Nat → Nat) (v : cr_AV) : cr_tv ad (cr_rv pl v) = cr_tv (fun k => ad (pl k)) v := by
  rcases v with x | x | x <;> rfl
/-- the callee's cells lie in the caller's world at the places that pl names -/
def cr_fit (sh sh' : List cr_Shp) (pl : Nat → Nat) : Prop := (∀ j c, sh'[j]? = some c → sh[pl j]? = some (cr_rs pl c)) ∧ ∀ i j, i < sh'.length → j < sh'.length → pl i = pl j → i = j
theorem cr_fit_of {sh sh' : List cr_Shp} {pl : Nat → Nat} (h : (List.range sh'.length).all (fun j => decide (sh[pl j]? = (sh'[j]?).map (cr_rs pl))) = true) (hi : ∀ i j, i < sh'.length → j < sh'.length → pl i = pl j → i = j) : cr_fit sh sh' pl := by
  refine ⟨fun j c hc => ?_, hi⟩
  have hj : j < sh'.length := (List.getElem?_eq_some_iff.mp hc).1
  have h1 := List.all_eq_true.mp h j (List.mem_range.mpr hj)
  have h2 := of_decide_eq_true h1
  rw [h2, hc]
  rfl
theorem cr_sub_P {Y Y' : cr_Y} {pl : Nat → Nat} (hf : cr_fit (cr_sh Y) (cr_sh Y') pl) {D : va_G} {cI cZ : ClassId} {ad : Nat → Nat} {M : cr_M} {H : Heap} (hP : va_P D cr_cl (cr_wl cI cZ ad M 0 (cr_sh Y)) H) : va_P D cr_cl (cr_wl cI cZ (fun k => ad (pl k)) (fun k => M (pl k)) 0 (cr_sh Y')) H := by
  intro k q hq
  obtain ⟨c, hc, rfl⟩ := cr_wl_inv hq
  have := hP (pl k) _ (cr_wl_get0 (hf.1 k c hc))
  rw [cr_en_rs] at this
  exact this
theorem cr_sub_D {Y Y' : cr_Y} {pl : Nat → Nat} (hf : cr_fit (cr_sh Y) (cr_sh Y') pl) {cI cZ : ClassId} {ad : Nat → Nat} {M : cr_M} {A : Nat → Prop} (hD : va_D A (cr_wl cI cZ ad M 0 (cr_sh Y))) : va_D (fun _ => True) (cr_wl cI cZ (fun k => ad (pl k)) (fun k => M (pl k)) 0 (cr_sh Y')) := by
  refine ⟨fun i j p q hi hj hpq => ?_, fun _ _ _ => trivial⟩
  obtain ⟨c, hc, rfl⟩ := cr_wl_inv hi
  obtain ⟨d, hd, rfl⟩ := cr_wl_inv hj
  have h1 := hD.1 (pl i) (pl j) _ _ (cr_wl_get0 (hf.1 i c hc)) (cr_wl_get0 (hf.1 j d hd)) hpq
  exact hf.2 i j (List.getElem?_eq_some_iff.mp hc).1 (List.getElem?_eq_some_iff.mp hd).1 h1
/-- the callee's cells, and the rest, behind a call -/
theorem cr_join {Y Y' : cr_Y} {pl : Nat → Nat} (hf : cr_fit (cr_sh Y) (cr_sh Y') pl) {D : va_G} {cI cZ : ClassId} {ad : Nat → Nat} {M M2 M' : cr_M} {A : Nat → Prop} {H H1 : Heap} (hP : va_P D cr_cl (cr_wl cI cZ ad M 0 (cr_sh Y)) H) (hD : va_D A (cr_wl cI cZ ad M 0 (cr_sh Y)))
    (hk : ∀ q : Nat, q < H.size → ¬ va_A (cr_wl cI cZ (fun k => ad (pl k)) (fun k => M (pl k)) 0 (cr_sh Y')) H.size q → H1[q]? = H[q]?)
    (hP1 : va_P D cr_cl (cr_wl cI cZ (fun k => ad (pl k)) M' 0 (cr_sh Y')) H1) (h1 : ∀ j, j < (cr_sh Y').length → M2 (pl j) = M' j) (h2 : ∀ k, k < (cr_sh Y).length → (∀ j, j < (cr_sh Y').length → ¬ pl j = k) → M2 k = M k) : va_P D cr_cl (cr_wl cI cZ ad M2 0 (cr_sh Y)) H1 := by
  intro k q hq
  obtain ⟨c, hc, rfl⟩ := cr_wl_inv hq
  by_cases hin : ∃ j, j < (cr_sh Y').length ∧ pl j = k
  · obtain ⟨j, hj, rfl⟩ := hin
    obtain ⟨d, hd⟩ : ∃ d, (cr_sh Y')[j]? = some d := ⟨_, List.getElem?_eq_getElem hj⟩
    have e1 := hP1 j _ (cr_wl_get0 hd)
    have e2 := hf.1 j d hd
    rw [hc] at e2
    cases e2
    rw [h1 j hj, cr_en_rs]
    exact e1
  · have e0 : M2 k = M k := h2 k (List.getElem?_eq_some_iff.mp hc).1 (fun j hj e => hin ⟨j, hj, e⟩)
    rw [e0]
    have e1 := hP k _ (cr_wl_get0 hc)
    refine e1.kept (hk _ e1.lt ?_)
    rintro (⟨j, x, hx⟩ | hx)
    · obtain ⟨d, hd, hq2⟩ := cr_wl_inv hx
      have e9 : ad k = ad (pl j) := congrArg Prod.fst hq2
      have e3 := hD.1 k (pl j) _ _ (cr_wl_get0 hc) (cr_wl_get0 (hf.1 j d hd)) e9
      exact hin ⟨j, (List.getElem?_eq_some_iff.mp hd).1, e3.symm⟩
    · exact absurd e1.lt (Nat.not_lt.mpr hx)
theorem cr_blind {D : va_G} {cI cZ : ClassId} {ad : Nat → Nat} {sh : List cr_Shp} {as : List cr_AV} {M : cr_M} {sz : Nat} : FrameBlind (cr_Pc D cI cZ ad sh as M sz) := fun a U g mk q => by
  obtain ⟨q0, q1, qP, qK, qD⟩ := q
  exact ⟨q0, q1, qP, va_K.moved (u := U) (U := U.calling g mk a) (Vm.Alike.refl U.vm) qK, qD⟩
theorem cr_goodIn {Y : cr_Y} (h : Cond.code (cr_nm Y) (cr_by Y) (cr_ml Y) (cr_rt Y) ∈ cr_tb) : GoodIn cr_tb (cr_ws Y) := by
  intro w hw
  rcases List.mem_cons.mp hw with rfl | hw
  · exact ⟨h, good_of_word (cr_lw h).2⟩
  · exact ⟨hw, good_of_word (cr_lw hw).2⟩
/-- what the tables say of a call, and its room: kind false by the receiver, true static -/
def cr_cs (Y Y' : cr_Y) (idx n : Nat) : Prop :=
  Cond.code (cr_nm Y') (cr_by Y') (cr_ml Y') (cr_rt Y') ∈ cr_tb ∧ Cond.methodLink (cr_nm Y).cls idx (cr_nm Y') ∈ cr_tb ∧ Cond.initialized (cr_nm Y').cls ∈ cr_tb ∧
  ((cr_nm Y').cls ≠ "java/lang/invoke/MethodHandle" ∧ (cr_nm Y').cls ≠ "java/lang/invoke/VarHandle" ∧ (parseMethodDescriptor (cr_nm Y').desc).map (fun d => d.parameters.length) = some n) ∧
  (cr_fr Y' + 1 ≤ cr_fr Y ∧ 8 + (cr_ml Y' + 11) + cr_lo Y' ≤ cr_lo Y) ∧ plainName (cr_nm Y').cls = true
def cr_csV (Y' : cr_Y) : Prop := Cond.instanceMethod (cr_nm Y') ∈ cr_tb ∧ Cond.selects (cr_nm Y').cls (cr_nm Y') (cr_nm Y') ∈ cr_tb
def cr_w8 (st : List cr_AV) : Nat := (st.map (fun v : cr_AV => match v with | .inr (.inl _) => 2 | _ => 1)).sum
theorem cr_w8_eq (ad : Nat → Nat) (st : List cr_AV) : ((st.map (cr_tv ad)).map fun v => v.category).sum = cr_w8 st := by
  unfold cr_w8
  rw [List.map_map]; congr 1; apply List.map_congr_left; intro v _; exact cr_cat
/-- behind a call: the answer on the stack -/
theorem cr_after {Y Y' : cr_Y} {pc : Nat} {lv : List (Nat × cr_AV)} {st : List cr_AV} {M M' M2 : cr_M} {r : Option cr_AV × cr_M} {v : Option cr_AV} {pl : Nat → Nat} (hf : cr_fit (cr_sh Y) (cr_sh Y') pl) (h1 : ∀ j, j < (cr_sh Y').length → M2 (pl j) = M' j) (h2 : ∀ k, k < (cr_sh Y).length → (∀ j, j < (cr_sh Y').length → ¬ pl j = k) → M2 k = M k)
    (k : cr_Ev Y (pc + 3) lv (v.toList ++ st) M2 r)
    {l : Launch} {D : va_G} {cI cZ : ClassId} {ad : Nat → Nat} {A : Nat → Prop} {p : Program} {e : Env} {s : State} {m : MethodId} {args : Array Value} {below : List Frame} {meth : Method} {c : Code} (C : cr_Cx Y D cI cZ A p s m args meth c) {H : Heap} {locs : List Loc} {ls : Array Slot} (hP : va_P D cr_cl (cr_wl cI cZ ad M 0 (cr_sh Y)) H) (hD : va_D A (cr_wl cI cZ ad M 0 (cr_sh Y))) (hS : va_S A s.heap H locs) (hl : lv_has ls (cr_ml Y) (lv.map (cr_tl ad))) {st0 : List Value} {a : Array Value}
    (hR : va_Run p l e (cr_rm Y) s m args below meth c H locs 0 0 0 0 (F0 m pc ls st0) (st.map (cr_tv ad)) (cr_Q D cI cZ (fun k => ad (pl k)) (va_A (cr_wl cI cZ (fun k => ad (pl k)) (fun k => M (pl k)) 0 (cr_sh Y')) H.size) (cr_sh Y') (v, M') a) (va_A (cr_wl cI cZ (fun k => ad (pl k)) (fun k => M (pl k)) 0 (cr_sh Y')) H.size)) :
    W p l e (cr_rm Y) s m args below meth c H locs 0 0 (MQ below (cr_Q D cI cZ ad A (cr_sh Y) r) args s 0 0 A) (F0 m pc ls st0) := by
  obtain ⟨hx, hb, hr, hml, hown, hts, hlk, hK, hA⟩ := id C
  have hF : ∀ q, va_A (cr_wl cI cZ (fun k => ad (pl k)) (fun k => M (pl k)) 0 (cr_sh Y')) H.size q → A q := by
    rintro q (⟨j, x, hx⟩ | hx)
    · obtain ⟨d, hd, hq2⟩ := cr_wl_inv hx
      cases hq2
      exact hD.2 (pl j) _ (cr_wl_get0 (hf.1 j d hd))
    · exact hA q (Nat.le_trans hS.1 hx)
  have fin : ∀ (t : State) (H1 : Heap) (locs1 : List Loc), t.heap = H1 → cr_B D cI cZ (fun k => ad (pl k)) (va_A (cr_wl cI cZ (fun k => ad (pl k)) (fun k => M (pl k)) 0 (cr_sh Y')) H.size) (cr_sh Y') M' t → (∀ q : Nat, q < H.size → ¬ va_A (cr_wl cI cZ (fun k => ad (pl k)) (fun k => M (pl k)) 0 (cr_sh Y')) H.size q → H1[q]? = H[q]?) → va_S A s.heap H1 locs1 →
      W p l e (cr_rm Y) s m args below meth c H1 locs1 0 0 (MQ below (cr_Q D cI cZ ad A (cr_sh Y) r) args s 0 0 A) (F0 m (pc + 3) ls ((v.toList ++ st).map (cr_tv ad))) := by
    intro t H1 locs1 ht hB hk1 hS1
    obtain ⟨hP1, hK1, hD1⟩ := hB
    rw [ht] at hP1
    exact k l D cI cZ ad A p e s m args below meth c C H1 locs1 ls (cr_join hf hP hD hk1 hP1 h1 h2) (cr_wl_D hD) hS1 hl
  rcases v with _ | v | v | v
  · exact va_callv (a := a) hR hS (fun q _ h => hF q h) hF (fun u t H1 locs1 ht hvm hw hB hz1 hk1 hS1 => fin t H1 locs1 ht hB hk1 hS1)
  · exact va_calli (a := a) hR hS (fun q _ h => hF q h) hF (fun r1 u t H1 locs1 ht hvm hw hB hz1 hk1 hS1 => by
      have := fin t H1 locs1 ht hB hk1 hS1
      have hw : r1 = v := hw
      subst hw
      exact this)
  · exact va_calll (a := a) hR hS (fun q _ h => hF q h) hF (fun r1 u t H1 locs1 ht hvm hw hB hz1 hk1 hS1 => by
      have := fin t H1 locs1 ht hB hk1 hS1
      have hw : r1 = v := hw
      subst hw
      exact this)
  · intro T hT X
    obtain ⟨_, _, _, _, _, _, _, _, _, _, h, _⟩ := hR T hT X
    exact h.elim
/-- a call by a receiver -/
theorem e_callV {Y Y' : cr_Y} {pc idx n : Nat} {lv : List (Nat × cr_AV)} {st stk : List cr_AV} {M M' M2 : cr_M} {r : Option cr_AV × cr_M} {v : Option cr_AV} {pl : Nat → Nat} {as : List cr_AV} (hd : decode (cr_by Y) pc = .ok (.invokevirtual idx, 3)) (hc : cr_cs Y Y' idx n) (hv : cr_csV Y') (hf : cr_fit (cr_sh Y) (cr_sh Y') pl)
    (hsh : ∃ ci q fs, (cr_sh Y')[0]? = some (.inl (ci, fs)) ∧ cr_cl[ci]? = some q ∧ q.1 = (cr_nm Y').cls) (hn : as.length = n) (hz : cr_sz (.inr (.inr 0) :: as) ≤ cr_ml Y') (hst : stk = (as.map (cr_rv pl)).reverse ++ .inr (.inr (pl 0)) :: st) (h8 : cr_w8 st ≤ 8)
    (E : cr_EvM Y' (.inr (.inr 0) :: as) (fun k => M (pl k)) (v, M')) (h1 : ∀ j, j < (cr_sh Y').length → M2 (pl j) = M' j) (h2 : ∀ k, k < (cr_sh Y).length → (∀ j, j < (cr_sh Y').length → ¬ pl j = k) → M2 k = M k) (k : cr_Ev Y (pc + 3) lv (v.toList ++ st) M2 r) : cr_Ev Y pc lv stk M r := by
  intro l D cI cZ ad A p e s m args below meth c C H locs ls hP hD hS hl
  obtain ⟨hx, hb, hr, hml, hown, hts, hlk, hK, hA⟩ := id C
  obtain ⟨c1, c2, c3, c4, c5, c6⟩ := hc
  obtain ⟨ci, qc, fs, s1, s2, s3⟩ := hsh
  subst hst
  have hsP := cr_sub_P hf hP
  have hrec := va_recv hK hsP (ci := ci) (q0 := 0) s2 (cr_wl_get0 s1)
  rw [s3] at hrec
  have hm := cr_met (as := .inr (.inr 0) :: as) c6 hz E l D cI cZ (fun k => ad (pl k)) H.size
  have hB := callB_of (R := cr_rm Y) (rm := cr_rm Y') n hts (cr_goodIn c1) rfl rfl rfl (hts _ c3) (hts _ c2) c4 c5
  have hmp : (as.map (cr_rv pl)).map (cr_tv ad) = as.map (cr_tv (fun k => ad (pl k))) := by
    rw [List.map_map]; apply List.map_congr_left; intro x _; exact cr_tv_rv ad pl x
  refine cr_after hf h1 h2 k C hP hD hS hl (va_runV (As := as.map (cr_tv (fun k => ad (pl k)))) (b := ad (pl 0)) (rest := st.map (cr_tv ad)) ⟨hx, hb, hml, hown, hts⟩ hm ⟨hB, hts _ hv.1, hts _ hv.2⟩ ⟨cr_blind, hrec, fun U hU hW => ⟨rfl, by rw [hU], by rw [hU]; exact hsP, va_K.moved hW.alike hK, cr_sub_D hf hD⟩⟩ rfl (by rw [List.length_map]; exact hn) hl.1 ?_ (lv_room (by rw [cr_w8_eq]; exact h8)) hd ⟨Nat.le_refl _, Nat.le_refl _⟩)
  show ((as.map (cr_rv pl)).reverse ++ .inr (.inr (pl 0)) :: st).map (cr_tv ad) = _
  rw [List.map_append, List.map_reverse, hmp]
  rfl
/-- a static call: no cells of its own -/
theorem e_callS {Y Y' : cr_Y} {pc idx n : Nat} {lv : List (Nat × cr_AV)} {st stk : List cr_AV} {M M' : cr_M} {r : Option cr_AV × cr_M} {v : Option cr_AV} {as : List cr_AV} (hd : decode (cr_by Y) pc = .ok (.invokestatic idx, 3)) (hc : cr_cs Y Y' idx n) (hv : Cond.static (cr_nm Y') ∈ cr_tb) (hsh : cr_sh Y' = [])
    (hn : as.length = n) (hz : cr_sz as ≤ cr_ml Y') (hst : stk = (as.map (cr_rv (fun k => k))).reverse ++ st) (h8 : cr_w8 st ≤ 8)
    (E : cr_EvM Y' as M (v, M')) (k : cr_Ev Y (pc + 3) lv (v.toList ++ st) M r) : cr_Ev Y pc lv stk M r := by
  intro l D cI cZ ad A p e s m args below meth c C H locs ls hP hD hS hl
  obtain ⟨hx, hb, hr, hml, hown, hts, hlk, hK, hA⟩ := id C
  obtain ⟨c1, c2, c3, c4, c5, c6⟩ := hc
  subst hst
  have hf : cr_fit (cr_sh Y) (cr_sh Y') (fun k => k) := ⟨fun j c h => (by rw [hsh] at h; simp at h), fun i j h => (by rw [hsh] at h; exact absurd h (Nat.not_lt_zero _))⟩
  have hsP := cr_sub_P hf hP
  have hm := cr_met (as := as) c6 hz E l D cI cZ (fun k => ad k) H.size
  have hB := callB_of (R := cr_rm Y) (rm := cr_rm Y') n hts (cr_goodIn c1) rfl rfl rfl (hts _ c3) (hts _ c2) c4 c5
  have hmp : (as.map (cr_rv (fun k => k))).map (cr_tv ad) = as.map (cr_tv (fun k => ad k)) := by
    rw [List.map_map]; apply List.map_congr_left; intro x _; exact cr_tv_rv ad (fun k => k) x
  refine cr_after hf (M' := M') (M2 := M) (fun j h => (by rw [hsh] at h; exact absurd h (Nat.not_lt_zero _))) (fun _ _ _ => rfl) k C hP hD hS hl (va_runS (As := as.map (cr_tv (fun k => ad k))) (rest := st.map (cr_tv ad)) ⟨hx, hb, hml, hown, hts⟩ hm ⟨hB, hts _ hv⟩ ⟨cr_blind, fun U hU hW => ⟨rfl, by rw [hU], by rw [hU]; exact hsP, va_K.moved hW.alike hK, cr_sub_D hf hD⟩⟩ rfl (by rw [List.length_map]; exact hn) hl.1 ?_ (lv_room (by rw [cr_w8_eq]; exact h8)) hd ⟨Nat.le_refl _, Nat.le_refl _⟩)
  show ((as.map (cr_rv (fun k => k))).reverse ++ st).map (cr_tv ad) = _
  rw [List.map_append, List.map_reverse, hmp]
/-- the receiver is an object of the callee's class -/
def cr_rc (Y' : cr_Y) : Prop := ∃ ci q fs, (cr_sh Y')[0]? = some (.inl (ci, fs)) ∧ cr_cl[ci]? = some q ∧ q.1 = (cr_nm Y').cls
def cr_mg (M : cr_M) (k0 n : Nat) (M' : cr_M) : cr_M := fun k => if k0 ≤ k ∧ k < k0 + n then M' (k - k0) else M k
theorem cr_mg_in {M M' : cr_M} {k0 n j : Nat} (h : j < n) : cr_mg M k0 n M' (k0 + j) = M' j := by
  unfold cr_mg
  rw [if_pos ⟨by omega, by omega⟩, Nat.add_sub_cancel_left]
theorem cr_mg_out {M M' : cr_M} {k0 n k : Nat} (h : k < k0 ∨ k0 + n ≤ k) : cr_mg M k0 n M' k = M k := by
  unfold cr_mg
  rw [if_neg (by omega)]
theorem e_self0v {Y Y' : cr_Y} {pc idx : Nat} {lv : List (Nat × cr_AV)} {st : List cr_AV} {M M' : cr_M} {r : Option cr_AV × cr_M} (hd : decode (cr_by Y) pc = .ok (.invokevirtual idx, 3)) (hc : cr_cs Y Y' idx 0) (hv : cr_csV Y') (hr : cr_rc Y') (hs : cr_sh Y' = cr_sh Y) (hz : 1 ≤ cr_ml Y') (h8 : cr_w8 st ≤ 8) (E : cr_EvM Y' [.inr (.inr 0)] M (none, M')) (k : cr_Ev Y (pc + 3) lv (st) M' r) : cr_Ev Y pc lv (.inr (.inr 0) :: st) M r := by
  refine e_callV (as := []) (pl := fun k => k) (M' := M') (M2 := M') hd hc hv ⟨fun j c h => ?_, fun i j _ _ h => h⟩ hr rfl (by simpa [cr_sz] using hz) rfl h8 E (fun _ _ => rfl) (fun k hk h => absurd rfl (h k (by rw [hs]; exact hk))) k
  rw [hs] at h
  rw [h]
  rcases c with o | a
  · simp [cr_rs, show (fun f : Option Nat => Option.map (fun k => k) f) = (fun f => f) from funext (fun f => by cases f <;> rfl)]
  · rfl
theorem e_offR0v {Y Y' : cr_Y} {pc idx : Nat} {lv : List (Nat × cr_AV)} {st : List cr_AV} {M M' : cr_M} {r : Option cr_AV × cr_M} {k0 : Nat} (hd : decode (cr_by Y) pc = .ok (.invokevirtual idx, 3)) (hc : cr_cs Y Y' idx 0) (hv : cr_csV Y') (hr : cr_rc Y') (hf : cr_fit (cr_sh Y) (cr_sh Y') (fun j => k0 + j)) (hz : 1 ≤ cr_ml Y') (h8 : cr_w8 st ≤ 8) (E : cr_EvM Y' [.inr (.inr 0)] (fun j => M (k0 + j)) (none, fun j => M (k0 + j))) (k : cr_Ev Y (pc + 3) lv (st) M r) : cr_Ev Y pc lv (.inr (.inr k0) :: st) M r :=
  e_callV (as := []) (pl := fun j => k0 + j) (M2 := M) hd hc hv hf hr rfl (by simpa [cr_sz] using hz) rfl h8 E (fun _ _ => rfl) (fun _ _ _ => rfl) k
theorem e_off0v {Y Y' : cr_Y} {pc idx : Nat} {lv : List (Nat × cr_AV)} {st : List cr_AV} {M M' : cr_M} {r : Option cr_AV × cr_M} {k0 : Nat} (hd : decode (cr_by Y) pc = .ok (.invokevirtual idx, 3)) (hc : cr_cs Y Y' idx 0) (hv : cr_csV Y') (hr : cr_rc Y') (hf : cr_fit (cr_sh Y) (cr_sh Y') (fun j => k0 + j)) (hz : 1 ≤ cr_ml Y') (h8 : cr_w8 st ≤ 8) (E : cr_EvM Y' [.inr (.inr 0)] (fun j => M (k0 + j)) (none, M')) (k : cr_Ev Y (pc + 3) lv (st) (cr_mg M k0 (cr_sh Y').length M') r) : cr_Ev Y pc lv (.inr (.inr k0) :: st) M r :=
  e_callV (as := []) (pl := fun j => k0 + j) (M' := M') (M2 := cr_mg M k0 (cr_sh Y').length M') hd hc hv hf hr rfl (by simpa [cr_sz] using hz) rfl h8 E (fun j hj => cr_mg_in hj) (fun k _ h => cr_mg_out (by
    rcases Nat.lt_or_ge k k0 with h1 | h1
    · exact Or.inl h1
    · rcases Nat.lt_or_ge k (k0 + (cr_sh Y').length) with h2 | h2
      · exact absurd (show k0 + (k - k0) = k by omega) (h (k - k0) (by omega))
      · exact Or.inr h2)) k
theorem e_stat0v {Y Y' : cr_Y} {pc idx : Nat} {lv : List (Nat × cr_AV)} {st : List cr_AV} {M M' : cr_M} {r : Option cr_AV × cr_M} (hd : decode (cr_by Y) pc = .ok (.invokestatic idx, 3)) (hc : cr_cs Y Y' idx 0) (hv : Cond.static (cr_nm Y') ∈ cr_tb) (hs : cr_sh Y' = []) (hz : 0 ≤ cr_ml Y') (h8 : cr_w8 st ≤ 8) (E : cr_EvM Y' [] M (none, M')) (k : cr_Ev Y (pc + 3) lv (st) M r) : cr_Ev Y pc lv (st) M r :=
  e_callS (as := []) hd hc hv hs rfl (by simpa [cr_sz] using hz) rfl h8 E k
theorem e_self0i {Y Y' : cr_Y} {pc idx : Nat} {lv : List (Nat × cr_AV)} {st : List cr_AV} {M M' : cr_M} {r : Option cr_AV × cr_M} {x : Int32} (hd : decode (cr_by Y) pc = .ok (.invokevirtual idx, 3)) (hc : cr_cs Y Y' idx 0) (hv : cr_csV Y') (hr : cr_rc Y') (hs : cr_sh Y' = cr_sh Y) (hz : 1 ≤ cr_ml Y') (h8 : cr_w8 st ≤ 8) (E : cr_EvM Y' [.inr (.inr 0)] M (some (.inl x), M')) (k : cr_Ev Y (pc + 3) lv (.inl x :: st) M' r) : cr_Ev Y pc lv (.inr (.inr 0) :: st) M r := by
  refine e_callV (as := []) (pl := fun k => k) (M' := M') (M2 := M') hd hc hv ⟨fun j c h => ?_, fun i j _ _ h => h⟩ hr rfl (by simpa [cr_sz] using hz) rfl h8 E (fun _ _ => rfl) (fun k hk h => absurd rfl (h k (by rw [hs]; exact hk))) k
  rw [hs] at h
  rw [h]
  rcases c with o | a
  · simp [cr_rs, show (fun f : Option Nat => Option.map (fun k => k) f) = (fun f => f) from funext (fun f => by cases f <;> rfl)]
  · rfl
theorem e_offR0i {Y Y' : cr_Y} {pc idx : Nat} {lv : List (Nat × cr_AV)} {st : List cr_AV} {M M' : cr_M} {r : Option cr_AV × cr_M} {k0 : Nat} {x : Int32} (hd : decode (cr_by Y) pc = .ok (.invokevirtual idx, 3)) (hc : cr_cs Y Y' idx 0) (hv : cr_csV Y') (hr : cr_rc Y') (hf : cr_fit (cr_sh Y) (cr_sh Y') (fun j => k0 + j)) (hz : 1 ≤ cr_ml Y') (h8 : cr_w8 st ≤ 8) (E : cr_EvM Y' [.inr (.inr 0)] (fun j => M (k0 + j)) (some (.inl x), fun j => M (k0 + j))) (k : cr_Ev Y (pc + 3) lv (.inl x :: st) M r) : cr_Ev Y pc lv (.inr (.inr k0) :: st) M r :=
  e_callV (as := []) (pl := fun j => k0 + j) (M2 := M) hd hc hv hf hr rfl (by simpa [cr_sz] using hz) rfl h8 E (fun _ _ => rfl) (fun _ _ _ => rfl) k
theorem e_off0i {Y Y' : cr_Y} {pc idx : Nat} {lv : List (Nat × cr_AV)} {st : List cr_AV} {M M' : cr_M} {r : Option cr_AV × cr_M} {k0 : Nat} {x : Int32} (hd : decode (cr_by Y) pc = .ok (.invokevirtual idx, 3)) (hc : cr_cs Y Y' idx 0) (hv : cr_csV Y') (hr : cr_rc Y') (hf : cr_fit (cr_sh Y) (cr_sh Y') (fun j => k0 + j)) (hz : 1 ≤ cr_ml Y') (h8 : cr_w8 st ≤ 8) (E : cr_EvM Y' [.inr (.inr 0)] (fun j => M (k0 + j)) (some (.inl x), M')) (k : cr_Ev Y (pc + 3) lv (.inl x :: st) (cr_mg M k0 (cr_sh Y').length M') r) : cr_Ev Y pc lv (.inr (.inr k0) :: st) M r :=
  e_callV (as := []) (pl := fun j => k0 + j) (M' := M') (M2 := cr_mg M k0 (cr_sh Y').length M') hd hc hv hf hr rfl (by simpa [cr_sz] using hz) rfl h8 E (fun j hj => cr_mg_in hj) (fun k _ h => cr_mg_out (by
    rcases Nat.lt_or_ge k k0 with h1 | h1
    · exact Or.inl h1
    · rcases Nat.lt_or_ge k (k0 + (cr_sh Y').length) with h2 | h2
      · exact absurd (show k0 + (k - k0) = k by omega) (h (k - k0) (by omega))
      · exact Or.inr h2)) k
theorem e_stat0i {Y Y' : cr_Y} {pc idx : Nat} {lv : List (Nat × cr_AV)} {st : List cr_AV} {M M' : cr_M} {r : Option cr_AV × cr_M} {x : Int32} (hd : decode (cr_by Y) pc = .ok (.invokestatic idx, 3)) (hc : cr_cs Y Y' idx 0) (hv : Cond.static (cr_nm Y') ∈ cr_tb) (hs : cr_sh Y' = []) (hz : 0 ≤ cr_ml Y') (h8 : cr_w8 st ≤ 8) (E : cr_EvM Y' [] M (some (.inl x), M')) (k : cr_Ev Y (pc + 3) lv (.inl x :: st) M r) : cr_Ev Y pc lv (st) M r :=
  e_callS (as := []) hd hc hv hs rfl (by simpa [cr_sz] using hz) rfl h8 E k
theorem e_self1v {Y Y' : cr_Y} {pc idx : Nat} {lv : List (Nat × cr_AV)} {st : List cr_AV} {M M' : cr_M} {r : Option cr_AV × cr_M} {a : Int32} (hd : decode (cr_by Y) pc = .ok (.invokevirtual idx, 3)) (hc : cr_cs Y Y' idx 1) (hv : cr_csV Y') (hr : cr_rc Y') (hs : cr_sh Y' = cr_sh Y) (hz : 2 ≤ cr_ml Y') (h8 : cr_w8 st ≤ 8) (E : cr_EvM Y' [.inr (.inr 0), .inl a] M (none, M')) (k : cr_Ev Y (pc + 3) lv (st) M' r) : cr_Ev Y pc lv (.inl a :: .inr (.inr 0) :: st) M r := by
  refine e_callV (as := [.inl a]) (pl := fun k => k) (M' := M') (M2 := M') hd hc hv ⟨fun j c h => ?_, fun i j _ _ h => h⟩ hr rfl (by simpa [cr_sz] using hz) rfl h8 E (fun _ _ => rfl) (fun k hk h => absurd rfl (h k (by rw [hs]; exact hk))) k
  rw [hs] at h
  rw [h]
  rcases c with o | a
  · simp [cr_rs, show (fun f : Option Nat => Option.map (fun k => k) f) = (fun f => f) from funext (fun f => by cases f <;> rfl)]
  · rfl
theorem e_offR1v {Y Y' : cr_Y} {pc idx : Nat} {lv : List (Nat × cr_AV)} {st : List cr_AV} {M M' : cr_M} {r : Option cr_AV × cr_M} {k0 : Nat} {a : Int32} (hd : decode (cr_by Y) pc = .ok (.invokevirtual idx, 3)) (hc : cr_cs Y Y' idx 1) (hv : cr_csV Y') (hr : cr_rc Y') (hf : cr_fit (cr_sh Y) (cr_sh Y') (fun j => k0 + j)) (hz : 2 ≤ cr_ml Y') (h8 : cr_w8 st ≤ 8) (E : cr_EvM Y' [.inr (.inr 0), .inl a] (fun j => M (k0 + j)) (none, fun j => M (k0 + j))) (k : cr_Ev Y (pc + 3) lv (st) M r) : cr_Ev Y pc lv (.inl a :: .inr (.inr k0) :: st) M r :=
  e_callV (as := [.inl a]) (pl := fun j => k0 + j) (M2 := M) hd hc hv hf hr rfl (by simpa [cr_sz] using hz) rfl h8 E (fun _ _ => rfl) (fun _ _ _ => rfl) k
theorem e_off1v {Y Y' : cr_Y} {pc idx : Nat} {lv : List (Nat × cr_AV)} {st : List cr_AV} {M M' : cr_M} {r : Option cr_AV × cr_M} {k0 : Nat} {a : Int32} (hd : decode (cr_by Y) pc = .ok (.invokevirtual idx, 3)) (hc : cr_cs Y Y' idx 1) (hv : cr_csV Y') (hr : cr_rc Y') (hf : cr_fit (cr_sh Y) (cr_sh Y') (fun j => k0 + j)) (hz : 2 ≤ cr_ml Y') (h8 : cr_w8 st ≤ 8) (E : cr_EvM Y' [.inr (.inr 0), .inl a] (fun j => M (k0 + j)) (none, M')) (k : cr_Ev Y (pc + 3) lv (st) (cr_mg M k0 (cr_sh Y').length M') r) : cr_Ev Y pc lv (.inl a :: .inr (.inr k0) :: st) M r :=
  e_callV (as := [.inl a]) (pl := fun j => k0 + j) (M' := M') (M2 := cr_mg M k0 (cr_sh Y').length M') hd hc hv hf hr rfl (by simpa [cr_sz] using hz) rfl h8 E (fun j hj => cr_mg_in hj) (fun k _ h => cr_mg_out (by
    rcases Nat.lt_or_ge k k0 with h1 | h1
    · exact Or.inl h1
    · rcases Nat.lt_or_ge k (k0 + (cr_sh Y').length) with h2 | h2
      · exact absurd (show k0 + (k - k0) = k by omega) (h (k - k0) (by omega))
      · exact Or.inr h2)) k
theorem e_stat1v {Y Y' : cr_Y} {pc idx : Nat} {lv : List (Nat × cr_AV)} {st : List cr_AV} {M M' : cr_M} {r : Option cr_AV × cr_M} {a : Int32} (hd : decode (cr_by Y) pc = .ok (.invokestatic idx, 3)) (hc : cr_cs Y Y' idx 1) (hv : Cond.static (cr_nm Y') ∈ cr_tb) (hs : cr_sh Y' = []) (hz : 1 ≤ cr_ml Y') (h8 : cr_w8 st ≤ 8) (E : cr_EvM Y' [.inl a] M (none, M')) (k : cr_Ev Y (pc + 3) lv (st) M r) : cr_Ev Y pc lv (.inl a :: st) M r :=
  e_callS (as := [.inl a]) hd hc hv hs rfl (by simpa [cr_sz] using hz) rfl h8 E k
theorem e_self1i {Y Y' : cr_Y} {pc idx : Nat} {lv : List (Nat × cr_AV)} {st : List cr_AV} {M M' : cr_M} {r : Option cr_AV × cr_M} {a : Int32} {x : Int32} (hd : decode (cr_by Y) pc = .ok (.invokevirtual idx, 3)) (hc : cr_cs Y Y' idx 1) (hv : cr_csV Y') (hr : cr_rc Y') (hs : cr_sh Y' = cr_sh Y) (hz : 2 ≤ cr_ml Y') (h8 : cr_w8 st ≤ 8) (E : cr_EvM Y' [.inr (.inr 0), .inl a] M (some (.inl x), M')) (k : cr_Ev Y (pc + 3) lv (.inl x :: st) M' r) : cr_Ev Y pc lv (.inl a :: .inr (.inr 0) :: st) M r := by
  refine e_callV (as := [.inl a]) (pl := fun k => k) (M' := M') (M2 := M') hd hc hv ⟨fun j c h => ?_, fun i j _ _ h => h⟩ hr rfl (by simpa [cr_sz] using hz) rfl h8 E (fun _ _ => rfl) (fun k hk h => absurd rfl (h k (by rw [hs]; exact hk))) k
  rw [hs] at h
  rw [h]
  rcases c with o | a
  · simp [cr_rs, show (fun f : Option Nat => Option.map (fun k => k) f) = (fun f => f) from funext (fun f => by cases f <;> rfl)]
  · rfl
theorem e_offR1i {Y Y' : cr_Y} {pc idx : Nat} {lv : List (Nat × cr_AV)} {st : List cr_AV} {M M' : cr_M} {r : Option cr_AV × cr_M} {k0 : Nat} {a : Int32} {x : Int32} (hd : decode (cr_by Y) pc = .ok (.invokevirtual idx, 3)) (hc : cr_cs Y Y' idx 1) (hv : cr_csV Y') (hr : cr_rc Y') (hf : cr_fit (cr_sh Y) (cr_sh Y') (fun j => k0 + j)) (hz : 2 ≤ cr_ml Y') (h8 : cr_w8 st ≤ 8) (E : cr_EvM Y' [.inr (.inr 0), .inl a] (fun j => M (k0 + j)) (some (.inl x), fun j => M (k0 + j))) (k : cr_Ev Y (pc + 3) lv (.inl x :: st) M r) : cr_Ev Y pc lv (.inl a :: .inr (.inr k0) :: st) M r :=
  e_callV (as := [.inl a]) (pl := fun j => k0 + j) (M2 := M) hd hc hv hf hr rfl (by simpa [cr_sz] using hz) rfl h8 E (fun _ _ => rfl) (fun _ _ _ => rfl) k
theorem e_off1i {Y Y' : cr_Y} {pc idx : Nat} {lv : List (Nat × cr_AV)} {st : List cr_AV} {M M' : cr_M} {r : Option cr_AV × cr_M} {k0 : Nat} {a : Int32} {x : Int32} (hd : decode (cr_by Y) pc = .ok (.invokevirtual idx, 3)) (hc : cr_cs Y Y' idx 1) (hv : cr_csV Y') (hr : cr_rc Y') (hf : cr_fit (cr_sh Y) (cr_sh Y') (fun j => k0 + j)) (hz : 2 ≤ cr_ml Y') (h8 : cr_w8 st ≤ 8) (E : cr_EvM Y' [.inr (.inr 0), .inl a] (fun j => M (k0 + j)) (some (.inl x), M')) (k : cr_Ev Y (pc + 3) lv (.inl x :: st) (cr_mg M k0 (cr_sh Y').length M') r) : cr_Ev Y pc lv (.inl a :: .inr (.inr k0) :: st) M r :=
  e_callV (as := [.inl a]) (pl := fun j => k0 + j) (M' := M') (M2 := cr_mg M k0 (cr_sh Y').length M') hd hc hv hf hr rfl (by simpa [cr_sz] using hz) rfl h8 E (fun j hj => cr_mg_in hj) (fun k _ h => cr_mg_out (by
    rcases Nat.lt_or_ge k k0 with h1 | h1
    · exact Or.inl h1
    · rcases Nat.lt_or_ge k (k0 + (cr_sh Y').length) with h2 | h2
      · exact absurd (show k0 + (k - k0) = k by omega) (h (k - k0) (by omega))
      · exact Or.inr h2)) k
theorem e_stat1i {Y Y' : cr_Y} {pc idx : Nat} {lv : List (Nat × cr_AV)} {st : List cr_AV} {M M' : cr_M} {r : Option cr_AV × cr_M} {a : Int32} {x : Int32} (hd : decode (cr_by Y) pc = .ok (.invokestatic idx, 3)) (hc : cr_cs Y Y' idx 1) (hv : Cond.static (cr_nm Y') ∈ cr_tb) (hs : cr_sh Y' = []) (hz : 1 ≤ cr_ml Y') (h8 : cr_w8 st ≤ 8) (E : cr_EvM Y' [.inl a] M (some (.inl x), M')) (k : cr_Ev Y (pc + 3) lv (.inl x :: st) M r) : cr_Ev Y pc lv (.inl a :: st) M r :=
  e_callS (as := [.inl a]) hd hc hv hs rfl (by simpa [cr_sz] using hz) rfl h8 E k
theorem e_self2v {Y Y' : cr_Y} {pc idx : Nat} {lv : List (Nat × cr_AV)} {st : List cr_AV} {M M' : cr_M} {r : Option cr_AV × cr_M} {a b : Int32} (hd : decode (cr_by Y) pc = .ok (.invokevirtual idx, 3)) (hc : cr_cs Y Y' idx 2) (hv : cr_csV Y') (hr : cr_rc Y') (hs : cr_sh Y' = cr_sh Y) (hz : 3 ≤ cr_ml Y') (h8 : cr_w8 st ≤ 8) (E : cr_EvM Y' [.inr (.inr 0), .inl a, .inl b] M (none, M')) (k : cr_Ev Y (pc + 3) lv (st) M' r) : cr_Ev Y pc lv (.inl b :: .inl a :: .inr (.inr 0) :: st) M r := by
  refine e_callV (as := [.inl a, .inl b]) (pl := fun k => k) (M' := M') (M2 := M') hd hc hv ⟨fun j c h => ?_, fun i j _ _ h => h⟩ hr rfl (by simpa [cr_sz] using hz) rfl h8 E (fun _ _ => rfl) (fun k hk h => absurd rfl (h k (by rw [hs]; exact hk))) k
  rw [hs] at h
  rw [h]
  rcases c with o | a
  · simp [cr_rs, show (fun f : Option Nat => Option.map (fun k => k) f) = (fun f => f) from funext (fun f => by cases f <;> rfl)]
  · rfl
theorem e_offR2v {Y Y' : cr_Y} {pc idx : Nat} {lv : List (Nat × cr_AV)} {st : List cr_AV} {M M' : cr_M} {r : Option cr_AV × cr_M} {k0 : Nat} {a b : Int32} (hd : decode (cr_by Y) pc = .ok (.invokevirtual idx, 3)) (hc : cr_cs Y Y' idx 2) (hv : cr_csV Y') (hr : cr_rc Y') (hf : cr_fit (cr_sh Y) (cr_sh Y') (fun j => k0 + j)) (hz : 3 ≤ cr_ml Y') (h8 : cr_w8 st ≤ 8) (E : cr_EvM Y' [.inr (.inr 0), .inl a, .inl b] (fun j => M (k0 + j)) (none, fun j => M (k0 + j))) (k : cr_Ev Y (pc + 3) lv (st) M r) : cr_Ev Y pc lv (.inl b :: .inl a :: .inr (.inr k0) :: st) M r :=
  e_callV (as := [.inl a, .inl b]) (pl := fun j => k0 + j) (M2 := M) hd hc hv hf hr rfl (by simpa [cr_sz] using hz) rfl h8 E (fun _ _ => rfl) (fun _ _ _ => rfl) k
theorem e_off2v {Y Y' : cr_Y} {pc idx : Nat} {lv : List (Nat × cr_AV)} {st : List cr_AV} {M M' : cr_M} {r : Option cr_AV × cr_M} {k0 : Nat} {a b : Int32} (hd : decode (cr_by Y) pc = .ok (.invokevirtual idx, 3)) (hc : cr_cs Y Y' idx 2) (hv : cr_csV Y') (hr : cr_rc Y') (hf : cr_fit (cr_sh Y) (cr_sh Y') (fun j => k0 + j)) (hz : 3 ≤ cr_ml Y') (h8 : cr_w8 st ≤ 8) (E : cr_EvM Y' [.inr (.inr 0), .inl a, .inl b] (fun j => M (k0 + j)) (none, M')) (k : cr_Ev Y (pc + 3) lv (st) (cr_mg M k0 (cr_sh Y').length M') r) : cr_Ev Y pc lv (.inl b :: .inl a :: .inr (.inr k0) :: st) M r :=
  e_callV (as := [.inl a, .inl b]) (pl := fun j => k0 + j) (M' := M') (M2 := cr_mg M k0 (cr_sh Y').length M') hd hc hv hf hr rfl (by simpa [cr_sz] using hz) rfl h8 E (fun j hj => cr_mg_in hj) (fun k _ h => cr_mg_out (by
    rcases Nat.lt_or_ge k k0 with h1 | h1
    · exact Or.inl h1
    · rcases Nat.lt_or_ge k (k0 + (cr_sh Y').length) with h2 | h2
      · exact absurd (show k0 + (k - k0) = k by omega) (h (k - k0) (by omega))
      · exact Or.inr h2)) k
theorem e_stat2v {Y Y' : cr_Y} {pc idx : Nat} {lv : List (Nat × cr_AV)} {st : List cr_AV} {M M' : cr_M} {r : Option cr_AV × cr_M} {a b : Int32} (hd : decode (cr_by Y) pc = .ok (.invokestatic idx, 3)) (hc : cr_cs Y Y' idx 2) (hv : Cond.static (cr_nm Y') ∈ cr_tb) (hs : cr_sh Y' = []) (hz : 2 ≤ cr_ml Y') (h8 : cr_w8 st ≤ 8) (E : cr_EvM Y' [.inl a, .inl b] M (none, M')) (k : cr_Ev Y (pc + 3) lv (st) M r) : cr_Ev Y pc lv (.inl b :: .inl a :: st) M r :=
  e_callS (as := [.inl a, .inl b]) hd hc hv hs rfl (by simpa [cr_sz] using hz) rfl h8 E k
theorem e_self2i {Y Y' : cr_Y} {pc idx : Nat} {lv : List (Nat × cr_AV)} {st : List cr_AV} {M M' : cr_M} {r : Option cr_AV × cr_M} {a b : Int32} {x : Int32} (hd : decode (cr_by Y) pc = .ok (.invokevirtual idx, 3)) (hc : cr_cs Y Y' idx 2) (hv : cr_csV Y') (hr : cr_rc Y') (hs : cr_sh Y' = cr_sh Y) (hz : 3 ≤ cr_ml Y') (h8 : cr_w8 st ≤ 8) (E : cr_EvM Y' [.inr (.inr 0), .inl a, .inl b] M (some (.inl x), M')) (k : cr_Ev Y (pc + 3) lv (.inl x :: st) M' r) : cr_Ev Y pc lv (.inl b :: .inl a :: .inr (.inr 0) :: st) M r := by
  refine e_callV (as := [.inl a, .inl b]) (pl := fun k => k) (M' := M') (M2 := M') hd hc hv ⟨fun j c h => ?_, fun i j _ _ h => h⟩ hr rfl (by simpa [cr_sz] using hz) rfl h8 E (fun _ _ => rfl) (fun k hk h => absurd rfl (h k (by rw [hs]; exact hk))) k
  rw [hs] at h
  rw [h]
  rcases c with o | a
  · simp [cr_rs, show (fun f : Option Nat => Option.map (fun k => k) f) = (fun f => f) from funext (fun f => by cases f <;> rfl)]
  · rfl
theorem e_offR2i {Y Y' : cr_Y} {pc idx : Nat} {lv : List (Nat × cr_AV)} {st : List cr_AV} {M M' : cr_M} {r : Option cr_AV × cr_M} {k0 : Nat} {a b : Int32} {x : Int32} (hd : decode (cr_by Y) pc = .ok (.invokevirtual idx, 3)) (hc : cr_cs Y Y' idx 2) (hv : cr_csV Y') (hr : cr_rc Y') (hf : cr_fit (cr_sh Y) (cr_sh Y') (fun j => k0 + j)) (hz : 3 ≤ cr_ml Y') (h8 : cr_w8 st ≤ 8) (E : cr_EvM Y' [.inr (.inr 0), .inl a, .inl b] (fun j => M (k0 + j)) (some (.inl x), fun j => M (k0 + j))) (k : cr_Ev Y (pc + 3) lv (.inl x :: st) M r) : cr_Ev Y pc lv (.inl b :: .inl a :: .inr (.inr k0) :: st) M r :=
  e_callV (as := [.inl a, .inl b]) (pl := fun j => k0 + j) (M2 := M) hd hc hv hf hr rfl (by simpa [cr_sz] using hz) rfl h8 E (fun _ _ => rfl) (fun _ _ _ => rfl) k
theorem e_off2i {Y Y' : cr_Y} {pc idx : Nat} {lv : List (Nat × cr_AV)} {st : List cr_AV} {M M' : cr_M} {r : Option cr_AV × cr_M} {k0 : Nat} {a b : Int32} {x : Int32} (hd : decode (cr_by Y) pc = .ok (.invokevirtual idx, 3)) (hc : cr_cs Y Y' idx 2) (hv : cr_csV Y') (hr : cr_rc Y') (hf : cr_fit (cr_sh Y) (cr_sh Y') (fun j => k0 + j)) (hz : 3 ≤ cr_ml Y') (h8 : cr_w8 st ≤ 8) (E : cr_EvM Y' [.inr (.inr 0), .inl a, .inl b] (fun j => M (k0 + j)) (some (.inl x), M')) (k : cr_Ev Y (pc + 3) lv (.inl x :: st) (cr_mg M k0 (cr_sh Y').length M') r) : cr_Ev Y pc lv (.inl b :: .inl a :: .inr (.inr k0) :: st) M r :=
  e_callV (as := [.inl a, .inl b]) (pl := fun j => k0 + j) (M' := M') (M2 := cr_mg M k0 (cr_sh Y').length M') hd hc hv hf hr rfl (by simpa [cr_sz] using hz) rfl h8 E (fun j hj => cr_mg_in hj) (fun k _ h => cr_mg_out (by
    rcases Nat.lt_or_ge k k0 with h1 | h1
    · exact Or.inl h1
    · rcases Nat.lt_or_ge k (k0 + (cr_sh Y').length) with h2 | h2
      · exact absurd (show k0 + (k - k0) = k by omega) (h (k - k0) (by omega))
      · exact Or.inr h2)) k
theorem e_stat2i {Y Y' : cr_Y} {pc idx : Nat} {lv : List (Nat × cr_AV)} {st : List cr_AV} {M M' : cr_M} {r : Option cr_AV × cr_M} {a b : Int32} {x : Int32} (hd : decode (cr_by Y) pc = .ok (.invokestatic idx, 3)) (hc : cr_cs Y Y' idx 2) (hv : Cond.static (cr_nm Y') ∈ cr_tb) (hs : cr_sh Y' = []) (hz : 2 ≤ cr_ml Y') (h8 : cr_w8 st ≤ 8) (E : cr_EvM Y' [.inl a, .inl b] M (some (.inl x), M')) (k : cr_Ev Y (pc + 3) lv (.inl x :: st) M r) : cr_Ev Y pc lv (.inl b :: .inl a :: st) M r :=
  e_callS (as := [.inl a, .inl b]) hd hc hv hs rfl (by simpa [cr_sz] using hz) rfl h8 E k
theorem e_self3v {Y Y' : cr_Y} {pc idx : Nat} {lv : List (Nat × cr_AV)} {st : List cr_AV} {M M' : cr_M} {r : Option cr_AV × cr_M} {a b c : Int32} (hd : decode (cr_by Y) pc = .ok (.invokevirtual idx, 3)) (hc : cr_cs Y Y' idx 3) (hv : cr_csV Y') (hr : cr_rc Y') (hs : cr_sh Y' = cr_sh Y) (hz : 4 ≤ cr_ml Y') (h8 : cr_w8 st ≤ 8) (E : cr_EvM Y' [.inr (.inr 0), .inl a, .inl b, .inl c] M (none, M')) (k : cr_Ev Y (pc + 3) lv (st) M' r) : cr_Ev Y pc lv (.inl c :: .inl b :: .inl a :: .inr (.inr 0) :: st) M r := by
  refine e_callV (as := [.inl a, .inl b, .inl c]) (pl := fun k => k) (M' := M') (M2 := M') hd hc hv ⟨fun j c h => ?_, fun i j _ _ h => h⟩ hr rfl (by simpa [cr_sz] using hz) rfl h8 E (fun _ _ => rfl) (fun k hk h => absurd rfl (h k (by rw [hs]; exact hk))) k
  rw [hs] at h
  rw [h]
  rcases c with o | a
  · simp [cr_rs, show (fun f : Option Nat => Option.map (fun k => k) f) = (fun f => f) from funext (fun f => by cases f <;> rfl)]
  · rfl
theorem e_offR3v {Y Y' : cr_Y} {pc idx : Nat} {lv : List (Nat × cr_AV)} {st : List cr_AV} {M M' : cr_M} {r : Option cr_AV × cr_M} {k0 : Nat} {a b c : Int32} (hd : decode (cr_by Y) pc = .ok (.invokevirtual idx, 3)) (hc : cr_cs Y Y' idx 3) (hv : cr_csV Y') (hr : cr_rc Y') (hf : cr_fit (cr_sh Y) (cr_sh Y') (fun j => k0 + j)) (hz : 4 ≤ cr_ml Y') (h8 : cr_w8 st ≤ 8) (E : cr_EvM Y' [.inr (.inr 0), .inl a, .inl b, .inl c] (fun j => M (k0 + j)) (none, fun j => M (k0 + j))) (k : cr_Ev Y (pc + 3) lv (st) M r) : cr_Ev Y pc lv (.inl c :: .inl b :: .inl a :: .inr (.inr k0) :: st) M r :=
  e_callV (as := [.inl a, .inl b, .inl c]) (pl := fun j => k0 + j) (M2 := M) hd hc hv hf hr rfl (by simpa [cr_sz] using hz) rfl h8 E (fun _ _ => rfl) (fun _ _ _ => rfl) k
theorem e_off3v {Y Y' : cr_Y} {pc idx : Nat} {lv : List (Nat × cr_AV)} {st : List cr_AV} {M M' : cr_M} {r : Option cr_AV × cr_M} {k0 : Nat} {a b c : Int32} (hd : decode (cr_by Y) pc = .ok (.invokevirtual idx, 3)) (hc : cr_cs Y Y' idx 3) (hv : cr_csV Y') (hr : cr_rc Y') (hf : cr_fit (cr_sh Y) (cr_sh Y') (fun j => k0 + j)) (hz : 4 ≤ cr_ml Y') (h8 : cr_w8 st ≤ 8) (E : cr_EvM Y' [.inr (.inr 0), .inl a, .inl b, .inl c] (fun j => M (k0 + j)) (none, M')) (k : cr_Ev Y (pc + 3) lv (st) (cr_mg M k0 (cr_sh Y').length M') r) : cr_Ev Y pc lv (.inl c :: .inl b :: .inl a :: .inr (.inr k0) :: st) M r :=
  e_callV (as := [.inl a, .inl b, .inl c]) (pl := fun j => k0 + j) (M' := M') (M2 := cr_mg M k0 (cr_sh Y').length M') hd hc hv hf hr rfl (by simpa [cr_sz] using hz) rfl h8 E (fun j hj => cr_mg_in hj) (fun k _ h => cr_mg_out (by
    rcases Nat.lt_or_ge k k0 with h1 | h1
    · exact Or.inl h1
    · rcases Nat.lt_or_ge k (k0 + (cr_sh Y').length) with h2 | h2
      · exact absurd (show k0 + (k - k0) = k by omega) (h (k - k0) (by omega))
      · exact Or.inr h2)) k
theorem e_stat3v {Y Y' : cr_Y} {pc idx : Nat} {lv : List (Nat × cr_AV)} {st : List cr_AV} {M M' : cr_M} {r : Option cr_AV × cr_M} {a b c : Int32} (hd : decode (cr_by Y) pc = .ok (.invokestatic idx, 3)) (hc : cr_cs Y Y' idx 3) (hv : Cond.static (cr_nm Y') ∈ cr_tb) (hs : cr_sh Y' = []) (hz : 3 ≤ cr_ml Y') (h8 : cr_w8 st ≤ 8) (E : cr_EvM Y' [.inl a, .inl b, .inl c] M (none, M')) (k : cr_Ev Y (pc + 3) lv (st) M r) : cr_Ev Y pc lv (.inl c :: .inl b :: .inl a :: st) M r :=
  e_callS (as := [.inl a, .inl b, .inl c]) hd hc hv hs rfl (by simpa [cr_sz] using hz) rfl h8 E k
theorem e_self3i {Y Y' : cr_Y} {pc idx : Nat} {lv : List (Nat × cr_AV)} {st : List cr_AV} {M M' : cr_M} {r : Option cr_AV × cr_M} {a b c : Int32} {x : Int32} (hd : decode (cr_by Y) pc = .ok (.invokevirtual idx, 3)) (hc : cr_cs Y Y' idx 3) (hv : cr_csV Y') (hr : cr_rc Y') (hs : cr_sh Y' = cr_sh Y) (hz : 4 ≤ cr_ml Y') (h8 : cr_w8 st ≤ 8) (E : cr_EvM Y' [.inr (.inr 0), .inl a, .inl b, .inl c] M (some (.inl x), M')) (k : cr_Ev Y (pc + 3) lv (.inl x :: st) M' r) : cr_Ev Y pc lv (.inl c :: .inl b :: .inl a :: .inr (.inr 0) :: st) M r := by
  refine e_callV (as := [.inl a, .inl b, .inl c]) (pl := fun k => k) (M' := M') (M2 := M') hd hc hv ⟨fun j c h => ?_, fun i j _ _ h => h⟩ hr rfl (by simpa [cr_sz] using hz) rfl h8 E (fun _ _ => rfl) (fun k hk h => absurd rfl (h k (by rw [hs]; exact hk))) k
  rw [hs] at h
  rw [h]
  rcases c with o | a
  · simp [cr_rs, show (fun f : Option Nat => Option.map (fun k => k) f) = (fun f => f) from funext (fun f => by cases f <;> rfl)]
  · rfl
theorem e_offR3i {Y Y' : cr_Y} {pc idx : Nat} {lv : List (Nat × cr_AV)} {st : List cr_AV} {M M' : cr_M} {r : Option cr_AV × cr_M} {k0 : Nat} {a b c : Int32} {x : Int32} (hd : decode (cr_by Y) pc = .ok (.invokevirtual idx, 3)) (hc : cr_cs Y Y' idx 3) (hv : cr_csV Y') (hr : cr_rc Y') (hf : cr_fit (cr_sh Y) (cr_sh Y') (fun j => k0 + j)) (hz : 4 ≤ cr_ml Y') (h8 : cr_w8 st ≤ 8) (E : cr_EvM Y' [.inr (.inr 0), .inl a, .inl b, .inl c] (fun j => M (k0 + j)) (some (.inl x), fun j => M (k0 + j))) (k : cr_Ev Y (pc + 3) lv (.inl x :: st) M r) : cr_Ev Y pc lv (.inl c :: .inl b :: .inl a :: .inr (.inr k0) :: st) M r :=
  e_callV (as := [.inl a, .inl b, .inl c]) (pl := fun j => k0 + j) (M2 := M) hd hc hv hf hr rfl (by simpa [cr_sz] using hz) rfl h8 E (fun _ _ => rfl) (fun _ _ _ => rfl) k
theorem e_off3i {Y Y' : cr_Y} {pc idx : Nat} {lv : List (Nat × cr_AV)} {st : List cr_AV} {M M' : cr_M} {r : Option cr_AV × cr_M} {k0 : Nat} {a b c : Int32} {x : Int32} (hd : decode (cr_by Y) pc = .ok (.invokevirtual idx, 3)) (hc : cr_cs Y Y' idx 3) (hv : cr_csV Y') (hr : cr_rc Y') (hf : cr_fit (cr_sh Y) (cr_sh Y') (fun j => k0 + j)) (hz : 4 ≤ cr_ml Y') (h8 : cr_w8 st ≤ 8) (E : cr_EvM Y' [.inr (.inr 0), .inl a, .inl b, .inl c] (fun j => M (k0 + j)) (some (.inl x), M')) (k : cr_Ev Y (pc + 3) lv (.inl x :: st) (cr_mg M k0 (cr_sh Y').length M') r) : cr_Ev Y pc lv (.inl c :: .inl b :: .inl a :: .inr (.inr k0) :: st) M r :=
  e_callV (as := [.inl a, .inl b, .inl c]) (pl := fun j => k0 + j) (M' := M') (M2 := cr_mg M k0 (cr_sh Y').length M') hd hc hv hf hr rfl (by simpa [cr_sz] using hz) rfl h8 E (fun j hj => cr_mg_in hj) (fun k _ h => cr_mg_out (by
    rcases Nat.lt_or_ge k k0 with h1 | h1
    · exact Or.inl h1
    · rcases Nat.lt_or_ge k (k0 + (cr_sh Y').length) with h2 | h2
      · exact absurd (show k0 + (k - k0) = k by omega) (h (k - k0) (by omega))
      · exact Or.inr h2)) k
theorem e_stat3i {Y Y' : cr_Y} {pc idx : Nat} {lv : List (Nat × cr_AV)} {st : List cr_AV} {M M' : cr_M} {r : Option cr_AV × cr_M} {a b c : Int32} {x : Int32} (hd : decode (cr_by Y) pc = .ok (.invokestatic idx, 3)) (hc : cr_cs Y Y' idx 3) (hv : Cond.static (cr_nm Y') ∈ cr_tb) (hs : cr_sh Y' = []) (hz : 3 ≤ cr_ml Y') (h8 : cr_w8 st ≤ 8) (E : cr_EvM Y' [.inl a, .inl b, .inl c] M (some (.inl x), M')) (k : cr_Ev Y (pc + 3) lv (.inl x :: st) M r) : cr_Ev Y pc lv (.inl c :: .inl b :: .inl a :: st) M r :=
  e_callS (as := [.inl a, .inl b, .inl c]) hd hc hv hs rfl (by simpa [cr_sz] using hz) rfl h8 E k
theorem e_self4v {Y Y' : cr_Y} {pc idx : Nat} {lv : List (Nat × cr_AV)} {st : List cr_AV} {M M' : cr_M} {r : Option cr_AV × cr_M} {a b c d : Int32} (hd : decode (cr_by Y) pc = .ok (.invokevirtual idx, 3)) (hc : cr_cs Y Y' idx 4) (hv : cr_csV Y') (hr : cr_rc Y') (hs : cr_sh Y' = cr_sh Y) (hz : 5 ≤ cr_ml Y') (h8 : cr_w8 st ≤ 8) (E : cr_EvM Y' [.inr (.inr 0), .inl a, .inl b, .inl c, .inl d] M (none, M')) (k : cr_Ev Y (pc + 3) lv (st) M' r) : cr_Ev Y pc lv (.inl d :: .inl c :: .inl b :: .inl a :: .inr (.inr 0) :: st) M r := by
  refine e_callV (as := [.inl a, .inl b, .inl c, .inl d]) (pl := fun k => k) (M' := M') (M2 := M') hd hc hv ⟨fun j c h => ?_, fun i j _ _ h => h⟩ hr rfl (by simpa [cr_sz] using hz) rfl h8 E (fun _ _ => rfl) (fun k hk h => absurd rfl (h k (by rw [hs]; exact hk))) k
  rw [hs] at h
  rw [h]
  rcases c with o | a
  · simp [cr_rs, show (fun f : Option Nat => Option.map (fun k => k) f) = (fun f => f) from funext (fun f => by cases f <;> rfl)]
  · rfl
theorem e_offR4v {Y Y' : cr_Y} {pc idx : Nat} {lv : List (Nat × cr_AV)} {st : List cr_AV} {M M' : cr_M} {r : Option cr_AV × cr_M} {k0 : Nat} {a b c d : Int32} (hd : decode (cr_by Y) pc = .ok (.invokevirtual idx, 3)) (hc : cr_cs Y Y' idx 4) (hv : cr_csV Y') (hr : cr_rc Y') (hf : cr_fit (cr_sh Y) (cr_sh Y') (fun j => k0 + j)) (hz : 5 ≤ cr_ml Y') (h8 : cr_w8 st ≤ 8) (E : cr_EvM Y' [.inr (.inr 0), .inl a, .inl b, .inl c, .inl d] (fun j => M (k0 + j)) (none, fun j => M (k0 + j))) (k : cr_Ev Y (pc + 3) lv (st) M r) : cr_Ev Y pc lv (.inl d :: .inl c :: .inl b :: .inl a :: .inr (.inr k0) :: st) M r :=
  e_callV (as := [.inl a, .inl b, .inl c, .inl d]) (pl := fun j => k0 + j) (M2 := M) hd hc hv hf hr rfl (by simpa [cr_sz] using hz) rfl h8 E (fun _ _ => rfl) (fun _ _ _ => rfl) k
theorem e_off4v {Y Y' : cr_Y} {pc idx : Nat} {lv : List (Nat × cr_AV)} {st : List cr_AV} {M M' : cr_M} {r : Option cr_AV × cr_M} {k0 : Nat} {a b c d : Int32} (hd : decode (cr_by Y) pc = .ok (.invokevirtual idx, 3)) (hc : cr_cs Y Y' idx 4) (hv : cr_csV Y') (hr : cr_rc Y') (hf : cr_fit (cr_sh Y) (cr_sh Y') (fun j => k0 + j)) (hz : 5 ≤ cr_ml Y') (h8 : cr_w8 st ≤ 8) (E : cr_EvM Y' [.inr (.inr 0), .inl a, .inl b, .inl c, .inl d] (fun j => M (k0 + j)) (none, M')) (k : cr_Ev Y (pc + 3) lv (st) (cr_mg M k0 (cr_sh Y').length M') r) : cr_Ev Y pc lv (.inl d :: .inl c :: .inl b :: .inl a :: .inr (.inr k0) :: st) M r :=
  e_callV (as := [.inl a, .inl b, .inl c, .inl d]) (pl := fun j => k0 + j) (M' := M') (M2 := cr_mg M k0 (cr_sh Y').length M') hd hc hv hf hr rfl (by simpa [cr_sz] using hz) rfl h8 E (fun j hj => cr_mg_in hj) (fun k _ h => cr_mg_out (by
    rcases Nat.lt_or_ge k k0 with h1 | h1
    · exact Or.inl h1
    · rcases Nat.lt_or_ge k (k0 + (cr_sh Y').length) with h2 | h2
      · exact absurd (show k0 + (k - k0) = k by omega) (h (k - k0) (by omega))
      · exact Or.inr h2)) k
theorem e_stat4v {Y Y' : cr_Y} {pc idx : Nat} {lv : List (Nat × cr_AV)} {st : List cr_AV} {M M' : cr_M} {r : Option cr_AV × cr_M} {a b c d : Int32} (hd : decode (cr_by Y) pc = .ok (.invokestatic idx, 3)) (hc : cr_cs Y Y' idx 4) (hv : Cond.static (cr_nm Y') ∈ cr_tb) (hs : cr_sh Y' = []) (hz : 4 ≤ cr_ml Y') (h8 : cr_w8 st ≤ 8) (E : cr_EvM Y' [.inl a, .inl b, .inl c, .inl d] M (none, M')) (k : cr_Ev Y (pc + 3) lv (st) M r) : cr_Ev Y pc lv (.inl d :: .inl c :: .inl b :: .inl a :: st) M r :=
  e_callS (as := [.inl a, .inl b, .inl c, .inl d]) hd hc hv hs rfl (by simpa [cr_sz] using hz) rfl h8 E k
theorem e_self4i {Y Y' : cr_Y} {pc idx : Nat} {lv : List (Nat × cr_AV)} {st : List cr_AV} {M M' : cr_M} {r : Option cr_AV × cr_M} {a b c d : Int32} {x : Int32} (hd : decode (cr_by Y) pc = .ok (.invokevirtual idx, 3)) (hc : cr_cs Y Y' idx 4) (hv : cr_csV Y') (hr : cr_rc Y') (hs : cr_sh Y' = cr_sh Y) (hz : 5 ≤ cr_ml Y') (h8 : cr_w8 st ≤ 8) (E : cr_EvM Y' [.inr (.inr 0), .inl a, .inl b, .inl c, .inl d] M (some (.inl x), M')) (k : cr_Ev Y (pc + 3) lv (.inl x :: st) M' r) : cr_Ev Y pc lv (.inl d :: .inl c :: .inl b :: .inl a :: .inr (.inr 0) :: st) M r := by
  refine e_callV (as := [.inl a, .inl b, .inl c, .inl d]) (pl := fun k => k) (M' := M') (M2 := M') hd hc hv ⟨fun j c h => ?_, fun i j _ _ h => h⟩ hr rfl (by simpa [cr_sz] using hz) rfl h8 E (fun _ _ => rfl) (fun k hk h => absurd rfl (h k (by rw [hs]; exact hk))) k
  rw [hs] at h
  rw [h]
  rcases c with o | a
  · simp [cr_rs, show (fun f : Option Nat => Option.map (fun k => k) f) = (fun f => f) from funext (fun f => by cases f <;> rfl)]
  · rfl
theorem e_offR4i {Y Y' : cr_Y} {pc idx : Nat} {lv : List (Nat × cr_AV)} {st : List cr_AV} {M M' : cr_M} {r : Option cr_AV × cr_M} {k0 : Nat} {a b c d : Int32} {x : Int32} (hd : decode (cr_by Y) pc = .ok (.invokevirtual idx, 3)) (hc : cr_cs Y Y' idx 4) (hv : cr_csV Y') (hr : cr_rc Y') (hf : cr_fit (cr_sh Y) (cr_sh Y') (fun j => k0 + j)) (hz : 5 ≤ cr_ml Y') (h8 : cr_w8 st ≤ 8) (E : cr_EvM Y' [.inr (.inr 0), .inl a, .inl b, .inl c, .inl d] (fun j => M (k0 + j)) (some (.inl x), fun j => M (k0 + j))) (k : cr_Ev Y (pc + 3) lv (.inl x :: st) M r) : cr_Ev Y pc lv (.inl d :: .inl c :: .inl b :: .inl a :: .inr (.inr k0) :: st) M r :=
  e_callV (as := [.inl a, .inl b, .inl c, .inl d]) (pl := fun j => k0 + j) (M2 := M) hd hc hv hf hr rfl (by simpa [cr_sz] using hz) rfl h8 E (fun _ _ => rfl) (fun _ _ _ => rfl) k
theorem e_off4i {Y Y' : cr_Y} {pc idx : Nat} {lv : List (Nat × cr_AV)} {st : List cr_AV} {M M' : cr_M} {r : Option cr_AV × cr_M} {k0 : Nat} {a b c d : Int32} {x : Int32} (hd : decode (cr_by Y) pc = .ok (.invokevirtual idx, 3)) (hc : cr_cs Y Y' idx 4) (hv : cr_csV Y') (hr : cr_rc Y') (hf : cr_fit (cr_sh Y) (cr_sh Y') (fun j => k0 + j)) (hz : 5 ≤ cr_ml Y') (h8 : cr_w8 st ≤ 8) (E : cr_EvM Y' [.inr (.inr 0), .inl a, .inl b, .inl c, .inl d] (fun j => M (k0 + j)) (some (.inl x), M')) (k : cr_Ev Y (pc + 3) lv (.inl x :: st) (cr_mg M k0 (cr_sh Y').length M') r) : cr_Ev Y pc lv (.inl d :: .inl c :: .inl b :: .inl a :: .inr (.inr k0) :: st) M r :=
  e_callV (as := [.inl a, .inl b, .inl c, .inl d]) (pl := fun j => k0 + j) (M' := M') (M2 := cr_mg M k0 (cr_sh Y').length M') hd hc hv hf hr rfl (by simpa [cr_sz] using hz) rfl h8 E (fun j hj => cr_mg_in hj) (fun k _ h => cr_mg_out (by
    rcases Nat.lt_or_ge k k0 with h1 | h1
    · exact Or.inl h1
    · rcases Nat.lt_or_ge k (k0 + (cr_sh Y').length) with h2 | h2
      · exact absurd (show k0 + (k - k0) = k by omega) (h (k - k0) (by omega))
      · exact Or.inr h2)) k
theorem e_stat4i {Y Y' : cr_Y} {pc idx : Nat} {lv : List (Nat × cr_AV)} {st : List cr_AV} {M M' : cr_M} {r : Option cr_AV × cr_M} {a b c d : Int32} {x : Int32} (hd : decode (cr_by Y) pc = .ok (.invokestatic idx, 3)) (hc : cr_cs Y Y' idx 4) (hv : Cond.static (cr_nm Y') ∈ cr_tb) (hs : cr_sh Y' = []) (hz : 4 ≤ cr_ml Y') (h8 : cr_w8 st ≤ 8) (E : cr_EvM Y' [.inl a, .inl b, .inl c, .inl d] M (some (.inl x), M')) (k : cr_Ev Y (pc + 3) lv (.inl x :: st) M r) : cr_Ev Y pc lv (.inl d :: .inl c :: .inl b :: .inl a :: st) M r :=
  e_callS (as := [.inl a, .inl b, .inl c, .inl d]) hd hc hv hs rfl (by simpa [cr_sz] using hz) rfl h8 E k
theorem e_self5v {Y Y' : cr_Y} {pc idx : Nat} {lv : List (Nat × cr_AV)} {st : List cr_AV} {M M' : cr_M} {r : Option cr_AV × cr_M} {a b c d f : Int32} (hd : decode (cr_by Y) pc = .ok (.invokevirtual idx, 3)) (hc : cr_cs Y Y' idx 5) (hv : cr_csV Y') (hr : cr_rc Y') (hs : cr_sh Y' = cr_sh Y) (hz : 6 ≤ cr_ml Y') (h8 : cr_w8 st ≤ 8) (E : cr_EvM Y' [.inr (.inr 0), .inl a, .inl b, .inl c, .inl d, .inl f] M (none, M')) (k : cr_Ev Y (pc + 3) lv (st) M' r) : cr_Ev Y pc lv (.inl f :: .inl d :: .inl c :: .inl b :: .inl a :: .inr (.inr 0) :: st) M r := by
  refine e_callV (as := [.inl a, .inl b, .inl c, .inl d, .inl f]) (pl := fun k => k) (M' := M') (M2 := M') hd hc hv ⟨fun j c h => ?_, fun i j _ _ h => h⟩ hr rfl (by simpa [cr_sz] using hz) rfl h8 E (fun _ _ => rfl) (fun k hk h => absurd rfl (h k (by rw [hs]; exact hk))) k
  rw [hs] at h
  rw [h]
  rcases c with o | a
  · simp [cr_rs, show (fun f : Option Nat => Option.map (fun k => k) f) = (fun f => f) from funext (fun f => by cases f <;> rfl)]
  · rfl
theorem e_offR5v {Y Y' : cr_Y} {pc idx : Nat} {lv : List (Nat × cr_AV)} {st : List cr_AV} {M M' : cr_M} {r : Option cr_AV × cr_M} {k0 : Nat} {a b c d f : Int32} (hd : decode (cr_by Y) pc = .ok (.invokevirtual idx, 3)) (hc : cr_cs Y Y' idx 5) (hv : cr_csV Y') (hr : cr_rc Y') (hf : cr_fit (cr_sh Y) (cr_sh Y') (fun j => k0 + j)) (hz : 6 ≤ cr_ml Y') (h8 : cr_w8 st ≤ 8) (E : cr_EvM Y' [.inr (.inr 0), .inl a, .inl b, .inl c, .inl d, .inl f] (fun j => M (k0 + j)) (none, fun j => M (k0 + j))) (k : cr_Ev Y (pc + 3) lv (st) M r) : cr_Ev Y pc lv (.inl f :: .inl d :: .inl c :: .inl b :: .inl a :: .inr (.inr k0) :: st) M r :=
  e_callV (as := [.inl a, .inl b, .inl c, .inl d, .inl f]) (pl := fun j => k0 + j) (M2 := M) hd hc hv hf hr rfl (by simpa [cr_sz] using hz) rfl h8 E (fun _ _ => rfl) (fun _ _ _ => rfl) k
theorem e_off5v {Y Y' : cr_Y} {pc idx : Nat} {lv : List (Nat × cr_AV)} {st : List cr_AV} {M M' : cr_M} {r : Option cr_AV × cr_M} {k0 : Nat} {a b c d f : Int32} (hd : decode (cr_by Y) pc = .ok (.invokevirtual idx, 3)) (hc : cr_cs Y Y' idx 5) (hv : cr_csV Y') (hr : cr_rc Y') (hf : cr_fit (cr_sh Y) (cr_sh Y') (fun j => k0 + j)) (hz : 6 ≤ cr_ml Y') (h8 : cr_w8 st ≤ 8) (E : cr_EvM Y' [.inr (.inr 0), .inl a, .inl b, .inl c, .inl d, .inl f] (fun j => M (k0 + j)) (none, M')) (k : cr_Ev Y (pc + 3) lv (st) (cr_mg M k0 (cr_sh Y').length M') r) : cr_Ev Y pc lv (.inl f :: .inl d :: .inl c :: .inl b :: .inl a :: .inr (.inr k0) :: st) M r :=
  e_callV (as := [.inl a, .inl b, .inl c, .inl d, .inl f]) (pl := fun j => k0 + j) (M' := M') (M2 := cr_mg M k0 (cr_sh Y').length M') hd hc hv hf hr rfl (by simpa [cr_sz] using hz) rfl h8 E (fun j hj => cr_mg_in hj) (fun k _ h => cr_mg_out (by
    rcases Nat.lt_or_ge k k0 with h1 | h1
    · exact Or.inl h1
    · rcases Nat.lt_or_ge k (k0 + (cr_sh Y').length) with h2 | h2
      · exact absurd (show k0 + (k - k0) = k by omega) (h (k - k0) (by omega))
      · exact Or.inr h2)) k
theorem e_stat5v {Y Y' : cr_Y} {pc idx : Nat} {lv : List (Nat × cr_AV)} {st : List cr_AV} {M M' : cr_M} {r : Option cr_AV × cr_M} {a b c d f : Int32} (hd : decode (cr_by Y) pc = .ok (.invokestatic idx, 3)) (hc : cr_cs Y Y' idx 5) (hv : Cond.static (cr_nm Y') ∈ cr_tb) (hs : cr_sh Y' = []) (hz : 5 ≤ cr_ml Y') (h8 : cr_w8 st ≤ 8) (E : cr_EvM Y' [.inl a, .inl b, .inl c, .inl d, .inl f] M (none, M')) (k : cr_Ev Y (pc + 3) lv (st) M r) : cr_Ev Y pc lv (.inl f :: .inl d :: .inl c :: .inl b :: .inl a :: st) M r :=
  e_callS (as := [.inl a, .inl b, .inl c, .inl d, .inl f]) hd hc hv hs rfl (by simpa [cr_sz] using hz) rfl h8 E k
theorem e_self5i {Y Y' : cr_Y} {pc idx : Nat} {lv : List (Nat × cr_AV)} {st : List cr_AV} {M M' : cr_M} {r : Option cr_AV × cr_M} {a b c d f : Int32} {x : Int32} (hd : decode (cr_by Y) pc = .ok (.invokevirtual idx, 3)) (hc : cr_cs Y Y' idx 5) (hv : cr_csV Y') (hr : cr_rc Y') (hs : cr_sh Y' = cr_sh Y) (hz : 6 ≤ cr_ml Y') (h8 : cr_w8 st ≤ 8) (E : cr_EvM Y' [.inr (.inr 0), .inl a, .inl b, .inl c, .inl d, .inl f] M (some (.inl x), M')) (k : cr_Ev Y (pc + 3) lv (.inl x :: st) M' r) : cr_Ev Y pc lv (.inl f :: .inl d :: .inl c :: .inl b :: .inl a :: .inr (.inr 0) :: st) M r := by
  refine e_callV (as := [.inl a, .inl b, .inl c, .inl d, .inl f]) (pl := fun k => k) (M' := M') (M2 := M') hd hc hv ⟨fun j c h => ?_, fun i j _ _ h => h⟩ hr rfl (by simpa [cr_sz] using hz) rfl h8 E (fun _ _ => rfl) (fun k hk h => absurd rfl (h k (by rw [hs]; exact hk))) k
  rw [hs] at h
  rw [h]
  rcases c with o | a
  · simp [cr_rs, show (fun f : Option Nat => Option.map (fun k => k) f) = (fun f => f) from funext (fun f => by cases f <;> rfl)]
  · rfl
theorem e_offR5i {Y Y' : cr_Y} {pc idx : Nat} {lv : List (Nat × cr_AV)} {st : List cr_AV} {M M' : cr_M} {r : Option cr_AV × cr_M} {k0 : Nat} {a b c d f : Int32} {x : Int32} (hd : decode (cr_by Y) pc = .ok (.invokevirtual idx, 3)) (hc : cr_cs Y Y' idx 5) (hv : cr_csV Y') (hr : cr_rc Y') (hf : cr_fit (cr_sh Y) (cr_sh Y') (fun j => k0 + j)) (hz : 6 ≤ cr_ml Y') (h8 : cr_w8 st ≤ 8) (E : cr_EvM Y' [.inr (.inr 0), .inl a, .inl b, .inl c, .inl d, .inl f] (fun j => M (k0 + j)) (some (.inl x), fun j => M (k0 + j))) (k : cr_Ev Y (pc + 3) lv (.inl x :: st) M r) : cr_Ev Y pc lv (.inl f :: .inl d :: .inl c :: .inl b :: .inl a :: .inr (.inr k0) :: st) M r :=
  e_callV (as := [.inl a, .inl b, .inl c, .inl d, .inl f]) (pl := fun j => k0 + j) (M2 := M) hd hc hv hf hr rfl (by simpa [cr_sz] using hz) rfl h8 E (fun _ _ => rfl) (fun _ _ _ => rfl) k
theorem e_off5i {Y Y' : cr_Y} {pc idx : Nat} {lv : List (Nat × cr_AV)} {st : List cr_AV} {M M' : cr_M} {r : Option cr_AV × cr_M} {k0 : Nat} {a b c d f : Int32} {x : Int32} (hd : decode (cr_by Y) pc = .ok (.invokevirtual idx, 3)) (hc : cr_cs Y Y' idx 5) (hv : cr_csV Y') (hr : cr_rc Y') (hf : cr_fit (cr_sh Y) (cr_sh Y') (fun j => k0 + j)) (hz : 6 ≤ cr_ml Y') (h8 : cr_w8 st ≤ 8) (E : cr_EvM Y' [.inr (.inr 0), .inl a, .inl b, .inl c, .inl d, .inl f] (fun j => M (k0 + j)) (some (.inl x), M')) (k : cr_Ev Y (pc + 3) lv (.inl x :: st) (cr_mg M k0 (cr_sh Y').length M') r) : cr_Ev Y pc lv (.inl f :: .inl d :: .inl c :: .inl b :: .inl a :: .inr (.inr k0) :: st) M r :=
  e_callV (as := [.inl a, .inl b, .inl c, .inl d, .inl f]) (pl := fun j => k0 + j) (M' := M') (M2 := cr_mg M k0 (cr_sh Y').length M') hd hc hv hf hr rfl (by simpa [cr_sz] using hz) rfl h8 E (fun j hj => cr_mg_in hj) (fun k _ h => cr_mg_out (by
    rcases Nat.lt_or_ge k k0 with h1 | h1
    · exact Or.inl h1
    · rcases Nat.lt_or_ge k (k0 + (cr_sh Y').length) with h2 | h2
      · exact absurd (show k0 + (k - k0) = k by omega) (h (k - k0) (by omega))
      · exact Or.inr h2)) k
theorem e_stat5i {Y Y' : cr_Y} {pc idx : Nat} {lv : List (Nat × cr_AV)} {st : List cr_AV} {M M' : cr_M} {r : Option cr_AV × cr_M} {a b c d f : Int32} {x : Int32} (hd : decode (cr_by Y) pc = .ok (.invokestatic idx, 3)) (hc : cr_cs Y Y' idx 5) (hv : Cond.static (cr_nm Y') ∈ cr_tb) (hs : cr_sh Y' = []) (hz : 5 ≤ cr_ml Y') (h8 : cr_w8 st ≤ 8) (E : cr_EvM Y' [.inl a, .inl b, .inl c, .inl d, .inl f] M (some (.inl x), M')) (k : cr_Ev Y (pc + 3) lv (.inl x :: st) M r) : cr_Ev Y pc lv (.inl f :: .inl d :: .inl c :: .inl b :: .inl a :: st) M r :=
  e_callS (as := [.inl a, .inl b, .inl c, .inl d, .inl f]) hd hc hv hs rfl (by simpa [cr_sz] using hz) rfl h8 E k
theorem e_statL {Y Y' : cr_Y} {pc idx : Nat} {lv : List (Nat × cr_AV)} {st : List cr_AV} {M M' : cr_M} {r : Option cr_AV × cr_M} {a : Int64} {b c : Int32} {x : Int64} (hd : decode (cr_by Y) pc = .ok (.invokestatic idx, 3)) (hc : cr_cs Y Y' idx 3) (hv : Cond.static (cr_nm Y') ∈ cr_tb) (hs : cr_sh Y' = []) (hz : 4 ≤ cr_ml Y') (h8 : cr_w8 st ≤ 8) (E : cr_EvM Y' [.inr (.inl a), .inl b, .inl c] M (some (.inr (.inl x)), M')) (k : cr_Ev Y (pc + 3) lv (.inr (.inl x) :: st) M r) : cr_Ev Y pc lv (.inl c :: .inl b :: .inr (.inl a) :: st) M r :=
  e_callS (as := [.inr (.inl a), .inl b, .inl c]) hd hc hv hs rfl (by simpa [cr_sz] using hz) rfl h8 E k
theorem e_mmax {Y : cr_Y} {pc : Nat} {lv : List (Nat × cr_AV)} {st : List cr_AV} {M : cr_M} {r : Option cr_AV × cr_M} {i : Nat} {x y : Int32} (hd : decode (cr_by Y) pc = .ok (.invokestatic i, 3)) (hw : Cond.methodLink (cr_nm Y).cls i Lib.Math.max.name ∈ cr_tb) (hw2 : Cond.static Lib.Math.max.name ∈ cr_tb ∧ Cond.initialized "java/lang/Math" ∈ cr_tb ∧ Cond.code Lib.Math.max.name Lib.Math.max.code 2 (some .int) ∈ cr_tb) (hr1 : 1 ≤ cr_fr Y) (hr2 : 21 ≤ cr_lo Y) (h8 : cr_w8 st ≤ 8) (k : cr_Ev Y (pc + 3) lv (.inl (if x < y then y else x) :: st) M r) : cr_Ev Y pc lv (.inl y :: .inl x :: st) M r := by
  intro l D cI cZ ad A p e s m args below meth c C H locs ls hP hD hS hl
  obtain ⟨hx, hb, hr, hml, hown, hts, hlk, hK, hA⟩ := id C
  exact va_mmax hx hb (hml.trans hl.1.symm) hown (hts _ hw) (hts _ hw2.1) (hts _ hw2.2.1) (hts _ hw2.2.2) hr1 (by
    rw [cr_w8_eq]
    show cr_w8 st + 13 ≤ cr_lo Y
    omega) (Nat.le_refl _) (Nat.le_refl _) hd (k l D cI cZ ad A p e s m args below meth c C H locs ls hP hD hS hl)
theorem e_mmin {Y : cr_Y} {pc : Nat} {lv : List (Nat × cr_AV)} {st : List cr_AV} {M : cr_M} {r : Option cr_AV × cr_M} {i : Nat} {x y : Int32} (hd : decode (cr_by Y) pc = .ok (.invokestatic i, 3)) (hw : Cond.methodLink (cr_nm Y).cls i Lib.Math.min.name ∈ cr_tb) (hw2 : Cond.static Lib.Math.min.name ∈ cr_tb ∧ Cond.initialized "java/lang/Math" ∈ cr_tb ∧ Cond.code Lib.Math.min.name Lib.Math.min.code 2 (some .int) ∈ cr_tb) (hr1 : 1 ≤ cr_fr Y) (hr2 : 21 ≤ cr_lo Y) (h8 : cr_w8 st ≤ 8) (k : cr_Ev Y (pc + 3) lv (.inl (if y < x then y else x) :: st) M r) : cr_Ev Y pc lv (.inl y :: .inl x :: st) M r := by
  intro l D cI cZ ad A p e s m args below meth c C H locs ls hP hD hS hl
  obtain ⟨hx, hb, hr, hml, hown, hts, hlk, hK, hA⟩ := id C
  exact va_mmin hx hb (hml.trans hl.1.symm) hown (hts _ hw) (hts _ hw2.1) (hts _ hw2.2.1) (hts _ hw2.2.2) hr1 (by
    rw [cr_w8_eq]
    show cr_w8 st + 13 ≤ cr_lo Y
    omega) (Nat.le_refl _) (Nat.le_refl _) hd (k l D cI cZ ad A p e s m args below meth c C H locs ls hP hD hS hl)
