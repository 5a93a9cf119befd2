theorem mwx_static_max : Cond.static Lib.Math.max.name ∈ lw_g := mw_505
theorem mwx_code_max : Cond.code Lib.Math.max.name Lib.Math.max.code 2 (some .int) ∈ lw_g := mw_506
theorem mwx_static_min : Cond.static Lib.Math.min.name ∈ lw_g := mw_298
theorem mwx_code_min : Cond.code Lib.Math.min.name Lib.Math.min.code 2 (some .int) ∈ lw_g := mw_299
theorem mwx_static_abs : Cond.static Lib.Math.abs.name ∈ lw_g := mw_368
theorem mwx_code_abs : Cond.code Lib.Math.abs.name Lib.Math.abs.code 1 (some .int) ∈ lw_g := mw_369
theorem mwx_init_Math : Cond.initialized "java/lang/Math" ∈ lw_g := mw_71
theorem mwx_init_System : Cond.initialized "java/lang/System" ∈ lw_g := mw_70
theorem mwx_native_copy : Cond.native arraycopyName ∈ lw_g := mw_296
theorem mwx_static_copy : Cond.static arraycopyName ∈ lw_g := mw_295
abbrev KK : Type := va_G × ClassId × ClassId
abbrev ktys (K : KK) : List (ClassId × FieldType) := [(K.2.1, .int), (K.2.2, .object RX1)]
def rmc (d kc ks : Nat) : Room := { frames := d, cells := kc, slots := ks, locals := 37 * d }
def lget : List (Option Value) → Nat → Option Value
  | [], _ => none
  | v :: _, 0 => v
  | _ :: t, n + 1 => lget t n
def lput : List (Option Value) → Nat → Option Value → List (Option Value)
  | [], _, _ => []
  | _ :: t, 0, v => v :: t
  | x :: t, n + 1, v => x :: lput t n v
def lkl : Option Value → Option Value
  | some (.long _) => none
  | some (.double _) => none
  | x => x
def lset : List (Option Value) → Nat → Value → List (Option Value)
  | [], _, _ => []
  | _ :: t, 0, v => some v :: t
  | x :: t, 1, v => lkl x :: lset t 0 v
  | x :: t, n + 2, v => x :: lset t (n + 1) v
def lset2 (lv : List (Option Value)) (i : Nat) (v : Value) : List (Option Value) := lput (lset lv i v) (i + 1) none
def lmask : List Bool → List (Option Value) → List (Option Value)
  | b :: bs, x :: t => (bif b then x else none) :: lmask bs t
  | _, _ => []
theorem lkl_get {x : Option Value} {w : Value} (h : lkl x = some w) : x = some w ∧ w.category = 1 := by
  match x with
  | none => simp [lkl] at h
  | some v => cases v <;> simp_all [lkl, Value.category] <;> (try (subst h; rfl))
theorem lset_get : ∀ (lv : List (Option Value)) (i : Nat) (v : Value) (j : Nat) (w : Value), lget (lset lv i v) j = some w → (j = i ∧ w = v) ∨ (j ≠ i ∧ lget lv j = some w ∧ (j + 1 = i → w.category = 1))
  | [], _, _, _, _, h => by simp [lset, lget] at h
  | x :: t, 0, v, 0, w, h => by
    simp [lset, lget] at h
    exact Or.inl ⟨rfl, h.symm⟩
  | x :: t, 0, v, j + 1, w, h => by
    exact Or.inr ⟨by omega, h, by omega⟩
  | x :: t, 1, v, 0, w, h => by
    obtain ⟨h1, h2⟩ := lkl_get (x := x) (w := w) h
    exact Or.inr ⟨by omega, h1, fun _ => h2⟩
  | x :: t, 1, v, j + 1, w, h => by
    rcases lset_get t 0 v j w h with ⟨h1, h2⟩ | ⟨h1, h2, h3⟩
    · exact Or.inl ⟨by omega, h2⟩
    · exact Or.inr ⟨by omega, h2, by omega⟩
  | x :: t, i + 2, v, 0, w, h => Or.inr ⟨by omega, h, by omega⟩
  | x :: t, i + 2, v, j + 1, w, h => by
    rcases lset_get t (i + 1) v j w h with ⟨h1, h2⟩ | ⟨h1, h2, h3⟩
    · exact Or.inl ⟨by omega, h2⟩
    · exact Or.inr ⟨by omega, h2, fun z => h3 (by omega)⟩
theorem lput_get : ∀ (lv : List (Option Value)) (i : Nat) (j : Nat) (w : Value), lget (lput lv i none) j = some w → j ≠ i ∧ lget lv j = some w
  | [], _, _, _, h => by simp [lput, lget] at h
  | x :: t, 0, 0, w, h => by simp [lput, lget] at h
  | x :: t, 0, j + 1, w, h => ⟨by omega, h⟩
  | x :: t, i + 1, 0, w, h => ⟨by omega, h⟩
  | x :: t, i + 1, j + 1, w, h => by
    obtain ⟨h1, h2⟩ := lput_get t i j w h
    exact ⟨by omega, h2⟩
theorem lmask_get : ∀ (bs : List Bool) (lv : List (Option Value)) (j : Nat) (w : Value), lget (lmask bs lv) j = some w → lget lv j = some w
  | [], lv, _, _, h => by simp [lmask, lget] at h
  | _ :: _, [], _, _, h => by simp [lmask, lget] at h
  | b :: bs, x :: t, 0, w, h => by
    cases b with
    | true => exact h
    | false => simp [lmask, lget] at h
  | b :: bs, x :: t, j + 1, w, h => lmask_get bs t j w h
def lh (ls : Array Slot) (nL : Nat) (lv : List (Option Value)) : Prop := ls.size = nL ∧ lv_wf ls ∧ ∀ (i : Nat) (v : Value), lget lv i = some v → ls[i]? = some (.val v)
def lasc (nL : Nat) (lv : List (Option Value)) : List (Nat × Value) := (List.range nL).filterMap (fun i => (lget lv i).map (fun v => (i, v)))
theorem lasc_mem {nL : Nat} {lv : List (Option Value)} {i : Nat} {v : Value} (hi : i < nL) (h : lget lv i = some v) : (i, v) ∈ lasc nL lv :=
  List.mem_filterMap.mpr ⟨i, List.mem_range.mpr hi, by rw [h]; rfl⟩
theorem lasc_of {nL : Nat} {lv : List (Option Value)} {q : Nat × Value} (h : q ∈ lasc nL lv) : lget lv q.1 = some q.2 := by
  obtain ⟨i, -, hi⟩ := List.mem_filterMap.mp h
  cases hg : lget lv i with
  | none => rw [hg] at hi; cases hi
  | some v => rw [hg] at hi; cases hi; exact hg
theorem lh.asc {ls : Array Slot} {nL : Nat} {lv : List (Option Value)} (h : lh ls nL lv) : lv_has ls nL (lasc nL lv) := ⟨h.1, h.2.1, fun _ hq => h.2.2 _ _ (lasc_of hq)⟩
theorem lh.lt {ls : Array Slot} {nL : Nat} {lv : List (Option Value)} (h : lh ls nL lv) {i : Nat} {v : Value} (hi : lget lv i = some v) : i < nL := by
  have := lv_lt (h.2.2 i v hi)
  rw [h.1] at this
  exact this
theorem lh.st1 {ls ls' : Array Slot} {nL : Nat} {lv : List (Option Value)} {i : Nat} {v : Value} (h : lh ls nL lv) (h' : lv_has ls' nL ((i, v) :: (lasc nL lv).filter (fun q => !(q.1 == i) && !(q.1 + 1 == i && q.2.category == 2)))) : lh ls' nL (lset lv i v) := by
  refine ⟨h'.1, h'.2.1, fun j w hj => ?_⟩
  rcases lset_get lv i v j w hj with ⟨rfl, rfl⟩ | ⟨h1, h2, h3⟩
  · exact h'.2.2 (j, w) List.mem_cons_self
  · refine h'.2.2 (j, w) (List.mem_cons_of_mem _ (List.mem_filter.mpr ⟨lasc_mem (h.lt h2) h2, ?_⟩))
    have e1 : (j == i) = false := by simpa using h1
    by_cases h4 : j + 1 = i
    · simp [e1, h3 h4]
    · simp [e1, h4]
theorem lh.st2 {ls ls' : Array Slot} {nL : Nat} {lv : List (Option Value)} {i : Nat} {v : Value} (h : lh ls nL lv) (h' : lv_has ls' nL ((i, v) :: (lasc nL lv).filter (fun q => !(q.1 == i) && (!(q.1 == i + 1) && !(q.1 + 1 == i && q.2.category == 2))))) : lh ls' nL (lset2 lv i v) := by
  refine ⟨h'.1, h'.2.1, fun j w hj => ?_⟩
  obtain ⟨h0, hj⟩ := lput_get _ _ _ _ hj
  rcases lset_get lv i v j w hj with ⟨rfl, rfl⟩ | ⟨h1, h2, h3⟩
  · exact h'.2.2 (j, w) List.mem_cons_self
  · refine h'.2.2 (j, w) (List.mem_cons_of_mem _ (List.mem_filter.mpr ⟨lasc_mem (h.lt h2) h2, ?_⟩))
    have e1 : (j == i) = false := by simpa using h1
    have e2 : (j == i + 1) = false := by simpa using h0
    by_cases h4 : j + 1 = i
    · simp [e1, e2, h3 h4]
    · simp [e1, e2, h4]
def Cx (p : Program) (R : Room) (s : State) (m : MethodId) (args : Array Value) (meth : Method) (c : Code) (K : KK) (A : Nat → Prop) (H0 : Heap) (cc : ByteArray) (own : String) (nL d : Nat) : Prop :=
  p.tables.exec = Jvm.exec ∧ c.code = cc ∧ c.maxLocals = nL ∧ s.vm.findClass own = some m.cls ∧ (∀ w ∈ lw_g, w.before args s = true) ∧ va_K K.1 vwCl (ktys K) s ∧ meth.locks = false ∧ d ≤ R.frames ∧ 37 * d ≤ R.locals
def Go (p : Program) (l : Launch) (e : Env) (R : Room) (s : State) (m : MethodId) (args : Array Value) (below : List Frame) (meth : Method) (c : Code) (K : KK) (A : Nat → Prop) (H0 : Heap) (nL : Nat) (k n : Nat) (Q : State → Prop) (ws : va_W) (pc : Nat) (lv : List (Option Value)) (st : List Value) : Prop :=
  ∀ (H : Heap) (locs : List Loc) (ls : Array Slot), va_P K.1 vwCl ws H → va_D A ws → va_S A H0 H locs → lh ls nL lv → W p l e R s m args below meth c H locs k n Q (F0 m pc ls st)
section GO
variable {p : Program} {l : Launch} {e : Env} {R : Room} {s : State} {m : MethodId} {args : Array Value} {below : List Frame} {meth : Method} {c : Code} {K : KK} {A : Nat → Prop} {H0 : Heap} {cc : ByteArray} {own : String} {nL d k n : Nat} {Q : State → Prop} {ws : va_W} {pc : Nat} {lv : List (Option Value)} {st : List Value}
theorem Go_iconst (C : Cx p R s m args meth c K A H0 cc own nL d) {z : Int} {v : Int32} (hd : decode cc pc = .ok (.iconst z, 1)) (hv : Int32.ofInt z = v) (kk : Go p l e R s m args below meth c K A H0 nL k n Q ws (pc + 1) (lv) (.int v :: st)) : Go p l e R s m args below meth c K A H0 nL k n Q ws (pc) (lv) (st) := fun H locs ls hP hD hS hl => lv_iconst C.1 C.2.1 hd hv (kk H locs ls hP hD hS hl)
theorem Go_bipush (C : Cx p R s m args meth c K A H0 cc own nL d) {z : Int} {v : Int32} (hd : decode cc pc = .ok (.bipush z, 2)) (hv : (Int8.ofInt z).toInt32 = v) (kk : Go p l e R s m args below meth c K A H0 nL k n Q ws (pc + 2) (lv) (.int v :: st)) : Go p l e R s m args below meth c K A H0 nL k n Q ws (pc) (lv) (st) := fun H locs ls hP hD hS hl => lv_bipush C.1 C.2.1 hd hv (kk H locs ls hP hD hS hl)
theorem Go_sipush (C : Cx p R s m args meth c K A H0 cc own nL d) {z : Int} {v : Int32} (hd : decode cc pc = .ok (.sipush z, 3)) (hv : (Int16.ofInt z).toInt32 = v) (kk : Go p l e R s m args below meth c K A H0 nL k n Q ws (pc + 3) (lv) (.int v :: st)) : Go p l e R s m args below meth c K A H0 nL k n Q ws (pc) (lv) (st) := fun H locs ls hP hD hS hl => lv_sipush C.1 C.2.1 hd hv (kk H locs ls hP hD hS hl)
theorem Go_lconst (C : Cx p R s m args meth c K A H0 cc own nL d) {z : Fin 2} {v : Int64} (hd : decode cc pc = .ok (.lconst z, 1)) (hv : Int64.ofNat (z : Nat) = v) (kk : Go p l e R s m args below meth c K A H0 nL k n Q ws (pc + 1) (lv) (.long v :: st)) : Go p l e R s m args below meth c K A H0 nL k n Q ws (pc) (lv) (st) := fun H locs ls hP hD hS hl => lv_lconst C.1 C.2.1 hd hv (kk H locs ls hP hD hS hl)
theorem Go_iload_n (C : Cx p R s m args meth c K A H0 cc own nL d) {j : Fin 4} {x : Int32} (hd : decode cc pc = .ok (.iload_n j, 1)) (hq : lget lv (j : Nat) = some (.int x)) (kk : Go p l e R s m args below meth c K A H0 nL k n Q ws (pc + 1) (lv) (.int x :: st)) : Go p l e R s m args below meth c K A H0 nL k n Q ws (pc) (lv) (st) := fun H locs ls hP hD hS hl => lv_iload_n C.1 C.2.1 hd rfl (hl.2.2 _ _ hq) (kk H locs ls hP hD hS hl)
theorem Go_iload (C : Cx p R s m args meth c K A H0 cc own nL d) {j : Nat} {x : Int32} (hd : decode cc pc = .ok (.iload j, 2)) (hq : lget lv j = some (.int x)) (kk : Go p l e R s m args below meth c K A H0 nL k n Q ws (pc + 2) (lv) (.int x :: st)) : Go p l e R s m args below meth c K A H0 nL k n Q ws (pc) (lv) (st) := fun H locs ls hP hD hS hl => lv_iload C.1 C.2.1 hd (hl.2.2 _ _ hq) (kk H locs ls hP hD hS hl)
theorem Go_lload_n (C : Cx p R s m args meth c K A H0 cc own nL d) {j : Fin 4} {x : Int64} (hd : decode cc pc = .ok (.lload_n j, 1)) (hq : lget lv (j : Nat) = some (.long x)) (kk : Go p l e R s m args below meth c K A H0 nL k n Q ws (pc + 1) (lv) (.long x :: st)) : Go p l e R s m args below meth c K A H0 nL k n Q ws (pc) (lv) (st) := fun H locs ls hP hD hS hl => lv_lload_n C.1 C.2.1 hd rfl (hl.2.2 _ _ hq) (kk H locs ls hP hD hS hl)
theorem Go_lload (C : Cx p R s m args meth c K A H0 cc own nL d) {j : Nat} {x : Int64} (hd : decode cc pc = .ok (.lload j, 2)) (hq : lget lv j = some (.long x)) (kk : Go p l e R s m args below meth c K A H0 nL k n Q ws (pc + 2) (lv) (.long x :: st)) : Go p l e R s m args below meth c K A H0 nL k n Q ws (pc) (lv) (st) := fun H locs ls hP hD hS hl => lv_lload C.1 C.2.1 hd (hl.2.2 _ _ hq) (kk H locs ls hP hD hS hl)
theorem Go_aload_n (C : Cx p R s m args meth c K A H0 cc own nL d) {j : Fin 4} {x : Nat} (hd : decode cc pc = .ok (.aload_n j, 1)) (hq : lget lv (j : Nat) = some (.ref x)) (kk : Go p l e R s m args below meth c K A H0 nL k n Q ws (pc + 1) (lv) (.ref x :: st)) : Go p l e R s m args below meth c K A H0 nL k n Q ws (pc) (lv) (st) := fun H locs ls hP hD hS hl => lv_aload_n C.1 C.2.1 hd rfl (hl.2.2 _ _ hq) (kk H locs ls hP hD hS hl)
theorem Go_aload (C : Cx p R s m args meth c K A H0 cc own nL d) {j : Nat} {x : Nat} (hd : decode cc pc = .ok (.aload j, 2)) (hq : lget lv j = some (.ref x)) (kk : Go p l e R s m args below meth c K A H0 nL k n Q ws (pc + 2) (lv) (.ref x :: st)) : Go p l e R s m args below meth c K A H0 nL k n Q ws (pc) (lv) (st) := fun H locs ls hP hD hS hl => lv_aload C.1 C.2.1 hd (hl.2.2 _ _ hq) (kk H locs ls hP hD hS hl)
theorem Go_istore_n (C : Cx p R s m args meth c K A H0 cc own nL d) {j : Fin 4} {x : Int32} (hd : decode cc pc = .ok (.istore_n j, 1)) (hn : (j : Nat) < nL) (kk : Go p l e R s m args below meth c K A H0 nL k n Q ws (pc + 1) (lset lv (j : Nat) (.int x)) (st)) : Go p l e R s m args below meth c K A H0 nL k n Q ws (pc) (lv) (.int x :: st) := fun H locs ls hP hD hS hl => lv_istore_n C.1 C.2.1 hd rfl hl.asc hn rfl (fun ls1 h1 => kk H locs ls1 hP hD hS (hl.st1 h1))
theorem Go_istore (C : Cx p R s m args meth c K A H0 cc own nL d) {j : Nat} {x : Int32} (hd : decode cc pc = .ok (.istore j, 2)) (hn : j < nL) (kk : Go p l e R s m args below meth c K A H0 nL k n Q ws (pc + 2) (lset lv j (.int x)) (st)) : Go p l e R s m args below meth c K A H0 nL k n Q ws (pc) (lv) (.int x :: st) := fun H locs ls hP hD hS hl => lv_istore C.1 C.2.1 hd  hl.asc hn rfl (fun ls1 h1 => kk H locs ls1 hP hD hS (hl.st1 h1))
theorem Go_astore_n (C : Cx p R s m args meth c K A H0 cc own nL d) {j : Fin 4} {x : Nat} (hd : decode cc pc = .ok (.astore_n j, 1)) (hn : (j : Nat) < nL) (kk : Go p l e R s m args below meth c K A H0 nL k n Q ws (pc + 1) (lset lv (j : Nat) (.ref x)) (st)) : Go p l e R s m args below meth c K A H0 nL k n Q ws (pc) (lv) (.ref x :: st) := fun H locs ls hP hD hS hl => lv_astore_n C.1 C.2.1 hd rfl hl.asc hn rfl (fun ls1 h1 => kk H locs ls1 hP hD hS (hl.st1 h1))
theorem Go_astore (C : Cx p R s m args meth c K A H0 cc own nL d) {j : Nat} {x : Nat} (hd : decode cc pc = .ok (.astore j, 2)) (hn : j < nL) (kk : Go p l e R s m args below meth c K A H0 nL k n Q ws (pc + 2) (lset lv j (.ref x)) (st)) : Go p l e R s m args below meth c K A H0 nL k n Q ws (pc) (lv) (.ref x :: st) := fun H locs ls hP hD hS hl => lv_astore C.1 C.2.1 hd  hl.asc hn rfl (fun ls1 h1 => kk H locs ls1 hP hD hS (hl.st1 h1))
theorem Go_lstore_n (C : Cx p R s m args meth c K A H0 cc own nL d) {j : Fin 4} {x : Int64} (hd : decode cc pc = .ok (.lstore_n j, 1)) (hn : (j : Nat) + 1 < nL) (kk : Go p l e R s m args below meth c K A H0 nL k n Q ws (pc + 1) (lset2 lv (j : Nat) (.long x)) (st)) : Go p l e R s m args below meth c K A H0 nL k n Q ws (pc) (lv) (.long x :: st) := fun H locs ls hP hD hS hl => lv_lstore_n C.1 C.2.1 hd rfl hl.asc hn rfl (fun ls1 h1 => kk H locs ls1 hP hD hS (hl.st2 h1))
theorem Go_lstore (C : Cx p R s m args meth c K A H0 cc own nL d) {j : Nat} {x : Int64} (hd : decode cc pc = .ok (.lstore j, 2)) (hn : j + 1 < nL) (kk : Go p l e R s m args below meth c K A H0 nL k n Q ws (pc + 2) (lset2 lv j (.long x)) (st)) : Go p l e R s m args below meth c K A H0 nL k n Q ws (pc) (lv) (.long x :: st) := fun H locs ls hP hD hS hl => lv_lstore C.1 C.2.1 hd  hl.asc hn rfl (fun ls1 h1 => kk H locs ls1 hP hD hS (hl.st2 h1))
theorem Go_iinc (C : Cx p R s m args meth c K A H0 cc own nL d) {j : Nat} {z : Int} {x v : Int32} (hd : decode cc pc = .ok (.iinc j z, 3)) (hq : lget lv j = some (.int x)) (hv : x + Int32.ofInt z = v) (kk : Go p l e R s m args below meth c K A H0 nL k n Q ws (pc + 3) (lset lv j (.int v)) (st)) : Go p l e R s m args below meth c K A H0 nL k n Q ws (pc) (lv) (st) := by
  intro H locs ls hP hD hS hl
  obtain ⟨i, hi⟩ := List.getElem?_of_mem (lasc_mem (hl.lt hq) hq)
  exact lv_iinc C.1 C.2.1 hd hl.asc hi hv (hl.lt hq) rfl (fun ls1 h1 => kk H locs ls1 hP hD hS (hl.st1 h1))
theorem Go_iadd (C : Cx p R s m args meth c K A H0 cc own nL d) {x y : Int32} (hd : decode cc pc = .ok (.iadd, 1))  (kk : Go p l e R s m args below meth c K A H0 nL k n Q ws (pc + 1) (lv) (.int (x + y) :: st)) : Go p l e R s m args below meth c K A H0 nL k n Q ws (pc) (lv) (.int y :: .int x :: st) := fun H locs ls hP hD hS hl => lv_iadd C.1 C.2.1 hd  (kk H locs ls hP hD hS hl)
theorem Go_isub (C : Cx p R s m args meth c K A H0 cc own nL d) {x y : Int32} (hd : decode cc pc = .ok (.isub, 1))  (kk : Go p l e R s m args below meth c K A H0 nL k n Q ws (pc + 1) (lv) (.int (x - y) :: st)) : Go p l e R s m args below meth c K A H0 nL k n Q ws (pc) (lv) (.int y :: .int x :: st) := fun H locs ls hP hD hS hl => lv_isub C.1 C.2.1 hd  (kk H locs ls hP hD hS hl)
theorem Go_imul (C : Cx p R s m args meth c K A H0 cc own nL d) {x y : Int32} (hd : decode cc pc = .ok (.imul, 1))  (kk : Go p l e R s m args below meth c K A H0 nL k n Q ws (pc + 1) (lv) (.int (x * y) :: st)) : Go p l e R s m args below meth c K A H0 nL k n Q ws (pc) (lv) (.int y :: .int x :: st) := fun H locs ls hP hD hS hl => lv_imul C.1 C.2.1 hd  (kk H locs ls hP hD hS hl)
theorem Go_iand (C : Cx p R s m args meth c K A H0 cc own nL d) {x y : Int32} (hd : decode cc pc = .ok (.iand, 1))  (kk : Go p l e R s m args below meth c K A H0 nL k n Q ws (pc + 1) (lv) (.int (x &&& y) :: st)) : Go p l e R s m args below meth c K A H0 nL k n Q ws (pc) (lv) (.int y :: .int x :: st) := fun H locs ls hP hD hS hl => lv_iand C.1 C.2.1 hd  (kk H locs ls hP hD hS hl)
theorem Go_ior (C : Cx p R s m args meth c K A H0 cc own nL d) {x y : Int32} (hd : decode cc pc = .ok (.ior, 1))  (kk : Go p l e R s m args below meth c K A H0 nL k n Q ws (pc + 1) (lv) (.int (x ||| y) :: st)) : Go p l e R s m args below meth c K A H0 nL k n Q ws (pc) (lv) (.int y :: .int x :: st) := fun H locs ls hP hD hS hl => lv_ior C.1 C.2.1 hd  (kk H locs ls hP hD hS hl)
theorem Go_ixor (C : Cx p R s m args meth c K A H0 cc own nL d) {x y : Int32} (hd : decode cc pc = .ok (.ixor, 1))  (kk : Go p l e R s m args below meth c K A H0 nL k n Q ws (pc + 1) (lv) (.int (x ^^^ y) :: st)) : Go p l e R s m args below meth c K A H0 nL k n Q ws (pc) (lv) (.int y :: .int x :: st) := fun H locs ls hP hD hS hl => lv_ixor C.1 C.2.1 hd  (kk H locs ls hP hD hS hl)
theorem Go_ishl (C : Cx p R s m args meth c K A H0 cc own nL d) {x y : Int32} (hd : decode cc pc = .ok (.ishl, 1))  (kk : Go p l e R s m args below meth c K A H0 nL k n Q ws (pc + 1) (lv) (.int (x <<< (y &&& 31)) :: st)) : Go p l e R s m args below meth c K A H0 nL k n Q ws (pc) (lv) (.int y :: .int x :: st) := fun H locs ls hP hD hS hl => lv_ishl C.1 C.2.1 hd  (kk H locs ls hP hD hS hl)
theorem Go_ishr (C : Cx p R s m args meth c K A H0 cc own nL d) {x y : Int32} (hd : decode cc pc = .ok (.ishr, 1))  (kk : Go p l e R s m args below meth c K A H0 nL k n Q ws (pc + 1) (lv) (.int (x >>> (y &&& 31)) :: st)) : Go p l e R s m args below meth c K A H0 nL k n Q ws (pc) (lv) (.int y :: .int x :: st) := fun H locs ls hP hD hS hl => lv_ishr C.1 C.2.1 hd  (kk H locs ls hP hD hS hl)
theorem Go_ladd (C : Cx p R s m args meth c K A H0 cc own nL d) {x y : Int64} (hd : decode cc pc = .ok (.ladd, 1))  (kk : Go p l e R s m args below meth c K A H0 nL k n Q ws (pc + 1) (lv) (.long (x + y) :: st)) : Go p l e R s m args below meth c K A H0 nL k n Q ws (pc) (lv) (.long y :: .long x :: st) := fun H locs ls hP hD hS hl => lv_ladd C.1 C.2.1 hd  (kk H locs ls hP hD hS hl)
theorem Go_lsub (C : Cx p R s m args meth c K A H0 cc own nL d) {x y : Int64} (hd : decode cc pc = .ok (.lsub, 1))  (kk : Go p l e R s m args below meth c K A H0 nL k n Q ws (pc + 1) (lv) (.long (x - y) :: st)) : Go p l e R s m args below meth c K A H0 nL k n Q ws (pc) (lv) (.long y :: .long x :: st) := fun H locs ls hP hD hS hl => lv_lsub C.1 C.2.1 hd  (kk H locs ls hP hD hS hl)
theorem Go_lmul (C : Cx p R s m args meth c K A H0 cc own nL d) {x y : Int64} (hd : decode cc pc = .ok (.lmul, 1))  (kk : Go p l e R s m args below meth c K A H0 nL k n Q ws (pc + 1) (lv) (.long (x * y) :: st)) : Go p l e R s m args below meth c K A H0 nL k n Q ws (pc) (lv) (.long y :: .long x :: st) := fun H locs ls hP hD hS hl => lv_lmul C.1 C.2.1 hd  (kk H locs ls hP hD hS hl)
theorem Go_idiv (C : Cx p R s m args meth c K A H0 cc own nL d) {x y : Int32} (hd : decode cc pc = .ok (.idiv, 1)) (hne : ¬ y = 0) (kk : Go p l e R s m args below meth c K A H0 nL k n Q ws (pc + 1) (lv) (.int (x / y) :: st)) : Go p l e R s m args below meth c K A H0 nL k n Q ws (pc) (lv) (.int y :: .int x :: st) := fun H locs ls hP hD hS hl => lv_idiv C.1 C.2.1 hd hne (kk H locs ls hP hD hS hl)
theorem Go_irem (C : Cx p R s m args meth c K A H0 cc own nL d) {x y : Int32} (hd : decode cc pc = .ok (.irem, 1)) (hne : ¬ y = 0) (kk : Go p l e R s m args below meth c K A H0 nL k n Q ws (pc + 1) (lv) (.int (x - x / y * y) :: st)) : Go p l e R s m args below meth c K A H0 nL k n Q ws (pc) (lv) (.int y :: .int x :: st) := fun H locs ls hP hD hS hl => lv_irem C.1 C.2.1 hd hne (kk H locs ls hP hD hS hl)
theorem Go_ldiv (C : Cx p R s m args meth c K A H0 cc own nL d) {x y : Int64} (hd : decode cc pc = .ok (.ldiv, 1)) (hne : ¬ y = 0) (kk : Go p l e R s m args below meth c K A H0 nL k n Q ws (pc + 1) (lv) (.long (x / y) :: st)) : Go p l e R s m args below meth c K A H0 nL k n Q ws (pc) (lv) (.long y :: .long x :: st) := fun H locs ls hP hD hS hl => lv_ldiv C.1 C.2.1 hd hne (kk H locs ls hP hD hS hl)
theorem Go_lrem (C : Cx p R s m args meth c K A H0 cc own nL d) {x y : Int64} (hd : decode cc pc = .ok (.lrem, 1)) (hne : ¬ y = 0) (kk : Go p l e R s m args below meth c K A H0 nL k n Q ws (pc + 1) (lv) (.long (x - x / y * y) :: st)) : Go p l e R s m args below meth c K A H0 nL k n Q ws (pc) (lv) (.long y :: .long x :: st) := fun H locs ls hP hD hS hl => lv_lrem C.1 C.2.1 hd hne (kk H locs ls hP hD hS hl)
theorem Go_i2l (C : Cx p R s m args meth c K A H0 cc own nL d) {x : Int32} (hd : decode cc pc = .ok (.i2l, 1))  (kk : Go p l e R s m args below meth c K A H0 nL k n Q ws (pc + 1) (lv) (.long x.toInt64 :: st)) : Go p l e R s m args below meth c K A H0 nL k n Q ws (pc) (lv) (.int x :: st) := fun H locs ls hP hD hS hl => lv_i2l C.1 C.2.1 hd rfl (kk H locs ls hP hD hS hl)
theorem Go_l2i (C : Cx p R s m args meth c K A H0 cc own nL d) {x : Int64} (hd : decode cc pc = .ok (.l2i, 1))  (kk : Go p l e R s m args below meth c K A H0 nL k n Q ws (pc + 1) (lv) (.int x.toInt32 :: st)) : Go p l e R s m args below meth c K A H0 nL k n Q ws (pc) (lv) (.long x :: st) := fun H locs ls hP hD hS hl => lv_l2i C.1 C.2.1 hd rfl (kk H locs ls hP hD hS hl)
theorem Go_dup (C : Cx p R s m args meth c K A H0 cc own nL d) {x : Value} (hd : decode cc pc = .ok (.dup, 1)) (h1 : x.category = 1) (kk : Go p l e R s m args below meth c K A H0 nL k n Q ws (pc + 1) (lv) (x :: x :: st)) : Go p l e R s m args below meth c K A H0 nL k n Q ws (pc) (lv) (x :: st) := fun H locs ls hP hD hS hl => lv_dup C.1 C.2.1 hd h1 (kk H locs ls hP hD hS hl)
theorem Go_pop (C : Cx p R s m args meth c K A H0 cc own nL d) {x : Value} (hd : decode cc pc = .ok (.pop, 1)) (h1 : x.category = 1) (kk : Go p l e R s m args below meth c K A H0 nL k n Q ws (pc + 1) (lv) (st)) : Go p l e R s m args below meth c K A H0 nL k n Q ws (pc) (lv) (x :: st) := fun H locs ls hP hD hS hl => lv_pop C.1 C.2.1 hd h1 (kk H locs ls hP hD hS hl)
theorem Go_dup2 (C : Cx p R s m args meth c K A H0 cc own nL d) {x y : Value} (hd : decode cc pc = .ok (.dup2, 1)) (h1 : x.category = 1) (h2 : y.category = 1) (kk : Go p l e R s m args below meth c K A H0 nL k n Q ws (pc + 1) (lv) (x :: y :: x :: y :: st)) : Go p l e R s m args below meth c K A H0 nL k n Q ws (pc) (lv) (x :: y :: st) := fun H locs ls hP hD hS hl => lv_dup2_11 C.1 C.2.1 hd h1 h2 (kk H locs ls hP hD hS hl)
theorem Go_lcmp (C : Cx p R s m args meth c K A H0 cc own nL d) {x y : Int64} (hd : decode cc pc = .ok (.lcmp, 1)) (kk : Go p l e R s m args below meth c K A H0 nL k n Q ws (pc + 1) (lv) (.int (lg_cmp x y) :: st)) : Go p l e R s m args below meth c K A H0 nL k n Q ws (pc) (lv) (.long y :: .long x :: st) := fun H locs ls hP hD hS hl => W.lcmp C.1 C.2.1 hd (kk H locs ls hP hD hS hl)
theorem Go_goto (C : Cx p R s m args meth c K A H0 cc own nL d) {off : Int} {tgt : Nat} (hd : decode cc pc = .ok (.goto off, 3)) (ht : (pc : Int) + off = (tgt : Int)) (kk : Go p l e R s m args below meth c K A H0 nL k n Q ws (tgt) (lv) (st)) : Go p l e R s m args below meth c K A H0 nL k n Q ws (pc) (lv) (st) := fun H locs ls hP hD hS hl => lv_goto C.1 C.2.1 hd ht (kk H locs ls hP hD hS hl)
theorem Go_if_eq (C : Cx p R s m args meth c K A H0 cc own nL d) {x : Int32} {off : Int} {tgt : Nat} (hd : decode cc pc = .ok (.ifCond .eq off, 3)) (ht : (pc : Int) + off = (tgt : Int)) (kt : x = 0 → Go p l e R s m args below meth c K A H0 nL k n Q ws (tgt) (lv) (st)) (kf : ¬ x = 0 → Go p l e R s m args below meth c K A H0 nL k n Q ws (pc + 3) (lv) (st)) : Go p l e R s m args below meth c K A H0 nL k n Q ws (pc) (lv) (.int x :: st) := fun H locs ls hP hD hS hl => lv_if_eq C.1 C.2.1 hd ht (fun h => kt h H locs ls hP hD hS hl) (fun h => kf h H locs ls hP hD hS hl)
theorem Go_icmp_eq (C : Cx p R s m args meth c K A H0 cc own nL d) {x y : Int32} {off : Int} {tgt : Nat} (hd : decode cc pc = .ok (.if_icmp .eq off, 3)) (ht : (pc : Int) + off = (tgt : Int)) (kt : x = y → Go p l e R s m args below meth c K A H0 nL k n Q ws (tgt) (lv) (st)) (kf : ¬ x = y → Go p l e R s m args below meth c K A H0 nL k n Q ws (pc + 3) (lv) (st)) : Go p l e R s m args below meth c K A H0 nL k n Q ws (pc) (lv) (.int y :: .int x :: st) := fun H locs ls hP hD hS hl => lv_icmp_eq C.1 C.2.1 hd ht (fun h => kt h H locs ls hP hD hS hl) (fun h => kf h H locs ls hP hD hS hl)
theorem Go_if_lt (C : Cx p R s m args meth c K A H0 cc own nL d) {x : Int32} {off : Int} {tgt : Nat} (hd : decode cc pc = .ok (.ifCond .lt off, 3)) (ht : (pc : Int) + off = (tgt : Int)) (kt : x < 0 → Go p l e R s m args below meth c K A H0 nL k n Q ws (tgt) (lv) (st)) (kf : ¬ x < 0 → Go p l e R s m args below meth c K A H0 nL k n Q ws (pc + 3) (lv) (st)) : Go p l e R s m args below meth c K A H0 nL k n Q ws (pc) (lv) (.int x :: st) := fun H locs ls hP hD hS hl => lv_if_lt C.1 C.2.1 hd ht (fun h => kt h H locs ls hP hD hS hl) (fun h => kf h H locs ls hP hD hS hl)
theorem Go_icmp_lt (C : Cx p R s m args meth c K A H0 cc own nL d) {x y : Int32} {off : Int} {tgt : Nat} (hd : decode cc pc = .ok (.if_icmp .lt off, 3)) (ht : (pc : Int) + off = (tgt : Int)) (kt : x < y → Go p l e R s m args below meth c K A H0 nL k n Q ws (tgt) (lv) (st)) (kf : ¬ x < y → Go p l e R s m args below meth c K A H0 nL k n Q ws (pc + 3) (lv) (st)) : Go p l e R s m args below meth c K A H0 nL k n Q ws (pc) (lv) (.int y :: .int x :: st) := fun H locs ls hP hD hS hl => lv_icmp_lt C.1 C.2.1 hd ht (fun h => kt h H locs ls hP hD hS hl) (fun h => kf h H locs ls hP hD hS hl)
theorem Go_if_ge (C : Cx p R s m args meth c K A H0 cc own nL d) {x : Int32} {off : Int} {tgt : Nat} (hd : decode cc pc = .ok (.ifCond .ge off, 3)) (ht : (pc : Int) + off = (tgt : Int)) (kt : 0 ≤ x → Go p l e R s m args below meth c K A H0 nL k n Q ws (tgt) (lv) (st)) (kf : ¬ 0 ≤ x → Go p l e R s m args below meth c K A H0 nL k n Q ws (pc + 3) (lv) (st)) : Go p l e R s m args below meth c K A H0 nL k n Q ws (pc) (lv) (.int x :: st) := fun H locs ls hP hD hS hl => lv_if_ge C.1 C.2.1 hd ht (fun h => kt h H locs ls hP hD hS hl) (fun h => kf h H locs ls hP hD hS hl)
theorem Go_icmp_ge (C : Cx p R s m args meth c K A H0 cc own nL d) {x y : Int32} {off : Int} {tgt : Nat} (hd : decode cc pc = .ok (.if_icmp .ge off, 3)) (ht : (pc : Int) + off = (tgt : Int)) (kt : y ≤ x → Go p l e R s m args below meth c K A H0 nL k n Q ws (tgt) (lv) (st)) (kf : ¬ y ≤ x → Go p l e R s m args below meth c K A H0 nL k n Q ws (pc + 3) (lv) (st)) : Go p l e R s m args below meth c K A H0 nL k n Q ws (pc) (lv) (.int y :: .int x :: st) := fun H locs ls hP hD hS hl => lv_icmp_ge C.1 C.2.1 hd ht (fun h => kt h H locs ls hP hD hS hl) (fun h => kf h H locs ls hP hD hS hl)
theorem Go_if_gt (C : Cx p R s m args meth c K A H0 cc own nL d) {x : Int32} {off : Int} {tgt : Nat} (hd : decode cc pc = .ok (.ifCond .gt off, 3)) (ht : (pc : Int) + off = (tgt : Int)) (kt : 0 < x → Go p l e R s m args below meth c K A H0 nL k n Q ws (tgt) (lv) (st)) (kf : ¬ 0 < x → Go p l e R s m args below meth c K A H0 nL k n Q ws (pc + 3) (lv) (st)) : Go p l e R s m args below meth c K A H0 nL k n Q ws (pc) (lv) (.int x :: st) := fun H locs ls hP hD hS hl => lv_if_gt C.1 C.2.1 hd ht (fun h => kt h H locs ls hP hD hS hl) (fun h => kf h H locs ls hP hD hS hl)
theorem Go_icmp_gt (C : Cx p R s m args meth c K A H0 cc own nL d) {x y : Int32} {off : Int} {tgt : Nat} (hd : decode cc pc = .ok (.if_icmp .gt off, 3)) (ht : (pc : Int) + off = (tgt : Int)) (kt : y < x → Go p l e R s m args below meth c K A H0 nL k n Q ws (tgt) (lv) (st)) (kf : ¬ y < x → Go p l e R s m args below meth c K A H0 nL k n Q ws (pc + 3) (lv) (st)) : Go p l e R s m args below meth c K A H0 nL k n Q ws (pc) (lv) (.int y :: .int x :: st) := fun H locs ls hP hD hS hl => lv_icmp_gt C.1 C.2.1 hd ht (fun h => kt h H locs ls hP hD hS hl) (fun h => kf h H locs ls hP hD hS hl)
theorem Go_if_le (C : Cx p R s m args meth c K A H0 cc own nL d) {x : Int32} {off : Int} {tgt : Nat} (hd : decode cc pc = .ok (.ifCond .le off, 3)) (ht : (pc : Int) + off = (tgt : Int)) (kt : x ≤ 0 → Go p l e R s m args below meth c K A H0 nL k n Q ws (tgt) (lv) (st)) (kf : ¬ x ≤ 0 → Go p l e R s m args below meth c K A H0 nL k n Q ws (pc + 3) (lv) (st)) : Go p l e R s m args below meth c K A H0 nL k n Q ws (pc) (lv) (.int x :: st) := fun H locs ls hP hD hS hl => lv_if_le C.1 C.2.1 hd ht (fun h => kt h H locs ls hP hD hS hl) (fun h => kf h H locs ls hP hD hS hl)
theorem Go_icmp_le (C : Cx p R s m args meth c K A H0 cc own nL d) {x y : Int32} {off : Int} {tgt : Nat} (hd : decode cc pc = .ok (.if_icmp .le off, 3)) (ht : (pc : Int) + off = (tgt : Int)) (kt : x ≤ y → Go p l e R s m args below meth c K A H0 nL k n Q ws (tgt) (lv) (st)) (kf : ¬ x ≤ y → Go p l e R s m args below meth c K A H0 nL k n Q ws (pc + 3) (lv) (st)) : Go p l e R s m args below meth c K A H0 nL k n Q ws (pc) (lv) (.int y :: .int x :: st) := fun H locs ls hP hD hS hl => lv_icmp_le C.1 C.2.1 hd ht (fun h => kt h H locs ls hP hD hS hl) (fun h => kf h H locs ls hP hD hS hl)
theorem Go_if_ne (C : Cx p R s m args meth c K A H0 cc own nL d) {x : Int32} {off : Int} {tgt : Nat} (hd : decode cc pc = .ok (.ifCond .ne off, 3)) (ht : (pc : Int) + off = (tgt : Int)) (kt : x = 0 → Go p l e R s m args below meth c K A H0 nL k n Q ws (pc + 3) (lv) (st)) (kf : ¬ x = 0 → Go p l e R s m args below meth c K A H0 nL k n Q ws (tgt) (lv) (st)) : Go p l e R s m args below meth c K A H0 nL k n Q ws (pc) (lv) (.int x :: st) := fun H locs ls hP hD hS hl => lv_if_ne C.1 C.2.1 hd ht (fun h => kf h H locs ls hP hD hS hl) (fun h => kt h H locs ls hP hD hS hl)
theorem Go_icmp_ne (C : Cx p R s m args meth c K A H0 cc own nL d) {x y : Int32} {off : Int} {tgt : Nat} (hd : decode cc pc = .ok (.if_icmp .ne off, 3)) (ht : (pc : Int) + off = (tgt : Int)) (kt : x = y → Go p l e R s m args below meth c K A H0 nL k n Q ws (pc + 3) (lv) (st)) (kf : ¬ x = y → Go p l e R s m args below meth c K A H0 nL k n Q ws (tgt) (lv) (st)) : Go p l e R s m args below meth c K A H0 nL k n Q ws (pc) (lv) (.int y :: .int x :: st) := fun H locs ls hP hD hS hl => lv_icmp_ne C.1 C.2.1 hd ht (fun h => kf h H locs ls hP hD hS hl) (fun h => kt h H locs ls hP hD hS hl)
theorem Go_ldc (C : Cx p R s m args meth c K A H0 cc own nL d) {i : Nat} {v : Int32} (hw : Cond.constant own i v ∈ lw_g) (hd : decode cc pc = .ok (.ldc i, 2)) (kk : Go p l e R s m args below meth c K A H0 nL k n Q ws (pc + 2) (lv) (.int v :: st)) : Go p l e R s m args below meth c K A H0 nL k n Q ws (pc) (lv) (st) := fun H locs ls hP hD hS hl => lv_ldc C.1 C.2.1 C.2.2.2.1 (C.2.2.2.2.1 _ hw) hd (kk H locs ls hP hD hS hl)
theorem Go_ldc2 (C : Cx p R s m args meth c K A H0 cc own nL d) {i : Nat} {v : Int64} (hw : Cond.constantLong own i v ∈ lw_g) (hd : decode cc pc = .ok (.ldc2_w i, 3)) (kk : Go p l e R s m args below meth c K A H0 nL k n Q ws (pc + 3) (lv) (.long v :: st)) : Go p l e R s m args below meth c K A H0 nL k n Q ws (pc) (lv) (st) := fun H locs ls hP hD hS hl => lv_ldc2 C.1 C.2.1 C.2.2.2.1 (C.2.2.2.2.1 _ hw) hd (kk H locs ls hP hD hS hl)
theorem Go_tabIn (C : Cx p R s m args meth c K A H0 cc own nL d) {x v : Int32} {dflt lo hi : Int} {offs : Array Int} {len : Nat} {off : Int} {tgt : Nat} (hd : decode cc pc = .ok (.tableswitch dflt lo hi offs, len)) (hx : x = v) (h1 : ¬ v.toInt < lo) (h2 : ¬ hi < v.toInt) (ho : offs[(v.toInt - lo).toNat]? = some off) (ht : (pc : Int) + off = (tgt : Int)) (kk : Go p l e R s m args below meth c K A H0 nL k n Q ws (tgt) (lv) (st)) : Go p l e R s m args below meth c K A H0 nL k n Q ws (pc) (lv) (.int x :: st) := fun H locs ls hP hD hS hl => lv_tableIn C.1 C.2.1 hd (by rw [hx]; exact h1) (by rw [hx]; exact h2) (by rw [hx]; exact ho) ht (kk H locs ls hP hD hS hl)
theorem Go_tabOut (C : Cx p R s m args meth c K A H0 cc own nL d) {x : Int32} {dflt lo hi : Int} {offs : Array Int} {len : Nat} {tgt : Nat} (hd : decode cc pc = .ok (.tableswitch dflt lo hi offs, len)) (h : x.toInt < lo ∨ hi < x.toInt) (ht : (pc : Int) + dflt = (tgt : Int)) (kk : Go p l e R s m args below meth c K A H0 nL k n Q ws (tgt) (lv) (st)) : Go p l e R s m args below meth c K A H0 nL k n Q ws (pc) (lv) (.int x :: st) := fun H locs ls hP hD hS hl => lv_tableOut C.1 C.2.1 hd h ht (kk H locs ls hP hD hS hl)
theorem Go_lookup (C : Cx p R s m args meth c K A H0 cc own nL d) {x : Int32} {dflt : Int} {ps : Array (Int × Int)} {len : Nat} {off : Int} {tgt : Nat} (hd : decode cc pc = .ok (.lookupswitch dflt ps, len)) (hp : (ps.toList.zip (ps.toList.drop 1)).all (fun (a, next) => a.1 < next.1) = true) (ho : Op.lookupswitch.offset ps.toList dflt x.toInt = off) (ht : (pc : Int) + off = (tgt : Int)) (kk : Go p l e R s m args below meth c K A H0 nL k n Q ws (tgt) (lv) (st)) : Go p l e R s m args below meth c K A H0 nL k n Q ws (pc) (lv) (.int x :: st) := fun H locs ls hP hD hS hl => lv_lookup C.1 C.2.1 hd hp ho ht (kk H locs ls hP hD hS hl)
theorem Go_mask (bs : List Bool) (kk : Go p l e R s m args below meth c K A H0 nL k n Q ws (pc) (lmask bs lv) (st)) : Go p l e R s m args below meth c K A H0 nL k n Q ws (pc) (lv) (st) := fun H locs ls hP hD hS hl => kk H locs ls hP hD hS ⟨hl.1, hl.2.1, fun i v h => hl.2.2 i v (lmask_get bs lv i v h)⟩
theorem Go_get (C : Cx p R s m args meth c K A H0 cc own nL d) {a ci : Nat} {fs : List Value} {Cn : String} {T : u_T} {N i : Nat} {v : Value} (q0 : Nat) (j : Nat) (he : ws[q0]? = some (a, .inr (ci, fs))) (hc : vwCl[ci]? = some (Cn, T, N)) (hin : ∀ w ∈ u_ws Cn T N, w ∈ lw_g) (hk : j < N) (hw : Cond.fieldLink own i (T j).1 (T j).2.1 (T j).2.2.1 ∈ lw_g) (hv : fs[j]? = some v) (hd : decode cc pc = .ok (.getfield i, 3)) (kk : Go p l e R s m args below meth c K A H0 nL k n Q ws (pc + 3) (lv) (v :: st)) : Go p l e R s m args below meth c K A H0 nL k n Q ws (pc) (lv) (.ref a :: st) := fun H locs ls hP hD hS hl => va_get C.1 C.2.1 C.2.2.2.2.1 hin C.2.2.2.1 C.2.2.2.2.2.1 hP q0 he hc j hk (C.2.2.2.2.1 _ hw) (fun _ h => h) hv hd (kk H locs ls hP hD hS hl)
theorem Go_put (C : Cx p R s m args meth c K A H0 cc own nL d) {a ci : Nat} {fs : List Value} {Cn : String} {T : u_T} {N i : Nat} {x : Int32} {ws1 : va_W} (q0 : Nat) (j : Nat) (ty0 : Nat → FieldType) (hty : ∀ q, q < N → parseFieldDescriptor (T q).2.2.1 = some (ty0 q)) (hnm : ∀ a, a < N → ∀ b, b < N → a ≠ b → (T a).2.1 ≠ (T b).2.1) (he : ws[q0]? = some (a, .inr (ci, fs))) (hc : vwCl[ci]? = some (Cn, T, N)) (hin : ∀ w ∈ u_ws Cn T N, w ∈ lw_g) (hk : j < N) (hw : Cond.fieldLink own i (T j).1 (T j).2.1 (T j).2.2.1 ∈ lw_g) (hfin : (T j).2.2.2 = false) (hdd : ty0 j = .int) (hl : j < fs.length) (hd : decode cc pc = .ok (.putfield i, 3)) (hws : ws.set q0 (a, .inr (ci, fs.set j (.int x))) = ws1) (kk : Go p l e R s m args below meth c K A H0 nL k n Q ws1 (pc + 3) (lv) (st)) : Go p l e R s m args below meth c K A H0 nL k n Q ws (pc) (lv) (.int x :: .ref a :: st) := by
  intro H locs ls hP hD hS hll
  subst hws
  exact va_put (ty := .int) C.1 C.2.1 C.2.2.2.2.1 hin ty0 hty hnm C.2.2.2.1 C.2.2.2.2.2.1 hP hD hS q0 he hc j hk (C.2.2.2.2.1 _ hw) (fun _ h => h) hfin (by rw [← hdd]; exact hty j hk) rfl rfl hl hd (fun H1 locs1 p1 d1 s1 => kk H1 locs1 ls p1 d1 s1 hll)
theorem Go_iald (C : Cx p R s m args meth c K A H0 cc own nL d) {a N : Nat} {f : Nat → Int32} {i : Int32} (q0 : Nat) (he : ws[q0]? = some (a, .inl (K.2.1, N, .inl f))) (hb : vp_in i N) (hd : decode cc pc = .ok (.iaload, 1)) (kk : Go p l e R s m args below meth c K A H0 nL k n Q ws (pc + 1) (lv) (.int (f i.toNatClampNeg) :: st)) : Go p l e R s m args below meth c K A H0 nL k n Q ws (pc) (lv) (.int i :: .ref a :: st) := fun H locs ls hP hD hS hl => va_iald C.1 C.2.1 C.2.2.2.2.2.1 hP q0 0 he rfl hb hd (kk H locs ls hP hD hS hl)
theorem Go_iast (C : Cx p R s m args meth c K A H0 cc own nL d) {a N : Nat} {f : Nat → Int32} {i x : Int32} {ws1 : va_W} (q0 : Nat) (he : ws[q0]? = some (a, .inl (K.2.1, N, .inl f))) (hb : vp_in i N) (hd : decode cc pc = .ok (.iastore, 1)) (hws : ws.set q0 (a, .inl (K.2.1, N, .inl (upd f i.toNatClampNeg x))) = ws1) (kk : Go p l e R s m args below meth c K A H0 nL k n Q ws1 (pc + 1) (lv) (st)) : Go p l e R s m args below meth c K A H0 nL k n Q ws (pc) (lv) (.int x :: .int i :: .ref a :: st) := by
  intro H locs ls hP hD hS hll
  subst hws
  exact va_iast C.1 C.2.1 C.2.2.2.2.2.1 hP hD hS q0 0 he rfl hb hd (fun H1 locs1 p1 d1 s1 => kk H1 locs1 ls p1 d1 s1 hll)
theorem Go_alen (C : Cx p R s m args meth c K A H0 cc own nL d) {a N : Nat} {f : Nat → Int32} (q0 : Nat) (he : ws[q0]? = some (a, .inl (K.2.1, N, .inl f))) (hd : decode cc pc = .ok (.arraylength, 1)) (kk : Go p l e R s m args below meth c K A H0 nL k n Q ws (pc + 1) (lv) (.int (nI N) :: st)) : Go p l e R s m args below meth c K A H0 nL k n Q ws (pc) (lv) (.ref a :: st) := fun H locs ls hP hD hS hl => va_alen (ty := .int) C.1 C.2.1 C.2.2.2.2.2.1 hP q0 0 he rfl rfl hd (kk H locs ls hP hD hS hl)
theorem Go_aald (C : Cx p R s m args meth c K A H0 cc own nL d) {a N b : Nat} {f : Nat → Option Nat} {i : Int32} (q0 : Nat) (he : ws[q0]? = some (a, .inl (K.2.2, N, .inr (.inr (.inr (.inr f)))))) (hb : vp_in i N) (hf : f i.toNatClampNeg = some b) (hd : decode cc pc = .ok (.aaload, 1)) (kk : Go p l e R s m args below meth c K A H0 nL k n Q ws (pc + 1) (lv) (.ref b :: st)) : Go p l e R s m args below meth c K A H0 nL k n Q ws (pc) (lv) (.int i :: .ref a :: st) := by
  intro H locs ls hP hD hS hll
  refine va_aldq C.1 C.2.1 C.2.2.2.2.2.1 hP q0 1 he rfl hb hd ?_
  rw [hf]
  exact kk H locs ls hP hD hS hll
theorem Go_mmax (C : Cx p R s m args meth c K A H0 cc own nL d) {x y : Int32} {i : Nat} (hw : Cond.methodLink own i Lib.Math.max.name ∈ lw_g) (hR : 1 ≤ d) (hst : (st.map fun v => v.category).sum + 13 ≤ 37) (hk : k ≤ R.cells) (hn : n ≤ R.slots) (hd : decode cc pc = .ok (.invokestatic i, 3)) (kk : Go p l e R s m args below meth c K A H0 nL k n Q ws (pc + 3) (lv) (.int (if x < y then y else x) :: st)) : Go p l e R s m args below meth c K A H0 nL k n Q ws (pc) (lv) (.int y :: .int x :: st) := fun H locs ls hP hD hS hl => va_mmax C.1 C.2.1 (by rw [hl.1]; exact C.2.2.1) C.2.2.2.1 (C.2.2.2.2.1 _ hw) (C.2.2.2.2.1 _ mwx_static_max) (C.2.2.2.2.1 _ mwx_init_Math) (C.2.2.2.2.1 _ mwx_code_max) (Nat.le_trans hR C.2.2.2.2.2.2.2.1) (Nat.le_trans hst (Nat.le_trans (by omega) C.2.2.2.2.2.2.2.2)) hk hn hd (kk H locs ls hP hD hS hl)
theorem Go_mmin (C : Cx p R s m args meth c K A H0 cc own nL d) {x y : Int32} {i : Nat} (hw : Cond.methodLink own i Lib.Math.min.name ∈ lw_g) (hR : 1 ≤ d) (hst : (st.map fun v => v.category).sum + 13 ≤ 37) (hk : k ≤ R.cells) (hn : n ≤ R.slots) (hd : decode cc pc = .ok (.invokestatic i, 3)) (kk : Go p l e R s m args below meth c K A H0 nL k n Q ws (pc + 3) (lv) (.int (if y < x then y else x) :: st)) : Go p l e R s m args below meth c K A H0 nL k n Q ws (pc) (lv) (.int y :: .int x :: st) := fun H locs ls hP hD hS hl => va_mmin C.1 C.2.1 (by rw [hl.1]; exact C.2.2.1) C.2.2.2.1 (C.2.2.2.2.1 _ hw) (C.2.2.2.2.1 _ mwx_static_min) (C.2.2.2.2.1 _ mwx_init_Math) (C.2.2.2.2.1 _ mwx_code_min) (Nat.le_trans hR C.2.2.2.2.2.2.2.1) (Nat.le_trans hst (Nat.le_trans (by omega) C.2.2.2.2.2.2.2.2)) hk hn hd (kk H locs ls hP hD hS hl)
theorem Go_mabs (C : Cx p R s m args meth c K A H0 cc own nL d) {x : Int32} {i : Nat} (hw : Cond.methodLink own i Lib.Math.abs.name ∈ lw_g) (hR : 1 ≤ d) (hst : (st.map fun v => v.category).sum + 13 ≤ 37) (hk : k ≤ R.cells) (hn : n ≤ R.slots) (hd : decode cc pc = .ok (.invokestatic i, 3)) (kk : Go p l e R s m args below meth c K A H0 nL k n Q ws (pc + 3) (lv) (.int (if 0 ≤ x then x else 0 - x) :: st)) : Go p l e R s m args below meth c K A H0 nL k n Q ws (pc) (lv) (.int x :: st) := fun H locs ls hP hD hS hl => va_mabs C.1 C.2.1 (by rw [hl.1]; exact C.2.2.1) C.2.2.2.1 (C.2.2.2.2.1 _ hw) (C.2.2.2.2.1 _ mwx_static_abs) (C.2.2.2.2.1 _ mwx_init_Math) (C.2.2.2.2.1 _ mwx_code_abs) (Nat.le_trans hR C.2.2.2.2.2.2.2.1) (Nat.le_trans hst (Nat.le_trans (by omega) C.2.2.2.2.2.2.2.2)) hk hn hd (kk H locs ls hP hD hS hl)
theorem Go_copyi (C : Cx p R s m args meth c K A H0 cc own nL d) {a0 a n0 n1 : Nat} {f g : Nat → Int32} {i : Nat} {ws1 : va_W} {sp dp nn : Int32} (q0 q1 : Nat) (hw : Cond.methodLink own i arraycopyName ∈ lw_g) (ha0 : ws[q0]? = some (a0, .inl (K.2.1, n0, .inl f))) (ha1 : ws[q1]? = some (a, .inl (K.2.1, n1, .inl g))) (h1 : ¬ sp < 0) (h2 : ¬ dp < 0) (h3 : ¬ nn < 0) (h4 : sp.toNatClampNeg + nn.toNatClampNeg ≤ n0) (h5 : dp.toNatClampNeg + nn.toNatClampNeg ≤ n1) (hR : 1 ≤ d) (hst : (st.map fun v => v.category).sum + (nativeFrameWords "java/lang/System" "arraycopy" 5 + 11) ≤ 37) (hd : decode cc pc = .ok (.invokestatic i, 3)) (hws : ws.set q1 (a, .inl (K.2.1, n1, .inl (va_cpy f g sp.toNatClampNeg dp.toNatClampNeg nn.toNatClampNeg))) = ws1) (kk : Go p l e R s m args below meth c K A H0 nL k n Q ws1 (pc + 3) (lv) (st)) : Go p l e R s m args below meth c K A H0 nL k n Q ws (pc) (lv) (.int nn :: .int dp :: .ref a :: .int sp :: .ref a0 :: st) := by
  intro H locs ls hP hD hS hll
  subst hws
  exact va_copyi (ty := .int) C.1 C.2.1 (by rw [hll.1]; exact C.2.2.1) C.2.2.2.1 (C.2.2.2.2.1 _ hw) (C.2.2.2.2.1 _ mwx_native_copy) (C.2.2.2.2.1 _ mwx_static_copy) (C.2.2.2.2.1 _ mwx_init_System) C.2.2.2.2.2.1 hP hD hS q0 q1 0 0 ha0 ha1 rfl rfl rfl h1 h2 h3 h4 h5 (fun _ _ => rfl) (Nat.le_trans hR C.2.2.2.2.2.2.2.1) (Nat.le_trans hst (Nat.le_trans (by omega) C.2.2.2.2.2.2.2.2)) hd (fun H1 locs1 p1 d1 s1 => kk H1 locs1 ls p1 d1 s1 hll)
end GO
def inW (wc : va_W) (q : Nat) : Prop := ∃ (k : Nat) (e : va_E), wc[k]? = some (q, e)
def CtQ (K : KK) (wc : va_W) (r : Option Value) (wc' : va_W) : Array Value → State → Outcome → State → Prop := fun _ st oc t => (oc = .returned r ∧ va_P K.1 vwCl wc' t.heap) ∧ va_F (inW wc) st t
def CtP (K : KK) (wc : va_W) (U : State) : Prop := va_P K.1 vwCl wc U.heap ∧ va_K K.1 vwCl (ktys K) U ∧ va_D (fun _ => True) wc
def Ct (l : Launch) (K : KK) (y : MethodName) (cc : ByteArray) (mL : Nat) (ret : Option FieldType) (d : Nat) (as : List Value) (wc : va_W) (r : Option Value) (wc' : va_W) : Prop :=
  Met l y (.code y cc mL ret :: lw_g) (rmc d 0 0) (va_Pc as (CtP K wc)) (CtQ K wc r wc') 0 0 (inW wc)
theorem lw_good : ∀ w ∈ lw_g, goodWord w = true := fun _ h => (List.mem_filter.mp h).2
theorem gd_in {y : MethodName} {cc : ByteArray} {mL : Nat} {ret : Option FieldType} (h : Cond.code y cc mL ret ∈ lw_g) : GoodIn lw_g (.code y cc mL ret :: lw_g) := by
  intro w hw
  rcases List.mem_cons.mp hw with rfl | hw
  · exact ⟨h, good_of_word (lw_good _ h)⟩
  · exact ⟨hw, good_of_word (lw_good _ hw)⟩
/-- what a callee's name needs in the tables: an object's method; a static one -/
def CalV (y : MethodName) (cc : ByteArray) (mL : Nat) (ret : Option FieldType) (na : Nat) : Prop := Cond.code y cc mL ret ∈ lw_g ∧ Cond.initialized y.cls ∈ lw_g ∧ Cond.instanceMethod y ∈ lw_g ∧ Cond.selects y.cls y y ∈ lw_g ∧ (y.cls ≠ "java/lang/invoke/MethodHandle" ∧ y.cls ≠ "java/lang/invoke/VarHandle" ∧ (parseMethodDescriptor y.desc).map (fun d => d.parameters.length) = some na) ∧ mL ≤ 18
def CalS (y : MethodName) (cc : ByteArray) (mL : Nat) (ret : Option FieldType) (na : Nat) : Prop := Cond.code y cc mL ret ∈ lw_g ∧ Cond.initialized y.cls ∈ lw_g ∧ Cond.static y ∈ lw_g ∧ (y.cls ≠ "java/lang/invoke/MethodHandle" ∧ y.cls ≠ "java/lang/invoke/VarHandle" ∧ (parseMethodDescriptor y.desc).map (fun d => d.parameters.length) = some na) ∧ mL ≤ 18
def Wr (ws : va_W) (is : List Nat) (wc1 ws1 : va_W) : Prop := ∃ (js : List Nat) (N : Nat), is.map (fun i => ws1[i]?) = wc1.map some ∧ js.map (fun i => ws1[i]?) = js.map (fun i => ws[i]?) ∧ ws1.length = N ∧ ∀ i, i < N → i ∈ is ∨ i ∈ js
theorem Wr_same {ws wc : va_W} {is : List Nat} (h : is.map (fun i => ws[i]?) = wc.map some) : Wr ws is wc ws := ⟨List.range ws.length, ws.length, h, rfl, rfl, fun i hi => Or.inr (List.mem_range.mpr hi)⟩
theorem Wr_get {ws wc1 ws1 : va_W} {is : List Nat} (h : Wr ws is wc1 ws1) {k : Nat} {q : Nat × va_E} (hk : ws1[k]? = some q) : (∃ j : Nat, is[j]? = some k ∧ wc1[j]? = some q) ∨ (ws[k]? = some q ∧ k ∉ is) := by
  obtain ⟨js, N, h1, h2, h3, h4⟩ := h
  by_cases hi : k ∈ is
  · obtain ⟨j, hj⟩ := List.getElem?_of_mem hi
    have h5 : (wc1.map some)[j]? = some (ws1[k]?) := by rw [← h1, List.getElem?_map, hj]; rfl
    rw [List.getElem?_map, hk] at h5
    cases hq : wc1[j]? with
    | none => rw [hq] at h5; cases h5
    | some q1 =>
      rw [hq] at h5
      have h6 : some (some q1) = some (some q) := h5
      cases h6
      exact Or.inl ⟨j, hj, hq⟩
  · have hkN : k < N := by rw [← h3]; exact (List.getElem?_eq_some_iff.mp hk).1
    rcases h4 k hkN with h5 | h5
    · exact absurd h5 hi
    · obtain ⟨j, hj⟩ := List.getElem?_of_mem h5
      have h6 : (js.map (fun i => ws1[i]?))[j]? = some (ws1[k]?) := by rw [List.getElem?_map, hj]; rfl
      rw [h2, List.getElem?_map, hj] at h6
      have h7 : some (ws[k]?) = some (ws1[k]?) := h6
      exact Or.inr ⟨(Option.some.inj h7).trans hk, hi⟩
theorem wis {ws wc : va_W} {is : List Nat} (his : is.map (fun i => ws[i]?) = wc.map some) {j i : Nat} (hj : is[j]? = some i) : ∃ q, wc[j]? = some q ∧ ws[i]? = some q := by
  have h1 : (wc.map some)[j]? = some (ws[i]?) := by rw [← his, List.getElem?_map, hj]; rfl
  rw [List.getElem?_map] at h1
  cases hq : wc[j]? with
  | none => rw [hq] at h1; cases h1
  | some q => rw [hq] at h1; exact ⟨q, rfl, (Option.some.inj h1).symm⟩
theorem wis' {ws wc : va_W} {is : List Nat} (his : is.map (fun i => ws[i]?) = wc.map some) {j : Nat} {q : Nat × va_E} (hj : wc[j]? = some q) : ∃ i, is[j]? = some i ∧ ws[i]? = some q := by
  have h1 : (is.map (fun i => ws[i]?))[j]? = some (some q) := by rw [his, List.getElem?_map, hj]; rfl
  rw [List.getElem?_map] at h1
  cases hi : is[j]? with
  | none => rw [hi] at h1; cases h1
  | some i => rw [hi] at h1; exact ⟨i, rfl, Option.some.inj h1⟩
theorem wfst {w w1 : va_W} (h : w1.map (fun q => q.1) = w.map (fun q => q.1)) {j : Nat} {q : Nat × va_E} (hj : w1[j]? = some q) : ∃ q0, w[j]? = some q0 ∧ q0.1 = q.1 := by
  have h1 : (w.map (fun q => q.1))[j]? = some q.1 := by rw [← h, List.getElem?_map, hj]; rfl
  rw [List.getElem?_map] at h1
  cases hi : w[j]? with
  | none => rw [hi] at h1; cases h1
  | some q0 => rw [hi] at h1; exact ⟨q0, rfl, Option.some.inj h1⟩
section GOC
variable {p : Program} {l : Launch} {e : Env} {R : Room} {s : State} {m : MethodId} {args : Array Value} {below : List Frame} {meth : Method} {c : Code} {K : KK} {A : Nat → Prop} {H0 : Heap} {cc : ByteArray} {own : String} {nL d k n : Nat} {Q : State → Prop} {ws : va_W} {pc : Nat} {lv : List (Option Value)} {st : List Value}
theorem Go_run {ws1 wc wc1 : va_W} {r : Option Value} {rest : List Value} {arr : Array Value} (is : List Nat)
    (hr : ∀ (H : Heap) (locs : List Loc) (ls : Array Slot), va_P K.1 vwCl ws H → va_D A ws → va_S A H0 H locs → lh ls nL lv → va_Run p l e R s m args below meth c H locs k n 0 0 (F0 m pc ls st) rest (CtQ K wc r wc1 arr) (inW wc))
    (his : is.map (fun i => ws[i]?) = wc.map some) (hf : wc1.map (fun q => q.1) = wc.map (fun q => q.1)) (hw : Wr ws is wc1 ws1) (kk : Go p l e R s m args below meth c K A H0 nL k n Q ws1 (pc + 3) (lv) (r.toList ++ rest)) : Go p l e R s m args below meth c K A H0 nL k n Q ws (pc) (lv) (st) := by
  intro H locs ls hP hD hS hl T hT X
  obtain ⟨v, st₀, t, T', L, h0, X', hL, e1, e2, ⟨⟨hv, hp⟩, hz, hk⟩, st⟩ := hr H locs ls hP hD hS hl T hT X
  cases hv
  rw [h0] at hz hk
  have hinA : ∀ q, inW wc q → A q := by
    rintro q ⟨j, e, hj⟩
    obtain ⟨i, -, hi⟩ := wis' his hj
    exact hD.2 i _ hi
  have hlen : wc1.length = wc.length := by have := congrArg List.length hf; simpa using this
  have hP1 : va_P K.1 vwCl ws1 T'.heap := by
    intro j q hj
    rcases Wr_get hw hj with ⟨i, h1, h2⟩ | ⟨h1, h2⟩
    · rw [e1]; exact hp i q h2
    · have hq := hP j q h1
      refine hq.kept ?_
      rw [e1]
      refine hk q.1 hq.lt ?_
      rintro ⟨i, e, hi⟩
      obtain ⟨j2, hj2, hj3⟩ := wis' his hi
      have := hD.1 j j2 q (q.1, e) h1 hj3 rfl
      subst this
      exact h2 (List.mem_of_getElem? hj2)
  have hkey : ∀ (j : Nat) (q : Nat × va_E), ws1[j]? = some q → ∃ q0, ws[j]? = some q0 ∧ q0.1 = q.1 := by
    intro j q hj
    rcases Wr_get hw hj with ⟨i, h1, h2⟩ | ⟨h1, h2⟩
    · obtain ⟨q0, h3, h4⟩ := wfst hf h2
      obtain ⟨q1, h5, h6⟩ := wis his h1
      rw [h3] at h5; cases h5
      exact ⟨q0, h6, h4⟩
    · exact ⟨q, h1, rfl⟩
  have hD1 : va_D A ws1 := by
    refine ⟨fun i j x y hi hj hxy => ?_, fun j q hj => ?_⟩
    · obtain ⟨x0, h1, h2⟩ := hkey i x hi
      obtain ⟨y0, h3, h4⟩ := hkey j y hj
      exact hD.1 i j x0 y0 h1 h3 (h2.trans (hxy.trans h4.symm))
    · obtain ⟨q0, h1, h2⟩ := hkey j q hj
      rw [← h2]
      exact hD.2 j q0 h1
  have hS1 : va_S A H0 T'.heap (locs ++ L) := by
    refine ⟨Nat.le_trans hS.1 (by rw [e1]; exact hz), fun q h1 h2 => ?_, fun q hq => ?_⟩
    · rw [e1, hk q (Nat.lt_of_lt_of_le h1 hS.1) (fun z => h2 (hinA q z))]
      exact hS.2.1 q h1 h2
    · rcases List.mem_append.mp hq with h | h
      · exact hS.2.2 q h
      · exact hinA _ (hL q h)
  obtain ⟨t2, a1, b1⟩ := kk T'.heap (locs ++ L) ls hP1 hD1 hS1 hl T' rfl X'
  exact ⟨t2, st t2 a1, b1⟩
theorem CtP_blind {K : KK} {wc : va_W} {as : List Value} : FrameBlind (va_Pc as (CtP K wc)) := fun a U g mk q => ⟨q.1, q.2.1, va_K.moved (u := U) (U := U.calling g mk a) (Vm.Alike.refl U.vm) q.2.2.1, q.2.2.2⟩
theorem wsubP {K : KK} {ws wc : va_W} {H : Heap} {is : List Nat} (hP : va_P K.1 vwCl ws H) (his : is.map (fun i => ws[i]?) = wc.map some) : va_P K.1 vwCl wc H := fun j q hj => by
  obtain ⟨i, -, hi⟩ := wis' his hj
  exact hP i q hi
theorem Go_callV (C : Cx p R s m args meth c K A H0 cc own nL d) {y : MethodName} {cc1 : ByteArray} {mL na ci idx : Nat} {ret : Option FieldType} {d1 : Nat} {b : Nat} {As : List Value} {wc wc1 ws1 : va_W} {r : Option Value} {rest : List Value} {fs : List Value} {T : u_T} {N : Nat} (q0 : Nat) (is : List Nat)
    (hct : Ct l K y cc1 mL ret d1 (.ref b :: As) wc r wc1) (hc : CalV y cc1 mL ret na) (hw : Cond.methodLink own idx y ∈ lw_g) (hd1 : d1 + 1 ≤ d) (he : ws[q0]? = some (b, .inr (ci, fs))) (hci : vwCl[ci]? = some (y.cls, T, N))
    (hn : As.length = na) (hst : st = As.reverse ++ .ref b :: rest) (hcat : (rest.map fun v => v.category).sum ≤ 8) (hkn : k ≤ R.cells ∧ n ≤ R.slots) (hd : decode cc pc = .ok (.invokevirtual idx, 3))
    (his : is.map (fun i => ws[i]?) = wc.map some) (hnd : va_nd is = true) (hf : wc1.map (fun q => q.1) = wc.map (fun q => q.1)) (hws : Wr ws is wc1 ws1) (kk : Go p l e R s m args below meth c K A H0 nL k n Q ws1 (pc + 3) (lv) (r.toList ++ rest)) : Go p l e R s m args below meth c K A H0 nL k n Q ws (pc) (lv) (st) := by
  refine Go_run (wc := wc) (wc1 := wc1) (arr := (Value.ref b :: As).toArray) is ?_ his hf hws kk
  intro H locs ls hP hD hS hl
  obtain ⟨hx, hb, hml, hown, hts, hK, hlk, hfr, hlo⟩ := C
  obtain ⟨c1, c2, c3, c4, c5, c6⟩ := hc
  exact va_runV (As := As) (rest := rest) ⟨hx, hb, hml, hown, hts⟩ hct
    ⟨callB_of na hts (gd_in c1) rfl rfl rfl (hts _ c2) (hts _ hw) c5 ⟨Nat.le_trans hd1 hfr, Nat.le_trans (by show 8 + (mL + 11) + 37 * d1 ≤ 37 * d; omega) hlo⟩, hts _ c3, hts _ c4⟩
    ⟨CtP_blind, va_recv hK hP hci he, fun U hU hW => ⟨rfl, by rw [hU]; exact wsubP hP his, va_K.moved hW.alike hK, (hD.sub is hnd his).weaken (fun _ _ _ _ => trivial)⟩⟩
    rfl hn hl.1 hst (lv_room (rest := st) hcat) hd hkn
theorem Go_callS (C : Cx p R s m args meth c K A H0 cc own nL d) {y : MethodName} {cc1 : ByteArray} {mL na idx : Nat} {ret : Option FieldType} {d1 : Nat} {As : List Value} {wc wc1 ws1 : va_W} {r : Option Value} {rest : List Value} (is : List Nat)
    (hct : Ct l K y cc1 mL ret d1 As wc r wc1) (hc : CalS y cc1 mL ret na) (hw : Cond.methodLink own idx y ∈ lw_g) (hd1 : d1 + 1 ≤ d)
    (hn : As.length = na) (hst : st = As.reverse ++ rest) (hcat : (rest.map fun v => v.category).sum ≤ 8) (hkn : k ≤ R.cells ∧ n ≤ R.slots) (hd : decode cc pc = .ok (.invokestatic idx, 3))
    (his : is.map (fun i => ws[i]?) = wc.map some) (hnd : va_nd is = true) (hf : wc1.map (fun q => q.1) = wc.map (fun q => q.1)) (hws : Wr ws is wc1 ws1) (kk : Go p l e R s m args below meth c K A H0 nL k n Q ws1 (pc + 3) (lv) (r.toList ++ rest)) : Go p l e R s m args below meth c K A H0 nL k n Q ws (pc) (lv) (st) := by
  refine Go_run (wc := wc) (wc1 := wc1) (arr := As.toArray) is ?_ his hf hws kk
  intro H locs ls hP hD hS hl
  obtain ⟨hx, hb, hml, hown, hts, hK, hlk, hfr, hlo⟩ := C
  obtain ⟨c1, c2, c3, c5, c6⟩ := hc
  exact va_runS (As := As) (rest := rest) ⟨hx, hb, hml, hown, hts⟩ hct
    ⟨callB_of na hts (gd_in c1) rfl rfl rfl (hts _ c2) (hts _ hw) c5 ⟨Nat.le_trans hd1 hfr, Nat.le_trans (by show 8 + (mL + 11) + 37 * d1 ≤ 37 * d; omega) hlo⟩, hts _ c3⟩
    ⟨CtP_blind, fun U hU hW => ⟨rfl, by rw [hU]; exact wsubP hP his, va_K.moved hW.alike hK, (hD.sub is hnd his).weaken (fun _ _ _ _ => trivial)⟩⟩
    rfl hn hl.1 hst (lv_room (rest := st) hcat) hd hkn
theorem Go_iret {wc : va_W} {r : Option Value} {x : Int32} (C : Cx p R s m args meth c K (inW wc) s.heap cc own nL d) (hr : meth.sig.returnType = some .int)  (hrx : r = some (.int x)) (hd : decode cc pc = .ok (.ireturn, 1)) : Go p l e R s m args below meth c K (inW wc) s.heap nL 0 0 (MQ below (CtQ K wc r ws) args s 0 0 (inW wc)) ws pc lv [.int x] := by
  subst hrx
  exact fun H locs ls hP hD hS hl => W.iret C.1 C.2.1 hr  (fun t ht _ => ⟨⟨rfl, by rw [ht]; exact hP⟩, hS.F ht⟩) hS.2.2 hd C.2.2.2.2.2.2.1
theorem Go_lret {wc : va_W} {r : Option Value} {x : Int64} (C : Cx p R s m args meth c K (inW wc) s.heap cc own nL d) (hr : meth.sig.returnType = some .long)  (hrx : r = some (.long x)) (hd : decode cc pc = .ok (.lreturn, 1)) : Go p l e R s m args below meth c K (inW wc) s.heap nL 0 0 (MQ below (CtQ K wc r ws) args s 0 0 (inW wc)) ws pc lv [.long x] := by
  subst hrx
  exact fun H locs ls hP hD hS hl => W.lret C.1 C.2.1 hr  (fun t ht _ => ⟨⟨rfl, by rw [ht]; exact hP⟩, hS.F ht⟩) hS.2.2 hd C.2.2.2.2.2.2.1
theorem Go_zret {wc : va_W} {r : Option Value} {x : Int32} (C : Cx p R s m args meth c K (inW wc) s.heap cc own nL d) (hr : meth.sig.returnType = some .boolean) (hx : x = 0 ∨ x = 1) (hrx : r = some (.int x)) (hd : decode cc pc = .ok (.ireturn, 1)) : Go p l e R s m args below meth c K (inW wc) s.heap nL 0 0 (MQ below (CtQ K wc r ws) args s 0 0 (inW wc)) ws pc lv [.int x] := by
  subst hrx
  exact fun H locs ls hP hD hS hl => W.zret C.1 C.2.1 hr (by rcases hx with rfl | rfl <;> rfl) (fun t ht _ => ⟨⟨rfl, by rw [ht]; exact hP⟩, hS.F ht⟩) hS.2.2 hd C.2.2.2.2.2.2.1
theorem Go_vret {wc : va_W} {r : Option Value} (C : Cx p R s m args meth c K (inW wc) s.heap cc own nL d) (hr : meth.sig.returnType = none) (hrx : r = none) (hd : decode cc pc = .ok (.return_, 1)) : Go p l e R s m args below meth c K (inW wc) s.heap nL 0 0 (MQ below (CtQ K wc r ws) args s 0 0 (inW wc)) ws pc lv [] := by
  subst hrx
  exact fun H locs ls hP hD hS hl => W.vret C.1 C.2.1 hr (fun t ht _ => ⟨⟨rfl, by rw [ht]; exact hP⟩, hS.F ht⟩) hS.2.2 hd C.2.2.2.2.2.2.1
end GOC
def lv0 (as : List Value) (mL : Nat) : List (Option Value) := as.map some ++ List.replicate (mL - as.length) none
theorem lget_lv0 : ∀ (as : List Value) (q i : Nat) (v : Value), lget (as.map some ++ List.replicate q none) i = some v → as[i]? = some v
  | [], q, i, v, h => by
    exfalso
    induction q generalizing i with
    | zero => simp [lget] at h
    | succ q ih =>
      cases i with
      | zero => simp [lget, List.replicate] at h
      | succ i => exact ih i (by simpa [lget, List.replicate] using h)
  | a :: as, q, 0, v, h => by simpa [lget] using h
  | a :: as, q, i + 1, v, h => by
    have := lget_lv0 as q i v (by simpa [lget] using h)
    simpa using this
theorem lv_args_mem : ∀ (as : List Value) (b i : Nat) (v : Value), (∀ v ∈ as, v.category = 1) → as[i]? = some v → (b + i, v) ∈ lv_args b as
  | [], _, _, _, _, h => by simp at h
  | a :: as, b, 0, v, _, h => by
    simp at h; subst h; simp [lv_args]
  | a :: as, b, i + 1, v, hc, h => by
    have h1 := lv_args_mem as (b + 1) i v (fun v hv => hc v (List.mem_cons_of_mem _ hv)) (by simpa using h)
    have e : b + (i + 1) = b + 1 + i := by omega
    have hn : ¬ a.category = 2 := by have := hc a List.mem_cons_self; omega
    rw [e]
    simp only [lv_args, if_neg hn]
    exact List.mem_cons_of_mem _ h1
theorem lg_sl_len : ∀ (as : List Value), (∀ v ∈ as, v.category = 1) → (lg_sl as).length = as.length
  | [], _ => rfl
  | a :: as, hc => by
    have hn : ¬ a.category = 2 := by have := hc a List.mem_cons_self; omega
    have h1 := lg_sl_len as (fun v hv => hc v (List.mem_cons_of_mem _ hv))
    simp only [lg_sl, List.flatMap_cons, if_neg hn, List.length_append, List.length_cons, List.length_nil] at h1 ⊢
    simp only [List.length_flatMap] at h1 ⊢
    omega
theorem Ct_of {l : Launch} {K : KK} {y : MethodName} {cc : ByteArray} {mL : Nat} {ret : Option FieldType} {d : Nat} {as : List Value} {wc wc1 : va_W} {r : Option Value} (hy : plainName y.cls = true) (hca : ∀ v ∈ as, v.category = 1) (hle : as.length ≤ mL)
    (body : ∀ (p : Program) (e : Env) (s : State) (m : MethodId) (args : Array Value) (below : List Frame) (meth : Method) (c : Code), Cx p (rmc d 0 0) s m args meth c K (inW wc) s.heap cc y.cls mL d → meth.sig.returnType = ret →
      Go p l e (rmc d 0 0) s m args below meth c K (inW wc) s.heap mL 0 0 (MQ below (CtQ K wc r wc1) args s 0 0 (inW wc)) wc 0 (lv0 as mL) []) : Ct l K y cc mL ret d as wc r wc1 := by
  refine Met.ofW (cc := cc) (maxL := mL) (ret := ret) hy rfl ?_
  intro p e s m args below meth c s₁ B hml hv
  obtain ⟨rfl, hP, hK, hD0⟩ := hv
  have hts : ∀ w ∈ lw_g, w.before as.toArray s = true := fun w h => atoms_spec (ws := .code y cc mL ret :: lw_g) B.pre w (List.mem_cons_of_mem _ h)
  have hown : s.vm.findClass y.cls = some m.cls := findClass_of_methodNamed B.named
  have hl := lv_entry as (n := mL) (by rw [lg_sl_len as hca]; exact hle)
  rw [lg_entry_eq]
  have hD : va_D (inW wc) wc := ⟨hD0.1, fun j q hj => ⟨j, q.2, hj⟩⟩
  refine body p e s m as.toArray below meth c ⟨B.exec, B.bytes, hml, hown, hts, hK, B.notSynchronized, Nat.le_refl _, Nat.le_refl _⟩ B.returns s.heap [] _ hP hD va_S.rf ⟨hl.1, hl.2.1, fun i v h => ?_⟩
  have h1 := lget_lv0 as _ i v h
  have h2 := lv_args_mem as 0 i v hca h1
  have h3 := hl.2.2 _ h2
  simpa using h3
def loopF {σ ρ : Type} (step : σ → Option (σ ⊕ ρ)) : Nat → σ → Option ρ
  | 0, _ => none
  | n + 1, s => Option.bind (step s) (fun x => Sum.elim (fun s1 => loopF step n s1) (fun r => some r) x)
theorem loopF_go {σ ρ : Type} {step : σ → Option (σ ⊕ ρ)} (G : σ → Prop) (E : ρ → Prop) (hs : ∀ s x, step s = some x → Sum.elim G E x → G s) : ∀ n s r, loopF step n s = some r → E r → G s
  | 0, s, r, h, _ => by cases h
  | n + 1, s, r, h, hE => by
    simp only [loopF] at h
    cases hx : step s with
    | none => rw [hx] at h; cases h
    | some x =>
      rw [hx] at h
      refine hs s x hx ?_
      cases x with
      | inl s1 => exact loopF_go G E hs n s1 r h hE
      | inr r1 =>
        have h' : some r1 = some r := h
        cases h'
        exact hE
theorem ift {α : Type} {c : Prop} {i : Decidable c} {a b : Option α} {x : Option α} (hc : c) (h : (@ite _ c i a b) = x) : a = x := by rw [if_pos hc] at h; exact h
theorem iff' {α : Type} {c : Prop} {i : Decidable c} {a b : Option α} {x : Option α} (hc : ¬ c) (h : (@ite _ c i a b) = x) : b = x := by rw [if_neg hc] at h; exact h
theorem bnd {α β : Type} {a : Option α} {g : α → Option β} {x : β} (h : Option.bind a g = some x) : ∃ v, a = some v ∧ g v = some x := by
  cases a with
  | none => cases h
  | some v => exact ⟨v, rfl, h⟩
theorem ifs {α : Type} {c : Prop} {i : Decidable c} {a : Option α} {x : α} (h : (@ite _ c i a none) = some x) : c ∧ a = some x := by
  by_cases hc : c
  · rw [if_pos hc] at h; exact ⟨hc, h⟩
  · rw [if_neg hc] at h; cases h
def inb (i : Int32) (n : Nat) : Prop := 0 ≤ i ∧ i.toNatClampNeg < n
def inbD (i : Int32) (n : Nat) : Decidable (inb i n) := inferInstanceAs (Decidable (0 ≤ i ∧ i.toNatClampNeg < n))
theorem inb_in {i : Int32} {n : Nat} (h : inb i n) : vp_in i n := by
  intro q
  rcases q with q | q
  · have h1 := Int32.le_iff_toInt_le.mp h.1
    have h2 := Int32.lt_iff_toInt_lt.mp q
    omega
  · have := h.2
    omega
/-- a list of places out of an address row -/
def pk (a : Nat → Nat) (is : List Nat) : Nat → Nat := fun i => a (is.getD i 0)
def sh (a : Nat → Nat) (b : Nat) : Nat → Nat := fun i => a (b + i)
