def Ex0 (U : State) : Prop := va_AO RX1 U ∧ va_Nw (.methodLinkNest "PillarRuns" 18 yX0_init "PillarRuns") U ∧ va_Nw (.methodLinkNest "PillarRuns" 39 yX5_init "PillarRuns") U ∧ va_Nw (.methodLinkNest "PillarRuns$Trial" 18 yX0_init "PillarRuns") U ∧ va_Nw (.methodLinkNest "PillarRuns" 46 yX4_init "PillarRuns") U
theorem Ex0.warm {s U : State} (hW : s.WarmedH U.vm) (h : Ex0 s) : Ex0 U := ⟨va_AO.moved hW.alike h.1, va_Nw.warmM hW h.2.1, va_Nw.warmM hW h.2.2.1, va_Nw.warmM hW h.2.2.2.1, va_Nw.warmM hW h.2.2.2.2⟩
theorem Ex0.same {U T : State} (hv : U.vm = T.vm) (h : Ex0 U) : Ex0 T := ⟨va_AO.moved (by rw [hv]; exact Vm.Alike.refl _) h.1, va_Nw.same rfl hv h.2.1, va_Nw.same rfl hv h.2.2.1, va_Nw.same rfl hv h.2.2.2.1, va_Nw.same rfl hv h.2.2.2.2⟩
def adr (l : List Nat) : Nat → Nat := fun i => l.getD i 0
theorem va_nd_nodup : ∀ (l : List Nat), l.Nodup → va_nd l = true
  | [], _ => rfl
  | a :: l, h => by
    rw [List.nodup_cons] at h
    simp only [va_nd, Bool.and_eq_true, decide_eq_true_eq]
    exact ⟨h.1, va_nd_nodup l h.2⟩
theorem map_range_get (l : va_W) (x : va_W) : (List.range l.length).map (fun i => (l ++ x)[i]?) = l.map some := by
  apply List.ext_getElem?
  intro i
  rw [List.getElem?_map, List.getElem?_map]
  by_cases h : i < l.length
  · rw [List.getElem?_range h]
    simp [List.getElem?_append_left h, List.getElem?_eq_getElem h]
  · simp [h, List.getElem?_eq_none (Nat.le_of_not_lt h)]
def Cn (l : Launch) (K : KK) (y : MethodName) (cc : ByteArray) (mL d mc ms : Nat) (h0 : Nat) (e0 : va_E) (wf : (Nat → Nat) → va_W) : Prop :=
  ∀ sz : Nat, Met l y (.code y cc mL none :: lw_g) (rmc d mc ms) (va_Pc [.ref h0] (fun U => U.heap.size = sz ∧ va_P K.1 vwCl [(h0, e0)] U.heap ∧ va_K K.1 vwCl (ktys K) U ∧ Ex0 U)) (va_Qv (fun a : Nat → Nat => a 0 = h0) (fun a t => va_P K.1 vwCl (wf a) t.heap ∧ va_D (va_A [(h0, e0)] sz) (wf a)) (va_A [(h0, e0)] sz)) mc ms (va_A [(h0, e0)] sz)
def CalI (y : MethodName) (cc : ByteArray) (mL : Nat) : Prop := Cond.code y cc mL none ∈ lw_g ∧ Cond.initialized y.cls ∈ lw_g ∧ Cond.instanceMethod y ∈ lw_g ∧ (y.cls ≠ "java/lang/invoke/MethodHandle" ∧ y.cls ≠ "java/lang/invoke/VarHandle" ∧ (parseMethodDescriptor y.desc).map (fun d => d.parameters.length) = some 0) ∧ mL ≤ 18 ∧ y.name = "<init>"
section CT
variable {p : Program} {l : Launch} {e : Env} {R : Room} {s : State} {m : MethodId} {args : Array Value} {below : List Frame} {meth : Method} {c : Code} {K : KK} {A : Nat → Prop} {H0 : Heap} {cc : ByteArray} {own : String} {nL d k n : Nat} {Q : State → Prop} {ws : va_W} {pc : Nat} {lv : List (Option Value)} {st : List Value}
theorem Go_obj (C : Cx p R s m args meth c K A H0 cc own nL d) {i a : Nat} (hw : Cond.methodLink own i Lib.objectInit ∈ lw_g) (hd : decode cc pc = .ok (.invokespecial i, 3)) (hd1 : 1 ≤ d) (hcat : (st.map fun v => v.category).sum ≤ 8) (kk : Go p l e R s m args below meth c K A H0 nL k n Q ws (pc + 3) (lv) (st)) : Go p l e R s m args below meth c K A H0 nL k n Q ws (pc) (lv) (.ref a :: st) := by
  intro H locs ls hP hD hS hl
  have hroom := lv_room (m := m) (pc := pc) (ls := ls) (rest := .ref a :: st) hcat
  refine W.objInit C.1 C.2.1 C.2.2.2.1 (C.2.2.2.2.1 _ hw) (C.2.2.2.2.1 _ mw_78) (C.2.2.2.2.1 _ mw_79) rfl (by rw [C.2.2.1]; exact hl.1) rfl hd (Nat.le_trans hd1 C.2.2.2.2.2.2.2.1) (Nat.le_trans (by omega) C.2.2.2.2.2.2.2.2) (kk H locs ls hP hD hS hl)
theorem Go_newa (C : Cx p R s m args meth c K A H0 cc own nL d) {x : Int32} {N : Nat} (hA : ∀ q, H0.size ≤ q → A q) (hx : ¬ x < 0) (hN : x.toNatClampNeg = N) (hb : N * 4 ≤ 536870912) (hk : k + 1 ≤ R.cells) (hn : n + N ≤ R.slots) (hd : decode cc pc = .ok (.newarray .int, 2)) (kk : ∀ q : Nat, Go p l e R s m args below meth c K A H0 nL (k + 1) (n + N) Q (ws ++ [(q, .inl (K.2.1, N, .inl (fun _ => 0)))]) (pc + 2) (lv) (.ref q :: st)) : Go p l e R s m args below meth c K A H0 nL k n Q ws (pc) (lv) (.int x :: st) := by
  intro H locs ls hP hD hS hl
  refine va_newa (atype := .int) C.1 C.2.1 (C.2.2.2.2.1 _ mw_131) (ty := .int) rfl C.2.2.2.2.2.1 hP hD hS hA (a0 := (N, .inl (fun _ => 0))) (fun _ => rfl) hx hN hb hk hn hd (fun q cA H1 hK1 hP1 hD1 hS1 => ?_)
  have e1 : s.vm.findClass _ = some K.2.1 := (C.2.2.2.2.2.1.2 0 (K.2.1, .int) rfl).2
  have e2 : s.vm.findClass _ = some cA := (hK1.2 2 (cA, .int) rfl).2
  have e3 : cA = K.2.1 := Option.some.inj (e2.symm.trans e1)
  subst e3
  exact kk q H1 locs ls hP1 hD1 hS1 hl
theorem Go_newq (C : Cx p R s m args meth c K A H0 cc own nL d) {x : Int32} {N i : Nat} (hA : ∀ q, H0.size ≤ q → A q) (hEx : Ex0 s) (hw : Cond.classLink own i RX1 ∈ lw_g) (hx : ¬ x < 0) (hN : x.toNatClampNeg = N) (hb : N * 4 ≤ 536870912) (hk : k + 1 ≤ R.cells) (hn : n + N ≤ R.slots) (hd : decode cc pc = .ok (.anewarray i, 3)) (kk : ∀ q : Nat, Go p l e R s m args below meth c K A H0 nL (k + 1) (n + N) Q (ws ++ [(q, .inl (K.2.2, N, .inr (.inr (.inr (.inr (fun _ => none))))))]) (pc + 3) (lv) (.ref q :: st)) : Go p l e R s m args below meth c K A H0 nL k n Q ws (pc) (lv) (.int x :: st) := by
  intro H locs ls hP hD hS hl
  refine va_newq C.1 C.2.1 C.2.2.2.1 (C.2.2.2.2.1 _ hw) hEx.1 C.2.2.2.2.2.1 hP hD hS hA hx hN hb hk hn hd (fun q cA H1 hK1 hP1 hD1 hS1 => ?_)
  have e1 := (C.2.2.2.2.2.1.2 1 (K.2.2, .object RX1) rfl).2
  have e2 := (hK1.2 2 (cA, .object RX1) rfl).2
  obtain ⟨_, _, _, _, _, f1⟩ := e1
  obtain ⟨_, _, _, _, _, f2⟩ := e2
  have e3 : cA = K.2.2 := Option.some.inj (f2.symm.trans f1)
  subst e3
  exact kk q H1 locs ls hP1 hD1 hS1 hl
theorem Go_new (C : Cx p R s m args meth c K A H0 cc own nL d) {Cn1 : String} {T : u_T} {N ci i : Nat} {fs : List Value} (hA : ∀ q, H0.size ≤ q → A q) (hc : vwCl[ci]? = some (Cn1, T, N)) (hin : ∀ w ∈ u_ws Cn1 T N, w ∈ lw_g) (ty : Nat → FieldType) (hty : ∀ q, q < N → parseFieldDescriptor (T q).2.2.1 = some (ty q)) (hw : Cond.classLink own i Cn1 ∈ lw_g) (hw2 : Cond.instantiable Cn1 N ∈ lw_g) (hw3 : Cond.initialized Cn1 ∈ lw_g) (hfs : ∀ j, j < N → defaultValue (ty j) = vp_V fs j) (hk : k + 1 ≤ R.cells) (hn : n + N ≤ R.slots) (hd : decode cc pc = .ok (.new i, 3)) (kk : ∀ q : Nat, Go p l e R s m args below meth c K A H0 nL (k + 1) (n + N) Q (ws ++ [(q, .inr (ci, fs))]) (pc + 3) (lv) (.ref q :: st)) : Go p l e R s m args below meth c K A H0 nL k n Q ws (pc) (lv) (st) := by
  intro H locs ls hP hD hS hl
  exact va_new C.1 C.2.1 C.2.2.2.2.1 hin ty hty C.2.2.2.1 (C.2.2.2.2.1 _ hw) (C.2.2.2.2.1 _ hw2) (C.2.2.2.2.1 _ hw3) C.2.2.2.2.2.1 hP hD hS hA hc hfs hk hn hd (fun q H1 hP1 hD1 hS1 => kk q H1 locs ls hP1 hD1 hS1 hl)
theorem Go_putR (C : Cx p R s m args meth c K A H0 cc own nL d) {a ci : Nat} {fs : List Value} {Cn1 : String} {T : u_T} {N i v : Nat} {ws1 : va_W} (hin2 : meth.name = "<init>") (q0 : Nat) (j : Nat) (ty0 : Nat → FieldType) (hty : ∀ q, q < N → parseFieldDescriptor (T q).2.2.1 = some (ty0 q)) (hnm : ∀ a, a < N → ∀ b, b < N → a ≠ b → (T a).2.1 ≠ (T b).2.1) (he : ws[q0]? = some (a, .inr (ci, fs))) (hc : vwCl[ci]? = some (Cn1, T, N)) (hin : ∀ w ∈ u_ws Cn1 T N, w ∈ lw_g) (hk : j < N) (hw : Cond.fieldLink own i (T j).1 (T j).2.1 (T j).2.2.1 ∈ lw_g) (hfin : (T j).2.2.2 = true) (hdecl : (T j).1 = own) (hn9 : narrow (ty0 j) (.ref v) = .ref v) (hf9 : fits (ty0 j) (.ref v) = true) (hl : j < fs.length) (hd : decode cc pc = .ok (.putfield i, 3)) (hws : ws.set q0 (a, .inr (ci, fs.set j (.ref v))) = ws1) (kk : Go p l e R s m args below meth c K A H0 nL k n Q ws1 (pc + 3) (lv) (st)) : Go p l e R s m args below meth c K A H0 nL k n Q ws (pc) (lv) (.ref v :: .ref a :: st) := by
  intro H locs ls hP hD hS hll
  subst hws
  exact va_putF C.1 C.2.1 C.2.2.2.2.1 hin ty0 hty hnm C.2.2.2.1 C.2.2.2.2.2.1 hP hD hS q0 he hc j hk (C.2.2.2.2.1 _ hw) (fun _ h => h) hfin hin2 hdecl (hty j hk) hn9 hf9 hl hd (fun H1 locs1 p1 d1 s1 => kk H1 locs1 ls p1 d1 s1 hll)
theorem Go_aast (C : Cx p R s m args meth c K A H0 cc own nL d) {a ci N v : Nat} {fs : List Value} {f : Nat → Option Nat} {i : Int32} {T : u_T} {NN : Nat} {ws1 : va_W} (q0 qk : Nat) (he : ws[q0]? = some (a, .inl (K.2.2, N, .inr (.inr (.inr (.inr f)))))) (hv : ws[qk]? = some (v, .inr (ci, fs))) (hc : vwCl[ci]? = some (RX1, T, NN)) (hb : vp_in i N) (hd : decode cc pc = .ok (.aastore, 1)) (hws : ws.set q0 (a, .inl (K.2.2, N, .inr (.inr (.inr (.inr (va_up f i.toNatClampNeg (some v))))))) = ws1) (kk : Go p l e R s m args below meth c K A H0 nL k n Q ws1 (pc + 1) (lv) (st)) : Go p l e R s m args below meth c K A H0 nL k n Q ws (pc) (lv) (.ref v :: .int i :: .ref a :: st) := by
  intro H locs ls hP hD hS hll
  subst hws
  exact va_astq (r := (RX1, T, NN)) C.1 C.2.1 C.2.2.2.2.2.1 hP hD hS q0 1 qk ci he rfl hv hc hb hd (fun H1 locs1 p1 d1 s1 => kk H1 locs1 ls p1 d1 s1 hll)
theorem Go_callI (C : Cx p R s m args meth c K A H0 cc own nL d) (hA : ∀ q, H0.size ≤ q → A q) (hEx : Ex0 s) {y : MethodName} {cc1 : ByteArray} {mL d1 mc ms idx b : Nat} {e0 : va_E} {wf : (Nat → Nat) → va_W} {ws0 : va_W} (hct : Cn l K y cc1 mL d1 mc ms b e0 wf) (hc : CalI y cc1 mL) (hw : Cond.methodLink own idx y ∈ lw_g) (hd1 : d1 + 1 ≤ d) (hcat : (st.map fun v => v.category).sum ≤ 8) (hkn : k + mc ≤ R.cells ∧ n + ms ≤ R.slots) (hd : decode cc pc = .ok (.invokespecial idx, 3)) (kk : ∀ a : Nat → Nat, a 0 = b → Go p l e R s m args below meth c K A H0 nL (k + mc) (n + ms) Q (ws0 ++ wf a) (pc + 3) (lv) (st)) : Go p l e R s m args below meth c K A H0 nL k n Q (ws0 ++ [(b, e0)]) (pc) (lv) (.ref b :: st) := by
  intro H locs ls hP hD hS hl
  obtain ⟨hx, hb, hml, hown, hts, hK, hlk, hfr, hlo⟩ := C
  obtain ⟨c1, c2, c3, c4, c5, c6⟩ := hc
  have hlast : (ws0 ++ [(b, e0)])[ws0.length]? = some (b, e0) := by simp
  have hPc : va_P K.1 vwCl [(b, e0)] H := fun j q hj => by
    cases j with
    | zero => cases hj; exact hP _ _ hlast
    | succ j => simp at hj
  have hCm : [ws0.length].map (fun i => (ws0 ++ [(b, e0)])[i]?) = List.map some [(b, e0)] := by simp
  have hFc := va_free (wc := [(b, e0)]) hD hS hA [ws0.length] hCm
  refine va_callv (va_runI (As := []) (rest := st) ⟨hx, hb, hml, hown, hts⟩ (hct H.size) ⟨callB_of 0 hts (gd_in c1) rfl rfl rfl (hts _ c2) (hts _ hw) c4 ⟨Nat.le_trans hd1 hfr, Nat.le_trans (by show 8 + (mL + 11) + 37 * d1 ≤ 37 * d; omega) hlo⟩, c6, hts _ c3⟩ ⟨fun a U g mk q => ⟨q.1, q.2.1, q.2.2.1, va_K.moved (u := U) (U := U.calling g mk a) (Vm.Alike.refl U.vm) q.2.2.2.1, Ex0.same (T := U.calling g mk a) rfl q.2.2.2.2⟩, fun U hU hW => ⟨rfl, by rw [hU], by rw [hU]; exact hPc, va_K.moved hW.alike hK, Ex0.warm hW hEx⟩⟩ rfl rfl hl.1 rfl (lv_room (rest := .ref b :: st) hcat) hd hkn) hS (fun q _ h => hFc q h) hFc (fun a t H1 locs1 ht hvm hw hB hz1 hk1 hS1 => ?_)
  obtain ⟨hP1, hD1⟩ := hB
  rw [ht] at hP1
  obtain ⟨hP2, hD2⟩ := va_join (wr := ws0) (w1 := wf a) hP hD [ws0.length] (List.range ws0.length) hCm (map_range_get ws0 _) (va_nd_nodup _ List.nodup_range) (fun i hi hj => by simp at hi hj; omega) hk1 hFc hP1 hD1
  exact kk a hw H1 locs1 ls hP2 hD2 hS1 hl
theorem Go_callIN (C : Cx p R s m args meth c K A H0 cc own nL d) (hA : ∀ q, H0.size ≤ q → A q) (hEx : Ex0 s) {y : MethodName} {cc1 : ByteArray} {mL d1 mc ms idx b : Nat} {e0 : va_E} {wf : (Nat → Nat) → va_W} {ws0 : va_W} (hct : Cn l K y cc1 mL d1 mc ms b e0 wf) (hc : CalI y cc1 mL) (hw : va_Nw (.methodLinkNest own idx y "PillarRuns") s) (hd1 : d1 + 1 ≤ d) (hcat : (st.map fun v => v.category).sum ≤ 8) (hkn : k + mc ≤ R.cells ∧ n + ms ≤ R.slots) (hd : decode cc pc = .ok (.invokespecial idx, 3)) (kk : ∀ a : Nat → Nat, a 0 = b → Go p l e R s m args below meth c K A H0 nL (k + mc) (n + ms) Q (ws0 ++ wf a) (pc + 3) (lv) (st)) : Go p l e R s m args below meth c K A H0 nL k n Q (ws0 ++ [(b, e0)]) (pc) (lv) (.ref b :: st) := by
  intro H locs ls hP hD hS hl
  obtain ⟨hx, hb, hml, hown, hts, hK, hlk, hfr, hlo⟩ := C
  obtain ⟨c1, c2, c3, c4, c5, c6⟩ := hc
  have hlast : (ws0 ++ [(b, e0)])[ws0.length]? = some (b, e0) := by simp
  have hPc : va_P K.1 vwCl [(b, e0)] H := fun j q hj => by
    cases j with
    | zero => cases hj; exact hP _ _ hlast
    | succ j => simp at hj
  have hCm : [ws0.length].map (fun i => (ws0 ++ [(b, e0)])[i]?) = List.map some [(b, e0)] := by simp
  have hFc := va_free (wc := [(b, e0)]) hD hS hA [ws0.length] hCm
  refine va_callv (va_runIN (As := []) (rest := st) ⟨hx, hb, hml, hown, hts⟩ (hct H.size) ⟨va_cnB 0 hts (gd_in c1) rfl rfl rfl hw (hts _ c2) c4 ⟨Nat.le_trans hd1 hfr, Nat.le_trans (by show 8 + (mL + 11) + 37 * d1 ≤ 37 * d; omega) hlo⟩, c6, hts _ c3⟩ ⟨fun a U g mk q => ⟨q.1, q.2.1, q.2.2.1, va_K.moved (u := U) (U := U.calling g mk a) (Vm.Alike.refl U.vm) q.2.2.2.1, Ex0.same (T := U.calling g mk a) rfl q.2.2.2.2⟩, fun U hU hW => ⟨rfl, by rw [hU], by rw [hU]; exact hPc, va_K.moved hW.alike hK, Ex0.warm hW hEx⟩⟩ rfl rfl hl.1 rfl (lv_room (rest := .ref b :: st) hcat) hd hkn) hS (fun q _ h => hFc q h) hFc (fun a t H1 locs1 ht hvm hw hB hz1 hk1 hS1 => ?_)
  obtain ⟨hP1, hD1⟩ := hB
  rw [ht] at hP1
  obtain ⟨hP2, hD2⟩ := va_join (wr := ws0) (w1 := wf a) hP hD [ws0.length] (List.range ws0.length) hCm (map_range_get ws0 _) (va_nd_nodup _ List.nodup_range) (fun i hi hj => by simp at hi hj; omega) hk1 hFc hP1 hD1
  exact kk a hw H1 locs1 ls hP2 hD2 hS1 hl
end CT
theorem Go_vretN {p : Program} {l : Launch} {e : Env} {R : Room} {s : State} {m : MethodId} {args : Array Value} {below : List Frame} {meth : Method} {c : Code} {K : KK} {cc : ByteArray} {own : String} {nL d k n : Nat} {pc : Nat} {lv : List (Option Value)} {h0 sz : Nat} {e0 : va_E} {wf : (Nat → Nat) → va_W} (a : Nat → Nat) (ha : a 0 = h0) (C : Cx p R s m args meth c K (va_A [(h0, e0)] sz) s.heap cc own nL d) (hr : meth.sig.returnType = none) (hd : decode cc pc = .ok (.return_, 1)) :
    Go p l e R s m args below meth c K (va_A [(h0, e0)] sz) s.heap nL k n (MQ below (va_Qv (fun a : Nat → Nat => a 0 = h0) (fun a t => va_P K.1 vwCl (wf a) t.heap ∧ va_D (va_A [(h0, e0)] sz) (wf a)) (va_A [(h0, e0)] sz)) args s k n (va_A [(h0, e0)] sz)) (wf a) pc lv [] :=
  fun H locs ls hP hD hS hl => W.vret C.1 C.2.1 hr (fun t ht _ => ⟨⟨a, rfl, ha, by rw [ht]; exact hP, hD⟩, hS.F ht⟩) hS.2.2 hd C.2.2.2.2.2.2.1
theorem Cn_of {l : Launch} {K : KK} {y : MethodName} {cc : ByteArray} {mL d mc ms h0 : Nat} {e0 : va_E} {wf : (Nat → Nat) → va_W} (hy : plainName y.cls = true) (hyn : y.name = "<init>") (hle : 1 ≤ mL)
    (body : ∀ (p : Program) (e : Env) (s : State) (m : MethodId) (args : Array Value) (below : List Frame) (meth : Method) (c : Code), Cx p (rmc d mc ms) s m args meth c K (va_A [(h0, e0)] s.heap.size) s.heap cc y.cls mL d → meth.sig.returnType = none → meth.name = "<init>" → Ex0 s → (∀ q : Nat, s.heap.size ≤ q → va_A [(h0, e0)] s.heap.size q) →
      Go p l e (rmc d mc ms) s m args below meth c K (va_A [(h0, e0)] s.heap.size) s.heap mL 0 0 (MQ below (va_Qv (fun a : Nat → Nat => a 0 = h0) (fun a t => va_P K.1 vwCl (wf a) t.heap ∧ va_D (va_A [(h0, e0)] s.heap.size) (wf a)) (va_A [(h0, e0)] s.heap.size)) args s mc ms (va_A [(h0, e0)] s.heap.size)) [(h0, e0)] 0 (lv0 [.ref h0] mL) []) : Cn l K y cc mL d mc ms h0 e0 wf := by
  intro sz
  refine Met.ofW (cc := cc) (maxL := mL) (ret := none) hy rfl ?_
  intro p e s m args below meth c s₁ B hml hv
  obtain ⟨rfl, hsz, hP, hK, hEx⟩ := hv
  subst hsz
  have hts : ∀ w ∈ lw_g, w.before ([Value.ref h0] : List Value).toArray s = true := fun w h => atoms_spec (ws := .code y cc mL none :: lw_g) B.pre w (List.mem_cons_of_mem _ h)
  have hown : s.vm.findClass y.cls = some m.cls := findClass_of_methodNamed B.named
  have hin : meth.name = y.name := (name_of_methodNamed B.named B.method).1
  have hl := lv_entry [Value.ref h0] (n := mL) hle
  rw [lg_entry_eq]
  have hD : va_D (va_A [(h0, e0)] s.heap.size) [(h0, e0)] := by
    refine ⟨fun i j x y hi hj _ => ?_, fun j q hj => Or.inl ⟨j, q.2, hj⟩⟩
    have h1 := (List.getElem?_eq_some_iff.mp hi).1
    have h2 := (List.getElem?_eq_some_iff.mp hj).1
    simp at h1 h2
    omega
  refine body p e s m _ below meth c ⟨B.exec, B.bytes, hml, hown, hts, hK, B.notSynchronized, Nat.le_refl _, Nat.le_refl _⟩ B.returns (hin.trans hyn) hEx (fun q h => Or.inr h) s.heap [] _ hP hD va_S.rf ⟨hl.1, hl.2.1, fun i v h => ?_⟩
  have h1 := lget_lv0 [Value.ref h0] _ i v h
  have h2 := lv_args_mem [Value.ref h0] 0 i v (by intro v hv; simp at hv; subst hv; rfl) h1
  have h3 := hl.2.2 _ h2
  simpa using h3
