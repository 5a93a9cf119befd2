/-! THE CLAIM OUT OF ONE WALK OF THE LAW'S BODY. Your part is whole_start (and what it stands on); all else here is the same for every law, but numbers. -/
def R_law : String := "PillarRunsLaw"
def lw_P (b : Addr) (xs : List Int32) (args : Array Value) (s : State) : Prop := args = #[.ref b] ∧ s.IntsAt b xs ∧ xs.length ≤ 2048 ∧ (Jvm.Cond.and given_1 narrow_1).before args s = true
def lw_Q (_ : Array Value) (s : State) (o : Outcome) (t : State) : Prop := o = .returned (some (.int 1)) ∧ Framed s o t [] 600000 7302250
def lw_Z (below : List Frame) (a : Array Value) (s : State) : State → Prop := fun t => ∃ o, t.status = .running ∧ Ended t below o ∧ lw_Q a s o t
/-- the law's own end, with 1 on the stack, nothing written that was there before, its room as the claim has it -/
theorem lw_ret {p : Program} {l : Launch} {e : Env} {s : State} {m : MethodId} {below : List Frame} {meth : Method} {c : Code} {b : Nat} (hx : p.tables.exec = Jvm.exec) (hb : c.code = code) (hr : meth.sig.returnType = ret) (hlocks : meth.locks = false) {pc : Nat} {H : Heap} {ls : Array Slot} (hdg : decode code pc = .ok (.ireturn, 1)) : W p l e room_1 s m #[Value.ref b] below meth c H [] 600000 7302250 (lw_Z below #[Value.ref b] s) (F0 m pc ls [.int 1]) := by
  intro T hT X
  obtain ⟨fs, hret, hrun, hended, hW, hframe⟩ := X.leave (v := some (.int 1)) (hlocks := hlocks) (fun h => by rw [hr] at h; cases h)
  have hmeth' : T.vm.method? m = some meth := X.method'
  refine ⟨T.setFrames fs, ?_, .returned (some (.int 1)), hrun, hended, rfl, ⟨_, rfl⟩, hW, hframe⟩
  jvm_step X.here [X.here.top, hx, hb, hdg, hmeth', hr, ret, narrow_b1]
  (try refine ⟨rfl, ?_⟩); (try refine ⟨rfl, ?_⟩)
  first | (intro acts; rw [hret _ acts rfl rfl rfl]) | rw [hret _ _ rfl rfl rfl]
  exact Steps.refl _
/-- what holds at the law's entry: the machine, the code, the tables' words (any of lw_tbl by 'hts w (by decide +kernel)'), the script of L ints xs at the cell b, what the Statement gives of the start (any of its parts by flat_of_before) -/
def lw_At (p : Program) (s : State) (m : MethodId) (meth : Method) (c : Code) (b L : Nat) (xs : Nat → Int32) : Prop :=
  p.tables.exec = Jvm.exec ∧ c.code = code ∧ meth.sig.returnType = ret ∧ c.maxLocals = 4 ∧ s.vm.findClass R_law = some m.cls ∧ (∀ w ∈ lw_tbl, w.before #[Value.ref b] s = true) ∧ va_X b L xs s s.heap ∧ b < s.heap.size ∧ meth.locks = false ∧ (Jvm.Cond.and given_1 narrow_1).before #[Value.ref b] s = true

def E0 (Rel : S6 → S7 → Prop) (f : S6 → Option (Int32 × S6)) (g : S7 → Option (Int32 × S7)) : Prop := ∀ (σ : S6) (τ : S7), Rel σ τ → ∃ (r : Int32) (σ1 : S6) (τ1 : S7), f σ = some (r, σ1) ∧ g τ = some (r, τ1) ∧ Rel σ1 τ1
def E1 (Rel : S6 → S7 → Prop) (f : S6 → Int32 → Option (Int32 × S6)) (g : S7 → Int32 → Option (Int32 × S7)) : Prop := ∀ (σ : S6) (τ : S7) (x0 : Int32), Rel σ τ → ∃ (r : Int32) (σ1 : S6) (τ1 : S7), f σ x0 = some (r, σ1) ∧ g τ x0 = some (r, τ1) ∧ Rel σ1 τ1
def E2 (Rel : S6 → S7 → Prop) (f : S6 → Int32 → Int32 → Option (Int32 × S6)) (g : S7 → Int32 → Int32 → Option (Int32 × S7)) : Prop := ∀ (σ : S6) (τ : S7) (x0 : Int32) (x1 : Int32), Rel σ τ → ∃ (r : Int32) (σ1 : S6) (τ1 : S7), f σ x0 x1 = some (r, σ1) ∧ g τ x0 x1 = some (r, τ1) ∧ Rel σ1 τ1
def E3 (Rel : S6 → S7 → Prop) (f : S6 → Int32 → Int32 → Int32 → Option (Int32 × S6)) (g : S7 → Int32 → Int32 → Int32 → Option (Int32 × S7)) : Prop := ∀ (σ : S6) (τ : S7) (x0 : Int32) (x1 : Int32) (x2 : Int32), Rel σ τ → ∃ (r : Int32) (σ1 : S6) (τ1 : S7), f σ x0 x1 x2 = some (r, σ1) ∧ g τ x0 x1 x2 = some (r, τ1) ∧ Rel σ1 τ1
def EL (Rel : S6 → S7 → Prop) (f : S6 → Option (Int64 × S6)) (g : S7 → Option (Int64 × S7)) : Prop := ∀ (σ : S6) (τ : S7), Rel σ τ → ∃ (r : Int64) (σ1 : S6) (τ1 : S7), f σ = some (r, σ1) ∧ g τ = some (r, τ1) ∧ Rel σ1 τ1
def LawH (Rel : S6 → S7 → Prop) : Prop := E2 Rel fX6_pillar fX7_pillar ∧ E2 Rel fX6_weight fX7_weight ∧ E2 Rel fX6_draw fX7_draw ∧ E2 Rel fX6_strength fX7_strength ∧ E3 Rel fX6_wall fX7_wall ∧ E0 Rel fX6_mends fX7_mends ∧ E0 Rel fX6_anew fX7_anew ∧ E2 Rel fX6_of fX7_of ∧ E1 Rel fX6_rests fX7_rests ∧ E1 Rel fX6_all fX7_all ∧ E2 Rel fX6_beside fX7_beside ∧ E0 Rel fX6_runs fX7_runs ∧ E1 Rel fX6_loses fX7_loses ∧ E2 Rel fX6_wave fX7_wave ∧ E2 Rel fX6_would fX7_would ∧ E1 Rel fX6_worst fX7_worst ∧ E1 Rel fX6_cut fX7_cut ∧ E0 Rel fX6_mending fX7_mending ∧ E1 Rel fX6_bestWall fX7_bestWall ∧ E2 Rel fX6_bestCell fX7_bestCell ∧ E1 Rel fX6_type fX7_type ∧ E0 Rel fX6_clear fX7_clear ∧ E0 Rel fX6_does fX7_does ∧ E0 Rel fX6_back fX7_back ∧ E1 Rel fX6_told fX7_told ∧ EL Rel fX6_digest fX7_digest
theorem lg_cmp_self (x : Int64) : lg_cmp x x = 0 := by
  simp [lg_cmp]
theorem his_l (l x : va_W) {n : Nat} (h : l.length = n) : (List.range n).map (fun i => (l ++ x)[i]?) = l.map some := by
  subst h
  exact map_range_get l x
theorem his_r (l x : va_W) {n k : Nat} (h : l.length = n) (hk : x.length = k) : ((List.range k).map (fun i => n + i)).map (fun i => (l ++ x)[i]?) = x.map some := by
  subst h; subst hk
  apply List.ext_getElem?
  intro i
  simp only [List.getElem?_map]
  by_cases h : i < x.length
  · rw [List.getElem?_range h]
    simp only [Option.map_some]
    rw [List.getElem?_append_right (by omega), show l.length + i - l.length = i by omega]
    simp [List.getElem?_eq_getElem h]
  · simp [h, List.getElem?_eq_none (Nat.le_of_not_lt h)]
theorem Wr_l (l l1 x : va_W) {n k : Nat} (h : l.length = n) (h1 : l1.length = n) (hk : x.length = k) : Wr (l ++ x) (List.range n) l1 (l1 ++ x) :=
  ⟨(List.range k).map (fun i => n + i), n + k, his_l l1 x h1, (his_r l1 x h1 hk).trans (his_r l x h hk).symm, by rw [List.length_append, h1, hk], fun i hi => by
    by_cases h2 : i < n
    · exact Or.inl (List.mem_range.mpr h2)
    · exact Or.inr (List.mem_map.mpr ⟨i - n, List.mem_range.mpr (by omega), by omega⟩)⟩
theorem Wr_r (l x x1 : va_W) {n k : Nat} (h : l.length = n) (hk : x.length = k) (hk1 : x1.length = k) : Wr (l ++ x) ((List.range k).map (fun i => n + i)) x1 (l ++ x1) :=
  ⟨List.range n, n + k, his_r l x1 h hk1, (his_l l x1 h).trans (his_l l x h).symm, by rw [List.length_append, h, hk1], fun i hi => by
    by_cases h2 : i < n
    · exact Or.inr (List.mem_range.mpr h2)
    · exact Or.inl (List.mem_map.mpr ⟨i - n, List.mem_range.mpr (by omega), by omega⟩)⟩
theorem Go_sld {p : Program} {l : Launch} {e : Env} {R : Room} {s : State} {m : MethodId} {args : Array Value} {below : List Frame} {meth : Method} {c : Code} {K : KK} {A : Nat → Prop} {cc : ByteArray} {own : String} {nL d k n : Nat} {Q : State → Prop} {ws : va_W} {pc : Nat} {lv : List (Option Value)} {st : List Value} (C : Cx p R s m args meth c K A s.heap cc own nL d) {b L : Nat} {xs : Nat → Int32} (hX : va_X b L xs s s.heap) (hbl : b < s.heap.size) (hbA : ¬ A b) {i : Int32} (hin : vp_in i L) (hd : decode cc pc = .ok (.iaload, 1)) (kk : Go p l e R s m args below meth c K A s.heap nL k n Q ws  (pc + 1) lv (.int (xs i.toNatClampNeg) :: st)) : Go p l e R s m args below meth c K A s.heap nL k n Q ws  pc lv (.int i :: .ref b :: st) :=
  fun H locs ls hP hD hS hl => va_sld C.1 C.2.1 hX hbl hbA hS hin hd (kk H locs ls hP hD hS hl)
theorem Go_slen {p : Program} {l : Launch} {e : Env} {R : Room} {s : State} {m : MethodId} {args : Array Value} {below : List Frame} {meth : Method} {c : Code} {K : KK} {A : Nat → Prop} {cc : ByteArray} {own : String} {nL d k n : Nat} {Q : State → Prop} {ws : va_W} {pc : Nat} {lv : List (Option Value)} {st : List Value} (C : Cx p R s m args meth c K A s.heap cc own nL d) {b L : Nat} {xs : Nat → Int32} (hX : va_X b L xs s s.heap) (hbl : b < s.heap.size) (hbA : ¬ A b) (hd : decode cc pc = .ok (.arraylength, 1)) (kk : Go p l e R s m args below meth c K A s.heap nL k n Q ws  (pc + 1) lv (.int (nI L) :: st)) : Go p l e R s m args below meth c K A s.heap nL k n Q ws  pc lv (.ref b :: st) :=
  fun H locs ls hP hD hS hl => va_slen C.1 C.2.1 hX hbl hbA hS hd (kk H locs ls hP hD hS hl)
set_option maxHeartbeats 4000000 in
set_option maxRecDepth 100000 in
theorem law_pillar {p : Program} {l : Launch} {e : Env} {s : State} {m : MethodId} {below : List Frame} {meth : Method} {c : Code} {K : KK} {b L : Nat} {xs : Nat → Int32} {a a2 : Nat → Nat} {Rel : S6 → S7 → Prop} {σ : S6} {τ : S7} {i : Int32} (C : Cx p room_1 s m #[Value.ref b] meth c K (fun q : Nat => s.heap.size ≤ q) s.heap code RL 4 10) (hX : va_X b L xs s s.heap) (hbl : b < s.heap.size) (hRel : Rel σ τ) (hE : E2 Rel fX6_pillar fX7_pillar) (hi1 : vp_in (i + 1) L) (hi2 : vp_in (i + 2) L) (hi3 : vp_in (i + 3) L) (hn : ∀ (σ : S6) (τ : S7), Rel σ τ → Go p l e room_1 s m #[Value.ref b] below meth c K (fun q : Nat => s.heap.size ≤ q) s.heap 4 83 3209 (lw_Z below #[Value.ref b] s) (w6 K a σ ++ w7 K a2 τ) 781 [some (.ref b), some (.ref (a 0)), some (.ref (a2 0)), some (.int i)] []) : Go p l e room_1 s m #[Value.ref b] below meth c K (fun q : Nat => s.heap.size ≤ q) s.heap 4 83 3209 (lw_Z below #[Value.ref b] s) (w6 K a σ ++ w7 K a2 τ) 152 [some (.ref b), some (.ref (a 0)), some (.ref (a2 0)), some (.int i)] [] := by
  have hbA : ¬ (fun q : Nat => s.heap.size ≤ q) b := Nat.not_le.mpr hbl
  obtain ⟨r, σ1, τ1, h1, h2, hR1⟩ := hE σ τ (xs (i + 1).toNatClampNeg) (xs (i + 2).toNatClampNeg) hRel
  refine Go_aload_n (pc := 152) C dL_law_152 rfl ?_
  refine Go_aload_n (pc := 153) C dL_law_153 rfl ?_
  refine Go_iload_n (pc := 154) C dL_law_154 rfl ?_
  refine Go_iconst (pc := 155) (v := 1) C dL_law_155 ci_1 ?_
  refine Go_iadd (pc := 156) C dL_law_156 ?_
  refine Go_sld (pc := 157) C hX hbl hbA hi1 dL_law_157 ?_
  refine Go_aload_n (pc := 158) C dL_law_158 rfl ?_
  refine Go_iload_n (pc := 159) C dL_law_159 rfl ?_
  refine Go_iconst (pc := 160) (v := 2) C dL_law_160 ci_2 ?_
  refine Go_iadd (pc := 161) C dL_law_161 ?_
  refine Go_sld (pc := 162) C hX hbl hbA hi2 dL_law_162 ?_
  refine Go_callV1 (pc := 163) (ws1 := w6 K a σ1 ++ w7 K a2 τ) C 0 (List.range 69) (kX6_pillar l K a σ (xs (i + 1).toNatClampNeg) (xs (i + 2).toNatClampNeg) (r, σ1) h1) ycX6_pillar mw_265 (Nat.le_of_ble_eq_true rfl) rfl rfl rfl rfl (Nat.le_of_ble_eq_true rfl) ⟨(Nat.le_of_ble_eq_true rfl), (Nat.le_of_ble_eq_true rfl)⟩ dL_law_163 (his_l _ _ rfl) rfl rfl (Wr_l _ _ _ rfl rfl rfl) ?_
  refine Go_aload_n (pc := 166) C dL_law_166 rfl ?_
  refine Go_aload_n (pc := 167) C dL_law_167 rfl ?_
  refine Go_iload_n (pc := 168) C dL_law_168 rfl ?_
  refine Go_iconst (pc := 169) (v := 1) C dL_law_169 ci_1 ?_
  refine Go_iadd (pc := 170) C dL_law_170 ?_
  refine Go_sld (pc := 171) C hX hbl hbA hi1 dL_law_171 ?_
  refine Go_aload_n (pc := 172) C dL_law_172 rfl ?_
  refine Go_iload_n (pc := 173) C dL_law_173 rfl ?_
  refine Go_iconst (pc := 174) (v := 2) C dL_law_174 ci_2 ?_
  refine Go_iadd (pc := 175) C dL_law_175 ?_
  refine Go_sld (pc := 176) C hX hbl hbA hi2 dL_law_176 ?_
  refine Go_callV1 (pc := 177) (ws1 := w6 K a σ1 ++ w7 K a2 τ1) C 69 ((List.range 14).map (fun i => 69 + i)) (kX7_pillar l K a2 τ (xs (i + 1).toNatClampNeg) (xs (i + 2).toNatClampNeg) (r, τ1) h2) ycX7_pillar mw_715 (Nat.le_of_ble_eq_true rfl) rfl rfl rfl rfl (Nat.le_of_ble_eq_true rfl) ⟨(Nat.le_of_ble_eq_true rfl), (Nat.le_of_ble_eq_true rfl)⟩ dL_law_177 (his_r _ _ rfl rfl) rfl rfl (Wr_r _ _ _ rfl rfl rfl) ?_
  refine Go_icmp_eq (pc := 180) (tgt := 781) C dL_law_180 (by decide) (fun _ => ?_) (fun hc => absurd rfl hc)
  exact hn σ1 τ1 hR1
set_option maxHeartbeats 4000000 in
set_option maxRecDepth 100000 in
theorem law_weight {p : Program} {l : Launch} {e : Env} {s : State} {m : MethodId} {below : List Frame} {meth : Method} {c : Code} {K : KK} {b L : Nat} {xs : Nat → Int32} {a a2 : Nat → Nat} {Rel : S6 → S7 → Prop} {σ : S6} {τ : S7} {i : Int32} (C : Cx p room_1 s m #[Value.ref b] meth c K (fun q : Nat => s.heap.size ≤ q) s.heap code RL 4 10) (hX : va_X b L xs s s.heap) (hbl : b < s.heap.size) (hRel : Rel σ τ) (hE : E2 Rel fX6_weight fX7_weight) (hi1 : vp_in (i + 1) L) (hi2 : vp_in (i + 2) L) (hi3 : vp_in (i + 3) L) (hn : ∀ (σ : S6) (τ : S7), Rel σ τ → Go p l e room_1 s m #[Value.ref b] below meth c K (fun q : Nat => s.heap.size ≤ q) s.heap 4 83 3209 (lw_Z below #[Value.ref b] s) (w6 K a σ ++ w7 K a2 τ) 781 [some (.ref b), some (.ref (a 0)), some (.ref (a2 0)), some (.int i)] []) : Go p l e room_1 s m #[Value.ref b] below meth c K (fun q : Nat => s.heap.size ≤ q) s.heap 4 83 3209 (lw_Z below #[Value.ref b] s) (w6 K a σ ++ w7 K a2 τ) 185 [some (.ref b), some (.ref (a 0)), some (.ref (a2 0)), some (.int i)] [] := by
  have hbA : ¬ (fun q : Nat => s.heap.size ≤ q) b := Nat.not_le.mpr hbl
  obtain ⟨r, σ1, τ1, h1, h2, hR1⟩ := hE σ τ (xs (i + 1).toNatClampNeg) (xs (i + 2).toNatClampNeg) hRel
  refine Go_aload_n (pc := 185) C dL_law_185 rfl ?_
  refine Go_aload_n (pc := 186) C dL_law_186 rfl ?_
  refine Go_iload_n (pc := 187) C dL_law_187 rfl ?_
  refine Go_iconst (pc := 188) (v := 1) C dL_law_188 ci_1 ?_
  refine Go_iadd (pc := 189) C dL_law_189 ?_
  refine Go_sld (pc := 190) C hX hbl hbA hi1 dL_law_190 ?_
  refine Go_aload_n (pc := 191) C dL_law_191 rfl ?_
  refine Go_iload_n (pc := 192) C dL_law_192 rfl ?_
  refine Go_iconst (pc := 193) (v := 2) C dL_law_193 ci_2 ?_
  refine Go_iadd (pc := 194) C dL_law_194 ?_
  refine Go_sld (pc := 195) C hX hbl hbA hi2 dL_law_195 ?_
  refine Go_callV1 (pc := 196) (ws1 := w6 K a σ1 ++ w7 K a2 τ) C 0 (List.range 69) (kX6_weight l K a σ (xs (i + 1).toNatClampNeg) (xs (i + 2).toNatClampNeg) (r, σ1) h1) ycX6_weight mw_304 (Nat.le_of_ble_eq_true rfl) rfl rfl rfl rfl (Nat.le_of_ble_eq_true rfl) ⟨(Nat.le_of_ble_eq_true rfl), (Nat.le_of_ble_eq_true rfl)⟩ dL_law_196 (his_l _ _ rfl) rfl rfl (Wr_l _ _ _ rfl rfl rfl) ?_
  refine Go_aload_n (pc := 199) C dL_law_199 rfl ?_
  refine Go_aload_n (pc := 200) C dL_law_200 rfl ?_
  refine Go_iload_n (pc := 201) C dL_law_201 rfl ?_
  refine Go_iconst (pc := 202) (v := 1) C dL_law_202 ci_1 ?_
  refine Go_iadd (pc := 203) C dL_law_203 ?_
  refine Go_sld (pc := 204) C hX hbl hbA hi1 dL_law_204 ?_
  refine Go_aload_n (pc := 205) C dL_law_205 rfl ?_
  refine Go_iload_n (pc := 206) C dL_law_206 rfl ?_
  refine Go_iconst (pc := 207) (v := 2) C dL_law_207 ci_2 ?_
  refine Go_iadd (pc := 208) C dL_law_208 ?_
  refine Go_sld (pc := 209) C hX hbl hbA hi2 dL_law_209 ?_
  refine Go_callV1 (pc := 210) (ws1 := w6 K a σ1 ++ w7 K a2 τ1) C 69 ((List.range 14).map (fun i => 69 + i)) (kX7_weight l K a2 τ (xs (i + 1).toNatClampNeg) (xs (i + 2).toNatClampNeg) (r, τ1) h2) ycX7_weight mw_749 (Nat.le_of_ble_eq_true rfl) rfl rfl rfl rfl (Nat.le_of_ble_eq_true rfl) ⟨(Nat.le_of_ble_eq_true rfl), (Nat.le_of_ble_eq_true rfl)⟩ dL_law_210 (his_r _ _ rfl rfl) rfl rfl (Wr_r _ _ _ rfl rfl rfl) ?_
  refine Go_icmp_eq (pc := 213) (tgt := 781) C dL_law_213 (by decide) (fun _ => ?_) (fun hc => absurd rfl hc)
  exact hn σ1 τ1 hR1
set_option maxHeartbeats 4000000 in
set_option maxRecDepth 100000 in
theorem law_draw {p : Program} {l : Launch} {e : Env} {s : State} {m : MethodId} {below : List Frame} {meth : Method} {c : Code} {K : KK} {b L : Nat} {xs : Nat → Int32} {a a2 : Nat → Nat} {Rel : S6 → S7 → Prop} {σ : S6} {τ : S7} {i : Int32} (C : Cx p room_1 s m #[Value.ref b] meth c K (fun q : Nat => s.heap.size ≤ q) s.heap code RL 4 10) (hX : va_X b L xs s s.heap) (hbl : b < s.heap.size) (hRel : Rel σ τ) (hE : E2 Rel fX6_draw fX7_draw) (hi1 : vp_in (i + 1) L) (hi2 : vp_in (i + 2) L) (hi3 : vp_in (i + 3) L) (hn : ∀ (σ : S6) (τ : S7), Rel σ τ → Go p l e room_1 s m #[Value.ref b] below meth c K (fun q : Nat => s.heap.size ≤ q) s.heap 4 83 3209 (lw_Z below #[Value.ref b] s) (w6 K a σ ++ w7 K a2 τ) 781 [some (.ref b), some (.ref (a 0)), some (.ref (a2 0)), some (.int i)] []) : Go p l e room_1 s m #[Value.ref b] below meth c K (fun q : Nat => s.heap.size ≤ q) s.heap 4 83 3209 (lw_Z below #[Value.ref b] s) (w6 K a σ ++ w7 K a2 τ) 218 [some (.ref b), some (.ref (a 0)), some (.ref (a2 0)), some (.int i)] [] := by
  have hbA : ¬ (fun q : Nat => s.heap.size ≤ q) b := Nat.not_le.mpr hbl
  obtain ⟨r, σ1, τ1, h1, h2, hR1⟩ := hE σ τ (xs (i + 1).toNatClampNeg) (xs (i + 2).toNatClampNeg) hRel
  refine Go_aload_n (pc := 218) C dL_law_218 rfl ?_
  refine Go_aload_n (pc := 219) C dL_law_219 rfl ?_
  refine Go_iload_n (pc := 220) C dL_law_220 rfl ?_
  refine Go_iconst (pc := 221) (v := 1) C dL_law_221 ci_1 ?_
  refine Go_iadd (pc := 222) C dL_law_222 ?_
  refine Go_sld (pc := 223) C hX hbl hbA hi1 dL_law_223 ?_
  refine Go_aload_n (pc := 224) C dL_law_224 rfl ?_
  refine Go_iload_n (pc := 225) C dL_law_225 rfl ?_
  refine Go_iconst (pc := 226) (v := 2) C dL_law_226 ci_2 ?_
  refine Go_iadd (pc := 227) C dL_law_227 ?_
  refine Go_sld (pc := 228) C hX hbl hbA hi2 dL_law_228 ?_
  refine Go_callV1 (pc := 229) (ws1 := w6 K a σ1 ++ w7 K a2 τ) C 0 (List.range 69) (kX6_draw l K a σ (xs (i + 1).toNatClampNeg) (xs (i + 2).toNatClampNeg) (r, σ1) h1) ycX6_draw mw_308 (Nat.le_of_ble_eq_true rfl) rfl rfl rfl rfl (Nat.le_of_ble_eq_true rfl) ⟨(Nat.le_of_ble_eq_true rfl), (Nat.le_of_ble_eq_true rfl)⟩ dL_law_229 (his_l _ _ rfl) rfl rfl (Wr_l _ _ _ rfl rfl rfl) ?_
  refine Go_aload_n (pc := 232) C dL_law_232 rfl ?_
  refine Go_aload_n (pc := 233) C dL_law_233 rfl ?_
  refine Go_iload_n (pc := 234) C dL_law_234 rfl ?_
  refine Go_iconst (pc := 235) (v := 1) C dL_law_235 ci_1 ?_
  refine Go_iadd (pc := 236) C dL_law_236 ?_
  refine Go_sld (pc := 237) C hX hbl hbA hi1 dL_law_237 ?_
  refine Go_aload_n (pc := 238) C dL_law_238 rfl ?_
  refine Go_iload_n (pc := 239) C dL_law_239 rfl ?_
  refine Go_iconst (pc := 240) (v := 2) C dL_law_240 ci_2 ?_
  refine Go_iadd (pc := 241) C dL_law_241 ?_
  refine Go_sld (pc := 242) C hX hbl hbA hi2 dL_law_242 ?_
  refine Go_callV1 (pc := 243) (ws1 := w6 K a σ1 ++ w7 K a2 τ1) C 69 ((List.range 14).map (fun i => 69 + i)) (kX7_draw l K a2 τ (xs (i + 1).toNatClampNeg) (xs (i + 2).toNatClampNeg) (r, τ1) h2) ycX7_draw mw_753 (Nat.le_of_ble_eq_true rfl) rfl rfl rfl rfl (Nat.le_of_ble_eq_true rfl) ⟨(Nat.le_of_ble_eq_true rfl), (Nat.le_of_ble_eq_true rfl)⟩ dL_law_243 (his_r _ _ rfl rfl) rfl rfl (Wr_r _ _ _ rfl rfl rfl) ?_
  refine Go_icmp_eq (pc := 246) (tgt := 781) C dL_law_246 (by decide) (fun _ => ?_) (fun hc => absurd rfl hc)
  exact hn σ1 τ1 hR1
set_option maxHeartbeats 4000000 in
set_option maxRecDepth 100000 in
theorem law_strength {p : Program} {l : Launch} {e : Env} {s : State} {m : MethodId} {below : List Frame} {meth : Method} {c : Code} {K : KK} {b L : Nat} {xs : Nat → Int32} {a a2 : Nat → Nat} {Rel : S6 → S7 → Prop} {σ : S6} {τ : S7} {i : Int32} (C : Cx p room_1 s m #[Value.ref b] meth c K (fun q : Nat => s.heap.size ≤ q) s.heap code RL 4 10) (hX : va_X b L xs s s.heap) (hbl : b < s.heap.size) (hRel : Rel σ τ) (hE : E2 Rel fX6_strength fX7_strength) (hi1 : vp_in (i + 1) L) (hi2 : vp_in (i + 2) L) (hi3 : vp_in (i + 3) L) (hn : ∀ (σ : S6) (τ : S7), Rel σ τ → Go p l e room_1 s m #[Value.ref b] below meth c K (fun q : Nat => s.heap.size ≤ q) s.heap 4 83 3209 (lw_Z below #[Value.ref b] s) (w6 K a σ ++ w7 K a2 τ) 781 [some (.ref b), some (.ref (a 0)), some (.ref (a2 0)), some (.int i)] []) : Go p l e room_1 s m #[Value.ref b] below meth c K (fun q : Nat => s.heap.size ≤ q) s.heap 4 83 3209 (lw_Z below #[Value.ref b] s) (w6 K a σ ++ w7 K a2 τ) 251 [some (.ref b), some (.ref (a 0)), some (.ref (a2 0)), some (.int i)] [] := by
  have hbA : ¬ (fun q : Nat => s.heap.size ≤ q) b := Nat.not_le.mpr hbl
  obtain ⟨r, σ1, τ1, h1, h2, hR1⟩ := hE σ τ (xs (i + 1).toNatClampNeg) (xs (i + 2).toNatClampNeg) hRel
  refine Go_aload_n (pc := 251) C dL_law_251 rfl ?_
  refine Go_aload_n (pc := 252) C dL_law_252 rfl ?_
  refine Go_iload_n (pc := 253) C dL_law_253 rfl ?_
  refine Go_iconst (pc := 254) (v := 1) C dL_law_254 ci_1 ?_
  refine Go_iadd (pc := 255) C dL_law_255 ?_
  refine Go_sld (pc := 256) C hX hbl hbA hi1 dL_law_256 ?_
  refine Go_aload_n (pc := 257) C dL_law_257 rfl ?_
  refine Go_iload_n (pc := 258) C dL_law_258 rfl ?_
  refine Go_iconst (pc := 259) (v := 2) C dL_law_259 ci_2 ?_
  refine Go_iadd (pc := 260) C dL_law_260 ?_
  refine Go_sld (pc := 261) C hX hbl hbA hi2 dL_law_261 ?_
  refine Go_callV1 (pc := 262) (ws1 := w6 K a σ1 ++ w7 K a2 τ) C 0 (List.range 69) (kX6_strength l K a σ (xs (i + 1).toNatClampNeg) (xs (i + 2).toNatClampNeg) (r, σ1) h1) ycX6_strength mw_320 (Nat.le_of_ble_eq_true rfl) rfl rfl rfl rfl (Nat.le_of_ble_eq_true rfl) ⟨(Nat.le_of_ble_eq_true rfl), (Nat.le_of_ble_eq_true rfl)⟩ dL_law_262 (his_l _ _ rfl) rfl rfl (Wr_l _ _ _ rfl rfl rfl) ?_
  refine Go_aload_n (pc := 265) C dL_law_265 rfl ?_
  refine Go_aload_n (pc := 266) C dL_law_266 rfl ?_
  refine Go_iload_n (pc := 267) C dL_law_267 rfl ?_
  refine Go_iconst (pc := 268) (v := 1) C dL_law_268 ci_1 ?_
  refine Go_iadd (pc := 269) C dL_law_269 ?_
  refine Go_sld (pc := 270) C hX hbl hbA hi1 dL_law_270 ?_
  refine Go_aload_n (pc := 271) C dL_law_271 rfl ?_
  refine Go_iload_n (pc := 272) C dL_law_272 rfl ?_
  refine Go_iconst (pc := 273) (v := 2) C dL_law_273 ci_2 ?_
  refine Go_iadd (pc := 274) C dL_law_274 ?_
  refine Go_sld (pc := 275) C hX hbl hbA hi2 dL_law_275 ?_
  refine Go_callV1 (pc := 276) (ws1 := w6 K a σ1 ++ w7 K a2 τ1) C 69 ((List.range 14).map (fun i => 69 + i)) (kX7_strength l K a2 τ (xs (i + 1).toNatClampNeg) (xs (i + 2).toNatClampNeg) (r, τ1) h2) ycX7_strength mw_762 (Nat.le_of_ble_eq_true rfl) rfl rfl rfl rfl (Nat.le_of_ble_eq_true rfl) ⟨(Nat.le_of_ble_eq_true rfl), (Nat.le_of_ble_eq_true rfl)⟩ dL_law_276 (his_r _ _ rfl rfl) rfl rfl (Wr_r _ _ _ rfl rfl rfl) ?_
  refine Go_icmp_eq (pc := 279) (tgt := 781) C dL_law_279 (by decide) (fun _ => ?_) (fun hc => absurd rfl hc)
  exact hn σ1 τ1 hR1
set_option maxHeartbeats 4000000 in
set_option maxRecDepth 100000 in
theorem law_wall {p : Program} {l : Launch} {e : Env} {s : State} {m : MethodId} {below : List Frame} {meth : Method} {c : Code} {K : KK} {b L : Nat} {xs : Nat → Int32} {a a2 : Nat → Nat} {Rel : S6 → S7 → Prop} {σ : S6} {τ : S7} {i : Int32} (C : Cx p room_1 s m #[Value.ref b] meth c K (fun q : Nat => s.heap.size ≤ q) s.heap code RL 4 10) (hX : va_X b L xs s s.heap) (hbl : b < s.heap.size) (hRel : Rel σ τ) (hE : E3 Rel fX6_wall fX7_wall) (hi1 : vp_in (i + 1) L) (hi2 : vp_in (i + 2) L) (hi3 : vp_in (i + 3) L) (hn : ∀ (σ : S6) (τ : S7), Rel σ τ → Go p l e room_1 s m #[Value.ref b] below meth c K (fun q : Nat => s.heap.size ≤ q) s.heap 4 83 3209 (lw_Z below #[Value.ref b] s) (w6 K a σ ++ w7 K a2 τ) 781 [some (.ref b), some (.ref (a 0)), some (.ref (a2 0)), some (.int i)] []) : Go p l e room_1 s m #[Value.ref b] below meth c K (fun q : Nat => s.heap.size ≤ q) s.heap 4 83 3209 (lw_Z below #[Value.ref b] s) (w6 K a σ ++ w7 K a2 τ) 284 [some (.ref b), some (.ref (a 0)), some (.ref (a2 0)), some (.int i)] [] := by
  have hbA : ¬ (fun q : Nat => s.heap.size ≤ q) b := Nat.not_le.mpr hbl
  obtain ⟨r, σ1, τ1, h1, h2, hR1⟩ := hE σ τ (xs (i + 1).toNatClampNeg) (xs (i + 2).toNatClampNeg) (xs (i + 3).toNatClampNeg) hRel
  refine Go_aload_n (pc := 284) C dL_law_284 rfl ?_
  refine Go_aload_n (pc := 285) C dL_law_285 rfl ?_
  refine Go_iload_n (pc := 286) C dL_law_286 rfl ?_
  refine Go_iconst (pc := 287) (v := 1) C dL_law_287 ci_1 ?_
  refine Go_iadd (pc := 288) C dL_law_288 ?_
  refine Go_sld (pc := 289) C hX hbl hbA hi1 dL_law_289 ?_
  refine Go_aload_n (pc := 290) C dL_law_290 rfl ?_
  refine Go_iload_n (pc := 291) C dL_law_291 rfl ?_
  refine Go_iconst (pc := 292) (v := 2) C dL_law_292 ci_2 ?_
  refine Go_iadd (pc := 293) C dL_law_293 ?_
  refine Go_sld (pc := 294) C hX hbl hbA hi2 dL_law_294 ?_
  refine Go_aload_n (pc := 295) C dL_law_295 rfl ?_
  refine Go_iload_n (pc := 296) C dL_law_296 rfl ?_
  refine Go_iconst (pc := 297) (v := 3) C dL_law_297 ci_3 ?_
  refine Go_iadd (pc := 298) C dL_law_298 ?_
  refine Go_sld (pc := 299) C hX hbl hbA hi3 dL_law_299 ?_
  refine Go_callV1 (pc := 300) (ws1 := w6 K a σ1 ++ w7 K a2 τ) C 0 (List.range 69) (kX6_wall l K a σ (xs (i + 1).toNatClampNeg) (xs (i + 2).toNatClampNeg) (xs (i + 3).toNatClampNeg) (r, σ1) h1) ycX6_wall mw_328 (Nat.le_of_ble_eq_true rfl) rfl rfl rfl rfl (Nat.le_of_ble_eq_true rfl) ⟨(Nat.le_of_ble_eq_true rfl), (Nat.le_of_ble_eq_true rfl)⟩ dL_law_300 (his_l _ _ rfl) rfl rfl (Wr_l _ _ _ rfl rfl rfl) ?_
  refine Go_aload_n (pc := 303) C dL_law_303 rfl ?_
  refine Go_aload_n (pc := 304) C dL_law_304 rfl ?_
  refine Go_iload_n (pc := 305) C dL_law_305 rfl ?_
  refine Go_iconst (pc := 306) (v := 1) C dL_law_306 ci_1 ?_
  refine Go_iadd (pc := 307) C dL_law_307 ?_
  refine Go_sld (pc := 308) C hX hbl hbA hi1 dL_law_308 ?_
  refine Go_aload_n (pc := 309) C dL_law_309 rfl ?_
  refine Go_iload_n (pc := 310) C dL_law_310 rfl ?_
  refine Go_iconst (pc := 311) (v := 2) C dL_law_311 ci_2 ?_
  refine Go_iadd (pc := 312) C dL_law_312 ?_
  refine Go_sld (pc := 313) C hX hbl hbA hi2 dL_law_313 ?_
  refine Go_aload_n (pc := 314) C dL_law_314 rfl ?_
  refine Go_iload_n (pc := 315) C dL_law_315 rfl ?_
  refine Go_iconst (pc := 316) (v := 3) C dL_law_316 ci_3 ?_
  refine Go_iadd (pc := 317) C dL_law_317 ?_
  refine Go_sld (pc := 318) C hX hbl hbA hi3 dL_law_318 ?_
  refine Go_callV1 (pc := 319) (ws1 := w6 K a σ1 ++ w7 K a2 τ1) C 69 ((List.range 14).map (fun i => 69 + i)) (kX7_wall l K a2 τ (xs (i + 1).toNatClampNeg) (xs (i + 2).toNatClampNeg) (xs (i + 3).toNatClampNeg) (r, τ1) h2) ycX7_wall mw_770 (Nat.le_of_ble_eq_true rfl) rfl rfl rfl rfl (Nat.le_of_ble_eq_true rfl) ⟨(Nat.le_of_ble_eq_true rfl), (Nat.le_of_ble_eq_true rfl)⟩ dL_law_319 (his_r _ _ rfl rfl) rfl rfl (Wr_r _ _ _ rfl rfl rfl) ?_
  refine Go_icmp_eq (pc := 322) (tgt := 781) C dL_law_322 (by decide) (fun _ => ?_) (fun hc => absurd rfl hc)
  exact hn σ1 τ1 hR1
set_option maxHeartbeats 4000000 in
set_option maxRecDepth 100000 in
theorem law_mends {p : Program} {l : Launch} {e : Env} {s : State} {m : MethodId} {below : List Frame} {meth : Method} {c : Code} {K : KK} {b L : Nat} {xs : Nat → Int32} {a a2 : Nat → Nat} {Rel : S6 → S7 → Prop} {σ : S6} {τ : S7} {i : Int32} (C : Cx p room_1 s m #[Value.ref b] meth c K (fun q : Nat => s.heap.size ≤ q) s.heap code RL 4 10) (hX : va_X b L xs s s.heap) (hbl : b < s.heap.size) (hRel : Rel σ τ) (hE : E0 Rel fX6_mends fX7_mends) (hi1 : vp_in (i + 1) L) (hi2 : vp_in (i + 2) L) (hi3 : vp_in (i + 3) L) (hn : ∀ (σ : S6) (τ : S7), Rel σ τ → Go p l e room_1 s m #[Value.ref b] below meth c K (fun q : Nat => s.heap.size ≤ q) s.heap 4 83 3209 (lw_Z below #[Value.ref b] s) (w6 K a σ ++ w7 K a2 τ) 781 [some (.ref b), some (.ref (a 0)), some (.ref (a2 0)), some (.int i)] []) : Go p l e room_1 s m #[Value.ref b] below meth c K (fun q : Nat => s.heap.size ≤ q) s.heap 4 83 3209 (lw_Z below #[Value.ref b] s) (w6 K a σ ++ w7 K a2 τ) 327 [some (.ref b), some (.ref (a 0)), some (.ref (a2 0)), some (.int i)] [] := by
  have hbA : ¬ (fun q : Nat => s.heap.size ≤ q) b := Nat.not_le.mpr hbl
  obtain ⟨r, σ1, τ1, h1, h2, hR1⟩ := hE σ τ hRel
  refine Go_aload_n (pc := 327) C dL_law_327 rfl ?_
  refine Go_callV1 (pc := 328) (ws1 := w6 K a σ1 ++ w7 K a2 τ) C 0 (List.range 69) (kX6_mends l K a σ (r, σ1) h1) ycX6_mends mw_332 (Nat.le_of_ble_eq_true rfl) rfl rfl rfl rfl (Nat.le_of_ble_eq_true rfl) ⟨(Nat.le_of_ble_eq_true rfl), (Nat.le_of_ble_eq_true rfl)⟩ dL_law_328 (his_l _ _ rfl) rfl rfl (Wr_l _ _ _ rfl rfl rfl) ?_
  refine Go_aload_n (pc := 331) C dL_law_331 rfl ?_
  refine Go_callV1 (pc := 332) (ws1 := w6 K a σ1 ++ w7 K a2 τ1) C 69 ((List.range 14).map (fun i => 69 + i)) (kX7_mends l K a2 τ (r, τ1) h2) ycX7_mends mw_777 (Nat.le_of_ble_eq_true rfl) rfl rfl rfl rfl (Nat.le_of_ble_eq_true rfl) ⟨(Nat.le_of_ble_eq_true rfl), (Nat.le_of_ble_eq_true rfl)⟩ dL_law_332 (his_r _ _ rfl rfl) rfl rfl (Wr_r _ _ _ rfl rfl rfl) ?_
  refine Go_icmp_eq (pc := 335) (tgt := 781) C dL_law_335 (by decide) (fun _ => ?_) (fun hc => absurd rfl hc)
  exact hn σ1 τ1 hR1
set_option maxHeartbeats 4000000 in
set_option maxRecDepth 100000 in
theorem law_anew {p : Program} {l : Launch} {e : Env} {s : State} {m : MethodId} {below : List Frame} {meth : Method} {c : Code} {K : KK} {b L : Nat} {xs : Nat → Int32} {a a2 : Nat → Nat} {Rel : S6 → S7 → Prop} {σ : S6} {τ : S7} {i : Int32} (C : Cx p room_1 s m #[Value.ref b] meth c K (fun q : Nat => s.heap.size ≤ q) s.heap code RL 4 10) (hX : va_X b L xs s s.heap) (hbl : b < s.heap.size) (hRel : Rel σ τ) (hE : E0 Rel fX6_anew fX7_anew) (hi1 : vp_in (i + 1) L) (hi2 : vp_in (i + 2) L) (hi3 : vp_in (i + 3) L) (hn : ∀ (σ : S6) (τ : S7), Rel σ τ → Go p l e room_1 s m #[Value.ref b] below meth c K (fun q : Nat => s.heap.size ≤ q) s.heap 4 83 3209 (lw_Z below #[Value.ref b] s) (w6 K a σ ++ w7 K a2 τ) 781 [some (.ref b), some (.ref (a 0)), some (.ref (a2 0)), some (.int i)] []) : Go p l e room_1 s m #[Value.ref b] below meth c K (fun q : Nat => s.heap.size ≤ q) s.heap 4 83 3209 (lw_Z below #[Value.ref b] s) (w6 K a σ ++ w7 K a2 τ) 340 [some (.ref b), some (.ref (a 0)), some (.ref (a2 0)), some (.int i)] [] := by
  have hbA : ¬ (fun q : Nat => s.heap.size ≤ q) b := Nat.not_le.mpr hbl
  obtain ⟨r, σ1, τ1, h1, h2, hR1⟩ := hE σ τ hRel
  refine Go_aload_n (pc := 340) C dL_law_340 rfl ?_
  refine Go_callV1 (pc := 341) (ws1 := w6 K a σ1 ++ w7 K a2 τ) C 0 (List.range 69) (kX6_anew l K a σ (r, σ1) h1) ycX6_anew mw_341 (Nat.le_of_ble_eq_true rfl) rfl rfl rfl rfl (Nat.le_of_ble_eq_true rfl) ⟨(Nat.le_of_ble_eq_true rfl), (Nat.le_of_ble_eq_true rfl)⟩ dL_law_341 (his_l _ _ rfl) rfl rfl (Wr_l _ _ _ rfl rfl rfl) ?_
  refine Go_aload_n (pc := 344) C dL_law_344 rfl ?_
  refine Go_callV1 (pc := 345) (ws1 := w6 K a σ1 ++ w7 K a2 τ1) C 69 ((List.range 14).map (fun i => 69 + i)) (kX7_anew l K a2 τ (r, τ1) h2) ycX7_anew mw_784 (Nat.le_of_ble_eq_true rfl) rfl rfl rfl rfl (Nat.le_of_ble_eq_true rfl) ⟨(Nat.le_of_ble_eq_true rfl), (Nat.le_of_ble_eq_true rfl)⟩ dL_law_345 (his_r _ _ rfl rfl) rfl rfl (Wr_r _ _ _ rfl rfl rfl) ?_
  refine Go_icmp_eq (pc := 348) (tgt := 781) C dL_law_348 (by decide) (fun _ => ?_) (fun hc => absurd rfl hc)
  exact hn σ1 τ1 hR1
set_option maxHeartbeats 4000000 in
set_option maxRecDepth 100000 in
theorem law_of {p : Program} {l : Launch} {e : Env} {s : State} {m : MethodId} {below : List Frame} {meth : Method} {c : Code} {K : KK} {b L : Nat} {xs : Nat → Int32} {a a2 : Nat → Nat} {Rel : S6 → S7 → Prop} {σ : S6} {τ : S7} {i : Int32} (C : Cx p room_1 s m #[Value.ref b] meth c K (fun q : Nat => s.heap.size ≤ q) s.heap code RL 4 10) (hX : va_X b L xs s s.heap) (hbl : b < s.heap.size) (hRel : Rel σ τ) (hE : E2 Rel fX6_of fX7_of) (hi1 : vp_in (i + 1) L) (hi2 : vp_in (i + 2) L) (hi3 : vp_in (i + 3) L) (hn : ∀ (σ : S6) (τ : S7), Rel σ τ → Go p l e room_1 s m #[Value.ref b] below meth c K (fun q : Nat => s.heap.size ≤ q) s.heap 4 83 3209 (lw_Z below #[Value.ref b] s) (w6 K a σ ++ w7 K a2 τ) 781 [some (.ref b), some (.ref (a 0)), some (.ref (a2 0)), some (.int i)] []) : Go p l e room_1 s m #[Value.ref b] below meth c K (fun q : Nat => s.heap.size ≤ q) s.heap 4 83 3209 (lw_Z below #[Value.ref b] s) (w6 K a σ ++ w7 K a2 τ) 353 [some (.ref b), some (.ref (a 0)), some (.ref (a2 0)), some (.int i)] [] := by
  have hbA : ¬ (fun q : Nat => s.heap.size ≤ q) b := Nat.not_le.mpr hbl
  obtain ⟨r, σ1, τ1, h1, h2, hR1⟩ := hE σ τ (xs (i + 1).toNatClampNeg) (xs (i + 2).toNatClampNeg) hRel
  refine Go_aload_n (pc := 353) C dL_law_353 rfl ?_
  refine Go_aload_n (pc := 354) C dL_law_354 rfl ?_
  refine Go_iload_n (pc := 355) C dL_law_355 rfl ?_
  refine Go_iconst (pc := 356) (v := 1) C dL_law_356 ci_1 ?_
  refine Go_iadd (pc := 357) C dL_law_357 ?_
  refine Go_sld (pc := 358) C hX hbl hbA hi1 dL_law_358 ?_
  refine Go_aload_n (pc := 359) C dL_law_359 rfl ?_
  refine Go_iload_n (pc := 360) C dL_law_360 rfl ?_
  refine Go_iconst (pc := 361) (v := 2) C dL_law_361 ci_2 ?_
  refine Go_iadd (pc := 362) C dL_law_362 ?_
  refine Go_sld (pc := 363) C hX hbl hbA hi2 dL_law_363 ?_
  refine Go_callV1 (pc := 364) (ws1 := w6 K a σ1 ++ w7 K a2 τ) C 0 (List.range 69) (kX6_of l K a σ (xs (i + 1).toNatClampNeg) (xs (i + 2).toNatClampNeg) (r, σ1) h1) ycX6_of mw_346 (Nat.le_of_ble_eq_true rfl) rfl rfl rfl rfl (Nat.le_of_ble_eq_true rfl) ⟨(Nat.le_of_ble_eq_true rfl), (Nat.le_of_ble_eq_true rfl)⟩ dL_law_364 (his_l _ _ rfl) rfl rfl (Wr_l _ _ _ rfl rfl rfl) ?_
  refine Go_aload_n (pc := 367) C dL_law_367 rfl ?_
  refine Go_aload_n (pc := 368) C dL_law_368 rfl ?_
  refine Go_iload_n (pc := 369) C dL_law_369 rfl ?_
  refine Go_iconst (pc := 370) (v := 1) C dL_law_370 ci_1 ?_
  refine Go_iadd (pc := 371) C dL_law_371 ?_
  refine Go_sld (pc := 372) C hX hbl hbA hi1 dL_law_372 ?_
  refine Go_aload_n (pc := 373) C dL_law_373 rfl ?_
  refine Go_iload_n (pc := 374) C dL_law_374 rfl ?_
  refine Go_iconst (pc := 375) (v := 2) C dL_law_375 ci_2 ?_
  refine Go_iadd (pc := 376) C dL_law_376 ?_
  refine Go_sld (pc := 377) C hX hbl hbA hi2 dL_law_377 ?_
  refine Go_callV1 (pc := 378) (ws1 := w6 K a σ1 ++ w7 K a2 τ1) C 69 ((List.range 14).map (fun i => 69 + i)) (kX7_of l K a2 τ (xs (i + 1).toNatClampNeg) (xs (i + 2).toNatClampNeg) (r, τ1) h2) ycX7_of mw_788 (Nat.le_of_ble_eq_true rfl) rfl rfl rfl rfl (Nat.le_of_ble_eq_true rfl) ⟨(Nat.le_of_ble_eq_true rfl), (Nat.le_of_ble_eq_true rfl)⟩ dL_law_378 (his_r _ _ rfl rfl) rfl rfl (Wr_r _ _ _ rfl rfl rfl) ?_
  refine Go_icmp_eq (pc := 381) (tgt := 781) C dL_law_381 (by decide) (fun _ => ?_) (fun hc => absurd rfl hc)
  exact hn σ1 τ1 hR1
set_option maxHeartbeats 4000000 in
set_option maxRecDepth 100000 in
theorem law_rests {p : Program} {l : Launch} {e : Env} {s : State} {m : MethodId} {below : List Frame} {meth : Method} {c : Code} {K : KK} {b L : Nat} {xs : Nat → Int32} {a a2 : Nat → Nat} {Rel : S6 → S7 → Prop} {σ : S6} {τ : S7} {i : Int32} (C : Cx p room_1 s m #[Value.ref b] meth c K (fun q : Nat => s.heap.size ≤ q) s.heap code RL 4 10) (hX : va_X b L xs s s.heap) (hbl : b < s.heap.size) (hRel : Rel σ τ) (hE : E1 Rel fX6_rests fX7_rests) (hi1 : vp_in (i + 1) L) (hi2 : vp_in (i + 2) L) (hi3 : vp_in (i + 3) L) (hn : ∀ (σ : S6) (τ : S7), Rel σ τ → Go p l e room_1 s m #[Value.ref b] below meth c K (fun q : Nat => s.heap.size ≤ q) s.heap 4 83 3209 (lw_Z below #[Value.ref b] s) (w6 K a σ ++ w7 K a2 τ) 781 [some (.ref b), some (.ref (a 0)), some (.ref (a2 0)), some (.int i)] []) : Go p l e room_1 s m #[Value.ref b] below meth c K (fun q : Nat => s.heap.size ≤ q) s.heap 4 83 3209 (lw_Z below #[Value.ref b] s) (w6 K a σ ++ w7 K a2 τ) 386 [some (.ref b), some (.ref (a 0)), some (.ref (a2 0)), some (.int i)] [] := by
  have hbA : ¬ (fun q : Nat => s.heap.size ≤ q) b := Nat.not_le.mpr hbl
  obtain ⟨r, σ1, τ1, h1, h2, hR1⟩ := hE σ τ (xs (i + 1).toNatClampNeg) hRel
  refine Go_aload_n (pc := 386) C dL_law_386 rfl ?_
  refine Go_aload_n (pc := 387) C dL_law_387 rfl ?_
  refine Go_iload_n (pc := 388) C dL_law_388 rfl ?_
  refine Go_iconst (pc := 389) (v := 1) C dL_law_389 ci_1 ?_
  refine Go_iadd (pc := 390) C dL_law_390 ?_
  refine Go_sld (pc := 391) C hX hbl hbA hi1 dL_law_391 ?_
  refine Go_callV1 (pc := 392) (ws1 := w6 K a σ1 ++ w7 K a2 τ) C 0 (List.range 69) (kX6_rests l K a σ (xs (i + 1).toNatClampNeg) (r, σ1) h1) ycX6_rests mw_383 (Nat.le_of_ble_eq_true rfl) rfl rfl rfl rfl (Nat.le_of_ble_eq_true rfl) ⟨(Nat.le_of_ble_eq_true rfl), (Nat.le_of_ble_eq_true rfl)⟩ dL_law_392 (his_l _ _ rfl) rfl rfl (Wr_l _ _ _ rfl rfl rfl) ?_
  refine Go_aload_n (pc := 395) C dL_law_395 rfl ?_
  refine Go_aload_n (pc := 396) C dL_law_396 rfl ?_
  refine Go_iload_n (pc := 397) C dL_law_397 rfl ?_
  refine Go_iconst (pc := 398) (v := 1) C dL_law_398 ci_1 ?_
  refine Go_iadd (pc := 399) C dL_law_399 ?_
  refine Go_sld (pc := 400) C hX hbl hbA hi1 dL_law_400 ?_
  refine Go_callV1 (pc := 401) (ws1 := w6 K a σ1 ++ w7 K a2 τ1) C 69 ((List.range 14).map (fun i => 69 + i)) (kX7_rests l K a2 τ (xs (i + 1).toNatClampNeg) (r, τ1) h2) ycX7_rests mw_823 (Nat.le_of_ble_eq_true rfl) rfl rfl rfl rfl (Nat.le_of_ble_eq_true rfl) ⟨(Nat.le_of_ble_eq_true rfl), (Nat.le_of_ble_eq_true rfl)⟩ dL_law_401 (his_r _ _ rfl rfl) rfl rfl (Wr_r _ _ _ rfl rfl rfl) ?_
  refine Go_icmp_eq (pc := 404) (tgt := 781) C dL_law_404 (by decide) (fun _ => ?_) (fun hc => absurd rfl hc)
  exact hn σ1 τ1 hR1
set_option maxHeartbeats 4000000 in
set_option maxRecDepth 100000 in
theorem law_all {p : Program} {l : Launch} {e : Env} {s : State} {m : MethodId} {below : List Frame} {meth : Method} {c : Code} {K : KK} {b L : Nat} {xs : Nat → Int32} {a a2 : Nat → Nat} {Rel : S6 → S7 → Prop} {σ : S6} {τ : S7} {i : Int32} (C : Cx p room_1 s m #[Value.ref b] meth c K (fun q : Nat => s.heap.size ≤ q) s.heap code RL 4 10) (hX : va_X b L xs s s.heap) (hbl : b < s.heap.size) (hRel : Rel σ τ) (hE : E1 Rel fX6_all fX7_all) (hi1 : vp_in (i + 1) L) (hi2 : vp_in (i + 2) L) (hi3 : vp_in (i + 3) L) (hn : ∀ (σ : S6) (τ : S7), Rel σ τ → Go p l e room_1 s m #[Value.ref b] below meth c K (fun q : Nat => s.heap.size ≤ q) s.heap 4 83 3209 (lw_Z below #[Value.ref b] s) (w6 K a σ ++ w7 K a2 τ) 781 [some (.ref b), some (.ref (a 0)), some (.ref (a2 0)), some (.int i)] []) : Go p l e room_1 s m #[Value.ref b] below meth c K (fun q : Nat => s.heap.size ≤ q) s.heap 4 83 3209 (lw_Z below #[Value.ref b] s) (w6 K a σ ++ w7 K a2 τ) 409 [some (.ref b), some (.ref (a 0)), some (.ref (a2 0)), some (.int i)] [] := by
  have hbA : ¬ (fun q : Nat => s.heap.size ≤ q) b := Nat.not_le.mpr hbl
  obtain ⟨r, σ1, τ1, h1, h2, hR1⟩ := hE σ τ (xs (i + 1).toNatClampNeg) hRel
  refine Go_aload_n (pc := 409) C dL_law_409 rfl ?_
  refine Go_aload_n (pc := 410) C dL_law_410 rfl ?_
  refine Go_iload_n (pc := 411) C dL_law_411 rfl ?_
  refine Go_iconst (pc := 412) (v := 1) C dL_law_412 ci_1 ?_
  refine Go_iadd (pc := 413) C dL_law_413 ?_
  refine Go_sld (pc := 414) C hX hbl hbA hi1 dL_law_414 ?_
  refine Go_callV1 (pc := 415) (ws1 := w6 K a σ1 ++ w7 K a2 τ) C 0 (List.range 69) (kX6_all l K a σ (xs (i + 1).toNatClampNeg) (r, σ1) h1) ycX6_all mw_387 (Nat.le_of_ble_eq_true rfl) rfl rfl rfl rfl (Nat.le_of_ble_eq_true rfl) ⟨(Nat.le_of_ble_eq_true rfl), (Nat.le_of_ble_eq_true rfl)⟩ dL_law_415 (his_l _ _ rfl) rfl rfl (Wr_l _ _ _ rfl rfl rfl) ?_
  refine Go_aload_n (pc := 418) C dL_law_418 rfl ?_
  refine Go_aload_n (pc := 419) C dL_law_419 rfl ?_
  refine Go_iload_n (pc := 420) C dL_law_420 rfl ?_
  refine Go_iconst (pc := 421) (v := 1) C dL_law_421 ci_1 ?_
  refine Go_iadd (pc := 422) C dL_law_422 ?_
  refine Go_sld (pc := 423) C hX hbl hbA hi1 dL_law_423 ?_
  refine Go_callV1 (pc := 424) (ws1 := w6 K a σ1 ++ w7 K a2 τ1) C 69 ((List.range 14).map (fun i => 69 + i)) (kX7_all l K a2 τ (xs (i + 1).toNatClampNeg) (r, τ1) h2) ycX7_all mw_827 (Nat.le_of_ble_eq_true rfl) rfl rfl rfl rfl (Nat.le_of_ble_eq_true rfl) ⟨(Nat.le_of_ble_eq_true rfl), (Nat.le_of_ble_eq_true rfl)⟩ dL_law_424 (his_r _ _ rfl rfl) rfl rfl (Wr_r _ _ _ rfl rfl rfl) ?_
  refine Go_icmp_eq (pc := 427) (tgt := 781) C dL_law_427 (by decide) (fun _ => ?_) (fun hc => absurd rfl hc)
  exact hn σ1 τ1 hR1
set_option maxHeartbeats 4000000 in
set_option maxRecDepth 100000 in
theorem law_beside {p : Program} {l : Launch} {e : Env} {s : State} {m : MethodId} {below : List Frame} {meth : Method} {c : Code} {K : KK} {b L : Nat} {xs : Nat → Int32} {a a2 : Nat → Nat} {Rel : S6 → S7 → Prop} {σ : S6} {τ : S7} {i : Int32} (C : Cx p room_1 s m #[Value.ref b] meth c K (fun q : Nat => s.heap.size ≤ q) s.heap code RL 4 10) (hX : va_X b L xs s s.heap) (hbl : b < s.heap.size) (hRel : Rel σ τ) (hE : E2 Rel fX6_beside fX7_beside) (hi1 : vp_in (i + 1) L) (hi2 : vp_in (i + 2) L) (hi3 : vp_in (i + 3) L) (hn : ∀ (σ : S6) (τ : S7), Rel σ τ → Go p l e room_1 s m #[Value.ref b] below meth c K (fun q : Nat => s.heap.size ≤ q) s.heap 4 83 3209 (lw_Z below #[Value.ref b] s) (w6 K a σ ++ w7 K a2 τ) 781 [some (.ref b), some (.ref (a 0)), some (.ref (a2 0)), some (.int i)] []) : Go p l e room_1 s m #[Value.ref b] below meth c K (fun q : Nat => s.heap.size ≤ q) s.heap 4 83 3209 (lw_Z below #[Value.ref b] s) (w6 K a σ ++ w7 K a2 τ) 432 [some (.ref b), some (.ref (a 0)), some (.ref (a2 0)), some (.int i)] [] := by
  have hbA : ¬ (fun q : Nat => s.heap.size ≤ q) b := Nat.not_le.mpr hbl
  obtain ⟨r, σ1, τ1, h1, h2, hR1⟩ := hE σ τ (xs (i + 1).toNatClampNeg) (xs (i + 2).toNatClampNeg) hRel
  refine Go_aload_n (pc := 432) C dL_law_432 rfl ?_
  refine Go_aload_n (pc := 433) C dL_law_433 rfl ?_
  refine Go_iload_n (pc := 434) C dL_law_434 rfl ?_
  refine Go_iconst (pc := 435) (v := 1) C dL_law_435 ci_1 ?_
  refine Go_iadd (pc := 436) C dL_law_436 ?_
  refine Go_sld (pc := 437) C hX hbl hbA hi1 dL_law_437 ?_
  refine Go_aload_n (pc := 438) C dL_law_438 rfl ?_
  refine Go_iload_n (pc := 439) C dL_law_439 rfl ?_
  refine Go_iconst (pc := 440) (v := 2) C dL_law_440 ci_2 ?_
  refine Go_iadd (pc := 441) C dL_law_441 ?_
  refine Go_sld (pc := 442) C hX hbl hbA hi2 dL_law_442 ?_
  refine Go_callV1 (pc := 443) (ws1 := w6 K a σ1 ++ w7 K a2 τ) C 0 (List.range 69) (kX6_beside l K a σ (xs (i + 1).toNatClampNeg) (xs (i + 2).toNatClampNeg) (r, σ1) h1) ycX6_beside mw_432 (Nat.le_of_ble_eq_true rfl) rfl rfl rfl rfl (Nat.le_of_ble_eq_true rfl) ⟨(Nat.le_of_ble_eq_true rfl), (Nat.le_of_ble_eq_true rfl)⟩ dL_law_443 (his_l _ _ rfl) rfl rfl (Wr_l _ _ _ rfl rfl rfl) ?_
  refine Go_aload_n (pc := 446) C dL_law_446 rfl ?_
  refine Go_aload_n (pc := 447) C dL_law_447 rfl ?_
  refine Go_iload_n (pc := 448) C dL_law_448 rfl ?_
  refine Go_iconst (pc := 449) (v := 1) C dL_law_449 ci_1 ?_
  refine Go_iadd (pc := 450) C dL_law_450 ?_
  refine Go_sld (pc := 451) C hX hbl hbA hi1 dL_law_451 ?_
  refine Go_aload_n (pc := 452) C dL_law_452 rfl ?_
  refine Go_iload_n (pc := 453) C dL_law_453 rfl ?_
  refine Go_iconst (pc := 454) (v := 2) C dL_law_454 ci_2 ?_
  refine Go_iadd (pc := 455) C dL_law_455 ?_
  refine Go_sld (pc := 456) C hX hbl hbA hi2 dL_law_456 ?_
  refine Go_callV1 (pc := 457) (ws1 := w6 K a σ1 ++ w7 K a2 τ1) C 69 ((List.range 14).map (fun i => 69 + i)) (kX7_beside l K a2 τ (xs (i + 1).toNatClampNeg) (xs (i + 2).toNatClampNeg) (r, τ1) h2) ycX7_beside mw_851 (Nat.le_of_ble_eq_true rfl) rfl rfl rfl rfl (Nat.le_of_ble_eq_true rfl) ⟨(Nat.le_of_ble_eq_true rfl), (Nat.le_of_ble_eq_true rfl)⟩ dL_law_457 (his_r _ _ rfl rfl) rfl rfl (Wr_r _ _ _ rfl rfl rfl) ?_
  refine Go_icmp_eq (pc := 460) (tgt := 781) C dL_law_460 (by decide) (fun _ => ?_) (fun hc => absurd rfl hc)
  exact hn σ1 τ1 hR1
set_option maxHeartbeats 4000000 in
set_option maxRecDepth 100000 in
theorem law_runs {p : Program} {l : Launch} {e : Env} {s : State} {m : MethodId} {below : List Frame} {meth : Method} {c : Code} {K : KK} {b L : Nat} {xs : Nat → Int32} {a a2 : Nat → Nat} {Rel : S6 → S7 → Prop} {σ : S6} {τ : S7} {i : Int32} (C : Cx p room_1 s m #[Value.ref b] meth c K (fun q : Nat => s.heap.size ≤ q) s.heap code RL 4 10) (hX : va_X b L xs s s.heap) (hbl : b < s.heap.size) (hRel : Rel σ τ) (hE : E0 Rel fX6_runs fX7_runs) (hi1 : vp_in (i + 1) L) (hi2 : vp_in (i + 2) L) (hi3 : vp_in (i + 3) L) (hn : ∀ (σ : S6) (τ : S7), Rel σ τ → Go p l e room_1 s m #[Value.ref b] below meth c K (fun q : Nat => s.heap.size ≤ q) s.heap 4 83 3209 (lw_Z below #[Value.ref b] s) (w6 K a σ ++ w7 K a2 τ) 781 [some (.ref b), some (.ref (a 0)), some (.ref (a2 0)), some (.int i)] []) : Go p l e room_1 s m #[Value.ref b] below meth c K (fun q : Nat => s.heap.size ≤ q) s.heap 4 83 3209 (lw_Z below #[Value.ref b] s) (w6 K a σ ++ w7 K a2 τ) 465 [some (.ref b), some (.ref (a 0)), some (.ref (a2 0)), some (.int i)] [] := by
  have hbA : ¬ (fun q : Nat => s.heap.size ≤ q) b := Nat.not_le.mpr hbl
  obtain ⟨r, σ1, τ1, h1, h2, hR1⟩ := hE σ τ hRel
  refine Go_aload_n (pc := 465) C dL_law_465 rfl ?_
  refine Go_callV1 (pc := 466) (ws1 := w6 K a σ1 ++ w7 K a2 τ) C 0 (List.range 69) (kX6_runs l K a σ (r, σ1) h1) ycX6_runs mw_446 (Nat.le_of_ble_eq_true rfl) rfl rfl rfl rfl (Nat.le_of_ble_eq_true rfl) ⟨(Nat.le_of_ble_eq_true rfl), (Nat.le_of_ble_eq_true rfl)⟩ dL_law_466 (his_l _ _ rfl) rfl rfl (Wr_l _ _ _ rfl rfl rfl) ?_
  refine Go_aload_n (pc := 469) C dL_law_469 rfl ?_
  refine Go_callV1 (pc := 470) (ws1 := w6 K a σ1 ++ w7 K a2 τ1) C 69 ((List.range 14).map (fun i => 69 + i)) (kX7_runs l K a2 τ (r, τ1) h2) ycX7_runs mw_859 (Nat.le_of_ble_eq_true rfl) rfl rfl rfl rfl (Nat.le_of_ble_eq_true rfl) ⟨(Nat.le_of_ble_eq_true rfl), (Nat.le_of_ble_eq_true rfl)⟩ dL_law_470 (his_r _ _ rfl rfl) rfl rfl (Wr_r _ _ _ rfl rfl rfl) ?_
  refine Go_icmp_eq (pc := 473) (tgt := 781) C dL_law_473 (by decide) (fun _ => ?_) (fun hc => absurd rfl hc)
  exact hn σ1 τ1 hR1
set_option maxHeartbeats 4000000 in
set_option maxRecDepth 100000 in
theorem law_loses {p : Program} {l : Launch} {e : Env} {s : State} {m : MethodId} {below : List Frame} {meth : Method} {c : Code} {K : KK} {b L : Nat} {xs : Nat → Int32} {a a2 : Nat → Nat} {Rel : S6 → S7 → Prop} {σ : S6} {τ : S7} {i : Int32} (C : Cx p room_1 s m #[Value.ref b] meth c K (fun q : Nat => s.heap.size ≤ q) s.heap code RL 4 10) (hX : va_X b L xs s s.heap) (hbl : b < s.heap.size) (hRel : Rel σ τ) (hE : E1 Rel fX6_loses fX7_loses) (hi1 : vp_in (i + 1) L) (hi2 : vp_in (i + 2) L) (hi3 : vp_in (i + 3) L) (hn : ∀ (σ : S6) (τ : S7), Rel σ τ → Go p l e room_1 s m #[Value.ref b] below meth c K (fun q : Nat => s.heap.size ≤ q) s.heap 4 83 3209 (lw_Z below #[Value.ref b] s) (w6 K a σ ++ w7 K a2 τ) 781 [some (.ref b), some (.ref (a 0)), some (.ref (a2 0)), some (.int i)] []) : Go p l e room_1 s m #[Value.ref b] below meth c K (fun q : Nat => s.heap.size ≤ q) s.heap 4 83 3209 (lw_Z below #[Value.ref b] s) (w6 K a σ ++ w7 K a2 τ) 478 [some (.ref b), some (.ref (a 0)), some (.ref (a2 0)), some (.int i)] [] := by
  have hbA : ¬ (fun q : Nat => s.heap.size ≤ q) b := Nat.not_le.mpr hbl
  obtain ⟨r, σ1, τ1, h1, h2, hR1⟩ := hE σ τ (xs (i + 1).toNatClampNeg) hRel
  refine Go_aload_n (pc := 478) C dL_law_478 rfl ?_
  refine Go_aload_n (pc := 479) C dL_law_479 rfl ?_
  refine Go_iload_n (pc := 480) C dL_law_480 rfl ?_
  refine Go_iconst (pc := 481) (v := 1) C dL_law_481 ci_1 ?_
  refine Go_iadd (pc := 482) C dL_law_482 ?_
  refine Go_sld (pc := 483) C hX hbl hbA hi1 dL_law_483 ?_
  refine Go_callV1 (pc := 484) (ws1 := w6 K a σ1 ++ w7 K a2 τ) C 0 (List.range 69) (kX6_loses l K a σ (xs (i + 1).toNatClampNeg) (r, σ1) h1) ycX6_loses mw_460 (Nat.le_of_ble_eq_true rfl) rfl rfl rfl rfl (Nat.le_of_ble_eq_true rfl) ⟨(Nat.le_of_ble_eq_true rfl), (Nat.le_of_ble_eq_true rfl)⟩ dL_law_484 (his_l _ _ rfl) rfl rfl (Wr_l _ _ _ rfl rfl rfl) ?_
  refine Go_aload_n (pc := 487) C dL_law_487 rfl ?_
  refine Go_aload_n (pc := 488) C dL_law_488 rfl ?_
  refine Go_iload_n (pc := 489) C dL_law_489 rfl ?_
  refine Go_iconst (pc := 490) (v := 1) C dL_law_490 ci_1 ?_
  refine Go_iadd (pc := 491) C dL_law_491 ?_
  refine Go_sld (pc := 492) C hX hbl hbA hi1 dL_law_492 ?_
  refine Go_callV1 (pc := 493) (ws1 := w6 K a σ1 ++ w7 K a2 τ1) C 69 ((List.range 14).map (fun i => 69 + i)) (kX7_loses l K a2 τ (xs (i + 1).toNatClampNeg) (r, τ1) h2) ycX7_loses mw_867 (Nat.le_of_ble_eq_true rfl) rfl rfl rfl rfl (Nat.le_of_ble_eq_true rfl) ⟨(Nat.le_of_ble_eq_true rfl), (Nat.le_of_ble_eq_true rfl)⟩ dL_law_493 (his_r _ _ rfl rfl) rfl rfl (Wr_r _ _ _ rfl rfl rfl) ?_
  refine Go_icmp_eq (pc := 496) (tgt := 781) C dL_law_496 (by decide) (fun _ => ?_) (fun hc => absurd rfl hc)
  exact hn σ1 τ1 hR1
set_option maxHeartbeats 4000000 in
set_option maxRecDepth 100000 in
theorem law_wave {p : Program} {l : Launch} {e : Env} {s : State} {m : MethodId} {below : List Frame} {meth : Method} {c : Code} {K : KK} {b L : Nat} {xs : Nat → Int32} {a a2 : Nat → Nat} {Rel : S6 → S7 → Prop} {σ : S6} {τ : S7} {i : Int32} (C : Cx p room_1 s m #[Value.ref b] meth c K (fun q : Nat => s.heap.size ≤ q) s.heap code RL 4 10) (hX : va_X b L xs s s.heap) (hbl : b < s.heap.size) (hRel : Rel σ τ) (hE : E2 Rel fX6_wave fX7_wave) (hi1 : vp_in (i + 1) L) (hi2 : vp_in (i + 2) L) (hi3 : vp_in (i + 3) L) (hn : ∀ (σ : S6) (τ : S7), Rel σ τ → Go p l e room_1 s m #[Value.ref b] below meth c K (fun q : Nat => s.heap.size ≤ q) s.heap 4 83 3209 (lw_Z below #[Value.ref b] s) (w6 K a σ ++ w7 K a2 τ) 781 [some (.ref b), some (.ref (a 0)), some (.ref (a2 0)), some (.int i)] []) : Go p l e room_1 s m #[Value.ref b] below meth c K (fun q : Nat => s.heap.size ≤ q) s.heap 4 83 3209 (lw_Z below #[Value.ref b] s) (w6 K a σ ++ w7 K a2 τ) 501 [some (.ref b), some (.ref (a 0)), some (.ref (a2 0)), some (.int i)] [] := by
  have hbA : ¬ (fun q : Nat => s.heap.size ≤ q) b := Nat.not_le.mpr hbl
  obtain ⟨r, σ1, τ1, h1, h2, hR1⟩ := hE σ τ (xs (i + 1).toNatClampNeg) (xs (i + 2).toNatClampNeg) hRel
  refine Go_aload_n (pc := 501) C dL_law_501 rfl ?_
  refine Go_aload_n (pc := 502) C dL_law_502 rfl ?_
  refine Go_iload_n (pc := 503) C dL_law_503 rfl ?_
  refine Go_iconst (pc := 504) (v := 1) C dL_law_504 ci_1 ?_
  refine Go_iadd (pc := 505) C dL_law_505 ?_
  refine Go_sld (pc := 506) C hX hbl hbA hi1 dL_law_506 ?_
  refine Go_aload_n (pc := 507) C dL_law_507 rfl ?_
  refine Go_iload_n (pc := 508) C dL_law_508 rfl ?_
  refine Go_iconst (pc := 509) (v := 2) C dL_law_509 ci_2 ?_
  refine Go_iadd (pc := 510) C dL_law_510 ?_
  refine Go_sld (pc := 511) C hX hbl hbA hi2 dL_law_511 ?_
  refine Go_callV1 (pc := 512) (ws1 := w6 K a σ1 ++ w7 K a2 τ) C 0 (List.range 69) (kX6_wave l K a σ (xs (i + 1).toNatClampNeg) (xs (i + 2).toNatClampNeg) (r, σ1) h1) ycX6_wave mw_464 (Nat.le_of_ble_eq_true rfl) rfl rfl rfl rfl (Nat.le_of_ble_eq_true rfl) ⟨(Nat.le_of_ble_eq_true rfl), (Nat.le_of_ble_eq_true rfl)⟩ dL_law_512 (his_l _ _ rfl) rfl rfl (Wr_l _ _ _ rfl rfl rfl) ?_
  refine Go_aload_n (pc := 515) C dL_law_515 rfl ?_
  refine Go_aload_n (pc := 516) C dL_law_516 rfl ?_
  refine Go_iload_n (pc := 517) C dL_law_517 rfl ?_
  refine Go_iconst (pc := 518) (v := 1) C dL_law_518 ci_1 ?_
  refine Go_iadd (pc := 519) C dL_law_519 ?_
  refine Go_sld (pc := 520) C hX hbl hbA hi1 dL_law_520 ?_
  refine Go_aload_n (pc := 521) C dL_law_521 rfl ?_
  refine Go_iload_n (pc := 522) C dL_law_522 rfl ?_
  refine Go_iconst (pc := 523) (v := 2) C dL_law_523 ci_2 ?_
  refine Go_iadd (pc := 524) C dL_law_524 ?_
  refine Go_sld (pc := 525) C hX hbl hbA hi2 dL_law_525 ?_
  refine Go_callV1 (pc := 526) (ws1 := w6 K a σ1 ++ w7 K a2 τ1) C 69 ((List.range 14).map (fun i => 69 + i)) (kX7_wave l K a2 τ (xs (i + 1).toNatClampNeg) (xs (i + 2).toNatClampNeg) (r, τ1) h2) ycX7_wave mw_871 (Nat.le_of_ble_eq_true rfl) rfl rfl rfl rfl (Nat.le_of_ble_eq_true rfl) ⟨(Nat.le_of_ble_eq_true rfl), (Nat.le_of_ble_eq_true rfl)⟩ dL_law_526 (his_r _ _ rfl rfl) rfl rfl (Wr_r _ _ _ rfl rfl rfl) ?_
  refine Go_icmp_eq (pc := 529) (tgt := 781) C dL_law_529 (by decide) (fun _ => ?_) (fun hc => absurd rfl hc)
  exact hn σ1 τ1 hR1
set_option maxHeartbeats 4000000 in
set_option maxRecDepth 100000 in
theorem law_would {p : Program} {l : Launch} {e : Env} {s : State} {m : MethodId} {below : List Frame} {meth : Method} {c : Code} {K : KK} {b L : Nat} {xs : Nat → Int32} {a a2 : Nat → Nat} {Rel : S6 → S7 → Prop} {σ : S6} {τ : S7} {i : Int32} (C : Cx p room_1 s m #[Value.ref b] meth c K (fun q : Nat => s.heap.size ≤ q) s.heap code RL 4 10) (hX : va_X b L xs s s.heap) (hbl : b < s.heap.size) (hRel : Rel σ τ) (hE : E2 Rel fX6_would fX7_would) (hi1 : vp_in (i + 1) L) (hi2 : vp_in (i + 2) L) (hi3 : vp_in (i + 3) L) (hn : ∀ (σ : S6) (τ : S7), Rel σ τ → Go p l e room_1 s m #[Value.ref b] below meth c K (fun q : Nat => s.heap.size ≤ q) s.heap 4 83 3209 (lw_Z below #[Value.ref b] s) (w6 K a σ ++ w7 K a2 τ) 781 [some (.ref b), some (.ref (a 0)), some (.ref (a2 0)), some (.int i)] []) : Go p l e room_1 s m #[Value.ref b] below meth c K (fun q : Nat => s.heap.size ≤ q) s.heap 4 83 3209 (lw_Z below #[Value.ref b] s) (w6 K a σ ++ w7 K a2 τ) 534 [some (.ref b), some (.ref (a 0)), some (.ref (a2 0)), some (.int i)] [] := by
  have hbA : ¬ (fun q : Nat => s.heap.size ≤ q) b := Nat.not_le.mpr hbl
  obtain ⟨r, σ1, τ1, h1, h2, hR1⟩ := hE σ τ (xs (i + 1).toNatClampNeg) (xs (i + 2).toNatClampNeg) hRel
  refine Go_aload_n (pc := 534) C dL_law_534 rfl ?_
  refine Go_aload_n (pc := 535) C dL_law_535 rfl ?_
  refine Go_iload_n (pc := 536) C dL_law_536 rfl ?_
  refine Go_iconst (pc := 537) (v := 1) C dL_law_537 ci_1 ?_
  refine Go_iadd (pc := 538) C dL_law_538 ?_
  refine Go_sld (pc := 539) C hX hbl hbA hi1 dL_law_539 ?_
  refine Go_aload_n (pc := 540) C dL_law_540 rfl ?_
  refine Go_iload_n (pc := 541) C dL_law_541 rfl ?_
  refine Go_iconst (pc := 542) (v := 2) C dL_law_542 ci_2 ?_
  refine Go_iadd (pc := 543) C dL_law_543 ?_
  refine Go_sld (pc := 544) C hX hbl hbA hi2 dL_law_544 ?_
  refine Go_callV1 (pc := 545) (ws1 := w6 K a σ1 ++ w7 K a2 τ) C 0 (List.range 69) (kX6_would l K a σ (xs (i + 1).toNatClampNeg) (xs (i + 2).toNatClampNeg) (r, σ1) h1) ycX6_would mw_472 (Nat.le_of_ble_eq_true rfl) rfl rfl rfl rfl (Nat.le_of_ble_eq_true rfl) ⟨(Nat.le_of_ble_eq_true rfl), (Nat.le_of_ble_eq_true rfl)⟩ dL_law_545 (his_l _ _ rfl) rfl rfl (Wr_l _ _ _ rfl rfl rfl) ?_
  refine Go_aload_n (pc := 548) C dL_law_548 rfl ?_
  refine Go_aload_n (pc := 549) C dL_law_549 rfl ?_
  refine Go_iload_n (pc := 550) C dL_law_550 rfl ?_
  refine Go_iconst (pc := 551) (v := 1) C dL_law_551 ci_1 ?_
  refine Go_iadd (pc := 552) C dL_law_552 ?_
  refine Go_sld (pc := 553) C hX hbl hbA hi1 dL_law_553 ?_
  refine Go_aload_n (pc := 554) C dL_law_554 rfl ?_
  refine Go_iload_n (pc := 555) C dL_law_555 rfl ?_
  refine Go_iconst (pc := 556) (v := 2) C dL_law_556 ci_2 ?_
  refine Go_iadd (pc := 557) C dL_law_557 ?_
  refine Go_sld (pc := 558) C hX hbl hbA hi2 dL_law_558 ?_
  refine Go_callV1 (pc := 559) (ws1 := w6 K a σ1 ++ w7 K a2 τ1) C 69 ((List.range 14).map (fun i => 69 + i)) (kX7_would l K a2 τ (xs (i + 1).toNatClampNeg) (xs (i + 2).toNatClampNeg) (r, τ1) h2) ycX7_would mw_879 (Nat.le_of_ble_eq_true rfl) rfl rfl rfl rfl (Nat.le_of_ble_eq_true rfl) ⟨(Nat.le_of_ble_eq_true rfl), (Nat.le_of_ble_eq_true rfl)⟩ dL_law_559 (his_r _ _ rfl rfl) rfl rfl (Wr_r _ _ _ rfl rfl rfl) ?_
  refine Go_icmp_eq (pc := 562) (tgt := 781) C dL_law_562 (by decide) (fun _ => ?_) (fun hc => absurd rfl hc)
  exact hn σ1 τ1 hR1
set_option maxHeartbeats 4000000 in
set_option maxRecDepth 100000 in
theorem law_worst {p : Program} {l : Launch} {e : Env} {s : State} {m : MethodId} {below : List Frame} {meth : Method} {c : Code} {K : KK} {b L : Nat} {xs : Nat → Int32} {a a2 : Nat → Nat} {Rel : S6 → S7 → Prop} {σ : S6} {τ : S7} {i : Int32} (C : Cx p room_1 s m #[Value.ref b] meth c K (fun q : Nat => s.heap.size ≤ q) s.heap code RL 4 10) (hX : va_X b L xs s s.heap) (hbl : b < s.heap.size) (hRel : Rel σ τ) (hE : E1 Rel fX6_worst fX7_worst) (hi1 : vp_in (i + 1) L) (hi2 : vp_in (i + 2) L) (hi3 : vp_in (i + 3) L) (hn : ∀ (σ : S6) (τ : S7), Rel σ τ → Go p l e room_1 s m #[Value.ref b] below meth c K (fun q : Nat => s.heap.size ≤ q) s.heap 4 83 3209 (lw_Z below #[Value.ref b] s) (w6 K a σ ++ w7 K a2 τ) 781 [some (.ref b), some (.ref (a 0)), some (.ref (a2 0)), some (.int i)] []) : Go p l e room_1 s m #[Value.ref b] below meth c K (fun q : Nat => s.heap.size ≤ q) s.heap 4 83 3209 (lw_Z below #[Value.ref b] s) (w6 K a σ ++ w7 K a2 τ) 567 [some (.ref b), some (.ref (a 0)), some (.ref (a2 0)), some (.int i)] [] := by
  have hbA : ¬ (fun q : Nat => s.heap.size ≤ q) b := Nat.not_le.mpr hbl
  obtain ⟨r, σ1, τ1, h1, h2, hR1⟩ := hE σ τ (xs (i + 1).toNatClampNeg) hRel
  refine Go_aload_n (pc := 567) C dL_law_567 rfl ?_
  refine Go_aload_n (pc := 568) C dL_law_568 rfl ?_
  refine Go_iload_n (pc := 569) C dL_law_569 rfl ?_
  refine Go_iconst (pc := 570) (v := 1) C dL_law_570 ci_1 ?_
  refine Go_iadd (pc := 571) C dL_law_571 ?_
  refine Go_sld (pc := 572) C hX hbl hbA hi1 dL_law_572 ?_
  refine Go_callV1 (pc := 573) (ws1 := w6 K a σ1 ++ w7 K a2 τ) C 0 (List.range 69) (kX6_worst l K a σ (xs (i + 1).toNatClampNeg) (r, σ1) h1) ycX6_worst mw_490 (Nat.le_of_ble_eq_true rfl) rfl rfl rfl rfl (Nat.le_of_ble_eq_true rfl) ⟨(Nat.le_of_ble_eq_true rfl), (Nat.le_of_ble_eq_true rfl)⟩ dL_law_573 (his_l _ _ rfl) rfl rfl (Wr_l _ _ _ rfl rfl rfl) ?_
  refine Go_aload_n (pc := 576) C dL_law_576 rfl ?_
  refine Go_aload_n (pc := 577) C dL_law_577 rfl ?_
  refine Go_iload_n (pc := 578) C dL_law_578 rfl ?_
  refine Go_iconst (pc := 579) (v := 1) C dL_law_579 ci_1 ?_
  refine Go_iadd (pc := 580) C dL_law_580 ?_
  refine Go_sld (pc := 581) C hX hbl hbA hi1 dL_law_581 ?_
  refine Go_callV1 (pc := 582) (ws1 := w6 K a σ1 ++ w7 K a2 τ1) C 69 ((List.range 14).map (fun i => 69 + i)) (kX7_worst l K a2 τ (xs (i + 1).toNatClampNeg) (r, τ1) h2) ycX7_worst mw_891 (Nat.le_of_ble_eq_true rfl) rfl rfl rfl rfl (Nat.le_of_ble_eq_true rfl) ⟨(Nat.le_of_ble_eq_true rfl), (Nat.le_of_ble_eq_true rfl)⟩ dL_law_582 (his_r _ _ rfl rfl) rfl rfl (Wr_r _ _ _ rfl rfl rfl) ?_
  refine Go_icmp_eq (pc := 585) (tgt := 781) C dL_law_585 (by decide) (fun _ => ?_) (fun hc => absurd rfl hc)
  exact hn σ1 τ1 hR1
set_option maxHeartbeats 4000000 in
set_option maxRecDepth 100000 in
theorem law_cut {p : Program} {l : Launch} {e : Env} {s : State} {m : MethodId} {below : List Frame} {meth : Method} {c : Code} {K : KK} {b L : Nat} {xs : Nat → Int32} {a a2 : Nat → Nat} {Rel : S6 → S7 → Prop} {σ : S6} {τ : S7} {i : Int32} (C : Cx p room_1 s m #[Value.ref b] meth c K (fun q : Nat => s.heap.size ≤ q) s.heap code RL 4 10) (hX : va_X b L xs s s.heap) (hbl : b < s.heap.size) (hRel : Rel σ τ) (hE : E1 Rel fX6_cut fX7_cut) (hi1 : vp_in (i + 1) L) (hi2 : vp_in (i + 2) L) (hi3 : vp_in (i + 3) L) (hn : ∀ (σ : S6) (τ : S7), Rel σ τ → Go p l e room_1 s m #[Value.ref b] below meth c K (fun q : Nat => s.heap.size ≤ q) s.heap 4 83 3209 (lw_Z below #[Value.ref b] s) (w6 K a σ ++ w7 K a2 τ) 781 [some (.ref b), some (.ref (a 0)), some (.ref (a2 0)), some (.int i)] []) : Go p l e room_1 s m #[Value.ref b] below meth c K (fun q : Nat => s.heap.size ≤ q) s.heap 4 83 3209 (lw_Z below #[Value.ref b] s) (w6 K a σ ++ w7 K a2 τ) 590 [some (.ref b), some (.ref (a 0)), some (.ref (a2 0)), some (.int i)] [] := by
  have hbA : ¬ (fun q : Nat => s.heap.size ≤ q) b := Nat.not_le.mpr hbl
  obtain ⟨r, σ1, τ1, h1, h2, hR1⟩ := hE σ τ (xs (i + 1).toNatClampNeg) hRel
  refine Go_aload_n (pc := 590) C dL_law_590 rfl ?_
  refine Go_aload_n (pc := 591) C dL_law_591 rfl ?_
  refine Go_iload_n (pc := 592) C dL_law_592 rfl ?_
  refine Go_iconst (pc := 593) (v := 1) C dL_law_593 ci_1 ?_
  refine Go_iadd (pc := 594) C dL_law_594 ?_
  refine Go_sld (pc := 595) C hX hbl hbA hi1 dL_law_595 ?_
  refine Go_callV1 (pc := 596) (ws1 := w6 K a σ1 ++ w7 K a2 τ) C 0 (List.range 69) (kX6_cut l K a σ (xs (i + 1).toNatClampNeg) (r, σ1) h1) ycX6_cut mw_494 (Nat.le_of_ble_eq_true rfl) rfl rfl rfl rfl (Nat.le_of_ble_eq_true rfl) ⟨(Nat.le_of_ble_eq_true rfl), (Nat.le_of_ble_eq_true rfl)⟩ dL_law_596 (his_l _ _ rfl) rfl rfl (Wr_l _ _ _ rfl rfl rfl) ?_
  refine Go_aload_n (pc := 599) C dL_law_599 rfl ?_
  refine Go_aload_n (pc := 600) C dL_law_600 rfl ?_
  refine Go_iload_n (pc := 601) C dL_law_601 rfl ?_
  refine Go_iconst (pc := 602) (v := 1) C dL_law_602 ci_1 ?_
  refine Go_iadd (pc := 603) C dL_law_603 ?_
  refine Go_sld (pc := 604) C hX hbl hbA hi1 dL_law_604 ?_
  refine Go_callV1 (pc := 605) (ws1 := w6 K a σ1 ++ w7 K a2 τ1) C 69 ((List.range 14).map (fun i => 69 + i)) (kX7_cut l K a2 τ (xs (i + 1).toNatClampNeg) (r, τ1) h2) ycX7_cut mw_895 (Nat.le_of_ble_eq_true rfl) rfl rfl rfl rfl (Nat.le_of_ble_eq_true rfl) ⟨(Nat.le_of_ble_eq_true rfl), (Nat.le_of_ble_eq_true rfl)⟩ dL_law_605 (his_r _ _ rfl rfl) rfl rfl (Wr_r _ _ _ rfl rfl rfl) ?_
  refine Go_icmp_eq (pc := 608) (tgt := 781) C dL_law_608 (by decide) (fun _ => ?_) (fun hc => absurd rfl hc)
  exact hn σ1 τ1 hR1
set_option maxHeartbeats 4000000 in
set_option maxRecDepth 100000 in
theorem law_mending {p : Program} {l : Launch} {e : Env} {s : State} {m : MethodId} {below : List Frame} {meth : Method} {c : Code} {K : KK} {b L : Nat} {xs : Nat → Int32} {a a2 : Nat → Nat} {Rel : S6 → S7 → Prop} {σ : S6} {τ : S7} {i : Int32} (C : Cx p room_1 s m #[Value.ref b] meth c K (fun q : Nat => s.heap.size ≤ q) s.heap code RL 4 10) (hX : va_X b L xs s s.heap) (hbl : b < s.heap.size) (hRel : Rel σ τ) (hE : E0 Rel fX6_mending fX7_mending) (hi1 : vp_in (i + 1) L) (hi2 : vp_in (i + 2) L) (hi3 : vp_in (i + 3) L) (hn : ∀ (σ : S6) (τ : S7), Rel σ τ → Go p l e room_1 s m #[Value.ref b] below meth c K (fun q : Nat => s.heap.size ≤ q) s.heap 4 83 3209 (lw_Z below #[Value.ref b] s) (w6 K a σ ++ w7 K a2 τ) 781 [some (.ref b), some (.ref (a 0)), some (.ref (a2 0)), some (.int i)] []) : Go p l e room_1 s m #[Value.ref b] below meth c K (fun q : Nat => s.heap.size ≤ q) s.heap 4 83 3209 (lw_Z below #[Value.ref b] s) (w6 K a σ ++ w7 K a2 τ) 613 [some (.ref b), some (.ref (a 0)), some (.ref (a2 0)), some (.int i)] [] := by
  have hbA : ¬ (fun q : Nat => s.heap.size ≤ q) b := Nat.not_le.mpr hbl
  obtain ⟨r, σ1, τ1, h1, h2, hR1⟩ := hE σ τ hRel
  refine Go_aload_n (pc := 613) C dL_law_613 rfl ?_
  refine Go_callV1 (pc := 614) (ws1 := w6 K a σ1 ++ w7 K a2 τ) C 0 (List.range 69) (kX6_mending l K a σ (r, σ1) h1) ycX6_mending mw_500 (Nat.le_of_ble_eq_true rfl) rfl rfl rfl rfl (Nat.le_of_ble_eq_true rfl) ⟨(Nat.le_of_ble_eq_true rfl), (Nat.le_of_ble_eq_true rfl)⟩ dL_law_614 (his_l _ _ rfl) rfl rfl (Wr_l _ _ _ rfl rfl rfl) ?_
  refine Go_aload_n (pc := 617) C dL_law_617 rfl ?_
  refine Go_callV1 (pc := 618) (ws1 := w6 K a σ1 ++ w7 K a2 τ1) C 69 ((List.range 14).map (fun i => 69 + i)) (kX7_mending l K a2 τ (r, τ1) h2) ycX7_mending mw_903 (Nat.le_of_ble_eq_true rfl) rfl rfl rfl rfl (Nat.le_of_ble_eq_true rfl) ⟨(Nat.le_of_ble_eq_true rfl), (Nat.le_of_ble_eq_true rfl)⟩ dL_law_618 (his_r _ _ rfl rfl) rfl rfl (Wr_r _ _ _ rfl rfl rfl) ?_
  refine Go_icmp_eq (pc := 621) (tgt := 781) C dL_law_621 (by decide) (fun _ => ?_) (fun hc => absurd rfl hc)
  exact hn σ1 τ1 hR1
set_option maxHeartbeats 4000000 in
set_option maxRecDepth 100000 in
theorem law_bestWall {p : Program} {l : Launch} {e : Env} {s : State} {m : MethodId} {below : List Frame} {meth : Method} {c : Code} {K : KK} {b L : Nat} {xs : Nat → Int32} {a a2 : Nat → Nat} {Rel : S6 → S7 → Prop} {σ : S6} {τ : S7} {i : Int32} (C : Cx p room_1 s m #[Value.ref b] meth c K (fun q : Nat => s.heap.size ≤ q) s.heap code RL 4 10) (hX : va_X b L xs s s.heap) (hbl : b < s.heap.size) (hRel : Rel σ τ) (hE : E1 Rel fX6_bestWall fX7_bestWall) (hi1 : vp_in (i + 1) L) (hi2 : vp_in (i + 2) L) (hi3 : vp_in (i + 3) L) (hn : ∀ (σ : S6) (τ : S7), Rel σ τ → Go p l e room_1 s m #[Value.ref b] below meth c K (fun q : Nat => s.heap.size ≤ q) s.heap 4 83 3209 (lw_Z below #[Value.ref b] s) (w6 K a σ ++ w7 K a2 τ) 781 [some (.ref b), some (.ref (a 0)), some (.ref (a2 0)), some (.int i)] []) : Go p l e room_1 s m #[Value.ref b] below meth c K (fun q : Nat => s.heap.size ≤ q) s.heap 4 83 3209 (lw_Z below #[Value.ref b] s) (w6 K a σ ++ w7 K a2 τ) 626 [some (.ref b), some (.ref (a 0)), some (.ref (a2 0)), some (.int i)] [] := by
  have hbA : ¬ (fun q : Nat => s.heap.size ≤ q) b := Nat.not_le.mpr hbl
  obtain ⟨r, σ1, τ1, h1, h2, hR1⟩ := hE σ τ (xs (i + 1).toNatClampNeg) hRel
  refine Go_aload_n (pc := 626) C dL_law_626 rfl ?_
  refine Go_aload_n (pc := 627) C dL_law_627 rfl ?_
  refine Go_iload_n (pc := 628) C dL_law_628 rfl ?_
  refine Go_iconst (pc := 629) (v := 1) C dL_law_629 ci_1 ?_
  refine Go_iadd (pc := 630) C dL_law_630 ?_
  refine Go_sld (pc := 631) C hX hbl hbA hi1 dL_law_631 ?_
  refine Go_callV1 (pc := 632) (ws1 := w6 K a σ1 ++ w7 K a2 τ) C 0 (List.range 69) (kX6_bestWall l K a σ (xs (i + 1).toNatClampNeg) (r, σ1) h1) ycX6_bestWall mw_507 (Nat.le_of_ble_eq_true rfl) rfl rfl rfl rfl (Nat.le_of_ble_eq_true rfl) ⟨(Nat.le_of_ble_eq_true rfl), (Nat.le_of_ble_eq_true rfl)⟩ dL_law_632 (his_l _ _ rfl) rfl rfl (Wr_l _ _ _ rfl rfl rfl) ?_
  refine Go_aload_n (pc := 635) C dL_law_635 rfl ?_
  refine Go_aload_n (pc := 636) C dL_law_636 rfl ?_
  refine Go_iload_n (pc := 637) C dL_law_637 rfl ?_
  refine Go_iconst (pc := 638) (v := 1) C dL_law_638 ci_1 ?_
  refine Go_iadd (pc := 639) C dL_law_639 ?_
  refine Go_sld (pc := 640) C hX hbl hbA hi1 dL_law_640 ?_
  refine Go_callV1 (pc := 641) (ws1 := w6 K a σ1 ++ w7 K a2 τ1) C 69 ((List.range 14).map (fun i => 69 + i)) (kX7_bestWall l K a2 τ (xs (i + 1).toNatClampNeg) (r, τ1) h2) ycX7_bestWall mw_907 (Nat.le_of_ble_eq_true rfl) rfl rfl rfl rfl (Nat.le_of_ble_eq_true rfl) ⟨(Nat.le_of_ble_eq_true rfl), (Nat.le_of_ble_eq_true rfl)⟩ dL_law_641 (his_r _ _ rfl rfl) rfl rfl (Wr_r _ _ _ rfl rfl rfl) ?_
  refine Go_icmp_eq (pc := 644) (tgt := 781) C dL_law_644 (by decide) (fun _ => ?_) (fun hc => absurd rfl hc)
  exact hn σ1 τ1 hR1
set_option maxHeartbeats 4000000 in
set_option maxRecDepth 100000 in
theorem law_bestCell {p : Program} {l : Launch} {e : Env} {s : State} {m : MethodId} {below : List Frame} {meth : Method} {c : Code} {K : KK} {b L : Nat} {xs : Nat → Int32} {a a2 : Nat → Nat} {Rel : S6 → S7 → Prop} {σ : S6} {τ : S7} {i : Int32} (C : Cx p room_1 s m #[Value.ref b] meth c K (fun q : Nat => s.heap.size ≤ q) s.heap code RL 4 10) (hX : va_X b L xs s s.heap) (hbl : b < s.heap.size) (hRel : Rel σ τ) (hE : E2 Rel fX6_bestCell fX7_bestCell) (hi1 : vp_in (i + 1) L) (hi2 : vp_in (i + 2) L) (hi3 : vp_in (i + 3) L) (hn : ∀ (σ : S6) (τ : S7), Rel σ τ → Go p l e room_1 s m #[Value.ref b] below meth c K (fun q : Nat => s.heap.size ≤ q) s.heap 4 83 3209 (lw_Z below #[Value.ref b] s) (w6 K a σ ++ w7 K a2 τ) 781 [some (.ref b), some (.ref (a 0)), some (.ref (a2 0)), some (.int i)] []) : Go p l e room_1 s m #[Value.ref b] below meth c K (fun q : Nat => s.heap.size ≤ q) s.heap 4 83 3209 (lw_Z below #[Value.ref b] s) (w6 K a σ ++ w7 K a2 τ) 649 [some (.ref b), some (.ref (a 0)), some (.ref (a2 0)), some (.int i)] [] := by
  have hbA : ¬ (fun q : Nat => s.heap.size ≤ q) b := Nat.not_le.mpr hbl
  obtain ⟨r, σ1, τ1, h1, h2, hR1⟩ := hE σ τ (xs (i + 1).toNatClampNeg) (xs (i + 2).toNatClampNeg) hRel
  refine Go_aload_n (pc := 649) C dL_law_649 rfl ?_
  refine Go_aload_n (pc := 650) C dL_law_650 rfl ?_
  refine Go_iload_n (pc := 651) C dL_law_651 rfl ?_
  refine Go_iconst (pc := 652) (v := 1) C dL_law_652 ci_1 ?_
  refine Go_iadd (pc := 653) C dL_law_653 ?_
  refine Go_sld (pc := 654) C hX hbl hbA hi1 dL_law_654 ?_
  refine Go_aload_n (pc := 655) C dL_law_655 rfl ?_
  refine Go_iload_n (pc := 656) C dL_law_656 rfl ?_
  refine Go_iconst (pc := 657) (v := 2) C dL_law_657 ci_2 ?_
  refine Go_iadd (pc := 658) C dL_law_658 ?_
  refine Go_sld (pc := 659) C hX hbl hbA hi2 dL_law_659 ?_
  refine Go_callV1 (pc := 660) (ws1 := w6 K a σ1 ++ w7 K a2 τ) C 0 (List.range 69) (kX6_bestCell l K a σ (xs (i + 1).toNatClampNeg) (xs (i + 2).toNatClampNeg) (r, σ1) h1) ycX6_bestCell mw_519 (Nat.le_of_ble_eq_true rfl) rfl rfl rfl rfl (Nat.le_of_ble_eq_true rfl) ⟨(Nat.le_of_ble_eq_true rfl), (Nat.le_of_ble_eq_true rfl)⟩ dL_law_660 (his_l _ _ rfl) rfl rfl (Wr_l _ _ _ rfl rfl rfl) ?_
  refine Go_aload_n (pc := 663) C dL_law_663 rfl ?_
  refine Go_aload_n (pc := 664) C dL_law_664 rfl ?_
  refine Go_iload_n (pc := 665) C dL_law_665 rfl ?_
  refine Go_iconst (pc := 666) (v := 1) C dL_law_666 ci_1 ?_
  refine Go_iadd (pc := 667) C dL_law_667 ?_
  refine Go_sld (pc := 668) C hX hbl hbA hi1 dL_law_668 ?_
  refine Go_aload_n (pc := 669) C dL_law_669 rfl ?_
  refine Go_iload_n (pc := 670) C dL_law_670 rfl ?_
  refine Go_iconst (pc := 671) (v := 2) C dL_law_671 ci_2 ?_
  refine Go_iadd (pc := 672) C dL_law_672 ?_
  refine Go_sld (pc := 673) C hX hbl hbA hi2 dL_law_673 ?_
  refine Go_callV1 (pc := 674) (ws1 := w6 K a σ1 ++ w7 K a2 τ1) C 69 ((List.range 14).map (fun i => 69 + i)) (kX7_bestCell l K a2 τ (xs (i + 1).toNatClampNeg) (xs (i + 2).toNatClampNeg) (r, τ1) h2) ycX7_bestCell mw_911 (Nat.le_of_ble_eq_true rfl) rfl rfl rfl rfl (Nat.le_of_ble_eq_true rfl) ⟨(Nat.le_of_ble_eq_true rfl), (Nat.le_of_ble_eq_true rfl)⟩ dL_law_674 (his_r _ _ rfl rfl) rfl rfl (Wr_r _ _ _ rfl rfl rfl) ?_
  refine Go_icmp_eq (pc := 677) (tgt := 781) C dL_law_677 (by decide) (fun _ => ?_) (fun hc => absurd rfl hc)
  exact hn σ1 τ1 hR1
set_option maxHeartbeats 4000000 in
set_option maxRecDepth 100000 in
theorem law_type {p : Program} {l : Launch} {e : Env} {s : State} {m : MethodId} {below : List Frame} {meth : Method} {c : Code} {K : KK} {b L : Nat} {xs : Nat → Int32} {a a2 : Nat → Nat} {Rel : S6 → S7 → Prop} {σ : S6} {τ : S7} {i : Int32} (C : Cx p room_1 s m #[Value.ref b] meth c K (fun q : Nat => s.heap.size ≤ q) s.heap code RL 4 10) (hX : va_X b L xs s s.heap) (hbl : b < s.heap.size) (hRel : Rel σ τ) (hE : E1 Rel fX6_type fX7_type) (hi1 : vp_in (i + 1) L) (hi2 : vp_in (i + 2) L) (hi3 : vp_in (i + 3) L) (hn : ∀ (σ : S6) (τ : S7), Rel σ τ → Go p l e room_1 s m #[Value.ref b] below meth c K (fun q : Nat => s.heap.size ≤ q) s.heap 4 83 3209 (lw_Z below #[Value.ref b] s) (w6 K a σ ++ w7 K a2 τ) 781 [some (.ref b), some (.ref (a 0)), some (.ref (a2 0)), some (.int i)] []) : Go p l e room_1 s m #[Value.ref b] below meth c K (fun q : Nat => s.heap.size ≤ q) s.heap 4 83 3209 (lw_Z below #[Value.ref b] s) (w6 K a σ ++ w7 K a2 τ) 682 [some (.ref b), some (.ref (a 0)), some (.ref (a2 0)), some (.int i)] [] := by
  have hbA : ¬ (fun q : Nat => s.heap.size ≤ q) b := Nat.not_le.mpr hbl
  obtain ⟨r, σ1, τ1, h1, h2, hR1⟩ := hE σ τ (xs (i + 1).toNatClampNeg) hRel
  refine Go_aload_n (pc := 682) C dL_law_682 rfl ?_
  refine Go_aload_n (pc := 683) C dL_law_683 rfl ?_
  refine Go_iload_n (pc := 684) C dL_law_684 rfl ?_
  refine Go_iconst (pc := 685) (v := 1) C dL_law_685 ci_1 ?_
  refine Go_iadd (pc := 686) C dL_law_686 ?_
  refine Go_sld (pc := 687) C hX hbl hbA hi1 dL_law_687 ?_
  refine Go_callV1 (pc := 688) (ws1 := w6 K a σ1 ++ w7 K a2 τ) C 0 (List.range 69) (kX6_type l K a σ (xs (i + 1).toNatClampNeg) (r, σ1) h1) ycX6_type mw_528 (Nat.le_of_ble_eq_true rfl) rfl rfl rfl rfl (Nat.le_of_ble_eq_true rfl) ⟨(Nat.le_of_ble_eq_true rfl), (Nat.le_of_ble_eq_true rfl)⟩ dL_law_688 (his_l _ _ rfl) rfl rfl (Wr_l _ _ _ rfl rfl rfl) ?_
  refine Go_aload_n (pc := 691) C dL_law_691 rfl ?_
  refine Go_aload_n (pc := 692) C dL_law_692 rfl ?_
  refine Go_iload_n (pc := 693) C dL_law_693 rfl ?_
  refine Go_iconst (pc := 694) (v := 1) C dL_law_694 ci_1 ?_
  refine Go_iadd (pc := 695) C dL_law_695 ?_
  refine Go_sld (pc := 696) C hX hbl hbA hi1 dL_law_696 ?_
  refine Go_callV1 (pc := 697) (ws1 := w6 K a σ1 ++ w7 K a2 τ1) C 69 ((List.range 14).map (fun i => 69 + i)) (kX7_type l K a2 τ (xs (i + 1).toNatClampNeg) (r, τ1) h2) ycX7_type mw_918 (Nat.le_of_ble_eq_true rfl) rfl rfl rfl rfl (Nat.le_of_ble_eq_true rfl) ⟨(Nat.le_of_ble_eq_true rfl), (Nat.le_of_ble_eq_true rfl)⟩ dL_law_697 (his_r _ _ rfl rfl) rfl rfl (Wr_r _ _ _ rfl rfl rfl) ?_
  refine Go_icmp_eq (pc := 700) (tgt := 781) C dL_law_700 (by decide) (fun _ => ?_) (fun hc => absurd rfl hc)
  exact hn σ1 τ1 hR1
set_option maxHeartbeats 4000000 in
set_option maxRecDepth 100000 in
theorem law_clear {p : Program} {l : Launch} {e : Env} {s : State} {m : MethodId} {below : List Frame} {meth : Method} {c : Code} {K : KK} {b L : Nat} {xs : Nat → Int32} {a a2 : Nat → Nat} {Rel : S6 → S7 → Prop} {σ : S6} {τ : S7} {i : Int32} (C : Cx p room_1 s m #[Value.ref b] meth c K (fun q : Nat => s.heap.size ≤ q) s.heap code RL 4 10) (hX : va_X b L xs s s.heap) (hbl : b < s.heap.size) (hRel : Rel σ τ) (hE : E0 Rel fX6_clear fX7_clear) (hi1 : vp_in (i + 1) L) (hi2 : vp_in (i + 2) L) (hi3 : vp_in (i + 3) L) (hn : ∀ (σ : S6) (τ : S7), Rel σ τ → Go p l e room_1 s m #[Value.ref b] below meth c K (fun q : Nat => s.heap.size ≤ q) s.heap 4 83 3209 (lw_Z below #[Value.ref b] s) (w6 K a σ ++ w7 K a2 τ) 781 [some (.ref b), some (.ref (a 0)), some (.ref (a2 0)), some (.int i)] []) : Go p l e room_1 s m #[Value.ref b] below meth c K (fun q : Nat => s.heap.size ≤ q) s.heap 4 83 3209 (lw_Z below #[Value.ref b] s) (w6 K a σ ++ w7 K a2 τ) 705 [some (.ref b), some (.ref (a 0)), some (.ref (a2 0)), some (.int i)] [] := by
  have hbA : ¬ (fun q : Nat => s.heap.size ≤ q) b := Nat.not_le.mpr hbl
  obtain ⟨r, σ1, τ1, h1, h2, hR1⟩ := hE σ τ hRel
  refine Go_aload_n (pc := 705) C dL_law_705 rfl ?_
  refine Go_callV1 (pc := 706) (ws1 := w6 K a σ1 ++ w7 K a2 τ) C 0 (List.range 69) (kX6_clear l K a σ (r, σ1) h1) ycX6_clear mw_536 (Nat.le_of_ble_eq_true rfl) rfl rfl rfl rfl (Nat.le_of_ble_eq_true rfl) ⟨(Nat.le_of_ble_eq_true rfl), (Nat.le_of_ble_eq_true rfl)⟩ dL_law_706 (his_l _ _ rfl) rfl rfl (Wr_l _ _ _ rfl rfl rfl) ?_
  refine Go_aload_n (pc := 709) C dL_law_709 rfl ?_
  refine Go_callV1 (pc := 710) (ws1 := w6 K a σ1 ++ w7 K a2 τ1) C 69 ((List.range 14).map (fun i => 69 + i)) (kX7_clear l K a2 τ (r, τ1) h2) ycX7_clear mw_922 (Nat.le_of_ble_eq_true rfl) rfl rfl rfl rfl (Nat.le_of_ble_eq_true rfl) ⟨(Nat.le_of_ble_eq_true rfl), (Nat.le_of_ble_eq_true rfl)⟩ dL_law_710 (his_r _ _ rfl rfl) rfl rfl (Wr_r _ _ _ rfl rfl rfl) ?_
  refine Go_icmp_eq (pc := 713) (tgt := 781) C dL_law_713 (by decide) (fun _ => ?_) (fun hc => absurd rfl hc)
  exact hn σ1 τ1 hR1
set_option maxHeartbeats 4000000 in
set_option maxRecDepth 100000 in
theorem law_does {p : Program} {l : Launch} {e : Env} {s : State} {m : MethodId} {below : List Frame} {meth : Method} {c : Code} {K : KK} {b L : Nat} {xs : Nat → Int32} {a a2 : Nat → Nat} {Rel : S6 → S7 → Prop} {σ : S6} {τ : S7} {i : Int32} (C : Cx p room_1 s m #[Value.ref b] meth c K (fun q : Nat => s.heap.size ≤ q) s.heap code RL 4 10) (hX : va_X b L xs s s.heap) (hbl : b < s.heap.size) (hRel : Rel σ τ) (hE : E0 Rel fX6_does fX7_does) (hi1 : vp_in (i + 1) L) (hi2 : vp_in (i + 2) L) (hi3 : vp_in (i + 3) L) (hn : ∀ (σ : S6) (τ : S7), Rel σ τ → Go p l e room_1 s m #[Value.ref b] below meth c K (fun q : Nat => s.heap.size ≤ q) s.heap 4 83 3209 (lw_Z below #[Value.ref b] s) (w6 K a σ ++ w7 K a2 τ) 781 [some (.ref b), some (.ref (a 0)), some (.ref (a2 0)), some (.int i)] []) : Go p l e room_1 s m #[Value.ref b] below meth c K (fun q : Nat => s.heap.size ≤ q) s.heap 4 83 3209 (lw_Z below #[Value.ref b] s) (w6 K a σ ++ w7 K a2 τ) 718 [some (.ref b), some (.ref (a 0)), some (.ref (a2 0)), some (.int i)] [] := by
  have hbA : ¬ (fun q : Nat => s.heap.size ≤ q) b := Nat.not_le.mpr hbl
  obtain ⟨r, σ1, τ1, h1, h2, hR1⟩ := hE σ τ hRel
  refine Go_aload_n (pc := 718) C dL_law_718 rfl ?_
  refine Go_callV1 (pc := 719) (ws1 := w6 K a σ1 ++ w7 K a2 τ) C 0 (List.range 69) (kX6_does l K a σ (r, σ1) h1) ycX6_does mw_540 (Nat.le_of_ble_eq_true rfl) rfl rfl rfl rfl (Nat.le_of_ble_eq_true rfl) ⟨(Nat.le_of_ble_eq_true rfl), (Nat.le_of_ble_eq_true rfl)⟩ dL_law_719 (his_l _ _ rfl) rfl rfl (Wr_l _ _ _ rfl rfl rfl) ?_
  refine Go_aload_n (pc := 722) C dL_law_722 rfl ?_
  refine Go_callV1 (pc := 723) (ws1 := w6 K a σ1 ++ w7 K a2 τ1) C 69 ((List.range 14).map (fun i => 69 + i)) (kX7_does l K a2 τ (r, τ1) h2) ycX7_does mw_926 (Nat.le_of_ble_eq_true rfl) rfl rfl rfl rfl (Nat.le_of_ble_eq_true rfl) ⟨(Nat.le_of_ble_eq_true rfl), (Nat.le_of_ble_eq_true rfl)⟩ dL_law_723 (his_r _ _ rfl rfl) rfl rfl (Wr_r _ _ _ rfl rfl rfl) ?_
  refine Go_icmp_eq (pc := 726) (tgt := 781) C dL_law_726 (by decide) (fun _ => ?_) (fun hc => absurd rfl hc)
  exact hn σ1 τ1 hR1
set_option maxHeartbeats 4000000 in
set_option maxRecDepth 100000 in
theorem law_back {p : Program} {l : Launch} {e : Env} {s : State} {m : MethodId} {below : List Frame} {meth : Method} {c : Code} {K : KK} {b L : Nat} {xs : Nat → Int32} {a a2 : Nat → Nat} {Rel : S6 → S7 → Prop} {σ : S6} {τ : S7} {i : Int32} (C : Cx p room_1 s m #[Value.ref b] meth c K (fun q : Nat => s.heap.size ≤ q) s.heap code RL 4 10) (hX : va_X b L xs s s.heap) (hbl : b < s.heap.size) (hRel : Rel σ τ) (hE : E0 Rel fX6_back fX7_back) (hi1 : vp_in (i + 1) L) (hi2 : vp_in (i + 2) L) (hi3 : vp_in (i + 3) L) (hn : ∀ (σ : S6) (τ : S7), Rel σ τ → Go p l e room_1 s m #[Value.ref b] below meth c K (fun q : Nat => s.heap.size ≤ q) s.heap 4 83 3209 (lw_Z below #[Value.ref b] s) (w6 K a σ ++ w7 K a2 τ) 781 [some (.ref b), some (.ref (a 0)), some (.ref (a2 0)), some (.int i)] []) : Go p l e room_1 s m #[Value.ref b] below meth c K (fun q : Nat => s.heap.size ≤ q) s.heap 4 83 3209 (lw_Z below #[Value.ref b] s) (w6 K a σ ++ w7 K a2 τ) 731 [some (.ref b), some (.ref (a 0)), some (.ref (a2 0)), some (.int i)] [] := by
  have hbA : ¬ (fun q : Nat => s.heap.size ≤ q) b := Nat.not_le.mpr hbl
  obtain ⟨r, σ1, τ1, h1, h2, hR1⟩ := hE σ τ hRel
  refine Go_aload_n (pc := 731) C dL_law_731 rfl ?_
  refine Go_callV1 (pc := 732) (ws1 := w6 K a σ1 ++ w7 K a2 τ) C 0 (List.range 69) (kX6_back l K a σ (r, σ1) h1) ycX6_back mw_601 (Nat.le_of_ble_eq_true rfl) rfl rfl rfl rfl (Nat.le_of_ble_eq_true rfl) ⟨(Nat.le_of_ble_eq_true rfl), (Nat.le_of_ble_eq_true rfl)⟩ dL_law_732 (his_l _ _ rfl) rfl rfl (Wr_l _ _ _ rfl rfl rfl) ?_
  refine Go_aload_n (pc := 735) C dL_law_735 rfl ?_
  refine Go_callV1 (pc := 736) (ws1 := w6 K a σ1 ++ w7 K a2 τ1) C 69 ((List.range 14).map (fun i => 69 + i)) (kX7_back l K a2 τ (r, τ1) h2) ycX7_back mw_699 (Nat.le_of_ble_eq_true rfl) rfl rfl rfl rfl (Nat.le_of_ble_eq_true rfl) ⟨(Nat.le_of_ble_eq_true rfl), (Nat.le_of_ble_eq_true rfl)⟩ dL_law_736 (his_r _ _ rfl rfl) rfl rfl (Wr_r _ _ _ rfl rfl rfl) ?_
  refine Go_icmp_eq (pc := 739) (tgt := 781) C dL_law_739 (by decide) (fun _ => ?_) (fun hc => absurd rfl hc)
  exact hn σ1 τ1 hR1
set_option maxHeartbeats 4000000 in
set_option maxRecDepth 100000 in
theorem law_told {p : Program} {l : Launch} {e : Env} {s : State} {m : MethodId} {below : List Frame} {meth : Method} {c : Code} {K : KK} {b L : Nat} {xs : Nat → Int32} {a a2 : Nat → Nat} {Rel : S6 → S7 → Prop} {σ : S6} {τ : S7} {i : Int32} (C : Cx p room_1 s m #[Value.ref b] meth c K (fun q : Nat => s.heap.size ≤ q) s.heap code RL 4 10) (hX : va_X b L xs s s.heap) (hbl : b < s.heap.size) (hRel : Rel σ τ) (hE : E1 Rel fX6_told fX7_told) (hi1 : vp_in (i + 1) L) (hi2 : vp_in (i + 2) L) (hi3 : vp_in (i + 3) L) (hn : ∀ (σ : S6) (τ : S7), Rel σ τ → Go p l e room_1 s m #[Value.ref b] below meth c K (fun q : Nat => s.heap.size ≤ q) s.heap 4 83 3209 (lw_Z below #[Value.ref b] s) (w6 K a σ ++ w7 K a2 τ) 781 [some (.ref b), some (.ref (a 0)), some (.ref (a2 0)), some (.int i)] []) : Go p l e room_1 s m #[Value.ref b] below meth c K (fun q : Nat => s.heap.size ≤ q) s.heap 4 83 3209 (lw_Z below #[Value.ref b] s) (w6 K a σ ++ w7 K a2 τ) 744 [some (.ref b), some (.ref (a 0)), some (.ref (a2 0)), some (.int i)] [] := by
  have hbA : ¬ (fun q : Nat => s.heap.size ≤ q) b := Nat.not_le.mpr hbl
  obtain ⟨r, σ1, τ1, h1, h2, hR1⟩ := hE σ τ (xs (i + 1).toNatClampNeg) hRel
  refine Go_aload_n (pc := 744) C dL_law_744 rfl ?_
  refine Go_aload_n (pc := 745) C dL_law_745 rfl ?_
  refine Go_iload_n (pc := 746) C dL_law_746 rfl ?_
  refine Go_iconst (pc := 747) (v := 1) C dL_law_747 ci_1 ?_
  refine Go_iadd (pc := 748) C dL_law_748 ?_
  refine Go_sld (pc := 749) C hX hbl hbA hi1 dL_law_749 ?_
  refine Go_callV1 (pc := 750) (ws1 := w6 K a σ1 ++ w7 K a2 τ) C 0 (List.range 69) (kX6_told l K a σ (xs (i + 1).toNatClampNeg) (r, σ1) h1) ycX6_told mw_609 (Nat.le_of_ble_eq_true rfl) rfl rfl rfl rfl (Nat.le_of_ble_eq_true rfl) ⟨(Nat.le_of_ble_eq_true rfl), (Nat.le_of_ble_eq_true rfl)⟩ dL_law_750 (his_l _ _ rfl) rfl rfl (Wr_l _ _ _ rfl rfl rfl) ?_
  refine Go_aload_n (pc := 753) C dL_law_753 rfl ?_
  refine Go_aload_n (pc := 754) C dL_law_754 rfl ?_
  refine Go_iload_n (pc := 755) C dL_law_755 rfl ?_
  refine Go_iconst (pc := 756) (v := 1) C dL_law_756 ci_1 ?_
  refine Go_iadd (pc := 757) C dL_law_757 ?_
  refine Go_sld (pc := 758) C hX hbl hbA hi1 dL_law_758 ?_
  refine Go_callV1 (pc := 759) (ws1 := w6 K a σ1 ++ w7 K a2 τ1) C 69 ((List.range 14).map (fun i => 69 + i)) (kX7_told l K a2 τ (xs (i + 1).toNatClampNeg) (r, τ1) h2) ycX7_told mw_982 (Nat.le_of_ble_eq_true rfl) rfl rfl rfl rfl (Nat.le_of_ble_eq_true rfl) ⟨(Nat.le_of_ble_eq_true rfl), (Nat.le_of_ble_eq_true rfl)⟩ dL_law_759 (his_r _ _ rfl rfl) rfl rfl (Wr_r _ _ _ rfl rfl rfl) ?_
  refine Go_icmp_eq (pc := 762) (tgt := 781) C dL_law_762 (by decide) (fun _ => ?_) (fun hc => absurd rfl hc)
  exact hn σ1 τ1 hR1
set_option maxHeartbeats 4000000 in
set_option maxRecDepth 100000 in
theorem law_digest {p : Program} {l : Launch} {e : Env} {s : State} {m : MethodId} {below : List Frame} {meth : Method} {c : Code} {K : KK} {b L : Nat} {xs : Nat → Int32} {a a2 : Nat → Nat} {Rel : S6 → S7 → Prop} {σ : S6} {τ : S7} {i : Int32} (C : Cx p room_1 s m #[Value.ref b] meth c K (fun q : Nat => s.heap.size ≤ q) s.heap code RL 4 10) (hX : va_X b L xs s s.heap) (hbl : b < s.heap.size) (hRel : Rel σ τ) (hE : EL Rel fX6_digest fX7_digest) (hi1 : vp_in (i + 1) L) (hi2 : vp_in (i + 2) L) (hi3 : vp_in (i + 3) L) (hn : ∀ (σ : S6) (τ : S7), Rel σ τ → Go p l e room_1 s m #[Value.ref b] below meth c K (fun q : Nat => s.heap.size ≤ q) s.heap 4 83 3209 (lw_Z below #[Value.ref b] s) (w6 K a σ ++ w7 K a2 τ) 781 [some (.ref b), some (.ref (a 0)), some (.ref (a2 0)), some (.int i)] []) : Go p l e room_1 s m #[Value.ref b] below meth c K (fun q : Nat => s.heap.size ≤ q) s.heap 4 83 3209 (lw_Z below #[Value.ref b] s) (w6 K a σ ++ w7 K a2 τ) 767 [some (.ref b), some (.ref (a 0)), some (.ref (a2 0)), some (.int i)] [] := by
  have hbA : ¬ (fun q : Nat => s.heap.size ≤ q) b := Nat.not_le.mpr hbl
  obtain ⟨r, σ1, τ1, h1, h2, hR1⟩ := hE σ τ hRel
  refine Go_aload_n (pc := 767) C dL_law_767 rfl ?_
  refine Go_callV1 (pc := 768) (ws1 := w6 K a σ1 ++ w7 K a2 τ) C 0 (List.range 69) (kX6_digest l K a σ (r, σ1) h1) ycX6_digest mw_617 (Nat.le_of_ble_eq_true rfl) rfl rfl rfl rfl (Nat.le_of_ble_eq_true rfl) ⟨(Nat.le_of_ble_eq_true rfl), (Nat.le_of_ble_eq_true rfl)⟩ dL_law_768 (his_l _ _ rfl) rfl rfl (Wr_l _ _ _ rfl rfl rfl) ?_
  refine Go_aload_n (pc := 771) C dL_law_771 rfl ?_
  refine Go_callV1 (pc := 772) (ws1 := w6 K a σ1 ++ w7 K a2 τ1) C 69 ((List.range 14).map (fun i => 69 + i)) (kX7_digest l K a2 τ (r, τ1) h2) ycX7_digest mw_990 (Nat.le_of_ble_eq_true rfl) rfl rfl rfl rfl (Nat.le_of_ble_eq_true rfl) ⟨(Nat.le_of_ble_eq_true rfl), (Nat.le_of_ble_eq_true rfl)⟩ dL_law_772 (his_r _ _ rfl rfl) rfl rfl (Wr_r _ _ _ rfl rfl rfl) ?_
  refine Go_lcmp (pc := 775) C dL_law_775 ?_
  refine Go_if_eq (pc := 776) (tgt := 781) C dL_law_776 (by decide) (fun _ => ?_) (fun hc => absurd (lg_cmp_self r) hc)
  exact hn σ1 τ1 hR1
