theorem ll_90 (K : KK) (a : Nat → Nat) (t0 : S4) (y : Nat → Int32) : List.set (w4 K a t0) 1 (a 1, .inl (K.2.1, 120, .inl y)) = (w4 K a ((y, t0.2))) := rfl
theorem ll_91 (K : KK) (a : Nat → Nat) (t0 : S4) (y : Int32) : List.set (w4 K a t0) 0 (a 0, .inr (4, List.set [.ref (a 1), .int (t0.2.1), .int (t0.2.2.1), .int (t0.2.2.2.1), .int (t0.2.2.2.2)] 1 (.int y))) = (w4 K a ((t0.1, y, t0.2.2))) := rfl
def fX4_add (s0 : S4) (p1 : Int32) : Option (S4) := (if (120 : Int32) ≤ s0.2.1 then some s0 else (if 0 ≤ s0.2.1 ∧ s0.2.1.toNatClampNeg < 120 then some ((upd s0.1 s0.2.1.toNatClampNeg p1, s0.2.1 + (1 : Int32), s0.2.2)) else none))
theorem ycX4_add : CalV yX4_add cX4_add 2 none 1 := ⟨mw_535, mw_68, mw_533, mw_534, ⟨by decide, by decide, by decide +kernel⟩, by decide⟩
set_option maxHeartbeats 4000000 in
set_option maxRecDepth 100000 in
theorem kX4_add (l : Launch) (K : KK) (a : Nat → Nat) (s0 : S4) (p1 : Int32) (res : S4) (hf : fX4_add s0 p1 = some res) : Ct l K yX4_add cX4_add 2 none 0 [.ref (a 0), .int p1] (w4 K a s0) (none) (w4 K a res) := by
  refine Ct_of2 (by decide) rfl (Nat.le_of_ble_eq_true rfl) ?_
  intro p e σ m args below meth c C hr
  unfold fX4_add at hf
  refine Go_aload_n (pc := 0) C dX4_add_0 rfl ?_
  refine Go_get (pc := 1) C 0 1 rfl rfl inX4 (by decide) mw_227 rfl dX4_add_1 ?_
  refine Go_bipush (pc := 4) (v := 120) C dX4_add_4 cb_120 ?_
  refine Go_icmp_ge (pc := 6) (tgt := 29) C dX4_add_6 (by decide) (fun hc => ?_) (fun hc => ?_)
  · replace hf := ift hc hf
    obtain rfl := Option.some.inj hf
    exact Go_vret C hr rfl dX4_add_29
  · replace hf := iff' hc hf
    refine Go_aload_n (pc := 9) C dX4_add_9 rfl ?_
    refine Go_get (pc := 10) C 0 0 rfl rfl inX4 (by decide) mw_226 rfl dX4_add_10 ?_
    refine Go_aload_n (pc := 13) C dX4_add_13 rfl ?_
    refine Go_get (pc := 14) C 0 1 rfl rfl inX4 (by decide) mw_227 rfl dX4_add_14 ?_
    refine Go_iload_n (pc := 17) C dX4_add_17 rfl ?_
    obtain ⟨hb, hf⟩ := ifs hf
    refine Go_iast (pc := 18) (ws1 := (w4 K a ((upd s0.1 s0.2.1.toNatClampNeg p1, s0.2)))) C 1 rfl (inb_in hb) dX4_add_18 (ll_90 _ _ _ _) ?_
    refine Go_aload_n (pc := 19) C dX4_add_19 rfl ?_
    refine Go_dup (pc := 20) C dX4_add_20 rfl ?_
    refine Go_get (pc := 21) C 0 1 rfl rfl inX4 (by decide) mw_227 rfl dX4_add_21 ?_
    refine Go_iconst (pc := 24) (v := 1) C dX4_add_24 ci_1 ?_
    refine Go_iadd (pc := 25) C dX4_add_25 ?_
    refine Go_put (pc := 26) (ws1 := (w4 K a ((upd s0.1 s0.2.1.toNatClampNeg p1, s0.2.1 + (1 : Int32), s0.2.2)))) C 0 1 tyX4 tyX4_ok nmX4 rfl rfl inX4 (by decide) mw_227 rfl rfl (Nat.le_of_ble_eq_true rfl) dX4_add_26 (ll_91 _ _ _ _) ?_
    obtain rfl := Option.some.inj hf
    exact Go_vret C hr rfl dX4_add_29
theorem ll_96 (K : KK) (a : Nat → Nat) (t0 : S4) (y : Int32) : List.set (w4 K a t0) 0 (a 0, .inr (4, List.set [.ref (a 1), .int (t0.2.1), .int (t0.2.2.1), .int (t0.2.2.2.1), .int (t0.2.2.2.2)] 2 (.int y))) = (w4 K a ((t0.1, t0.2.1, y, t0.2.2.2))) := rfl
def fX4_skipBlanks_L0 (s0 : S4) (q1 : Int32) : Option ((Int32) ⊕ (Int32)) := (if s0.2.1 ≤ q1 then some (.inr q1) else (if 0 ≤ q1 ∧ q1.toNatClampNeg < 120 then (if (s0.1 q1.toNatClampNeg) = (32 : Int32) then some (.inl (q1 + (1 : Int32))) else some (.inr q1)) else none))
def fX4_skipBlanks (s0 : S4) : Option (S4) := Option.bind (loopF (fX4_skipBlanks_L0 s0) 5000 s0.2.2.1) (fun z2 => some ((s0.1, s0.2.1, z2, s0.2.2.2)))
theorem ycX4_skipBlanks : CalV yX4_skipBlanks cX4_skipBlanks 1 none 0 := ⟨mw_556, mw_68, mw_555, mw_7, ⟨by decide, by decide, by decide +kernel⟩, by decide⟩
set_option maxHeartbeats 4000000 in
set_option maxRecDepth 100000 in
theorem kX4_skipBlanks (l : Launch) (K : KK) (a : Nat → Nat) (s0 : S4) (res : S4) (hf : fX4_skipBlanks s0 = some res) : Ct l K yX4_skipBlanks cX4_skipBlanks 1 none 0 [.ref (a 0)] (w4 K a s0) (none) (w4 K a res) := by
  refine Ct_of2 (by decide) rfl (Nat.le_of_ble_eq_true rfl) ?_
  intro p e σ m args below meth c C hr
  unfold fX4_skipBlanks at hf
  obtain ⟨z2, hz2, hf⟩ := bnd hf
  refine Go_mask [true] ?_
  refine loopF_go (step := (fX4_skipBlanks_L0 s0)) (fun q1 => Go p l e (rmc 0 0 0) σ m args below meth c K (inW (w4 K a s0)) σ.heap 1 0 0 (MQ below (CtQ K (w4 K a s0) (none) (w4 K a res)) args σ 0 0 (inW (w4 K a s0))) (w4 K a ((s0.1, s0.2.1, q1, s0.2.2.2))) 0 [some (.ref (a 0))] []) (fun z2 => Go p l e (rmc 0 0 0) σ m args below meth c K (inW (w4 K a s0)) σ.heap 1 0 0 (MQ below (CtQ K (w4 K a s0) (none) (w4 K a res)) args σ 0 0 (inW (w4 K a s0))) (w4 K a ((s0.1, s0.2.1, z2, s0.2.2.2))) 38 [some (.ref (a 0))] []) ?_ _ _ _ hz2 ?_
  · intro q1 x hf hk
    unfold fX4_skipBlanks_L0 at hf
    refine Go_aload_n (pc := 0) C dX4_skipBlanks_0 rfl ?_
    refine Go_get (pc := 1) C 0 2 rfl rfl inX4 (by decide) mw_229 rfl dX4_skipBlanks_1 ?_
    refine Go_aload_n (pc := 4) C dX4_skipBlanks_4 rfl ?_
    refine Go_get (pc := 5) C 0 1 rfl rfl inX4 (by decide) mw_227 rfl dX4_skipBlanks_5 ?_
    refine Go_icmp_ge (pc := 8) (tgt := 38) C dX4_skipBlanks_8 (by decide) (fun hc => ?_) (fun hc => ?_)
    · replace hf := ift hc hf
      obtain rfl := Option.some.inj hf
      exact Go_mask [true] hk
    · replace hf := iff' hc hf
      refine Go_aload_n (pc := 11) C dX4_skipBlanks_11 rfl ?_
      refine Go_get (pc := 12) C 0 0 rfl rfl inX4 (by decide) mw_226 rfl dX4_skipBlanks_12 ?_
      refine Go_aload_n (pc := 15) C dX4_skipBlanks_15 rfl ?_
      refine Go_get (pc := 16) C 0 2 rfl rfl inX4 (by decide) mw_229 rfl dX4_skipBlanks_16 ?_
      obtain ⟨hb, hf⟩ := ifs hf
      refine Go_iald (pc := 19) C 1 rfl (inb_in hb) dX4_skipBlanks_19 ?_
      refine Go_bipush (pc := 20) (v := 32) C dX4_skipBlanks_20 cb_32 ?_
      refine Go_icmp_ne (pc := 22) (tgt := 38) C dX4_skipBlanks_22 (by decide) (fun hc => ?_) (fun hc => ?_)
      · replace hf := ift hc hf
        refine Go_aload_n (pc := 25) C dX4_skipBlanks_25 rfl ?_
        refine Go_dup (pc := 26) C dX4_skipBlanks_26 rfl ?_
        refine Go_get (pc := 27) C 0 2 rfl rfl inX4 (by decide) mw_229 rfl dX4_skipBlanks_27 ?_
        refine Go_iconst (pc := 30) (v := 1) C dX4_skipBlanks_30 ci_1 ?_
        refine Go_iadd (pc := 31) C dX4_skipBlanks_31 ?_
        refine Go_put (pc := 32) (ws1 := (w4 K a ((s0.1, s0.2.1, q1 + (1 : Int32), s0.2.2.2)))) C 0 2 tyX4 tyX4_ok nmX4 rfl rfl inX4 (by decide) mw_229 rfl rfl (Nat.le_of_ble_eq_true rfl) dX4_skipBlanks_32 (ll_96 _ _ _ _) ?_
        refine Go_goto (pc := 35) (tgt := 0) C dX4_skipBlanks_35 (by decide) ?_
        obtain rfl := Option.some.inj hf
        exact Go_mask [true] hk
      · replace hf := iff' hc hf
        obtain rfl := Option.some.inj hf
        exact Go_mask [true] hk
  · show Go _ _ _ _ _ _ _ _ _ _ _ _ _ _ _ _ _ _ _ _ _
    obtain rfl := Option.some.inj hf
    exact Go_vret C hr rfl dX4_skipBlanks_38
theorem ll_97 (K : KK) (a : Nat → Nat) (t0 : S4) (y : Int32) : List.set (w4 K a t0) 0 (a 0, .inr (4, List.set [.ref (a 1), .int (t0.2.1), .int (t0.2.2.1), .int (t0.2.2.2.1), .int (t0.2.2.2.2)] 3 (.int y))) = (w4 K a ((t0.1, t0.2.1, t0.2.2.1, y, t0.2.2.2.2))) := rfl
def fX4_fail (s0 : S4) (p1 : Int32) : Option (S4) := (if s0.2.2.2.1 = (-1 : Int32) then some ((s0.1, s0.2.1, s0.2.2.1, p1, s0.2.2.2.2)) else some s0)
theorem ycX4_fail : CalV yX4_fail cX4_fail 2 none 1 := ⟨mw_560, mw_68, mw_559, mw_8, ⟨by decide, by decide, by decide +kernel⟩, by decide⟩
set_option maxHeartbeats 4000000 in
set_option maxRecDepth 100000 in
theorem kX4_fail (l : Launch) (K : KK) (a : Nat → Nat) (s0 : S4) (p1 : Int32) (res : S4) (hf : fX4_fail s0 p1 = some res) : Ct l K yX4_fail cX4_fail 2 none 0 [.ref (a 0), .int p1] (w4 K a s0) (none) (w4 K a res) := by
  refine Ct_of2 (by decide) rfl (Nat.le_of_ble_eq_true rfl) ?_
  intro p e σ m args below meth c C hr
  unfold fX4_fail at hf
  refine Go_aload_n (pc := 0) C dX4_fail_0 rfl ?_
  refine Go_get (pc := 1) C 0 3 rfl rfl inX4 (by decide) mw_230 rfl dX4_fail_1 ?_
  refine Go_iconst (pc := 4) (v := -1) C dX4_fail_4 ci_m1 ?_
  refine Go_icmp_ne (pc := 5) (tgt := 13) C dX4_fail_5 (by decide) (fun hc => ?_) (fun hc => ?_)
  · replace hf := ift hc hf
    refine Go_aload_n (pc := 8) C dX4_fail_8 rfl ?_
    refine Go_iload_n (pc := 9) C dX4_fail_9 rfl ?_
    refine Go_put (pc := 10) (ws1 := (w4 K a ((s0.1, s0.2.1, s0.2.2.1, p1, s0.2.2.2.2)))) C 0 3 tyX4 tyX4_ok nmX4 rfl rfl inX4 (by decide) mw_230 rfl rfl (Nat.le_of_ble_eq_true rfl) dX4_fail_10 (ll_97 _ _ _ _) ?_
    obtain rfl := Option.some.inj hf
    exact Go_vret C hr rfl dX4_fail_13
  · replace hf := iff' hc hf
    obtain rfl := Option.some.inj hf
    exact Go_vret C hr rfl dX4_fail_13
def fX4_isFigure (p0 : Int32) : Option (Int32) := (if p0 < (48 : Int32) then some (0 : Int32) else (if (57 : Int32) < p0 then some (0 : Int32) else some (1 : Int32)))
theorem ycX4_isFigure : CalS yX4_isFigure cX4_isFigure 1 ((some .boolean)) 1 := ⟨mw_579, mw_68, mw_578, ⟨by decide, by decide, by decide +kernel⟩, by decide⟩
set_option maxHeartbeats 4000000 in
set_option maxRecDepth 100000 in
theorem kX4_isFigure (l : Launch) (K : KK) (p0 : Int32) (res : Int32) (hf : fX4_isFigure p0 = some res) : Ct l K yX4_isFigure cX4_isFigure 1 ((some .boolean)) 0 [.int p0] ([] : va_W) (some (.int res)) ([] : va_W) := by
  refine Ct_of2 (by decide) rfl (Nat.le_of_ble_eq_true rfl) ?_
  intro p e σ m args below meth c C hr
  unfold fX4_isFigure at hf
  refine Go_iload_n (pc := 0) C dX4_isFigure_0 rfl ?_
  refine Go_bipush (pc := 1) (v := 48) C dX4_isFigure_1 cb_48 ?_
  refine Go_icmp_lt (pc := 3) (tgt := 16) C dX4_isFigure_3 (by decide) (fun hc => ?_) (fun hc => ?_)
  · replace hf := ift hc hf
    refine Go_iconst (pc := 16) (v := 0) C dX4_isFigure_16 ci_0 ?_
    obtain rfl := Option.some.inj hf
    exact Go_zret C hr (Or.inl rfl) rfl dX4_isFigure_17
  · replace hf := iff' hc hf
    refine Go_iload_n (pc := 6) C dX4_isFigure_6 rfl ?_
    refine Go_bipush (pc := 7) (v := 57) C dX4_isFigure_7 cb_57 ?_
    refine Go_icmp_gt (pc := 9) (tgt := 16) C dX4_isFigure_9 (by decide) (fun hc => ?_) (fun hc => ?_)
    · replace hf := ift hc hf
      refine Go_iconst (pc := 16) (v := 0) C dX4_isFigure_16 ci_0 ?_
      obtain rfl := Option.some.inj hf
      exact Go_zret C hr (Or.inl rfl) rfl dX4_isFigure_17
    · replace hf := iff' hc hf
      refine Go_iconst (pc := 12) (v := 1) C dX4_isFigure_12 ci_1 ?_
      refine Go_goto (pc := 13) (tgt := 17) C dX4_isFigure_13 (by decide) ?_
      obtain rfl := Option.some.inj hf
      exact Go_zret C hr (Or.inr rfl) rfl dX4_isFigure_17
theorem ll_98 (K : KK) (a : Nat → Nat) (t0 : S4) : ([0, 1] : List Nat).map (fun i => (w4 K a t0)[i]?) = List.map some (w4 K (pk a [0, 1]) t0) := rfl
theorem ll_99 (K : KK) (a : Nat → Nat) (t0 : S4) (y0 : S4) : Wr (w4 K a t0) [0, 1] (w4 K (pk a [0, 1]) y0) (w4 K a y0) := ⟨[], 2, rfl, (show List.map (fun i => (w4 K a y0)[i]?) _ = ([] : List (Option (Nat × va_E))) from rfl).trans (show List.map (fun i => (w4 K a t0)[i]?) _ = ([] : List (Option (Nat × va_E))) from rfl).symm, rfl, by decide⟩
theorem ll_100 (K : KK) (a : Nat → Nat) (t0 : S4) (y : Int32) : List.set (w4 K a t0) 0 (a 0, .inr (4, List.set [.ref (a 1), .int (t0.2.1), .int (t0.2.2.1), .int (t0.2.2.2.1), .int (t0.2.2.2.2)] 4 (.int y))) = (w4 K a ((t0.1, t0.2.1, t0.2.2.1, t0.2.2.2.1, y))) := rfl
def fX4_readNumber_L14 (r1 : S4) (q2 : Int32 × Int32) : Option ((Int32 × Int32) ⊕ (Int32 × Int32)) := (if r1.2.1 ≤ q2.2 then some (.inr (q2.1, q2.2)) else (if 0 ≤ q2.2 ∧ q2.2.toNatClampNeg < 120 then Option.bind (fX4_isFigure (r1.1 q2.2.toNatClampNeg)) (fun r3 => (if r3 = 0 then some (.inr (q2.1, q2.2)) else (if 0 ≤ q2.2 ∧ q2.2.toNatClampNeg < 120 then Option.bind (some ((((10 : Int32) * q2.1) + (r1.1 q2.2.toNatClampNeg)) - (48 : Int32))) (fun v4 => some (.inl (v4, q2.2 + (1 : Int32)))) else none))) else none))
def fX4_readNumber (s0 : S4) (p1 : Int32) : Option (Int32 × S4) := Option.bind (fX4_skipBlanks s0) (fun r1 => Option.bind (loopF (fX4_readNumber_L14 r1) 5000 ((0 : Int32), r1.2.2.1)) (fun z5 => Option.bind (some (z5.2 - r1.2.2.1)) (fun v6 => (if v6 < (1 : Int32) then Option.bind (fX4_fail ((r1.1, r1.2.1, z5.2, r1.2.2.2.1, r1.2.2.1)) r1.2.2.1) (fun r7 => (if r7.2.2.2.1 = (-1 : Int32) then some (z5.1, r7) else some ((0 : Int32), r7))) else (if (3 : Int32) < v6 then Option.bind (fX4_fail ((r1.1, r1.2.1, z5.2, r1.2.2.2.1, r1.2.2.1)) r1.2.2.1) (fun r8 => (if r8.2.2.2.1 = (-1 : Int32) then some (z5.1, r8) else some ((0 : Int32), r8))) else (if z5.1 ≤ p1 then (if r1.2.2.2.1 = (-1 : Int32) then some (z5.1, (r1.1, r1.2.1, z5.2, r1.2.2.2.1, r1.2.2.1)) else some ((0 : Int32), (r1.1, r1.2.1, z5.2, r1.2.2.2.1, r1.2.2.1))) else Option.bind (fX4_fail ((r1.1, r1.2.1, z5.2, r1.2.2.2.1, r1.2.2.1)) r1.2.2.1) (fun r9 => (if r9.2.2.2.1 = (-1 : Int32) then some (z5.1, r9) else some ((0 : Int32), r9)))))))))
theorem ycX4_readNumber : CalV yX4_readNumber cX4_readNumber 4 ((some .int)) 1 := ⟨mw_576, mw_68, mw_575, mw_12, ⟨by decide, by decide, by decide +kernel⟩, by decide⟩
set_option maxHeartbeats 4000000 in
set_option maxRecDepth 100000 in
theorem kX4_readNumber (l : Launch) (K : KK) (a : Nat → Nat) (s0 : S4) (p1 : Int32) (res : Int32 × S4) (hf : fX4_readNumber s0 p1 = some res) : Ct l K yX4_readNumber cX4_readNumber 4 ((some .int)) 1 [.ref (a 0), .int p1] (w4 K a s0) (some (.int res.1)) (w4 K a res.2) := by
  refine Ct_of2 (by decide) rfl (Nat.le_of_ble_eq_true rfl) ?_
  intro p e σ m args below meth c C hr
  unfold fX4_readNumber at hf
  refine Go_aload_n (pc := 0) C dX4_readNumber_0 rfl ?_
  obtain ⟨r1, hr1, hf⟩ := bnd hf
  refine Go_callV0 (pc := 1) (ws1 := (w4 K a r1)) C 0 [0, 1] (kX4_skipBlanks l K (pk a [0, 1]) s0 r1 hr1) ycX4_skipBlanks mw_553 (Nat.le_of_ble_eq_true rfl) rfl rfl rfl rfl (Nat.le_of_ble_eq_true rfl) ⟨Nat.zero_le _, Nat.zero_le _⟩ dX4_readNumber_1 (ll_98 _ _ _) rfl rfl (ll_99 _ _ _ _) ?_
  refine Go_aload_n (pc := 4) C dX4_readNumber_4 rfl ?_
  refine Go_aload_n (pc := 5) C dX4_readNumber_5 rfl ?_
  refine Go_get (pc := 6) C 0 2 rfl rfl inX4 (by decide) mw_229 rfl dX4_readNumber_6 ?_
  refine Go_put (pc := 9) (ws1 := (w4 K a ((r1.1, r1.2.1, r1.2.2.1, r1.2.2.2.1, r1.2.2.1)))) C 0 4 tyX4 tyX4_ok nmX4 rfl rfl inX4 (by decide) mw_231 rfl rfl (Nat.le_of_ble_eq_true rfl) dX4_readNumber_9 (ll_100 _ _ _ _) ?_
  refine Go_iconst (pc := 12) (v := 0) C dX4_readNumber_12 ci_0 ?_
  refine Go_istore_n (pc := 13) C dX4_readNumber_13 (by decide) ?_
  obtain ⟨z5, hz5, hf⟩ := bnd hf
  refine Go_mask [true, true, true, false] ?_
  refine loopF_go (step := (fX4_readNumber_L14 r1)) (fun q2 => Go p l e (rmc 1 0 0) σ m args below meth c K (inW (w4 K a s0)) σ.heap 4 0 0 (MQ below (CtQ K (w4 K a s0) (some (.int res.1)) (w4 K a res.2)) args σ 0 0 (inW (w4 K a s0))) (w4 K a ((r1.1, r1.2.1, q2.2, r1.2.2.2.1, r1.2.2.1))) 14 [some (.ref (a 0)), some (.int p1), some (.int q2.1), none] []) (fun z5 => Go p l e (rmc 1 0 0) σ m args below meth c K (inW (w4 K a s0)) σ.heap 4 0 0 (MQ below (CtQ K (w4 K a s0) (some (.int res.1)) (w4 K a res.2)) args σ 0 0 (inW (w4 K a s0))) (w4 K a ((r1.1, r1.2.1, z5.2, r1.2.2.2.1, r1.2.2.1))) 71 [some (.ref (a 0)), some (.int p1), some (.int z5.1), none] []) ?_ _ _ _ hz5 ?_
  · intro q2 x hf hk
    unfold fX4_readNumber_L14 at hf
    refine Go_aload_n (pc := 14) C dX4_readNumber_14 rfl ?_
    refine Go_get (pc := 15) C 0 2 rfl rfl inX4 (by decide) mw_229 rfl dX4_readNumber_15 ?_
    refine Go_aload_n (pc := 18) C dX4_readNumber_18 rfl ?_
    refine Go_get (pc := 19) C 0 1 rfl rfl inX4 (by decide) mw_227 rfl dX4_readNumber_19 ?_
    refine Go_icmp_ge (pc := 22) (tgt := 71) C dX4_readNumber_22 (by decide) (fun hc => ?_) (fun hc => ?_)
    · replace hf := ift hc hf
      obtain rfl := Option.some.inj hf
      exact Go_mask [true, true, true, false] hk
    · replace hf := iff' hc hf
      refine Go_aload_n (pc := 25) C dX4_readNumber_25 rfl ?_
      refine Go_get (pc := 26) C 0 0 rfl rfl inX4 (by decide) mw_226 rfl dX4_readNumber_26 ?_
      refine Go_aload_n (pc := 29) C dX4_readNumber_29 rfl ?_
      refine Go_get (pc := 30) C 0 2 rfl rfl inX4 (by decide) mw_229 rfl dX4_readNumber_30 ?_
      obtain ⟨hb, hf⟩ := ifs hf
      refine Go_iald (pc := 33) C 1 rfl (inb_in hb) dX4_readNumber_33 ?_
      obtain ⟨r3, hr3, hf⟩ := bnd hf
      refine Go_callS1 (pc := 34) (ws1 := (w4 K a ((r1.1, r1.2.1, q2.2, r1.2.2.2.1, r1.2.2.1)))) C [] (kX4_isFigure l K (r1.1 q2.2.toNatClampNeg) r3 hr3) ycX4_isFigure mw_577 (Nat.le_of_ble_eq_true rfl) rfl rfl (Nat.le_of_ble_eq_true rfl) ⟨Nat.zero_le _, Nat.zero_le _⟩ dX4_readNumber_34 rfl rfl rfl (Wr_same rfl) ?_
      refine Go_if_eq (pc := 37) (tgt := 71) C dX4_readNumber_37 (by decide) (fun hc => ?_) (fun hc => ?_)
      · replace hf := ift hc hf
        obtain rfl := Option.some.inj hf
        exact Go_mask [true, true, true, false] hk
      · replace hf := iff' hc hf
        refine Go_bipush (pc := 40) (v := 10) C dX4_readNumber_40 cb_10 ?_
        refine Go_iload_n (pc := 42) C dX4_readNumber_42 rfl ?_
        refine Go_imul (pc := 43) C dX4_readNumber_43 ?_
        refine Go_aload_n (pc := 44) C dX4_readNumber_44 rfl ?_
        refine Go_get (pc := 45) C 0 0 rfl rfl inX4 (by decide) mw_226 rfl dX4_readNumber_45 ?_
        refine Go_aload_n (pc := 48) C dX4_readNumber_48 rfl ?_
        refine Go_get (pc := 49) C 0 2 rfl rfl inX4 (by decide) mw_229 rfl dX4_readNumber_49 ?_
        obtain ⟨hb, hf⟩ := ifs hf
        refine Go_iald (pc := 52) C 1 rfl (inb_in hb) dX4_readNumber_52 ?_
        refine Go_iadd (pc := 53) C dX4_readNumber_53 ?_
        refine Go_bipush (pc := 54) (v := 48) C dX4_readNumber_54 cb_48 ?_
        refine Go_isub (pc := 56) C dX4_readNumber_56 ?_
        obtain ⟨v4, hv4, hf⟩ := bnd hf
        refine Go_topi (Option.some.inj hv4) ?_
        refine Go_istore_n (pc := 57) C dX4_readNumber_57 (by decide) ?_
        refine Go_aload_n (pc := 58) C dX4_readNumber_58 rfl ?_
        refine Go_dup (pc := 59) C dX4_readNumber_59 rfl ?_
        refine Go_get (pc := 60) C 0 2 rfl rfl inX4 (by decide) mw_229 rfl dX4_readNumber_60 ?_
        refine Go_iconst (pc := 63) (v := 1) C dX4_readNumber_63 ci_1 ?_
        refine Go_iadd (pc := 64) C dX4_readNumber_64 ?_
        refine Go_put (pc := 65) (ws1 := (w4 K a ((r1.1, r1.2.1, q2.2 + (1 : Int32), r1.2.2.2.1, r1.2.2.1)))) C 0 2 tyX4 tyX4_ok nmX4 rfl rfl inX4 (by decide) mw_229 rfl rfl (Nat.le_of_ble_eq_true rfl) dX4_readNumber_65 (ll_96 _ _ _ _) ?_
        refine Go_goto (pc := 68) (tgt := 14) C dX4_readNumber_68 (by decide) ?_
        obtain rfl := Option.some.inj hf
        exact Go_mask [true, true, true, false] hk
  · show Go _ _ _ _ _ _ _ _ _ _ _ _ _ _ _ _ _ _ _ _ _
    refine Go_aload_n (pc := 71) C dX4_readNumber_71 rfl ?_
    refine Go_get (pc := 72) C 0 2 rfl rfl inX4 (by decide) mw_229 rfl dX4_readNumber_72 ?_
    refine Go_aload_n (pc := 75) C dX4_readNumber_75 rfl ?_
    refine Go_get (pc := 76) C 0 4 rfl rfl inX4 (by decide) mw_231 rfl dX4_readNumber_76 ?_
    refine Go_isub (pc := 79) C dX4_readNumber_79 ?_
    obtain ⟨v6, hv6, hf⟩ := bnd hf
    refine Go_topi (Option.some.inj hv6) ?_
    refine Go_istore_n (pc := 80) C dX4_readNumber_80 (by decide) ?_
    refine Go_iload_n (pc := 81) C dX4_readNumber_81 rfl ?_
    refine Go_iconst (pc := 82) (v := 1) C dX4_readNumber_82 ci_1 ?_
    refine Go_icmp_lt (pc := 83) (tgt := 96) C dX4_readNumber_83 (by decide) (fun hc => ?_) (fun hc => ?_)
    · replace hf := ift hc hf
      refine Go_aload_n (pc := 96) C dX4_readNumber_96 rfl ?_
      refine Go_aload_n (pc := 97) C dX4_readNumber_97 rfl ?_
      refine Go_get (pc := 98) C 0 4 rfl rfl inX4 (by decide) mw_231 rfl dX4_readNumber_98 ?_
      obtain ⟨r7, hr7, hf⟩ := bnd hf
      refine Go_callV0 (pc := 101) (ws1 := (w4 K a r7)) C 0 [0, 1] (kX4_fail l K (pk a [0, 1]) ((r1.1, r1.2.1, z5.2, r1.2.2.2.1, r1.2.2.1)) r1.2.2.1 r7 hr7) ycX4_fail mw_557 (Nat.le_of_ble_eq_true rfl) rfl rfl rfl rfl (Nat.le_of_ble_eq_true rfl) ⟨Nat.zero_le _, Nat.zero_le _⟩ dX4_readNumber_101 (ll_98 _ _ _) rfl rfl (ll_99 _ _ _ _) ?_
      refine Go_aload_n (pc := 104) C dX4_readNumber_104 rfl ?_
      refine Go_get (pc := 105) C 0 3 rfl rfl inX4 (by decide) mw_230 rfl dX4_readNumber_105 ?_
      refine Go_iconst (pc := 108) (v := -1) C dX4_readNumber_108 ci_m1 ?_
      refine Go_icmp_ne (pc := 109) (tgt := 116) C dX4_readNumber_109 (by decide) (fun hc => ?_) (fun hc => ?_)
      · replace hf := ift hc hf
        refine Go_iload_n (pc := 112) C dX4_readNumber_112 rfl ?_
        refine Go_goto (pc := 113) (tgt := 117) C dX4_readNumber_113 (by decide) ?_
        obtain rfl := Option.some.inj hf
        exact Go_iret C hr rfl dX4_readNumber_117
      · replace hf := iff' hc hf
        refine Go_iconst (pc := 116) (v := 0) C dX4_readNumber_116 ci_0 ?_
        obtain rfl := Option.some.inj hf
        exact Go_iret C hr rfl dX4_readNumber_117
    · replace hf := iff' hc hf
      refine Go_iload_n (pc := 86) C dX4_readNumber_86 rfl ?_
      refine Go_iconst (pc := 87) (v := 3) C dX4_readNumber_87 ci_3 ?_
      refine Go_icmp_gt (pc := 88) (tgt := 96) C dX4_readNumber_88 (by decide) (fun hc => ?_) (fun hc => ?_)
      · replace hf := ift hc hf
        refine Go_aload_n (pc := 96) C dX4_readNumber_96 rfl ?_
        refine Go_aload_n (pc := 97) C dX4_readNumber_97 rfl ?_
        refine Go_get (pc := 98) C 0 4 rfl rfl inX4 (by decide) mw_231 rfl dX4_readNumber_98 ?_
        obtain ⟨r8, hr8, hf⟩ := bnd hf
        refine Go_callV0 (pc := 101) (ws1 := (w4 K a r8)) C 0 [0, 1] (kX4_fail l K (pk a [0, 1]) ((r1.1, r1.2.1, z5.2, r1.2.2.2.1, r1.2.2.1)) r1.2.2.1 r8 hr8) ycX4_fail mw_557 (Nat.le_of_ble_eq_true rfl) rfl rfl rfl rfl (Nat.le_of_ble_eq_true rfl) ⟨Nat.zero_le _, Nat.zero_le _⟩ dX4_readNumber_101 (ll_98 _ _ _) rfl rfl (ll_99 _ _ _ _) ?_
        refine Go_aload_n (pc := 104) C dX4_readNumber_104 rfl ?_
        refine Go_get (pc := 105) C 0 3 rfl rfl inX4 (by decide) mw_230 rfl dX4_readNumber_105 ?_
        refine Go_iconst (pc := 108) (v := -1) C dX4_readNumber_108 ci_m1 ?_
        refine Go_icmp_ne (pc := 109) (tgt := 116) C dX4_readNumber_109 (by decide) (fun hc => ?_) (fun hc => ?_)
        · replace hf := ift hc hf
          refine Go_iload_n (pc := 112) C dX4_readNumber_112 rfl ?_
          refine Go_goto (pc := 113) (tgt := 117) C dX4_readNumber_113 (by decide) ?_
          obtain rfl := Option.some.inj hf
          exact Go_iret C hr rfl dX4_readNumber_117
        · replace hf := iff' hc hf
          refine Go_iconst (pc := 116) (v := 0) C dX4_readNumber_116 ci_0 ?_
          obtain rfl := Option.some.inj hf
          exact Go_iret C hr rfl dX4_readNumber_117
      · replace hf := iff' hc hf
        refine Go_iload_n (pc := 91) C dX4_readNumber_91 rfl ?_
        refine Go_iload_n (pc := 92) C dX4_readNumber_92 rfl ?_
        refine Go_icmp_le (pc := 93) (tgt := 104) C dX4_readNumber_93 (by decide) (fun hc => ?_) (fun hc => ?_)
        · replace hf := ift hc hf
          refine Go_aload_n (pc := 104) C dX4_readNumber_104 rfl ?_
          refine Go_get (pc := 105) C 0 3 rfl rfl inX4 (by decide) mw_230 rfl dX4_readNumber_105 ?_
          refine Go_iconst (pc := 108) (v := -1) C dX4_readNumber_108 ci_m1 ?_
          refine Go_icmp_ne (pc := 109) (tgt := 116) C dX4_readNumber_109 (by decide) (fun hc => ?_) (fun hc => ?_)
          · replace hf := ift hc hf
            refine Go_iload_n (pc := 112) C dX4_readNumber_112 rfl ?_
            refine Go_goto (pc := 113) (tgt := 117) C dX4_readNumber_113 (by decide) ?_
            obtain rfl := Option.some.inj hf
            exact Go_iret C hr rfl dX4_readNumber_117
          · replace hf := iff' hc hf
            refine Go_iconst (pc := 116) (v := 0) C dX4_readNumber_116 ci_0 ?_
            obtain rfl := Option.some.inj hf
            exact Go_iret C hr rfl dX4_readNumber_117
        · replace hf := iff' hc hf
          refine Go_aload_n (pc := 96) C dX4_readNumber_96 rfl ?_
          refine Go_aload_n (pc := 97) C dX4_readNumber_97 rfl ?_
          refine Go_get (pc := 98) C 0 4 rfl rfl inX4 (by decide) mw_231 rfl dX4_readNumber_98 ?_
          obtain ⟨r9, hr9, hf⟩ := bnd hf
          refine Go_callV0 (pc := 101) (ws1 := (w4 K a r9)) C 0 [0, 1] (kX4_fail l K (pk a [0, 1]) ((r1.1, r1.2.1, z5.2, r1.2.2.2.1, r1.2.2.1)) r1.2.2.1 r9 hr9) ycX4_fail mw_557 (Nat.le_of_ble_eq_true rfl) rfl rfl rfl rfl (Nat.le_of_ble_eq_true rfl) ⟨Nat.zero_le _, Nat.zero_le _⟩ dX4_readNumber_101 (ll_98 _ _ _) rfl rfl (ll_99 _ _ _ _) ?_
          refine Go_aload_n (pc := 104) C dX4_readNumber_104 rfl ?_
          refine Go_get (pc := 105) C 0 3 rfl rfl inX4 (by decide) mw_230 rfl dX4_readNumber_105 ?_
          refine Go_iconst (pc := 108) (v := -1) C dX4_readNumber_108 ci_m1 ?_
          refine Go_icmp_ne (pc := 109) (tgt := 116) C dX4_readNumber_109 (by decide) (fun hc => ?_) (fun hc => ?_)
          · replace hf := ift hc hf
            refine Go_iload_n (pc := 112) C dX4_readNumber_112 rfl ?_
            refine Go_goto (pc := 113) (tgt := 117) C dX4_readNumber_113 (by decide) ?_
            obtain rfl := Option.some.inj hf
            exact Go_iret C hr rfl dX4_readNumber_117
          · replace hf := iff' hc hf
            refine Go_iconst (pc := 116) (v := 0) C dX4_readNumber_116 ci_0 ?_
            obtain rfl := Option.some.inj hf
            exact Go_iret C hr rfl dX4_readNumber_117
def fX4_readCell (s0 : S4) : Option (Int32 × S4) := Option.bind (fX4_readNumber s0 (7 : Int32)) (fun r1 => Option.bind (fX4_readNumber r1.2 (11 : Int32)) (fun r2 => some (((12 : Int32) * r1.1) + r2.1, r2.2)))
theorem ycX4_readCell : CalV yX4_readCell cX4_readCell 3 ((some .int)) 0 := ⟨mw_572, mw_68, mw_571, mw_11, ⟨by decide, by decide, by decide +kernel⟩, by decide⟩
set_option maxHeartbeats 4000000 in
set_option maxRecDepth 100000 in
theorem kX4_readCell (l : Launch) (K : KK) (a : Nat → Nat) (s0 : S4) (res : Int32 × S4) (hf : fX4_readCell s0 = some res) : Ct l K yX4_readCell cX4_readCell 3 ((some .int)) 2 [.ref (a 0)] (w4 K a s0) (some (.int res.1)) (w4 K a res.2) := by
  refine Ct_of2 (by decide) rfl (Nat.le_of_ble_eq_true rfl) ?_
  intro p e σ m args below meth c C hr
  unfold fX4_readCell at hf
  refine Go_aload_n (pc := 0) C dX4_readCell_0 rfl ?_
  refine Go_bipush (pc := 1) (v := 7) C dX4_readCell_1 cb_7 ?_
  obtain ⟨r1, hr1, hf⟩ := bnd hf
  refine Go_callV1 (pc := 3) (ws1 := (w4 K a r1.2)) C 0 [0, 1] (kX4_readNumber l K (pk a [0, 1]) s0 (7 : Int32) r1 hr1) ycX4_readNumber mw_573 (Nat.le_of_ble_eq_true rfl) rfl rfl rfl rfl (Nat.le_of_ble_eq_true rfl) ⟨Nat.zero_le _, Nat.zero_le _⟩ dX4_readCell_3 (ll_98 _ _ _) rfl rfl (ll_99 _ _ _ _) ?_
  refine Go_istore_n (pc := 6) C dX4_readCell_6 (by decide) ?_
  refine Go_aload_n (pc := 7) C dX4_readCell_7 rfl ?_
  refine Go_bipush (pc := 8) (v := 11) C dX4_readCell_8 cb_11 ?_
  obtain ⟨r2, hr2, hf⟩ := bnd hf
  refine Go_callV1 (pc := 10) (ws1 := (w4 K a r2.2)) C 0 [0, 1] (kX4_readNumber l K (pk a [0, 1]) r1.2 (11 : Int32) r2 hr2) ycX4_readNumber mw_573 (Nat.le_of_ble_eq_true rfl) rfl rfl rfl rfl (Nat.le_of_ble_eq_true rfl) ⟨Nat.zero_le _, Nat.zero_le _⟩ dX4_readCell_10 (ll_98 _ _ _) rfl rfl (ll_99 _ _ _ _) ?_
  refine Go_istore_n (pc := 13) C dX4_readCell_13 (by decide) ?_
  refine Go_bipush (pc := 14) (v := 12) C dX4_readCell_14 cb_12 ?_
  refine Go_iload_n (pc := 16) C dX4_readCell_16 rfl ?_
  refine Go_imul (pc := 17) C dX4_readCell_17 ?_
  refine Go_iload_n (pc := 18) C dX4_readCell_18 rfl ?_
  refine Go_iadd (pc := 19) C dX4_readCell_19 ?_
  obtain rfl := Option.some.inj hf
  exact Go_iret C hr rfl dX4_readCell_20
def fX4_readEnd (s0 : S4) : Option (S4) := Option.bind (fX4_skipBlanks s0) (fun r1 => (if r1.2.1 ≤ r1.2.2.1 then Option.bind (fX4_fail r1 r1.2.2.1) (fun r2 => some ((r2.1, r2.2.1, r2.2.2.1 + (1 : Int32), r2.2.2.2))) else (if 0 ≤ r1.2.2.1 ∧ r1.2.2.1.toNatClampNeg < 120 then (if (r1.1 r1.2.2.1.toNatClampNeg) = (59 : Int32) then some ((r1.1, r1.2.1, r1.2.2.1 + (1 : Int32), r1.2.2.2)) else Option.bind (fX4_fail r1 r1.2.2.1) (fun r3 => some ((r3.1, r3.2.1, r3.2.2.1 + (1 : Int32), r3.2.2.2)))) else none)))
theorem ycX4_readEnd : CalV yX4_readEnd cX4_readEnd 1 none 0 := ⟨mw_583, mw_68, mw_582, mw_13, ⟨by decide, by decide, by decide +kernel⟩, by decide⟩
set_option maxHeartbeats 4000000 in
set_option maxRecDepth 100000 in
theorem kX4_readEnd (l : Launch) (K : KK) (a : Nat → Nat) (s0 : S4) (res : S4) (hf : fX4_readEnd s0 = some res) : Ct l K yX4_readEnd cX4_readEnd 1 none 1 [.ref (a 0)] (w4 K a s0) (none) (w4 K a res) := by
  refine Ct_of2 (by decide) rfl (Nat.le_of_ble_eq_true rfl) ?_
  intro p e σ m args below meth c C hr
  unfold fX4_readEnd at hf
  refine Go_aload_n (pc := 0) C dX4_readEnd_0 rfl ?_
  obtain ⟨r1, hr1, hf⟩ := bnd hf
  refine Go_callV0 (pc := 1) (ws1 := (w4 K a r1)) C 0 [0, 1] (kX4_skipBlanks l K (pk a [0, 1]) s0 r1 hr1) ycX4_skipBlanks mw_553 (Nat.le_of_ble_eq_true rfl) rfl rfl rfl rfl (Nat.le_of_ble_eq_true rfl) ⟨Nat.zero_le _, Nat.zero_le _⟩ dX4_readEnd_1 (ll_98 _ _ _) rfl rfl (ll_99 _ _ _ _) ?_
  refine Go_aload_n (pc := 4) C dX4_readEnd_4 rfl ?_
  refine Go_get (pc := 5) C 0 2 rfl rfl inX4 (by decide) mw_229 rfl dX4_readEnd_5 ?_
  refine Go_aload_n (pc := 8) C dX4_readEnd_8 rfl ?_
  refine Go_get (pc := 9) C 0 1 rfl rfl inX4 (by decide) mw_227 rfl dX4_readEnd_9 ?_
  refine Go_icmp_ge (pc := 12) (tgt := 29) C dX4_readEnd_12 (by decide) (fun hc => ?_) (fun hc => ?_)
  · replace hf := ift hc hf
    refine Go_aload_n (pc := 29) C dX4_readEnd_29 rfl ?_
    refine Go_aload_n (pc := 30) C dX4_readEnd_30 rfl ?_
    refine Go_get (pc := 31) C 0 2 rfl rfl inX4 (by decide) mw_229 rfl dX4_readEnd_31 ?_
    obtain ⟨r2, hr2, hf⟩ := bnd hf
    refine Go_callV0 (pc := 34) (ws1 := (w4 K a r2)) C 0 [0, 1] (kX4_fail l K (pk a [0, 1]) r1 r1.2.2.1 r2 hr2) ycX4_fail mw_557 (Nat.le_of_ble_eq_true rfl) rfl rfl rfl rfl (Nat.le_of_ble_eq_true rfl) ⟨Nat.zero_le _, Nat.zero_le _⟩ dX4_readEnd_34 (ll_98 _ _ _) rfl rfl (ll_99 _ _ _ _) ?_
    refine Go_aload_n (pc := 37) C dX4_readEnd_37 rfl ?_
    refine Go_dup (pc := 38) C dX4_readEnd_38 rfl ?_
    refine Go_get (pc := 39) C 0 2 rfl rfl inX4 (by decide) mw_229 rfl dX4_readEnd_39 ?_
    refine Go_iconst (pc := 42) (v := 1) C dX4_readEnd_42 ci_1 ?_
    refine Go_iadd (pc := 43) C dX4_readEnd_43 ?_
    refine Go_put (pc := 44) (ws1 := (w4 K a ((r2.1, r2.2.1, r2.2.2.1 + (1 : Int32), r2.2.2.2)))) C 0 2 tyX4 tyX4_ok nmX4 rfl rfl inX4 (by decide) mw_229 rfl rfl (Nat.le_of_ble_eq_true rfl) dX4_readEnd_44 (ll_96 _ _ _ _) ?_
    obtain rfl := Option.some.inj hf
    exact Go_vret C hr rfl dX4_readEnd_47
  · replace hf := iff' hc hf
    refine Go_aload_n (pc := 15) C dX4_readEnd_15 rfl ?_
    refine Go_get (pc := 16) C 0 0 rfl rfl inX4 (by decide) mw_226 rfl dX4_readEnd_16 ?_
    refine Go_aload_n (pc := 19) C dX4_readEnd_19 rfl ?_
    refine Go_get (pc := 20) C 0 2 rfl rfl inX4 (by decide) mw_229 rfl dX4_readEnd_20 ?_
    obtain ⟨hb, hf⟩ := ifs hf
    refine Go_iald (pc := 23) C 1 rfl (inb_in hb) dX4_readEnd_23 ?_
    refine Go_bipush (pc := 24) (v := 59) C dX4_readEnd_24 cb_59 ?_
    refine Go_icmp_eq (pc := 26) (tgt := 37) C dX4_readEnd_26 (by decide) (fun hc => ?_) (fun hc => ?_)
    · replace hf := ift hc hf
      refine Go_aload_n (pc := 37) C dX4_readEnd_37 rfl ?_
      refine Go_dup (pc := 38) C dX4_readEnd_38 rfl ?_
      refine Go_get (pc := 39) C 0 2 rfl rfl inX4 (by decide) mw_229 rfl dX4_readEnd_39 ?_
      refine Go_iconst (pc := 42) (v := 1) C dX4_readEnd_42 ci_1 ?_
      refine Go_iadd (pc := 43) C dX4_readEnd_43 ?_
      refine Go_put (pc := 44) (ws1 := (w4 K a ((r1.1, r1.2.1, r1.2.2.1 + (1 : Int32), r1.2.2.2)))) C 0 2 tyX4 tyX4_ok nmX4 rfl rfl inX4 (by decide) mw_229 rfl rfl (Nat.le_of_ble_eq_true rfl) dX4_readEnd_44 (ll_96 _ _ _ _) ?_
      obtain rfl := Option.some.inj hf
      exact Go_vret C hr rfl dX4_readEnd_47
    · replace hf := iff' hc hf
      refine Go_aload_n (pc := 29) C dX4_readEnd_29 rfl ?_
      refine Go_aload_n (pc := 30) C dX4_readEnd_30 rfl ?_
      refine Go_get (pc := 31) C 0 2 rfl rfl inX4 (by decide) mw_229 rfl dX4_readEnd_31 ?_
      obtain ⟨r3, hr3, hf⟩ := bnd hf
      refine Go_callV0 (pc := 34) (ws1 := (w4 K a r3)) C 0 [0, 1] (kX4_fail l K (pk a [0, 1]) r1 r1.2.2.1 r3 hr3) ycX4_fail mw_557 (Nat.le_of_ble_eq_true rfl) rfl rfl rfl rfl (Nat.le_of_ble_eq_true rfl) ⟨Nat.zero_le _, Nat.zero_le _⟩ dX4_readEnd_34 (ll_98 _ _ _) rfl rfl (ll_99 _ _ _ _) ?_
      refine Go_aload_n (pc := 37) C dX4_readEnd_37 rfl ?_
      refine Go_dup (pc := 38) C dX4_readEnd_38 rfl ?_
      refine Go_get (pc := 39) C 0 2 rfl rfl inX4 (by decide) mw_229 rfl dX4_readEnd_39 ?_
      refine Go_iconst (pc := 42) (v := 1) C dX4_readEnd_42 ci_1 ?_
      refine Go_iadd (pc := 43) C dX4_readEnd_43 ?_
      refine Go_put (pc := 44) (ws1 := (w4 K a ((r3.1, r3.2.1, r3.2.2.1 + (1 : Int32), r3.2.2.2)))) C 0 2 tyX4 tyX4_ok nmX4 rfl rfl inX4 (by decide) mw_229 rfl rfl (Nat.le_of_ble_eq_true rfl) dX4_readEnd_44 (ll_96 _ _ _ _) ?_
      obtain rfl := Option.some.inj hf
      exact Go_vret C hr rfl dX4_readEnd_47
theorem ll_101 (K : KK) (a : Nat → Nat) (t0 : S4) (t1 : S1) : ([0, 1] : List Nat).map (fun i => (w4 K a t0 ++ w1 K (sh a 2) t1)[i]?) = List.map some (w4 K (pk a [0, 1]) t0) := rfl
theorem ll_102 (K : KK) (a : Nat → Nat) (t0 : S4) (t1 : S1) (y0 : S4) : Wr (w4 K a t0 ++ w1 K (sh a 2) t1) [0, 1] (w4 K (pk a [0, 1]) y0) (w4 K a y0 ++ w1 K (sh a 2) t1) := ⟨[2, 3, 4, 5, 6, 7], 8, rfl, (show List.map (fun i => (w4 K a y0 ++ w1 K (sh a 2) t1)[i]?) _ = ([some (a 2, .inr (1, [.ref (a 3), .ref (a 4), .ref (a 5), .ref (a 6), .ref (a 7), .int (t1.2.2.2.2.2)])), some (a 3, .inl (K.2.1, 96, .inl (t1.1))), some (a 4, .inl (K.2.1, 12, .inl (t1.2.1))), some (a 5, .inl (K.2.1, 12, .inl (t1.2.2.1))), some (a 6, .inl (K.2.1, 12, .inl (t1.2.2.2.1))), some (a 7, .inl (K.2.1, 21, .inl (t1.2.2.2.2.1)))] : List (Option (Nat × va_E))) from rfl).trans (show List.map (fun i => (w4 K a t0 ++ w1 K (sh a 2) t1)[i]?) _ = ([some (a 2, .inr (1, [.ref (a 3), .ref (a 4), .ref (a 5), .ref (a 6), .ref (a 7), .int (t1.2.2.2.2.2)])), some (a 3, .inl (K.2.1, 96, .inl (t1.1))), some (a 4, .inl (K.2.1, 12, .inl (t1.2.1))), some (a 5, .inl (K.2.1, 12, .inl (t1.2.2.1))), some (a 6, .inl (K.2.1, 12, .inl (t1.2.2.2.1))), some (a 7, .inl (K.2.1, 21, .inl (t1.2.2.2.2.1)))] : List (Option (Nat × va_E))) from rfl).symm, rfl, by decide⟩
theorem ll_103 (K : KK) (a : Nat → Nat) (t0 : S4) (t1 : S1) : ([2, 3, 4, 5, 6, 7] : List Nat).map (fun i => (w4 K a t0 ++ w1 K (sh a 2) t1)[i]?) = List.map some (w1 K (pk a [2, 3, 4, 5, 6, 7]) t1) := rfl
theorem ll_104 (K : KK) (a : Nat → Nat) (t0 : S4) (t1 : S1) (y0 : S1) : Wr (w4 K a t0 ++ w1 K (sh a 2) t1) [2, 3, 4, 5, 6, 7] (w1 K (pk a [2, 3, 4, 5, 6, 7]) y0) (w4 K a t0 ++ w1 K (sh a 2) y0) := ⟨[0, 1], 8, rfl, (show List.map (fun i => (w4 K a t0 ++ w1 K (sh a 2) y0)[i]?) _ = ([some (a 0, .inr (4, [.ref (a 1), .int (t0.2.1), .int (t0.2.2.1), .int (t0.2.2.2.1), .int (t0.2.2.2.2)])), some (a 1, .inl (K.2.1, 120, .inl (t0.1)))] : List (Option (Nat × va_E))) from rfl).trans (show List.map (fun i => (w4 K a t0 ++ w1 K (sh a 2) t1)[i]?) _ = ([some (a 0, .inr (4, [.ref (a 1), .int (t0.2.1), .int (t0.2.2.1), .int (t0.2.2.2.1), .int (t0.2.2.2.2)])), some (a 1, .inl (K.2.1, 120, .inl (t0.1)))] : List (Option (Nat × va_E))) from rfl).symm, rfl, by decide⟩
def fX4_readPillar (s0 : S4) (s1 : S1) (p2 : Int32) : Option (S4 × S1) := (if s1.2.2.2.2.2 < (12 : Int32) then Option.bind (fX4_readCell s0) (fun r1 => Option.bind (fX4_readNumber r1.2 (999 : Int32)) (fun r2 => Option.bind (fX4_readEnd r2.2) (fun r3 => Option.bind (fX1_hasPillarOn s1 r1.1) (fun r4 => (if r4 = 0 then (if r3.2.2.2.1 = (-1 : Int32) then Option.bind (fX1_add s1 r1.1 r2.1) (fun r5 => some (r3, r5)) else some (r3, s1)) else Option.bind (fX4_fail r3 p2) (fun r6 => (if r6.2.2.2.1 = (-1 : Int32) then Option.bind (fX1_add s1 r1.1 r2.1) (fun r7 => some (r6, r7)) else some (r6, s1)))))))) else Option.bind (fX4_fail s0 p2) (fun r8 => Option.bind (fX4_readCell r8) (fun r9 => Option.bind (fX4_readNumber r9.2 (999 : Int32)) (fun r10 => Option.bind (fX4_readEnd r10.2) (fun r11 => Option.bind (fX1_hasPillarOn s1 r9.1) (fun r12 => (if r12 = 0 then (if r11.2.2.2.1 = (-1 : Int32) then Option.bind (fX1_add s1 r9.1 r10.1) (fun r13 => some (r11, r13)) else some (r11, s1)) else Option.bind (fX4_fail r11 p2) (fun r14 => (if r14.2.2.2.1 = (-1 : Int32) then Option.bind (fX1_add s1 r9.1 r10.1) (fun r15 => some (r14, r15)) else some (r14, s1))))))))))
theorem ycX4_readPillar : CalV yX4_readPillar cX4_readPillar 5 none 2 := ⟨mw_568, mw_68, mw_567, mw_10, ⟨by decide, by decide, by decide +kernel⟩, by decide⟩
set_option maxHeartbeats 4000000 in
set_option maxRecDepth 100000 in
theorem kX4_readPillar (l : Launch) (K : KK) (a : Nat → Nat) (s0 : S4) (s1 : S1) (p2 : Int32) (res : S4 × S1) (hf : fX4_readPillar s0 s1 p2 = some res) : Ct l K yX4_readPillar cX4_readPillar 5 none 3 [.ref (a 0), .ref (a 2), .int p2] (w4 K a s0 ++ w1 K (sh a 2) s1) (none) (w4 K a res.1 ++ w1 K (sh a 2) res.2) := by
  refine Ct_of2 (by decide) rfl (Nat.le_of_ble_eq_true rfl) ?_
  intro p e σ m args below meth c C hr
  unfold fX4_readPillar at hf
  refine Go_aload_n (pc := 0) C dX4_readPillar_0 rfl ?_
  refine Go_get (pc := 1) C 2 5 rfl rfl inX1 (by decide) mw_116 rfl dX4_readPillar_1 ?_
  refine Go_bipush (pc := 4) (v := 12) C dX4_readPillar_4 cb_12 ?_
  refine Go_icmp_lt (pc := 6) (tgt := 14) C dX4_readPillar_6 (by decide) (fun hc => ?_) (fun hc => ?_)
  · replace hf := ift hc hf
    refine Go_aload_n (pc := 14) C dX4_readPillar_14 rfl ?_
    obtain ⟨r1, hr1, hf⟩ := bnd hf
    refine Go_callV1 (pc := 15) (ws1 := (w4 K a r1.2 ++ w1 K (sh a 2) s1)) C 0 [0, 1] (kX4_readCell l K (pk a [0, 1]) s0 r1 hr1) ycX4_readCell mw_569 (Nat.le_of_ble_eq_true rfl) rfl rfl rfl rfl (Nat.le_of_ble_eq_true rfl) ⟨Nat.zero_le _, Nat.zero_le _⟩ dX4_readPillar_15 (ll_101 _ _ _ _) rfl rfl (ll_102 _ _ _ _ _) ?_
    refine Go_istore_n (pc := 18) C dX4_readPillar_18 (by decide) ?_
    refine Go_aload_n (pc := 19) C dX4_readPillar_19 rfl ?_
    refine Go_sipush (pc := 20) (v := 999) C dX4_readPillar_20 cs_999 ?_
    obtain ⟨r2, hr2, hf⟩ := bnd hf
    refine Go_callV1 (pc := 23) (ws1 := (w4 K a r2.2 ++ w1 K (sh a 2) s1)) C 0 [0, 1] (kX4_readNumber l K (pk a [0, 1]) r1.2 (999 : Int32) r2 hr2) ycX4_readNumber mw_573 (Nat.le_of_ble_eq_true rfl) rfl rfl rfl rfl (Nat.le_of_ble_eq_true rfl) ⟨Nat.zero_le _, Nat.zero_le _⟩ dX4_readPillar_23 (ll_101 _ _ _ _) rfl rfl (ll_102 _ _ _ _ _) ?_
    refine Go_istore (pc := 26) C dX4_readPillar_26 (by decide) ?_
    refine Go_aload_n (pc := 28) C dX4_readPillar_28 rfl ?_
    obtain ⟨r3, hr3, hf⟩ := bnd hf
    refine Go_callV0 (pc := 29) (ws1 := (w4 K a r3 ++ w1 K (sh a 2) s1)) C 0 [0, 1] (kX4_readEnd l K (pk a [0, 1]) r2.2 r3 hr3) ycX4_readEnd mw_580 (Nat.le_of_ble_eq_true rfl) rfl rfl rfl rfl (Nat.le_of_ble_eq_true rfl) ⟨Nat.zero_le _, Nat.zero_le _⟩ dX4_readPillar_29 (ll_101 _ _ _ _) rfl rfl (ll_102 _ _ _ _ _) ?_
    refine Go_aload_n (pc := 32) C dX4_readPillar_32 rfl ?_
    refine Go_iload_n (pc := 33) C dX4_readPillar_33 rfl ?_
    obtain ⟨r4, hr4, hf⟩ := bnd hf
    refine Go_callV1 (pc := 34) (ws1 := (w4 K a r3 ++ w1 K (sh a 2) s1)) C 2 [2, 3, 4, 5, 6, 7] (kX1_hasPillarOn l K (pk a [2, 3, 4, 5, 6, 7]) s1 r1.1 r4 hr4) ycX1_hasPillarOn mw_584 (Nat.le_of_ble_eq_true rfl) rfl rfl rfl rfl (Nat.le_of_ble_eq_true rfl) ⟨Nat.zero_le _, Nat.zero_le _⟩ dX4_readPillar_34 (ll_103 _ _ _ _) rfl rfl (Wr_same (ll_103 _ _ _ _)) ?_
    refine Go_if_eq (pc := 37) (tgt := 45) C dX4_readPillar_37 (by decide) (fun hc => ?_) (fun hc => ?_)
    · replace hf := ift hc hf
      refine Go_aload_n (pc := 45) C dX4_readPillar_45 rfl ?_
      refine Go_get (pc := 46) C 0 3 rfl rfl inX4 (by decide) mw_230 rfl dX4_readPillar_46 ?_
      refine Go_iconst (pc := 49) (v := -1) C dX4_readPillar_49 ci_m1 ?_
      refine Go_icmp_ne (pc := 50) (tgt := 60) C dX4_readPillar_50 (by decide) (fun hc => ?_) (fun hc => ?_)
      · replace hf := ift hc hf
        refine Go_aload_n (pc := 53) C dX4_readPillar_53 rfl ?_
        refine Go_iload_n (pc := 54) C dX4_readPillar_54 rfl ?_
        refine Go_iload (pc := 55) C dX4_readPillar_55 rfl ?_
        obtain ⟨r5, hr5, hf⟩ := bnd hf
        refine Go_callV0 (pc := 57) (ws1 := (w4 K a r3 ++ w1 K (sh a 2) r5)) C 2 [2, 3, 4, 5, 6, 7] (kX1_add l K (pk a [2, 3, 4, 5, 6, 7]) s1 r1.1 r2.1 r5 hr5) ycX1_add mw_585 (Nat.le_of_ble_eq_true rfl) rfl rfl rfl rfl (Nat.le_of_ble_eq_true rfl) ⟨Nat.zero_le _, Nat.zero_le _⟩ dX4_readPillar_57 (ll_103 _ _ _ _) rfl rfl (ll_104 _ _ _ _ _) ?_
        obtain rfl := Option.some.inj hf
        exact Go_vret C hr rfl dX4_readPillar_60
      · replace hf := iff' hc hf
        obtain rfl := Option.some.inj hf
        exact Go_vret C hr rfl dX4_readPillar_60
    · replace hf := iff' hc hf
      refine Go_aload_n (pc := 40) C dX4_readPillar_40 rfl ?_
      refine Go_iload_n (pc := 41) C dX4_readPillar_41 rfl ?_
      obtain ⟨r6, hr6, hf⟩ := bnd hf
      refine Go_callV0 (pc := 42) (ws1 := (w4 K a r6 ++ w1 K (sh a 2) s1)) C 0 [0, 1] (kX4_fail l K (pk a [0, 1]) r3 p2 r6 hr6) ycX4_fail mw_557 (Nat.le_of_ble_eq_true rfl) rfl rfl rfl rfl (Nat.le_of_ble_eq_true rfl) ⟨Nat.zero_le _, Nat.zero_le _⟩ dX4_readPillar_42 (ll_101 _ _ _ _) rfl rfl (ll_102 _ _ _ _ _) ?_
      refine Go_aload_n (pc := 45) C dX4_readPillar_45 rfl ?_
      refine Go_get (pc := 46) C 0 3 rfl rfl inX4 (by decide) mw_230 rfl dX4_readPillar_46 ?_
      refine Go_iconst (pc := 49) (v := -1) C dX4_readPillar_49 ci_m1 ?_
      refine Go_icmp_ne (pc := 50) (tgt := 60) C dX4_readPillar_50 (by decide) (fun hc => ?_) (fun hc => ?_)
      · replace hf := ift hc hf
        refine Go_aload_n (pc := 53) C dX4_readPillar_53 rfl ?_
        refine Go_iload_n (pc := 54) C dX4_readPillar_54 rfl ?_
        refine Go_iload (pc := 55) C dX4_readPillar_55 rfl ?_
        obtain ⟨r7, hr7, hf⟩ := bnd hf
        refine Go_callV0 (pc := 57) (ws1 := (w4 K a r6 ++ w1 K (sh a 2) r7)) C 2 [2, 3, 4, 5, 6, 7] (kX1_add l K (pk a [2, 3, 4, 5, 6, 7]) s1 r1.1 r2.1 r7 hr7) ycX1_add mw_585 (Nat.le_of_ble_eq_true rfl) rfl rfl rfl rfl (Nat.le_of_ble_eq_true rfl) ⟨Nat.zero_le _, Nat.zero_le _⟩ dX4_readPillar_57 (ll_103 _ _ _ _) rfl rfl (ll_104 _ _ _ _ _) ?_
        obtain rfl := Option.some.inj hf
        exact Go_vret C hr rfl dX4_readPillar_60
      · replace hf := iff' hc hf
        obtain rfl := Option.some.inj hf
        exact Go_vret C hr rfl dX4_readPillar_60
  · replace hf := iff' hc hf
    refine Go_aload_n (pc := 9) C dX4_readPillar_9 rfl ?_
    refine Go_iload_n (pc := 10) C dX4_readPillar_10 rfl ?_
    obtain ⟨r8, hr8, hf⟩ := bnd hf
    refine Go_callV0 (pc := 11) (ws1 := (w4 K a r8 ++ w1 K (sh a 2) s1)) C 0 [0, 1] (kX4_fail l K (pk a [0, 1]) s0 p2 r8 hr8) ycX4_fail mw_557 (Nat.le_of_ble_eq_true rfl) rfl rfl rfl rfl (Nat.le_of_ble_eq_true rfl) ⟨Nat.zero_le _, Nat.zero_le _⟩ dX4_readPillar_11 (ll_101 _ _ _ _) rfl rfl (ll_102 _ _ _ _ _) ?_
    refine Go_aload_n (pc := 14) C dX4_readPillar_14 rfl ?_
    obtain ⟨r9, hr9, hf⟩ := bnd hf
    refine Go_callV1 (pc := 15) (ws1 := (w4 K a r9.2 ++ w1 K (sh a 2) s1)) C 0 [0, 1] (kX4_readCell l K (pk a [0, 1]) r8 r9 hr9) ycX4_readCell mw_569 (Nat.le_of_ble_eq_true rfl) rfl rfl rfl rfl (Nat.le_of_ble_eq_true rfl) ⟨Nat.zero_le _, Nat.zero_le _⟩ dX4_readPillar_15 (ll_101 _ _ _ _) rfl rfl (ll_102 _ _ _ _ _) ?_
    refine Go_istore_n (pc := 18) C dX4_readPillar_18 (by decide) ?_
    refine Go_aload_n (pc := 19) C dX4_readPillar_19 rfl ?_
    refine Go_sipush (pc := 20) (v := 999) C dX4_readPillar_20 cs_999 ?_
    obtain ⟨r10, hr10, hf⟩ := bnd hf
    refine Go_callV1 (pc := 23) (ws1 := (w4 K a r10.2 ++ w1 K (sh a 2) s1)) C 0 [0, 1] (kX4_readNumber l K (pk a [0, 1]) r9.2 (999 : Int32) r10 hr10) ycX4_readNumber mw_573 (Nat.le_of_ble_eq_true rfl) rfl rfl rfl rfl (Nat.le_of_ble_eq_true rfl) ⟨Nat.zero_le _, Nat.zero_le _⟩ dX4_readPillar_23 (ll_101 _ _ _ _) rfl rfl (ll_102 _ _ _ _ _) ?_
    refine Go_istore (pc := 26) C dX4_readPillar_26 (by decide) ?_
    refine Go_aload_n (pc := 28) C dX4_readPillar_28 rfl ?_
    obtain ⟨r11, hr11, hf⟩ := bnd hf
    refine Go_callV0 (pc := 29) (ws1 := (w4 K a r11 ++ w1 K (sh a 2) s1)) C 0 [0, 1] (kX4_readEnd l K (pk a [0, 1]) r10.2 r11 hr11) ycX4_readEnd mw_580 (Nat.le_of_ble_eq_true rfl) rfl rfl rfl rfl (Nat.le_of_ble_eq_true rfl) ⟨Nat.zero_le _, Nat.zero_le _⟩ dX4_readPillar_29 (ll_101 _ _ _ _) rfl rfl (ll_102 _ _ _ _ _) ?_
    refine Go_aload_n (pc := 32) C dX4_readPillar_32 rfl ?_
    refine Go_iload_n (pc := 33) C dX4_readPillar_33 rfl ?_
    obtain ⟨r12, hr12, hf⟩ := bnd hf
    refine Go_callV1 (pc := 34) (ws1 := (w4 K a r11 ++ w1 K (sh a 2) s1)) C 2 [2, 3, 4, 5, 6, 7] (kX1_hasPillarOn l K (pk a [2, 3, 4, 5, 6, 7]) s1 r9.1 r12 hr12) ycX1_hasPillarOn mw_584 (Nat.le_of_ble_eq_true rfl) rfl rfl rfl rfl (Nat.le_of_ble_eq_true rfl) ⟨Nat.zero_le _, Nat.zero_le _⟩ dX4_readPillar_34 (ll_103 _ _ _ _) rfl rfl (Wr_same (ll_103 _ _ _ _)) ?_
    refine Go_if_eq (pc := 37) (tgt := 45) C dX4_readPillar_37 (by decide) (fun hc => ?_) (fun hc => ?_)
    · replace hf := ift hc hf
      refine Go_aload_n (pc := 45) C dX4_readPillar_45 rfl ?_
      refine Go_get (pc := 46) C 0 3 rfl rfl inX4 (by decide) mw_230 rfl dX4_readPillar_46 ?_
      refine Go_iconst (pc := 49) (v := -1) C dX4_readPillar_49 ci_m1 ?_
      refine Go_icmp_ne (pc := 50) (tgt := 60) C dX4_readPillar_50 (by decide) (fun hc => ?_) (fun hc => ?_)
      · replace hf := ift hc hf
        refine Go_aload_n (pc := 53) C dX4_readPillar_53 rfl ?_
        refine Go_iload_n (pc := 54) C dX4_readPillar_54 rfl ?_
        refine Go_iload (pc := 55) C dX4_readPillar_55 rfl ?_
        obtain ⟨r13, hr13, hf⟩ := bnd hf
        refine Go_callV0 (pc := 57) (ws1 := (w4 K a r11 ++ w1 K (sh a 2) r13)) C 2 [2, 3, 4, 5, 6, 7] (kX1_add l K (pk a [2, 3, 4, 5, 6, 7]) s1 r9.1 r10.1 r13 hr13) ycX1_add mw_585 (Nat.le_of_ble_eq_true rfl) rfl rfl rfl rfl (Nat.le_of_ble_eq_true rfl) ⟨Nat.zero_le _, Nat.zero_le _⟩ dX4_readPillar_57 (ll_103 _ _ _ _) rfl rfl (ll_104 _ _ _ _ _) ?_
        obtain rfl := Option.some.inj hf
        exact Go_vret C hr rfl dX4_readPillar_60
      · replace hf := iff' hc hf
        obtain rfl := Option.some.inj hf
        exact Go_vret C hr rfl dX4_readPillar_60
    · replace hf := iff' hc hf
      refine Go_aload_n (pc := 40) C dX4_readPillar_40 rfl ?_
      refine Go_iload_n (pc := 41) C dX4_readPillar_41 rfl ?_
      obtain ⟨r14, hr14, hf⟩ := bnd hf
      refine Go_callV0 (pc := 42) (ws1 := (w4 K a r14 ++ w1 K (sh a 2) s1)) C 0 [0, 1] (kX4_fail l K (pk a [0, 1]) r11 p2 r14 hr14) ycX4_fail mw_557 (Nat.le_of_ble_eq_true rfl) rfl rfl rfl rfl (Nat.le_of_ble_eq_true rfl) ⟨Nat.zero_le _, Nat.zero_le _⟩ dX4_readPillar_42 (ll_101 _ _ _ _) rfl rfl (ll_102 _ _ _ _ _) ?_
      refine Go_aload_n (pc := 45) C dX4_readPillar_45 rfl ?_
      refine Go_get (pc := 46) C 0 3 rfl rfl inX4 (by decide) mw_230 rfl dX4_readPillar_46 ?_
      refine Go_iconst (pc := 49) (v := -1) C dX4_readPillar_49 ci_m1 ?_
      refine Go_icmp_ne (pc := 50) (tgt := 60) C dX4_readPillar_50 (by decide) (fun hc => ?_) (fun hc => ?_)
      · replace hf := ift hc hf
        refine Go_aload_n (pc := 53) C dX4_readPillar_53 rfl ?_
        refine Go_iload_n (pc := 54) C dX4_readPillar_54 rfl ?_
        refine Go_iload (pc := 55) C dX4_readPillar_55 rfl ?_
        obtain ⟨r15, hr15, hf⟩ := bnd hf
        refine Go_callV0 (pc := 57) (ws1 := (w4 K a r14 ++ w1 K (sh a 2) r15)) C 2 [2, 3, 4, 5, 6, 7] (kX1_add l K (pk a [2, 3, 4, 5, 6, 7]) s1 r9.1 r10.1 r15 hr15) ycX1_add mw_585 (Nat.le_of_ble_eq_true rfl) rfl rfl rfl rfl (Nat.le_of_ble_eq_true rfl) ⟨Nat.zero_le _, Nat.zero_le _⟩ dX4_readPillar_57 (ll_103 _ _ _ _) rfl rfl (ll_104 _ _ _ _ _) ?_
        obtain rfl := Option.some.inj hf
        exact Go_vret C hr rfl dX4_readPillar_60
      · replace hf := iff' hc hf
        obtain rfl := Option.some.inj hf
        exact Go_vret C hr rfl dX4_readPillar_60
theorem ll_105 (K : KK) (a : Nat → Nat) (t0 : S4) (t1 : S1) (y : Nat → Int32) : List.set (w4 K a t0 ++ w1 K (sh a 2) t1) 3 (a 3, .inl (K.2.1, 96, .inl y)) = (w4 K a t0 ++ w1 K (sh a 2) ((y, t1.2))) := rfl
def fX4_readWeight (s0 : S4) (s1 : S1) : Option (S4 × S1) := Option.bind (fX4_readCell s0) (fun r1 => Option.bind (fX4_readNumber r1.2 (9 : Int32)) (fun r2 => Option.bind (fX4_readEnd r2.2) (fun r3 => (if r3.2.2.2.1 = (-1 : Int32) then (if 0 ≤ r1.1 ∧ r1.1.toNatClampNeg < 96 then some (r3, (upd s1.1 r1.1.toNatClampNeg r2.1, s1.2)) else none) else some (r3, s1)))))
theorem ycX4_readWeight : CalV yX4_readWeight cX4_readWeight 4 none 1 := ⟨mw_589, mw_68, mw_588, mw_14, ⟨by decide, by decide, by decide +kernel⟩, by decide⟩
set_option maxHeartbeats 4000000 in
set_option maxRecDepth 100000 in
theorem kX4_readWeight (l : Launch) (K : KK) (a : Nat → Nat) (s0 : S4) (s1 : S1) (res : S4 × S1) (hf : fX4_readWeight s0 s1 = some res) : Ct l K yX4_readWeight cX4_readWeight 4 none 3 [.ref (a 0), .ref (a 2)] (w4 K a s0 ++ w1 K (sh a 2) s1) (none) (w4 K a res.1 ++ w1 K (sh a 2) res.2) := by
  refine Ct_of2 (by decide) rfl (Nat.le_of_ble_eq_true rfl) ?_
  intro p e σ m args below meth c C hr
  unfold fX4_readWeight at hf
  refine Go_aload_n (pc := 0) C dX4_readWeight_0 rfl ?_
  obtain ⟨r1, hr1, hf⟩ := bnd hf
  refine Go_callV1 (pc := 1) (ws1 := (w4 K a r1.2 ++ w1 K (sh a 2) s1)) C 0 [0, 1] (kX4_readCell l K (pk a [0, 1]) s0 r1 hr1) ycX4_readCell mw_569 (Nat.le_of_ble_eq_true rfl) rfl rfl rfl rfl (Nat.le_of_ble_eq_true rfl) ⟨Nat.zero_le _, Nat.zero_le _⟩ dX4_readWeight_1 (ll_101 _ _ _ _) rfl rfl (ll_102 _ _ _ _ _) ?_
  refine Go_istore_n (pc := 4) C dX4_readWeight_4 (by decide) ?_
  refine Go_aload_n (pc := 5) C dX4_readWeight_5 rfl ?_
  refine Go_bipush (pc := 6) (v := 9) C dX4_readWeight_6 cb_9 ?_
  obtain ⟨r2, hr2, hf⟩ := bnd hf
  refine Go_callV1 (pc := 8) (ws1 := (w4 K a r2.2 ++ w1 K (sh a 2) s1)) C 0 [0, 1] (kX4_readNumber l K (pk a [0, 1]) r1.2 (9 : Int32) r2 hr2) ycX4_readNumber mw_573 (Nat.le_of_ble_eq_true rfl) rfl rfl rfl rfl (Nat.le_of_ble_eq_true rfl) ⟨Nat.zero_le _, Nat.zero_le _⟩ dX4_readWeight_8 (ll_101 _ _ _ _) rfl rfl (ll_102 _ _ _ _ _) ?_
  refine Go_istore_n (pc := 11) C dX4_readWeight_11 (by decide) ?_
  refine Go_aload_n (pc := 12) C dX4_readWeight_12 rfl ?_
  obtain ⟨r3, hr3, hf⟩ := bnd hf
  refine Go_callV0 (pc := 13) (ws1 := (w4 K a r3 ++ w1 K (sh a 2) s1)) C 0 [0, 1] (kX4_readEnd l K (pk a [0, 1]) r2.2 r3 hr3) ycX4_readEnd mw_580 (Nat.le_of_ble_eq_true rfl) rfl rfl rfl rfl (Nat.le_of_ble_eq_true rfl) ⟨Nat.zero_le _, Nat.zero_le _⟩ dX4_readWeight_13 (ll_101 _ _ _ _) rfl rfl (ll_102 _ _ _ _ _) ?_
  refine Go_aload_n (pc := 16) C dX4_readWeight_16 rfl ?_
  refine Go_get (pc := 17) C 0 3 rfl rfl inX4 (by decide) mw_230 rfl dX4_readWeight_17 ?_
  refine Go_iconst (pc := 20) (v := -1) C dX4_readWeight_20 ci_m1 ?_
  refine Go_icmp_ne (pc := 21) (tgt := 31) C dX4_readWeight_21 (by decide) (fun hc => ?_) (fun hc => ?_)
  · replace hf := ift hc hf
    refine Go_aload_n (pc := 24) C dX4_readWeight_24 rfl ?_
    refine Go_get (pc := 25) C 2 0 rfl rfl inX1 (by decide) mw_96 rfl dX4_readWeight_25 ?_
    refine Go_iload_n (pc := 28) C dX4_readWeight_28 rfl ?_
    refine Go_iload_n (pc := 29) C dX4_readWeight_29 rfl ?_
    obtain ⟨hb, hf⟩ := ifs hf
    refine Go_iast (pc := 30) (ws1 := (w4 K a r3 ++ w1 K (sh a 2) ((upd s1.1 r1.1.toNatClampNeg r2.1, s1.2)))) C 3 rfl (inb_in hb) dX4_readWeight_30 (ll_105 _ _ _ _ _) ?_
    obtain rfl := Option.some.inj hf
    exact Go_vret C hr rfl dX4_readWeight_31
  · replace hf := iff' hc hf
    obtain rfl := Option.some.inj hf
    exact Go_vret C hr rfl dX4_readWeight_31
theorem ll_106 (K : KK) (a : Nat → Nat) (t0 : S4) (t1 : S1) (y : Nat → Int32) : List.set (w4 K a t0 ++ w1 K (sh a 2) t1) 7 (a 7, .inl (K.2.1, 21, .inl y)) = (w4 K a t0 ++ w1 K (sh a 2) ((t1.1, t1.2.1, t1.2.2.1, t1.2.2.2.1, y, t1.2.2.2.2.2))) := rfl
def fX4_readWall (s0 : S4) (s1 : S1) (p2 : Int32) (p3 : Int32) : Option (S4 × S1) := Option.bind (fX4_readNumber s0 p3) (fun r1 => Option.bind (some (p2 + r1.1)) (fun v2 => Option.bind (fX4_readEnd r1.2) (fun r3 => (if r3.2.2.2.1 = (-1 : Int32) then (if 0 ≤ v2 ∧ v2.toNatClampNeg < 21 then some (r3, (s1.1, s1.2.1, s1.2.2.1, s1.2.2.2.1, upd s1.2.2.2.2.1 v2.toNatClampNeg (1 : Int32), s1.2.2.2.2.2)) else none) else some (r3, s1)))))
theorem ycX4_readWall : CalV yX4_readWall cX4_readWall 5 none 3 := ⟨mw_593, mw_68, mw_592, mw_15, ⟨by decide, by decide, by decide +kernel⟩, by decide⟩
set_option maxHeartbeats 4000000 in
set_option maxRecDepth 100000 in
theorem kX4_readWall (l : Launch) (K : KK) (a : Nat → Nat) (s0 : S4) (s1 : S1) (p2 : Int32) (p3 : Int32) (res : S4 × S1) (hf : fX4_readWall s0 s1 p2 p3 = some res) : Ct l K yX4_readWall cX4_readWall 5 none 2 [.ref (a 0), .ref (a 2), .int p2, .int p3] (w4 K a s0 ++ w1 K (sh a 2) s1) (none) (w4 K a res.1 ++ w1 K (sh a 2) res.2) := by
  refine Ct_of2 (by decide) rfl (Nat.le_of_ble_eq_true rfl) ?_
  intro p e σ m args below meth c C hr
  unfold fX4_readWall at hf
  refine Go_iload_n (pc := 0) C dX4_readWall_0 rfl ?_
  refine Go_aload_n (pc := 1) C dX4_readWall_1 rfl ?_
  refine Go_iload_n (pc := 2) C dX4_readWall_2 rfl ?_
  obtain ⟨r1, hr1, hf⟩ := bnd hf
  refine Go_callV1 (pc := 3) (ws1 := (w4 K a r1.2 ++ w1 K (sh a 2) s1)) C 0 [0, 1] (kX4_readNumber l K (pk a [0, 1]) s0 p3 r1 hr1) ycX4_readNumber mw_573 (Nat.le_of_ble_eq_true rfl) rfl rfl rfl rfl (Nat.le_of_ble_eq_true rfl) ⟨Nat.zero_le _, Nat.zero_le _⟩ dX4_readWall_3 (ll_101 _ _ _ _) rfl rfl (ll_102 _ _ _ _ _) ?_
  refine Go_iadd (pc := 6) C dX4_readWall_6 ?_
  obtain ⟨v2, hv2, hf⟩ := bnd hf
  refine Go_topi (Option.some.inj hv2) ?_
  refine Go_istore (pc := 7) C dX4_readWall_7 (by decide) ?_
  refine Go_aload_n (pc := 9) C dX4_readWall_9 rfl ?_
  obtain ⟨r3, hr3, hf⟩ := bnd hf
  refine Go_callV0 (pc := 10) (ws1 := (w4 K a r3 ++ w1 K (sh a 2) s1)) C 0 [0, 1] (kX4_readEnd l K (pk a [0, 1]) r1.2 r3 hr3) ycX4_readEnd mw_580 (Nat.le_of_ble_eq_true rfl) rfl rfl rfl rfl (Nat.le_of_ble_eq_true rfl) ⟨Nat.zero_le _, Nat.zero_le _⟩ dX4_readWall_10 (ll_101 _ _ _ _) rfl rfl (ll_102 _ _ _ _ _) ?_
  refine Go_aload_n (pc := 13) C dX4_readWall_13 rfl ?_
  refine Go_get (pc := 14) C 0 3 rfl rfl inX4 (by decide) mw_230 rfl dX4_readWall_14 ?_
  refine Go_iconst (pc := 17) (v := -1) C dX4_readWall_17 ci_m1 ?_
  refine Go_icmp_ne (pc := 18) (tgt := 29) C dX4_readWall_18 (by decide) (fun hc => ?_) (fun hc => ?_)
  · replace hf := ift hc hf
    refine Go_aload_n (pc := 21) C dX4_readWall_21 rfl ?_
    refine Go_get (pc := 22) C 2 4 rfl rfl inX1 (by decide) mw_112 rfl dX4_readWall_22 ?_
    refine Go_iload (pc := 25) C dX4_readWall_25 rfl ?_
    refine Go_iconst (pc := 27) (v := 1) C dX4_readWall_27 ci_1 ?_
    obtain ⟨hb, hf⟩ := ifs hf
    refine Go_iast (pc := 28) (ws1 := (w4 K a r3 ++ w1 K (sh a 2) ((s1.1, s1.2.1, s1.2.2.1, s1.2.2.2.1, upd s1.2.2.2.2.1 v2.toNatClampNeg (1 : Int32), s1.2.2.2.2.2)))) C 7 rfl (inb_in hb) dX4_readWall_28 (ll_106 _ _ _ _ _) ?_
    obtain rfl := Option.some.inj hf
    exact Go_vret C hr rfl dX4_readWall_29
  · replace hf := iff' hc hf
    obtain rfl := Option.some.inj hf
    exact Go_vret C hr rfl dX4_readWall_29
theorem ll_107 (K : KK) (a : Nat → Nat) (t0 : S4) (t1 : S1) (y : Nat → Int32) : List.set (w4 K a t0 ++ w1 K (sh a 2) t1) 6 (a 6, .inl (K.2.1, 12, .inl y)) = (w4 K a t0 ++ w1 K (sh a 2) ((t1.1, t1.2.1, t1.2.2.1, y, t1.2.2.2.2))) := rfl
def fX4_readCrushed (s0 : S4) (s1 : S1) : Option (S4 × S1) := Option.bind (fX4_readNumber s0 (11 : Int32)) (fun r1 => Option.bind (fX1_isStanding s1 r1.1) (fun r2 => (if r2 = 0 then Option.bind (fX4_fail r1.2 r1.2.2.2.2.2) (fun r3 => Option.bind (fX4_readEnd r3) (fun r4 => (if r4.2.2.2.1 = (-1 : Int32) then (if 0 ≤ r1.1 ∧ r1.1.toNatClampNeg < 12 then some (r4, (s1.1, s1.2.1, s1.2.2.1, upd s1.2.2.2.1 r1.1.toNatClampNeg (0 : Int32), s1.2.2.2.2)) else none) else some (r4, s1)))) else Option.bind (fX4_readEnd r1.2) (fun r5 => (if r5.2.2.2.1 = (-1 : Int32) then (if 0 ≤ r1.1 ∧ r1.1.toNatClampNeg < 12 then some (r5, (s1.1, s1.2.1, s1.2.2.1, upd s1.2.2.2.1 r1.1.toNatClampNeg (0 : Int32), s1.2.2.2.2)) else none) else some (r5, s1))))))
theorem ycX4_readCrushed : CalV yX4_readCrushed cX4_readCrushed 3 none 1 := ⟨mw_597, mw_68, mw_596, mw_16, ⟨by decide, by decide, by decide +kernel⟩, by decide⟩
set_option maxHeartbeats 4000000 in
set_option maxRecDepth 100000 in
theorem kX4_readCrushed (l : Launch) (K : KK) (a : Nat → Nat) (s0 : S4) (s1 : S1) (res : S4 × S1) (hf : fX4_readCrushed s0 s1 = some res) : Ct l K yX4_readCrushed cX4_readCrushed 3 none 2 [.ref (a 0), .ref (a 2)] (w4 K a s0 ++ w1 K (sh a 2) s1) (none) (w4 K a res.1 ++ w1 K (sh a 2) res.2) := by
  refine Ct_of2 (by decide) rfl (Nat.le_of_ble_eq_true rfl) ?_
  intro p e σ m args below meth c C hr
  unfold fX4_readCrushed at hf
  refine Go_aload_n (pc := 0) C dX4_readCrushed_0 rfl ?_
  refine Go_bipush (pc := 1) (v := 11) C dX4_readCrushed_1 cb_11 ?_
  obtain ⟨r1, hr1, hf⟩ := bnd hf
  refine Go_callV1 (pc := 3) (ws1 := (w4 K a r1.2 ++ w1 K (sh a 2) s1)) C 0 [0, 1] (kX4_readNumber l K (pk a [0, 1]) s0 (11 : Int32) r1 hr1) ycX4_readNumber mw_573 (Nat.le_of_ble_eq_true rfl) rfl rfl rfl rfl (Nat.le_of_ble_eq_true rfl) ⟨Nat.zero_le _, Nat.zero_le _⟩ dX4_readCrushed_3 (ll_101 _ _ _ _) rfl rfl (ll_102 _ _ _ _ _) ?_
  refine Go_istore_n (pc := 6) C dX4_readCrushed_6 (by decide) ?_
  refine Go_aload_n (pc := 7) C dX4_readCrushed_7 rfl ?_
  refine Go_iload_n (pc := 8) C dX4_readCrushed_8 rfl ?_
  obtain ⟨r2, hr2, hf⟩ := bnd hf
  refine Go_callV1 (pc := 9) (ws1 := (w4 K a r1.2 ++ w1 K (sh a 2) s1)) C 2 [2, 3, 4, 5, 6, 7] (kX1_isStanding l K (pk a [2, 3, 4, 5, 6, 7]) s1 r1.1 r2 hr2) ycX1_isStanding mw_598 (Nat.le_of_ble_eq_true rfl) rfl rfl rfl rfl (Nat.le_of_ble_eq_true rfl) ⟨Nat.zero_le _, Nat.zero_le _⟩ dX4_readCrushed_9 (ll_103 _ _ _ _) rfl rfl (Wr_same (ll_103 _ _ _ _)) ?_
  refine Go_if_ne (pc := 12) (tgt := 23) C dX4_readCrushed_12 (by decide) (fun hc => ?_) (fun hc => ?_)
  · replace hf := ift hc hf
    refine Go_aload_n (pc := 15) C dX4_readCrushed_15 rfl ?_
    refine Go_aload_n (pc := 16) C dX4_readCrushed_16 rfl ?_
    refine Go_get (pc := 17) C 0 4 rfl rfl inX4 (by decide) mw_231 rfl dX4_readCrushed_17 ?_
    obtain ⟨r3, hr3, hf⟩ := bnd hf
    refine Go_callV0 (pc := 20) (ws1 := (w4 K a r3 ++ w1 K (sh a 2) s1)) C 0 [0, 1] (kX4_fail l K (pk a [0, 1]) r1.2 r1.2.2.2.2.2 r3 hr3) ycX4_fail mw_557 (Nat.le_of_ble_eq_true rfl) rfl rfl rfl rfl (Nat.le_of_ble_eq_true rfl) ⟨Nat.zero_le _, Nat.zero_le _⟩ dX4_readCrushed_20 (ll_101 _ _ _ _) rfl rfl (ll_102 _ _ _ _ _) ?_
    refine Go_aload_n (pc := 23) C dX4_readCrushed_23 rfl ?_
    obtain ⟨r4, hr4, hf⟩ := bnd hf
    refine Go_callV0 (pc := 24) (ws1 := (w4 K a r4 ++ w1 K (sh a 2) s1)) C 0 [0, 1] (kX4_readEnd l K (pk a [0, 1]) r3 r4 hr4) ycX4_readEnd mw_580 (Nat.le_of_ble_eq_true rfl) rfl rfl rfl rfl (Nat.le_of_ble_eq_true rfl) ⟨Nat.zero_le _, Nat.zero_le _⟩ dX4_readCrushed_24 (ll_101 _ _ _ _) rfl rfl (ll_102 _ _ _ _ _) ?_
    refine Go_aload_n (pc := 27) C dX4_readCrushed_27 rfl ?_
    refine Go_get (pc := 28) C 0 3 rfl rfl inX4 (by decide) mw_230 rfl dX4_readCrushed_28 ?_
    refine Go_iconst (pc := 31) (v := -1) C dX4_readCrushed_31 ci_m1 ?_
    refine Go_icmp_ne (pc := 32) (tgt := 42) C dX4_readCrushed_32 (by decide) (fun hc => ?_) (fun hc => ?_)
    · replace hf := ift hc hf
      refine Go_aload_n (pc := 35) C dX4_readCrushed_35 rfl ?_
      refine Go_get (pc := 36) C 2 3 rfl rfl inX1 (by decide) mw_108 rfl dX4_readCrushed_36 ?_
      refine Go_iload_n (pc := 39) C dX4_readCrushed_39 rfl ?_
      refine Go_iconst (pc := 40) (v := 0) C dX4_readCrushed_40 ci_0 ?_
      obtain ⟨hb, hf⟩ := ifs hf
      refine Go_iast (pc := 41) (ws1 := (w4 K a r4 ++ w1 K (sh a 2) ((s1.1, s1.2.1, s1.2.2.1, upd s1.2.2.2.1 r1.1.toNatClampNeg (0 : Int32), s1.2.2.2.2)))) C 6 rfl (inb_in hb) dX4_readCrushed_41 (ll_107 _ _ _ _ _) ?_
      obtain rfl := Option.some.inj hf
      exact Go_vret C hr rfl dX4_readCrushed_42
    · replace hf := iff' hc hf
      obtain rfl := Option.some.inj hf
      exact Go_vret C hr rfl dX4_readCrushed_42
  · replace hf := iff' hc hf
    refine Go_aload_n (pc := 23) C dX4_readCrushed_23 rfl ?_
    obtain ⟨r5, hr5, hf⟩ := bnd hf
    refine Go_callV0 (pc := 24) (ws1 := (w4 K a r5 ++ w1 K (sh a 2) s1)) C 0 [0, 1] (kX4_readEnd l K (pk a [0, 1]) r1.2 r5 hr5) ycX4_readEnd mw_580 (Nat.le_of_ble_eq_true rfl) rfl rfl rfl rfl (Nat.le_of_ble_eq_true rfl) ⟨Nat.zero_le _, Nat.zero_le _⟩ dX4_readCrushed_24 (ll_101 _ _ _ _) rfl rfl (ll_102 _ _ _ _ _) ?_
    refine Go_aload_n (pc := 27) C dX4_readCrushed_27 rfl ?_
    refine Go_get (pc := 28) C 0 3 rfl rfl inX4 (by decide) mw_230 rfl dX4_readCrushed_28 ?_
    refine Go_iconst (pc := 31) (v := -1) C dX4_readCrushed_31 ci_m1 ?_
    refine Go_icmp_ne (pc := 32) (tgt := 42) C dX4_readCrushed_32 (by decide) (fun hc => ?_) (fun hc => ?_)
    · replace hf := ift hc hf
      refine Go_aload_n (pc := 35) C dX4_readCrushed_35 rfl ?_
      refine Go_get (pc := 36) C 2 3 rfl rfl inX1 (by decide) mw_108 rfl dX4_readCrushed_36 ?_
      refine Go_iload_n (pc := 39) C dX4_readCrushed_39 rfl ?_
      refine Go_iconst (pc := 40) (v := 0) C dX4_readCrushed_40 ci_0 ?_
      obtain ⟨hb, hf⟩ := ifs hf
      refine Go_iast (pc := 41) (ws1 := (w4 K a r5 ++ w1 K (sh a 2) ((s1.1, s1.2.1, s1.2.2.1, upd s1.2.2.2.1 r1.1.toNatClampNeg (0 : Int32), s1.2.2.2.2)))) C 6 rfl (inb_in hb) dX4_readCrushed_41 (ll_107 _ _ _ _ _) ?_
      obtain rfl := Option.some.inj hf
      exact Go_vret C hr rfl dX4_readCrushed_42
    · replace hf := iff' hc hf
      obtain rfl := Option.some.inj hf
      exact Go_vret C hr rfl dX4_readCrushed_42
theorem ll_108 (K : KK) (a : Nat → Nat) (t0 : S4) (t1 : S5) (y : Int32) : List.set (w4 K a t0 ++ w5 K (sh a 2) t1) 0 (a 0, .inr (4, List.set [.ref (a 1), .int (t0.2.1), .int (t0.2.2.1), .int (t0.2.2.2.1), .int (t0.2.2.2.2)] 2 (.int y))) = (w4 K a ((t0.1, t0.2.1, y, t0.2.2.2)) ++ w5 K (sh a 2) t1) := rfl
theorem ll_109 (K : KK) (a : Nat → Nat) (t0 : S4) (t1 : S5) : ([0, 1] : List Nat).map (fun i => (w4 K a t0 ++ w5 K (sh a 2) t1)[i]?) = List.map some (w4 K (pk a [0, 1]) t0) := rfl
theorem ll_110 (K : KK) (a : Nat → Nat) (t0 : S4) (t1 : S5) (y0 : S4) : Wr (w4 K a t0 ++ w5 K (sh a 2) t1) [0, 1] (w4 K (pk a [0, 1]) y0) (w4 K a y0 ++ w5 K (sh a 2) t1) := ⟨(2 :: 3 :: 4 :: 5 :: 6 :: 7 :: 8 :: 9 :: 10 :: 11 :: 12 :: 13 :: 14 :: 15 :: []), 16, rfl, (show List.map (fun i => (w4 K a y0 ++ w5 K (sh a 2) t1)[i]?) _ = ((some (a 2, .inr (5, [.ref (a 3), .ref (a 9), .ref (a 14)])) :: some (a 3, .inr (1, [.ref (a 4), .ref (a 5), .ref (a 6), .ref (a 7), .ref (a 8), .int (t1.1.2.2.2.2.2)])) :: some (a 4, .inl (K.2.1, 96, .inl (t1.1.1))) :: some (a 5, .inl (K.2.1, 12, .inl (t1.1.2.1))) :: some (a 6, .inl (K.2.1, 12, .inl (t1.1.2.2.1))) :: some (a 7, .inl (K.2.1, 12, .inl (t1.1.2.2.2.1))) :: some (a 8, .inl (K.2.1, 21, .inl (t1.1.2.2.2.2.1))) :: some (a 9, .inr (0, [.ref (a 10), .ref (a 11), .ref (a 12), .ref (a 13)])) :: some (a 10, .inl (K.2.1, 96, .inl (t1.2.1.1))) :: some (a 11, .inl (K.2.1, 96, .inl (t1.2.1.2.1))) :: some (a 12, .inl (K.2.1, 12, .inl (t1.2.1.2.2.1))) :: some (a 13, .inl (K.2.1, 12, .inl (t1.2.1.2.2.2))) :: some (a 14, .inr (2, [.ref (a 15), .int (t1.2.2.2)])) :: some (a 15, .inl (K.2.1, 12, .inl (t1.2.2.1))) :: []) : List (Option (Nat × va_E))) from rfl).trans (show List.map (fun i => (w4 K a t0 ++ w5 K (sh a 2) t1)[i]?) _ = ((some (a 2, .inr (5, [.ref (a 3), .ref (a 9), .ref (a 14)])) :: some (a 3, .inr (1, [.ref (a 4), .ref (a 5), .ref (a 6), .ref (a 7), .ref (a 8), .int (t1.1.2.2.2.2.2)])) :: some (a 4, .inl (K.2.1, 96, .inl (t1.1.1))) :: some (a 5, .inl (K.2.1, 12, .inl (t1.1.2.1))) :: some (a 6, .inl (K.2.1, 12, .inl (t1.1.2.2.1))) :: some (a 7, .inl (K.2.1, 12, .inl (t1.1.2.2.2.1))) :: some (a 8, .inl (K.2.1, 21, .inl (t1.1.2.2.2.2.1))) :: some (a 9, .inr (0, [.ref (a 10), .ref (a 11), .ref (a 12), .ref (a 13)])) :: some (a 10, .inl (K.2.1, 96, .inl (t1.2.1.1))) :: some (a 11, .inl (K.2.1, 96, .inl (t1.2.1.2.1))) :: some (a 12, .inl (K.2.1, 12, .inl (t1.2.1.2.2.1))) :: some (a 13, .inl (K.2.1, 12, .inl (t1.2.1.2.2.2))) :: some (a 14, .inr (2, [.ref (a 15), .int (t1.2.2.2)])) :: some (a 15, .inl (K.2.1, 12, .inl (t1.2.2.1))) :: []) : List (Option (Nat × va_E))) from rfl).symm, rfl, by decide⟩
theorem ll_111 (K : KK) (a : Nat → Nat) (t0 : S4) (t1 : S5) : ((2 :: 3 :: 4 :: 5 :: 6 :: 7 :: 8 :: 9 :: 10 :: 11 :: 12 :: 13 :: 14 :: 15 :: []) : List Nat).map (fun i => (w4 K a t0 ++ w5 K (sh a 2) t1)[i]?) = List.map some (w5 K (pk a (2 :: 3 :: 4 :: 5 :: 6 :: 7 :: 8 :: 9 :: 10 :: 11 :: 12 :: 13 :: 14 :: 15 :: [])) t1) := rfl
theorem ll_112 (K : KK) (a : Nat → Nat) (t0 : S4) (t1 : S5) (y0 : S5) : Wr (w4 K a t0 ++ w5 K (sh a 2) t1) (2 :: 3 :: 4 :: 5 :: 6 :: 7 :: 8 :: 9 :: 10 :: 11 :: 12 :: 13 :: 14 :: 15 :: []) (w5 K (pk a (2 :: 3 :: 4 :: 5 :: 6 :: 7 :: 8 :: 9 :: 10 :: 11 :: 12 :: 13 :: 14 :: 15 :: [])) y0) (w4 K a t0 ++ w5 K (sh a 2) y0) := ⟨[0, 1], 16, rfl, (show List.map (fun i => (w4 K a t0 ++ w5 K (sh a 2) y0)[i]?) _ = ([some (a 0, .inr (4, [.ref (a 1), .int (t0.2.1), .int (t0.2.2.1), .int (t0.2.2.2.1), .int (t0.2.2.2.2)])), some (a 1, .inl (K.2.1, 120, .inl (t0.1)))] : List (Option (Nat × va_E))) from rfl).trans (show List.map (fun i => (w4 K a t0 ++ w5 K (sh a 2) t1)[i]?) _ = ([some (a 0, .inr (4, [.ref (a 1), .int (t0.2.1), .int (t0.2.2.1), .int (t0.2.2.2.1), .int (t0.2.2.2.2)])), some (a 1, .inl (K.2.1, 120, .inl (t0.1)))] : List (Option (Nat × va_E))) from rfl).symm, rfl, by decide⟩
theorem ll_113 (K : KK) (a : Nat → Nat) (t0 : S4) (t1 : S5) : ([0, 1, 3, 4, 5, 6, 7, 8] : List Nat).map (fun i => (w4 K a t0 ++ w5 K (sh a 2) t1)[i]?) = List.map some (w4 K (pk a [0, 1, 3, 4, 5, 6, 7, 8]) t0 ++ w1 K (sh (pk a [0, 1, 3, 4, 5, 6, 7, 8]) 2) t1.1) := rfl
theorem ll_114 (K : KK) (a : Nat → Nat) (t0 : S4) (t1 : S5) (y0 : S4) (y1 : S1) : Wr (w4 K a t0 ++ w5 K (sh a 2) t1) [0, 1, 3, 4, 5, 6, 7, 8] (w4 K (pk a [0, 1, 3, 4, 5, 6, 7, 8]) y0 ++ w1 K (sh (pk a [0, 1, 3, 4, 5, 6, 7, 8]) 2) y1) (w4 K a y0 ++ w5 K (sh a 2) ((y1, t1.2))) := ⟨[2, 9, 10, 11, 12, 13, 14, 15], 16, rfl, (show List.map (fun i => (w4 K a y0 ++ w5 K (sh a 2) ((y1, t1.2)))[i]?) _ = ([some (a 2, .inr (5, [.ref (a 3), .ref (a 9), .ref (a 14)])), some (a 9, .inr (0, [.ref (a 10), .ref (a 11), .ref (a 12), .ref (a 13)])), some (a 10, .inl (K.2.1, 96, .inl (t1.2.1.1))), some (a 11, .inl (K.2.1, 96, .inl (t1.2.1.2.1))), some (a 12, .inl (K.2.1, 12, .inl (t1.2.1.2.2.1))), some (a 13, .inl (K.2.1, 12, .inl (t1.2.1.2.2.2))), some (a 14, .inr (2, [.ref (a 15), .int (t1.2.2.2)])), some (a 15, .inl (K.2.1, 12, .inl (t1.2.2.1)))] : List (Option (Nat × va_E))) from rfl).trans (show List.map (fun i => (w4 K a t0 ++ w5 K (sh a 2) t1)[i]?) _ = ([some (a 2, .inr (5, [.ref (a 3), .ref (a 9), .ref (a 14)])), some (a 9, .inr (0, [.ref (a 10), .ref (a 11), .ref (a 12), .ref (a 13)])), some (a 10, .inl (K.2.1, 96, .inl (t1.2.1.1))), some (a 11, .inl (K.2.1, 96, .inl (t1.2.1.2.1))), some (a 12, .inl (K.2.1, 12, .inl (t1.2.1.2.2.1))), some (a 13, .inl (K.2.1, 12, .inl (t1.2.1.2.2.2))), some (a 14, .inr (2, [.ref (a 15), .int (t1.2.2.2)])), some (a 15, .inl (K.2.1, 12, .inl (t1.2.2.1)))] : List (Option (Nat × va_E))) from rfl).symm, rfl, by decide⟩
def fX4_readOrder (s0 : S4) (s1 : S5) : Option (S4 × S5) := (if 0 ≤ s0.2.2.1 ∧ s0.2.2.1.toNatClampNeg < 120 then (if (s0.1 s0.2.2.1.toNatClampNeg) = (33 : Int32) then Option.bind (fX4_readEnd ((s0.1, s0.2.1, s0.2.2.1 + (1 : Int32), s0.2.2.2))) (fun r1 => (if r1.2.2.2.1 = (-1 : Int32) then Option.bind (fX5_crush s1) (fun r2 => some (r1, r2.2)) else some (r1, s1))) else (if (s0.1 s0.2.2.1.toNatClampNeg) = (45 : Int32) then Option.bind (fX4_readWall ((s0.1, s0.2.1, s0.2.2.1 + (1 : Int32), s0.2.2.2)) s1.1 (0 : Int32) (6 : Int32)) (fun r3 => some (r3.1, (r3.2, s1.2))) else (if (s0.1 s0.2.2.1.toNatClampNeg) = (47 : Int32) then Option.bind (fX4_readWall ((s0.1, s0.2.1, s0.2.2.1 + (1 : Int32), s0.2.2.2)) s1.1 (10 : Int32) (10 : Int32)) (fun r4 => some (r4.1, (r4.2, s1.2))) else (if (s0.1 s0.2.2.1.toNatClampNeg) = (112 : Int32) then Option.bind (fX4_readPillar ((s0.1, s0.2.1, s0.2.2.1 + (1 : Int32), s0.2.2.2)) s1.1 s0.2.2.1) (fun r5 => some (r5.1, (r5.2, s1.2))) else (if (s0.1 s0.2.2.1.toNatClampNeg) = (119 : Int32) then Option.bind (fX4_readWeight ((s0.1, s0.2.1, s0.2.2.1 + (1 : Int32), s0.2.2.2)) s1.1) (fun r6 => some (r6.1, (r6.2, s1.2))) else (if (s0.1 s0.2.2.1.toNatClampNeg) = (120 : Int32) then Option.bind (fX4_readCrushed ((s0.1, s0.2.1, s0.2.2.1 + (1 : Int32), s0.2.2.2)) s1.1) (fun r7 => some (r7.1, (r7.2, s1.2))) else Option.bind (fX4_fail ((s0.1, s0.2.1, s0.2.2.1 + (1 : Int32), s0.2.2.2)) s0.2.2.1) (fun r8 => some (r8, s1)))))))) else none)
theorem ycX4_readOrder : CalV yX4_readOrder cX4_readOrder 3 none 1 := ⟨mw_564, mw_68, mw_563, mw_9, ⟨by decide, by decide, by decide +kernel⟩, by decide⟩
set_option maxHeartbeats 4000000 in
set_option maxRecDepth 100000 in
theorem kX4_readOrder (l : Launch) (K : KK) (a : Nat → Nat) (s0 : S4) (s1 : S5) (res : S4 × S5) (hf : fX4_readOrder s0 s1 = some res) : Ct l K yX4_readOrder cX4_readOrder 3 none 5 [.ref (a 0), .ref (a 2)] (w4 K a s0 ++ w5 K (sh a 2) s1) (none) (w4 K a res.1 ++ w5 K (sh a 2) res.2) := by
  refine Ct_of2 (by decide) rfl (Nat.le_of_ble_eq_true rfl) ?_
  intro p e σ m args below meth c C hr
  unfold fX4_readOrder at hf
  refine Go_aload_n (pc := 0) C dX4_readOrder_0 rfl ?_
  refine Go_get (pc := 1) C 0 2 rfl rfl inX4 (by decide) mw_229 rfl dX4_readOrder_1 ?_
  refine Go_istore_n (pc := 4) C dX4_readOrder_4 (by decide) ?_
  refine Go_aload_n (pc := 5) C dX4_readOrder_5 rfl ?_
  refine Go_dup (pc := 6) C dX4_readOrder_6 rfl ?_
  refine Go_get (pc := 7) C 0 2 rfl rfl inX4 (by decide) mw_229 rfl dX4_readOrder_7 ?_
  refine Go_iconst (pc := 10) (v := 1) C dX4_readOrder_10 ci_1 ?_
  refine Go_iadd (pc := 11) C dX4_readOrder_11 ?_
  refine Go_put (pc := 12) (ws1 := (w4 K a ((s0.1, s0.2.1, s0.2.2.1 + (1 : Int32), s0.2.2.2)) ++ w5 K (sh a 2) s1)) C 0 2 tyX4 tyX4_ok nmX4 rfl rfl inX4 (by decide) mw_229 rfl rfl (Nat.le_of_ble_eq_true rfl) dX4_readOrder_12 (ll_108 _ _ _ _ _) ?_
  refine Go_aload_n (pc := 15) C dX4_readOrder_15 rfl ?_
  refine Go_get (pc := 16) C 0 0 rfl rfl inX4 (by decide) mw_226 rfl dX4_readOrder_16 ?_
  refine Go_iload_n (pc := 19) C dX4_readOrder_19 rfl ?_
  obtain ⟨hb, hf⟩ := ifs hf
  refine Go_iald (pc := 20) C 1 rfl (inb_in hb) dX4_readOrder_20 ?_
  by_cases hx0 : (s0.1 s0.2.2.1.toNatClampNeg) = (33 : Int32)
  · replace hf := ift hx0 hf
    refine Go_lookup (pc := 21) (off := 122) (tgt := 143) C dX4_readOrder_21 rfl (by rw [hx0]; decide) (by decide) ?_
    refine Go_aload_n (pc := 143) C dX4_readOrder_143 rfl ?_
    obtain ⟨r1, hr1, hf⟩ := bnd hf
    refine Go_callV0 (pc := 144) (ws1 := (w4 K a r1 ++ w5 K (sh a 2) s1)) C 0 [0, 1] (kX4_readEnd l K (pk a [0, 1]) ((s0.1, s0.2.1, s0.2.2.1 + (1 : Int32), s0.2.2.2)) r1 hr1) ycX4_readEnd mw_580 (Nat.le_of_ble_eq_true rfl) rfl rfl rfl rfl (Nat.le_of_ble_eq_true rfl) ⟨Nat.zero_le _, Nat.zero_le _⟩ dX4_readOrder_144 (ll_109 _ _ _ _) rfl rfl (ll_110 _ _ _ _ _) ?_
    refine Go_aload_n (pc := 147) C dX4_readOrder_147 rfl ?_
    refine Go_get (pc := 148) C 0 3 rfl rfl inX4 (by decide) mw_230 rfl dX4_readOrder_148 ?_
    refine Go_iconst (pc := 151) (v := -1) C dX4_readOrder_151 ci_m1 ?_
    refine Go_icmp_ne (pc := 152) (tgt := 168) C dX4_readOrder_152 (by decide) (fun hc => ?_) (fun hc => ?_)
    · replace hf := ift hc hf
      refine Go_aload_n (pc := 155) C dX4_readOrder_155 rfl ?_
      obtain ⟨r2, hr2, hf⟩ := bnd hf
      refine Go_callV1 (pc := 156) (ws1 := (w4 K a r1 ++ w5 K (sh a 2) r2.2)) C 2 (2 :: 3 :: 4 :: 5 :: 6 :: 7 :: 8 :: 9 :: 10 :: 11 :: 12 :: 13 :: 14 :: 15 :: []) (kX5_crush l K (pk a (2 :: 3 :: 4 :: 5 :: 6 :: 7 :: 8 :: 9 :: 10 :: 11 :: 12 :: 13 :: 14 :: 15 :: [])) s1 r2 hr2) ycX5_crush mw_599 (Nat.le_of_ble_eq_true rfl) rfl rfl rfl rfl (Nat.le_of_ble_eq_true rfl) ⟨Nat.zero_le _, Nat.zero_le _⟩ dX4_readOrder_156 (ll_111 _ _ _ _) rfl rfl (ll_112 _ _ _ _ _) ?_
      refine Go_pop (pc := 159) C dX4_readOrder_159 rfl ?_
      refine Go_goto (pc := 160) (tgt := 168) C dX4_readOrder_160 (by decide) ?_
      obtain rfl := Option.some.inj hf
      exact Go_vret C hr rfl dX4_readOrder_168
    · replace hf := iff' hc hf
      obtain rfl := Option.some.inj hf
      exact Go_vret C hr rfl dX4_readOrder_168
  replace hf := iff' hx0 hf
  by_cases hx1 : (s0.1 s0.2.2.1.toNatClampNeg) = (45 : Int32)
  · replace hf := ift hx1 hf
    refine Go_lookup (pc := 21) (off := 82) (tgt := 103) C dX4_readOrder_21 rfl (by rw [hx1]; decide) (by decide) ?_
    refine Go_aload_n (pc := 103) C dX4_readOrder_103 rfl ?_
    refine Go_aload_n (pc := 104) C dX4_readOrder_104 rfl ?_
    refine Go_get (pc := 105) C 2 0 rfl rfl inX5 (by decide) mw_207 rfl dX4_readOrder_105 ?_
    refine Go_iconst (pc := 108) (v := 0) C dX4_readOrder_108 ci_0 ?_
    refine Go_bipush (pc := 109) (v := 6) C dX4_readOrder_109 cb_6 ?_
    obtain ⟨r3, hr3, hf⟩ := bnd hf
    refine Go_callV0 (pc := 111) (ws1 := (w4 K a r3.1 ++ w5 K (sh a 2) ((r3.2, s1.2)))) C 0 [0, 1, 3, 4, 5, 6, 7, 8] (kX4_readWall l K (pk a [0, 1, 3, 4, 5, 6, 7, 8]) ((s0.1, s0.2.1, s0.2.2.1 + (1 : Int32), s0.2.2.2)) s1.1 (0 : Int32) (6 : Int32) r3 hr3) ycX4_readWall mw_590 (Nat.le_of_ble_eq_true rfl) rfl rfl rfl rfl (Nat.le_of_ble_eq_true rfl) ⟨Nat.zero_le _, Nat.zero_le _⟩ dX4_readOrder_111 (ll_113 _ _ _ _) rfl rfl (ll_114 _ _ _ _ _ _) ?_
    refine Go_goto (pc := 114) (tgt := 168) C dX4_readOrder_114 (by decide) ?_
    obtain rfl := Option.some.inj hf
    exact Go_vret C hr rfl dX4_readOrder_168
  replace hf := iff' hx1 hf
  by_cases hx2 : (s0.1 s0.2.2.1.toNatClampNeg) = (47 : Int32)
  · replace hf := ift hx2 hf
    refine Go_lookup (pc := 21) (off := 96) (tgt := 117) C dX4_readOrder_21 rfl (by rw [hx2]; decide) (by decide) ?_
    refine Go_aload_n (pc := 117) C dX4_readOrder_117 rfl ?_
    refine Go_aload_n (pc := 118) C dX4_readOrder_118 rfl ?_
    refine Go_get (pc := 119) C 2 0 rfl rfl inX5 (by decide) mw_207 rfl dX4_readOrder_119 ?_
    refine Go_bipush (pc := 122) (v := 10) C dX4_readOrder_122 cb_10 ?_
    refine Go_bipush (pc := 124) (v := 10) C dX4_readOrder_124 cb_10 ?_
    obtain ⟨r4, hr4, hf⟩ := bnd hf
    refine Go_callV0 (pc := 126) (ws1 := (w4 K a r4.1 ++ w5 K (sh a 2) ((r4.2, s1.2)))) C 0 [0, 1, 3, 4, 5, 6, 7, 8] (kX4_readWall l K (pk a [0, 1, 3, 4, 5, 6, 7, 8]) ((s0.1, s0.2.1, s0.2.2.1 + (1 : Int32), s0.2.2.2)) s1.1 (10 : Int32) (10 : Int32) r4 hr4) ycX4_readWall mw_590 (Nat.le_of_ble_eq_true rfl) rfl rfl rfl rfl (Nat.le_of_ble_eq_true rfl) ⟨Nat.zero_le _, Nat.zero_le _⟩ dX4_readOrder_126 (ll_113 _ _ _ _) rfl rfl (ll_114 _ _ _ _ _ _) ?_
    refine Go_goto (pc := 129) (tgt := 168) C dX4_readOrder_129 (by decide) ?_
    obtain rfl := Option.some.inj hf
    exact Go_vret C hr rfl dX4_readOrder_168
  replace hf := iff' hx2 hf
  by_cases hx3 : (s0.1 s0.2.2.1.toNatClampNeg) = (112 : Int32)
  · replace hf := ift hx3 hf
    refine Go_lookup (pc := 21) (off := 59) (tgt := 80) C dX4_readOrder_21 rfl (by rw [hx3]; decide) (by decide) ?_
    refine Go_aload_n (pc := 80) C dX4_readOrder_80 rfl ?_
    refine Go_aload_n (pc := 81) C dX4_readOrder_81 rfl ?_
    refine Go_get (pc := 82) C 2 0 rfl rfl inX5 (by decide) mw_207 rfl dX4_readOrder_82 ?_
    refine Go_iload_n (pc := 85) C dX4_readOrder_85 rfl ?_
    obtain ⟨r5, hr5, hf⟩ := bnd hf
    refine Go_callV0 (pc := 86) (ws1 := (w4 K a r5.1 ++ w5 K (sh a 2) ((r5.2, s1.2)))) C 0 [0, 1, 3, 4, 5, 6, 7, 8] (kX4_readPillar l K (pk a [0, 1, 3, 4, 5, 6, 7, 8]) ((s0.1, s0.2.1, s0.2.2.1 + (1 : Int32), s0.2.2.2)) s1.1 s0.2.2.1 r5 hr5) ycX4_readPillar mw_565 (Nat.le_of_ble_eq_true rfl) rfl rfl rfl rfl (Nat.le_of_ble_eq_true rfl) ⟨Nat.zero_le _, Nat.zero_le _⟩ dX4_readOrder_86 (ll_113 _ _ _ _) rfl rfl (ll_114 _ _ _ _ _ _) ?_
    refine Go_goto (pc := 89) (tgt := 168) C dX4_readOrder_89 (by decide) ?_
    obtain rfl := Option.some.inj hf
    exact Go_vret C hr rfl dX4_readOrder_168
  replace hf := iff' hx3 hf
  by_cases hx4 : (s0.1 s0.2.2.1.toNatClampNeg) = (119 : Int32)
  · replace hf := ift hx4 hf
    refine Go_lookup (pc := 21) (off := 71) (tgt := 92) C dX4_readOrder_21 rfl (by rw [hx4]; decide) (by decide) ?_
    refine Go_aload_n (pc := 92) C dX4_readOrder_92 rfl ?_
    refine Go_aload_n (pc := 93) C dX4_readOrder_93 rfl ?_
    refine Go_get (pc := 94) C 2 0 rfl rfl inX5 (by decide) mw_207 rfl dX4_readOrder_94 ?_
    obtain ⟨r6, hr6, hf⟩ := bnd hf
    refine Go_callV0 (pc := 97) (ws1 := (w4 K a r6.1 ++ w5 K (sh a 2) ((r6.2, s1.2)))) C 0 [0, 1, 3, 4, 5, 6, 7, 8] (kX4_readWeight l K (pk a [0, 1, 3, 4, 5, 6, 7, 8]) ((s0.1, s0.2.1, s0.2.2.1 + (1 : Int32), s0.2.2.2)) s1.1 r6 hr6) ycX4_readWeight mw_586 (Nat.le_of_ble_eq_true rfl) rfl rfl rfl rfl (Nat.le_of_ble_eq_true rfl) ⟨Nat.zero_le _, Nat.zero_le _⟩ dX4_readOrder_97 (ll_113 _ _ _ _) rfl rfl (ll_114 _ _ _ _ _ _) ?_
    refine Go_goto (pc := 100) (tgt := 168) C dX4_readOrder_100 (by decide) ?_
    obtain rfl := Option.some.inj hf
    exact Go_vret C hr rfl dX4_readOrder_168
  replace hf := iff' hx4 hf
  by_cases hx5 : (s0.1 s0.2.2.1.toNatClampNeg) = (120 : Int32)
  · replace hf := ift hx5 hf
    refine Go_lookup (pc := 21) (off := 111) (tgt := 132) C dX4_readOrder_21 rfl (by rw [hx5]; decide) (by decide) ?_
    refine Go_aload_n (pc := 132) C dX4_readOrder_132 rfl ?_
    refine Go_aload_n (pc := 133) C dX4_readOrder_133 rfl ?_
    refine Go_get (pc := 134) C 2 0 rfl rfl inX5 (by decide) mw_207 rfl dX4_readOrder_134 ?_
    obtain ⟨r7, hr7, hf⟩ := bnd hf
    refine Go_callV0 (pc := 137) (ws1 := (w4 K a r7.1 ++ w5 K (sh a 2) ((r7.2, s1.2)))) C 0 [0, 1, 3, 4, 5, 6, 7, 8] (kX4_readCrushed l K (pk a [0, 1, 3, 4, 5, 6, 7, 8]) ((s0.1, s0.2.1, s0.2.2.1 + (1 : Int32), s0.2.2.2)) s1.1 r7 hr7) ycX4_readCrushed mw_594 (Nat.le_of_ble_eq_true rfl) rfl rfl rfl rfl (Nat.le_of_ble_eq_true rfl) ⟨Nat.zero_le _, Nat.zero_le _⟩ dX4_readOrder_137 (ll_113 _ _ _ _) rfl rfl (ll_114 _ _ _ _ _ _) ?_
    refine Go_goto (pc := 140) (tgt := 168) C dX4_readOrder_140 (by decide) ?_
    obtain rfl := Option.some.inj hf
    exact Go_vret C hr rfl dX4_readOrder_168
  replace hf := iff' hx5 hf
  refine Go_lookup (pc := 21) (off := 142) (tgt := 163) C dX4_readOrder_21 rfl (by show Op.lookupswitch.offset [(33, 122), (45, 82), (47, 96), (112, 59), (119, 71), (120, 111)] 142 _ = _; rw [lv_osw hx0 (show ((33 : Int32)).toInt = 33 by decide), lv_osw hx1 (show ((45 : Int32)).toInt = 45 by decide), lv_osw hx2 (show ((47 : Int32)).toInt = 47 by decide), lv_osw hx3 (show ((112 : Int32)).toInt = 112 by decide), lv_osw hx4 (show ((119 : Int32)).toInt = 119 by decide), lv_osw hx5 (show ((120 : Int32)).toInt = 120 by decide)]; rfl) (by decide) ?_
  refine Go_aload_n (pc := 163) C dX4_readOrder_163 rfl ?_
  refine Go_iload_n (pc := 164) C dX4_readOrder_164 rfl ?_
  obtain ⟨r8, hr8, hf⟩ := bnd hf
  refine Go_callV0 (pc := 165) (ws1 := (w4 K a r8 ++ w5 K (sh a 2) s1)) C 0 [0, 1] (kX4_fail l K (pk a [0, 1]) ((s0.1, s0.2.1, s0.2.2.1 + (1 : Int32), s0.2.2.2)) s0.2.2.1 r8 hr8) ycX4_fail mw_557 (Nat.le_of_ble_eq_true rfl) rfl rfl rfl rfl (Nat.le_of_ble_eq_true rfl) ⟨Nat.zero_le _, Nat.zero_le _⟩ dX4_readOrder_165 (ll_109 _ _ _ _) rfl rfl (ll_110 _ _ _ _ _) ?_
  obtain rfl := Option.some.inj hf
  exact Go_vret C hr rfl dX4_readOrder_168
theorem ll_115 (K : KK) (a : Nat → Nat) (t0 : S4) (t1 : S5) (y : Int32) : List.set (w4 K a t0 ++ w5 K (sh a 2) t1) 0 (a 0, .inr (4, List.set [.ref (a 1), .int (t0.2.1), .int (t0.2.2.1), .int (t0.2.2.2.1), .int (t0.2.2.2.2)] 3 (.int y))) = (w4 K a ((t0.1, t0.2.1, t0.2.2.1, y, t0.2.2.2.2)) ++ w5 K (sh a 2) t1) := rfl
theorem ll_116 (K : KK) (a : Nat → Nat) (t0 : S4) (t1 : S5) : ((0 :: 1 :: 2 :: 3 :: 4 :: 5 :: 6 :: 7 :: 8 :: 9 :: 10 :: 11 :: 12 :: 13 :: 14 :: 15 :: []) : List Nat).map (fun i => (w4 K a t0 ++ w5 K (sh a 2) t1)[i]?) = List.map some (w4 K (pk a (0 :: 1 :: 2 :: 3 :: 4 :: 5 :: 6 :: 7 :: 8 :: 9 :: 10 :: 11 :: 12 :: 13 :: 14 :: 15 :: [])) t0 ++ w5 K (sh (pk a (0 :: 1 :: 2 :: 3 :: 4 :: 5 :: 6 :: 7 :: 8 :: 9 :: 10 :: 11 :: 12 :: 13 :: 14 :: 15 :: [])) 2) t1) := rfl
theorem ll_117 (K : KK) (a : Nat → Nat) (t0 : S4) (t1 : S5) (y0 : S4) (y1 : S5) : Wr (w4 K a t0 ++ w5 K (sh a 2) t1) (0 :: 1 :: 2 :: 3 :: 4 :: 5 :: 6 :: 7 :: 8 :: 9 :: 10 :: 11 :: 12 :: 13 :: 14 :: 15 :: []) (w4 K (pk a (0 :: 1 :: 2 :: 3 :: 4 :: 5 :: 6 :: 7 :: 8 :: 9 :: 10 :: 11 :: 12 :: 13 :: 14 :: 15 :: [])) y0 ++ w5 K (sh (pk a (0 :: 1 :: 2 :: 3 :: 4 :: 5 :: 6 :: 7 :: 8 :: 9 :: 10 :: 11 :: 12 :: 13 :: 14 :: 15 :: [])) 2) y1) (w4 K a y0 ++ w5 K (sh a 2) y1) := ⟨[], 16, rfl, (show List.map (fun i => (w4 K a y0 ++ w5 K (sh a 2) y1)[i]?) _ = ([] : List (Option (Nat × va_E))) from rfl).trans (show List.map (fun i => (w4 K a t0 ++ w5 K (sh a 2) t1)[i]?) _ = ([] : List (Option (Nat × va_E))) from rfl).symm, rfl, by decide⟩
def fX4_read_L35  (q2 : Int32 × S4 × S5) : Option ((Int32 × S4 × S5) ⊕ (Int32 × S4 × S5)) := (if (120 : Int32) ≤ q2.1 then some (.inr (q2.1, q2.2.1, q2.2.2)) else (if q2.2.1.2.1 ≤ q2.2.1.2.2.1 then some (.inr (q2.1, q2.2.1, q2.2.2)) else (if q2.2.1.2.2.2.1 = (-1 : Int32) then Option.bind (fX4_readOrder q2.2.1 q2.2.2) (fun r3 => Option.bind (fX4_skipBlanks r3.1) (fun r4 => Option.bind (some (q2.1 + (1 : Int32))) (fun v5 => some (.inl (v5, r4, r3.2))))) else some (.inr (q2.1, q2.2.1, q2.2.2)))))
def fX4_read_L35_1  (q8 : Int32 × S4 × S5) : Option ((Int32 × S4 × S5) ⊕ (Int32 × S4 × S5)) := (if (120 : Int32) ≤ q8.1 then some (.inr (q8.1, q8.2.1, q8.2.2)) else (if q8.2.1.2.1 ≤ q8.2.1.2.2.1 then some (.inr (q8.1, q8.2.1, q8.2.2)) else (if q8.2.1.2.2.2.1 = (-1 : Int32) then Option.bind (fX4_readOrder q8.2.1 q8.2.2) (fun r9 => Option.bind (fX4_skipBlanks r9.1) (fun r10 => Option.bind (some (q8.1 + (1 : Int32))) (fun v11 => some (.inl (v11, r10, r9.2))))) else some (.inr (q8.1, q8.2.1, q8.2.2)))))
def fX4_read (s0 : S4) (s1 : S5) : Option (Int32 × S4 × S5) := Option.bind (fX4_skipBlanks ((s0.1, s0.2.1, (0 : Int32), (-1 : Int32), s0.2.2.2.2))) (fun r1 => (if r1.2.2.1 < r1.2.1 then Option.bind (loopF (fX4_read_L35) 5000 ((0 : Int32), r1, s1)) (fun z6 => some (z6.2.1.2.2.2.1, z6.2.1, z6.2.2)) else Option.bind (fX4_fail r1 r1.2.1) (fun r7 => Option.bind (loopF (fX4_read_L35_1) 5000 ((0 : Int32), r7, s1)) (fun z12 => some (z12.2.1.2.2.2.1, z12.2.1, z12.2.2)))))
theorem ycX4_read : CalV yX4_read cX4_read 3 ((some .int)) 1 := ⟨mw_552, mw_68, mw_550, mw_551, ⟨by decide, by decide, by decide +kernel⟩, by decide⟩
set_option maxHeartbeats 4000000 in
set_option maxRecDepth 100000 in
theorem kX4_read (l : Launch) (K : KK) (a : Nat → Nat) (s0 : S4) (s1 : S5) (res : Int32 × S4 × S5) (hf : fX4_read s0 s1 = some res) : Ct l K yX4_read cX4_read 3 ((some .int)) 6 [.ref (a 0), .ref (a 2)] (w4 K a s0 ++ w5 K (sh a 2) s1) (some (.int res.1)) (w4 K a res.2.1 ++ w5 K (sh a 2) res.2.2) := by
  refine Ct_of2 (by decide) rfl (Nat.le_of_ble_eq_true rfl) ?_
  intro p e σ m args below meth c C hr
  unfold fX4_read at hf
  refine Go_aload_n (pc := 0) C dX4_read_0 rfl ?_
  refine Go_iconst (pc := 1) (v := 0) C dX4_read_1 ci_0 ?_
  refine Go_put (pc := 2) (ws1 := (w4 K a ((s0.1, s0.2.1, (0 : Int32), s0.2.2.2)) ++ w5 K (sh a 2) s1)) C 0 2 tyX4 tyX4_ok nmX4 rfl rfl inX4 (by decide) mw_229 rfl rfl (Nat.le_of_ble_eq_true rfl) dX4_read_2 (ll_108 _ _ _ _ _) ?_
  refine Go_aload_n (pc := 5) C dX4_read_5 rfl ?_
  refine Go_iconst (pc := 6) (v := -1) C dX4_read_6 ci_m1 ?_
  refine Go_put (pc := 7) (ws1 := (w4 K a ((s0.1, s0.2.1, (0 : Int32), (-1 : Int32), s0.2.2.2.2)) ++ w5 K (sh a 2) s1)) C 0 3 tyX4 tyX4_ok nmX4 rfl rfl inX4 (by decide) mw_230 rfl rfl (Nat.le_of_ble_eq_true rfl) dX4_read_7 (ll_115 _ _ _ _ _) ?_
  refine Go_aload_n (pc := 10) C dX4_read_10 rfl ?_
  obtain ⟨r1, hr1, hf⟩ := bnd hf
  refine Go_callV0 (pc := 11) (ws1 := (w4 K a r1 ++ w5 K (sh a 2) s1)) C 0 [0, 1] (kX4_skipBlanks l K (pk a [0, 1]) ((s0.1, s0.2.1, (0 : Int32), (-1 : Int32), s0.2.2.2.2)) r1 hr1) ycX4_skipBlanks mw_553 (Nat.le_of_ble_eq_true rfl) rfl rfl rfl rfl (Nat.le_of_ble_eq_true rfl) ⟨Nat.zero_le _, Nat.zero_le _⟩ dX4_read_11 (ll_109 _ _ _ _) rfl rfl (ll_110 _ _ _ _ _) ?_
  refine Go_aload_n (pc := 14) C dX4_read_14 rfl ?_
  refine Go_get (pc := 15) C 0 2 rfl rfl inX4 (by decide) mw_229 rfl dX4_read_15 ?_
  refine Go_aload_n (pc := 18) C dX4_read_18 rfl ?_
  refine Go_get (pc := 19) C 0 1 rfl rfl inX4 (by decide) mw_227 rfl dX4_read_19 ?_
  refine Go_icmp_lt (pc := 22) (tgt := 33) C dX4_read_22 (by decide) (fun hc => ?_) (fun hc => ?_)
  · replace hf := ift hc hf
    refine Go_iconst (pc := 33) (v := 0) C dX4_read_33 ci_0 ?_
    refine Go_istore_n (pc := 34) C dX4_read_34 (by decide) ?_
    obtain ⟨z6, hz6, hf⟩ := bnd hf
    refine Go_mask [true, true, true] ?_
    refine loopF_go (step := (fX4_read_L35)) (fun q2 => Go p l e (rmc 6 0 0) σ m args below meth c K (inW (w4 K a s0 ++ w5 K (sh a 2) s1)) σ.heap 3 0 0 (MQ below (CtQ K (w4 K a s0 ++ w5 K (sh a 2) s1) (some (.int res.1)) (w4 K a res.2.1 ++ w5 K (sh a 2) res.2.2)) args σ 0 0 (inW (w4 K a s0 ++ w5 K (sh a 2) s1))) (w4 K a q2.2.1 ++ w5 K (sh a 2) q2.2.2) 35 [some (.ref (a 0)), some (.ref (a 2)), some (.int q2.1)] []) (fun z6 => Go p l e (rmc 6 0 0) σ m args below meth c K (inW (w4 K a s0 ++ w5 K (sh a 2) s1)) σ.heap 3 0 0 (MQ below (CtQ K (w4 K a s0 ++ w5 K (sh a 2) s1) (some (.int res.1)) (w4 K a res.2.1 ++ w5 K (sh a 2) res.2.2)) args σ 0 0 (inW (w4 K a s0 ++ w5 K (sh a 2) s1))) (w4 K a z6.2.1 ++ w5 K (sh a 2) z6.2.2) 75 [some (.ref (a 0)), some (.ref (a 2)), some (.int z6.1)] []) ?_ _ _ _ hz6 ?_
    · intro q2 x hf hk
      unfold fX4_read_L35 at hf
      refine Go_iload_n (pc := 35) C dX4_read_35 rfl ?_
      refine Go_bipush (pc := 36) (v := 120) C dX4_read_36 cb_120 ?_
      refine Go_icmp_ge (pc := 38) (tgt := 75) C dX4_read_38 (by decide) (fun hc => ?_) (fun hc => ?_)
      · replace hf := ift hc hf
        obtain rfl := Option.some.inj hf
        exact Go_mask [true, true, true] hk
      · replace hf := iff' hc hf
        refine Go_aload_n (pc := 41) C dX4_read_41 rfl ?_
        refine Go_get (pc := 42) C 0 2 rfl rfl inX4 (by decide) mw_229 rfl dX4_read_42 ?_
        refine Go_aload_n (pc := 45) C dX4_read_45 rfl ?_
        refine Go_get (pc := 46) C 0 1 rfl rfl inX4 (by decide) mw_227 rfl dX4_read_46 ?_
        refine Go_icmp_ge (pc := 49) (tgt := 75) C dX4_read_49 (by decide) (fun hc => ?_) (fun hc => ?_)
        · replace hf := ift hc hf
          obtain rfl := Option.some.inj hf
          exact Go_mask [true, true, true] hk
        · replace hf := iff' hc hf
          refine Go_aload_n (pc := 52) C dX4_read_52 rfl ?_
          refine Go_get (pc := 53) C 0 3 rfl rfl inX4 (by decide) mw_230 rfl dX4_read_53 ?_
          refine Go_iconst (pc := 56) (v := -1) C dX4_read_56 ci_m1 ?_
          refine Go_icmp_ne (pc := 57) (tgt := 75) C dX4_read_57 (by decide) (fun hc => ?_) (fun hc => ?_)
          · replace hf := ift hc hf
            refine Go_aload_n (pc := 60) C dX4_read_60 rfl ?_
            refine Go_aload_n (pc := 61) C dX4_read_61 rfl ?_
            obtain ⟨r3, hr3, hf⟩ := bnd hf
            refine Go_callV0 (pc := 62) (ws1 := (w4 K a r3.1 ++ w5 K (sh a 2) r3.2)) C 0 (0 :: 1 :: 2 :: 3 :: 4 :: 5 :: 6 :: 7 :: 8 :: 9 :: 10 :: 11 :: 12 :: 13 :: 14 :: 15 :: []) (kX4_readOrder l K (pk a (0 :: 1 :: 2 :: 3 :: 4 :: 5 :: 6 :: 7 :: 8 :: 9 :: 10 :: 11 :: 12 :: 13 :: 14 :: 15 :: [])) q2.2.1 q2.2.2 r3 hr3) ycX4_readOrder mw_561 (Nat.le_of_ble_eq_true rfl) rfl rfl rfl rfl (Nat.le_of_ble_eq_true rfl) ⟨Nat.zero_le _, Nat.zero_le _⟩ dX4_read_62 (ll_116 _ _ _ _) rfl rfl (ll_117 _ _ _ _ _ _) ?_
            refine Go_aload_n (pc := 65) C dX4_read_65 rfl ?_
            obtain ⟨r4, hr4, hf⟩ := bnd hf
            refine Go_callV0 (pc := 66) (ws1 := (w4 K a r4 ++ w5 K (sh a 2) r3.2)) C 0 [0, 1] (kX4_skipBlanks l K (pk a [0, 1]) r3.1 r4 hr4) ycX4_skipBlanks mw_553 (Nat.le_of_ble_eq_true rfl) rfl rfl rfl rfl (Nat.le_of_ble_eq_true rfl) ⟨Nat.zero_le _, Nat.zero_le _⟩ dX4_read_66 (ll_109 _ _ _ _) rfl rfl (ll_110 _ _ _ _ _) ?_
            obtain ⟨v5, hv5, hf⟩ := bnd hf
            refine Go_iinc (pc := 69) (v := v5) C dX4_read_69 rfl (by rw [ci_1]; exact Option.some.inj hv5) ?_
            refine Go_goto (pc := 72) (tgt := 35) C dX4_read_72 (by decide) ?_
            obtain rfl := Option.some.inj hf
            exact Go_mask [true, true, true] hk
          · replace hf := iff' hc hf
            obtain rfl := Option.some.inj hf
            exact Go_mask [true, true, true] hk
    · show Go _ _ _ _ _ _ _ _ _ _ _ _ _ _ _ _ _ _ _ _ _
      refine Go_aload_n (pc := 75) C dX4_read_75 rfl ?_
      refine Go_get (pc := 76) C 0 3 rfl rfl inX4 (by decide) mw_230 rfl dX4_read_76 ?_
      obtain rfl := Option.some.inj hf
      exact Go_iret C hr rfl dX4_read_79
  · replace hf := iff' hc hf
    refine Go_aload_n (pc := 25) C dX4_read_25 rfl ?_
    refine Go_aload_n (pc := 26) C dX4_read_26 rfl ?_
    refine Go_get (pc := 27) C 0 1 rfl rfl inX4 (by decide) mw_227 rfl dX4_read_27 ?_
    obtain ⟨r7, hr7, hf⟩ := bnd hf
    refine Go_callV0 (pc := 30) (ws1 := (w4 K a r7 ++ w5 K (sh a 2) s1)) C 0 [0, 1] (kX4_fail l K (pk a [0, 1]) r1 r1.2.1 r7 hr7) ycX4_fail mw_557 (Nat.le_of_ble_eq_true rfl) rfl rfl rfl rfl (Nat.le_of_ble_eq_true rfl) ⟨Nat.zero_le _, Nat.zero_le _⟩ dX4_read_30 (ll_109 _ _ _ _) rfl rfl (ll_110 _ _ _ _ _) ?_
    refine Go_iconst (pc := 33) (v := 0) C dX4_read_33 ci_0 ?_
    refine Go_istore_n (pc := 34) C dX4_read_34 (by decide) ?_
    obtain ⟨z12, hz12, hf⟩ := bnd hf
    refine Go_mask [true, true, true] ?_
    refine loopF_go (step := (fX4_read_L35_1)) (fun q8 => Go p l e (rmc 6 0 0) σ m args below meth c K (inW (w4 K a s0 ++ w5 K (sh a 2) s1)) σ.heap 3 0 0 (MQ below (CtQ K (w4 K a s0 ++ w5 K (sh a 2) s1) (some (.int res.1)) (w4 K a res.2.1 ++ w5 K (sh a 2) res.2.2)) args σ 0 0 (inW (w4 K a s0 ++ w5 K (sh a 2) s1))) (w4 K a q8.2.1 ++ w5 K (sh a 2) q8.2.2) 35 [some (.ref (a 0)), some (.ref (a 2)), some (.int q8.1)] []) (fun z12 => Go p l e (rmc 6 0 0) σ m args below meth c K (inW (w4 K a s0 ++ w5 K (sh a 2) s1)) σ.heap 3 0 0 (MQ below (CtQ K (w4 K a s0 ++ w5 K (sh a 2) s1) (some (.int res.1)) (w4 K a res.2.1 ++ w5 K (sh a 2) res.2.2)) args σ 0 0 (inW (w4 K a s0 ++ w5 K (sh a 2) s1))) (w4 K a z12.2.1 ++ w5 K (sh a 2) z12.2.2) 75 [some (.ref (a 0)), some (.ref (a 2)), some (.int z12.1)] []) ?_ _ _ _ hz12 ?_
    · intro q8 x hf hk
      unfold fX4_read_L35_1 at hf
      refine Go_iload_n (pc := 35) C dX4_read_35 rfl ?_
      refine Go_bipush (pc := 36) (v := 120) C dX4_read_36 cb_120 ?_
      refine Go_icmp_ge (pc := 38) (tgt := 75) C dX4_read_38 (by decide) (fun hc => ?_) (fun hc => ?_)
      · replace hf := ift hc hf
        obtain rfl := Option.some.inj hf
        exact Go_mask [true, true, true] hk
      · replace hf := iff' hc hf
        refine Go_aload_n (pc := 41) C dX4_read_41 rfl ?_
        refine Go_get (pc := 42) C 0 2 rfl rfl inX4 (by decide) mw_229 rfl dX4_read_42 ?_
        refine Go_aload_n (pc := 45) C dX4_read_45 rfl ?_
        refine Go_get (pc := 46) C 0 1 rfl rfl inX4 (by decide) mw_227 rfl dX4_read_46 ?_
        refine Go_icmp_ge (pc := 49) (tgt := 75) C dX4_read_49 (by decide) (fun hc => ?_) (fun hc => ?_)
        · replace hf := ift hc hf
          obtain rfl := Option.some.inj hf
          exact Go_mask [true, true, true] hk
        · replace hf := iff' hc hf
          refine Go_aload_n (pc := 52) C dX4_read_52 rfl ?_
          refine Go_get (pc := 53) C 0 3 rfl rfl inX4 (by decide) mw_230 rfl dX4_read_53 ?_
          refine Go_iconst (pc := 56) (v := -1) C dX4_read_56 ci_m1 ?_
          refine Go_icmp_ne (pc := 57) (tgt := 75) C dX4_read_57 (by decide) (fun hc => ?_) (fun hc => ?_)
          · replace hf := ift hc hf
            refine Go_aload_n (pc := 60) C dX4_read_60 rfl ?_
            refine Go_aload_n (pc := 61) C dX4_read_61 rfl ?_
            obtain ⟨r9, hr9, hf⟩ := bnd hf
            refine Go_callV0 (pc := 62) (ws1 := (w4 K a r9.1 ++ w5 K (sh a 2) r9.2)) C 0 (0 :: 1 :: 2 :: 3 :: 4 :: 5 :: 6 :: 7 :: 8 :: 9 :: 10 :: 11 :: 12 :: 13 :: 14 :: 15 :: []) (kX4_readOrder l K (pk a (0 :: 1 :: 2 :: 3 :: 4 :: 5 :: 6 :: 7 :: 8 :: 9 :: 10 :: 11 :: 12 :: 13 :: 14 :: 15 :: [])) q8.2.1 q8.2.2 r9 hr9) ycX4_readOrder mw_561 (Nat.le_of_ble_eq_true rfl) rfl rfl rfl rfl (Nat.le_of_ble_eq_true rfl) ⟨Nat.zero_le _, Nat.zero_le _⟩ dX4_read_62 (ll_116 _ _ _ _) rfl rfl (ll_117 _ _ _ _ _ _) ?_
            refine Go_aload_n (pc := 65) C dX4_read_65 rfl ?_
            obtain ⟨r10, hr10, hf⟩ := bnd hf
            refine Go_callV0 (pc := 66) (ws1 := (w4 K a r10 ++ w5 K (sh a 2) r9.2)) C 0 [0, 1] (kX4_skipBlanks l K (pk a [0, 1]) r9.1 r10 hr10) ycX4_skipBlanks mw_553 (Nat.le_of_ble_eq_true rfl) rfl rfl rfl rfl (Nat.le_of_ble_eq_true rfl) ⟨Nat.zero_le _, Nat.zero_le _⟩ dX4_read_66 (ll_109 _ _ _ _) rfl rfl (ll_110 _ _ _ _ _) ?_
            obtain ⟨v11, hv11, hf⟩ := bnd hf
            refine Go_iinc (pc := 69) (v := v11) C dX4_read_69 rfl (by rw [ci_1]; exact Option.some.inj hv11) ?_
            refine Go_goto (pc := 72) (tgt := 35) C dX4_read_72 (by decide) ?_
            obtain rfl := Option.some.inj hf
            exact Go_mask [true, true, true] hk
          · replace hf := iff' hc hf
            obtain rfl := Option.some.inj hf
            exact Go_mask [true, true, true] hk
    · show Go _ _ _ _ _ _ _ _ _ _ _ _ _ _ _ _ _ _ _ _ _
      refine Go_aload_n (pc := 75) C dX4_read_75 rfl ?_
      refine Go_get (pc := 76) C 0 3 rfl rfl inX4 (by decide) mw_230 rfl dX4_read_76 ?_
      obtain rfl := Option.some.inj hf
      exact Go_iret C hr rfl dX4_read_79
