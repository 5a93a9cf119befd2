theorem ll_6 (K : KK) (a : Nat → Nat) (t0 : S2) : ([1] : List Nat).map (fun i => (w2 K a t0)[i]?) = List.map some (wA K (pk a [1]) 12 t0.1) := rfl
theorem ll_7 (K : KK) (a : Nat → Nat) (t0 : S2) (y0 : (Nat → Int32)) : Wr (w2 K a t0) [1] (wA K (pk a [1]) 12 y0) (w2 K a ((y0, t0.2))) := ⟨[0], 2, rfl, (show List.map (fun i => (w2 K a ((y0, t0.2)))[i]?) _ = ([some (a 0, .inr (2, [.ref (a 1), .int (t0.2)]))] : List (Option (Nat × va_E))) from rfl).trans (show List.map (fun i => (w2 K a t0)[i]?) _ = ([some (a 0, .inr (2, [.ref (a 1), .int (t0.2)]))] : List (Option (Nat × va_E))) from rfl).symm, rfl, by decide⟩
theorem ll_8 (K : KK) (a : Nat → Nat) (t0 : S2) (y : Int32) : List.set (w2 K a t0) 0 (a 0, .inr (2, List.set [.ref (a 1), .int (t0.2)] 1 (.int y))) = (w2 K a ((t0.1, y))) := rfl
def fX2_forget (s0 : S2) : Option (S2) := Option.bind (fJ7_fill_53178 12 s0.1 (-1 : Int32)) (fun r1 => some ((r1, (0 : Int32))))
theorem ycX2_forget : CalV yX2_forget cX2_forget 1 none 0 := ⟨mw_163, mw_65, mw_161, mw_162, ⟨by decide, by decide, by decide +kernel⟩, by decide⟩
set_option maxHeartbeats 4000000 in
set_option maxRecDepth 100000 in
theorem kX2_forget (l : Launch) (K : KK) (a : Nat → Nat) (s0 : S2) (res : S2) (hf : fX2_forget s0 = some res) : Ct l K yX2_forget cX2_forget 1 none 1 [.ref (a 0)] (w2 K a s0) (none) (w2 K a res) := by
  refine Ct_of2 (by decide) rfl (Nat.le_of_ble_eq_true rfl) ?_
  intro p e σ m args below meth c C hr
  unfold fX2_forget at hf
  refine Go_aload_n (pc := 0) C dX2_forget_0 rfl ?_
  refine Go_get (pc := 1) C 0 0 rfl rfl inX2 (by decide) mw_165 rfl dX2_forget_1 ?_
  refine Go_iconst (pc := 4) (v := -1) C dX2_forget_4 ci_m1 ?_
  obtain ⟨r1, hr1, hf⟩ := bnd hf
  refine Go_callS0 (pc := 5) (ws1 := (w2 K a ((r1, s0.2)))) C [1] (kJ7_fill_53178 l K (pk a [1]) 12 s0.1 (-1 : Int32) r1 hr1) ycJ7_fill_53178 mw_164 (Nat.le_of_ble_eq_true rfl) rfl rfl (Nat.le_of_ble_eq_true rfl) ⟨Nat.zero_le _, Nat.zero_le _⟩ dX2_forget_5 (ll_6 _ _ _) rfl rfl (ll_7 _ _ _ _) ?_
  refine Go_aload_n (pc := 8) C dX2_forget_8 rfl ?_
  refine Go_iconst (pc := 9) (v := 0) C dX2_forget_9 ci_0 ?_
  refine Go_put (pc := 10) (ws1 := (w2 K a ((r1, (0 : Int32))))) C 0 1 tyX2 tyX2_ok nmX2 rfl rfl inX2 (by decide) mw_167 rfl rfl (Nat.le_of_ble_eq_true rfl) dX2_forget_10 (ll_8 _ _ _ _) ?_
  obtain rfl := Option.some.inj hf
  exact Go_vret C hr rfl dX2_forget_13
theorem ll_61 (K : KK) (a : Nat → Nat) (t0 : S2) (t1 : S1) (t2 : S0) : ([8, 9, 10, 11, 12, 2, 3, 4, 5, 6, 7] : List Nat).map (fun i => (w2 K a t0 ++ w1 K (sh a 2) t1 ++ w0 K (sh a 8) t2)[i]?) = List.map some (w0 K (pk a [8, 9, 10, 11, 12, 2, 3, 4, 5, 6, 7]) t2 ++ w1 K (sh (pk a [8, 9, 10, 11, 12, 2, 3, 4, 5, 6, 7]) 5) t1) := rfl
theorem ll_62 (K : KK) (a : Nat → Nat) (t0 : S2) (t1 : S1) (t2 : S0) (y : Nat → Int32) : List.set (w2 K a t0 ++ w1 K (sh a 2) t1 ++ w0 K (sh a 8) t2) 6 (a 6, .inl (K.2.1, 12, .inl y)) = (w2 K a t0 ++ w1 K (sh a 2) ((t1.1, t1.2.1, t1.2.2.1, y, t1.2.2.2.2)) ++ w0 K (sh a 8) t2) := rfl
theorem ll_63 (K : KK) (a : Nat → Nat) (t0 : S2) (t1 : S1) (t2 : S0) (y : Nat → Int32) : List.set (w2 K a t0 ++ w1 K (sh a 2) t1 ++ w0 K (sh a 8) t2) 1 (a 1, .inl (K.2.1, 12, .inl y)) = (w2 K a ((y, t0.2)) ++ w1 K (sh a 2) t1 ++ w0 K (sh a 8) t2) := rfl
def fX2_crushWave_L6 (s1 : S1) (s2 : S0) (p3 : Int32) (q1 : Int32 × Int32 × (Nat → Int32) × (Nat → Int32)) : Option ((Int32 × Int32 × (Nat → Int32) × (Nat → Int32)) ⊕ (Int32 × Int32 × (Nat → Int32) × (Nat → Int32))) := (if s1.2.2.2.2.2 ≤ q1.2.1 then some (.inr (q1.1, q1.2.1, q1.2.2.1, q1.2.2.2)) else Option.bind (fX0_isTooMuch s2 ((s1.1, s1.2.1, s1.2.2.1, q1.2.2.2, s1.2.2.2.2)) q1.2.1) (fun r2 => (if r2 = 0 then Option.bind (some (q1.2.1 + (1 : Int32))) (fun v3 => some (.inl (q1.1, v3, q1.2.2.1, q1.2.2.2))) else (if 0 ≤ q1.2.1 ∧ q1.2.1.toNatClampNeg < 12 then (if 0 ≤ q1.2.1 ∧ q1.2.1.toNatClampNeg < 12 then Option.bind (some (q1.1 + (1 : Int32))) (fun v4 => Option.bind (some (q1.2.1 + (1 : Int32))) (fun v5 => some (.inl (v4, v5, upd q1.2.2.1 q1.2.1.toNatClampNeg p3, upd q1.2.2.2 q1.2.1.toNatClampNeg (0 : Int32))))) else none) else none))))
def fX2_crushWave (s0 : S2) (s1 : S1) (s2 : S0) (p3 : Int32) : Option (Int32 × S2 × S1) := Option.bind (loopF (fX2_crushWave_L6 s1 s2 p3) 5000 ((0 : Int32), (0 : Int32), s0.1, s1.2.2.2.1)) (fun z6 => some (z6.1, (z6.2.2.1, s0.2), (s1.1, s1.2.1, s1.2.2.1, z6.2.2.2, s1.2.2.2.2)))
theorem ycX2_crushWave : CalV yX2_crushWave cX2_crushWave 6 ((some .int)) 3 := ⟨mw_458, mw_65, mw_457, mw_6, ⟨by decide, by decide, by decide +kernel⟩, by decide⟩
set_option maxHeartbeats 4000000 in
set_option maxRecDepth 100000 in
theorem kX2_crushWave (l : Launch) (K : KK) (a : Nat → Nat) (s0 : S2) (s1 : S1) (s2 : S0) (p3 : Int32) (res : Int32 × S2 × S1) (hf : fX2_crushWave s0 s1 s2 p3 = some res) : Ct l K yX2_crushWave cX2_crushWave 6 ((some .int)) 1 [.ref (a 0), .ref (a 2), .ref (a 8), .int p3] (w2 K a s0 ++ w1 K (sh a 2) s1 ++ w0 K (sh a 8) s2) (some (.int res.1)) (w2 K a res.2.1 ++ w1 K (sh a 2) res.2.2 ++ w0 K (sh a 8) s2) := by
  refine Ct_of2 (by decide) rfl (Nat.le_of_ble_eq_true rfl) ?_
  intro p e σ m args below meth c C hr
  unfold fX2_crushWave at hf
  refine Go_iconst (pc := 0) (v := 0) C dX2_crushWave_0 ci_0 ?_
  refine Go_istore (pc := 1) C dX2_crushWave_1 (by decide) ?_
  refine Go_iconst (pc := 3) (v := 0) C dX2_crushWave_3 ci_0 ?_
  refine Go_istore (pc := 4) C dX2_crushWave_4 (by decide) ?_
  obtain ⟨z6, hz6, hf⟩ := bnd hf
  refine Go_mask [true, true, true, true, true, true] ?_
  refine loopF_go (step := (fX2_crushWave_L6 s1 s2 p3)) (fun q1 => Go p l e (rmc 1 0 0) σ m args below meth c K (inW (w2 K a s0 ++ w1 K (sh a 2) s1 ++ w0 K (sh a 8) s2)) σ.heap 6 0 0 (MQ below (CtQ K (w2 K a s0 ++ w1 K (sh a 2) s1 ++ w0 K (sh a 8) s2) (some (.int res.1)) (w2 K a res.2.1 ++ w1 K (sh a 2) res.2.2 ++ w0 K (sh a 8) s2)) args σ 0 0 (inW (w2 K a s0 ++ w1 K (sh a 2) s1 ++ w0 K (sh a 8) s2))) (w2 K a ((q1.2.2.1, s0.2)) ++ w1 K (sh a 2) ((s1.1, s1.2.1, s1.2.2.1, q1.2.2.2, s1.2.2.2.2)) ++ w0 K (sh a 8) s2) 6 [some (.ref (a 0)), some (.ref (a 2)), some (.ref (a 8)), some (.int p3), some (.int q1.1), some (.int q1.2.1)] []) (fun z6 => Go p l e (rmc 1 0 0) σ m args below meth c K (inW (w2 K a s0 ++ w1 K (sh a 2) s1 ++ w0 K (sh a 8) s2)) σ.heap 6 0 0 (MQ below (CtQ K (w2 K a s0 ++ w1 K (sh a 2) s1 ++ w0 K (sh a 8) s2) (some (.int res.1)) (w2 K a res.2.1 ++ w1 K (sh a 2) res.2.2 ++ w0 K (sh a 8) s2)) args σ 0 0 (inW (w2 K a s0 ++ w1 K (sh a 2) s1 ++ w0 K (sh a 8) s2))) (w2 K a ((z6.2.2.1, s0.2)) ++ w1 K (sh a 2) ((s1.1, s1.2.1, s1.2.2.1, z6.2.2.2, s1.2.2.2.2)) ++ w0 K (sh a 8) s2) 50 [some (.ref (a 0)), some (.ref (a 2)), some (.ref (a 8)), some (.int p3), some (.int z6.1), some (.int z6.2.1)] []) ?_ _ _ _ hz6 ?_
  · intro q1 x hf hk
    unfold fX2_crushWave_L6 at hf
    refine Go_iload (pc := 6) C dX2_crushWave_6 rfl ?_
    refine Go_aload_n (pc := 8) C dX2_crushWave_8 rfl ?_
    refine Go_get (pc := 9) C 2 5 rfl rfl inX1 (by decide) mw_117 rfl dX2_crushWave_9 ?_
    refine Go_icmp_ge (pc := 12) (tgt := 50) C dX2_crushWave_12 (by decide) (fun hc => ?_) (fun hc => ?_)
    · replace hf := ift hc hf
      obtain rfl := Option.some.inj hf
      exact Go_mask [true, true, true, true, true, true] hk
    · replace hf := iff' hc hf
      refine Go_aload_n (pc := 15) C dX2_crushWave_15 rfl ?_
      refine Go_aload_n (pc := 16) C dX2_crushWave_16 rfl ?_
      refine Go_iload (pc := 17) C dX2_crushWave_17 rfl ?_
      obtain ⟨r2, hr2, hf⟩ := bnd hf
      refine Go_callV1 (pc := 19) (ws1 := (w2 K a ((q1.2.2.1, s0.2)) ++ w1 K (sh a 2) ((s1.1, s1.2.1, s1.2.2.1, q1.2.2.2, s1.2.2.2.2)) ++ w0 K (sh a 8) s2)) C 8 [8, 9, 10, 11, 12, 2, 3, 4, 5, 6, 7] (kX0_isTooMuch l K (pk a [8, 9, 10, 11, 12, 2, 3, 4, 5, 6, 7]) s2 ((s1.1, s1.2.1, s1.2.2.1, q1.2.2.2, s1.2.2.2.2)) q1.2.1 r2 hr2) ycX0_isTooMuch mw_459 (Nat.le_of_ble_eq_true rfl) rfl rfl rfl rfl (Nat.le_of_ble_eq_true rfl) ⟨Nat.zero_le _, Nat.zero_le _⟩ dX2_crushWave_19 (ll_61 _ _ _ _ _) rfl rfl (Wr_same (ll_61 _ _ _ _ _)) ?_
      refine Go_if_eq (pc := 22) (tgt := 44) C dX2_crushWave_22 (by decide) (fun hc => ?_) (fun hc => ?_)
      · replace hf := ift hc hf
        obtain ⟨v3, hv3, hf⟩ := bnd hf
        refine Go_iinc (pc := 44) (v := v3) C dX2_crushWave_44 rfl (by rw [ci_1]; exact Option.some.inj hv3) ?_
        refine Go_goto (pc := 47) (tgt := 6) C dX2_crushWave_47 (by decide) ?_
        obtain rfl := Option.some.inj hf
        exact Go_mask [true, true, true, true, true, true] hk
      · replace hf := iff' hc hf
        refine Go_aload_n (pc := 25) C dX2_crushWave_25 rfl ?_
        refine Go_get (pc := 26) C 2 3 rfl rfl inX1 (by decide) mw_106 rfl dX2_crushWave_26 ?_
        refine Go_iload (pc := 29) C dX2_crushWave_29 rfl ?_
        refine Go_iconst (pc := 31) (v := 0) C dX2_crushWave_31 ci_0 ?_
        obtain ⟨hb, hf⟩ := ifs hf
        refine Go_iast (pc := 32) (ws1 := (w2 K a ((q1.2.2.1, s0.2)) ++ w1 K (sh a 2) ((s1.1, s1.2.1, s1.2.2.1, upd q1.2.2.2 q1.2.1.toNatClampNeg (0 : Int32), s1.2.2.2.2)) ++ w0 K (sh a 8) s2)) C 6 rfl (inb_in hb) dX2_crushWave_32 (ll_62 _ _ _ _ _ _) ?_
        refine Go_aload_n (pc := 33) C dX2_crushWave_33 rfl ?_
        refine Go_get (pc := 34) C 0 0 rfl rfl inX2 (by decide) mw_165 rfl dX2_crushWave_34 ?_
        refine Go_iload (pc := 37) C dX2_crushWave_37 rfl ?_
        refine Go_iload_n (pc := 39) C dX2_crushWave_39 rfl ?_
        obtain ⟨hb, hf⟩ := ifs hf
        refine Go_iast (pc := 40) (ws1 := (w2 K a ((upd q1.2.2.1 q1.2.1.toNatClampNeg p3, s0.2)) ++ w1 K (sh a 2) ((s1.1, s1.2.1, s1.2.2.1, upd q1.2.2.2 q1.2.1.toNatClampNeg (0 : Int32), s1.2.2.2.2)) ++ w0 K (sh a 8) s2)) C 1 rfl (inb_in hb) dX2_crushWave_40 (ll_63 _ _ _ _ _ _) ?_
        obtain ⟨v4, hv4, hf⟩ := bnd hf
        refine Go_iinc (pc := 41) (v := v4) C dX2_crushWave_41 rfl (by rw [ci_1]; exact Option.some.inj hv4) ?_
        obtain ⟨v5, hv5, hf⟩ := bnd hf
        refine Go_iinc (pc := 44) (v := v5) C dX2_crushWave_44 rfl (by rw [ci_1]; exact Option.some.inj hv5) ?_
        refine Go_goto (pc := 47) (tgt := 6) C dX2_crushWave_47 (by decide) ?_
        obtain rfl := Option.some.inj hf
        exact Go_mask [true, true, true, true, true, true] hk
  · show Go _ _ _ _ _ _ _ _ _ _ _ _ _ _ _ _ _ _ _ _ _
    refine Go_iload (pc := 50) C dX2_crushWave_50 rfl ?_
    obtain rfl := Option.some.inj hf
    exact Go_iret C hr rfl dX2_crushWave_52
theorem ll_64 (K : KK) (a : Nat → Nat) (t0 : S2) (t1 : S1) (t2 : S0) : ([0, 1] : List Nat).map (fun i => (w2 K a t0 ++ w1 K (sh a 2) t1 ++ w0 K (sh a 8) t2)[i]?) = List.map some (w2 K (pk a [0, 1]) t0) := rfl
theorem ll_65 (K : KK) (a : Nat → Nat) (t0 : S2) (t1 : S1) (t2 : S0) (y0 : S2) : Wr (w2 K a t0 ++ w1 K (sh a 2) t1 ++ w0 K (sh a 8) t2) [0, 1] (w2 K (pk a [0, 1]) y0) (w2 K a y0 ++ w1 K (sh a 2) t1 ++ w0 K (sh a 8) t2) := ⟨[2, 3, 4, 5, 6, 7, 8, 9, 10, 11, 12], 13, rfl, (show List.map (fun i => (w2 K a y0 ++ w1 K (sh a 2) t1 ++ w0 K (sh a 8) t2)[i]?) _ = ([some (a 2, .inr (1, [.ref (a 3), .ref (a 4), .ref (a 5), .ref (a 6), .ref (a 7), .int (t1.2.2.2.2.2)])), some (a 3, .inl (K.2.1, 96, .inl (t1.1))), some (a 4, .inl (K.2.1, 12, .inl (t1.2.1))), some (a 5, .inl (K.2.1, 12, .inl (t1.2.2.1))), some (a 6, .inl (K.2.1, 12, .inl (t1.2.2.2.1))), some (a 7, .inl (K.2.1, 21, .inl (t1.2.2.2.2.1))), some (a 8, .inr (0, [.ref (a 9), .ref (a 10), .ref (a 11), .ref (a 12)])), some (a 9, .inl (K.2.1, 96, .inl (t2.1))), some (a 10, .inl (K.2.1, 96, .inl (t2.2.1))), some (a 11, .inl (K.2.1, 12, .inl (t2.2.2.1))), some (a 12, .inl (K.2.1, 12, .inl (t2.2.2.2)))] : List (Option (Nat × va_E))) from rfl).trans (show List.map (fun i => (w2 K a t0 ++ w1 K (sh a 2) t1 ++ w0 K (sh a 8) t2)[i]?) _ = ([some (a 2, .inr (1, [.ref (a 3), .ref (a 4), .ref (a 5), .ref (a 6), .ref (a 7), .int (t1.2.2.2.2.2)])), some (a 3, .inl (K.2.1, 96, .inl (t1.1))), some (a 4, .inl (K.2.1, 12, .inl (t1.2.1))), some (a 5, .inl (K.2.1, 12, .inl (t1.2.2.1))), some (a 6, .inl (K.2.1, 12, .inl (t1.2.2.2.1))), some (a 7, .inl (K.2.1, 21, .inl (t1.2.2.2.2.1))), some (a 8, .inr (0, [.ref (a 9), .ref (a 10), .ref (a 11), .ref (a 12)])), some (a 9, .inl (K.2.1, 96, .inl (t2.1))), some (a 10, .inl (K.2.1, 96, .inl (t2.2.1))), some (a 11, .inl (K.2.1, 12, .inl (t2.2.2.1))), some (a 12, .inl (K.2.1, 12, .inl (t2.2.2.2)))] : List (Option (Nat × va_E))) from rfl).symm, rfl, by decide⟩
theorem ll_66 (K : KK) (a : Nat → Nat) (t0 : S2) (t1 : S1) (t2 : S0) (y0 : S0) : Wr (w2 K a t0 ++ w1 K (sh a 2) t1 ++ w0 K (sh a 8) t2) [8, 9, 10, 11, 12, 2, 3, 4, 5, 6, 7] (w0 K (pk a [8, 9, 10, 11, 12, 2, 3, 4, 5, 6, 7]) y0 ++ w1 K (sh (pk a [8, 9, 10, 11, 12, 2, 3, 4, 5, 6, 7]) 5) t1) (w2 K a t0 ++ w1 K (sh a 2) t1 ++ w0 K (sh a 8) y0) := ⟨[0, 1], 13, rfl, (show List.map (fun i => (w2 K a t0 ++ w1 K (sh a 2) t1 ++ w0 K (sh a 8) y0)[i]?) _ = ([some (a 0, .inr (2, [.ref (a 1), .int (t0.2)])), some (a 1, .inl (K.2.1, 12, .inl (t0.1)))] : List (Option (Nat × va_E))) from rfl).trans (show List.map (fun i => (w2 K a t0 ++ w1 K (sh a 2) t1 ++ w0 K (sh a 8) t2)[i]?) _ = ([some (a 0, .inr (2, [.ref (a 1), .int (t0.2)])), some (a 1, .inl (K.2.1, 12, .inl (t0.1)))] : List (Option (Nat × va_E))) from rfl).symm, rfl, by decide⟩
theorem ll_67 (K : KK) (a : Nat → Nat) (t0 : S2) (t1 : S1) (t2 : S0) : ((0 :: 1 :: 2 :: 3 :: 4 :: 5 :: 6 :: 7 :: 8 :: 9 :: 10 :: 11 :: 12 :: []) : List Nat).map (fun i => (w2 K a t0 ++ w1 K (sh a 2) t1 ++ w0 K (sh a 8) t2)[i]?) = List.map some (w2 K (pk a (0 :: 1 :: 2 :: 3 :: 4 :: 5 :: 6 :: 7 :: 8 :: 9 :: 10 :: 11 :: 12 :: [])) t0 ++ w1 K (sh (pk a (0 :: 1 :: 2 :: 3 :: 4 :: 5 :: 6 :: 7 :: 8 :: 9 :: 10 :: 11 :: 12 :: [])) 2) t1 ++ w0 K (sh (pk a (0 :: 1 :: 2 :: 3 :: 4 :: 5 :: 6 :: 7 :: 8 :: 9 :: 10 :: 11 :: 12 :: [])) 8) t2) := rfl
theorem ll_68 (K : KK) (a : Nat → Nat) (t0 : S2) (t1 : S1) (t2 : S0) (y0 : S2) (y1 : S1) : Wr (w2 K a t0 ++ w1 K (sh a 2) t1 ++ w0 K (sh a 8) t2) (0 :: 1 :: 2 :: 3 :: 4 :: 5 :: 6 :: 7 :: 8 :: 9 :: 10 :: 11 :: 12 :: []) (w2 K (pk a (0 :: 1 :: 2 :: 3 :: 4 :: 5 :: 6 :: 7 :: 8 :: 9 :: 10 :: 11 :: 12 :: [])) y0 ++ w1 K (sh (pk a (0 :: 1 :: 2 :: 3 :: 4 :: 5 :: 6 :: 7 :: 8 :: 9 :: 10 :: 11 :: 12 :: [])) 2) y1 ++ w0 K (sh (pk a (0 :: 1 :: 2 :: 3 :: 4 :: 5 :: 6 :: 7 :: 8 :: 9 :: 10 :: 11 :: 12 :: [])) 8) t2) (w2 K a y0 ++ w1 K (sh a 2) y1 ++ w0 K (sh a 8) t2) := ⟨[], 13, rfl, (show List.map (fun i => (w2 K a y0 ++ w1 K (sh a 2) y1 ++ w0 K (sh a 8) t2)[i]?) _ = ([] : List (Option (Nat × va_E))) from rfl).trans (show List.map (fun i => (w2 K a t0 ++ w1 K (sh a 2) t1 ++ w0 K (sh a 8) t2)[i]?) _ = ([] : List (Option (Nat × va_E))) from rfl).symm, rfl, by decide⟩
theorem ll_69 (K : KK) (a : Nat → Nat) (t0 : S2) (t1 : S1) (t2 : S0) (y : Int32) : List.set (w2 K a t0 ++ w1 K (sh a 2) t1 ++ w0 K (sh a 8) t2) 0 (a 0, .inr (2, List.set [.ref (a 1), .int (t0.2)] 1 (.int y))) = (w2 K a ((t0.1, y)) ++ w1 K (sh a 2) t1 ++ w0 K (sh a 8) t2) := rfl
def fX2_crush_L9  (q2 : Int32 × Int32 × S2 × S1 × S0) : Option ((Int32 × Int32 × S2 × S1 × S0) ⊕ (Int32 × Int32 × S2 × S1 × S0)) := (if (13 : Int32) < q2.2.1 then some (.inr (q2.1, q2.2.1, q2.2.2.1, q2.2.2.2.1, q2.2.2.2.2)) else Option.bind (fX0_lay q2.2.2.2.2 q2.2.2.2.1) (fun r3 => Option.bind (fX2_crushWave q2.2.2.1 q2.2.2.2.1 r3 q2.2.1) (fun r4 => (if r4.1 = 0 then some (.inr (q2.1, q2.2.1, r4.2.1, r4.2.2, r3)) else Option.bind (some (q2.1 + r4.1)) (fun v5 => Option.bind (some (q2.2.1 + (1 : Int32))) (fun v6 => some (.inl (v5, v6, (r4.2.1.1, q2.2.1), r4.2.2, r3))))))))
def fX2_crush (s0 : S2) (s1 : S1) (s2 : S0) : Option (Int32 × S2 × S1 × S0) := Option.bind (fX2_forget s0) (fun r1 => Option.bind (loopF (fX2_crush_L9) 5000 ((0 : Int32), (1 : Int32), r1, s1, s2)) (fun z7 => some (z7.1, z7.2.2.1, z7.2.2.2.1, z7.2.2.2.2)))
theorem ycX2_crush : CalV yX2_crush cX2_crush 6 ((some .int)) 2 := ⟨mw_453, mw_65, mw_451, mw_452, ⟨by decide, by decide, by decide +kernel⟩, by decide⟩
set_option maxHeartbeats 4000000 in
set_option maxRecDepth 100000 in
theorem kX2_crush (l : Launch) (K : KK) (a : Nat → Nat) (s0 : S2) (s1 : S1) (s2 : S0) (res : Int32 × S2 × S1 × S0) (hf : fX2_crush s0 s1 s2 = some res) : Ct l K yX2_crush cX2_crush 6 ((some .int)) 3 [.ref (a 0), .ref (a 2), .ref (a 8)] (w2 K a s0 ++ w1 K (sh a 2) s1 ++ w0 K (sh a 8) s2) (some (.int res.1)) (w2 K a res.2.1 ++ w1 K (sh a 2) res.2.2.1 ++ w0 K (sh a 8) res.2.2.2) := by
  refine Ct_of2 (by decide) rfl (Nat.le_of_ble_eq_true rfl) ?_
  intro p e σ m args below meth c C hr
  unfold fX2_crush at hf
  refine Go_aload_n (pc := 0) C dX2_crush_0 rfl ?_
  obtain ⟨r1, hr1, hf⟩ := bnd hf
  refine Go_callV0 (pc := 1) (ws1 := (w2 K a r1 ++ w1 K (sh a 2) s1 ++ w0 K (sh a 8) s2)) C 0 [0, 1] (kX2_forget l K (pk a [0, 1]) s0 r1 hr1) ycX2_forget mw_160 (Nat.le_of_ble_eq_true rfl) rfl rfl rfl rfl (Nat.le_of_ble_eq_true rfl) ⟨Nat.zero_le _, Nat.zero_le _⟩ dX2_crush_1 (ll_64 _ _ _ _ _) rfl rfl (ll_65 _ _ _ _ _ _) ?_
  refine Go_iconst (pc := 4) (v := 0) C dX2_crush_4 ci_0 ?_
  refine Go_istore_n (pc := 5) C dX2_crush_5 (by decide) ?_
  refine Go_iconst (pc := 6) (v := 1) C dX2_crush_6 ci_1 ?_
  refine Go_istore (pc := 7) C dX2_crush_7 (by decide) ?_
  obtain ⟨z7, hz7, hf⟩ := bnd hf
  refine Go_mask [true, true, true, true, true, false] ?_
  refine loopF_go (step := (fX2_crush_L9)) (fun q2 => Go p l e (rmc 3 0 0) σ m args below meth c K (inW (w2 K a s0 ++ w1 K (sh a 2) s1 ++ w0 K (sh a 8) s2)) σ.heap 6 0 0 (MQ below (CtQ K (w2 K a s0 ++ w1 K (sh a 2) s1 ++ w0 K (sh a 8) s2) (some (.int res.1)) (w2 K a res.2.1 ++ w1 K (sh a 2) res.2.2.1 ++ w0 K (sh a 8) res.2.2.2)) args σ 0 0 (inW (w2 K a s0 ++ w1 K (sh a 2) s1 ++ w0 K (sh a 8) s2))) (w2 K a q2.2.2.1 ++ w1 K (sh a 2) q2.2.2.2.1 ++ w0 K (sh a 8) q2.2.2.2.2) 9 [some (.ref (a 0)), some (.ref (a 2)), some (.ref (a 8)), some (.int q2.1), some (.int q2.2.1), none] []) (fun z7 => Go p l e (rmc 3 0 0) σ m args below meth c K (inW (w2 K a s0 ++ w1 K (sh a 2) s1 ++ w0 K (sh a 8) s2)) σ.heap 6 0 0 (MQ below (CtQ K (w2 K a s0 ++ w1 K (sh a 2) s1 ++ w0 K (sh a 8) s2) (some (.int res.1)) (w2 K a res.2.1 ++ w1 K (sh a 2) res.2.2.1 ++ w0 K (sh a 8) res.2.2.2)) args σ 0 0 (inW (w2 K a s0 ++ w1 K (sh a 2) s1 ++ w0 K (sh a 8) s2))) (w2 K a z7.2.2.1 ++ w1 K (sh a 2) z7.2.2.2.1 ++ w0 K (sh a 8) z7.2.2.2.2) 56 [some (.ref (a 0)), some (.ref (a 2)), some (.ref (a 8)), some (.int z7.1), some (.int z7.2.1), none] []) ?_ _ _ _ hz7 ?_
  · intro q2 x hf hk
    unfold fX2_crush_L9 at hf
    refine Go_iload (pc := 9) C dX2_crush_9 rfl ?_
    refine Go_bipush (pc := 11) (v := 13) C dX2_crush_11 cb_13 ?_
    refine Go_icmp_gt (pc := 13) (tgt := 56) C dX2_crush_13 (by decide) (fun hc => ?_) (fun hc => ?_)
    · replace hf := ift hc hf
      obtain rfl := Option.some.inj hf
      exact Go_mask [true, true, true, true, true, false] hk
    · replace hf := iff' hc hf
      refine Go_aload_n (pc := 16) C dX2_crush_16 rfl ?_
      refine Go_aload_n (pc := 17) C dX2_crush_17 rfl ?_
      obtain ⟨r3, hr3, hf⟩ := bnd hf
      refine Go_callV0 (pc := 18) (ws1 := (w2 K a q2.2.2.1 ++ w1 K (sh a 2) q2.2.2.2.1 ++ w0 K (sh a 8) r3)) C 8 [8, 9, 10, 11, 12, 2, 3, 4, 5, 6, 7] (kX0_lay l K (pk a [8, 9, 10, 11, 12, 2, 3, 4, 5, 6, 7]) q2.2.2.2.2 q2.2.2.2.1 r3 hr3) ycX0_lay mw_454 (Nat.le_of_ble_eq_true rfl) rfl rfl rfl rfl (Nat.le_of_ble_eq_true rfl) ⟨Nat.zero_le _, Nat.zero_le _⟩ dX2_crush_18 (ll_61 _ _ _ _ _) rfl rfl (ll_66 _ _ _ _ _ _) ?_
      refine Go_aload_n (pc := 21) C dX2_crush_21 rfl ?_
      refine Go_aload_n (pc := 22) C dX2_crush_22 rfl ?_
      refine Go_aload_n (pc := 23) C dX2_crush_23 rfl ?_
      refine Go_iload (pc := 24) C dX2_crush_24 rfl ?_
      obtain ⟨r4, hr4, hf⟩ := bnd hf
      refine Go_callV1 (pc := 26) (ws1 := (w2 K a r4.2.1 ++ w1 K (sh a 2) r4.2.2 ++ w0 K (sh a 8) r3)) C 0 (0 :: 1 :: 2 :: 3 :: 4 :: 5 :: 6 :: 7 :: 8 :: 9 :: 10 :: 11 :: 12 :: []) (kX2_crushWave l K (pk a (0 :: 1 :: 2 :: 3 :: 4 :: 5 :: 6 :: 7 :: 8 :: 9 :: 10 :: 11 :: 12 :: [])) q2.2.2.1 q2.2.2.2.1 r3 q2.2.1 r4 hr4) ycX2_crushWave mw_455 (Nat.le_of_ble_eq_true rfl) rfl rfl rfl rfl (Nat.le_of_ble_eq_true rfl) ⟨Nat.zero_le _, Nat.zero_le _⟩ dX2_crush_26 (ll_67 _ _ _ _ _) rfl rfl (ll_68 _ _ _ _ _ _ _) ?_
      refine Go_istore (pc := 29) C dX2_crush_29 (by decide) ?_
      refine Go_iload (pc := 31) C dX2_crush_31 rfl ?_
      refine Go_if_ne (pc := 33) (tgt := 39) C dX2_crush_33 (by decide) (fun hc => ?_) (fun hc => ?_)
      · replace hf := ift hc hf
        refine Go_goto (pc := 36) (tgt := 56) C dX2_crush_36 (by decide) ?_
        obtain rfl := Option.some.inj hf
        exact Go_mask [true, true, true, true, true, false] hk
      · replace hf := iff' hc hf
        refine Go_iload_n (pc := 39) C dX2_crush_39 rfl ?_
        refine Go_iload (pc := 40) C dX2_crush_40 rfl ?_
        refine Go_iadd (pc := 42) C dX2_crush_42 ?_
        obtain ⟨v5, hv5, hf⟩ := bnd hf
        refine Go_topi (Option.some.inj hv5) ?_
        refine Go_istore_n (pc := 43) C dX2_crush_43 (by decide) ?_
        refine Go_aload_n (pc := 44) C dX2_crush_44 rfl ?_
        refine Go_iload (pc := 45) C dX2_crush_45 rfl ?_
        refine Go_put (pc := 47) (ws1 := (w2 K a ((r4.2.1.1, q2.2.1)) ++ w1 K (sh a 2) r4.2.2 ++ w0 K (sh a 8) r3)) C 0 1 tyX2 tyX2_ok nmX2 rfl rfl inX2 (by decide) mw_167 rfl rfl (Nat.le_of_ble_eq_true rfl) dX2_crush_47 (ll_69 _ _ _ _ _ _) ?_
        obtain ⟨v6, hv6, hf⟩ := bnd hf
        refine Go_iinc (pc := 50) (v := v6) C dX2_crush_50 rfl (by rw [ci_1]; exact Option.some.inj hv6) ?_
        refine Go_goto (pc := 53) (tgt := 9) C dX2_crush_53 (by decide) ?_
        obtain rfl := Option.some.inj hf
        exact Go_mask [true, true, true, true, true, false] hk
  · show Go _ _ _ _ _ _ _ _ _ _ _ _ _ _ _ _ _ _ _ _ _
    refine Go_iload_n (pc := 56) C dX2_crush_56 rfl ?_
    obtain rfl := Option.some.inj hf
    exact Go_iret C hr rfl dX2_crush_57
def fX2_countInWave_L4 (s0 : S2) (p1 : Int32) (q1 : Int32 × Int32) : Option ((Int32 × Int32) ⊕ (Int32 × Int32)) := (if (12 : Int32) ≤ q1.2 then some (.inr (q1.1, q1.2)) else (if 0 ≤ q1.2 ∧ q1.2.toNatClampNeg < 12 then (if (s0.1 q1.2.toNatClampNeg) = p1 then Option.bind (some (q1.1 + (1 : Int32))) (fun v2 => Option.bind (some (q1.2 + (1 : Int32))) (fun v3 => some (.inl (v2, v3)))) else Option.bind (some (q1.2 + (1 : Int32))) (fun v4 => some (.inl (q1.1, v4)))) else none))
def fX2_countInWave (s0 : S2) (p1 : Int32) : Option (Int32) := Option.bind (loopF (fX2_countInWave_L4 s0 p1) 5000 ((0 : Int32), (0 : Int32))) (fun z5 => some z5.1)
theorem ycX2_countInWave : CalV yX2_countInWave cX2_countInWave 4 ((some .int)) 1 := ⟨mw_471, mw_65, mw_469, mw_470, ⟨by decide, by decide, by decide +kernel⟩, by decide⟩
set_option maxHeartbeats 4000000 in
set_option maxRecDepth 100000 in
theorem kX2_countInWave (l : Launch) (K : KK) (a : Nat → Nat) (s0 : S2) (p1 : Int32) (res : Int32) (hf : fX2_countInWave s0 p1 = some res) : Ct l K yX2_countInWave cX2_countInWave 4 ((some .int)) 0 [.ref (a 0), .int p1] (w2 K a s0) (some (.int res)) (w2 K a s0) := by
  refine Ct_of2 (by decide) rfl (Nat.le_of_ble_eq_true rfl) ?_
  intro p e σ m args below meth c C hr
  unfold fX2_countInWave at hf
  refine Go_iconst (pc := 0) (v := 0) C dX2_countInWave_0 ci_0 ?_
  refine Go_istore_n (pc := 1) C dX2_countInWave_1 (by decide) ?_
  refine Go_iconst (pc := 2) (v := 0) C dX2_countInWave_2 ci_0 ?_
  refine Go_istore_n (pc := 3) C dX2_countInWave_3 (by decide) ?_
  obtain ⟨z5, hz5, hf⟩ := bnd hf
  refine Go_mask [true, true, true, true] ?_
  refine loopF_go (step := (fX2_countInWave_L4 s0 p1)) (fun q1 => Go p l e (rmc 0 0 0) σ m args below meth c K (inW (w2 K a s0)) σ.heap 4 0 0 (MQ below (CtQ K (w2 K a s0) (some (.int res)) (w2 K a s0)) args σ 0 0 (inW (w2 K a s0))) (w2 K a s0) 4 [some (.ref (a 0)), some (.int p1), some (.int q1.1), some (.int q1.2)] []) (fun z5 => Go p l e (rmc 0 0 0) σ m args below meth c K (inW (w2 K a s0)) σ.heap 4 0 0 (MQ below (CtQ K (w2 K a s0) (some (.int res)) (w2 K a s0)) args σ 0 0 (inW (w2 K a s0))) (w2 K a s0) 29 [some (.ref (a 0)), some (.int p1), some (.int z5.1), some (.int z5.2)] []) ?_ _ _ _ hz5 ?_
  · intro q1 x hf hk
    unfold fX2_countInWave_L4 at hf
    refine Go_iload_n (pc := 4) C dX2_countInWave_4 rfl ?_
    refine Go_bipush (pc := 5) (v := 12) C dX2_countInWave_5 cb_12 ?_
    refine Go_icmp_ge (pc := 7) (tgt := 29) C dX2_countInWave_7 (by decide) (fun hc => ?_) (fun hc => ?_)
    · replace hf := ift hc hf
      obtain rfl := Option.some.inj hf
      exact Go_mask [true, true, true, true] hk
    · replace hf := iff' hc hf
      refine Go_aload_n (pc := 10) C dX2_countInWave_10 rfl ?_
      refine Go_get (pc := 11) C 0 0 rfl rfl inX2 (by decide) mw_165 rfl dX2_countInWave_11 ?_
      refine Go_iload_n (pc := 14) C dX2_countInWave_14 rfl ?_
      obtain ⟨hb, hf⟩ := ifs hf
      refine Go_iald (pc := 15) C 1 rfl (inb_in hb) dX2_countInWave_15 ?_
      refine Go_iload_n (pc := 16) C dX2_countInWave_16 rfl ?_
      refine Go_icmp_ne (pc := 17) (tgt := 23) C dX2_countInWave_17 (by decide) (fun hc => ?_) (fun hc => ?_)
      · replace hf := ift hc hf
        obtain ⟨v2, hv2, hf⟩ := bnd hf
        refine Go_iinc (pc := 20) (v := v2) C dX2_countInWave_20 rfl (by rw [ci_1]; exact Option.some.inj hv2) ?_
        obtain ⟨v3, hv3, hf⟩ := bnd hf
        refine Go_iinc (pc := 23) (v := v3) C dX2_countInWave_23 rfl (by rw [ci_1]; exact Option.some.inj hv3) ?_
        refine Go_goto (pc := 26) (tgt := 4) C dX2_countInWave_26 (by decide) ?_
        obtain rfl := Option.some.inj hf
        exact Go_mask [true, true, true, true] hk
      · replace hf := iff' hc hf
        obtain ⟨v4, hv4, hf⟩ := bnd hf
        refine Go_iinc (pc := 23) (v := v4) C dX2_countInWave_23 rfl (by rw [ci_1]; exact Option.some.inj hv4) ?_
        refine Go_goto (pc := 26) (tgt := 4) C dX2_countInWave_26 (by decide) ?_
        obtain rfl := Option.some.inj hf
        exact Go_mask [true, true, true, true] hk
  · show Go _ _ _ _ _ _ _ _ _ _ _ _ _ _ _ _ _ _ _ _ _
    refine Go_iload_n (pc := 29) C dX2_countInWave_29 rfl ?_
    obtain rfl := Option.some.inj hf
    exact Go_iret C hr rfl dX2_countInWave_30
theorem ll_95 (K : KK) (a : Nat → Nat) (t0 : S2) (t1 : S2) (y : Int32) : List.set (w2 K a t0 ++ w2 K (sh a 2) t1) 0 (a 0, .inr (2, List.set [.ref (a 1), .int (t0.2)] 1 (.int y))) = (w2 K a ((t0.1, y)) ++ w2 K (sh a 2) t1) := rfl
def fX2_copy (s0 : S2) (s1 : S2) : Option (S2) := some ((va_cpy s1.1 s0.1 (0 : Int32).toNatClampNeg (0 : Int32).toNatClampNeg (12 : Int32).toNatClampNeg, s1.2))
theorem ycX2_copy : CalV yX2_copy cX2_copy 2 none 1 := ⟨mw_547, mw_65, mw_545, mw_546, ⟨by decide, by decide, by decide +kernel⟩, by decide⟩
set_option maxHeartbeats 4000000 in
set_option maxRecDepth 100000 in
theorem kX2_copy (l : Launch) (K : KK) (a : Nat → Nat) (s0 : S2) (s1 : S2) (res : S2) (hf : fX2_copy s0 s1 = some res) : Ct l K yX2_copy cX2_copy 2 none 1 [.ref (a 0), .ref (a 2)] (w2 K a s0 ++ w2 K (sh a 2) s1) (none) (w2 K a res ++ w2 K (sh a 2) s1) := by
  refine Ct_of2 (by decide) rfl (Nat.le_of_ble_eq_true rfl) ?_
  intro p e σ m args below meth c C hr
  unfold fX2_copy at hf
  refine Go_aload_n (pc := 0) C dX2_copy_0 rfl ?_
  refine Go_get (pc := 1) C 2 0 rfl rfl inX2 (by decide) mw_165 rfl dX2_copy_1 ?_
  refine Go_iconst (pc := 4) (v := 0) C dX2_copy_4 ci_0 ?_
  refine Go_aload_n (pc := 5) C dX2_copy_5 rfl ?_
  refine Go_get (pc := 6) C 0 0 rfl rfl inX2 (by decide) mw_165 rfl dX2_copy_6 ?_
  refine Go_iconst (pc := 9) (v := 0) C dX2_copy_9 ci_0 ?_
  refine Go_bipush (pc := 10) (v := 12) C dX2_copy_10 cb_12 ?_
  refine Go_copyi (pc := 12) (ws1 := (w2 K a ((va_cpy s1.1 s0.1 (0 : Int32).toNatClampNeg (0 : Int32).toNatClampNeg (12 : Int32).toNatClampNeg, s0.2)) ++ w2 K (sh a 2) s1)) C 3 1 mw_548 rfl rfl (by decide) (by decide) (by decide) (by decide) (by decide) (Nat.le_of_ble_eq_true rfl) (Nat.le_of_ble_eq_true rfl) dX2_copy_12 rfl ?_
  refine Go_aload_n (pc := 15) C dX2_copy_15 rfl ?_
  refine Go_aload_n (pc := 16) C dX2_copy_16 rfl ?_
  refine Go_get (pc := 17) C 2 1 rfl rfl inX2 (by decide) mw_167 rfl dX2_copy_17 ?_
  refine Go_put (pc := 20) (ws1 := (w2 K a ((va_cpy s1.1 s0.1 (0 : Int32).toNatClampNeg (0 : Int32).toNatClampNeg (12 : Int32).toNatClampNeg, s1.2)) ++ w2 K (sh a 2) s1)) C 0 1 tyX2 tyX2_ok nmX2 rfl rfl inX2 (by decide) mw_167 rfl rfl (Nat.le_of_ble_eq_true rfl) dX2_copy_20 (ll_95 _ _ _ _ _) ?_
  obtain rfl := Option.some.inj hf
  exact Go_vret C hr rfl dX2_copy_23
