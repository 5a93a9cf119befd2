theorem ll_1 (K : KK) (a : Nat → Nat) (t0 : S1) : ([1] : List Nat).map (fun i => (w1 K a t0)[i]?) = List.map some (wA K (pk a [1]) 96 t0.1) := rfl
theorem ll_2 (K : KK) (a : Nat → Nat) (t0 : S1) (y0 : (Nat → Int32)) : Wr (w1 K a t0) [1] (wA K (pk a [1]) 96 y0) (w1 K a ((y0, t0.2))) := ⟨[0, 2, 3, 4, 5], 6, rfl, (show List.map (fun i => (w1 K a ((y0, t0.2)))[i]?) _ = ([some (a 0, .inr (1, [.ref (a 1), .ref (a 2), .ref (a 3), .ref (a 4), .ref (a 5), .int (t0.2.2.2.2.2)])), some (a 2, .inl (K.2.1, 12, .inl (t0.2.1))), some (a 3, .inl (K.2.1, 12, .inl (t0.2.2.1))), some (a 4, .inl (K.2.1, 12, .inl (t0.2.2.2.1))), some (a 5, .inl (K.2.1, 21, .inl (t0.2.2.2.2.1)))] : List (Option (Nat × va_E))) from rfl).trans (show List.map (fun i => (w1 K a t0)[i]?) _ = ([some (a 0, .inr (1, [.ref (a 1), .ref (a 2), .ref (a 3), .ref (a 4), .ref (a 5), .int (t0.2.2.2.2.2)])), some (a 2, .inl (K.2.1, 12, .inl (t0.2.1))), some (a 3, .inl (K.2.1, 12, .inl (t0.2.2.1))), some (a 4, .inl (K.2.1, 12, .inl (t0.2.2.2.1))), some (a 5, .inl (K.2.1, 21, .inl (t0.2.2.2.2.1)))] : List (Option (Nat × va_E))) from rfl).symm, rfl, by decide⟩
theorem ll_3 (K : KK) (a : Nat → Nat) (t0 : S1) : ([5] : List Nat).map (fun i => (w1 K a t0)[i]?) = List.map some (wA K (pk a [5]) 21 t0.2.2.2.2.1) := rfl
theorem ll_4 (K : KK) (a : Nat → Nat) (t0 : S1) (y0 : (Nat → Int32)) : Wr (w1 K a t0) [5] (wA K (pk a [5]) 21 y0) (w1 K a ((t0.1, t0.2.1, t0.2.2.1, t0.2.2.2.1, y0, t0.2.2.2.2.2))) := ⟨[0, 1, 2, 3, 4], 6, rfl, (show List.map (fun i => (w1 K a ((t0.1, t0.2.1, t0.2.2.1, t0.2.2.2.1, y0, t0.2.2.2.2.2)))[i]?) _ = ([some (a 0, .inr (1, [.ref (a 1), .ref (a 2), .ref (a 3), .ref (a 4), .ref (a 5), .int (t0.2.2.2.2.2)])), some (a 1, .inl (K.2.1, 96, .inl (t0.1))), some (a 2, .inl (K.2.1, 12, .inl (t0.2.1))), some (a 3, .inl (K.2.1, 12, .inl (t0.2.2.1))), some (a 4, .inl (K.2.1, 12, .inl (t0.2.2.2.1)))] : List (Option (Nat × va_E))) from rfl).trans (show List.map (fun i => (w1 K a t0)[i]?) _ = ([some (a 0, .inr (1, [.ref (a 1), .ref (a 2), .ref (a 3), .ref (a 4), .ref (a 5), .int (t0.2.2.2.2.2)])), some (a 1, .inl (K.2.1, 96, .inl (t0.1))), some (a 2, .inl (K.2.1, 12, .inl (t0.2.1))), some (a 3, .inl (K.2.1, 12, .inl (t0.2.2.1))), some (a 4, .inl (K.2.1, 12, .inl (t0.2.2.2.1)))] : List (Option (Nat × va_E))) from rfl).symm, rfl, by decide⟩
theorem ll_5 (K : KK) (a : Nat → Nat) (t0 : S1) (y : Int32) : List.set (w1 K a t0) 0 (a 0, .inr (1, List.set [.ref (a 1), .ref (a 2), .ref (a 3), .ref (a 4), .ref (a 5), .int (t0.2.2.2.2.2)] 5 (.int y))) = (w1 K a ((t0.1, t0.2.1, t0.2.2.1, t0.2.2.2.1, t0.2.2.2.2.1, y))) := rfl
def fX1_reset (s0 : S1) : Option (S1) := Option.bind (fJ7_fill_53178 96 s0.1 (1 : Int32)) (fun r1 => Option.bind (fJ7_fill_53178 21 s0.2.2.2.2.1 (0 : Int32)) (fun r2 => some ((r1, s0.2.1, s0.2.2.1, s0.2.2.2.1, r2, (0 : Int32)))))
theorem ycX1_reset : CalV yX1_reset cX1_reset 1 none 0 := ⟨mw_89, mw_62, mw_87, mw_88, ⟨by decide, by decide, by decide +kernel⟩, by decide⟩
set_option maxHeartbeats 4000000 in
set_option maxRecDepth 100000 in
theorem kX1_reset (l : Launch) (K : KK) (a : Nat → Nat) (s0 : S1) (res : S1) (hf : fX1_reset s0 = some res) : Ct l K yX1_reset cX1_reset 1 none 1 [.ref (a 0)] (w1 K a s0) (none) (w1 K a res) := by
  refine Ct_of2 (by decide) rfl (Nat.le_of_ble_eq_true rfl) ?_
  intro p e σ m args below meth c C hr
  unfold fX1_reset at hf
  refine Go_aload_n (pc := 0) C dX1_reset_0 rfl ?_
  refine Go_get (pc := 1) C 0 0 rfl rfl inX1 (by decide) mw_93 rfl dX1_reset_1 ?_
  refine Go_iconst (pc := 4) (v := 1) C dX1_reset_4 ci_1 ?_
  obtain ⟨r1, hr1, hf⟩ := bnd hf
  refine Go_callS0 (pc := 5) (ws1 := (w1 K a ((r1, s0.2)))) C [1] (kJ7_fill_53178 l K (pk a [1]) 96 s0.1 (1 : Int32) r1 hr1) ycJ7_fill_53178 mw_90 (Nat.le_of_ble_eq_true rfl) rfl rfl (Nat.le_of_ble_eq_true rfl) ⟨Nat.zero_le _, Nat.zero_le _⟩ dX1_reset_5 (ll_1 _ _ _) rfl rfl (ll_2 _ _ _ _) ?_
  refine Go_aload_n (pc := 8) C dX1_reset_8 rfl ?_
  refine Go_get (pc := 9) C 0 4 rfl rfl inX1 (by decide) mw_109 rfl dX1_reset_9 ?_
  refine Go_iconst (pc := 12) (v := 0) C dX1_reset_12 ci_0 ?_
  obtain ⟨r2, hr2, hf⟩ := bnd hf
  refine Go_callS0 (pc := 13) (ws1 := (w1 K a ((r1, s0.2.1, s0.2.2.1, s0.2.2.2.1, r2, s0.2.2.2.2.2)))) C [5] (kJ7_fill_53178 l K (pk a [5]) 21 s0.2.2.2.2.1 (0 : Int32) r2 hr2) ycJ7_fill_53178 mw_90 (Nat.le_of_ble_eq_true rfl) rfl rfl (Nat.le_of_ble_eq_true rfl) ⟨Nat.zero_le _, Nat.zero_le _⟩ dX1_reset_13 (ll_3 _ _ _) rfl rfl (ll_4 _ _ _ _) ?_
  refine Go_aload_n (pc := 16) C dX1_reset_16 rfl ?_
  refine Go_iconst (pc := 17) (v := 0) C dX1_reset_17 ci_0 ?_
  refine Go_put (pc := 18) (ws1 := (w1 K a ((r1, s0.2.1, s0.2.2.1, s0.2.2.2.1, r2, (0 : Int32))))) C 0 5 tyX1 tyX1_ok nmX1 rfl rfl inX1 (by decide) mw_113 rfl rfl (Nat.le_of_ble_eq_true rfl) dX1_reset_18 (ll_5 _ _ _ _) ?_
  obtain rfl := Option.some.inj hf
  exact Go_vret C hr rfl dX1_reset_21
def fX1_hasPillarOn_L2 (s0 : S1) (p1 : Int32) (q1 : Int32) : Option ((Int32) ⊕ ((Int32) ⊕ (Int32))) := (if s0.2.2.2.2.2 ≤ q1 then some (.inr (.inl q1)) else (if 0 ≤ q1 ∧ q1.toNatClampNeg < 12 then (if (s0.2.1 q1.toNatClampNeg) = p1 then some (.inr (.inr (1 : Int32))) else Option.bind (some (q1 + (1 : Int32))) (fun v2 => some (.inl v2))) else none))
def fX1_hasPillarOn (s0 : S1) (p1 : Int32) : Option (Int32) := Option.bind (loopF (fX1_hasPillarOn_L2 s0 p1) 5000 (0 : Int32)) (fun z3 => Sum.elim (fun z3e => some (0 : Int32)) (fun r => some r) z3)
theorem ycX1_hasPillarOn : CalV yX1_hasPillarOn cX1_hasPillarOn 3 ((some .boolean)) 1 := ⟨mw_285, mw_62, mw_283, mw_284, ⟨by decide, by decide, by decide +kernel⟩, by decide⟩
set_option maxHeartbeats 4000000 in
set_option maxRecDepth 100000 in
theorem kX1_hasPillarOn (l : Launch) (K : KK) (a : Nat → Nat) (s0 : S1) (p1 : Int32) (res : Int32) (hf : fX1_hasPillarOn s0 p1 = some res) : Ct l K yX1_hasPillarOn cX1_hasPillarOn 3 ((some .boolean)) 0 [.ref (a 0), .int p1] (w1 K a s0) (some (.int res)) (w1 K a s0) := by
  refine Ct_of2 (by decide) rfl (Nat.le_of_ble_eq_true rfl) ?_
  intro p e σ m args below meth c C hr
  unfold fX1_hasPillarOn at hf
  refine Go_iconst (pc := 0) (v := 0) C dX1_hasPillarOn_0 ci_0 ?_
  refine Go_istore_n (pc := 1) C dX1_hasPillarOn_1 (by decide) ?_
  obtain ⟨z3, hz3, hf⟩ := bnd hf
  refine Go_mask [true, true, true] ?_
  refine loopF_go (step := (fX1_hasPillarOn_L2 s0 p1)) (fun q1 => Go p l e (rmc 0 0 0) σ m args below meth c K (inW (w1 K a s0)) σ.heap 3 0 0 (MQ below (CtQ K (w1 K a s0) (some (.int res)) (w1 K a s0)) args σ 0 0 (inW (w1 K a s0))) (w1 K a s0) 2 [some (.ref (a 0)), some (.int p1), some (.int q1)] []) (fun y => Sum.elim (fun z3e => Go p l e (rmc 0 0 0) σ m args below meth c K (inW (w1 K a s0)) σ.heap 3 0 0 (MQ below (CtQ K (w1 K a s0) (some (.int res)) (w1 K a s0)) args σ 0 0 (inW (w1 K a s0))) (w1 K a s0) 28 [some (.ref (a 0)), some (.int p1), some (.int z3e)] []) (fun r => r = res) y) ?_ _ _ _ hz3 ?_
  · intro q1 x hf hk
    unfold fX1_hasPillarOn_L2 at hf
    refine Go_iload_n (pc := 2) C dX1_hasPillarOn_2 rfl ?_
    refine Go_aload_n (pc := 3) C dX1_hasPillarOn_3 rfl ?_
    refine Go_get (pc := 4) C 0 5 rfl rfl inX1 (by decide) mw_113 rfl dX1_hasPillarOn_4 ?_
    refine Go_icmp_ge (pc := 7) (tgt := 28) C dX1_hasPillarOn_7 (by decide) (fun hc => ?_) (fun hc => ?_)
    · replace hf := ift hc hf
      obtain rfl := Option.some.inj hf
      exact Go_mask [true, true, true] hk
    · replace hf := iff' hc hf
      refine Go_aload_n (pc := 10) C dX1_hasPillarOn_10 rfl ?_
      refine Go_get (pc := 11) C 0 1 rfl rfl inX1 (by decide) mw_97 rfl dX1_hasPillarOn_11 ?_
      refine Go_iload_n (pc := 14) C dX1_hasPillarOn_14 rfl ?_
      obtain ⟨hb, hf⟩ := ifs hf
      refine Go_iald (pc := 15) C 2 rfl (inb_in hb) dX1_hasPillarOn_15 ?_
      refine Go_iload_n (pc := 16) C dX1_hasPillarOn_16 rfl ?_
      refine Go_icmp_ne (pc := 17) (tgt := 22) C dX1_hasPillarOn_17 (by decide) (fun hc => ?_) (fun hc => ?_)
      · replace hf := ift hc hf
        refine Go_iconst (pc := 20) (v := 1) C dX1_hasPillarOn_20 ci_1 ?_
        obtain rfl := Option.some.inj hf
        have hf := hk
        obtain rfl : (1 : Int32) = res := hf
        exact Go_zret C hr (Or.inr rfl) rfl dX1_hasPillarOn_21
      · replace hf := iff' hc hf
        obtain ⟨v2, hv2, hf⟩ := bnd hf
        refine Go_iinc (pc := 22) (v := v2) C dX1_hasPillarOn_22 rfl (by rw [ci_1]; exact Option.some.inj hv2) ?_
        refine Go_goto (pc := 25) (tgt := 2) C dX1_hasPillarOn_25 (by decide) ?_
        obtain rfl := Option.some.inj hf
        exact Go_mask [true, true, true] hk
  · rcases z3 with z3e | r
    · show Go _ _ _ _ _ _ _ _ _ _ _ _ _ _ _ _ _ _ _ _ _
      refine Go_iconst (pc := 28) (v := 0) C dX1_hasPillarOn_28 ci_0 ?_
      obtain rfl := Option.some.inj hf
      exact Go_zret C hr (Or.inl rfl) rfl dX1_hasPillarOn_29
    · exact Option.some.inj hf
theorem ll_10 (K : KK) (a : Nat → Nat) (t0 : S1) (t1 : S1) (y : Int32) : List.set (w1 K a t0 ++ w1 K (sh a 6) t1) 0 (a 0, .inr (1, List.set [.ref (a 1), .ref (a 2), .ref (a 3), .ref (a 4), .ref (a 5), .int (t0.2.2.2.2.2)] 5 (.int y))) = (w1 K a ((t0.1, t0.2.1, t0.2.2.1, t0.2.2.2.1, t0.2.2.2.2.1, y)) ++ w1 K (sh a 6) t1) := rfl
def fX1_copy (s0 : S1) (s1 : S1) : Option (S1) := some ((va_cpy s1.1 s0.1 (0 : Int32).toNatClampNeg (0 : Int32).toNatClampNeg (96 : Int32).toNatClampNeg, va_cpy s1.2.1 s0.2.1 (0 : Int32).toNatClampNeg (0 : Int32).toNatClampNeg (12 : Int32).toNatClampNeg, va_cpy s1.2.2.1 s0.2.2.1 (0 : Int32).toNatClampNeg (0 : Int32).toNatClampNeg (12 : Int32).toNatClampNeg, va_cpy s1.2.2.2.1 s0.2.2.2.1 (0 : Int32).toNatClampNeg (0 : Int32).toNatClampNeg (12 : Int32).toNatClampNeg, va_cpy s1.2.2.2.2.1 s0.2.2.2.2.1 (0 : Int32).toNatClampNeg (0 : Int32).toNatClampNeg (21 : Int32).toNatClampNeg, s1.2.2.2.2.2))
theorem ycX1_copy : CalV yX1_copy cX1_copy 2 none 1 := ⟨mw_293, mw_62, mw_291, mw_292, ⟨by decide, by decide, by decide +kernel⟩, by decide⟩
set_option maxHeartbeats 4000000 in
set_option maxRecDepth 100000 in
theorem kX1_copy (l : Launch) (K : KK) (a : Nat → Nat) (s0 : S1) (s1 : S1) (res : S1) (hf : fX1_copy s0 s1 = some res) : Ct l K yX1_copy cX1_copy 2 none 1 [.ref (a 0), .ref (a 6)] (w1 K a s0 ++ w1 K (sh a 6) s1) (none) (w1 K a res ++ w1 K (sh a 6) s1) := by
  refine Ct_of2 (by decide) rfl (Nat.le_of_ble_eq_true rfl) ?_
  intro p e σ m args below meth c C hr
  unfold fX1_copy at hf
  refine Go_aload_n (pc := 0) C dX1_copy_0 rfl ?_
  refine Go_get (pc := 1) C 6 0 rfl rfl inX1 (by decide) mw_93 rfl dX1_copy_1 ?_
  refine Go_iconst (pc := 4) (v := 0) C dX1_copy_4 ci_0 ?_
  refine Go_aload_n (pc := 5) C dX1_copy_5 rfl ?_
  refine Go_get (pc := 6) C 0 0 rfl rfl inX1 (by decide) mw_93 rfl dX1_copy_6 ?_
  refine Go_iconst (pc := 9) (v := 0) C dX1_copy_9 ci_0 ?_
  refine Go_bipush (pc := 10) (v := 96) C dX1_copy_10 cb_96 ?_
  refine Go_copyi (pc := 12) (ws1 := (w1 K a ((va_cpy s1.1 s0.1 (0 : Int32).toNatClampNeg (0 : Int32).toNatClampNeg (96 : Int32).toNatClampNeg, s0.2)) ++ w1 K (sh a 6) s1)) C 7 1 mw_294 rfl rfl (by decide) (by decide) (by decide) (by decide) (by decide) (Nat.le_of_ble_eq_true rfl) (Nat.le_of_ble_eq_true rfl) dX1_copy_12 rfl ?_
  refine Go_aload_n (pc := 15) C dX1_copy_15 rfl ?_
  refine Go_get (pc := 16) C 6 1 rfl rfl inX1 (by decide) mw_97 rfl dX1_copy_16 ?_
  refine Go_iconst (pc := 19) (v := 0) C dX1_copy_19 ci_0 ?_
  refine Go_aload_n (pc := 20) C dX1_copy_20 rfl ?_
  refine Go_get (pc := 21) C 0 1 rfl rfl inX1 (by decide) mw_97 rfl dX1_copy_21 ?_
  refine Go_iconst (pc := 24) (v := 0) C dX1_copy_24 ci_0 ?_
  refine Go_bipush (pc := 25) (v := 12) C dX1_copy_25 cb_12 ?_
  refine Go_copyi (pc := 27) (ws1 := (w1 K a ((va_cpy s1.1 s0.1 (0 : Int32).toNatClampNeg (0 : Int32).toNatClampNeg (96 : Int32).toNatClampNeg, va_cpy s1.2.1 s0.2.1 (0 : Int32).toNatClampNeg (0 : Int32).toNatClampNeg (12 : Int32).toNatClampNeg, s0.2.2)) ++ w1 K (sh a 6) s1)) C 8 2 mw_294 rfl rfl (by decide) (by decide) (by decide) (by decide) (by decide) (Nat.le_of_ble_eq_true rfl) (Nat.le_of_ble_eq_true rfl) dX1_copy_27 rfl ?_
  refine Go_aload_n (pc := 30) C dX1_copy_30 rfl ?_
  refine Go_get (pc := 31) C 6 2 rfl rfl inX1 (by decide) mw_100 rfl dX1_copy_31 ?_
  refine Go_iconst (pc := 34) (v := 0) C dX1_copy_34 ci_0 ?_
  refine Go_aload_n (pc := 35) C dX1_copy_35 rfl ?_
  refine Go_get (pc := 36) C 0 2 rfl rfl inX1 (by decide) mw_100 rfl dX1_copy_36 ?_
  refine Go_iconst (pc := 39) (v := 0) C dX1_copy_39 ci_0 ?_
  refine Go_bipush (pc := 40) (v := 12) C dX1_copy_40 cb_12 ?_
  refine Go_copyi (pc := 42) (ws1 := (w1 K a ((va_cpy s1.1 s0.1 (0 : Int32).toNatClampNeg (0 : Int32).toNatClampNeg (96 : Int32).toNatClampNeg, va_cpy s1.2.1 s0.2.1 (0 : Int32).toNatClampNeg (0 : Int32).toNatClampNeg (12 : Int32).toNatClampNeg, va_cpy s1.2.2.1 s0.2.2.1 (0 : Int32).toNatClampNeg (0 : Int32).toNatClampNeg (12 : Int32).toNatClampNeg, s0.2.2.2)) ++ w1 K (sh a 6) s1)) C 9 3 mw_294 rfl rfl (by decide) (by decide) (by decide) (by decide) (by decide) (Nat.le_of_ble_eq_true rfl) (Nat.le_of_ble_eq_true rfl) dX1_copy_42 rfl ?_
  refine Go_aload_n (pc := 45) C dX1_copy_45 rfl ?_
  refine Go_get (pc := 46) C 6 3 rfl rfl inX1 (by decide) mw_103 rfl dX1_copy_46 ?_
  refine Go_iconst (pc := 49) (v := 0) C dX1_copy_49 ci_0 ?_
  refine Go_aload_n (pc := 50) C dX1_copy_50 rfl ?_
  refine Go_get (pc := 51) C 0 3 rfl rfl inX1 (by decide) mw_103 rfl dX1_copy_51 ?_
  refine Go_iconst (pc := 54) (v := 0) C dX1_copy_54 ci_0 ?_
  refine Go_bipush (pc := 55) (v := 12) C dX1_copy_55 cb_12 ?_
  refine Go_copyi (pc := 57) (ws1 := (w1 K a ((va_cpy s1.1 s0.1 (0 : Int32).toNatClampNeg (0 : Int32).toNatClampNeg (96 : Int32).toNatClampNeg, va_cpy s1.2.1 s0.2.1 (0 : Int32).toNatClampNeg (0 : Int32).toNatClampNeg (12 : Int32).toNatClampNeg, va_cpy s1.2.2.1 s0.2.2.1 (0 : Int32).toNatClampNeg (0 : Int32).toNatClampNeg (12 : Int32).toNatClampNeg, va_cpy s1.2.2.2.1 s0.2.2.2.1 (0 : Int32).toNatClampNeg (0 : Int32).toNatClampNeg (12 : Int32).toNatClampNeg, s0.2.2.2.2)) ++ w1 K (sh a 6) s1)) C 10 4 mw_294 rfl rfl (by decide) (by decide) (by decide) (by decide) (by decide) (Nat.le_of_ble_eq_true rfl) (Nat.le_of_ble_eq_true rfl) dX1_copy_57 rfl ?_
  refine Go_aload_n (pc := 60) C dX1_copy_60 rfl ?_
  refine Go_get (pc := 61) C 6 4 rfl rfl inX1 (by decide) mw_109 rfl dX1_copy_61 ?_
  refine Go_iconst (pc := 64) (v := 0) C dX1_copy_64 ci_0 ?_
  refine Go_aload_n (pc := 65) C dX1_copy_65 rfl ?_
  refine Go_get (pc := 66) C 0 4 rfl rfl inX1 (by decide) mw_109 rfl dX1_copy_66 ?_
  refine Go_iconst (pc := 69) (v := 0) C dX1_copy_69 ci_0 ?_
  refine Go_bipush (pc := 70) (v := 21) C dX1_copy_70 cb_21 ?_
  refine Go_copyi (pc := 72) (ws1 := (w1 K a ((va_cpy s1.1 s0.1 (0 : Int32).toNatClampNeg (0 : Int32).toNatClampNeg (96 : Int32).toNatClampNeg, va_cpy s1.2.1 s0.2.1 (0 : Int32).toNatClampNeg (0 : Int32).toNatClampNeg (12 : Int32).toNatClampNeg, va_cpy s1.2.2.1 s0.2.2.1 (0 : Int32).toNatClampNeg (0 : Int32).toNatClampNeg (12 : Int32).toNatClampNeg, va_cpy s1.2.2.2.1 s0.2.2.2.1 (0 : Int32).toNatClampNeg (0 : Int32).toNatClampNeg (12 : Int32).toNatClampNeg, va_cpy s1.2.2.2.2.1 s0.2.2.2.2.1 (0 : Int32).toNatClampNeg (0 : Int32).toNatClampNeg (21 : Int32).toNatClampNeg, s0.2.2.2.2.2)) ++ w1 K (sh a 6) s1)) C 11 5 mw_294 rfl rfl (by decide) (by decide) (by decide) (by decide) (by decide) (Nat.le_of_ble_eq_true rfl) (Nat.le_of_ble_eq_true rfl) dX1_copy_72 rfl ?_
  refine Go_aload_n (pc := 75) C dX1_copy_75 rfl ?_
  refine Go_aload_n (pc := 76) C dX1_copy_76 rfl ?_
  refine Go_get (pc := 77) C 6 5 rfl rfl inX1 (by decide) mw_113 rfl dX1_copy_77 ?_
  refine Go_put (pc := 80) (ws1 := (w1 K a ((va_cpy s1.1 s0.1 (0 : Int32).toNatClampNeg (0 : Int32).toNatClampNeg (96 : Int32).toNatClampNeg, va_cpy s1.2.1 s0.2.1 (0 : Int32).toNatClampNeg (0 : Int32).toNatClampNeg (12 : Int32).toNatClampNeg, va_cpy s1.2.2.1 s0.2.2.1 (0 : Int32).toNatClampNeg (0 : Int32).toNatClampNeg (12 : Int32).toNatClampNeg, va_cpy s1.2.2.2.1 s0.2.2.2.1 (0 : Int32).toNatClampNeg (0 : Int32).toNatClampNeg (12 : Int32).toNatClampNeg, va_cpy s1.2.2.2.2.1 s0.2.2.2.2.1 (0 : Int32).toNatClampNeg (0 : Int32).toNatClampNeg (21 : Int32).toNatClampNeg, s1.2.2.2.2.2)) ++ w1 K (sh a 6) s1)) C 0 5 tyX1 tyX1_ok nmX1 rfl rfl inX1 (by decide) mw_113 rfl rfl (Nat.le_of_ble_eq_true rfl) dX1_copy_80 (ll_10 _ _ _ _ _) ?_
  obtain rfl := Option.some.inj hf
  exact Go_vret C hr rfl dX1_copy_83
theorem ll_25 (K : KK) (a : Nat → Nat) (t0 : S1) (y : Nat → Int32) : List.set (w1 K a t0) 2 (a 2, .inl (K.2.1, 12, .inl y)) = (w1 K a ((t0.1, y, t0.2.2))) := rfl
theorem ll_26 (K : KK) (a : Nat → Nat) (t0 : S1) (y : Nat → Int32) : List.set (w1 K a t0) 3 (a 3, .inl (K.2.1, 12, .inl y)) = (w1 K a ((t0.1, t0.2.1, y, t0.2.2.2))) := rfl
theorem ll_27 (K : KK) (a : Nat → Nat) (t0 : S1) (y : Nat → Int32) : List.set (w1 K a t0) 4 (a 4, .inl (K.2.1, 12, .inl y)) = (w1 K a ((t0.1, t0.2.1, t0.2.2.1, y, t0.2.2.2.2))) := rfl
def fX1_add (s0 : S1) (p1 : Int32) (p2 : Int32) : Option (S1) := (if (12 : Int32) ≤ s0.2.2.2.2.2 then some s0 else (if 0 ≤ s0.2.2.2.2.2 ∧ s0.2.2.2.2.2.toNatClampNeg < 12 then (if 0 ≤ s0.2.2.2.2.2 ∧ s0.2.2.2.2.2.toNatClampNeg < 12 then (if 0 ≤ s0.2.2.2.2.2 ∧ s0.2.2.2.2.2.toNatClampNeg < 12 then some ((s0.1, upd s0.2.1 s0.2.2.2.2.2.toNatClampNeg p1, upd s0.2.2.1 s0.2.2.2.2.2.toNatClampNeg p2, upd s0.2.2.2.1 s0.2.2.2.2.2.toNatClampNeg (1 : Int32), s0.2.2.2.2.1, s0.2.2.2.2.2 + (1 : Int32))) else none) else none) else none))
theorem ycX1_add : CalV yX1_add cX1_add 3 none 2 := ⟨mw_303, mw_62, mw_301, mw_302, ⟨by decide, by decide, by decide +kernel⟩, by decide⟩
set_option maxHeartbeats 4000000 in
set_option maxRecDepth 100000 in
theorem kX1_add (l : Launch) (K : KK) (a : Nat → Nat) (s0 : S1) (p1 : Int32) (p2 : Int32) (res : S1) (hf : fX1_add s0 p1 p2 = some res) : Ct l K yX1_add cX1_add 3 none 0 [.ref (a 0), .int p1, .int p2] (w1 K a s0) (none) (w1 K a res) := by
  refine Ct_of2 (by decide) rfl (Nat.le_of_ble_eq_true rfl) ?_
  intro p e σ m args below meth c C hr
  unfold fX1_add at hf
  refine Go_aload_n (pc := 0) C dX1_add_0 rfl ?_
  refine Go_get (pc := 1) C 0 5 rfl rfl inX1 (by decide) mw_113 rfl dX1_add_1 ?_
  refine Go_bipush (pc := 4) (v := 12) C dX1_add_4 cb_12 ?_
  refine Go_icmp_ge (pc := 6) (tgt := 49) C dX1_add_6 (by decide) (fun hc => ?_) (fun hc => ?_)
  · replace hf := ift hc hf
    obtain rfl := Option.some.inj hf
    exact Go_vret C hr rfl dX1_add_49
  · replace hf := iff' hc hf
    refine Go_aload_n (pc := 9) C dX1_add_9 rfl ?_
    refine Go_get (pc := 10) C 0 1 rfl rfl inX1 (by decide) mw_97 rfl dX1_add_10 ?_
    refine Go_aload_n (pc := 13) C dX1_add_13 rfl ?_
    refine Go_get (pc := 14) C 0 5 rfl rfl inX1 (by decide) mw_113 rfl dX1_add_14 ?_
    refine Go_iload_n (pc := 17) C dX1_add_17 rfl ?_
    obtain ⟨hb, hf⟩ := ifs hf
    refine Go_iast (pc := 18) (ws1 := (w1 K a ((s0.1, upd s0.2.1 s0.2.2.2.2.2.toNatClampNeg p1, s0.2.2)))) C 2 rfl (inb_in hb) dX1_add_18 (ll_25 _ _ _ _) ?_
    refine Go_aload_n (pc := 19) C dX1_add_19 rfl ?_
    refine Go_get (pc := 20) C 0 2 rfl rfl inX1 (by decide) mw_100 rfl dX1_add_20 ?_
    refine Go_aload_n (pc := 23) C dX1_add_23 rfl ?_
    refine Go_get (pc := 24) C 0 5 rfl rfl inX1 (by decide) mw_113 rfl dX1_add_24 ?_
    refine Go_iload_n (pc := 27) C dX1_add_27 rfl ?_
    obtain ⟨hb, hf⟩ := ifs hf
    refine Go_iast (pc := 28) (ws1 := (w1 K a ((s0.1, upd s0.2.1 s0.2.2.2.2.2.toNatClampNeg p1, upd s0.2.2.1 s0.2.2.2.2.2.toNatClampNeg p2, s0.2.2.2)))) C 3 rfl (inb_in hb) dX1_add_28 (ll_26 _ _ _ _) ?_
    refine Go_aload_n (pc := 29) C dX1_add_29 rfl ?_
    refine Go_get (pc := 30) C 0 3 rfl rfl inX1 (by decide) mw_103 rfl dX1_add_30 ?_
    refine Go_aload_n (pc := 33) C dX1_add_33 rfl ?_
    refine Go_get (pc := 34) C 0 5 rfl rfl inX1 (by decide) mw_113 rfl dX1_add_34 ?_
    refine Go_iconst (pc := 37) (v := 1) C dX1_add_37 ci_1 ?_
    obtain ⟨hb, hf⟩ := ifs hf
    refine Go_iast (pc := 38) (ws1 := (w1 K a ((s0.1, upd s0.2.1 s0.2.2.2.2.2.toNatClampNeg p1, upd s0.2.2.1 s0.2.2.2.2.2.toNatClampNeg p2, upd s0.2.2.2.1 s0.2.2.2.2.2.toNatClampNeg (1 : Int32), s0.2.2.2.2)))) C 4 rfl (inb_in hb) dX1_add_38 (ll_27 _ _ _ _) ?_
    refine Go_aload_n (pc := 39) C dX1_add_39 rfl ?_
    refine Go_dup (pc := 40) C dX1_add_40 rfl ?_
    refine Go_get (pc := 41) C 0 5 rfl rfl inX1 (by decide) mw_113 rfl dX1_add_41 ?_
    refine Go_iconst (pc := 44) (v := 1) C dX1_add_44 ci_1 ?_
    refine Go_iadd (pc := 45) C dX1_add_45 ?_
    refine Go_put (pc := 46) (ws1 := (w1 K a ((s0.1, upd s0.2.1 s0.2.2.2.2.2.toNatClampNeg p1, upd s0.2.2.1 s0.2.2.2.2.2.toNatClampNeg p2, upd s0.2.2.2.1 s0.2.2.2.2.2.toNatClampNeg (1 : Int32), s0.2.2.2.2.1, s0.2.2.2.2.2 + (1 : Int32))))) C 0 5 tyX1 tyX1_ok nmX1 rfl rfl inX1 (by decide) mw_113 rfl rfl (Nat.le_of_ble_eq_true rfl) dX1_add_46 (ll_5 _ _ _ _) ?_
    obtain rfl := Option.some.inj hf
    exact Go_vret C hr rfl dX1_add_49
def fX1_hasPillar (s0 : S1) (p1 : Int32) : Option (Int32) := (if p1 < 0 then some (0 : Int32) else (if s0.2.2.2.2.2 ≤ p1 then some (0 : Int32) else some (1 : Int32)))
theorem ycX1_hasPillar : CalV yX1_hasPillar cX1_hasPillar 2 ((some .boolean)) 1 := ⟨mw_327, mw_62, mw_325, mw_326, ⟨by decide, by decide, by decide +kernel⟩, by decide⟩
set_option maxHeartbeats 4000000 in
set_option maxRecDepth 100000 in
theorem kX1_hasPillar (l : Launch) (K : KK) (a : Nat → Nat) (s0 : S1) (p1 : Int32) (res : Int32) (hf : fX1_hasPillar s0 p1 = some res) : Ct l K yX1_hasPillar cX1_hasPillar 2 ((some .boolean)) 0 [.ref (a 0), .int p1] (w1 K a s0) (some (.int res)) (w1 K a s0) := by
  refine Ct_of2 (by decide) rfl (Nat.le_of_ble_eq_true rfl) ?_
  intro p e σ m args below meth c C hr
  unfold fX1_hasPillar at hf
  refine Go_iload_n (pc := 0) C dX1_hasPillar_0 rfl ?_
  refine Go_if_lt (pc := 1) (tgt := 16) C dX1_hasPillar_1 (by decide) (fun hc => ?_) (fun hc => ?_)
  · replace hf := ift hc hf
    refine Go_iconst (pc := 16) (v := 0) C dX1_hasPillar_16 ci_0 ?_
    obtain rfl := Option.some.inj hf
    exact Go_zret C hr (Or.inl rfl) rfl dX1_hasPillar_17
  · replace hf := iff' hc hf
    refine Go_iload_n (pc := 4) C dX1_hasPillar_4 rfl ?_
    refine Go_aload_n (pc := 5) C dX1_hasPillar_5 rfl ?_
    refine Go_get (pc := 6) C 0 5 rfl rfl inX1 (by decide) mw_113 rfl dX1_hasPillar_6 ?_
    refine Go_icmp_ge (pc := 9) (tgt := 16) C dX1_hasPillar_9 (by decide) (fun hc => ?_) (fun hc => ?_)
    · replace hf := ift hc hf
      refine Go_iconst (pc := 16) (v := 0) C dX1_hasPillar_16 ci_0 ?_
      obtain rfl := Option.some.inj hf
      exact Go_zret C hr (Or.inl rfl) rfl dX1_hasPillar_17
    · replace hf := iff' hc hf
      refine Go_iconst (pc := 12) (v := 1) C dX1_hasPillar_12 ci_1 ?_
      refine Go_goto (pc := 13) (tgt := 17) C dX1_hasPillar_13 (by decide) ?_
      obtain rfl := Option.some.inj hf
      exact Go_zret C hr (Or.inr rfl) rfl dX1_hasPillar_17
def fX1_countStanding_L4 (s0 : S1) (q1 : Int32 × Int32) : Option ((Int32 × Int32) ⊕ (Int32 × Int32)) := (if s0.2.2.2.2.2 ≤ q1.2 then some (.inr (q1.1, q1.2)) else (if 0 ≤ q1.2 ∧ q1.2.toNatClampNeg < 12 then Option.bind (some (q1.1 + (s0.2.2.2.1 q1.2.toNatClampNeg))) (fun v2 => Option.bind (some (q1.2 + (1 : Int32))) (fun v3 => some (.inl (v2, v3)))) else none))
def fX1_countStanding (s0 : S1) : Option (Int32) := Option.bind (loopF (fX1_countStanding_L4 s0) 5000 ((0 : Int32), (0 : Int32))) (fun z4 => some z4.1)
theorem ycX1_countStanding : CalV yX1_countStanding cX1_countStanding 3 ((some .int)) 0 := ⟨mw_340, mw_62, mw_338, mw_339, ⟨by decide, by decide, by decide +kernel⟩, by decide⟩
set_option maxHeartbeats 4000000 in
set_option maxRecDepth 100000 in
theorem kX1_countStanding (l : Launch) (K : KK) (a : Nat → Nat) (s0 : S1) (res : Int32) (hf : fX1_countStanding s0 = some res) : Ct l K yX1_countStanding cX1_countStanding 3 ((some .int)) 0 [.ref (a 0)] (w1 K a s0) (some (.int res)) (w1 K a s0) := by
  refine Ct_of2 (by decide) rfl (Nat.le_of_ble_eq_true rfl) ?_
  intro p e σ m args below meth c C hr
  unfold fX1_countStanding at hf
  refine Go_iconst (pc := 0) (v := 0) C dX1_countStanding_0 ci_0 ?_
  refine Go_istore_n (pc := 1) C dX1_countStanding_1 (by decide) ?_
  refine Go_iconst (pc := 2) (v := 0) C dX1_countStanding_2 ci_0 ?_
  refine Go_istore_n (pc := 3) C dX1_countStanding_3 (by decide) ?_
  obtain ⟨z4, hz4, hf⟩ := bnd hf
  refine Go_mask [true, true, true] ?_
  refine loopF_go (step := (fX1_countStanding_L4 s0)) (fun q1 => Go p l e (rmc 0 0 0) σ m args below meth c K (inW (w1 K a s0)) σ.heap 3 0 0 (MQ below (CtQ K (w1 K a s0) (some (.int res)) (w1 K a s0)) args σ 0 0 (inW (w1 K a s0))) (w1 K a s0) 4 [some (.ref (a 0)), some (.int q1.1), some (.int q1.2)] []) (fun z4 => Go p l e (rmc 0 0 0) σ m args below meth c K (inW (w1 K a s0)) σ.heap 3 0 0 (MQ below (CtQ K (w1 K a s0) (some (.int res)) (w1 K a s0)) args σ 0 0 (inW (w1 K a s0))) (w1 K a s0) 27 [some (.ref (a 0)), some (.int z4.1), some (.int z4.2)] []) ?_ _ _ _ hz4 ?_
  · intro q1 x hf hk
    unfold fX1_countStanding_L4 at hf
    refine Go_iload_n (pc := 4) C dX1_countStanding_4 rfl ?_
    refine Go_aload_n (pc := 5) C dX1_countStanding_5 rfl ?_
    refine Go_get (pc := 6) C 0 5 rfl rfl inX1 (by decide) mw_113 rfl dX1_countStanding_6 ?_
    refine Go_icmp_ge (pc := 9) (tgt := 27) C dX1_countStanding_9 (by decide) (fun hc => ?_) (fun hc => ?_)
    · replace hf := ift hc hf
      obtain rfl := Option.some.inj hf
      exact Go_mask [true, true, true] hk
    · replace hf := iff' hc hf
      refine Go_iload_n (pc := 12) C dX1_countStanding_12 rfl ?_
      refine Go_aload_n (pc := 13) C dX1_countStanding_13 rfl ?_
      refine Go_get (pc := 14) C 0 3 rfl rfl inX1 (by decide) mw_103 rfl dX1_countStanding_14 ?_
      refine Go_iload_n (pc := 17) C dX1_countStanding_17 rfl ?_
      obtain ⟨hb, hf⟩ := ifs hf
      refine Go_iald (pc := 18) C 4 rfl (inb_in hb) dX1_countStanding_18 ?_
      refine Go_iadd (pc := 19) C dX1_countStanding_19 ?_
      obtain ⟨v2, hv2, hf⟩ := bnd hf
      refine Go_topi (Option.some.inj hv2) ?_
      refine Go_istore_n (pc := 20) C dX1_countStanding_20 (by decide) ?_
      obtain ⟨v3, hv3, hf⟩ := bnd hf
      refine Go_iinc (pc := 21) (v := v3) C dX1_countStanding_21 rfl (by rw [ci_1]; exact Option.some.inj hv3) ?_
      refine Go_goto (pc := 24) (tgt := 4) C dX1_countStanding_24 (by decide) ?_
      obtain rfl := Option.some.inj hf
      exact Go_mask [true, true, true] hk
  · show Go _ _ _ _ _ _ _ _ _ _ _ _ _ _ _ _ _ _ _ _ _
    refine Go_iload_n (pc := 27) C dX1_countStanding_27 rfl ?_
    obtain rfl := Option.some.inj hf
    exact Go_iret C hr rfl dX1_countStanding_28
def fX1_lastOf_L3 (s0 : S1) (p1 : Int32) (p3 : Int32) (q1 : Int32) : Option ((Int32) ⊕ (Int32)) := (if p3 ≤ q1 then some (.inr q1) else (if 0 ≤ (p1 + q1) ∧ (p1 + q1).toNatClampNeg < 21 then (if (s0.2.2.2.2.1 (p1 + q1).toNatClampNeg) = 0 then Option.bind (some (q1 + (1 : Int32))) (fun v2 => some (.inl v2)) else some (.inr q1)) else none))
def fX1_lastOf (s0 : S1) (p1 : Int32) (p2 : Int32) (p3 : Int32) : Option (Int32) := Option.bind (loopF (fX1_lastOf_L3 s0 p1 p3) 5000 p2) (fun z3 => some z3)
theorem ycX1_lastOf : CalV yX1_lastOf cX1_lastOf 5 ((some .int)) 3 := ⟨mw_362, mw_62, mw_360, mw_361, ⟨by decide, by decide, by decide +kernel⟩, by decide⟩
set_option maxHeartbeats 4000000 in
set_option maxRecDepth 100000 in
theorem kX1_lastOf (l : Launch) (K : KK) (a : Nat → Nat) (s0 : S1) (p1 : Int32) (p2 : Int32) (p3 : Int32) (res : Int32) (hf : fX1_lastOf s0 p1 p2 p3 = some res) : Ct l K yX1_lastOf cX1_lastOf 5 ((some .int)) 0 [.ref (a 0), .int p1, .int p2, .int p3] (w1 K a s0) (some (.int res)) (w1 K a s0) := by
  refine Ct_of2 (by decide) rfl (Nat.le_of_ble_eq_true rfl) ?_
  intro p e σ m args below meth c C hr
  unfold fX1_lastOf at hf
  refine Go_iload_n (pc := 0) C dX1_lastOf_0 rfl ?_
  refine Go_istore (pc := 1) C dX1_lastOf_1 (by decide) ?_
  obtain ⟨z3, hz3, hf⟩ := bnd hf
  refine Go_mask [true, true, true, true, true] ?_
  refine loopF_go (step := (fX1_lastOf_L3 s0 p1 p3)) (fun q1 => Go p l e (rmc 0 0 0) σ m args below meth c K (inW (w1 K a s0)) σ.heap 5 0 0 (MQ below (CtQ K (w1 K a s0) (some (.int res)) (w1 K a s0)) args σ 0 0 (inW (w1 K a s0))) (w1 K a s0) 3 [some (.ref (a 0)), some (.int p1), some (.int p2), some (.int p3), some (.int q1)] []) (fun z3 => Go p l e (rmc 0 0 0) σ m args below meth c K (inW (w1 K a s0)) σ.heap 5 0 0 (MQ below (CtQ K (w1 K a s0) (some (.int res)) (w1 K a s0)) args σ 0 0 (inW (w1 K a s0))) (w1 K a s0) 27 [some (.ref (a 0)), some (.int p1), some (.int p2), some (.int p3), some (.int z3)] []) ?_ _ _ _ hz3 ?_
  · intro q1 x hf hk
    unfold fX1_lastOf_L3 at hf
    refine Go_iload (pc := 3) C dX1_lastOf_3 rfl ?_
    refine Go_iload_n (pc := 5) C dX1_lastOf_5 rfl ?_
    refine Go_icmp_ge (pc := 6) (tgt := 27) C dX1_lastOf_6 (by decide) (fun hc => ?_) (fun hc => ?_)
    · replace hf := ift hc hf
      obtain rfl := Option.some.inj hf
      exact Go_mask [true, true, true, true, true] hk
    · replace hf := iff' hc hf
      refine Go_aload_n (pc := 9) C dX1_lastOf_9 rfl ?_
      refine Go_get (pc := 10) C 0 4 rfl rfl inX1 (by decide) mw_109 rfl dX1_lastOf_10 ?_
      refine Go_iload_n (pc := 13) C dX1_lastOf_13 rfl ?_
      refine Go_iload (pc := 14) C dX1_lastOf_14 rfl ?_
      refine Go_iadd (pc := 16) C dX1_lastOf_16 ?_
      obtain ⟨hb, hf⟩ := ifs hf
      refine Go_iald (pc := 17) C 5 rfl (inb_in hb) dX1_lastOf_17 ?_
      refine Go_if_ne (pc := 18) (tgt := 27) C dX1_lastOf_18 (by decide) (fun hc => ?_) (fun hc => ?_)
      · replace hf := ift hc hf
        obtain ⟨v2, hv2, hf⟩ := bnd hf
        refine Go_iinc (pc := 21) (v := v2) C dX1_lastOf_21 rfl (by rw [ci_1]; exact Option.some.inj hv2) ?_
        refine Go_goto (pc := 24) (tgt := 3) C dX1_lastOf_24 (by decide) ?_
        obtain rfl := Option.some.inj hf
        exact Go_mask [true, true, true, true, true] hk
      · replace hf := iff' hc hf
        obtain rfl := Option.some.inj hf
        exact Go_mask [true, true, true, true, true] hk
  · show Go _ _ _ _ _ _ _ _ _ _ _ _ _ _ _ _ _ _ _ _ _
    refine Go_iload (pc := 27) C dX1_lastOf_27 rfl ?_
    obtain rfl := Option.some.inj hf
    exact Go_iret C hr rfl dX1_lastOf_29
def fX1_firstOf_L2 (s0 : S1) (p1 : Int32) (q1 : Int32) : Option ((Int32) ⊕ (Int32)) := (if q1 ≤ 0 then some (.inr q1) else (if 0 ≤ ((p1 + q1) - (1 : Int32)) ∧ ((p1 + q1) - (1 : Int32)).toNatClampNeg < 21 then (if (s0.2.2.2.2.1 ((p1 + q1) - (1 : Int32)).toNatClampNeg) = 0 then Option.bind (some (q1 + (-1 : Int32))) (fun v2 => some (.inl v2)) else some (.inr q1)) else none))
def fX1_firstOf (s0 : S1) (p1 : Int32) (p2 : Int32) : Option (Int32) := Option.bind (loopF (fX1_firstOf_L2 s0 p1) 5000 p2) (fun z3 => some z3)
theorem ycX1_firstOf : CalV yX1_firstOf cX1_firstOf 4 ((some .int)) 2 := ⟨mw_366, mw_62, mw_364, mw_365, ⟨by decide, by decide, by decide +kernel⟩, by decide⟩
set_option maxHeartbeats 4000000 in
set_option maxRecDepth 100000 in
theorem kX1_firstOf (l : Launch) (K : KK) (a : Nat → Nat) (s0 : S1) (p1 : Int32) (p2 : Int32) (res : Int32) (hf : fX1_firstOf s0 p1 p2 = some res) : Ct l K yX1_firstOf cX1_firstOf 4 ((some .int)) 0 [.ref (a 0), .int p1, .int p2] (w1 K a s0) (some (.int res)) (w1 K a s0) := by
  refine Ct_of2 (by decide) rfl (Nat.le_of_ble_eq_true rfl) ?_
  intro p e σ m args below meth c C hr
  unfold fX1_firstOf at hf
  refine Go_iload_n (pc := 0) C dX1_firstOf_0 rfl ?_
  refine Go_istore_n (pc := 1) C dX1_firstOf_1 (by decide) ?_
  obtain ⟨z3, hz3, hf⟩ := bnd hf
  refine Go_mask [true, true, true, true] ?_
  refine loopF_go (step := (fX1_firstOf_L2 s0 p1)) (fun q1 => Go p l e (rmc 0 0 0) σ m args below meth c K (inW (w1 K a s0)) σ.heap 4 0 0 (MQ below (CtQ K (w1 K a s0) (some (.int res)) (w1 K a s0)) args σ 0 0 (inW (w1 K a s0))) (w1 K a s0) 2 [some (.ref (a 0)), some (.int p1), some (.int p2), some (.int q1)] []) (fun z3 => Go p l e (rmc 0 0 0) σ m args below meth c K (inW (w1 K a s0)) σ.heap 4 0 0 (MQ below (CtQ K (w1 K a s0) (some (.int res)) (w1 K a s0)) args σ 0 0 (inW (w1 K a s0))) (w1 K a s0) 25 [some (.ref (a 0)), some (.int p1), some (.int p2), some (.int z3)] []) ?_ _ _ _ hz3 ?_
  · intro q1 x hf hk
    unfold fX1_firstOf_L2 at hf
    refine Go_iload_n (pc := 2) C dX1_firstOf_2 rfl ?_
    refine Go_if_le (pc := 3) (tgt := 25) C dX1_firstOf_3 (by decide) (fun hc => ?_) (fun hc => ?_)
    · replace hf := ift hc hf
      obtain rfl := Option.some.inj hf
      exact Go_mask [true, true, true, true] hk
    · replace hf := iff' hc hf
      refine Go_aload_n (pc := 6) C dX1_firstOf_6 rfl ?_
      refine Go_get (pc := 7) C 0 4 rfl rfl inX1 (by decide) mw_109 rfl dX1_firstOf_7 ?_
      refine Go_iload_n (pc := 10) C dX1_firstOf_10 rfl ?_
      refine Go_iload_n (pc := 11) C dX1_firstOf_11 rfl ?_
      refine Go_iadd (pc := 12) C dX1_firstOf_12 ?_
      refine Go_iconst (pc := 13) (v := 1) C dX1_firstOf_13 ci_1 ?_
      refine Go_isub (pc := 14) C dX1_firstOf_14 ?_
      obtain ⟨hb, hf⟩ := ifs hf
      refine Go_iald (pc := 15) C 5 rfl (inb_in hb) dX1_firstOf_15 ?_
      refine Go_if_ne (pc := 16) (tgt := 25) C dX1_firstOf_16 (by decide) (fun hc => ?_) (fun hc => ?_)
      · replace hf := ift hc hf
        obtain ⟨v2, hv2, hf⟩ := bnd hf
        refine Go_iinc (pc := 19) (v := v2) C dX1_firstOf_19 rfl (by rw [ci_m1]; exact Option.some.inj hv2) ?_
        refine Go_goto (pc := 22) (tgt := 2) C dX1_firstOf_22 (by decide) ?_
        obtain rfl := Option.some.inj hf
        exact Go_mask [true, true, true, true] hk
      · replace hf := iff' hc hf
        obtain rfl := Option.some.inj hf
        exact Go_mask [true, true, true, true] hk
  · show Go _ _ _ _ _ _ _ _ _ _ _ _ _ _ _ _ _ _ _ _ _
    refine Go_iload_n (pc := 25) C dX1_firstOf_25 rfl ?_
    obtain rfl := Option.some.inj hf
    exact Go_iret C hr rfl dX1_firstOf_26
theorem ll_56 (K : KK) (a : Nat → Nat) (t0 : S1) : ([0, 1, 2, 3, 4, 5] : List Nat).map (fun i => (w1 K a t0)[i]?) = List.map some (w1 K (pk a [0, 1, 2, 3, 4, 5]) t0) := rfl
def fX1_isStanding (s0 : S1) (p1 : Int32) : Option (Int32) := Option.bind (fX1_hasPillar s0 p1) (fun r1 => (if r1 = 0 then some (0 : Int32) else (if 0 ≤ p1 ∧ p1.toNatClampNeg < 12 then (if (s0.2.2.2.1 p1.toNatClampNeg) = (1 : Int32) then some (1 : Int32) else some (0 : Int32)) else none)))
theorem ycX1_isStanding : CalV yX1_isStanding cX1_isStanding 2 ((some .boolean)) 1 := ⟨mw_381, mw_62, mw_379, mw_380, ⟨by decide, by decide, by decide +kernel⟩, by decide⟩
set_option maxHeartbeats 4000000 in
set_option maxRecDepth 100000 in
theorem kX1_isStanding (l : Launch) (K : KK) (a : Nat → Nat) (s0 : S1) (p1 : Int32) (res : Int32) (hf : fX1_isStanding s0 p1 = some res) : Ct l K yX1_isStanding cX1_isStanding 2 ((some .boolean)) 1 [.ref (a 0), .int p1] (w1 K a s0) (some (.int res)) (w1 K a s0) := by
  refine Ct_of2 (by decide) rfl (Nat.le_of_ble_eq_true rfl) ?_
  intro p e σ m args below meth c C hr
  unfold fX1_isStanding at hf
  refine Go_aload_n (pc := 0) C dX1_isStanding_0 rfl ?_
  refine Go_iload_n (pc := 1) C dX1_isStanding_1 rfl ?_
  obtain ⟨r1, hr1, hf⟩ := bnd hf
  refine Go_callV1 (pc := 2) (ws1 := (w1 K a s0)) C 0 [0, 1, 2, 3, 4, 5] (kX1_hasPillar l K (pk a [0, 1, 2, 3, 4, 5]) s0 p1 r1 hr1) ycX1_hasPillar mw_382 (Nat.le_of_ble_eq_true rfl) rfl rfl rfl rfl (Nat.le_of_ble_eq_true rfl) ⟨Nat.zero_le _, Nat.zero_le _⟩ dX1_isStanding_2 (ll_56 _ _ _) rfl rfl (Wr_same (ll_56 _ _ _)) ?_
  refine Go_if_eq (pc := 5) (tgt := 22) C dX1_isStanding_5 (by decide) (fun hc => ?_) (fun hc => ?_)
  · replace hf := ift hc hf
    refine Go_iconst (pc := 22) (v := 0) C dX1_isStanding_22 ci_0 ?_
    obtain rfl := Option.some.inj hf
    exact Go_zret C hr (Or.inl rfl) rfl dX1_isStanding_23
  · replace hf := iff' hc hf
    refine Go_aload_n (pc := 8) C dX1_isStanding_8 rfl ?_
    refine Go_get (pc := 9) C 0 3 rfl rfl inX1 (by decide) mw_103 rfl dX1_isStanding_9 ?_
    refine Go_iload_n (pc := 12) C dX1_isStanding_12 rfl ?_
    obtain ⟨hb, hf⟩ := ifs hf
    refine Go_iald (pc := 13) C 4 rfl (inb_in hb) dX1_isStanding_13 ?_
    refine Go_iconst (pc := 14) (v := 1) C dX1_isStanding_14 ci_1 ?_
    refine Go_icmp_ne (pc := 15) (tgt := 22) C dX1_isStanding_15 (by decide) (fun hc => ?_) (fun hc => ?_)
    · replace hf := ift hc hf
      refine Go_iconst (pc := 18) (v := 1) C dX1_isStanding_18 ci_1 ?_
      refine Go_goto (pc := 19) (tgt := 23) C dX1_isStanding_19 (by decide) ?_
      obtain rfl := Option.some.inj hf
      exact Go_zret C hr (Or.inr rfl) rfl dX1_isStanding_23
    · replace hf := iff' hc hf
      refine Go_iconst (pc := 22) (v := 0) C dX1_isStanding_22 ci_0 ?_
      obtain rfl := Option.some.inj hf
      exact Go_zret C hr (Or.inl rfl) rfl dX1_isStanding_23
def fX1_isOpenBelow (s0 : S1) (p1 : Int32) : Option (Int32) := (if p1 < 0 then some (0 : Int32) else (if (7 : Int32) ≤ p1 then some (0 : Int32) else (if 0 ≤ p1 ∧ p1.toNatClampNeg < 21 then (if (s0.2.2.2.2.1 p1.toNatClampNeg) = 0 then some (1 : Int32) else some (0 : Int32)) else none)))
theorem ycX1_isOpenBelow : CalV yX1_isOpenBelow cX1_isOpenBelow 2 ((some .boolean)) 1 := ⟨mw_422, mw_62, mw_420, mw_421, ⟨by decide, by decide, by decide +kernel⟩, by decide⟩
set_option maxHeartbeats 4000000 in
set_option maxRecDepth 100000 in
theorem kX1_isOpenBelow (l : Launch) (K : KK) (a : Nat → Nat) (s0 : S1) (p1 : Int32) (res : Int32) (hf : fX1_isOpenBelow s0 p1 = some res) : Ct l K yX1_isOpenBelow cX1_isOpenBelow 2 ((some .boolean)) 0 [.ref (a 0), .int p1] (w1 K a s0) (some (.int res)) (w1 K a s0) := by
  refine Ct_of2 (by decide) rfl (Nat.le_of_ble_eq_true rfl) ?_
  intro p e σ m args below meth c C hr
  unfold fX1_isOpenBelow at hf
  refine Go_iload_n (pc := 0) C dX1_isOpenBelow_0 rfl ?_
  refine Go_if_lt (pc := 1) (tgt := 23) C dX1_isOpenBelow_1 (by decide) (fun hc => ?_) (fun hc => ?_)
  · replace hf := ift hc hf
    refine Go_iconst (pc := 23) (v := 0) C dX1_isOpenBelow_23 ci_0 ?_
    obtain rfl := Option.some.inj hf
    exact Go_zret C hr (Or.inl rfl) rfl dX1_isOpenBelow_24
  · replace hf := iff' hc hf
    refine Go_iload_n (pc := 4) C dX1_isOpenBelow_4 rfl ?_
    refine Go_bipush (pc := 5) (v := 7) C dX1_isOpenBelow_5 cb_7 ?_
    refine Go_icmp_ge (pc := 7) (tgt := 23) C dX1_isOpenBelow_7 (by decide) (fun hc => ?_) (fun hc => ?_)
    · replace hf := ift hc hf
      refine Go_iconst (pc := 23) (v := 0) C dX1_isOpenBelow_23 ci_0 ?_
      obtain rfl := Option.some.inj hf
      exact Go_zret C hr (Or.inl rfl) rfl dX1_isOpenBelow_24
    · replace hf := iff' hc hf
      refine Go_aload_n (pc := 10) C dX1_isOpenBelow_10 rfl ?_
      refine Go_get (pc := 11) C 0 4 rfl rfl inX1 (by decide) mw_109 rfl dX1_isOpenBelow_11 ?_
      refine Go_iload_n (pc := 14) C dX1_isOpenBelow_14 rfl ?_
      obtain ⟨hb, hf⟩ := ifs hf
      refine Go_iald (pc := 15) C 5 rfl (inb_in hb) dX1_isOpenBelow_15 ?_
      refine Go_if_ne (pc := 16) (tgt := 23) C dX1_isOpenBelow_16 (by decide) (fun hc => ?_) (fun hc => ?_)
      · replace hf := ift hc hf
        refine Go_iconst (pc := 19) (v := 1) C dX1_isOpenBelow_19 ci_1 ?_
        refine Go_goto (pc := 20) (tgt := 24) C dX1_isOpenBelow_20 (by decide) ?_
        obtain rfl := Option.some.inj hf
        exact Go_zret C hr (Or.inr rfl) rfl dX1_isOpenBelow_24
      · replace hf := iff' hc hf
        refine Go_iconst (pc := 23) (v := 0) C dX1_isOpenBelow_23 ci_0 ?_
        obtain rfl := Option.some.inj hf
        exact Go_zret C hr (Or.inl rfl) rfl dX1_isOpenBelow_24
def fX1_isOpenRight (s0 : S1) (p1 : Int32) : Option (Int32) := (if p1 < 0 then some (0 : Int32) else (if (11 : Int32) ≤ p1 then some (0 : Int32) else (if 0 ≤ ((10 : Int32) + p1) ∧ ((10 : Int32) + p1).toNatClampNeg < 21 then (if (s0.2.2.2.2.1 ((10 : Int32) + p1).toNatClampNeg) = 0 then some (1 : Int32) else some (0 : Int32)) else none)))
theorem ycX1_isOpenRight : CalV yX1_isOpenRight cX1_isOpenRight 2 ((some .boolean)) 1 := ⟨mw_426, mw_62, mw_424, mw_425, ⟨by decide, by decide, by decide +kernel⟩, by decide⟩
set_option maxHeartbeats 4000000 in
set_option maxRecDepth 100000 in
theorem kX1_isOpenRight (l : Launch) (K : KK) (a : Nat → Nat) (s0 : S1) (p1 : Int32) (res : Int32) (hf : fX1_isOpenRight s0 p1 = some res) : Ct l K yX1_isOpenRight cX1_isOpenRight 2 ((some .boolean)) 0 [.ref (a 0), .int p1] (w1 K a s0) (some (.int res)) (w1 K a s0) := by
  refine Ct_of2 (by decide) rfl (Nat.le_of_ble_eq_true rfl) ?_
  intro p e σ m args below meth c C hr
  unfold fX1_isOpenRight at hf
  refine Go_iload_n (pc := 0) C dX1_isOpenRight_0 rfl ?_
  refine Go_if_lt (pc := 1) (tgt := 26) C dX1_isOpenRight_1 (by decide) (fun hc => ?_) (fun hc => ?_)
  · replace hf := ift hc hf
    refine Go_iconst (pc := 26) (v := 0) C dX1_isOpenRight_26 ci_0 ?_
    obtain rfl := Option.some.inj hf
    exact Go_zret C hr (Or.inl rfl) rfl dX1_isOpenRight_27
  · replace hf := iff' hc hf
    refine Go_iload_n (pc := 4) C dX1_isOpenRight_4 rfl ?_
    refine Go_bipush (pc := 5) (v := 11) C dX1_isOpenRight_5 cb_11 ?_
    refine Go_icmp_ge (pc := 7) (tgt := 26) C dX1_isOpenRight_7 (by decide) (fun hc => ?_) (fun hc => ?_)
    · replace hf := ift hc hf
      refine Go_iconst (pc := 26) (v := 0) C dX1_isOpenRight_26 ci_0 ?_
      obtain rfl := Option.some.inj hf
      exact Go_zret C hr (Or.inl rfl) rfl dX1_isOpenRight_27
    · replace hf := iff' hc hf
      refine Go_aload_n (pc := 10) C dX1_isOpenRight_10 rfl ?_
      refine Go_get (pc := 11) C 0 4 rfl rfl inX1 (by decide) mw_109 rfl dX1_isOpenRight_11 ?_
      refine Go_bipush (pc := 14) (v := 10) C dX1_isOpenRight_14 cb_10 ?_
      refine Go_iload_n (pc := 16) C dX1_isOpenRight_16 rfl ?_
      refine Go_iadd (pc := 17) C dX1_isOpenRight_17 ?_
      obtain ⟨hb, hf⟩ := ifs hf
      refine Go_iald (pc := 18) C 5 rfl (inb_in hb) dX1_isOpenRight_18 ?_
      refine Go_if_ne (pc := 19) (tgt := 26) C dX1_isOpenRight_19 (by decide) (fun hc => ?_) (fun hc => ?_)
      · replace hf := ift hc hf
        refine Go_iconst (pc := 22) (v := 1) C dX1_isOpenRight_22 ci_1 ?_
        refine Go_goto (pc := 23) (tgt := 27) C dX1_isOpenRight_23 (by decide) ?_
        obtain rfl := Option.some.inj hf
        exact Go_zret C hr (Or.inr rfl) rfl dX1_isOpenRight_27
      · replace hf := iff' hc hf
        refine Go_iconst (pc := 26) (v := 0) C dX1_isOpenRight_26 ci_0 ?_
        obtain rfl := Option.some.inj hf
        exact Go_zret C hr (Or.inl rfl) rfl dX1_isOpenRight_27
def fX1_startsRoom (s0 : S1) (p1 : Int32) : Option (Int32) := Option.bind (fX1_isOpenBelow s0 ((p1 / (12 : Int32)) - (1 : Int32))) (fun r1 => (if r1 = 0 then Option.bind (fX1_isOpenRight s0 ((p1 - p1 / (12 : Int32) * (12 : Int32)) - (1 : Int32))) (fun r2 => (if r2 = 0 then some (1 : Int32) else some (0 : Int32))) else some (0 : Int32)))
theorem ycX1_startsRoom : CalV yX1_startsRoom cX1_startsRoom 2 ((some .boolean)) 1 := ⟨mw_418, mw_62, mw_416, mw_417, ⟨by decide, by decide, by decide +kernel⟩, by decide⟩
set_option maxHeartbeats 4000000 in
set_option maxRecDepth 100000 in
theorem kX1_startsRoom (l : Launch) (K : KK) (a : Nat → Nat) (s0 : S1) (p1 : Int32) (res : Int32) (hf : fX1_startsRoom s0 p1 = some res) : Ct l K yX1_startsRoom cX1_startsRoom 2 ((some .boolean)) 1 [.ref (a 0), .int p1] (w1 K a s0) (some (.int res)) (w1 K a s0) := by
  refine Ct_of2 (by decide) rfl (Nat.le_of_ble_eq_true rfl) ?_
  intro p e σ m args below meth c C hr
  unfold fX1_startsRoom at hf
  refine Go_aload_n (pc := 0) C dX1_startsRoom_0 rfl ?_
  refine Go_iload_n (pc := 1) C dX1_startsRoom_1 rfl ?_
  refine Go_bipush (pc := 2) (v := 12) C dX1_startsRoom_2 cb_12 ?_
  refine Go_idiv (pc := 4) C dX1_startsRoom_4 (by decide) ?_
  refine Go_iconst (pc := 5) (v := 1) C dX1_startsRoom_5 ci_1 ?_
  refine Go_isub (pc := 6) C dX1_startsRoom_6 ?_
  obtain ⟨r1, hr1, hf⟩ := bnd hf
  refine Go_callV1 (pc := 7) (ws1 := (w1 K a s0)) C 0 [0, 1, 2, 3, 4, 5] (kX1_isOpenBelow l K (pk a [0, 1, 2, 3, 4, 5]) s0 ((p1 / (12 : Int32)) - (1 : Int32)) r1 hr1) ycX1_isOpenBelow mw_419 (Nat.le_of_ble_eq_true rfl) rfl rfl rfl rfl (Nat.le_of_ble_eq_true rfl) ⟨Nat.zero_le _, Nat.zero_le _⟩ dX1_startsRoom_7 (ll_56 _ _ _) rfl rfl (Wr_same (ll_56 _ _ _)) ?_
  refine Go_if_ne (pc := 10) (tgt := 30) C dX1_startsRoom_10 (by decide) (fun hc => ?_) (fun hc => ?_)
  · replace hf := ift hc hf
    refine Go_aload_n (pc := 13) C dX1_startsRoom_13 rfl ?_
    refine Go_iload_n (pc := 14) C dX1_startsRoom_14 rfl ?_
    refine Go_bipush (pc := 15) (v := 12) C dX1_startsRoom_15 cb_12 ?_
    refine Go_irem (pc := 17) C dX1_startsRoom_17 (by decide) ?_
    refine Go_iconst (pc := 18) (v := 1) C dX1_startsRoom_18 ci_1 ?_
    refine Go_isub (pc := 19) C dX1_startsRoom_19 ?_
    obtain ⟨r2, hr2, hf⟩ := bnd hf
    refine Go_callV1 (pc := 20) (ws1 := (w1 K a s0)) C 0 [0, 1, 2, 3, 4, 5] (kX1_isOpenRight l K (pk a [0, 1, 2, 3, 4, 5]) s0 ((p1 - p1 / (12 : Int32) * (12 : Int32)) - (1 : Int32)) r2 hr2) ycX1_isOpenRight mw_423 (Nat.le_of_ble_eq_true rfl) rfl rfl rfl rfl (Nat.le_of_ble_eq_true rfl) ⟨Nat.zero_le _, Nat.zero_le _⟩ dX1_startsRoom_20 (ll_56 _ _ _) rfl rfl (Wr_same (ll_56 _ _ _)) ?_
    refine Go_if_ne (pc := 23) (tgt := 30) C dX1_startsRoom_23 (by decide) (fun hc => ?_) (fun hc => ?_)
    · replace hf := ift hc hf
      refine Go_iconst (pc := 26) (v := 1) C dX1_startsRoom_26 ci_1 ?_
      refine Go_goto (pc := 27) (tgt := 31) C dX1_startsRoom_27 (by decide) ?_
      obtain rfl := Option.some.inj hf
      exact Go_zret C hr (Or.inr rfl) rfl dX1_startsRoom_31
    · replace hf := iff' hc hf
      refine Go_iconst (pc := 30) (v := 0) C dX1_startsRoom_30 ci_0 ?_
      obtain rfl := Option.some.inj hf
      exact Go_zret C hr (Or.inl rfl) rfl dX1_startsRoom_31
  · replace hf := iff' hc hf
    refine Go_iconst (pc := 30) (v := 0) C dX1_startsRoom_30 ci_0 ?_
    obtain rfl := Option.some.inj hf
    exact Go_zret C hr (Or.inl rfl) rfl dX1_startsRoom_31
def fX1_countRooms_L4 (s0 : S1) (q1 : Int32 × Int32) : Option ((Int32 × Int32) ⊕ (Int32 × Int32)) := (if (96 : Int32) ≤ q1.2 then some (.inr (q1.1, q1.2)) else Option.bind (fX1_startsRoom s0 q1.2) (fun r2 => (if r2 = 0 then Option.bind (some (q1.2 + (1 : Int32))) (fun v3 => some (.inl (q1.1, v3))) else Option.bind (some (q1.1 + (1 : Int32))) (fun v4 => Option.bind (some (q1.2 + (1 : Int32))) (fun v5 => some (.inl (v4, v5)))))))
def fX1_countRooms (s0 : S1) : Option (Int32) := Option.bind (loopF (fX1_countRooms_L4 s0) 5000 ((0 : Int32), (0 : Int32))) (fun z6 => some z6.1)
theorem ycX1_countRooms : CalV yX1_countRooms cX1_countRooms 3 ((some .int)) 0 := ⟨mw_414, mw_62, mw_412, mw_413, ⟨by decide, by decide, by decide +kernel⟩, by decide⟩
set_option maxHeartbeats 4000000 in
set_option maxRecDepth 100000 in
theorem kX1_countRooms (l : Launch) (K : KK) (a : Nat → Nat) (s0 : S1) (res : Int32) (hf : fX1_countRooms s0 = some res) : Ct l K yX1_countRooms cX1_countRooms 3 ((some .int)) 2 [.ref (a 0)] (w1 K a s0) (some (.int res)) (w1 K a s0) := by
  refine Ct_of2 (by decide) rfl (Nat.le_of_ble_eq_true rfl) ?_
  intro p e σ m args below meth c C hr
  unfold fX1_countRooms at hf
  refine Go_iconst (pc := 0) (v := 0) C dX1_countRooms_0 ci_0 ?_
  refine Go_istore_n (pc := 1) C dX1_countRooms_1 (by decide) ?_
  refine Go_iconst (pc := 2) (v := 0) C dX1_countRooms_2 ci_0 ?_
  refine Go_istore_n (pc := 3) C dX1_countRooms_3 (by decide) ?_
  obtain ⟨z6, hz6, hf⟩ := bnd hf
  refine Go_mask [true, true, true] ?_
  refine loopF_go (step := (fX1_countRooms_L4 s0)) (fun q1 => Go p l e (rmc 2 0 0) σ m args below meth c K (inW (w1 K a s0)) σ.heap 3 0 0 (MQ below (CtQ K (w1 K a s0) (some (.int res)) (w1 K a s0)) args σ 0 0 (inW (w1 K a s0))) (w1 K a s0) 4 [some (.ref (a 0)), some (.int q1.1), some (.int q1.2)] []) (fun z6 => Go p l e (rmc 2 0 0) σ m args below meth c K (inW (w1 K a s0)) σ.heap 3 0 0 (MQ below (CtQ K (w1 K a s0) (some (.int res)) (w1 K a s0)) args σ 0 0 (inW (w1 K a s0))) (w1 K a s0) 27 [some (.ref (a 0)), some (.int z6.1), some (.int z6.2)] []) ?_ _ _ _ hz6 ?_
  · intro q1 x hf hk
    unfold fX1_countRooms_L4 at hf
    refine Go_iload_n (pc := 4) C dX1_countRooms_4 rfl ?_
    refine Go_bipush (pc := 5) (v := 96) C dX1_countRooms_5 cb_96 ?_
    refine Go_icmp_ge (pc := 7) (tgt := 27) C dX1_countRooms_7 (by decide) (fun hc => ?_) (fun hc => ?_)
    · replace hf := ift hc hf
      obtain rfl := Option.some.inj hf
      exact Go_mask [true, true, true] hk
    · replace hf := iff' hc hf
      refine Go_aload_n (pc := 10) C dX1_countRooms_10 rfl ?_
      refine Go_iload_n (pc := 11) C dX1_countRooms_11 rfl ?_
      obtain ⟨r2, hr2, hf⟩ := bnd hf
      refine Go_callV1 (pc := 12) (ws1 := (w1 K a s0)) C 0 [0, 1, 2, 3, 4, 5] (kX1_startsRoom l K (pk a [0, 1, 2, 3, 4, 5]) s0 q1.2 r2 hr2) ycX1_startsRoom mw_415 (Nat.le_of_ble_eq_true rfl) rfl rfl rfl rfl (Nat.le_of_ble_eq_true rfl) ⟨Nat.zero_le _, Nat.zero_le _⟩ dX1_countRooms_12 (ll_56 _ _ _) rfl rfl (Wr_same (ll_56 _ _ _)) ?_
      refine Go_if_eq (pc := 15) (tgt := 21) C dX1_countRooms_15 (by decide) (fun hc => ?_) (fun hc => ?_)
      · replace hf := ift hc hf
        obtain ⟨v3, hv3, hf⟩ := bnd hf
        refine Go_iinc (pc := 21) (v := v3) C dX1_countRooms_21 rfl (by rw [ci_1]; exact Option.some.inj hv3) ?_
        refine Go_goto (pc := 24) (tgt := 4) C dX1_countRooms_24 (by decide) ?_
        obtain rfl := Option.some.inj hf
        exact Go_mask [true, true, true] hk
      · replace hf := iff' hc hf
        obtain ⟨v4, hv4, hf⟩ := bnd hf
        refine Go_iinc (pc := 18) (v := v4) C dX1_countRooms_18 rfl (by rw [ci_1]; exact Option.some.inj hv4) ?_
        obtain ⟨v5, hv5, hf⟩ := bnd hf
        refine Go_iinc (pc := 21) (v := v5) C dX1_countRooms_21 rfl (by rw [ci_1]; exact Option.some.inj hv5) ?_
        refine Go_goto (pc := 24) (tgt := 4) C dX1_countRooms_24 (by decide) ?_
        obtain rfl := Option.some.inj hf
        exact Go_mask [true, true, true] hk
  · show Go _ _ _ _ _ _ _ _ _ _ _ _ _ _ _ _ _ _ _ _ _
    refine Go_iload_n (pc := 27) C dX1_countRooms_27 rfl ?_
    obtain rfl := Option.some.inj hf
    exact Go_iret C hr rfl dX1_countRooms_28
