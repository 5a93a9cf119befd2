theorem ll_72 (K : KK) (a : Nat → Nat) (t0 : S5) (t1 : S1) : ([1, 2, 3, 4, 5, 6, 14, 15, 16, 17, 18, 19] : List Nat).map (fun i => (w5 K a t0 ++ w1 K (sh a 14) t1)[i]?) = List.map some (w1 K (pk a [1, 2, 3, 4, 5, 6, 14, 15, 16, 17, 18, 19]) t0.1 ++ w1 K (sh (pk a [1, 2, 3, 4, 5, 6, 14, 15, 16, 17, 18, 19]) 6) t1) := rfl
theorem ll_73 (K : KK) (a : Nat → Nat) (t0 : S5) (t1 : S1) (y0 : S1) : Wr (w5 K a t0 ++ w1 K (sh a 14) t1) [1, 2, 3, 4, 5, 6, 14, 15, 16, 17, 18, 19] (w1 K (pk a [1, 2, 3, 4, 5, 6, 14, 15, 16, 17, 18, 19]) y0 ++ w1 K (sh (pk a [1, 2, 3, 4, 5, 6, 14, 15, 16, 17, 18, 19]) 6) t1) (w5 K a ((y0, t0.2)) ++ w1 K (sh a 14) t1) := ⟨[0, 7, 8, 9, 10, 11, 12, 13], 20, rfl, (show List.map (fun i => (w5 K a ((y0, t0.2)) ++ w1 K (sh a 14) t1)[i]?) _ = ([some (a 0, .inr (5, [.ref (a 1), .ref (a 7), .ref (a 12)])), some (a 7, .inr (0, [.ref (a 8), .ref (a 9), .ref (a 10), .ref (a 11)])), some (a 8, .inl (K.2.1, 96, .inl (t0.2.1.1))), some (a 9, .inl (K.2.1, 96, .inl (t0.2.1.2.1))), some (a 10, .inl (K.2.1, 12, .inl (t0.2.1.2.2.1))), some (a 11, .inl (K.2.1, 12, .inl (t0.2.1.2.2.2))), some (a 12, .inr (2, [.ref (a 13), .int (t0.2.2.2)])), some (a 13, .inl (K.2.1, 12, .inl (t0.2.2.1)))] : List (Option (Nat × va_E))) from rfl).trans (show List.map (fun i => (w5 K a t0 ++ w1 K (sh a 14) t1)[i]?) _ = ([some (a 0, .inr (5, [.ref (a 1), .ref (a 7), .ref (a 12)])), some (a 7, .inr (0, [.ref (a 8), .ref (a 9), .ref (a 10), .ref (a 11)])), some (a 8, .inl (K.2.1, 96, .inl (t0.2.1.1))), some (a 9, .inl (K.2.1, 96, .inl (t0.2.1.2.1))), some (a 10, .inl (K.2.1, 12, .inl (t0.2.1.2.2.1))), some (a 11, .inl (K.2.1, 12, .inl (t0.2.1.2.2.2))), some (a 12, .inr (2, [.ref (a 13), .int (t0.2.2.2)])), some (a 13, .inl (K.2.1, 12, .inl (t0.2.2.1)))] : List (Option (Nat × va_E))) from rfl).symm, rfl, by decide⟩
def fX5_start (s0 : S5) (s1 : S1) : Option (S5) := Option.bind (fX1_copy s0.1 s1) (fun r1 => some ((r1, s0.2)))
theorem ycX5_start : CalV yX5_start cX5_start 2 none 1 := ⟨mw_483, mw_67, mw_481, mw_482, ⟨by decide, by decide, by decide +kernel⟩, by decide⟩
set_option maxHeartbeats 4000000 in
set_option maxRecDepth 100000 in
theorem kX5_start (l : Launch) (K : KK) (a : Nat → Nat) (s0 : S5) (s1 : S1) (res : S5) (hf : fX5_start s0 s1 = some res) : Ct l K yX5_start cX5_start 2 none 2 [.ref (a 0), .ref (a 14)] (w5 K a s0 ++ w1 K (sh a 14) s1) (none) (w5 K a res ++ w1 K (sh a 14) s1) := by
  refine Ct_of2 (by decide) rfl (Nat.le_of_ble_eq_true rfl) ?_
  intro p e σ m args below meth c C hr
  unfold fX5_start at hf
  refine Go_aload_n (pc := 0) C dX5_start_0 rfl ?_
  refine Go_get (pc := 1) C 0 0 rfl rfl inX5 (by decide) mw_206 rfl dX5_start_1 ?_
  refine Go_aload_n (pc := 4) C dX5_start_4 rfl ?_
  obtain ⟨r1, hr1, hf⟩ := bnd hf
  refine Go_callV0 (pc := 5) (ws1 := (w5 K a ((r1, s0.2)) ++ w1 K (sh a 14) s1)) C 1 [1, 2, 3, 4, 5, 6, 14, 15, 16, 17, 18, 19] (kX1_copy l K (pk a [1, 2, 3, 4, 5, 6, 14, 15, 16, 17, 18, 19]) s0.1 s1 r1 hr1) ycX1_copy mw_484 (Nat.le_of_ble_eq_true rfl) rfl rfl rfl rfl (Nat.le_of_ble_eq_true rfl) ⟨Nat.zero_le _, Nat.zero_le _⟩ dX5_start_5 (ll_72 _ _ _ _) rfl rfl (ll_73 _ _ _ _ _) ?_
  obtain rfl := Option.some.inj hf
  exact Go_vret C hr rfl dX5_start_8
theorem ll_74 (K : KK) (a : Nat → Nat) (t0 : S5) : ((12 :: 13 :: 1 :: 2 :: 3 :: 4 :: 5 :: 6 :: 7 :: 8 :: 9 :: 10 :: 11 :: []) : List Nat).map (fun i => (w5 K a t0)[i]?) = List.map some (w2 K (pk a (12 :: 13 :: 1 :: 2 :: 3 :: 4 :: 5 :: 6 :: 7 :: 8 :: 9 :: 10 :: 11 :: [])) t0.2.2 ++ w1 K (sh (pk a (12 :: 13 :: 1 :: 2 :: 3 :: 4 :: 5 :: 6 :: 7 :: 8 :: 9 :: 10 :: 11 :: [])) 2) t0.1 ++ w0 K (sh (pk a (12 :: 13 :: 1 :: 2 :: 3 :: 4 :: 5 :: 6 :: 7 :: 8 :: 9 :: 10 :: 11 :: [])) 8) t0.2.1) := rfl
theorem ll_75 (K : KK) (a : Nat → Nat) (t0 : S5) (y0 : S2) (y1 : S1) (y2 : S0) : Wr (w5 K a t0) (12 :: 13 :: 1 :: 2 :: 3 :: 4 :: 5 :: 6 :: 7 :: 8 :: 9 :: 10 :: 11 :: []) (w2 K (pk a (12 :: 13 :: 1 :: 2 :: 3 :: 4 :: 5 :: 6 :: 7 :: 8 :: 9 :: 10 :: 11 :: [])) y0 ++ w1 K (sh (pk a (12 :: 13 :: 1 :: 2 :: 3 :: 4 :: 5 :: 6 :: 7 :: 8 :: 9 :: 10 :: 11 :: [])) 2) y1 ++ w0 K (sh (pk a (12 :: 13 :: 1 :: 2 :: 3 :: 4 :: 5 :: 6 :: 7 :: 8 :: 9 :: 10 :: 11 :: [])) 8) y2) (w5 K a ((y1, y2, y0))) := ⟨[0], 14, rfl, (show List.map (fun i => (w5 K a ((y1, y2, y0)))[i]?) _ = ([some (a 0, .inr (5, [.ref (a 1), .ref (a 7), .ref (a 12)]))] : List (Option (Nat × va_E))) from rfl).trans (show List.map (fun i => (w5 K a t0)[i]?) _ = ([some (a 0, .inr (5, [.ref (a 1), .ref (a 7), .ref (a 12)]))] : List (Option (Nat × va_E))) from rfl).symm, rfl, by decide⟩
def fX5_crush (s0 : S5) : Option (Int32 × S5) := Option.bind (fX2_crush s0.2.2 s0.1 s0.2.1) (fun r1 => some (r1.1, (r1.2.2.1, r1.2.2.2, r1.2.1)))
theorem ycX5_crush : CalV yX5_crush cX5_crush 1 ((some .int)) 0 := ⟨mw_488, mw_67, mw_486, mw_487, ⟨by decide, by decide, by decide +kernel⟩, by decide⟩
set_option maxHeartbeats 4000000 in
set_option maxRecDepth 100000 in
theorem kX5_crush (l : Launch) (K : KK) (a : Nat → Nat) (s0 : S5) (res : Int32 × S5) (hf : fX5_crush s0 = some res) : Ct l K yX5_crush cX5_crush 1 ((some .int)) 4 [.ref (a 0)] (w5 K a s0) (some (.int res.1)) (w5 K a res.2) := by
  refine Ct_of2 (by decide) rfl (Nat.le_of_ble_eq_true rfl) ?_
  intro p e σ m args below meth c C hr
  unfold fX5_crush at hf
  refine Go_aload_n (pc := 0) C dX5_crush_0 rfl ?_
  refine Go_get (pc := 1) C 0 2 rfl rfl inX5 (by decide) mw_211 rfl dX5_crush_1 ?_
  refine Go_aload_n (pc := 4) C dX5_crush_4 rfl ?_
  refine Go_get (pc := 5) C 0 0 rfl rfl inX5 (by decide) mw_206 rfl dX5_crush_5 ?_
  refine Go_aload_n (pc := 8) C dX5_crush_8 rfl ?_
  refine Go_get (pc := 9) C 0 1 rfl rfl inX5 (by decide) mw_209 rfl dX5_crush_9 ?_
  obtain ⟨r1, hr1, hf⟩ := bnd hf
  refine Go_callV1 (pc := 12) (ws1 := (w5 K a ((r1.2.2.1, r1.2.2.2, r1.2.1)))) C 12 (12 :: 13 :: 1 :: 2 :: 3 :: 4 :: 5 :: 6 :: 7 :: 8 :: 9 :: 10 :: 11 :: []) (kX2_crush l K (pk a (12 :: 13 :: 1 :: 2 :: 3 :: 4 :: 5 :: 6 :: 7 :: 8 :: 9 :: 10 :: 11 :: [])) s0.2.2 s0.1 s0.2.1 r1 hr1) ycX2_crush mw_489 (Nat.le_of_ble_eq_true rfl) rfl rfl rfl rfl (Nat.le_of_ble_eq_true rfl) ⟨Nat.zero_le _, Nat.zero_le _⟩ dX5_crush_12 (ll_74 _ _ _) rfl rfl (ll_75 _ _ _ _ _ _) ?_
  obtain rfl := Option.some.inj hf
  exact Go_iret C hr rfl dX5_crush_15
theorem ll_76 (K : KK) (a : Nat → Nat) (t0 : S5) (t1 : S1) : ((0 :: 1 :: 2 :: 3 :: 4 :: 5 :: 6 :: 7 :: 8 :: 9 :: 10 :: 11 :: 12 :: 13 :: 14 :: 15 :: 16 :: 17 :: 18 :: 19 :: []) : List Nat).map (fun i => (w5 K a t0 ++ w1 K (sh a 14) t1)[i]?) = List.map some (w5 K (pk a (0 :: 1 :: 2 :: 3 :: 4 :: 5 :: 6 :: 7 :: 8 :: 9 :: 10 :: 11 :: 12 :: 13 :: 14 :: 15 :: 16 :: 17 :: 18 :: 19 :: [])) t0 ++ w1 K (sh (pk a (0 :: 1 :: 2 :: 3 :: 4 :: 5 :: 6 :: 7 :: 8 :: 9 :: 10 :: 11 :: 12 :: 13 :: 14 :: 15 :: 16 :: 17 :: 18 :: 19 :: [])) 14) t1) := rfl
theorem ll_77 (K : KK) (a : Nat → Nat) (t0 : S5) (t1 : S1) (y0 : S5) : Wr (w5 K a t0 ++ w1 K (sh a 14) t1) (0 :: 1 :: 2 :: 3 :: 4 :: 5 :: 6 :: 7 :: 8 :: 9 :: 10 :: 11 :: 12 :: 13 :: 14 :: 15 :: 16 :: 17 :: 18 :: 19 :: []) (w5 K (pk a (0 :: 1 :: 2 :: 3 :: 4 :: 5 :: 6 :: 7 :: 8 :: 9 :: 10 :: 11 :: 12 :: 13 :: 14 :: 15 :: 16 :: 17 :: 18 :: 19 :: [])) y0 ++ w1 K (sh (pk a (0 :: 1 :: 2 :: 3 :: 4 :: 5 :: 6 :: 7 :: 8 :: 9 :: 10 :: 11 :: 12 :: 13 :: 14 :: 15 :: 16 :: 17 :: 18 :: 19 :: [])) 14) t1) (w5 K a y0 ++ w1 K (sh a 14) t1) := ⟨[], 20, rfl, (show List.map (fun i => (w5 K a y0 ++ w1 K (sh a 14) t1)[i]?) _ = ([] : List (Option (Nat × va_E))) from rfl).trans (show List.map (fun i => (w5 K a t0 ++ w1 K (sh a 14) t1)[i]?) _ = ([] : List (Option (Nat × va_E))) from rfl).symm, rfl, by decide⟩
theorem ll_78 (K : KK) (a : Nat → Nat) (t0 : S5) (t1 : S1) (y : Nat → Int32) : List.set (w5 K a t0 ++ w1 K (sh a 14) t1) 5 (a 5, .inl (K.2.1, 12, .inl y)) = (w5 K a (((t0.1.1, t0.1.2.1, t0.1.2.2.1, y, t0.1.2.2.2.2), t0.2)) ++ w1 K (sh a 14) t1) := rfl
theorem ll_79 (K : KK) (a : Nat → Nat) (t0 : S5) (t1 : S1) : ((0 :: 1 :: 2 :: 3 :: 4 :: 5 :: 6 :: 7 :: 8 :: 9 :: 10 :: 11 :: 12 :: 13 :: []) : List Nat).map (fun i => (w5 K a t0 ++ w1 K (sh a 14) t1)[i]?) = List.map some (w5 K (pk a (0 :: 1 :: 2 :: 3 :: 4 :: 5 :: 6 :: 7 :: 8 :: 9 :: 10 :: 11 :: 12 :: 13 :: [])) t0) := rfl
theorem ll_80 (K : KK) (a : Nat → Nat) (t0 : S5) (t1 : S1) (y0 : S5) : Wr (w5 K a t0 ++ w1 K (sh a 14) t1) (0 :: 1 :: 2 :: 3 :: 4 :: 5 :: 6 :: 7 :: 8 :: 9 :: 10 :: 11 :: 12 :: 13 :: []) (w5 K (pk a (0 :: 1 :: 2 :: 3 :: 4 :: 5 :: 6 :: 7 :: 8 :: 9 :: 10 :: 11 :: 12 :: 13 :: [])) y0) (w5 K a y0 ++ w1 K (sh a 14) t1) := ⟨[14, 15, 16, 17, 18, 19], 20, rfl, (show List.map (fun i => (w5 K a y0 ++ w1 K (sh a 14) t1)[i]?) _ = ([some (a 14, .inr (1, [.ref (a 15), .ref (a 16), .ref (a 17), .ref (a 18), .ref (a 19), .int (t1.2.2.2.2.2)])), some (a 15, .inl (K.2.1, 96, .inl (t1.1))), some (a 16, .inl (K.2.1, 12, .inl (t1.2.1))), some (a 17, .inl (K.2.1, 12, .inl (t1.2.2.1))), some (a 18, .inl (K.2.1, 12, .inl (t1.2.2.2.1))), some (a 19, .inl (K.2.1, 21, .inl (t1.2.2.2.2.1)))] : List (Option (Nat × va_E))) from rfl).trans (show List.map (fun i => (w5 K a t0 ++ w1 K (sh a 14) t1)[i]?) _ = ([some (a 14, .inr (1, [.ref (a 15), .ref (a 16), .ref (a 17), .ref (a 18), .ref (a 19), .int (t1.2.2.2.2.2)])), some (a 15, .inl (K.2.1, 96, .inl (t1.1))), some (a 16, .inl (K.2.1, 12, .inl (t1.2.1))), some (a 17, .inl (K.2.1, 12, .inl (t1.2.2.1))), some (a 18, .inl (K.2.1, 12, .inl (t1.2.2.2.1))), some (a 19, .inl (K.2.1, 21, .inl (t1.2.2.2.2.1)))] : List (Option (Nat × va_E))) from rfl).symm, rfl, by decide⟩
def fX5_lose (s0 : S5) (s1 : S1) (p2 : Int32) : Option (Int32 × S5) := Option.bind (fX5_start s0 s1) (fun r1 => (if 0 ≤ p2 ∧ p2.toNatClampNeg < 12 then Option.bind (fX5_crush (((r1.1.1, r1.1.2.1, r1.1.2.2.1, upd r1.1.2.2.2.1 p2.toNatClampNeg (0 : Int32), r1.1.2.2.2.2), r1.2))) (fun r2 => some ((1 : Int32) + r2.1, r2.2)) else none))
theorem ycX5_lose : CalV yX5_lose cX5_lose 3 ((some .int)) 2 := ⟨mw_479, mw_67, mw_477, mw_478, ⟨by decide, by decide, by decide +kernel⟩, by decide⟩
set_option maxHeartbeats 4000000 in
set_option maxRecDepth 100000 in
theorem kX5_lose (l : Launch) (K : KK) (a : Nat → Nat) (s0 : S5) (s1 : S1) (p2 : Int32) (res : Int32 × S5) (hf : fX5_lose s0 s1 p2 = some res) : Ct l K yX5_lose cX5_lose 3 ((some .int)) 5 [.ref (a 0), .ref (a 14), .int p2] (w5 K a s0 ++ w1 K (sh a 14) s1) (some (.int res.1)) (w5 K a res.2 ++ w1 K (sh a 14) s1) := by
  refine Ct_of2 (by decide) rfl (Nat.le_of_ble_eq_true rfl) ?_
  intro p e σ m args below meth c C hr
  unfold fX5_lose at hf
  refine Go_aload_n (pc := 0) C dX5_lose_0 rfl ?_
  refine Go_aload_n (pc := 1) C dX5_lose_1 rfl ?_
  obtain ⟨r1, hr1, hf⟩ := bnd hf
  refine Go_callV0 (pc := 2) (ws1 := (w5 K a r1 ++ w1 K (sh a 14) s1)) C 0 (0 :: 1 :: 2 :: 3 :: 4 :: 5 :: 6 :: 7 :: 8 :: 9 :: 10 :: 11 :: 12 :: 13 :: 14 :: 15 :: 16 :: 17 :: 18 :: 19 :: []) (kX5_start l K (pk a (0 :: 1 :: 2 :: 3 :: 4 :: 5 :: 6 :: 7 :: 8 :: 9 :: 10 :: 11 :: 12 :: 13 :: 14 :: 15 :: 16 :: 17 :: 18 :: 19 :: [])) s0 s1 r1 hr1) ycX5_start mw_480 (Nat.le_of_ble_eq_true rfl) rfl rfl rfl rfl (Nat.le_of_ble_eq_true rfl) ⟨Nat.zero_le _, Nat.zero_le _⟩ dX5_lose_2 (ll_76 _ _ _ _) rfl rfl (ll_77 _ _ _ _ _) ?_
  refine Go_aload_n (pc := 5) C dX5_lose_5 rfl ?_
  refine Go_get (pc := 6) C 0 0 rfl rfl inX5 (by decide) mw_206 rfl dX5_lose_6 ?_
  refine Go_get (pc := 9) C 1 3 rfl rfl inX1 (by decide) mw_105 rfl dX5_lose_9 ?_
  refine Go_iload_n (pc := 12) C dX5_lose_12 rfl ?_
  refine Go_iconst (pc := 13) (v := 0) C dX5_lose_13 ci_0 ?_
  obtain ⟨hb, hf⟩ := ifs hf
  refine Go_iast (pc := 14) (ws1 := (w5 K a (((r1.1.1, r1.1.2.1, r1.1.2.2.1, upd r1.1.2.2.2.1 p2.toNatClampNeg (0 : Int32), r1.1.2.2.2.2), r1.2)) ++ w1 K (sh a 14) s1)) C 5 rfl (inb_in hb) dX5_lose_14 (ll_78 _ _ _ _ _) ?_
  refine Go_iconst (pc := 15) (v := 1) C dX5_lose_15 ci_1 ?_
  refine Go_aload_n (pc := 16) C dX5_lose_16 rfl ?_
  obtain ⟨r2, hr2, hf⟩ := bnd hf
  refine Go_callV1 (pc := 17) (ws1 := (w5 K a r2.2 ++ w1 K (sh a 14) s1)) C 0 (0 :: 1 :: 2 :: 3 :: 4 :: 5 :: 6 :: 7 :: 8 :: 9 :: 10 :: 11 :: 12 :: 13 :: []) (kX5_crush l K (pk a (0 :: 1 :: 2 :: 3 :: 4 :: 5 :: 6 :: 7 :: 8 :: 9 :: 10 :: 11 :: 12 :: 13 :: [])) (((r1.1.1, r1.1.2.1, r1.1.2.2.1, upd r1.1.2.2.2.1 p2.toNatClampNeg (0 : Int32), r1.1.2.2.2.2), r1.2)) r2 hr2) ycX5_crush mw_485 (Nat.le_of_ble_eq_true rfl) rfl rfl rfl rfl (Nat.le_of_ble_eq_true rfl) ⟨Nat.zero_le _, Nat.zero_le _⟩ dX5_lose_17 (ll_79 _ _ _ _) rfl rfl (ll_80 _ _ _ _ _) ?_
  refine Go_iadd (pc := 20) C dX5_lose_20 ?_
  obtain rfl := Option.some.inj hf
  exact Go_iret C hr rfl dX5_lose_21
theorem ll_87 (K : KK) (a : Nat → Nat) (t0 : S5) (t1 : S1) (y : Nat → Int32) : List.set (w5 K a t0 ++ w1 K (sh a 14) t1) 6 (a 6, .inl (K.2.1, 21, .inl y)) = (w5 K a (((t0.1.1, t0.1.2.1, t0.1.2.2.1, t0.1.2.2.2.1, y, t0.1.2.2.2.2.2), t0.2)) ++ w1 K (sh a 14) t1) := rfl
theorem ll_88 (K : KK) (a : Nat → Nat) (t0 : S5) (t1 : S1) : ([1, 2, 3, 4, 5, 6] : List Nat).map (fun i => (w5 K a t0 ++ w1 K (sh a 14) t1)[i]?) = List.map some (w1 K (pk a [1, 2, 3, 4, 5, 6]) t0.1) := rfl
def fX5_build (s0 : S5) (s1 : S1) (p2 : Int32) : Option (Int32 × S5) := Option.bind (fX5_start s0 s1) (fun r1 => (if 0 ≤ p2 ∧ p2.toNatClampNeg < 21 then Option.bind (fX5_crush (((r1.1.1, r1.1.2.1, r1.1.2.2.1, r1.1.2.2.2.1, upd r1.1.2.2.2.2.1 p2.toNatClampNeg (1 : Int32), r1.1.2.2.2.2.2), r1.2))) (fun r2 => Option.bind (fX1_countStanding r2.2.1) (fun r3 => some (r3, r2.2))) else none))
theorem ycX5_build : CalV yX5_build cX5_build 3 ((some .int)) 2 := ⟨mw_517, mw_67, mw_515, mw_516, ⟨by decide, by decide, by decide +kernel⟩, by decide⟩
set_option maxHeartbeats 4000000 in
set_option maxRecDepth 100000 in
theorem kX5_build (l : Launch) (K : KK) (a : Nat → Nat) (s0 : S5) (s1 : S1) (p2 : Int32) (res : Int32 × S5) (hf : fX5_build s0 s1 p2 = some res) : Ct l K yX5_build cX5_build 3 ((some .int)) 5 [.ref (a 0), .ref (a 14), .int p2] (w5 K a s0 ++ w1 K (sh a 14) s1) (some (.int res.1)) (w5 K a res.2 ++ w1 K (sh a 14) s1) := by
  refine Ct_of2 (by decide) rfl (Nat.le_of_ble_eq_true rfl) ?_
  intro p e σ m args below meth c C hr
  unfold fX5_build at hf
  refine Go_aload_n (pc := 0) C dX5_build_0 rfl ?_
  refine Go_aload_n (pc := 1) C dX5_build_1 rfl ?_
  obtain ⟨r1, hr1, hf⟩ := bnd hf
  refine Go_callV0 (pc := 2) (ws1 := (w5 K a r1 ++ w1 K (sh a 14) s1)) C 0 (0 :: 1 :: 2 :: 3 :: 4 :: 5 :: 6 :: 7 :: 8 :: 9 :: 10 :: 11 :: 12 :: 13 :: 14 :: 15 :: 16 :: 17 :: 18 :: 19 :: []) (kX5_start l K (pk a (0 :: 1 :: 2 :: 3 :: 4 :: 5 :: 6 :: 7 :: 8 :: 9 :: 10 :: 11 :: 12 :: 13 :: 14 :: 15 :: 16 :: 17 :: 18 :: 19 :: [])) s0 s1 r1 hr1) ycX5_start mw_480 (Nat.le_of_ble_eq_true rfl) rfl rfl rfl rfl (Nat.le_of_ble_eq_true rfl) ⟨Nat.zero_le _, Nat.zero_le _⟩ dX5_build_2 (ll_76 _ _ _ _) rfl rfl (ll_77 _ _ _ _ _) ?_
  refine Go_aload_n (pc := 5) C dX5_build_5 rfl ?_
  refine Go_get (pc := 6) C 0 0 rfl rfl inX5 (by decide) mw_206 rfl dX5_build_6 ?_
  refine Go_get (pc := 9) C 1 4 rfl rfl inX1 (by decide) mw_110 rfl dX5_build_9 ?_
  refine Go_iload_n (pc := 12) C dX5_build_12 rfl ?_
  refine Go_iconst (pc := 13) (v := 1) C dX5_build_13 ci_1 ?_
  obtain ⟨hb, hf⟩ := ifs hf
  refine Go_iast (pc := 14) (ws1 := (w5 K a (((r1.1.1, r1.1.2.1, r1.1.2.2.1, r1.1.2.2.2.1, upd r1.1.2.2.2.2.1 p2.toNatClampNeg (1 : Int32), r1.1.2.2.2.2.2), r1.2)) ++ w1 K (sh a 14) s1)) C 6 rfl (inb_in hb) dX5_build_14 (ll_87 _ _ _ _ _) ?_
  refine Go_aload_n (pc := 15) C dX5_build_15 rfl ?_
  obtain ⟨r2, hr2, hf⟩ := bnd hf
  refine Go_callV1 (pc := 16) (ws1 := (w5 K a r2.2 ++ w1 K (sh a 14) s1)) C 0 (0 :: 1 :: 2 :: 3 :: 4 :: 5 :: 6 :: 7 :: 8 :: 9 :: 10 :: 11 :: 12 :: 13 :: []) (kX5_crush l K (pk a (0 :: 1 :: 2 :: 3 :: 4 :: 5 :: 6 :: 7 :: 8 :: 9 :: 10 :: 11 :: 12 :: 13 :: [])) (((r1.1.1, r1.1.2.1, r1.1.2.2.1, r1.1.2.2.2.1, upd r1.1.2.2.2.2.1 p2.toNatClampNeg (1 : Int32), r1.1.2.2.2.2.2), r1.2)) r2 hr2) ycX5_crush mw_485 (Nat.le_of_ble_eq_true rfl) rfl rfl rfl rfl (Nat.le_of_ble_eq_true rfl) ⟨Nat.zero_le _, Nat.zero_le _⟩ dX5_build_16 (ll_79 _ _ _ _) rfl rfl (ll_80 _ _ _ _ _) ?_
  refine Go_pop (pc := 19) C dX5_build_19 rfl ?_
  refine Go_aload_n (pc := 20) C dX5_build_20 rfl ?_
  refine Go_get (pc := 21) C 0 0 rfl rfl inX5 (by decide) mw_206 rfl dX5_build_21 ?_
  obtain ⟨r3, hr3, hf⟩ := bnd hf
  refine Go_callV1 (pc := 24) (ws1 := (w5 K a r2.2 ++ w1 K (sh a 14) s1)) C 1 [1, 2, 3, 4, 5, 6] (kX1_countStanding l K (pk a [1, 2, 3, 4, 5, 6]) r2.2.1 r3 hr3) ycX1_countStanding mw_518 (Nat.le_of_ble_eq_true rfl) rfl rfl rfl rfl (Nat.le_of_ble_eq_true rfl) ⟨Nat.zero_le _, Nat.zero_le _⟩ dX5_build_24 (ll_88 _ _ _ _) rfl rfl (Wr_same (ll_88 _ _ _ _)) ?_
  obtain rfl := Option.some.inj hf
  exact Go_iret C hr rfl dX5_build_27
theorem ll_89 (K : KK) (a : Nat → Nat) (t0 : S5) (t1 : S1) (y0 : S1) : Wr (w5 K a t0 ++ w1 K (sh a 14) t1) [1, 2, 3, 4, 5, 6] (w1 K (pk a [1, 2, 3, 4, 5, 6]) y0) (w5 K a ((y0, t0.2)) ++ w1 K (sh a 14) t1) := ⟨(0 :: 7 :: 8 :: 9 :: 10 :: 11 :: 12 :: 13 :: 14 :: 15 :: 16 :: 17 :: 18 :: 19 :: []), 20, rfl, (show List.map (fun i => (w5 K a ((y0, t0.2)) ++ w1 K (sh a 14) t1)[i]?) _ = ((some (a 0, .inr (5, [.ref (a 1), .ref (a 7), .ref (a 12)])) :: some (a 7, .inr (0, [.ref (a 8), .ref (a 9), .ref (a 10), .ref (a 11)])) :: some (a 8, .inl (K.2.1, 96, .inl (t0.2.1.1))) :: some (a 9, .inl (K.2.1, 96, .inl (t0.2.1.2.1))) :: some (a 10, .inl (K.2.1, 12, .inl (t0.2.1.2.2.1))) :: some (a 11, .inl (K.2.1, 12, .inl (t0.2.1.2.2.2))) :: some (a 12, .inr (2, [.ref (a 13), .int (t0.2.2.2)])) :: some (a 13, .inl (K.2.1, 12, .inl (t0.2.2.1))) :: some (a 14, .inr (1, [.ref (a 15), .ref (a 16), .ref (a 17), .ref (a 18), .ref (a 19), .int (t1.2.2.2.2.2)])) :: some (a 15, .inl (K.2.1, 96, .inl (t1.1))) :: some (a 16, .inl (K.2.1, 12, .inl (t1.2.1))) :: some (a 17, .inl (K.2.1, 12, .inl (t1.2.2.1))) :: some (a 18, .inl (K.2.1, 12, .inl (t1.2.2.2.1))) :: some (a 19, .inl (K.2.1, 21, .inl (t1.2.2.2.2.1))) :: []) : List (Option (Nat × va_E))) from rfl).trans (show List.map (fun i => (w5 K a t0 ++ w1 K (sh a 14) t1)[i]?) _ = ((some (a 0, .inr (5, [.ref (a 1), .ref (a 7), .ref (a 12)])) :: some (a 7, .inr (0, [.ref (a 8), .ref (a 9), .ref (a 10), .ref (a 11)])) :: some (a 8, .inl (K.2.1, 96, .inl (t0.2.1.1))) :: some (a 9, .inl (K.2.1, 96, .inl (t0.2.1.2.1))) :: some (a 10, .inl (K.2.1, 12, .inl (t0.2.1.2.2.1))) :: some (a 11, .inl (K.2.1, 12, .inl (t0.2.1.2.2.2))) :: some (a 12, .inr (2, [.ref (a 13), .int (t0.2.2.2)])) :: some (a 13, .inl (K.2.1, 12, .inl (t0.2.2.1))) :: some (a 14, .inr (1, [.ref (a 15), .ref (a 16), .ref (a 17), .ref (a 18), .ref (a 19), .int (t1.2.2.2.2.2)])) :: some (a 15, .inl (K.2.1, 96, .inl (t1.1))) :: some (a 16, .inl (K.2.1, 12, .inl (t1.2.1))) :: some (a 17, .inl (K.2.1, 12, .inl (t1.2.2.1))) :: some (a 18, .inl (K.2.1, 12, .inl (t1.2.2.2.1))) :: some (a 19, .inl (K.2.1, 21, .inl (t1.2.2.2.2.1))) :: []) : List (Option (Nat × va_E))) from rfl).symm, rfl, by decide⟩
def fX5_support (s0 : S5) (s1 : S1) (p2 : Int32) (p3 : Int32) : Option (Int32 × S5) := Option.bind (fX5_start s0 s1) (fun r1 => Option.bind (fX1_add r1.1 p2 p3) (fun r2 => Option.bind (fX5_crush ((r2, r1.2))) (fun r3 => Option.bind (fX1_countStanding r3.2.1) (fun r4 => some (r4, r3.2)))))
theorem ycX5_support : CalV yX5_support cX5_support 4 ((some .int)) 3 := ⟨mw_526, mw_67, mw_524, mw_525, ⟨by decide, by decide, by decide +kernel⟩, by decide⟩
set_option maxHeartbeats 4000000 in
set_option maxRecDepth 100000 in
theorem kX5_support (l : Launch) (K : KK) (a : Nat → Nat) (s0 : S5) (s1 : S1) (p2 : Int32) (p3 : Int32) (res : Int32 × S5) (hf : fX5_support s0 s1 p2 p3 = some res) : Ct l K yX5_support cX5_support 4 ((some .int)) 5 [.ref (a 0), .ref (a 14), .int p2, .int p3] (w5 K a s0 ++ w1 K (sh a 14) s1) (some (.int res.1)) (w5 K a res.2 ++ w1 K (sh a 14) s1) := by
  refine Ct_of2 (by decide) rfl (Nat.le_of_ble_eq_true rfl) ?_
  intro p e σ m args below meth c C hr
  unfold fX5_support at hf
  refine Go_aload_n (pc := 0) C dX5_support_0 rfl ?_
  refine Go_aload_n (pc := 1) C dX5_support_1 rfl ?_
  obtain ⟨r1, hr1, hf⟩ := bnd hf
  refine Go_callV0 (pc := 2) (ws1 := (w5 K a r1 ++ w1 K (sh a 14) s1)) C 0 (0 :: 1 :: 2 :: 3 :: 4 :: 5 :: 6 :: 7 :: 8 :: 9 :: 10 :: 11 :: 12 :: 13 :: 14 :: 15 :: 16 :: 17 :: 18 :: 19 :: []) (kX5_start l K (pk a (0 :: 1 :: 2 :: 3 :: 4 :: 5 :: 6 :: 7 :: 8 :: 9 :: 10 :: 11 :: 12 :: 13 :: 14 :: 15 :: 16 :: 17 :: 18 :: 19 :: [])) s0 s1 r1 hr1) ycX5_start mw_480 (Nat.le_of_ble_eq_true rfl) rfl rfl rfl rfl (Nat.le_of_ble_eq_true rfl) ⟨Nat.zero_le _, Nat.zero_le _⟩ dX5_support_2 (ll_76 _ _ _ _) rfl rfl (ll_77 _ _ _ _ _) ?_
  refine Go_aload_n (pc := 5) C dX5_support_5 rfl ?_
  refine Go_get (pc := 6) C 0 0 rfl rfl inX5 (by decide) mw_206 rfl dX5_support_6 ?_
  refine Go_iload_n (pc := 9) C dX5_support_9 rfl ?_
  refine Go_iload_n (pc := 10) C dX5_support_10 rfl ?_
  obtain ⟨r2, hr2, hf⟩ := bnd hf
  refine Go_callV0 (pc := 11) (ws1 := (w5 K a ((r2, r1.2)) ++ w1 K (sh a 14) s1)) C 1 [1, 2, 3, 4, 5, 6] (kX1_add l K (pk a [1, 2, 3, 4, 5, 6]) r1.1 p2 p3 r2 hr2) ycX1_add mw_527 (Nat.le_of_ble_eq_true rfl) rfl rfl rfl rfl (Nat.le_of_ble_eq_true rfl) ⟨Nat.zero_le _, Nat.zero_le _⟩ dX5_support_11 (ll_88 _ _ _ _) rfl rfl (ll_89 _ _ _ _ _) ?_
  refine Go_aload_n (pc := 14) C dX5_support_14 rfl ?_
  obtain ⟨r3, hr3, hf⟩ := bnd hf
  refine Go_callV1 (pc := 15) (ws1 := (w5 K a r3.2 ++ w1 K (sh a 14) s1)) C 0 (0 :: 1 :: 2 :: 3 :: 4 :: 5 :: 6 :: 7 :: 8 :: 9 :: 10 :: 11 :: 12 :: 13 :: []) (kX5_crush l K (pk a (0 :: 1 :: 2 :: 3 :: 4 :: 5 :: 6 :: 7 :: 8 :: 9 :: 10 :: 11 :: 12 :: 13 :: [])) ((r2, r1.2)) r3 hr3) ycX5_crush mw_485 (Nat.le_of_ble_eq_true rfl) rfl rfl rfl rfl (Nat.le_of_ble_eq_true rfl) ⟨Nat.zero_le _, Nat.zero_le _⟩ dX5_support_15 (ll_79 _ _ _ _) rfl rfl (ll_80 _ _ _ _ _) ?_
  refine Go_pop (pc := 18) C dX5_support_18 rfl ?_
  refine Go_aload_n (pc := 19) C dX5_support_19 rfl ?_
  refine Go_get (pc := 20) C 0 0 rfl rfl inX5 (by decide) mw_206 rfl dX5_support_20 ?_
  obtain ⟨r4, hr4, hf⟩ := bnd hf
  refine Go_callV1 (pc := 23) (ws1 := (w5 K a r3.2 ++ w1 K (sh a 14) s1)) C 1 [1, 2, 3, 4, 5, 6] (kX1_countStanding l K (pk a [1, 2, 3, 4, 5, 6]) r3.2.1 r4 hr4) ycX1_countStanding mw_518 (Nat.le_of_ble_eq_true rfl) rfl rfl rfl rfl (Nat.le_of_ble_eq_true rfl) ⟨Nat.zero_le _, Nat.zero_le _⟩ dX5_support_23 (ll_88 _ _ _ _) rfl rfl (Wr_same (ll_88 _ _ _ _)) ?_
  obtain rfl := Option.some.inj hf
  exact Go_iret C hr rfl dX5_support_26
