def fX6_isWithin (p0 : Int32) (p1 : Int32) : Option (Int32) := (if p0 < 0 then some (0 : Int32) else (if p1 < p0 then some (0 : Int32) else some (1 : Int32)))
theorem ycX6_isWithin : CalS yX6_isWithin cX6_isWithin 2 ((some .boolean)) 2 := ⟨mw_274, mw_61, mw_273, ⟨by decide, by decide, by decide +kernel⟩, by decide⟩
set_option maxHeartbeats 4000000 in
set_option maxRecDepth 100000 in
theorem kX6_isWithin (l : Launch) (K : KK) (p0 : Int32) (p1 : Int32) (res : Int32) (hf : fX6_isWithin p0 p1 = some res) : Ct l K yX6_isWithin cX6_isWithin 2 ((some .boolean)) 0 [.int p0, .int p1] ([] : va_W) (some (.int res)) ([] : va_W) := by
  refine Ct_of2 (by decide) rfl (Nat.le_of_ble_eq_true rfl) ?_
  intro p e σ m args below meth c C hr
  unfold fX6_isWithin at hf
  refine Go_iload_n (pc := 0) C dX6_isWithin_0 rfl ?_
  refine Go_if_lt (pc := 1) (tgt := 13) C dX6_isWithin_1 (by decide) (fun hc => ?_) (fun hc => ?_)
  · replace hf := ift hc hf
    refine Go_iconst (pc := 13) (v := 0) C dX6_isWithin_13 ci_0 ?_
    obtain rfl := Option.some.inj hf
    exact Go_zret C hr (Or.inl rfl) rfl dX6_isWithin_14
  · replace hf := iff' hc hf
    refine Go_iload_n (pc := 4) C dX6_isWithin_4 rfl ?_
    refine Go_iload_n (pc := 5) C dX6_isWithin_5 rfl ?_
    refine Go_icmp_gt (pc := 6) (tgt := 13) C dX6_isWithin_6 (by decide) (fun hc => ?_) (fun hc => ?_)
    · replace hf := ift hc hf
      refine Go_iconst (pc := 13) (v := 0) C dX6_isWithin_13 ci_0 ?_
      obtain rfl := Option.some.inj hf
      exact Go_zret C hr (Or.inl rfl) rfl dX6_isWithin_14
    · replace hf := iff' hc hf
      refine Go_iconst (pc := 9) (v := 1) C dX6_isWithin_9 ci_1 ?_
      refine Go_goto (pc := 10) (tgt := 14) C dX6_isWithin_10 (by decide) ?_
      obtain rfl := Option.some.inj hf
      exact Go_zret C hr (Or.inr rfl) rfl dX6_isWithin_14
def fX6_isCell (p0 : Int32) : Option (Int32) := Option.bind (fX6_isWithin p0 (95 : Int32)) (fun r1 => (if r1 = 0 ∨ r1 = 1 then some r1 else none))
theorem ycX6_isCell : CalS yX6_isCell cX6_isCell 1 ((some .boolean)) 1 := ⟨mw_271, mw_61, mw_270, ⟨by decide, by decide, by decide +kernel⟩, by decide⟩
set_option maxHeartbeats 4000000 in
set_option maxRecDepth 100000 in
theorem kX6_isCell (l : Launch) (K : KK) (p0 : Int32) (res : Int32) (hf : fX6_isCell p0 = some res) : Ct l K yX6_isCell cX6_isCell 1 ((some .boolean)) 1 [.int p0] ([] : va_W) (some (.int res)) ([] : va_W) := by
  refine Ct_of2 (by decide) rfl (Nat.le_of_ble_eq_true rfl) ?_
  intro p e σ m args below meth c C hr
  unfold fX6_isCell at hf
  refine Go_iload_n (pc := 0) C dX6_isCell_0 rfl ?_
  refine Go_bipush (pc := 1) (v := 95) C dX6_isCell_1 cb_95 ?_
  obtain ⟨r1, hr1, hf⟩ := bnd hf
  refine Go_callS1 (pc := 3) (ws1 := ([] : va_W)) C [] (kX6_isWithin l K p0 (95 : Int32) r1 hr1) ycX6_isWithin mw_272 (Nat.le_of_ble_eq_true rfl) rfl rfl (Nat.le_of_ble_eq_true rfl) ⟨Nat.zero_le _, Nat.zero_le _⟩ dX6_isCell_3 rfl rfl rfl (Wr_same rfl) ?_
  obtain ⟨hz, hf⟩ := ifs hf
  obtain rfl := Option.some.inj hf
  exact Go_zret C hr hz rfl dX6_isCell_6
def fX6_isStrength (p0 : Int32) : Option (Int32) := Option.bind (fX6_isWithin p0 (999 : Int32)) (fun r1 => (if r1 = 0 ∨ r1 = 1 then some r1 else none))
theorem ycX6_isStrength : CalS yX6_isStrength cX6_isStrength 1 ((some .boolean)) 1 := ⟨mw_277, mw_61, mw_276, ⟨by decide, by decide, by decide +kernel⟩, by decide⟩
set_option maxHeartbeats 4000000 in
set_option maxRecDepth 100000 in
theorem kX6_isStrength (l : Launch) (K : KK) (p0 : Int32) (res : Int32) (hf : fX6_isStrength p0 = some res) : Ct l K yX6_isStrength cX6_isStrength 1 ((some .boolean)) 1 [.int p0] ([] : va_W) (some (.int res)) ([] : va_W) := by
  refine Ct_of2 (by decide) rfl (Nat.le_of_ble_eq_true rfl) ?_
  intro p e σ m args below meth c C hr
  unfold fX6_isStrength at hf
  refine Go_iload_n (pc := 0) C dX6_isStrength_0 rfl ?_
  refine Go_sipush (pc := 1) (v := 999) C dX6_isStrength_1 cs_999 ?_
  obtain ⟨r1, hr1, hf⟩ := bnd hf
  refine Go_callS1 (pc := 4) (ws1 := ([] : va_W)) C [] (kX6_isWithin l K p0 (999 : Int32) r1 hr1) ycX6_isWithin mw_272 (Nat.le_of_ble_eq_true rfl) rfl rfl (Nat.le_of_ble_eq_true rfl) ⟨Nat.zero_le _, Nat.zero_le _⟩ dX6_isStrength_4 rfl rfl rfl (Wr_same rfl) ?_
  obtain ⟨hz, hf⟩ := ifs hf
  obtain rfl := Option.some.inj hf
  exact Go_zret C hr hz rfl dX6_isStrength_7
theorem ll_9 (K : KK) (a : Nat → Nat) (t0 : S6) (y : Nat → Int32) : List.set (w6 K a t0) 68 (a 68, .inl (K.2.1, 3, .inl y)) = (w6 K a ((t0.1, t0.2.1, t0.2.2.1, t0.2.2.2.1, t0.2.2.2.2.1, t0.2.2.2.2.2.1, y))) := rfl
def fX6_refuse (s0 : S6) (p1 : Int32) : Option (Int32 × S6) := (if p1 = (-2 : Int32) then (if 0 ≤ (0 : Int32) ∧ (0 : Int32).toNatClampNeg < 3 then (if 0 ≤ (0 : Int32) ∧ (0 : Int32).toNatClampNeg < 3 then some (p1, (s0.1, s0.2.1, s0.2.2.1, s0.2.2.2.1, s0.2.2.2.2.1, s0.2.2.2.2.2.1, upd s0.2.2.2.2.2.2 (0 : Int32).toNatClampNeg ((s0.2.2.2.2.2.2 (0 : Int32).toNatClampNeg) + (1 : Int32)))) else none) else none) else (if p1 = (-3 : Int32) then (if 0 ≤ (1 : Int32) ∧ (1 : Int32).toNatClampNeg < 3 then (if 0 ≤ (1 : Int32) ∧ (1 : Int32).toNatClampNeg < 3 then some (p1, (s0.1, s0.2.1, s0.2.2.1, s0.2.2.2.1, s0.2.2.2.2.1, s0.2.2.2.2.2.1, upd s0.2.2.2.2.2.2 (1 : Int32).toNatClampNeg ((s0.2.2.2.2.2.2 (1 : Int32).toNatClampNeg) + (1 : Int32)))) else none) else none) else (if 0 ≤ (2 : Int32) ∧ (2 : Int32).toNatClampNeg < 3 then (if 0 ≤ (2 : Int32) ∧ (2 : Int32).toNatClampNeg < 3 then some (p1, (s0.1, s0.2.1, s0.2.2.1, s0.2.2.2.1, s0.2.2.2.2.1, s0.2.2.2.2.2.1, upd s0.2.2.2.2.2.2 (2 : Int32).toNatClampNeg ((s0.2.2.2.2.2.2 (2 : Int32).toNatClampNeg) + (1 : Int32)))) else none) else none)))
theorem ycX6_refuse : CalV yX6_refuse cX6_refuse 2 ((some .int)) 1 := ⟨mw_281, mw_61, mw_280, mw_0, ⟨by decide, by decide, by decide +kernel⟩, by decide⟩
set_option maxHeartbeats 4000000 in
set_option maxRecDepth 100000 in
theorem kX6_refuse (l : Launch) (K : KK) (a : Nat → Nat) (s0 : S6) (p1 : Int32) (res : Int32 × S6) (hf : fX6_refuse s0 p1 = some res) : Ct l K yX6_refuse cX6_refuse 2 ((some .int)) 0 [.ref (a 0), .int p1] (w6 K a s0) (some (.int res.1)) (w6 K a res.2) := by
  refine Ct_of2 (by decide) rfl (Nat.le_of_ble_eq_true rfl) ?_
  intro p e σ m args below meth c C hr
  unfold fX6_refuse at hf
  refine Go_iload_n (pc := 0) C dX6_refuse_0 rfl ?_
  refine Go_bipush (pc := 1) (v := -2) C dX6_refuse_1 cb_m2 ?_
  refine Go_icmp_ne (pc := 3) (tgt := 19) C dX6_refuse_3 (by decide) (fun hc => ?_) (fun hc => ?_)
  · replace hf := ift hc hf
    refine Go_aload_n (pc := 6) C dX6_refuse_6 rfl ?_
    refine Go_get (pc := 7) C 0 6 rfl rfl inX6 (by decide) mw_249 rfl dX6_refuse_7 ?_
    refine Go_iconst (pc := 10) (v := 0) C dX6_refuse_10 ci_0 ?_
    refine Go_dup2 (pc := 11) C dX6_refuse_11 rfl rfl ?_
    obtain ⟨hb, hf⟩ := ifs hf
    refine Go_iald (pc := 12) C 68 rfl (inb_in hb) dX6_refuse_12 ?_
    refine Go_iconst (pc := 13) (v := 1) C dX6_refuse_13 ci_1 ?_
    refine Go_iadd (pc := 14) C dX6_refuse_14 ?_
    obtain ⟨hb, hf⟩ := ifs hf
    refine Go_iast (pc := 15) (ws1 := (w6 K a ((s0.1, s0.2.1, s0.2.2.1, s0.2.2.2.1, s0.2.2.2.2.1, s0.2.2.2.2.2.1, upd s0.2.2.2.2.2.2 (0 : Int32).toNatClampNeg ((s0.2.2.2.2.2.2 (0 : Int32).toNatClampNeg) + (1 : Int32)))))) C 68 rfl (inb_in hb) dX6_refuse_15 (ll_9 _ _ _ _) ?_
    refine Go_goto (pc := 16) (tgt := 48) C dX6_refuse_16 (by decide) ?_
    refine Go_iload_n (pc := 48) C dX6_refuse_48 rfl ?_
    obtain rfl := Option.some.inj hf
    exact Go_iret C hr rfl dX6_refuse_49
  · replace hf := iff' hc hf
    refine Go_iload_n (pc := 19) C dX6_refuse_19 rfl ?_
    refine Go_bipush (pc := 20) (v := -3) C dX6_refuse_20 cb_m3 ?_
    refine Go_icmp_ne (pc := 22) (tgt := 38) C dX6_refuse_22 (by decide) (fun hc => ?_) (fun hc => ?_)
    · replace hf := ift hc hf
      refine Go_aload_n (pc := 25) C dX6_refuse_25 rfl ?_
      refine Go_get (pc := 26) C 0 6 rfl rfl inX6 (by decide) mw_249 rfl dX6_refuse_26 ?_
      refine Go_iconst (pc := 29) (v := 1) C dX6_refuse_29 ci_1 ?_
      refine Go_dup2 (pc := 30) C dX6_refuse_30 rfl rfl ?_
      obtain ⟨hb, hf⟩ := ifs hf
      refine Go_iald (pc := 31) C 68 rfl (inb_in hb) dX6_refuse_31 ?_
      refine Go_iconst (pc := 32) (v := 1) C dX6_refuse_32 ci_1 ?_
      refine Go_iadd (pc := 33) C dX6_refuse_33 ?_
      obtain ⟨hb, hf⟩ := ifs hf
      refine Go_iast (pc := 34) (ws1 := (w6 K a ((s0.1, s0.2.1, s0.2.2.1, s0.2.2.2.1, s0.2.2.2.2.1, s0.2.2.2.2.2.1, upd s0.2.2.2.2.2.2 (1 : Int32).toNatClampNeg ((s0.2.2.2.2.2.2 (1 : Int32).toNatClampNeg) + (1 : Int32)))))) C 68 rfl (inb_in hb) dX6_refuse_34 (ll_9 _ _ _ _) ?_
      refine Go_goto (pc := 35) (tgt := 48) C dX6_refuse_35 (by decide) ?_
      refine Go_iload_n (pc := 48) C dX6_refuse_48 rfl ?_
      obtain rfl := Option.some.inj hf
      exact Go_iret C hr rfl dX6_refuse_49
    · replace hf := iff' hc hf
      refine Go_aload_n (pc := 38) C dX6_refuse_38 rfl ?_
      refine Go_get (pc := 39) C 0 6 rfl rfl inX6 (by decide) mw_249 rfl dX6_refuse_39 ?_
      refine Go_iconst (pc := 42) (v := 2) C dX6_refuse_42 ci_2 ?_
      refine Go_dup2 (pc := 43) C dX6_refuse_43 rfl rfl ?_
      obtain ⟨hb, hf⟩ := ifs hf
      refine Go_iald (pc := 44) C 68 rfl (inb_in hb) dX6_refuse_44 ?_
      refine Go_iconst (pc := 45) (v := 1) C dX6_refuse_45 ci_1 ?_
      refine Go_iadd (pc := 46) C dX6_refuse_46 ?_
      obtain ⟨hb, hf⟩ := ifs hf
      refine Go_iast (pc := 47) (ws1 := (w6 K a ((s0.1, s0.2.1, s0.2.2.1, s0.2.2.2.1, s0.2.2.2.2.1, s0.2.2.2.2.2.1, upd s0.2.2.2.2.2.2 (2 : Int32).toNatClampNeg ((s0.2.2.2.2.2.2 (2 : Int32).toNatClampNeg) + (1 : Int32)))))) C 68 rfl (inb_in hb) dX6_refuse_47 (ll_9 _ _ _ _) ?_
      refine Go_iload_n (pc := 48) C dX6_refuse_48 rfl ?_
      obtain rfl := Option.some.inj hf
      exact Go_iret C hr rfl dX6_refuse_49
theorem ll_28 (K : KK) (a : Nat → Nat) (t0 : S6) : ((0 :: 1 :: 2 :: 3 :: 4 :: 5 :: 6 :: 7 :: 8 :: 9 :: 10 :: 11 :: 12 :: 13 :: 14 :: 15 :: 16 :: 17 :: 18 :: 19 :: 20 :: 21 :: 22 :: 23 :: 24 :: 25 :: 26 :: 27 :: 28 :: 29 :: 30 :: 31 :: 32 :: 33 :: 34 :: 35 :: 36 :: 37 :: 38 :: 39 :: 40 :: 41 :: 42 :: 43 :: 44 :: 45 :: 46 :: 47 :: 48 :: 49 :: 50 :: 51 :: 52 :: 53 :: 54 :: 55 :: 56 :: 57 :: 58 :: 59 :: 60 :: 61 :: 62 :: 63 :: 64 :: 65 :: 66 :: 67 :: 68 :: []) : List Nat).map (fun i => (w6 K a t0)[i]?) = List.map some (w6 K (pk a (0 :: 1 :: 2 :: 3 :: 4 :: 5 :: 6 :: 7 :: 8 :: 9 :: 10 :: 11 :: 12 :: 13 :: 14 :: 15 :: 16 :: 17 :: 18 :: 19 :: 20 :: 21 :: 22 :: 23 :: 24 :: 25 :: 26 :: 27 :: 28 :: 29 :: 30 :: 31 :: 32 :: 33 :: 34 :: 35 :: 36 :: 37 :: 38 :: 39 :: 40 :: 41 :: 42 :: 43 :: 44 :: 45 :: 46 :: 47 :: 48 :: 49 :: 50 :: 51 :: 52 :: 53 :: 54 :: 55 :: 56 :: 57 :: 58 :: 59 :: 60 :: 61 :: 62 :: 63 :: 64 :: 65 :: 66 :: 67 :: 68 :: [])) t0) := rfl
theorem ll_29 (K : KK) (a : Nat → Nat) (t0 : S6) (y0 : S6) : Wr (w6 K a t0) (0 :: 1 :: 2 :: 3 :: 4 :: 5 :: 6 :: 7 :: 8 :: 9 :: 10 :: 11 :: 12 :: 13 :: 14 :: 15 :: 16 :: 17 :: 18 :: 19 :: 20 :: 21 :: 22 :: 23 :: 24 :: 25 :: 26 :: 27 :: 28 :: 29 :: 30 :: 31 :: 32 :: 33 :: 34 :: 35 :: 36 :: 37 :: 38 :: 39 :: 40 :: 41 :: 42 :: 43 :: 44 :: 45 :: 46 :: 47 :: 48 :: 49 :: 50 :: 51 :: 52 :: 53 :: 54 :: 55 :: 56 :: 57 :: 58 :: 59 :: 60 :: 61 :: 62 :: 63 :: 64 :: 65 :: 66 :: 67 :: 68 :: []) (w6 K (pk a (0 :: 1 :: 2 :: 3 :: 4 :: 5 :: 6 :: 7 :: 8 :: 9 :: 10 :: 11 :: 12 :: 13 :: 14 :: 15 :: 16 :: 17 :: 18 :: 19 :: 20 :: 21 :: 22 :: 23 :: 24 :: 25 :: 26 :: 27 :: 28 :: 29 :: 30 :: 31 :: 32 :: 33 :: 34 :: 35 :: 36 :: 37 :: 38 :: 39 :: 40 :: 41 :: 42 :: 43 :: 44 :: 45 :: 46 :: 47 :: 48 :: 49 :: 50 :: 51 :: 52 :: 53 :: 54 :: 55 :: 56 :: 57 :: 58 :: 59 :: 60 :: 61 :: 62 :: 63 :: 64 :: 65 :: 66 :: 67 :: 68 :: [])) y0) (w6 K a y0) := ⟨[], 69, rfl, (show List.map (fun i => (w6 K a y0)[i]?) _ = ([] : List (Option (Nat × va_E))) from rfl).trans (show List.map (fun i => (w6 K a t0)[i]?) _ = ([] : List (Option (Nat × va_E))) from rfl).symm, rfl, by decide⟩
theorem ll_30 (K : KK) (a : Nat → Nat) (t0 : S6) : ([1, 2, 3, 4, 5, 6] : List Nat).map (fun i => (w6 K a t0)[i]?) = List.map some (w1 K (pk a [1, 2, 3, 4, 5, 6]) t0.1) := rfl
theorem ll_31 (K : KK) (a : Nat → Nat) (t0 : S6) : ((14 :: 15 :: 16 :: 17 :: 18 :: 19 :: 20 :: 21 :: 22 :: 23 :: 24 :: 25 :: 26 :: 27 :: 28 :: 29 :: 30 :: 31 :: 32 :: 33 :: 34 :: 35 :: 36 :: 37 :: 38 :: 39 :: 40 :: 41 :: 42 :: 43 :: 44 :: 45 :: 46 :: 47 :: 48 :: 49 :: 50 :: 51 :: 1 :: 2 :: 3 :: 4 :: 5 :: 6 :: []) : List Nat).map (fun i => (w6 K a t0)[i]?) = List.map some (w3 K (pk a (14 :: 15 :: 16 :: 17 :: 18 :: 19 :: 20 :: 21 :: 22 :: 23 :: 24 :: 25 :: 26 :: 27 :: 28 :: 29 :: 30 :: 31 :: 32 :: 33 :: 34 :: 35 :: 36 :: 37 :: 38 :: 39 :: 40 :: 41 :: 42 :: 43 :: 44 :: 45 :: 46 :: 47 :: 48 :: 49 :: 50 :: 51 :: 1 :: 2 :: 3 :: 4 :: 5 :: 6 :: [])) t0.2.2.2.1 ++ w1 K (sh (pk a (14 :: 15 :: 16 :: 17 :: 18 :: 19 :: 20 :: 21 :: 22 :: 23 :: 24 :: 25 :: 26 :: 27 :: 28 :: 29 :: 30 :: 31 :: 32 :: 33 :: 34 :: 35 :: 36 :: 37 :: 38 :: 39 :: 40 :: 41 :: 42 :: 43 :: 44 :: 45 :: 46 :: 47 :: 48 :: 49 :: 50 :: 51 :: 1 :: 2 :: 3 :: 4 :: 5 :: 6 :: [])) 38) t0.1) := rfl
theorem ll_32 (K : KK) (a : Nat → Nat) (t0 : S6) (y0 : S3) : Wr (w6 K a t0) (14 :: 15 :: 16 :: 17 :: 18 :: 19 :: 20 :: 21 :: 22 :: 23 :: 24 :: 25 :: 26 :: 27 :: 28 :: 29 :: 30 :: 31 :: 32 :: 33 :: 34 :: 35 :: 36 :: 37 :: 38 :: 39 :: 40 :: 41 :: 42 :: 43 :: 44 :: 45 :: 46 :: 47 :: 48 :: 49 :: 50 :: 51 :: 1 :: 2 :: 3 :: 4 :: 5 :: 6 :: []) (w3 K (pk a (14 :: 15 :: 16 :: 17 :: 18 :: 19 :: 20 :: 21 :: 22 :: 23 :: 24 :: 25 :: 26 :: 27 :: 28 :: 29 :: 30 :: 31 :: 32 :: 33 :: 34 :: 35 :: 36 :: 37 :: 38 :: 39 :: 40 :: 41 :: 42 :: 43 :: 44 :: 45 :: 46 :: 47 :: 48 :: 49 :: 50 :: 51 :: 1 :: 2 :: 3 :: 4 :: 5 :: 6 :: [])) y0 ++ w1 K (sh (pk a (14 :: 15 :: 16 :: 17 :: 18 :: 19 :: 20 :: 21 :: 22 :: 23 :: 24 :: 25 :: 26 :: 27 :: 28 :: 29 :: 30 :: 31 :: 32 :: 33 :: 34 :: 35 :: 36 :: 37 :: 38 :: 39 :: 40 :: 41 :: 42 :: 43 :: 44 :: 45 :: 46 :: 47 :: 48 :: 49 :: 50 :: 51 :: 1 :: 2 :: 3 :: 4 :: 5 :: 6 :: [])) 38) t0.1) (w6 K a ((t0.1, t0.2.1, t0.2.2.1, y0, t0.2.2.2.2))) := ⟨(0 :: 7 :: 8 :: 9 :: 10 :: 11 :: 12 :: 13 :: 52 :: 53 :: 54 :: 55 :: 56 :: 57 :: 58 :: 59 :: 60 :: 61 :: 62 :: 63 :: 64 :: 65 :: 66 :: 67 :: 68 :: []), 69, rfl, (show List.map (fun i => (w6 K a ((t0.1, t0.2.1, t0.2.2.1, y0, t0.2.2.2.2)))[i]?) _ = ((some (a 0, .inr (6, [.ref (a 1), .ref (a 7), .ref (a 12), .ref (a 14), .ref (a 52), .ref (a 66), .ref (a 68)])) :: some (a 7, .inr (0, [.ref (a 8), .ref (a 9), .ref (a 10), .ref (a 11)])) :: some (a 8, .inl (K.2.1, 96, .inl (t0.2.1.1))) :: some (a 9, .inl (K.2.1, 96, .inl (t0.2.1.2.1))) :: some (a 10, .inl (K.2.1, 12, .inl (t0.2.1.2.2.1))) :: some (a 11, .inl (K.2.1, 12, .inl (t0.2.1.2.2.2))) :: some (a 12, .inr (2, [.ref (a 13), .int (t0.2.2.1.2)])) :: some (a 13, .inl (K.2.1, 12, .inl (t0.2.2.1.1))) :: some (a 52, .inr (5, [.ref (a 53), .ref (a 59), .ref (a 64)])) :: some (a 53, .inr (1, [.ref (a 54), .ref (a 55), .ref (a 56), .ref (a 57), .ref (a 58), .int (t0.2.2.2.2.1.1.2.2.2.2.2)])) :: some (a 54, .inl (K.2.1, 96, .inl (t0.2.2.2.2.1.1.1))) :: some (a 55, .inl (K.2.1, 12, .inl (t0.2.2.2.2.1.1.2.1))) :: some (a 56, .inl (K.2.1, 12, .inl (t0.2.2.2.2.1.1.2.2.1))) :: some (a 57, .inl (K.2.1, 12, .inl (t0.2.2.2.2.1.1.2.2.2.1))) :: some (a 58, .inl (K.2.1, 21, .inl (t0.2.2.2.2.1.1.2.2.2.2.1))) :: some (a 59, .inr (0, [.ref (a 60), .ref (a 61), .ref (a 62), .ref (a 63)])) :: some (a 60, .inl (K.2.1, 96, .inl (t0.2.2.2.2.1.2.1.1))) :: some (a 61, .inl (K.2.1, 96, .inl (t0.2.2.2.2.1.2.1.2.1))) :: some (a 62, .inl (K.2.1, 12, .inl (t0.2.2.2.2.1.2.1.2.2.1))) :: some (a 63, .inl (K.2.1, 12, .inl (t0.2.2.2.2.1.2.1.2.2.2))) :: some (a 64, .inr (2, [.ref (a 65), .int (t0.2.2.2.2.1.2.2.2)])) :: some (a 65, .inl (K.2.1, 12, .inl (t0.2.2.2.2.1.2.2.1))) :: some (a 66, .inr (4, [.ref (a 67), .int (t0.2.2.2.2.2.1.2.1), .int (t0.2.2.2.2.2.1.2.2.1), .int (t0.2.2.2.2.2.1.2.2.2.1), .int (t0.2.2.2.2.2.1.2.2.2.2)])) :: some (a 67, .inl (K.2.1, 120, .inl (t0.2.2.2.2.2.1.1))) :: some (a 68, .inl (K.2.1, 3, .inl (t0.2.2.2.2.2.2))) :: []) : List (Option (Nat × va_E))) from rfl).trans (show List.map (fun i => (w6 K a t0)[i]?) _ = ((some (a 0, .inr (6, [.ref (a 1), .ref (a 7), .ref (a 12), .ref (a 14), .ref (a 52), .ref (a 66), .ref (a 68)])) :: some (a 7, .inr (0, [.ref (a 8), .ref (a 9), .ref (a 10), .ref (a 11)])) :: some (a 8, .inl (K.2.1, 96, .inl (t0.2.1.1))) :: some (a 9, .inl (K.2.1, 96, .inl (t0.2.1.2.1))) :: some (a 10, .inl (K.2.1, 12, .inl (t0.2.1.2.2.1))) :: some (a 11, .inl (K.2.1, 12, .inl (t0.2.1.2.2.2))) :: some (a 12, .inr (2, [.ref (a 13), .int (t0.2.2.1.2)])) :: some (a 13, .inl (K.2.1, 12, .inl (t0.2.2.1.1))) :: some (a 52, .inr (5, [.ref (a 53), .ref (a 59), .ref (a 64)])) :: some (a 53, .inr (1, [.ref (a 54), .ref (a 55), .ref (a 56), .ref (a 57), .ref (a 58), .int (t0.2.2.2.2.1.1.2.2.2.2.2)])) :: some (a 54, .inl (K.2.1, 96, .inl (t0.2.2.2.2.1.1.1))) :: some (a 55, .inl (K.2.1, 12, .inl (t0.2.2.2.2.1.1.2.1))) :: some (a 56, .inl (K.2.1, 12, .inl (t0.2.2.2.2.1.1.2.2.1))) :: some (a 57, .inl (K.2.1, 12, .inl (t0.2.2.2.2.1.1.2.2.2.1))) :: some (a 58, .inl (K.2.1, 21, .inl (t0.2.2.2.2.1.1.2.2.2.2.1))) :: some (a 59, .inr (0, [.ref (a 60), .ref (a 61), .ref (a 62), .ref (a 63)])) :: some (a 60, .inl (K.2.1, 96, .inl (t0.2.2.2.2.1.2.1.1))) :: some (a 61, .inl (K.2.1, 96, .inl (t0.2.2.2.2.1.2.1.2.1))) :: some (a 62, .inl (K.2.1, 12, .inl (t0.2.2.2.2.1.2.1.2.2.1))) :: some (a 63, .inl (K.2.1, 12, .inl (t0.2.2.2.2.1.2.1.2.2.2))) :: some (a 64, .inr (2, [.ref (a 65), .int (t0.2.2.2.2.1.2.2.2)])) :: some (a 65, .inl (K.2.1, 12, .inl (t0.2.2.2.2.1.2.2.1))) :: some (a 66, .inr (4, [.ref (a 67), .int (t0.2.2.2.2.2.1.2.1), .int (t0.2.2.2.2.2.1.2.2.1), .int (t0.2.2.2.2.2.1.2.2.2.1), .int (t0.2.2.2.2.2.1.2.2.2.2)])) :: some (a 67, .inl (K.2.1, 120, .inl (t0.2.2.2.2.2.1.1))) :: some (a 68, .inl (K.2.1, 3, .inl (t0.2.2.2.2.2.2))) :: []) : List (Option (Nat × va_E))) from rfl).symm, rfl, by decide⟩
theorem ll_33 (K : KK) (a : Nat → Nat) (t0 : S6) (y0 : S1) : Wr (w6 K a t0) [1, 2, 3, 4, 5, 6] (w1 K (pk a [1, 2, 3, 4, 5, 6]) y0) (w6 K a ((y0, t0.2))) := ⟨(0 :: 7 :: 8 :: 9 :: 10 :: 11 :: 12 :: 13 :: 14 :: 15 :: 16 :: 17 :: 18 :: 19 :: 20 :: 21 :: 22 :: 23 :: 24 :: 25 :: 26 :: 27 :: 28 :: 29 :: 30 :: 31 :: 32 :: 33 :: 34 :: 35 :: 36 :: 37 :: 38 :: 39 :: 40 :: 41 :: 42 :: 43 :: 44 :: 45 :: 46 :: 47 :: 48 :: 49 :: 50 :: 51 :: 52 :: 53 :: 54 :: 55 :: 56 :: 57 :: 58 :: 59 :: 60 :: 61 :: 62 :: 63 :: 64 :: 65 :: 66 :: 67 :: 68 :: []), 69, rfl, (show List.map (fun i => (w6 K a ((y0, t0.2)))[i]?) _ = ((some (a 0, .inr (6, [.ref (a 1), .ref (a 7), .ref (a 12), .ref (a 14), .ref (a 52), .ref (a 66), .ref (a 68)])) :: some (a 7, .inr (0, [.ref (a 8), .ref (a 9), .ref (a 10), .ref (a 11)])) :: some (a 8, .inl (K.2.1, 96, .inl (t0.2.1.1))) :: some (a 9, .inl (K.2.1, 96, .inl (t0.2.1.2.1))) :: some (a 10, .inl (K.2.1, 12, .inl (t0.2.1.2.2.1))) :: some (a 11, .inl (K.2.1, 12, .inl (t0.2.1.2.2.2))) :: some (a 12, .inr (2, [.ref (a 13), .int (t0.2.2.1.2)])) :: some (a 13, .inl (K.2.1, 12, .inl (t0.2.2.1.1))) :: some (a 14, .inr (3, [.ref (a 15), .int (t0.2.2.2.1.2.1), .int (t0.2.2.2.1.2.2)])) :: some (a 15, .inl (K.2.2, 6, .inr (.inr (.inr (.inr (rgf [a 16, a 22, a 28, a 34, a 40, a 46])))))) :: some (a 16, .inr (1, [.ref (a 17), .ref (a 18), .ref (a 19), .ref (a 20), .ref (a 21), .int (t0.2.2.2.1.1.1.2.2.2.2.2)])) :: some (a 17, .inl (K.2.1, 96, .inl (t0.2.2.2.1.1.1.1))) :: some (a 18, .inl (K.2.1, 12, .inl (t0.2.2.2.1.1.1.2.1))) :: some (a 19, .inl (K.2.1, 12, .inl (t0.2.2.2.1.1.1.2.2.1))) :: some (a 20, .inl (K.2.1, 12, .inl (t0.2.2.2.1.1.1.2.2.2.1))) :: some (a 21, .inl (K.2.1, 21, .inl (t0.2.2.2.1.1.1.2.2.2.2.1))) :: some (a 22, .inr (1, [.ref (a 23), .ref (a 24), .ref (a 25), .ref (a 26), .ref (a 27), .int (t0.2.2.2.1.1.2.1.2.2.2.2.2)])) :: some (a 23, .inl (K.2.1, 96, .inl (t0.2.2.2.1.1.2.1.1))) :: some (a 24, .inl (K.2.1, 12, .inl (t0.2.2.2.1.1.2.1.2.1))) :: some (a 25, .inl (K.2.1, 12, .inl (t0.2.2.2.1.1.2.1.2.2.1))) :: some (a 26, .inl (K.2.1, 12, .inl (t0.2.2.2.1.1.2.1.2.2.2.1))) :: some (a 27, .inl (K.2.1, 21, .inl (t0.2.2.2.1.1.2.1.2.2.2.2.1))) :: some (a 28, .inr (1, [.ref (a 29), .ref (a 30), .ref (a 31), .ref (a 32), .ref (a 33), .int (t0.2.2.2.1.1.2.2.1.2.2.2.2.2)])) :: some (a 29, .inl (K.2.1, 96, .inl (t0.2.2.2.1.1.2.2.1.1))) :: some (a 30, .inl (K.2.1, 12, .inl (t0.2.2.2.1.1.2.2.1.2.1))) :: some (a 31, .inl (K.2.1, 12, .inl (t0.2.2.2.1.1.2.2.1.2.2.1))) :: some (a 32, .inl (K.2.1, 12, .inl (t0.2.2.2.1.1.2.2.1.2.2.2.1))) :: some (a 33, .inl (K.2.1, 21, .inl (t0.2.2.2.1.1.2.2.1.2.2.2.2.1))) :: some (a 34, .inr (1, [.ref (a 35), .ref (a 36), .ref (a 37), .ref (a 38), .ref (a 39), .int (t0.2.2.2.1.1.2.2.2.1.2.2.2.2.2)])) :: some (a 35, .inl (K.2.1, 96, .inl (t0.2.2.2.1.1.2.2.2.1.1))) :: some (a 36, .inl (K.2.1, 12, .inl (t0.2.2.2.1.1.2.2.2.1.2.1))) :: some (a 37, .inl (K.2.1, 12, .inl (t0.2.2.2.1.1.2.2.2.1.2.2.1))) :: some (a 38, .inl (K.2.1, 12, .inl (t0.2.2.2.1.1.2.2.2.1.2.2.2.1))) :: some (a 39, .inl (K.2.1, 21, .inl (t0.2.2.2.1.1.2.2.2.1.2.2.2.2.1))) :: some (a 40, .inr (1, [.ref (a 41), .ref (a 42), .ref (a 43), .ref (a 44), .ref (a 45), .int (t0.2.2.2.1.1.2.2.2.2.1.2.2.2.2.2)])) :: some (a 41, .inl (K.2.1, 96, .inl (t0.2.2.2.1.1.2.2.2.2.1.1))) :: some (a 42, .inl (K.2.1, 12, .inl (t0.2.2.2.1.1.2.2.2.2.1.2.1))) :: some (a 43, .inl (K.2.1, 12, .inl (t0.2.2.2.1.1.2.2.2.2.1.2.2.1))) :: some (a 44, .inl (K.2.1, 12, .inl (t0.2.2.2.1.1.2.2.2.2.1.2.2.2.1))) :: some (a 45, .inl (K.2.1, 21, .inl (t0.2.2.2.1.1.2.2.2.2.1.2.2.2.2.1))) :: some (a 46, .inr (1, [.ref (a 47), .ref (a 48), .ref (a 49), .ref (a 50), .ref (a 51), .int (t0.2.2.2.1.1.2.2.2.2.2.2.2.2.2.2)])) :: some (a 47, .inl (K.2.1, 96, .inl (t0.2.2.2.1.1.2.2.2.2.2.1))) :: some (a 48, .inl (K.2.1, 12, .inl (t0.2.2.2.1.1.2.2.2.2.2.2.1))) :: some (a 49, .inl (K.2.1, 12, .inl (t0.2.2.2.1.1.2.2.2.2.2.2.2.1))) :: some (a 50, .inl (K.2.1, 12, .inl (t0.2.2.2.1.1.2.2.2.2.2.2.2.2.1))) :: some (a 51, .inl (K.2.1, 21, .inl (t0.2.2.2.1.1.2.2.2.2.2.2.2.2.2.1))) :: some (a 52, .inr (5, [.ref (a 53), .ref (a 59), .ref (a 64)])) :: some (a 53, .inr (1, [.ref (a 54), .ref (a 55), .ref (a 56), .ref (a 57), .ref (a 58), .int (t0.2.2.2.2.1.1.2.2.2.2.2)])) :: some (a 54, .inl (K.2.1, 96, .inl (t0.2.2.2.2.1.1.1))) :: some (a 55, .inl (K.2.1, 12, .inl (t0.2.2.2.2.1.1.2.1))) :: some (a 56, .inl (K.2.1, 12, .inl (t0.2.2.2.2.1.1.2.2.1))) :: some (a 57, .inl (K.2.1, 12, .inl (t0.2.2.2.2.1.1.2.2.2.1))) :: some (a 58, .inl (K.2.1, 21, .inl (t0.2.2.2.2.1.1.2.2.2.2.1))) :: some (a 59, .inr (0, [.ref (a 60), .ref (a 61), .ref (a 62), .ref (a 63)])) :: some (a 60, .inl (K.2.1, 96, .inl (t0.2.2.2.2.1.2.1.1))) :: some (a 61, .inl (K.2.1, 96, .inl (t0.2.2.2.2.1.2.1.2.1))) :: some (a 62, .inl (K.2.1, 12, .inl (t0.2.2.2.2.1.2.1.2.2.1))) :: some (a 63, .inl (K.2.1, 12, .inl (t0.2.2.2.2.1.2.1.2.2.2))) :: some (a 64, .inr (2, [.ref (a 65), .int (t0.2.2.2.2.1.2.2.2)])) :: some (a 65, .inl (K.2.1, 12, .inl (t0.2.2.2.2.1.2.2.1))) :: some (a 66, .inr (4, [.ref (a 67), .int (t0.2.2.2.2.2.1.2.1), .int (t0.2.2.2.2.2.1.2.2.1), .int (t0.2.2.2.2.2.1.2.2.2.1), .int (t0.2.2.2.2.2.1.2.2.2.2)])) :: some (a 67, .inl (K.2.1, 120, .inl (t0.2.2.2.2.2.1.1))) :: some (a 68, .inl (K.2.1, 3, .inl (t0.2.2.2.2.2.2))) :: []) : List (Option (Nat × va_E))) from rfl).trans (show List.map (fun i => (w6 K a t0)[i]?) _ = ((some (a 0, .inr (6, [.ref (a 1), .ref (a 7), .ref (a 12), .ref (a 14), .ref (a 52), .ref (a 66), .ref (a 68)])) :: some (a 7, .inr (0, [.ref (a 8), .ref (a 9), .ref (a 10), .ref (a 11)])) :: some (a 8, .inl (K.2.1, 96, .inl (t0.2.1.1))) :: some (a 9, .inl (K.2.1, 96, .inl (t0.2.1.2.1))) :: some (a 10, .inl (K.2.1, 12, .inl (t0.2.1.2.2.1))) :: some (a 11, .inl (K.2.1, 12, .inl (t0.2.1.2.2.2))) :: some (a 12, .inr (2, [.ref (a 13), .int (t0.2.2.1.2)])) :: some (a 13, .inl (K.2.1, 12, .inl (t0.2.2.1.1))) :: some (a 14, .inr (3, [.ref (a 15), .int (t0.2.2.2.1.2.1), .int (t0.2.2.2.1.2.2)])) :: some (a 15, .inl (K.2.2, 6, .inr (.inr (.inr (.inr (rgf [a 16, a 22, a 28, a 34, a 40, a 46])))))) :: some (a 16, .inr (1, [.ref (a 17), .ref (a 18), .ref (a 19), .ref (a 20), .ref (a 21), .int (t0.2.2.2.1.1.1.2.2.2.2.2)])) :: some (a 17, .inl (K.2.1, 96, .inl (t0.2.2.2.1.1.1.1))) :: some (a 18, .inl (K.2.1, 12, .inl (t0.2.2.2.1.1.1.2.1))) :: some (a 19, .inl (K.2.1, 12, .inl (t0.2.2.2.1.1.1.2.2.1))) :: some (a 20, .inl (K.2.1, 12, .inl (t0.2.2.2.1.1.1.2.2.2.1))) :: some (a 21, .inl (K.2.1, 21, .inl (t0.2.2.2.1.1.1.2.2.2.2.1))) :: some (a 22, .inr (1, [.ref (a 23), .ref (a 24), .ref (a 25), .ref (a 26), .ref (a 27), .int (t0.2.2.2.1.1.2.1.2.2.2.2.2)])) :: some (a 23, .inl (K.2.1, 96, .inl (t0.2.2.2.1.1.2.1.1))) :: some (a 24, .inl (K.2.1, 12, .inl (t0.2.2.2.1.1.2.1.2.1))) :: some (a 25, .inl (K.2.1, 12, .inl (t0.2.2.2.1.1.2.1.2.2.1))) :: some (a 26, .inl (K.2.1, 12, .inl (t0.2.2.2.1.1.2.1.2.2.2.1))) :: some (a 27, .inl (K.2.1, 21, .inl (t0.2.2.2.1.1.2.1.2.2.2.2.1))) :: some (a 28, .inr (1, [.ref (a 29), .ref (a 30), .ref (a 31), .ref (a 32), .ref (a 33), .int (t0.2.2.2.1.1.2.2.1.2.2.2.2.2)])) :: some (a 29, .inl (K.2.1, 96, .inl (t0.2.2.2.1.1.2.2.1.1))) :: some (a 30, .inl (K.2.1, 12, .inl (t0.2.2.2.1.1.2.2.1.2.1))) :: some (a 31, .inl (K.2.1, 12, .inl (t0.2.2.2.1.1.2.2.1.2.2.1))) :: some (a 32, .inl (K.2.1, 12, .inl (t0.2.2.2.1.1.2.2.1.2.2.2.1))) :: some (a 33, .inl (K.2.1, 21, .inl (t0.2.2.2.1.1.2.2.1.2.2.2.2.1))) :: some (a 34, .inr (1, [.ref (a 35), .ref (a 36), .ref (a 37), .ref (a 38), .ref (a 39), .int (t0.2.2.2.1.1.2.2.2.1.2.2.2.2.2)])) :: some (a 35, .inl (K.2.1, 96, .inl (t0.2.2.2.1.1.2.2.2.1.1))) :: some (a 36, .inl (K.2.1, 12, .inl (t0.2.2.2.1.1.2.2.2.1.2.1))) :: some (a 37, .inl (K.2.1, 12, .inl (t0.2.2.2.1.1.2.2.2.1.2.2.1))) :: some (a 38, .inl (K.2.1, 12, .inl (t0.2.2.2.1.1.2.2.2.1.2.2.2.1))) :: some (a 39, .inl (K.2.1, 21, .inl (t0.2.2.2.1.1.2.2.2.1.2.2.2.2.1))) :: some (a 40, .inr (1, [.ref (a 41), .ref (a 42), .ref (a 43), .ref (a 44), .ref (a 45), .int (t0.2.2.2.1.1.2.2.2.2.1.2.2.2.2.2)])) :: some (a 41, .inl (K.2.1, 96, .inl (t0.2.2.2.1.1.2.2.2.2.1.1))) :: some (a 42, .inl (K.2.1, 12, .inl (t0.2.2.2.1.1.2.2.2.2.1.2.1))) :: some (a 43, .inl (K.2.1, 12, .inl (t0.2.2.2.1.1.2.2.2.2.1.2.2.1))) :: some (a 44, .inl (K.2.1, 12, .inl (t0.2.2.2.1.1.2.2.2.2.1.2.2.2.1))) :: some (a 45, .inl (K.2.1, 21, .inl (t0.2.2.2.1.1.2.2.2.2.1.2.2.2.2.1))) :: some (a 46, .inr (1, [.ref (a 47), .ref (a 48), .ref (a 49), .ref (a 50), .ref (a 51), .int (t0.2.2.2.1.1.2.2.2.2.2.2.2.2.2.2)])) :: some (a 47, .inl (K.2.1, 96, .inl (t0.2.2.2.1.1.2.2.2.2.2.1))) :: some (a 48, .inl (K.2.1, 12, .inl (t0.2.2.2.1.1.2.2.2.2.2.2.1))) :: some (a 49, .inl (K.2.1, 12, .inl (t0.2.2.2.1.1.2.2.2.2.2.2.2.1))) :: some (a 50, .inl (K.2.1, 12, .inl (t0.2.2.2.1.1.2.2.2.2.2.2.2.2.1))) :: some (a 51, .inl (K.2.1, 21, .inl (t0.2.2.2.1.1.2.2.2.2.2.2.2.2.2.1))) :: some (a 52, .inr (5, [.ref (a 53), .ref (a 59), .ref (a 64)])) :: some (a 53, .inr (1, [.ref (a 54), .ref (a 55), .ref (a 56), .ref (a 57), .ref (a 58), .int (t0.2.2.2.2.1.1.2.2.2.2.2)])) :: some (a 54, .inl (K.2.1, 96, .inl (t0.2.2.2.2.1.1.1))) :: some (a 55, .inl (K.2.1, 12, .inl (t0.2.2.2.2.1.1.2.1))) :: some (a 56, .inl (K.2.1, 12, .inl (t0.2.2.2.2.1.1.2.2.1))) :: some (a 57, .inl (K.2.1, 12, .inl (t0.2.2.2.2.1.1.2.2.2.1))) :: some (a 58, .inl (K.2.1, 21, .inl (t0.2.2.2.2.1.1.2.2.2.2.1))) :: some (a 59, .inr (0, [.ref (a 60), .ref (a 61), .ref (a 62), .ref (a 63)])) :: some (a 60, .inl (K.2.1, 96, .inl (t0.2.2.2.2.1.2.1.1))) :: some (a 61, .inl (K.2.1, 96, .inl (t0.2.2.2.2.1.2.1.2.1))) :: some (a 62, .inl (K.2.1, 12, .inl (t0.2.2.2.2.1.2.1.2.2.1))) :: some (a 63, .inl (K.2.1, 12, .inl (t0.2.2.2.2.1.2.1.2.2.2))) :: some (a 64, .inr (2, [.ref (a 65), .int (t0.2.2.2.2.1.2.2.2)])) :: some (a 65, .inl (K.2.1, 12, .inl (t0.2.2.2.2.1.2.2.1))) :: some (a 66, .inr (4, [.ref (a 67), .int (t0.2.2.2.2.2.1.2.1), .int (t0.2.2.2.2.2.1.2.2.1), .int (t0.2.2.2.2.2.1.2.2.2.1), .int (t0.2.2.2.2.2.1.2.2.2.2)])) :: some (a 67, .inl (K.2.1, 120, .inl (t0.2.2.2.2.2.1.1))) :: some (a 68, .inl (K.2.1, 3, .inl (t0.2.2.2.2.2.2))) :: []) : List (Option (Nat × va_E))) from rfl).symm, rfl, by decide⟩
def fX6_pillar (s0 : S6) (p1 : Int32) (p2 : Int32) : Option (Int32 × S6) := Option.bind (fX6_isCell p1) (fun r1 => (if r1 = 0 then Option.bind (fX6_refuse s0 (-2 : Int32)) (fun r2 => some (r2.1, r2.2)) else Option.bind (fX6_isStrength p2) (fun r3 => (if r3 = 0 then Option.bind (fX6_refuse s0 (-2 : Int32)) (fun r4 => some (r4.1, r4.2)) else Option.bind (fX1_hasPillarOn s0.1 p1) (fun r5 => (if r5 = 0 then (if s0.1.2.2.2.2.2 < (12 : Int32) then Option.bind (fX3_keep s0.2.2.2.1 s0.1) (fun r6 => Option.bind (fX1_add s0.1 p1 p2) (fun r7 => some (r7.2.2.2.2.2 - (1 : Int32), (r7, s0.2.1, s0.2.2.1, r6, s0.2.2.2.2)))) else Option.bind (fX6_refuse s0 (-4 : Int32)) (fun r8 => some (r8.1, r8.2))) else Option.bind (fX6_refuse s0 (-3 : Int32)) (fun r9 => some (r9.1, r9.2))))))))
theorem ycX6_pillar : CalV yX6_pillar cX6_pillar 3 ((some .int)) 2 := ⟨mw_268, mw_61, mw_266, mw_267, ⟨by decide, by decide, by decide +kernel⟩, by decide⟩
set_option maxHeartbeats 4000000 in
set_option maxRecDepth 100000 in
theorem kX6_pillar (l : Launch) (K : KK) (a : Nat → Nat) (s0 : S6) (p1 : Int32) (p2 : Int32) (res : Int32 × S6) (hf : fX6_pillar s0 p1 p2 = some res) : Ct l K yX6_pillar cX6_pillar 3 ((some .int)) 3 [.ref (a 0), .int p1, .int p2] (w6 K a s0) (some (.int res.1)) (w6 K a res.2) := by
  refine Ct_of2 (by decide) rfl (Nat.le_of_ble_eq_true rfl) ?_
  intro p e σ m args below meth c C hr
  unfold fX6_pillar at hf
  refine Go_iload_n (pc := 0) C dX6_pillar_0 rfl ?_
  obtain ⟨r1, hr1, hf⟩ := bnd hf
  refine Go_callS1 (pc := 1) (ws1 := (w6 K a s0)) C [] (kX6_isCell l K p1 r1 hr1) ycX6_isCell mw_269 (Nat.le_of_ble_eq_true rfl) rfl rfl (Nat.le_of_ble_eq_true rfl) ⟨Nat.zero_le _, Nat.zero_le _⟩ dX6_pillar_1 rfl rfl rfl (Wr_same rfl) ?_
  refine Go_if_eq (pc := 4) (tgt := 14) C dX6_pillar_4 (by decide) (fun hc => ?_) (fun hc => ?_)
  · replace hf := ift hc hf
    refine Go_aload_n (pc := 14) C dX6_pillar_14 rfl ?_
    refine Go_bipush (pc := 15) (v := -2) C dX6_pillar_15 cb_m2 ?_
    obtain ⟨r2, hr2, hf⟩ := bnd hf
    refine Go_callV1 (pc := 17) (ws1 := (w6 K a r2.2)) C 0 (0 :: 1 :: 2 :: 3 :: 4 :: 5 :: 6 :: 7 :: 8 :: 9 :: 10 :: 11 :: 12 :: 13 :: 14 :: 15 :: 16 :: 17 :: 18 :: 19 :: 20 :: 21 :: 22 :: 23 :: 24 :: 25 :: 26 :: 27 :: 28 :: 29 :: 30 :: 31 :: 32 :: 33 :: 34 :: 35 :: 36 :: 37 :: 38 :: 39 :: 40 :: 41 :: 42 :: 43 :: 44 :: 45 :: 46 :: 47 :: 48 :: 49 :: 50 :: 51 :: 52 :: 53 :: 54 :: 55 :: 56 :: 57 :: 58 :: 59 :: 60 :: 61 :: 62 :: 63 :: 64 :: 65 :: 66 :: 67 :: 68 :: []) (kX6_refuse l K (pk a (0 :: 1 :: 2 :: 3 :: 4 :: 5 :: 6 :: 7 :: 8 :: 9 :: 10 :: 11 :: 12 :: 13 :: 14 :: 15 :: 16 :: 17 :: 18 :: 19 :: 20 :: 21 :: 22 :: 23 :: 24 :: 25 :: 26 :: 27 :: 28 :: 29 :: 30 :: 31 :: 32 :: 33 :: 34 :: 35 :: 36 :: 37 :: 38 :: 39 :: 40 :: 41 :: 42 :: 43 :: 44 :: 45 :: 46 :: 47 :: 48 :: 49 :: 50 :: 51 :: 52 :: 53 :: 54 :: 55 :: 56 :: 57 :: 58 :: 59 :: 60 :: 61 :: 62 :: 63 :: 64 :: 65 :: 66 :: 67 :: 68 :: [])) s0 (-2 : Int32) r2 hr2) ycX6_refuse mw_278 (Nat.le_of_ble_eq_true rfl) rfl rfl rfl rfl (Nat.le_of_ble_eq_true rfl) ⟨Nat.zero_le _, Nat.zero_le _⟩ dX6_pillar_17 (ll_28 _ _ _) rfl rfl (ll_29 _ _ _ _) ?_
    obtain rfl := Option.some.inj hf
    exact Go_iret C hr rfl dX6_pillar_20
  · replace hf := iff' hc hf
    refine Go_iload_n (pc := 7) C dX6_pillar_7 rfl ?_
    obtain ⟨r3, hr3, hf⟩ := bnd hf
    refine Go_callS1 (pc := 8) (ws1 := (w6 K a s0)) C [] (kX6_isStrength l K p2 r3 hr3) ycX6_isStrength mw_275 (Nat.le_of_ble_eq_true rfl) rfl rfl (Nat.le_of_ble_eq_true rfl) ⟨Nat.zero_le _, Nat.zero_le _⟩ dX6_pillar_8 rfl rfl rfl (Wr_same rfl) ?_
    refine Go_if_ne (pc := 11) (tgt := 21) C dX6_pillar_11 (by decide) (fun hc => ?_) (fun hc => ?_)
    · replace hf := ift hc hf
      refine Go_aload_n (pc := 14) C dX6_pillar_14 rfl ?_
      refine Go_bipush (pc := 15) (v := -2) C dX6_pillar_15 cb_m2 ?_
      obtain ⟨r4, hr4, hf⟩ := bnd hf
      refine Go_callV1 (pc := 17) (ws1 := (w6 K a r4.2)) C 0 (0 :: 1 :: 2 :: 3 :: 4 :: 5 :: 6 :: 7 :: 8 :: 9 :: 10 :: 11 :: 12 :: 13 :: 14 :: 15 :: 16 :: 17 :: 18 :: 19 :: 20 :: 21 :: 22 :: 23 :: 24 :: 25 :: 26 :: 27 :: 28 :: 29 :: 30 :: 31 :: 32 :: 33 :: 34 :: 35 :: 36 :: 37 :: 38 :: 39 :: 40 :: 41 :: 42 :: 43 :: 44 :: 45 :: 46 :: 47 :: 48 :: 49 :: 50 :: 51 :: 52 :: 53 :: 54 :: 55 :: 56 :: 57 :: 58 :: 59 :: 60 :: 61 :: 62 :: 63 :: 64 :: 65 :: 66 :: 67 :: 68 :: []) (kX6_refuse l K (pk a (0 :: 1 :: 2 :: 3 :: 4 :: 5 :: 6 :: 7 :: 8 :: 9 :: 10 :: 11 :: 12 :: 13 :: 14 :: 15 :: 16 :: 17 :: 18 :: 19 :: 20 :: 21 :: 22 :: 23 :: 24 :: 25 :: 26 :: 27 :: 28 :: 29 :: 30 :: 31 :: 32 :: 33 :: 34 :: 35 :: 36 :: 37 :: 38 :: 39 :: 40 :: 41 :: 42 :: 43 :: 44 :: 45 :: 46 :: 47 :: 48 :: 49 :: 50 :: 51 :: 52 :: 53 :: 54 :: 55 :: 56 :: 57 :: 58 :: 59 :: 60 :: 61 :: 62 :: 63 :: 64 :: 65 :: 66 :: 67 :: 68 :: [])) s0 (-2 : Int32) r4 hr4) ycX6_refuse mw_278 (Nat.le_of_ble_eq_true rfl) rfl rfl rfl rfl (Nat.le_of_ble_eq_true rfl) ⟨Nat.zero_le _, Nat.zero_le _⟩ dX6_pillar_17 (ll_28 _ _ _) rfl rfl (ll_29 _ _ _ _) ?_
      obtain rfl := Option.some.inj hf
      exact Go_iret C hr rfl dX6_pillar_20
    · replace hf := iff' hc hf
      refine Go_aload_n (pc := 21) C dX6_pillar_21 rfl ?_
      refine Go_get (pc := 22) C 0 0 rfl rfl inX6 (by decide) mw_243 rfl dX6_pillar_22 ?_
      refine Go_iload_n (pc := 25) C dX6_pillar_25 rfl ?_
      obtain ⟨r5, hr5, hf⟩ := bnd hf
      refine Go_callV1 (pc := 26) (ws1 := (w6 K a s0)) C 1 [1, 2, 3, 4, 5, 6] (kX1_hasPillarOn l K (pk a [1, 2, 3, 4, 5, 6]) s0.1 p1 r5 hr5) ycX1_hasPillarOn mw_282 (Nat.le_of_ble_eq_true rfl) rfl rfl rfl rfl (Nat.le_of_ble_eq_true rfl) ⟨Nat.zero_le _, Nat.zero_le _⟩ dX6_pillar_26 (ll_30 _ _ _) rfl rfl (Wr_same (ll_30 _ _ _)) ?_
      refine Go_if_eq (pc := 29) (tgt := 39) C dX6_pillar_29 (by decide) (fun hc => ?_) (fun hc => ?_)
      · replace hf := ift hc hf
        refine Go_aload_n (pc := 39) C dX6_pillar_39 rfl ?_
        refine Go_get (pc := 40) C 0 0 rfl rfl inX6 (by decide) mw_243 rfl dX6_pillar_40 ?_
        refine Go_get (pc := 43) C 1 5 rfl rfl inX1 (by decide) mw_115 rfl dX6_pillar_43 ?_
        refine Go_bipush (pc := 46) (v := 12) C dX6_pillar_46 cb_12 ?_
        refine Go_icmp_lt (pc := 48) (tgt := 58) C dX6_pillar_48 (by decide) (fun hc => ?_) (fun hc => ?_)
        · replace hf := ift hc hf
          refine Go_aload_n (pc := 58) C dX6_pillar_58 rfl ?_
          refine Go_get (pc := 59) C 0 3 rfl rfl inX6 (by decide) mw_246 rfl dX6_pillar_59 ?_
          refine Go_aload_n (pc := 62) C dX6_pillar_62 rfl ?_
          refine Go_get (pc := 63) C 0 0 rfl rfl inX6 (by decide) mw_243 rfl dX6_pillar_63 ?_
          obtain ⟨r6, hr6, hf⟩ := bnd hf
          refine Go_callV0 (pc := 66) (ws1 := (w6 K a ((s0.1, s0.2.1, s0.2.2.1, r6, s0.2.2.2.2)))) C 14 (14 :: 15 :: 16 :: 17 :: 18 :: 19 :: 20 :: 21 :: 22 :: 23 :: 24 :: 25 :: 26 :: 27 :: 28 :: 29 :: 30 :: 31 :: 32 :: 33 :: 34 :: 35 :: 36 :: 37 :: 38 :: 39 :: 40 :: 41 :: 42 :: 43 :: 44 :: 45 :: 46 :: 47 :: 48 :: 49 :: 50 :: 51 :: 1 :: 2 :: 3 :: 4 :: 5 :: 6 :: []) (kX3_keep l K (pk a (14 :: 15 :: 16 :: 17 :: 18 :: 19 :: 20 :: 21 :: 22 :: 23 :: 24 :: 25 :: 26 :: 27 :: 28 :: 29 :: 30 :: 31 :: 32 :: 33 :: 34 :: 35 :: 36 :: 37 :: 38 :: 39 :: 40 :: 41 :: 42 :: 43 :: 44 :: 45 :: 46 :: 47 :: 48 :: 49 :: 50 :: 51 :: 1 :: 2 :: 3 :: 4 :: 5 :: 6 :: [])) s0.2.2.2.1 s0.1 r6 hr6) ycX3_keep mw_286 (Nat.le_of_ble_eq_true rfl) rfl rfl rfl rfl (Nat.le_of_ble_eq_true rfl) ⟨Nat.zero_le _, Nat.zero_le _⟩ dX6_pillar_66 (ll_31 _ _ _) rfl rfl (ll_32 _ _ _ _) ?_
          refine Go_aload_n (pc := 69) C dX6_pillar_69 rfl ?_
          refine Go_get (pc := 70) C 0 0 rfl rfl inX6 (by decide) mw_243 rfl dX6_pillar_70 ?_
          refine Go_iload_n (pc := 73) C dX6_pillar_73 rfl ?_
          refine Go_iload_n (pc := 74) C dX6_pillar_74 rfl ?_
          obtain ⟨r7, hr7, hf⟩ := bnd hf
          refine Go_callV0 (pc := 75) (ws1 := (w6 K a ((r7, s0.2.1, s0.2.2.1, r6, s0.2.2.2.2)))) C 1 [1, 2, 3, 4, 5, 6] (kX1_add l K (pk a [1, 2, 3, 4, 5, 6]) s0.1 p1 p2 r7 hr7) ycX1_add mw_300 (Nat.le_of_ble_eq_true rfl) rfl rfl rfl rfl (Nat.le_of_ble_eq_true rfl) ⟨Nat.zero_le _, Nat.zero_le _⟩ dX6_pillar_75 (ll_30 _ _ _) rfl rfl (ll_33 _ _ _ _) ?_
          refine Go_aload_n (pc := 78) C dX6_pillar_78 rfl ?_
          refine Go_get (pc := 79) C 0 0 rfl rfl inX6 (by decide) mw_243 rfl dX6_pillar_79 ?_
          refine Go_get (pc := 82) C 1 5 rfl rfl inX1 (by decide) mw_115 rfl dX6_pillar_82 ?_
          refine Go_iconst (pc := 85) (v := 1) C dX6_pillar_85 ci_1 ?_
          refine Go_isub (pc := 86) C dX6_pillar_86 ?_
          obtain rfl := Option.some.inj hf
          exact Go_iret C hr rfl dX6_pillar_87
        · replace hf := iff' hc hf
          refine Go_aload_n (pc := 51) C dX6_pillar_51 rfl ?_
          refine Go_bipush (pc := 52) (v := -4) C dX6_pillar_52 cb_m4 ?_
          obtain ⟨r8, hr8, hf⟩ := bnd hf
          refine Go_callV1 (pc := 54) (ws1 := (w6 K a r8.2)) C 0 (0 :: 1 :: 2 :: 3 :: 4 :: 5 :: 6 :: 7 :: 8 :: 9 :: 10 :: 11 :: 12 :: 13 :: 14 :: 15 :: 16 :: 17 :: 18 :: 19 :: 20 :: 21 :: 22 :: 23 :: 24 :: 25 :: 26 :: 27 :: 28 :: 29 :: 30 :: 31 :: 32 :: 33 :: 34 :: 35 :: 36 :: 37 :: 38 :: 39 :: 40 :: 41 :: 42 :: 43 :: 44 :: 45 :: 46 :: 47 :: 48 :: 49 :: 50 :: 51 :: 52 :: 53 :: 54 :: 55 :: 56 :: 57 :: 58 :: 59 :: 60 :: 61 :: 62 :: 63 :: 64 :: 65 :: 66 :: 67 :: 68 :: []) (kX6_refuse l K (pk a (0 :: 1 :: 2 :: 3 :: 4 :: 5 :: 6 :: 7 :: 8 :: 9 :: 10 :: 11 :: 12 :: 13 :: 14 :: 15 :: 16 :: 17 :: 18 :: 19 :: 20 :: 21 :: 22 :: 23 :: 24 :: 25 :: 26 :: 27 :: 28 :: 29 :: 30 :: 31 :: 32 :: 33 :: 34 :: 35 :: 36 :: 37 :: 38 :: 39 :: 40 :: 41 :: 42 :: 43 :: 44 :: 45 :: 46 :: 47 :: 48 :: 49 :: 50 :: 51 :: 52 :: 53 :: 54 :: 55 :: 56 :: 57 :: 58 :: 59 :: 60 :: 61 :: 62 :: 63 :: 64 :: 65 :: 66 :: 67 :: 68 :: [])) s0 (-4 : Int32) r8 hr8) ycX6_refuse mw_278 (Nat.le_of_ble_eq_true rfl) rfl rfl rfl rfl (Nat.le_of_ble_eq_true rfl) ⟨Nat.zero_le _, Nat.zero_le _⟩ dX6_pillar_54 (ll_28 _ _ _) rfl rfl (ll_29 _ _ _ _) ?_
          obtain rfl := Option.some.inj hf
          exact Go_iret C hr rfl dX6_pillar_57
      · replace hf := iff' hc hf
        refine Go_aload_n (pc := 32) C dX6_pillar_32 rfl ?_
        refine Go_bipush (pc := 33) (v := -3) C dX6_pillar_33 cb_m3 ?_
        obtain ⟨r9, hr9, hf⟩ := bnd hf
        refine Go_callV1 (pc := 35) (ws1 := (w6 K a r9.2)) C 0 (0 :: 1 :: 2 :: 3 :: 4 :: 5 :: 6 :: 7 :: 8 :: 9 :: 10 :: 11 :: 12 :: 13 :: 14 :: 15 :: 16 :: 17 :: 18 :: 19 :: 20 :: 21 :: 22 :: 23 :: 24 :: 25 :: 26 :: 27 :: 28 :: 29 :: 30 :: 31 :: 32 :: 33 :: 34 :: 35 :: 36 :: 37 :: 38 :: 39 :: 40 :: 41 :: 42 :: 43 :: 44 :: 45 :: 46 :: 47 :: 48 :: 49 :: 50 :: 51 :: 52 :: 53 :: 54 :: 55 :: 56 :: 57 :: 58 :: 59 :: 60 :: 61 :: 62 :: 63 :: 64 :: 65 :: 66 :: 67 :: 68 :: []) (kX6_refuse l K (pk a (0 :: 1 :: 2 :: 3 :: 4 :: 5 :: 6 :: 7 :: 8 :: 9 :: 10 :: 11 :: 12 :: 13 :: 14 :: 15 :: 16 :: 17 :: 18 :: 19 :: 20 :: 21 :: 22 :: 23 :: 24 :: 25 :: 26 :: 27 :: 28 :: 29 :: 30 :: 31 :: 32 :: 33 :: 34 :: 35 :: 36 :: 37 :: 38 :: 39 :: 40 :: 41 :: 42 :: 43 :: 44 :: 45 :: 46 :: 47 :: 48 :: 49 :: 50 :: 51 :: 52 :: 53 :: 54 :: 55 :: 56 :: 57 :: 58 :: 59 :: 60 :: 61 :: 62 :: 63 :: 64 :: 65 :: 66 :: 67 :: 68 :: [])) s0 (-3 : Int32) r9 hr9) ycX6_refuse mw_278 (Nat.le_of_ble_eq_true rfl) rfl rfl rfl rfl (Nat.le_of_ble_eq_true rfl) ⟨Nat.zero_le _, Nat.zero_le _⟩ dX6_pillar_35 (ll_28 _ _ _) rfl rfl (ll_29 _ _ _ _) ?_
        obtain rfl := Option.some.inj hf
        exact Go_iret C hr rfl dX6_pillar_38
theorem ll_34 (K : KK) (a : Nat → Nat) (t0 : S6) (y : Nat → Int32) : List.set (w6 K a t0) 2 (a 2, .inl (K.2.1, 96, .inl y)) = (w6 K a (((y, t0.1.2), t0.2))) := rfl
def fX6_weight (s0 : S6) (p1 : Int32) (p2 : Int32) : Option (Int32 × S6) := Option.bind (fX6_isCell p1) (fun r1 => (if r1 = 0 then Option.bind (fX6_refuse s0 (-2 : Int32)) (fun r2 => some (r2.1, r2.2)) else Option.bind (fX6_isWithin p2 (9 : Int32)) (fun r3 => (if r3 = 0 then Option.bind (fX6_refuse s0 (-2 : Int32)) (fun r4 => some (r4.1, r4.2)) else Option.bind (fX3_keep s0.2.2.2.1 s0.1) (fun r5 => (if 0 ≤ p1 ∧ p1.toNatClampNeg < 96 then Option.bind (some (s0.1.1 p1.toNatClampNeg)) (fun v6 => (if 0 ≤ p1 ∧ p1.toNatClampNeg < 96 then some (v6, ((upd s0.1.1 p1.toNatClampNeg p2, s0.1.2), s0.2.1, s0.2.2.1, r5, s0.2.2.2.2)) else none)) else none))))))
theorem ycX6_weight : CalV yX6_weight cX6_weight 4 ((some .int)) 2 := ⟨mw_307, mw_61, mw_305, mw_306, ⟨by decide, by decide, by decide +kernel⟩, by decide⟩
set_option maxHeartbeats 4000000 in
set_option maxRecDepth 100000 in
theorem kX6_weight (l : Launch) (K : KK) (a : Nat → Nat) (s0 : S6) (p1 : Int32) (p2 : Int32) (res : Int32 × S6) (hf : fX6_weight s0 p1 p2 = some res) : Ct l K yX6_weight cX6_weight 4 ((some .int)) 3 [.ref (a 0), .int p1, .int p2] (w6 K a s0) (some (.int res.1)) (w6 K a res.2) := by
  refine Ct_of2 (by decide) rfl (Nat.le_of_ble_eq_true rfl) ?_
  intro p e σ m args below meth c C hr
  unfold fX6_weight at hf
  refine Go_iload_n (pc := 0) C dX6_weight_0 rfl ?_
  obtain ⟨r1, hr1, hf⟩ := bnd hf
  refine Go_callS1 (pc := 1) (ws1 := (w6 K a s0)) C [] (kX6_isCell l K p1 r1 hr1) ycX6_isCell mw_269 (Nat.le_of_ble_eq_true rfl) rfl rfl (Nat.le_of_ble_eq_true rfl) ⟨Nat.zero_le _, Nat.zero_le _⟩ dX6_weight_1 rfl rfl rfl (Wr_same rfl) ?_
  refine Go_if_eq (pc := 4) (tgt := 16) C dX6_weight_4 (by decide) (fun hc => ?_) (fun hc => ?_)
  · replace hf := ift hc hf
    refine Go_aload_n (pc := 16) C dX6_weight_16 rfl ?_
    refine Go_bipush (pc := 17) (v := -2) C dX6_weight_17 cb_m2 ?_
    obtain ⟨r2, hr2, hf⟩ := bnd hf
    refine Go_callV1 (pc := 19) (ws1 := (w6 K a r2.2)) C 0 (0 :: 1 :: 2 :: 3 :: 4 :: 5 :: 6 :: 7 :: 8 :: 9 :: 10 :: 11 :: 12 :: 13 :: 14 :: 15 :: 16 :: 17 :: 18 :: 19 :: 20 :: 21 :: 22 :: 23 :: 24 :: 25 :: 26 :: 27 :: 28 :: 29 :: 30 :: 31 :: 32 :: 33 :: 34 :: 35 :: 36 :: 37 :: 38 :: 39 :: 40 :: 41 :: 42 :: 43 :: 44 :: 45 :: 46 :: 47 :: 48 :: 49 :: 50 :: 51 :: 52 :: 53 :: 54 :: 55 :: 56 :: 57 :: 58 :: 59 :: 60 :: 61 :: 62 :: 63 :: 64 :: 65 :: 66 :: 67 :: 68 :: []) (kX6_refuse l K (pk a (0 :: 1 :: 2 :: 3 :: 4 :: 5 :: 6 :: 7 :: 8 :: 9 :: 10 :: 11 :: 12 :: 13 :: 14 :: 15 :: 16 :: 17 :: 18 :: 19 :: 20 :: 21 :: 22 :: 23 :: 24 :: 25 :: 26 :: 27 :: 28 :: 29 :: 30 :: 31 :: 32 :: 33 :: 34 :: 35 :: 36 :: 37 :: 38 :: 39 :: 40 :: 41 :: 42 :: 43 :: 44 :: 45 :: 46 :: 47 :: 48 :: 49 :: 50 :: 51 :: 52 :: 53 :: 54 :: 55 :: 56 :: 57 :: 58 :: 59 :: 60 :: 61 :: 62 :: 63 :: 64 :: 65 :: 66 :: 67 :: 68 :: [])) s0 (-2 : Int32) r2 hr2) ycX6_refuse mw_278 (Nat.le_of_ble_eq_true rfl) rfl rfl rfl rfl (Nat.le_of_ble_eq_true rfl) ⟨Nat.zero_le _, Nat.zero_le _⟩ dX6_weight_19 (ll_28 _ _ _) rfl rfl (ll_29 _ _ _ _) ?_
    obtain rfl := Option.some.inj hf
    exact Go_iret C hr rfl dX6_weight_22
  · replace hf := iff' hc hf
    refine Go_iload_n (pc := 7) C dX6_weight_7 rfl ?_
    refine Go_bipush (pc := 8) (v := 9) C dX6_weight_8 cb_9 ?_
    obtain ⟨r3, hr3, hf⟩ := bnd hf
    refine Go_callS1 (pc := 10) (ws1 := (w6 K a s0)) C [] (kX6_isWithin l K p2 (9 : Int32) r3 hr3) ycX6_isWithin mw_272 (Nat.le_of_ble_eq_true rfl) rfl rfl (Nat.le_of_ble_eq_true rfl) ⟨Nat.zero_le _, Nat.zero_le _⟩ dX6_weight_10 rfl rfl rfl (Wr_same rfl) ?_
    refine Go_if_ne (pc := 13) (tgt := 23) C dX6_weight_13 (by decide) (fun hc => ?_) (fun hc => ?_)
    · replace hf := ift hc hf
      refine Go_aload_n (pc := 16) C dX6_weight_16 rfl ?_
      refine Go_bipush (pc := 17) (v := -2) C dX6_weight_17 cb_m2 ?_
      obtain ⟨r4, hr4, hf⟩ := bnd hf
      refine Go_callV1 (pc := 19) (ws1 := (w6 K a r4.2)) C 0 (0 :: 1 :: 2 :: 3 :: 4 :: 5 :: 6 :: 7 :: 8 :: 9 :: 10 :: 11 :: 12 :: 13 :: 14 :: 15 :: 16 :: 17 :: 18 :: 19 :: 20 :: 21 :: 22 :: 23 :: 24 :: 25 :: 26 :: 27 :: 28 :: 29 :: 30 :: 31 :: 32 :: 33 :: 34 :: 35 :: 36 :: 37 :: 38 :: 39 :: 40 :: 41 :: 42 :: 43 :: 44 :: 45 :: 46 :: 47 :: 48 :: 49 :: 50 :: 51 :: 52 :: 53 :: 54 :: 55 :: 56 :: 57 :: 58 :: 59 :: 60 :: 61 :: 62 :: 63 :: 64 :: 65 :: 66 :: 67 :: 68 :: []) (kX6_refuse l K (pk a (0 :: 1 :: 2 :: 3 :: 4 :: 5 :: 6 :: 7 :: 8 :: 9 :: 10 :: 11 :: 12 :: 13 :: 14 :: 15 :: 16 :: 17 :: 18 :: 19 :: 20 :: 21 :: 22 :: 23 :: 24 :: 25 :: 26 :: 27 :: 28 :: 29 :: 30 :: 31 :: 32 :: 33 :: 34 :: 35 :: 36 :: 37 :: 38 :: 39 :: 40 :: 41 :: 42 :: 43 :: 44 :: 45 :: 46 :: 47 :: 48 :: 49 :: 50 :: 51 :: 52 :: 53 :: 54 :: 55 :: 56 :: 57 :: 58 :: 59 :: 60 :: 61 :: 62 :: 63 :: 64 :: 65 :: 66 :: 67 :: 68 :: [])) s0 (-2 : Int32) r4 hr4) ycX6_refuse mw_278 (Nat.le_of_ble_eq_true rfl) rfl rfl rfl rfl (Nat.le_of_ble_eq_true rfl) ⟨Nat.zero_le _, Nat.zero_le _⟩ dX6_weight_19 (ll_28 _ _ _) rfl rfl (ll_29 _ _ _ _) ?_
      obtain rfl := Option.some.inj hf
      exact Go_iret C hr rfl dX6_weight_22
    · replace hf := iff' hc hf
      refine Go_aload_n (pc := 23) C dX6_weight_23 rfl ?_
      refine Go_get (pc := 24) C 0 3 rfl rfl inX6 (by decide) mw_246 rfl dX6_weight_24 ?_
      refine Go_aload_n (pc := 27) C dX6_weight_27 rfl ?_
      refine Go_get (pc := 28) C 0 0 rfl rfl inX6 (by decide) mw_243 rfl dX6_weight_28 ?_
      obtain ⟨r5, hr5, hf⟩ := bnd hf
      refine Go_callV0 (pc := 31) (ws1 := (w6 K a ((s0.1, s0.2.1, s0.2.2.1, r5, s0.2.2.2.2)))) C 14 (14 :: 15 :: 16 :: 17 :: 18 :: 19 :: 20 :: 21 :: 22 :: 23 :: 24 :: 25 :: 26 :: 27 :: 28 :: 29 :: 30 :: 31 :: 32 :: 33 :: 34 :: 35 :: 36 :: 37 :: 38 :: 39 :: 40 :: 41 :: 42 :: 43 :: 44 :: 45 :: 46 :: 47 :: 48 :: 49 :: 50 :: 51 :: 1 :: 2 :: 3 :: 4 :: 5 :: 6 :: []) (kX3_keep l K (pk a (14 :: 15 :: 16 :: 17 :: 18 :: 19 :: 20 :: 21 :: 22 :: 23 :: 24 :: 25 :: 26 :: 27 :: 28 :: 29 :: 30 :: 31 :: 32 :: 33 :: 34 :: 35 :: 36 :: 37 :: 38 :: 39 :: 40 :: 41 :: 42 :: 43 :: 44 :: 45 :: 46 :: 47 :: 48 :: 49 :: 50 :: 51 :: 1 :: 2 :: 3 :: 4 :: 5 :: 6 :: [])) s0.2.2.2.1 s0.1 r5 hr5) ycX3_keep mw_286 (Nat.le_of_ble_eq_true rfl) rfl rfl rfl rfl (Nat.le_of_ble_eq_true rfl) ⟨Nat.zero_le _, Nat.zero_le _⟩ dX6_weight_31 (ll_31 _ _ _) rfl rfl (ll_32 _ _ _ _) ?_
      refine Go_aload_n (pc := 34) C dX6_weight_34 rfl ?_
      refine Go_get (pc := 35) C 0 0 rfl rfl inX6 (by decide) mw_243 rfl dX6_weight_35 ?_
      refine Go_get (pc := 38) C 1 0 rfl rfl inX1 (by decide) mw_94 rfl dX6_weight_38 ?_
      refine Go_iload_n (pc := 41) C dX6_weight_41 rfl ?_
      obtain ⟨hb, hf⟩ := ifs hf
      refine Go_iald (pc := 42) C 2 rfl (inb_in hb) dX6_weight_42 ?_
      obtain ⟨v6, hv6, hf⟩ := bnd hf
      refine Go_topi (Option.some.inj hv6) ?_
      refine Go_istore_n (pc := 43) C dX6_weight_43 (by decide) ?_
      refine Go_aload_n (pc := 44) C dX6_weight_44 rfl ?_
      refine Go_get (pc := 45) C 0 0 rfl rfl inX6 (by decide) mw_243 rfl dX6_weight_45 ?_
      refine Go_get (pc := 48) C 1 0 rfl rfl inX1 (by decide) mw_94 rfl dX6_weight_48 ?_
      refine Go_iload_n (pc := 51) C dX6_weight_51 rfl ?_
      refine Go_iload_n (pc := 52) C dX6_weight_52 rfl ?_
      obtain ⟨hb, hf⟩ := ifs hf
      refine Go_iast (pc := 53) (ws1 := (w6 K a (((upd s0.1.1 p1.toNatClampNeg p2, s0.1.2), s0.2.1, s0.2.2.1, r5, s0.2.2.2.2)))) C 2 rfl (inb_in hb) dX6_weight_53 (ll_34 _ _ _ _) ?_
      refine Go_iload_n (pc := 54) C dX6_weight_54 rfl ?_
      obtain rfl := Option.some.inj hf
      exact Go_iret C hr rfl dX6_weight_55
def fX6_sum_L4 (n0 : Nat) (f0 : (Nat → Int32)) (q1 : Int32 × Int32) : Option ((Int32 × Int32) ⊕ (Int32 × Int32)) := (if (nI n0) ≤ q1.2 then some (.inr (q1.1, q1.2)) else (if 0 ≤ q1.2 ∧ q1.2.toNatClampNeg < n0 then Option.bind (some (q1.1 + (f0 q1.2.toNatClampNeg))) (fun v2 => Option.bind (some (q1.2 + (1 : Int32))) (fun v3 => some (.inl (v2, v3)))) else none))
def fX6_sum (n0 : Nat) (f0 : (Nat → Int32)) : Option (Int32) := Option.bind (loopF (fX6_sum_L4 n0 f0) 5000 ((0 : Int32), (0 : Int32))) (fun z4 => some z4.1)
theorem ycX6_sum : CalS yX6_sum cX6_sum 3 ((some .int)) 1 := ⟨mw_319, mw_61, mw_318, ⟨by decide, by decide, by decide +kernel⟩, by decide⟩
set_option maxHeartbeats 4000000 in
set_option maxRecDepth 100000 in
theorem kX6_sum (l : Launch) (K : KK) (a : Nat → Nat) (n0 : Nat) (f0 : (Nat → Int32)) (res : Int32) (hf : fX6_sum n0 f0 = some res) : Ct l K yX6_sum cX6_sum 3 ((some .int)) 0 [.ref (a 0)] (wA K a n0 f0) (some (.int res)) (wA K a n0 f0) := by
  refine Ct_of2 (by decide) rfl (Nat.le_of_ble_eq_true rfl) ?_
  intro p e σ m args below meth c C hr
  unfold fX6_sum at hf
  refine Go_iconst (pc := 0) (v := 0) C dX6_sum_0 ci_0 ?_
  refine Go_istore_n (pc := 1) C dX6_sum_1 (by decide) ?_
  refine Go_iconst (pc := 2) (v := 0) C dX6_sum_2 ci_0 ?_
  refine Go_istore_n (pc := 3) C dX6_sum_3 (by decide) ?_
  obtain ⟨z4, hz4, hf⟩ := bnd hf
  refine Go_mask [true, true, true] ?_
  refine loopF_go (step := (fX6_sum_L4 n0 f0)) (fun q1 => Go p l e (rmc 0 0 0) σ m args below meth c K (inW (wA K a n0 f0)) σ.heap 3 0 0 (MQ below (CtQ K (wA K a n0 f0) (some (.int res)) (wA K a n0 f0)) args σ 0 0 (inW (wA K a n0 f0))) (wA K a n0 f0) 4 [some (.ref (a 0)), some (.int q1.1), some (.int q1.2)] []) (fun z4 => Go p l e (rmc 0 0 0) σ m args below meth c K (inW (wA K a n0 f0)) σ.heap 3 0 0 (MQ below (CtQ K (wA K a n0 f0) (some (.int res)) (wA K a n0 f0)) args σ 0 0 (inW (wA K a n0 f0))) (wA K a n0 f0) 22 [some (.ref (a 0)), some (.int z4.1), some (.int z4.2)] []) ?_ _ _ _ hz4 ?_
  · intro q1 x hf hk
    unfold fX6_sum_L4 at hf
    refine Go_iload_n (pc := 4) C dX6_sum_4 rfl ?_
    refine Go_aload_n (pc := 5) C dX6_sum_5 rfl ?_
    refine Go_alen (pc := 6) C 0 rfl dX6_sum_6 ?_
    refine Go_icmp_ge (pc := 7) (tgt := 22) C dX6_sum_7 (by decide) (fun hc => ?_) (fun hc => ?_)
    · replace hf := ift hc hf
      obtain rfl := Option.some.inj hf
      exact Go_mask [true, true, true] hk
    · replace hf := iff' hc hf
      refine Go_iload_n (pc := 10) C dX6_sum_10 rfl ?_
      refine Go_aload_n (pc := 11) C dX6_sum_11 rfl ?_
      refine Go_iload_n (pc := 12) C dX6_sum_12 rfl ?_
      obtain ⟨hb, hf⟩ := ifs hf
      refine Go_iald (pc := 13) C 0 rfl (inb_in hb) dX6_sum_13 ?_
      refine Go_iadd (pc := 14) C dX6_sum_14 ?_
      obtain ⟨v2, hv2, hf⟩ := bnd hf
      refine Go_topi (Option.some.inj hv2) ?_
      refine Go_istore_n (pc := 15) C dX6_sum_15 (by decide) ?_
      obtain ⟨v3, hv3, hf⟩ := bnd hf
      refine Go_iinc (pc := 16) (v := v3) C dX6_sum_16 rfl (by rw [ci_1]; exact Option.some.inj hv3) ?_
      refine Go_goto (pc := 19) (tgt := 4) C dX6_sum_19 (by decide) ?_
      obtain rfl := Option.some.inj hf
      exact Go_mask [true, true, true] hk
  · show Go _ _ _ _ _ _ _ _ _ _ _ _ _ _ _ _ _ _ _ _ _
    refine Go_iload_n (pc := 22) C dX6_sum_22 rfl ?_
    obtain rfl := Option.some.inj hf
    exact Go_iret C hr rfl dX6_sum_23
theorem ll_35 (K : KK) (a : Nat → Nat) (t0 : S6) : ([2] : List Nat).map (fun i => (w6 K a t0)[i]?) = List.map some (wA K (pk a [2]) 96 t0.1.1) := rfl
def fX6_draw_L42 (p2 : Int32) (q7 : Int64 × Int32 × (Nat → Int32)) : Option ((Int64 × Int32 × (Nat → Int32)) ⊕ (Int64 × Int32 × (Nat → Int32))) := (if (96 : Int32) ≤ q7.2.1 then some (.inr (q7.1, q7.2.1, q7.2.2)) else Option.bind (some (((q7.1 * (1103515245 : Int64)) + (12345 : Int64)) - ((q7.1 * (1103515245 : Int64)) + (12345 : Int64)) / (2147483648 : Int64) * (2147483648 : Int64))) (fun v8 => (if ¬ ((p2 + (1 : Int32)).toInt64) = 0 then (if 0 ≤ q7.2.1 ∧ q7.2.1.toNatClampNeg < 96 then Option.bind (some (q7.2.1 + (1 : Int32))) (fun v9 => some (.inl (v8, v9, upd q7.2.2 q7.2.1.toNatClampNeg (((v8 / (65536 : Int64)) - (v8 / (65536 : Int64)) / ((p2 + (1 : Int32)).toInt64) * ((p2 + (1 : Int32)).toInt64)).toInt32)))) else none) else none)))
def fX6_draw (s0 : S6) (p1 : Int32) (p2 : Int32) : Option (Int32 × S6) := Option.bind (fX6_isWithin p1 (999999 : Int32)) (fun r1 => (if r1 = 0 then Option.bind (fX6_refuse s0 (-2 : Int32)) (fun r2 => some (r2.1, r2.2)) else Option.bind (fX6_isWithin p2 (9 : Int32)) (fun r3 => (if r3 = 0 then Option.bind (fX6_refuse s0 (-2 : Int32)) (fun r4 => some (r4.1, r4.2)) else Option.bind (fX3_keep s0.2.2.2.1 s0.1) (fun r5 => Option.bind (some (p1.toInt64)) (fun v6 => Option.bind (loopF (fX6_draw_L42 p2) 5000 (v6, (0 : Int32), s0.1.1)) (fun z10 => Option.bind (fX6_sum 96 z10.2.2) (fun r11 => some (r11, ((z10.2.2, s0.1.2), s0.2.1, s0.2.2.1, r5, s0.2.2.2.2))))))))))
theorem ycX6_draw : CalV yX6_draw cX6_draw 6 ((some .int)) 2 := ⟨mw_311, mw_61, mw_309, mw_310, ⟨by decide, by decide, by decide +kernel⟩, by decide⟩
set_option maxHeartbeats 4000000 in
set_option maxRecDepth 100000 in
theorem kX6_draw (l : Launch) (K : KK) (a : Nat → Nat) (s0 : S6) (p1 : Int32) (p2 : Int32) (res : Int32 × S6) (hf : fX6_draw s0 p1 p2 = some res) : Ct l K yX6_draw cX6_draw 6 ((some .int)) 3 [.ref (a 0), .int p1, .int p2] (w6 K a s0) (some (.int res.1)) (w6 K a res.2) := by
  refine Ct_of2 (by decide) rfl (Nat.le_of_ble_eq_true rfl) ?_
  intro p e σ m args below meth c C hr
  unfold fX6_draw at hf
  refine Go_iload_n (pc := 0) C dX6_draw_0 rfl ?_
  refine Go_ldc (pc := 1) (v := 999999) C mw_312 dX6_draw_1 ?_
  obtain ⟨r1, hr1, hf⟩ := bnd hf
  refine Go_callS1 (pc := 3) (ws1 := (w6 K a s0)) C [] (kX6_isWithin l K p1 (999999 : Int32) r1 hr1) ycX6_isWithin mw_272 (Nat.le_of_ble_eq_true rfl) rfl rfl (Nat.le_of_ble_eq_true rfl) ⟨Nat.zero_le _, Nat.zero_le _⟩ dX6_draw_3 rfl rfl rfl (Wr_same rfl) ?_
  refine Go_if_eq (pc := 6) (tgt := 18) C dX6_draw_6 (by decide) (fun hc => ?_) (fun hc => ?_)
  · replace hf := ift hc hf
    refine Go_aload_n (pc := 18) C dX6_draw_18 rfl ?_
    refine Go_bipush (pc := 19) (v := -2) C dX6_draw_19 cb_m2 ?_
    obtain ⟨r2, hr2, hf⟩ := bnd hf
    refine Go_callV1 (pc := 21) (ws1 := (w6 K a r2.2)) C 0 (0 :: 1 :: 2 :: 3 :: 4 :: 5 :: 6 :: 7 :: 8 :: 9 :: 10 :: 11 :: 12 :: 13 :: 14 :: 15 :: 16 :: 17 :: 18 :: 19 :: 20 :: 21 :: 22 :: 23 :: 24 :: 25 :: 26 :: 27 :: 28 :: 29 :: 30 :: 31 :: 32 :: 33 :: 34 :: 35 :: 36 :: 37 :: 38 :: 39 :: 40 :: 41 :: 42 :: 43 :: 44 :: 45 :: 46 :: 47 :: 48 :: 49 :: 50 :: 51 :: 52 :: 53 :: 54 :: 55 :: 56 :: 57 :: 58 :: 59 :: 60 :: 61 :: 62 :: 63 :: 64 :: 65 :: 66 :: 67 :: 68 :: []) (kX6_refuse l K (pk a (0 :: 1 :: 2 :: 3 :: 4 :: 5 :: 6 :: 7 :: 8 :: 9 :: 10 :: 11 :: 12 :: 13 :: 14 :: 15 :: 16 :: 17 :: 18 :: 19 :: 20 :: 21 :: 22 :: 23 :: 24 :: 25 :: 26 :: 27 :: 28 :: 29 :: 30 :: 31 :: 32 :: 33 :: 34 :: 35 :: 36 :: 37 :: 38 :: 39 :: 40 :: 41 :: 42 :: 43 :: 44 :: 45 :: 46 :: 47 :: 48 :: 49 :: 50 :: 51 :: 52 :: 53 :: 54 :: 55 :: 56 :: 57 :: 58 :: 59 :: 60 :: 61 :: 62 :: 63 :: 64 :: 65 :: 66 :: 67 :: 68 :: [])) s0 (-2 : Int32) r2 hr2) ycX6_refuse mw_278 (Nat.le_of_ble_eq_true rfl) rfl rfl rfl rfl (Nat.le_of_ble_eq_true rfl) ⟨Nat.zero_le _, Nat.zero_le _⟩ dX6_draw_21 (ll_28 _ _ _) rfl rfl (ll_29 _ _ _ _) ?_
    obtain rfl := Option.some.inj hf
    exact Go_iret C hr rfl dX6_draw_24
  · replace hf := iff' hc hf
    refine Go_iload_n (pc := 9) C dX6_draw_9 rfl ?_
    refine Go_bipush (pc := 10) (v := 9) C dX6_draw_10 cb_9 ?_
    obtain ⟨r3, hr3, hf⟩ := bnd hf
    refine Go_callS1 (pc := 12) (ws1 := (w6 K a s0)) C [] (kX6_isWithin l K p2 (9 : Int32) r3 hr3) ycX6_isWithin mw_272 (Nat.le_of_ble_eq_true rfl) rfl rfl (Nat.le_of_ble_eq_true rfl) ⟨Nat.zero_le _, Nat.zero_le _⟩ dX6_draw_12 rfl rfl rfl (Wr_same rfl) ?_
    refine Go_if_ne (pc := 15) (tgt := 25) C dX6_draw_15 (by decide) (fun hc => ?_) (fun hc => ?_)
    · replace hf := ift hc hf
      refine Go_aload_n (pc := 18) C dX6_draw_18 rfl ?_
      refine Go_bipush (pc := 19) (v := -2) C dX6_draw_19 cb_m2 ?_
      obtain ⟨r4, hr4, hf⟩ := bnd hf
      refine Go_callV1 (pc := 21) (ws1 := (w6 K a r4.2)) C 0 (0 :: 1 :: 2 :: 3 :: 4 :: 5 :: 6 :: 7 :: 8 :: 9 :: 10 :: 11 :: 12 :: 13 :: 14 :: 15 :: 16 :: 17 :: 18 :: 19 :: 20 :: 21 :: 22 :: 23 :: 24 :: 25 :: 26 :: 27 :: 28 :: 29 :: 30 :: 31 :: 32 :: 33 :: 34 :: 35 :: 36 :: 37 :: 38 :: 39 :: 40 :: 41 :: 42 :: 43 :: 44 :: 45 :: 46 :: 47 :: 48 :: 49 :: 50 :: 51 :: 52 :: 53 :: 54 :: 55 :: 56 :: 57 :: 58 :: 59 :: 60 :: 61 :: 62 :: 63 :: 64 :: 65 :: 66 :: 67 :: 68 :: []) (kX6_refuse l K (pk a (0 :: 1 :: 2 :: 3 :: 4 :: 5 :: 6 :: 7 :: 8 :: 9 :: 10 :: 11 :: 12 :: 13 :: 14 :: 15 :: 16 :: 17 :: 18 :: 19 :: 20 :: 21 :: 22 :: 23 :: 24 :: 25 :: 26 :: 27 :: 28 :: 29 :: 30 :: 31 :: 32 :: 33 :: 34 :: 35 :: 36 :: 37 :: 38 :: 39 :: 40 :: 41 :: 42 :: 43 :: 44 :: 45 :: 46 :: 47 :: 48 :: 49 :: 50 :: 51 :: 52 :: 53 :: 54 :: 55 :: 56 :: 57 :: 58 :: 59 :: 60 :: 61 :: 62 :: 63 :: 64 :: 65 :: 66 :: 67 :: 68 :: [])) s0 (-2 : Int32) r4 hr4) ycX6_refuse mw_278 (Nat.le_of_ble_eq_true rfl) rfl rfl rfl rfl (Nat.le_of_ble_eq_true rfl) ⟨Nat.zero_le _, Nat.zero_le _⟩ dX6_draw_21 (ll_28 _ _ _) rfl rfl (ll_29 _ _ _ _) ?_
      obtain rfl := Option.some.inj hf
      exact Go_iret C hr rfl dX6_draw_24
    · replace hf := iff' hc hf
      refine Go_aload_n (pc := 25) C dX6_draw_25 rfl ?_
      refine Go_get (pc := 26) C 0 3 rfl rfl inX6 (by decide) mw_246 rfl dX6_draw_26 ?_
      refine Go_aload_n (pc := 29) C dX6_draw_29 rfl ?_
      refine Go_get (pc := 30) C 0 0 rfl rfl inX6 (by decide) mw_243 rfl dX6_draw_30 ?_
      obtain ⟨r5, hr5, hf⟩ := bnd hf
      refine Go_callV0 (pc := 33) (ws1 := (w6 K a ((s0.1, s0.2.1, s0.2.2.1, r5, s0.2.2.2.2)))) C 14 (14 :: 15 :: 16 :: 17 :: 18 :: 19 :: 20 :: 21 :: 22 :: 23 :: 24 :: 25 :: 26 :: 27 :: 28 :: 29 :: 30 :: 31 :: 32 :: 33 :: 34 :: 35 :: 36 :: 37 :: 38 :: 39 :: 40 :: 41 :: 42 :: 43 :: 44 :: 45 :: 46 :: 47 :: 48 :: 49 :: 50 :: 51 :: 1 :: 2 :: 3 :: 4 :: 5 :: 6 :: []) (kX3_keep l K (pk a (14 :: 15 :: 16 :: 17 :: 18 :: 19 :: 20 :: 21 :: 22 :: 23 :: 24 :: 25 :: 26 :: 27 :: 28 :: 29 :: 30 :: 31 :: 32 :: 33 :: 34 :: 35 :: 36 :: 37 :: 38 :: 39 :: 40 :: 41 :: 42 :: 43 :: 44 :: 45 :: 46 :: 47 :: 48 :: 49 :: 50 :: 51 :: 1 :: 2 :: 3 :: 4 :: 5 :: 6 :: [])) s0.2.2.2.1 s0.1 r5 hr5) ycX3_keep mw_286 (Nat.le_of_ble_eq_true rfl) rfl rfl rfl rfl (Nat.le_of_ble_eq_true rfl) ⟨Nat.zero_le _, Nat.zero_le _⟩ dX6_draw_33 (ll_31 _ _ _) rfl rfl (ll_32 _ _ _ _) ?_
      refine Go_iload_n (pc := 36) C dX6_draw_36 rfl ?_
      refine Go_i2l (pc := 37) C dX6_draw_37 ?_
      obtain ⟨v6, hv6, hf⟩ := bnd hf
      refine Go_topl (Option.some.inj hv6) ?_
      refine Go_lstore_n (pc := 38) C dX6_draw_38 (by decide) ?_
      refine Go_iconst (pc := 39) (v := 0) C dX6_draw_39 ci_0 ?_
      refine Go_istore (pc := 40) C dX6_draw_40 (by decide) ?_
      obtain ⟨z10, hz10, hf⟩ := bnd hf
      refine Go_mask [true, true, true, true, false, true] ?_
      refine loopF_go (step := (fX6_draw_L42 p2)) (fun q7 => Go p l e (rmc 3 0 0) σ m args below meth c K (inW (w6 K a s0)) σ.heap 6 0 0 (MQ below (CtQ K (w6 K a s0) (some (.int res.1)) (w6 K a res.2)) args σ 0 0 (inW (w6 K a s0))) (w6 K a (((q7.2.2, s0.1.2), s0.2.1, s0.2.2.1, r5, s0.2.2.2.2))) 42 [some (.ref (a 0)), some (.int p1), some (.int p2), some (.long q7.1), none, some (.int q7.2.1)] []) (fun z10 => Go p l e (rmc 3 0 0) σ m args below meth c K (inW (w6 K a s0)) σ.heap 6 0 0 (MQ below (CtQ K (w6 K a s0) (some (.int res.1)) (w6 K a res.2)) args σ 0 0 (inW (w6 K a s0))) (w6 K a (((z10.2.2, s0.1.2), s0.2.1, s0.2.2.1, r5, s0.2.2.2.2))) 90 [some (.ref (a 0)), some (.int p1), some (.int p2), some (.long z10.1), none, some (.int z10.2.1)] []) ?_ _ _ _ hz10 ?_
      · intro q7 x hf hk
        unfold fX6_draw_L42 at hf
        refine Go_iload (pc := 42) C dX6_draw_42 rfl ?_
        refine Go_bipush (pc := 44) (v := 96) C dX6_draw_44 cb_96 ?_
        refine Go_icmp_ge (pc := 46) (tgt := 90) C dX6_draw_46 (by decide) (fun hc => ?_) (fun hc => ?_)
        · replace hf := ift hc hf
          obtain rfl := Option.some.inj hf
          exact Go_mask [true, true, true, true, false, true] hk
        · replace hf := iff' hc hf
          refine Go_lload_n (pc := 49) C dX6_draw_49 rfl ?_
          refine Go_ldc2 (pc := 50) (v := 1103515245) C mw_313 dX6_draw_50 ?_
          refine Go_lmul (pc := 53) C dX6_draw_53 ?_
          refine Go_ldc2 (pc := 54) (v := 12345) C mw_314 dX6_draw_54 ?_
          refine Go_ladd (pc := 57) C dX6_draw_57 ?_
          refine Go_ldc2 (pc := 58) (v := 2147483648) C mw_315 dX6_draw_58 ?_
          refine Go_lrem (pc := 61) C dX6_draw_61 (by decide) ?_
          obtain ⟨v8, hv8, hf⟩ := bnd hf
          refine Go_topl (Option.some.inj hv8) ?_
          refine Go_lstore_n (pc := 62) C dX6_draw_62 (by decide) ?_
          refine Go_aload_n (pc := 63) C dX6_draw_63 rfl ?_
          refine Go_get (pc := 64) C 0 0 rfl rfl inX6 (by decide) mw_243 rfl dX6_draw_64 ?_
          refine Go_get (pc := 67) C 1 0 rfl rfl inX1 (by decide) mw_94 rfl dX6_draw_67 ?_
          refine Go_iload (pc := 70) C dX6_draw_70 rfl ?_
          refine Go_lload_n (pc := 72) C dX6_draw_72 rfl ?_
          refine Go_ldc2 (pc := 73) (v := 65536) C mw_316 dX6_draw_73 ?_
          refine Go_ldiv (pc := 76) C dX6_draw_76 (by decide) ?_
          refine Go_iload_n (pc := 77) C dX6_draw_77 rfl ?_
          refine Go_iconst (pc := 78) (v := 1) C dX6_draw_78 ci_1 ?_
          refine Go_iadd (pc := 79) C dX6_draw_79 ?_
          refine Go_i2l (pc := 80) C dX6_draw_80 ?_
          obtain ⟨hne, hf⟩ := ifs hf
          refine Go_lrem (pc := 81) C dX6_draw_81 hne ?_
          refine Go_l2i (pc := 82) C dX6_draw_82 ?_
          obtain ⟨hb, hf⟩ := ifs hf
          refine Go_iast (pc := 83) (ws1 := (w6 K a (((upd q7.2.2 q7.2.1.toNatClampNeg (((v8 / (65536 : Int64)) - (v8 / (65536 : Int64)) / ((p2 + (1 : Int32)).toInt64) * ((p2 + (1 : Int32)).toInt64)).toInt32), s0.1.2), s0.2.1, s0.2.2.1, r5, s0.2.2.2.2)))) C 2 rfl (inb_in hb) dX6_draw_83 (ll_34 _ _ _ _) ?_
          obtain ⟨v9, hv9, hf⟩ := bnd hf
          refine Go_iinc (pc := 84) (v := v9) C dX6_draw_84 rfl (by rw [ci_1]; exact Option.some.inj hv9) ?_
          refine Go_goto (pc := 87) (tgt := 42) C dX6_draw_87 (by decide) ?_
          obtain rfl := Option.some.inj hf
          exact Go_mask [true, true, true, true, false, true] hk
      · show Go _ _ _ _ _ _ _ _ _ _ _ _ _ _ _ _ _ _ _ _ _
        refine Go_aload_n (pc := 90) C dX6_draw_90 rfl ?_
        refine Go_get (pc := 91) C 0 0 rfl rfl inX6 (by decide) mw_243 rfl dX6_draw_91 ?_
        refine Go_get (pc := 94) C 1 0 rfl rfl inX1 (by decide) mw_94 rfl dX6_draw_94 ?_
        obtain ⟨r11, hr11, hf⟩ := bnd hf
        refine Go_callS1 (pc := 97) (ws1 := (w6 K a (((z10.2.2, s0.1.2), s0.2.1, s0.2.2.1, r5, s0.2.2.2.2)))) C [2] (kX6_sum l K (pk a [2]) 96 z10.2.2 r11 hr11) ycX6_sum mw_317 (Nat.le_of_ble_eq_true rfl) rfl rfl (Nat.le_of_ble_eq_true rfl) ⟨Nat.zero_le _, Nat.zero_le _⟩ dX6_draw_97 (ll_35 _ _ _) rfl rfl (Wr_same (ll_35 _ _ _)) ?_
        obtain rfl := Option.some.inj hf
        exact Go_iret C hr rfl dX6_draw_100
theorem ll_36 (K : KK) (a : Nat → Nat) (t0 : S6) (y : Nat → Int32) : List.set (w6 K a t0) 4 (a 4, .inl (K.2.1, 12, .inl y)) = (w6 K a (((t0.1.1, t0.1.2.1, y, t0.1.2.2.2), t0.2))) := rfl
def fX6_strength (s0 : S6) (p1 : Int32) (p2 : Int32) : Option (Int32 × S6) := Option.bind (fX1_hasPillar s0.1 p1) (fun r1 => (if r1 = 0 then Option.bind (fX6_refuse s0 (-2 : Int32)) (fun r2 => some (r2.1, r2.2)) else Option.bind (fX6_isStrength p2) (fun r3 => (if r3 = 0 then Option.bind (fX6_refuse s0 (-2 : Int32)) (fun r4 => some (r4.1, r4.2)) else Option.bind (fX3_keep s0.2.2.2.1 s0.1) (fun r5 => (if 0 ≤ p1 ∧ p1.toNatClampNeg < 12 then Option.bind (some (s0.1.2.2.1 p1.toNatClampNeg)) (fun v6 => (if 0 ≤ p1 ∧ p1.toNatClampNeg < 12 then some (v6, ((s0.1.1, s0.1.2.1, upd s0.1.2.2.1 p1.toNatClampNeg p2, s0.1.2.2.2), s0.2.1, s0.2.2.1, r5, s0.2.2.2.2)) else none)) else none))))))
theorem ycX6_strength : CalV yX6_strength cX6_strength 4 ((some .int)) 2 := ⟨mw_323, mw_61, mw_321, mw_322, ⟨by decide, by decide, by decide +kernel⟩, by decide⟩
set_option maxHeartbeats 4000000 in
set_option maxRecDepth 100000 in
theorem kX6_strength (l : Launch) (K : KK) (a : Nat → Nat) (s0 : S6) (p1 : Int32) (p2 : Int32) (res : Int32 × S6) (hf : fX6_strength s0 p1 p2 = some res) : Ct l K yX6_strength cX6_strength 4 ((some .int)) 3 [.ref (a 0), .int p1, .int p2] (w6 K a s0) (some (.int res.1)) (w6 K a res.2) := by
  refine Ct_of2 (by decide) rfl (Nat.le_of_ble_eq_true rfl) ?_
  intro p e σ m args below meth c C hr
  unfold fX6_strength at hf
  refine Go_aload_n (pc := 0) C dX6_strength_0 rfl ?_
  refine Go_get (pc := 1) C 0 0 rfl rfl inX6 (by decide) mw_243 rfl dX6_strength_1 ?_
  refine Go_iload_n (pc := 4) C dX6_strength_4 rfl ?_
  obtain ⟨r1, hr1, hf⟩ := bnd hf
  refine Go_callV1 (pc := 5) (ws1 := (w6 K a s0)) C 1 [1, 2, 3, 4, 5, 6] (kX1_hasPillar l K (pk a [1, 2, 3, 4, 5, 6]) s0.1 p1 r1 hr1) ycX1_hasPillar mw_324 (Nat.le_of_ble_eq_true rfl) rfl rfl rfl rfl (Nat.le_of_ble_eq_true rfl) ⟨Nat.zero_le _, Nat.zero_le _⟩ dX6_strength_5 (ll_30 _ _ _) rfl rfl (Wr_same (ll_30 _ _ _)) ?_
  refine Go_if_eq (pc := 8) (tgt := 18) C dX6_strength_8 (by decide) (fun hc => ?_) (fun hc => ?_)
  · replace hf := ift hc hf
    refine Go_aload_n (pc := 18) C dX6_strength_18 rfl ?_
    refine Go_bipush (pc := 19) (v := -2) C dX6_strength_19 cb_m2 ?_
    obtain ⟨r2, hr2, hf⟩ := bnd hf
    refine Go_callV1 (pc := 21) (ws1 := (w6 K a r2.2)) C 0 (0 :: 1 :: 2 :: 3 :: 4 :: 5 :: 6 :: 7 :: 8 :: 9 :: 10 :: 11 :: 12 :: 13 :: 14 :: 15 :: 16 :: 17 :: 18 :: 19 :: 20 :: 21 :: 22 :: 23 :: 24 :: 25 :: 26 :: 27 :: 28 :: 29 :: 30 :: 31 :: 32 :: 33 :: 34 :: 35 :: 36 :: 37 :: 38 :: 39 :: 40 :: 41 :: 42 :: 43 :: 44 :: 45 :: 46 :: 47 :: 48 :: 49 :: 50 :: 51 :: 52 :: 53 :: 54 :: 55 :: 56 :: 57 :: 58 :: 59 :: 60 :: 61 :: 62 :: 63 :: 64 :: 65 :: 66 :: 67 :: 68 :: []) (kX6_refuse l K (pk a (0 :: 1 :: 2 :: 3 :: 4 :: 5 :: 6 :: 7 :: 8 :: 9 :: 10 :: 11 :: 12 :: 13 :: 14 :: 15 :: 16 :: 17 :: 18 :: 19 :: 20 :: 21 :: 22 :: 23 :: 24 :: 25 :: 26 :: 27 :: 28 :: 29 :: 30 :: 31 :: 32 :: 33 :: 34 :: 35 :: 36 :: 37 :: 38 :: 39 :: 40 :: 41 :: 42 :: 43 :: 44 :: 45 :: 46 :: 47 :: 48 :: 49 :: 50 :: 51 :: 52 :: 53 :: 54 :: 55 :: 56 :: 57 :: 58 :: 59 :: 60 :: 61 :: 62 :: 63 :: 64 :: 65 :: 66 :: 67 :: 68 :: [])) s0 (-2 : Int32) r2 hr2) ycX6_refuse mw_278 (Nat.le_of_ble_eq_true rfl) rfl rfl rfl rfl (Nat.le_of_ble_eq_true rfl) ⟨Nat.zero_le _, Nat.zero_le _⟩ dX6_strength_21 (ll_28 _ _ _) rfl rfl (ll_29 _ _ _ _) ?_
    obtain rfl := Option.some.inj hf
    exact Go_iret C hr rfl dX6_strength_24
  · replace hf := iff' hc hf
    refine Go_iload_n (pc := 11) C dX6_strength_11 rfl ?_
    obtain ⟨r3, hr3, hf⟩ := bnd hf
    refine Go_callS1 (pc := 12) (ws1 := (w6 K a s0)) C [] (kX6_isStrength l K p2 r3 hr3) ycX6_isStrength mw_275 (Nat.le_of_ble_eq_true rfl) rfl rfl (Nat.le_of_ble_eq_true rfl) ⟨Nat.zero_le _, Nat.zero_le _⟩ dX6_strength_12 rfl rfl rfl (Wr_same rfl) ?_
    refine Go_if_ne (pc := 15) (tgt := 25) C dX6_strength_15 (by decide) (fun hc => ?_) (fun hc => ?_)
    · replace hf := ift hc hf
      refine Go_aload_n (pc := 18) C dX6_strength_18 rfl ?_
      refine Go_bipush (pc := 19) (v := -2) C dX6_strength_19 cb_m2 ?_
      obtain ⟨r4, hr4, hf⟩ := bnd hf
      refine Go_callV1 (pc := 21) (ws1 := (w6 K a r4.2)) C 0 (0 :: 1 :: 2 :: 3 :: 4 :: 5 :: 6 :: 7 :: 8 :: 9 :: 10 :: 11 :: 12 :: 13 :: 14 :: 15 :: 16 :: 17 :: 18 :: 19 :: 20 :: 21 :: 22 :: 23 :: 24 :: 25 :: 26 :: 27 :: 28 :: 29 :: 30 :: 31 :: 32 :: 33 :: 34 :: 35 :: 36 :: 37 :: 38 :: 39 :: 40 :: 41 :: 42 :: 43 :: 44 :: 45 :: 46 :: 47 :: 48 :: 49 :: 50 :: 51 :: 52 :: 53 :: 54 :: 55 :: 56 :: 57 :: 58 :: 59 :: 60 :: 61 :: 62 :: 63 :: 64 :: 65 :: 66 :: 67 :: 68 :: []) (kX6_refuse l K (pk a (0 :: 1 :: 2 :: 3 :: 4 :: 5 :: 6 :: 7 :: 8 :: 9 :: 10 :: 11 :: 12 :: 13 :: 14 :: 15 :: 16 :: 17 :: 18 :: 19 :: 20 :: 21 :: 22 :: 23 :: 24 :: 25 :: 26 :: 27 :: 28 :: 29 :: 30 :: 31 :: 32 :: 33 :: 34 :: 35 :: 36 :: 37 :: 38 :: 39 :: 40 :: 41 :: 42 :: 43 :: 44 :: 45 :: 46 :: 47 :: 48 :: 49 :: 50 :: 51 :: 52 :: 53 :: 54 :: 55 :: 56 :: 57 :: 58 :: 59 :: 60 :: 61 :: 62 :: 63 :: 64 :: 65 :: 66 :: 67 :: 68 :: [])) s0 (-2 : Int32) r4 hr4) ycX6_refuse mw_278 (Nat.le_of_ble_eq_true rfl) rfl rfl rfl rfl (Nat.le_of_ble_eq_true rfl) ⟨Nat.zero_le _, Nat.zero_le _⟩ dX6_strength_21 (ll_28 _ _ _) rfl rfl (ll_29 _ _ _ _) ?_
      obtain rfl := Option.some.inj hf
      exact Go_iret C hr rfl dX6_strength_24
    · replace hf := iff' hc hf
      refine Go_aload_n (pc := 25) C dX6_strength_25 rfl ?_
      refine Go_get (pc := 26) C 0 3 rfl rfl inX6 (by decide) mw_246 rfl dX6_strength_26 ?_
      refine Go_aload_n (pc := 29) C dX6_strength_29 rfl ?_
      refine Go_get (pc := 30) C 0 0 rfl rfl inX6 (by decide) mw_243 rfl dX6_strength_30 ?_
      obtain ⟨r5, hr5, hf⟩ := bnd hf
      refine Go_callV0 (pc := 33) (ws1 := (w6 K a ((s0.1, s0.2.1, s0.2.2.1, r5, s0.2.2.2.2)))) C 14 (14 :: 15 :: 16 :: 17 :: 18 :: 19 :: 20 :: 21 :: 22 :: 23 :: 24 :: 25 :: 26 :: 27 :: 28 :: 29 :: 30 :: 31 :: 32 :: 33 :: 34 :: 35 :: 36 :: 37 :: 38 :: 39 :: 40 :: 41 :: 42 :: 43 :: 44 :: 45 :: 46 :: 47 :: 48 :: 49 :: 50 :: 51 :: 1 :: 2 :: 3 :: 4 :: 5 :: 6 :: []) (kX3_keep l K (pk a (14 :: 15 :: 16 :: 17 :: 18 :: 19 :: 20 :: 21 :: 22 :: 23 :: 24 :: 25 :: 26 :: 27 :: 28 :: 29 :: 30 :: 31 :: 32 :: 33 :: 34 :: 35 :: 36 :: 37 :: 38 :: 39 :: 40 :: 41 :: 42 :: 43 :: 44 :: 45 :: 46 :: 47 :: 48 :: 49 :: 50 :: 51 :: 1 :: 2 :: 3 :: 4 :: 5 :: 6 :: [])) s0.2.2.2.1 s0.1 r5 hr5) ycX3_keep mw_286 (Nat.le_of_ble_eq_true rfl) rfl rfl rfl rfl (Nat.le_of_ble_eq_true rfl) ⟨Nat.zero_le _, Nat.zero_le _⟩ dX6_strength_33 (ll_31 _ _ _) rfl rfl (ll_32 _ _ _ _) ?_
      refine Go_aload_n (pc := 36) C dX6_strength_36 rfl ?_
      refine Go_get (pc := 37) C 0 0 rfl rfl inX6 (by decide) mw_243 rfl dX6_strength_37 ?_
      refine Go_get (pc := 40) C 1 2 rfl rfl inX1 (by decide) mw_102 rfl dX6_strength_40 ?_
      refine Go_iload_n (pc := 43) C dX6_strength_43 rfl ?_
      obtain ⟨hb, hf⟩ := ifs hf
      refine Go_iald (pc := 44) C 4 rfl (inb_in hb) dX6_strength_44 ?_
      obtain ⟨v6, hv6, hf⟩ := bnd hf
      refine Go_topi (Option.some.inj hv6) ?_
      refine Go_istore_n (pc := 45) C dX6_strength_45 (by decide) ?_
      refine Go_aload_n (pc := 46) C dX6_strength_46 rfl ?_
      refine Go_get (pc := 47) C 0 0 rfl rfl inX6 (by decide) mw_243 rfl dX6_strength_47 ?_
      refine Go_get (pc := 50) C 1 2 rfl rfl inX1 (by decide) mw_102 rfl dX6_strength_50 ?_
      refine Go_iload_n (pc := 53) C dX6_strength_53 rfl ?_
      refine Go_iload_n (pc := 54) C dX6_strength_54 rfl ?_
      obtain ⟨hb, hf⟩ := ifs hf
      refine Go_iast (pc := 55) (ws1 := (w6 K a (((s0.1.1, s0.1.2.1, upd s0.1.2.2.1 p1.toNatClampNeg p2, s0.1.2.2.2), s0.2.1, s0.2.2.1, r5, s0.2.2.2.2)))) C 4 rfl (inb_in hb) dX6_strength_55 (ll_36 _ _ _ _) ?_
      refine Go_iload_n (pc := 56) C dX6_strength_56 rfl ?_
      obtain rfl := Option.some.inj hf
      exact Go_iret C hr rfl dX6_strength_57
theorem ll_37 (K : KK) (a : Nat → Nat) (t0 : S6) (y : Nat → Int32) : List.set (w6 K a t0) 6 (a 6, .inl (K.2.1, 21, .inl y)) = (w6 K a (((t0.1.1, t0.1.2.1, t0.1.2.2.1, t0.1.2.2.2.1, y, t0.1.2.2.2.2.2), t0.2))) := rfl
def fX6_wall (s0 : S6) (p1 : Int32) (p2 : Int32) (p3 : Int32) : Option (Int32 × S6) := Option.bind (fX6_isWithin p1 (1 : Int32)) (fun r1 => (if r1 = 0 then Option.bind (fX6_refuse s0 (-2 : Int32)) (fun r2 => some (r2.1, r2.2)) else (if p1 = 0 then Option.bind (fX6_isWithin p2 (6 : Int32)) (fun r3 => (if r3 = 0 then Option.bind (fX6_refuse s0 (-2 : Int32)) (fun r4 => some (r4.1, r4.2)) else Option.bind (fX6_isWithin p3 (1 : Int32)) (fun r5 => (if r5 = 0 then Option.bind (fX6_refuse s0 (-2 : Int32)) (fun r6 => some (r6.1, r6.2)) else Option.bind (fX3_keep s0.2.2.2.1 s0.1) (fun r7 => (if p1 = 0 then Option.bind (some (p2 + (0 : Int32))) (fun v8 => (if 0 ≤ v8 ∧ v8.toNatClampNeg < 21 then Option.bind (some (s0.1.2.2.2.2.1 v8.toNatClampNeg)) (fun v9 => (if 0 ≤ v8 ∧ v8.toNatClampNeg < 21 then some (v9, ((s0.1.1, s0.1.2.1, s0.1.2.2.1, s0.1.2.2.2.1, upd s0.1.2.2.2.2.1 v8.toNatClampNeg p3, s0.1.2.2.2.2.2), s0.2.1, s0.2.2.1, r7, s0.2.2.2.2)) else none)) else none)) else Option.bind (some (p2 + (10 : Int32))) (fun v10 => (if 0 ≤ v10 ∧ v10.toNatClampNeg < 21 then Option.bind (some (s0.1.2.2.2.2.1 v10.toNatClampNeg)) (fun v11 => (if 0 ≤ v10 ∧ v10.toNatClampNeg < 21 then some (v11, ((s0.1.1, s0.1.2.1, s0.1.2.2.1, s0.1.2.2.2.1, upd s0.1.2.2.2.2.1 v10.toNatClampNeg p3, s0.1.2.2.2.2.2), s0.2.1, s0.2.2.1, r7, s0.2.2.2.2)) else none)) else none)))))))) else Option.bind (fX6_isWithin p2 (10 : Int32)) (fun r12 => (if r12 = 0 then Option.bind (fX6_refuse s0 (-2 : Int32)) (fun r13 => some (r13.1, r13.2)) else Option.bind (fX6_isWithin p3 (1 : Int32)) (fun r14 => (if r14 = 0 then Option.bind (fX6_refuse s0 (-2 : Int32)) (fun r15 => some (r15.1, r15.2)) else Option.bind (fX3_keep s0.2.2.2.1 s0.1) (fun r16 => (if p1 = 0 then Option.bind (some (p2 + (0 : Int32))) (fun v17 => (if 0 ≤ v17 ∧ v17.toNatClampNeg < 21 then Option.bind (some (s0.1.2.2.2.2.1 v17.toNatClampNeg)) (fun v18 => (if 0 ≤ v17 ∧ v17.toNatClampNeg < 21 then some (v18, ((s0.1.1, s0.1.2.1, s0.1.2.2.1, s0.1.2.2.2.1, upd s0.1.2.2.2.2.1 v17.toNatClampNeg p3, s0.1.2.2.2.2.2), s0.2.1, s0.2.2.1, r16, s0.2.2.2.2)) else none)) else none)) else Option.bind (some (p2 + (10 : Int32))) (fun v19 => (if 0 ≤ v19 ∧ v19.toNatClampNeg < 21 then Option.bind (some (s0.1.2.2.2.2.1 v19.toNatClampNeg)) (fun v20 => (if 0 ≤ v19 ∧ v19.toNatClampNeg < 21 then some (v20, ((s0.1.1, s0.1.2.1, s0.1.2.2.1, s0.1.2.2.2.1, upd s0.1.2.2.2.2.1 v19.toNatClampNeg p3, s0.1.2.2.2.2.2), s0.2.1, s0.2.2.1, r16, s0.2.2.2.2)) else none)) else none)))))))))))
theorem ycX6_wall : CalV yX6_wall cX6_wall 6 ((some .int)) 3 := ⟨mw_331, mw_61, mw_329, mw_330, ⟨by decide, by decide, by decide +kernel⟩, by decide⟩
set_option maxHeartbeats 4000000 in
set_option maxRecDepth 100000 in
theorem kX6_wall (l : Launch) (K : KK) (a : Nat → Nat) (s0 : S6) (p1 : Int32) (p2 : Int32) (p3 : Int32) (res : Int32 × S6) (hf : fX6_wall s0 p1 p2 p3 = some res) : Ct l K yX6_wall cX6_wall 6 ((some .int)) 3 [.ref (a 0), .int p1, .int p2, .int p3] (w6 K a s0) (some (.int res.1)) (w6 K a res.2) := by
  refine Ct_of2 (by decide) rfl (Nat.le_of_ble_eq_true rfl) ?_
  intro p e σ m args below meth c C hr
  unfold fX6_wall at hf
  refine Go_iload_n (pc := 0) C dX6_wall_0 rfl ?_
  refine Go_iconst (pc := 1) (v := 1) C dX6_wall_1 ci_1 ?_
  obtain ⟨r1, hr1, hf⟩ := bnd hf
  refine Go_callS1 (pc := 2) (ws1 := (w6 K a s0)) C [] (kX6_isWithin l K p1 (1 : Int32) r1 hr1) ycX6_isWithin mw_272 (Nat.le_of_ble_eq_true rfl) rfl rfl (Nat.le_of_ble_eq_true rfl) ⟨Nat.zero_le _, Nat.zero_le _⟩ dX6_wall_2 rfl rfl rfl (Wr_same rfl) ?_
  refine Go_if_eq (pc := 5) (tgt := 34) C dX6_wall_5 (by decide) (fun hc => ?_) (fun hc => ?_)
  · replace hf := ift hc hf
    refine Go_aload_n (pc := 34) C dX6_wall_34 rfl ?_
    refine Go_bipush (pc := 35) (v := -2) C dX6_wall_35 cb_m2 ?_
    obtain ⟨r2, hr2, hf⟩ := bnd hf
    refine Go_callV1 (pc := 37) (ws1 := (w6 K a r2.2)) C 0 (0 :: 1 :: 2 :: 3 :: 4 :: 5 :: 6 :: 7 :: 8 :: 9 :: 10 :: 11 :: 12 :: 13 :: 14 :: 15 :: 16 :: 17 :: 18 :: 19 :: 20 :: 21 :: 22 :: 23 :: 24 :: 25 :: 26 :: 27 :: 28 :: 29 :: 30 :: 31 :: 32 :: 33 :: 34 :: 35 :: 36 :: 37 :: 38 :: 39 :: 40 :: 41 :: 42 :: 43 :: 44 :: 45 :: 46 :: 47 :: 48 :: 49 :: 50 :: 51 :: 52 :: 53 :: 54 :: 55 :: 56 :: 57 :: 58 :: 59 :: 60 :: 61 :: 62 :: 63 :: 64 :: 65 :: 66 :: 67 :: 68 :: []) (kX6_refuse l K (pk a (0 :: 1 :: 2 :: 3 :: 4 :: 5 :: 6 :: 7 :: 8 :: 9 :: 10 :: 11 :: 12 :: 13 :: 14 :: 15 :: 16 :: 17 :: 18 :: 19 :: 20 :: 21 :: 22 :: 23 :: 24 :: 25 :: 26 :: 27 :: 28 :: 29 :: 30 :: 31 :: 32 :: 33 :: 34 :: 35 :: 36 :: 37 :: 38 :: 39 :: 40 :: 41 :: 42 :: 43 :: 44 :: 45 :: 46 :: 47 :: 48 :: 49 :: 50 :: 51 :: 52 :: 53 :: 54 :: 55 :: 56 :: 57 :: 58 :: 59 :: 60 :: 61 :: 62 :: 63 :: 64 :: 65 :: 66 :: 67 :: 68 :: [])) s0 (-2 : Int32) r2 hr2) ycX6_refuse mw_278 (Nat.le_of_ble_eq_true rfl) rfl rfl rfl rfl (Nat.le_of_ble_eq_true rfl) ⟨Nat.zero_le _, Nat.zero_le _⟩ dX6_wall_37 (ll_28 _ _ _) rfl rfl (ll_29 _ _ _ _) ?_
    obtain rfl := Option.some.inj hf
    exact Go_iret C hr rfl dX6_wall_40
  · replace hf := iff' hc hf
    refine Go_iload_n (pc := 8) C dX6_wall_8 rfl ?_
    refine Go_iload_n (pc := 9) C dX6_wall_9 rfl ?_
    refine Go_if_ne (pc := 10) (tgt := 18) C dX6_wall_10 (by decide) (fun hc => ?_) (fun hc => ?_)
    · replace hf := ift hc hf
      refine Go_bipush (pc := 13) (v := 6) C dX6_wall_13 cb_6 ?_
      refine Go_goto (pc := 15) (tgt := 20) C dX6_wall_15 (by decide) ?_
      obtain ⟨r3, hr3, hf⟩ := bnd hf
      refine Go_callS1 (pc := 20) (ws1 := (w6 K a s0)) C [] (kX6_isWithin l K p2 (6 : Int32) r3 hr3) ycX6_isWithin mw_272 (Nat.le_of_ble_eq_true rfl) rfl rfl (Nat.le_of_ble_eq_true rfl) ⟨Nat.zero_le _, Nat.zero_le _⟩ dX6_wall_20 rfl rfl rfl (Wr_same rfl) ?_
      refine Go_if_eq (pc := 23) (tgt := 34) C dX6_wall_23 (by decide) (fun hc => ?_) (fun hc => ?_)
      · replace hf := ift hc hf
        refine Go_aload_n (pc := 34) C dX6_wall_34 rfl ?_
        refine Go_bipush (pc := 35) (v := -2) C dX6_wall_35 cb_m2 ?_
        obtain ⟨r4, hr4, hf⟩ := bnd hf
        refine Go_callV1 (pc := 37) (ws1 := (w6 K a r4.2)) C 0 (0 :: 1 :: 2 :: 3 :: 4 :: 5 :: 6 :: 7 :: 8 :: 9 :: 10 :: 11 :: 12 :: 13 :: 14 :: 15 :: 16 :: 17 :: 18 :: 19 :: 20 :: 21 :: 22 :: 23 :: 24 :: 25 :: 26 :: 27 :: 28 :: 29 :: 30 :: 31 :: 32 :: 33 :: 34 :: 35 :: 36 :: 37 :: 38 :: 39 :: 40 :: 41 :: 42 :: 43 :: 44 :: 45 :: 46 :: 47 :: 48 :: 49 :: 50 :: 51 :: 52 :: 53 :: 54 :: 55 :: 56 :: 57 :: 58 :: 59 :: 60 :: 61 :: 62 :: 63 :: 64 :: 65 :: 66 :: 67 :: 68 :: []) (kX6_refuse l K (pk a (0 :: 1 :: 2 :: 3 :: 4 :: 5 :: 6 :: 7 :: 8 :: 9 :: 10 :: 11 :: 12 :: 13 :: 14 :: 15 :: 16 :: 17 :: 18 :: 19 :: 20 :: 21 :: 22 :: 23 :: 24 :: 25 :: 26 :: 27 :: 28 :: 29 :: 30 :: 31 :: 32 :: 33 :: 34 :: 35 :: 36 :: 37 :: 38 :: 39 :: 40 :: 41 :: 42 :: 43 :: 44 :: 45 :: 46 :: 47 :: 48 :: 49 :: 50 :: 51 :: 52 :: 53 :: 54 :: 55 :: 56 :: 57 :: 58 :: 59 :: 60 :: 61 :: 62 :: 63 :: 64 :: 65 :: 66 :: 67 :: 68 :: [])) s0 (-2 : Int32) r4 hr4) ycX6_refuse mw_278 (Nat.le_of_ble_eq_true rfl) rfl rfl rfl rfl (Nat.le_of_ble_eq_true rfl) ⟨Nat.zero_le _, Nat.zero_le _⟩ dX6_wall_37 (ll_28 _ _ _) rfl rfl (ll_29 _ _ _ _) ?_
        obtain rfl := Option.some.inj hf
        exact Go_iret C hr rfl dX6_wall_40
      · replace hf := iff' hc hf
        refine Go_iload_n (pc := 26) C dX6_wall_26 rfl ?_
        refine Go_iconst (pc := 27) (v := 1) C dX6_wall_27 ci_1 ?_
        obtain ⟨r5, hr5, hf⟩ := bnd hf
        refine Go_callS1 (pc := 28) (ws1 := (w6 K a s0)) C [] (kX6_isWithin l K p3 (1 : Int32) r5 hr5) ycX6_isWithin mw_272 (Nat.le_of_ble_eq_true rfl) rfl rfl (Nat.le_of_ble_eq_true rfl) ⟨Nat.zero_le _, Nat.zero_le _⟩ dX6_wall_28 rfl rfl rfl (Wr_same rfl) ?_
        refine Go_if_ne (pc := 31) (tgt := 41) C dX6_wall_31 (by decide) (fun hc => ?_) (fun hc => ?_)
        · replace hf := ift hc hf
          refine Go_aload_n (pc := 34) C dX6_wall_34 rfl ?_
          refine Go_bipush (pc := 35) (v := -2) C dX6_wall_35 cb_m2 ?_
          obtain ⟨r6, hr6, hf⟩ := bnd hf
          refine Go_callV1 (pc := 37) (ws1 := (w6 K a r6.2)) C 0 (0 :: 1 :: 2 :: 3 :: 4 :: 5 :: 6 :: 7 :: 8 :: 9 :: 10 :: 11 :: 12 :: 13 :: 14 :: 15 :: 16 :: 17 :: 18 :: 19 :: 20 :: 21 :: 22 :: 23 :: 24 :: 25 :: 26 :: 27 :: 28 :: 29 :: 30 :: 31 :: 32 :: 33 :: 34 :: 35 :: 36 :: 37 :: 38 :: 39 :: 40 :: 41 :: 42 :: 43 :: 44 :: 45 :: 46 :: 47 :: 48 :: 49 :: 50 :: 51 :: 52 :: 53 :: 54 :: 55 :: 56 :: 57 :: 58 :: 59 :: 60 :: 61 :: 62 :: 63 :: 64 :: 65 :: 66 :: 67 :: 68 :: []) (kX6_refuse l K (pk a (0 :: 1 :: 2 :: 3 :: 4 :: 5 :: 6 :: 7 :: 8 :: 9 :: 10 :: 11 :: 12 :: 13 :: 14 :: 15 :: 16 :: 17 :: 18 :: 19 :: 20 :: 21 :: 22 :: 23 :: 24 :: 25 :: 26 :: 27 :: 28 :: 29 :: 30 :: 31 :: 32 :: 33 :: 34 :: 35 :: 36 :: 37 :: 38 :: 39 :: 40 :: 41 :: 42 :: 43 :: 44 :: 45 :: 46 :: 47 :: 48 :: 49 :: 50 :: 51 :: 52 :: 53 :: 54 :: 55 :: 56 :: 57 :: 58 :: 59 :: 60 :: 61 :: 62 :: 63 :: 64 :: 65 :: 66 :: 67 :: 68 :: [])) s0 (-2 : Int32) r6 hr6) ycX6_refuse mw_278 (Nat.le_of_ble_eq_true rfl) rfl rfl rfl rfl (Nat.le_of_ble_eq_true rfl) ⟨Nat.zero_le _, Nat.zero_le _⟩ dX6_wall_37 (ll_28 _ _ _) rfl rfl (ll_29 _ _ _ _) ?_
          obtain rfl := Option.some.inj hf
          exact Go_iret C hr rfl dX6_wall_40
        · replace hf := iff' hc hf
          refine Go_aload_n (pc := 41) C dX6_wall_41 rfl ?_
          refine Go_get (pc := 42) C 0 3 rfl rfl inX6 (by decide) mw_246 rfl dX6_wall_42 ?_
          refine Go_aload_n (pc := 45) C dX6_wall_45 rfl ?_
          refine Go_get (pc := 46) C 0 0 rfl rfl inX6 (by decide) mw_243 rfl dX6_wall_46 ?_
          obtain ⟨r7, hr7, hf⟩ := bnd hf
          refine Go_callV0 (pc := 49) (ws1 := (w6 K a ((s0.1, s0.2.1, s0.2.2.1, r7, s0.2.2.2.2)))) C 14 (14 :: 15 :: 16 :: 17 :: 18 :: 19 :: 20 :: 21 :: 22 :: 23 :: 24 :: 25 :: 26 :: 27 :: 28 :: 29 :: 30 :: 31 :: 32 :: 33 :: 34 :: 35 :: 36 :: 37 :: 38 :: 39 :: 40 :: 41 :: 42 :: 43 :: 44 :: 45 :: 46 :: 47 :: 48 :: 49 :: 50 :: 51 :: 1 :: 2 :: 3 :: 4 :: 5 :: 6 :: []) (kX3_keep l K (pk a (14 :: 15 :: 16 :: 17 :: 18 :: 19 :: 20 :: 21 :: 22 :: 23 :: 24 :: 25 :: 26 :: 27 :: 28 :: 29 :: 30 :: 31 :: 32 :: 33 :: 34 :: 35 :: 36 :: 37 :: 38 :: 39 :: 40 :: 41 :: 42 :: 43 :: 44 :: 45 :: 46 :: 47 :: 48 :: 49 :: 50 :: 51 :: 1 :: 2 :: 3 :: 4 :: 5 :: 6 :: [])) s0.2.2.2.1 s0.1 r7 hr7) ycX3_keep mw_286 (Nat.le_of_ble_eq_true rfl) rfl rfl rfl rfl (Nat.le_of_ble_eq_true rfl) ⟨Nat.zero_le _, Nat.zero_le _⟩ dX6_wall_49 (ll_31 _ _ _) rfl rfl (ll_32 _ _ _ _) ?_
          refine Go_iload_n (pc := 52) C dX6_wall_52 rfl ?_
          refine Go_iload_n (pc := 53) C dX6_wall_53 rfl ?_
          refine Go_if_ne (pc := 54) (tgt := 61) C dX6_wall_54 (by decide) (fun hc => ?_) (fun hc => ?_)
          · replace hf := ift hc hf
            refine Go_iconst (pc := 57) (v := 0) C dX6_wall_57 ci_0 ?_
            refine Go_goto (pc := 58) (tgt := 63) C dX6_wall_58 (by decide) ?_
            refine Go_iadd (pc := 63) C dX6_wall_63 ?_
            obtain ⟨v8, hv8, hf⟩ := bnd hf
            refine Go_topi (Option.some.inj hv8) ?_
            refine Go_istore (pc := 64) C dX6_wall_64 (by decide) ?_
            refine Go_aload_n (pc := 66) C dX6_wall_66 rfl ?_
            refine Go_get (pc := 67) C 0 0 rfl rfl inX6 (by decide) mw_243 rfl dX6_wall_67 ?_
            refine Go_get (pc := 70) C 1 4 rfl rfl inX1 (by decide) mw_111 rfl dX6_wall_70 ?_
            refine Go_iload (pc := 73) C dX6_wall_73 rfl ?_
            obtain ⟨hb, hf⟩ := ifs hf
            refine Go_iald (pc := 75) C 6 rfl (inb_in hb) dX6_wall_75 ?_
            obtain ⟨v9, hv9, hf⟩ := bnd hf
            refine Go_topi (Option.some.inj hv9) ?_
            refine Go_istore (pc := 76) C dX6_wall_76 (by decide) ?_
            refine Go_aload_n (pc := 78) C dX6_wall_78 rfl ?_
            refine Go_get (pc := 79) C 0 0 rfl rfl inX6 (by decide) mw_243 rfl dX6_wall_79 ?_
            refine Go_get (pc := 82) C 1 4 rfl rfl inX1 (by decide) mw_111 rfl dX6_wall_82 ?_
            refine Go_iload (pc := 85) C dX6_wall_85 rfl ?_
            refine Go_iload_n (pc := 87) C dX6_wall_87 rfl ?_
            obtain ⟨hb, hf⟩ := ifs hf
            refine Go_iast (pc := 88) (ws1 := (w6 K a (((s0.1.1, s0.1.2.1, s0.1.2.2.1, s0.1.2.2.2.1, upd s0.1.2.2.2.2.1 v8.toNatClampNeg p3, s0.1.2.2.2.2.2), s0.2.1, s0.2.2.1, r7, s0.2.2.2.2)))) C 6 rfl (inb_in hb) dX6_wall_88 (ll_37 _ _ _ _) ?_
            refine Go_iload (pc := 89) C dX6_wall_89 rfl ?_
            obtain rfl := Option.some.inj hf
            exact Go_iret C hr rfl dX6_wall_91
          · replace hf := iff' hc hf
            refine Go_bipush (pc := 61) (v := 10) C dX6_wall_61 cb_10 ?_
            refine Go_iadd (pc := 63) C dX6_wall_63 ?_
            obtain ⟨v10, hv10, hf⟩ := bnd hf
            refine Go_topi (Option.some.inj hv10) ?_
            refine Go_istore (pc := 64) C dX6_wall_64 (by decide) ?_
            refine Go_aload_n (pc := 66) C dX6_wall_66 rfl ?_
            refine Go_get (pc := 67) C 0 0 rfl rfl inX6 (by decide) mw_243 rfl dX6_wall_67 ?_
            refine Go_get (pc := 70) C 1 4 rfl rfl inX1 (by decide) mw_111 rfl dX6_wall_70 ?_
            refine Go_iload (pc := 73) C dX6_wall_73 rfl ?_
            obtain ⟨hb, hf⟩ := ifs hf
            refine Go_iald (pc := 75) C 6 rfl (inb_in hb) dX6_wall_75 ?_
            obtain ⟨v11, hv11, hf⟩ := bnd hf
            refine Go_topi (Option.some.inj hv11) ?_
            refine Go_istore (pc := 76) C dX6_wall_76 (by decide) ?_
            refine Go_aload_n (pc := 78) C dX6_wall_78 rfl ?_
            refine Go_get (pc := 79) C 0 0 rfl rfl inX6 (by decide) mw_243 rfl dX6_wall_79 ?_
            refine Go_get (pc := 82) C 1 4 rfl rfl inX1 (by decide) mw_111 rfl dX6_wall_82 ?_
            refine Go_iload (pc := 85) C dX6_wall_85 rfl ?_
            refine Go_iload_n (pc := 87) C dX6_wall_87 rfl ?_
            obtain ⟨hb, hf⟩ := ifs hf
            refine Go_iast (pc := 88) (ws1 := (w6 K a (((s0.1.1, s0.1.2.1, s0.1.2.2.1, s0.1.2.2.2.1, upd s0.1.2.2.2.2.1 v10.toNatClampNeg p3, s0.1.2.2.2.2.2), s0.2.1, s0.2.2.1, r7, s0.2.2.2.2)))) C 6 rfl (inb_in hb) dX6_wall_88 (ll_37 _ _ _ _) ?_
            refine Go_iload (pc := 89) C dX6_wall_89 rfl ?_
            obtain rfl := Option.some.inj hf
            exact Go_iret C hr rfl dX6_wall_91
    · replace hf := iff' hc hf
      refine Go_bipush (pc := 18) (v := 10) C dX6_wall_18 cb_10 ?_
      obtain ⟨r12, hr12, hf⟩ := bnd hf
      refine Go_callS1 (pc := 20) (ws1 := (w6 K a s0)) C [] (kX6_isWithin l K p2 (10 : Int32) r12 hr12) ycX6_isWithin mw_272 (Nat.le_of_ble_eq_true rfl) rfl rfl (Nat.le_of_ble_eq_true rfl) ⟨Nat.zero_le _, Nat.zero_le _⟩ dX6_wall_20 rfl rfl rfl (Wr_same rfl) ?_
      refine Go_if_eq (pc := 23) (tgt := 34) C dX6_wall_23 (by decide) (fun hc => ?_) (fun hc => ?_)
      · replace hf := ift hc hf
        refine Go_aload_n (pc := 34) C dX6_wall_34 rfl ?_
        refine Go_bipush (pc := 35) (v := -2) C dX6_wall_35 cb_m2 ?_
        obtain ⟨r13, hr13, hf⟩ := bnd hf
        refine Go_callV1 (pc := 37) (ws1 := (w6 K a r13.2)) C 0 (0 :: 1 :: 2 :: 3 :: 4 :: 5 :: 6 :: 7 :: 8 :: 9 :: 10 :: 11 :: 12 :: 13 :: 14 :: 15 :: 16 :: 17 :: 18 :: 19 :: 20 :: 21 :: 22 :: 23 :: 24 :: 25 :: 26 :: 27 :: 28 :: 29 :: 30 :: 31 :: 32 :: 33 :: 34 :: 35 :: 36 :: 37 :: 38 :: 39 :: 40 :: 41 :: 42 :: 43 :: 44 :: 45 :: 46 :: 47 :: 48 :: 49 :: 50 :: 51 :: 52 :: 53 :: 54 :: 55 :: 56 :: 57 :: 58 :: 59 :: 60 :: 61 :: 62 :: 63 :: 64 :: 65 :: 66 :: 67 :: 68 :: []) (kX6_refuse l K (pk a (0 :: 1 :: 2 :: 3 :: 4 :: 5 :: 6 :: 7 :: 8 :: 9 :: 10 :: 11 :: 12 :: 13 :: 14 :: 15 :: 16 :: 17 :: 18 :: 19 :: 20 :: 21 :: 22 :: 23 :: 24 :: 25 :: 26 :: 27 :: 28 :: 29 :: 30 :: 31 :: 32 :: 33 :: 34 :: 35 :: 36 :: 37 :: 38 :: 39 :: 40 :: 41 :: 42 :: 43 :: 44 :: 45 :: 46 :: 47 :: 48 :: 49 :: 50 :: 51 :: 52 :: 53 :: 54 :: 55 :: 56 :: 57 :: 58 :: 59 :: 60 :: 61 :: 62 :: 63 :: 64 :: 65 :: 66 :: 67 :: 68 :: [])) s0 (-2 : Int32) r13 hr13) ycX6_refuse mw_278 (Nat.le_of_ble_eq_true rfl) rfl rfl rfl rfl (Nat.le_of_ble_eq_true rfl) ⟨Nat.zero_le _, Nat.zero_le _⟩ dX6_wall_37 (ll_28 _ _ _) rfl rfl (ll_29 _ _ _ _) ?_
        obtain rfl := Option.some.inj hf
        exact Go_iret C hr rfl dX6_wall_40
      · replace hf := iff' hc hf
        refine Go_iload_n (pc := 26) C dX6_wall_26 rfl ?_
        refine Go_iconst (pc := 27) (v := 1) C dX6_wall_27 ci_1 ?_
        obtain ⟨r14, hr14, hf⟩ := bnd hf
        refine Go_callS1 (pc := 28) (ws1 := (w6 K a s0)) C [] (kX6_isWithin l K p3 (1 : Int32) r14 hr14) ycX6_isWithin mw_272 (Nat.le_of_ble_eq_true rfl) rfl rfl (Nat.le_of_ble_eq_true rfl) ⟨Nat.zero_le _, Nat.zero_le _⟩ dX6_wall_28 rfl rfl rfl (Wr_same rfl) ?_
        refine Go_if_ne (pc := 31) (tgt := 41) C dX6_wall_31 (by decide) (fun hc => ?_) (fun hc => ?_)
        · replace hf := ift hc hf
          refine Go_aload_n (pc := 34) C dX6_wall_34 rfl ?_
          refine Go_bipush (pc := 35) (v := -2) C dX6_wall_35 cb_m2 ?_
          obtain ⟨r15, hr15, hf⟩ := bnd hf
          refine Go_callV1 (pc := 37) (ws1 := (w6 K a r15.2)) C 0 (0 :: 1 :: 2 :: 3 :: 4 :: 5 :: 6 :: 7 :: 8 :: 9 :: 10 :: 11 :: 12 :: 13 :: 14 :: 15 :: 16 :: 17 :: 18 :: 19 :: 20 :: 21 :: 22 :: 23 :: 24 :: 25 :: 26 :: 27 :: 28 :: 29 :: 30 :: 31 :: 32 :: 33 :: 34 :: 35 :: 36 :: 37 :: 38 :: 39 :: 40 :: 41 :: 42 :: 43 :: 44 :: 45 :: 46 :: 47 :: 48 :: 49 :: 50 :: 51 :: 52 :: 53 :: 54 :: 55 :: 56 :: 57 :: 58 :: 59 :: 60 :: 61 :: 62 :: 63 :: 64 :: 65 :: 66 :: 67 :: 68 :: []) (kX6_refuse l K (pk a (0 :: 1 :: 2 :: 3 :: 4 :: 5 :: 6 :: 7 :: 8 :: 9 :: 10 :: 11 :: 12 :: 13 :: 14 :: 15 :: 16 :: 17 :: 18 :: 19 :: 20 :: 21 :: 22 :: 23 :: 24 :: 25 :: 26 :: 27 :: 28 :: 29 :: 30 :: 31 :: 32 :: 33 :: 34 :: 35 :: 36 :: 37 :: 38 :: 39 :: 40 :: 41 :: 42 :: 43 :: 44 :: 45 :: 46 :: 47 :: 48 :: 49 :: 50 :: 51 :: 52 :: 53 :: 54 :: 55 :: 56 :: 57 :: 58 :: 59 :: 60 :: 61 :: 62 :: 63 :: 64 :: 65 :: 66 :: 67 :: 68 :: [])) s0 (-2 : Int32) r15 hr15) ycX6_refuse mw_278 (Nat.le_of_ble_eq_true rfl) rfl rfl rfl rfl (Nat.le_of_ble_eq_true rfl) ⟨Nat.zero_le _, Nat.zero_le _⟩ dX6_wall_37 (ll_28 _ _ _) rfl rfl (ll_29 _ _ _ _) ?_
          obtain rfl := Option.some.inj hf
          exact Go_iret C hr rfl dX6_wall_40
        · replace hf := iff' hc hf
          refine Go_aload_n (pc := 41) C dX6_wall_41 rfl ?_
          refine Go_get (pc := 42) C 0 3 rfl rfl inX6 (by decide) mw_246 rfl dX6_wall_42 ?_
          refine Go_aload_n (pc := 45) C dX6_wall_45 rfl ?_
          refine Go_get (pc := 46) C 0 0 rfl rfl inX6 (by decide) mw_243 rfl dX6_wall_46 ?_
          obtain ⟨r16, hr16, hf⟩ := bnd hf
          refine Go_callV0 (pc := 49) (ws1 := (w6 K a ((s0.1, s0.2.1, s0.2.2.1, r16, s0.2.2.2.2)))) C 14 (14 :: 15 :: 16 :: 17 :: 18 :: 19 :: 20 :: 21 :: 22 :: 23 :: 24 :: 25 :: 26 :: 27 :: 28 :: 29 :: 30 :: 31 :: 32 :: 33 :: 34 :: 35 :: 36 :: 37 :: 38 :: 39 :: 40 :: 41 :: 42 :: 43 :: 44 :: 45 :: 46 :: 47 :: 48 :: 49 :: 50 :: 51 :: 1 :: 2 :: 3 :: 4 :: 5 :: 6 :: []) (kX3_keep l K (pk a (14 :: 15 :: 16 :: 17 :: 18 :: 19 :: 20 :: 21 :: 22 :: 23 :: 24 :: 25 :: 26 :: 27 :: 28 :: 29 :: 30 :: 31 :: 32 :: 33 :: 34 :: 35 :: 36 :: 37 :: 38 :: 39 :: 40 :: 41 :: 42 :: 43 :: 44 :: 45 :: 46 :: 47 :: 48 :: 49 :: 50 :: 51 :: 1 :: 2 :: 3 :: 4 :: 5 :: 6 :: [])) s0.2.2.2.1 s0.1 r16 hr16) ycX3_keep mw_286 (Nat.le_of_ble_eq_true rfl) rfl rfl rfl rfl (Nat.le_of_ble_eq_true rfl) ⟨Nat.zero_le _, Nat.zero_le _⟩ dX6_wall_49 (ll_31 _ _ _) rfl rfl (ll_32 _ _ _ _) ?_
          refine Go_iload_n (pc := 52) C dX6_wall_52 rfl ?_
          refine Go_iload_n (pc := 53) C dX6_wall_53 rfl ?_
          refine Go_if_ne (pc := 54) (tgt := 61) C dX6_wall_54 (by decide) (fun hc => ?_) (fun hc => ?_)
          · replace hf := ift hc hf
            refine Go_iconst (pc := 57) (v := 0) C dX6_wall_57 ci_0 ?_
            refine Go_goto (pc := 58) (tgt := 63) C dX6_wall_58 (by decide) ?_
            refine Go_iadd (pc := 63) C dX6_wall_63 ?_
            obtain ⟨v17, hv17, hf⟩ := bnd hf
            refine Go_topi (Option.some.inj hv17) ?_
            refine Go_istore (pc := 64) C dX6_wall_64 (by decide) ?_
            refine Go_aload_n (pc := 66) C dX6_wall_66 rfl ?_
            refine Go_get (pc := 67) C 0 0 rfl rfl inX6 (by decide) mw_243 rfl dX6_wall_67 ?_
            refine Go_get (pc := 70) C 1 4 rfl rfl inX1 (by decide) mw_111 rfl dX6_wall_70 ?_
            refine Go_iload (pc := 73) C dX6_wall_73 rfl ?_
            obtain ⟨hb, hf⟩ := ifs hf
            refine Go_iald (pc := 75) C 6 rfl (inb_in hb) dX6_wall_75 ?_
            obtain ⟨v18, hv18, hf⟩ := bnd hf
            refine Go_topi (Option.some.inj hv18) ?_
            refine Go_istore (pc := 76) C dX6_wall_76 (by decide) ?_
            refine Go_aload_n (pc := 78) C dX6_wall_78 rfl ?_
            refine Go_get (pc := 79) C 0 0 rfl rfl inX6 (by decide) mw_243 rfl dX6_wall_79 ?_
            refine Go_get (pc := 82) C 1 4 rfl rfl inX1 (by decide) mw_111 rfl dX6_wall_82 ?_
            refine Go_iload (pc := 85) C dX6_wall_85 rfl ?_
            refine Go_iload_n (pc := 87) C dX6_wall_87 rfl ?_
            obtain ⟨hb, hf⟩ := ifs hf
            refine Go_iast (pc := 88) (ws1 := (w6 K a (((s0.1.1, s0.1.2.1, s0.1.2.2.1, s0.1.2.2.2.1, upd s0.1.2.2.2.2.1 v17.toNatClampNeg p3, s0.1.2.2.2.2.2), s0.2.1, s0.2.2.1, r16, s0.2.2.2.2)))) C 6 rfl (inb_in hb) dX6_wall_88 (ll_37 _ _ _ _) ?_
            refine Go_iload (pc := 89) C dX6_wall_89 rfl ?_
            obtain rfl := Option.some.inj hf
            exact Go_iret C hr rfl dX6_wall_91
          · replace hf := iff' hc hf
            refine Go_bipush (pc := 61) (v := 10) C dX6_wall_61 cb_10 ?_
            refine Go_iadd (pc := 63) C dX6_wall_63 ?_
            obtain ⟨v19, hv19, hf⟩ := bnd hf
            refine Go_topi (Option.some.inj hv19) ?_
            refine Go_istore (pc := 64) C dX6_wall_64 (by decide) ?_
            refine Go_aload_n (pc := 66) C dX6_wall_66 rfl ?_
            refine Go_get (pc := 67) C 0 0 rfl rfl inX6 (by decide) mw_243 rfl dX6_wall_67 ?_
            refine Go_get (pc := 70) C 1 4 rfl rfl inX1 (by decide) mw_111 rfl dX6_wall_70 ?_
            refine Go_iload (pc := 73) C dX6_wall_73 rfl ?_
            obtain ⟨hb, hf⟩ := ifs hf
            refine Go_iald (pc := 75) C 6 rfl (inb_in hb) dX6_wall_75 ?_
            obtain ⟨v20, hv20, hf⟩ := bnd hf
            refine Go_topi (Option.some.inj hv20) ?_
            refine Go_istore (pc := 76) C dX6_wall_76 (by decide) ?_
            refine Go_aload_n (pc := 78) C dX6_wall_78 rfl ?_
            refine Go_get (pc := 79) C 0 0 rfl rfl inX6 (by decide) mw_243 rfl dX6_wall_79 ?_
            refine Go_get (pc := 82) C 1 4 rfl rfl inX1 (by decide) mw_111 rfl dX6_wall_82 ?_
            refine Go_iload (pc := 85) C dX6_wall_85 rfl ?_
            refine Go_iload_n (pc := 87) C dX6_wall_87 rfl ?_
            obtain ⟨hb, hf⟩ := ifs hf
            refine Go_iast (pc := 88) (ws1 := (w6 K a (((s0.1.1, s0.1.2.1, s0.1.2.2.1, s0.1.2.2.2.1, upd s0.1.2.2.2.2.1 v19.toNatClampNeg p3, s0.1.2.2.2.2.2), s0.2.1, s0.2.2.1, r16, s0.2.2.2.2)))) C 6 rfl (inb_in hb) dX6_wall_88 (ll_37 _ _ _ _) ?_
            refine Go_iload (pc := 89) C dX6_wall_89 rfl ?_
            obtain rfl := Option.some.inj hf
            exact Go_iret C hr rfl dX6_wall_91
theorem ll_38 (K : KK) (a : Nat → Nat) (t0 : S6) : ([12, 13] : List Nat).map (fun i => (w6 K a t0)[i]?) = List.map some (w2 K (pk a [12, 13]) t0.2.2.1) := rfl
theorem ll_39 (K : KK) (a : Nat → Nat) (t0 : S6) (y0 : S2) : Wr (w6 K a t0) [12, 13] (w2 K (pk a [12, 13]) y0) (w6 K a ((t0.1, t0.2.1, y0, t0.2.2.2))) := ⟨(0 :: 1 :: 2 :: 3 :: 4 :: 5 :: 6 :: 7 :: 8 :: 9 :: 10 :: 11 :: 14 :: 15 :: 16 :: 17 :: 18 :: 19 :: 20 :: 21 :: 22 :: 23 :: 24 :: 25 :: 26 :: 27 :: 28 :: 29 :: 30 :: 31 :: 32 :: 33 :: 34 :: 35 :: 36 :: 37 :: 38 :: 39 :: 40 :: 41 :: 42 :: 43 :: 44 :: 45 :: 46 :: 47 :: 48 :: 49 :: 50 :: 51 :: 52 :: 53 :: 54 :: 55 :: 56 :: 57 :: 58 :: 59 :: 60 :: 61 :: 62 :: 63 :: 64 :: 65 :: 66 :: 67 :: 68 :: []), 69, rfl, (show List.map (fun i => (w6 K a ((t0.1, t0.2.1, y0, t0.2.2.2)))[i]?) _ = ((some (a 0, .inr (6, [.ref (a 1), .ref (a 7), .ref (a 12), .ref (a 14), .ref (a 52), .ref (a 66), .ref (a 68)])) :: some (a 1, .inr (1, [.ref (a 2), .ref (a 3), .ref (a 4), .ref (a 5), .ref (a 6), .int (t0.1.2.2.2.2.2)])) :: some (a 2, .inl (K.2.1, 96, .inl (t0.1.1))) :: some (a 3, .inl (K.2.1, 12, .inl (t0.1.2.1))) :: some (a 4, .inl (K.2.1, 12, .inl (t0.1.2.2.1))) :: some (a 5, .inl (K.2.1, 12, .inl (t0.1.2.2.2.1))) :: some (a 6, .inl (K.2.1, 21, .inl (t0.1.2.2.2.2.1))) :: some (a 7, .inr (0, [.ref (a 8), .ref (a 9), .ref (a 10), .ref (a 11)])) :: some (a 8, .inl (K.2.1, 96, .inl (t0.2.1.1))) :: some (a 9, .inl (K.2.1, 96, .inl (t0.2.1.2.1))) :: some (a 10, .inl (K.2.1, 12, .inl (t0.2.1.2.2.1))) :: some (a 11, .inl (K.2.1, 12, .inl (t0.2.1.2.2.2))) :: some (a 14, .inr (3, [.ref (a 15), .int (t0.2.2.2.1.2.1), .int (t0.2.2.2.1.2.2)])) :: some (a 15, .inl (K.2.2, 6, .inr (.inr (.inr (.inr (rgf [a 16, a 22, a 28, a 34, a 40, a 46])))))) :: some (a 16, .inr (1, [.ref (a 17), .ref (a 18), .ref (a 19), .ref (a 20), .ref (a 21), .int (t0.2.2.2.1.1.1.2.2.2.2.2)])) :: some (a 17, .inl (K.2.1, 96, .inl (t0.2.2.2.1.1.1.1))) :: some (a 18, .inl (K.2.1, 12, .inl (t0.2.2.2.1.1.1.2.1))) :: some (a 19, .inl (K.2.1, 12, .inl (t0.2.2.2.1.1.1.2.2.1))) :: some (a 20, .inl (K.2.1, 12, .inl (t0.2.2.2.1.1.1.2.2.2.1))) :: some (a 21, .inl (K.2.1, 21, .inl (t0.2.2.2.1.1.1.2.2.2.2.1))) :: some (a 22, .inr (1, [.ref (a 23), .ref (a 24), .ref (a 25), .ref (a 26), .ref (a 27), .int (t0.2.2.2.1.1.2.1.2.2.2.2.2)])) :: some (a 23, .inl (K.2.1, 96, .inl (t0.2.2.2.1.1.2.1.1))) :: some (a 24, .inl (K.2.1, 12, .inl (t0.2.2.2.1.1.2.1.2.1))) :: some (a 25, .inl (K.2.1, 12, .inl (t0.2.2.2.1.1.2.1.2.2.1))) :: some (a 26, .inl (K.2.1, 12, .inl (t0.2.2.2.1.1.2.1.2.2.2.1))) :: some (a 27, .inl (K.2.1, 21, .inl (t0.2.2.2.1.1.2.1.2.2.2.2.1))) :: some (a 28, .inr (1, [.ref (a 29), .ref (a 30), .ref (a 31), .ref (a 32), .ref (a 33), .int (t0.2.2.2.1.1.2.2.1.2.2.2.2.2)])) :: some (a 29, .inl (K.2.1, 96, .inl (t0.2.2.2.1.1.2.2.1.1))) :: some (a 30, .inl (K.2.1, 12, .inl (t0.2.2.2.1.1.2.2.1.2.1))) :: some (a 31, .inl (K.2.1, 12, .inl (t0.2.2.2.1.1.2.2.1.2.2.1))) :: some (a 32, .inl (K.2.1, 12, .inl (t0.2.2.2.1.1.2.2.1.2.2.2.1))) :: some (a 33, .inl (K.2.1, 21, .inl (t0.2.2.2.1.1.2.2.1.2.2.2.2.1))) :: some (a 34, .inr (1, [.ref (a 35), .ref (a 36), .ref (a 37), .ref (a 38), .ref (a 39), .int (t0.2.2.2.1.1.2.2.2.1.2.2.2.2.2)])) :: some (a 35, .inl (K.2.1, 96, .inl (t0.2.2.2.1.1.2.2.2.1.1))) :: some (a 36, .inl (K.2.1, 12, .inl (t0.2.2.2.1.1.2.2.2.1.2.1))) :: some (a 37, .inl (K.2.1, 12, .inl (t0.2.2.2.1.1.2.2.2.1.2.2.1))) :: some (a 38, .inl (K.2.1, 12, .inl (t0.2.2.2.1.1.2.2.2.1.2.2.2.1))) :: some (a 39, .inl (K.2.1, 21, .inl (t0.2.2.2.1.1.2.2.2.1.2.2.2.2.1))) :: some (a 40, .inr (1, [.ref (a 41), .ref (a 42), .ref (a 43), .ref (a 44), .ref (a 45), .int (t0.2.2.2.1.1.2.2.2.2.1.2.2.2.2.2)])) :: some (a 41, .inl (K.2.1, 96, .inl (t0.2.2.2.1.1.2.2.2.2.1.1))) :: some (a 42, .inl (K.2.1, 12, .inl (t0.2.2.2.1.1.2.2.2.2.1.2.1))) :: some (a 43, .inl (K.2.1, 12, .inl (t0.2.2.2.1.1.2.2.2.2.1.2.2.1))) :: some (a 44, .inl (K.2.1, 12, .inl (t0.2.2.2.1.1.2.2.2.2.1.2.2.2.1))) :: some (a 45, .inl (K.2.1, 21, .inl (t0.2.2.2.1.1.2.2.2.2.1.2.2.2.2.1))) :: some (a 46, .inr (1, [.ref (a 47), .ref (a 48), .ref (a 49), .ref (a 50), .ref (a 51), .int (t0.2.2.2.1.1.2.2.2.2.2.2.2.2.2.2)])) :: some (a 47, .inl (K.2.1, 96, .inl (t0.2.2.2.1.1.2.2.2.2.2.1))) :: some (a 48, .inl (K.2.1, 12, .inl (t0.2.2.2.1.1.2.2.2.2.2.2.1))) :: some (a 49, .inl (K.2.1, 12, .inl (t0.2.2.2.1.1.2.2.2.2.2.2.2.1))) :: some (a 50, .inl (K.2.1, 12, .inl (t0.2.2.2.1.1.2.2.2.2.2.2.2.2.1))) :: some (a 51, .inl (K.2.1, 21, .inl (t0.2.2.2.1.1.2.2.2.2.2.2.2.2.2.1))) :: some (a 52, .inr (5, [.ref (a 53), .ref (a 59), .ref (a 64)])) :: some (a 53, .inr (1, [.ref (a 54), .ref (a 55), .ref (a 56), .ref (a 57), .ref (a 58), .int (t0.2.2.2.2.1.1.2.2.2.2.2)])) :: some (a 54, .inl (K.2.1, 96, .inl (t0.2.2.2.2.1.1.1))) :: some (a 55, .inl (K.2.1, 12, .inl (t0.2.2.2.2.1.1.2.1))) :: some (a 56, .inl (K.2.1, 12, .inl (t0.2.2.2.2.1.1.2.2.1))) :: some (a 57, .inl (K.2.1, 12, .inl (t0.2.2.2.2.1.1.2.2.2.1))) :: some (a 58, .inl (K.2.1, 21, .inl (t0.2.2.2.2.1.1.2.2.2.2.1))) :: some (a 59, .inr (0, [.ref (a 60), .ref (a 61), .ref (a 62), .ref (a 63)])) :: some (a 60, .inl (K.2.1, 96, .inl (t0.2.2.2.2.1.2.1.1))) :: some (a 61, .inl (K.2.1, 96, .inl (t0.2.2.2.2.1.2.1.2.1))) :: some (a 62, .inl (K.2.1, 12, .inl (t0.2.2.2.2.1.2.1.2.2.1))) :: some (a 63, .inl (K.2.1, 12, .inl (t0.2.2.2.2.1.2.1.2.2.2))) :: some (a 64, .inr (2, [.ref (a 65), .int (t0.2.2.2.2.1.2.2.2)])) :: some (a 65, .inl (K.2.1, 12, .inl (t0.2.2.2.2.1.2.2.1))) :: some (a 66, .inr (4, [.ref (a 67), .int (t0.2.2.2.2.2.1.2.1), .int (t0.2.2.2.2.2.1.2.2.1), .int (t0.2.2.2.2.2.1.2.2.2.1), .int (t0.2.2.2.2.2.1.2.2.2.2)])) :: some (a 67, .inl (K.2.1, 120, .inl (t0.2.2.2.2.2.1.1))) :: some (a 68, .inl (K.2.1, 3, .inl (t0.2.2.2.2.2.2))) :: []) : List (Option (Nat × va_E))) from rfl).trans (show List.map (fun i => (w6 K a t0)[i]?) _ = ((some (a 0, .inr (6, [.ref (a 1), .ref (a 7), .ref (a 12), .ref (a 14), .ref (a 52), .ref (a 66), .ref (a 68)])) :: some (a 1, .inr (1, [.ref (a 2), .ref (a 3), .ref (a 4), .ref (a 5), .ref (a 6), .int (t0.1.2.2.2.2.2)])) :: some (a 2, .inl (K.2.1, 96, .inl (t0.1.1))) :: some (a 3, .inl (K.2.1, 12, .inl (t0.1.2.1))) :: some (a 4, .inl (K.2.1, 12, .inl (t0.1.2.2.1))) :: some (a 5, .inl (K.2.1, 12, .inl (t0.1.2.2.2.1))) :: some (a 6, .inl (K.2.1, 21, .inl (t0.1.2.2.2.2.1))) :: some (a 7, .inr (0, [.ref (a 8), .ref (a 9), .ref (a 10), .ref (a 11)])) :: some (a 8, .inl (K.2.1, 96, .inl (t0.2.1.1))) :: some (a 9, .inl (K.2.1, 96, .inl (t0.2.1.2.1))) :: some (a 10, .inl (K.2.1, 12, .inl (t0.2.1.2.2.1))) :: some (a 11, .inl (K.2.1, 12, .inl (t0.2.1.2.2.2))) :: some (a 14, .inr (3, [.ref (a 15), .int (t0.2.2.2.1.2.1), .int (t0.2.2.2.1.2.2)])) :: some (a 15, .inl (K.2.2, 6, .inr (.inr (.inr (.inr (rgf [a 16, a 22, a 28, a 34, a 40, a 46])))))) :: some (a 16, .inr (1, [.ref (a 17), .ref (a 18), .ref (a 19), .ref (a 20), .ref (a 21), .int (t0.2.2.2.1.1.1.2.2.2.2.2)])) :: some (a 17, .inl (K.2.1, 96, .inl (t0.2.2.2.1.1.1.1))) :: some (a 18, .inl (K.2.1, 12, .inl (t0.2.2.2.1.1.1.2.1))) :: some (a 19, .inl (K.2.1, 12, .inl (t0.2.2.2.1.1.1.2.2.1))) :: some (a 20, .inl (K.2.1, 12, .inl (t0.2.2.2.1.1.1.2.2.2.1))) :: some (a 21, .inl (K.2.1, 21, .inl (t0.2.2.2.1.1.1.2.2.2.2.1))) :: some (a 22, .inr (1, [.ref (a 23), .ref (a 24), .ref (a 25), .ref (a 26), .ref (a 27), .int (t0.2.2.2.1.1.2.1.2.2.2.2.2)])) :: some (a 23, .inl (K.2.1, 96, .inl (t0.2.2.2.1.1.2.1.1))) :: some (a 24, .inl (K.2.1, 12, .inl (t0.2.2.2.1.1.2.1.2.1))) :: some (a 25, .inl (K.2.1, 12, .inl (t0.2.2.2.1.1.2.1.2.2.1))) :: some (a 26, .inl (K.2.1, 12, .inl (t0.2.2.2.1.1.2.1.2.2.2.1))) :: some (a 27, .inl (K.2.1, 21, .inl (t0.2.2.2.1.1.2.1.2.2.2.2.1))) :: some (a 28, .inr (1, [.ref (a 29), .ref (a 30), .ref (a 31), .ref (a 32), .ref (a 33), .int (t0.2.2.2.1.1.2.2.1.2.2.2.2.2)])) :: some (a 29, .inl (K.2.1, 96, .inl (t0.2.2.2.1.1.2.2.1.1))) :: some (a 30, .inl (K.2.1, 12, .inl (t0.2.2.2.1.1.2.2.1.2.1))) :: some (a 31, .inl (K.2.1, 12, .inl (t0.2.2.2.1.1.2.2.1.2.2.1))) :: some (a 32, .inl (K.2.1, 12, .inl (t0.2.2.2.1.1.2.2.1.2.2.2.1))) :: some (a 33, .inl (K.2.1, 21, .inl (t0.2.2.2.1.1.2.2.1.2.2.2.2.1))) :: some (a 34, .inr (1, [.ref (a 35), .ref (a 36), .ref (a 37), .ref (a 38), .ref (a 39), .int (t0.2.2.2.1.1.2.2.2.1.2.2.2.2.2)])) :: some (a 35, .inl (K.2.1, 96, .inl (t0.2.2.2.1.1.2.2.2.1.1))) :: some (a 36, .inl (K.2.1, 12, .inl (t0.2.2.2.1.1.2.2.2.1.2.1))) :: some (a 37, .inl (K.2.1, 12, .inl (t0.2.2.2.1.1.2.2.2.1.2.2.1))) :: some (a 38, .inl (K.2.1, 12, .inl (t0.2.2.2.1.1.2.2.2.1.2.2.2.1))) :: some (a 39, .inl (K.2.1, 21, .inl (t0.2.2.2.1.1.2.2.2.1.2.2.2.2.1))) :: some (a 40, .inr (1, [.ref (a 41), .ref (a 42), .ref (a 43), .ref (a 44), .ref (a 45), .int (t0.2.2.2.1.1.2.2.2.2.1.2.2.2.2.2)])) :: some (a 41, .inl (K.2.1, 96, .inl (t0.2.2.2.1.1.2.2.2.2.1.1))) :: some (a 42, .inl (K.2.1, 12, .inl (t0.2.2.2.1.1.2.2.2.2.1.2.1))) :: some (a 43, .inl (K.2.1, 12, .inl (t0.2.2.2.1.1.2.2.2.2.1.2.2.1))) :: some (a 44, .inl (K.2.1, 12, .inl (t0.2.2.2.1.1.2.2.2.2.1.2.2.2.1))) :: some (a 45, .inl (K.2.1, 21, .inl (t0.2.2.2.1.1.2.2.2.2.1.2.2.2.2.1))) :: some (a 46, .inr (1, [.ref (a 47), .ref (a 48), .ref (a 49), .ref (a 50), .ref (a 51), .int (t0.2.2.2.1.1.2.2.2.2.2.2.2.2.2.2)])) :: some (a 47, .inl (K.2.1, 96, .inl (t0.2.2.2.1.1.2.2.2.2.2.1))) :: some (a 48, .inl (K.2.1, 12, .inl (t0.2.2.2.1.1.2.2.2.2.2.2.1))) :: some (a 49, .inl (K.2.1, 12, .inl (t0.2.2.2.1.1.2.2.2.2.2.2.2.1))) :: some (a 50, .inl (K.2.1, 12, .inl (t0.2.2.2.1.1.2.2.2.2.2.2.2.2.1))) :: some (a 51, .inl (K.2.1, 21, .inl (t0.2.2.2.1.1.2.2.2.2.2.2.2.2.2.1))) :: some (a 52, .inr (5, [.ref (a 53), .ref (a 59), .ref (a 64)])) :: some (a 53, .inr (1, [.ref (a 54), .ref (a 55), .ref (a 56), .ref (a 57), .ref (a 58), .int (t0.2.2.2.2.1.1.2.2.2.2.2)])) :: some (a 54, .inl (K.2.1, 96, .inl (t0.2.2.2.2.1.1.1))) :: some (a 55, .inl (K.2.1, 12, .inl (t0.2.2.2.2.1.1.2.1))) :: some (a 56, .inl (K.2.1, 12, .inl (t0.2.2.2.2.1.1.2.2.1))) :: some (a 57, .inl (K.2.1, 12, .inl (t0.2.2.2.2.1.1.2.2.2.1))) :: some (a 58, .inl (K.2.1, 21, .inl (t0.2.2.2.2.1.1.2.2.2.2.1))) :: some (a 59, .inr (0, [.ref (a 60), .ref (a 61), .ref (a 62), .ref (a 63)])) :: some (a 60, .inl (K.2.1, 96, .inl (t0.2.2.2.2.1.2.1.1))) :: some (a 61, .inl (K.2.1, 96, .inl (t0.2.2.2.2.1.2.1.2.1))) :: some (a 62, .inl (K.2.1, 12, .inl (t0.2.2.2.2.1.2.1.2.2.1))) :: some (a 63, .inl (K.2.1, 12, .inl (t0.2.2.2.2.1.2.1.2.2.2))) :: some (a 64, .inr (2, [.ref (a 65), .int (t0.2.2.2.2.1.2.2.2)])) :: some (a 65, .inl (K.2.1, 12, .inl (t0.2.2.2.2.1.2.2.1))) :: some (a 66, .inr (4, [.ref (a 67), .int (t0.2.2.2.2.2.1.2.1), .int (t0.2.2.2.2.2.1.2.2.1), .int (t0.2.2.2.2.2.1.2.2.2.1), .int (t0.2.2.2.2.2.1.2.2.2.2)])) :: some (a 67, .inl (K.2.1, 120, .inl (t0.2.2.2.2.2.1.1))) :: some (a 68, .inl (K.2.1, 3, .inl (t0.2.2.2.2.2.2))) :: []) : List (Option (Nat × va_E))) from rfl).symm, rfl, by decide⟩
theorem ll_40 (K : KK) (a : Nat → Nat) (t0 : S6) (y : Nat → Int32) : List.set (w6 K a t0) 5 (a 5, .inl (K.2.1, 12, .inl y)) = (w6 K a (((t0.1.1, t0.1.2.1, t0.1.2.2.1, y, t0.1.2.2.2.2), t0.2))) := rfl
def fX6_mends_L36 (s0 : S6) (q5 : Int32 × (Nat → Int32)) : Option ((Int32 × (Nat → Int32)) ⊕ (Int32 × (Nat → Int32))) := (if s0.1.2.2.2.2.2 ≤ q5.1 then some (.inr (q5.1, q5.2)) else (if 0 ≤ q5.1 ∧ q5.1.toNatClampNeg < 12 then Option.bind (some (q5.1 + (1 : Int32))) (fun v6 => some (.inl (v6, upd q5.2 q5.1.toNatClampNeg (1 : Int32)))) else none))
def fX6_mends (s0 : S6) : Option (Int32 × S6) := Option.bind (fX3_keep s0.2.2.2.1 s0.1) (fun r1 => Option.bind (fX2_forget s0.2.2.1) (fun r2 => Option.bind (fX1_countStanding s0.1) (fun r3 => Option.bind (some (s0.1.2.2.2.2.2 - r3)) (fun v4 => Option.bind (loopF (fX6_mends_L36 s0) 5000 ((0 : Int32), s0.1.2.2.2.1)) (fun z7 => some (v4, ((s0.1.1, s0.1.2.1, s0.1.2.2.1, z7.2, s0.1.2.2.2.2), s0.2.1, r2, r1, s0.2.2.2.2)))))))
theorem ycX6_mends : CalV yX6_mends cX6_mends 3 ((some .int)) 0 := ⟨mw_335, mw_61, mw_333, mw_334, ⟨by decide, by decide, by decide +kernel⟩, by decide⟩
set_option maxHeartbeats 4000000 in
set_option maxRecDepth 100000 in
theorem kX6_mends (l : Launch) (K : KK) (a : Nat → Nat) (s0 : S6) (res : Int32 × S6) (hf : fX6_mends s0 = some res) : Ct l K yX6_mends cX6_mends 3 ((some .int)) 3 [.ref (a 0)] (w6 K a s0) (some (.int res.1)) (w6 K a res.2) := by
  refine Ct_of2 (by decide) rfl (Nat.le_of_ble_eq_true rfl) ?_
  intro p e σ m args below meth c C hr
  unfold fX6_mends at hf
  refine Go_aload_n (pc := 0) C dX6_mends_0 rfl ?_
  refine Go_get (pc := 1) C 0 3 rfl rfl inX6 (by decide) mw_246 rfl dX6_mends_1 ?_
  refine Go_aload_n (pc := 4) C dX6_mends_4 rfl ?_
  refine Go_get (pc := 5) C 0 0 rfl rfl inX6 (by decide) mw_243 rfl dX6_mends_5 ?_
  obtain ⟨r1, hr1, hf⟩ := bnd hf
  refine Go_callV0 (pc := 8) (ws1 := (w6 K a ((s0.1, s0.2.1, s0.2.2.1, r1, s0.2.2.2.2)))) C 14 (14 :: 15 :: 16 :: 17 :: 18 :: 19 :: 20 :: 21 :: 22 :: 23 :: 24 :: 25 :: 26 :: 27 :: 28 :: 29 :: 30 :: 31 :: 32 :: 33 :: 34 :: 35 :: 36 :: 37 :: 38 :: 39 :: 40 :: 41 :: 42 :: 43 :: 44 :: 45 :: 46 :: 47 :: 48 :: 49 :: 50 :: 51 :: 1 :: 2 :: 3 :: 4 :: 5 :: 6 :: []) (kX3_keep l K (pk a (14 :: 15 :: 16 :: 17 :: 18 :: 19 :: 20 :: 21 :: 22 :: 23 :: 24 :: 25 :: 26 :: 27 :: 28 :: 29 :: 30 :: 31 :: 32 :: 33 :: 34 :: 35 :: 36 :: 37 :: 38 :: 39 :: 40 :: 41 :: 42 :: 43 :: 44 :: 45 :: 46 :: 47 :: 48 :: 49 :: 50 :: 51 :: 1 :: 2 :: 3 :: 4 :: 5 :: 6 :: [])) s0.2.2.2.1 s0.1 r1 hr1) ycX3_keep mw_286 (Nat.le_of_ble_eq_true rfl) rfl rfl rfl rfl (Nat.le_of_ble_eq_true rfl) ⟨Nat.zero_le _, Nat.zero_le _⟩ dX6_mends_8 (ll_31 _ _ _) rfl rfl (ll_32 _ _ _ _) ?_
  refine Go_aload_n (pc := 11) C dX6_mends_11 rfl ?_
  refine Go_get (pc := 12) C 0 2 rfl rfl inX6 (by decide) mw_245 rfl dX6_mends_12 ?_
  obtain ⟨r2, hr2, hf⟩ := bnd hf
  refine Go_callV0 (pc := 15) (ws1 := (w6 K a ((s0.1, s0.2.1, r2, r1, s0.2.2.2.2)))) C 12 [12, 13] (kX2_forget l K (pk a [12, 13]) s0.2.2.1 r2 hr2) ycX2_forget mw_336 (Nat.le_of_ble_eq_true rfl) rfl rfl rfl rfl (Nat.le_of_ble_eq_true rfl) ⟨Nat.zero_le _, Nat.zero_le _⟩ dX6_mends_15 (ll_38 _ _ _) rfl rfl (ll_39 _ _ _ _) ?_
  refine Go_aload_n (pc := 18) C dX6_mends_18 rfl ?_
  refine Go_get (pc := 19) C 0 0 rfl rfl inX6 (by decide) mw_243 rfl dX6_mends_19 ?_
  refine Go_get (pc := 22) C 1 5 rfl rfl inX1 (by decide) mw_115 rfl dX6_mends_22 ?_
  refine Go_aload_n (pc := 25) C dX6_mends_25 rfl ?_
  refine Go_get (pc := 26) C 0 0 rfl rfl inX6 (by decide) mw_243 rfl dX6_mends_26 ?_
  obtain ⟨r3, hr3, hf⟩ := bnd hf
  refine Go_callV1 (pc := 29) (ws1 := (w6 K a ((s0.1, s0.2.1, r2, r1, s0.2.2.2.2)))) C 1 [1, 2, 3, 4, 5, 6] (kX1_countStanding l K (pk a [1, 2, 3, 4, 5, 6]) s0.1 r3 hr3) ycX1_countStanding mw_337 (Nat.le_of_ble_eq_true rfl) rfl rfl rfl rfl (Nat.le_of_ble_eq_true rfl) ⟨Nat.zero_le _, Nat.zero_le _⟩ dX6_mends_29 (ll_30 _ _ _) rfl rfl (Wr_same (ll_30 _ _ _)) ?_
  refine Go_isub (pc := 32) C dX6_mends_32 ?_
  obtain ⟨v4, hv4, hf⟩ := bnd hf
  refine Go_topi (Option.some.inj hv4) ?_
  refine Go_istore_n (pc := 33) C dX6_mends_33 (by decide) ?_
  refine Go_iconst (pc := 34) (v := 0) C dX6_mends_34 ci_0 ?_
  refine Go_istore_n (pc := 35) C dX6_mends_35 (by decide) ?_
  obtain ⟨z7, hz7, hf⟩ := bnd hf
  refine Go_mask [true, true, true] ?_
  refine loopF_go (step := (fX6_mends_L36 s0)) (fun q5 => Go p l e (rmc 3 0 0) σ m args below meth c K (inW (w6 K a s0)) σ.heap 3 0 0 (MQ below (CtQ K (w6 K a s0) (some (.int res.1)) (w6 K a res.2)) args σ 0 0 (inW (w6 K a s0))) (w6 K a (((s0.1.1, s0.1.2.1, s0.1.2.2.1, q5.2, s0.1.2.2.2.2), s0.2.1, r2, r1, s0.2.2.2.2))) 36 [some (.ref (a 0)), some (.int v4), some (.int q5.1)] []) (fun z7 => Go p l e (rmc 3 0 0) σ m args below meth c K (inW (w6 K a s0)) σ.heap 3 0 0 (MQ below (CtQ K (w6 K a s0) (some (.int res.1)) (w6 K a res.2)) args σ 0 0 (inW (w6 K a s0))) (w6 K a (((s0.1.1, s0.1.2.1, s0.1.2.2.1, z7.2, s0.1.2.2.2.2), s0.2.1, r2, r1, s0.2.2.2.2))) 63 [some (.ref (a 0)), some (.int v4), some (.int z7.1)] []) ?_ _ _ _ hz7 ?_
  · intro q5 x hf hk
    unfold fX6_mends_L36 at hf
    refine Go_iload_n (pc := 36) C dX6_mends_36 rfl ?_
    refine Go_aload_n (pc := 37) C dX6_mends_37 rfl ?_
    refine Go_get (pc := 38) C 0 0 rfl rfl inX6 (by decide) mw_243 rfl dX6_mends_38 ?_
    refine Go_get (pc := 41) C 1 5 rfl rfl inX1 (by decide) mw_115 rfl dX6_mends_41 ?_
    refine Go_icmp_ge (pc := 44) (tgt := 63) C dX6_mends_44 (by decide) (fun hc => ?_) (fun hc => ?_)
    · replace hf := ift hc hf
      obtain rfl := Option.some.inj hf
      exact Go_mask [true, true, true] hk
    · replace hf := iff' hc hf
      refine Go_aload_n (pc := 47) C dX6_mends_47 rfl ?_
      refine Go_get (pc := 48) C 0 0 rfl rfl inX6 (by decide) mw_243 rfl dX6_mends_48 ?_
      refine Go_get (pc := 51) C 1 3 rfl rfl inX1 (by decide) mw_107 rfl dX6_mends_51 ?_
      refine Go_iload_n (pc := 54) C dX6_mends_54 rfl ?_
      refine Go_iconst (pc := 55) (v := 1) C dX6_mends_55 ci_1 ?_
      obtain ⟨hb, hf⟩ := ifs hf
      refine Go_iast (pc := 56) (ws1 := (w6 K a (((s0.1.1, s0.1.2.1, s0.1.2.2.1, upd q5.2 q5.1.toNatClampNeg (1 : Int32), s0.1.2.2.2.2), s0.2.1, r2, r1, s0.2.2.2.2)))) C 5 rfl (inb_in hb) dX6_mends_56 (ll_40 _ _ _ _) ?_
      obtain ⟨v6, hv6, hf⟩ := bnd hf
      refine Go_iinc (pc := 57) (v := v6) C dX6_mends_57 rfl (by rw [ci_1]; exact Option.some.inj hv6) ?_
      refine Go_goto (pc := 60) (tgt := 36) C dX6_mends_60 (by decide) ?_
      obtain rfl := Option.some.inj hf
      exact Go_mask [true, true, true] hk
  · show Go _ _ _ _ _ _ _ _ _ _ _ _ _ _ _ _ _ _ _ _ _
    refine Go_iload_n (pc := 63) C dX6_mends_63 rfl ?_
    obtain rfl := Option.some.inj hf
    exact Go_iret C hr rfl dX6_mends_64
def fX6_anew (s0 : S6) : Option (Int32 × S6) := Option.bind (fX3_keep s0.2.2.2.1 s0.1) (fun r1 => Option.bind (fX2_forget s0.2.2.1) (fun r2 => Option.bind (fX1_reset s0.1) (fun r3 => some (s0.1.2.2.2.2.2, (r3, s0.2.1, r2, r1, s0.2.2.2.2)))))
theorem ycX6_anew : CalV yX6_anew cX6_anew 2 ((some .int)) 0 := ⟨mw_344, mw_61, mw_342, mw_343, ⟨by decide, by decide, by decide +kernel⟩, by decide⟩
set_option maxHeartbeats 4000000 in
set_option maxRecDepth 100000 in
theorem kX6_anew (l : Launch) (K : KK) (a : Nat → Nat) (s0 : S6) (res : Int32 × S6) (hf : fX6_anew s0 = some res) : Ct l K yX6_anew cX6_anew 2 ((some .int)) 3 [.ref (a 0)] (w6 K a s0) (some (.int res.1)) (w6 K a res.2) := by
  refine Ct_of2 (by decide) rfl (Nat.le_of_ble_eq_true rfl) ?_
  intro p e σ m args below meth c C hr
  unfold fX6_anew at hf
  refine Go_aload_n (pc := 0) C dX6_anew_0 rfl ?_
  refine Go_get (pc := 1) C 0 3 rfl rfl inX6 (by decide) mw_246 rfl dX6_anew_1 ?_
  refine Go_aload_n (pc := 4) C dX6_anew_4 rfl ?_
  refine Go_get (pc := 5) C 0 0 rfl rfl inX6 (by decide) mw_243 rfl dX6_anew_5 ?_
  obtain ⟨r1, hr1, hf⟩ := bnd hf
  refine Go_callV0 (pc := 8) (ws1 := (w6 K a ((s0.1, s0.2.1, s0.2.2.1, r1, s0.2.2.2.2)))) C 14 (14 :: 15 :: 16 :: 17 :: 18 :: 19 :: 20 :: 21 :: 22 :: 23 :: 24 :: 25 :: 26 :: 27 :: 28 :: 29 :: 30 :: 31 :: 32 :: 33 :: 34 :: 35 :: 36 :: 37 :: 38 :: 39 :: 40 :: 41 :: 42 :: 43 :: 44 :: 45 :: 46 :: 47 :: 48 :: 49 :: 50 :: 51 :: 1 :: 2 :: 3 :: 4 :: 5 :: 6 :: []) (kX3_keep l K (pk a (14 :: 15 :: 16 :: 17 :: 18 :: 19 :: 20 :: 21 :: 22 :: 23 :: 24 :: 25 :: 26 :: 27 :: 28 :: 29 :: 30 :: 31 :: 32 :: 33 :: 34 :: 35 :: 36 :: 37 :: 38 :: 39 :: 40 :: 41 :: 42 :: 43 :: 44 :: 45 :: 46 :: 47 :: 48 :: 49 :: 50 :: 51 :: 1 :: 2 :: 3 :: 4 :: 5 :: 6 :: [])) s0.2.2.2.1 s0.1 r1 hr1) ycX3_keep mw_286 (Nat.le_of_ble_eq_true rfl) rfl rfl rfl rfl (Nat.le_of_ble_eq_true rfl) ⟨Nat.zero_le _, Nat.zero_le _⟩ dX6_anew_8 (ll_31 _ _ _) rfl rfl (ll_32 _ _ _ _) ?_
  refine Go_aload_n (pc := 11) C dX6_anew_11 rfl ?_
  refine Go_get (pc := 12) C 0 2 rfl rfl inX6 (by decide) mw_245 rfl dX6_anew_12 ?_
  obtain ⟨r2, hr2, hf⟩ := bnd hf
  refine Go_callV0 (pc := 15) (ws1 := (w6 K a ((s0.1, s0.2.1, r2, r1, s0.2.2.2.2)))) C 12 [12, 13] (kX2_forget l K (pk a [12, 13]) s0.2.2.1 r2 hr2) ycX2_forget mw_336 (Nat.le_of_ble_eq_true rfl) rfl rfl rfl rfl (Nat.le_of_ble_eq_true rfl) ⟨Nat.zero_le _, Nat.zero_le _⟩ dX6_anew_15 (ll_38 _ _ _) rfl rfl (ll_39 _ _ _ _) ?_
  refine Go_aload_n (pc := 18) C dX6_anew_18 rfl ?_
  refine Go_get (pc := 19) C 0 0 rfl rfl inX6 (by decide) mw_243 rfl dX6_anew_19 ?_
  refine Go_get (pc := 22) C 1 5 rfl rfl inX1 (by decide) mw_115 rfl dX6_anew_22 ?_
  refine Go_istore_n (pc := 25) C dX6_anew_25 (by decide) ?_
  refine Go_aload_n (pc := 26) C dX6_anew_26 rfl ?_
  refine Go_get (pc := 27) C 0 0 rfl rfl inX6 (by decide) mw_243 rfl dX6_anew_27 ?_
  obtain ⟨r3, hr3, hf⟩ := bnd hf
  refine Go_callV0 (pc := 30) (ws1 := (w6 K a ((r3, s0.2.1, r2, r1, s0.2.2.2.2)))) C 1 [1, 2, 3, 4, 5, 6] (kX1_reset l K (pk a [1, 2, 3, 4, 5, 6]) s0.1 r3 hr3) ycX1_reset mw_345 (Nat.le_of_ble_eq_true rfl) rfl rfl rfl rfl (Nat.le_of_ble_eq_true rfl) ⟨Nat.zero_le _, Nat.zero_le _⟩ dX6_anew_30 (ll_30 _ _ _) rfl rfl (ll_33 _ _ _ _) ?_
  refine Go_iload_n (pc := 33) C dX6_anew_33 rfl ?_
  obtain rfl := Option.some.inj hf
  exact Go_iret C hr rfl dX6_anew_34
