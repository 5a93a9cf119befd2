def fX6_mending_L15 (s0 : S6) (r1 : S0) (q2 : Int32 × Int32) : Option ((Int32 × Int32) ⊕ (Int32 × Int32)) := (if s0.1.2.2.2.2.2 ≤ q2.2 then some (.inr (q2.1, q2.2)) else Option.bind (fX1_isStanding s0.1 q2.2) (fun r3 => (if r3 = 0 then Option.bind (some (q2.2 + (1 : Int32))) (fun v4 => some (.inl (q2.1, v4))) else (if 0 ≤ q2.2 ∧ q2.2.toNatClampNeg < 12 then (if 0 ≤ q2.2 ∧ q2.2.toNatClampNeg < 12 then Option.bind (some ((if q2.1 < ((r1.2.2.1 q2.2.toNatClampNeg) - (s0.1.2.2.1 q2.2.toNatClampNeg)) then ((r1.2.2.1 q2.2.toNatClampNeg) - (s0.1.2.2.1 q2.2.toNatClampNeg)) else q2.1))) (fun v5 => Option.bind (some (q2.2 + (1 : Int32))) (fun v6 => some (.inl (v5, v6)))) else none) else none))))
def fX6_mending (s0 : S6) : Option (Int32 × S6) := Option.bind (fX0_lay s0.2.1 s0.1) (fun r1 => Option.bind (loopF (fX6_mending_L15 s0 r1) 5000 ((0 : Int32), (0 : Int32))) (fun z7 => (if (999 : Int32) < z7.1 then some ((-1 : Int32), (s0.1, r1, s0.2.2)) else some (z7.1, (s0.1, r1, s0.2.2)))))
theorem ycX6_mending : CalV yX6_mending cX6_mending 3 ((some .int)) 0 := ⟨mw_503, mw_61, mw_501, mw_502, ⟨by decide, by decide, by decide +kernel⟩, by decide⟩
set_option maxHeartbeats 4000000 in
set_option maxRecDepth 100000 in
theorem kX6_mending (l : Launch) (K : KK) (a : Nat → Nat) (s0 : S6) (res : Int32 × S6) (hf : fX6_mending s0 = some res) : Ct l K yX6_mending cX6_mending 3 ((some .int)) 3 [.ref (a 0)] (w6 K a s0) (some (.int res.1)) (w6 K a res.2) := by
  refine Ct_of2 (by decide) rfl (Nat.le_of_ble_eq_true rfl) ?_
  intro p e σ m args below meth c C hr
  unfold fX6_mending at hf
  refine Go_aload_n (pc := 0) C dX6_mending_0 rfl ?_
  refine Go_get (pc := 1) C 0 1 rfl rfl inX6 (by decide) mw_244 rfl dX6_mending_1 ?_
  refine Go_aload_n (pc := 4) C dX6_mending_4 rfl ?_
  refine Go_get (pc := 5) C 0 0 rfl rfl inX6 (by decide) mw_243 rfl dX6_mending_5 ?_
  obtain ⟨r1, hr1, hf⟩ := bnd hf
  refine Go_callV0 (pc := 8) (ws1 := (w6 K a ((s0.1, r1, s0.2.2)))) C 7 [7, 8, 9, 10, 11, 1, 2, 3, 4, 5, 6] (kX0_lay l K (pk a [7, 8, 9, 10, 11, 1, 2, 3, 4, 5, 6]) s0.2.1 s0.1 r1 hr1) ycX0_lay mw_350 (Nat.le_of_ble_eq_true rfl) rfl rfl rfl rfl (Nat.le_of_ble_eq_true rfl) ⟨Nat.zero_le _, Nat.zero_le _⟩ dX6_mending_8 (ll_57 _ _ _) rfl rfl (ll_58 _ _ _ _) ?_
  refine Go_iconst (pc := 11) (v := 0) C dX6_mending_11 ci_0 ?_
  refine Go_istore_n (pc := 12) C dX6_mending_12 (by decide) ?_
  refine Go_iconst (pc := 13) (v := 0) C dX6_mending_13 ci_0 ?_
  refine Go_istore_n (pc := 14) C dX6_mending_14 (by decide) ?_
  obtain ⟨z7, hz7, hf⟩ := bnd hf
  refine Go_mask [true, true, true] ?_
  refine loopF_go (step := (fX6_mending_L15 s0 r1)) (fun q2 => Go p l e (rmc 3 0 0) σ m args below meth c K (inW (w6 K a s0)) σ.heap 3 0 0 (MQ below (CtQ K (w6 K a s0) (some (.int res.1)) (w6 K a res.2)) args σ 0 0 (inW (w6 K a s0))) (w6 K a ((s0.1, r1, s0.2.2))) 15 [some (.ref (a 0)), some (.int q2.1), some (.int q2.2)] []) (fun z7 => Go p l e (rmc 3 0 0) σ m args below meth c K (inW (w6 K a s0)) σ.heap 3 0 0 (MQ below (CtQ K (w6 K a s0) (some (.int res.1)) (w6 K a res.2)) args σ 0 0 (inW (w6 K a s0))) (w6 K a ((s0.1, r1, s0.2.2))) 67 [some (.ref (a 0)), some (.int z7.1), some (.int z7.2)] []) ?_ _ _ _ hz7 ?_
  · intro q2 x hf hk
    unfold fX6_mending_L15 at hf
    refine Go_iload_n (pc := 15) C dX6_mending_15 rfl ?_
    refine Go_aload_n (pc := 16) C dX6_mending_16 rfl ?_
    refine Go_get (pc := 17) C 0 0 rfl rfl inX6 (by decide) mw_243 rfl dX6_mending_17 ?_
    refine Go_get (pc := 20) C 1 5 rfl rfl inX1 (by decide) mw_115 rfl dX6_mending_20 ?_
    refine Go_icmp_ge (pc := 23) (tgt := 67) C dX6_mending_23 (by decide) (fun hc => ?_) (fun hc => ?_)
    · replace hf := ift hc hf
      obtain rfl := Option.some.inj hf
      exact Go_mask [true, true, true] hk
    · replace hf := iff' hc hf
      refine Go_aload_n (pc := 26) C dX6_mending_26 rfl ?_
      refine Go_get (pc := 27) C 0 0 rfl rfl inX6 (by decide) mw_243 rfl dX6_mending_27 ?_
      refine Go_iload_n (pc := 30) C dX6_mending_30 rfl ?_
      obtain ⟨r3, hr3, hf⟩ := bnd hf
      refine Go_callV1 (pc := 31) (ws1 := (w6 K a ((s0.1, r1, s0.2.2)))) C 1 [1, 2, 3, 4, 5, 6] (kX1_isStanding l K (pk a [1, 2, 3, 4, 5, 6]) s0.1 q2.2 r3 hr3) ycX1_isStanding mw_378 (Nat.le_of_ble_eq_true rfl) rfl rfl rfl rfl (Nat.le_of_ble_eq_true rfl) ⟨Nat.zero_le _, Nat.zero_le _⟩ dX6_mending_31 (ll_30 _ _ _) rfl rfl (Wr_same (ll_30 _ _ _)) ?_
      refine Go_if_eq (pc := 34) (tgt := 61) C dX6_mending_34 (by decide) (fun hc => ?_) (fun hc => ?_)
      · replace hf := ift hc hf
        obtain ⟨v4, hv4, hf⟩ := bnd hf
        refine Go_iinc (pc := 61) (v := v4) C dX6_mending_61 rfl (by rw [ci_1]; exact Option.some.inj hv4) ?_
        refine Go_goto (pc := 64) (tgt := 15) C dX6_mending_64 (by decide) ?_
        obtain rfl := Option.some.inj hf
        exact Go_mask [true, true, true] hk
      · replace hf := iff' hc hf
        refine Go_iload_n (pc := 37) C dX6_mending_37 rfl ?_
        refine Go_aload_n (pc := 38) C dX6_mending_38 rfl ?_
        refine Go_get (pc := 39) C 0 1 rfl rfl inX6 (by decide) mw_244 rfl dX6_mending_39 ?_
        refine Go_get (pc := 42) C 7 2 rfl rfl inX0 (by decide) mw_142 rfl dX6_mending_42 ?_
        refine Go_iload_n (pc := 45) C dX6_mending_45 rfl ?_
        obtain ⟨hb, hf⟩ := ifs hf
        refine Go_iald (pc := 46) C 10 rfl (inb_in hb) dX6_mending_46 ?_
        refine Go_aload_n (pc := 47) C dX6_mending_47 rfl ?_
        refine Go_get (pc := 48) C 0 0 rfl rfl inX6 (by decide) mw_243 rfl dX6_mending_48 ?_
        refine Go_get (pc := 51) C 1 2 rfl rfl inX1 (by decide) mw_102 rfl dX6_mending_51 ?_
        refine Go_iload_n (pc := 54) C dX6_mending_54 rfl ?_
        obtain ⟨hb, hf⟩ := ifs hf
        refine Go_iald (pc := 55) C 4 rfl (inb_in hb) dX6_mending_55 ?_
        refine Go_isub (pc := 56) C dX6_mending_56 ?_
        refine Go_mmax (pc := 57) C mw_504 (Nat.le_of_ble_eq_true rfl) (Nat.le_of_ble_eq_true rfl) (Nat.zero_le _) (Nat.zero_le _) dX6_mending_57 ?_
        obtain ⟨v5, hv5, hf⟩ := bnd hf
        refine Go_topi (Option.some.inj hv5) ?_
        refine Go_istore_n (pc := 60) C dX6_mending_60 (by decide) ?_
        obtain ⟨v6, hv6, hf⟩ := bnd hf
        refine Go_iinc (pc := 61) (v := v6) C dX6_mending_61 rfl (by rw [ci_1]; exact Option.some.inj hv6) ?_
        refine Go_goto (pc := 64) (tgt := 15) C dX6_mending_64 (by decide) ?_
        obtain rfl := Option.some.inj hf
        exact Go_mask [true, true, true] hk
  · show Go _ _ _ _ _ _ _ _ _ _ _ _ _ _ _ _ _ _ _ _ _
    refine Go_iload_n (pc := 67) C dX6_mending_67 rfl ?_
    refine Go_sipush (pc := 68) (v := 999) C dX6_mending_68 cs_999 ?_
    refine Go_icmp_gt (pc := 71) (tgt := 78) C dX6_mending_71 (by decide) (fun hc => ?_) (fun hc => ?_)
    · replace hf := ift hc hf
      refine Go_iconst (pc := 78) (v := -1) C dX6_mending_78 ci_m1 ?_
      obtain rfl := Option.some.inj hf
      exact Go_iret C hr rfl dX6_mending_79
    · replace hf := iff' hc hf
      refine Go_iload_n (pc := 74) C dX6_mending_74 rfl ?_
      refine Go_goto (pc := 75) (tgt := 79) C dX6_mending_75 (by decide) ?_
      obtain rfl := Option.some.inj hf
      exact Go_iret C hr rfl dX6_mending_79
def fX6_isWall (p0 : Int32) : Option (Int32) := (if p0 < (7 : Int32) then some (1 : Int32) else (if p0 < (10 : Int32) then some (0 : Int32) else some (1 : Int32)))
theorem ycX6_isWall : CalS yX6_isWall cX6_isWall 1 ((some .boolean)) 1 := ⟨mw_513, mw_61, mw_512, ⟨by decide, by decide, by decide +kernel⟩, by decide⟩
set_option maxHeartbeats 4000000 in
set_option maxRecDepth 100000 in
theorem kX6_isWall (l : Launch) (K : KK) (p0 : Int32) (res : Int32) (hf : fX6_isWall p0 = some res) : Ct l K yX6_isWall cX6_isWall 1 ((some .boolean)) 0 [.int p0] ([] : va_W) (some (.int res)) ([] : va_W) := by
  refine Ct_of2 (by decide) rfl (Nat.le_of_ble_eq_true rfl) ?_
  intro p e σ m args below meth c C hr
  unfold fX6_isWall at hf
  refine Go_iload_n (pc := 0) C dX6_isWall_0 rfl ?_
  refine Go_bipush (pc := 1) (v := 7) C dX6_isWall_1 cb_7 ?_
  refine Go_icmp_lt (pc := 3) (tgt := 12) C dX6_isWall_3 (by decide) (fun hc => ?_) (fun hc => ?_)
  · replace hf := ift hc hf
    refine Go_iconst (pc := 12) (v := 1) C dX6_isWall_12 ci_1 ?_
    refine Go_goto (pc := 13) (tgt := 17) C dX6_isWall_13 (by decide) ?_
    obtain rfl := Option.some.inj hf
    exact Go_zret C hr (Or.inr rfl) rfl dX6_isWall_17
  · replace hf := iff' hc hf
    refine Go_iload_n (pc := 6) C dX6_isWall_6 rfl ?_
    refine Go_bipush (pc := 7) (v := 10) C dX6_isWall_7 cb_10 ?_
    refine Go_icmp_lt (pc := 9) (tgt := 16) C dX6_isWall_9 (by decide) (fun hc => ?_) (fun hc => ?_)
    · replace hf := ift hc hf
      refine Go_iconst (pc := 16) (v := 0) C dX6_isWall_16 ci_0 ?_
      obtain rfl := Option.some.inj hf
      exact Go_zret C hr (Or.inl rfl) rfl dX6_isWall_17
    · replace hf := iff' hc hf
      refine Go_iconst (pc := 12) (v := 1) C dX6_isWall_12 ci_1 ?_
      refine Go_goto (pc := 13) (tgt := 17) C dX6_isWall_13 (by decide) ?_
      obtain rfl := Option.some.inj hf
      exact Go_zret C hr (Or.inr rfl) rfl dX6_isWall_17
def fX6_bestWall_L22 (s0 : S6) (q3 : Int32 × Int32 × Int32 × S5) : Option ((Int32 × Int32 × Int32 × S5) ⊕ (Int32 × Int32 × Int32 × S5)) := (if (21 : Int32) ≤ q3.2.2.1 then some (.inr (q3.1, q3.2.1, q3.2.2.1, q3.2.2.2)) else Option.bind (fX6_isWall q3.2.2.1) (fun r4 => (if r4 = 0 then (if (-1 : Int32) ≤ q3.2.1 then Option.bind (some (q3.2.2.1 + (1 : Int32))) (fun v5 => some (.inl (q3.1, q3.2.1, v5, q3.2.2.2))) else Option.bind (some (q3.2.2.1 + (1 : Int32))) (fun v6 => some (.inl (q3.2.2.1, (-1 : Int32), v6, q3.2.2.2)))) else (if 0 ≤ q3.2.2.1 ∧ q3.2.2.1.toNatClampNeg < 21 then (if (s0.1.2.2.2.2.1 q3.2.2.1.toNatClampNeg) = 0 then Option.bind (fX5_build q3.2.2.2 s0.1 q3.2.2.1) (fun r7 => (if r7.1 ≤ q3.2.1 then Option.bind (some (q3.2.2.1 + (1 : Int32))) (fun v8 => some (.inl (q3.1, q3.2.1, v8, r7.2))) else Option.bind (some (q3.2.2.1 + (1 : Int32))) (fun v9 => some (.inl (q3.2.2.1, r7.1, v9, r7.2))))) else (if (-1 : Int32) ≤ q3.2.1 then Option.bind (some (q3.2.2.1 + (1 : Int32))) (fun v10 => some (.inl (q3.1, q3.2.1, v10, q3.2.2.2))) else Option.bind (some (q3.2.2.1 + (1 : Int32))) (fun v11 => some (.inl (q3.2.2.1, (-1 : Int32), v11, q3.2.2.2))))) else none))))
def fX6_bestWall (s0 : S6) (p1 : Int32) : Option (Int32 × S6) := Option.bind (fX6_isWithin p1 (1 : Int32)) (fun r1 => (if r1 = 0 then Option.bind (fX6_refuse s0 (-2 : Int32)) (fun r2 => some (r2.1, r2.2)) else Option.bind (loopF (fX6_bestWall_L22 s0) 5000 ((-1 : Int32), (-1 : Int32), (0 : Int32), s0.2.2.2.2.1)) (fun z12 => (if p1 = 0 then some (z12.1, (s0.1, s0.2.1, s0.2.2.1, s0.2.2.2.1, z12.2.2.2, s0.2.2.2.2.2)) else some (z12.2.1, (s0.1, s0.2.1, s0.2.2.1, s0.2.2.2.1, z12.2.2.2, s0.2.2.2.2.2))))))
theorem ycX6_bestWall : CalV yX6_bestWall cX6_bestWall 6 ((some .int)) 1 := ⟨mw_510, mw_61, mw_508, mw_509, ⟨by decide, by decide, by decide +kernel⟩, by decide⟩
set_option maxHeartbeats 4000000 in
set_option maxRecDepth 100000 in
theorem kX6_bestWall (l : Launch) (K : KK) (a : Nat → Nat) (s0 : S6) (p1 : Int32) (res : Int32 × S6) (hf : fX6_bestWall s0 p1 = some res) : Ct l K yX6_bestWall cX6_bestWall 6 ((some .int)) 6 [.ref (a 0), .int p1] (w6 K a s0) (some (.int res.1)) (w6 K a res.2) := by
  refine Ct_of2 (by decide) rfl (Nat.le_of_ble_eq_true rfl) ?_
  intro p e σ m args below meth c C hr
  unfold fX6_bestWall at hf
  refine Go_iload_n (pc := 0) C dX6_bestWall_0 rfl ?_
  refine Go_iconst (pc := 1) (v := 1) C dX6_bestWall_1 ci_1 ?_
  obtain ⟨r1, hr1, hf⟩ := bnd hf
  refine Go_callS1 (pc := 2) (ws1 := (w6 K a s0)) C [] (kX6_isWithin l K p1 (1 : Int32) r1 hr1) ycX6_isWithin mw_272 (Nat.le_of_ble_eq_true rfl) rfl rfl (Nat.le_of_ble_eq_true rfl) ⟨Nat.zero_le _, Nat.zero_le _⟩ dX6_bestWall_2 rfl rfl rfl (Wr_same rfl) ?_
  refine Go_if_ne (pc := 5) (tgt := 15) C dX6_bestWall_5 (by decide) (fun hc => ?_) (fun hc => ?_)
  · replace hf := ift hc hf
    refine Go_aload_n (pc := 8) C dX6_bestWall_8 rfl ?_
    refine Go_bipush (pc := 9) (v := -2) C dX6_bestWall_9 cb_m2 ?_
    obtain ⟨r2, hr2, hf⟩ := bnd hf
    refine Go_callV1 (pc := 11) (ws1 := (w6 K a r2.2)) C 0 (0 :: 1 :: 2 :: 3 :: 4 :: 5 :: 6 :: 7 :: 8 :: 9 :: 10 :: 11 :: 12 :: 13 :: 14 :: 15 :: 16 :: 17 :: 18 :: 19 :: 20 :: 21 :: 22 :: 23 :: 24 :: 25 :: 26 :: 27 :: 28 :: 29 :: 30 :: 31 :: 32 :: 33 :: 34 :: 35 :: 36 :: 37 :: 38 :: 39 :: 40 :: 41 :: 42 :: 43 :: 44 :: 45 :: 46 :: 47 :: 48 :: 49 :: 50 :: 51 :: 52 :: 53 :: 54 :: 55 :: 56 :: 57 :: 58 :: 59 :: 60 :: 61 :: 62 :: 63 :: 64 :: 65 :: 66 :: 67 :: 68 :: []) (kX6_refuse l K (pk a (0 :: 1 :: 2 :: 3 :: 4 :: 5 :: 6 :: 7 :: 8 :: 9 :: 10 :: 11 :: 12 :: 13 :: 14 :: 15 :: 16 :: 17 :: 18 :: 19 :: 20 :: 21 :: 22 :: 23 :: 24 :: 25 :: 26 :: 27 :: 28 :: 29 :: 30 :: 31 :: 32 :: 33 :: 34 :: 35 :: 36 :: 37 :: 38 :: 39 :: 40 :: 41 :: 42 :: 43 :: 44 :: 45 :: 46 :: 47 :: 48 :: 49 :: 50 :: 51 :: 52 :: 53 :: 54 :: 55 :: 56 :: 57 :: 58 :: 59 :: 60 :: 61 :: 62 :: 63 :: 64 :: 65 :: 66 :: 67 :: 68 :: [])) s0 (-2 : Int32) r2 hr2) ycX6_refuse mw_278 (Nat.le_of_ble_eq_true rfl) rfl rfl rfl rfl (Nat.le_of_ble_eq_true rfl) ⟨Nat.zero_le _, Nat.zero_le _⟩ dX6_bestWall_11 (ll_28 _ _ _) rfl rfl (ll_29 _ _ _ _) ?_
    obtain rfl := Option.some.inj hf
    exact Go_iret C hr rfl dX6_bestWall_14
  · replace hf := iff' hc hf
    refine Go_iconst (pc := 15) (v := -1) C dX6_bestWall_15 ci_m1 ?_
    refine Go_istore_n (pc := 16) C dX6_bestWall_16 (by decide) ?_
    refine Go_iconst (pc := 17) (v := -1) C dX6_bestWall_17 ci_m1 ?_
    refine Go_istore_n (pc := 18) C dX6_bestWall_18 (by decide) ?_
    refine Go_iconst (pc := 19) (v := 0) C dX6_bestWall_19 ci_0 ?_
    refine Go_istore (pc := 20) C dX6_bestWall_20 (by decide) ?_
    obtain ⟨z12, hz12, hf⟩ := bnd hf
    refine Go_mask [true, true, true, true, true, false] ?_
    refine loopF_go (step := (fX6_bestWall_L22 s0)) (fun q3 => Go p l e (rmc 6 0 0) σ m args below meth c K (inW (w6 K a s0)) σ.heap 6 0 0 (MQ below (CtQ K (w6 K a s0) (some (.int res.1)) (w6 K a res.2)) args σ 0 0 (inW (w6 K a s0))) (w6 K a ((s0.1, s0.2.1, s0.2.2.1, s0.2.2.2.1, q3.2.2.2, s0.2.2.2.2.2))) 22 [some (.ref (a 0)), some (.int p1), some (.int q3.1), some (.int q3.2.1), some (.int q3.2.2.1), none] []) (fun z12 => Go p l e (rmc 6 0 0) σ m args below meth c K (inW (w6 K a s0)) σ.heap 6 0 0 (MQ below (CtQ K (w6 K a s0) (some (.int res.1)) (w6 K a res.2)) args σ 0 0 (inW (w6 K a s0))) (w6 K a ((s0.1, s0.2.1, s0.2.2.1, s0.2.2.2.1, z12.2.2.2, s0.2.2.2.2.2))) 87 [some (.ref (a 0)), some (.int p1), some (.int z12.1), some (.int z12.2.1), some (.int z12.2.2.1), none] []) ?_ _ _ _ hz12 ?_
    · intro q3 x hf hk
      unfold fX6_bestWall_L22 at hf
      refine Go_iload (pc := 22) C dX6_bestWall_22 rfl ?_
      refine Go_bipush (pc := 24) (v := 21) C dX6_bestWall_24 cb_21 ?_
      refine Go_icmp_ge (pc := 26) (tgt := 87) C dX6_bestWall_26 (by decide) (fun hc => ?_) (fun hc => ?_)
      · replace hf := ift hc hf
        obtain rfl := Option.some.inj hf
        exact Go_mask [true, true, true, true, true, false] hk
      · replace hf := iff' hc hf
        refine Go_iload (pc := 29) C dX6_bestWall_29 rfl ?_
        obtain ⟨r4, hr4, hf⟩ := bnd hf
        refine Go_callS1 (pc := 31) (ws1 := (w6 K a ((s0.1, s0.2.1, s0.2.2.1, s0.2.2.2.1, q3.2.2.2, s0.2.2.2.2.2)))) C [] (kX6_isWall l K q3.2.2.1 r4 hr4) ycX6_isWall mw_511 (Nat.le_of_ble_eq_true rfl) rfl rfl (Nat.le_of_ble_eq_true rfl) ⟨Nat.zero_le _, Nat.zero_le _⟩ dX6_bestWall_31 rfl rfl rfl (Wr_same rfl) ?_
        refine Go_if_eq (pc := 34) (tgt := 66) C dX6_bestWall_34 (by decide) (fun hc => ?_) (fun hc => ?_)
        · replace hf := ift hc hf
          refine Go_iconst (pc := 66) (v := -1) C dX6_bestWall_66 ci_m1 ?_
          refine Go_istore (pc := 67) C dX6_bestWall_67 (by decide) ?_
          refine Go_iload (pc := 69) C dX6_bestWall_69 rfl ?_
          refine Go_iload_n (pc := 71) C dX6_bestWall_71 rfl ?_
          refine Go_icmp_le (pc := 72) (tgt := 81) C dX6_bestWall_72 (by decide) (fun hc => ?_) (fun hc => ?_)
          · replace hf := ift hc hf
            obtain ⟨v5, hv5, hf⟩ := bnd hf
            refine Go_iinc (pc := 81) (v := v5) C dX6_bestWall_81 rfl (by rw [ci_1]; exact Option.some.inj hv5) ?_
            refine Go_goto (pc := 84) (tgt := 22) C dX6_bestWall_84 (by decide) ?_
            obtain rfl := Option.some.inj hf
            exact Go_mask [true, true, true, true, true, false] hk
          · replace hf := iff' hc hf
            refine Go_iload (pc := 75) C dX6_bestWall_75 rfl ?_
            refine Go_istore_n (pc := 77) C dX6_bestWall_77 (by decide) ?_
            refine Go_iload (pc := 78) C dX6_bestWall_78 rfl ?_
            refine Go_istore_n (pc := 80) C dX6_bestWall_80 (by decide) ?_
            obtain ⟨v6, hv6, hf⟩ := bnd hf
            refine Go_iinc (pc := 81) (v := v6) C dX6_bestWall_81 rfl (by rw [ci_1]; exact Option.some.inj hv6) ?_
            refine Go_goto (pc := 84) (tgt := 22) C dX6_bestWall_84 (by decide) ?_
            obtain rfl := Option.some.inj hf
            exact Go_mask [true, true, true, true, true, false] hk
        · replace hf := iff' hc hf
          refine Go_aload_n (pc := 37) C dX6_bestWall_37 rfl ?_
          refine Go_get (pc := 38) C 0 0 rfl rfl inX6 (by decide) mw_243 rfl dX6_bestWall_38 ?_
          refine Go_get (pc := 41) C 1 4 rfl rfl inX1 (by decide) mw_111 rfl dX6_bestWall_41 ?_
          refine Go_iload (pc := 44) C dX6_bestWall_44 rfl ?_
          obtain ⟨hb, hf⟩ := ifs hf
          refine Go_iald (pc := 46) C 6 rfl (inb_in hb) dX6_bestWall_46 ?_
          refine Go_if_ne (pc := 47) (tgt := 66) C dX6_bestWall_47 (by decide) (fun hc => ?_) (fun hc => ?_)
          · replace hf := ift hc hf
            refine Go_aload_n (pc := 50) C dX6_bestWall_50 rfl ?_
            refine Go_get (pc := 51) C 0 4 rfl rfl inX6 (by decide) mw_247 rfl dX6_bestWall_51 ?_
            refine Go_aload_n (pc := 54) C dX6_bestWall_54 rfl ?_
            refine Go_get (pc := 55) C 0 0 rfl rfl inX6 (by decide) mw_243 rfl dX6_bestWall_55 ?_
            refine Go_iload (pc := 58) C dX6_bestWall_58 rfl ?_
            obtain ⟨r7, hr7, hf⟩ := bnd hf
            refine Go_callV1 (pc := 60) (ws1 := (w6 K a ((s0.1, s0.2.1, s0.2.2.1, s0.2.2.2.1, r7.2, s0.2.2.2.2.2)))) C 52 (52 :: 53 :: 54 :: 55 :: 56 :: 57 :: 58 :: 59 :: 60 :: 61 :: 62 :: 63 :: 64 :: 65 :: 1 :: 2 :: 3 :: 4 :: 5 :: 6 :: []) (kX5_build l K (pk a (52 :: 53 :: 54 :: 55 :: 56 :: 57 :: 58 :: 59 :: 60 :: 61 :: 62 :: 63 :: 64 :: 65 :: 1 :: 2 :: 3 :: 4 :: 5 :: 6 :: [])) q3.2.2.2 s0.1 q3.2.2.1 r7 hr7) ycX5_build mw_514 (Nat.le_of_ble_eq_true rfl) rfl rfl rfl rfl (Nat.le_of_ble_eq_true rfl) ⟨Nat.zero_le _, Nat.zero_le _⟩ dX6_bestWall_60 (ll_81 _ _ _) rfl rfl (ll_82 _ _ _ _) ?_
            refine Go_goto (pc := 63) (tgt := 67) C dX6_bestWall_63 (by decide) ?_
            refine Go_istore (pc := 67) C dX6_bestWall_67 (by decide) ?_
            refine Go_iload (pc := 69) C dX6_bestWall_69 rfl ?_
            refine Go_iload_n (pc := 71) C dX6_bestWall_71 rfl ?_
            refine Go_icmp_le (pc := 72) (tgt := 81) C dX6_bestWall_72 (by decide) (fun hc => ?_) (fun hc => ?_)
            · replace hf := ift hc hf
              obtain ⟨v8, hv8, hf⟩ := bnd hf
              refine Go_iinc (pc := 81) (v := v8) C dX6_bestWall_81 rfl (by rw [ci_1]; exact Option.some.inj hv8) ?_
              refine Go_goto (pc := 84) (tgt := 22) C dX6_bestWall_84 (by decide) ?_
              obtain rfl := Option.some.inj hf
              exact Go_mask [true, true, true, true, true, false] hk
            · replace hf := iff' hc hf
              refine Go_iload (pc := 75) C dX6_bestWall_75 rfl ?_
              refine Go_istore_n (pc := 77) C dX6_bestWall_77 (by decide) ?_
              refine Go_iload (pc := 78) C dX6_bestWall_78 rfl ?_
              refine Go_istore_n (pc := 80) C dX6_bestWall_80 (by decide) ?_
              obtain ⟨v9, hv9, hf⟩ := bnd hf
              refine Go_iinc (pc := 81) (v := v9) C dX6_bestWall_81 rfl (by rw [ci_1]; exact Option.some.inj hv9) ?_
              refine Go_goto (pc := 84) (tgt := 22) C dX6_bestWall_84 (by decide) ?_
              obtain rfl := Option.some.inj hf
              exact Go_mask [true, true, true, true, true, false] hk
          · replace hf := iff' hc hf
            refine Go_iconst (pc := 66) (v := -1) C dX6_bestWall_66 ci_m1 ?_
            refine Go_istore (pc := 67) C dX6_bestWall_67 (by decide) ?_
            refine Go_iload (pc := 69) C dX6_bestWall_69 rfl ?_
            refine Go_iload_n (pc := 71) C dX6_bestWall_71 rfl ?_
            refine Go_icmp_le (pc := 72) (tgt := 81) C dX6_bestWall_72 (by decide) (fun hc => ?_) (fun hc => ?_)
            · replace hf := ift hc hf
              obtain ⟨v10, hv10, hf⟩ := bnd hf
              refine Go_iinc (pc := 81) (v := v10) C dX6_bestWall_81 rfl (by rw [ci_1]; exact Option.some.inj hv10) ?_
              refine Go_goto (pc := 84) (tgt := 22) C dX6_bestWall_84 (by decide) ?_
              obtain rfl := Option.some.inj hf
              exact Go_mask [true, true, true, true, true, false] hk
            · replace hf := iff' hc hf
              refine Go_iload (pc := 75) C dX6_bestWall_75 rfl ?_
              refine Go_istore_n (pc := 77) C dX6_bestWall_77 (by decide) ?_
              refine Go_iload (pc := 78) C dX6_bestWall_78 rfl ?_
              refine Go_istore_n (pc := 80) C dX6_bestWall_80 (by decide) ?_
              obtain ⟨v11, hv11, hf⟩ := bnd hf
              refine Go_iinc (pc := 81) (v := v11) C dX6_bestWall_81 rfl (by rw [ci_1]; exact Option.some.inj hv11) ?_
              refine Go_goto (pc := 84) (tgt := 22) C dX6_bestWall_84 (by decide) ?_
              obtain rfl := Option.some.inj hf
              exact Go_mask [true, true, true, true, true, false] hk
    · show Go _ _ _ _ _ _ _ _ _ _ _ _ _ _ _ _ _ _ _ _ _
      refine Go_iload_n (pc := 87) C dX6_bestWall_87 rfl ?_
      refine Go_if_ne (pc := 88) (tgt := 95) C dX6_bestWall_88 (by decide) (fun hc => ?_) (fun hc => ?_)
      · replace hf := ift hc hf
        refine Go_iload_n (pc := 91) C dX6_bestWall_91 rfl ?_
        refine Go_goto (pc := 92) (tgt := 96) C dX6_bestWall_92 (by decide) ?_
        obtain rfl := Option.some.inj hf
        exact Go_iret C hr rfl dX6_bestWall_96
      · replace hf := iff' hc hf
        refine Go_iload_n (pc := 95) C dX6_bestWall_95 rfl ?_
        obtain rfl := Option.some.inj hf
        exact Go_iret C hr rfl dX6_bestWall_96
def fX6_bestCell_L49 (s0 : S6) (p1 : Int32) (q5 : Int32 × Int32 × Int32 × S5) : Option ((Int32 × Int32 × Int32 × S5) ⊕ (Int32 × Int32 × Int32 × S5)) := (if (96 : Int32) ≤ q5.2.2.1 then some (.inr (q5.1, q5.2.1, q5.2.2.1, q5.2.2.2)) else Option.bind (fX1_hasPillarOn s0.1 q5.2.2.1) (fun r6 => (if r6 = 0 then Option.bind (fX5_support q5.2.2.2 s0.1 q5.2.2.1 p1) (fun r7 => (if r7.1 ≤ q5.2.1 then Option.bind (some (q5.2.2.1 + (1 : Int32))) (fun v8 => some (.inl (q5.1, q5.2.1, v8, r7.2))) else Option.bind (some (q5.2.2.1 + (1 : Int32))) (fun v9 => some (.inl (q5.2.2.1, r7.1, v9, r7.2))))) else (if (-1 : Int32) ≤ q5.2.1 then Option.bind (some (q5.2.2.1 + (1 : Int32))) (fun v10 => some (.inl (q5.1, q5.2.1, v10, q5.2.2.2))) else Option.bind (some (q5.2.2.1 + (1 : Int32))) (fun v11 => some (.inl (q5.2.2.1, (-1 : Int32), v11, q5.2.2.2)))))))
def fX6_bestCell (s0 : S6) (p1 : Int32) (p2 : Int32) : Option (Int32 × S6) := Option.bind (fX6_isStrength p1) (fun r1 => (if r1 = 0 then Option.bind (fX6_refuse s0 (-2 : Int32)) (fun r2 => some (r2.1, r2.2)) else Option.bind (fX6_isWithin p2 (1 : Int32)) (fun r3 => (if r3 = 0 then Option.bind (fX6_refuse s0 (-2 : Int32)) (fun r4 => some (r4.1, r4.2)) else (if s0.1.2.2.2.2.2 < (12 : Int32) then Option.bind (loopF (fX6_bestCell_L49 s0 p1) 5000 ((-1 : Int32), (-1 : Int32), (0 : Int32), s0.2.2.2.2.1)) (fun z12 => (if p2 = 0 then some (z12.1, (s0.1, s0.2.1, s0.2.2.1, s0.2.2.2.1, z12.2.2.2, s0.2.2.2.2.2)) else some (z12.2.1, (s0.1, s0.2.1, s0.2.2.1, s0.2.2.2.1, z12.2.2.2, s0.2.2.2.2.2)))) else Option.bind (fX6_refuse s0 (-3 : Int32)) (fun r13 => some (r13.1, r13.2)))))))
theorem ycX6_bestCell : CalV yX6_bestCell cX6_bestCell 7 ((some .int)) 2 := ⟨mw_522, mw_61, mw_520, mw_521, ⟨by decide, by decide, by decide +kernel⟩, by decide⟩
set_option maxHeartbeats 4000000 in
set_option maxRecDepth 100000 in
theorem kX6_bestCell (l : Launch) (K : KK) (a : Nat → Nat) (s0 : S6) (p1 : Int32) (p2 : Int32) (res : Int32 × S6) (hf : fX6_bestCell s0 p1 p2 = some res) : Ct l K yX6_bestCell cX6_bestCell 7 ((some .int)) 6 [.ref (a 0), .int p1, .int p2] (w6 K a s0) (some (.int res.1)) (w6 K a res.2) := by
  refine Ct_of2 (by decide) rfl (Nat.le_of_ble_eq_true rfl) ?_
  intro p e σ m args below meth c C hr
  unfold fX6_bestCell at hf
  refine Go_iload_n (pc := 0) C dX6_bestCell_0 rfl ?_
  obtain ⟨r1, hr1, hf⟩ := bnd hf
  refine Go_callS1 (pc := 1) (ws1 := (w6 K a s0)) C [] (kX6_isStrength l K p1 r1 hr1) ycX6_isStrength mw_275 (Nat.le_of_ble_eq_true rfl) rfl rfl (Nat.le_of_ble_eq_true rfl) ⟨Nat.zero_le _, Nat.zero_le _⟩ dX6_bestCell_1 rfl rfl rfl (Wr_same rfl) ?_
  refine Go_if_eq (pc := 4) (tgt := 15) C dX6_bestCell_4 (by decide) (fun hc => ?_) (fun hc => ?_)
  · replace hf := ift hc hf
    refine Go_aload_n (pc := 15) C dX6_bestCell_15 rfl ?_
    refine Go_bipush (pc := 16) (v := -2) C dX6_bestCell_16 cb_m2 ?_
    obtain ⟨r2, hr2, hf⟩ := bnd hf
    refine Go_callV1 (pc := 18) (ws1 := (w6 K a r2.2)) C 0 (0 :: 1 :: 2 :: 3 :: 4 :: 5 :: 6 :: 7 :: 8 :: 9 :: 10 :: 11 :: 12 :: 13 :: 14 :: 15 :: 16 :: 17 :: 18 :: 19 :: 20 :: 21 :: 22 :: 23 :: 24 :: 25 :: 26 :: 27 :: 28 :: 29 :: 30 :: 31 :: 32 :: 33 :: 34 :: 35 :: 36 :: 37 :: 38 :: 39 :: 40 :: 41 :: 42 :: 43 :: 44 :: 45 :: 46 :: 47 :: 48 :: 49 :: 50 :: 51 :: 52 :: 53 :: 54 :: 55 :: 56 :: 57 :: 58 :: 59 :: 60 :: 61 :: 62 :: 63 :: 64 :: 65 :: 66 :: 67 :: 68 :: []) (kX6_refuse l K (pk a (0 :: 1 :: 2 :: 3 :: 4 :: 5 :: 6 :: 7 :: 8 :: 9 :: 10 :: 11 :: 12 :: 13 :: 14 :: 15 :: 16 :: 17 :: 18 :: 19 :: 20 :: 21 :: 22 :: 23 :: 24 :: 25 :: 26 :: 27 :: 28 :: 29 :: 30 :: 31 :: 32 :: 33 :: 34 :: 35 :: 36 :: 37 :: 38 :: 39 :: 40 :: 41 :: 42 :: 43 :: 44 :: 45 :: 46 :: 47 :: 48 :: 49 :: 50 :: 51 :: 52 :: 53 :: 54 :: 55 :: 56 :: 57 :: 58 :: 59 :: 60 :: 61 :: 62 :: 63 :: 64 :: 65 :: 66 :: 67 :: 68 :: [])) s0 (-2 : Int32) r2 hr2) ycX6_refuse mw_278 (Nat.le_of_ble_eq_true rfl) rfl rfl rfl rfl (Nat.le_of_ble_eq_true rfl) ⟨Nat.zero_le _, Nat.zero_le _⟩ dX6_bestCell_18 (ll_28 _ _ _) rfl rfl (ll_29 _ _ _ _) ?_
    obtain rfl := Option.some.inj hf
    exact Go_iret C hr rfl dX6_bestCell_21
  · replace hf := iff' hc hf
    refine Go_iload_n (pc := 7) C dX6_bestCell_7 rfl ?_
    refine Go_iconst (pc := 8) (v := 1) C dX6_bestCell_8 ci_1 ?_
    obtain ⟨r3, hr3, hf⟩ := bnd hf
    refine Go_callS1 (pc := 9) (ws1 := (w6 K a s0)) C [] (kX6_isWithin l K p2 (1 : Int32) r3 hr3) ycX6_isWithin mw_272 (Nat.le_of_ble_eq_true rfl) rfl rfl (Nat.le_of_ble_eq_true rfl) ⟨Nat.zero_le _, Nat.zero_le _⟩ dX6_bestCell_9 rfl rfl rfl (Wr_same rfl) ?_
    refine Go_if_ne (pc := 12) (tgt := 22) C dX6_bestCell_12 (by decide) (fun hc => ?_) (fun hc => ?_)
    · replace hf := ift hc hf
      refine Go_aload_n (pc := 15) C dX6_bestCell_15 rfl ?_
      refine Go_bipush (pc := 16) (v := -2) C dX6_bestCell_16 cb_m2 ?_
      obtain ⟨r4, hr4, hf⟩ := bnd hf
      refine Go_callV1 (pc := 18) (ws1 := (w6 K a r4.2)) C 0 (0 :: 1 :: 2 :: 3 :: 4 :: 5 :: 6 :: 7 :: 8 :: 9 :: 10 :: 11 :: 12 :: 13 :: 14 :: 15 :: 16 :: 17 :: 18 :: 19 :: 20 :: 21 :: 22 :: 23 :: 24 :: 25 :: 26 :: 27 :: 28 :: 29 :: 30 :: 31 :: 32 :: 33 :: 34 :: 35 :: 36 :: 37 :: 38 :: 39 :: 40 :: 41 :: 42 :: 43 :: 44 :: 45 :: 46 :: 47 :: 48 :: 49 :: 50 :: 51 :: 52 :: 53 :: 54 :: 55 :: 56 :: 57 :: 58 :: 59 :: 60 :: 61 :: 62 :: 63 :: 64 :: 65 :: 66 :: 67 :: 68 :: []) (kX6_refuse l K (pk a (0 :: 1 :: 2 :: 3 :: 4 :: 5 :: 6 :: 7 :: 8 :: 9 :: 10 :: 11 :: 12 :: 13 :: 14 :: 15 :: 16 :: 17 :: 18 :: 19 :: 20 :: 21 :: 22 :: 23 :: 24 :: 25 :: 26 :: 27 :: 28 :: 29 :: 30 :: 31 :: 32 :: 33 :: 34 :: 35 :: 36 :: 37 :: 38 :: 39 :: 40 :: 41 :: 42 :: 43 :: 44 :: 45 :: 46 :: 47 :: 48 :: 49 :: 50 :: 51 :: 52 :: 53 :: 54 :: 55 :: 56 :: 57 :: 58 :: 59 :: 60 :: 61 :: 62 :: 63 :: 64 :: 65 :: 66 :: 67 :: 68 :: [])) s0 (-2 : Int32) r4 hr4) ycX6_refuse mw_278 (Nat.le_of_ble_eq_true rfl) rfl rfl rfl rfl (Nat.le_of_ble_eq_true rfl) ⟨Nat.zero_le _, Nat.zero_le _⟩ dX6_bestCell_18 (ll_28 _ _ _) rfl rfl (ll_29 _ _ _ _) ?_
      obtain rfl := Option.some.inj hf
      exact Go_iret C hr rfl dX6_bestCell_21
    · replace hf := iff' hc hf
      refine Go_aload_n (pc := 22) C dX6_bestCell_22 rfl ?_
      refine Go_get (pc := 23) C 0 0 rfl rfl inX6 (by decide) mw_243 rfl dX6_bestCell_23 ?_
      refine Go_get (pc := 26) C 1 5 rfl rfl inX1 (by decide) mw_115 rfl dX6_bestCell_26 ?_
      refine Go_bipush (pc := 29) (v := 12) C dX6_bestCell_29 cb_12 ?_
      refine Go_icmp_lt (pc := 31) (tgt := 41) C dX6_bestCell_31 (by decide) (fun hc => ?_) (fun hc => ?_)
      · replace hf := ift hc hf
        refine Go_iconst (pc := 41) (v := -1) C dX6_bestCell_41 ci_m1 ?_
        refine Go_istore_n (pc := 42) C dX6_bestCell_42 (by decide) ?_
        refine Go_iconst (pc := 43) (v := -1) C dX6_bestCell_43 ci_m1 ?_
        refine Go_istore (pc := 44) C dX6_bestCell_44 (by decide) ?_
        refine Go_iconst (pc := 46) (v := 0) C dX6_bestCell_46 ci_0 ?_
        refine Go_istore (pc := 47) C dX6_bestCell_47 (by decide) ?_
        obtain ⟨z12, hz12, hf⟩ := bnd hf
        refine Go_mask [true, true, true, true, true, true, false] ?_
        refine loopF_go (step := (fX6_bestCell_L49 s0 p1)) (fun q5 => Go p l e (rmc 6 0 0) σ m args below meth c K (inW (w6 K a s0)) σ.heap 7 0 0 (MQ below (CtQ K (w6 K a s0) (some (.int res.1)) (w6 K a res.2)) args σ 0 0 (inW (w6 K a s0))) (w6 K a ((s0.1, s0.2.1, s0.2.2.1, s0.2.2.2.1, q5.2.2.2, s0.2.2.2.2.2))) 49 [some (.ref (a 0)), some (.int p1), some (.int p2), some (.int q5.1), some (.int q5.2.1), some (.int q5.2.2.1), none] []) (fun z12 => Go p l e (rmc 6 0 0) σ m args below meth c K (inW (w6 K a s0)) σ.heap 7 0 0 (MQ below (CtQ K (w6 K a s0) (some (.int res.1)) (w6 K a res.2)) args σ 0 0 (inW (w6 K a s0))) (w6 K a ((s0.1, s0.2.1, s0.2.2.1, s0.2.2.2.1, z12.2.2.2, s0.2.2.2.2.2))) 108 [some (.ref (a 0)), some (.int p1), some (.int p2), some (.int z12.1), some (.int z12.2.1), some (.int z12.2.2.1), none] []) ?_ _ _ _ hz12 ?_
        · intro q5 x hf hk
          unfold fX6_bestCell_L49 at hf
          refine Go_iload (pc := 49) C dX6_bestCell_49 rfl ?_
          refine Go_bipush (pc := 51) (v := 96) C dX6_bestCell_51 cb_96 ?_
          refine Go_icmp_ge (pc := 53) (tgt := 108) C dX6_bestCell_53 (by decide) (fun hc => ?_) (fun hc => ?_)
          · replace hf := ift hc hf
            obtain rfl := Option.some.inj hf
            exact Go_mask [true, true, true, true, true, true, false] hk
          · replace hf := iff' hc hf
            refine Go_aload_n (pc := 56) C dX6_bestCell_56 rfl ?_
            refine Go_get (pc := 57) C 0 0 rfl rfl inX6 (by decide) mw_243 rfl dX6_bestCell_57 ?_
            refine Go_iload (pc := 60) C dX6_bestCell_60 rfl ?_
            obtain ⟨r6, hr6, hf⟩ := bnd hf
            refine Go_callV1 (pc := 62) (ws1 := (w6 K a ((s0.1, s0.2.1, s0.2.2.1, s0.2.2.2.1, q5.2.2.2, s0.2.2.2.2.2)))) C 1 [1, 2, 3, 4, 5, 6] (kX1_hasPillarOn l K (pk a [1, 2, 3, 4, 5, 6]) s0.1 q5.2.2.1 r6 hr6) ycX1_hasPillarOn mw_282 (Nat.le_of_ble_eq_true rfl) rfl rfl rfl rfl (Nat.le_of_ble_eq_true rfl) ⟨Nat.zero_le _, Nat.zero_le _⟩ dX6_bestCell_62 (ll_30 _ _ _) rfl rfl (Wr_same (ll_30 _ _ _)) ?_
            refine Go_if_eq (pc := 65) (tgt := 72) C dX6_bestCell_65 (by decide) (fun hc => ?_) (fun hc => ?_)
            · replace hf := ift hc hf
              refine Go_aload_n (pc := 72) C dX6_bestCell_72 rfl ?_
              refine Go_get (pc := 73) C 0 4 rfl rfl inX6 (by decide) mw_247 rfl dX6_bestCell_73 ?_
              refine Go_aload_n (pc := 76) C dX6_bestCell_76 rfl ?_
              refine Go_get (pc := 77) C 0 0 rfl rfl inX6 (by decide) mw_243 rfl dX6_bestCell_77 ?_
              refine Go_iload (pc := 80) C dX6_bestCell_80 rfl ?_
              refine Go_iload_n (pc := 82) C dX6_bestCell_82 rfl ?_
              obtain ⟨r7, hr7, hf⟩ := bnd hf
              refine Go_callV1 (pc := 83) (ws1 := (w6 K a ((s0.1, s0.2.1, s0.2.2.1, s0.2.2.2.1, r7.2, s0.2.2.2.2.2)))) C 52 (52 :: 53 :: 54 :: 55 :: 56 :: 57 :: 58 :: 59 :: 60 :: 61 :: 62 :: 63 :: 64 :: 65 :: 1 :: 2 :: 3 :: 4 :: 5 :: 6 :: []) (kX5_support l K (pk a (52 :: 53 :: 54 :: 55 :: 56 :: 57 :: 58 :: 59 :: 60 :: 61 :: 62 :: 63 :: 64 :: 65 :: 1 :: 2 :: 3 :: 4 :: 5 :: 6 :: [])) q5.2.2.2 s0.1 q5.2.2.1 p1 r7 hr7) ycX5_support mw_523 (Nat.le_of_ble_eq_true rfl) rfl rfl rfl rfl (Nat.le_of_ble_eq_true rfl) ⟨Nat.zero_le _, Nat.zero_le _⟩ dX6_bestCell_83 (ll_81 _ _ _) rfl rfl (ll_82 _ _ _ _) ?_
              refine Go_istore (pc := 86) C dX6_bestCell_86 (by decide) ?_
              refine Go_iload (pc := 88) C dX6_bestCell_88 rfl ?_
              refine Go_iload (pc := 90) C dX6_bestCell_90 rfl ?_
              refine Go_icmp_le (pc := 92) (tgt := 102) C dX6_bestCell_92 (by decide) (fun hc => ?_) (fun hc => ?_)
              · replace hf := ift hc hf
                obtain ⟨v8, hv8, hf⟩ := bnd hf
                refine Go_iinc (pc := 102) (v := v8) C dX6_bestCell_102 rfl (by rw [ci_1]; exact Option.some.inj hv8) ?_
                refine Go_goto (pc := 105) (tgt := 49) C dX6_bestCell_105 (by decide) ?_
                obtain rfl := Option.some.inj hf
                exact Go_mask [true, true, true, true, true, true, false] hk
              · replace hf := iff' hc hf
                refine Go_iload (pc := 95) C dX6_bestCell_95 rfl ?_
                refine Go_istore (pc := 97) C dX6_bestCell_97 (by decide) ?_
                refine Go_iload (pc := 99) C dX6_bestCell_99 rfl ?_
                refine Go_istore_n (pc := 101) C dX6_bestCell_101 (by decide) ?_
                obtain ⟨v9, hv9, hf⟩ := bnd hf
                refine Go_iinc (pc := 102) (v := v9) C dX6_bestCell_102 rfl (by rw [ci_1]; exact Option.some.inj hv9) ?_
                refine Go_goto (pc := 105) (tgt := 49) C dX6_bestCell_105 (by decide) ?_
                obtain rfl := Option.some.inj hf
                exact Go_mask [true, true, true, true, true, true, false] hk
            · replace hf := iff' hc hf
              refine Go_iconst (pc := 68) (v := -1) C dX6_bestCell_68 ci_m1 ?_
              refine Go_goto (pc := 69) (tgt := 86) C dX6_bestCell_69 (by decide) ?_
              refine Go_istore (pc := 86) C dX6_bestCell_86 (by decide) ?_
              refine Go_iload (pc := 88) C dX6_bestCell_88 rfl ?_
              refine Go_iload (pc := 90) C dX6_bestCell_90 rfl ?_
              refine Go_icmp_le (pc := 92) (tgt := 102) C dX6_bestCell_92 (by decide) (fun hc => ?_) (fun hc => ?_)
              · replace hf := ift hc hf
                obtain ⟨v10, hv10, hf⟩ := bnd hf
                refine Go_iinc (pc := 102) (v := v10) C dX6_bestCell_102 rfl (by rw [ci_1]; exact Option.some.inj hv10) ?_
                refine Go_goto (pc := 105) (tgt := 49) C dX6_bestCell_105 (by decide) ?_
                obtain rfl := Option.some.inj hf
                exact Go_mask [true, true, true, true, true, true, false] hk
              · replace hf := iff' hc hf
                refine Go_iload (pc := 95) C dX6_bestCell_95 rfl ?_
                refine Go_istore (pc := 97) C dX6_bestCell_97 (by decide) ?_
                refine Go_iload (pc := 99) C dX6_bestCell_99 rfl ?_
                refine Go_istore_n (pc := 101) C dX6_bestCell_101 (by decide) ?_
                obtain ⟨v11, hv11, hf⟩ := bnd hf
                refine Go_iinc (pc := 102) (v := v11) C dX6_bestCell_102 rfl (by rw [ci_1]; exact Option.some.inj hv11) ?_
                refine Go_goto (pc := 105) (tgt := 49) C dX6_bestCell_105 (by decide) ?_
                obtain rfl := Option.some.inj hf
                exact Go_mask [true, true, true, true, true, true, false] hk
        · show Go _ _ _ _ _ _ _ _ _ _ _ _ _ _ _ _ _ _ _ _ _
          refine Go_iload_n (pc := 108) C dX6_bestCell_108 rfl ?_
          refine Go_if_ne (pc := 109) (tgt := 116) C dX6_bestCell_109 (by decide) (fun hc => ?_) (fun hc => ?_)
          · replace hf := ift hc hf
            refine Go_iload_n (pc := 112) C dX6_bestCell_112 rfl ?_
            refine Go_goto (pc := 113) (tgt := 118) C dX6_bestCell_113 (by decide) ?_
            obtain rfl := Option.some.inj hf
            exact Go_iret C hr rfl dX6_bestCell_118
          · replace hf := iff' hc hf
            refine Go_iload (pc := 116) C dX6_bestCell_116 rfl ?_
            obtain rfl := Option.some.inj hf
            exact Go_iret C hr rfl dX6_bestCell_118
      · replace hf := iff' hc hf
        refine Go_aload_n (pc := 34) C dX6_bestCell_34 rfl ?_
        refine Go_bipush (pc := 35) (v := -3) C dX6_bestCell_35 cb_m3 ?_
        obtain ⟨r13, hr13, hf⟩ := bnd hf
        refine Go_callV1 (pc := 37) (ws1 := (w6 K a r13.2)) C 0 (0 :: 1 :: 2 :: 3 :: 4 :: 5 :: 6 :: 7 :: 8 :: 9 :: 10 :: 11 :: 12 :: 13 :: 14 :: 15 :: 16 :: 17 :: 18 :: 19 :: 20 :: 21 :: 22 :: 23 :: 24 :: 25 :: 26 :: 27 :: 28 :: 29 :: 30 :: 31 :: 32 :: 33 :: 34 :: 35 :: 36 :: 37 :: 38 :: 39 :: 40 :: 41 :: 42 :: 43 :: 44 :: 45 :: 46 :: 47 :: 48 :: 49 :: 50 :: 51 :: 52 :: 53 :: 54 :: 55 :: 56 :: 57 :: 58 :: 59 :: 60 :: 61 :: 62 :: 63 :: 64 :: 65 :: 66 :: 67 :: 68 :: []) (kX6_refuse l K (pk a (0 :: 1 :: 2 :: 3 :: 4 :: 5 :: 6 :: 7 :: 8 :: 9 :: 10 :: 11 :: 12 :: 13 :: 14 :: 15 :: 16 :: 17 :: 18 :: 19 :: 20 :: 21 :: 22 :: 23 :: 24 :: 25 :: 26 :: 27 :: 28 :: 29 :: 30 :: 31 :: 32 :: 33 :: 34 :: 35 :: 36 :: 37 :: 38 :: 39 :: 40 :: 41 :: 42 :: 43 :: 44 :: 45 :: 46 :: 47 :: 48 :: 49 :: 50 :: 51 :: 52 :: 53 :: 54 :: 55 :: 56 :: 57 :: 58 :: 59 :: 60 :: 61 :: 62 :: 63 :: 64 :: 65 :: 66 :: 67 :: 68 :: [])) s0 (-3 : Int32) r13 hr13) ycX6_refuse mw_278 (Nat.le_of_ble_eq_true rfl) rfl rfl rfl rfl (Nat.le_of_ble_eq_true rfl) ⟨Nat.zero_le _, Nat.zero_le _⟩ dX6_bestCell_37 (ll_28 _ _ _) rfl rfl (ll_29 _ _ _ _) ?_
        obtain rfl := Option.some.inj hf
        exact Go_iret C hr rfl dX6_bestCell_40
theorem ll_92 (K : KK) (a : Nat → Nat) (t0 : S6) : ([66, 67] : List Nat).map (fun i => (w6 K a t0)[i]?) = List.map some (w4 K (pk a [66, 67]) t0.2.2.2.2.2.1) := rfl
theorem ll_93 (K : KK) (a : Nat → Nat) (t0 : S6) (y0 : S4) : Wr (w6 K a t0) [66, 67] (w4 K (pk a [66, 67]) y0) (w6 K a ((t0.1, t0.2.1, t0.2.2.1, t0.2.2.2.1, t0.2.2.2.2.1, y0, t0.2.2.2.2.2.2))) := ⟨(0 :: 1 :: 2 :: 3 :: 4 :: 5 :: 6 :: 7 :: 8 :: 9 :: 10 :: 11 :: 12 :: 13 :: 14 :: 15 :: 16 :: 17 :: 18 :: 19 :: 20 :: 21 :: 22 :: 23 :: 24 :: 25 :: 26 :: 27 :: 28 :: 29 :: 30 :: 31 :: 32 :: 33 :: 34 :: 35 :: 36 :: 37 :: 38 :: 39 :: 40 :: 41 :: 42 :: 43 :: 44 :: 45 :: 46 :: 47 :: 48 :: 49 :: 50 :: 51 :: 52 :: 53 :: 54 :: 55 :: 56 :: 57 :: 58 :: 59 :: 60 :: 61 :: 62 :: 63 :: 64 :: 65 :: 68 :: []), 69, rfl, (show List.map (fun i => (w6 K a ((t0.1, t0.2.1, t0.2.2.1, t0.2.2.2.1, t0.2.2.2.2.1, y0, t0.2.2.2.2.2.2)))[i]?) _ = ((some (a 0, .inr (6, [.ref (a 1), .ref (a 7), .ref (a 12), .ref (a 14), .ref (a 52), .ref (a 66), .ref (a 68)])) :: some (a 1, .inr (1, [.ref (a 2), .ref (a 3), .ref (a 4), .ref (a 5), .ref (a 6), .int (t0.1.2.2.2.2.2)])) :: some (a 2, .inl (K.2.1, 96, .inl (t0.1.1))) :: some (a 3, .inl (K.2.1, 12, .inl (t0.1.2.1))) :: some (a 4, .inl (K.2.1, 12, .inl (t0.1.2.2.1))) :: some (a 5, .inl (K.2.1, 12, .inl (t0.1.2.2.2.1))) :: some (a 6, .inl (K.2.1, 21, .inl (t0.1.2.2.2.2.1))) :: some (a 7, .inr (0, [.ref (a 8), .ref (a 9), .ref (a 10), .ref (a 11)])) :: some (a 8, .inl (K.2.1, 96, .inl (t0.2.1.1))) :: some (a 9, .inl (K.2.1, 96, .inl (t0.2.1.2.1))) :: some (a 10, .inl (K.2.1, 12, .inl (t0.2.1.2.2.1))) :: some (a 11, .inl (K.2.1, 12, .inl (t0.2.1.2.2.2))) :: some (a 12, .inr (2, [.ref (a 13), .int (t0.2.2.1.2)])) :: some (a 13, .inl (K.2.1, 12, .inl (t0.2.2.1.1))) :: some (a 14, .inr (3, [.ref (a 15), .int (t0.2.2.2.1.2.1), .int (t0.2.2.2.1.2.2)])) :: some (a 15, .inl (K.2.2, 6, .inr (.inr (.inr (.inr (rgf [a 16, a 22, a 28, a 34, a 40, a 46])))))) :: some (a 16, .inr (1, [.ref (a 17), .ref (a 18), .ref (a 19), .ref (a 20), .ref (a 21), .int (t0.2.2.2.1.1.1.2.2.2.2.2)])) :: some (a 17, .inl (K.2.1, 96, .inl (t0.2.2.2.1.1.1.1))) :: some (a 18, .inl (K.2.1, 12, .inl (t0.2.2.2.1.1.1.2.1))) :: some (a 19, .inl (K.2.1, 12, .inl (t0.2.2.2.1.1.1.2.2.1))) :: some (a 20, .inl (K.2.1, 12, .inl (t0.2.2.2.1.1.1.2.2.2.1))) :: some (a 21, .inl (K.2.1, 21, .inl (t0.2.2.2.1.1.1.2.2.2.2.1))) :: some (a 22, .inr (1, [.ref (a 23), .ref (a 24), .ref (a 25), .ref (a 26), .ref (a 27), .int (t0.2.2.2.1.1.2.1.2.2.2.2.2)])) :: some (a 23, .inl (K.2.1, 96, .inl (t0.2.2.2.1.1.2.1.1))) :: some (a 24, .inl (K.2.1, 12, .inl (t0.2.2.2.1.1.2.1.2.1))) :: some (a 25, .inl (K.2.1, 12, .inl (t0.2.2.2.1.1.2.1.2.2.1))) :: some (a 26, .inl (K.2.1, 12, .inl (t0.2.2.2.1.1.2.1.2.2.2.1))) :: some (a 27, .inl (K.2.1, 21, .inl (t0.2.2.2.1.1.2.1.2.2.2.2.1))) :: some (a 28, .inr (1, [.ref (a 29), .ref (a 30), .ref (a 31), .ref (a 32), .ref (a 33), .int (t0.2.2.2.1.1.2.2.1.2.2.2.2.2)])) :: some (a 29, .inl (K.2.1, 96, .inl (t0.2.2.2.1.1.2.2.1.1))) :: some (a 30, .inl (K.2.1, 12, .inl (t0.2.2.2.1.1.2.2.1.2.1))) :: some (a 31, .inl (K.2.1, 12, .inl (t0.2.2.2.1.1.2.2.1.2.2.1))) :: some (a 32, .inl (K.2.1, 12, .inl (t0.2.2.2.1.1.2.2.1.2.2.2.1))) :: some (a 33, .inl (K.2.1, 21, .inl (t0.2.2.2.1.1.2.2.1.2.2.2.2.1))) :: some (a 34, .inr (1, [.ref (a 35), .ref (a 36), .ref (a 37), .ref (a 38), .ref (a 39), .int (t0.2.2.2.1.1.2.2.2.1.2.2.2.2.2)])) :: some (a 35, .inl (K.2.1, 96, .inl (t0.2.2.2.1.1.2.2.2.1.1))) :: some (a 36, .inl (K.2.1, 12, .inl (t0.2.2.2.1.1.2.2.2.1.2.1))) :: some (a 37, .inl (K.2.1, 12, .inl (t0.2.2.2.1.1.2.2.2.1.2.2.1))) :: some (a 38, .inl (K.2.1, 12, .inl (t0.2.2.2.1.1.2.2.2.1.2.2.2.1))) :: some (a 39, .inl (K.2.1, 21, .inl (t0.2.2.2.1.1.2.2.2.1.2.2.2.2.1))) :: some (a 40, .inr (1, [.ref (a 41), .ref (a 42), .ref (a 43), .ref (a 44), .ref (a 45), .int (t0.2.2.2.1.1.2.2.2.2.1.2.2.2.2.2)])) :: some (a 41, .inl (K.2.1, 96, .inl (t0.2.2.2.1.1.2.2.2.2.1.1))) :: some (a 42, .inl (K.2.1, 12, .inl (t0.2.2.2.1.1.2.2.2.2.1.2.1))) :: some (a 43, .inl (K.2.1, 12, .inl (t0.2.2.2.1.1.2.2.2.2.1.2.2.1))) :: some (a 44, .inl (K.2.1, 12, .inl (t0.2.2.2.1.1.2.2.2.2.1.2.2.2.1))) :: some (a 45, .inl (K.2.1, 21, .inl (t0.2.2.2.1.1.2.2.2.2.1.2.2.2.2.1))) :: some (a 46, .inr (1, [.ref (a 47), .ref (a 48), .ref (a 49), .ref (a 50), .ref (a 51), .int (t0.2.2.2.1.1.2.2.2.2.2.2.2.2.2.2)])) :: some (a 47, .inl (K.2.1, 96, .inl (t0.2.2.2.1.1.2.2.2.2.2.1))) :: some (a 48, .inl (K.2.1, 12, .inl (t0.2.2.2.1.1.2.2.2.2.2.2.1))) :: some (a 49, .inl (K.2.1, 12, .inl (t0.2.2.2.1.1.2.2.2.2.2.2.2.1))) :: some (a 50, .inl (K.2.1, 12, .inl (t0.2.2.2.1.1.2.2.2.2.2.2.2.2.1))) :: some (a 51, .inl (K.2.1, 21, .inl (t0.2.2.2.1.1.2.2.2.2.2.2.2.2.2.1))) :: some (a 52, .inr (5, [.ref (a 53), .ref (a 59), .ref (a 64)])) :: some (a 53, .inr (1, [.ref (a 54), .ref (a 55), .ref (a 56), .ref (a 57), .ref (a 58), .int (t0.2.2.2.2.1.1.2.2.2.2.2)])) :: some (a 54, .inl (K.2.1, 96, .inl (t0.2.2.2.2.1.1.1))) :: some (a 55, .inl (K.2.1, 12, .inl (t0.2.2.2.2.1.1.2.1))) :: some (a 56, .inl (K.2.1, 12, .inl (t0.2.2.2.2.1.1.2.2.1))) :: some (a 57, .inl (K.2.1, 12, .inl (t0.2.2.2.2.1.1.2.2.2.1))) :: some (a 58, .inl (K.2.1, 21, .inl (t0.2.2.2.2.1.1.2.2.2.2.1))) :: some (a 59, .inr (0, [.ref (a 60), .ref (a 61), .ref (a 62), .ref (a 63)])) :: some (a 60, .inl (K.2.1, 96, .inl (t0.2.2.2.2.1.2.1.1))) :: some (a 61, .inl (K.2.1, 96, .inl (t0.2.2.2.2.1.2.1.2.1))) :: some (a 62, .inl (K.2.1, 12, .inl (t0.2.2.2.2.1.2.1.2.2.1))) :: some (a 63, .inl (K.2.1, 12, .inl (t0.2.2.2.2.1.2.1.2.2.2))) :: some (a 64, .inr (2, [.ref (a 65), .int (t0.2.2.2.2.1.2.2.2)])) :: some (a 65, .inl (K.2.1, 12, .inl (t0.2.2.2.2.1.2.2.1))) :: some (a 68, .inl (K.2.1, 3, .inl (t0.2.2.2.2.2.2))) :: []) : List (Option (Nat × va_E))) from rfl).trans (show List.map (fun i => (w6 K a t0)[i]?) _ = ((some (a 0, .inr (6, [.ref (a 1), .ref (a 7), .ref (a 12), .ref (a 14), .ref (a 52), .ref (a 66), .ref (a 68)])) :: some (a 1, .inr (1, [.ref (a 2), .ref (a 3), .ref (a 4), .ref (a 5), .ref (a 6), .int (t0.1.2.2.2.2.2)])) :: some (a 2, .inl (K.2.1, 96, .inl (t0.1.1))) :: some (a 3, .inl (K.2.1, 12, .inl (t0.1.2.1))) :: some (a 4, .inl (K.2.1, 12, .inl (t0.1.2.2.1))) :: some (a 5, .inl (K.2.1, 12, .inl (t0.1.2.2.2.1))) :: some (a 6, .inl (K.2.1, 21, .inl (t0.1.2.2.2.2.1))) :: some (a 7, .inr (0, [.ref (a 8), .ref (a 9), .ref (a 10), .ref (a 11)])) :: some (a 8, .inl (K.2.1, 96, .inl (t0.2.1.1))) :: some (a 9, .inl (K.2.1, 96, .inl (t0.2.1.2.1))) :: some (a 10, .inl (K.2.1, 12, .inl (t0.2.1.2.2.1))) :: some (a 11, .inl (K.2.1, 12, .inl (t0.2.1.2.2.2))) :: some (a 12, .inr (2, [.ref (a 13), .int (t0.2.2.1.2)])) :: some (a 13, .inl (K.2.1, 12, .inl (t0.2.2.1.1))) :: some (a 14, .inr (3, [.ref (a 15), .int (t0.2.2.2.1.2.1), .int (t0.2.2.2.1.2.2)])) :: some (a 15, .inl (K.2.2, 6, .inr (.inr (.inr (.inr (rgf [a 16, a 22, a 28, a 34, a 40, a 46])))))) :: some (a 16, .inr (1, [.ref (a 17), .ref (a 18), .ref (a 19), .ref (a 20), .ref (a 21), .int (t0.2.2.2.1.1.1.2.2.2.2.2)])) :: some (a 17, .inl (K.2.1, 96, .inl (t0.2.2.2.1.1.1.1))) :: some (a 18, .inl (K.2.1, 12, .inl (t0.2.2.2.1.1.1.2.1))) :: some (a 19, .inl (K.2.1, 12, .inl (t0.2.2.2.1.1.1.2.2.1))) :: some (a 20, .inl (K.2.1, 12, .inl (t0.2.2.2.1.1.1.2.2.2.1))) :: some (a 21, .inl (K.2.1, 21, .inl (t0.2.2.2.1.1.1.2.2.2.2.1))) :: some (a 22, .inr (1, [.ref (a 23), .ref (a 24), .ref (a 25), .ref (a 26), .ref (a 27), .int (t0.2.2.2.1.1.2.1.2.2.2.2.2)])) :: some (a 23, .inl (K.2.1, 96, .inl (t0.2.2.2.1.1.2.1.1))) :: some (a 24, .inl (K.2.1, 12, .inl (t0.2.2.2.1.1.2.1.2.1))) :: some (a 25, .inl (K.2.1, 12, .inl (t0.2.2.2.1.1.2.1.2.2.1))) :: some (a 26, .inl (K.2.1, 12, .inl (t0.2.2.2.1.1.2.1.2.2.2.1))) :: some (a 27, .inl (K.2.1, 21, .inl (t0.2.2.2.1.1.2.1.2.2.2.2.1))) :: some (a 28, .inr (1, [.ref (a 29), .ref (a 30), .ref (a 31), .ref (a 32), .ref (a 33), .int (t0.2.2.2.1.1.2.2.1.2.2.2.2.2)])) :: some (a 29, .inl (K.2.1, 96, .inl (t0.2.2.2.1.1.2.2.1.1))) :: some (a 30, .inl (K.2.1, 12, .inl (t0.2.2.2.1.1.2.2.1.2.1))) :: some (a 31, .inl (K.2.1, 12, .inl (t0.2.2.2.1.1.2.2.1.2.2.1))) :: some (a 32, .inl (K.2.1, 12, .inl (t0.2.2.2.1.1.2.2.1.2.2.2.1))) :: some (a 33, .inl (K.2.1, 21, .inl (t0.2.2.2.1.1.2.2.1.2.2.2.2.1))) :: some (a 34, .inr (1, [.ref (a 35), .ref (a 36), .ref (a 37), .ref (a 38), .ref (a 39), .int (t0.2.2.2.1.1.2.2.2.1.2.2.2.2.2)])) :: some (a 35, .inl (K.2.1, 96, .inl (t0.2.2.2.1.1.2.2.2.1.1))) :: some (a 36, .inl (K.2.1, 12, .inl (t0.2.2.2.1.1.2.2.2.1.2.1))) :: some (a 37, .inl (K.2.1, 12, .inl (t0.2.2.2.1.1.2.2.2.1.2.2.1))) :: some (a 38, .inl (K.2.1, 12, .inl (t0.2.2.2.1.1.2.2.2.1.2.2.2.1))) :: some (a 39, .inl (K.2.1, 21, .inl (t0.2.2.2.1.1.2.2.2.1.2.2.2.2.1))) :: some (a 40, .inr (1, [.ref (a 41), .ref (a 42), .ref (a 43), .ref (a 44), .ref (a 45), .int (t0.2.2.2.1.1.2.2.2.2.1.2.2.2.2.2)])) :: some (a 41, .inl (K.2.1, 96, .inl (t0.2.2.2.1.1.2.2.2.2.1.1))) :: some (a 42, .inl (K.2.1, 12, .inl (t0.2.2.2.1.1.2.2.2.2.1.2.1))) :: some (a 43, .inl (K.2.1, 12, .inl (t0.2.2.2.1.1.2.2.2.2.1.2.2.1))) :: some (a 44, .inl (K.2.1, 12, .inl (t0.2.2.2.1.1.2.2.2.2.1.2.2.2.1))) :: some (a 45, .inl (K.2.1, 21, .inl (t0.2.2.2.1.1.2.2.2.2.1.2.2.2.2.1))) :: some (a 46, .inr (1, [.ref (a 47), .ref (a 48), .ref (a 49), .ref (a 50), .ref (a 51), .int (t0.2.2.2.1.1.2.2.2.2.2.2.2.2.2.2)])) :: some (a 47, .inl (K.2.1, 96, .inl (t0.2.2.2.1.1.2.2.2.2.2.1))) :: some (a 48, .inl (K.2.1, 12, .inl (t0.2.2.2.1.1.2.2.2.2.2.2.1))) :: some (a 49, .inl (K.2.1, 12, .inl (t0.2.2.2.1.1.2.2.2.2.2.2.2.1))) :: some (a 50, .inl (K.2.1, 12, .inl (t0.2.2.2.1.1.2.2.2.2.2.2.2.2.1))) :: some (a 51, .inl (K.2.1, 21, .inl (t0.2.2.2.1.1.2.2.2.2.2.2.2.2.2.1))) :: some (a 52, .inr (5, [.ref (a 53), .ref (a 59), .ref (a 64)])) :: some (a 53, .inr (1, [.ref (a 54), .ref (a 55), .ref (a 56), .ref (a 57), .ref (a 58), .int (t0.2.2.2.2.1.1.2.2.2.2.2)])) :: some (a 54, .inl (K.2.1, 96, .inl (t0.2.2.2.2.1.1.1))) :: some (a 55, .inl (K.2.1, 12, .inl (t0.2.2.2.2.1.1.2.1))) :: some (a 56, .inl (K.2.1, 12, .inl (t0.2.2.2.2.1.1.2.2.1))) :: some (a 57, .inl (K.2.1, 12, .inl (t0.2.2.2.2.1.1.2.2.2.1))) :: some (a 58, .inl (K.2.1, 21, .inl (t0.2.2.2.2.1.1.2.2.2.2.1))) :: some (a 59, .inr (0, [.ref (a 60), .ref (a 61), .ref (a 62), .ref (a 63)])) :: some (a 60, .inl (K.2.1, 96, .inl (t0.2.2.2.2.1.2.1.1))) :: some (a 61, .inl (K.2.1, 96, .inl (t0.2.2.2.2.1.2.1.2.1))) :: some (a 62, .inl (K.2.1, 12, .inl (t0.2.2.2.2.1.2.1.2.2.1))) :: some (a 63, .inl (K.2.1, 12, .inl (t0.2.2.2.2.1.2.1.2.2.2))) :: some (a 64, .inr (2, [.ref (a 65), .int (t0.2.2.2.2.1.2.2.2)])) :: some (a 65, .inl (K.2.1, 12, .inl (t0.2.2.2.2.1.2.2.1))) :: some (a 68, .inl (K.2.1, 3, .inl (t0.2.2.2.2.2.2))) :: []) : List (Option (Nat × va_E))) from rfl).symm, rfl, by decide⟩
def fX6_type (s0 : S6) (p1 : Int32) : Option (Int32 × S6) := Option.bind (fX6_isWithin p1 (127 : Int32)) (fun r1 => (if r1 = 0 then Option.bind (fX6_refuse s0 (-2 : Int32)) (fun r2 => some (r2.1, r2.2)) else (if s0.2.2.2.2.2.1.2.1 < (120 : Int32) then Option.bind (fX4_add s0.2.2.2.2.2.1 p1) (fun r3 => some (r3.2.1, (s0.1, s0.2.1, s0.2.2.1, s0.2.2.2.1, s0.2.2.2.2.1, r3, s0.2.2.2.2.2.2))) else Option.bind (fX6_refuse s0 (-4 : Int32)) (fun r4 => some (r4.1, r4.2)))))
theorem ycX6_type : CalV yX6_type cX6_type 2 ((some .int)) 1 := ⟨mw_531, mw_61, mw_529, mw_530, ⟨by decide, by decide, by decide +kernel⟩, by decide⟩
set_option maxHeartbeats 4000000 in
set_option maxRecDepth 100000 in
theorem kX6_type (l : Launch) (K : KK) (a : Nat → Nat) (s0 : S6) (p1 : Int32) (res : Int32 × S6) (hf : fX6_type s0 p1 = some res) : Ct l K yX6_type cX6_type 2 ((some .int)) 1 [.ref (a 0), .int p1] (w6 K a s0) (some (.int res.1)) (w6 K a res.2) := by
  refine Ct_of2 (by decide) rfl (Nat.le_of_ble_eq_true rfl) ?_
  intro p e σ m args below meth c C hr
  unfold fX6_type at hf
  refine Go_iload_n (pc := 0) C dX6_type_0 rfl ?_
  refine Go_bipush (pc := 1) (v := 127) C dX6_type_1 cb_127 ?_
  obtain ⟨r1, hr1, hf⟩ := bnd hf
  refine Go_callS1 (pc := 3) (ws1 := (w6 K a s0)) C [] (kX6_isWithin l K p1 (127 : Int32) r1 hr1) ycX6_isWithin mw_272 (Nat.le_of_ble_eq_true rfl) rfl rfl (Nat.le_of_ble_eq_true rfl) ⟨Nat.zero_le _, Nat.zero_le _⟩ dX6_type_3 rfl rfl rfl (Wr_same rfl) ?_
  refine Go_if_ne (pc := 6) (tgt := 16) C dX6_type_6 (by decide) (fun hc => ?_) (fun hc => ?_)
  · replace hf := ift hc hf
    refine Go_aload_n (pc := 9) C dX6_type_9 rfl ?_
    refine Go_bipush (pc := 10) (v := -2) C dX6_type_10 cb_m2 ?_
    obtain ⟨r2, hr2, hf⟩ := bnd hf
    refine Go_callV1 (pc := 12) (ws1 := (w6 K a r2.2)) C 0 (0 :: 1 :: 2 :: 3 :: 4 :: 5 :: 6 :: 7 :: 8 :: 9 :: 10 :: 11 :: 12 :: 13 :: 14 :: 15 :: 16 :: 17 :: 18 :: 19 :: 20 :: 21 :: 22 :: 23 :: 24 :: 25 :: 26 :: 27 :: 28 :: 29 :: 30 :: 31 :: 32 :: 33 :: 34 :: 35 :: 36 :: 37 :: 38 :: 39 :: 40 :: 41 :: 42 :: 43 :: 44 :: 45 :: 46 :: 47 :: 48 :: 49 :: 50 :: 51 :: 52 :: 53 :: 54 :: 55 :: 56 :: 57 :: 58 :: 59 :: 60 :: 61 :: 62 :: 63 :: 64 :: 65 :: 66 :: 67 :: 68 :: []) (kX6_refuse l K (pk a (0 :: 1 :: 2 :: 3 :: 4 :: 5 :: 6 :: 7 :: 8 :: 9 :: 10 :: 11 :: 12 :: 13 :: 14 :: 15 :: 16 :: 17 :: 18 :: 19 :: 20 :: 21 :: 22 :: 23 :: 24 :: 25 :: 26 :: 27 :: 28 :: 29 :: 30 :: 31 :: 32 :: 33 :: 34 :: 35 :: 36 :: 37 :: 38 :: 39 :: 40 :: 41 :: 42 :: 43 :: 44 :: 45 :: 46 :: 47 :: 48 :: 49 :: 50 :: 51 :: 52 :: 53 :: 54 :: 55 :: 56 :: 57 :: 58 :: 59 :: 60 :: 61 :: 62 :: 63 :: 64 :: 65 :: 66 :: 67 :: 68 :: [])) s0 (-2 : Int32) r2 hr2) ycX6_refuse mw_278 (Nat.le_of_ble_eq_true rfl) rfl rfl rfl rfl (Nat.le_of_ble_eq_true rfl) ⟨Nat.zero_le _, Nat.zero_le _⟩ dX6_type_12 (ll_28 _ _ _) rfl rfl (ll_29 _ _ _ _) ?_
    obtain rfl := Option.some.inj hf
    exact Go_iret C hr rfl dX6_type_15
  · replace hf := iff' hc hf
    refine Go_aload_n (pc := 16) C dX6_type_16 rfl ?_
    refine Go_get (pc := 17) C 0 5 rfl rfl inX6 (by decide) mw_248 rfl dX6_type_17 ?_
    refine Go_get (pc := 20) C 66 1 rfl rfl inX4 (by decide) mw_228 rfl dX6_type_20 ?_
    refine Go_bipush (pc := 23) (v := 120) C dX6_type_23 cb_120 ?_
    refine Go_icmp_lt (pc := 25) (tgt := 35) C dX6_type_25 (by decide) (fun hc => ?_) (fun hc => ?_)
    · replace hf := ift hc hf
      refine Go_aload_n (pc := 35) C dX6_type_35 rfl ?_
      refine Go_get (pc := 36) C 0 5 rfl rfl inX6 (by decide) mw_248 rfl dX6_type_36 ?_
      refine Go_iload_n (pc := 39) C dX6_type_39 rfl ?_
      obtain ⟨r3, hr3, hf⟩ := bnd hf
      refine Go_callV0 (pc := 40) (ws1 := (w6 K a ((s0.1, s0.2.1, s0.2.2.1, s0.2.2.2.1, s0.2.2.2.2.1, r3, s0.2.2.2.2.2.2)))) C 66 [66, 67] (kX4_add l K (pk a [66, 67]) s0.2.2.2.2.2.1 p1 r3 hr3) ycX4_add mw_532 (Nat.le_of_ble_eq_true rfl) rfl rfl rfl rfl (Nat.le_of_ble_eq_true rfl) ⟨Nat.zero_le _, Nat.zero_le _⟩ dX6_type_40 (ll_92 _ _ _) rfl rfl (ll_93 _ _ _ _) ?_
      refine Go_aload_n (pc := 43) C dX6_type_43 rfl ?_
      refine Go_get (pc := 44) C 0 5 rfl rfl inX6 (by decide) mw_248 rfl dX6_type_44 ?_
      refine Go_get (pc := 47) C 66 1 rfl rfl inX4 (by decide) mw_228 rfl dX6_type_47 ?_
      obtain rfl := Option.some.inj hf
      exact Go_iret C hr rfl dX6_type_50
    · replace hf := iff' hc hf
      refine Go_aload_n (pc := 28) C dX6_type_28 rfl ?_
      refine Go_bipush (pc := 29) (v := -4) C dX6_type_29 cb_m4 ?_
      obtain ⟨r4, hr4, hf⟩ := bnd hf
      refine Go_callV1 (pc := 31) (ws1 := (w6 K a r4.2)) C 0 (0 :: 1 :: 2 :: 3 :: 4 :: 5 :: 6 :: 7 :: 8 :: 9 :: 10 :: 11 :: 12 :: 13 :: 14 :: 15 :: 16 :: 17 :: 18 :: 19 :: 20 :: 21 :: 22 :: 23 :: 24 :: 25 :: 26 :: 27 :: 28 :: 29 :: 30 :: 31 :: 32 :: 33 :: 34 :: 35 :: 36 :: 37 :: 38 :: 39 :: 40 :: 41 :: 42 :: 43 :: 44 :: 45 :: 46 :: 47 :: 48 :: 49 :: 50 :: 51 :: 52 :: 53 :: 54 :: 55 :: 56 :: 57 :: 58 :: 59 :: 60 :: 61 :: 62 :: 63 :: 64 :: 65 :: 66 :: 67 :: 68 :: []) (kX6_refuse l K (pk a (0 :: 1 :: 2 :: 3 :: 4 :: 5 :: 6 :: 7 :: 8 :: 9 :: 10 :: 11 :: 12 :: 13 :: 14 :: 15 :: 16 :: 17 :: 18 :: 19 :: 20 :: 21 :: 22 :: 23 :: 24 :: 25 :: 26 :: 27 :: 28 :: 29 :: 30 :: 31 :: 32 :: 33 :: 34 :: 35 :: 36 :: 37 :: 38 :: 39 :: 40 :: 41 :: 42 :: 43 :: 44 :: 45 :: 46 :: 47 :: 48 :: 49 :: 50 :: 51 :: 52 :: 53 :: 54 :: 55 :: 56 :: 57 :: 58 :: 59 :: 60 :: 61 :: 62 :: 63 :: 64 :: 65 :: 66 :: 67 :: 68 :: [])) s0 (-4 : Int32) r4 hr4) ycX6_refuse mw_278 (Nat.le_of_ble_eq_true rfl) rfl rfl rfl rfl (Nat.le_of_ble_eq_true rfl) ⟨Nat.zero_le _, Nat.zero_le _⟩ dX6_type_31 (ll_28 _ _ _) rfl rfl (ll_29 _ _ _ _) ?_
      obtain rfl := Option.some.inj hf
      exact Go_iret C hr rfl dX6_type_34
theorem ll_94 (K : KK) (a : Nat → Nat) (t0 : S6) (y : Int32) : List.set (w6 K a t0) 66 (a 66, .inr (4, List.set [.ref (a 67), .int (t0.2.2.2.2.2.1.2.1), .int (t0.2.2.2.2.2.1.2.2.1), .int (t0.2.2.2.2.2.1.2.2.2.1), .int (t0.2.2.2.2.2.1.2.2.2.2)] 1 (.int y))) = (w6 K a ((t0.1, t0.2.1, t0.2.2.1, t0.2.2.2.1, t0.2.2.2.2.1, (t0.2.2.2.2.2.1.1, y, t0.2.2.2.2.2.1.2.2), t0.2.2.2.2.2.2))) := rfl
def fX6_clear (s0 : S6) : Option (Int32 × S6) := some (s0.2.2.2.2.2.1.2.1, (s0.1, s0.2.1, s0.2.2.1, s0.2.2.2.1, s0.2.2.2.2.1, (s0.2.2.2.2.2.1.1, (0 : Int32), s0.2.2.2.2.2.1.2.2), s0.2.2.2.2.2.2))
theorem ycX6_clear : CalV yX6_clear cX6_clear 2 ((some .int)) 0 := ⟨mw_539, mw_61, mw_537, mw_538, ⟨by decide, by decide, by decide +kernel⟩, by decide⟩
set_option maxHeartbeats 4000000 in
set_option maxRecDepth 100000 in
theorem kX6_clear (l : Launch) (K : KK) (a : Nat → Nat) (s0 : S6) (res : Int32 × S6) (hf : fX6_clear s0 = some res) : Ct l K yX6_clear cX6_clear 2 ((some .int)) 0 [.ref (a 0)] (w6 K a s0) (some (.int res.1)) (w6 K a res.2) := by
  refine Ct_of2 (by decide) rfl (Nat.le_of_ble_eq_true rfl) ?_
  intro p e σ m args below meth c C hr
  unfold fX6_clear at hf
  refine Go_aload_n (pc := 0) C dX6_clear_0 rfl ?_
  refine Go_get (pc := 1) C 0 5 rfl rfl inX6 (by decide) mw_248 rfl dX6_clear_1 ?_
  refine Go_get (pc := 4) C 66 1 rfl rfl inX4 (by decide) mw_228 rfl dX6_clear_4 ?_
  refine Go_istore_n (pc := 7) C dX6_clear_7 (by decide) ?_
  refine Go_aload_n (pc := 8) C dX6_clear_8 rfl ?_
  refine Go_get (pc := 9) C 0 5 rfl rfl inX6 (by decide) mw_248 rfl dX6_clear_9 ?_
  refine Go_iconst (pc := 12) (v := 0) C dX6_clear_12 ci_0 ?_
  refine Go_put (pc := 13) (ws1 := (w6 K a ((s0.1, s0.2.1, s0.2.2.1, s0.2.2.2.1, s0.2.2.2.2.1, (s0.2.2.2.2.2.1.1, (0 : Int32), s0.2.2.2.2.2.1.2.2), s0.2.2.2.2.2.2)))) C 66 1 tyX4 tyX4_ok nmX4 rfl rfl inX4 (by decide) mw_228 rfl rfl (Nat.le_of_ble_eq_true rfl) dX6_clear_13 (ll_94 _ _ _ _) ?_
  refine Go_iload_n (pc := 16) C dX6_clear_16 rfl ?_
  obtain rfl := Option.some.inj hf
  exact Go_iret C hr rfl dX6_clear_17
theorem ll_118 (K : KK) (a : Nat → Nat) (t0 : S6) : ([64, 65, 12, 13] : List Nat).map (fun i => (w6 K a t0)[i]?) = List.map some (w2 K (pk a [64, 65, 12, 13]) t0.2.2.2.2.1.2.2 ++ w2 K (sh (pk a [64, 65, 12, 13]) 2) t0.2.2.1) := rfl
theorem ll_119 (K : KK) (a : Nat → Nat) (t0 : S6) (y0 : S2) : Wr (w6 K a t0) [64, 65, 12, 13] (w2 K (pk a [64, 65, 12, 13]) y0 ++ w2 K (sh (pk a [64, 65, 12, 13]) 2) t0.2.2.1) (w6 K a ((t0.1, t0.2.1, t0.2.2.1, t0.2.2.2.1, (t0.2.2.2.2.1.1, t0.2.2.2.2.1.2.1, y0), t0.2.2.2.2.2))) := ⟨(0 :: 1 :: 2 :: 3 :: 4 :: 5 :: 6 :: 7 :: 8 :: 9 :: 10 :: 11 :: 14 :: 15 :: 16 :: 17 :: 18 :: 19 :: 20 :: 21 :: 22 :: 23 :: 24 :: 25 :: 26 :: 27 :: 28 :: 29 :: 30 :: 31 :: 32 :: 33 :: 34 :: 35 :: 36 :: 37 :: 38 :: 39 :: 40 :: 41 :: 42 :: 43 :: 44 :: 45 :: 46 :: 47 :: 48 :: 49 :: 50 :: 51 :: 52 :: 53 :: 54 :: 55 :: 56 :: 57 :: 58 :: 59 :: 60 :: 61 :: 62 :: 63 :: 66 :: 67 :: 68 :: []), 69, rfl, (show List.map (fun i => (w6 K a ((t0.1, t0.2.1, t0.2.2.1, t0.2.2.2.1, (t0.2.2.2.2.1.1, t0.2.2.2.2.1.2.1, y0), t0.2.2.2.2.2)))[i]?) _ = ((some (a 0, .inr (6, [.ref (a 1), .ref (a 7), .ref (a 12), .ref (a 14), .ref (a 52), .ref (a 66), .ref (a 68)])) :: some (a 1, .inr (1, [.ref (a 2), .ref (a 3), .ref (a 4), .ref (a 5), .ref (a 6), .int (t0.1.2.2.2.2.2)])) :: some (a 2, .inl (K.2.1, 96, .inl (t0.1.1))) :: some (a 3, .inl (K.2.1, 12, .inl (t0.1.2.1))) :: some (a 4, .inl (K.2.1, 12, .inl (t0.1.2.2.1))) :: some (a 5, .inl (K.2.1, 12, .inl (t0.1.2.2.2.1))) :: some (a 6, .inl (K.2.1, 21, .inl (t0.1.2.2.2.2.1))) :: some (a 7, .inr (0, [.ref (a 8), .ref (a 9), .ref (a 10), .ref (a 11)])) :: some (a 8, .inl (K.2.1, 96, .inl (t0.2.1.1))) :: some (a 9, .inl (K.2.1, 96, .inl (t0.2.1.2.1))) :: some (a 10, .inl (K.2.1, 12, .inl (t0.2.1.2.2.1))) :: some (a 11, .inl (K.2.1, 12, .inl (t0.2.1.2.2.2))) :: some (a 14, .inr (3, [.ref (a 15), .int (t0.2.2.2.1.2.1), .int (t0.2.2.2.1.2.2)])) :: some (a 15, .inl (K.2.2, 6, .inr (.inr (.inr (.inr (rgf [a 16, a 22, a 28, a 34, a 40, a 46])))))) :: some (a 16, .inr (1, [.ref (a 17), .ref (a 18), .ref (a 19), .ref (a 20), .ref (a 21), .int (t0.2.2.2.1.1.1.2.2.2.2.2)])) :: some (a 17, .inl (K.2.1, 96, .inl (t0.2.2.2.1.1.1.1))) :: some (a 18, .inl (K.2.1, 12, .inl (t0.2.2.2.1.1.1.2.1))) :: some (a 19, .inl (K.2.1, 12, .inl (t0.2.2.2.1.1.1.2.2.1))) :: some (a 20, .inl (K.2.1, 12, .inl (t0.2.2.2.1.1.1.2.2.2.1))) :: some (a 21, .inl (K.2.1, 21, .inl (t0.2.2.2.1.1.1.2.2.2.2.1))) :: some (a 22, .inr (1, [.ref (a 23), .ref (a 24), .ref (a 25), .ref (a 26), .ref (a 27), .int (t0.2.2.2.1.1.2.1.2.2.2.2.2)])) :: some (a 23, .inl (K.2.1, 96, .inl (t0.2.2.2.1.1.2.1.1))) :: some (a 24, .inl (K.2.1, 12, .inl (t0.2.2.2.1.1.2.1.2.1))) :: some (a 25, .inl (K.2.1, 12, .inl (t0.2.2.2.1.1.2.1.2.2.1))) :: some (a 26, .inl (K.2.1, 12, .inl (t0.2.2.2.1.1.2.1.2.2.2.1))) :: some (a 27, .inl (K.2.1, 21, .inl (t0.2.2.2.1.1.2.1.2.2.2.2.1))) :: some (a 28, .inr (1, [.ref (a 29), .ref (a 30), .ref (a 31), .ref (a 32), .ref (a 33), .int (t0.2.2.2.1.1.2.2.1.2.2.2.2.2)])) :: some (a 29, .inl (K.2.1, 96, .inl (t0.2.2.2.1.1.2.2.1.1))) :: some (a 30, .inl (K.2.1, 12, .inl (t0.2.2.2.1.1.2.2.1.2.1))) :: some (a 31, .inl (K.2.1, 12, .inl (t0.2.2.2.1.1.2.2.1.2.2.1))) :: some (a 32, .inl (K.2.1, 12, .inl (t0.2.2.2.1.1.2.2.1.2.2.2.1))) :: some (a 33, .inl (K.2.1, 21, .inl (t0.2.2.2.1.1.2.2.1.2.2.2.2.1))) :: some (a 34, .inr (1, [.ref (a 35), .ref (a 36), .ref (a 37), .ref (a 38), .ref (a 39), .int (t0.2.2.2.1.1.2.2.2.1.2.2.2.2.2)])) :: some (a 35, .inl (K.2.1, 96, .inl (t0.2.2.2.1.1.2.2.2.1.1))) :: some (a 36, .inl (K.2.1, 12, .inl (t0.2.2.2.1.1.2.2.2.1.2.1))) :: some (a 37, .inl (K.2.1, 12, .inl (t0.2.2.2.1.1.2.2.2.1.2.2.1))) :: some (a 38, .inl (K.2.1, 12, .inl (t0.2.2.2.1.1.2.2.2.1.2.2.2.1))) :: some (a 39, .inl (K.2.1, 21, .inl (t0.2.2.2.1.1.2.2.2.1.2.2.2.2.1))) :: some (a 40, .inr (1, [.ref (a 41), .ref (a 42), .ref (a 43), .ref (a 44), .ref (a 45), .int (t0.2.2.2.1.1.2.2.2.2.1.2.2.2.2.2)])) :: some (a 41, .inl (K.2.1, 96, .inl (t0.2.2.2.1.1.2.2.2.2.1.1))) :: some (a 42, .inl (K.2.1, 12, .inl (t0.2.2.2.1.1.2.2.2.2.1.2.1))) :: some (a 43, .inl (K.2.1, 12, .inl (t0.2.2.2.1.1.2.2.2.2.1.2.2.1))) :: some (a 44, .inl (K.2.1, 12, .inl (t0.2.2.2.1.1.2.2.2.2.1.2.2.2.1))) :: some (a 45, .inl (K.2.1, 21, .inl (t0.2.2.2.1.1.2.2.2.2.1.2.2.2.2.1))) :: some (a 46, .inr (1, [.ref (a 47), .ref (a 48), .ref (a 49), .ref (a 50), .ref (a 51), .int (t0.2.2.2.1.1.2.2.2.2.2.2.2.2.2.2)])) :: some (a 47, .inl (K.2.1, 96, .inl (t0.2.2.2.1.1.2.2.2.2.2.1))) :: some (a 48, .inl (K.2.1, 12, .inl (t0.2.2.2.1.1.2.2.2.2.2.2.1))) :: some (a 49, .inl (K.2.1, 12, .inl (t0.2.2.2.1.1.2.2.2.2.2.2.2.1))) :: some (a 50, .inl (K.2.1, 12, .inl (t0.2.2.2.1.1.2.2.2.2.2.2.2.2.1))) :: some (a 51, .inl (K.2.1, 21, .inl (t0.2.2.2.1.1.2.2.2.2.2.2.2.2.2.1))) :: some (a 52, .inr (5, [.ref (a 53), .ref (a 59), .ref (a 64)])) :: some (a 53, .inr (1, [.ref (a 54), .ref (a 55), .ref (a 56), .ref (a 57), .ref (a 58), .int (t0.2.2.2.2.1.1.2.2.2.2.2)])) :: some (a 54, .inl (K.2.1, 96, .inl (t0.2.2.2.2.1.1.1))) :: some (a 55, .inl (K.2.1, 12, .inl (t0.2.2.2.2.1.1.2.1))) :: some (a 56, .inl (K.2.1, 12, .inl (t0.2.2.2.2.1.1.2.2.1))) :: some (a 57, .inl (K.2.1, 12, .inl (t0.2.2.2.2.1.1.2.2.2.1))) :: some (a 58, .inl (K.2.1, 21, .inl (t0.2.2.2.2.1.1.2.2.2.2.1))) :: some (a 59, .inr (0, [.ref (a 60), .ref (a 61), .ref (a 62), .ref (a 63)])) :: some (a 60, .inl (K.2.1, 96, .inl (t0.2.2.2.2.1.2.1.1))) :: some (a 61, .inl (K.2.1, 96, .inl (t0.2.2.2.2.1.2.1.2.1))) :: some (a 62, .inl (K.2.1, 12, .inl (t0.2.2.2.2.1.2.1.2.2.1))) :: some (a 63, .inl (K.2.1, 12, .inl (t0.2.2.2.2.1.2.1.2.2.2))) :: some (a 66, .inr (4, [.ref (a 67), .int (t0.2.2.2.2.2.1.2.1), .int (t0.2.2.2.2.2.1.2.2.1), .int (t0.2.2.2.2.2.1.2.2.2.1), .int (t0.2.2.2.2.2.1.2.2.2.2)])) :: some (a 67, .inl (K.2.1, 120, .inl (t0.2.2.2.2.2.1.1))) :: some (a 68, .inl (K.2.1, 3, .inl (t0.2.2.2.2.2.2))) :: []) : List (Option (Nat × va_E))) from rfl).trans (show List.map (fun i => (w6 K a t0)[i]?) _ = ((some (a 0, .inr (6, [.ref (a 1), .ref (a 7), .ref (a 12), .ref (a 14), .ref (a 52), .ref (a 66), .ref (a 68)])) :: some (a 1, .inr (1, [.ref (a 2), .ref (a 3), .ref (a 4), .ref (a 5), .ref (a 6), .int (t0.1.2.2.2.2.2)])) :: some (a 2, .inl (K.2.1, 96, .inl (t0.1.1))) :: some (a 3, .inl (K.2.1, 12, .inl (t0.1.2.1))) :: some (a 4, .inl (K.2.1, 12, .inl (t0.1.2.2.1))) :: some (a 5, .inl (K.2.1, 12, .inl (t0.1.2.2.2.1))) :: some (a 6, .inl (K.2.1, 21, .inl (t0.1.2.2.2.2.1))) :: some (a 7, .inr (0, [.ref (a 8), .ref (a 9), .ref (a 10), .ref (a 11)])) :: some (a 8, .inl (K.2.1, 96, .inl (t0.2.1.1))) :: some (a 9, .inl (K.2.1, 96, .inl (t0.2.1.2.1))) :: some (a 10, .inl (K.2.1, 12, .inl (t0.2.1.2.2.1))) :: some (a 11, .inl (K.2.1, 12, .inl (t0.2.1.2.2.2))) :: some (a 14, .inr (3, [.ref (a 15), .int (t0.2.2.2.1.2.1), .int (t0.2.2.2.1.2.2)])) :: some (a 15, .inl (K.2.2, 6, .inr (.inr (.inr (.inr (rgf [a 16, a 22, a 28, a 34, a 40, a 46])))))) :: some (a 16, .inr (1, [.ref (a 17), .ref (a 18), .ref (a 19), .ref (a 20), .ref (a 21), .int (t0.2.2.2.1.1.1.2.2.2.2.2)])) :: some (a 17, .inl (K.2.1, 96, .inl (t0.2.2.2.1.1.1.1))) :: some (a 18, .inl (K.2.1, 12, .inl (t0.2.2.2.1.1.1.2.1))) :: some (a 19, .inl (K.2.1, 12, .inl (t0.2.2.2.1.1.1.2.2.1))) :: some (a 20, .inl (K.2.1, 12, .inl (t0.2.2.2.1.1.1.2.2.2.1))) :: some (a 21, .inl (K.2.1, 21, .inl (t0.2.2.2.1.1.1.2.2.2.2.1))) :: some (a 22, .inr (1, [.ref (a 23), .ref (a 24), .ref (a 25), .ref (a 26), .ref (a 27), .int (t0.2.2.2.1.1.2.1.2.2.2.2.2)])) :: some (a 23, .inl (K.2.1, 96, .inl (t0.2.2.2.1.1.2.1.1))) :: some (a 24, .inl (K.2.1, 12, .inl (t0.2.2.2.1.1.2.1.2.1))) :: some (a 25, .inl (K.2.1, 12, .inl (t0.2.2.2.1.1.2.1.2.2.1))) :: some (a 26, .inl (K.2.1, 12, .inl (t0.2.2.2.1.1.2.1.2.2.2.1))) :: some (a 27, .inl (K.2.1, 21, .inl (t0.2.2.2.1.1.2.1.2.2.2.2.1))) :: some (a 28, .inr (1, [.ref (a 29), .ref (a 30), .ref (a 31), .ref (a 32), .ref (a 33), .int (t0.2.2.2.1.1.2.2.1.2.2.2.2.2)])) :: some (a 29, .inl (K.2.1, 96, .inl (t0.2.2.2.1.1.2.2.1.1))) :: some (a 30, .inl (K.2.1, 12, .inl (t0.2.2.2.1.1.2.2.1.2.1))) :: some (a 31, .inl (K.2.1, 12, .inl (t0.2.2.2.1.1.2.2.1.2.2.1))) :: some (a 32, .inl (K.2.1, 12, .inl (t0.2.2.2.1.1.2.2.1.2.2.2.1))) :: some (a 33, .inl (K.2.1, 21, .inl (t0.2.2.2.1.1.2.2.1.2.2.2.2.1))) :: some (a 34, .inr (1, [.ref (a 35), .ref (a 36), .ref (a 37), .ref (a 38), .ref (a 39), .int (t0.2.2.2.1.1.2.2.2.1.2.2.2.2.2)])) :: some (a 35, .inl (K.2.1, 96, .inl (t0.2.2.2.1.1.2.2.2.1.1))) :: some (a 36, .inl (K.2.1, 12, .inl (t0.2.2.2.1.1.2.2.2.1.2.1))) :: some (a 37, .inl (K.2.1, 12, .inl (t0.2.2.2.1.1.2.2.2.1.2.2.1))) :: some (a 38, .inl (K.2.1, 12, .inl (t0.2.2.2.1.1.2.2.2.1.2.2.2.1))) :: some (a 39, .inl (K.2.1, 21, .inl (t0.2.2.2.1.1.2.2.2.1.2.2.2.2.1))) :: some (a 40, .inr (1, [.ref (a 41), .ref (a 42), .ref (a 43), .ref (a 44), .ref (a 45), .int (t0.2.2.2.1.1.2.2.2.2.1.2.2.2.2.2)])) :: some (a 41, .inl (K.2.1, 96, .inl (t0.2.2.2.1.1.2.2.2.2.1.1))) :: some (a 42, .inl (K.2.1, 12, .inl (t0.2.2.2.1.1.2.2.2.2.1.2.1))) :: some (a 43, .inl (K.2.1, 12, .inl (t0.2.2.2.1.1.2.2.2.2.1.2.2.1))) :: some (a 44, .inl (K.2.1, 12, .inl (t0.2.2.2.1.1.2.2.2.2.1.2.2.2.1))) :: some (a 45, .inl (K.2.1, 21, .inl (t0.2.2.2.1.1.2.2.2.2.1.2.2.2.2.1))) :: some (a 46, .inr (1, [.ref (a 47), .ref (a 48), .ref (a 49), .ref (a 50), .ref (a 51), .int (t0.2.2.2.1.1.2.2.2.2.2.2.2.2.2.2)])) :: some (a 47, .inl (K.2.1, 96, .inl (t0.2.2.2.1.1.2.2.2.2.2.1))) :: some (a 48, .inl (K.2.1, 12, .inl (t0.2.2.2.1.1.2.2.2.2.2.2.1))) :: some (a 49, .inl (K.2.1, 12, .inl (t0.2.2.2.1.1.2.2.2.2.2.2.2.1))) :: some (a 50, .inl (K.2.1, 12, .inl (t0.2.2.2.1.1.2.2.2.2.2.2.2.2.1))) :: some (a 51, .inl (K.2.1, 21, .inl (t0.2.2.2.1.1.2.2.2.2.2.2.2.2.2.1))) :: some (a 52, .inr (5, [.ref (a 53), .ref (a 59), .ref (a 64)])) :: some (a 53, .inr (1, [.ref (a 54), .ref (a 55), .ref (a 56), .ref (a 57), .ref (a 58), .int (t0.2.2.2.2.1.1.2.2.2.2.2)])) :: some (a 54, .inl (K.2.1, 96, .inl (t0.2.2.2.2.1.1.1))) :: some (a 55, .inl (K.2.1, 12, .inl (t0.2.2.2.2.1.1.2.1))) :: some (a 56, .inl (K.2.1, 12, .inl (t0.2.2.2.2.1.1.2.2.1))) :: some (a 57, .inl (K.2.1, 12, .inl (t0.2.2.2.2.1.1.2.2.2.1))) :: some (a 58, .inl (K.2.1, 21, .inl (t0.2.2.2.2.1.1.2.2.2.2.1))) :: some (a 59, .inr (0, [.ref (a 60), .ref (a 61), .ref (a 62), .ref (a 63)])) :: some (a 60, .inl (K.2.1, 96, .inl (t0.2.2.2.2.1.2.1.1))) :: some (a 61, .inl (K.2.1, 96, .inl (t0.2.2.2.2.1.2.1.2.1))) :: some (a 62, .inl (K.2.1, 12, .inl (t0.2.2.2.2.1.2.1.2.2.1))) :: some (a 63, .inl (K.2.1, 12, .inl (t0.2.2.2.2.1.2.1.2.2.2))) :: some (a 66, .inr (4, [.ref (a 67), .int (t0.2.2.2.2.2.1.2.1), .int (t0.2.2.2.2.2.1.2.2.1), .int (t0.2.2.2.2.2.1.2.2.2.1), .int (t0.2.2.2.2.2.1.2.2.2.2)])) :: some (a 67, .inl (K.2.1, 120, .inl (t0.2.2.2.2.2.1.1))) :: some (a 68, .inl (K.2.1, 3, .inl (t0.2.2.2.2.2.2))) :: []) : List (Option (Nat × va_E))) from rfl).symm, rfl, by decide⟩
theorem ll_120 (K : KK) (a : Nat → Nat) (t0 : S6) : ((66 :: 67 :: 52 :: 53 :: 54 :: 55 :: 56 :: 57 :: 58 :: 59 :: 60 :: 61 :: 62 :: 63 :: 64 :: 65 :: []) : List Nat).map (fun i => (w6 K a t0)[i]?) = List.map some (w4 K (pk a (66 :: 67 :: 52 :: 53 :: 54 :: 55 :: 56 :: 57 :: 58 :: 59 :: 60 :: 61 :: 62 :: 63 :: 64 :: 65 :: [])) t0.2.2.2.2.2.1 ++ w5 K (sh (pk a (66 :: 67 :: 52 :: 53 :: 54 :: 55 :: 56 :: 57 :: 58 :: 59 :: 60 :: 61 :: 62 :: 63 :: 64 :: 65 :: [])) 2) t0.2.2.2.2.1) := rfl
theorem ll_121 (K : KK) (a : Nat → Nat) (t0 : S6) (y0 : S4) (y1 : S5) : Wr (w6 K a t0) (66 :: 67 :: 52 :: 53 :: 54 :: 55 :: 56 :: 57 :: 58 :: 59 :: 60 :: 61 :: 62 :: 63 :: 64 :: 65 :: []) (w4 K (pk a (66 :: 67 :: 52 :: 53 :: 54 :: 55 :: 56 :: 57 :: 58 :: 59 :: 60 :: 61 :: 62 :: 63 :: 64 :: 65 :: [])) y0 ++ w5 K (sh (pk a (66 :: 67 :: 52 :: 53 :: 54 :: 55 :: 56 :: 57 :: 58 :: 59 :: 60 :: 61 :: 62 :: 63 :: 64 :: 65 :: [])) 2) y1) (w6 K a ((t0.1, t0.2.1, t0.2.2.1, t0.2.2.2.1, y1, y0, t0.2.2.2.2.2.2))) := ⟨(0 :: 1 :: 2 :: 3 :: 4 :: 5 :: 6 :: 7 :: 8 :: 9 :: 10 :: 11 :: 12 :: 13 :: 14 :: 15 :: 16 :: 17 :: 18 :: 19 :: 20 :: 21 :: 22 :: 23 :: 24 :: 25 :: 26 :: 27 :: 28 :: 29 :: 30 :: 31 :: 32 :: 33 :: 34 :: 35 :: 36 :: 37 :: 38 :: 39 :: 40 :: 41 :: 42 :: 43 :: 44 :: 45 :: 46 :: 47 :: 48 :: 49 :: 50 :: 51 :: 68 :: []), 69, rfl, (show List.map (fun i => (w6 K a ((t0.1, t0.2.1, t0.2.2.1, t0.2.2.2.1, y1, y0, t0.2.2.2.2.2.2)))[i]?) _ = ((some (a 0, .inr (6, [.ref (a 1), .ref (a 7), .ref (a 12), .ref (a 14), .ref (a 52), .ref (a 66), .ref (a 68)])) :: some (a 1, .inr (1, [.ref (a 2), .ref (a 3), .ref (a 4), .ref (a 5), .ref (a 6), .int (t0.1.2.2.2.2.2)])) :: some (a 2, .inl (K.2.1, 96, .inl (t0.1.1))) :: some (a 3, .inl (K.2.1, 12, .inl (t0.1.2.1))) :: some (a 4, .inl (K.2.1, 12, .inl (t0.1.2.2.1))) :: some (a 5, .inl (K.2.1, 12, .inl (t0.1.2.2.2.1))) :: some (a 6, .inl (K.2.1, 21, .inl (t0.1.2.2.2.2.1))) :: some (a 7, .inr (0, [.ref (a 8), .ref (a 9), .ref (a 10), .ref (a 11)])) :: some (a 8, .inl (K.2.1, 96, .inl (t0.2.1.1))) :: some (a 9, .inl (K.2.1, 96, .inl (t0.2.1.2.1))) :: some (a 10, .inl (K.2.1, 12, .inl (t0.2.1.2.2.1))) :: some (a 11, .inl (K.2.1, 12, .inl (t0.2.1.2.2.2))) :: some (a 12, .inr (2, [.ref (a 13), .int (t0.2.2.1.2)])) :: some (a 13, .inl (K.2.1, 12, .inl (t0.2.2.1.1))) :: some (a 14, .inr (3, [.ref (a 15), .int (t0.2.2.2.1.2.1), .int (t0.2.2.2.1.2.2)])) :: some (a 15, .inl (K.2.2, 6, .inr (.inr (.inr (.inr (rgf [a 16, a 22, a 28, a 34, a 40, a 46])))))) :: some (a 16, .inr (1, [.ref (a 17), .ref (a 18), .ref (a 19), .ref (a 20), .ref (a 21), .int (t0.2.2.2.1.1.1.2.2.2.2.2)])) :: some (a 17, .inl (K.2.1, 96, .inl (t0.2.2.2.1.1.1.1))) :: some (a 18, .inl (K.2.1, 12, .inl (t0.2.2.2.1.1.1.2.1))) :: some (a 19, .inl (K.2.1, 12, .inl (t0.2.2.2.1.1.1.2.2.1))) :: some (a 20, .inl (K.2.1, 12, .inl (t0.2.2.2.1.1.1.2.2.2.1))) :: some (a 21, .inl (K.2.1, 21, .inl (t0.2.2.2.1.1.1.2.2.2.2.1))) :: some (a 22, .inr (1, [.ref (a 23), .ref (a 24), .ref (a 25), .ref (a 26), .ref (a 27), .int (t0.2.2.2.1.1.2.1.2.2.2.2.2)])) :: some (a 23, .inl (K.2.1, 96, .inl (t0.2.2.2.1.1.2.1.1))) :: some (a 24, .inl (K.2.1, 12, .inl (t0.2.2.2.1.1.2.1.2.1))) :: some (a 25, .inl (K.2.1, 12, .inl (t0.2.2.2.1.1.2.1.2.2.1))) :: some (a 26, .inl (K.2.1, 12, .inl (t0.2.2.2.1.1.2.1.2.2.2.1))) :: some (a 27, .inl (K.2.1, 21, .inl (t0.2.2.2.1.1.2.1.2.2.2.2.1))) :: some (a 28, .inr (1, [.ref (a 29), .ref (a 30), .ref (a 31), .ref (a 32), .ref (a 33), .int (t0.2.2.2.1.1.2.2.1.2.2.2.2.2)])) :: some (a 29, .inl (K.2.1, 96, .inl (t0.2.2.2.1.1.2.2.1.1))) :: some (a 30, .inl (K.2.1, 12, .inl (t0.2.2.2.1.1.2.2.1.2.1))) :: some (a 31, .inl (K.2.1, 12, .inl (t0.2.2.2.1.1.2.2.1.2.2.1))) :: some (a 32, .inl (K.2.1, 12, .inl (t0.2.2.2.1.1.2.2.1.2.2.2.1))) :: some (a 33, .inl (K.2.1, 21, .inl (t0.2.2.2.1.1.2.2.1.2.2.2.2.1))) :: some (a 34, .inr (1, [.ref (a 35), .ref (a 36), .ref (a 37), .ref (a 38), .ref (a 39), .int (t0.2.2.2.1.1.2.2.2.1.2.2.2.2.2)])) :: some (a 35, .inl (K.2.1, 96, .inl (t0.2.2.2.1.1.2.2.2.1.1))) :: some (a 36, .inl (K.2.1, 12, .inl (t0.2.2.2.1.1.2.2.2.1.2.1))) :: some (a 37, .inl (K.2.1, 12, .inl (t0.2.2.2.1.1.2.2.2.1.2.2.1))) :: some (a 38, .inl (K.2.1, 12, .inl (t0.2.2.2.1.1.2.2.2.1.2.2.2.1))) :: some (a 39, .inl (K.2.1, 21, .inl (t0.2.2.2.1.1.2.2.2.1.2.2.2.2.1))) :: some (a 40, .inr (1, [.ref (a 41), .ref (a 42), .ref (a 43), .ref (a 44), .ref (a 45), .int (t0.2.2.2.1.1.2.2.2.2.1.2.2.2.2.2)])) :: some (a 41, .inl (K.2.1, 96, .inl (t0.2.2.2.1.1.2.2.2.2.1.1))) :: some (a 42, .inl (K.2.1, 12, .inl (t0.2.2.2.1.1.2.2.2.2.1.2.1))) :: some (a 43, .inl (K.2.1, 12, .inl (t0.2.2.2.1.1.2.2.2.2.1.2.2.1))) :: some (a 44, .inl (K.2.1, 12, .inl (t0.2.2.2.1.1.2.2.2.2.1.2.2.2.1))) :: some (a 45, .inl (K.2.1, 21, .inl (t0.2.2.2.1.1.2.2.2.2.1.2.2.2.2.1))) :: some (a 46, .inr (1, [.ref (a 47), .ref (a 48), .ref (a 49), .ref (a 50), .ref (a 51), .int (t0.2.2.2.1.1.2.2.2.2.2.2.2.2.2.2)])) :: some (a 47, .inl (K.2.1, 96, .inl (t0.2.2.2.1.1.2.2.2.2.2.1))) :: some (a 48, .inl (K.2.1, 12, .inl (t0.2.2.2.1.1.2.2.2.2.2.2.1))) :: some (a 49, .inl (K.2.1, 12, .inl (t0.2.2.2.1.1.2.2.2.2.2.2.2.1))) :: some (a 50, .inl (K.2.1, 12, .inl (t0.2.2.2.1.1.2.2.2.2.2.2.2.2.1))) :: some (a 51, .inl (K.2.1, 21, .inl (t0.2.2.2.1.1.2.2.2.2.2.2.2.2.2.1))) :: some (a 68, .inl (K.2.1, 3, .inl (t0.2.2.2.2.2.2))) :: []) : List (Option (Nat × va_E))) from rfl).trans (show List.map (fun i => (w6 K a t0)[i]?) _ = ((some (a 0, .inr (6, [.ref (a 1), .ref (a 7), .ref (a 12), .ref (a 14), .ref (a 52), .ref (a 66), .ref (a 68)])) :: some (a 1, .inr (1, [.ref (a 2), .ref (a 3), .ref (a 4), .ref (a 5), .ref (a 6), .int (t0.1.2.2.2.2.2)])) :: some (a 2, .inl (K.2.1, 96, .inl (t0.1.1))) :: some (a 3, .inl (K.2.1, 12, .inl (t0.1.2.1))) :: some (a 4, .inl (K.2.1, 12, .inl (t0.1.2.2.1))) :: some (a 5, .inl (K.2.1, 12, .inl (t0.1.2.2.2.1))) :: some (a 6, .inl (K.2.1, 21, .inl (t0.1.2.2.2.2.1))) :: some (a 7, .inr (0, [.ref (a 8), .ref (a 9), .ref (a 10), .ref (a 11)])) :: some (a 8, .inl (K.2.1, 96, .inl (t0.2.1.1))) :: some (a 9, .inl (K.2.1, 96, .inl (t0.2.1.2.1))) :: some (a 10, .inl (K.2.1, 12, .inl (t0.2.1.2.2.1))) :: some (a 11, .inl (K.2.1, 12, .inl (t0.2.1.2.2.2))) :: some (a 12, .inr (2, [.ref (a 13), .int (t0.2.2.1.2)])) :: some (a 13, .inl (K.2.1, 12, .inl (t0.2.2.1.1))) :: some (a 14, .inr (3, [.ref (a 15), .int (t0.2.2.2.1.2.1), .int (t0.2.2.2.1.2.2)])) :: some (a 15, .inl (K.2.2, 6, .inr (.inr (.inr (.inr (rgf [a 16, a 22, a 28, a 34, a 40, a 46])))))) :: some (a 16, .inr (1, [.ref (a 17), .ref (a 18), .ref (a 19), .ref (a 20), .ref (a 21), .int (t0.2.2.2.1.1.1.2.2.2.2.2)])) :: some (a 17, .inl (K.2.1, 96, .inl (t0.2.2.2.1.1.1.1))) :: some (a 18, .inl (K.2.1, 12, .inl (t0.2.2.2.1.1.1.2.1))) :: some (a 19, .inl (K.2.1, 12, .inl (t0.2.2.2.1.1.1.2.2.1))) :: some (a 20, .inl (K.2.1, 12, .inl (t0.2.2.2.1.1.1.2.2.2.1))) :: some (a 21, .inl (K.2.1, 21, .inl (t0.2.2.2.1.1.1.2.2.2.2.1))) :: some (a 22, .inr (1, [.ref (a 23), .ref (a 24), .ref (a 25), .ref (a 26), .ref (a 27), .int (t0.2.2.2.1.1.2.1.2.2.2.2.2)])) :: some (a 23, .inl (K.2.1, 96, .inl (t0.2.2.2.1.1.2.1.1))) :: some (a 24, .inl (K.2.1, 12, .inl (t0.2.2.2.1.1.2.1.2.1))) :: some (a 25, .inl (K.2.1, 12, .inl (t0.2.2.2.1.1.2.1.2.2.1))) :: some (a 26, .inl (K.2.1, 12, .inl (t0.2.2.2.1.1.2.1.2.2.2.1))) :: some (a 27, .inl (K.2.1, 21, .inl (t0.2.2.2.1.1.2.1.2.2.2.2.1))) :: some (a 28, .inr (1, [.ref (a 29), .ref (a 30), .ref (a 31), .ref (a 32), .ref (a 33), .int (t0.2.2.2.1.1.2.2.1.2.2.2.2.2)])) :: some (a 29, .inl (K.2.1, 96, .inl (t0.2.2.2.1.1.2.2.1.1))) :: some (a 30, .inl (K.2.1, 12, .inl (t0.2.2.2.1.1.2.2.1.2.1))) :: some (a 31, .inl (K.2.1, 12, .inl (t0.2.2.2.1.1.2.2.1.2.2.1))) :: some (a 32, .inl (K.2.1, 12, .inl (t0.2.2.2.1.1.2.2.1.2.2.2.1))) :: some (a 33, .inl (K.2.1, 21, .inl (t0.2.2.2.1.1.2.2.1.2.2.2.2.1))) :: some (a 34, .inr (1, [.ref (a 35), .ref (a 36), .ref (a 37), .ref (a 38), .ref (a 39), .int (t0.2.2.2.1.1.2.2.2.1.2.2.2.2.2)])) :: some (a 35, .inl (K.2.1, 96, .inl (t0.2.2.2.1.1.2.2.2.1.1))) :: some (a 36, .inl (K.2.1, 12, .inl (t0.2.2.2.1.1.2.2.2.1.2.1))) :: some (a 37, .inl (K.2.1, 12, .inl (t0.2.2.2.1.1.2.2.2.1.2.2.1))) :: some (a 38, .inl (K.2.1, 12, .inl (t0.2.2.2.1.1.2.2.2.1.2.2.2.1))) :: some (a 39, .inl (K.2.1, 21, .inl (t0.2.2.2.1.1.2.2.2.1.2.2.2.2.1))) :: some (a 40, .inr (1, [.ref (a 41), .ref (a 42), .ref (a 43), .ref (a 44), .ref (a 45), .int (t0.2.2.2.1.1.2.2.2.2.1.2.2.2.2.2)])) :: some (a 41, .inl (K.2.1, 96, .inl (t0.2.2.2.1.1.2.2.2.2.1.1))) :: some (a 42, .inl (K.2.1, 12, .inl (t0.2.2.2.1.1.2.2.2.2.1.2.1))) :: some (a 43, .inl (K.2.1, 12, .inl (t0.2.2.2.1.1.2.2.2.2.1.2.2.1))) :: some (a 44, .inl (K.2.1, 12, .inl (t0.2.2.2.1.1.2.2.2.2.1.2.2.2.1))) :: some (a 45, .inl (K.2.1, 21, .inl (t0.2.2.2.1.1.2.2.2.2.1.2.2.2.2.1))) :: some (a 46, .inr (1, [.ref (a 47), .ref (a 48), .ref (a 49), .ref (a 50), .ref (a 51), .int (t0.2.2.2.1.1.2.2.2.2.2.2.2.2.2.2)])) :: some (a 47, .inl (K.2.1, 96, .inl (t0.2.2.2.1.1.2.2.2.2.2.1))) :: some (a 48, .inl (K.2.1, 12, .inl (t0.2.2.2.1.1.2.2.2.2.2.2.1))) :: some (a 49, .inl (K.2.1, 12, .inl (t0.2.2.2.1.1.2.2.2.2.2.2.2.1))) :: some (a 50, .inl (K.2.1, 12, .inl (t0.2.2.2.1.1.2.2.2.2.2.2.2.2.1))) :: some (a 51, .inl (K.2.1, 21, .inl (t0.2.2.2.1.1.2.2.2.2.2.2.2.2.2.1))) :: some (a 68, .inl (K.2.1, 3, .inl (t0.2.2.2.2.2.2))) :: []) : List (Option (Nat × va_E))) from rfl).symm, rfl, by decide⟩
theorem ll_122 (K : KK) (a : Nat → Nat) (t0 : S6) : ([1, 2, 3, 4, 5, 6, 53, 54, 55, 56, 57, 58] : List Nat).map (fun i => (w6 K a t0)[i]?) = List.map some (w1 K (pk a [1, 2, 3, 4, 5, 6, 53, 54, 55, 56, 57, 58]) t0.1 ++ w1 K (sh (pk a [1, 2, 3, 4, 5, 6, 53, 54, 55, 56, 57, 58]) 6) t0.2.2.2.2.1.1) := rfl
theorem ll_123 (K : KK) (a : Nat → Nat) (t0 : S6) (y0 : S1) : Wr (w6 K a t0) [1, 2, 3, 4, 5, 6, 53, 54, 55, 56, 57, 58] (w1 K (pk a [1, 2, 3, 4, 5, 6, 53, 54, 55, 56, 57, 58]) y0 ++ w1 K (sh (pk a [1, 2, 3, 4, 5, 6, 53, 54, 55, 56, 57, 58]) 6) t0.2.2.2.2.1.1) (w6 K a ((y0, t0.2))) := ⟨(0 :: 7 :: 8 :: 9 :: 10 :: 11 :: 12 :: 13 :: 14 :: 15 :: 16 :: 17 :: 18 :: 19 :: 20 :: 21 :: 22 :: 23 :: 24 :: 25 :: 26 :: 27 :: 28 :: 29 :: 30 :: 31 :: 32 :: 33 :: 34 :: 35 :: 36 :: 37 :: 38 :: 39 :: 40 :: 41 :: 42 :: 43 :: 44 :: 45 :: 46 :: 47 :: 48 :: 49 :: 50 :: 51 :: 52 :: 59 :: 60 :: 61 :: 62 :: 63 :: 64 :: 65 :: 66 :: 67 :: 68 :: []), 69, rfl, (show List.map (fun i => (w6 K a ((y0, t0.2)))[i]?) _ = ((some (a 0, .inr (6, [.ref (a 1), .ref (a 7), .ref (a 12), .ref (a 14), .ref (a 52), .ref (a 66), .ref (a 68)])) :: some (a 7, .inr (0, [.ref (a 8), .ref (a 9), .ref (a 10), .ref (a 11)])) :: some (a 8, .inl (K.2.1, 96, .inl (t0.2.1.1))) :: some (a 9, .inl (K.2.1, 96, .inl (t0.2.1.2.1))) :: some (a 10, .inl (K.2.1, 12, .inl (t0.2.1.2.2.1))) :: some (a 11, .inl (K.2.1, 12, .inl (t0.2.1.2.2.2))) :: some (a 12, .inr (2, [.ref (a 13), .int (t0.2.2.1.2)])) :: some (a 13, .inl (K.2.1, 12, .inl (t0.2.2.1.1))) :: some (a 14, .inr (3, [.ref (a 15), .int (t0.2.2.2.1.2.1), .int (t0.2.2.2.1.2.2)])) :: some (a 15, .inl (K.2.2, 6, .inr (.inr (.inr (.inr (rgf [a 16, a 22, a 28, a 34, a 40, a 46])))))) :: some (a 16, .inr (1, [.ref (a 17), .ref (a 18), .ref (a 19), .ref (a 20), .ref (a 21), .int (t0.2.2.2.1.1.1.2.2.2.2.2)])) :: some (a 17, .inl (K.2.1, 96, .inl (t0.2.2.2.1.1.1.1))) :: some (a 18, .inl (K.2.1, 12, .inl (t0.2.2.2.1.1.1.2.1))) :: some (a 19, .inl (K.2.1, 12, .inl (t0.2.2.2.1.1.1.2.2.1))) :: some (a 20, .inl (K.2.1, 12, .inl (t0.2.2.2.1.1.1.2.2.2.1))) :: some (a 21, .inl (K.2.1, 21, .inl (t0.2.2.2.1.1.1.2.2.2.2.1))) :: some (a 22, .inr (1, [.ref (a 23), .ref (a 24), .ref (a 25), .ref (a 26), .ref (a 27), .int (t0.2.2.2.1.1.2.1.2.2.2.2.2)])) :: some (a 23, .inl (K.2.1, 96, .inl (t0.2.2.2.1.1.2.1.1))) :: some (a 24, .inl (K.2.1, 12, .inl (t0.2.2.2.1.1.2.1.2.1))) :: some (a 25, .inl (K.2.1, 12, .inl (t0.2.2.2.1.1.2.1.2.2.1))) :: some (a 26, .inl (K.2.1, 12, .inl (t0.2.2.2.1.1.2.1.2.2.2.1))) :: some (a 27, .inl (K.2.1, 21, .inl (t0.2.2.2.1.1.2.1.2.2.2.2.1))) :: some (a 28, .inr (1, [.ref (a 29), .ref (a 30), .ref (a 31), .ref (a 32), .ref (a 33), .int (t0.2.2.2.1.1.2.2.1.2.2.2.2.2)])) :: some (a 29, .inl (K.2.1, 96, .inl (t0.2.2.2.1.1.2.2.1.1))) :: some (a 30, .inl (K.2.1, 12, .inl (t0.2.2.2.1.1.2.2.1.2.1))) :: some (a 31, .inl (K.2.1, 12, .inl (t0.2.2.2.1.1.2.2.1.2.2.1))) :: some (a 32, .inl (K.2.1, 12, .inl (t0.2.2.2.1.1.2.2.1.2.2.2.1))) :: some (a 33, .inl (K.2.1, 21, .inl (t0.2.2.2.1.1.2.2.1.2.2.2.2.1))) :: some (a 34, .inr (1, [.ref (a 35), .ref (a 36), .ref (a 37), .ref (a 38), .ref (a 39), .int (t0.2.2.2.1.1.2.2.2.1.2.2.2.2.2)])) :: some (a 35, .inl (K.2.1, 96, .inl (t0.2.2.2.1.1.2.2.2.1.1))) :: some (a 36, .inl (K.2.1, 12, .inl (t0.2.2.2.1.1.2.2.2.1.2.1))) :: some (a 37, .inl (K.2.1, 12, .inl (t0.2.2.2.1.1.2.2.2.1.2.2.1))) :: some (a 38, .inl (K.2.1, 12, .inl (t0.2.2.2.1.1.2.2.2.1.2.2.2.1))) :: some (a 39, .inl (K.2.1, 21, .inl (t0.2.2.2.1.1.2.2.2.1.2.2.2.2.1))) :: some (a 40, .inr (1, [.ref (a 41), .ref (a 42), .ref (a 43), .ref (a 44), .ref (a 45), .int (t0.2.2.2.1.1.2.2.2.2.1.2.2.2.2.2)])) :: some (a 41, .inl (K.2.1, 96, .inl (t0.2.2.2.1.1.2.2.2.2.1.1))) :: some (a 42, .inl (K.2.1, 12, .inl (t0.2.2.2.1.1.2.2.2.2.1.2.1))) :: some (a 43, .inl (K.2.1, 12, .inl (t0.2.2.2.1.1.2.2.2.2.1.2.2.1))) :: some (a 44, .inl (K.2.1, 12, .inl (t0.2.2.2.1.1.2.2.2.2.1.2.2.2.1))) :: some (a 45, .inl (K.2.1, 21, .inl (t0.2.2.2.1.1.2.2.2.2.1.2.2.2.2.1))) :: some (a 46, .inr (1, [.ref (a 47), .ref (a 48), .ref (a 49), .ref (a 50), .ref (a 51), .int (t0.2.2.2.1.1.2.2.2.2.2.2.2.2.2.2)])) :: some (a 47, .inl (K.2.1, 96, .inl (t0.2.2.2.1.1.2.2.2.2.2.1))) :: some (a 48, .inl (K.2.1, 12, .inl (t0.2.2.2.1.1.2.2.2.2.2.2.1))) :: some (a 49, .inl (K.2.1, 12, .inl (t0.2.2.2.1.1.2.2.2.2.2.2.2.1))) :: some (a 50, .inl (K.2.1, 12, .inl (t0.2.2.2.1.1.2.2.2.2.2.2.2.2.1))) :: some (a 51, .inl (K.2.1, 21, .inl (t0.2.2.2.1.1.2.2.2.2.2.2.2.2.2.1))) :: some (a 52, .inr (5, [.ref (a 53), .ref (a 59), .ref (a 64)])) :: some (a 59, .inr (0, [.ref (a 60), .ref (a 61), .ref (a 62), .ref (a 63)])) :: some (a 60, .inl (K.2.1, 96, .inl (t0.2.2.2.2.1.2.1.1))) :: some (a 61, .inl (K.2.1, 96, .inl (t0.2.2.2.2.1.2.1.2.1))) :: some (a 62, .inl (K.2.1, 12, .inl (t0.2.2.2.2.1.2.1.2.2.1))) :: some (a 63, .inl (K.2.1, 12, .inl (t0.2.2.2.2.1.2.1.2.2.2))) :: some (a 64, .inr (2, [.ref (a 65), .int (t0.2.2.2.2.1.2.2.2)])) :: some (a 65, .inl (K.2.1, 12, .inl (t0.2.2.2.2.1.2.2.1))) :: some (a 66, .inr (4, [.ref (a 67), .int (t0.2.2.2.2.2.1.2.1), .int (t0.2.2.2.2.2.1.2.2.1), .int (t0.2.2.2.2.2.1.2.2.2.1), .int (t0.2.2.2.2.2.1.2.2.2.2)])) :: some (a 67, .inl (K.2.1, 120, .inl (t0.2.2.2.2.2.1.1))) :: some (a 68, .inl (K.2.1, 3, .inl (t0.2.2.2.2.2.2))) :: []) : List (Option (Nat × va_E))) from rfl).trans (show List.map (fun i => (w6 K a t0)[i]?) _ = ((some (a 0, .inr (6, [.ref (a 1), .ref (a 7), .ref (a 12), .ref (a 14), .ref (a 52), .ref (a 66), .ref (a 68)])) :: some (a 7, .inr (0, [.ref (a 8), .ref (a 9), .ref (a 10), .ref (a 11)])) :: some (a 8, .inl (K.2.1, 96, .inl (t0.2.1.1))) :: some (a 9, .inl (K.2.1, 96, .inl (t0.2.1.2.1))) :: some (a 10, .inl (K.2.1, 12, .inl (t0.2.1.2.2.1))) :: some (a 11, .inl (K.2.1, 12, .inl (t0.2.1.2.2.2))) :: some (a 12, .inr (2, [.ref (a 13), .int (t0.2.2.1.2)])) :: some (a 13, .inl (K.2.1, 12, .inl (t0.2.2.1.1))) :: some (a 14, .inr (3, [.ref (a 15), .int (t0.2.2.2.1.2.1), .int (t0.2.2.2.1.2.2)])) :: some (a 15, .inl (K.2.2, 6, .inr (.inr (.inr (.inr (rgf [a 16, a 22, a 28, a 34, a 40, a 46])))))) :: some (a 16, .inr (1, [.ref (a 17), .ref (a 18), .ref (a 19), .ref (a 20), .ref (a 21), .int (t0.2.2.2.1.1.1.2.2.2.2.2)])) :: some (a 17, .inl (K.2.1, 96, .inl (t0.2.2.2.1.1.1.1))) :: some (a 18, .inl (K.2.1, 12, .inl (t0.2.2.2.1.1.1.2.1))) :: some (a 19, .inl (K.2.1, 12, .inl (t0.2.2.2.1.1.1.2.2.1))) :: some (a 20, .inl (K.2.1, 12, .inl (t0.2.2.2.1.1.1.2.2.2.1))) :: some (a 21, .inl (K.2.1, 21, .inl (t0.2.2.2.1.1.1.2.2.2.2.1))) :: some (a 22, .inr (1, [.ref (a 23), .ref (a 24), .ref (a 25), .ref (a 26), .ref (a 27), .int (t0.2.2.2.1.1.2.1.2.2.2.2.2)])) :: some (a 23, .inl (K.2.1, 96, .inl (t0.2.2.2.1.1.2.1.1))) :: some (a 24, .inl (K.2.1, 12, .inl (t0.2.2.2.1.1.2.1.2.1))) :: some (a 25, .inl (K.2.1, 12, .inl (t0.2.2.2.1.1.2.1.2.2.1))) :: some (a 26, .inl (K.2.1, 12, .inl (t0.2.2.2.1.1.2.1.2.2.2.1))) :: some (a 27, .inl (K.2.1, 21, .inl (t0.2.2.2.1.1.2.1.2.2.2.2.1))) :: some (a 28, .inr (1, [.ref (a 29), .ref (a 30), .ref (a 31), .ref (a 32), .ref (a 33), .int (t0.2.2.2.1.1.2.2.1.2.2.2.2.2)])) :: some (a 29, .inl (K.2.1, 96, .inl (t0.2.2.2.1.1.2.2.1.1))) :: some (a 30, .inl (K.2.1, 12, .inl (t0.2.2.2.1.1.2.2.1.2.1))) :: some (a 31, .inl (K.2.1, 12, .inl (t0.2.2.2.1.1.2.2.1.2.2.1))) :: some (a 32, .inl (K.2.1, 12, .inl (t0.2.2.2.1.1.2.2.1.2.2.2.1))) :: some (a 33, .inl (K.2.1, 21, .inl (t0.2.2.2.1.1.2.2.1.2.2.2.2.1))) :: some (a 34, .inr (1, [.ref (a 35), .ref (a 36), .ref (a 37), .ref (a 38), .ref (a 39), .int (t0.2.2.2.1.1.2.2.2.1.2.2.2.2.2)])) :: some (a 35, .inl (K.2.1, 96, .inl (t0.2.2.2.1.1.2.2.2.1.1))) :: some (a 36, .inl (K.2.1, 12, .inl (t0.2.2.2.1.1.2.2.2.1.2.1))) :: some (a 37, .inl (K.2.1, 12, .inl (t0.2.2.2.1.1.2.2.2.1.2.2.1))) :: some (a 38, .inl (K.2.1, 12, .inl (t0.2.2.2.1.1.2.2.2.1.2.2.2.1))) :: some (a 39, .inl (K.2.1, 21, .inl (t0.2.2.2.1.1.2.2.2.1.2.2.2.2.1))) :: some (a 40, .inr (1, [.ref (a 41), .ref (a 42), .ref (a 43), .ref (a 44), .ref (a 45), .int (t0.2.2.2.1.1.2.2.2.2.1.2.2.2.2.2)])) :: some (a 41, .inl (K.2.1, 96, .inl (t0.2.2.2.1.1.2.2.2.2.1.1))) :: some (a 42, .inl (K.2.1, 12, .inl (t0.2.2.2.1.1.2.2.2.2.1.2.1))) :: some (a 43, .inl (K.2.1, 12, .inl (t0.2.2.2.1.1.2.2.2.2.1.2.2.1))) :: some (a 44, .inl (K.2.1, 12, .inl (t0.2.2.2.1.1.2.2.2.2.1.2.2.2.1))) :: some (a 45, .inl (K.2.1, 21, .inl (t0.2.2.2.1.1.2.2.2.2.1.2.2.2.2.1))) :: some (a 46, .inr (1, [.ref (a 47), .ref (a 48), .ref (a 49), .ref (a 50), .ref (a 51), .int (t0.2.2.2.1.1.2.2.2.2.2.2.2.2.2.2)])) :: some (a 47, .inl (K.2.1, 96, .inl (t0.2.2.2.1.1.2.2.2.2.2.1))) :: some (a 48, .inl (K.2.1, 12, .inl (t0.2.2.2.1.1.2.2.2.2.2.2.1))) :: some (a 49, .inl (K.2.1, 12, .inl (t0.2.2.2.1.1.2.2.2.2.2.2.2.1))) :: some (a 50, .inl (K.2.1, 12, .inl (t0.2.2.2.1.1.2.2.2.2.2.2.2.2.1))) :: some (a 51, .inl (K.2.1, 21, .inl (t0.2.2.2.1.1.2.2.2.2.2.2.2.2.2.1))) :: some (a 52, .inr (5, [.ref (a 53), .ref (a 59), .ref (a 64)])) :: some (a 59, .inr (0, [.ref (a 60), .ref (a 61), .ref (a 62), .ref (a 63)])) :: some (a 60, .inl (K.2.1, 96, .inl (t0.2.2.2.2.1.2.1.1))) :: some (a 61, .inl (K.2.1, 96, .inl (t0.2.2.2.2.1.2.1.2.1))) :: some (a 62, .inl (K.2.1, 12, .inl (t0.2.2.2.2.1.2.1.2.2.1))) :: some (a 63, .inl (K.2.1, 12, .inl (t0.2.2.2.2.1.2.1.2.2.2))) :: some (a 64, .inr (2, [.ref (a 65), .int (t0.2.2.2.2.1.2.2.2)])) :: some (a 65, .inl (K.2.1, 12, .inl (t0.2.2.2.2.1.2.2.1))) :: some (a 66, .inr (4, [.ref (a 67), .int (t0.2.2.2.2.2.1.2.1), .int (t0.2.2.2.2.2.1.2.2.1), .int (t0.2.2.2.2.2.1.2.2.2.1), .int (t0.2.2.2.2.2.1.2.2.2.2)])) :: some (a 67, .inl (K.2.1, 120, .inl (t0.2.2.2.2.2.1.1))) :: some (a 68, .inl (K.2.1, 3, .inl (t0.2.2.2.2.2.2))) :: []) : List (Option (Nat × va_E))) from rfl).symm, rfl, by decide⟩
theorem ll_124 (K : KK) (a : Nat → Nat) (t0 : S6) : ([12, 13, 64, 65] : List Nat).map (fun i => (w6 K a t0)[i]?) = List.map some (w2 K (pk a [12, 13, 64, 65]) t0.2.2.1 ++ w2 K (sh (pk a [12, 13, 64, 65]) 2) t0.2.2.2.2.1.2.2) := rfl
theorem ll_125 (K : KK) (a : Nat → Nat) (t0 : S6) (y0 : S2) : Wr (w6 K a t0) [12, 13, 64, 65] (w2 K (pk a [12, 13, 64, 65]) y0 ++ w2 K (sh (pk a [12, 13, 64, 65]) 2) t0.2.2.2.2.1.2.2) (w6 K a ((t0.1, t0.2.1, y0, t0.2.2.2))) := ⟨(0 :: 1 :: 2 :: 3 :: 4 :: 5 :: 6 :: 7 :: 8 :: 9 :: 10 :: 11 :: 14 :: 15 :: 16 :: 17 :: 18 :: 19 :: 20 :: 21 :: 22 :: 23 :: 24 :: 25 :: 26 :: 27 :: 28 :: 29 :: 30 :: 31 :: 32 :: 33 :: 34 :: 35 :: 36 :: 37 :: 38 :: 39 :: 40 :: 41 :: 42 :: 43 :: 44 :: 45 :: 46 :: 47 :: 48 :: 49 :: 50 :: 51 :: 52 :: 53 :: 54 :: 55 :: 56 :: 57 :: 58 :: 59 :: 60 :: 61 :: 62 :: 63 :: 66 :: 67 :: 68 :: []), 69, rfl, (show List.map (fun i => (w6 K a ((t0.1, t0.2.1, y0, t0.2.2.2)))[i]?) _ = ((some (a 0, .inr (6, [.ref (a 1), .ref (a 7), .ref (a 12), .ref (a 14), .ref (a 52), .ref (a 66), .ref (a 68)])) :: some (a 1, .inr (1, [.ref (a 2), .ref (a 3), .ref (a 4), .ref (a 5), .ref (a 6), .int (t0.1.2.2.2.2.2)])) :: some (a 2, .inl (K.2.1, 96, .inl (t0.1.1))) :: some (a 3, .inl (K.2.1, 12, .inl (t0.1.2.1))) :: some (a 4, .inl (K.2.1, 12, .inl (t0.1.2.2.1))) :: some (a 5, .inl (K.2.1, 12, .inl (t0.1.2.2.2.1))) :: some (a 6, .inl (K.2.1, 21, .inl (t0.1.2.2.2.2.1))) :: some (a 7, .inr (0, [.ref (a 8), .ref (a 9), .ref (a 10), .ref (a 11)])) :: some (a 8, .inl (K.2.1, 96, .inl (t0.2.1.1))) :: some (a 9, .inl (K.2.1, 96, .inl (t0.2.1.2.1))) :: some (a 10, .inl (K.2.1, 12, .inl (t0.2.1.2.2.1))) :: some (a 11, .inl (K.2.1, 12, .inl (t0.2.1.2.2.2))) :: some (a 14, .inr (3, [.ref (a 15), .int (t0.2.2.2.1.2.1), .int (t0.2.2.2.1.2.2)])) :: some (a 15, .inl (K.2.2, 6, .inr (.inr (.inr (.inr (rgf [a 16, a 22, a 28, a 34, a 40, a 46])))))) :: some (a 16, .inr (1, [.ref (a 17), .ref (a 18), .ref (a 19), .ref (a 20), .ref (a 21), .int (t0.2.2.2.1.1.1.2.2.2.2.2)])) :: some (a 17, .inl (K.2.1, 96, .inl (t0.2.2.2.1.1.1.1))) :: some (a 18, .inl (K.2.1, 12, .inl (t0.2.2.2.1.1.1.2.1))) :: some (a 19, .inl (K.2.1, 12, .inl (t0.2.2.2.1.1.1.2.2.1))) :: some (a 20, .inl (K.2.1, 12, .inl (t0.2.2.2.1.1.1.2.2.2.1))) :: some (a 21, .inl (K.2.1, 21, .inl (t0.2.2.2.1.1.1.2.2.2.2.1))) :: some (a 22, .inr (1, [.ref (a 23), .ref (a 24), .ref (a 25), .ref (a 26), .ref (a 27), .int (t0.2.2.2.1.1.2.1.2.2.2.2.2)])) :: some (a 23, .inl (K.2.1, 96, .inl (t0.2.2.2.1.1.2.1.1))) :: some (a 24, .inl (K.2.1, 12, .inl (t0.2.2.2.1.1.2.1.2.1))) :: some (a 25, .inl (K.2.1, 12, .inl (t0.2.2.2.1.1.2.1.2.2.1))) :: some (a 26, .inl (K.2.1, 12, .inl (t0.2.2.2.1.1.2.1.2.2.2.1))) :: some (a 27, .inl (K.2.1, 21, .inl (t0.2.2.2.1.1.2.1.2.2.2.2.1))) :: some (a 28, .inr (1, [.ref (a 29), .ref (a 30), .ref (a 31), .ref (a 32), .ref (a 33), .int (t0.2.2.2.1.1.2.2.1.2.2.2.2.2)])) :: some (a 29, .inl (K.2.1, 96, .inl (t0.2.2.2.1.1.2.2.1.1))) :: some (a 30, .inl (K.2.1, 12, .inl (t0.2.2.2.1.1.2.2.1.2.1))) :: some (a 31, .inl (K.2.1, 12, .inl (t0.2.2.2.1.1.2.2.1.2.2.1))) :: some (a 32, .inl (K.2.1, 12, .inl (t0.2.2.2.1.1.2.2.1.2.2.2.1))) :: some (a 33, .inl (K.2.1, 21, .inl (t0.2.2.2.1.1.2.2.1.2.2.2.2.1))) :: some (a 34, .inr (1, [.ref (a 35), .ref (a 36), .ref (a 37), .ref (a 38), .ref (a 39), .int (t0.2.2.2.1.1.2.2.2.1.2.2.2.2.2)])) :: some (a 35, .inl (K.2.1, 96, .inl (t0.2.2.2.1.1.2.2.2.1.1))) :: some (a 36, .inl (K.2.1, 12, .inl (t0.2.2.2.1.1.2.2.2.1.2.1))) :: some (a 37, .inl (K.2.1, 12, .inl (t0.2.2.2.1.1.2.2.2.1.2.2.1))) :: some (a 38, .inl (K.2.1, 12, .inl (t0.2.2.2.1.1.2.2.2.1.2.2.2.1))) :: some (a 39, .inl (K.2.1, 21, .inl (t0.2.2.2.1.1.2.2.2.1.2.2.2.2.1))) :: some (a 40, .inr (1, [.ref (a 41), .ref (a 42), .ref (a 43), .ref (a 44), .ref (a 45), .int (t0.2.2.2.1.1.2.2.2.2.1.2.2.2.2.2)])) :: some (a 41, .inl (K.2.1, 96, .inl (t0.2.2.2.1.1.2.2.2.2.1.1))) :: some (a 42, .inl (K.2.1, 12, .inl (t0.2.2.2.1.1.2.2.2.2.1.2.1))) :: some (a 43, .inl (K.2.1, 12, .inl (t0.2.2.2.1.1.2.2.2.2.1.2.2.1))) :: some (a 44, .inl (K.2.1, 12, .inl (t0.2.2.2.1.1.2.2.2.2.1.2.2.2.1))) :: some (a 45, .inl (K.2.1, 21, .inl (t0.2.2.2.1.1.2.2.2.2.1.2.2.2.2.1))) :: some (a 46, .inr (1, [.ref (a 47), .ref (a 48), .ref (a 49), .ref (a 50), .ref (a 51), .int (t0.2.2.2.1.1.2.2.2.2.2.2.2.2.2.2)])) :: some (a 47, .inl (K.2.1, 96, .inl (t0.2.2.2.1.1.2.2.2.2.2.1))) :: some (a 48, .inl (K.2.1, 12, .inl (t0.2.2.2.1.1.2.2.2.2.2.2.1))) :: some (a 49, .inl (K.2.1, 12, .inl (t0.2.2.2.1.1.2.2.2.2.2.2.2.1))) :: some (a 50, .inl (K.2.1, 12, .inl (t0.2.2.2.1.1.2.2.2.2.2.2.2.2.1))) :: some (a 51, .inl (K.2.1, 21, .inl (t0.2.2.2.1.1.2.2.2.2.2.2.2.2.2.1))) :: some (a 52, .inr (5, [.ref (a 53), .ref (a 59), .ref (a 64)])) :: some (a 53, .inr (1, [.ref (a 54), .ref (a 55), .ref (a 56), .ref (a 57), .ref (a 58), .int (t0.2.2.2.2.1.1.2.2.2.2.2)])) :: some (a 54, .inl (K.2.1, 96, .inl (t0.2.2.2.2.1.1.1))) :: some (a 55, .inl (K.2.1, 12, .inl (t0.2.2.2.2.1.1.2.1))) :: some (a 56, .inl (K.2.1, 12, .inl (t0.2.2.2.2.1.1.2.2.1))) :: some (a 57, .inl (K.2.1, 12, .inl (t0.2.2.2.2.1.1.2.2.2.1))) :: some (a 58, .inl (K.2.1, 21, .inl (t0.2.2.2.2.1.1.2.2.2.2.1))) :: some (a 59, .inr (0, [.ref (a 60), .ref (a 61), .ref (a 62), .ref (a 63)])) :: some (a 60, .inl (K.2.1, 96, .inl (t0.2.2.2.2.1.2.1.1))) :: some (a 61, .inl (K.2.1, 96, .inl (t0.2.2.2.2.1.2.1.2.1))) :: some (a 62, .inl (K.2.1, 12, .inl (t0.2.2.2.2.1.2.1.2.2.1))) :: some (a 63, .inl (K.2.1, 12, .inl (t0.2.2.2.2.1.2.1.2.2.2))) :: some (a 66, .inr (4, [.ref (a 67), .int (t0.2.2.2.2.2.1.2.1), .int (t0.2.2.2.2.2.1.2.2.1), .int (t0.2.2.2.2.2.1.2.2.2.1), .int (t0.2.2.2.2.2.1.2.2.2.2)])) :: some (a 67, .inl (K.2.1, 120, .inl (t0.2.2.2.2.2.1.1))) :: some (a 68, .inl (K.2.1, 3, .inl (t0.2.2.2.2.2.2))) :: []) : List (Option (Nat × va_E))) from rfl).trans (show List.map (fun i => (w6 K a t0)[i]?) _ = ((some (a 0, .inr (6, [.ref (a 1), .ref (a 7), .ref (a 12), .ref (a 14), .ref (a 52), .ref (a 66), .ref (a 68)])) :: some (a 1, .inr (1, [.ref (a 2), .ref (a 3), .ref (a 4), .ref (a 5), .ref (a 6), .int (t0.1.2.2.2.2.2)])) :: some (a 2, .inl (K.2.1, 96, .inl (t0.1.1))) :: some (a 3, .inl (K.2.1, 12, .inl (t0.1.2.1))) :: some (a 4, .inl (K.2.1, 12, .inl (t0.1.2.2.1))) :: some (a 5, .inl (K.2.1, 12, .inl (t0.1.2.2.2.1))) :: some (a 6, .inl (K.2.1, 21, .inl (t0.1.2.2.2.2.1))) :: some (a 7, .inr (0, [.ref (a 8), .ref (a 9), .ref (a 10), .ref (a 11)])) :: some (a 8, .inl (K.2.1, 96, .inl (t0.2.1.1))) :: some (a 9, .inl (K.2.1, 96, .inl (t0.2.1.2.1))) :: some (a 10, .inl (K.2.1, 12, .inl (t0.2.1.2.2.1))) :: some (a 11, .inl (K.2.1, 12, .inl (t0.2.1.2.2.2))) :: some (a 14, .inr (3, [.ref (a 15), .int (t0.2.2.2.1.2.1), .int (t0.2.2.2.1.2.2)])) :: some (a 15, .inl (K.2.2, 6, .inr (.inr (.inr (.inr (rgf [a 16, a 22, a 28, a 34, a 40, a 46])))))) :: some (a 16, .inr (1, [.ref (a 17), .ref (a 18), .ref (a 19), .ref (a 20), .ref (a 21), .int (t0.2.2.2.1.1.1.2.2.2.2.2)])) :: some (a 17, .inl (K.2.1, 96, .inl (t0.2.2.2.1.1.1.1))) :: some (a 18, .inl (K.2.1, 12, .inl (t0.2.2.2.1.1.1.2.1))) :: some (a 19, .inl (K.2.1, 12, .inl (t0.2.2.2.1.1.1.2.2.1))) :: some (a 20, .inl (K.2.1, 12, .inl (t0.2.2.2.1.1.1.2.2.2.1))) :: some (a 21, .inl (K.2.1, 21, .inl (t0.2.2.2.1.1.1.2.2.2.2.1))) :: some (a 22, .inr (1, [.ref (a 23), .ref (a 24), .ref (a 25), .ref (a 26), .ref (a 27), .int (t0.2.2.2.1.1.2.1.2.2.2.2.2)])) :: some (a 23, .inl (K.2.1, 96, .inl (t0.2.2.2.1.1.2.1.1))) :: some (a 24, .inl (K.2.1, 12, .inl (t0.2.2.2.1.1.2.1.2.1))) :: some (a 25, .inl (K.2.1, 12, .inl (t0.2.2.2.1.1.2.1.2.2.1))) :: some (a 26, .inl (K.2.1, 12, .inl (t0.2.2.2.1.1.2.1.2.2.2.1))) :: some (a 27, .inl (K.2.1, 21, .inl (t0.2.2.2.1.1.2.1.2.2.2.2.1))) :: some (a 28, .inr (1, [.ref (a 29), .ref (a 30), .ref (a 31), .ref (a 32), .ref (a 33), .int (t0.2.2.2.1.1.2.2.1.2.2.2.2.2)])) :: some (a 29, .inl (K.2.1, 96, .inl (t0.2.2.2.1.1.2.2.1.1))) :: some (a 30, .inl (K.2.1, 12, .inl (t0.2.2.2.1.1.2.2.1.2.1))) :: some (a 31, .inl (K.2.1, 12, .inl (t0.2.2.2.1.1.2.2.1.2.2.1))) :: some (a 32, .inl (K.2.1, 12, .inl (t0.2.2.2.1.1.2.2.1.2.2.2.1))) :: some (a 33, .inl (K.2.1, 21, .inl (t0.2.2.2.1.1.2.2.1.2.2.2.2.1))) :: some (a 34, .inr (1, [.ref (a 35), .ref (a 36), .ref (a 37), .ref (a 38), .ref (a 39), .int (t0.2.2.2.1.1.2.2.2.1.2.2.2.2.2)])) :: some (a 35, .inl (K.2.1, 96, .inl (t0.2.2.2.1.1.2.2.2.1.1))) :: some (a 36, .inl (K.2.1, 12, .inl (t0.2.2.2.1.1.2.2.2.1.2.1))) :: some (a 37, .inl (K.2.1, 12, .inl (t0.2.2.2.1.1.2.2.2.1.2.2.1))) :: some (a 38, .inl (K.2.1, 12, .inl (t0.2.2.2.1.1.2.2.2.1.2.2.2.1))) :: some (a 39, .inl (K.2.1, 21, .inl (t0.2.2.2.1.1.2.2.2.1.2.2.2.2.1))) :: some (a 40, .inr (1, [.ref (a 41), .ref (a 42), .ref (a 43), .ref (a 44), .ref (a 45), .int (t0.2.2.2.1.1.2.2.2.2.1.2.2.2.2.2)])) :: some (a 41, .inl (K.2.1, 96, .inl (t0.2.2.2.1.1.2.2.2.2.1.1))) :: some (a 42, .inl (K.2.1, 12, .inl (t0.2.2.2.1.1.2.2.2.2.1.2.1))) :: some (a 43, .inl (K.2.1, 12, .inl (t0.2.2.2.1.1.2.2.2.2.1.2.2.1))) :: some (a 44, .inl (K.2.1, 12, .inl (t0.2.2.2.1.1.2.2.2.2.1.2.2.2.1))) :: some (a 45, .inl (K.2.1, 21, .inl (t0.2.2.2.1.1.2.2.2.2.1.2.2.2.2.1))) :: some (a 46, .inr (1, [.ref (a 47), .ref (a 48), .ref (a 49), .ref (a 50), .ref (a 51), .int (t0.2.2.2.1.1.2.2.2.2.2.2.2.2.2.2)])) :: some (a 47, .inl (K.2.1, 96, .inl (t0.2.2.2.1.1.2.2.2.2.2.1))) :: some (a 48, .inl (K.2.1, 12, .inl (t0.2.2.2.1.1.2.2.2.2.2.2.1))) :: some (a 49, .inl (K.2.1, 12, .inl (t0.2.2.2.1.1.2.2.2.2.2.2.2.1))) :: some (a 50, .inl (K.2.1, 12, .inl (t0.2.2.2.1.1.2.2.2.2.2.2.2.2.1))) :: some (a 51, .inl (K.2.1, 21, .inl (t0.2.2.2.1.1.2.2.2.2.2.2.2.2.2.1))) :: some (a 52, .inr (5, [.ref (a 53), .ref (a 59), .ref (a 64)])) :: some (a 53, .inr (1, [.ref (a 54), .ref (a 55), .ref (a 56), .ref (a 57), .ref (a 58), .int (t0.2.2.2.2.1.1.2.2.2.2.2)])) :: some (a 54, .inl (K.2.1, 96, .inl (t0.2.2.2.2.1.1.1))) :: some (a 55, .inl (K.2.1, 12, .inl (t0.2.2.2.2.1.1.2.1))) :: some (a 56, .inl (K.2.1, 12, .inl (t0.2.2.2.2.1.1.2.2.1))) :: some (a 57, .inl (K.2.1, 12, .inl (t0.2.2.2.2.1.1.2.2.2.1))) :: some (a 58, .inl (K.2.1, 21, .inl (t0.2.2.2.2.1.1.2.2.2.2.1))) :: some (a 59, .inr (0, [.ref (a 60), .ref (a 61), .ref (a 62), .ref (a 63)])) :: some (a 60, .inl (K.2.1, 96, .inl (t0.2.2.2.2.1.2.1.1))) :: some (a 61, .inl (K.2.1, 96, .inl (t0.2.2.2.2.1.2.1.2.1))) :: some (a 62, .inl (K.2.1, 12, .inl (t0.2.2.2.2.1.2.1.2.2.1))) :: some (a 63, .inl (K.2.1, 12, .inl (t0.2.2.2.2.1.2.1.2.2.2))) :: some (a 66, .inr (4, [.ref (a 67), .int (t0.2.2.2.2.2.1.2.1), .int (t0.2.2.2.2.2.1.2.2.1), .int (t0.2.2.2.2.2.1.2.2.2.1), .int (t0.2.2.2.2.2.1.2.2.2.2)])) :: some (a 67, .inl (K.2.1, 120, .inl (t0.2.2.2.2.2.1.1))) :: some (a 68, .inl (K.2.1, 3, .inl (t0.2.2.2.2.2.2))) :: []) : List (Option (Nat × va_E))) from rfl).symm, rfl, by decide⟩
def fX6_does (s0 : S6) : Option (Int32 × S6) := Option.bind (fX5_start s0.2.2.2.2.1 s0.1) (fun r1 => Option.bind (fX2_copy r1.2.2 s0.2.2.1) (fun r2 => Option.bind (fX4_read s0.2.2.2.2.2.1 ((r1.1, r1.2.1, r2))) (fun r3 => (if r3.1 = (-1 : Int32) then Option.bind (fX3_keep s0.2.2.2.1 s0.1) (fun r4 => Option.bind (fX1_copy s0.1 r3.2.2.1) (fun r5 => Option.bind (fX2_copy s0.2.2.1 r3.2.2.2.2) (fun r6 => Option.bind (fX1_countStanding r5) (fun r7 => some (r7, (r5, s0.2.1, r6, r4, r3.2.2, r3.2.1, s0.2.2.2.2.2.2)))))) else some ((-10 : Int32) - r3.1, (s0.1, s0.2.1, s0.2.2.1, s0.2.2.2.1, r3.2.2, r3.2.1, s0.2.2.2.2.2.2))))))
theorem ycX6_does : CalV yX6_does cX6_does 2 ((some .int)) 0 := ⟨mw_543, mw_61, mw_541, mw_542, ⟨by decide, by decide, by decide +kernel⟩, by decide⟩
set_option maxHeartbeats 4000000 in
set_option maxRecDepth 100000 in
theorem kX6_does (l : Launch) (K : KK) (a : Nat → Nat) (s0 : S6) (res : Int32 × S6) (hf : fX6_does s0 = some res) : Ct l K yX6_does cX6_does 2 ((some .int)) 7 [.ref (a 0)] (w6 K a s0) (some (.int res.1)) (w6 K a res.2) := by
  refine Ct_of2 (by decide) rfl (Nat.le_of_ble_eq_true rfl) ?_
  intro p e σ m args below meth c C hr
  unfold fX6_does at hf
  refine Go_aload_n (pc := 0) C dX6_does_0 rfl ?_
  refine Go_get (pc := 1) C 0 4 rfl rfl inX6 (by decide) mw_247 rfl dX6_does_1 ?_
  refine Go_aload_n (pc := 4) C dX6_does_4 rfl ?_
  refine Go_get (pc := 5) C 0 0 rfl rfl inX6 (by decide) mw_243 rfl dX6_does_5 ?_
  obtain ⟨r1, hr1, hf⟩ := bnd hf
  refine Go_callV0 (pc := 8) (ws1 := (w6 K a ((s0.1, s0.2.1, s0.2.2.1, s0.2.2.2.1, r1, s0.2.2.2.2.2)))) C 52 (52 :: 53 :: 54 :: 55 :: 56 :: 57 :: 58 :: 59 :: 60 :: 61 :: 62 :: 63 :: 64 :: 65 :: 1 :: 2 :: 3 :: 4 :: 5 :: 6 :: []) (kX5_start l K (pk a (52 :: 53 :: 54 :: 55 :: 56 :: 57 :: 58 :: 59 :: 60 :: 61 :: 62 :: 63 :: 64 :: 65 :: 1 :: 2 :: 3 :: 4 :: 5 :: 6 :: [])) s0.2.2.2.2.1 s0.1 r1 hr1) ycX5_start mw_498 (Nat.le_of_ble_eq_true rfl) rfl rfl rfl rfl (Nat.le_of_ble_eq_true rfl) ⟨Nat.zero_le _, Nat.zero_le _⟩ dX6_does_8 (ll_81 _ _ _) rfl rfl (ll_82 _ _ _ _) ?_
  refine Go_aload_n (pc := 11) C dX6_does_11 rfl ?_
  refine Go_get (pc := 12) C 0 4 rfl rfl inX6 (by decide) mw_247 rfl dX6_does_12 ?_
  refine Go_get (pc := 15) C 52 2 rfl rfl inX5 (by decide) mw_212 rfl dX6_does_15 ?_
  refine Go_aload_n (pc := 18) C dX6_does_18 rfl ?_
  refine Go_get (pc := 19) C 0 2 rfl rfl inX6 (by decide) mw_245 rfl dX6_does_19 ?_
  obtain ⟨r2, hr2, hf⟩ := bnd hf
  refine Go_callV0 (pc := 22) (ws1 := (w6 K a ((s0.1, s0.2.1, s0.2.2.1, s0.2.2.2.1, (r1.1, r1.2.1, r2), s0.2.2.2.2.2)))) C 64 [64, 65, 12, 13] (kX2_copy l K (pk a [64, 65, 12, 13]) r1.2.2 s0.2.2.1 r2 hr2) ycX2_copy mw_544 (Nat.le_of_ble_eq_true rfl) rfl rfl rfl rfl (Nat.le_of_ble_eq_true rfl) ⟨Nat.zero_le _, Nat.zero_le _⟩ dX6_does_22 (ll_118 _ _ _) rfl rfl (ll_119 _ _ _ _) ?_
  refine Go_aload_n (pc := 25) C dX6_does_25 rfl ?_
  refine Go_get (pc := 26) C 0 5 rfl rfl inX6 (by decide) mw_248 rfl dX6_does_26 ?_
  refine Go_aload_n (pc := 29) C dX6_does_29 rfl ?_
  refine Go_get (pc := 30) C 0 4 rfl rfl inX6 (by decide) mw_247 rfl dX6_does_30 ?_
  obtain ⟨r3, hr3, hf⟩ := bnd hf
  refine Go_callV1 (pc := 33) (ws1 := (w6 K a ((s0.1, s0.2.1, s0.2.2.1, s0.2.2.2.1, r3.2.2, r3.2.1, s0.2.2.2.2.2.2)))) C 66 (66 :: 67 :: 52 :: 53 :: 54 :: 55 :: 56 :: 57 :: 58 :: 59 :: 60 :: 61 :: 62 :: 63 :: 64 :: 65 :: []) (kX4_read l K (pk a (66 :: 67 :: 52 :: 53 :: 54 :: 55 :: 56 :: 57 :: 58 :: 59 :: 60 :: 61 :: 62 :: 63 :: 64 :: 65 :: [])) s0.2.2.2.2.2.1 ((r1.1, r1.2.1, r2)) r3 hr3) ycX4_read mw_549 (Nat.le_of_ble_eq_true rfl) rfl rfl rfl rfl (Nat.le_of_ble_eq_true rfl) ⟨Nat.zero_le _, Nat.zero_le _⟩ dX6_does_33 (ll_120 _ _ _) rfl rfl (ll_121 _ _ _ _ _) ?_
  refine Go_istore_n (pc := 36) C dX6_does_36 (by decide) ?_
  refine Go_iload_n (pc := 37) C dX6_does_37 rfl ?_
  refine Go_iconst (pc := 38) (v := -1) C dX6_does_38 ci_m1 ?_
  refine Go_icmp_eq (pc := 39) (tgt := 47) C dX6_does_39 (by decide) (fun hc => ?_) (fun hc => ?_)
  · replace hf := ift hc hf
    refine Go_aload_n (pc := 47) C dX6_does_47 rfl ?_
    refine Go_get (pc := 48) C 0 3 rfl rfl inX6 (by decide) mw_246 rfl dX6_does_48 ?_
    refine Go_aload_n (pc := 51) C dX6_does_51 rfl ?_
    refine Go_get (pc := 52) C 0 0 rfl rfl inX6 (by decide) mw_243 rfl dX6_does_52 ?_
    obtain ⟨r4, hr4, hf⟩ := bnd hf
    refine Go_callV0 (pc := 55) (ws1 := (w6 K a ((s0.1, s0.2.1, s0.2.2.1, r4, r3.2.2, r3.2.1, s0.2.2.2.2.2.2)))) C 14 (14 :: 15 :: 16 :: 17 :: 18 :: 19 :: 20 :: 21 :: 22 :: 23 :: 24 :: 25 :: 26 :: 27 :: 28 :: 29 :: 30 :: 31 :: 32 :: 33 :: 34 :: 35 :: 36 :: 37 :: 38 :: 39 :: 40 :: 41 :: 42 :: 43 :: 44 :: 45 :: 46 :: 47 :: 48 :: 49 :: 50 :: 51 :: 1 :: 2 :: 3 :: 4 :: 5 :: 6 :: []) (kX3_keep l K (pk a (14 :: 15 :: 16 :: 17 :: 18 :: 19 :: 20 :: 21 :: 22 :: 23 :: 24 :: 25 :: 26 :: 27 :: 28 :: 29 :: 30 :: 31 :: 32 :: 33 :: 34 :: 35 :: 36 :: 37 :: 38 :: 39 :: 40 :: 41 :: 42 :: 43 :: 44 :: 45 :: 46 :: 47 :: 48 :: 49 :: 50 :: 51 :: 1 :: 2 :: 3 :: 4 :: 5 :: 6 :: [])) s0.2.2.2.1 s0.1 r4 hr4) ycX3_keep mw_286 (Nat.le_of_ble_eq_true rfl) rfl rfl rfl rfl (Nat.le_of_ble_eq_true rfl) ⟨Nat.zero_le _, Nat.zero_le _⟩ dX6_does_55 (ll_31 _ _ _) rfl rfl (ll_32 _ _ _ _) ?_
    refine Go_aload_n (pc := 58) C dX6_does_58 rfl ?_
    refine Go_get (pc := 59) C 0 0 rfl rfl inX6 (by decide) mw_243 rfl dX6_does_59 ?_
    refine Go_aload_n (pc := 62) C dX6_does_62 rfl ?_
    refine Go_get (pc := 63) C 0 4 rfl rfl inX6 (by decide) mw_247 rfl dX6_does_63 ?_
    refine Go_get (pc := 66) C 52 0 rfl rfl inX5 (by decide) mw_208 rfl dX6_does_66 ?_
    obtain ⟨r5, hr5, hf⟩ := bnd hf
    refine Go_callV0 (pc := 69) (ws1 := (w6 K a ((r5, s0.2.1, s0.2.2.1, r4, r3.2.2, r3.2.1, s0.2.2.2.2.2.2)))) C 1 [1, 2, 3, 4, 5, 6, 53, 54, 55, 56, 57, 58] (kX1_copy l K (pk a [1, 2, 3, 4, 5, 6, 53, 54, 55, 56, 57, 58]) s0.1 r3.2.2.1 r5 hr5) ycX1_copy mw_600 (Nat.le_of_ble_eq_true rfl) rfl rfl rfl rfl (Nat.le_of_ble_eq_true rfl) ⟨Nat.zero_le _, Nat.zero_le _⟩ dX6_does_69 (ll_122 _ _ _) rfl rfl (ll_123 _ _ _ _) ?_
    refine Go_aload_n (pc := 72) C dX6_does_72 rfl ?_
    refine Go_get (pc := 73) C 0 2 rfl rfl inX6 (by decide) mw_245 rfl dX6_does_73 ?_
    refine Go_aload_n (pc := 76) C dX6_does_76 rfl ?_
    refine Go_get (pc := 77) C 0 4 rfl rfl inX6 (by decide) mw_247 rfl dX6_does_77 ?_
    refine Go_get (pc := 80) C 52 2 rfl rfl inX5 (by decide) mw_212 rfl dX6_does_80 ?_
    obtain ⟨r6, hr6, hf⟩ := bnd hf
    refine Go_callV0 (pc := 83) (ws1 := (w6 K a ((r5, s0.2.1, r6, r4, r3.2.2, r3.2.1, s0.2.2.2.2.2.2)))) C 12 [12, 13, 64, 65] (kX2_copy l K (pk a [12, 13, 64, 65]) s0.2.2.1 r3.2.2.2.2 r6 hr6) ycX2_copy mw_544 (Nat.le_of_ble_eq_true rfl) rfl rfl rfl rfl (Nat.le_of_ble_eq_true rfl) ⟨Nat.zero_le _, Nat.zero_le _⟩ dX6_does_83 (ll_124 _ _ _) rfl rfl (ll_125 _ _ _ _) ?_
    refine Go_aload_n (pc := 86) C dX6_does_86 rfl ?_
    refine Go_get (pc := 87) C 0 0 rfl rfl inX6 (by decide) mw_243 rfl dX6_does_87 ?_
    obtain ⟨r7, hr7, hf⟩ := bnd hf
    refine Go_callV1 (pc := 90) (ws1 := (w6 K a ((r5, s0.2.1, r6, r4, r3.2.2, r3.2.1, s0.2.2.2.2.2.2)))) C 1 [1, 2, 3, 4, 5, 6] (kX1_countStanding l K (pk a [1, 2, 3, 4, 5, 6]) r5 r7 hr7) ycX1_countStanding mw_337 (Nat.le_of_ble_eq_true rfl) rfl rfl rfl rfl (Nat.le_of_ble_eq_true rfl) ⟨Nat.zero_le _, Nat.zero_le _⟩ dX6_does_90 (ll_30 _ _ _) rfl rfl (Wr_same (ll_30 _ _ _)) ?_
    obtain rfl := Option.some.inj hf
    exact Go_iret C hr rfl dX6_does_93
  · replace hf := iff' hc hf
    refine Go_bipush (pc := 42) (v := -10) C dX6_does_42 cb_m10 ?_
    refine Go_iload_n (pc := 44) C dX6_does_44 rfl ?_
    refine Go_isub (pc := 45) C dX6_does_45 ?_
    obtain rfl := Option.some.inj hf
    exact Go_iret C hr rfl dX6_does_46
theorem ll_138 (K : KK) (a : Nat → Nat) (t0 : S6) (y0 : S3) (y1 : S1) : Wr (w6 K a t0) (14 :: 15 :: 16 :: 17 :: 18 :: 19 :: 20 :: 21 :: 22 :: 23 :: 24 :: 25 :: 26 :: 27 :: 28 :: 29 :: 30 :: 31 :: 32 :: 33 :: 34 :: 35 :: 36 :: 37 :: 38 :: 39 :: 40 :: 41 :: 42 :: 43 :: 44 :: 45 :: 46 :: 47 :: 48 :: 49 :: 50 :: 51 :: 1 :: 2 :: 3 :: 4 :: 5 :: 6 :: []) (w3 K (pk a (14 :: 15 :: 16 :: 17 :: 18 :: 19 :: 20 :: 21 :: 22 :: 23 :: 24 :: 25 :: 26 :: 27 :: 28 :: 29 :: 30 :: 31 :: 32 :: 33 :: 34 :: 35 :: 36 :: 37 :: 38 :: 39 :: 40 :: 41 :: 42 :: 43 :: 44 :: 45 :: 46 :: 47 :: 48 :: 49 :: 50 :: 51 :: 1 :: 2 :: 3 :: 4 :: 5 :: 6 :: [])) y0 ++ w1 K (sh (pk a (14 :: 15 :: 16 :: 17 :: 18 :: 19 :: 20 :: 21 :: 22 :: 23 :: 24 :: 25 :: 26 :: 27 :: 28 :: 29 :: 30 :: 31 :: 32 :: 33 :: 34 :: 35 :: 36 :: 37 :: 38 :: 39 :: 40 :: 41 :: 42 :: 43 :: 44 :: 45 :: 46 :: 47 :: 48 :: 49 :: 50 :: 51 :: 1 :: 2 :: 3 :: 4 :: 5 :: 6 :: [])) 38) y1) (w6 K a ((y1, t0.2.1, t0.2.2.1, y0, t0.2.2.2.2))) := ⟨(0 :: 7 :: 8 :: 9 :: 10 :: 11 :: 12 :: 13 :: 52 :: 53 :: 54 :: 55 :: 56 :: 57 :: 58 :: 59 :: 60 :: 61 :: 62 :: 63 :: 64 :: 65 :: 66 :: 67 :: 68 :: []), 69, rfl, (show List.map (fun i => (w6 K a ((y1, t0.2.1, t0.2.2.1, y0, t0.2.2.2.2)))[i]?) _ = ((some (a 0, .inr (6, [.ref (a 1), .ref (a 7), .ref (a 12), .ref (a 14), .ref (a 52), .ref (a 66), .ref (a 68)])) :: some (a 7, .inr (0, [.ref (a 8), .ref (a 9), .ref (a 10), .ref (a 11)])) :: some (a 8, .inl (K.2.1, 96, .inl (t0.2.1.1))) :: some (a 9, .inl (K.2.1, 96, .inl (t0.2.1.2.1))) :: some (a 10, .inl (K.2.1, 12, .inl (t0.2.1.2.2.1))) :: some (a 11, .inl (K.2.1, 12, .inl (t0.2.1.2.2.2))) :: some (a 12, .inr (2, [.ref (a 13), .int (t0.2.2.1.2)])) :: some (a 13, .inl (K.2.1, 12, .inl (t0.2.2.1.1))) :: some (a 52, .inr (5, [.ref (a 53), .ref (a 59), .ref (a 64)])) :: some (a 53, .inr (1, [.ref (a 54), .ref (a 55), .ref (a 56), .ref (a 57), .ref (a 58), .int (t0.2.2.2.2.1.1.2.2.2.2.2)])) :: some (a 54, .inl (K.2.1, 96, .inl (t0.2.2.2.2.1.1.1))) :: some (a 55, .inl (K.2.1, 12, .inl (t0.2.2.2.2.1.1.2.1))) :: some (a 56, .inl (K.2.1, 12, .inl (t0.2.2.2.2.1.1.2.2.1))) :: some (a 57, .inl (K.2.1, 12, .inl (t0.2.2.2.2.1.1.2.2.2.1))) :: some (a 58, .inl (K.2.1, 21, .inl (t0.2.2.2.2.1.1.2.2.2.2.1))) :: some (a 59, .inr (0, [.ref (a 60), .ref (a 61), .ref (a 62), .ref (a 63)])) :: some (a 60, .inl (K.2.1, 96, .inl (t0.2.2.2.2.1.2.1.1))) :: some (a 61, .inl (K.2.1, 96, .inl (t0.2.2.2.2.1.2.1.2.1))) :: some (a 62, .inl (K.2.1, 12, .inl (t0.2.2.2.2.1.2.1.2.2.1))) :: some (a 63, .inl (K.2.1, 12, .inl (t0.2.2.2.2.1.2.1.2.2.2))) :: some (a 64, .inr (2, [.ref (a 65), .int (t0.2.2.2.2.1.2.2.2)])) :: some (a 65, .inl (K.2.1, 12, .inl (t0.2.2.2.2.1.2.2.1))) :: some (a 66, .inr (4, [.ref (a 67), .int (t0.2.2.2.2.2.1.2.1), .int (t0.2.2.2.2.2.1.2.2.1), .int (t0.2.2.2.2.2.1.2.2.2.1), .int (t0.2.2.2.2.2.1.2.2.2.2)])) :: some (a 67, .inl (K.2.1, 120, .inl (t0.2.2.2.2.2.1.1))) :: some (a 68, .inl (K.2.1, 3, .inl (t0.2.2.2.2.2.2))) :: []) : List (Option (Nat × va_E))) from rfl).trans (show List.map (fun i => (w6 K a t0)[i]?) _ = ((some (a 0, .inr (6, [.ref (a 1), .ref (a 7), .ref (a 12), .ref (a 14), .ref (a 52), .ref (a 66), .ref (a 68)])) :: some (a 7, .inr (0, [.ref (a 8), .ref (a 9), .ref (a 10), .ref (a 11)])) :: some (a 8, .inl (K.2.1, 96, .inl (t0.2.1.1))) :: some (a 9, .inl (K.2.1, 96, .inl (t0.2.1.2.1))) :: some (a 10, .inl (K.2.1, 12, .inl (t0.2.1.2.2.1))) :: some (a 11, .inl (K.2.1, 12, .inl (t0.2.1.2.2.2))) :: some (a 12, .inr (2, [.ref (a 13), .int (t0.2.2.1.2)])) :: some (a 13, .inl (K.2.1, 12, .inl (t0.2.2.1.1))) :: some (a 52, .inr (5, [.ref (a 53), .ref (a 59), .ref (a 64)])) :: some (a 53, .inr (1, [.ref (a 54), .ref (a 55), .ref (a 56), .ref (a 57), .ref (a 58), .int (t0.2.2.2.2.1.1.2.2.2.2.2)])) :: some (a 54, .inl (K.2.1, 96, .inl (t0.2.2.2.2.1.1.1))) :: some (a 55, .inl (K.2.1, 12, .inl (t0.2.2.2.2.1.1.2.1))) :: some (a 56, .inl (K.2.1, 12, .inl (t0.2.2.2.2.1.1.2.2.1))) :: some (a 57, .inl (K.2.1, 12, .inl (t0.2.2.2.2.1.1.2.2.2.1))) :: some (a 58, .inl (K.2.1, 21, .inl (t0.2.2.2.2.1.1.2.2.2.2.1))) :: some (a 59, .inr (0, [.ref (a 60), .ref (a 61), .ref (a 62), .ref (a 63)])) :: some (a 60, .inl (K.2.1, 96, .inl (t0.2.2.2.2.1.2.1.1))) :: some (a 61, .inl (K.2.1, 96, .inl (t0.2.2.2.2.1.2.1.2.1))) :: some (a 62, .inl (K.2.1, 12, .inl (t0.2.2.2.2.1.2.1.2.2.1))) :: some (a 63, .inl (K.2.1, 12, .inl (t0.2.2.2.2.1.2.1.2.2.2))) :: some (a 64, .inr (2, [.ref (a 65), .int (t0.2.2.2.2.1.2.2.2)])) :: some (a 65, .inl (K.2.1, 12, .inl (t0.2.2.2.2.1.2.2.1))) :: some (a 66, .inr (4, [.ref (a 67), .int (t0.2.2.2.2.2.1.2.1), .int (t0.2.2.2.2.2.1.2.2.1), .int (t0.2.2.2.2.2.1.2.2.2.1), .int (t0.2.2.2.2.2.1.2.2.2.2)])) :: some (a 67, .inl (K.2.1, 120, .inl (t0.2.2.2.2.2.1.1))) :: some (a 68, .inl (K.2.1, 3, .inl (t0.2.2.2.2.2.2))) :: []) : List (Option (Nat × va_E))) from rfl).symm, rfl, by decide⟩
def fX6_back (s0 : S6) : Option (Int32 × S6) := (if s0.2.2.2.1.2.2 = 0 then Option.bind (fX6_refuse s0 (-3 : Int32)) (fun r1 => some (r1.1, r1.2)) else Option.bind (fX3_giveBack s0.2.2.2.1 s0.1) (fun r2 => Option.bind (fX2_forget s0.2.2.1) (fun r3 => some (r2.1.2.2, (r2.2, s0.2.1, r3, r2.1, s0.2.2.2.2)))))
theorem ycX6_back : CalV yX6_back cX6_back 1 ((some .int)) 0 := ⟨mw_604, mw_61, mw_602, mw_603, ⟨by decide, by decide, by decide +kernel⟩, by decide⟩
set_option maxHeartbeats 4000000 in
set_option maxRecDepth 100000 in
theorem kX6_back (l : Launch) (K : KK) (a : Nat → Nat) (s0 : S6) (res : Int32 × S6) (hf : fX6_back s0 = some res) : Ct l K yX6_back cX6_back 1 ((some .int)) 3 [.ref (a 0)] (w6 K a s0) (some (.int res.1)) (w6 K a res.2) := by
  refine Ct_of2 (by decide) rfl (Nat.le_of_ble_eq_true rfl) ?_
  intro p e σ m args below meth c C hr
  unfold fX6_back at hf
  refine Go_aload_n (pc := 0) C dX6_back_0 rfl ?_
  refine Go_get (pc := 1) C 0 3 rfl rfl inX6 (by decide) mw_246 rfl dX6_back_1 ?_
  refine Go_get (pc := 4) C 14 2 rfl rfl inX3 (by decide) mw_186 rfl dX6_back_4 ?_
  refine Go_if_ne (pc := 7) (tgt := 17) C dX6_back_7 (by decide) (fun hc => ?_) (fun hc => ?_)
  · replace hf := ift hc hf
    refine Go_aload_n (pc := 10) C dX6_back_10 rfl ?_
    refine Go_bipush (pc := 11) (v := -3) C dX6_back_11 cb_m3 ?_
    obtain ⟨r1, hr1, hf⟩ := bnd hf
    refine Go_callV1 (pc := 13) (ws1 := (w6 K a r1.2)) C 0 (0 :: 1 :: 2 :: 3 :: 4 :: 5 :: 6 :: 7 :: 8 :: 9 :: 10 :: 11 :: 12 :: 13 :: 14 :: 15 :: 16 :: 17 :: 18 :: 19 :: 20 :: 21 :: 22 :: 23 :: 24 :: 25 :: 26 :: 27 :: 28 :: 29 :: 30 :: 31 :: 32 :: 33 :: 34 :: 35 :: 36 :: 37 :: 38 :: 39 :: 40 :: 41 :: 42 :: 43 :: 44 :: 45 :: 46 :: 47 :: 48 :: 49 :: 50 :: 51 :: 52 :: 53 :: 54 :: 55 :: 56 :: 57 :: 58 :: 59 :: 60 :: 61 :: 62 :: 63 :: 64 :: 65 :: 66 :: 67 :: 68 :: []) (kX6_refuse l K (pk a (0 :: 1 :: 2 :: 3 :: 4 :: 5 :: 6 :: 7 :: 8 :: 9 :: 10 :: 11 :: 12 :: 13 :: 14 :: 15 :: 16 :: 17 :: 18 :: 19 :: 20 :: 21 :: 22 :: 23 :: 24 :: 25 :: 26 :: 27 :: 28 :: 29 :: 30 :: 31 :: 32 :: 33 :: 34 :: 35 :: 36 :: 37 :: 38 :: 39 :: 40 :: 41 :: 42 :: 43 :: 44 :: 45 :: 46 :: 47 :: 48 :: 49 :: 50 :: 51 :: 52 :: 53 :: 54 :: 55 :: 56 :: 57 :: 58 :: 59 :: 60 :: 61 :: 62 :: 63 :: 64 :: 65 :: 66 :: 67 :: 68 :: [])) s0 (-3 : Int32) r1 hr1) ycX6_refuse mw_278 (Nat.le_of_ble_eq_true rfl) rfl rfl rfl rfl (Nat.le_of_ble_eq_true rfl) ⟨Nat.zero_le _, Nat.zero_le _⟩ dX6_back_13 (ll_28 _ _ _) rfl rfl (ll_29 _ _ _ _) ?_
    obtain rfl := Option.some.inj hf
    exact Go_iret C hr rfl dX6_back_16
  · replace hf := iff' hc hf
    refine Go_aload_n (pc := 17) C dX6_back_17 rfl ?_
    refine Go_get (pc := 18) C 0 3 rfl rfl inX6 (by decide) mw_246 rfl dX6_back_18 ?_
    refine Go_aload_n (pc := 21) C dX6_back_21 rfl ?_
    refine Go_get (pc := 22) C 0 0 rfl rfl inX6 (by decide) mw_243 rfl dX6_back_22 ?_
    obtain ⟨r2, hr2, hf⟩ := bnd hf
    refine Go_callV0 (pc := 25) (ws1 := (w6 K a ((r2.2, s0.2.1, s0.2.2.1, r2.1, s0.2.2.2.2)))) C 14 (14 :: 15 :: 16 :: 17 :: 18 :: 19 :: 20 :: 21 :: 22 :: 23 :: 24 :: 25 :: 26 :: 27 :: 28 :: 29 :: 30 :: 31 :: 32 :: 33 :: 34 :: 35 :: 36 :: 37 :: 38 :: 39 :: 40 :: 41 :: 42 :: 43 :: 44 :: 45 :: 46 :: 47 :: 48 :: 49 :: 50 :: 51 :: 1 :: 2 :: 3 :: 4 :: 5 :: 6 :: []) (kX3_giveBack l K (pk a (14 :: 15 :: 16 :: 17 :: 18 :: 19 :: 20 :: 21 :: 22 :: 23 :: 24 :: 25 :: 26 :: 27 :: 28 :: 29 :: 30 :: 31 :: 32 :: 33 :: 34 :: 35 :: 36 :: 37 :: 38 :: 39 :: 40 :: 41 :: 42 :: 43 :: 44 :: 45 :: 46 :: 47 :: 48 :: 49 :: 50 :: 51 :: 1 :: 2 :: 3 :: 4 :: 5 :: 6 :: [])) s0.2.2.2.1 s0.1 r2 hr2) ycX3_giveBack mw_605 (Nat.le_of_ble_eq_true rfl) rfl rfl rfl rfl (Nat.le_of_ble_eq_true rfl) ⟨Nat.zero_le _, Nat.zero_le _⟩ dX6_back_25 (ll_31 _ _ _) rfl rfl (ll_138 _ _ _ _ _) ?_
    refine Go_aload_n (pc := 28) C dX6_back_28 rfl ?_
    refine Go_get (pc := 29) C 0 2 rfl rfl inX6 (by decide) mw_245 rfl dX6_back_29 ?_
    obtain ⟨r3, hr3, hf⟩ := bnd hf
    refine Go_callV0 (pc := 32) (ws1 := (w6 K a ((r2.2, s0.2.1, r3, r2.1, s0.2.2.2.2)))) C 12 [12, 13] (kX2_forget l K (pk a [12, 13]) s0.2.2.1 r3 hr3) ycX2_forget mw_336 (Nat.le_of_ble_eq_true rfl) rfl rfl rfl rfl (Nat.le_of_ble_eq_true rfl) ⟨Nat.zero_le _, Nat.zero_le _⟩ dX6_back_32 (ll_38 _ _ _) rfl rfl (ll_39 _ _ _ _) ?_
    refine Go_aload_n (pc := 35) C dX6_back_35 rfl ?_
    refine Go_get (pc := 36) C 0 3 rfl rfl inX6 (by decide) mw_246 rfl dX6_back_36 ?_
    refine Go_get (pc := 39) C 14 2 rfl rfl inX3 (by decide) mw_186 rfl dX6_back_39 ?_
    obtain rfl := Option.some.inj hf
    exact Go_iret C hr rfl dX6_back_42
theorem ll_139 (K : KK) (a : Nat → Nat) (t0 : S6) : ([6] : List Nat).map (fun i => (w6 K a t0)[i]?) = List.map some (wA K (pk a [6]) 21 t0.1.2.2.2.2.1) := rfl
def fX6_tellCount (s0 : S6) (p1 : Int32) : Option (Int32) := (if p1 = (0 : Int32) then (if 0 ≤ p1 ∧ p1.toNatClampNeg < 3 then some (s0.2.2.2.2.2.2 p1.toNatClampNeg) else none) else (if p1 = (1 : Int32) then (if 0 ≤ p1 ∧ p1.toNatClampNeg < 3 then some (s0.2.2.2.2.2.2 p1.toNatClampNeg) else none) else (if p1 = (2 : Int32) then (if 0 ≤ p1 ∧ p1.toNatClampNeg < 3 then some (s0.2.2.2.2.2.2 p1.toNatClampNeg) else none) else (if p1 = (3 : Int32) then some s0.2.2.2.2.2.1.2.1 else (if p1 = (4 : Int32) then Option.bind (fX6_sum 21 s0.1.2.2.2.2.1) (fun r1 => some r1) else some s0.2.2.2.1.2.2)))))
theorem ycX6_tellCount : CalV yX6_tellCount cX6_tellCount 2 ((some .int)) 1 := ⟨mw_616, mw_61, mw_615, mw_17, ⟨by decide, by decide, by decide +kernel⟩, by decide⟩
set_option maxHeartbeats 4000000 in
set_option maxRecDepth 100000 in
theorem kX6_tellCount (l : Launch) (K : KK) (a : Nat → Nat) (s0 : S6) (p1 : Int32) (res : Int32) (hf : fX6_tellCount s0 p1 = some res) : Ct l K yX6_tellCount cX6_tellCount 2 ((some .int)) 1 [.ref (a 0), .int p1] (w6 K a s0) (some (.int res)) (w6 K a s0) := by
  refine Ct_of2 (by decide) rfl (Nat.le_of_ble_eq_true rfl) ?_
  intro p e σ m args below meth c C hr
  unfold fX6_tellCount at hf
  refine Go_iload_n (pc := 0) C dX6_tellCount_0 rfl ?_
  by_cases hx0 : p1 = (0 : Int32)
  · replace hf := ift hx0 hf
    refine Go_tabIn (pc := 1) (tgt := 36) C dX6_tellCount_1 hx0 (by decide) (by decide) rfl (by decide) ?_
    refine Go_aload_n (pc := 36) C dX6_tellCount_36 rfl ?_
    refine Go_get (pc := 37) C 0 6 rfl rfl inX6 (by decide) mw_249 rfl dX6_tellCount_37 ?_
    refine Go_iload_n (pc := 40) C dX6_tellCount_40 rfl ?_
    obtain ⟨hb, hf⟩ := ifs hf
    refine Go_iald (pc := 41) C 68 rfl (inb_in hb) dX6_tellCount_41 ?_
    obtain rfl := Option.some.inj hf
    exact Go_iret C hr rfl dX6_tellCount_42
  replace hf := iff' hx0 hf
  by_cases hx1 : p1 = (1 : Int32)
  · replace hf := ift hx1 hf
    refine Go_tabIn (pc := 1) (tgt := 36) C dX6_tellCount_1 hx1 (by decide) (by decide) rfl (by decide) ?_
    refine Go_aload_n (pc := 36) C dX6_tellCount_36 rfl ?_
    refine Go_get (pc := 37) C 0 6 rfl rfl inX6 (by decide) mw_249 rfl dX6_tellCount_37 ?_
    refine Go_iload_n (pc := 40) C dX6_tellCount_40 rfl ?_
    obtain ⟨hb, hf⟩ := ifs hf
    refine Go_iald (pc := 41) C 68 rfl (inb_in hb) dX6_tellCount_41 ?_
    obtain rfl := Option.some.inj hf
    exact Go_iret C hr rfl dX6_tellCount_42
  replace hf := iff' hx1 hf
  by_cases hx2 : p1 = (2 : Int32)
  · replace hf := ift hx2 hf
    refine Go_tabIn (pc := 1) (tgt := 36) C dX6_tellCount_1 hx2 (by decide) (by decide) rfl (by decide) ?_
    refine Go_aload_n (pc := 36) C dX6_tellCount_36 rfl ?_
    refine Go_get (pc := 37) C 0 6 rfl rfl inX6 (by decide) mw_249 rfl dX6_tellCount_37 ?_
    refine Go_iload_n (pc := 40) C dX6_tellCount_40 rfl ?_
    obtain ⟨hb, hf⟩ := ifs hf
    refine Go_iald (pc := 41) C 68 rfl (inb_in hb) dX6_tellCount_41 ?_
    obtain rfl := Option.some.inj hf
    exact Go_iret C hr rfl dX6_tellCount_42
  replace hf := iff' hx2 hf
  by_cases hx3 : p1 = (3 : Int32)
  · replace hf := ift hx3 hf
    refine Go_tabIn (pc := 1) (tgt := 43) C dX6_tellCount_1 hx3 (by decide) (by decide) rfl (by decide) ?_
    refine Go_aload_n (pc := 43) C dX6_tellCount_43 rfl ?_
    refine Go_get (pc := 44) C 0 5 rfl rfl inX6 (by decide) mw_248 rfl dX6_tellCount_44 ?_
    refine Go_get (pc := 47) C 66 1 rfl rfl inX4 (by decide) mw_228 rfl dX6_tellCount_47 ?_
    obtain rfl := Option.some.inj hf
    exact Go_iret C hr rfl dX6_tellCount_50
  replace hf := iff' hx3 hf
  by_cases hx4 : p1 = (4 : Int32)
  · replace hf := ift hx4 hf
    refine Go_tabIn (pc := 1) (tgt := 51) C dX6_tellCount_1 hx4 (by decide) (by decide) rfl (by decide) ?_
    refine Go_aload_n (pc := 51) C dX6_tellCount_51 rfl ?_
    refine Go_get (pc := 52) C 0 0 rfl rfl inX6 (by decide) mw_243 rfl dX6_tellCount_52 ?_
    refine Go_get (pc := 55) C 1 4 rfl rfl inX1 (by decide) mw_111 rfl dX6_tellCount_55 ?_
    obtain ⟨r1, hr1, hf⟩ := bnd hf
    refine Go_callS1 (pc := 58) (ws1 := (w6 K a s0)) C [6] (kX6_sum l K (pk a [6]) 21 s0.1.2.2.2.2.1 r1 hr1) ycX6_sum mw_317 (Nat.le_of_ble_eq_true rfl) rfl rfl (Nat.le_of_ble_eq_true rfl) ⟨Nat.zero_le _, Nat.zero_le _⟩ dX6_tellCount_58 (ll_139 _ _ _) rfl rfl (Wr_same (ll_139 _ _ _)) ?_
    obtain rfl := Option.some.inj hf
    exact Go_iret C hr rfl dX6_tellCount_61
  replace hf := iff' hx4 hf
  refine Go_tabOut (pc := 1) (tgt := 62) C dX6_tellCount_1 (by have g0 := lv_neT hx0 (show ((0 : Int32)).toInt = 0 by decide); have g1 := lv_neT hx1 (show ((1 : Int32)).toInt = 1 by decide); have g2 := lv_neT hx2 (show ((2 : Int32)).toInt = 2 by decide); have g3 := lv_neT hx3 (show ((3 : Int32)).toInt = 3 by decide); have g4 := lv_neT hx4 (show ((4 : Int32)).toInt = 4 by decide); omega) (by decide) ?_
  refine Go_aload_n (pc := 62) C dX6_tellCount_62 rfl ?_
  refine Go_get (pc := 63) C 0 3 rfl rfl inX6 (by decide) mw_246 rfl dX6_tellCount_63 ?_
  refine Go_get (pc := 66) C 14 2 rfl rfl inX3 (by decide) mw_186 rfl dX6_tellCount_66 ?_
  obtain rfl := Option.some.inj hf
  exact Go_iret C hr rfl dX6_tellCount_69
def fX6_told (s0 : S6) (p1 : Int32) : Option (Int32 × S6) := Option.bind (fX6_isWithin p1 (5 : Int32)) (fun r1 => (if r1 = 0 then Option.bind (fX6_refuse s0 (-2 : Int32)) (fun r2 => some (r2.1, r2.2)) else Option.bind (fX6_tellCount s0 p1) (fun r3 => some (r3, s0))))
theorem ycX6_told : CalV yX6_told cX6_told 2 ((some .int)) 1 := ⟨mw_612, mw_61, mw_610, mw_611, ⟨by decide, by decide, by decide +kernel⟩, by decide⟩
set_option maxHeartbeats 4000000 in
set_option maxRecDepth 100000 in
theorem kX6_told (l : Launch) (K : KK) (a : Nat → Nat) (s0 : S6) (p1 : Int32) (res : Int32 × S6) (hf : fX6_told s0 p1 = some res) : Ct l K yX6_told cX6_told 2 ((some .int)) 2 [.ref (a 0), .int p1] (w6 K a s0) (some (.int res.1)) (w6 K a res.2) := by
  refine Ct_of2 (by decide) rfl (Nat.le_of_ble_eq_true rfl) ?_
  intro p e σ m args below meth c C hr
  unfold fX6_told at hf
  refine Go_iload_n (pc := 0) C dX6_told_0 rfl ?_
  refine Go_iconst (pc := 1) (v := 5) C dX6_told_1 ci_5 ?_
  obtain ⟨r1, hr1, hf⟩ := bnd hf
  refine Go_callS1 (pc := 2) (ws1 := (w6 K a s0)) C [] (kX6_isWithin l K p1 (5 : Int32) r1 hr1) ycX6_isWithin mw_272 (Nat.le_of_ble_eq_true rfl) rfl rfl (Nat.le_of_ble_eq_true rfl) ⟨Nat.zero_le _, Nat.zero_le _⟩ dX6_told_2 rfl rfl rfl (Wr_same rfl) ?_
  refine Go_if_eq (pc := 5) (tgt := 16) C dX6_told_5 (by decide) (fun hc => ?_) (fun hc => ?_)
  · replace hf := ift hc hf
    refine Go_aload_n (pc := 16) C dX6_told_16 rfl ?_
    refine Go_bipush (pc := 17) (v := -2) C dX6_told_17 cb_m2 ?_
    obtain ⟨r2, hr2, hf⟩ := bnd hf
    refine Go_callV1 (pc := 19) (ws1 := (w6 K a r2.2)) C 0 (0 :: 1 :: 2 :: 3 :: 4 :: 5 :: 6 :: 7 :: 8 :: 9 :: 10 :: 11 :: 12 :: 13 :: 14 :: 15 :: 16 :: 17 :: 18 :: 19 :: 20 :: 21 :: 22 :: 23 :: 24 :: 25 :: 26 :: 27 :: 28 :: 29 :: 30 :: 31 :: 32 :: 33 :: 34 :: 35 :: 36 :: 37 :: 38 :: 39 :: 40 :: 41 :: 42 :: 43 :: 44 :: 45 :: 46 :: 47 :: 48 :: 49 :: 50 :: 51 :: 52 :: 53 :: 54 :: 55 :: 56 :: 57 :: 58 :: 59 :: 60 :: 61 :: 62 :: 63 :: 64 :: 65 :: 66 :: 67 :: 68 :: []) (kX6_refuse l K (pk a (0 :: 1 :: 2 :: 3 :: 4 :: 5 :: 6 :: 7 :: 8 :: 9 :: 10 :: 11 :: 12 :: 13 :: 14 :: 15 :: 16 :: 17 :: 18 :: 19 :: 20 :: 21 :: 22 :: 23 :: 24 :: 25 :: 26 :: 27 :: 28 :: 29 :: 30 :: 31 :: 32 :: 33 :: 34 :: 35 :: 36 :: 37 :: 38 :: 39 :: 40 :: 41 :: 42 :: 43 :: 44 :: 45 :: 46 :: 47 :: 48 :: 49 :: 50 :: 51 :: 52 :: 53 :: 54 :: 55 :: 56 :: 57 :: 58 :: 59 :: 60 :: 61 :: 62 :: 63 :: 64 :: 65 :: 66 :: 67 :: 68 :: [])) s0 (-2 : Int32) r2 hr2) ycX6_refuse mw_278 (Nat.le_of_ble_eq_true rfl) rfl rfl rfl rfl (Nat.le_of_ble_eq_true rfl) ⟨Nat.zero_le _, Nat.zero_le _⟩ dX6_told_19 (ll_28 _ _ _) rfl rfl (ll_29 _ _ _ _) ?_
    obtain rfl := Option.some.inj hf
    exact Go_iret C hr rfl dX6_told_22
  · replace hf := iff' hc hf
    refine Go_aload_n (pc := 8) C dX6_told_8 rfl ?_
    refine Go_iload_n (pc := 9) C dX6_told_9 rfl ?_
    obtain ⟨r3, hr3, hf⟩ := bnd hf
    refine Go_callV1 (pc := 10) (ws1 := (w6 K a s0)) C 0 (0 :: 1 :: 2 :: 3 :: 4 :: 5 :: 6 :: 7 :: 8 :: 9 :: 10 :: 11 :: 12 :: 13 :: 14 :: 15 :: 16 :: 17 :: 18 :: 19 :: 20 :: 21 :: 22 :: 23 :: 24 :: 25 :: 26 :: 27 :: 28 :: 29 :: 30 :: 31 :: 32 :: 33 :: 34 :: 35 :: 36 :: 37 :: 38 :: 39 :: 40 :: 41 :: 42 :: 43 :: 44 :: 45 :: 46 :: 47 :: 48 :: 49 :: 50 :: 51 :: 52 :: 53 :: 54 :: 55 :: 56 :: 57 :: 58 :: 59 :: 60 :: 61 :: 62 :: 63 :: 64 :: 65 :: 66 :: 67 :: 68 :: []) (kX6_tellCount l K (pk a (0 :: 1 :: 2 :: 3 :: 4 :: 5 :: 6 :: 7 :: 8 :: 9 :: 10 :: 11 :: 12 :: 13 :: 14 :: 15 :: 16 :: 17 :: 18 :: 19 :: 20 :: 21 :: 22 :: 23 :: 24 :: 25 :: 26 :: 27 :: 28 :: 29 :: 30 :: 31 :: 32 :: 33 :: 34 :: 35 :: 36 :: 37 :: 38 :: 39 :: 40 :: 41 :: 42 :: 43 :: 44 :: 45 :: 46 :: 47 :: 48 :: 49 :: 50 :: 51 :: 52 :: 53 :: 54 :: 55 :: 56 :: 57 :: 58 :: 59 :: 60 :: 61 :: 62 :: 63 :: 64 :: 65 :: 66 :: 67 :: 68 :: [])) s0 p1 r3 hr3) ycX6_tellCount mw_613 (Nat.le_of_ble_eq_true rfl) rfl rfl rfl rfl (Nat.le_of_ble_eq_true rfl) ⟨Nat.zero_le _, Nat.zero_le _⟩ dX6_told_10 (ll_28 _ _ _) rfl rfl (Wr_same (ll_28 _ _ _)) ?_
    refine Go_goto (pc := 13) (tgt := 22) C dX6_told_13 (by decide) ?_
    obtain rfl := Option.some.inj hf
    exact Go_iret C hr rfl dX6_told_22
def fX6_digest_L17 (s0 : S6) (r1 : S0) (q2 : Int64 × Int32) : Option ((Int64 × Int32) ⊕ (Int64 × Int32)) := (if (5 : Int32) < q2.2 then some (.inr (q2.1, q2.2)) else Option.bind (fX6_tellCount ((s0.1, r1, s0.2.2)) q2.2) (fun r3 => Option.bind (some (((31 : Int64) * q2.1) + r3.toInt64)) (fun v4 => Option.bind (some (q2.2 + (1 : Int32))) (fun v5 => some (.inl (v4, v5))))))
def fX6_digest_L43 (s0 : S6) (r1 : S0) (q7 : Int64 × Int32) : Option ((Int64 × Int32) ⊕ (Int64 × Int32)) := (if (7 : Int32) < q7.2 then some (.inr (q7.1, q7.2)) else Option.bind (fX6_tellMine ((s0.1, r1, s0.2.2)) q7.2) (fun r8 => Option.bind (some (((31 : Int64) * q7.1) + r8.toInt64)) (fun v9 => Option.bind (some (q7.2 + (1 : Int32))) (fun v10 => some (.inl (v9, v10))))))
def fX6_digest_L84 (s0 : S6) (r1 : S0) (q12 : Int64 × Int32) (q13 : Int64 × Int32) : Option ((Int64 × Int32) ⊕ (Int64 × Int32)) := (if (4 : Int32) < q13.2 then some (.inr (q13.1, q13.2)) else Option.bind (fX6_tellPillar ((s0.1, r1, s0.2.2)) q12.2 q13.2) (fun r14 => Option.bind (some (((31 : Int64) * q13.1) + r14.toInt64)) (fun v15 => Option.bind (some (q13.2 + (1 : Int32))) (fun v16 => some (.inl (v15, v16))))))
def fX6_digest_L70 (s0 : S6) (r1 : S0) (q12 : Int64 × Int32) : Option ((Int64 × Int32) ⊕ (Int64 × Int32)) := (if s0.1.2.2.2.2.2 ≤ q12.2 then some (.inr (q12.1, q12.2)) else Option.bind (loopF (fX6_digest_L84 s0 r1 q12) 5000 (q12.1, (0 : Int32))) (fun z17 => Option.bind (some (q12.2 + (1 : Int32))) (fun v18 => some (.inl (z17.1, v18)))))
def fX6_digest_L119 (s0 : S6) (q20 : Int64 × Int32) : Option ((Int64 × Int32) ⊕ (Int64 × Int32)) := (if (96 : Int32) ≤ q20.2 then some (.inr (q20.1, q20.2)) else (if 0 ≤ q20.2 ∧ q20.2.toNatClampNeg < 96 then Option.bind (some (((31 : Int64) * q20.1) + ((s0.1.1 q20.2.toNatClampNeg).toInt64))) (fun v21 => Option.bind (some (q20.2 + (1 : Int32))) (fun v22 => some (.inl (v21, v22)))) else none))
def fX6_digest (s0 : S6) : Option (Int64 × S6) := Option.bind (fX0_lay s0.2.1 s0.1) (fun r1 => Option.bind (loopF (fX6_digest_L17 s0 r1) 5000 ((2153 : Int64), (0 : Int32))) (fun z6 => Option.bind (loopF (fX6_digest_L43 s0 r1) 5000 (z6.1, (0 : Int32))) (fun z11 => Option.bind (loopF (fX6_digest_L70 s0 r1) 5000 (z11.1, (0 : Int32))) (fun z19 => Option.bind (loopF (fX6_digest_L119 s0) 5000 (z19.1, (0 : Int32))) (fun z23 => some (z23.1, (s0.1, r1, s0.2.2)))))))
theorem ycX6_digest : CalV yX6_digest cX6_digest 5 ((some .long)) 0 := ⟨mw_620, mw_61, mw_618, mw_619, ⟨by decide, by decide, by decide +kernel⟩, by decide⟩
set_option maxHeartbeats 4000000 in
set_option maxRecDepth 100000 in
theorem kX6_digest (l : Launch) (K : KK) (a : Nat → Nat) (s0 : S6) (res : Int64 × S6) (hf : fX6_digest s0 = some res) : Ct l K yX6_digest cX6_digest 5 ((some .long)) 4 [.ref (a 0)] (w6 K a s0) (some (.long res.1)) (w6 K a res.2) := by
  refine Ct_of2 (by decide) rfl (Nat.le_of_ble_eq_true rfl) ?_
  intro p e σ m args below meth c C hr
  unfold fX6_digest at hf
  refine Go_aload_n (pc := 0) C dX6_digest_0 rfl ?_
  refine Go_get (pc := 1) C 0 1 rfl rfl inX6 (by decide) mw_244 rfl dX6_digest_1 ?_
  refine Go_aload_n (pc := 4) C dX6_digest_4 rfl ?_
  refine Go_get (pc := 5) C 0 0 rfl rfl inX6 (by decide) mw_243 rfl dX6_digest_5 ?_
  obtain ⟨r1, hr1, hf⟩ := bnd hf
  refine Go_callV0 (pc := 8) (ws1 := (w6 K a ((s0.1, r1, s0.2.2)))) C 7 [7, 8, 9, 10, 11, 1, 2, 3, 4, 5, 6] (kX0_lay l K (pk a [7, 8, 9, 10, 11, 1, 2, 3, 4, 5, 6]) s0.2.1 s0.1 r1 hr1) ycX0_lay mw_350 (Nat.le_of_ble_eq_true rfl) rfl rfl rfl rfl (Nat.le_of_ble_eq_true rfl) ⟨Nat.zero_le _, Nat.zero_le _⟩ dX6_digest_8 (ll_57 _ _ _) rfl rfl (ll_58 _ _ _ _) ?_
  refine Go_ldc2 (pc := 11) (v := 2153) C mw_621 dX6_digest_11 ?_
  refine Go_lstore_n (pc := 14) C dX6_digest_14 (by decide) ?_
  refine Go_iconst (pc := 15) (v := 0) C dX6_digest_15 ci_0 ?_
  refine Go_istore_n (pc := 16) C dX6_digest_16 (by decide) ?_
  obtain ⟨z6, hz6, hf⟩ := bnd hf
  refine Go_mask [true, true, false, true, false] ?_
  refine loopF_go (step := (fX6_digest_L17 s0 r1)) (fun q2 => Go p l e (rmc 4 0 0) σ m args below meth c K (inW (w6 K a s0)) σ.heap 5 0 0 (MQ below (CtQ K (w6 K a s0) (some (.long res.1)) (w6 K a res.2)) args σ 0 0 (inW (w6 K a s0))) (w6 K a ((s0.1, r1, s0.2.2))) 17 [some (.ref (a 0)), some (.long q2.1), none, some (.int q2.2), none] []) (fun z6 => Go p l e (rmc 4 0 0) σ m args below meth c K (inW (w6 K a s0)) σ.heap 5 0 0 (MQ below (CtQ K (w6 K a s0) (some (.long res.1)) (w6 K a res.2)) args σ 0 0 (inW (w6 K a s0))) (w6 K a ((s0.1, r1, s0.2.2))) 41 [some (.ref (a 0)), some (.long z6.1), none, some (.int z6.2), none] []) ?_ _ _ _ hz6 ?_
  · intro q2 x hf hk
    unfold fX6_digest_L17 at hf
    refine Go_iload_n (pc := 17) C dX6_digest_17 rfl ?_
    refine Go_iconst (pc := 18) (v := 5) C dX6_digest_18 ci_5 ?_
    refine Go_icmp_gt (pc := 19) (tgt := 41) C dX6_digest_19 (by decide) (fun hc => ?_) (fun hc => ?_)
    · replace hf := ift hc hf
      obtain rfl := Option.some.inj hf
      exact Go_mask [true, true, false, true, false] hk
    · replace hf := iff' hc hf
      refine Go_ldc2 (pc := 22) (v := 31) C mw_622 dX6_digest_22 ?_
      refine Go_lload_n (pc := 25) C dX6_digest_25 rfl ?_
      refine Go_lmul (pc := 26) C dX6_digest_26 ?_
      refine Go_aload_n (pc := 27) C dX6_digest_27 rfl ?_
      refine Go_iload_n (pc := 28) C dX6_digest_28 rfl ?_
      obtain ⟨r3, hr3, hf⟩ := bnd hf
      refine Go_callV1 (pc := 29) (ws1 := (w6 K a ((s0.1, r1, s0.2.2)))) C 0 (0 :: 1 :: 2 :: 3 :: 4 :: 5 :: 6 :: 7 :: 8 :: 9 :: 10 :: 11 :: 12 :: 13 :: 14 :: 15 :: 16 :: 17 :: 18 :: 19 :: 20 :: 21 :: 22 :: 23 :: 24 :: 25 :: 26 :: 27 :: 28 :: 29 :: 30 :: 31 :: 32 :: 33 :: 34 :: 35 :: 36 :: 37 :: 38 :: 39 :: 40 :: 41 :: 42 :: 43 :: 44 :: 45 :: 46 :: 47 :: 48 :: 49 :: 50 :: 51 :: 52 :: 53 :: 54 :: 55 :: 56 :: 57 :: 58 :: 59 :: 60 :: 61 :: 62 :: 63 :: 64 :: 65 :: 66 :: 67 :: 68 :: []) (kX6_tellCount l K (pk a (0 :: 1 :: 2 :: 3 :: 4 :: 5 :: 6 :: 7 :: 8 :: 9 :: 10 :: 11 :: 12 :: 13 :: 14 :: 15 :: 16 :: 17 :: 18 :: 19 :: 20 :: 21 :: 22 :: 23 :: 24 :: 25 :: 26 :: 27 :: 28 :: 29 :: 30 :: 31 :: 32 :: 33 :: 34 :: 35 :: 36 :: 37 :: 38 :: 39 :: 40 :: 41 :: 42 :: 43 :: 44 :: 45 :: 46 :: 47 :: 48 :: 49 :: 50 :: 51 :: 52 :: 53 :: 54 :: 55 :: 56 :: 57 :: 58 :: 59 :: 60 :: 61 :: 62 :: 63 :: 64 :: 65 :: 66 :: 67 :: 68 :: [])) ((s0.1, r1, s0.2.2)) q2.2 r3 hr3) ycX6_tellCount mw_613 (Nat.le_of_ble_eq_true rfl) rfl rfl rfl rfl (Nat.le_of_ble_eq_true rfl) ⟨Nat.zero_le _, Nat.zero_le _⟩ dX6_digest_29 (ll_28 _ _ _) rfl rfl (Wr_same (ll_28 _ _ _)) ?_
      refine Go_i2l (pc := 32) C dX6_digest_32 ?_
      refine Go_ladd (pc := 33) C dX6_digest_33 ?_
      obtain ⟨v4, hv4, hf⟩ := bnd hf
      refine Go_topl (Option.some.inj hv4) ?_
      refine Go_lstore_n (pc := 34) C dX6_digest_34 (by decide) ?_
      obtain ⟨v5, hv5, hf⟩ := bnd hf
      refine Go_iinc (pc := 35) (v := v5) C dX6_digest_35 rfl (by rw [ci_1]; exact Option.some.inj hv5) ?_
      refine Go_goto (pc := 38) (tgt := 17) C dX6_digest_38 (by decide) ?_
      obtain rfl := Option.some.inj hf
      exact Go_mask [true, true, false, true, false] hk
  · show Go _ _ _ _ _ _ _ _ _ _ _ _ _ _ _ _ _ _ _ _ _
    refine Go_iconst (pc := 41) (v := 0) C dX6_digest_41 ci_0 ?_
    refine Go_istore_n (pc := 42) C dX6_digest_42 (by decide) ?_
    obtain ⟨z11, hz11, hf⟩ := bnd hf
    refine Go_mask [true, true, false, true, false] ?_
    refine loopF_go (step := (fX6_digest_L43 s0 r1)) (fun q7 => Go p l e (rmc 4 0 0) σ m args below meth c K (inW (w6 K a s0)) σ.heap 5 0 0 (MQ below (CtQ K (w6 K a s0) (some (.long res.1)) (w6 K a res.2)) args σ 0 0 (inW (w6 K a s0))) (w6 K a ((s0.1, r1, s0.2.2))) 43 [some (.ref (a 0)), some (.long q7.1), none, some (.int q7.2), none] []) (fun z11 => Go p l e (rmc 4 0 0) σ m args below meth c K (inW (w6 K a s0)) σ.heap 5 0 0 (MQ below (CtQ K (w6 K a s0) (some (.long res.1)) (w6 K a res.2)) args σ 0 0 (inW (w6 K a s0))) (w6 K a ((s0.1, r1, s0.2.2))) 68 [some (.ref (a 0)), some (.long z11.1), none, some (.int z11.2), none] []) ?_ _ _ _ hz11 ?_
    · intro q7 x hf hk
      unfold fX6_digest_L43 at hf
      refine Go_iload_n (pc := 43) C dX6_digest_43 rfl ?_
      refine Go_bipush (pc := 44) (v := 7) C dX6_digest_44 cb_7 ?_
      refine Go_icmp_gt (pc := 46) (tgt := 68) C dX6_digest_46 (by decide) (fun hc => ?_) (fun hc => ?_)
      · replace hf := ift hc hf
        obtain rfl := Option.some.inj hf
        exact Go_mask [true, true, false, true, false] hk
      · replace hf := iff' hc hf
        refine Go_ldc2 (pc := 49) (v := 31) C mw_622 dX6_digest_49 ?_
        refine Go_lload_n (pc := 52) C dX6_digest_52 rfl ?_
        refine Go_lmul (pc := 53) C dX6_digest_53 ?_
        refine Go_aload_n (pc := 54) C dX6_digest_54 rfl ?_
        refine Go_iload_n (pc := 55) C dX6_digest_55 rfl ?_
        obtain ⟨r8, hr8, hf⟩ := bnd hf
        refine Go_callV1 (pc := 56) (ws1 := (w6 K a ((s0.1, r1, s0.2.2)))) C 0 (0 :: 1 :: 2 :: 3 :: 4 :: 5 :: 6 :: 7 :: 8 :: 9 :: 10 :: 11 :: 12 :: 13 :: 14 :: 15 :: 16 :: 17 :: 18 :: 19 :: 20 :: 21 :: 22 :: 23 :: 24 :: 25 :: 26 :: 27 :: 28 :: 29 :: 30 :: 31 :: 32 :: 33 :: 34 :: 35 :: 36 :: 37 :: 38 :: 39 :: 40 :: 41 :: 42 :: 43 :: 44 :: 45 :: 46 :: 47 :: 48 :: 49 :: 50 :: 51 :: 52 :: 53 :: 54 :: 55 :: 56 :: 57 :: 58 :: 59 :: 60 :: 61 :: 62 :: 63 :: 64 :: 65 :: 66 :: 67 :: 68 :: []) (kX6_tellMine l K (pk a (0 :: 1 :: 2 :: 3 :: 4 :: 5 :: 6 :: 7 :: 8 :: 9 :: 10 :: 11 :: 12 :: 13 :: 14 :: 15 :: 16 :: 17 :: 18 :: 19 :: 20 :: 21 :: 22 :: 23 :: 24 :: 25 :: 26 :: 27 :: 28 :: 29 :: 30 :: 31 :: 32 :: 33 :: 34 :: 35 :: 36 :: 37 :: 38 :: 39 :: 40 :: 41 :: 42 :: 43 :: 44 :: 45 :: 46 :: 47 :: 48 :: 49 :: 50 :: 51 :: 52 :: 53 :: 54 :: 55 :: 56 :: 57 :: 58 :: 59 :: 60 :: 61 :: 62 :: 63 :: 64 :: 65 :: 66 :: 67 :: 68 :: [])) ((s0.1, r1, s0.2.2)) q7.2 r8 hr8) ycX6_tellMine mw_391 (Nat.le_of_ble_eq_true rfl) rfl rfl rfl rfl (Nat.le_of_ble_eq_true rfl) ⟨Nat.zero_le _, Nat.zero_le _⟩ dX6_digest_56 (ll_28 _ _ _) rfl rfl (Wr_same (ll_28 _ _ _)) ?_
        refine Go_i2l (pc := 59) C dX6_digest_59 ?_
        refine Go_ladd (pc := 60) C dX6_digest_60 ?_
        obtain ⟨v9, hv9, hf⟩ := bnd hf
        refine Go_topl (Option.some.inj hv9) ?_
        refine Go_lstore_n (pc := 61) C dX6_digest_61 (by decide) ?_
        obtain ⟨v10, hv10, hf⟩ := bnd hf
        refine Go_iinc (pc := 62) (v := v10) C dX6_digest_62 rfl (by rw [ci_1]; exact Option.some.inj hv10) ?_
        refine Go_goto (pc := 65) (tgt := 43) C dX6_digest_65 (by decide) ?_
        obtain rfl := Option.some.inj hf
        exact Go_mask [true, true, false, true, false] hk
    · show Go _ _ _ _ _ _ _ _ _ _ _ _ _ _ _ _ _ _ _ _ _
      refine Go_iconst (pc := 68) (v := 0) C dX6_digest_68 ci_0 ?_
      refine Go_istore_n (pc := 69) C dX6_digest_69 (by decide) ?_
      obtain ⟨z19, hz19, hf⟩ := bnd hf
      refine Go_mask [true, true, false, true, false] ?_
      refine loopF_go (step := (fX6_digest_L70 s0 r1)) (fun q12 => Go p l e (rmc 4 0 0) σ m args below meth c K (inW (w6 K a s0)) σ.heap 5 0 0 (MQ below (CtQ K (w6 K a s0) (some (.long res.1)) (w6 K a res.2)) args σ 0 0 (inW (w6 K a s0))) (w6 K a ((s0.1, r1, s0.2.2))) 70 [some (.ref (a 0)), some (.long q12.1), none, some (.int q12.2), none] []) (fun z19 => Go p l e (rmc 4 0 0) σ m args below meth c K (inW (w6 K a s0)) σ.heap 5 0 0 (MQ below (CtQ K (w6 K a s0) (some (.long res.1)) (w6 K a res.2)) args σ 0 0 (inW (w6 K a s0))) (w6 K a ((s0.1, r1, s0.2.2))) 117 [some (.ref (a 0)), some (.long z19.1), none, some (.int z19.2), none] []) ?_ _ _ _ hz19 ?_
      · intro q12 x hf hk
        unfold fX6_digest_L70 at hf
        refine Go_iload_n (pc := 70) C dX6_digest_70 rfl ?_
        refine Go_aload_n (pc := 71) C dX6_digest_71 rfl ?_
        refine Go_get (pc := 72) C 0 0 rfl rfl inX6 (by decide) mw_243 rfl dX6_digest_72 ?_
        refine Go_get (pc := 75) C 1 5 rfl rfl inX1 (by decide) mw_115 rfl dX6_digest_75 ?_
        refine Go_icmp_ge (pc := 78) (tgt := 117) C dX6_digest_78 (by decide) (fun hc => ?_) (fun hc => ?_)
        · replace hf := ift hc hf
          obtain rfl := Option.some.inj hf
          exact Go_mask [true, true, false, true, false] hk
        · replace hf := iff' hc hf
          refine Go_iconst (pc := 81) (v := 0) C dX6_digest_81 ci_0 ?_
          refine Go_istore (pc := 82) C dX6_digest_82 (by decide) ?_
          obtain ⟨z17, hz17, hf⟩ := bnd hf
          refine Go_mask [true, true, false, true, true] ?_
          refine loopF_go (step := (fX6_digest_L84 s0 r1 q12)) (fun q13 => Go p l e (rmc 4 0 0) σ m args below meth c K (inW (w6 K a s0)) σ.heap 5 0 0 (MQ below (CtQ K (w6 K a s0) (some (.long res.1)) (w6 K a res.2)) args σ 0 0 (inW (w6 K a s0))) (w6 K a ((s0.1, r1, s0.2.2))) 84 [some (.ref (a 0)), some (.long q13.1), none, some (.int q12.2), some (.int q13.2)] []) (fun z17 => Go p l e (rmc 4 0 0) σ m args below meth c K (inW (w6 K a s0)) σ.heap 5 0 0 (MQ below (CtQ K (w6 K a s0) (some (.long res.1)) (w6 K a res.2)) args σ 0 0 (inW (w6 K a s0))) (w6 K a ((s0.1, r1, s0.2.2))) 111 [some (.ref (a 0)), some (.long z17.1), none, some (.int q12.2), some (.int z17.2)] []) ?_ _ _ _ hz17 ?_
          · intro q13 x hf hk
            unfold fX6_digest_L84 at hf
            refine Go_iload (pc := 84) C dX6_digest_84 rfl ?_
            refine Go_iconst (pc := 86) (v := 4) C dX6_digest_86 ci_4 ?_
            refine Go_icmp_gt (pc := 87) (tgt := 111) C dX6_digest_87 (by decide) (fun hc => ?_) (fun hc => ?_)
            · replace hf := ift hc hf
              obtain rfl := Option.some.inj hf
              exact Go_mask [true, true, false, true, true] hk
            · replace hf := iff' hc hf
              refine Go_ldc2 (pc := 90) (v := 31) C mw_622 dX6_digest_90 ?_
              refine Go_lload_n (pc := 93) C dX6_digest_93 rfl ?_
              refine Go_lmul (pc := 94) C dX6_digest_94 ?_
              refine Go_aload_n (pc := 95) C dX6_digest_95 rfl ?_
              refine Go_iload_n (pc := 96) C dX6_digest_96 rfl ?_
              refine Go_iload (pc := 97) C dX6_digest_97 rfl ?_
              obtain ⟨r14, hr14, hf⟩ := bnd hf
              refine Go_callV1 (pc := 99) (ws1 := (w6 K a ((s0.1, r1, s0.2.2)))) C 0 (0 :: 1 :: 2 :: 3 :: 4 :: 5 :: 6 :: 7 :: 8 :: 9 :: 10 :: 11 :: 12 :: 13 :: 14 :: 15 :: 16 :: 17 :: 18 :: 19 :: 20 :: 21 :: 22 :: 23 :: 24 :: 25 :: 26 :: 27 :: 28 :: 29 :: 30 :: 31 :: 32 :: 33 :: 34 :: 35 :: 36 :: 37 :: 38 :: 39 :: 40 :: 41 :: 42 :: 43 :: 44 :: 45 :: 46 :: 47 :: 48 :: 49 :: 50 :: 51 :: 52 :: 53 :: 54 :: 55 :: 56 :: 57 :: 58 :: 59 :: 60 :: 61 :: 62 :: 63 :: 64 :: 65 :: 66 :: 67 :: 68 :: []) (kX6_tellPillar l K (pk a (0 :: 1 :: 2 :: 3 :: 4 :: 5 :: 6 :: 7 :: 8 :: 9 :: 10 :: 11 :: 12 :: 13 :: 14 :: 15 :: 16 :: 17 :: 18 :: 19 :: 20 :: 21 :: 22 :: 23 :: 24 :: 25 :: 26 :: 27 :: 28 :: 29 :: 30 :: 31 :: 32 :: 33 :: 34 :: 35 :: 36 :: 37 :: 38 :: 39 :: 40 :: 41 :: 42 :: 43 :: 44 :: 45 :: 46 :: 47 :: 48 :: 49 :: 50 :: 51 :: 52 :: 53 :: 54 :: 55 :: 56 :: 57 :: 58 :: 59 :: 60 :: 61 :: 62 :: 63 :: 64 :: 65 :: 66 :: 67 :: 68 :: [])) ((s0.1, r1, s0.2.2)) q12.2 q13.2 r14 hr14) ycX6_tellPillar mw_374 (Nat.le_of_ble_eq_true rfl) rfl rfl rfl rfl (Nat.le_of_ble_eq_true rfl) ⟨Nat.zero_le _, Nat.zero_le _⟩ dX6_digest_99 (ll_28 _ _ _) rfl rfl (Wr_same (ll_28 _ _ _)) ?_
              refine Go_i2l (pc := 102) C dX6_digest_102 ?_
              refine Go_ladd (pc := 103) C dX6_digest_103 ?_
              obtain ⟨v15, hv15, hf⟩ := bnd hf
              refine Go_topl (Option.some.inj hv15) ?_
              refine Go_lstore_n (pc := 104) C dX6_digest_104 (by decide) ?_
              obtain ⟨v16, hv16, hf⟩ := bnd hf
              refine Go_iinc (pc := 105) (v := v16) C dX6_digest_105 rfl (by rw [ci_1]; exact Option.some.inj hv16) ?_
              refine Go_goto (pc := 108) (tgt := 84) C dX6_digest_108 (by decide) ?_
              obtain rfl := Option.some.inj hf
              exact Go_mask [true, true, false, true, true] hk
          · show Go _ _ _ _ _ _ _ _ _ _ _ _ _ _ _ _ _ _ _ _ _
            obtain ⟨v18, hv18, hf⟩ := bnd hf
            refine Go_iinc (pc := 111) (v := v18) C dX6_digest_111 rfl (by rw [ci_1]; exact Option.some.inj hv18) ?_
            refine Go_goto (pc := 114) (tgt := 70) C dX6_digest_114 (by decide) ?_
            obtain rfl := Option.some.inj hf
            exact Go_mask [true, true, false, true, false] hk
      · show Go _ _ _ _ _ _ _ _ _ _ _ _ _ _ _ _ _ _ _ _ _
        refine Go_iconst (pc := 117) (v := 0) C dX6_digest_117 ci_0 ?_
        refine Go_istore_n (pc := 118) C dX6_digest_118 (by decide) ?_
        obtain ⟨z23, hz23, hf⟩ := bnd hf
        refine Go_mask [true, true, false, true, false] ?_
        refine loopF_go (step := (fX6_digest_L119 s0)) (fun q20 => Go p l e (rmc 4 0 0) σ m args below meth c K (inW (w6 K a s0)) σ.heap 5 0 0 (MQ below (CtQ K (w6 K a s0) (some (.long res.1)) (w6 K a res.2)) args σ 0 0 (inW (w6 K a s0))) (w6 K a ((s0.1, r1, s0.2.2))) 119 [some (.ref (a 0)), some (.long q20.1), none, some (.int q20.2), none] []) (fun z23 => Go p l e (rmc 4 0 0) σ m args below meth c K (inW (w6 K a s0)) σ.heap 5 0 0 (MQ below (CtQ K (w6 K a s0) (some (.long res.1)) (w6 K a res.2)) args σ 0 0 (inW (w6 K a s0))) (w6 K a ((s0.1, r1, s0.2.2))) 148 [some (.ref (a 0)), some (.long z23.1), none, some (.int z23.2), none] []) ?_ _ _ _ hz23 ?_
        · intro q20 x hf hk
          unfold fX6_digest_L119 at hf
          refine Go_iload_n (pc := 119) C dX6_digest_119 rfl ?_
          refine Go_bipush (pc := 120) (v := 96) C dX6_digest_120 cb_96 ?_
          refine Go_icmp_ge (pc := 122) (tgt := 148) C dX6_digest_122 (by decide) (fun hc => ?_) (fun hc => ?_)
          · replace hf := ift hc hf
            obtain rfl := Option.some.inj hf
            exact Go_mask [true, true, false, true, false] hk
          · replace hf := iff' hc hf
            refine Go_ldc2 (pc := 125) (v := 31) C mw_622 dX6_digest_125 ?_
            refine Go_lload_n (pc := 128) C dX6_digest_128 rfl ?_
            refine Go_lmul (pc := 129) C dX6_digest_129 ?_
            refine Go_aload_n (pc := 130) C dX6_digest_130 rfl ?_
            refine Go_get (pc := 131) C 0 0 rfl rfl inX6 (by decide) mw_243 rfl dX6_digest_131 ?_
            refine Go_get (pc := 134) C 1 0 rfl rfl inX1 (by decide) mw_94 rfl dX6_digest_134 ?_
            refine Go_iload_n (pc := 137) C dX6_digest_137 rfl ?_
            obtain ⟨hb, hf⟩ := ifs hf
            refine Go_iald (pc := 138) C 2 rfl (inb_in hb) dX6_digest_138 ?_
            refine Go_i2l (pc := 139) C dX6_digest_139 ?_
            refine Go_ladd (pc := 140) C dX6_digest_140 ?_
            obtain ⟨v21, hv21, hf⟩ := bnd hf
            refine Go_topl (Option.some.inj hv21) ?_
            refine Go_lstore_n (pc := 141) C dX6_digest_141 (by decide) ?_
            obtain ⟨v22, hv22, hf⟩ := bnd hf
            refine Go_iinc (pc := 142) (v := v22) C dX6_digest_142 rfl (by rw [ci_1]; exact Option.some.inj hv22) ?_
            refine Go_goto (pc := 145) (tgt := 119) C dX6_digest_145 (by decide) ?_
            obtain rfl := Option.some.inj hf
            exact Go_mask [true, true, false, true, false] hk
        · show Go _ _ _ _ _ _ _ _ _ _ _ _ _ _ _ _ _ _ _ _ _
          refine Go_lload_n (pc := 148) C dX6_digest_148 rfl ?_
          obtain rfl := Option.some.inj hf
          exact Go_lret C hr rfl dX6_digest_149
