def fX7_left_L8  (q2 : Int32 × Int32 × S7) : Option ((Int32 × Int32 × S7) ⊕ (Int32 × Int32 × S7)) := (if q2.2.1 = 0 then some (.inr (q2.1, q2.2.1, q2.2.2)) else Option.bind (some (q2.1 &&& (q2.2.1 ^^^ (-1 : Int32)))) (fun v3 => Option.bind (fX7_tooMuch q2.2.2 v3) (fun r4 => some (.inl (v3, r4.1, r4.2)))))
def fX7_left (s0 : S7) (p1 : Int32) : Option (Int32 × S7) := Option.bind (fX7_tooMuch s0 p1) (fun r1 => Option.bind (loopF (fX7_left_L8) 5000 (p1, r1.1, r1.2)) (fun z5 => some (z5.1, z5.2.2)))
theorem ycX7_left : CalV yX7_left cX7_left 4 ((some .int)) 1 := ⟨mw_890, mw_69, mw_889, mw_44, ⟨by decide, by decide, by decide +kernel⟩, by decide⟩
set_option maxHeartbeats 4000000 in
set_option maxRecDepth 100000 in
theorem kX7_left (l : Launch) (K : KK) (a : Nat → Nat) (s0 : S7) (p1 : Int32) (res : Int32 × S7) (hf : fX7_left s0 p1 = some res) : Ct l K yX7_left cX7_left 4 ((some .int)) 4 [.ref (a 0), .int p1] (w7 K a s0) (some (.int res.1)) (w7 K a res.2) := by
  refine Ct_of2 (by decide) rfl (Nat.le_of_ble_eq_true rfl) ?_
  intro p e σ m args below meth c C hr
  unfold fX7_left at hf
  refine Go_iload_n (pc := 0) C dX7_left_0 rfl ?_
  refine Go_istore_n (pc := 1) C dX7_left_1 (by decide) ?_
  refine Go_aload_n (pc := 2) C dX7_left_2 rfl ?_
  refine Go_iload_n (pc := 3) C dX7_left_3 rfl ?_
  obtain ⟨r1, hr1, hf⟩ := bnd hf
  refine Go_callV1 (pc := 4) (ws1 := (w7 K a r1.2)) C 0 (0 :: 1 :: 2 :: 3 :: 4 :: 5 :: 6 :: 7 :: 8 :: 9 :: 10 :: 11 :: 12 :: 13 :: []) (kX7_tooMuch l K (pk a (0 :: 1 :: 2 :: 3 :: 4 :: 5 :: 6 :: 7 :: 8 :: 9 :: 10 :: 11 :: 12 :: 13 :: [])) s0 p1 r1 hr1) ycX7_tooMuch mw_835 (Nat.le_of_ble_eq_true rfl) rfl rfl rfl rfl (Nat.le_of_ble_eq_true rfl) ⟨Nat.zero_le _, Nat.zero_le _⟩ dX7_left_4 (ll_149 _ _ _) rfl rfl (ll_150 _ _ _ _) ?_
  refine Go_istore_n (pc := 7) C dX7_left_7 (by decide) ?_
  obtain ⟨z5, hz5, hf⟩ := bnd hf
  refine Go_mask [true, true, true, true] ?_
  refine loopF_go (step := (fX7_left_L8)) (fun q2 => Go p l e (rmc 4 0 0) σ m args below meth c K (inW (w7 K a s0)) σ.heap 4 0 0 (MQ below (CtQ K (w7 K a s0) (some (.int res.1)) (w7 K a res.2)) args σ 0 0 (inW (w7 K a s0))) (w7 K a q2.2.2) 8 [some (.ref (a 0)), some (.int p1), some (.int q2.1), some (.int q2.2.1)] []) (fun z5 => Go p l e (rmc 4 0 0) σ m args below meth c K (inW (w7 K a s0)) σ.heap 4 0 0 (MQ below (CtQ K (w7 K a s0) (some (.int res.1)) (w7 K a res.2)) args σ 0 0 (inW (w7 K a s0))) (w7 K a z5.2.2) 27 [some (.ref (a 0)), some (.int p1), some (.int z5.1), some (.int z5.2.1)] []) ?_ _ _ _ hz5 ?_
  · intro q2 x hf hk
    unfold fX7_left_L8 at hf
    refine Go_iload_n (pc := 8) C dX7_left_8 rfl ?_
    refine Go_if_eq (pc := 9) (tgt := 27) C dX7_left_9 (by decide) (fun hc => ?_) (fun hc => ?_)
    · replace hf := ift hc hf
      obtain rfl := Option.some.inj hf
      exact Go_mask [true, true, true, true] hk
    · replace hf := iff' hc hf
      refine Go_iload_n (pc := 12) C dX7_left_12 rfl ?_
      refine Go_iload_n (pc := 13) C dX7_left_13 rfl ?_
      refine Go_iconst (pc := 14) (v := -1) C dX7_left_14 ci_m1 ?_
      refine Go_ixor (pc := 15) C dX7_left_15 ?_
      refine Go_iand (pc := 16) C dX7_left_16 ?_
      obtain ⟨v3, hv3, hf⟩ := bnd hf
      refine Go_topi (Option.some.inj hv3) ?_
      refine Go_istore_n (pc := 17) C dX7_left_17 (by decide) ?_
      refine Go_aload_n (pc := 18) C dX7_left_18 rfl ?_
      refine Go_iload_n (pc := 19) C dX7_left_19 rfl ?_
      obtain ⟨r4, hr4, hf⟩ := bnd hf
      refine Go_callV1 (pc := 20) (ws1 := (w7 K a r4.2)) C 0 (0 :: 1 :: 2 :: 3 :: 4 :: 5 :: 6 :: 7 :: 8 :: 9 :: 10 :: 11 :: 12 :: 13 :: []) (kX7_tooMuch l K (pk a (0 :: 1 :: 2 :: 3 :: 4 :: 5 :: 6 :: 7 :: 8 :: 9 :: 10 :: 11 :: 12 :: 13 :: [])) q2.2.2 v3 r4 hr4) ycX7_tooMuch mw_835 (Nat.le_of_ble_eq_true rfl) rfl rfl rfl rfl (Nat.le_of_ble_eq_true rfl) ⟨Nat.zero_le _, Nat.zero_le _⟩ dX7_left_20 (ll_149 _ _ _) rfl rfl (ll_150 _ _ _ _) ?_
      refine Go_istore_n (pc := 23) C dX7_left_23 (by decide) ?_
      refine Go_goto (pc := 24) (tgt := 8) C dX7_left_24 (by decide) ?_
      obtain rfl := Option.some.inj hf
      exact Go_mask [true, true, true, true] hk
  · show Go _ _ _ _ _ _ _ _ _ _ _ _ _ _ _ _ _ _ _ _ _
    refine Go_iload_n (pc := 27) C dX7_left_27 rfl ?_
    obtain rfl := Option.some.inj hf
    exact Go_iret C hr rfl dX7_left_28
def fX7_lossOf (s0 : S7) (p1 : Int32) : Option (Int32 × S7) := Option.bind (fX7_ones s0.2.2.2.2.2.1) (fun r1 => Option.bind (fX7_left s0 (s0.2.2.2.2.2.1 &&& (((1 : Int32) <<< (p1 &&& 31)) ^^^ (-1 : Int32)))) (fun r2 => Option.bind (fX7_ones r2.1) (fun r3 => some (r1 - r3, r2.2))))
theorem ycX7_lossOf : CalV yX7_lossOf cX7_lossOf 2 ((some .int)) 1 := ⟨mw_886, mw_69, mw_885, mw_43, ⟨by decide, by decide, by decide +kernel⟩, by decide⟩
set_option maxHeartbeats 4000000 in
set_option maxRecDepth 100000 in
theorem kX7_lossOf (l : Launch) (K : KK) (a : Nat → Nat) (s0 : S7) (p1 : Int32) (res : Int32 × S7) (hf : fX7_lossOf s0 p1 = some res) : Ct l K yX7_lossOf cX7_lossOf 2 ((some .int)) 5 [.ref (a 0), .int p1] (w7 K a s0) (some (.int res.1)) (w7 K a res.2) := by
  refine Ct_of2 (by decide) rfl (Nat.le_of_ble_eq_true rfl) ?_
  intro p e σ m args below meth c C hr
  unfold fX7_lossOf at hf
  refine Go_aload_n (pc := 0) C dX7_lossOf_0 rfl ?_
  refine Go_get (pc := 1) C 0 5 rfl rfl inX7 (by decide) mw_634 rfl dX7_lossOf_1 ?_
  obtain ⟨r1, hr1, hf⟩ := bnd hf
  refine Go_callS1 (pc := 4) (ws1 := (w7 K a s0)) C [] (kX7_ones l K s0.2.2.2.2.2.1 r1 hr1) ycX7_ones mw_781 (Nat.le_of_ble_eq_true rfl) rfl rfl (Nat.le_of_ble_eq_true rfl) ⟨Nat.zero_le _, Nat.zero_le _⟩ dX7_lossOf_4 rfl rfl rfl (Wr_same rfl) ?_
  refine Go_aload_n (pc := 7) C dX7_lossOf_7 rfl ?_
  refine Go_aload_n (pc := 8) C dX7_lossOf_8 rfl ?_
  refine Go_get (pc := 9) C 0 5 rfl rfl inX7 (by decide) mw_634 rfl dX7_lossOf_9 ?_
  refine Go_iconst (pc := 12) (v := 1) C dX7_lossOf_12 ci_1 ?_
  refine Go_iload_n (pc := 13) C dX7_lossOf_13 rfl ?_
  refine Go_ishl (pc := 14) C dX7_lossOf_14 ?_
  refine Go_iconst (pc := 15) (v := -1) C dX7_lossOf_15 ci_m1 ?_
  refine Go_ixor (pc := 16) C dX7_lossOf_16 ?_
  refine Go_iand (pc := 17) C dX7_lossOf_17 ?_
  obtain ⟨r2, hr2, hf⟩ := bnd hf
  refine Go_callV1 (pc := 18) (ws1 := (w7 K a r2.2)) C 0 (0 :: 1 :: 2 :: 3 :: 4 :: 5 :: 6 :: 7 :: 8 :: 9 :: 10 :: 11 :: 12 :: 13 :: []) (kX7_left l K (pk a (0 :: 1 :: 2 :: 3 :: 4 :: 5 :: 6 :: 7 :: 8 :: 9 :: 10 :: 11 :: 12 :: 13 :: [])) s0 (s0.2.2.2.2.2.1 &&& (((1 : Int32) <<< (p1 &&& 31)) ^^^ (-1 : Int32))) r2 hr2) ycX7_left mw_887 (Nat.le_of_ble_eq_true rfl) rfl rfl rfl rfl (Nat.le_of_ble_eq_true rfl) ⟨Nat.zero_le _, Nat.zero_le _⟩ dX7_lossOf_18 (ll_149 _ _ _) rfl rfl (ll_150 _ _ _ _) ?_
  obtain ⟨r3, hr3, hf⟩ := bnd hf
  refine Go_callS1 (pc := 21) (ws1 := (w7 K a r2.2)) C [] (kX7_ones l K r2.1 r3 hr3) ycX7_ones mw_781 (Nat.le_of_ble_eq_true rfl) rfl rfl (Nat.le_of_ble_eq_true rfl) ⟨Nat.zero_le _, Nat.zero_le _⟩ dX7_lossOf_21 rfl rfl rfl (Wr_same rfl) ?_
  refine Go_isub (pc := 24) C dX7_lossOf_24 ?_
  obtain rfl := Option.some.inj hf
  exact Go_iret C hr rfl dX7_lossOf_25
def fX7_would (s0 : S7) (p1 : Int32) (p2 : Int32) : Option (Int32 × S7) := Option.bind (fX7_isPillar s0 p1) (fun r1 => (if r1 = 0 then Option.bind (fX7_bad s0) (fun r2 => some (r2.1, r2.2)) else Option.bind (fX7_in p2 (0 : Int32) (1 : Int32)) (fun r3 => (if r3 = 0 then Option.bind (fX7_bad s0) (fun r4 => some (r4.1, r4.2)) else Option.bind (fX7_stands s0 p1) (fun r5 => (if r5 = 0 then Option.bind (fX7_no s0) (fun r6 => some (r6.1, r6.2)) else Option.bind (fX7_lossOf s0 p1) (fun r7 => (if p2 = 0 then some (r7.1, r7.2) else (if 0 ≤ (13 : Int32) ∧ (13 : Int32).toNatClampNeg < 14 then some (r7.2.2.2.2.2.2.2.2.2.2.2.2.2.1 (13 : Int32).toNatClampNeg, r7.2) else none)))))))))
theorem ycX7_would : CalV yX7_would cX7_would 4 ((some .int)) 2 := ⟨mw_882, mw_69, mw_880, mw_881, ⟨by decide, by decide, by decide +kernel⟩, by decide⟩
set_option maxHeartbeats 4000000 in
set_option maxRecDepth 100000 in
theorem kX7_would (l : Launch) (K : KK) (a : Nat → Nat) (s0 : S7) (p1 : Int32) (p2 : Int32) (res : Int32 × S7) (hf : fX7_would s0 p1 p2 = some res) : Ct l K yX7_would cX7_would 4 ((some .int)) 6 [.ref (a 0), .int p1, .int p2] (w7 K a s0) (some (.int res.1)) (w7 K a res.2) := by
  refine Ct_of2 (by decide) rfl (Nat.le_of_ble_eq_true rfl) ?_
  intro p e σ m args below meth c C hr
  unfold fX7_would at hf
  refine Go_aload_n (pc := 0) C dX7_would_0 rfl ?_
  refine Go_iload_n (pc := 1) C dX7_would_1 rfl ?_
  obtain ⟨r1, hr1, hf⟩ := bnd hf
  refine Go_callV1 (pc := 2) (ws1 := (w7 K a s0)) C 0 (0 :: 1 :: 2 :: 3 :: 4 :: 5 :: 6 :: 7 :: 8 :: 9 :: 10 :: 11 :: 12 :: 13 :: []) (kX7_isPillar l K (pk a (0 :: 1 :: 2 :: 3 :: 4 :: 5 :: 6 :: 7 :: 8 :: 9 :: 10 :: 11 :: 12 :: 13 :: [])) s0 p1 r1 hr1) ycX7_isPillar mw_766 (Nat.le_of_ble_eq_true rfl) rfl rfl rfl rfl (Nat.le_of_ble_eq_true rfl) ⟨Nat.zero_le _, Nat.zero_le _⟩ dX7_would_2 (ll_149 _ _ _) rfl rfl (Wr_same (ll_149 _ _ _)) ?_
  refine Go_if_eq (pc := 5) (tgt := 17) C dX7_would_5 (by decide) (fun hc => ?_) (fun hc => ?_)
  · replace hf := ift hc hf
    refine Go_aload_n (pc := 17) C dX7_would_17 rfl ?_
    obtain ⟨r2, hr2, hf⟩ := bnd hf
    refine Go_callV1 (pc := 18) (ws1 := (w7 K a r2.2)) C 0 (0 :: 1 :: 2 :: 3 :: 4 :: 5 :: 6 :: 7 :: 8 :: 9 :: 10 :: 11 :: 12 :: 13 :: []) (kX7_bad l K (pk a (0 :: 1 :: 2 :: 3 :: 4 :: 5 :: 6 :: 7 :: 8 :: 9 :: 10 :: 11 :: 12 :: 13 :: [])) s0 r2 hr2) ycX7_bad mw_725 (Nat.le_of_ble_eq_true rfl) rfl rfl rfl rfl (Nat.le_of_ble_eq_true rfl) ⟨Nat.zero_le _, Nat.zero_le _⟩ dX7_would_18 (ll_149 _ _ _) rfl rfl (ll_150 _ _ _ _) ?_
    obtain rfl := Option.some.inj hf
    exact Go_iret C hr rfl dX7_would_21
  · replace hf := iff' hc hf
    refine Go_iload_n (pc := 8) C dX7_would_8 rfl ?_
    refine Go_iconst (pc := 9) (v := 0) C dX7_would_9 ci_0 ?_
    refine Go_iconst (pc := 10) (v := 1) C dX7_would_10 ci_1 ?_
    obtain ⟨r3, hr3, hf⟩ := bnd hf
    refine Go_callS1 (pc := 11) (ws1 := (w7 K a s0)) C [] (kX7_in l K p2 (0 : Int32) (1 : Int32) r3 hr3) ycX7_in mw_722 (Nat.le_of_ble_eq_true rfl) rfl rfl (Nat.le_of_ble_eq_true rfl) ⟨Nat.zero_le _, Nat.zero_le _⟩ dX7_would_11 rfl rfl rfl (Wr_same rfl) ?_
    refine Go_if_ne (pc := 14) (tgt := 22) C dX7_would_14 (by decide) (fun hc => ?_) (fun hc => ?_)
    · replace hf := ift hc hf
      refine Go_aload_n (pc := 17) C dX7_would_17 rfl ?_
      obtain ⟨r4, hr4, hf⟩ := bnd hf
      refine Go_callV1 (pc := 18) (ws1 := (w7 K a r4.2)) C 0 (0 :: 1 :: 2 :: 3 :: 4 :: 5 :: 6 :: 7 :: 8 :: 9 :: 10 :: 11 :: 12 :: 13 :: []) (kX7_bad l K (pk a (0 :: 1 :: 2 :: 3 :: 4 :: 5 :: 6 :: 7 :: 8 :: 9 :: 10 :: 11 :: 12 :: 13 :: [])) s0 r4 hr4) ycX7_bad mw_725 (Nat.le_of_ble_eq_true rfl) rfl rfl rfl rfl (Nat.le_of_ble_eq_true rfl) ⟨Nat.zero_le _, Nat.zero_le _⟩ dX7_would_18 (ll_149 _ _ _) rfl rfl (ll_150 _ _ _ _) ?_
      obtain rfl := Option.some.inj hf
      exact Go_iret C hr rfl dX7_would_21
    · replace hf := iff' hc hf
      refine Go_aload_n (pc := 22) C dX7_would_22 rfl ?_
      refine Go_iload_n (pc := 23) C dX7_would_23 rfl ?_
      obtain ⟨r5, hr5, hf⟩ := bnd hf
      refine Go_callV1 (pc := 24) (ws1 := (w7 K a s0)) C 0 (0 :: 1 :: 2 :: 3 :: 4 :: 5 :: 6 :: 7 :: 8 :: 9 :: 10 :: 11 :: 12 :: 13 :: []) (kX7_stands l K (pk a (0 :: 1 :: 2 :: 3 :: 4 :: 5 :: 6 :: 7 :: 8 :: 9 :: 10 :: 11 :: 12 :: 13 :: [])) s0 p1 r5 hr5) ycX7_stands mw_819 (Nat.le_of_ble_eq_true rfl) rfl rfl rfl rfl (Nat.le_of_ble_eq_true rfl) ⟨Nat.zero_le _, Nat.zero_le _⟩ dX7_would_24 (ll_149 _ _ _) rfl rfl (Wr_same (ll_149 _ _ _)) ?_
      refine Go_if_ne (pc := 27) (tgt := 35) C dX7_would_27 (by decide) (fun hc => ?_) (fun hc => ?_)
      · replace hf := ift hc hf
        refine Go_aload_n (pc := 30) C dX7_would_30 rfl ?_
        obtain ⟨r6, hr6, hf⟩ := bnd hf
        refine Go_callV1 (pc := 31) (ws1 := (w7 K a r6.2)) C 0 (0 :: 1 :: 2 :: 3 :: 4 :: 5 :: 6 :: 7 :: 8 :: 9 :: 10 :: 11 :: 12 :: 13 :: []) (kX7_no l K (pk a (0 :: 1 :: 2 :: 3 :: 4 :: 5 :: 6 :: 7 :: 8 :: 9 :: 10 :: 11 :: 12 :: 13 :: [])) s0 r6 hr6) ycX7_no mw_703 (Nat.le_of_ble_eq_true rfl) rfl rfl rfl rfl (Nat.le_of_ble_eq_true rfl) ⟨Nat.zero_le _, Nat.zero_le _⟩ dX7_would_31 (ll_149 _ _ _) rfl rfl (ll_150 _ _ _ _) ?_
        obtain rfl := Option.some.inj hf
        exact Go_iret C hr rfl dX7_would_34
      · replace hf := iff' hc hf
        refine Go_aload_n (pc := 35) C dX7_would_35 rfl ?_
        refine Go_iload_n (pc := 36) C dX7_would_36 rfl ?_
        obtain ⟨r7, hr7, hf⟩ := bnd hf
        refine Go_callV1 (pc := 37) (ws1 := (w7 K a r7.2)) C 0 (0 :: 1 :: 2 :: 3 :: 4 :: 5 :: 6 :: 7 :: 8 :: 9 :: 10 :: 11 :: 12 :: 13 :: []) (kX7_lossOf l K (pk a (0 :: 1 :: 2 :: 3 :: 4 :: 5 :: 6 :: 7 :: 8 :: 9 :: 10 :: 11 :: 12 :: 13 :: [])) s0 p1 r7 hr7) ycX7_lossOf mw_883 (Nat.le_of_ble_eq_true rfl) rfl rfl rfl rfl (Nat.le_of_ble_eq_true rfl) ⟨Nat.zero_le _, Nat.zero_le _⟩ dX7_would_37 (ll_149 _ _ _) rfl rfl (ll_150 _ _ _ _) ?_
        refine Go_istore_n (pc := 40) C dX7_would_40 (by decide) ?_
        refine Go_iload_n (pc := 41) C dX7_would_41 rfl ?_
        refine Go_if_ne (pc := 42) (tgt := 49) C dX7_would_42 (by decide) (fun hc => ?_) (fun hc => ?_)
        · replace hf := ift hc hf
          refine Go_iload_n (pc := 45) C dX7_would_45 rfl ?_
          refine Go_goto (pc := 46) (tgt := 56) C dX7_would_46 (by decide) ?_
          obtain rfl := Option.some.inj hf
          exact Go_iret C hr rfl dX7_would_56
        · replace hf := iff' hc hf
          refine Go_aload_n (pc := 49) C dX7_would_49 rfl ?_
          refine Go_get (pc := 50) C 0 12 rfl rfl inX7 (by decide) mw_641 rfl dX7_would_50 ?_
          refine Go_bipush (pc := 53) (v := 13) C dX7_would_53 cb_13 ?_
          obtain ⟨hb, hf⟩ := ifs hf
          refine Go_iald (pc := 55) C 9 rfl (inb_in hb) dX7_would_55 ?_
          obtain rfl := Option.some.inj hf
          exact Go_iret C hr rfl dX7_would_56
def fX7_worst_L21  (q3 : Int32 × Int32 × Int32 × S7) : Option ((Int32 × Int32 × Int32 × S7) ⊕ (Int32 × Int32 × Int32 × S7)) := (if q3.2.2.2.2.2.1 ≤ q3.2.2.1 then some (.inr (q3.1, q3.2.1, q3.2.2.1, q3.2.2.2)) else Option.bind (fX7_stands q3.2.2.2 q3.2.2.1) (fun r4 => (if r4 = 0 then (if (0 : Int32) ≤ q3.2.1 then (if (0 : Int32) ≤ q3.2.1 then Option.bind (some (q3.2.2.1 + (1 : Int32))) (fun v5 => some (.inl (q3.1, q3.2.1, v5, q3.2.2.2))) else Option.bind (some (q3.2.2.1 + (1 : Int32))) (fun v6 => some (.inl (q3.1, (0 : Int32), v6, q3.2.2.2)))) else (if (0 : Int32) ≤ q3.2.1 then Option.bind (some (q3.2.2.1 + (1 : Int32))) (fun v7 => some (.inl (q3.2.2.1, q3.2.1, v7, q3.2.2.2))) else Option.bind (some (q3.2.2.1 + (1 : Int32))) (fun v8 => some (.inl (q3.2.2.1, (0 : Int32), v8, q3.2.2.2))))) else Option.bind (fX7_lossOf q3.2.2.2 q3.2.2.1) (fun r9 => (if r9.1 ≤ q3.2.1 then (if r9.1 ≤ q3.2.1 then Option.bind (some (q3.2.2.1 + (1 : Int32))) (fun v10 => some (.inl (q3.1, q3.2.1, v10, r9.2))) else Option.bind (some (q3.2.2.1 + (1 : Int32))) (fun v11 => some (.inl (q3.1, r9.1, v11, r9.2)))) else (if r9.1 ≤ q3.2.1 then Option.bind (some (q3.2.2.1 + (1 : Int32))) (fun v12 => some (.inl (q3.2.2.1, q3.2.1, v12, r9.2))) else Option.bind (some (q3.2.2.1 + (1 : Int32))) (fun v13 => some (.inl (q3.2.2.1, r9.1, v13, r9.2)))))))))
def fX7_worst (s0 : S7) (p1 : Int32) : Option (Int32 × S7) := Option.bind (fX7_in p1 (0 : Int32) (1 : Int32)) (fun r1 => (if r1 = 0 then Option.bind (fX7_bad s0) (fun r2 => some (r2.1, r2.2)) else Option.bind (loopF (fX7_worst_L21) 5000 ((-1 : Int32), (0 : Int32), (0 : Int32), s0)) (fun z14 => (if p1 = 0 then some (z14.1, z14.2.2.2) else some (z14.2.1, z14.2.2.2)))))
theorem ycX7_worst : CalV yX7_worst cX7_worst 6 ((some .int)) 1 := ⟨mw_894, mw_69, mw_892, mw_893, ⟨by decide, by decide, by decide +kernel⟩, by decide⟩
set_option maxHeartbeats 4000000 in
set_option maxRecDepth 100000 in
theorem kX7_worst (l : Launch) (K : KK) (a : Nat → Nat) (s0 : S7) (p1 : Int32) (res : Int32 × S7) (hf : fX7_worst s0 p1 = some res) : Ct l K yX7_worst cX7_worst 6 ((some .int)) 6 [.ref (a 0), .int p1] (w7 K a s0) (some (.int res.1)) (w7 K a res.2) := by
  refine Ct_of2 (by decide) rfl (Nat.le_of_ble_eq_true rfl) ?_
  intro p e σ m args below meth c C hr
  unfold fX7_worst at hf
  refine Go_iload_n (pc := 0) C dX7_worst_0 rfl ?_
  refine Go_iconst (pc := 1) (v := 0) C dX7_worst_1 ci_0 ?_
  refine Go_iconst (pc := 2) (v := 1) C dX7_worst_2 ci_1 ?_
  obtain ⟨r1, hr1, hf⟩ := bnd hf
  refine Go_callS1 (pc := 3) (ws1 := (w7 K a s0)) C [] (kX7_in l K p1 (0 : Int32) (1 : Int32) r1 hr1) ycX7_in mw_722 (Nat.le_of_ble_eq_true rfl) rfl rfl (Nat.le_of_ble_eq_true rfl) ⟨Nat.zero_le _, Nat.zero_le _⟩ dX7_worst_3 rfl rfl rfl (Wr_same rfl) ?_
  refine Go_if_ne (pc := 6) (tgt := 14) C dX7_worst_6 (by decide) (fun hc => ?_) (fun hc => ?_)
  · replace hf := ift hc hf
    refine Go_aload_n (pc := 9) C dX7_worst_9 rfl ?_
    obtain ⟨r2, hr2, hf⟩ := bnd hf
    refine Go_callV1 (pc := 10) (ws1 := (w7 K a r2.2)) C 0 (0 :: 1 :: 2 :: 3 :: 4 :: 5 :: 6 :: 7 :: 8 :: 9 :: 10 :: 11 :: 12 :: 13 :: []) (kX7_bad l K (pk a (0 :: 1 :: 2 :: 3 :: 4 :: 5 :: 6 :: 7 :: 8 :: 9 :: 10 :: 11 :: 12 :: 13 :: [])) s0 r2 hr2) ycX7_bad mw_725 (Nat.le_of_ble_eq_true rfl) rfl rfl rfl rfl (Nat.le_of_ble_eq_true rfl) ⟨Nat.zero_le _, Nat.zero_le _⟩ dX7_worst_10 (ll_149 _ _ _) rfl rfl (ll_150 _ _ _ _) ?_
    obtain rfl := Option.some.inj hf
    exact Go_iret C hr rfl dX7_worst_13
  · replace hf := iff' hc hf
    refine Go_iconst (pc := 14) (v := -1) C dX7_worst_14 ci_m1 ?_
    refine Go_istore_n (pc := 15) C dX7_worst_15 (by decide) ?_
    refine Go_iconst (pc := 16) (v := 0) C dX7_worst_16 ci_0 ?_
    refine Go_istore_n (pc := 17) C dX7_worst_17 (by decide) ?_
    refine Go_iconst (pc := 18) (v := 0) C dX7_worst_18 ci_0 ?_
    refine Go_istore (pc := 19) C dX7_worst_19 (by decide) ?_
    obtain ⟨z14, hz14, hf⟩ := bnd hf
    refine Go_mask [true, true, true, true, true, false] ?_
    refine loopF_go (step := (fX7_worst_L21)) (fun q3 => Go p l e (rmc 6 0 0) σ m args below meth c K (inW (w7 K a s0)) σ.heap 6 0 0 (MQ below (CtQ K (w7 K a s0) (some (.int res.1)) (w7 K a res.2)) args σ 0 0 (inW (w7 K a s0))) (w7 K a q3.2.2.2) 21 [some (.ref (a 0)), some (.int p1), some (.int q3.1), some (.int q3.2.1), some (.int q3.2.2.1), none] []) (fun z14 => Go p l e (rmc 6 0 0) σ m args below meth c K (inW (w7 K a s0)) σ.heap 6 0 0 (MQ below (CtQ K (w7 K a s0) (some (.int res.1)) (w7 K a res.2)) args σ 0 0 (inW (w7 K a s0))) (w7 K a z14.2.2.2) 83 [some (.ref (a 0)), some (.int p1), some (.int z14.1), some (.int z14.2.1), some (.int z14.2.2.1), none] []) ?_ _ _ _ hz14 ?_
    · intro q3 x hf hk
      unfold fX7_worst_L21 at hf
      refine Go_iload (pc := 21) C dX7_worst_21 rfl ?_
      refine Go_aload_n (pc := 23) C dX7_worst_23 rfl ?_
      refine Go_get (pc := 24) C 0 2 rfl rfl inX7 (by decide) mw_631 rfl dX7_worst_24 ?_
      refine Go_icmp_ge (pc := 27) (tgt := 83) C dX7_worst_27 (by decide) (fun hc => ?_) (fun hc => ?_)
      · replace hf := ift hc hf
        obtain rfl := Option.some.inj hf
        exact Go_mask [true, true, true, true, true, false] hk
      · replace hf := iff' hc hf
        refine Go_aload_n (pc := 30) C dX7_worst_30 rfl ?_
        refine Go_iload (pc := 31) C dX7_worst_31 rfl ?_
        obtain ⟨r4, hr4, hf⟩ := bnd hf
        refine Go_callV1 (pc := 33) (ws1 := (w7 K a q3.2.2.2)) C 0 (0 :: 1 :: 2 :: 3 :: 4 :: 5 :: 6 :: 7 :: 8 :: 9 :: 10 :: 11 :: 12 :: 13 :: []) (kX7_stands l K (pk a (0 :: 1 :: 2 :: 3 :: 4 :: 5 :: 6 :: 7 :: 8 :: 9 :: 10 :: 11 :: 12 :: 13 :: [])) q3.2.2.2 q3.2.2.1 r4 hr4) ycX7_stands mw_819 (Nat.le_of_ble_eq_true rfl) rfl rfl rfl rfl (Nat.le_of_ble_eq_true rfl) ⟨Nat.zero_le _, Nat.zero_le _⟩ dX7_worst_33 (ll_149 _ _ _) rfl rfl (Wr_same (ll_149 _ _ _)) ?_
        refine Go_if_eq (pc := 36) (tgt := 48) C dX7_worst_36 (by decide) (fun hc => ?_) (fun hc => ?_)
        · replace hf := ift hc hf
          refine Go_iconst (pc := 48) (v := 0) C dX7_worst_48 ci_0 ?_
          refine Go_istore (pc := 49) C dX7_worst_49 (by decide) ?_
          refine Go_iload (pc := 51) C dX7_worst_51 rfl ?_
          refine Go_iload_n (pc := 53) C dX7_worst_53 rfl ?_
          refine Go_icmp_le (pc := 54) (tgt := 62) C dX7_worst_54 (by decide) (fun hc => ?_) (fun hc => ?_)
          · replace hf := ift hc hf
            refine Go_iload_n (pc := 62) C dX7_worst_62 rfl ?_
            refine Go_istore_n (pc := 63) C dX7_worst_63 (by decide) ?_
            refine Go_iload (pc := 64) C dX7_worst_64 rfl ?_
            refine Go_iload_n (pc := 66) C dX7_worst_66 rfl ?_
            refine Go_icmp_le (pc := 67) (tgt := 75) C dX7_worst_67 (by decide) (fun hc => ?_) (fun hc => ?_)
            · replace hf := ift hc hf
              refine Go_iload_n (pc := 75) C dX7_worst_75 rfl ?_
              refine Go_istore_n (pc := 76) C dX7_worst_76 (by decide) ?_
              obtain ⟨v5, hv5, hf⟩ := bnd hf
              refine Go_iinc (pc := 77) (v := v5) C dX7_worst_77 rfl (by rw [ci_1]; exact Option.some.inj hv5) ?_
              refine Go_goto (pc := 80) (tgt := 21) C dX7_worst_80 (by decide) ?_
              obtain rfl := Option.some.inj hf
              exact Go_mask [true, true, true, true, true, false] hk
            · replace hf := iff' hc hf
              refine Go_iload (pc := 70) C dX7_worst_70 rfl ?_
              refine Go_goto (pc := 72) (tgt := 76) C dX7_worst_72 (by decide) ?_
              refine Go_istore_n (pc := 76) C dX7_worst_76 (by decide) ?_
              obtain ⟨v6, hv6, hf⟩ := bnd hf
              refine Go_iinc (pc := 77) (v := v6) C dX7_worst_77 rfl (by rw [ci_1]; exact Option.some.inj hv6) ?_
              refine Go_goto (pc := 80) (tgt := 21) C dX7_worst_80 (by decide) ?_
              obtain rfl := Option.some.inj hf
              exact Go_mask [true, true, true, true, true, false] hk
          · replace hf := iff' hc hf
            refine Go_iload (pc := 57) C dX7_worst_57 rfl ?_
            refine Go_goto (pc := 59) (tgt := 63) C dX7_worst_59 (by decide) ?_
            refine Go_istore_n (pc := 63) C dX7_worst_63 (by decide) ?_
            refine Go_iload (pc := 64) C dX7_worst_64 rfl ?_
            refine Go_iload_n (pc := 66) C dX7_worst_66 rfl ?_
            refine Go_icmp_le (pc := 67) (tgt := 75) C dX7_worst_67 (by decide) (fun hc => ?_) (fun hc => ?_)
            · replace hf := ift hc hf
              refine Go_iload_n (pc := 75) C dX7_worst_75 rfl ?_
              refine Go_istore_n (pc := 76) C dX7_worst_76 (by decide) ?_
              obtain ⟨v7, hv7, hf⟩ := bnd hf
              refine Go_iinc (pc := 77) (v := v7) C dX7_worst_77 rfl (by rw [ci_1]; exact Option.some.inj hv7) ?_
              refine Go_goto (pc := 80) (tgt := 21) C dX7_worst_80 (by decide) ?_
              obtain rfl := Option.some.inj hf
              exact Go_mask [true, true, true, true, true, false] hk
            · replace hf := iff' hc hf
              refine Go_iload (pc := 70) C dX7_worst_70 rfl ?_
              refine Go_goto (pc := 72) (tgt := 76) C dX7_worst_72 (by decide) ?_
              refine Go_istore_n (pc := 76) C dX7_worst_76 (by decide) ?_
              obtain ⟨v8, hv8, hf⟩ := bnd hf
              refine Go_iinc (pc := 77) (v := v8) C dX7_worst_77 rfl (by rw [ci_1]; exact Option.some.inj hv8) ?_
              refine Go_goto (pc := 80) (tgt := 21) C dX7_worst_80 (by decide) ?_
              obtain rfl := Option.some.inj hf
              exact Go_mask [true, true, true, true, true, false] hk
        · replace hf := iff' hc hf
          refine Go_aload_n (pc := 39) C dX7_worst_39 rfl ?_
          refine Go_iload (pc := 40) C dX7_worst_40 rfl ?_
          obtain ⟨r9, hr9, hf⟩ := bnd hf
          refine Go_callV1 (pc := 42) (ws1 := (w7 K a r9.2)) C 0 (0 :: 1 :: 2 :: 3 :: 4 :: 5 :: 6 :: 7 :: 8 :: 9 :: 10 :: 11 :: 12 :: 13 :: []) (kX7_lossOf l K (pk a (0 :: 1 :: 2 :: 3 :: 4 :: 5 :: 6 :: 7 :: 8 :: 9 :: 10 :: 11 :: 12 :: 13 :: [])) q3.2.2.2 q3.2.2.1 r9 hr9) ycX7_lossOf mw_883 (Nat.le_of_ble_eq_true rfl) rfl rfl rfl rfl (Nat.le_of_ble_eq_true rfl) ⟨Nat.zero_le _, Nat.zero_le _⟩ dX7_worst_42 (ll_149 _ _ _) rfl rfl (ll_150 _ _ _ _) ?_
          refine Go_goto (pc := 45) (tgt := 49) C dX7_worst_45 (by decide) ?_
          refine Go_istore (pc := 49) C dX7_worst_49 (by decide) ?_
          refine Go_iload (pc := 51) C dX7_worst_51 rfl ?_
          refine Go_iload_n (pc := 53) C dX7_worst_53 rfl ?_
          refine Go_icmp_le (pc := 54) (tgt := 62) C dX7_worst_54 (by decide) (fun hc => ?_) (fun hc => ?_)
          · replace hf := ift hc hf
            refine Go_iload_n (pc := 62) C dX7_worst_62 rfl ?_
            refine Go_istore_n (pc := 63) C dX7_worst_63 (by decide) ?_
            refine Go_iload (pc := 64) C dX7_worst_64 rfl ?_
            refine Go_iload_n (pc := 66) C dX7_worst_66 rfl ?_
            refine Go_icmp_le (pc := 67) (tgt := 75) C dX7_worst_67 (by decide) (fun hc => ?_) (fun hc => ?_)
            · replace hf := ift hc hf
              refine Go_iload_n (pc := 75) C dX7_worst_75 rfl ?_
              refine Go_istore_n (pc := 76) C dX7_worst_76 (by decide) ?_
              obtain ⟨v10, hv10, hf⟩ := bnd hf
              refine Go_iinc (pc := 77) (v := v10) C dX7_worst_77 rfl (by rw [ci_1]; exact Option.some.inj hv10) ?_
              refine Go_goto (pc := 80) (tgt := 21) C dX7_worst_80 (by decide) ?_
              obtain rfl := Option.some.inj hf
              exact Go_mask [true, true, true, true, true, false] hk
            · replace hf := iff' hc hf
              refine Go_iload (pc := 70) C dX7_worst_70 rfl ?_
              refine Go_goto (pc := 72) (tgt := 76) C dX7_worst_72 (by decide) ?_
              refine Go_istore_n (pc := 76) C dX7_worst_76 (by decide) ?_
              obtain ⟨v11, hv11, hf⟩ := bnd hf
              refine Go_iinc (pc := 77) (v := v11) C dX7_worst_77 rfl (by rw [ci_1]; exact Option.some.inj hv11) ?_
              refine Go_goto (pc := 80) (tgt := 21) C dX7_worst_80 (by decide) ?_
              obtain rfl := Option.some.inj hf
              exact Go_mask [true, true, true, true, true, false] hk
          · replace hf := iff' hc hf
            refine Go_iload (pc := 57) C dX7_worst_57 rfl ?_
            refine Go_goto (pc := 59) (tgt := 63) C dX7_worst_59 (by decide) ?_
            refine Go_istore_n (pc := 63) C dX7_worst_63 (by decide) ?_
            refine Go_iload (pc := 64) C dX7_worst_64 rfl ?_
            refine Go_iload_n (pc := 66) C dX7_worst_66 rfl ?_
            refine Go_icmp_le (pc := 67) (tgt := 75) C dX7_worst_67 (by decide) (fun hc => ?_) (fun hc => ?_)
            · replace hf := ift hc hf
              refine Go_iload_n (pc := 75) C dX7_worst_75 rfl ?_
              refine Go_istore_n (pc := 76) C dX7_worst_76 (by decide) ?_
              obtain ⟨v12, hv12, hf⟩ := bnd hf
              refine Go_iinc (pc := 77) (v := v12) C dX7_worst_77 rfl (by rw [ci_1]; exact Option.some.inj hv12) ?_
              refine Go_goto (pc := 80) (tgt := 21) C dX7_worst_80 (by decide) ?_
              obtain rfl := Option.some.inj hf
              exact Go_mask [true, true, true, true, true, false] hk
            · replace hf := iff' hc hf
              refine Go_iload (pc := 70) C dX7_worst_70 rfl ?_
              refine Go_goto (pc := 72) (tgt := 76) C dX7_worst_72 (by decide) ?_
              refine Go_istore_n (pc := 76) C dX7_worst_76 (by decide) ?_
              obtain ⟨v13, hv13, hf⟩ := bnd hf
              refine Go_iinc (pc := 77) (v := v13) C dX7_worst_77 rfl (by rw [ci_1]; exact Option.some.inj hv13) ?_
              refine Go_goto (pc := 80) (tgt := 21) C dX7_worst_80 (by decide) ?_
              obtain rfl := Option.some.inj hf
              exact Go_mask [true, true, true, true, true, false] hk
    · show Go _ _ _ _ _ _ _ _ _ _ _ _ _ _ _ _ _ _ _ _ _
      refine Go_iload_n (pc := 83) C dX7_worst_83 rfl ?_
      refine Go_if_ne (pc := 84) (tgt := 91) C dX7_worst_84 (by decide) (fun hc => ?_) (fun hc => ?_)
      · replace hf := ift hc hf
        refine Go_iload_n (pc := 87) C dX7_worst_87 rfl ?_
        refine Go_goto (pc := 88) (tgt := 92) C dX7_worst_88 (by decide) ?_
        obtain rfl := Option.some.inj hf
        exact Go_iret C hr rfl dX7_worst_92
      · replace hf := iff' hc hf
        refine Go_iload_n (pc := 91) C dX7_worst_91 rfl ?_
        obtain rfl := Option.some.inj hf
        exact Go_iret C hr rfl dX7_worst_92
def fX7_leftCut (s0 : S7) (p1 : Int32) (p2 : Int32) : Option (Int32 × S7) := (if 0 ≤ p1 ∧ p1.toNatClampNeg < 13 then (if 0 ≤ p1 ∧ p1.toNatClampNeg < 13 then Option.bind (fX7_left ((s0.1, s0.2.1, s0.2.2.1, s0.2.2.2.1, upd s0.2.2.2.2.1 p1.toNatClampNeg ((s0.2.2.2.2.1 p1.toNatClampNeg) - p2), s0.2.2.2.2.2)) s0.2.2.2.2.2.1) (fun r1 => Option.bind (fX7_ones r1.1) (fun r2 => (if 0 ≤ p1 ∧ p1.toNatClampNeg < 13 then (if 0 ≤ p1 ∧ p1.toNatClampNeg < 13 then some (r2, (r1.2.1, r1.2.2.1, r1.2.2.2.1, r1.2.2.2.2.1, upd r1.2.2.2.2.2.1 p1.toNatClampNeg ((r1.2.2.2.2.2.1 p1.toNatClampNeg) + p2), r1.2.2.2.2.2.2)) else none) else none))) else none) else none)
theorem ycX7_leftCut : CalV yX7_leftCut cX7_leftCut 4 ((some .int)) 2 := ⟨mw_902, mw_69, mw_901, mw_45, ⟨by decide, by decide, by decide +kernel⟩, by decide⟩
set_option maxHeartbeats 4000000 in
set_option maxRecDepth 100000 in
theorem kX7_leftCut (l : Launch) (K : KK) (a : Nat → Nat) (s0 : S7) (p1 : Int32) (p2 : Int32) (res : Int32 × S7) (hf : fX7_leftCut s0 p1 p2 = some res) : Ct l K yX7_leftCut cX7_leftCut 4 ((some .int)) 5 [.ref (a 0), .int p1, .int p2] (w7 K a s0) (some (.int res.1)) (w7 K a res.2) := by
  refine Ct_of2 (by decide) rfl (Nat.le_of_ble_eq_true rfl) ?_
  intro p e σ m args below meth c C hr
  unfold fX7_leftCut at hf
  refine Go_aload_n (pc := 0) C dX7_leftCut_0 rfl ?_
  refine Go_get (pc := 1) C 0 4 rfl rfl inX7 (by decide) mw_633 rfl dX7_leftCut_1 ?_
  refine Go_iload_n (pc := 4) C dX7_leftCut_4 rfl ?_
  refine Go_dup2 (pc := 5) C dX7_leftCut_5 rfl rfl ?_
  obtain ⟨hb, hf⟩ := ifs hf
  refine Go_iald (pc := 6) C 4 rfl (inb_in hb) dX7_leftCut_6 ?_
  refine Go_iload_n (pc := 7) C dX7_leftCut_7 rfl ?_
  refine Go_isub (pc := 8) C dX7_leftCut_8 ?_
  obtain ⟨hb, hf⟩ := ifs hf
  refine Go_iast (pc := 9) (ws1 := (w7 K a ((s0.1, s0.2.1, s0.2.2.1, s0.2.2.2.1, upd s0.2.2.2.2.1 p1.toNatClampNeg ((s0.2.2.2.2.1 p1.toNatClampNeg) - p2), s0.2.2.2.2.2)))) C 4 rfl (inb_in hb) dX7_leftCut_9 (ll_146 _ _ _ _) ?_
  refine Go_aload_n (pc := 10) C dX7_leftCut_10 rfl ?_
  refine Go_aload_n (pc := 11) C dX7_leftCut_11 rfl ?_
  refine Go_get (pc := 12) C 0 5 rfl rfl inX7 (by decide) mw_634 rfl dX7_leftCut_12 ?_
  obtain ⟨r1, hr1, hf⟩ := bnd hf
  refine Go_callV1 (pc := 15) (ws1 := (w7 K a r1.2)) C 0 (0 :: 1 :: 2 :: 3 :: 4 :: 5 :: 6 :: 7 :: 8 :: 9 :: 10 :: 11 :: 12 :: 13 :: []) (kX7_left l K (pk a (0 :: 1 :: 2 :: 3 :: 4 :: 5 :: 6 :: 7 :: 8 :: 9 :: 10 :: 11 :: 12 :: 13 :: [])) ((s0.1, s0.2.1, s0.2.2.1, s0.2.2.2.1, upd s0.2.2.2.2.1 p1.toNatClampNeg ((s0.2.2.2.2.1 p1.toNatClampNeg) - p2), s0.2.2.2.2.2)) s0.2.2.2.2.2.1 r1 hr1) ycX7_left mw_887 (Nat.le_of_ble_eq_true rfl) rfl rfl rfl rfl (Nat.le_of_ble_eq_true rfl) ⟨Nat.zero_le _, Nat.zero_le _⟩ dX7_leftCut_15 (ll_149 _ _ _) rfl rfl (ll_150 _ _ _ _) ?_
  obtain ⟨r2, hr2, hf⟩ := bnd hf
  refine Go_callS1 (pc := 18) (ws1 := (w7 K a r1.2)) C [] (kX7_ones l K r1.1 r2 hr2) ycX7_ones mw_781 (Nat.le_of_ble_eq_true rfl) rfl rfl (Nat.le_of_ble_eq_true rfl) ⟨Nat.zero_le _, Nat.zero_le _⟩ dX7_leftCut_18 rfl rfl rfl (Wr_same rfl) ?_
  refine Go_istore_n (pc := 21) C dX7_leftCut_21 (by decide) ?_
  refine Go_aload_n (pc := 22) C dX7_leftCut_22 rfl ?_
  refine Go_get (pc := 23) C 0 4 rfl rfl inX7 (by decide) mw_633 rfl dX7_leftCut_23 ?_
  refine Go_iload_n (pc := 26) C dX7_leftCut_26 rfl ?_
  refine Go_dup2 (pc := 27) C dX7_leftCut_27 rfl rfl ?_
  obtain ⟨hb, hf⟩ := ifs hf
  refine Go_iald (pc := 28) C 4 rfl (inb_in hb) dX7_leftCut_28 ?_
  refine Go_iload_n (pc := 29) C dX7_leftCut_29 rfl ?_
  refine Go_iadd (pc := 30) C dX7_leftCut_30 ?_
  obtain ⟨hb, hf⟩ := ifs hf
  refine Go_iast (pc := 31) (ws1 := (w7 K a ((r1.2.1, r1.2.2.1, r1.2.2.2.1, r1.2.2.2.2.1, upd r1.2.2.2.2.2.1 p1.toNatClampNeg ((r1.2.2.2.2.2.1 p1.toNatClampNeg) + p2), r1.2.2.2.2.2.2)))) C 4 rfl (inb_in hb) dX7_leftCut_31 (ll_146 _ _ _ _) ?_
  refine Go_iload_n (pc := 32) C dX7_leftCut_32 rfl ?_
  obtain rfl := Option.some.inj hf
  exact Go_iret C hr rfl dX7_leftCut_33
def fX7_cut_L43 (p1 : Int32) (r5 : Int32 × S7) (q7 : Int32 × Int32 × S7) : Option ((Int32 × Int32 × S7) ⊕ (Int32 × Int32 × S7)) := (if q7.2.1 ≤ q7.1 then some (.inr (q7.1, q7.2.1, q7.2.2)) else Option.bind (some (((q7.1 + q7.2.1) + (1 : Int32)) / (2 : Int32))) (fun v8 => Option.bind (fX7_leftCut q7.2.2 p1 v8) (fun r9 => (if r9.1 = r5.1 then some (.inl (v8, q7.2.1, r9.2)) else Option.bind (some (v8 - (1 : Int32))) (fun v10 => some (.inl (q7.1, v10, r9.2)))))))
def fX7_cut (s0 : S7) (p1 : Int32) : Option (Int32 × S7) := Option.bind (fX7_isPillar s0 p1) (fun r1 => (if r1 = 0 then Option.bind (fX7_bad s0) (fun r2 => some (r2.1, r2.2)) else Option.bind (fX7_stands s0 p1) (fun r3 => (if r3 = 0 then Option.bind (fX7_no s0) (fun r4 => some (r4.1, r4.2)) else Option.bind (fX7_leftCut s0 p1 (0 : Int32)) (fun r5 => (if 0 ≤ p1 ∧ p1.toNatClampNeg < 13 then Option.bind (some (r5.2.2.2.2.2.1 p1.toNatClampNeg)) (fun v6 => Option.bind (loopF (fX7_cut_L43 p1 r5) 5000 ((0 : Int32), v6, r5.2)) (fun z11 => some (z11.1, z11.2.2))) else none))))))
theorem ycX7_cut : CalV yX7_cut cX7_cut 6 ((some .int)) 1 := ⟨mw_898, mw_69, mw_896, mw_897, ⟨by decide, by decide, by decide +kernel⟩, by decide⟩
set_option maxHeartbeats 4000000 in
set_option maxRecDepth 100000 in
theorem kX7_cut (l : Launch) (K : KK) (a : Nat → Nat) (s0 : S7) (p1 : Int32) (res : Int32 × S7) (hf : fX7_cut s0 p1 = some res) : Ct l K yX7_cut cX7_cut 6 ((some .int)) 6 [.ref (a 0), .int p1] (w7 K a s0) (some (.int res.1)) (w7 K a res.2) := by
  refine Ct_of2 (by decide) rfl (Nat.le_of_ble_eq_true rfl) ?_
  intro p e σ m args below meth c C hr
  unfold fX7_cut at hf
  refine Go_aload_n (pc := 0) C dX7_cut_0 rfl ?_
  refine Go_iload_n (pc := 1) C dX7_cut_1 rfl ?_
  obtain ⟨r1, hr1, hf⟩ := bnd hf
  refine Go_callV1 (pc := 2) (ws1 := (w7 K a s0)) C 0 (0 :: 1 :: 2 :: 3 :: 4 :: 5 :: 6 :: 7 :: 8 :: 9 :: 10 :: 11 :: 12 :: 13 :: []) (kX7_isPillar l K (pk a (0 :: 1 :: 2 :: 3 :: 4 :: 5 :: 6 :: 7 :: 8 :: 9 :: 10 :: 11 :: 12 :: 13 :: [])) s0 p1 r1 hr1) ycX7_isPillar mw_766 (Nat.le_of_ble_eq_true rfl) rfl rfl rfl rfl (Nat.le_of_ble_eq_true rfl) ⟨Nat.zero_le _, Nat.zero_le _⟩ dX7_cut_2 (ll_149 _ _ _) rfl rfl (Wr_same (ll_149 _ _ _)) ?_
  refine Go_if_ne (pc := 5) (tgt := 13) C dX7_cut_5 (by decide) (fun hc => ?_) (fun hc => ?_)
  · replace hf := ift hc hf
    refine Go_aload_n (pc := 8) C dX7_cut_8 rfl ?_
    obtain ⟨r2, hr2, hf⟩ := bnd hf
    refine Go_callV1 (pc := 9) (ws1 := (w7 K a r2.2)) C 0 (0 :: 1 :: 2 :: 3 :: 4 :: 5 :: 6 :: 7 :: 8 :: 9 :: 10 :: 11 :: 12 :: 13 :: []) (kX7_bad l K (pk a (0 :: 1 :: 2 :: 3 :: 4 :: 5 :: 6 :: 7 :: 8 :: 9 :: 10 :: 11 :: 12 :: 13 :: [])) s0 r2 hr2) ycX7_bad mw_725 (Nat.le_of_ble_eq_true rfl) rfl rfl rfl rfl (Nat.le_of_ble_eq_true rfl) ⟨Nat.zero_le _, Nat.zero_le _⟩ dX7_cut_9 (ll_149 _ _ _) rfl rfl (ll_150 _ _ _ _) ?_
    obtain rfl := Option.some.inj hf
    exact Go_iret C hr rfl dX7_cut_12
  · replace hf := iff' hc hf
    refine Go_aload_n (pc := 13) C dX7_cut_13 rfl ?_
    refine Go_iload_n (pc := 14) C dX7_cut_14 rfl ?_
    obtain ⟨r3, hr3, hf⟩ := bnd hf
    refine Go_callV1 (pc := 15) (ws1 := (w7 K a s0)) C 0 (0 :: 1 :: 2 :: 3 :: 4 :: 5 :: 6 :: 7 :: 8 :: 9 :: 10 :: 11 :: 12 :: 13 :: []) (kX7_stands l K (pk a (0 :: 1 :: 2 :: 3 :: 4 :: 5 :: 6 :: 7 :: 8 :: 9 :: 10 :: 11 :: 12 :: 13 :: [])) s0 p1 r3 hr3) ycX7_stands mw_819 (Nat.le_of_ble_eq_true rfl) rfl rfl rfl rfl (Nat.le_of_ble_eq_true rfl) ⟨Nat.zero_le _, Nat.zero_le _⟩ dX7_cut_15 (ll_149 _ _ _) rfl rfl (Wr_same (ll_149 _ _ _)) ?_
    refine Go_if_ne (pc := 18) (tgt := 26) C dX7_cut_18 (by decide) (fun hc => ?_) (fun hc => ?_)
    · replace hf := ift hc hf
      refine Go_aload_n (pc := 21) C dX7_cut_21 rfl ?_
      obtain ⟨r4, hr4, hf⟩ := bnd hf
      refine Go_callV1 (pc := 22) (ws1 := (w7 K a r4.2)) C 0 (0 :: 1 :: 2 :: 3 :: 4 :: 5 :: 6 :: 7 :: 8 :: 9 :: 10 :: 11 :: 12 :: 13 :: []) (kX7_no l K (pk a (0 :: 1 :: 2 :: 3 :: 4 :: 5 :: 6 :: 7 :: 8 :: 9 :: 10 :: 11 :: 12 :: 13 :: [])) s0 r4 hr4) ycX7_no mw_703 (Nat.le_of_ble_eq_true rfl) rfl rfl rfl rfl (Nat.le_of_ble_eq_true rfl) ⟨Nat.zero_le _, Nat.zero_le _⟩ dX7_cut_22 (ll_149 _ _ _) rfl rfl (ll_150 _ _ _ _) ?_
      obtain rfl := Option.some.inj hf
      exact Go_iret C hr rfl dX7_cut_25
    · replace hf := iff' hc hf
      refine Go_aload_n (pc := 26) C dX7_cut_26 rfl ?_
      refine Go_iload_n (pc := 27) C dX7_cut_27 rfl ?_
      refine Go_iconst (pc := 28) (v := 0) C dX7_cut_28 ci_0 ?_
      obtain ⟨r5, hr5, hf⟩ := bnd hf
      refine Go_callV1 (pc := 29) (ws1 := (w7 K a r5.2)) C 0 (0 :: 1 :: 2 :: 3 :: 4 :: 5 :: 6 :: 7 :: 8 :: 9 :: 10 :: 11 :: 12 :: 13 :: []) (kX7_leftCut l K (pk a (0 :: 1 :: 2 :: 3 :: 4 :: 5 :: 6 :: 7 :: 8 :: 9 :: 10 :: 11 :: 12 :: 13 :: [])) s0 p1 (0 : Int32) r5 hr5) ycX7_leftCut mw_899 (Nat.le_of_ble_eq_true rfl) rfl rfl rfl rfl (Nat.le_of_ble_eq_true rfl) ⟨Nat.zero_le _, Nat.zero_le _⟩ dX7_cut_29 (ll_149 _ _ _) rfl rfl (ll_150 _ _ _ _) ?_
      refine Go_istore_n (pc := 32) C dX7_cut_32 (by decide) ?_
      refine Go_iconst (pc := 33) (v := 0) C dX7_cut_33 ci_0 ?_
      refine Go_istore_n (pc := 34) C dX7_cut_34 (by decide) ?_
      refine Go_aload_n (pc := 35) C dX7_cut_35 rfl ?_
      refine Go_get (pc := 36) C 0 4 rfl rfl inX7 (by decide) mw_633 rfl dX7_cut_36 ?_
      refine Go_iload_n (pc := 39) C dX7_cut_39 rfl ?_
      obtain ⟨hb, hf⟩ := ifs hf
      refine Go_iald (pc := 40) C 4 rfl (inb_in hb) dX7_cut_40 ?_
      obtain ⟨v6, hv6, hf⟩ := bnd hf
      refine Go_topi (Option.some.inj hv6) ?_
      refine Go_istore (pc := 41) C dX7_cut_41 (by decide) ?_
      obtain ⟨z11, hz11, hf⟩ := bnd hf
      refine Go_mask [true, true, true, true, true, false] ?_
      refine loopF_go (step := (fX7_cut_L43 p1 r5)) (fun q7 => Go p l e (rmc 6 0 0) σ m args below meth c K (inW (w7 K a s0)) σ.heap 6 0 0 (MQ below (CtQ K (w7 K a s0) (some (.int res.1)) (w7 K a res.2)) args σ 0 0 (inW (w7 K a s0))) (w7 K a q7.2.2) 43 [some (.ref (a 0)), some (.int p1), some (.int r5.1), some (.int q7.1), some (.int q7.2.1), none] []) (fun z11 => Go p l e (rmc 6 0 0) σ m args below meth c K (inW (w7 K a s0)) σ.heap 6 0 0 (MQ below (CtQ K (w7 K a s0) (some (.int res.1)) (w7 K a res.2)) args σ 0 0 (inW (w7 K a s0))) (w7 K a z11.2.2) 85 [some (.ref (a 0)), some (.int p1), some (.int r5.1), some (.int z11.1), some (.int z11.2.1), none] []) ?_ _ _ _ hz11 ?_
      · intro q7 x hf hk
        unfold fX7_cut_L43 at hf
        refine Go_iload_n (pc := 43) C dX7_cut_43 rfl ?_
        refine Go_iload (pc := 44) C dX7_cut_44 rfl ?_
        refine Go_icmp_ge (pc := 46) (tgt := 85) C dX7_cut_46 (by decide) (fun hc => ?_) (fun hc => ?_)
        · replace hf := ift hc hf
          obtain rfl := Option.some.inj hf
          exact Go_mask [true, true, true, true, true, false] hk
        · replace hf := iff' hc hf
          refine Go_iload_n (pc := 49) C dX7_cut_49 rfl ?_
          refine Go_iload (pc := 50) C dX7_cut_50 rfl ?_
          refine Go_iadd (pc := 52) C dX7_cut_52 ?_
          refine Go_iconst (pc := 53) (v := 1) C dX7_cut_53 ci_1 ?_
          refine Go_iadd (pc := 54) C dX7_cut_54 ?_
          refine Go_iconst (pc := 55) (v := 2) C dX7_cut_55 ci_2 ?_
          refine Go_idiv (pc := 56) C dX7_cut_56 (by decide) ?_
          obtain ⟨v8, hv8, hf⟩ := bnd hf
          refine Go_topi (Option.some.inj hv8) ?_
          refine Go_istore (pc := 57) C dX7_cut_57 (by decide) ?_
          refine Go_aload_n (pc := 59) C dX7_cut_59 rfl ?_
          refine Go_iload_n (pc := 60) C dX7_cut_60 rfl ?_
          refine Go_iload (pc := 61) C dX7_cut_61 rfl ?_
          obtain ⟨r9, hr9, hf⟩ := bnd hf
          refine Go_callV1 (pc := 63) (ws1 := (w7 K a r9.2)) C 0 (0 :: 1 :: 2 :: 3 :: 4 :: 5 :: 6 :: 7 :: 8 :: 9 :: 10 :: 11 :: 12 :: 13 :: []) (kX7_leftCut l K (pk a (0 :: 1 :: 2 :: 3 :: 4 :: 5 :: 6 :: 7 :: 8 :: 9 :: 10 :: 11 :: 12 :: 13 :: [])) q7.2.2 p1 v8 r9 hr9) ycX7_leftCut mw_899 (Nat.le_of_ble_eq_true rfl) rfl rfl rfl rfl (Nat.le_of_ble_eq_true rfl) ⟨Nat.zero_le _, Nat.zero_le _⟩ dX7_cut_63 (ll_149 _ _ _) rfl rfl (ll_150 _ _ _ _) ?_
          refine Go_iload_n (pc := 66) C dX7_cut_66 rfl ?_
          refine Go_icmp_ne (pc := 67) (tgt := 76) C dX7_cut_67 (by decide) (fun hc => ?_) (fun hc => ?_)
          · replace hf := ift hc hf
            refine Go_iload (pc := 70) C dX7_cut_70 rfl ?_
            refine Go_istore_n (pc := 72) C dX7_cut_72 (by decide) ?_
            refine Go_goto (pc := 73) (tgt := 82) C dX7_cut_73 (by decide) ?_
            refine Go_goto (pc := 82) (tgt := 43) C dX7_cut_82 (by decide) ?_
            obtain rfl := Option.some.inj hf
            exact Go_mask [true, true, true, true, true, false] hk
          · replace hf := iff' hc hf
            refine Go_iload (pc := 76) C dX7_cut_76 rfl ?_
            refine Go_iconst (pc := 78) (v := 1) C dX7_cut_78 ci_1 ?_
            refine Go_isub (pc := 79) C dX7_cut_79 ?_
            obtain ⟨v10, hv10, hf⟩ := bnd hf
            refine Go_topi (Option.some.inj hv10) ?_
            refine Go_istore (pc := 80) C dX7_cut_80 (by decide) ?_
            refine Go_goto (pc := 82) (tgt := 43) C dX7_cut_82 (by decide) ?_
            obtain rfl := Option.some.inj hf
            exact Go_mask [true, true, true, true, true, false] hk
      · show Go _ _ _ _ _ _ _ _ _ _ _ _ _ _ _ _ _ _ _ _ _
        refine Go_iload_n (pc := 85) C dX7_cut_85 rfl ?_
        obtain rfl := Option.some.inj hf
        exact Go_iret C hr rfl dX7_cut_86
def fX7_mending_L12 (r1 : S7) (q2 : Int32 × Int32) : Option ((Int32 × Int32) ⊕ (Int32 × Int32)) := (if r1.2.2.1 ≤ q2.2 then some (.inr (q2.1, q2.2)) else Option.bind (fX7_stands r1 q2.2) (fun r3 => (if r3 = 0 then (if (0 : Int32) ≤ q2.1 then Option.bind (some (q2.2 + (1 : Int32))) (fun v4 => some (.inl (q2.1, v4))) else Option.bind (some (q2.2 + (1 : Int32))) (fun v5 => some (.inl ((0 : Int32), v5)))) else (if 0 ≤ q2.2 ∧ q2.2.toNatClampNeg < 14 then (if 0 ≤ q2.2 ∧ q2.2.toNatClampNeg < 13 then Option.bind (some ((r1.2.2.2.2.2.2.2.2.2.2.2.1 q2.2.toNatClampNeg) - (r1.2.2.2.2.1 q2.2.toNatClampNeg))) (fun v6 => (if v6 ≤ q2.1 then Option.bind (some (q2.2 + (1 : Int32))) (fun v7 => some (.inl (q2.1, v7))) else Option.bind (some (q2.2 + (1 : Int32))) (fun v8 => some (.inl (v6, v8))))) else none) else none))))
def fX7_mending (s0 : S7) : Option (Int32 × S7) := Option.bind (fX7_bears s0 s0.2.2.2.2.2.1) (fun r1 => Option.bind (loopF (fX7_mending_L12 r1) 5000 ((0 : Int32), (0 : Int32))) (fun z9 => (if (999 : Int32) < z9.1 then some ((-1 : Int32), r1) else some (z9.1, r1))))
theorem ycX7_mending : CalV yX7_mending cX7_mending 4 ((some .int)) 0 := ⟨mw_906, mw_69, mw_904, mw_905, ⟨by decide, by decide, by decide +kernel⟩, by decide⟩
set_option maxHeartbeats 4000000 in
set_option maxRecDepth 100000 in
theorem kX7_mending (l : Launch) (K : KK) (a : Nat → Nat) (s0 : S7) (res : Int32 × S7) (hf : fX7_mending s0 = some res) : Ct l K yX7_mending cX7_mending 4 ((some .int)) 3 [.ref (a 0)] (w7 K a s0) (some (.int res.1)) (w7 K a res.2) := by
  refine Ct_of2 (by decide) rfl (Nat.le_of_ble_eq_true rfl) ?_
  intro p e σ m args below meth c C hr
  unfold fX7_mending at hf
  refine Go_aload_n (pc := 0) C dX7_mending_0 rfl ?_
  refine Go_aload_n (pc := 1) C dX7_mending_1 rfl ?_
  refine Go_get (pc := 2) C 0 5 rfl rfl inX7 (by decide) mw_634 rfl dX7_mending_2 ?_
  obtain ⟨r1, hr1, hf⟩ := bnd hf
  refine Go_callV0 (pc := 5) (ws1 := (w7 K a r1)) C 0 (0 :: 1 :: 2 :: 3 :: 4 :: 5 :: 6 :: 7 :: 8 :: 9 :: 10 :: 11 :: 12 :: 13 :: []) (kX7_bears l K (pk a (0 :: 1 :: 2 :: 3 :: 4 :: 5 :: 6 :: 7 :: 8 :: 9 :: 10 :: 11 :: 12 :: 13 :: [])) s0 s0.2.2.2.2.2.1 r1 hr1) ycX7_bears mw_796 (Nat.le_of_ble_eq_true rfl) rfl rfl rfl rfl (Nat.le_of_ble_eq_true rfl) ⟨Nat.zero_le _, Nat.zero_le _⟩ dX7_mending_5 (ll_149 _ _ _) rfl rfl (ll_150 _ _ _ _) ?_
  refine Go_iconst (pc := 8) (v := 0) C dX7_mending_8 ci_0 ?_
  refine Go_istore_n (pc := 9) C dX7_mending_9 (by decide) ?_
  refine Go_iconst (pc := 10) (v := 0) C dX7_mending_10 ci_0 ?_
  refine Go_istore_n (pc := 11) C dX7_mending_11 (by decide) ?_
  obtain ⟨z9, hz9, hf⟩ := bnd hf
  refine Go_mask [true, true, true, false] ?_
  refine loopF_go (step := (fX7_mending_L12 r1)) (fun q2 => Go p l e (rmc 3 0 0) σ m args below meth c K (inW (w7 K a s0)) σ.heap 4 0 0 (MQ below (CtQ K (w7 K a s0) (some (.int res.1)) (w7 K a res.2)) args σ 0 0 (inW (w7 K a s0))) (w7 K a r1) 12 [some (.ref (a 0)), some (.int q2.1), some (.int q2.2), none] []) (fun z9 => Go p l e (rmc 3 0 0) σ m args below meth c K (inW (w7 K a s0)) σ.heap 4 0 0 (MQ below (CtQ K (w7 K a s0) (some (.int res.1)) (w7 K a res.2)) args σ 0 0 (inW (w7 K a s0))) (w7 K a r1) 63 [some (.ref (a 0)), some (.int z9.1), some (.int z9.2), none] []) ?_ _ _ _ hz9 ?_
  · intro q2 x hf hk
    unfold fX7_mending_L12 at hf
    refine Go_iload_n (pc := 12) C dX7_mending_12 rfl ?_
    refine Go_aload_n (pc := 13) C dX7_mending_13 rfl ?_
    refine Go_get (pc := 14) C 0 2 rfl rfl inX7 (by decide) mw_631 rfl dX7_mending_14 ?_
    refine Go_icmp_ge (pc := 17) (tgt := 63) C dX7_mending_17 (by decide) (fun hc => ?_) (fun hc => ?_)
    · replace hf := ift hc hf
      obtain rfl := Option.some.inj hf
      exact Go_mask [true, true, true, false] hk
    · replace hf := iff' hc hf
      refine Go_aload_n (pc := 20) C dX7_mending_20 rfl ?_
      refine Go_iload_n (pc := 21) C dX7_mending_21 rfl ?_
      obtain ⟨r3, hr3, hf⟩ := bnd hf
      refine Go_callV1 (pc := 22) (ws1 := (w7 K a r1)) C 0 (0 :: 1 :: 2 :: 3 :: 4 :: 5 :: 6 :: 7 :: 8 :: 9 :: 10 :: 11 :: 12 :: 13 :: []) (kX7_stands l K (pk a (0 :: 1 :: 2 :: 3 :: 4 :: 5 :: 6 :: 7 :: 8 :: 9 :: 10 :: 11 :: 12 :: 13 :: [])) r1 q2.2 r3 hr3) ycX7_stands mw_819 (Nat.le_of_ble_eq_true rfl) rfl rfl rfl rfl (Nat.le_of_ble_eq_true rfl) ⟨Nat.zero_le _, Nat.zero_le _⟩ dX7_mending_22 (ll_149 _ _ _) rfl rfl (Wr_same (ll_149 _ _ _)) ?_
      refine Go_if_eq (pc := 25) (tgt := 44) C dX7_mending_25 (by decide) (fun hc => ?_) (fun hc => ?_)
      · replace hf := ift hc hf
        refine Go_iconst (pc := 44) (v := 0) C dX7_mending_44 ci_0 ?_
        refine Go_istore_n (pc := 45) C dX7_mending_45 (by decide) ?_
        refine Go_iload_n (pc := 46) C dX7_mending_46 rfl ?_
        refine Go_iload_n (pc := 47) C dX7_mending_47 rfl ?_
        refine Go_icmp_le (pc := 48) (tgt := 55) C dX7_mending_48 (by decide) (fun hc => ?_) (fun hc => ?_)
        · replace hf := ift hc hf
          refine Go_iload_n (pc := 55) C dX7_mending_55 rfl ?_
          refine Go_istore_n (pc := 56) C dX7_mending_56 (by decide) ?_
          obtain ⟨v4, hv4, hf⟩ := bnd hf
          refine Go_iinc (pc := 57) (v := v4) C dX7_mending_57 rfl (by rw [ci_1]; exact Option.some.inj hv4) ?_
          refine Go_goto (pc := 60) (tgt := 12) C dX7_mending_60 (by decide) ?_
          obtain rfl := Option.some.inj hf
          exact Go_mask [true, true, true, false] hk
        · replace hf := iff' hc hf
          refine Go_iload_n (pc := 51) C dX7_mending_51 rfl ?_
          refine Go_goto (pc := 52) (tgt := 56) C dX7_mending_52 (by decide) ?_
          refine Go_istore_n (pc := 56) C dX7_mending_56 (by decide) ?_
          obtain ⟨v5, hv5, hf⟩ := bnd hf
          refine Go_iinc (pc := 57) (v := v5) C dX7_mending_57 rfl (by rw [ci_1]; exact Option.some.inj hv5) ?_
          refine Go_goto (pc := 60) (tgt := 12) C dX7_mending_60 (by decide) ?_
          obtain rfl := Option.some.inj hf
          exact Go_mask [true, true, true, false] hk
      · replace hf := iff' hc hf
        refine Go_aload_n (pc := 28) C dX7_mending_28 rfl ?_
        refine Go_get (pc := 29) C 0 11 rfl rfl inX7 (by decide) mw_640 rfl dX7_mending_29 ?_
        refine Go_iload_n (pc := 32) C dX7_mending_32 rfl ?_
        obtain ⟨hb, hf⟩ := ifs hf
        refine Go_iald (pc := 33) C 8 rfl (inb_in hb) dX7_mending_33 ?_
        refine Go_aload_n (pc := 34) C dX7_mending_34 rfl ?_
        refine Go_get (pc := 35) C 0 4 rfl rfl inX7 (by decide) mw_633 rfl dX7_mending_35 ?_
        refine Go_iload_n (pc := 38) C dX7_mending_38 rfl ?_
        obtain ⟨hb, hf⟩ := ifs hf
        refine Go_iald (pc := 39) C 4 rfl (inb_in hb) dX7_mending_39 ?_
        refine Go_isub (pc := 40) C dX7_mending_40 ?_
        refine Go_goto (pc := 41) (tgt := 45) C dX7_mending_41 (by decide) ?_
        obtain ⟨v6, hv6, hf⟩ := bnd hf
        refine Go_topi (Option.some.inj hv6) ?_
        refine Go_istore_n (pc := 45) C dX7_mending_45 (by decide) ?_
        refine Go_iload_n (pc := 46) C dX7_mending_46 rfl ?_
        refine Go_iload_n (pc := 47) C dX7_mending_47 rfl ?_
        refine Go_icmp_le (pc := 48) (tgt := 55) C dX7_mending_48 (by decide) (fun hc => ?_) (fun hc => ?_)
        · replace hf := ift hc hf
          refine Go_iload_n (pc := 55) C dX7_mending_55 rfl ?_
          refine Go_istore_n (pc := 56) C dX7_mending_56 (by decide) ?_
          obtain ⟨v7, hv7, hf⟩ := bnd hf
          refine Go_iinc (pc := 57) (v := v7) C dX7_mending_57 rfl (by rw [ci_1]; exact Option.some.inj hv7) ?_
          refine Go_goto (pc := 60) (tgt := 12) C dX7_mending_60 (by decide) ?_
          obtain rfl := Option.some.inj hf
          exact Go_mask [true, true, true, false] hk
        · replace hf := iff' hc hf
          refine Go_iload_n (pc := 51) C dX7_mending_51 rfl ?_
          refine Go_goto (pc := 52) (tgt := 56) C dX7_mending_52 (by decide) ?_
          refine Go_istore_n (pc := 56) C dX7_mending_56 (by decide) ?_
          obtain ⟨v8, hv8, hf⟩ := bnd hf
          refine Go_iinc (pc := 57) (v := v8) C dX7_mending_57 rfl (by rw [ci_1]; exact Option.some.inj hv8) ?_
          refine Go_goto (pc := 60) (tgt := 12) C dX7_mending_60 (by decide) ?_
          obtain rfl := Option.some.inj hf
          exact Go_mask [true, true, true, false] hk
  · show Go _ _ _ _ _ _ _ _ _ _ _ _ _ _ _ _ _ _ _ _ _
    refine Go_iload_n (pc := 63) C dX7_mending_63 rfl ?_
    refine Go_sipush (pc := 64) (v := 999) C dX7_mending_64 cs_999 ?_
    refine Go_icmp_gt (pc := 67) (tgt := 74) C dX7_mending_67 (by decide) (fun hc => ?_) (fun hc => ?_)
    · replace hf := ift hc hf
      refine Go_iconst (pc := 74) (v := -1) C dX7_mending_74 ci_m1 ?_
      obtain rfl := Option.some.inj hf
      exact Go_iret C hr rfl dX7_mending_75
    · replace hf := iff' hc hf
      refine Go_iload_n (pc := 70) C dX7_mending_70 rfl ?_
      refine Go_goto (pc := 71) (tgt := 75) C dX7_mending_71 (by decide) ?_
      obtain rfl := Option.some.inj hf
      exact Go_iret C hr rfl dX7_mending_75
def fX7_bestWall_L21  (q3 : Int32 × Int32 × Int32 × S7) : Option ((Int32 × Int32 × Int32 × S7) ⊕ (Int32 × Int32 × Int32 × S7)) := (if (20 : Int32) < q3.2.2.1 then some (.inr (q3.1, q3.2.1, q3.2.2.1, q3.2.2.2)) else (if q3.2.2.1 = (7 : Int32) then Option.bind (some (q3.2.2.1 + (1 : Int32))) (fun v4 => some (.inl (q3.1, q3.2.1, v4, q3.2.2.2))) else (if q3.2.2.1 = (8 : Int32) then Option.bind (some (q3.2.2.1 + (1 : Int32))) (fun v5 => some (.inl (q3.1, q3.2.1, v5, q3.2.2.2))) else (if q3.2.2.1 = (9 : Int32) then Option.bind (some (q3.2.2.1 + (1 : Int32))) (fun v6 => some (.inl (q3.1, q3.2.1, v6, q3.2.2.2))) else (if ((q3.2.2.2.2.2.2.2.2.2.1 >>> (q3.2.2.1 &&& 31)) &&& (1 : Int32)) = 0 then Option.bind (fX7_left ((q3.2.2.2.1, q3.2.2.2.2.1, q3.2.2.2.2.2.1, q3.2.2.2.2.2.2.1, q3.2.2.2.2.2.2.2.1, q3.2.2.2.2.2.2.2.2.1, q3.2.2.2.2.2.2.2.2.2.1 ||| ((1 : Int32) <<< (q3.2.2.1 &&& 31)), q3.2.2.2.2.2.2.2.2.2.2)) q3.2.2.2.2.2.2.2.2.1) (fun r7 => Option.bind (fX7_ones r7.1) (fun r8 => (if r8 ≤ q3.2.1 then (if r8 ≤ q3.2.1 then Option.bind (some (q3.2.2.1 + (1 : Int32))) (fun v9 => some (.inl (q3.1, q3.2.1, v9, (r7.2.1, r7.2.2.1, r7.2.2.2.1, r7.2.2.2.2.1, r7.2.2.2.2.2.1, r7.2.2.2.2.2.2.1, r7.2.2.2.2.2.2.2.1 &&& (((1 : Int32) <<< (q3.2.2.1 &&& 31)) ^^^ (-1 : Int32)), r7.2.2.2.2.2.2.2.2)))) else Option.bind (some (q3.2.2.1 + (1 : Int32))) (fun v10 => some (.inl (q3.1, r8, v10, (r7.2.1, r7.2.2.1, r7.2.2.2.1, r7.2.2.2.2.1, r7.2.2.2.2.2.1, r7.2.2.2.2.2.2.1, r7.2.2.2.2.2.2.2.1 &&& (((1 : Int32) <<< (q3.2.2.1 &&& 31)) ^^^ (-1 : Int32)), r7.2.2.2.2.2.2.2.2))))) else (if r8 ≤ q3.2.1 then Option.bind (some (q3.2.2.1 + (1 : Int32))) (fun v11 => some (.inl (q3.2.2.1, q3.2.1, v11, (r7.2.1, r7.2.2.1, r7.2.2.2.1, r7.2.2.2.2.1, r7.2.2.2.2.2.1, r7.2.2.2.2.2.2.1, r7.2.2.2.2.2.2.2.1 &&& (((1 : Int32) <<< (q3.2.2.1 &&& 31)) ^^^ (-1 : Int32)), r7.2.2.2.2.2.2.2.2)))) else Option.bind (some (q3.2.2.1 + (1 : Int32))) (fun v12 => some (.inl (q3.2.2.1, r8, v12, (r7.2.1, r7.2.2.1, r7.2.2.2.1, r7.2.2.2.2.1, r7.2.2.2.2.2.1, r7.2.2.2.2.2.2.1, r7.2.2.2.2.2.2.2.1 &&& (((1 : Int32) <<< (q3.2.2.1 &&& 31)) ^^^ (-1 : Int32)), r7.2.2.2.2.2.2.2.2)))))))) else Option.bind (some (q3.2.2.1 + (1 : Int32))) (fun v13 => some (.inl (q3.1, q3.2.1, v13, q3.2.2.2))))))))
def fX7_bestWall (s0 : S7) (p1 : Int32) : Option (Int32 × S7) := Option.bind (fX7_in p1 (0 : Int32) (1 : Int32)) (fun r1 => (if r1 = 0 then Option.bind (fX7_bad s0) (fun r2 => some (r2.1, r2.2)) else Option.bind (loopF (fX7_bestWall_L21) 5000 ((-1 : Int32), (-1 : Int32), (0 : Int32), s0)) (fun z14 => (if p1 = 0 then some (z14.1, z14.2.2.2) else some (z14.2.1, z14.2.2.2)))))
theorem ycX7_bestWall : CalV yX7_bestWall cX7_bestWall 6 ((some .int)) 1 := ⟨mw_910, mw_69, mw_908, mw_909, ⟨by decide, by decide, by decide +kernel⟩, by decide⟩
set_option maxHeartbeats 4000000 in
set_option maxRecDepth 100000 in
theorem kX7_bestWall (l : Launch) (K : KK) (a : Nat → Nat) (s0 : S7) (p1 : Int32) (res : Int32 × S7) (hf : fX7_bestWall s0 p1 = some res) : Ct l K yX7_bestWall cX7_bestWall 6 ((some .int)) 5 [.ref (a 0), .int p1] (w7 K a s0) (some (.int res.1)) (w7 K a res.2) := by
  refine Ct_of2 (by decide) rfl (Nat.le_of_ble_eq_true rfl) ?_
  intro p e σ m args below meth c C hr
  unfold fX7_bestWall at hf
  refine Go_iload_n (pc := 0) C dX7_bestWall_0 rfl ?_
  refine Go_iconst (pc := 1) (v := 0) C dX7_bestWall_1 ci_0 ?_
  refine Go_iconst (pc := 2) (v := 1) C dX7_bestWall_2 ci_1 ?_
  obtain ⟨r1, hr1, hf⟩ := bnd hf
  refine Go_callS1 (pc := 3) (ws1 := (w7 K a s0)) C [] (kX7_in l K p1 (0 : Int32) (1 : Int32) r1 hr1) ycX7_in mw_722 (Nat.le_of_ble_eq_true rfl) rfl rfl (Nat.le_of_ble_eq_true rfl) ⟨Nat.zero_le _, Nat.zero_le _⟩ dX7_bestWall_3 rfl rfl rfl (Wr_same rfl) ?_
  refine Go_if_ne (pc := 6) (tgt := 14) C dX7_bestWall_6 (by decide) (fun hc => ?_) (fun hc => ?_)
  · replace hf := ift hc hf
    refine Go_aload_n (pc := 9) C dX7_bestWall_9 rfl ?_
    obtain ⟨r2, hr2, hf⟩ := bnd hf
    refine Go_callV1 (pc := 10) (ws1 := (w7 K a r2.2)) C 0 (0 :: 1 :: 2 :: 3 :: 4 :: 5 :: 6 :: 7 :: 8 :: 9 :: 10 :: 11 :: 12 :: 13 :: []) (kX7_bad l K (pk a (0 :: 1 :: 2 :: 3 :: 4 :: 5 :: 6 :: 7 :: 8 :: 9 :: 10 :: 11 :: 12 :: 13 :: [])) s0 r2 hr2) ycX7_bad mw_725 (Nat.le_of_ble_eq_true rfl) rfl rfl rfl rfl (Nat.le_of_ble_eq_true rfl) ⟨Nat.zero_le _, Nat.zero_le _⟩ dX7_bestWall_10 (ll_149 _ _ _) rfl rfl (ll_150 _ _ _ _) ?_
    obtain rfl := Option.some.inj hf
    exact Go_iret C hr rfl dX7_bestWall_13
  · replace hf := iff' hc hf
    refine Go_iconst (pc := 14) (v := -1) C dX7_bestWall_14 ci_m1 ?_
    refine Go_istore_n (pc := 15) C dX7_bestWall_15 (by decide) ?_
    refine Go_iconst (pc := 16) (v := -1) C dX7_bestWall_16 ci_m1 ?_
    refine Go_istore_n (pc := 17) C dX7_bestWall_17 (by decide) ?_
    refine Go_iconst (pc := 18) (v := 0) C dX7_bestWall_18 ci_0 ?_
    refine Go_istore (pc := 19) C dX7_bestWall_19 (by decide) ?_
    obtain ⟨z14, hz14, hf⟩ := bnd hf
    refine Go_mask [true, true, true, true, true, false] ?_
    refine loopF_go (step := (fX7_bestWall_L21)) (fun q3 => Go p l e (rmc 5 0 0) σ m args below meth c K (inW (w7 K a s0)) σ.heap 6 0 0 (MQ below (CtQ K (w7 K a s0) (some (.int res.1)) (w7 K a res.2)) args σ 0 0 (inW (w7 K a s0))) (w7 K a q3.2.2.2) 21 [some (.ref (a 0)), some (.int p1), some (.int q3.1), some (.int q3.2.1), some (.int q3.2.2.1), none] []) (fun z14 => Go p l e (rmc 5 0 0) σ m args below meth c K (inW (w7 K a s0)) σ.heap 6 0 0 (MQ below (CtQ K (w7 K a s0) (some (.int res.1)) (w7 K a res.2)) args σ 0 0 (inW (w7 K a s0))) (w7 K a z14.2.2.2) 134 [some (.ref (a 0)), some (.int p1), some (.int z14.1), some (.int z14.2.1), some (.int z14.2.2.1), none] []) ?_ _ _ _ hz14 ?_
    · intro q3 x hf hk
      unfold fX7_bestWall_L21 at hf
      refine Go_iload (pc := 21) C dX7_bestWall_21 rfl ?_
      refine Go_bipush (pc := 23) (v := 20) C dX7_bestWall_23 cb_20 ?_
      refine Go_icmp_gt (pc := 25) (tgt := 134) C dX7_bestWall_25 (by decide) (fun hc => ?_) (fun hc => ?_)
      · replace hf := ift hc hf
        obtain rfl := Option.some.inj hf
        exact Go_mask [true, true, true, true, true, false] hk
      · replace hf := iff' hc hf
        refine Go_iload (pc := 28) C dX7_bestWall_28 rfl ?_
        refine Go_bipush (pc := 30) (v := 7) C dX7_bestWall_30 cb_7 ?_
        refine Go_icmp_eq (pc := 32) (tgt := 128) C dX7_bestWall_32 (by decide) (fun hc => ?_) (fun hc => ?_)
        · replace hf := ift hc hf
          obtain ⟨v4, hv4, hf⟩ := bnd hf
          refine Go_iinc (pc := 128) (v := v4) C dX7_bestWall_128 rfl (by rw [ci_1]; exact Option.some.inj hv4) ?_
          refine Go_goto (pc := 131) (tgt := 21) C dX7_bestWall_131 (by decide) ?_
          obtain rfl := Option.some.inj hf
          exact Go_mask [true, true, true, true, true, false] hk
        · replace hf := iff' hc hf
          refine Go_iload (pc := 35) C dX7_bestWall_35 rfl ?_
          refine Go_bipush (pc := 37) (v := 8) C dX7_bestWall_37 cb_8 ?_
          refine Go_icmp_eq (pc := 39) (tgt := 128) C dX7_bestWall_39 (by decide) (fun hc => ?_) (fun hc => ?_)
          · replace hf := ift hc hf
            obtain ⟨v5, hv5, hf⟩ := bnd hf
            refine Go_iinc (pc := 128) (v := v5) C dX7_bestWall_128 rfl (by rw [ci_1]; exact Option.some.inj hv5) ?_
            refine Go_goto (pc := 131) (tgt := 21) C dX7_bestWall_131 (by decide) ?_
            obtain rfl := Option.some.inj hf
            exact Go_mask [true, true, true, true, true, false] hk
          · replace hf := iff' hc hf
            refine Go_iload (pc := 42) C dX7_bestWall_42 rfl ?_
            refine Go_bipush (pc := 44) (v := 9) C dX7_bestWall_44 cb_9 ?_
            refine Go_icmp_eq (pc := 46) (tgt := 128) C dX7_bestWall_46 (by decide) (fun hc => ?_) (fun hc => ?_)
            · replace hf := ift hc hf
              obtain ⟨v6, hv6, hf⟩ := bnd hf
              refine Go_iinc (pc := 128) (v := v6) C dX7_bestWall_128 rfl (by rw [ci_1]; exact Option.some.inj hv6) ?_
              refine Go_goto (pc := 131) (tgt := 21) C dX7_bestWall_131 (by decide) ?_
              obtain rfl := Option.some.inj hf
              exact Go_mask [true, true, true, true, true, false] hk
            · replace hf := iff' hc hf
              refine Go_aload_n (pc := 49) C dX7_bestWall_49 rfl ?_
              refine Go_get (pc := 50) C 0 6 rfl rfl inX7 (by decide) mw_635 rfl dX7_bestWall_50 ?_
              refine Go_iload (pc := 53) C dX7_bestWall_53 rfl ?_
              refine Go_ishr (pc := 55) C dX7_bestWall_55 ?_
              refine Go_iconst (pc := 56) (v := 1) C dX7_bestWall_56 ci_1 ?_
              refine Go_iand (pc := 57) C dX7_bestWall_57 ?_
              refine Go_if_ne (pc := 58) (tgt := 128) C dX7_bestWall_58 (by decide) (fun hc => ?_) (fun hc => ?_)
              · replace hf := ift hc hf
                refine Go_aload_n (pc := 61) C dX7_bestWall_61 rfl ?_
                refine Go_dup (pc := 62) C dX7_bestWall_62 rfl ?_
                refine Go_get (pc := 63) C 0 6 rfl rfl inX7 (by decide) mw_635 rfl dX7_bestWall_63 ?_
                refine Go_iconst (pc := 66) (v := 1) C dX7_bestWall_66 ci_1 ?_
                refine Go_iload (pc := 67) C dX7_bestWall_67 rfl ?_
                refine Go_ishl (pc := 69) C dX7_bestWall_69 ?_
                refine Go_ior (pc := 70) C dX7_bestWall_70 ?_
                refine Go_put (pc := 71) (ws1 := (w7 K a ((q3.2.2.2.1, q3.2.2.2.2.1, q3.2.2.2.2.2.1, q3.2.2.2.2.2.2.1, q3.2.2.2.2.2.2.2.1, q3.2.2.2.2.2.2.2.2.1, q3.2.2.2.2.2.2.2.2.2.1 ||| ((1 : Int32) <<< (q3.2.2.1 &&& 31)), q3.2.2.2.2.2.2.2.2.2.2)))) C 0 6 tyX7 tyX7_ok nmX7 rfl rfl inX7 (by decide) mw_635 rfl rfl (Nat.le_of_ble_eq_true rfl) dX7_bestWall_71 (ll_144 _ _ _ _) ?_
                refine Go_aload_n (pc := 74) C dX7_bestWall_74 rfl ?_
                refine Go_aload_n (pc := 75) C dX7_bestWall_75 rfl ?_
                refine Go_get (pc := 76) C 0 5 rfl rfl inX7 (by decide) mw_634 rfl dX7_bestWall_76 ?_
                obtain ⟨r7, hr7, hf⟩ := bnd hf
                refine Go_callV1 (pc := 79) (ws1 := (w7 K a r7.2)) C 0 (0 :: 1 :: 2 :: 3 :: 4 :: 5 :: 6 :: 7 :: 8 :: 9 :: 10 :: 11 :: 12 :: 13 :: []) (kX7_left l K (pk a (0 :: 1 :: 2 :: 3 :: 4 :: 5 :: 6 :: 7 :: 8 :: 9 :: 10 :: 11 :: 12 :: 13 :: [])) ((q3.2.2.2.1, q3.2.2.2.2.1, q3.2.2.2.2.2.1, q3.2.2.2.2.2.2.1, q3.2.2.2.2.2.2.2.1, q3.2.2.2.2.2.2.2.2.1, q3.2.2.2.2.2.2.2.2.2.1 ||| ((1 : Int32) <<< (q3.2.2.1 &&& 31)), q3.2.2.2.2.2.2.2.2.2.2)) q3.2.2.2.2.2.2.2.2.1 r7 hr7) ycX7_left mw_887 (Nat.le_of_ble_eq_true rfl) rfl rfl rfl rfl (Nat.le_of_ble_eq_true rfl) ⟨Nat.zero_le _, Nat.zero_le _⟩ dX7_bestWall_79 (ll_149 _ _ _) rfl rfl (ll_150 _ _ _ _) ?_
                obtain ⟨r8, hr8, hf⟩ := bnd hf
                refine Go_callS1 (pc := 82) (ws1 := (w7 K a r7.2)) C [] (kX7_ones l K r7.1 r8 hr8) ycX7_ones mw_781 (Nat.le_of_ble_eq_true rfl) rfl rfl (Nat.le_of_ble_eq_true rfl) ⟨Nat.zero_le _, Nat.zero_le _⟩ dX7_bestWall_82 rfl rfl rfl (Wr_same rfl) ?_
                refine Go_istore (pc := 85) C dX7_bestWall_85 (by decide) ?_
                refine Go_aload_n (pc := 87) C dX7_bestWall_87 rfl ?_
                refine Go_dup (pc := 88) C dX7_bestWall_88 rfl ?_
                refine Go_get (pc := 89) C 0 6 rfl rfl inX7 (by decide) mw_635 rfl dX7_bestWall_89 ?_
                refine Go_iconst (pc := 92) (v := 1) C dX7_bestWall_92 ci_1 ?_
                refine Go_iload (pc := 93) C dX7_bestWall_93 rfl ?_
                refine Go_ishl (pc := 95) C dX7_bestWall_95 ?_
                refine Go_iconst (pc := 96) (v := -1) C dX7_bestWall_96 ci_m1 ?_
                refine Go_ixor (pc := 97) C dX7_bestWall_97 ?_
                refine Go_iand (pc := 98) C dX7_bestWall_98 ?_
                refine Go_put (pc := 99) (ws1 := (w7 K a ((r7.2.1, r7.2.2.1, r7.2.2.2.1, r7.2.2.2.2.1, r7.2.2.2.2.2.1, r7.2.2.2.2.2.2.1, r7.2.2.2.2.2.2.2.1 &&& (((1 : Int32) <<< (q3.2.2.1 &&& 31)) ^^^ (-1 : Int32)), r7.2.2.2.2.2.2.2.2)))) C 0 6 tyX7 tyX7_ok nmX7 rfl rfl inX7 (by decide) mw_635 rfl rfl (Nat.le_of_ble_eq_true rfl) dX7_bestWall_99 (ll_144 _ _ _ _) ?_
                refine Go_iload (pc := 102) C dX7_bestWall_102 rfl ?_
                refine Go_iload_n (pc := 104) C dX7_bestWall_104 rfl ?_
                refine Go_icmp_le (pc := 105) (tgt := 113) C dX7_bestWall_105 (by decide) (fun hc => ?_) (fun hc => ?_)
                · replace hf := ift hc hf
                  refine Go_iload_n (pc := 113) C dX7_bestWall_113 rfl ?_
                  refine Go_istore_n (pc := 114) C dX7_bestWall_114 (by decide) ?_
                  refine Go_iload (pc := 115) C dX7_bestWall_115 rfl ?_
                  refine Go_iload_n (pc := 117) C dX7_bestWall_117 rfl ?_
                  refine Go_icmp_le (pc := 118) (tgt := 126) C dX7_bestWall_118 (by decide) (fun hc => ?_) (fun hc => ?_)
                  · replace hf := ift hc hf
                    refine Go_iload_n (pc := 126) C dX7_bestWall_126 rfl ?_
                    refine Go_istore_n (pc := 127) C dX7_bestWall_127 (by decide) ?_
                    obtain ⟨v9, hv9, hf⟩ := bnd hf
                    refine Go_iinc (pc := 128) (v := v9) C dX7_bestWall_128 rfl (by rw [ci_1]; exact Option.some.inj hv9) ?_
                    refine Go_goto (pc := 131) (tgt := 21) C dX7_bestWall_131 (by decide) ?_
                    obtain rfl := Option.some.inj hf
                    exact Go_mask [true, true, true, true, true, false] hk
                  · replace hf := iff' hc hf
                    refine Go_iload (pc := 121) C dX7_bestWall_121 rfl ?_
                    refine Go_goto (pc := 123) (tgt := 127) C dX7_bestWall_123 (by decide) ?_
                    refine Go_istore_n (pc := 127) C dX7_bestWall_127 (by decide) ?_
                    obtain ⟨v10, hv10, hf⟩ := bnd hf
                    refine Go_iinc (pc := 128) (v := v10) C dX7_bestWall_128 rfl (by rw [ci_1]; exact Option.some.inj hv10) ?_
                    refine Go_goto (pc := 131) (tgt := 21) C dX7_bestWall_131 (by decide) ?_
                    obtain rfl := Option.some.inj hf
                    exact Go_mask [true, true, true, true, true, false] hk
                · replace hf := iff' hc hf
                  refine Go_iload (pc := 108) C dX7_bestWall_108 rfl ?_
                  refine Go_goto (pc := 110) (tgt := 114) C dX7_bestWall_110 (by decide) ?_
                  refine Go_istore_n (pc := 114) C dX7_bestWall_114 (by decide) ?_
                  refine Go_iload (pc := 115) C dX7_bestWall_115 rfl ?_
                  refine Go_iload_n (pc := 117) C dX7_bestWall_117 rfl ?_
                  refine Go_icmp_le (pc := 118) (tgt := 126) C dX7_bestWall_118 (by decide) (fun hc => ?_) (fun hc => ?_)
                  · replace hf := ift hc hf
                    refine Go_iload_n (pc := 126) C dX7_bestWall_126 rfl ?_
                    refine Go_istore_n (pc := 127) C dX7_bestWall_127 (by decide) ?_
                    obtain ⟨v11, hv11, hf⟩ := bnd hf
                    refine Go_iinc (pc := 128) (v := v11) C dX7_bestWall_128 rfl (by rw [ci_1]; exact Option.some.inj hv11) ?_
                    refine Go_goto (pc := 131) (tgt := 21) C dX7_bestWall_131 (by decide) ?_
                    obtain rfl := Option.some.inj hf
                    exact Go_mask [true, true, true, true, true, false] hk
                  · replace hf := iff' hc hf
                    refine Go_iload (pc := 121) C dX7_bestWall_121 rfl ?_
                    refine Go_goto (pc := 123) (tgt := 127) C dX7_bestWall_123 (by decide) ?_
                    refine Go_istore_n (pc := 127) C dX7_bestWall_127 (by decide) ?_
                    obtain ⟨v12, hv12, hf⟩ := bnd hf
                    refine Go_iinc (pc := 128) (v := v12) C dX7_bestWall_128 rfl (by rw [ci_1]; exact Option.some.inj hv12) ?_
                    refine Go_goto (pc := 131) (tgt := 21) C dX7_bestWall_131 (by decide) ?_
                    obtain rfl := Option.some.inj hf
                    exact Go_mask [true, true, true, true, true, false] hk
              · replace hf := iff' hc hf
                obtain ⟨v13, hv13, hf⟩ := bnd hf
                refine Go_iinc (pc := 128) (v := v13) C dX7_bestWall_128 rfl (by rw [ci_1]; exact Option.some.inj hv13) ?_
                refine Go_goto (pc := 131) (tgt := 21) C dX7_bestWall_131 (by decide) ?_
                obtain rfl := Option.some.inj hf
                exact Go_mask [true, true, true, true, true, false] hk
    · show Go _ _ _ _ _ _ _ _ _ _ _ _ _ _ _ _ _ _ _ _ _
      refine Go_iload_n (pc := 134) C dX7_bestWall_134 rfl ?_
      refine Go_if_ne (pc := 135) (tgt := 142) C dX7_bestWall_135 (by decide) (fun hc => ?_) (fun hc => ?_)
      · replace hf := ift hc hf
        refine Go_iload_n (pc := 138) C dX7_bestWall_138 rfl ?_
        refine Go_goto (pc := 139) (tgt := 143) C dX7_bestWall_139 (by decide) ?_
        obtain rfl := Option.some.inj hf
        exact Go_iret C hr rfl dX7_bestWall_143
      · replace hf := iff' hc hf
        refine Go_iload_n (pc := 142) C dX7_bestWall_142 rfl ?_
        obtain rfl := Option.some.inj hf
        exact Go_iret C hr rfl dX7_bestWall_143
def fX7_tall (p0 : Int32) : Option (Int32) := Option.bind (fX7_ones (p0 &&& (4095 : Int32))) (fun r1 => some (r1 + ((p0 >>> ((12 : Int32) &&& 31)) &&& (1 : Int32))))
theorem ycX7_tall : CalS yX7_tall cX7_tall 1 ((some .int)) 1 := ⟨mw_917, mw_69, mw_916, ⟨by decide, by decide, by decide +kernel⟩, by decide⟩
set_option maxHeartbeats 4000000 in
set_option maxRecDepth 100000 in
theorem kX7_tall (l : Launch) (K : KK) (p0 : Int32) (res : Int32) (hf : fX7_tall p0 = some res) : Ct l K yX7_tall cX7_tall 1 ((some .int)) 1 [.int p0] ([] : va_W) (some (.int res)) ([] : va_W) := by
  refine Ct_of2 (by decide) rfl (Nat.le_of_ble_eq_true rfl) ?_
  intro p e σ m args below meth c C hr
  unfold fX7_tall at hf
  refine Go_iload_n (pc := 0) C dX7_tall_0 rfl ?_
  refine Go_sipush (pc := 1) (v := 4095) C dX7_tall_1 cs_4095 ?_
  refine Go_iand (pc := 4) C dX7_tall_4 ?_
  obtain ⟨r1, hr1, hf⟩ := bnd hf
  refine Go_callS1 (pc := 5) (ws1 := ([] : va_W)) C [] (kX7_ones l K (p0 &&& (4095 : Int32)) r1 hr1) ycX7_ones mw_781 (Nat.le_of_ble_eq_true rfl) rfl rfl (Nat.le_of_ble_eq_true rfl) ⟨Nat.zero_le _, Nat.zero_le _⟩ dX7_tall_5 rfl rfl rfl (Wr_same rfl) ?_
  refine Go_iload_n (pc := 8) C dX7_tall_8 rfl ?_
  refine Go_bipush (pc := 9) (v := 12) C dX7_tall_9 cb_12 ?_
  refine Go_ishr (pc := 11) C dX7_tall_11 ?_
  refine Go_iconst (pc := 12) (v := 1) C dX7_tall_12 ci_1 ?_
  refine Go_iand (pc := 13) C dX7_tall_13 ?_
  refine Go_iadd (pc := 14) C dX7_tall_14 ?_
  obtain rfl := Option.some.inj hf
  exact Go_iret C hr rfl dX7_tall_15
def fX7_bestCell_L47 (p1 : Int32) (q6 : Int32 × Int32 × Int32 × S7) : Option ((Int32 × Int32 × Int32 × S7) ⊕ (Int32 × Int32 × Int32 × S7)) := (if (96 : Int32) ≤ q6.2.2.1 then some (.inr (q6.1, q6.2.1, q6.2.2.1, q6.2.2.2)) else Option.bind (fX7_pillarAt q6.2.2.2 q6.2.2.1) (fun r7 => (if r7 = (-1 : Int32) then (if 0 ≤ (12 : Int32) ∧ (12 : Int32).toNatClampNeg < 13 then (if 0 ≤ (12 : Int32) ∧ (12 : Int32).toNatClampNeg < 13 then Option.bind (fX7_left ((q6.2.2.2.1, q6.2.2.2.2.1, q6.2.2.2.2.2.1, upd q6.2.2.2.2.2.2.1 (12 : Int32).toNatClampNeg q6.2.2.1, upd q6.2.2.2.2.2.2.2.1 (12 : Int32).toNatClampNeg p1, q6.2.2.2.2.2.2.2.2)) (q6.2.2.2.2.2.2.2.2.1 ||| (4096 : Int32))) (fun r8 => Option.bind (fX7_tall r8.1) (fun r9 => (if r9 ≤ q6.2.1 then (if r9 ≤ q6.2.1 then Option.bind (some (q6.2.2.1 + (1 : Int32))) (fun v10 => some (.inl (q6.1, q6.2.1, v10, r8.2))) else Option.bind (some (q6.2.2.1 + (1 : Int32))) (fun v11 => some (.inl (q6.1, r9, v11, r8.2)))) else (if r9 ≤ q6.2.1 then Option.bind (some (q6.2.2.1 + (1 : Int32))) (fun v12 => some (.inl (q6.2.2.1, q6.2.1, v12, r8.2))) else Option.bind (some (q6.2.2.1 + (1 : Int32))) (fun v13 => some (.inl (q6.2.2.1, r9, v13, r8.2))))))) else none) else none) else Option.bind (some (q6.2.2.1 + (1 : Int32))) (fun v14 => some (.inl (q6.1, q6.2.1, v14, q6.2.2.2))))))
def fX7_bestCell (s0 : S7) (p1 : Int32) (p2 : Int32) : Option (Int32 × S7) := Option.bind (fX7_in p1 (0 : Int32) (999 : Int32)) (fun r1 => (if r1 = 0 then Option.bind (fX7_bad s0) (fun r2 => some (r2.1, r2.2)) else Option.bind (fX7_in p2 (0 : Int32) (1 : Int32)) (fun r3 => (if r3 = 0 then Option.bind (fX7_bad s0) (fun r4 => some (r4.1, r4.2)) else (if s0.2.2.1 = (12 : Int32) then Option.bind (fX7_no s0) (fun r5 => some (r5.1, r5.2)) else Option.bind (loopF (fX7_bestCell_L47 p1) 5000 ((-1 : Int32), (-1 : Int32), (0 : Int32), s0)) (fun z15 => (if p2 = 0 then some (z15.1, z15.2.2.2) else some (z15.2.1, z15.2.2.2))))))))
theorem ycX7_bestCell : CalV yX7_bestCell cX7_bestCell 7 ((some .int)) 2 := ⟨mw_914, mw_69, mw_912, mw_913, ⟨by decide, by decide, by decide +kernel⟩, by decide⟩
set_option maxHeartbeats 4000000 in
set_option maxRecDepth 100000 in
theorem kX7_bestCell (l : Launch) (K : KK) (a : Nat → Nat) (s0 : S7) (p1 : Int32) (p2 : Int32) (res : Int32 × S7) (hf : fX7_bestCell s0 p1 p2 = some res) : Ct l K yX7_bestCell cX7_bestCell 7 ((some .int)) 5 [.ref (a 0), .int p1, .int p2] (w7 K a s0) (some (.int res.1)) (w7 K a res.2) := by
  refine Ct_of2 (by decide) rfl (Nat.le_of_ble_eq_true rfl) ?_
  intro p e σ m args below meth c C hr
  unfold fX7_bestCell at hf
  refine Go_iload_n (pc := 0) C dX7_bestCell_0 rfl ?_
  refine Go_iconst (pc := 1) (v := 0) C dX7_bestCell_1 ci_0 ?_
  refine Go_sipush (pc := 2) (v := 999) C dX7_bestCell_2 cs_999 ?_
  obtain ⟨r1, hr1, hf⟩ := bnd hf
  refine Go_callS1 (pc := 5) (ws1 := (w7 K a s0)) C [] (kX7_in l K p1 (0 : Int32) (999 : Int32) r1 hr1) ycX7_in mw_722 (Nat.le_of_ble_eq_true rfl) rfl rfl (Nat.le_of_ble_eq_true rfl) ⟨Nat.zero_le _, Nat.zero_le _⟩ dX7_bestCell_5 rfl rfl rfl (Wr_same rfl) ?_
  refine Go_if_eq (pc := 8) (tgt := 20) C dX7_bestCell_8 (by decide) (fun hc => ?_) (fun hc => ?_)
  · replace hf := ift hc hf
    refine Go_aload_n (pc := 20) C dX7_bestCell_20 rfl ?_
    obtain ⟨r2, hr2, hf⟩ := bnd hf
    refine Go_callV1 (pc := 21) (ws1 := (w7 K a r2.2)) C 0 (0 :: 1 :: 2 :: 3 :: 4 :: 5 :: 6 :: 7 :: 8 :: 9 :: 10 :: 11 :: 12 :: 13 :: []) (kX7_bad l K (pk a (0 :: 1 :: 2 :: 3 :: 4 :: 5 :: 6 :: 7 :: 8 :: 9 :: 10 :: 11 :: 12 :: 13 :: [])) s0 r2 hr2) ycX7_bad mw_725 (Nat.le_of_ble_eq_true rfl) rfl rfl rfl rfl (Nat.le_of_ble_eq_true rfl) ⟨Nat.zero_le _, Nat.zero_le _⟩ dX7_bestCell_21 (ll_149 _ _ _) rfl rfl (ll_150 _ _ _ _) ?_
    obtain rfl := Option.some.inj hf
    exact Go_iret C hr rfl dX7_bestCell_24
  · replace hf := iff' hc hf
    refine Go_iload_n (pc := 11) C dX7_bestCell_11 rfl ?_
    refine Go_iconst (pc := 12) (v := 0) C dX7_bestCell_12 ci_0 ?_
    refine Go_iconst (pc := 13) (v := 1) C dX7_bestCell_13 ci_1 ?_
    obtain ⟨r3, hr3, hf⟩ := bnd hf
    refine Go_callS1 (pc := 14) (ws1 := (w7 K a s0)) C [] (kX7_in l K p2 (0 : Int32) (1 : Int32) r3 hr3) ycX7_in mw_722 (Nat.le_of_ble_eq_true rfl) rfl rfl (Nat.le_of_ble_eq_true rfl) ⟨Nat.zero_le _, Nat.zero_le _⟩ dX7_bestCell_14 rfl rfl rfl (Wr_same rfl) ?_
    refine Go_if_ne (pc := 17) (tgt := 25) C dX7_bestCell_17 (by decide) (fun hc => ?_) (fun hc => ?_)
    · replace hf := ift hc hf
      refine Go_aload_n (pc := 20) C dX7_bestCell_20 rfl ?_
      obtain ⟨r4, hr4, hf⟩ := bnd hf
      refine Go_callV1 (pc := 21) (ws1 := (w7 K a r4.2)) C 0 (0 :: 1 :: 2 :: 3 :: 4 :: 5 :: 6 :: 7 :: 8 :: 9 :: 10 :: 11 :: 12 :: 13 :: []) (kX7_bad l K (pk a (0 :: 1 :: 2 :: 3 :: 4 :: 5 :: 6 :: 7 :: 8 :: 9 :: 10 :: 11 :: 12 :: 13 :: [])) s0 r4 hr4) ycX7_bad mw_725 (Nat.le_of_ble_eq_true rfl) rfl rfl rfl rfl (Nat.le_of_ble_eq_true rfl) ⟨Nat.zero_le _, Nat.zero_le _⟩ dX7_bestCell_21 (ll_149 _ _ _) rfl rfl (ll_150 _ _ _ _) ?_
      obtain rfl := Option.some.inj hf
      exact Go_iret C hr rfl dX7_bestCell_24
    · replace hf := iff' hc hf
      refine Go_aload_n (pc := 25) C dX7_bestCell_25 rfl ?_
      refine Go_get (pc := 26) C 0 2 rfl rfl inX7 (by decide) mw_631 rfl dX7_bestCell_26 ?_
      refine Go_bipush (pc := 29) (v := 12) C dX7_bestCell_29 cb_12 ?_
      refine Go_icmp_ne (pc := 31) (tgt := 39) C dX7_bestCell_31 (by decide) (fun hc => ?_) (fun hc => ?_)
      · replace hf := ift hc hf
        refine Go_aload_n (pc := 34) C dX7_bestCell_34 rfl ?_
        obtain ⟨r5, hr5, hf⟩ := bnd hf
        refine Go_callV1 (pc := 35) (ws1 := (w7 K a r5.2)) C 0 (0 :: 1 :: 2 :: 3 :: 4 :: 5 :: 6 :: 7 :: 8 :: 9 :: 10 :: 11 :: 12 :: 13 :: []) (kX7_no l K (pk a (0 :: 1 :: 2 :: 3 :: 4 :: 5 :: 6 :: 7 :: 8 :: 9 :: 10 :: 11 :: 12 :: 13 :: [])) s0 r5 hr5) ycX7_no mw_703 (Nat.le_of_ble_eq_true rfl) rfl rfl rfl rfl (Nat.le_of_ble_eq_true rfl) ⟨Nat.zero_le _, Nat.zero_le _⟩ dX7_bestCell_35 (ll_149 _ _ _) rfl rfl (ll_150 _ _ _ _) ?_
        obtain rfl := Option.some.inj hf
        exact Go_iret C hr rfl dX7_bestCell_38
      · replace hf := iff' hc hf
        refine Go_iconst (pc := 39) (v := -1) C dX7_bestCell_39 ci_m1 ?_
        refine Go_istore_n (pc := 40) C dX7_bestCell_40 (by decide) ?_
        refine Go_iconst (pc := 41) (v := -1) C dX7_bestCell_41 ci_m1 ?_
        refine Go_istore (pc := 42) C dX7_bestCell_42 (by decide) ?_
        refine Go_iconst (pc := 44) (v := 0) C dX7_bestCell_44 ci_0 ?_
        refine Go_istore (pc := 45) C dX7_bestCell_45 (by decide) ?_
        obtain ⟨z15, hz15, hf⟩ := bnd hf
        refine Go_mask [true, true, true, true, true, true, false] ?_
        refine loopF_go (step := (fX7_bestCell_L47 p1)) (fun q6 => Go p l e (rmc 5 0 0) σ m args below meth c K (inW (w7 K a s0)) σ.heap 7 0 0 (MQ below (CtQ K (w7 K a s0) (some (.int res.1)) (w7 K a res.2)) args σ 0 0 (inW (w7 K a s0))) (w7 K a q6.2.2.2) 47 [some (.ref (a 0)), some (.int p1), some (.int p2), some (.int q6.1), some (.int q6.2.1), some (.int q6.2.2.1), none] []) (fun z15 => Go p l e (rmc 5 0 0) σ m args below meth c K (inW (w7 K a s0)) σ.heap 7 0 0 (MQ below (CtQ K (w7 K a s0) (some (.int res.1)) (w7 K a res.2)) args σ 0 0 (inW (w7 K a s0))) (w7 K a z15.2.2.2) 134 [some (.ref (a 0)), some (.int p1), some (.int p2), some (.int z15.1), some (.int z15.2.1), some (.int z15.2.2.1), none] []) ?_ _ _ _ hz15 ?_
        · intro q6 x hf hk
          unfold fX7_bestCell_L47 at hf
          refine Go_iload (pc := 47) C dX7_bestCell_47 rfl ?_
          refine Go_bipush (pc := 49) (v := 96) C dX7_bestCell_49 cb_96 ?_
          refine Go_icmp_ge (pc := 51) (tgt := 134) C dX7_bestCell_51 (by decide) (fun hc => ?_) (fun hc => ?_)
          · replace hf := ift hc hf
            obtain rfl := Option.some.inj hf
            exact Go_mask [true, true, true, true, true, true, false] hk
          · replace hf := iff' hc hf
            refine Go_aload_n (pc := 54) C dX7_bestCell_54 rfl ?_
            refine Go_iload (pc := 55) C dX7_bestCell_55 rfl ?_
            obtain ⟨r7, hr7, hf⟩ := bnd hf
            refine Go_callV1 (pc := 57) (ws1 := (w7 K a q6.2.2.2)) C 0 (0 :: 1 :: 2 :: 3 :: 4 :: 5 :: 6 :: 7 :: 8 :: 9 :: 10 :: 11 :: 12 :: 13 :: []) (kX7_pillarAt l K (pk a (0 :: 1 :: 2 :: 3 :: 4 :: 5 :: 6 :: 7 :: 8 :: 9 :: 10 :: 11 :: 12 :: 13 :: [])) q6.2.2.2 q6.2.2.1 r7 hr7) ycX7_pillarAt mw_729 (Nat.le_of_ble_eq_true rfl) rfl rfl rfl rfl (Nat.le_of_ble_eq_true rfl) ⟨Nat.zero_le _, Nat.zero_le _⟩ dX7_bestCell_57 (ll_149 _ _ _) rfl rfl (Wr_same (ll_149 _ _ _)) ?_
            refine Go_iconst (pc := 60) (v := -1) C dX7_bestCell_60 ci_m1 ?_
            refine Go_icmp_ne (pc := 61) (tgt := 128) C dX7_bestCell_61 (by decide) (fun hc => ?_) (fun hc => ?_)
            · replace hf := ift hc hf
              refine Go_aload_n (pc := 64) C dX7_bestCell_64 rfl ?_
              refine Go_get (pc := 65) C 0 3 rfl rfl inX7 (by decide) mw_632 rfl dX7_bestCell_65 ?_
              refine Go_bipush (pc := 68) (v := 12) C dX7_bestCell_68 cb_12 ?_
              refine Go_iload (pc := 70) C dX7_bestCell_70 rfl ?_
              obtain ⟨hb, hf⟩ := ifs hf
              refine Go_iast (pc := 72) (ws1 := (w7 K a ((q6.2.2.2.1, q6.2.2.2.2.1, q6.2.2.2.2.2.1, upd q6.2.2.2.2.2.2.1 (12 : Int32).toNatClampNeg q6.2.2.1, q6.2.2.2.2.2.2.2)))) C 3 rfl (inb_in hb) dX7_bestCell_72 (ll_145 _ _ _ _) ?_
              refine Go_aload_n (pc := 73) C dX7_bestCell_73 rfl ?_
              refine Go_get (pc := 74) C 0 4 rfl rfl inX7 (by decide) mw_633 rfl dX7_bestCell_74 ?_
              refine Go_bipush (pc := 77) (v := 12) C dX7_bestCell_77 cb_12 ?_
              refine Go_iload_n (pc := 79) C dX7_bestCell_79 rfl ?_
              obtain ⟨hb, hf⟩ := ifs hf
              refine Go_iast (pc := 80) (ws1 := (w7 K a ((q6.2.2.2.1, q6.2.2.2.2.1, q6.2.2.2.2.2.1, upd q6.2.2.2.2.2.2.1 (12 : Int32).toNatClampNeg q6.2.2.1, upd q6.2.2.2.2.2.2.2.1 (12 : Int32).toNatClampNeg p1, q6.2.2.2.2.2.2.2.2)))) C 4 rfl (inb_in hb) dX7_bestCell_80 (ll_146 _ _ _ _) ?_
              refine Go_aload_n (pc := 81) C dX7_bestCell_81 rfl ?_
              refine Go_aload_n (pc := 82) C dX7_bestCell_82 rfl ?_
              refine Go_get (pc := 83) C 0 5 rfl rfl inX7 (by decide) mw_634 rfl dX7_bestCell_83 ?_
              refine Go_sipush (pc := 86) (v := 4096) C dX7_bestCell_86 cs_4096 ?_
              refine Go_ior (pc := 89) C dX7_bestCell_89 ?_
              obtain ⟨r8, hr8, hf⟩ := bnd hf
              refine Go_callV1 (pc := 90) (ws1 := (w7 K a r8.2)) C 0 (0 :: 1 :: 2 :: 3 :: 4 :: 5 :: 6 :: 7 :: 8 :: 9 :: 10 :: 11 :: 12 :: 13 :: []) (kX7_left l K (pk a (0 :: 1 :: 2 :: 3 :: 4 :: 5 :: 6 :: 7 :: 8 :: 9 :: 10 :: 11 :: 12 :: 13 :: [])) ((q6.2.2.2.1, q6.2.2.2.2.1, q6.2.2.2.2.2.1, upd q6.2.2.2.2.2.2.1 (12 : Int32).toNatClampNeg q6.2.2.1, upd q6.2.2.2.2.2.2.2.1 (12 : Int32).toNatClampNeg p1, q6.2.2.2.2.2.2.2.2)) (q6.2.2.2.2.2.2.2.2.1 ||| (4096 : Int32)) r8 hr8) ycX7_left mw_887 (Nat.le_of_ble_eq_true rfl) rfl rfl rfl rfl (Nat.le_of_ble_eq_true rfl) ⟨Nat.zero_le _, Nat.zero_le _⟩ dX7_bestCell_90 (ll_149 _ _ _) rfl rfl (ll_150 _ _ _ _) ?_
              obtain ⟨r9, hr9, hf⟩ := bnd hf
              refine Go_callS1 (pc := 93) (ws1 := (w7 K a r8.2)) C [] (kX7_tall l K r8.1 r9 hr9) ycX7_tall mw_915 (Nat.le_of_ble_eq_true rfl) rfl rfl (Nat.le_of_ble_eq_true rfl) ⟨Nat.zero_le _, Nat.zero_le _⟩ dX7_bestCell_93 rfl rfl rfl (Wr_same rfl) ?_
              refine Go_istore (pc := 96) C dX7_bestCell_96 (by decide) ?_
              refine Go_iload (pc := 98) C dX7_bestCell_98 rfl ?_
              refine Go_iload (pc := 100) C dX7_bestCell_100 rfl ?_
              refine Go_icmp_le (pc := 102) (tgt := 110) C dX7_bestCell_102 (by decide) (fun hc => ?_) (fun hc => ?_)
              · replace hf := ift hc hf
                refine Go_iload_n (pc := 110) C dX7_bestCell_110 rfl ?_
                refine Go_istore_n (pc := 111) C dX7_bestCell_111 (by decide) ?_
                refine Go_iload (pc := 112) C dX7_bestCell_112 rfl ?_
                refine Go_iload (pc := 114) C dX7_bestCell_114 rfl ?_
                refine Go_icmp_le (pc := 116) (tgt := 124) C dX7_bestCell_116 (by decide) (fun hc => ?_) (fun hc => ?_)
                · replace hf := ift hc hf
                  refine Go_iload (pc := 124) C dX7_bestCell_124 rfl ?_
                  refine Go_istore (pc := 126) C dX7_bestCell_126 (by decide) ?_
                  obtain ⟨v10, hv10, hf⟩ := bnd hf
                  refine Go_iinc (pc := 128) (v := v10) C dX7_bestCell_128 rfl (by rw [ci_1]; exact Option.some.inj hv10) ?_
                  refine Go_goto (pc := 131) (tgt := 47) C dX7_bestCell_131 (by decide) ?_
                  obtain rfl := Option.some.inj hf
                  exact Go_mask [true, true, true, true, true, true, false] hk
                · replace hf := iff' hc hf
                  refine Go_iload (pc := 119) C dX7_bestCell_119 rfl ?_
                  refine Go_goto (pc := 121) (tgt := 126) C dX7_bestCell_121 (by decide) ?_
                  refine Go_istore (pc := 126) C dX7_bestCell_126 (by decide) ?_
                  obtain ⟨v11, hv11, hf⟩ := bnd hf
                  refine Go_iinc (pc := 128) (v := v11) C dX7_bestCell_128 rfl (by rw [ci_1]; exact Option.some.inj hv11) ?_
                  refine Go_goto (pc := 131) (tgt := 47) C dX7_bestCell_131 (by decide) ?_
                  obtain rfl := Option.some.inj hf
                  exact Go_mask [true, true, true, true, true, true, false] hk
              · replace hf := iff' hc hf
                refine Go_iload (pc := 105) C dX7_bestCell_105 rfl ?_
                refine Go_goto (pc := 107) (tgt := 111) C dX7_bestCell_107 (by decide) ?_
                refine Go_istore_n (pc := 111) C dX7_bestCell_111 (by decide) ?_
                refine Go_iload (pc := 112) C dX7_bestCell_112 rfl ?_
                refine Go_iload (pc := 114) C dX7_bestCell_114 rfl ?_
                refine Go_icmp_le (pc := 116) (tgt := 124) C dX7_bestCell_116 (by decide) (fun hc => ?_) (fun hc => ?_)
                · replace hf := ift hc hf
                  refine Go_iload (pc := 124) C dX7_bestCell_124 rfl ?_
                  refine Go_istore (pc := 126) C dX7_bestCell_126 (by decide) ?_
                  obtain ⟨v12, hv12, hf⟩ := bnd hf
                  refine Go_iinc (pc := 128) (v := v12) C dX7_bestCell_128 rfl (by rw [ci_1]; exact Option.some.inj hv12) ?_
                  refine Go_goto (pc := 131) (tgt := 47) C dX7_bestCell_131 (by decide) ?_
                  obtain rfl := Option.some.inj hf
                  exact Go_mask [true, true, true, true, true, true, false] hk
                · replace hf := iff' hc hf
                  refine Go_iload (pc := 119) C dX7_bestCell_119 rfl ?_
                  refine Go_goto (pc := 121) (tgt := 126) C dX7_bestCell_121 (by decide) ?_
                  refine Go_istore (pc := 126) C dX7_bestCell_126 (by decide) ?_
                  obtain ⟨v13, hv13, hf⟩ := bnd hf
                  refine Go_iinc (pc := 128) (v := v13) C dX7_bestCell_128 rfl (by rw [ci_1]; exact Option.some.inj hv13) ?_
                  refine Go_goto (pc := 131) (tgt := 47) C dX7_bestCell_131 (by decide) ?_
                  obtain rfl := Option.some.inj hf
                  exact Go_mask [true, true, true, true, true, true, false] hk
            · replace hf := iff' hc hf
              obtain ⟨v14, hv14, hf⟩ := bnd hf
              refine Go_iinc (pc := 128) (v := v14) C dX7_bestCell_128 rfl (by rw [ci_1]; exact Option.some.inj hv14) ?_
              refine Go_goto (pc := 131) (tgt := 47) C dX7_bestCell_131 (by decide) ?_
              obtain rfl := Option.some.inj hf
              exact Go_mask [true, true, true, true, true, true, false] hk
        · show Go _ _ _ _ _ _ _ _ _ _ _ _ _ _ _ _ _ _ _ _ _
          refine Go_iload_n (pc := 134) C dX7_bestCell_134 rfl ?_
          refine Go_if_ne (pc := 135) (tgt := 142) C dX7_bestCell_135 (by decide) (fun hc => ?_) (fun hc => ?_)
          · replace hf := ift hc hf
            refine Go_iload_n (pc := 138) C dX7_bestCell_138 rfl ?_
            refine Go_goto (pc := 139) (tgt := 144) C dX7_bestCell_139 (by decide) ?_
            obtain rfl := Option.some.inj hf
            exact Go_iret C hr rfl dX7_bestCell_144
          · replace hf := iff' hc hf
            refine Go_iload (pc := 142) C dX7_bestCell_142 rfl ?_
            obtain rfl := Option.some.inj hf
            exact Go_iret C hr rfl dX7_bestCell_144
theorem ll_157 (K : KK) (a : Nat → Nat) (t0 : S7) (y : Nat → Int32) : List.set (w7 K a t0) 11 (a 11, .inl (K.2.1, 120, .inl y)) = (w7 K a ((t0.1, t0.2.1, t0.2.2.1, t0.2.2.2.1, t0.2.2.2.2.1, t0.2.2.2.2.2.1, t0.2.2.2.2.2.2.1, t0.2.2.2.2.2.2.2.1, t0.2.2.2.2.2.2.2.2.1, t0.2.2.2.2.2.2.2.2.2.1, t0.2.2.2.2.2.2.2.2.2.2.1, t0.2.2.2.2.2.2.2.2.2.2.2.1, t0.2.2.2.2.2.2.2.2.2.2.2.2.1, t0.2.2.2.2.2.2.2.2.2.2.2.2.2.1, t0.2.2.2.2.2.2.2.2.2.2.2.2.2.2.1, y, t0.2.2.2.2.2.2.2.2.2.2.2.2.2.2.2.2))) := rfl
theorem ll_158 (K : KK) (a : Nat → Nat) (t0 : S7) (y : Int32) : List.set (w7 K a t0) 0 (a 0, .inr (7, List.set [.ref (a 1), .ref (a 2), .int (t0.2.2.1), .ref (a 3), .ref (a 4), .int (t0.2.2.2.2.2.1), .int (t0.2.2.2.2.2.2.1), .int (t0.2.2.2.2.2.2.2.1), .ref (a 5), .ref (a 6), .ref (a 7), .ref (a 8), .ref (a 9), .int (t0.2.2.2.2.2.2.2.2.2.2.2.2.2.1), .ref (a 10), .ref (a 11), .int (t0.2.2.2.2.2.2.2.2.2.2.2.2.2.2.2.2.1), .int (t0.2.2.2.2.2.2.2.2.2.2.2.2.2.2.2.2.2.1), .int (t0.2.2.2.2.2.2.2.2.2.2.2.2.2.2.2.2.2.2.1), .int (t0.2.2.2.2.2.2.2.2.2.2.2.2.2.2.2.2.2.2.2.1), .int (t0.2.2.2.2.2.2.2.2.2.2.2.2.2.2.2.2.2.2.2.2.1), .ref (a 12), .ref (a 13)] 16 (.int y))) = (w7 K a ((t0.1, t0.2.1, t0.2.2.1, t0.2.2.2.1, t0.2.2.2.2.1, t0.2.2.2.2.2.1, t0.2.2.2.2.2.2.1, t0.2.2.2.2.2.2.2.1, t0.2.2.2.2.2.2.2.2.1, t0.2.2.2.2.2.2.2.2.2.1, t0.2.2.2.2.2.2.2.2.2.2.1, t0.2.2.2.2.2.2.2.2.2.2.2.1, t0.2.2.2.2.2.2.2.2.2.2.2.2.1, t0.2.2.2.2.2.2.2.2.2.2.2.2.2.1, t0.2.2.2.2.2.2.2.2.2.2.2.2.2.2.1, t0.2.2.2.2.2.2.2.2.2.2.2.2.2.2.2.1, y, t0.2.2.2.2.2.2.2.2.2.2.2.2.2.2.2.2.2))) := rfl
def fX7_type (s0 : S7) (p1 : Int32) : Option (Int32 × S7) := Option.bind (fX7_in p1 (0 : Int32) (127 : Int32)) (fun r1 => (if r1 = 0 then Option.bind (fX7_bad s0) (fun r2 => some (r2.1, r2.2)) else (if s0.2.2.2.2.2.2.2.2.2.2.2.2.2.2.2.2.1 = (120 : Int32) then Option.bind (fX7_full s0) (fun r3 => some (r3.1, r3.2)) else (if 0 ≤ s0.2.2.2.2.2.2.2.2.2.2.2.2.2.2.2.2.1 ∧ s0.2.2.2.2.2.2.2.2.2.2.2.2.2.2.2.2.1.toNatClampNeg < 120 then some (s0.2.2.2.2.2.2.2.2.2.2.2.2.2.2.2.2.1 + (1 : Int32), (s0.1, s0.2.1, s0.2.2.1, s0.2.2.2.1, s0.2.2.2.2.1, s0.2.2.2.2.2.1, s0.2.2.2.2.2.2.1, s0.2.2.2.2.2.2.2.1, s0.2.2.2.2.2.2.2.2.1, s0.2.2.2.2.2.2.2.2.2.1, s0.2.2.2.2.2.2.2.2.2.2.1, s0.2.2.2.2.2.2.2.2.2.2.2.1, s0.2.2.2.2.2.2.2.2.2.2.2.2.1, s0.2.2.2.2.2.2.2.2.2.2.2.2.2.1, s0.2.2.2.2.2.2.2.2.2.2.2.2.2.2.1, upd s0.2.2.2.2.2.2.2.2.2.2.2.2.2.2.2.1 s0.2.2.2.2.2.2.2.2.2.2.2.2.2.2.2.2.1.toNatClampNeg p1, s0.2.2.2.2.2.2.2.2.2.2.2.2.2.2.2.2.1 + (1 : Int32), s0.2.2.2.2.2.2.2.2.2.2.2.2.2.2.2.2.2)) else none))))
theorem ycX7_type : CalV yX7_type cX7_type 2 ((some .int)) 1 := ⟨mw_921, mw_69, mw_919, mw_920, ⟨by decide, by decide, by decide +kernel⟩, by decide⟩
set_option maxHeartbeats 4000000 in
set_option maxRecDepth 100000 in
theorem kX7_type (l : Launch) (K : KK) (a : Nat → Nat) (s0 : S7) (p1 : Int32) (res : Int32 × S7) (hf : fX7_type s0 p1 = some res) : Ct l K yX7_type cX7_type 2 ((some .int)) 1 [.ref (a 0), .int p1] (w7 K a s0) (some (.int res.1)) (w7 K a res.2) := by
  refine Ct_of2 (by decide) rfl (Nat.le_of_ble_eq_true rfl) ?_
  intro p e σ m args below meth c C hr
  unfold fX7_type at hf
  refine Go_iload_n (pc := 0) C dX7_type_0 rfl ?_
  refine Go_iconst (pc := 1) (v := 0) C dX7_type_1 ci_0 ?_
  refine Go_bipush (pc := 2) (v := 127) C dX7_type_2 cb_127 ?_
  obtain ⟨r1, hr1, hf⟩ := bnd hf
  refine Go_callS1 (pc := 4) (ws1 := (w7 K a s0)) C [] (kX7_in l K p1 (0 : Int32) (127 : Int32) r1 hr1) ycX7_in mw_722 (Nat.le_of_ble_eq_true rfl) rfl rfl (Nat.le_of_ble_eq_true rfl) ⟨Nat.zero_le _, Nat.zero_le _⟩ dX7_type_4 rfl rfl rfl (Wr_same rfl) ?_
  refine Go_if_ne (pc := 7) (tgt := 15) C dX7_type_7 (by decide) (fun hc => ?_) (fun hc => ?_)
  · replace hf := ift hc hf
    refine Go_aload_n (pc := 10) C dX7_type_10 rfl ?_
    obtain ⟨r2, hr2, hf⟩ := bnd hf
    refine Go_callV1 (pc := 11) (ws1 := (w7 K a r2.2)) C 0 (0 :: 1 :: 2 :: 3 :: 4 :: 5 :: 6 :: 7 :: 8 :: 9 :: 10 :: 11 :: 12 :: 13 :: []) (kX7_bad l K (pk a (0 :: 1 :: 2 :: 3 :: 4 :: 5 :: 6 :: 7 :: 8 :: 9 :: 10 :: 11 :: 12 :: 13 :: [])) s0 r2 hr2) ycX7_bad mw_725 (Nat.le_of_ble_eq_true rfl) rfl rfl rfl rfl (Nat.le_of_ble_eq_true rfl) ⟨Nat.zero_le _, Nat.zero_le _⟩ dX7_type_11 (ll_149 _ _ _) rfl rfl (ll_150 _ _ _ _) ?_
    obtain rfl := Option.some.inj hf
    exact Go_iret C hr rfl dX7_type_14
  · replace hf := iff' hc hf
    refine Go_aload_n (pc := 15) C dX7_type_15 rfl ?_
    refine Go_get (pc := 16) C 0 16 rfl rfl inX7 (by decide) mw_645 rfl dX7_type_16 ?_
    refine Go_bipush (pc := 19) (v := 120) C dX7_type_19 cb_120 ?_
    refine Go_icmp_ne (pc := 21) (tgt := 29) C dX7_type_21 (by decide) (fun hc => ?_) (fun hc => ?_)
    · replace hf := ift hc hf
      refine Go_aload_n (pc := 24) C dX7_type_24 rfl ?_
      obtain ⟨r3, hr3, hf⟩ := bnd hf
      refine Go_callV1 (pc := 25) (ws1 := (w7 K a r3.2)) C 0 (0 :: 1 :: 2 :: 3 :: 4 :: 5 :: 6 :: 7 :: 8 :: 9 :: 10 :: 11 :: 12 :: 13 :: []) (kX7_full l K (pk a (0 :: 1 :: 2 :: 3 :: 4 :: 5 :: 6 :: 7 :: 8 :: 9 :: 10 :: 11 :: 12 :: 13 :: [])) s0 r3 hr3) ycX7_full mw_733 (Nat.le_of_ble_eq_true rfl) rfl rfl rfl rfl (Nat.le_of_ble_eq_true rfl) ⟨Nat.zero_le _, Nat.zero_le _⟩ dX7_type_25 (ll_149 _ _ _) rfl rfl (ll_150 _ _ _ _) ?_
      obtain rfl := Option.some.inj hf
      exact Go_iret C hr rfl dX7_type_28
    · replace hf := iff' hc hf
      refine Go_aload_n (pc := 29) C dX7_type_29 rfl ?_
      refine Go_get (pc := 30) C 0 15 rfl rfl inX7 (by decide) mw_644 rfl dX7_type_30 ?_
      refine Go_aload_n (pc := 33) C dX7_type_33 rfl ?_
      refine Go_get (pc := 34) C 0 16 rfl rfl inX7 (by decide) mw_645 rfl dX7_type_34 ?_
      refine Go_iload_n (pc := 37) C dX7_type_37 rfl ?_
      obtain ⟨hb, hf⟩ := ifs hf
      refine Go_iast (pc := 38) (ws1 := (w7 K a ((s0.1, s0.2.1, s0.2.2.1, s0.2.2.2.1, s0.2.2.2.2.1, s0.2.2.2.2.2.1, s0.2.2.2.2.2.2.1, s0.2.2.2.2.2.2.2.1, s0.2.2.2.2.2.2.2.2.1, s0.2.2.2.2.2.2.2.2.2.1, s0.2.2.2.2.2.2.2.2.2.2.1, s0.2.2.2.2.2.2.2.2.2.2.2.1, s0.2.2.2.2.2.2.2.2.2.2.2.2.1, s0.2.2.2.2.2.2.2.2.2.2.2.2.2.1, s0.2.2.2.2.2.2.2.2.2.2.2.2.2.2.1, upd s0.2.2.2.2.2.2.2.2.2.2.2.2.2.2.2.1 s0.2.2.2.2.2.2.2.2.2.2.2.2.2.2.2.2.1.toNatClampNeg p1, s0.2.2.2.2.2.2.2.2.2.2.2.2.2.2.2.2)))) C 11 rfl (inb_in hb) dX7_type_38 (ll_157 _ _ _ _) ?_
      refine Go_aload_n (pc := 39) C dX7_type_39 rfl ?_
      refine Go_dup (pc := 40) C dX7_type_40 rfl ?_
      refine Go_get (pc := 41) C 0 16 rfl rfl inX7 (by decide) mw_645 rfl dX7_type_41 ?_
      refine Go_iconst (pc := 44) (v := 1) C dX7_type_44 ci_1 ?_
      refine Go_iadd (pc := 45) C dX7_type_45 ?_
      refine Go_put (pc := 46) (ws1 := (w7 K a ((s0.1, s0.2.1, s0.2.2.1, s0.2.2.2.1, s0.2.2.2.2.1, s0.2.2.2.2.2.1, s0.2.2.2.2.2.2.1, s0.2.2.2.2.2.2.2.1, s0.2.2.2.2.2.2.2.2.1, s0.2.2.2.2.2.2.2.2.2.1, s0.2.2.2.2.2.2.2.2.2.2.1, s0.2.2.2.2.2.2.2.2.2.2.2.1, s0.2.2.2.2.2.2.2.2.2.2.2.2.1, s0.2.2.2.2.2.2.2.2.2.2.2.2.2.1, s0.2.2.2.2.2.2.2.2.2.2.2.2.2.2.1, upd s0.2.2.2.2.2.2.2.2.2.2.2.2.2.2.2.1 s0.2.2.2.2.2.2.2.2.2.2.2.2.2.2.2.2.1.toNatClampNeg p1, s0.2.2.2.2.2.2.2.2.2.2.2.2.2.2.2.2.1 + (1 : Int32), s0.2.2.2.2.2.2.2.2.2.2.2.2.2.2.2.2.2)))) C 0 16 tyX7 tyX7_ok nmX7 rfl rfl inX7 (by decide) mw_645 rfl rfl (Nat.le_of_ble_eq_true rfl) dX7_type_46 (ll_158 _ _ _ _) ?_
      refine Go_aload_n (pc := 49) C dX7_type_49 rfl ?_
      refine Go_get (pc := 50) C 0 16 rfl rfl inX7 (by decide) mw_645 rfl dX7_type_50 ?_
      obtain rfl := Option.some.inj hf
      exact Go_iret C hr rfl dX7_type_53
def fX7_clear (s0 : S7) : Option (Int32 × S7) := some (s0.2.2.2.2.2.2.2.2.2.2.2.2.2.2.2.2.1, (s0.1, s0.2.1, s0.2.2.1, s0.2.2.2.1, s0.2.2.2.2.1, s0.2.2.2.2.2.1, s0.2.2.2.2.2.2.1, s0.2.2.2.2.2.2.2.1, s0.2.2.2.2.2.2.2.2.1, s0.2.2.2.2.2.2.2.2.2.1, s0.2.2.2.2.2.2.2.2.2.2.1, s0.2.2.2.2.2.2.2.2.2.2.2.1, s0.2.2.2.2.2.2.2.2.2.2.2.2.1, s0.2.2.2.2.2.2.2.2.2.2.2.2.2.1, s0.2.2.2.2.2.2.2.2.2.2.2.2.2.2.1, s0.2.2.2.2.2.2.2.2.2.2.2.2.2.2.2.1, (0 : Int32), s0.2.2.2.2.2.2.2.2.2.2.2.2.2.2.2.2.2))
theorem ycX7_clear : CalV yX7_clear cX7_clear 2 ((some .int)) 0 := ⟨mw_925, mw_69, mw_923, mw_924, ⟨by decide, by decide, by decide +kernel⟩, by decide⟩
set_option maxHeartbeats 4000000 in
set_option maxRecDepth 100000 in
theorem kX7_clear (l : Launch) (K : KK) (a : Nat → Nat) (s0 : S7) (res : Int32 × S7) (hf : fX7_clear s0 = some res) : Ct l K yX7_clear cX7_clear 2 ((some .int)) 0 [.ref (a 0)] (w7 K a s0) (some (.int res.1)) (w7 K a res.2) := by
  refine Ct_of2 (by decide) rfl (Nat.le_of_ble_eq_true rfl) ?_
  intro p e σ m args below meth c C hr
  unfold fX7_clear at hf
  refine Go_aload_n (pc := 0) C dX7_clear_0 rfl ?_
  refine Go_get (pc := 1) C 0 16 rfl rfl inX7 (by decide) mw_645 rfl dX7_clear_1 ?_
  refine Go_istore_n (pc := 4) C dX7_clear_4 (by decide) ?_
  refine Go_aload_n (pc := 5) C dX7_clear_5 rfl ?_
  refine Go_iconst (pc := 6) (v := 0) C dX7_clear_6 ci_0 ?_
  refine Go_put (pc := 7) (ws1 := (w7 K a ((s0.1, s0.2.1, s0.2.2.1, s0.2.2.2.1, s0.2.2.2.2.1, s0.2.2.2.2.2.1, s0.2.2.2.2.2.2.1, s0.2.2.2.2.2.2.2.1, s0.2.2.2.2.2.2.2.2.1, s0.2.2.2.2.2.2.2.2.2.1, s0.2.2.2.2.2.2.2.2.2.2.1, s0.2.2.2.2.2.2.2.2.2.2.2.1, s0.2.2.2.2.2.2.2.2.2.2.2.2.1, s0.2.2.2.2.2.2.2.2.2.2.2.2.2.1, s0.2.2.2.2.2.2.2.2.2.2.2.2.2.2.1, s0.2.2.2.2.2.2.2.2.2.2.2.2.2.2.2.1, (0 : Int32), s0.2.2.2.2.2.2.2.2.2.2.2.2.2.2.2.2.2)))) C 0 16 tyX7 tyX7_ok nmX7 rfl rfl inX7 (by decide) mw_645 rfl rfl (Nat.le_of_ble_eq_true rfl) dX7_clear_7 (ll_158 _ _ _ _) ?_
  refine Go_iload_n (pc := 10) C dX7_clear_10 rfl ?_
  obtain rfl := Option.some.inj hf
  exact Go_iret C hr rfl dX7_clear_11
theorem ll_159 (K : KK) (a : Nat → Nat) (t0 : S7) (y : Int32) : List.set (w7 K a t0) 0 (a 0, .inr (7, List.set [.ref (a 1), .ref (a 2), .int (t0.2.2.1), .ref (a 3), .ref (a 4), .int (t0.2.2.2.2.2.1), .int (t0.2.2.2.2.2.2.1), .int (t0.2.2.2.2.2.2.2.1), .ref (a 5), .ref (a 6), .ref (a 7), .ref (a 8), .ref (a 9), .int (t0.2.2.2.2.2.2.2.2.2.2.2.2.2.1), .ref (a 10), .ref (a 11), .int (t0.2.2.2.2.2.2.2.2.2.2.2.2.2.2.2.2.1), .int (t0.2.2.2.2.2.2.2.2.2.2.2.2.2.2.2.2.2.1), .int (t0.2.2.2.2.2.2.2.2.2.2.2.2.2.2.2.2.2.2.1), .int (t0.2.2.2.2.2.2.2.2.2.2.2.2.2.2.2.2.2.2.2.1), .int (t0.2.2.2.2.2.2.2.2.2.2.2.2.2.2.2.2.2.2.2.2.1), .ref (a 12), .ref (a 13)] 17 (.int y))) = (w7 K a ((t0.1, t0.2.1, t0.2.2.1, t0.2.2.2.1, t0.2.2.2.2.1, t0.2.2.2.2.2.1, t0.2.2.2.2.2.2.1, t0.2.2.2.2.2.2.2.1, t0.2.2.2.2.2.2.2.2.1, t0.2.2.2.2.2.2.2.2.2.1, t0.2.2.2.2.2.2.2.2.2.2.1, t0.2.2.2.2.2.2.2.2.2.2.2.1, t0.2.2.2.2.2.2.2.2.2.2.2.2.1, t0.2.2.2.2.2.2.2.2.2.2.2.2.2.1, t0.2.2.2.2.2.2.2.2.2.2.2.2.2.2.1, t0.2.2.2.2.2.2.2.2.2.2.2.2.2.2.2.1, t0.2.2.2.2.2.2.2.2.2.2.2.2.2.2.2.2.1, y, t0.2.2.2.2.2.2.2.2.2.2.2.2.2.2.2.2.2.2))) := rfl
def fX7_here_L0 (s0 : S7) (q1 : Int32) : Option ((Int32) ⊕ (Int32)) := (if s0.2.2.2.2.2.2.2.2.2.2.2.2.2.2.2.2.1 ≤ q1 then some (.inr q1) else (if 0 ≤ q1 ∧ q1.toNatClampNeg < 120 then (if (s0.2.2.2.2.2.2.2.2.2.2.2.2.2.2.2.1 q1.toNatClampNeg) = (32 : Int32) then some (.inl (q1 + (1 : Int32))) else some (.inr q1)) else none))
def fX7_here (s0 : S7) : Option (Int32 × S7) := Option.bind (loopF (fX7_here_L0 s0) 5000 s0.2.2.2.2.2.2.2.2.2.2.2.2.2.2.2.2.2.1) (fun z2 => (if s0.2.2.2.2.2.2.2.2.2.2.2.2.2.2.2.2.1 ≤ z2 then some ((-1 : Int32), (s0.1, s0.2.1, s0.2.2.1, s0.2.2.2.1, s0.2.2.2.2.1, s0.2.2.2.2.2.1, s0.2.2.2.2.2.2.1, s0.2.2.2.2.2.2.2.1, s0.2.2.2.2.2.2.2.2.1, s0.2.2.2.2.2.2.2.2.2.1, s0.2.2.2.2.2.2.2.2.2.2.1, s0.2.2.2.2.2.2.2.2.2.2.2.1, s0.2.2.2.2.2.2.2.2.2.2.2.2.1, s0.2.2.2.2.2.2.2.2.2.2.2.2.2.1, s0.2.2.2.2.2.2.2.2.2.2.2.2.2.2.1, s0.2.2.2.2.2.2.2.2.2.2.2.2.2.2.2.1, s0.2.2.2.2.2.2.2.2.2.2.2.2.2.2.2.2.1, z2, s0.2.2.2.2.2.2.2.2.2.2.2.2.2.2.2.2.2.2)) else (if 0 ≤ z2 ∧ z2.toNatClampNeg < 120 then some (s0.2.2.2.2.2.2.2.2.2.2.2.2.2.2.2.1 z2.toNatClampNeg, (s0.1, s0.2.1, s0.2.2.1, s0.2.2.2.1, s0.2.2.2.2.1, s0.2.2.2.2.2.1, s0.2.2.2.2.2.2.1, s0.2.2.2.2.2.2.2.1, s0.2.2.2.2.2.2.2.2.1, s0.2.2.2.2.2.2.2.2.2.1, s0.2.2.2.2.2.2.2.2.2.2.1, s0.2.2.2.2.2.2.2.2.2.2.2.1, s0.2.2.2.2.2.2.2.2.2.2.2.2.1, s0.2.2.2.2.2.2.2.2.2.2.2.2.2.1, s0.2.2.2.2.2.2.2.2.2.2.2.2.2.2.1, s0.2.2.2.2.2.2.2.2.2.2.2.2.2.2.2.1, s0.2.2.2.2.2.2.2.2.2.2.2.2.2.2.2.2.1, z2, s0.2.2.2.2.2.2.2.2.2.2.2.2.2.2.2.2.2.2)) else none)))
theorem ycX7_here : CalV yX7_here cX7_here 1 ((some .int)) 0 := ⟨mw_933, mw_69, mw_932, mw_46, ⟨by decide, by decide, by decide +kernel⟩, by decide⟩
set_option maxHeartbeats 4000000 in
set_option maxRecDepth 100000 in
theorem kX7_here (l : Launch) (K : KK) (a : Nat → Nat) (s0 : S7) (res : Int32 × S7) (hf : fX7_here s0 = some res) : Ct l K yX7_here cX7_here 1 ((some .int)) 0 [.ref (a 0)] (w7 K a s0) (some (.int res.1)) (w7 K a res.2) := by
  refine Ct_of2 (by decide) rfl (Nat.le_of_ble_eq_true rfl) ?_
  intro p e σ m args below meth c C hr
  unfold fX7_here at hf
  obtain ⟨z2, hz2, hf⟩ := bnd hf
  refine Go_mask [true] ?_
  refine loopF_go (step := (fX7_here_L0 s0)) (fun q1 => Go p l e (rmc 0 0 0) σ m args below meth c K (inW (w7 K a s0)) σ.heap 1 0 0 (MQ below (CtQ K (w7 K a s0) (some (.int res.1)) (w7 K a res.2)) args σ 0 0 (inW (w7 K a s0))) (w7 K a ((s0.1, s0.2.1, s0.2.2.1, s0.2.2.2.1, s0.2.2.2.2.1, s0.2.2.2.2.2.1, s0.2.2.2.2.2.2.1, s0.2.2.2.2.2.2.2.1, s0.2.2.2.2.2.2.2.2.1, s0.2.2.2.2.2.2.2.2.2.1, s0.2.2.2.2.2.2.2.2.2.2.1, s0.2.2.2.2.2.2.2.2.2.2.2.1, s0.2.2.2.2.2.2.2.2.2.2.2.2.1, s0.2.2.2.2.2.2.2.2.2.2.2.2.2.1, s0.2.2.2.2.2.2.2.2.2.2.2.2.2.2.1, s0.2.2.2.2.2.2.2.2.2.2.2.2.2.2.2.1, s0.2.2.2.2.2.2.2.2.2.2.2.2.2.2.2.2.1, q1, s0.2.2.2.2.2.2.2.2.2.2.2.2.2.2.2.2.2.2))) 0 [some (.ref (a 0))] []) (fun z2 => Go p l e (rmc 0 0 0) σ m args below meth c K (inW (w7 K a s0)) σ.heap 1 0 0 (MQ below (CtQ K (w7 K a s0) (some (.int res.1)) (w7 K a res.2)) args σ 0 0 (inW (w7 K a s0))) (w7 K a ((s0.1, s0.2.1, s0.2.2.1, s0.2.2.2.1, s0.2.2.2.2.1, s0.2.2.2.2.2.1, s0.2.2.2.2.2.2.1, s0.2.2.2.2.2.2.2.1, s0.2.2.2.2.2.2.2.2.1, s0.2.2.2.2.2.2.2.2.2.1, s0.2.2.2.2.2.2.2.2.2.2.1, s0.2.2.2.2.2.2.2.2.2.2.2.1, s0.2.2.2.2.2.2.2.2.2.2.2.2.1, s0.2.2.2.2.2.2.2.2.2.2.2.2.2.1, s0.2.2.2.2.2.2.2.2.2.2.2.2.2.2.1, s0.2.2.2.2.2.2.2.2.2.2.2.2.2.2.2.1, s0.2.2.2.2.2.2.2.2.2.2.2.2.2.2.2.2.1, z2, s0.2.2.2.2.2.2.2.2.2.2.2.2.2.2.2.2.2.2))) 38 [some (.ref (a 0))] []) ?_ _ _ _ hz2 ?_
  · intro q1 x hf hk
    unfold fX7_here_L0 at hf
    refine Go_aload_n (pc := 0) C dX7_here_0 rfl ?_
    refine Go_get (pc := 1) C 0 17 rfl rfl inX7 (by decide) mw_646 rfl dX7_here_1 ?_
    refine Go_aload_n (pc := 4) C dX7_here_4 rfl ?_
    refine Go_get (pc := 5) C 0 16 rfl rfl inX7 (by decide) mw_645 rfl dX7_here_5 ?_
    refine Go_icmp_ge (pc := 8) (tgt := 38) C dX7_here_8 (by decide) (fun hc => ?_) (fun hc => ?_)
    · replace hf := ift hc hf
      obtain rfl := Option.some.inj hf
      exact Go_mask [true] hk
    · replace hf := iff' hc hf
      refine Go_aload_n (pc := 11) C dX7_here_11 rfl ?_
      refine Go_get (pc := 12) C 0 15 rfl rfl inX7 (by decide) mw_644 rfl dX7_here_12 ?_
      refine Go_aload_n (pc := 15) C dX7_here_15 rfl ?_
      refine Go_get (pc := 16) C 0 17 rfl rfl inX7 (by decide) mw_646 rfl dX7_here_16 ?_
      obtain ⟨hb, hf⟩ := ifs hf
      refine Go_iald (pc := 19) C 11 rfl (inb_in hb) dX7_here_19 ?_
      refine Go_bipush (pc := 20) (v := 32) C dX7_here_20 cb_32 ?_
      refine Go_icmp_ne (pc := 22) (tgt := 38) C dX7_here_22 (by decide) (fun hc => ?_) (fun hc => ?_)
      · replace hf := ift hc hf
        refine Go_aload_n (pc := 25) C dX7_here_25 rfl ?_
        refine Go_dup (pc := 26) C dX7_here_26 rfl ?_
        refine Go_get (pc := 27) C 0 17 rfl rfl inX7 (by decide) mw_646 rfl dX7_here_27 ?_
        refine Go_iconst (pc := 30) (v := 1) C dX7_here_30 ci_1 ?_
        refine Go_iadd (pc := 31) C dX7_here_31 ?_
        refine Go_put (pc := 32) (ws1 := (w7 K a ((s0.1, s0.2.1, s0.2.2.1, s0.2.2.2.1, s0.2.2.2.2.1, s0.2.2.2.2.2.1, s0.2.2.2.2.2.2.1, s0.2.2.2.2.2.2.2.1, s0.2.2.2.2.2.2.2.2.1, s0.2.2.2.2.2.2.2.2.2.1, s0.2.2.2.2.2.2.2.2.2.2.1, s0.2.2.2.2.2.2.2.2.2.2.2.1, s0.2.2.2.2.2.2.2.2.2.2.2.2.1, s0.2.2.2.2.2.2.2.2.2.2.2.2.2.1, s0.2.2.2.2.2.2.2.2.2.2.2.2.2.2.1, s0.2.2.2.2.2.2.2.2.2.2.2.2.2.2.2.1, s0.2.2.2.2.2.2.2.2.2.2.2.2.2.2.2.2.1, q1 + (1 : Int32), s0.2.2.2.2.2.2.2.2.2.2.2.2.2.2.2.2.2.2)))) C 0 17 tyX7 tyX7_ok nmX7 rfl rfl inX7 (by decide) mw_646 rfl rfl (Nat.le_of_ble_eq_true rfl) dX7_here_32 (ll_159 _ _ _ _) ?_
        refine Go_goto (pc := 35) (tgt := 0) C dX7_here_35 (by decide) ?_
        obtain rfl := Option.some.inj hf
        exact Go_mask [true] hk
      · replace hf := iff' hc hf
        obtain rfl := Option.some.inj hf
        exact Go_mask [true] hk
  · show Go _ _ _ _ _ _ _ _ _ _ _ _ _ _ _ _ _ _ _ _ _
    refine Go_aload_n (pc := 38) C dX7_here_38 rfl ?_
    refine Go_get (pc := 39) C 0 17 rfl rfl inX7 (by decide) mw_646 rfl dX7_here_39 ?_
    refine Go_aload_n (pc := 42) C dX7_here_42 rfl ?_
    refine Go_get (pc := 43) C 0 16 rfl rfl inX7 (by decide) mw_645 rfl dX7_here_43 ?_
    refine Go_icmp_ge (pc := 46) (tgt := 61) C dX7_here_46 (by decide) (fun hc => ?_) (fun hc => ?_)
    · replace hf := ift hc hf
      refine Go_iconst (pc := 61) (v := -1) C dX7_here_61 ci_m1 ?_
      obtain rfl := Option.some.inj hf
      exact Go_iret C hr rfl dX7_here_62
    · replace hf := iff' hc hf
      refine Go_aload_n (pc := 49) C dX7_here_49 rfl ?_
      refine Go_get (pc := 50) C 0 15 rfl rfl inX7 (by decide) mw_644 rfl dX7_here_50 ?_
      refine Go_aload_n (pc := 53) C dX7_here_53 rfl ?_
      refine Go_get (pc := 54) C 0 17 rfl rfl inX7 (by decide) mw_646 rfl dX7_here_54 ?_
      obtain ⟨hb, hf⟩ := ifs hf
      refine Go_iald (pc := 57) C 11 rfl (inb_in hb) dX7_here_57 ?_
      refine Go_goto (pc := 58) (tgt := 62) C dX7_here_58 (by decide) ?_
      obtain rfl := Option.some.inj hf
      exact Go_iret C hr rfl dX7_here_62
theorem ll_160 (K : KK) (a : Nat → Nat) (t0 : S7) (y : Nat → Int32) : List.set (w7 K a t0) 13 (a 13, .inl (K.2.1, 140, .inl y)) = (w7 K a ((t0.1, t0.2.1, t0.2.2.1, t0.2.2.2.1, t0.2.2.2.2.1, t0.2.2.2.2.2.1, t0.2.2.2.2.2.2.1, t0.2.2.2.2.2.2.2.1, t0.2.2.2.2.2.2.2.2.1, t0.2.2.2.2.2.2.2.2.2.1, t0.2.2.2.2.2.2.2.2.2.2.1, t0.2.2.2.2.2.2.2.2.2.2.2.1, t0.2.2.2.2.2.2.2.2.2.2.2.2.1, t0.2.2.2.2.2.2.2.2.2.2.2.2.2.1, t0.2.2.2.2.2.2.2.2.2.2.2.2.2.2.1, t0.2.2.2.2.2.2.2.2.2.2.2.2.2.2.2.1, t0.2.2.2.2.2.2.2.2.2.2.2.2.2.2.2.2.1, t0.2.2.2.2.2.2.2.2.2.2.2.2.2.2.2.2.2.1, t0.2.2.2.2.2.2.2.2.2.2.2.2.2.2.2.2.2.2.1, t0.2.2.2.2.2.2.2.2.2.2.2.2.2.2.2.2.2.2.2.1, t0.2.2.2.2.2.2.2.2.2.2.2.2.2.2.2.2.2.2.2.2.1, t0.2.2.2.2.2.2.2.2.2.2.2.2.2.2.2.2.2.2.2.2.2.1, y))) := rfl
theorem ll_161 (K : KK) (a : Nat → Nat) (t0 : S7) (y : Int32) : List.set (w7 K a t0) 0 (a 0, .inr (7, List.set [.ref (a 1), .ref (a 2), .int (t0.2.2.1), .ref (a 3), .ref (a 4), .int (t0.2.2.2.2.2.1), .int (t0.2.2.2.2.2.2.1), .int (t0.2.2.2.2.2.2.2.1), .ref (a 5), .ref (a 6), .ref (a 7), .ref (a 8), .ref (a 9), .int (t0.2.2.2.2.2.2.2.2.2.2.2.2.2.1), .ref (a 10), .ref (a 11), .int (t0.2.2.2.2.2.2.2.2.2.2.2.2.2.2.2.2.1), .int (t0.2.2.2.2.2.2.2.2.2.2.2.2.2.2.2.2.2.1), .int (t0.2.2.2.2.2.2.2.2.2.2.2.2.2.2.2.2.2.2.1), .int (t0.2.2.2.2.2.2.2.2.2.2.2.2.2.2.2.2.2.2.2.1), .int (t0.2.2.2.2.2.2.2.2.2.2.2.2.2.2.2.2.2.2.2.2.1), .ref (a 12), .ref (a 13)] 20 (.int y))) = (w7 K a ((t0.1, t0.2.1, t0.2.2.1, t0.2.2.2.1, t0.2.2.2.2.1, t0.2.2.2.2.2.1, t0.2.2.2.2.2.2.1, t0.2.2.2.2.2.2.2.1, t0.2.2.2.2.2.2.2.2.1, t0.2.2.2.2.2.2.2.2.2.1, t0.2.2.2.2.2.2.2.2.2.2.1, t0.2.2.2.2.2.2.2.2.2.2.2.1, t0.2.2.2.2.2.2.2.2.2.2.2.2.1, t0.2.2.2.2.2.2.2.2.2.2.2.2.2.1, t0.2.2.2.2.2.2.2.2.2.2.2.2.2.2.1, t0.2.2.2.2.2.2.2.2.2.2.2.2.2.2.2.1, t0.2.2.2.2.2.2.2.2.2.2.2.2.2.2.2.2.1, t0.2.2.2.2.2.2.2.2.2.2.2.2.2.2.2.2.2.1, t0.2.2.2.2.2.2.2.2.2.2.2.2.2.2.2.2.2.2.1, t0.2.2.2.2.2.2.2.2.2.2.2.2.2.2.2.2.2.2.2.1, y, t0.2.2.2.2.2.2.2.2.2.2.2.2.2.2.2.2.2.2.2.2.2))) := rfl
theorem ll_162 (K : KK) (a : Nat → Nat) (t0 : S7) (y : Nat → Int32) : List.set (w7 K a t0) 12 (a 12, .inl (K.2.1, 13, .inl y)) = (w7 K a ((t0.1, t0.2.1, t0.2.2.1, t0.2.2.2.1, t0.2.2.2.2.1, t0.2.2.2.2.2.1, t0.2.2.2.2.2.2.1, t0.2.2.2.2.2.2.2.1, t0.2.2.2.2.2.2.2.2.1, t0.2.2.2.2.2.2.2.2.2.1, t0.2.2.2.2.2.2.2.2.2.2.1, t0.2.2.2.2.2.2.2.2.2.2.2.1, t0.2.2.2.2.2.2.2.2.2.2.2.2.1, t0.2.2.2.2.2.2.2.2.2.2.2.2.2.1, t0.2.2.2.2.2.2.2.2.2.2.2.2.2.2.1, t0.2.2.2.2.2.2.2.2.2.2.2.2.2.2.2.1, t0.2.2.2.2.2.2.2.2.2.2.2.2.2.2.2.2.1, t0.2.2.2.2.2.2.2.2.2.2.2.2.2.2.2.2.2.1, t0.2.2.2.2.2.2.2.2.2.2.2.2.2.2.2.2.2.2.1, t0.2.2.2.2.2.2.2.2.2.2.2.2.2.2.2.2.2.2.2.1, t0.2.2.2.2.2.2.2.2.2.2.2.2.2.2.2.2.2.2.2.2.1, y, t0.2.2.2.2.2.2.2.2.2.2.2.2.2.2.2.2.2.2.2.2.2.2))) := rfl
def fX7_keepsAhead_L32 (s0 : S7) (q1 : Int32 × (Nat → Int32)) : Option ((Int32 × (Nat → Int32)) ⊕ (Int32 × (Nat → Int32))) := (if (12 : Int32) ≤ q1.1 then some (.inr (q1.1, q1.2)) else (if 0 ≤ q1.1 ∧ q1.1.toNatClampNeg < 13 then (if 0 ≤ ((4 : Int32) + q1.1) ∧ ((4 : Int32) + q1.1).toNatClampNeg < 140 then (if 0 ≤ q1.1 ∧ q1.1.toNatClampNeg < 13 then (if 0 ≤ ((16 : Int32) + q1.1) ∧ ((16 : Int32) + q1.1).toNatClampNeg < 140 then Option.bind (some (q1.1 + (1 : Int32))) (fun v2 => some (.inl (v2, upd (upd q1.2 ((4 : Int32) + q1.1).toNatClampNeg (s0.2.2.2.1 q1.1.toNatClampNeg)) ((16 : Int32) + q1.1).toNatClampNeg (s0.2.2.2.2.1 q1.1.toNatClampNeg)))) else none) else none) else none) else none))
def fX7_keepsAhead_L75 (s0 : S7) (q4 : Int32 × (Nat → Int32)) : Option ((Int32 × (Nat → Int32)) ⊕ (Int32 × (Nat → Int32))) := (if (96 : Int32) ≤ q4.1 then some (.inr (q4.1, q4.2)) else (if 0 ≤ q4.1 ∧ q4.1.toNatClampNeg < 96 then (if 0 ≤ ((28 : Int32) + q4.1) ∧ ((28 : Int32) + q4.1).toNatClampNeg < 140 then Option.bind (some (q4.1 + (1 : Int32))) (fun v5 => some (.inl (v5, upd q4.2 ((28 : Int32) + q4.1).toNatClampNeg (s0.2.1 q4.1.toNatClampNeg)))) else none) else none))
def fX7_keepsAhead_L112 (s0 : S7) (q7 : Int32 × (Nat → Int32)) : Option ((Int32 × (Nat → Int32)) ⊕ (Int32 × (Nat → Int32))) := (if (13 : Int32) ≤ q7.1 then some (.inr (q7.1, q7.2)) else (if 0 ≤ q7.1 ∧ q7.1.toNatClampNeg < 13 then (if 0 ≤ q7.1 ∧ q7.1.toNatClampNeg < 13 then Option.bind (some (q7.1 + (1 : Int32))) (fun v8 => some (.inl (v8, upd q7.2 q7.1.toNatClampNeg (s0.2.2.2.2.2.2.2.2.2.2.2.2.2.2.1 q7.1.toNatClampNeg)))) else none) else none))
def fX7_keepsAhead (s0 : S7) : Option (S7) := (if 0 ≤ (0 : Int32) ∧ (0 : Int32).toNatClampNeg < 140 then (if 0 ≤ (1 : Int32) ∧ (1 : Int32).toNatClampNeg < 140 then (if 0 ≤ (2 : Int32) ∧ (2 : Int32).toNatClampNeg < 140 then Option.bind (loopF (fX7_keepsAhead_L32 s0) 5000 ((0 : Int32), upd (upd (upd s0.2.2.2.2.2.2.2.2.2.2.2.2.2.2.2.2.2.2.2.2.2.2 (0 : Int32).toNatClampNeg s0.2.2.1) (1 : Int32).toNatClampNeg s0.2.2.2.2.2.1) (2 : Int32).toNatClampNeg s0.2.2.2.2.2.2.1)) (fun z3 => Option.bind (loopF (fX7_keepsAhead_L75 s0) 5000 ((0 : Int32), z3.2)) (fun z6 => Option.bind (loopF (fX7_keepsAhead_L112 s0) 5000 ((0 : Int32), s0.2.2.2.2.2.2.2.2.2.2.2.2.2.2.2.2.2.2.2.2.2.1)) (fun z9 => some ((s0.1, s0.2.1, s0.2.2.1, s0.2.2.2.1, s0.2.2.2.2.1, s0.2.2.2.2.2.1, s0.2.2.2.2.2.2.1, s0.2.2.2.2.2.2.2.1, s0.2.2.2.2.2.2.2.2.1, s0.2.2.2.2.2.2.2.2.2.1, s0.2.2.2.2.2.2.2.2.2.2.1, s0.2.2.2.2.2.2.2.2.2.2.2.1, s0.2.2.2.2.2.2.2.2.2.2.2.2.1, s0.2.2.2.2.2.2.2.2.2.2.2.2.2.1, s0.2.2.2.2.2.2.2.2.2.2.2.2.2.2.1, s0.2.2.2.2.2.2.2.2.2.2.2.2.2.2.2.1, s0.2.2.2.2.2.2.2.2.2.2.2.2.2.2.2.2.1, s0.2.2.2.2.2.2.2.2.2.2.2.2.2.2.2.2.2.1, s0.2.2.2.2.2.2.2.2.2.2.2.2.2.2.2.2.2.2.1, s0.2.2.2.2.2.2.2.2.2.2.2.2.2.2.2.2.2.2.2.1, s0.2.2.2.2.2.2.2.2.2.2.2.2.2.1, z9.2, z6.2))))) else none) else none) else none)
theorem ycX7_keepsAhead : CalV yX7_keepsAhead cX7_keepsAhead 2 none 0 := ⟨mw_937, mw_69, mw_936, mw_47, ⟨by decide, by decide, by decide +kernel⟩, by decide⟩
set_option maxHeartbeats 4000000 in
set_option maxRecDepth 100000 in
theorem kX7_keepsAhead (l : Launch) (K : KK) (a : Nat → Nat) (s0 : S7) (res : S7) (hf : fX7_keepsAhead s0 = some res) : Ct l K yX7_keepsAhead cX7_keepsAhead 2 none 0 [.ref (a 0)] (w7 K a s0) (none) (w7 K a res) := by
  refine Ct_of2 (by decide) rfl (Nat.le_of_ble_eq_true rfl) ?_
  intro p e σ m args below meth c C hr
  unfold fX7_keepsAhead at hf
  refine Go_aload_n (pc := 0) C dX7_keepsAhead_0 rfl ?_
  refine Go_get (pc := 1) C 0 22 rfl rfl inX7 (by decide) mw_651 rfl dX7_keepsAhead_1 ?_
  refine Go_iconst (pc := 4) (v := 0) C dX7_keepsAhead_4 ci_0 ?_
  refine Go_aload_n (pc := 5) C dX7_keepsAhead_5 rfl ?_
  refine Go_get (pc := 6) C 0 2 rfl rfl inX7 (by decide) mw_631 rfl dX7_keepsAhead_6 ?_
  obtain ⟨hb, hf⟩ := ifs hf
  refine Go_iast (pc := 9) (ws1 := (w7 K a ((s0.1, s0.2.1, s0.2.2.1, s0.2.2.2.1, s0.2.2.2.2.1, s0.2.2.2.2.2.1, s0.2.2.2.2.2.2.1, s0.2.2.2.2.2.2.2.1, s0.2.2.2.2.2.2.2.2.1, s0.2.2.2.2.2.2.2.2.2.1, s0.2.2.2.2.2.2.2.2.2.2.1, s0.2.2.2.2.2.2.2.2.2.2.2.1, s0.2.2.2.2.2.2.2.2.2.2.2.2.1, s0.2.2.2.2.2.2.2.2.2.2.2.2.2.1, s0.2.2.2.2.2.2.2.2.2.2.2.2.2.2.1, s0.2.2.2.2.2.2.2.2.2.2.2.2.2.2.2.1, s0.2.2.2.2.2.2.2.2.2.2.2.2.2.2.2.2.1, s0.2.2.2.2.2.2.2.2.2.2.2.2.2.2.2.2.2.1, s0.2.2.2.2.2.2.2.2.2.2.2.2.2.2.2.2.2.2.1, s0.2.2.2.2.2.2.2.2.2.2.2.2.2.2.2.2.2.2.2.1, s0.2.2.2.2.2.2.2.2.2.2.2.2.2.2.2.2.2.2.2.2.1, s0.2.2.2.2.2.2.2.2.2.2.2.2.2.2.2.2.2.2.2.2.2.1, upd s0.2.2.2.2.2.2.2.2.2.2.2.2.2.2.2.2.2.2.2.2.2.2 (0 : Int32).toNatClampNeg s0.2.2.1)))) C 13 rfl (inb_in hb) dX7_keepsAhead_9 (ll_160 _ _ _ _) ?_
  refine Go_aload_n (pc := 10) C dX7_keepsAhead_10 rfl ?_
  refine Go_get (pc := 11) C 0 22 rfl rfl inX7 (by decide) mw_651 rfl dX7_keepsAhead_11 ?_
  refine Go_iconst (pc := 14) (v := 1) C dX7_keepsAhead_14 ci_1 ?_
  refine Go_aload_n (pc := 15) C dX7_keepsAhead_15 rfl ?_
  refine Go_get (pc := 16) C 0 5 rfl rfl inX7 (by decide) mw_634 rfl dX7_keepsAhead_16 ?_
  obtain ⟨hb, hf⟩ := ifs hf
  refine Go_iast (pc := 19) (ws1 := (w7 K a ((s0.1, s0.2.1, s0.2.2.1, s0.2.2.2.1, s0.2.2.2.2.1, s0.2.2.2.2.2.1, s0.2.2.2.2.2.2.1, s0.2.2.2.2.2.2.2.1, s0.2.2.2.2.2.2.2.2.1, s0.2.2.2.2.2.2.2.2.2.1, s0.2.2.2.2.2.2.2.2.2.2.1, s0.2.2.2.2.2.2.2.2.2.2.2.1, s0.2.2.2.2.2.2.2.2.2.2.2.2.1, s0.2.2.2.2.2.2.2.2.2.2.2.2.2.1, s0.2.2.2.2.2.2.2.2.2.2.2.2.2.2.1, s0.2.2.2.2.2.2.2.2.2.2.2.2.2.2.2.1, s0.2.2.2.2.2.2.2.2.2.2.2.2.2.2.2.2.1, s0.2.2.2.2.2.2.2.2.2.2.2.2.2.2.2.2.2.1, s0.2.2.2.2.2.2.2.2.2.2.2.2.2.2.2.2.2.2.1, s0.2.2.2.2.2.2.2.2.2.2.2.2.2.2.2.2.2.2.2.1, s0.2.2.2.2.2.2.2.2.2.2.2.2.2.2.2.2.2.2.2.2.1, s0.2.2.2.2.2.2.2.2.2.2.2.2.2.2.2.2.2.2.2.2.2.1, upd (upd s0.2.2.2.2.2.2.2.2.2.2.2.2.2.2.2.2.2.2.2.2.2.2 (0 : Int32).toNatClampNeg s0.2.2.1) (1 : Int32).toNatClampNeg s0.2.2.2.2.2.1)))) C 13 rfl (inb_in hb) dX7_keepsAhead_19 (ll_160 _ _ _ _) ?_
  refine Go_aload_n (pc := 20) C dX7_keepsAhead_20 rfl ?_
  refine Go_get (pc := 21) C 0 22 rfl rfl inX7 (by decide) mw_651 rfl dX7_keepsAhead_21 ?_
  refine Go_iconst (pc := 24) (v := 2) C dX7_keepsAhead_24 ci_2 ?_
  refine Go_aload_n (pc := 25) C dX7_keepsAhead_25 rfl ?_
  refine Go_get (pc := 26) C 0 6 rfl rfl inX7 (by decide) mw_635 rfl dX7_keepsAhead_26 ?_
  obtain ⟨hb, hf⟩ := ifs hf
  refine Go_iast (pc := 29) (ws1 := (w7 K a ((s0.1, s0.2.1, s0.2.2.1, s0.2.2.2.1, s0.2.2.2.2.1, s0.2.2.2.2.2.1, s0.2.2.2.2.2.2.1, s0.2.2.2.2.2.2.2.1, s0.2.2.2.2.2.2.2.2.1, s0.2.2.2.2.2.2.2.2.2.1, s0.2.2.2.2.2.2.2.2.2.2.1, s0.2.2.2.2.2.2.2.2.2.2.2.1, s0.2.2.2.2.2.2.2.2.2.2.2.2.1, s0.2.2.2.2.2.2.2.2.2.2.2.2.2.1, s0.2.2.2.2.2.2.2.2.2.2.2.2.2.2.1, s0.2.2.2.2.2.2.2.2.2.2.2.2.2.2.2.1, s0.2.2.2.2.2.2.2.2.2.2.2.2.2.2.2.2.1, s0.2.2.2.2.2.2.2.2.2.2.2.2.2.2.2.2.2.1, s0.2.2.2.2.2.2.2.2.2.2.2.2.2.2.2.2.2.2.1, s0.2.2.2.2.2.2.2.2.2.2.2.2.2.2.2.2.2.2.2.1, s0.2.2.2.2.2.2.2.2.2.2.2.2.2.2.2.2.2.2.2.2.1, s0.2.2.2.2.2.2.2.2.2.2.2.2.2.2.2.2.2.2.2.2.2.1, upd (upd (upd s0.2.2.2.2.2.2.2.2.2.2.2.2.2.2.2.2.2.2.2.2.2.2 (0 : Int32).toNatClampNeg s0.2.2.1) (1 : Int32).toNatClampNeg s0.2.2.2.2.2.1) (2 : Int32).toNatClampNeg s0.2.2.2.2.2.2.1)))) C 13 rfl (inb_in hb) dX7_keepsAhead_29 (ll_160 _ _ _ _) ?_
  refine Go_iconst (pc := 30) (v := 0) C dX7_keepsAhead_30 ci_0 ?_
  refine Go_istore_n (pc := 31) C dX7_keepsAhead_31 (by decide) ?_
  obtain ⟨z3, hz3, hf⟩ := bnd hf
  refine Go_mask [true, true] ?_
  refine loopF_go (step := (fX7_keepsAhead_L32 s0)) (fun q1 => Go p l e (rmc 0 0 0) σ m args below meth c K (inW (w7 K a s0)) σ.heap 2 0 0 (MQ below (CtQ K (w7 K a s0) (none) (w7 K a res)) args σ 0 0 (inW (w7 K a s0))) (w7 K a ((s0.1, s0.2.1, s0.2.2.1, s0.2.2.2.1, s0.2.2.2.2.1, s0.2.2.2.2.2.1, s0.2.2.2.2.2.2.1, s0.2.2.2.2.2.2.2.1, s0.2.2.2.2.2.2.2.2.1, s0.2.2.2.2.2.2.2.2.2.1, s0.2.2.2.2.2.2.2.2.2.2.1, s0.2.2.2.2.2.2.2.2.2.2.2.1, s0.2.2.2.2.2.2.2.2.2.2.2.2.1, s0.2.2.2.2.2.2.2.2.2.2.2.2.2.1, s0.2.2.2.2.2.2.2.2.2.2.2.2.2.2.1, s0.2.2.2.2.2.2.2.2.2.2.2.2.2.2.2.1, s0.2.2.2.2.2.2.2.2.2.2.2.2.2.2.2.2.1, s0.2.2.2.2.2.2.2.2.2.2.2.2.2.2.2.2.2.1, s0.2.2.2.2.2.2.2.2.2.2.2.2.2.2.2.2.2.2.1, s0.2.2.2.2.2.2.2.2.2.2.2.2.2.2.2.2.2.2.2.1, s0.2.2.2.2.2.2.2.2.2.2.2.2.2.2.2.2.2.2.2.2.1, s0.2.2.2.2.2.2.2.2.2.2.2.2.2.2.2.2.2.2.2.2.2.1, q1.2))) 32 [some (.ref (a 0)), some (.int q1.1)] []) (fun z3 => Go p l e (rmc 0 0 0) σ m args below meth c K (inW (w7 K a s0)) σ.heap 2 0 0 (MQ below (CtQ K (w7 K a s0) (none) (w7 K a res)) args σ 0 0 (inW (w7 K a s0))) (w7 K a ((s0.1, s0.2.1, s0.2.2.1, s0.2.2.2.1, s0.2.2.2.2.1, s0.2.2.2.2.2.1, s0.2.2.2.2.2.2.1, s0.2.2.2.2.2.2.2.1, s0.2.2.2.2.2.2.2.2.1, s0.2.2.2.2.2.2.2.2.2.1, s0.2.2.2.2.2.2.2.2.2.2.1, s0.2.2.2.2.2.2.2.2.2.2.2.1, s0.2.2.2.2.2.2.2.2.2.2.2.2.1, s0.2.2.2.2.2.2.2.2.2.2.2.2.2.1, s0.2.2.2.2.2.2.2.2.2.2.2.2.2.2.1, s0.2.2.2.2.2.2.2.2.2.2.2.2.2.2.2.1, s0.2.2.2.2.2.2.2.2.2.2.2.2.2.2.2.2.1, s0.2.2.2.2.2.2.2.2.2.2.2.2.2.2.2.2.2.1, s0.2.2.2.2.2.2.2.2.2.2.2.2.2.2.2.2.2.2.1, s0.2.2.2.2.2.2.2.2.2.2.2.2.2.2.2.2.2.2.2.1, s0.2.2.2.2.2.2.2.2.2.2.2.2.2.2.2.2.2.2.2.2.1, s0.2.2.2.2.2.2.2.2.2.2.2.2.2.2.2.2.2.2.2.2.2.1, z3.2))) 73 [some (.ref (a 0)), some (.int z3.1)] []) ?_ _ _ _ hz3 ?_
  · intro q1 x hf hk
    unfold fX7_keepsAhead_L32 at hf
    refine Go_iload_n (pc := 32) C dX7_keepsAhead_32 rfl ?_
    refine Go_bipush (pc := 33) (v := 12) C dX7_keepsAhead_33 cb_12 ?_
    refine Go_icmp_ge (pc := 35) (tgt := 73) C dX7_keepsAhead_35 (by decide) (fun hc => ?_) (fun hc => ?_)
    · replace hf := ift hc hf
      obtain rfl := Option.some.inj hf
      exact Go_mask [true, true] hk
    · replace hf := iff' hc hf
      refine Go_aload_n (pc := 38) C dX7_keepsAhead_38 rfl ?_
      refine Go_get (pc := 39) C 0 22 rfl rfl inX7 (by decide) mw_651 rfl dX7_keepsAhead_39 ?_
      refine Go_iconst (pc := 42) (v := 4) C dX7_keepsAhead_42 ci_4 ?_
      refine Go_iload_n (pc := 43) C dX7_keepsAhead_43 rfl ?_
      refine Go_iadd (pc := 44) C dX7_keepsAhead_44 ?_
      refine Go_aload_n (pc := 45) C dX7_keepsAhead_45 rfl ?_
      refine Go_get (pc := 46) C 0 3 rfl rfl inX7 (by decide) mw_632 rfl dX7_keepsAhead_46 ?_
      refine Go_iload_n (pc := 49) C dX7_keepsAhead_49 rfl ?_
      obtain ⟨hb, hf⟩ := ifs hf
      refine Go_iald (pc := 50) C 3 rfl (inb_in hb) dX7_keepsAhead_50 ?_
      obtain ⟨hb, hf⟩ := ifs hf
      refine Go_iast (pc := 51) (ws1 := (w7 K a ((s0.1, s0.2.1, s0.2.2.1, s0.2.2.2.1, s0.2.2.2.2.1, s0.2.2.2.2.2.1, s0.2.2.2.2.2.2.1, s0.2.2.2.2.2.2.2.1, s0.2.2.2.2.2.2.2.2.1, s0.2.2.2.2.2.2.2.2.2.1, s0.2.2.2.2.2.2.2.2.2.2.1, s0.2.2.2.2.2.2.2.2.2.2.2.1, s0.2.2.2.2.2.2.2.2.2.2.2.2.1, s0.2.2.2.2.2.2.2.2.2.2.2.2.2.1, s0.2.2.2.2.2.2.2.2.2.2.2.2.2.2.1, s0.2.2.2.2.2.2.2.2.2.2.2.2.2.2.2.1, s0.2.2.2.2.2.2.2.2.2.2.2.2.2.2.2.2.1, s0.2.2.2.2.2.2.2.2.2.2.2.2.2.2.2.2.2.1, s0.2.2.2.2.2.2.2.2.2.2.2.2.2.2.2.2.2.2.1, s0.2.2.2.2.2.2.2.2.2.2.2.2.2.2.2.2.2.2.2.1, s0.2.2.2.2.2.2.2.2.2.2.2.2.2.2.2.2.2.2.2.2.1, s0.2.2.2.2.2.2.2.2.2.2.2.2.2.2.2.2.2.2.2.2.2.1, upd q1.2 ((4 : Int32) + q1.1).toNatClampNeg (s0.2.2.2.1 q1.1.toNatClampNeg))))) C 13 rfl (inb_in hb) dX7_keepsAhead_51 (ll_160 _ _ _ _) ?_
      refine Go_aload_n (pc := 52) C dX7_keepsAhead_52 rfl ?_
      refine Go_get (pc := 53) C 0 22 rfl rfl inX7 (by decide) mw_651 rfl dX7_keepsAhead_53 ?_
      refine Go_bipush (pc := 56) (v := 16) C dX7_keepsAhead_56 cb_16 ?_
      refine Go_iload_n (pc := 58) C dX7_keepsAhead_58 rfl ?_
      refine Go_iadd (pc := 59) C dX7_keepsAhead_59 ?_
      refine Go_aload_n (pc := 60) C dX7_keepsAhead_60 rfl ?_
      refine Go_get (pc := 61) C 0 4 rfl rfl inX7 (by decide) mw_633 rfl dX7_keepsAhead_61 ?_
      refine Go_iload_n (pc := 64) C dX7_keepsAhead_64 rfl ?_
      obtain ⟨hb, hf⟩ := ifs hf
      refine Go_iald (pc := 65) C 4 rfl (inb_in hb) dX7_keepsAhead_65 ?_
      obtain ⟨hb, hf⟩ := ifs hf
      refine Go_iast (pc := 66) (ws1 := (w7 K a ((s0.1, s0.2.1, s0.2.2.1, s0.2.2.2.1, s0.2.2.2.2.1, s0.2.2.2.2.2.1, s0.2.2.2.2.2.2.1, s0.2.2.2.2.2.2.2.1, s0.2.2.2.2.2.2.2.2.1, s0.2.2.2.2.2.2.2.2.2.1, s0.2.2.2.2.2.2.2.2.2.2.1, s0.2.2.2.2.2.2.2.2.2.2.2.1, s0.2.2.2.2.2.2.2.2.2.2.2.2.1, s0.2.2.2.2.2.2.2.2.2.2.2.2.2.1, s0.2.2.2.2.2.2.2.2.2.2.2.2.2.2.1, s0.2.2.2.2.2.2.2.2.2.2.2.2.2.2.2.1, s0.2.2.2.2.2.2.2.2.2.2.2.2.2.2.2.2.1, s0.2.2.2.2.2.2.2.2.2.2.2.2.2.2.2.2.2.1, s0.2.2.2.2.2.2.2.2.2.2.2.2.2.2.2.2.2.2.1, s0.2.2.2.2.2.2.2.2.2.2.2.2.2.2.2.2.2.2.2.1, s0.2.2.2.2.2.2.2.2.2.2.2.2.2.2.2.2.2.2.2.2.1, s0.2.2.2.2.2.2.2.2.2.2.2.2.2.2.2.2.2.2.2.2.2.1, upd (upd q1.2 ((4 : Int32) + q1.1).toNatClampNeg (s0.2.2.2.1 q1.1.toNatClampNeg)) ((16 : Int32) + q1.1).toNatClampNeg (s0.2.2.2.2.1 q1.1.toNatClampNeg))))) C 13 rfl (inb_in hb) dX7_keepsAhead_66 (ll_160 _ _ _ _) ?_
      obtain ⟨v2, hv2, hf⟩ := bnd hf
      refine Go_iinc (pc := 67) (v := v2) C dX7_keepsAhead_67 rfl (by rw [ci_1]; exact Option.some.inj hv2) ?_
      refine Go_goto (pc := 70) (tgt := 32) C dX7_keepsAhead_70 (by decide) ?_
      obtain rfl := Option.some.inj hf
      exact Go_mask [true, true] hk
  · show Go _ _ _ _ _ _ _ _ _ _ _ _ _ _ _ _ _ _ _ _ _
    refine Go_iconst (pc := 73) (v := 0) C dX7_keepsAhead_73 ci_0 ?_
    refine Go_istore_n (pc := 74) C dX7_keepsAhead_74 (by decide) ?_
    obtain ⟨z6, hz6, hf⟩ := bnd hf
    refine Go_mask [true, true] ?_
    refine loopF_go (step := (fX7_keepsAhead_L75 s0)) (fun q4 => Go p l e (rmc 0 0 0) σ m args below meth c K (inW (w7 K a s0)) σ.heap 2 0 0 (MQ below (CtQ K (w7 K a s0) (none) (w7 K a res)) args σ 0 0 (inW (w7 K a s0))) (w7 K a ((s0.1, s0.2.1, s0.2.2.1, s0.2.2.2.1, s0.2.2.2.2.1, s0.2.2.2.2.2.1, s0.2.2.2.2.2.2.1, s0.2.2.2.2.2.2.2.1, s0.2.2.2.2.2.2.2.2.1, s0.2.2.2.2.2.2.2.2.2.1, s0.2.2.2.2.2.2.2.2.2.2.1, s0.2.2.2.2.2.2.2.2.2.2.2.1, s0.2.2.2.2.2.2.2.2.2.2.2.2.1, s0.2.2.2.2.2.2.2.2.2.2.2.2.2.1, s0.2.2.2.2.2.2.2.2.2.2.2.2.2.2.1, s0.2.2.2.2.2.2.2.2.2.2.2.2.2.2.2.1, s0.2.2.2.2.2.2.2.2.2.2.2.2.2.2.2.2.1, s0.2.2.2.2.2.2.2.2.2.2.2.2.2.2.2.2.2.1, s0.2.2.2.2.2.2.2.2.2.2.2.2.2.2.2.2.2.2.1, s0.2.2.2.2.2.2.2.2.2.2.2.2.2.2.2.2.2.2.2.1, s0.2.2.2.2.2.2.2.2.2.2.2.2.2.2.2.2.2.2.2.2.1, s0.2.2.2.2.2.2.2.2.2.2.2.2.2.2.2.2.2.2.2.2.2.1, q4.2))) 75 [some (.ref (a 0)), some (.int q4.1)] []) (fun z6 => Go p l e (rmc 0 0 0) σ m args below meth c K (inW (w7 K a s0)) σ.heap 2 0 0 (MQ below (CtQ K (w7 K a s0) (none) (w7 K a res)) args σ 0 0 (inW (w7 K a s0))) (w7 K a ((s0.1, s0.2.1, s0.2.2.1, s0.2.2.2.1, s0.2.2.2.2.1, s0.2.2.2.2.2.1, s0.2.2.2.2.2.2.1, s0.2.2.2.2.2.2.2.1, s0.2.2.2.2.2.2.2.2.1, s0.2.2.2.2.2.2.2.2.2.1, s0.2.2.2.2.2.2.2.2.2.2.1, s0.2.2.2.2.2.2.2.2.2.2.2.1, s0.2.2.2.2.2.2.2.2.2.2.2.2.1, s0.2.2.2.2.2.2.2.2.2.2.2.2.2.1, s0.2.2.2.2.2.2.2.2.2.2.2.2.2.2.1, s0.2.2.2.2.2.2.2.2.2.2.2.2.2.2.2.1, s0.2.2.2.2.2.2.2.2.2.2.2.2.2.2.2.2.1, s0.2.2.2.2.2.2.2.2.2.2.2.2.2.2.2.2.2.1, s0.2.2.2.2.2.2.2.2.2.2.2.2.2.2.2.2.2.2.1, s0.2.2.2.2.2.2.2.2.2.2.2.2.2.2.2.2.2.2.2.1, s0.2.2.2.2.2.2.2.2.2.2.2.2.2.2.2.2.2.2.2.2.1, s0.2.2.2.2.2.2.2.2.2.2.2.2.2.2.2.2.2.2.2.2.2.1, z6.2))) 102 [some (.ref (a 0)), some (.int z6.1)] []) ?_ _ _ _ hz6 ?_
    · intro q4 x hf hk
      unfold fX7_keepsAhead_L75 at hf
      refine Go_iload_n (pc := 75) C dX7_keepsAhead_75 rfl ?_
      refine Go_bipush (pc := 76) (v := 96) C dX7_keepsAhead_76 cb_96 ?_
      refine Go_icmp_ge (pc := 78) (tgt := 102) C dX7_keepsAhead_78 (by decide) (fun hc => ?_) (fun hc => ?_)
      · replace hf := ift hc hf
        obtain rfl := Option.some.inj hf
        exact Go_mask [true, true] hk
      · replace hf := iff' hc hf
        refine Go_aload_n (pc := 81) C dX7_keepsAhead_81 rfl ?_
        refine Go_get (pc := 82) C 0 22 rfl rfl inX7 (by decide) mw_651 rfl dX7_keepsAhead_82 ?_
        refine Go_bipush (pc := 85) (v := 28) C dX7_keepsAhead_85 cb_28 ?_
        refine Go_iload_n (pc := 87) C dX7_keepsAhead_87 rfl ?_
        refine Go_iadd (pc := 88) C dX7_keepsAhead_88 ?_
        refine Go_aload_n (pc := 89) C dX7_keepsAhead_89 rfl ?_
        refine Go_get (pc := 90) C 0 1 rfl rfl inX7 (by decide) mw_630 rfl dX7_keepsAhead_90 ?_
        refine Go_iload_n (pc := 93) C dX7_keepsAhead_93 rfl ?_
        obtain ⟨hb, hf⟩ := ifs hf
        refine Go_iald (pc := 94) C 2 rfl (inb_in hb) dX7_keepsAhead_94 ?_
        obtain ⟨hb, hf⟩ := ifs hf
        refine Go_iast (pc := 95) (ws1 := (w7 K a ((s0.1, s0.2.1, s0.2.2.1, s0.2.2.2.1, s0.2.2.2.2.1, s0.2.2.2.2.2.1, s0.2.2.2.2.2.2.1, s0.2.2.2.2.2.2.2.1, s0.2.2.2.2.2.2.2.2.1, s0.2.2.2.2.2.2.2.2.2.1, s0.2.2.2.2.2.2.2.2.2.2.1, s0.2.2.2.2.2.2.2.2.2.2.2.1, s0.2.2.2.2.2.2.2.2.2.2.2.2.1, s0.2.2.2.2.2.2.2.2.2.2.2.2.2.1, s0.2.2.2.2.2.2.2.2.2.2.2.2.2.2.1, s0.2.2.2.2.2.2.2.2.2.2.2.2.2.2.2.1, s0.2.2.2.2.2.2.2.2.2.2.2.2.2.2.2.2.1, s0.2.2.2.2.2.2.2.2.2.2.2.2.2.2.2.2.2.1, s0.2.2.2.2.2.2.2.2.2.2.2.2.2.2.2.2.2.2.1, s0.2.2.2.2.2.2.2.2.2.2.2.2.2.2.2.2.2.2.2.1, s0.2.2.2.2.2.2.2.2.2.2.2.2.2.2.2.2.2.2.2.2.1, s0.2.2.2.2.2.2.2.2.2.2.2.2.2.2.2.2.2.2.2.2.2.1, upd q4.2 ((28 : Int32) + q4.1).toNatClampNeg (s0.2.1 q4.1.toNatClampNeg))))) C 13 rfl (inb_in hb) dX7_keepsAhead_95 (ll_160 _ _ _ _) ?_
        obtain ⟨v5, hv5, hf⟩ := bnd hf
        refine Go_iinc (pc := 96) (v := v5) C dX7_keepsAhead_96 rfl (by rw [ci_1]; exact Option.some.inj hv5) ?_
        refine Go_goto (pc := 99) (tgt := 75) C dX7_keepsAhead_99 (by decide) ?_
        obtain rfl := Option.some.inj hf
        exact Go_mask [true, true] hk
    · show Go _ _ _ _ _ _ _ _ _ _ _ _ _ _ _ _ _ _ _ _ _
      refine Go_aload_n (pc := 102) C dX7_keepsAhead_102 rfl ?_
      refine Go_aload_n (pc := 103) C dX7_keepsAhead_103 rfl ?_
      refine Go_get (pc := 104) C 0 13 rfl rfl inX7 (by decide) mw_642 rfl dX7_keepsAhead_104 ?_
      refine Go_put (pc := 107) (ws1 := (w7 K a ((s0.1, s0.2.1, s0.2.2.1, s0.2.2.2.1, s0.2.2.2.2.1, s0.2.2.2.2.2.1, s0.2.2.2.2.2.2.1, s0.2.2.2.2.2.2.2.1, s0.2.2.2.2.2.2.2.2.1, s0.2.2.2.2.2.2.2.2.2.1, s0.2.2.2.2.2.2.2.2.2.2.1, s0.2.2.2.2.2.2.2.2.2.2.2.1, s0.2.2.2.2.2.2.2.2.2.2.2.2.1, s0.2.2.2.2.2.2.2.2.2.2.2.2.2.1, s0.2.2.2.2.2.2.2.2.2.2.2.2.2.2.1, s0.2.2.2.2.2.2.2.2.2.2.2.2.2.2.2.1, s0.2.2.2.2.2.2.2.2.2.2.2.2.2.2.2.2.1, s0.2.2.2.2.2.2.2.2.2.2.2.2.2.2.2.2.2.1, s0.2.2.2.2.2.2.2.2.2.2.2.2.2.2.2.2.2.2.1, s0.2.2.2.2.2.2.2.2.2.2.2.2.2.2.2.2.2.2.2.1, s0.2.2.2.2.2.2.2.2.2.2.2.2.2.1, s0.2.2.2.2.2.2.2.2.2.2.2.2.2.2.2.2.2.2.2.2.2.1, z6.2)))) C 0 20 tyX7 tyX7_ok nmX7 rfl rfl inX7 (by decide) mw_649 rfl rfl (Nat.le_of_ble_eq_true rfl) dX7_keepsAhead_107 (ll_161 _ _ _ _) ?_
      refine Go_iconst (pc := 110) (v := 0) C dX7_keepsAhead_110 ci_0 ?_
      refine Go_istore_n (pc := 111) C dX7_keepsAhead_111 (by decide) ?_
      obtain ⟨z9, hz9, hf⟩ := bnd hf
      refine Go_mask [true, true] ?_
      refine loopF_go (step := (fX7_keepsAhead_L112 s0)) (fun q7 => Go p l e (rmc 0 0 0) σ m args below meth c K (inW (w7 K a s0)) σ.heap 2 0 0 (MQ below (CtQ K (w7 K a s0) (none) (w7 K a res)) args σ 0 0 (inW (w7 K a s0))) (w7 K a ((s0.1, s0.2.1, s0.2.2.1, s0.2.2.2.1, s0.2.2.2.2.1, s0.2.2.2.2.2.1, s0.2.2.2.2.2.2.1, s0.2.2.2.2.2.2.2.1, s0.2.2.2.2.2.2.2.2.1, s0.2.2.2.2.2.2.2.2.2.1, s0.2.2.2.2.2.2.2.2.2.2.1, s0.2.2.2.2.2.2.2.2.2.2.2.1, s0.2.2.2.2.2.2.2.2.2.2.2.2.1, s0.2.2.2.2.2.2.2.2.2.2.2.2.2.1, s0.2.2.2.2.2.2.2.2.2.2.2.2.2.2.1, s0.2.2.2.2.2.2.2.2.2.2.2.2.2.2.2.1, s0.2.2.2.2.2.2.2.2.2.2.2.2.2.2.2.2.1, s0.2.2.2.2.2.2.2.2.2.2.2.2.2.2.2.2.2.1, s0.2.2.2.2.2.2.2.2.2.2.2.2.2.2.2.2.2.2.1, s0.2.2.2.2.2.2.2.2.2.2.2.2.2.2.2.2.2.2.2.1, s0.2.2.2.2.2.2.2.2.2.2.2.2.2.1, q7.2, z6.2))) 112 [some (.ref (a 0)), some (.int q7.1)] []) (fun z9 => Go p l e (rmc 0 0 0) σ m args below meth c K (inW (w7 K a s0)) σ.heap 2 0 0 (MQ below (CtQ K (w7 K a s0) (none) (w7 K a res)) args σ 0 0 (inW (w7 K a s0))) (w7 K a ((s0.1, s0.2.1, s0.2.2.1, s0.2.2.2.1, s0.2.2.2.2.1, s0.2.2.2.2.2.1, s0.2.2.2.2.2.2.1, s0.2.2.2.2.2.2.2.1, s0.2.2.2.2.2.2.2.2.1, s0.2.2.2.2.2.2.2.2.2.1, s0.2.2.2.2.2.2.2.2.2.2.1, s0.2.2.2.2.2.2.2.2.2.2.2.1, s0.2.2.2.2.2.2.2.2.2.2.2.2.1, s0.2.2.2.2.2.2.2.2.2.2.2.2.2.1, s0.2.2.2.2.2.2.2.2.2.2.2.2.2.2.1, s0.2.2.2.2.2.2.2.2.2.2.2.2.2.2.2.1, s0.2.2.2.2.2.2.2.2.2.2.2.2.2.2.2.2.1, s0.2.2.2.2.2.2.2.2.2.2.2.2.2.2.2.2.2.1, s0.2.2.2.2.2.2.2.2.2.2.2.2.2.2.2.2.2.2.1, s0.2.2.2.2.2.2.2.2.2.2.2.2.2.2.2.2.2.2.2.1, s0.2.2.2.2.2.2.2.2.2.2.2.2.2.1, z9.2, z6.2))) 136 [some (.ref (a 0)), some (.int z9.1)] []) ?_ _ _ _ hz9 ?_
      · intro q7 x hf hk
        unfold fX7_keepsAhead_L112 at hf
        refine Go_iload_n (pc := 112) C dX7_keepsAhead_112 rfl ?_
        refine Go_bipush (pc := 113) (v := 13) C dX7_keepsAhead_113 cb_13 ?_
        refine Go_icmp_ge (pc := 115) (tgt := 136) C dX7_keepsAhead_115 (by decide) (fun hc => ?_) (fun hc => ?_)
        · replace hf := ift hc hf
          obtain rfl := Option.some.inj hf
          exact Go_mask [true, true] hk
        · replace hf := iff' hc hf
          refine Go_aload_n (pc := 118) C dX7_keepsAhead_118 rfl ?_
          refine Go_get (pc := 119) C 0 21 rfl rfl inX7 (by decide) mw_650 rfl dX7_keepsAhead_119 ?_
          refine Go_iload_n (pc := 122) C dX7_keepsAhead_122 rfl ?_
          refine Go_aload_n (pc := 123) C dX7_keepsAhead_123 rfl ?_
          refine Go_get (pc := 124) C 0 14 rfl rfl inX7 (by decide) mw_643 rfl dX7_keepsAhead_124 ?_
          refine Go_iload_n (pc := 127) C dX7_keepsAhead_127 rfl ?_
          obtain ⟨hb, hf⟩ := ifs hf
          refine Go_iald (pc := 128) C 10 rfl (inb_in hb) dX7_keepsAhead_128 ?_
          obtain ⟨hb, hf⟩ := ifs hf
          refine Go_iast (pc := 129) (ws1 := (w7 K a ((s0.1, s0.2.1, s0.2.2.1, s0.2.2.2.1, s0.2.2.2.2.1, s0.2.2.2.2.2.1, s0.2.2.2.2.2.2.1, s0.2.2.2.2.2.2.2.1, s0.2.2.2.2.2.2.2.2.1, s0.2.2.2.2.2.2.2.2.2.1, s0.2.2.2.2.2.2.2.2.2.2.1, s0.2.2.2.2.2.2.2.2.2.2.2.1, s0.2.2.2.2.2.2.2.2.2.2.2.2.1, s0.2.2.2.2.2.2.2.2.2.2.2.2.2.1, s0.2.2.2.2.2.2.2.2.2.2.2.2.2.2.1, s0.2.2.2.2.2.2.2.2.2.2.2.2.2.2.2.1, s0.2.2.2.2.2.2.2.2.2.2.2.2.2.2.2.2.1, s0.2.2.2.2.2.2.2.2.2.2.2.2.2.2.2.2.2.1, s0.2.2.2.2.2.2.2.2.2.2.2.2.2.2.2.2.2.2.1, s0.2.2.2.2.2.2.2.2.2.2.2.2.2.2.2.2.2.2.2.1, s0.2.2.2.2.2.2.2.2.2.2.2.2.2.1, upd q7.2 q7.1.toNatClampNeg (s0.2.2.2.2.2.2.2.2.2.2.2.2.2.2.1 q7.1.toNatClampNeg), z6.2)))) C 12 rfl (inb_in hb) dX7_keepsAhead_129 (ll_162 _ _ _ _) ?_
          obtain ⟨v8, hv8, hf⟩ := bnd hf
          refine Go_iinc (pc := 130) (v := v8) C dX7_keepsAhead_130 rfl (by rw [ci_1]; exact Option.some.inj hv8) ?_
          refine Go_goto (pc := 133) (tgt := 112) C dX7_keepsAhead_133 (by decide) ?_
          obtain rfl := Option.some.inj hf
          exact Go_mask [true, true] hk
      · show Go _ _ _ _ _ _ _ _ _ _ _ _ _ _ _ _ _ _ _ _ _
        obtain rfl := Option.some.inj hf
        exact Go_vret C hr rfl dX7_keepsAhead_136
theorem ll_163 (K : KK) (a : Nat → Nat) (t0 : S7) (y : Int32) : List.set (w7 K a t0) 0 (a 0, .inr (7, List.set [.ref (a 1), .ref (a 2), .int (t0.2.2.1), .ref (a 3), .ref (a 4), .int (t0.2.2.2.2.2.1), .int (t0.2.2.2.2.2.2.1), .int (t0.2.2.2.2.2.2.2.1), .ref (a 5), .ref (a 6), .ref (a 7), .ref (a 8), .ref (a 9), .int (t0.2.2.2.2.2.2.2.2.2.2.2.2.2.1), .ref (a 10), .ref (a 11), .int (t0.2.2.2.2.2.2.2.2.2.2.2.2.2.2.2.2.1), .int (t0.2.2.2.2.2.2.2.2.2.2.2.2.2.2.2.2.2.1), .int (t0.2.2.2.2.2.2.2.2.2.2.2.2.2.2.2.2.2.2.1), .int (t0.2.2.2.2.2.2.2.2.2.2.2.2.2.2.2.2.2.2.2.1), .int (t0.2.2.2.2.2.2.2.2.2.2.2.2.2.2.2.2.2.2.2.2.1), .ref (a 12), .ref (a 13)] 18 (.int y))) = (w7 K a ((t0.1, t0.2.1, t0.2.2.1, t0.2.2.2.1, t0.2.2.2.2.1, t0.2.2.2.2.2.1, t0.2.2.2.2.2.2.1, t0.2.2.2.2.2.2.2.1, t0.2.2.2.2.2.2.2.2.1, t0.2.2.2.2.2.2.2.2.2.1, t0.2.2.2.2.2.2.2.2.2.2.1, t0.2.2.2.2.2.2.2.2.2.2.2.1, t0.2.2.2.2.2.2.2.2.2.2.2.2.1, t0.2.2.2.2.2.2.2.2.2.2.2.2.2.1, t0.2.2.2.2.2.2.2.2.2.2.2.2.2.2.1, t0.2.2.2.2.2.2.2.2.2.2.2.2.2.2.2.1, t0.2.2.2.2.2.2.2.2.2.2.2.2.2.2.2.2.1, t0.2.2.2.2.2.2.2.2.2.2.2.2.2.2.2.2.2.1, y, t0.2.2.2.2.2.2.2.2.2.2.2.2.2.2.2.2.2.2.2))) := rfl
def fX7_readsNumber_L28 (r1 : Int32 × S7) (q3 : Int32 × Int32 × Int32) : Option ((Int32 × Int32 × Int32) ⊕ (Int32 × Int32 × Int32)) := (if r1.2.2.2.2.2.2.2.2.2.2.2.2.2.2.2.2.2.1 ≤ q3.2.1 then some (.inr (q3.1, q3.2.1, q3.2.2)) else (if 0 ≤ q3.2.1 ∧ q3.2.1.toNatClampNeg < 120 then Option.bind (fX7_in (r1.2.2.2.2.2.2.2.2.2.2.2.2.2.2.2.2.1 q3.2.1.toNatClampNeg) (48 : Int32) (57 : Int32)) (fun r4 => (if r4 = 0 then some (.inr (q3.1, q3.2.1, q3.2.2)) else (if (3 : Int32) ≤ q3.1 then Option.bind (some (q3.1 + (1 : Int32))) (fun v5 => some (.inl (v5, q3.2.1 + (1 : Int32), q3.2.2))) else (if 0 ≤ q3.2.1 ∧ q3.2.1.toNatClampNeg < 120 then Option.bind (some (q3.1 + (1 : Int32))) (fun v6 => some (.inl (v6, q3.2.1 + (1 : Int32), (((10 : Int32) * q3.2.2) + (r1.2.2.2.2.2.2.2.2.2.2.2.2.2.2.2.2.1 q3.2.1.toNatClampNeg)) - (48 : Int32)))) else none)))) else none))
def fX7_readsNumber (s0 : S7) (p1 : Int32) : Option (Int32 × S7) := Option.bind (fX7_here s0) (fun r1 => Option.bind (fX7_in r1.1 (48 : Int32) (57 : Int32)) (fun r2 => (if r2 = 0 then some ((0 : Int32), r1.2) else Option.bind (loopF (fX7_readsNumber_L28 r1) 5000 ((0 : Int32), r1.2.2.2.2.2.2.2.2.2.2.2.2.2.2.2.2.2.2.1, (0 : Int32))) (fun z7 => (if (3 : Int32) < z7.1 then some ((0 : Int32), (r1.2.1, r1.2.2.1, r1.2.2.2.1, r1.2.2.2.2.1, r1.2.2.2.2.2.1, r1.2.2.2.2.2.2.1, r1.2.2.2.2.2.2.2.1, r1.2.2.2.2.2.2.2.2.1, r1.2.2.2.2.2.2.2.2.2.1, r1.2.2.2.2.2.2.2.2.2.2.1, r1.2.2.2.2.2.2.2.2.2.2.2.1, r1.2.2.2.2.2.2.2.2.2.2.2.2.1, r1.2.2.2.2.2.2.2.2.2.2.2.2.2.1, r1.2.2.2.2.2.2.2.2.2.2.2.2.2.2.1, r1.2.2.2.2.2.2.2.2.2.2.2.2.2.2.2.1, r1.2.2.2.2.2.2.2.2.2.2.2.2.2.2.2.2.1, r1.2.2.2.2.2.2.2.2.2.2.2.2.2.2.2.2.2.1, r1.2.2.2.2.2.2.2.2.2.2.2.2.2.2.2.2.2.2.1, z7.2.2, r1.2.2.2.2.2.2.2.2.2.2.2.2.2.2.2.2.2.2.2.2)) else (if z7.2.2 ≤ p1 then some ((1 : Int32), (r1.2.1, r1.2.2.1, r1.2.2.2.1, r1.2.2.2.2.1, r1.2.2.2.2.2.1, r1.2.2.2.2.2.2.1, r1.2.2.2.2.2.2.2.1, r1.2.2.2.2.2.2.2.2.1, r1.2.2.2.2.2.2.2.2.2.1, r1.2.2.2.2.2.2.2.2.2.2.1, r1.2.2.2.2.2.2.2.2.2.2.2.1, r1.2.2.2.2.2.2.2.2.2.2.2.2.1, r1.2.2.2.2.2.2.2.2.2.2.2.2.2.1, r1.2.2.2.2.2.2.2.2.2.2.2.2.2.2.1, r1.2.2.2.2.2.2.2.2.2.2.2.2.2.2.2.1, r1.2.2.2.2.2.2.2.2.2.2.2.2.2.2.2.2.1, r1.2.2.2.2.2.2.2.2.2.2.2.2.2.2.2.2.2.1, z7.2.1, z7.2.2, r1.2.2.2.2.2.2.2.2.2.2.2.2.2.2.2.2.2.2.2.2)) else some ((0 : Int32), (r1.2.1, r1.2.2.1, r1.2.2.2.1, r1.2.2.2.2.1, r1.2.2.2.2.2.1, r1.2.2.2.2.2.2.1, r1.2.2.2.2.2.2.2.1, r1.2.2.2.2.2.2.2.2.1, r1.2.2.2.2.2.2.2.2.2.1, r1.2.2.2.2.2.2.2.2.2.2.1, r1.2.2.2.2.2.2.2.2.2.2.2.1, r1.2.2.2.2.2.2.2.2.2.2.2.2.1, r1.2.2.2.2.2.2.2.2.2.2.2.2.2.1, r1.2.2.2.2.2.2.2.2.2.2.2.2.2.2.1, r1.2.2.2.2.2.2.2.2.2.2.2.2.2.2.2.1, r1.2.2.2.2.2.2.2.2.2.2.2.2.2.2.2.2.1, r1.2.2.2.2.2.2.2.2.2.2.2.2.2.2.2.2.2.1, r1.2.2.2.2.2.2.2.2.2.2.2.2.2.2.2.2.2.2.1, z7.2.2, r1.2.2.2.2.2.2.2.2.2.2.2.2.2.2.2.2.2.2.2.2))))))))
theorem ycX7_readsNumber : CalV yX7_readsNumber cX7_readsNumber 4 ((some .boolean)) 1 := ⟨mw_953, mw_69, mw_952, mw_51, ⟨by decide, by decide, by decide +kernel⟩, by decide⟩
set_option maxHeartbeats 4000000 in
set_option maxRecDepth 100000 in
theorem kX7_readsNumber (l : Launch) (K : KK) (a : Nat → Nat) (s0 : S7) (p1 : Int32) (res : Int32 × S7) (hf : fX7_readsNumber s0 p1 = some res) : Ct l K yX7_readsNumber cX7_readsNumber 4 ((some .boolean)) 1 [.ref (a 0), .int p1] (w7 K a s0) (some (.int res.1)) (w7 K a res.2) := by
  refine Ct_of2 (by decide) rfl (Nat.le_of_ble_eq_true rfl) ?_
  intro p e σ m args below meth c C hr
  unfold fX7_readsNumber at hf
  refine Go_aload_n (pc := 0) C dX7_readsNumber_0 rfl ?_
  obtain ⟨r1, hr1, hf⟩ := bnd hf
  refine Go_callV1 (pc := 1) (ws1 := (w7 K a r1.2)) C 0 (0 :: 1 :: 2 :: 3 :: 4 :: 5 :: 6 :: 7 :: 8 :: 9 :: 10 :: 11 :: 12 :: 13 :: []) (kX7_here l K (pk a (0 :: 1 :: 2 :: 3 :: 4 :: 5 :: 6 :: 7 :: 8 :: 9 :: 10 :: 11 :: 12 :: 13 :: [])) s0 r1 hr1) ycX7_here mw_930 (Nat.le_of_ble_eq_true rfl) rfl rfl rfl rfl (Nat.le_of_ble_eq_true rfl) ⟨Nat.zero_le _, Nat.zero_le _⟩ dX7_readsNumber_1 (ll_149 _ _ _) rfl rfl (ll_150 _ _ _ _) ?_
  refine Go_bipush (pc := 4) (v := 48) C dX7_readsNumber_4 cb_48 ?_
  refine Go_bipush (pc := 6) (v := 57) C dX7_readsNumber_6 cb_57 ?_
  obtain ⟨r2, hr2, hf⟩ := bnd hf
  refine Go_callS1 (pc := 8) (ws1 := (w7 K a r1.2)) C [] (kX7_in l K r1.1 (48 : Int32) (57 : Int32) r2 hr2) ycX7_in mw_722 (Nat.le_of_ble_eq_true rfl) rfl rfl (Nat.le_of_ble_eq_true rfl) ⟨Nat.zero_le _, Nat.zero_le _⟩ dX7_readsNumber_8 rfl rfl rfl (Wr_same rfl) ?_
  refine Go_if_ne (pc := 11) (tgt := 16) C dX7_readsNumber_11 (by decide) (fun hc => ?_) (fun hc => ?_)
  · replace hf := ift hc hf
    refine Go_iconst (pc := 14) (v := 0) C dX7_readsNumber_14 ci_0 ?_
    obtain rfl := Option.some.inj hf
    exact Go_zret C hr (Or.inl rfl) rfl dX7_readsNumber_15
  · replace hf := iff' hc hf
    refine Go_aload_n (pc := 16) C dX7_readsNumber_16 rfl ?_
    refine Go_get (pc := 17) C 0 17 rfl rfl inX7 (by decide) mw_646 rfl dX7_readsNumber_17 ?_
    refine Go_istore_n (pc := 20) C dX7_readsNumber_20 (by decide) ?_
    refine Go_iconst (pc := 21) (v := 0) C dX7_readsNumber_21 ci_0 ?_
    refine Go_istore_n (pc := 22) C dX7_readsNumber_22 (by decide) ?_
    refine Go_aload_n (pc := 23) C dX7_readsNumber_23 rfl ?_
    refine Go_iconst (pc := 24) (v := 0) C dX7_readsNumber_24 ci_0 ?_
    refine Go_put (pc := 25) (ws1 := (w7 K a ((r1.2.1, r1.2.2.1, r1.2.2.2.1, r1.2.2.2.2.1, r1.2.2.2.2.2.1, r1.2.2.2.2.2.2.1, r1.2.2.2.2.2.2.2.1, r1.2.2.2.2.2.2.2.2.1, r1.2.2.2.2.2.2.2.2.2.1, r1.2.2.2.2.2.2.2.2.2.2.1, r1.2.2.2.2.2.2.2.2.2.2.2.1, r1.2.2.2.2.2.2.2.2.2.2.2.2.1, r1.2.2.2.2.2.2.2.2.2.2.2.2.2.1, r1.2.2.2.2.2.2.2.2.2.2.2.2.2.2.1, r1.2.2.2.2.2.2.2.2.2.2.2.2.2.2.2.1, r1.2.2.2.2.2.2.2.2.2.2.2.2.2.2.2.2.1, r1.2.2.2.2.2.2.2.2.2.2.2.2.2.2.2.2.2.1, r1.2.2.2.2.2.2.2.2.2.2.2.2.2.2.2.2.2.2.1, (0 : Int32), r1.2.2.2.2.2.2.2.2.2.2.2.2.2.2.2.2.2.2.2.2)))) C 0 18 tyX7 tyX7_ok nmX7 rfl rfl inX7 (by decide) mw_647 rfl rfl (Nat.le_of_ble_eq_true rfl) dX7_readsNumber_25 (ll_163 _ _ _ _) ?_
    obtain ⟨z7, hz7, hf⟩ := bnd hf
    refine Go_mask [true, true, true, true] ?_
    refine loopF_go (step := (fX7_readsNumber_L28 r1)) (fun q3 => Go p l e (rmc 1 0 0) σ m args below meth c K (inW (w7 K a s0)) σ.heap 4 0 0 (MQ below (CtQ K (w7 K a s0) (some (.int res.1)) (w7 K a res.2)) args σ 0 0 (inW (w7 K a s0))) (w7 K a ((r1.2.1, r1.2.2.1, r1.2.2.2.1, r1.2.2.2.2.1, r1.2.2.2.2.2.1, r1.2.2.2.2.2.2.1, r1.2.2.2.2.2.2.2.1, r1.2.2.2.2.2.2.2.2.1, r1.2.2.2.2.2.2.2.2.2.1, r1.2.2.2.2.2.2.2.2.2.2.1, r1.2.2.2.2.2.2.2.2.2.2.2.1, r1.2.2.2.2.2.2.2.2.2.2.2.2.1, r1.2.2.2.2.2.2.2.2.2.2.2.2.2.1, r1.2.2.2.2.2.2.2.2.2.2.2.2.2.2.1, r1.2.2.2.2.2.2.2.2.2.2.2.2.2.2.2.1, r1.2.2.2.2.2.2.2.2.2.2.2.2.2.2.2.2.1, r1.2.2.2.2.2.2.2.2.2.2.2.2.2.2.2.2.2.1, q3.2.1, q3.2.2, r1.2.2.2.2.2.2.2.2.2.2.2.2.2.2.2.2.2.2.2.2))) 28 [some (.ref (a 0)), some (.int p1), some (.int r1.2.2.2.2.2.2.2.2.2.2.2.2.2.2.2.2.2.2.1), some (.int q3.1)] []) (fun z7 => Go p l e (rmc 1 0 0) σ m args below meth c K (inW (w7 K a s0)) σ.heap 4 0 0 (MQ below (CtQ K (w7 K a s0) (some (.int res.1)) (w7 K a res.2)) args σ 0 0 (inW (w7 K a s0))) (w7 K a ((r1.2.1, r1.2.2.1, r1.2.2.2.1, r1.2.2.2.2.1, r1.2.2.2.2.2.1, r1.2.2.2.2.2.2.1, r1.2.2.2.2.2.2.2.1, r1.2.2.2.2.2.2.2.2.1, r1.2.2.2.2.2.2.2.2.2.1, r1.2.2.2.2.2.2.2.2.2.2.1, r1.2.2.2.2.2.2.2.2.2.2.2.1, r1.2.2.2.2.2.2.2.2.2.2.2.2.1, r1.2.2.2.2.2.2.2.2.2.2.2.2.2.1, r1.2.2.2.2.2.2.2.2.2.2.2.2.2.2.1, r1.2.2.2.2.2.2.2.2.2.2.2.2.2.2.2.1, r1.2.2.2.2.2.2.2.2.2.2.2.2.2.2.2.2.1, r1.2.2.2.2.2.2.2.2.2.2.2.2.2.2.2.2.2.1, z7.2.1, z7.2.2, r1.2.2.2.2.2.2.2.2.2.2.2.2.2.2.2.2.2.2.2.2))) 110 [some (.ref (a 0)), some (.int p1), some (.int r1.2.2.2.2.2.2.2.2.2.2.2.2.2.2.2.2.2.2.1), some (.int z7.1)] []) ?_ _ _ _ hz7 ?_
    · intro q3 x hf hk
      unfold fX7_readsNumber_L28 at hf
      refine Go_aload_n (pc := 28) C dX7_readsNumber_28 rfl ?_
      refine Go_get (pc := 29) C 0 17 rfl rfl inX7 (by decide) mw_646 rfl dX7_readsNumber_29 ?_
      refine Go_aload_n (pc := 32) C dX7_readsNumber_32 rfl ?_
      refine Go_get (pc := 33) C 0 16 rfl rfl inX7 (by decide) mw_645 rfl dX7_readsNumber_33 ?_
      refine Go_icmp_ge (pc := 36) (tgt := 110) C dX7_readsNumber_36 (by decide) (fun hc => ?_) (fun hc => ?_)
      · replace hf := ift hc hf
        obtain rfl := Option.some.inj hf
        exact Go_mask [true, true, true, true] hk
      · replace hf := iff' hc hf
        refine Go_aload_n (pc := 39) C dX7_readsNumber_39 rfl ?_
        refine Go_get (pc := 40) C 0 15 rfl rfl inX7 (by decide) mw_644 rfl dX7_readsNumber_40 ?_
        refine Go_aload_n (pc := 43) C dX7_readsNumber_43 rfl ?_
        refine Go_get (pc := 44) C 0 17 rfl rfl inX7 (by decide) mw_646 rfl dX7_readsNumber_44 ?_
        obtain ⟨hb, hf⟩ := ifs hf
        refine Go_iald (pc := 47) C 11 rfl (inb_in hb) dX7_readsNumber_47 ?_
        refine Go_bipush (pc := 48) (v := 48) C dX7_readsNumber_48 cb_48 ?_
        refine Go_bipush (pc := 50) (v := 57) C dX7_readsNumber_50 cb_57 ?_
        obtain ⟨r4, hr4, hf⟩ := bnd hf
        refine Go_callS1 (pc := 52) (ws1 := (w7 K a ((r1.2.1, r1.2.2.1, r1.2.2.2.1, r1.2.2.2.2.1, r1.2.2.2.2.2.1, r1.2.2.2.2.2.2.1, r1.2.2.2.2.2.2.2.1, r1.2.2.2.2.2.2.2.2.1, r1.2.2.2.2.2.2.2.2.2.1, r1.2.2.2.2.2.2.2.2.2.2.1, r1.2.2.2.2.2.2.2.2.2.2.2.1, r1.2.2.2.2.2.2.2.2.2.2.2.2.1, r1.2.2.2.2.2.2.2.2.2.2.2.2.2.1, r1.2.2.2.2.2.2.2.2.2.2.2.2.2.2.1, r1.2.2.2.2.2.2.2.2.2.2.2.2.2.2.2.1, r1.2.2.2.2.2.2.2.2.2.2.2.2.2.2.2.2.1, r1.2.2.2.2.2.2.2.2.2.2.2.2.2.2.2.2.2.1, q3.2.1, q3.2.2, r1.2.2.2.2.2.2.2.2.2.2.2.2.2.2.2.2.2.2.2.2)))) C [] (kX7_in l K (r1.2.2.2.2.2.2.2.2.2.2.2.2.2.2.2.2.1 q3.2.1.toNatClampNeg) (48 : Int32) (57 : Int32) r4 hr4) ycX7_in mw_722 (Nat.le_of_ble_eq_true rfl) rfl rfl (Nat.le_of_ble_eq_true rfl) ⟨Nat.zero_le _, Nat.zero_le _⟩ dX7_readsNumber_52 rfl rfl rfl (Wr_same rfl) ?_
        refine Go_if_eq (pc := 55) (tgt := 110) C dX7_readsNumber_55 (by decide) (fun hc => ?_) (fun hc => ?_)
        · replace hf := ift hc hf
          obtain rfl := Option.some.inj hf
          exact Go_mask [true, true, true, true] hk
        · replace hf := iff' hc hf
          refine Go_aload_n (pc := 58) C dX7_readsNumber_58 rfl ?_
          refine Go_iload_n (pc := 59) C dX7_readsNumber_59 rfl ?_
          refine Go_iconst (pc := 60) (v := 3) C dX7_readsNumber_60 ci_3 ?_
          refine Go_icmp_ge (pc := 61) (tgt := 87) C dX7_readsNumber_61 (by decide) (fun hc => ?_) (fun hc => ?_)
          · replace hf := ift hc hf
            refine Go_aload_n (pc := 87) C dX7_readsNumber_87 rfl ?_
            refine Go_get (pc := 88) C 0 18 rfl rfl inX7 (by decide) mw_647 rfl dX7_readsNumber_88 ?_
            refine Go_put (pc := 91) (ws1 := (w7 K a ((r1.2.1, r1.2.2.1, r1.2.2.2.1, r1.2.2.2.2.1, r1.2.2.2.2.2.1, r1.2.2.2.2.2.2.1, r1.2.2.2.2.2.2.2.1, r1.2.2.2.2.2.2.2.2.1, r1.2.2.2.2.2.2.2.2.2.1, r1.2.2.2.2.2.2.2.2.2.2.1, r1.2.2.2.2.2.2.2.2.2.2.2.1, r1.2.2.2.2.2.2.2.2.2.2.2.2.1, r1.2.2.2.2.2.2.2.2.2.2.2.2.2.1, r1.2.2.2.2.2.2.2.2.2.2.2.2.2.2.1, r1.2.2.2.2.2.2.2.2.2.2.2.2.2.2.2.1, r1.2.2.2.2.2.2.2.2.2.2.2.2.2.2.2.2.1, r1.2.2.2.2.2.2.2.2.2.2.2.2.2.2.2.2.2.1, q3.2.1, q3.2.2, r1.2.2.2.2.2.2.2.2.2.2.2.2.2.2.2.2.2.2.2.2)))) C 0 18 tyX7 tyX7_ok nmX7 rfl rfl inX7 (by decide) mw_647 rfl rfl (Nat.le_of_ble_eq_true rfl) dX7_readsNumber_91 (ll_163 _ _ _ _) ?_
            obtain ⟨v5, hv5, hf⟩ := bnd hf
            refine Go_iinc (pc := 94) (v := v5) C dX7_readsNumber_94 rfl (by rw [ci_1]; exact Option.some.inj hv5) ?_
            refine Go_aload_n (pc := 97) C dX7_readsNumber_97 rfl ?_
            refine Go_dup (pc := 98) C dX7_readsNumber_98 rfl ?_
            refine Go_get (pc := 99) C 0 17 rfl rfl inX7 (by decide) mw_646 rfl dX7_readsNumber_99 ?_
            refine Go_iconst (pc := 102) (v := 1) C dX7_readsNumber_102 ci_1 ?_
            refine Go_iadd (pc := 103) C dX7_readsNumber_103 ?_
            refine Go_put (pc := 104) (ws1 := (w7 K a ((r1.2.1, r1.2.2.1, r1.2.2.2.1, r1.2.2.2.2.1, r1.2.2.2.2.2.1, r1.2.2.2.2.2.2.1, r1.2.2.2.2.2.2.2.1, r1.2.2.2.2.2.2.2.2.1, r1.2.2.2.2.2.2.2.2.2.1, r1.2.2.2.2.2.2.2.2.2.2.1, r1.2.2.2.2.2.2.2.2.2.2.2.1, r1.2.2.2.2.2.2.2.2.2.2.2.2.1, r1.2.2.2.2.2.2.2.2.2.2.2.2.2.1, r1.2.2.2.2.2.2.2.2.2.2.2.2.2.2.1, r1.2.2.2.2.2.2.2.2.2.2.2.2.2.2.2.1, r1.2.2.2.2.2.2.2.2.2.2.2.2.2.2.2.2.1, r1.2.2.2.2.2.2.2.2.2.2.2.2.2.2.2.2.2.1, q3.2.1 + (1 : Int32), q3.2.2, r1.2.2.2.2.2.2.2.2.2.2.2.2.2.2.2.2.2.2.2.2)))) C 0 17 tyX7 tyX7_ok nmX7 rfl rfl inX7 (by decide) mw_646 rfl rfl (Nat.le_of_ble_eq_true rfl) dX7_readsNumber_104 (ll_159 _ _ _ _) ?_
            refine Go_goto (pc := 107) (tgt := 28) C dX7_readsNumber_107 (by decide) ?_
            obtain rfl := Option.some.inj hf
            exact Go_mask [true, true, true, true] hk
          · replace hf := iff' hc hf
            refine Go_bipush (pc := 64) (v := 10) C dX7_readsNumber_64 cb_10 ?_
            refine Go_aload_n (pc := 66) C dX7_readsNumber_66 rfl ?_
            refine Go_get (pc := 67) C 0 18 rfl rfl inX7 (by decide) mw_647 rfl dX7_readsNumber_67 ?_
            refine Go_imul (pc := 70) C dX7_readsNumber_70 ?_
            refine Go_aload_n (pc := 71) C dX7_readsNumber_71 rfl ?_
            refine Go_get (pc := 72) C 0 15 rfl rfl inX7 (by decide) mw_644 rfl dX7_readsNumber_72 ?_
            refine Go_aload_n (pc := 75) C dX7_readsNumber_75 rfl ?_
            refine Go_get (pc := 76) C 0 17 rfl rfl inX7 (by decide) mw_646 rfl dX7_readsNumber_76 ?_
            obtain ⟨hb, hf⟩ := ifs hf
            refine Go_iald (pc := 79) C 11 rfl (inb_in hb) dX7_readsNumber_79 ?_
            refine Go_iadd (pc := 80) C dX7_readsNumber_80 ?_
            refine Go_bipush (pc := 81) (v := 48) C dX7_readsNumber_81 cb_48 ?_
            refine Go_isub (pc := 83) C dX7_readsNumber_83 ?_
            refine Go_goto (pc := 84) (tgt := 91) C dX7_readsNumber_84 (by decide) ?_
            refine Go_put (pc := 91) (ws1 := (w7 K a ((r1.2.1, r1.2.2.1, r1.2.2.2.1, r1.2.2.2.2.1, r1.2.2.2.2.2.1, r1.2.2.2.2.2.2.1, r1.2.2.2.2.2.2.2.1, r1.2.2.2.2.2.2.2.2.1, r1.2.2.2.2.2.2.2.2.2.1, r1.2.2.2.2.2.2.2.2.2.2.1, r1.2.2.2.2.2.2.2.2.2.2.2.1, r1.2.2.2.2.2.2.2.2.2.2.2.2.1, r1.2.2.2.2.2.2.2.2.2.2.2.2.2.1, r1.2.2.2.2.2.2.2.2.2.2.2.2.2.2.1, r1.2.2.2.2.2.2.2.2.2.2.2.2.2.2.2.1, r1.2.2.2.2.2.2.2.2.2.2.2.2.2.2.2.2.1, r1.2.2.2.2.2.2.2.2.2.2.2.2.2.2.2.2.2.1, q3.2.1, (((10 : Int32) * q3.2.2) + (r1.2.2.2.2.2.2.2.2.2.2.2.2.2.2.2.2.1 q3.2.1.toNatClampNeg)) - (48 : Int32), r1.2.2.2.2.2.2.2.2.2.2.2.2.2.2.2.2.2.2.2.2)))) C 0 18 tyX7 tyX7_ok nmX7 rfl rfl inX7 (by decide) mw_647 rfl rfl (Nat.le_of_ble_eq_true rfl) dX7_readsNumber_91 (ll_163 _ _ _ _) ?_
            obtain ⟨v6, hv6, hf⟩ := bnd hf
            refine Go_iinc (pc := 94) (v := v6) C dX7_readsNumber_94 rfl (by rw [ci_1]; exact Option.some.inj hv6) ?_
            refine Go_aload_n (pc := 97) C dX7_readsNumber_97 rfl ?_
            refine Go_dup (pc := 98) C dX7_readsNumber_98 rfl ?_
            refine Go_get (pc := 99) C 0 17 rfl rfl inX7 (by decide) mw_646 rfl dX7_readsNumber_99 ?_
            refine Go_iconst (pc := 102) (v := 1) C dX7_readsNumber_102 ci_1 ?_
            refine Go_iadd (pc := 103) C dX7_readsNumber_103 ?_
            refine Go_put (pc := 104) (ws1 := (w7 K a ((r1.2.1, r1.2.2.1, r1.2.2.2.1, r1.2.2.2.2.1, r1.2.2.2.2.2.1, r1.2.2.2.2.2.2.1, r1.2.2.2.2.2.2.2.1, r1.2.2.2.2.2.2.2.2.1, r1.2.2.2.2.2.2.2.2.2.1, r1.2.2.2.2.2.2.2.2.2.2.1, r1.2.2.2.2.2.2.2.2.2.2.2.1, r1.2.2.2.2.2.2.2.2.2.2.2.2.1, r1.2.2.2.2.2.2.2.2.2.2.2.2.2.1, r1.2.2.2.2.2.2.2.2.2.2.2.2.2.2.1, r1.2.2.2.2.2.2.2.2.2.2.2.2.2.2.2.1, r1.2.2.2.2.2.2.2.2.2.2.2.2.2.2.2.2.1, r1.2.2.2.2.2.2.2.2.2.2.2.2.2.2.2.2.2.1, q3.2.1 + (1 : Int32), (((10 : Int32) * q3.2.2) + (r1.2.2.2.2.2.2.2.2.2.2.2.2.2.2.2.2.1 q3.2.1.toNatClampNeg)) - (48 : Int32), r1.2.2.2.2.2.2.2.2.2.2.2.2.2.2.2.2.2.2.2.2)))) C 0 17 tyX7 tyX7_ok nmX7 rfl rfl inX7 (by decide) mw_646 rfl rfl (Nat.le_of_ble_eq_true rfl) dX7_readsNumber_104 (ll_159 _ _ _ _) ?_
            refine Go_goto (pc := 107) (tgt := 28) C dX7_readsNumber_107 (by decide) ?_
            obtain rfl := Option.some.inj hf
            exact Go_mask [true, true, true, true] hk
    · show Go _ _ _ _ _ _ _ _ _ _ _ _ _ _ _ _ _ _ _ _ _
      refine Go_iload_n (pc := 110) C dX7_readsNumber_110 rfl ?_
      refine Go_iconst (pc := 111) (v := 3) C dX7_readsNumber_111 ci_3 ?_
      refine Go_icmp_gt (pc := 112) (tgt := 123) C dX7_readsNumber_112 (by decide) (fun hc => ?_) (fun hc => ?_)
      · replace hf := ift hc hf
        refine Go_aload_n (pc := 123) C dX7_readsNumber_123 rfl ?_
        refine Go_iload_n (pc := 124) C dX7_readsNumber_124 rfl ?_
        refine Go_put (pc := 125) (ws1 := (w7 K a ((r1.2.1, r1.2.2.1, r1.2.2.2.1, r1.2.2.2.2.1, r1.2.2.2.2.2.1, r1.2.2.2.2.2.2.1, r1.2.2.2.2.2.2.2.1, r1.2.2.2.2.2.2.2.2.1, r1.2.2.2.2.2.2.2.2.2.1, r1.2.2.2.2.2.2.2.2.2.2.1, r1.2.2.2.2.2.2.2.2.2.2.2.1, r1.2.2.2.2.2.2.2.2.2.2.2.2.1, r1.2.2.2.2.2.2.2.2.2.2.2.2.2.1, r1.2.2.2.2.2.2.2.2.2.2.2.2.2.2.1, r1.2.2.2.2.2.2.2.2.2.2.2.2.2.2.2.1, r1.2.2.2.2.2.2.2.2.2.2.2.2.2.2.2.2.1, r1.2.2.2.2.2.2.2.2.2.2.2.2.2.2.2.2.2.1, r1.2.2.2.2.2.2.2.2.2.2.2.2.2.2.2.2.2.2.1, z7.2.2, r1.2.2.2.2.2.2.2.2.2.2.2.2.2.2.2.2.2.2.2.2)))) C 0 17 tyX7 tyX7_ok nmX7 rfl rfl inX7 (by decide) mw_646 rfl rfl (Nat.le_of_ble_eq_true rfl) dX7_readsNumber_125 (ll_159 _ _ _ _) ?_
        refine Go_iconst (pc := 128) (v := 0) C dX7_readsNumber_128 ci_0 ?_
        obtain rfl := Option.some.inj hf
        exact Go_zret C hr (Or.inl rfl) rfl dX7_readsNumber_129
      · replace hf := iff' hc hf
        refine Go_aload_n (pc := 115) C dX7_readsNumber_115 rfl ?_
        refine Go_get (pc := 116) C 0 18 rfl rfl inX7 (by decide) mw_647 rfl dX7_readsNumber_116 ?_
        refine Go_iload_n (pc := 119) C dX7_readsNumber_119 rfl ?_
        refine Go_icmp_le (pc := 120) (tgt := 130) C dX7_readsNumber_120 (by decide) (fun hc => ?_) (fun hc => ?_)
        · replace hf := ift hc hf
          refine Go_iconst (pc := 130) (v := 1) C dX7_readsNumber_130 ci_1 ?_
          obtain rfl := Option.some.inj hf
          exact Go_zret C hr (Or.inr rfl) rfl dX7_readsNumber_131
        · replace hf := iff' hc hf
          refine Go_aload_n (pc := 123) C dX7_readsNumber_123 rfl ?_
          refine Go_iload_n (pc := 124) C dX7_readsNumber_124 rfl ?_
          refine Go_put (pc := 125) (ws1 := (w7 K a ((r1.2.1, r1.2.2.1, r1.2.2.2.1, r1.2.2.2.2.1, r1.2.2.2.2.2.1, r1.2.2.2.2.2.2.1, r1.2.2.2.2.2.2.2.1, r1.2.2.2.2.2.2.2.2.1, r1.2.2.2.2.2.2.2.2.2.1, r1.2.2.2.2.2.2.2.2.2.2.1, r1.2.2.2.2.2.2.2.2.2.2.2.1, r1.2.2.2.2.2.2.2.2.2.2.2.2.1, r1.2.2.2.2.2.2.2.2.2.2.2.2.2.1, r1.2.2.2.2.2.2.2.2.2.2.2.2.2.2.1, r1.2.2.2.2.2.2.2.2.2.2.2.2.2.2.2.1, r1.2.2.2.2.2.2.2.2.2.2.2.2.2.2.2.2.1, r1.2.2.2.2.2.2.2.2.2.2.2.2.2.2.2.2.2.1, r1.2.2.2.2.2.2.2.2.2.2.2.2.2.2.2.2.2.2.1, z7.2.2, r1.2.2.2.2.2.2.2.2.2.2.2.2.2.2.2.2.2.2.2.2)))) C 0 17 tyX7 tyX7_ok nmX7 rfl rfl inX7 (by decide) mw_646 rfl rfl (Nat.le_of_ble_eq_true rfl) dX7_readsNumber_125 (ll_159 _ _ _ _) ?_
          refine Go_iconst (pc := 128) (v := 0) C dX7_readsNumber_128 ci_0 ?_
          obtain rfl := Option.some.inj hf
          exact Go_zret C hr (Or.inl rfl) rfl dX7_readsNumber_129
