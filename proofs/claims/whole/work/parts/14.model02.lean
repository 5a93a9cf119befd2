def fX7_of (s0 : S7) (p1 : Int32) (p2 : Int32) : Option (Int32 × S7) := Option.bind (fX7_isPillar s0 p1) (fun r1 => (if r1 = 0 then Option.bind (fX7_bad s0) (fun r2 => some (r2.1, r2.2)) else Option.bind (fX7_in p2 (0 : Int32) (5 : Int32)) (fun r3 => (if r3 = 0 then Option.bind (fX7_bad s0) (fun r4 => some (r4.1, r4.2)) else Option.bind (fX7_ofBy s0 p1 p2) (fun r5 => some (r5.1, r5.2))))))
theorem ycX7_of : CalV yX7_of cX7_of 3 ((some .int)) 2 := ⟨mw_791, mw_69, mw_789, mw_790, ⟨by decide, by decide, by decide +kernel⟩, by decide⟩
set_option maxHeartbeats 4000000 in
set_option maxRecDepth 100000 in
theorem kX7_of (l : Launch) (K : KK) (a : Nat → Nat) (s0 : S7) (p1 : Int32) (p2 : Int32) (res : Int32 × S7) (hf : fX7_of s0 p1 p2 = some res) : Ct l K yX7_of cX7_of 3 ((some .int)) 4 [.ref (a 0), .int p1, .int p2] (w7 K a s0) (some (.int res.1)) (w7 K a res.2) := by
  refine Ct_of2 (by decide) rfl (Nat.le_of_ble_eq_true rfl) ?_
  intro p e σ m args below meth c C hr
  unfold fX7_of at hf
  refine Go_aload_n (pc := 0) C dX7_of_0 rfl ?_
  refine Go_iload_n (pc := 1) C dX7_of_1 rfl ?_
  obtain ⟨r1, hr1, hf⟩ := bnd hf
  refine Go_callV1 (pc := 2) (ws1 := (w7 K a s0)) C 0 (0 :: 1 :: 2 :: 3 :: 4 :: 5 :: 6 :: 7 :: 8 :: 9 :: 10 :: 11 :: 12 :: 13 :: []) (kX7_isPillar l K (pk a (0 :: 1 :: 2 :: 3 :: 4 :: 5 :: 6 :: 7 :: 8 :: 9 :: 10 :: 11 :: 12 :: 13 :: [])) s0 p1 r1 hr1) ycX7_isPillar mw_766 (Nat.le_of_ble_eq_true rfl) rfl rfl rfl rfl (Nat.le_of_ble_eq_true rfl) ⟨Nat.zero_le _, Nat.zero_le _⟩ dX7_of_2 (ll_149 _ _ _) rfl rfl (Wr_same (ll_149 _ _ _)) ?_
  refine Go_if_eq (pc := 5) (tgt := 26) C dX7_of_5 (by decide) (fun hc => ?_) (fun hc => ?_)
  · replace hf := ift hc hf
    refine Go_aload_n (pc := 26) C dX7_of_26 rfl ?_
    obtain ⟨r2, hr2, hf⟩ := bnd hf
    refine Go_callV1 (pc := 27) (ws1 := (w7 K a r2.2)) C 0 (0 :: 1 :: 2 :: 3 :: 4 :: 5 :: 6 :: 7 :: 8 :: 9 :: 10 :: 11 :: 12 :: 13 :: []) (kX7_bad l K (pk a (0 :: 1 :: 2 :: 3 :: 4 :: 5 :: 6 :: 7 :: 8 :: 9 :: 10 :: 11 :: 12 :: 13 :: [])) s0 r2 hr2) ycX7_bad mw_725 (Nat.le_of_ble_eq_true rfl) rfl rfl rfl rfl (Nat.le_of_ble_eq_true rfl) ⟨Nat.zero_le _, Nat.zero_le _⟩ dX7_of_27 (ll_149 _ _ _) rfl rfl (ll_150 _ _ _ _) ?_
    obtain rfl := Option.some.inj hf
    exact Go_iret C hr rfl dX7_of_30
  · replace hf := iff' hc hf
    refine Go_iload_n (pc := 8) C dX7_of_8 rfl ?_
    refine Go_iconst (pc := 9) (v := 0) C dX7_of_9 ci_0 ?_
    refine Go_iconst (pc := 10) (v := 5) C dX7_of_10 ci_5 ?_
    obtain ⟨r3, hr3, hf⟩ := bnd hf
    refine Go_callS1 (pc := 11) (ws1 := (w7 K a s0)) C [] (kX7_in l K p2 (0 : Int32) (5 : Int32) r3 hr3) ycX7_in mw_722 (Nat.le_of_ble_eq_true rfl) rfl rfl (Nat.le_of_ble_eq_true rfl) ⟨Nat.zero_le _, Nat.zero_le _⟩ dX7_of_11 rfl rfl rfl (Wr_same rfl) ?_
    refine Go_if_eq (pc := 14) (tgt := 26) C dX7_of_14 (by decide) (fun hc => ?_) (fun hc => ?_)
    · replace hf := ift hc hf
      refine Go_aload_n (pc := 26) C dX7_of_26 rfl ?_
      obtain ⟨r4, hr4, hf⟩ := bnd hf
      refine Go_callV1 (pc := 27) (ws1 := (w7 K a r4.2)) C 0 (0 :: 1 :: 2 :: 3 :: 4 :: 5 :: 6 :: 7 :: 8 :: 9 :: 10 :: 11 :: 12 :: 13 :: []) (kX7_bad l K (pk a (0 :: 1 :: 2 :: 3 :: 4 :: 5 :: 6 :: 7 :: 8 :: 9 :: 10 :: 11 :: 12 :: 13 :: [])) s0 r4 hr4) ycX7_bad mw_725 (Nat.le_of_ble_eq_true rfl) rfl rfl rfl rfl (Nat.le_of_ble_eq_true rfl) ⟨Nat.zero_le _, Nat.zero_le _⟩ dX7_of_27 (ll_149 _ _ _) rfl rfl (ll_150 _ _ _ _) ?_
      obtain rfl := Option.some.inj hf
      exact Go_iret C hr rfl dX7_of_30
    · replace hf := iff' hc hf
      refine Go_aload_n (pc := 17) C dX7_of_17 rfl ?_
      refine Go_iload_n (pc := 18) C dX7_of_18 rfl ?_
      refine Go_iload_n (pc := 19) C dX7_of_19 rfl ?_
      obtain ⟨r5, hr5, hf⟩ := bnd hf
      refine Go_callV1 (pc := 20) (ws1 := (w7 K a r5.2)) C 0 (0 :: 1 :: 2 :: 3 :: 4 :: 5 :: 6 :: 7 :: 8 :: 9 :: 10 :: 11 :: 12 :: 13 :: []) (kX7_ofBy l K (pk a (0 :: 1 :: 2 :: 3 :: 4 :: 5 :: 6 :: 7 :: 8 :: 9 :: 10 :: 11 :: 12 :: 13 :: [])) s0 p1 p2 r5 hr5) ycX7_ofBy mw_792 (Nat.le_of_ble_eq_true rfl) rfl rfl rfl rfl (Nat.le_of_ble_eq_true rfl) ⟨Nat.zero_le _, Nat.zero_le _⟩ dX7_of_20 (ll_149 _ _ _) rfl rfl (ll_150 _ _ _ _) ?_
      refine Go_goto (pc := 23) (tgt := 30) C dX7_of_23 (by decide) ?_
      obtain rfl := Option.some.inj hf
      exact Go_iret C hr rfl dX7_of_30
def fX7_rests (s0 : S7) (p1 : Int32) : Option (Int32 × S7) := Option.bind (fX7_isCell p1) (fun r1 => (if r1 = 0 then Option.bind (fX7_bad s0) (fun r2 => some (r2.1, r2.2)) else Option.bind (fX7_setRooms s0) (fun r3 => Option.bind (fX7_bearer r3 r3.2.2.2.2.2.1 p1) (fun r4 => some (r4, r3)))))
theorem ycX7_rests : CalV yX7_rests cX7_rests 2 ((some .int)) 1 := ⟨mw_826, mw_69, mw_824, mw_825, ⟨by decide, by decide, by decide +kernel⟩, by decide⟩
set_option maxHeartbeats 4000000 in
set_option maxRecDepth 100000 in
theorem kX7_rests (l : Launch) (K : KK) (a : Nat → Nat) (s0 : S7) (p1 : Int32) (res : Int32 × S7) (hf : fX7_rests s0 p1 = some res) : Ct l K yX7_rests cX7_rests 2 ((some .int)) 2 [.ref (a 0), .int p1] (w7 K a s0) (some (.int res.1)) (w7 K a res.2) := by
  refine Ct_of2 (by decide) rfl (Nat.le_of_ble_eq_true rfl) ?_
  intro p e σ m args below meth c C hr
  unfold fX7_rests at hf
  refine Go_iload_n (pc := 0) C dX7_rests_0 rfl ?_
  obtain ⟨r1, hr1, hf⟩ := bnd hf
  refine Go_callS1 (pc := 1) (ws1 := (w7 K a s0)) C [] (kX7_isCell l K p1 r1 hr1) ycX7_isCell mw_719 (Nat.le_of_ble_eq_true rfl) rfl rfl (Nat.le_of_ble_eq_true rfl) ⟨Nat.zero_le _, Nat.zero_le _⟩ dX7_rests_1 rfl rfl rfl (Wr_same rfl) ?_
  refine Go_if_ne (pc := 4) (tgt := 12) C dX7_rests_4 (by decide) (fun hc => ?_) (fun hc => ?_)
  · replace hf := ift hc hf
    refine Go_aload_n (pc := 7) C dX7_rests_7 rfl ?_
    obtain ⟨r2, hr2, hf⟩ := bnd hf
    refine Go_callV1 (pc := 8) (ws1 := (w7 K a r2.2)) C 0 (0 :: 1 :: 2 :: 3 :: 4 :: 5 :: 6 :: 7 :: 8 :: 9 :: 10 :: 11 :: 12 :: 13 :: []) (kX7_bad l K (pk a (0 :: 1 :: 2 :: 3 :: 4 :: 5 :: 6 :: 7 :: 8 :: 9 :: 10 :: 11 :: 12 :: 13 :: [])) s0 r2 hr2) ycX7_bad mw_725 (Nat.le_of_ble_eq_true rfl) rfl rfl rfl rfl (Nat.le_of_ble_eq_true rfl) ⟨Nat.zero_le _, Nat.zero_le _⟩ dX7_rests_8 (ll_149 _ _ _) rfl rfl (ll_150 _ _ _ _) ?_
    obtain rfl := Option.some.inj hf
    exact Go_iret C hr rfl dX7_rests_11
  · replace hf := iff' hc hf
    refine Go_aload_n (pc := 12) C dX7_rests_12 rfl ?_
    obtain ⟨r3, hr3, hf⟩ := bnd hf
    refine Go_callV0 (pc := 13) (ws1 := (w7 K a r3)) C 0 (0 :: 1 :: 2 :: 3 :: 4 :: 5 :: 6 :: 7 :: 8 :: 9 :: 10 :: 11 :: 12 :: 13 :: []) (kX7_setRooms l K (pk a (0 :: 1 :: 2 :: 3 :: 4 :: 5 :: 6 :: 7 :: 8 :: 9 :: 10 :: 11 :: 12 :: 13 :: [])) s0 r3 hr3) ycX7_setRooms mw_800 (Nat.le_of_ble_eq_true rfl) rfl rfl rfl rfl (Nat.le_of_ble_eq_true rfl) ⟨Nat.zero_le _, Nat.zero_le _⟩ dX7_rests_13 (ll_149 _ _ _) rfl rfl (ll_150 _ _ _ _) ?_
    refine Go_aload_n (pc := 16) C dX7_rests_16 rfl ?_
    refine Go_aload_n (pc := 17) C dX7_rests_17 rfl ?_
    refine Go_get (pc := 18) C 0 5 rfl rfl inX7 (by decide) mw_634 rfl dX7_rests_18 ?_
    refine Go_iload_n (pc := 21) C dX7_rests_21 rfl ?_
    obtain ⟨r4, hr4, hf⟩ := bnd hf
    refine Go_callV1 (pc := 22) (ws1 := (w7 K a r3)) C 0 (0 :: 1 :: 2 :: 3 :: 4 :: 5 :: 6 :: 7 :: 8 :: 9 :: 10 :: 11 :: 12 :: 13 :: []) (kX7_bearer l K (pk a (0 :: 1 :: 2 :: 3 :: 4 :: 5 :: 6 :: 7 :: 8 :: 9 :: 10 :: 11 :: 12 :: 13 :: [])) r3 r3.2.2.2.2.2.1 p1 r4 hr4) ycX7_bearer mw_808 (Nat.le_of_ble_eq_true rfl) rfl rfl rfl rfl (Nat.le_of_ble_eq_true rfl) ⟨Nat.zero_le _, Nat.zero_le _⟩ dX7_rests_22 (ll_149 _ _ _) rfl rfl (Wr_same (ll_149 _ _ _)) ?_
    obtain rfl := Option.some.inj hf
    exact Go_iret C hr rfl dX7_rests_25
def fX7_tooMuch_L9 (p1 : Int32) (r1 : S7) (q2 : Int32 × Int32) : Option ((Int32 × Int32) ⊕ (Int32 × Int32)) := (if (13 : Int32) ≤ q2.2 then some (.inr (q2.1, q2.2)) else (if ((p1 >>> (q2.2 &&& 31)) &&& (1 : Int32)) = (1 : Int32) then (if 0 ≤ q2.2 ∧ q2.2.toNatClampNeg < 14 then (if 0 ≤ q2.2 ∧ q2.2.toNatClampNeg < 13 then (if (r1.2.2.2.2.2.2.2.2.2.2.2.1 q2.2.toNatClampNeg) ≤ (r1.2.2.2.2.1 q2.2.toNatClampNeg) then Option.bind (some (q2.1 ||| (0 : Int32))) (fun v3 => Option.bind (some (q2.2 + (1 : Int32))) (fun v4 => some (.inl (v3, v4)))) else Option.bind (some (q2.1 ||| ((1 : Int32) <<< (q2.2 &&& 31)))) (fun v5 => Option.bind (some (q2.2 + (1 : Int32))) (fun v6 => some (.inl (v5, v6))))) else none) else none) else Option.bind (some (q2.1 ||| (0 : Int32))) (fun v7 => Option.bind (some (q2.2 + (1 : Int32))) (fun v8 => some (.inl (v7, v8))))))
def fX7_tooMuch (s0 : S7) (p1 : Int32) : Option (Int32 × S7) := Option.bind (fX7_bears s0 p1) (fun r1 => Option.bind (loopF (fX7_tooMuch_L9 p1 r1) 5000 ((0 : Int32), (0 : Int32))) (fun z9 => some (z9.1, r1)))
theorem ycX7_tooMuch : CalV yX7_tooMuch cX7_tooMuch 4 ((some .int)) 1 := ⟨mw_838, mw_69, mw_837, mw_36, ⟨by decide, by decide, by decide +kernel⟩, by decide⟩
set_option maxHeartbeats 4000000 in
set_option maxRecDepth 100000 in
theorem kX7_tooMuch (l : Launch) (K : KK) (a : Nat → Nat) (s0 : S7) (p1 : Int32) (res : Int32 × S7) (hf : fX7_tooMuch s0 p1 = some res) : Ct l K yX7_tooMuch cX7_tooMuch 4 ((some .int)) 3 [.ref (a 0), .int p1] (w7 K a s0) (some (.int res.1)) (w7 K a res.2) := by
  refine Ct_of2 (by decide) rfl (Nat.le_of_ble_eq_true rfl) ?_
  intro p e σ m args below meth c C hr
  unfold fX7_tooMuch at hf
  refine Go_aload_n (pc := 0) C dX7_tooMuch_0 rfl ?_
  refine Go_iload_n (pc := 1) C dX7_tooMuch_1 rfl ?_
  obtain ⟨r1, hr1, hf⟩ := bnd hf
  refine Go_callV0 (pc := 2) (ws1 := (w7 K a r1)) C 0 (0 :: 1 :: 2 :: 3 :: 4 :: 5 :: 6 :: 7 :: 8 :: 9 :: 10 :: 11 :: 12 :: 13 :: []) (kX7_bears l K (pk a (0 :: 1 :: 2 :: 3 :: 4 :: 5 :: 6 :: 7 :: 8 :: 9 :: 10 :: 11 :: 12 :: 13 :: [])) s0 p1 r1 hr1) ycX7_bears mw_796 (Nat.le_of_ble_eq_true rfl) rfl rfl rfl rfl (Nat.le_of_ble_eq_true rfl) ⟨Nat.zero_le _, Nat.zero_le _⟩ dX7_tooMuch_2 (ll_149 _ _ _) rfl rfl (ll_150 _ _ _ _) ?_
  refine Go_iconst (pc := 5) (v := 0) C dX7_tooMuch_5 ci_0 ?_
  refine Go_istore_n (pc := 6) C dX7_tooMuch_6 (by decide) ?_
  refine Go_iconst (pc := 7) (v := 0) C dX7_tooMuch_7 ci_0 ?_
  refine Go_istore_n (pc := 8) C dX7_tooMuch_8 (by decide) ?_
  obtain ⟨z9, hz9, hf⟩ := bnd hf
  refine Go_mask [true, true, true, true] ?_
  refine loopF_go (step := (fX7_tooMuch_L9 p1 r1)) (fun q2 => Go p l e (rmc 3 0 0) σ m args below meth c K (inW (w7 K a s0)) σ.heap 4 0 0 (MQ below (CtQ K (w7 K a s0) (some (.int res.1)) (w7 K a res.2)) args σ 0 0 (inW (w7 K a s0))) (w7 K a r1) 9 [some (.ref (a 0)), some (.int p1), some (.int q2.1), some (.int q2.2)] []) (fun z9 => Go p l e (rmc 3 0 0) σ m args below meth c K (inW (w7 K a s0)) σ.heap 4 0 0 (MQ below (CtQ K (w7 K a s0) (some (.int res.1)) (w7 K a res.2)) args σ 0 0 (inW (w7 K a s0))) (w7 K a r1) 55 [some (.ref (a 0)), some (.int p1), some (.int z9.1), some (.int z9.2)] []) ?_ _ _ _ hz9 ?_
  · intro q2 x hf hk
    unfold fX7_tooMuch_L9 at hf
    refine Go_iload_n (pc := 9) C dX7_tooMuch_9 rfl ?_
    refine Go_bipush (pc := 10) (v := 13) C dX7_tooMuch_10 cb_13 ?_
    refine Go_icmp_ge (pc := 12) (tgt := 55) C dX7_tooMuch_12 (by decide) (fun hc => ?_) (fun hc => ?_)
    · replace hf := ift hc hf
      obtain rfl := Option.some.inj hf
      exact Go_mask [true, true, true, true] hk
    · replace hf := iff' hc hf
      refine Go_iload_n (pc := 15) C dX7_tooMuch_15 rfl ?_
      refine Go_iload_n (pc := 16) C dX7_tooMuch_16 rfl ?_
      refine Go_iload_n (pc := 17) C dX7_tooMuch_17 rfl ?_
      refine Go_ishr (pc := 18) C dX7_tooMuch_18 ?_
      refine Go_iconst (pc := 19) (v := 1) C dX7_tooMuch_19 ci_1 ?_
      refine Go_iand (pc := 20) C dX7_tooMuch_20 ?_
      refine Go_iconst (pc := 21) (v := 1) C dX7_tooMuch_21 ci_1 ?_
      refine Go_icmp_ne (pc := 22) (tgt := 46) C dX7_tooMuch_22 (by decide) (fun hc => ?_) (fun hc => ?_)
      · replace hf := ift hc hf
        refine Go_aload_n (pc := 25) C dX7_tooMuch_25 rfl ?_
        refine Go_get (pc := 26) C 0 11 rfl rfl inX7 (by decide) mw_640 rfl dX7_tooMuch_26 ?_
        refine Go_iload_n (pc := 29) C dX7_tooMuch_29 rfl ?_
        obtain ⟨hb, hf⟩ := ifs hf
        refine Go_iald (pc := 30) C 8 rfl (inb_in hb) dX7_tooMuch_30 ?_
        refine Go_aload_n (pc := 31) C dX7_tooMuch_31 rfl ?_
        refine Go_get (pc := 32) C 0 4 rfl rfl inX7 (by decide) mw_633 rfl dX7_tooMuch_32 ?_
        refine Go_iload_n (pc := 35) C dX7_tooMuch_35 rfl ?_
        obtain ⟨hb, hf⟩ := ifs hf
        refine Go_iald (pc := 36) C 4 rfl (inb_in hb) dX7_tooMuch_36 ?_
        refine Go_icmp_le (pc := 37) (tgt := 46) C dX7_tooMuch_37 (by decide) (fun hc => ?_) (fun hc => ?_)
        · replace hf := ift hc hf
          refine Go_iconst (pc := 46) (v := 0) C dX7_tooMuch_46 ci_0 ?_
          refine Go_ior (pc := 47) C dX7_tooMuch_47 ?_
          obtain ⟨v3, hv3, hf⟩ := bnd hf
          refine Go_topi (Option.some.inj hv3) ?_
          refine Go_istore_n (pc := 48) C dX7_tooMuch_48 (by decide) ?_
          obtain ⟨v4, hv4, hf⟩ := bnd hf
          refine Go_iinc (pc := 49) (v := v4) C dX7_tooMuch_49 rfl (by rw [ci_1]; exact Option.some.inj hv4) ?_
          refine Go_goto (pc := 52) (tgt := 9) C dX7_tooMuch_52 (by decide) ?_
          obtain rfl := Option.some.inj hf
          exact Go_mask [true, true, true, true] hk
        · replace hf := iff' hc hf
          refine Go_iconst (pc := 40) (v := 1) C dX7_tooMuch_40 ci_1 ?_
          refine Go_iload_n (pc := 41) C dX7_tooMuch_41 rfl ?_
          refine Go_ishl (pc := 42) C dX7_tooMuch_42 ?_
          refine Go_goto (pc := 43) (tgt := 47) C dX7_tooMuch_43 (by decide) ?_
          refine Go_ior (pc := 47) C dX7_tooMuch_47 ?_
          obtain ⟨v5, hv5, hf⟩ := bnd hf
          refine Go_topi (Option.some.inj hv5) ?_
          refine Go_istore_n (pc := 48) C dX7_tooMuch_48 (by decide) ?_
          obtain ⟨v6, hv6, hf⟩ := bnd hf
          refine Go_iinc (pc := 49) (v := v6) C dX7_tooMuch_49 rfl (by rw [ci_1]; exact Option.some.inj hv6) ?_
          refine Go_goto (pc := 52) (tgt := 9) C dX7_tooMuch_52 (by decide) ?_
          obtain rfl := Option.some.inj hf
          exact Go_mask [true, true, true, true] hk
      · replace hf := iff' hc hf
        refine Go_iconst (pc := 46) (v := 0) C dX7_tooMuch_46 ci_0 ?_
        refine Go_ior (pc := 47) C dX7_tooMuch_47 ?_
        obtain ⟨v7, hv7, hf⟩ := bnd hf
        refine Go_topi (Option.some.inj hv7) ?_
        refine Go_istore_n (pc := 48) C dX7_tooMuch_48 (by decide) ?_
        obtain ⟨v8, hv8, hf⟩ := bnd hf
        refine Go_iinc (pc := 49) (v := v8) C dX7_tooMuch_49 rfl (by rw [ci_1]; exact Option.some.inj hv8) ?_
        refine Go_goto (pc := 52) (tgt := 9) C dX7_tooMuch_52 (by decide) ?_
        obtain rfl := Option.some.inj hf
        exact Go_mask [true, true, true, true] hk
  · show Go _ _ _ _ _ _ _ _ _ _ _ _ _ _ _ _ _ _ _ _ _
    refine Go_iload_n (pc := 55) C dX7_tooMuch_55 rfl ?_
    obtain rfl := Option.some.inj hf
    exact Go_iret C hr rfl dX7_tooMuch_56
def fX7_allWeight_L4 (s0 : S7) (q1 : Int32 × Int32) : Option ((Int32 × Int32) ⊕ (Int32 × Int32)) := (if (96 : Int32) ≤ q1.2 then some (.inr (q1.1, q1.2)) else (if 0 ≤ q1.2 ∧ q1.2.toNatClampNeg < 96 then Option.bind (some (q1.1 + (s0.2.1 q1.2.toNatClampNeg))) (fun v2 => Option.bind (some (q1.2 + (1 : Int32))) (fun v3 => some (.inl (v2, v3)))) else none))
def fX7_allWeight (s0 : S7) : Option (Int32) := Option.bind (loopF (fX7_allWeight_L4 s0) 5000 ((0 : Int32), (0 : Int32))) (fun z4 => some z4.1)
theorem ycX7_allWeight : CalV yX7_allWeight cX7_allWeight 3 ((some .int)) 0 := ⟨mw_842, mw_69, mw_841, mw_37, ⟨by decide, by decide, by decide +kernel⟩, by decide⟩
set_option maxHeartbeats 4000000 in
set_option maxRecDepth 100000 in
theorem kX7_allWeight (l : Launch) (K : KK) (a : Nat → Nat) (s0 : S7) (res : Int32) (hf : fX7_allWeight s0 = some res) : Ct l K yX7_allWeight cX7_allWeight 3 ((some .int)) 0 [.ref (a 0)] (w7 K a s0) (some (.int res)) (w7 K a s0) := by
  refine Ct_of2 (by decide) rfl (Nat.le_of_ble_eq_true rfl) ?_
  intro p e σ m args below meth c C hr
  unfold fX7_allWeight at hf
  refine Go_iconst (pc := 0) (v := 0) C dX7_allWeight_0 ci_0 ?_
  refine Go_istore_n (pc := 1) C dX7_allWeight_1 (by decide) ?_
  refine Go_iconst (pc := 2) (v := 0) C dX7_allWeight_2 ci_0 ?_
  refine Go_istore_n (pc := 3) C dX7_allWeight_3 (by decide) ?_
  obtain ⟨z4, hz4, hf⟩ := bnd hf
  refine Go_mask [true, true, true] ?_
  refine loopF_go (step := (fX7_allWeight_L4 s0)) (fun q1 => Go p l e (rmc 0 0 0) σ m args below meth c K (inW (w7 K a s0)) σ.heap 3 0 0 (MQ below (CtQ K (w7 K a s0) (some (.int res)) (w7 K a s0)) args σ 0 0 (inW (w7 K a s0))) (w7 K a s0) 4 [some (.ref (a 0)), some (.int q1.1), some (.int q1.2)] []) (fun z4 => Go p l e (rmc 0 0 0) σ m args below meth c K (inW (w7 K a s0)) σ.heap 3 0 0 (MQ below (CtQ K (w7 K a s0) (some (.int res)) (w7 K a s0)) args σ 0 0 (inW (w7 K a s0))) (w7 K a s0) 25 [some (.ref (a 0)), some (.int z4.1), some (.int z4.2)] []) ?_ _ _ _ hz4 ?_
  · intro q1 x hf hk
    unfold fX7_allWeight_L4 at hf
    refine Go_iload_n (pc := 4) C dX7_allWeight_4 rfl ?_
    refine Go_bipush (pc := 5) (v := 96) C dX7_allWeight_5 cb_96 ?_
    refine Go_icmp_ge (pc := 7) (tgt := 25) C dX7_allWeight_7 (by decide) (fun hc => ?_) (fun hc => ?_)
    · replace hf := ift hc hf
      obtain rfl := Option.some.inj hf
      exact Go_mask [true, true, true] hk
    · replace hf := iff' hc hf
      refine Go_iload_n (pc := 10) C dX7_allWeight_10 rfl ?_
      refine Go_aload_n (pc := 11) C dX7_allWeight_11 rfl ?_
      refine Go_get (pc := 12) C 0 1 rfl rfl inX7 (by decide) mw_630 rfl dX7_allWeight_12 ?_
      refine Go_iload_n (pc := 15) C dX7_allWeight_15 rfl ?_
      obtain ⟨hb, hf⟩ := ifs hf
      refine Go_iald (pc := 16) C 2 rfl (inb_in hb) dX7_allWeight_16 ?_
      refine Go_iadd (pc := 17) C dX7_allWeight_17 ?_
      obtain ⟨v2, hv2, hf⟩ := bnd hf
      refine Go_topi (Option.some.inj hv2) ?_
      refine Go_istore_n (pc := 18) C dX7_allWeight_18 (by decide) ?_
      obtain ⟨v3, hv3, hf⟩ := bnd hf
      refine Go_iinc (pc := 19) (v := v3) C dX7_allWeight_19 rfl (by rw [ci_1]; exact Option.some.inj hv3) ?_
      refine Go_goto (pc := 22) (tgt := 4) C dX7_allWeight_22 (by decide) ?_
      obtain rfl := Option.some.inj hf
      exact Go_mask [true, true, true] hk
  · show Go _ _ _ _ _ _ _ _ _ _ _ _ _ _ _ _ _ _ _ _ _
    refine Go_iload_n (pc := 25) C dX7_allWeight_25 rfl ?_
    obtain rfl := Option.some.inj hf
    exact Go_iret C hr rfl dX7_allWeight_26
def fX7_rooms (s0 : S7) : Option (Int32) := Option.bind (fX7_wallsAhead s0 (0 : Int32) (7 : Int32)) (fun r1 => Option.bind (fX7_wallsAhead s0 (10 : Int32) (11 : Int32)) (fun r2 => some ((r1 + (1 : Int32)) * (r2 + (1 : Int32)))))
theorem ycX7_rooms : CalV yX7_rooms cX7_rooms 1 ((some .int)) 0 := ⟨mw_846, mw_69, mw_845, mw_38, ⟨by decide, by decide, by decide +kernel⟩, by decide⟩
set_option maxHeartbeats 4000000 in
set_option maxRecDepth 100000 in
theorem kX7_rooms (l : Launch) (K : KK) (a : Nat → Nat) (s0 : S7) (res : Int32) (hf : fX7_rooms s0 = some res) : Ct l K yX7_rooms cX7_rooms 1 ((some .int)) 1 [.ref (a 0)] (w7 K a s0) (some (.int res)) (w7 K a s0) := by
  refine Ct_of2 (by decide) rfl (Nat.le_of_ble_eq_true rfl) ?_
  intro p e σ m args below meth c C hr
  unfold fX7_rooms at hf
  refine Go_aload_n (pc := 0) C dX7_rooms_0 rfl ?_
  refine Go_iconst (pc := 1) (v := 0) C dX7_rooms_1 ci_0 ?_
  refine Go_bipush (pc := 2) (v := 7) C dX7_rooms_2 cb_7 ?_
  obtain ⟨r1, hr1, hf⟩ := bnd hf
  refine Go_callV1 (pc := 4) (ws1 := (w7 K a s0)) C 0 (0 :: 1 :: 2 :: 3 :: 4 :: 5 :: 6 :: 7 :: 8 :: 9 :: 10 :: 11 :: 12 :: 13 :: []) (kX7_wallsAhead l K (pk a (0 :: 1 :: 2 :: 3 :: 4 :: 5 :: 6 :: 7 :: 8 :: 9 :: 10 :: 11 :: 12 :: 13 :: [])) s0 (0 : Int32) (7 : Int32) r1 hr1) ycX7_wallsAhead mw_804 (Nat.le_of_ble_eq_true rfl) rfl rfl rfl rfl (Nat.le_of_ble_eq_true rfl) ⟨Nat.zero_le _, Nat.zero_le _⟩ dX7_rooms_4 (ll_149 _ _ _) rfl rfl (Wr_same (ll_149 _ _ _)) ?_
  refine Go_iconst (pc := 7) (v := 1) C dX7_rooms_7 ci_1 ?_
  refine Go_iadd (pc := 8) C dX7_rooms_8 ?_
  refine Go_aload_n (pc := 9) C dX7_rooms_9 rfl ?_
  refine Go_bipush (pc := 10) (v := 10) C dX7_rooms_10 cb_10 ?_
  refine Go_bipush (pc := 12) (v := 11) C dX7_rooms_12 cb_11 ?_
  obtain ⟨r2, hr2, hf⟩ := bnd hf
  refine Go_callV1 (pc := 14) (ws1 := (w7 K a s0)) C 0 (0 :: 1 :: 2 :: 3 :: 4 :: 5 :: 6 :: 7 :: 8 :: 9 :: 10 :: 11 :: 12 :: 13 :: []) (kX7_wallsAhead l K (pk a (0 :: 1 :: 2 :: 3 :: 4 :: 5 :: 6 :: 7 :: 8 :: 9 :: 10 :: 11 :: 12 :: 13 :: [])) s0 (10 : Int32) (11 : Int32) r2 hr2) ycX7_wallsAhead mw_804 (Nat.le_of_ble_eq_true rfl) rfl rfl rfl rfl (Nat.le_of_ble_eq_true rfl) ⟨Nat.zero_le _, Nat.zero_le _⟩ dX7_rooms_14 (ll_149 _ _ _) rfl rfl (Wr_same (ll_149 _ _ _)) ?_
  refine Go_iconst (pc := 17) (v := 1) C dX7_rooms_17 ci_1 ?_
  refine Go_iadd (pc := 18) C dX7_rooms_18 ?_
  refine Go_imul (pc := 19) C dX7_rooms_19 ?_
  obtain rfl := Option.some.inj hf
  exact Go_iret C hr rfl dX7_rooms_20
def fX7_heldRooms_L25 (r1 : S7) (q2 : Int32 × Int32) (q4 : Int32 × Int32) : Option ((Int32 × Int32) ⊕ (Int32 × Int32)) := (if q2.2 ≤ q4.2 then some (.inr (q4.1, q4.2)) else (if q4.1 = 0 then Option.bind (some (q4.2 + (1 : Int32))) (fun v5 => some (.inl ((0 : Int32), v5))) else Option.bind (fX7_stands r1 q4.2) (fun r6 => (if r6 = 0 then Option.bind (some (q4.2 + (1 : Int32))) (fun v7 => some (.inl ((1 : Int32), v7))) else (if 0 ≤ q4.2 ∧ q4.2.toNatClampNeg < 13 then Option.bind (fX7_roomOf r1 (r1.2.2.2.1 q4.2.toNatClampNeg)) (fun r8 => (if 0 ≤ q2.2 ∧ q2.2.toNatClampNeg < 13 then Option.bind (fX7_roomOf r1 (r1.2.2.2.1 q2.2.toNatClampNeg)) (fun r9 => (if r8 = r9 then Option.bind (some (q4.2 + (1 : Int32))) (fun v10 => some (.inl ((0 : Int32), v10))) else Option.bind (some (q4.2 + (1 : Int32))) (fun v11 => some (.inl ((1 : Int32), v11))))) else none)) else none)))))
def fX7_heldRooms_L8 (r1 : S7) (q2 : Int32 × Int32) : Option ((Int32 × Int32) ⊕ (Int32 × Int32)) := (if r1.2.2.1 ≤ q2.2 then some (.inr (q2.1, q2.2)) else Option.bind (fX7_stands r1 q2.2) (fun r3 => Option.bind (loopF (fX7_heldRooms_L25 r1 q2) 5000 (r3, (0 : Int32))) (fun z12 => (if z12.1 = 0 then Option.bind (some (q2.1 + (0 : Int32))) (fun v13 => Option.bind (some (q2.2 + (1 : Int32))) (fun v14 => some (.inl (v13, v14)))) else Option.bind (some (q2.1 + (1 : Int32))) (fun v15 => Option.bind (some (q2.2 + (1 : Int32))) (fun v16 => some (.inl (v15, v16))))))))
def fX7_heldRooms (s0 : S7) : Option (Int32 × S7) := Option.bind (fX7_setRooms s0) (fun r1 => Option.bind (loopF (fX7_heldRooms_L8 r1) 5000 ((0 : Int32), (0 : Int32))) (fun z17 => some (z17.1, r1)))
theorem ycX7_heldRooms : CalV yX7_heldRooms cX7_heldRooms 5 ((some .int)) 0 := ⟨mw_850, mw_69, mw_849, mw_39, ⟨by decide, by decide, by decide +kernel⟩, by decide⟩
set_option maxHeartbeats 4000000 in
set_option maxRecDepth 100000 in
theorem kX7_heldRooms (l : Launch) (K : KK) (a : Nat → Nat) (s0 : S7) (res : Int32 × S7) (hf : fX7_heldRooms s0 = some res) : Ct l K yX7_heldRooms cX7_heldRooms 5 ((some .int)) 2 [.ref (a 0)] (w7 K a s0) (some (.int res.1)) (w7 K a res.2) := by
  refine Ct_of2 (by decide) rfl (Nat.le_of_ble_eq_true rfl) ?_
  intro p e σ m args below meth c C hr
  unfold fX7_heldRooms at hf
  refine Go_aload_n (pc := 0) C dX7_heldRooms_0 rfl ?_
  obtain ⟨r1, hr1, hf⟩ := bnd hf
  refine Go_callV0 (pc := 1) (ws1 := (w7 K a r1)) C 0 (0 :: 1 :: 2 :: 3 :: 4 :: 5 :: 6 :: 7 :: 8 :: 9 :: 10 :: 11 :: 12 :: 13 :: []) (kX7_setRooms l K (pk a (0 :: 1 :: 2 :: 3 :: 4 :: 5 :: 6 :: 7 :: 8 :: 9 :: 10 :: 11 :: 12 :: 13 :: [])) s0 r1 hr1) ycX7_setRooms mw_800 (Nat.le_of_ble_eq_true rfl) rfl rfl rfl rfl (Nat.le_of_ble_eq_true rfl) ⟨Nat.zero_le _, Nat.zero_le _⟩ dX7_heldRooms_1 (ll_149 _ _ _) rfl rfl (ll_150 _ _ _ _) ?_
  refine Go_iconst (pc := 4) (v := 0) C dX7_heldRooms_4 ci_0 ?_
  refine Go_istore_n (pc := 5) C dX7_heldRooms_5 (by decide) ?_
  refine Go_iconst (pc := 6) (v := 0) C dX7_heldRooms_6 ci_0 ?_
  refine Go_istore_n (pc := 7) C dX7_heldRooms_7 (by decide) ?_
  obtain ⟨z17, hz17, hf⟩ := bnd hf
  refine Go_mask [true, true, true, false, false] ?_
  refine loopF_go (step := (fX7_heldRooms_L8 r1)) (fun q2 => Go p l e (rmc 2 0 0) σ m args below meth c K (inW (w7 K a s0)) σ.heap 5 0 0 (MQ below (CtQ K (w7 K a s0) (some (.int res.1)) (w7 K a res.2)) args σ 0 0 (inW (w7 K a s0))) (w7 K a r1) 8 [some (.ref (a 0)), some (.int q2.1), some (.int q2.2), none, none] []) (fun z17 => Go p l e (rmc 2 0 0) σ m args below meth c K (inW (w7 K a s0)) σ.heap 5 0 0 (MQ below (CtQ K (w7 K a s0) (some (.int res.1)) (w7 K a res.2)) args σ 0 0 (inW (w7 K a s0))) (w7 K a r1) 98 [some (.ref (a 0)), some (.int z17.1), some (.int z17.2), none, none] []) ?_ _ _ _ hz17 ?_
  · intro q2 x hf hk
    unfold fX7_heldRooms_L8 at hf
    refine Go_iload_n (pc := 8) C dX7_heldRooms_8 rfl ?_
    refine Go_aload_n (pc := 9) C dX7_heldRooms_9 rfl ?_
    refine Go_get (pc := 10) C 0 2 rfl rfl inX7 (by decide) mw_631 rfl dX7_heldRooms_10 ?_
    refine Go_icmp_ge (pc := 13) (tgt := 98) C dX7_heldRooms_13 (by decide) (fun hc => ?_) (fun hc => ?_)
    · replace hf := ift hc hf
      obtain rfl := Option.some.inj hf
      exact Go_mask [true, true, true, false, false] hk
    · replace hf := iff' hc hf
      refine Go_aload_n (pc := 16) C dX7_heldRooms_16 rfl ?_
      refine Go_iload_n (pc := 17) C dX7_heldRooms_17 rfl ?_
      obtain ⟨r3, hr3, hf⟩ := bnd hf
      refine Go_callV1 (pc := 18) (ws1 := (w7 K a r1)) C 0 (0 :: 1 :: 2 :: 3 :: 4 :: 5 :: 6 :: 7 :: 8 :: 9 :: 10 :: 11 :: 12 :: 13 :: []) (kX7_stands l K (pk a (0 :: 1 :: 2 :: 3 :: 4 :: 5 :: 6 :: 7 :: 8 :: 9 :: 10 :: 11 :: 12 :: 13 :: [])) r1 q2.2 r3 hr3) ycX7_stands mw_819 (Nat.le_of_ble_eq_true rfl) rfl rfl rfl rfl (Nat.le_of_ble_eq_true rfl) ⟨Nat.zero_le _, Nat.zero_le _⟩ dX7_heldRooms_18 (ll_149 _ _ _) rfl rfl (Wr_same (ll_149 _ _ _)) ?_
      refine Go_istore_n (pc := 21) C dX7_heldRooms_21 (by decide) ?_
      refine Go_iconst (pc := 22) (v := 0) C dX7_heldRooms_22 ci_0 ?_
      refine Go_istore (pc := 23) C dX7_heldRooms_23 (by decide) ?_
      obtain ⟨z12, hz12, hf⟩ := bnd hf
      refine Go_mask [true, true, true, true, true] ?_
      refine loopF_go (step := (fX7_heldRooms_L25 r1 q2)) (fun q4 => Go p l e (rmc 2 0 0) σ m args below meth c K (inW (w7 K a s0)) σ.heap 5 0 0 (MQ below (CtQ K (w7 K a s0) (some (.int res.1)) (w7 K a res.2)) args σ 0 0 (inW (w7 K a s0))) (w7 K a r1) 25 [some (.ref (a 0)), some (.int q2.1), some (.int q2.2), some (.int q4.1), some (.int q4.2)] []) (fun z12 => Go p l e (rmc 2 0 0) σ m args below meth c K (inW (w7 K a s0)) σ.heap 5 0 0 (MQ below (CtQ K (w7 K a s0) (some (.int res.1)) (w7 K a res.2)) args σ 0 0 (inW (w7 K a s0))) (w7 K a r1) 80 [some (.ref (a 0)), some (.int q2.1), some (.int q2.2), some (.int z12.1), some (.int z12.2)] []) ?_ _ _ _ hz12 ?_
      · intro q4 x hf hk
        unfold fX7_heldRooms_L25 at hf
        refine Go_iload (pc := 25) C dX7_heldRooms_25 rfl ?_
        refine Go_iload_n (pc := 27) C dX7_heldRooms_27 rfl ?_
        refine Go_icmp_ge (pc := 28) (tgt := 80) C dX7_heldRooms_28 (by decide) (fun hc => ?_) (fun hc => ?_)
        · replace hf := ift hc hf
          obtain rfl := Option.some.inj hf
          exact Go_mask [true, true, true, true, true] hk
        · replace hf := iff' hc hf
          refine Go_iload_n (pc := 31) C dX7_heldRooms_31 rfl ?_
          refine Go_if_eq (pc := 32) (tgt := 72) C dX7_heldRooms_32 (by decide) (fun hc => ?_) (fun hc => ?_)
          · replace hf := ift hc hf
            refine Go_iconst (pc := 72) (v := 0) C dX7_heldRooms_72 ci_0 ?_
            refine Go_istore_n (pc := 73) C dX7_heldRooms_73 (by decide) ?_
            obtain ⟨v5, hv5, hf⟩ := bnd hf
            refine Go_iinc (pc := 74) (v := v5) C dX7_heldRooms_74 rfl (by rw [ci_1]; exact Option.some.inj hv5) ?_
            refine Go_goto (pc := 77) (tgt := 25) C dX7_heldRooms_77 (by decide) ?_
            obtain rfl := Option.some.inj hf
            exact Go_mask [true, true, true, true, true] hk
          · replace hf := iff' hc hf
            refine Go_aload_n (pc := 35) C dX7_heldRooms_35 rfl ?_
            refine Go_iload (pc := 36) C dX7_heldRooms_36 rfl ?_
            obtain ⟨r6, hr6, hf⟩ := bnd hf
            refine Go_callV1 (pc := 38) (ws1 := (w7 K a r1)) C 0 (0 :: 1 :: 2 :: 3 :: 4 :: 5 :: 6 :: 7 :: 8 :: 9 :: 10 :: 11 :: 12 :: 13 :: []) (kX7_stands l K (pk a (0 :: 1 :: 2 :: 3 :: 4 :: 5 :: 6 :: 7 :: 8 :: 9 :: 10 :: 11 :: 12 :: 13 :: [])) r1 q4.2 r6 hr6) ycX7_stands mw_819 (Nat.le_of_ble_eq_true rfl) rfl rfl rfl rfl (Nat.le_of_ble_eq_true rfl) ⟨Nat.zero_le _, Nat.zero_le _⟩ dX7_heldRooms_38 (ll_149 _ _ _) rfl rfl (Wr_same (ll_149 _ _ _)) ?_
            refine Go_if_eq (pc := 41) (tgt := 68) C dX7_heldRooms_41 (by decide) (fun hc => ?_) (fun hc => ?_)
            · replace hf := ift hc hf
              refine Go_iconst (pc := 68) (v := 1) C dX7_heldRooms_68 ci_1 ?_
              refine Go_goto (pc := 69) (tgt := 73) C dX7_heldRooms_69 (by decide) ?_
              refine Go_istore_n (pc := 73) C dX7_heldRooms_73 (by decide) ?_
              obtain ⟨v7, hv7, hf⟩ := bnd hf
              refine Go_iinc (pc := 74) (v := v7) C dX7_heldRooms_74 rfl (by rw [ci_1]; exact Option.some.inj hv7) ?_
              refine Go_goto (pc := 77) (tgt := 25) C dX7_heldRooms_77 (by decide) ?_
              obtain rfl := Option.some.inj hf
              exact Go_mask [true, true, true, true, true] hk
            · replace hf := iff' hc hf
              refine Go_aload_n (pc := 44) C dX7_heldRooms_44 rfl ?_
              refine Go_aload_n (pc := 45) C dX7_heldRooms_45 rfl ?_
              refine Go_get (pc := 46) C 0 3 rfl rfl inX7 (by decide) mw_632 rfl dX7_heldRooms_46 ?_
              refine Go_iload (pc := 49) C dX7_heldRooms_49 rfl ?_
              obtain ⟨hb, hf⟩ := ifs hf
              refine Go_iald (pc := 51) C 3 rfl (inb_in hb) dX7_heldRooms_51 ?_
              obtain ⟨r8, hr8, hf⟩ := bnd hf
              refine Go_callV1 (pc := 52) (ws1 := (w7 K a r1)) C 0 (0 :: 1 :: 2 :: 3 :: 4 :: 5 :: 6 :: 7 :: 8 :: 9 :: 10 :: 11 :: 12 :: 13 :: []) (kX7_roomOf l K (pk a (0 :: 1 :: 2 :: 3 :: 4 :: 5 :: 6 :: 7 :: 8 :: 9 :: 10 :: 11 :: 12 :: 13 :: [])) r1 (r1.2.2.2.1 q4.2.toNatClampNeg) r8 hr8) ycX7_roomOf mw_812 (Nat.le_of_ble_eq_true rfl) rfl rfl rfl rfl (Nat.le_of_ble_eq_true rfl) ⟨Nat.zero_le _, Nat.zero_le _⟩ dX7_heldRooms_52 (ll_149 _ _ _) rfl rfl (Wr_same (ll_149 _ _ _)) ?_
              refine Go_aload_n (pc := 55) C dX7_heldRooms_55 rfl ?_
              refine Go_aload_n (pc := 56) C dX7_heldRooms_56 rfl ?_
              refine Go_get (pc := 57) C 0 3 rfl rfl inX7 (by decide) mw_632 rfl dX7_heldRooms_57 ?_
              refine Go_iload_n (pc := 60) C dX7_heldRooms_60 rfl ?_
              obtain ⟨hb, hf⟩ := ifs hf
              refine Go_iald (pc := 61) C 3 rfl (inb_in hb) dX7_heldRooms_61 ?_
              obtain ⟨r9, hr9, hf⟩ := bnd hf
              refine Go_callV1 (pc := 62) (ws1 := (w7 K a r1)) C 0 (0 :: 1 :: 2 :: 3 :: 4 :: 5 :: 6 :: 7 :: 8 :: 9 :: 10 :: 11 :: 12 :: 13 :: []) (kX7_roomOf l K (pk a (0 :: 1 :: 2 :: 3 :: 4 :: 5 :: 6 :: 7 :: 8 :: 9 :: 10 :: 11 :: 12 :: 13 :: [])) r1 (r1.2.2.2.1 q2.2.toNatClampNeg) r9 hr9) ycX7_roomOf mw_812 (Nat.le_of_ble_eq_true rfl) rfl rfl rfl rfl (Nat.le_of_ble_eq_true rfl) ⟨Nat.zero_le _, Nat.zero_le _⟩ dX7_heldRooms_62 (ll_149 _ _ _) rfl rfl (Wr_same (ll_149 _ _ _)) ?_
              refine Go_icmp_eq (pc := 65) (tgt := 72) C dX7_heldRooms_65 (by decide) (fun hc => ?_) (fun hc => ?_)
              · replace hf := ift hc hf
                refine Go_iconst (pc := 72) (v := 0) C dX7_heldRooms_72 ci_0 ?_
                refine Go_istore_n (pc := 73) C dX7_heldRooms_73 (by decide) ?_
                obtain ⟨v10, hv10, hf⟩ := bnd hf
                refine Go_iinc (pc := 74) (v := v10) C dX7_heldRooms_74 rfl (by rw [ci_1]; exact Option.some.inj hv10) ?_
                refine Go_goto (pc := 77) (tgt := 25) C dX7_heldRooms_77 (by decide) ?_
                obtain rfl := Option.some.inj hf
                exact Go_mask [true, true, true, true, true] hk
              · replace hf := iff' hc hf
                refine Go_iconst (pc := 68) (v := 1) C dX7_heldRooms_68 ci_1 ?_
                refine Go_goto (pc := 69) (tgt := 73) C dX7_heldRooms_69 (by decide) ?_
                refine Go_istore_n (pc := 73) C dX7_heldRooms_73 (by decide) ?_
                obtain ⟨v11, hv11, hf⟩ := bnd hf
                refine Go_iinc (pc := 74) (v := v11) C dX7_heldRooms_74 rfl (by rw [ci_1]; exact Option.some.inj hv11) ?_
                refine Go_goto (pc := 77) (tgt := 25) C dX7_heldRooms_77 (by decide) ?_
                obtain rfl := Option.some.inj hf
                exact Go_mask [true, true, true, true, true] hk
      · show Go _ _ _ _ _ _ _ _ _ _ _ _ _ _ _ _ _ _ _ _ _
        refine Go_iload_n (pc := 80) C dX7_heldRooms_80 rfl ?_
        refine Go_iload_n (pc := 81) C dX7_heldRooms_81 rfl ?_
        refine Go_if_eq (pc := 82) (tgt := 89) C dX7_heldRooms_82 (by decide) (fun hc => ?_) (fun hc => ?_)
        · replace hf := ift hc hf
          refine Go_iconst (pc := 89) (v := 0) C dX7_heldRooms_89 ci_0 ?_
          refine Go_iadd (pc := 90) C dX7_heldRooms_90 ?_
          obtain ⟨v13, hv13, hf⟩ := bnd hf
          refine Go_topi (Option.some.inj hv13) ?_
          refine Go_istore_n (pc := 91) C dX7_heldRooms_91 (by decide) ?_
          obtain ⟨v14, hv14, hf⟩ := bnd hf
          refine Go_iinc (pc := 92) (v := v14) C dX7_heldRooms_92 rfl (by rw [ci_1]; exact Option.some.inj hv14) ?_
          refine Go_goto (pc := 95) (tgt := 8) C dX7_heldRooms_95 (by decide) ?_
          obtain rfl := Option.some.inj hf
          exact Go_mask [true, true, true, false, false] hk
        · replace hf := iff' hc hf
          refine Go_iconst (pc := 85) (v := 1) C dX7_heldRooms_85 ci_1 ?_
          refine Go_goto (pc := 86) (tgt := 90) C dX7_heldRooms_86 (by decide) ?_
          refine Go_iadd (pc := 90) C dX7_heldRooms_90 ?_
          obtain ⟨v15, hv15, hf⟩ := bnd hf
          refine Go_topi (Option.some.inj hv15) ?_
          refine Go_istore_n (pc := 91) C dX7_heldRooms_91 (by decide) ?_
          obtain ⟨v16, hv16, hf⟩ := bnd hf
          refine Go_iinc (pc := 92) (v := v16) C dX7_heldRooms_92 rfl (by rw [ci_1]; exact Option.some.inj hv16) ?_
          refine Go_goto (pc := 95) (tgt := 8) C dX7_heldRooms_95 (by decide) ?_
          obtain rfl := Option.some.inj hf
          exact Go_mask [true, true, true, false, false] hk
  · show Go _ _ _ _ _ _ _ _ _ _ _ _ _ _ _ _ _ _ _ _ _
    refine Go_iload_n (pc := 98) C dX7_heldRooms_98 rfl ?_
    obtain rfl := Option.some.inj hf
    exact Go_iret C hr rfl dX7_heldRooms_99
def fX7_allBy (s0 : S7) (p1 : Int32) : Option (Int32 × S7) := (if p1 = (0 : Int32) then some (s0.2.2.1, s0) else (if p1 = (1 : Int32) then Option.bind (fX7_ones s0.2.2.2.2.2.1) (fun r1 => some (r1, s0)) else (if p1 = (2 : Int32) then Option.bind (fX7_tooMuch s0 s0.2.2.2.2.2.1) (fun r2 => Option.bind (fX7_ones r2.1) (fun r3 => some (r3, r2.2))) else (if p1 = (3 : Int32) then Option.bind (fX7_bears s0 s0.2.2.2.2.2.1) (fun r4 => (if 0 ≤ (13 : Int32) ∧ (13 : Int32).toNatClampNeg < 14 then some (r4.2.2.2.2.2.2.2.2.2.2.2.2.1 (13 : Int32).toNatClampNeg, r4) else none)) else (if p1 = (4 : Int32) then Option.bind (fX7_bears s0 s0.2.2.2.2.2.1) (fun r5 => (if 0 ≤ (13 : Int32) ∧ (13 : Int32).toNatClampNeg < 14 then some (r5.2.2.2.2.2.2.2.2.2.2.2.1 (13 : Int32).toNatClampNeg, r5) else none)) else (if p1 = (5 : Int32) then Option.bind (fX7_allWeight s0) (fun r6 => some (r6, s0)) else (if p1 = (6 : Int32) then Option.bind (fX7_rooms s0) (fun r7 => some (r7, s0)) else Option.bind (fX7_heldRooms s0) (fun r8 => some (r8.1, r8.2)))))))))
theorem ycX7_allBy : CalV yX7_allBy cX7_allBy 2 ((some .int)) 1 := ⟨mw_834, mw_69, mw_833, mw_35, ⟨by decide, by decide, by decide +kernel⟩, by decide⟩
set_option maxHeartbeats 4000000 in
set_option maxRecDepth 100000 in
theorem kX7_allBy (l : Launch) (K : KK) (a : Nat → Nat) (s0 : S7) (p1 : Int32) (res : Int32 × S7) (hf : fX7_allBy s0 p1 = some res) : Ct l K yX7_allBy cX7_allBy 2 ((some .int)) 4 [.ref (a 0), .int p1] (w7 K a s0) (some (.int res.1)) (w7 K a res.2) := by
  refine Ct_of2 (by decide) rfl (Nat.le_of_ble_eq_true rfl) ?_
  intro p e σ m args below meth c C hr
  unfold fX7_allBy at hf
  refine Go_iload_n (pc := 0) C dX7_allBy_0 rfl ?_
  by_cases hx0 : p1 = (0 : Int32)
  · replace hf := ift hx0 hf
    refine Go_tabIn (pc := 1) (tgt := 44) C dX7_allBy_1 hx0 (by decide) (by decide) rfl (by decide) ?_
    refine Go_aload_n (pc := 44) C dX7_allBy_44 rfl ?_
    refine Go_get (pc := 45) C 0 2 rfl rfl inX7 (by decide) mw_631 rfl dX7_allBy_45 ?_
    obtain rfl := Option.some.inj hf
    exact Go_iret C hr rfl dX7_allBy_48
  replace hf := iff' hx0 hf
  by_cases hx1 : p1 = (1 : Int32)
  · replace hf := ift hx1 hf
    refine Go_tabIn (pc := 1) (tgt := 49) C dX7_allBy_1 hx1 (by decide) (by decide) rfl (by decide) ?_
    refine Go_aload_n (pc := 49) C dX7_allBy_49 rfl ?_
    refine Go_get (pc := 50) C 0 5 rfl rfl inX7 (by decide) mw_634 rfl dX7_allBy_50 ?_
    obtain ⟨r1, hr1, hf⟩ := bnd hf
    refine Go_callS1 (pc := 53) (ws1 := (w7 K a s0)) C [] (kX7_ones l K s0.2.2.2.2.2.1 r1 hr1) ycX7_ones mw_781 (Nat.le_of_ble_eq_true rfl) rfl rfl (Nat.le_of_ble_eq_true rfl) ⟨Nat.zero_le _, Nat.zero_le _⟩ dX7_allBy_53 rfl rfl rfl (Wr_same rfl) ?_
    obtain rfl := Option.some.inj hf
    exact Go_iret C hr rfl dX7_allBy_56
  replace hf := iff' hx1 hf
  by_cases hx2 : p1 = (2 : Int32)
  · replace hf := ift hx2 hf
    refine Go_tabIn (pc := 1) (tgt := 57) C dX7_allBy_1 hx2 (by decide) (by decide) rfl (by decide) ?_
    refine Go_aload_n (pc := 57) C dX7_allBy_57 rfl ?_
    refine Go_aload_n (pc := 58) C dX7_allBy_58 rfl ?_
    refine Go_get (pc := 59) C 0 5 rfl rfl inX7 (by decide) mw_634 rfl dX7_allBy_59 ?_
    obtain ⟨r2, hr2, hf⟩ := bnd hf
    refine Go_callV1 (pc := 62) (ws1 := (w7 K a r2.2)) C 0 (0 :: 1 :: 2 :: 3 :: 4 :: 5 :: 6 :: 7 :: 8 :: 9 :: 10 :: 11 :: 12 :: 13 :: []) (kX7_tooMuch l K (pk a (0 :: 1 :: 2 :: 3 :: 4 :: 5 :: 6 :: 7 :: 8 :: 9 :: 10 :: 11 :: 12 :: 13 :: [])) s0 s0.2.2.2.2.2.1 r2 hr2) ycX7_tooMuch mw_835 (Nat.le_of_ble_eq_true rfl) rfl rfl rfl rfl (Nat.le_of_ble_eq_true rfl) ⟨Nat.zero_le _, Nat.zero_le _⟩ dX7_allBy_62 (ll_149 _ _ _) rfl rfl (ll_150 _ _ _ _) ?_
    obtain ⟨r3, hr3, hf⟩ := bnd hf
    refine Go_callS1 (pc := 65) (ws1 := (w7 K a r2.2)) C [] (kX7_ones l K r2.1 r3 hr3) ycX7_ones mw_781 (Nat.le_of_ble_eq_true rfl) rfl rfl (Nat.le_of_ble_eq_true rfl) ⟨Nat.zero_le _, Nat.zero_le _⟩ dX7_allBy_65 rfl rfl rfl (Wr_same rfl) ?_
    obtain rfl := Option.some.inj hf
    exact Go_iret C hr rfl dX7_allBy_68
  replace hf := iff' hx2 hf
  by_cases hx3 : p1 = (3 : Int32)
  · replace hf := ift hx3 hf
    refine Go_tabIn (pc := 1) (tgt := 69) C dX7_allBy_1 hx3 (by decide) (by decide) rfl (by decide) ?_
    refine Go_aload_n (pc := 69) C dX7_allBy_69 rfl ?_
    refine Go_aload_n (pc := 70) C dX7_allBy_70 rfl ?_
    refine Go_get (pc := 71) C 0 5 rfl rfl inX7 (by decide) mw_634 rfl dX7_allBy_71 ?_
    obtain ⟨r4, hr4, hf⟩ := bnd hf
    refine Go_callV0 (pc := 74) (ws1 := (w7 K a r4)) C 0 (0 :: 1 :: 2 :: 3 :: 4 :: 5 :: 6 :: 7 :: 8 :: 9 :: 10 :: 11 :: 12 :: 13 :: []) (kX7_bears l K (pk a (0 :: 1 :: 2 :: 3 :: 4 :: 5 :: 6 :: 7 :: 8 :: 9 :: 10 :: 11 :: 12 :: 13 :: [])) s0 s0.2.2.2.2.2.1 r4 hr4) ycX7_bears mw_796 (Nat.le_of_ble_eq_true rfl) rfl rfl rfl rfl (Nat.le_of_ble_eq_true rfl) ⟨Nat.zero_le _, Nat.zero_le _⟩ dX7_allBy_74 (ll_149 _ _ _) rfl rfl (ll_150 _ _ _ _) ?_
    refine Go_aload_n (pc := 77) C dX7_allBy_77 rfl ?_
    refine Go_get (pc := 78) C 0 12 rfl rfl inX7 (by decide) mw_641 rfl dX7_allBy_78 ?_
    refine Go_bipush (pc := 81) (v := 13) C dX7_allBy_81 cb_13 ?_
    obtain ⟨hb, hf⟩ := ifs hf
    refine Go_iald (pc := 83) C 9 rfl (inb_in hb) dX7_allBy_83 ?_
    obtain rfl := Option.some.inj hf
    exact Go_iret C hr rfl dX7_allBy_84
  replace hf := iff' hx3 hf
  by_cases hx4 : p1 = (4 : Int32)
  · replace hf := ift hx4 hf
    refine Go_tabIn (pc := 1) (tgt := 85) C dX7_allBy_1 hx4 (by decide) (by decide) rfl (by decide) ?_
    refine Go_aload_n (pc := 85) C dX7_allBy_85 rfl ?_
    refine Go_aload_n (pc := 86) C dX7_allBy_86 rfl ?_
    refine Go_get (pc := 87) C 0 5 rfl rfl inX7 (by decide) mw_634 rfl dX7_allBy_87 ?_
    obtain ⟨r5, hr5, hf⟩ := bnd hf
    refine Go_callV0 (pc := 90) (ws1 := (w7 K a r5)) C 0 (0 :: 1 :: 2 :: 3 :: 4 :: 5 :: 6 :: 7 :: 8 :: 9 :: 10 :: 11 :: 12 :: 13 :: []) (kX7_bears l K (pk a (0 :: 1 :: 2 :: 3 :: 4 :: 5 :: 6 :: 7 :: 8 :: 9 :: 10 :: 11 :: 12 :: 13 :: [])) s0 s0.2.2.2.2.2.1 r5 hr5) ycX7_bears mw_796 (Nat.le_of_ble_eq_true rfl) rfl rfl rfl rfl (Nat.le_of_ble_eq_true rfl) ⟨Nat.zero_le _, Nat.zero_le _⟩ dX7_allBy_90 (ll_149 _ _ _) rfl rfl (ll_150 _ _ _ _) ?_
    refine Go_aload_n (pc := 93) C dX7_allBy_93 rfl ?_
    refine Go_get (pc := 94) C 0 11 rfl rfl inX7 (by decide) mw_640 rfl dX7_allBy_94 ?_
    refine Go_bipush (pc := 97) (v := 13) C dX7_allBy_97 cb_13 ?_
    obtain ⟨hb, hf⟩ := ifs hf
    refine Go_iald (pc := 99) C 8 rfl (inb_in hb) dX7_allBy_99 ?_
    obtain rfl := Option.some.inj hf
    exact Go_iret C hr rfl dX7_allBy_100
  replace hf := iff' hx4 hf
  by_cases hx5 : p1 = (5 : Int32)
  · replace hf := ift hx5 hf
    refine Go_tabIn (pc := 1) (tgt := 101) C dX7_allBy_1 hx5 (by decide) (by decide) rfl (by decide) ?_
    refine Go_aload_n (pc := 101) C dX7_allBy_101 rfl ?_
    obtain ⟨r6, hr6, hf⟩ := bnd hf
    refine Go_callV1 (pc := 102) (ws1 := (w7 K a s0)) C 0 (0 :: 1 :: 2 :: 3 :: 4 :: 5 :: 6 :: 7 :: 8 :: 9 :: 10 :: 11 :: 12 :: 13 :: []) (kX7_allWeight l K (pk a (0 :: 1 :: 2 :: 3 :: 4 :: 5 :: 6 :: 7 :: 8 :: 9 :: 10 :: 11 :: 12 :: 13 :: [])) s0 r6 hr6) ycX7_allWeight mw_839 (Nat.le_of_ble_eq_true rfl) rfl rfl rfl rfl (Nat.le_of_ble_eq_true rfl) ⟨Nat.zero_le _, Nat.zero_le _⟩ dX7_allBy_102 (ll_149 _ _ _) rfl rfl (Wr_same (ll_149 _ _ _)) ?_
    obtain rfl := Option.some.inj hf
    exact Go_iret C hr rfl dX7_allBy_105
  replace hf := iff' hx5 hf
  by_cases hx6 : p1 = (6 : Int32)
  · replace hf := ift hx6 hf
    refine Go_tabIn (pc := 1) (tgt := 106) C dX7_allBy_1 hx6 (by decide) (by decide) rfl (by decide) ?_
    refine Go_aload_n (pc := 106) C dX7_allBy_106 rfl ?_
    obtain ⟨r7, hr7, hf⟩ := bnd hf
    refine Go_callV1 (pc := 107) (ws1 := (w7 K a s0)) C 0 (0 :: 1 :: 2 :: 3 :: 4 :: 5 :: 6 :: 7 :: 8 :: 9 :: 10 :: 11 :: 12 :: 13 :: []) (kX7_rooms l K (pk a (0 :: 1 :: 2 :: 3 :: 4 :: 5 :: 6 :: 7 :: 8 :: 9 :: 10 :: 11 :: 12 :: 13 :: [])) s0 r7 hr7) ycX7_rooms mw_843 (Nat.le_of_ble_eq_true rfl) rfl rfl rfl rfl (Nat.le_of_ble_eq_true rfl) ⟨Nat.zero_le _, Nat.zero_le _⟩ dX7_allBy_107 (ll_149 _ _ _) rfl rfl (Wr_same (ll_149 _ _ _)) ?_
    obtain rfl := Option.some.inj hf
    exact Go_iret C hr rfl dX7_allBy_110
  replace hf := iff' hx6 hf
  refine Go_tabOut (pc := 1) (tgt := 111) C dX7_allBy_1 (by have g0 := lv_neT hx0 (show ((0 : Int32)).toInt = 0 by decide); have g1 := lv_neT hx1 (show ((1 : Int32)).toInt = 1 by decide); have g2 := lv_neT hx2 (show ((2 : Int32)).toInt = 2 by decide); have g3 := lv_neT hx3 (show ((3 : Int32)).toInt = 3 by decide); have g4 := lv_neT hx4 (show ((4 : Int32)).toInt = 4 by decide); have g5 := lv_neT hx5 (show ((5 : Int32)).toInt = 5 by decide); have g6 := lv_neT hx6 (show ((6 : Int32)).toInt = 6 by decide); omega) (by decide) ?_
  refine Go_aload_n (pc := 111) C dX7_allBy_111 rfl ?_
  obtain ⟨r8, hr8, hf⟩ := bnd hf
  refine Go_callV1 (pc := 112) (ws1 := (w7 K a r8.2)) C 0 (0 :: 1 :: 2 :: 3 :: 4 :: 5 :: 6 :: 7 :: 8 :: 9 :: 10 :: 11 :: 12 :: 13 :: []) (kX7_heldRooms l K (pk a (0 :: 1 :: 2 :: 3 :: 4 :: 5 :: 6 :: 7 :: 8 :: 9 :: 10 :: 11 :: 12 :: 13 :: [])) s0 r8 hr8) ycX7_heldRooms mw_847 (Nat.le_of_ble_eq_true rfl) rfl rfl rfl rfl (Nat.le_of_ble_eq_true rfl) ⟨Nat.zero_le _, Nat.zero_le _⟩ dX7_allBy_112 (ll_149 _ _ _) rfl rfl (ll_150 _ _ _ _) ?_
  obtain rfl := Option.some.inj hf
  exact Go_iret C hr rfl dX7_allBy_115
def fX7_all (s0 : S7) (p1 : Int32) : Option (Int32 × S7) := Option.bind (fX7_in p1 (0 : Int32) (7 : Int32)) (fun r1 => (if r1 = 0 then Option.bind (fX7_bad s0) (fun r2 => some (r2.1, r2.2)) else Option.bind (fX7_allBy s0 p1) (fun r3 => some (r3.1, r3.2))))
theorem ycX7_all : CalV yX7_all cX7_all 2 ((some .int)) 1 := ⟨mw_830, mw_69, mw_828, mw_829, ⟨by decide, by decide, by decide +kernel⟩, by decide⟩
set_option maxHeartbeats 4000000 in
set_option maxRecDepth 100000 in
theorem kX7_all (l : Launch) (K : KK) (a : Nat → Nat) (s0 : S7) (p1 : Int32) (res : Int32 × S7) (hf : fX7_all s0 p1 = some res) : Ct l K yX7_all cX7_all 2 ((some .int)) 5 [.ref (a 0), .int p1] (w7 K a s0) (some (.int res.1)) (w7 K a res.2) := by
  refine Ct_of2 (by decide) rfl (Nat.le_of_ble_eq_true rfl) ?_
  intro p e σ m args below meth c C hr
  unfold fX7_all at hf
  refine Go_iload_n (pc := 0) C dX7_all_0 rfl ?_
  refine Go_iconst (pc := 1) (v := 0) C dX7_all_1 ci_0 ?_
  refine Go_bipush (pc := 2) (v := 7) C dX7_all_2 cb_7 ?_
  obtain ⟨r1, hr1, hf⟩ := bnd hf
  refine Go_callS1 (pc := 4) (ws1 := (w7 K a s0)) C [] (kX7_in l K p1 (0 : Int32) (7 : Int32) r1 hr1) ycX7_in mw_722 (Nat.le_of_ble_eq_true rfl) rfl rfl (Nat.le_of_ble_eq_true rfl) ⟨Nat.zero_le _, Nat.zero_le _⟩ dX7_all_4 rfl rfl rfl (Wr_same rfl) ?_
  refine Go_if_eq (pc := 7) (tgt := 18) C dX7_all_7 (by decide) (fun hc => ?_) (fun hc => ?_)
  · replace hf := ift hc hf
    refine Go_aload_n (pc := 18) C dX7_all_18 rfl ?_
    obtain ⟨r2, hr2, hf⟩ := bnd hf
    refine Go_callV1 (pc := 19) (ws1 := (w7 K a r2.2)) C 0 (0 :: 1 :: 2 :: 3 :: 4 :: 5 :: 6 :: 7 :: 8 :: 9 :: 10 :: 11 :: 12 :: 13 :: []) (kX7_bad l K (pk a (0 :: 1 :: 2 :: 3 :: 4 :: 5 :: 6 :: 7 :: 8 :: 9 :: 10 :: 11 :: 12 :: 13 :: [])) s0 r2 hr2) ycX7_bad mw_725 (Nat.le_of_ble_eq_true rfl) rfl rfl rfl rfl (Nat.le_of_ble_eq_true rfl) ⟨Nat.zero_le _, Nat.zero_le _⟩ dX7_all_19 (ll_149 _ _ _) rfl rfl (ll_150 _ _ _ _) ?_
    obtain rfl := Option.some.inj hf
    exact Go_iret C hr rfl dX7_all_22
  · replace hf := iff' hc hf
    refine Go_aload_n (pc := 10) C dX7_all_10 rfl ?_
    refine Go_iload_n (pc := 11) C dX7_all_11 rfl ?_
    obtain ⟨r3, hr3, hf⟩ := bnd hf
    refine Go_callV1 (pc := 12) (ws1 := (w7 K a r3.2)) C 0 (0 :: 1 :: 2 :: 3 :: 4 :: 5 :: 6 :: 7 :: 8 :: 9 :: 10 :: 11 :: 12 :: 13 :: []) (kX7_allBy l K (pk a (0 :: 1 :: 2 :: 3 :: 4 :: 5 :: 6 :: 7 :: 8 :: 9 :: 10 :: 11 :: 12 :: 13 :: [])) s0 p1 r3 hr3) ycX7_allBy mw_831 (Nat.le_of_ble_eq_true rfl) rfl rfl rfl rfl (Nat.le_of_ble_eq_true rfl) ⟨Nat.zero_le _, Nat.zero_le _⟩ dX7_all_12 (ll_149 _ _ _) rfl rfl (ll_150 _ _ _ _) ?_
    refine Go_goto (pc := 15) (tgt := 22) C dX7_all_15 (by decide) ?_
    obtain rfl := Option.some.inj hf
    exact Go_iret C hr rfl dX7_all_22
def fX7_isSide (s0 : S7) (p1 : Int32) (p2 : Int32) (p3 : Int32) (p4 : Int32) : Option (Int32) := Option.bind (fX7_bearer s0 s0.2.2.2.2.2.1 p1) (fun r1 => Option.bind (fX7_bearer s0 s0.2.2.2.2.2.1 p2) (fun r2 => Option.bind (fX7_roomOf s0 p1) (fun r3 => Option.bind (fX7_roomOf s0 p2) (fun r4 => (if r3 = r4 then (if r1 = p3 then (if r2 = p4 then some (1 : Int32) else (if r1 = p4 then (if r2 = p3 then some (1 : Int32) else some (0 : Int32)) else some (0 : Int32))) else (if r1 = p4 then (if r2 = p3 then some (1 : Int32) else some (0 : Int32)) else some (0 : Int32))) else some (0 : Int32))))))
theorem ycX7_isSide : CalV yX7_isSide cX7_isSide 7 ((some .boolean)) 4 := ⟨mw_858, mw_69, mw_857, mw_40, ⟨by decide, by decide, by decide +kernel⟩, by decide⟩
set_option maxHeartbeats 4000000 in
set_option maxRecDepth 100000 in
theorem kX7_isSide (l : Launch) (K : KK) (a : Nat → Nat) (s0 : S7) (p1 : Int32) (p2 : Int32) (p3 : Int32) (p4 : Int32) (res : Int32) (hf : fX7_isSide s0 p1 p2 p3 p4 = some res) : Ct l K yX7_isSide cX7_isSide 7 ((some .boolean)) 2 [.ref (a 0), .int p1, .int p2, .int p3, .int p4] (w7 K a s0) (some (.int res)) (w7 K a s0) := by
  refine Ct_of2 (by decide) rfl (Nat.le_of_ble_eq_true rfl) ?_
  intro p e σ m args below meth c C hr
  unfold fX7_isSide at hf
  refine Go_aload_n (pc := 0) C dX7_isSide_0 rfl ?_
  refine Go_aload_n (pc := 1) C dX7_isSide_1 rfl ?_
  refine Go_get (pc := 2) C 0 5 rfl rfl inX7 (by decide) mw_634 rfl dX7_isSide_2 ?_
  refine Go_iload_n (pc := 5) C dX7_isSide_5 rfl ?_
  obtain ⟨r1, hr1, hf⟩ := bnd hf
  refine Go_callV1 (pc := 6) (ws1 := (w7 K a s0)) C 0 (0 :: 1 :: 2 :: 3 :: 4 :: 5 :: 6 :: 7 :: 8 :: 9 :: 10 :: 11 :: 12 :: 13 :: []) (kX7_bearer l K (pk a (0 :: 1 :: 2 :: 3 :: 4 :: 5 :: 6 :: 7 :: 8 :: 9 :: 10 :: 11 :: 12 :: 13 :: [])) s0 s0.2.2.2.2.2.1 p1 r1 hr1) ycX7_bearer mw_808 (Nat.le_of_ble_eq_true rfl) rfl rfl rfl rfl (Nat.le_of_ble_eq_true rfl) ⟨Nat.zero_le _, Nat.zero_le _⟩ dX7_isSide_6 (ll_149 _ _ _) rfl rfl (Wr_same (ll_149 _ _ _)) ?_
  refine Go_istore (pc := 9) C dX7_isSide_9 (by decide) ?_
  refine Go_aload_n (pc := 11) C dX7_isSide_11 rfl ?_
  refine Go_aload_n (pc := 12) C dX7_isSide_12 rfl ?_
  refine Go_get (pc := 13) C 0 5 rfl rfl inX7 (by decide) mw_634 rfl dX7_isSide_13 ?_
  refine Go_iload_n (pc := 16) C dX7_isSide_16 rfl ?_
  obtain ⟨r2, hr2, hf⟩ := bnd hf
  refine Go_callV1 (pc := 17) (ws1 := (w7 K a s0)) C 0 (0 :: 1 :: 2 :: 3 :: 4 :: 5 :: 6 :: 7 :: 8 :: 9 :: 10 :: 11 :: 12 :: 13 :: []) (kX7_bearer l K (pk a (0 :: 1 :: 2 :: 3 :: 4 :: 5 :: 6 :: 7 :: 8 :: 9 :: 10 :: 11 :: 12 :: 13 :: [])) s0 s0.2.2.2.2.2.1 p2 r2 hr2) ycX7_bearer mw_808 (Nat.le_of_ble_eq_true rfl) rfl rfl rfl rfl (Nat.le_of_ble_eq_true rfl) ⟨Nat.zero_le _, Nat.zero_le _⟩ dX7_isSide_17 (ll_149 _ _ _) rfl rfl (Wr_same (ll_149 _ _ _)) ?_
  refine Go_istore (pc := 20) C dX7_isSide_20 (by decide) ?_
  refine Go_aload_n (pc := 22) C dX7_isSide_22 rfl ?_
  refine Go_iload_n (pc := 23) C dX7_isSide_23 rfl ?_
  obtain ⟨r3, hr3, hf⟩ := bnd hf
  refine Go_callV1 (pc := 24) (ws1 := (w7 K a s0)) C 0 (0 :: 1 :: 2 :: 3 :: 4 :: 5 :: 6 :: 7 :: 8 :: 9 :: 10 :: 11 :: 12 :: 13 :: []) (kX7_roomOf l K (pk a (0 :: 1 :: 2 :: 3 :: 4 :: 5 :: 6 :: 7 :: 8 :: 9 :: 10 :: 11 :: 12 :: 13 :: [])) s0 p1 r3 hr3) ycX7_roomOf mw_812 (Nat.le_of_ble_eq_true rfl) rfl rfl rfl rfl (Nat.le_of_ble_eq_true rfl) ⟨Nat.zero_le _, Nat.zero_le _⟩ dX7_isSide_24 (ll_149 _ _ _) rfl rfl (Wr_same (ll_149 _ _ _)) ?_
  refine Go_aload_n (pc := 27) C dX7_isSide_27 rfl ?_
  refine Go_iload_n (pc := 28) C dX7_isSide_28 rfl ?_
  obtain ⟨r4, hr4, hf⟩ := bnd hf
  refine Go_callV1 (pc := 29) (ws1 := (w7 K a s0)) C 0 (0 :: 1 :: 2 :: 3 :: 4 :: 5 :: 6 :: 7 :: 8 :: 9 :: 10 :: 11 :: 12 :: 13 :: []) (kX7_roomOf l K (pk a (0 :: 1 :: 2 :: 3 :: 4 :: 5 :: 6 :: 7 :: 8 :: 9 :: 10 :: 11 :: 12 :: 13 :: [])) s0 p2 r4 hr4) ycX7_roomOf mw_812 (Nat.le_of_ble_eq_true rfl) rfl rfl rfl rfl (Nat.le_of_ble_eq_true rfl) ⟨Nat.zero_le _, Nat.zero_le _⟩ dX7_isSide_29 (ll_149 _ _ _) rfl rfl (Wr_same (ll_149 _ _ _)) ?_
  refine Go_icmp_ne (pc := 32) (tgt := 65) C dX7_isSide_32 (by decide) (fun hc => ?_) (fun hc => ?_)
  · replace hf := ift hc hf
    refine Go_iload (pc := 35) C dX7_isSide_35 rfl ?_
    refine Go_iload_n (pc := 37) C dX7_isSide_37 rfl ?_
    refine Go_icmp_ne (pc := 38) (tgt := 48) C dX7_isSide_38 (by decide) (fun hc => ?_) (fun hc => ?_)
    · replace hf := ift hc hf
      refine Go_iload (pc := 41) C dX7_isSide_41 rfl ?_
      refine Go_iload (pc := 43) C dX7_isSide_43 rfl ?_
      refine Go_icmp_eq (pc := 45) (tgt := 61) C dX7_isSide_45 (by decide) (fun hc => ?_) (fun hc => ?_)
      · replace hf := ift hc hf
        refine Go_iconst (pc := 61) (v := 1) C dX7_isSide_61 ci_1 ?_
        refine Go_goto (pc := 62) (tgt := 66) C dX7_isSide_62 (by decide) ?_
        obtain rfl := Option.some.inj hf
        exact Go_zret C hr (Or.inr rfl) rfl dX7_isSide_66
      · replace hf := iff' hc hf
        refine Go_iload (pc := 48) C dX7_isSide_48 rfl ?_
        refine Go_iload (pc := 50) C dX7_isSide_50 rfl ?_
        refine Go_icmp_ne (pc := 52) (tgt := 65) C dX7_isSide_52 (by decide) (fun hc => ?_) (fun hc => ?_)
        · replace hf := ift hc hf
          refine Go_iload (pc := 55) C dX7_isSide_55 rfl ?_
          refine Go_iload_n (pc := 57) C dX7_isSide_57 rfl ?_
          refine Go_icmp_ne (pc := 58) (tgt := 65) C dX7_isSide_58 (by decide) (fun hc => ?_) (fun hc => ?_)
          · replace hf := ift hc hf
            refine Go_iconst (pc := 61) (v := 1) C dX7_isSide_61 ci_1 ?_
            refine Go_goto (pc := 62) (tgt := 66) C dX7_isSide_62 (by decide) ?_
            obtain rfl := Option.some.inj hf
            exact Go_zret C hr (Or.inr rfl) rfl dX7_isSide_66
          · replace hf := iff' hc hf
            refine Go_iconst (pc := 65) (v := 0) C dX7_isSide_65 ci_0 ?_
            obtain rfl := Option.some.inj hf
            exact Go_zret C hr (Or.inl rfl) rfl dX7_isSide_66
        · replace hf := iff' hc hf
          refine Go_iconst (pc := 65) (v := 0) C dX7_isSide_65 ci_0 ?_
          obtain rfl := Option.some.inj hf
          exact Go_zret C hr (Or.inl rfl) rfl dX7_isSide_66
    · replace hf := iff' hc hf
      refine Go_iload (pc := 48) C dX7_isSide_48 rfl ?_
      refine Go_iload (pc := 50) C dX7_isSide_50 rfl ?_
      refine Go_icmp_ne (pc := 52) (tgt := 65) C dX7_isSide_52 (by decide) (fun hc => ?_) (fun hc => ?_)
      · replace hf := ift hc hf
        refine Go_iload (pc := 55) C dX7_isSide_55 rfl ?_
        refine Go_iload_n (pc := 57) C dX7_isSide_57 rfl ?_
        refine Go_icmp_ne (pc := 58) (tgt := 65) C dX7_isSide_58 (by decide) (fun hc => ?_) (fun hc => ?_)
        · replace hf := ift hc hf
          refine Go_iconst (pc := 61) (v := 1) C dX7_isSide_61 ci_1 ?_
          refine Go_goto (pc := 62) (tgt := 66) C dX7_isSide_62 (by decide) ?_
          obtain rfl := Option.some.inj hf
          exact Go_zret C hr (Or.inr rfl) rfl dX7_isSide_66
        · replace hf := iff' hc hf
          refine Go_iconst (pc := 65) (v := 0) C dX7_isSide_65 ci_0 ?_
          obtain rfl := Option.some.inj hf
          exact Go_zret C hr (Or.inl rfl) rfl dX7_isSide_66
      · replace hf := iff' hc hf
        refine Go_iconst (pc := 65) (v := 0) C dX7_isSide_65 ci_0 ?_
        obtain rfl := Option.some.inj hf
        exact Go_zret C hr (Or.inl rfl) rfl dX7_isSide_66
  · replace hf := iff' hc hf
    refine Go_iconst (pc := 65) (v := 0) C dX7_isSide_65 ci_0 ?_
    obtain rfl := Option.some.inj hf
    exact Go_zret C hr (Or.inl rfl) rfl dX7_isSide_66
def fX7_beside_L51 (p1 : Int32) (p2 : Int32) (r10 : S7) (q11 : Int32 × Int32) : Option ((Int32 × Int32) ⊕ (Int32 × Int32)) := (if (96 : Int32) ≤ q11.2 then some (.inr (q11.1, q11.2)) else (if q11.1 = 0 then (if (11 : Int32) ≤ (q11.2 - q11.2 / (12 : Int32) * (12 : Int32)) then (if (84 : Int32) ≤ q11.2 then Option.bind (some (q11.2 + (1 : Int32))) (fun v12 => some (.inl ((0 : Int32), v12))) else Option.bind (fX7_isSide r10 q11.2 (q11.2 + (12 : Int32)) p1 p2) (fun r13 => (if r13 = 0 then Option.bind (some (q11.2 + (1 : Int32))) (fun v14 => some (.inl ((0 : Int32), v14))) else Option.bind (some (q11.2 + (1 : Int32))) (fun v15 => some (.inl ((1 : Int32), v15)))))) else Option.bind (fX7_isSide r10 q11.2 (q11.2 + (1 : Int32)) p1 p2) (fun r16 => (if r16 = 0 then (if (84 : Int32) ≤ q11.2 then Option.bind (some (q11.2 + (1 : Int32))) (fun v17 => some (.inl ((0 : Int32), v17))) else Option.bind (fX7_isSide r10 q11.2 (q11.2 + (12 : Int32)) p1 p2) (fun r18 => (if r18 = 0 then Option.bind (some (q11.2 + (1 : Int32))) (fun v19 => some (.inl ((0 : Int32), v19))) else Option.bind (some (q11.2 + (1 : Int32))) (fun v20 => some (.inl ((1 : Int32), v20)))))) else Option.bind (some (q11.2 + (1 : Int32))) (fun v21 => some (.inl ((1 : Int32), v21)))))) else some (.inr (q11.1, q11.2))))
def fX7_beside (s0 : S7) (p1 : Int32) (p2 : Int32) : Option (Int32 × S7) := Option.bind (fX7_isPillar s0 p1) (fun r1 => (if r1 = 0 then Option.bind (fX7_bad s0) (fun r2 => some (r2.1, r2.2)) else Option.bind (fX7_isPillar s0 p2) (fun r3 => (if r3 = 0 then Option.bind (fX7_bad s0) (fun r4 => some (r4.1, r4.2)) else (if p1 = p2 then Option.bind (fX7_bad s0) (fun r5 => some (r5.1, r5.2)) else Option.bind (fX7_stands s0 p1) (fun r6 => (if r6 = 0 then Option.bind (fX7_bad s0) (fun r7 => some (r7.1, r7.2)) else Option.bind (fX7_stands s0 p2) (fun r8 => (if r8 = 0 then Option.bind (fX7_bad s0) (fun r9 => some (r9.1, r9.2)) else Option.bind (fX7_setRooms s0) (fun r10 => Option.bind (loopF (fX7_beside_L51 p1 p2 r10) 5000 ((0 : Int32), (0 : Int32))) (fun z22 => (if z22.1 = 0 then some ((0 : Int32), r10) else some ((1 : Int32), r10)))))))))))))
theorem ycX7_beside : CalV yX7_beside cX7_beside 5 ((some .int)) 2 := ⟨mw_854, mw_69, mw_852, mw_853, ⟨by decide, by decide, by decide +kernel⟩, by decide⟩
set_option maxHeartbeats 4000000 in
set_option maxRecDepth 100000 in
theorem kX7_beside (l : Launch) (K : KK) (a : Nat → Nat) (s0 : S7) (p1 : Int32) (p2 : Int32) (res : Int32 × S7) (hf : fX7_beside s0 p1 p2 = some res) : Ct l K yX7_beside cX7_beside 5 ((some .int)) 3 [.ref (a 0), .int p1, .int p2] (w7 K a s0) (some (.int res.1)) (w7 K a res.2) := by
  refine Ct_of2 (by decide) rfl (Nat.le_of_ble_eq_true rfl) ?_
  intro p e σ m args below meth c C hr
  unfold fX7_beside at hf
  refine Go_aload_n (pc := 0) C dX7_beside_0 rfl ?_
  refine Go_iload_n (pc := 1) C dX7_beside_1 rfl ?_
  obtain ⟨r1, hr1, hf⟩ := bnd hf
  refine Go_callV1 (pc := 2) (ws1 := (w7 K a s0)) C 0 (0 :: 1 :: 2 :: 3 :: 4 :: 5 :: 6 :: 7 :: 8 :: 9 :: 10 :: 11 :: 12 :: 13 :: []) (kX7_isPillar l K (pk a (0 :: 1 :: 2 :: 3 :: 4 :: 5 :: 6 :: 7 :: 8 :: 9 :: 10 :: 11 :: 12 :: 13 :: [])) s0 p1 r1 hr1) ycX7_isPillar mw_766 (Nat.le_of_ble_eq_true rfl) rfl rfl rfl rfl (Nat.le_of_ble_eq_true rfl) ⟨Nat.zero_le _, Nat.zero_le _⟩ dX7_beside_2 (ll_149 _ _ _) rfl rfl (Wr_same (ll_149 _ _ _)) ?_
  refine Go_if_eq (pc := 5) (tgt := 37) C dX7_beside_5 (by decide) (fun hc => ?_) (fun hc => ?_)
  · replace hf := ift hc hf
    refine Go_aload_n (pc := 37) C dX7_beside_37 rfl ?_
    obtain ⟨r2, hr2, hf⟩ := bnd hf
    refine Go_callV1 (pc := 38) (ws1 := (w7 K a r2.2)) C 0 (0 :: 1 :: 2 :: 3 :: 4 :: 5 :: 6 :: 7 :: 8 :: 9 :: 10 :: 11 :: 12 :: 13 :: []) (kX7_bad l K (pk a (0 :: 1 :: 2 :: 3 :: 4 :: 5 :: 6 :: 7 :: 8 :: 9 :: 10 :: 11 :: 12 :: 13 :: [])) s0 r2 hr2) ycX7_bad mw_725 (Nat.le_of_ble_eq_true rfl) rfl rfl rfl rfl (Nat.le_of_ble_eq_true rfl) ⟨Nat.zero_le _, Nat.zero_le _⟩ dX7_beside_38 (ll_149 _ _ _) rfl rfl (ll_150 _ _ _ _) ?_
    obtain rfl := Option.some.inj hf
    exact Go_iret C hr rfl dX7_beside_41
  · replace hf := iff' hc hf
    refine Go_aload_n (pc := 8) C dX7_beside_8 rfl ?_
    refine Go_iload_n (pc := 9) C dX7_beside_9 rfl ?_
    obtain ⟨r3, hr3, hf⟩ := bnd hf
    refine Go_callV1 (pc := 10) (ws1 := (w7 K a s0)) C 0 (0 :: 1 :: 2 :: 3 :: 4 :: 5 :: 6 :: 7 :: 8 :: 9 :: 10 :: 11 :: 12 :: 13 :: []) (kX7_isPillar l K (pk a (0 :: 1 :: 2 :: 3 :: 4 :: 5 :: 6 :: 7 :: 8 :: 9 :: 10 :: 11 :: 12 :: 13 :: [])) s0 p2 r3 hr3) ycX7_isPillar mw_766 (Nat.le_of_ble_eq_true rfl) rfl rfl rfl rfl (Nat.le_of_ble_eq_true rfl) ⟨Nat.zero_le _, Nat.zero_le _⟩ dX7_beside_10 (ll_149 _ _ _) rfl rfl (Wr_same (ll_149 _ _ _)) ?_
    refine Go_if_eq (pc := 13) (tgt := 37) C dX7_beside_13 (by decide) (fun hc => ?_) (fun hc => ?_)
    · replace hf := ift hc hf
      refine Go_aload_n (pc := 37) C dX7_beside_37 rfl ?_
      obtain ⟨r4, hr4, hf⟩ := bnd hf
      refine Go_callV1 (pc := 38) (ws1 := (w7 K a r4.2)) C 0 (0 :: 1 :: 2 :: 3 :: 4 :: 5 :: 6 :: 7 :: 8 :: 9 :: 10 :: 11 :: 12 :: 13 :: []) (kX7_bad l K (pk a (0 :: 1 :: 2 :: 3 :: 4 :: 5 :: 6 :: 7 :: 8 :: 9 :: 10 :: 11 :: 12 :: 13 :: [])) s0 r4 hr4) ycX7_bad mw_725 (Nat.le_of_ble_eq_true rfl) rfl rfl rfl rfl (Nat.le_of_ble_eq_true rfl) ⟨Nat.zero_le _, Nat.zero_le _⟩ dX7_beside_38 (ll_149 _ _ _) rfl rfl (ll_150 _ _ _ _) ?_
      obtain rfl := Option.some.inj hf
      exact Go_iret C hr rfl dX7_beside_41
    · replace hf := iff' hc hf
      refine Go_iload_n (pc := 16) C dX7_beside_16 rfl ?_
      refine Go_iload_n (pc := 17) C dX7_beside_17 rfl ?_
      refine Go_icmp_eq (pc := 18) (tgt := 37) C dX7_beside_18 (by decide) (fun hc => ?_) (fun hc => ?_)
      · replace hf := ift hc hf
        refine Go_aload_n (pc := 37) C dX7_beside_37 rfl ?_
        obtain ⟨r5, hr5, hf⟩ := bnd hf
        refine Go_callV1 (pc := 38) (ws1 := (w7 K a r5.2)) C 0 (0 :: 1 :: 2 :: 3 :: 4 :: 5 :: 6 :: 7 :: 8 :: 9 :: 10 :: 11 :: 12 :: 13 :: []) (kX7_bad l K (pk a (0 :: 1 :: 2 :: 3 :: 4 :: 5 :: 6 :: 7 :: 8 :: 9 :: 10 :: 11 :: 12 :: 13 :: [])) s0 r5 hr5) ycX7_bad mw_725 (Nat.le_of_ble_eq_true rfl) rfl rfl rfl rfl (Nat.le_of_ble_eq_true rfl) ⟨Nat.zero_le _, Nat.zero_le _⟩ dX7_beside_38 (ll_149 _ _ _) rfl rfl (ll_150 _ _ _ _) ?_
        obtain rfl := Option.some.inj hf
        exact Go_iret C hr rfl dX7_beside_41
      · replace hf := iff' hc hf
        refine Go_aload_n (pc := 21) C dX7_beside_21 rfl ?_
        refine Go_iload_n (pc := 22) C dX7_beside_22 rfl ?_
        obtain ⟨r6, hr6, hf⟩ := bnd hf
        refine Go_callV1 (pc := 23) (ws1 := (w7 K a s0)) C 0 (0 :: 1 :: 2 :: 3 :: 4 :: 5 :: 6 :: 7 :: 8 :: 9 :: 10 :: 11 :: 12 :: 13 :: []) (kX7_stands l K (pk a (0 :: 1 :: 2 :: 3 :: 4 :: 5 :: 6 :: 7 :: 8 :: 9 :: 10 :: 11 :: 12 :: 13 :: [])) s0 p1 r6 hr6) ycX7_stands mw_819 (Nat.le_of_ble_eq_true rfl) rfl rfl rfl rfl (Nat.le_of_ble_eq_true rfl) ⟨Nat.zero_le _, Nat.zero_le _⟩ dX7_beside_23 (ll_149 _ _ _) rfl rfl (Wr_same (ll_149 _ _ _)) ?_
        refine Go_if_eq (pc := 26) (tgt := 37) C dX7_beside_26 (by decide) (fun hc => ?_) (fun hc => ?_)
        · replace hf := ift hc hf
          refine Go_aload_n (pc := 37) C dX7_beside_37 rfl ?_
          obtain ⟨r7, hr7, hf⟩ := bnd hf
          refine Go_callV1 (pc := 38) (ws1 := (w7 K a r7.2)) C 0 (0 :: 1 :: 2 :: 3 :: 4 :: 5 :: 6 :: 7 :: 8 :: 9 :: 10 :: 11 :: 12 :: 13 :: []) (kX7_bad l K (pk a (0 :: 1 :: 2 :: 3 :: 4 :: 5 :: 6 :: 7 :: 8 :: 9 :: 10 :: 11 :: 12 :: 13 :: [])) s0 r7 hr7) ycX7_bad mw_725 (Nat.le_of_ble_eq_true rfl) rfl rfl rfl rfl (Nat.le_of_ble_eq_true rfl) ⟨Nat.zero_le _, Nat.zero_le _⟩ dX7_beside_38 (ll_149 _ _ _) rfl rfl (ll_150 _ _ _ _) ?_
          obtain rfl := Option.some.inj hf
          exact Go_iret C hr rfl dX7_beside_41
        · replace hf := iff' hc hf
          refine Go_aload_n (pc := 29) C dX7_beside_29 rfl ?_
          refine Go_iload_n (pc := 30) C dX7_beside_30 rfl ?_
          obtain ⟨r8, hr8, hf⟩ := bnd hf
          refine Go_callV1 (pc := 31) (ws1 := (w7 K a s0)) C 0 (0 :: 1 :: 2 :: 3 :: 4 :: 5 :: 6 :: 7 :: 8 :: 9 :: 10 :: 11 :: 12 :: 13 :: []) (kX7_stands l K (pk a (0 :: 1 :: 2 :: 3 :: 4 :: 5 :: 6 :: 7 :: 8 :: 9 :: 10 :: 11 :: 12 :: 13 :: [])) s0 p2 r8 hr8) ycX7_stands mw_819 (Nat.le_of_ble_eq_true rfl) rfl rfl rfl rfl (Nat.le_of_ble_eq_true rfl) ⟨Nat.zero_le _, Nat.zero_le _⟩ dX7_beside_31 (ll_149 _ _ _) rfl rfl (Wr_same (ll_149 _ _ _)) ?_
          refine Go_if_ne (pc := 34) (tgt := 42) C dX7_beside_34 (by decide) (fun hc => ?_) (fun hc => ?_)
          · replace hf := ift hc hf
            refine Go_aload_n (pc := 37) C dX7_beside_37 rfl ?_
            obtain ⟨r9, hr9, hf⟩ := bnd hf
            refine Go_callV1 (pc := 38) (ws1 := (w7 K a r9.2)) C 0 (0 :: 1 :: 2 :: 3 :: 4 :: 5 :: 6 :: 7 :: 8 :: 9 :: 10 :: 11 :: 12 :: 13 :: []) (kX7_bad l K (pk a (0 :: 1 :: 2 :: 3 :: 4 :: 5 :: 6 :: 7 :: 8 :: 9 :: 10 :: 11 :: 12 :: 13 :: [])) s0 r9 hr9) ycX7_bad mw_725 (Nat.le_of_ble_eq_true rfl) rfl rfl rfl rfl (Nat.le_of_ble_eq_true rfl) ⟨Nat.zero_le _, Nat.zero_le _⟩ dX7_beside_38 (ll_149 _ _ _) rfl rfl (ll_150 _ _ _ _) ?_
            obtain rfl := Option.some.inj hf
            exact Go_iret C hr rfl dX7_beside_41
          · replace hf := iff' hc hf
            refine Go_aload_n (pc := 42) C dX7_beside_42 rfl ?_
            obtain ⟨r10, hr10, hf⟩ := bnd hf
            refine Go_callV0 (pc := 43) (ws1 := (w7 K a r10)) C 0 (0 :: 1 :: 2 :: 3 :: 4 :: 5 :: 6 :: 7 :: 8 :: 9 :: 10 :: 11 :: 12 :: 13 :: []) (kX7_setRooms l K (pk a (0 :: 1 :: 2 :: 3 :: 4 :: 5 :: 6 :: 7 :: 8 :: 9 :: 10 :: 11 :: 12 :: 13 :: [])) s0 r10 hr10) ycX7_setRooms mw_800 (Nat.le_of_ble_eq_true rfl) rfl rfl rfl rfl (Nat.le_of_ble_eq_true rfl) ⟨Nat.zero_le _, Nat.zero_le _⟩ dX7_beside_43 (ll_149 _ _ _) rfl rfl (ll_150 _ _ _ _) ?_
            refine Go_iconst (pc := 46) (v := 0) C dX7_beside_46 ci_0 ?_
            refine Go_istore_n (pc := 47) C dX7_beside_47 (by decide) ?_
            refine Go_iconst (pc := 48) (v := 0) C dX7_beside_48 ci_0 ?_
            refine Go_istore (pc := 49) C dX7_beside_49 (by decide) ?_
            obtain ⟨z22, hz22, hf⟩ := bnd hf
            refine Go_mask [true, true, true, true, true] ?_
            refine loopF_go (step := (fX7_beside_L51 p1 p2 r10)) (fun q11 => Go p l e (rmc 3 0 0) σ m args below meth c K (inW (w7 K a s0)) σ.heap 5 0 0 (MQ below (CtQ K (w7 K a s0) (some (.int res.1)) (w7 K a res.2)) args σ 0 0 (inW (w7 K a s0))) (w7 K a r10) 51 [some (.ref (a 0)), some (.int p1), some (.int p2), some (.int q11.1), some (.int q11.2)] []) (fun z22 => Go p l e (rmc 3 0 0) σ m args below meth c K (inW (w7 K a s0)) σ.heap 5 0 0 (MQ below (CtQ K (w7 K a s0) (some (.int res.1)) (w7 K a res.2)) args σ 0 0 (inW (w7 K a s0))) (w7 K a r10) 122 [some (.ref (a 0)), some (.int p1), some (.int p2), some (.int z22.1), some (.int z22.2)] []) ?_ _ _ _ hz22 ?_
            · intro q11 x hf hk
              unfold fX7_beside_L51 at hf
              refine Go_iload (pc := 51) C dX7_beside_51 rfl ?_
              refine Go_bipush (pc := 53) (v := 96) C dX7_beside_53 cb_96 ?_
              refine Go_icmp_ge (pc := 55) (tgt := 122) C dX7_beside_55 (by decide) (fun hc => ?_) (fun hc => ?_)
              · replace hf := ift hc hf
                obtain rfl := Option.some.inj hf
                exact Go_mask [true, true, true, true, true] hk
              · replace hf := iff' hc hf
                refine Go_iload_n (pc := 58) C dX7_beside_58 rfl ?_
                refine Go_if_ne (pc := 59) (tgt := 122) C dX7_beside_59 (by decide) (fun hc => ?_) (fun hc => ?_)
                · replace hf := ift hc hf
                  refine Go_iload (pc := 62) C dX7_beside_62 rfl ?_
                  refine Go_bipush (pc := 64) (v := 12) C dX7_beside_64 cb_12 ?_
                  refine Go_irem (pc := 66) C dX7_beside_66 (by decide) ?_
                  refine Go_bipush (pc := 67) (v := 11) C dX7_beside_67 cb_11 ?_
                  refine Go_icmp_ge (pc := 69) (tgt := 87) C dX7_beside_69 (by decide) (fun hc => ?_) (fun hc => ?_)
                  · replace hf := ift hc hf
                    refine Go_iload (pc := 87) C dX7_beside_87 rfl ?_
                    refine Go_bipush (pc := 89) (v := 84) C dX7_beside_89 cb_84 ?_
                    refine Go_icmp_ge (pc := 91) (tgt := 114) C dX7_beside_91 (by decide) (fun hc => ?_) (fun hc => ?_)
                    · replace hf := ift hc hf
                      refine Go_iconst (pc := 114) (v := 0) C dX7_beside_114 ci_0 ?_
                      refine Go_istore_n (pc := 115) C dX7_beside_115 (by decide) ?_
                      obtain ⟨v12, hv12, hf⟩ := bnd hf
                      refine Go_iinc (pc := 116) (v := v12) C dX7_beside_116 rfl (by rw [ci_1]; exact Option.some.inj hv12) ?_
                      refine Go_goto (pc := 119) (tgt := 51) C dX7_beside_119 (by decide) ?_
                      obtain rfl := Option.some.inj hf
                      exact Go_mask [true, true, true, true, true] hk
                    · replace hf := iff' hc hf
                      refine Go_aload_n (pc := 94) C dX7_beside_94 rfl ?_
                      refine Go_iload (pc := 95) C dX7_beside_95 rfl ?_
                      refine Go_iload (pc := 97) C dX7_beside_97 rfl ?_
                      refine Go_bipush (pc := 99) (v := 12) C dX7_beside_99 cb_12 ?_
                      refine Go_iadd (pc := 101) C dX7_beside_101 ?_
                      refine Go_iload_n (pc := 102) C dX7_beside_102 rfl ?_
                      refine Go_iload_n (pc := 103) C dX7_beside_103 rfl ?_
                      obtain ⟨r13, hr13, hf⟩ := bnd hf
                      refine Go_callV1 (pc := 104) (ws1 := (w7 K a r10)) C 0 (0 :: 1 :: 2 :: 3 :: 4 :: 5 :: 6 :: 7 :: 8 :: 9 :: 10 :: 11 :: 12 :: 13 :: []) (kX7_isSide l K (pk a (0 :: 1 :: 2 :: 3 :: 4 :: 5 :: 6 :: 7 :: 8 :: 9 :: 10 :: 11 :: 12 :: 13 :: [])) r10 q11.2 (q11.2 + (12 : Int32)) p1 p2 r13 hr13) ycX7_isSide mw_855 (Nat.le_of_ble_eq_true rfl) rfl rfl rfl rfl (Nat.le_of_ble_eq_true rfl) ⟨Nat.zero_le _, Nat.zero_le _⟩ dX7_beside_104 (ll_149 _ _ _) rfl rfl (Wr_same (ll_149 _ _ _)) ?_
                      refine Go_if_eq (pc := 107) (tgt := 114) C dX7_beside_107 (by decide) (fun hc => ?_) (fun hc => ?_)
                      · replace hf := ift hc hf
                        refine Go_iconst (pc := 114) (v := 0) C dX7_beside_114 ci_0 ?_
                        refine Go_istore_n (pc := 115) C dX7_beside_115 (by decide) ?_
                        obtain ⟨v14, hv14, hf⟩ := bnd hf
                        refine Go_iinc (pc := 116) (v := v14) C dX7_beside_116 rfl (by rw [ci_1]; exact Option.some.inj hv14) ?_
                        refine Go_goto (pc := 119) (tgt := 51) C dX7_beside_119 (by decide) ?_
                        obtain rfl := Option.some.inj hf
                        exact Go_mask [true, true, true, true, true] hk
                      · replace hf := iff' hc hf
                        refine Go_iconst (pc := 110) (v := 1) C dX7_beside_110 ci_1 ?_
                        refine Go_goto (pc := 111) (tgt := 115) C dX7_beside_111 (by decide) ?_
                        refine Go_istore_n (pc := 115) C dX7_beside_115 (by decide) ?_
                        obtain ⟨v15, hv15, hf⟩ := bnd hf
                        refine Go_iinc (pc := 116) (v := v15) C dX7_beside_116 rfl (by rw [ci_1]; exact Option.some.inj hv15) ?_
                        refine Go_goto (pc := 119) (tgt := 51) C dX7_beside_119 (by decide) ?_
                        obtain rfl := Option.some.inj hf
                        exact Go_mask [true, true, true, true, true] hk
                  · replace hf := iff' hc hf
                    refine Go_aload_n (pc := 72) C dX7_beside_72 rfl ?_
                    refine Go_iload (pc := 73) C dX7_beside_73 rfl ?_
                    refine Go_iload (pc := 75) C dX7_beside_75 rfl ?_
                    refine Go_iconst (pc := 77) (v := 1) C dX7_beside_77 ci_1 ?_
                    refine Go_iadd (pc := 78) C dX7_beside_78 ?_
                    refine Go_iload_n (pc := 79) C dX7_beside_79 rfl ?_
                    refine Go_iload_n (pc := 80) C dX7_beside_80 rfl ?_
                    obtain ⟨r16, hr16, hf⟩ := bnd hf
                    refine Go_callV1 (pc := 81) (ws1 := (w7 K a r10)) C 0 (0 :: 1 :: 2 :: 3 :: 4 :: 5 :: 6 :: 7 :: 8 :: 9 :: 10 :: 11 :: 12 :: 13 :: []) (kX7_isSide l K (pk a (0 :: 1 :: 2 :: 3 :: 4 :: 5 :: 6 :: 7 :: 8 :: 9 :: 10 :: 11 :: 12 :: 13 :: [])) r10 q11.2 (q11.2 + (1 : Int32)) p1 p2 r16 hr16) ycX7_isSide mw_855 (Nat.le_of_ble_eq_true rfl) rfl rfl rfl rfl (Nat.le_of_ble_eq_true rfl) ⟨Nat.zero_le _, Nat.zero_le _⟩ dX7_beside_81 (ll_149 _ _ _) rfl rfl (Wr_same (ll_149 _ _ _)) ?_
                    refine Go_if_ne (pc := 84) (tgt := 110) C dX7_beside_84 (by decide) (fun hc => ?_) (fun hc => ?_)
                    · replace hf := ift hc hf
                      refine Go_iload (pc := 87) C dX7_beside_87 rfl ?_
                      refine Go_bipush (pc := 89) (v := 84) C dX7_beside_89 cb_84 ?_
                      refine Go_icmp_ge (pc := 91) (tgt := 114) C dX7_beside_91 (by decide) (fun hc => ?_) (fun hc => ?_)
                      · replace hf := ift hc hf
                        refine Go_iconst (pc := 114) (v := 0) C dX7_beside_114 ci_0 ?_
                        refine Go_istore_n (pc := 115) C dX7_beside_115 (by decide) ?_
                        obtain ⟨v17, hv17, hf⟩ := bnd hf
                        refine Go_iinc (pc := 116) (v := v17) C dX7_beside_116 rfl (by rw [ci_1]; exact Option.some.inj hv17) ?_
                        refine Go_goto (pc := 119) (tgt := 51) C dX7_beside_119 (by decide) ?_
                        obtain rfl := Option.some.inj hf
                        exact Go_mask [true, true, true, true, true] hk
                      · replace hf := iff' hc hf
                        refine Go_aload_n (pc := 94) C dX7_beside_94 rfl ?_
                        refine Go_iload (pc := 95) C dX7_beside_95 rfl ?_
                        refine Go_iload (pc := 97) C dX7_beside_97 rfl ?_
                        refine Go_bipush (pc := 99) (v := 12) C dX7_beside_99 cb_12 ?_
                        refine Go_iadd (pc := 101) C dX7_beside_101 ?_
                        refine Go_iload_n (pc := 102) C dX7_beside_102 rfl ?_
                        refine Go_iload_n (pc := 103) C dX7_beside_103 rfl ?_
                        obtain ⟨r18, hr18, hf⟩ := bnd hf
                        refine Go_callV1 (pc := 104) (ws1 := (w7 K a r10)) C 0 (0 :: 1 :: 2 :: 3 :: 4 :: 5 :: 6 :: 7 :: 8 :: 9 :: 10 :: 11 :: 12 :: 13 :: []) (kX7_isSide l K (pk a (0 :: 1 :: 2 :: 3 :: 4 :: 5 :: 6 :: 7 :: 8 :: 9 :: 10 :: 11 :: 12 :: 13 :: [])) r10 q11.2 (q11.2 + (12 : Int32)) p1 p2 r18 hr18) ycX7_isSide mw_855 (Nat.le_of_ble_eq_true rfl) rfl rfl rfl rfl (Nat.le_of_ble_eq_true rfl) ⟨Nat.zero_le _, Nat.zero_le _⟩ dX7_beside_104 (ll_149 _ _ _) rfl rfl (Wr_same (ll_149 _ _ _)) ?_
                        refine Go_if_eq (pc := 107) (tgt := 114) C dX7_beside_107 (by decide) (fun hc => ?_) (fun hc => ?_)
                        · replace hf := ift hc hf
                          refine Go_iconst (pc := 114) (v := 0) C dX7_beside_114 ci_0 ?_
                          refine Go_istore_n (pc := 115) C dX7_beside_115 (by decide) ?_
                          obtain ⟨v19, hv19, hf⟩ := bnd hf
                          refine Go_iinc (pc := 116) (v := v19) C dX7_beside_116 rfl (by rw [ci_1]; exact Option.some.inj hv19) ?_
                          refine Go_goto (pc := 119) (tgt := 51) C dX7_beside_119 (by decide) ?_
                          obtain rfl := Option.some.inj hf
                          exact Go_mask [true, true, true, true, true] hk
                        · replace hf := iff' hc hf
                          refine Go_iconst (pc := 110) (v := 1) C dX7_beside_110 ci_1 ?_
                          refine Go_goto (pc := 111) (tgt := 115) C dX7_beside_111 (by decide) ?_
                          refine Go_istore_n (pc := 115) C dX7_beside_115 (by decide) ?_
                          obtain ⟨v20, hv20, hf⟩ := bnd hf
                          refine Go_iinc (pc := 116) (v := v20) C dX7_beside_116 rfl (by rw [ci_1]; exact Option.some.inj hv20) ?_
                          refine Go_goto (pc := 119) (tgt := 51) C dX7_beside_119 (by decide) ?_
                          obtain rfl := Option.some.inj hf
                          exact Go_mask [true, true, true, true, true] hk
                    · replace hf := iff' hc hf
                      refine Go_iconst (pc := 110) (v := 1) C dX7_beside_110 ci_1 ?_
                      refine Go_goto (pc := 111) (tgt := 115) C dX7_beside_111 (by decide) ?_
                      refine Go_istore_n (pc := 115) C dX7_beside_115 (by decide) ?_
                      obtain ⟨v21, hv21, hf⟩ := bnd hf
                      refine Go_iinc (pc := 116) (v := v21) C dX7_beside_116 rfl (by rw [ci_1]; exact Option.some.inj hv21) ?_
                      refine Go_goto (pc := 119) (tgt := 51) C dX7_beside_119 (by decide) ?_
                      obtain rfl := Option.some.inj hf
                      exact Go_mask [true, true, true, true, true] hk
                · replace hf := iff' hc hf
                  obtain rfl := Option.some.inj hf
                  exact Go_mask [true, true, true, true, true] hk
            · show Go _ _ _ _ _ _ _ _ _ _ _ _ _ _ _ _ _ _ _ _ _
              refine Go_iload_n (pc := 122) C dX7_beside_122 rfl ?_
              refine Go_if_eq (pc := 123) (tgt := 130) C dX7_beside_123 (by decide) (fun hc => ?_) (fun hc => ?_)
              · replace hf := ift hc hf
                refine Go_iconst (pc := 130) (v := 0) C dX7_beside_130 ci_0 ?_
                obtain rfl := Option.some.inj hf
                exact Go_iret C hr rfl dX7_beside_131
              · replace hf := iff' hc hf
                refine Go_iconst (pc := 126) (v := 1) C dX7_beside_126 ci_1 ?_
                refine Go_goto (pc := 127) (tgt := 131) C dX7_beside_127 (by decide) ?_
                obtain rfl := Option.some.inj hf
                exact Go_iret C hr rfl dX7_beside_131
theorem ll_156 (K : KK) (a : Nat → Nat) (t0 : S7) (y : Nat → Int32) : List.set (w7 K a t0) 10 (a 10, .inl (K.2.1, 13, .inl y)) = (w7 K a ((t0.1, t0.2.1, t0.2.2.1, t0.2.2.2.1, t0.2.2.2.2.1, t0.2.2.2.2.2.1, t0.2.2.2.2.2.2.1, t0.2.2.2.2.2.2.2.1, t0.2.2.2.2.2.2.2.2.1, t0.2.2.2.2.2.2.2.2.2.1, t0.2.2.2.2.2.2.2.2.2.2.1, t0.2.2.2.2.2.2.2.2.2.2.2.1, t0.2.2.2.2.2.2.2.2.2.2.2.2.1, t0.2.2.2.2.2.2.2.2.2.2.2.2.2.1, y, t0.2.2.2.2.2.2.2.2.2.2.2.2.2.2.2))) := rfl
def fX7_goes_L13  (q3 : Int32 × S7) : Option ((Int32 × S7) ⊕ (Int32 × S7)) := (if q3.1 = 0 then some (.inr (q3.1, q3.2)) else (if 0 ≤ q3.2.2.2.2.2.2.2.2.2.2.2.2.2.2.1 ∧ q3.2.2.2.2.2.2.2.2.2.2.2.2.2.2.1.toNatClampNeg < 13 then Option.bind (fX7_tooMuch ((q3.2.1, q3.2.2.1, q3.2.2.2.1, q3.2.2.2.2.1, q3.2.2.2.2.2.1, q3.2.2.2.2.2.2.1 &&& (q3.1 ^^^ (-1 : Int32)), q3.2.2.2.2.2.2.2.1, q3.2.2.2.2.2.2.2.2.1, q3.2.2.2.2.2.2.2.2.2.1, q3.2.2.2.2.2.2.2.2.2.2.1, q3.2.2.2.2.2.2.2.2.2.2.2.1, q3.2.2.2.2.2.2.2.2.2.2.2.2.1, q3.2.2.2.2.2.2.2.2.2.2.2.2.2.1, q3.2.2.2.2.2.2.2.2.2.2.2.2.2.2.1 + (1 : Int32), upd q3.2.2.2.2.2.2.2.2.2.2.2.2.2.2.2.1 q3.2.2.2.2.2.2.2.2.2.2.2.2.2.2.1.toNatClampNeg q3.1, q3.2.2.2.2.2.2.2.2.2.2.2.2.2.2.2.2)) (q3.2.2.2.2.2.2.1 &&& (q3.1 ^^^ (-1 : Int32)))) (fun r4 => some (.inl (r4.1, r4.2))) else none))
def fX7_goes (s0 : S7) : Option (S7) := Option.bind (fX7_noWaves s0) (fun r1 => Option.bind (fX7_tooMuch r1 r1.2.2.2.2.2.1) (fun r2 => Option.bind (loopF (fX7_goes_L13) 5000 (r2.1, r2.2)) (fun z5 => some z5.2)))
theorem ycX7_goes : CalV yX7_goes cX7_goes 2 none 0 := ⟨mw_866, mw_69, mw_865, mw_41, ⟨by decide, by decide, by decide +kernel⟩, by decide⟩
set_option maxHeartbeats 4000000 in
set_option maxRecDepth 100000 in
theorem kX7_goes (l : Launch) (K : KK) (a : Nat → Nat) (s0 : S7) (res : S7) (hf : fX7_goes s0 = some res) : Ct l K yX7_goes cX7_goes 2 none 4 [.ref (a 0)] (w7 K a s0) (none) (w7 K a res) := by
  refine Ct_of2 (by decide) rfl (Nat.le_of_ble_eq_true rfl) ?_
  intro p e σ m args below meth c C hr
  unfold fX7_goes at hf
  refine Go_aload_n (pc := 0) C dX7_goes_0 rfl ?_
  obtain ⟨r1, hr1, hf⟩ := bnd hf
  refine Go_callV0 (pc := 1) (ws1 := (w7 K a r1)) C 0 (0 :: 1 :: 2 :: 3 :: 4 :: 5 :: 6 :: 7 :: 8 :: 9 :: 10 :: 11 :: 12 :: 13 :: []) (kX7_noWaves l K (pk a (0 :: 1 :: 2 :: 3 :: 4 :: 5 :: 6 :: 7 :: 8 :: 9 :: 10 :: 11 :: 12 :: 13 :: [])) s0 r1 hr1) ycX7_noWaves mw_711 (Nat.le_of_ble_eq_true rfl) rfl rfl rfl rfl (Nat.le_of_ble_eq_true rfl) ⟨Nat.zero_le _, Nat.zero_le _⟩ dX7_goes_1 (ll_149 _ _ _) rfl rfl (ll_150 _ _ _ _) ?_
  refine Go_aload_n (pc := 4) C dX7_goes_4 rfl ?_
  refine Go_aload_n (pc := 5) C dX7_goes_5 rfl ?_
  refine Go_get (pc := 6) C 0 5 rfl rfl inX7 (by decide) mw_634 rfl dX7_goes_6 ?_
  obtain ⟨r2, hr2, hf⟩ := bnd hf
  refine Go_callV1 (pc := 9) (ws1 := (w7 K a r2.2)) C 0 (0 :: 1 :: 2 :: 3 :: 4 :: 5 :: 6 :: 7 :: 8 :: 9 :: 10 :: 11 :: 12 :: 13 :: []) (kX7_tooMuch l K (pk a (0 :: 1 :: 2 :: 3 :: 4 :: 5 :: 6 :: 7 :: 8 :: 9 :: 10 :: 11 :: 12 :: 13 :: [])) r1 r1.2.2.2.2.2.1 r2 hr2) ycX7_tooMuch mw_835 (Nat.le_of_ble_eq_true rfl) rfl rfl rfl rfl (Nat.le_of_ble_eq_true rfl) ⟨Nat.zero_le _, Nat.zero_le _⟩ dX7_goes_9 (ll_149 _ _ _) rfl rfl (ll_150 _ _ _ _) ?_
  refine Go_istore_n (pc := 12) C dX7_goes_12 (by decide) ?_
  obtain ⟨z5, hz5, hf⟩ := bnd hf
  refine Go_mask [true, true] ?_
  refine loopF_go (step := (fX7_goes_L13)) (fun q3 => Go p l e (rmc 4 0 0) σ m args below meth c K (inW (w7 K a s0)) σ.heap 2 0 0 (MQ below (CtQ K (w7 K a s0) (none) (w7 K a res)) args σ 0 0 (inW (w7 K a s0))) (w7 K a q3.2) 13 [some (.ref (a 0)), some (.int q3.1)] []) (fun z5 => Go p l e (rmc 4 0 0) σ m args below meth c K (inW (w7 K a s0)) σ.heap 2 0 0 (MQ below (CtQ K (w7 K a s0) (none) (w7 K a res)) args σ 0 0 (inW (w7 K a s0))) (w7 K a z5.2) 61 [some (.ref (a 0)), some (.int z5.1)] []) ?_ _ _ _ hz5 ?_
  · intro q3 x hf hk
    unfold fX7_goes_L13 at hf
    refine Go_iload_n (pc := 13) C dX7_goes_13 rfl ?_
    refine Go_if_eq (pc := 14) (tgt := 61) C dX7_goes_14 (by decide) (fun hc => ?_) (fun hc => ?_)
    · replace hf := ift hc hf
      obtain rfl := Option.some.inj hf
      exact Go_mask [true, true] hk
    · replace hf := iff' hc hf
      refine Go_aload_n (pc := 17) C dX7_goes_17 rfl ?_
      refine Go_get (pc := 18) C 0 14 rfl rfl inX7 (by decide) mw_643 rfl dX7_goes_18 ?_
      refine Go_aload_n (pc := 21) C dX7_goes_21 rfl ?_
      refine Go_get (pc := 22) C 0 13 rfl rfl inX7 (by decide) mw_642 rfl dX7_goes_22 ?_
      refine Go_iload_n (pc := 25) C dX7_goes_25 rfl ?_
      obtain ⟨hb, hf⟩ := ifs hf
      refine Go_iast (pc := 26) (ws1 := (w7 K a ((q3.2.1, q3.2.2.1, q3.2.2.2.1, q3.2.2.2.2.1, q3.2.2.2.2.2.1, q3.2.2.2.2.2.2.1, q3.2.2.2.2.2.2.2.1, q3.2.2.2.2.2.2.2.2.1, q3.2.2.2.2.2.2.2.2.2.1, q3.2.2.2.2.2.2.2.2.2.2.1, q3.2.2.2.2.2.2.2.2.2.2.2.1, q3.2.2.2.2.2.2.2.2.2.2.2.2.1, q3.2.2.2.2.2.2.2.2.2.2.2.2.2.1, q3.2.2.2.2.2.2.2.2.2.2.2.2.2.2.1, upd q3.2.2.2.2.2.2.2.2.2.2.2.2.2.2.2.1 q3.2.2.2.2.2.2.2.2.2.2.2.2.2.2.1.toNatClampNeg q3.1, q3.2.2.2.2.2.2.2.2.2.2.2.2.2.2.2.2)))) C 10 rfl (inb_in hb) dX7_goes_26 (ll_156 _ _ _ _) ?_
      refine Go_aload_n (pc := 27) C dX7_goes_27 rfl ?_
      refine Go_dup (pc := 28) C dX7_goes_28 rfl ?_
      refine Go_get (pc := 29) C 0 13 rfl rfl inX7 (by decide) mw_642 rfl dX7_goes_29 ?_
      refine Go_iconst (pc := 32) (v := 1) C dX7_goes_32 ci_1 ?_
      refine Go_iadd (pc := 33) C dX7_goes_33 ?_
      refine Go_put (pc := 34) (ws1 := (w7 K a ((q3.2.1, q3.2.2.1, q3.2.2.2.1, q3.2.2.2.2.1, q3.2.2.2.2.2.1, q3.2.2.2.2.2.2.1, q3.2.2.2.2.2.2.2.1, q3.2.2.2.2.2.2.2.2.1, q3.2.2.2.2.2.2.2.2.2.1, q3.2.2.2.2.2.2.2.2.2.2.1, q3.2.2.2.2.2.2.2.2.2.2.2.1, q3.2.2.2.2.2.2.2.2.2.2.2.2.1, q3.2.2.2.2.2.2.2.2.2.2.2.2.2.1, q3.2.2.2.2.2.2.2.2.2.2.2.2.2.2.1 + (1 : Int32), upd q3.2.2.2.2.2.2.2.2.2.2.2.2.2.2.2.1 q3.2.2.2.2.2.2.2.2.2.2.2.2.2.2.1.toNatClampNeg q3.1, q3.2.2.2.2.2.2.2.2.2.2.2.2.2.2.2.2)))) C 0 13 tyX7 tyX7_ok nmX7 rfl rfl inX7 (by decide) mw_642 rfl rfl (Nat.le_of_ble_eq_true rfl) dX7_goes_34 (ll_148 _ _ _ _) ?_
      refine Go_aload_n (pc := 37) C dX7_goes_37 rfl ?_
      refine Go_dup (pc := 38) C dX7_goes_38 rfl ?_
      refine Go_get (pc := 39) C 0 5 rfl rfl inX7 (by decide) mw_634 rfl dX7_goes_39 ?_
      refine Go_iload_n (pc := 42) C dX7_goes_42 rfl ?_
      refine Go_iconst (pc := 43) (v := -1) C dX7_goes_43 ci_m1 ?_
      refine Go_ixor (pc := 44) C dX7_goes_44 ?_
      refine Go_iand (pc := 45) C dX7_goes_45 ?_
      refine Go_put (pc := 46) (ws1 := (w7 K a ((q3.2.1, q3.2.2.1, q3.2.2.2.1, q3.2.2.2.2.1, q3.2.2.2.2.2.1, q3.2.2.2.2.2.2.1 &&& (q3.1 ^^^ (-1 : Int32)), q3.2.2.2.2.2.2.2.1, q3.2.2.2.2.2.2.2.2.1, q3.2.2.2.2.2.2.2.2.2.1, q3.2.2.2.2.2.2.2.2.2.2.1, q3.2.2.2.2.2.2.2.2.2.2.2.1, q3.2.2.2.2.2.2.2.2.2.2.2.2.1, q3.2.2.2.2.2.2.2.2.2.2.2.2.2.1, q3.2.2.2.2.2.2.2.2.2.2.2.2.2.2.1 + (1 : Int32), upd q3.2.2.2.2.2.2.2.2.2.2.2.2.2.2.2.1 q3.2.2.2.2.2.2.2.2.2.2.2.2.2.2.1.toNatClampNeg q3.1, q3.2.2.2.2.2.2.2.2.2.2.2.2.2.2.2.2)))) C 0 5 tyX7 tyX7_ok nmX7 rfl rfl inX7 (by decide) mw_634 rfl rfl (Nat.le_of_ble_eq_true rfl) dX7_goes_46 (ll_143 _ _ _ _) ?_
      refine Go_aload_n (pc := 49) C dX7_goes_49 rfl ?_
      refine Go_aload_n (pc := 50) C dX7_goes_50 rfl ?_
      refine Go_get (pc := 51) C 0 5 rfl rfl inX7 (by decide) mw_634 rfl dX7_goes_51 ?_
      obtain ⟨r4, hr4, hf⟩ := bnd hf
      refine Go_callV1 (pc := 54) (ws1 := (w7 K a r4.2)) C 0 (0 :: 1 :: 2 :: 3 :: 4 :: 5 :: 6 :: 7 :: 8 :: 9 :: 10 :: 11 :: 12 :: 13 :: []) (kX7_tooMuch l K (pk a (0 :: 1 :: 2 :: 3 :: 4 :: 5 :: 6 :: 7 :: 8 :: 9 :: 10 :: 11 :: 12 :: 13 :: [])) ((q3.2.1, q3.2.2.1, q3.2.2.2.1, q3.2.2.2.2.1, q3.2.2.2.2.2.1, q3.2.2.2.2.2.2.1 &&& (q3.1 ^^^ (-1 : Int32)), q3.2.2.2.2.2.2.2.1, q3.2.2.2.2.2.2.2.2.1, q3.2.2.2.2.2.2.2.2.2.1, q3.2.2.2.2.2.2.2.2.2.2.1, q3.2.2.2.2.2.2.2.2.2.2.2.1, q3.2.2.2.2.2.2.2.2.2.2.2.2.1, q3.2.2.2.2.2.2.2.2.2.2.2.2.2.1, q3.2.2.2.2.2.2.2.2.2.2.2.2.2.2.1 + (1 : Int32), upd q3.2.2.2.2.2.2.2.2.2.2.2.2.2.2.2.1 q3.2.2.2.2.2.2.2.2.2.2.2.2.2.2.1.toNatClampNeg q3.1, q3.2.2.2.2.2.2.2.2.2.2.2.2.2.2.2.2)) (q3.2.2.2.2.2.2.1 &&& (q3.1 ^^^ (-1 : Int32))) r4 hr4) ycX7_tooMuch mw_835 (Nat.le_of_ble_eq_true rfl) rfl rfl rfl rfl (Nat.le_of_ble_eq_true rfl) ⟨Nat.zero_le _, Nat.zero_le _⟩ dX7_goes_54 (ll_149 _ _ _) rfl rfl (ll_150 _ _ _ _) ?_
      refine Go_istore_n (pc := 57) C dX7_goes_57 (by decide) ?_
      refine Go_goto (pc := 58) (tgt := 13) C dX7_goes_58 (by decide) ?_
      obtain rfl := Option.some.inj hf
      exact Go_mask [true, true] hk
  · show Go _ _ _ _ _ _ _ _ _ _ _ _ _ _ _ _ _ _ _ _ _
    obtain rfl := Option.some.inj hf
    exact Go_vret C hr rfl dX7_goes_61
def fX7_runs (s0 : S7) : Option (Int32 × S7) := Option.bind (fX7_leavesState s0) (fun r1 => Option.bind (fX7_ones r1.2.2.2.2.2.1) (fun r2 => Option.bind (fX7_goes r1) (fun r3 => Option.bind (fX7_ones r3.2.2.2.2.2.1) (fun r4 => some (r2 - r4, r3)))))
theorem ycX7_runs : CalV yX7_runs cX7_runs 2 ((some .int)) 0 := ⟨mw_862, mw_69, mw_860, mw_861, ⟨by decide, by decide, by decide +kernel⟩, by decide⟩
set_option maxHeartbeats 4000000 in
set_option maxRecDepth 100000 in
theorem kX7_runs (l : Launch) (K : KK) (a : Nat → Nat) (s0 : S7) (res : Int32 × S7) (hf : fX7_runs s0 = some res) : Ct l K yX7_runs cX7_runs 2 ((some .int)) 5 [.ref (a 0)] (w7 K a s0) (some (.int res.1)) (w7 K a res.2) := by
  refine Ct_of2 (by decide) rfl (Nat.le_of_ble_eq_true rfl) ?_
  intro p e σ m args below meth c C hr
  unfold fX7_runs at hf
  refine Go_aload_n (pc := 0) C dX7_runs_0 rfl ?_
  obtain ⟨r1, hr1, hf⟩ := bnd hf
  refine Go_callV0 (pc := 1) (ws1 := (w7 K a r1)) C 0 (0 :: 1 :: 2 :: 3 :: 4 :: 5 :: 6 :: 7 :: 8 :: 9 :: 10 :: 11 :: 12 :: 13 :: []) (kX7_leavesState l K (pk a (0 :: 1 :: 2 :: 3 :: 4 :: 5 :: 6 :: 7 :: 8 :: 9 :: 10 :: 11 :: 12 :: 13 :: [])) s0 r1 hr1) ycX7_leavesState mw_737 (Nat.le_of_ble_eq_true rfl) rfl rfl rfl rfl (Nat.le_of_ble_eq_true rfl) ⟨Nat.zero_le _, Nat.zero_le _⟩ dX7_runs_1 (ll_149 _ _ _) rfl rfl (ll_150 _ _ _ _) ?_
  refine Go_aload_n (pc := 4) C dX7_runs_4 rfl ?_
  refine Go_get (pc := 5) C 0 5 rfl rfl inX7 (by decide) mw_634 rfl dX7_runs_5 ?_
  obtain ⟨r2, hr2, hf⟩ := bnd hf
  refine Go_callS1 (pc := 8) (ws1 := (w7 K a r1)) C [] (kX7_ones l K r1.2.2.2.2.2.1 r2 hr2) ycX7_ones mw_781 (Nat.le_of_ble_eq_true rfl) rfl rfl (Nat.le_of_ble_eq_true rfl) ⟨Nat.zero_le _, Nat.zero_le _⟩ dX7_runs_8 rfl rfl rfl (Wr_same rfl) ?_
  refine Go_istore_n (pc := 11) C dX7_runs_11 (by decide) ?_
  refine Go_aload_n (pc := 12) C dX7_runs_12 rfl ?_
  obtain ⟨r3, hr3, hf⟩ := bnd hf
  refine Go_callV0 (pc := 13) (ws1 := (w7 K a r3)) C 0 (0 :: 1 :: 2 :: 3 :: 4 :: 5 :: 6 :: 7 :: 8 :: 9 :: 10 :: 11 :: 12 :: 13 :: []) (kX7_goes l K (pk a (0 :: 1 :: 2 :: 3 :: 4 :: 5 :: 6 :: 7 :: 8 :: 9 :: 10 :: 11 :: 12 :: 13 :: [])) r1 r3 hr3) ycX7_goes mw_863 (Nat.le_of_ble_eq_true rfl) rfl rfl rfl rfl (Nat.le_of_ble_eq_true rfl) ⟨Nat.zero_le _, Nat.zero_le _⟩ dX7_runs_13 (ll_149 _ _ _) rfl rfl (ll_150 _ _ _ _) ?_
  refine Go_iload_n (pc := 16) C dX7_runs_16 rfl ?_
  refine Go_aload_n (pc := 17) C dX7_runs_17 rfl ?_
  refine Go_get (pc := 18) C 0 5 rfl rfl inX7 (by decide) mw_634 rfl dX7_runs_18 ?_
  obtain ⟨r4, hr4, hf⟩ := bnd hf
  refine Go_callS1 (pc := 21) (ws1 := (w7 K a r3)) C [] (kX7_ones l K r3.2.2.2.2.2.1 r4 hr4) ycX7_ones mw_781 (Nat.le_of_ble_eq_true rfl) rfl rfl (Nat.le_of_ble_eq_true rfl) ⟨Nat.zero_le _, Nat.zero_le _⟩ dX7_runs_21 rfl rfl rfl (Wr_same rfl) ?_
  refine Go_isub (pc := 24) C dX7_runs_24 ?_
  obtain rfl := Option.some.inj hf
  exact Go_iret C hr rfl dX7_runs_25
def fX7_loses (s0 : S7) (p1 : Int32) : Option (Int32 × S7) := Option.bind (fX7_isPillar s0 p1) (fun r1 => (if r1 = 0 then Option.bind (fX7_bad s0) (fun r2 => some (r2.1, r2.2)) else Option.bind (fX7_stands s0 p1) (fun r3 => (if r3 = 0 then Option.bind (fX7_no s0) (fun r4 => some (r4.1, r4.2)) else Option.bind (fX7_leavesState s0) (fun r5 => Option.bind (fX7_ones r5.2.2.2.2.2.1) (fun r6 => Option.bind (fX7_goes ((r5.1, r5.2.1, r5.2.2.1, r5.2.2.2.1, r5.2.2.2.2.1, r5.2.2.2.2.2.1 &&& (((1 : Int32) <<< (p1 &&& 31)) ^^^ (-1 : Int32)), r5.2.2.2.2.2.2))) (fun r7 => Option.bind (fX7_ones r7.2.2.2.2.2.1) (fun r8 => some (r6 - r8, r7)))))))))
theorem ycX7_loses : CalV yX7_loses cX7_loses 3 ((some .int)) 1 := ⟨mw_870, mw_69, mw_868, mw_869, ⟨by decide, by decide, by decide +kernel⟩, by decide⟩
set_option maxHeartbeats 4000000 in
set_option maxRecDepth 100000 in
theorem kX7_loses (l : Launch) (K : KK) (a : Nat → Nat) (s0 : S7) (p1 : Int32) (res : Int32 × S7) (hf : fX7_loses s0 p1 = some res) : Ct l K yX7_loses cX7_loses 3 ((some .int)) 5 [.ref (a 0), .int p1] (w7 K a s0) (some (.int res.1)) (w7 K a res.2) := by
  refine Ct_of2 (by decide) rfl (Nat.le_of_ble_eq_true rfl) ?_
  intro p e σ m args below meth c C hr
  unfold fX7_loses at hf
  refine Go_aload_n (pc := 0) C dX7_loses_0 rfl ?_
  refine Go_iload_n (pc := 1) C dX7_loses_1 rfl ?_
  obtain ⟨r1, hr1, hf⟩ := bnd hf
  refine Go_callV1 (pc := 2) (ws1 := (w7 K a s0)) C 0 (0 :: 1 :: 2 :: 3 :: 4 :: 5 :: 6 :: 7 :: 8 :: 9 :: 10 :: 11 :: 12 :: 13 :: []) (kX7_isPillar l K (pk a (0 :: 1 :: 2 :: 3 :: 4 :: 5 :: 6 :: 7 :: 8 :: 9 :: 10 :: 11 :: 12 :: 13 :: [])) s0 p1 r1 hr1) ycX7_isPillar mw_766 (Nat.le_of_ble_eq_true rfl) rfl rfl rfl rfl (Nat.le_of_ble_eq_true rfl) ⟨Nat.zero_le _, Nat.zero_le _⟩ dX7_loses_2 (ll_149 _ _ _) rfl rfl (Wr_same (ll_149 _ _ _)) ?_
  refine Go_if_ne (pc := 5) (tgt := 13) C dX7_loses_5 (by decide) (fun hc => ?_) (fun hc => ?_)
  · replace hf := ift hc hf
    refine Go_aload_n (pc := 8) C dX7_loses_8 rfl ?_
    obtain ⟨r2, hr2, hf⟩ := bnd hf
    refine Go_callV1 (pc := 9) (ws1 := (w7 K a r2.2)) C 0 (0 :: 1 :: 2 :: 3 :: 4 :: 5 :: 6 :: 7 :: 8 :: 9 :: 10 :: 11 :: 12 :: 13 :: []) (kX7_bad l K (pk a (0 :: 1 :: 2 :: 3 :: 4 :: 5 :: 6 :: 7 :: 8 :: 9 :: 10 :: 11 :: 12 :: 13 :: [])) s0 r2 hr2) ycX7_bad mw_725 (Nat.le_of_ble_eq_true rfl) rfl rfl rfl rfl (Nat.le_of_ble_eq_true rfl) ⟨Nat.zero_le _, Nat.zero_le _⟩ dX7_loses_9 (ll_149 _ _ _) rfl rfl (ll_150 _ _ _ _) ?_
    obtain rfl := Option.some.inj hf
    exact Go_iret C hr rfl dX7_loses_12
  · replace hf := iff' hc hf
    refine Go_aload_n (pc := 13) C dX7_loses_13 rfl ?_
    refine Go_iload_n (pc := 14) C dX7_loses_14 rfl ?_
    obtain ⟨r3, hr3, hf⟩ := bnd hf
    refine Go_callV1 (pc := 15) (ws1 := (w7 K a s0)) C 0 (0 :: 1 :: 2 :: 3 :: 4 :: 5 :: 6 :: 7 :: 8 :: 9 :: 10 :: 11 :: 12 :: 13 :: []) (kX7_stands l K (pk a (0 :: 1 :: 2 :: 3 :: 4 :: 5 :: 6 :: 7 :: 8 :: 9 :: 10 :: 11 :: 12 :: 13 :: [])) s0 p1 r3 hr3) ycX7_stands mw_819 (Nat.le_of_ble_eq_true rfl) rfl rfl rfl rfl (Nat.le_of_ble_eq_true rfl) ⟨Nat.zero_le _, Nat.zero_le _⟩ dX7_loses_15 (ll_149 _ _ _) rfl rfl (Wr_same (ll_149 _ _ _)) ?_
    refine Go_if_ne (pc := 18) (tgt := 26) C dX7_loses_18 (by decide) (fun hc => ?_) (fun hc => ?_)
    · replace hf := ift hc hf
      refine Go_aload_n (pc := 21) C dX7_loses_21 rfl ?_
      obtain ⟨r4, hr4, hf⟩ := bnd hf
      refine Go_callV1 (pc := 22) (ws1 := (w7 K a r4.2)) C 0 (0 :: 1 :: 2 :: 3 :: 4 :: 5 :: 6 :: 7 :: 8 :: 9 :: 10 :: 11 :: 12 :: 13 :: []) (kX7_no l K (pk a (0 :: 1 :: 2 :: 3 :: 4 :: 5 :: 6 :: 7 :: 8 :: 9 :: 10 :: 11 :: 12 :: 13 :: [])) s0 r4 hr4) ycX7_no mw_703 (Nat.le_of_ble_eq_true rfl) rfl rfl rfl rfl (Nat.le_of_ble_eq_true rfl) ⟨Nat.zero_le _, Nat.zero_le _⟩ dX7_loses_22 (ll_149 _ _ _) rfl rfl (ll_150 _ _ _ _) ?_
      obtain rfl := Option.some.inj hf
      exact Go_iret C hr rfl dX7_loses_25
    · replace hf := iff' hc hf
      refine Go_aload_n (pc := 26) C dX7_loses_26 rfl ?_
      obtain ⟨r5, hr5, hf⟩ := bnd hf
      refine Go_callV0 (pc := 27) (ws1 := (w7 K a r5)) C 0 (0 :: 1 :: 2 :: 3 :: 4 :: 5 :: 6 :: 7 :: 8 :: 9 :: 10 :: 11 :: 12 :: 13 :: []) (kX7_leavesState l K (pk a (0 :: 1 :: 2 :: 3 :: 4 :: 5 :: 6 :: 7 :: 8 :: 9 :: 10 :: 11 :: 12 :: 13 :: [])) s0 r5 hr5) ycX7_leavesState mw_737 (Nat.le_of_ble_eq_true rfl) rfl rfl rfl rfl (Nat.le_of_ble_eq_true rfl) ⟨Nat.zero_le _, Nat.zero_le _⟩ dX7_loses_27 (ll_149 _ _ _) rfl rfl (ll_150 _ _ _ _) ?_
      refine Go_aload_n (pc := 30) C dX7_loses_30 rfl ?_
      refine Go_get (pc := 31) C 0 5 rfl rfl inX7 (by decide) mw_634 rfl dX7_loses_31 ?_
      obtain ⟨r6, hr6, hf⟩ := bnd hf
      refine Go_callS1 (pc := 34) (ws1 := (w7 K a r5)) C [] (kX7_ones l K r5.2.2.2.2.2.1 r6 hr6) ycX7_ones mw_781 (Nat.le_of_ble_eq_true rfl) rfl rfl (Nat.le_of_ble_eq_true rfl) ⟨Nat.zero_le _, Nat.zero_le _⟩ dX7_loses_34 rfl rfl rfl (Wr_same rfl) ?_
      refine Go_istore_n (pc := 37) C dX7_loses_37 (by decide) ?_
      refine Go_aload_n (pc := 38) C dX7_loses_38 rfl ?_
      refine Go_dup (pc := 39) C dX7_loses_39 rfl ?_
      refine Go_get (pc := 40) C 0 5 rfl rfl inX7 (by decide) mw_634 rfl dX7_loses_40 ?_
      refine Go_iconst (pc := 43) (v := 1) C dX7_loses_43 ci_1 ?_
      refine Go_iload_n (pc := 44) C dX7_loses_44 rfl ?_
      refine Go_ishl (pc := 45) C dX7_loses_45 ?_
      refine Go_iconst (pc := 46) (v := -1) C dX7_loses_46 ci_m1 ?_
      refine Go_ixor (pc := 47) C dX7_loses_47 ?_
      refine Go_iand (pc := 48) C dX7_loses_48 ?_
      refine Go_put (pc := 49) (ws1 := (w7 K a ((r5.1, r5.2.1, r5.2.2.1, r5.2.2.2.1, r5.2.2.2.2.1, r5.2.2.2.2.2.1 &&& (((1 : Int32) <<< (p1 &&& 31)) ^^^ (-1 : Int32)), r5.2.2.2.2.2.2)))) C 0 5 tyX7 tyX7_ok nmX7 rfl rfl inX7 (by decide) mw_634 rfl rfl (Nat.le_of_ble_eq_true rfl) dX7_loses_49 (ll_143 _ _ _ _) ?_
      refine Go_aload_n (pc := 52) C dX7_loses_52 rfl ?_
      obtain ⟨r7, hr7, hf⟩ := bnd hf
      refine Go_callV0 (pc := 53) (ws1 := (w7 K a r7)) C 0 (0 :: 1 :: 2 :: 3 :: 4 :: 5 :: 6 :: 7 :: 8 :: 9 :: 10 :: 11 :: 12 :: 13 :: []) (kX7_goes l K (pk a (0 :: 1 :: 2 :: 3 :: 4 :: 5 :: 6 :: 7 :: 8 :: 9 :: 10 :: 11 :: 12 :: 13 :: [])) ((r5.1, r5.2.1, r5.2.2.1, r5.2.2.2.1, r5.2.2.2.2.1, r5.2.2.2.2.2.1 &&& (((1 : Int32) <<< (p1 &&& 31)) ^^^ (-1 : Int32)), r5.2.2.2.2.2.2)) r7 hr7) ycX7_goes mw_863 (Nat.le_of_ble_eq_true rfl) rfl rfl rfl rfl (Nat.le_of_ble_eq_true rfl) ⟨Nat.zero_le _, Nat.zero_le _⟩ dX7_loses_53 (ll_149 _ _ _) rfl rfl (ll_150 _ _ _ _) ?_
      refine Go_iload_n (pc := 56) C dX7_loses_56 rfl ?_
      refine Go_aload_n (pc := 57) C dX7_loses_57 rfl ?_
      refine Go_get (pc := 58) C 0 5 rfl rfl inX7 (by decide) mw_634 rfl dX7_loses_58 ?_
      obtain ⟨r8, hr8, hf⟩ := bnd hf
      refine Go_callS1 (pc := 61) (ws1 := (w7 K a r7)) C [] (kX7_ones l K r7.2.2.2.2.2.1 r8 hr8) ycX7_ones mw_781 (Nat.le_of_ble_eq_true rfl) rfl rfl (Nat.le_of_ble_eq_true rfl) ⟨Nat.zero_le _, Nat.zero_le _⟩ dX7_loses_61 rfl rfl rfl (Wr_same rfl) ?_
      refine Go_isub (pc := 64) C dX7_loses_64 ?_
      obtain rfl := Option.some.inj hf
      exact Go_iret C hr rfl dX7_loses_65
def fX7_waveOf_L2 (s0 : S7) (p1 : Int32) (q1 : Int32) : Option ((Int32) ⊕ ((Int32) ⊕ (Int32))) := (if s0.2.2.2.2.2.2.2.2.2.2.2.2.2.1 ≤ q1 then some (.inr (.inl q1)) else (if 0 ≤ q1 ∧ q1.toNatClampNeg < 13 then (if (((s0.2.2.2.2.2.2.2.2.2.2.2.2.2.2.1 q1.toNatClampNeg) >>> (p1 &&& 31)) &&& (1 : Int32)) = (1 : Int32) then some (.inr (.inr (q1 + (1 : Int32)))) else Option.bind (some (q1 + (1 : Int32))) (fun v2 => some (.inl v2))) else none))
def fX7_waveOf (s0 : S7) (p1 : Int32) : Option (Int32) := Option.bind (loopF (fX7_waveOf_L2 s0 p1) 5000 (0 : Int32)) (fun z3 => Sum.elim (fun z3e => some (-1 : Int32)) (fun r => some r) z3)
theorem ycX7_waveOf : CalV yX7_waveOf cX7_waveOf 3 ((some .int)) 1 := ⟨mw_878, mw_69, mw_877, mw_42, ⟨by decide, by decide, by decide +kernel⟩, by decide⟩
set_option maxHeartbeats 4000000 in
set_option maxRecDepth 100000 in
theorem kX7_waveOf (l : Launch) (K : KK) (a : Nat → Nat) (s0 : S7) (p1 : Int32) (res : Int32) (hf : fX7_waveOf s0 p1 = some res) : Ct l K yX7_waveOf cX7_waveOf 3 ((some .int)) 0 [.ref (a 0), .int p1] (w7 K a s0) (some (.int res)) (w7 K a s0) := by
  refine Ct_of2 (by decide) rfl (Nat.le_of_ble_eq_true rfl) ?_
  intro p e σ m args below meth c C hr
  unfold fX7_waveOf at hf
  refine Go_iconst (pc := 0) (v := 0) C dX7_waveOf_0 ci_0 ?_
  refine Go_istore_n (pc := 1) C dX7_waveOf_1 (by decide) ?_
  obtain ⟨z3, hz3, hf⟩ := bnd hf
  refine Go_mask [true, true, true] ?_
  refine loopF_go (step := (fX7_waveOf_L2 s0 p1)) (fun q1 => Go p l e (rmc 0 0 0) σ m args below meth c K (inW (w7 K a s0)) σ.heap 3 0 0 (MQ below (CtQ K (w7 K a s0) (some (.int res)) (w7 K a s0)) args σ 0 0 (inW (w7 K a s0))) (w7 K a s0) 2 [some (.ref (a 0)), some (.int p1), some (.int q1)] []) (fun y => Sum.elim (fun z3e => Go p l e (rmc 0 0 0) σ m args below meth c K (inW (w7 K a s0)) σ.heap 3 0 0 (MQ below (CtQ K (w7 K a s0) (some (.int res)) (w7 K a s0)) args σ 0 0 (inW (w7 K a s0))) (w7 K a s0) 34 [some (.ref (a 0)), some (.int p1), some (.int z3e)] []) (fun r => r = res) y) ?_ _ _ _ hz3 ?_
  · intro q1 x hf hk
    unfold fX7_waveOf_L2 at hf
    refine Go_iload_n (pc := 2) C dX7_waveOf_2 rfl ?_
    refine Go_aload_n (pc := 3) C dX7_waveOf_3 rfl ?_
    refine Go_get (pc := 4) C 0 13 rfl rfl inX7 (by decide) mw_642 rfl dX7_waveOf_4 ?_
    refine Go_icmp_ge (pc := 7) (tgt := 34) C dX7_waveOf_7 (by decide) (fun hc => ?_) (fun hc => ?_)
    · replace hf := ift hc hf
      obtain rfl := Option.some.inj hf
      exact Go_mask [true, true, true] hk
    · replace hf := iff' hc hf
      refine Go_aload_n (pc := 10) C dX7_waveOf_10 rfl ?_
      refine Go_get (pc := 11) C 0 14 rfl rfl inX7 (by decide) mw_643 rfl dX7_waveOf_11 ?_
      refine Go_iload_n (pc := 14) C dX7_waveOf_14 rfl ?_
      obtain ⟨hb, hf⟩ := ifs hf
      refine Go_iald (pc := 15) C 10 rfl (inb_in hb) dX7_waveOf_15 ?_
      refine Go_iload_n (pc := 16) C dX7_waveOf_16 rfl ?_
      refine Go_ishr (pc := 17) C dX7_waveOf_17 ?_
      refine Go_iconst (pc := 18) (v := 1) C dX7_waveOf_18 ci_1 ?_
      refine Go_iand (pc := 19) C dX7_waveOf_19 ?_
      refine Go_iconst (pc := 20) (v := 1) C dX7_waveOf_20 ci_1 ?_
      refine Go_icmp_ne (pc := 21) (tgt := 28) C dX7_waveOf_21 (by decide) (fun hc => ?_) (fun hc => ?_)
      · replace hf := ift hc hf
        refine Go_iload_n (pc := 24) C dX7_waveOf_24 rfl ?_
        refine Go_iconst (pc := 25) (v := 1) C dX7_waveOf_25 ci_1 ?_
        refine Go_iadd (pc := 26) C dX7_waveOf_26 ?_
        obtain rfl := Option.some.inj hf
        have hf := hk
        obtain rfl : (q1 + (1 : Int32)) = res := hf
        exact Go_iret C hr rfl dX7_waveOf_27
      · replace hf := iff' hc hf
        obtain ⟨v2, hv2, hf⟩ := bnd hf
        refine Go_iinc (pc := 28) (v := v2) C dX7_waveOf_28 rfl (by rw [ci_1]; exact Option.some.inj hv2) ?_
        refine Go_goto (pc := 31) (tgt := 2) C dX7_waveOf_31 (by decide) ?_
        obtain rfl := Option.some.inj hf
        exact Go_mask [true, true, true] hk
  · rcases z3 with z3e | r
    · show Go _ _ _ _ _ _ _ _ _ _ _ _ _ _ _ _ _ _ _ _ _
      refine Go_iconst (pc := 34) (v := -1) C dX7_waveOf_34 ci_m1 ?_
      obtain rfl := Option.some.inj hf
      exact Go_iret C hr rfl dX7_waveOf_35
    · exact Option.some.inj hf
def fX7_wave (s0 : S7) (p1 : Int32) (p2 : Int32) : Option (Int32 × S7) := Option.bind (fX7_in p1 (0 : Int32) (2 : Int32)) (fun r1 => (if r1 = 0 then Option.bind (fX7_bad s0) (fun r2 => some (r2.1, r2.2)) else (if p1 = (1 : Int32) then Option.bind (fX7_isPillar s0 p2) (fun r3 => (if r3 = 0 then Option.bind (fX7_bad s0) (fun r4 => some (r4.1, r4.2)) else (if p1 = (2 : Int32) then (if (1 : Int32) ≤ p2 then (if p1 = 0 then some (s0.2.2.2.2.2.2.2.2.2.2.2.2.2.1, s0) else (if p1 = (1 : Int32) then Option.bind (fX7_waveOf s0 p2) (fun r5 => some (r5, s0)) else (if p2 ≤ s0.2.2.2.2.2.2.2.2.2.2.2.2.2.1 then (if 0 ≤ (p2 - (1 : Int32)) ∧ (p2 - (1 : Int32)).toNatClampNeg < 13 then Option.bind (fX7_ones (s0.2.2.2.2.2.2.2.2.2.2.2.2.2.2.1 (p2 - (1 : Int32)).toNatClampNeg)) (fun r6 => some (r6, s0)) else none) else some ((0 : Int32), s0)))) else Option.bind (fX7_bad s0) (fun r7 => some (r7.1, r7.2))) else (if p1 = 0 then some (s0.2.2.2.2.2.2.2.2.2.2.2.2.2.1, s0) else (if p1 = (1 : Int32) then Option.bind (fX7_waveOf s0 p2) (fun r8 => some (r8, s0)) else (if p2 ≤ s0.2.2.2.2.2.2.2.2.2.2.2.2.2.1 then (if 0 ≤ (p2 - (1 : Int32)) ∧ (p2 - (1 : Int32)).toNatClampNeg < 13 then Option.bind (fX7_ones (s0.2.2.2.2.2.2.2.2.2.2.2.2.2.2.1 (p2 - (1 : Int32)).toNatClampNeg)) (fun r9 => some (r9, s0)) else none) else some ((0 : Int32), s0))))))) else (if p1 = (2 : Int32) then (if (1 : Int32) ≤ p2 then (if p1 = 0 then some (s0.2.2.2.2.2.2.2.2.2.2.2.2.2.1, s0) else (if p1 = (1 : Int32) then Option.bind (fX7_waveOf s0 p2) (fun r10 => some (r10, s0)) else (if p2 ≤ s0.2.2.2.2.2.2.2.2.2.2.2.2.2.1 then (if 0 ≤ (p2 - (1 : Int32)) ∧ (p2 - (1 : Int32)).toNatClampNeg < 13 then Option.bind (fX7_ones (s0.2.2.2.2.2.2.2.2.2.2.2.2.2.2.1 (p2 - (1 : Int32)).toNatClampNeg)) (fun r11 => some (r11, s0)) else none) else some ((0 : Int32), s0)))) else Option.bind (fX7_bad s0) (fun r12 => some (r12.1, r12.2))) else (if p1 = 0 then some (s0.2.2.2.2.2.2.2.2.2.2.2.2.2.1, s0) else (if p1 = (1 : Int32) then Option.bind (fX7_waveOf s0 p2) (fun r13 => some (r13, s0)) else (if p2 ≤ s0.2.2.2.2.2.2.2.2.2.2.2.2.2.1 then (if 0 ≤ (p2 - (1 : Int32)) ∧ (p2 - (1 : Int32)).toNatClampNeg < 13 then Option.bind (fX7_ones (s0.2.2.2.2.2.2.2.2.2.2.2.2.2.2.1 (p2 - (1 : Int32)).toNatClampNeg)) (fun r14 => some (r14, s0)) else none) else some ((0 : Int32), s0))))))))
theorem ycX7_wave : CalV yX7_wave cX7_wave 3 ((some .int)) 2 := ⟨mw_874, mw_69, mw_872, mw_873, ⟨by decide, by decide, by decide +kernel⟩, by decide⟩
set_option maxHeartbeats 4000000 in
set_option maxRecDepth 100000 in
theorem kX7_wave (l : Launch) (K : KK) (a : Nat → Nat) (s0 : S7) (p1 : Int32) (p2 : Int32) (res : Int32 × S7) (hf : fX7_wave s0 p1 p2 = some res) : Ct l K yX7_wave cX7_wave 3 ((some .int)) 2 [.ref (a 0), .int p1, .int p2] (w7 K a s0) (some (.int res.1)) (w7 K a res.2) := by
  refine Ct_of2 (by decide) rfl (Nat.le_of_ble_eq_true rfl) ?_
  intro p e σ m args below meth c C hr
  unfold fX7_wave at hf
  refine Go_iload_n (pc := 0) C dX7_wave_0 rfl ?_
  refine Go_iconst (pc := 1) (v := 0) C dX7_wave_1 ci_0 ?_
  refine Go_iconst (pc := 2) (v := 2) C dX7_wave_2 ci_2 ?_
  obtain ⟨r1, hr1, hf⟩ := bnd hf
  refine Go_callS1 (pc := 3) (ws1 := (w7 K a s0)) C [] (kX7_in l K p1 (0 : Int32) (2 : Int32) r1 hr1) ycX7_in mw_722 (Nat.le_of_ble_eq_true rfl) rfl rfl (Nat.le_of_ble_eq_true rfl) ⟨Nat.zero_le _, Nat.zero_le _⟩ dX7_wave_3 rfl rfl rfl (Wr_same rfl) ?_
  refine Go_if_eq (pc := 6) (tgt := 32) C dX7_wave_6 (by decide) (fun hc => ?_) (fun hc => ?_)
  · replace hf := ift hc hf
    refine Go_aload_n (pc := 32) C dX7_wave_32 rfl ?_
    obtain ⟨r2, hr2, hf⟩ := bnd hf
    refine Go_callV1 (pc := 33) (ws1 := (w7 K a r2.2)) C 0 (0 :: 1 :: 2 :: 3 :: 4 :: 5 :: 6 :: 7 :: 8 :: 9 :: 10 :: 11 :: 12 :: 13 :: []) (kX7_bad l K (pk a (0 :: 1 :: 2 :: 3 :: 4 :: 5 :: 6 :: 7 :: 8 :: 9 :: 10 :: 11 :: 12 :: 13 :: [])) s0 r2 hr2) ycX7_bad mw_725 (Nat.le_of_ble_eq_true rfl) rfl rfl rfl rfl (Nat.le_of_ble_eq_true rfl) ⟨Nat.zero_le _, Nat.zero_le _⟩ dX7_wave_33 (ll_149 _ _ _) rfl rfl (ll_150 _ _ _ _) ?_
    obtain rfl := Option.some.inj hf
    exact Go_iret C hr rfl dX7_wave_36
  · replace hf := iff' hc hf
    refine Go_iload_n (pc := 9) C dX7_wave_9 rfl ?_
    refine Go_iconst (pc := 10) (v := 1) C dX7_wave_10 ci_1 ?_
    refine Go_icmp_ne (pc := 11) (tgt := 22) C dX7_wave_11 (by decide) (fun hc => ?_) (fun hc => ?_)
    · replace hf := ift hc hf
      refine Go_aload_n (pc := 14) C dX7_wave_14 rfl ?_
      refine Go_iload_n (pc := 15) C dX7_wave_15 rfl ?_
      obtain ⟨r3, hr3, hf⟩ := bnd hf
      refine Go_callV1 (pc := 16) (ws1 := (w7 K a s0)) C 0 (0 :: 1 :: 2 :: 3 :: 4 :: 5 :: 6 :: 7 :: 8 :: 9 :: 10 :: 11 :: 12 :: 13 :: []) (kX7_isPillar l K (pk a (0 :: 1 :: 2 :: 3 :: 4 :: 5 :: 6 :: 7 :: 8 :: 9 :: 10 :: 11 :: 12 :: 13 :: [])) s0 p2 r3 hr3) ycX7_isPillar mw_766 (Nat.le_of_ble_eq_true rfl) rfl rfl rfl rfl (Nat.le_of_ble_eq_true rfl) ⟨Nat.zero_le _, Nat.zero_le _⟩ dX7_wave_16 (ll_149 _ _ _) rfl rfl (Wr_same (ll_149 _ _ _)) ?_
      refine Go_if_eq (pc := 19) (tgt := 32) C dX7_wave_19 (by decide) (fun hc => ?_) (fun hc => ?_)
      · replace hf := ift hc hf
        refine Go_aload_n (pc := 32) C dX7_wave_32 rfl ?_
        obtain ⟨r4, hr4, hf⟩ := bnd hf
        refine Go_callV1 (pc := 33) (ws1 := (w7 K a r4.2)) C 0 (0 :: 1 :: 2 :: 3 :: 4 :: 5 :: 6 :: 7 :: 8 :: 9 :: 10 :: 11 :: 12 :: 13 :: []) (kX7_bad l K (pk a (0 :: 1 :: 2 :: 3 :: 4 :: 5 :: 6 :: 7 :: 8 :: 9 :: 10 :: 11 :: 12 :: 13 :: [])) s0 r4 hr4) ycX7_bad mw_725 (Nat.le_of_ble_eq_true rfl) rfl rfl rfl rfl (Nat.le_of_ble_eq_true rfl) ⟨Nat.zero_le _, Nat.zero_le _⟩ dX7_wave_33 (ll_149 _ _ _) rfl rfl (ll_150 _ _ _ _) ?_
        obtain rfl := Option.some.inj hf
        exact Go_iret C hr rfl dX7_wave_36
      · replace hf := iff' hc hf
        refine Go_iload_n (pc := 22) C dX7_wave_22 rfl ?_
        refine Go_iconst (pc := 23) (v := 2) C dX7_wave_23 ci_2 ?_
        refine Go_icmp_ne (pc := 24) (tgt := 37) C dX7_wave_24 (by decide) (fun hc => ?_) (fun hc => ?_)
        · replace hf := ift hc hf
          refine Go_iload_n (pc := 27) C dX7_wave_27 rfl ?_
          refine Go_iconst (pc := 28) (v := 1) C dX7_wave_28 ci_1 ?_
          refine Go_icmp_ge (pc := 29) (tgt := 37) C dX7_wave_29 (by decide) (fun hc => ?_) (fun hc => ?_)
          · replace hf := ift hc hf
            refine Go_iload_n (pc := 37) C dX7_wave_37 rfl ?_
            refine Go_if_ne (pc := 38) (tgt := 46) C dX7_wave_38 (by decide) (fun hc => ?_) (fun hc => ?_)
            · replace hf := ift hc hf
              refine Go_aload_n (pc := 41) C dX7_wave_41 rfl ?_
              refine Go_get (pc := 42) C 0 13 rfl rfl inX7 (by decide) mw_642 rfl dX7_wave_42 ?_
              obtain rfl := Option.some.inj hf
              exact Go_iret C hr rfl dX7_wave_45
            · replace hf := iff' hc hf
              refine Go_iload_n (pc := 46) C dX7_wave_46 rfl ?_
              refine Go_iconst (pc := 47) (v := 1) C dX7_wave_47 ci_1 ?_
              refine Go_icmp_ne (pc := 48) (tgt := 59) C dX7_wave_48 (by decide) (fun hc => ?_) (fun hc => ?_)
              · replace hf := ift hc hf
                refine Go_aload_n (pc := 51) C dX7_wave_51 rfl ?_
                refine Go_iload_n (pc := 52) C dX7_wave_52 rfl ?_
                obtain ⟨r5, hr5, hf⟩ := bnd hf
                refine Go_callV1 (pc := 53) (ws1 := (w7 K a s0)) C 0 (0 :: 1 :: 2 :: 3 :: 4 :: 5 :: 6 :: 7 :: 8 :: 9 :: 10 :: 11 :: 12 :: 13 :: []) (kX7_waveOf l K (pk a (0 :: 1 :: 2 :: 3 :: 4 :: 5 :: 6 :: 7 :: 8 :: 9 :: 10 :: 11 :: 12 :: 13 :: [])) s0 p2 r5 hr5) ycX7_waveOf mw_875 (Nat.le_of_ble_eq_true rfl) rfl rfl rfl rfl (Nat.le_of_ble_eq_true rfl) ⟨Nat.zero_le _, Nat.zero_le _⟩ dX7_wave_53 (ll_149 _ _ _) rfl rfl (Wr_same (ll_149 _ _ _)) ?_
                refine Go_goto (pc := 56) (tgt := 82) C dX7_wave_56 (by decide) ?_
                obtain rfl := Option.some.inj hf
                exact Go_iret C hr rfl dX7_wave_82
              · replace hf := iff' hc hf
                refine Go_iload_n (pc := 59) C dX7_wave_59 rfl ?_
                refine Go_aload_n (pc := 60) C dX7_wave_60 rfl ?_
                refine Go_get (pc := 61) C 0 13 rfl rfl inX7 (by decide) mw_642 rfl dX7_wave_61 ?_
                refine Go_icmp_le (pc := 64) (tgt := 71) C dX7_wave_64 (by decide) (fun hc => ?_) (fun hc => ?_)
                · replace hf := ift hc hf
                  refine Go_aload_n (pc := 71) C dX7_wave_71 rfl ?_
                  refine Go_get (pc := 72) C 0 14 rfl rfl inX7 (by decide) mw_643 rfl dX7_wave_72 ?_
                  refine Go_iload_n (pc := 75) C dX7_wave_75 rfl ?_
                  refine Go_iconst (pc := 76) (v := 1) C dX7_wave_76 ci_1 ?_
                  refine Go_isub (pc := 77) C dX7_wave_77 ?_
                  obtain ⟨hb, hf⟩ := ifs hf
                  refine Go_iald (pc := 78) C 10 rfl (inb_in hb) dX7_wave_78 ?_
                  obtain ⟨r6, hr6, hf⟩ := bnd hf
                  refine Go_callS1 (pc := 79) (ws1 := (w7 K a s0)) C [] (kX7_ones l K (s0.2.2.2.2.2.2.2.2.2.2.2.2.2.2.1 (p2 - (1 : Int32)).toNatClampNeg) r6 hr6) ycX7_ones mw_781 (Nat.le_of_ble_eq_true rfl) rfl rfl (Nat.le_of_ble_eq_true rfl) ⟨Nat.zero_le _, Nat.zero_le _⟩ dX7_wave_79 rfl rfl rfl (Wr_same rfl) ?_
                  obtain rfl := Option.some.inj hf
                  exact Go_iret C hr rfl dX7_wave_82
                · replace hf := iff' hc hf
                  refine Go_iconst (pc := 67) (v := 0) C dX7_wave_67 ci_0 ?_
                  refine Go_goto (pc := 68) (tgt := 82) C dX7_wave_68 (by decide) ?_
                  obtain rfl := Option.some.inj hf
                  exact Go_iret C hr rfl dX7_wave_82
          · replace hf := iff' hc hf
            refine Go_aload_n (pc := 32) C dX7_wave_32 rfl ?_
            obtain ⟨r7, hr7, hf⟩ := bnd hf
            refine Go_callV1 (pc := 33) (ws1 := (w7 K a r7.2)) C 0 (0 :: 1 :: 2 :: 3 :: 4 :: 5 :: 6 :: 7 :: 8 :: 9 :: 10 :: 11 :: 12 :: 13 :: []) (kX7_bad l K (pk a (0 :: 1 :: 2 :: 3 :: 4 :: 5 :: 6 :: 7 :: 8 :: 9 :: 10 :: 11 :: 12 :: 13 :: [])) s0 r7 hr7) ycX7_bad mw_725 (Nat.le_of_ble_eq_true rfl) rfl rfl rfl rfl (Nat.le_of_ble_eq_true rfl) ⟨Nat.zero_le _, Nat.zero_le _⟩ dX7_wave_33 (ll_149 _ _ _) rfl rfl (ll_150 _ _ _ _) ?_
            obtain rfl := Option.some.inj hf
            exact Go_iret C hr rfl dX7_wave_36
        · replace hf := iff' hc hf
          refine Go_iload_n (pc := 37) C dX7_wave_37 rfl ?_
          refine Go_if_ne (pc := 38) (tgt := 46) C dX7_wave_38 (by decide) (fun hc => ?_) (fun hc => ?_)
          · replace hf := ift hc hf
            refine Go_aload_n (pc := 41) C dX7_wave_41 rfl ?_
            refine Go_get (pc := 42) C 0 13 rfl rfl inX7 (by decide) mw_642 rfl dX7_wave_42 ?_
            obtain rfl := Option.some.inj hf
            exact Go_iret C hr rfl dX7_wave_45
          · replace hf := iff' hc hf
            refine Go_iload_n (pc := 46) C dX7_wave_46 rfl ?_
            refine Go_iconst (pc := 47) (v := 1) C dX7_wave_47 ci_1 ?_
            refine Go_icmp_ne (pc := 48) (tgt := 59) C dX7_wave_48 (by decide) (fun hc => ?_) (fun hc => ?_)
            · replace hf := ift hc hf
              refine Go_aload_n (pc := 51) C dX7_wave_51 rfl ?_
              refine Go_iload_n (pc := 52) C dX7_wave_52 rfl ?_
              obtain ⟨r8, hr8, hf⟩ := bnd hf
              refine Go_callV1 (pc := 53) (ws1 := (w7 K a s0)) C 0 (0 :: 1 :: 2 :: 3 :: 4 :: 5 :: 6 :: 7 :: 8 :: 9 :: 10 :: 11 :: 12 :: 13 :: []) (kX7_waveOf l K (pk a (0 :: 1 :: 2 :: 3 :: 4 :: 5 :: 6 :: 7 :: 8 :: 9 :: 10 :: 11 :: 12 :: 13 :: [])) s0 p2 r8 hr8) ycX7_waveOf mw_875 (Nat.le_of_ble_eq_true rfl) rfl rfl rfl rfl (Nat.le_of_ble_eq_true rfl) ⟨Nat.zero_le _, Nat.zero_le _⟩ dX7_wave_53 (ll_149 _ _ _) rfl rfl (Wr_same (ll_149 _ _ _)) ?_
              refine Go_goto (pc := 56) (tgt := 82) C dX7_wave_56 (by decide) ?_
              obtain rfl := Option.some.inj hf
              exact Go_iret C hr rfl dX7_wave_82
            · replace hf := iff' hc hf
              refine Go_iload_n (pc := 59) C dX7_wave_59 rfl ?_
              refine Go_aload_n (pc := 60) C dX7_wave_60 rfl ?_
              refine Go_get (pc := 61) C 0 13 rfl rfl inX7 (by decide) mw_642 rfl dX7_wave_61 ?_
              refine Go_icmp_le (pc := 64) (tgt := 71) C dX7_wave_64 (by decide) (fun hc => ?_) (fun hc => ?_)
              · replace hf := ift hc hf
                refine Go_aload_n (pc := 71) C dX7_wave_71 rfl ?_
                refine Go_get (pc := 72) C 0 14 rfl rfl inX7 (by decide) mw_643 rfl dX7_wave_72 ?_
                refine Go_iload_n (pc := 75) C dX7_wave_75 rfl ?_
                refine Go_iconst (pc := 76) (v := 1) C dX7_wave_76 ci_1 ?_
                refine Go_isub (pc := 77) C dX7_wave_77 ?_
                obtain ⟨hb, hf⟩ := ifs hf
                refine Go_iald (pc := 78) C 10 rfl (inb_in hb) dX7_wave_78 ?_
                obtain ⟨r9, hr9, hf⟩ := bnd hf
                refine Go_callS1 (pc := 79) (ws1 := (w7 K a s0)) C [] (kX7_ones l K (s0.2.2.2.2.2.2.2.2.2.2.2.2.2.2.1 (p2 - (1 : Int32)).toNatClampNeg) r9 hr9) ycX7_ones mw_781 (Nat.le_of_ble_eq_true rfl) rfl rfl (Nat.le_of_ble_eq_true rfl) ⟨Nat.zero_le _, Nat.zero_le _⟩ dX7_wave_79 rfl rfl rfl (Wr_same rfl) ?_
                obtain rfl := Option.some.inj hf
                exact Go_iret C hr rfl dX7_wave_82
              · replace hf := iff' hc hf
                refine Go_iconst (pc := 67) (v := 0) C dX7_wave_67 ci_0 ?_
                refine Go_goto (pc := 68) (tgt := 82) C dX7_wave_68 (by decide) ?_
                obtain rfl := Option.some.inj hf
                exact Go_iret C hr rfl dX7_wave_82
    · replace hf := iff' hc hf
      refine Go_iload_n (pc := 22) C dX7_wave_22 rfl ?_
      refine Go_iconst (pc := 23) (v := 2) C dX7_wave_23 ci_2 ?_
      refine Go_icmp_ne (pc := 24) (tgt := 37) C dX7_wave_24 (by decide) (fun hc => ?_) (fun hc => ?_)
      · replace hf := ift hc hf
        refine Go_iload_n (pc := 27) C dX7_wave_27 rfl ?_
        refine Go_iconst (pc := 28) (v := 1) C dX7_wave_28 ci_1 ?_
        refine Go_icmp_ge (pc := 29) (tgt := 37) C dX7_wave_29 (by decide) (fun hc => ?_) (fun hc => ?_)
        · replace hf := ift hc hf
          refine Go_iload_n (pc := 37) C dX7_wave_37 rfl ?_
          refine Go_if_ne (pc := 38) (tgt := 46) C dX7_wave_38 (by decide) (fun hc => ?_) (fun hc => ?_)
          · replace hf := ift hc hf
            refine Go_aload_n (pc := 41) C dX7_wave_41 rfl ?_
            refine Go_get (pc := 42) C 0 13 rfl rfl inX7 (by decide) mw_642 rfl dX7_wave_42 ?_
            obtain rfl := Option.some.inj hf
            exact Go_iret C hr rfl dX7_wave_45
          · replace hf := iff' hc hf
            refine Go_iload_n (pc := 46) C dX7_wave_46 rfl ?_
            refine Go_iconst (pc := 47) (v := 1) C dX7_wave_47 ci_1 ?_
            refine Go_icmp_ne (pc := 48) (tgt := 59) C dX7_wave_48 (by decide) (fun hc => ?_) (fun hc => ?_)
            · replace hf := ift hc hf
              refine Go_aload_n (pc := 51) C dX7_wave_51 rfl ?_
              refine Go_iload_n (pc := 52) C dX7_wave_52 rfl ?_
              obtain ⟨r10, hr10, hf⟩ := bnd hf
              refine Go_callV1 (pc := 53) (ws1 := (w7 K a s0)) C 0 (0 :: 1 :: 2 :: 3 :: 4 :: 5 :: 6 :: 7 :: 8 :: 9 :: 10 :: 11 :: 12 :: 13 :: []) (kX7_waveOf l K (pk a (0 :: 1 :: 2 :: 3 :: 4 :: 5 :: 6 :: 7 :: 8 :: 9 :: 10 :: 11 :: 12 :: 13 :: [])) s0 p2 r10 hr10) ycX7_waveOf mw_875 (Nat.le_of_ble_eq_true rfl) rfl rfl rfl rfl (Nat.le_of_ble_eq_true rfl) ⟨Nat.zero_le _, Nat.zero_le _⟩ dX7_wave_53 (ll_149 _ _ _) rfl rfl (Wr_same (ll_149 _ _ _)) ?_
              refine Go_goto (pc := 56) (tgt := 82) C dX7_wave_56 (by decide) ?_
              obtain rfl := Option.some.inj hf
              exact Go_iret C hr rfl dX7_wave_82
            · replace hf := iff' hc hf
              refine Go_iload_n (pc := 59) C dX7_wave_59 rfl ?_
              refine Go_aload_n (pc := 60) C dX7_wave_60 rfl ?_
              refine Go_get (pc := 61) C 0 13 rfl rfl inX7 (by decide) mw_642 rfl dX7_wave_61 ?_
              refine Go_icmp_le (pc := 64) (tgt := 71) C dX7_wave_64 (by decide) (fun hc => ?_) (fun hc => ?_)
              · replace hf := ift hc hf
                refine Go_aload_n (pc := 71) C dX7_wave_71 rfl ?_
                refine Go_get (pc := 72) C 0 14 rfl rfl inX7 (by decide) mw_643 rfl dX7_wave_72 ?_
                refine Go_iload_n (pc := 75) C dX7_wave_75 rfl ?_
                refine Go_iconst (pc := 76) (v := 1) C dX7_wave_76 ci_1 ?_
                refine Go_isub (pc := 77) C dX7_wave_77 ?_
                obtain ⟨hb, hf⟩ := ifs hf
                refine Go_iald (pc := 78) C 10 rfl (inb_in hb) dX7_wave_78 ?_
                obtain ⟨r11, hr11, hf⟩ := bnd hf
                refine Go_callS1 (pc := 79) (ws1 := (w7 K a s0)) C [] (kX7_ones l K (s0.2.2.2.2.2.2.2.2.2.2.2.2.2.2.1 (p2 - (1 : Int32)).toNatClampNeg) r11 hr11) ycX7_ones mw_781 (Nat.le_of_ble_eq_true rfl) rfl rfl (Nat.le_of_ble_eq_true rfl) ⟨Nat.zero_le _, Nat.zero_le _⟩ dX7_wave_79 rfl rfl rfl (Wr_same rfl) ?_
                obtain rfl := Option.some.inj hf
                exact Go_iret C hr rfl dX7_wave_82
              · replace hf := iff' hc hf
                refine Go_iconst (pc := 67) (v := 0) C dX7_wave_67 ci_0 ?_
                refine Go_goto (pc := 68) (tgt := 82) C dX7_wave_68 (by decide) ?_
                obtain rfl := Option.some.inj hf
                exact Go_iret C hr rfl dX7_wave_82
        · replace hf := iff' hc hf
          refine Go_aload_n (pc := 32) C dX7_wave_32 rfl ?_
          obtain ⟨r12, hr12, hf⟩ := bnd hf
          refine Go_callV1 (pc := 33) (ws1 := (w7 K a r12.2)) C 0 (0 :: 1 :: 2 :: 3 :: 4 :: 5 :: 6 :: 7 :: 8 :: 9 :: 10 :: 11 :: 12 :: 13 :: []) (kX7_bad l K (pk a (0 :: 1 :: 2 :: 3 :: 4 :: 5 :: 6 :: 7 :: 8 :: 9 :: 10 :: 11 :: 12 :: 13 :: [])) s0 r12 hr12) ycX7_bad mw_725 (Nat.le_of_ble_eq_true rfl) rfl rfl rfl rfl (Nat.le_of_ble_eq_true rfl) ⟨Nat.zero_le _, Nat.zero_le _⟩ dX7_wave_33 (ll_149 _ _ _) rfl rfl (ll_150 _ _ _ _) ?_
          obtain rfl := Option.some.inj hf
          exact Go_iret C hr rfl dX7_wave_36
      · replace hf := iff' hc hf
        refine Go_iload_n (pc := 37) C dX7_wave_37 rfl ?_
        refine Go_if_ne (pc := 38) (tgt := 46) C dX7_wave_38 (by decide) (fun hc => ?_) (fun hc => ?_)
        · replace hf := ift hc hf
          refine Go_aload_n (pc := 41) C dX7_wave_41 rfl ?_
          refine Go_get (pc := 42) C 0 13 rfl rfl inX7 (by decide) mw_642 rfl dX7_wave_42 ?_
          obtain rfl := Option.some.inj hf
          exact Go_iret C hr rfl dX7_wave_45
        · replace hf := iff' hc hf
          refine Go_iload_n (pc := 46) C dX7_wave_46 rfl ?_
          refine Go_iconst (pc := 47) (v := 1) C dX7_wave_47 ci_1 ?_
          refine Go_icmp_ne (pc := 48) (tgt := 59) C dX7_wave_48 (by decide) (fun hc => ?_) (fun hc => ?_)
          · replace hf := ift hc hf
            refine Go_aload_n (pc := 51) C dX7_wave_51 rfl ?_
            refine Go_iload_n (pc := 52) C dX7_wave_52 rfl ?_
            obtain ⟨r13, hr13, hf⟩ := bnd hf
            refine Go_callV1 (pc := 53) (ws1 := (w7 K a s0)) C 0 (0 :: 1 :: 2 :: 3 :: 4 :: 5 :: 6 :: 7 :: 8 :: 9 :: 10 :: 11 :: 12 :: 13 :: []) (kX7_waveOf l K (pk a (0 :: 1 :: 2 :: 3 :: 4 :: 5 :: 6 :: 7 :: 8 :: 9 :: 10 :: 11 :: 12 :: 13 :: [])) s0 p2 r13 hr13) ycX7_waveOf mw_875 (Nat.le_of_ble_eq_true rfl) rfl rfl rfl rfl (Nat.le_of_ble_eq_true rfl) ⟨Nat.zero_le _, Nat.zero_le _⟩ dX7_wave_53 (ll_149 _ _ _) rfl rfl (Wr_same (ll_149 _ _ _)) ?_
            refine Go_goto (pc := 56) (tgt := 82) C dX7_wave_56 (by decide) ?_
            obtain rfl := Option.some.inj hf
            exact Go_iret C hr rfl dX7_wave_82
          · replace hf := iff' hc hf
            refine Go_iload_n (pc := 59) C dX7_wave_59 rfl ?_
            refine Go_aload_n (pc := 60) C dX7_wave_60 rfl ?_
            refine Go_get (pc := 61) C 0 13 rfl rfl inX7 (by decide) mw_642 rfl dX7_wave_61 ?_
            refine Go_icmp_le (pc := 64) (tgt := 71) C dX7_wave_64 (by decide) (fun hc => ?_) (fun hc => ?_)
            · replace hf := ift hc hf
              refine Go_aload_n (pc := 71) C dX7_wave_71 rfl ?_
              refine Go_get (pc := 72) C 0 14 rfl rfl inX7 (by decide) mw_643 rfl dX7_wave_72 ?_
              refine Go_iload_n (pc := 75) C dX7_wave_75 rfl ?_
              refine Go_iconst (pc := 76) (v := 1) C dX7_wave_76 ci_1 ?_
              refine Go_isub (pc := 77) C dX7_wave_77 ?_
              obtain ⟨hb, hf⟩ := ifs hf
              refine Go_iald (pc := 78) C 10 rfl (inb_in hb) dX7_wave_78 ?_
              obtain ⟨r14, hr14, hf⟩ := bnd hf
              refine Go_callS1 (pc := 79) (ws1 := (w7 K a s0)) C [] (kX7_ones l K (s0.2.2.2.2.2.2.2.2.2.2.2.2.2.2.1 (p2 - (1 : Int32)).toNatClampNeg) r14 hr14) ycX7_ones mw_781 (Nat.le_of_ble_eq_true rfl) rfl rfl (Nat.le_of_ble_eq_true rfl) ⟨Nat.zero_le _, Nat.zero_le _⟩ dX7_wave_79 rfl rfl rfl (Wr_same rfl) ?_
              obtain rfl := Option.some.inj hf
              exact Go_iret C hr rfl dX7_wave_82
            · replace hf := iff' hc hf
              refine Go_iconst (pc := 67) (v := 0) C dX7_wave_67 ci_0 ?_
              refine Go_goto (pc := 68) (tgt := 82) C dX7_wave_68 (by decide) ?_
              obtain rfl := Option.some.inj hf
              exact Go_iret C hr rfl dX7_wave_82
