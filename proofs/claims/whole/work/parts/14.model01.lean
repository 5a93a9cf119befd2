def fX7_isPillar (s0 : S7) (p1 : Int32) : Option (Int32) := Option.bind (fX7_in p1 (0 : Int32) (s0.2.2.1 - (1 : Int32))) (fun r1 => (if r1 = 0 ∨ r1 = 1 then some r1 else none))
theorem ycX7_isPillar : CalV yX7_isPillar cX7_isPillar 2 ((some .boolean)) 1 := ⟨mw_769, mw_69, mw_768, mw_27, ⟨by decide, by decide, by decide +kernel⟩, by decide⟩
set_option maxHeartbeats 4000000 in
set_option maxRecDepth 100000 in
theorem kX7_isPillar (l : Launch) (K : KK) (a : Nat → Nat) (s0 : S7) (p1 : Int32) (res : Int32) (hf : fX7_isPillar s0 p1 = some res) : Ct l K yX7_isPillar cX7_isPillar 2 ((some .boolean)) 1 [.ref (a 0), .int p1] (w7 K a s0) (some (.int res)) (w7 K a s0) := by
  refine Ct_of2 (by decide) rfl (Nat.le_of_ble_eq_true rfl) ?_
  intro p e σ m args below meth c C hr
  unfold fX7_isPillar at hf
  refine Go_iload_n (pc := 0) C dX7_isPillar_0 rfl ?_
  refine Go_iconst (pc := 1) (v := 0) C dX7_isPillar_1 ci_0 ?_
  refine Go_aload_n (pc := 2) C dX7_isPillar_2 rfl ?_
  refine Go_get (pc := 3) C 0 2 rfl rfl inX7 (by decide) mw_631 rfl dX7_isPillar_3 ?_
  refine Go_iconst (pc := 6) (v := 1) C dX7_isPillar_6 ci_1 ?_
  refine Go_isub (pc := 7) C dX7_isPillar_7 ?_
  obtain ⟨r1, hr1, hf⟩ := bnd hf
  refine Go_callS1 (pc := 8) (ws1 := (w7 K a s0)) C [] (kX7_in l K p1 (0 : Int32) (s0.2.2.1 - (1 : Int32)) r1 hr1) ycX7_in mw_722 (Nat.le_of_ble_eq_true rfl) rfl rfl (Nat.le_of_ble_eq_true rfl) ⟨Nat.zero_le _, Nat.zero_le _⟩ dX7_isPillar_8 rfl rfl rfl (Wr_same rfl) ?_
  obtain ⟨hz, hf⟩ := ifs hf
  obtain rfl := Option.some.inj hf
  exact Go_zret C hr hz rfl dX7_isPillar_11
def fX7_strength (s0 : S7) (p1 : Int32) (p2 : Int32) : Option (Int32 × S7) := Option.bind (fX7_isPillar s0 p1) (fun r1 => (if r1 = 0 then Option.bind (fX7_bad s0) (fun r2 => some (r2.1, r2.2)) else Option.bind (fX7_in p2 (0 : Int32) (999 : Int32)) (fun r3 => (if r3 = 0 then Option.bind (fX7_bad s0) (fun r4 => some (r4.1, r4.2)) else Option.bind (fX7_leavesState s0) (fun r5 => (if 0 ≤ p1 ∧ p1.toNatClampNeg < 13 then Option.bind (some (r5.2.2.2.2.1 p1.toNatClampNeg)) (fun v6 => (if 0 ≤ p1 ∧ p1.toNatClampNeg < 13 then some (v6, (r5.1, r5.2.1, r5.2.2.1, r5.2.2.2.1, upd r5.2.2.2.2.1 p1.toNatClampNeg p2, r5.2.2.2.2.2)) else none)) else none))))))
theorem ycX7_strength : CalV yX7_strength cX7_strength 4 ((some .int)) 2 := ⟨mw_765, mw_69, mw_763, mw_764, ⟨by decide, by decide, by decide +kernel⟩, by decide⟩
set_option maxHeartbeats 4000000 in
set_option maxRecDepth 100000 in
theorem kX7_strength (l : Launch) (K : KK) (a : Nat → Nat) (s0 : S7) (p1 : Int32) (p2 : Int32) (res : Int32 × S7) (hf : fX7_strength s0 p1 p2 = some res) : Ct l K yX7_strength cX7_strength 4 ((some .int)) 2 [.ref (a 0), .int p1, .int p2] (w7 K a s0) (some (.int res.1)) (w7 K a res.2) := by
  refine Ct_of2 (by decide) rfl (Nat.le_of_ble_eq_true rfl) ?_
  intro p e σ m args below meth c C hr
  unfold fX7_strength at hf
  refine Go_aload_n (pc := 0) C dX7_strength_0 rfl ?_
  refine Go_iload_n (pc := 1) C dX7_strength_1 rfl ?_
  obtain ⟨r1, hr1, hf⟩ := bnd hf
  refine Go_callV1 (pc := 2) (ws1 := (w7 K a s0)) C 0 (0 :: 1 :: 2 :: 3 :: 4 :: 5 :: 6 :: 7 :: 8 :: 9 :: 10 :: 11 :: 12 :: 13 :: []) (kX7_isPillar l K (pk a (0 :: 1 :: 2 :: 3 :: 4 :: 5 :: 6 :: 7 :: 8 :: 9 :: 10 :: 11 :: 12 :: 13 :: [])) s0 p1 r1 hr1) ycX7_isPillar mw_766 (Nat.le_of_ble_eq_true rfl) rfl rfl rfl rfl (Nat.le_of_ble_eq_true rfl) ⟨Nat.zero_le _, Nat.zero_le _⟩ dX7_strength_2 (ll_149 _ _ _) rfl rfl (Wr_same (ll_149 _ _ _)) ?_
  refine Go_if_eq (pc := 5) (tgt := 19) C dX7_strength_5 (by decide) (fun hc => ?_) (fun hc => ?_)
  · replace hf := ift hc hf
    refine Go_aload_n (pc := 19) C dX7_strength_19 rfl ?_
    obtain ⟨r2, hr2, hf⟩ := bnd hf
    refine Go_callV1 (pc := 20) (ws1 := (w7 K a r2.2)) C 0 (0 :: 1 :: 2 :: 3 :: 4 :: 5 :: 6 :: 7 :: 8 :: 9 :: 10 :: 11 :: 12 :: 13 :: []) (kX7_bad l K (pk a (0 :: 1 :: 2 :: 3 :: 4 :: 5 :: 6 :: 7 :: 8 :: 9 :: 10 :: 11 :: 12 :: 13 :: [])) s0 r2 hr2) ycX7_bad mw_725 (Nat.le_of_ble_eq_true rfl) rfl rfl rfl rfl (Nat.le_of_ble_eq_true rfl) ⟨Nat.zero_le _, Nat.zero_le _⟩ dX7_strength_20 (ll_149 _ _ _) rfl rfl (ll_150 _ _ _ _) ?_
    obtain rfl := Option.some.inj hf
    exact Go_iret C hr rfl dX7_strength_23
  · replace hf := iff' hc hf
    refine Go_iload_n (pc := 8) C dX7_strength_8 rfl ?_
    refine Go_iconst (pc := 9) (v := 0) C dX7_strength_9 ci_0 ?_
    refine Go_sipush (pc := 10) (v := 999) C dX7_strength_10 cs_999 ?_
    obtain ⟨r3, hr3, hf⟩ := bnd hf
    refine Go_callS1 (pc := 13) (ws1 := (w7 K a s0)) C [] (kX7_in l K p2 (0 : Int32) (999 : Int32) r3 hr3) ycX7_in mw_722 (Nat.le_of_ble_eq_true rfl) rfl rfl (Nat.le_of_ble_eq_true rfl) ⟨Nat.zero_le _, Nat.zero_le _⟩ dX7_strength_13 rfl rfl rfl (Wr_same rfl) ?_
    refine Go_if_ne (pc := 16) (tgt := 24) C dX7_strength_16 (by decide) (fun hc => ?_) (fun hc => ?_)
    · replace hf := ift hc hf
      refine Go_aload_n (pc := 19) C dX7_strength_19 rfl ?_
      obtain ⟨r4, hr4, hf⟩ := bnd hf
      refine Go_callV1 (pc := 20) (ws1 := (w7 K a r4.2)) C 0 (0 :: 1 :: 2 :: 3 :: 4 :: 5 :: 6 :: 7 :: 8 :: 9 :: 10 :: 11 :: 12 :: 13 :: []) (kX7_bad l K (pk a (0 :: 1 :: 2 :: 3 :: 4 :: 5 :: 6 :: 7 :: 8 :: 9 :: 10 :: 11 :: 12 :: 13 :: [])) s0 r4 hr4) ycX7_bad mw_725 (Nat.le_of_ble_eq_true rfl) rfl rfl rfl rfl (Nat.le_of_ble_eq_true rfl) ⟨Nat.zero_le _, Nat.zero_le _⟩ dX7_strength_20 (ll_149 _ _ _) rfl rfl (ll_150 _ _ _ _) ?_
      obtain rfl := Option.some.inj hf
      exact Go_iret C hr rfl dX7_strength_23
    · replace hf := iff' hc hf
      refine Go_aload_n (pc := 24) C dX7_strength_24 rfl ?_
      obtain ⟨r5, hr5, hf⟩ := bnd hf
      refine Go_callV0 (pc := 25) (ws1 := (w7 K a r5)) C 0 (0 :: 1 :: 2 :: 3 :: 4 :: 5 :: 6 :: 7 :: 8 :: 9 :: 10 :: 11 :: 12 :: 13 :: []) (kX7_leavesState l K (pk a (0 :: 1 :: 2 :: 3 :: 4 :: 5 :: 6 :: 7 :: 8 :: 9 :: 10 :: 11 :: 12 :: 13 :: [])) s0 r5 hr5) ycX7_leavesState mw_737 (Nat.le_of_ble_eq_true rfl) rfl rfl rfl rfl (Nat.le_of_ble_eq_true rfl) ⟨Nat.zero_le _, Nat.zero_le _⟩ dX7_strength_25 (ll_149 _ _ _) rfl rfl (ll_150 _ _ _ _) ?_
      refine Go_aload_n (pc := 28) C dX7_strength_28 rfl ?_
      refine Go_get (pc := 29) C 0 4 rfl rfl inX7 (by decide) mw_633 rfl dX7_strength_29 ?_
      refine Go_iload_n (pc := 32) C dX7_strength_32 rfl ?_
      obtain ⟨hb, hf⟩ := ifs hf
      refine Go_iald (pc := 33) C 4 rfl (inb_in hb) dX7_strength_33 ?_
      obtain ⟨v6, hv6, hf⟩ := bnd hf
      refine Go_topi (Option.some.inj hv6) ?_
      refine Go_istore_n (pc := 34) C dX7_strength_34 (by decide) ?_
      refine Go_aload_n (pc := 35) C dX7_strength_35 rfl ?_
      refine Go_get (pc := 36) C 0 4 rfl rfl inX7 (by decide) mw_633 rfl dX7_strength_36 ?_
      refine Go_iload_n (pc := 39) C dX7_strength_39 rfl ?_
      refine Go_iload_n (pc := 40) C dX7_strength_40 rfl ?_
      obtain ⟨hb, hf⟩ := ifs hf
      refine Go_iast (pc := 41) (ws1 := (w7 K a ((r5.1, r5.2.1, r5.2.2.1, r5.2.2.2.1, upd r5.2.2.2.2.1 p1.toNatClampNeg p2, r5.2.2.2.2.2)))) C 4 rfl (inb_in hb) dX7_strength_41 (ll_146 _ _ _ _) ?_
      refine Go_iload_n (pc := 42) C dX7_strength_42 rfl ?_
      obtain rfl := Option.some.inj hf
      exact Go_iret C hr rfl dX7_strength_43
def fX7_isWall (p0 : Int32) (p1 : Int32) : Option (Int32) := (if p0 = 0 then Option.bind (fX7_in p1 (0 : Int32) (6 : Int32)) (fun r1 => (if r1 = 0 then (if p0 = (1 : Int32) then Option.bind (fX7_in p1 (0 : Int32) (10 : Int32)) (fun r2 => (if r2 = 0 then some (0 : Int32) else some (1 : Int32))) else some (0 : Int32)) else some (1 : Int32))) else (if p0 = (1 : Int32) then Option.bind (fX7_in p1 (0 : Int32) (10 : Int32)) (fun r3 => (if r3 = 0 then some (0 : Int32) else some (1 : Int32))) else some (0 : Int32)))
theorem ycX7_isWall : CalS yX7_isWall cX7_isWall 2 ((some .boolean)) 2 := ⟨mw_776, mw_69, mw_775, ⟨by decide, by decide, by decide +kernel⟩, by decide⟩
set_option maxHeartbeats 4000000 in
set_option maxRecDepth 100000 in
theorem kX7_isWall (l : Launch) (K : KK) (p0 : Int32) (p1 : Int32) (res : Int32) (hf : fX7_isWall p0 p1 = some res) : Ct l K yX7_isWall cX7_isWall 2 ((some .boolean)) 1 [.int p0, .int p1] ([] : va_W) (some (.int res)) ([] : va_W) := by
  refine Ct_of2 (by decide) rfl (Nat.le_of_ble_eq_true rfl) ?_
  intro p e σ m args below meth c C hr
  unfold fX7_isWall at hf
  refine Go_iload_n (pc := 0) C dX7_isWall_0 rfl ?_
  refine Go_if_ne (pc := 1) (tgt := 14) C dX7_isWall_1 (by decide) (fun hc => ?_) (fun hc => ?_)
  · replace hf := ift hc hf
    refine Go_iload_n (pc := 4) C dX7_isWall_4 rfl ?_
    refine Go_iconst (pc := 5) (v := 0) C dX7_isWall_5 ci_0 ?_
    refine Go_bipush (pc := 6) (v := 6) C dX7_isWall_6 cb_6 ?_
    obtain ⟨r1, hr1, hf⟩ := bnd hf
    refine Go_callS1 (pc := 8) (ws1 := ([] : va_W)) C [] (kX7_in l K p1 (0 : Int32) (6 : Int32) r1 hr1) ycX7_in mw_722 (Nat.le_of_ble_eq_true rfl) rfl rfl (Nat.le_of_ble_eq_true rfl) ⟨Nat.zero_le _, Nat.zero_le _⟩ dX7_isWall_8 rfl rfl rfl (Wr_same rfl) ?_
    refine Go_if_ne (pc := 11) (tgt := 29) C dX7_isWall_11 (by decide) (fun hc => ?_) (fun hc => ?_)
    · replace hf := ift hc hf
      refine Go_iload_n (pc := 14) C dX7_isWall_14 rfl ?_
      refine Go_iconst (pc := 15) (v := 1) C dX7_isWall_15 ci_1 ?_
      refine Go_icmp_ne (pc := 16) (tgt := 33) C dX7_isWall_16 (by decide) (fun hc => ?_) (fun hc => ?_)
      · replace hf := ift hc hf
        refine Go_iload_n (pc := 19) C dX7_isWall_19 rfl ?_
        refine Go_iconst (pc := 20) (v := 0) C dX7_isWall_20 ci_0 ?_
        refine Go_bipush (pc := 21) (v := 10) C dX7_isWall_21 cb_10 ?_
        obtain ⟨r2, hr2, hf⟩ := bnd hf
        refine Go_callS1 (pc := 23) (ws1 := ([] : va_W)) C [] (kX7_in l K p1 (0 : Int32) (10 : Int32) r2 hr2) ycX7_in mw_722 (Nat.le_of_ble_eq_true rfl) rfl rfl (Nat.le_of_ble_eq_true rfl) ⟨Nat.zero_le _, Nat.zero_le _⟩ dX7_isWall_23 rfl rfl rfl (Wr_same rfl) ?_
        refine Go_if_eq (pc := 26) (tgt := 33) C dX7_isWall_26 (by decide) (fun hc => ?_) (fun hc => ?_)
        · replace hf := ift hc hf
          refine Go_iconst (pc := 33) (v := 0) C dX7_isWall_33 ci_0 ?_
          obtain rfl := Option.some.inj hf
          exact Go_zret C hr (Or.inl rfl) rfl dX7_isWall_34
        · replace hf := iff' hc hf
          refine Go_iconst (pc := 29) (v := 1) C dX7_isWall_29 ci_1 ?_
          refine Go_goto (pc := 30) (tgt := 34) C dX7_isWall_30 (by decide) ?_
          obtain rfl := Option.some.inj hf
          exact Go_zret C hr (Or.inr rfl) rfl dX7_isWall_34
      · replace hf := iff' hc hf
        refine Go_iconst (pc := 33) (v := 0) C dX7_isWall_33 ci_0 ?_
        obtain rfl := Option.some.inj hf
        exact Go_zret C hr (Or.inl rfl) rfl dX7_isWall_34
    · replace hf := iff' hc hf
      refine Go_iconst (pc := 29) (v := 1) C dX7_isWall_29 ci_1 ?_
      refine Go_goto (pc := 30) (tgt := 34) C dX7_isWall_30 (by decide) ?_
      obtain rfl := Option.some.inj hf
      exact Go_zret C hr (Or.inr rfl) rfl dX7_isWall_34
  · replace hf := iff' hc hf
    refine Go_iload_n (pc := 14) C dX7_isWall_14 rfl ?_
    refine Go_iconst (pc := 15) (v := 1) C dX7_isWall_15 ci_1 ?_
    refine Go_icmp_ne (pc := 16) (tgt := 33) C dX7_isWall_16 (by decide) (fun hc => ?_) (fun hc => ?_)
    · replace hf := ift hc hf
      refine Go_iload_n (pc := 19) C dX7_isWall_19 rfl ?_
      refine Go_iconst (pc := 20) (v := 0) C dX7_isWall_20 ci_0 ?_
      refine Go_bipush (pc := 21) (v := 10) C dX7_isWall_21 cb_10 ?_
      obtain ⟨r3, hr3, hf⟩ := bnd hf
      refine Go_callS1 (pc := 23) (ws1 := ([] : va_W)) C [] (kX7_in l K p1 (0 : Int32) (10 : Int32) r3 hr3) ycX7_in mw_722 (Nat.le_of_ble_eq_true rfl) rfl rfl (Nat.le_of_ble_eq_true rfl) ⟨Nat.zero_le _, Nat.zero_le _⟩ dX7_isWall_23 rfl rfl rfl (Wr_same rfl) ?_
      refine Go_if_eq (pc := 26) (tgt := 33) C dX7_isWall_26 (by decide) (fun hc => ?_) (fun hc => ?_)
      · replace hf := ift hc hf
        refine Go_iconst (pc := 33) (v := 0) C dX7_isWall_33 ci_0 ?_
        obtain rfl := Option.some.inj hf
        exact Go_zret C hr (Or.inl rfl) rfl dX7_isWall_34
      · replace hf := iff' hc hf
        refine Go_iconst (pc := 29) (v := 1) C dX7_isWall_29 ci_1 ?_
        refine Go_goto (pc := 30) (tgt := 34) C dX7_isWall_30 (by decide) ?_
        obtain rfl := Option.some.inj hf
        exact Go_zret C hr (Or.inr rfl) rfl dX7_isWall_34
    · replace hf := iff' hc hf
      refine Go_iconst (pc := 33) (v := 0) C dX7_isWall_33 ci_0 ?_
      obtain rfl := Option.some.inj hf
      exact Go_zret C hr (Or.inl rfl) rfl dX7_isWall_34
def fX7_wall (s0 : S7) (p1 : Int32) (p2 : Int32) (p3 : Int32) : Option (Int32 × S7) := Option.bind (fX7_isWall p1 p2) (fun r1 => (if r1 = 0 then Option.bind (fX7_bad s0) (fun r2 => some (r2.1, r2.2)) else Option.bind (fX7_in p3 (0 : Int32) (1 : Int32)) (fun r3 => (if r3 = 0 then Option.bind (fX7_bad s0) (fun r4 => some (r4.1, r4.2)) else Option.bind (fX7_leavesState s0) (fun r5 => (if p1 = 0 then Option.bind (some ((r5.2.2.2.2.2.2.1 >>> (p2 &&& 31)) &&& (1 : Int32))) (fun v6 => (if p3 = (1 : Int32) then some (v6, (r5.1, r5.2.1, r5.2.2.1, r5.2.2.2.1, r5.2.2.2.2.1, r5.2.2.2.2.2.1, r5.2.2.2.2.2.2.1 ||| ((1 : Int32) <<< (p2 &&& 31)), r5.2.2.2.2.2.2.2)) else some (v6, (r5.1, r5.2.1, r5.2.2.1, r5.2.2.2.1, r5.2.2.2.2.1, r5.2.2.2.2.2.1, r5.2.2.2.2.2.2.1 &&& (((1 : Int32) <<< (p2 &&& 31)) ^^^ (-1 : Int32)), r5.2.2.2.2.2.2.2)))) else Option.bind (some ((10 : Int32) + p2)) (fun v7 => Option.bind (some ((r5.2.2.2.2.2.2.1 >>> (v7 &&& 31)) &&& (1 : Int32))) (fun v8 => (if p3 = (1 : Int32) then some (v8, (r5.1, r5.2.1, r5.2.2.1, r5.2.2.2.1, r5.2.2.2.2.1, r5.2.2.2.2.2.1, r5.2.2.2.2.2.2.1 ||| ((1 : Int32) <<< (v7 &&& 31)), r5.2.2.2.2.2.2.2)) else some (v8, (r5.1, r5.2.1, r5.2.2.1, r5.2.2.2.1, r5.2.2.2.2.1, r5.2.2.2.2.2.1, r5.2.2.2.2.2.2.1 &&& (((1 : Int32) <<< (v7 &&& 31)) ^^^ (-1 : Int32)), r5.2.2.2.2.2.2.2)))))))))))
theorem ycX7_wall : CalV yX7_wall cX7_wall 6 ((some .int)) 3 := ⟨mw_773, mw_69, mw_771, mw_772, ⟨by decide, by decide, by decide +kernel⟩, by decide⟩
set_option maxHeartbeats 4000000 in
set_option maxRecDepth 100000 in
theorem kX7_wall (l : Launch) (K : KK) (a : Nat → Nat) (s0 : S7) (p1 : Int32) (p2 : Int32) (p3 : Int32) (res : Int32 × S7) (hf : fX7_wall s0 p1 p2 p3 = some res) : Ct l K yX7_wall cX7_wall 6 ((some .int)) 2 [.ref (a 0), .int p1, .int p2, .int p3] (w7 K a s0) (some (.int res.1)) (w7 K a res.2) := by
  refine Ct_of2 (by decide) rfl (Nat.le_of_ble_eq_true rfl) ?_
  intro p e σ m args below meth c C hr
  unfold fX7_wall at hf
  refine Go_iload_n (pc := 0) C dX7_wall_0 rfl ?_
  refine Go_iload_n (pc := 1) C dX7_wall_1 rfl ?_
  obtain ⟨r1, hr1, hf⟩ := bnd hf
  refine Go_callS1 (pc := 2) (ws1 := (w7 K a s0)) C [] (kX7_isWall l K p1 p2 r1 hr1) ycX7_isWall mw_774 (Nat.le_of_ble_eq_true rfl) rfl rfl (Nat.le_of_ble_eq_true rfl) ⟨Nat.zero_le _, Nat.zero_le _⟩ dX7_wall_2 rfl rfl rfl (Wr_same rfl) ?_
  refine Go_if_eq (pc := 5) (tgt := 17) C dX7_wall_5 (by decide) (fun hc => ?_) (fun hc => ?_)
  · replace hf := ift hc hf
    refine Go_aload_n (pc := 17) C dX7_wall_17 rfl ?_
    obtain ⟨r2, hr2, hf⟩ := bnd hf
    refine Go_callV1 (pc := 18) (ws1 := (w7 K a r2.2)) C 0 (0 :: 1 :: 2 :: 3 :: 4 :: 5 :: 6 :: 7 :: 8 :: 9 :: 10 :: 11 :: 12 :: 13 :: []) (kX7_bad l K (pk a (0 :: 1 :: 2 :: 3 :: 4 :: 5 :: 6 :: 7 :: 8 :: 9 :: 10 :: 11 :: 12 :: 13 :: [])) s0 r2 hr2) ycX7_bad mw_725 (Nat.le_of_ble_eq_true rfl) rfl rfl rfl rfl (Nat.le_of_ble_eq_true rfl) ⟨Nat.zero_le _, Nat.zero_le _⟩ dX7_wall_18 (ll_149 _ _ _) rfl rfl (ll_150 _ _ _ _) ?_
    obtain rfl := Option.some.inj hf
    exact Go_iret C hr rfl dX7_wall_21
  · replace hf := iff' hc hf
    refine Go_iload_n (pc := 8) C dX7_wall_8 rfl ?_
    refine Go_iconst (pc := 9) (v := 0) C dX7_wall_9 ci_0 ?_
    refine Go_iconst (pc := 10) (v := 1) C dX7_wall_10 ci_1 ?_
    obtain ⟨r3, hr3, hf⟩ := bnd hf
    refine Go_callS1 (pc := 11) (ws1 := (w7 K a s0)) C [] (kX7_in l K p3 (0 : Int32) (1 : Int32) r3 hr3) ycX7_in mw_722 (Nat.le_of_ble_eq_true rfl) rfl rfl (Nat.le_of_ble_eq_true rfl) ⟨Nat.zero_le _, Nat.zero_le _⟩ dX7_wall_11 rfl rfl rfl (Wr_same rfl) ?_
    refine Go_if_ne (pc := 14) (tgt := 22) C dX7_wall_14 (by decide) (fun hc => ?_) (fun hc => ?_)
    · replace hf := ift hc hf
      refine Go_aload_n (pc := 17) C dX7_wall_17 rfl ?_
      obtain ⟨r4, hr4, hf⟩ := bnd hf
      refine Go_callV1 (pc := 18) (ws1 := (w7 K a r4.2)) C 0 (0 :: 1 :: 2 :: 3 :: 4 :: 5 :: 6 :: 7 :: 8 :: 9 :: 10 :: 11 :: 12 :: 13 :: []) (kX7_bad l K (pk a (0 :: 1 :: 2 :: 3 :: 4 :: 5 :: 6 :: 7 :: 8 :: 9 :: 10 :: 11 :: 12 :: 13 :: [])) s0 r4 hr4) ycX7_bad mw_725 (Nat.le_of_ble_eq_true rfl) rfl rfl rfl rfl (Nat.le_of_ble_eq_true rfl) ⟨Nat.zero_le _, Nat.zero_le _⟩ dX7_wall_18 (ll_149 _ _ _) rfl rfl (ll_150 _ _ _ _) ?_
      obtain rfl := Option.some.inj hf
      exact Go_iret C hr rfl dX7_wall_21
    · replace hf := iff' hc hf
      refine Go_aload_n (pc := 22) C dX7_wall_22 rfl ?_
      obtain ⟨r5, hr5, hf⟩ := bnd hf
      refine Go_callV0 (pc := 23) (ws1 := (w7 K a r5)) C 0 (0 :: 1 :: 2 :: 3 :: 4 :: 5 :: 6 :: 7 :: 8 :: 9 :: 10 :: 11 :: 12 :: 13 :: []) (kX7_leavesState l K (pk a (0 :: 1 :: 2 :: 3 :: 4 :: 5 :: 6 :: 7 :: 8 :: 9 :: 10 :: 11 :: 12 :: 13 :: [])) s0 r5 hr5) ycX7_leavesState mw_737 (Nat.le_of_ble_eq_true rfl) rfl rfl rfl rfl (Nat.le_of_ble_eq_true rfl) ⟨Nat.zero_le _, Nat.zero_le _⟩ dX7_wall_23 (ll_149 _ _ _) rfl rfl (ll_150 _ _ _ _) ?_
      refine Go_iload_n (pc := 26) C dX7_wall_26 rfl ?_
      refine Go_if_ne (pc := 27) (tgt := 34) C dX7_wall_27 (by decide) (fun hc => ?_) (fun hc => ?_)
      · replace hf := ift hc hf
        refine Go_iload_n (pc := 30) C dX7_wall_30 rfl ?_
        refine Go_goto (pc := 31) (tgt := 38) C dX7_wall_31 (by decide) ?_
        refine Go_istore (pc := 38) C dX7_wall_38 (by decide) ?_
        refine Go_aload_n (pc := 40) C dX7_wall_40 rfl ?_
        refine Go_get (pc := 41) C 0 6 rfl rfl inX7 (by decide) mw_635 rfl dX7_wall_41 ?_
        refine Go_iload (pc := 44) C dX7_wall_44 rfl ?_
        refine Go_ishr (pc := 46) C dX7_wall_46 ?_
        refine Go_iconst (pc := 47) (v := 1) C dX7_wall_47 ci_1 ?_
        refine Go_iand (pc := 48) C dX7_wall_48 ?_
        obtain ⟨v6, hv6, hf⟩ := bnd hf
        refine Go_topi (Option.some.inj hv6) ?_
        refine Go_istore (pc := 49) C dX7_wall_49 (by decide) ?_
        refine Go_aload_n (pc := 51) C dX7_wall_51 rfl ?_
        refine Go_iload_n (pc := 52) C dX7_wall_52 rfl ?_
        refine Go_iconst (pc := 53) (v := 1) C dX7_wall_53 ci_1 ?_
        refine Go_icmp_ne (pc := 54) (tgt := 69) C dX7_wall_54 (by decide) (fun hc => ?_) (fun hc => ?_)
        · replace hf := ift hc hf
          refine Go_aload_n (pc := 57) C dX7_wall_57 rfl ?_
          refine Go_get (pc := 58) C 0 6 rfl rfl inX7 (by decide) mw_635 rfl dX7_wall_58 ?_
          refine Go_iconst (pc := 61) (v := 1) C dX7_wall_61 ci_1 ?_
          refine Go_iload (pc := 62) C dX7_wall_62 rfl ?_
          refine Go_ishl (pc := 64) C dX7_wall_64 ?_
          refine Go_ior (pc := 65) C dX7_wall_65 ?_
          refine Go_goto (pc := 66) (tgt := 80) C dX7_wall_66 (by decide) ?_
          refine Go_put (pc := 80) (ws1 := (w7 K a ((r5.1, r5.2.1, r5.2.2.1, r5.2.2.2.1, r5.2.2.2.2.1, r5.2.2.2.2.2.1, r5.2.2.2.2.2.2.1 ||| ((1 : Int32) <<< (p2 &&& 31)), r5.2.2.2.2.2.2.2)))) C 0 6 tyX7 tyX7_ok nmX7 rfl rfl inX7 (by decide) mw_635 rfl rfl (Nat.le_of_ble_eq_true rfl) dX7_wall_80 (ll_144 _ _ _ _) ?_
          refine Go_iload (pc := 83) C dX7_wall_83 rfl ?_
          obtain rfl := Option.some.inj hf
          exact Go_iret C hr rfl dX7_wall_85
        · replace hf := iff' hc hf
          refine Go_aload_n (pc := 69) C dX7_wall_69 rfl ?_
          refine Go_get (pc := 70) C 0 6 rfl rfl inX7 (by decide) mw_635 rfl dX7_wall_70 ?_
          refine Go_iconst (pc := 73) (v := 1) C dX7_wall_73 ci_1 ?_
          refine Go_iload (pc := 74) C dX7_wall_74 rfl ?_
          refine Go_ishl (pc := 76) C dX7_wall_76 ?_
          refine Go_iconst (pc := 77) (v := -1) C dX7_wall_77 ci_m1 ?_
          refine Go_ixor (pc := 78) C dX7_wall_78 ?_
          refine Go_iand (pc := 79) C dX7_wall_79 ?_
          refine Go_put (pc := 80) (ws1 := (w7 K a ((r5.1, r5.2.1, r5.2.2.1, r5.2.2.2.1, r5.2.2.2.2.1, r5.2.2.2.2.2.1, r5.2.2.2.2.2.2.1 &&& (((1 : Int32) <<< (p2 &&& 31)) ^^^ (-1 : Int32)), r5.2.2.2.2.2.2.2)))) C 0 6 tyX7 tyX7_ok nmX7 rfl rfl inX7 (by decide) mw_635 rfl rfl (Nat.le_of_ble_eq_true rfl) dX7_wall_80 (ll_144 _ _ _ _) ?_
          refine Go_iload (pc := 83) C dX7_wall_83 rfl ?_
          obtain rfl := Option.some.inj hf
          exact Go_iret C hr rfl dX7_wall_85
      · replace hf := iff' hc hf
        refine Go_bipush (pc := 34) (v := 10) C dX7_wall_34 cb_10 ?_
        refine Go_iload_n (pc := 36) C dX7_wall_36 rfl ?_
        refine Go_iadd (pc := 37) C dX7_wall_37 ?_
        obtain ⟨v7, hv7, hf⟩ := bnd hf
        refine Go_topi (Option.some.inj hv7) ?_
        refine Go_istore (pc := 38) C dX7_wall_38 (by decide) ?_
        refine Go_aload_n (pc := 40) C dX7_wall_40 rfl ?_
        refine Go_get (pc := 41) C 0 6 rfl rfl inX7 (by decide) mw_635 rfl dX7_wall_41 ?_
        refine Go_iload (pc := 44) C dX7_wall_44 rfl ?_
        refine Go_ishr (pc := 46) C dX7_wall_46 ?_
        refine Go_iconst (pc := 47) (v := 1) C dX7_wall_47 ci_1 ?_
        refine Go_iand (pc := 48) C dX7_wall_48 ?_
        obtain ⟨v8, hv8, hf⟩ := bnd hf
        refine Go_topi (Option.some.inj hv8) ?_
        refine Go_istore (pc := 49) C dX7_wall_49 (by decide) ?_
        refine Go_aload_n (pc := 51) C dX7_wall_51 rfl ?_
        refine Go_iload_n (pc := 52) C dX7_wall_52 rfl ?_
        refine Go_iconst (pc := 53) (v := 1) C dX7_wall_53 ci_1 ?_
        refine Go_icmp_ne (pc := 54) (tgt := 69) C dX7_wall_54 (by decide) (fun hc => ?_) (fun hc => ?_)
        · replace hf := ift hc hf
          refine Go_aload_n (pc := 57) C dX7_wall_57 rfl ?_
          refine Go_get (pc := 58) C 0 6 rfl rfl inX7 (by decide) mw_635 rfl dX7_wall_58 ?_
          refine Go_iconst (pc := 61) (v := 1) C dX7_wall_61 ci_1 ?_
          refine Go_iload (pc := 62) C dX7_wall_62 rfl ?_
          refine Go_ishl (pc := 64) C dX7_wall_64 ?_
          refine Go_ior (pc := 65) C dX7_wall_65 ?_
          refine Go_goto (pc := 66) (tgt := 80) C dX7_wall_66 (by decide) ?_
          refine Go_put (pc := 80) (ws1 := (w7 K a ((r5.1, r5.2.1, r5.2.2.1, r5.2.2.2.1, r5.2.2.2.2.1, r5.2.2.2.2.2.1, r5.2.2.2.2.2.2.1 ||| ((1 : Int32) <<< (v7 &&& 31)), r5.2.2.2.2.2.2.2)))) C 0 6 tyX7 tyX7_ok nmX7 rfl rfl inX7 (by decide) mw_635 rfl rfl (Nat.le_of_ble_eq_true rfl) dX7_wall_80 (ll_144 _ _ _ _) ?_
          refine Go_iload (pc := 83) C dX7_wall_83 rfl ?_
          obtain rfl := Option.some.inj hf
          exact Go_iret C hr rfl dX7_wall_85
        · replace hf := iff' hc hf
          refine Go_aload_n (pc := 69) C dX7_wall_69 rfl ?_
          refine Go_get (pc := 70) C 0 6 rfl rfl inX7 (by decide) mw_635 rfl dX7_wall_70 ?_
          refine Go_iconst (pc := 73) (v := 1) C dX7_wall_73 ci_1 ?_
          refine Go_iload (pc := 74) C dX7_wall_74 rfl ?_
          refine Go_ishl (pc := 76) C dX7_wall_76 ?_
          refine Go_iconst (pc := 77) (v := -1) C dX7_wall_77 ci_m1 ?_
          refine Go_ixor (pc := 78) C dX7_wall_78 ?_
          refine Go_iand (pc := 79) C dX7_wall_79 ?_
          refine Go_put (pc := 80) (ws1 := (w7 K a ((r5.1, r5.2.1, r5.2.2.1, r5.2.2.2.1, r5.2.2.2.2.1, r5.2.2.2.2.2.1, r5.2.2.2.2.2.2.1 &&& (((1 : Int32) <<< (v7 &&& 31)) ^^^ (-1 : Int32)), r5.2.2.2.2.2.2.2)))) C 0 6 tyX7 tyX7_ok nmX7 rfl rfl inX7 (by decide) mw_635 rfl rfl (Nat.le_of_ble_eq_true rfl) dX7_wall_80 (ll_144 _ _ _ _) ?_
          refine Go_iload (pc := 83) C dX7_wall_83 rfl ?_
          obtain rfl := Option.some.inj hf
          exact Go_iret C hr rfl dX7_wall_85
def fX7_ones_L4 (p0 : Int32) (q1 : Int32 × Int32) : Option ((Int32 × Int32) ⊕ (Int32 × Int32)) := (if (12 : Int32) ≤ q1.2 then some (.inr (q1.1, q1.2)) else Option.bind (some (q1.1 + ((p0 >>> (q1.2 &&& 31)) &&& (1 : Int32)))) (fun v2 => Option.bind (some (q1.2 + (1 : Int32))) (fun v3 => some (.inl (v2, v3)))))
def fX7_ones (p0 : Int32) : Option (Int32) := Option.bind (loopF (fX7_ones_L4 p0) 5000 ((0 : Int32), (0 : Int32))) (fun z4 => some z4.1)
theorem ycX7_ones : CalS yX7_ones cX7_ones 3 ((some .int)) 1 := ⟨mw_783, mw_69, mw_782, ⟨by decide, by decide, by decide +kernel⟩, by decide⟩
set_option maxHeartbeats 4000000 in
set_option maxRecDepth 100000 in
theorem kX7_ones (l : Launch) (K : KK) (p0 : Int32) (res : Int32) (hf : fX7_ones p0 = some res) : Ct l K yX7_ones cX7_ones 3 ((some .int)) 0 [.int p0] ([] : va_W) (some (.int res)) ([] : va_W) := by
  refine Ct_of2 (by decide) rfl (Nat.le_of_ble_eq_true rfl) ?_
  intro p e σ m args below meth c C hr
  unfold fX7_ones at hf
  refine Go_iconst (pc := 0) (v := 0) C dX7_ones_0 ci_0 ?_
  refine Go_istore_n (pc := 1) C dX7_ones_1 (by decide) ?_
  refine Go_iconst (pc := 2) (v := 0) C dX7_ones_2 ci_0 ?_
  refine Go_istore_n (pc := 3) C dX7_ones_3 (by decide) ?_
  obtain ⟨z4, hz4, hf⟩ := bnd hf
  refine Go_mask [true, true, true] ?_
  refine loopF_go (step := (fX7_ones_L4 p0)) (fun q1 => Go p l e (rmc 0 0 0) σ m args below meth c K (inW ([] : va_W)) σ.heap 3 0 0 (MQ below (CtQ K ([] : va_W) (some (.int res)) ([] : va_W)) args σ 0 0 (inW ([] : va_W))) ([] : va_W) 4 [some (.int p0), some (.int q1.1), some (.int q1.2)] []) (fun z4 => Go p l e (rmc 0 0 0) σ m args below meth c K (inW ([] : va_W)) σ.heap 3 0 0 (MQ below (CtQ K ([] : va_W) (some (.int res)) ([] : va_W)) args σ 0 0 (inW ([] : va_W))) ([] : va_W) 24 [some (.int p0), some (.int z4.1), some (.int z4.2)] []) ?_ _ _ _ hz4 ?_
  · intro q1 x hf hk
    unfold fX7_ones_L4 at hf
    refine Go_iload_n (pc := 4) C dX7_ones_4 rfl ?_
    refine Go_bipush (pc := 5) (v := 12) C dX7_ones_5 cb_12 ?_
    refine Go_icmp_ge (pc := 7) (tgt := 24) C dX7_ones_7 (by decide) (fun hc => ?_) (fun hc => ?_)
    · replace hf := ift hc hf
      obtain rfl := Option.some.inj hf
      exact Go_mask [true, true, true] hk
    · replace hf := iff' hc hf
      refine Go_iload_n (pc := 10) C dX7_ones_10 rfl ?_
      refine Go_iload_n (pc := 11) C dX7_ones_11 rfl ?_
      refine Go_iload_n (pc := 12) C dX7_ones_12 rfl ?_
      refine Go_ishr (pc := 13) C dX7_ones_13 ?_
      refine Go_iconst (pc := 14) (v := 1) C dX7_ones_14 ci_1 ?_
      refine Go_iand (pc := 15) C dX7_ones_15 ?_
      refine Go_iadd (pc := 16) C dX7_ones_16 ?_
      obtain ⟨v2, hv2, hf⟩ := bnd hf
      refine Go_topi (Option.some.inj hv2) ?_
      refine Go_istore_n (pc := 17) C dX7_ones_17 (by decide) ?_
      obtain ⟨v3, hv3, hf⟩ := bnd hf
      refine Go_iinc (pc := 18) (v := v3) C dX7_ones_18 rfl (by rw [ci_1]; exact Option.some.inj hv3) ?_
      refine Go_goto (pc := 21) (tgt := 4) C dX7_ones_21 (by decide) ?_
      obtain rfl := Option.some.inj hf
      exact Go_mask [true, true, true] hk
  · show Go _ _ _ _ _ _ _ _ _ _ _ _ _ _ _ _ _ _ _ _ _
    refine Go_iload_n (pc := 24) C dX7_ones_24 rfl ?_
    obtain rfl := Option.some.inj hf
    exact Go_iret C hr rfl dX7_ones_25
def fX7_mends (s0 : S7) : Option (Int32 × S7) := Option.bind (fX7_leavesState s0) (fun r1 => Option.bind (fX7_ones r1.2.2.2.2.2.1) (fun r2 => Option.bind (some (r1.2.2.1 - r2)) (fun v3 => Option.bind (fX7_noWaves ((r1.1, r1.2.1, r1.2.2.1, r1.2.2.2.1, r1.2.2.2.2.1, ((1 : Int32) <<< (r1.2.2.1 &&& 31)) - (1 : Int32), r1.2.2.2.2.2.2))) (fun r4 => some (v3, r4)))))
theorem ycX7_mends : CalV yX7_mends cX7_mends 2 ((some .int)) 0 := ⟨mw_780, mw_69, mw_778, mw_779, ⟨by decide, by decide, by decide +kernel⟩, by decide⟩
set_option maxHeartbeats 4000000 in
set_option maxRecDepth 100000 in
theorem kX7_mends (l : Launch) (K : KK) (a : Nat → Nat) (s0 : S7) (res : Int32 × S7) (hf : fX7_mends s0 = some res) : Ct l K yX7_mends cX7_mends 2 ((some .int)) 2 [.ref (a 0)] (w7 K a s0) (some (.int res.1)) (w7 K a res.2) := by
  refine Ct_of2 (by decide) rfl (Nat.le_of_ble_eq_true rfl) ?_
  intro p e σ m args below meth c C hr
  unfold fX7_mends at hf
  refine Go_aload_n (pc := 0) C dX7_mends_0 rfl ?_
  obtain ⟨r1, hr1, hf⟩ := bnd hf
  refine Go_callV0 (pc := 1) (ws1 := (w7 K a r1)) C 0 (0 :: 1 :: 2 :: 3 :: 4 :: 5 :: 6 :: 7 :: 8 :: 9 :: 10 :: 11 :: 12 :: 13 :: []) (kX7_leavesState l K (pk a (0 :: 1 :: 2 :: 3 :: 4 :: 5 :: 6 :: 7 :: 8 :: 9 :: 10 :: 11 :: 12 :: 13 :: [])) s0 r1 hr1) ycX7_leavesState mw_737 (Nat.le_of_ble_eq_true rfl) rfl rfl rfl rfl (Nat.le_of_ble_eq_true rfl) ⟨Nat.zero_le _, Nat.zero_le _⟩ dX7_mends_1 (ll_149 _ _ _) rfl rfl (ll_150 _ _ _ _) ?_
  refine Go_aload_n (pc := 4) C dX7_mends_4 rfl ?_
  refine Go_get (pc := 5) C 0 2 rfl rfl inX7 (by decide) mw_631 rfl dX7_mends_5 ?_
  refine Go_aload_n (pc := 8) C dX7_mends_8 rfl ?_
  refine Go_get (pc := 9) C 0 5 rfl rfl inX7 (by decide) mw_634 rfl dX7_mends_9 ?_
  obtain ⟨r2, hr2, hf⟩ := bnd hf
  refine Go_callS1 (pc := 12) (ws1 := (w7 K a r1)) C [] (kX7_ones l K r1.2.2.2.2.2.1 r2 hr2) ycX7_ones mw_781 (Nat.le_of_ble_eq_true rfl) rfl rfl (Nat.le_of_ble_eq_true rfl) ⟨Nat.zero_le _, Nat.zero_le _⟩ dX7_mends_12 rfl rfl rfl (Wr_same rfl) ?_
  refine Go_isub (pc := 15) C dX7_mends_15 ?_
  obtain ⟨v3, hv3, hf⟩ := bnd hf
  refine Go_topi (Option.some.inj hv3) ?_
  refine Go_istore_n (pc := 16) C dX7_mends_16 (by decide) ?_
  refine Go_aload_n (pc := 17) C dX7_mends_17 rfl ?_
  refine Go_iconst (pc := 18) (v := 1) C dX7_mends_18 ci_1 ?_
  refine Go_aload_n (pc := 19) C dX7_mends_19 rfl ?_
  refine Go_get (pc := 20) C 0 2 rfl rfl inX7 (by decide) mw_631 rfl dX7_mends_20 ?_
  refine Go_ishl (pc := 23) C dX7_mends_23 ?_
  refine Go_iconst (pc := 24) (v := 1) C dX7_mends_24 ci_1 ?_
  refine Go_isub (pc := 25) C dX7_mends_25 ?_
  refine Go_put (pc := 26) (ws1 := (w7 K a ((r1.1, r1.2.1, r1.2.2.1, r1.2.2.2.1, r1.2.2.2.2.1, ((1 : Int32) <<< (r1.2.2.1 &&& 31)) - (1 : Int32), r1.2.2.2.2.2.2)))) C 0 5 tyX7 tyX7_ok nmX7 rfl rfl inX7 (by decide) mw_634 rfl rfl (Nat.le_of_ble_eq_true rfl) dX7_mends_26 (ll_143 _ _ _ _) ?_
  refine Go_aload_n (pc := 29) C dX7_mends_29 rfl ?_
  obtain ⟨r4, hr4, hf⟩ := bnd hf
  refine Go_callV0 (pc := 30) (ws1 := (w7 K a r4)) C 0 (0 :: 1 :: 2 :: 3 :: 4 :: 5 :: 6 :: 7 :: 8 :: 9 :: 10 :: 11 :: 12 :: 13 :: []) (kX7_noWaves l K (pk a (0 :: 1 :: 2 :: 3 :: 4 :: 5 :: 6 :: 7 :: 8 :: 9 :: 10 :: 11 :: 12 :: 13 :: [])) ((r1.1, r1.2.1, r1.2.2.1, r1.2.2.2.1, r1.2.2.2.2.1, ((1 : Int32) <<< (r1.2.2.1 &&& 31)) - (1 : Int32), r1.2.2.2.2.2.2)) r4 hr4) ycX7_noWaves mw_711 (Nat.le_of_ble_eq_true rfl) rfl rfl rfl rfl (Nat.le_of_ble_eq_true rfl) ⟨Nat.zero_le _, Nat.zero_le _⟩ dX7_mends_30 (ll_149 _ _ _) rfl rfl (ll_150 _ _ _ _) ?_
  refine Go_iload_n (pc := 33) C dX7_mends_33 rfl ?_
  obtain rfl := Option.some.inj hf
  exact Go_iret C hr rfl dX7_mends_34
def fX7_anew_L26  (q2 : Int32 × (Nat → Int32)) : Option ((Int32 × (Nat → Int32)) ⊕ (Int32 × (Nat → Int32))) := (if (96 : Int32) ≤ q2.1 then some (.inr (q2.1, q2.2)) else (if 0 ≤ q2.1 ∧ q2.1.toNatClampNeg < 96 then Option.bind (some (q2.1 + (1 : Int32))) (fun v3 => some (.inl (v3, upd q2.2 q2.1.toNatClampNeg (1 : Int32)))) else none))
def fX7_anew (s0 : S7) : Option (Int32 × S7) := Option.bind (fX7_leavesState s0) (fun r1 => Option.bind (loopF (fX7_anew_L26) 5000 ((0 : Int32), r1.2.1)) (fun z4 => Option.bind (fX7_noWaves ((r1.1, z4.2, (0 : Int32), r1.2.2.2.1, r1.2.2.2.2.1, (0 : Int32), (0 : Int32), r1.2.2.2.2.2.2.2))) (fun r5 => some (r1.2.2.1, r5))))
theorem ycX7_anew : CalV yX7_anew cX7_anew 3 ((some .int)) 0 := ⟨mw_787, mw_69, mw_785, mw_786, ⟨by decide, by decide, by decide +kernel⟩, by decide⟩
set_option maxHeartbeats 4000000 in
set_option maxRecDepth 100000 in
theorem kX7_anew (l : Launch) (K : KK) (a : Nat → Nat) (s0 : S7) (res : Int32 × S7) (hf : fX7_anew s0 = some res) : Ct l K yX7_anew cX7_anew 3 ((some .int)) 2 [.ref (a 0)] (w7 K a s0) (some (.int res.1)) (w7 K a res.2) := by
  refine Ct_of2 (by decide) rfl (Nat.le_of_ble_eq_true rfl) ?_
  intro p e σ m args below meth c C hr
  unfold fX7_anew at hf
  refine Go_aload_n (pc := 0) C dX7_anew_0 rfl ?_
  obtain ⟨r1, hr1, hf⟩ := bnd hf
  refine Go_callV0 (pc := 1) (ws1 := (w7 K a r1)) C 0 (0 :: 1 :: 2 :: 3 :: 4 :: 5 :: 6 :: 7 :: 8 :: 9 :: 10 :: 11 :: 12 :: 13 :: []) (kX7_leavesState l K (pk a (0 :: 1 :: 2 :: 3 :: 4 :: 5 :: 6 :: 7 :: 8 :: 9 :: 10 :: 11 :: 12 :: 13 :: [])) s0 r1 hr1) ycX7_leavesState mw_737 (Nat.le_of_ble_eq_true rfl) rfl rfl rfl rfl (Nat.le_of_ble_eq_true rfl) ⟨Nat.zero_le _, Nat.zero_le _⟩ dX7_anew_1 (ll_149 _ _ _) rfl rfl (ll_150 _ _ _ _) ?_
  refine Go_aload_n (pc := 4) C dX7_anew_4 rfl ?_
  refine Go_get (pc := 5) C 0 2 rfl rfl inX7 (by decide) mw_631 rfl dX7_anew_5 ?_
  refine Go_istore_n (pc := 8) C dX7_anew_8 (by decide) ?_
  refine Go_aload_n (pc := 9) C dX7_anew_9 rfl ?_
  refine Go_iconst (pc := 10) (v := 0) C dX7_anew_10 ci_0 ?_
  refine Go_put (pc := 11) (ws1 := (w7 K a ((r1.1, r1.2.1, (0 : Int32), r1.2.2.2)))) C 0 2 tyX7 tyX7_ok nmX7 rfl rfl inX7 (by decide) mw_631 rfl rfl (Nat.le_of_ble_eq_true rfl) dX7_anew_11 (ll_142 _ _ _ _) ?_
  refine Go_aload_n (pc := 14) C dX7_anew_14 rfl ?_
  refine Go_iconst (pc := 15) (v := 0) C dX7_anew_15 ci_0 ?_
  refine Go_put (pc := 16) (ws1 := (w7 K a ((r1.1, r1.2.1, (0 : Int32), r1.2.2.2.1, r1.2.2.2.2.1, (0 : Int32), r1.2.2.2.2.2.2)))) C 0 5 tyX7 tyX7_ok nmX7 rfl rfl inX7 (by decide) mw_634 rfl rfl (Nat.le_of_ble_eq_true rfl) dX7_anew_16 (ll_143 _ _ _ _) ?_
  refine Go_aload_n (pc := 19) C dX7_anew_19 rfl ?_
  refine Go_iconst (pc := 20) (v := 0) C dX7_anew_20 ci_0 ?_
  refine Go_put (pc := 21) (ws1 := (w7 K a ((r1.1, r1.2.1, (0 : Int32), r1.2.2.2.1, r1.2.2.2.2.1, (0 : Int32), (0 : Int32), r1.2.2.2.2.2.2.2)))) C 0 6 tyX7 tyX7_ok nmX7 rfl rfl inX7 (by decide) mw_635 rfl rfl (Nat.le_of_ble_eq_true rfl) dX7_anew_21 (ll_144 _ _ _ _) ?_
  refine Go_iconst (pc := 24) (v := 0) C dX7_anew_24 ci_0 ?_
  refine Go_istore_n (pc := 25) C dX7_anew_25 (by decide) ?_
  obtain ⟨z4, hz4, hf⟩ := bnd hf
  refine Go_mask [true, true, true] ?_
  refine loopF_go (step := (fX7_anew_L26)) (fun q2 => Go p l e (rmc 2 0 0) σ m args below meth c K (inW (w7 K a s0)) σ.heap 3 0 0 (MQ below (CtQ K (w7 K a s0) (some (.int res.1)) (w7 K a res.2)) args σ 0 0 (inW (w7 K a s0))) (w7 K a ((r1.1, q2.2, (0 : Int32), r1.2.2.2.1, r1.2.2.2.2.1, (0 : Int32), (0 : Int32), r1.2.2.2.2.2.2.2))) 26 [some (.ref (a 0)), some (.int r1.2.2.1), some (.int q2.1)] []) (fun z4 => Go p l e (rmc 2 0 0) σ m args below meth c K (inW (w7 K a s0)) σ.heap 3 0 0 (MQ below (CtQ K (w7 K a s0) (some (.int res.1)) (w7 K a res.2)) args σ 0 0 (inW (w7 K a s0))) (w7 K a ((r1.1, z4.2, (0 : Int32), r1.2.2.2.1, r1.2.2.2.2.1, (0 : Int32), (0 : Int32), r1.2.2.2.2.2.2.2))) 45 [some (.ref (a 0)), some (.int r1.2.2.1), some (.int z4.1)] []) ?_ _ _ _ hz4 ?_
  · intro q2 x hf hk
    unfold fX7_anew_L26 at hf
    refine Go_iload_n (pc := 26) C dX7_anew_26 rfl ?_
    refine Go_bipush (pc := 27) (v := 96) C dX7_anew_27 cb_96 ?_
    refine Go_icmp_ge (pc := 29) (tgt := 45) C dX7_anew_29 (by decide) (fun hc => ?_) (fun hc => ?_)
    · replace hf := ift hc hf
      obtain rfl := Option.some.inj hf
      exact Go_mask [true, true, true] hk
    · replace hf := iff' hc hf
      refine Go_aload_n (pc := 32) C dX7_anew_32 rfl ?_
      refine Go_get (pc := 33) C 0 1 rfl rfl inX7 (by decide) mw_630 rfl dX7_anew_33 ?_
      refine Go_iload_n (pc := 36) C dX7_anew_36 rfl ?_
      refine Go_iconst (pc := 37) (v := 1) C dX7_anew_37 ci_1 ?_
      obtain ⟨hb, hf⟩ := ifs hf
      refine Go_iast (pc := 38) (ws1 := (w7 K a ((r1.1, upd q2.2 q2.1.toNatClampNeg (1 : Int32), (0 : Int32), r1.2.2.2.1, r1.2.2.2.2.1, (0 : Int32), (0 : Int32), r1.2.2.2.2.2.2.2)))) C 2 rfl (inb_in hb) dX7_anew_38 (ll_147 _ _ _ _) ?_
      obtain ⟨v3, hv3, hf⟩ := bnd hf
      refine Go_iinc (pc := 39) (v := v3) C dX7_anew_39 rfl (by rw [ci_1]; exact Option.some.inj hv3) ?_
      refine Go_goto (pc := 42) (tgt := 26) C dX7_anew_42 (by decide) ?_
      obtain rfl := Option.some.inj hf
      exact Go_mask [true, true, true] hk
  · show Go _ _ _ _ _ _ _ _ _ _ _ _ _ _ _ _ _ _ _ _ _
    refine Go_aload_n (pc := 45) C dX7_anew_45 rfl ?_
    obtain ⟨r5, hr5, hf⟩ := bnd hf
    refine Go_callV0 (pc := 46) (ws1 := (w7 K a r5)) C 0 (0 :: 1 :: 2 :: 3 :: 4 :: 5 :: 6 :: 7 :: 8 :: 9 :: 10 :: 11 :: 12 :: 13 :: []) (kX7_noWaves l K (pk a (0 :: 1 :: 2 :: 3 :: 4 :: 5 :: 6 :: 7 :: 8 :: 9 :: 10 :: 11 :: 12 :: 13 :: [])) ((r1.1, z4.2, (0 : Int32), r1.2.2.2.1, r1.2.2.2.2.1, (0 : Int32), (0 : Int32), r1.2.2.2.2.2.2.2)) r5 hr5) ycX7_noWaves mw_711 (Nat.le_of_ble_eq_true rfl) rfl rfl rfl rfl (Nat.le_of_ble_eq_true rfl) ⟨Nat.zero_le _, Nat.zero_le _⟩ dX7_anew_46 (ll_149 _ _ _) rfl rfl (ll_150 _ _ _ _) ?_
    refine Go_iload_n (pc := 49) C dX7_anew_49 rfl ?_
    obtain rfl := Option.some.inj hf
    exact Go_iret C hr rfl dX7_anew_50
def fX7_wallsAhead_L5 (s0 : S7) (p1 : Int32) (p2 : Int32) (q1 : Int32 × Int32) : Option ((Int32 × Int32) ⊕ (Int32 × Int32)) := (if p2 ≤ q1.2 then some (.inr (q1.1, q1.2)) else Option.bind (some (q1.1 + ((s0.2.2.2.2.2.2.1 >>> ((p1 + q1.2) &&& 31)) &&& (1 : Int32)))) (fun v2 => Option.bind (some (q1.2 + (1 : Int32))) (fun v3 => some (.inl (v2, v3)))))
def fX7_wallsAhead (s0 : S7) (p1 : Int32) (p2 : Int32) : Option (Int32) := Option.bind (loopF (fX7_wallsAhead_L5 s0 p1 p2) 5000 ((0 : Int32), (0 : Int32))) (fun z4 => some z4.1)
theorem ycX7_wallsAhead : CalV yX7_wallsAhead cX7_wallsAhead 5 ((some .int)) 2 := ⟨mw_807, mw_69, mw_806, mw_31, ⟨by decide, by decide, by decide +kernel⟩, by decide⟩
set_option maxHeartbeats 4000000 in
set_option maxRecDepth 100000 in
theorem kX7_wallsAhead (l : Launch) (K : KK) (a : Nat → Nat) (s0 : S7) (p1 : Int32) (p2 : Int32) (res : Int32) (hf : fX7_wallsAhead s0 p1 p2 = some res) : Ct l K yX7_wallsAhead cX7_wallsAhead 5 ((some .int)) 0 [.ref (a 0), .int p1, .int p2] (w7 K a s0) (some (.int res)) (w7 K a s0) := by
  refine Ct_of2 (by decide) rfl (Nat.le_of_ble_eq_true rfl) ?_
  intro p e σ m args below meth c C hr
  unfold fX7_wallsAhead at hf
  refine Go_iconst (pc := 0) (v := 0) C dX7_wallsAhead_0 ci_0 ?_
  refine Go_istore_n (pc := 1) C dX7_wallsAhead_1 (by decide) ?_
  refine Go_iconst (pc := 2) (v := 0) C dX7_wallsAhead_2 ci_0 ?_
  refine Go_istore (pc := 3) C dX7_wallsAhead_3 (by decide) ?_
  obtain ⟨z4, hz4, hf⟩ := bnd hf
  refine Go_mask [true, true, true, true, true] ?_
  refine loopF_go (step := (fX7_wallsAhead_L5 s0 p1 p2)) (fun q1 => Go p l e (rmc 0 0 0) σ m args below meth c K (inW (w7 K a s0)) σ.heap 5 0 0 (MQ below (CtQ K (w7 K a s0) (some (.int res)) (w7 K a s0)) args σ 0 0 (inW (w7 K a s0))) (w7 K a s0) 5 [some (.ref (a 0)), some (.int p1), some (.int p2), some (.int q1.1), some (.int q1.2)] []) (fun z4 => Go p l e (rmc 0 0 0) σ m args below meth c K (inW (w7 K a s0)) σ.heap 5 0 0 (MQ below (CtQ K (w7 K a s0) (some (.int res)) (w7 K a s0)) args σ 0 0 (inW (w7 K a s0))) (w7 K a s0) 31 [some (.ref (a 0)), some (.int p1), some (.int p2), some (.int z4.1), some (.int z4.2)] []) ?_ _ _ _ hz4 ?_
  · intro q1 x hf hk
    unfold fX7_wallsAhead_L5 at hf
    refine Go_iload (pc := 5) C dX7_wallsAhead_5 rfl ?_
    refine Go_iload_n (pc := 7) C dX7_wallsAhead_7 rfl ?_
    refine Go_icmp_ge (pc := 8) (tgt := 31) C dX7_wallsAhead_8 (by decide) (fun hc => ?_) (fun hc => ?_)
    · replace hf := ift hc hf
      obtain rfl := Option.some.inj hf
      exact Go_mask [true, true, true, true, true] hk
    · replace hf := iff' hc hf
      refine Go_iload_n (pc := 11) C dX7_wallsAhead_11 rfl ?_
      refine Go_aload_n (pc := 12) C dX7_wallsAhead_12 rfl ?_
      refine Go_get (pc := 13) C 0 6 rfl rfl inX7 (by decide) mw_635 rfl dX7_wallsAhead_13 ?_
      refine Go_iload_n (pc := 16) C dX7_wallsAhead_16 rfl ?_
      refine Go_iload (pc := 17) C dX7_wallsAhead_17 rfl ?_
      refine Go_iadd (pc := 19) C dX7_wallsAhead_19 ?_
      refine Go_ishr (pc := 20) C dX7_wallsAhead_20 ?_
      refine Go_iconst (pc := 21) (v := 1) C dX7_wallsAhead_21 ci_1 ?_
      refine Go_iand (pc := 22) C dX7_wallsAhead_22 ?_
      refine Go_iadd (pc := 23) C dX7_wallsAhead_23 ?_
      obtain ⟨v2, hv2, hf⟩ := bnd hf
      refine Go_topi (Option.some.inj hv2) ?_
      refine Go_istore_n (pc := 24) C dX7_wallsAhead_24 (by decide) ?_
      obtain ⟨v3, hv3, hf⟩ := bnd hf
      refine Go_iinc (pc := 25) (v := v3) C dX7_wallsAhead_25 rfl (by rw [ci_1]; exact Option.some.inj hv3) ?_
      refine Go_goto (pc := 28) (tgt := 5) C dX7_wallsAhead_28 (by decide) ?_
      obtain rfl := Option.some.inj hf
      exact Go_mask [true, true, true, true, true] hk
  · show Go _ _ _ _ _ _ _ _ _ _ _ _ _ _ _ _ _ _ _ _ _
    refine Go_iload_n (pc := 31) C dX7_wallsAhead_31 rfl ?_
    obtain rfl := Option.some.inj hf
    exact Go_iret C hr rfl dX7_wallsAhead_32
theorem ll_152 (K : KK) (a : Nat → Nat) (t0 : S7) (y : Nat → Int32) : List.set (w7 K a t0) 6 (a 6, .inl (K.2.1, 8, .inl y)) = (w7 K a ((t0.1, t0.2.1, t0.2.2.1, t0.2.2.2.1, t0.2.2.2.2.1, t0.2.2.2.2.2.1, t0.2.2.2.2.2.2.1, t0.2.2.2.2.2.2.2.1, t0.2.2.2.2.2.2.2.2.1, y, t0.2.2.2.2.2.2.2.2.2.2))) := rfl
theorem ll_153 (K : KK) (a : Nat → Nat) (t0 : S7) (y : Nat → Int32) : List.set (w7 K a t0) 7 (a 7, .inl (K.2.1, 12, .inl y)) = (w7 K a ((t0.1, t0.2.1, t0.2.2.1, t0.2.2.2.1, t0.2.2.2.2.1, t0.2.2.2.2.2.1, t0.2.2.2.2.2.2.1, t0.2.2.2.2.2.2.2.1, t0.2.2.2.2.2.2.2.2.1, t0.2.2.2.2.2.2.2.2.2.1, y, t0.2.2.2.2.2.2.2.2.2.2.2))) := rfl
def fX7_setRooms_L2 (s0 : S7) (q1 : Int32 × (Nat → Int32)) : Option ((Int32 × (Nat → Int32)) ⊕ (Int32 × (Nat → Int32))) := (if (8 : Int32) ≤ q1.1 then some (.inr (q1.1, q1.2)) else Option.bind (fX7_wallsAhead ((s0.1, s0.2.1, s0.2.2.1, s0.2.2.2.1, s0.2.2.2.2.1, s0.2.2.2.2.2.1, s0.2.2.2.2.2.2.1, s0.2.2.2.2.2.2.2.1, s0.2.2.2.2.2.2.2.2.1, q1.2, s0.2.2.2.2.2.2.2.2.2.2)) (0 : Int32) q1.1) (fun r2 => (if 0 ≤ q1.1 ∧ q1.1.toNatClampNeg < 8 then Option.bind (some (q1.1 + (1 : Int32))) (fun v3 => some (.inl (v3, upd q1.2 q1.1.toNatClampNeg r2))) else none)))
def fX7_setRooms_L28 (s0 : S7) (z4 : (Int32 × (Nat → Int32))) (q5 : Int32 × (Nat → Int32)) : Option ((Int32 × (Nat → Int32)) ⊕ (Int32 × (Nat → Int32))) := (if (12 : Int32) ≤ q5.1 then some (.inr (q5.1, q5.2)) else Option.bind (fX7_wallsAhead ((s0.1, s0.2.1, s0.2.2.1, s0.2.2.2.1, s0.2.2.2.2.1, s0.2.2.2.2.2.1, s0.2.2.2.2.2.2.1, s0.2.2.2.2.2.2.2.1, s0.2.2.2.2.2.2.2.2.1, z4.2, q5.2, s0.2.2.2.2.2.2.2.2.2.2.2)) (10 : Int32) q5.1) (fun r6 => (if 0 ≤ q5.1 ∧ q5.1.toNatClampNeg < 12 then Option.bind (some (q5.1 + (1 : Int32))) (fun v7 => some (.inl (v7, upd q5.2 q5.1.toNatClampNeg r6))) else none)))
def fX7_setRooms (s0 : S7) : Option (S7) := Option.bind (loopF (fX7_setRooms_L2 s0) 5000 ((0 : Int32), s0.2.2.2.2.2.2.2.2.2.1)) (fun z4 => Option.bind (loopF (fX7_setRooms_L28 s0 z4) 5000 ((0 : Int32), s0.2.2.2.2.2.2.2.2.2.2.1)) (fun z8 => some ((s0.1, s0.2.1, s0.2.2.1, s0.2.2.2.1, s0.2.2.2.2.1, s0.2.2.2.2.2.1, s0.2.2.2.2.2.2.1, s0.2.2.2.2.2.2.2.1, s0.2.2.2.2.2.2.2.2.1, z4.2, z8.2, s0.2.2.2.2.2.2.2.2.2.2.2))))
theorem ycX7_setRooms : CalV yX7_setRooms cX7_setRooms 2 none 0 := ⟨mw_803, mw_69, mw_802, mw_30, ⟨by decide, by decide, by decide +kernel⟩, by decide⟩
set_option maxHeartbeats 4000000 in
set_option maxRecDepth 100000 in
theorem kX7_setRooms (l : Launch) (K : KK) (a : Nat → Nat) (s0 : S7) (res : S7) (hf : fX7_setRooms s0 = some res) : Ct l K yX7_setRooms cX7_setRooms 2 none 1 [.ref (a 0)] (w7 K a s0) (none) (w7 K a res) := by
  refine Ct_of2 (by decide) rfl (Nat.le_of_ble_eq_true rfl) ?_
  intro p e σ m args below meth c C hr
  unfold fX7_setRooms at hf
  refine Go_iconst (pc := 0) (v := 0) C dX7_setRooms_0 ci_0 ?_
  refine Go_istore_n (pc := 1) C dX7_setRooms_1 (by decide) ?_
  obtain ⟨z4, hz4, hf⟩ := bnd hf
  refine Go_mask [true, true] ?_
  refine loopF_go (step := (fX7_setRooms_L2 s0)) (fun q1 => Go p l e (rmc 1 0 0) σ m args below meth c K (inW (w7 K a s0)) σ.heap 2 0 0 (MQ below (CtQ K (w7 K a s0) (none) (w7 K a res)) args σ 0 0 (inW (w7 K a s0))) (w7 K a ((s0.1, s0.2.1, s0.2.2.1, s0.2.2.2.1, s0.2.2.2.2.1, s0.2.2.2.2.2.1, s0.2.2.2.2.2.2.1, s0.2.2.2.2.2.2.2.1, s0.2.2.2.2.2.2.2.2.1, q1.2, s0.2.2.2.2.2.2.2.2.2.2))) 2 [some (.ref (a 0)), some (.int q1.1)] []) (fun z4 => Go p l e (rmc 1 0 0) σ m args below meth c K (inW (w7 K a s0)) σ.heap 2 0 0 (MQ below (CtQ K (w7 K a s0) (none) (w7 K a res)) args σ 0 0 (inW (w7 K a s0))) (w7 K a ((s0.1, s0.2.1, s0.2.2.1, s0.2.2.2.1, s0.2.2.2.2.1, s0.2.2.2.2.2.1, s0.2.2.2.2.2.2.1, s0.2.2.2.2.2.2.2.1, s0.2.2.2.2.2.2.2.2.1, z4.2, s0.2.2.2.2.2.2.2.2.2.2))) 26 [some (.ref (a 0)), some (.int z4.1)] []) ?_ _ _ _ hz4 ?_
  · intro q1 x hf hk
    unfold fX7_setRooms_L2 at hf
    refine Go_iload_n (pc := 2) C dX7_setRooms_2 rfl ?_
    refine Go_bipush (pc := 3) (v := 8) C dX7_setRooms_3 cb_8 ?_
    refine Go_icmp_ge (pc := 5) (tgt := 26) C dX7_setRooms_5 (by decide) (fun hc => ?_) (fun hc => ?_)
    · replace hf := ift hc hf
      obtain rfl := Option.some.inj hf
      exact Go_mask [true, true] hk
    · replace hf := iff' hc hf
      refine Go_aload_n (pc := 8) C dX7_setRooms_8 rfl ?_
      refine Go_get (pc := 9) C 0 9 rfl rfl inX7 (by decide) mw_638 rfl dX7_setRooms_9 ?_
      refine Go_iload_n (pc := 12) C dX7_setRooms_12 rfl ?_
      refine Go_aload_n (pc := 13) C dX7_setRooms_13 rfl ?_
      refine Go_iconst (pc := 14) (v := 0) C dX7_setRooms_14 ci_0 ?_
      refine Go_iload_n (pc := 15) C dX7_setRooms_15 rfl ?_
      obtain ⟨r2, hr2, hf⟩ := bnd hf
      refine Go_callV1 (pc := 16) (ws1 := (w7 K a ((s0.1, s0.2.1, s0.2.2.1, s0.2.2.2.1, s0.2.2.2.2.1, s0.2.2.2.2.2.1, s0.2.2.2.2.2.2.1, s0.2.2.2.2.2.2.2.1, s0.2.2.2.2.2.2.2.2.1, q1.2, s0.2.2.2.2.2.2.2.2.2.2)))) C 0 (0 :: 1 :: 2 :: 3 :: 4 :: 5 :: 6 :: 7 :: 8 :: 9 :: 10 :: 11 :: 12 :: 13 :: []) (kX7_wallsAhead l K (pk a (0 :: 1 :: 2 :: 3 :: 4 :: 5 :: 6 :: 7 :: 8 :: 9 :: 10 :: 11 :: 12 :: 13 :: [])) ((s0.1, s0.2.1, s0.2.2.1, s0.2.2.2.1, s0.2.2.2.2.1, s0.2.2.2.2.2.1, s0.2.2.2.2.2.2.1, s0.2.2.2.2.2.2.2.1, s0.2.2.2.2.2.2.2.2.1, q1.2, s0.2.2.2.2.2.2.2.2.2.2)) (0 : Int32) q1.1 r2 hr2) ycX7_wallsAhead mw_804 (Nat.le_of_ble_eq_true rfl) rfl rfl rfl rfl (Nat.le_of_ble_eq_true rfl) ⟨Nat.zero_le _, Nat.zero_le _⟩ dX7_setRooms_16 (ll_149 _ _ _) rfl rfl (Wr_same (ll_149 _ _ _)) ?_
      obtain ⟨hb, hf⟩ := ifs hf
      refine Go_iast (pc := 19) (ws1 := (w7 K a ((s0.1, s0.2.1, s0.2.2.1, s0.2.2.2.1, s0.2.2.2.2.1, s0.2.2.2.2.2.1, s0.2.2.2.2.2.2.1, s0.2.2.2.2.2.2.2.1, s0.2.2.2.2.2.2.2.2.1, upd q1.2 q1.1.toNatClampNeg r2, s0.2.2.2.2.2.2.2.2.2.2)))) C 6 rfl (inb_in hb) dX7_setRooms_19 (ll_152 _ _ _ _) ?_
      obtain ⟨v3, hv3, hf⟩ := bnd hf
      refine Go_iinc (pc := 20) (v := v3) C dX7_setRooms_20 rfl (by rw [ci_1]; exact Option.some.inj hv3) ?_
      refine Go_goto (pc := 23) (tgt := 2) C dX7_setRooms_23 (by decide) ?_
      obtain rfl := Option.some.inj hf
      exact Go_mask [true, true] hk
  · show Go _ _ _ _ _ _ _ _ _ _ _ _ _ _ _ _ _ _ _ _ _
    refine Go_iconst (pc := 26) (v := 0) C dX7_setRooms_26 ci_0 ?_
    refine Go_istore_n (pc := 27) C dX7_setRooms_27 (by decide) ?_
    obtain ⟨z8, hz8, hf⟩ := bnd hf
    refine Go_mask [true, true] ?_
    refine loopF_go (step := (fX7_setRooms_L28 s0 z4)) (fun q5 => Go p l e (rmc 1 0 0) σ m args below meth c K (inW (w7 K a s0)) σ.heap 2 0 0 (MQ below (CtQ K (w7 K a s0) (none) (w7 K a res)) args σ 0 0 (inW (w7 K a s0))) (w7 K a ((s0.1, s0.2.1, s0.2.2.1, s0.2.2.2.1, s0.2.2.2.2.1, s0.2.2.2.2.2.1, s0.2.2.2.2.2.2.1, s0.2.2.2.2.2.2.2.1, s0.2.2.2.2.2.2.2.2.1, z4.2, q5.2, s0.2.2.2.2.2.2.2.2.2.2.2))) 28 [some (.ref (a 0)), some (.int q5.1)] []) (fun z8 => Go p l e (rmc 1 0 0) σ m args below meth c K (inW (w7 K a s0)) σ.heap 2 0 0 (MQ below (CtQ K (w7 K a s0) (none) (w7 K a res)) args σ 0 0 (inW (w7 K a s0))) (w7 K a ((s0.1, s0.2.1, s0.2.2.1, s0.2.2.2.1, s0.2.2.2.2.1, s0.2.2.2.2.2.1, s0.2.2.2.2.2.2.1, s0.2.2.2.2.2.2.2.1, s0.2.2.2.2.2.2.2.2.1, z4.2, z8.2, s0.2.2.2.2.2.2.2.2.2.2.2))) 53 [some (.ref (a 0)), some (.int z8.1)] []) ?_ _ _ _ hz8 ?_
    · intro q5 x hf hk
      unfold fX7_setRooms_L28 at hf
      refine Go_iload_n (pc := 28) C dX7_setRooms_28 rfl ?_
      refine Go_bipush (pc := 29) (v := 12) C dX7_setRooms_29 cb_12 ?_
      refine Go_icmp_ge (pc := 31) (tgt := 53) C dX7_setRooms_31 (by decide) (fun hc => ?_) (fun hc => ?_)
      · replace hf := ift hc hf
        obtain rfl := Option.some.inj hf
        exact Go_mask [true, true] hk
      · replace hf := iff' hc hf
        refine Go_aload_n (pc := 34) C dX7_setRooms_34 rfl ?_
        refine Go_get (pc := 35) C 0 10 rfl rfl inX7 (by decide) mw_639 rfl dX7_setRooms_35 ?_
        refine Go_iload_n (pc := 38) C dX7_setRooms_38 rfl ?_
        refine Go_aload_n (pc := 39) C dX7_setRooms_39 rfl ?_
        refine Go_bipush (pc := 40) (v := 10) C dX7_setRooms_40 cb_10 ?_
        refine Go_iload_n (pc := 42) C dX7_setRooms_42 rfl ?_
        obtain ⟨r6, hr6, hf⟩ := bnd hf
        refine Go_callV1 (pc := 43) (ws1 := (w7 K a ((s0.1, s0.2.1, s0.2.2.1, s0.2.2.2.1, s0.2.2.2.2.1, s0.2.2.2.2.2.1, s0.2.2.2.2.2.2.1, s0.2.2.2.2.2.2.2.1, s0.2.2.2.2.2.2.2.2.1, z4.2, q5.2, s0.2.2.2.2.2.2.2.2.2.2.2)))) C 0 (0 :: 1 :: 2 :: 3 :: 4 :: 5 :: 6 :: 7 :: 8 :: 9 :: 10 :: 11 :: 12 :: 13 :: []) (kX7_wallsAhead l K (pk a (0 :: 1 :: 2 :: 3 :: 4 :: 5 :: 6 :: 7 :: 8 :: 9 :: 10 :: 11 :: 12 :: 13 :: [])) ((s0.1, s0.2.1, s0.2.2.1, s0.2.2.2.1, s0.2.2.2.2.1, s0.2.2.2.2.2.1, s0.2.2.2.2.2.2.1, s0.2.2.2.2.2.2.2.1, s0.2.2.2.2.2.2.2.2.1, z4.2, q5.2, s0.2.2.2.2.2.2.2.2.2.2.2)) (10 : Int32) q5.1 r6 hr6) ycX7_wallsAhead mw_804 (Nat.le_of_ble_eq_true rfl) rfl rfl rfl rfl (Nat.le_of_ble_eq_true rfl) ⟨Nat.zero_le _, Nat.zero_le _⟩ dX7_setRooms_43 (ll_149 _ _ _) rfl rfl (Wr_same (ll_149 _ _ _)) ?_
        obtain ⟨hb, hf⟩ := ifs hf
        refine Go_iast (pc := 46) (ws1 := (w7 K a ((s0.1, s0.2.1, s0.2.2.1, s0.2.2.2.1, s0.2.2.2.2.1, s0.2.2.2.2.2.1, s0.2.2.2.2.2.2.1, s0.2.2.2.2.2.2.2.1, s0.2.2.2.2.2.2.2.2.1, z4.2, upd q5.2 q5.1.toNatClampNeg r6, s0.2.2.2.2.2.2.2.2.2.2.2)))) C 7 rfl (inb_in hb) dX7_setRooms_46 (ll_153 _ _ _ _) ?_
        obtain ⟨v7, hv7, hf⟩ := bnd hf
        refine Go_iinc (pc := 47) (v := v7) C dX7_setRooms_47 rfl (by rw [ci_1]; exact Option.some.inj hv7) ?_
        refine Go_goto (pc := 50) (tgt := 28) C dX7_setRooms_50 (by decide) ?_
        obtain rfl := Option.some.inj hf
        exact Go_mask [true, true] hk
    · show Go _ _ _ _ _ _ _ _ _ _ _ _ _ _ _ _ _ _ _ _ _
      obtain rfl := Option.some.inj hf
      exact Go_vret C hr rfl dX7_setRooms_53
def fX7_roomOf (s0 : S7) (p1 : Int32) : Option (Int32) := (if 0 ≤ (p1 / (12 : Int32)) ∧ (p1 / (12 : Int32)).toNatClampNeg < 8 then (if 0 ≤ (p1 - p1 / (12 : Int32) * (12 : Int32)) ∧ (p1 - p1 / (12 : Int32) * (12 : Int32)).toNatClampNeg < 12 then some (((12 : Int32) * (s0.2.2.2.2.2.2.2.2.2.1 (p1 / (12 : Int32)).toNatClampNeg)) + (s0.2.2.2.2.2.2.2.2.2.2.1 (p1 - p1 / (12 : Int32) * (12 : Int32)).toNatClampNeg)) else none) else none)
theorem ycX7_roomOf : CalV yX7_roomOf cX7_roomOf 2 ((some .int)) 1 := ⟨mw_815, mw_69, mw_814, mw_33, ⟨by decide, by decide, by decide +kernel⟩, by decide⟩
set_option maxHeartbeats 4000000 in
set_option maxRecDepth 100000 in
theorem kX7_roomOf (l : Launch) (K : KK) (a : Nat → Nat) (s0 : S7) (p1 : Int32) (res : Int32) (hf : fX7_roomOf s0 p1 = some res) : Ct l K yX7_roomOf cX7_roomOf 2 ((some .int)) 0 [.ref (a 0), .int p1] (w7 K a s0) (some (.int res)) (w7 K a s0) := by
  refine Ct_of2 (by decide) rfl (Nat.le_of_ble_eq_true rfl) ?_
  intro p e σ m args below meth c C hr
  unfold fX7_roomOf at hf
  refine Go_bipush (pc := 0) (v := 12) C dX7_roomOf_0 cb_12 ?_
  refine Go_aload_n (pc := 2) C dX7_roomOf_2 rfl ?_
  refine Go_get (pc := 3) C 0 9 rfl rfl inX7 (by decide) mw_638 rfl dX7_roomOf_3 ?_
  refine Go_iload_n (pc := 6) C dX7_roomOf_6 rfl ?_
  refine Go_bipush (pc := 7) (v := 12) C dX7_roomOf_7 cb_12 ?_
  refine Go_idiv (pc := 9) C dX7_roomOf_9 (by decide) ?_
  obtain ⟨hb, hf⟩ := ifs hf
  refine Go_iald (pc := 10) C 6 rfl (inb_in hb) dX7_roomOf_10 ?_
  refine Go_imul (pc := 11) C dX7_roomOf_11 ?_
  refine Go_aload_n (pc := 12) C dX7_roomOf_12 rfl ?_
  refine Go_get (pc := 13) C 0 10 rfl rfl inX7 (by decide) mw_639 rfl dX7_roomOf_13 ?_
  refine Go_iload_n (pc := 16) C dX7_roomOf_16 rfl ?_
  refine Go_bipush (pc := 17) (v := 12) C dX7_roomOf_17 cb_12 ?_
  refine Go_irem (pc := 19) C dX7_roomOf_19 (by decide) ?_
  obtain ⟨hb, hf⟩ := ifs hf
  refine Go_iald (pc := 20) C 7 rfl (inb_in hb) dX7_roomOf_20 ?_
  refine Go_iadd (pc := 21) C dX7_roomOf_21 ?_
  obtain rfl := Option.some.inj hf
  exact Go_iret C hr rfl dX7_roomOf_22
def fX7_gap (p0 : Int32) (p1 : Int32) : Option (Int32) := (if p0 ≤ p1 then some (p1 - p0) else some (p0 - p1))
theorem ycX7_gap : CalS yX7_gap cX7_gap 2 ((some .int)) 2 := ⟨mw_818, mw_69, mw_817, ⟨by decide, by decide, by decide +kernel⟩, by decide⟩
set_option maxHeartbeats 4000000 in
set_option maxRecDepth 100000 in
theorem kX7_gap (l : Launch) (K : KK) (p0 : Int32) (p1 : Int32) (res : Int32) (hf : fX7_gap p0 p1 = some res) : Ct l K yX7_gap cX7_gap 2 ((some .int)) 0 [.int p0, .int p1] ([] : va_W) (some (.int res)) ([] : va_W) := by
  refine Ct_of2 (by decide) rfl (Nat.le_of_ble_eq_true rfl) ?_
  intro p e σ m args below meth c C hr
  unfold fX7_gap at hf
  refine Go_iload_n (pc := 0) C dX7_gap_0 rfl ?_
  refine Go_iload_n (pc := 1) C dX7_gap_1 rfl ?_
  refine Go_icmp_le (pc := 2) (tgt := 11) C dX7_gap_2 (by decide) (fun hc => ?_) (fun hc => ?_)
  · replace hf := ift hc hf
    refine Go_iload_n (pc := 11) C dX7_gap_11 rfl ?_
    refine Go_iload_n (pc := 12) C dX7_gap_12 rfl ?_
    refine Go_isub (pc := 13) C dX7_gap_13 ?_
    obtain rfl := Option.some.inj hf
    exact Go_iret C hr rfl dX7_gap_14
  · replace hf := iff' hc hf
    refine Go_iload_n (pc := 5) C dX7_gap_5 rfl ?_
    refine Go_iload_n (pc := 6) C dX7_gap_6 rfl ?_
    refine Go_isub (pc := 7) C dX7_gap_7 ?_
    refine Go_goto (pc := 8) (tgt := 14) C dX7_gap_8 (by decide) ?_
    obtain rfl := Option.some.inj hf
    exact Go_iret C hr rfl dX7_gap_14
def fX7_bearer_L10 (s0 : S7) (p1 : Int32) (p2 : Int32) (q1 : Int32 × Int32 × Int32) : Option ((Int32 × Int32 × Int32) ⊕ (Int32 × Int32 × Int32)) := (if (13 : Int32) ≤ q1.2.2 then some (.inr (q1.1, q1.2.1, q1.2.2)) else (if ((p1 >>> (q1.2.2 &&& 31)) &&& (1 : Int32)) = (1 : Int32) then (if 0 ≤ q1.2.2 ∧ q1.2.2.toNatClampNeg < 13 then Option.bind (fX7_roomOf s0 (s0.2.2.2.1 q1.2.2.toNatClampNeg)) (fun r2 => Option.bind (fX7_roomOf s0 p2) (fun r3 => (if r2 = r3 then (if 0 ≤ q1.2.2 ∧ q1.2.2.toNatClampNeg < 13 then Option.bind (fX7_gap ((s0.2.2.2.1 q1.2.2.toNatClampNeg) / (12 : Int32)) (p2 / (12 : Int32))) (fun r4 => (if 0 ≤ q1.2.2 ∧ q1.2.2.toNatClampNeg < 13 then Option.bind (fX7_gap ((s0.2.2.2.1 q1.2.2.toNatClampNeg) - (s0.2.2.2.1 q1.2.2.toNatClampNeg) / (12 : Int32) * (12 : Int32)) (p2 - p2 / (12 : Int32) * (12 : Int32))) (fun r5 => Option.bind (some (r4 + r5)) (fun v6 => (if q1.2.1 ≤ v6 then (if q1.2.1 ≤ v6 then Option.bind (some (q1.2.2 + (1 : Int32))) (fun v7 => some (.inl (q1.1, q1.2.1, v7))) else Option.bind (some (q1.2.2 + (1 : Int32))) (fun v8 => some (.inl (q1.1, v6, v8)))) else (if q1.2.1 ≤ v6 then Option.bind (some (q1.2.2 + (1 : Int32))) (fun v9 => some (.inl (q1.2.2, q1.2.1, v9))) else Option.bind (some (q1.2.2 + (1 : Int32))) (fun v10 => some (.inl (q1.2.2, v6, v10))))))) else none)) else none) else Option.bind (some (q1.2.2 + (1 : Int32))) (fun v11 => some (.inl (q1.1, q1.2.1, v11)))))) else none) else Option.bind (some (q1.2.2 + (1 : Int32))) (fun v12 => some (.inl (q1.1, q1.2.1, v12)))))
def fX7_bearer (s0 : S7) (p1 : Int32) (p2 : Int32) : Option (Int32) := Option.bind (loopF (fX7_bearer_L10 s0 p1 p2) 5000 ((-1 : Int32), (999 : Int32), (0 : Int32))) (fun z13 => some z13.1)
theorem ycX7_bearer : CalV yX7_bearer cX7_bearer 7 ((some .int)) 2 := ⟨mw_811, mw_69, mw_810, mw_32, ⟨by decide, by decide, by decide +kernel⟩, by decide⟩
set_option maxHeartbeats 4000000 in
set_option maxRecDepth 100000 in
theorem kX7_bearer (l : Launch) (K : KK) (a : Nat → Nat) (s0 : S7) (p1 : Int32) (p2 : Int32) (res : Int32) (hf : fX7_bearer s0 p1 p2 = some res) : Ct l K yX7_bearer cX7_bearer 7 ((some .int)) 1 [.ref (a 0), .int p1, .int p2] (w7 K a s0) (some (.int res)) (w7 K a s0) := by
  refine Ct_of2 (by decide) rfl (Nat.le_of_ble_eq_true rfl) ?_
  intro p e σ m args below meth c C hr
  unfold fX7_bearer at hf
  refine Go_iconst (pc := 0) (v := -1) C dX7_bearer_0 ci_m1 ?_
  refine Go_istore_n (pc := 1) C dX7_bearer_1 (by decide) ?_
  refine Go_sipush (pc := 2) (v := 999) C dX7_bearer_2 cs_999 ?_
  refine Go_istore (pc := 5) C dX7_bearer_5 (by decide) ?_
  refine Go_iconst (pc := 7) (v := 0) C dX7_bearer_7 ci_0 ?_
  refine Go_istore (pc := 8) C dX7_bearer_8 (by decide) ?_
  obtain ⟨z13, hz13, hf⟩ := bnd hf
  refine Go_mask [true, true, true, true, true, true, false] ?_
  refine loopF_go (step := (fX7_bearer_L10 s0 p1 p2)) (fun q1 => Go p l e (rmc 1 0 0) σ m args below meth c K (inW (w7 K a s0)) σ.heap 7 0 0 (MQ below (CtQ K (w7 K a s0) (some (.int res)) (w7 K a s0)) args σ 0 0 (inW (w7 K a s0))) (w7 K a s0) 10 [some (.ref (a 0)), some (.int p1), some (.int p2), some (.int q1.1), some (.int q1.2.1), some (.int q1.2.2), none] []) (fun z13 => Go p l e (rmc 1 0 0) σ m args below meth c K (inW (w7 K a s0)) σ.heap 7 0 0 (MQ below (CtQ K (w7 K a s0) (some (.int res)) (w7 K a s0)) args σ 0 0 (inW (w7 K a s0))) (w7 K a s0) 119 [some (.ref (a 0)), some (.int p1), some (.int p2), some (.int z13.1), some (.int z13.2.1), some (.int z13.2.2), none] []) ?_ _ _ _ hz13 ?_
  · intro q1 x hf hk
    unfold fX7_bearer_L10 at hf
    refine Go_iload (pc := 10) C dX7_bearer_10 rfl ?_
    refine Go_bipush (pc := 12) (v := 13) C dX7_bearer_12 cb_13 ?_
    refine Go_icmp_ge (pc := 14) (tgt := 119) C dX7_bearer_14 (by decide) (fun hc => ?_) (fun hc => ?_)
    · replace hf := ift hc hf
      obtain rfl := Option.some.inj hf
      exact Go_mask [true, true, true, true, true, true, false] hk
    · replace hf := iff' hc hf
      refine Go_iload_n (pc := 17) C dX7_bearer_17 rfl ?_
      refine Go_iload (pc := 18) C dX7_bearer_18 rfl ?_
      refine Go_ishr (pc := 20) C dX7_bearer_20 ?_
      refine Go_iconst (pc := 21) (v := 1) C dX7_bearer_21 ci_1 ?_
      refine Go_iand (pc := 22) C dX7_bearer_22 ?_
      refine Go_iconst (pc := 23) (v := 1) C dX7_bearer_23 ci_1 ?_
      refine Go_icmp_ne (pc := 24) (tgt := 113) C dX7_bearer_24 (by decide) (fun hc => ?_) (fun hc => ?_)
      · replace hf := ift hc hf
        refine Go_aload_n (pc := 27) C dX7_bearer_27 rfl ?_
        refine Go_aload_n (pc := 28) C dX7_bearer_28 rfl ?_
        refine Go_get (pc := 29) C 0 3 rfl rfl inX7 (by decide) mw_632 rfl dX7_bearer_29 ?_
        refine Go_iload (pc := 32) C dX7_bearer_32 rfl ?_
        obtain ⟨hb, hf⟩ := ifs hf
        refine Go_iald (pc := 34) C 3 rfl (inb_in hb) dX7_bearer_34 ?_
        obtain ⟨r2, hr2, hf⟩ := bnd hf
        refine Go_callV1 (pc := 35) (ws1 := (w7 K a s0)) C 0 (0 :: 1 :: 2 :: 3 :: 4 :: 5 :: 6 :: 7 :: 8 :: 9 :: 10 :: 11 :: 12 :: 13 :: []) (kX7_roomOf l K (pk a (0 :: 1 :: 2 :: 3 :: 4 :: 5 :: 6 :: 7 :: 8 :: 9 :: 10 :: 11 :: 12 :: 13 :: [])) s0 (s0.2.2.2.1 q1.2.2.toNatClampNeg) r2 hr2) ycX7_roomOf mw_812 (Nat.le_of_ble_eq_true rfl) rfl rfl rfl rfl (Nat.le_of_ble_eq_true rfl) ⟨Nat.zero_le _, Nat.zero_le _⟩ dX7_bearer_35 (ll_149 _ _ _) rfl rfl (Wr_same (ll_149 _ _ _)) ?_
        refine Go_aload_n (pc := 38) C dX7_bearer_38 rfl ?_
        refine Go_iload_n (pc := 39) C dX7_bearer_39 rfl ?_
        obtain ⟨r3, hr3, hf⟩ := bnd hf
        refine Go_callV1 (pc := 40) (ws1 := (w7 K a s0)) C 0 (0 :: 1 :: 2 :: 3 :: 4 :: 5 :: 6 :: 7 :: 8 :: 9 :: 10 :: 11 :: 12 :: 13 :: []) (kX7_roomOf l K (pk a (0 :: 1 :: 2 :: 3 :: 4 :: 5 :: 6 :: 7 :: 8 :: 9 :: 10 :: 11 :: 12 :: 13 :: [])) s0 p2 r3 hr3) ycX7_roomOf mw_812 (Nat.le_of_ble_eq_true rfl) rfl rfl rfl rfl (Nat.le_of_ble_eq_true rfl) ⟨Nat.zero_le _, Nat.zero_le _⟩ dX7_bearer_40 (ll_149 _ _ _) rfl rfl (Wr_same (ll_149 _ _ _)) ?_
        refine Go_icmp_ne (pc := 43) (tgt := 113) C dX7_bearer_43 (by decide) (fun hc => ?_) (fun hc => ?_)
        · replace hf := ift hc hf
          refine Go_aload_n (pc := 46) C dX7_bearer_46 rfl ?_
          refine Go_get (pc := 47) C 0 3 rfl rfl inX7 (by decide) mw_632 rfl dX7_bearer_47 ?_
          refine Go_iload (pc := 50) C dX7_bearer_50 rfl ?_
          obtain ⟨hb, hf⟩ := ifs hf
          refine Go_iald (pc := 52) C 3 rfl (inb_in hb) dX7_bearer_52 ?_
          refine Go_bipush (pc := 53) (v := 12) C dX7_bearer_53 cb_12 ?_
          refine Go_idiv (pc := 55) C dX7_bearer_55 (by decide) ?_
          refine Go_iload_n (pc := 56) C dX7_bearer_56 rfl ?_
          refine Go_bipush (pc := 57) (v := 12) C dX7_bearer_57 cb_12 ?_
          refine Go_idiv (pc := 59) C dX7_bearer_59 (by decide) ?_
          obtain ⟨r4, hr4, hf⟩ := bnd hf
          refine Go_callS1 (pc := 60) (ws1 := (w7 K a s0)) C [] (kX7_gap l K ((s0.2.2.2.1 q1.2.2.toNatClampNeg) / (12 : Int32)) (p2 / (12 : Int32)) r4 hr4) ycX7_gap mw_816 (Nat.le_of_ble_eq_true rfl) rfl rfl (Nat.le_of_ble_eq_true rfl) ⟨Nat.zero_le _, Nat.zero_le _⟩ dX7_bearer_60 rfl rfl rfl (Wr_same rfl) ?_
          refine Go_aload_n (pc := 63) C dX7_bearer_63 rfl ?_
          refine Go_get (pc := 64) C 0 3 rfl rfl inX7 (by decide) mw_632 rfl dX7_bearer_64 ?_
          refine Go_iload (pc := 67) C dX7_bearer_67 rfl ?_
          obtain ⟨hb, hf⟩ := ifs hf
          refine Go_iald (pc := 69) C 3 rfl (inb_in hb) dX7_bearer_69 ?_
          refine Go_bipush (pc := 70) (v := 12) C dX7_bearer_70 cb_12 ?_
          refine Go_irem (pc := 72) C dX7_bearer_72 (by decide) ?_
          refine Go_iload_n (pc := 73) C dX7_bearer_73 rfl ?_
          refine Go_bipush (pc := 74) (v := 12) C dX7_bearer_74 cb_12 ?_
          refine Go_irem (pc := 76) C dX7_bearer_76 (by decide) ?_
          obtain ⟨r5, hr5, hf⟩ := bnd hf
          refine Go_callS1 (pc := 77) (ws1 := (w7 K a s0)) C [] (kX7_gap l K ((s0.2.2.2.1 q1.2.2.toNatClampNeg) - (s0.2.2.2.1 q1.2.2.toNatClampNeg) / (12 : Int32) * (12 : Int32)) (p2 - p2 / (12 : Int32) * (12 : Int32)) r5 hr5) ycX7_gap mw_816 (Nat.le_of_ble_eq_true rfl) rfl rfl (Nat.le_of_ble_eq_true rfl) ⟨Nat.zero_le _, Nat.zero_le _⟩ dX7_bearer_77 rfl rfl rfl (Wr_same rfl) ?_
          refine Go_iadd (pc := 80) C dX7_bearer_80 ?_
          obtain ⟨v6, hv6, hf⟩ := bnd hf
          refine Go_topi (Option.some.inj hv6) ?_
          refine Go_istore (pc := 81) C dX7_bearer_81 (by decide) ?_
          refine Go_iload (pc := 83) C dX7_bearer_83 rfl ?_
          refine Go_iload (pc := 85) C dX7_bearer_85 rfl ?_
          refine Go_icmp_ge (pc := 87) (tgt := 95) C dX7_bearer_87 (by decide) (fun hc => ?_) (fun hc => ?_)
          · replace hf := ift hc hf
            refine Go_iload_n (pc := 95) C dX7_bearer_95 rfl ?_
            refine Go_istore_n (pc := 96) C dX7_bearer_96 (by decide) ?_
            refine Go_iload (pc := 97) C dX7_bearer_97 rfl ?_
            refine Go_iload (pc := 99) C dX7_bearer_99 rfl ?_
            refine Go_icmp_ge (pc := 101) (tgt := 109) C dX7_bearer_101 (by decide) (fun hc => ?_) (fun hc => ?_)
            · replace hf := ift hc hf
              refine Go_iload (pc := 109) C dX7_bearer_109 rfl ?_
              refine Go_istore (pc := 111) C dX7_bearer_111 (by decide) ?_
              obtain ⟨v7, hv7, hf⟩ := bnd hf
              refine Go_iinc (pc := 113) (v := v7) C dX7_bearer_113 rfl (by rw [ci_1]; exact Option.some.inj hv7) ?_
              refine Go_goto (pc := 116) (tgt := 10) C dX7_bearer_116 (by decide) ?_
              obtain rfl := Option.some.inj hf
              exact Go_mask [true, true, true, true, true, true, false] hk
            · replace hf := iff' hc hf
              refine Go_iload (pc := 104) C dX7_bearer_104 rfl ?_
              refine Go_goto (pc := 106) (tgt := 111) C dX7_bearer_106 (by decide) ?_
              refine Go_istore (pc := 111) C dX7_bearer_111 (by decide) ?_
              obtain ⟨v8, hv8, hf⟩ := bnd hf
              refine Go_iinc (pc := 113) (v := v8) C dX7_bearer_113 rfl (by rw [ci_1]; exact Option.some.inj hv8) ?_
              refine Go_goto (pc := 116) (tgt := 10) C dX7_bearer_116 (by decide) ?_
              obtain rfl := Option.some.inj hf
              exact Go_mask [true, true, true, true, true, true, false] hk
          · replace hf := iff' hc hf
            refine Go_iload (pc := 90) C dX7_bearer_90 rfl ?_
            refine Go_goto (pc := 92) (tgt := 96) C dX7_bearer_92 (by decide) ?_
            refine Go_istore_n (pc := 96) C dX7_bearer_96 (by decide) ?_
            refine Go_iload (pc := 97) C dX7_bearer_97 rfl ?_
            refine Go_iload (pc := 99) C dX7_bearer_99 rfl ?_
            refine Go_icmp_ge (pc := 101) (tgt := 109) C dX7_bearer_101 (by decide) (fun hc => ?_) (fun hc => ?_)
            · replace hf := ift hc hf
              refine Go_iload (pc := 109) C dX7_bearer_109 rfl ?_
              refine Go_istore (pc := 111) C dX7_bearer_111 (by decide) ?_
              obtain ⟨v9, hv9, hf⟩ := bnd hf
              refine Go_iinc (pc := 113) (v := v9) C dX7_bearer_113 rfl (by rw [ci_1]; exact Option.some.inj hv9) ?_
              refine Go_goto (pc := 116) (tgt := 10) C dX7_bearer_116 (by decide) ?_
              obtain rfl := Option.some.inj hf
              exact Go_mask [true, true, true, true, true, true, false] hk
            · replace hf := iff' hc hf
              refine Go_iload (pc := 104) C dX7_bearer_104 rfl ?_
              refine Go_goto (pc := 106) (tgt := 111) C dX7_bearer_106 (by decide) ?_
              refine Go_istore (pc := 111) C dX7_bearer_111 (by decide) ?_
              obtain ⟨v10, hv10, hf⟩ := bnd hf
              refine Go_iinc (pc := 113) (v := v10) C dX7_bearer_113 rfl (by rw [ci_1]; exact Option.some.inj hv10) ?_
              refine Go_goto (pc := 116) (tgt := 10) C dX7_bearer_116 (by decide) ?_
              obtain rfl := Option.some.inj hf
              exact Go_mask [true, true, true, true, true, true, false] hk
        · replace hf := iff' hc hf
          obtain ⟨v11, hv11, hf⟩ := bnd hf
          refine Go_iinc (pc := 113) (v := v11) C dX7_bearer_113 rfl (by rw [ci_1]; exact Option.some.inj hv11) ?_
          refine Go_goto (pc := 116) (tgt := 10) C dX7_bearer_116 (by decide) ?_
          obtain rfl := Option.some.inj hf
          exact Go_mask [true, true, true, true, true, true, false] hk
      · replace hf := iff' hc hf
        obtain ⟨v12, hv12, hf⟩ := bnd hf
        refine Go_iinc (pc := 113) (v := v12) C dX7_bearer_113 rfl (by rw [ci_1]; exact Option.some.inj hv12) ?_
        refine Go_goto (pc := 116) (tgt := 10) C dX7_bearer_116 (by decide) ?_
        obtain rfl := Option.some.inj hf
        exact Go_mask [true, true, true, true, true, true, false] hk
  · show Go _ _ _ _ _ _ _ _ _ _ _ _ _ _ _ _ _ _ _ _ _
    refine Go_iload_n (pc := 119) C dX7_bearer_119 rfl ?_
    obtain rfl := Option.some.inj hf
    exact Go_iret C hr rfl dX7_bearer_120
theorem ll_154 (K : KK) (a : Nat → Nat) (t0 : S7) (y : Nat → Int32) : List.set (w7 K a t0) 8 (a 8, .inl (K.2.1, 14, .inl y)) = (w7 K a ((t0.1, t0.2.1, t0.2.2.1, t0.2.2.2.1, t0.2.2.2.2.1, t0.2.2.2.2.2.1, t0.2.2.2.2.2.2.1, t0.2.2.2.2.2.2.2.1, t0.2.2.2.2.2.2.2.2.1, t0.2.2.2.2.2.2.2.2.2.1, t0.2.2.2.2.2.2.2.2.2.2.1, y, t0.2.2.2.2.2.2.2.2.2.2.2.2))) := rfl
theorem ll_155 (K : KK) (a : Nat → Nat) (t0 : S7) (y : Nat → Int32) : List.set (w7 K a t0) 9 (a 9, .inl (K.2.1, 14, .inl y)) = (w7 K a ((t0.1, t0.2.1, t0.2.2.1, t0.2.2.2.1, t0.2.2.2.2.1, t0.2.2.2.2.2.1, t0.2.2.2.2.2.2.1, t0.2.2.2.2.2.2.2.1, t0.2.2.2.2.2.2.2.2.1, t0.2.2.2.2.2.2.2.2.2.1, t0.2.2.2.2.2.2.2.2.2.2.1, t0.2.2.2.2.2.2.2.2.2.2.2.1, y, t0.2.2.2.2.2.2.2.2.2.2.2.2.2))) := rfl
def fX7_bears_L6  (q2 : Int32 × (Nat → Int32) × (Nat → Int32)) : Option ((Int32 × (Nat → Int32) × (Nat → Int32)) ⊕ (Int32 × (Nat → Int32) × (Nat → Int32))) := (if (14 : Int32) ≤ q2.1 then some (.inr (q2.1, q2.2.1, q2.2.2)) else (if 0 ≤ q2.1 ∧ q2.1.toNatClampNeg < 14 then (if 0 ≤ q2.1 ∧ q2.1.toNatClampNeg < 14 then Option.bind (some (q2.1 + (1 : Int32))) (fun v3 => some (.inl (v3, upd q2.2.1 q2.1.toNatClampNeg (0 : Int32), upd q2.2.2 q2.1.toNatClampNeg (0 : Int32)))) else none) else none))
def fX7_bears_L34 (p1 : Int32) (r1 : S7) (q5 : Int32 × (Nat → Int32) × (Nat → Int32)) : Option ((Int32 × (Nat → Int32) × (Nat → Int32)) ⊕ (Int32 × (Nat → Int32) × (Nat → Int32))) := (if (96 : Int32) ≤ q5.1 then some (.inr (q5.1, q5.2.1, q5.2.2)) else Option.bind (fX7_bearer ((r1.1, r1.2.1, r1.2.2.1, r1.2.2.2.1, r1.2.2.2.2.1, r1.2.2.2.2.2.1, r1.2.2.2.2.2.2.1, r1.2.2.2.2.2.2.2.1, r1.2.2.2.2.2.2.2.2.1, r1.2.2.2.2.2.2.2.2.2.1, r1.2.2.2.2.2.2.2.2.2.2.1, q5.2.1, q5.2.2, r1.2.2.2.2.2.2.2.2.2.2.2.2.2)) p1 q5.1) (fun r6 => (if r6 = (-1 : Int32) then (if 0 ≤ (13 : Int32) ∧ (13 : Int32).toNatClampNeg < 14 then (if 0 ≤ q5.1 ∧ q5.1.toNatClampNeg < 96 then (if 0 ≤ (13 : Int32) ∧ (13 : Int32).toNatClampNeg < 14 then (if 0 ≤ (13 : Int32) ∧ (13 : Int32).toNatClampNeg < 14 then (if 0 ≤ (13 : Int32) ∧ (13 : Int32).toNatClampNeg < 14 then Option.bind (some (q5.1 + (1 : Int32))) (fun v7 => some (.inl (v7, upd q5.2.1 (13 : Int32).toNatClampNeg ((q5.2.1 (13 : Int32).toNatClampNeg) + (r1.2.1 q5.1.toNatClampNeg)), upd q5.2.2 (13 : Int32).toNatClampNeg ((q5.2.2 (13 : Int32).toNatClampNeg) + (1 : Int32))))) else none) else none) else none) else none) else none) else (if 0 ≤ r6 ∧ r6.toNatClampNeg < 14 then (if 0 ≤ q5.1 ∧ q5.1.toNatClampNeg < 96 then (if 0 ≤ r6 ∧ r6.toNatClampNeg < 14 then (if 0 ≤ r6 ∧ r6.toNatClampNeg < 14 then (if 0 ≤ r6 ∧ r6.toNatClampNeg < 14 then Option.bind (some (q5.1 + (1 : Int32))) (fun v8 => some (.inl (v8, upd q5.2.1 r6.toNatClampNeg ((q5.2.1 r6.toNatClampNeg) + (r1.2.1 q5.1.toNatClampNeg)), upd q5.2.2 r6.toNatClampNeg ((q5.2.2 r6.toNatClampNeg) + (1 : Int32))))) else none) else none) else none) else none) else none))))
def fX7_bears (s0 : S7) (p1 : Int32) : Option (S7) := Option.bind (fX7_setRooms s0) (fun r1 => Option.bind (loopF (fX7_bears_L6) 5000 ((0 : Int32), r1.2.2.2.2.2.2.2.2.2.2.2.1, r1.2.2.2.2.2.2.2.2.2.2.2.2.1)) (fun z4 => Option.bind (loopF (fX7_bears_L34 p1 r1) 5000 ((0 : Int32), z4.2.1, z4.2.2)) (fun z9 => some ((r1.1, r1.2.1, r1.2.2.1, r1.2.2.2.1, r1.2.2.2.2.1, r1.2.2.2.2.2.1, r1.2.2.2.2.2.2.1, r1.2.2.2.2.2.2.2.1, r1.2.2.2.2.2.2.2.2.1, r1.2.2.2.2.2.2.2.2.2.1, r1.2.2.2.2.2.2.2.2.2.2.1, z9.2.1, z9.2.2, r1.2.2.2.2.2.2.2.2.2.2.2.2.2)))))
theorem ycX7_bears : CalV yX7_bears cX7_bears 5 none 1 := ⟨mw_799, mw_69, mw_798, mw_29, ⟨by decide, by decide, by decide +kernel⟩, by decide⟩
set_option maxHeartbeats 4000000 in
set_option maxRecDepth 100000 in
theorem kX7_bears (l : Launch) (K : KK) (a : Nat → Nat) (s0 : S7) (p1 : Int32) (res : S7) (hf : fX7_bears s0 p1 = some res) : Ct l K yX7_bears cX7_bears 5 none 2 [.ref (a 0), .int p1] (w7 K a s0) (none) (w7 K a res) := by
  refine Ct_of2 (by decide) rfl (Nat.le_of_ble_eq_true rfl) ?_
  intro p e σ m args below meth c C hr
  unfold fX7_bears at hf
  refine Go_aload_n (pc := 0) C dX7_bears_0 rfl ?_
  obtain ⟨r1, hr1, hf⟩ := bnd hf
  refine Go_callV0 (pc := 1) (ws1 := (w7 K a r1)) C 0 (0 :: 1 :: 2 :: 3 :: 4 :: 5 :: 6 :: 7 :: 8 :: 9 :: 10 :: 11 :: 12 :: 13 :: []) (kX7_setRooms l K (pk a (0 :: 1 :: 2 :: 3 :: 4 :: 5 :: 6 :: 7 :: 8 :: 9 :: 10 :: 11 :: 12 :: 13 :: [])) s0 r1 hr1) ycX7_setRooms mw_800 (Nat.le_of_ble_eq_true rfl) rfl rfl rfl rfl (Nat.le_of_ble_eq_true rfl) ⟨Nat.zero_le _, Nat.zero_le _⟩ dX7_bears_1 (ll_149 _ _ _) rfl rfl (ll_150 _ _ _ _) ?_
  refine Go_iconst (pc := 4) (v := 0) C dX7_bears_4 ci_0 ?_
  refine Go_istore_n (pc := 5) C dX7_bears_5 (by decide) ?_
  obtain ⟨z4, hz4, hf⟩ := bnd hf
  refine Go_mask [true, true, true, false, false] ?_
  refine loopF_go (step := (fX7_bears_L6)) (fun q2 => Go p l e (rmc 2 0 0) σ m args below meth c K (inW (w7 K a s0)) σ.heap 5 0 0 (MQ below (CtQ K (w7 K a s0) (none) (w7 K a res)) args σ 0 0 (inW (w7 K a s0))) (w7 K a ((r1.1, r1.2.1, r1.2.2.1, r1.2.2.2.1, r1.2.2.2.2.1, r1.2.2.2.2.2.1, r1.2.2.2.2.2.2.1, r1.2.2.2.2.2.2.2.1, r1.2.2.2.2.2.2.2.2.1, r1.2.2.2.2.2.2.2.2.2.1, r1.2.2.2.2.2.2.2.2.2.2.1, q2.2.1, q2.2.2, r1.2.2.2.2.2.2.2.2.2.2.2.2.2))) 6 [some (.ref (a 0)), some (.int p1), some (.int q2.1), none, none] []) (fun z4 => Go p l e (rmc 2 0 0) σ m args below meth c K (inW (w7 K a s0)) σ.heap 5 0 0 (MQ below (CtQ K (w7 K a s0) (none) (w7 K a res)) args σ 0 0 (inW (w7 K a s0))) (w7 K a ((r1.1, r1.2.1, r1.2.2.1, r1.2.2.2.1, r1.2.2.2.2.1, r1.2.2.2.2.2.1, r1.2.2.2.2.2.2.1, r1.2.2.2.2.2.2.2.1, r1.2.2.2.2.2.2.2.2.1, r1.2.2.2.2.2.2.2.2.2.1, r1.2.2.2.2.2.2.2.2.2.2.1, z4.2.1, z4.2.2, r1.2.2.2.2.2.2.2.2.2.2.2.2.2))) 32 [some (.ref (a 0)), some (.int p1), some (.int z4.1), none, none] []) ?_ _ _ _ hz4 ?_
  · intro q2 x hf hk
    unfold fX7_bears_L6 at hf
    refine Go_iload_n (pc := 6) C dX7_bears_6 rfl ?_
    refine Go_bipush (pc := 7) (v := 14) C dX7_bears_7 cb_14 ?_
    refine Go_icmp_ge (pc := 9) (tgt := 32) C dX7_bears_9 (by decide) (fun hc => ?_) (fun hc => ?_)
    · replace hf := ift hc hf
      obtain rfl := Option.some.inj hf
      exact Go_mask [true, true, true, false, false] hk
    · replace hf := iff' hc hf
      refine Go_aload_n (pc := 12) C dX7_bears_12 rfl ?_
      refine Go_get (pc := 13) C 0 11 rfl rfl inX7 (by decide) mw_640 rfl dX7_bears_13 ?_
      refine Go_iload_n (pc := 16) C dX7_bears_16 rfl ?_
      refine Go_iconst (pc := 17) (v := 0) C dX7_bears_17 ci_0 ?_
      obtain ⟨hb, hf⟩ := ifs hf
      refine Go_iast (pc := 18) (ws1 := (w7 K a ((r1.1, r1.2.1, r1.2.2.1, r1.2.2.2.1, r1.2.2.2.2.1, r1.2.2.2.2.2.1, r1.2.2.2.2.2.2.1, r1.2.2.2.2.2.2.2.1, r1.2.2.2.2.2.2.2.2.1, r1.2.2.2.2.2.2.2.2.2.1, r1.2.2.2.2.2.2.2.2.2.2.1, upd q2.2.1 q2.1.toNatClampNeg (0 : Int32), q2.2.2, r1.2.2.2.2.2.2.2.2.2.2.2.2.2)))) C 8 rfl (inb_in hb) dX7_bears_18 (ll_154 _ _ _ _) ?_
      refine Go_aload_n (pc := 19) C dX7_bears_19 rfl ?_
      refine Go_get (pc := 20) C 0 12 rfl rfl inX7 (by decide) mw_641 rfl dX7_bears_20 ?_
      refine Go_iload_n (pc := 23) C dX7_bears_23 rfl ?_
      refine Go_iconst (pc := 24) (v := 0) C dX7_bears_24 ci_0 ?_
      obtain ⟨hb, hf⟩ := ifs hf
      refine Go_iast (pc := 25) (ws1 := (w7 K a ((r1.1, r1.2.1, r1.2.2.1, r1.2.2.2.1, r1.2.2.2.2.1, r1.2.2.2.2.2.1, r1.2.2.2.2.2.2.1, r1.2.2.2.2.2.2.2.1, r1.2.2.2.2.2.2.2.2.1, r1.2.2.2.2.2.2.2.2.2.1, r1.2.2.2.2.2.2.2.2.2.2.1, upd q2.2.1 q2.1.toNatClampNeg (0 : Int32), upd q2.2.2 q2.1.toNatClampNeg (0 : Int32), r1.2.2.2.2.2.2.2.2.2.2.2.2.2)))) C 9 rfl (inb_in hb) dX7_bears_25 (ll_155 _ _ _ _) ?_
      obtain ⟨v3, hv3, hf⟩ := bnd hf
      refine Go_iinc (pc := 26) (v := v3) C dX7_bears_26 rfl (by rw [ci_1]; exact Option.some.inj hv3) ?_
      refine Go_goto (pc := 29) (tgt := 6) C dX7_bears_29 (by decide) ?_
      obtain rfl := Option.some.inj hf
      exact Go_mask [true, true, true, false, false] hk
  · show Go _ _ _ _ _ _ _ _ _ _ _ _ _ _ _ _ _ _ _ _ _
    refine Go_iconst (pc := 32) (v := 0) C dX7_bears_32 ci_0 ?_
    refine Go_istore_n (pc := 33) C dX7_bears_33 (by decide) ?_
    obtain ⟨z9, hz9, hf⟩ := bnd hf
    refine Go_mask [true, true, true, false, false] ?_
    refine loopF_go (step := (fX7_bears_L34 p1 r1)) (fun q5 => Go p l e (rmc 2 0 0) σ m args below meth c K (inW (w7 K a s0)) σ.heap 5 0 0 (MQ below (CtQ K (w7 K a s0) (none) (w7 K a res)) args σ 0 0 (inW (w7 K a s0))) (w7 K a ((r1.1, r1.2.1, r1.2.2.1, r1.2.2.2.1, r1.2.2.2.2.1, r1.2.2.2.2.2.1, r1.2.2.2.2.2.2.1, r1.2.2.2.2.2.2.2.1, r1.2.2.2.2.2.2.2.2.1, r1.2.2.2.2.2.2.2.2.2.1, r1.2.2.2.2.2.2.2.2.2.2.1, q5.2.1, q5.2.2, r1.2.2.2.2.2.2.2.2.2.2.2.2.2))) 34 [some (.ref (a 0)), some (.int p1), some (.int q5.1), none, none] []) (fun z9 => Go p l e (rmc 2 0 0) σ m args below meth c K (inW (w7 K a s0)) σ.heap 5 0 0 (MQ below (CtQ K (w7 K a s0) (none) (w7 K a res)) args σ 0 0 (inW (w7 K a s0))) (w7 K a ((r1.1, r1.2.1, r1.2.2.1, r1.2.2.2.1, r1.2.2.2.2.1, r1.2.2.2.2.2.1, r1.2.2.2.2.2.2.1, r1.2.2.2.2.2.2.2.1, r1.2.2.2.2.2.2.2.2.1, r1.2.2.2.2.2.2.2.2.2.1, r1.2.2.2.2.2.2.2.2.2.2.1, z9.2.1, z9.2.2, r1.2.2.2.2.2.2.2.2.2.2.2.2.2))) 93 [some (.ref (a 0)), some (.int p1), some (.int z9.1), none, none] []) ?_ _ _ _ hz9 ?_
    · intro q5 x hf hk
      unfold fX7_bears_L34 at hf
      refine Go_iload_n (pc := 34) C dX7_bears_34 rfl ?_
      refine Go_bipush (pc := 35) (v := 96) C dX7_bears_35 cb_96 ?_
      refine Go_icmp_ge (pc := 37) (tgt := 93) C dX7_bears_37 (by decide) (fun hc => ?_) (fun hc => ?_)
      · replace hf := ift hc hf
        obtain rfl := Option.some.inj hf
        exact Go_mask [true, true, true, false, false] hk
      · replace hf := iff' hc hf
        refine Go_aload_n (pc := 40) C dX7_bears_40 rfl ?_
        refine Go_iload_n (pc := 41) C dX7_bears_41 rfl ?_
        refine Go_iload_n (pc := 42) C dX7_bears_42 rfl ?_
        obtain ⟨r6, hr6, hf⟩ := bnd hf
        refine Go_callV1 (pc := 43) (ws1 := (w7 K a ((r1.1, r1.2.1, r1.2.2.1, r1.2.2.2.1, r1.2.2.2.2.1, r1.2.2.2.2.2.1, r1.2.2.2.2.2.2.1, r1.2.2.2.2.2.2.2.1, r1.2.2.2.2.2.2.2.2.1, r1.2.2.2.2.2.2.2.2.2.1, r1.2.2.2.2.2.2.2.2.2.2.1, q5.2.1, q5.2.2, r1.2.2.2.2.2.2.2.2.2.2.2.2.2)))) C 0 (0 :: 1 :: 2 :: 3 :: 4 :: 5 :: 6 :: 7 :: 8 :: 9 :: 10 :: 11 :: 12 :: 13 :: []) (kX7_bearer l K (pk a (0 :: 1 :: 2 :: 3 :: 4 :: 5 :: 6 :: 7 :: 8 :: 9 :: 10 :: 11 :: 12 :: 13 :: [])) ((r1.1, r1.2.1, r1.2.2.1, r1.2.2.2.1, r1.2.2.2.2.1, r1.2.2.2.2.2.1, r1.2.2.2.2.2.2.1, r1.2.2.2.2.2.2.2.1, r1.2.2.2.2.2.2.2.2.1, r1.2.2.2.2.2.2.2.2.2.1, r1.2.2.2.2.2.2.2.2.2.2.1, q5.2.1, q5.2.2, r1.2.2.2.2.2.2.2.2.2.2.2.2.2)) p1 q5.1 r6 hr6) ycX7_bearer mw_808 (Nat.le_of_ble_eq_true rfl) rfl rfl rfl rfl (Nat.le_of_ble_eq_true rfl) ⟨Nat.zero_le _, Nat.zero_le _⟩ dX7_bears_43 (ll_149 _ _ _) rfl rfl (Wr_same (ll_149 _ _ _)) ?_
        refine Go_istore_n (pc := 46) C dX7_bears_46 (by decide) ?_
        refine Go_iload_n (pc := 47) C dX7_bears_47 rfl ?_
        refine Go_iconst (pc := 48) (v := -1) C dX7_bears_48 ci_m1 ?_
        refine Go_icmp_ne (pc := 49) (tgt := 57) C dX7_bears_49 (by decide) (fun hc => ?_) (fun hc => ?_)
        · replace hf := ift hc hf
          refine Go_bipush (pc := 52) (v := 13) C dX7_bears_52 cb_13 ?_
          refine Go_goto (pc := 54) (tgt := 58) C dX7_bears_54 (by decide) ?_
          refine Go_istore (pc := 58) C dX7_bears_58 (by decide) ?_
          refine Go_aload_n (pc := 60) C dX7_bears_60 rfl ?_
          refine Go_get (pc := 61) C 0 11 rfl rfl inX7 (by decide) mw_640 rfl dX7_bears_61 ?_
          refine Go_iload (pc := 64) C dX7_bears_64 rfl ?_
          refine Go_dup2 (pc := 66) C dX7_bears_66 rfl rfl ?_
          obtain ⟨hb, hf⟩ := ifs hf
          refine Go_iald (pc := 67) C 8 rfl (inb_in hb) dX7_bears_67 ?_
          refine Go_aload_n (pc := 68) C dX7_bears_68 rfl ?_
          refine Go_get (pc := 69) C 0 1 rfl rfl inX7 (by decide) mw_630 rfl dX7_bears_69 ?_
          refine Go_iload_n (pc := 72) C dX7_bears_72 rfl ?_
          obtain ⟨hb, hf⟩ := ifs hf
          refine Go_iald (pc := 73) C 2 rfl (inb_in hb) dX7_bears_73 ?_
          refine Go_iadd (pc := 74) C dX7_bears_74 ?_
          obtain ⟨hb, hf⟩ := ifs hf
          refine Go_iast (pc := 75) (ws1 := (w7 K a ((r1.1, r1.2.1, r1.2.2.1, r1.2.2.2.1, r1.2.2.2.2.1, r1.2.2.2.2.2.1, r1.2.2.2.2.2.2.1, r1.2.2.2.2.2.2.2.1, r1.2.2.2.2.2.2.2.2.1, r1.2.2.2.2.2.2.2.2.2.1, r1.2.2.2.2.2.2.2.2.2.2.1, upd q5.2.1 (13 : Int32).toNatClampNeg ((q5.2.1 (13 : Int32).toNatClampNeg) + (r1.2.1 q5.1.toNatClampNeg)), q5.2.2, r1.2.2.2.2.2.2.2.2.2.2.2.2.2)))) C 8 rfl (inb_in hb) dX7_bears_75 (ll_154 _ _ _ _) ?_
          refine Go_aload_n (pc := 76) C dX7_bears_76 rfl ?_
          refine Go_get (pc := 77) C 0 12 rfl rfl inX7 (by decide) mw_641 rfl dX7_bears_77 ?_
          refine Go_iload (pc := 80) C dX7_bears_80 rfl ?_
          refine Go_dup2 (pc := 82) C dX7_bears_82 rfl rfl ?_
          obtain ⟨hb, hf⟩ := ifs hf
          refine Go_iald (pc := 83) C 9 rfl (inb_in hb) dX7_bears_83 ?_
          refine Go_iconst (pc := 84) (v := 1) C dX7_bears_84 ci_1 ?_
          refine Go_iadd (pc := 85) C dX7_bears_85 ?_
          obtain ⟨hb, hf⟩ := ifs hf
          refine Go_iast (pc := 86) (ws1 := (w7 K a ((r1.1, r1.2.1, r1.2.2.1, r1.2.2.2.1, r1.2.2.2.2.1, r1.2.2.2.2.2.1, r1.2.2.2.2.2.2.1, r1.2.2.2.2.2.2.2.1, r1.2.2.2.2.2.2.2.2.1, r1.2.2.2.2.2.2.2.2.2.1, r1.2.2.2.2.2.2.2.2.2.2.1, upd q5.2.1 (13 : Int32).toNatClampNeg ((q5.2.1 (13 : Int32).toNatClampNeg) + (r1.2.1 q5.1.toNatClampNeg)), upd q5.2.2 (13 : Int32).toNatClampNeg ((q5.2.2 (13 : Int32).toNatClampNeg) + (1 : Int32)), r1.2.2.2.2.2.2.2.2.2.2.2.2.2)))) C 9 rfl (inb_in hb) dX7_bears_86 (ll_155 _ _ _ _) ?_
          obtain ⟨v7, hv7, hf⟩ := bnd hf
          refine Go_iinc (pc := 87) (v := v7) C dX7_bears_87 rfl (by rw [ci_1]; exact Option.some.inj hv7) ?_
          refine Go_goto (pc := 90) (tgt := 34) C dX7_bears_90 (by decide) ?_
          obtain rfl := Option.some.inj hf
          exact Go_mask [true, true, true, false, false] hk
        · replace hf := iff' hc hf
          refine Go_iload_n (pc := 57) C dX7_bears_57 rfl ?_
          refine Go_istore (pc := 58) C dX7_bears_58 (by decide) ?_
          refine Go_aload_n (pc := 60) C dX7_bears_60 rfl ?_
          refine Go_get (pc := 61) C 0 11 rfl rfl inX7 (by decide) mw_640 rfl dX7_bears_61 ?_
          refine Go_iload (pc := 64) C dX7_bears_64 rfl ?_
          refine Go_dup2 (pc := 66) C dX7_bears_66 rfl rfl ?_
          obtain ⟨hb, hf⟩ := ifs hf
          refine Go_iald (pc := 67) C 8 rfl (inb_in hb) dX7_bears_67 ?_
          refine Go_aload_n (pc := 68) C dX7_bears_68 rfl ?_
          refine Go_get (pc := 69) C 0 1 rfl rfl inX7 (by decide) mw_630 rfl dX7_bears_69 ?_
          refine Go_iload_n (pc := 72) C dX7_bears_72 rfl ?_
          obtain ⟨hb, hf⟩ := ifs hf
          refine Go_iald (pc := 73) C 2 rfl (inb_in hb) dX7_bears_73 ?_
          refine Go_iadd (pc := 74) C dX7_bears_74 ?_
          obtain ⟨hb, hf⟩ := ifs hf
          refine Go_iast (pc := 75) (ws1 := (w7 K a ((r1.1, r1.2.1, r1.2.2.1, r1.2.2.2.1, r1.2.2.2.2.1, r1.2.2.2.2.2.1, r1.2.2.2.2.2.2.1, r1.2.2.2.2.2.2.2.1, r1.2.2.2.2.2.2.2.2.1, r1.2.2.2.2.2.2.2.2.2.1, r1.2.2.2.2.2.2.2.2.2.2.1, upd q5.2.1 r6.toNatClampNeg ((q5.2.1 r6.toNatClampNeg) + (r1.2.1 q5.1.toNatClampNeg)), q5.2.2, r1.2.2.2.2.2.2.2.2.2.2.2.2.2)))) C 8 rfl (inb_in hb) dX7_bears_75 (ll_154 _ _ _ _) ?_
          refine Go_aload_n (pc := 76) C dX7_bears_76 rfl ?_
          refine Go_get (pc := 77) C 0 12 rfl rfl inX7 (by decide) mw_641 rfl dX7_bears_77 ?_
          refine Go_iload (pc := 80) C dX7_bears_80 rfl ?_
          refine Go_dup2 (pc := 82) C dX7_bears_82 rfl rfl ?_
          obtain ⟨hb, hf⟩ := ifs hf
          refine Go_iald (pc := 83) C 9 rfl (inb_in hb) dX7_bears_83 ?_
          refine Go_iconst (pc := 84) (v := 1) C dX7_bears_84 ci_1 ?_
          refine Go_iadd (pc := 85) C dX7_bears_85 ?_
          obtain ⟨hb, hf⟩ := ifs hf
          refine Go_iast (pc := 86) (ws1 := (w7 K a ((r1.1, r1.2.1, r1.2.2.1, r1.2.2.2.1, r1.2.2.2.2.1, r1.2.2.2.2.2.1, r1.2.2.2.2.2.2.1, r1.2.2.2.2.2.2.2.1, r1.2.2.2.2.2.2.2.2.1, r1.2.2.2.2.2.2.2.2.2.1, r1.2.2.2.2.2.2.2.2.2.2.1, upd q5.2.1 r6.toNatClampNeg ((q5.2.1 r6.toNatClampNeg) + (r1.2.1 q5.1.toNatClampNeg)), upd q5.2.2 r6.toNatClampNeg ((q5.2.2 r6.toNatClampNeg) + (1 : Int32)), r1.2.2.2.2.2.2.2.2.2.2.2.2.2)))) C 9 rfl (inb_in hb) dX7_bears_86 (ll_155 _ _ _ _) ?_
          obtain ⟨v8, hv8, hf⟩ := bnd hf
          refine Go_iinc (pc := 87) (v := v8) C dX7_bears_87 rfl (by rw [ci_1]; exact Option.some.inj hv8) ?_
          refine Go_goto (pc := 90) (tgt := 34) C dX7_bears_90 (by decide) ?_
          obtain rfl := Option.some.inj hf
          exact Go_mask [true, true, true, false, false] hk
    · show Go _ _ _ _ _ _ _ _ _ _ _ _ _ _ _ _ _ _ _ _ _
      obtain rfl := Option.some.inj hf
      exact Go_vret C hr rfl dX7_bears_93
def fX7_stands (s0 : S7) (p1 : Int32) : Option (Int32) := (if ((s0.2.2.2.2.2.1 >>> (p1 &&& 31)) &&& (1 : Int32)) = (1 : Int32) then some (1 : Int32) else some (0 : Int32))
theorem ycX7_stands : CalV yX7_stands cX7_stands 2 ((some .boolean)) 1 := ⟨mw_822, mw_69, mw_821, mw_34, ⟨by decide, by decide, by decide +kernel⟩, by decide⟩
set_option maxHeartbeats 4000000 in
set_option maxRecDepth 100000 in
theorem kX7_stands (l : Launch) (K : KK) (a : Nat → Nat) (s0 : S7) (p1 : Int32) (res : Int32) (hf : fX7_stands s0 p1 = some res) : Ct l K yX7_stands cX7_stands 2 ((some .boolean)) 0 [.ref (a 0), .int p1] (w7 K a s0) (some (.int res)) (w7 K a s0) := by
  refine Ct_of2 (by decide) rfl (Nat.le_of_ble_eq_true rfl) ?_
  intro p e σ m args below meth c C hr
  unfold fX7_stands at hf
  refine Go_aload_n (pc := 0) C dX7_stands_0 rfl ?_
  refine Go_get (pc := 1) C 0 5 rfl rfl inX7 (by decide) mw_634 rfl dX7_stands_1 ?_
  refine Go_iload_n (pc := 4) C dX7_stands_4 rfl ?_
  refine Go_ishr (pc := 5) C dX7_stands_5 ?_
  refine Go_iconst (pc := 6) (v := 1) C dX7_stands_6 ci_1 ?_
  refine Go_iand (pc := 7) C dX7_stands_7 ?_
  refine Go_iconst (pc := 8) (v := 1) C dX7_stands_8 ci_1 ?_
  refine Go_icmp_ne (pc := 9) (tgt := 16) C dX7_stands_9 (by decide) (fun hc => ?_) (fun hc => ?_)
  · replace hf := ift hc hf
    refine Go_iconst (pc := 12) (v := 1) C dX7_stands_12 ci_1 ?_
    refine Go_goto (pc := 13) (tgt := 17) C dX7_stands_13 (by decide) ?_
    obtain rfl := Option.some.inj hf
    exact Go_zret C hr (Or.inr rfl) rfl dX7_stands_17
  · replace hf := iff' hc hf
    refine Go_iconst (pc := 16) (v := 0) C dX7_stands_16 ci_0 ?_
    obtain rfl := Option.some.inj hf
    exact Go_zret C hr (Or.inl rfl) rfl dX7_stands_17
def fX7_ofBy (s0 : S7) (p1 : Int32) (p2 : Int32) : Option (Int32 × S7) := (if p2 = (0 : Int32) then (if 0 ≤ p1 ∧ p1.toNatClampNeg < 13 then some (s0.2.2.2.1 p1.toNatClampNeg, s0) else none) else (if p2 = (1 : Int32) then (if 0 ≤ p1 ∧ p1.toNatClampNeg < 13 then some (s0.2.2.2.2.1 p1.toNatClampNeg, s0) else none) else (if p2 = (2 : Int32) then some ((s0.2.2.2.2.2.1 >>> (p1 &&& 31)) &&& (1 : Int32), s0) else (if p2 = (3 : Int32) then Option.bind (fX7_bears s0 s0.2.2.2.2.2.1) (fun r1 => (if 0 ≤ p1 ∧ p1.toNatClampNeg < 14 then some (r1.2.2.2.2.2.2.2.2.2.2.2.1 p1.toNatClampNeg, r1) else none)) else (if p2 = (4 : Int32) then Option.bind (fX7_bears s0 s0.2.2.2.2.2.1) (fun r2 => (if 0 ≤ p1 ∧ p1.toNatClampNeg < 14 then some (r2.2.2.2.2.2.2.2.2.2.2.2.2.1 p1.toNatClampNeg, r2) else none)) else Option.bind (fX7_bears s0 s0.2.2.2.2.2.1) (fun r3 => Option.bind (fX7_stands r3 p1) (fun r4 => (if r4 = 0 then some ((-10000 : Int32), r3) else (if 0 ≤ p1 ∧ p1.toNatClampNeg < 13 then (if 0 ≤ p1 ∧ p1.toNatClampNeg < 14 then some ((r3.2.2.2.2.1 p1.toNatClampNeg) - (r3.2.2.2.2.2.2.2.2.2.2.2.1 p1.toNatClampNeg), r3) else none) else none)))))))))
theorem ycX7_ofBy : CalV yX7_ofBy cX7_ofBy 3 ((some .int)) 2 := ⟨mw_795, mw_69, mw_794, mw_28, ⟨by decide, by decide, by decide +kernel⟩, by decide⟩
set_option maxHeartbeats 4000000 in
set_option maxRecDepth 100000 in
theorem kX7_ofBy (l : Launch) (K : KK) (a : Nat → Nat) (s0 : S7) (p1 : Int32) (p2 : Int32) (res : Int32 × S7) (hf : fX7_ofBy s0 p1 p2 = some res) : Ct l K yX7_ofBy cX7_ofBy 3 ((some .int)) 3 [.ref (a 0), .int p1, .int p2] (w7 K a s0) (some (.int res.1)) (w7 K a res.2) := by
  refine Ct_of2 (by decide) rfl (Nat.le_of_ble_eq_true rfl) ?_
  intro p e σ m args below meth c C hr
  unfold fX7_ofBy at hf
  refine Go_iload_n (pc := 0) C dX7_ofBy_0 rfl ?_
  by_cases hx0 : p2 = (0 : Int32)
  · replace hf := ift hx0 hf
    refine Go_tabIn (pc := 1) (tgt := 36) C dX7_ofBy_1 hx0 (by decide) (by decide) rfl (by decide) ?_
    refine Go_aload_n (pc := 36) C dX7_ofBy_36 rfl ?_
    refine Go_get (pc := 37) C 0 3 rfl rfl inX7 (by decide) mw_632 rfl dX7_ofBy_37 ?_
    refine Go_iload_n (pc := 40) C dX7_ofBy_40 rfl ?_
    obtain ⟨hb, hf⟩ := ifs hf
    refine Go_iald (pc := 41) C 3 rfl (inb_in hb) dX7_ofBy_41 ?_
    obtain rfl := Option.some.inj hf
    exact Go_iret C hr rfl dX7_ofBy_42
  replace hf := iff' hx0 hf
  by_cases hx1 : p2 = (1 : Int32)
  · replace hf := ift hx1 hf
    refine Go_tabIn (pc := 1) (tgt := 43) C dX7_ofBy_1 hx1 (by decide) (by decide) rfl (by decide) ?_
    refine Go_aload_n (pc := 43) C dX7_ofBy_43 rfl ?_
    refine Go_get (pc := 44) C 0 4 rfl rfl inX7 (by decide) mw_633 rfl dX7_ofBy_44 ?_
    refine Go_iload_n (pc := 47) C dX7_ofBy_47 rfl ?_
    obtain ⟨hb, hf⟩ := ifs hf
    refine Go_iald (pc := 48) C 4 rfl (inb_in hb) dX7_ofBy_48 ?_
    obtain rfl := Option.some.inj hf
    exact Go_iret C hr rfl dX7_ofBy_49
  replace hf := iff' hx1 hf
  by_cases hx2 : p2 = (2 : Int32)
  · replace hf := ift hx2 hf
    refine Go_tabIn (pc := 1) (tgt := 50) C dX7_ofBy_1 hx2 (by decide) (by decide) rfl (by decide) ?_
    refine Go_aload_n (pc := 50) C dX7_ofBy_50 rfl ?_
    refine Go_get (pc := 51) C 0 5 rfl rfl inX7 (by decide) mw_634 rfl dX7_ofBy_51 ?_
    refine Go_iload_n (pc := 54) C dX7_ofBy_54 rfl ?_
    refine Go_ishr (pc := 55) C dX7_ofBy_55 ?_
    refine Go_iconst (pc := 56) (v := 1) C dX7_ofBy_56 ci_1 ?_
    refine Go_iand (pc := 57) C dX7_ofBy_57 ?_
    obtain rfl := Option.some.inj hf
    exact Go_iret C hr rfl dX7_ofBy_58
  replace hf := iff' hx2 hf
  by_cases hx3 : p2 = (3 : Int32)
  · replace hf := ift hx3 hf
    refine Go_tabIn (pc := 1) (tgt := 59) C dX7_ofBy_1 hx3 (by decide) (by decide) rfl (by decide) ?_
    refine Go_aload_n (pc := 59) C dX7_ofBy_59 rfl ?_
    refine Go_aload_n (pc := 60) C dX7_ofBy_60 rfl ?_
    refine Go_get (pc := 61) C 0 5 rfl rfl inX7 (by decide) mw_634 rfl dX7_ofBy_61 ?_
    obtain ⟨r1, hr1, hf⟩ := bnd hf
    refine Go_callV0 (pc := 64) (ws1 := (w7 K a r1)) C 0 (0 :: 1 :: 2 :: 3 :: 4 :: 5 :: 6 :: 7 :: 8 :: 9 :: 10 :: 11 :: 12 :: 13 :: []) (kX7_bears l K (pk a (0 :: 1 :: 2 :: 3 :: 4 :: 5 :: 6 :: 7 :: 8 :: 9 :: 10 :: 11 :: 12 :: 13 :: [])) s0 s0.2.2.2.2.2.1 r1 hr1) ycX7_bears mw_796 (Nat.le_of_ble_eq_true rfl) rfl rfl rfl rfl (Nat.le_of_ble_eq_true rfl) ⟨Nat.zero_le _, Nat.zero_le _⟩ dX7_ofBy_64 (ll_149 _ _ _) rfl rfl (ll_150 _ _ _ _) ?_
    refine Go_aload_n (pc := 67) C dX7_ofBy_67 rfl ?_
    refine Go_get (pc := 68) C 0 11 rfl rfl inX7 (by decide) mw_640 rfl dX7_ofBy_68 ?_
    refine Go_iload_n (pc := 71) C dX7_ofBy_71 rfl ?_
    obtain ⟨hb, hf⟩ := ifs hf
    refine Go_iald (pc := 72) C 8 rfl (inb_in hb) dX7_ofBy_72 ?_
    obtain rfl := Option.some.inj hf
    exact Go_iret C hr rfl dX7_ofBy_73
  replace hf := iff' hx3 hf
  by_cases hx4 : p2 = (4 : Int32)
  · replace hf := ift hx4 hf
    refine Go_tabIn (pc := 1) (tgt := 74) C dX7_ofBy_1 hx4 (by decide) (by decide) rfl (by decide) ?_
    refine Go_aload_n (pc := 74) C dX7_ofBy_74 rfl ?_
    refine Go_aload_n (pc := 75) C dX7_ofBy_75 rfl ?_
    refine Go_get (pc := 76) C 0 5 rfl rfl inX7 (by decide) mw_634 rfl dX7_ofBy_76 ?_
    obtain ⟨r2, hr2, hf⟩ := bnd hf
    refine Go_callV0 (pc := 79) (ws1 := (w7 K a r2)) C 0 (0 :: 1 :: 2 :: 3 :: 4 :: 5 :: 6 :: 7 :: 8 :: 9 :: 10 :: 11 :: 12 :: 13 :: []) (kX7_bears l K (pk a (0 :: 1 :: 2 :: 3 :: 4 :: 5 :: 6 :: 7 :: 8 :: 9 :: 10 :: 11 :: 12 :: 13 :: [])) s0 s0.2.2.2.2.2.1 r2 hr2) ycX7_bears mw_796 (Nat.le_of_ble_eq_true rfl) rfl rfl rfl rfl (Nat.le_of_ble_eq_true rfl) ⟨Nat.zero_le _, Nat.zero_le _⟩ dX7_ofBy_79 (ll_149 _ _ _) rfl rfl (ll_150 _ _ _ _) ?_
    refine Go_aload_n (pc := 82) C dX7_ofBy_82 rfl ?_
    refine Go_get (pc := 83) C 0 12 rfl rfl inX7 (by decide) mw_641 rfl dX7_ofBy_83 ?_
    refine Go_iload_n (pc := 86) C dX7_ofBy_86 rfl ?_
    obtain ⟨hb, hf⟩ := ifs hf
    refine Go_iald (pc := 87) C 9 rfl (inb_in hb) dX7_ofBy_87 ?_
    obtain rfl := Option.some.inj hf
    exact Go_iret C hr rfl dX7_ofBy_88
  replace hf := iff' hx4 hf
  refine Go_tabOut (pc := 1) (tgt := 89) C dX7_ofBy_1 (by have g0 := lv_neT hx0 (show ((0 : Int32)).toInt = 0 by decide); have g1 := lv_neT hx1 (show ((1 : Int32)).toInt = 1 by decide); have g2 := lv_neT hx2 (show ((2 : Int32)).toInt = 2 by decide); have g3 := lv_neT hx3 (show ((3 : Int32)).toInt = 3 by decide); have g4 := lv_neT hx4 (show ((4 : Int32)).toInt = 4 by decide); omega) (by decide) ?_
  refine Go_aload_n (pc := 89) C dX7_ofBy_89 rfl ?_
  refine Go_aload_n (pc := 90) C dX7_ofBy_90 rfl ?_
  refine Go_get (pc := 91) C 0 5 rfl rfl inX7 (by decide) mw_634 rfl dX7_ofBy_91 ?_
  obtain ⟨r3, hr3, hf⟩ := bnd hf
  refine Go_callV0 (pc := 94) (ws1 := (w7 K a r3)) C 0 (0 :: 1 :: 2 :: 3 :: 4 :: 5 :: 6 :: 7 :: 8 :: 9 :: 10 :: 11 :: 12 :: 13 :: []) (kX7_bears l K (pk a (0 :: 1 :: 2 :: 3 :: 4 :: 5 :: 6 :: 7 :: 8 :: 9 :: 10 :: 11 :: 12 :: 13 :: [])) s0 s0.2.2.2.2.2.1 r3 hr3) ycX7_bears mw_796 (Nat.le_of_ble_eq_true rfl) rfl rfl rfl rfl (Nat.le_of_ble_eq_true rfl) ⟨Nat.zero_le _, Nat.zero_le _⟩ dX7_ofBy_94 (ll_149 _ _ _) rfl rfl (ll_150 _ _ _ _) ?_
  refine Go_aload_n (pc := 97) C dX7_ofBy_97 rfl ?_
  refine Go_iload_n (pc := 98) C dX7_ofBy_98 rfl ?_
  obtain ⟨r4, hr4, hf⟩ := bnd hf
  refine Go_callV1 (pc := 99) (ws1 := (w7 K a r3)) C 0 (0 :: 1 :: 2 :: 3 :: 4 :: 5 :: 6 :: 7 :: 8 :: 9 :: 10 :: 11 :: 12 :: 13 :: []) (kX7_stands l K (pk a (0 :: 1 :: 2 :: 3 :: 4 :: 5 :: 6 :: 7 :: 8 :: 9 :: 10 :: 11 :: 12 :: 13 :: [])) r3 p1 r4 hr4) ycX7_stands mw_819 (Nat.le_of_ble_eq_true rfl) rfl rfl rfl rfl (Nat.le_of_ble_eq_true rfl) ⟨Nat.zero_le _, Nat.zero_le _⟩ dX7_ofBy_99 (ll_149 _ _ _) rfl rfl (Wr_same (ll_149 _ _ _)) ?_
  refine Go_if_eq (pc := 102) (tgt := 121) C dX7_ofBy_102 (by decide) (fun hc => ?_) (fun hc => ?_)
  · replace hf := ift hc hf
    refine Go_sipush (pc := 121) (v := -10000) C dX7_ofBy_121 cs_m10000 ?_
    obtain rfl := Option.some.inj hf
    exact Go_iret C hr rfl dX7_ofBy_124
  · replace hf := iff' hc hf
    refine Go_aload_n (pc := 105) C dX7_ofBy_105 rfl ?_
    refine Go_get (pc := 106) C 0 4 rfl rfl inX7 (by decide) mw_633 rfl dX7_ofBy_106 ?_
    refine Go_iload_n (pc := 109) C dX7_ofBy_109 rfl ?_
    obtain ⟨hb, hf⟩ := ifs hf
    refine Go_iald (pc := 110) C 4 rfl (inb_in hb) dX7_ofBy_110 ?_
    refine Go_aload_n (pc := 111) C dX7_ofBy_111 rfl ?_
    refine Go_get (pc := 112) C 0 11 rfl rfl inX7 (by decide) mw_640 rfl dX7_ofBy_112 ?_
    refine Go_iload_n (pc := 115) C dX7_ofBy_115 rfl ?_
    obtain ⟨hb, hf⟩ := ifs hf
    refine Go_iald (pc := 116) C 8 rfl (inb_in hb) dX7_ofBy_116 ?_
    refine Go_isub (pc := 117) C dX7_ofBy_117 ?_
    refine Go_goto (pc := 118) (tgt := 124) C dX7_ofBy_118 (by decide) ?_
    obtain rfl := Option.some.inj hf
    exact Go_iret C hr rfl dX7_ofBy_124
