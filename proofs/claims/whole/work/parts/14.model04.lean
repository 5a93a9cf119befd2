theorem ll_164 (K : KK) (a : Nat → Nat) (t0 : S7) (y : Int32) : List.set (w7 K a t0) 0 (a 0, .inr (7, List.set [.ref (a 1), .ref (a 2), .int (t0.2.2.1), .ref (a 3), .ref (a 4), .int (t0.2.2.2.2.2.1), .int (t0.2.2.2.2.2.2.1), .int (t0.2.2.2.2.2.2.2.1), .ref (a 5), .ref (a 6), .ref (a 7), .ref (a 8), .ref (a 9), .int (t0.2.2.2.2.2.2.2.2.2.2.2.2.2.1), .ref (a 10), .ref (a 11), .int (t0.2.2.2.2.2.2.2.2.2.2.2.2.2.2.2.2.1), .int (t0.2.2.2.2.2.2.2.2.2.2.2.2.2.2.2.2.2.1), .int (t0.2.2.2.2.2.2.2.2.2.2.2.2.2.2.2.2.2.2.1), .int (t0.2.2.2.2.2.2.2.2.2.2.2.2.2.2.2.2.2.2.2.1), .int (t0.2.2.2.2.2.2.2.2.2.2.2.2.2.2.2.2.2.2.2.2.1), .ref (a 12), .ref (a 13)] 19 (.int y))) = (w7 K a ((t0.1, t0.2.1, t0.2.2.1, t0.2.2.2.1, t0.2.2.2.2.1, t0.2.2.2.2.2.1, t0.2.2.2.2.2.2.1, t0.2.2.2.2.2.2.2.1, t0.2.2.2.2.2.2.2.2.1, t0.2.2.2.2.2.2.2.2.2.1, t0.2.2.2.2.2.2.2.2.2.2.1, t0.2.2.2.2.2.2.2.2.2.2.2.1, t0.2.2.2.2.2.2.2.2.2.2.2.2.1, t0.2.2.2.2.2.2.2.2.2.2.2.2.2.1, t0.2.2.2.2.2.2.2.2.2.2.2.2.2.2.1, t0.2.2.2.2.2.2.2.2.2.2.2.2.2.2.2.1, t0.2.2.2.2.2.2.2.2.2.2.2.2.2.2.2.2.1, t0.2.2.2.2.2.2.2.2.2.2.2.2.2.2.2.2.2.1, t0.2.2.2.2.2.2.2.2.2.2.2.2.2.2.2.2.2.2.1, y, t0.2.2.2.2.2.2.2.2.2.2.2.2.2.2.2.2.2.2.2.2))) := rfl
def fX7_readsCell (s0 : S7) : Option (Int32 × S7) := Option.bind (fX7_readsNumber s0 (7 : Int32)) (fun r1 => (if r1.1 = 0 then some ((0 : Int32), r1.2) else Option.bind (fX7_readsNumber ((r1.2.1, r1.2.2.1, r1.2.2.2.1, r1.2.2.2.2.1, r1.2.2.2.2.2.1, r1.2.2.2.2.2.2.1, r1.2.2.2.2.2.2.2.1, r1.2.2.2.2.2.2.2.2.1, r1.2.2.2.2.2.2.2.2.2.1, r1.2.2.2.2.2.2.2.2.2.2.1, r1.2.2.2.2.2.2.2.2.2.2.2.1, r1.2.2.2.2.2.2.2.2.2.2.2.2.1, r1.2.2.2.2.2.2.2.2.2.2.2.2.2.1, r1.2.2.2.2.2.2.2.2.2.2.2.2.2.2.1, r1.2.2.2.2.2.2.2.2.2.2.2.2.2.2.2.1, r1.2.2.2.2.2.2.2.2.2.2.2.2.2.2.2.2.1, r1.2.2.2.2.2.2.2.2.2.2.2.2.2.2.2.2.2.1, r1.2.2.2.2.2.2.2.2.2.2.2.2.2.2.2.2.2.2.1, r1.2.2.2.2.2.2.2.2.2.2.2.2.2.2.2.2.2.2.2.1, (12 : Int32) * r1.2.2.2.2.2.2.2.2.2.2.2.2.2.2.2.2.2.2.2.1, r1.2.2.2.2.2.2.2.2.2.2.2.2.2.2.2.2.2.2.2.2.2)) (11 : Int32)) (fun r2 => (if r2.1 = 0 then some ((0 : Int32), r2.2) else some ((1 : Int32), (r2.2.1, r2.2.2.1, r2.2.2.2.1, r2.2.2.2.2.1, r2.2.2.2.2.2.1, r2.2.2.2.2.2.2.1, r2.2.2.2.2.2.2.2.1, r2.2.2.2.2.2.2.2.2.1, r2.2.2.2.2.2.2.2.2.2.1, r2.2.2.2.2.2.2.2.2.2.2.1, r2.2.2.2.2.2.2.2.2.2.2.2.1, r2.2.2.2.2.2.2.2.2.2.2.2.2.1, r2.2.2.2.2.2.2.2.2.2.2.2.2.2.1, r2.2.2.2.2.2.2.2.2.2.2.2.2.2.2.1, r2.2.2.2.2.2.2.2.2.2.2.2.2.2.2.2.1, r2.2.2.2.2.2.2.2.2.2.2.2.2.2.2.2.2.1, r2.2.2.2.2.2.2.2.2.2.2.2.2.2.2.2.2.2.1, r2.2.2.2.2.2.2.2.2.2.2.2.2.2.2.2.2.2.2.1, r2.2.2.2.2.2.2.2.2.2.2.2.2.2.2.2.2.2.2.2.1, r2.2.2.2.2.2.2.2.2.2.2.2.2.2.2.2.2.2.2.2.2.1 + r2.2.2.2.2.2.2.2.2.2.2.2.2.2.2.2.2.2.2.2.1, r2.2.2.2.2.2.2.2.2.2.2.2.2.2.2.2.2.2.2.2.2.2))))))
theorem ycX7_readsCell : CalV yX7_readsCell cX7_readsCell 1 ((some .boolean)) 0 := ⟨mw_949, mw_69, mw_948, mw_50, ⟨by decide, by decide, by decide +kernel⟩, by decide⟩
set_option maxHeartbeats 4000000 in
set_option maxRecDepth 100000 in
theorem kX7_readsCell (l : Launch) (K : KK) (a : Nat → Nat) (s0 : S7) (res : Int32 × S7) (hf : fX7_readsCell s0 = some res) : Ct l K yX7_readsCell cX7_readsCell 1 ((some .boolean)) 2 [.ref (a 0)] (w7 K a s0) (some (.int res.1)) (w7 K a res.2) := by
  refine Ct_of2 (by decide) rfl (Nat.le_of_ble_eq_true rfl) ?_
  intro p e σ m args below meth c C hr
  unfold fX7_readsCell at hf
  refine Go_aload_n (pc := 0) C dX7_readsCell_0 rfl ?_
  refine Go_bipush (pc := 1) (v := 7) C dX7_readsCell_1 cb_7 ?_
  obtain ⟨r1, hr1, hf⟩ := bnd hf
  refine Go_callV1 (pc := 3) (ws1 := (w7 K a r1.2)) C 0 (0 :: 1 :: 2 :: 3 :: 4 :: 5 :: 6 :: 7 :: 8 :: 9 :: 10 :: 11 :: 12 :: 13 :: []) (kX7_readsNumber l K (pk a (0 :: 1 :: 2 :: 3 :: 4 :: 5 :: 6 :: 7 :: 8 :: 9 :: 10 :: 11 :: 12 :: 13 :: [])) s0 (7 : Int32) r1 hr1) ycX7_readsNumber mw_950 (Nat.le_of_ble_eq_true rfl) rfl rfl rfl rfl (Nat.le_of_ble_eq_true rfl) ⟨Nat.zero_le _, Nat.zero_le _⟩ dX7_readsCell_3 (ll_149 _ _ _) rfl rfl (ll_150 _ _ _ _) ?_
  refine Go_if_ne (pc := 6) (tgt := 11) C dX7_readsCell_6 (by decide) (fun hc => ?_) (fun hc => ?_)
  · replace hf := ift hc hf
    refine Go_iconst (pc := 9) (v := 0) C dX7_readsCell_9 ci_0 ?_
    obtain rfl := Option.some.inj hf
    exact Go_zret C hr (Or.inl rfl) rfl dX7_readsCell_10
  · replace hf := iff' hc hf
    refine Go_aload_n (pc := 11) C dX7_readsCell_11 rfl ?_
    refine Go_bipush (pc := 12) (v := 12) C dX7_readsCell_12 cb_12 ?_
    refine Go_aload_n (pc := 14) C dX7_readsCell_14 rfl ?_
    refine Go_get (pc := 15) C 0 18 rfl rfl inX7 (by decide) mw_647 rfl dX7_readsCell_15 ?_
    refine Go_imul (pc := 18) C dX7_readsCell_18 ?_
    refine Go_put (pc := 19) (ws1 := (w7 K a ((r1.2.1, r1.2.2.1, r1.2.2.2.1, r1.2.2.2.2.1, r1.2.2.2.2.2.1, r1.2.2.2.2.2.2.1, r1.2.2.2.2.2.2.2.1, r1.2.2.2.2.2.2.2.2.1, r1.2.2.2.2.2.2.2.2.2.1, r1.2.2.2.2.2.2.2.2.2.2.1, r1.2.2.2.2.2.2.2.2.2.2.2.1, r1.2.2.2.2.2.2.2.2.2.2.2.2.1, r1.2.2.2.2.2.2.2.2.2.2.2.2.2.1, r1.2.2.2.2.2.2.2.2.2.2.2.2.2.2.1, r1.2.2.2.2.2.2.2.2.2.2.2.2.2.2.2.1, r1.2.2.2.2.2.2.2.2.2.2.2.2.2.2.2.2.1, r1.2.2.2.2.2.2.2.2.2.2.2.2.2.2.2.2.2.1, r1.2.2.2.2.2.2.2.2.2.2.2.2.2.2.2.2.2.2.1, r1.2.2.2.2.2.2.2.2.2.2.2.2.2.2.2.2.2.2.2.1, (12 : Int32) * r1.2.2.2.2.2.2.2.2.2.2.2.2.2.2.2.2.2.2.2.1, r1.2.2.2.2.2.2.2.2.2.2.2.2.2.2.2.2.2.2.2.2.2)))) C 0 19 tyX7 tyX7_ok nmX7 rfl rfl inX7 (by decide) mw_648 rfl rfl (Nat.le_of_ble_eq_true rfl) dX7_readsCell_19 (ll_164 _ _ _ _) ?_
    refine Go_aload_n (pc := 22) C dX7_readsCell_22 rfl ?_
    refine Go_bipush (pc := 23) (v := 11) C dX7_readsCell_23 cb_11 ?_
    obtain ⟨r2, hr2, hf⟩ := bnd hf
    refine Go_callV1 (pc := 25) (ws1 := (w7 K a r2.2)) C 0 (0 :: 1 :: 2 :: 3 :: 4 :: 5 :: 6 :: 7 :: 8 :: 9 :: 10 :: 11 :: 12 :: 13 :: []) (kX7_readsNumber l K (pk a (0 :: 1 :: 2 :: 3 :: 4 :: 5 :: 6 :: 7 :: 8 :: 9 :: 10 :: 11 :: 12 :: 13 :: [])) ((r1.2.1, r1.2.2.1, r1.2.2.2.1, r1.2.2.2.2.1, r1.2.2.2.2.2.1, r1.2.2.2.2.2.2.1, r1.2.2.2.2.2.2.2.1, r1.2.2.2.2.2.2.2.2.1, r1.2.2.2.2.2.2.2.2.2.1, r1.2.2.2.2.2.2.2.2.2.2.1, r1.2.2.2.2.2.2.2.2.2.2.2.1, r1.2.2.2.2.2.2.2.2.2.2.2.2.1, r1.2.2.2.2.2.2.2.2.2.2.2.2.2.1, r1.2.2.2.2.2.2.2.2.2.2.2.2.2.2.1, r1.2.2.2.2.2.2.2.2.2.2.2.2.2.2.2.1, r1.2.2.2.2.2.2.2.2.2.2.2.2.2.2.2.2.1, r1.2.2.2.2.2.2.2.2.2.2.2.2.2.2.2.2.2.1, r1.2.2.2.2.2.2.2.2.2.2.2.2.2.2.2.2.2.2.1, r1.2.2.2.2.2.2.2.2.2.2.2.2.2.2.2.2.2.2.2.1, (12 : Int32) * r1.2.2.2.2.2.2.2.2.2.2.2.2.2.2.2.2.2.2.2.1, r1.2.2.2.2.2.2.2.2.2.2.2.2.2.2.2.2.2.2.2.2.2)) (11 : Int32) r2 hr2) ycX7_readsNumber mw_950 (Nat.le_of_ble_eq_true rfl) rfl rfl rfl rfl (Nat.le_of_ble_eq_true rfl) ⟨Nat.zero_le _, Nat.zero_le _⟩ dX7_readsCell_25 (ll_149 _ _ _) rfl rfl (ll_150 _ _ _ _) ?_
    refine Go_if_ne (pc := 28) (tgt := 33) C dX7_readsCell_28 (by decide) (fun hc => ?_) (fun hc => ?_)
    · replace hf := ift hc hf
      refine Go_iconst (pc := 31) (v := 0) C dX7_readsCell_31 ci_0 ?_
      obtain rfl := Option.some.inj hf
      exact Go_zret C hr (Or.inl rfl) rfl dX7_readsCell_32
    · replace hf := iff' hc hf
      refine Go_aload_n (pc := 33) C dX7_readsCell_33 rfl ?_
      refine Go_dup (pc := 34) C dX7_readsCell_34 rfl ?_
      refine Go_get (pc := 35) C 0 19 rfl rfl inX7 (by decide) mw_648 rfl dX7_readsCell_35 ?_
      refine Go_aload_n (pc := 38) C dX7_readsCell_38 rfl ?_
      refine Go_get (pc := 39) C 0 18 rfl rfl inX7 (by decide) mw_647 rfl dX7_readsCell_39 ?_
      refine Go_iadd (pc := 42) C dX7_readsCell_42 ?_
      refine Go_put (pc := 43) (ws1 := (w7 K a ((r2.2.1, r2.2.2.1, r2.2.2.2.1, r2.2.2.2.2.1, r2.2.2.2.2.2.1, r2.2.2.2.2.2.2.1, r2.2.2.2.2.2.2.2.1, r2.2.2.2.2.2.2.2.2.1, r2.2.2.2.2.2.2.2.2.2.1, r2.2.2.2.2.2.2.2.2.2.2.1, r2.2.2.2.2.2.2.2.2.2.2.2.1, r2.2.2.2.2.2.2.2.2.2.2.2.2.1, r2.2.2.2.2.2.2.2.2.2.2.2.2.2.1, r2.2.2.2.2.2.2.2.2.2.2.2.2.2.2.1, r2.2.2.2.2.2.2.2.2.2.2.2.2.2.2.2.1, r2.2.2.2.2.2.2.2.2.2.2.2.2.2.2.2.2.1, r2.2.2.2.2.2.2.2.2.2.2.2.2.2.2.2.2.2.1, r2.2.2.2.2.2.2.2.2.2.2.2.2.2.2.2.2.2.2.1, r2.2.2.2.2.2.2.2.2.2.2.2.2.2.2.2.2.2.2.2.1, r2.2.2.2.2.2.2.2.2.2.2.2.2.2.2.2.2.2.2.2.2.1 + r2.2.2.2.2.2.2.2.2.2.2.2.2.2.2.2.2.2.2.2.1, r2.2.2.2.2.2.2.2.2.2.2.2.2.2.2.2.2.2.2.2.2.2)))) C 0 19 tyX7 tyX7_ok nmX7 rfl rfl inX7 (by decide) mw_648 rfl rfl (Nat.le_of_ble_eq_true rfl) dX7_readsCell_43 (ll_164 _ _ _ _) ?_
      refine Go_iconst (pc := 46) (v := 1) C dX7_readsCell_46 ci_1 ?_
      obtain rfl := Option.some.inj hf
      exact Go_zret C hr (Or.inr rfl) rfl dX7_readsCell_47
def fX7_ends (s0 : S7) : Option (Int32 × S7) := Option.bind (fX7_here s0) (fun r1 => (if r1.1 = (59 : Int32) then some ((1 : Int32), (r1.2.1, r1.2.2.1, r1.2.2.2.1, r1.2.2.2.2.1, r1.2.2.2.2.2.1, r1.2.2.2.2.2.2.1, r1.2.2.2.2.2.2.2.1, r1.2.2.2.2.2.2.2.2.1, r1.2.2.2.2.2.2.2.2.2.1, r1.2.2.2.2.2.2.2.2.2.2.1, r1.2.2.2.2.2.2.2.2.2.2.2.1, r1.2.2.2.2.2.2.2.2.2.2.2.2.1, r1.2.2.2.2.2.2.2.2.2.2.2.2.2.1, r1.2.2.2.2.2.2.2.2.2.2.2.2.2.2.1, r1.2.2.2.2.2.2.2.2.2.2.2.2.2.2.2.1, r1.2.2.2.2.2.2.2.2.2.2.2.2.2.2.2.2.1, r1.2.2.2.2.2.2.2.2.2.2.2.2.2.2.2.2.2.1, r1.2.2.2.2.2.2.2.2.2.2.2.2.2.2.2.2.2.2.1 + (1 : Int32), r1.2.2.2.2.2.2.2.2.2.2.2.2.2.2.2.2.2.2.2)) else some ((0 : Int32), r1.2)))
theorem ycX7_ends : CalV yX7_ends cX7_ends 1 ((some .boolean)) 0 := ⟨mw_957, mw_69, mw_956, mw_52, ⟨by decide, by decide, by decide +kernel⟩, by decide⟩
set_option maxHeartbeats 4000000 in
set_option maxRecDepth 100000 in
theorem kX7_ends (l : Launch) (K : KK) (a : Nat → Nat) (s0 : S7) (res : Int32 × S7) (hf : fX7_ends s0 = some res) : Ct l K yX7_ends cX7_ends 1 ((some .boolean)) 1 [.ref (a 0)] (w7 K a s0) (some (.int res.1)) (w7 K a res.2) := by
  refine Ct_of2 (by decide) rfl (Nat.le_of_ble_eq_true rfl) ?_
  intro p e σ m args below meth c C hr
  unfold fX7_ends at hf
  refine Go_aload_n (pc := 0) C dX7_ends_0 rfl ?_
  obtain ⟨r1, hr1, hf⟩ := bnd hf
  refine Go_callV1 (pc := 1) (ws1 := (w7 K a r1.2)) C 0 (0 :: 1 :: 2 :: 3 :: 4 :: 5 :: 6 :: 7 :: 8 :: 9 :: 10 :: 11 :: 12 :: 13 :: []) (kX7_here l K (pk a (0 :: 1 :: 2 :: 3 :: 4 :: 5 :: 6 :: 7 :: 8 :: 9 :: 10 :: 11 :: 12 :: 13 :: [])) s0 r1 hr1) ycX7_here mw_930 (Nat.le_of_ble_eq_true rfl) rfl rfl rfl rfl (Nat.le_of_ble_eq_true rfl) ⟨Nat.zero_le _, Nat.zero_le _⟩ dX7_ends_1 (ll_149 _ _ _) rfl rfl (ll_150 _ _ _ _) ?_
  refine Go_bipush (pc := 4) (v := 59) C dX7_ends_4 cb_59 ?_
  refine Go_icmp_eq (pc := 6) (tgt := 11) C dX7_ends_6 (by decide) (fun hc => ?_) (fun hc => ?_)
  · replace hf := ift hc hf
    refine Go_aload_n (pc := 11) C dX7_ends_11 rfl ?_
    refine Go_dup (pc := 12) C dX7_ends_12 rfl ?_
    refine Go_get (pc := 13) C 0 17 rfl rfl inX7 (by decide) mw_646 rfl dX7_ends_13 ?_
    refine Go_iconst (pc := 16) (v := 1) C dX7_ends_16 ci_1 ?_
    refine Go_iadd (pc := 17) C dX7_ends_17 ?_
    refine Go_put (pc := 18) (ws1 := (w7 K a ((r1.2.1, r1.2.2.1, r1.2.2.2.1, r1.2.2.2.2.1, r1.2.2.2.2.2.1, r1.2.2.2.2.2.2.1, r1.2.2.2.2.2.2.2.1, r1.2.2.2.2.2.2.2.2.1, r1.2.2.2.2.2.2.2.2.2.1, r1.2.2.2.2.2.2.2.2.2.2.1, r1.2.2.2.2.2.2.2.2.2.2.2.1, r1.2.2.2.2.2.2.2.2.2.2.2.2.1, r1.2.2.2.2.2.2.2.2.2.2.2.2.2.1, r1.2.2.2.2.2.2.2.2.2.2.2.2.2.2.1, r1.2.2.2.2.2.2.2.2.2.2.2.2.2.2.2.1, r1.2.2.2.2.2.2.2.2.2.2.2.2.2.2.2.2.1, r1.2.2.2.2.2.2.2.2.2.2.2.2.2.2.2.2.2.1, r1.2.2.2.2.2.2.2.2.2.2.2.2.2.2.2.2.2.2.1 + (1 : Int32), r1.2.2.2.2.2.2.2.2.2.2.2.2.2.2.2.2.2.2.2)))) C 0 17 tyX7 tyX7_ok nmX7 rfl rfl inX7 (by decide) mw_646 rfl rfl (Nat.le_of_ble_eq_true rfl) dX7_ends_18 (ll_159 _ _ _ _) ?_
    refine Go_iconst (pc := 21) (v := 1) C dX7_ends_21 ci_1 ?_
    obtain rfl := Option.some.inj hf
    exact Go_zret C hr (Or.inr rfl) rfl dX7_ends_22
  · replace hf := iff' hc hf
    refine Go_iconst (pc := 9) (v := 0) C dX7_ends_9 ci_0 ?_
    obtain rfl := Option.some.inj hf
    exact Go_zret C hr (Or.inl rfl) rfl dX7_ends_10
def fX7_readsPillar (s0 : S7) (p1 : Int32) : Option (Int32 × S7) := (if s0.2.2.1 = (12 : Int32) then some ((0 : Int32), (s0.1, s0.2.1, s0.2.2.1, s0.2.2.2.1, s0.2.2.2.2.1, s0.2.2.2.2.2.1, s0.2.2.2.2.2.2.1, s0.2.2.2.2.2.2.2.1, s0.2.2.2.2.2.2.2.2.1, s0.2.2.2.2.2.2.2.2.2.1, s0.2.2.2.2.2.2.2.2.2.2.1, s0.2.2.2.2.2.2.2.2.2.2.2.1, s0.2.2.2.2.2.2.2.2.2.2.2.2.1, s0.2.2.2.2.2.2.2.2.2.2.2.2.2.1, s0.2.2.2.2.2.2.2.2.2.2.2.2.2.2.1, s0.2.2.2.2.2.2.2.2.2.2.2.2.2.2.2.1, s0.2.2.2.2.2.2.2.2.2.2.2.2.2.2.2.2.1, p1, s0.2.2.2.2.2.2.2.2.2.2.2.2.2.2.2.2.2.2)) else Option.bind (fX7_readsCell s0) (fun r1 => (if r1.1 = 0 then some ((0 : Int32), r1.2) else Option.bind (fX7_readsNumber r1.2 (999 : Int32)) (fun r2 => (if r2.1 = 0 then some ((0 : Int32), r2.2) else Option.bind (fX7_ends r2.2) (fun r3 => (if r3.1 = 0 then some ((0 : Int32), r3.2) else Option.bind (fX7_pillarAt r3.2 r3.2.2.2.2.2.2.2.2.2.2.2.2.2.2.2.2.2.2.2.2.1) (fun r4 => (if r4 = (-1 : Int32) then Option.bind (fX7_comesPillar r3.2 r3.2.2.2.2.2.2.2.2.2.2.2.2.2.2.2.2.2.2.2.2.1 r2.2.2.2.2.2.2.2.2.2.2.2.2.2.2.2.2.2.2.2.1) (fun r5 => some ((1 : Int32), r5)) else some ((0 : Int32), (r3.2.1, r3.2.2.1, r3.2.2.2.1, r3.2.2.2.2.1, r3.2.2.2.2.2.1, r3.2.2.2.2.2.2.1, r3.2.2.2.2.2.2.2.1, r3.2.2.2.2.2.2.2.2.1, r3.2.2.2.2.2.2.2.2.2.1, r3.2.2.2.2.2.2.2.2.2.2.1, r3.2.2.2.2.2.2.2.2.2.2.2.1, r3.2.2.2.2.2.2.2.2.2.2.2.2.1, r3.2.2.2.2.2.2.2.2.2.2.2.2.2.1, r3.2.2.2.2.2.2.2.2.2.2.2.2.2.2.1, r3.2.2.2.2.2.2.2.2.2.2.2.2.2.2.2.1, r3.2.2.2.2.2.2.2.2.2.2.2.2.2.2.2.2.1, r3.2.2.2.2.2.2.2.2.2.2.2.2.2.2.2.2.2.1, p1, r3.2.2.2.2.2.2.2.2.2.2.2.2.2.2.2.2.2.2.2)))))))))))
theorem ycX7_readsPillar : CalV yX7_readsPillar cX7_readsPillar 3 ((some .boolean)) 1 := ⟨mw_945, mw_69, mw_944, mw_49, ⟨by decide, by decide, by decide +kernel⟩, by decide⟩
set_option maxHeartbeats 4000000 in
set_option maxRecDepth 100000 in
theorem kX7_readsPillar (l : Launch) (K : KK) (a : Nat → Nat) (s0 : S7) (p1 : Int32) (res : Int32 × S7) (hf : fX7_readsPillar s0 p1 = some res) : Ct l K yX7_readsPillar cX7_readsPillar 3 ((some .boolean)) 3 [.ref (a 0), .int p1] (w7 K a s0) (some (.int res.1)) (w7 K a res.2) := by
  refine Ct_of2 (by decide) rfl (Nat.le_of_ble_eq_true rfl) ?_
  intro p e σ m args below meth c C hr
  unfold fX7_readsPillar at hf
  refine Go_aload_n (pc := 0) C dX7_readsPillar_0 rfl ?_
  refine Go_get (pc := 1) C 0 2 rfl rfl inX7 (by decide) mw_631 rfl dX7_readsPillar_1 ?_
  refine Go_bipush (pc := 4) (v := 12) C dX7_readsPillar_4 cb_12 ?_
  refine Go_icmp_ne (pc := 6) (tgt := 16) C dX7_readsPillar_6 (by decide) (fun hc => ?_) (fun hc => ?_)
  · replace hf := ift hc hf
    refine Go_aload_n (pc := 9) C dX7_readsPillar_9 rfl ?_
    refine Go_iload_n (pc := 10) C dX7_readsPillar_10 rfl ?_
    refine Go_put (pc := 11) (ws1 := (w7 K a ((s0.1, s0.2.1, s0.2.2.1, s0.2.2.2.1, s0.2.2.2.2.1, s0.2.2.2.2.2.1, s0.2.2.2.2.2.2.1, s0.2.2.2.2.2.2.2.1, s0.2.2.2.2.2.2.2.2.1, s0.2.2.2.2.2.2.2.2.2.1, s0.2.2.2.2.2.2.2.2.2.2.1, s0.2.2.2.2.2.2.2.2.2.2.2.1, s0.2.2.2.2.2.2.2.2.2.2.2.2.1, s0.2.2.2.2.2.2.2.2.2.2.2.2.2.1, s0.2.2.2.2.2.2.2.2.2.2.2.2.2.2.1, s0.2.2.2.2.2.2.2.2.2.2.2.2.2.2.2.1, s0.2.2.2.2.2.2.2.2.2.2.2.2.2.2.2.2.1, p1, s0.2.2.2.2.2.2.2.2.2.2.2.2.2.2.2.2.2.2)))) C 0 17 tyX7 tyX7_ok nmX7 rfl rfl inX7 (by decide) mw_646 rfl rfl (Nat.le_of_ble_eq_true rfl) dX7_readsPillar_11 (ll_159 _ _ _ _) ?_
    refine Go_iconst (pc := 14) (v := 0) C dX7_readsPillar_14 ci_0 ?_
    obtain rfl := Option.some.inj hf
    exact Go_zret C hr (Or.inl rfl) rfl dX7_readsPillar_15
  · replace hf := iff' hc hf
    refine Go_aload_n (pc := 16) C dX7_readsPillar_16 rfl ?_
    obtain ⟨r1, hr1, hf⟩ := bnd hf
    refine Go_callV1 (pc := 17) (ws1 := (w7 K a r1.2)) C 0 (0 :: 1 :: 2 :: 3 :: 4 :: 5 :: 6 :: 7 :: 8 :: 9 :: 10 :: 11 :: 12 :: 13 :: []) (kX7_readsCell l K (pk a (0 :: 1 :: 2 :: 3 :: 4 :: 5 :: 6 :: 7 :: 8 :: 9 :: 10 :: 11 :: 12 :: 13 :: [])) s0 r1 hr1) ycX7_readsCell mw_946 (Nat.le_of_ble_eq_true rfl) rfl rfl rfl rfl (Nat.le_of_ble_eq_true rfl) ⟨Nat.zero_le _, Nat.zero_le _⟩ dX7_readsPillar_17 (ll_149 _ _ _) rfl rfl (ll_150 _ _ _ _) ?_
    refine Go_if_eq (pc := 20) (tgt := 33) C dX7_readsPillar_20 (by decide) (fun hc => ?_) (fun hc => ?_)
    · replace hf := ift hc hf
      refine Go_iconst (pc := 33) (v := 0) C dX7_readsPillar_33 ci_0 ?_
      obtain rfl := Option.some.inj hf
      exact Go_zret C hr (Or.inl rfl) rfl dX7_readsPillar_34
    · replace hf := iff' hc hf
      refine Go_aload_n (pc := 23) C dX7_readsPillar_23 rfl ?_
      refine Go_sipush (pc := 24) (v := 999) C dX7_readsPillar_24 cs_999 ?_
      obtain ⟨r2, hr2, hf⟩ := bnd hf
      refine Go_callV1 (pc := 27) (ws1 := (w7 K a r2.2)) C 0 (0 :: 1 :: 2 :: 3 :: 4 :: 5 :: 6 :: 7 :: 8 :: 9 :: 10 :: 11 :: 12 :: 13 :: []) (kX7_readsNumber l K (pk a (0 :: 1 :: 2 :: 3 :: 4 :: 5 :: 6 :: 7 :: 8 :: 9 :: 10 :: 11 :: 12 :: 13 :: [])) r1.2 (999 : Int32) r2 hr2) ycX7_readsNumber mw_950 (Nat.le_of_ble_eq_true rfl) rfl rfl rfl rfl (Nat.le_of_ble_eq_true rfl) ⟨Nat.zero_le _, Nat.zero_le _⟩ dX7_readsPillar_27 (ll_149 _ _ _) rfl rfl (ll_150 _ _ _ _) ?_
      refine Go_if_ne (pc := 30) (tgt := 35) C dX7_readsPillar_30 (by decide) (fun hc => ?_) (fun hc => ?_)
      · replace hf := ift hc hf
        refine Go_iconst (pc := 33) (v := 0) C dX7_readsPillar_33 ci_0 ?_
        obtain rfl := Option.some.inj hf
        exact Go_zret C hr (Or.inl rfl) rfl dX7_readsPillar_34
      · replace hf := iff' hc hf
        refine Go_aload_n (pc := 35) C dX7_readsPillar_35 rfl ?_
        refine Go_get (pc := 36) C 0 18 rfl rfl inX7 (by decide) mw_647 rfl dX7_readsPillar_36 ?_
        refine Go_istore_n (pc := 39) C dX7_readsPillar_39 (by decide) ?_
        refine Go_aload_n (pc := 40) C dX7_readsPillar_40 rfl ?_
        obtain ⟨r3, hr3, hf⟩ := bnd hf
        refine Go_callV1 (pc := 41) (ws1 := (w7 K a r3.2)) C 0 (0 :: 1 :: 2 :: 3 :: 4 :: 5 :: 6 :: 7 :: 8 :: 9 :: 10 :: 11 :: 12 :: 13 :: []) (kX7_ends l K (pk a (0 :: 1 :: 2 :: 3 :: 4 :: 5 :: 6 :: 7 :: 8 :: 9 :: 10 :: 11 :: 12 :: 13 :: [])) r2.2 r3 hr3) ycX7_ends mw_954 (Nat.le_of_ble_eq_true rfl) rfl rfl rfl rfl (Nat.le_of_ble_eq_true rfl) ⟨Nat.zero_le _, Nat.zero_le _⟩ dX7_readsPillar_41 (ll_149 _ _ _) rfl rfl (ll_150 _ _ _ _) ?_
        refine Go_if_ne (pc := 44) (tgt := 49) C dX7_readsPillar_44 (by decide) (fun hc => ?_) (fun hc => ?_)
        · replace hf := ift hc hf
          refine Go_iconst (pc := 47) (v := 0) C dX7_readsPillar_47 ci_0 ?_
          obtain rfl := Option.some.inj hf
          exact Go_zret C hr (Or.inl rfl) rfl dX7_readsPillar_48
        · replace hf := iff' hc hf
          refine Go_aload_n (pc := 49) C dX7_readsPillar_49 rfl ?_
          refine Go_aload_n (pc := 50) C dX7_readsPillar_50 rfl ?_
          refine Go_get (pc := 51) C 0 19 rfl rfl inX7 (by decide) mw_648 rfl dX7_readsPillar_51 ?_
          obtain ⟨r4, hr4, hf⟩ := bnd hf
          refine Go_callV1 (pc := 54) (ws1 := (w7 K a r3.2)) C 0 (0 :: 1 :: 2 :: 3 :: 4 :: 5 :: 6 :: 7 :: 8 :: 9 :: 10 :: 11 :: 12 :: 13 :: []) (kX7_pillarAt l K (pk a (0 :: 1 :: 2 :: 3 :: 4 :: 5 :: 6 :: 7 :: 8 :: 9 :: 10 :: 11 :: 12 :: 13 :: [])) r3.2 r3.2.2.2.2.2.2.2.2.2.2.2.2.2.2.2.2.2.2.2.2.1 r4 hr4) ycX7_pillarAt mw_729 (Nat.le_of_ble_eq_true rfl) rfl rfl rfl rfl (Nat.le_of_ble_eq_true rfl) ⟨Nat.zero_le _, Nat.zero_le _⟩ dX7_readsPillar_54 (ll_149 _ _ _) rfl rfl (Wr_same (ll_149 _ _ _)) ?_
          refine Go_iconst (pc := 57) (v := -1) C dX7_readsPillar_57 ci_m1 ?_
          refine Go_icmp_eq (pc := 58) (tgt := 68) C dX7_readsPillar_58 (by decide) (fun hc => ?_) (fun hc => ?_)
          · replace hf := ift hc hf
            refine Go_aload_n (pc := 68) C dX7_readsPillar_68 rfl ?_
            refine Go_aload_n (pc := 69) C dX7_readsPillar_69 rfl ?_
            refine Go_get (pc := 70) C 0 19 rfl rfl inX7 (by decide) mw_648 rfl dX7_readsPillar_70 ?_
            refine Go_iload_n (pc := 73) C dX7_readsPillar_73 rfl ?_
            obtain ⟨r5, hr5, hf⟩ := bnd hf
            refine Go_callV0 (pc := 74) (ws1 := (w7 K a r5)) C 0 (0 :: 1 :: 2 :: 3 :: 4 :: 5 :: 6 :: 7 :: 8 :: 9 :: 10 :: 11 :: 12 :: 13 :: []) (kX7_comesPillar l K (pk a (0 :: 1 :: 2 :: 3 :: 4 :: 5 :: 6 :: 7 :: 8 :: 9 :: 10 :: 11 :: 12 :: 13 :: [])) r3.2 r3.2.2.2.2.2.2.2.2.2.2.2.2.2.2.2.2.2.2.2.2.1 r2.2.2.2.2.2.2.2.2.2.2.2.2.2.2.2.2.2.2.2.1 r5 hr5) ycX7_comesPillar mw_745 (Nat.le_of_ble_eq_true rfl) rfl rfl rfl rfl (Nat.le_of_ble_eq_true rfl) ⟨Nat.zero_le _, Nat.zero_le _⟩ dX7_readsPillar_74 (ll_149 _ _ _) rfl rfl (ll_150 _ _ _ _) ?_
            refine Go_iconst (pc := 77) (v := 1) C dX7_readsPillar_77 ci_1 ?_
            obtain rfl := Option.some.inj hf
            exact Go_zret C hr (Or.inr rfl) rfl dX7_readsPillar_78
          · replace hf := iff' hc hf
            refine Go_aload_n (pc := 61) C dX7_readsPillar_61 rfl ?_
            refine Go_iload_n (pc := 62) C dX7_readsPillar_62 rfl ?_
            refine Go_put (pc := 63) (ws1 := (w7 K a ((r3.2.1, r3.2.2.1, r3.2.2.2.1, r3.2.2.2.2.1, r3.2.2.2.2.2.1, r3.2.2.2.2.2.2.1, r3.2.2.2.2.2.2.2.1, r3.2.2.2.2.2.2.2.2.1, r3.2.2.2.2.2.2.2.2.2.1, r3.2.2.2.2.2.2.2.2.2.2.1, r3.2.2.2.2.2.2.2.2.2.2.2.1, r3.2.2.2.2.2.2.2.2.2.2.2.2.1, r3.2.2.2.2.2.2.2.2.2.2.2.2.2.1, r3.2.2.2.2.2.2.2.2.2.2.2.2.2.2.1, r3.2.2.2.2.2.2.2.2.2.2.2.2.2.2.2.1, r3.2.2.2.2.2.2.2.2.2.2.2.2.2.2.2.2.1, r3.2.2.2.2.2.2.2.2.2.2.2.2.2.2.2.2.2.1, p1, r3.2.2.2.2.2.2.2.2.2.2.2.2.2.2.2.2.2.2.2)))) C 0 17 tyX7 tyX7_ok nmX7 rfl rfl inX7 (by decide) mw_646 rfl rfl (Nat.le_of_ble_eq_true rfl) dX7_readsPillar_63 (ll_159 _ _ _ _) ?_
            refine Go_iconst (pc := 66) (v := 0) C dX7_readsPillar_66 ci_0 ?_
            obtain rfl := Option.some.inj hf
            exact Go_zret C hr (Or.inl rfl) rfl dX7_readsPillar_67
def fX7_readsWeight (s0 : S7) : Option (Int32 × S7) := Option.bind (fX7_readsCell s0) (fun r1 => (if r1.1 = 0 then some ((0 : Int32), r1.2) else Option.bind (fX7_readsNumber r1.2 (9 : Int32)) (fun r2 => (if r2.1 = 0 then some ((0 : Int32), r2.2) else (if 0 ≤ r2.2.2.2.2.2.2.2.2.2.2.2.2.2.2.2.2.2.2.2.2.1 ∧ r2.2.2.2.2.2.2.2.2.2.2.2.2.2.2.2.2.2.2.2.2.1.toNatClampNeg < 96 then Option.bind (fX7_ends ((r2.2.1, upd r2.2.2.1 r2.2.2.2.2.2.2.2.2.2.2.2.2.2.2.2.2.2.2.2.2.1.toNatClampNeg r2.2.2.2.2.2.2.2.2.2.2.2.2.2.2.2.2.2.2.2.1, r2.2.2.2))) (fun r3 => (if r3.1 = 0 ∨ r3.1 = 1 then some (r3.1, r3.2) else none)) else none)))))
theorem ycX7_readsWeight : CalV yX7_readsWeight cX7_readsWeight 1 ((some .boolean)) 0 := ⟨mw_961, mw_69, mw_960, mw_53, ⟨by decide, by decide, by decide +kernel⟩, by decide⟩
set_option maxHeartbeats 4000000 in
set_option maxRecDepth 100000 in
theorem kX7_readsWeight (l : Launch) (K : KK) (a : Nat → Nat) (s0 : S7) (res : Int32 × S7) (hf : fX7_readsWeight s0 = some res) : Ct l K yX7_readsWeight cX7_readsWeight 1 ((some .boolean)) 3 [.ref (a 0)] (w7 K a s0) (some (.int res.1)) (w7 K a res.2) := by
  refine Ct_of2 (by decide) rfl (Nat.le_of_ble_eq_true rfl) ?_
  intro p e σ m args below meth c C hr
  unfold fX7_readsWeight at hf
  refine Go_aload_n (pc := 0) C dX7_readsWeight_0 rfl ?_
  obtain ⟨r1, hr1, hf⟩ := bnd hf
  refine Go_callV1 (pc := 1) (ws1 := (w7 K a r1.2)) C 0 (0 :: 1 :: 2 :: 3 :: 4 :: 5 :: 6 :: 7 :: 8 :: 9 :: 10 :: 11 :: 12 :: 13 :: []) (kX7_readsCell l K (pk a (0 :: 1 :: 2 :: 3 :: 4 :: 5 :: 6 :: 7 :: 8 :: 9 :: 10 :: 11 :: 12 :: 13 :: [])) s0 r1 hr1) ycX7_readsCell mw_946 (Nat.le_of_ble_eq_true rfl) rfl rfl rfl rfl (Nat.le_of_ble_eq_true rfl) ⟨Nat.zero_le _, Nat.zero_le _⟩ dX7_readsWeight_1 (ll_149 _ _ _) rfl rfl (ll_150 _ _ _ _) ?_
  refine Go_if_eq (pc := 4) (tgt := 16) C dX7_readsWeight_4 (by decide) (fun hc => ?_) (fun hc => ?_)
  · replace hf := ift hc hf
    refine Go_iconst (pc := 16) (v := 0) C dX7_readsWeight_16 ci_0 ?_
    obtain rfl := Option.some.inj hf
    exact Go_zret C hr (Or.inl rfl) rfl dX7_readsWeight_17
  · replace hf := iff' hc hf
    refine Go_aload_n (pc := 7) C dX7_readsWeight_7 rfl ?_
    refine Go_bipush (pc := 8) (v := 9) C dX7_readsWeight_8 cb_9 ?_
    obtain ⟨r2, hr2, hf⟩ := bnd hf
    refine Go_callV1 (pc := 10) (ws1 := (w7 K a r2.2)) C 0 (0 :: 1 :: 2 :: 3 :: 4 :: 5 :: 6 :: 7 :: 8 :: 9 :: 10 :: 11 :: 12 :: 13 :: []) (kX7_readsNumber l K (pk a (0 :: 1 :: 2 :: 3 :: 4 :: 5 :: 6 :: 7 :: 8 :: 9 :: 10 :: 11 :: 12 :: 13 :: [])) r1.2 (9 : Int32) r2 hr2) ycX7_readsNumber mw_950 (Nat.le_of_ble_eq_true rfl) rfl rfl rfl rfl (Nat.le_of_ble_eq_true rfl) ⟨Nat.zero_le _, Nat.zero_le _⟩ dX7_readsWeight_10 (ll_149 _ _ _) rfl rfl (ll_150 _ _ _ _) ?_
    refine Go_if_ne (pc := 13) (tgt := 18) C dX7_readsWeight_13 (by decide) (fun hc => ?_) (fun hc => ?_)
    · replace hf := ift hc hf
      refine Go_iconst (pc := 16) (v := 0) C dX7_readsWeight_16 ci_0 ?_
      obtain rfl := Option.some.inj hf
      exact Go_zret C hr (Or.inl rfl) rfl dX7_readsWeight_17
    · replace hf := iff' hc hf
      refine Go_aload_n (pc := 18) C dX7_readsWeight_18 rfl ?_
      refine Go_get (pc := 19) C 0 1 rfl rfl inX7 (by decide) mw_630 rfl dX7_readsWeight_19 ?_
      refine Go_aload_n (pc := 22) C dX7_readsWeight_22 rfl ?_
      refine Go_get (pc := 23) C 0 19 rfl rfl inX7 (by decide) mw_648 rfl dX7_readsWeight_23 ?_
      refine Go_aload_n (pc := 26) C dX7_readsWeight_26 rfl ?_
      refine Go_get (pc := 27) C 0 18 rfl rfl inX7 (by decide) mw_647 rfl dX7_readsWeight_27 ?_
      obtain ⟨hb, hf⟩ := ifs hf
      refine Go_iast (pc := 30) (ws1 := (w7 K a ((r2.2.1, upd r2.2.2.1 r2.2.2.2.2.2.2.2.2.2.2.2.2.2.2.2.2.2.2.2.2.1.toNatClampNeg r2.2.2.2.2.2.2.2.2.2.2.2.2.2.2.2.2.2.2.2.1, r2.2.2.2)))) C 2 rfl (inb_in hb) dX7_readsWeight_30 (ll_147 _ _ _ _) ?_
      refine Go_aload_n (pc := 31) C dX7_readsWeight_31 rfl ?_
      obtain ⟨r3, hr3, hf⟩ := bnd hf
      refine Go_callV1 (pc := 32) (ws1 := (w7 K a r3.2)) C 0 (0 :: 1 :: 2 :: 3 :: 4 :: 5 :: 6 :: 7 :: 8 :: 9 :: 10 :: 11 :: 12 :: 13 :: []) (kX7_ends l K (pk a (0 :: 1 :: 2 :: 3 :: 4 :: 5 :: 6 :: 7 :: 8 :: 9 :: 10 :: 11 :: 12 :: 13 :: [])) ((r2.2.1, upd r2.2.2.1 r2.2.2.2.2.2.2.2.2.2.2.2.2.2.2.2.2.2.2.2.2.1.toNatClampNeg r2.2.2.2.2.2.2.2.2.2.2.2.2.2.2.2.2.2.2.2.1, r2.2.2.2)) r3 hr3) ycX7_ends mw_954 (Nat.le_of_ble_eq_true rfl) rfl rfl rfl rfl (Nat.le_of_ble_eq_true rfl) ⟨Nat.zero_le _, Nat.zero_le _⟩ dX7_readsWeight_32 (ll_149 _ _ _) rfl rfl (ll_150 _ _ _ _) ?_
      obtain ⟨hz, hf⟩ := ifs hf
      obtain rfl := Option.some.inj hf
      exact Go_zret C hr hz rfl dX7_readsWeight_35
def fX7_readsWall (s0 : S7) (p1 : Int32) (p2 : Int32) : Option (Int32 × S7) := Option.bind (fX7_readsNumber s0 p2) (fun r1 => (if r1.1 = 0 then some ((0 : Int32), r1.2) else Option.bind (fX7_ends ((r1.2.1, r1.2.2.1, r1.2.2.2.1, r1.2.2.2.2.1, r1.2.2.2.2.2.1, r1.2.2.2.2.2.2.1, r1.2.2.2.2.2.2.2.1 ||| ((1 : Int32) <<< ((p1 + r1.2.2.2.2.2.2.2.2.2.2.2.2.2.2.2.2.2.2.2.1) &&& 31)), r1.2.2.2.2.2.2.2.2))) (fun r2 => (if r2.1 = 0 ∨ r2.1 = 1 then some (r2.1, r2.2) else none))))
theorem ycX7_readsWall : CalV yX7_readsWall cX7_readsWall 3 ((some .boolean)) 2 := ⟨mw_965, mw_69, mw_964, mw_54, ⟨by decide, by decide, by decide +kernel⟩, by decide⟩
set_option maxHeartbeats 4000000 in
set_option maxRecDepth 100000 in
theorem kX7_readsWall (l : Launch) (K : KK) (a : Nat → Nat) (s0 : S7) (p1 : Int32) (p2 : Int32) (res : Int32 × S7) (hf : fX7_readsWall s0 p1 p2 = some res) : Ct l K yX7_readsWall cX7_readsWall 3 ((some .boolean)) 2 [.ref (a 0), .int p1, .int p2] (w7 K a s0) (some (.int res.1)) (w7 K a res.2) := by
  refine Ct_of2 (by decide) rfl (Nat.le_of_ble_eq_true rfl) ?_
  intro p e σ m args below meth c C hr
  unfold fX7_readsWall at hf
  refine Go_aload_n (pc := 0) C dX7_readsWall_0 rfl ?_
  refine Go_iload_n (pc := 1) C dX7_readsWall_1 rfl ?_
  obtain ⟨r1, hr1, hf⟩ := bnd hf
  refine Go_callV1 (pc := 2) (ws1 := (w7 K a r1.2)) C 0 (0 :: 1 :: 2 :: 3 :: 4 :: 5 :: 6 :: 7 :: 8 :: 9 :: 10 :: 11 :: 12 :: 13 :: []) (kX7_readsNumber l K (pk a (0 :: 1 :: 2 :: 3 :: 4 :: 5 :: 6 :: 7 :: 8 :: 9 :: 10 :: 11 :: 12 :: 13 :: [])) s0 p2 r1 hr1) ycX7_readsNumber mw_950 (Nat.le_of_ble_eq_true rfl) rfl rfl rfl rfl (Nat.le_of_ble_eq_true rfl) ⟨Nat.zero_le _, Nat.zero_le _⟩ dX7_readsWall_2 (ll_149 _ _ _) rfl rfl (ll_150 _ _ _ _) ?_
  refine Go_if_ne (pc := 5) (tgt := 10) C dX7_readsWall_5 (by decide) (fun hc => ?_) (fun hc => ?_)
  · replace hf := ift hc hf
    refine Go_iconst (pc := 8) (v := 0) C dX7_readsWall_8 ci_0 ?_
    obtain rfl := Option.some.inj hf
    exact Go_zret C hr (Or.inl rfl) rfl dX7_readsWall_9
  · replace hf := iff' hc hf
    refine Go_aload_n (pc := 10) C dX7_readsWall_10 rfl ?_
    refine Go_dup (pc := 11) C dX7_readsWall_11 rfl ?_
    refine Go_get (pc := 12) C 0 6 rfl rfl inX7 (by decide) mw_635 rfl dX7_readsWall_12 ?_
    refine Go_iconst (pc := 15) (v := 1) C dX7_readsWall_15 ci_1 ?_
    refine Go_iload_n (pc := 16) C dX7_readsWall_16 rfl ?_
    refine Go_aload_n (pc := 17) C dX7_readsWall_17 rfl ?_
    refine Go_get (pc := 18) C 0 18 rfl rfl inX7 (by decide) mw_647 rfl dX7_readsWall_18 ?_
    refine Go_iadd (pc := 21) C dX7_readsWall_21 ?_
    refine Go_ishl (pc := 22) C dX7_readsWall_22 ?_
    refine Go_ior (pc := 23) C dX7_readsWall_23 ?_
    refine Go_put (pc := 24) (ws1 := (w7 K a ((r1.2.1, r1.2.2.1, r1.2.2.2.1, r1.2.2.2.2.1, r1.2.2.2.2.2.1, r1.2.2.2.2.2.2.1, r1.2.2.2.2.2.2.2.1 ||| ((1 : Int32) <<< ((p1 + r1.2.2.2.2.2.2.2.2.2.2.2.2.2.2.2.2.2.2.2.1) &&& 31)), r1.2.2.2.2.2.2.2.2)))) C 0 6 tyX7 tyX7_ok nmX7 rfl rfl inX7 (by decide) mw_635 rfl rfl (Nat.le_of_ble_eq_true rfl) dX7_readsWall_24 (ll_144 _ _ _ _) ?_
    refine Go_aload_n (pc := 27) C dX7_readsWall_27 rfl ?_
    obtain ⟨r2, hr2, hf⟩ := bnd hf
    refine Go_callV1 (pc := 28) (ws1 := (w7 K a r2.2)) C 0 (0 :: 1 :: 2 :: 3 :: 4 :: 5 :: 6 :: 7 :: 8 :: 9 :: 10 :: 11 :: 12 :: 13 :: []) (kX7_ends l K (pk a (0 :: 1 :: 2 :: 3 :: 4 :: 5 :: 6 :: 7 :: 8 :: 9 :: 10 :: 11 :: 12 :: 13 :: [])) ((r1.2.1, r1.2.2.1, r1.2.2.2.1, r1.2.2.2.2.1, r1.2.2.2.2.2.1, r1.2.2.2.2.2.2.1, r1.2.2.2.2.2.2.2.1 ||| ((1 : Int32) <<< ((p1 + r1.2.2.2.2.2.2.2.2.2.2.2.2.2.2.2.2.2.2.2.1) &&& 31)), r1.2.2.2.2.2.2.2.2)) r2 hr2) ycX7_ends mw_954 (Nat.le_of_ble_eq_true rfl) rfl rfl rfl rfl (Nat.le_of_ble_eq_true rfl) ⟨Nat.zero_le _, Nat.zero_le _⟩ dX7_readsWall_28 (ll_149 _ _ _) rfl rfl (ll_150 _ _ _ _) ?_
    obtain ⟨hz, hf⟩ := ifs hf
    obtain rfl := Option.some.inj hf
    exact Go_zret C hr hz rfl dX7_readsWall_31
def fX7_readsCrushed (s0 : S7) : Option (Int32 × S7) := Option.bind (fX7_here s0) (fun r1 => (if r1.1 = (-1 : Int32) then some ((0 : Int32), r1.2) else Option.bind (fX7_readsNumber r1.2 (999 : Int32)) (fun r2 => (if r2.1 = 0 then some ((0 : Int32), r2.2) else Option.bind (fX7_isPillar r2.2 r2.2.2.2.2.2.2.2.2.2.2.2.2.2.2.2.2.2.2.2.1) (fun r3 => (if r3 = 0 then some ((0 : Int32), (r2.2.1, r2.2.2.1, r2.2.2.2.1, r2.2.2.2.2.1, r2.2.2.2.2.2.1, r2.2.2.2.2.2.2.1, r2.2.2.2.2.2.2.2.1, r2.2.2.2.2.2.2.2.2.1, r2.2.2.2.2.2.2.2.2.2.1, r2.2.2.2.2.2.2.2.2.2.2.1, r2.2.2.2.2.2.2.2.2.2.2.2.1, r2.2.2.2.2.2.2.2.2.2.2.2.2.1, r2.2.2.2.2.2.2.2.2.2.2.2.2.2.1, r2.2.2.2.2.2.2.2.2.2.2.2.2.2.2.1, r2.2.2.2.2.2.2.2.2.2.2.2.2.2.2.2.1, r2.2.2.2.2.2.2.2.2.2.2.2.2.2.2.2.2.1, r2.2.2.2.2.2.2.2.2.2.2.2.2.2.2.2.2.2.1, r1.2.2.2.2.2.2.2.2.2.2.2.2.2.2.2.2.2.2.1, r2.2.2.2.2.2.2.2.2.2.2.2.2.2.2.2.2.2.2.2)) else Option.bind (fX7_stands r2.2 r2.2.2.2.2.2.2.2.2.2.2.2.2.2.2.2.2.2.2.2.1) (fun r4 => (if r4 = 0 then some ((0 : Int32), (r2.2.1, r2.2.2.1, r2.2.2.2.1, r2.2.2.2.2.1, r2.2.2.2.2.2.1, r2.2.2.2.2.2.2.1, r2.2.2.2.2.2.2.2.1, r2.2.2.2.2.2.2.2.2.1, r2.2.2.2.2.2.2.2.2.2.1, r2.2.2.2.2.2.2.2.2.2.2.1, r2.2.2.2.2.2.2.2.2.2.2.2.1, r2.2.2.2.2.2.2.2.2.2.2.2.2.1, r2.2.2.2.2.2.2.2.2.2.2.2.2.2.1, r2.2.2.2.2.2.2.2.2.2.2.2.2.2.2.1, r2.2.2.2.2.2.2.2.2.2.2.2.2.2.2.2.1, r2.2.2.2.2.2.2.2.2.2.2.2.2.2.2.2.2.1, r2.2.2.2.2.2.2.2.2.2.2.2.2.2.2.2.2.2.1, r1.2.2.2.2.2.2.2.2.2.2.2.2.2.2.2.2.2.2.1, r2.2.2.2.2.2.2.2.2.2.2.2.2.2.2.2.2.2.2.2)) else Option.bind (fX7_ends ((r2.2.1, r2.2.2.1, r2.2.2.2.1, r2.2.2.2.2.1, r2.2.2.2.2.2.1, r2.2.2.2.2.2.2.1 &&& (((1 : Int32) <<< (r2.2.2.2.2.2.2.2.2.2.2.2.2.2.2.2.2.2.2.2.1 &&& 31)) ^^^ (-1 : Int32)), r2.2.2.2.2.2.2.2))) (fun r5 => (if r5.1 = 0 ∨ r5.1 = 1 then some (r5.1, r5.2) else none))))))))))
theorem ycX7_readsCrushed : CalV yX7_readsCrushed cX7_readsCrushed 3 ((some .boolean)) 0 := ⟨mw_969, mw_69, mw_968, mw_55, ⟨by decide, by decide, by decide +kernel⟩, by decide⟩
set_option maxHeartbeats 4000000 in
set_option maxRecDepth 100000 in
theorem kX7_readsCrushed (l : Launch) (K : KK) (a : Nat → Nat) (s0 : S7) (res : Int32 × S7) (hf : fX7_readsCrushed s0 = some res) : Ct l K yX7_readsCrushed cX7_readsCrushed 3 ((some .boolean)) 2 [.ref (a 0)] (w7 K a s0) (some (.int res.1)) (w7 K a res.2) := by
  refine Ct_of2 (by decide) rfl (Nat.le_of_ble_eq_true rfl) ?_
  intro p e σ m args below meth c C hr
  unfold fX7_readsCrushed at hf
  refine Go_aload_n (pc := 0) C dX7_readsCrushed_0 rfl ?_
  obtain ⟨r1, hr1, hf⟩ := bnd hf
  refine Go_callV1 (pc := 1) (ws1 := (w7 K a r1.2)) C 0 (0 :: 1 :: 2 :: 3 :: 4 :: 5 :: 6 :: 7 :: 8 :: 9 :: 10 :: 11 :: 12 :: 13 :: []) (kX7_here l K (pk a (0 :: 1 :: 2 :: 3 :: 4 :: 5 :: 6 :: 7 :: 8 :: 9 :: 10 :: 11 :: 12 :: 13 :: [])) s0 r1 hr1) ycX7_here mw_930 (Nat.le_of_ble_eq_true rfl) rfl rfl rfl rfl (Nat.le_of_ble_eq_true rfl) ⟨Nat.zero_le _, Nat.zero_le _⟩ dX7_readsCrushed_1 (ll_149 _ _ _) rfl rfl (ll_150 _ _ _ _) ?_
  refine Go_istore_n (pc := 4) C dX7_readsCrushed_4 (by decide) ?_
  refine Go_aload_n (pc := 5) C dX7_readsCrushed_5 rfl ?_
  refine Go_get (pc := 6) C 0 17 rfl rfl inX7 (by decide) mw_646 rfl dX7_readsCrushed_6 ?_
  refine Go_istore_n (pc := 9) C dX7_readsCrushed_9 (by decide) ?_
  refine Go_iload_n (pc := 10) C dX7_readsCrushed_10 rfl ?_
  refine Go_iconst (pc := 11) (v := -1) C dX7_readsCrushed_11 ci_m1 ?_
  refine Go_icmp_eq (pc := 12) (tgt := 25) C dX7_readsCrushed_12 (by decide) (fun hc => ?_) (fun hc => ?_)
  · replace hf := ift hc hf
    refine Go_iconst (pc := 25) (v := 0) C dX7_readsCrushed_25 ci_0 ?_
    obtain rfl := Option.some.inj hf
    exact Go_zret C hr (Or.inl rfl) rfl dX7_readsCrushed_26
  · replace hf := iff' hc hf
    refine Go_aload_n (pc := 15) C dX7_readsCrushed_15 rfl ?_
    refine Go_sipush (pc := 16) (v := 999) C dX7_readsCrushed_16 cs_999 ?_
    obtain ⟨r2, hr2, hf⟩ := bnd hf
    refine Go_callV1 (pc := 19) (ws1 := (w7 K a r2.2)) C 0 (0 :: 1 :: 2 :: 3 :: 4 :: 5 :: 6 :: 7 :: 8 :: 9 :: 10 :: 11 :: 12 :: 13 :: []) (kX7_readsNumber l K (pk a (0 :: 1 :: 2 :: 3 :: 4 :: 5 :: 6 :: 7 :: 8 :: 9 :: 10 :: 11 :: 12 :: 13 :: [])) r1.2 (999 : Int32) r2 hr2) ycX7_readsNumber mw_950 (Nat.le_of_ble_eq_true rfl) rfl rfl rfl rfl (Nat.le_of_ble_eq_true rfl) ⟨Nat.zero_le _, Nat.zero_le _⟩ dX7_readsCrushed_19 (ll_149 _ _ _) rfl rfl (ll_150 _ _ _ _) ?_
    refine Go_if_ne (pc := 22) (tgt := 27) C dX7_readsCrushed_22 (by decide) (fun hc => ?_) (fun hc => ?_)
    · replace hf := ift hc hf
      refine Go_iconst (pc := 25) (v := 0) C dX7_readsCrushed_25 ci_0 ?_
      obtain rfl := Option.some.inj hf
      exact Go_zret C hr (Or.inl rfl) rfl dX7_readsCrushed_26
    · replace hf := iff' hc hf
      refine Go_aload_n (pc := 27) C dX7_readsCrushed_27 rfl ?_
      refine Go_aload_n (pc := 28) C dX7_readsCrushed_28 rfl ?_
      refine Go_get (pc := 29) C 0 18 rfl rfl inX7 (by decide) mw_647 rfl dX7_readsCrushed_29 ?_
      obtain ⟨r3, hr3, hf⟩ := bnd hf
      refine Go_callV1 (pc := 32) (ws1 := (w7 K a r2.2)) C 0 (0 :: 1 :: 2 :: 3 :: 4 :: 5 :: 6 :: 7 :: 8 :: 9 :: 10 :: 11 :: 12 :: 13 :: []) (kX7_isPillar l K (pk a (0 :: 1 :: 2 :: 3 :: 4 :: 5 :: 6 :: 7 :: 8 :: 9 :: 10 :: 11 :: 12 :: 13 :: [])) r2.2 r2.2.2.2.2.2.2.2.2.2.2.2.2.2.2.2.2.2.2.2.1 r3 hr3) ycX7_isPillar mw_766 (Nat.le_of_ble_eq_true rfl) rfl rfl rfl rfl (Nat.le_of_ble_eq_true rfl) ⟨Nat.zero_le _, Nat.zero_le _⟩ dX7_readsCrushed_32 (ll_149 _ _ _) rfl rfl (Wr_same (ll_149 _ _ _)) ?_
      refine Go_if_eq (pc := 35) (tgt := 49) C dX7_readsCrushed_35 (by decide) (fun hc => ?_) (fun hc => ?_)
      · replace hf := ift hc hf
        refine Go_aload_n (pc := 49) C dX7_readsCrushed_49 rfl ?_
        refine Go_iload_n (pc := 50) C dX7_readsCrushed_50 rfl ?_
        refine Go_put (pc := 51) (ws1 := (w7 K a ((r2.2.1, r2.2.2.1, r2.2.2.2.1, r2.2.2.2.2.1, r2.2.2.2.2.2.1, r2.2.2.2.2.2.2.1, r2.2.2.2.2.2.2.2.1, r2.2.2.2.2.2.2.2.2.1, r2.2.2.2.2.2.2.2.2.2.1, r2.2.2.2.2.2.2.2.2.2.2.1, r2.2.2.2.2.2.2.2.2.2.2.2.1, r2.2.2.2.2.2.2.2.2.2.2.2.2.1, r2.2.2.2.2.2.2.2.2.2.2.2.2.2.1, r2.2.2.2.2.2.2.2.2.2.2.2.2.2.2.1, r2.2.2.2.2.2.2.2.2.2.2.2.2.2.2.2.1, r2.2.2.2.2.2.2.2.2.2.2.2.2.2.2.2.2.1, r2.2.2.2.2.2.2.2.2.2.2.2.2.2.2.2.2.2.1, r1.2.2.2.2.2.2.2.2.2.2.2.2.2.2.2.2.2.2.1, r2.2.2.2.2.2.2.2.2.2.2.2.2.2.2.2.2.2.2.2)))) C 0 17 tyX7 tyX7_ok nmX7 rfl rfl inX7 (by decide) mw_646 rfl rfl (Nat.le_of_ble_eq_true rfl) dX7_readsCrushed_51 (ll_159 _ _ _ _) ?_
        refine Go_iconst (pc := 54) (v := 0) C dX7_readsCrushed_54 ci_0 ?_
        obtain rfl := Option.some.inj hf
        exact Go_zret C hr (Or.inl rfl) rfl dX7_readsCrushed_55
      · replace hf := iff' hc hf
        refine Go_aload_n (pc := 38) C dX7_readsCrushed_38 rfl ?_
        refine Go_aload_n (pc := 39) C dX7_readsCrushed_39 rfl ?_
        refine Go_get (pc := 40) C 0 18 rfl rfl inX7 (by decide) mw_647 rfl dX7_readsCrushed_40 ?_
        obtain ⟨r4, hr4, hf⟩ := bnd hf
        refine Go_callV1 (pc := 43) (ws1 := (w7 K a r2.2)) C 0 (0 :: 1 :: 2 :: 3 :: 4 :: 5 :: 6 :: 7 :: 8 :: 9 :: 10 :: 11 :: 12 :: 13 :: []) (kX7_stands l K (pk a (0 :: 1 :: 2 :: 3 :: 4 :: 5 :: 6 :: 7 :: 8 :: 9 :: 10 :: 11 :: 12 :: 13 :: [])) r2.2 r2.2.2.2.2.2.2.2.2.2.2.2.2.2.2.2.2.2.2.2.1 r4 hr4) ycX7_stands mw_819 (Nat.le_of_ble_eq_true rfl) rfl rfl rfl rfl (Nat.le_of_ble_eq_true rfl) ⟨Nat.zero_le _, Nat.zero_le _⟩ dX7_readsCrushed_43 (ll_149 _ _ _) rfl rfl (Wr_same (ll_149 _ _ _)) ?_
        refine Go_if_ne (pc := 46) (tgt := 56) C dX7_readsCrushed_46 (by decide) (fun hc => ?_) (fun hc => ?_)
        · replace hf := ift hc hf
          refine Go_aload_n (pc := 49) C dX7_readsCrushed_49 rfl ?_
          refine Go_iload_n (pc := 50) C dX7_readsCrushed_50 rfl ?_
          refine Go_put (pc := 51) (ws1 := (w7 K a ((r2.2.1, r2.2.2.1, r2.2.2.2.1, r2.2.2.2.2.1, r2.2.2.2.2.2.1, r2.2.2.2.2.2.2.1, r2.2.2.2.2.2.2.2.1, r2.2.2.2.2.2.2.2.2.1, r2.2.2.2.2.2.2.2.2.2.1, r2.2.2.2.2.2.2.2.2.2.2.1, r2.2.2.2.2.2.2.2.2.2.2.2.1, r2.2.2.2.2.2.2.2.2.2.2.2.2.1, r2.2.2.2.2.2.2.2.2.2.2.2.2.2.1, r2.2.2.2.2.2.2.2.2.2.2.2.2.2.2.1, r2.2.2.2.2.2.2.2.2.2.2.2.2.2.2.2.1, r2.2.2.2.2.2.2.2.2.2.2.2.2.2.2.2.2.1, r2.2.2.2.2.2.2.2.2.2.2.2.2.2.2.2.2.2.1, r1.2.2.2.2.2.2.2.2.2.2.2.2.2.2.2.2.2.2.1, r2.2.2.2.2.2.2.2.2.2.2.2.2.2.2.2.2.2.2.2)))) C 0 17 tyX7 tyX7_ok nmX7 rfl rfl inX7 (by decide) mw_646 rfl rfl (Nat.le_of_ble_eq_true rfl) dX7_readsCrushed_51 (ll_159 _ _ _ _) ?_
          refine Go_iconst (pc := 54) (v := 0) C dX7_readsCrushed_54 ci_0 ?_
          obtain rfl := Option.some.inj hf
          exact Go_zret C hr (Or.inl rfl) rfl dX7_readsCrushed_55
        · replace hf := iff' hc hf
          refine Go_aload_n (pc := 56) C dX7_readsCrushed_56 rfl ?_
          refine Go_dup (pc := 57) C dX7_readsCrushed_57 rfl ?_
          refine Go_get (pc := 58) C 0 5 rfl rfl inX7 (by decide) mw_634 rfl dX7_readsCrushed_58 ?_
          refine Go_iconst (pc := 61) (v := 1) C dX7_readsCrushed_61 ci_1 ?_
          refine Go_aload_n (pc := 62) C dX7_readsCrushed_62 rfl ?_
          refine Go_get (pc := 63) C 0 18 rfl rfl inX7 (by decide) mw_647 rfl dX7_readsCrushed_63 ?_
          refine Go_ishl (pc := 66) C dX7_readsCrushed_66 ?_
          refine Go_iconst (pc := 67) (v := -1) C dX7_readsCrushed_67 ci_m1 ?_
          refine Go_ixor (pc := 68) C dX7_readsCrushed_68 ?_
          refine Go_iand (pc := 69) C dX7_readsCrushed_69 ?_
          refine Go_put (pc := 70) (ws1 := (w7 K a ((r2.2.1, r2.2.2.1, r2.2.2.2.1, r2.2.2.2.2.1, r2.2.2.2.2.2.1, r2.2.2.2.2.2.2.1 &&& (((1 : Int32) <<< (r2.2.2.2.2.2.2.2.2.2.2.2.2.2.2.2.2.2.2.2.1 &&& 31)) ^^^ (-1 : Int32)), r2.2.2.2.2.2.2.2)))) C 0 5 tyX7 tyX7_ok nmX7 rfl rfl inX7 (by decide) mw_634 rfl rfl (Nat.le_of_ble_eq_true rfl) dX7_readsCrushed_70 (ll_143 _ _ _ _) ?_
          refine Go_aload_n (pc := 73) C dX7_readsCrushed_73 rfl ?_
          obtain ⟨r5, hr5, hf⟩ := bnd hf
          refine Go_callV1 (pc := 74) (ws1 := (w7 K a r5.2)) C 0 (0 :: 1 :: 2 :: 3 :: 4 :: 5 :: 6 :: 7 :: 8 :: 9 :: 10 :: 11 :: 12 :: 13 :: []) (kX7_ends l K (pk a (0 :: 1 :: 2 :: 3 :: 4 :: 5 :: 6 :: 7 :: 8 :: 9 :: 10 :: 11 :: 12 :: 13 :: [])) ((r2.2.1, r2.2.2.1, r2.2.2.2.1, r2.2.2.2.2.1, r2.2.2.2.2.2.1, r2.2.2.2.2.2.2.1 &&& (((1 : Int32) <<< (r2.2.2.2.2.2.2.2.2.2.2.2.2.2.2.2.2.2.2.2.1 &&& 31)) ^^^ (-1 : Int32)), r2.2.2.2.2.2.2.2)) r5 hr5) ycX7_ends mw_954 (Nat.le_of_ble_eq_true rfl) rfl rfl rfl rfl (Nat.le_of_ble_eq_true rfl) ⟨Nat.zero_le _, Nat.zero_le _⟩ dX7_readsCrushed_74 (ll_149 _ _ _) rfl rfl (ll_150 _ _ _ _) ?_
          obtain ⟨hz, hf⟩ := ifs hf
          obtain rfl := Option.some.inj hf
          exact Go_zret C hr hz rfl dX7_readsCrushed_77
def fX7_readsRun (s0 : S7) : Option (Int32 × S7) := Option.bind (fX7_ends s0) (fun r1 => (if r1.1 = 0 then some ((0 : Int32), r1.2) else Option.bind (fX7_goes r1.2) (fun r2 => some ((1 : Int32), r2))))
theorem ycX7_readsRun : CalV yX7_readsRun cX7_readsRun 1 ((some .boolean)) 0 := ⟨mw_973, mw_69, mw_972, mw_56, ⟨by decide, by decide, by decide +kernel⟩, by decide⟩
set_option maxHeartbeats 4000000 in
set_option maxRecDepth 100000 in
theorem kX7_readsRun (l : Launch) (K : KK) (a : Nat → Nat) (s0 : S7) (res : Int32 × S7) (hf : fX7_readsRun s0 = some res) : Ct l K yX7_readsRun cX7_readsRun 1 ((some .boolean)) 5 [.ref (a 0)] (w7 K a s0) (some (.int res.1)) (w7 K a res.2) := by
  refine Ct_of2 (by decide) rfl (Nat.le_of_ble_eq_true rfl) ?_
  intro p e σ m args below meth c C hr
  unfold fX7_readsRun at hf
  refine Go_aload_n (pc := 0) C dX7_readsRun_0 rfl ?_
  obtain ⟨r1, hr1, hf⟩ := bnd hf
  refine Go_callV1 (pc := 1) (ws1 := (w7 K a r1.2)) C 0 (0 :: 1 :: 2 :: 3 :: 4 :: 5 :: 6 :: 7 :: 8 :: 9 :: 10 :: 11 :: 12 :: 13 :: []) (kX7_ends l K (pk a (0 :: 1 :: 2 :: 3 :: 4 :: 5 :: 6 :: 7 :: 8 :: 9 :: 10 :: 11 :: 12 :: 13 :: [])) s0 r1 hr1) ycX7_ends mw_954 (Nat.le_of_ble_eq_true rfl) rfl rfl rfl rfl (Nat.le_of_ble_eq_true rfl) ⟨Nat.zero_le _, Nat.zero_le _⟩ dX7_readsRun_1 (ll_149 _ _ _) rfl rfl (ll_150 _ _ _ _) ?_
  refine Go_if_ne (pc := 4) (tgt := 9) C dX7_readsRun_4 (by decide) (fun hc => ?_) (fun hc => ?_)
  · replace hf := ift hc hf
    refine Go_iconst (pc := 7) (v := 0) C dX7_readsRun_7 ci_0 ?_
    obtain rfl := Option.some.inj hf
    exact Go_zret C hr (Or.inl rfl) rfl dX7_readsRun_8
  · replace hf := iff' hc hf
    refine Go_aload_n (pc := 9) C dX7_readsRun_9 rfl ?_
    obtain ⟨r2, hr2, hf⟩ := bnd hf
    refine Go_callV0 (pc := 10) (ws1 := (w7 K a r2)) C 0 (0 :: 1 :: 2 :: 3 :: 4 :: 5 :: 6 :: 7 :: 8 :: 9 :: 10 :: 11 :: 12 :: 13 :: []) (kX7_goes l K (pk a (0 :: 1 :: 2 :: 3 :: 4 :: 5 :: 6 :: 7 :: 8 :: 9 :: 10 :: 11 :: 12 :: 13 :: [])) r1.2 r2 hr2) ycX7_goes mw_863 (Nat.le_of_ble_eq_true rfl) rfl rfl rfl rfl (Nat.le_of_ble_eq_true rfl) ⟨Nat.zero_le _, Nat.zero_le _⟩ dX7_readsRun_10 (ll_149 _ _ _) rfl rfl (ll_150 _ _ _ _) ?_
    refine Go_iconst (pc := 13) (v := 1) C dX7_readsRun_13 ci_1 ?_
    obtain rfl := Option.some.inj hf
    exact Go_zret C hr (Or.inr rfl) rfl dX7_readsRun_14
def fX7_readsOrder (s0 : S7) : Option (Int32 × S7) := Option.bind (fX7_here s0) (fun r1 => (if r1.1 = (33 : Int32) then Option.bind (fX7_readsRun ((r1.2.1, r1.2.2.1, r1.2.2.2.1, r1.2.2.2.2.1, r1.2.2.2.2.2.1, r1.2.2.2.2.2.2.1, r1.2.2.2.2.2.2.2.1, r1.2.2.2.2.2.2.2.2.1, r1.2.2.2.2.2.2.2.2.2.1, r1.2.2.2.2.2.2.2.2.2.2.1, r1.2.2.2.2.2.2.2.2.2.2.2.1, r1.2.2.2.2.2.2.2.2.2.2.2.2.1, r1.2.2.2.2.2.2.2.2.2.2.2.2.2.1, r1.2.2.2.2.2.2.2.2.2.2.2.2.2.2.1, r1.2.2.2.2.2.2.2.2.2.2.2.2.2.2.2.1, r1.2.2.2.2.2.2.2.2.2.2.2.2.2.2.2.2.1, r1.2.2.2.2.2.2.2.2.2.2.2.2.2.2.2.2.2.1, r1.2.2.2.2.2.2.2.2.2.2.2.2.2.2.2.2.2.2.1 + (1 : Int32), r1.2.2.2.2.2.2.2.2.2.2.2.2.2.2.2.2.2.2.2))) (fun r2 => (if r2.1 = 0 ∨ r2.1 = 1 then some (r2.1, r2.2) else none)) else (if r1.1 = (45 : Int32) then Option.bind (fX7_readsWall ((r1.2.1, r1.2.2.1, r1.2.2.2.1, r1.2.2.2.2.1, r1.2.2.2.2.2.1, r1.2.2.2.2.2.2.1, r1.2.2.2.2.2.2.2.1, r1.2.2.2.2.2.2.2.2.1, r1.2.2.2.2.2.2.2.2.2.1, r1.2.2.2.2.2.2.2.2.2.2.1, r1.2.2.2.2.2.2.2.2.2.2.2.1, r1.2.2.2.2.2.2.2.2.2.2.2.2.1, r1.2.2.2.2.2.2.2.2.2.2.2.2.2.1, r1.2.2.2.2.2.2.2.2.2.2.2.2.2.2.1, r1.2.2.2.2.2.2.2.2.2.2.2.2.2.2.2.1, r1.2.2.2.2.2.2.2.2.2.2.2.2.2.2.2.2.1, r1.2.2.2.2.2.2.2.2.2.2.2.2.2.2.2.2.2.1, r1.2.2.2.2.2.2.2.2.2.2.2.2.2.2.2.2.2.2.1 + (1 : Int32), r1.2.2.2.2.2.2.2.2.2.2.2.2.2.2.2.2.2.2.2)) (0 : Int32) (6 : Int32)) (fun r3 => (if r3.1 = 0 ∨ r3.1 = 1 then some (r3.1, r3.2) else none)) else (if r1.1 = (47 : Int32) then Option.bind (fX7_readsWall ((r1.2.1, r1.2.2.1, r1.2.2.2.1, r1.2.2.2.2.1, r1.2.2.2.2.2.1, r1.2.2.2.2.2.2.1, r1.2.2.2.2.2.2.2.1, r1.2.2.2.2.2.2.2.2.1, r1.2.2.2.2.2.2.2.2.2.1, r1.2.2.2.2.2.2.2.2.2.2.1, r1.2.2.2.2.2.2.2.2.2.2.2.1, r1.2.2.2.2.2.2.2.2.2.2.2.2.1, r1.2.2.2.2.2.2.2.2.2.2.2.2.2.1, r1.2.2.2.2.2.2.2.2.2.2.2.2.2.2.1, r1.2.2.2.2.2.2.2.2.2.2.2.2.2.2.2.1, r1.2.2.2.2.2.2.2.2.2.2.2.2.2.2.2.2.1, r1.2.2.2.2.2.2.2.2.2.2.2.2.2.2.2.2.2.1, r1.2.2.2.2.2.2.2.2.2.2.2.2.2.2.2.2.2.2.1 + (1 : Int32), r1.2.2.2.2.2.2.2.2.2.2.2.2.2.2.2.2.2.2.2)) (10 : Int32) (10 : Int32)) (fun r4 => (if r4.1 = 0 ∨ r4.1 = 1 then some (r4.1, r4.2) else none)) else (if r1.1 = (112 : Int32) then Option.bind (fX7_readsPillar ((r1.2.1, r1.2.2.1, r1.2.2.2.1, r1.2.2.2.2.1, r1.2.2.2.2.2.1, r1.2.2.2.2.2.2.1, r1.2.2.2.2.2.2.2.1, r1.2.2.2.2.2.2.2.2.1, r1.2.2.2.2.2.2.2.2.2.1, r1.2.2.2.2.2.2.2.2.2.2.1, r1.2.2.2.2.2.2.2.2.2.2.2.1, r1.2.2.2.2.2.2.2.2.2.2.2.2.1, r1.2.2.2.2.2.2.2.2.2.2.2.2.2.1, r1.2.2.2.2.2.2.2.2.2.2.2.2.2.2.1, r1.2.2.2.2.2.2.2.2.2.2.2.2.2.2.2.1, r1.2.2.2.2.2.2.2.2.2.2.2.2.2.2.2.2.1, r1.2.2.2.2.2.2.2.2.2.2.2.2.2.2.2.2.2.1, r1.2.2.2.2.2.2.2.2.2.2.2.2.2.2.2.2.2.2.1 + (1 : Int32), r1.2.2.2.2.2.2.2.2.2.2.2.2.2.2.2.2.2.2.2)) r1.2.2.2.2.2.2.2.2.2.2.2.2.2.2.2.2.2.2.1) (fun r5 => (if r5.1 = 0 ∨ r5.1 = 1 then some (r5.1, r5.2) else none)) else (if r1.1 = (119 : Int32) then Option.bind (fX7_readsWeight ((r1.2.1, r1.2.2.1, r1.2.2.2.1, r1.2.2.2.2.1, r1.2.2.2.2.2.1, r1.2.2.2.2.2.2.1, r1.2.2.2.2.2.2.2.1, r1.2.2.2.2.2.2.2.2.1, r1.2.2.2.2.2.2.2.2.2.1, r1.2.2.2.2.2.2.2.2.2.2.1, r1.2.2.2.2.2.2.2.2.2.2.2.1, r1.2.2.2.2.2.2.2.2.2.2.2.2.1, r1.2.2.2.2.2.2.2.2.2.2.2.2.2.1, r1.2.2.2.2.2.2.2.2.2.2.2.2.2.2.1, r1.2.2.2.2.2.2.2.2.2.2.2.2.2.2.2.1, r1.2.2.2.2.2.2.2.2.2.2.2.2.2.2.2.2.1, r1.2.2.2.2.2.2.2.2.2.2.2.2.2.2.2.2.2.1, r1.2.2.2.2.2.2.2.2.2.2.2.2.2.2.2.2.2.2.1 + (1 : Int32), r1.2.2.2.2.2.2.2.2.2.2.2.2.2.2.2.2.2.2.2))) (fun r6 => (if r6.1 = 0 ∨ r6.1 = 1 then some (r6.1, r6.2) else none)) else (if r1.1 = (120 : Int32) then Option.bind (fX7_readsCrushed ((r1.2.1, r1.2.2.1, r1.2.2.2.1, r1.2.2.2.2.1, r1.2.2.2.2.2.1, r1.2.2.2.2.2.2.1, r1.2.2.2.2.2.2.2.1, r1.2.2.2.2.2.2.2.2.1, r1.2.2.2.2.2.2.2.2.2.1, r1.2.2.2.2.2.2.2.2.2.2.1, r1.2.2.2.2.2.2.2.2.2.2.2.1, r1.2.2.2.2.2.2.2.2.2.2.2.2.1, r1.2.2.2.2.2.2.2.2.2.2.2.2.2.1, r1.2.2.2.2.2.2.2.2.2.2.2.2.2.2.1, r1.2.2.2.2.2.2.2.2.2.2.2.2.2.2.2.1, r1.2.2.2.2.2.2.2.2.2.2.2.2.2.2.2.2.1, r1.2.2.2.2.2.2.2.2.2.2.2.2.2.2.2.2.2.1, r1.2.2.2.2.2.2.2.2.2.2.2.2.2.2.2.2.2.2.1 + (1 : Int32), r1.2.2.2.2.2.2.2.2.2.2.2.2.2.2.2.2.2.2.2))) (fun r7 => (if r7.1 = 0 ∨ r7.1 = 1 then some (r7.1, r7.2) else none)) else some ((0 : Int32), r1.2))))))))
theorem ycX7_readsOrder : CalV yX7_readsOrder cX7_readsOrder 3 ((some .boolean)) 0 := ⟨mw_941, mw_69, mw_940, mw_48, ⟨by decide, by decide, by decide +kernel⟩, by decide⟩
set_option maxHeartbeats 4000000 in
set_option maxRecDepth 100000 in
theorem kX7_readsOrder (l : Launch) (K : KK) (a : Nat → Nat) (s0 : S7) (res : Int32 × S7) (hf : fX7_readsOrder s0 = some res) : Ct l K yX7_readsOrder cX7_readsOrder 3 ((some .boolean)) 6 [.ref (a 0)] (w7 K a s0) (some (.int res.1)) (w7 K a res.2) := by
  refine Ct_of2 (by decide) rfl (Nat.le_of_ble_eq_true rfl) ?_
  intro p e σ m args below meth c C hr
  unfold fX7_readsOrder at hf
  refine Go_aload_n (pc := 0) C dX7_readsOrder_0 rfl ?_
  obtain ⟨r1, hr1, hf⟩ := bnd hf
  refine Go_callV1 (pc := 1) (ws1 := (w7 K a r1.2)) C 0 (0 :: 1 :: 2 :: 3 :: 4 :: 5 :: 6 :: 7 :: 8 :: 9 :: 10 :: 11 :: 12 :: 13 :: []) (kX7_here l K (pk a (0 :: 1 :: 2 :: 3 :: 4 :: 5 :: 6 :: 7 :: 8 :: 9 :: 10 :: 11 :: 12 :: 13 :: [])) s0 r1 hr1) ycX7_here mw_930 (Nat.le_of_ble_eq_true rfl) rfl rfl rfl rfl (Nat.le_of_ble_eq_true rfl) ⟨Nat.zero_le _, Nat.zero_le _⟩ dX7_readsOrder_1 (ll_149 _ _ _) rfl rfl (ll_150 _ _ _ _) ?_
  refine Go_istore_n (pc := 4) C dX7_readsOrder_4 (by decide) ?_
  refine Go_aload_n (pc := 5) C dX7_readsOrder_5 rfl ?_
  refine Go_get (pc := 6) C 0 17 rfl rfl inX7 (by decide) mw_646 rfl dX7_readsOrder_6 ?_
  refine Go_istore_n (pc := 9) C dX7_readsOrder_9 (by decide) ?_
  refine Go_aload_n (pc := 10) C dX7_readsOrder_10 rfl ?_
  refine Go_dup (pc := 11) C dX7_readsOrder_11 rfl ?_
  refine Go_get (pc := 12) C 0 17 rfl rfl inX7 (by decide) mw_646 rfl dX7_readsOrder_12 ?_
  refine Go_iconst (pc := 15) (v := 1) C dX7_readsOrder_15 ci_1 ?_
  refine Go_iadd (pc := 16) C dX7_readsOrder_16 ?_
  refine Go_put (pc := 17) (ws1 := (w7 K a ((r1.2.1, r1.2.2.1, r1.2.2.2.1, r1.2.2.2.2.1, r1.2.2.2.2.2.1, r1.2.2.2.2.2.2.1, r1.2.2.2.2.2.2.2.1, r1.2.2.2.2.2.2.2.2.1, r1.2.2.2.2.2.2.2.2.2.1, r1.2.2.2.2.2.2.2.2.2.2.1, r1.2.2.2.2.2.2.2.2.2.2.2.1, r1.2.2.2.2.2.2.2.2.2.2.2.2.1, r1.2.2.2.2.2.2.2.2.2.2.2.2.2.1, r1.2.2.2.2.2.2.2.2.2.2.2.2.2.2.1, r1.2.2.2.2.2.2.2.2.2.2.2.2.2.2.2.1, r1.2.2.2.2.2.2.2.2.2.2.2.2.2.2.2.2.1, r1.2.2.2.2.2.2.2.2.2.2.2.2.2.2.2.2.2.1, r1.2.2.2.2.2.2.2.2.2.2.2.2.2.2.2.2.2.2.1 + (1 : Int32), r1.2.2.2.2.2.2.2.2.2.2.2.2.2.2.2.2.2.2.2)))) C 0 17 tyX7 tyX7_ok nmX7 rfl rfl inX7 (by decide) mw_646 rfl rfl (Nat.le_of_ble_eq_true rfl) dX7_readsOrder_17 (ll_159 _ _ _ _) ?_
  refine Go_iload_n (pc := 20) C dX7_readsOrder_20 rfl ?_
  by_cases hx0 : r1.1 = (33 : Int32)
  · replace hf := ift hx0 hf
    refine Go_lookup (pc := 21) (off := 92) (tgt := 113) C dX7_readsOrder_21 rfl (by rw [hx0]; decide) (by decide) ?_
    refine Go_aload_n (pc := 113) C dX7_readsOrder_113 rfl ?_
    obtain ⟨r2, hr2, hf⟩ := bnd hf
    refine Go_callV1 (pc := 114) (ws1 := (w7 K a r2.2)) C 0 (0 :: 1 :: 2 :: 3 :: 4 :: 5 :: 6 :: 7 :: 8 :: 9 :: 10 :: 11 :: 12 :: 13 :: []) (kX7_readsRun l K (pk a (0 :: 1 :: 2 :: 3 :: 4 :: 5 :: 6 :: 7 :: 8 :: 9 :: 10 :: 11 :: 12 :: 13 :: [])) ((r1.2.1, r1.2.2.1, r1.2.2.2.1, r1.2.2.2.2.1, r1.2.2.2.2.2.1, r1.2.2.2.2.2.2.1, r1.2.2.2.2.2.2.2.1, r1.2.2.2.2.2.2.2.2.1, r1.2.2.2.2.2.2.2.2.2.1, r1.2.2.2.2.2.2.2.2.2.2.1, r1.2.2.2.2.2.2.2.2.2.2.2.1, r1.2.2.2.2.2.2.2.2.2.2.2.2.1, r1.2.2.2.2.2.2.2.2.2.2.2.2.2.1, r1.2.2.2.2.2.2.2.2.2.2.2.2.2.2.1, r1.2.2.2.2.2.2.2.2.2.2.2.2.2.2.2.1, r1.2.2.2.2.2.2.2.2.2.2.2.2.2.2.2.2.1, r1.2.2.2.2.2.2.2.2.2.2.2.2.2.2.2.2.2.1, r1.2.2.2.2.2.2.2.2.2.2.2.2.2.2.2.2.2.2.1 + (1 : Int32), r1.2.2.2.2.2.2.2.2.2.2.2.2.2.2.2.2.2.2.2)) r2 hr2) ycX7_readsRun mw_970 (Nat.le_of_ble_eq_true rfl) rfl rfl rfl rfl (Nat.le_of_ble_eq_true rfl) ⟨Nat.zero_le _, Nat.zero_le _⟩ dX7_readsOrder_114 (ll_149 _ _ _) rfl rfl (ll_150 _ _ _ _) ?_
    obtain ⟨hz, hf⟩ := ifs hf
    obtain rfl := Option.some.inj hf
    exact Go_zret C hr hz rfl dX7_readsOrder_117
  replace hf := iff' hx0 hf
  by_cases hx1 : r1.1 = (45 : Int32)
  · replace hf := ift hx1 hf
    refine Go_lookup (pc := 21) (off := 70) (tgt := 91) C dX7_readsOrder_21 rfl (by rw [hx1]; decide) (by decide) ?_
    refine Go_aload_n (pc := 91) C dX7_readsOrder_91 rfl ?_
    refine Go_iconst (pc := 92) (v := 0) C dX7_readsOrder_92 ci_0 ?_
    refine Go_bipush (pc := 93) (v := 6) C dX7_readsOrder_93 cb_6 ?_
    obtain ⟨r3, hr3, hf⟩ := bnd hf
    refine Go_callV1 (pc := 95) (ws1 := (w7 K a r3.2)) C 0 (0 :: 1 :: 2 :: 3 :: 4 :: 5 :: 6 :: 7 :: 8 :: 9 :: 10 :: 11 :: 12 :: 13 :: []) (kX7_readsWall l K (pk a (0 :: 1 :: 2 :: 3 :: 4 :: 5 :: 6 :: 7 :: 8 :: 9 :: 10 :: 11 :: 12 :: 13 :: [])) ((r1.2.1, r1.2.2.1, r1.2.2.2.1, r1.2.2.2.2.1, r1.2.2.2.2.2.1, r1.2.2.2.2.2.2.1, r1.2.2.2.2.2.2.2.1, r1.2.2.2.2.2.2.2.2.1, r1.2.2.2.2.2.2.2.2.2.1, r1.2.2.2.2.2.2.2.2.2.2.1, r1.2.2.2.2.2.2.2.2.2.2.2.1, r1.2.2.2.2.2.2.2.2.2.2.2.2.1, r1.2.2.2.2.2.2.2.2.2.2.2.2.2.1, r1.2.2.2.2.2.2.2.2.2.2.2.2.2.2.1, r1.2.2.2.2.2.2.2.2.2.2.2.2.2.2.2.1, r1.2.2.2.2.2.2.2.2.2.2.2.2.2.2.2.2.1, r1.2.2.2.2.2.2.2.2.2.2.2.2.2.2.2.2.2.1, r1.2.2.2.2.2.2.2.2.2.2.2.2.2.2.2.2.2.2.1 + (1 : Int32), r1.2.2.2.2.2.2.2.2.2.2.2.2.2.2.2.2.2.2.2)) (0 : Int32) (6 : Int32) r3 hr3) ycX7_readsWall mw_962 (Nat.le_of_ble_eq_true rfl) rfl rfl rfl rfl (Nat.le_of_ble_eq_true rfl) ⟨Nat.zero_le _, Nat.zero_le _⟩ dX7_readsOrder_95 (ll_149 _ _ _) rfl rfl (ll_150 _ _ _ _) ?_
    obtain ⟨hz, hf⟩ := ifs hf
    obtain rfl := Option.some.inj hf
    exact Go_zret C hr hz rfl dX7_readsOrder_98
  replace hf := iff' hx1 hf
  by_cases hx2 : r1.1 = (47 : Int32)
  · replace hf := ift hx2 hf
    refine Go_lookup (pc := 21) (off := 78) (tgt := 99) C dX7_readsOrder_21 rfl (by rw [hx2]; decide) (by decide) ?_
    refine Go_aload_n (pc := 99) C dX7_readsOrder_99 rfl ?_
    refine Go_bipush (pc := 100) (v := 10) C dX7_readsOrder_100 cb_10 ?_
    refine Go_bipush (pc := 102) (v := 10) C dX7_readsOrder_102 cb_10 ?_
    obtain ⟨r4, hr4, hf⟩ := bnd hf
    refine Go_callV1 (pc := 104) (ws1 := (w7 K a r4.2)) C 0 (0 :: 1 :: 2 :: 3 :: 4 :: 5 :: 6 :: 7 :: 8 :: 9 :: 10 :: 11 :: 12 :: 13 :: []) (kX7_readsWall l K (pk a (0 :: 1 :: 2 :: 3 :: 4 :: 5 :: 6 :: 7 :: 8 :: 9 :: 10 :: 11 :: 12 :: 13 :: [])) ((r1.2.1, r1.2.2.1, r1.2.2.2.1, r1.2.2.2.2.1, r1.2.2.2.2.2.1, r1.2.2.2.2.2.2.1, r1.2.2.2.2.2.2.2.1, r1.2.2.2.2.2.2.2.2.1, r1.2.2.2.2.2.2.2.2.2.1, r1.2.2.2.2.2.2.2.2.2.2.1, r1.2.2.2.2.2.2.2.2.2.2.2.1, r1.2.2.2.2.2.2.2.2.2.2.2.2.1, r1.2.2.2.2.2.2.2.2.2.2.2.2.2.1, r1.2.2.2.2.2.2.2.2.2.2.2.2.2.2.1, r1.2.2.2.2.2.2.2.2.2.2.2.2.2.2.2.1, r1.2.2.2.2.2.2.2.2.2.2.2.2.2.2.2.2.1, r1.2.2.2.2.2.2.2.2.2.2.2.2.2.2.2.2.2.1, r1.2.2.2.2.2.2.2.2.2.2.2.2.2.2.2.2.2.2.1 + (1 : Int32), r1.2.2.2.2.2.2.2.2.2.2.2.2.2.2.2.2.2.2.2)) (10 : Int32) (10 : Int32) r4 hr4) ycX7_readsWall mw_962 (Nat.le_of_ble_eq_true rfl) rfl rfl rfl rfl (Nat.le_of_ble_eq_true rfl) ⟨Nat.zero_le _, Nat.zero_le _⟩ dX7_readsOrder_104 (ll_149 _ _ _) rfl rfl (ll_150 _ _ _ _) ?_
    obtain ⟨hz, hf⟩ := ifs hf
    obtain rfl := Option.some.inj hf
    exact Go_zret C hr hz rfl dX7_readsOrder_107
  replace hf := iff' hx2 hf
  by_cases hx3 : r1.1 = (112 : Int32)
  · replace hf := ift hx3 hf
    refine Go_lookup (pc := 21) (off := 59) (tgt := 80) C dX7_readsOrder_21 rfl (by rw [hx3]; decide) (by decide) ?_
    refine Go_aload_n (pc := 80) C dX7_readsOrder_80 rfl ?_
    refine Go_iload_n (pc := 81) C dX7_readsOrder_81 rfl ?_
    obtain ⟨r5, hr5, hf⟩ := bnd hf
    refine Go_callV1 (pc := 82) (ws1 := (w7 K a r5.2)) C 0 (0 :: 1 :: 2 :: 3 :: 4 :: 5 :: 6 :: 7 :: 8 :: 9 :: 10 :: 11 :: 12 :: 13 :: []) (kX7_readsPillar l K (pk a (0 :: 1 :: 2 :: 3 :: 4 :: 5 :: 6 :: 7 :: 8 :: 9 :: 10 :: 11 :: 12 :: 13 :: [])) ((r1.2.1, r1.2.2.1, r1.2.2.2.1, r1.2.2.2.2.1, r1.2.2.2.2.2.1, r1.2.2.2.2.2.2.1, r1.2.2.2.2.2.2.2.1, r1.2.2.2.2.2.2.2.2.1, r1.2.2.2.2.2.2.2.2.2.1, r1.2.2.2.2.2.2.2.2.2.2.1, r1.2.2.2.2.2.2.2.2.2.2.2.1, r1.2.2.2.2.2.2.2.2.2.2.2.2.1, r1.2.2.2.2.2.2.2.2.2.2.2.2.2.1, r1.2.2.2.2.2.2.2.2.2.2.2.2.2.2.1, r1.2.2.2.2.2.2.2.2.2.2.2.2.2.2.2.1, r1.2.2.2.2.2.2.2.2.2.2.2.2.2.2.2.2.1, r1.2.2.2.2.2.2.2.2.2.2.2.2.2.2.2.2.2.1, r1.2.2.2.2.2.2.2.2.2.2.2.2.2.2.2.2.2.2.1 + (1 : Int32), r1.2.2.2.2.2.2.2.2.2.2.2.2.2.2.2.2.2.2.2)) r1.2.2.2.2.2.2.2.2.2.2.2.2.2.2.2.2.2.2.1 r5 hr5) ycX7_readsPillar mw_942 (Nat.le_of_ble_eq_true rfl) rfl rfl rfl rfl (Nat.le_of_ble_eq_true rfl) ⟨Nat.zero_le _, Nat.zero_le _⟩ dX7_readsOrder_82 (ll_149 _ _ _) rfl rfl (ll_150 _ _ _ _) ?_
    obtain ⟨hz, hf⟩ := ifs hf
    obtain rfl := Option.some.inj hf
    exact Go_zret C hr hz rfl dX7_readsOrder_85
  replace hf := iff' hx3 hf
  by_cases hx4 : r1.1 = (119 : Int32)
  · replace hf := ift hx4 hf
    refine Go_lookup (pc := 21) (off := 65) (tgt := 86) C dX7_readsOrder_21 rfl (by rw [hx4]; decide) (by decide) ?_
    refine Go_aload_n (pc := 86) C dX7_readsOrder_86 rfl ?_
    obtain ⟨r6, hr6, hf⟩ := bnd hf
    refine Go_callV1 (pc := 87) (ws1 := (w7 K a r6.2)) C 0 (0 :: 1 :: 2 :: 3 :: 4 :: 5 :: 6 :: 7 :: 8 :: 9 :: 10 :: 11 :: 12 :: 13 :: []) (kX7_readsWeight l K (pk a (0 :: 1 :: 2 :: 3 :: 4 :: 5 :: 6 :: 7 :: 8 :: 9 :: 10 :: 11 :: 12 :: 13 :: [])) ((r1.2.1, r1.2.2.1, r1.2.2.2.1, r1.2.2.2.2.1, r1.2.2.2.2.2.1, r1.2.2.2.2.2.2.1, r1.2.2.2.2.2.2.2.1, r1.2.2.2.2.2.2.2.2.1, r1.2.2.2.2.2.2.2.2.2.1, r1.2.2.2.2.2.2.2.2.2.2.1, r1.2.2.2.2.2.2.2.2.2.2.2.1, r1.2.2.2.2.2.2.2.2.2.2.2.2.1, r1.2.2.2.2.2.2.2.2.2.2.2.2.2.1, r1.2.2.2.2.2.2.2.2.2.2.2.2.2.2.1, r1.2.2.2.2.2.2.2.2.2.2.2.2.2.2.2.1, r1.2.2.2.2.2.2.2.2.2.2.2.2.2.2.2.2.1, r1.2.2.2.2.2.2.2.2.2.2.2.2.2.2.2.2.2.1, r1.2.2.2.2.2.2.2.2.2.2.2.2.2.2.2.2.2.2.1 + (1 : Int32), r1.2.2.2.2.2.2.2.2.2.2.2.2.2.2.2.2.2.2.2)) r6 hr6) ycX7_readsWeight mw_958 (Nat.le_of_ble_eq_true rfl) rfl rfl rfl rfl (Nat.le_of_ble_eq_true rfl) ⟨Nat.zero_le _, Nat.zero_le _⟩ dX7_readsOrder_87 (ll_149 _ _ _) rfl rfl (ll_150 _ _ _ _) ?_
    obtain ⟨hz, hf⟩ := ifs hf
    obtain rfl := Option.some.inj hf
    exact Go_zret C hr hz rfl dX7_readsOrder_90
  replace hf := iff' hx4 hf
  by_cases hx5 : r1.1 = (120 : Int32)
  · replace hf := ift hx5 hf
    refine Go_lookup (pc := 21) (off := 87) (tgt := 108) C dX7_readsOrder_21 rfl (by rw [hx5]; decide) (by decide) ?_
    refine Go_aload_n (pc := 108) C dX7_readsOrder_108 rfl ?_
    obtain ⟨r7, hr7, hf⟩ := bnd hf
    refine Go_callV1 (pc := 109) (ws1 := (w7 K a r7.2)) C 0 (0 :: 1 :: 2 :: 3 :: 4 :: 5 :: 6 :: 7 :: 8 :: 9 :: 10 :: 11 :: 12 :: 13 :: []) (kX7_readsCrushed l K (pk a (0 :: 1 :: 2 :: 3 :: 4 :: 5 :: 6 :: 7 :: 8 :: 9 :: 10 :: 11 :: 12 :: 13 :: [])) ((r1.2.1, r1.2.2.1, r1.2.2.2.1, r1.2.2.2.2.1, r1.2.2.2.2.2.1, r1.2.2.2.2.2.2.1, r1.2.2.2.2.2.2.2.1, r1.2.2.2.2.2.2.2.2.1, r1.2.2.2.2.2.2.2.2.2.1, r1.2.2.2.2.2.2.2.2.2.2.1, r1.2.2.2.2.2.2.2.2.2.2.2.1, r1.2.2.2.2.2.2.2.2.2.2.2.2.1, r1.2.2.2.2.2.2.2.2.2.2.2.2.2.1, r1.2.2.2.2.2.2.2.2.2.2.2.2.2.2.1, r1.2.2.2.2.2.2.2.2.2.2.2.2.2.2.2.1, r1.2.2.2.2.2.2.2.2.2.2.2.2.2.2.2.2.1, r1.2.2.2.2.2.2.2.2.2.2.2.2.2.2.2.2.2.1, r1.2.2.2.2.2.2.2.2.2.2.2.2.2.2.2.2.2.2.1 + (1 : Int32), r1.2.2.2.2.2.2.2.2.2.2.2.2.2.2.2.2.2.2.2)) r7 hr7) ycX7_readsCrushed mw_966 (Nat.le_of_ble_eq_true rfl) rfl rfl rfl rfl (Nat.le_of_ble_eq_true rfl) ⟨Nat.zero_le _, Nat.zero_le _⟩ dX7_readsOrder_109 (ll_149 _ _ _) rfl rfl (ll_150 _ _ _ _) ?_
    obtain ⟨hz, hf⟩ := ifs hf
    obtain rfl := Option.some.inj hf
    exact Go_zret C hr hz rfl dX7_readsOrder_112
  replace hf := iff' hx5 hf
  refine Go_lookup (pc := 21) (off := 97) (tgt := 118) C dX7_readsOrder_21 rfl (by show Op.lookupswitch.offset [(33, 92), (45, 70), (47, 78), (112, 59), (119, 65), (120, 87)] 97 _ = _; rw [lv_osw hx0 (show ((33 : Int32)).toInt = 33 by decide), lv_osw hx1 (show ((45 : Int32)).toInt = 45 by decide), lv_osw hx2 (show ((47 : Int32)).toInt = 47 by decide), lv_osw hx3 (show ((112 : Int32)).toInt = 112 by decide), lv_osw hx4 (show ((119 : Int32)).toInt = 119 by decide), lv_osw hx5 (show ((120 : Int32)).toInt = 120 by decide)]; rfl) (by decide) ?_
  refine Go_aload_n (pc := 118) C dX7_readsOrder_118 rfl ?_
  refine Go_iload_n (pc := 119) C dX7_readsOrder_119 rfl ?_
  refine Go_put (pc := 120) (ws1 := (w7 K a r1.2)) C 0 17 tyX7 tyX7_ok nmX7 rfl rfl inX7 (by decide) mw_646 rfl rfl (Nat.le_of_ble_eq_true rfl) dX7_readsOrder_120 (ll_159 _ _ _ _) ?_
  refine Go_iconst (pc := 123) (v := 0) C dX7_readsOrder_123 ci_0 ?_
  obtain rfl := Option.some.inj hf
  exact Go_zret C hr (Or.inl rfl) rfl dX7_readsOrder_124
def fX7_asAhead_L32 (s0 : S7) (q1 : Int32 × (Nat → Int32) × (Nat → Int32)) : Option ((Int32 × (Nat → Int32) × (Nat → Int32)) ⊕ (Int32 × (Nat → Int32) × (Nat → Int32))) := (if (12 : Int32) ≤ q1.1 then some (.inr (q1.1, q1.2.1, q1.2.2)) else (if 0 ≤ ((4 : Int32) + q1.1) ∧ ((4 : Int32) + q1.1).toNatClampNeg < 140 then (if 0 ≤ q1.1 ∧ q1.1.toNatClampNeg < 13 then (if 0 ≤ ((16 : Int32) + q1.1) ∧ ((16 : Int32) + q1.1).toNatClampNeg < 140 then (if 0 ≤ q1.1 ∧ q1.1.toNatClampNeg < 13 then Option.bind (some (q1.1 + (1 : Int32))) (fun v2 => some (.inl (v2, upd q1.2.1 q1.1.toNatClampNeg (s0.2.2.2.2.2.2.2.2.2.2.2.2.2.2.2.2.2.2.2.2.2.2 ((4 : Int32) + q1.1).toNatClampNeg), upd q1.2.2 q1.1.toNatClampNeg (s0.2.2.2.2.2.2.2.2.2.2.2.2.2.2.2.2.2.2.2.2.2.2 ((16 : Int32) + q1.1).toNatClampNeg)))) else none) else none) else none) else none))
def fX7_asAhead_L75 (s0 : S7) (q4 : Int32 × (Nat → Int32)) : Option ((Int32 × (Nat → Int32)) ⊕ (Int32 × (Nat → Int32))) := (if (96 : Int32) ≤ q4.1 then some (.inr (q4.1, q4.2)) else (if 0 ≤ ((28 : Int32) + q4.1) ∧ ((28 : Int32) + q4.1).toNatClampNeg < 140 then (if 0 ≤ q4.1 ∧ q4.1.toNatClampNeg < 96 then Option.bind (some (q4.1 + (1 : Int32))) (fun v5 => some (.inl (v5, upd q4.2 q4.1.toNatClampNeg (s0.2.2.2.2.2.2.2.2.2.2.2.2.2.2.2.2.2.2.2.2.2.2 ((28 : Int32) + q4.1).toNatClampNeg)))) else none) else none))
def fX7_asAhead (s0 : S7) : Option (S7) := (if 0 ≤ (0 : Int32) ∧ (0 : Int32).toNatClampNeg < 140 then (if 0 ≤ (1 : Int32) ∧ (1 : Int32).toNatClampNeg < 140 then (if 0 ≤ (2 : Int32) ∧ (2 : Int32).toNatClampNeg < 140 then Option.bind (loopF (fX7_asAhead_L32 s0) 5000 ((0 : Int32), s0.2.2.2.1, s0.2.2.2.2.1)) (fun z3 => Option.bind (loopF (fX7_asAhead_L75 s0) 5000 ((0 : Int32), s0.2.1)) (fun z6 => some ((s0.1, z6.2, s0.2.2.2.2.2.2.2.2.2.2.2.2.2.2.2.2.2.2.2.2.2.2 (0 : Int32).toNatClampNeg, z3.2.1, z3.2.2, s0.2.2.2.2.2.2.2.2.2.2.2.2.2.2.2.2.2.2.2.2.2.2 (1 : Int32).toNatClampNeg, s0.2.2.2.2.2.2.2.2.2.2.2.2.2.2.2.2.2.2.2.2.2.2 (2 : Int32).toNatClampNeg, s0.2.2.2.2.2.2.2)))) else none) else none) else none)
theorem ycX7_asAhead : CalV yX7_asAhead cX7_asAhead 2 none 0 := ⟨mw_977, mw_69, mw_976, mw_57, ⟨by decide, by decide, by decide +kernel⟩, by decide⟩
set_option maxHeartbeats 4000000 in
set_option maxRecDepth 100000 in
theorem kX7_asAhead (l : Launch) (K : KK) (a : Nat → Nat) (s0 : S7) (res : S7) (hf : fX7_asAhead s0 = some res) : Ct l K yX7_asAhead cX7_asAhead 2 none 0 [.ref (a 0)] (w7 K a s0) (none) (w7 K a res) := by
  refine Ct_of2 (by decide) rfl (Nat.le_of_ble_eq_true rfl) ?_
  intro p e σ m args below meth c C hr
  unfold fX7_asAhead at hf
  refine Go_aload_n (pc := 0) C dX7_asAhead_0 rfl ?_
  refine Go_aload_n (pc := 1) C dX7_asAhead_1 rfl ?_
  refine Go_get (pc := 2) C 0 22 rfl rfl inX7 (by decide) mw_651 rfl dX7_asAhead_2 ?_
  refine Go_iconst (pc := 5) (v := 0) C dX7_asAhead_5 ci_0 ?_
  obtain ⟨hb, hf⟩ := ifs hf
  refine Go_iald (pc := 6) C 13 rfl (inb_in hb) dX7_asAhead_6 ?_
  refine Go_put (pc := 7) (ws1 := (w7 K a ((s0.1, s0.2.1, s0.2.2.2.2.2.2.2.2.2.2.2.2.2.2.2.2.2.2.2.2.2.2 (0 : Int32).toNatClampNeg, s0.2.2.2)))) C 0 2 tyX7 tyX7_ok nmX7 rfl rfl inX7 (by decide) mw_631 rfl rfl (Nat.le_of_ble_eq_true rfl) dX7_asAhead_7 (ll_142 _ _ _ _) ?_
  refine Go_aload_n (pc := 10) C dX7_asAhead_10 rfl ?_
  refine Go_aload_n (pc := 11) C dX7_asAhead_11 rfl ?_
  refine Go_get (pc := 12) C 0 22 rfl rfl inX7 (by decide) mw_651 rfl dX7_asAhead_12 ?_
  refine Go_iconst (pc := 15) (v := 1) C dX7_asAhead_15 ci_1 ?_
  obtain ⟨hb, hf⟩ := ifs hf
  refine Go_iald (pc := 16) C 13 rfl (inb_in hb) dX7_asAhead_16 ?_
  refine Go_put (pc := 17) (ws1 := (w7 K a ((s0.1, s0.2.1, s0.2.2.2.2.2.2.2.2.2.2.2.2.2.2.2.2.2.2.2.2.2.2 (0 : Int32).toNatClampNeg, s0.2.2.2.1, s0.2.2.2.2.1, s0.2.2.2.2.2.2.2.2.2.2.2.2.2.2.2.2.2.2.2.2.2.2 (1 : Int32).toNatClampNeg, s0.2.2.2.2.2.2)))) C 0 5 tyX7 tyX7_ok nmX7 rfl rfl inX7 (by decide) mw_634 rfl rfl (Nat.le_of_ble_eq_true rfl) dX7_asAhead_17 (ll_143 _ _ _ _) ?_
  refine Go_aload_n (pc := 20) C dX7_asAhead_20 rfl ?_
  refine Go_aload_n (pc := 21) C dX7_asAhead_21 rfl ?_
  refine Go_get (pc := 22) C 0 22 rfl rfl inX7 (by decide) mw_651 rfl dX7_asAhead_22 ?_
  refine Go_iconst (pc := 25) (v := 2) C dX7_asAhead_25 ci_2 ?_
  obtain ⟨hb, hf⟩ := ifs hf
  refine Go_iald (pc := 26) C 13 rfl (inb_in hb) dX7_asAhead_26 ?_
  refine Go_put (pc := 27) (ws1 := (w7 K a ((s0.1, s0.2.1, s0.2.2.2.2.2.2.2.2.2.2.2.2.2.2.2.2.2.2.2.2.2.2 (0 : Int32).toNatClampNeg, s0.2.2.2.1, s0.2.2.2.2.1, s0.2.2.2.2.2.2.2.2.2.2.2.2.2.2.2.2.2.2.2.2.2.2 (1 : Int32).toNatClampNeg, s0.2.2.2.2.2.2.2.2.2.2.2.2.2.2.2.2.2.2.2.2.2.2 (2 : Int32).toNatClampNeg, s0.2.2.2.2.2.2.2)))) C 0 6 tyX7 tyX7_ok nmX7 rfl rfl inX7 (by decide) mw_635 rfl rfl (Nat.le_of_ble_eq_true rfl) dX7_asAhead_27 (ll_144 _ _ _ _) ?_
  refine Go_iconst (pc := 30) (v := 0) C dX7_asAhead_30 ci_0 ?_
  refine Go_istore_n (pc := 31) C dX7_asAhead_31 (by decide) ?_
  obtain ⟨z3, hz3, hf⟩ := bnd hf
  refine Go_mask [true, true] ?_
  refine loopF_go (step := (fX7_asAhead_L32 s0)) (fun q1 => Go p l e (rmc 0 0 0) σ m args below meth c K (inW (w7 K a s0)) σ.heap 2 0 0 (MQ below (CtQ K (w7 K a s0) (none) (w7 K a res)) args σ 0 0 (inW (w7 K a s0))) (w7 K a ((s0.1, s0.2.1, s0.2.2.2.2.2.2.2.2.2.2.2.2.2.2.2.2.2.2.2.2.2.2 (0 : Int32).toNatClampNeg, q1.2.1, q1.2.2, s0.2.2.2.2.2.2.2.2.2.2.2.2.2.2.2.2.2.2.2.2.2.2 (1 : Int32).toNatClampNeg, s0.2.2.2.2.2.2.2.2.2.2.2.2.2.2.2.2.2.2.2.2.2.2 (2 : Int32).toNatClampNeg, s0.2.2.2.2.2.2.2))) 32 [some (.ref (a 0)), some (.int q1.1)] []) (fun z3 => Go p l e (rmc 0 0 0) σ m args below meth c K (inW (w7 K a s0)) σ.heap 2 0 0 (MQ below (CtQ K (w7 K a s0) (none) (w7 K a res)) args σ 0 0 (inW (w7 K a s0))) (w7 K a ((s0.1, s0.2.1, s0.2.2.2.2.2.2.2.2.2.2.2.2.2.2.2.2.2.2.2.2.2.2 (0 : Int32).toNatClampNeg, z3.2.1, z3.2.2, s0.2.2.2.2.2.2.2.2.2.2.2.2.2.2.2.2.2.2.2.2.2.2 (1 : Int32).toNatClampNeg, s0.2.2.2.2.2.2.2.2.2.2.2.2.2.2.2.2.2.2.2.2.2.2 (2 : Int32).toNatClampNeg, s0.2.2.2.2.2.2.2))) 73 [some (.ref (a 0)), some (.int z3.1)] []) ?_ _ _ _ hz3 ?_
  · intro q1 x hf hk
    unfold fX7_asAhead_L32 at hf
    refine Go_iload_n (pc := 32) C dX7_asAhead_32 rfl ?_
    refine Go_bipush (pc := 33) (v := 12) C dX7_asAhead_33 cb_12 ?_
    refine Go_icmp_ge (pc := 35) (tgt := 73) C dX7_asAhead_35 (by decide) (fun hc => ?_) (fun hc => ?_)
    · replace hf := ift hc hf
      obtain rfl := Option.some.inj hf
      exact Go_mask [true, true] hk
    · replace hf := iff' hc hf
      refine Go_aload_n (pc := 38) C dX7_asAhead_38 rfl ?_
      refine Go_get (pc := 39) C 0 3 rfl rfl inX7 (by decide) mw_632 rfl dX7_asAhead_39 ?_
      refine Go_iload_n (pc := 42) C dX7_asAhead_42 rfl ?_
      refine Go_aload_n (pc := 43) C dX7_asAhead_43 rfl ?_
      refine Go_get (pc := 44) C 0 22 rfl rfl inX7 (by decide) mw_651 rfl dX7_asAhead_44 ?_
      refine Go_iconst (pc := 47) (v := 4) C dX7_asAhead_47 ci_4 ?_
      refine Go_iload_n (pc := 48) C dX7_asAhead_48 rfl ?_
      refine Go_iadd (pc := 49) C dX7_asAhead_49 ?_
      obtain ⟨hb, hf⟩ := ifs hf
      refine Go_iald (pc := 50) C 13 rfl (inb_in hb) dX7_asAhead_50 ?_
      obtain ⟨hb, hf⟩ := ifs hf
      refine Go_iast (pc := 51) (ws1 := (w7 K a ((s0.1, s0.2.1, s0.2.2.2.2.2.2.2.2.2.2.2.2.2.2.2.2.2.2.2.2.2.2 (0 : Int32).toNatClampNeg, upd q1.2.1 q1.1.toNatClampNeg (s0.2.2.2.2.2.2.2.2.2.2.2.2.2.2.2.2.2.2.2.2.2.2 ((4 : Int32) + q1.1).toNatClampNeg), q1.2.2, s0.2.2.2.2.2.2.2.2.2.2.2.2.2.2.2.2.2.2.2.2.2.2 (1 : Int32).toNatClampNeg, s0.2.2.2.2.2.2.2.2.2.2.2.2.2.2.2.2.2.2.2.2.2.2 (2 : Int32).toNatClampNeg, s0.2.2.2.2.2.2.2)))) C 3 rfl (inb_in hb) dX7_asAhead_51 (ll_145 _ _ _ _) ?_
      refine Go_aload_n (pc := 52) C dX7_asAhead_52 rfl ?_
      refine Go_get (pc := 53) C 0 4 rfl rfl inX7 (by decide) mw_633 rfl dX7_asAhead_53 ?_
      refine Go_iload_n (pc := 56) C dX7_asAhead_56 rfl ?_
      refine Go_aload_n (pc := 57) C dX7_asAhead_57 rfl ?_
      refine Go_get (pc := 58) C 0 22 rfl rfl inX7 (by decide) mw_651 rfl dX7_asAhead_58 ?_
      refine Go_bipush (pc := 61) (v := 16) C dX7_asAhead_61 cb_16 ?_
      refine Go_iload_n (pc := 63) C dX7_asAhead_63 rfl ?_
      refine Go_iadd (pc := 64) C dX7_asAhead_64 ?_
      obtain ⟨hb, hf⟩ := ifs hf
      refine Go_iald (pc := 65) C 13 rfl (inb_in hb) dX7_asAhead_65 ?_
      obtain ⟨hb, hf⟩ := ifs hf
      refine Go_iast (pc := 66) (ws1 := (w7 K a ((s0.1, s0.2.1, s0.2.2.2.2.2.2.2.2.2.2.2.2.2.2.2.2.2.2.2.2.2.2 (0 : Int32).toNatClampNeg, upd q1.2.1 q1.1.toNatClampNeg (s0.2.2.2.2.2.2.2.2.2.2.2.2.2.2.2.2.2.2.2.2.2.2 ((4 : Int32) + q1.1).toNatClampNeg), upd q1.2.2 q1.1.toNatClampNeg (s0.2.2.2.2.2.2.2.2.2.2.2.2.2.2.2.2.2.2.2.2.2.2 ((16 : Int32) + q1.1).toNatClampNeg), s0.2.2.2.2.2.2.2.2.2.2.2.2.2.2.2.2.2.2.2.2.2.2 (1 : Int32).toNatClampNeg, s0.2.2.2.2.2.2.2.2.2.2.2.2.2.2.2.2.2.2.2.2.2.2 (2 : Int32).toNatClampNeg, s0.2.2.2.2.2.2.2)))) C 4 rfl (inb_in hb) dX7_asAhead_66 (ll_146 _ _ _ _) ?_
      obtain ⟨v2, hv2, hf⟩ := bnd hf
      refine Go_iinc (pc := 67) (v := v2) C dX7_asAhead_67 rfl (by rw [ci_1]; exact Option.some.inj hv2) ?_
      refine Go_goto (pc := 70) (tgt := 32) C dX7_asAhead_70 (by decide) ?_
      obtain rfl := Option.some.inj hf
      exact Go_mask [true, true] hk
  · show Go _ _ _ _ _ _ _ _ _ _ _ _ _ _ _ _ _ _ _ _ _
    refine Go_iconst (pc := 73) (v := 0) C dX7_asAhead_73 ci_0 ?_
    refine Go_istore_n (pc := 74) C dX7_asAhead_74 (by decide) ?_
    obtain ⟨z6, hz6, hf⟩ := bnd hf
    refine Go_mask [true, true] ?_
    refine loopF_go (step := (fX7_asAhead_L75 s0)) (fun q4 => Go p l e (rmc 0 0 0) σ m args below meth c K (inW (w7 K a s0)) σ.heap 2 0 0 (MQ below (CtQ K (w7 K a s0) (none) (w7 K a res)) args σ 0 0 (inW (w7 K a s0))) (w7 K a ((s0.1, q4.2, s0.2.2.2.2.2.2.2.2.2.2.2.2.2.2.2.2.2.2.2.2.2.2 (0 : Int32).toNatClampNeg, z3.2.1, z3.2.2, s0.2.2.2.2.2.2.2.2.2.2.2.2.2.2.2.2.2.2.2.2.2.2 (1 : Int32).toNatClampNeg, s0.2.2.2.2.2.2.2.2.2.2.2.2.2.2.2.2.2.2.2.2.2.2 (2 : Int32).toNatClampNeg, s0.2.2.2.2.2.2.2))) 75 [some (.ref (a 0)), some (.int q4.1)] []) (fun z6 => Go p l e (rmc 0 0 0) σ m args below meth c K (inW (w7 K a s0)) σ.heap 2 0 0 (MQ below (CtQ K (w7 K a s0) (none) (w7 K a res)) args σ 0 0 (inW (w7 K a s0))) (w7 K a ((s0.1, z6.2, s0.2.2.2.2.2.2.2.2.2.2.2.2.2.2.2.2.2.2.2.2.2.2 (0 : Int32).toNatClampNeg, z3.2.1, z3.2.2, s0.2.2.2.2.2.2.2.2.2.2.2.2.2.2.2.2.2.2.2.2.2.2 (1 : Int32).toNatClampNeg, s0.2.2.2.2.2.2.2.2.2.2.2.2.2.2.2.2.2.2.2.2.2.2 (2 : Int32).toNatClampNeg, s0.2.2.2.2.2.2.2))) 102 [some (.ref (a 0)), some (.int z6.1)] []) ?_ _ _ _ hz6 ?_
    · intro q4 x hf hk
      unfold fX7_asAhead_L75 at hf
      refine Go_iload_n (pc := 75) C dX7_asAhead_75 rfl ?_
      refine Go_bipush (pc := 76) (v := 96) C dX7_asAhead_76 cb_96 ?_
      refine Go_icmp_ge (pc := 78) (tgt := 102) C dX7_asAhead_78 (by decide) (fun hc => ?_) (fun hc => ?_)
      · replace hf := ift hc hf
        obtain rfl := Option.some.inj hf
        exact Go_mask [true, true] hk
      · replace hf := iff' hc hf
        refine Go_aload_n (pc := 81) C dX7_asAhead_81 rfl ?_
        refine Go_get (pc := 82) C 0 1 rfl rfl inX7 (by decide) mw_630 rfl dX7_asAhead_82 ?_
        refine Go_iload_n (pc := 85) C dX7_asAhead_85 rfl ?_
        refine Go_aload_n (pc := 86) C dX7_asAhead_86 rfl ?_
        refine Go_get (pc := 87) C 0 22 rfl rfl inX7 (by decide) mw_651 rfl dX7_asAhead_87 ?_
        refine Go_bipush (pc := 90) (v := 28) C dX7_asAhead_90 cb_28 ?_
        refine Go_iload_n (pc := 92) C dX7_asAhead_92 rfl ?_
        refine Go_iadd (pc := 93) C dX7_asAhead_93 ?_
        obtain ⟨hb, hf⟩ := ifs hf
        refine Go_iald (pc := 94) C 13 rfl (inb_in hb) dX7_asAhead_94 ?_
        obtain ⟨hb, hf⟩ := ifs hf
        refine Go_iast (pc := 95) (ws1 := (w7 K a ((s0.1, upd q4.2 q4.1.toNatClampNeg (s0.2.2.2.2.2.2.2.2.2.2.2.2.2.2.2.2.2.2.2.2.2.2 ((28 : Int32) + q4.1).toNatClampNeg), s0.2.2.2.2.2.2.2.2.2.2.2.2.2.2.2.2.2.2.2.2.2.2 (0 : Int32).toNatClampNeg, z3.2.1, z3.2.2, s0.2.2.2.2.2.2.2.2.2.2.2.2.2.2.2.2.2.2.2.2.2.2 (1 : Int32).toNatClampNeg, s0.2.2.2.2.2.2.2.2.2.2.2.2.2.2.2.2.2.2.2.2.2.2 (2 : Int32).toNatClampNeg, s0.2.2.2.2.2.2.2)))) C 2 rfl (inb_in hb) dX7_asAhead_95 (ll_147 _ _ _ _) ?_
        obtain ⟨v5, hv5, hf⟩ := bnd hf
        refine Go_iinc (pc := 96) (v := v5) C dX7_asAhead_96 rfl (by rw [ci_1]; exact Option.some.inj hv5) ?_
        refine Go_goto (pc := 99) (tgt := 75) C dX7_asAhead_99 (by decide) ?_
        obtain rfl := Option.some.inj hf
        exact Go_mask [true, true] hk
    · show Go _ _ _ _ _ _ _ _ _ _ _ _ _ _ _ _ _ _ _ _ _
      obtain rfl := Option.some.inj hf
      exact Go_vret C hr rfl dX7_asAhead_102
def fX7_leavesAhead_L6 (r1 : S7) (q2 : Int32 × (Nat → Int32)) : Option ((Int32 × (Nat → Int32)) ⊕ (Int32 × (Nat → Int32))) := (if (140 : Int32) ≤ q2.1 then some (.inr (q2.1, q2.2)) else (if 0 ≤ q2.1 ∧ q2.1.toNatClampNeg < 140 then (if 0 ≤ (((140 : Int32) * (r1.2.2.2.2.2.2.2.1 - (1 : Int32))) + q2.1) ∧ (((140 : Int32) * (r1.2.2.2.2.2.2.2.1 - (1 : Int32))) + q2.1).toNatClampNeg < 840 then Option.bind (some (q2.1 + (1 : Int32))) (fun v3 => some (.inl (v3, upd q2.2 (((140 : Int32) * (r1.2.2.2.2.2.2.2.1 - (1 : Int32))) + q2.1).toNatClampNeg (r1.2.2.2.2.2.2.2.2.2.2.2.2.2.2.2.2.2.2.2.2.2.2 q2.1.toNatClampNeg)))) else none) else none))
def fX7_leavesAhead (s0 : S7) : Option (S7) := Option.bind (fX7_leavesState s0) (fun r1 => Option.bind (loopF (fX7_leavesAhead_L6 r1) 5000 ((0 : Int32), r1.2.2.2.2.2.2.2.2.1)) (fun z4 => some ((r1.1, r1.2.1, r1.2.2.1, r1.2.2.2.1, r1.2.2.2.2.1, r1.2.2.2.2.2.1, r1.2.2.2.2.2.2.1, r1.2.2.2.2.2.2.2.1, z4.2, r1.2.2.2.2.2.2.2.2.2))))
theorem ycX7_leavesAhead : CalV yX7_leavesAhead cX7_leavesAhead 2 none 0 := ⟨mw_981, mw_69, mw_980, mw_58, ⟨by decide, by decide, by decide +kernel⟩, by decide⟩
set_option maxHeartbeats 4000000 in
set_option maxRecDepth 100000 in
theorem kX7_leavesAhead (l : Launch) (K : KK) (a : Nat → Nat) (s0 : S7) (res : S7) (hf : fX7_leavesAhead s0 = some res) : Ct l K yX7_leavesAhead cX7_leavesAhead 2 none 2 [.ref (a 0)] (w7 K a s0) (none) (w7 K a res) := by
  refine Ct_of2 (by decide) rfl (Nat.le_of_ble_eq_true rfl) ?_
  intro p e σ m args below meth c C hr
  unfold fX7_leavesAhead at hf
  refine Go_aload_n (pc := 0) C dX7_leavesAhead_0 rfl ?_
  obtain ⟨r1, hr1, hf⟩ := bnd hf
  refine Go_callV0 (pc := 1) (ws1 := (w7 K a r1)) C 0 (0 :: 1 :: 2 :: 3 :: 4 :: 5 :: 6 :: 7 :: 8 :: 9 :: 10 :: 11 :: 12 :: 13 :: []) (kX7_leavesState l K (pk a (0 :: 1 :: 2 :: 3 :: 4 :: 5 :: 6 :: 7 :: 8 :: 9 :: 10 :: 11 :: 12 :: 13 :: [])) s0 r1 hr1) ycX7_leavesState mw_737 (Nat.le_of_ble_eq_true rfl) rfl rfl rfl rfl (Nat.le_of_ble_eq_true rfl) ⟨Nat.zero_le _, Nat.zero_le _⟩ dX7_leavesAhead_1 (ll_149 _ _ _) rfl rfl (ll_150 _ _ _ _) ?_
  refine Go_iconst (pc := 4) (v := 0) C dX7_leavesAhead_4 ci_0 ?_
  refine Go_istore_n (pc := 5) C dX7_leavesAhead_5 (by decide) ?_
  obtain ⟨z4, hz4, hf⟩ := bnd hf
  refine Go_mask [true, true] ?_
  refine loopF_go (step := (fX7_leavesAhead_L6 r1)) (fun q2 => Go p l e (rmc 2 0 0) σ m args below meth c K (inW (w7 K a s0)) σ.heap 2 0 0 (MQ below (CtQ K (w7 K a s0) (none) (w7 K a res)) args σ 0 0 (inW (w7 K a s0))) (w7 K a ((r1.1, r1.2.1, r1.2.2.1, r1.2.2.2.1, r1.2.2.2.2.1, r1.2.2.2.2.2.1, r1.2.2.2.2.2.2.1, r1.2.2.2.2.2.2.2.1, q2.2, r1.2.2.2.2.2.2.2.2.2))) 6 [some (.ref (a 0)), some (.int q2.1)] []) (fun z4 => Go p l e (rmc 2 0 0) σ m args below meth c K (inW (w7 K a s0)) σ.heap 2 0 0 (MQ below (CtQ K (w7 K a s0) (none) (w7 K a res)) args σ 0 0 (inW (w7 K a s0))) (w7 K a ((r1.1, r1.2.1, r1.2.2.1, r1.2.2.2.1, r1.2.2.2.2.1, r1.2.2.2.2.2.1, r1.2.2.2.2.2.2.1, r1.2.2.2.2.2.2.2.1, z4.2, r1.2.2.2.2.2.2.2.2.2))) 42 [some (.ref (a 0)), some (.int z4.1)] []) ?_ _ _ _ hz4 ?_
  · intro q2 x hf hk
    unfold fX7_leavesAhead_L6 at hf
    refine Go_iload_n (pc := 6) C dX7_leavesAhead_6 rfl ?_
    refine Go_sipush (pc := 7) (v := 140) C dX7_leavesAhead_7 cs_140 ?_
    refine Go_icmp_ge (pc := 10) (tgt := 42) C dX7_leavesAhead_10 (by decide) (fun hc => ?_) (fun hc => ?_)
    · replace hf := ift hc hf
      obtain rfl := Option.some.inj hf
      exact Go_mask [true, true] hk
    · replace hf := iff' hc hf
      refine Go_aload_n (pc := 13) C dX7_leavesAhead_13 rfl ?_
      refine Go_get (pc := 14) C 0 8 rfl rfl inX7 (by decide) mw_637 rfl dX7_leavesAhead_14 ?_
      refine Go_sipush (pc := 17) (v := 140) C dX7_leavesAhead_17 cs_140 ?_
      refine Go_aload_n (pc := 20) C dX7_leavesAhead_20 rfl ?_
      refine Go_get (pc := 21) C 0 7 rfl rfl inX7 (by decide) mw_636 rfl dX7_leavesAhead_21 ?_
      refine Go_iconst (pc := 24) (v := 1) C dX7_leavesAhead_24 ci_1 ?_
      refine Go_isub (pc := 25) C dX7_leavesAhead_25 ?_
      refine Go_imul (pc := 26) C dX7_leavesAhead_26 ?_
      refine Go_iload_n (pc := 27) C dX7_leavesAhead_27 rfl ?_
      refine Go_iadd (pc := 28) C dX7_leavesAhead_28 ?_
      refine Go_aload_n (pc := 29) C dX7_leavesAhead_29 rfl ?_
      refine Go_get (pc := 30) C 0 22 rfl rfl inX7 (by decide) mw_651 rfl dX7_leavesAhead_30 ?_
      refine Go_iload_n (pc := 33) C dX7_leavesAhead_33 rfl ?_
      obtain ⟨hb, hf⟩ := ifs hf
      refine Go_iald (pc := 34) C 13 rfl (inb_in hb) dX7_leavesAhead_34 ?_
      obtain ⟨hb, hf⟩ := ifs hf
      refine Go_iast (pc := 35) (ws1 := (w7 K a ((r1.1, r1.2.1, r1.2.2.1, r1.2.2.2.1, r1.2.2.2.2.1, r1.2.2.2.2.2.1, r1.2.2.2.2.2.2.1, r1.2.2.2.2.2.2.2.1, upd q2.2 (((140 : Int32) * (r1.2.2.2.2.2.2.2.1 - (1 : Int32))) + q2.1).toNatClampNeg (r1.2.2.2.2.2.2.2.2.2.2.2.2.2.2.2.2.2.2.2.2.2.2 q2.1.toNatClampNeg), r1.2.2.2.2.2.2.2.2.2)))) C 5 rfl (inb_in hb) dX7_leavesAhead_35 (ll_151 _ _ _ _) ?_
      obtain ⟨v3, hv3, hf⟩ := bnd hf
      refine Go_iinc (pc := 36) (v := v3) C dX7_leavesAhead_36 rfl (by rw [ci_1]; exact Option.some.inj hv3) ?_
      refine Go_goto (pc := 39) (tgt := 6) C dX7_leavesAhead_39 (by decide) ?_
      obtain rfl := Option.some.inj hf
      exact Go_mask [true, true] hk
  · show Go _ _ _ _ _ _ _ _ _ _ _ _ _ _ _ _ _ _ _ _ _
    obtain rfl := Option.some.inj hf
    exact Go_vret C hr rfl dX7_leavesAhead_42
def fX7_does_L27  (q3 : Int32 × S7) : Option ((Int32 × S7) ⊕ (Int32 × S7)) := (if q3.1 = 0 then some (.inr (q3.1, q3.2)) else Option.bind (fX7_here q3.2) (fun r4 => (if r4.1 = (-1 : Int32) then some (.inr (q3.1, r4.2)) else Option.bind (fX7_readsOrder r4.2) (fun r5 => some (.inl (r5.1, r5.2))))))
def fX7_does_L65 (r7 : S7) (q8 : Int32 × (Nat → Int32)) : Option ((Int32 × (Nat → Int32)) ⊕ (Int32 × (Nat → Int32))) := (if (13 : Int32) ≤ q8.1 then some (.inr (q8.1, q8.2)) else (if 0 ≤ q8.1 ∧ q8.1.toNatClampNeg < 13 then (if 0 ≤ q8.1 ∧ q8.1.toNatClampNeg < 13 then Option.bind (some (q8.1 + (1 : Int32))) (fun v9 => some (.inl (v9, upd q8.2 q8.1.toNatClampNeg (r7.2.2.2.2.2.2.2.2.2.2.2.2.2.2.2.2.2.2.2.2.2.1 q8.1.toNatClampNeg)))) else none) else none))
def fX7_does (s0 : S7) : Option (Int32 × S7) := Option.bind (fX7_here ((s0.1, s0.2.1, s0.2.2.1, s0.2.2.2.1, s0.2.2.2.2.1, s0.2.2.2.2.2.1, s0.2.2.2.2.2.2.1, s0.2.2.2.2.2.2.2.1, s0.2.2.2.2.2.2.2.2.1, s0.2.2.2.2.2.2.2.2.2.1, s0.2.2.2.2.2.2.2.2.2.2.1, s0.2.2.2.2.2.2.2.2.2.2.2.1, s0.2.2.2.2.2.2.2.2.2.2.2.2.1, s0.2.2.2.2.2.2.2.2.2.2.2.2.2.1, s0.2.2.2.2.2.2.2.2.2.2.2.2.2.2.1, s0.2.2.2.2.2.2.2.2.2.2.2.2.2.2.2.1, s0.2.2.2.2.2.2.2.2.2.2.2.2.2.2.2.2.1, (0 : Int32), s0.2.2.2.2.2.2.2.2.2.2.2.2.2.2.2.2.2.2))) (fun r1 => (if r1.1 = (-1 : Int32) then some ((-10 : Int32) - r1.2.2.2.2.2.2.2.2.2.2.2.2.2.2.2.2.2.1, r1.2) else Option.bind (fX7_keepsAhead r1.2) (fun r2 => Option.bind (loopF (fX7_does_L27) 5000 ((1 : Int32), r2)) (fun z6 => (if z6.1 = 0 then Option.bind (fX7_asAhead z6.2) (fun r7 => Option.bind (loopF (fX7_does_L65 r7) 5000 ((0 : Int32), r7.2.2.2.2.2.2.2.2.2.2.2.2.2.2.1)) (fun z10 => some ((-10 : Int32) - r7.2.2.2.2.2.2.2.2.2.2.2.2.2.2.2.2.2.1, (r7.1, r7.2.1, r7.2.2.1, r7.2.2.2.1, r7.2.2.2.2.1, r7.2.2.2.2.2.1, r7.2.2.2.2.2.2.1, r7.2.2.2.2.2.2.2.1, r7.2.2.2.2.2.2.2.2.1, r7.2.2.2.2.2.2.2.2.2.1, r7.2.2.2.2.2.2.2.2.2.2.1, r7.2.2.2.2.2.2.2.2.2.2.2.1, r7.2.2.2.2.2.2.2.2.2.2.2.2.1, r7.2.2.2.2.2.2.2.2.2.2.2.2.2.2.2.2.2.2.2.2.1, z10.2, r7.2.2.2.2.2.2.2.2.2.2.2.2.2.2.2)))) else Option.bind (fX7_leavesAhead z6.2) (fun r11 => Option.bind (fX7_ones r11.2.2.2.2.2.1) (fun r12 => some (r12, r11))))))))
theorem ycX7_does : CalV yX7_does cX7_does 3 ((some .int)) 0 := ⟨mw_929, mw_69, mw_927, mw_928, ⟨by decide, by decide, by decide +kernel⟩, by decide⟩
set_option maxHeartbeats 4000000 in
set_option maxRecDepth 100000 in
theorem kX7_does (l : Launch) (K : KK) (a : Nat → Nat) (s0 : S7) (res : Int32 × S7) (hf : fX7_does s0 = some res) : Ct l K yX7_does cX7_does 3 ((some .int)) 7 [.ref (a 0)] (w7 K a s0) (some (.int res.1)) (w7 K a res.2) := by
  refine Ct_of2 (by decide) rfl (Nat.le_of_ble_eq_true rfl) ?_
  intro p e σ m args below meth c C hr
  unfold fX7_does at hf
  refine Go_aload_n (pc := 0) C dX7_does_0 rfl ?_
  refine Go_iconst (pc := 1) (v := 0) C dX7_does_1 ci_0 ?_
  refine Go_put (pc := 2) (ws1 := (w7 K a ((s0.1, s0.2.1, s0.2.2.1, s0.2.2.2.1, s0.2.2.2.2.1, s0.2.2.2.2.2.1, s0.2.2.2.2.2.2.1, s0.2.2.2.2.2.2.2.1, s0.2.2.2.2.2.2.2.2.1, s0.2.2.2.2.2.2.2.2.2.1, s0.2.2.2.2.2.2.2.2.2.2.1, s0.2.2.2.2.2.2.2.2.2.2.2.1, s0.2.2.2.2.2.2.2.2.2.2.2.2.1, s0.2.2.2.2.2.2.2.2.2.2.2.2.2.1, s0.2.2.2.2.2.2.2.2.2.2.2.2.2.2.1, s0.2.2.2.2.2.2.2.2.2.2.2.2.2.2.2.1, s0.2.2.2.2.2.2.2.2.2.2.2.2.2.2.2.2.1, (0 : Int32), s0.2.2.2.2.2.2.2.2.2.2.2.2.2.2.2.2.2.2)))) C 0 17 tyX7 tyX7_ok nmX7 rfl rfl inX7 (by decide) mw_646 rfl rfl (Nat.le_of_ble_eq_true rfl) dX7_does_2 (ll_159 _ _ _ _) ?_
  refine Go_aload_n (pc := 5) C dX7_does_5 rfl ?_
  obtain ⟨r1, hr1, hf⟩ := bnd hf
  refine Go_callV1 (pc := 6) (ws1 := (w7 K a r1.2)) C 0 (0 :: 1 :: 2 :: 3 :: 4 :: 5 :: 6 :: 7 :: 8 :: 9 :: 10 :: 11 :: 12 :: 13 :: []) (kX7_here l K (pk a (0 :: 1 :: 2 :: 3 :: 4 :: 5 :: 6 :: 7 :: 8 :: 9 :: 10 :: 11 :: 12 :: 13 :: [])) ((s0.1, s0.2.1, s0.2.2.1, s0.2.2.2.1, s0.2.2.2.2.1, s0.2.2.2.2.2.1, s0.2.2.2.2.2.2.1, s0.2.2.2.2.2.2.2.1, s0.2.2.2.2.2.2.2.2.1, s0.2.2.2.2.2.2.2.2.2.1, s0.2.2.2.2.2.2.2.2.2.2.1, s0.2.2.2.2.2.2.2.2.2.2.2.1, s0.2.2.2.2.2.2.2.2.2.2.2.2.1, s0.2.2.2.2.2.2.2.2.2.2.2.2.2.1, s0.2.2.2.2.2.2.2.2.2.2.2.2.2.2.1, s0.2.2.2.2.2.2.2.2.2.2.2.2.2.2.2.1, s0.2.2.2.2.2.2.2.2.2.2.2.2.2.2.2.2.1, (0 : Int32), s0.2.2.2.2.2.2.2.2.2.2.2.2.2.2.2.2.2.2)) r1 hr1) ycX7_here mw_930 (Nat.le_of_ble_eq_true rfl) rfl rfl rfl rfl (Nat.le_of_ble_eq_true rfl) ⟨Nat.zero_le _, Nat.zero_le _⟩ dX7_does_6 (ll_149 _ _ _) rfl rfl (ll_150 _ _ _ _) ?_
  refine Go_iconst (pc := 9) (v := -1) C dX7_does_9 ci_m1 ?_
  refine Go_icmp_ne (pc := 10) (tgt := 21) C dX7_does_10 (by decide) (fun hc => ?_) (fun hc => ?_)
  · replace hf := ift hc hf
    refine Go_bipush (pc := 13) (v := -10) C dX7_does_13 cb_m10 ?_
    refine Go_aload_n (pc := 15) C dX7_does_15 rfl ?_
    refine Go_get (pc := 16) C 0 16 rfl rfl inX7 (by decide) mw_645 rfl dX7_does_16 ?_
    refine Go_isub (pc := 19) C dX7_does_19 ?_
    obtain rfl := Option.some.inj hf
    exact Go_iret C hr rfl dX7_does_20
  · replace hf := iff' hc hf
    refine Go_aload_n (pc := 21) C dX7_does_21 rfl ?_
    obtain ⟨r2, hr2, hf⟩ := bnd hf
    refine Go_callV0 (pc := 22) (ws1 := (w7 K a r2)) C 0 (0 :: 1 :: 2 :: 3 :: 4 :: 5 :: 6 :: 7 :: 8 :: 9 :: 10 :: 11 :: 12 :: 13 :: []) (kX7_keepsAhead l K (pk a (0 :: 1 :: 2 :: 3 :: 4 :: 5 :: 6 :: 7 :: 8 :: 9 :: 10 :: 11 :: 12 :: 13 :: [])) r1.2 r2 hr2) ycX7_keepsAhead mw_934 (Nat.le_of_ble_eq_true rfl) rfl rfl rfl rfl (Nat.le_of_ble_eq_true rfl) ⟨Nat.zero_le _, Nat.zero_le _⟩ dX7_does_22 (ll_149 _ _ _) rfl rfl (ll_150 _ _ _ _) ?_
    refine Go_iconst (pc := 25) (v := 1) C dX7_does_25 ci_1 ?_
    refine Go_istore_n (pc := 26) C dX7_does_26 (by decide) ?_
    obtain ⟨z6, hz6, hf⟩ := bnd hf
    refine Go_mask [true, true, false] ?_
    refine loopF_go (step := (fX7_does_L27)) (fun q3 => Go p l e (rmc 7 0 0) σ m args below meth c K (inW (w7 K a s0)) σ.heap 3 0 0 (MQ below (CtQ K (w7 K a s0) (some (.int res.1)) (w7 K a res.2)) args σ 0 0 (inW (w7 K a s0))) (w7 K a q3.2) 27 [some (.ref (a 0)), some (.int q3.1), none] []) (fun z6 => Go p l e (rmc 7 0 0) σ m args below meth c K (inW (w7 K a s0)) σ.heap 3 0 0 (MQ below (CtQ K (w7 K a s0) (some (.int res.1)) (w7 K a res.2)) args σ 0 0 (inW (w7 K a s0))) (w7 K a z6.2) 47 [some (.ref (a 0)), some (.int z6.1), none] []) ?_ _ _ _ hz6 ?_
    · intro q3 x hf hk
      unfold fX7_does_L27 at hf
      refine Go_iload_n (pc := 27) C dX7_does_27 rfl ?_
      refine Go_if_eq (pc := 28) (tgt := 47) C dX7_does_28 (by decide) (fun hc => ?_) (fun hc => ?_)
      · replace hf := ift hc hf
        obtain rfl := Option.some.inj hf
        exact Go_mask [true, true, false] hk
      · replace hf := iff' hc hf
        refine Go_aload_n (pc := 31) C dX7_does_31 rfl ?_
        obtain ⟨r4, hr4, hf⟩ := bnd hf
        refine Go_callV1 (pc := 32) (ws1 := (w7 K a r4.2)) C 0 (0 :: 1 :: 2 :: 3 :: 4 :: 5 :: 6 :: 7 :: 8 :: 9 :: 10 :: 11 :: 12 :: 13 :: []) (kX7_here l K (pk a (0 :: 1 :: 2 :: 3 :: 4 :: 5 :: 6 :: 7 :: 8 :: 9 :: 10 :: 11 :: 12 :: 13 :: [])) q3.2 r4 hr4) ycX7_here mw_930 (Nat.le_of_ble_eq_true rfl) rfl rfl rfl rfl (Nat.le_of_ble_eq_true rfl) ⟨Nat.zero_le _, Nat.zero_le _⟩ dX7_does_32 (ll_149 _ _ _) rfl rfl (ll_150 _ _ _ _) ?_
        refine Go_iconst (pc := 35) (v := -1) C dX7_does_35 ci_m1 ?_
        refine Go_icmp_eq (pc := 36) (tgt := 47) C dX7_does_36 (by decide) (fun hc => ?_) (fun hc => ?_)
        · replace hf := ift hc hf
          obtain rfl := Option.some.inj hf
          exact Go_mask [true, true, false] hk
        · replace hf := iff' hc hf
          refine Go_aload_n (pc := 39) C dX7_does_39 rfl ?_
          obtain ⟨r5, hr5, hf⟩ := bnd hf
          refine Go_callV1 (pc := 40) (ws1 := (w7 K a r5.2)) C 0 (0 :: 1 :: 2 :: 3 :: 4 :: 5 :: 6 :: 7 :: 8 :: 9 :: 10 :: 11 :: 12 :: 13 :: []) (kX7_readsOrder l K (pk a (0 :: 1 :: 2 :: 3 :: 4 :: 5 :: 6 :: 7 :: 8 :: 9 :: 10 :: 11 :: 12 :: 13 :: [])) r4.2 r5 hr5) ycX7_readsOrder mw_938 (Nat.le_of_ble_eq_true rfl) rfl rfl rfl rfl (Nat.le_of_ble_eq_true rfl) ⟨Nat.zero_le _, Nat.zero_le _⟩ dX7_does_40 (ll_149 _ _ _) rfl rfl (ll_150 _ _ _ _) ?_
          refine Go_istore_n (pc := 43) C dX7_does_43 (by decide) ?_
          refine Go_goto (pc := 44) (tgt := 27) C dX7_does_44 (by decide) ?_
          obtain rfl := Option.some.inj hf
          exact Go_mask [true, true, false] hk
    · show Go _ _ _ _ _ _ _ _ _ _ _ _ _ _ _ _ _ _ _ _ _
      refine Go_iload_n (pc := 47) C dX7_does_47 rfl ?_
      refine Go_if_ne (pc := 48) (tgt := 97) C dX7_does_48 (by decide) (fun hc => ?_) (fun hc => ?_)
      · replace hf := ift hc hf
        refine Go_aload_n (pc := 51) C dX7_does_51 rfl ?_
        obtain ⟨r7, hr7, hf⟩ := bnd hf
        refine Go_callV0 (pc := 52) (ws1 := (w7 K a r7)) C 0 (0 :: 1 :: 2 :: 3 :: 4 :: 5 :: 6 :: 7 :: 8 :: 9 :: 10 :: 11 :: 12 :: 13 :: []) (kX7_asAhead l K (pk a (0 :: 1 :: 2 :: 3 :: 4 :: 5 :: 6 :: 7 :: 8 :: 9 :: 10 :: 11 :: 12 :: 13 :: [])) z6.2 r7 hr7) ycX7_asAhead mw_974 (Nat.le_of_ble_eq_true rfl) rfl rfl rfl rfl (Nat.le_of_ble_eq_true rfl) ⟨Nat.zero_le _, Nat.zero_le _⟩ dX7_does_52 (ll_149 _ _ _) rfl rfl (ll_150 _ _ _ _) ?_
        refine Go_aload_n (pc := 55) C dX7_does_55 rfl ?_
        refine Go_aload_n (pc := 56) C dX7_does_56 rfl ?_
        refine Go_get (pc := 57) C 0 20 rfl rfl inX7 (by decide) mw_649 rfl dX7_does_57 ?_
        refine Go_put (pc := 60) (ws1 := (w7 K a ((r7.1, r7.2.1, r7.2.2.1, r7.2.2.2.1, r7.2.2.2.2.1, r7.2.2.2.2.2.1, r7.2.2.2.2.2.2.1, r7.2.2.2.2.2.2.2.1, r7.2.2.2.2.2.2.2.2.1, r7.2.2.2.2.2.2.2.2.2.1, r7.2.2.2.2.2.2.2.2.2.2.1, r7.2.2.2.2.2.2.2.2.2.2.2.1, r7.2.2.2.2.2.2.2.2.2.2.2.2.1, r7.2.2.2.2.2.2.2.2.2.2.2.2.2.2.2.2.2.2.2.2.1, r7.2.2.2.2.2.2.2.2.2.2.2.2.2.2)))) C 0 13 tyX7 tyX7_ok nmX7 rfl rfl inX7 (by decide) mw_642 rfl rfl (Nat.le_of_ble_eq_true rfl) dX7_does_60 (ll_148 _ _ _ _) ?_
        refine Go_iconst (pc := 63) (v := 0) C dX7_does_63 ci_0 ?_
        refine Go_istore_n (pc := 64) C dX7_does_64 (by decide) ?_
        obtain ⟨z10, hz10, hf⟩ := bnd hf
        refine Go_mask [true, true, true] ?_
        refine loopF_go (step := (fX7_does_L65 r7)) (fun q8 => Go p l e (rmc 7 0 0) σ m args below meth c K (inW (w7 K a s0)) σ.heap 3 0 0 (MQ below (CtQ K (w7 K a s0) (some (.int res.1)) (w7 K a res.2)) args σ 0 0 (inW (w7 K a s0))) (w7 K a ((r7.1, r7.2.1, r7.2.2.1, r7.2.2.2.1, r7.2.2.2.2.1, r7.2.2.2.2.2.1, r7.2.2.2.2.2.2.1, r7.2.2.2.2.2.2.2.1, r7.2.2.2.2.2.2.2.2.1, r7.2.2.2.2.2.2.2.2.2.1, r7.2.2.2.2.2.2.2.2.2.2.1, r7.2.2.2.2.2.2.2.2.2.2.2.1, r7.2.2.2.2.2.2.2.2.2.2.2.2.1, r7.2.2.2.2.2.2.2.2.2.2.2.2.2.2.2.2.2.2.2.2.1, q8.2, r7.2.2.2.2.2.2.2.2.2.2.2.2.2.2.2))) 65 [some (.ref (a 0)), some (.int z6.1), some (.int q8.1)] []) (fun z10 => Go p l e (rmc 7 0 0) σ m args below meth c K (inW (w7 K a s0)) σ.heap 3 0 0 (MQ below (CtQ K (w7 K a s0) (some (.int res.1)) (w7 K a res.2)) args σ 0 0 (inW (w7 K a s0))) (w7 K a ((r7.1, r7.2.1, r7.2.2.1, r7.2.2.2.1, r7.2.2.2.2.1, r7.2.2.2.2.2.1, r7.2.2.2.2.2.2.1, r7.2.2.2.2.2.2.2.1, r7.2.2.2.2.2.2.2.2.1, r7.2.2.2.2.2.2.2.2.2.1, r7.2.2.2.2.2.2.2.2.2.2.1, r7.2.2.2.2.2.2.2.2.2.2.2.1, r7.2.2.2.2.2.2.2.2.2.2.2.2.1, r7.2.2.2.2.2.2.2.2.2.2.2.2.2.2.2.2.2.2.2.2.1, z10.2, r7.2.2.2.2.2.2.2.2.2.2.2.2.2.2.2))) 89 [some (.ref (a 0)), some (.int z6.1), some (.int z10.1)] []) ?_ _ _ _ hz10 ?_
        · intro q8 x hf hk
          unfold fX7_does_L65 at hf
          refine Go_iload_n (pc := 65) C dX7_does_65 rfl ?_
          refine Go_bipush (pc := 66) (v := 13) C dX7_does_66 cb_13 ?_
          refine Go_icmp_ge (pc := 68) (tgt := 89) C dX7_does_68 (by decide) (fun hc => ?_) (fun hc => ?_)
          · replace hf := ift hc hf
            obtain rfl := Option.some.inj hf
            exact Go_mask [true, true, true] hk
          · replace hf := iff' hc hf
            refine Go_aload_n (pc := 71) C dX7_does_71 rfl ?_
            refine Go_get (pc := 72) C 0 14 rfl rfl inX7 (by decide) mw_643 rfl dX7_does_72 ?_
            refine Go_iload_n (pc := 75) C dX7_does_75 rfl ?_
            refine Go_aload_n (pc := 76) C dX7_does_76 rfl ?_
            refine Go_get (pc := 77) C 0 21 rfl rfl inX7 (by decide) mw_650 rfl dX7_does_77 ?_
            refine Go_iload_n (pc := 80) C dX7_does_80 rfl ?_
            obtain ⟨hb, hf⟩ := ifs hf
            refine Go_iald (pc := 81) C 12 rfl (inb_in hb) dX7_does_81 ?_
            obtain ⟨hb, hf⟩ := ifs hf
            refine Go_iast (pc := 82) (ws1 := (w7 K a ((r7.1, r7.2.1, r7.2.2.1, r7.2.2.2.1, r7.2.2.2.2.1, r7.2.2.2.2.2.1, r7.2.2.2.2.2.2.1, r7.2.2.2.2.2.2.2.1, r7.2.2.2.2.2.2.2.2.1, r7.2.2.2.2.2.2.2.2.2.1, r7.2.2.2.2.2.2.2.2.2.2.1, r7.2.2.2.2.2.2.2.2.2.2.2.1, r7.2.2.2.2.2.2.2.2.2.2.2.2.1, r7.2.2.2.2.2.2.2.2.2.2.2.2.2.2.2.2.2.2.2.2.1, upd q8.2 q8.1.toNatClampNeg (r7.2.2.2.2.2.2.2.2.2.2.2.2.2.2.2.2.2.2.2.2.2.1 q8.1.toNatClampNeg), r7.2.2.2.2.2.2.2.2.2.2.2.2.2.2.2)))) C 10 rfl (inb_in hb) dX7_does_82 (ll_156 _ _ _ _) ?_
            obtain ⟨v9, hv9, hf⟩ := bnd hf
            refine Go_iinc (pc := 83) (v := v9) C dX7_does_83 rfl (by rw [ci_1]; exact Option.some.inj hv9) ?_
            refine Go_goto (pc := 86) (tgt := 65) C dX7_does_86 (by decide) ?_
            obtain rfl := Option.some.inj hf
            exact Go_mask [true, true, true] hk
        · show Go _ _ _ _ _ _ _ _ _ _ _ _ _ _ _ _ _ _ _ _ _
          refine Go_bipush (pc := 89) (v := -10) C dX7_does_89 cb_m10 ?_
          refine Go_aload_n (pc := 91) C dX7_does_91 rfl ?_
          refine Go_get (pc := 92) C 0 17 rfl rfl inX7 (by decide) mw_646 rfl dX7_does_92 ?_
          refine Go_isub (pc := 95) C dX7_does_95 ?_
          obtain rfl := Option.some.inj hf
          exact Go_iret C hr rfl dX7_does_96
      · replace hf := iff' hc hf
        refine Go_aload_n (pc := 97) C dX7_does_97 rfl ?_
        obtain ⟨r11, hr11, hf⟩ := bnd hf
        refine Go_callV0 (pc := 98) (ws1 := (w7 K a r11)) C 0 (0 :: 1 :: 2 :: 3 :: 4 :: 5 :: 6 :: 7 :: 8 :: 9 :: 10 :: 11 :: 12 :: 13 :: []) (kX7_leavesAhead l K (pk a (0 :: 1 :: 2 :: 3 :: 4 :: 5 :: 6 :: 7 :: 8 :: 9 :: 10 :: 11 :: 12 :: 13 :: [])) z6.2 r11 hr11) ycX7_leavesAhead mw_978 (Nat.le_of_ble_eq_true rfl) rfl rfl rfl rfl (Nat.le_of_ble_eq_true rfl) ⟨Nat.zero_le _, Nat.zero_le _⟩ dX7_does_98 (ll_149 _ _ _) rfl rfl (ll_150 _ _ _ _) ?_
        refine Go_aload_n (pc := 101) C dX7_does_101 rfl ?_
        refine Go_get (pc := 102) C 0 5 rfl rfl inX7 (by decide) mw_634 rfl dX7_does_102 ?_
        obtain ⟨r12, hr12, hf⟩ := bnd hf
        refine Go_callS1 (pc := 105) (ws1 := (w7 K a r11)) C [] (kX7_ones l K r11.2.2.2.2.2.1 r12 hr12) ycX7_ones mw_781 (Nat.le_of_ble_eq_true rfl) rfl rfl (Nat.le_of_ble_eq_true rfl) ⟨Nat.zero_le _, Nat.zero_le _⟩ dX7_does_105 rfl rfl rfl (Wr_same rfl) ?_
        obtain rfl := Option.some.inj hf
        exact Go_iret C hr rfl dX7_does_108
def fX7_toldBy (s0 : S7) (p1 : Int32) : Option (Int32) := (if (3 : Int32) ≤ p1 then (if p1 = (3 : Int32) then some s0.2.2.2.2.2.2.2.2.2.2.2.2.2.2.2.2.1 else (if p1 = (4 : Int32) then Option.bind (fX7_wallsAhead s0 (0 : Int32) (7 : Int32)) (fun r1 => Option.bind (fX7_wallsAhead s0 (10 : Int32) (11 : Int32)) (fun r2 => some (r1 + r2))) else some s0.2.2.2.2.2.2.2.1)) else (if 0 ≤ p1 ∧ p1.toNatClampNeg < 3 then some (s0.1 p1.toNatClampNeg) else none))
theorem ycX7_toldBy : CalV yX7_toldBy cX7_toldBy 2 ((some .int)) 1 := ⟨mw_989, mw_69, mw_988, mw_59, ⟨by decide, by decide, by decide +kernel⟩, by decide⟩
set_option maxHeartbeats 4000000 in
set_option maxRecDepth 100000 in
theorem kX7_toldBy (l : Launch) (K : KK) (a : Nat → Nat) (s0 : S7) (p1 : Int32) (res : Int32) (hf : fX7_toldBy s0 p1 = some res) : Ct l K yX7_toldBy cX7_toldBy 2 ((some .int)) 1 [.ref (a 0), .int p1] (w7 K a s0) (some (.int res)) (w7 K a s0) := by
  refine Ct_of2 (by decide) rfl (Nat.le_of_ble_eq_true rfl) ?_
  intro p e σ m args below meth c C hr
  unfold fX7_toldBy at hf
  refine Go_iload_n (pc := 0) C dX7_toldBy_0 rfl ?_
  refine Go_iconst (pc := 1) (v := 3) C dX7_toldBy_1 ci_3 ?_
  refine Go_icmp_ge (pc := 2) (tgt := 14) C dX7_toldBy_2 (by decide) (fun hc => ?_) (fun hc => ?_)
  · replace hf := ift hc hf
    refine Go_iload_n (pc := 14) C dX7_toldBy_14 rfl ?_
    refine Go_iconst (pc := 15) (v := 3) C dX7_toldBy_15 ci_3 ?_
    refine Go_icmp_ne (pc := 16) (tgt := 26) C dX7_toldBy_16 (by decide) (fun hc => ?_) (fun hc => ?_)
    · replace hf := ift hc hf
      refine Go_aload_n (pc := 19) C dX7_toldBy_19 rfl ?_
      refine Go_get (pc := 20) C 0 16 rfl rfl inX7 (by decide) mw_645 rfl dX7_toldBy_20 ?_
      refine Go_goto (pc := 23) (tgt := 54) C dX7_toldBy_23 (by decide) ?_
      obtain rfl := Option.some.inj hf
      exact Go_iret C hr rfl dX7_toldBy_54
    · replace hf := iff' hc hf
      refine Go_iload_n (pc := 26) C dX7_toldBy_26 rfl ?_
      refine Go_iconst (pc := 27) (v := 4) C dX7_toldBy_27 ci_4 ?_
      refine Go_icmp_ne (pc := 28) (tgt := 50) C dX7_toldBy_28 (by decide) (fun hc => ?_) (fun hc => ?_)
      · replace hf := ift hc hf
        refine Go_aload_n (pc := 31) C dX7_toldBy_31 rfl ?_
        refine Go_iconst (pc := 32) (v := 0) C dX7_toldBy_32 ci_0 ?_
        refine Go_bipush (pc := 33) (v := 7) C dX7_toldBy_33 cb_7 ?_
        obtain ⟨r1, hr1, hf⟩ := bnd hf
        refine Go_callV1 (pc := 35) (ws1 := (w7 K a s0)) C 0 (0 :: 1 :: 2 :: 3 :: 4 :: 5 :: 6 :: 7 :: 8 :: 9 :: 10 :: 11 :: 12 :: 13 :: []) (kX7_wallsAhead l K (pk a (0 :: 1 :: 2 :: 3 :: 4 :: 5 :: 6 :: 7 :: 8 :: 9 :: 10 :: 11 :: 12 :: 13 :: [])) s0 (0 : Int32) (7 : Int32) r1 hr1) ycX7_wallsAhead mw_804 (Nat.le_of_ble_eq_true rfl) rfl rfl rfl rfl (Nat.le_of_ble_eq_true rfl) ⟨Nat.zero_le _, Nat.zero_le _⟩ dX7_toldBy_35 (ll_149 _ _ _) rfl rfl (Wr_same (ll_149 _ _ _)) ?_
        refine Go_aload_n (pc := 38) C dX7_toldBy_38 rfl ?_
        refine Go_bipush (pc := 39) (v := 10) C dX7_toldBy_39 cb_10 ?_
        refine Go_bipush (pc := 41) (v := 11) C dX7_toldBy_41 cb_11 ?_
        obtain ⟨r2, hr2, hf⟩ := bnd hf
        refine Go_callV1 (pc := 43) (ws1 := (w7 K a s0)) C 0 (0 :: 1 :: 2 :: 3 :: 4 :: 5 :: 6 :: 7 :: 8 :: 9 :: 10 :: 11 :: 12 :: 13 :: []) (kX7_wallsAhead l K (pk a (0 :: 1 :: 2 :: 3 :: 4 :: 5 :: 6 :: 7 :: 8 :: 9 :: 10 :: 11 :: 12 :: 13 :: [])) s0 (10 : Int32) (11 : Int32) r2 hr2) ycX7_wallsAhead mw_804 (Nat.le_of_ble_eq_true rfl) rfl rfl rfl rfl (Nat.le_of_ble_eq_true rfl) ⟨Nat.zero_le _, Nat.zero_le _⟩ dX7_toldBy_43 (ll_149 _ _ _) rfl rfl (Wr_same (ll_149 _ _ _)) ?_
        refine Go_iadd (pc := 46) C dX7_toldBy_46 ?_
        refine Go_goto (pc := 47) (tgt := 54) C dX7_toldBy_47 (by decide) ?_
        obtain rfl := Option.some.inj hf
        exact Go_iret C hr rfl dX7_toldBy_54
      · replace hf := iff' hc hf
        refine Go_aload_n (pc := 50) C dX7_toldBy_50 rfl ?_
        refine Go_get (pc := 51) C 0 7 rfl rfl inX7 (by decide) mw_636 rfl dX7_toldBy_51 ?_
        obtain rfl := Option.some.inj hf
        exact Go_iret C hr rfl dX7_toldBy_54
  · replace hf := iff' hc hf
    refine Go_aload_n (pc := 5) C dX7_toldBy_5 rfl ?_
    refine Go_get (pc := 6) C 0 0 rfl rfl inX7 (by decide) mw_629 rfl dX7_toldBy_6 ?_
    refine Go_iload_n (pc := 9) C dX7_toldBy_9 rfl ?_
    obtain ⟨hb, hf⟩ := ifs hf
    refine Go_iald (pc := 10) C 1 rfl (inb_in hb) dX7_toldBy_10 ?_
    refine Go_goto (pc := 11) (tgt := 54) C dX7_toldBy_11 (by decide) ?_
    obtain rfl := Option.some.inj hf
    exact Go_iret C hr rfl dX7_toldBy_54
def fX7_told (s0 : S7) (p1 : Int32) : Option (Int32 × S7) := Option.bind (fX7_in p1 (0 : Int32) (5 : Int32)) (fun r1 => (if r1 = 0 then Option.bind (fX7_bad s0) (fun r2 => some (r2.1, r2.2)) else Option.bind (fX7_toldBy s0 p1) (fun r3 => some (r3, s0))))
theorem ycX7_told : CalV yX7_told cX7_told 2 ((some .int)) 1 := ⟨mw_985, mw_69, mw_983, mw_984, ⟨by decide, by decide, by decide +kernel⟩, by decide⟩
set_option maxHeartbeats 4000000 in
set_option maxRecDepth 100000 in
theorem kX7_told (l : Launch) (K : KK) (a : Nat → Nat) (s0 : S7) (p1 : Int32) (res : Int32 × S7) (hf : fX7_told s0 p1 = some res) : Ct l K yX7_told cX7_told 2 ((some .int)) 2 [.ref (a 0), .int p1] (w7 K a s0) (some (.int res.1)) (w7 K a res.2) := by
  refine Ct_of2 (by decide) rfl (Nat.le_of_ble_eq_true rfl) ?_
  intro p e σ m args below meth c C hr
  unfold fX7_told at hf
  refine Go_iload_n (pc := 0) C dX7_told_0 rfl ?_
  refine Go_iconst (pc := 1) (v := 0) C dX7_told_1 ci_0 ?_
  refine Go_iconst (pc := 2) (v := 5) C dX7_told_2 ci_5 ?_
  obtain ⟨r1, hr1, hf⟩ := bnd hf
  refine Go_callS1 (pc := 3) (ws1 := (w7 K a s0)) C [] (kX7_in l K p1 (0 : Int32) (5 : Int32) r1 hr1) ycX7_in mw_722 (Nat.le_of_ble_eq_true rfl) rfl rfl (Nat.le_of_ble_eq_true rfl) ⟨Nat.zero_le _, Nat.zero_le _⟩ dX7_told_3 rfl rfl rfl (Wr_same rfl) ?_
  refine Go_if_eq (pc := 6) (tgt := 17) C dX7_told_6 (by decide) (fun hc => ?_) (fun hc => ?_)
  · replace hf := ift hc hf
    refine Go_aload_n (pc := 17) C dX7_told_17 rfl ?_
    obtain ⟨r2, hr2, hf⟩ := bnd hf
    refine Go_callV1 (pc := 18) (ws1 := (w7 K a r2.2)) C 0 (0 :: 1 :: 2 :: 3 :: 4 :: 5 :: 6 :: 7 :: 8 :: 9 :: 10 :: 11 :: 12 :: 13 :: []) (kX7_bad l K (pk a (0 :: 1 :: 2 :: 3 :: 4 :: 5 :: 6 :: 7 :: 8 :: 9 :: 10 :: 11 :: 12 :: 13 :: [])) s0 r2 hr2) ycX7_bad mw_725 (Nat.le_of_ble_eq_true rfl) rfl rfl rfl rfl (Nat.le_of_ble_eq_true rfl) ⟨Nat.zero_le _, Nat.zero_le _⟩ dX7_told_18 (ll_149 _ _ _) rfl rfl (ll_150 _ _ _ _) ?_
    obtain rfl := Option.some.inj hf
    exact Go_iret C hr rfl dX7_told_21
  · replace hf := iff' hc hf
    refine Go_aload_n (pc := 9) C dX7_told_9 rfl ?_
    refine Go_iload_n (pc := 10) C dX7_told_10 rfl ?_
    obtain ⟨r3, hr3, hf⟩ := bnd hf
    refine Go_callV1 (pc := 11) (ws1 := (w7 K a s0)) C 0 (0 :: 1 :: 2 :: 3 :: 4 :: 5 :: 6 :: 7 :: 8 :: 9 :: 10 :: 11 :: 12 :: 13 :: []) (kX7_toldBy l K (pk a (0 :: 1 :: 2 :: 3 :: 4 :: 5 :: 6 :: 7 :: 8 :: 9 :: 10 :: 11 :: 12 :: 13 :: [])) s0 p1 r3 hr3) ycX7_toldBy mw_986 (Nat.le_of_ble_eq_true rfl) rfl rfl rfl rfl (Nat.le_of_ble_eq_true rfl) ⟨Nat.zero_le _, Nat.zero_le _⟩ dX7_told_11 (ll_149 _ _ _) rfl rfl (Wr_same (ll_149 _ _ _)) ?_
    refine Go_goto (pc := 14) (tgt := 21) C dX7_told_14 (by decide) ?_
    obtain rfl := Option.some.inj hf
    exact Go_iret C hr rfl dX7_told_21
def fX7_digest_L6 (s0 : S7) (q1 : Int64 × Int32) : Option ((Int64 × Int32) ⊕ (Int64 × Int32)) := (if (6 : Int32) ≤ q1.2 then some (.inr (q1.1, q1.2)) else Option.bind (fX7_toldBy s0 q1.2) (fun r2 => Option.bind (some (((31 : Int64) * q1.1) + r2.toInt64)) (fun v3 => Option.bind (some (q1.2 + (1 : Int32))) (fun v4 => some (.inl (v3, v4))))))
def fX7_digest_L33  (q6 : Int64 × Int32 × S7) : Option ((Int64 × Int32 × S7) ⊕ (Int64 × Int32 × S7)) := (if (8 : Int32) ≤ q6.2.1 then some (.inr (q6.1, q6.2.1, q6.2.2)) else Option.bind (fX7_allBy q6.2.2 q6.2.1) (fun r7 => Option.bind (some (((31 : Int64) * q6.1) + r7.1.toInt64)) (fun v8 => Option.bind (some (q6.2.1 + (1 : Int32))) (fun v9 => some (.inl (v8, v9, r7.2))))))
def fX7_digest_L71 (q11 : Int64 × Int32 × S7) (q12 : Int64 × Int32 × S7) : Option ((Int64 × Int32 × S7) ⊕ (Int64 × Int32 × S7)) := (if (5 : Int32) ≤ q12.2.1 then some (.inr (q12.1, q12.2.1, q12.2.2)) else Option.bind (fX7_ofBy q12.2.2 q11.2.1 q12.2.1) (fun r13 => Option.bind (some (((31 : Int64) * q12.1) + r13.1.toInt64)) (fun v14 => Option.bind (some (q12.2.1 + (1 : Int32))) (fun v15 => some (.inl (v14, v15, r13.2))))))
def fX7_digest_L60  (q11 : Int64 × Int32 × S7) : Option ((Int64 × Int32 × S7) ⊕ (Int64 × Int32 × S7)) := (if q11.2.2.2.2.1 ≤ q11.2.1 then some (.inr (q11.1, q11.2.1, q11.2.2)) else Option.bind (loopF (fX7_digest_L71 q11) 5000 (q11.1, (0 : Int32), q11.2.2)) (fun z16 => Option.bind (some (q11.2.1 + (1 : Int32))) (fun v17 => some (.inl (z16.1, v17, z16.2.2)))))
def fX7_digest_L106 (z18 : (Int64 × Int32 × S7)) (q19 : Int64 × Int32) : Option ((Int64 × Int32) ⊕ (Int64 × Int32)) := (if (96 : Int32) ≤ q19.2 then some (.inr (q19.1, q19.2)) else (if 0 ≤ q19.2 ∧ q19.2.toNatClampNeg < 96 then Option.bind (some (((31 : Int64) * q19.1) + ((z18.2.2.2.1 q19.2.toNatClampNeg).toInt64))) (fun v20 => Option.bind (some (q19.2 + (1 : Int32))) (fun v21 => some (.inl (v20, v21)))) else none))
def fX7_digest (s0 : S7) : Option (Int64 × S7) := Option.bind (loopF (fX7_digest_L6 s0) 5000 ((2153 : Int64), (0 : Int32))) (fun z5 => Option.bind (loopF (fX7_digest_L33) 5000 (z5.1, (0 : Int32), s0)) (fun z10 => Option.bind (loopF (fX7_digest_L60) 5000 (z10.1, (0 : Int32), z10.2.2)) (fun z18 => Option.bind (loopF (fX7_digest_L106 z18) 5000 (z18.1, (0 : Int32))) (fun z22 => some (z22.1, z18.2.2)))))
theorem ycX7_digest : CalV yX7_digest cX7_digest 5 ((some .long)) 0 := ⟨mw_993, mw_69, mw_991, mw_992, ⟨by decide, by decide, by decide +kernel⟩, by decide⟩
set_option maxHeartbeats 4000000 in
set_option maxRecDepth 100000 in
theorem kX7_digest (l : Launch) (K : KK) (a : Nat → Nat) (s0 : S7) (res : Int64 × S7) (hf : fX7_digest s0 = some res) : Ct l K yX7_digest cX7_digest 5 ((some .long)) 5 [.ref (a 0)] (w7 K a s0) (some (.long res.1)) (w7 K a res.2) := by
  refine Ct_of2 (by decide) rfl (Nat.le_of_ble_eq_true rfl) ?_
  intro p e σ m args below meth c C hr
  unfold fX7_digest at hf
  refine Go_ldc2 (pc := 0) (v := 2153) C mw_994 dX7_digest_0 ?_
  refine Go_lstore_n (pc := 3) C dX7_digest_3 (by decide) ?_
  refine Go_iconst (pc := 4) (v := 0) C dX7_digest_4 ci_0 ?_
  refine Go_istore_n (pc := 5) C dX7_digest_5 (by decide) ?_
  obtain ⟨z5, hz5, hf⟩ := bnd hf
  refine Go_mask [true, true, false, true, false] ?_
  refine loopF_go (step := (fX7_digest_L6 s0)) (fun q1 => Go p l e (rmc 5 0 0) σ m args below meth c K (inW (w7 K a s0)) σ.heap 5 0 0 (MQ below (CtQ K (w7 K a s0) (some (.long res.1)) (w7 K a res.2)) args σ 0 0 (inW (w7 K a s0))) (w7 K a s0) 6 [some (.ref (a 0)), some (.long q1.1), none, some (.int q1.2), none] []) (fun z5 => Go p l e (rmc 5 0 0) σ m args below meth c K (inW (w7 K a s0)) σ.heap 5 0 0 (MQ below (CtQ K (w7 K a s0) (some (.long res.1)) (w7 K a res.2)) args σ 0 0 (inW (w7 K a s0))) (w7 K a s0) 31 [some (.ref (a 0)), some (.long z5.1), none, some (.int z5.2), none] []) ?_ _ _ _ hz5 ?_
  · intro q1 x hf hk
    unfold fX7_digest_L6 at hf
    refine Go_iload_n (pc := 6) C dX7_digest_6 rfl ?_
    refine Go_bipush (pc := 7) (v := 6) C dX7_digest_7 cb_6 ?_
    refine Go_icmp_ge (pc := 9) (tgt := 31) C dX7_digest_9 (by decide) (fun hc => ?_) (fun hc => ?_)
    · replace hf := ift hc hf
      obtain rfl := Option.some.inj hf
      exact Go_mask [true, true, false, true, false] hk
    · replace hf := iff' hc hf
      refine Go_ldc2 (pc := 12) (v := 31) C mw_995 dX7_digest_12 ?_
      refine Go_lload_n (pc := 15) C dX7_digest_15 rfl ?_
      refine Go_lmul (pc := 16) C dX7_digest_16 ?_
      refine Go_aload_n (pc := 17) C dX7_digest_17 rfl ?_
      refine Go_iload_n (pc := 18) C dX7_digest_18 rfl ?_
      obtain ⟨r2, hr2, hf⟩ := bnd hf
      refine Go_callV1 (pc := 19) (ws1 := (w7 K a s0)) C 0 (0 :: 1 :: 2 :: 3 :: 4 :: 5 :: 6 :: 7 :: 8 :: 9 :: 10 :: 11 :: 12 :: 13 :: []) (kX7_toldBy l K (pk a (0 :: 1 :: 2 :: 3 :: 4 :: 5 :: 6 :: 7 :: 8 :: 9 :: 10 :: 11 :: 12 :: 13 :: [])) s0 q1.2 r2 hr2) ycX7_toldBy mw_986 (Nat.le_of_ble_eq_true rfl) rfl rfl rfl rfl (Nat.le_of_ble_eq_true rfl) ⟨Nat.zero_le _, Nat.zero_le _⟩ dX7_digest_19 (ll_149 _ _ _) rfl rfl (Wr_same (ll_149 _ _ _)) ?_
      refine Go_i2l (pc := 22) C dX7_digest_22 ?_
      refine Go_ladd (pc := 23) C dX7_digest_23 ?_
      obtain ⟨v3, hv3, hf⟩ := bnd hf
      refine Go_topl (Option.some.inj hv3) ?_
      refine Go_lstore_n (pc := 24) C dX7_digest_24 (by decide) ?_
      obtain ⟨v4, hv4, hf⟩ := bnd hf
      refine Go_iinc (pc := 25) (v := v4) C dX7_digest_25 rfl (by rw [ci_1]; exact Option.some.inj hv4) ?_
      refine Go_goto (pc := 28) (tgt := 6) C dX7_digest_28 (by decide) ?_
      obtain rfl := Option.some.inj hf
      exact Go_mask [true, true, false, true, false] hk
  · show Go _ _ _ _ _ _ _ _ _ _ _ _ _ _ _ _ _ _ _ _ _
    refine Go_iconst (pc := 31) (v := 0) C dX7_digest_31 ci_0 ?_
    refine Go_istore_n (pc := 32) C dX7_digest_32 (by decide) ?_
    obtain ⟨z10, hz10, hf⟩ := bnd hf
    refine Go_mask [true, true, false, true, false] ?_
    refine loopF_go (step := (fX7_digest_L33)) (fun q6 => Go p l e (rmc 5 0 0) σ m args below meth c K (inW (w7 K a s0)) σ.heap 5 0 0 (MQ below (CtQ K (w7 K a s0) (some (.long res.1)) (w7 K a res.2)) args σ 0 0 (inW (w7 K a s0))) (w7 K a q6.2.2) 33 [some (.ref (a 0)), some (.long q6.1), none, some (.int q6.2.1), none] []) (fun z10 => Go p l e (rmc 5 0 0) σ m args below meth c K (inW (w7 K a s0)) σ.heap 5 0 0 (MQ below (CtQ K (w7 K a s0) (some (.long res.1)) (w7 K a res.2)) args σ 0 0 (inW (w7 K a s0))) (w7 K a z10.2.2) 58 [some (.ref (a 0)), some (.long z10.1), none, some (.int z10.2.1), none] []) ?_ _ _ _ hz10 ?_
    · intro q6 x hf hk
      unfold fX7_digest_L33 at hf
      refine Go_iload_n (pc := 33) C dX7_digest_33 rfl ?_
      refine Go_bipush (pc := 34) (v := 8) C dX7_digest_34 cb_8 ?_
      refine Go_icmp_ge (pc := 36) (tgt := 58) C dX7_digest_36 (by decide) (fun hc => ?_) (fun hc => ?_)
      · replace hf := ift hc hf
        obtain rfl := Option.some.inj hf
        exact Go_mask [true, true, false, true, false] hk
      · replace hf := iff' hc hf
        refine Go_ldc2 (pc := 39) (v := 31) C mw_995 dX7_digest_39 ?_
        refine Go_lload_n (pc := 42) C dX7_digest_42 rfl ?_
        refine Go_lmul (pc := 43) C dX7_digest_43 ?_
        refine Go_aload_n (pc := 44) C dX7_digest_44 rfl ?_
        refine Go_iload_n (pc := 45) C dX7_digest_45 rfl ?_
        obtain ⟨r7, hr7, hf⟩ := bnd hf
        refine Go_callV1 (pc := 46) (ws1 := (w7 K a r7.2)) C 0 (0 :: 1 :: 2 :: 3 :: 4 :: 5 :: 6 :: 7 :: 8 :: 9 :: 10 :: 11 :: 12 :: 13 :: []) (kX7_allBy l K (pk a (0 :: 1 :: 2 :: 3 :: 4 :: 5 :: 6 :: 7 :: 8 :: 9 :: 10 :: 11 :: 12 :: 13 :: [])) q6.2.2 q6.2.1 r7 hr7) ycX7_allBy mw_831 (Nat.le_of_ble_eq_true rfl) rfl rfl rfl rfl (Nat.le_of_ble_eq_true rfl) ⟨Nat.zero_le _, Nat.zero_le _⟩ dX7_digest_46 (ll_149 _ _ _) rfl rfl (ll_150 _ _ _ _) ?_
        refine Go_i2l (pc := 49) C dX7_digest_49 ?_
        refine Go_ladd (pc := 50) C dX7_digest_50 ?_
        obtain ⟨v8, hv8, hf⟩ := bnd hf
        refine Go_topl (Option.some.inj hv8) ?_
        refine Go_lstore_n (pc := 51) C dX7_digest_51 (by decide) ?_
        obtain ⟨v9, hv9, hf⟩ := bnd hf
        refine Go_iinc (pc := 52) (v := v9) C dX7_digest_52 rfl (by rw [ci_1]; exact Option.some.inj hv9) ?_
        refine Go_goto (pc := 55) (tgt := 33) C dX7_digest_55 (by decide) ?_
        obtain rfl := Option.some.inj hf
        exact Go_mask [true, true, false, true, false] hk
    · show Go _ _ _ _ _ _ _ _ _ _ _ _ _ _ _ _ _ _ _ _ _
      refine Go_iconst (pc := 58) (v := 0) C dX7_digest_58 ci_0 ?_
      refine Go_istore_n (pc := 59) C dX7_digest_59 (by decide) ?_
      obtain ⟨z18, hz18, hf⟩ := bnd hf
      refine Go_mask [true, true, false, true, false] ?_
      refine loopF_go (step := (fX7_digest_L60)) (fun q11 => Go p l e (rmc 5 0 0) σ m args below meth c K (inW (w7 K a s0)) σ.heap 5 0 0 (MQ below (CtQ K (w7 K a s0) (some (.long res.1)) (w7 K a res.2)) args σ 0 0 (inW (w7 K a s0))) (w7 K a q11.2.2) 60 [some (.ref (a 0)), some (.long q11.1), none, some (.int q11.2.1), none] []) (fun z18 => Go p l e (rmc 5 0 0) σ m args below meth c K (inW (w7 K a s0)) σ.heap 5 0 0 (MQ below (CtQ K (w7 K a s0) (some (.long res.1)) (w7 K a res.2)) args σ 0 0 (inW (w7 K a s0))) (w7 K a z18.2.2) 104 [some (.ref (a 0)), some (.long z18.1), none, some (.int z18.2.1), none] []) ?_ _ _ _ hz18 ?_
      · intro q11 x hf hk
        unfold fX7_digest_L60 at hf
        refine Go_iload_n (pc := 60) C dX7_digest_60 rfl ?_
        refine Go_aload_n (pc := 61) C dX7_digest_61 rfl ?_
        refine Go_get (pc := 62) C 0 2 rfl rfl inX7 (by decide) mw_631 rfl dX7_digest_62 ?_
        refine Go_icmp_ge (pc := 65) (tgt := 104) C dX7_digest_65 (by decide) (fun hc => ?_) (fun hc => ?_)
        · replace hf := ift hc hf
          obtain rfl := Option.some.inj hf
          exact Go_mask [true, true, false, true, false] hk
        · replace hf := iff' hc hf
          refine Go_iconst (pc := 68) (v := 0) C dX7_digest_68 ci_0 ?_
          refine Go_istore (pc := 69) C dX7_digest_69 (by decide) ?_
          obtain ⟨z16, hz16, hf⟩ := bnd hf
          refine Go_mask [true, true, false, true, true] ?_
          refine loopF_go (step := (fX7_digest_L71 q11)) (fun q12 => Go p l e (rmc 5 0 0) σ m args below meth c K (inW (w7 K a s0)) σ.heap 5 0 0 (MQ below (CtQ K (w7 K a s0) (some (.long res.1)) (w7 K a res.2)) args σ 0 0 (inW (w7 K a s0))) (w7 K a q12.2.2) 71 [some (.ref (a 0)), some (.long q12.1), none, some (.int q11.2.1), some (.int q12.2.1)] []) (fun z16 => Go p l e (rmc 5 0 0) σ m args below meth c K (inW (w7 K a s0)) σ.heap 5 0 0 (MQ below (CtQ K (w7 K a s0) (some (.long res.1)) (w7 K a res.2)) args σ 0 0 (inW (w7 K a s0))) (w7 K a z16.2.2) 98 [some (.ref (a 0)), some (.long z16.1), none, some (.int q11.2.1), some (.int z16.2.1)] []) ?_ _ _ _ hz16 ?_
          · intro q12 x hf hk
            unfold fX7_digest_L71 at hf
            refine Go_iload (pc := 71) C dX7_digest_71 rfl ?_
            refine Go_iconst (pc := 73) (v := 5) C dX7_digest_73 ci_5 ?_
            refine Go_icmp_ge (pc := 74) (tgt := 98) C dX7_digest_74 (by decide) (fun hc => ?_) (fun hc => ?_)
            · replace hf := ift hc hf
              obtain rfl := Option.some.inj hf
              exact Go_mask [true, true, false, true, true] hk
            · replace hf := iff' hc hf
              refine Go_ldc2 (pc := 77) (v := 31) C mw_995 dX7_digest_77 ?_
              refine Go_lload_n (pc := 80) C dX7_digest_80 rfl ?_
              refine Go_lmul (pc := 81) C dX7_digest_81 ?_
              refine Go_aload_n (pc := 82) C dX7_digest_82 rfl ?_
              refine Go_iload_n (pc := 83) C dX7_digest_83 rfl ?_
              refine Go_iload (pc := 84) C dX7_digest_84 rfl ?_
              obtain ⟨r13, hr13, hf⟩ := bnd hf
              refine Go_callV1 (pc := 86) (ws1 := (w7 K a r13.2)) C 0 (0 :: 1 :: 2 :: 3 :: 4 :: 5 :: 6 :: 7 :: 8 :: 9 :: 10 :: 11 :: 12 :: 13 :: []) (kX7_ofBy l K (pk a (0 :: 1 :: 2 :: 3 :: 4 :: 5 :: 6 :: 7 :: 8 :: 9 :: 10 :: 11 :: 12 :: 13 :: [])) q12.2.2 q11.2.1 q12.2.1 r13 hr13) ycX7_ofBy mw_792 (Nat.le_of_ble_eq_true rfl) rfl rfl rfl rfl (Nat.le_of_ble_eq_true rfl) ⟨Nat.zero_le _, Nat.zero_le _⟩ dX7_digest_86 (ll_149 _ _ _) rfl rfl (ll_150 _ _ _ _) ?_
              refine Go_i2l (pc := 89) C dX7_digest_89 ?_
              refine Go_ladd (pc := 90) C dX7_digest_90 ?_
              obtain ⟨v14, hv14, hf⟩ := bnd hf
              refine Go_topl (Option.some.inj hv14) ?_
              refine Go_lstore_n (pc := 91) C dX7_digest_91 (by decide) ?_
              obtain ⟨v15, hv15, hf⟩ := bnd hf
              refine Go_iinc (pc := 92) (v := v15) C dX7_digest_92 rfl (by rw [ci_1]; exact Option.some.inj hv15) ?_
              refine Go_goto (pc := 95) (tgt := 71) C dX7_digest_95 (by decide) ?_
              obtain rfl := Option.some.inj hf
              exact Go_mask [true, true, false, true, true] hk
          · show Go _ _ _ _ _ _ _ _ _ _ _ _ _ _ _ _ _ _ _ _ _
            obtain ⟨v17, hv17, hf⟩ := bnd hf
            refine Go_iinc (pc := 98) (v := v17) C dX7_digest_98 rfl (by rw [ci_1]; exact Option.some.inj hv17) ?_
            refine Go_goto (pc := 101) (tgt := 60) C dX7_digest_101 (by decide) ?_
            obtain rfl := Option.some.inj hf
            exact Go_mask [true, true, false, true, false] hk
      · show Go _ _ _ _ _ _ _ _ _ _ _ _ _ _ _ _ _ _ _ _ _
        refine Go_iconst (pc := 104) (v := 0) C dX7_digest_104 ci_0 ?_
        refine Go_istore_n (pc := 105) C dX7_digest_105 (by decide) ?_
        obtain ⟨z22, hz22, hf⟩ := bnd hf
        refine Go_mask [true, true, false, true, false] ?_
        refine loopF_go (step := (fX7_digest_L106 z18)) (fun q19 => Go p l e (rmc 5 0 0) σ m args below meth c K (inW (w7 K a s0)) σ.heap 5 0 0 (MQ below (CtQ K (w7 K a s0) (some (.long res.1)) (w7 K a res.2)) args σ 0 0 (inW (w7 K a s0))) (w7 K a z18.2.2) 106 [some (.ref (a 0)), some (.long q19.1), none, some (.int q19.2), none] []) (fun z22 => Go p l e (rmc 5 0 0) σ m args below meth c K (inW (w7 K a s0)) σ.heap 5 0 0 (MQ below (CtQ K (w7 K a s0) (some (.long res.1)) (w7 K a res.2)) args σ 0 0 (inW (w7 K a s0))) (w7 K a z18.2.2) 132 [some (.ref (a 0)), some (.long z22.1), none, some (.int z22.2), none] []) ?_ _ _ _ hz22 ?_
        · intro q19 x hf hk
          unfold fX7_digest_L106 at hf
          refine Go_iload_n (pc := 106) C dX7_digest_106 rfl ?_
          refine Go_bipush (pc := 107) (v := 96) C dX7_digest_107 cb_96 ?_
          refine Go_icmp_ge (pc := 109) (tgt := 132) C dX7_digest_109 (by decide) (fun hc => ?_) (fun hc => ?_)
          · replace hf := ift hc hf
            obtain rfl := Option.some.inj hf
            exact Go_mask [true, true, false, true, false] hk
          · replace hf := iff' hc hf
            refine Go_ldc2 (pc := 112) (v := 31) C mw_995 dX7_digest_112 ?_
            refine Go_lload_n (pc := 115) C dX7_digest_115 rfl ?_
            refine Go_lmul (pc := 116) C dX7_digest_116 ?_
            refine Go_aload_n (pc := 117) C dX7_digest_117 rfl ?_
            refine Go_get (pc := 118) C 0 1 rfl rfl inX7 (by decide) mw_630 rfl dX7_digest_118 ?_
            refine Go_iload_n (pc := 121) C dX7_digest_121 rfl ?_
            obtain ⟨hb, hf⟩ := ifs hf
            refine Go_iald (pc := 122) C 2 rfl (inb_in hb) dX7_digest_122 ?_
            refine Go_i2l (pc := 123) C dX7_digest_123 ?_
            refine Go_ladd (pc := 124) C dX7_digest_124 ?_
            obtain ⟨v20, hv20, hf⟩ := bnd hf
            refine Go_topl (Option.some.inj hv20) ?_
            refine Go_lstore_n (pc := 125) C dX7_digest_125 (by decide) ?_
            obtain ⟨v21, hv21, hf⟩ := bnd hf
            refine Go_iinc (pc := 126) (v := v21) C dX7_digest_126 rfl (by rw [ci_1]; exact Option.some.inj hv21) ?_
            refine Go_goto (pc := 129) (tgt := 106) C dX7_digest_129 (by decide) ?_
            obtain rfl := Option.some.inj hf
            exact Go_mask [true, true, false, true, false] hk
        · show Go _ _ _ _ _ _ _ _ _ _ _ _ _ _ _ _ _ _ _ _ _
          refine Go_lload_n (pc := 132) C dX7_digest_132 rfl ?_
          obtain rfl := Option.some.inj hf
          exact Go_lret C hr rfl dX7_digest_133
