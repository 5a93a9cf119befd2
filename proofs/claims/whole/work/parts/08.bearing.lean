theorem ll_41 (K : KK) (a : Nat → Nat) (t0 : S0) (t1 : S1) : ([5, 6, 7, 8, 9, 10] : List Nat).map (fun i => (w0 K a t0 ++ w1 K (sh a 5) t1)[i]?) = List.map some (w1 K (pk a [5, 6, 7, 8, 9, 10]) t1) := rfl
theorem ll_42 (K : KK) (a : Nat → Nat) (t0 : S0) (t1 : S1) (y : Nat → Int32) : List.set (w0 K a t0 ++ w1 K (sh a 5) t1) 2 (a 2, .inl (K.2.1, 96, .inl y)) = (w0 K a ((t0.1, y, t0.2.2)) ++ w1 K (sh a 5) t1) := rfl
theorem ll_43 (K : KK) (a : Nat → Nat) (t0 : S0) (t1 : S1) (y : Nat → Int32) : List.set (w0 K a t0 ++ w1 K (sh a 5) t1) 1 (a 1, .inl (K.2.1, 96, .inl y)) = (w0 K a ((y, t0.2)) ++ w1 K (sh a 5) t1) := rfl
def fX0_claim_L81 (p2 : Int32) (v2 : Int32) (r5 : Int32) (q7 : Int32 × (Nat → Int32) × (Nat → Int32)) (v8 : Int32) (q9 : Int32 × (Nat → Int32) × (Nat → Int32)) : Option ((Int32 × (Nat → Int32) × (Nat → Int32)) ⊕ (Int32 × (Nat → Int32) × (Nat → Int32))) := (if r5 < q9.1 then some (.inr (q9.1, q9.2.1, q9.2.2)) else Option.bind (some (((12 : Int32) * q7.1) + q9.1)) (fun v10 => Option.bind (some (v8 + ((if 0 ≤ (q9.1 - v2) then (q9.1 - v2) else 0 - (q9.1 - v2))))) (fun v11 => (if 0 ≤ v10 ∧ v10.toNatClampNeg < 96 then (if (q9.2.2 v10.toNatClampNeg) ≤ v11 then Option.bind (some (q9.1 + (1 : Int32))) (fun v12 => some (.inl (v12, q9.2.1, q9.2.2))) else (if 0 ≤ v10 ∧ v10.toNatClampNeg < 96 then (if 0 ≤ v10 ∧ v10.toNatClampNeg < 96 then Option.bind (some (q9.1 + (1 : Int32))) (fun v13 => some (.inl (v13, upd q9.2.1 v10.toNatClampNeg p2, upd q9.2.2 v10.toNatClampNeg v11))) else none) else none)) else none))))
def fX0_claim_L61 (p2 : Int32) (v1 : Int32) (v2 : Int32) (r3 : Int32) (r4 : Int32) (r5 : Int32) (q7 : Int32 × (Nat → Int32) × (Nat → Int32)) : Option ((Int32 × (Nat → Int32) × (Nat → Int32)) ⊕ (Int32 × (Nat → Int32) × (Nat → Int32))) := (if r3 < q7.1 then some (.inr (q7.1, q7.2.1, q7.2.2)) else Option.bind (some ((if 0 ≤ (q7.1 - v1) then (q7.1 - v1) else 0 - (q7.1 - v1)))) (fun v8 => Option.bind (loopF (fX0_claim_L81 p2 v2 r5 q7 v8) 5000 (r4, q7.2.1, q7.2.2)) (fun z14 => Option.bind (some (q7.1 + (1 : Int32))) (fun v15 => some (.inl (v15, z14.2.1, z14.2.2))))))
def fX0_claim (s0 : S0) (s1 : S1) (p2 : Int32) : Option (S0) := (if 0 ≤ p2 ∧ p2.toNatClampNeg < 12 then Option.bind (some ((s1.2.1 p2.toNatClampNeg) / (12 : Int32))) (fun v1 => (if 0 ≤ p2 ∧ p2.toNatClampNeg < 12 then Option.bind (some ((s1.2.1 p2.toNatClampNeg) - (s1.2.1 p2.toNatClampNeg) / (12 : Int32) * (12 : Int32))) (fun v2 => Option.bind (fX1_lastOf s1 (0 : Int32) v1 (7 : Int32)) (fun r3 => Option.bind (fX1_firstOf s1 (10 : Int32) v2) (fun r4 => Option.bind (fX1_lastOf s1 (10 : Int32) v2 (11 : Int32)) (fun r5 => Option.bind (fX1_firstOf s1 (0 : Int32) v1) (fun r6 => Option.bind (loopF (fX0_claim_L61 p2 v1 v2 r3 r4 r5) 5000 (r6, s0.1, s0.2.1)) (fun z16 => some ((z16.2.1, z16.2.2, s0.2.2)))))))) else none)) else none)
theorem ycX0_claim : CalV yX0_claim cX0_claim 13 none 2 := ⟨mw_358, mw_64, mw_357, mw_1, ⟨by decide, by decide, by decide +kernel⟩, by decide⟩
set_option maxHeartbeats 4000000 in
set_option maxRecDepth 100000 in
theorem kX0_claim (l : Launch) (K : KK) (a : Nat → Nat) (s0 : S0) (s1 : S1) (p2 : Int32) (res : S0) (hf : fX0_claim s0 s1 p2 = some res) : Ct l K yX0_claim cX0_claim 13 none 1 [.ref (a 0), .ref (a 5), .int p2] (w0 K a s0 ++ w1 K (sh a 5) s1) (none) (w0 K a res ++ w1 K (sh a 5) s1) := by
  refine Ct_of2 (by decide) rfl (Nat.le_of_ble_eq_true rfl) ?_
  intro p e σ m args below meth c C hr
  unfold fX0_claim at hf
  refine Go_aload_n (pc := 0) C dX0_claim_0 rfl ?_
  refine Go_get (pc := 1) C 5 1 rfl rfl inX1 (by decide) mw_98 rfl dX0_claim_1 ?_
  refine Go_iload_n (pc := 4) C dX0_claim_4 rfl ?_
  obtain ⟨hb, hf⟩ := ifs hf
  refine Go_iald (pc := 5) C 7 rfl (inb_in hb) dX0_claim_5 ?_
  refine Go_bipush (pc := 6) (v := 12) C dX0_claim_6 cb_12 ?_
  refine Go_idiv (pc := 8) C dX0_claim_8 (by decide) ?_
  obtain ⟨v1, hv1, hf⟩ := bnd hf
  refine Go_topi (Option.some.inj hv1) ?_
  refine Go_istore_n (pc := 9) C dX0_claim_9 (by decide) ?_
  refine Go_aload_n (pc := 10) C dX0_claim_10 rfl ?_
  refine Go_get (pc := 11) C 5 1 rfl rfl inX1 (by decide) mw_98 rfl dX0_claim_11 ?_
  refine Go_iload_n (pc := 14) C dX0_claim_14 rfl ?_
  obtain ⟨hb, hf⟩ := ifs hf
  refine Go_iald (pc := 15) C 7 rfl (inb_in hb) dX0_claim_15 ?_
  refine Go_bipush (pc := 16) (v := 12) C dX0_claim_16 cb_12 ?_
  refine Go_irem (pc := 18) C dX0_claim_18 (by decide) ?_
  obtain ⟨v2, hv2, hf⟩ := bnd hf
  refine Go_topi (Option.some.inj hv2) ?_
  refine Go_istore (pc := 19) C dX0_claim_19 (by decide) ?_
  refine Go_aload_n (pc := 21) C dX0_claim_21 rfl ?_
  refine Go_iconst (pc := 22) (v := 0) C dX0_claim_22 ci_0 ?_
  refine Go_iload_n (pc := 23) C dX0_claim_23 rfl ?_
  refine Go_bipush (pc := 24) (v := 7) C dX0_claim_24 cb_7 ?_
  obtain ⟨r3, hr3, hf⟩ := bnd hf
  refine Go_callV1 (pc := 26) (ws1 := (w0 K a s0 ++ w1 K (sh a 5) s1)) C 5 [5, 6, 7, 8, 9, 10] (kX1_lastOf l K (pk a [5, 6, 7, 8, 9, 10]) s1 (0 : Int32) v1 (7 : Int32) r3 hr3) ycX1_lastOf mw_359 (Nat.le_of_ble_eq_true rfl) rfl rfl rfl rfl (Nat.le_of_ble_eq_true rfl) ⟨Nat.zero_le _, Nat.zero_le _⟩ dX0_claim_26 (ll_41 _ _ _ _) rfl rfl (Wr_same (ll_41 _ _ _ _)) ?_
  refine Go_istore (pc := 29) C dX0_claim_29 (by decide) ?_
  refine Go_aload_n (pc := 31) C dX0_claim_31 rfl ?_
  refine Go_bipush (pc := 32) (v := 10) C dX0_claim_32 cb_10 ?_
  refine Go_iload (pc := 34) C dX0_claim_34 rfl ?_
  obtain ⟨r4, hr4, hf⟩ := bnd hf
  refine Go_callV1 (pc := 36) (ws1 := (w0 K a s0 ++ w1 K (sh a 5) s1)) C 5 [5, 6, 7, 8, 9, 10] (kX1_firstOf l K (pk a [5, 6, 7, 8, 9, 10]) s1 (10 : Int32) v2 r4 hr4) ycX1_firstOf mw_363 (Nat.le_of_ble_eq_true rfl) rfl rfl rfl rfl (Nat.le_of_ble_eq_true rfl) ⟨Nat.zero_le _, Nat.zero_le _⟩ dX0_claim_36 (ll_41 _ _ _ _) rfl rfl (Wr_same (ll_41 _ _ _ _)) ?_
  refine Go_istore (pc := 39) C dX0_claim_39 (by decide) ?_
  refine Go_aload_n (pc := 41) C dX0_claim_41 rfl ?_
  refine Go_bipush (pc := 42) (v := 10) C dX0_claim_42 cb_10 ?_
  refine Go_iload (pc := 44) C dX0_claim_44 rfl ?_
  refine Go_bipush (pc := 46) (v := 11) C dX0_claim_46 cb_11 ?_
  obtain ⟨r5, hr5, hf⟩ := bnd hf
  refine Go_callV1 (pc := 48) (ws1 := (w0 K a s0 ++ w1 K (sh a 5) s1)) C 5 [5, 6, 7, 8, 9, 10] (kX1_lastOf l K (pk a [5, 6, 7, 8, 9, 10]) s1 (10 : Int32) v2 (11 : Int32) r5 hr5) ycX1_lastOf mw_359 (Nat.le_of_ble_eq_true rfl) rfl rfl rfl rfl (Nat.le_of_ble_eq_true rfl) ⟨Nat.zero_le _, Nat.zero_le _⟩ dX0_claim_48 (ll_41 _ _ _ _) rfl rfl (Wr_same (ll_41 _ _ _ _)) ?_
  refine Go_istore (pc := 51) C dX0_claim_51 (by decide) ?_
  refine Go_aload_n (pc := 53) C dX0_claim_53 rfl ?_
  refine Go_iconst (pc := 54) (v := 0) C dX0_claim_54 ci_0 ?_
  refine Go_iload_n (pc := 55) C dX0_claim_55 rfl ?_
  obtain ⟨r6, hr6, hf⟩ := bnd hf
  refine Go_callV1 (pc := 56) (ws1 := (w0 K a s0 ++ w1 K (sh a 5) s1)) C 5 [5, 6, 7, 8, 9, 10] (kX1_firstOf l K (pk a [5, 6, 7, 8, 9, 10]) s1 (0 : Int32) v1 r6 hr6) ycX1_firstOf mw_363 (Nat.le_of_ble_eq_true rfl) rfl rfl rfl rfl (Nat.le_of_ble_eq_true rfl) ⟨Nat.zero_le _, Nat.zero_le _⟩ dX0_claim_56 (ll_41 _ _ _ _) rfl rfl (Wr_same (ll_41 _ _ _ _)) ?_
  refine Go_istore (pc := 59) C dX0_claim_59 (by decide) ?_
  obtain ⟨z16, hz16, hf⟩ := bnd hf
  refine Go_mask (true :: true :: true :: true :: true :: true :: true :: true :: true :: false :: false :: false :: false :: []) ?_
  refine loopF_go (step := (fX0_claim_L61 p2 v1 v2 r3 r4 r5)) (fun q7 => Go p l e (rmc 1 0 0) σ m args below meth c K (inW (w0 K a s0 ++ w1 K (sh a 5) s1)) σ.heap 13 0 0 (MQ below (CtQ K (w0 K a s0 ++ w1 K (sh a 5) s1) (none) (w0 K a res ++ w1 K (sh a 5) s1)) args σ 0 0 (inW (w0 K a s0 ++ w1 K (sh a 5) s1))) (w0 K a ((q7.2.1, q7.2.2, s0.2.2)) ++ w1 K (sh a 5) s1) 61 (some (.ref (a 0)) :: some (.ref (a 5)) :: some (.int p2) :: some (.int v1) :: some (.int v2) :: some (.int r3) :: some (.int r4) :: some (.int r5) :: some (.int q7.1) :: none :: none :: none :: none :: []) []) (fun z16 => Go p l e (rmc 1 0 0) σ m args below meth c K (inW (w0 K a s0 ++ w1 K (sh a 5) s1)) σ.heap 13 0 0 (MQ below (CtQ K (w0 K a s0 ++ w1 K (sh a 5) s1) (none) (w0 K a res ++ w1 K (sh a 5) s1)) args σ 0 0 (inW (w0 K a s0 ++ w1 K (sh a 5) s1))) (w0 K a ((z16.2.1, z16.2.2, s0.2.2)) ++ w1 K (sh a 5) s1) 152 (some (.ref (a 0)) :: some (.ref (a 5)) :: some (.int p2) :: some (.int v1) :: some (.int v2) :: some (.int r3) :: some (.int r4) :: some (.int r5) :: some (.int z16.1) :: none :: none :: none :: none :: []) []) ?_ _ _ _ hz16 ?_
  · intro q7 x hf hk
    unfold fX0_claim_L61 at hf
    refine Go_iload (pc := 61) C dX0_claim_61 rfl ?_
    refine Go_iload (pc := 63) C dX0_claim_63 rfl ?_
    refine Go_icmp_gt (pc := 65) (tgt := 152) C dX0_claim_65 (by decide) (fun hc => ?_) (fun hc => ?_)
    · replace hf := ift hc hf
      obtain rfl := Option.some.inj hf
      exact Go_mask (true :: true :: true :: true :: true :: true :: true :: true :: true :: false :: false :: false :: false :: []) hk
    · replace hf := iff' hc hf
      refine Go_iload (pc := 68) C dX0_claim_68 rfl ?_
      refine Go_iload_n (pc := 70) C dX0_claim_70 rfl ?_
      refine Go_isub (pc := 71) C dX0_claim_71 ?_
      refine Go_mabs (pc := 72) C mw_367 (Nat.le_of_ble_eq_true rfl) (Nat.le_of_ble_eq_true rfl) (Nat.zero_le _) (Nat.zero_le _) dX0_claim_72 ?_
      obtain ⟨v8, hv8, hf⟩ := bnd hf
      refine Go_topi (Option.some.inj hv8) ?_
      refine Go_istore (pc := 75) C dX0_claim_75 (by decide) ?_
      refine Go_iload (pc := 77) C dX0_claim_77 rfl ?_
      refine Go_istore (pc := 79) C dX0_claim_79 (by decide) ?_
      obtain ⟨z14, hz14, hf⟩ := bnd hf
      refine Go_mask (true :: true :: true :: true :: true :: true :: true :: true :: true :: true :: true :: false :: false :: []) ?_
      refine loopF_go (step := (fX0_claim_L81 p2 v2 r5 q7 v8)) (fun q9 => Go p l e (rmc 1 0 0) σ m args below meth c K (inW (w0 K a s0 ++ w1 K (sh a 5) s1)) σ.heap 13 0 0 (MQ below (CtQ K (w0 K a s0 ++ w1 K (sh a 5) s1) (none) (w0 K a res ++ w1 K (sh a 5) s1)) args σ 0 0 (inW (w0 K a s0 ++ w1 K (sh a 5) s1))) (w0 K a ((q9.2.1, q9.2.2, s0.2.2)) ++ w1 K (sh a 5) s1) 81 (some (.ref (a 0)) :: some (.ref (a 5)) :: some (.int p2) :: some (.int v1) :: some (.int v2) :: some (.int r3) :: some (.int r4) :: some (.int r5) :: some (.int q7.1) :: some (.int v8) :: some (.int q9.1) :: none :: none :: []) []) (fun z14 => Go p l e (rmc 1 0 0) σ m args below meth c K (inW (w0 K a s0 ++ w1 K (sh a 5) s1)) σ.heap 13 0 0 (MQ below (CtQ K (w0 K a s0 ++ w1 K (sh a 5) s1) (none) (w0 K a res ++ w1 K (sh a 5) s1)) args σ 0 0 (inW (w0 K a s0 ++ w1 K (sh a 5) s1))) (w0 K a ((z14.2.1, z14.2.2, s0.2.2)) ++ w1 K (sh a 5) s1) 146 (some (.ref (a 0)) :: some (.ref (a 5)) :: some (.int p2) :: some (.int v1) :: some (.int v2) :: some (.int r3) :: some (.int r4) :: some (.int r5) :: some (.int q7.1) :: some (.int v8) :: some (.int z14.1) :: none :: none :: []) []) ?_ _ _ _ hz14 ?_
      · intro q9 x hf hk
        unfold fX0_claim_L81 at hf
        refine Go_iload (pc := 81) C dX0_claim_81 rfl ?_
        refine Go_iload (pc := 83) C dX0_claim_83 rfl ?_
        refine Go_icmp_gt (pc := 85) (tgt := 146) C dX0_claim_85 (by decide) (fun hc => ?_) (fun hc => ?_)
        · replace hf := ift hc hf
          obtain rfl := Option.some.inj hf
          exact Go_mask (true :: true :: true :: true :: true :: true :: true :: true :: true :: true :: true :: false :: false :: []) hk
        · replace hf := iff' hc hf
          refine Go_bipush (pc := 88) (v := 12) C dX0_claim_88 cb_12 ?_
          refine Go_iload (pc := 90) C dX0_claim_90 rfl ?_
          refine Go_imul (pc := 92) C dX0_claim_92 ?_
          refine Go_iload (pc := 93) C dX0_claim_93 rfl ?_
          refine Go_iadd (pc := 95) C dX0_claim_95 ?_
          obtain ⟨v10, hv10, hf⟩ := bnd hf
          refine Go_topi (Option.some.inj hv10) ?_
          refine Go_istore (pc := 96) C dX0_claim_96 (by decide) ?_
          refine Go_iload (pc := 98) C dX0_claim_98 rfl ?_
          refine Go_iload (pc := 100) C dX0_claim_100 rfl ?_
          refine Go_iload (pc := 102) C dX0_claim_102 rfl ?_
          refine Go_isub (pc := 104) C dX0_claim_104 ?_
          refine Go_mabs (pc := 105) C mw_367 (Nat.le_of_ble_eq_true rfl) (Nat.le_of_ble_eq_true rfl) (Nat.zero_le _) (Nat.zero_le _) dX0_claim_105 ?_
          refine Go_iadd (pc := 108) C dX0_claim_108 ?_
          obtain ⟨v11, hv11, hf⟩ := bnd hf
          refine Go_topi (Option.some.inj hv11) ?_
          refine Go_istore (pc := 109) C dX0_claim_109 (by decide) ?_
          refine Go_iload (pc := 111) C dX0_claim_111 rfl ?_
          refine Go_aload_n (pc := 113) C dX0_claim_113 rfl ?_
          refine Go_get (pc := 114) C 0 1 rfl rfl inX0 (by decide) mw_140 rfl dX0_claim_114 ?_
          refine Go_iload (pc := 117) C dX0_claim_117 rfl ?_
          obtain ⟨hb, hf⟩ := ifs hf
          refine Go_iald (pc := 119) C 2 rfl (inb_in hb) dX0_claim_119 ?_
          refine Go_icmp_ge (pc := 120) (tgt := 140) C dX0_claim_120 (by decide) (fun hc => ?_) (fun hc => ?_)
          · replace hf := ift hc hf
            obtain ⟨v12, hv12, hf⟩ := bnd hf
            refine Go_iinc (pc := 140) (v := v12) C dX0_claim_140 rfl (by rw [ci_1]; exact Option.some.inj hv12) ?_
            refine Go_goto (pc := 143) (tgt := 81) C dX0_claim_143 (by decide) ?_
            obtain rfl := Option.some.inj hf
            exact Go_mask (true :: true :: true :: true :: true :: true :: true :: true :: true :: true :: true :: false :: false :: []) hk
          · replace hf := iff' hc hf
            refine Go_aload_n (pc := 123) C dX0_claim_123 rfl ?_
            refine Go_get (pc := 124) C 0 1 rfl rfl inX0 (by decide) mw_140 rfl dX0_claim_124 ?_
            refine Go_iload (pc := 127) C dX0_claim_127 rfl ?_
            refine Go_iload (pc := 129) C dX0_claim_129 rfl ?_
            obtain ⟨hb, hf⟩ := ifs hf
            refine Go_iast (pc := 131) (ws1 := (w0 K a ((q9.2.1, upd q9.2.2 v10.toNatClampNeg v11, s0.2.2)) ++ w1 K (sh a 5) s1)) C 2 rfl (inb_in hb) dX0_claim_131 (ll_42 _ _ _ _ _) ?_
            refine Go_aload_n (pc := 132) C dX0_claim_132 rfl ?_
            refine Go_get (pc := 133) C 0 0 rfl rfl inX0 (by decide) mw_138 rfl dX0_claim_133 ?_
            refine Go_iload (pc := 136) C dX0_claim_136 rfl ?_
            refine Go_iload_n (pc := 138) C dX0_claim_138 rfl ?_
            obtain ⟨hb, hf⟩ := ifs hf
            refine Go_iast (pc := 139) (ws1 := (w0 K a ((upd q9.2.1 v10.toNatClampNeg p2, upd q9.2.2 v10.toNatClampNeg v11, s0.2.2)) ++ w1 K (sh a 5) s1)) C 1 rfl (inb_in hb) dX0_claim_139 (ll_43 _ _ _ _ _) ?_
            obtain ⟨v13, hv13, hf⟩ := bnd hf
            refine Go_iinc (pc := 140) (v := v13) C dX0_claim_140 rfl (by rw [ci_1]; exact Option.some.inj hv13) ?_
            refine Go_goto (pc := 143) (tgt := 81) C dX0_claim_143 (by decide) ?_
            obtain rfl := Option.some.inj hf
            exact Go_mask (true :: true :: true :: true :: true :: true :: true :: true :: true :: true :: true :: false :: false :: []) hk
      · show Go _ _ _ _ _ _ _ _ _ _ _ _ _ _ _ _ _ _ _ _ _
        obtain ⟨v15, hv15, hf⟩ := bnd hf
        refine Go_iinc (pc := 146) (v := v15) C dX0_claim_146 rfl (by rw [ci_1]; exact Option.some.inj hv15) ?_
        refine Go_goto (pc := 149) (tgt := 61) C dX0_claim_149 (by decide) ?_
        obtain rfl := Option.some.inj hf
        exact Go_mask (true :: true :: true :: true :: true :: true :: true :: true :: true :: false :: false :: false :: false :: []) hk
  · show Go _ _ _ _ _ _ _ _ _ _ _ _ _ _ _ _ _ _ _ _ _
    obtain rfl := Option.some.inj hf
    exact Go_vret C hr rfl dX0_claim_152
theorem ll_44 (K : KK) (a : Nat → Nat) (t0 : S0) (t1 : S1) : ([3] : List Nat).map (fun i => (w0 K a t0 ++ w1 K (sh a 5) t1)[i]?) = List.map some (wA K (pk a [3]) 12 t0.2.2.1) := rfl
theorem ll_45 (K : KK) (a : Nat → Nat) (t0 : S0) (t1 : S1) (y0 : (Nat → Int32)) : Wr (w0 K a t0 ++ w1 K (sh a 5) t1) [3] (wA K (pk a [3]) 12 y0) (w0 K a ((t0.1, t0.2.1, y0, t0.2.2.2)) ++ w1 K (sh a 5) t1) := ⟨[0, 1, 2, 4, 5, 6, 7, 8, 9, 10], 11, rfl, (show List.map (fun i => (w0 K a ((t0.1, t0.2.1, y0, t0.2.2.2)) ++ w1 K (sh a 5) t1)[i]?) _ = ([some (a 0, .inr (0, [.ref (a 1), .ref (a 2), .ref (a 3), .ref (a 4)])), some (a 1, .inl (K.2.1, 96, .inl (t0.1))), some (a 2, .inl (K.2.1, 96, .inl (t0.2.1))), some (a 4, .inl (K.2.1, 12, .inl (t0.2.2.2))), some (a 5, .inr (1, [.ref (a 6), .ref (a 7), .ref (a 8), .ref (a 9), .ref (a 10), .int (t1.2.2.2.2.2)])), some (a 6, .inl (K.2.1, 96, .inl (t1.1))), some (a 7, .inl (K.2.1, 12, .inl (t1.2.1))), some (a 8, .inl (K.2.1, 12, .inl (t1.2.2.1))), some (a 9, .inl (K.2.1, 12, .inl (t1.2.2.2.1))), some (a 10, .inl (K.2.1, 21, .inl (t1.2.2.2.2.1)))] : List (Option (Nat × va_E))) from rfl).trans (show List.map (fun i => (w0 K a t0 ++ w1 K (sh a 5) t1)[i]?) _ = ([some (a 0, .inr (0, [.ref (a 1), .ref (a 2), .ref (a 3), .ref (a 4)])), some (a 1, .inl (K.2.1, 96, .inl (t0.1))), some (a 2, .inl (K.2.1, 96, .inl (t0.2.1))), some (a 4, .inl (K.2.1, 12, .inl (t0.2.2.2))), some (a 5, .inr (1, [.ref (a 6), .ref (a 7), .ref (a 8), .ref (a 9), .ref (a 10), .int (t1.2.2.2.2.2)])), some (a 6, .inl (K.2.1, 96, .inl (t1.1))), some (a 7, .inl (K.2.1, 12, .inl (t1.2.1))), some (a 8, .inl (K.2.1, 12, .inl (t1.2.2.1))), some (a 9, .inl (K.2.1, 12, .inl (t1.2.2.2.1))), some (a 10, .inl (K.2.1, 21, .inl (t1.2.2.2.2.1)))] : List (Option (Nat × va_E))) from rfl).symm, rfl, by decide⟩
theorem ll_46 (K : KK) (a : Nat → Nat) (t0 : S0) (t1 : S1) : ([4] : List Nat).map (fun i => (w0 K a t0 ++ w1 K (sh a 5) t1)[i]?) = List.map some (wA K (pk a [4]) 12 t0.2.2.2) := rfl
theorem ll_47 (K : KK) (a : Nat → Nat) (t0 : S0) (t1 : S1) (y0 : (Nat → Int32)) : Wr (w0 K a t0 ++ w1 K (sh a 5) t1) [4] (wA K (pk a [4]) 12 y0) (w0 K a ((t0.1, t0.2.1, t0.2.2.1, y0)) ++ w1 K (sh a 5) t1) := ⟨[0, 1, 2, 3, 5, 6, 7, 8, 9, 10], 11, rfl, (show List.map (fun i => (w0 K a ((t0.1, t0.2.1, t0.2.2.1, y0)) ++ w1 K (sh a 5) t1)[i]?) _ = ([some (a 0, .inr (0, [.ref (a 1), .ref (a 2), .ref (a 3), .ref (a 4)])), some (a 1, .inl (K.2.1, 96, .inl (t0.1))), some (a 2, .inl (K.2.1, 96, .inl (t0.2.1))), some (a 3, .inl (K.2.1, 12, .inl (t0.2.2.1))), some (a 5, .inr (1, [.ref (a 6), .ref (a 7), .ref (a 8), .ref (a 9), .ref (a 10), .int (t1.2.2.2.2.2)])), some (a 6, .inl (K.2.1, 96, .inl (t1.1))), some (a 7, .inl (K.2.1, 12, .inl (t1.2.1))), some (a 8, .inl (K.2.1, 12, .inl (t1.2.2.1))), some (a 9, .inl (K.2.1, 12, .inl (t1.2.2.2.1))), some (a 10, .inl (K.2.1, 21, .inl (t1.2.2.2.2.1)))] : List (Option (Nat × va_E))) from rfl).trans (show List.map (fun i => (w0 K a t0 ++ w1 K (sh a 5) t1)[i]?) _ = ([some (a 0, .inr (0, [.ref (a 1), .ref (a 2), .ref (a 3), .ref (a 4)])), some (a 1, .inl (K.2.1, 96, .inl (t0.1))), some (a 2, .inl (K.2.1, 96, .inl (t0.2.1))), some (a 3, .inl (K.2.1, 12, .inl (t0.2.2.1))), some (a 5, .inr (1, [.ref (a 6), .ref (a 7), .ref (a 8), .ref (a 9), .ref (a 10), .int (t1.2.2.2.2.2)])), some (a 6, .inl (K.2.1, 96, .inl (t1.1))), some (a 7, .inl (K.2.1, 12, .inl (t1.2.1))), some (a 8, .inl (K.2.1, 12, .inl (t1.2.2.1))), some (a 9, .inl (K.2.1, 12, .inl (t1.2.2.2.1))), some (a 10, .inl (K.2.1, 21, .inl (t1.2.2.2.2.1)))] : List (Option (Nat × va_E))) from rfl).symm, rfl, by decide⟩
theorem ll_48 (K : KK) (a : Nat → Nat) (t0 : S0) (t1 : S1) (y : Nat → Int32) : List.set (w0 K a t0 ++ w1 K (sh a 5) t1) 3 (a 3, .inl (K.2.1, 12, .inl y)) = (w0 K a ((t0.1, t0.2.1, y, t0.2.2.2)) ++ w1 K (sh a 5) t1) := rfl
theorem ll_49 (K : KK) (a : Nat → Nat) (t0 : S0) (t1 : S1) (y : Nat → Int32) : List.set (w0 K a t0 ++ w1 K (sh a 5) t1) 4 (a 4, .inl (K.2.1, 12, .inl y)) = (w0 K a ((t0.1, t0.2.1, t0.2.2.1, y)) ++ w1 K (sh a 5) t1) := rfl
def fX0_weigh_L18 (s0 : S0) (s1 : S1) (q3 : Int32 × (Nat → Int32) × (Nat → Int32)) : Option ((Int32 × (Nat → Int32) × (Nat → Int32)) ⊕ (Int32 × (Nat → Int32) × (Nat → Int32))) := (if (96 : Int32) ≤ q3.1 then some (.inr (q3.1, q3.2.1, q3.2.2)) else (if 0 ≤ q3.1 ∧ q3.1.toNatClampNeg < 96 then Option.bind (some (s0.1 q3.1.toNatClampNeg)) (fun v4 => (if v4 = (-1 : Int32) then Option.bind (some (q3.1 + (1 : Int32))) (fun v5 => some (.inl (v5, q3.2.1, q3.2.2))) else (if 0 ≤ v4 ∧ v4.toNatClampNeg < 12 then (if 0 ≤ q3.1 ∧ q3.1.toNatClampNeg < 96 then (if 0 ≤ v4 ∧ v4.toNatClampNeg < 12 then (if 0 ≤ v4 ∧ v4.toNatClampNeg < 12 then (if 0 ≤ v4 ∧ v4.toNatClampNeg < 12 then Option.bind (some (q3.1 + (1 : Int32))) (fun v6 => some (.inl (v6, upd q3.2.1 v4.toNatClampNeg ((q3.2.1 v4.toNatClampNeg) + (s1.1 q3.1.toNatClampNeg)), upd q3.2.2 v4.toNatClampNeg ((q3.2.2 v4.toNatClampNeg) + (1 : Int32))))) else none) else none) else none) else none) else none))) else none))
def fX0_weigh (s0 : S0) (s1 : S1) : Option (S0) := Option.bind (fJ7_fill_53178 12 s0.2.2.1 (0 : Int32)) (fun r1 => Option.bind (fJ7_fill_53178 12 s0.2.2.2 (0 : Int32)) (fun r2 => Option.bind (loopF (fX0_weigh_L18 s0 s1) 5000 ((0 : Int32), r1, r2)) (fun z7 => some ((s0.1, s0.2.1, z7.2.1, z7.2.2)))))
theorem ycX0_weigh : CalV yX0_weigh cX0_weigh 4 none 1 := ⟨mw_373, mw_64, mw_372, mw_2, ⟨by decide, by decide, by decide +kernel⟩, by decide⟩
set_option maxHeartbeats 4000000 in
set_option maxRecDepth 100000 in
theorem kX0_weigh (l : Launch) (K : KK) (a : Nat → Nat) (s0 : S0) (s1 : S1) (res : S0) (hf : fX0_weigh s0 s1 = some res) : Ct l K yX0_weigh cX0_weigh 4 none 1 [.ref (a 0), .ref (a 5)] (w0 K a s0 ++ w1 K (sh a 5) s1) (none) (w0 K a res ++ w1 K (sh a 5) s1) := by
  refine Ct_of2 (by decide) rfl (Nat.le_of_ble_eq_true rfl) ?_
  intro p e σ m args below meth c C hr
  unfold fX0_weigh at hf
  refine Go_aload_n (pc := 0) C dX0_weigh_0 rfl ?_
  refine Go_get (pc := 1) C 0 2 rfl rfl inX0 (by decide) mw_141 rfl dX0_weigh_1 ?_
  refine Go_iconst (pc := 4) (v := 0) C dX0_weigh_4 ci_0 ?_
  obtain ⟨r1, hr1, hf⟩ := bnd hf
  refine Go_callS0 (pc := 5) (ws1 := (w0 K a ((s0.1, s0.2.1, r1, s0.2.2.2)) ++ w1 K (sh a 5) s1)) C [3] (kJ7_fill_53178 l K (pk a [3]) 12 s0.2.2.1 (0 : Int32) r1 hr1) ycJ7_fill_53178 mw_354 (Nat.le_of_ble_eq_true rfl) rfl rfl (Nat.le_of_ble_eq_true rfl) ⟨Nat.zero_le _, Nat.zero_le _⟩ dX0_weigh_5 (ll_44 _ _ _ _) rfl rfl (ll_45 _ _ _ _ _) ?_
  refine Go_aload_n (pc := 8) C dX0_weigh_8 rfl ?_
  refine Go_get (pc := 9) C 0 3 rfl rfl inX0 (by decide) mw_143 rfl dX0_weigh_9 ?_
  refine Go_iconst (pc := 12) (v := 0) C dX0_weigh_12 ci_0 ?_
  obtain ⟨r2, hr2, hf⟩ := bnd hf
  refine Go_callS0 (pc := 13) (ws1 := (w0 K a ((s0.1, s0.2.1, r1, r2)) ++ w1 K (sh a 5) s1)) C [4] (kJ7_fill_53178 l K (pk a [4]) 12 s0.2.2.2 (0 : Int32) r2 hr2) ycJ7_fill_53178 mw_354 (Nat.le_of_ble_eq_true rfl) rfl rfl (Nat.le_of_ble_eq_true rfl) ⟨Nat.zero_le _, Nat.zero_le _⟩ dX0_weigh_13 (ll_46 _ _ _ _) rfl rfl (ll_47 _ _ _ _ _) ?_
  refine Go_iconst (pc := 16) (v := 0) C dX0_weigh_16 ci_0 ?_
  refine Go_istore_n (pc := 17) C dX0_weigh_17 (by decide) ?_
  obtain ⟨z7, hz7, hf⟩ := bnd hf
  refine Go_mask [true, true, true, false] ?_
  refine loopF_go (step := (fX0_weigh_L18 s0 s1)) (fun q3 => Go p l e (rmc 1 0 0) σ m args below meth c K (inW (w0 K a s0 ++ w1 K (sh a 5) s1)) σ.heap 4 0 0 (MQ below (CtQ K (w0 K a s0 ++ w1 K (sh a 5) s1) (none) (w0 K a res ++ w1 K (sh a 5) s1)) args σ 0 0 (inW (w0 K a s0 ++ w1 K (sh a 5) s1))) (w0 K a ((s0.1, s0.2.1, q3.2.1, q3.2.2)) ++ w1 K (sh a 5) s1) 18 [some (.ref (a 0)), some (.ref (a 5)), some (.int q3.1), none] []) (fun z7 => Go p l e (rmc 1 0 0) σ m args below meth c K (inW (w0 K a s0 ++ w1 K (sh a 5) s1)) σ.heap 4 0 0 (MQ below (CtQ K (w0 K a s0 ++ w1 K (sh a 5) s1) (none) (w0 K a res ++ w1 K (sh a 5) s1)) args σ 0 0 (inW (w0 K a s0 ++ w1 K (sh a 5) s1))) (w0 K a ((s0.1, s0.2.1, z7.2.1, z7.2.2)) ++ w1 K (sh a 5) s1) 67 [some (.ref (a 0)), some (.ref (a 5)), some (.int z7.1), none] []) ?_ _ _ _ hz7 ?_
  · intro q3 x hf hk
    unfold fX0_weigh_L18 at hf
    refine Go_iload_n (pc := 18) C dX0_weigh_18 rfl ?_
    refine Go_bipush (pc := 19) (v := 96) C dX0_weigh_19 cb_96 ?_
    refine Go_icmp_ge (pc := 21) (tgt := 67) C dX0_weigh_21 (by decide) (fun hc => ?_) (fun hc => ?_)
    · replace hf := ift hc hf
      obtain rfl := Option.some.inj hf
      exact Go_mask [true, true, true, false] hk
    · replace hf := iff' hc hf
      refine Go_aload_n (pc := 24) C dX0_weigh_24 rfl ?_
      refine Go_get (pc := 25) C 0 0 rfl rfl inX0 (by decide) mw_138 rfl dX0_weigh_25 ?_
      refine Go_iload_n (pc := 28) C dX0_weigh_28 rfl ?_
      obtain ⟨hb, hf⟩ := ifs hf
      refine Go_iald (pc := 29) C 1 rfl (inb_in hb) dX0_weigh_29 ?_
      obtain ⟨v4, hv4, hf⟩ := bnd hf
      refine Go_topi (Option.some.inj hv4) ?_
      refine Go_istore_n (pc := 30) C dX0_weigh_30 (by decide) ?_
      refine Go_iload_n (pc := 31) C dX0_weigh_31 rfl ?_
      refine Go_iconst (pc := 32) (v := -1) C dX0_weigh_32 ci_m1 ?_
      refine Go_icmp_eq (pc := 33) (tgt := 61) C dX0_weigh_33 (by decide) (fun hc => ?_) (fun hc => ?_)
      · replace hf := ift hc hf
        obtain ⟨v5, hv5, hf⟩ := bnd hf
        refine Go_iinc (pc := 61) (v := v5) C dX0_weigh_61 rfl (by rw [ci_1]; exact Option.some.inj hv5) ?_
        refine Go_goto (pc := 64) (tgt := 18) C dX0_weigh_64 (by decide) ?_
        obtain rfl := Option.some.inj hf
        exact Go_mask [true, true, true, false] hk
      · replace hf := iff' hc hf
        refine Go_aload_n (pc := 36) C dX0_weigh_36 rfl ?_
        refine Go_get (pc := 37) C 0 2 rfl rfl inX0 (by decide) mw_141 rfl dX0_weigh_37 ?_
        refine Go_iload_n (pc := 40) C dX0_weigh_40 rfl ?_
        refine Go_dup2 (pc := 41) C dX0_weigh_41 rfl rfl ?_
        obtain ⟨hb, hf⟩ := ifs hf
        refine Go_iald (pc := 42) C 3 rfl (inb_in hb) dX0_weigh_42 ?_
        refine Go_aload_n (pc := 43) C dX0_weigh_43 rfl ?_
        refine Go_get (pc := 44) C 5 0 rfl rfl inX1 (by decide) mw_95 rfl dX0_weigh_44 ?_
        refine Go_iload_n (pc := 47) C dX0_weigh_47 rfl ?_
        obtain ⟨hb, hf⟩ := ifs hf
        refine Go_iald (pc := 48) C 6 rfl (inb_in hb) dX0_weigh_48 ?_
        refine Go_iadd (pc := 49) C dX0_weigh_49 ?_
        obtain ⟨hb, hf⟩ := ifs hf
        refine Go_iast (pc := 50) (ws1 := (w0 K a ((s0.1, s0.2.1, upd q3.2.1 v4.toNatClampNeg ((q3.2.1 v4.toNatClampNeg) + (s1.1 q3.1.toNatClampNeg)), q3.2.2)) ++ w1 K (sh a 5) s1)) C 3 rfl (inb_in hb) dX0_weigh_50 (ll_48 _ _ _ _ _) ?_
        refine Go_aload_n (pc := 51) C dX0_weigh_51 rfl ?_
        refine Go_get (pc := 52) C 0 3 rfl rfl inX0 (by decide) mw_143 rfl dX0_weigh_52 ?_
        refine Go_iload_n (pc := 55) C dX0_weigh_55 rfl ?_
        refine Go_dup2 (pc := 56) C dX0_weigh_56 rfl rfl ?_
        obtain ⟨hb, hf⟩ := ifs hf
        refine Go_iald (pc := 57) C 4 rfl (inb_in hb) dX0_weigh_57 ?_
        refine Go_iconst (pc := 58) (v := 1) C dX0_weigh_58 ci_1 ?_
        refine Go_iadd (pc := 59) C dX0_weigh_59 ?_
        obtain ⟨hb, hf⟩ := ifs hf
        refine Go_iast (pc := 60) (ws1 := (w0 K a ((s0.1, s0.2.1, upd q3.2.1 v4.toNatClampNeg ((q3.2.1 v4.toNatClampNeg) + (s1.1 q3.1.toNatClampNeg)), upd q3.2.2 v4.toNatClampNeg ((q3.2.2 v4.toNatClampNeg) + (1 : Int32)))) ++ w1 K (sh a 5) s1)) C 4 rfl (inb_in hb) dX0_weigh_60 (ll_49 _ _ _ _ _) ?_
        obtain ⟨v6, hv6, hf⟩ := bnd hf
        refine Go_iinc (pc := 61) (v := v6) C dX0_weigh_61 rfl (by rw [ci_1]; exact Option.some.inj hv6) ?_
        refine Go_goto (pc := 64) (tgt := 18) C dX0_weigh_64 (by decide) ?_
        obtain rfl := Option.some.inj hf
        exact Go_mask [true, true, true, false] hk
  · show Go _ _ _ _ _ _ _ _ _ _ _ _ _ _ _ _ _ _ _ _ _
    obtain rfl := Option.some.inj hf
    exact Go_vret C hr rfl dX0_weigh_67
theorem ll_50 (K : KK) (a : Nat → Nat) (t0 : S0) (t1 : S1) : ([1] : List Nat).map (fun i => (w0 K a t0 ++ w1 K (sh a 5) t1)[i]?) = List.map some (wA K (pk a [1]) 96 t0.1) := rfl
theorem ll_51 (K : KK) (a : Nat → Nat) (t0 : S0) (t1 : S1) (y0 : (Nat → Int32)) : Wr (w0 K a t0 ++ w1 K (sh a 5) t1) [1] (wA K (pk a [1]) 96 y0) (w0 K a ((y0, t0.2)) ++ w1 K (sh a 5) t1) := ⟨[0, 2, 3, 4, 5, 6, 7, 8, 9, 10], 11, rfl, (show List.map (fun i => (w0 K a ((y0, t0.2)) ++ w1 K (sh a 5) t1)[i]?) _ = ([some (a 0, .inr (0, [.ref (a 1), .ref (a 2), .ref (a 3), .ref (a 4)])), some (a 2, .inl (K.2.1, 96, .inl (t0.2.1))), some (a 3, .inl (K.2.1, 12, .inl (t0.2.2.1))), some (a 4, .inl (K.2.1, 12, .inl (t0.2.2.2))), some (a 5, .inr (1, [.ref (a 6), .ref (a 7), .ref (a 8), .ref (a 9), .ref (a 10), .int (t1.2.2.2.2.2)])), some (a 6, .inl (K.2.1, 96, .inl (t1.1))), some (a 7, .inl (K.2.1, 12, .inl (t1.2.1))), some (a 8, .inl (K.2.1, 12, .inl (t1.2.2.1))), some (a 9, .inl (K.2.1, 12, .inl (t1.2.2.2.1))), some (a 10, .inl (K.2.1, 21, .inl (t1.2.2.2.2.1)))] : List (Option (Nat × va_E))) from rfl).trans (show List.map (fun i => (w0 K a t0 ++ w1 K (sh a 5) t1)[i]?) _ = ([some (a 0, .inr (0, [.ref (a 1), .ref (a 2), .ref (a 3), .ref (a 4)])), some (a 2, .inl (K.2.1, 96, .inl (t0.2.1))), some (a 3, .inl (K.2.1, 12, .inl (t0.2.2.1))), some (a 4, .inl (K.2.1, 12, .inl (t0.2.2.2))), some (a 5, .inr (1, [.ref (a 6), .ref (a 7), .ref (a 8), .ref (a 9), .ref (a 10), .int (t1.2.2.2.2.2)])), some (a 6, .inl (K.2.1, 96, .inl (t1.1))), some (a 7, .inl (K.2.1, 12, .inl (t1.2.1))), some (a 8, .inl (K.2.1, 12, .inl (t1.2.2.1))), some (a 9, .inl (K.2.1, 12, .inl (t1.2.2.2.1))), some (a 10, .inl (K.2.1, 21, .inl (t1.2.2.2.2.1)))] : List (Option (Nat × va_E))) from rfl).symm, rfl, by decide⟩
theorem ll_52 (K : KK) (a : Nat → Nat) (t0 : S0) (t1 : S1) : ([2] : List Nat).map (fun i => (w0 K a t0 ++ w1 K (sh a 5) t1)[i]?) = List.map some (wA K (pk a [2]) 96 t0.2.1) := rfl
theorem ll_53 (K : KK) (a : Nat → Nat) (t0 : S0) (t1 : S1) (y0 : (Nat → Int32)) : Wr (w0 K a t0 ++ w1 K (sh a 5) t1) [2] (wA K (pk a [2]) 96 y0) (w0 K a ((t0.1, y0, t0.2.2)) ++ w1 K (sh a 5) t1) := ⟨[0, 1, 3, 4, 5, 6, 7, 8, 9, 10], 11, rfl, (show List.map (fun i => (w0 K a ((t0.1, y0, t0.2.2)) ++ w1 K (sh a 5) t1)[i]?) _ = ([some (a 0, .inr (0, [.ref (a 1), .ref (a 2), .ref (a 3), .ref (a 4)])), some (a 1, .inl (K.2.1, 96, .inl (t0.1))), some (a 3, .inl (K.2.1, 12, .inl (t0.2.2.1))), some (a 4, .inl (K.2.1, 12, .inl (t0.2.2.2))), some (a 5, .inr (1, [.ref (a 6), .ref (a 7), .ref (a 8), .ref (a 9), .ref (a 10), .int (t1.2.2.2.2.2)])), some (a 6, .inl (K.2.1, 96, .inl (t1.1))), some (a 7, .inl (K.2.1, 12, .inl (t1.2.1))), some (a 8, .inl (K.2.1, 12, .inl (t1.2.2.1))), some (a 9, .inl (K.2.1, 12, .inl (t1.2.2.2.1))), some (a 10, .inl (K.2.1, 21, .inl (t1.2.2.2.2.1)))] : List (Option (Nat × va_E))) from rfl).trans (show List.map (fun i => (w0 K a t0 ++ w1 K (sh a 5) t1)[i]?) _ = ([some (a 0, .inr (0, [.ref (a 1), .ref (a 2), .ref (a 3), .ref (a 4)])), some (a 1, .inl (K.2.1, 96, .inl (t0.1))), some (a 3, .inl (K.2.1, 12, .inl (t0.2.2.1))), some (a 4, .inl (K.2.1, 12, .inl (t0.2.2.2))), some (a 5, .inr (1, [.ref (a 6), .ref (a 7), .ref (a 8), .ref (a 9), .ref (a 10), .int (t1.2.2.2.2.2)])), some (a 6, .inl (K.2.1, 96, .inl (t1.1))), some (a 7, .inl (K.2.1, 12, .inl (t1.2.1))), some (a 8, .inl (K.2.1, 12, .inl (t1.2.2.1))), some (a 9, .inl (K.2.1, 12, .inl (t1.2.2.2.1))), some (a 10, .inl (K.2.1, 21, .inl (t1.2.2.2.2.1)))] : List (Option (Nat × va_E))) from rfl).symm, rfl, by decide⟩
theorem ll_54 (K : KK) (a : Nat → Nat) (t0 : S0) (t1 : S1) : ([0, 1, 2, 3, 4, 5, 6, 7, 8, 9, 10] : List Nat).map (fun i => (w0 K a t0 ++ w1 K (sh a 5) t1)[i]?) = List.map some (w0 K (pk a [0, 1, 2, 3, 4, 5, 6, 7, 8, 9, 10]) t0 ++ w1 K (sh (pk a [0, 1, 2, 3, 4, 5, 6, 7, 8, 9, 10]) 5) t1) := rfl
theorem ll_55 (K : KK) (a : Nat → Nat) (t0 : S0) (t1 : S1) (y0 : S0) : Wr (w0 K a t0 ++ w1 K (sh a 5) t1) [0, 1, 2, 3, 4, 5, 6, 7, 8, 9, 10] (w0 K (pk a [0, 1, 2, 3, 4, 5, 6, 7, 8, 9, 10]) y0 ++ w1 K (sh (pk a [0, 1, 2, 3, 4, 5, 6, 7, 8, 9, 10]) 5) t1) (w0 K a y0 ++ w1 K (sh a 5) t1) := ⟨[], 11, rfl, (show List.map (fun i => (w0 K a y0 ++ w1 K (sh a 5) t1)[i]?) _ = ([] : List (Option (Nat × va_E))) from rfl).trans (show List.map (fun i => (w0 K a t0 ++ w1 K (sh a 5) t1)[i]?) _ = ([] : List (Option (Nat × va_E))) from rfl).symm, rfl, by decide⟩
def fX0_lay_L19 (s1 : S1) (q3 : Int32 × S0) : Option ((Int32 × S0) ⊕ (Int32 × S0)) := (if s1.2.2.2.2.2 ≤ q3.1 then some (.inr (q3.1, q3.2)) else (if 0 ≤ q3.1 ∧ q3.1.toNatClampNeg < 12 then (if (s1.2.2.2.1 q3.1.toNatClampNeg) = (1 : Int32) then Option.bind (fX0_claim q3.2 s1 q3.1) (fun r4 => Option.bind (some (q3.1 + (1 : Int32))) (fun v5 => some (.inl (v5, r4)))) else Option.bind (some (q3.1 + (1 : Int32))) (fun v6 => some (.inl (v6, q3.2)))) else none))
def fX0_lay (s0 : S0) (s1 : S1) : Option (S0) := Option.bind (fJ7_fill_53178 96 s0.1 (-1 : Int32)) (fun r1 => Option.bind (fJ7_fill_53178 96 s0.2.1 (100 : Int32)) (fun r2 => Option.bind (loopF (fX0_lay_L19 s1) 5000 ((0 : Int32), (r1, r2, s0.2.2))) (fun z7 => Option.bind (fX0_weigh z7.2 s1) (fun r8 => some r8))))
theorem ycX0_lay : CalV yX0_lay cX0_lay 3 none 1 := ⟨mw_353, mw_64, mw_351, mw_352, ⟨by decide, by decide, by decide +kernel⟩, by decide⟩
set_option maxHeartbeats 4000000 in
set_option maxRecDepth 100000 in
theorem kX0_lay (l : Launch) (K : KK) (a : Nat → Nat) (s0 : S0) (s1 : S1) (res : S0) (hf : fX0_lay s0 s1 = some res) : Ct l K yX0_lay cX0_lay 3 none 2 [.ref (a 0), .ref (a 5)] (w0 K a s0 ++ w1 K (sh a 5) s1) (none) (w0 K a res ++ w1 K (sh a 5) s1) := by
  refine Ct_of2 (by decide) rfl (Nat.le_of_ble_eq_true rfl) ?_
  intro p e σ m args below meth c C hr
  unfold fX0_lay at hf
  refine Go_aload_n (pc := 0) C dX0_lay_0 rfl ?_
  refine Go_get (pc := 1) C 0 0 rfl rfl inX0 (by decide) mw_138 rfl dX0_lay_1 ?_
  refine Go_iconst (pc := 4) (v := -1) C dX0_lay_4 ci_m1 ?_
  obtain ⟨r1, hr1, hf⟩ := bnd hf
  refine Go_callS0 (pc := 5) (ws1 := (w0 K a ((r1, s0.2)) ++ w1 K (sh a 5) s1)) C [1] (kJ7_fill_53178 l K (pk a [1]) 96 s0.1 (-1 : Int32) r1 hr1) ycJ7_fill_53178 mw_354 (Nat.le_of_ble_eq_true rfl) rfl rfl (Nat.le_of_ble_eq_true rfl) ⟨Nat.zero_le _, Nat.zero_le _⟩ dX0_lay_5 (ll_50 _ _ _ _) rfl rfl (ll_51 _ _ _ _ _) ?_
  refine Go_aload_n (pc := 8) C dX0_lay_8 rfl ?_
  refine Go_get (pc := 9) C 0 1 rfl rfl inX0 (by decide) mw_140 rfl dX0_lay_9 ?_
  refine Go_bipush (pc := 12) (v := 100) C dX0_lay_12 cb_100 ?_
  obtain ⟨r2, hr2, hf⟩ := bnd hf
  refine Go_callS0 (pc := 14) (ws1 := (w0 K a ((r1, r2, s0.2.2)) ++ w1 K (sh a 5) s1)) C [2] (kJ7_fill_53178 l K (pk a [2]) 96 s0.2.1 (100 : Int32) r2 hr2) ycJ7_fill_53178 mw_354 (Nat.le_of_ble_eq_true rfl) rfl rfl (Nat.le_of_ble_eq_true rfl) ⟨Nat.zero_le _, Nat.zero_le _⟩ dX0_lay_14 (ll_52 _ _ _ _) rfl rfl (ll_53 _ _ _ _ _) ?_
  refine Go_iconst (pc := 17) (v := 0) C dX0_lay_17 ci_0 ?_
  refine Go_istore_n (pc := 18) C dX0_lay_18 (by decide) ?_
  obtain ⟨z7, hz7, hf⟩ := bnd hf
  refine Go_mask [true, true, true] ?_
  refine loopF_go (step := (fX0_lay_L19 s1)) (fun q3 => Go p l e (rmc 2 0 0) σ m args below meth c K (inW (w0 K a s0 ++ w1 K (sh a 5) s1)) σ.heap 3 0 0 (MQ below (CtQ K (w0 K a s0 ++ w1 K (sh a 5) s1) (none) (w0 K a res ++ w1 K (sh a 5) s1)) args σ 0 0 (inW (w0 K a s0 ++ w1 K (sh a 5) s1))) (w0 K a q3.2 ++ w1 K (sh a 5) s1) 19 [some (.ref (a 0)), some (.ref (a 5)), some (.int q3.1)] []) (fun z7 => Go p l e (rmc 2 0 0) σ m args below meth c K (inW (w0 K a s0 ++ w1 K (sh a 5) s1)) σ.heap 3 0 0 (MQ below (CtQ K (w0 K a s0 ++ w1 K (sh a 5) s1) (none) (w0 K a res ++ w1 K (sh a 5) s1)) args σ 0 0 (inW (w0 K a s0 ++ w1 K (sh a 5) s1))) (w0 K a z7.2 ++ w1 K (sh a 5) s1) 49 [some (.ref (a 0)), some (.ref (a 5)), some (.int z7.1)] []) ?_ _ _ _ hz7 ?_
  · intro q3 x hf hk
    unfold fX0_lay_L19 at hf
    refine Go_iload_n (pc := 19) C dX0_lay_19 rfl ?_
    refine Go_aload_n (pc := 20) C dX0_lay_20 rfl ?_
    refine Go_get (pc := 21) C 5 5 rfl rfl inX1 (by decide) mw_114 rfl dX0_lay_21 ?_
    refine Go_icmp_ge (pc := 24) (tgt := 49) C dX0_lay_24 (by decide) (fun hc => ?_) (fun hc => ?_)
    · replace hf := ift hc hf
      obtain rfl := Option.some.inj hf
      exact Go_mask [true, true, true] hk
    · replace hf := iff' hc hf
      refine Go_aload_n (pc := 27) C dX0_lay_27 rfl ?_
      refine Go_get (pc := 28) C 5 3 rfl rfl inX1 (by decide) mw_104 rfl dX0_lay_28 ?_
      refine Go_iload_n (pc := 31) C dX0_lay_31 rfl ?_
      obtain ⟨hb, hf⟩ := ifs hf
      refine Go_iald (pc := 32) C 9 rfl (inb_in hb) dX0_lay_32 ?_
      refine Go_iconst (pc := 33) (v := 1) C dX0_lay_33 ci_1 ?_
      refine Go_icmp_ne (pc := 34) (tgt := 43) C dX0_lay_34 (by decide) (fun hc => ?_) (fun hc => ?_)
      · replace hf := ift hc hf
        refine Go_aload_n (pc := 37) C dX0_lay_37 rfl ?_
        refine Go_aload_n (pc := 38) C dX0_lay_38 rfl ?_
        refine Go_iload_n (pc := 39) C dX0_lay_39 rfl ?_
        obtain ⟨r4, hr4, hf⟩ := bnd hf
        refine Go_callV0 (pc := 40) (ws1 := (w0 K a r4 ++ w1 K (sh a 5) s1)) C 0 [0, 1, 2, 3, 4, 5, 6, 7, 8, 9, 10] (kX0_claim l K (pk a [0, 1, 2, 3, 4, 5, 6, 7, 8, 9, 10]) q3.2 s1 q3.1 r4 hr4) ycX0_claim mw_355 (Nat.le_of_ble_eq_true rfl) rfl rfl rfl rfl (Nat.le_of_ble_eq_true rfl) ⟨Nat.zero_le _, Nat.zero_le _⟩ dX0_lay_40 (ll_54 _ _ _ _) rfl rfl (ll_55 _ _ _ _ _) ?_
        obtain ⟨v5, hv5, hf⟩ := bnd hf
        refine Go_iinc (pc := 43) (v := v5) C dX0_lay_43 rfl (by rw [ci_1]; exact Option.some.inj hv5) ?_
        refine Go_goto (pc := 46) (tgt := 19) C dX0_lay_46 (by decide) ?_
        obtain rfl := Option.some.inj hf
        exact Go_mask [true, true, true] hk
      · replace hf := iff' hc hf
        obtain ⟨v6, hv6, hf⟩ := bnd hf
        refine Go_iinc (pc := 43) (v := v6) C dX0_lay_43 rfl (by rw [ci_1]; exact Option.some.inj hv6) ?_
        refine Go_goto (pc := 46) (tgt := 19) C dX0_lay_46 (by decide) ?_
        obtain rfl := Option.some.inj hf
        exact Go_mask [true, true, true] hk
  · show Go _ _ _ _ _ _ _ _ _ _ _ _ _ _ _ _ _ _ _ _ _
    refine Go_aload_n (pc := 49) C dX0_lay_49 rfl ?_
    refine Go_aload_n (pc := 50) C dX0_lay_50 rfl ?_
    obtain ⟨r8, hr8, hf⟩ := bnd hf
    refine Go_callV0 (pc := 51) (ws1 := (w0 K a r8 ++ w1 K (sh a 5) s1)) C 0 [0, 1, 2, 3, 4, 5, 6, 7, 8, 9, 10] (kX0_weigh l K (pk a [0, 1, 2, 3, 4, 5, 6, 7, 8, 9, 10]) z7.2 s1 r8 hr8) ycX0_weigh mw_370 (Nat.le_of_ble_eq_true rfl) rfl rfl rfl rfl (Nat.le_of_ble_eq_true rfl) ⟨Nat.zero_le _, Nat.zero_le _⟩ dX0_lay_51 (ll_54 _ _ _ _) rfl rfl (ll_55 _ _ _ _ _) ?_
    obtain rfl := Option.some.inj hf
    exact Go_vret C hr rfl dX0_lay_54
def fX0_isTooMuch (s0 : S0) (s1 : S1) (p2 : Int32) : Option (Int32) := (if 0 ≤ p2 ∧ p2.toNatClampNeg < 12 then (if (s1.2.2.2.1 p2.toNatClampNeg) = (1 : Int32) then (if 0 ≤ p2 ∧ p2.toNatClampNeg < 12 then (if 0 ≤ p2 ∧ p2.toNatClampNeg < 12 then (if (s0.2.2.1 p2.toNatClampNeg) ≤ (s1.2.2.1 p2.toNatClampNeg) then some (0 : Int32) else some (1 : Int32)) else none) else none) else some (0 : Int32)) else none)
theorem ycX0_isTooMuch : CalV yX0_isTooMuch cX0_isTooMuch 3 ((some .boolean)) 2 := ⟨mw_402, mw_64, mw_400, mw_401, ⟨by decide, by decide, by decide +kernel⟩, by decide⟩
set_option maxHeartbeats 4000000 in
set_option maxRecDepth 100000 in
theorem kX0_isTooMuch (l : Launch) (K : KK) (a : Nat → Nat) (s0 : S0) (s1 : S1) (p2 : Int32) (res : Int32) (hf : fX0_isTooMuch s0 s1 p2 = some res) : Ct l K yX0_isTooMuch cX0_isTooMuch 3 ((some .boolean)) 0 [.ref (a 0), .ref (a 5), .int p2] (w0 K a s0 ++ w1 K (sh a 5) s1) (some (.int res)) (w0 K a s0 ++ w1 K (sh a 5) s1) := by
  refine Ct_of2 (by decide) rfl (Nat.le_of_ble_eq_true rfl) ?_
  intro p e σ m args below meth c C hr
  unfold fX0_isTooMuch at hf
  refine Go_aload_n (pc := 0) C dX0_isTooMuch_0 rfl ?_
  refine Go_get (pc := 1) C 5 3 rfl rfl inX1 (by decide) mw_104 rfl dX0_isTooMuch_1 ?_
  refine Go_iload_n (pc := 4) C dX0_isTooMuch_4 rfl ?_
  obtain ⟨hb, hf⟩ := ifs hf
  refine Go_iald (pc := 5) C 9 rfl (inb_in hb) dX0_isTooMuch_5 ?_
  refine Go_iconst (pc := 6) (v := 1) C dX0_isTooMuch_6 ci_1 ?_
  refine Go_icmp_ne (pc := 7) (tgt := 29) C dX0_isTooMuch_7 (by decide) (fun hc => ?_) (fun hc => ?_)
  · replace hf := ift hc hf
    refine Go_aload_n (pc := 10) C dX0_isTooMuch_10 rfl ?_
    refine Go_get (pc := 11) C 0 2 rfl rfl inX0 (by decide) mw_141 rfl dX0_isTooMuch_11 ?_
    refine Go_iload_n (pc := 14) C dX0_isTooMuch_14 rfl ?_
    obtain ⟨hb, hf⟩ := ifs hf
    refine Go_iald (pc := 15) C 3 rfl (inb_in hb) dX0_isTooMuch_15 ?_
    refine Go_aload_n (pc := 16) C dX0_isTooMuch_16 rfl ?_
    refine Go_get (pc := 17) C 5 2 rfl rfl inX1 (by decide) mw_101 rfl dX0_isTooMuch_17 ?_
    refine Go_iload_n (pc := 20) C dX0_isTooMuch_20 rfl ?_
    obtain ⟨hb, hf⟩ := ifs hf
    refine Go_iald (pc := 21) C 8 rfl (inb_in hb) dX0_isTooMuch_21 ?_
    refine Go_icmp_le (pc := 22) (tgt := 29) C dX0_isTooMuch_22 (by decide) (fun hc => ?_) (fun hc => ?_)
    · replace hf := ift hc hf
      refine Go_iconst (pc := 29) (v := 0) C dX0_isTooMuch_29 ci_0 ?_
      obtain rfl := Option.some.inj hf
      exact Go_zret C hr (Or.inl rfl) rfl dX0_isTooMuch_30
    · replace hf := iff' hc hf
      refine Go_iconst (pc := 25) (v := 1) C dX0_isTooMuch_25 ci_1 ?_
      refine Go_goto (pc := 26) (tgt := 30) C dX0_isTooMuch_26 (by decide) ?_
      obtain rfl := Option.some.inj hf
      exact Go_zret C hr (Or.inr rfl) rfl dX0_isTooMuch_30
  · replace hf := iff' hc hf
    refine Go_iconst (pc := 29) (v := 0) C dX0_isTooMuch_29 ci_0 ?_
    obtain rfl := Option.some.inj hf
    exact Go_zret C hr (Or.inl rfl) rfl dX0_isTooMuch_30
def fX0_countTooMuch_L4 (s0 : S0) (s1 : S1) (q1 : Int32 × Int32) : Option ((Int32 × Int32) ⊕ (Int32 × Int32)) := (if s1.2.2.2.2.2 ≤ q1.2 then some (.inr (q1.1, q1.2)) else Option.bind (fX0_isTooMuch s0 s1 q1.2) (fun r2 => (if r2 = 0 then Option.bind (some (q1.2 + (1 : Int32))) (fun v3 => some (.inl (q1.1, v3))) else Option.bind (some (q1.1 + (1 : Int32))) (fun v4 => Option.bind (some (q1.2 + (1 : Int32))) (fun v5 => some (.inl (v4, v5)))))))
def fX0_countTooMuch (s0 : S0) (s1 : S1) : Option (Int32) := Option.bind (loopF (fX0_countTooMuch_L4 s0 s1) 5000 ((0 : Int32), (0 : Int32))) (fun z6 => some z6.1)
theorem ycX0_countTooMuch : CalV yX0_countTooMuch cX0_countTooMuch 4 ((some .int)) 1 := ⟨mw_398, mw_64, mw_396, mw_397, ⟨by decide, by decide, by decide +kernel⟩, by decide⟩
set_option maxHeartbeats 4000000 in
set_option maxRecDepth 100000 in
theorem kX0_countTooMuch (l : Launch) (K : KK) (a : Nat → Nat) (s0 : S0) (s1 : S1) (res : Int32) (hf : fX0_countTooMuch s0 s1 = some res) : Ct l K yX0_countTooMuch cX0_countTooMuch 4 ((some .int)) 1 [.ref (a 0), .ref (a 5)] (w0 K a s0 ++ w1 K (sh a 5) s1) (some (.int res)) (w0 K a s0 ++ w1 K (sh a 5) s1) := by
  refine Ct_of2 (by decide) rfl (Nat.le_of_ble_eq_true rfl) ?_
  intro p e σ m args below meth c C hr
  unfold fX0_countTooMuch at hf
  refine Go_iconst (pc := 0) (v := 0) C dX0_countTooMuch_0 ci_0 ?_
  refine Go_istore_n (pc := 1) C dX0_countTooMuch_1 (by decide) ?_
  refine Go_iconst (pc := 2) (v := 0) C dX0_countTooMuch_2 ci_0 ?_
  refine Go_istore_n (pc := 3) C dX0_countTooMuch_3 (by decide) ?_
  obtain ⟨z6, hz6, hf⟩ := bnd hf
  refine Go_mask [true, true, true, true] ?_
  refine loopF_go (step := (fX0_countTooMuch_L4 s0 s1)) (fun q1 => Go p l e (rmc 1 0 0) σ m args below meth c K (inW (w0 K a s0 ++ w1 K (sh a 5) s1)) σ.heap 4 0 0 (MQ below (CtQ K (w0 K a s0 ++ w1 K (sh a 5) s1) (some (.int res)) (w0 K a s0 ++ w1 K (sh a 5) s1)) args σ 0 0 (inW (w0 K a s0 ++ w1 K (sh a 5) s1))) (w0 K a s0 ++ w1 K (sh a 5) s1) 4 [some (.ref (a 0)), some (.ref (a 5)), some (.int q1.1), some (.int q1.2)] []) (fun z6 => Go p l e (rmc 1 0 0) σ m args below meth c K (inW (w0 K a s0 ++ w1 K (sh a 5) s1)) σ.heap 4 0 0 (MQ below (CtQ K (w0 K a s0 ++ w1 K (sh a 5) s1) (some (.int res)) (w0 K a s0 ++ w1 K (sh a 5) s1)) args σ 0 0 (inW (w0 K a s0 ++ w1 K (sh a 5) s1))) (w0 K a s0 ++ w1 K (sh a 5) s1) 30 [some (.ref (a 0)), some (.ref (a 5)), some (.int z6.1), some (.int z6.2)] []) ?_ _ _ _ hz6 ?_
  · intro q1 x hf hk
    unfold fX0_countTooMuch_L4 at hf
    refine Go_iload_n (pc := 4) C dX0_countTooMuch_4 rfl ?_
    refine Go_aload_n (pc := 5) C dX0_countTooMuch_5 rfl ?_
    refine Go_get (pc := 6) C 5 5 rfl rfl inX1 (by decide) mw_114 rfl dX0_countTooMuch_6 ?_
    refine Go_icmp_ge (pc := 9) (tgt := 30) C dX0_countTooMuch_9 (by decide) (fun hc => ?_) (fun hc => ?_)
    · replace hf := ift hc hf
      obtain rfl := Option.some.inj hf
      exact Go_mask [true, true, true, true] hk
    · replace hf := iff' hc hf
      refine Go_aload_n (pc := 12) C dX0_countTooMuch_12 rfl ?_
      refine Go_aload_n (pc := 13) C dX0_countTooMuch_13 rfl ?_
      refine Go_iload_n (pc := 14) C dX0_countTooMuch_14 rfl ?_
      obtain ⟨r2, hr2, hf⟩ := bnd hf
      refine Go_callV1 (pc := 15) (ws1 := (w0 K a s0 ++ w1 K (sh a 5) s1)) C 0 [0, 1, 2, 3, 4, 5, 6, 7, 8, 9, 10] (kX0_isTooMuch l K (pk a [0, 1, 2, 3, 4, 5, 6, 7, 8, 9, 10]) s0 s1 q1.2 r2 hr2) ycX0_isTooMuch mw_399 (Nat.le_of_ble_eq_true rfl) rfl rfl rfl rfl (Nat.le_of_ble_eq_true rfl) ⟨Nat.zero_le _, Nat.zero_le _⟩ dX0_countTooMuch_15 (ll_54 _ _ _ _) rfl rfl (Wr_same (ll_54 _ _ _ _)) ?_
      refine Go_if_eq (pc := 18) (tgt := 24) C dX0_countTooMuch_18 (by decide) (fun hc => ?_) (fun hc => ?_)
      · replace hf := ift hc hf
        obtain ⟨v3, hv3, hf⟩ := bnd hf
        refine Go_iinc (pc := 24) (v := v3) C dX0_countTooMuch_24 rfl (by rw [ci_1]; exact Option.some.inj hv3) ?_
        refine Go_goto (pc := 27) (tgt := 4) C dX0_countTooMuch_27 (by decide) ?_
        obtain rfl := Option.some.inj hf
        exact Go_mask [true, true, true, true] hk
      · replace hf := iff' hc hf
        obtain ⟨v4, hv4, hf⟩ := bnd hf
        refine Go_iinc (pc := 21) (v := v4) C dX0_countTooMuch_21 rfl (by rw [ci_1]; exact Option.some.inj hv4) ?_
        obtain ⟨v5, hv5, hf⟩ := bnd hf
        refine Go_iinc (pc := 24) (v := v5) C dX0_countTooMuch_24 rfl (by rw [ci_1]; exact Option.some.inj hv5) ?_
        refine Go_goto (pc := 27) (tgt := 4) C dX0_countTooMuch_27 (by decide) ?_
        obtain rfl := Option.some.inj hf
        exact Go_mask [true, true, true, true] hk
  · show Go _ _ _ _ _ _ _ _ _ _ _ _ _ _ _ _ _ _ _ _ _
    refine Go_iload_n (pc := 30) C dX0_countTooMuch_30 rfl ?_
    obtain rfl := Option.some.inj hf
    exact Go_iret C hr rfl dX0_countTooMuch_31
def fX0_countFallen_L4 (s0 : S0) (q1 : Int32 × Int32) : Option ((Int32 × Int32) ⊕ (Int32 × Int32)) := (if (96 : Int32) ≤ q1.2 then some (.inr (q1.1, q1.2)) else (if 0 ≤ q1.2 ∧ q1.2.toNatClampNeg < 96 then (if (s0.1 q1.2.toNatClampNeg) = (-1 : Int32) then Option.bind (some (q1.1 + (1 : Int32))) (fun v2 => Option.bind (some (q1.2 + (1 : Int32))) (fun v3 => some (.inl (v2, v3)))) else Option.bind (some (q1.2 + (1 : Int32))) (fun v4 => some (.inl (q1.1, v4)))) else none))
def fX0_countFallen (s0 : S0) : Option (Int32) := Option.bind (loopF (fX0_countFallen_L4 s0) 5000 ((0 : Int32), (0 : Int32))) (fun z5 => some z5.1)
theorem ycX0_countFallen : CalV yX0_countFallen cX0_countFallen 3 ((some .int)) 0 := ⟨mw_406, mw_64, mw_404, mw_405, ⟨by decide, by decide, by decide +kernel⟩, by decide⟩
set_option maxHeartbeats 4000000 in
set_option maxRecDepth 100000 in
theorem kX0_countFallen (l : Launch) (K : KK) (a : Nat → Nat) (s0 : S0) (res : Int32) (hf : fX0_countFallen s0 = some res) : Ct l K yX0_countFallen cX0_countFallen 3 ((some .int)) 0 [.ref (a 0)] (w0 K a s0) (some (.int res)) (w0 K a s0) := by
  refine Ct_of2 (by decide) rfl (Nat.le_of_ble_eq_true rfl) ?_
  intro p e σ m args below meth c C hr
  unfold fX0_countFallen at hf
  refine Go_iconst (pc := 0) (v := 0) C dX0_countFallen_0 ci_0 ?_
  refine Go_istore_n (pc := 1) C dX0_countFallen_1 (by decide) ?_
  refine Go_iconst (pc := 2) (v := 0) C dX0_countFallen_2 ci_0 ?_
  refine Go_istore_n (pc := 3) C dX0_countFallen_3 (by decide) ?_
  obtain ⟨z5, hz5, hf⟩ := bnd hf
  refine Go_mask [true, true, true] ?_
  refine loopF_go (step := (fX0_countFallen_L4 s0)) (fun q1 => Go p l e (rmc 0 0 0) σ m args below meth c K (inW (w0 K a s0)) σ.heap 3 0 0 (MQ below (CtQ K (w0 K a s0) (some (.int res)) (w0 K a s0)) args σ 0 0 (inW (w0 K a s0))) (w0 K a s0) 4 [some (.ref (a 0)), some (.int q1.1), some (.int q1.2)] []) (fun z5 => Go p l e (rmc 0 0 0) σ m args below meth c K (inW (w0 K a s0)) σ.heap 3 0 0 (MQ below (CtQ K (w0 K a s0) (some (.int res)) (w0 K a s0)) args σ 0 0 (inW (w0 K a s0))) (w0 K a s0) 29 [some (.ref (a 0)), some (.int z5.1), some (.int z5.2)] []) ?_ _ _ _ hz5 ?_
  · intro q1 x hf hk
    unfold fX0_countFallen_L4 at hf
    refine Go_iload_n (pc := 4) C dX0_countFallen_4 rfl ?_
    refine Go_bipush (pc := 5) (v := 96) C dX0_countFallen_5 cb_96 ?_
    refine Go_icmp_ge (pc := 7) (tgt := 29) C dX0_countFallen_7 (by decide) (fun hc => ?_) (fun hc => ?_)
    · replace hf := ift hc hf
      obtain rfl := Option.some.inj hf
      exact Go_mask [true, true, true] hk
    · replace hf := iff' hc hf
      refine Go_aload_n (pc := 10) C dX0_countFallen_10 rfl ?_
      refine Go_get (pc := 11) C 0 0 rfl rfl inX0 (by decide) mw_138 rfl dX0_countFallen_11 ?_
      refine Go_iload_n (pc := 14) C dX0_countFallen_14 rfl ?_
      obtain ⟨hb, hf⟩ := ifs hf
      refine Go_iald (pc := 15) C 1 rfl (inb_in hb) dX0_countFallen_15 ?_
      refine Go_iconst (pc := 16) (v := -1) C dX0_countFallen_16 ci_m1 ?_
      refine Go_icmp_ne (pc := 17) (tgt := 23) C dX0_countFallen_17 (by decide) (fun hc => ?_) (fun hc => ?_)
      · replace hf := ift hc hf
        obtain ⟨v2, hv2, hf⟩ := bnd hf
        refine Go_iinc (pc := 20) (v := v2) C dX0_countFallen_20 rfl (by rw [ci_1]; exact Option.some.inj hv2) ?_
        obtain ⟨v3, hv3, hf⟩ := bnd hf
        refine Go_iinc (pc := 23) (v := v3) C dX0_countFallen_23 rfl (by rw [ci_1]; exact Option.some.inj hv3) ?_
        refine Go_goto (pc := 26) (tgt := 4) C dX0_countFallen_26 (by decide) ?_
        obtain rfl := Option.some.inj hf
        exact Go_mask [true, true, true] hk
      · replace hf := iff' hc hf
        obtain ⟨v4, hv4, hf⟩ := bnd hf
        refine Go_iinc (pc := 23) (v := v4) C dX0_countFallen_23 rfl (by rw [ci_1]; exact Option.some.inj hv4) ?_
        refine Go_goto (pc := 26) (tgt := 4) C dX0_countFallen_26 (by decide) ?_
        obtain rfl := Option.some.inj hf
        exact Go_mask [true, true, true] hk
  · show Go _ _ _ _ _ _ _ _ _ _ _ _ _ _ _ _ _ _ _ _ _
    refine Go_iload_n (pc := 29) C dX0_countFallen_29 rfl ?_
    obtain rfl := Option.some.inj hf
    exact Go_iret C hr rfl dX0_countFallen_30
def fX0_weighFallen_L4 (s0 : S0) (s1 : S1) (q1 : Int32 × Int32) : Option ((Int32 × Int32) ⊕ (Int32 × Int32)) := (if (96 : Int32) ≤ q1.2 then some (.inr (q1.1, q1.2)) else (if 0 ≤ q1.2 ∧ q1.2.toNatClampNeg < 96 then (if (s0.1 q1.2.toNatClampNeg) = (-1 : Int32) then (if 0 ≤ q1.2 ∧ q1.2.toNatClampNeg < 96 then Option.bind (some (q1.1 + (s1.1 q1.2.toNatClampNeg))) (fun v2 => Option.bind (some (q1.2 + (1 : Int32))) (fun v3 => some (.inl (v2, v3)))) else none) else Option.bind (some (q1.2 + (1 : Int32))) (fun v4 => some (.inl (q1.1, v4)))) else none))
def fX0_weighFallen (s0 : S0) (s1 : S1) : Option (Int32) := Option.bind (loopF (fX0_weighFallen_L4 s0 s1) 5000 ((0 : Int32), (0 : Int32))) (fun z5 => some z5.1)
theorem ycX0_weighFallen : CalV yX0_weighFallen cX0_weighFallen 4 ((some .int)) 1 := ⟨mw_410, mw_64, mw_408, mw_409, ⟨by decide, by decide, by decide +kernel⟩, by decide⟩
set_option maxHeartbeats 4000000 in
set_option maxRecDepth 100000 in
theorem kX0_weighFallen (l : Launch) (K : KK) (a : Nat → Nat) (s0 : S0) (s1 : S1) (res : Int32) (hf : fX0_weighFallen s0 s1 = some res) : Ct l K yX0_weighFallen cX0_weighFallen 4 ((some .int)) 0 [.ref (a 0), .ref (a 5)] (w0 K a s0 ++ w1 K (sh a 5) s1) (some (.int res)) (w0 K a s0 ++ w1 K (sh a 5) s1) := by
  refine Ct_of2 (by decide) rfl (Nat.le_of_ble_eq_true rfl) ?_
  intro p e σ m args below meth c C hr
  unfold fX0_weighFallen at hf
  refine Go_iconst (pc := 0) (v := 0) C dX0_weighFallen_0 ci_0 ?_
  refine Go_istore_n (pc := 1) C dX0_weighFallen_1 (by decide) ?_
  refine Go_iconst (pc := 2) (v := 0) C dX0_weighFallen_2 ci_0 ?_
  refine Go_istore_n (pc := 3) C dX0_weighFallen_3 (by decide) ?_
  obtain ⟨z5, hz5, hf⟩ := bnd hf
  refine Go_mask [true, true, true, true] ?_
  refine loopF_go (step := (fX0_weighFallen_L4 s0 s1)) (fun q1 => Go p l e (rmc 0 0 0) σ m args below meth c K (inW (w0 K a s0 ++ w1 K (sh a 5) s1)) σ.heap 4 0 0 (MQ below (CtQ K (w0 K a s0 ++ w1 K (sh a 5) s1) (some (.int res)) (w0 K a s0 ++ w1 K (sh a 5) s1)) args σ 0 0 (inW (w0 K a s0 ++ w1 K (sh a 5) s1))) (w0 K a s0 ++ w1 K (sh a 5) s1) 4 [some (.ref (a 0)), some (.ref (a 5)), some (.int q1.1), some (.int q1.2)] []) (fun z5 => Go p l e (rmc 0 0 0) σ m args below meth c K (inW (w0 K a s0 ++ w1 K (sh a 5) s1)) σ.heap 4 0 0 (MQ below (CtQ K (w0 K a s0 ++ w1 K (sh a 5) s1) (some (.int res)) (w0 K a s0 ++ w1 K (sh a 5) s1)) args σ 0 0 (inW (w0 K a s0 ++ w1 K (sh a 5) s1))) (w0 K a s0 ++ w1 K (sh a 5) s1) 35 [some (.ref (a 0)), some (.ref (a 5)), some (.int z5.1), some (.int z5.2)] []) ?_ _ _ _ hz5 ?_
  · intro q1 x hf hk
    unfold fX0_weighFallen_L4 at hf
    refine Go_iload_n (pc := 4) C dX0_weighFallen_4 rfl ?_
    refine Go_bipush (pc := 5) (v := 96) C dX0_weighFallen_5 cb_96 ?_
    refine Go_icmp_ge (pc := 7) (tgt := 35) C dX0_weighFallen_7 (by decide) (fun hc => ?_) (fun hc => ?_)
    · replace hf := ift hc hf
      obtain rfl := Option.some.inj hf
      exact Go_mask [true, true, true, true] hk
    · replace hf := iff' hc hf
      refine Go_aload_n (pc := 10) C dX0_weighFallen_10 rfl ?_
      refine Go_get (pc := 11) C 0 0 rfl rfl inX0 (by decide) mw_138 rfl dX0_weighFallen_11 ?_
      refine Go_iload_n (pc := 14) C dX0_weighFallen_14 rfl ?_
      obtain ⟨hb, hf⟩ := ifs hf
      refine Go_iald (pc := 15) C 1 rfl (inb_in hb) dX0_weighFallen_15 ?_
      refine Go_iconst (pc := 16) (v := -1) C dX0_weighFallen_16 ci_m1 ?_
      refine Go_icmp_ne (pc := 17) (tgt := 29) C dX0_weighFallen_17 (by decide) (fun hc => ?_) (fun hc => ?_)
      · replace hf := ift hc hf
        refine Go_iload_n (pc := 20) C dX0_weighFallen_20 rfl ?_
        refine Go_aload_n (pc := 21) C dX0_weighFallen_21 rfl ?_
        refine Go_get (pc := 22) C 5 0 rfl rfl inX1 (by decide) mw_95 rfl dX0_weighFallen_22 ?_
        refine Go_iload_n (pc := 25) C dX0_weighFallen_25 rfl ?_
        obtain ⟨hb, hf⟩ := ifs hf
        refine Go_iald (pc := 26) C 6 rfl (inb_in hb) dX0_weighFallen_26 ?_
        refine Go_iadd (pc := 27) C dX0_weighFallen_27 ?_
        obtain ⟨v2, hv2, hf⟩ := bnd hf
        refine Go_topi (Option.some.inj hv2) ?_
        refine Go_istore_n (pc := 28) C dX0_weighFallen_28 (by decide) ?_
        obtain ⟨v3, hv3, hf⟩ := bnd hf
        refine Go_iinc (pc := 29) (v := v3) C dX0_weighFallen_29 rfl (by rw [ci_1]; exact Option.some.inj hv3) ?_
        refine Go_goto (pc := 32) (tgt := 4) C dX0_weighFallen_32 (by decide) ?_
        obtain rfl := Option.some.inj hf
        exact Go_mask [true, true, true, true] hk
      · replace hf := iff' hc hf
        obtain ⟨v4, hv4, hf⟩ := bnd hf
        refine Go_iinc (pc := 29) (v := v4) C dX0_weighFallen_29 rfl (by rw [ci_1]; exact Option.some.inj hv4) ?_
        refine Go_goto (pc := 32) (tgt := 4) C dX0_weighFallen_32 (by decide) ?_
        obtain rfl := Option.some.inj hf
        exact Go_mask [true, true, true, true] hk
  · show Go _ _ _ _ _ _ _ _ _ _ _ _ _ _ _ _ _ _ _ _ _
    refine Go_iload_n (pc := 35) C dX0_weighFallen_35 rfl ?_
    obtain rfl := Option.some.inj hf
    exact Go_iret C hr rfl dX0_weighFallen_36
def fX0_countHeldRooms_L4 (s0 : S0) (s1 : S1) (q1 : Int32 × Int32) : Option ((Int32 × Int32) ⊕ (Int32 × Int32)) := (if (96 : Int32) ≤ q1.2 then some (.inr (q1.1, q1.2)) else (if 0 ≤ q1.2 ∧ q1.2.toNatClampNeg < 96 then (if (s0.1 q1.2.toNatClampNeg) = (-1 : Int32) then Option.bind (some (q1.2 + (1 : Int32))) (fun v2 => some (.inl (q1.1, v2))) else Option.bind (fX1_startsRoom s1 q1.2) (fun r3 => (if r3 = 0 then Option.bind (some (q1.2 + (1 : Int32))) (fun v4 => some (.inl (q1.1, v4))) else Option.bind (some (q1.1 + (1 : Int32))) (fun v5 => Option.bind (some (q1.2 + (1 : Int32))) (fun v6 => some (.inl (v5, v6))))))) else none))
def fX0_countHeldRooms (s0 : S0) (s1 : S1) : Option (Int32) := Option.bind (loopF (fX0_countHeldRooms_L4 s0 s1) 5000 ((0 : Int32), (0 : Int32))) (fun z7 => some z7.1)
theorem ycX0_countHeldRooms : CalV yX0_countHeldRooms cX0_countHeldRooms 4 ((some .int)) 1 := ⟨mw_430, mw_64, mw_428, mw_429, ⟨by decide, by decide, by decide +kernel⟩, by decide⟩
set_option maxHeartbeats 4000000 in
set_option maxRecDepth 100000 in
theorem kX0_countHeldRooms (l : Launch) (K : KK) (a : Nat → Nat) (s0 : S0) (s1 : S1) (res : Int32) (hf : fX0_countHeldRooms s0 s1 = some res) : Ct l K yX0_countHeldRooms cX0_countHeldRooms 4 ((some .int)) 2 [.ref (a 0), .ref (a 5)] (w0 K a s0 ++ w1 K (sh a 5) s1) (some (.int res)) (w0 K a s0 ++ w1 K (sh a 5) s1) := by
  refine Ct_of2 (by decide) rfl (Nat.le_of_ble_eq_true rfl) ?_
  intro p e σ m args below meth c C hr
  unfold fX0_countHeldRooms at hf
  refine Go_iconst (pc := 0) (v := 0) C dX0_countHeldRooms_0 ci_0 ?_
  refine Go_istore_n (pc := 1) C dX0_countHeldRooms_1 (by decide) ?_
  refine Go_iconst (pc := 2) (v := 0) C dX0_countHeldRooms_2 ci_0 ?_
  refine Go_istore_n (pc := 3) C dX0_countHeldRooms_3 (by decide) ?_
  obtain ⟨z7, hz7, hf⟩ := bnd hf
  refine Go_mask [true, true, true, true] ?_
  refine loopF_go (step := (fX0_countHeldRooms_L4 s0 s1)) (fun q1 => Go p l e (rmc 2 0 0) σ m args below meth c K (inW (w0 K a s0 ++ w1 K (sh a 5) s1)) σ.heap 4 0 0 (MQ below (CtQ K (w0 K a s0 ++ w1 K (sh a 5) s1) (some (.int res)) (w0 K a s0 ++ w1 K (sh a 5) s1)) args σ 0 0 (inW (w0 K a s0 ++ w1 K (sh a 5) s1))) (w0 K a s0 ++ w1 K (sh a 5) s1) 4 [some (.ref (a 0)), some (.ref (a 5)), some (.int q1.1), some (.int q1.2)] []) (fun z7 => Go p l e (rmc 2 0 0) σ m args below meth c K (inW (w0 K a s0 ++ w1 K (sh a 5) s1)) σ.heap 4 0 0 (MQ below (CtQ K (w0 K a s0 ++ w1 K (sh a 5) s1) (some (.int res)) (w0 K a s0 ++ w1 K (sh a 5) s1)) args σ 0 0 (inW (w0 K a s0 ++ w1 K (sh a 5) s1))) (w0 K a s0 ++ w1 K (sh a 5) s1) 37 [some (.ref (a 0)), some (.ref (a 5)), some (.int z7.1), some (.int z7.2)] []) ?_ _ _ _ hz7 ?_
  · intro q1 x hf hk
    unfold fX0_countHeldRooms_L4 at hf
    refine Go_iload_n (pc := 4) C dX0_countHeldRooms_4 rfl ?_
    refine Go_bipush (pc := 5) (v := 96) C dX0_countHeldRooms_5 cb_96 ?_
    refine Go_icmp_ge (pc := 7) (tgt := 37) C dX0_countHeldRooms_7 (by decide) (fun hc => ?_) (fun hc => ?_)
    · replace hf := ift hc hf
      obtain rfl := Option.some.inj hf
      exact Go_mask [true, true, true, true] hk
    · replace hf := iff' hc hf
      refine Go_aload_n (pc := 10) C dX0_countHeldRooms_10 rfl ?_
      refine Go_get (pc := 11) C 0 0 rfl rfl inX0 (by decide) mw_138 rfl dX0_countHeldRooms_11 ?_
      refine Go_iload_n (pc := 14) C dX0_countHeldRooms_14 rfl ?_
      obtain ⟨hb, hf⟩ := ifs hf
      refine Go_iald (pc := 15) C 1 rfl (inb_in hb) dX0_countHeldRooms_15 ?_
      refine Go_iconst (pc := 16) (v := -1) C dX0_countHeldRooms_16 ci_m1 ?_
      refine Go_icmp_eq (pc := 17) (tgt := 31) C dX0_countHeldRooms_17 (by decide) (fun hc => ?_) (fun hc => ?_)
      · replace hf := ift hc hf
        obtain ⟨v2, hv2, hf⟩ := bnd hf
        refine Go_iinc (pc := 31) (v := v2) C dX0_countHeldRooms_31 rfl (by rw [ci_1]; exact Option.some.inj hv2) ?_
        refine Go_goto (pc := 34) (tgt := 4) C dX0_countHeldRooms_34 (by decide) ?_
        obtain rfl := Option.some.inj hf
        exact Go_mask [true, true, true, true] hk
      · replace hf := iff' hc hf
        refine Go_aload_n (pc := 20) C dX0_countHeldRooms_20 rfl ?_
        refine Go_iload_n (pc := 21) C dX0_countHeldRooms_21 rfl ?_
        obtain ⟨r3, hr3, hf⟩ := bnd hf
        refine Go_callV1 (pc := 22) (ws1 := (w0 K a s0 ++ w1 K (sh a 5) s1)) C 5 [5, 6, 7, 8, 9, 10] (kX1_startsRoom l K (pk a [5, 6, 7, 8, 9, 10]) s1 q1.2 r3 hr3) ycX1_startsRoom mw_431 (Nat.le_of_ble_eq_true rfl) rfl rfl rfl rfl (Nat.le_of_ble_eq_true rfl) ⟨Nat.zero_le _, Nat.zero_le _⟩ dX0_countHeldRooms_22 (ll_41 _ _ _ _) rfl rfl (Wr_same (ll_41 _ _ _ _)) ?_
        refine Go_if_eq (pc := 25) (tgt := 31) C dX0_countHeldRooms_25 (by decide) (fun hc => ?_) (fun hc => ?_)
        · replace hf := ift hc hf
          obtain ⟨v4, hv4, hf⟩ := bnd hf
          refine Go_iinc (pc := 31) (v := v4) C dX0_countHeldRooms_31 rfl (by rw [ci_1]; exact Option.some.inj hv4) ?_
          refine Go_goto (pc := 34) (tgt := 4) C dX0_countHeldRooms_34 (by decide) ?_
          obtain rfl := Option.some.inj hf
          exact Go_mask [true, true, true, true] hk
        · replace hf := iff' hc hf
          obtain ⟨v5, hv5, hf⟩ := bnd hf
          refine Go_iinc (pc := 28) (v := v5) C dX0_countHeldRooms_28 rfl (by rw [ci_1]; exact Option.some.inj hv5) ?_
          obtain ⟨v6, hv6, hf⟩ := bnd hf
          refine Go_iinc (pc := 31) (v := v6) C dX0_countHeldRooms_31 rfl (by rw [ci_1]; exact Option.some.inj hv6) ?_
          refine Go_goto (pc := 34) (tgt := 4) C dX0_countHeldRooms_34 (by decide) ?_
          obtain rfl := Option.some.inj hf
          exact Go_mask [true, true, true, true] hk
  · show Go _ _ _ _ _ _ _ _ _ _ _ _ _ _ _ _ _ _ _ _ _
    refine Go_iload_n (pc := 37) C dX0_countHeldRooms_37 rfl ?_
    obtain rfl := Option.some.inj hf
    exact Go_iret C hr rfl dX0_countHeldRooms_38
def fX0_arePair (s0 : S0) (p1 : Int32) (p2 : Int32) (p3 : Int32) (p4 : Int32) : Option (Int32) := (if 0 ≤ p1 ∧ p1.toNatClampNeg < 96 then (if (s0.1 p1.toNatClampNeg) = p3 then (if 0 ≤ p2 ∧ p2.toNatClampNeg < 96 then (if (s0.1 p2.toNatClampNeg) = p4 then some (1 : Int32) else (if 0 ≤ p1 ∧ p1.toNatClampNeg < 96 then (if (s0.1 p1.toNatClampNeg) = p4 then (if 0 ≤ p2 ∧ p2.toNatClampNeg < 96 then (if (s0.1 p2.toNatClampNeg) = p3 then some (1 : Int32) else some (0 : Int32)) else none) else some (0 : Int32)) else none)) else none) else (if 0 ≤ p1 ∧ p1.toNatClampNeg < 96 then (if (s0.1 p1.toNatClampNeg) = p4 then (if 0 ≤ p2 ∧ p2.toNatClampNeg < 96 then (if (s0.1 p2.toNatClampNeg) = p3 then some (1 : Int32) else some (0 : Int32)) else none) else some (0 : Int32)) else none)) else none)
theorem ycX0_arePair : CalV yX0_arePair cX0_arePair 5 ((some .boolean)) 4 := ⟨mw_444, mw_64, mw_443, mw_5, ⟨by decide, by decide, by decide +kernel⟩, by decide⟩
set_option maxHeartbeats 4000000 in
set_option maxRecDepth 100000 in
theorem kX0_arePair (l : Launch) (K : KK) (a : Nat → Nat) (s0 : S0) (p1 : Int32) (p2 : Int32) (p3 : Int32) (p4 : Int32) (res : Int32) (hf : fX0_arePair s0 p1 p2 p3 p4 = some res) : Ct l K yX0_arePair cX0_arePair 5 ((some .boolean)) 0 [.ref (a 0), .int p1, .int p2, .int p3, .int p4] (w0 K a s0) (some (.int res)) (w0 K a s0) := by
  refine Ct_of2 (by decide) rfl (Nat.le_of_ble_eq_true rfl) ?_
  intro p e σ m args below meth c C hr
  unfold fX0_arePair at hf
  refine Go_aload_n (pc := 0) C dX0_arePair_0 rfl ?_
  refine Go_get (pc := 1) C 0 0 rfl rfl inX0 (by decide) mw_138 rfl dX0_arePair_1 ?_
  refine Go_iload_n (pc := 4) C dX0_arePair_4 rfl ?_
  obtain ⟨hb, hf⟩ := ifs hf
  refine Go_iald (pc := 5) C 1 rfl (inb_in hb) dX0_arePair_5 ?_
  refine Go_iload_n (pc := 6) C dX0_arePair_6 rfl ?_
  refine Go_icmp_ne (pc := 7) (tgt := 21) C dX0_arePair_7 (by decide) (fun hc => ?_) (fun hc => ?_)
  · replace hf := ift hc hf
    refine Go_aload_n (pc := 10) C dX0_arePair_10 rfl ?_
    refine Go_get (pc := 11) C 0 0 rfl rfl inX0 (by decide) mw_138 rfl dX0_arePair_11 ?_
    refine Go_iload_n (pc := 14) C dX0_arePair_14 rfl ?_
    obtain ⟨hb, hf⟩ := ifs hf
    refine Go_iald (pc := 15) C 1 rfl (inb_in hb) dX0_arePair_15 ?_
    refine Go_iload (pc := 16) C dX0_arePair_16 rfl ?_
    refine Go_icmp_eq (pc := 18) (tgt := 42) C dX0_arePair_18 (by decide) (fun hc => ?_) (fun hc => ?_)
    · replace hf := ift hc hf
      refine Go_iconst (pc := 42) (v := 1) C dX0_arePair_42 ci_1 ?_
      refine Go_goto (pc := 43) (tgt := 47) C dX0_arePair_43 (by decide) ?_
      obtain rfl := Option.some.inj hf
      exact Go_zret C hr (Or.inr rfl) rfl dX0_arePair_47
    · replace hf := iff' hc hf
      refine Go_aload_n (pc := 21) C dX0_arePair_21 rfl ?_
      refine Go_get (pc := 22) C 0 0 rfl rfl inX0 (by decide) mw_138 rfl dX0_arePair_22 ?_
      refine Go_iload_n (pc := 25) C dX0_arePair_25 rfl ?_
      obtain ⟨hb, hf⟩ := ifs hf
      refine Go_iald (pc := 26) C 1 rfl (inb_in hb) dX0_arePair_26 ?_
      refine Go_iload (pc := 27) C dX0_arePair_27 rfl ?_
      refine Go_icmp_ne (pc := 29) (tgt := 46) C dX0_arePair_29 (by decide) (fun hc => ?_) (fun hc => ?_)
      · replace hf := ift hc hf
        refine Go_aload_n (pc := 32) C dX0_arePair_32 rfl ?_
        refine Go_get (pc := 33) C 0 0 rfl rfl inX0 (by decide) mw_138 rfl dX0_arePair_33 ?_
        refine Go_iload_n (pc := 36) C dX0_arePair_36 rfl ?_
        obtain ⟨hb, hf⟩ := ifs hf
        refine Go_iald (pc := 37) C 1 rfl (inb_in hb) dX0_arePair_37 ?_
        refine Go_iload_n (pc := 38) C dX0_arePair_38 rfl ?_
        refine Go_icmp_ne (pc := 39) (tgt := 46) C dX0_arePair_39 (by decide) (fun hc => ?_) (fun hc => ?_)
        · replace hf := ift hc hf
          refine Go_iconst (pc := 42) (v := 1) C dX0_arePair_42 ci_1 ?_
          refine Go_goto (pc := 43) (tgt := 47) C dX0_arePair_43 (by decide) ?_
          obtain rfl := Option.some.inj hf
          exact Go_zret C hr (Or.inr rfl) rfl dX0_arePair_47
        · replace hf := iff' hc hf
          refine Go_iconst (pc := 46) (v := 0) C dX0_arePair_46 ci_0 ?_
          obtain rfl := Option.some.inj hf
          exact Go_zret C hr (Or.inl rfl) rfl dX0_arePair_47
      · replace hf := iff' hc hf
        refine Go_iconst (pc := 46) (v := 0) C dX0_arePair_46 ci_0 ?_
        obtain rfl := Option.some.inj hf
        exact Go_zret C hr (Or.inl rfl) rfl dX0_arePair_47
  · replace hf := iff' hc hf
    refine Go_aload_n (pc := 21) C dX0_arePair_21 rfl ?_
    refine Go_get (pc := 22) C 0 0 rfl rfl inX0 (by decide) mw_138 rfl dX0_arePair_22 ?_
    refine Go_iload_n (pc := 25) C dX0_arePair_25 rfl ?_
    obtain ⟨hb, hf⟩ := ifs hf
    refine Go_iald (pc := 26) C 1 rfl (inb_in hb) dX0_arePair_26 ?_
    refine Go_iload (pc := 27) C dX0_arePair_27 rfl ?_
    refine Go_icmp_ne (pc := 29) (tgt := 46) C dX0_arePair_29 (by decide) (fun hc => ?_) (fun hc => ?_)
    · replace hf := ift hc hf
      refine Go_aload_n (pc := 32) C dX0_arePair_32 rfl ?_
      refine Go_get (pc := 33) C 0 0 rfl rfl inX0 (by decide) mw_138 rfl dX0_arePair_33 ?_
      refine Go_iload_n (pc := 36) C dX0_arePair_36 rfl ?_
      obtain ⟨hb, hf⟩ := ifs hf
      refine Go_iald (pc := 37) C 1 rfl (inb_in hb) dX0_arePair_37 ?_
      refine Go_iload_n (pc := 38) C dX0_arePair_38 rfl ?_
      refine Go_icmp_ne (pc := 39) (tgt := 46) C dX0_arePair_39 (by decide) (fun hc => ?_) (fun hc => ?_)
      · replace hf := ift hc hf
        refine Go_iconst (pc := 42) (v := 1) C dX0_arePair_42 ci_1 ?_
        refine Go_goto (pc := 43) (tgt := 47) C dX0_arePair_43 (by decide) ?_
        obtain rfl := Option.some.inj hf
        exact Go_zret C hr (Or.inr rfl) rfl dX0_arePair_47
      · replace hf := iff' hc hf
        refine Go_iconst (pc := 46) (v := 0) C dX0_arePair_46 ci_0 ?_
        obtain rfl := Option.some.inj hf
        exact Go_zret C hr (Or.inl rfl) rfl dX0_arePair_47
    · replace hf := iff' hc hf
      refine Go_iconst (pc := 46) (v := 0) C dX0_arePair_46 ci_0 ?_
      obtain rfl := Option.some.inj hf
      exact Go_zret C hr (Or.inl rfl) rfl dX0_arePair_47
theorem ll_60 (K : KK) (a : Nat → Nat) (t0 : S0) (t1 : S1) : ([0, 1, 2, 3, 4] : List Nat).map (fun i => (w0 K a t0 ++ w1 K (sh a 5) t1)[i]?) = List.map some (w0 K (pk a [0, 1, 2, 3, 4]) t0) := rfl
def fX0_meet_L3 (s0 : S0) (s1 : S1) (p2 : Int32) (p3 : Int32) (q1 : Int32) : Option ((Int32) ⊕ ((Int32) ⊕ (Int32))) := (if (96 : Int32) ≤ q1 then some (.inr (.inl q1)) else Option.bind (fX1_isOpenRight s1 (q1 - q1 / (12 : Int32) * (12 : Int32))) (fun r2 => (if r2 = 0 then Option.bind (fX1_isOpenBelow s1 (q1 / (12 : Int32))) (fun r3 => (if r3 = 0 then (if (0 : Int32) = 0 then (if (0 : Int32) = 0 then Option.bind (some (q1 + (1 : Int32))) (fun v4 => some (.inl v4)) else some (.inr (.inr (1 : Int32)))) else some (.inr (.inr (1 : Int32)))) else Option.bind (fX0_arePair s0 q1 (q1 + (12 : Int32)) p2 p3) (fun r5 => (if r5 = 0 then (if (0 : Int32) = 0 then (if (0 : Int32) = 0 then Option.bind (some (q1 + (1 : Int32))) (fun v6 => some (.inl v6)) else some (.inr (.inr (1 : Int32)))) else some (.inr (.inr (1 : Int32)))) else (if (0 : Int32) = 0 then (if (1 : Int32) = 0 then Option.bind (some (q1 + (1 : Int32))) (fun v7 => some (.inl v7)) else some (.inr (.inr (1 : Int32)))) else some (.inr (.inr (1 : Int32)))))))) else Option.bind (fX0_arePair s0 q1 (q1 + (1 : Int32)) p2 p3) (fun r8 => (if r8 = 0 then Option.bind (fX1_isOpenBelow s1 (q1 / (12 : Int32))) (fun r9 => (if r9 = 0 then (if (0 : Int32) = 0 then (if (0 : Int32) = 0 then Option.bind (some (q1 + (1 : Int32))) (fun v10 => some (.inl v10)) else some (.inr (.inr (1 : Int32)))) else some (.inr (.inr (1 : Int32)))) else Option.bind (fX0_arePair s0 q1 (q1 + (12 : Int32)) p2 p3) (fun r11 => (if r11 = 0 then (if (0 : Int32) = 0 then (if (0 : Int32) = 0 then Option.bind (some (q1 + (1 : Int32))) (fun v12 => some (.inl v12)) else some (.inr (.inr (1 : Int32)))) else some (.inr (.inr (1 : Int32)))) else (if (0 : Int32) = 0 then (if (1 : Int32) = 0 then Option.bind (some (q1 + (1 : Int32))) (fun v13 => some (.inl v13)) else some (.inr (.inr (1 : Int32)))) else some (.inr (.inr (1 : Int32)))))))) else Option.bind (fX1_isOpenBelow s1 (q1 / (12 : Int32))) (fun r14 => (if r14 = 0 then (if (1 : Int32) = 0 then (if (0 : Int32) = 0 then Option.bind (some (q1 + (1 : Int32))) (fun v15 => some (.inl v15)) else some (.inr (.inr (1 : Int32)))) else some (.inr (.inr (1 : Int32)))) else Option.bind (fX0_arePair s0 q1 (q1 + (12 : Int32)) p2 p3) (fun r16 => (if r16 = 0 then (if (1 : Int32) = 0 then (if (0 : Int32) = 0 then Option.bind (some (q1 + (1 : Int32))) (fun v17 => some (.inl v17)) else some (.inr (.inr (1 : Int32)))) else some (.inr (.inr (1 : Int32)))) else (if (1 : Int32) = 0 then (if (1 : Int32) = 0 then Option.bind (some (q1 + (1 : Int32))) (fun v18 => some (.inl v18)) else some (.inr (.inr (1 : Int32)))) else some (.inr (.inr (1 : Int32)))))))))))))
def fX0_meet (s0 : S0) (s1 : S1) (p2 : Int32) (p3 : Int32) : Option (Int32) := Option.bind (loopF (fX0_meet_L3 s0 s1 p2 p3) 5000 (0 : Int32)) (fun z19 => Sum.elim (fun z19e => some (0 : Int32)) (fun r => some r) z19)
theorem ycX0_meet : CalV yX0_meet cX0_meet 7 ((some .boolean)) 3 := ⟨mw_439, mw_64, mw_437, mw_438, ⟨by decide, by decide, by decide +kernel⟩, by decide⟩
set_option maxHeartbeats 4000000 in
set_option maxRecDepth 100000 in
theorem kX0_meet (l : Launch) (K : KK) (a : Nat → Nat) (s0 : S0) (s1 : S1) (p2 : Int32) (p3 : Int32) (res : Int32) (hf : fX0_meet s0 s1 p2 p3 = some res) : Ct l K yX0_meet cX0_meet 7 ((some .boolean)) 1 [.ref (a 0), .ref (a 5), .int p2, .int p3] (w0 K a s0 ++ w1 K (sh a 5) s1) (some (.int res)) (w0 K a s0 ++ w1 K (sh a 5) s1) := by
  refine Ct_of2 (by decide) rfl (Nat.le_of_ble_eq_true rfl) ?_
  intro p e σ m args below meth c C hr
  unfold fX0_meet at hf
  refine Go_iconst (pc := 0) (v := 0) C dX0_meet_0 ci_0 ?_
  refine Go_istore (pc := 1) C dX0_meet_1 (by decide) ?_
  obtain ⟨z19, hz19, hf⟩ := bnd hf
  refine Go_mask [true, true, true, true, true, false, false] ?_
  refine loopF_go (step := (fX0_meet_L3 s0 s1 p2 p3)) (fun q1 => Go p l e (rmc 1 0 0) σ m args below meth c K (inW (w0 K a s0 ++ w1 K (sh a 5) s1)) σ.heap 7 0 0 (MQ below (CtQ K (w0 K a s0 ++ w1 K (sh a 5) s1) (some (.int res)) (w0 K a s0 ++ w1 K (sh a 5) s1)) args σ 0 0 (inW (w0 K a s0 ++ w1 K (sh a 5) s1))) (w0 K a s0 ++ w1 K (sh a 5) s1) 3 [some (.ref (a 0)), some (.ref (a 5)), some (.int p2), some (.int p3), some (.int q1), none, none] []) (fun y => Sum.elim (fun z19e => Go p l e (rmc 1 0 0) σ m args below meth c K (inW (w0 K a s0 ++ w1 K (sh a 5) s1)) σ.heap 7 0 0 (MQ below (CtQ K (w0 K a s0 ++ w1 K (sh a 5) s1) (some (.int res)) (w0 K a s0 ++ w1 K (sh a 5) s1)) args σ 0 0 (inW (w0 K a s0 ++ w1 K (sh a 5) s1))) (w0 K a s0 ++ w1 K (sh a 5) s1) 97 [some (.ref (a 0)), some (.ref (a 5)), some (.int p2), some (.int p3), some (.int z19e), none, none] []) (fun r => r = res) y) ?_ _ _ _ hz19 ?_
  · intro q1 x hf hk
    unfold fX0_meet_L3 at hf
    refine Go_iload (pc := 3) C dX0_meet_3 rfl ?_
    refine Go_bipush (pc := 5) (v := 96) C dX0_meet_5 cb_96 ?_
    refine Go_icmp_ge (pc := 7) (tgt := 97) C dX0_meet_7 (by decide) (fun hc => ?_) (fun hc => ?_)
    · replace hf := ift hc hf
      obtain rfl := Option.some.inj hf
      exact Go_mask [true, true, true, true, true, false, false] hk
    · replace hf := iff' hc hf
      refine Go_aload_n (pc := 10) C dX0_meet_10 rfl ?_
      refine Go_iload (pc := 11) C dX0_meet_11 rfl ?_
      refine Go_bipush (pc := 13) (v := 12) C dX0_meet_13 cb_12 ?_
      refine Go_irem (pc := 15) C dX0_meet_15 (by decide) ?_
      obtain ⟨r2, hr2, hf⟩ := bnd hf
      refine Go_callV1 (pc := 16) (ws1 := (w0 K a s0 ++ w1 K (sh a 5) s1)) C 5 [5, 6, 7, 8, 9, 10] (kX1_isOpenRight l K (pk a [5, 6, 7, 8, 9, 10]) s1 (q1 - q1 / (12 : Int32) * (12 : Int32)) r2 hr2) ycX1_isOpenRight mw_440 (Nat.le_of_ble_eq_true rfl) rfl rfl rfl rfl (Nat.le_of_ble_eq_true rfl) ⟨Nat.zero_le _, Nat.zero_le _⟩ dX0_meet_16 (ll_41 _ _ _ _) rfl rfl (Wr_same (ll_41 _ _ _ _)) ?_
      refine Go_if_eq (pc := 19) (tgt := 41) C dX0_meet_19 (by decide) (fun hc => ?_) (fun hc => ?_)
      · replace hf := ift hc hf
        refine Go_iconst (pc := 41) (v := 0) C dX0_meet_41 ci_0 ?_
        refine Go_istore (pc := 42) C dX0_meet_42 (by decide) ?_
        refine Go_aload_n (pc := 44) C dX0_meet_44 rfl ?_
        refine Go_iload (pc := 45) C dX0_meet_45 rfl ?_
        refine Go_bipush (pc := 47) (v := 12) C dX0_meet_47 cb_12 ?_
        refine Go_idiv (pc := 49) C dX0_meet_49 (by decide) ?_
        obtain ⟨r3, hr3, hf⟩ := bnd hf
        refine Go_callV1 (pc := 50) (ws1 := (w0 K a s0 ++ w1 K (sh a 5) s1)) C 5 [5, 6, 7, 8, 9, 10] (kX1_isOpenBelow l K (pk a [5, 6, 7, 8, 9, 10]) s1 (q1 / (12 : Int32)) r3 hr3) ycX1_isOpenBelow mw_445 (Nat.le_of_ble_eq_true rfl) rfl rfl rfl rfl (Nat.le_of_ble_eq_true rfl) ⟨Nat.zero_le _, Nat.zero_le _⟩ dX0_meet_50 (ll_41 _ _ _ _) rfl rfl (Wr_same (ll_41 _ _ _ _)) ?_
        refine Go_if_eq (pc := 53) (tgt := 76) C dX0_meet_53 (by decide) (fun hc => ?_) (fun hc => ?_)
        · replace hf := ift hc hf
          refine Go_iconst (pc := 76) (v := 0) C dX0_meet_76 ci_0 ?_
          refine Go_istore (pc := 77) C dX0_meet_77 (by decide) ?_
          refine Go_iload (pc := 79) C dX0_meet_79 rfl ?_
          refine Go_if_ne (pc := 81) (tgt := 89) C dX0_meet_81 (by decide) (fun hc => ?_) (fun hc => ?_)
          · replace hf := ift hc hf
            refine Go_iload (pc := 84) C dX0_meet_84 rfl ?_
            refine Go_if_eq (pc := 86) (tgt := 91) C dX0_meet_86 (by decide) (fun hc => ?_) (fun hc => ?_)
            · replace hf := ift hc hf
              obtain ⟨v4, hv4, hf⟩ := bnd hf
              refine Go_iinc (pc := 91) (v := v4) C dX0_meet_91 rfl (by rw [ci_1]; exact Option.some.inj hv4) ?_
              refine Go_goto (pc := 94) (tgt := 3) C dX0_meet_94 (by decide) ?_
              obtain rfl := Option.some.inj hf
              exact Go_mask [true, true, true, true, true, false, false] hk
            · replace hf := iff' hc hf
              refine Go_iconst (pc := 89) (v := 1) C dX0_meet_89 ci_1 ?_
              obtain rfl := Option.some.inj hf
              have hf := hk
              obtain rfl : (1 : Int32) = res := hf
              exact Go_zret C hr (Or.inr rfl) rfl dX0_meet_90
          · replace hf := iff' hc hf
            refine Go_iconst (pc := 89) (v := 1) C dX0_meet_89 ci_1 ?_
            obtain rfl := Option.some.inj hf
            have hf := hk
            obtain rfl : (1 : Int32) = res := hf
            exact Go_zret C hr (Or.inr rfl) rfl dX0_meet_90
        · replace hf := iff' hc hf
          refine Go_aload_n (pc := 56) C dX0_meet_56 rfl ?_
          refine Go_iload (pc := 57) C dX0_meet_57 rfl ?_
          refine Go_iload (pc := 59) C dX0_meet_59 rfl ?_
          refine Go_bipush (pc := 61) (v := 12) C dX0_meet_61 cb_12 ?_
          refine Go_iadd (pc := 63) C dX0_meet_63 ?_
          refine Go_iload_n (pc := 64) C dX0_meet_64 rfl ?_
          refine Go_iload_n (pc := 65) C dX0_meet_65 rfl ?_
          obtain ⟨r5, hr5, hf⟩ := bnd hf
          refine Go_callV1 (pc := 66) (ws1 := (w0 K a s0 ++ w1 K (sh a 5) s1)) C 0 [0, 1, 2, 3, 4] (kX0_arePair l K (pk a [0, 1, 2, 3, 4]) s0 q1 (q1 + (12 : Int32)) p2 p3 r5 hr5) ycX0_arePair mw_441 (Nat.le_of_ble_eq_true rfl) rfl rfl rfl rfl (Nat.le_of_ble_eq_true rfl) ⟨Nat.zero_le _, Nat.zero_le _⟩ dX0_meet_66 (ll_60 _ _ _ _) rfl rfl (Wr_same (ll_60 _ _ _ _)) ?_
          refine Go_if_eq (pc := 69) (tgt := 76) C dX0_meet_69 (by decide) (fun hc => ?_) (fun hc => ?_)
          · replace hf := ift hc hf
            refine Go_iconst (pc := 76) (v := 0) C dX0_meet_76 ci_0 ?_
            refine Go_istore (pc := 77) C dX0_meet_77 (by decide) ?_
            refine Go_iload (pc := 79) C dX0_meet_79 rfl ?_
            refine Go_if_ne (pc := 81) (tgt := 89) C dX0_meet_81 (by decide) (fun hc => ?_) (fun hc => ?_)
            · replace hf := ift hc hf
              refine Go_iload (pc := 84) C dX0_meet_84 rfl ?_
              refine Go_if_eq (pc := 86) (tgt := 91) C dX0_meet_86 (by decide) (fun hc => ?_) (fun hc => ?_)
              · replace hf := ift hc hf
                obtain ⟨v6, hv6, hf⟩ := bnd hf
                refine Go_iinc (pc := 91) (v := v6) C dX0_meet_91 rfl (by rw [ci_1]; exact Option.some.inj hv6) ?_
                refine Go_goto (pc := 94) (tgt := 3) C dX0_meet_94 (by decide) ?_
                obtain rfl := Option.some.inj hf
                exact Go_mask [true, true, true, true, true, false, false] hk
              · replace hf := iff' hc hf
                refine Go_iconst (pc := 89) (v := 1) C dX0_meet_89 ci_1 ?_
                obtain rfl := Option.some.inj hf
                have hf := hk
                obtain rfl : (1 : Int32) = res := hf
                exact Go_zret C hr (Or.inr rfl) rfl dX0_meet_90
            · replace hf := iff' hc hf
              refine Go_iconst (pc := 89) (v := 1) C dX0_meet_89 ci_1 ?_
              obtain rfl := Option.some.inj hf
              have hf := hk
              obtain rfl : (1 : Int32) = res := hf
              exact Go_zret C hr (Or.inr rfl) rfl dX0_meet_90
          · replace hf := iff' hc hf
            refine Go_iconst (pc := 72) (v := 1) C dX0_meet_72 ci_1 ?_
            refine Go_goto (pc := 73) (tgt := 77) C dX0_meet_73 (by decide) ?_
            refine Go_istore (pc := 77) C dX0_meet_77 (by decide) ?_
            refine Go_iload (pc := 79) C dX0_meet_79 rfl ?_
            refine Go_if_ne (pc := 81) (tgt := 89) C dX0_meet_81 (by decide) (fun hc => ?_) (fun hc => ?_)
            · replace hf := ift hc hf
              refine Go_iload (pc := 84) C dX0_meet_84 rfl ?_
              refine Go_if_eq (pc := 86) (tgt := 91) C dX0_meet_86 (by decide) (fun hc => ?_) (fun hc => ?_)
              · replace hf := ift hc hf
                obtain ⟨v7, hv7, hf⟩ := bnd hf
                refine Go_iinc (pc := 91) (v := v7) C dX0_meet_91 rfl (by rw [ci_1]; exact Option.some.inj hv7) ?_
                refine Go_goto (pc := 94) (tgt := 3) C dX0_meet_94 (by decide) ?_
                obtain rfl := Option.some.inj hf
                exact Go_mask [true, true, true, true, true, false, false] hk
              · replace hf := iff' hc hf
                refine Go_iconst (pc := 89) (v := 1) C dX0_meet_89 ci_1 ?_
                obtain rfl := Option.some.inj hf
                have hf := hk
                obtain rfl : (1 : Int32) = res := hf
                exact Go_zret C hr (Or.inr rfl) rfl dX0_meet_90
            · replace hf := iff' hc hf
              refine Go_iconst (pc := 89) (v := 1) C dX0_meet_89 ci_1 ?_
              obtain rfl := Option.some.inj hf
              have hf := hk
              obtain rfl : (1 : Int32) = res := hf
              exact Go_zret C hr (Or.inr rfl) rfl dX0_meet_90
      · replace hf := iff' hc hf
        refine Go_aload_n (pc := 22) C dX0_meet_22 rfl ?_
        refine Go_iload (pc := 23) C dX0_meet_23 rfl ?_
        refine Go_iload (pc := 25) C dX0_meet_25 rfl ?_
        refine Go_iconst (pc := 27) (v := 1) C dX0_meet_27 ci_1 ?_
        refine Go_iadd (pc := 28) C dX0_meet_28 ?_
        refine Go_iload_n (pc := 29) C dX0_meet_29 rfl ?_
        refine Go_iload_n (pc := 30) C dX0_meet_30 rfl ?_
        obtain ⟨r8, hr8, hf⟩ := bnd hf
        refine Go_callV1 (pc := 31) (ws1 := (w0 K a s0 ++ w1 K (sh a 5) s1)) C 0 [0, 1, 2, 3, 4] (kX0_arePair l K (pk a [0, 1, 2, 3, 4]) s0 q1 (q1 + (1 : Int32)) p2 p3 r8 hr8) ycX0_arePair mw_441 (Nat.le_of_ble_eq_true rfl) rfl rfl rfl rfl (Nat.le_of_ble_eq_true rfl) ⟨Nat.zero_le _, Nat.zero_le _⟩ dX0_meet_31 (ll_60 _ _ _ _) rfl rfl (Wr_same (ll_60 _ _ _ _)) ?_
        refine Go_if_eq (pc := 34) (tgt := 41) C dX0_meet_34 (by decide) (fun hc => ?_) (fun hc => ?_)
        · replace hf := ift hc hf
          refine Go_iconst (pc := 41) (v := 0) C dX0_meet_41 ci_0 ?_
          refine Go_istore (pc := 42) C dX0_meet_42 (by decide) ?_
          refine Go_aload_n (pc := 44) C dX0_meet_44 rfl ?_
          refine Go_iload (pc := 45) C dX0_meet_45 rfl ?_
          refine Go_bipush (pc := 47) (v := 12) C dX0_meet_47 cb_12 ?_
          refine Go_idiv (pc := 49) C dX0_meet_49 (by decide) ?_
          obtain ⟨r9, hr9, hf⟩ := bnd hf
          refine Go_callV1 (pc := 50) (ws1 := (w0 K a s0 ++ w1 K (sh a 5) s1)) C 5 [5, 6, 7, 8, 9, 10] (kX1_isOpenBelow l K (pk a [5, 6, 7, 8, 9, 10]) s1 (q1 / (12 : Int32)) r9 hr9) ycX1_isOpenBelow mw_445 (Nat.le_of_ble_eq_true rfl) rfl rfl rfl rfl (Nat.le_of_ble_eq_true rfl) ⟨Nat.zero_le _, Nat.zero_le _⟩ dX0_meet_50 (ll_41 _ _ _ _) rfl rfl (Wr_same (ll_41 _ _ _ _)) ?_
          refine Go_if_eq (pc := 53) (tgt := 76) C dX0_meet_53 (by decide) (fun hc => ?_) (fun hc => ?_)
          · replace hf := ift hc hf
            refine Go_iconst (pc := 76) (v := 0) C dX0_meet_76 ci_0 ?_
            refine Go_istore (pc := 77) C dX0_meet_77 (by decide) ?_
            refine Go_iload (pc := 79) C dX0_meet_79 rfl ?_
            refine Go_if_ne (pc := 81) (tgt := 89) C dX0_meet_81 (by decide) (fun hc => ?_) (fun hc => ?_)
            · replace hf := ift hc hf
              refine Go_iload (pc := 84) C dX0_meet_84 rfl ?_
              refine Go_if_eq (pc := 86) (tgt := 91) C dX0_meet_86 (by decide) (fun hc => ?_) (fun hc => ?_)
              · replace hf := ift hc hf
                obtain ⟨v10, hv10, hf⟩ := bnd hf
                refine Go_iinc (pc := 91) (v := v10) C dX0_meet_91 rfl (by rw [ci_1]; exact Option.some.inj hv10) ?_
                refine Go_goto (pc := 94) (tgt := 3) C dX0_meet_94 (by decide) ?_
                obtain rfl := Option.some.inj hf
                exact Go_mask [true, true, true, true, true, false, false] hk
              · replace hf := iff' hc hf
                refine Go_iconst (pc := 89) (v := 1) C dX0_meet_89 ci_1 ?_
                obtain rfl := Option.some.inj hf
                have hf := hk
                obtain rfl : (1 : Int32) = res := hf
                exact Go_zret C hr (Or.inr rfl) rfl dX0_meet_90
            · replace hf := iff' hc hf
              refine Go_iconst (pc := 89) (v := 1) C dX0_meet_89 ci_1 ?_
              obtain rfl := Option.some.inj hf
              have hf := hk
              obtain rfl : (1 : Int32) = res := hf
              exact Go_zret C hr (Or.inr rfl) rfl dX0_meet_90
          · replace hf := iff' hc hf
            refine Go_aload_n (pc := 56) C dX0_meet_56 rfl ?_
            refine Go_iload (pc := 57) C dX0_meet_57 rfl ?_
            refine Go_iload (pc := 59) C dX0_meet_59 rfl ?_
            refine Go_bipush (pc := 61) (v := 12) C dX0_meet_61 cb_12 ?_
            refine Go_iadd (pc := 63) C dX0_meet_63 ?_
            refine Go_iload_n (pc := 64) C dX0_meet_64 rfl ?_
            refine Go_iload_n (pc := 65) C dX0_meet_65 rfl ?_
            obtain ⟨r11, hr11, hf⟩ := bnd hf
            refine Go_callV1 (pc := 66) (ws1 := (w0 K a s0 ++ w1 K (sh a 5) s1)) C 0 [0, 1, 2, 3, 4] (kX0_arePair l K (pk a [0, 1, 2, 3, 4]) s0 q1 (q1 + (12 : Int32)) p2 p3 r11 hr11) ycX0_arePair mw_441 (Nat.le_of_ble_eq_true rfl) rfl rfl rfl rfl (Nat.le_of_ble_eq_true rfl) ⟨Nat.zero_le _, Nat.zero_le _⟩ dX0_meet_66 (ll_60 _ _ _ _) rfl rfl (Wr_same (ll_60 _ _ _ _)) ?_
            refine Go_if_eq (pc := 69) (tgt := 76) C dX0_meet_69 (by decide) (fun hc => ?_) (fun hc => ?_)
            · replace hf := ift hc hf
              refine Go_iconst (pc := 76) (v := 0) C dX0_meet_76 ci_0 ?_
              refine Go_istore (pc := 77) C dX0_meet_77 (by decide) ?_
              refine Go_iload (pc := 79) C dX0_meet_79 rfl ?_
              refine Go_if_ne (pc := 81) (tgt := 89) C dX0_meet_81 (by decide) (fun hc => ?_) (fun hc => ?_)
              · replace hf := ift hc hf
                refine Go_iload (pc := 84) C dX0_meet_84 rfl ?_
                refine Go_if_eq (pc := 86) (tgt := 91) C dX0_meet_86 (by decide) (fun hc => ?_) (fun hc => ?_)
                · replace hf := ift hc hf
                  obtain ⟨v12, hv12, hf⟩ := bnd hf
                  refine Go_iinc (pc := 91) (v := v12) C dX0_meet_91 rfl (by rw [ci_1]; exact Option.some.inj hv12) ?_
                  refine Go_goto (pc := 94) (tgt := 3) C dX0_meet_94 (by decide) ?_
                  obtain rfl := Option.some.inj hf
                  exact Go_mask [true, true, true, true, true, false, false] hk
                · replace hf := iff' hc hf
                  refine Go_iconst (pc := 89) (v := 1) C dX0_meet_89 ci_1 ?_
                  obtain rfl := Option.some.inj hf
                  have hf := hk
                  obtain rfl : (1 : Int32) = res := hf
                  exact Go_zret C hr (Or.inr rfl) rfl dX0_meet_90
              · replace hf := iff' hc hf
                refine Go_iconst (pc := 89) (v := 1) C dX0_meet_89 ci_1 ?_
                obtain rfl := Option.some.inj hf
                have hf := hk
                obtain rfl : (1 : Int32) = res := hf
                exact Go_zret C hr (Or.inr rfl) rfl dX0_meet_90
            · replace hf := iff' hc hf
              refine Go_iconst (pc := 72) (v := 1) C dX0_meet_72 ci_1 ?_
              refine Go_goto (pc := 73) (tgt := 77) C dX0_meet_73 (by decide) ?_
              refine Go_istore (pc := 77) C dX0_meet_77 (by decide) ?_
              refine Go_iload (pc := 79) C dX0_meet_79 rfl ?_
              refine Go_if_ne (pc := 81) (tgt := 89) C dX0_meet_81 (by decide) (fun hc => ?_) (fun hc => ?_)
              · replace hf := ift hc hf
                refine Go_iload (pc := 84) C dX0_meet_84 rfl ?_
                refine Go_if_eq (pc := 86) (tgt := 91) C dX0_meet_86 (by decide) (fun hc => ?_) (fun hc => ?_)
                · replace hf := ift hc hf
                  obtain ⟨v13, hv13, hf⟩ := bnd hf
                  refine Go_iinc (pc := 91) (v := v13) C dX0_meet_91 rfl (by rw [ci_1]; exact Option.some.inj hv13) ?_
                  refine Go_goto (pc := 94) (tgt := 3) C dX0_meet_94 (by decide) ?_
                  obtain rfl := Option.some.inj hf
                  exact Go_mask [true, true, true, true, true, false, false] hk
                · replace hf := iff' hc hf
                  refine Go_iconst (pc := 89) (v := 1) C dX0_meet_89 ci_1 ?_
                  obtain rfl := Option.some.inj hf
                  have hf := hk
                  obtain rfl : (1 : Int32) = res := hf
                  exact Go_zret C hr (Or.inr rfl) rfl dX0_meet_90
              · replace hf := iff' hc hf
                refine Go_iconst (pc := 89) (v := 1) C dX0_meet_89 ci_1 ?_
                obtain rfl := Option.some.inj hf
                have hf := hk
                obtain rfl : (1 : Int32) = res := hf
                exact Go_zret C hr (Or.inr rfl) rfl dX0_meet_90
        · replace hf := iff' hc hf
          refine Go_iconst (pc := 37) (v := 1) C dX0_meet_37 ci_1 ?_
          refine Go_goto (pc := 38) (tgt := 42) C dX0_meet_38 (by decide) ?_
          refine Go_istore (pc := 42) C dX0_meet_42 (by decide) ?_
          refine Go_aload_n (pc := 44) C dX0_meet_44 rfl ?_
          refine Go_iload (pc := 45) C dX0_meet_45 rfl ?_
          refine Go_bipush (pc := 47) (v := 12) C dX0_meet_47 cb_12 ?_
          refine Go_idiv (pc := 49) C dX0_meet_49 (by decide) ?_
          obtain ⟨r14, hr14, hf⟩ := bnd hf
          refine Go_callV1 (pc := 50) (ws1 := (w0 K a s0 ++ w1 K (sh a 5) s1)) C 5 [5, 6, 7, 8, 9, 10] (kX1_isOpenBelow l K (pk a [5, 6, 7, 8, 9, 10]) s1 (q1 / (12 : Int32)) r14 hr14) ycX1_isOpenBelow mw_445 (Nat.le_of_ble_eq_true rfl) rfl rfl rfl rfl (Nat.le_of_ble_eq_true rfl) ⟨Nat.zero_le _, Nat.zero_le _⟩ dX0_meet_50 (ll_41 _ _ _ _) rfl rfl (Wr_same (ll_41 _ _ _ _)) ?_
          refine Go_if_eq (pc := 53) (tgt := 76) C dX0_meet_53 (by decide) (fun hc => ?_) (fun hc => ?_)
          · replace hf := ift hc hf
            refine Go_iconst (pc := 76) (v := 0) C dX0_meet_76 ci_0 ?_
            refine Go_istore (pc := 77) C dX0_meet_77 (by decide) ?_
            refine Go_iload (pc := 79) C dX0_meet_79 rfl ?_
            refine Go_if_ne (pc := 81) (tgt := 89) C dX0_meet_81 (by decide) (fun hc => ?_) (fun hc => ?_)
            · replace hf := ift hc hf
              refine Go_iload (pc := 84) C dX0_meet_84 rfl ?_
              refine Go_if_eq (pc := 86) (tgt := 91) C dX0_meet_86 (by decide) (fun hc => ?_) (fun hc => ?_)
              · replace hf := ift hc hf
                obtain ⟨v15, hv15, hf⟩ := bnd hf
                refine Go_iinc (pc := 91) (v := v15) C dX0_meet_91 rfl (by rw [ci_1]; exact Option.some.inj hv15) ?_
                refine Go_goto (pc := 94) (tgt := 3) C dX0_meet_94 (by decide) ?_
                obtain rfl := Option.some.inj hf
                exact Go_mask [true, true, true, true, true, false, false] hk
              · replace hf := iff' hc hf
                refine Go_iconst (pc := 89) (v := 1) C dX0_meet_89 ci_1 ?_
                obtain rfl := Option.some.inj hf
                have hf := hk
                obtain rfl : (1 : Int32) = res := hf
                exact Go_zret C hr (Or.inr rfl) rfl dX0_meet_90
            · replace hf := iff' hc hf
              refine Go_iconst (pc := 89) (v := 1) C dX0_meet_89 ci_1 ?_
              obtain rfl := Option.some.inj hf
              have hf := hk
              obtain rfl : (1 : Int32) = res := hf
              exact Go_zret C hr (Or.inr rfl) rfl dX0_meet_90
          · replace hf := iff' hc hf
            refine Go_aload_n (pc := 56) C dX0_meet_56 rfl ?_
            refine Go_iload (pc := 57) C dX0_meet_57 rfl ?_
            refine Go_iload (pc := 59) C dX0_meet_59 rfl ?_
            refine Go_bipush (pc := 61) (v := 12) C dX0_meet_61 cb_12 ?_
            refine Go_iadd (pc := 63) C dX0_meet_63 ?_
            refine Go_iload_n (pc := 64) C dX0_meet_64 rfl ?_
            refine Go_iload_n (pc := 65) C dX0_meet_65 rfl ?_
            obtain ⟨r16, hr16, hf⟩ := bnd hf
            refine Go_callV1 (pc := 66) (ws1 := (w0 K a s0 ++ w1 K (sh a 5) s1)) C 0 [0, 1, 2, 3, 4] (kX0_arePair l K (pk a [0, 1, 2, 3, 4]) s0 q1 (q1 + (12 : Int32)) p2 p3 r16 hr16) ycX0_arePair mw_441 (Nat.le_of_ble_eq_true rfl) rfl rfl rfl rfl (Nat.le_of_ble_eq_true rfl) ⟨Nat.zero_le _, Nat.zero_le _⟩ dX0_meet_66 (ll_60 _ _ _ _) rfl rfl (Wr_same (ll_60 _ _ _ _)) ?_
            refine Go_if_eq (pc := 69) (tgt := 76) C dX0_meet_69 (by decide) (fun hc => ?_) (fun hc => ?_)
            · replace hf := ift hc hf
              refine Go_iconst (pc := 76) (v := 0) C dX0_meet_76 ci_0 ?_
              refine Go_istore (pc := 77) C dX0_meet_77 (by decide) ?_
              refine Go_iload (pc := 79) C dX0_meet_79 rfl ?_
              refine Go_if_ne (pc := 81) (tgt := 89) C dX0_meet_81 (by decide) (fun hc => ?_) (fun hc => ?_)
              · replace hf := ift hc hf
                refine Go_iload (pc := 84) C dX0_meet_84 rfl ?_
                refine Go_if_eq (pc := 86) (tgt := 91) C dX0_meet_86 (by decide) (fun hc => ?_) (fun hc => ?_)
                · replace hf := ift hc hf
                  obtain ⟨v17, hv17, hf⟩ := bnd hf
                  refine Go_iinc (pc := 91) (v := v17) C dX0_meet_91 rfl (by rw [ci_1]; exact Option.some.inj hv17) ?_
                  refine Go_goto (pc := 94) (tgt := 3) C dX0_meet_94 (by decide) ?_
                  obtain rfl := Option.some.inj hf
                  exact Go_mask [true, true, true, true, true, false, false] hk
                · replace hf := iff' hc hf
                  refine Go_iconst (pc := 89) (v := 1) C dX0_meet_89 ci_1 ?_
                  obtain rfl := Option.some.inj hf
                  have hf := hk
                  obtain rfl : (1 : Int32) = res := hf
                  exact Go_zret C hr (Or.inr rfl) rfl dX0_meet_90
              · replace hf := iff' hc hf
                refine Go_iconst (pc := 89) (v := 1) C dX0_meet_89 ci_1 ?_
                obtain rfl := Option.some.inj hf
                have hf := hk
                obtain rfl : (1 : Int32) = res := hf
                exact Go_zret C hr (Or.inr rfl) rfl dX0_meet_90
            · replace hf := iff' hc hf
              refine Go_iconst (pc := 72) (v := 1) C dX0_meet_72 ci_1 ?_
              refine Go_goto (pc := 73) (tgt := 77) C dX0_meet_73 (by decide) ?_
              refine Go_istore (pc := 77) C dX0_meet_77 (by decide) ?_
              refine Go_iload (pc := 79) C dX0_meet_79 rfl ?_
              refine Go_if_ne (pc := 81) (tgt := 89) C dX0_meet_81 (by decide) (fun hc => ?_) (fun hc => ?_)
              · replace hf := ift hc hf
                refine Go_iload (pc := 84) C dX0_meet_84 rfl ?_
                refine Go_if_eq (pc := 86) (tgt := 91) C dX0_meet_86 (by decide) (fun hc => ?_) (fun hc => ?_)
                · replace hf := ift hc hf
                  obtain ⟨v18, hv18, hf⟩ := bnd hf
                  refine Go_iinc (pc := 91) (v := v18) C dX0_meet_91 rfl (by rw [ci_1]; exact Option.some.inj hv18) ?_
                  refine Go_goto (pc := 94) (tgt := 3) C dX0_meet_94 (by decide) ?_
                  obtain rfl := Option.some.inj hf
                  exact Go_mask [true, true, true, true, true, false, false] hk
                · replace hf := iff' hc hf
                  refine Go_iconst (pc := 89) (v := 1) C dX0_meet_89 ci_1 ?_
                  obtain rfl := Option.some.inj hf
                  have hf := hk
                  obtain rfl : (1 : Int32) = res := hf
                  exact Go_zret C hr (Or.inr rfl) rfl dX0_meet_90
              · replace hf := iff' hc hf
                refine Go_iconst (pc := 89) (v := 1) C dX0_meet_89 ci_1 ?_
                obtain rfl := Option.some.inj hf
                have hf := hk
                obtain rfl : (1 : Int32) = res := hf
                exact Go_zret C hr (Or.inr rfl) rfl dX0_meet_90
  · rcases z19 with z19e | r
    · show Go _ _ _ _ _ _ _ _ _ _ _ _ _ _ _ _ _ _ _ _ _
      refine Go_iconst (pc := 97) (v := 0) C dX0_meet_97 ci_0 ?_
      obtain rfl := Option.some.inj hf
      exact Go_zret C hr (Or.inl rfl) rfl dX0_meet_98
    · exact Option.some.inj hf
