theorem ll_140 (K : KK) (a : Nat → Nat) (t0 : S7) (y : Nat → Int32) : List.set (w7 K a t0) 1 (a 1, .inl (K.2.1, 3, .inl y)) = (w7 K a ((y, t0.2))) := rfl
def fX7_no (s0 : S7) : Option (Int32 × S7) := (if 0 ≤ (1 : Int32) ∧ (1 : Int32).toNatClampNeg < 3 then (if 0 ≤ (1 : Int32) ∧ (1 : Int32).toNatClampNeg < 3 then some ((-3 : Int32), (upd s0.1 (1 : Int32).toNatClampNeg ((s0.1 (1 : Int32).toNatClampNeg) + (1 : Int32)), s0.2)) else none) else none)
theorem ycX7_no : CalV yX7_no cX7_no 1 ((some .int)) 0 := ⟨mw_706, mw_69, mw_705, mw_18, ⟨by decide, by decide, by decide +kernel⟩, by decide⟩
set_option maxHeartbeats 4000000 in
set_option maxRecDepth 100000 in
theorem kX7_no (l : Launch) (K : KK) (a : Nat → Nat) (s0 : S7) (res : Int32 × S7) (hf : fX7_no s0 = some res) : Ct l K yX7_no cX7_no 1 ((some .int)) 0 [.ref (a 0)] (w7 K a s0) (some (.int res.1)) (w7 K a res.2) := by
  refine Ct_of2 (by decide) rfl (Nat.le_of_ble_eq_true rfl) ?_
  intro p e σ m args below meth c C hr
  unfold fX7_no at hf
  refine Go_aload_n (pc := 0) C dX7_no_0 rfl ?_
  refine Go_get (pc := 1) C 0 0 rfl rfl inX7 (by decide) mw_629 rfl dX7_no_1 ?_
  refine Go_iconst (pc := 4) (v := 1) C dX7_no_4 ci_1 ?_
  refine Go_dup2 (pc := 5) C dX7_no_5 rfl rfl ?_
  obtain ⟨hb, hf⟩ := ifs hf
  refine Go_iald (pc := 6) C 1 rfl (inb_in hb) dX7_no_6 ?_
  refine Go_iconst (pc := 7) (v := 1) C dX7_no_7 ci_1 ?_
  refine Go_iadd (pc := 8) C dX7_no_8 ?_
  obtain ⟨hb, hf⟩ := ifs hf
  refine Go_iast (pc := 9) (ws1 := (w7 K a ((upd s0.1 (1 : Int32).toNatClampNeg ((s0.1 (1 : Int32).toNatClampNeg) + (1 : Int32)), s0.2)))) C 1 rfl (inb_in hb) dX7_no_9 (ll_140 _ _ _ _) ?_
  refine Go_bipush (pc := 10) (v := -3) C dX7_no_10 cb_m3 ?_
  obtain rfl := Option.some.inj hf
  exact Go_iret C hr rfl dX7_no_12
theorem ll_141 (K : KK) (a : Nat → Nat) (t0 : S7) (y : Int32) : List.set (w7 K a t0) 0 (a 0, .inr (7, List.set [.ref (a 1), .ref (a 2), .int (t0.2.2.1), .ref (a 3), .ref (a 4), .int (t0.2.2.2.2.2.1), .int (t0.2.2.2.2.2.2.1), .int (t0.2.2.2.2.2.2.2.1), .ref (a 5), .ref (a 6), .ref (a 7), .ref (a 8), .ref (a 9), .int (t0.2.2.2.2.2.2.2.2.2.2.2.2.2.1), .ref (a 10), .ref (a 11), .int (t0.2.2.2.2.2.2.2.2.2.2.2.2.2.2.2.2.1), .int (t0.2.2.2.2.2.2.2.2.2.2.2.2.2.2.2.2.2.1), .int (t0.2.2.2.2.2.2.2.2.2.2.2.2.2.2.2.2.2.2.1), .int (t0.2.2.2.2.2.2.2.2.2.2.2.2.2.2.2.2.2.2.2.1), .int (t0.2.2.2.2.2.2.2.2.2.2.2.2.2.2.2.2.2.2.2.2.1), .ref (a 12), .ref (a 13)] 7 (.int y))) = (w7 K a ((t0.1, t0.2.1, t0.2.2.1, t0.2.2.2.1, t0.2.2.2.2.1, t0.2.2.2.2.2.1, t0.2.2.2.2.2.2.1, y, t0.2.2.2.2.2.2.2.2))) := rfl
theorem ll_142 (K : KK) (a : Nat → Nat) (t0 : S7) (y : Int32) : List.set (w7 K a t0) 0 (a 0, .inr (7, List.set [.ref (a 1), .ref (a 2), .int (t0.2.2.1), .ref (a 3), .ref (a 4), .int (t0.2.2.2.2.2.1), .int (t0.2.2.2.2.2.2.1), .int (t0.2.2.2.2.2.2.2.1), .ref (a 5), .ref (a 6), .ref (a 7), .ref (a 8), .ref (a 9), .int (t0.2.2.2.2.2.2.2.2.2.2.2.2.2.1), .ref (a 10), .ref (a 11), .int (t0.2.2.2.2.2.2.2.2.2.2.2.2.2.2.2.2.1), .int (t0.2.2.2.2.2.2.2.2.2.2.2.2.2.2.2.2.2.1), .int (t0.2.2.2.2.2.2.2.2.2.2.2.2.2.2.2.2.2.2.1), .int (t0.2.2.2.2.2.2.2.2.2.2.2.2.2.2.2.2.2.2.2.1), .int (t0.2.2.2.2.2.2.2.2.2.2.2.2.2.2.2.2.2.2.2.2.1), .ref (a 12), .ref (a 13)] 2 (.int y))) = (w7 K a ((t0.1, t0.2.1, y, t0.2.2.2))) := rfl
theorem ll_143 (K : KK) (a : Nat → Nat) (t0 : S7) (y : Int32) : List.set (w7 K a t0) 0 (a 0, .inr (7, List.set [.ref (a 1), .ref (a 2), .int (t0.2.2.1), .ref (a 3), .ref (a 4), .int (t0.2.2.2.2.2.1), .int (t0.2.2.2.2.2.2.1), .int (t0.2.2.2.2.2.2.2.1), .ref (a 5), .ref (a 6), .ref (a 7), .ref (a 8), .ref (a 9), .int (t0.2.2.2.2.2.2.2.2.2.2.2.2.2.1), .ref (a 10), .ref (a 11), .int (t0.2.2.2.2.2.2.2.2.2.2.2.2.2.2.2.2.1), .int (t0.2.2.2.2.2.2.2.2.2.2.2.2.2.2.2.2.2.1), .int (t0.2.2.2.2.2.2.2.2.2.2.2.2.2.2.2.2.2.2.1), .int (t0.2.2.2.2.2.2.2.2.2.2.2.2.2.2.2.2.2.2.2.1), .int (t0.2.2.2.2.2.2.2.2.2.2.2.2.2.2.2.2.2.2.2.2.1), .ref (a 12), .ref (a 13)] 5 (.int y))) = (w7 K a ((t0.1, t0.2.1, t0.2.2.1, t0.2.2.2.1, t0.2.2.2.2.1, y, t0.2.2.2.2.2.2))) := rfl
theorem ll_144 (K : KK) (a : Nat → Nat) (t0 : S7) (y : Int32) : List.set (w7 K a t0) 0 (a 0, .inr (7, List.set [.ref (a 1), .ref (a 2), .int (t0.2.2.1), .ref (a 3), .ref (a 4), .int (t0.2.2.2.2.2.1), .int (t0.2.2.2.2.2.2.1), .int (t0.2.2.2.2.2.2.2.1), .ref (a 5), .ref (a 6), .ref (a 7), .ref (a 8), .ref (a 9), .int (t0.2.2.2.2.2.2.2.2.2.2.2.2.2.1), .ref (a 10), .ref (a 11), .int (t0.2.2.2.2.2.2.2.2.2.2.2.2.2.2.2.2.1), .int (t0.2.2.2.2.2.2.2.2.2.2.2.2.2.2.2.2.2.1), .int (t0.2.2.2.2.2.2.2.2.2.2.2.2.2.2.2.2.2.2.1), .int (t0.2.2.2.2.2.2.2.2.2.2.2.2.2.2.2.2.2.2.2.1), .int (t0.2.2.2.2.2.2.2.2.2.2.2.2.2.2.2.2.2.2.2.2.1), .ref (a 12), .ref (a 13)] 6 (.int y))) = (w7 K a ((t0.1, t0.2.1, t0.2.2.1, t0.2.2.2.1, t0.2.2.2.2.1, t0.2.2.2.2.2.1, y, t0.2.2.2.2.2.2.2))) := rfl
theorem ll_145 (K : KK) (a : Nat → Nat) (t0 : S7) (y : Nat → Int32) : List.set (w7 K a t0) 3 (a 3, .inl (K.2.1, 13, .inl y)) = (w7 K a ((t0.1, t0.2.1, t0.2.2.1, y, t0.2.2.2.2))) := rfl
theorem ll_146 (K : KK) (a : Nat → Nat) (t0 : S7) (y : Nat → Int32) : List.set (w7 K a t0) 4 (a 4, .inl (K.2.1, 13, .inl y)) = (w7 K a ((t0.1, t0.2.1, t0.2.2.1, t0.2.2.2.1, y, t0.2.2.2.2.2))) := rfl
theorem ll_147 (K : KK) (a : Nat → Nat) (t0 : S7) (y : Nat → Int32) : List.set (w7 K a t0) 2 (a 2, .inl (K.2.1, 96, .inl y)) = (w7 K a ((t0.1, y, t0.2.2))) := rfl
def fX7_comesBack_L55 (s0 : S7) (v1 : Int32) (q2 : Int32 × (Nat → Int32) × (Nat → Int32)) : Option ((Int32 × (Nat → Int32) × (Nat → Int32)) ⊕ (Int32 × (Nat → Int32) × (Nat → Int32))) := (if (12 : Int32) ≤ q2.1 then some (.inr (q2.1, q2.2.1, q2.2.2)) else (if 0 ≤ ((v1 + (4 : Int32)) + q2.1) ∧ ((v1 + (4 : Int32)) + q2.1).toNatClampNeg < 840 then (if 0 ≤ q2.1 ∧ q2.1.toNatClampNeg < 13 then (if 0 ≤ ((v1 + (16 : Int32)) + q2.1) ∧ ((v1 + (16 : Int32)) + q2.1).toNatClampNeg < 840 then (if 0 ≤ q2.1 ∧ q2.1.toNatClampNeg < 13 then Option.bind (some (q2.1 + (1 : Int32))) (fun v3 => some (.inl (v3, upd q2.2.1 q2.1.toNatClampNeg (s0.2.2.2.2.2.2.2.2.1 ((v1 + (4 : Int32)) + q2.1).toNatClampNeg), upd q2.2.2 q2.1.toNatClampNeg (s0.2.2.2.2.2.2.2.2.1 ((v1 + (16 : Int32)) + q2.1).toNatClampNeg)))) else none) else none) else none) else none))
def fX7_comesBack_L102 (s0 : S7) (v1 : Int32) (q5 : Int32 × (Nat → Int32)) : Option ((Int32 × (Nat → Int32)) ⊕ (Int32 × (Nat → Int32))) := (if (96 : Int32) ≤ q5.1 then some (.inr (q5.1, q5.2)) else (if 0 ≤ ((v1 + (28 : Int32)) + q5.1) ∧ ((v1 + (28 : Int32)) + q5.1).toNatClampNeg < 840 then (if 0 ≤ q5.1 ∧ q5.1.toNatClampNeg < 96 then Option.bind (some (q5.1 + (1 : Int32))) (fun v6 => some (.inl (v6, upd q5.2 q5.1.toNatClampNeg (s0.2.2.2.2.2.2.2.2.1 ((v1 + (28 : Int32)) + q5.1).toNatClampNeg)))) else none) else none))
def fX7_comesBack (s0 : S7) : Option (S7) := Option.bind (some ((140 : Int32) * (s0.2.2.2.2.2.2.2.1 - (1 : Int32)))) (fun v1 => (if 0 ≤ v1 ∧ v1.toNatClampNeg < 840 then (if 0 ≤ (v1 + (1 : Int32)) ∧ (v1 + (1 : Int32)).toNatClampNeg < 840 then (if 0 ≤ (v1 + (2 : Int32)) ∧ (v1 + (2 : Int32)).toNatClampNeg < 840 then Option.bind (loopF (fX7_comesBack_L55 s0 v1) 5000 ((0 : Int32), s0.2.2.2.1, s0.2.2.2.2.1)) (fun z4 => Option.bind (loopF (fX7_comesBack_L102 s0 v1) 5000 ((0 : Int32), s0.2.1)) (fun z7 => some ((s0.1, z7.2, s0.2.2.2.2.2.2.2.2.1 v1.toNatClampNeg, z4.2.1, z4.2.2, s0.2.2.2.2.2.2.2.2.1 (v1 + (1 : Int32)).toNatClampNeg, s0.2.2.2.2.2.2.2.2.1 (v1 + (2 : Int32)).toNatClampNeg, s0.2.2.2.2.2.2.2.1 - (1 : Int32), s0.2.2.2.2.2.2.2.2)))) else none) else none) else none))
theorem ycX7_comesBack : CalV yX7_comesBack cX7_comesBack 3 none 0 := ⟨mw_710, mw_69, mw_709, mw_19, ⟨by decide, by decide, by decide +kernel⟩, by decide⟩
set_option maxHeartbeats 4000000 in
set_option maxRecDepth 100000 in
theorem kX7_comesBack (l : Launch) (K : KK) (a : Nat → Nat) (s0 : S7) (res : S7) (hf : fX7_comesBack s0 = some res) : Ct l K yX7_comesBack cX7_comesBack 3 none 0 [.ref (a 0)] (w7 K a s0) (none) (w7 K a res) := by
  refine Ct_of2 (by decide) rfl (Nat.le_of_ble_eq_true rfl) ?_
  intro p e σ m args below meth c C hr
  unfold fX7_comesBack at hf
  refine Go_aload_n (pc := 0) C dX7_comesBack_0 rfl ?_
  refine Go_dup (pc := 1) C dX7_comesBack_1 rfl ?_
  refine Go_get (pc := 2) C 0 7 rfl rfl inX7 (by decide) mw_636 rfl dX7_comesBack_2 ?_
  refine Go_iconst (pc := 5) (v := 1) C dX7_comesBack_5 ci_1 ?_
  refine Go_isub (pc := 6) C dX7_comesBack_6 ?_
  refine Go_put (pc := 7) (ws1 := (w7 K a ((s0.1, s0.2.1, s0.2.2.1, s0.2.2.2.1, s0.2.2.2.2.1, s0.2.2.2.2.2.1, s0.2.2.2.2.2.2.1, s0.2.2.2.2.2.2.2.1 - (1 : Int32), s0.2.2.2.2.2.2.2.2)))) C 0 7 tyX7 tyX7_ok nmX7 rfl rfl inX7 (by decide) mw_636 rfl rfl (Nat.le_of_ble_eq_true rfl) dX7_comesBack_7 (ll_141 _ _ _ _) ?_
  refine Go_sipush (pc := 10) (v := 140) C dX7_comesBack_10 cs_140 ?_
  refine Go_aload_n (pc := 13) C dX7_comesBack_13 rfl ?_
  refine Go_get (pc := 14) C 0 7 rfl rfl inX7 (by decide) mw_636 rfl dX7_comesBack_14 ?_
  refine Go_imul (pc := 17) C dX7_comesBack_17 ?_
  obtain ⟨v1, hv1, hf⟩ := bnd hf
  refine Go_topi (Option.some.inj hv1) ?_
  refine Go_istore_n (pc := 18) C dX7_comesBack_18 (by decide) ?_
  refine Go_aload_n (pc := 19) C dX7_comesBack_19 rfl ?_
  refine Go_aload_n (pc := 20) C dX7_comesBack_20 rfl ?_
  refine Go_get (pc := 21) C 0 8 rfl rfl inX7 (by decide) mw_637 rfl dX7_comesBack_21 ?_
  refine Go_iload_n (pc := 24) C dX7_comesBack_24 rfl ?_
  obtain ⟨hb, hf⟩ := ifs hf
  refine Go_iald (pc := 25) C 5 rfl (inb_in hb) dX7_comesBack_25 ?_
  refine Go_put (pc := 26) (ws1 := (w7 K a ((s0.1, s0.2.1, s0.2.2.2.2.2.2.2.2.1 v1.toNatClampNeg, s0.2.2.2.1, s0.2.2.2.2.1, s0.2.2.2.2.2.1, s0.2.2.2.2.2.2.1, s0.2.2.2.2.2.2.2.1 - (1 : Int32), s0.2.2.2.2.2.2.2.2)))) C 0 2 tyX7 tyX7_ok nmX7 rfl rfl inX7 (by decide) mw_631 rfl rfl (Nat.le_of_ble_eq_true rfl) dX7_comesBack_26 (ll_142 _ _ _ _) ?_
  refine Go_aload_n (pc := 29) C dX7_comesBack_29 rfl ?_
  refine Go_aload_n (pc := 30) C dX7_comesBack_30 rfl ?_
  refine Go_get (pc := 31) C 0 8 rfl rfl inX7 (by decide) mw_637 rfl dX7_comesBack_31 ?_
  refine Go_iload_n (pc := 34) C dX7_comesBack_34 rfl ?_
  refine Go_iconst (pc := 35) (v := 1) C dX7_comesBack_35 ci_1 ?_
  refine Go_iadd (pc := 36) C dX7_comesBack_36 ?_
  obtain ⟨hb, hf⟩ := ifs hf
  refine Go_iald (pc := 37) C 5 rfl (inb_in hb) dX7_comesBack_37 ?_
  refine Go_put (pc := 38) (ws1 := (w7 K a ((s0.1, s0.2.1, s0.2.2.2.2.2.2.2.2.1 v1.toNatClampNeg, s0.2.2.2.1, s0.2.2.2.2.1, s0.2.2.2.2.2.2.2.2.1 (v1 + (1 : Int32)).toNatClampNeg, s0.2.2.2.2.2.2.1, s0.2.2.2.2.2.2.2.1 - (1 : Int32), s0.2.2.2.2.2.2.2.2)))) C 0 5 tyX7 tyX7_ok nmX7 rfl rfl inX7 (by decide) mw_634 rfl rfl (Nat.le_of_ble_eq_true rfl) dX7_comesBack_38 (ll_143 _ _ _ _) ?_
  refine Go_aload_n (pc := 41) C dX7_comesBack_41 rfl ?_
  refine Go_aload_n (pc := 42) C dX7_comesBack_42 rfl ?_
  refine Go_get (pc := 43) C 0 8 rfl rfl inX7 (by decide) mw_637 rfl dX7_comesBack_43 ?_
  refine Go_iload_n (pc := 46) C dX7_comesBack_46 rfl ?_
  refine Go_iconst (pc := 47) (v := 2) C dX7_comesBack_47 ci_2 ?_
  refine Go_iadd (pc := 48) C dX7_comesBack_48 ?_
  obtain ⟨hb, hf⟩ := ifs hf
  refine Go_iald (pc := 49) C 5 rfl (inb_in hb) dX7_comesBack_49 ?_
  refine Go_put (pc := 50) (ws1 := (w7 K a ((s0.1, s0.2.1, s0.2.2.2.2.2.2.2.2.1 v1.toNatClampNeg, s0.2.2.2.1, s0.2.2.2.2.1, s0.2.2.2.2.2.2.2.2.1 (v1 + (1 : Int32)).toNatClampNeg, s0.2.2.2.2.2.2.2.2.1 (v1 + (2 : Int32)).toNatClampNeg, s0.2.2.2.2.2.2.2.1 - (1 : Int32), s0.2.2.2.2.2.2.2.2)))) C 0 6 tyX7 tyX7_ok nmX7 rfl rfl inX7 (by decide) mw_635 rfl rfl (Nat.le_of_ble_eq_true rfl) dX7_comesBack_50 (ll_144 _ _ _ _) ?_
  refine Go_iconst (pc := 53) (v := 0) C dX7_comesBack_53 ci_0 ?_
  refine Go_istore_n (pc := 54) C dX7_comesBack_54 (by decide) ?_
  obtain ⟨z4, hz4, hf⟩ := bnd hf
  refine Go_mask [true, true, true] ?_
  refine loopF_go (step := (fX7_comesBack_L55 s0 v1)) (fun q2 => Go p l e (rmc 0 0 0) σ m args below meth c K (inW (w7 K a s0)) σ.heap 3 0 0 (MQ below (CtQ K (w7 K a s0) (none) (w7 K a res)) args σ 0 0 (inW (w7 K a s0))) (w7 K a ((s0.1, s0.2.1, s0.2.2.2.2.2.2.2.2.1 v1.toNatClampNeg, q2.2.1, q2.2.2, s0.2.2.2.2.2.2.2.2.1 (v1 + (1 : Int32)).toNatClampNeg, s0.2.2.2.2.2.2.2.2.1 (v1 + (2 : Int32)).toNatClampNeg, s0.2.2.2.2.2.2.2.1 - (1 : Int32), s0.2.2.2.2.2.2.2.2))) 55 [some (.ref (a 0)), some (.int v1), some (.int q2.1)] []) (fun z4 => Go p l e (rmc 0 0 0) σ m args below meth c K (inW (w7 K a s0)) σ.heap 3 0 0 (MQ below (CtQ K (w7 K a s0) (none) (w7 K a res)) args σ 0 0 (inW (w7 K a s0))) (w7 K a ((s0.1, s0.2.1, s0.2.2.2.2.2.2.2.2.1 v1.toNatClampNeg, z4.2.1, z4.2.2, s0.2.2.2.2.2.2.2.2.1 (v1 + (1 : Int32)).toNatClampNeg, s0.2.2.2.2.2.2.2.2.1 (v1 + (2 : Int32)).toNatClampNeg, s0.2.2.2.2.2.2.2.1 - (1 : Int32), s0.2.2.2.2.2.2.2.2))) 100 [some (.ref (a 0)), some (.int v1), some (.int z4.1)] []) ?_ _ _ _ hz4 ?_
  · intro q2 x hf hk
    unfold fX7_comesBack_L55 at hf
    refine Go_iload_n (pc := 55) C dX7_comesBack_55 rfl ?_
    refine Go_bipush (pc := 56) (v := 12) C dX7_comesBack_56 cb_12 ?_
    refine Go_icmp_ge (pc := 58) (tgt := 100) C dX7_comesBack_58 (by decide) (fun hc => ?_) (fun hc => ?_)
    · replace hf := ift hc hf
      obtain rfl := Option.some.inj hf
      exact Go_mask [true, true, true] hk
    · replace hf := iff' hc hf
      refine Go_aload_n (pc := 61) C dX7_comesBack_61 rfl ?_
      refine Go_get (pc := 62) C 0 3 rfl rfl inX7 (by decide) mw_632 rfl dX7_comesBack_62 ?_
      refine Go_iload_n (pc := 65) C dX7_comesBack_65 rfl ?_
      refine Go_aload_n (pc := 66) C dX7_comesBack_66 rfl ?_
      refine Go_get (pc := 67) C 0 8 rfl rfl inX7 (by decide) mw_637 rfl dX7_comesBack_67 ?_
      refine Go_iload_n (pc := 70) C dX7_comesBack_70 rfl ?_
      refine Go_iconst (pc := 71) (v := 4) C dX7_comesBack_71 ci_4 ?_
      refine Go_iadd (pc := 72) C dX7_comesBack_72 ?_
      refine Go_iload_n (pc := 73) C dX7_comesBack_73 rfl ?_
      refine Go_iadd (pc := 74) C dX7_comesBack_74 ?_
      obtain ⟨hb, hf⟩ := ifs hf
      refine Go_iald (pc := 75) C 5 rfl (inb_in hb) dX7_comesBack_75 ?_
      obtain ⟨hb, hf⟩ := ifs hf
      refine Go_iast (pc := 76) (ws1 := (w7 K a ((s0.1, s0.2.1, s0.2.2.2.2.2.2.2.2.1 v1.toNatClampNeg, upd q2.2.1 q2.1.toNatClampNeg (s0.2.2.2.2.2.2.2.2.1 ((v1 + (4 : Int32)) + q2.1).toNatClampNeg), q2.2.2, s0.2.2.2.2.2.2.2.2.1 (v1 + (1 : Int32)).toNatClampNeg, s0.2.2.2.2.2.2.2.2.1 (v1 + (2 : Int32)).toNatClampNeg, s0.2.2.2.2.2.2.2.1 - (1 : Int32), s0.2.2.2.2.2.2.2.2)))) C 3 rfl (inb_in hb) dX7_comesBack_76 (ll_145 _ _ _ _) ?_
      refine Go_aload_n (pc := 77) C dX7_comesBack_77 rfl ?_
      refine Go_get (pc := 78) C 0 4 rfl rfl inX7 (by decide) mw_633 rfl dX7_comesBack_78 ?_
      refine Go_iload_n (pc := 81) C dX7_comesBack_81 rfl ?_
      refine Go_aload_n (pc := 82) C dX7_comesBack_82 rfl ?_
      refine Go_get (pc := 83) C 0 8 rfl rfl inX7 (by decide) mw_637 rfl dX7_comesBack_83 ?_
      refine Go_iload_n (pc := 86) C dX7_comesBack_86 rfl ?_
      refine Go_bipush (pc := 87) (v := 16) C dX7_comesBack_87 cb_16 ?_
      refine Go_iadd (pc := 89) C dX7_comesBack_89 ?_
      refine Go_iload_n (pc := 90) C dX7_comesBack_90 rfl ?_
      refine Go_iadd (pc := 91) C dX7_comesBack_91 ?_
      obtain ⟨hb, hf⟩ := ifs hf
      refine Go_iald (pc := 92) C 5 rfl (inb_in hb) dX7_comesBack_92 ?_
      obtain ⟨hb, hf⟩ := ifs hf
      refine Go_iast (pc := 93) (ws1 := (w7 K a ((s0.1, s0.2.1, s0.2.2.2.2.2.2.2.2.1 v1.toNatClampNeg, upd q2.2.1 q2.1.toNatClampNeg (s0.2.2.2.2.2.2.2.2.1 ((v1 + (4 : Int32)) + q2.1).toNatClampNeg), upd q2.2.2 q2.1.toNatClampNeg (s0.2.2.2.2.2.2.2.2.1 ((v1 + (16 : Int32)) + q2.1).toNatClampNeg), s0.2.2.2.2.2.2.2.2.1 (v1 + (1 : Int32)).toNatClampNeg, s0.2.2.2.2.2.2.2.2.1 (v1 + (2 : Int32)).toNatClampNeg, s0.2.2.2.2.2.2.2.1 - (1 : Int32), s0.2.2.2.2.2.2.2.2)))) C 4 rfl (inb_in hb) dX7_comesBack_93 (ll_146 _ _ _ _) ?_
      obtain ⟨v3, hv3, hf⟩ := bnd hf
      refine Go_iinc (pc := 94) (v := v3) C dX7_comesBack_94 rfl (by rw [ci_1]; exact Option.some.inj hv3) ?_
      refine Go_goto (pc := 97) (tgt := 55) C dX7_comesBack_97 (by decide) ?_
      obtain rfl := Option.some.inj hf
      exact Go_mask [true, true, true] hk
  · show Go _ _ _ _ _ _ _ _ _ _ _ _ _ _ _ _ _ _ _ _ _
    refine Go_iconst (pc := 100) (v := 0) C dX7_comesBack_100 ci_0 ?_
    refine Go_istore_n (pc := 101) C dX7_comesBack_101 (by decide) ?_
    obtain ⟨z7, hz7, hf⟩ := bnd hf
    refine Go_mask [true, true, true] ?_
    refine loopF_go (step := (fX7_comesBack_L102 s0 v1)) (fun q5 => Go p l e (rmc 0 0 0) σ m args below meth c K (inW (w7 K a s0)) σ.heap 3 0 0 (MQ below (CtQ K (w7 K a s0) (none) (w7 K a res)) args σ 0 0 (inW (w7 K a s0))) (w7 K a ((s0.1, q5.2, s0.2.2.2.2.2.2.2.2.1 v1.toNatClampNeg, z4.2.1, z4.2.2, s0.2.2.2.2.2.2.2.2.1 (v1 + (1 : Int32)).toNatClampNeg, s0.2.2.2.2.2.2.2.2.1 (v1 + (2 : Int32)).toNatClampNeg, s0.2.2.2.2.2.2.2.1 - (1 : Int32), s0.2.2.2.2.2.2.2.2))) 102 [some (.ref (a 0)), some (.int v1), some (.int q5.1)] []) (fun z7 => Go p l e (rmc 0 0 0) σ m args below meth c K (inW (w7 K a s0)) σ.heap 3 0 0 (MQ below (CtQ K (w7 K a s0) (none) (w7 K a res)) args σ 0 0 (inW (w7 K a s0))) (w7 K a ((s0.1, z7.2, s0.2.2.2.2.2.2.2.2.1 v1.toNatClampNeg, z4.2.1, z4.2.2, s0.2.2.2.2.2.2.2.2.1 (v1 + (1 : Int32)).toNatClampNeg, s0.2.2.2.2.2.2.2.2.1 (v1 + (2 : Int32)).toNatClampNeg, s0.2.2.2.2.2.2.2.1 - (1 : Int32), s0.2.2.2.2.2.2.2.2))) 131 [some (.ref (a 0)), some (.int v1), some (.int z7.1)] []) ?_ _ _ _ hz7 ?_
    · intro q5 x hf hk
      unfold fX7_comesBack_L102 at hf
      refine Go_iload_n (pc := 102) C dX7_comesBack_102 rfl ?_
      refine Go_bipush (pc := 103) (v := 96) C dX7_comesBack_103 cb_96 ?_
      refine Go_icmp_ge (pc := 105) (tgt := 131) C dX7_comesBack_105 (by decide) (fun hc => ?_) (fun hc => ?_)
      · replace hf := ift hc hf
        obtain rfl := Option.some.inj hf
        exact Go_mask [true, true, true] hk
      · replace hf := iff' hc hf
        refine Go_aload_n (pc := 108) C dX7_comesBack_108 rfl ?_
        refine Go_get (pc := 109) C 0 1 rfl rfl inX7 (by decide) mw_630 rfl dX7_comesBack_109 ?_
        refine Go_iload_n (pc := 112) C dX7_comesBack_112 rfl ?_
        refine Go_aload_n (pc := 113) C dX7_comesBack_113 rfl ?_
        refine Go_get (pc := 114) C 0 8 rfl rfl inX7 (by decide) mw_637 rfl dX7_comesBack_114 ?_
        refine Go_iload_n (pc := 117) C dX7_comesBack_117 rfl ?_
        refine Go_bipush (pc := 118) (v := 28) C dX7_comesBack_118 cb_28 ?_
        refine Go_iadd (pc := 120) C dX7_comesBack_120 ?_
        refine Go_iload_n (pc := 121) C dX7_comesBack_121 rfl ?_
        refine Go_iadd (pc := 122) C dX7_comesBack_122 ?_
        obtain ⟨hb, hf⟩ := ifs hf
        refine Go_iald (pc := 123) C 5 rfl (inb_in hb) dX7_comesBack_123 ?_
        obtain ⟨hb, hf⟩ := ifs hf
        refine Go_iast (pc := 124) (ws1 := (w7 K a ((s0.1, upd q5.2 q5.1.toNatClampNeg (s0.2.2.2.2.2.2.2.2.1 ((v1 + (28 : Int32)) + q5.1).toNatClampNeg), s0.2.2.2.2.2.2.2.2.1 v1.toNatClampNeg, z4.2.1, z4.2.2, s0.2.2.2.2.2.2.2.2.1 (v1 + (1 : Int32)).toNatClampNeg, s0.2.2.2.2.2.2.2.2.1 (v1 + (2 : Int32)).toNatClampNeg, s0.2.2.2.2.2.2.2.1 - (1 : Int32), s0.2.2.2.2.2.2.2.2)))) C 2 rfl (inb_in hb) dX7_comesBack_124 (ll_147 _ _ _ _) ?_
        obtain ⟨v6, hv6, hf⟩ := bnd hf
        refine Go_iinc (pc := 125) (v := v6) C dX7_comesBack_125 rfl (by rw [ci_1]; exact Option.some.inj hv6) ?_
        refine Go_goto (pc := 128) (tgt := 102) C dX7_comesBack_128 (by decide) ?_
        obtain rfl := Option.some.inj hf
        exact Go_mask [true, true, true] hk
    · show Go _ _ _ _ _ _ _ _ _ _ _ _ _ _ _ _ _ _ _ _ _
      obtain rfl := Option.some.inj hf
      exact Go_vret C hr rfl dX7_comesBack_131
theorem ll_148 (K : KK) (a : Nat → Nat) (t0 : S7) (y : Int32) : List.set (w7 K a t0) 0 (a 0, .inr (7, List.set [.ref (a 1), .ref (a 2), .int (t0.2.2.1), .ref (a 3), .ref (a 4), .int (t0.2.2.2.2.2.1), .int (t0.2.2.2.2.2.2.1), .int (t0.2.2.2.2.2.2.2.1), .ref (a 5), .ref (a 6), .ref (a 7), .ref (a 8), .ref (a 9), .int (t0.2.2.2.2.2.2.2.2.2.2.2.2.2.1), .ref (a 10), .ref (a 11), .int (t0.2.2.2.2.2.2.2.2.2.2.2.2.2.2.2.2.1), .int (t0.2.2.2.2.2.2.2.2.2.2.2.2.2.2.2.2.2.1), .int (t0.2.2.2.2.2.2.2.2.2.2.2.2.2.2.2.2.2.2.1), .int (t0.2.2.2.2.2.2.2.2.2.2.2.2.2.2.2.2.2.2.2.1), .int (t0.2.2.2.2.2.2.2.2.2.2.2.2.2.2.2.2.2.2.2.2.1), .ref (a 12), .ref (a 13)] 13 (.int y))) = (w7 K a ((t0.1, t0.2.1, t0.2.2.1, t0.2.2.2.1, t0.2.2.2.2.1, t0.2.2.2.2.2.1, t0.2.2.2.2.2.2.1, t0.2.2.2.2.2.2.2.1, t0.2.2.2.2.2.2.2.2.1, t0.2.2.2.2.2.2.2.2.2.1, t0.2.2.2.2.2.2.2.2.2.2.1, t0.2.2.2.2.2.2.2.2.2.2.2.1, t0.2.2.2.2.2.2.2.2.2.2.2.2.1, y, t0.2.2.2.2.2.2.2.2.2.2.2.2.2.2))) := rfl
def fX7_noWaves (s0 : S7) : Option (S7) := some ((s0.1, s0.2.1, s0.2.2.1, s0.2.2.2.1, s0.2.2.2.2.1, s0.2.2.2.2.2.1, s0.2.2.2.2.2.2.1, s0.2.2.2.2.2.2.2.1, s0.2.2.2.2.2.2.2.2.1, s0.2.2.2.2.2.2.2.2.2.1, s0.2.2.2.2.2.2.2.2.2.2.1, s0.2.2.2.2.2.2.2.2.2.2.2.1, s0.2.2.2.2.2.2.2.2.2.2.2.2.1, (0 : Int32), s0.2.2.2.2.2.2.2.2.2.2.2.2.2.2))
theorem ycX7_noWaves : CalV yX7_noWaves cX7_noWaves 1 none 0 := ⟨mw_714, mw_69, mw_713, mw_20, ⟨by decide, by decide, by decide +kernel⟩, by decide⟩
set_option maxHeartbeats 4000000 in
set_option maxRecDepth 100000 in
theorem kX7_noWaves (l : Launch) (K : KK) (a : Nat → Nat) (s0 : S7) (res : S7) (hf : fX7_noWaves s0 = some res) : Ct l K yX7_noWaves cX7_noWaves 1 none 0 [.ref (a 0)] (w7 K a s0) (none) (w7 K a res) := by
  refine Ct_of2 (by decide) rfl (Nat.le_of_ble_eq_true rfl) ?_
  intro p e σ m args below meth c C hr
  unfold fX7_noWaves at hf
  refine Go_aload_n (pc := 0) C dX7_noWaves_0 rfl ?_
  refine Go_iconst (pc := 1) (v := 0) C dX7_noWaves_1 ci_0 ?_
  refine Go_put (pc := 2) (ws1 := (w7 K a ((s0.1, s0.2.1, s0.2.2.1, s0.2.2.2.1, s0.2.2.2.2.1, s0.2.2.2.2.2.1, s0.2.2.2.2.2.2.1, s0.2.2.2.2.2.2.2.1, s0.2.2.2.2.2.2.2.2.1, s0.2.2.2.2.2.2.2.2.2.1, s0.2.2.2.2.2.2.2.2.2.2.1, s0.2.2.2.2.2.2.2.2.2.2.2.1, s0.2.2.2.2.2.2.2.2.2.2.2.2.1, (0 : Int32), s0.2.2.2.2.2.2.2.2.2.2.2.2.2.2)))) C 0 13 tyX7 tyX7_ok nmX7 rfl rfl inX7 (by decide) mw_642 rfl rfl (Nat.le_of_ble_eq_true rfl) dX7_noWaves_2 (ll_148 _ _ _ _) ?_
  obtain rfl := Option.some.inj hf
  exact Go_vret C hr rfl dX7_noWaves_5
theorem ll_149 (K : KK) (a : Nat → Nat) (t0 : S7) : ((0 :: 1 :: 2 :: 3 :: 4 :: 5 :: 6 :: 7 :: 8 :: 9 :: 10 :: 11 :: 12 :: 13 :: []) : List Nat).map (fun i => (w7 K a t0)[i]?) = List.map some (w7 K (pk a (0 :: 1 :: 2 :: 3 :: 4 :: 5 :: 6 :: 7 :: 8 :: 9 :: 10 :: 11 :: 12 :: 13 :: [])) t0) := rfl
theorem ll_150 (K : KK) (a : Nat → Nat) (t0 : S7) (y0 : S7) : Wr (w7 K a t0) (0 :: 1 :: 2 :: 3 :: 4 :: 5 :: 6 :: 7 :: 8 :: 9 :: 10 :: 11 :: 12 :: 13 :: []) (w7 K (pk a (0 :: 1 :: 2 :: 3 :: 4 :: 5 :: 6 :: 7 :: 8 :: 9 :: 10 :: 11 :: 12 :: 13 :: [])) y0) (w7 K a y0) := ⟨[], 14, rfl, (show List.map (fun i => (w7 K a y0)[i]?) _ = ([] : List (Option (Nat × va_E))) from rfl).trans (show List.map (fun i => (w7 K a t0)[i]?) _ = ([] : List (Option (Nat × va_E))) from rfl).symm, rfl, by decide⟩
def fX7_back (s0 : S7) : Option (Int32 × S7) := (if s0.2.2.2.2.2.2.2.1 = 0 then Option.bind (fX7_no s0) (fun r1 => some (r1.1, r1.2)) else Option.bind (fX7_comesBack s0) (fun r2 => Option.bind (fX7_noWaves r2) (fun r3 => some (r3.2.2.2.2.2.2.2.1, r3))))
theorem ycX7_back : CalV yX7_back cX7_back 1 ((some .int)) 0 := ⟨mw_702, mw_69, mw_700, mw_701, ⟨by decide, by decide, by decide +kernel⟩, by decide⟩
set_option maxHeartbeats 4000000 in
set_option maxRecDepth 100000 in
theorem kX7_back (l : Launch) (K : KK) (a : Nat → Nat) (s0 : S7) (res : Int32 × S7) (hf : fX7_back s0 = some res) : Ct l K yX7_back cX7_back 1 ((some .int)) 1 [.ref (a 0)] (w7 K a s0) (some (.int res.1)) (w7 K a res.2) := by
  refine Ct_of2 (by decide) rfl (Nat.le_of_ble_eq_true rfl) ?_
  intro p e σ m args below meth c C hr
  unfold fX7_back at hf
  refine Go_aload_n (pc := 0) C dX7_back_0 rfl ?_
  refine Go_get (pc := 1) C 0 7 rfl rfl inX7 (by decide) mw_636 rfl dX7_back_1 ?_
  refine Go_if_ne (pc := 4) (tgt := 12) C dX7_back_4 (by decide) (fun hc => ?_) (fun hc => ?_)
  · replace hf := ift hc hf
    refine Go_aload_n (pc := 7) C dX7_back_7 rfl ?_
    obtain ⟨r1, hr1, hf⟩ := bnd hf
    refine Go_callV1 (pc := 8) (ws1 := (w7 K a r1.2)) C 0 (0 :: 1 :: 2 :: 3 :: 4 :: 5 :: 6 :: 7 :: 8 :: 9 :: 10 :: 11 :: 12 :: 13 :: []) (kX7_no l K (pk a (0 :: 1 :: 2 :: 3 :: 4 :: 5 :: 6 :: 7 :: 8 :: 9 :: 10 :: 11 :: 12 :: 13 :: [])) s0 r1 hr1) ycX7_no mw_703 (Nat.le_of_ble_eq_true rfl) rfl rfl rfl rfl (Nat.le_of_ble_eq_true rfl) ⟨Nat.zero_le _, Nat.zero_le _⟩ dX7_back_8 (ll_149 _ _ _) rfl rfl (ll_150 _ _ _ _) ?_
    obtain rfl := Option.some.inj hf
    exact Go_iret C hr rfl dX7_back_11
  · replace hf := iff' hc hf
    refine Go_aload_n (pc := 12) C dX7_back_12 rfl ?_
    obtain ⟨r2, hr2, hf⟩ := bnd hf
    refine Go_callV0 (pc := 13) (ws1 := (w7 K a r2)) C 0 (0 :: 1 :: 2 :: 3 :: 4 :: 5 :: 6 :: 7 :: 8 :: 9 :: 10 :: 11 :: 12 :: 13 :: []) (kX7_comesBack l K (pk a (0 :: 1 :: 2 :: 3 :: 4 :: 5 :: 6 :: 7 :: 8 :: 9 :: 10 :: 11 :: 12 :: 13 :: [])) s0 r2 hr2) ycX7_comesBack mw_707 (Nat.le_of_ble_eq_true rfl) rfl rfl rfl rfl (Nat.le_of_ble_eq_true rfl) ⟨Nat.zero_le _, Nat.zero_le _⟩ dX7_back_13 (ll_149 _ _ _) rfl rfl (ll_150 _ _ _ _) ?_
    refine Go_aload_n (pc := 16) C dX7_back_16 rfl ?_
    obtain ⟨r3, hr3, hf⟩ := bnd hf
    refine Go_callV0 (pc := 17) (ws1 := (w7 K a r3)) C 0 (0 :: 1 :: 2 :: 3 :: 4 :: 5 :: 6 :: 7 :: 8 :: 9 :: 10 :: 11 :: 12 :: 13 :: []) (kX7_noWaves l K (pk a (0 :: 1 :: 2 :: 3 :: 4 :: 5 :: 6 :: 7 :: 8 :: 9 :: 10 :: 11 :: 12 :: 13 :: [])) r2 r3 hr3) ycX7_noWaves mw_711 (Nat.le_of_ble_eq_true rfl) rfl rfl rfl rfl (Nat.le_of_ble_eq_true rfl) ⟨Nat.zero_le _, Nat.zero_le _⟩ dX7_back_17 (ll_149 _ _ _) rfl rfl (ll_150 _ _ _ _) ?_
    refine Go_aload_n (pc := 20) C dX7_back_20 rfl ?_
    refine Go_get (pc := 21) C 0 7 rfl rfl inX7 (by decide) mw_636 rfl dX7_back_21 ?_
    obtain rfl := Option.some.inj hf
    exact Go_iret C hr rfl dX7_back_24
def fX7_in (p0 : Int32) (p1 : Int32) (p2 : Int32) : Option (Int32) := (if p0 < p1 then some (0 : Int32) else (if p2 < p0 then some (0 : Int32) else some (1 : Int32)))
theorem ycX7_in : CalS yX7_in cX7_in 3 ((some .boolean)) 3 := ⟨mw_724, mw_69, mw_723, ⟨by decide, by decide, by decide +kernel⟩, by decide⟩
set_option maxHeartbeats 4000000 in
set_option maxRecDepth 100000 in
theorem kX7_in (l : Launch) (K : KK) (p0 : Int32) (p1 : Int32) (p2 : Int32) (res : Int32) (hf : fX7_in p0 p1 p2 = some res) : Ct l K yX7_in cX7_in 3 ((some .boolean)) 0 [.int p0, .int p1, .int p2] ([] : va_W) (some (.int res)) ([] : va_W) := by
  refine Ct_of2 (by decide) rfl (Nat.le_of_ble_eq_true rfl) ?_
  intro p e σ m args below meth c C hr
  unfold fX7_in at hf
  refine Go_iload_n (pc := 0) C dX7_in_0 rfl ?_
  refine Go_iload_n (pc := 1) C dX7_in_1 rfl ?_
  refine Go_icmp_lt (pc := 2) (tgt := 14) C dX7_in_2 (by decide) (fun hc => ?_) (fun hc => ?_)
  · replace hf := ift hc hf
    refine Go_iconst (pc := 14) (v := 0) C dX7_in_14 ci_0 ?_
    obtain rfl := Option.some.inj hf
    exact Go_zret C hr (Or.inl rfl) rfl dX7_in_15
  · replace hf := iff' hc hf
    refine Go_iload_n (pc := 5) C dX7_in_5 rfl ?_
    refine Go_iload_n (pc := 6) C dX7_in_6 rfl ?_
    refine Go_icmp_gt (pc := 7) (tgt := 14) C dX7_in_7 (by decide) (fun hc => ?_) (fun hc => ?_)
    · replace hf := ift hc hf
      refine Go_iconst (pc := 14) (v := 0) C dX7_in_14 ci_0 ?_
      obtain rfl := Option.some.inj hf
      exact Go_zret C hr (Or.inl rfl) rfl dX7_in_15
    · replace hf := iff' hc hf
      refine Go_iconst (pc := 10) (v := 1) C dX7_in_10 ci_1 ?_
      refine Go_goto (pc := 11) (tgt := 15) C dX7_in_11 (by decide) ?_
      obtain rfl := Option.some.inj hf
      exact Go_zret C hr (Or.inr rfl) rfl dX7_in_15
def fX7_isCell (p0 : Int32) : Option (Int32) := Option.bind (fX7_in p0 (0 : Int32) (95 : Int32)) (fun r1 => (if r1 = 0 ∨ r1 = 1 then some r1 else none))
theorem ycX7_isCell : CalS yX7_isCell cX7_isCell 1 ((some .boolean)) 1 := ⟨mw_721, mw_69, mw_720, ⟨by decide, by decide, by decide +kernel⟩, by decide⟩
set_option maxHeartbeats 4000000 in
set_option maxRecDepth 100000 in
theorem kX7_isCell (l : Launch) (K : KK) (p0 : Int32) (res : Int32) (hf : fX7_isCell p0 = some res) : Ct l K yX7_isCell cX7_isCell 1 ((some .boolean)) 1 [.int p0] ([] : va_W) (some (.int res)) ([] : va_W) := by
  refine Ct_of2 (by decide) rfl (Nat.le_of_ble_eq_true rfl) ?_
  intro p e σ m args below meth c C hr
  unfold fX7_isCell at hf
  refine Go_iload_n (pc := 0) C dX7_isCell_0 rfl ?_
  refine Go_iconst (pc := 1) (v := 0) C dX7_isCell_1 ci_0 ?_
  refine Go_bipush (pc := 2) (v := 95) C dX7_isCell_2 cb_95 ?_
  obtain ⟨r1, hr1, hf⟩ := bnd hf
  refine Go_callS1 (pc := 4) (ws1 := ([] : va_W)) C [] (kX7_in l K p0 (0 : Int32) (95 : Int32) r1 hr1) ycX7_in mw_722 (Nat.le_of_ble_eq_true rfl) rfl rfl (Nat.le_of_ble_eq_true rfl) ⟨Nat.zero_le _, Nat.zero_le _⟩ dX7_isCell_4 rfl rfl rfl (Wr_same rfl) ?_
  obtain ⟨hz, hf⟩ := ifs hf
  obtain rfl := Option.some.inj hf
  exact Go_zret C hr hz rfl dX7_isCell_7
def fX7_bad (s0 : S7) : Option (Int32 × S7) := (if 0 ≤ (0 : Int32) ∧ (0 : Int32).toNatClampNeg < 3 then (if 0 ≤ (0 : Int32) ∧ (0 : Int32).toNatClampNeg < 3 then some ((-2 : Int32), (upd s0.1 (0 : Int32).toNatClampNeg ((s0.1 (0 : Int32).toNatClampNeg) + (1 : Int32)), s0.2)) else none) else none)
theorem ycX7_bad : CalV yX7_bad cX7_bad 1 ((some .int)) 0 := ⟨mw_728, mw_69, mw_727, mw_21, ⟨by decide, by decide, by decide +kernel⟩, by decide⟩
set_option maxHeartbeats 4000000 in
set_option maxRecDepth 100000 in
theorem kX7_bad (l : Launch) (K : KK) (a : Nat → Nat) (s0 : S7) (res : Int32 × S7) (hf : fX7_bad s0 = some res) : Ct l K yX7_bad cX7_bad 1 ((some .int)) 0 [.ref (a 0)] (w7 K a s0) (some (.int res.1)) (w7 K a res.2) := by
  refine Ct_of2 (by decide) rfl (Nat.le_of_ble_eq_true rfl) ?_
  intro p e σ m args below meth c C hr
  unfold fX7_bad at hf
  refine Go_aload_n (pc := 0) C dX7_bad_0 rfl ?_
  refine Go_get (pc := 1) C 0 0 rfl rfl inX7 (by decide) mw_629 rfl dX7_bad_1 ?_
  refine Go_iconst (pc := 4) (v := 0) C dX7_bad_4 ci_0 ?_
  refine Go_dup2 (pc := 5) C dX7_bad_5 rfl rfl ?_
  obtain ⟨hb, hf⟩ := ifs hf
  refine Go_iald (pc := 6) C 1 rfl (inb_in hb) dX7_bad_6 ?_
  refine Go_iconst (pc := 7) (v := 1) C dX7_bad_7 ci_1 ?_
  refine Go_iadd (pc := 8) C dX7_bad_8 ?_
  obtain ⟨hb, hf⟩ := ifs hf
  refine Go_iast (pc := 9) (ws1 := (w7 K a ((upd s0.1 (0 : Int32).toNatClampNeg ((s0.1 (0 : Int32).toNatClampNeg) + (1 : Int32)), s0.2)))) C 1 rfl (inb_in hb) dX7_bad_9 (ll_140 _ _ _ _) ?_
  refine Go_bipush (pc := 10) (v := -2) C dX7_bad_10 cb_m2 ?_
  obtain rfl := Option.some.inj hf
  exact Go_iret C hr rfl dX7_bad_12
def fX7_pillarAt_L2 (s0 : S7) (p1 : Int32) (q1 : Int32) : Option ((Int32) ⊕ ((Int32) ⊕ (Int32))) := (if s0.2.2.1 ≤ q1 then some (.inr (.inl q1)) else (if 0 ≤ q1 ∧ q1.toNatClampNeg < 13 then (if (s0.2.2.2.1 q1.toNatClampNeg) = p1 then some (.inr (.inr q1)) else Option.bind (some (q1 + (1 : Int32))) (fun v2 => some (.inl v2))) else none))
def fX7_pillarAt (s0 : S7) (p1 : Int32) : Option (Int32) := Option.bind (loopF (fX7_pillarAt_L2 s0 p1) 5000 (0 : Int32)) (fun z3 => Sum.elim (fun z3e => some (-1 : Int32)) (fun r => some r) z3)
theorem ycX7_pillarAt : CalV yX7_pillarAt cX7_pillarAt 3 ((some .int)) 1 := ⟨mw_732, mw_69, mw_731, mw_22, ⟨by decide, by decide, by decide +kernel⟩, by decide⟩
set_option maxHeartbeats 4000000 in
set_option maxRecDepth 100000 in
theorem kX7_pillarAt (l : Launch) (K : KK) (a : Nat → Nat) (s0 : S7) (p1 : Int32) (res : Int32) (hf : fX7_pillarAt s0 p1 = some res) : Ct l K yX7_pillarAt cX7_pillarAt 3 ((some .int)) 0 [.ref (a 0), .int p1] (w7 K a s0) (some (.int res)) (w7 K a s0) := by
  refine Ct_of2 (by decide) rfl (Nat.le_of_ble_eq_true rfl) ?_
  intro p e σ m args below meth c C hr
  unfold fX7_pillarAt at hf
  refine Go_iconst (pc := 0) (v := 0) C dX7_pillarAt_0 ci_0 ?_
  refine Go_istore_n (pc := 1) C dX7_pillarAt_1 (by decide) ?_
  obtain ⟨z3, hz3, hf⟩ := bnd hf
  refine Go_mask [true, true, true] ?_
  refine loopF_go (step := (fX7_pillarAt_L2 s0 p1)) (fun q1 => Go p l e (rmc 0 0 0) σ m args below meth c K (inW (w7 K a s0)) σ.heap 3 0 0 (MQ below (CtQ K (w7 K a s0) (some (.int res)) (w7 K a s0)) args σ 0 0 (inW (w7 K a s0))) (w7 K a s0) 2 [some (.ref (a 0)), some (.int p1), some (.int q1)] []) (fun y => Sum.elim (fun z3e => Go p l e (rmc 0 0 0) σ m args below meth c K (inW (w7 K a s0)) σ.heap 3 0 0 (MQ below (CtQ K (w7 K a s0) (some (.int res)) (w7 K a s0)) args σ 0 0 (inW (w7 K a s0))) (w7 K a s0) 28 [some (.ref (a 0)), some (.int p1), some (.int z3e)] []) (fun r => r = res) y) ?_ _ _ _ hz3 ?_
  · intro q1 x hf hk
    unfold fX7_pillarAt_L2 at hf
    refine Go_iload_n (pc := 2) C dX7_pillarAt_2 rfl ?_
    refine Go_aload_n (pc := 3) C dX7_pillarAt_3 rfl ?_
    refine Go_get (pc := 4) C 0 2 rfl rfl inX7 (by decide) mw_631 rfl dX7_pillarAt_4 ?_
    refine Go_icmp_ge (pc := 7) (tgt := 28) C dX7_pillarAt_7 (by decide) (fun hc => ?_) (fun hc => ?_)
    · replace hf := ift hc hf
      obtain rfl := Option.some.inj hf
      exact Go_mask [true, true, true] hk
    · replace hf := iff' hc hf
      refine Go_aload_n (pc := 10) C dX7_pillarAt_10 rfl ?_
      refine Go_get (pc := 11) C 0 3 rfl rfl inX7 (by decide) mw_632 rfl dX7_pillarAt_11 ?_
      refine Go_iload_n (pc := 14) C dX7_pillarAt_14 rfl ?_
      obtain ⟨hb, hf⟩ := ifs hf
      refine Go_iald (pc := 15) C 3 rfl (inb_in hb) dX7_pillarAt_15 ?_
      refine Go_iload_n (pc := 16) C dX7_pillarAt_16 rfl ?_
      refine Go_icmp_ne (pc := 17) (tgt := 22) C dX7_pillarAt_17 (by decide) (fun hc => ?_) (fun hc => ?_)
      · replace hf := ift hc hf
        refine Go_iload_n (pc := 20) C dX7_pillarAt_20 rfl ?_
        obtain rfl := Option.some.inj hf
        have hf := hk
        obtain rfl : q1 = res := hf
        exact Go_iret C hr rfl dX7_pillarAt_21
      · replace hf := iff' hc hf
        obtain ⟨v2, hv2, hf⟩ := bnd hf
        refine Go_iinc (pc := 22) (v := v2) C dX7_pillarAt_22 rfl (by rw [ci_1]; exact Option.some.inj hv2) ?_
        refine Go_goto (pc := 25) (tgt := 2) C dX7_pillarAt_25 (by decide) ?_
        obtain rfl := Option.some.inj hf
        exact Go_mask [true, true, true] hk
  · rcases z3 with z3e | r
    · show Go _ _ _ _ _ _ _ _ _ _ _ _ _ _ _ _ _ _ _ _ _
      refine Go_iconst (pc := 28) (v := -1) C dX7_pillarAt_28 ci_m1 ?_
      obtain rfl := Option.some.inj hf
      exact Go_iret C hr rfl dX7_pillarAt_29
    · exact Option.some.inj hf
def fX7_full (s0 : S7) : Option (Int32 × S7) := (if 0 ≤ (2 : Int32) ∧ (2 : Int32).toNatClampNeg < 3 then (if 0 ≤ (2 : Int32) ∧ (2 : Int32).toNatClampNeg < 3 then some ((-4 : Int32), (upd s0.1 (2 : Int32).toNatClampNeg ((s0.1 (2 : Int32).toNatClampNeg) + (1 : Int32)), s0.2)) else none) else none)
theorem ycX7_full : CalV yX7_full cX7_full 1 ((some .int)) 0 := ⟨mw_736, mw_69, mw_735, mw_23, ⟨by decide, by decide, by decide +kernel⟩, by decide⟩
set_option maxHeartbeats 4000000 in
set_option maxRecDepth 100000 in
theorem kX7_full (l : Launch) (K : KK) (a : Nat → Nat) (s0 : S7) (res : Int32 × S7) (hf : fX7_full s0 = some res) : Ct l K yX7_full cX7_full 1 ((some .int)) 0 [.ref (a 0)] (w7 K a s0) (some (.int res.1)) (w7 K a res.2) := by
  refine Ct_of2 (by decide) rfl (Nat.le_of_ble_eq_true rfl) ?_
  intro p e σ m args below meth c C hr
  unfold fX7_full at hf
  refine Go_aload_n (pc := 0) C dX7_full_0 rfl ?_
  refine Go_get (pc := 1) C 0 0 rfl rfl inX7 (by decide) mw_629 rfl dX7_full_1 ?_
  refine Go_iconst (pc := 4) (v := 2) C dX7_full_4 ci_2 ?_
  refine Go_dup2 (pc := 5) C dX7_full_5 rfl rfl ?_
  obtain ⟨hb, hf⟩ := ifs hf
  refine Go_iald (pc := 6) C 1 rfl (inb_in hb) dX7_full_6 ?_
  refine Go_iconst (pc := 7) (v := 1) C dX7_full_7 ci_1 ?_
  refine Go_iadd (pc := 8) C dX7_full_8 ?_
  obtain ⟨hb, hf⟩ := ifs hf
  refine Go_iast (pc := 9) (ws1 := (w7 K a ((upd s0.1 (2 : Int32).toNatClampNeg ((s0.1 (2 : Int32).toNatClampNeg) + (1 : Int32)), s0.2)))) C 1 rfl (inb_in hb) dX7_full_9 (ll_140 _ _ _ _) ?_
  refine Go_bipush (pc := 10) (v := -4) C dX7_full_10 cb_m4 ?_
  obtain rfl := Option.some.inj hf
  exact Go_iret C hr rfl dX7_full_12
theorem ll_151 (K : KK) (a : Nat → Nat) (t0 : S7) (y : Nat → Int32) : List.set (w7 K a t0) 5 (a 5, .inl (K.2.1, 840, .inl y)) = (w7 K a ((t0.1, t0.2.1, t0.2.2.1, t0.2.2.2.1, t0.2.2.2.2.1, t0.2.2.2.2.2.1, t0.2.2.2.2.2.2.1, t0.2.2.2.2.2.2.2.1, y, t0.2.2.2.2.2.2.2.2.2))) := rfl
def fX7_writes_L36 (s0 : S7) (p1 : Int32) (q1 : Int32 × (Nat → Int32)) : Option ((Int32 × (Nat → Int32)) ⊕ (Int32 × (Nat → Int32))) := (if (12 : Int32) ≤ q1.1 then some (.inr (q1.1, q1.2)) else (if 0 ≤ q1.1 ∧ q1.1.toNatClampNeg < 13 then (if 0 ≤ ((p1 + (4 : Int32)) + q1.1) ∧ ((p1 + (4 : Int32)) + q1.1).toNatClampNeg < 840 then (if 0 ≤ q1.1 ∧ q1.1.toNatClampNeg < 13 then (if 0 ≤ ((p1 + (16 : Int32)) + q1.1) ∧ ((p1 + (16 : Int32)) + q1.1).toNatClampNeg < 840 then Option.bind (some (q1.1 + (1 : Int32))) (fun v2 => some (.inl (v2, upd (upd q1.2 ((p1 + (4 : Int32)) + q1.1).toNatClampNeg (s0.2.2.2.1 q1.1.toNatClampNeg)) ((p1 + (16 : Int32)) + q1.1).toNatClampNeg (s0.2.2.2.2.1 q1.1.toNatClampNeg)))) else none) else none) else none) else none))
def fX7_writes_L83 (s0 : S7) (p1 : Int32) (q4 : Int32 × (Nat → Int32)) : Option ((Int32 × (Nat → Int32)) ⊕ (Int32 × (Nat → Int32))) := (if (96 : Int32) ≤ q4.1 then some (.inr (q4.1, q4.2)) else (if 0 ≤ q4.1 ∧ q4.1.toNatClampNeg < 96 then (if 0 ≤ ((p1 + (28 : Int32)) + q4.1) ∧ ((p1 + (28 : Int32)) + q4.1).toNatClampNeg < 840 then Option.bind (some (q4.1 + (1 : Int32))) (fun v5 => some (.inl (v5, upd q4.2 ((p1 + (28 : Int32)) + q4.1).toNatClampNeg (s0.2.1 q4.1.toNatClampNeg)))) else none) else none))
def fX7_writes (s0 : S7) (p1 : Int32) : Option (S7) := (if 0 ≤ p1 ∧ p1.toNatClampNeg < 840 then (if 0 ≤ (p1 + (1 : Int32)) ∧ (p1 + (1 : Int32)).toNatClampNeg < 840 then (if 0 ≤ (p1 + (2 : Int32)) ∧ (p1 + (2 : Int32)).toNatClampNeg < 840 then Option.bind (loopF (fX7_writes_L36 s0 p1) 5000 ((0 : Int32), upd (upd (upd s0.2.2.2.2.2.2.2.2.1 p1.toNatClampNeg s0.2.2.1) (p1 + (1 : Int32)).toNatClampNeg s0.2.2.2.2.2.1) (p1 + (2 : Int32)).toNatClampNeg s0.2.2.2.2.2.2.1)) (fun z3 => Option.bind (loopF (fX7_writes_L83 s0 p1) 5000 ((0 : Int32), z3.2)) (fun z6 => some ((s0.1, s0.2.1, s0.2.2.1, s0.2.2.2.1, s0.2.2.2.2.1, s0.2.2.2.2.2.1, s0.2.2.2.2.2.2.1, s0.2.2.2.2.2.2.2.1, z6.2, s0.2.2.2.2.2.2.2.2.2)))) else none) else none) else none)
theorem ycX7_writes : CalV yX7_writes cX7_writes 3 none 1 := ⟨mw_744, mw_69, mw_743, mw_25, ⟨by decide, by decide, by decide +kernel⟩, by decide⟩
set_option maxHeartbeats 4000000 in
set_option maxRecDepth 100000 in
theorem kX7_writes (l : Launch) (K : KK) (a : Nat → Nat) (s0 : S7) (p1 : Int32) (res : S7) (hf : fX7_writes s0 p1 = some res) : Ct l K yX7_writes cX7_writes 3 none 0 [.ref (a 0), .int p1] (w7 K a s0) (none) (w7 K a res) := by
  refine Ct_of2 (by decide) rfl (Nat.le_of_ble_eq_true rfl) ?_
  intro p e σ m args below meth c C hr
  unfold fX7_writes at hf
  refine Go_aload_n (pc := 0) C dX7_writes_0 rfl ?_
  refine Go_get (pc := 1) C 0 8 rfl rfl inX7 (by decide) mw_637 rfl dX7_writes_1 ?_
  refine Go_iload_n (pc := 4) C dX7_writes_4 rfl ?_
  refine Go_aload_n (pc := 5) C dX7_writes_5 rfl ?_
  refine Go_get (pc := 6) C 0 2 rfl rfl inX7 (by decide) mw_631 rfl dX7_writes_6 ?_
  obtain ⟨hb, hf⟩ := ifs hf
  refine Go_iast (pc := 9) (ws1 := (w7 K a ((s0.1, s0.2.1, s0.2.2.1, s0.2.2.2.1, s0.2.2.2.2.1, s0.2.2.2.2.2.1, s0.2.2.2.2.2.2.1, s0.2.2.2.2.2.2.2.1, upd s0.2.2.2.2.2.2.2.2.1 p1.toNatClampNeg s0.2.2.1, s0.2.2.2.2.2.2.2.2.2)))) C 5 rfl (inb_in hb) dX7_writes_9 (ll_151 _ _ _ _) ?_
  refine Go_aload_n (pc := 10) C dX7_writes_10 rfl ?_
  refine Go_get (pc := 11) C 0 8 rfl rfl inX7 (by decide) mw_637 rfl dX7_writes_11 ?_
  refine Go_iload_n (pc := 14) C dX7_writes_14 rfl ?_
  refine Go_iconst (pc := 15) (v := 1) C dX7_writes_15 ci_1 ?_
  refine Go_iadd (pc := 16) C dX7_writes_16 ?_
  refine Go_aload_n (pc := 17) C dX7_writes_17 rfl ?_
  refine Go_get (pc := 18) C 0 5 rfl rfl inX7 (by decide) mw_634 rfl dX7_writes_18 ?_
  obtain ⟨hb, hf⟩ := ifs hf
  refine Go_iast (pc := 21) (ws1 := (w7 K a ((s0.1, s0.2.1, s0.2.2.1, s0.2.2.2.1, s0.2.2.2.2.1, s0.2.2.2.2.2.1, s0.2.2.2.2.2.2.1, s0.2.2.2.2.2.2.2.1, upd (upd s0.2.2.2.2.2.2.2.2.1 p1.toNatClampNeg s0.2.2.1) (p1 + (1 : Int32)).toNatClampNeg s0.2.2.2.2.2.1, s0.2.2.2.2.2.2.2.2.2)))) C 5 rfl (inb_in hb) dX7_writes_21 (ll_151 _ _ _ _) ?_
  refine Go_aload_n (pc := 22) C dX7_writes_22 rfl ?_
  refine Go_get (pc := 23) C 0 8 rfl rfl inX7 (by decide) mw_637 rfl dX7_writes_23 ?_
  refine Go_iload_n (pc := 26) C dX7_writes_26 rfl ?_
  refine Go_iconst (pc := 27) (v := 2) C dX7_writes_27 ci_2 ?_
  refine Go_iadd (pc := 28) C dX7_writes_28 ?_
  refine Go_aload_n (pc := 29) C dX7_writes_29 rfl ?_
  refine Go_get (pc := 30) C 0 6 rfl rfl inX7 (by decide) mw_635 rfl dX7_writes_30 ?_
  obtain ⟨hb, hf⟩ := ifs hf
  refine Go_iast (pc := 33) (ws1 := (w7 K a ((s0.1, s0.2.1, s0.2.2.1, s0.2.2.2.1, s0.2.2.2.2.1, s0.2.2.2.2.2.1, s0.2.2.2.2.2.2.1, s0.2.2.2.2.2.2.2.1, upd (upd (upd s0.2.2.2.2.2.2.2.2.1 p1.toNatClampNeg s0.2.2.1) (p1 + (1 : Int32)).toNatClampNeg s0.2.2.2.2.2.1) (p1 + (2 : Int32)).toNatClampNeg s0.2.2.2.2.2.2.1, s0.2.2.2.2.2.2.2.2.2)))) C 5 rfl (inb_in hb) dX7_writes_33 (ll_151 _ _ _ _) ?_
  refine Go_iconst (pc := 34) (v := 0) C dX7_writes_34 ci_0 ?_
  refine Go_istore_n (pc := 35) C dX7_writes_35 (by decide) ?_
  obtain ⟨z3, hz3, hf⟩ := bnd hf
  refine Go_mask [true, true, true] ?_
  refine loopF_go (step := (fX7_writes_L36 s0 p1)) (fun q1 => Go p l e (rmc 0 0 0) σ m args below meth c K (inW (w7 K a s0)) σ.heap 3 0 0 (MQ below (CtQ K (w7 K a s0) (none) (w7 K a res)) args σ 0 0 (inW (w7 K a s0))) (w7 K a ((s0.1, s0.2.1, s0.2.2.1, s0.2.2.2.1, s0.2.2.2.2.1, s0.2.2.2.2.2.1, s0.2.2.2.2.2.2.1, s0.2.2.2.2.2.2.2.1, q1.2, s0.2.2.2.2.2.2.2.2.2))) 36 [some (.ref (a 0)), some (.int p1), some (.int q1.1)] []) (fun z3 => Go p l e (rmc 0 0 0) σ m args below meth c K (inW (w7 K a s0)) σ.heap 3 0 0 (MQ below (CtQ K (w7 K a s0) (none) (w7 K a res)) args σ 0 0 (inW (w7 K a s0))) (w7 K a ((s0.1, s0.2.1, s0.2.2.1, s0.2.2.2.1, s0.2.2.2.2.1, s0.2.2.2.2.2.1, s0.2.2.2.2.2.2.1, s0.2.2.2.2.2.2.2.1, z3.2, s0.2.2.2.2.2.2.2.2.2))) 81 [some (.ref (a 0)), some (.int p1), some (.int z3.1)] []) ?_ _ _ _ hz3 ?_
  · intro q1 x hf hk
    unfold fX7_writes_L36 at hf
    refine Go_iload_n (pc := 36) C dX7_writes_36 rfl ?_
    refine Go_bipush (pc := 37) (v := 12) C dX7_writes_37 cb_12 ?_
    refine Go_icmp_ge (pc := 39) (tgt := 81) C dX7_writes_39 (by decide) (fun hc => ?_) (fun hc => ?_)
    · replace hf := ift hc hf
      obtain rfl := Option.some.inj hf
      exact Go_mask [true, true, true] hk
    · replace hf := iff' hc hf
      refine Go_aload_n (pc := 42) C dX7_writes_42 rfl ?_
      refine Go_get (pc := 43) C 0 8 rfl rfl inX7 (by decide) mw_637 rfl dX7_writes_43 ?_
      refine Go_iload_n (pc := 46) C dX7_writes_46 rfl ?_
      refine Go_iconst (pc := 47) (v := 4) C dX7_writes_47 ci_4 ?_
      refine Go_iadd (pc := 48) C dX7_writes_48 ?_
      refine Go_iload_n (pc := 49) C dX7_writes_49 rfl ?_
      refine Go_iadd (pc := 50) C dX7_writes_50 ?_
      refine Go_aload_n (pc := 51) C dX7_writes_51 rfl ?_
      refine Go_get (pc := 52) C 0 3 rfl rfl inX7 (by decide) mw_632 rfl dX7_writes_52 ?_
      refine Go_iload_n (pc := 55) C dX7_writes_55 rfl ?_
      obtain ⟨hb, hf⟩ := ifs hf
      refine Go_iald (pc := 56) C 3 rfl (inb_in hb) dX7_writes_56 ?_
      obtain ⟨hb, hf⟩ := ifs hf
      refine Go_iast (pc := 57) (ws1 := (w7 K a ((s0.1, s0.2.1, s0.2.2.1, s0.2.2.2.1, s0.2.2.2.2.1, s0.2.2.2.2.2.1, s0.2.2.2.2.2.2.1, s0.2.2.2.2.2.2.2.1, upd q1.2 ((p1 + (4 : Int32)) + q1.1).toNatClampNeg (s0.2.2.2.1 q1.1.toNatClampNeg), s0.2.2.2.2.2.2.2.2.2)))) C 5 rfl (inb_in hb) dX7_writes_57 (ll_151 _ _ _ _) ?_
      refine Go_aload_n (pc := 58) C dX7_writes_58 rfl ?_
      refine Go_get (pc := 59) C 0 8 rfl rfl inX7 (by decide) mw_637 rfl dX7_writes_59 ?_
      refine Go_iload_n (pc := 62) C dX7_writes_62 rfl ?_
      refine Go_bipush (pc := 63) (v := 16) C dX7_writes_63 cb_16 ?_
      refine Go_iadd (pc := 65) C dX7_writes_65 ?_
      refine Go_iload_n (pc := 66) C dX7_writes_66 rfl ?_
      refine Go_iadd (pc := 67) C dX7_writes_67 ?_
      refine Go_aload_n (pc := 68) C dX7_writes_68 rfl ?_
      refine Go_get (pc := 69) C 0 4 rfl rfl inX7 (by decide) mw_633 rfl dX7_writes_69 ?_
      refine Go_iload_n (pc := 72) C dX7_writes_72 rfl ?_
      obtain ⟨hb, hf⟩ := ifs hf
      refine Go_iald (pc := 73) C 4 rfl (inb_in hb) dX7_writes_73 ?_
      obtain ⟨hb, hf⟩ := ifs hf
      refine Go_iast (pc := 74) (ws1 := (w7 K a ((s0.1, s0.2.1, s0.2.2.1, s0.2.2.2.1, s0.2.2.2.2.1, s0.2.2.2.2.2.1, s0.2.2.2.2.2.2.1, s0.2.2.2.2.2.2.2.1, upd (upd q1.2 ((p1 + (4 : Int32)) + q1.1).toNatClampNeg (s0.2.2.2.1 q1.1.toNatClampNeg)) ((p1 + (16 : Int32)) + q1.1).toNatClampNeg (s0.2.2.2.2.1 q1.1.toNatClampNeg), s0.2.2.2.2.2.2.2.2.2)))) C 5 rfl (inb_in hb) dX7_writes_74 (ll_151 _ _ _ _) ?_
      obtain ⟨v2, hv2, hf⟩ := bnd hf
      refine Go_iinc (pc := 75) (v := v2) C dX7_writes_75 rfl (by rw [ci_1]; exact Option.some.inj hv2) ?_
      refine Go_goto (pc := 78) (tgt := 36) C dX7_writes_78 (by decide) ?_
      obtain rfl := Option.some.inj hf
      exact Go_mask [true, true, true] hk
  · show Go _ _ _ _ _ _ _ _ _ _ _ _ _ _ _ _ _ _ _ _ _
    refine Go_iconst (pc := 81) (v := 0) C dX7_writes_81 ci_0 ?_
    refine Go_istore_n (pc := 82) C dX7_writes_82 (by decide) ?_
    obtain ⟨z6, hz6, hf⟩ := bnd hf
    refine Go_mask [true, true, true] ?_
    refine loopF_go (step := (fX7_writes_L83 s0 p1)) (fun q4 => Go p l e (rmc 0 0 0) σ m args below meth c K (inW (w7 K a s0)) σ.heap 3 0 0 (MQ below (CtQ K (w7 K a s0) (none) (w7 K a res)) args σ 0 0 (inW (w7 K a s0))) (w7 K a ((s0.1, s0.2.1, s0.2.2.1, s0.2.2.2.1, s0.2.2.2.2.1, s0.2.2.2.2.2.1, s0.2.2.2.2.2.2.1, s0.2.2.2.2.2.2.2.1, q4.2, s0.2.2.2.2.2.2.2.2.2))) 83 [some (.ref (a 0)), some (.int p1), some (.int q4.1)] []) (fun z6 => Go p l e (rmc 0 0 0) σ m args below meth c K (inW (w7 K a s0)) σ.heap 3 0 0 (MQ below (CtQ K (w7 K a s0) (none) (w7 K a res)) args σ 0 0 (inW (w7 K a s0))) (w7 K a ((s0.1, s0.2.1, s0.2.2.1, s0.2.2.2.1, s0.2.2.2.2.1, s0.2.2.2.2.2.1, s0.2.2.2.2.2.2.1, s0.2.2.2.2.2.2.2.1, z6.2, s0.2.2.2.2.2.2.2.2.2))) 112 [some (.ref (a 0)), some (.int p1), some (.int z6.1)] []) ?_ _ _ _ hz6 ?_
    · intro q4 x hf hk
      unfold fX7_writes_L83 at hf
      refine Go_iload_n (pc := 83) C dX7_writes_83 rfl ?_
      refine Go_bipush (pc := 84) (v := 96) C dX7_writes_84 cb_96 ?_
      refine Go_icmp_ge (pc := 86) (tgt := 112) C dX7_writes_86 (by decide) (fun hc => ?_) (fun hc => ?_)
      · replace hf := ift hc hf
        obtain rfl := Option.some.inj hf
        exact Go_mask [true, true, true] hk
      · replace hf := iff' hc hf
        refine Go_aload_n (pc := 89) C dX7_writes_89 rfl ?_
        refine Go_get (pc := 90) C 0 8 rfl rfl inX7 (by decide) mw_637 rfl dX7_writes_90 ?_
        refine Go_iload_n (pc := 93) C dX7_writes_93 rfl ?_
        refine Go_bipush (pc := 94) (v := 28) C dX7_writes_94 cb_28 ?_
        refine Go_iadd (pc := 96) C dX7_writes_96 ?_
        refine Go_iload_n (pc := 97) C dX7_writes_97 rfl ?_
        refine Go_iadd (pc := 98) C dX7_writes_98 ?_
        refine Go_aload_n (pc := 99) C dX7_writes_99 rfl ?_
        refine Go_get (pc := 100) C 0 1 rfl rfl inX7 (by decide) mw_630 rfl dX7_writes_100 ?_
        refine Go_iload_n (pc := 103) C dX7_writes_103 rfl ?_
        obtain ⟨hb, hf⟩ := ifs hf
        refine Go_iald (pc := 104) C 2 rfl (inb_in hb) dX7_writes_104 ?_
        obtain ⟨hb, hf⟩ := ifs hf
        refine Go_iast (pc := 105) (ws1 := (w7 K a ((s0.1, s0.2.1, s0.2.2.1, s0.2.2.2.1, s0.2.2.2.2.1, s0.2.2.2.2.2.1, s0.2.2.2.2.2.2.1, s0.2.2.2.2.2.2.2.1, upd q4.2 ((p1 + (28 : Int32)) + q4.1).toNatClampNeg (s0.2.1 q4.1.toNatClampNeg), s0.2.2.2.2.2.2.2.2.2)))) C 5 rfl (inb_in hb) dX7_writes_105 (ll_151 _ _ _ _) ?_
        obtain ⟨v5, hv5, hf⟩ := bnd hf
        refine Go_iinc (pc := 106) (v := v5) C dX7_writes_106 rfl (by rw [ci_1]; exact Option.some.inj hv5) ?_
        refine Go_goto (pc := 109) (tgt := 83) C dX7_writes_109 (by decide) ?_
        obtain rfl := Option.some.inj hf
        exact Go_mask [true, true, true] hk
    · show Go _ _ _ _ _ _ _ _ _ _ _ _ _ _ _ _ _ _ _ _ _
      obtain rfl := Option.some.inj hf
      exact Go_vret C hr rfl dX7_writes_112
def fX7_leavesState_L11  (q1 : Int32 × (Nat → Int32)) : Option ((Int32 × (Nat → Int32)) ⊕ (Int32 × (Nat → Int32))) := (if (700 : Int32) ≤ q1.1 then some (.inr (q1.1, q1.2)) else (if 0 ≤ (q1.1 + (140 : Int32)) ∧ (q1.1 + (140 : Int32)).toNatClampNeg < 840 then (if 0 ≤ q1.1 ∧ q1.1.toNatClampNeg < 840 then Option.bind (some (q1.1 + (1 : Int32))) (fun v2 => some (.inl (v2, upd q1.2 q1.1.toNatClampNeg (q1.2 (q1.1 + (140 : Int32)).toNatClampNeg)))) else none) else none))
def fX7_leavesState (s0 : S7) : Option (S7) := (if s0.2.2.2.2.2.2.2.1 = (6 : Int32) then Option.bind (loopF (fX7_leavesState_L11) 5000 ((0 : Int32), s0.2.2.2.2.2.2.2.2.1)) (fun z3 => Option.bind (fX7_writes ((s0.1, s0.2.1, s0.2.2.1, s0.2.2.2.1, s0.2.2.2.2.1, s0.2.2.2.2.2.1, s0.2.2.2.2.2.2.1, s0.2.2.2.2.2.2.2.1 - (1 : Int32), z3.2, s0.2.2.2.2.2.2.2.2.2)) ((140 : Int32) * (s0.2.2.2.2.2.2.2.1 - (1 : Int32)))) (fun r4 => some ((r4.1, r4.2.1, r4.2.2.1, r4.2.2.2.1, r4.2.2.2.2.1, r4.2.2.2.2.2.1, r4.2.2.2.2.2.2.1, r4.2.2.2.2.2.2.2.1 + (1 : Int32), r4.2.2.2.2.2.2.2.2)))) else Option.bind (fX7_writes s0 ((140 : Int32) * s0.2.2.2.2.2.2.2.1)) (fun r5 => some ((r5.1, r5.2.1, r5.2.2.1, r5.2.2.2.1, r5.2.2.2.2.1, r5.2.2.2.2.2.1, r5.2.2.2.2.2.2.1, r5.2.2.2.2.2.2.2.1 + (1 : Int32), r5.2.2.2.2.2.2.2.2))))
theorem ycX7_leavesState : CalV yX7_leavesState cX7_leavesState 2 none 0 := ⟨mw_740, mw_69, mw_739, mw_24, ⟨by decide, by decide, by decide +kernel⟩, by decide⟩
set_option maxHeartbeats 4000000 in
set_option maxRecDepth 100000 in
theorem kX7_leavesState (l : Launch) (K : KK) (a : Nat → Nat) (s0 : S7) (res : S7) (hf : fX7_leavesState s0 = some res) : Ct l K yX7_leavesState cX7_leavesState 2 none 1 [.ref (a 0)] (w7 K a s0) (none) (w7 K a res) := by
  refine Ct_of2 (by decide) rfl (Nat.le_of_ble_eq_true rfl) ?_
  intro p e σ m args below meth c C hr
  unfold fX7_leavesState at hf
  refine Go_aload_n (pc := 0) C dX7_leavesState_0 rfl ?_
  refine Go_get (pc := 1) C 0 7 rfl rfl inX7 (by decide) mw_636 rfl dX7_leavesState_1 ?_
  refine Go_bipush (pc := 4) (v := 6) C dX7_leavesState_4 cb_6 ?_
  refine Go_icmp_ne (pc := 6) (tgt := 50) C dX7_leavesState_6 (by decide) (fun hc => ?_) (fun hc => ?_)
  · replace hf := ift hc hf
    refine Go_iconst (pc := 9) (v := 0) C dX7_leavesState_9 ci_0 ?_
    refine Go_istore_n (pc := 10) C dX7_leavesState_10 (by decide) ?_
    obtain ⟨z3, hz3, hf⟩ := bnd hf
    refine Go_mask [true, true] ?_
    refine loopF_go (step := (fX7_leavesState_L11)) (fun q1 => Go p l e (rmc 1 0 0) σ m args below meth c K (inW (w7 K a s0)) σ.heap 2 0 0 (MQ below (CtQ K (w7 K a s0) (none) (w7 K a res)) args σ 0 0 (inW (w7 K a s0))) (w7 K a ((s0.1, s0.2.1, s0.2.2.1, s0.2.2.2.1, s0.2.2.2.2.1, s0.2.2.2.2.2.1, s0.2.2.2.2.2.2.1, s0.2.2.2.2.2.2.2.1, q1.2, s0.2.2.2.2.2.2.2.2.2))) 11 [some (.ref (a 0)), some (.int q1.1)] []) (fun z3 => Go p l e (rmc 1 0 0) σ m args below meth c K (inW (w7 K a s0)) σ.heap 2 0 0 (MQ below (CtQ K (w7 K a s0) (none) (w7 K a res)) args σ 0 0 (inW (w7 K a s0))) (w7 K a ((s0.1, s0.2.1, s0.2.2.1, s0.2.2.2.1, s0.2.2.2.2.1, s0.2.2.2.2.2.1, s0.2.2.2.2.2.2.1, s0.2.2.2.2.2.2.2.1, z3.2, s0.2.2.2.2.2.2.2.2.2))) 40 [some (.ref (a 0)), some (.int z3.1)] []) ?_ _ _ _ hz3 ?_
    · intro q1 x hf hk
      unfold fX7_leavesState_L11 at hf
      refine Go_iload_n (pc := 11) C dX7_leavesState_11 rfl ?_
      refine Go_sipush (pc := 12) (v := 700) C dX7_leavesState_12 cs_700 ?_
      refine Go_icmp_ge (pc := 15) (tgt := 40) C dX7_leavesState_15 (by decide) (fun hc => ?_) (fun hc => ?_)
      · replace hf := ift hc hf
        obtain rfl := Option.some.inj hf
        exact Go_mask [true, true] hk
      · replace hf := iff' hc hf
        refine Go_aload_n (pc := 18) C dX7_leavesState_18 rfl ?_
        refine Go_get (pc := 19) C 0 8 rfl rfl inX7 (by decide) mw_637 rfl dX7_leavesState_19 ?_
        refine Go_iload_n (pc := 22) C dX7_leavesState_22 rfl ?_
        refine Go_aload_n (pc := 23) C dX7_leavesState_23 rfl ?_
        refine Go_get (pc := 24) C 0 8 rfl rfl inX7 (by decide) mw_637 rfl dX7_leavesState_24 ?_
        refine Go_iload_n (pc := 27) C dX7_leavesState_27 rfl ?_
        refine Go_sipush (pc := 28) (v := 140) C dX7_leavesState_28 cs_140 ?_
        refine Go_iadd (pc := 31) C dX7_leavesState_31 ?_
        obtain ⟨hb, hf⟩ := ifs hf
        refine Go_iald (pc := 32) C 5 rfl (inb_in hb) dX7_leavesState_32 ?_
        obtain ⟨hb, hf⟩ := ifs hf
        refine Go_iast (pc := 33) (ws1 := (w7 K a ((s0.1, s0.2.1, s0.2.2.1, s0.2.2.2.1, s0.2.2.2.2.1, s0.2.2.2.2.2.1, s0.2.2.2.2.2.2.1, s0.2.2.2.2.2.2.2.1, upd q1.2 q1.1.toNatClampNeg (q1.2 (q1.1 + (140 : Int32)).toNatClampNeg), s0.2.2.2.2.2.2.2.2.2)))) C 5 rfl (inb_in hb) dX7_leavesState_33 (ll_151 _ _ _ _) ?_
        obtain ⟨v2, hv2, hf⟩ := bnd hf
        refine Go_iinc (pc := 34) (v := v2) C dX7_leavesState_34 rfl (by rw [ci_1]; exact Option.some.inj hv2) ?_
        refine Go_goto (pc := 37) (tgt := 11) C dX7_leavesState_37 (by decide) ?_
        obtain rfl := Option.some.inj hf
        exact Go_mask [true, true] hk
    · show Go _ _ _ _ _ _ _ _ _ _ _ _ _ _ _ _ _ _ _ _ _
      refine Go_aload_n (pc := 40) C dX7_leavesState_40 rfl ?_
      refine Go_dup (pc := 41) C dX7_leavesState_41 rfl ?_
      refine Go_get (pc := 42) C 0 7 rfl rfl inX7 (by decide) mw_636 rfl dX7_leavesState_42 ?_
      refine Go_iconst (pc := 45) (v := 1) C dX7_leavesState_45 ci_1 ?_
      refine Go_isub (pc := 46) C dX7_leavesState_46 ?_
      refine Go_put (pc := 47) (ws1 := (w7 K a ((s0.1, s0.2.1, s0.2.2.1, s0.2.2.2.1, s0.2.2.2.2.1, s0.2.2.2.2.2.1, s0.2.2.2.2.2.2.1, s0.2.2.2.2.2.2.2.1 - (1 : Int32), z3.2, s0.2.2.2.2.2.2.2.2.2)))) C 0 7 tyX7 tyX7_ok nmX7 rfl rfl inX7 (by decide) mw_636 rfl rfl (Nat.le_of_ble_eq_true rfl) dX7_leavesState_47 (ll_141 _ _ _ _) ?_
      refine Go_aload_n (pc := 50) C dX7_leavesState_50 rfl ?_
      refine Go_sipush (pc := 51) (v := 140) C dX7_leavesState_51 cs_140 ?_
      refine Go_aload_n (pc := 54) C dX7_leavesState_54 rfl ?_
      refine Go_get (pc := 55) C 0 7 rfl rfl inX7 (by decide) mw_636 rfl dX7_leavesState_55 ?_
      refine Go_imul (pc := 58) C dX7_leavesState_58 ?_
      obtain ⟨r4, hr4, hf⟩ := bnd hf
      refine Go_callV0 (pc := 59) (ws1 := (w7 K a r4)) C 0 (0 :: 1 :: 2 :: 3 :: 4 :: 5 :: 6 :: 7 :: 8 :: 9 :: 10 :: 11 :: 12 :: 13 :: []) (kX7_writes l K (pk a (0 :: 1 :: 2 :: 3 :: 4 :: 5 :: 6 :: 7 :: 8 :: 9 :: 10 :: 11 :: 12 :: 13 :: [])) ((s0.1, s0.2.1, s0.2.2.1, s0.2.2.2.1, s0.2.2.2.2.1, s0.2.2.2.2.2.1, s0.2.2.2.2.2.2.1, s0.2.2.2.2.2.2.2.1 - (1 : Int32), z3.2, s0.2.2.2.2.2.2.2.2.2)) ((140 : Int32) * (s0.2.2.2.2.2.2.2.1 - (1 : Int32))) r4 hr4) ycX7_writes mw_741 (Nat.le_of_ble_eq_true rfl) rfl rfl rfl rfl (Nat.le_of_ble_eq_true rfl) ⟨Nat.zero_le _, Nat.zero_le _⟩ dX7_leavesState_59 (ll_149 _ _ _) rfl rfl (ll_150 _ _ _ _) ?_
      refine Go_aload_n (pc := 62) C dX7_leavesState_62 rfl ?_
      refine Go_dup (pc := 63) C dX7_leavesState_63 rfl ?_
      refine Go_get (pc := 64) C 0 7 rfl rfl inX7 (by decide) mw_636 rfl dX7_leavesState_64 ?_
      refine Go_iconst (pc := 67) (v := 1) C dX7_leavesState_67 ci_1 ?_
      refine Go_iadd (pc := 68) C dX7_leavesState_68 ?_
      refine Go_put (pc := 69) (ws1 := (w7 K a ((r4.1, r4.2.1, r4.2.2.1, r4.2.2.2.1, r4.2.2.2.2.1, r4.2.2.2.2.2.1, r4.2.2.2.2.2.2.1, r4.2.2.2.2.2.2.2.1 + (1 : Int32), r4.2.2.2.2.2.2.2.2)))) C 0 7 tyX7 tyX7_ok nmX7 rfl rfl inX7 (by decide) mw_636 rfl rfl (Nat.le_of_ble_eq_true rfl) dX7_leavesState_69 (ll_141 _ _ _ _) ?_
      obtain rfl := Option.some.inj hf
      exact Go_vret C hr rfl dX7_leavesState_72
  · replace hf := iff' hc hf
    refine Go_aload_n (pc := 50) C dX7_leavesState_50 rfl ?_
    refine Go_sipush (pc := 51) (v := 140) C dX7_leavesState_51 cs_140 ?_
    refine Go_aload_n (pc := 54) C dX7_leavesState_54 rfl ?_
    refine Go_get (pc := 55) C 0 7 rfl rfl inX7 (by decide) mw_636 rfl dX7_leavesState_55 ?_
    refine Go_imul (pc := 58) C dX7_leavesState_58 ?_
    obtain ⟨r5, hr5, hf⟩ := bnd hf
    refine Go_callV0 (pc := 59) (ws1 := (w7 K a r5)) C 0 (0 :: 1 :: 2 :: 3 :: 4 :: 5 :: 6 :: 7 :: 8 :: 9 :: 10 :: 11 :: 12 :: 13 :: []) (kX7_writes l K (pk a (0 :: 1 :: 2 :: 3 :: 4 :: 5 :: 6 :: 7 :: 8 :: 9 :: 10 :: 11 :: 12 :: 13 :: [])) s0 ((140 : Int32) * s0.2.2.2.2.2.2.2.1) r5 hr5) ycX7_writes mw_741 (Nat.le_of_ble_eq_true rfl) rfl rfl rfl rfl (Nat.le_of_ble_eq_true rfl) ⟨Nat.zero_le _, Nat.zero_le _⟩ dX7_leavesState_59 (ll_149 _ _ _) rfl rfl (ll_150 _ _ _ _) ?_
    refine Go_aload_n (pc := 62) C dX7_leavesState_62 rfl ?_
    refine Go_dup (pc := 63) C dX7_leavesState_63 rfl ?_
    refine Go_get (pc := 64) C 0 7 rfl rfl inX7 (by decide) mw_636 rfl dX7_leavesState_64 ?_
    refine Go_iconst (pc := 67) (v := 1) C dX7_leavesState_67 ci_1 ?_
    refine Go_iadd (pc := 68) C dX7_leavesState_68 ?_
    refine Go_put (pc := 69) (ws1 := (w7 K a ((r5.1, r5.2.1, r5.2.2.1, r5.2.2.2.1, r5.2.2.2.2.1, r5.2.2.2.2.2.1, r5.2.2.2.2.2.2.1, r5.2.2.2.2.2.2.2.1 + (1 : Int32), r5.2.2.2.2.2.2.2.2)))) C 0 7 tyX7 tyX7_ok nmX7 rfl rfl inX7 (by decide) mw_636 rfl rfl (Nat.le_of_ble_eq_true rfl) dX7_leavesState_69 (ll_141 _ _ _ _) ?_
    obtain rfl := Option.some.inj hf
    exact Go_vret C hr rfl dX7_leavesState_72
def fX7_comesPillar (s0 : S7) (p1 : Int32) (p2 : Int32) : Option (S7) := (if 0 ≤ s0.2.2.1 ∧ s0.2.2.1.toNatClampNeg < 13 then (if 0 ≤ s0.2.2.1 ∧ s0.2.2.1.toNatClampNeg < 13 then some ((s0.1, s0.2.1, s0.2.2.1 + (1 : Int32), upd s0.2.2.2.1 s0.2.2.1.toNatClampNeg p1, upd s0.2.2.2.2.1 s0.2.2.1.toNatClampNeg p2, s0.2.2.2.2.2.1 ||| ((1 : Int32) <<< (s0.2.2.1 &&& 31)), s0.2.2.2.2.2.2)) else none) else none)
theorem ycX7_comesPillar : CalV yX7_comesPillar cX7_comesPillar 3 none 2 := ⟨mw_748, mw_69, mw_747, mw_26, ⟨by decide, by decide, by decide +kernel⟩, by decide⟩
set_option maxHeartbeats 4000000 in
set_option maxRecDepth 100000 in
theorem kX7_comesPillar (l : Launch) (K : KK) (a : Nat → Nat) (s0 : S7) (p1 : Int32) (p2 : Int32) (res : S7) (hf : fX7_comesPillar s0 p1 p2 = some res) : Ct l K yX7_comesPillar cX7_comesPillar 3 none 0 [.ref (a 0), .int p1, .int p2] (w7 K a s0) (none) (w7 K a res) := by
  refine Ct_of2 (by decide) rfl (Nat.le_of_ble_eq_true rfl) ?_
  intro p e σ m args below meth c C hr
  unfold fX7_comesPillar at hf
  refine Go_aload_n (pc := 0) C dX7_comesPillar_0 rfl ?_
  refine Go_get (pc := 1) C 0 3 rfl rfl inX7 (by decide) mw_632 rfl dX7_comesPillar_1 ?_
  refine Go_aload_n (pc := 4) C dX7_comesPillar_4 rfl ?_
  refine Go_get (pc := 5) C 0 2 rfl rfl inX7 (by decide) mw_631 rfl dX7_comesPillar_5 ?_
  refine Go_iload_n (pc := 8) C dX7_comesPillar_8 rfl ?_
  obtain ⟨hb, hf⟩ := ifs hf
  refine Go_iast (pc := 9) (ws1 := (w7 K a ((s0.1, s0.2.1, s0.2.2.1, upd s0.2.2.2.1 s0.2.2.1.toNatClampNeg p1, s0.2.2.2.2)))) C 3 rfl (inb_in hb) dX7_comesPillar_9 (ll_145 _ _ _ _) ?_
  refine Go_aload_n (pc := 10) C dX7_comesPillar_10 rfl ?_
  refine Go_get (pc := 11) C 0 4 rfl rfl inX7 (by decide) mw_633 rfl dX7_comesPillar_11 ?_
  refine Go_aload_n (pc := 14) C dX7_comesPillar_14 rfl ?_
  refine Go_get (pc := 15) C 0 2 rfl rfl inX7 (by decide) mw_631 rfl dX7_comesPillar_15 ?_
  refine Go_iload_n (pc := 18) C dX7_comesPillar_18 rfl ?_
  obtain ⟨hb, hf⟩ := ifs hf
  refine Go_iast (pc := 19) (ws1 := (w7 K a ((s0.1, s0.2.1, s0.2.2.1, upd s0.2.2.2.1 s0.2.2.1.toNatClampNeg p1, upd s0.2.2.2.2.1 s0.2.2.1.toNatClampNeg p2, s0.2.2.2.2.2)))) C 4 rfl (inb_in hb) dX7_comesPillar_19 (ll_146 _ _ _ _) ?_
  refine Go_aload_n (pc := 20) C dX7_comesPillar_20 rfl ?_
  refine Go_dup (pc := 21) C dX7_comesPillar_21 rfl ?_
  refine Go_get (pc := 22) C 0 5 rfl rfl inX7 (by decide) mw_634 rfl dX7_comesPillar_22 ?_
  refine Go_iconst (pc := 25) (v := 1) C dX7_comesPillar_25 ci_1 ?_
  refine Go_aload_n (pc := 26) C dX7_comesPillar_26 rfl ?_
  refine Go_get (pc := 27) C 0 2 rfl rfl inX7 (by decide) mw_631 rfl dX7_comesPillar_27 ?_
  refine Go_ishl (pc := 30) C dX7_comesPillar_30 ?_
  refine Go_ior (pc := 31) C dX7_comesPillar_31 ?_
  refine Go_put (pc := 32) (ws1 := (w7 K a ((s0.1, s0.2.1, s0.2.2.1, upd s0.2.2.2.1 s0.2.2.1.toNatClampNeg p1, upd s0.2.2.2.2.1 s0.2.2.1.toNatClampNeg p2, s0.2.2.2.2.2.1 ||| ((1 : Int32) <<< (s0.2.2.1 &&& 31)), s0.2.2.2.2.2.2)))) C 0 5 tyX7 tyX7_ok nmX7 rfl rfl inX7 (by decide) mw_634 rfl rfl (Nat.le_of_ble_eq_true rfl) dX7_comesPillar_32 (ll_143 _ _ _ _) ?_
  refine Go_aload_n (pc := 35) C dX7_comesPillar_35 rfl ?_
  refine Go_dup (pc := 36) C dX7_comesPillar_36 rfl ?_
  refine Go_get (pc := 37) C 0 2 rfl rfl inX7 (by decide) mw_631 rfl dX7_comesPillar_37 ?_
  refine Go_iconst (pc := 40) (v := 1) C dX7_comesPillar_40 ci_1 ?_
  refine Go_iadd (pc := 41) C dX7_comesPillar_41 ?_
  refine Go_put (pc := 42) (ws1 := (w7 K a ((s0.1, s0.2.1, s0.2.2.1 + (1 : Int32), upd s0.2.2.2.1 s0.2.2.1.toNatClampNeg p1, upd s0.2.2.2.2.1 s0.2.2.1.toNatClampNeg p2, s0.2.2.2.2.2.1 ||| ((1 : Int32) <<< (s0.2.2.1 &&& 31)), s0.2.2.2.2.2.2)))) C 0 2 tyX7 tyX7_ok nmX7 rfl rfl inX7 (by decide) mw_631 rfl rfl (Nat.le_of_ble_eq_true rfl) dX7_comesPillar_42 (ll_142 _ _ _ _) ?_
  obtain rfl := Option.some.inj hf
  exact Go_vret C hr rfl dX7_comesPillar_45
def fX7_pillar (s0 : S7) (p1 : Int32) (p2 : Int32) : Option (Int32 × S7) := Option.bind (fX7_isCell p1) (fun r1 => (if r1 = 0 then Option.bind (fX7_bad s0) (fun r2 => some (r2.1, r2.2)) else Option.bind (fX7_in p2 (0 : Int32) (999 : Int32)) (fun r3 => (if r3 = 0 then Option.bind (fX7_bad s0) (fun r4 => some (r4.1, r4.2)) else Option.bind (fX7_pillarAt s0 p1) (fun r5 => (if r5 = (-1 : Int32) then (if s0.2.2.1 = (12 : Int32) then Option.bind (fX7_full s0) (fun r6 => some (r6.1, r6.2)) else Option.bind (fX7_leavesState s0) (fun r7 => Option.bind (fX7_comesPillar r7 p1 p2) (fun r8 => some (r8.2.2.1 - (1 : Int32), r8)))) else Option.bind (fX7_no s0) (fun r9 => some (r9.1, r9.2))))))))
theorem ycX7_pillar : CalV yX7_pillar cX7_pillar 3 ((some .int)) 2 := ⟨mw_718, mw_69, mw_716, mw_717, ⟨by decide, by decide, by decide +kernel⟩, by decide⟩
set_option maxHeartbeats 4000000 in
set_option maxRecDepth 100000 in
theorem kX7_pillar (l : Launch) (K : KK) (a : Nat → Nat) (s0 : S7) (p1 : Int32) (p2 : Int32) (res : Int32 × S7) (hf : fX7_pillar s0 p1 p2 = some res) : Ct l K yX7_pillar cX7_pillar 3 ((some .int)) 2 [.ref (a 0), .int p1, .int p2] (w7 K a s0) (some (.int res.1)) (w7 K a res.2) := by
  refine Ct_of2 (by decide) rfl (Nat.le_of_ble_eq_true rfl) ?_
  intro p e σ m args below meth c C hr
  unfold fX7_pillar at hf
  refine Go_iload_n (pc := 0) C dX7_pillar_0 rfl ?_
  obtain ⟨r1, hr1, hf⟩ := bnd hf
  refine Go_callS1 (pc := 1) (ws1 := (w7 K a s0)) C [] (kX7_isCell l K p1 r1 hr1) ycX7_isCell mw_719 (Nat.le_of_ble_eq_true rfl) rfl rfl (Nat.le_of_ble_eq_true rfl) ⟨Nat.zero_le _, Nat.zero_le _⟩ dX7_pillar_1 rfl rfl rfl (Wr_same rfl) ?_
  refine Go_if_eq (pc := 4) (tgt := 18) C dX7_pillar_4 (by decide) (fun hc => ?_) (fun hc => ?_)
  · replace hf := ift hc hf
    refine Go_aload_n (pc := 18) C dX7_pillar_18 rfl ?_
    obtain ⟨r2, hr2, hf⟩ := bnd hf
    refine Go_callV1 (pc := 19) (ws1 := (w7 K a r2.2)) C 0 (0 :: 1 :: 2 :: 3 :: 4 :: 5 :: 6 :: 7 :: 8 :: 9 :: 10 :: 11 :: 12 :: 13 :: []) (kX7_bad l K (pk a (0 :: 1 :: 2 :: 3 :: 4 :: 5 :: 6 :: 7 :: 8 :: 9 :: 10 :: 11 :: 12 :: 13 :: [])) s0 r2 hr2) ycX7_bad mw_725 (Nat.le_of_ble_eq_true rfl) rfl rfl rfl rfl (Nat.le_of_ble_eq_true rfl) ⟨Nat.zero_le _, Nat.zero_le _⟩ dX7_pillar_19 (ll_149 _ _ _) rfl rfl (ll_150 _ _ _ _) ?_
    obtain rfl := Option.some.inj hf
    exact Go_iret C hr rfl dX7_pillar_22
  · replace hf := iff' hc hf
    refine Go_iload_n (pc := 7) C dX7_pillar_7 rfl ?_
    refine Go_iconst (pc := 8) (v := 0) C dX7_pillar_8 ci_0 ?_
    refine Go_sipush (pc := 9) (v := 999) C dX7_pillar_9 cs_999 ?_
    obtain ⟨r3, hr3, hf⟩ := bnd hf
    refine Go_callS1 (pc := 12) (ws1 := (w7 K a s0)) C [] (kX7_in l K p2 (0 : Int32) (999 : Int32) r3 hr3) ycX7_in mw_722 (Nat.le_of_ble_eq_true rfl) rfl rfl (Nat.le_of_ble_eq_true rfl) ⟨Nat.zero_le _, Nat.zero_le _⟩ dX7_pillar_12 rfl rfl rfl (Wr_same rfl) ?_
    refine Go_if_ne (pc := 15) (tgt := 23) C dX7_pillar_15 (by decide) (fun hc => ?_) (fun hc => ?_)
    · replace hf := ift hc hf
      refine Go_aload_n (pc := 18) C dX7_pillar_18 rfl ?_
      obtain ⟨r4, hr4, hf⟩ := bnd hf
      refine Go_callV1 (pc := 19) (ws1 := (w7 K a r4.2)) C 0 (0 :: 1 :: 2 :: 3 :: 4 :: 5 :: 6 :: 7 :: 8 :: 9 :: 10 :: 11 :: 12 :: 13 :: []) (kX7_bad l K (pk a (0 :: 1 :: 2 :: 3 :: 4 :: 5 :: 6 :: 7 :: 8 :: 9 :: 10 :: 11 :: 12 :: 13 :: [])) s0 r4 hr4) ycX7_bad mw_725 (Nat.le_of_ble_eq_true rfl) rfl rfl rfl rfl (Nat.le_of_ble_eq_true rfl) ⟨Nat.zero_le _, Nat.zero_le _⟩ dX7_pillar_19 (ll_149 _ _ _) rfl rfl (ll_150 _ _ _ _) ?_
      obtain rfl := Option.some.inj hf
      exact Go_iret C hr rfl dX7_pillar_22
    · replace hf := iff' hc hf
      refine Go_aload_n (pc := 23) C dX7_pillar_23 rfl ?_
      refine Go_iload_n (pc := 24) C dX7_pillar_24 rfl ?_
      obtain ⟨r5, hr5, hf⟩ := bnd hf
      refine Go_callV1 (pc := 25) (ws1 := (w7 K a s0)) C 0 (0 :: 1 :: 2 :: 3 :: 4 :: 5 :: 6 :: 7 :: 8 :: 9 :: 10 :: 11 :: 12 :: 13 :: []) (kX7_pillarAt l K (pk a (0 :: 1 :: 2 :: 3 :: 4 :: 5 :: 6 :: 7 :: 8 :: 9 :: 10 :: 11 :: 12 :: 13 :: [])) s0 p1 r5 hr5) ycX7_pillarAt mw_729 (Nat.le_of_ble_eq_true rfl) rfl rfl rfl rfl (Nat.le_of_ble_eq_true rfl) ⟨Nat.zero_le _, Nat.zero_le _⟩ dX7_pillar_25 (ll_149 _ _ _) rfl rfl (Wr_same (ll_149 _ _ _)) ?_
      refine Go_iconst (pc := 28) (v := -1) C dX7_pillar_28 ci_m1 ?_
      refine Go_icmp_eq (pc := 29) (tgt := 37) C dX7_pillar_29 (by decide) (fun hc => ?_) (fun hc => ?_)
      · replace hf := ift hc hf
        refine Go_aload_n (pc := 37) C dX7_pillar_37 rfl ?_
        refine Go_get (pc := 38) C 0 2 rfl rfl inX7 (by decide) mw_631 rfl dX7_pillar_38 ?_
        refine Go_bipush (pc := 41) (v := 12) C dX7_pillar_41 cb_12 ?_
        refine Go_icmp_ne (pc := 43) (tgt := 51) C dX7_pillar_43 (by decide) (fun hc => ?_) (fun hc => ?_)
        · replace hf := ift hc hf
          refine Go_aload_n (pc := 46) C dX7_pillar_46 rfl ?_
          obtain ⟨r6, hr6, hf⟩ := bnd hf
          refine Go_callV1 (pc := 47) (ws1 := (w7 K a r6.2)) C 0 (0 :: 1 :: 2 :: 3 :: 4 :: 5 :: 6 :: 7 :: 8 :: 9 :: 10 :: 11 :: 12 :: 13 :: []) (kX7_full l K (pk a (0 :: 1 :: 2 :: 3 :: 4 :: 5 :: 6 :: 7 :: 8 :: 9 :: 10 :: 11 :: 12 :: 13 :: [])) s0 r6 hr6) ycX7_full mw_733 (Nat.le_of_ble_eq_true rfl) rfl rfl rfl rfl (Nat.le_of_ble_eq_true rfl) ⟨Nat.zero_le _, Nat.zero_le _⟩ dX7_pillar_47 (ll_149 _ _ _) rfl rfl (ll_150 _ _ _ _) ?_
          obtain rfl := Option.some.inj hf
          exact Go_iret C hr rfl dX7_pillar_50
        · replace hf := iff' hc hf
          refine Go_aload_n (pc := 51) C dX7_pillar_51 rfl ?_
          obtain ⟨r7, hr7, hf⟩ := bnd hf
          refine Go_callV0 (pc := 52) (ws1 := (w7 K a r7)) C 0 (0 :: 1 :: 2 :: 3 :: 4 :: 5 :: 6 :: 7 :: 8 :: 9 :: 10 :: 11 :: 12 :: 13 :: []) (kX7_leavesState l K (pk a (0 :: 1 :: 2 :: 3 :: 4 :: 5 :: 6 :: 7 :: 8 :: 9 :: 10 :: 11 :: 12 :: 13 :: [])) s0 r7 hr7) ycX7_leavesState mw_737 (Nat.le_of_ble_eq_true rfl) rfl rfl rfl rfl (Nat.le_of_ble_eq_true rfl) ⟨Nat.zero_le _, Nat.zero_le _⟩ dX7_pillar_52 (ll_149 _ _ _) rfl rfl (ll_150 _ _ _ _) ?_
          refine Go_aload_n (pc := 55) C dX7_pillar_55 rfl ?_
          refine Go_iload_n (pc := 56) C dX7_pillar_56 rfl ?_
          refine Go_iload_n (pc := 57) C dX7_pillar_57 rfl ?_
          obtain ⟨r8, hr8, hf⟩ := bnd hf
          refine Go_callV0 (pc := 58) (ws1 := (w7 K a r8)) C 0 (0 :: 1 :: 2 :: 3 :: 4 :: 5 :: 6 :: 7 :: 8 :: 9 :: 10 :: 11 :: 12 :: 13 :: []) (kX7_comesPillar l K (pk a (0 :: 1 :: 2 :: 3 :: 4 :: 5 :: 6 :: 7 :: 8 :: 9 :: 10 :: 11 :: 12 :: 13 :: [])) r7 p1 p2 r8 hr8) ycX7_comesPillar mw_745 (Nat.le_of_ble_eq_true rfl) rfl rfl rfl rfl (Nat.le_of_ble_eq_true rfl) ⟨Nat.zero_le _, Nat.zero_le _⟩ dX7_pillar_58 (ll_149 _ _ _) rfl rfl (ll_150 _ _ _ _) ?_
          refine Go_aload_n (pc := 61) C dX7_pillar_61 rfl ?_
          refine Go_get (pc := 62) C 0 2 rfl rfl inX7 (by decide) mw_631 rfl dX7_pillar_62 ?_
          refine Go_iconst (pc := 65) (v := 1) C dX7_pillar_65 ci_1 ?_
          refine Go_isub (pc := 66) C dX7_pillar_66 ?_
          obtain rfl := Option.some.inj hf
          exact Go_iret C hr rfl dX7_pillar_67
      · replace hf := iff' hc hf
        refine Go_aload_n (pc := 32) C dX7_pillar_32 rfl ?_
        obtain ⟨r9, hr9, hf⟩ := bnd hf
        refine Go_callV1 (pc := 33) (ws1 := (w7 K a r9.2)) C 0 (0 :: 1 :: 2 :: 3 :: 4 :: 5 :: 6 :: 7 :: 8 :: 9 :: 10 :: 11 :: 12 :: 13 :: []) (kX7_no l K (pk a (0 :: 1 :: 2 :: 3 :: 4 :: 5 :: 6 :: 7 :: 8 :: 9 :: 10 :: 11 :: 12 :: 13 :: [])) s0 r9 hr9) ycX7_no mw_703 (Nat.le_of_ble_eq_true rfl) rfl rfl rfl rfl (Nat.le_of_ble_eq_true rfl) ⟨Nat.zero_le _, Nat.zero_le _⟩ dX7_pillar_33 (ll_149 _ _ _) rfl rfl (ll_150 _ _ _ _) ?_
        obtain rfl := Option.some.inj hf
        exact Go_iret C hr rfl dX7_pillar_36
def fX7_weight (s0 : S7) (p1 : Int32) (p2 : Int32) : Option (Int32 × S7) := Option.bind (fX7_isCell p1) (fun r1 => (if r1 = 0 then Option.bind (fX7_bad s0) (fun r2 => some (r2.1, r2.2)) else Option.bind (fX7_in p2 (0 : Int32) (9 : Int32)) (fun r3 => (if r3 = 0 then Option.bind (fX7_bad s0) (fun r4 => some (r4.1, r4.2)) else Option.bind (fX7_leavesState s0) (fun r5 => (if 0 ≤ p1 ∧ p1.toNatClampNeg < 96 then Option.bind (some (r5.2.1 p1.toNatClampNeg)) (fun v6 => (if 0 ≤ p1 ∧ p1.toNatClampNeg < 96 then some (v6, (r5.1, upd r5.2.1 p1.toNatClampNeg p2, r5.2.2)) else none)) else none))))))
theorem ycX7_weight : CalV yX7_weight cX7_weight 4 ((some .int)) 2 := ⟨mw_752, mw_69, mw_750, mw_751, ⟨by decide, by decide, by decide +kernel⟩, by decide⟩
set_option maxHeartbeats 4000000 in
set_option maxRecDepth 100000 in
theorem kX7_weight (l : Launch) (K : KK) (a : Nat → Nat) (s0 : S7) (p1 : Int32) (p2 : Int32) (res : Int32 × S7) (hf : fX7_weight s0 p1 p2 = some res) : Ct l K yX7_weight cX7_weight 4 ((some .int)) 2 [.ref (a 0), .int p1, .int p2] (w7 K a s0) (some (.int res.1)) (w7 K a res.2) := by
  refine Ct_of2 (by decide) rfl (Nat.le_of_ble_eq_true rfl) ?_
  intro p e σ m args below meth c C hr
  unfold fX7_weight at hf
  refine Go_iload_n (pc := 0) C dX7_weight_0 rfl ?_
  obtain ⟨r1, hr1, hf⟩ := bnd hf
  refine Go_callS1 (pc := 1) (ws1 := (w7 K a s0)) C [] (kX7_isCell l K p1 r1 hr1) ycX7_isCell mw_719 (Nat.le_of_ble_eq_true rfl) rfl rfl (Nat.le_of_ble_eq_true rfl) ⟨Nat.zero_le _, Nat.zero_le _⟩ dX7_weight_1 rfl rfl rfl (Wr_same rfl) ?_
  refine Go_if_eq (pc := 4) (tgt := 17) C dX7_weight_4 (by decide) (fun hc => ?_) (fun hc => ?_)
  · replace hf := ift hc hf
    refine Go_aload_n (pc := 17) C dX7_weight_17 rfl ?_
    obtain ⟨r2, hr2, hf⟩ := bnd hf
    refine Go_callV1 (pc := 18) (ws1 := (w7 K a r2.2)) C 0 (0 :: 1 :: 2 :: 3 :: 4 :: 5 :: 6 :: 7 :: 8 :: 9 :: 10 :: 11 :: 12 :: 13 :: []) (kX7_bad l K (pk a (0 :: 1 :: 2 :: 3 :: 4 :: 5 :: 6 :: 7 :: 8 :: 9 :: 10 :: 11 :: 12 :: 13 :: [])) s0 r2 hr2) ycX7_bad mw_725 (Nat.le_of_ble_eq_true rfl) rfl rfl rfl rfl (Nat.le_of_ble_eq_true rfl) ⟨Nat.zero_le _, Nat.zero_le _⟩ dX7_weight_18 (ll_149 _ _ _) rfl rfl (ll_150 _ _ _ _) ?_
    obtain rfl := Option.some.inj hf
    exact Go_iret C hr rfl dX7_weight_21
  · replace hf := iff' hc hf
    refine Go_iload_n (pc := 7) C dX7_weight_7 rfl ?_
    refine Go_iconst (pc := 8) (v := 0) C dX7_weight_8 ci_0 ?_
    refine Go_bipush (pc := 9) (v := 9) C dX7_weight_9 cb_9 ?_
    obtain ⟨r3, hr3, hf⟩ := bnd hf
    refine Go_callS1 (pc := 11) (ws1 := (w7 K a s0)) C [] (kX7_in l K p2 (0 : Int32) (9 : Int32) r3 hr3) ycX7_in mw_722 (Nat.le_of_ble_eq_true rfl) rfl rfl (Nat.le_of_ble_eq_true rfl) ⟨Nat.zero_le _, Nat.zero_le _⟩ dX7_weight_11 rfl rfl rfl (Wr_same rfl) ?_
    refine Go_if_ne (pc := 14) (tgt := 22) C dX7_weight_14 (by decide) (fun hc => ?_) (fun hc => ?_)
    · replace hf := ift hc hf
      refine Go_aload_n (pc := 17) C dX7_weight_17 rfl ?_
      obtain ⟨r4, hr4, hf⟩ := bnd hf
      refine Go_callV1 (pc := 18) (ws1 := (w7 K a r4.2)) C 0 (0 :: 1 :: 2 :: 3 :: 4 :: 5 :: 6 :: 7 :: 8 :: 9 :: 10 :: 11 :: 12 :: 13 :: []) (kX7_bad l K (pk a (0 :: 1 :: 2 :: 3 :: 4 :: 5 :: 6 :: 7 :: 8 :: 9 :: 10 :: 11 :: 12 :: 13 :: [])) s0 r4 hr4) ycX7_bad mw_725 (Nat.le_of_ble_eq_true rfl) rfl rfl rfl rfl (Nat.le_of_ble_eq_true rfl) ⟨Nat.zero_le _, Nat.zero_le _⟩ dX7_weight_18 (ll_149 _ _ _) rfl rfl (ll_150 _ _ _ _) ?_
      obtain rfl := Option.some.inj hf
      exact Go_iret C hr rfl dX7_weight_21
    · replace hf := iff' hc hf
      refine Go_aload_n (pc := 22) C dX7_weight_22 rfl ?_
      obtain ⟨r5, hr5, hf⟩ := bnd hf
      refine Go_callV0 (pc := 23) (ws1 := (w7 K a r5)) C 0 (0 :: 1 :: 2 :: 3 :: 4 :: 5 :: 6 :: 7 :: 8 :: 9 :: 10 :: 11 :: 12 :: 13 :: []) (kX7_leavesState l K (pk a (0 :: 1 :: 2 :: 3 :: 4 :: 5 :: 6 :: 7 :: 8 :: 9 :: 10 :: 11 :: 12 :: 13 :: [])) s0 r5 hr5) ycX7_leavesState mw_737 (Nat.le_of_ble_eq_true rfl) rfl rfl rfl rfl (Nat.le_of_ble_eq_true rfl) ⟨Nat.zero_le _, Nat.zero_le _⟩ dX7_weight_23 (ll_149 _ _ _) rfl rfl (ll_150 _ _ _ _) ?_
      refine Go_aload_n (pc := 26) C dX7_weight_26 rfl ?_
      refine Go_get (pc := 27) C 0 1 rfl rfl inX7 (by decide) mw_630 rfl dX7_weight_27 ?_
      refine Go_iload_n (pc := 30) C dX7_weight_30 rfl ?_
      obtain ⟨hb, hf⟩ := ifs hf
      refine Go_iald (pc := 31) C 2 rfl (inb_in hb) dX7_weight_31 ?_
      obtain ⟨v6, hv6, hf⟩ := bnd hf
      refine Go_topi (Option.some.inj hv6) ?_
      refine Go_istore_n (pc := 32) C dX7_weight_32 (by decide) ?_
      refine Go_aload_n (pc := 33) C dX7_weight_33 rfl ?_
      refine Go_get (pc := 34) C 0 1 rfl rfl inX7 (by decide) mw_630 rfl dX7_weight_34 ?_
      refine Go_iload_n (pc := 37) C dX7_weight_37 rfl ?_
      refine Go_iload_n (pc := 38) C dX7_weight_38 rfl ?_
      obtain ⟨hb, hf⟩ := ifs hf
      refine Go_iast (pc := 39) (ws1 := (w7 K a ((r5.1, upd r5.2.1 p1.toNatClampNeg p2, r5.2.2)))) C 2 rfl (inb_in hb) dX7_weight_39 (ll_147 _ _ _ _) ?_
      refine Go_iload_n (pc := 40) C dX7_weight_40 rfl ?_
      obtain rfl := Option.some.inj hf
      exact Go_iret C hr rfl dX7_weight_41
def fX7_draw_L38 (p2 : Int32) (q7 : Int64 × Int32 × Int32 × (Nat → Int32)) : Option ((Int64 × Int32 × Int32 × (Nat → Int32)) ⊕ (Int64 × Int32 × Int32 × (Nat → Int32))) := (if (96 : Int32) ≤ q7.2.2.1 then some (.inr (q7.1, q7.2.1, q7.2.2.1, q7.2.2.2)) else Option.bind (some (((q7.1 * (1103515245 : Int64)) + (12345 : Int64)) - ((q7.1 * (1103515245 : Int64)) + (12345 : Int64)) / (2147483648 : Int64) * (2147483648 : Int64))) (fun v8 => (if ¬ (p2.toInt64 + (1 : Int64)) = 0 then (if 0 ≤ q7.2.2.1 ∧ q7.2.2.1.toNatClampNeg < 96 then (if 0 ≤ q7.2.2.1 ∧ q7.2.2.1.toNatClampNeg < 96 then Option.bind (some (q7.2.1 + ((upd q7.2.2.2 q7.2.2.1.toNatClampNeg (((v8 / (65536 : Int64)) - (v8 / (65536 : Int64)) / (p2.toInt64 + (1 : Int64)) * (p2.toInt64 + (1 : Int64))).toInt32)) q7.2.2.1.toNatClampNeg))) (fun v9 => Option.bind (some (q7.2.2.1 + (1 : Int32))) (fun v10 => some (.inl (v8, v9, v10, upd q7.2.2.2 q7.2.2.1.toNatClampNeg (((v8 / (65536 : Int64)) - (v8 / (65536 : Int64)) / (p2.toInt64 + (1 : Int64)) * (p2.toInt64 + (1 : Int64))).toInt32))))) else none) else none) else none)))
def fX7_draw (s0 : S7) (p1 : Int32) (p2 : Int32) : Option (Int32 × S7) := Option.bind (fX7_in p1 (0 : Int32) (999999 : Int32)) (fun r1 => (if r1 = 0 then Option.bind (fX7_bad s0) (fun r2 => some (r2.1, r2.2)) else Option.bind (fX7_in p2 (0 : Int32) (9 : Int32)) (fun r3 => (if r3 = 0 then Option.bind (fX7_bad s0) (fun r4 => some (r4.1, r4.2)) else Option.bind (fX7_leavesState s0) (fun r5 => Option.bind (some (p1.toInt64)) (fun v6 => Option.bind (loopF (fX7_draw_L38 p2) 5000 (v6, (0 : Int32), (0 : Int32), r5.2.1)) (fun z11 => some (z11.2.1, (r5.1, z11.2.2.2, r5.2.2)))))))))
theorem ycX7_draw : CalV yX7_draw cX7_draw 7 ((some .int)) 2 := ⟨mw_756, mw_69, mw_754, mw_755, ⟨by decide, by decide, by decide +kernel⟩, by decide⟩
set_option maxHeartbeats 4000000 in
set_option maxRecDepth 100000 in
theorem kX7_draw (l : Launch) (K : KK) (a : Nat → Nat) (s0 : S7) (p1 : Int32) (p2 : Int32) (res : Int32 × S7) (hf : fX7_draw s0 p1 p2 = some res) : Ct l K yX7_draw cX7_draw 7 ((some .int)) 2 [.ref (a 0), .int p1, .int p2] (w7 K a s0) (some (.int res.1)) (w7 K a res.2) := by
  refine Ct_of2 (by decide) rfl (Nat.le_of_ble_eq_true rfl) ?_
  intro p e σ m args below meth c C hr
  unfold fX7_draw at hf
  refine Go_iload_n (pc := 0) C dX7_draw_0 rfl ?_
  refine Go_iconst (pc := 1) (v := 0) C dX7_draw_1 ci_0 ?_
  refine Go_ldc (pc := 2) (v := 999999) C mw_757 dX7_draw_2 ?_
  obtain ⟨r1, hr1, hf⟩ := bnd hf
  refine Go_callS1 (pc := 4) (ws1 := (w7 K a s0)) C [] (kX7_in l K p1 (0 : Int32) (999999 : Int32) r1 hr1) ycX7_in mw_722 (Nat.le_of_ble_eq_true rfl) rfl rfl (Nat.le_of_ble_eq_true rfl) ⟨Nat.zero_le _, Nat.zero_le _⟩ dX7_draw_4 rfl rfl rfl (Wr_same rfl) ?_
  refine Go_if_eq (pc := 7) (tgt := 20) C dX7_draw_7 (by decide) (fun hc => ?_) (fun hc => ?_)
  · replace hf := ift hc hf
    refine Go_aload_n (pc := 20) C dX7_draw_20 rfl ?_
    obtain ⟨r2, hr2, hf⟩ := bnd hf
    refine Go_callV1 (pc := 21) (ws1 := (w7 K a r2.2)) C 0 (0 :: 1 :: 2 :: 3 :: 4 :: 5 :: 6 :: 7 :: 8 :: 9 :: 10 :: 11 :: 12 :: 13 :: []) (kX7_bad l K (pk a (0 :: 1 :: 2 :: 3 :: 4 :: 5 :: 6 :: 7 :: 8 :: 9 :: 10 :: 11 :: 12 :: 13 :: [])) s0 r2 hr2) ycX7_bad mw_725 (Nat.le_of_ble_eq_true rfl) rfl rfl rfl rfl (Nat.le_of_ble_eq_true rfl) ⟨Nat.zero_le _, Nat.zero_le _⟩ dX7_draw_21 (ll_149 _ _ _) rfl rfl (ll_150 _ _ _ _) ?_
    obtain rfl := Option.some.inj hf
    exact Go_iret C hr rfl dX7_draw_24
  · replace hf := iff' hc hf
    refine Go_iload_n (pc := 10) C dX7_draw_10 rfl ?_
    refine Go_iconst (pc := 11) (v := 0) C dX7_draw_11 ci_0 ?_
    refine Go_bipush (pc := 12) (v := 9) C dX7_draw_12 cb_9 ?_
    obtain ⟨r3, hr3, hf⟩ := bnd hf
    refine Go_callS1 (pc := 14) (ws1 := (w7 K a s0)) C [] (kX7_in l K p2 (0 : Int32) (9 : Int32) r3 hr3) ycX7_in mw_722 (Nat.le_of_ble_eq_true rfl) rfl rfl (Nat.le_of_ble_eq_true rfl) ⟨Nat.zero_le _, Nat.zero_le _⟩ dX7_draw_14 rfl rfl rfl (Wr_same rfl) ?_
    refine Go_if_ne (pc := 17) (tgt := 25) C dX7_draw_17 (by decide) (fun hc => ?_) (fun hc => ?_)
    · replace hf := ift hc hf
      refine Go_aload_n (pc := 20) C dX7_draw_20 rfl ?_
      obtain ⟨r4, hr4, hf⟩ := bnd hf
      refine Go_callV1 (pc := 21) (ws1 := (w7 K a r4.2)) C 0 (0 :: 1 :: 2 :: 3 :: 4 :: 5 :: 6 :: 7 :: 8 :: 9 :: 10 :: 11 :: 12 :: 13 :: []) (kX7_bad l K (pk a (0 :: 1 :: 2 :: 3 :: 4 :: 5 :: 6 :: 7 :: 8 :: 9 :: 10 :: 11 :: 12 :: 13 :: [])) s0 r4 hr4) ycX7_bad mw_725 (Nat.le_of_ble_eq_true rfl) rfl rfl rfl rfl (Nat.le_of_ble_eq_true rfl) ⟨Nat.zero_le _, Nat.zero_le _⟩ dX7_draw_21 (ll_149 _ _ _) rfl rfl (ll_150 _ _ _ _) ?_
      obtain rfl := Option.some.inj hf
      exact Go_iret C hr rfl dX7_draw_24
    · replace hf := iff' hc hf
      refine Go_aload_n (pc := 25) C dX7_draw_25 rfl ?_
      obtain ⟨r5, hr5, hf⟩ := bnd hf
      refine Go_callV0 (pc := 26) (ws1 := (w7 K a r5)) C 0 (0 :: 1 :: 2 :: 3 :: 4 :: 5 :: 6 :: 7 :: 8 :: 9 :: 10 :: 11 :: 12 :: 13 :: []) (kX7_leavesState l K (pk a (0 :: 1 :: 2 :: 3 :: 4 :: 5 :: 6 :: 7 :: 8 :: 9 :: 10 :: 11 :: 12 :: 13 :: [])) s0 r5 hr5) ycX7_leavesState mw_737 (Nat.le_of_ble_eq_true rfl) rfl rfl rfl rfl (Nat.le_of_ble_eq_true rfl) ⟨Nat.zero_le _, Nat.zero_le _⟩ dX7_draw_26 (ll_149 _ _ _) rfl rfl (ll_150 _ _ _ _) ?_
      refine Go_iload_n (pc := 29) C dX7_draw_29 rfl ?_
      refine Go_i2l (pc := 30) C dX7_draw_30 ?_
      obtain ⟨v6, hv6, hf⟩ := bnd hf
      refine Go_topl (Option.some.inj hv6) ?_
      refine Go_lstore_n (pc := 31) C dX7_draw_31 (by decide) ?_
      refine Go_iconst (pc := 32) (v := 0) C dX7_draw_32 ci_0 ?_
      refine Go_istore (pc := 33) C dX7_draw_33 (by decide) ?_
      refine Go_iconst (pc := 35) (v := 0) C dX7_draw_35 ci_0 ?_
      refine Go_istore (pc := 36) C dX7_draw_36 (by decide) ?_
      obtain ⟨z11, hz11, hf⟩ := bnd hf
      refine Go_mask [true, true, true, true, false, true, true] ?_
      refine loopF_go (step := (fX7_draw_L38 p2)) (fun q7 => Go p l e (rmc 2 0 0) σ m args below meth c K (inW (w7 K a s0)) σ.heap 7 0 0 (MQ below (CtQ K (w7 K a s0) (some (.int res.1)) (w7 K a res.2)) args σ 0 0 (inW (w7 K a s0))) (w7 K a ((r5.1, q7.2.2.2, r5.2.2))) 38 [some (.ref (a 0)), some (.int p1), some (.int p2), some (.long q7.1), none, some (.int q7.2.1), some (.int q7.2.2.1)] []) (fun z11 => Go p l e (rmc 2 0 0) σ m args below meth c K (inW (w7 K a s0)) σ.heap 7 0 0 (MQ below (CtQ K (w7 K a s0) (some (.int res.1)) (w7 K a res.2)) args σ 0 0 (inW (w7 K a s0))) (w7 K a ((r5.1, z11.2.2.2, r5.2.2))) 95 [some (.ref (a 0)), some (.int p1), some (.int p2), some (.long z11.1), none, some (.int z11.2.1), some (.int z11.2.2.1)] []) ?_ _ _ _ hz11 ?_
      · intro q7 x hf hk
        unfold fX7_draw_L38 at hf
        refine Go_iload (pc := 38) C dX7_draw_38 rfl ?_
        refine Go_bipush (pc := 40) (v := 96) C dX7_draw_40 cb_96 ?_
        refine Go_icmp_ge (pc := 42) (tgt := 95) C dX7_draw_42 (by decide) (fun hc => ?_) (fun hc => ?_)
        · replace hf := ift hc hf
          obtain rfl := Option.some.inj hf
          exact Go_mask [true, true, true, true, false, true, true] hk
        · replace hf := iff' hc hf
          refine Go_lload_n (pc := 45) C dX7_draw_45 rfl ?_
          refine Go_ldc2 (pc := 46) (v := 1103515245) C mw_758 dX7_draw_46 ?_
          refine Go_lmul (pc := 49) C dX7_draw_49 ?_
          refine Go_ldc2 (pc := 50) (v := 12345) C mw_759 dX7_draw_50 ?_
          refine Go_ladd (pc := 53) C dX7_draw_53 ?_
          refine Go_ldc2 (pc := 54) (v := 2147483648) C mw_760 dX7_draw_54 ?_
          refine Go_lrem (pc := 57) C dX7_draw_57 (by decide) ?_
          obtain ⟨v8, hv8, hf⟩ := bnd hf
          refine Go_topl (Option.some.inj hv8) ?_
          refine Go_lstore_n (pc := 58) C dX7_draw_58 (by decide) ?_
          refine Go_aload_n (pc := 59) C dX7_draw_59 rfl ?_
          refine Go_get (pc := 60) C 0 1 rfl rfl inX7 (by decide) mw_630 rfl dX7_draw_60 ?_
          refine Go_iload (pc := 63) C dX7_draw_63 rfl ?_
          refine Go_lload_n (pc := 65) C dX7_draw_65 rfl ?_
          refine Go_ldc2 (pc := 66) (v := 65536) C mw_761 dX7_draw_66 ?_
          refine Go_ldiv (pc := 69) C dX7_draw_69 (by decide) ?_
          refine Go_iload_n (pc := 70) C dX7_draw_70 rfl ?_
          refine Go_i2l (pc := 71) C dX7_draw_71 ?_
          refine Go_lconst (pc := 72) (v := 1) C dX7_draw_72 (by decide) ?_
          refine Go_ladd (pc := 73) C dX7_draw_73 ?_
          obtain ⟨hne, hf⟩ := ifs hf
          refine Go_lrem (pc := 74) C dX7_draw_74 hne ?_
          refine Go_l2i (pc := 75) C dX7_draw_75 ?_
          obtain ⟨hb, hf⟩ := ifs hf
          refine Go_iast (pc := 76) (ws1 := (w7 K a ((r5.1, upd q7.2.2.2 q7.2.2.1.toNatClampNeg (((v8 / (65536 : Int64)) - (v8 / (65536 : Int64)) / (p2.toInt64 + (1 : Int64)) * (p2.toInt64 + (1 : Int64))).toInt32), r5.2.2)))) C 2 rfl (inb_in hb) dX7_draw_76 (ll_147 _ _ _ _) ?_
          refine Go_iload (pc := 77) C dX7_draw_77 rfl ?_
          refine Go_aload_n (pc := 79) C dX7_draw_79 rfl ?_
          refine Go_get (pc := 80) C 0 1 rfl rfl inX7 (by decide) mw_630 rfl dX7_draw_80 ?_
          refine Go_iload (pc := 83) C dX7_draw_83 rfl ?_
          obtain ⟨hb, hf⟩ := ifs hf
          refine Go_iald (pc := 85) C 2 rfl (inb_in hb) dX7_draw_85 ?_
          refine Go_iadd (pc := 86) C dX7_draw_86 ?_
          obtain ⟨v9, hv9, hf⟩ := bnd hf
          refine Go_topi (Option.some.inj hv9) ?_
          refine Go_istore (pc := 87) C dX7_draw_87 (by decide) ?_
          obtain ⟨v10, hv10, hf⟩ := bnd hf
          refine Go_iinc (pc := 89) (v := v10) C dX7_draw_89 rfl (by rw [ci_1]; exact Option.some.inj hv10) ?_
          refine Go_goto (pc := 92) (tgt := 38) C dX7_draw_92 (by decide) ?_
          obtain rfl := Option.some.inj hf
          exact Go_mask [true, true, true, true, false, true, true] hk
      · show Go _ _ _ _ _ _ _ _ _ _ _ _ _ _ _ _ _ _ _ _ _
        refine Go_iload (pc := 95) C dX7_draw_95 rfl ?_
        obtain rfl := Option.some.inj hf
        exact Go_iret C hr rfl dX7_draw_97
