def fX6_tellPillar (s0 : S6) (p1 : Int32) (p2 : Int32) : Option (Int32) := (if p2 = (0 : Int32) then (if 0 ≤ p1 ∧ p1.toNatClampNeg < 12 then some (s0.1.2.1 p1.toNatClampNeg) else none) else (if p2 = (1 : Int32) then (if 0 ≤ p1 ∧ p1.toNatClampNeg < 12 then some (s0.1.2.2.1 p1.toNatClampNeg) else none) else (if p2 = (2 : Int32) then (if 0 ≤ p1 ∧ p1.toNatClampNeg < 12 then some (s0.1.2.2.2.1 p1.toNatClampNeg) else none) else (if p2 = (3 : Int32) then (if 0 ≤ p1 ∧ p1.toNatClampNeg < 12 then some (s0.2.1.2.2.1 p1.toNatClampNeg) else none) else (if p2 = (4 : Int32) then (if 0 ≤ p1 ∧ p1.toNatClampNeg < 12 then some (s0.2.1.2.2.2 p1.toNatClampNeg) else none) else Option.bind (fX1_isStanding s0.1 p1) (fun r1 => (if r1 = 0 then some (-10000 : Int32) else (if 0 ≤ p1 ∧ p1.toNatClampNeg < 12 then (if 0 ≤ p1 ∧ p1.toNatClampNeg < 12 then some ((s0.1.2.2.1 p1.toNatClampNeg) - (s0.2.1.2.2.1 p1.toNatClampNeg)) else none) else none))))))))
theorem ycX6_tellPillar : CalV yX6_tellPillar cX6_tellPillar 3 ((some .int)) 2 := ⟨mw_377, mw_61, mw_376, mw_3, ⟨by decide, by decide, by decide +kernel⟩, by decide⟩
set_option maxHeartbeats 4000000 in
set_option maxRecDepth 100000 in
theorem kX6_tellPillar (l : Launch) (K : KK) (a : Nat → Nat) (s0 : S6) (p1 : Int32) (p2 : Int32) (res : Int32) (hf : fX6_tellPillar s0 p1 p2 = some res) : Ct l K yX6_tellPillar cX6_tellPillar 3 ((some .int)) 2 [.ref (a 0), .int p1, .int p2] (w6 K a s0) (some (.int res)) (w6 K a s0) := by
  refine Ct_of2 (by decide) rfl (Nat.le_of_ble_eq_true rfl) ?_
  intro p e σ m args below meth c C hr
  unfold fX6_tellPillar at hf
  refine Go_iload_n (pc := 0) C dX6_tellPillar_0 rfl ?_
  by_cases hx0 : p2 = (0 : Int32)
  · replace hf := ift hx0 hf
    refine Go_tabIn (pc := 1) (tgt := 36) C dX6_tellPillar_1 hx0 (by decide) (by decide) rfl (by decide) ?_
    refine Go_aload_n (pc := 36) C dX6_tellPillar_36 rfl ?_
    refine Go_get (pc := 37) C 0 0 rfl rfl inX6 (by decide) mw_243 rfl dX6_tellPillar_37 ?_
    refine Go_get (pc := 40) C 1 1 rfl rfl inX1 (by decide) mw_99 rfl dX6_tellPillar_40 ?_
    refine Go_iload_n (pc := 43) C dX6_tellPillar_43 rfl ?_
    obtain ⟨hb, hf⟩ := ifs hf
    refine Go_iald (pc := 44) C 3 rfl (inb_in hb) dX6_tellPillar_44 ?_
    obtain rfl := Option.some.inj hf
    exact Go_iret C hr rfl dX6_tellPillar_45
  replace hf := iff' hx0 hf
  by_cases hx1 : p2 = (1 : Int32)
  · replace hf := ift hx1 hf
    refine Go_tabIn (pc := 1) (tgt := 46) C dX6_tellPillar_1 hx1 (by decide) (by decide) rfl (by decide) ?_
    refine Go_aload_n (pc := 46) C dX6_tellPillar_46 rfl ?_
    refine Go_get (pc := 47) C 0 0 rfl rfl inX6 (by decide) mw_243 rfl dX6_tellPillar_47 ?_
    refine Go_get (pc := 50) C 1 2 rfl rfl inX1 (by decide) mw_102 rfl dX6_tellPillar_50 ?_
    refine Go_iload_n (pc := 53) C dX6_tellPillar_53 rfl ?_
    obtain ⟨hb, hf⟩ := ifs hf
    refine Go_iald (pc := 54) C 4 rfl (inb_in hb) dX6_tellPillar_54 ?_
    obtain rfl := Option.some.inj hf
    exact Go_iret C hr rfl dX6_tellPillar_55
  replace hf := iff' hx1 hf
  by_cases hx2 : p2 = (2 : Int32)
  · replace hf := ift hx2 hf
    refine Go_tabIn (pc := 1) (tgt := 56) C dX6_tellPillar_1 hx2 (by decide) (by decide) rfl (by decide) ?_
    refine Go_aload_n (pc := 56) C dX6_tellPillar_56 rfl ?_
    refine Go_get (pc := 57) C 0 0 rfl rfl inX6 (by decide) mw_243 rfl dX6_tellPillar_57 ?_
    refine Go_get (pc := 60) C 1 3 rfl rfl inX1 (by decide) mw_107 rfl dX6_tellPillar_60 ?_
    refine Go_iload_n (pc := 63) C dX6_tellPillar_63 rfl ?_
    obtain ⟨hb, hf⟩ := ifs hf
    refine Go_iald (pc := 64) C 5 rfl (inb_in hb) dX6_tellPillar_64 ?_
    obtain rfl := Option.some.inj hf
    exact Go_iret C hr rfl dX6_tellPillar_65
  replace hf := iff' hx2 hf
  by_cases hx3 : p2 = (3 : Int32)
  · replace hf := ift hx3 hf
    refine Go_tabIn (pc := 1) (tgt := 66) C dX6_tellPillar_1 hx3 (by decide) (by decide) rfl (by decide) ?_
    refine Go_aload_n (pc := 66) C dX6_tellPillar_66 rfl ?_
    refine Go_get (pc := 67) C 0 1 rfl rfl inX6 (by decide) mw_244 rfl dX6_tellPillar_67 ?_
    refine Go_get (pc := 70) C 7 2 rfl rfl inX0 (by decide) mw_142 rfl dX6_tellPillar_70 ?_
    refine Go_iload_n (pc := 73) C dX6_tellPillar_73 rfl ?_
    obtain ⟨hb, hf⟩ := ifs hf
    refine Go_iald (pc := 74) C 10 rfl (inb_in hb) dX6_tellPillar_74 ?_
    obtain rfl := Option.some.inj hf
    exact Go_iret C hr rfl dX6_tellPillar_75
  replace hf := iff' hx3 hf
  by_cases hx4 : p2 = (4 : Int32)
  · replace hf := ift hx4 hf
    refine Go_tabIn (pc := 1) (tgt := 76) C dX6_tellPillar_1 hx4 (by decide) (by decide) rfl (by decide) ?_
    refine Go_aload_n (pc := 76) C dX6_tellPillar_76 rfl ?_
    refine Go_get (pc := 77) C 0 1 rfl rfl inX6 (by decide) mw_244 rfl dX6_tellPillar_77 ?_
    refine Go_get (pc := 80) C 7 3 rfl rfl inX0 (by decide) mw_144 rfl dX6_tellPillar_80 ?_
    refine Go_iload_n (pc := 83) C dX6_tellPillar_83 rfl ?_
    obtain ⟨hb, hf⟩ := ifs hf
    refine Go_iald (pc := 84) C 11 rfl (inb_in hb) dX6_tellPillar_84 ?_
    obtain rfl := Option.some.inj hf
    exact Go_iret C hr rfl dX6_tellPillar_85
  replace hf := iff' hx4 hf
  refine Go_tabOut (pc := 1) (tgt := 86) C dX6_tellPillar_1 (by have g0 := lv_neT hx0 (show ((0 : Int32)).toInt = 0 by decide); have g1 := lv_neT hx1 (show ((1 : Int32)).toInt = 1 by decide); have g2 := lv_neT hx2 (show ((2 : Int32)).toInt = 2 by decide); have g3 := lv_neT hx3 (show ((3 : Int32)).toInt = 3 by decide); have g4 := lv_neT hx4 (show ((4 : Int32)).toInt = 4 by decide); omega) (by decide) ?_
  refine Go_aload_n (pc := 86) C dX6_tellPillar_86 rfl ?_
  refine Go_get (pc := 87) C 0 0 rfl rfl inX6 (by decide) mw_243 rfl dX6_tellPillar_87 ?_
  refine Go_iload_n (pc := 90) C dX6_tellPillar_90 rfl ?_
  obtain ⟨r1, hr1, hf⟩ := bnd hf
  refine Go_callV1 (pc := 91) (ws1 := (w6 K a s0)) C 1 [1, 2, 3, 4, 5, 6] (kX1_isStanding l K (pk a [1, 2, 3, 4, 5, 6]) s0.1 p1 r1 hr1) ycX1_isStanding mw_378 (Nat.le_of_ble_eq_true rfl) rfl rfl rfl rfl (Nat.le_of_ble_eq_true rfl) ⟨Nat.zero_le _, Nat.zero_le _⟩ dX6_tellPillar_91 (ll_30 _ _ _) rfl rfl (Wr_same (ll_30 _ _ _)) ?_
  refine Go_if_eq (pc := 94) (tgt := 119) C dX6_tellPillar_94 (by decide) (fun hc => ?_) (fun hc => ?_)
  · replace hf := ift hc hf
    refine Go_sipush (pc := 119) (v := -10000) C dX6_tellPillar_119 cs_m10000 ?_
    obtain rfl := Option.some.inj hf
    exact Go_iret C hr rfl dX6_tellPillar_122
  · replace hf := iff' hc hf
    refine Go_aload_n (pc := 97) C dX6_tellPillar_97 rfl ?_
    refine Go_get (pc := 98) C 0 0 rfl rfl inX6 (by decide) mw_243 rfl dX6_tellPillar_98 ?_
    refine Go_get (pc := 101) C 1 2 rfl rfl inX1 (by decide) mw_102 rfl dX6_tellPillar_101 ?_
    refine Go_iload_n (pc := 104) C dX6_tellPillar_104 rfl ?_
    obtain ⟨hb, hf⟩ := ifs hf
    refine Go_iald (pc := 105) C 4 rfl (inb_in hb) dX6_tellPillar_105 ?_
    refine Go_aload_n (pc := 106) C dX6_tellPillar_106 rfl ?_
    refine Go_get (pc := 107) C 0 1 rfl rfl inX6 (by decide) mw_244 rfl dX6_tellPillar_107 ?_
    refine Go_get (pc := 110) C 7 2 rfl rfl inX0 (by decide) mw_142 rfl dX6_tellPillar_110 ?_
    refine Go_iload_n (pc := 113) C dX6_tellPillar_113 rfl ?_
    obtain ⟨hb, hf⟩ := ifs hf
    refine Go_iald (pc := 114) C 10 rfl (inb_in hb) dX6_tellPillar_114 ?_
    refine Go_isub (pc := 115) C dX6_tellPillar_115 ?_
    refine Go_goto (pc := 116) (tgt := 122) C dX6_tellPillar_116 (by decide) ?_
    obtain rfl := Option.some.inj hf
    exact Go_iret C hr rfl dX6_tellPillar_122
theorem ll_57 (K : KK) (a : Nat → Nat) (t0 : S6) : ([7, 8, 9, 10, 11, 1, 2, 3, 4, 5, 6] : List Nat).map (fun i => (w6 K a t0)[i]?) = List.map some (w0 K (pk a [7, 8, 9, 10, 11, 1, 2, 3, 4, 5, 6]) t0.2.1 ++ w1 K (sh (pk a [7, 8, 9, 10, 11, 1, 2, 3, 4, 5, 6]) 5) t0.1) := rfl
theorem ll_58 (K : KK) (a : Nat → Nat) (t0 : S6) (y0 : S0) : Wr (w6 K a t0) [7, 8, 9, 10, 11, 1, 2, 3, 4, 5, 6] (w0 K (pk a [7, 8, 9, 10, 11, 1, 2, 3, 4, 5, 6]) y0 ++ w1 K (sh (pk a [7, 8, 9, 10, 11, 1, 2, 3, 4, 5, 6]) 5) t0.1) (w6 K a ((t0.1, y0, t0.2.2))) := ⟨(0 :: 12 :: 13 :: 14 :: 15 :: 16 :: 17 :: 18 :: 19 :: 20 :: 21 :: 22 :: 23 :: 24 :: 25 :: 26 :: 27 :: 28 :: 29 :: 30 :: 31 :: 32 :: 33 :: 34 :: 35 :: 36 :: 37 :: 38 :: 39 :: 40 :: 41 :: 42 :: 43 :: 44 :: 45 :: 46 :: 47 :: 48 :: 49 :: 50 :: 51 :: 52 :: 53 :: 54 :: 55 :: 56 :: 57 :: 58 :: 59 :: 60 :: 61 :: 62 :: 63 :: 64 :: 65 :: 66 :: 67 :: 68 :: []), 69, rfl, (show List.map (fun i => (w6 K a ((t0.1, y0, t0.2.2)))[i]?) _ = ((some (a 0, .inr (6, [.ref (a 1), .ref (a 7), .ref (a 12), .ref (a 14), .ref (a 52), .ref (a 66), .ref (a 68)])) :: some (a 12, .inr (2, [.ref (a 13), .int (t0.2.2.1.2)])) :: some (a 13, .inl (K.2.1, 12, .inl (t0.2.2.1.1))) :: some (a 14, .inr (3, [.ref (a 15), .int (t0.2.2.2.1.2.1), .int (t0.2.2.2.1.2.2)])) :: some (a 15, .inl (K.2.2, 6, .inr (.inr (.inr (.inr (rgf [a 16, a 22, a 28, a 34, a 40, a 46])))))) :: some (a 16, .inr (1, [.ref (a 17), .ref (a 18), .ref (a 19), .ref (a 20), .ref (a 21), .int (t0.2.2.2.1.1.1.2.2.2.2.2)])) :: some (a 17, .inl (K.2.1, 96, .inl (t0.2.2.2.1.1.1.1))) :: some (a 18, .inl (K.2.1, 12, .inl (t0.2.2.2.1.1.1.2.1))) :: some (a 19, .inl (K.2.1, 12, .inl (t0.2.2.2.1.1.1.2.2.1))) :: some (a 20, .inl (K.2.1, 12, .inl (t0.2.2.2.1.1.1.2.2.2.1))) :: some (a 21, .inl (K.2.1, 21, .inl (t0.2.2.2.1.1.1.2.2.2.2.1))) :: some (a 22, .inr (1, [.ref (a 23), .ref (a 24), .ref (a 25), .ref (a 26), .ref (a 27), .int (t0.2.2.2.1.1.2.1.2.2.2.2.2)])) :: some (a 23, .inl (K.2.1, 96, .inl (t0.2.2.2.1.1.2.1.1))) :: some (a 24, .inl (K.2.1, 12, .inl (t0.2.2.2.1.1.2.1.2.1))) :: some (a 25, .inl (K.2.1, 12, .inl (t0.2.2.2.1.1.2.1.2.2.1))) :: some (a 26, .inl (K.2.1, 12, .inl (t0.2.2.2.1.1.2.1.2.2.2.1))) :: some (a 27, .inl (K.2.1, 21, .inl (t0.2.2.2.1.1.2.1.2.2.2.2.1))) :: some (a 28, .inr (1, [.ref (a 29), .ref (a 30), .ref (a 31), .ref (a 32), .ref (a 33), .int (t0.2.2.2.1.1.2.2.1.2.2.2.2.2)])) :: some (a 29, .inl (K.2.1, 96, .inl (t0.2.2.2.1.1.2.2.1.1))) :: some (a 30, .inl (K.2.1, 12, .inl (t0.2.2.2.1.1.2.2.1.2.1))) :: some (a 31, .inl (K.2.1, 12, .inl (t0.2.2.2.1.1.2.2.1.2.2.1))) :: some (a 32, .inl (K.2.1, 12, .inl (t0.2.2.2.1.1.2.2.1.2.2.2.1))) :: some (a 33, .inl (K.2.1, 21, .inl (t0.2.2.2.1.1.2.2.1.2.2.2.2.1))) :: some (a 34, .inr (1, [.ref (a 35), .ref (a 36), .ref (a 37), .ref (a 38), .ref (a 39), .int (t0.2.2.2.1.1.2.2.2.1.2.2.2.2.2)])) :: some (a 35, .inl (K.2.1, 96, .inl (t0.2.2.2.1.1.2.2.2.1.1))) :: some (a 36, .inl (K.2.1, 12, .inl (t0.2.2.2.1.1.2.2.2.1.2.1))) :: some (a 37, .inl (K.2.1, 12, .inl (t0.2.2.2.1.1.2.2.2.1.2.2.1))) :: some (a 38, .inl (K.2.1, 12, .inl (t0.2.2.2.1.1.2.2.2.1.2.2.2.1))) :: some (a 39, .inl (K.2.1, 21, .inl (t0.2.2.2.1.1.2.2.2.1.2.2.2.2.1))) :: some (a 40, .inr (1, [.ref (a 41), .ref (a 42), .ref (a 43), .ref (a 44), .ref (a 45), .int (t0.2.2.2.1.1.2.2.2.2.1.2.2.2.2.2)])) :: some (a 41, .inl (K.2.1, 96, .inl (t0.2.2.2.1.1.2.2.2.2.1.1))) :: some (a 42, .inl (K.2.1, 12, .inl (t0.2.2.2.1.1.2.2.2.2.1.2.1))) :: some (a 43, .inl (K.2.1, 12, .inl (t0.2.2.2.1.1.2.2.2.2.1.2.2.1))) :: some (a 44, .inl (K.2.1, 12, .inl (t0.2.2.2.1.1.2.2.2.2.1.2.2.2.1))) :: some (a 45, .inl (K.2.1, 21, .inl (t0.2.2.2.1.1.2.2.2.2.1.2.2.2.2.1))) :: some (a 46, .inr (1, [.ref (a 47), .ref (a 48), .ref (a 49), .ref (a 50), .ref (a 51), .int (t0.2.2.2.1.1.2.2.2.2.2.2.2.2.2.2)])) :: some (a 47, .inl (K.2.1, 96, .inl (t0.2.2.2.1.1.2.2.2.2.2.1))) :: some (a 48, .inl (K.2.1, 12, .inl (t0.2.2.2.1.1.2.2.2.2.2.2.1))) :: some (a 49, .inl (K.2.1, 12, .inl (t0.2.2.2.1.1.2.2.2.2.2.2.2.1))) :: some (a 50, .inl (K.2.1, 12, .inl (t0.2.2.2.1.1.2.2.2.2.2.2.2.2.1))) :: some (a 51, .inl (K.2.1, 21, .inl (t0.2.2.2.1.1.2.2.2.2.2.2.2.2.2.1))) :: some (a 52, .inr (5, [.ref (a 53), .ref (a 59), .ref (a 64)])) :: some (a 53, .inr (1, [.ref (a 54), .ref (a 55), .ref (a 56), .ref (a 57), .ref (a 58), .int (t0.2.2.2.2.1.1.2.2.2.2.2)])) :: some (a 54, .inl (K.2.1, 96, .inl (t0.2.2.2.2.1.1.1))) :: some (a 55, .inl (K.2.1, 12, .inl (t0.2.2.2.2.1.1.2.1))) :: some (a 56, .inl (K.2.1, 12, .inl (t0.2.2.2.2.1.1.2.2.1))) :: some (a 57, .inl (K.2.1, 12, .inl (t0.2.2.2.2.1.1.2.2.2.1))) :: some (a 58, .inl (K.2.1, 21, .inl (t0.2.2.2.2.1.1.2.2.2.2.1))) :: some (a 59, .inr (0, [.ref (a 60), .ref (a 61), .ref (a 62), .ref (a 63)])) :: some (a 60, .inl (K.2.1, 96, .inl (t0.2.2.2.2.1.2.1.1))) :: some (a 61, .inl (K.2.1, 96, .inl (t0.2.2.2.2.1.2.1.2.1))) :: some (a 62, .inl (K.2.1, 12, .inl (t0.2.2.2.2.1.2.1.2.2.1))) :: some (a 63, .inl (K.2.1, 12, .inl (t0.2.2.2.2.1.2.1.2.2.2))) :: some (a 64, .inr (2, [.ref (a 65), .int (t0.2.2.2.2.1.2.2.2)])) :: some (a 65, .inl (K.2.1, 12, .inl (t0.2.2.2.2.1.2.2.1))) :: some (a 66, .inr (4, [.ref (a 67), .int (t0.2.2.2.2.2.1.2.1), .int (t0.2.2.2.2.2.1.2.2.1), .int (t0.2.2.2.2.2.1.2.2.2.1), .int (t0.2.2.2.2.2.1.2.2.2.2)])) :: some (a 67, .inl (K.2.1, 120, .inl (t0.2.2.2.2.2.1.1))) :: some (a 68, .inl (K.2.1, 3, .inl (t0.2.2.2.2.2.2))) :: []) : List (Option (Nat × va_E))) from rfl).trans (show List.map (fun i => (w6 K a t0)[i]?) _ = ((some (a 0, .inr (6, [.ref (a 1), .ref (a 7), .ref (a 12), .ref (a 14), .ref (a 52), .ref (a 66), .ref (a 68)])) :: some (a 12, .inr (2, [.ref (a 13), .int (t0.2.2.1.2)])) :: some (a 13, .inl (K.2.1, 12, .inl (t0.2.2.1.1))) :: some (a 14, .inr (3, [.ref (a 15), .int (t0.2.2.2.1.2.1), .int (t0.2.2.2.1.2.2)])) :: some (a 15, .inl (K.2.2, 6, .inr (.inr (.inr (.inr (rgf [a 16, a 22, a 28, a 34, a 40, a 46])))))) :: some (a 16, .inr (1, [.ref (a 17), .ref (a 18), .ref (a 19), .ref (a 20), .ref (a 21), .int (t0.2.2.2.1.1.1.2.2.2.2.2)])) :: some (a 17, .inl (K.2.1, 96, .inl (t0.2.2.2.1.1.1.1))) :: some (a 18, .inl (K.2.1, 12, .inl (t0.2.2.2.1.1.1.2.1))) :: some (a 19, .inl (K.2.1, 12, .inl (t0.2.2.2.1.1.1.2.2.1))) :: some (a 20, .inl (K.2.1, 12, .inl (t0.2.2.2.1.1.1.2.2.2.1))) :: some (a 21, .inl (K.2.1, 21, .inl (t0.2.2.2.1.1.1.2.2.2.2.1))) :: some (a 22, .inr (1, [.ref (a 23), .ref (a 24), .ref (a 25), .ref (a 26), .ref (a 27), .int (t0.2.2.2.1.1.2.1.2.2.2.2.2)])) :: some (a 23, .inl (K.2.1, 96, .inl (t0.2.2.2.1.1.2.1.1))) :: some (a 24, .inl (K.2.1, 12, .inl (t0.2.2.2.1.1.2.1.2.1))) :: some (a 25, .inl (K.2.1, 12, .inl (t0.2.2.2.1.1.2.1.2.2.1))) :: some (a 26, .inl (K.2.1, 12, .inl (t0.2.2.2.1.1.2.1.2.2.2.1))) :: some (a 27, .inl (K.2.1, 21, .inl (t0.2.2.2.1.1.2.1.2.2.2.2.1))) :: some (a 28, .inr (1, [.ref (a 29), .ref (a 30), .ref (a 31), .ref (a 32), .ref (a 33), .int (t0.2.2.2.1.1.2.2.1.2.2.2.2.2)])) :: some (a 29, .inl (K.2.1, 96, .inl (t0.2.2.2.1.1.2.2.1.1))) :: some (a 30, .inl (K.2.1, 12, .inl (t0.2.2.2.1.1.2.2.1.2.1))) :: some (a 31, .inl (K.2.1, 12, .inl (t0.2.2.2.1.1.2.2.1.2.2.1))) :: some (a 32, .inl (K.2.1, 12, .inl (t0.2.2.2.1.1.2.2.1.2.2.2.1))) :: some (a 33, .inl (K.2.1, 21, .inl (t0.2.2.2.1.1.2.2.1.2.2.2.2.1))) :: some (a 34, .inr (1, [.ref (a 35), .ref (a 36), .ref (a 37), .ref (a 38), .ref (a 39), .int (t0.2.2.2.1.1.2.2.2.1.2.2.2.2.2)])) :: some (a 35, .inl (K.2.1, 96, .inl (t0.2.2.2.1.1.2.2.2.1.1))) :: some (a 36, .inl (K.2.1, 12, .inl (t0.2.2.2.1.1.2.2.2.1.2.1))) :: some (a 37, .inl (K.2.1, 12, .inl (t0.2.2.2.1.1.2.2.2.1.2.2.1))) :: some (a 38, .inl (K.2.1, 12, .inl (t0.2.2.2.1.1.2.2.2.1.2.2.2.1))) :: some (a 39, .inl (K.2.1, 21, .inl (t0.2.2.2.1.1.2.2.2.1.2.2.2.2.1))) :: some (a 40, .inr (1, [.ref (a 41), .ref (a 42), .ref (a 43), .ref (a 44), .ref (a 45), .int (t0.2.2.2.1.1.2.2.2.2.1.2.2.2.2.2)])) :: some (a 41, .inl (K.2.1, 96, .inl (t0.2.2.2.1.1.2.2.2.2.1.1))) :: some (a 42, .inl (K.2.1, 12, .inl (t0.2.2.2.1.1.2.2.2.2.1.2.1))) :: some (a 43, .inl (K.2.1, 12, .inl (t0.2.2.2.1.1.2.2.2.2.1.2.2.1))) :: some (a 44, .inl (K.2.1, 12, .inl (t0.2.2.2.1.1.2.2.2.2.1.2.2.2.1))) :: some (a 45, .inl (K.2.1, 21, .inl (t0.2.2.2.1.1.2.2.2.2.1.2.2.2.2.1))) :: some (a 46, .inr (1, [.ref (a 47), .ref (a 48), .ref (a 49), .ref (a 50), .ref (a 51), .int (t0.2.2.2.1.1.2.2.2.2.2.2.2.2.2.2)])) :: some (a 47, .inl (K.2.1, 96, .inl (t0.2.2.2.1.1.2.2.2.2.2.1))) :: some (a 48, .inl (K.2.1, 12, .inl (t0.2.2.2.1.1.2.2.2.2.2.2.1))) :: some (a 49, .inl (K.2.1, 12, .inl (t0.2.2.2.1.1.2.2.2.2.2.2.2.1))) :: some (a 50, .inl (K.2.1, 12, .inl (t0.2.2.2.1.1.2.2.2.2.2.2.2.2.1))) :: some (a 51, .inl (K.2.1, 21, .inl (t0.2.2.2.1.1.2.2.2.2.2.2.2.2.2.1))) :: some (a 52, .inr (5, [.ref (a 53), .ref (a 59), .ref (a 64)])) :: some (a 53, .inr (1, [.ref (a 54), .ref (a 55), .ref (a 56), .ref (a 57), .ref (a 58), .int (t0.2.2.2.2.1.1.2.2.2.2.2)])) :: some (a 54, .inl (K.2.1, 96, .inl (t0.2.2.2.2.1.1.1))) :: some (a 55, .inl (K.2.1, 12, .inl (t0.2.2.2.2.1.1.2.1))) :: some (a 56, .inl (K.2.1, 12, .inl (t0.2.2.2.2.1.1.2.2.1))) :: some (a 57, .inl (K.2.1, 12, .inl (t0.2.2.2.2.1.1.2.2.2.1))) :: some (a 58, .inl (K.2.1, 21, .inl (t0.2.2.2.2.1.1.2.2.2.2.1))) :: some (a 59, .inr (0, [.ref (a 60), .ref (a 61), .ref (a 62), .ref (a 63)])) :: some (a 60, .inl (K.2.1, 96, .inl (t0.2.2.2.2.1.2.1.1))) :: some (a 61, .inl (K.2.1, 96, .inl (t0.2.2.2.2.1.2.1.2.1))) :: some (a 62, .inl (K.2.1, 12, .inl (t0.2.2.2.2.1.2.1.2.2.1))) :: some (a 63, .inl (K.2.1, 12, .inl (t0.2.2.2.2.1.2.1.2.2.2))) :: some (a 64, .inr (2, [.ref (a 65), .int (t0.2.2.2.2.1.2.2.2)])) :: some (a 65, .inl (K.2.1, 12, .inl (t0.2.2.2.2.1.2.2.1))) :: some (a 66, .inr (4, [.ref (a 67), .int (t0.2.2.2.2.2.1.2.1), .int (t0.2.2.2.2.2.1.2.2.1), .int (t0.2.2.2.2.2.1.2.2.2.1), .int (t0.2.2.2.2.2.1.2.2.2.2)])) :: some (a 67, .inl (K.2.1, 120, .inl (t0.2.2.2.2.2.1.1))) :: some (a 68, .inl (K.2.1, 3, .inl (t0.2.2.2.2.2.2))) :: []) : List (Option (Nat × va_E))) from rfl).symm, rfl, by decide⟩
def fX6_of (s0 : S6) (p1 : Int32) (p2 : Int32) : Option (Int32 × S6) := Option.bind (fX1_hasPillar s0.1 p1) (fun r1 => (if r1 = 0 then Option.bind (fX6_refuse s0 (-2 : Int32)) (fun r2 => some (r2.1, r2.2)) else Option.bind (fX6_isWithin p2 (5 : Int32)) (fun r3 => (if r3 = 0 then Option.bind (fX6_refuse s0 (-2 : Int32)) (fun r4 => some (r4.1, r4.2)) else Option.bind (fX0_lay s0.2.1 s0.1) (fun r5 => Option.bind (fX6_tellPillar ((s0.1, r5, s0.2.2)) p1 p2) (fun r6 => some (r6, (s0.1, r5, s0.2.2))))))))
theorem ycX6_of : CalV yX6_of cX6_of 3 ((some .int)) 2 := ⟨mw_349, mw_61, mw_347, mw_348, ⟨by decide, by decide, by decide +kernel⟩, by decide⟩
set_option maxHeartbeats 4000000 in
set_option maxRecDepth 100000 in
theorem kX6_of (l : Launch) (K : KK) (a : Nat → Nat) (s0 : S6) (p1 : Int32) (p2 : Int32) (res : Int32 × S6) (hf : fX6_of s0 p1 p2 = some res) : Ct l K yX6_of cX6_of 3 ((some .int)) 3 [.ref (a 0), .int p1, .int p2] (w6 K a s0) (some (.int res.1)) (w6 K a res.2) := by
  refine Ct_of2 (by decide) rfl (Nat.le_of_ble_eq_true rfl) ?_
  intro p e σ m args below meth c C hr
  unfold fX6_of at hf
  refine Go_aload_n (pc := 0) C dX6_of_0 rfl ?_
  refine Go_get (pc := 1) C 0 0 rfl rfl inX6 (by decide) mw_243 rfl dX6_of_1 ?_
  refine Go_iload_n (pc := 4) C dX6_of_4 rfl ?_
  obtain ⟨r1, hr1, hf⟩ := bnd hf
  refine Go_callV1 (pc := 5) (ws1 := (w6 K a s0)) C 1 [1, 2, 3, 4, 5, 6] (kX1_hasPillar l K (pk a [1, 2, 3, 4, 5, 6]) s0.1 p1 r1 hr1) ycX1_hasPillar mw_324 (Nat.le_of_ble_eq_true rfl) rfl rfl rfl rfl (Nat.le_of_ble_eq_true rfl) ⟨Nat.zero_le _, Nat.zero_le _⟩ dX6_of_5 (ll_30 _ _ _) rfl rfl (Wr_same (ll_30 _ _ _)) ?_
  refine Go_if_eq (pc := 8) (tgt := 19) C dX6_of_8 (by decide) (fun hc => ?_) (fun hc => ?_)
  · replace hf := ift hc hf
    refine Go_aload_n (pc := 19) C dX6_of_19 rfl ?_
    refine Go_bipush (pc := 20) (v := -2) C dX6_of_20 cb_m2 ?_
    obtain ⟨r2, hr2, hf⟩ := bnd hf
    refine Go_callV1 (pc := 22) (ws1 := (w6 K a r2.2)) C 0 (0 :: 1 :: 2 :: 3 :: 4 :: 5 :: 6 :: 7 :: 8 :: 9 :: 10 :: 11 :: 12 :: 13 :: 14 :: 15 :: 16 :: 17 :: 18 :: 19 :: 20 :: 21 :: 22 :: 23 :: 24 :: 25 :: 26 :: 27 :: 28 :: 29 :: 30 :: 31 :: 32 :: 33 :: 34 :: 35 :: 36 :: 37 :: 38 :: 39 :: 40 :: 41 :: 42 :: 43 :: 44 :: 45 :: 46 :: 47 :: 48 :: 49 :: 50 :: 51 :: 52 :: 53 :: 54 :: 55 :: 56 :: 57 :: 58 :: 59 :: 60 :: 61 :: 62 :: 63 :: 64 :: 65 :: 66 :: 67 :: 68 :: []) (kX6_refuse l K (pk a (0 :: 1 :: 2 :: 3 :: 4 :: 5 :: 6 :: 7 :: 8 :: 9 :: 10 :: 11 :: 12 :: 13 :: 14 :: 15 :: 16 :: 17 :: 18 :: 19 :: 20 :: 21 :: 22 :: 23 :: 24 :: 25 :: 26 :: 27 :: 28 :: 29 :: 30 :: 31 :: 32 :: 33 :: 34 :: 35 :: 36 :: 37 :: 38 :: 39 :: 40 :: 41 :: 42 :: 43 :: 44 :: 45 :: 46 :: 47 :: 48 :: 49 :: 50 :: 51 :: 52 :: 53 :: 54 :: 55 :: 56 :: 57 :: 58 :: 59 :: 60 :: 61 :: 62 :: 63 :: 64 :: 65 :: 66 :: 67 :: 68 :: [])) s0 (-2 : Int32) r2 hr2) ycX6_refuse mw_278 (Nat.le_of_ble_eq_true rfl) rfl rfl rfl rfl (Nat.le_of_ble_eq_true rfl) ⟨Nat.zero_le _, Nat.zero_le _⟩ dX6_of_22 (ll_28 _ _ _) rfl rfl (ll_29 _ _ _ _) ?_
    obtain rfl := Option.some.inj hf
    exact Go_iret C hr rfl dX6_of_25
  · replace hf := iff' hc hf
    refine Go_iload_n (pc := 11) C dX6_of_11 rfl ?_
    refine Go_iconst (pc := 12) (v := 5) C dX6_of_12 ci_5 ?_
    obtain ⟨r3, hr3, hf⟩ := bnd hf
    refine Go_callS1 (pc := 13) (ws1 := (w6 K a s0)) C [] (kX6_isWithin l K p2 (5 : Int32) r3 hr3) ycX6_isWithin mw_272 (Nat.le_of_ble_eq_true rfl) rfl rfl (Nat.le_of_ble_eq_true rfl) ⟨Nat.zero_le _, Nat.zero_le _⟩ dX6_of_13 rfl rfl rfl (Wr_same rfl) ?_
    refine Go_if_ne (pc := 16) (tgt := 26) C dX6_of_16 (by decide) (fun hc => ?_) (fun hc => ?_)
    · replace hf := ift hc hf
      refine Go_aload_n (pc := 19) C dX6_of_19 rfl ?_
      refine Go_bipush (pc := 20) (v := -2) C dX6_of_20 cb_m2 ?_
      obtain ⟨r4, hr4, hf⟩ := bnd hf
      refine Go_callV1 (pc := 22) (ws1 := (w6 K a r4.2)) C 0 (0 :: 1 :: 2 :: 3 :: 4 :: 5 :: 6 :: 7 :: 8 :: 9 :: 10 :: 11 :: 12 :: 13 :: 14 :: 15 :: 16 :: 17 :: 18 :: 19 :: 20 :: 21 :: 22 :: 23 :: 24 :: 25 :: 26 :: 27 :: 28 :: 29 :: 30 :: 31 :: 32 :: 33 :: 34 :: 35 :: 36 :: 37 :: 38 :: 39 :: 40 :: 41 :: 42 :: 43 :: 44 :: 45 :: 46 :: 47 :: 48 :: 49 :: 50 :: 51 :: 52 :: 53 :: 54 :: 55 :: 56 :: 57 :: 58 :: 59 :: 60 :: 61 :: 62 :: 63 :: 64 :: 65 :: 66 :: 67 :: 68 :: []) (kX6_refuse l K (pk a (0 :: 1 :: 2 :: 3 :: 4 :: 5 :: 6 :: 7 :: 8 :: 9 :: 10 :: 11 :: 12 :: 13 :: 14 :: 15 :: 16 :: 17 :: 18 :: 19 :: 20 :: 21 :: 22 :: 23 :: 24 :: 25 :: 26 :: 27 :: 28 :: 29 :: 30 :: 31 :: 32 :: 33 :: 34 :: 35 :: 36 :: 37 :: 38 :: 39 :: 40 :: 41 :: 42 :: 43 :: 44 :: 45 :: 46 :: 47 :: 48 :: 49 :: 50 :: 51 :: 52 :: 53 :: 54 :: 55 :: 56 :: 57 :: 58 :: 59 :: 60 :: 61 :: 62 :: 63 :: 64 :: 65 :: 66 :: 67 :: 68 :: [])) s0 (-2 : Int32) r4 hr4) ycX6_refuse mw_278 (Nat.le_of_ble_eq_true rfl) rfl rfl rfl rfl (Nat.le_of_ble_eq_true rfl) ⟨Nat.zero_le _, Nat.zero_le _⟩ dX6_of_22 (ll_28 _ _ _) rfl rfl (ll_29 _ _ _ _) ?_
      obtain rfl := Option.some.inj hf
      exact Go_iret C hr rfl dX6_of_25
    · replace hf := iff' hc hf
      refine Go_aload_n (pc := 26) C dX6_of_26 rfl ?_
      refine Go_get (pc := 27) C 0 1 rfl rfl inX6 (by decide) mw_244 rfl dX6_of_27 ?_
      refine Go_aload_n (pc := 30) C dX6_of_30 rfl ?_
      refine Go_get (pc := 31) C 0 0 rfl rfl inX6 (by decide) mw_243 rfl dX6_of_31 ?_
      obtain ⟨r5, hr5, hf⟩ := bnd hf
      refine Go_callV0 (pc := 34) (ws1 := (w6 K a ((s0.1, r5, s0.2.2)))) C 7 [7, 8, 9, 10, 11, 1, 2, 3, 4, 5, 6] (kX0_lay l K (pk a [7, 8, 9, 10, 11, 1, 2, 3, 4, 5, 6]) s0.2.1 s0.1 r5 hr5) ycX0_lay mw_350 (Nat.le_of_ble_eq_true rfl) rfl rfl rfl rfl (Nat.le_of_ble_eq_true rfl) ⟨Nat.zero_le _, Nat.zero_le _⟩ dX6_of_34 (ll_57 _ _ _) rfl rfl (ll_58 _ _ _ _) ?_
      refine Go_aload_n (pc := 37) C dX6_of_37 rfl ?_
      refine Go_iload_n (pc := 38) C dX6_of_38 rfl ?_
      refine Go_iload_n (pc := 39) C dX6_of_39 rfl ?_
      obtain ⟨r6, hr6, hf⟩ := bnd hf
      refine Go_callV1 (pc := 40) (ws1 := (w6 K a ((s0.1, r5, s0.2.2)))) C 0 (0 :: 1 :: 2 :: 3 :: 4 :: 5 :: 6 :: 7 :: 8 :: 9 :: 10 :: 11 :: 12 :: 13 :: 14 :: 15 :: 16 :: 17 :: 18 :: 19 :: 20 :: 21 :: 22 :: 23 :: 24 :: 25 :: 26 :: 27 :: 28 :: 29 :: 30 :: 31 :: 32 :: 33 :: 34 :: 35 :: 36 :: 37 :: 38 :: 39 :: 40 :: 41 :: 42 :: 43 :: 44 :: 45 :: 46 :: 47 :: 48 :: 49 :: 50 :: 51 :: 52 :: 53 :: 54 :: 55 :: 56 :: 57 :: 58 :: 59 :: 60 :: 61 :: 62 :: 63 :: 64 :: 65 :: 66 :: 67 :: 68 :: []) (kX6_tellPillar l K (pk a (0 :: 1 :: 2 :: 3 :: 4 :: 5 :: 6 :: 7 :: 8 :: 9 :: 10 :: 11 :: 12 :: 13 :: 14 :: 15 :: 16 :: 17 :: 18 :: 19 :: 20 :: 21 :: 22 :: 23 :: 24 :: 25 :: 26 :: 27 :: 28 :: 29 :: 30 :: 31 :: 32 :: 33 :: 34 :: 35 :: 36 :: 37 :: 38 :: 39 :: 40 :: 41 :: 42 :: 43 :: 44 :: 45 :: 46 :: 47 :: 48 :: 49 :: 50 :: 51 :: 52 :: 53 :: 54 :: 55 :: 56 :: 57 :: 58 :: 59 :: 60 :: 61 :: 62 :: 63 :: 64 :: 65 :: 66 :: 67 :: 68 :: [])) ((s0.1, r5, s0.2.2)) p1 p2 r6 hr6) ycX6_tellPillar mw_374 (Nat.le_of_ble_eq_true rfl) rfl rfl rfl rfl (Nat.le_of_ble_eq_true rfl) ⟨Nat.zero_le _, Nat.zero_le _⟩ dX6_of_40 (ll_28 _ _ _) rfl rfl (Wr_same (ll_28 _ _ _)) ?_
      obtain rfl := Option.some.inj hf
      exact Go_iret C hr rfl dX6_of_43
def fX6_rests (s0 : S6) (p1 : Int32) : Option (Int32 × S6) := Option.bind (fX6_isCell p1) (fun r1 => (if r1 = 0 then Option.bind (fX6_refuse s0 (-2 : Int32)) (fun r2 => some (r2.1, r2.2)) else Option.bind (fX0_lay s0.2.1 s0.1) (fun r3 => (if 0 ≤ p1 ∧ p1.toNatClampNeg < 96 then some (r3.1 p1.toNatClampNeg, (s0.1, r3, s0.2.2)) else none))))
theorem ycX6_rests : CalV yX6_rests cX6_rests 2 ((some .int)) 1 := ⟨mw_386, mw_61, mw_384, mw_385, ⟨by decide, by decide, by decide +kernel⟩, by decide⟩
set_option maxHeartbeats 4000000 in
set_option maxRecDepth 100000 in
theorem kX6_rests (l : Launch) (K : KK) (a : Nat → Nat) (s0 : S6) (p1 : Int32) (res : Int32 × S6) (hf : fX6_rests s0 p1 = some res) : Ct l K yX6_rests cX6_rests 2 ((some .int)) 3 [.ref (a 0), .int p1] (w6 K a s0) (some (.int res.1)) (w6 K a res.2) := by
  refine Ct_of2 (by decide) rfl (Nat.le_of_ble_eq_true rfl) ?_
  intro p e σ m args below meth c C hr
  unfold fX6_rests at hf
  refine Go_iload_n (pc := 0) C dX6_rests_0 rfl ?_
  obtain ⟨r1, hr1, hf⟩ := bnd hf
  refine Go_callS1 (pc := 1) (ws1 := (w6 K a s0)) C [] (kX6_isCell l K p1 r1 hr1) ycX6_isCell mw_269 (Nat.le_of_ble_eq_true rfl) rfl rfl (Nat.le_of_ble_eq_true rfl) ⟨Nat.zero_le _, Nat.zero_le _⟩ dX6_rests_1 rfl rfl rfl (Wr_same rfl) ?_
  refine Go_if_ne (pc := 4) (tgt := 14) C dX6_rests_4 (by decide) (fun hc => ?_) (fun hc => ?_)
  · replace hf := ift hc hf
    refine Go_aload_n (pc := 7) C dX6_rests_7 rfl ?_
    refine Go_bipush (pc := 8) (v := -2) C dX6_rests_8 cb_m2 ?_
    obtain ⟨r2, hr2, hf⟩ := bnd hf
    refine Go_callV1 (pc := 10) (ws1 := (w6 K a r2.2)) C 0 (0 :: 1 :: 2 :: 3 :: 4 :: 5 :: 6 :: 7 :: 8 :: 9 :: 10 :: 11 :: 12 :: 13 :: 14 :: 15 :: 16 :: 17 :: 18 :: 19 :: 20 :: 21 :: 22 :: 23 :: 24 :: 25 :: 26 :: 27 :: 28 :: 29 :: 30 :: 31 :: 32 :: 33 :: 34 :: 35 :: 36 :: 37 :: 38 :: 39 :: 40 :: 41 :: 42 :: 43 :: 44 :: 45 :: 46 :: 47 :: 48 :: 49 :: 50 :: 51 :: 52 :: 53 :: 54 :: 55 :: 56 :: 57 :: 58 :: 59 :: 60 :: 61 :: 62 :: 63 :: 64 :: 65 :: 66 :: 67 :: 68 :: []) (kX6_refuse l K (pk a (0 :: 1 :: 2 :: 3 :: 4 :: 5 :: 6 :: 7 :: 8 :: 9 :: 10 :: 11 :: 12 :: 13 :: 14 :: 15 :: 16 :: 17 :: 18 :: 19 :: 20 :: 21 :: 22 :: 23 :: 24 :: 25 :: 26 :: 27 :: 28 :: 29 :: 30 :: 31 :: 32 :: 33 :: 34 :: 35 :: 36 :: 37 :: 38 :: 39 :: 40 :: 41 :: 42 :: 43 :: 44 :: 45 :: 46 :: 47 :: 48 :: 49 :: 50 :: 51 :: 52 :: 53 :: 54 :: 55 :: 56 :: 57 :: 58 :: 59 :: 60 :: 61 :: 62 :: 63 :: 64 :: 65 :: 66 :: 67 :: 68 :: [])) s0 (-2 : Int32) r2 hr2) ycX6_refuse mw_278 (Nat.le_of_ble_eq_true rfl) rfl rfl rfl rfl (Nat.le_of_ble_eq_true rfl) ⟨Nat.zero_le _, Nat.zero_le _⟩ dX6_rests_10 (ll_28 _ _ _) rfl rfl (ll_29 _ _ _ _) ?_
    obtain rfl := Option.some.inj hf
    exact Go_iret C hr rfl dX6_rests_13
  · replace hf := iff' hc hf
    refine Go_aload_n (pc := 14) C dX6_rests_14 rfl ?_
    refine Go_get (pc := 15) C 0 1 rfl rfl inX6 (by decide) mw_244 rfl dX6_rests_15 ?_
    refine Go_aload_n (pc := 18) C dX6_rests_18 rfl ?_
    refine Go_get (pc := 19) C 0 0 rfl rfl inX6 (by decide) mw_243 rfl dX6_rests_19 ?_
    obtain ⟨r3, hr3, hf⟩ := bnd hf
    refine Go_callV0 (pc := 22) (ws1 := (w6 K a ((s0.1, r3, s0.2.2)))) C 7 [7, 8, 9, 10, 11, 1, 2, 3, 4, 5, 6] (kX0_lay l K (pk a [7, 8, 9, 10, 11, 1, 2, 3, 4, 5, 6]) s0.2.1 s0.1 r3 hr3) ycX0_lay mw_350 (Nat.le_of_ble_eq_true rfl) rfl rfl rfl rfl (Nat.le_of_ble_eq_true rfl) ⟨Nat.zero_le _, Nat.zero_le _⟩ dX6_rests_22 (ll_57 _ _ _) rfl rfl (ll_58 _ _ _ _) ?_
    refine Go_aload_n (pc := 25) C dX6_rests_25 rfl ?_
    refine Go_get (pc := 26) C 0 1 rfl rfl inX6 (by decide) mw_244 rfl dX6_rests_26 ?_
    refine Go_get (pc := 29) C 7 0 rfl rfl inX0 (by decide) mw_139 rfl dX6_rests_29 ?_
    refine Go_iload_n (pc := 32) C dX6_rests_32 rfl ?_
    obtain ⟨hb, hf⟩ := ifs hf
    refine Go_iald (pc := 33) C 8 rfl (inb_in hb) dX6_rests_33 ?_
    obtain rfl := Option.some.inj hf
    exact Go_iret C hr rfl dX6_rests_34
theorem ll_59 (K : KK) (a : Nat → Nat) (t0 : S6) : ([7, 8, 9, 10, 11] : List Nat).map (fun i => (w6 K a t0)[i]?) = List.map some (w0 K (pk a [7, 8, 9, 10, 11]) t0.2.1) := rfl
def fX6_tellMine (s0 : S6) (p1 : Int32) : Option (Int32) := (if p1 = (0 : Int32) then some s0.1.2.2.2.2.2 else (if p1 = (1 : Int32) then Option.bind (fX1_countStanding s0.1) (fun r1 => some r1) else (if p1 = (2 : Int32) then Option.bind (fX0_countTooMuch s0.2.1 s0.1) (fun r2 => some r2) else (if p1 = (3 : Int32) then Option.bind (fX0_countFallen s0.2.1) (fun r3 => some r3) else (if p1 = (4 : Int32) then Option.bind (fX0_weighFallen s0.2.1 s0.1) (fun r4 => some r4) else (if p1 = (5 : Int32) then Option.bind (fX6_sum 96 s0.1.1) (fun r5 => some r5) else (if p1 = (6 : Int32) then Option.bind (fX1_countRooms s0.1) (fun r6 => some r6) else Option.bind (fX0_countHeldRooms s0.2.1 s0.1) (fun r7 => some r7))))))))
theorem ycX6_tellMine : CalV yX6_tellMine cX6_tellMine 2 ((some .int)) 1 := ⟨mw_394, mw_61, mw_393, mw_4, ⟨by decide, by decide, by decide +kernel⟩, by decide⟩
set_option maxHeartbeats 4000000 in
set_option maxRecDepth 100000 in
theorem kX6_tellMine (l : Launch) (K : KK) (a : Nat → Nat) (s0 : S6) (p1 : Int32) (res : Int32) (hf : fX6_tellMine s0 p1 = some res) : Ct l K yX6_tellMine cX6_tellMine 2 ((some .int)) 3 [.ref (a 0), .int p1] (w6 K a s0) (some (.int res)) (w6 K a s0) := by
  refine Ct_of2 (by decide) rfl (Nat.le_of_ble_eq_true rfl) ?_
  intro p e σ m args below meth c C hr
  unfold fX6_tellMine at hf
  refine Go_iload_n (pc := 0) C dX6_tellMine_0 rfl ?_
  by_cases hx0 : p1 = (0 : Int32)
  · replace hf := ift hx0 hf
    refine Go_tabIn (pc := 1) (tgt := 44) C dX6_tellMine_1 hx0 (by decide) (by decide) rfl (by decide) ?_
    refine Go_aload_n (pc := 44) C dX6_tellMine_44 rfl ?_
    refine Go_get (pc := 45) C 0 0 rfl rfl inX6 (by decide) mw_243 rfl dX6_tellMine_45 ?_
    refine Go_get (pc := 48) C 1 5 rfl rfl inX1 (by decide) mw_115 rfl dX6_tellMine_48 ?_
    obtain rfl := Option.some.inj hf
    exact Go_iret C hr rfl dX6_tellMine_51
  replace hf := iff' hx0 hf
  by_cases hx1 : p1 = (1 : Int32)
  · replace hf := ift hx1 hf
    refine Go_tabIn (pc := 1) (tgt := 52) C dX6_tellMine_1 hx1 (by decide) (by decide) rfl (by decide) ?_
    refine Go_aload_n (pc := 52) C dX6_tellMine_52 rfl ?_
    refine Go_get (pc := 53) C 0 0 rfl rfl inX6 (by decide) mw_243 rfl dX6_tellMine_53 ?_
    obtain ⟨r1, hr1, hf⟩ := bnd hf
    refine Go_callV1 (pc := 56) (ws1 := (w6 K a s0)) C 1 [1, 2, 3, 4, 5, 6] (kX1_countStanding l K (pk a [1, 2, 3, 4, 5, 6]) s0.1 r1 hr1) ycX1_countStanding mw_337 (Nat.le_of_ble_eq_true rfl) rfl rfl rfl rfl (Nat.le_of_ble_eq_true rfl) ⟨Nat.zero_le _, Nat.zero_le _⟩ dX6_tellMine_56 (ll_30 _ _ _) rfl rfl (Wr_same (ll_30 _ _ _)) ?_
    obtain rfl := Option.some.inj hf
    exact Go_iret C hr rfl dX6_tellMine_59
  replace hf := iff' hx1 hf
  by_cases hx2 : p1 = (2 : Int32)
  · replace hf := ift hx2 hf
    refine Go_tabIn (pc := 1) (tgt := 60) C dX6_tellMine_1 hx2 (by decide) (by decide) rfl (by decide) ?_
    refine Go_aload_n (pc := 60) C dX6_tellMine_60 rfl ?_
    refine Go_get (pc := 61) C 0 1 rfl rfl inX6 (by decide) mw_244 rfl dX6_tellMine_61 ?_
    refine Go_aload_n (pc := 64) C dX6_tellMine_64 rfl ?_
    refine Go_get (pc := 65) C 0 0 rfl rfl inX6 (by decide) mw_243 rfl dX6_tellMine_65 ?_
    obtain ⟨r2, hr2, hf⟩ := bnd hf
    refine Go_callV1 (pc := 68) (ws1 := (w6 K a s0)) C 7 [7, 8, 9, 10, 11, 1, 2, 3, 4, 5, 6] (kX0_countTooMuch l K (pk a [7, 8, 9, 10, 11, 1, 2, 3, 4, 5, 6]) s0.2.1 s0.1 r2 hr2) ycX0_countTooMuch mw_395 (Nat.le_of_ble_eq_true rfl) rfl rfl rfl rfl (Nat.le_of_ble_eq_true rfl) ⟨Nat.zero_le _, Nat.zero_le _⟩ dX6_tellMine_68 (ll_57 _ _ _) rfl rfl (Wr_same (ll_57 _ _ _)) ?_
    obtain rfl := Option.some.inj hf
    exact Go_iret C hr rfl dX6_tellMine_71
  replace hf := iff' hx2 hf
  by_cases hx3 : p1 = (3 : Int32)
  · replace hf := ift hx3 hf
    refine Go_tabIn (pc := 1) (tgt := 72) C dX6_tellMine_1 hx3 (by decide) (by decide) rfl (by decide) ?_
    refine Go_aload_n (pc := 72) C dX6_tellMine_72 rfl ?_
    refine Go_get (pc := 73) C 0 1 rfl rfl inX6 (by decide) mw_244 rfl dX6_tellMine_73 ?_
    obtain ⟨r3, hr3, hf⟩ := bnd hf
    refine Go_callV1 (pc := 76) (ws1 := (w6 K a s0)) C 7 [7, 8, 9, 10, 11] (kX0_countFallen l K (pk a [7, 8, 9, 10, 11]) s0.2.1 r3 hr3) ycX0_countFallen mw_403 (Nat.le_of_ble_eq_true rfl) rfl rfl rfl rfl (Nat.le_of_ble_eq_true rfl) ⟨Nat.zero_le _, Nat.zero_le _⟩ dX6_tellMine_76 (ll_59 _ _ _) rfl rfl (Wr_same (ll_59 _ _ _)) ?_
    obtain rfl := Option.some.inj hf
    exact Go_iret C hr rfl dX6_tellMine_79
  replace hf := iff' hx3 hf
  by_cases hx4 : p1 = (4 : Int32)
  · replace hf := ift hx4 hf
    refine Go_tabIn (pc := 1) (tgt := 80) C dX6_tellMine_1 hx4 (by decide) (by decide) rfl (by decide) ?_
    refine Go_aload_n (pc := 80) C dX6_tellMine_80 rfl ?_
    refine Go_get (pc := 81) C 0 1 rfl rfl inX6 (by decide) mw_244 rfl dX6_tellMine_81 ?_
    refine Go_aload_n (pc := 84) C dX6_tellMine_84 rfl ?_
    refine Go_get (pc := 85) C 0 0 rfl rfl inX6 (by decide) mw_243 rfl dX6_tellMine_85 ?_
    obtain ⟨r4, hr4, hf⟩ := bnd hf
    refine Go_callV1 (pc := 88) (ws1 := (w6 K a s0)) C 7 [7, 8, 9, 10, 11, 1, 2, 3, 4, 5, 6] (kX0_weighFallen l K (pk a [7, 8, 9, 10, 11, 1, 2, 3, 4, 5, 6]) s0.2.1 s0.1 r4 hr4) ycX0_weighFallen mw_407 (Nat.le_of_ble_eq_true rfl) rfl rfl rfl rfl (Nat.le_of_ble_eq_true rfl) ⟨Nat.zero_le _, Nat.zero_le _⟩ dX6_tellMine_88 (ll_57 _ _ _) rfl rfl (Wr_same (ll_57 _ _ _)) ?_
    obtain rfl := Option.some.inj hf
    exact Go_iret C hr rfl dX6_tellMine_91
  replace hf := iff' hx4 hf
  by_cases hx5 : p1 = (5 : Int32)
  · replace hf := ift hx5 hf
    refine Go_tabIn (pc := 1) (tgt := 92) C dX6_tellMine_1 hx5 (by decide) (by decide) rfl (by decide) ?_
    refine Go_aload_n (pc := 92) C dX6_tellMine_92 rfl ?_
    refine Go_get (pc := 93) C 0 0 rfl rfl inX6 (by decide) mw_243 rfl dX6_tellMine_93 ?_
    refine Go_get (pc := 96) C 1 0 rfl rfl inX1 (by decide) mw_94 rfl dX6_tellMine_96 ?_
    obtain ⟨r5, hr5, hf⟩ := bnd hf
    refine Go_callS1 (pc := 99) (ws1 := (w6 K a s0)) C [2] (kX6_sum l K (pk a [2]) 96 s0.1.1 r5 hr5) ycX6_sum mw_317 (Nat.le_of_ble_eq_true rfl) rfl rfl (Nat.le_of_ble_eq_true rfl) ⟨Nat.zero_le _, Nat.zero_le _⟩ dX6_tellMine_99 (ll_35 _ _ _) rfl rfl (Wr_same (ll_35 _ _ _)) ?_
    obtain rfl := Option.some.inj hf
    exact Go_iret C hr rfl dX6_tellMine_102
  replace hf := iff' hx5 hf
  by_cases hx6 : p1 = (6 : Int32)
  · replace hf := ift hx6 hf
    refine Go_tabIn (pc := 1) (tgt := 103) C dX6_tellMine_1 hx6 (by decide) (by decide) rfl (by decide) ?_
    refine Go_aload_n (pc := 103) C dX6_tellMine_103 rfl ?_
    refine Go_get (pc := 104) C 0 0 rfl rfl inX6 (by decide) mw_243 rfl dX6_tellMine_104 ?_
    obtain ⟨r6, hr6, hf⟩ := bnd hf
    refine Go_callV1 (pc := 107) (ws1 := (w6 K a s0)) C 1 [1, 2, 3, 4, 5, 6] (kX1_countRooms l K (pk a [1, 2, 3, 4, 5, 6]) s0.1 r6 hr6) ycX1_countRooms mw_411 (Nat.le_of_ble_eq_true rfl) rfl rfl rfl rfl (Nat.le_of_ble_eq_true rfl) ⟨Nat.zero_le _, Nat.zero_le _⟩ dX6_tellMine_107 (ll_30 _ _ _) rfl rfl (Wr_same (ll_30 _ _ _)) ?_
    obtain rfl := Option.some.inj hf
    exact Go_iret C hr rfl dX6_tellMine_110
  replace hf := iff' hx6 hf
  refine Go_tabOut (pc := 1) (tgt := 111) C dX6_tellMine_1 (by have g0 := lv_neT hx0 (show ((0 : Int32)).toInt = 0 by decide); have g1 := lv_neT hx1 (show ((1 : Int32)).toInt = 1 by decide); have g2 := lv_neT hx2 (show ((2 : Int32)).toInt = 2 by decide); have g3 := lv_neT hx3 (show ((3 : Int32)).toInt = 3 by decide); have g4 := lv_neT hx4 (show ((4 : Int32)).toInt = 4 by decide); have g5 := lv_neT hx5 (show ((5 : Int32)).toInt = 5 by decide); have g6 := lv_neT hx6 (show ((6 : Int32)).toInt = 6 by decide); omega) (by decide) ?_
  refine Go_aload_n (pc := 111) C dX6_tellMine_111 rfl ?_
  refine Go_get (pc := 112) C 0 1 rfl rfl inX6 (by decide) mw_244 rfl dX6_tellMine_112 ?_
  refine Go_aload_n (pc := 115) C dX6_tellMine_115 rfl ?_
  refine Go_get (pc := 116) C 0 0 rfl rfl inX6 (by decide) mw_243 rfl dX6_tellMine_116 ?_
  obtain ⟨r7, hr7, hf⟩ := bnd hf
  refine Go_callV1 (pc := 119) (ws1 := (w6 K a s0)) C 7 [7, 8, 9, 10, 11, 1, 2, 3, 4, 5, 6] (kX0_countHeldRooms l K (pk a [7, 8, 9, 10, 11, 1, 2, 3, 4, 5, 6]) s0.2.1 s0.1 r7 hr7) ycX0_countHeldRooms mw_427 (Nat.le_of_ble_eq_true rfl) rfl rfl rfl rfl (Nat.le_of_ble_eq_true rfl) ⟨Nat.zero_le _, Nat.zero_le _⟩ dX6_tellMine_119 (ll_57 _ _ _) rfl rfl (Wr_same (ll_57 _ _ _)) ?_
  obtain rfl := Option.some.inj hf
  exact Go_iret C hr rfl dX6_tellMine_122
def fX6_all (s0 : S6) (p1 : Int32) : Option (Int32 × S6) := Option.bind (fX6_isWithin p1 (7 : Int32)) (fun r1 => (if r1 = 0 then Option.bind (fX6_refuse s0 (-2 : Int32)) (fun r2 => some (r2.1, r2.2)) else Option.bind (fX0_lay s0.2.1 s0.1) (fun r3 => Option.bind (fX6_tellMine ((s0.1, r3, s0.2.2)) p1) (fun r4 => some (r4, (s0.1, r3, s0.2.2))))))
theorem ycX6_all : CalV yX6_all cX6_all 2 ((some .int)) 1 := ⟨mw_390, mw_61, mw_388, mw_389, ⟨by decide, by decide, by decide +kernel⟩, by decide⟩
set_option maxHeartbeats 4000000 in
set_option maxRecDepth 100000 in
theorem kX6_all (l : Launch) (K : KK) (a : Nat → Nat) (s0 : S6) (p1 : Int32) (res : Int32 × S6) (hf : fX6_all s0 p1 = some res) : Ct l K yX6_all cX6_all 2 ((some .int)) 4 [.ref (a 0), .int p1] (w6 K a s0) (some (.int res.1)) (w6 K a res.2) := by
  refine Ct_of2 (by decide) rfl (Nat.le_of_ble_eq_true rfl) ?_
  intro p e σ m args below meth c C hr
  unfold fX6_all at hf
  refine Go_iload_n (pc := 0) C dX6_all_0 rfl ?_
  refine Go_bipush (pc := 1) (v := 7) C dX6_all_1 cb_7 ?_
  obtain ⟨r1, hr1, hf⟩ := bnd hf
  refine Go_callS1 (pc := 3) (ws1 := (w6 K a s0)) C [] (kX6_isWithin l K p1 (7 : Int32) r1 hr1) ycX6_isWithin mw_272 (Nat.le_of_ble_eq_true rfl) rfl rfl (Nat.le_of_ble_eq_true rfl) ⟨Nat.zero_le _, Nat.zero_le _⟩ dX6_all_3 rfl rfl rfl (Wr_same rfl) ?_
  refine Go_if_ne (pc := 6) (tgt := 16) C dX6_all_6 (by decide) (fun hc => ?_) (fun hc => ?_)
  · replace hf := ift hc hf
    refine Go_aload_n (pc := 9) C dX6_all_9 rfl ?_
    refine Go_bipush (pc := 10) (v := -2) C dX6_all_10 cb_m2 ?_
    obtain ⟨r2, hr2, hf⟩ := bnd hf
    refine Go_callV1 (pc := 12) (ws1 := (w6 K a r2.2)) C 0 (0 :: 1 :: 2 :: 3 :: 4 :: 5 :: 6 :: 7 :: 8 :: 9 :: 10 :: 11 :: 12 :: 13 :: 14 :: 15 :: 16 :: 17 :: 18 :: 19 :: 20 :: 21 :: 22 :: 23 :: 24 :: 25 :: 26 :: 27 :: 28 :: 29 :: 30 :: 31 :: 32 :: 33 :: 34 :: 35 :: 36 :: 37 :: 38 :: 39 :: 40 :: 41 :: 42 :: 43 :: 44 :: 45 :: 46 :: 47 :: 48 :: 49 :: 50 :: 51 :: 52 :: 53 :: 54 :: 55 :: 56 :: 57 :: 58 :: 59 :: 60 :: 61 :: 62 :: 63 :: 64 :: 65 :: 66 :: 67 :: 68 :: []) (kX6_refuse l K (pk a (0 :: 1 :: 2 :: 3 :: 4 :: 5 :: 6 :: 7 :: 8 :: 9 :: 10 :: 11 :: 12 :: 13 :: 14 :: 15 :: 16 :: 17 :: 18 :: 19 :: 20 :: 21 :: 22 :: 23 :: 24 :: 25 :: 26 :: 27 :: 28 :: 29 :: 30 :: 31 :: 32 :: 33 :: 34 :: 35 :: 36 :: 37 :: 38 :: 39 :: 40 :: 41 :: 42 :: 43 :: 44 :: 45 :: 46 :: 47 :: 48 :: 49 :: 50 :: 51 :: 52 :: 53 :: 54 :: 55 :: 56 :: 57 :: 58 :: 59 :: 60 :: 61 :: 62 :: 63 :: 64 :: 65 :: 66 :: 67 :: 68 :: [])) s0 (-2 : Int32) r2 hr2) ycX6_refuse mw_278 (Nat.le_of_ble_eq_true rfl) rfl rfl rfl rfl (Nat.le_of_ble_eq_true rfl) ⟨Nat.zero_le _, Nat.zero_le _⟩ dX6_all_12 (ll_28 _ _ _) rfl rfl (ll_29 _ _ _ _) ?_
    obtain rfl := Option.some.inj hf
    exact Go_iret C hr rfl dX6_all_15
  · replace hf := iff' hc hf
    refine Go_aload_n (pc := 16) C dX6_all_16 rfl ?_
    refine Go_get (pc := 17) C 0 1 rfl rfl inX6 (by decide) mw_244 rfl dX6_all_17 ?_
    refine Go_aload_n (pc := 20) C dX6_all_20 rfl ?_
    refine Go_get (pc := 21) C 0 0 rfl rfl inX6 (by decide) mw_243 rfl dX6_all_21 ?_
    obtain ⟨r3, hr3, hf⟩ := bnd hf
    refine Go_callV0 (pc := 24) (ws1 := (w6 K a ((s0.1, r3, s0.2.2)))) C 7 [7, 8, 9, 10, 11, 1, 2, 3, 4, 5, 6] (kX0_lay l K (pk a [7, 8, 9, 10, 11, 1, 2, 3, 4, 5, 6]) s0.2.1 s0.1 r3 hr3) ycX0_lay mw_350 (Nat.le_of_ble_eq_true rfl) rfl rfl rfl rfl (Nat.le_of_ble_eq_true rfl) ⟨Nat.zero_le _, Nat.zero_le _⟩ dX6_all_24 (ll_57 _ _ _) rfl rfl (ll_58 _ _ _ _) ?_
    refine Go_aload_n (pc := 27) C dX6_all_27 rfl ?_
    refine Go_iload_n (pc := 28) C dX6_all_28 rfl ?_
    obtain ⟨r4, hr4, hf⟩ := bnd hf
    refine Go_callV1 (pc := 29) (ws1 := (w6 K a ((s0.1, r3, s0.2.2)))) C 0 (0 :: 1 :: 2 :: 3 :: 4 :: 5 :: 6 :: 7 :: 8 :: 9 :: 10 :: 11 :: 12 :: 13 :: 14 :: 15 :: 16 :: 17 :: 18 :: 19 :: 20 :: 21 :: 22 :: 23 :: 24 :: 25 :: 26 :: 27 :: 28 :: 29 :: 30 :: 31 :: 32 :: 33 :: 34 :: 35 :: 36 :: 37 :: 38 :: 39 :: 40 :: 41 :: 42 :: 43 :: 44 :: 45 :: 46 :: 47 :: 48 :: 49 :: 50 :: 51 :: 52 :: 53 :: 54 :: 55 :: 56 :: 57 :: 58 :: 59 :: 60 :: 61 :: 62 :: 63 :: 64 :: 65 :: 66 :: 67 :: 68 :: []) (kX6_tellMine l K (pk a (0 :: 1 :: 2 :: 3 :: 4 :: 5 :: 6 :: 7 :: 8 :: 9 :: 10 :: 11 :: 12 :: 13 :: 14 :: 15 :: 16 :: 17 :: 18 :: 19 :: 20 :: 21 :: 22 :: 23 :: 24 :: 25 :: 26 :: 27 :: 28 :: 29 :: 30 :: 31 :: 32 :: 33 :: 34 :: 35 :: 36 :: 37 :: 38 :: 39 :: 40 :: 41 :: 42 :: 43 :: 44 :: 45 :: 46 :: 47 :: 48 :: 49 :: 50 :: 51 :: 52 :: 53 :: 54 :: 55 :: 56 :: 57 :: 58 :: 59 :: 60 :: 61 :: 62 :: 63 :: 64 :: 65 :: 66 :: 67 :: 68 :: [])) ((s0.1, r3, s0.2.2)) p1 r4 hr4) ycX6_tellMine mw_391 (Nat.le_of_ble_eq_true rfl) rfl rfl rfl rfl (Nat.le_of_ble_eq_true rfl) ⟨Nat.zero_le _, Nat.zero_le _⟩ dX6_all_29 (ll_28 _ _ _) rfl rfl (Wr_same (ll_28 _ _ _)) ?_
    obtain rfl := Option.some.inj hf
    exact Go_iret C hr rfl dX6_all_32
def fX6_beside (s0 : S6) (p1 : Int32) (p2 : Int32) : Option (Int32 × S6) := (if p1 = p2 then Option.bind (fX6_refuse s0 (-2 : Int32)) (fun r1 => some (r1.1, r1.2)) else Option.bind (fX1_isStanding s0.1 p1) (fun r2 => (if r2 = 0 then Option.bind (fX6_refuse s0 (-2 : Int32)) (fun r3 => some (r3.1, r3.2)) else Option.bind (fX1_isStanding s0.1 p2) (fun r4 => (if r4 = 0 then Option.bind (fX6_refuse s0 (-2 : Int32)) (fun r5 => some (r5.1, r5.2)) else Option.bind (fX0_lay s0.2.1 s0.1) (fun r6 => Option.bind (fX0_meet r6 s0.1 p1 p2) (fun r7 => (if r7 = 0 then some ((0 : Int32), (s0.1, r6, s0.2.2)) else some ((1 : Int32), (s0.1, r6, s0.2.2))))))))))
theorem ycX6_beside : CalV yX6_beside cX6_beside 3 ((some .int)) 2 := ⟨mw_435, mw_61, mw_433, mw_434, ⟨by decide, by decide, by decide +kernel⟩, by decide⟩
set_option maxHeartbeats 4000000 in
set_option maxRecDepth 100000 in
theorem kX6_beside (l : Launch) (K : KK) (a : Nat → Nat) (s0 : S6) (p1 : Int32) (p2 : Int32) (res : Int32 × S6) (hf : fX6_beside s0 p1 p2 = some res) : Ct l K yX6_beside cX6_beside 3 ((some .int)) 3 [.ref (a 0), .int p1, .int p2] (w6 K a s0) (some (.int res.1)) (w6 K a res.2) := by
  refine Ct_of2 (by decide) rfl (Nat.le_of_ble_eq_true rfl) ?_
  intro p e σ m args below meth c C hr
  unfold fX6_beside at hf
  refine Go_iload_n (pc := 0) C dX6_beside_0 rfl ?_
  refine Go_iload_n (pc := 1) C dX6_beside_1 rfl ?_
  refine Go_icmp_eq (pc := 2) (tgt := 27) C dX6_beside_2 (by decide) (fun hc => ?_) (fun hc => ?_)
  · replace hf := ift hc hf
    refine Go_aload_n (pc := 27) C dX6_beside_27 rfl ?_
    refine Go_bipush (pc := 28) (v := -2) C dX6_beside_28 cb_m2 ?_
    obtain ⟨r1, hr1, hf⟩ := bnd hf
    refine Go_callV1 (pc := 30) (ws1 := (w6 K a r1.2)) C 0 (0 :: 1 :: 2 :: 3 :: 4 :: 5 :: 6 :: 7 :: 8 :: 9 :: 10 :: 11 :: 12 :: 13 :: 14 :: 15 :: 16 :: 17 :: 18 :: 19 :: 20 :: 21 :: 22 :: 23 :: 24 :: 25 :: 26 :: 27 :: 28 :: 29 :: 30 :: 31 :: 32 :: 33 :: 34 :: 35 :: 36 :: 37 :: 38 :: 39 :: 40 :: 41 :: 42 :: 43 :: 44 :: 45 :: 46 :: 47 :: 48 :: 49 :: 50 :: 51 :: 52 :: 53 :: 54 :: 55 :: 56 :: 57 :: 58 :: 59 :: 60 :: 61 :: 62 :: 63 :: 64 :: 65 :: 66 :: 67 :: 68 :: []) (kX6_refuse l K (pk a (0 :: 1 :: 2 :: 3 :: 4 :: 5 :: 6 :: 7 :: 8 :: 9 :: 10 :: 11 :: 12 :: 13 :: 14 :: 15 :: 16 :: 17 :: 18 :: 19 :: 20 :: 21 :: 22 :: 23 :: 24 :: 25 :: 26 :: 27 :: 28 :: 29 :: 30 :: 31 :: 32 :: 33 :: 34 :: 35 :: 36 :: 37 :: 38 :: 39 :: 40 :: 41 :: 42 :: 43 :: 44 :: 45 :: 46 :: 47 :: 48 :: 49 :: 50 :: 51 :: 52 :: 53 :: 54 :: 55 :: 56 :: 57 :: 58 :: 59 :: 60 :: 61 :: 62 :: 63 :: 64 :: 65 :: 66 :: 67 :: 68 :: [])) s0 (-2 : Int32) r1 hr1) ycX6_refuse mw_278 (Nat.le_of_ble_eq_true rfl) rfl rfl rfl rfl (Nat.le_of_ble_eq_true rfl) ⟨Nat.zero_le _, Nat.zero_le _⟩ dX6_beside_30 (ll_28 _ _ _) rfl rfl (ll_29 _ _ _ _) ?_
    obtain rfl := Option.some.inj hf
    exact Go_iret C hr rfl dX6_beside_33
  · replace hf := iff' hc hf
    refine Go_aload_n (pc := 5) C dX6_beside_5 rfl ?_
    refine Go_get (pc := 6) C 0 0 rfl rfl inX6 (by decide) mw_243 rfl dX6_beside_6 ?_
    refine Go_iload_n (pc := 9) C dX6_beside_9 rfl ?_
    obtain ⟨r2, hr2, hf⟩ := bnd hf
    refine Go_callV1 (pc := 10) (ws1 := (w6 K a s0)) C 1 [1, 2, 3, 4, 5, 6] (kX1_isStanding l K (pk a [1, 2, 3, 4, 5, 6]) s0.1 p1 r2 hr2) ycX1_isStanding mw_378 (Nat.le_of_ble_eq_true rfl) rfl rfl rfl rfl (Nat.le_of_ble_eq_true rfl) ⟨Nat.zero_le _, Nat.zero_le _⟩ dX6_beside_10 (ll_30 _ _ _) rfl rfl (Wr_same (ll_30 _ _ _)) ?_
    refine Go_if_eq (pc := 13) (tgt := 27) C dX6_beside_13 (by decide) (fun hc => ?_) (fun hc => ?_)
    · replace hf := ift hc hf
      refine Go_aload_n (pc := 27) C dX6_beside_27 rfl ?_
      refine Go_bipush (pc := 28) (v := -2) C dX6_beside_28 cb_m2 ?_
      obtain ⟨r3, hr3, hf⟩ := bnd hf
      refine Go_callV1 (pc := 30) (ws1 := (w6 K a r3.2)) C 0 (0 :: 1 :: 2 :: 3 :: 4 :: 5 :: 6 :: 7 :: 8 :: 9 :: 10 :: 11 :: 12 :: 13 :: 14 :: 15 :: 16 :: 17 :: 18 :: 19 :: 20 :: 21 :: 22 :: 23 :: 24 :: 25 :: 26 :: 27 :: 28 :: 29 :: 30 :: 31 :: 32 :: 33 :: 34 :: 35 :: 36 :: 37 :: 38 :: 39 :: 40 :: 41 :: 42 :: 43 :: 44 :: 45 :: 46 :: 47 :: 48 :: 49 :: 50 :: 51 :: 52 :: 53 :: 54 :: 55 :: 56 :: 57 :: 58 :: 59 :: 60 :: 61 :: 62 :: 63 :: 64 :: 65 :: 66 :: 67 :: 68 :: []) (kX6_refuse l K (pk a (0 :: 1 :: 2 :: 3 :: 4 :: 5 :: 6 :: 7 :: 8 :: 9 :: 10 :: 11 :: 12 :: 13 :: 14 :: 15 :: 16 :: 17 :: 18 :: 19 :: 20 :: 21 :: 22 :: 23 :: 24 :: 25 :: 26 :: 27 :: 28 :: 29 :: 30 :: 31 :: 32 :: 33 :: 34 :: 35 :: 36 :: 37 :: 38 :: 39 :: 40 :: 41 :: 42 :: 43 :: 44 :: 45 :: 46 :: 47 :: 48 :: 49 :: 50 :: 51 :: 52 :: 53 :: 54 :: 55 :: 56 :: 57 :: 58 :: 59 :: 60 :: 61 :: 62 :: 63 :: 64 :: 65 :: 66 :: 67 :: 68 :: [])) s0 (-2 : Int32) r3 hr3) ycX6_refuse mw_278 (Nat.le_of_ble_eq_true rfl) rfl rfl rfl rfl (Nat.le_of_ble_eq_true rfl) ⟨Nat.zero_le _, Nat.zero_le _⟩ dX6_beside_30 (ll_28 _ _ _) rfl rfl (ll_29 _ _ _ _) ?_
      obtain rfl := Option.some.inj hf
      exact Go_iret C hr rfl dX6_beside_33
    · replace hf := iff' hc hf
      refine Go_aload_n (pc := 16) C dX6_beside_16 rfl ?_
      refine Go_get (pc := 17) C 0 0 rfl rfl inX6 (by decide) mw_243 rfl dX6_beside_17 ?_
      refine Go_iload_n (pc := 20) C dX6_beside_20 rfl ?_
      obtain ⟨r4, hr4, hf⟩ := bnd hf
      refine Go_callV1 (pc := 21) (ws1 := (w6 K a s0)) C 1 [1, 2, 3, 4, 5, 6] (kX1_isStanding l K (pk a [1, 2, 3, 4, 5, 6]) s0.1 p2 r4 hr4) ycX1_isStanding mw_378 (Nat.le_of_ble_eq_true rfl) rfl rfl rfl rfl (Nat.le_of_ble_eq_true rfl) ⟨Nat.zero_le _, Nat.zero_le _⟩ dX6_beside_21 (ll_30 _ _ _) rfl rfl (Wr_same (ll_30 _ _ _)) ?_
      refine Go_if_ne (pc := 24) (tgt := 34) C dX6_beside_24 (by decide) (fun hc => ?_) (fun hc => ?_)
      · replace hf := ift hc hf
        refine Go_aload_n (pc := 27) C dX6_beside_27 rfl ?_
        refine Go_bipush (pc := 28) (v := -2) C dX6_beside_28 cb_m2 ?_
        obtain ⟨r5, hr5, hf⟩ := bnd hf
        refine Go_callV1 (pc := 30) (ws1 := (w6 K a r5.2)) C 0 (0 :: 1 :: 2 :: 3 :: 4 :: 5 :: 6 :: 7 :: 8 :: 9 :: 10 :: 11 :: 12 :: 13 :: 14 :: 15 :: 16 :: 17 :: 18 :: 19 :: 20 :: 21 :: 22 :: 23 :: 24 :: 25 :: 26 :: 27 :: 28 :: 29 :: 30 :: 31 :: 32 :: 33 :: 34 :: 35 :: 36 :: 37 :: 38 :: 39 :: 40 :: 41 :: 42 :: 43 :: 44 :: 45 :: 46 :: 47 :: 48 :: 49 :: 50 :: 51 :: 52 :: 53 :: 54 :: 55 :: 56 :: 57 :: 58 :: 59 :: 60 :: 61 :: 62 :: 63 :: 64 :: 65 :: 66 :: 67 :: 68 :: []) (kX6_refuse l K (pk a (0 :: 1 :: 2 :: 3 :: 4 :: 5 :: 6 :: 7 :: 8 :: 9 :: 10 :: 11 :: 12 :: 13 :: 14 :: 15 :: 16 :: 17 :: 18 :: 19 :: 20 :: 21 :: 22 :: 23 :: 24 :: 25 :: 26 :: 27 :: 28 :: 29 :: 30 :: 31 :: 32 :: 33 :: 34 :: 35 :: 36 :: 37 :: 38 :: 39 :: 40 :: 41 :: 42 :: 43 :: 44 :: 45 :: 46 :: 47 :: 48 :: 49 :: 50 :: 51 :: 52 :: 53 :: 54 :: 55 :: 56 :: 57 :: 58 :: 59 :: 60 :: 61 :: 62 :: 63 :: 64 :: 65 :: 66 :: 67 :: 68 :: [])) s0 (-2 : Int32) r5 hr5) ycX6_refuse mw_278 (Nat.le_of_ble_eq_true rfl) rfl rfl rfl rfl (Nat.le_of_ble_eq_true rfl) ⟨Nat.zero_le _, Nat.zero_le _⟩ dX6_beside_30 (ll_28 _ _ _) rfl rfl (ll_29 _ _ _ _) ?_
        obtain rfl := Option.some.inj hf
        exact Go_iret C hr rfl dX6_beside_33
      · replace hf := iff' hc hf
        refine Go_aload_n (pc := 34) C dX6_beside_34 rfl ?_
        refine Go_get (pc := 35) C 0 1 rfl rfl inX6 (by decide) mw_244 rfl dX6_beside_35 ?_
        refine Go_aload_n (pc := 38) C dX6_beside_38 rfl ?_
        refine Go_get (pc := 39) C 0 0 rfl rfl inX6 (by decide) mw_243 rfl dX6_beside_39 ?_
        obtain ⟨r6, hr6, hf⟩ := bnd hf
        refine Go_callV0 (pc := 42) (ws1 := (w6 K a ((s0.1, r6, s0.2.2)))) C 7 [7, 8, 9, 10, 11, 1, 2, 3, 4, 5, 6] (kX0_lay l K (pk a [7, 8, 9, 10, 11, 1, 2, 3, 4, 5, 6]) s0.2.1 s0.1 r6 hr6) ycX0_lay mw_350 (Nat.le_of_ble_eq_true rfl) rfl rfl rfl rfl (Nat.le_of_ble_eq_true rfl) ⟨Nat.zero_le _, Nat.zero_le _⟩ dX6_beside_42 (ll_57 _ _ _) rfl rfl (ll_58 _ _ _ _) ?_
        refine Go_aload_n (pc := 45) C dX6_beside_45 rfl ?_
        refine Go_get (pc := 46) C 0 1 rfl rfl inX6 (by decide) mw_244 rfl dX6_beside_46 ?_
        refine Go_aload_n (pc := 49) C dX6_beside_49 rfl ?_
        refine Go_get (pc := 50) C 0 0 rfl rfl inX6 (by decide) mw_243 rfl dX6_beside_50 ?_
        refine Go_iload_n (pc := 53) C dX6_beside_53 rfl ?_
        refine Go_iload_n (pc := 54) C dX6_beside_54 rfl ?_
        obtain ⟨r7, hr7, hf⟩ := bnd hf
        refine Go_callV1 (pc := 55) (ws1 := (w6 K a ((s0.1, r6, s0.2.2)))) C 7 [7, 8, 9, 10, 11, 1, 2, 3, 4, 5, 6] (kX0_meet l K (pk a [7, 8, 9, 10, 11, 1, 2, 3, 4, 5, 6]) r6 s0.1 p1 p2 r7 hr7) ycX0_meet mw_436 (Nat.le_of_ble_eq_true rfl) rfl rfl rfl rfl (Nat.le_of_ble_eq_true rfl) ⟨Nat.zero_le _, Nat.zero_le _⟩ dX6_beside_55 (ll_57 _ _ _) rfl rfl (Wr_same (ll_57 _ _ _)) ?_
        refine Go_if_eq (pc := 58) (tgt := 65) C dX6_beside_58 (by decide) (fun hc => ?_) (fun hc => ?_)
        · replace hf := ift hc hf
          refine Go_iconst (pc := 65) (v := 0) C dX6_beside_65 ci_0 ?_
          obtain rfl := Option.some.inj hf
          exact Go_iret C hr rfl dX6_beside_66
        · replace hf := iff' hc hf
          refine Go_iconst (pc := 61) (v := 1) C dX6_beside_61 ci_1 ?_
          refine Go_goto (pc := 62) (tgt := 66) C dX6_beside_62 (by decide) ?_
          obtain rfl := Option.some.inj hf
          exact Go_iret C hr rfl dX6_beside_66
theorem ll_70 (K : KK) (a : Nat → Nat) (t0 : S6) : ((12 :: 13 :: 1 :: 2 :: 3 :: 4 :: 5 :: 6 :: 7 :: 8 :: 9 :: 10 :: 11 :: []) : List Nat).map (fun i => (w6 K a t0)[i]?) = List.map some (w2 K (pk a (12 :: 13 :: 1 :: 2 :: 3 :: 4 :: 5 :: 6 :: 7 :: 8 :: 9 :: 10 :: 11 :: [])) t0.2.2.1 ++ w1 K (sh (pk a (12 :: 13 :: 1 :: 2 :: 3 :: 4 :: 5 :: 6 :: 7 :: 8 :: 9 :: 10 :: 11 :: [])) 2) t0.1 ++ w0 K (sh (pk a (12 :: 13 :: 1 :: 2 :: 3 :: 4 :: 5 :: 6 :: 7 :: 8 :: 9 :: 10 :: 11 :: [])) 8) t0.2.1) := rfl
theorem ll_71 (K : KK) (a : Nat → Nat) (t0 : S6) (y0 : S2) (y1 : S1) (y2 : S0) : Wr (w6 K a t0) (12 :: 13 :: 1 :: 2 :: 3 :: 4 :: 5 :: 6 :: 7 :: 8 :: 9 :: 10 :: 11 :: []) (w2 K (pk a (12 :: 13 :: 1 :: 2 :: 3 :: 4 :: 5 :: 6 :: 7 :: 8 :: 9 :: 10 :: 11 :: [])) y0 ++ w1 K (sh (pk a (12 :: 13 :: 1 :: 2 :: 3 :: 4 :: 5 :: 6 :: 7 :: 8 :: 9 :: 10 :: 11 :: [])) 2) y1 ++ w0 K (sh (pk a (12 :: 13 :: 1 :: 2 :: 3 :: 4 :: 5 :: 6 :: 7 :: 8 :: 9 :: 10 :: 11 :: [])) 8) y2) (w6 K a ((y1, y2, y0, t0.2.2.2))) := ⟨(0 :: 14 :: 15 :: 16 :: 17 :: 18 :: 19 :: 20 :: 21 :: 22 :: 23 :: 24 :: 25 :: 26 :: 27 :: 28 :: 29 :: 30 :: 31 :: 32 :: 33 :: 34 :: 35 :: 36 :: 37 :: 38 :: 39 :: 40 :: 41 :: 42 :: 43 :: 44 :: 45 :: 46 :: 47 :: 48 :: 49 :: 50 :: 51 :: 52 :: 53 :: 54 :: 55 :: 56 :: 57 :: 58 :: 59 :: 60 :: 61 :: 62 :: 63 :: 64 :: 65 :: 66 :: 67 :: 68 :: []), 69, rfl, (show List.map (fun i => (w6 K a ((y1, y2, y0, t0.2.2.2)))[i]?) _ = ((some (a 0, .inr (6, [.ref (a 1), .ref (a 7), .ref (a 12), .ref (a 14), .ref (a 52), .ref (a 66), .ref (a 68)])) :: some (a 14, .inr (3, [.ref (a 15), .int (t0.2.2.2.1.2.1), .int (t0.2.2.2.1.2.2)])) :: some (a 15, .inl (K.2.2, 6, .inr (.inr (.inr (.inr (rgf [a 16, a 22, a 28, a 34, a 40, a 46])))))) :: some (a 16, .inr (1, [.ref (a 17), .ref (a 18), .ref (a 19), .ref (a 20), .ref (a 21), .int (t0.2.2.2.1.1.1.2.2.2.2.2)])) :: some (a 17, .inl (K.2.1, 96, .inl (t0.2.2.2.1.1.1.1))) :: some (a 18, .inl (K.2.1, 12, .inl (t0.2.2.2.1.1.1.2.1))) :: some (a 19, .inl (K.2.1, 12, .inl (t0.2.2.2.1.1.1.2.2.1))) :: some (a 20, .inl (K.2.1, 12, .inl (t0.2.2.2.1.1.1.2.2.2.1))) :: some (a 21, .inl (K.2.1, 21, .inl (t0.2.2.2.1.1.1.2.2.2.2.1))) :: some (a 22, .inr (1, [.ref (a 23), .ref (a 24), .ref (a 25), .ref (a 26), .ref (a 27), .int (t0.2.2.2.1.1.2.1.2.2.2.2.2)])) :: some (a 23, .inl (K.2.1, 96, .inl (t0.2.2.2.1.1.2.1.1))) :: some (a 24, .inl (K.2.1, 12, .inl (t0.2.2.2.1.1.2.1.2.1))) :: some (a 25, .inl (K.2.1, 12, .inl (t0.2.2.2.1.1.2.1.2.2.1))) :: some (a 26, .inl (K.2.1, 12, .inl (t0.2.2.2.1.1.2.1.2.2.2.1))) :: some (a 27, .inl (K.2.1, 21, .inl (t0.2.2.2.1.1.2.1.2.2.2.2.1))) :: some (a 28, .inr (1, [.ref (a 29), .ref (a 30), .ref (a 31), .ref (a 32), .ref (a 33), .int (t0.2.2.2.1.1.2.2.1.2.2.2.2.2)])) :: some (a 29, .inl (K.2.1, 96, .inl (t0.2.2.2.1.1.2.2.1.1))) :: some (a 30, .inl (K.2.1, 12, .inl (t0.2.2.2.1.1.2.2.1.2.1))) :: some (a 31, .inl (K.2.1, 12, .inl (t0.2.2.2.1.1.2.2.1.2.2.1))) :: some (a 32, .inl (K.2.1, 12, .inl (t0.2.2.2.1.1.2.2.1.2.2.2.1))) :: some (a 33, .inl (K.2.1, 21, .inl (t0.2.2.2.1.1.2.2.1.2.2.2.2.1))) :: some (a 34, .inr (1, [.ref (a 35), .ref (a 36), .ref (a 37), .ref (a 38), .ref (a 39), .int (t0.2.2.2.1.1.2.2.2.1.2.2.2.2.2)])) :: some (a 35, .inl (K.2.1, 96, .inl (t0.2.2.2.1.1.2.2.2.1.1))) :: some (a 36, .inl (K.2.1, 12, .inl (t0.2.2.2.1.1.2.2.2.1.2.1))) :: some (a 37, .inl (K.2.1, 12, .inl (t0.2.2.2.1.1.2.2.2.1.2.2.1))) :: some (a 38, .inl (K.2.1, 12, .inl (t0.2.2.2.1.1.2.2.2.1.2.2.2.1))) :: some (a 39, .inl (K.2.1, 21, .inl (t0.2.2.2.1.1.2.2.2.1.2.2.2.2.1))) :: some (a 40, .inr (1, [.ref (a 41), .ref (a 42), .ref (a 43), .ref (a 44), .ref (a 45), .int (t0.2.2.2.1.1.2.2.2.2.1.2.2.2.2.2)])) :: some (a 41, .inl (K.2.1, 96, .inl (t0.2.2.2.1.1.2.2.2.2.1.1))) :: some (a 42, .inl (K.2.1, 12, .inl (t0.2.2.2.1.1.2.2.2.2.1.2.1))) :: some (a 43, .inl (K.2.1, 12, .inl (t0.2.2.2.1.1.2.2.2.2.1.2.2.1))) :: some (a 44, .inl (K.2.1, 12, .inl (t0.2.2.2.1.1.2.2.2.2.1.2.2.2.1))) :: some (a 45, .inl (K.2.1, 21, .inl (t0.2.2.2.1.1.2.2.2.2.1.2.2.2.2.1))) :: some (a 46, .inr (1, [.ref (a 47), .ref (a 48), .ref (a 49), .ref (a 50), .ref (a 51), .int (t0.2.2.2.1.1.2.2.2.2.2.2.2.2.2.2)])) :: some (a 47, .inl (K.2.1, 96, .inl (t0.2.2.2.1.1.2.2.2.2.2.1))) :: some (a 48, .inl (K.2.1, 12, .inl (t0.2.2.2.1.1.2.2.2.2.2.2.1))) :: some (a 49, .inl (K.2.1, 12, .inl (t0.2.2.2.1.1.2.2.2.2.2.2.2.1))) :: some (a 50, .inl (K.2.1, 12, .inl (t0.2.2.2.1.1.2.2.2.2.2.2.2.2.1))) :: some (a 51, .inl (K.2.1, 21, .inl (t0.2.2.2.1.1.2.2.2.2.2.2.2.2.2.1))) :: some (a 52, .inr (5, [.ref (a 53), .ref (a 59), .ref (a 64)])) :: some (a 53, .inr (1, [.ref (a 54), .ref (a 55), .ref (a 56), .ref (a 57), .ref (a 58), .int (t0.2.2.2.2.1.1.2.2.2.2.2)])) :: some (a 54, .inl (K.2.1, 96, .inl (t0.2.2.2.2.1.1.1))) :: some (a 55, .inl (K.2.1, 12, .inl (t0.2.2.2.2.1.1.2.1))) :: some (a 56, .inl (K.2.1, 12, .inl (t0.2.2.2.2.1.1.2.2.1))) :: some (a 57, .inl (K.2.1, 12, .inl (t0.2.2.2.2.1.1.2.2.2.1))) :: some (a 58, .inl (K.2.1, 21, .inl (t0.2.2.2.2.1.1.2.2.2.2.1))) :: some (a 59, .inr (0, [.ref (a 60), .ref (a 61), .ref (a 62), .ref (a 63)])) :: some (a 60, .inl (K.2.1, 96, .inl (t0.2.2.2.2.1.2.1.1))) :: some (a 61, .inl (K.2.1, 96, .inl (t0.2.2.2.2.1.2.1.2.1))) :: some (a 62, .inl (K.2.1, 12, .inl (t0.2.2.2.2.1.2.1.2.2.1))) :: some (a 63, .inl (K.2.1, 12, .inl (t0.2.2.2.2.1.2.1.2.2.2))) :: some (a 64, .inr (2, [.ref (a 65), .int (t0.2.2.2.2.1.2.2.2)])) :: some (a 65, .inl (K.2.1, 12, .inl (t0.2.2.2.2.1.2.2.1))) :: some (a 66, .inr (4, [.ref (a 67), .int (t0.2.2.2.2.2.1.2.1), .int (t0.2.2.2.2.2.1.2.2.1), .int (t0.2.2.2.2.2.1.2.2.2.1), .int (t0.2.2.2.2.2.1.2.2.2.2)])) :: some (a 67, .inl (K.2.1, 120, .inl (t0.2.2.2.2.2.1.1))) :: some (a 68, .inl (K.2.1, 3, .inl (t0.2.2.2.2.2.2))) :: []) : List (Option (Nat × va_E))) from rfl).trans (show List.map (fun i => (w6 K a t0)[i]?) _ = ((some (a 0, .inr (6, [.ref (a 1), .ref (a 7), .ref (a 12), .ref (a 14), .ref (a 52), .ref (a 66), .ref (a 68)])) :: some (a 14, .inr (3, [.ref (a 15), .int (t0.2.2.2.1.2.1), .int (t0.2.2.2.1.2.2)])) :: some (a 15, .inl (K.2.2, 6, .inr (.inr (.inr (.inr (rgf [a 16, a 22, a 28, a 34, a 40, a 46])))))) :: some (a 16, .inr (1, [.ref (a 17), .ref (a 18), .ref (a 19), .ref (a 20), .ref (a 21), .int (t0.2.2.2.1.1.1.2.2.2.2.2)])) :: some (a 17, .inl (K.2.1, 96, .inl (t0.2.2.2.1.1.1.1))) :: some (a 18, .inl (K.2.1, 12, .inl (t0.2.2.2.1.1.1.2.1))) :: some (a 19, .inl (K.2.1, 12, .inl (t0.2.2.2.1.1.1.2.2.1))) :: some (a 20, .inl (K.2.1, 12, .inl (t0.2.2.2.1.1.1.2.2.2.1))) :: some (a 21, .inl (K.2.1, 21, .inl (t0.2.2.2.1.1.1.2.2.2.2.1))) :: some (a 22, .inr (1, [.ref (a 23), .ref (a 24), .ref (a 25), .ref (a 26), .ref (a 27), .int (t0.2.2.2.1.1.2.1.2.2.2.2.2)])) :: some (a 23, .inl (K.2.1, 96, .inl (t0.2.2.2.1.1.2.1.1))) :: some (a 24, .inl (K.2.1, 12, .inl (t0.2.2.2.1.1.2.1.2.1))) :: some (a 25, .inl (K.2.1, 12, .inl (t0.2.2.2.1.1.2.1.2.2.1))) :: some (a 26, .inl (K.2.1, 12, .inl (t0.2.2.2.1.1.2.1.2.2.2.1))) :: some (a 27, .inl (K.2.1, 21, .inl (t0.2.2.2.1.1.2.1.2.2.2.2.1))) :: some (a 28, .inr (1, [.ref (a 29), .ref (a 30), .ref (a 31), .ref (a 32), .ref (a 33), .int (t0.2.2.2.1.1.2.2.1.2.2.2.2.2)])) :: some (a 29, .inl (K.2.1, 96, .inl (t0.2.2.2.1.1.2.2.1.1))) :: some (a 30, .inl (K.2.1, 12, .inl (t0.2.2.2.1.1.2.2.1.2.1))) :: some (a 31, .inl (K.2.1, 12, .inl (t0.2.2.2.1.1.2.2.1.2.2.1))) :: some (a 32, .inl (K.2.1, 12, .inl (t0.2.2.2.1.1.2.2.1.2.2.2.1))) :: some (a 33, .inl (K.2.1, 21, .inl (t0.2.2.2.1.1.2.2.1.2.2.2.2.1))) :: some (a 34, .inr (1, [.ref (a 35), .ref (a 36), .ref (a 37), .ref (a 38), .ref (a 39), .int (t0.2.2.2.1.1.2.2.2.1.2.2.2.2.2)])) :: some (a 35, .inl (K.2.1, 96, .inl (t0.2.2.2.1.1.2.2.2.1.1))) :: some (a 36, .inl (K.2.1, 12, .inl (t0.2.2.2.1.1.2.2.2.1.2.1))) :: some (a 37, .inl (K.2.1, 12, .inl (t0.2.2.2.1.1.2.2.2.1.2.2.1))) :: some (a 38, .inl (K.2.1, 12, .inl (t0.2.2.2.1.1.2.2.2.1.2.2.2.1))) :: some (a 39, .inl (K.2.1, 21, .inl (t0.2.2.2.1.1.2.2.2.1.2.2.2.2.1))) :: some (a 40, .inr (1, [.ref (a 41), .ref (a 42), .ref (a 43), .ref (a 44), .ref (a 45), .int (t0.2.2.2.1.1.2.2.2.2.1.2.2.2.2.2)])) :: some (a 41, .inl (K.2.1, 96, .inl (t0.2.2.2.1.1.2.2.2.2.1.1))) :: some (a 42, .inl (K.2.1, 12, .inl (t0.2.2.2.1.1.2.2.2.2.1.2.1))) :: some (a 43, .inl (K.2.1, 12, .inl (t0.2.2.2.1.1.2.2.2.2.1.2.2.1))) :: some (a 44, .inl (K.2.1, 12, .inl (t0.2.2.2.1.1.2.2.2.2.1.2.2.2.1))) :: some (a 45, .inl (K.2.1, 21, .inl (t0.2.2.2.1.1.2.2.2.2.1.2.2.2.2.1))) :: some (a 46, .inr (1, [.ref (a 47), .ref (a 48), .ref (a 49), .ref (a 50), .ref (a 51), .int (t0.2.2.2.1.1.2.2.2.2.2.2.2.2.2.2)])) :: some (a 47, .inl (K.2.1, 96, .inl (t0.2.2.2.1.1.2.2.2.2.2.1))) :: some (a 48, .inl (K.2.1, 12, .inl (t0.2.2.2.1.1.2.2.2.2.2.2.1))) :: some (a 49, .inl (K.2.1, 12, .inl (t0.2.2.2.1.1.2.2.2.2.2.2.2.1))) :: some (a 50, .inl (K.2.1, 12, .inl (t0.2.2.2.1.1.2.2.2.2.2.2.2.2.1))) :: some (a 51, .inl (K.2.1, 21, .inl (t0.2.2.2.1.1.2.2.2.2.2.2.2.2.2.1))) :: some (a 52, .inr (5, [.ref (a 53), .ref (a 59), .ref (a 64)])) :: some (a 53, .inr (1, [.ref (a 54), .ref (a 55), .ref (a 56), .ref (a 57), .ref (a 58), .int (t0.2.2.2.2.1.1.2.2.2.2.2)])) :: some (a 54, .inl (K.2.1, 96, .inl (t0.2.2.2.2.1.1.1))) :: some (a 55, .inl (K.2.1, 12, .inl (t0.2.2.2.2.1.1.2.1))) :: some (a 56, .inl (K.2.1, 12, .inl (t0.2.2.2.2.1.1.2.2.1))) :: some (a 57, .inl (K.2.1, 12, .inl (t0.2.2.2.2.1.1.2.2.2.1))) :: some (a 58, .inl (K.2.1, 21, .inl (t0.2.2.2.2.1.1.2.2.2.2.1))) :: some (a 59, .inr (0, [.ref (a 60), .ref (a 61), .ref (a 62), .ref (a 63)])) :: some (a 60, .inl (K.2.1, 96, .inl (t0.2.2.2.2.1.2.1.1))) :: some (a 61, .inl (K.2.1, 96, .inl (t0.2.2.2.2.1.2.1.2.1))) :: some (a 62, .inl (K.2.1, 12, .inl (t0.2.2.2.2.1.2.1.2.2.1))) :: some (a 63, .inl (K.2.1, 12, .inl (t0.2.2.2.2.1.2.1.2.2.2))) :: some (a 64, .inr (2, [.ref (a 65), .int (t0.2.2.2.2.1.2.2.2)])) :: some (a 65, .inl (K.2.1, 12, .inl (t0.2.2.2.2.1.2.2.1))) :: some (a 66, .inr (4, [.ref (a 67), .int (t0.2.2.2.2.2.1.2.1), .int (t0.2.2.2.2.2.1.2.2.1), .int (t0.2.2.2.2.2.1.2.2.2.1), .int (t0.2.2.2.2.2.1.2.2.2.2)])) :: some (a 67, .inl (K.2.1, 120, .inl (t0.2.2.2.2.2.1.1))) :: some (a 68, .inl (K.2.1, 3, .inl (t0.2.2.2.2.2.2))) :: []) : List (Option (Nat × va_E))) from rfl).symm, rfl, by decide⟩
def fX6_runs (s0 : S6) : Option (Int32 × S6) := Option.bind (fX3_keep s0.2.2.2.1 s0.1) (fun r1 => Option.bind (fX2_crush s0.2.2.1 s0.1 s0.2.1) (fun r2 => some (r2.1, (r2.2.2.1, r2.2.2.2, r2.2.1, r1, s0.2.2.2.2))))
theorem ycX6_runs : CalV yX6_runs cX6_runs 1 ((some .int)) 0 := ⟨mw_449, mw_61, mw_447, mw_448, ⟨by decide, by decide, by decide +kernel⟩, by decide⟩
set_option maxHeartbeats 4000000 in
set_option maxRecDepth 100000 in
theorem kX6_runs (l : Launch) (K : KK) (a : Nat → Nat) (s0 : S6) (res : Int32 × S6) (hf : fX6_runs s0 = some res) : Ct l K yX6_runs cX6_runs 1 ((some .int)) 4 [.ref (a 0)] (w6 K a s0) (some (.int res.1)) (w6 K a res.2) := by
  refine Ct_of2 (by decide) rfl (Nat.le_of_ble_eq_true rfl) ?_
  intro p e σ m args below meth c C hr
  unfold fX6_runs at hf
  refine Go_aload_n (pc := 0) C dX6_runs_0 rfl ?_
  refine Go_get (pc := 1) C 0 3 rfl rfl inX6 (by decide) mw_246 rfl dX6_runs_1 ?_
  refine Go_aload_n (pc := 4) C dX6_runs_4 rfl ?_
  refine Go_get (pc := 5) C 0 0 rfl rfl inX6 (by decide) mw_243 rfl dX6_runs_5 ?_
  obtain ⟨r1, hr1, hf⟩ := bnd hf
  refine Go_callV0 (pc := 8) (ws1 := (w6 K a ((s0.1, s0.2.1, s0.2.2.1, r1, s0.2.2.2.2)))) C 14 (14 :: 15 :: 16 :: 17 :: 18 :: 19 :: 20 :: 21 :: 22 :: 23 :: 24 :: 25 :: 26 :: 27 :: 28 :: 29 :: 30 :: 31 :: 32 :: 33 :: 34 :: 35 :: 36 :: 37 :: 38 :: 39 :: 40 :: 41 :: 42 :: 43 :: 44 :: 45 :: 46 :: 47 :: 48 :: 49 :: 50 :: 51 :: 1 :: 2 :: 3 :: 4 :: 5 :: 6 :: []) (kX3_keep l K (pk a (14 :: 15 :: 16 :: 17 :: 18 :: 19 :: 20 :: 21 :: 22 :: 23 :: 24 :: 25 :: 26 :: 27 :: 28 :: 29 :: 30 :: 31 :: 32 :: 33 :: 34 :: 35 :: 36 :: 37 :: 38 :: 39 :: 40 :: 41 :: 42 :: 43 :: 44 :: 45 :: 46 :: 47 :: 48 :: 49 :: 50 :: 51 :: 1 :: 2 :: 3 :: 4 :: 5 :: 6 :: [])) s0.2.2.2.1 s0.1 r1 hr1) ycX3_keep mw_286 (Nat.le_of_ble_eq_true rfl) rfl rfl rfl rfl (Nat.le_of_ble_eq_true rfl) ⟨Nat.zero_le _, Nat.zero_le _⟩ dX6_runs_8 (ll_31 _ _ _) rfl rfl (ll_32 _ _ _ _) ?_
  refine Go_aload_n (pc := 11) C dX6_runs_11 rfl ?_
  refine Go_get (pc := 12) C 0 2 rfl rfl inX6 (by decide) mw_245 rfl dX6_runs_12 ?_
  refine Go_aload_n (pc := 15) C dX6_runs_15 rfl ?_
  refine Go_get (pc := 16) C 0 0 rfl rfl inX6 (by decide) mw_243 rfl dX6_runs_16 ?_
  refine Go_aload_n (pc := 19) C dX6_runs_19 rfl ?_
  refine Go_get (pc := 20) C 0 1 rfl rfl inX6 (by decide) mw_244 rfl dX6_runs_20 ?_
  obtain ⟨r2, hr2, hf⟩ := bnd hf
  refine Go_callV1 (pc := 23) (ws1 := (w6 K a ((r2.2.2.1, r2.2.2.2, r2.2.1, r1, s0.2.2.2.2)))) C 12 (12 :: 13 :: 1 :: 2 :: 3 :: 4 :: 5 :: 6 :: 7 :: 8 :: 9 :: 10 :: 11 :: []) (kX2_crush l K (pk a (12 :: 13 :: 1 :: 2 :: 3 :: 4 :: 5 :: 6 :: 7 :: 8 :: 9 :: 10 :: 11 :: [])) s0.2.2.1 s0.1 s0.2.1 r2 hr2) ycX2_crush mw_450 (Nat.le_of_ble_eq_true rfl) rfl rfl rfl rfl (Nat.le_of_ble_eq_true rfl) ⟨Nat.zero_le _, Nat.zero_le _⟩ dX6_runs_23 (ll_70 _ _ _) rfl rfl (ll_71 _ _ _ _ _ _) ?_
  obtain rfl := Option.some.inj hf
  exact Go_iret C hr rfl dX6_runs_26
def fX6_loses (s0 : S6) (p1 : Int32) : Option (Int32 × S6) := Option.bind (fX1_hasPillar s0.1 p1) (fun r1 => (if r1 = 0 then Option.bind (fX6_refuse s0 (-2 : Int32)) (fun r2 => some (r2.1, r2.2)) else Option.bind (fX1_isStanding s0.1 p1) (fun r3 => (if r3 = 0 then Option.bind (fX6_refuse s0 (-3 : Int32)) (fun r4 => some (r4.1, r4.2)) else Option.bind (fX3_keep s0.2.2.2.1 s0.1) (fun r5 => (if 0 ≤ p1 ∧ p1.toNatClampNeg < 12 then Option.bind (fX2_crush s0.2.2.1 ((s0.1.1, s0.1.2.1, s0.1.2.2.1, upd s0.1.2.2.2.1 p1.toNatClampNeg (0 : Int32), s0.1.2.2.2.2)) s0.2.1) (fun r6 => some ((1 : Int32) + r6.1, (r6.2.2.1, r6.2.2.2, r6.2.1, r5, s0.2.2.2.2))) else none))))))
theorem ycX6_loses : CalV yX6_loses cX6_loses 2 ((some .int)) 1 := ⟨mw_463, mw_61, mw_461, mw_462, ⟨by decide, by decide, by decide +kernel⟩, by decide⟩
set_option maxHeartbeats 4000000 in
set_option maxRecDepth 100000 in
theorem kX6_loses (l : Launch) (K : KK) (a : Nat → Nat) (s0 : S6) (p1 : Int32) (res : Int32 × S6) (hf : fX6_loses s0 p1 = some res) : Ct l K yX6_loses cX6_loses 2 ((some .int)) 4 [.ref (a 0), .int p1] (w6 K a s0) (some (.int res.1)) (w6 K a res.2) := by
  refine Ct_of2 (by decide) rfl (Nat.le_of_ble_eq_true rfl) ?_
  intro p e σ m args below meth c C hr
  unfold fX6_loses at hf
  refine Go_aload_n (pc := 0) C dX6_loses_0 rfl ?_
  refine Go_get (pc := 1) C 0 0 rfl rfl inX6 (by decide) mw_243 rfl dX6_loses_1 ?_
  refine Go_iload_n (pc := 4) C dX6_loses_4 rfl ?_
  obtain ⟨r1, hr1, hf⟩ := bnd hf
  refine Go_callV1 (pc := 5) (ws1 := (w6 K a s0)) C 1 [1, 2, 3, 4, 5, 6] (kX1_hasPillar l K (pk a [1, 2, 3, 4, 5, 6]) s0.1 p1 r1 hr1) ycX1_hasPillar mw_324 (Nat.le_of_ble_eq_true rfl) rfl rfl rfl rfl (Nat.le_of_ble_eq_true rfl) ⟨Nat.zero_le _, Nat.zero_le _⟩ dX6_loses_5 (ll_30 _ _ _) rfl rfl (Wr_same (ll_30 _ _ _)) ?_
  refine Go_if_ne (pc := 8) (tgt := 18) C dX6_loses_8 (by decide) (fun hc => ?_) (fun hc => ?_)
  · replace hf := ift hc hf
    refine Go_aload_n (pc := 11) C dX6_loses_11 rfl ?_
    refine Go_bipush (pc := 12) (v := -2) C dX6_loses_12 cb_m2 ?_
    obtain ⟨r2, hr2, hf⟩ := bnd hf
    refine Go_callV1 (pc := 14) (ws1 := (w6 K a r2.2)) C 0 (0 :: 1 :: 2 :: 3 :: 4 :: 5 :: 6 :: 7 :: 8 :: 9 :: 10 :: 11 :: 12 :: 13 :: 14 :: 15 :: 16 :: 17 :: 18 :: 19 :: 20 :: 21 :: 22 :: 23 :: 24 :: 25 :: 26 :: 27 :: 28 :: 29 :: 30 :: 31 :: 32 :: 33 :: 34 :: 35 :: 36 :: 37 :: 38 :: 39 :: 40 :: 41 :: 42 :: 43 :: 44 :: 45 :: 46 :: 47 :: 48 :: 49 :: 50 :: 51 :: 52 :: 53 :: 54 :: 55 :: 56 :: 57 :: 58 :: 59 :: 60 :: 61 :: 62 :: 63 :: 64 :: 65 :: 66 :: 67 :: 68 :: []) (kX6_refuse l K (pk a (0 :: 1 :: 2 :: 3 :: 4 :: 5 :: 6 :: 7 :: 8 :: 9 :: 10 :: 11 :: 12 :: 13 :: 14 :: 15 :: 16 :: 17 :: 18 :: 19 :: 20 :: 21 :: 22 :: 23 :: 24 :: 25 :: 26 :: 27 :: 28 :: 29 :: 30 :: 31 :: 32 :: 33 :: 34 :: 35 :: 36 :: 37 :: 38 :: 39 :: 40 :: 41 :: 42 :: 43 :: 44 :: 45 :: 46 :: 47 :: 48 :: 49 :: 50 :: 51 :: 52 :: 53 :: 54 :: 55 :: 56 :: 57 :: 58 :: 59 :: 60 :: 61 :: 62 :: 63 :: 64 :: 65 :: 66 :: 67 :: 68 :: [])) s0 (-2 : Int32) r2 hr2) ycX6_refuse mw_278 (Nat.le_of_ble_eq_true rfl) rfl rfl rfl rfl (Nat.le_of_ble_eq_true rfl) ⟨Nat.zero_le _, Nat.zero_le _⟩ dX6_loses_14 (ll_28 _ _ _) rfl rfl (ll_29 _ _ _ _) ?_
    obtain rfl := Option.some.inj hf
    exact Go_iret C hr rfl dX6_loses_17
  · replace hf := iff' hc hf
    refine Go_aload_n (pc := 18) C dX6_loses_18 rfl ?_
    refine Go_get (pc := 19) C 0 0 rfl rfl inX6 (by decide) mw_243 rfl dX6_loses_19 ?_
    refine Go_iload_n (pc := 22) C dX6_loses_22 rfl ?_
    obtain ⟨r3, hr3, hf⟩ := bnd hf
    refine Go_callV1 (pc := 23) (ws1 := (w6 K a s0)) C 1 [1, 2, 3, 4, 5, 6] (kX1_isStanding l K (pk a [1, 2, 3, 4, 5, 6]) s0.1 p1 r3 hr3) ycX1_isStanding mw_378 (Nat.le_of_ble_eq_true rfl) rfl rfl rfl rfl (Nat.le_of_ble_eq_true rfl) ⟨Nat.zero_le _, Nat.zero_le _⟩ dX6_loses_23 (ll_30 _ _ _) rfl rfl (Wr_same (ll_30 _ _ _)) ?_
    refine Go_if_ne (pc := 26) (tgt := 36) C dX6_loses_26 (by decide) (fun hc => ?_) (fun hc => ?_)
    · replace hf := ift hc hf
      refine Go_aload_n (pc := 29) C dX6_loses_29 rfl ?_
      refine Go_bipush (pc := 30) (v := -3) C dX6_loses_30 cb_m3 ?_
      obtain ⟨r4, hr4, hf⟩ := bnd hf
      refine Go_callV1 (pc := 32) (ws1 := (w6 K a r4.2)) C 0 (0 :: 1 :: 2 :: 3 :: 4 :: 5 :: 6 :: 7 :: 8 :: 9 :: 10 :: 11 :: 12 :: 13 :: 14 :: 15 :: 16 :: 17 :: 18 :: 19 :: 20 :: 21 :: 22 :: 23 :: 24 :: 25 :: 26 :: 27 :: 28 :: 29 :: 30 :: 31 :: 32 :: 33 :: 34 :: 35 :: 36 :: 37 :: 38 :: 39 :: 40 :: 41 :: 42 :: 43 :: 44 :: 45 :: 46 :: 47 :: 48 :: 49 :: 50 :: 51 :: 52 :: 53 :: 54 :: 55 :: 56 :: 57 :: 58 :: 59 :: 60 :: 61 :: 62 :: 63 :: 64 :: 65 :: 66 :: 67 :: 68 :: []) (kX6_refuse l K (pk a (0 :: 1 :: 2 :: 3 :: 4 :: 5 :: 6 :: 7 :: 8 :: 9 :: 10 :: 11 :: 12 :: 13 :: 14 :: 15 :: 16 :: 17 :: 18 :: 19 :: 20 :: 21 :: 22 :: 23 :: 24 :: 25 :: 26 :: 27 :: 28 :: 29 :: 30 :: 31 :: 32 :: 33 :: 34 :: 35 :: 36 :: 37 :: 38 :: 39 :: 40 :: 41 :: 42 :: 43 :: 44 :: 45 :: 46 :: 47 :: 48 :: 49 :: 50 :: 51 :: 52 :: 53 :: 54 :: 55 :: 56 :: 57 :: 58 :: 59 :: 60 :: 61 :: 62 :: 63 :: 64 :: 65 :: 66 :: 67 :: 68 :: [])) s0 (-3 : Int32) r4 hr4) ycX6_refuse mw_278 (Nat.le_of_ble_eq_true rfl) rfl rfl rfl rfl (Nat.le_of_ble_eq_true rfl) ⟨Nat.zero_le _, Nat.zero_le _⟩ dX6_loses_32 (ll_28 _ _ _) rfl rfl (ll_29 _ _ _ _) ?_
      obtain rfl := Option.some.inj hf
      exact Go_iret C hr rfl dX6_loses_35
    · replace hf := iff' hc hf
      refine Go_aload_n (pc := 36) C dX6_loses_36 rfl ?_
      refine Go_get (pc := 37) C 0 3 rfl rfl inX6 (by decide) mw_246 rfl dX6_loses_37 ?_
      refine Go_aload_n (pc := 40) C dX6_loses_40 rfl ?_
      refine Go_get (pc := 41) C 0 0 rfl rfl inX6 (by decide) mw_243 rfl dX6_loses_41 ?_
      obtain ⟨r5, hr5, hf⟩ := bnd hf
      refine Go_callV0 (pc := 44) (ws1 := (w6 K a ((s0.1, s0.2.1, s0.2.2.1, r5, s0.2.2.2.2)))) C 14 (14 :: 15 :: 16 :: 17 :: 18 :: 19 :: 20 :: 21 :: 22 :: 23 :: 24 :: 25 :: 26 :: 27 :: 28 :: 29 :: 30 :: 31 :: 32 :: 33 :: 34 :: 35 :: 36 :: 37 :: 38 :: 39 :: 40 :: 41 :: 42 :: 43 :: 44 :: 45 :: 46 :: 47 :: 48 :: 49 :: 50 :: 51 :: 1 :: 2 :: 3 :: 4 :: 5 :: 6 :: []) (kX3_keep l K (pk a (14 :: 15 :: 16 :: 17 :: 18 :: 19 :: 20 :: 21 :: 22 :: 23 :: 24 :: 25 :: 26 :: 27 :: 28 :: 29 :: 30 :: 31 :: 32 :: 33 :: 34 :: 35 :: 36 :: 37 :: 38 :: 39 :: 40 :: 41 :: 42 :: 43 :: 44 :: 45 :: 46 :: 47 :: 48 :: 49 :: 50 :: 51 :: 1 :: 2 :: 3 :: 4 :: 5 :: 6 :: [])) s0.2.2.2.1 s0.1 r5 hr5) ycX3_keep mw_286 (Nat.le_of_ble_eq_true rfl) rfl rfl rfl rfl (Nat.le_of_ble_eq_true rfl) ⟨Nat.zero_le _, Nat.zero_le _⟩ dX6_loses_44 (ll_31 _ _ _) rfl rfl (ll_32 _ _ _ _) ?_
      refine Go_aload_n (pc := 47) C dX6_loses_47 rfl ?_
      refine Go_get (pc := 48) C 0 0 rfl rfl inX6 (by decide) mw_243 rfl dX6_loses_48 ?_
      refine Go_get (pc := 51) C 1 3 rfl rfl inX1 (by decide) mw_107 rfl dX6_loses_51 ?_
      refine Go_iload_n (pc := 54) C dX6_loses_54 rfl ?_
      refine Go_iconst (pc := 55) (v := 0) C dX6_loses_55 ci_0 ?_
      obtain ⟨hb, hf⟩ := ifs hf
      refine Go_iast (pc := 56) (ws1 := (w6 K a (((s0.1.1, s0.1.2.1, s0.1.2.2.1, upd s0.1.2.2.2.1 p1.toNatClampNeg (0 : Int32), s0.1.2.2.2.2), s0.2.1, s0.2.2.1, r5, s0.2.2.2.2)))) C 5 rfl (inb_in hb) dX6_loses_56 (ll_40 _ _ _ _) ?_
      refine Go_iconst (pc := 57) (v := 1) C dX6_loses_57 ci_1 ?_
      refine Go_aload_n (pc := 58) C dX6_loses_58 rfl ?_
      refine Go_get (pc := 59) C 0 2 rfl rfl inX6 (by decide) mw_245 rfl dX6_loses_59 ?_
      refine Go_aload_n (pc := 62) C dX6_loses_62 rfl ?_
      refine Go_get (pc := 63) C 0 0 rfl rfl inX6 (by decide) mw_243 rfl dX6_loses_63 ?_
      refine Go_aload_n (pc := 66) C dX6_loses_66 rfl ?_
      refine Go_get (pc := 67) C 0 1 rfl rfl inX6 (by decide) mw_244 rfl dX6_loses_67 ?_
      obtain ⟨r6, hr6, hf⟩ := bnd hf
      refine Go_callV1 (pc := 70) (ws1 := (w6 K a ((r6.2.2.1, r6.2.2.2, r6.2.1, r5, s0.2.2.2.2)))) C 12 (12 :: 13 :: 1 :: 2 :: 3 :: 4 :: 5 :: 6 :: 7 :: 8 :: 9 :: 10 :: 11 :: []) (kX2_crush l K (pk a (12 :: 13 :: 1 :: 2 :: 3 :: 4 :: 5 :: 6 :: 7 :: 8 :: 9 :: 10 :: 11 :: [])) s0.2.2.1 ((s0.1.1, s0.1.2.1, s0.1.2.2.1, upd s0.1.2.2.2.1 p1.toNatClampNeg (0 : Int32), s0.1.2.2.2.2)) s0.2.1 r6 hr6) ycX2_crush mw_450 (Nat.le_of_ble_eq_true rfl) rfl rfl rfl rfl (Nat.le_of_ble_eq_true rfl) ⟨Nat.zero_le _, Nat.zero_le _⟩ dX6_loses_70 (ll_70 _ _ _) rfl rfl (ll_71 _ _ _ _ _ _) ?_
      refine Go_iadd (pc := 73) C dX6_loses_73 ?_
      obtain rfl := Option.some.inj hf
      exact Go_iret C hr rfl dX6_loses_74
def fX6_wave (s0 : S6) (p1 : Int32) (p2 : Int32) : Option (Int32 × S6) := (if p1 = (0 : Int32) then some (s0.2.2.1.2, s0) else (if p1 = (1 : Int32) then Option.bind (fX1_hasPillar s0.1 p2) (fun r1 => (if r1 = 0 then Option.bind (fX6_refuse s0 (-2 : Int32)) (fun r2 => some (r2.1, r2.2)) else (if 0 ≤ p2 ∧ p2.toNatClampNeg < 12 then some (s0.2.2.1.1 p2.toNatClampNeg, s0) else none))) else (if p1 = (2 : Int32) then (if p2 < (1 : Int32) then Option.bind (fX6_refuse s0 (-2 : Int32)) (fun r3 => some (r3.1, r3.2)) else Option.bind (fX2_countInWave s0.2.2.1 p2) (fun r4 => some (r4, s0))) else Option.bind (fX6_refuse s0 (-2 : Int32)) (fun r5 => some (r5.1, r5.2)))))
theorem ycX6_wave : CalV yX6_wave cX6_wave 3 ((some .int)) 2 := ⟨mw_467, mw_61, mw_465, mw_466, ⟨by decide, by decide, by decide +kernel⟩, by decide⟩
set_option maxHeartbeats 4000000 in
set_option maxRecDepth 100000 in
theorem kX6_wave (l : Launch) (K : KK) (a : Nat → Nat) (s0 : S6) (p1 : Int32) (p2 : Int32) (res : Int32 × S6) (hf : fX6_wave s0 p1 p2 = some res) : Ct l K yX6_wave cX6_wave 3 ((some .int)) 1 [.ref (a 0), .int p1, .int p2] (w6 K a s0) (some (.int res.1)) (w6 K a res.2) := by
  refine Ct_of2 (by decide) rfl (Nat.le_of_ble_eq_true rfl) ?_
  intro p e σ m args below meth c C hr
  unfold fX6_wave at hf
  refine Go_iload_n (pc := 0) C dX6_wave_0 rfl ?_
  by_cases hx0 : p1 = (0 : Int32)
  · replace hf := ift hx0 hf
    refine Go_tabIn (pc := 1) (tgt := 28) C dX6_wave_1 hx0 (by decide) (by decide) rfl (by decide) ?_
    refine Go_aload_n (pc := 28) C dX6_wave_28 rfl ?_
    refine Go_get (pc := 29) C 0 2 rfl rfl inX6 (by decide) mw_245 rfl dX6_wave_29 ?_
    refine Go_get (pc := 32) C 12 1 rfl rfl inX2 (by decide) mw_168 rfl dX6_wave_32 ?_
    obtain rfl := Option.some.inj hf
    exact Go_iret C hr rfl dX6_wave_35
  replace hf := iff' hx0 hf
  by_cases hx1 : p1 = (1 : Int32)
  · replace hf := ift hx1 hf
    refine Go_tabIn (pc := 1) (tgt := 36) C dX6_wave_1 hx1 (by decide) (by decide) rfl (by decide) ?_
    refine Go_aload_n (pc := 36) C dX6_wave_36 rfl ?_
    refine Go_get (pc := 37) C 0 0 rfl rfl inX6 (by decide) mw_243 rfl dX6_wave_37 ?_
    refine Go_iload_n (pc := 40) C dX6_wave_40 rfl ?_
    obtain ⟨r1, hr1, hf⟩ := bnd hf
    refine Go_callV1 (pc := 41) (ws1 := (w6 K a s0)) C 1 [1, 2, 3, 4, 5, 6] (kX1_hasPillar l K (pk a [1, 2, 3, 4, 5, 6]) s0.1 p2 r1 hr1) ycX1_hasPillar mw_324 (Nat.le_of_ble_eq_true rfl) rfl rfl rfl rfl (Nat.le_of_ble_eq_true rfl) ⟨Nat.zero_le _, Nat.zero_le _⟩ dX6_wave_41 (ll_30 _ _ _) rfl rfl (Wr_same (ll_30 _ _ _)) ?_
    refine Go_if_eq (pc := 44) (tgt := 59) C dX6_wave_44 (by decide) (fun hc => ?_) (fun hc => ?_)
    · replace hf := ift hc hf
      refine Go_aload_n (pc := 59) C dX6_wave_59 rfl ?_
      refine Go_bipush (pc := 60) (v := -2) C dX6_wave_60 cb_m2 ?_
      obtain ⟨r2, hr2, hf⟩ := bnd hf
      refine Go_callV1 (pc := 62) (ws1 := (w6 K a r2.2)) C 0 (0 :: 1 :: 2 :: 3 :: 4 :: 5 :: 6 :: 7 :: 8 :: 9 :: 10 :: 11 :: 12 :: 13 :: 14 :: 15 :: 16 :: 17 :: 18 :: 19 :: 20 :: 21 :: 22 :: 23 :: 24 :: 25 :: 26 :: 27 :: 28 :: 29 :: 30 :: 31 :: 32 :: 33 :: 34 :: 35 :: 36 :: 37 :: 38 :: 39 :: 40 :: 41 :: 42 :: 43 :: 44 :: 45 :: 46 :: 47 :: 48 :: 49 :: 50 :: 51 :: 52 :: 53 :: 54 :: 55 :: 56 :: 57 :: 58 :: 59 :: 60 :: 61 :: 62 :: 63 :: 64 :: 65 :: 66 :: 67 :: 68 :: []) (kX6_refuse l K (pk a (0 :: 1 :: 2 :: 3 :: 4 :: 5 :: 6 :: 7 :: 8 :: 9 :: 10 :: 11 :: 12 :: 13 :: 14 :: 15 :: 16 :: 17 :: 18 :: 19 :: 20 :: 21 :: 22 :: 23 :: 24 :: 25 :: 26 :: 27 :: 28 :: 29 :: 30 :: 31 :: 32 :: 33 :: 34 :: 35 :: 36 :: 37 :: 38 :: 39 :: 40 :: 41 :: 42 :: 43 :: 44 :: 45 :: 46 :: 47 :: 48 :: 49 :: 50 :: 51 :: 52 :: 53 :: 54 :: 55 :: 56 :: 57 :: 58 :: 59 :: 60 :: 61 :: 62 :: 63 :: 64 :: 65 :: 66 :: 67 :: 68 :: [])) s0 (-2 : Int32) r2 hr2) ycX6_refuse mw_278 (Nat.le_of_ble_eq_true rfl) rfl rfl rfl rfl (Nat.le_of_ble_eq_true rfl) ⟨Nat.zero_le _, Nat.zero_le _⟩ dX6_wave_62 (ll_28 _ _ _) rfl rfl (ll_29 _ _ _ _) ?_
      obtain rfl := Option.some.inj hf
      exact Go_iret C hr rfl dX6_wave_65
    · replace hf := iff' hc hf
      refine Go_aload_n (pc := 47) C dX6_wave_47 rfl ?_
      refine Go_get (pc := 48) C 0 2 rfl rfl inX6 (by decide) mw_245 rfl dX6_wave_48 ?_
      refine Go_get (pc := 51) C 12 0 rfl rfl inX2 (by decide) mw_166 rfl dX6_wave_51 ?_
      refine Go_iload_n (pc := 54) C dX6_wave_54 rfl ?_
      obtain ⟨hb, hf⟩ := ifs hf
      refine Go_iald (pc := 55) C 13 rfl (inb_in hb) dX6_wave_55 ?_
      refine Go_goto (pc := 56) (tgt := 65) C dX6_wave_56 (by decide) ?_
      obtain rfl := Option.some.inj hf
      exact Go_iret C hr rfl dX6_wave_65
  replace hf := iff' hx1 hf
  by_cases hx2 : p1 = (2 : Int32)
  · replace hf := ift hx2 hf
    refine Go_tabIn (pc := 1) (tgt := 66) C dX6_wave_1 hx2 (by decide) (by decide) rfl (by decide) ?_
    refine Go_iload_n (pc := 66) C dX6_wave_66 rfl ?_
    refine Go_iconst (pc := 67) (v := 1) C dX6_wave_67 ci_1 ?_
    refine Go_icmp_lt (pc := 68) (tgt := 82) C dX6_wave_68 (by decide) (fun hc => ?_) (fun hc => ?_)
    · replace hf := ift hc hf
      refine Go_aload_n (pc := 82) C dX6_wave_82 rfl ?_
      refine Go_bipush (pc := 83) (v := -2) C dX6_wave_83 cb_m2 ?_
      obtain ⟨r3, hr3, hf⟩ := bnd hf
      refine Go_callV1 (pc := 85) (ws1 := (w6 K a r3.2)) C 0 (0 :: 1 :: 2 :: 3 :: 4 :: 5 :: 6 :: 7 :: 8 :: 9 :: 10 :: 11 :: 12 :: 13 :: 14 :: 15 :: 16 :: 17 :: 18 :: 19 :: 20 :: 21 :: 22 :: 23 :: 24 :: 25 :: 26 :: 27 :: 28 :: 29 :: 30 :: 31 :: 32 :: 33 :: 34 :: 35 :: 36 :: 37 :: 38 :: 39 :: 40 :: 41 :: 42 :: 43 :: 44 :: 45 :: 46 :: 47 :: 48 :: 49 :: 50 :: 51 :: 52 :: 53 :: 54 :: 55 :: 56 :: 57 :: 58 :: 59 :: 60 :: 61 :: 62 :: 63 :: 64 :: 65 :: 66 :: 67 :: 68 :: []) (kX6_refuse l K (pk a (0 :: 1 :: 2 :: 3 :: 4 :: 5 :: 6 :: 7 :: 8 :: 9 :: 10 :: 11 :: 12 :: 13 :: 14 :: 15 :: 16 :: 17 :: 18 :: 19 :: 20 :: 21 :: 22 :: 23 :: 24 :: 25 :: 26 :: 27 :: 28 :: 29 :: 30 :: 31 :: 32 :: 33 :: 34 :: 35 :: 36 :: 37 :: 38 :: 39 :: 40 :: 41 :: 42 :: 43 :: 44 :: 45 :: 46 :: 47 :: 48 :: 49 :: 50 :: 51 :: 52 :: 53 :: 54 :: 55 :: 56 :: 57 :: 58 :: 59 :: 60 :: 61 :: 62 :: 63 :: 64 :: 65 :: 66 :: 67 :: 68 :: [])) s0 (-2 : Int32) r3 hr3) ycX6_refuse mw_278 (Nat.le_of_ble_eq_true rfl) rfl rfl rfl rfl (Nat.le_of_ble_eq_true rfl) ⟨Nat.zero_le _, Nat.zero_le _⟩ dX6_wave_85 (ll_28 _ _ _) rfl rfl (ll_29 _ _ _ _) ?_
      obtain rfl := Option.some.inj hf
      exact Go_iret C hr rfl dX6_wave_88
    · replace hf := iff' hc hf
      refine Go_aload_n (pc := 71) C dX6_wave_71 rfl ?_
      refine Go_get (pc := 72) C 0 2 rfl rfl inX6 (by decide) mw_245 rfl dX6_wave_72 ?_
      refine Go_iload_n (pc := 75) C dX6_wave_75 rfl ?_
      obtain ⟨r4, hr4, hf⟩ := bnd hf
      refine Go_callV1 (pc := 76) (ws1 := (w6 K a s0)) C 12 [12, 13] (kX2_countInWave l K (pk a [12, 13]) s0.2.2.1 p2 r4 hr4) ycX2_countInWave mw_468 (Nat.le_of_ble_eq_true rfl) rfl rfl rfl rfl (Nat.le_of_ble_eq_true rfl) ⟨Nat.zero_le _, Nat.zero_le _⟩ dX6_wave_76 (ll_38 _ _ _) rfl rfl (Wr_same (ll_38 _ _ _)) ?_
      refine Go_goto (pc := 79) (tgt := 88) C dX6_wave_79 (by decide) ?_
      obtain rfl := Option.some.inj hf
      exact Go_iret C hr rfl dX6_wave_88
  replace hf := iff' hx2 hf
  refine Go_tabOut (pc := 1) (tgt := 89) C dX6_wave_1 (by have g0 := lv_neT hx0 (show ((0 : Int32)).toInt = 0 by decide); have g1 := lv_neT hx1 (show ((1 : Int32)).toInt = 1 by decide); have g2 := lv_neT hx2 (show ((2 : Int32)).toInt = 2 by decide); omega) (by decide) ?_
  refine Go_aload_n (pc := 89) C dX6_wave_89 rfl ?_
  refine Go_bipush (pc := 90) (v := -2) C dX6_wave_90 cb_m2 ?_
  obtain ⟨r5, hr5, hf⟩ := bnd hf
  refine Go_callV1 (pc := 92) (ws1 := (w6 K a r5.2)) C 0 (0 :: 1 :: 2 :: 3 :: 4 :: 5 :: 6 :: 7 :: 8 :: 9 :: 10 :: 11 :: 12 :: 13 :: 14 :: 15 :: 16 :: 17 :: 18 :: 19 :: 20 :: 21 :: 22 :: 23 :: 24 :: 25 :: 26 :: 27 :: 28 :: 29 :: 30 :: 31 :: 32 :: 33 :: 34 :: 35 :: 36 :: 37 :: 38 :: 39 :: 40 :: 41 :: 42 :: 43 :: 44 :: 45 :: 46 :: 47 :: 48 :: 49 :: 50 :: 51 :: 52 :: 53 :: 54 :: 55 :: 56 :: 57 :: 58 :: 59 :: 60 :: 61 :: 62 :: 63 :: 64 :: 65 :: 66 :: 67 :: 68 :: []) (kX6_refuse l K (pk a (0 :: 1 :: 2 :: 3 :: 4 :: 5 :: 6 :: 7 :: 8 :: 9 :: 10 :: 11 :: 12 :: 13 :: 14 :: 15 :: 16 :: 17 :: 18 :: 19 :: 20 :: 21 :: 22 :: 23 :: 24 :: 25 :: 26 :: 27 :: 28 :: 29 :: 30 :: 31 :: 32 :: 33 :: 34 :: 35 :: 36 :: 37 :: 38 :: 39 :: 40 :: 41 :: 42 :: 43 :: 44 :: 45 :: 46 :: 47 :: 48 :: 49 :: 50 :: 51 :: 52 :: 53 :: 54 :: 55 :: 56 :: 57 :: 58 :: 59 :: 60 :: 61 :: 62 :: 63 :: 64 :: 65 :: 66 :: 67 :: 68 :: [])) s0 (-2 : Int32) r5 hr5) ycX6_refuse mw_278 (Nat.le_of_ble_eq_true rfl) rfl rfl rfl rfl (Nat.le_of_ble_eq_true rfl) ⟨Nat.zero_le _, Nat.zero_le _⟩ dX6_wave_92 (ll_28 _ _ _) rfl rfl (ll_29 _ _ _ _) ?_
  obtain rfl := Option.some.inj hf
  exact Go_iret C hr rfl dX6_wave_95
theorem ll_81 (K : KK) (a : Nat → Nat) (t0 : S6) : ((52 :: 53 :: 54 :: 55 :: 56 :: 57 :: 58 :: 59 :: 60 :: 61 :: 62 :: 63 :: 64 :: 65 :: 1 :: 2 :: 3 :: 4 :: 5 :: 6 :: []) : List Nat).map (fun i => (w6 K a t0)[i]?) = List.map some (w5 K (pk a (52 :: 53 :: 54 :: 55 :: 56 :: 57 :: 58 :: 59 :: 60 :: 61 :: 62 :: 63 :: 64 :: 65 :: 1 :: 2 :: 3 :: 4 :: 5 :: 6 :: [])) t0.2.2.2.2.1 ++ w1 K (sh (pk a (52 :: 53 :: 54 :: 55 :: 56 :: 57 :: 58 :: 59 :: 60 :: 61 :: 62 :: 63 :: 64 :: 65 :: 1 :: 2 :: 3 :: 4 :: 5 :: 6 :: [])) 14) t0.1) := rfl
theorem ll_82 (K : KK) (a : Nat → Nat) (t0 : S6) (y0 : S5) : Wr (w6 K a t0) (52 :: 53 :: 54 :: 55 :: 56 :: 57 :: 58 :: 59 :: 60 :: 61 :: 62 :: 63 :: 64 :: 65 :: 1 :: 2 :: 3 :: 4 :: 5 :: 6 :: []) (w5 K (pk a (52 :: 53 :: 54 :: 55 :: 56 :: 57 :: 58 :: 59 :: 60 :: 61 :: 62 :: 63 :: 64 :: 65 :: 1 :: 2 :: 3 :: 4 :: 5 :: 6 :: [])) y0 ++ w1 K (sh (pk a (52 :: 53 :: 54 :: 55 :: 56 :: 57 :: 58 :: 59 :: 60 :: 61 :: 62 :: 63 :: 64 :: 65 :: 1 :: 2 :: 3 :: 4 :: 5 :: 6 :: [])) 14) t0.1) (w6 K a ((t0.1, t0.2.1, t0.2.2.1, t0.2.2.2.1, y0, t0.2.2.2.2.2))) := ⟨(0 :: 7 :: 8 :: 9 :: 10 :: 11 :: 12 :: 13 :: 14 :: 15 :: 16 :: 17 :: 18 :: 19 :: 20 :: 21 :: 22 :: 23 :: 24 :: 25 :: 26 :: 27 :: 28 :: 29 :: 30 :: 31 :: 32 :: 33 :: 34 :: 35 :: 36 :: 37 :: 38 :: 39 :: 40 :: 41 :: 42 :: 43 :: 44 :: 45 :: 46 :: 47 :: 48 :: 49 :: 50 :: 51 :: 66 :: 67 :: 68 :: []), 69, rfl, (show List.map (fun i => (w6 K a ((t0.1, t0.2.1, t0.2.2.1, t0.2.2.2.1, y0, t0.2.2.2.2.2)))[i]?) _ = ((some (a 0, .inr (6, [.ref (a 1), .ref (a 7), .ref (a 12), .ref (a 14), .ref (a 52), .ref (a 66), .ref (a 68)])) :: some (a 7, .inr (0, [.ref (a 8), .ref (a 9), .ref (a 10), .ref (a 11)])) :: some (a 8, .inl (K.2.1, 96, .inl (t0.2.1.1))) :: some (a 9, .inl (K.2.1, 96, .inl (t0.2.1.2.1))) :: some (a 10, .inl (K.2.1, 12, .inl (t0.2.1.2.2.1))) :: some (a 11, .inl (K.2.1, 12, .inl (t0.2.1.2.2.2))) :: some (a 12, .inr (2, [.ref (a 13), .int (t0.2.2.1.2)])) :: some (a 13, .inl (K.2.1, 12, .inl (t0.2.2.1.1))) :: some (a 14, .inr (3, [.ref (a 15), .int (t0.2.2.2.1.2.1), .int (t0.2.2.2.1.2.2)])) :: some (a 15, .inl (K.2.2, 6, .inr (.inr (.inr (.inr (rgf [a 16, a 22, a 28, a 34, a 40, a 46])))))) :: some (a 16, .inr (1, [.ref (a 17), .ref (a 18), .ref (a 19), .ref (a 20), .ref (a 21), .int (t0.2.2.2.1.1.1.2.2.2.2.2)])) :: some (a 17, .inl (K.2.1, 96, .inl (t0.2.2.2.1.1.1.1))) :: some (a 18, .inl (K.2.1, 12, .inl (t0.2.2.2.1.1.1.2.1))) :: some (a 19, .inl (K.2.1, 12, .inl (t0.2.2.2.1.1.1.2.2.1))) :: some (a 20, .inl (K.2.1, 12, .inl (t0.2.2.2.1.1.1.2.2.2.1))) :: some (a 21, .inl (K.2.1, 21, .inl (t0.2.2.2.1.1.1.2.2.2.2.1))) :: some (a 22, .inr (1, [.ref (a 23), .ref (a 24), .ref (a 25), .ref (a 26), .ref (a 27), .int (t0.2.2.2.1.1.2.1.2.2.2.2.2)])) :: some (a 23, .inl (K.2.1, 96, .inl (t0.2.2.2.1.1.2.1.1))) :: some (a 24, .inl (K.2.1, 12, .inl (t0.2.2.2.1.1.2.1.2.1))) :: some (a 25, .inl (K.2.1, 12, .inl (t0.2.2.2.1.1.2.1.2.2.1))) :: some (a 26, .inl (K.2.1, 12, .inl (t0.2.2.2.1.1.2.1.2.2.2.1))) :: some (a 27, .inl (K.2.1, 21, .inl (t0.2.2.2.1.1.2.1.2.2.2.2.1))) :: some (a 28, .inr (1, [.ref (a 29), .ref (a 30), .ref (a 31), .ref (a 32), .ref (a 33), .int (t0.2.2.2.1.1.2.2.1.2.2.2.2.2)])) :: some (a 29, .inl (K.2.1, 96, .inl (t0.2.2.2.1.1.2.2.1.1))) :: some (a 30, .inl (K.2.1, 12, .inl (t0.2.2.2.1.1.2.2.1.2.1))) :: some (a 31, .inl (K.2.1, 12, .inl (t0.2.2.2.1.1.2.2.1.2.2.1))) :: some (a 32, .inl (K.2.1, 12, .inl (t0.2.2.2.1.1.2.2.1.2.2.2.1))) :: some (a 33, .inl (K.2.1, 21, .inl (t0.2.2.2.1.1.2.2.1.2.2.2.2.1))) :: some (a 34, .inr (1, [.ref (a 35), .ref (a 36), .ref (a 37), .ref (a 38), .ref (a 39), .int (t0.2.2.2.1.1.2.2.2.1.2.2.2.2.2)])) :: some (a 35, .inl (K.2.1, 96, .inl (t0.2.2.2.1.1.2.2.2.1.1))) :: some (a 36, .inl (K.2.1, 12, .inl (t0.2.2.2.1.1.2.2.2.1.2.1))) :: some (a 37, .inl (K.2.1, 12, .inl (t0.2.2.2.1.1.2.2.2.1.2.2.1))) :: some (a 38, .inl (K.2.1, 12, .inl (t0.2.2.2.1.1.2.2.2.1.2.2.2.1))) :: some (a 39, .inl (K.2.1, 21, .inl (t0.2.2.2.1.1.2.2.2.1.2.2.2.2.1))) :: some (a 40, .inr (1, [.ref (a 41), .ref (a 42), .ref (a 43), .ref (a 44), .ref (a 45), .int (t0.2.2.2.1.1.2.2.2.2.1.2.2.2.2.2)])) :: some (a 41, .inl (K.2.1, 96, .inl (t0.2.2.2.1.1.2.2.2.2.1.1))) :: some (a 42, .inl (K.2.1, 12, .inl (t0.2.2.2.1.1.2.2.2.2.1.2.1))) :: some (a 43, .inl (K.2.1, 12, .inl (t0.2.2.2.1.1.2.2.2.2.1.2.2.1))) :: some (a 44, .inl (K.2.1, 12, .inl (t0.2.2.2.1.1.2.2.2.2.1.2.2.2.1))) :: some (a 45, .inl (K.2.1, 21, .inl (t0.2.2.2.1.1.2.2.2.2.1.2.2.2.2.1))) :: some (a 46, .inr (1, [.ref (a 47), .ref (a 48), .ref (a 49), .ref (a 50), .ref (a 51), .int (t0.2.2.2.1.1.2.2.2.2.2.2.2.2.2.2)])) :: some (a 47, .inl (K.2.1, 96, .inl (t0.2.2.2.1.1.2.2.2.2.2.1))) :: some (a 48, .inl (K.2.1, 12, .inl (t0.2.2.2.1.1.2.2.2.2.2.2.1))) :: some (a 49, .inl (K.2.1, 12, .inl (t0.2.2.2.1.1.2.2.2.2.2.2.2.1))) :: some (a 50, .inl (K.2.1, 12, .inl (t0.2.2.2.1.1.2.2.2.2.2.2.2.2.1))) :: some (a 51, .inl (K.2.1, 21, .inl (t0.2.2.2.1.1.2.2.2.2.2.2.2.2.2.1))) :: some (a 66, .inr (4, [.ref (a 67), .int (t0.2.2.2.2.2.1.2.1), .int (t0.2.2.2.2.2.1.2.2.1), .int (t0.2.2.2.2.2.1.2.2.2.1), .int (t0.2.2.2.2.2.1.2.2.2.2)])) :: some (a 67, .inl (K.2.1, 120, .inl (t0.2.2.2.2.2.1.1))) :: some (a 68, .inl (K.2.1, 3, .inl (t0.2.2.2.2.2.2))) :: []) : List (Option (Nat × va_E))) from rfl).trans (show List.map (fun i => (w6 K a t0)[i]?) _ = ((some (a 0, .inr (6, [.ref (a 1), .ref (a 7), .ref (a 12), .ref (a 14), .ref (a 52), .ref (a 66), .ref (a 68)])) :: some (a 7, .inr (0, [.ref (a 8), .ref (a 9), .ref (a 10), .ref (a 11)])) :: some (a 8, .inl (K.2.1, 96, .inl (t0.2.1.1))) :: some (a 9, .inl (K.2.1, 96, .inl (t0.2.1.2.1))) :: some (a 10, .inl (K.2.1, 12, .inl (t0.2.1.2.2.1))) :: some (a 11, .inl (K.2.1, 12, .inl (t0.2.1.2.2.2))) :: some (a 12, .inr (2, [.ref (a 13), .int (t0.2.2.1.2)])) :: some (a 13, .inl (K.2.1, 12, .inl (t0.2.2.1.1))) :: some (a 14, .inr (3, [.ref (a 15), .int (t0.2.2.2.1.2.1), .int (t0.2.2.2.1.2.2)])) :: some (a 15, .inl (K.2.2, 6, .inr (.inr (.inr (.inr (rgf [a 16, a 22, a 28, a 34, a 40, a 46])))))) :: some (a 16, .inr (1, [.ref (a 17), .ref (a 18), .ref (a 19), .ref (a 20), .ref (a 21), .int (t0.2.2.2.1.1.1.2.2.2.2.2)])) :: some (a 17, .inl (K.2.1, 96, .inl (t0.2.2.2.1.1.1.1))) :: some (a 18, .inl (K.2.1, 12, .inl (t0.2.2.2.1.1.1.2.1))) :: some (a 19, .inl (K.2.1, 12, .inl (t0.2.2.2.1.1.1.2.2.1))) :: some (a 20, .inl (K.2.1, 12, .inl (t0.2.2.2.1.1.1.2.2.2.1))) :: some (a 21, .inl (K.2.1, 21, .inl (t0.2.2.2.1.1.1.2.2.2.2.1))) :: some (a 22, .inr (1, [.ref (a 23), .ref (a 24), .ref (a 25), .ref (a 26), .ref (a 27), .int (t0.2.2.2.1.1.2.1.2.2.2.2.2)])) :: some (a 23, .inl (K.2.1, 96, .inl (t0.2.2.2.1.1.2.1.1))) :: some (a 24, .inl (K.2.1, 12, .inl (t0.2.2.2.1.1.2.1.2.1))) :: some (a 25, .inl (K.2.1, 12, .inl (t0.2.2.2.1.1.2.1.2.2.1))) :: some (a 26, .inl (K.2.1, 12, .inl (t0.2.2.2.1.1.2.1.2.2.2.1))) :: some (a 27, .inl (K.2.1, 21, .inl (t0.2.2.2.1.1.2.1.2.2.2.2.1))) :: some (a 28, .inr (1, [.ref (a 29), .ref (a 30), .ref (a 31), .ref (a 32), .ref (a 33), .int (t0.2.2.2.1.1.2.2.1.2.2.2.2.2)])) :: some (a 29, .inl (K.2.1, 96, .inl (t0.2.2.2.1.1.2.2.1.1))) :: some (a 30, .inl (K.2.1, 12, .inl (t0.2.2.2.1.1.2.2.1.2.1))) :: some (a 31, .inl (K.2.1, 12, .inl (t0.2.2.2.1.1.2.2.1.2.2.1))) :: some (a 32, .inl (K.2.1, 12, .inl (t0.2.2.2.1.1.2.2.1.2.2.2.1))) :: some (a 33, .inl (K.2.1, 21, .inl (t0.2.2.2.1.1.2.2.1.2.2.2.2.1))) :: some (a 34, .inr (1, [.ref (a 35), .ref (a 36), .ref (a 37), .ref (a 38), .ref (a 39), .int (t0.2.2.2.1.1.2.2.2.1.2.2.2.2.2)])) :: some (a 35, .inl (K.2.1, 96, .inl (t0.2.2.2.1.1.2.2.2.1.1))) :: some (a 36, .inl (K.2.1, 12, .inl (t0.2.2.2.1.1.2.2.2.1.2.1))) :: some (a 37, .inl (K.2.1, 12, .inl (t0.2.2.2.1.1.2.2.2.1.2.2.1))) :: some (a 38, .inl (K.2.1, 12, .inl (t0.2.2.2.1.1.2.2.2.1.2.2.2.1))) :: some (a 39, .inl (K.2.1, 21, .inl (t0.2.2.2.1.1.2.2.2.1.2.2.2.2.1))) :: some (a 40, .inr (1, [.ref (a 41), .ref (a 42), .ref (a 43), .ref (a 44), .ref (a 45), .int (t0.2.2.2.1.1.2.2.2.2.1.2.2.2.2.2)])) :: some (a 41, .inl (K.2.1, 96, .inl (t0.2.2.2.1.1.2.2.2.2.1.1))) :: some (a 42, .inl (K.2.1, 12, .inl (t0.2.2.2.1.1.2.2.2.2.1.2.1))) :: some (a 43, .inl (K.2.1, 12, .inl (t0.2.2.2.1.1.2.2.2.2.1.2.2.1))) :: some (a 44, .inl (K.2.1, 12, .inl (t0.2.2.2.1.1.2.2.2.2.1.2.2.2.1))) :: some (a 45, .inl (K.2.1, 21, .inl (t0.2.2.2.1.1.2.2.2.2.1.2.2.2.2.1))) :: some (a 46, .inr (1, [.ref (a 47), .ref (a 48), .ref (a 49), .ref (a 50), .ref (a 51), .int (t0.2.2.2.1.1.2.2.2.2.2.2.2.2.2.2)])) :: some (a 47, .inl (K.2.1, 96, .inl (t0.2.2.2.1.1.2.2.2.2.2.1))) :: some (a 48, .inl (K.2.1, 12, .inl (t0.2.2.2.1.1.2.2.2.2.2.2.1))) :: some (a 49, .inl (K.2.1, 12, .inl (t0.2.2.2.1.1.2.2.2.2.2.2.2.1))) :: some (a 50, .inl (K.2.1, 12, .inl (t0.2.2.2.1.1.2.2.2.2.2.2.2.2.1))) :: some (a 51, .inl (K.2.1, 21, .inl (t0.2.2.2.1.1.2.2.2.2.2.2.2.2.2.1))) :: some (a 66, .inr (4, [.ref (a 67), .int (t0.2.2.2.2.2.1.2.1), .int (t0.2.2.2.2.2.1.2.2.1), .int (t0.2.2.2.2.2.1.2.2.2.1), .int (t0.2.2.2.2.2.1.2.2.2.2)])) :: some (a 67, .inl (K.2.1, 120, .inl (t0.2.2.2.2.2.1.1))) :: some (a 68, .inl (K.2.1, 3, .inl (t0.2.2.2.2.2.2))) :: []) : List (Option (Nat × va_E))) from rfl).symm, rfl, by decide⟩
theorem ll_83 (K : KK) (a : Nat → Nat) (t0 : S6) : ([59, 60, 61, 62, 63] : List Nat).map (fun i => (w6 K a t0)[i]?) = List.map some (w0 K (pk a [59, 60, 61, 62, 63]) t0.2.2.2.2.1.2.1) := rfl
def fX6_would (s0 : S6) (p1 : Int32) (p2 : Int32) : Option (Int32 × S6) := Option.bind (fX1_hasPillar s0.1 p1) (fun r1 => (if r1 = 0 then Option.bind (fX6_refuse s0 (-2 : Int32)) (fun r2 => some (r2.1, r2.2)) else Option.bind (fX6_isWithin p2 (1 : Int32)) (fun r3 => (if r3 = 0 then Option.bind (fX6_refuse s0 (-2 : Int32)) (fun r4 => some (r4.1, r4.2)) else Option.bind (fX1_isStanding s0.1 p1) (fun r5 => (if r5 = 0 then Option.bind (fX6_refuse s0 (-3 : Int32)) (fun r6 => some (r6.1, r6.2)) else Option.bind (fX5_lose s0.2.2.2.2.1 s0.1 p1) (fun r7 => (if p2 = 0 then some (r7.1, (s0.1, s0.2.1, s0.2.2.1, s0.2.2.2.1, r7.2, s0.2.2.2.2.2)) else Option.bind (fX0_countFallen r7.2.2.1) (fun r8 => some (r8, (s0.1, s0.2.1, s0.2.2.1, s0.2.2.2.1, r7.2, s0.2.2.2.2.2)))))))))))
theorem ycX6_would : CalV yX6_would cX6_would 4 ((some .int)) 2 := ⟨mw_475, mw_61, mw_473, mw_474, ⟨by decide, by decide, by decide +kernel⟩, by decide⟩
set_option maxHeartbeats 4000000 in
set_option maxRecDepth 100000 in
theorem kX6_would (l : Launch) (K : KK) (a : Nat → Nat) (s0 : S6) (p1 : Int32) (p2 : Int32) (res : Int32 × S6) (hf : fX6_would s0 p1 p2 = some res) : Ct l K yX6_would cX6_would 4 ((some .int)) 6 [.ref (a 0), .int p1, .int p2] (w6 K a s0) (some (.int res.1)) (w6 K a res.2) := by
  refine Ct_of2 (by decide) rfl (Nat.le_of_ble_eq_true rfl) ?_
  intro p e σ m args below meth c C hr
  unfold fX6_would at hf
  refine Go_aload_n (pc := 0) C dX6_would_0 rfl ?_
  refine Go_get (pc := 1) C 0 0 rfl rfl inX6 (by decide) mw_243 rfl dX6_would_1 ?_
  refine Go_iload_n (pc := 4) C dX6_would_4 rfl ?_
  obtain ⟨r1, hr1, hf⟩ := bnd hf
  refine Go_callV1 (pc := 5) (ws1 := (w6 K a s0)) C 1 [1, 2, 3, 4, 5, 6] (kX1_hasPillar l K (pk a [1, 2, 3, 4, 5, 6]) s0.1 p1 r1 hr1) ycX1_hasPillar mw_324 (Nat.le_of_ble_eq_true rfl) rfl rfl rfl rfl (Nat.le_of_ble_eq_true rfl) ⟨Nat.zero_le _, Nat.zero_le _⟩ dX6_would_5 (ll_30 _ _ _) rfl rfl (Wr_same (ll_30 _ _ _)) ?_
  refine Go_if_eq (pc := 8) (tgt := 19) C dX6_would_8 (by decide) (fun hc => ?_) (fun hc => ?_)
  · replace hf := ift hc hf
    refine Go_aload_n (pc := 19) C dX6_would_19 rfl ?_
    refine Go_bipush (pc := 20) (v := -2) C dX6_would_20 cb_m2 ?_
    obtain ⟨r2, hr2, hf⟩ := bnd hf
    refine Go_callV1 (pc := 22) (ws1 := (w6 K a r2.2)) C 0 (0 :: 1 :: 2 :: 3 :: 4 :: 5 :: 6 :: 7 :: 8 :: 9 :: 10 :: 11 :: 12 :: 13 :: 14 :: 15 :: 16 :: 17 :: 18 :: 19 :: 20 :: 21 :: 22 :: 23 :: 24 :: 25 :: 26 :: 27 :: 28 :: 29 :: 30 :: 31 :: 32 :: 33 :: 34 :: 35 :: 36 :: 37 :: 38 :: 39 :: 40 :: 41 :: 42 :: 43 :: 44 :: 45 :: 46 :: 47 :: 48 :: 49 :: 50 :: 51 :: 52 :: 53 :: 54 :: 55 :: 56 :: 57 :: 58 :: 59 :: 60 :: 61 :: 62 :: 63 :: 64 :: 65 :: 66 :: 67 :: 68 :: []) (kX6_refuse l K (pk a (0 :: 1 :: 2 :: 3 :: 4 :: 5 :: 6 :: 7 :: 8 :: 9 :: 10 :: 11 :: 12 :: 13 :: 14 :: 15 :: 16 :: 17 :: 18 :: 19 :: 20 :: 21 :: 22 :: 23 :: 24 :: 25 :: 26 :: 27 :: 28 :: 29 :: 30 :: 31 :: 32 :: 33 :: 34 :: 35 :: 36 :: 37 :: 38 :: 39 :: 40 :: 41 :: 42 :: 43 :: 44 :: 45 :: 46 :: 47 :: 48 :: 49 :: 50 :: 51 :: 52 :: 53 :: 54 :: 55 :: 56 :: 57 :: 58 :: 59 :: 60 :: 61 :: 62 :: 63 :: 64 :: 65 :: 66 :: 67 :: 68 :: [])) s0 (-2 : Int32) r2 hr2) ycX6_refuse mw_278 (Nat.le_of_ble_eq_true rfl) rfl rfl rfl rfl (Nat.le_of_ble_eq_true rfl) ⟨Nat.zero_le _, Nat.zero_le _⟩ dX6_would_22 (ll_28 _ _ _) rfl rfl (ll_29 _ _ _ _) ?_
    obtain rfl := Option.some.inj hf
    exact Go_iret C hr rfl dX6_would_25
  · replace hf := iff' hc hf
    refine Go_iload_n (pc := 11) C dX6_would_11 rfl ?_
    refine Go_iconst (pc := 12) (v := 1) C dX6_would_12 ci_1 ?_
    obtain ⟨r3, hr3, hf⟩ := bnd hf
    refine Go_callS1 (pc := 13) (ws1 := (w6 K a s0)) C [] (kX6_isWithin l K p2 (1 : Int32) r3 hr3) ycX6_isWithin mw_272 (Nat.le_of_ble_eq_true rfl) rfl rfl (Nat.le_of_ble_eq_true rfl) ⟨Nat.zero_le _, Nat.zero_le _⟩ dX6_would_13 rfl rfl rfl (Wr_same rfl) ?_
    refine Go_if_ne (pc := 16) (tgt := 26) C dX6_would_16 (by decide) (fun hc => ?_) (fun hc => ?_)
    · replace hf := ift hc hf
      refine Go_aload_n (pc := 19) C dX6_would_19 rfl ?_
      refine Go_bipush (pc := 20) (v := -2) C dX6_would_20 cb_m2 ?_
      obtain ⟨r4, hr4, hf⟩ := bnd hf
      refine Go_callV1 (pc := 22) (ws1 := (w6 K a r4.2)) C 0 (0 :: 1 :: 2 :: 3 :: 4 :: 5 :: 6 :: 7 :: 8 :: 9 :: 10 :: 11 :: 12 :: 13 :: 14 :: 15 :: 16 :: 17 :: 18 :: 19 :: 20 :: 21 :: 22 :: 23 :: 24 :: 25 :: 26 :: 27 :: 28 :: 29 :: 30 :: 31 :: 32 :: 33 :: 34 :: 35 :: 36 :: 37 :: 38 :: 39 :: 40 :: 41 :: 42 :: 43 :: 44 :: 45 :: 46 :: 47 :: 48 :: 49 :: 50 :: 51 :: 52 :: 53 :: 54 :: 55 :: 56 :: 57 :: 58 :: 59 :: 60 :: 61 :: 62 :: 63 :: 64 :: 65 :: 66 :: 67 :: 68 :: []) (kX6_refuse l K (pk a (0 :: 1 :: 2 :: 3 :: 4 :: 5 :: 6 :: 7 :: 8 :: 9 :: 10 :: 11 :: 12 :: 13 :: 14 :: 15 :: 16 :: 17 :: 18 :: 19 :: 20 :: 21 :: 22 :: 23 :: 24 :: 25 :: 26 :: 27 :: 28 :: 29 :: 30 :: 31 :: 32 :: 33 :: 34 :: 35 :: 36 :: 37 :: 38 :: 39 :: 40 :: 41 :: 42 :: 43 :: 44 :: 45 :: 46 :: 47 :: 48 :: 49 :: 50 :: 51 :: 52 :: 53 :: 54 :: 55 :: 56 :: 57 :: 58 :: 59 :: 60 :: 61 :: 62 :: 63 :: 64 :: 65 :: 66 :: 67 :: 68 :: [])) s0 (-2 : Int32) r4 hr4) ycX6_refuse mw_278 (Nat.le_of_ble_eq_true rfl) rfl rfl rfl rfl (Nat.le_of_ble_eq_true rfl) ⟨Nat.zero_le _, Nat.zero_le _⟩ dX6_would_22 (ll_28 _ _ _) rfl rfl (ll_29 _ _ _ _) ?_
      obtain rfl := Option.some.inj hf
      exact Go_iret C hr rfl dX6_would_25
    · replace hf := iff' hc hf
      refine Go_aload_n (pc := 26) C dX6_would_26 rfl ?_
      refine Go_get (pc := 27) C 0 0 rfl rfl inX6 (by decide) mw_243 rfl dX6_would_27 ?_
      refine Go_iload_n (pc := 30) C dX6_would_30 rfl ?_
      obtain ⟨r5, hr5, hf⟩ := bnd hf
      refine Go_callV1 (pc := 31) (ws1 := (w6 K a s0)) C 1 [1, 2, 3, 4, 5, 6] (kX1_isStanding l K (pk a [1, 2, 3, 4, 5, 6]) s0.1 p1 r5 hr5) ycX1_isStanding mw_378 (Nat.le_of_ble_eq_true rfl) rfl rfl rfl rfl (Nat.le_of_ble_eq_true rfl) ⟨Nat.zero_le _, Nat.zero_le _⟩ dX6_would_31 (ll_30 _ _ _) rfl rfl (Wr_same (ll_30 _ _ _)) ?_
      refine Go_if_ne (pc := 34) (tgt := 44) C dX6_would_34 (by decide) (fun hc => ?_) (fun hc => ?_)
      · replace hf := ift hc hf
        refine Go_aload_n (pc := 37) C dX6_would_37 rfl ?_
        refine Go_bipush (pc := 38) (v := -3) C dX6_would_38 cb_m3 ?_
        obtain ⟨r6, hr6, hf⟩ := bnd hf
        refine Go_callV1 (pc := 40) (ws1 := (w6 K a r6.2)) C 0 (0 :: 1 :: 2 :: 3 :: 4 :: 5 :: 6 :: 7 :: 8 :: 9 :: 10 :: 11 :: 12 :: 13 :: 14 :: 15 :: 16 :: 17 :: 18 :: 19 :: 20 :: 21 :: 22 :: 23 :: 24 :: 25 :: 26 :: 27 :: 28 :: 29 :: 30 :: 31 :: 32 :: 33 :: 34 :: 35 :: 36 :: 37 :: 38 :: 39 :: 40 :: 41 :: 42 :: 43 :: 44 :: 45 :: 46 :: 47 :: 48 :: 49 :: 50 :: 51 :: 52 :: 53 :: 54 :: 55 :: 56 :: 57 :: 58 :: 59 :: 60 :: 61 :: 62 :: 63 :: 64 :: 65 :: 66 :: 67 :: 68 :: []) (kX6_refuse l K (pk a (0 :: 1 :: 2 :: 3 :: 4 :: 5 :: 6 :: 7 :: 8 :: 9 :: 10 :: 11 :: 12 :: 13 :: 14 :: 15 :: 16 :: 17 :: 18 :: 19 :: 20 :: 21 :: 22 :: 23 :: 24 :: 25 :: 26 :: 27 :: 28 :: 29 :: 30 :: 31 :: 32 :: 33 :: 34 :: 35 :: 36 :: 37 :: 38 :: 39 :: 40 :: 41 :: 42 :: 43 :: 44 :: 45 :: 46 :: 47 :: 48 :: 49 :: 50 :: 51 :: 52 :: 53 :: 54 :: 55 :: 56 :: 57 :: 58 :: 59 :: 60 :: 61 :: 62 :: 63 :: 64 :: 65 :: 66 :: 67 :: 68 :: [])) s0 (-3 : Int32) r6 hr6) ycX6_refuse mw_278 (Nat.le_of_ble_eq_true rfl) rfl rfl rfl rfl (Nat.le_of_ble_eq_true rfl) ⟨Nat.zero_le _, Nat.zero_le _⟩ dX6_would_40 (ll_28 _ _ _) rfl rfl (ll_29 _ _ _ _) ?_
        obtain rfl := Option.some.inj hf
        exact Go_iret C hr rfl dX6_would_43
      · replace hf := iff' hc hf
        refine Go_aload_n (pc := 44) C dX6_would_44 rfl ?_
        refine Go_get (pc := 45) C 0 4 rfl rfl inX6 (by decide) mw_247 rfl dX6_would_45 ?_
        refine Go_aload_n (pc := 48) C dX6_would_48 rfl ?_
        refine Go_get (pc := 49) C 0 0 rfl rfl inX6 (by decide) mw_243 rfl dX6_would_49 ?_
        refine Go_iload_n (pc := 52) C dX6_would_52 rfl ?_
        obtain ⟨r7, hr7, hf⟩ := bnd hf
        refine Go_callV1 (pc := 53) (ws1 := (w6 K a ((s0.1, s0.2.1, s0.2.2.1, s0.2.2.2.1, r7.2, s0.2.2.2.2.2)))) C 52 (52 :: 53 :: 54 :: 55 :: 56 :: 57 :: 58 :: 59 :: 60 :: 61 :: 62 :: 63 :: 64 :: 65 :: 1 :: 2 :: 3 :: 4 :: 5 :: 6 :: []) (kX5_lose l K (pk a (52 :: 53 :: 54 :: 55 :: 56 :: 57 :: 58 :: 59 :: 60 :: 61 :: 62 :: 63 :: 64 :: 65 :: 1 :: 2 :: 3 :: 4 :: 5 :: 6 :: [])) s0.2.2.2.2.1 s0.1 p1 r7 hr7) ycX5_lose mw_476 (Nat.le_of_ble_eq_true rfl) rfl rfl rfl rfl (Nat.le_of_ble_eq_true rfl) ⟨Nat.zero_le _, Nat.zero_le _⟩ dX6_would_53 (ll_81 _ _ _) rfl rfl (ll_82 _ _ _ _) ?_
        refine Go_istore_n (pc := 56) C dX6_would_56 (by decide) ?_
        refine Go_iload_n (pc := 57) C dX6_would_57 rfl ?_
        refine Go_if_ne (pc := 58) (tgt := 65) C dX6_would_58 (by decide) (fun hc => ?_) (fun hc => ?_)
        · replace hf := ift hc hf
          refine Go_iload_n (pc := 61) C dX6_would_61 rfl ?_
          refine Go_goto (pc := 62) (tgt := 75) C dX6_would_62 (by decide) ?_
          obtain rfl := Option.some.inj hf
          exact Go_iret C hr rfl dX6_would_75
        · replace hf := iff' hc hf
          refine Go_aload_n (pc := 65) C dX6_would_65 rfl ?_
          refine Go_get (pc := 66) C 0 4 rfl rfl inX6 (by decide) mw_247 rfl dX6_would_66 ?_
          refine Go_get (pc := 69) C 52 1 rfl rfl inX5 (by decide) mw_210 rfl dX6_would_69 ?_
          obtain ⟨r8, hr8, hf⟩ := bnd hf
          refine Go_callV1 (pc := 72) (ws1 := (w6 K a ((s0.1, s0.2.1, s0.2.2.1, s0.2.2.2.1, r7.2, s0.2.2.2.2.2)))) C 59 [59, 60, 61, 62, 63] (kX0_countFallen l K (pk a [59, 60, 61, 62, 63]) r7.2.2.1 r8 hr8) ycX0_countFallen mw_403 (Nat.le_of_ble_eq_true rfl) rfl rfl rfl rfl (Nat.le_of_ble_eq_true rfl) ⟨Nat.zero_le _, Nat.zero_le _⟩ dX6_would_72 (ll_83 _ _ _) rfl rfl (Wr_same (ll_83 _ _ _)) ?_
          obtain rfl := Option.some.inj hf
          exact Go_iret C hr rfl dX6_would_75
def fX6_worst_L22 (s0 : S6) (q3 : Int32 × Int32 × Int32 × S5) : Option ((Int32 × Int32 × Int32 × S5) ⊕ (Int32 × Int32 × Int32 × S5)) := (if s0.1.2.2.2.2.2 ≤ q3.2.2.1 then some (.inr (q3.1, q3.2.1, q3.2.2.1, q3.2.2.2)) else Option.bind (fX1_isStanding s0.1 q3.2.2.1) (fun r4 => (if r4 = 0 then (if (0 : Int32) ≤ q3.2.1 then Option.bind (some (q3.2.2.1 + (1 : Int32))) (fun v5 => some (.inl (q3.1, q3.2.1, v5, q3.2.2.2))) else Option.bind (some (q3.2.2.1 + (1 : Int32))) (fun v6 => some (.inl (q3.2.2.1, (0 : Int32), v6, q3.2.2.2)))) else Option.bind (fX5_lose q3.2.2.2 s0.1 q3.2.2.1) (fun r7 => (if r7.1 ≤ q3.2.1 then Option.bind (some (q3.2.2.1 + (1 : Int32))) (fun v8 => some (.inl (q3.1, q3.2.1, v8, r7.2))) else Option.bind (some (q3.2.2.1 + (1 : Int32))) (fun v9 => some (.inl (q3.2.2.1, r7.1, v9, r7.2))))))))
def fX6_worst (s0 : S6) (p1 : Int32) : Option (Int32 × S6) := Option.bind (fX6_isWithin p1 (1 : Int32)) (fun r1 => (if r1 = 0 then Option.bind (fX6_refuse s0 (-2 : Int32)) (fun r2 => some (r2.1, r2.2)) else Option.bind (loopF (fX6_worst_L22 s0) 5000 ((-1 : Int32), (0 : Int32), (0 : Int32), s0.2.2.2.2.1)) (fun z10 => (if p1 = 0 then some (z10.1, (s0.1, s0.2.1, s0.2.2.1, s0.2.2.2.1, z10.2.2.2, s0.2.2.2.2.2)) else some (z10.2.1, (s0.1, s0.2.1, s0.2.2.1, s0.2.2.2.1, z10.2.2.2, s0.2.2.2.2.2))))))
theorem ycX6_worst : CalV yX6_worst cX6_worst 6 ((some .int)) 1 := ⟨mw_493, mw_61, mw_491, mw_492, ⟨by decide, by decide, by decide +kernel⟩, by decide⟩
set_option maxHeartbeats 4000000 in
set_option maxRecDepth 100000 in
theorem kX6_worst (l : Launch) (K : KK) (a : Nat → Nat) (s0 : S6) (p1 : Int32) (res : Int32 × S6) (hf : fX6_worst s0 p1 = some res) : Ct l K yX6_worst cX6_worst 6 ((some .int)) 6 [.ref (a 0), .int p1] (w6 K a s0) (some (.int res.1)) (w6 K a res.2) := by
  refine Ct_of2 (by decide) rfl (Nat.le_of_ble_eq_true rfl) ?_
  intro p e σ m args below meth c C hr
  unfold fX6_worst at hf
  refine Go_iload_n (pc := 0) C dX6_worst_0 rfl ?_
  refine Go_iconst (pc := 1) (v := 1) C dX6_worst_1 ci_1 ?_
  obtain ⟨r1, hr1, hf⟩ := bnd hf
  refine Go_callS1 (pc := 2) (ws1 := (w6 K a s0)) C [] (kX6_isWithin l K p1 (1 : Int32) r1 hr1) ycX6_isWithin mw_272 (Nat.le_of_ble_eq_true rfl) rfl rfl (Nat.le_of_ble_eq_true rfl) ⟨Nat.zero_le _, Nat.zero_le _⟩ dX6_worst_2 rfl rfl rfl (Wr_same rfl) ?_
  refine Go_if_ne (pc := 5) (tgt := 15) C dX6_worst_5 (by decide) (fun hc => ?_) (fun hc => ?_)
  · replace hf := ift hc hf
    refine Go_aload_n (pc := 8) C dX6_worst_8 rfl ?_
    refine Go_bipush (pc := 9) (v := -2) C dX6_worst_9 cb_m2 ?_
    obtain ⟨r2, hr2, hf⟩ := bnd hf
    refine Go_callV1 (pc := 11) (ws1 := (w6 K a r2.2)) C 0 (0 :: 1 :: 2 :: 3 :: 4 :: 5 :: 6 :: 7 :: 8 :: 9 :: 10 :: 11 :: 12 :: 13 :: 14 :: 15 :: 16 :: 17 :: 18 :: 19 :: 20 :: 21 :: 22 :: 23 :: 24 :: 25 :: 26 :: 27 :: 28 :: 29 :: 30 :: 31 :: 32 :: 33 :: 34 :: 35 :: 36 :: 37 :: 38 :: 39 :: 40 :: 41 :: 42 :: 43 :: 44 :: 45 :: 46 :: 47 :: 48 :: 49 :: 50 :: 51 :: 52 :: 53 :: 54 :: 55 :: 56 :: 57 :: 58 :: 59 :: 60 :: 61 :: 62 :: 63 :: 64 :: 65 :: 66 :: 67 :: 68 :: []) (kX6_refuse l K (pk a (0 :: 1 :: 2 :: 3 :: 4 :: 5 :: 6 :: 7 :: 8 :: 9 :: 10 :: 11 :: 12 :: 13 :: 14 :: 15 :: 16 :: 17 :: 18 :: 19 :: 20 :: 21 :: 22 :: 23 :: 24 :: 25 :: 26 :: 27 :: 28 :: 29 :: 30 :: 31 :: 32 :: 33 :: 34 :: 35 :: 36 :: 37 :: 38 :: 39 :: 40 :: 41 :: 42 :: 43 :: 44 :: 45 :: 46 :: 47 :: 48 :: 49 :: 50 :: 51 :: 52 :: 53 :: 54 :: 55 :: 56 :: 57 :: 58 :: 59 :: 60 :: 61 :: 62 :: 63 :: 64 :: 65 :: 66 :: 67 :: 68 :: [])) s0 (-2 : Int32) r2 hr2) ycX6_refuse mw_278 (Nat.le_of_ble_eq_true rfl) rfl rfl rfl rfl (Nat.le_of_ble_eq_true rfl) ⟨Nat.zero_le _, Nat.zero_le _⟩ dX6_worst_11 (ll_28 _ _ _) rfl rfl (ll_29 _ _ _ _) ?_
    obtain rfl := Option.some.inj hf
    exact Go_iret C hr rfl dX6_worst_14
  · replace hf := iff' hc hf
    refine Go_iconst (pc := 15) (v := -1) C dX6_worst_15 ci_m1 ?_
    refine Go_istore_n (pc := 16) C dX6_worst_16 (by decide) ?_
    refine Go_iconst (pc := 17) (v := 0) C dX6_worst_17 ci_0 ?_
    refine Go_istore_n (pc := 18) C dX6_worst_18 (by decide) ?_
    refine Go_iconst (pc := 19) (v := 0) C dX6_worst_19 ci_0 ?_
    refine Go_istore (pc := 20) C dX6_worst_20 (by decide) ?_
    obtain ⟨z10, hz10, hf⟩ := bnd hf
    refine Go_mask [true, true, true, true, true, false] ?_
    refine loopF_go (step := (fX6_worst_L22 s0)) (fun q3 => Go p l e (rmc 6 0 0) σ m args below meth c K (inW (w6 K a s0)) σ.heap 6 0 0 (MQ below (CtQ K (w6 K a s0) (some (.int res.1)) (w6 K a res.2)) args σ 0 0 (inW (w6 K a s0))) (w6 K a ((s0.1, s0.2.1, s0.2.2.1, s0.2.2.2.1, q3.2.2.2, s0.2.2.2.2.2))) 22 [some (.ref (a 0)), some (.int p1), some (.int q3.1), some (.int q3.2.1), some (.int q3.2.2.1), none] []) (fun z10 => Go p l e (rmc 6 0 0) σ m args below meth c K (inW (w6 K a s0)) σ.heap 6 0 0 (MQ below (CtQ K (w6 K a s0) (some (.int res.1)) (w6 K a res.2)) args σ 0 0 (inW (w6 K a s0))) (w6 K a ((s0.1, s0.2.1, s0.2.2.1, s0.2.2.2.1, z10.2.2.2, s0.2.2.2.2.2))) 83 [some (.ref (a 0)), some (.int p1), some (.int z10.1), some (.int z10.2.1), some (.int z10.2.2.1), none] []) ?_ _ _ _ hz10 ?_
    · intro q3 x hf hk
      unfold fX6_worst_L22 at hf
      refine Go_iload (pc := 22) C dX6_worst_22 rfl ?_
      refine Go_aload_n (pc := 24) C dX6_worst_24 rfl ?_
      refine Go_get (pc := 25) C 0 0 rfl rfl inX6 (by decide) mw_243 rfl dX6_worst_25 ?_
      refine Go_get (pc := 28) C 1 5 rfl rfl inX1 (by decide) mw_115 rfl dX6_worst_28 ?_
      refine Go_icmp_ge (pc := 31) (tgt := 83) C dX6_worst_31 (by decide) (fun hc => ?_) (fun hc => ?_)
      · replace hf := ift hc hf
        obtain rfl := Option.some.inj hf
        exact Go_mask [true, true, true, true, true, false] hk
      · replace hf := iff' hc hf
        refine Go_aload_n (pc := 34) C dX6_worst_34 rfl ?_
        refine Go_get (pc := 35) C 0 0 rfl rfl inX6 (by decide) mw_243 rfl dX6_worst_35 ?_
        refine Go_iload (pc := 38) C dX6_worst_38 rfl ?_
        obtain ⟨r4, hr4, hf⟩ := bnd hf
        refine Go_callV1 (pc := 40) (ws1 := (w6 K a ((s0.1, s0.2.1, s0.2.2.1, s0.2.2.2.1, q3.2.2.2, s0.2.2.2.2.2)))) C 1 [1, 2, 3, 4, 5, 6] (kX1_isStanding l K (pk a [1, 2, 3, 4, 5, 6]) s0.1 q3.2.2.1 r4 hr4) ycX1_isStanding mw_378 (Nat.le_of_ble_eq_true rfl) rfl rfl rfl rfl (Nat.le_of_ble_eq_true rfl) ⟨Nat.zero_le _, Nat.zero_le _⟩ dX6_worst_40 (ll_30 _ _ _) rfl rfl (Wr_same (ll_30 _ _ _)) ?_
        refine Go_if_eq (pc := 43) (tgt := 62) C dX6_worst_43 (by decide) (fun hc => ?_) (fun hc => ?_)
        · replace hf := ift hc hf
          refine Go_iconst (pc := 62) (v := 0) C dX6_worst_62 ci_0 ?_
          refine Go_istore (pc := 63) C dX6_worst_63 (by decide) ?_
          refine Go_iload (pc := 65) C dX6_worst_65 rfl ?_
          refine Go_iload_n (pc := 67) C dX6_worst_67 rfl ?_
          refine Go_icmp_le (pc := 68) (tgt := 77) C dX6_worst_68 (by decide) (fun hc => ?_) (fun hc => ?_)
          · replace hf := ift hc hf
            obtain ⟨v5, hv5, hf⟩ := bnd hf
            refine Go_iinc (pc := 77) (v := v5) C dX6_worst_77 rfl (by rw [ci_1]; exact Option.some.inj hv5) ?_
            refine Go_goto (pc := 80) (tgt := 22) C dX6_worst_80 (by decide) ?_
            obtain rfl := Option.some.inj hf
            exact Go_mask [true, true, true, true, true, false] hk
          · replace hf := iff' hc hf
            refine Go_iload (pc := 71) C dX6_worst_71 rfl ?_
            refine Go_istore_n (pc := 73) C dX6_worst_73 (by decide) ?_
            refine Go_iload (pc := 74) C dX6_worst_74 rfl ?_
            refine Go_istore_n (pc := 76) C dX6_worst_76 (by decide) ?_
            obtain ⟨v6, hv6, hf⟩ := bnd hf
            refine Go_iinc (pc := 77) (v := v6) C dX6_worst_77 rfl (by rw [ci_1]; exact Option.some.inj hv6) ?_
            refine Go_goto (pc := 80) (tgt := 22) C dX6_worst_80 (by decide) ?_
            obtain rfl := Option.some.inj hf
            exact Go_mask [true, true, true, true, true, false] hk
        · replace hf := iff' hc hf
          refine Go_aload_n (pc := 46) C dX6_worst_46 rfl ?_
          refine Go_get (pc := 47) C 0 4 rfl rfl inX6 (by decide) mw_247 rfl dX6_worst_47 ?_
          refine Go_aload_n (pc := 50) C dX6_worst_50 rfl ?_
          refine Go_get (pc := 51) C 0 0 rfl rfl inX6 (by decide) mw_243 rfl dX6_worst_51 ?_
          refine Go_iload (pc := 54) C dX6_worst_54 rfl ?_
          obtain ⟨r7, hr7, hf⟩ := bnd hf
          refine Go_callV1 (pc := 56) (ws1 := (w6 K a ((s0.1, s0.2.1, s0.2.2.1, s0.2.2.2.1, r7.2, s0.2.2.2.2.2)))) C 52 (52 :: 53 :: 54 :: 55 :: 56 :: 57 :: 58 :: 59 :: 60 :: 61 :: 62 :: 63 :: 64 :: 65 :: 1 :: 2 :: 3 :: 4 :: 5 :: 6 :: []) (kX5_lose l K (pk a (52 :: 53 :: 54 :: 55 :: 56 :: 57 :: 58 :: 59 :: 60 :: 61 :: 62 :: 63 :: 64 :: 65 :: 1 :: 2 :: 3 :: 4 :: 5 :: 6 :: [])) q3.2.2.2 s0.1 q3.2.2.1 r7 hr7) ycX5_lose mw_476 (Nat.le_of_ble_eq_true rfl) rfl rfl rfl rfl (Nat.le_of_ble_eq_true rfl) ⟨Nat.zero_le _, Nat.zero_le _⟩ dX6_worst_56 (ll_81 _ _ _) rfl rfl (ll_82 _ _ _ _) ?_
          refine Go_goto (pc := 59) (tgt := 63) C dX6_worst_59 (by decide) ?_
          refine Go_istore (pc := 63) C dX6_worst_63 (by decide) ?_
          refine Go_iload (pc := 65) C dX6_worst_65 rfl ?_
          refine Go_iload_n (pc := 67) C dX6_worst_67 rfl ?_
          refine Go_icmp_le (pc := 68) (tgt := 77) C dX6_worst_68 (by decide) (fun hc => ?_) (fun hc => ?_)
          · replace hf := ift hc hf
            obtain ⟨v8, hv8, hf⟩ := bnd hf
            refine Go_iinc (pc := 77) (v := v8) C dX6_worst_77 rfl (by rw [ci_1]; exact Option.some.inj hv8) ?_
            refine Go_goto (pc := 80) (tgt := 22) C dX6_worst_80 (by decide) ?_
            obtain rfl := Option.some.inj hf
            exact Go_mask [true, true, true, true, true, false] hk
          · replace hf := iff' hc hf
            refine Go_iload (pc := 71) C dX6_worst_71 rfl ?_
            refine Go_istore_n (pc := 73) C dX6_worst_73 (by decide) ?_
            refine Go_iload (pc := 74) C dX6_worst_74 rfl ?_
            refine Go_istore_n (pc := 76) C dX6_worst_76 (by decide) ?_
            obtain ⟨v9, hv9, hf⟩ := bnd hf
            refine Go_iinc (pc := 77) (v := v9) C dX6_worst_77 rfl (by rw [ci_1]; exact Option.some.inj hv9) ?_
            refine Go_goto (pc := 80) (tgt := 22) C dX6_worst_80 (by decide) ?_
            obtain rfl := Option.some.inj hf
            exact Go_mask [true, true, true, true, true, false] hk
    · show Go _ _ _ _ _ _ _ _ _ _ _ _ _ _ _ _ _ _ _ _ _
      refine Go_iload_n (pc := 83) C dX6_worst_83 rfl ?_
      refine Go_if_ne (pc := 84) (tgt := 91) C dX6_worst_84 (by decide) (fun hc => ?_) (fun hc => ?_)
      · replace hf := ift hc hf
        refine Go_iload_n (pc := 87) C dX6_worst_87 rfl ?_
        refine Go_goto (pc := 88) (tgt := 92) C dX6_worst_88 (by decide) ?_
        obtain rfl := Option.some.inj hf
        exact Go_iret C hr rfl dX6_worst_92
      · replace hf := iff' hc hf
        refine Go_iload_n (pc := 91) C dX6_worst_91 rfl ?_
        obtain rfl := Option.some.inj hf
        exact Go_iret C hr rfl dX6_worst_92
theorem ll_84 (K : KK) (a : Nat → Nat) (t0 : S6) : ((52 :: 53 :: 54 :: 55 :: 56 :: 57 :: 58 :: 59 :: 60 :: 61 :: 62 :: 63 :: 64 :: 65 :: []) : List Nat).map (fun i => (w6 K a t0)[i]?) = List.map some (w5 K (pk a (52 :: 53 :: 54 :: 55 :: 56 :: 57 :: 58 :: 59 :: 60 :: 61 :: 62 :: 63 :: 64 :: 65 :: [])) t0.2.2.2.2.1) := rfl
theorem ll_85 (K : KK) (a : Nat → Nat) (t0 : S6) (y0 : S5) : Wr (w6 K a t0) (52 :: 53 :: 54 :: 55 :: 56 :: 57 :: 58 :: 59 :: 60 :: 61 :: 62 :: 63 :: 64 :: 65 :: []) (w5 K (pk a (52 :: 53 :: 54 :: 55 :: 56 :: 57 :: 58 :: 59 :: 60 :: 61 :: 62 :: 63 :: 64 :: 65 :: [])) y0) (w6 K a ((t0.1, t0.2.1, t0.2.2.1, t0.2.2.2.1, y0, t0.2.2.2.2.2))) := ⟨(0 :: 1 :: 2 :: 3 :: 4 :: 5 :: 6 :: 7 :: 8 :: 9 :: 10 :: 11 :: 12 :: 13 :: 14 :: 15 :: 16 :: 17 :: 18 :: 19 :: 20 :: 21 :: 22 :: 23 :: 24 :: 25 :: 26 :: 27 :: 28 :: 29 :: 30 :: 31 :: 32 :: 33 :: 34 :: 35 :: 36 :: 37 :: 38 :: 39 :: 40 :: 41 :: 42 :: 43 :: 44 :: 45 :: 46 :: 47 :: 48 :: 49 :: 50 :: 51 :: 66 :: 67 :: 68 :: []), 69, rfl, (show List.map (fun i => (w6 K a ((t0.1, t0.2.1, t0.2.2.1, t0.2.2.2.1, y0, t0.2.2.2.2.2)))[i]?) _ = ((some (a 0, .inr (6, [.ref (a 1), .ref (a 7), .ref (a 12), .ref (a 14), .ref (a 52), .ref (a 66), .ref (a 68)])) :: some (a 1, .inr (1, [.ref (a 2), .ref (a 3), .ref (a 4), .ref (a 5), .ref (a 6), .int (t0.1.2.2.2.2.2)])) :: some (a 2, .inl (K.2.1, 96, .inl (t0.1.1))) :: some (a 3, .inl (K.2.1, 12, .inl (t0.1.2.1))) :: some (a 4, .inl (K.2.1, 12, .inl (t0.1.2.2.1))) :: some (a 5, .inl (K.2.1, 12, .inl (t0.1.2.2.2.1))) :: some (a 6, .inl (K.2.1, 21, .inl (t0.1.2.2.2.2.1))) :: some (a 7, .inr (0, [.ref (a 8), .ref (a 9), .ref (a 10), .ref (a 11)])) :: some (a 8, .inl (K.2.1, 96, .inl (t0.2.1.1))) :: some (a 9, .inl (K.2.1, 96, .inl (t0.2.1.2.1))) :: some (a 10, .inl (K.2.1, 12, .inl (t0.2.1.2.2.1))) :: some (a 11, .inl (K.2.1, 12, .inl (t0.2.1.2.2.2))) :: some (a 12, .inr (2, [.ref (a 13), .int (t0.2.2.1.2)])) :: some (a 13, .inl (K.2.1, 12, .inl (t0.2.2.1.1))) :: some (a 14, .inr (3, [.ref (a 15), .int (t0.2.2.2.1.2.1), .int (t0.2.2.2.1.2.2)])) :: some (a 15, .inl (K.2.2, 6, .inr (.inr (.inr (.inr (rgf [a 16, a 22, a 28, a 34, a 40, a 46])))))) :: some (a 16, .inr (1, [.ref (a 17), .ref (a 18), .ref (a 19), .ref (a 20), .ref (a 21), .int (t0.2.2.2.1.1.1.2.2.2.2.2)])) :: some (a 17, .inl (K.2.1, 96, .inl (t0.2.2.2.1.1.1.1))) :: some (a 18, .inl (K.2.1, 12, .inl (t0.2.2.2.1.1.1.2.1))) :: some (a 19, .inl (K.2.1, 12, .inl (t0.2.2.2.1.1.1.2.2.1))) :: some (a 20, .inl (K.2.1, 12, .inl (t0.2.2.2.1.1.1.2.2.2.1))) :: some (a 21, .inl (K.2.1, 21, .inl (t0.2.2.2.1.1.1.2.2.2.2.1))) :: some (a 22, .inr (1, [.ref (a 23), .ref (a 24), .ref (a 25), .ref (a 26), .ref (a 27), .int (t0.2.2.2.1.1.2.1.2.2.2.2.2)])) :: some (a 23, .inl (K.2.1, 96, .inl (t0.2.2.2.1.1.2.1.1))) :: some (a 24, .inl (K.2.1, 12, .inl (t0.2.2.2.1.1.2.1.2.1))) :: some (a 25, .inl (K.2.1, 12, .inl (t0.2.2.2.1.1.2.1.2.2.1))) :: some (a 26, .inl (K.2.1, 12, .inl (t0.2.2.2.1.1.2.1.2.2.2.1))) :: some (a 27, .inl (K.2.1, 21, .inl (t0.2.2.2.1.1.2.1.2.2.2.2.1))) :: some (a 28, .inr (1, [.ref (a 29), .ref (a 30), .ref (a 31), .ref (a 32), .ref (a 33), .int (t0.2.2.2.1.1.2.2.1.2.2.2.2.2)])) :: some (a 29, .inl (K.2.1, 96, .inl (t0.2.2.2.1.1.2.2.1.1))) :: some (a 30, .inl (K.2.1, 12, .inl (t0.2.2.2.1.1.2.2.1.2.1))) :: some (a 31, .inl (K.2.1, 12, .inl (t0.2.2.2.1.1.2.2.1.2.2.1))) :: some (a 32, .inl (K.2.1, 12, .inl (t0.2.2.2.1.1.2.2.1.2.2.2.1))) :: some (a 33, .inl (K.2.1, 21, .inl (t0.2.2.2.1.1.2.2.1.2.2.2.2.1))) :: some (a 34, .inr (1, [.ref (a 35), .ref (a 36), .ref (a 37), .ref (a 38), .ref (a 39), .int (t0.2.2.2.1.1.2.2.2.1.2.2.2.2.2)])) :: some (a 35, .inl (K.2.1, 96, .inl (t0.2.2.2.1.1.2.2.2.1.1))) :: some (a 36, .inl (K.2.1, 12, .inl (t0.2.2.2.1.1.2.2.2.1.2.1))) :: some (a 37, .inl (K.2.1, 12, .inl (t0.2.2.2.1.1.2.2.2.1.2.2.1))) :: some (a 38, .inl (K.2.1, 12, .inl (t0.2.2.2.1.1.2.2.2.1.2.2.2.1))) :: some (a 39, .inl (K.2.1, 21, .inl (t0.2.2.2.1.1.2.2.2.1.2.2.2.2.1))) :: some (a 40, .inr (1, [.ref (a 41), .ref (a 42), .ref (a 43), .ref (a 44), .ref (a 45), .int (t0.2.2.2.1.1.2.2.2.2.1.2.2.2.2.2)])) :: some (a 41, .inl (K.2.1, 96, .inl (t0.2.2.2.1.1.2.2.2.2.1.1))) :: some (a 42, .inl (K.2.1, 12, .inl (t0.2.2.2.1.1.2.2.2.2.1.2.1))) :: some (a 43, .inl (K.2.1, 12, .inl (t0.2.2.2.1.1.2.2.2.2.1.2.2.1))) :: some (a 44, .inl (K.2.1, 12, .inl (t0.2.2.2.1.1.2.2.2.2.1.2.2.2.1))) :: some (a 45, .inl (K.2.1, 21, .inl (t0.2.2.2.1.1.2.2.2.2.1.2.2.2.2.1))) :: some (a 46, .inr (1, [.ref (a 47), .ref (a 48), .ref (a 49), .ref (a 50), .ref (a 51), .int (t0.2.2.2.1.1.2.2.2.2.2.2.2.2.2.2)])) :: some (a 47, .inl (K.2.1, 96, .inl (t0.2.2.2.1.1.2.2.2.2.2.1))) :: some (a 48, .inl (K.2.1, 12, .inl (t0.2.2.2.1.1.2.2.2.2.2.2.1))) :: some (a 49, .inl (K.2.1, 12, .inl (t0.2.2.2.1.1.2.2.2.2.2.2.2.1))) :: some (a 50, .inl (K.2.1, 12, .inl (t0.2.2.2.1.1.2.2.2.2.2.2.2.2.1))) :: some (a 51, .inl (K.2.1, 21, .inl (t0.2.2.2.1.1.2.2.2.2.2.2.2.2.2.1))) :: some (a 66, .inr (4, [.ref (a 67), .int (t0.2.2.2.2.2.1.2.1), .int (t0.2.2.2.2.2.1.2.2.1), .int (t0.2.2.2.2.2.1.2.2.2.1), .int (t0.2.2.2.2.2.1.2.2.2.2)])) :: some (a 67, .inl (K.2.1, 120, .inl (t0.2.2.2.2.2.1.1))) :: some (a 68, .inl (K.2.1, 3, .inl (t0.2.2.2.2.2.2))) :: []) : List (Option (Nat × va_E))) from rfl).trans (show List.map (fun i => (w6 K a t0)[i]?) _ = ((some (a 0, .inr (6, [.ref (a 1), .ref (a 7), .ref (a 12), .ref (a 14), .ref (a 52), .ref (a 66), .ref (a 68)])) :: some (a 1, .inr (1, [.ref (a 2), .ref (a 3), .ref (a 4), .ref (a 5), .ref (a 6), .int (t0.1.2.2.2.2.2)])) :: some (a 2, .inl (K.2.1, 96, .inl (t0.1.1))) :: some (a 3, .inl (K.2.1, 12, .inl (t0.1.2.1))) :: some (a 4, .inl (K.2.1, 12, .inl (t0.1.2.2.1))) :: some (a 5, .inl (K.2.1, 12, .inl (t0.1.2.2.2.1))) :: some (a 6, .inl (K.2.1, 21, .inl (t0.1.2.2.2.2.1))) :: some (a 7, .inr (0, [.ref (a 8), .ref (a 9), .ref (a 10), .ref (a 11)])) :: some (a 8, .inl (K.2.1, 96, .inl (t0.2.1.1))) :: some (a 9, .inl (K.2.1, 96, .inl (t0.2.1.2.1))) :: some (a 10, .inl (K.2.1, 12, .inl (t0.2.1.2.2.1))) :: some (a 11, .inl (K.2.1, 12, .inl (t0.2.1.2.2.2))) :: some (a 12, .inr (2, [.ref (a 13), .int (t0.2.2.1.2)])) :: some (a 13, .inl (K.2.1, 12, .inl (t0.2.2.1.1))) :: some (a 14, .inr (3, [.ref (a 15), .int (t0.2.2.2.1.2.1), .int (t0.2.2.2.1.2.2)])) :: some (a 15, .inl (K.2.2, 6, .inr (.inr (.inr (.inr (rgf [a 16, a 22, a 28, a 34, a 40, a 46])))))) :: some (a 16, .inr (1, [.ref (a 17), .ref (a 18), .ref (a 19), .ref (a 20), .ref (a 21), .int (t0.2.2.2.1.1.1.2.2.2.2.2)])) :: some (a 17, .inl (K.2.1, 96, .inl (t0.2.2.2.1.1.1.1))) :: some (a 18, .inl (K.2.1, 12, .inl (t0.2.2.2.1.1.1.2.1))) :: some (a 19, .inl (K.2.1, 12, .inl (t0.2.2.2.1.1.1.2.2.1))) :: some (a 20, .inl (K.2.1, 12, .inl (t0.2.2.2.1.1.1.2.2.2.1))) :: some (a 21, .inl (K.2.1, 21, .inl (t0.2.2.2.1.1.1.2.2.2.2.1))) :: some (a 22, .inr (1, [.ref (a 23), .ref (a 24), .ref (a 25), .ref (a 26), .ref (a 27), .int (t0.2.2.2.1.1.2.1.2.2.2.2.2)])) :: some (a 23, .inl (K.2.1, 96, .inl (t0.2.2.2.1.1.2.1.1))) :: some (a 24, .inl (K.2.1, 12, .inl (t0.2.2.2.1.1.2.1.2.1))) :: some (a 25, .inl (K.2.1, 12, .inl (t0.2.2.2.1.1.2.1.2.2.1))) :: some (a 26, .inl (K.2.1, 12, .inl (t0.2.2.2.1.1.2.1.2.2.2.1))) :: some (a 27, .inl (K.2.1, 21, .inl (t0.2.2.2.1.1.2.1.2.2.2.2.1))) :: some (a 28, .inr (1, [.ref (a 29), .ref (a 30), .ref (a 31), .ref (a 32), .ref (a 33), .int (t0.2.2.2.1.1.2.2.1.2.2.2.2.2)])) :: some (a 29, .inl (K.2.1, 96, .inl (t0.2.2.2.1.1.2.2.1.1))) :: some (a 30, .inl (K.2.1, 12, .inl (t0.2.2.2.1.1.2.2.1.2.1))) :: some (a 31, .inl (K.2.1, 12, .inl (t0.2.2.2.1.1.2.2.1.2.2.1))) :: some (a 32, .inl (K.2.1, 12, .inl (t0.2.2.2.1.1.2.2.1.2.2.2.1))) :: some (a 33, .inl (K.2.1, 21, .inl (t0.2.2.2.1.1.2.2.1.2.2.2.2.1))) :: some (a 34, .inr (1, [.ref (a 35), .ref (a 36), .ref (a 37), .ref (a 38), .ref (a 39), .int (t0.2.2.2.1.1.2.2.2.1.2.2.2.2.2)])) :: some (a 35, .inl (K.2.1, 96, .inl (t0.2.2.2.1.1.2.2.2.1.1))) :: some (a 36, .inl (K.2.1, 12, .inl (t0.2.2.2.1.1.2.2.2.1.2.1))) :: some (a 37, .inl (K.2.1, 12, .inl (t0.2.2.2.1.1.2.2.2.1.2.2.1))) :: some (a 38, .inl (K.2.1, 12, .inl (t0.2.2.2.1.1.2.2.2.1.2.2.2.1))) :: some (a 39, .inl (K.2.1, 21, .inl (t0.2.2.2.1.1.2.2.2.1.2.2.2.2.1))) :: some (a 40, .inr (1, [.ref (a 41), .ref (a 42), .ref (a 43), .ref (a 44), .ref (a 45), .int (t0.2.2.2.1.1.2.2.2.2.1.2.2.2.2.2)])) :: some (a 41, .inl (K.2.1, 96, .inl (t0.2.2.2.1.1.2.2.2.2.1.1))) :: some (a 42, .inl (K.2.1, 12, .inl (t0.2.2.2.1.1.2.2.2.2.1.2.1))) :: some (a 43, .inl (K.2.1, 12, .inl (t0.2.2.2.1.1.2.2.2.2.1.2.2.1))) :: some (a 44, .inl (K.2.1, 12, .inl (t0.2.2.2.1.1.2.2.2.2.1.2.2.2.1))) :: some (a 45, .inl (K.2.1, 21, .inl (t0.2.2.2.1.1.2.2.2.2.1.2.2.2.2.1))) :: some (a 46, .inr (1, [.ref (a 47), .ref (a 48), .ref (a 49), .ref (a 50), .ref (a 51), .int (t0.2.2.2.1.1.2.2.2.2.2.2.2.2.2.2)])) :: some (a 47, .inl (K.2.1, 96, .inl (t0.2.2.2.1.1.2.2.2.2.2.1))) :: some (a 48, .inl (K.2.1, 12, .inl (t0.2.2.2.1.1.2.2.2.2.2.2.1))) :: some (a 49, .inl (K.2.1, 12, .inl (t0.2.2.2.1.1.2.2.2.2.2.2.2.1))) :: some (a 50, .inl (K.2.1, 12, .inl (t0.2.2.2.1.1.2.2.2.2.2.2.2.2.1))) :: some (a 51, .inl (K.2.1, 21, .inl (t0.2.2.2.1.1.2.2.2.2.2.2.2.2.2.1))) :: some (a 66, .inr (4, [.ref (a 67), .int (t0.2.2.2.2.2.1.2.1), .int (t0.2.2.2.2.2.1.2.2.1), .int (t0.2.2.2.2.2.1.2.2.2.1), .int (t0.2.2.2.2.2.1.2.2.2.2)])) :: some (a 67, .inl (K.2.1, 120, .inl (t0.2.2.2.2.2.1.1))) :: some (a 68, .inl (K.2.1, 3, .inl (t0.2.2.2.2.2.2))) :: []) : List (Option (Nat × va_E))) from rfl).symm, rfl, by decide⟩
theorem ll_86 (K : KK) (a : Nat → Nat) (t0 : S6) : ([53, 54, 55, 56, 57, 58] : List Nat).map (fun i => (w6 K a t0)[i]?) = List.map some (w1 K (pk a [53, 54, 55, 56, 57, 58]) t0.2.2.2.2.1.1) := rfl
def fX6_cut (s0 : S6) (p1 : Int32) : Option (Int32 × S6) := Option.bind (fX1_hasPillar s0.1 p1) (fun r1 => (if r1 = 0 then Option.bind (fX6_refuse s0 (-2 : Int32)) (fun r2 => some (r2.1, r2.2)) else Option.bind (fX1_isStanding s0.1 p1) (fun r3 => (if r3 = 0 then Option.bind (fX6_refuse s0 (-3 : Int32)) (fun r4 => some (r4.1, r4.2)) else Option.bind (fX5_start s0.2.2.2.2.1 s0.1) (fun r5 => Option.bind (fX5_crush r5) (fun r6 => Option.bind (fX1_isStanding r6.2.1 p1) (fun r7 => (if r7 = 0 then (if 0 ≤ p1 ∧ p1.toNatClampNeg < 12 then some (s0.1.2.2.1 p1.toNatClampNeg, (s0.1, s0.2.1, s0.2.2.1, s0.2.2.2.1, r6.2, s0.2.2.2.2.2)) else none) else (if 0 ≤ p1 ∧ p1.toNatClampNeg < 12 then (if 0 ≤ p1 ∧ p1.toNatClampNeg < 12 then some ((s0.1.2.2.1 p1.toNatClampNeg) - (r6.2.2.1.2.2.1 p1.toNatClampNeg), (s0.1, s0.2.1, s0.2.2.1, s0.2.2.2.1, r6.2, s0.2.2.2.2.2)) else none) else none)))))))))
theorem ycX6_cut : CalV yX6_cut cX6_cut 2 ((some .int)) 1 := ⟨mw_497, mw_61, mw_495, mw_496, ⟨by decide, by decide, by decide +kernel⟩, by decide⟩
set_option maxHeartbeats 4000000 in
set_option maxRecDepth 100000 in
theorem kX6_cut (l : Launch) (K : KK) (a : Nat → Nat) (s0 : S6) (p1 : Int32) (res : Int32 × S6) (hf : fX6_cut s0 p1 = some res) : Ct l K yX6_cut cX6_cut 2 ((some .int)) 5 [.ref (a 0), .int p1] (w6 K a s0) (some (.int res.1)) (w6 K a res.2) := by
  refine Ct_of2 (by decide) rfl (Nat.le_of_ble_eq_true rfl) ?_
  intro p e σ m args below meth c C hr
  unfold fX6_cut at hf
  refine Go_aload_n (pc := 0) C dX6_cut_0 rfl ?_
  refine Go_get (pc := 1) C 0 0 rfl rfl inX6 (by decide) mw_243 rfl dX6_cut_1 ?_
  refine Go_iload_n (pc := 4) C dX6_cut_4 rfl ?_
  obtain ⟨r1, hr1, hf⟩ := bnd hf
  refine Go_callV1 (pc := 5) (ws1 := (w6 K a s0)) C 1 [1, 2, 3, 4, 5, 6] (kX1_hasPillar l K (pk a [1, 2, 3, 4, 5, 6]) s0.1 p1 r1 hr1) ycX1_hasPillar mw_324 (Nat.le_of_ble_eq_true rfl) rfl rfl rfl rfl (Nat.le_of_ble_eq_true rfl) ⟨Nat.zero_le _, Nat.zero_le _⟩ dX6_cut_5 (ll_30 _ _ _) rfl rfl (Wr_same (ll_30 _ _ _)) ?_
  refine Go_if_ne (pc := 8) (tgt := 18) C dX6_cut_8 (by decide) (fun hc => ?_) (fun hc => ?_)
  · replace hf := ift hc hf
    refine Go_aload_n (pc := 11) C dX6_cut_11 rfl ?_
    refine Go_bipush (pc := 12) (v := -2) C dX6_cut_12 cb_m2 ?_
    obtain ⟨r2, hr2, hf⟩ := bnd hf
    refine Go_callV1 (pc := 14) (ws1 := (w6 K a r2.2)) C 0 (0 :: 1 :: 2 :: 3 :: 4 :: 5 :: 6 :: 7 :: 8 :: 9 :: 10 :: 11 :: 12 :: 13 :: 14 :: 15 :: 16 :: 17 :: 18 :: 19 :: 20 :: 21 :: 22 :: 23 :: 24 :: 25 :: 26 :: 27 :: 28 :: 29 :: 30 :: 31 :: 32 :: 33 :: 34 :: 35 :: 36 :: 37 :: 38 :: 39 :: 40 :: 41 :: 42 :: 43 :: 44 :: 45 :: 46 :: 47 :: 48 :: 49 :: 50 :: 51 :: 52 :: 53 :: 54 :: 55 :: 56 :: 57 :: 58 :: 59 :: 60 :: 61 :: 62 :: 63 :: 64 :: 65 :: 66 :: 67 :: 68 :: []) (kX6_refuse l K (pk a (0 :: 1 :: 2 :: 3 :: 4 :: 5 :: 6 :: 7 :: 8 :: 9 :: 10 :: 11 :: 12 :: 13 :: 14 :: 15 :: 16 :: 17 :: 18 :: 19 :: 20 :: 21 :: 22 :: 23 :: 24 :: 25 :: 26 :: 27 :: 28 :: 29 :: 30 :: 31 :: 32 :: 33 :: 34 :: 35 :: 36 :: 37 :: 38 :: 39 :: 40 :: 41 :: 42 :: 43 :: 44 :: 45 :: 46 :: 47 :: 48 :: 49 :: 50 :: 51 :: 52 :: 53 :: 54 :: 55 :: 56 :: 57 :: 58 :: 59 :: 60 :: 61 :: 62 :: 63 :: 64 :: 65 :: 66 :: 67 :: 68 :: [])) s0 (-2 : Int32) r2 hr2) ycX6_refuse mw_278 (Nat.le_of_ble_eq_true rfl) rfl rfl rfl rfl (Nat.le_of_ble_eq_true rfl) ⟨Nat.zero_le _, Nat.zero_le _⟩ dX6_cut_14 (ll_28 _ _ _) rfl rfl (ll_29 _ _ _ _) ?_
    obtain rfl := Option.some.inj hf
    exact Go_iret C hr rfl dX6_cut_17
  · replace hf := iff' hc hf
    refine Go_aload_n (pc := 18) C dX6_cut_18 rfl ?_
    refine Go_get (pc := 19) C 0 0 rfl rfl inX6 (by decide) mw_243 rfl dX6_cut_19 ?_
    refine Go_iload_n (pc := 22) C dX6_cut_22 rfl ?_
    obtain ⟨r3, hr3, hf⟩ := bnd hf
    refine Go_callV1 (pc := 23) (ws1 := (w6 K a s0)) C 1 [1, 2, 3, 4, 5, 6] (kX1_isStanding l K (pk a [1, 2, 3, 4, 5, 6]) s0.1 p1 r3 hr3) ycX1_isStanding mw_378 (Nat.le_of_ble_eq_true rfl) rfl rfl rfl rfl (Nat.le_of_ble_eq_true rfl) ⟨Nat.zero_le _, Nat.zero_le _⟩ dX6_cut_23 (ll_30 _ _ _) rfl rfl (Wr_same (ll_30 _ _ _)) ?_
    refine Go_if_ne (pc := 26) (tgt := 36) C dX6_cut_26 (by decide) (fun hc => ?_) (fun hc => ?_)
    · replace hf := ift hc hf
      refine Go_aload_n (pc := 29) C dX6_cut_29 rfl ?_
      refine Go_bipush (pc := 30) (v := -3) C dX6_cut_30 cb_m3 ?_
      obtain ⟨r4, hr4, hf⟩ := bnd hf
      refine Go_callV1 (pc := 32) (ws1 := (w6 K a r4.2)) C 0 (0 :: 1 :: 2 :: 3 :: 4 :: 5 :: 6 :: 7 :: 8 :: 9 :: 10 :: 11 :: 12 :: 13 :: 14 :: 15 :: 16 :: 17 :: 18 :: 19 :: 20 :: 21 :: 22 :: 23 :: 24 :: 25 :: 26 :: 27 :: 28 :: 29 :: 30 :: 31 :: 32 :: 33 :: 34 :: 35 :: 36 :: 37 :: 38 :: 39 :: 40 :: 41 :: 42 :: 43 :: 44 :: 45 :: 46 :: 47 :: 48 :: 49 :: 50 :: 51 :: 52 :: 53 :: 54 :: 55 :: 56 :: 57 :: 58 :: 59 :: 60 :: 61 :: 62 :: 63 :: 64 :: 65 :: 66 :: 67 :: 68 :: []) (kX6_refuse l K (pk a (0 :: 1 :: 2 :: 3 :: 4 :: 5 :: 6 :: 7 :: 8 :: 9 :: 10 :: 11 :: 12 :: 13 :: 14 :: 15 :: 16 :: 17 :: 18 :: 19 :: 20 :: 21 :: 22 :: 23 :: 24 :: 25 :: 26 :: 27 :: 28 :: 29 :: 30 :: 31 :: 32 :: 33 :: 34 :: 35 :: 36 :: 37 :: 38 :: 39 :: 40 :: 41 :: 42 :: 43 :: 44 :: 45 :: 46 :: 47 :: 48 :: 49 :: 50 :: 51 :: 52 :: 53 :: 54 :: 55 :: 56 :: 57 :: 58 :: 59 :: 60 :: 61 :: 62 :: 63 :: 64 :: 65 :: 66 :: 67 :: 68 :: [])) s0 (-3 : Int32) r4 hr4) ycX6_refuse mw_278 (Nat.le_of_ble_eq_true rfl) rfl rfl rfl rfl (Nat.le_of_ble_eq_true rfl) ⟨Nat.zero_le _, Nat.zero_le _⟩ dX6_cut_32 (ll_28 _ _ _) rfl rfl (ll_29 _ _ _ _) ?_
      obtain rfl := Option.some.inj hf
      exact Go_iret C hr rfl dX6_cut_35
    · replace hf := iff' hc hf
      refine Go_aload_n (pc := 36) C dX6_cut_36 rfl ?_
      refine Go_get (pc := 37) C 0 4 rfl rfl inX6 (by decide) mw_247 rfl dX6_cut_37 ?_
      refine Go_aload_n (pc := 40) C dX6_cut_40 rfl ?_
      refine Go_get (pc := 41) C 0 0 rfl rfl inX6 (by decide) mw_243 rfl dX6_cut_41 ?_
      obtain ⟨r5, hr5, hf⟩ := bnd hf
      refine Go_callV0 (pc := 44) (ws1 := (w6 K a ((s0.1, s0.2.1, s0.2.2.1, s0.2.2.2.1, r5, s0.2.2.2.2.2)))) C 52 (52 :: 53 :: 54 :: 55 :: 56 :: 57 :: 58 :: 59 :: 60 :: 61 :: 62 :: 63 :: 64 :: 65 :: 1 :: 2 :: 3 :: 4 :: 5 :: 6 :: []) (kX5_start l K (pk a (52 :: 53 :: 54 :: 55 :: 56 :: 57 :: 58 :: 59 :: 60 :: 61 :: 62 :: 63 :: 64 :: 65 :: 1 :: 2 :: 3 :: 4 :: 5 :: 6 :: [])) s0.2.2.2.2.1 s0.1 r5 hr5) ycX5_start mw_498 (Nat.le_of_ble_eq_true rfl) rfl rfl rfl rfl (Nat.le_of_ble_eq_true rfl) ⟨Nat.zero_le _, Nat.zero_le _⟩ dX6_cut_44 (ll_81 _ _ _) rfl rfl (ll_82 _ _ _ _) ?_
      refine Go_aload_n (pc := 47) C dX6_cut_47 rfl ?_
      refine Go_get (pc := 48) C 0 4 rfl rfl inX6 (by decide) mw_247 rfl dX6_cut_48 ?_
      obtain ⟨r6, hr6, hf⟩ := bnd hf
      refine Go_callV1 (pc := 51) (ws1 := (w6 K a ((s0.1, s0.2.1, s0.2.2.1, s0.2.2.2.1, r6.2, s0.2.2.2.2.2)))) C 52 (52 :: 53 :: 54 :: 55 :: 56 :: 57 :: 58 :: 59 :: 60 :: 61 :: 62 :: 63 :: 64 :: 65 :: []) (kX5_crush l K (pk a (52 :: 53 :: 54 :: 55 :: 56 :: 57 :: 58 :: 59 :: 60 :: 61 :: 62 :: 63 :: 64 :: 65 :: [])) r5 r6 hr6) ycX5_crush mw_499 (Nat.le_of_ble_eq_true rfl) rfl rfl rfl rfl (Nat.le_of_ble_eq_true rfl) ⟨Nat.zero_le _, Nat.zero_le _⟩ dX6_cut_51 (ll_84 _ _ _) rfl rfl (ll_85 _ _ _ _) ?_
      refine Go_pop (pc := 54) C dX6_cut_54 rfl ?_
      refine Go_aload_n (pc := 55) C dX6_cut_55 rfl ?_
      refine Go_get (pc := 56) C 0 4 rfl rfl inX6 (by decide) mw_247 rfl dX6_cut_56 ?_
      refine Go_get (pc := 59) C 52 0 rfl rfl inX5 (by decide) mw_208 rfl dX6_cut_59 ?_
      refine Go_iload_n (pc := 62) C dX6_cut_62 rfl ?_
      obtain ⟨r7, hr7, hf⟩ := bnd hf
      refine Go_callV1 (pc := 63) (ws1 := (w6 K a ((s0.1, s0.2.1, s0.2.2.1, s0.2.2.2.1, r6.2, s0.2.2.2.2.2)))) C 53 [53, 54, 55, 56, 57, 58] (kX1_isStanding l K (pk a [53, 54, 55, 56, 57, 58]) r6.2.1 p1 r7 hr7) ycX1_isStanding mw_378 (Nat.le_of_ble_eq_true rfl) rfl rfl rfl rfl (Nat.le_of_ble_eq_true rfl) ⟨Nat.zero_le _, Nat.zero_le _⟩ dX6_cut_63 (ll_86 _ _ _) rfl rfl (Wr_same (ll_86 _ _ _)) ?_
      refine Go_if_eq (pc := 66) (tgt := 94) C dX6_cut_66 (by decide) (fun hc => ?_) (fun hc => ?_)
      · replace hf := ift hc hf
        refine Go_aload_n (pc := 94) C dX6_cut_94 rfl ?_
        refine Go_get (pc := 95) C 0 0 rfl rfl inX6 (by decide) mw_243 rfl dX6_cut_95 ?_
        refine Go_get (pc := 98) C 1 2 rfl rfl inX1 (by decide) mw_102 rfl dX6_cut_98 ?_
        refine Go_iload_n (pc := 101) C dX6_cut_101 rfl ?_
        obtain ⟨hb, hf⟩ := ifs hf
        refine Go_iald (pc := 102) C 4 rfl (inb_in hb) dX6_cut_102 ?_
        obtain rfl := Option.some.inj hf
        exact Go_iret C hr rfl dX6_cut_103
      · replace hf := iff' hc hf
        refine Go_aload_n (pc := 69) C dX6_cut_69 rfl ?_
        refine Go_get (pc := 70) C 0 0 rfl rfl inX6 (by decide) mw_243 rfl dX6_cut_70 ?_
        refine Go_get (pc := 73) C 1 2 rfl rfl inX1 (by decide) mw_102 rfl dX6_cut_73 ?_
        refine Go_iload_n (pc := 76) C dX6_cut_76 rfl ?_
        obtain ⟨hb, hf⟩ := ifs hf
        refine Go_iald (pc := 77) C 4 rfl (inb_in hb) dX6_cut_77 ?_
        refine Go_aload_n (pc := 78) C dX6_cut_78 rfl ?_
        refine Go_get (pc := 79) C 0 4 rfl rfl inX6 (by decide) mw_247 rfl dX6_cut_79 ?_
        refine Go_get (pc := 82) C 52 1 rfl rfl inX5 (by decide) mw_210 rfl dX6_cut_82 ?_
        refine Go_get (pc := 85) C 59 2 rfl rfl inX0 (by decide) mw_142 rfl dX6_cut_85 ?_
        refine Go_iload_n (pc := 88) C dX6_cut_88 rfl ?_
        obtain ⟨hb, hf⟩ := ifs hf
        refine Go_iald (pc := 89) C 62 rfl (inb_in hb) dX6_cut_89 ?_
        refine Go_isub (pc := 90) C dX6_cut_90 ?_
        refine Go_goto (pc := 91) (tgt := 103) C dX6_cut_91 (by decide) ?_
        obtain rfl := Option.some.inj hf
        exact Go_iret C hr rfl dX6_cut_103
