theorem ycX7_init : CalI yX7_init cX7_init 1 := ⟨mw_627, mw_69, mw_626, ⟨by decide, by decide, by decide +kernel⟩, by decide, rfl⟩
set_option maxHeartbeats 4000000 in
set_option maxRecDepth 100000 in
theorem ctX7_init (l : Launch) (K : KK)  (h0 : Nat) : Cn l K yX7_init cX7_init 1 1 13 1299 h0 (.inr (7, [.null, .null, .int 0, .null, .null, .int 0, .int 0, .int 0, .null, .null, .null, .null, .null, .int 0, .null, .null, .int 0, .int 0, .int 0, .int 0, .int 0, .null, .null])) (fun a => w7 K a ((fun _ => 0), (onf 96), (0 : Int32), (fun _ => 0), (fun _ => 0), (0 : Int32), (0 : Int32), (0 : Int32), (fun _ => 0), (fun _ => 0), (fun _ => 0), (fun _ => 0), (fun _ => 0), (0 : Int32), (fun _ => 0), (fun _ => 0), (0 : Int32), (0 : Int32), (0 : Int32), (0 : Int32), (0 : Int32), (fun _ => 0), (fun _ => 0))) := by
  refine Cn_of (by decide) rfl (by decide) ?_
  intro p e σ m args below meth c C hr hin hEx hA
  refine Go_aload_n (pc := 0) C dX7_init_0 rfl ?_
  refine Go_obj (pc := 1) C mw_628 dX7_init_1 (Nat.le_of_ble_eq_true rfl) (Nat.le_of_ble_eq_true rfl) ?_
  refine Go_aload_n (pc := 4) C dX7_init_4 rfl ?_
  refine Go_iconst (pc := 5) (v := 3) C dX7_init_5 ci_3 ?_
  refine Go_newa (pc := 6) (N := 3) C hA (by decide) (by decide) (Nat.le_of_ble_eq_true rfl) (Nat.le_of_ble_eq_true rfl) (Nat.le_of_ble_eq_true rfl) dX7_init_6 (fun q1 => ?_)
  refine Go_putR (pc := 8) (ws1 := ([(h0, .inr (7, [.ref q1, .null, .int 0, .null, .null, .int 0, .int 0, .int 0, .null, .null, .null, .null, .null, .int 0, .null, .null, .int 0, .int 0, .int 0, .int 0, .int 0, .null, .null]))] ++ [(q1, .inl (K.2.1, 3, .inl (fun _ => 0)))])) C hin 0 0 tyX7 tyX7_ok nmX7 rfl rfl inX7 (by decide) mw_629 rfl rfl rfl rfl (Nat.le_of_ble_eq_true rfl) dX7_init_8 rfl ?_
  refine Go_aload_n (pc := 11) C dX7_init_11 rfl ?_
  refine Go_bipush (pc := 12) (v := 96) C dX7_init_12 cb_96 ?_
  refine Go_newa (pc := 14) (N := 96) C hA (by decide) (by decide) (Nat.le_of_ble_eq_true rfl) (Nat.le_of_ble_eq_true rfl) (Nat.le_of_ble_eq_true rfl) dX7_init_14 (fun q2 => ?_)
  refine Go_dup (pc := 16) C dX7_init_16 rfl ?_
  refine Go_iconst (pc := 17) (v := 0) C dX7_init_17 ci_0 ?_
  refine Go_iconst (pc := 18) (v := 1) C dX7_init_18 ci_1 ?_
  refine Go_iastF (pc := 19) (f1 := onf 1) (ws1 := (([(h0, .inr (7, [.ref q1, .null, .int 0, .null, .null, .int 0, .int 0, .int 0, .null, .null, .null, .null, .null, .int 0, .null, .null, .int 0, .int 0, .int 0, .int 0, .int 0, .null, .null]))] ++ [(q1, .inl (K.2.1, 3, .inl (fun _ => 0)))]) ++ [(q2, .inl (K.2.1, 96, .inl (onf 1)))])) C 2 rfl (inb_in ⟨by decide, by decide⟩) dX7_init_19 (onf_0) rfl ?_
  refine Go_dup (pc := 20) C dX7_init_20 rfl ?_
  refine Go_iconst (pc := 21) (v := 1) C dX7_init_21 ci_1 ?_
  refine Go_iconst (pc := 22) (v := 1) C dX7_init_22 ci_1 ?_
  refine Go_iastF (pc := 23) (f1 := onf 2) (ws1 := (([(h0, .inr (7, [.ref q1, .null, .int 0, .null, .null, .int 0, .int 0, .int 0, .null, .null, .null, .null, .null, .int 0, .null, .null, .int 0, .int 0, .int 0, .int 0, .int 0, .null, .null]))] ++ [(q1, .inl (K.2.1, 3, .inl (fun _ => 0)))]) ++ [(q2, .inl (K.2.1, 96, .inl (onf 2)))])) C 2 rfl (inb_in ⟨by decide, by decide⟩) dX7_init_23 (onf_s 1 1 (by decide)) rfl ?_
  refine Go_dup (pc := 24) C dX7_init_24 rfl ?_
  refine Go_iconst (pc := 25) (v := 2) C dX7_init_25 ci_2 ?_
  refine Go_iconst (pc := 26) (v := 1) C dX7_init_26 ci_1 ?_
  refine Go_iastF (pc := 27) (f1 := onf 3) (ws1 := (([(h0, .inr (7, [.ref q1, .null, .int 0, .null, .null, .int 0, .int 0, .int 0, .null, .null, .null, .null, .null, .int 0, .null, .null, .int 0, .int 0, .int 0, .int 0, .int 0, .null, .null]))] ++ [(q1, .inl (K.2.1, 3, .inl (fun _ => 0)))]) ++ [(q2, .inl (K.2.1, 96, .inl (onf 3)))])) C 2 rfl (inb_in ⟨by decide, by decide⟩) dX7_init_27 (onf_s 2 2 (by decide)) rfl ?_
  refine Go_dup (pc := 28) C dX7_init_28 rfl ?_
  refine Go_iconst (pc := 29) (v := 3) C dX7_init_29 ci_3 ?_
  refine Go_iconst (pc := 30) (v := 1) C dX7_init_30 ci_1 ?_
  refine Go_iastF (pc := 31) (f1 := onf 4) (ws1 := (([(h0, .inr (7, [.ref q1, .null, .int 0, .null, .null, .int 0, .int 0, .int 0, .null, .null, .null, .null, .null, .int 0, .null, .null, .int 0, .int 0, .int 0, .int 0, .int 0, .null, .null]))] ++ [(q1, .inl (K.2.1, 3, .inl (fun _ => 0)))]) ++ [(q2, .inl (K.2.1, 96, .inl (onf 4)))])) C 2 rfl (inb_in ⟨by decide, by decide⟩) dX7_init_31 (onf_s 3 3 (by decide)) rfl ?_
  refine Go_dup (pc := 32) C dX7_init_32 rfl ?_
  refine Go_iconst (pc := 33) (v := 4) C dX7_init_33 ci_4 ?_
  refine Go_iconst (pc := 34) (v := 1) C dX7_init_34 ci_1 ?_
  refine Go_iastF (pc := 35) (f1 := onf 5) (ws1 := (([(h0, .inr (7, [.ref q1, .null, .int 0, .null, .null, .int 0, .int 0, .int 0, .null, .null, .null, .null, .null, .int 0, .null, .null, .int 0, .int 0, .int 0, .int 0, .int 0, .null, .null]))] ++ [(q1, .inl (K.2.1, 3, .inl (fun _ => 0)))]) ++ [(q2, .inl (K.2.1, 96, .inl (onf 5)))])) C 2 rfl (inb_in ⟨by decide, by decide⟩) dX7_init_35 (onf_s 4 4 (by decide)) rfl ?_
  refine Go_dup (pc := 36) C dX7_init_36 rfl ?_
  refine Go_iconst (pc := 37) (v := 5) C dX7_init_37 ci_5 ?_
  refine Go_iconst (pc := 38) (v := 1) C dX7_init_38 ci_1 ?_
  refine Go_iastF (pc := 39) (f1 := onf 6) (ws1 := (([(h0, .inr (7, [.ref q1, .null, .int 0, .null, .null, .int 0, .int 0, .int 0, .null, .null, .null, .null, .null, .int 0, .null, .null, .int 0, .int 0, .int 0, .int 0, .int 0, .null, .null]))] ++ [(q1, .inl (K.2.1, 3, .inl (fun _ => 0)))]) ++ [(q2, .inl (K.2.1, 96, .inl (onf 6)))])) C 2 rfl (inb_in ⟨by decide, by decide⟩) dX7_init_39 (onf_s 5 5 (by decide)) rfl ?_
  refine Go_dup (pc := 40) C dX7_init_40 rfl ?_
  refine Go_bipush (pc := 41) (v := 6) C dX7_init_41 cb_6 ?_
  refine Go_iconst (pc := 43) (v := 1) C dX7_init_43 ci_1 ?_
  refine Go_iastF (pc := 44) (f1 := onf 7) (ws1 := (([(h0, .inr (7, [.ref q1, .null, .int 0, .null, .null, .int 0, .int 0, .int 0, .null, .null, .null, .null, .null, .int 0, .null, .null, .int 0, .int 0, .int 0, .int 0, .int 0, .null, .null]))] ++ [(q1, .inl (K.2.1, 3, .inl (fun _ => 0)))]) ++ [(q2, .inl (K.2.1, 96, .inl (onf 7)))])) C 2 rfl (inb_in ⟨by decide, by decide⟩) dX7_init_44 (onf_s 6 6 (by decide)) rfl ?_
  refine Go_dup (pc := 45) C dX7_init_45 rfl ?_
  refine Go_bipush (pc := 46) (v := 7) C dX7_init_46 cb_7 ?_
  refine Go_iconst (pc := 48) (v := 1) C dX7_init_48 ci_1 ?_
  refine Go_iastF (pc := 49) (f1 := onf 8) (ws1 := (([(h0, .inr (7, [.ref q1, .null, .int 0, .null, .null, .int 0, .int 0, .int 0, .null, .null, .null, .null, .null, .int 0, .null, .null, .int 0, .int 0, .int 0, .int 0, .int 0, .null, .null]))] ++ [(q1, .inl (K.2.1, 3, .inl (fun _ => 0)))]) ++ [(q2, .inl (K.2.1, 96, .inl (onf 8)))])) C 2 rfl (inb_in ⟨by decide, by decide⟩) dX7_init_49 (onf_s 7 7 (by decide)) rfl ?_
  refine Go_dup (pc := 50) C dX7_init_50 rfl ?_
  refine Go_bipush (pc := 51) (v := 8) C dX7_init_51 cb_8 ?_
  refine Go_iconst (pc := 53) (v := 1) C dX7_init_53 ci_1 ?_
  refine Go_iastF (pc := 54) (f1 := onf 9) (ws1 := (([(h0, .inr (7, [.ref q1, .null, .int 0, .null, .null, .int 0, .int 0, .int 0, .null, .null, .null, .null, .null, .int 0, .null, .null, .int 0, .int 0, .int 0, .int 0, .int 0, .null, .null]))] ++ [(q1, .inl (K.2.1, 3, .inl (fun _ => 0)))]) ++ [(q2, .inl (K.2.1, 96, .inl (onf 9)))])) C 2 rfl (inb_in ⟨by decide, by decide⟩) dX7_init_54 (onf_s 8 8 (by decide)) rfl ?_
  refine Go_dup (pc := 55) C dX7_init_55 rfl ?_
  refine Go_bipush (pc := 56) (v := 9) C dX7_init_56 cb_9 ?_
  refine Go_iconst (pc := 58) (v := 1) C dX7_init_58 ci_1 ?_
  refine Go_iastF (pc := 59) (f1 := onf 10) (ws1 := (([(h0, .inr (7, [.ref q1, .null, .int 0, .null, .null, .int 0, .int 0, .int 0, .null, .null, .null, .null, .null, .int 0, .null, .null, .int 0, .int 0, .int 0, .int 0, .int 0, .null, .null]))] ++ [(q1, .inl (K.2.1, 3, .inl (fun _ => 0)))]) ++ [(q2, .inl (K.2.1, 96, .inl (onf 10)))])) C 2 rfl (inb_in ⟨by decide, by decide⟩) dX7_init_59 (onf_s 9 9 (by decide)) rfl ?_
  refine Go_dup (pc := 60) C dX7_init_60 rfl ?_
  refine Go_bipush (pc := 61) (v := 10) C dX7_init_61 cb_10 ?_
  refine Go_iconst (pc := 63) (v := 1) C dX7_init_63 ci_1 ?_
  refine Go_iastF (pc := 64) (f1 := onf 11) (ws1 := (([(h0, .inr (7, [.ref q1, .null, .int 0, .null, .null, .int 0, .int 0, .int 0, .null, .null, .null, .null, .null, .int 0, .null, .null, .int 0, .int 0, .int 0, .int 0, .int 0, .null, .null]))] ++ [(q1, .inl (K.2.1, 3, .inl (fun _ => 0)))]) ++ [(q2, .inl (K.2.1, 96, .inl (onf 11)))])) C 2 rfl (inb_in ⟨by decide, by decide⟩) dX7_init_64 (onf_s 10 10 (by decide)) rfl ?_
  refine Go_dup (pc := 65) C dX7_init_65 rfl ?_
  refine Go_bipush (pc := 66) (v := 11) C dX7_init_66 cb_11 ?_
  refine Go_iconst (pc := 68) (v := 1) C dX7_init_68 ci_1 ?_
  refine Go_iastF (pc := 69) (f1 := onf 12) (ws1 := (([(h0, .inr (7, [.ref q1, .null, .int 0, .null, .null, .int 0, .int 0, .int 0, .null, .null, .null, .null, .null, .int 0, .null, .null, .int 0, .int 0, .int 0, .int 0, .int 0, .null, .null]))] ++ [(q1, .inl (K.2.1, 3, .inl (fun _ => 0)))]) ++ [(q2, .inl (K.2.1, 96, .inl (onf 12)))])) C 2 rfl (inb_in ⟨by decide, by decide⟩) dX7_init_69 (onf_s 11 11 (by decide)) rfl ?_
  refine Go_dup (pc := 70) C dX7_init_70 rfl ?_
  refine Go_bipush (pc := 71) (v := 12) C dX7_init_71 cb_12 ?_
  refine Go_iconst (pc := 73) (v := 1) C dX7_init_73 ci_1 ?_
  refine Go_iastF (pc := 74) (f1 := onf 13) (ws1 := (([(h0, .inr (7, [.ref q1, .null, .int 0, .null, .null, .int 0, .int 0, .int 0, .null, .null, .null, .null, .null, .int 0, .null, .null, .int 0, .int 0, .int 0, .int 0, .int 0, .null, .null]))] ++ [(q1, .inl (K.2.1, 3, .inl (fun _ => 0)))]) ++ [(q2, .inl (K.2.1, 96, .inl (onf 13)))])) C 2 rfl (inb_in ⟨by decide, by decide⟩) dX7_init_74 (onf_s 12 12 (by decide)) rfl ?_
  refine Go_dup (pc := 75) C dX7_init_75 rfl ?_
  refine Go_bipush (pc := 76) (v := 13) C dX7_init_76 cb_13 ?_
  refine Go_iconst (pc := 78) (v := 1) C dX7_init_78 ci_1 ?_
  refine Go_iastF (pc := 79) (f1 := onf 14) (ws1 := (([(h0, .inr (7, [.ref q1, .null, .int 0, .null, .null, .int 0, .int 0, .int 0, .null, .null, .null, .null, .null, .int 0, .null, .null, .int 0, .int 0, .int 0, .int 0, .int 0, .null, .null]))] ++ [(q1, .inl (K.2.1, 3, .inl (fun _ => 0)))]) ++ [(q2, .inl (K.2.1, 96, .inl (onf 14)))])) C 2 rfl (inb_in ⟨by decide, by decide⟩) dX7_init_79 (onf_s 13 13 (by decide)) rfl ?_
  refine Go_dup (pc := 80) C dX7_init_80 rfl ?_
  refine Go_bipush (pc := 81) (v := 14) C dX7_init_81 cb_14 ?_
  refine Go_iconst (pc := 83) (v := 1) C dX7_init_83 ci_1 ?_
  refine Go_iastF (pc := 84) (f1 := onf 15) (ws1 := (([(h0, .inr (7, [.ref q1, .null, .int 0, .null, .null, .int 0, .int 0, .int 0, .null, .null, .null, .null, .null, .int 0, .null, .null, .int 0, .int 0, .int 0, .int 0, .int 0, .null, .null]))] ++ [(q1, .inl (K.2.1, 3, .inl (fun _ => 0)))]) ++ [(q2, .inl (K.2.1, 96, .inl (onf 15)))])) C 2 rfl (inb_in ⟨by decide, by decide⟩) dX7_init_84 (onf_s 14 14 (by decide)) rfl ?_
  refine Go_dup (pc := 85) C dX7_init_85 rfl ?_
  refine Go_bipush (pc := 86) (v := 15) C dX7_init_86 cb_15 ?_
  refine Go_iconst (pc := 88) (v := 1) C dX7_init_88 ci_1 ?_
  refine Go_iastF (pc := 89) (f1 := onf 16) (ws1 := (([(h0, .inr (7, [.ref q1, .null, .int 0, .null, .null, .int 0, .int 0, .int 0, .null, .null, .null, .null, .null, .int 0, .null, .null, .int 0, .int 0, .int 0, .int 0, .int 0, .null, .null]))] ++ [(q1, .inl (K.2.1, 3, .inl (fun _ => 0)))]) ++ [(q2, .inl (K.2.1, 96, .inl (onf 16)))])) C 2 rfl (inb_in ⟨by decide, by decide⟩) dX7_init_89 (onf_s 15 15 (by decide)) rfl ?_
  refine Go_dup (pc := 90) C dX7_init_90 rfl ?_
  refine Go_bipush (pc := 91) (v := 16) C dX7_init_91 cb_16 ?_
  refine Go_iconst (pc := 93) (v := 1) C dX7_init_93 ci_1 ?_
  refine Go_iastF (pc := 94) (f1 := onf 17) (ws1 := (([(h0, .inr (7, [.ref q1, .null, .int 0, .null, .null, .int 0, .int 0, .int 0, .null, .null, .null, .null, .null, .int 0, .null, .null, .int 0, .int 0, .int 0, .int 0, .int 0, .null, .null]))] ++ [(q1, .inl (K.2.1, 3, .inl (fun _ => 0)))]) ++ [(q2, .inl (K.2.1, 96, .inl (onf 17)))])) C 2 rfl (inb_in ⟨by decide, by decide⟩) dX7_init_94 (onf_s 16 16 (by decide)) rfl ?_
  refine Go_dup (pc := 95) C dX7_init_95 rfl ?_
  refine Go_bipush (pc := 96) (v := 17) C dX7_init_96 cb_17 ?_
  refine Go_iconst (pc := 98) (v := 1) C dX7_init_98 ci_1 ?_
  refine Go_iastF (pc := 99) (f1 := onf 18) (ws1 := (([(h0, .inr (7, [.ref q1, .null, .int 0, .null, .null, .int 0, .int 0, .int 0, .null, .null, .null, .null, .null, .int 0, .null, .null, .int 0, .int 0, .int 0, .int 0, .int 0, .null, .null]))] ++ [(q1, .inl (K.2.1, 3, .inl (fun _ => 0)))]) ++ [(q2, .inl (K.2.1, 96, .inl (onf 18)))])) C 2 rfl (inb_in ⟨by decide, by decide⟩) dX7_init_99 (onf_s 17 17 (by decide)) rfl ?_
  refine Go_dup (pc := 100) C dX7_init_100 rfl ?_
  refine Go_bipush (pc := 101) (v := 18) C dX7_init_101 cb_18 ?_
  refine Go_iconst (pc := 103) (v := 1) C dX7_init_103 ci_1 ?_
  refine Go_iastF (pc := 104) (f1 := onf 19) (ws1 := (([(h0, .inr (7, [.ref q1, .null, .int 0, .null, .null, .int 0, .int 0, .int 0, .null, .null, .null, .null, .null, .int 0, .null, .null, .int 0, .int 0, .int 0, .int 0, .int 0, .null, .null]))] ++ [(q1, .inl (K.2.1, 3, .inl (fun _ => 0)))]) ++ [(q2, .inl (K.2.1, 96, .inl (onf 19)))])) C 2 rfl (inb_in ⟨by decide, by decide⟩) dX7_init_104 (onf_s 18 18 (by decide)) rfl ?_
  refine Go_dup (pc := 105) C dX7_init_105 rfl ?_
  refine Go_bipush (pc := 106) (v := 19) C dX7_init_106 cb_19 ?_
  refine Go_iconst (pc := 108) (v := 1) C dX7_init_108 ci_1 ?_
  refine Go_iastF (pc := 109) (f1 := onf 20) (ws1 := (([(h0, .inr (7, [.ref q1, .null, .int 0, .null, .null, .int 0, .int 0, .int 0, .null, .null, .null, .null, .null, .int 0, .null, .null, .int 0, .int 0, .int 0, .int 0, .int 0, .null, .null]))] ++ [(q1, .inl (K.2.1, 3, .inl (fun _ => 0)))]) ++ [(q2, .inl (K.2.1, 96, .inl (onf 20)))])) C 2 rfl (inb_in ⟨by decide, by decide⟩) dX7_init_109 (onf_s 19 19 (by decide)) rfl ?_
  refine Go_dup (pc := 110) C dX7_init_110 rfl ?_
  refine Go_bipush (pc := 111) (v := 20) C dX7_init_111 cb_20 ?_
  refine Go_iconst (pc := 113) (v := 1) C dX7_init_113 ci_1 ?_
  refine Go_iastF (pc := 114) (f1 := onf 21) (ws1 := (([(h0, .inr (7, [.ref q1, .null, .int 0, .null, .null, .int 0, .int 0, .int 0, .null, .null, .null, .null, .null, .int 0, .null, .null, .int 0, .int 0, .int 0, .int 0, .int 0, .null, .null]))] ++ [(q1, .inl (K.2.1, 3, .inl (fun _ => 0)))]) ++ [(q2, .inl (K.2.1, 96, .inl (onf 21)))])) C 2 rfl (inb_in ⟨by decide, by decide⟩) dX7_init_114 (onf_s 20 20 (by decide)) rfl ?_
  refine Go_dup (pc := 115) C dX7_init_115 rfl ?_
  refine Go_bipush (pc := 116) (v := 21) C dX7_init_116 cb_21 ?_
  refine Go_iconst (pc := 118) (v := 1) C dX7_init_118 ci_1 ?_
  refine Go_iastF (pc := 119) (f1 := onf 22) (ws1 := (([(h0, .inr (7, [.ref q1, .null, .int 0, .null, .null, .int 0, .int 0, .int 0, .null, .null, .null, .null, .null, .int 0, .null, .null, .int 0, .int 0, .int 0, .int 0, .int 0, .null, .null]))] ++ [(q1, .inl (K.2.1, 3, .inl (fun _ => 0)))]) ++ [(q2, .inl (K.2.1, 96, .inl (onf 22)))])) C 2 rfl (inb_in ⟨by decide, by decide⟩) dX7_init_119 (onf_s 21 21 (by decide)) rfl ?_
  refine Go_dup (pc := 120) C dX7_init_120 rfl ?_
  refine Go_bipush (pc := 121) (v := 22) C dX7_init_121 cb_22 ?_
  refine Go_iconst (pc := 123) (v := 1) C dX7_init_123 ci_1 ?_
  refine Go_iastF (pc := 124) (f1 := onf 23) (ws1 := (([(h0, .inr (7, [.ref q1, .null, .int 0, .null, .null, .int 0, .int 0, .int 0, .null, .null, .null, .null, .null, .int 0, .null, .null, .int 0, .int 0, .int 0, .int 0, .int 0, .null, .null]))] ++ [(q1, .inl (K.2.1, 3, .inl (fun _ => 0)))]) ++ [(q2, .inl (K.2.1, 96, .inl (onf 23)))])) C 2 rfl (inb_in ⟨by decide, by decide⟩) dX7_init_124 (onf_s 22 22 (by decide)) rfl ?_
  refine Go_dup (pc := 125) C dX7_init_125 rfl ?_
  refine Go_bipush (pc := 126) (v := 23) C dX7_init_126 cb_23 ?_
  refine Go_iconst (pc := 128) (v := 1) C dX7_init_128 ci_1 ?_
  refine Go_iastF (pc := 129) (f1 := onf 24) (ws1 := (([(h0, .inr (7, [.ref q1, .null, .int 0, .null, .null, .int 0, .int 0, .int 0, .null, .null, .null, .null, .null, .int 0, .null, .null, .int 0, .int 0, .int 0, .int 0, .int 0, .null, .null]))] ++ [(q1, .inl (K.2.1, 3, .inl (fun _ => 0)))]) ++ [(q2, .inl (K.2.1, 96, .inl (onf 24)))])) C 2 rfl (inb_in ⟨by decide, by decide⟩) dX7_init_129 (onf_s 23 23 (by decide)) rfl ?_
  refine Go_dup (pc := 130) C dX7_init_130 rfl ?_
  refine Go_bipush (pc := 131) (v := 24) C dX7_init_131 cb_24 ?_
  refine Go_iconst (pc := 133) (v := 1) C dX7_init_133 ci_1 ?_
  refine Go_iastF (pc := 134) (f1 := onf 25) (ws1 := (([(h0, .inr (7, [.ref q1, .null, .int 0, .null, .null, .int 0, .int 0, .int 0, .null, .null, .null, .null, .null, .int 0, .null, .null, .int 0, .int 0, .int 0, .int 0, .int 0, .null, .null]))] ++ [(q1, .inl (K.2.1, 3, .inl (fun _ => 0)))]) ++ [(q2, .inl (K.2.1, 96, .inl (onf 25)))])) C 2 rfl (inb_in ⟨by decide, by decide⟩) dX7_init_134 (onf_s 24 24 (by decide)) rfl ?_
  refine Go_dup (pc := 135) C dX7_init_135 rfl ?_
  refine Go_bipush (pc := 136) (v := 25) C dX7_init_136 cb_25 ?_
  refine Go_iconst (pc := 138) (v := 1) C dX7_init_138 ci_1 ?_
  refine Go_iastF (pc := 139) (f1 := onf 26) (ws1 := (([(h0, .inr (7, [.ref q1, .null, .int 0, .null, .null, .int 0, .int 0, .int 0, .null, .null, .null, .null, .null, .int 0, .null, .null, .int 0, .int 0, .int 0, .int 0, .int 0, .null, .null]))] ++ [(q1, .inl (K.2.1, 3, .inl (fun _ => 0)))]) ++ [(q2, .inl (K.2.1, 96, .inl (onf 26)))])) C 2 rfl (inb_in ⟨by decide, by decide⟩) dX7_init_139 (onf_s 25 25 (by decide)) rfl ?_
  refine Go_dup (pc := 140) C dX7_init_140 rfl ?_
  refine Go_bipush (pc := 141) (v := 26) C dX7_init_141 cb_26 ?_
  refine Go_iconst (pc := 143) (v := 1) C dX7_init_143 ci_1 ?_
  refine Go_iastF (pc := 144) (f1 := onf 27) (ws1 := (([(h0, .inr (7, [.ref q1, .null, .int 0, .null, .null, .int 0, .int 0, .int 0, .null, .null, .null, .null, .null, .int 0, .null, .null, .int 0, .int 0, .int 0, .int 0, .int 0, .null, .null]))] ++ [(q1, .inl (K.2.1, 3, .inl (fun _ => 0)))]) ++ [(q2, .inl (K.2.1, 96, .inl (onf 27)))])) C 2 rfl (inb_in ⟨by decide, by decide⟩) dX7_init_144 (onf_s 26 26 (by decide)) rfl ?_
  refine Go_dup (pc := 145) C dX7_init_145 rfl ?_
  refine Go_bipush (pc := 146) (v := 27) C dX7_init_146 cb_27 ?_
  refine Go_iconst (pc := 148) (v := 1) C dX7_init_148 ci_1 ?_
  refine Go_iastF (pc := 149) (f1 := onf 28) (ws1 := (([(h0, .inr (7, [.ref q1, .null, .int 0, .null, .null, .int 0, .int 0, .int 0, .null, .null, .null, .null, .null, .int 0, .null, .null, .int 0, .int 0, .int 0, .int 0, .int 0, .null, .null]))] ++ [(q1, .inl (K.2.1, 3, .inl (fun _ => 0)))]) ++ [(q2, .inl (K.2.1, 96, .inl (onf 28)))])) C 2 rfl (inb_in ⟨by decide, by decide⟩) dX7_init_149 (onf_s 27 27 (by decide)) rfl ?_
  refine Go_dup (pc := 150) C dX7_init_150 rfl ?_
  refine Go_bipush (pc := 151) (v := 28) C dX7_init_151 cb_28 ?_
  refine Go_iconst (pc := 153) (v := 1) C dX7_init_153 ci_1 ?_
  refine Go_iastF (pc := 154) (f1 := onf 29) (ws1 := (([(h0, .inr (7, [.ref q1, .null, .int 0, .null, .null, .int 0, .int 0, .int 0, .null, .null, .null, .null, .null, .int 0, .null, .null, .int 0, .int 0, .int 0, .int 0, .int 0, .null, .null]))] ++ [(q1, .inl (K.2.1, 3, .inl (fun _ => 0)))]) ++ [(q2, .inl (K.2.1, 96, .inl (onf 29)))])) C 2 rfl (inb_in ⟨by decide, by decide⟩) dX7_init_154 (onf_s 28 28 (by decide)) rfl ?_
  refine Go_dup (pc := 155) C dX7_init_155 rfl ?_
  refine Go_bipush (pc := 156) (v := 29) C dX7_init_156 cb_29 ?_
  refine Go_iconst (pc := 158) (v := 1) C dX7_init_158 ci_1 ?_
  refine Go_iastF (pc := 159) (f1 := onf 30) (ws1 := (([(h0, .inr (7, [.ref q1, .null, .int 0, .null, .null, .int 0, .int 0, .int 0, .null, .null, .null, .null, .null, .int 0, .null, .null, .int 0, .int 0, .int 0, .int 0, .int 0, .null, .null]))] ++ [(q1, .inl (K.2.1, 3, .inl (fun _ => 0)))]) ++ [(q2, .inl (K.2.1, 96, .inl (onf 30)))])) C 2 rfl (inb_in ⟨by decide, by decide⟩) dX7_init_159 (onf_s 29 29 (by decide)) rfl ?_
  refine Go_dup (pc := 160) C dX7_init_160 rfl ?_
  refine Go_bipush (pc := 161) (v := 30) C dX7_init_161 cb_30 ?_
  refine Go_iconst (pc := 163) (v := 1) C dX7_init_163 ci_1 ?_
  refine Go_iastF (pc := 164) (f1 := onf 31) (ws1 := (([(h0, .inr (7, [.ref q1, .null, .int 0, .null, .null, .int 0, .int 0, .int 0, .null, .null, .null, .null, .null, .int 0, .null, .null, .int 0, .int 0, .int 0, .int 0, .int 0, .null, .null]))] ++ [(q1, .inl (K.2.1, 3, .inl (fun _ => 0)))]) ++ [(q2, .inl (K.2.1, 96, .inl (onf 31)))])) C 2 rfl (inb_in ⟨by decide, by decide⟩) dX7_init_164 (onf_s 30 30 (by decide)) rfl ?_
  refine Go_dup (pc := 165) C dX7_init_165 rfl ?_
  refine Go_bipush (pc := 166) (v := 31) C dX7_init_166 cb_31 ?_
  refine Go_iconst (pc := 168) (v := 1) C dX7_init_168 ci_1 ?_
  refine Go_iastF (pc := 169) (f1 := onf 32) (ws1 := (([(h0, .inr (7, [.ref q1, .null, .int 0, .null, .null, .int 0, .int 0, .int 0, .null, .null, .null, .null, .null, .int 0, .null, .null, .int 0, .int 0, .int 0, .int 0, .int 0, .null, .null]))] ++ [(q1, .inl (K.2.1, 3, .inl (fun _ => 0)))]) ++ [(q2, .inl (K.2.1, 96, .inl (onf 32)))])) C 2 rfl (inb_in ⟨by decide, by decide⟩) dX7_init_169 (onf_s 31 31 (by decide)) rfl ?_
  refine Go_dup (pc := 170) C dX7_init_170 rfl ?_
  refine Go_bipush (pc := 171) (v := 32) C dX7_init_171 cb_32 ?_
  refine Go_iconst (pc := 173) (v := 1) C dX7_init_173 ci_1 ?_
  refine Go_iastF (pc := 174) (f1 := onf 33) (ws1 := (([(h0, .inr (7, [.ref q1, .null, .int 0, .null, .null, .int 0, .int 0, .int 0, .null, .null, .null, .null, .null, .int 0, .null, .null, .int 0, .int 0, .int 0, .int 0, .int 0, .null, .null]))] ++ [(q1, .inl (K.2.1, 3, .inl (fun _ => 0)))]) ++ [(q2, .inl (K.2.1, 96, .inl (onf 33)))])) C 2 rfl (inb_in ⟨by decide, by decide⟩) dX7_init_174 (onf_s 32 32 (by decide)) rfl ?_
  refine Go_dup (pc := 175) C dX7_init_175 rfl ?_
  refine Go_bipush (pc := 176) (v := 33) C dX7_init_176 cb_33 ?_
  refine Go_iconst (pc := 178) (v := 1) C dX7_init_178 ci_1 ?_
  refine Go_iastF (pc := 179) (f1 := onf 34) (ws1 := (([(h0, .inr (7, [.ref q1, .null, .int 0, .null, .null, .int 0, .int 0, .int 0, .null, .null, .null, .null, .null, .int 0, .null, .null, .int 0, .int 0, .int 0, .int 0, .int 0, .null, .null]))] ++ [(q1, .inl (K.2.1, 3, .inl (fun _ => 0)))]) ++ [(q2, .inl (K.2.1, 96, .inl (onf 34)))])) C 2 rfl (inb_in ⟨by decide, by decide⟩) dX7_init_179 (onf_s 33 33 (by decide)) rfl ?_
  refine Go_dup (pc := 180) C dX7_init_180 rfl ?_
  refine Go_bipush (pc := 181) (v := 34) C dX7_init_181 cb_34 ?_
  refine Go_iconst (pc := 183) (v := 1) C dX7_init_183 ci_1 ?_
  refine Go_iastF (pc := 184) (f1 := onf 35) (ws1 := (([(h0, .inr (7, [.ref q1, .null, .int 0, .null, .null, .int 0, .int 0, .int 0, .null, .null, .null, .null, .null, .int 0, .null, .null, .int 0, .int 0, .int 0, .int 0, .int 0, .null, .null]))] ++ [(q1, .inl (K.2.1, 3, .inl (fun _ => 0)))]) ++ [(q2, .inl (K.2.1, 96, .inl (onf 35)))])) C 2 rfl (inb_in ⟨by decide, by decide⟩) dX7_init_184 (onf_s 34 34 (by decide)) rfl ?_
  refine Go_dup (pc := 185) C dX7_init_185 rfl ?_
  refine Go_bipush (pc := 186) (v := 35) C dX7_init_186 cb_35 ?_
  refine Go_iconst (pc := 188) (v := 1) C dX7_init_188 ci_1 ?_
  refine Go_iastF (pc := 189) (f1 := onf 36) (ws1 := (([(h0, .inr (7, [.ref q1, .null, .int 0, .null, .null, .int 0, .int 0, .int 0, .null, .null, .null, .null, .null, .int 0, .null, .null, .int 0, .int 0, .int 0, .int 0, .int 0, .null, .null]))] ++ [(q1, .inl (K.2.1, 3, .inl (fun _ => 0)))]) ++ [(q2, .inl (K.2.1, 96, .inl (onf 36)))])) C 2 rfl (inb_in ⟨by decide, by decide⟩) dX7_init_189 (onf_s 35 35 (by decide)) rfl ?_
  refine Go_dup (pc := 190) C dX7_init_190 rfl ?_
  refine Go_bipush (pc := 191) (v := 36) C dX7_init_191 cb_36 ?_
  refine Go_iconst (pc := 193) (v := 1) C dX7_init_193 ci_1 ?_
  refine Go_iastF (pc := 194) (f1 := onf 37) (ws1 := (([(h0, .inr (7, [.ref q1, .null, .int 0, .null, .null, .int 0, .int 0, .int 0, .null, .null, .null, .null, .null, .int 0, .null, .null, .int 0, .int 0, .int 0, .int 0, .int 0, .null, .null]))] ++ [(q1, .inl (K.2.1, 3, .inl (fun _ => 0)))]) ++ [(q2, .inl (K.2.1, 96, .inl (onf 37)))])) C 2 rfl (inb_in ⟨by decide, by decide⟩) dX7_init_194 (onf_s 36 36 (by decide)) rfl ?_
  refine Go_dup (pc := 195) C dX7_init_195 rfl ?_
  refine Go_bipush (pc := 196) (v := 37) C dX7_init_196 cb_37 ?_
  refine Go_iconst (pc := 198) (v := 1) C dX7_init_198 ci_1 ?_
  refine Go_iastF (pc := 199) (f1 := onf 38) (ws1 := (([(h0, .inr (7, [.ref q1, .null, .int 0, .null, .null, .int 0, .int 0, .int 0, .null, .null, .null, .null, .null, .int 0, .null, .null, .int 0, .int 0, .int 0, .int 0, .int 0, .null, .null]))] ++ [(q1, .inl (K.2.1, 3, .inl (fun _ => 0)))]) ++ [(q2, .inl (K.2.1, 96, .inl (onf 38)))])) C 2 rfl (inb_in ⟨by decide, by decide⟩) dX7_init_199 (onf_s 37 37 (by decide)) rfl ?_
  refine Go_dup (pc := 200) C dX7_init_200 rfl ?_
  refine Go_bipush (pc := 201) (v := 38) C dX7_init_201 cb_38 ?_
  refine Go_iconst (pc := 203) (v := 1) C dX7_init_203 ci_1 ?_
  refine Go_iastF (pc := 204) (f1 := onf 39) (ws1 := (([(h0, .inr (7, [.ref q1, .null, .int 0, .null, .null, .int 0, .int 0, .int 0, .null, .null, .null, .null, .null, .int 0, .null, .null, .int 0, .int 0, .int 0, .int 0, .int 0, .null, .null]))] ++ [(q1, .inl (K.2.1, 3, .inl (fun _ => 0)))]) ++ [(q2, .inl (K.2.1, 96, .inl (onf 39)))])) C 2 rfl (inb_in ⟨by decide, by decide⟩) dX7_init_204 (onf_s 38 38 (by decide)) rfl ?_
  refine Go_dup (pc := 205) C dX7_init_205 rfl ?_
  refine Go_bipush (pc := 206) (v := 39) C dX7_init_206 cb_39 ?_
  refine Go_iconst (pc := 208) (v := 1) C dX7_init_208 ci_1 ?_
  refine Go_iastF (pc := 209) (f1 := onf 40) (ws1 := (([(h0, .inr (7, [.ref q1, .null, .int 0, .null, .null, .int 0, .int 0, .int 0, .null, .null, .null, .null, .null, .int 0, .null, .null, .int 0, .int 0, .int 0, .int 0, .int 0, .null, .null]))] ++ [(q1, .inl (K.2.1, 3, .inl (fun _ => 0)))]) ++ [(q2, .inl (K.2.1, 96, .inl (onf 40)))])) C 2 rfl (inb_in ⟨by decide, by decide⟩) dX7_init_209 (onf_s 39 39 (by decide)) rfl ?_
  refine Go_dup (pc := 210) C dX7_init_210 rfl ?_
  refine Go_bipush (pc := 211) (v := 40) C dX7_init_211 cb_40 ?_
  refine Go_iconst (pc := 213) (v := 1) C dX7_init_213 ci_1 ?_
  refine Go_iastF (pc := 214) (f1 := onf 41) (ws1 := (([(h0, .inr (7, [.ref q1, .null, .int 0, .null, .null, .int 0, .int 0, .int 0, .null, .null, .null, .null, .null, .int 0, .null, .null, .int 0, .int 0, .int 0, .int 0, .int 0, .null, .null]))] ++ [(q1, .inl (K.2.1, 3, .inl (fun _ => 0)))]) ++ [(q2, .inl (K.2.1, 96, .inl (onf 41)))])) C 2 rfl (inb_in ⟨by decide, by decide⟩) dX7_init_214 (onf_s 40 40 (by decide)) rfl ?_
  refine Go_dup (pc := 215) C dX7_init_215 rfl ?_
  refine Go_bipush (pc := 216) (v := 41) C dX7_init_216 cb_41 ?_
  refine Go_iconst (pc := 218) (v := 1) C dX7_init_218 ci_1 ?_
  refine Go_iastF (pc := 219) (f1 := onf 42) (ws1 := (([(h0, .inr (7, [.ref q1, .null, .int 0, .null, .null, .int 0, .int 0, .int 0, .null, .null, .null, .null, .null, .int 0, .null, .null, .int 0, .int 0, .int 0, .int 0, .int 0, .null, .null]))] ++ [(q1, .inl (K.2.1, 3, .inl (fun _ => 0)))]) ++ [(q2, .inl (K.2.1, 96, .inl (onf 42)))])) C 2 rfl (inb_in ⟨by decide, by decide⟩) dX7_init_219 (onf_s 41 41 (by decide)) rfl ?_
  refine Go_dup (pc := 220) C dX7_init_220 rfl ?_
  refine Go_bipush (pc := 221) (v := 42) C dX7_init_221 cb_42 ?_
  refine Go_iconst (pc := 223) (v := 1) C dX7_init_223 ci_1 ?_
  refine Go_iastF (pc := 224) (f1 := onf 43) (ws1 := (([(h0, .inr (7, [.ref q1, .null, .int 0, .null, .null, .int 0, .int 0, .int 0, .null, .null, .null, .null, .null, .int 0, .null, .null, .int 0, .int 0, .int 0, .int 0, .int 0, .null, .null]))] ++ [(q1, .inl (K.2.1, 3, .inl (fun _ => 0)))]) ++ [(q2, .inl (K.2.1, 96, .inl (onf 43)))])) C 2 rfl (inb_in ⟨by decide, by decide⟩) dX7_init_224 (onf_s 42 42 (by decide)) rfl ?_
  refine Go_dup (pc := 225) C dX7_init_225 rfl ?_
  refine Go_bipush (pc := 226) (v := 43) C dX7_init_226 cb_43 ?_
  refine Go_iconst (pc := 228) (v := 1) C dX7_init_228 ci_1 ?_
  refine Go_iastF (pc := 229) (f1 := onf 44) (ws1 := (([(h0, .inr (7, [.ref q1, .null, .int 0, .null, .null, .int 0, .int 0, .int 0, .null, .null, .null, .null, .null, .int 0, .null, .null, .int 0, .int 0, .int 0, .int 0, .int 0, .null, .null]))] ++ [(q1, .inl (K.2.1, 3, .inl (fun _ => 0)))]) ++ [(q2, .inl (K.2.1, 96, .inl (onf 44)))])) C 2 rfl (inb_in ⟨by decide, by decide⟩) dX7_init_229 (onf_s 43 43 (by decide)) rfl ?_
  refine Go_dup (pc := 230) C dX7_init_230 rfl ?_
  refine Go_bipush (pc := 231) (v := 44) C dX7_init_231 cb_44 ?_
  refine Go_iconst (pc := 233) (v := 1) C dX7_init_233 ci_1 ?_
  refine Go_iastF (pc := 234) (f1 := onf 45) (ws1 := (([(h0, .inr (7, [.ref q1, .null, .int 0, .null, .null, .int 0, .int 0, .int 0, .null, .null, .null, .null, .null, .int 0, .null, .null, .int 0, .int 0, .int 0, .int 0, .int 0, .null, .null]))] ++ [(q1, .inl (K.2.1, 3, .inl (fun _ => 0)))]) ++ [(q2, .inl (K.2.1, 96, .inl (onf 45)))])) C 2 rfl (inb_in ⟨by decide, by decide⟩) dX7_init_234 (onf_s 44 44 (by decide)) rfl ?_
  refine Go_dup (pc := 235) C dX7_init_235 rfl ?_
  refine Go_bipush (pc := 236) (v := 45) C dX7_init_236 cb_45 ?_
  refine Go_iconst (pc := 238) (v := 1) C dX7_init_238 ci_1 ?_
  refine Go_iastF (pc := 239) (f1 := onf 46) (ws1 := (([(h0, .inr (7, [.ref q1, .null, .int 0, .null, .null, .int 0, .int 0, .int 0, .null, .null, .null, .null, .null, .int 0, .null, .null, .int 0, .int 0, .int 0, .int 0, .int 0, .null, .null]))] ++ [(q1, .inl (K.2.1, 3, .inl (fun _ => 0)))]) ++ [(q2, .inl (K.2.1, 96, .inl (onf 46)))])) C 2 rfl (inb_in ⟨by decide, by decide⟩) dX7_init_239 (onf_s 45 45 (by decide)) rfl ?_
  refine Go_dup (pc := 240) C dX7_init_240 rfl ?_
  refine Go_bipush (pc := 241) (v := 46) C dX7_init_241 cb_46 ?_
  refine Go_iconst (pc := 243) (v := 1) C dX7_init_243 ci_1 ?_
  refine Go_iastF (pc := 244) (f1 := onf 47) (ws1 := (([(h0, .inr (7, [.ref q1, .null, .int 0, .null, .null, .int 0, .int 0, .int 0, .null, .null, .null, .null, .null, .int 0, .null, .null, .int 0, .int 0, .int 0, .int 0, .int 0, .null, .null]))] ++ [(q1, .inl (K.2.1, 3, .inl (fun _ => 0)))]) ++ [(q2, .inl (K.2.1, 96, .inl (onf 47)))])) C 2 rfl (inb_in ⟨by decide, by decide⟩) dX7_init_244 (onf_s 46 46 (by decide)) rfl ?_
  refine Go_dup (pc := 245) C dX7_init_245 rfl ?_
  refine Go_bipush (pc := 246) (v := 47) C dX7_init_246 cb_47 ?_
  refine Go_iconst (pc := 248) (v := 1) C dX7_init_248 ci_1 ?_
  refine Go_iastF (pc := 249) (f1 := onf 48) (ws1 := (([(h0, .inr (7, [.ref q1, .null, .int 0, .null, .null, .int 0, .int 0, .int 0, .null, .null, .null, .null, .null, .int 0, .null, .null, .int 0, .int 0, .int 0, .int 0, .int 0, .null, .null]))] ++ [(q1, .inl (K.2.1, 3, .inl (fun _ => 0)))]) ++ [(q2, .inl (K.2.1, 96, .inl (onf 48)))])) C 2 rfl (inb_in ⟨by decide, by decide⟩) dX7_init_249 (onf_s 47 47 (by decide)) rfl ?_
  refine Go_dup (pc := 250) C dX7_init_250 rfl ?_
  refine Go_bipush (pc := 251) (v := 48) C dX7_init_251 cb_48 ?_
  refine Go_iconst (pc := 253) (v := 1) C dX7_init_253 ci_1 ?_
  refine Go_iastF (pc := 254) (f1 := onf 49) (ws1 := (([(h0, .inr (7, [.ref q1, .null, .int 0, .null, .null, .int 0, .int 0, .int 0, .null, .null, .null, .null, .null, .int 0, .null, .null, .int 0, .int 0, .int 0, .int 0, .int 0, .null, .null]))] ++ [(q1, .inl (K.2.1, 3, .inl (fun _ => 0)))]) ++ [(q2, .inl (K.2.1, 96, .inl (onf 49)))])) C 2 rfl (inb_in ⟨by decide, by decide⟩) dX7_init_254 (onf_s 48 48 (by decide)) rfl ?_
  refine Go_dup (pc := 255) C dX7_init_255 rfl ?_
  refine Go_bipush (pc := 256) (v := 49) C dX7_init_256 cb_49 ?_
  refine Go_iconst (pc := 258) (v := 1) C dX7_init_258 ci_1 ?_
  refine Go_iastF (pc := 259) (f1 := onf 50) (ws1 := (([(h0, .inr (7, [.ref q1, .null, .int 0, .null, .null, .int 0, .int 0, .int 0, .null, .null, .null, .null, .null, .int 0, .null, .null, .int 0, .int 0, .int 0, .int 0, .int 0, .null, .null]))] ++ [(q1, .inl (K.2.1, 3, .inl (fun _ => 0)))]) ++ [(q2, .inl (K.2.1, 96, .inl (onf 50)))])) C 2 rfl (inb_in ⟨by decide, by decide⟩) dX7_init_259 (onf_s 49 49 (by decide)) rfl ?_
  refine Go_dup (pc := 260) C dX7_init_260 rfl ?_
  refine Go_bipush (pc := 261) (v := 50) C dX7_init_261 cb_50 ?_
  refine Go_iconst (pc := 263) (v := 1) C dX7_init_263 ci_1 ?_
  refine Go_iastF (pc := 264) (f1 := onf 51) (ws1 := (([(h0, .inr (7, [.ref q1, .null, .int 0, .null, .null, .int 0, .int 0, .int 0, .null, .null, .null, .null, .null, .int 0, .null, .null, .int 0, .int 0, .int 0, .int 0, .int 0, .null, .null]))] ++ [(q1, .inl (K.2.1, 3, .inl (fun _ => 0)))]) ++ [(q2, .inl (K.2.1, 96, .inl (onf 51)))])) C 2 rfl (inb_in ⟨by decide, by decide⟩) dX7_init_264 (onf_s 50 50 (by decide)) rfl ?_
  refine Go_dup (pc := 265) C dX7_init_265 rfl ?_
  refine Go_bipush (pc := 266) (v := 51) C dX7_init_266 cb_51 ?_
  refine Go_iconst (pc := 268) (v := 1) C dX7_init_268 ci_1 ?_
  refine Go_iastF (pc := 269) (f1 := onf 52) (ws1 := (([(h0, .inr (7, [.ref q1, .null, .int 0, .null, .null, .int 0, .int 0, .int 0, .null, .null, .null, .null, .null, .int 0, .null, .null, .int 0, .int 0, .int 0, .int 0, .int 0, .null, .null]))] ++ [(q1, .inl (K.2.1, 3, .inl (fun _ => 0)))]) ++ [(q2, .inl (K.2.1, 96, .inl (onf 52)))])) C 2 rfl (inb_in ⟨by decide, by decide⟩) dX7_init_269 (onf_s 51 51 (by decide)) rfl ?_
  refine Go_dup (pc := 270) C dX7_init_270 rfl ?_
  refine Go_bipush (pc := 271) (v := 52) C dX7_init_271 cb_52 ?_
  refine Go_iconst (pc := 273) (v := 1) C dX7_init_273 ci_1 ?_
  refine Go_iastF (pc := 274) (f1 := onf 53) (ws1 := (([(h0, .inr (7, [.ref q1, .null, .int 0, .null, .null, .int 0, .int 0, .int 0, .null, .null, .null, .null, .null, .int 0, .null, .null, .int 0, .int 0, .int 0, .int 0, .int 0, .null, .null]))] ++ [(q1, .inl (K.2.1, 3, .inl (fun _ => 0)))]) ++ [(q2, .inl (K.2.1, 96, .inl (onf 53)))])) C 2 rfl (inb_in ⟨by decide, by decide⟩) dX7_init_274 (onf_s 52 52 (by decide)) rfl ?_
  refine Go_dup (pc := 275) C dX7_init_275 rfl ?_
  refine Go_bipush (pc := 276) (v := 53) C dX7_init_276 cb_53 ?_
  refine Go_iconst (pc := 278) (v := 1) C dX7_init_278 ci_1 ?_
  refine Go_iastF (pc := 279) (f1 := onf 54) (ws1 := (([(h0, .inr (7, [.ref q1, .null, .int 0, .null, .null, .int 0, .int 0, .int 0, .null, .null, .null, .null, .null, .int 0, .null, .null, .int 0, .int 0, .int 0, .int 0, .int 0, .null, .null]))] ++ [(q1, .inl (K.2.1, 3, .inl (fun _ => 0)))]) ++ [(q2, .inl (K.2.1, 96, .inl (onf 54)))])) C 2 rfl (inb_in ⟨by decide, by decide⟩) dX7_init_279 (onf_s 53 53 (by decide)) rfl ?_
  refine Go_dup (pc := 280) C dX7_init_280 rfl ?_
  refine Go_bipush (pc := 281) (v := 54) C dX7_init_281 cb_54 ?_
  refine Go_iconst (pc := 283) (v := 1) C dX7_init_283 ci_1 ?_
  refine Go_iastF (pc := 284) (f1 := onf 55) (ws1 := (([(h0, .inr (7, [.ref q1, .null, .int 0, .null, .null, .int 0, .int 0, .int 0, .null, .null, .null, .null, .null, .int 0, .null, .null, .int 0, .int 0, .int 0, .int 0, .int 0, .null, .null]))] ++ [(q1, .inl (K.2.1, 3, .inl (fun _ => 0)))]) ++ [(q2, .inl (K.2.1, 96, .inl (onf 55)))])) C 2 rfl (inb_in ⟨by decide, by decide⟩) dX7_init_284 (onf_s 54 54 (by decide)) rfl ?_
  refine Go_dup (pc := 285) C dX7_init_285 rfl ?_
  refine Go_bipush (pc := 286) (v := 55) C dX7_init_286 cb_55 ?_
  refine Go_iconst (pc := 288) (v := 1) C dX7_init_288 ci_1 ?_
  refine Go_iastF (pc := 289) (f1 := onf 56) (ws1 := (([(h0, .inr (7, [.ref q1, .null, .int 0, .null, .null, .int 0, .int 0, .int 0, .null, .null, .null, .null, .null, .int 0, .null, .null, .int 0, .int 0, .int 0, .int 0, .int 0, .null, .null]))] ++ [(q1, .inl (K.2.1, 3, .inl (fun _ => 0)))]) ++ [(q2, .inl (K.2.1, 96, .inl (onf 56)))])) C 2 rfl (inb_in ⟨by decide, by decide⟩) dX7_init_289 (onf_s 55 55 (by decide)) rfl ?_
  refine Go_dup (pc := 290) C dX7_init_290 rfl ?_
  refine Go_bipush (pc := 291) (v := 56) C dX7_init_291 cb_56 ?_
  refine Go_iconst (pc := 293) (v := 1) C dX7_init_293 ci_1 ?_
  refine Go_iastF (pc := 294) (f1 := onf 57) (ws1 := (([(h0, .inr (7, [.ref q1, .null, .int 0, .null, .null, .int 0, .int 0, .int 0, .null, .null, .null, .null, .null, .int 0, .null, .null, .int 0, .int 0, .int 0, .int 0, .int 0, .null, .null]))] ++ [(q1, .inl (K.2.1, 3, .inl (fun _ => 0)))]) ++ [(q2, .inl (K.2.1, 96, .inl (onf 57)))])) C 2 rfl (inb_in ⟨by decide, by decide⟩) dX7_init_294 (onf_s 56 56 (by decide)) rfl ?_
  refine Go_dup (pc := 295) C dX7_init_295 rfl ?_
  refine Go_bipush (pc := 296) (v := 57) C dX7_init_296 cb_57 ?_
  refine Go_iconst (pc := 298) (v := 1) C dX7_init_298 ci_1 ?_
  refine Go_iastF (pc := 299) (f1 := onf 58) (ws1 := (([(h0, .inr (7, [.ref q1, .null, .int 0, .null, .null, .int 0, .int 0, .int 0, .null, .null, .null, .null, .null, .int 0, .null, .null, .int 0, .int 0, .int 0, .int 0, .int 0, .null, .null]))] ++ [(q1, .inl (K.2.1, 3, .inl (fun _ => 0)))]) ++ [(q2, .inl (K.2.1, 96, .inl (onf 58)))])) C 2 rfl (inb_in ⟨by decide, by decide⟩) dX7_init_299 (onf_s 57 57 (by decide)) rfl ?_
  refine Go_dup (pc := 300) C dX7_init_300 rfl ?_
  refine Go_bipush (pc := 301) (v := 58) C dX7_init_301 cb_58 ?_
  refine Go_iconst (pc := 303) (v := 1) C dX7_init_303 ci_1 ?_
  refine Go_iastF (pc := 304) (f1 := onf 59) (ws1 := (([(h0, .inr (7, [.ref q1, .null, .int 0, .null, .null, .int 0, .int 0, .int 0, .null, .null, .null, .null, .null, .int 0, .null, .null, .int 0, .int 0, .int 0, .int 0, .int 0, .null, .null]))] ++ [(q1, .inl (K.2.1, 3, .inl (fun _ => 0)))]) ++ [(q2, .inl (K.2.1, 96, .inl (onf 59)))])) C 2 rfl (inb_in ⟨by decide, by decide⟩) dX7_init_304 (onf_s 58 58 (by decide)) rfl ?_
  refine Go_dup (pc := 305) C dX7_init_305 rfl ?_
  refine Go_bipush (pc := 306) (v := 59) C dX7_init_306 cb_59 ?_
  refine Go_iconst (pc := 308) (v := 1) C dX7_init_308 ci_1 ?_
  refine Go_iastF (pc := 309) (f1 := onf 60) (ws1 := (([(h0, .inr (7, [.ref q1, .null, .int 0, .null, .null, .int 0, .int 0, .int 0, .null, .null, .null, .null, .null, .int 0, .null, .null, .int 0, .int 0, .int 0, .int 0, .int 0, .null, .null]))] ++ [(q1, .inl (K.2.1, 3, .inl (fun _ => 0)))]) ++ [(q2, .inl (K.2.1, 96, .inl (onf 60)))])) C 2 rfl (inb_in ⟨by decide, by decide⟩) dX7_init_309 (onf_s 59 59 (by decide)) rfl ?_
  refine Go_dup (pc := 310) C dX7_init_310 rfl ?_
  refine Go_bipush (pc := 311) (v := 60) C dX7_init_311 cb_60 ?_
  refine Go_iconst (pc := 313) (v := 1) C dX7_init_313 ci_1 ?_
  refine Go_iastF (pc := 314) (f1 := onf 61) (ws1 := (([(h0, .inr (7, [.ref q1, .null, .int 0, .null, .null, .int 0, .int 0, .int 0, .null, .null, .null, .null, .null, .int 0, .null, .null, .int 0, .int 0, .int 0, .int 0, .int 0, .null, .null]))] ++ [(q1, .inl (K.2.1, 3, .inl (fun _ => 0)))]) ++ [(q2, .inl (K.2.1, 96, .inl (onf 61)))])) C 2 rfl (inb_in ⟨by decide, by decide⟩) dX7_init_314 (onf_s 60 60 (by decide)) rfl ?_
  refine Go_dup (pc := 315) C dX7_init_315 rfl ?_
  refine Go_bipush (pc := 316) (v := 61) C dX7_init_316 cb_61 ?_
  refine Go_iconst (pc := 318) (v := 1) C dX7_init_318 ci_1 ?_
  refine Go_iastF (pc := 319) (f1 := onf 62) (ws1 := (([(h0, .inr (7, [.ref q1, .null, .int 0, .null, .null, .int 0, .int 0, .int 0, .null, .null, .null, .null, .null, .int 0, .null, .null, .int 0, .int 0, .int 0, .int 0, .int 0, .null, .null]))] ++ [(q1, .inl (K.2.1, 3, .inl (fun _ => 0)))]) ++ [(q2, .inl (K.2.1, 96, .inl (onf 62)))])) C 2 rfl (inb_in ⟨by decide, by decide⟩) dX7_init_319 (onf_s 61 61 (by decide)) rfl ?_
  refine Go_dup (pc := 320) C dX7_init_320 rfl ?_
  refine Go_bipush (pc := 321) (v := 62) C dX7_init_321 cb_62 ?_
  refine Go_iconst (pc := 323) (v := 1) C dX7_init_323 ci_1 ?_
  refine Go_iastF (pc := 324) (f1 := onf 63) (ws1 := (([(h0, .inr (7, [.ref q1, .null, .int 0, .null, .null, .int 0, .int 0, .int 0, .null, .null, .null, .null, .null, .int 0, .null, .null, .int 0, .int 0, .int 0, .int 0, .int 0, .null, .null]))] ++ [(q1, .inl (K.2.1, 3, .inl (fun _ => 0)))]) ++ [(q2, .inl (K.2.1, 96, .inl (onf 63)))])) C 2 rfl (inb_in ⟨by decide, by decide⟩) dX7_init_324 (onf_s 62 62 (by decide)) rfl ?_
  refine Go_dup (pc := 325) C dX7_init_325 rfl ?_
  refine Go_bipush (pc := 326) (v := 63) C dX7_init_326 cb_63 ?_
  refine Go_iconst (pc := 328) (v := 1) C dX7_init_328 ci_1 ?_
  refine Go_iastF (pc := 329) (f1 := onf 64) (ws1 := (([(h0, .inr (7, [.ref q1, .null, .int 0, .null, .null, .int 0, .int 0, .int 0, .null, .null, .null, .null, .null, .int 0, .null, .null, .int 0, .int 0, .int 0, .int 0, .int 0, .null, .null]))] ++ [(q1, .inl (K.2.1, 3, .inl (fun _ => 0)))]) ++ [(q2, .inl (K.2.1, 96, .inl (onf 64)))])) C 2 rfl (inb_in ⟨by decide, by decide⟩) dX7_init_329 (onf_s 63 63 (by decide)) rfl ?_
  refine Go_dup (pc := 330) C dX7_init_330 rfl ?_
  refine Go_bipush (pc := 331) (v := 64) C dX7_init_331 cb_64 ?_
  refine Go_iconst (pc := 333) (v := 1) C dX7_init_333 ci_1 ?_
  refine Go_iastF (pc := 334) (f1 := onf 65) (ws1 := (([(h0, .inr (7, [.ref q1, .null, .int 0, .null, .null, .int 0, .int 0, .int 0, .null, .null, .null, .null, .null, .int 0, .null, .null, .int 0, .int 0, .int 0, .int 0, .int 0, .null, .null]))] ++ [(q1, .inl (K.2.1, 3, .inl (fun _ => 0)))]) ++ [(q2, .inl (K.2.1, 96, .inl (onf 65)))])) C 2 rfl (inb_in ⟨by decide, by decide⟩) dX7_init_334 (onf_s 64 64 (by decide)) rfl ?_
  refine Go_dup (pc := 335) C dX7_init_335 rfl ?_
  refine Go_bipush (pc := 336) (v := 65) C dX7_init_336 cb_65 ?_
  refine Go_iconst (pc := 338) (v := 1) C dX7_init_338 ci_1 ?_
  refine Go_iastF (pc := 339) (f1 := onf 66) (ws1 := (([(h0, .inr (7, [.ref q1, .null, .int 0, .null, .null, .int 0, .int 0, .int 0, .null, .null, .null, .null, .null, .int 0, .null, .null, .int 0, .int 0, .int 0, .int 0, .int 0, .null, .null]))] ++ [(q1, .inl (K.2.1, 3, .inl (fun _ => 0)))]) ++ [(q2, .inl (K.2.1, 96, .inl (onf 66)))])) C 2 rfl (inb_in ⟨by decide, by decide⟩) dX7_init_339 (onf_s 65 65 (by decide)) rfl ?_
  refine Go_dup (pc := 340) C dX7_init_340 rfl ?_
  refine Go_bipush (pc := 341) (v := 66) C dX7_init_341 cb_66 ?_
  refine Go_iconst (pc := 343) (v := 1) C dX7_init_343 ci_1 ?_
  refine Go_iastF (pc := 344) (f1 := onf 67) (ws1 := (([(h0, .inr (7, [.ref q1, .null, .int 0, .null, .null, .int 0, .int 0, .int 0, .null, .null, .null, .null, .null, .int 0, .null, .null, .int 0, .int 0, .int 0, .int 0, .int 0, .null, .null]))] ++ [(q1, .inl (K.2.1, 3, .inl (fun _ => 0)))]) ++ [(q2, .inl (K.2.1, 96, .inl (onf 67)))])) C 2 rfl (inb_in ⟨by decide, by decide⟩) dX7_init_344 (onf_s 66 66 (by decide)) rfl ?_
  refine Go_dup (pc := 345) C dX7_init_345 rfl ?_
  refine Go_bipush (pc := 346) (v := 67) C dX7_init_346 cb_67 ?_
  refine Go_iconst (pc := 348) (v := 1) C dX7_init_348 ci_1 ?_
  refine Go_iastF (pc := 349) (f1 := onf 68) (ws1 := (([(h0, .inr (7, [.ref q1, .null, .int 0, .null, .null, .int 0, .int 0, .int 0, .null, .null, .null, .null, .null, .int 0, .null, .null, .int 0, .int 0, .int 0, .int 0, .int 0, .null, .null]))] ++ [(q1, .inl (K.2.1, 3, .inl (fun _ => 0)))]) ++ [(q2, .inl (K.2.1, 96, .inl (onf 68)))])) C 2 rfl (inb_in ⟨by decide, by decide⟩) dX7_init_349 (onf_s 67 67 (by decide)) rfl ?_
  refine Go_dup (pc := 350) C dX7_init_350 rfl ?_
  refine Go_bipush (pc := 351) (v := 68) C dX7_init_351 cb_68 ?_
  refine Go_iconst (pc := 353) (v := 1) C dX7_init_353 ci_1 ?_
  refine Go_iastF (pc := 354) (f1 := onf 69) (ws1 := (([(h0, .inr (7, [.ref q1, .null, .int 0, .null, .null, .int 0, .int 0, .int 0, .null, .null, .null, .null, .null, .int 0, .null, .null, .int 0, .int 0, .int 0, .int 0, .int 0, .null, .null]))] ++ [(q1, .inl (K.2.1, 3, .inl (fun _ => 0)))]) ++ [(q2, .inl (K.2.1, 96, .inl (onf 69)))])) C 2 rfl (inb_in ⟨by decide, by decide⟩) dX7_init_354 (onf_s 68 68 (by decide)) rfl ?_
  refine Go_dup (pc := 355) C dX7_init_355 rfl ?_
  refine Go_bipush (pc := 356) (v := 69) C dX7_init_356 cb_69 ?_
  refine Go_iconst (pc := 358) (v := 1) C dX7_init_358 ci_1 ?_
  refine Go_iastF (pc := 359) (f1 := onf 70) (ws1 := (([(h0, .inr (7, [.ref q1, .null, .int 0, .null, .null, .int 0, .int 0, .int 0, .null, .null, .null, .null, .null, .int 0, .null, .null, .int 0, .int 0, .int 0, .int 0, .int 0, .null, .null]))] ++ [(q1, .inl (K.2.1, 3, .inl (fun _ => 0)))]) ++ [(q2, .inl (K.2.1, 96, .inl (onf 70)))])) C 2 rfl (inb_in ⟨by decide, by decide⟩) dX7_init_359 (onf_s 69 69 (by decide)) rfl ?_
  refine Go_dup (pc := 360) C dX7_init_360 rfl ?_
  refine Go_bipush (pc := 361) (v := 70) C dX7_init_361 cb_70 ?_
  refine Go_iconst (pc := 363) (v := 1) C dX7_init_363 ci_1 ?_
  refine Go_iastF (pc := 364) (f1 := onf 71) (ws1 := (([(h0, .inr (7, [.ref q1, .null, .int 0, .null, .null, .int 0, .int 0, .int 0, .null, .null, .null, .null, .null, .int 0, .null, .null, .int 0, .int 0, .int 0, .int 0, .int 0, .null, .null]))] ++ [(q1, .inl (K.2.1, 3, .inl (fun _ => 0)))]) ++ [(q2, .inl (K.2.1, 96, .inl (onf 71)))])) C 2 rfl (inb_in ⟨by decide, by decide⟩) dX7_init_364 (onf_s 70 70 (by decide)) rfl ?_
  refine Go_dup (pc := 365) C dX7_init_365 rfl ?_
  refine Go_bipush (pc := 366) (v := 71) C dX7_init_366 cb_71 ?_
  refine Go_iconst (pc := 368) (v := 1) C dX7_init_368 ci_1 ?_
  refine Go_iastF (pc := 369) (f1 := onf 72) (ws1 := (([(h0, .inr (7, [.ref q1, .null, .int 0, .null, .null, .int 0, .int 0, .int 0, .null, .null, .null, .null, .null, .int 0, .null, .null, .int 0, .int 0, .int 0, .int 0, .int 0, .null, .null]))] ++ [(q1, .inl (K.2.1, 3, .inl (fun _ => 0)))]) ++ [(q2, .inl (K.2.1, 96, .inl (onf 72)))])) C 2 rfl (inb_in ⟨by decide, by decide⟩) dX7_init_369 (onf_s 71 71 (by decide)) rfl ?_
  refine Go_dup (pc := 370) C dX7_init_370 rfl ?_
  refine Go_bipush (pc := 371) (v := 72) C dX7_init_371 cb_72 ?_
  refine Go_iconst (pc := 373) (v := 1) C dX7_init_373 ci_1 ?_
  refine Go_iastF (pc := 374) (f1 := onf 73) (ws1 := (([(h0, .inr (7, [.ref q1, .null, .int 0, .null, .null, .int 0, .int 0, .int 0, .null, .null, .null, .null, .null, .int 0, .null, .null, .int 0, .int 0, .int 0, .int 0, .int 0, .null, .null]))] ++ [(q1, .inl (K.2.1, 3, .inl (fun _ => 0)))]) ++ [(q2, .inl (K.2.1, 96, .inl (onf 73)))])) C 2 rfl (inb_in ⟨by decide, by decide⟩) dX7_init_374 (onf_s 72 72 (by decide)) rfl ?_
  refine Go_dup (pc := 375) C dX7_init_375 rfl ?_
  refine Go_bipush (pc := 376) (v := 73) C dX7_init_376 cb_73 ?_
  refine Go_iconst (pc := 378) (v := 1) C dX7_init_378 ci_1 ?_
  refine Go_iastF (pc := 379) (f1 := onf 74) (ws1 := (([(h0, .inr (7, [.ref q1, .null, .int 0, .null, .null, .int 0, .int 0, .int 0, .null, .null, .null, .null, .null, .int 0, .null, .null, .int 0, .int 0, .int 0, .int 0, .int 0, .null, .null]))] ++ [(q1, .inl (K.2.1, 3, .inl (fun _ => 0)))]) ++ [(q2, .inl (K.2.1, 96, .inl (onf 74)))])) C 2 rfl (inb_in ⟨by decide, by decide⟩) dX7_init_379 (onf_s 73 73 (by decide)) rfl ?_
  refine Go_dup (pc := 380) C dX7_init_380 rfl ?_
  refine Go_bipush (pc := 381) (v := 74) C dX7_init_381 cb_74 ?_
  refine Go_iconst (pc := 383) (v := 1) C dX7_init_383 ci_1 ?_
  refine Go_iastF (pc := 384) (f1 := onf 75) (ws1 := (([(h0, .inr (7, [.ref q1, .null, .int 0, .null, .null, .int 0, .int 0, .int 0, .null, .null, .null, .null, .null, .int 0, .null, .null, .int 0, .int 0, .int 0, .int 0, .int 0, .null, .null]))] ++ [(q1, .inl (K.2.1, 3, .inl (fun _ => 0)))]) ++ [(q2, .inl (K.2.1, 96, .inl (onf 75)))])) C 2 rfl (inb_in ⟨by decide, by decide⟩) dX7_init_384 (onf_s 74 74 (by decide)) rfl ?_
  refine Go_dup (pc := 385) C dX7_init_385 rfl ?_
  refine Go_bipush (pc := 386) (v := 75) C dX7_init_386 cb_75 ?_
  refine Go_iconst (pc := 388) (v := 1) C dX7_init_388 ci_1 ?_
  refine Go_iastF (pc := 389) (f1 := onf 76) (ws1 := (([(h0, .inr (7, [.ref q1, .null, .int 0, .null, .null, .int 0, .int 0, .int 0, .null, .null, .null, .null, .null, .int 0, .null, .null, .int 0, .int 0, .int 0, .int 0, .int 0, .null, .null]))] ++ [(q1, .inl (K.2.1, 3, .inl (fun _ => 0)))]) ++ [(q2, .inl (K.2.1, 96, .inl (onf 76)))])) C 2 rfl (inb_in ⟨by decide, by decide⟩) dX7_init_389 (onf_s 75 75 (by decide)) rfl ?_
  refine Go_dup (pc := 390) C dX7_init_390 rfl ?_
  refine Go_bipush (pc := 391) (v := 76) C dX7_init_391 cb_76 ?_
  refine Go_iconst (pc := 393) (v := 1) C dX7_init_393 ci_1 ?_
  refine Go_iastF (pc := 394) (f1 := onf 77) (ws1 := (([(h0, .inr (7, [.ref q1, .null, .int 0, .null, .null, .int 0, .int 0, .int 0, .null, .null, .null, .null, .null, .int 0, .null, .null, .int 0, .int 0, .int 0, .int 0, .int 0, .null, .null]))] ++ [(q1, .inl (K.2.1, 3, .inl (fun _ => 0)))]) ++ [(q2, .inl (K.2.1, 96, .inl (onf 77)))])) C 2 rfl (inb_in ⟨by decide, by decide⟩) dX7_init_394 (onf_s 76 76 (by decide)) rfl ?_
  refine Go_dup (pc := 395) C dX7_init_395 rfl ?_
  refine Go_bipush (pc := 396) (v := 77) C dX7_init_396 cb_77 ?_
  refine Go_iconst (pc := 398) (v := 1) C dX7_init_398 ci_1 ?_
  refine Go_iastF (pc := 399) (f1 := onf 78) (ws1 := (([(h0, .inr (7, [.ref q1, .null, .int 0, .null, .null, .int 0, .int 0, .int 0, .null, .null, .null, .null, .null, .int 0, .null, .null, .int 0, .int 0, .int 0, .int 0, .int 0, .null, .null]))] ++ [(q1, .inl (K.2.1, 3, .inl (fun _ => 0)))]) ++ [(q2, .inl (K.2.1, 96, .inl (onf 78)))])) C 2 rfl (inb_in ⟨by decide, by decide⟩) dX7_init_399 (onf_s 77 77 (by decide)) rfl ?_
  refine Go_dup (pc := 400) C dX7_init_400 rfl ?_
  refine Go_bipush (pc := 401) (v := 78) C dX7_init_401 cb_78 ?_
  refine Go_iconst (pc := 403) (v := 1) C dX7_init_403 ci_1 ?_
  refine Go_iastF (pc := 404) (f1 := onf 79) (ws1 := (([(h0, .inr (7, [.ref q1, .null, .int 0, .null, .null, .int 0, .int 0, .int 0, .null, .null, .null, .null, .null, .int 0, .null, .null, .int 0, .int 0, .int 0, .int 0, .int 0, .null, .null]))] ++ [(q1, .inl (K.2.1, 3, .inl (fun _ => 0)))]) ++ [(q2, .inl (K.2.1, 96, .inl (onf 79)))])) C 2 rfl (inb_in ⟨by decide, by decide⟩) dX7_init_404 (onf_s 78 78 (by decide)) rfl ?_
  refine Go_dup (pc := 405) C dX7_init_405 rfl ?_
  refine Go_bipush (pc := 406) (v := 79) C dX7_init_406 cb_79 ?_
  refine Go_iconst (pc := 408) (v := 1) C dX7_init_408 ci_1 ?_
  refine Go_iastF (pc := 409) (f1 := onf 80) (ws1 := (([(h0, .inr (7, [.ref q1, .null, .int 0, .null, .null, .int 0, .int 0, .int 0, .null, .null, .null, .null, .null, .int 0, .null, .null, .int 0, .int 0, .int 0, .int 0, .int 0, .null, .null]))] ++ [(q1, .inl (K.2.1, 3, .inl (fun _ => 0)))]) ++ [(q2, .inl (K.2.1, 96, .inl (onf 80)))])) C 2 rfl (inb_in ⟨by decide, by decide⟩) dX7_init_409 (onf_s 79 79 (by decide)) rfl ?_
  refine Go_dup (pc := 410) C dX7_init_410 rfl ?_
  refine Go_bipush (pc := 411) (v := 80) C dX7_init_411 cb_80 ?_
  refine Go_iconst (pc := 413) (v := 1) C dX7_init_413 ci_1 ?_
  refine Go_iastF (pc := 414) (f1 := onf 81) (ws1 := (([(h0, .inr (7, [.ref q1, .null, .int 0, .null, .null, .int 0, .int 0, .int 0, .null, .null, .null, .null, .null, .int 0, .null, .null, .int 0, .int 0, .int 0, .int 0, .int 0, .null, .null]))] ++ [(q1, .inl (K.2.1, 3, .inl (fun _ => 0)))]) ++ [(q2, .inl (K.2.1, 96, .inl (onf 81)))])) C 2 rfl (inb_in ⟨by decide, by decide⟩) dX7_init_414 (onf_s 80 80 (by decide)) rfl ?_
  refine Go_dup (pc := 415) C dX7_init_415 rfl ?_
  refine Go_bipush (pc := 416) (v := 81) C dX7_init_416 cb_81 ?_
  refine Go_iconst (pc := 418) (v := 1) C dX7_init_418 ci_1 ?_
  refine Go_iastF (pc := 419) (f1 := onf 82) (ws1 := (([(h0, .inr (7, [.ref q1, .null, .int 0, .null, .null, .int 0, .int 0, .int 0, .null, .null, .null, .null, .null, .int 0, .null, .null, .int 0, .int 0, .int 0, .int 0, .int 0, .null, .null]))] ++ [(q1, .inl (K.2.1, 3, .inl (fun _ => 0)))]) ++ [(q2, .inl (K.2.1, 96, .inl (onf 82)))])) C 2 rfl (inb_in ⟨by decide, by decide⟩) dX7_init_419 (onf_s 81 81 (by decide)) rfl ?_
  refine Go_dup (pc := 420) C dX7_init_420 rfl ?_
  refine Go_bipush (pc := 421) (v := 82) C dX7_init_421 cb_82 ?_
  refine Go_iconst (pc := 423) (v := 1) C dX7_init_423 ci_1 ?_
  refine Go_iastF (pc := 424) (f1 := onf 83) (ws1 := (([(h0, .inr (7, [.ref q1, .null, .int 0, .null, .null, .int 0, .int 0, .int 0, .null, .null, .null, .null, .null, .int 0, .null, .null, .int 0, .int 0, .int 0, .int 0, .int 0, .null, .null]))] ++ [(q1, .inl (K.2.1, 3, .inl (fun _ => 0)))]) ++ [(q2, .inl (K.2.1, 96, .inl (onf 83)))])) C 2 rfl (inb_in ⟨by decide, by decide⟩) dX7_init_424 (onf_s 82 82 (by decide)) rfl ?_
  refine Go_dup (pc := 425) C dX7_init_425 rfl ?_
  refine Go_bipush (pc := 426) (v := 83) C dX7_init_426 cb_83 ?_
  refine Go_iconst (pc := 428) (v := 1) C dX7_init_428 ci_1 ?_
  refine Go_iastF (pc := 429) (f1 := onf 84) (ws1 := (([(h0, .inr (7, [.ref q1, .null, .int 0, .null, .null, .int 0, .int 0, .int 0, .null, .null, .null, .null, .null, .int 0, .null, .null, .int 0, .int 0, .int 0, .int 0, .int 0, .null, .null]))] ++ [(q1, .inl (K.2.1, 3, .inl (fun _ => 0)))]) ++ [(q2, .inl (K.2.1, 96, .inl (onf 84)))])) C 2 rfl (inb_in ⟨by decide, by decide⟩) dX7_init_429 (onf_s 83 83 (by decide)) rfl ?_
  refine Go_dup (pc := 430) C dX7_init_430 rfl ?_
  refine Go_bipush (pc := 431) (v := 84) C dX7_init_431 cb_84 ?_
  refine Go_iconst (pc := 433) (v := 1) C dX7_init_433 ci_1 ?_
  refine Go_iastF (pc := 434) (f1 := onf 85) (ws1 := (([(h0, .inr (7, [.ref q1, .null, .int 0, .null, .null, .int 0, .int 0, .int 0, .null, .null, .null, .null, .null, .int 0, .null, .null, .int 0, .int 0, .int 0, .int 0, .int 0, .null, .null]))] ++ [(q1, .inl (K.2.1, 3, .inl (fun _ => 0)))]) ++ [(q2, .inl (K.2.1, 96, .inl (onf 85)))])) C 2 rfl (inb_in ⟨by decide, by decide⟩) dX7_init_434 (onf_s 84 84 (by decide)) rfl ?_
  refine Go_dup (pc := 435) C dX7_init_435 rfl ?_
  refine Go_bipush (pc := 436) (v := 85) C dX7_init_436 cb_85 ?_
  refine Go_iconst (pc := 438) (v := 1) C dX7_init_438 ci_1 ?_
  refine Go_iastF (pc := 439) (f1 := onf 86) (ws1 := (([(h0, .inr (7, [.ref q1, .null, .int 0, .null, .null, .int 0, .int 0, .int 0, .null, .null, .null, .null, .null, .int 0, .null, .null, .int 0, .int 0, .int 0, .int 0, .int 0, .null, .null]))] ++ [(q1, .inl (K.2.1, 3, .inl (fun _ => 0)))]) ++ [(q2, .inl (K.2.1, 96, .inl (onf 86)))])) C 2 rfl (inb_in ⟨by decide, by decide⟩) dX7_init_439 (onf_s 85 85 (by decide)) rfl ?_
  refine Go_dup (pc := 440) C dX7_init_440 rfl ?_
  refine Go_bipush (pc := 441) (v := 86) C dX7_init_441 cb_86 ?_
  refine Go_iconst (pc := 443) (v := 1) C dX7_init_443 ci_1 ?_
  refine Go_iastF (pc := 444) (f1 := onf 87) (ws1 := (([(h0, .inr (7, [.ref q1, .null, .int 0, .null, .null, .int 0, .int 0, .int 0, .null, .null, .null, .null, .null, .int 0, .null, .null, .int 0, .int 0, .int 0, .int 0, .int 0, .null, .null]))] ++ [(q1, .inl (K.2.1, 3, .inl (fun _ => 0)))]) ++ [(q2, .inl (K.2.1, 96, .inl (onf 87)))])) C 2 rfl (inb_in ⟨by decide, by decide⟩) dX7_init_444 (onf_s 86 86 (by decide)) rfl ?_
  refine Go_dup (pc := 445) C dX7_init_445 rfl ?_
  refine Go_bipush (pc := 446) (v := 87) C dX7_init_446 cb_87 ?_
  refine Go_iconst (pc := 448) (v := 1) C dX7_init_448 ci_1 ?_
  refine Go_iastF (pc := 449) (f1 := onf 88) (ws1 := (([(h0, .inr (7, [.ref q1, .null, .int 0, .null, .null, .int 0, .int 0, .int 0, .null, .null, .null, .null, .null, .int 0, .null, .null, .int 0, .int 0, .int 0, .int 0, .int 0, .null, .null]))] ++ [(q1, .inl (K.2.1, 3, .inl (fun _ => 0)))]) ++ [(q2, .inl (K.2.1, 96, .inl (onf 88)))])) C 2 rfl (inb_in ⟨by decide, by decide⟩) dX7_init_449 (onf_s 87 87 (by decide)) rfl ?_
  refine Go_dup (pc := 450) C dX7_init_450 rfl ?_
  refine Go_bipush (pc := 451) (v := 88) C dX7_init_451 cb_88 ?_
  refine Go_iconst (pc := 453) (v := 1) C dX7_init_453 ci_1 ?_
  refine Go_iastF (pc := 454) (f1 := onf 89) (ws1 := (([(h0, .inr (7, [.ref q1, .null, .int 0, .null, .null, .int 0, .int 0, .int 0, .null, .null, .null, .null, .null, .int 0, .null, .null, .int 0, .int 0, .int 0, .int 0, .int 0, .null, .null]))] ++ [(q1, .inl (K.2.1, 3, .inl (fun _ => 0)))]) ++ [(q2, .inl (K.2.1, 96, .inl (onf 89)))])) C 2 rfl (inb_in ⟨by decide, by decide⟩) dX7_init_454 (onf_s 88 88 (by decide)) rfl ?_
  refine Go_dup (pc := 455) C dX7_init_455 rfl ?_
  refine Go_bipush (pc := 456) (v := 89) C dX7_init_456 cb_89 ?_
  refine Go_iconst (pc := 458) (v := 1) C dX7_init_458 ci_1 ?_
  refine Go_iastF (pc := 459) (f1 := onf 90) (ws1 := (([(h0, .inr (7, [.ref q1, .null, .int 0, .null, .null, .int 0, .int 0, .int 0, .null, .null, .null, .null, .null, .int 0, .null, .null, .int 0, .int 0, .int 0, .int 0, .int 0, .null, .null]))] ++ [(q1, .inl (K.2.1, 3, .inl (fun _ => 0)))]) ++ [(q2, .inl (K.2.1, 96, .inl (onf 90)))])) C 2 rfl (inb_in ⟨by decide, by decide⟩) dX7_init_459 (onf_s 89 89 (by decide)) rfl ?_
  refine Go_dup (pc := 460) C dX7_init_460 rfl ?_
  refine Go_bipush (pc := 461) (v := 90) C dX7_init_461 cb_90 ?_
  refine Go_iconst (pc := 463) (v := 1) C dX7_init_463 ci_1 ?_
  refine Go_iastF (pc := 464) (f1 := onf 91) (ws1 := (([(h0, .inr (7, [.ref q1, .null, .int 0, .null, .null, .int 0, .int 0, .int 0, .null, .null, .null, .null, .null, .int 0, .null, .null, .int 0, .int 0, .int 0, .int 0, .int 0, .null, .null]))] ++ [(q1, .inl (K.2.1, 3, .inl (fun _ => 0)))]) ++ [(q2, .inl (K.2.1, 96, .inl (onf 91)))])) C 2 rfl (inb_in ⟨by decide, by decide⟩) dX7_init_464 (onf_s 90 90 (by decide)) rfl ?_
  refine Go_dup (pc := 465) C dX7_init_465 rfl ?_
  refine Go_bipush (pc := 466) (v := 91) C dX7_init_466 cb_91 ?_
  refine Go_iconst (pc := 468) (v := 1) C dX7_init_468 ci_1 ?_
  refine Go_iastF (pc := 469) (f1 := onf 92) (ws1 := (([(h0, .inr (7, [.ref q1, .null, .int 0, .null, .null, .int 0, .int 0, .int 0, .null, .null, .null, .null, .null, .int 0, .null, .null, .int 0, .int 0, .int 0, .int 0, .int 0, .null, .null]))] ++ [(q1, .inl (K.2.1, 3, .inl (fun _ => 0)))]) ++ [(q2, .inl (K.2.1, 96, .inl (onf 92)))])) C 2 rfl (inb_in ⟨by decide, by decide⟩) dX7_init_469 (onf_s 91 91 (by decide)) rfl ?_
  refine Go_dup (pc := 470) C dX7_init_470 rfl ?_
  refine Go_bipush (pc := 471) (v := 92) C dX7_init_471 cb_92 ?_
  refine Go_iconst (pc := 473) (v := 1) C dX7_init_473 ci_1 ?_
  refine Go_iastF (pc := 474) (f1 := onf 93) (ws1 := (([(h0, .inr (7, [.ref q1, .null, .int 0, .null, .null, .int 0, .int 0, .int 0, .null, .null, .null, .null, .null, .int 0, .null, .null, .int 0, .int 0, .int 0, .int 0, .int 0, .null, .null]))] ++ [(q1, .inl (K.2.1, 3, .inl (fun _ => 0)))]) ++ [(q2, .inl (K.2.1, 96, .inl (onf 93)))])) C 2 rfl (inb_in ⟨by decide, by decide⟩) dX7_init_474 (onf_s 92 92 (by decide)) rfl ?_
  refine Go_dup (pc := 475) C dX7_init_475 rfl ?_
  refine Go_bipush (pc := 476) (v := 93) C dX7_init_476 cb_93 ?_
  refine Go_iconst (pc := 478) (v := 1) C dX7_init_478 ci_1 ?_
  refine Go_iastF (pc := 479) (f1 := onf 94) (ws1 := (([(h0, .inr (7, [.ref q1, .null, .int 0, .null, .null, .int 0, .int 0, .int 0, .null, .null, .null, .null, .null, .int 0, .null, .null, .int 0, .int 0, .int 0, .int 0, .int 0, .null, .null]))] ++ [(q1, .inl (K.2.1, 3, .inl (fun _ => 0)))]) ++ [(q2, .inl (K.2.1, 96, .inl (onf 94)))])) C 2 rfl (inb_in ⟨by decide, by decide⟩) dX7_init_479 (onf_s 93 93 (by decide)) rfl ?_
  refine Go_dup (pc := 480) C dX7_init_480 rfl ?_
  refine Go_bipush (pc := 481) (v := 94) C dX7_init_481 cb_94 ?_
  refine Go_iconst (pc := 483) (v := 1) C dX7_init_483 ci_1 ?_
  refine Go_iastF (pc := 484) (f1 := onf 95) (ws1 := (([(h0, .inr (7, [.ref q1, .null, .int 0, .null, .null, .int 0, .int 0, .int 0, .null, .null, .null, .null, .null, .int 0, .null, .null, .int 0, .int 0, .int 0, .int 0, .int 0, .null, .null]))] ++ [(q1, .inl (K.2.1, 3, .inl (fun _ => 0)))]) ++ [(q2, .inl (K.2.1, 96, .inl (onf 95)))])) C 2 rfl (inb_in ⟨by decide, by decide⟩) dX7_init_484 (onf_s 94 94 (by decide)) rfl ?_
  refine Go_dup (pc := 485) C dX7_init_485 rfl ?_
  refine Go_bipush (pc := 486) (v := 95) C dX7_init_486 cb_95 ?_
  refine Go_iconst (pc := 488) (v := 1) C dX7_init_488 ci_1 ?_
  refine Go_iastF (pc := 489) (f1 := onf 96) (ws1 := (([(h0, .inr (7, [.ref q1, .null, .int 0, .null, .null, .int 0, .int 0, .int 0, .null, .null, .null, .null, .null, .int 0, .null, .null, .int 0, .int 0, .int 0, .int 0, .int 0, .null, .null]))] ++ [(q1, .inl (K.2.1, 3, .inl (fun _ => 0)))]) ++ [(q2, .inl (K.2.1, 96, .inl (onf 96)))])) C 2 rfl (inb_in ⟨by decide, by decide⟩) dX7_init_489 (onf_s 95 95 (by decide)) rfl ?_
  refine Go_putR (pc := 490) (ws1 := (([(h0, .inr (7, [.ref q1, .ref q2, .int 0, .null, .null, .int 0, .int 0, .int 0, .null, .null, .null, .null, .null, .int 0, .null, .null, .int 0, .int 0, .int 0, .int 0, .int 0, .null, .null]))] ++ [(q1, .inl (K.2.1, 3, .inl (fun _ => 0)))]) ++ [(q2, .inl (K.2.1, 96, .inl (onf 96)))])) C hin 0 1 tyX7 tyX7_ok nmX7 rfl rfl inX7 (by decide) mw_630 rfl rfl rfl rfl (Nat.le_of_ble_eq_true rfl) dX7_init_490 rfl ?_
  refine Go_aload_n (pc := 493) C dX7_init_493 rfl ?_
  refine Go_bipush (pc := 494) (v := 13) C dX7_init_494 cb_13 ?_
  refine Go_newa (pc := 496) (N := 13) C hA (by decide) (by decide) (Nat.le_of_ble_eq_true rfl) (Nat.le_of_ble_eq_true rfl) (Nat.le_of_ble_eq_true rfl) dX7_init_496 (fun q3 => ?_)
  refine Go_putR (pc := 498) (ws1 := ((([(h0, .inr (7, [.ref q1, .ref q2, .int 0, .ref q3, .null, .int 0, .int 0, .int 0, .null, .null, .null, .null, .null, .int 0, .null, .null, .int 0, .int 0, .int 0, .int 0, .int 0, .null, .null]))] ++ [(q1, .inl (K.2.1, 3, .inl (fun _ => 0)))]) ++ [(q2, .inl (K.2.1, 96, .inl (onf 96)))]) ++ [(q3, .inl (K.2.1, 13, .inl (fun _ => 0)))])) C hin 0 3 tyX7 tyX7_ok nmX7 rfl rfl inX7 (by decide) mw_632 rfl rfl rfl rfl (Nat.le_of_ble_eq_true rfl) dX7_init_498 rfl ?_
  refine Go_aload_n (pc := 501) C dX7_init_501 rfl ?_
  refine Go_bipush (pc := 502) (v := 13) C dX7_init_502 cb_13 ?_
  refine Go_newa (pc := 504) (N := 13) C hA (by decide) (by decide) (Nat.le_of_ble_eq_true rfl) (Nat.le_of_ble_eq_true rfl) (Nat.le_of_ble_eq_true rfl) dX7_init_504 (fun q4 => ?_)
  refine Go_putR (pc := 506) (ws1 := (((([(h0, .inr (7, [.ref q1, .ref q2, .int 0, .ref q3, .ref q4, .int 0, .int 0, .int 0, .null, .null, .null, .null, .null, .int 0, .null, .null, .int 0, .int 0, .int 0, .int 0, .int 0, .null, .null]))] ++ [(q1, .inl (K.2.1, 3, .inl (fun _ => 0)))]) ++ [(q2, .inl (K.2.1, 96, .inl (onf 96)))]) ++ [(q3, .inl (K.2.1, 13, .inl (fun _ => 0)))]) ++ [(q4, .inl (K.2.1, 13, .inl (fun _ => 0)))])) C hin 0 4 tyX7 tyX7_ok nmX7 rfl rfl inX7 (by decide) mw_633 rfl rfl rfl rfl (Nat.le_of_ble_eq_true rfl) dX7_init_506 rfl ?_
  refine Go_aload_n (pc := 509) C dX7_init_509 rfl ?_
  refine Go_sipush (pc := 510) (v := 840) C dX7_init_510 cs_840 ?_
  refine Go_newa (pc := 513) (N := 840) C hA (by decide) (by decide) (Nat.le_of_ble_eq_true rfl) (Nat.le_of_ble_eq_true rfl) (Nat.le_of_ble_eq_true rfl) dX7_init_513 (fun q5 => ?_)
  refine Go_putR (pc := 515) (ws1 := ((((([(h0, .inr (7, [.ref q1, .ref q2, .int 0, .ref q3, .ref q4, .int 0, .int 0, .int 0, .ref q5, .null, .null, .null, .null, .int 0, .null, .null, .int 0, .int 0, .int 0, .int 0, .int 0, .null, .null]))] ++ [(q1, .inl (K.2.1, 3, .inl (fun _ => 0)))]) ++ [(q2, .inl (K.2.1, 96, .inl (onf 96)))]) ++ [(q3, .inl (K.2.1, 13, .inl (fun _ => 0)))]) ++ [(q4, .inl (K.2.1, 13, .inl (fun _ => 0)))]) ++ [(q5, .inl (K.2.1, 840, .inl (fun _ => 0)))])) C hin 0 8 tyX7 tyX7_ok nmX7 rfl rfl inX7 (by decide) mw_637 rfl rfl rfl rfl (Nat.le_of_ble_eq_true rfl) dX7_init_515 rfl ?_
  refine Go_aload_n (pc := 518) C dX7_init_518 rfl ?_
  refine Go_bipush (pc := 519) (v := 8) C dX7_init_519 cb_8 ?_
  refine Go_newa (pc := 521) (N := 8) C hA (by decide) (by decide) (Nat.le_of_ble_eq_true rfl) (Nat.le_of_ble_eq_true rfl) (Nat.le_of_ble_eq_true rfl) dX7_init_521 (fun q6 => ?_)
  refine Go_putR (pc := 523) (ws1 := (((((([(h0, .inr (7, [.ref q1, .ref q2, .int 0, .ref q3, .ref q4, .int 0, .int 0, .int 0, .ref q5, .ref q6, .null, .null, .null, .int 0, .null, .null, .int 0, .int 0, .int 0, .int 0, .int 0, .null, .null]))] ++ [(q1, .inl (K.2.1, 3, .inl (fun _ => 0)))]) ++ [(q2, .inl (K.2.1, 96, .inl (onf 96)))]) ++ [(q3, .inl (K.2.1, 13, .inl (fun _ => 0)))]) ++ [(q4, .inl (K.2.1, 13, .inl (fun _ => 0)))]) ++ [(q5, .inl (K.2.1, 840, .inl (fun _ => 0)))]) ++ [(q6, .inl (K.2.1, 8, .inl (fun _ => 0)))])) C hin 0 9 tyX7 tyX7_ok nmX7 rfl rfl inX7 (by decide) mw_638 rfl rfl rfl rfl (Nat.le_of_ble_eq_true rfl) dX7_init_523 rfl ?_
  refine Go_aload_n (pc := 526) C dX7_init_526 rfl ?_
  refine Go_bipush (pc := 527) (v := 12) C dX7_init_527 cb_12 ?_
  refine Go_newa (pc := 529) (N := 12) C hA (by decide) (by decide) (Nat.le_of_ble_eq_true rfl) (Nat.le_of_ble_eq_true rfl) (Nat.le_of_ble_eq_true rfl) dX7_init_529 (fun q7 => ?_)
  refine Go_putR (pc := 531) (ws1 := ((((((([(h0, .inr (7, [.ref q1, .ref q2, .int 0, .ref q3, .ref q4, .int 0, .int 0, .int 0, .ref q5, .ref q6, .ref q7, .null, .null, .int 0, .null, .null, .int 0, .int 0, .int 0, .int 0, .int 0, .null, .null]))] ++ [(q1, .inl (K.2.1, 3, .inl (fun _ => 0)))]) ++ [(q2, .inl (K.2.1, 96, .inl (onf 96)))]) ++ [(q3, .inl (K.2.1, 13, .inl (fun _ => 0)))]) ++ [(q4, .inl (K.2.1, 13, .inl (fun _ => 0)))]) ++ [(q5, .inl (K.2.1, 840, .inl (fun _ => 0)))]) ++ [(q6, .inl (K.2.1, 8, .inl (fun _ => 0)))]) ++ [(q7, .inl (K.2.1, 12, .inl (fun _ => 0)))])) C hin 0 10 tyX7 tyX7_ok nmX7 rfl rfl inX7 (by decide) mw_639 rfl rfl rfl rfl (Nat.le_of_ble_eq_true rfl) dX7_init_531 rfl ?_
  refine Go_aload_n (pc := 534) C dX7_init_534 rfl ?_
  refine Go_bipush (pc := 535) (v := 14) C dX7_init_535 cb_14 ?_
  refine Go_newa (pc := 537) (N := 14) C hA (by decide) (by decide) (Nat.le_of_ble_eq_true rfl) (Nat.le_of_ble_eq_true rfl) (Nat.le_of_ble_eq_true rfl) dX7_init_537 (fun q8 => ?_)
  refine Go_putR (pc := 539) (ws1 := (((((((([(h0, .inr (7, [.ref q1, .ref q2, .int 0, .ref q3, .ref q4, .int 0, .int 0, .int 0, .ref q5, .ref q6, .ref q7, .ref q8, .null, .int 0, .null, .null, .int 0, .int 0, .int 0, .int 0, .int 0, .null, .null]))] ++ [(q1, .inl (K.2.1, 3, .inl (fun _ => 0)))]) ++ [(q2, .inl (K.2.1, 96, .inl (onf 96)))]) ++ [(q3, .inl (K.2.1, 13, .inl (fun _ => 0)))]) ++ [(q4, .inl (K.2.1, 13, .inl (fun _ => 0)))]) ++ [(q5, .inl (K.2.1, 840, .inl (fun _ => 0)))]) ++ [(q6, .inl (K.2.1, 8, .inl (fun _ => 0)))]) ++ [(q7, .inl (K.2.1, 12, .inl (fun _ => 0)))]) ++ [(q8, .inl (K.2.1, 14, .inl (fun _ => 0)))])) C hin 0 11 tyX7 tyX7_ok nmX7 rfl rfl inX7 (by decide) mw_640 rfl rfl rfl rfl (Nat.le_of_ble_eq_true rfl) dX7_init_539 rfl ?_
  refine Go_aload_n (pc := 542) C dX7_init_542 rfl ?_
  refine Go_bipush (pc := 543) (v := 14) C dX7_init_543 cb_14 ?_
  refine Go_newa (pc := 545) (N := 14) C hA (by decide) (by decide) (Nat.le_of_ble_eq_true rfl) (Nat.le_of_ble_eq_true rfl) (Nat.le_of_ble_eq_true rfl) dX7_init_545 (fun q9 => ?_)
  refine Go_putR (pc := 547) (ws1 := ((((((((([(h0, .inr (7, [.ref q1, .ref q2, .int 0, .ref q3, .ref q4, .int 0, .int 0, .int 0, .ref q5, .ref q6, .ref q7, .ref q8, .ref q9, .int 0, .null, .null, .int 0, .int 0, .int 0, .int 0, .int 0, .null, .null]))] ++ [(q1, .inl (K.2.1, 3, .inl (fun _ => 0)))]) ++ [(q2, .inl (K.2.1, 96, .inl (onf 96)))]) ++ [(q3, .inl (K.2.1, 13, .inl (fun _ => 0)))]) ++ [(q4, .inl (K.2.1, 13, .inl (fun _ => 0)))]) ++ [(q5, .inl (K.2.1, 840, .inl (fun _ => 0)))]) ++ [(q6, .inl (K.2.1, 8, .inl (fun _ => 0)))]) ++ [(q7, .inl (K.2.1, 12, .inl (fun _ => 0)))]) ++ [(q8, .inl (K.2.1, 14, .inl (fun _ => 0)))]) ++ [(q9, .inl (K.2.1, 14, .inl (fun _ => 0)))])) C hin 0 12 tyX7 tyX7_ok nmX7 rfl rfl inX7 (by decide) mw_641 rfl rfl rfl rfl (Nat.le_of_ble_eq_true rfl) dX7_init_547 rfl ?_
  refine Go_aload_n (pc := 550) C dX7_init_550 rfl ?_
  refine Go_bipush (pc := 551) (v := 13) C dX7_init_551 cb_13 ?_
  refine Go_newa (pc := 553) (N := 13) C hA (by decide) (by decide) (Nat.le_of_ble_eq_true rfl) (Nat.le_of_ble_eq_true rfl) (Nat.le_of_ble_eq_true rfl) dX7_init_553 (fun q10 => ?_)
  refine Go_putR (pc := 555) (ws1 := (((((((((([(h0, .inr (7, [.ref q1, .ref q2, .int 0, .ref q3, .ref q4, .int 0, .int 0, .int 0, .ref q5, .ref q6, .ref q7, .ref q8, .ref q9, .int 0, .ref q10, .null, .int 0, .int 0, .int 0, .int 0, .int 0, .null, .null]))] ++ [(q1, .inl (K.2.1, 3, .inl (fun _ => 0)))]) ++ [(q2, .inl (K.2.1, 96, .inl (onf 96)))]) ++ [(q3, .inl (K.2.1, 13, .inl (fun _ => 0)))]) ++ [(q4, .inl (K.2.1, 13, .inl (fun _ => 0)))]) ++ [(q5, .inl (K.2.1, 840, .inl (fun _ => 0)))]) ++ [(q6, .inl (K.2.1, 8, .inl (fun _ => 0)))]) ++ [(q7, .inl (K.2.1, 12, .inl (fun _ => 0)))]) ++ [(q8, .inl (K.2.1, 14, .inl (fun _ => 0)))]) ++ [(q9, .inl (K.2.1, 14, .inl (fun _ => 0)))]) ++ [(q10, .inl (K.2.1, 13, .inl (fun _ => 0)))])) C hin 0 14 tyX7 tyX7_ok nmX7 rfl rfl inX7 (by decide) mw_643 rfl rfl rfl rfl (Nat.le_of_ble_eq_true rfl) dX7_init_555 rfl ?_
  refine Go_aload_n (pc := 558) C dX7_init_558 rfl ?_
  refine Go_bipush (pc := 559) (v := 120) C dX7_init_559 cb_120 ?_
  refine Go_newa (pc := 561) (N := 120) C hA (by decide) (by decide) (Nat.le_of_ble_eq_true rfl) (Nat.le_of_ble_eq_true rfl) (Nat.le_of_ble_eq_true rfl) dX7_init_561 (fun q11 => ?_)
  refine Go_putR (pc := 563) (ws1 := ((((((((((([(h0, .inr (7, [.ref q1, .ref q2, .int 0, .ref q3, .ref q4, .int 0, .int 0, .int 0, .ref q5, .ref q6, .ref q7, .ref q8, .ref q9, .int 0, .ref q10, .ref q11, .int 0, .int 0, .int 0, .int 0, .int 0, .null, .null]))] ++ [(q1, .inl (K.2.1, 3, .inl (fun _ => 0)))]) ++ [(q2, .inl (K.2.1, 96, .inl (onf 96)))]) ++ [(q3, .inl (K.2.1, 13, .inl (fun _ => 0)))]) ++ [(q4, .inl (K.2.1, 13, .inl (fun _ => 0)))]) ++ [(q5, .inl (K.2.1, 840, .inl (fun _ => 0)))]) ++ [(q6, .inl (K.2.1, 8, .inl (fun _ => 0)))]) ++ [(q7, .inl (K.2.1, 12, .inl (fun _ => 0)))]) ++ [(q8, .inl (K.2.1, 14, .inl (fun _ => 0)))]) ++ [(q9, .inl (K.2.1, 14, .inl (fun _ => 0)))]) ++ [(q10, .inl (K.2.1, 13, .inl (fun _ => 0)))]) ++ [(q11, .inl (K.2.1, 120, .inl (fun _ => 0)))])) C hin 0 15 tyX7 tyX7_ok nmX7 rfl rfl inX7 (by decide) mw_644 rfl rfl rfl rfl (Nat.le_of_ble_eq_true rfl) dX7_init_563 rfl ?_
  refine Go_aload_n (pc := 566) C dX7_init_566 rfl ?_
  refine Go_bipush (pc := 567) (v := 13) C dX7_init_567 cb_13 ?_
  refine Go_newa (pc := 569) (N := 13) C hA (by decide) (by decide) (Nat.le_of_ble_eq_true rfl) (Nat.le_of_ble_eq_true rfl) (Nat.le_of_ble_eq_true rfl) dX7_init_569 (fun q12 => ?_)
  refine Go_putR (pc := 571) (ws1 := (((((((((((([(h0, .inr (7, [.ref q1, .ref q2, .int 0, .ref q3, .ref q4, .int 0, .int 0, .int 0, .ref q5, .ref q6, .ref q7, .ref q8, .ref q9, .int 0, .ref q10, .ref q11, .int 0, .int 0, .int 0, .int 0, .int 0, .ref q12, .null]))] ++ [(q1, .inl (K.2.1, 3, .inl (fun _ => 0)))]) ++ [(q2, .inl (K.2.1, 96, .inl (onf 96)))]) ++ [(q3, .inl (K.2.1, 13, .inl (fun _ => 0)))]) ++ [(q4, .inl (K.2.1, 13, .inl (fun _ => 0)))]) ++ [(q5, .inl (K.2.1, 840, .inl (fun _ => 0)))]) ++ [(q6, .inl (K.2.1, 8, .inl (fun _ => 0)))]) ++ [(q7, .inl (K.2.1, 12, .inl (fun _ => 0)))]) ++ [(q8, .inl (K.2.1, 14, .inl (fun _ => 0)))]) ++ [(q9, .inl (K.2.1, 14, .inl (fun _ => 0)))]) ++ [(q10, .inl (K.2.1, 13, .inl (fun _ => 0)))]) ++ [(q11, .inl (K.2.1, 120, .inl (fun _ => 0)))]) ++ [(q12, .inl (K.2.1, 13, .inl (fun _ => 0)))])) C hin 0 21 tyX7 tyX7_ok nmX7 rfl rfl inX7 (by decide) mw_650 rfl rfl rfl rfl (Nat.le_of_ble_eq_true rfl) dX7_init_571 rfl ?_
  refine Go_aload_n (pc := 574) C dX7_init_574 rfl ?_
  refine Go_sipush (pc := 575) (v := 140) C dX7_init_575 cs_140 ?_
  refine Go_newa (pc := 578) (N := 140) C hA (by decide) (by decide) (Nat.le_of_ble_eq_true rfl) (Nat.le_of_ble_eq_true rfl) (Nat.le_of_ble_eq_true rfl) dX7_init_578 (fun q13 => ?_)
  refine Go_putR (pc := 580) (ws1 := ((((((((((((([(h0, .inr (7, [.ref q1, .ref q2, .int 0, .ref q3, .ref q4, .int 0, .int 0, .int 0, .ref q5, .ref q6, .ref q7, .ref q8, .ref q9, .int 0, .ref q10, .ref q11, .int 0, .int 0, .int 0, .int 0, .int 0, .ref q12, .ref q13]))] ++ [(q1, .inl (K.2.1, 3, .inl (fun _ => 0)))]) ++ [(q2, .inl (K.2.1, 96, .inl (onf 96)))]) ++ [(q3, .inl (K.2.1, 13, .inl (fun _ => 0)))]) ++ [(q4, .inl (K.2.1, 13, .inl (fun _ => 0)))]) ++ [(q5, .inl (K.2.1, 840, .inl (fun _ => 0)))]) ++ [(q6, .inl (K.2.1, 8, .inl (fun _ => 0)))]) ++ [(q7, .inl (K.2.1, 12, .inl (fun _ => 0)))]) ++ [(q8, .inl (K.2.1, 14, .inl (fun _ => 0)))]) ++ [(q9, .inl (K.2.1, 14, .inl (fun _ => 0)))]) ++ [(q10, .inl (K.2.1, 13, .inl (fun _ => 0)))]) ++ [(q11, .inl (K.2.1, 120, .inl (fun _ => 0)))]) ++ [(q12, .inl (K.2.1, 13, .inl (fun _ => 0)))]) ++ [(q13, .inl (K.2.1, 140, .inl (fun _ => 0)))])) C hin 0 22 tyX7 tyX7_ok nmX7 rfl rfl inX7 (by decide) mw_651 rfl rfl rfl rfl (Nat.le_of_ble_eq_true rfl) dX7_init_580 rfl ?_
  refine Go_cw (ws1 := w7 K (adr (h0 :: q1 :: q2 :: q3 :: q4 :: q5 :: q6 :: q7 :: q8 :: q9 :: q10 :: q11 :: q12 :: q13 :: [])) ((fun _ => 0), (onf 96), (0 : Int32), (fun _ => 0), (fun _ => 0), (0 : Int32), (0 : Int32), (0 : Int32), (fun _ => 0), (fun _ => 0), (fun _ => 0), (fun _ => 0), (fun _ => 0), (0 : Int32), (fun _ => 0), (fun _ => 0), (0 : Int32), (0 : Int32), (0 : Int32), (0 : Int32), (0 : Int32), (fun _ => 0), (fun _ => 0))) rfl ?_
  exact Go_vretN (wf := fun a => w7 K a ((fun _ => 0), (onf 96), (0 : Int32), (fun _ => 0), (fun _ => 0), (0 : Int32), (0 : Int32), (0 : Int32), (fun _ => 0), (fun _ => 0), (fun _ => 0), (fun _ => 0), (fun _ => 0), (0 : Int32), (fun _ => 0), (fun _ => 0), (0 : Int32), (0 : Int32), (0 : Int32), (0 : Int32), (0 : Int32), (fun _ => 0), (fun _ => 0))) (adr (h0 :: q1 :: q2 :: q3 :: q4 :: q5 :: q6 :: q7 :: q8 :: q9 :: q10 :: q11 :: q12 :: q13 :: [])) rfl C hr dX7_init_583
