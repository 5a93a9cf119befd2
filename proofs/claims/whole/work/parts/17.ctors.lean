def onf (k : Nat) : Nat → Int32 := fun j => if j < k then 1 else 0
theorem onf_0 : upd (fun _ => 0) (0 : Int32).toNatClampNeg 1 = onf 1 := by
  funext j
  simp only [upd, onf]
  by_cases h : j = 0
  · subst h; rfl
  · have h1 : ¬ j = (0 : Int32).toNatClampNeg := h
    rw [if_neg h1, if_neg (by omega)]
theorem onf_s (k : Nat) (i : Int32) (h : i.toNatClampNeg = k) : upd (onf k) i.toNatClampNeg 1 = onf (k + 1) := by
  funext j
  simp only [upd, onf, h]
  by_cases h1 : j = k
  · rw [if_pos h1, if_pos (by omega)]
  · rw [if_neg h1]
    by_cases h2 : j < k
    · rw [if_pos h2, if_pos (by omega)]
    · rw [if_neg h2, if_neg (by omega)]
theorem ring_eq (x0 x1 x2 x3 x4 x5 : Nat) : va_up (va_up (va_up (va_up (va_up (va_up (fun _ => none) (0 : Int32).toNatClampNeg (some x0)) (1 : Int32).toNatClampNeg (some x1)) (2 : Int32).toNatClampNeg (some x2)) (3 : Int32).toNatClampNeg (some x3)) (4 : Int32).toNatClampNeg (some x4)) (5 : Int32).toNatClampNeg (some x5) = rgf [x0, x1, x2, x3, x4, x5] := by
  funext j
  match j with
  | 0 => rfl
  | 1 => rfl
  | 2 => rfl
  | 3 => rfl
  | 4 => rfl
  | 5 => rfl
  | j + 6 => rfl
theorem Go_iastF {p : Program} {l : Launch} {e : Env} {R : Room} {s : State} {m : MethodId} {args : Array Value} {below : List Frame} {meth : Method} {c : Code} {K : KK} {A : Nat → Prop} {H0 : Heap} {cc : ByteArray} {own : String} {nL d k n : Nat} {Q : State → Prop} {ws : va_W} {pc : Nat} {lv : List (Option Value)} {st : List Value} (C : Cx p R s m args meth c K A H0 cc own nL d) {a N : Nat} {f f1 : Nat → Int32} {i x : Int32} {ws1 : va_W} (q0 : Nat) (he : ws[q0]? = some (a, .inl (K.2.1, N, .inl f))) (hb : vp_in i N) (hd : decode cc pc = .ok (.iastore, 1)) (hF : upd f i.toNatClampNeg x = f1) (hws : ws.set q0 (a, .inl (K.2.1, N, .inl f1)) = ws1) (kk : Go p l e R s m args below meth c K A H0 nL k n Q ws1 (pc + 1) lv st) : Go p l e R s m args below meth c K A H0 nL k n Q ws pc lv (.int x :: .int i :: .ref a :: st) := by
  subst hF
  exact Go_iast C q0 he hb hd hws kk
theorem cb_15 : (Int8.ofInt (15)).toInt32 = 15 := by decide
theorem cb_17 : (Int8.ofInt (17)).toInt32 = 17 := by decide
theorem cb_18 : (Int8.ofInt (18)).toInt32 = 18 := by decide
theorem cb_19 : (Int8.ofInt (19)).toInt32 = 19 := by decide
theorem cb_22 : (Int8.ofInt (22)).toInt32 = 22 := by decide
theorem cb_23 : (Int8.ofInt (23)).toInt32 = 23 := by decide
theorem cb_24 : (Int8.ofInt (24)).toInt32 = 24 := by decide
theorem cb_25 : (Int8.ofInt (25)).toInt32 = 25 := by decide
theorem cb_26 : (Int8.ofInt (26)).toInt32 = 26 := by decide
theorem cb_27 : (Int8.ofInt (27)).toInt32 = 27 := by decide
theorem cb_29 : (Int8.ofInt (29)).toInt32 = 29 := by decide
theorem cb_30 : (Int8.ofInt (30)).toInt32 = 30 := by decide
theorem cb_31 : (Int8.ofInt (31)).toInt32 = 31 := by decide
theorem cb_33 : (Int8.ofInt (33)).toInt32 = 33 := by decide
theorem cb_34 : (Int8.ofInt (34)).toInt32 = 34 := by decide
theorem cb_35 : (Int8.ofInt (35)).toInt32 = 35 := by decide
theorem cb_36 : (Int8.ofInt (36)).toInt32 = 36 := by decide
theorem cb_37 : (Int8.ofInt (37)).toInt32 = 37 := by decide
theorem cb_38 : (Int8.ofInt (38)).toInt32 = 38 := by decide
theorem cb_39 : (Int8.ofInt (39)).toInt32 = 39 := by decide
theorem cb_40 : (Int8.ofInt (40)).toInt32 = 40 := by decide
theorem cb_41 : (Int8.ofInt (41)).toInt32 = 41 := by decide
theorem cb_42 : (Int8.ofInt (42)).toInt32 = 42 := by decide
theorem cb_43 : (Int8.ofInt (43)).toInt32 = 43 := by decide
theorem cb_44 : (Int8.ofInt (44)).toInt32 = 44 := by decide
theorem cb_45 : (Int8.ofInt (45)).toInt32 = 45 := by decide
theorem cb_46 : (Int8.ofInt (46)).toInt32 = 46 := by decide
theorem cb_47 : (Int8.ofInt (47)).toInt32 = 47 := by decide
theorem cb_49 : (Int8.ofInt (49)).toInt32 = 49 := by decide
theorem cb_50 : (Int8.ofInt (50)).toInt32 = 50 := by decide
theorem cb_51 : (Int8.ofInt (51)).toInt32 = 51 := by decide
theorem cb_52 : (Int8.ofInt (52)).toInt32 = 52 := by decide
theorem cb_53 : (Int8.ofInt (53)).toInt32 = 53 := by decide
theorem cb_54 : (Int8.ofInt (54)).toInt32 = 54 := by decide
theorem cb_55 : (Int8.ofInt (55)).toInt32 = 55 := by decide
theorem cb_56 : (Int8.ofInt (56)).toInt32 = 56 := by decide
theorem cb_58 : (Int8.ofInt (58)).toInt32 = 58 := by decide
theorem cb_60 : (Int8.ofInt (60)).toInt32 = 60 := by decide
theorem cb_61 : (Int8.ofInt (61)).toInt32 = 61 := by decide
theorem cb_62 : (Int8.ofInt (62)).toInt32 = 62 := by decide
theorem cb_63 : (Int8.ofInt (63)).toInt32 = 63 := by decide
theorem cb_64 : (Int8.ofInt (64)).toInt32 = 64 := by decide
theorem cb_65 : (Int8.ofInt (65)).toInt32 = 65 := by decide
theorem cb_66 : (Int8.ofInt (66)).toInt32 = 66 := by decide
theorem cb_67 : (Int8.ofInt (67)).toInt32 = 67 := by decide
theorem cb_68 : (Int8.ofInt (68)).toInt32 = 68 := by decide
theorem cb_69 : (Int8.ofInt (69)).toInt32 = 69 := by decide
theorem cb_70 : (Int8.ofInt (70)).toInt32 = 70 := by decide
theorem cb_71 : (Int8.ofInt (71)).toInt32 = 71 := by decide
theorem cb_72 : (Int8.ofInt (72)).toInt32 = 72 := by decide
theorem cb_73 : (Int8.ofInt (73)).toInt32 = 73 := by decide
theorem cb_74 : (Int8.ofInt (74)).toInt32 = 74 := by decide
theorem cb_75 : (Int8.ofInt (75)).toInt32 = 75 := by decide
theorem cb_76 : (Int8.ofInt (76)).toInt32 = 76 := by decide
theorem cb_77 : (Int8.ofInt (77)).toInt32 = 77 := by decide
theorem cb_78 : (Int8.ofInt (78)).toInt32 = 78 := by decide
theorem cb_79 : (Int8.ofInt (79)).toInt32 = 79 := by decide
theorem cb_80 : (Int8.ofInt (80)).toInt32 = 80 := by decide
theorem cb_81 : (Int8.ofInt (81)).toInt32 = 81 := by decide
theorem cb_82 : (Int8.ofInt (82)).toInt32 = 82 := by decide
theorem cb_83 : (Int8.ofInt (83)).toInt32 = 83 := by decide
theorem cb_85 : (Int8.ofInt (85)).toInt32 = 85 := by decide
theorem cb_86 : (Int8.ofInt (86)).toInt32 = 86 := by decide
theorem cb_87 : (Int8.ofInt (87)).toInt32 = 87 := by decide
theorem cb_88 : (Int8.ofInt (88)).toInt32 = 88 := by decide
theorem cb_89 : (Int8.ofInt (89)).toInt32 = 89 := by decide
theorem cb_90 : (Int8.ofInt (90)).toInt32 = 90 := by decide
theorem cb_91 : (Int8.ofInt (91)).toInt32 = 91 := by decide
theorem cb_92 : (Int8.ofInt (92)).toInt32 = 92 := by decide
theorem cb_93 : (Int8.ofInt (93)).toInt32 = 93 := by decide
theorem cb_94 : (Int8.ofInt (94)).toInt32 = 94 := by decide
theorem cs_840 : (Int16.ofInt (840)).toInt32 = 840 := by decide
theorem ycX1_init : CalI yX1_init cX1_init 1 := ⟨mw_84, mw_62, mw_83, ⟨by decide, by decide, by decide +kernel⟩, by decide, rfl⟩
set_option maxHeartbeats 4000000 in
set_option maxRecDepth 100000 in
theorem ctX1_init (l : Launch) (K : KK) (i1 : S1) (hi1 : fX1_reset ((fun _ => 0), (fun _ => 0), (fun _ => 0), (fun _ => 0), (fun _ => 0), (0 : Int32)) = some i1) (h0 : Nat) : Cn l K yX1_init cX1_init 1 2 5 153 h0 (.inr (1, [.null, .null, .null, .null, .null, .int 0])) (fun a => w1 K a i1) := by
  refine Cn_of (by decide) rfl (by decide) ?_
  intro p e σ m args below meth c C hr hin hEx hA
  refine Go_aload_n (pc := 0) C dX1_init_0 rfl ?_
  refine Go_obj (pc := 1) C mw_85 dX1_init_1 (Nat.le_of_ble_eq_true rfl) (Nat.le_of_ble_eq_true rfl) ?_
  refine Go_aload_n (pc := 4) C dX1_init_4 rfl ?_
  refine Go_bipush (pc := 5) (v := 96) C dX1_init_5 cb_96 ?_
  refine Go_newa (pc := 7) (N := 96) C hA (by decide) (by decide) (Nat.le_of_ble_eq_true rfl) (Nat.le_of_ble_eq_true rfl) (Nat.le_of_ble_eq_true rfl) dX1_init_7 (fun q1 => ?_)
  refine Go_putR (pc := 9) (ws1 := ([(h0, .inr (1, [.ref q1, .null, .null, .null, .null, .int 0]))] ++ [(q1, .inl (K.2.1, 96, .inl (fun _ => 0)))])) C hin 0 0 tyX1 tyX1_ok nmX1 rfl rfl inX1 (by decide) mw_93 rfl rfl rfl rfl (Nat.le_of_ble_eq_true rfl) dX1_init_9 rfl ?_
  refine Go_aload_n (pc := 12) C dX1_init_12 rfl ?_
  refine Go_bipush (pc := 13) (v := 12) C dX1_init_13 cb_12 ?_
  refine Go_newa (pc := 15) (N := 12) C hA (by decide) (by decide) (Nat.le_of_ble_eq_true rfl) (Nat.le_of_ble_eq_true rfl) (Nat.le_of_ble_eq_true rfl) dX1_init_15 (fun q2 => ?_)
  refine Go_putR (pc := 17) (ws1 := (([(h0, .inr (1, [.ref q1, .ref q2, .null, .null, .null, .int 0]))] ++ [(q1, .inl (K.2.1, 96, .inl (fun _ => 0)))]) ++ [(q2, .inl (K.2.1, 12, .inl (fun _ => 0)))])) C hin 0 1 tyX1 tyX1_ok nmX1 rfl rfl inX1 (by decide) mw_97 rfl rfl rfl rfl (Nat.le_of_ble_eq_true rfl) dX1_init_17 rfl ?_
  refine Go_aload_n (pc := 20) C dX1_init_20 rfl ?_
  refine Go_bipush (pc := 21) (v := 12) C dX1_init_21 cb_12 ?_
  refine Go_newa (pc := 23) (N := 12) C hA (by decide) (by decide) (Nat.le_of_ble_eq_true rfl) (Nat.le_of_ble_eq_true rfl) (Nat.le_of_ble_eq_true rfl) dX1_init_23 (fun q3 => ?_)
  refine Go_putR (pc := 25) (ws1 := ((([(h0, .inr (1, [.ref q1, .ref q2, .ref q3, .null, .null, .int 0]))] ++ [(q1, .inl (K.2.1, 96, .inl (fun _ => 0)))]) ++ [(q2, .inl (K.2.1, 12, .inl (fun _ => 0)))]) ++ [(q3, .inl (K.2.1, 12, .inl (fun _ => 0)))])) C hin 0 2 tyX1 tyX1_ok nmX1 rfl rfl inX1 (by decide) mw_100 rfl rfl rfl rfl (Nat.le_of_ble_eq_true rfl) dX1_init_25 rfl ?_
  refine Go_aload_n (pc := 28) C dX1_init_28 rfl ?_
  refine Go_bipush (pc := 29) (v := 12) C dX1_init_29 cb_12 ?_
  refine Go_newa (pc := 31) (N := 12) C hA (by decide) (by decide) (Nat.le_of_ble_eq_true rfl) (Nat.le_of_ble_eq_true rfl) (Nat.le_of_ble_eq_true rfl) dX1_init_31 (fun q4 => ?_)
  refine Go_putR (pc := 33) (ws1 := (((([(h0, .inr (1, [.ref q1, .ref q2, .ref q3, .ref q4, .null, .int 0]))] ++ [(q1, .inl (K.2.1, 96, .inl (fun _ => 0)))]) ++ [(q2, .inl (K.2.1, 12, .inl (fun _ => 0)))]) ++ [(q3, .inl (K.2.1, 12, .inl (fun _ => 0)))]) ++ [(q4, .inl (K.2.1, 12, .inl (fun _ => 0)))])) C hin 0 3 tyX1 tyX1_ok nmX1 rfl rfl inX1 (by decide) mw_103 rfl rfl rfl rfl (Nat.le_of_ble_eq_true rfl) dX1_init_33 rfl ?_
  refine Go_aload_n (pc := 36) C dX1_init_36 rfl ?_
  refine Go_bipush (pc := 37) (v := 21) C dX1_init_37 cb_21 ?_
  refine Go_newa (pc := 39) (N := 21) C hA (by decide) (by decide) (Nat.le_of_ble_eq_true rfl) (Nat.le_of_ble_eq_true rfl) (Nat.le_of_ble_eq_true rfl) dX1_init_39 (fun q5 => ?_)
  refine Go_putR (pc := 41) (ws1 := ((((([(h0, .inr (1, [.ref q1, .ref q2, .ref q3, .ref q4, .ref q5, .int 0]))] ++ [(q1, .inl (K.2.1, 96, .inl (fun _ => 0)))]) ++ [(q2, .inl (K.2.1, 12, .inl (fun _ => 0)))]) ++ [(q3, .inl (K.2.1, 12, .inl (fun _ => 0)))]) ++ [(q4, .inl (K.2.1, 12, .inl (fun _ => 0)))]) ++ [(q5, .inl (K.2.1, 21, .inl (fun _ => 0)))])) C hin 0 4 tyX1 tyX1_ok nmX1 rfl rfl inX1 (by decide) mw_109 rfl rfl rfl rfl (Nat.le_of_ble_eq_true rfl) dX1_init_41 rfl ?_
  refine Go_aload_n (pc := 44) C dX1_init_44 rfl ?_
  refine Go_cw (ws1 := w1 K (adr [h0, q1, q2, q3, q4, q5]) ((fun _ => 0), (fun _ => 0), (fun _ => 0), (fun _ => 0), (fun _ => 0), (0 : Int32))) rfl ?_
  refine Go_callV0 (pc := 45) (ws1 := w1 K (adr [h0, q1, q2, q3, q4, q5]) i1) C 0 [0, 1, 2, 3, 4, 5] (kX1_reset l K (adr [h0, q1, q2, q3, q4, q5]) ((fun _ => 0), (fun _ => 0), (fun _ => 0), (fun _ => 0), (fun _ => 0), (0 : Int32)) i1 hi1) ycX1_reset mw_86 (Nat.le_of_ble_eq_true rfl) rfl rfl rfl rfl (Nat.le_of_ble_eq_true rfl) ⟨Nat.le_of_ble_eq_true rfl, Nat.le_of_ble_eq_true rfl⟩ dX1_init_45 rfl rfl rfl ⟨[], 6, rfl, rfl, rfl, by decide⟩ ?_
  exact Go_vretN (wf := fun a => w1 K a i1) (adr [h0, q1, q2, q3, q4, q5]) rfl C hr dX1_init_48
theorem ycX0_init : CalI yX0_init cX0_init 1 := ⟨mw_136, mw_64, mw_135, ⟨by decide, by decide, by decide +kernel⟩, by decide, rfl⟩
set_option maxHeartbeats 4000000 in
set_option maxRecDepth 100000 in
theorem ctX0_init (l : Launch) (K : KK)  (h0 : Nat) : Cn l K yX0_init cX0_init 1 1 4 216 h0 (.inr (0, [.null, .null, .null, .null])) (fun a => w0 K a ((fun _ => 0), (fun _ => 0), (fun _ => 0), (fun _ => 0))) := by
  refine Cn_of (by decide) rfl (by decide) ?_
  intro p e σ m args below meth c C hr hin hEx hA
  refine Go_aload_n (pc := 0) C dX0_init_0 rfl ?_
  refine Go_obj (pc := 1) C mw_137 dX0_init_1 (Nat.le_of_ble_eq_true rfl) (Nat.le_of_ble_eq_true rfl) ?_
  refine Go_aload_n (pc := 4) C dX0_init_4 rfl ?_
  refine Go_bipush (pc := 5) (v := 96) C dX0_init_5 cb_96 ?_
  refine Go_newa (pc := 7) (N := 96) C hA (by decide) (by decide) (Nat.le_of_ble_eq_true rfl) (Nat.le_of_ble_eq_true rfl) (Nat.le_of_ble_eq_true rfl) dX0_init_7 (fun q1 => ?_)
  refine Go_putR (pc := 9) (ws1 := ([(h0, .inr (0, [.ref q1, .null, .null, .null]))] ++ [(q1, .inl (K.2.1, 96, .inl (fun _ => 0)))])) C hin 0 0 tyX0 tyX0_ok nmX0 rfl rfl inX0 (by decide) mw_138 rfl rfl rfl rfl (Nat.le_of_ble_eq_true rfl) dX0_init_9 rfl ?_
  refine Go_aload_n (pc := 12) C dX0_init_12 rfl ?_
  refine Go_bipush (pc := 13) (v := 96) C dX0_init_13 cb_96 ?_
  refine Go_newa (pc := 15) (N := 96) C hA (by decide) (by decide) (Nat.le_of_ble_eq_true rfl) (Nat.le_of_ble_eq_true rfl) (Nat.le_of_ble_eq_true rfl) dX0_init_15 (fun q2 => ?_)
  refine Go_putR (pc := 17) (ws1 := (([(h0, .inr (0, [.ref q1, .ref q2, .null, .null]))] ++ [(q1, .inl (K.2.1, 96, .inl (fun _ => 0)))]) ++ [(q2, .inl (K.2.1, 96, .inl (fun _ => 0)))])) C hin 0 1 tyX0 tyX0_ok nmX0 rfl rfl inX0 (by decide) mw_140 rfl rfl rfl rfl (Nat.le_of_ble_eq_true rfl) dX0_init_17 rfl ?_
  refine Go_aload_n (pc := 20) C dX0_init_20 rfl ?_
  refine Go_bipush (pc := 21) (v := 12) C dX0_init_21 cb_12 ?_
  refine Go_newa (pc := 23) (N := 12) C hA (by decide) (by decide) (Nat.le_of_ble_eq_true rfl) (Nat.le_of_ble_eq_true rfl) (Nat.le_of_ble_eq_true rfl) dX0_init_23 (fun q3 => ?_)
  refine Go_putR (pc := 25) (ws1 := ((([(h0, .inr (0, [.ref q1, .ref q2, .ref q3, .null]))] ++ [(q1, .inl (K.2.1, 96, .inl (fun _ => 0)))]) ++ [(q2, .inl (K.2.1, 96, .inl (fun _ => 0)))]) ++ [(q3, .inl (K.2.1, 12, .inl (fun _ => 0)))])) C hin 0 2 tyX0 tyX0_ok nmX0 rfl rfl inX0 (by decide) mw_141 rfl rfl rfl rfl (Nat.le_of_ble_eq_true rfl) dX0_init_25 rfl ?_
  refine Go_aload_n (pc := 28) C dX0_init_28 rfl ?_
  refine Go_bipush (pc := 29) (v := 12) C dX0_init_29 cb_12 ?_
  refine Go_newa (pc := 31) (N := 12) C hA (by decide) (by decide) (Nat.le_of_ble_eq_true rfl) (Nat.le_of_ble_eq_true rfl) (Nat.le_of_ble_eq_true rfl) dX0_init_31 (fun q4 => ?_)
  refine Go_putR (pc := 33) (ws1 := (((([(h0, .inr (0, [.ref q1, .ref q2, .ref q3, .ref q4]))] ++ [(q1, .inl (K.2.1, 96, .inl (fun _ => 0)))]) ++ [(q2, .inl (K.2.1, 96, .inl (fun _ => 0)))]) ++ [(q3, .inl (K.2.1, 12, .inl (fun _ => 0)))]) ++ [(q4, .inl (K.2.1, 12, .inl (fun _ => 0)))])) C hin 0 3 tyX0 tyX0_ok nmX0 rfl rfl inX0 (by decide) mw_143 rfl rfl rfl rfl (Nat.le_of_ble_eq_true rfl) dX0_init_33 rfl ?_
  refine Go_cw (ws1 := w0 K (adr [h0, q1, q2, q3, q4]) ((fun _ => 0), (fun _ => 0), (fun _ => 0), (fun _ => 0))) rfl ?_
  exact Go_vretN (wf := fun a => w0 K a ((fun _ => 0), (fun _ => 0), (fun _ => 0), (fun _ => 0))) (adr [h0, q1, q2, q3, q4]) rfl C hr dX0_init_36
theorem ycX2_init : CalI yX2_init cX2_init 1 := ⟨mw_158, mw_65, mw_157, ⟨by decide, by decide, by decide +kernel⟩, by decide, rfl⟩
set_option maxHeartbeats 4000000 in
set_option maxRecDepth 100000 in
theorem ctX2_init (l : Launch) (K : KK) (i2 : S2) (hi2 : fX2_forget ((fun _ => 0), (0 : Int32)) = some i2) (h0 : Nat) : Cn l K yX2_init cX2_init 1 2 1 12 h0 (.inr (2, [.null, .int 0])) (fun a => w2 K a i2) := by
  refine Cn_of (by decide) rfl (by decide) ?_
  intro p e σ m args below meth c C hr hin hEx hA
  refine Go_aload_n (pc := 0) C dX2_init_0 rfl ?_
  refine Go_obj (pc := 1) C mw_159 dX2_init_1 (Nat.le_of_ble_eq_true rfl) (Nat.le_of_ble_eq_true rfl) ?_
  refine Go_aload_n (pc := 4) C dX2_init_4 rfl ?_
  refine Go_bipush (pc := 5) (v := 12) C dX2_init_5 cb_12 ?_
  refine Go_newa (pc := 7) (N := 12) C hA (by decide) (by decide) (Nat.le_of_ble_eq_true rfl) (Nat.le_of_ble_eq_true rfl) (Nat.le_of_ble_eq_true rfl) dX2_init_7 (fun q1 => ?_)
  refine Go_putR (pc := 9) (ws1 := ([(h0, .inr (2, [.ref q1, .int 0]))] ++ [(q1, .inl (K.2.1, 12, .inl (fun _ => 0)))])) C hin 0 0 tyX2 tyX2_ok nmX2 rfl rfl inX2 (by decide) mw_165 rfl rfl rfl rfl (Nat.le_of_ble_eq_true rfl) dX2_init_9 rfl ?_
  refine Go_aload_n (pc := 12) C dX2_init_12 rfl ?_
  refine Go_cw (ws1 := w2 K (adr [h0, q1]) ((fun _ => 0), (0 : Int32))) rfl ?_
  refine Go_callV0 (pc := 13) (ws1 := w2 K (adr [h0, q1]) i2) C 0 [0, 1] (kX2_forget l K (adr [h0, q1]) ((fun _ => 0), (0 : Int32)) i2 hi2) ycX2_forget mw_160 (Nat.le_of_ble_eq_true rfl) rfl rfl rfl rfl (Nat.le_of_ble_eq_true rfl) ⟨Nat.le_of_ble_eq_true rfl, Nat.le_of_ble_eq_true rfl⟩ dX2_init_13 rfl rfl rfl ⟨[], 2, rfl, rfl, rfl, by decide⟩ ?_
  exact Go_vretN (wf := fun a => w2 K a i2) (adr [h0, q1]) rfl C hr dX2_init_16
theorem ycX4_init : CalI yX4_init cX4_init 1 := ⟨mw_224, mw_68, mw_223, ⟨by decide, by decide, by decide +kernel⟩, by decide, rfl⟩
set_option maxHeartbeats 4000000 in
set_option maxRecDepth 100000 in
theorem ctX4_init (l : Launch) (K : KK)  (h0 : Nat) : Cn l K yX4_init cX4_init 1 1 1 120 h0 (.inr (4, [.null, .int 0, .int 0, .int 0, .int 0])) (fun a => w4 K a ((fun _ => 0), (0 : Int32), (0 : Int32), (0 : Int32), (0 : Int32))) := by
  refine Cn_of (by decide) rfl (by decide) ?_
  intro p e σ m args below meth c C hr hin hEx hA
  refine Go_aload_n (pc := 0) C dX4_init_0 rfl ?_
  refine Go_obj (pc := 1) C mw_225 dX4_init_1 (Nat.le_of_ble_eq_true rfl) (Nat.le_of_ble_eq_true rfl) ?_
  refine Go_aload_n (pc := 4) C dX4_init_4 rfl ?_
  refine Go_bipush (pc := 5) (v := 120) C dX4_init_5 cb_120 ?_
  refine Go_newa (pc := 7) (N := 120) C hA (by decide) (by decide) (Nat.le_of_ble_eq_true rfl) (Nat.le_of_ble_eq_true rfl) (Nat.le_of_ble_eq_true rfl) dX4_init_7 (fun q1 => ?_)
  refine Go_putR (pc := 9) (ws1 := ([(h0, .inr (4, [.ref q1, .int 0, .int 0, .int 0, .int 0]))] ++ [(q1, .inl (K.2.1, 120, .inl (fun _ => 0)))])) C hin 0 0 tyX4 tyX4_ok nmX4 rfl rfl inX4 (by decide) mw_226 rfl rfl rfl rfl (Nat.le_of_ble_eq_true rfl) dX4_init_9 rfl ?_
  refine Go_cw (ws1 := w4 K (adr [h0, q1]) ((fun _ => 0), (0 : Int32), (0 : Int32), (0 : Int32), (0 : Int32))) rfl ?_
  exact Go_vretN (wf := fun a => w4 K a ((fun _ => 0), (0 : Int32), (0 : Int32), (0 : Int32), (0 : Int32))) (adr [h0, q1]) rfl C hr dX4_init_12
theorem ycX3_init : CalI yX3_init cX3_init 2 := ⟨mw_178, mw_66, mw_177, ⟨by decide, by decide, by decide +kernel⟩, by decide, rfl⟩
set_option maxHeartbeats 4000000 in
set_option maxRecDepth 100000 in
theorem ctX3_init (l : Launch) (K : KK) (i1 : S1) (hi1 : fX1_reset ((fun _ => 0), (fun _ => 0), (fun _ => 0), (fun _ => 0), (fun _ => 0), (0 : Int32)) = some i1) (h0 : Nat) : Cn l K yX3_init cX3_init 2 3 37 960 h0 (.inr (3, [.null, .int 0, .int 0])) (fun a => w3 K a ((i1, i1, i1, i1, i1, i1), (0 : Int32), (0 : Int32))) := by
  refine Cn_of (by decide) rfl (by decide) ?_
  intro p e σ m args below meth c C hr hin hEx hA
  refine Go_aload_n (pc := 0) C dX3_init_0 rfl ?_
  refine Go_obj (pc := 1) C mw_179 dX3_init_1 (Nat.le_of_ble_eq_true rfl) (Nat.le_of_ble_eq_true rfl) ?_
  refine Go_aload_n (pc := 4) C dX3_init_4 rfl ?_
  refine Go_bipush (pc := 5) (v := 6) C dX3_init_5 cb_6 ?_
  refine Go_newq (pc := 7) (N := 6) C hA hEx mw_180 (by decide) (by decide) (Nat.le_of_ble_eq_true rfl) (Nat.le_of_ble_eq_true rfl) (Nat.le_of_ble_eq_true rfl) dX3_init_7 (fun q1 => ?_)
  refine Go_putR (pc := 10) (ws1 := ([(h0, .inr (3, [.ref q1, .int 0, .int 0]))] ++ [(q1, .inl (K.2.2, 6, .inr (.inr (.inr (.inr (fun _ => none))))))])) C hin 0 0 tyX3 tyX3_ok nmX3 rfl rfl inX3 (by decide) mw_183 rfl rfl rfl rfl (Nat.le_of_ble_eq_true rfl) dX3_init_10 rfl ?_
  refine Go_iconst (pc := 13) (v := 0) C dX3_init_13 ci_0 ?_
  refine Go_istore_n (pc := 14) C dX3_init_14 (by decide) ?_
  refine Go_iload_n (pc := 15) C dX3_init_15 rfl ?_
  refine Go_bipush (pc := 16) (v := 6) C dX3_init_16 cb_6 ?_
  refine Go_icmp_ge (pc := 18) (tgt := 40) C dX3_init_18 (by decide) (fun hc => absurd hc (by decide)) (fun _ => ?_)
  refine Go_aload_n (pc := 21) C dX3_init_21 rfl ?_
  refine Go_get (pc := 22) C 0 0 rfl rfl inX3 (by decide) mw_183 rfl dX3_init_22 ?_
  refine Go_iload_n (pc := 25) C dX3_init_25 rfl ?_
  refine Go_new (pc := 26) (fs := [.null, .null, .null, .null, .null, .int 0]) C hA (show vwCl[1]? = some _ from rfl) inX1 tyX1 tyX1_ok mw_180 mw_81 mw_62 (by decide) (Nat.le_of_ble_eq_true rfl) (Nat.le_of_ble_eq_true rfl) dX3_init_26 (fun q2 => ?_)
  refine Go_dup (pc := 29) C dX3_init_29 rfl ?_
  refine Go_callI (pc := 30) C hA hEx (ctX1_init l K i1 hi1 q2) ycX1_init mw_182 (Nat.le_of_ble_eq_true rfl) (Nat.le_of_ble_eq_true rfl) ⟨Nat.le_of_ble_eq_true rfl, Nat.le_of_ble_eq_true rfl⟩ dX3_init_30 (fun a3 ha3 => ?_)
  subst ha3
  refine Go_aast (pc := 33) (ws1 := (([(h0, .inr (3, [.ref q1, .int 0, .int 0]))] ++ [(q1, .inl (K.2.2, 6, .inr (.inr (.inr (.inr (va_up (fun _ => none) (0 : Int32).toNatClampNeg (some (a3 0))))))))]) ++ w1 K a3 i1)) C 1 2 rfl rfl (show vwCl[1]? = some _ from rfl) (inb_in ⟨by decide, by decide⟩) dX3_init_33 rfl ?_
  refine Go_iinc (pc := 34) (v := 1) C dX3_init_34 rfl (by decide) ?_
  refine Go_goto (pc := 37) (tgt := 15) C dX3_init_37 (by decide) ?_
  refine Go_iload_n (pc := 15) C dX3_init_15 rfl ?_
  refine Go_bipush (pc := 16) (v := 6) C dX3_init_16 cb_6 ?_
  refine Go_icmp_ge (pc := 18) (tgt := 40) C dX3_init_18 (by decide) (fun hc => absurd hc (by decide)) (fun _ => ?_)
  refine Go_aload_n (pc := 21) C dX3_init_21 rfl ?_
  refine Go_get (pc := 22) C 0 0 rfl rfl inX3 (by decide) mw_183 rfl dX3_init_22 ?_
  refine Go_iload_n (pc := 25) C dX3_init_25 rfl ?_
  refine Go_new (pc := 26) (fs := [.null, .null, .null, .null, .null, .int 0]) C hA (show vwCl[1]? = some _ from rfl) inX1 tyX1 tyX1_ok mw_180 mw_81 mw_62 (by decide) (Nat.le_of_ble_eq_true rfl) (Nat.le_of_ble_eq_true rfl) dX3_init_26 (fun q4 => ?_)
  refine Go_dup (pc := 29) C dX3_init_29 rfl ?_
  refine Go_callI (pc := 30) C hA hEx (ctX1_init l K i1 hi1 q4) ycX1_init mw_182 (Nat.le_of_ble_eq_true rfl) (Nat.le_of_ble_eq_true rfl) ⟨Nat.le_of_ble_eq_true rfl, Nat.le_of_ble_eq_true rfl⟩ dX3_init_30 (fun a5 ha5 => ?_)
  subst ha5
  refine Go_aast (pc := 33) (ws1 := ((([(h0, .inr (3, [.ref q1, .int 0, .int 0]))] ++ [(q1, .inl (K.2.2, 6, .inr (.inr (.inr (.inr (va_up (va_up (fun _ => none) (0 : Int32).toNatClampNeg (some (a3 0))) (1 : Int32).toNatClampNeg (some (a5 0))))))))]) ++ w1 K a3 i1) ++ w1 K a5 i1)) C 1 8 rfl rfl (show vwCl[1]? = some _ from rfl) (inb_in ⟨by decide, by decide⟩) dX3_init_33 rfl ?_
  refine Go_iinc (pc := 34) (v := 2) C dX3_init_34 rfl (by decide) ?_
  refine Go_goto (pc := 37) (tgt := 15) C dX3_init_37 (by decide) ?_
  refine Go_iload_n (pc := 15) C dX3_init_15 rfl ?_
  refine Go_bipush (pc := 16) (v := 6) C dX3_init_16 cb_6 ?_
  refine Go_icmp_ge (pc := 18) (tgt := 40) C dX3_init_18 (by decide) (fun hc => absurd hc (by decide)) (fun _ => ?_)
  refine Go_aload_n (pc := 21) C dX3_init_21 rfl ?_
  refine Go_get (pc := 22) C 0 0 rfl rfl inX3 (by decide) mw_183 rfl dX3_init_22 ?_
  refine Go_iload_n (pc := 25) C dX3_init_25 rfl ?_
  refine Go_new (pc := 26) (fs := [.null, .null, .null, .null, .null, .int 0]) C hA (show vwCl[1]? = some _ from rfl) inX1 tyX1 tyX1_ok mw_180 mw_81 mw_62 (by decide) (Nat.le_of_ble_eq_true rfl) (Nat.le_of_ble_eq_true rfl) dX3_init_26 (fun q6 => ?_)
  refine Go_dup (pc := 29) C dX3_init_29 rfl ?_
  refine Go_callI (pc := 30) C hA hEx (ctX1_init l K i1 hi1 q6) ycX1_init mw_182 (Nat.le_of_ble_eq_true rfl) (Nat.le_of_ble_eq_true rfl) ⟨Nat.le_of_ble_eq_true rfl, Nat.le_of_ble_eq_true rfl⟩ dX3_init_30 (fun a7 ha7 => ?_)
  subst ha7
  refine Go_aast (pc := 33) (ws1 := (((([(h0, .inr (3, [.ref q1, .int 0, .int 0]))] ++ [(q1, .inl (K.2.2, 6, .inr (.inr (.inr (.inr (va_up (va_up (va_up (fun _ => none) (0 : Int32).toNatClampNeg (some (a3 0))) (1 : Int32).toNatClampNeg (some (a5 0))) (2 : Int32).toNatClampNeg (some (a7 0))))))))]) ++ w1 K a3 i1) ++ w1 K a5 i1) ++ w1 K a7 i1)) C 1 14 rfl rfl (show vwCl[1]? = some _ from rfl) (inb_in ⟨by decide, by decide⟩) dX3_init_33 rfl ?_
  refine Go_iinc (pc := 34) (v := 3) C dX3_init_34 rfl (by decide) ?_
  refine Go_goto (pc := 37) (tgt := 15) C dX3_init_37 (by decide) ?_
  refine Go_iload_n (pc := 15) C dX3_init_15 rfl ?_
  refine Go_bipush (pc := 16) (v := 6) C dX3_init_16 cb_6 ?_
  refine Go_icmp_ge (pc := 18) (tgt := 40) C dX3_init_18 (by decide) (fun hc => absurd hc (by decide)) (fun _ => ?_)
  refine Go_aload_n (pc := 21) C dX3_init_21 rfl ?_
  refine Go_get (pc := 22) C 0 0 rfl rfl inX3 (by decide) mw_183 rfl dX3_init_22 ?_
  refine Go_iload_n (pc := 25) C dX3_init_25 rfl ?_
  refine Go_new (pc := 26) (fs := [.null, .null, .null, .null, .null, .int 0]) C hA (show vwCl[1]? = some _ from rfl) inX1 tyX1 tyX1_ok mw_180 mw_81 mw_62 (by decide) (Nat.le_of_ble_eq_true rfl) (Nat.le_of_ble_eq_true rfl) dX3_init_26 (fun q8 => ?_)
  refine Go_dup (pc := 29) C dX3_init_29 rfl ?_
  refine Go_callI (pc := 30) C hA hEx (ctX1_init l K i1 hi1 q8) ycX1_init mw_182 (Nat.le_of_ble_eq_true rfl) (Nat.le_of_ble_eq_true rfl) ⟨Nat.le_of_ble_eq_true rfl, Nat.le_of_ble_eq_true rfl⟩ dX3_init_30 (fun a9 ha9 => ?_)
  subst ha9
  refine Go_aast (pc := 33) (ws1 := ((((([(h0, .inr (3, [.ref q1, .int 0, .int 0]))] ++ [(q1, .inl (K.2.2, 6, .inr (.inr (.inr (.inr (va_up (va_up (va_up (va_up (fun _ => none) (0 : Int32).toNatClampNeg (some (a3 0))) (1 : Int32).toNatClampNeg (some (a5 0))) (2 : Int32).toNatClampNeg (some (a7 0))) (3 : Int32).toNatClampNeg (some (a9 0))))))))]) ++ w1 K a3 i1) ++ w1 K a5 i1) ++ w1 K a7 i1) ++ w1 K a9 i1)) C 1 20 rfl rfl (show vwCl[1]? = some _ from rfl) (inb_in ⟨by decide, by decide⟩) dX3_init_33 rfl ?_
  refine Go_iinc (pc := 34) (v := 4) C dX3_init_34 rfl (by decide) ?_
  refine Go_goto (pc := 37) (tgt := 15) C dX3_init_37 (by decide) ?_
  refine Go_iload_n (pc := 15) C dX3_init_15 rfl ?_
  refine Go_bipush (pc := 16) (v := 6) C dX3_init_16 cb_6 ?_
  refine Go_icmp_ge (pc := 18) (tgt := 40) C dX3_init_18 (by decide) (fun hc => absurd hc (by decide)) (fun _ => ?_)
  refine Go_aload_n (pc := 21) C dX3_init_21 rfl ?_
  refine Go_get (pc := 22) C 0 0 rfl rfl inX3 (by decide) mw_183 rfl dX3_init_22 ?_
  refine Go_iload_n (pc := 25) C dX3_init_25 rfl ?_
  refine Go_new (pc := 26) (fs := [.null, .null, .null, .null, .null, .int 0]) C hA (show vwCl[1]? = some _ from rfl) inX1 tyX1 tyX1_ok mw_180 mw_81 mw_62 (by decide) (Nat.le_of_ble_eq_true rfl) (Nat.le_of_ble_eq_true rfl) dX3_init_26 (fun q10 => ?_)
  refine Go_dup (pc := 29) C dX3_init_29 rfl ?_
  refine Go_callI (pc := 30) C hA hEx (ctX1_init l K i1 hi1 q10) ycX1_init mw_182 (Nat.le_of_ble_eq_true rfl) (Nat.le_of_ble_eq_true rfl) ⟨Nat.le_of_ble_eq_true rfl, Nat.le_of_ble_eq_true rfl⟩ dX3_init_30 (fun a11 ha11 => ?_)
  subst ha11
  refine Go_aast (pc := 33) (ws1 := (((((([(h0, .inr (3, [.ref q1, .int 0, .int 0]))] ++ [(q1, .inl (K.2.2, 6, .inr (.inr (.inr (.inr (va_up (va_up (va_up (va_up (va_up (fun _ => none) (0 : Int32).toNatClampNeg (some (a3 0))) (1 : Int32).toNatClampNeg (some (a5 0))) (2 : Int32).toNatClampNeg (some (a7 0))) (3 : Int32).toNatClampNeg (some (a9 0))) (4 : Int32).toNatClampNeg (some (a11 0))))))))]) ++ w1 K a3 i1) ++ w1 K a5 i1) ++ w1 K a7 i1) ++ w1 K a9 i1) ++ w1 K a11 i1)) C 1 26 rfl rfl (show vwCl[1]? = some _ from rfl) (inb_in ⟨by decide, by decide⟩) dX3_init_33 rfl ?_
  refine Go_iinc (pc := 34) (v := 5) C dX3_init_34 rfl (by decide) ?_
  refine Go_goto (pc := 37) (tgt := 15) C dX3_init_37 (by decide) ?_
  refine Go_iload_n (pc := 15) C dX3_init_15 rfl ?_
  refine Go_bipush (pc := 16) (v := 6) C dX3_init_16 cb_6 ?_
  refine Go_icmp_ge (pc := 18) (tgt := 40) C dX3_init_18 (by decide) (fun hc => absurd hc (by decide)) (fun _ => ?_)
  refine Go_aload_n (pc := 21) C dX3_init_21 rfl ?_
  refine Go_get (pc := 22) C 0 0 rfl rfl inX3 (by decide) mw_183 rfl dX3_init_22 ?_
  refine Go_iload_n (pc := 25) C dX3_init_25 rfl ?_
  refine Go_new (pc := 26) (fs := [.null, .null, .null, .null, .null, .int 0]) C hA (show vwCl[1]? = some _ from rfl) inX1 tyX1 tyX1_ok mw_180 mw_81 mw_62 (by decide) (Nat.le_of_ble_eq_true rfl) (Nat.le_of_ble_eq_true rfl) dX3_init_26 (fun q12 => ?_)
  refine Go_dup (pc := 29) C dX3_init_29 rfl ?_
  refine Go_callI (pc := 30) C hA hEx (ctX1_init l K i1 hi1 q12) ycX1_init mw_182 (Nat.le_of_ble_eq_true rfl) (Nat.le_of_ble_eq_true rfl) ⟨Nat.le_of_ble_eq_true rfl, Nat.le_of_ble_eq_true rfl⟩ dX3_init_30 (fun a13 ha13 => ?_)
  subst ha13
  refine Go_aast (pc := 33) (ws1 := ((((((([(h0, .inr (3, [.ref q1, .int 0, .int 0]))] ++ [(q1, .inl (K.2.2, 6, .inr (.inr (.inr (.inr (va_up (va_up (va_up (va_up (va_up (va_up (fun _ => none) (0 : Int32).toNatClampNeg (some (a3 0))) (1 : Int32).toNatClampNeg (some (a5 0))) (2 : Int32).toNatClampNeg (some (a7 0))) (3 : Int32).toNatClampNeg (some (a9 0))) (4 : Int32).toNatClampNeg (some (a11 0))) (5 : Int32).toNatClampNeg (some (a13 0))))))))]) ++ w1 K a3 i1) ++ w1 K a5 i1) ++ w1 K a7 i1) ++ w1 K a9 i1) ++ w1 K a11 i1) ++ w1 K a13 i1)) C 1 32 rfl rfl (show vwCl[1]? = some _ from rfl) (inb_in ⟨by decide, by decide⟩) dX3_init_33 rfl ?_
  refine Go_iinc (pc := 34) (v := 6) C dX3_init_34 rfl (by decide) ?_
  refine Go_goto (pc := 37) (tgt := 15) C dX3_init_37 (by decide) ?_
  refine Go_iload_n (pc := 15) C dX3_init_15 rfl ?_
  refine Go_bipush (pc := 16) (v := 6) C dX3_init_16 cb_6 ?_
  refine Go_icmp_ge (pc := 18) (tgt := 40) C dX3_init_18 (by decide) (fun _ => ?_) (fun hc => absurd (by decide) hc)
  refine Go_cw (ws1 := ((((((([(h0, .inr (3, [.ref q1, .int 0, .int 0]))] ++ [(q1, .inl (K.2.2, 6, .inr (.inr (.inr (.inr (rgf [(a3 0), (a5 0), (a7 0), (a9 0), (a11 0), (a13 0)]))))))]) ++ w1 K a3 i1) ++ w1 K a5 i1) ++ w1 K a7 i1) ++ w1 K a9 i1) ++ w1 K a11 i1) ++ w1 K a13 i1)) (by rw [ring_eq]) ?_
  refine Go_cw (ws1 := w3 K (adr (h0 :: q1 :: (a3 0) :: (a3 1) :: (a3 2) :: (a3 3) :: (a3 4) :: (a3 5) :: (a5 0) :: (a5 1) :: (a5 2) :: (a5 3) :: (a5 4) :: (a5 5) :: (a7 0) :: (a7 1) :: (a7 2) :: (a7 3) :: (a7 4) :: (a7 5) :: (a9 0) :: (a9 1) :: (a9 2) :: (a9 3) :: (a9 4) :: (a9 5) :: (a11 0) :: (a11 1) :: (a11 2) :: (a11 3) :: (a11 4) :: (a11 5) :: (a13 0) :: (a13 1) :: (a13 2) :: (a13 3) :: (a13 4) :: (a13 5) :: [])) ((i1, i1, i1, i1, i1, i1), (0 : Int32), (0 : Int32))) rfl ?_
  exact Go_vretN (wf := fun a => w3 K a ((i1, i1, i1, i1, i1, i1), (0 : Int32), (0 : Int32))) (adr (h0 :: q1 :: (a3 0) :: (a3 1) :: (a3 2) :: (a3 3) :: (a3 4) :: (a3 5) :: (a5 0) :: (a5 1) :: (a5 2) :: (a5 3) :: (a5 4) :: (a5 5) :: (a7 0) :: (a7 1) :: (a7 2) :: (a7 3) :: (a7 4) :: (a7 5) :: (a9 0) :: (a9 1) :: (a9 2) :: (a9 3) :: (a9 4) :: (a9 5) :: (a11 0) :: (a11 1) :: (a11 2) :: (a11 3) :: (a11 4) :: (a11 5) :: (a13 0) :: (a13 1) :: (a13 2) :: (a13 3) :: (a13 4) :: (a13 5) :: [])) rfl C hr dX3_init_40
theorem ycX5_init : CalI yX5_init cX5_init 1 := ⟨mw_198, mw_67, mw_197, ⟨by decide, by decide, by decide +kernel⟩, by decide, rfl⟩
set_option maxHeartbeats 4000000 in
set_option maxRecDepth 100000 in
theorem ctX5_init (l : Launch) (K : KK) (i1 : S1) (hi1 : fX1_reset ((fun _ => 0), (fun _ => 0), (fun _ => 0), (fun _ => 0), (fun _ => 0), (0 : Int32)) = some i1) (i2 : S2) (hi2 : fX2_forget ((fun _ => 0), (0 : Int32)) = some i2) (h0 : Nat) : Cn l K yX5_init cX5_init 1 3 13 393 h0 (.inr (5, [.null, .null, .null])) (fun a => w5 K a (i1, ((fun _ => 0), (fun _ => 0), (fun _ => 0), (fun _ => 0)), i2)) := by
  refine Cn_of (by decide) rfl (by decide) ?_
  intro p e σ m args below meth c C hr hin hEx hA
  refine Go_aload_n (pc := 0) C dX5_init_0 rfl ?_
  refine Go_obj (pc := 1) C mw_199 dX5_init_1 (Nat.le_of_ble_eq_true rfl) (Nat.le_of_ble_eq_true rfl) ?_
  refine Go_aload_n (pc := 4) C dX5_init_4 rfl ?_
  refine Go_new (pc := 5) (fs := [.null, .null, .null, .null, .null, .int 0]) C hA (show vwCl[1]? = some _ from rfl) inX1 tyX1 tyX1_ok mw_200 mw_81 mw_62 (by decide) (Nat.le_of_ble_eq_true rfl) (Nat.le_of_ble_eq_true rfl) dX5_init_5 (fun q1 => ?_)
  refine Go_dup (pc := 8) C dX5_init_8 rfl ?_
  refine Go_callI (pc := 9) C hA hEx (ctX1_init l K i1 hi1 q1) ycX1_init mw_201 (Nat.le_of_ble_eq_true rfl) (Nat.le_of_ble_eq_true rfl) ⟨Nat.le_of_ble_eq_true rfl, Nat.le_of_ble_eq_true rfl⟩ dX5_init_9 (fun a2 ha2 => ?_)
  subst ha2
  refine Go_putR (pc := 12) (ws1 := ([(h0, .inr (5, [.ref (a2 0), .null, .null]))] ++ w1 K a2 i1)) C hin 0 0 tyX5 tyX5_ok nmX5 rfl rfl inX5 (by decide) mw_206 rfl rfl rfl rfl (Nat.le_of_ble_eq_true rfl) dX5_init_12 rfl ?_
  refine Go_aload_n (pc := 15) C dX5_init_15 rfl ?_
  refine Go_new (pc := 16) (fs := [.null, .null, .null, .null]) C hA (show vwCl[0]? = some _ from rfl) inX0 tyX0 tyX0_ok mw_202 mw_133 mw_64 (by decide) (Nat.le_of_ble_eq_true rfl) (Nat.le_of_ble_eq_true rfl) dX5_init_16 (fun q3 => ?_)
  refine Go_dup (pc := 19) C dX5_init_19 rfl ?_
  refine Go_callIN (pc := 20) C hA hEx (ctX0_init l K q3) ycX0_init hEx.2.2.2.1 (Nat.le_of_ble_eq_true rfl) (Nat.le_of_ble_eq_true rfl) ⟨Nat.le_of_ble_eq_true rfl, Nat.le_of_ble_eq_true rfl⟩ dX5_init_20 (fun a4 ha4 => ?_)
  subst ha4
  refine Go_putR (pc := 23) (ws1 := (([(h0, .inr (5, [.ref (a2 0), .ref (a4 0), .null]))] ++ w1 K a2 i1) ++ w0 K a4 ((fun _ => 0), (fun _ => 0), (fun _ => 0), (fun _ => 0)))) C hin 0 1 tyX5 tyX5_ok nmX5 rfl rfl inX5 (by decide) mw_209 rfl rfl rfl rfl (Nat.le_of_ble_eq_true rfl) dX5_init_23 rfl ?_
  refine Go_aload_n (pc := 26) C dX5_init_26 rfl ?_
  refine Go_new (pc := 27) (fs := [.null, .int 0]) C hA (show vwCl[2]? = some _ from rfl) inX2 tyX2 tyX2_ok mw_204 mw_155 mw_65 (by decide) (Nat.le_of_ble_eq_true rfl) (Nat.le_of_ble_eq_true rfl) dX5_init_27 (fun q5 => ?_)
  refine Go_dup (pc := 30) C dX5_init_30 rfl ?_
  refine Go_callI (pc := 31) C hA hEx (ctX2_init l K i2 hi2 q5) ycX2_init mw_205 (Nat.le_of_ble_eq_true rfl) (Nat.le_of_ble_eq_true rfl) ⟨Nat.le_of_ble_eq_true rfl, Nat.le_of_ble_eq_true rfl⟩ dX5_init_31 (fun a6 ha6 => ?_)
  subst ha6
  refine Go_putR (pc := 34) (ws1 := ((([(h0, .inr (5, [.ref (a2 0), .ref (a4 0), .ref (a6 0)]))] ++ w1 K a2 i1) ++ w0 K a4 ((fun _ => 0), (fun _ => 0), (fun _ => 0), (fun _ => 0))) ++ w2 K a6 i2)) C hin 0 2 tyX5 tyX5_ok nmX5 rfl rfl inX5 (by decide) mw_211 rfl rfl rfl rfl (Nat.le_of_ble_eq_true rfl) dX5_init_34 rfl ?_
  refine Go_cw (ws1 := w5 K (adr (h0 :: (a2 0) :: (a2 1) :: (a2 2) :: (a2 3) :: (a2 4) :: (a2 5) :: (a4 0) :: (a4 1) :: (a4 2) :: (a4 3) :: (a4 4) :: (a6 0) :: (a6 1) :: [])) (i1, ((fun _ => 0), (fun _ => 0), (fun _ => 0), (fun _ => 0)), i2)) rfl ?_
  exact Go_vretN (wf := fun a => w5 K a (i1, ((fun _ => 0), (fun _ => 0), (fun _ => 0), (fun _ => 0)), i2)) (adr (h0 :: (a2 0) :: (a2 1) :: (a2 2) :: (a2 3) :: (a2 4) :: (a2 5) :: (a4 0) :: (a4 1) :: (a4 2) :: (a4 3) :: (a4 4) :: (a6 0) :: (a6 1) :: [])) rfl C hr dX5_init_37
theorem ycX6_init : CalI yX6_init cX6_init 1 := ⟨mw_76, mw_61, mw_75, ⟨by decide, by decide, by decide +kernel⟩, by decide, rfl⟩
set_option maxHeartbeats 4000000 in
set_option maxRecDepth 100000 in
theorem ctX6_init (l : Launch) (K : KK) (i1 : S1) (hi1 : fX1_reset ((fun _ => 0), (fun _ => 0), (fun _ => 0), (fun _ => 0), (fun _ => 0), (0 : Int32)) = some i1) (i2 : S2) (hi2 : fX2_forget ((fun _ => 0), (0 : Int32)) = some i2) (h0 : Nat) : Cn l K yX6_init cX6_init 1 4 68 1880 h0 (.inr (6, [.null, .null, .null, .null, .null, .null, .null])) (fun a => w6 K a (i1, ((fun _ => 0), (fun _ => 0), (fun _ => 0), (fun _ => 0)), i2, ((i1, i1, i1, i1, i1, i1), (0 : Int32), (0 : Int32)), (i1, ((fun _ => 0), (fun _ => 0), (fun _ => 0), (fun _ => 0)), i2), ((fun _ => 0), (0 : Int32), (0 : Int32), (0 : Int32), (0 : Int32)), (fun _ => 0))) := by
  refine Cn_of (by decide) rfl (by decide) ?_
  intro p e σ m args below meth c C hr hin hEx hA
  refine Go_aload_n (pc := 0) C dX6_init_0 rfl ?_
  refine Go_obj (pc := 1) C mw_77 dX6_init_1 (Nat.le_of_ble_eq_true rfl) (Nat.le_of_ble_eq_true rfl) ?_
  refine Go_aload_n (pc := 4) C dX6_init_4 rfl ?_
  refine Go_new (pc := 5) (fs := [.null, .null, .null, .null, .null, .int 0]) C hA (show vwCl[1]? = some _ from rfl) inX1 tyX1 tyX1_ok mw_80 mw_81 mw_62 (by decide) (Nat.le_of_ble_eq_true rfl) (Nat.le_of_ble_eq_true rfl) dX6_init_5 (fun q1 => ?_)
  refine Go_dup (pc := 8) C dX6_init_8 rfl ?_
  refine Go_callI (pc := 9) C hA hEx (ctX1_init l K i1 hi1 q1) ycX1_init mw_82 (Nat.le_of_ble_eq_true rfl) (Nat.le_of_ble_eq_true rfl) ⟨Nat.le_of_ble_eq_true rfl, Nat.le_of_ble_eq_true rfl⟩ dX6_init_9 (fun a2 ha2 => ?_)
  subst ha2
  refine Go_putR (pc := 12) (ws1 := ([(h0, .inr (6, [.ref (a2 0), .null, .null, .null, .null, .null, .null]))] ++ w1 K a2 i1)) C hin 0 0 tyX6 tyX6_ok nmX6 rfl rfl inX6 (by decide) mw_243 rfl rfl rfl rfl (Nat.le_of_ble_eq_true rfl) dX6_init_12 rfl ?_
  refine Go_aload_n (pc := 15) C dX6_init_15 rfl ?_
  refine Go_new (pc := 16) (fs := [.null, .null, .null, .null]) C hA (show vwCl[0]? = some _ from rfl) inX0 tyX0 tyX0_ok mw_132 mw_133 mw_64 (by decide) (Nat.le_of_ble_eq_true rfl) (Nat.le_of_ble_eq_true rfl) dX6_init_16 (fun q3 => ?_)
  refine Go_dup (pc := 19) C dX6_init_19 rfl ?_
  refine Go_callIN (pc := 20) C hA hEx (ctX0_init l K q3) ycX0_init hEx.2.1 (Nat.le_of_ble_eq_true rfl) (Nat.le_of_ble_eq_true rfl) ⟨Nat.le_of_ble_eq_true rfl, Nat.le_of_ble_eq_true rfl⟩ dX6_init_20 (fun a4 ha4 => ?_)
  subst ha4
  refine Go_putR (pc := 23) (ws1 := (([(h0, .inr (6, [.ref (a2 0), .ref (a4 0), .null, .null, .null, .null, .null]))] ++ w1 K a2 i1) ++ w0 K a4 ((fun _ => 0), (fun _ => 0), (fun _ => 0), (fun _ => 0)))) C hin 0 1 tyX6 tyX6_ok nmX6 rfl rfl inX6 (by decide) mw_244 rfl rfl rfl rfl (Nat.le_of_ble_eq_true rfl) dX6_init_23 rfl ?_
  refine Go_aload_n (pc := 26) C dX6_init_26 rfl ?_
  refine Go_new (pc := 27) (fs := [.null, .int 0]) C hA (show vwCl[2]? = some _ from rfl) inX2 tyX2 tyX2_ok mw_154 mw_155 mw_65 (by decide) (Nat.le_of_ble_eq_true rfl) (Nat.le_of_ble_eq_true rfl) dX6_init_27 (fun q5 => ?_)
  refine Go_dup (pc := 30) C dX6_init_30 rfl ?_
  refine Go_callI (pc := 31) C hA hEx (ctX2_init l K i2 hi2 q5) ycX2_init mw_156 (Nat.le_of_ble_eq_true rfl) (Nat.le_of_ble_eq_true rfl) ⟨Nat.le_of_ble_eq_true rfl, Nat.le_of_ble_eq_true rfl⟩ dX6_init_31 (fun a6 ha6 => ?_)
  subst ha6
  refine Go_putR (pc := 34) (ws1 := ((([(h0, .inr (6, [.ref (a2 0), .ref (a4 0), .ref (a6 0), .null, .null, .null, .null]))] ++ w1 K a2 i1) ++ w0 K a4 ((fun _ => 0), (fun _ => 0), (fun _ => 0), (fun _ => 0))) ++ w2 K a6 i2)) C hin 0 2 tyX6 tyX6_ok nmX6 rfl rfl inX6 (by decide) mw_245 rfl rfl rfl rfl (Nat.le_of_ble_eq_true rfl) dX6_init_34 rfl ?_
  refine Go_aload_n (pc := 37) C dX6_init_37 rfl ?_
  refine Go_new (pc := 38) (fs := [.null, .int 0, .int 0]) C hA (show vwCl[3]? = some _ from rfl) inX3 tyX3 tyX3_ok mw_174 mw_175 mw_66 (by decide) (Nat.le_of_ble_eq_true rfl) (Nat.le_of_ble_eq_true rfl) dX6_init_38 (fun q7 => ?_)
  refine Go_dup (pc := 41) C dX6_init_41 rfl ?_
  refine Go_callI (pc := 42) C hA hEx (ctX3_init l K i1 hi1 q7) ycX3_init mw_176 (Nat.le_of_ble_eq_true rfl) (Nat.le_of_ble_eq_true rfl) ⟨Nat.le_of_ble_eq_true rfl, Nat.le_of_ble_eq_true rfl⟩ dX6_init_42 (fun a8 ha8 => ?_)
  subst ha8
  refine Go_putR (pc := 45) (ws1 := (((([(h0, .inr (6, [.ref (a2 0), .ref (a4 0), .ref (a6 0), .ref (a8 0), .null, .null, .null]))] ++ w1 K a2 i1) ++ w0 K a4 ((fun _ => 0), (fun _ => 0), (fun _ => 0), (fun _ => 0))) ++ w2 K a6 i2) ++ w3 K a8 ((i1, i1, i1, i1, i1, i1), (0 : Int32), (0 : Int32)))) C hin 0 3 tyX6 tyX6_ok nmX6 rfl rfl inX6 (by decide) mw_246 rfl rfl rfl rfl (Nat.le_of_ble_eq_true rfl) dX6_init_45 rfl ?_
  refine Go_aload_n (pc := 48) C dX6_init_48 rfl ?_
  refine Go_new (pc := 49) (fs := [.null, .null, .null]) C hA (show vwCl[5]? = some _ from rfl) inX5 tyX5 tyX5_ok mw_194 mw_195 mw_67 (by decide) (Nat.le_of_ble_eq_true rfl) (Nat.le_of_ble_eq_true rfl) dX6_init_49 (fun q9 => ?_)
  refine Go_dup (pc := 52) C dX6_init_52 rfl ?_
  refine Go_callIN (pc := 53) C hA hEx (ctX5_init l K i1 hi1 i2 hi2 q9) ycX5_init hEx.2.2.1 (Nat.le_of_ble_eq_true rfl) (Nat.le_of_ble_eq_true rfl) ⟨Nat.le_of_ble_eq_true rfl, Nat.le_of_ble_eq_true rfl⟩ dX6_init_53 (fun a10 ha10 => ?_)
  subst ha10
  refine Go_putR (pc := 56) (ws1 := ((((([(h0, .inr (6, [.ref (a2 0), .ref (a4 0), .ref (a6 0), .ref (a8 0), .ref (a10 0), .null, .null]))] ++ w1 K a2 i1) ++ w0 K a4 ((fun _ => 0), (fun _ => 0), (fun _ => 0), (fun _ => 0))) ++ w2 K a6 i2) ++ w3 K a8 ((i1, i1, i1, i1, i1, i1), (0 : Int32), (0 : Int32))) ++ w5 K a10 (i1, ((fun _ => 0), (fun _ => 0), (fun _ => 0), (fun _ => 0)), i2))) C hin 0 4 tyX6 tyX6_ok nmX6 rfl rfl inX6 (by decide) mw_247 rfl rfl rfl rfl (Nat.le_of_ble_eq_true rfl) dX6_init_56 rfl ?_
  refine Go_aload_n (pc := 59) C dX6_init_59 rfl ?_
  refine Go_new (pc := 60) (fs := [.null, .int 0, .int 0, .int 0, .int 0]) C hA (show vwCl[4]? = some _ from rfl) inX4 tyX4 tyX4_ok mw_220 mw_221 mw_68 (by decide) (Nat.le_of_ble_eq_true rfl) (Nat.le_of_ble_eq_true rfl) dX6_init_60 (fun q11 => ?_)
  refine Go_dup (pc := 63) C dX6_init_63 rfl ?_
  refine Go_callIN (pc := 64) C hA hEx (ctX4_init l K q11) ycX4_init hEx.2.2.2.2 (Nat.le_of_ble_eq_true rfl) (Nat.le_of_ble_eq_true rfl) ⟨Nat.le_of_ble_eq_true rfl, Nat.le_of_ble_eq_true rfl⟩ dX6_init_64 (fun a12 ha12 => ?_)
  subst ha12
  refine Go_putR (pc := 67) (ws1 := (((((([(h0, .inr (6, [.ref (a2 0), .ref (a4 0), .ref (a6 0), .ref (a8 0), .ref (a10 0), .ref (a12 0), .null]))] ++ w1 K a2 i1) ++ w0 K a4 ((fun _ => 0), (fun _ => 0), (fun _ => 0), (fun _ => 0))) ++ w2 K a6 i2) ++ w3 K a8 ((i1, i1, i1, i1, i1, i1), (0 : Int32), (0 : Int32))) ++ w5 K a10 (i1, ((fun _ => 0), (fun _ => 0), (fun _ => 0), (fun _ => 0)), i2)) ++ w4 K a12 ((fun _ => 0), (0 : Int32), (0 : Int32), (0 : Int32), (0 : Int32)))) C hin 0 5 tyX6 tyX6_ok nmX6 rfl rfl inX6 (by decide) mw_248 rfl rfl rfl rfl (Nat.le_of_ble_eq_true rfl) dX6_init_67 rfl ?_
  refine Go_aload_n (pc := 70) C dX6_init_70 rfl ?_
  refine Go_iconst (pc := 71) (v := 3) C dX6_init_71 ci_3 ?_
  refine Go_newa (pc := 72) (N := 3) C hA (by decide) (by decide) (Nat.le_of_ble_eq_true rfl) (Nat.le_of_ble_eq_true rfl) (Nat.le_of_ble_eq_true rfl) dX6_init_72 (fun q13 => ?_)
  refine Go_putR (pc := 74) (ws1 := ((((((([(h0, .inr (6, [.ref (a2 0), .ref (a4 0), .ref (a6 0), .ref (a8 0), .ref (a10 0), .ref (a12 0), .ref q13]))] ++ w1 K a2 i1) ++ w0 K a4 ((fun _ => 0), (fun _ => 0), (fun _ => 0), (fun _ => 0))) ++ w2 K a6 i2) ++ w3 K a8 ((i1, i1, i1, i1, i1, i1), (0 : Int32), (0 : Int32))) ++ w5 K a10 (i1, ((fun _ => 0), (fun _ => 0), (fun _ => 0), (fun _ => 0)), i2)) ++ w4 K a12 ((fun _ => 0), (0 : Int32), (0 : Int32), (0 : Int32), (0 : Int32))) ++ [(q13, .inl (K.2.1, 3, .inl (fun _ => 0)))])) C hin 0 6 tyX6 tyX6_ok nmX6 rfl rfl inX6 (by decide) mw_249 rfl rfl rfl rfl (Nat.le_of_ble_eq_true rfl) dX6_init_74 rfl ?_
  refine Go_cw (ws1 := w6 K (adr (h0 :: (a2 0) :: (a2 1) :: (a2 2) :: (a2 3) :: (a2 4) :: (a2 5) :: (a4 0) :: (a4 1) :: (a4 2) :: (a4 3) :: (a4 4) :: (a6 0) :: (a6 1) :: (a8 0) :: (a8 1) :: (a8 2) :: (a8 3) :: (a8 4) :: (a8 5) :: (a8 6) :: (a8 7) :: (a8 8) :: (a8 9) :: (a8 10) :: (a8 11) :: (a8 12) :: (a8 13) :: (a8 14) :: (a8 15) :: (a8 16) :: (a8 17) :: (a8 18) :: (a8 19) :: (a8 20) :: (a8 21) :: (a8 22) :: (a8 23) :: (a8 24) :: (a8 25) :: (a8 26) :: (a8 27) :: (a8 28) :: (a8 29) :: (a8 30) :: (a8 31) :: (a8 32) :: (a8 33) :: (a8 34) :: (a8 35) :: (a8 36) :: (a8 37) :: (a10 0) :: (a10 1) :: (a10 2) :: (a10 3) :: (a10 4) :: (a10 5) :: (a10 6) :: (a10 7) :: (a10 8) :: (a10 9) :: (a10 10) :: (a10 11) :: (a10 12) :: (a10 13) :: (a12 0) :: (a12 1) :: q13 :: [])) (i1, ((fun _ => 0), (fun _ => 0), (fun _ => 0), (fun _ => 0)), i2, ((i1, i1, i1, i1, i1, i1), (0 : Int32), (0 : Int32)), (i1, ((fun _ => 0), (fun _ => 0), (fun _ => 0), (fun _ => 0)), i2), ((fun _ => 0), (0 : Int32), (0 : Int32), (0 : Int32), (0 : Int32)), (fun _ => 0))) rfl ?_
  exact Go_vretN (wf := fun a => w6 K a (i1, ((fun _ => 0), (fun _ => 0), (fun _ => 0), (fun _ => 0)), i2, ((i1, i1, i1, i1, i1, i1), (0 : Int32), (0 : Int32)), (i1, ((fun _ => 0), (fun _ => 0), (fun _ => 0), (fun _ => 0)), i2), ((fun _ => 0), (0 : Int32), (0 : Int32), (0 : Int32), (0 : Int32)), (fun _ => 0))) (adr (h0 :: (a2 0) :: (a2 1) :: (a2 2) :: (a2 3) :: (a2 4) :: (a2 5) :: (a4 0) :: (a4 1) :: (a4 2) :: (a4 3) :: (a4 4) :: (a6 0) :: (a6 1) :: (a8 0) :: (a8 1) :: (a8 2) :: (a8 3) :: (a8 4) :: (a8 5) :: (a8 6) :: (a8 7) :: (a8 8) :: (a8 9) :: (a8 10) :: (a8 11) :: (a8 12) :: (a8 13) :: (a8 14) :: (a8 15) :: (a8 16) :: (a8 17) :: (a8 18) :: (a8 19) :: (a8 20) :: (a8 21) :: (a8 22) :: (a8 23) :: (a8 24) :: (a8 25) :: (a8 26) :: (a8 27) :: (a8 28) :: (a8 29) :: (a8 30) :: (a8 31) :: (a8 32) :: (a8 33) :: (a8 34) :: (a8 35) :: (a8 36) :: (a8 37) :: (a10 0) :: (a10 1) :: (a10 2) :: (a10 3) :: (a10 4) :: (a10 5) :: (a10 6) :: (a10 7) :: (a10 8) :: (a10 9) :: (a10 10) :: (a10 11) :: (a10 12) :: (a10 13) :: (a12 0) :: (a12 1) :: q13 :: [])) rfl C hr dX6_init_77
