theorem ll_0 (K : KK) (a : Nat → Nat) (n0 : Nat) (t0 : Nat → Int32) (y : Nat → Int32) : List.set (wA K a n0 t0) 0 (a 0, .inl (K.2.1, n0, .inl y)) = (wA K a n0 y) := rfl
def fJ7_fill_53178_L5 (n0 : Nat) (p1 : Int32) (v1 : Int32) (q2 : Int32 × (Nat → Int32)) : Option ((Int32 × (Nat → Int32)) ⊕ (Int32 × (Nat → Int32))) := (if v1 ≤ q2.1 then some (.inr (q2.1, q2.2)) else (if 0 ≤ q2.1 ∧ q2.1.toNatClampNeg < n0 then Option.bind (some (q2.1 + (1 : Int32))) (fun v3 => some (.inl (v3, upd q2.2 q2.1.toNatClampNeg p1))) else none))
def fJ7_fill_53178 (n0 : Nat) (f0 : (Nat → Int32)) (p1 : Int32) : Option ((Nat → Int32)) := Option.bind (some (nI n0)) (fun v1 => Option.bind (loopF (fJ7_fill_53178_L5 n0 p1 v1) 5000 ((0 : Int32), f0)) (fun z4 => some z4.2))
theorem ycJ7_fill_53178 : CalS yJ7_fill_53178 cJ7_fill_53178 4 none 2 := ⟨mw_92, mw_63, mw_91, ⟨by decide, by decide, by decide +kernel⟩, by decide⟩
set_option maxHeartbeats 4000000 in
set_option maxRecDepth 100000 in
theorem kJ7_fill_53178 (l : Launch) (K : KK) (a : Nat → Nat) (n0 : Nat) (f0 : (Nat → Int32)) (p1 : Int32) (res : (Nat → Int32)) (hf : fJ7_fill_53178 n0 f0 p1 = some res) : Ct l K yJ7_fill_53178 cJ7_fill_53178 4 none 0 [.ref (a 0), .int p1] (wA K a n0 f0) (none) (wA K a n0 res) := by
  refine Ct_of2 (by decide) rfl (Nat.le_of_ble_eq_true rfl) ?_
  intro p e σ m args below meth c C hr
  unfold fJ7_fill_53178 at hf
  refine Go_iconst (pc := 0) (v := 0) C dJ7_fill_53178_0 ci_0 ?_
  refine Go_istore_n (pc := 1) C dJ7_fill_53178_1 (by decide) ?_
  refine Go_aload_n (pc := 2) C dJ7_fill_53178_2 rfl ?_
  refine Go_alen (pc := 3) C 0 rfl dJ7_fill_53178_3 ?_
  obtain ⟨v1, hv1, hf⟩ := bnd hf
  refine Go_topi (Option.some.inj hv1) ?_
  refine Go_istore_n (pc := 4) C dJ7_fill_53178_4 (by decide) ?_
  obtain ⟨z4, hz4, hf⟩ := bnd hf
  refine Go_mask [true, true, true, true] ?_
  refine loopF_go (step := (fJ7_fill_53178_L5 n0 p1 v1)) (fun q2 => Go p l e (rmc 0 0 0) σ m args below meth c K (inW (wA K a n0 f0)) σ.heap 4 0 0 (MQ below (CtQ K (wA K a n0 f0) (none) (wA K a n0 res)) args σ 0 0 (inW (wA K a n0 f0))) (wA K a n0 q2.2) 5 [some (.ref (a 0)), some (.int p1), some (.int q2.1), some (.int v1)] []) (fun z4 => Go p l e (rmc 0 0 0) σ m args below meth c K (inW (wA K a n0 f0)) σ.heap 4 0 0 (MQ below (CtQ K (wA K a n0 f0) (none) (wA K a n0 res)) args σ 0 0 (inW (wA K a n0 f0))) (wA K a n0 z4.2) 20 [some (.ref (a 0)), some (.int p1), some (.int z4.1), some (.int v1)] []) ?_ _ _ _ hz4 ?_
  · intro q2 x hf hk
    unfold fJ7_fill_53178_L5 at hf
    refine Go_iload_n (pc := 5) C dJ7_fill_53178_5 rfl ?_
    refine Go_iload_n (pc := 6) C dJ7_fill_53178_6 rfl ?_
    refine Go_icmp_ge (pc := 7) (tgt := 20) C dJ7_fill_53178_7 (by decide) (fun hc => ?_) (fun hc => ?_)
    · replace hf := ift hc hf
      obtain rfl := Option.some.inj hf
      exact Go_mask [true, true, true, true] hk
    · replace hf := iff' hc hf
      refine Go_aload_n (pc := 10) C dJ7_fill_53178_10 rfl ?_
      refine Go_iload_n (pc := 11) C dJ7_fill_53178_11 rfl ?_
      refine Go_iload_n (pc := 12) C dJ7_fill_53178_12 rfl ?_
      obtain ⟨hb, hf⟩ := ifs hf
      refine Go_iast (pc := 13) (ws1 := (wA K a n0 (upd q2.2 q2.1.toNatClampNeg p1))) C 0 rfl (inb_in hb) dJ7_fill_53178_13 (ll_0 _ _ _ _ _) ?_
      obtain ⟨v3, hv3, hf⟩ := bnd hf
      refine Go_iinc (pc := 14) (v := v3) C dJ7_fill_53178_14 rfl (by rw [ci_1]; exact Option.some.inj hv3) ?_
      refine Go_goto (pc := 17) (tgt := 5) C dJ7_fill_53178_17 (by decide) ?_
      obtain rfl := Option.some.inj hf
      exact Go_mask [true, true, true, true] hk
  · show Go _ _ _ _ _ _ _ _ _ _ _ _ _ _ _ _ _ _ _ _ _
    obtain rfl := Option.some.inj hf
    exact Go_vret C hr rfl dJ7_fill_53178_20
