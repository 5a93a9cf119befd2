theorem law_le {L j : Nat} (hL : L ≤ 2048) (hj : j ≤ L + 3) (h : ¬ nI L - 4 < nI j) : j + 4 ≤ L := by
  rcases Nat.lt_or_ge L (j + 4) with q | q
  · exfalso
    apply h
    rw [Int32.lt_iff_toInt_lt]
    have e1 : (nI L - 4).toInt = (L : Int) - 4 := by
      have := pk_sub_toInt (a := L) (b := 4) (by omega) (by omega)
      exact this
    rw [e1, nI_toInt (by omega)]
    omega
  · exact q
set_option maxHeartbeats 4000000 in
set_option maxRecDepth 100000 in
theorem law_loop {p : Program} {l : Launch} {e : Env} {s : State} {m : MethodId} {below : List Frame} {meth : Method} {c : Code} {K : KK} {b L : Nat} {xs : Nat → Int32} {a a2 : Nat → Nat} {Rel : S6 → S7 → Prop} (hL : L ≤ 2048) (C : Cx p room_1 s m #[Value.ref b] meth c K (fun q : Nat => s.heap.size ≤ q) s.heap code RL 4 10) (hX : va_X b L xs s s.heap) (hbl : b < s.heap.size) (hr : meth.sig.returnType = ret) (hH : LawH Rel) : ∀ (n j : Nat) (i : Int32) (σ : S6) (τ : S7), i = nI j → j ≤ L + 3 → L + 4 ≤ j + 4 * n → Rel σ τ → Go p l e room_1 s m #[Value.ref b] below meth c K (fun q : Nat => s.heap.size ≤ q) s.heap 4 83 3209 (lw_Z below #[Value.ref b] s) (w6 K a σ ++ w7 K a2 τ) 18 [some (.ref b), some (.ref (a 0)), some (.ref (a2 0)), some (.int i)] [] := by
  have hbA : ¬ (fun q : Nat => s.heap.size ≤ q) b := Nat.not_le.mpr hbl
  obtain ⟨hE_pillar, hE_weight, hE_draw, hE_strength, hE_wall, hE_mends, hE_anew, hE_of, hE_rests, hE_all, hE_beside, hE_runs, hE_loses, hE_wave, hE_would, hE_worst, hE_cut, hE_mending, hE_bestWall, hE_bestCell, hE_type, hE_clear, hE_does, hE_back, hE_told, hE_digest⟩ := hH
  intro n
  induction n with
  | zero => intro j i σ τ _ h1 h2; exact absurd h2 (by omega)
  | succ n ih =>
    intro j i σ τ ei hj hjn hRel
    subst ei
    refine Go_iload_n (pc := 18) C dL_law_18 rfl ?_
    refine Go_aload_n (pc := 19) C dL_law_19 rfl ?_
    refine Go_slen (pc := 20) C hX hbl hbA dL_law_20 ?_
    refine Go_iconst (pc := 21) (v := 4) C dL_law_21 ci_4 ?_
    refine Go_isub (pc := 22) C dL_law_22 ?_
    refine Go_icmp_gt (pc := 23) (tgt := 787) C dL_law_23 (by decide) (fun hc => ?_) (fun hc => ?_)
    · refine Go_iconst (pc := 787) (v := 1) C dL_law_787 ci_1 ?_
      intro H locs ls hP hD hS hl
      refine va_forget (fun q hq => hS.2.2 q hq) ?_
      refine W.widen (k := 600000) (n := 7302250) (Nat.le_of_ble_eq_true rfl) (Nat.le_of_ble_eq_true rfl) ?_
      exact lw_ret C.1 C.2.1 hr C.2.2.2.2.2.2.1 dL_law_788
    · have hlt : j + 4 ≤ L := law_le hL hj hc
      have hi0 : vp_in (nI j) L := vp_in_nI (by omega) (by omega)
      have hi1 : vp_in (nI j + 1) L := by rw [show (1 : Int32) = nI 1 from rfl, nI_add]; exact vp_in_nI (by omega) (by omega)
      have hi2 : vp_in (nI j + 2) L := by rw [show (2 : Int32) = nI 2 from rfl, nI_add]; exact vp_in_nI (by omega) (by omega)
      have hi3 : vp_in (nI j + 3) L := by rw [show (3 : Int32) = nI 3 from rfl, nI_add]; exact vp_in_nI (by omega) (by omega)
      have hn : ∀ (σ : S6) (τ : S7), Rel σ τ → Go p l e room_1 s m #[Value.ref b] below meth c K (fun q : Nat => s.heap.size ≤ q) s.heap 4 83 3209 (lw_Z below #[Value.ref b] s) (w6 K a σ ++ w7 K a2 τ) 781 [some (.ref b), some (.ref (a 0)), some (.ref (a2 0)), some (.int (nI j))] [] := by
        intro σ τ hR
        refine Go_iinc (pc := 781) (v := nI (j + 4)) C dL_law_781 rfl (by rw [show Int32.ofInt 4 = nI 4 from by decide, nI_add]) ?_
        refine Go_goto (pc := 784) (tgt := 18) C dL_law_784 (by decide) ?_
        exact ih (j + 4) (nI (j + 4)) σ τ rfl (by omega) (by omega) hR
      refine Go_aload_n (pc := 26) C dL_law_26 rfl ?_
      refine Go_iload_n (pc := 27) C dL_law_27 rfl ?_
      refine Go_sld (pc := 28) C hX hbl hbA hi0 dL_law_28 ?_
      refine Go_bipush (pc := 29) (v := 31) C dL_law_29 cb_31 ?_
      refine Go_iand (pc := 31) C dL_law_31 ?_
      generalize xs (nI j).toNatClampNeg &&& 31 = x
      by_cases hx0 : x = 0
      · refine Go_tabIn (pc := 32) (v := 0) (tgt := 152) C dL_law_32 hx0 (by decide) (by decide) rfl (by decide) ?_
        exact law_pillar C hX hbl hRel hE_pillar hi1 hi2 hi3 hn
      by_cases hx1 : x = 1
      · refine Go_tabIn (pc := 32) (v := 1) (tgt := 185) C dL_law_32 hx1 (by decide) (by decide) rfl (by decide) ?_
        exact law_weight C hX hbl hRel hE_weight hi1 hi2 hi3 hn
      by_cases hx2 : x = 2
      · refine Go_tabIn (pc := 32) (v := 2) (tgt := 218) C dL_law_32 hx2 (by decide) (by decide) rfl (by decide) ?_
        exact law_draw C hX hbl hRel hE_draw hi1 hi2 hi3 hn
      by_cases hx3 : x = 3
      · refine Go_tabIn (pc := 32) (v := 3) (tgt := 251) C dL_law_32 hx3 (by decide) (by decide) rfl (by decide) ?_
        exact law_strength C hX hbl hRel hE_strength hi1 hi2 hi3 hn
      by_cases hx4 : x = 4
      · refine Go_tabIn (pc := 32) (v := 4) (tgt := 284) C dL_law_32 hx4 (by decide) (by decide) rfl (by decide) ?_
        exact law_wall C hX hbl hRel hE_wall hi1 hi2 hi3 hn
      by_cases hx5 : x = 5
      · refine Go_tabIn (pc := 32) (v := 5) (tgt := 327) C dL_law_32 hx5 (by decide) (by decide) rfl (by decide) ?_
        exact law_mends C hX hbl hRel hE_mends hi1 hi2 hi3 hn
      by_cases hx6 : x = 6
      · refine Go_tabIn (pc := 32) (v := 6) (tgt := 340) C dL_law_32 hx6 (by decide) (by decide) rfl (by decide) ?_
        exact law_anew C hX hbl hRel hE_anew hi1 hi2 hi3 hn
      by_cases hx7 : x = 7
      · refine Go_tabIn (pc := 32) (v := 7) (tgt := 353) C dL_law_32 hx7 (by decide) (by decide) rfl (by decide) ?_
        exact law_of C hX hbl hRel hE_of hi1 hi2 hi3 hn
      by_cases hx8 : x = 8
      · refine Go_tabIn (pc := 32) (v := 8) (tgt := 386) C dL_law_32 hx8 (by decide) (by decide) rfl (by decide) ?_
        exact law_rests C hX hbl hRel hE_rests hi1 hi2 hi3 hn
      by_cases hx9 : x = 9
      · refine Go_tabIn (pc := 32) (v := 9) (tgt := 409) C dL_law_32 hx9 (by decide) (by decide) rfl (by decide) ?_
        exact law_all C hX hbl hRel hE_all hi1 hi2 hi3 hn
      by_cases hx10 : x = 10
      · refine Go_tabIn (pc := 32) (v := 10) (tgt := 432) C dL_law_32 hx10 (by decide) (by decide) rfl (by decide) ?_
        exact law_beside C hX hbl hRel hE_beside hi1 hi2 hi3 hn
      by_cases hx11 : x = 11
      · refine Go_tabIn (pc := 32) (v := 11) (tgt := 465) C dL_law_32 hx11 (by decide) (by decide) rfl (by decide) ?_
        exact law_runs C hX hbl hRel hE_runs hi1 hi2 hi3 hn
      by_cases hx12 : x = 12
      · refine Go_tabIn (pc := 32) (v := 12) (tgt := 478) C dL_law_32 hx12 (by decide) (by decide) rfl (by decide) ?_
        exact law_loses C hX hbl hRel hE_loses hi1 hi2 hi3 hn
      by_cases hx13 : x = 13
      · refine Go_tabIn (pc := 32) (v := 13) (tgt := 501) C dL_law_32 hx13 (by decide) (by decide) rfl (by decide) ?_
        exact law_wave C hX hbl hRel hE_wave hi1 hi2 hi3 hn
      by_cases hx14 : x = 14
      · refine Go_tabIn (pc := 32) (v := 14) (tgt := 534) C dL_law_32 hx14 (by decide) (by decide) rfl (by decide) ?_
        exact law_would C hX hbl hRel hE_would hi1 hi2 hi3 hn
      by_cases hx15 : x = 15
      · refine Go_tabIn (pc := 32) (v := 15) (tgt := 567) C dL_law_32 hx15 (by decide) (by decide) rfl (by decide) ?_
        exact law_worst C hX hbl hRel hE_worst hi1 hi2 hi3 hn
      by_cases hx16 : x = 16
      · refine Go_tabIn (pc := 32) (v := 16) (tgt := 590) C dL_law_32 hx16 (by decide) (by decide) rfl (by decide) ?_
        exact law_cut C hX hbl hRel hE_cut hi1 hi2 hi3 hn
      by_cases hx17 : x = 17
      · refine Go_tabIn (pc := 32) (v := 17) (tgt := 613) C dL_law_32 hx17 (by decide) (by decide) rfl (by decide) ?_
        exact law_mending C hX hbl hRel hE_mending hi1 hi2 hi3 hn
      by_cases hx18 : x = 18
      · refine Go_tabIn (pc := 32) (v := 18) (tgt := 626) C dL_law_32 hx18 (by decide) (by decide) rfl (by decide) ?_
        exact law_bestWall C hX hbl hRel hE_bestWall hi1 hi2 hi3 hn
      by_cases hx19 : x = 19
      · refine Go_tabIn (pc := 32) (v := 19) (tgt := 649) C dL_law_32 hx19 (by decide) (by decide) rfl (by decide) ?_
        exact law_bestCell C hX hbl hRel hE_bestCell hi1 hi2 hi3 hn
      by_cases hx20 : x = 20
      · refine Go_tabIn (pc := 32) (v := 20) (tgt := 682) C dL_law_32 hx20 (by decide) (by decide) rfl (by decide) ?_
        exact law_type C hX hbl hRel hE_type hi1 hi2 hi3 hn
      by_cases hx21 : x = 21
      · refine Go_tabIn (pc := 32) (v := 21) (tgt := 705) C dL_law_32 hx21 (by decide) (by decide) rfl (by decide) ?_
        exact law_clear C hX hbl hRel hE_clear hi1 hi2 hi3 hn
      by_cases hx22 : x = 22
      · refine Go_tabIn (pc := 32) (v := 22) (tgt := 718) C dL_law_32 hx22 (by decide) (by decide) rfl (by decide) ?_
        exact law_does C hX hbl hRel hE_does hi1 hi2 hi3 hn
      by_cases hx23 : x = 23
      · refine Go_tabIn (pc := 32) (v := 23) (tgt := 731) C dL_law_32 hx23 (by decide) (by decide) rfl (by decide) ?_
        exact law_back C hX hbl hRel hE_back hi1 hi2 hi3 hn
      by_cases hx24 : x = 24
      · refine Go_tabIn (pc := 32) (v := 24) (tgt := 744) C dL_law_32 hx24 (by decide) (by decide) rfl (by decide) ?_
        exact law_told C hX hbl hRel hE_told hi1 hi2 hi3 hn
      by_cases hx25 : x = 25
      · refine Go_tabIn (pc := 32) (v := 25) (tgt := 767) C dL_law_32 hx25 (by decide) (by decide) rfl (by decide) ?_
        exact law_digest C hX hbl hRel hE_digest hi1 hi2 hi3 hn
      refine Go_tabOut (pc := 32) (tgt := 781) C dL_law_32 (by have g0 := lv_neT hx0 (show (0 : Int32).toInt = 0 by decide); have g1 := lv_neT hx1 (show (1 : Int32).toInt = 1 by decide); have g2 := lv_neT hx2 (show (2 : Int32).toInt = 2 by decide); have g3 := lv_neT hx3 (show (3 : Int32).toInt = 3 by decide); have g4 := lv_neT hx4 (show (4 : Int32).toInt = 4 by decide); have g5 := lv_neT hx5 (show (5 : Int32).toInt = 5 by decide); have g6 := lv_neT hx6 (show (6 : Int32).toInt = 6 by decide); have g7 := lv_neT hx7 (show (7 : Int32).toInt = 7 by decide); have g8 := lv_neT hx8 (show (8 : Int32).toInt = 8 by decide); have g9 := lv_neT hx9 (show (9 : Int32).toInt = 9 by decide); have g10 := lv_neT hx10 (show (10 : Int32).toInt = 10 by decide); have g11 := lv_neT hx11 (show (11 : Int32).toInt = 11 by decide); have g12 := lv_neT hx12 (show (12 : Int32).toInt = 12 by decide); have g13 := lv_neT hx13 (show (13 : Int32).toInt = 13 by decide); have g14 := lv_neT hx14 (show (14 : Int32).toInt = 14 by decide); have g15 := lv_neT hx15 (show (15 : Int32).toInt = 15 by decide); have g16 := lv_neT hx16 (show (16 : Int32).toInt = 16 by decide); have g17 := lv_neT hx17 (show (17 : Int32).toInt = 17 by decide); have g18 := lv_neT hx18 (show (18 : Int32).toInt = 18 by decide); have g19 := lv_neT hx19 (show (19 : Int32).toInt = 19 by decide); have g20 := lv_neT hx20 (show (20 : Int32).toInt = 20 by decide); have g21 := lv_neT hx21 (show (21 : Int32).toInt = 21 by decide); have g22 := lv_neT hx22 (show (22 : Int32).toInt = 22 by decide); have g23 := lv_neT hx23 (show (23 : Int32).toInt = 23 by decide); have g24 := lv_neT hx24 (show (24 : Int32).toInt = 24 by decide); have g25 := lv_neT hx25 (show (25 : Int32).toInt = 25 by decide); omega) (by decide) ?_
      exact hn σ τ hRel
set_option maxHeartbeats 4000000 in
set_option maxRecDepth 100000 in
theorem law_start {p : Program} {e : Env} {s : State} {m : MethodId} {below : List Frame} {meth : Method} {c : Code} (l : Launch) {b L : Nat} {xs : Nat → Int32} (hL : L ≤ 2048) (C0 : lw_At p s m meth c b L xs) {Rel : S6 → S7 → Prop} (i1 : S1) (hi1 : fX1_reset ((fun _ => 0), (fun _ => 0), (fun _ => 0), (fun _ => 0), (fun _ => 0), (0 : Int32)) = some i1) (i2 : S2) (hi2 : fX2_forget ((fun _ => 0), (0 : Int32)) = some i2) (hRel : Rel (i1, ((fun _ => 0), (fun _ => 0), (fun _ => 0), (fun _ => 0)), i2, ((i1, i1, i1, i1, i1, i1), (0 : Int32), (0 : Int32)), (i1, ((fun _ => 0), (fun _ => 0), (fun _ => 0), (fun _ => 0)), i2), ((fun _ => 0), (0 : Int32), (0 : Int32), (0 : Int32), (0 : Int32)), (fun _ => 0)) ((fun _ => 0), (onf 96), (0 : Int32), (fun _ => 0), (fun _ => 0), (0 : Int32), (0 : Int32), (0 : Int32), (fun _ => 0), (fun _ => 0), (fun _ => 0), (fun _ => 0), (fun _ => 0), (0 : Int32), (fun _ => 0), (fun _ => 0), (0 : Int32), (0 : Int32), (0 : Int32), (0 : Int32), (0 : Int32), (fun _ => 0), (fun _ => 0))) (hH : LawH Rel) : W p l e room_1 s m #[Value.ref b] below meth c s.heap [] 0 0 (lw_Z below #[Value.ref b] s) (entryFrame m ([Value.ref b] : List Value).toArray 4) := by
  obtain ⟨hx, hb, hr, hml, hown, hts, hX, hbl, hlocks, hgv⟩ := C0
  have htg : ∀ w ∈ lw_g, w.before #[Value.ref b] s = true := fun w h => hts w (List.mem_filter.mp h).1
  obtain ⟨c0, iS0, hKn0⟩ := u_known (C := RX0) (T := TX0) (N := 4) (n := 4) htg inX0 (htg _ mw_133)
  obtain ⟨c1, iS1, hKn1⟩ := u_known (C := RX1) (T := TX1) (N := 6) (n := 6) htg inX1 (htg _ mw_81)
  obtain ⟨c2, iS2, hKn2⟩ := u_known (C := RX2) (T := TX2) (N := 2) (n := 2) htg inX2 (htg _ mw_155)
  obtain ⟨c3, iS3, hKn3⟩ := u_known (C := RX3) (T := TX3) (N := 3) (n := 3) htg inX3 (htg _ mw_175)
  obtain ⟨c4, iS4, hKn4⟩ := u_known (C := RX4) (T := TX4) (N := 5) (n := 5) htg inX4 (htg _ mw_221)
  obtain ⟨c5, iS5, hKn5⟩ := u_known (C := RX5) (T := TX5) (N := 3) (n := 3) htg inX5 (htg _ mw_195)
  obtain ⟨c6, iS6, hKn6⟩ := u_known (C := RX6) (T := TX6) (N := 7) (n := 7) htg inX6 (htg _ mw_73)
  obtain ⟨c7, iS7, hKn7⟩ := u_known (C := RX7) (T := TX7) (N := 23) (n := 23) htg inX7 (htg _ mw_624)
  obtain ⟨dC, dI, hKc⟩ : ∃ (dC : Nat → ClassId) (dI : Nat → Nat → Nat), ∀ (k : Nat) (q : vw_C), vwCl[k]? = some q → u_Kn s q.1 q.2.1 q.2.2 (dC k) (dI k) := by
    refine ⟨fun k => match k with | 0 => c0 | 1 => c1 | 2 => c2 | 3 => c3 | 4 => c4 | 5 => c5 | 6 => c6 | _ => c7, fun k => match k with | 0 => iS0 | 1 => iS1 | 2 => iS2 | 3 => iS3 | 4 => iS4 | 5 => iS5 | 6 => iS6 | _ => iS7, ?_⟩
    intro k q hq
    match k, hq with
    | 0, hq => cases hq; exact hKn0
    | 1, hq => cases hq; exact hKn1
    | 2, hq => cases hq; exact hKn2
    | 3, hq => cases hq; exact hKn3
    | 4, hq => cases hq; exact hKn4
    | 5, hq => cases hq; exact hKn5
    | 6, hq => cases hq; exact hKn6
    | 7, hq => cases hq; exact hKn7
    | k + 8, hq => simp [vwCl] at hq
  obtain ⟨cI, kI, compI, f1, f2, f3⟩ := Cond.arrayClass_spec (htg _ mw_131)
  have hAO : va_AO RX1 s := hts (Cond.arrayOver (.object RX1)) (List.mem_of_getElem? (i := 181) (by decide +kernel))
  obtain ⟨compM, cM, kM, g1, g2, g3, g4, g5⟩ := Cond.arrayOver_spec hAO
  have hEx : Ex0 s := ⟨hAO, va_Nw.of rfl (hts (Cond.methodLinkNest "PillarRuns" 18 yX0_init "PillarRuns") (List.mem_of_getElem? (i := 134) (by decide +kernel))), va_Nw.of rfl (hts (Cond.methodLinkNest "PillarRuns" 39 yX5_init "PillarRuns") (List.mem_of_getElem? (i := 196) (by decide +kernel))), va_Nw.of rfl (hts (Cond.methodLinkNest "PillarRuns$Trial" 18 yX0_init "PillarRuns") (List.mem_of_getElem? (i := 203) (by decide +kernel))), va_Nw.of rfl (hts (Cond.methodLinkNest "PillarRuns" 46 yX4_init "PillarRuns") (List.mem_of_getElem? (i := 222) (by decide +kernel)))⟩
  obtain ⟨K, hK⟩ : ∃ K : KK, va_K K.1 vwCl (ktys K) s := by
    refine ⟨((dC, dI), cI, cM), hKc, fun k q hq => ?_⟩
    match k, hq with
    | 0, hq => cases hq; exact ⟨fun N z => ⟨(fun k h => by cases h), kI, f2, compI, f3⟩, f1⟩
    | 1, hq => cases hq; exact ⟨fun N z => ⟨(fun k h => by cases h), kM, g3, compM, g4⟩, kM, compM, g3, g4, g1, g5⟩
    | k + 2, hq => simp [ktys] at hq
  have C : Cx p room_1 s m #[Value.ref b] meth c K (fun q : Nat => s.heap.size ≤ q) s.heap code RL 4 10 := ⟨hx, hb, hml, hown, htg, hK, hlocks, Nat.le_of_ble_eq_true rfl, Nat.le_of_ble_eq_true rfl⟩
  have hA : ∀ q : Nat, s.heap.size ≤ q → (fun q : Nat => s.heap.size ≤ q) q := fun _ h => h
  have G : Go p l e room_1 s m #[Value.ref b] below meth c K (fun q : Nat => s.heap.size ≤ q) s.heap 4 0 0 (lw_Z below #[Value.ref b] s) [] 0 (lv0 [.ref b] 4) [] := by
    refine Go_new (pc := 0) (fs := [.null, .null, .null, .null, .null, .null, .null]) C hA (show vwCl[6]? = some _ from rfl) inX6 tyX6 tyX6_ok mw_72 mw_73 mw_61 (by decide) (Nat.le_of_ble_eq_true rfl) (Nat.le_of_ble_eq_true rfl) dL_law_0 (fun q6 => ?_)
    refine Go_dup (pc := 3) C dL_law_3 rfl ?_
    refine Go_callI (pc := 4) C hA hEx (ctX6_init l K i1 hi1 i2 hi2 q6) ycX6_init mw_74 (Nat.le_of_ble_eq_true rfl) (Nat.le_of_ble_eq_true rfl) ⟨(Nat.le_of_ble_eq_true rfl), (Nat.le_of_ble_eq_true rfl)⟩ dL_law_4 (fun a ha => ?_)
    subst ha
    refine Go_astore_n (pc := 7) C dL_law_7 (by decide) ?_
    refine Go_new (pc := 8) (fs := (.null :: .null :: .int 0 :: .null :: .null :: .int 0 :: .int 0 :: .int 0 :: .null :: .null :: .null :: .null :: .null :: .int 0 :: .null :: .null :: .int 0 :: .int 0 :: .int 0 :: .int 0 :: .int 0 :: .null :: .null :: [])) C hA (show vwCl[7]? = some _ from rfl) inX7 tyX7 tyX7_ok mw_623 mw_624 mw_69 (by decide) (Nat.le_of_ble_eq_true rfl) (Nat.le_of_ble_eq_true rfl) dL_law_8 (fun q7 => ?_)
    refine Go_dup (pc := 11) C dL_law_11 rfl ?_
    refine Go_callI (pc := 12) C hA hEx (ctX7_init l K q7) ycX7_init mw_625 (Nat.le_of_ble_eq_true rfl) (Nat.le_of_ble_eq_true rfl) ⟨(Nat.le_of_ble_eq_true rfl), (Nat.le_of_ble_eq_true rfl)⟩ dL_law_12 (fun a2 ha => ?_)
    subst ha
    refine Go_astore_n (pc := 15) C dL_law_15 (by decide) ?_
    refine Go_iconst (pc := 16) (v := 0) C dL_law_16 ci_0 ?_
    refine Go_istore_n (pc := 17) C dL_law_17 (by decide) ?_
    refine Go_cw (ws1 := w6 K a (i1, ((fun _ => 0), (fun _ => 0), (fun _ => 0), (fun _ => 0)), i2, ((i1, i1, i1, i1, i1, i1), (0 : Int32), (0 : Int32)), (i1, ((fun _ => 0), (fun _ => 0), (fun _ => 0), (fun _ => 0)), i2), ((fun _ => 0), (0 : Int32), (0 : Int32), (0 : Int32), (0 : Int32)), (fun _ => 0)) ++ w7 K a2 ((fun _ => 0), (onf 96), (0 : Int32), (fun _ => 0), (fun _ => 0), (0 : Int32), (0 : Int32), (0 : Int32), (fun _ => 0), (fun _ => 0), (fun _ => 0), (fun _ => 0), (fun _ => 0), (0 : Int32), (fun _ => 0), (fun _ => 0), (0 : Int32), (0 : Int32), (0 : Int32), (0 : Int32), (0 : Int32), (fun _ => 0), (fun _ => 0))) rfl ?_
    exact law_loop hL C hX hbl hr hH (L + 1) 0 0 _ _ nI_0.symm (by omega) (by omega) hRel
  have hl := lv_entry [Value.ref b] (n := 4) (Nat.le_of_ble_eq_true rfl)
  rw [lg_entry_eq]
  refine G s.heap [] _ (fun k q h => by simp at h) ⟨fun i j p q h => by simp at h, fun k q h => by simp at h⟩ va_S.rf ⟨hl.1, hl.2.1, fun i v h => ?_⟩
  have h1 := lget_lv0 [Value.ref b] _ i v h
  have h2 := lv_args_mem [Value.ref b] 0 i v (by intro v hv; simp at hv; subst hv; rfl) h1
  have h3 := hl.2.2 _ h2
  simpa using h3
