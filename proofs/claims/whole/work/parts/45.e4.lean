/-! rests, of, mending, wave -/
theorem RB_SM {σ : S6} {τ τ1 : S7} {M : AM} {k : Nat} {H : Nat → AM} {w : Nat} {V : Nat → Nat → Bool} {tl : Nat} {tx : Nat → Nat} (h : RB σ τ M k H w V tl tx) (h2 : SM τ τ1) (b : S0) (t : S5) : RB (σ.1, b, σ.2.2.1, σ.2.2.2.1, t, σ.2.2.2.2.2) τ1 M k H w V tl tx := by
  obtain ⟨f, g, a, c, rfl⟩ := h2
  exact h
theorem Rel_SM {σ : S6} {τ τ1 : S7} {M : AM} {k : Nat} {H : Nat → AM} {w : Nat} {V : Nat → Nat → Bool} {tl : Nat} {tx : Nat → Nat} (h : RB σ τ M k H w V tl tx) (h2 : SM τ τ1) (b : S0) (t : S5) : Rel (σ.1, b, σ.2.2.1, σ.2.2.2.1, t, σ.2.2.2.2.2) τ1 := ⟨M, k, H, w, V, tl, tx, RB_SM h h2 b t⟩
theorem E_rests : E1 Rel fX6_rests fX7_rests := by
  intro σ τ x h
  rcases wc x with ⟨c, hc, rfl⟩ | ⟨a1, a2⟩
  · obtain ⟨M, k, H, w, V, tl, tx, hB⟩ := h
    obtain ⟨b1, e1, e2⟩ := lay_ok hB.1 σ.2.1
    obtain ⟨f, g, e3, e4⟩ := setRooms_ok (τ := τ) hB.2.1.2.2.2.2.1
    have hgr := TR_GR hB.2.1 hB.1.1
    have e5 := bearer_ok (τ := (τ.1, τ.2.1, τ.2.2.1, τ.2.2.2.1, τ.2.2.2.2.1, τ.2.2.2.2.2.1, τ.2.2.2.2.2.2.1, τ.2.2.2.2.2.2.2.1, τ.2.2.2.2.2.2.2.2.1, f, g, τ.2.2.2.2.2.2.2.2.2.2.2)) (S := M.up) (cl := M.cl) (x := τ.2.2.2.2.2.1) e4 hB.2.1.2.2.2.1 hgr.2.1 hc
    have hu := e2.1 c hc
    refine ⟨brI (br M.cl M.wl M.up c), _, _, ?_, ?_, Rel_SM hB ⟨f, g, τ.2.2.2.2.2.2.2.2.2.2.2.1, τ.2.2.2.2.2.2.2.2.2.2.2.2.1, rfl⟩ b1 σ.2.2.2.2.1⟩
    · simp (disch := omega) only [fX6_rests, wc6, e1, hu, nI_leI, nI_clamp, Nat.zero_le, true_and, l_0, l_1, nI_eq, ↓reduceIte, bnd_some, or_true, true_or, if_pos, if_neg, ↓l_m1, ↓l_m2, ↓l_m3, ↓l_m4]
    · simp (disch := omega) only [fX7_rests, wc7, e3, e5, l_0, l_1, nI_eq, ↓reduceIte, bnd_some, or_true, true_or, if_pos, if_neg, ↓l_m1, ↓l_m2, ↓l_m3, ↓l_m4]
  · obtain ⟨σ1, τ1, e3, e4, e5⟩ := bad_ok h
    refine ⟨mI2, σ1, τ1, ?_, ?_, e5⟩
    · simp (disch := omega) only [fX6_rests, a1, e3, l_0, l_1, nI_eq, ↓reduceIte, bnd_some, or_true, true_or, if_pos, if_neg, ↓l_m1, ↓l_m2, ↓l_m3, ↓l_m4]
    · simp (disch := omega) only [fX7_rests, a2, e4, l_0, l_1, nI_eq, ↓reduceIte, bnd_some, or_true, true_or, if_pos, if_neg, ↓l_m1, ↓l_m2, ↓l_m3, ↓l_m4]
theorem of_both {σ : S6} {τ : S7} {M : AM} (h1 : MR σ.1 M) (h2 : TR τ M) (hb : BR σ.2.1 M) {p q : Nat} (hp : p < M.n) (hq : q ≤ 5) : ∃ v τ1, fX6_tellPillar σ (nI p) (nI q) = some v ∧ fX7_ofBy τ (nI p) (nI q) = some (v, τ1) ∧ SM τ τ1 := by
  have hn := h1.1.1
  obtain ⟨τ1, e1, e2, e3, -⟩ := bears_ok (x := τ.2.2.2.2.2.1) (TR_GR h2 h1.1) h2.2.2.2.1
  have hl := e3.1 p (by omega)
  have hr := e3.2 p (by omega)
  have c1 := h1.2.2.1 p hp
  have c2 := h2.2.1 p hp
  have g1 := h1.2.2.2.1 p hp
  have g2 := h2.2.2.1 p hp
  have u1 := h1.2.2.2.2.1 p hp
  have u2 := h2.2.2.2.1 p (by omega)
  have b1 := hb.2.1 p (by omega)
  have b2 := hb.2.2 p (by omega)
  rcases (show q = 0 ∨ q = 1 ∨ q = 2 ∨ q = 3 ∨ q = 4 ∨ q = 5 by omega) with rfl | rfl | rfl | rfl | rfl | rfl
  · refine ⟨nI (M.cl p), τ, ?_, ?_, SM_rfl τ⟩
    · simp (disch := omega) only [fX6_tellPillar, c1, l_0, l_1, l_2, l_3, l_4, l_5, l_6, l_7, l_8, l_9, l_10, l_11, l_12, l_13, l_14, l_15, l_16, l_17, l_18, l_19, l_20, l_21, l_24, l_28, l_31, l_32, l_33, l_45, l_47, l_48, l_57, l_59, l_84, l_95, l_96, l_100, l_112, l_119, l_120, l_127, l_140, l_700, l_840, l_999, l_4095, l_999999, ↓l_m1, ↓l_m2, ↓l_m3, ↓l_m4, ↓l_m10, ↓l_m10000, nI_leI, nI_ltI, nI_eq, mI_le, mI_lt, le_mI, lt_mI, mI_eq, eq_mI, nI_add, pk_mul, pk_sub, pk_div, nI_clamp, md_eq, Nat.zero_le, true_and, and_true, and_self, if_pos, if_neg, Option.bind_some, bnd_some, Sum.elim_inl, Sum.elim_inr, ↓reduceIte]
    · simp (disch := omega) only [fX7_ofBy, c2, l_0, l_1, l_2, l_3, l_4, l_5, l_6, l_7, l_8, l_9, l_10, l_11, l_12, l_13, l_14, l_15, l_16, l_17, l_18, l_19, l_20, l_21, l_24, l_28, l_31, l_32, l_33, l_45, l_47, l_48, l_57, l_59, l_84, l_95, l_96, l_100, l_112, l_119, l_120, l_127, l_140, l_700, l_840, l_999, l_4095, l_999999, ↓l_m1, ↓l_m2, ↓l_m3, ↓l_m4, ↓l_m10, ↓l_m10000, nI_leI, nI_ltI, nI_eq, mI_le, mI_lt, le_mI, lt_mI, mI_eq, eq_mI, nI_add, pk_mul, pk_sub, pk_div, nI_clamp, md_eq, Nat.zero_le, true_and, and_true, and_self, if_pos, if_neg, Option.bind_some, bnd_some, Sum.elim_inl, Sum.elim_inr, ↓reduceIte]
  · refine ⟨nI (M.sg p), τ, ?_, ?_, SM_rfl τ⟩
    · simp (disch := omega) only [fX6_tellPillar, g1, l_0, l_1, l_2, l_3, l_4, l_5, l_6, l_7, l_8, l_9, l_10, l_11, l_12, l_13, l_14, l_15, l_16, l_17, l_18, l_19, l_20, l_21, l_24, l_28, l_31, l_32, l_33, l_45, l_47, l_48, l_57, l_59, l_84, l_95, l_96, l_100, l_112, l_119, l_120, l_127, l_140, l_700, l_840, l_999, l_4095, l_999999, ↓l_m1, ↓l_m2, ↓l_m3, ↓l_m4, ↓l_m10, ↓l_m10000, nI_leI, nI_ltI, nI_eq, mI_le, mI_lt, le_mI, lt_mI, mI_eq, eq_mI, nI_add, pk_mul, pk_sub, pk_div, nI_clamp, md_eq, Nat.zero_le, true_and, and_true, and_self, if_pos, if_neg, Option.bind_some, bnd_some, Sum.elim_inl, Sum.elim_inr, ↓reduceIte]
    · simp (disch := omega) only [fX7_ofBy, g2, l_0, l_1, l_2, l_3, l_4, l_5, l_6, l_7, l_8, l_9, l_10, l_11, l_12, l_13, l_14, l_15, l_16, l_17, l_18, l_19, l_20, l_21, l_24, l_28, l_31, l_32, l_33, l_45, l_47, l_48, l_57, l_59, l_84, l_95, l_96, l_100, l_112, l_119, l_120, l_127, l_140, l_700, l_840, l_999, l_4095, l_999999, ↓l_m1, ↓l_m2, ↓l_m3, ↓l_m4, ↓l_m10, ↓l_m10000, nI_leI, nI_ltI, nI_eq, mI_le, mI_lt, le_mI, lt_mI, mI_eq, eq_mI, nI_add, pk_mul, pk_sub, pk_div, nI_clamp, md_eq, Nat.zero_le, true_and, and_true, and_self, if_pos, if_neg, Option.bind_some, bnd_some, Sum.elim_inl, Sum.elim_inr, ↓reduceIte]
  · refine ⟨bI (M.up p), τ, ?_, ?_, SM_rfl τ⟩
    · simp (disch := omega) only [fX6_tellPillar, u1, l_0, l_1, l_2, l_3, l_4, l_5, l_6, l_7, l_8, l_9, l_10, l_11, l_12, l_13, l_14, l_15, l_16, l_17, l_18, l_19, l_20, l_21, l_24, l_28, l_31, l_32, l_33, l_45, l_47, l_48, l_57, l_59, l_84, l_95, l_96, l_100, l_112, l_119, l_120, l_127, l_140, l_700, l_840, l_999, l_4095, l_999999, ↓l_m1, ↓l_m2, ↓l_m3, ↓l_m4, ↓l_m10, ↓l_m10000, nI_leI, nI_ltI, nI_eq, mI_le, mI_lt, le_mI, lt_mI, mI_eq, eq_mI, nI_add, pk_mul, pk_sub, pk_div, nI_clamp, md_eq, Nat.zero_le, true_and, and_true, and_self, if_pos, if_neg, Option.bind_some, bnd_some, Sum.elim_inl, Sum.elim_inr, ↓reduceIte]
    · simp (disch := omega) only [fX7_ofBy, b_one, u2, l_0, l_1, l_2, l_3, l_4, l_5, l_6, l_7, l_8, l_9, l_10, l_11, l_12, l_13, l_14, l_15, l_16, l_17, l_18, l_19, l_20, l_21, l_24, l_28, l_31, l_32, l_33, l_45, l_47, l_48, l_57, l_59, l_84, l_95, l_96, l_100, l_112, l_119, l_120, l_127, l_140, l_700, l_840, l_999, l_4095, l_999999, ↓l_m1, ↓l_m2, ↓l_m3, ↓l_m4, ↓l_m10, ↓l_m10000, nI_leI, nI_ltI, nI_eq, mI_le, mI_lt, le_mI, lt_mI, mI_eq, eq_mI, nI_add, pk_mul, pk_sub, pk_div, nI_clamp, md_eq, Nat.zero_le, true_and, and_true, and_self, if_pos, if_neg, Option.bind_some, bnd_some, Sum.elim_inl, Sum.elim_inr, ↓reduceIte]
  · refine ⟨nI (load M M.up p), τ1, ?_, ?_, e2⟩
    · simp (disch := omega) only [fX6_tellPillar, b1, l_0, l_1, l_2, l_3, l_4, l_5, l_6, l_7, l_8, l_9, l_10, l_11, l_12, l_13, l_14, l_15, l_16, l_17, l_18, l_19, l_20, l_21, l_24, l_28, l_31, l_32, l_33, l_45, l_47, l_48, l_57, l_59, l_84, l_95, l_96, l_100, l_112, l_119, l_120, l_127, l_140, l_700, l_840, l_999, l_4095, l_999999, ↓l_m1, ↓l_m2, ↓l_m3, ↓l_m4, ↓l_m10, ↓l_m10000, nI_leI, nI_ltI, nI_eq, mI_le, mI_lt, le_mI, lt_mI, mI_eq, eq_mI, nI_add, pk_mul, pk_sub, pk_div, nI_clamp, md_eq, Nat.zero_le, true_and, and_true, and_self, if_pos, if_neg, Option.bind_some, bnd_some, Sum.elim_inl, Sum.elim_inr, ↓reduceIte]
    · simp (disch := omega) only [fX7_ofBy, e1, hl, l_0, l_1, l_2, l_3, l_4, l_5, l_6, l_7, l_8, l_9, l_10, l_11, l_12, l_13, l_14, l_15, l_16, l_17, l_18, l_19, l_20, l_21, l_24, l_28, l_31, l_32, l_33, l_45, l_47, l_48, l_57, l_59, l_84, l_95, l_96, l_100, l_112, l_119, l_120, l_127, l_140, l_700, l_840, l_999, l_4095, l_999999, ↓l_m1, ↓l_m2, ↓l_m3, ↓l_m4, ↓l_m10, ↓l_m10000, nI_leI, nI_ltI, nI_eq, mI_le, mI_lt, le_mI, lt_mI, mI_eq, eq_mI, nI_add, pk_mul, pk_sub, pk_div, nI_clamp, md_eq, Nat.zero_le, true_and, and_true, and_self, if_pos, if_neg, Option.bind_some, bnd_some, Sum.elim_inl, Sum.elim_inr, ↓reduceIte]
  · refine ⟨nI (rest M M.up p), τ1, ?_, ?_, e2⟩
    · simp (disch := omega) only [fX6_tellPillar, b2, l_0, l_1, l_2, l_3, l_4, l_5, l_6, l_7, l_8, l_9, l_10, l_11, l_12, l_13, l_14, l_15, l_16, l_17, l_18, l_19, l_20, l_21, l_24, l_28, l_31, l_32, l_33, l_45, l_47, l_48, l_57, l_59, l_84, l_95, l_96, l_100, l_112, l_119, l_120, l_127, l_140, l_700, l_840, l_999, l_4095, l_999999, ↓l_m1, ↓l_m2, ↓l_m3, ↓l_m4, ↓l_m10, ↓l_m10000, nI_leI, nI_ltI, nI_eq, mI_le, mI_lt, le_mI, lt_mI, mI_eq, eq_mI, nI_add, pk_mul, pk_sub, pk_div, nI_clamp, md_eq, Nat.zero_le, true_and, and_true, and_self, if_pos, if_neg, Option.bind_some, bnd_some, Sum.elim_inl, Sum.elim_inr, ↓reduceIte]
    · simp (disch := omega) only [fX7_ofBy, e1, hr, l_0, l_1, l_2, l_3, l_4, l_5, l_6, l_7, l_8, l_9, l_10, l_11, l_12, l_13, l_14, l_15, l_16, l_17, l_18, l_19, l_20, l_21, l_24, l_28, l_31, l_32, l_33, l_45, l_47, l_48, l_57, l_59, l_84, l_95, l_96, l_100, l_112, l_119, l_120, l_127, l_140, l_700, l_840, l_999, l_4095, l_999999, ↓l_m1, ↓l_m2, ↓l_m3, ↓l_m4, ↓l_m10, ↓l_m10000, nI_leI, nI_ltI, nI_eq, mI_le, mI_lt, le_mI, lt_mI, mI_eq, eq_mI, nI_add, pk_mul, pk_sub, pk_div, nI_clamp, md_eq, Nat.zero_le, true_and, and_true, and_self, if_pos, if_neg, Option.bind_some, bnd_some, Sum.elim_inl, Sum.elim_inr, ↓reduceIte]
  · have st6 := isStanding_ok h1 (p := p) (by omega)
    have h2' : TR τ1 M := by
      obtain ⟨f, g, a, c, rfl⟩ := e2
      exact h2
    have st7 := stands_ok h2' (j := p) (by omega)
    have g2' := h2'.2.2.1 p hp
    cases hu : M.up p
    · rw [hu, bI_f] at st6 st7
      refine ⟨mIk, τ1, ?_, ?_, e2⟩
      · simp (disch := omega) only [fX6_tellPillar, st6, l_0, l_1, l_2, l_3, l_4, l_5, l_6, l_7, l_8, l_9, l_10, l_11, l_12, l_13, l_14, l_15, l_16, l_17, l_18, l_19, l_20, l_21, l_24, l_28, l_31, l_32, l_33, l_45, l_47, l_48, l_57, l_59, l_84, l_95, l_96, l_100, l_112, l_119, l_120, l_127, l_140, l_700, l_840, l_999, l_4095, l_999999, ↓l_m1, ↓l_m2, ↓l_m3, ↓l_m4, ↓l_m10, ↓l_m10000, nI_leI, nI_ltI, nI_eq, mI_le, mI_lt, le_mI, lt_mI, mI_eq, eq_mI, nI_add, pk_mul, pk_sub, pk_div, nI_clamp, md_eq, Nat.zero_le, true_and, and_true, and_self, if_pos, if_neg, Option.bind_some, bnd_some, Sum.elim_inl, Sum.elim_inr, ↓reduceIte]
      · simp (disch := omega) only [fX7_ofBy, e1, st7, l_0, l_1, l_2, l_3, l_4, l_5, l_6, l_7, l_8, l_9, l_10, l_11, l_12, l_13, l_14, l_15, l_16, l_17, l_18, l_19, l_20, l_21, l_24, l_28, l_31, l_32, l_33, l_45, l_47, l_48, l_57, l_59, l_84, l_95, l_96, l_100, l_112, l_119, l_120, l_127, l_140, l_700, l_840, l_999, l_4095, l_999999, ↓l_m1, ↓l_m2, ↓l_m3, ↓l_m4, ↓l_m10, ↓l_m10000, nI_leI, nI_ltI, nI_eq, mI_le, mI_lt, le_mI, lt_mI, mI_eq, eq_mI, nI_add, pk_mul, pk_sub, pk_div, nI_clamp, md_eq, Nat.zero_le, true_and, and_true, and_self, if_pos, if_neg, Option.bind_some, bnd_some, Sum.elim_inl, Sum.elim_inr, ↓reduceIte]
    · rw [hu, bI_t] at st6 st7
      refine ⟨nI (M.sg p) - nI (load M M.up p), τ1, ?_, ?_, e2⟩
      · simp (disch := omega) only [fX6_tellPillar, st6, g1, b1, l_0, l_1, l_2, l_3, l_4, l_5, l_6, l_7, l_8, l_9, l_10, l_11, l_12, l_13, l_14, l_15, l_16, l_17, l_18, l_19, l_20, l_21, l_24, l_28, l_31, l_32, l_33, l_45, l_47, l_48, l_57, l_59, l_84, l_95, l_96, l_100, l_112, l_119, l_120, l_127, l_140, l_700, l_840, l_999, l_4095, l_999999, ↓l_m1, ↓l_m2, ↓l_m3, ↓l_m4, ↓l_m10, ↓l_m10000, nI_leI, nI_ltI, nI_eq, mI_le, mI_lt, le_mI, lt_mI, mI_eq, eq_mI, nI_clamp, Nat.zero_le, true_and, if_pos, if_neg, bnd_some, ↓reduceIte]
      · simp (disch := omega) only [fX7_ofBy, e1, st7, g2', hl, l_0, l_1, l_2, l_3, l_4, l_5, l_6, l_7, l_8, l_9, l_10, l_11, l_12, l_13, l_14, l_15, l_16, l_17, l_18, l_19, l_20, l_21, l_24, l_28, l_31, l_32, l_33, l_45, l_47, l_48, l_57, l_59, l_84, l_95, l_96, l_100, l_112, l_119, l_120, l_127, l_140, l_700, l_840, l_999, l_4095, l_999999, ↓l_m1, ↓l_m2, ↓l_m3, ↓l_m4, ↓l_m10, ↓l_m10000, nI_leI, nI_ltI, nI_eq, mI_le, mI_lt, le_mI, lt_mI, mI_eq, eq_mI, nI_clamp, Nat.zero_le, true_and, if_pos, if_neg, bnd_some, ↓reduceIte]
theorem E_of : E2 Rel fX6_of fX7_of := by
  intro σ τ x y h
  have hh := h
  obtain ⟨M, k, H, w, V, tl, tx, hB⟩ := hh
  rcases wp hB.1 hB.2.1 x with ⟨p, hp, rfl, p1, p2⟩ | ⟨a1, a2⟩
  · rcases wi y (k := 5) (by omega) with ⟨q, hq, rfl⟩ | ⟨a1, a2⟩
    · obtain ⟨b1, e1, e2⟩ := lay_ok hB.1 σ.2.1
      obtain ⟨v, τ1, f1, f2, f3⟩ := of_both (σ := (σ.1, b1, σ.2.2)) hB.1 hB.2.1 e2 hp hq
      refine ⟨v, _, τ1, ?_, ?_, Rel_SM hB f3 b1 σ.2.2.2.2.1⟩
      · simp (disch := omega) only [fX6_of, p1, wi6, l_5, e1, f1, l_0, l_1, nI_eq, ↓reduceIte, bnd_some, or_true, true_or, if_pos, if_neg, ↓l_m1, ↓l_m2, ↓l_m3, ↓l_m4]
      · simp (disch := omega) only [fX7_of, p2, wi7, l_5, f2, l_0, l_1, nI_eq, ↓reduceIte, bnd_some, or_true, true_or, if_pos, if_neg, ↓l_m1, ↓l_m2, ↓l_m3, ↓l_m4]
    · obtain ⟨σ1, τ1, e3, e4, e5⟩ := bad_ok h
      refine ⟨mI2, σ1, τ1, ?_, ?_, e5⟩
      · simp (disch := omega) only [fX6_of, p1, l_5, a1, e3, l_0, l_1, nI_eq, ↓reduceIte, bnd_some, or_true, true_or, if_pos, if_neg, ↓l_m1, ↓l_m2, ↓l_m3, ↓l_m4]
      · simp (disch := omega) only [fX7_of, p2, l_5, a2, e4, l_0, l_1, nI_eq, ↓reduceIte, bnd_some, or_true, true_or, if_pos, if_neg, ↓l_m1, ↓l_m2, ↓l_m3, ↓l_m4]
  · obtain ⟨σ1, τ1, e3, e4, e5⟩ := bad_ok h
    refine ⟨mI2, σ1, τ1, ?_, ?_, e5⟩
    · simp (disch := omega) only [fX6_of, a1, e3, l_0, l_1, nI_eq, ↓reduceIte, bnd_some, or_true, true_or, if_pos, if_neg, ↓l_m1, ↓l_m2, ↓l_m3, ↓l_m4]
    · simp (disch := omega) only [fX7_of, a2, e4, l_0, l_1, nI_eq, ↓reduceIte, bnd_some, or_true, true_or, if_pos, if_neg, ↓l_m1, ↓l_m2, ↓l_m3, ↓l_m4]
/-- the greatest want of those that stand -/
def wnt (M : AM) : Nat → Nat
  | 0 => 0
  | i + 1 => if M.up i = true ∧ wnt M i < load M M.up i - M.sg i then load M M.up i - M.sg i else wnt M i
theorem wnt_le {M : AM} (hM : OK M) : ∀ i, wnt M i ≤ 864
  | 0 => Nat.zero_le _
  | i + 1 => by
    have := wnt_le hM i
    have := load_lt hM M.up i
    simp only [wnt]
    split <;> omega
theorem sub_lt_iff {k a b : Nat} (hk : k < 2 ^ 30) (ha : a < 2 ^ 30) (hb : b < 2 ^ 30) : (nI k < nI a - nI b) ↔ k < a - b := by
  rw [Int32.lt_iff_toInt_lt, pk_sub_toInt ha hb, nI_toInt (by omega)]
  omega
theorem sub_le_iff {k a b : Nat} (hk : k < 2 ^ 30) (ha : a < 2 ^ 30) (hb : b < 2 ^ 30) : (nI a - nI b ≤ nI k) ↔ ¬ k < a - b := by
  rw [Int32.le_iff_toInt_le, pk_sub_toInt ha hb, nI_toInt (by omega)]
  omega
theorem E_mending : E0 Rel fX6_mending fX7_mending := by
  intro σ τ h
  obtain ⟨M, k, H, w, V, tl, tx, hB⟩ := h
  have h1 := hB.1
  have hn := h1.1.1
  obtain ⟨b1, e1, e2⟩ := lay_ok hB.1 σ.2.1
  obtain ⟨τ1, f1, f2, f3, -⟩ := bears_ok (x := τ.2.2.2.2.2.1) (TR_GR hB.2.1 h1.1) hB.2.1.2.2.2.1
  have h2' : TR τ1 M := by
    have := hB.2.1
    obtain ⟨f, g, a, c, rfl⟩ := f2
    exact this
  have hw := wnt_le h1.1
  have hcls : ∀ i, i < M.n → load M M.up i < 2 ^ 30 ∧ M.sg i < 2 ^ 30 := fun i hi => ⟨by have := load_lt h1.1 M.up i; omega, by have := h1.1.2.2.1 i hi; omega⟩
  obtain ⟨z, g1, g2⟩ := loopI (step := fX6_mending_L15 σ b1) (fun i (q : Int32 × Int32) => q = (nI (wnt M i), nI i)) (fun q => q.1 = nI (wnt M M.n)) M.n (F := 5000) (by omega) (s0 := ((0 : Int32), (0 : Int32))) rfl
    (by
      rintro i q hi rfl
      have st := isStanding_ok h1 (p := i) (by omega)
      have hmn := h1.2.1
      have c1 := h1.2.2.2.1 i hi
      have c2 := e2.2.1 i (by omega)
      have hwi := hw i
      refine ⟨_, ?_, rfl⟩
      cases hu : M.up i
      · rw [hu, bI_f] at st
        simp only [wnt, hu, Bool.false_eq_true, false_and, if_false]
        simp (disch := omega) only [fX6_mending_L15, st, hmn, l_0, l_1, l_2, l_3, l_4, l_5, l_6, l_7, l_8, l_9, l_10, l_11, l_12, l_13, l_14, l_15, l_16, l_17, l_18, l_19, l_20, l_21, l_24, l_28, l_31, l_32, l_33, l_45, l_47, l_48, l_57, l_59, l_84, l_95, l_96, l_100, l_112, l_119, l_120, l_127, l_140, l_700, l_840, l_999, l_4095, l_999999, ↓l_m1, ↓l_m2, ↓l_m3, ↓l_m4, ↓l_m10, ↓l_m10000, nI_leI, nI_ltI, nI_eq, mI_le, mI_lt, le_mI, lt_mI, mI_eq, eq_mI, nI_add, pk_mul, pk_sub, pk_div, nI_clamp, md_eq, Nat.zero_le, true_and, and_true, and_self, if_pos, if_neg, Option.bind_some, bnd_some, Sum.elim_inl, Sum.elim_inr, ↓reduceIte]
      · rw [hu, bI_t] at st
        have hl := sub_lt_iff (k := wnt M i) (a := load M M.up i) (b := M.sg i) (by omega) (hcls i hi).1 (hcls i hi).2
        by_cases hc : wnt M i < load M M.up i - M.sg i
        · simp only [wnt, hu, true_and, if_pos hc]
          have e3 : nI (load M M.up i - M.sg i) = nI (load M M.up i) - nI (M.sg i) := (pk_sub (by omega)).symm
          rw [e3]
          simp (disch := omega) only [fX6_mending_L15, st, hmn, c1, c2, hl, if_pos hc, l_0, l_1, l_2, l_3, l_4, l_5, l_6, l_7, l_8, l_9, l_10, l_11, l_12, l_13, l_14, l_15, l_16, l_17, l_18, l_19, l_20, l_21, l_24, l_28, l_31, l_32, l_33, l_45, l_47, l_48, l_57, l_59, l_84, l_95, l_96, l_100, l_112, l_119, l_120, l_127, l_140, l_700, l_840, l_999, l_4095, l_999999, ↓l_m1, ↓l_m2, ↓l_m3, ↓l_m4, ↓l_m10, ↓l_m10000, nI_leI, nI_ltI, nI_eq, mI_le, mI_lt, le_mI, lt_mI, mI_eq, eq_mI, nI_clamp, nI_add, Nat.zero_le, true_and, if_pos, if_neg, bnd_some, ↓reduceIte]
        · simp only [wnt, hu, true_and, if_neg hc]
          simp (disch := omega) only [fX6_mending_L15, st, hmn, c1, c2, hl, if_neg hc, l_0, l_1, l_2, l_3, l_4, l_5, l_6, l_7, l_8, l_9, l_10, l_11, l_12, l_13, l_14, l_15, l_16, l_17, l_18, l_19, l_20, l_21, l_24, l_28, l_31, l_32, l_33, l_45, l_47, l_48, l_57, l_59, l_84, l_95, l_96, l_100, l_112, l_119, l_120, l_127, l_140, l_700, l_840, l_999, l_4095, l_999999, ↓l_m1, ↓l_m2, ↓l_m3, ↓l_m4, ↓l_m10, ↓l_m10000, nI_leI, nI_ltI, nI_eq, mI_le, mI_lt, le_mI, lt_mI, mI_eq, eq_mI, nI_clamp, nI_add, Nat.zero_le, true_and, if_pos, if_neg, bnd_some, ↓reduceIte])
    (by
      rintro q rfl
      have hmn := h1.2.1
      refine ⟨(nI (wnt M M.n), nI M.n), ?_, rfl⟩
      simp (disch := omega) only [fX6_mending_L15, hmn, l_0, l_1, l_2, l_3, l_4, l_5, l_6, l_7, l_8, l_9, l_10, l_11, l_12, l_13, l_14, l_15, l_16, l_17, l_18, l_19, l_20, l_21, l_24, l_28, l_31, l_32, l_33, l_45, l_47, l_48, l_57, l_59, l_84, l_95, l_96, l_100, l_112, l_119, l_120, l_127, l_140, l_700, l_840, l_999, l_4095, l_999999, ↓l_m1, ↓l_m2, ↓l_m3, ↓l_m4, ↓l_m10, ↓l_m10000, nI_leI, nI_ltI, nI_eq, mI_le, mI_lt, le_mI, lt_mI, mI_eq, eq_mI, nI_add, pk_mul, pk_sub, pk_div, nI_clamp, md_eq, Nat.zero_le, true_and, and_true, and_self, if_pos, if_neg, Option.bind_some, bnd_some, Sum.elim_inl, Sum.elim_inr, ↓reduceIte])
  obtain ⟨y, g3, g4⟩ := loopI (step := fX7_mending_L12 τ1) (fun i (q : Int32 × Int32) => q = (nI (wnt M i), nI i)) (fun q => q.1 = nI (wnt M M.n)) M.n (F := 5000) (by omega) (s0 := ((0 : Int32), (0 : Int32))) rfl
    (by
      rintro i q hi rfl
      have st := stands_ok h2' (j := i) (by omega)
      have hmn := h2'.1
      have c1 := h2'.2.2.1 i hi
      have c2 := f3.1 i (by omega)
      have hwi := hw i
      refine ⟨_, ?_, rfl⟩
      cases hu : M.up i
      · rw [hu, bI_f] at st
        simp only [wnt, hu, Bool.false_eq_true, false_and, if_false]
        simp (disch := omega) only [fX7_mending_L12, st, hmn, l_0, l_1, l_2, l_3, l_4, l_5, l_6, l_7, l_8, l_9, l_10, l_11, l_12, l_13, l_14, l_15, l_16, l_17, l_18, l_19, l_20, l_21, l_24, l_28, l_31, l_32, l_33, l_45, l_47, l_48, l_57, l_59, l_84, l_95, l_96, l_100, l_112, l_119, l_120, l_127, l_140, l_700, l_840, l_999, l_4095, l_999999, ↓l_m1, ↓l_m2, ↓l_m3, ↓l_m4, ↓l_m10, ↓l_m10000, nI_leI, nI_ltI, nI_eq, mI_le, mI_lt, le_mI, lt_mI, mI_eq, eq_mI, nI_add, pk_mul, pk_sub, pk_div, nI_clamp, md_eq, Nat.zero_le, true_and, and_true, and_self, if_pos, if_neg, Option.bind_some, bnd_some, Sum.elim_inl, Sum.elim_inr, ↓reduceIte]
      · rw [hu, bI_t] at st
        have hl := sub_le_iff (k := wnt M i) (a := load M M.up i) (b := M.sg i) (by omega) (hcls i hi).1 (hcls i hi).2
        by_cases hc : wnt M i < load M M.up i - M.sg i
        · simp only [wnt, hu, true_and, if_pos hc]
          have e3 : nI (load M M.up i - M.sg i) = nI (load M M.up i) - nI (M.sg i) := (pk_sub (by omega)).symm
          rw [e3]
          simp (disch := omega) only [fX7_mending_L12, st, hmn, c1, c2, hl, hc, not_true, l_0, l_1, l_2, l_3, l_4, l_5, l_6, l_7, l_8, l_9, l_10, l_11, l_12, l_13, l_14, l_15, l_16, l_17, l_18, l_19, l_20, l_21, l_24, l_28, l_31, l_32, l_33, l_45, l_47, l_48, l_57, l_59, l_84, l_95, l_96, l_100, l_112, l_119, l_120, l_127, l_140, l_700, l_840, l_999, l_4095, l_999999, ↓l_m1, ↓l_m2, ↓l_m3, ↓l_m4, ↓l_m10, ↓l_m10000, nI_leI, nI_ltI, nI_eq, mI_le, mI_lt, le_mI, lt_mI, mI_eq, eq_mI, nI_clamp, nI_add, Nat.zero_le, true_and, if_pos, if_neg, bnd_some, ↓reduceIte]
        · simp only [wnt, hu, true_and, if_neg hc]
          simp (disch := omega) only [fX7_mending_L12, st, hmn, c1, c2, hl, hc, not_false_eq_true, l_0, l_1, l_2, l_3, l_4, l_5, l_6, l_7, l_8, l_9, l_10, l_11, l_12, l_13, l_14, l_15, l_16, l_17, l_18, l_19, l_20, l_21, l_24, l_28, l_31, l_32, l_33, l_45, l_47, l_48, l_57, l_59, l_84, l_95, l_96, l_100, l_112, l_119, l_120, l_127, l_140, l_700, l_840, l_999, l_4095, l_999999, ↓l_m1, ↓l_m2, ↓l_m3, ↓l_m4, ↓l_m10, ↓l_m10000, nI_leI, nI_ltI, nI_eq, mI_le, mI_lt, le_mI, lt_mI, mI_eq, eq_mI, nI_clamp, nI_add, Nat.zero_le, true_and, if_pos, if_neg, bnd_some, ↓reduceIte])
    (by
      rintro q rfl
      have hmn := h2'.1
      refine ⟨(nI (wnt M M.n), nI M.n), ?_, rfl⟩
      simp (disch := omega) only [fX7_mending_L12, hmn, l_0, l_1, l_2, l_3, l_4, l_5, l_6, l_7, l_8, l_9, l_10, l_11, l_12, l_13, l_14, l_15, l_16, l_17, l_18, l_19, l_20, l_21, l_24, l_28, l_31, l_32, l_33, l_45, l_47, l_48, l_57, l_59, l_84, l_95, l_96, l_100, l_112, l_119, l_120, l_127, l_140, l_700, l_840, l_999, l_4095, l_999999, ↓l_m1, ↓l_m2, ↓l_m3, ↓l_m4, ↓l_m10, ↓l_m10000, nI_leI, nI_ltI, nI_eq, mI_le, mI_lt, le_mI, lt_mI, mI_eq, eq_mI, nI_add, pk_mul, pk_sub, pk_div, nI_clamp, md_eq, Nat.zero_le, true_and, and_true, and_self, if_pos, if_neg, Option.bind_some, bnd_some, Sum.elim_inl, Sum.elim_inr, ↓reduceIte])
  have g1' : loopF (fX6_mending_L15 σ b1) 5000 (nI 0, nI 0) = some z := g1
  have g3' : loopF (fX7_mending_L12 τ1) 5000 (nI 0, nI 0) = some y := g3
  have hwn := hw M.n
  refine ⟨nI (wnt M M.n), _, τ1, ?_, ?_, Rel_SM hB f2 b1 σ.2.2.2.2.1⟩
  · simp (disch := omega) only [fX6_mending, e1, g1', g2, l_999, nI_ltI, l_0, l_1, nI_eq, ↓reduceIte, bnd_some, or_true, true_or, if_pos, if_neg, ↓l_m1, ↓l_m2, ↓l_m3, ↓l_m4]
  · simp (disch := omega) only [fX7_mending, f1, g3', g4, l_999, nI_ltI, l_0, l_1, nI_eq, ↓reduceIte, bnd_some, or_true, true_or, if_pos, if_neg, ↓l_m1, ↓l_m2, ↓l_m3, ↓l_m4]
theorem countInWave_ok {r : S2} {w : Nat} {V : Nat → Nat → Bool} (h : RunR r w V) (hw : w ≤ 12) (hd : ∀ k j p, k < w → j < w → V k p = true → V j p = true → k = j) {k : Nat} (hk1 : 1 ≤ k) (hk : k < 2 ^ 31) : fX2_countInWave r (nI k) = some (nI (if k ≤ w then cntB (V (k - 1)) 12 else 0)) := by
  have hval : ∀ p, p < 12 → ((r.1 p = nI k) ↔ (k ≤ w ∧ V (k - 1) p = true)) := by
    intro p hp
    by_cases hex : ∃ j, j < w ∧ V j p = true
    · obtain ⟨j, hj, hv⟩ := hex
      rw [(h.2 p hp).1 j hj hv, nI_eq (by omega) hk]
      constructor
      · intro e
        have : k - 1 = j := by omega
        rw [this]; exact ⟨by omega, hv⟩
      · rintro ⟨q1, q2⟩
        have := hd j (k - 1) p hj (by omega) hv q2
        omega
    · have hno : ∀ j, j < w → V j p = false := fun j hj => by
        cases e : V j p
        · rfl
        · exact absurd ⟨j, hj, e⟩ hex
      rw [(h.2 p hp).2 hno, mI_eq hk]
      constructor
      · exact False.elim
      · rintro ⟨q1, q2⟩
        rw [hno (k - 1) (by omega)] at q2; cases q2
  have hcnt : ∀ i, (if k ≤ w then cntB (V (k - 1)) i else 0) ≤ i := fun i => by
    split
    · exact cntB_le _ i
    · omega
  obtain ⟨z, e1, e2⟩ := loopI (step := fX2_countInWave_L4 r (nI k)) (fun i (q : Int32 × Int32) => q = (nI (if k ≤ w then cntB (V (k - 1)) i else 0), nI i)) (fun q => q.1 = nI (if k ≤ w then cntB (V (k - 1)) 12 else 0)) 12 (F := 5000) (by omega) (s0 := ((0 : Int32), (0 : Int32))) (by
      show _ = (nI (if k ≤ w then 0 else 0), nI 0)
      split <;> rfl)
    (by
      rintro i q hi rfl
      have hv := hval i hi
      have hc := hcnt i
      refine ⟨_, ?_, rfl⟩
      by_cases hq : k ≤ w ∧ V (k - 1) i = true
      · have e1 : (if k ≤ w then cntB (V (k - 1)) (i + 1) else 0) = (if k ≤ w then cntB (V (k - 1)) i else 0) + 1 := by
          rw [if_pos hq.1, if_pos hq.1, cntB, if_pos hq.2]
        rw [e1]
        generalize (if k ≤ w then cntB (V (k - 1)) i else 0) = cc at hc ⊢
        simp (disch := omega) only [fX2_countInWave_L4, hv, hq, and_self, l_0, l_1, l_2, l_3, l_4, l_5, l_6, l_7, l_8, l_9, l_10, l_11, l_12, l_13, l_14, l_15, l_16, l_17, l_18, l_19, l_20, l_21, l_24, l_28, l_31, l_32, l_33, l_45, l_47, l_48, l_57, l_59, l_84, l_95, l_96, l_100, l_112, l_119, l_120, l_127, l_140, l_700, l_840, l_999, l_4095, l_999999, ↓l_m1, ↓l_m2, ↓l_m3, ↓l_m4, ↓l_m10, ↓l_m10000, nI_leI, nI_ltI, nI_eq, mI_le, mI_lt, le_mI, lt_mI, mI_eq, eq_mI, nI_add, pk_mul, pk_sub, pk_div, nI_clamp, md_eq, Nat.zero_le, true_and, and_true, and_self, if_pos, if_neg, Option.bind_some, bnd_some, Sum.elim_inl, Sum.elim_inr, ↓reduceIte]
      · have e1 : (if k ≤ w then cntB (V (k - 1)) (i + 1) else 0) = (if k ≤ w then cntB (V (k - 1)) i else 0) := by
          by_cases hkw : k ≤ w
          · rw [if_pos hkw, if_pos hkw, cntB, if_neg (fun z => hq ⟨hkw, z⟩), Nat.add_zero]
          · rw [if_neg hkw, if_neg hkw]
        rw [e1]
        generalize (if k ≤ w then cntB (V (k - 1)) i else 0) = cc at hc ⊢
        simp (disch := omega) only [fX2_countInWave_L4, hv, hq, l_0, l_1, l_2, l_3, l_4, l_5, l_6, l_7, l_8, l_9, l_10, l_11, l_12, l_13, l_14, l_15, l_16, l_17, l_18, l_19, l_20, l_21, l_24, l_28, l_31, l_32, l_33, l_45, l_47, l_48, l_57, l_59, l_84, l_95, l_96, l_100, l_112, l_119, l_120, l_127, l_140, l_700, l_840, l_999, l_4095, l_999999, ↓l_m1, ↓l_m2, ↓l_m3, ↓l_m4, ↓l_m10, ↓l_m10000, nI_leI, nI_ltI, nI_eq, mI_le, mI_lt, le_mI, lt_mI, mI_eq, eq_mI, nI_add, pk_mul, pk_sub, pk_div, nI_clamp, md_eq, Nat.zero_le, true_and, and_true, and_self, if_pos, if_neg, Option.bind_some, bnd_some, Sum.elim_inl, Sum.elim_inr, ↓reduceIte])
    (by
      rintro q rfl
      have hc := hcnt 12
      refine ⟨(nI (if k ≤ w then cntB (V (k - 1)) 12 else 0), nI 12), ?_, rfl⟩
      generalize (if k ≤ w then cntB (V (k - 1)) 12 else 0) = cc at hc ⊢
      simp (disch := omega) only [fX2_countInWave_L4, l_0, l_1, l_2, l_3, l_4, l_5, l_6, l_7, l_8, l_9, l_10, l_11, l_12, l_13, l_14, l_15, l_16, l_17, l_18, l_19, l_20, l_21, l_24, l_28, l_31, l_32, l_33, l_45, l_47, l_48, l_57, l_59, l_84, l_95, l_96, l_100, l_112, l_119, l_120, l_127, l_140, l_700, l_840, l_999, l_4095, l_999999, ↓l_m1, ↓l_m2, ↓l_m3, ↓l_m4, ↓l_m10, ↓l_m10000, nI_leI, nI_ltI, nI_eq, mI_le, mI_lt, le_mI, lt_mI, mI_eq, eq_mI, nI_add, pk_mul, pk_sub, pk_div, nI_clamp, md_eq, Nat.zero_le, true_and, and_true, and_self, if_pos, if_neg, Option.bind_some, bnd_some, Sum.elim_inl, Sum.elim_inr, ↓reduceIte])
  have e1' : fX2_countInWave r (nI k) = Option.bind (some z) (fun z5 => some z5.1) := by rw [← e1]; rfl
  rw [e1', bnd_some, e2]
theorem waveOf_ok {r : S2} {τ : S7} {w : Nat} {V : Nat → Nat → Bool} (h : RunR r w V) (h2 : WR τ w V) {p : Nat} (hp : p < 12) : fX7_waveOf τ (nI p) = some (r.1 p) := by
  obtain ⟨w1, w2, w3, w4, w5⟩ := h2
  obtain ⟨z, e1, e2⟩ := loopX (step := fX7_waveOf_L2 τ (nI p)) (fun i (q : Int32) => q = nI i ∧ ∀ k, k < i → V k p = false) (fun q => (∃ x, q = .inl x ∧ r.1 p = mI) ∨ q = .inr (r.1 p)) w (F := 5000) (by omega) (s0 := (0 : Int32)) ⟨rfl, fun k hk => absurd hk (by omega)⟩
    (by
      rintro i q hi ⟨rfl, hq⟩
      have hb := w3 i hi p (by omega)
      cases hv : V i p
      · rw [hv] at hb
        refine Or.inl ⟨nI (i + 1), ?_, rfl, fun k hk => ?_⟩
        · simp (disch := omega) only [fX7_waveOf_L2, w1, b_one, hb, bI_f, l_0, l_1, l_2, l_3, l_4, l_5, l_6, l_7, l_8, l_9, l_10, l_11, l_12, l_13, l_14, l_15, l_16, l_17, l_18, l_19, l_20, l_21, l_24, l_28, l_31, l_32, l_33, l_45, l_47, l_48, l_57, l_59, l_84, l_95, l_96, l_100, l_112, l_119, l_120, l_127, l_140, l_700, l_840, l_999, l_4095, l_999999, ↓l_m1, ↓l_m2, ↓l_m3, ↓l_m4, ↓l_m10, ↓l_m10000, nI_leI, nI_ltI, nI_eq, mI_le, mI_lt, le_mI, lt_mI, mI_eq, eq_mI, nI_add, pk_mul, pk_sub, pk_div, nI_clamp, md_eq, Nat.zero_le, true_and, and_true, and_self, if_pos, if_neg, Option.bind_some, bnd_some, Sum.elim_inl, Sum.elim_inr, ↓reduceIte]
        · by_cases hki : k = i
          · subst hki; exact hv
          · exact hq k (by omega)
      · rw [hv] at hb
        refine Or.inr ⟨.inr (nI (i + 1)), ?_, Or.inr (by rw [(h.2 p hp).1 i hi hv])⟩
        simp (disch := omega) only [fX7_waveOf_L2, w1, b_one, hb, bI_t, l_0, l_1, l_2, l_3, l_4, l_5, l_6, l_7, l_8, l_9, l_10, l_11, l_12, l_13, l_14, l_15, l_16, l_17, l_18, l_19, l_20, l_21, l_24, l_28, l_31, l_32, l_33, l_45, l_47, l_48, l_57, l_59, l_84, l_95, l_96, l_100, l_112, l_119, l_120, l_127, l_140, l_700, l_840, l_999, l_4095, l_999999, ↓l_m1, ↓l_m2, ↓l_m3, ↓l_m4, ↓l_m10, ↓l_m10000, nI_leI, nI_ltI, nI_eq, mI_le, mI_lt, le_mI, lt_mI, mI_eq, eq_mI, nI_add, pk_mul, pk_sub, pk_div, nI_clamp, md_eq, Nat.zero_le, true_and, and_true, and_self, if_pos, if_neg, Option.bind_some, bnd_some, Sum.elim_inl, Sum.elim_inr, ↓reduceIte])
    (by
      rintro q ⟨rfl, hq⟩
      refine ⟨.inl (nI w), ?_, Or.inl ⟨_, rfl, (h.2 p hp).2 hq⟩⟩
      simp (disch := omega) only [fX7_waveOf_L2, w1, l_0, l_1, l_2, l_3, l_4, l_5, l_6, l_7, l_8, l_9, l_10, l_11, l_12, l_13, l_14, l_15, l_16, l_17, l_18, l_19, l_20, l_21, l_24, l_28, l_31, l_32, l_33, l_45, l_47, l_48, l_57, l_59, l_84, l_95, l_96, l_100, l_112, l_119, l_120, l_127, l_140, l_700, l_840, l_999, l_4095, l_999999, ↓l_m1, ↓l_m2, ↓l_m3, ↓l_m4, ↓l_m10, ↓l_m10000, nI_leI, nI_ltI, nI_eq, mI_le, mI_lt, le_mI, lt_mI, mI_eq, eq_mI, nI_add, pk_mul, pk_sub, pk_div, nI_clamp, md_eq, Nat.zero_le, true_and, and_true, and_self, if_pos, if_neg, Option.bind_some, bnd_some, Sum.elim_inl, Sum.elim_inr, ↓reduceIte])
  have e1' : fX7_waveOf τ (nI p) = Option.bind (some z) (fun z3 => Sum.elim (fun z3e => some (-1 : Int32)) (fun r => some r) z3) := by rw [← e1]; rfl
  rw [e1']
  rcases e2 with ⟨x, rfl, hr⟩ | rfl
  · rw [hr]; rfl
  · rfl
theorem E_wave : E2 Rel fX6_wave fX7_wave := by
  intro σ τ x y h
  have hh := h
  obtain ⟨M, k, H, w, V, tl, tx, hB⟩ := hh
  have h6 := hB.2.2.2.2.2.1
  have h7 := hB.2.2.2.2.2.2.1
  rcases wi x (k := 2) (by omega) with ⟨v, hv, rfl⟩ | ⟨a1, a2⟩
  · rcases (show v = 0 ∨ v = 1 ∨ v = 2 by omega) with rfl | rfl | rfl
    · refine ⟨nI w, σ, τ, ?_, ?_, h⟩
      · simp (disch := omega) only [fX6_wave, h6.1, l_0, l_1, nI_eq, ↓reduceIte, bnd_some, or_true, true_or, if_pos, if_neg, ↓l_m1, ↓l_m2, ↓l_m3, ↓l_m4]
      · simp (disch := omega) only [fX7_wave, wi7, l_2, h7.1, l_0, l_1, nI_eq, ↓reduceIte, bnd_some, or_true, true_or, if_pos, if_neg, ↓l_m1, ↓l_m2, ↓l_m3, ↓l_m4]
    · rcases wp hB.1 hB.2.1 y with ⟨p, hp, rfl, p1, p2⟩ | ⟨b1, b2⟩
      · have hn := hB.1.1.1
        have hw := waveOf_ok h6 h7 (p := p) (by omega)
        refine ⟨σ.2.2.1.1 p, σ, τ, ?_, ?_, h⟩
        · simp (disch := omega) only [fX6_wave, p1, nI_leI, nI_clamp, Nat.zero_le, true_and, l_0, l_1, nI_eq, ↓reduceIte, bnd_some, or_true, true_or, if_pos, if_neg, ↓l_m1, ↓l_m2, ↓l_m3, ↓l_m4]
        · simp (disch := omega) only [fX7_wave, wi7, l_2, p2, hw, l_0, l_1, nI_eq, ↓reduceIte, bnd_some, or_true, true_or, if_pos, if_neg, ↓l_m1, ↓l_m2, ↓l_m3, ↓l_m4]
      · obtain ⟨σ1, τ1, e3, e4, e5⟩ := bad_ok h
        refine ⟨mI2, σ1, τ1, ?_, ?_, e5⟩
        · simp (disch := omega) only [fX6_wave, b1, e3, l_0, l_1, nI_eq, ↓reduceIte, bnd_some, or_true, true_or, if_pos, if_neg, ↓l_m1, ↓l_m2, ↓l_m3, ↓l_m4]
        · simp (disch := omega) only [fX7_wave, wi7, l_2, b2, e4, l_0, l_1, nI_eq, ↓reduceIte, bnd_some, or_true, true_or, if_pos, if_neg, ↓l_m1, ↓l_m2, ↓l_m3, ↓l_m4]
    · by_cases hy : y < nI 1
      · have hy2 : ¬ nI 1 ≤ y := fun q => by
          have a1 := Int32.lt_iff_toInt_lt.mp hy
          have a2 := Int32.le_iff_toInt_le.mp q
          omega
        obtain ⟨σ1, τ1, e3, e4, e5⟩ := bad_ok h
        refine ⟨mI2, σ1, τ1, ?_, ?_, e5⟩
        · simp (disch := omega) only [fX6_wave, l_2, hy, e3, l_0, l_1, nI_eq, ↓reduceIte, bnd_some, or_true, true_or, if_pos, if_neg, ↓l_m1, ↓l_m2, ↓l_m3, ↓l_m4]
        · simp (disch := omega) only [fX7_wave, wi7, l_2, hy2, e4, l_0, l_1, nI_eq, ↓reduceIte, bnd_some, or_true, true_or, if_pos, if_neg, ↓l_m1, ↓l_m2, ↓l_m3, ↓l_m4]
      · have hy0 : ¬ y < 0 := fun q => hy (by
          rw [Int32.lt_iff_toInt_lt] at q ⊢
          have e1 : (nI 1).toInt = 1 := by decide
          have e0 : (0 : Int32).toInt = 0 := by decide
          omega)
        obtain ⟨j, hj, rfl⟩ := nI_of hy0
        have hj1 : 1 ≤ j := by
          rw [nI_ltI hj (by omega)] at hy
          omega
        have hc := countInWave_ok h6 h7.2.1 h7.2.2.2.2 hj1 hj
        have hwle := h7.2.1
        refine ⟨nI (if j ≤ w then cntB (V (j - 1)) 12 else 0), σ, τ, ?_, ?_, h⟩
        · simp (disch := omega) only [fX6_wave, l_2, nI_ltI, hc, l_0, l_1, nI_eq, ↓reduceIte, bnd_some, or_true, true_or, if_pos, if_neg, ↓l_m1, ↓l_m2, ↓l_m3, ↓l_m4]
        · by_cases hjw : j ≤ w
          · have ho := ones_ok (h7.2.2.1 (j - 1) (by omega))
            rw [if_pos hjw]
            simp (disch := omega) only [fX7_wave, wi7, l_2, nI_leI, h7.1, pk_sub, nI_clamp, Nat.zero_le, true_and, ho, l_0, l_1, nI_eq, ↓reduceIte, bnd_some, or_true, true_or, if_pos, if_neg, ↓l_m1, ↓l_m2, ↓l_m3, ↓l_m4]
          · rw [if_neg hjw]
            simp (disch := omega) only [fX7_wave, wi7, l_2, nI_leI, h7.1, l_0, l_1, nI_eq, ↓reduceIte, bnd_some, or_true, true_or, if_pos, if_neg, ↓l_m1, ↓l_m2, ↓l_m3, ↓l_m4]
  · have hx0 : ¬ x = nI 0 := fun q => by
      rw [q, wi6 (by omega) (by omega)] at a1
      exact n10 (Option.some.inj a1)
    have hx1 : ¬ x = nI 1 := fun q => by
      rw [q, wi6 (by omega) (by omega)] at a1
      exact n10 (Option.some.inj a1)
    have hx2 : ¬ x = nI 2 := fun q => by
      rw [q, wi6 (by omega) (by omega)] at a1
      exact n10 (Option.some.inj a1)
    obtain ⟨σ1, τ1, e3, e4, e5⟩ := bad_ok h
    refine ⟨mI2, σ1, τ1, ?_, ?_, e5⟩
    · simp (disch := omega) only [fX6_wave, l_2, hx0, hx1, hx2, e3, l_0, l_1, nI_eq, ↓reduceIte, bnd_some, or_true, true_or, if_pos, if_neg, ↓l_m1, ↓l_m2, ↓l_m3, ↓l_m4]
    · simp (disch := omega) only [fX7_wave, l_2, a2, e4, l_0, l_1, nI_eq, ↓reduceIte, bnd_some, or_true, true_or, if_pos, if_neg, ↓l_m1, ↓l_m2, ↓l_m3, ↓l_m4]
