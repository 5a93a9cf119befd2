/-! beside -/
def prB (a b p q : Int32) : Bool := (decide (a = p) && decide (b = q)) || (decide (a = q) && decide (b = p))
theorem arePair_ok {b : S0} {x y : Nat} (hx : x < 96) (hy : y < 96) {u v : Int32} (hu : b.1 x = u) (hv : b.1 y = v) (p q : Int32) : fX0_arePair b (nI x) (nI y) p q = some (bI (prB u v p q)) := by
  unfold prB
  by_cases h1 : u = p <;> by_cases h2 : v = q <;> by_cases h3 : u = q <;> by_cases h4 : v = p <;>
    simp (disch := omega) only [fX0_arePair, hu, hv, h1, h2, h3, h4, decide_true, decide_false, Bool.and_self, Bool.or_self, Bool.and_false, Bool.false_and, Bool.or_false, Bool.or_true, Bool.true_or, bI_t, bI_f, l_0, l_1, l_2, l_3, l_4, l_5, l_6, l_7, l_8, l_9, l_10, l_11, l_12, l_13, l_14, l_15, l_16, l_17, l_18, l_19, l_20, l_21, l_24, l_28, l_31, l_32, l_33, l_45, l_47, l_48, l_57, l_59, l_84, l_95, l_96, l_100, l_112, l_119, l_120, l_127, l_140, l_700, l_840, l_999, l_4095, l_999999, ↓l_m1, ↓l_m2, ↓l_m3, ↓l_m4, ↓l_m10, ↓l_m10000, nI_leI, nI_ltI, nI_eq, mI_le, mI_lt, le_mI, lt_mI, mI_eq, eq_mI, nI_add, pk_mul, pk_sub, pk_div, nI_clamp, md_eq, Nat.zero_le, true_and, and_true, and_self, if_pos, if_neg, Option.bind_some, bnd_some, Sum.elim_inl, Sum.elim_inr, ↓reduceIte] <;> simp_all <;> rfl
theorem isSide_ok {τ : S7} {M : AM} (h : TR τ M) (hM : OK M) (hR : RmR τ M.wl) {x y : Nat} (hx : x < 96) (hy : y < 96) (p q : Int32) : fX7_isSide τ (nI x) (nI y) p q = some (bI (decide (rid M.wl x = rid M.wl y) && prB (brI (br M.cl M.wl M.up x)) (brI (br M.cl M.wl M.up y)) p q)) := by
  have hgr := TR_GR h hM
  have b1 := bearer_ok (x := τ.2.2.2.2.2.1) hR h.2.2.2.1 hgr.2.1 hx
  have b2 := bearer_ok (x := τ.2.2.2.2.2.1) hR h.2.2.2.1 hgr.2.1 hy
  have r1 : fX7_roomOf τ (nI x) = some (nI (rid M.wl x)) := roomOf_ok hR hx
  have r2 : fX7_roomOf τ (nI y) = some (nI (rid M.wl y)) := roomOf_ok hR hy
  have l1 := rid_lt M.wl hx
  have l2 := rid_lt M.wl hy
  unfold fX7_isSide
  rw [b1, b2, r1, r2]
  simp only [bnd_some]
  obtain ⟨u, hu⟩ : ∃ u, u = brI (br M.cl M.wl M.up x) := ⟨_, rfl⟩
  obtain ⟨v, hv⟩ : ∃ v, v = brI (br M.cl M.wl M.up y) := ⟨_, rfl⟩
  rw [← hu, ← hv]
  unfold prB
  by_cases h0 : rid M.wl x = rid M.wl y
  · rw [h0, if_pos rfl, decide_eq_true rfl, Bool.true_and]
    by_cases h1 : u = p <;> by_cases h2 : v = q <;> by_cases h3 : u = q <;> by_cases h4 : v = p <;> simp only [h1, h2, h3, h4, decide_true, decide_false, Bool.and_self, Bool.or_self, Bool.and_false, Bool.false_and, Bool.or_false, Bool.or_true, Bool.true_or, bI_t, bI_f, if_true, if_false, l_0, l_1] <;> simp_all <;> rfl
  · rw [decide_eq_false h0, Bool.false_and, if_neg (by rw [nI_eq (by omega) (by omega)]; exact h0)]
    rfl
theorem openRight_ok {m : S1} {M : AM} (h : MR m M) {c : Nat} (hc : c < 12) : fX1_isOpenRight m (nI c) = some (bI (decide (c < 11) && !M.wl (10 + c))) := by
  by_cases h1 : c < 11
  · have hw := h.2.2.2.2.2.1 (10 + c) (by omega)
    rw [decide_eq_true h1, Bool.true_and]
    cases q : M.wl (10 + c)
    · rw [q, bI_f] at hw
      simp (disch := omega) only [fX1_isOpenRight, hw, Bool.not_false, bI_t, l_0, l_1, l_2, l_3, l_4, l_5, l_6, l_7, l_8, l_9, l_10, l_11, l_12, l_13, l_14, l_15, l_16, l_17, l_18, l_19, l_20, l_21, l_24, l_28, l_31, l_32, l_33, l_45, l_47, l_48, l_57, l_59, l_84, l_95, l_96, l_100, l_112, l_119, l_120, l_127, l_140, l_700, l_840, l_999, l_4095, l_999999, ↓l_m1, ↓l_m2, ↓l_m3, ↓l_m4, ↓l_m10, ↓l_m10000, nI_leI, nI_ltI, nI_eq, mI_le, mI_lt, le_mI, lt_mI, mI_eq, eq_mI, nI_add, pk_mul, pk_sub, pk_div, nI_clamp, md_eq, Nat.zero_le, true_and, and_true, and_self, if_pos, if_neg, Option.bind_some, bnd_some, Sum.elim_inl, Sum.elim_inr, ↓reduceIte]
    · rw [q, bI_t] at hw
      simp (disch := omega) only [fX1_isOpenRight, hw, Bool.not_true, bI_f, l_0, l_1, l_2, l_3, l_4, l_5, l_6, l_7, l_8, l_9, l_10, l_11, l_12, l_13, l_14, l_15, l_16, l_17, l_18, l_19, l_20, l_21, l_24, l_28, l_31, l_32, l_33, l_45, l_47, l_48, l_57, l_59, l_84, l_95, l_96, l_100, l_112, l_119, l_120, l_127, l_140, l_700, l_840, l_999, l_4095, l_999999, ↓l_m1, ↓l_m2, ↓l_m3, ↓l_m4, ↓l_m10, ↓l_m10000, nI_leI, nI_ltI, nI_eq, mI_le, mI_lt, le_mI, lt_mI, mI_eq, eq_mI, nI_add, pk_mul, pk_sub, pk_div, nI_clamp, md_eq, Nat.zero_le, true_and, and_true, and_self, if_pos, if_neg, Option.bind_some, bnd_some, Sum.elim_inl, Sum.elim_inr, ↓reduceIte]
  · rw [decide_eq_false h1, Bool.false_and]
    simp (disch := omega) only [fX1_isOpenRight, bI_f, l_0, l_1, l_2, l_3, l_4, l_5, l_6, l_7, l_8, l_9, l_10, l_11, l_12, l_13, l_14, l_15, l_16, l_17, l_18, l_19, l_20, l_21, l_24, l_28, l_31, l_32, l_33, l_45, l_47, l_48, l_57, l_59, l_84, l_95, l_96, l_100, l_112, l_119, l_120, l_127, l_140, l_700, l_840, l_999, l_4095, l_999999, ↓l_m1, ↓l_m2, ↓l_m3, ↓l_m4, ↓l_m10, ↓l_m10000, nI_leI, nI_ltI, nI_eq, mI_le, mI_lt, le_mI, lt_mI, mI_eq, eq_mI, nI_add, pk_mul, pk_sub, pk_div, nI_clamp, md_eq, Nat.zero_le, true_and, and_true, and_self, if_pos, if_neg, Option.bind_some, bnd_some, Sum.elim_inl, Sum.elim_inr, ↓reduceIte]
theorem openBelow_ok {m : S1} {M : AM} (h : MR m M) {c : Nat} (hc : c < 8) : fX1_isOpenBelow m (nI c) = some (bI (decide (c < 7) && !M.wl c)) := by
  by_cases h1 : c < 7
  · have hw := h.2.2.2.2.2.1 c (by omega)
    rw [decide_eq_true h1, Bool.true_and]
    cases q : M.wl c
    · rw [q, bI_f] at hw
      simp (disch := omega) only [fX1_isOpenBelow, hw, Bool.not_false, bI_t, l_0, l_1, l_2, l_3, l_4, l_5, l_6, l_7, l_8, l_9, l_10, l_11, l_12, l_13, l_14, l_15, l_16, l_17, l_18, l_19, l_20, l_21, l_24, l_28, l_31, l_32, l_33, l_45, l_47, l_48, l_57, l_59, l_84, l_95, l_96, l_100, l_112, l_119, l_120, l_127, l_140, l_700, l_840, l_999, l_4095, l_999999, ↓l_m1, ↓l_m2, ↓l_m3, ↓l_m4, ↓l_m10, ↓l_m10000, nI_leI, nI_ltI, nI_eq, mI_le, mI_lt, le_mI, lt_mI, mI_eq, eq_mI, nI_add, pk_mul, pk_sub, pk_div, nI_clamp, md_eq, Nat.zero_le, true_and, and_true, and_self, if_pos, if_neg, Option.bind_some, bnd_some, Sum.elim_inl, Sum.elim_inr, ↓reduceIte]
    · rw [q, bI_t] at hw
      simp (disch := omega) only [fX1_isOpenBelow, hw, Bool.not_true, bI_f, l_0, l_1, l_2, l_3, l_4, l_5, l_6, l_7, l_8, l_9, l_10, l_11, l_12, l_13, l_14, l_15, l_16, l_17, l_18, l_19, l_20, l_21, l_24, l_28, l_31, l_32, l_33, l_45, l_47, l_48, l_57, l_59, l_84, l_95, l_96, l_100, l_112, l_119, l_120, l_127, l_140, l_700, l_840, l_999, l_4095, l_999999, ↓l_m1, ↓l_m2, ↓l_m3, ↓l_m4, ↓l_m10, ↓l_m10000, nI_leI, nI_ltI, nI_eq, mI_le, mI_lt, le_mI, lt_mI, mI_eq, eq_mI, nI_add, pk_mul, pk_sub, pk_div, nI_clamp, md_eq, Nat.zero_le, true_and, and_true, and_self, if_pos, if_neg, Option.bind_some, bnd_some, Sum.elim_inl, Sum.elim_inr, ↓reduceIte]
  · rw [decide_eq_false h1, Bool.false_and]
    simp (disch := omega) only [fX1_isOpenBelow, bI_f, l_0, l_1, l_2, l_3, l_4, l_5, l_6, l_7, l_8, l_9, l_10, l_11, l_12, l_13, l_14, l_15, l_16, l_17, l_18, l_19, l_20, l_21, l_24, l_28, l_31, l_32, l_33, l_45, l_47, l_48, l_57, l_59, l_84, l_95, l_96, l_100, l_112, l_119, l_120, l_127, l_140, l_700, l_840, l_999, l_4095, l_999999, ↓l_m1, ↓l_m2, ↓l_m3, ↓l_m4, ↓l_m10, ↓l_m10000, nI_leI, nI_ltI, nI_eq, mI_le, mI_lt, le_mI, lt_mI, mI_eq, eq_mI, nI_add, pk_mul, pk_sub, pk_div, nI_clamp, md_eq, Nat.zero_le, true_and, and_true, and_self, if_pos, if_neg, Option.bind_some, bnd_some, Sum.elim_inl, Sum.elim_inr, ↓reduceIte]
theorem rid_right {wl : Nat → Bool} {x : Nat} (hx : x < 96) (h : x % 12 < 11) : decide (rid wl x = rid wl (x + 1)) = !wl (10 + x % 12) := by
  have h1 := cntW.eq_2 wl 10 (x % 12)
  have h2 : rid wl x = rid wl (x + 1) ↔ cntW wl 10 (x % 12) = cntW wl 10 (x % 12).succ := by
    rw [rid_eq hx (by omega), show (x + 1) / 12 = x / 12 by omega, show (x + 1) % 12 = (x % 12).succ by omega]
    exact ⟨fun q => q.2, fun q => ⟨rfl, q⟩⟩
  rw [h1] at h2
  cases q : wl (10 + x % 12)
  · rw [q] at h2
    exact decide_eq_true (h2.mpr rfl)
  · rw [q] at h2
    refine decide_eq_false (fun e => ?_)
    have := h2.mp e
    simp at this
theorem rid_below {wl : Nat → Bool} {x : Nat} (h : x < 84) : decide (rid wl x = rid wl (x + 12)) = !wl (x / 12) := by
  have h1 := cntW.eq_2 wl 0 (x / 12)
  rw [Nat.zero_add] at h1
  have h2 : rid wl x = rid wl (x + 12) ↔ cntW wl 0 (x / 12) = cntW wl 0 (x / 12).succ := by
    rw [rid_eq (by omega) (by omega), show (x + 12) / 12 = (x / 12).succ by omega, show (x + 12) % 12 = x % 12 by omega]
    exact ⟨fun q => q.1, fun q => ⟨q, rfl⟩⟩
  rw [h1] at h2
  cases q : wl (x / 12)
  · rw [q] at h2
    exact decide_eq_true (h2.mpr rfl)
  · rw [q] at h2
    refine decide_eq_false (fun e => ?_)
    have := h2.mp e
    simp at this
def besR (M : AM) (p q : Int32) (x : Nat) : Bool := decide (x % 12 < 11) && !M.wl (10 + x % 12) && prB (brI (br M.cl M.wl M.up x)) (brI (br M.cl M.wl M.up (x + 1))) p q
def besB (M : AM) (p q : Int32) (x : Nat) : Bool := decide (x / 12 < 7) && !M.wl (x / 12) && prB (brI (br M.cl M.wl M.up x)) (brI (br M.cl M.wl M.up (x + 12))) p q
theorem meet_ok {b : S0} {m : S1} {M : AM} (h : MR m M) (hb : BR b M) (p q : Int32) : ∃ u : Bool, fX0_meet b m p q = some (bI u) ∧ (u = true ↔ ∃ x, x < 96 ∧ (besR M p q x = true ∨ besB M p q x = true)) := by
  obtain ⟨z, e1, e2⟩ := loopX (step := fX0_meet_L3 b m p q) (fun i (s : Int32) => s = nI i ∧ ∀ x, x < i → besR M p q x = false ∧ besB M p q x = false) (fun r => (∃ y, r = .inl y ∧ ∀ x, x < 96 → besR M p q x = false ∧ besB M p q x = false) ∨ (r = .inr (nI 1) ∧ ∃ x, x < 96 ∧ (besR M p q x = true ∨ besB M p q x = true))) 96 (F := 5000) (by omega) (s0 := (0 : Int32)) ⟨rfl, fun x hx => absurd hx (by omega)⟩
    (by
      rintro i s hi ⟨rfl, hno⟩
      have oR := openRight_ok h (c := i % 12) (by omega)
      have oB := openBelow_ok h (c := i / 12) (by omega)
      have pR : i % 12 < 11 → fX0_arePair b (nI i) (nI (i + 1)) p q = some (bI (prB (brI (br M.cl M.wl M.up i)) (brI (br M.cl M.wl M.up (i + 1))) p q)) := fun hq => arePair_ok hi (by omega) (hb.1 i hi) (hb.1 (i + 1) (by omega)) p q
      have pB : i / 12 < 7 → fX0_arePair b (nI i) (nI (i + 12)) p q = some (bI (prB (brI (br M.cl M.wl M.up i)) (brI (br M.cl M.wl M.up (i + 12))) p q)) := fun hq => arePair_ok hi (by omega) (hb.1 i hi) (hb.1 (i + 12) (by omega)) p q
      have hstep : fX0_meet_L3 b m p q (nI i) = if besR M p q i = true ∨ besB M p q i = true then some (.inr (.inr (nI 1))) else some (.inl (nI (i + 1))) := by
        unfold besR besB
        cases q1 : (decide (i % 12 < 11) && !M.wl (10 + i % 12))
        · rw [q1, bI_f] at oR
          cases q2 : (decide (i / 12 < 7) && !M.wl (i / 12))
          · rw [q2, bI_f] at oB
            simp (disch := omega) only [fX0_meet_L3, oR, oB, Bool.false_and, Bool.false_eq_true, or_self, l_0, l_1, l_2, l_3, l_4, l_5, l_6, l_7, l_8, l_9, l_10, l_11, l_12, l_13, l_14, l_15, l_16, l_17, l_18, l_19, l_20, l_21, l_24, l_28, l_31, l_32, l_33, l_45, l_47, l_48, l_57, l_59, l_84, l_95, l_96, l_100, l_112, l_119, l_120, l_127, l_140, l_700, l_840, l_999, l_4095, l_999999, ↓l_m1, ↓l_m2, ↓l_m3, ↓l_m4, ↓l_m10, ↓l_m10000, nI_leI, nI_ltI, nI_eq, mI_le, mI_lt, le_mI, lt_mI, mI_eq, eq_mI, nI_add, pk_mul, pk_sub, pk_div, nI_clamp, md_eq, Nat.zero_le, true_and, and_true, and_self, if_pos, if_neg, Option.bind_some, bnd_some, Sum.elim_inl, Sum.elim_inr, ↓reduceIte]
          · rw [q2, bI_t] at oB
            have hB7 : i / 12 < 7 := by
              rw [Bool.and_eq_true] at q2; exact of_decide_eq_true q2.1
            have pB := pB hB7
            cases q3 : prB (brI (br M.cl M.wl M.up i)) (brI (br M.cl M.wl M.up (i + 12))) p q
            · rw [q3, bI_f] at pB
              simp (disch := omega) only [fX0_meet_L3, oR, oB, pB, Bool.false_and, Bool.and_false, Bool.false_eq_true, or_self, l_0, l_1, l_2, l_3, l_4, l_5, l_6, l_7, l_8, l_9, l_10, l_11, l_12, l_13, l_14, l_15, l_16, l_17, l_18, l_19, l_20, l_21, l_24, l_28, l_31, l_32, l_33, l_45, l_47, l_48, l_57, l_59, l_84, l_95, l_96, l_100, l_112, l_119, l_120, l_127, l_140, l_700, l_840, l_999, l_4095, l_999999, ↓l_m1, ↓l_m2, ↓l_m3, ↓l_m4, ↓l_m10, ↓l_m10000, nI_leI, nI_ltI, nI_eq, mI_le, mI_lt, le_mI, lt_mI, mI_eq, eq_mI, nI_add, pk_mul, pk_sub, pk_div, nI_clamp, md_eq, Nat.zero_le, true_and, and_true, and_self, if_pos, if_neg, Option.bind_some, bnd_some, Sum.elim_inl, Sum.elim_inr, ↓reduceIte]
            · rw [q3, bI_t] at pB
              simp (disch := omega) only [fX0_meet_L3, oR, oB, pB, Bool.false_and, Bool.and_self, Bool.false_eq_true, false_or, l_0, l_1, l_2, l_3, l_4, l_5, l_6, l_7, l_8, l_9, l_10, l_11, l_12, l_13, l_14, l_15, l_16, l_17, l_18, l_19, l_20, l_21, l_24, l_28, l_31, l_32, l_33, l_45, l_47, l_48, l_57, l_59, l_84, l_95, l_96, l_100, l_112, l_119, l_120, l_127, l_140, l_700, l_840, l_999, l_4095, l_999999, ↓l_m1, ↓l_m2, ↓l_m3, ↓l_m4, ↓l_m10, ↓l_m10000, nI_leI, nI_ltI, nI_eq, mI_le, mI_lt, le_mI, lt_mI, mI_eq, eq_mI, nI_add, pk_mul, pk_sub, pk_div, nI_clamp, md_eq, Nat.zero_le, true_and, and_true, and_self, if_pos, if_neg, Option.bind_some, bnd_some, Sum.elim_inl, Sum.elim_inr, ↓reduceIte]
        · rw [q1, bI_t] at oR
          have hR11 : i % 12 < 11 := by
            rw [Bool.and_eq_true] at q1; exact of_decide_eq_true q1.1
          have pR := pR hR11
          cases q2 : (decide (i / 12 < 7) && !M.wl (i / 12))
          · rw [q2, bI_f] at oB
            cases q3 : prB (brI (br M.cl M.wl M.up i)) (brI (br M.cl M.wl M.up (i + 1))) p q
            · rw [q3, bI_f] at pR
              simp (disch := omega) only [fX0_meet_L3, oR, oB, pR, Bool.false_and, Bool.and_false, Bool.false_eq_true, or_self, l_0, l_1, l_2, l_3, l_4, l_5, l_6, l_7, l_8, l_9, l_10, l_11, l_12, l_13, l_14, l_15, l_16, l_17, l_18, l_19, l_20, l_21, l_24, l_28, l_31, l_32, l_33, l_45, l_47, l_48, l_57, l_59, l_84, l_95, l_96, l_100, l_112, l_119, l_120, l_127, l_140, l_700, l_840, l_999, l_4095, l_999999, ↓l_m1, ↓l_m2, ↓l_m3, ↓l_m4, ↓l_m10, ↓l_m10000, nI_leI, nI_ltI, nI_eq, mI_le, mI_lt, le_mI, lt_mI, mI_eq, eq_mI, nI_add, pk_mul, pk_sub, pk_div, nI_clamp, md_eq, Nat.zero_le, true_and, and_true, and_self, if_pos, if_neg, Option.bind_some, bnd_some, Sum.elim_inl, Sum.elim_inr, ↓reduceIte]
            · rw [q3, bI_t] at pR
              simp (disch := omega) only [fX0_meet_L3, oR, oB, pR, Bool.false_and, Bool.and_self, Bool.false_eq_true, or_false, l_0, l_1, l_2, l_3, l_4, l_5, l_6, l_7, l_8, l_9, l_10, l_11, l_12, l_13, l_14, l_15, l_16, l_17, l_18, l_19, l_20, l_21, l_24, l_28, l_31, l_32, l_33, l_45, l_47, l_48, l_57, l_59, l_84, l_95, l_96, l_100, l_112, l_119, l_120, l_127, l_140, l_700, l_840, l_999, l_4095, l_999999, ↓l_m1, ↓l_m2, ↓l_m3, ↓l_m4, ↓l_m10, ↓l_m10000, nI_leI, nI_ltI, nI_eq, mI_le, mI_lt, le_mI, lt_mI, mI_eq, eq_mI, nI_add, pk_mul, pk_sub, pk_div, nI_clamp, md_eq, Nat.zero_le, true_and, and_true, and_self, if_pos, if_neg, Option.bind_some, bnd_some, Sum.elim_inl, Sum.elim_inr, ↓reduceIte]
          · rw [q2, bI_t] at oB
            have hB7 : i / 12 < 7 := by
              rw [Bool.and_eq_true] at q2; exact of_decide_eq_true q2.1
            have pB := pB hB7
            cases q3 : prB (brI (br M.cl M.wl M.up i)) (brI (br M.cl M.wl M.up (i + 1))) p q
            · rw [q3, bI_f] at pR
              cases q4 : prB (brI (br M.cl M.wl M.up i)) (brI (br M.cl M.wl M.up (i + 12))) p q
              · rw [q4, bI_f] at pB
                simp (disch := omega) only [fX0_meet_L3, oR, oB, pR, pB, Bool.false_and, Bool.and_false, Bool.false_eq_true, or_self, l_0, l_1, l_2, l_3, l_4, l_5, l_6, l_7, l_8, l_9, l_10, l_11, l_12, l_13, l_14, l_15, l_16, l_17, l_18, l_19, l_20, l_21, l_24, l_28, l_31, l_32, l_33, l_45, l_47, l_48, l_57, l_59, l_84, l_95, l_96, l_100, l_112, l_119, l_120, l_127, l_140, l_700, l_840, l_999, l_4095, l_999999, ↓l_m1, ↓l_m2, ↓l_m3, ↓l_m4, ↓l_m10, ↓l_m10000, nI_leI, nI_ltI, nI_eq, mI_le, mI_lt, le_mI, lt_mI, mI_eq, eq_mI, nI_add, pk_mul, pk_sub, pk_div, nI_clamp, md_eq, Nat.zero_le, true_and, and_true, and_self, if_pos, if_neg, Option.bind_some, bnd_some, Sum.elim_inl, Sum.elim_inr, ↓reduceIte]
              · rw [q4, bI_t] at pB
                simp (disch := omega) only [fX0_meet_L3, oR, oB, pR, pB, Bool.and_self, Bool.and_false, Bool.false_eq_true, false_or, l_0, l_1, l_2, l_3, l_4, l_5, l_6, l_7, l_8, l_9, l_10, l_11, l_12, l_13, l_14, l_15, l_16, l_17, l_18, l_19, l_20, l_21, l_24, l_28, l_31, l_32, l_33, l_45, l_47, l_48, l_57, l_59, l_84, l_95, l_96, l_100, l_112, l_119, l_120, l_127, l_140, l_700, l_840, l_999, l_4095, l_999999, ↓l_m1, ↓l_m2, ↓l_m3, ↓l_m4, ↓l_m10, ↓l_m10000, nI_leI, nI_ltI, nI_eq, mI_le, mI_lt, le_mI, lt_mI, mI_eq, eq_mI, nI_add, pk_mul, pk_sub, pk_div, nI_clamp, md_eq, Nat.zero_le, true_and, and_true, and_self, if_pos, if_neg, Option.bind_some, bnd_some, Sum.elim_inl, Sum.elim_inr, ↓reduceIte]
            · rw [q3, bI_t] at pR
              cases q4 : prB (brI (br M.cl M.wl M.up i)) (brI (br M.cl M.wl M.up (i + 12))) p q
              · rw [q4, bI_f] at pB
                simp (disch := omega) only [fX0_meet_L3, oR, oB, pR, pB, Bool.and_self, Bool.and_false, Bool.false_eq_true, or_false, l_0, l_1, l_2, l_3, l_4, l_5, l_6, l_7, l_8, l_9, l_10, l_11, l_12, l_13, l_14, l_15, l_16, l_17, l_18, l_19, l_20, l_21, l_24, l_28, l_31, l_32, l_33, l_45, l_47, l_48, l_57, l_59, l_84, l_95, l_96, l_100, l_112, l_119, l_120, l_127, l_140, l_700, l_840, l_999, l_4095, l_999999, ↓l_m1, ↓l_m2, ↓l_m3, ↓l_m4, ↓l_m10, ↓l_m10000, nI_leI, nI_ltI, nI_eq, mI_le, mI_lt, le_mI, lt_mI, mI_eq, eq_mI, nI_add, pk_mul, pk_sub, pk_div, nI_clamp, md_eq, Nat.zero_le, true_and, and_true, and_self, if_pos, if_neg, Option.bind_some, bnd_some, Sum.elim_inl, Sum.elim_inr, ↓reduceIte]
              · rw [q4, bI_t] at pB
                simp (disch := omega) only [fX0_meet_L3, oR, oB, pR, pB, Bool.and_self, or_self, l_0, l_1, l_2, l_3, l_4, l_5, l_6, l_7, l_8, l_9, l_10, l_11, l_12, l_13, l_14, l_15, l_16, l_17, l_18, l_19, l_20, l_21, l_24, l_28, l_31, l_32, l_33, l_45, l_47, l_48, l_57, l_59, l_84, l_95, l_96, l_100, l_112, l_119, l_120, l_127, l_140, l_700, l_840, l_999, l_4095, l_999999, ↓l_m1, ↓l_m2, ↓l_m3, ↓l_m4, ↓l_m10, ↓l_m10000, nI_leI, nI_ltI, nI_eq, mI_le, mI_lt, le_mI, lt_mI, mI_eq, eq_mI, nI_add, pk_mul, pk_sub, pk_div, nI_clamp, md_eq, Nat.zero_le, true_and, and_true, and_self, if_pos, if_neg, Option.bind_some, bnd_some, Sum.elim_inl, Sum.elim_inr, ↓reduceIte]
      by_cases hD : besR M p q i = true ∨ besB M p q i = true
      · rw [if_pos hD] at hstep
        exact Or.inr ⟨_, hstep, Or.inr ⟨rfl, i, hi, hD⟩⟩
      · rw [if_neg hD] at hstep
        refine Or.inl ⟨_, hstep, rfl, fun x hx => ?_⟩
        by_cases hxi : x = i
        · subst hxi
          exact ⟨by simpa using fun q => hD (Or.inl q), by simpa using fun q => hD (Or.inr q)⟩
        · exact hno x (by omega))
    (by
      rintro s ⟨rfl, hno⟩
      refine ⟨.inl (nI 96), ?_, Or.inl ⟨_, rfl, hno⟩⟩
      simp (disch := omega) only [fX0_meet_L3, l_0, l_1, l_2, l_3, l_4, l_5, l_6, l_7, l_8, l_9, l_10, l_11, l_12, l_13, l_14, l_15, l_16, l_17, l_18, l_19, l_20, l_21, l_24, l_28, l_31, l_32, l_33, l_45, l_47, l_48, l_57, l_59, l_84, l_95, l_96, l_100, l_112, l_119, l_120, l_127, l_140, l_700, l_840, l_999, l_4095, l_999999, ↓l_m1, ↓l_m2, ↓l_m3, ↓l_m4, ↓l_m10, ↓l_m10000, nI_leI, nI_ltI, nI_eq, mI_le, mI_lt, le_mI, lt_mI, mI_eq, eq_mI, nI_add, pk_mul, pk_sub, pk_div, nI_clamp, md_eq, Nat.zero_le, true_and, and_true, and_self, if_pos, if_neg, Option.bind_some, bnd_some, Sum.elim_inl, Sum.elim_inr, ↓reduceIte])
  have e1' : loopF (fX0_meet_L3 b m p q) 5000 (0 : Int32) = some z := e1
  rcases e2 with ⟨y, rfl, hno⟩ | ⟨rfl, hx⟩
  · refine ⟨false, by unfold fX0_meet; rw [e1']; rfl, ⟨fun q => (by cases q), fun ⟨x, hx, hD⟩ => ?_⟩⟩
    obtain ⟨a, c⟩ := hno x hx
    rw [a, c] at hD
    rcases hD with q | q <;> cases q
  · exact ⟨true, by unfold fX0_meet; rw [e1']; rfl, ⟨fun _ => hx, fun _ => rfl⟩⟩
theorem sides_ok {τ : S7} {M : AM} (h : TR τ M) (hM : OK M) (hR : RmR τ M.wl) (p q : Int32) : ∃ (u : Bool) (z : Int32 × Int32), loopF (fX7_beside_L51 p q τ) 5000 ((0 : Int32), (0 : Int32)) = some z ∧ z.1 = bI u ∧ (u = true ↔ ∃ x, x < 96 ∧ (besR M p q x = true ∨ besB M p q x = true)) := by
  obtain ⟨z, e1, e2⟩ := loopX (step := fX7_beside_L51 p q τ) (fun i (s : Int32 × Int32) => s.2 = nI i ∧ ((s.1 = nI 0 ∧ ∀ x, x < i → besR M p q x = false ∧ besB M p q x = false) ∨ (s.1 = nI 1 ∧ ∃ x, x < 96 ∧ (besR M p q x = true ∨ besB M p q x = true)))) (fun (s : Int32 × Int32) => ((s.1 = nI 0 ∧ ∀ x, x < 96 → besR M p q x = false ∧ besB M p q x = false) ∨ (s.1 = nI 1 ∧ ∃ x, x < 96 ∧ (besR M p q x = true ∨ besB M p q x = true)))) 96 (F := 5000) (by omega) (s0 := ((0 : Int32), (0 : Int32))) ⟨rfl, Or.inl ⟨rfl, fun x hx => absurd hx (by omega)⟩⟩
    (by
      rintro i ⟨s, x⟩ hi ⟨rfl, hs⟩
      rcases hs with ⟨rfl, hno⟩ | ⟨rfl, hx⟩
      · have sR : i % 12 < 11 → fX7_isSide τ (nI i) (nI (i + 1)) p q = some (bI (besR M p q i)) := fun hq => by
          have := isSide_ok h hM hR hi (show i + 1 < 96 by omega) p q
          rw [rid_right hi hq] at this
          rw [this]
          unfold besR
          rw [decide_eq_true hq, Bool.true_and]
        have nR : ¬ i % 12 < 11 → besR M p q i = false := fun hq => by
          unfold besR; rw [decide_eq_false hq, Bool.false_and, Bool.false_and]
        have sB : i < 84 → fX7_isSide τ (nI i) (nI (i + 12)) p q = some (bI (besB M p q i)) := fun hq => by
          have := isSide_ok h hM hR hi (show i + 12 < 96 by omega) p q
          rw [rid_below hq] at this
          rw [this]
          unfold besB
          rw [decide_eq_true (show i / 12 < 7 by omega), Bool.true_and]
        have nB : ¬ i < 84 → besB M p q i = false := fun hq => by
          unfold besB; rw [decide_eq_false (show ¬ i / 12 < 7 by omega), Bool.false_and, Bool.false_and]
        have hstep : fX7_beside_L51 p q τ (nI 0, nI i) = some (.inl (if besR M p q i = true ∨ besB M p q i = true then nI 1 else nI 0, nI (i + 1))) := by
          by_cases q1 : i % 12 < 11
          · have sR := sR q1
            cases r1 : besR M p q i
            · rw [r1, bI_f] at sR
              by_cases q2 : i < 84
              · have sB := sB q2
                cases r2 : besB M p q i
                · rw [r2, bI_f] at sB
                  simp (disch := omega) only [fX7_beside_L51, sR, sB, Bool.false_eq_true, or_self, l_0, l_1, l_2, l_3, l_4, l_5, l_6, l_7, l_8, l_9, l_10, l_11, l_12, l_13, l_14, l_15, l_16, l_17, l_18, l_19, l_20, l_21, l_24, l_28, l_31, l_32, l_33, l_45, l_47, l_48, l_57, l_59, l_84, l_95, l_96, l_100, l_112, l_119, l_120, l_127, l_140, l_700, l_840, l_999, l_4095, l_999999, ↓l_m1, ↓l_m2, ↓l_m3, ↓l_m4, ↓l_m10, ↓l_m10000, nI_leI, nI_ltI, nI_eq, mI_le, mI_lt, le_mI, lt_mI, mI_eq, eq_mI, nI_add, pk_mul, pk_sub, pk_div, nI_clamp, md_eq, Nat.zero_le, true_and, and_true, and_self, if_pos, if_neg, Option.bind_some, bnd_some, Sum.elim_inl, Sum.elim_inr, ↓reduceIte]
                · rw [r2, bI_t] at sB
                  simp (disch := omega) only [fX7_beside_L51, sR, sB, Bool.false_eq_true, false_or, l_0, l_1, l_2, l_3, l_4, l_5, l_6, l_7, l_8, l_9, l_10, l_11, l_12, l_13, l_14, l_15, l_16, l_17, l_18, l_19, l_20, l_21, l_24, l_28, l_31, l_32, l_33, l_45, l_47, l_48, l_57, l_59, l_84, l_95, l_96, l_100, l_112, l_119, l_120, l_127, l_140, l_700, l_840, l_999, l_4095, l_999999, ↓l_m1, ↓l_m2, ↓l_m3, ↓l_m4, ↓l_m10, ↓l_m10000, nI_leI, nI_ltI, nI_eq, mI_le, mI_lt, le_mI, lt_mI, mI_eq, eq_mI, nI_add, pk_mul, pk_sub, pk_div, nI_clamp, md_eq, Nat.zero_le, true_and, and_true, and_self, if_pos, if_neg, Option.bind_some, bnd_some, Sum.elim_inl, Sum.elim_inr, ↓reduceIte]
              · simp (disch := omega) only [fX7_beside_L51, sR, nB q2, Bool.false_eq_true, or_self, l_0, l_1, l_2, l_3, l_4, l_5, l_6, l_7, l_8, l_9, l_10, l_11, l_12, l_13, l_14, l_15, l_16, l_17, l_18, l_19, l_20, l_21, l_24, l_28, l_31, l_32, l_33, l_45, l_47, l_48, l_57, l_59, l_84, l_95, l_96, l_100, l_112, l_119, l_120, l_127, l_140, l_700, l_840, l_999, l_4095, l_999999, ↓l_m1, ↓l_m2, ↓l_m3, ↓l_m4, ↓l_m10, ↓l_m10000, nI_leI, nI_ltI, nI_eq, mI_le, mI_lt, le_mI, lt_mI, mI_eq, eq_mI, nI_add, pk_mul, pk_sub, pk_div, nI_clamp, md_eq, Nat.zero_le, true_and, and_true, and_self, if_pos, if_neg, Option.bind_some, bnd_some, Sum.elim_inl, Sum.elim_inr, ↓reduceIte]
            · rw [r1, bI_t] at sR
              simp (disch := omega) only [fX7_beside_L51, sR, true_or, l_0, l_1, l_2, l_3, l_4, l_5, l_6, l_7, l_8, l_9, l_10, l_11, l_12, l_13, l_14, l_15, l_16, l_17, l_18, l_19, l_20, l_21, l_24, l_28, l_31, l_32, l_33, l_45, l_47, l_48, l_57, l_59, l_84, l_95, l_96, l_100, l_112, l_119, l_120, l_127, l_140, l_700, l_840, l_999, l_4095, l_999999, ↓l_m1, ↓l_m2, ↓l_m3, ↓l_m4, ↓l_m10, ↓l_m10000, nI_leI, nI_ltI, nI_eq, mI_le, mI_lt, le_mI, lt_mI, mI_eq, eq_mI, nI_add, pk_mul, pk_sub, pk_div, nI_clamp, md_eq, Nat.zero_le, true_and, and_true, and_self, if_pos, if_neg, Option.bind_some, bnd_some, Sum.elim_inl, Sum.elim_inr, ↓reduceIte]
          · rw [nR q1]
            by_cases q2 : i < 84
            · have sB := sB q2
              cases r2 : besB M p q i
              · rw [r2, bI_f] at sB
                simp (disch := omega) only [fX7_beside_L51, sB, Bool.false_eq_true, or_self, l_0, l_1, l_2, l_3, l_4, l_5, l_6, l_7, l_8, l_9, l_10, l_11, l_12, l_13, l_14, l_15, l_16, l_17, l_18, l_19, l_20, l_21, l_24, l_28, l_31, l_32, l_33, l_45, l_47, l_48, l_57, l_59, l_84, l_95, l_96, l_100, l_112, l_119, l_120, l_127, l_140, l_700, l_840, l_999, l_4095, l_999999, ↓l_m1, ↓l_m2, ↓l_m3, ↓l_m4, ↓l_m10, ↓l_m10000, nI_leI, nI_ltI, nI_eq, mI_le, mI_lt, le_mI, lt_mI, mI_eq, eq_mI, nI_add, pk_mul, pk_sub, pk_div, nI_clamp, md_eq, Nat.zero_le, true_and, and_true, and_self, if_pos, if_neg, Option.bind_some, bnd_some, Sum.elim_inl, Sum.elim_inr, ↓reduceIte]
              · rw [r2, bI_t] at sB
                simp (disch := omega) only [fX7_beside_L51, sB, Bool.false_eq_true, false_or, l_0, l_1, l_2, l_3, l_4, l_5, l_6, l_7, l_8, l_9, l_10, l_11, l_12, l_13, l_14, l_15, l_16, l_17, l_18, l_19, l_20, l_21, l_24, l_28, l_31, l_32, l_33, l_45, l_47, l_48, l_57, l_59, l_84, l_95, l_96, l_100, l_112, l_119, l_120, l_127, l_140, l_700, l_840, l_999, l_4095, l_999999, ↓l_m1, ↓l_m2, ↓l_m3, ↓l_m4, ↓l_m10, ↓l_m10000, nI_leI, nI_ltI, nI_eq, mI_le, mI_lt, le_mI, lt_mI, mI_eq, eq_mI, nI_add, pk_mul, pk_sub, pk_div, nI_clamp, md_eq, Nat.zero_le, true_and, and_true, and_self, if_pos, if_neg, Option.bind_some, bnd_some, Sum.elim_inl, Sum.elim_inr, ↓reduceIte]
            · simp (disch := omega) only [fX7_beside_L51, nB q2, Bool.false_eq_true, or_self, l_0, l_1, l_2, l_3, l_4, l_5, l_6, l_7, l_8, l_9, l_10, l_11, l_12, l_13, l_14, l_15, l_16, l_17, l_18, l_19, l_20, l_21, l_24, l_28, l_31, l_32, l_33, l_45, l_47, l_48, l_57, l_59, l_84, l_95, l_96, l_100, l_112, l_119, l_120, l_127, l_140, l_700, l_840, l_999, l_4095, l_999999, ↓l_m1, ↓l_m2, ↓l_m3, ↓l_m4, ↓l_m10, ↓l_m10000, nI_leI, nI_ltI, nI_eq, mI_le, mI_lt, le_mI, lt_mI, mI_eq, eq_mI, nI_add, pk_mul, pk_sub, pk_div, nI_clamp, md_eq, Nat.zero_le, true_and, and_true, and_self, if_pos, if_neg, Option.bind_some, bnd_some, Sum.elim_inl, Sum.elim_inr, ↓reduceIte]
        by_cases hD : besR M p q i = true ∨ besB M p q i = true
        · rw [if_pos hD] at hstep
          exact Or.inl ⟨_, hstep, rfl, Or.inr ⟨rfl, i, hi, hD⟩⟩
        · rw [if_neg hD] at hstep
          refine Or.inl ⟨_, hstep, rfl, Or.inl ⟨rfl, fun x hx => ?_⟩⟩
          by_cases hxi : x = i
          · subst hxi
            exact ⟨by simpa using fun q => hD (Or.inl q), by simpa using fun q => hD (Or.inr q)⟩
          · exact hno x (by omega)
      · refine Or.inr ⟨(nI 1, nI i), ?_, Or.inr ⟨rfl, hx⟩⟩
        simp (disch := omega) only [fX7_beside_L51, l_0, l_1, l_2, l_3, l_4, l_5, l_6, l_7, l_8, l_9, l_10, l_11, l_12, l_13, l_14, l_15, l_16, l_17, l_18, l_19, l_20, l_21, l_24, l_28, l_31, l_32, l_33, l_45, l_47, l_48, l_57, l_59, l_84, l_95, l_96, l_100, l_112, l_119, l_120, l_127, l_140, l_700, l_840, l_999, l_4095, l_999999, ↓l_m1, ↓l_m2, ↓l_m3, ↓l_m4, ↓l_m10, ↓l_m10000, nI_leI, nI_ltI, nI_eq, mI_le, mI_lt, le_mI, lt_mI, mI_eq, eq_mI, nI_add, pk_mul, pk_sub, pk_div, nI_clamp, md_eq, Nat.zero_le, true_and, and_true, and_self, if_pos, if_neg, Option.bind_some, bnd_some, Sum.elim_inl, Sum.elim_inr, ↓reduceIte])
    (by
      rintro ⟨s, x⟩ ⟨rfl, hs⟩
      refine ⟨(s, nI 96), ?_, hs⟩
      simp (disch := omega) only [fX7_beside_L51, l_0, l_1, l_2, l_3, l_4, l_5, l_6, l_7, l_8, l_9, l_10, l_11, l_12, l_13, l_14, l_15, l_16, l_17, l_18, l_19, l_20, l_21, l_24, l_28, l_31, l_32, l_33, l_45, l_47, l_48, l_57, l_59, l_84, l_95, l_96, l_100, l_112, l_119, l_120, l_127, l_140, l_700, l_840, l_999, l_4095, l_999999, ↓l_m1, ↓l_m2, ↓l_m3, ↓l_m4, ↓l_m10, ↓l_m10000, nI_leI, nI_ltI, nI_eq, mI_le, mI_lt, le_mI, lt_mI, mI_eq, eq_mI, nI_add, pk_mul, pk_sub, pk_div, nI_clamp, md_eq, Nat.zero_le, true_and, and_true, and_self, if_pos, if_neg, Option.bind_some, bnd_some, Sum.elim_inl, Sum.elim_inr, ↓reduceIte])
  rcases e2 with ⟨e, hno⟩ | ⟨e, hx⟩
  · refine ⟨false, z, e1, e, ⟨fun q => (by cases q), fun ⟨x, hx, hD⟩ => ?_⟩⟩
    obtain ⟨a, c⟩ := hno x hx
    rw [a, c] at hD
    rcases hD with q | q <;> cases q
  · exact ⟨true, z, e1, e, ⟨fun _ => hx, fun _ => rfl⟩⟩
theorem E_beside : E2 Rel fX6_beside fX7_beside := by
  intro σ τ x y h
  have hh := h
  obtain ⟨M, k, H, w, V, tl, tx, hB⟩ := hh
  have hn := hB.1.1.1
  obtain ⟨σ1, τ1, e3, e4, e5⟩ := bad_ok h
  by_cases hxy : x = y
  · refine ⟨mI2, σ1, τ1, ?_, ?_, e5⟩
    · simp (disch := omega) only [fX6_beside, hxy, e3, l_0, l_1, nI_eq, ↓reduceIte, bnd_some, or_true, true_or, if_pos, if_neg, ↓l_m1, ↓l_m2, ↓l_m3, ↓l_m4]
    · subst hxy
      rcases wp hB.1 hB.2.1 x with ⟨p, hp, rfl, p1, p2⟩ | ⟨p1, p2⟩
      · simp (disch := omega) only [fX7_beside, p2, e4, l_0, l_1, nI_eq, ↓reduceIte, bnd_some, or_true, true_or, if_pos, if_neg, ↓l_m1, ↓l_m2, ↓l_m3, ↓l_m4]
      · simp (disch := omega) only [fX7_beside, p2, e4, l_0, l_1, nI_eq, ↓reduceIte, bnd_some, or_true, true_or, if_pos, if_neg, ↓l_m1, ↓l_m2, ↓l_m3, ↓l_m4]
  · rcases wp hB.1 hB.2.1 x with ⟨p, hp, rfl, p1, p2⟩ | ⟨p1, p2⟩
    · have st6 := isStanding_ok hB.1 (p := p) (by omega)
      have st7 := stands_ok hB.2.1 (j := p) (by omega)
      rcases wp hB.1 hB.2.1 y with ⟨q, hq, rfl, q1, q2⟩ | ⟨q1, q2⟩
      · have su6 := isStanding_ok hB.1 (p := q) (by omega)
        have su7 := stands_ok hB.2.1 (j := q) (by omega)
        cases hu : M.up p
        · rw [hu, bI_f] at st6 st7
          refine ⟨mI2, σ1, τ1, ?_, ?_, e5⟩
          · simp only [fX6_beside, if_neg hxy, st6, e3, bnd_some, l_0, if_true, ↓l_m2]
          · simp only [fX7_beside, if_neg hxy, p2, q2, st7, e4, bnd_some, l_0, if_true, n10, if_false, ↓l_m2]
        · rw [hu, bI_t] at st6 st7
          cases hv : M.up q
          · rw [hv, bI_f] at su6 su7
            refine ⟨mI2, σ1, τ1, ?_, ?_, e5⟩
            · simp only [fX6_beside, if_neg hxy, st6, su6, e3, bnd_some, l_0, if_true, n10, if_false, ↓l_m2]
            · simp only [fX7_beside, if_neg hxy, p2, q2, st7, su7, e4, bnd_some, l_0, if_true, n10, if_false, ↓l_m2]
          · rw [hv, bI_t] at su6 su7
            obtain ⟨b1, l1, l2⟩ := lay_ok hB.1 σ.2.1
            obtain ⟨u, g1, g2⟩ := meet_ok hB.1 l2 (nI p) (nI q)
            obtain ⟨f, g, r1, hR⟩ := setRooms_ok hB.2.1.2.2.2.2.1
            have hsm : SM τ (τ.1, τ.2.1, τ.2.2.1, τ.2.2.2.1, τ.2.2.2.2.1, τ.2.2.2.2.2.1, τ.2.2.2.2.2.2.1, τ.2.2.2.2.2.2.2.1, τ.2.2.2.2.2.2.2.2.1, f, g, τ.2.2.2.2.2.2.2.2.2.2.2) := ⟨f, g, τ.2.2.2.2.2.2.2.2.2.2.2.1, τ.2.2.2.2.2.2.2.2.2.2.2.2.1, rfl⟩
            obtain ⟨τ2, ht2⟩ : ∃ τ2, τ2 = (τ.1, τ.2.1, τ.2.2.1, τ.2.2.2.1, τ.2.2.2.2.1, τ.2.2.2.2.2.1, τ.2.2.2.2.2.2.1, τ.2.2.2.2.2.2.2.1, τ.2.2.2.2.2.2.2.2.1, f, g, τ.2.2.2.2.2.2.2.2.2.2.2) := ⟨_, rfl⟩
            rw [← ht2] at r1 hR hsm
            obtain ⟨u', z, g3, g4, g5⟩ := sides_ok (TR_SM hB.2.1 hsm) hB.1.1 hR (nI p) (nI q)
            have huu : u' = u := by rw [Bool.eq_iff_iff, g2, g5]
            subst huu
            refine ⟨bI u', _, τ2, ?_, ?_, Rel_SM hB hsm b1 σ.2.2.2.2.1⟩
            · cases u'
              · rw [bI_f] at g1
                simp only [fX6_beside, if_neg hxy, st6, su6, l1, g1, bnd_some, l_0, if_true, n10, if_false, bI_f]
              · rw [bI_t] at g1
                simp only [fX6_beside, if_neg hxy, st6, su6, l1, g1, bnd_some, l_0, l_1, if_true, n10, if_false, bI_t]
            · have g3' : loopF (fX7_beside_L51 (nI p) (nI q) τ2) 5000 (nI 0, nI 0) = some z := g3
              cases u'
              · rw [bI_f] at g4
                simp only [fX7_beside, if_neg hxy, p2, q2, st7, su7, r1, g3', g4, bnd_some, l_0, if_true, n10, if_false, bI_f]
              · rw [bI_t] at g4
                simp only [fX7_beside, if_neg hxy, p2, q2, st7, su7, r1, g3', g4, bnd_some, l_0, l_1, if_true, n10, if_false, bI_t]
      · have su6 : fX1_isStanding σ.1 y = some (nI 0) := by simp only [fX1_isStanding, q1, bnd_some, l_0, if_true]
        refine ⟨mI2, σ1, τ1, ?_, ?_, e5⟩
        · cases hu : M.up p
          · rw [hu, bI_f] at st6
            simp only [fX6_beside, if_neg hxy, st6, e3, bnd_some, l_0, if_true, ↓l_m2]
          · rw [hu, bI_t] at st6
            simp only [fX6_beside, if_neg hxy, st6, su6, e3, bnd_some, l_0, if_true, n10, if_false, ↓l_m2]
        · simp only [fX7_beside, p2, q2, e4, bnd_some, l_0, if_true, n10, if_false, ↓l_m2]
    · have su6 : fX1_isStanding σ.1 x = some (nI 0) := by simp only [fX1_isStanding, p1, bnd_some, l_0, if_true]
      refine ⟨mI2, σ1, τ1, ?_, ?_, e5⟩
      · simp only [fX6_beside, if_neg hxy, su6, e3, bnd_some, l_0, if_true, n10, if_false, ↓l_m2]
      · simp only [fX7_beside, p2, e4, bnd_some, l_0, if_true, n10, if_false, ↓l_m2]
