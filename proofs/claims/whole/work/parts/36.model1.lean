theorem l_31x : (31 : Int32) = nI 31 := by decide
theorem cntW_bI (wl : Nat → Bool) (b k : Nat) : nI (cntW wl b k) + bI (wl (b + k)) = nI (cntW wl b (k + 1)) := by
  rw [bI_toN, nI_add]; rfl
theorem wallsAhead_ok {τ : S7} {wl : Nat → Bool} (h : hS τ.2.2.2.2.2.2.1 wl) {b k : Nat} (hb : b + k ≤ 31) : fX7_wallsAhead τ (nI b) (nI k) = some (nI (cntW wl b k)) := by
  unfold fX7_wallsAhead
  obtain ⟨r, e1, e2⟩ := loopI (step := fX7_wallsAhead_L5 τ (nI b) (nI k)) (fun i (q : Int32 × Int32) => q = (nI (cntW wl b i), nI i)) (fun q => q.1 = nI (cntW wl b k)) k (F := 5000) (by omega) (s0 := ((0 : Int32), (0 : Int32))) rfl
    (by
      rintro i q hi rfl
      have hb := h (b + i) (by omega)
      refine ⟨_, ?_, rfl⟩
      simp (disch := omega) only [fX7_wallsAhead_L5, b_one, hb, l_0, l_1, l_2, l_3, l_4, l_5, l_6, l_7, l_8, l_9, l_10, l_11, l_12, l_13, l_14, l_15, l_16, l_17, l_18, l_19, l_20, l_21, l_24, l_28, l_31, l_32, l_33, l_45, l_47, l_48, l_57, l_59, l_84, l_95, l_96, l_100, l_112, l_119, l_120, l_127, l_140, l_700, l_840, l_999, l_4095, l_999999, ↓l_m1, ↓l_m2, ↓l_m3, ↓l_m4, ↓l_m10, ↓l_m10000, nI_leI, nI_ltI, nI_eq, mI_le, mI_lt, le_mI, lt_mI, mI_eq, eq_mI, nI_add, if_pos, if_neg, bnd_some, cntW_bI])
    (by
      rintro q rfl
      refine ⟨(nI (cntW wl b k), nI k), ?_, rfl⟩
      simp (disch := omega) only [fX7_wallsAhead_L5, l_0, l_1, l_2, l_3, l_4, l_5, l_6, l_7, l_8, l_9, l_10, l_11, l_12, l_13, l_14, l_15, l_16, l_17, l_18, l_19, l_20, l_21, l_24, l_28, l_31, l_32, l_33, l_45, l_47, l_48, l_57, l_59, l_84, l_95, l_96, l_100, l_112, l_119, l_120, l_127, l_140, l_700, l_840, l_999, l_4095, l_999999, ↓l_m1, ↓l_m2, ↓l_m3, ↓l_m4, ↓l_m10, ↓l_m10000, nI_leI, nI_ltI, nI_eq, mI_le, mI_lt, le_mI, lt_mI, mI_eq, eq_mI, nI_add, pk_mul, pk_sub, pk_div, nI_clamp, md_eq, Nat.zero_le, true_and, and_true, and_self, if_pos, if_neg, Option.bind_some, bnd_some, Sum.elim_inl, Sum.elim_inr, ↓reduceIte])
  rw [e1, bnd_some, e2]
/-- the rooms are told -/
def RmR (τ : S7) (wl : Nat → Bool) : Prop := (∀ r, r < 8 → τ.2.2.2.2.2.2.2.2.2.1 r = nI (cntW wl 0 r)) ∧ (∀ c, c < 12 → τ.2.2.2.2.2.2.2.2.2.2.1 c = nI (cntW wl 10 c))
theorem setRooms_ok {τ : S7} {wl : Nat → Bool} (h : hS τ.2.2.2.2.2.2.1 wl) : ∃ f g, fX7_setRooms τ = some (τ.1, τ.2.1, τ.2.2.1, τ.2.2.2.1, τ.2.2.2.2.1, τ.2.2.2.2.2.1, τ.2.2.2.2.2.2.1, τ.2.2.2.2.2.2.2.1, τ.2.2.2.2.2.2.2.2.1, f, g, τ.2.2.2.2.2.2.2.2.2.2.2) ∧ RmR (τ.1, τ.2.1, τ.2.2.1, τ.2.2.2.1, τ.2.2.2.2.1, τ.2.2.2.2.2.1, τ.2.2.2.2.2.2.1, τ.2.2.2.2.2.2.2.1, τ.2.2.2.2.2.2.2.2.1, f, g, τ.2.2.2.2.2.2.2.2.2.2.2) wl := by
  obtain ⟨z, e1, e2⟩ := loopI (step := fX7_setRooms_L2 τ) (fun i (q : Int32 × (Nat → Int32)) => q.1 = nI i ∧ ∀ r, r < i → q.2 r = nI (cntW wl 0 r)) (fun q => ∀ r, r < 8 → q.2 r = nI (cntW wl 0 r)) 8 (F := 5000) (by omega) (s0 := ((0 : Int32), τ.2.2.2.2.2.2.2.2.2.1)) ⟨rfl, fun r hr => absurd hr (by omega)⟩
    (by
      rintro i ⟨x, f⟩ hi ⟨rfl, hf⟩
      have hw := wallsAhead_ok (τ := (τ.1, τ.2.1, τ.2.2.1, τ.2.2.2.1, τ.2.2.2.2.1, τ.2.2.2.2.2.1, τ.2.2.2.2.2.2.1, τ.2.2.2.2.2.2.2.1, τ.2.2.2.2.2.2.2.2.1, f, τ.2.2.2.2.2.2.2.2.2.2)) (wl := wl) h (b := 0) (k := i) (by omega)
      refine ⟨(nI (i + 1), upd f i (nI (cntW wl 0 i))), ?_, rfl, fun r hr => ?_⟩
      · simp (disch := omega) only [fX7_setRooms_L2, hw, l_0, l_1, l_2, l_3, l_4, l_5, l_6, l_7, l_8, l_9, l_10, l_11, l_12, l_13, l_14, l_15, l_16, l_17, l_18, l_19, l_20, l_21, l_24, l_28, l_31, l_32, l_33, l_45, l_47, l_48, l_57, l_59, l_84, l_95, l_96, l_100, l_112, l_119, l_120, l_127, l_140, l_700, l_840, l_999, l_4095, l_999999, ↓l_m1, ↓l_m2, ↓l_m3, ↓l_m4, ↓l_m10, ↓l_m10000, nI_leI, nI_ltI, nI_eq, mI_le, mI_lt, le_mI, lt_mI, mI_eq, eq_mI, nI_add, pk_mul, pk_sub, pk_div, nI_clamp, md_eq, Nat.zero_le, true_and, and_true, and_self, if_pos, if_neg, Option.bind_some, bnd_some, Sum.elim_inl, Sum.elim_inr, ↓reduceIte]
      · show upd f i _ r = _
        by_cases hri : r = i
        · subst hri; exact upd_same _ _ _
        · rw [upd_ne _ _ _ _ hri]; exact hf r (by omega))
    (by
      rintro ⟨x, f⟩ ⟨rfl, hf⟩
      refine ⟨(nI 8, f), ?_, hf⟩
      simp (disch := omega) only [fX7_setRooms_L2, l_0, l_1, l_2, l_3, l_4, l_5, l_6, l_7, l_8, l_9, l_10, l_11, l_12, l_13, l_14, l_15, l_16, l_17, l_18, l_19, l_20, l_21, l_24, l_28, l_31, l_32, l_33, l_45, l_47, l_48, l_57, l_59, l_84, l_95, l_96, l_100, l_112, l_119, l_120, l_127, l_140, l_700, l_840, l_999, l_4095, l_999999, ↓l_m1, ↓l_m2, ↓l_m3, ↓l_m4, ↓l_m10, ↓l_m10000, nI_leI, nI_ltI, nI_eq, mI_le, mI_lt, le_mI, lt_mI, mI_eq, eq_mI, nI_add, pk_mul, pk_sub, pk_div, nI_clamp, md_eq, Nat.zero_le, true_and, and_true, and_self, if_pos, if_neg, Option.bind_some, bnd_some, Sum.elim_inl, Sum.elim_inr, ↓reduceIte])
  obtain ⟨y, e3, e4⟩ := loopI (step := fX7_setRooms_L28 τ z) (fun i (q : Int32 × (Nat → Int32)) => q.1 = nI i ∧ ∀ r, r < i → q.2 r = nI (cntW wl 10 r)) (fun q => ∀ r, r < 12 → q.2 r = nI (cntW wl 10 r)) 12 (F := 5000) (by omega) (s0 := ((0 : Int32), τ.2.2.2.2.2.2.2.2.2.2.1)) ⟨rfl, fun r hr => absurd hr (by omega)⟩
    (by
      rintro i ⟨x, f⟩ hi ⟨rfl, hf⟩
      have hw := wallsAhead_ok (τ := (τ.1, τ.2.1, τ.2.2.1, τ.2.2.2.1, τ.2.2.2.2.1, τ.2.2.2.2.2.1, τ.2.2.2.2.2.2.1, τ.2.2.2.2.2.2.2.1, τ.2.2.2.2.2.2.2.2.1, z.2, f, τ.2.2.2.2.2.2.2.2.2.2.2)) (wl := wl) h (b := 10) (k := i) (by omega)
      refine ⟨(nI (i + 1), upd f i (nI (cntW wl 10 i))), ?_, rfl, fun r hr => ?_⟩
      · simp (disch := omega) only [fX7_setRooms_L28, hw, l_0, l_1, l_2, l_3, l_4, l_5, l_6, l_7, l_8, l_9, l_10, l_11, l_12, l_13, l_14, l_15, l_16, l_17, l_18, l_19, l_20, l_21, l_24, l_28, l_31, l_32, l_33, l_45, l_47, l_48, l_57, l_59, l_84, l_95, l_96, l_100, l_112, l_119, l_120, l_127, l_140, l_700, l_840, l_999, l_4095, l_999999, ↓l_m1, ↓l_m2, ↓l_m3, ↓l_m4, ↓l_m10, ↓l_m10000, nI_leI, nI_ltI, nI_eq, mI_le, mI_lt, le_mI, lt_mI, mI_eq, eq_mI, nI_add, pk_mul, pk_sub, pk_div, nI_clamp, md_eq, Nat.zero_le, true_and, and_true, and_self, if_pos, if_neg, Option.bind_some, bnd_some, Sum.elim_inl, Sum.elim_inr, ↓reduceIte]
      · show upd f i _ r = _
        by_cases hri : r = i
        · subst hri; exact upd_same _ _ _
        · rw [upd_ne _ _ _ _ hri]; exact hf r (by omega))
    (by
      rintro ⟨x, f⟩ ⟨rfl, hf⟩
      refine ⟨(nI 12, f), ?_, hf⟩
      simp (disch := omega) only [fX7_setRooms_L28, l_0, l_1, l_2, l_3, l_4, l_5, l_6, l_7, l_8, l_9, l_10, l_11, l_12, l_13, l_14, l_15, l_16, l_17, l_18, l_19, l_20, l_21, l_24, l_28, l_31, l_32, l_33, l_45, l_47, l_48, l_57, l_59, l_84, l_95, l_96, l_100, l_112, l_119, l_120, l_127, l_140, l_700, l_840, l_999, l_4095, l_999999, ↓l_m1, ↓l_m2, ↓l_m3, ↓l_m4, ↓l_m10, ↓l_m10000, nI_leI, nI_ltI, nI_eq, mI_le, mI_lt, le_mI, lt_mI, mI_eq, eq_mI, nI_add, pk_mul, pk_sub, pk_div, nI_clamp, md_eq, Nat.zero_le, true_and, and_true, and_self, if_pos, if_neg, Option.bind_some, bnd_some, Sum.elim_inl, Sum.elim_inr, ↓reduceIte])
  exact ⟨z.2, y.2, by simp only [fX7_setRooms, e1, e3, bnd_some], e2, e4⟩
theorem roomOf_ok {τ : S7} {wl : Nat → Bool} (h : RmR τ wl) {c : Nat} (hc : c < 96) : fX7_roomOf τ (nI c) = some (nI (12 * cntW wl 0 (c / 12) + cntW wl 10 (c % 12))) := by
  have h1 := h.1 (c / 12) (by omega)
  have h2 := h.2 (c % 12) (by omega)
  simp (disch := omega) only [fX7_roomOf, h1, h2, l_0, l_1, l_2, l_3, l_4, l_5, l_6, l_7, l_8, l_9, l_10, l_11, l_12, l_13, l_14, l_15, l_16, l_17, l_18, l_19, l_20, l_21, l_24, l_28, l_31, l_32, l_33, l_45, l_47, l_48, l_57, l_59, l_84, l_95, l_96, l_100, l_112, l_119, l_120, l_127, l_140, l_700, l_840, l_999, l_4095, l_999999, ↓l_m1, ↓l_m2, ↓l_m3, ↓l_m4, ↓l_m10, ↓l_m10000, nI_leI, nI_ltI, nI_eq, mI_le, mI_lt, le_mI, lt_mI, mI_eq, eq_mI, nI_add, pk_mul, pk_sub, pk_div, nI_clamp, md_eq, Nat.zero_le, true_and, and_true, and_self, if_pos, if_neg, Option.bind_some, bnd_some, Sum.elim_inl, Sum.elim_inr, ↓reduceIte]
theorem room_eq {wl : Nat → Bool} {c d : Nat} (hc : c < 96) (hd : d < 96) : (12 * cntW wl 0 (c / 12) + cntW wl 10 (c % 12) = 12 * cntW wl 0 (d / 12) + cntW wl 10 (d % 12)) ↔ (cntW wl 0 (c / 12) = cntW wl 0 (d / 12) ∧ cntW wl 10 (c % 12) = cntW wl 10 (d % 12)) := by
  have h1 := cntW_le wl 10 (c % 12)
  have h2 := cntW_le wl 10 (d % 12)
  constructor
  · intro e; omega
  · intro e; omega
theorem gap_ok (a b : Nat) (ha : a < 2 ^ 31) (hb : b < 2 ^ 31) : fX7_gap (nI a) (nI b) = some (nI (gapN a b)) := by
  unfold fX7_gap gapN
  by_cases h : a ≤ b
  · rw [if_pos (nI_le h hb), if_neg (by omega), pk_sub h]
  · rw [if_neg (nI_ge (by omega) ha), if_pos (by omega), pk_sub (by omega)]
theorem bsz_t {z : Nat} {cl : Nat → Nat} {wl S : Nat → Bool} {c p : Nat} (h1 : S p = true) (h2 : cntW wl 0 (cl p / 12) = cntW wl 0 (c / 12) ∧ cntW wl 10 (cl p % 12) = cntW wl 10 (c % 12)) (h3 : dist (cl p) c < (bsz z cl wl S c p).2) : bsz z cl wl S c (p + 1) = (p, dist (cl p) c) := by
  rw [bsz, if_pos ⟨h1, h2, h3⟩]
theorem bsz_f {z : Nat} {cl : Nat → Nat} {wl S : Nat → Bool} {c p : Nat} (h : ¬ (S p = true ∧ (cntW wl 0 (cl p / 12) = cntW wl 0 (c / 12) ∧ cntW wl 10 (cl p % 12) = cntW wl 10 (c % 12)) ∧ dist (cl p) c < (bsz z cl wl S c p).2)) : bsz z cl wl S c (p + 1) = bsz z cl wl S c p := by
  rw [bsz, if_neg h]
theorem bearer_ok {τ : S7} {wl S : Nat → Bool} {cl : Nat → Nat} {x : Int32} (hR : RmR τ wl) (hx : hS x S) (hcl : ∀ p, p < 13 → S p = true → τ.2.2.2.1 p = nI (cl p) ∧ cl p < 96) {c : Nat} (hc : c < 96) : fX7_bearer τ x (nI c) = some (brI (br cl wl S c)) := by
  unfold fX7_bearer
  have hroom := roomOf_ok hR hc
  obtain ⟨z, e1, e2⟩ := loopI (step := fX7_bearer_L10 τ x (nI c)) (fun i (q : Int32 × Int32 × Int32) => q = (brI (bsz 999 cl wl S c i).1, nI (bsz 999 cl wl S c i).2, nI i)) (fun q => q.1 = brI (br cl wl S c)) 13 (F := 5000) (by omega) (s0 := ((-1 : Int32), (999 : Int32), (0 : Int32))) rfl
    (by
      rintro i q hi rfl
      have hbit := hx i (by omega)
      have hnear : (bsz 999 cl wl S c i).2 ≤ 999 := by
        rcases (bsz_z (cl := cl) (wl := wl) (S := S) hc (z := 999) (by omega) i (fun p hp hs => (hcl p (by omega) hs).2)).2 with ⟨_, q⟩ | ⟨q, _⟩ <;> omega
      cases hu : S i
      · refine ⟨_, ?_, rfl⟩
        have hne : ¬ (S i = true ∧ (cntW wl 0 (cl i / 12) = cntW wl 0 (c / 12) ∧ cntW wl 10 (cl i % 12) = cntW wl 10 (c % 12)) ∧ dist (cl i) c < (bsz 999 cl wl S c i).2) := fun q => by rw [hu] at q; cases q.1
        rw [bsz_f hne]
        simp (disch := omega) only [fX7_bearer_L10, b_one, hbit, hu, bI_f, l_0, l_1, l_2, l_3, l_4, l_5, l_6, l_7, l_8, l_9, l_10, l_11, l_12, l_13, l_14, l_15, l_16, l_17, l_18, l_19, l_20, l_21, l_24, l_28, l_31, l_32, l_33, l_45, l_47, l_48, l_57, l_59, l_84, l_95, l_96, l_100, l_112, l_119, l_120, l_127, l_140, l_700, l_840, l_999, l_4095, l_999999, ↓l_m1, ↓l_m2, ↓l_m3, ↓l_m4, ↓l_m10, ↓l_m10000, nI_leI, nI_ltI, nI_eq, mI_le, mI_lt, le_mI, lt_mI, mI_eq, eq_mI, nI_add, pk_mul, pk_sub, pk_div, nI_clamp, md_eq, Nat.zero_le, true_and, and_true, and_self, if_pos, if_neg, Option.bind_some, bnd_some, Sum.elim_inl, Sum.elim_inr, ↓reduceIte]
      · obtain ⟨hc1, hc2⟩ := hcl i hi hu
        have hroom2 := roomOf_ok hR hc2
        have hg1 := gap_ok (cl i / 12) (c / 12) (by omega) (by omega)
        have hg2 := gap_ok (cl i % 12) (c % 12) (by omega) (by omega)
        have hw1 := cntW_le wl 0 (cl i / 12)
        have hw2 := cntW_le wl 10 (cl i % 12)
        have hw3 := cntW_le wl 0 (c / 12)
        have hw4 := cntW_le wl 10 (c % 12)
        have hdl := dist_lt hc2 hc
        have hdd : gapN (cl i / 12) (c / 12) + gapN (cl i % 12) (c % 12) = dist (cl i) c := rfl
        by_cases hrm : cntW wl 0 (cl i / 12) = cntW wl 0 (c / 12) ∧ cntW wl 10 (cl i % 12) = cntW wl 10 (c % 12)
        · have hre := (room_eq (wl := wl) hc2 hc).mpr hrm
          by_cases hlt : dist (cl i) c < (bsz 999 cl wl S c i).2
          · refine ⟨_, ?_, rfl⟩
            rw [bsz_t hu hrm hlt]
            simp (disch := omega) only [fX7_bearer_L10, b_one, hbit, hu, bI_t, hc1, hroom, hroom2, hre, hg1, hg2, hdd, brI, l_0, l_1, l_2, l_3, l_4, l_5, l_6, l_7, l_8, l_9, l_10, l_11, l_12, l_13, l_14, l_15, l_16, l_17, l_18, l_19, l_20, l_21, l_24, l_28, l_31, l_32, l_33, l_45, l_47, l_48, l_57, l_59, l_84, l_95, l_96, l_100, l_112, l_119, l_120, l_127, l_140, l_700, l_840, l_999, l_4095, l_999999, ↓l_m1, ↓l_m2, ↓l_m3, ↓l_m4, ↓l_m10, ↓l_m10000, nI_leI, nI_ltI, nI_eq, mI_le, mI_lt, le_mI, lt_mI, mI_eq, eq_mI, nI_add, pk_mul, pk_sub, pk_div, nI_clamp, md_eq, Nat.zero_le, true_and, and_true, and_self, if_pos, if_neg, Option.bind_some, bnd_some, Sum.elim_inl, Sum.elim_inr, ↓reduceIte]
          · refine ⟨_, ?_, rfl⟩
            rw [bsz_f (fun q => hlt q.2.2)]
            simp (disch := omega) only [fX7_bearer_L10, b_one, hbit, hu, bI_t, hc1, hroom, hroom2, hre, hg1, hg2, hdd, l_0, l_1, l_2, l_3, l_4, l_5, l_6, l_7, l_8, l_9, l_10, l_11, l_12, l_13, l_14, l_15, l_16, l_17, l_18, l_19, l_20, l_21, l_24, l_28, l_31, l_32, l_33, l_45, l_47, l_48, l_57, l_59, l_84, l_95, l_96, l_100, l_112, l_119, l_120, l_127, l_140, l_700, l_840, l_999, l_4095, l_999999, ↓l_m1, ↓l_m2, ↓l_m3, ↓l_m4, ↓l_m10, ↓l_m10000, nI_leI, nI_ltI, nI_eq, mI_le, mI_lt, le_mI, lt_mI, mI_eq, eq_mI, nI_add, pk_mul, pk_sub, pk_div, nI_clamp, md_eq, Nat.zero_le, true_and, and_true, and_self, if_pos, if_neg, Option.bind_some, bnd_some, Sum.elim_inl, Sum.elim_inr, ↓reduceIte]
        · have hre : ¬ 12 * cntW wl 0 (cl i / 12) + cntW wl 10 (cl i % 12) = 12 * cntW wl 0 (c / 12) + cntW wl 10 (c % 12) := fun q => hrm ((room_eq hc2 hc).mp q)
          refine ⟨_, ?_, rfl⟩
          rw [bsz_f (fun q => hrm q.2.1)]
          simp (disch := omega) only [fX7_bearer_L10, b_one, hbit, hu, bI_t, hc1, hroom, hroom2, l_0, l_1, l_2, l_3, l_4, l_5, l_6, l_7, l_8, l_9, l_10, l_11, l_12, l_13, l_14, l_15, l_16, l_17, l_18, l_19, l_20, l_21, l_24, l_28, l_31, l_32, l_33, l_45, l_47, l_48, l_57, l_59, l_84, l_95, l_96, l_100, l_112, l_119, l_120, l_127, l_140, l_700, l_840, l_999, l_4095, l_999999, ↓l_m1, ↓l_m2, ↓l_m3, ↓l_m4, ↓l_m10, ↓l_m10000, nI_leI, nI_ltI, nI_eq, mI_le, mI_lt, le_mI, lt_mI, mI_eq, eq_mI, nI_add, pk_mul, pk_sub, pk_div, nI_clamp, md_eq, Nat.zero_le, true_and, and_true, and_self, if_pos, if_neg, Option.bind_some, bnd_some, Sum.elim_inl, Sum.elim_inr, ↓reduceIte])
    (by
      rintro q rfl
      refine ⟨(brI (bsz 999 cl wl S c 13).1, nI (bsz 999 cl wl S c 13).2, nI 13), ?_, rfl⟩
      simp (disch := omega) only [fX7_bearer_L10, l_0, l_1, l_2, l_3, l_4, l_5, l_6, l_7, l_8, l_9, l_10, l_11, l_12, l_13, l_14, l_15, l_16, l_17, l_18, l_19, l_20, l_21, l_24, l_28, l_31, l_32, l_33, l_45, l_47, l_48, l_57, l_59, l_84, l_95, l_96, l_100, l_112, l_119, l_120, l_127, l_140, l_700, l_840, l_999, l_4095, l_999999, ↓l_m1, ↓l_m2, ↓l_m3, ↓l_m4, ↓l_m10, ↓l_m10000, nI_leI, nI_ltI, nI_eq, mI_le, mI_lt, le_mI, lt_mI, mI_eq, eq_mI, nI_add, pk_mul, pk_sub, pk_div, nI_clamp, md_eq, Nat.zero_le, true_and, and_true, and_self, if_pos, if_neg, Option.bind_some, bnd_some, Sum.elim_inl, Sum.elim_inr, ↓reduceIte])
  rw [e1, bnd_some, e2]
