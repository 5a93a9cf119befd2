/-! the text is read -/
theorem loop2M {σ ρ σ' ρ' : Type} {step : σ → Option (σ ⊕ ρ)} {step' : σ' → Option (σ' ⊕ ρ')} (J : Nat → σ → σ' → Prop) (P : ρ → ρ' → Prop)
    (hs : ∀ n s t, J n s t → (∃ n1 s1 t1, n1 < n ∧ step s = some (.inl s1) ∧ step' t = some (.inl t1) ∧ J n1 s1 t1) ∨ (∃ r r', step s = some (.inr r) ∧ step' t = some (.inr r') ∧ P r r')) :
    ∀ (F n : Nat) (s : σ) (t : σ'), J n s t → n < F → ∃ r r', loopF step F s = some r ∧ loopF step' F t = some r' ∧ P r r'
  | 0, n, s, t, _, h => absurd h (by omega)
  | F + 1, n, s, t, hj, h => by
    rcases hs n s t hj with ⟨n1, s1, t1, a, b, c, d⟩ | ⟨r, r', a, b, c⟩
    · obtain ⟨r, r', h4, h5, h6⟩ := loop2M J P hs F n1 s1 t1 d (by omega)
      exact ⟨r, r', by rw [loopF_s, b]; exact h4, by rw [loopF_s, c]; exact h5, h6⟩
    · exact ⟨r, r', by rw [loopF_s, a]; rfl, by rw [loopF_s, b]; rfl, c⟩
def Sk (tl : Nat) (tx : Nat → Nat) (a r : Nat) : Prop := a ≤ r ∧ (r ≤ tl ∨ r = a) ∧ (∀ j, a ≤ j → j < r → tx j = 32) ∧ (tl ≤ r ∨ tx r ≠ 32)
theorem Sk_ex (tl : Nat) (tx : Nat → Nat) : ∀ k a, tl ≤ a + k → ∃ r, Sk tl tx a r
  | 0, a, h => ⟨a, by omega, Or.inr rfl, fun j h1 h2 => absurd h1 (by omega), Or.inl (by omega)⟩
  | k + 1, a, h => by
    by_cases h1 : tl ≤ a
    · exact ⟨a, by omega, Or.inr rfl, fun j h1 h2 => absurd h1 (by omega), Or.inl h1⟩
    · by_cases h2 : tx a = 32
      · obtain ⟨r, q1, q2, q3, q4⟩ := Sk_ex tl tx k (a + 1) (by omega)
        refine ⟨r, by omega, by omega, fun j j1 j2 => ?_, q4⟩
        by_cases hj : j = a
        · subst hj; exact h2
        · exact q3 j (by omega) j2
      · exact ⟨a, by omega, Or.inr rfl, fun j h1 h2 => absurd h1 (by omega), Or.inr h2⟩
def dgt (c : Nat) : Prop := 48 ≤ c ∧ c ≤ 57
def Dg (tl : Nat) (tx : Nat → Nat) (b d : Nat) : Prop := (∀ j, j < d → b + j < tl ∧ dgt (tx (b + j))) ∧ (tl ≤ b + d ∨ ¬ dgt (tx (b + d)))
theorem Dg_ex (tl : Nat) (tx : Nat → Nat) : ∀ k b, tl ≤ b + k → ∃ d, Dg tl tx b d
  | 0, b, h => ⟨0, fun j hj => absurd hj (by omega), Or.inl (by omega)⟩
  | k + 1, b, h => by
    by_cases h1 : tl ≤ b
    · exact ⟨0, fun j hj => absurd hj (by omega), Or.inl (by omega)⟩
    · rcases Classical.em (dgt (tx b)) with h2 | h2
      · obtain ⟨d, q1, q2⟩ := Dg_ex tl tx k (b + 1) (by omega)
        refine ⟨d + 1, fun j hj => ?_, ?_⟩
        · by_cases hj0 : j = 0
          · subst hj0; exact ⟨by omega, h2⟩
          · have := q1 (j - 1) (by omega)
            rw [show b + 1 + (j - 1) = b + j by omega] at this
            exact this
        · rw [show b + (d + 1) = b + 1 + d by omega]; exact q2
      · exact ⟨0, fun j hj => absurd hj (by omega), Or.inr h2⟩
def vl (tx : Nat → Nat) (b : Nat) : Nat → Nat
  | 0 => 0
  | k + 1 => 10 * vl tx b k + tx (b + k) - 48
theorem vl_lt {tl : Nat} {tx : Nat → Nat} {b d : Nat} (h : Dg tl tx b d) : ∀ k, k ≤ d → k ≤ 3 → vl tx b k + 1 ≤ (if k = 0 then 1 else if k = 1 then 10 else if k = 2 then 100 else 1000)
  | 0, _, _ => Nat.le_refl _
  | k + 1, h1, h2 => by
    have ih := vl_lt h k (by omega) (by omega)
    have hd := (h.1 k (by omega)).2
    unfold dgt at hd
    rw [vl]
    rcases (show k = 0 ∨ k = 1 ∨ k = 2 by omega) with rfl | rfl | rfl <;> simp at ih hd ⊢ <;> omega
theorem vl_999 {tl : Nat} {tx : Nat → Nat} {b d : Nat} (h : Dg tl tx b d) {k : Nat} (hk : k ≤ d) (h3 : k ≤ 3) : vl tx b k ≤ 999 := by
  have := vl_lt h k hk h3
  split at this
  · omega
  · split at this
    · omega
    · split at this <;> omega
theorem vl_99 {tl : Nat} {tx : Nat → Nat} {b d : Nat} (h : Dg tl tx b d) {k : Nat} (hk : k ≤ d) (h3 : k ≤ 2) : vl tx b k ≤ 99 := by
  have := vl_lt h k hk (by omega)
  split at this
  · omega
  · split at this
    · omega
    · split at this <;> omega
def PT (t : S4) (tl : Nat) (tx : Nat → Nat) (a : Nat) (F : Int32) : Prop := (∀ j, j < tl → t.1 j = nI (tx j)) ∧ t.2.1 = nI tl ∧ t.2.2.1 = nI a ∧ t.2.2.2.1 = F
def TX (tl : Nat) (tx : Nat → Nat) : Prop := tl ≤ 120 ∧ ∀ j, j < tl → tx j ≤ 127
def PM (τ : S7) (tl : Nat) (tx : Nat → Nat) (a : Nat) : Prop := (∀ j, j < tl → τ.2.2.2.2.2.2.2.2.2.2.2.2.2.2.2.1 j = nI (tx j)) ∧ τ.2.2.2.2.2.2.2.2.2.2.2.2.2.2.2.2.1 = nI tl ∧ τ.2.2.2.2.2.2.2.2.2.2.2.2.2.2.2.2.2.1 = nI a
theorem skip_c {t : S4} {tl : Nat} {tx : Nat → Nat} {a r : Nat} {F : Int32} (hx : TX tl tx) (h : PT t tl tx a F) (ha : a ≤ 130) (hs : Sk tl tx a r) : fX4_skipBlanks t = some (t.1, t.2.1, nI r, t.2.2.2) := by
  obtain ⟨h1, h2, h3, h4⟩ := h
  obtain ⟨s1, s2, s3, s4⟩ := hs
  have hl := hx.1
  obtain ⟨z, e1, e2⟩ := loopI (step := fX4_skipBlanks_L0 t) (fun i (q : Int32) => q = nI (a + i)) (fun q => q = nI r) (r - a) (F := 5000) (by omega) (s0 := t.2.2.1) h3
    (by
      rintro i q hi rfl
      have hc := h1 (a + i) (by omega)
      rw [s3 (a + i) (by omega) (by omega)] at hc
      refine ⟨nI (a + i + 1), ?_, rfl⟩
      simp (disch := omega) only [fX4_skipBlanks_L0, h2, hc, l_0, l_1, l_2, l_3, l_4, l_5, l_6, l_7, l_8, l_9, l_10, l_11, l_12, l_13, l_14, l_15, l_16, l_17, l_18, l_19, l_20, l_21, l_24, l_28, l_31, l_32, l_33, l_45, l_47, l_48, l_57, l_59, l_84, l_95, l_96, l_100, l_112, l_119, l_120, l_127, l_140, l_700, l_840, l_999, l_4095, l_999999, ↓l_m1, ↓l_m2, ↓l_m3, ↓l_m4, ↓l_m10, ↓l_m10000, nI_leI, nI_ltI, nI_eq, mI_le, mI_lt, le_mI, lt_mI, mI_eq, eq_mI, nI_add, pk_mul, pk_sub, pk_div, nI_clamp, md_eq, Nat.zero_le, true_and, and_true, and_self, if_pos, if_neg, Option.bind_some, bnd_some, Sum.elim_inl, Sum.elim_inr, ↓reduceIte])
    (by
      rintro q rfl
      rw [show a + (r - a) = r by omega]
      refine ⟨nI r, ?_, rfl⟩
      by_cases hge : tl ≤ r
      · simp (disch := omega) only [fX4_skipBlanks_L0, h2, l_0, l_1, l_2, l_3, l_4, l_5, l_6, l_7, l_8, l_9, l_10, l_11, l_12, l_13, l_14, l_15, l_16, l_17, l_18, l_19, l_20, l_21, l_24, l_28, l_31, l_32, l_33, l_45, l_47, l_48, l_57, l_59, l_84, l_95, l_96, l_100, l_112, l_119, l_120, l_127, l_140, l_700, l_840, l_999, l_4095, l_999999, ↓l_m1, ↓l_m2, ↓l_m3, ↓l_m4, ↓l_m10, ↓l_m10000, nI_leI, nI_ltI, nI_eq, mI_le, mI_lt, le_mI, lt_mI, mI_eq, eq_mI, nI_add, pk_mul, pk_sub, pk_div, nI_clamp, md_eq, Nat.zero_le, true_and, and_true, and_self, if_pos, if_neg, Option.bind_some, bnd_some, Sum.elim_inl, Sum.elim_inr, ↓reduceIte]
      · have hc := h1 r (by omega)
        have hne : ¬ tx r = 32 := by rcases s4 with q | q; omega; exact q
        have hxr := hx.2 r (by omega)
        simp (disch := omega) only [fX4_skipBlanks_L0, h2, hc, l_0, l_1, l_2, l_3, l_4, l_5, l_6, l_7, l_8, l_9, l_10, l_11, l_12, l_13, l_14, l_15, l_16, l_17, l_18, l_19, l_20, l_21, l_24, l_28, l_31, l_32, l_33, l_45, l_47, l_48, l_57, l_59, l_84, l_95, l_96, l_100, l_112, l_119, l_120, l_127, l_140, l_700, l_840, l_999, l_4095, l_999999, ↓l_m1, ↓l_m2, ↓l_m3, ↓l_m4, ↓l_m10, ↓l_m10000, nI_leI, nI_ltI, nI_eq, mI_le, mI_lt, le_mI, lt_mI, mI_eq, eq_mI, nI_add, pk_mul, pk_sub, pk_div, nI_clamp, md_eq, Nat.zero_le, true_and, and_true, and_self, if_pos, if_neg, Option.bind_some, bnd_some, Sum.elim_inl, Sum.elim_inr, ↓reduceIte])
  unfold fX4_skipBlanks
  rw [e1, bnd_some, e2]
theorem here_m {τ : S7} {tl : Nat} {tx : Nat → Nat} {a r : Nat} (hx : TX tl tx) (h : PM τ tl tx a) (ha : a ≤ 130) (hs : Sk tl tx a r) : fX7_here τ = some (if tl ≤ r then mI else nI (tx r), (τ.1, τ.2.1, τ.2.2.1, τ.2.2.2.1, τ.2.2.2.2.1, τ.2.2.2.2.2.1, τ.2.2.2.2.2.2.1, τ.2.2.2.2.2.2.2.1, τ.2.2.2.2.2.2.2.2.1, τ.2.2.2.2.2.2.2.2.2.1, τ.2.2.2.2.2.2.2.2.2.2.1, τ.2.2.2.2.2.2.2.2.2.2.2.1, τ.2.2.2.2.2.2.2.2.2.2.2.2.1, τ.2.2.2.2.2.2.2.2.2.2.2.2.2.1, τ.2.2.2.2.2.2.2.2.2.2.2.2.2.2.1, τ.2.2.2.2.2.2.2.2.2.2.2.2.2.2.2.1, τ.2.2.2.2.2.2.2.2.2.2.2.2.2.2.2.2.1, nI r, τ.2.2.2.2.2.2.2.2.2.2.2.2.2.2.2.2.2.2)) := by
  obtain ⟨h1, h2, h3⟩ := h
  obtain ⟨s1, s2, s3, s4⟩ := hs
  have hl := hx.1
  obtain ⟨z, e1, e2⟩ := loopI (step := fX7_here_L0 τ) (fun i (q : Int32) => q = nI (a + i)) (fun q => q = nI r) (r - a) (F := 5000) (by omega) (s0 := τ.2.2.2.2.2.2.2.2.2.2.2.2.2.2.2.2.2.1) h3
    (by
      rintro i q hi rfl
      have hc := h1 (a + i) (by omega)
      rw [s3 (a + i) (by omega) (by omega)] at hc
      refine ⟨nI (a + i + 1), ?_, rfl⟩
      simp (disch := omega) only [fX7_here_L0, h2, hc, l_0, l_1, l_2, l_3, l_4, l_5, l_6, l_7, l_8, l_9, l_10, l_11, l_12, l_13, l_14, l_15, l_16, l_17, l_18, l_19, l_20, l_21, l_24, l_28, l_31, l_32, l_33, l_45, l_47, l_48, l_57, l_59, l_84, l_95, l_96, l_100, l_112, l_119, l_120, l_127, l_140, l_700, l_840, l_999, l_4095, l_999999, ↓l_m1, ↓l_m2, ↓l_m3, ↓l_m4, ↓l_m10, ↓l_m10000, nI_leI, nI_ltI, nI_eq, mI_le, mI_lt, le_mI, lt_mI, mI_eq, eq_mI, nI_add, pk_mul, pk_sub, pk_div, nI_clamp, md_eq, Nat.zero_le, true_and, and_true, and_self, if_pos, if_neg, Option.bind_some, bnd_some, Sum.elim_inl, Sum.elim_inr, ↓reduceIte])
    (by
      rintro q rfl
      rw [show a + (r - a) = r by omega]
      refine ⟨nI r, ?_, rfl⟩
      by_cases hge : tl ≤ r
      · simp (disch := omega) only [fX7_here_L0, h2, l_0, l_1, l_2, l_3, l_4, l_5, l_6, l_7, l_8, l_9, l_10, l_11, l_12, l_13, l_14, l_15, l_16, l_17, l_18, l_19, l_20, l_21, l_24, l_28, l_31, l_32, l_33, l_45, l_47, l_48, l_57, l_59, l_84, l_95, l_96, l_100, l_112, l_119, l_120, l_127, l_140, l_700, l_840, l_999, l_4095, l_999999, ↓l_m1, ↓l_m2, ↓l_m3, ↓l_m4, ↓l_m10, ↓l_m10000, nI_leI, nI_ltI, nI_eq, mI_le, mI_lt, le_mI, lt_mI, mI_eq, eq_mI, nI_add, pk_mul, pk_sub, pk_div, nI_clamp, md_eq, Nat.zero_le, true_and, and_true, and_self, if_pos, if_neg, Option.bind_some, bnd_some, Sum.elim_inl, Sum.elim_inr, ↓reduceIte]
      · have hc := h1 r (by omega)
        have hne : ¬ tx r = 32 := by rcases s4 with q | q; omega; exact q
        have hxr := hx.2 r (by omega)
        simp (disch := omega) only [fX7_here_L0, h2, hc, l_0, l_1, l_2, l_3, l_4, l_5, l_6, l_7, l_8, l_9, l_10, l_11, l_12, l_13, l_14, l_15, l_16, l_17, l_18, l_19, l_20, l_21, l_24, l_28, l_31, l_32, l_33, l_45, l_47, l_48, l_57, l_59, l_84, l_95, l_96, l_100, l_112, l_119, l_120, l_127, l_140, l_700, l_840, l_999, l_4095, l_999999, ↓l_m1, ↓l_m2, ↓l_m3, ↓l_m4, ↓l_m10, ↓l_m10000, nI_leI, nI_ltI, nI_eq, mI_le, mI_lt, le_mI, lt_mI, mI_eq, eq_mI, nI_add, pk_mul, pk_sub, pk_div, nI_clamp, md_eq, Nat.zero_le, true_and, and_true, and_self, if_pos, if_neg, Option.bind_some, bnd_some, Sum.elim_inl, Sum.elim_inr, ↓reduceIte])
  subst e2
  by_cases hge : tl ≤ r
  · simp (disch := omega) only [fX7_here, h2, e1, hge, l_0, l_1, l_2, l_3, l_4, l_5, l_6, l_7, l_8, l_9, l_10, l_11, l_12, l_13, l_14, l_15, l_16, l_17, l_18, l_19, l_20, l_21, l_24, l_28, l_31, l_32, l_33, l_45, l_47, l_48, l_57, l_59, l_84, l_95, l_96, l_100, l_112, l_119, l_120, l_127, l_140, l_700, l_840, l_999, l_4095, l_999999, ↓l_m1, ↓l_m2, ↓l_m3, ↓l_m4, ↓l_m10, ↓l_m10000, nI_leI, nI_ltI, nI_eq, mI_le, mI_lt, le_mI, lt_mI, mI_eq, eq_mI, nI_add, pk_mul, pk_sub, pk_div, nI_clamp, md_eq, Nat.zero_le, true_and, and_true, and_self, if_pos, if_neg, Option.bind_some, bnd_some, Sum.elim_inl, Sum.elim_inr, ↓reduceIte]
  · have hc := h1 r (by omega)
    simp (disch := omega) only [fX7_here, h2, e1, hge, hc, l_0, l_1, l_2, l_3, l_4, l_5, l_6, l_7, l_8, l_9, l_10, l_11, l_12, l_13, l_14, l_15, l_16, l_17, l_18, l_19, l_20, l_21, l_24, l_28, l_31, l_32, l_33, l_45, l_47, l_48, l_57, l_59, l_84, l_95, l_96, l_100, l_112, l_119, l_120, l_127, l_140, l_700, l_840, l_999, l_4095, l_999999, ↓l_m1, ↓l_m2, ↓l_m3, ↓l_m4, ↓l_m10, ↓l_m10000, nI_leI, nI_ltI, nI_eq, mI_le, mI_lt, le_mI, lt_mI, mI_eq, eq_mI, nI_add, pk_mul, pk_sub, pk_div, nI_clamp, md_eq, Nat.zero_le, true_and, and_true, and_self, if_pos, if_neg, Option.bind_some, bnd_some, Sum.elim_inl, Sum.elim_inr, ↓reduceIte]
theorem in_dgt {c : Nat} (hc : c ≤ 127) (h : dgt c) : fX7_in (nI c) (nI 48) (nI 57) = some (nI 1) := by
  unfold dgt at h
  simp (disch := omega) only [fX7_in, l_0, l_1, l_2, l_3, l_4, l_5, l_6, l_7, l_8, l_9, l_10, l_11, l_12, l_13, l_14, l_15, l_16, l_17, l_18, l_19, l_20, l_21, l_24, l_28, l_31, l_32, l_33, l_45, l_47, l_48, l_57, l_59, l_84, l_95, l_96, l_100, l_112, l_119, l_120, l_127, l_140, l_700, l_840, l_999, l_4095, l_999999, ↓l_m1, ↓l_m2, ↓l_m3, ↓l_m4, ↓l_m10, ↓l_m10000, nI_leI, nI_ltI, nI_eq, mI_le, mI_lt, le_mI, lt_mI, mI_eq, eq_mI, nI_add, pk_mul, pk_sub, pk_div, nI_clamp, md_eq, Nat.zero_le, true_and, and_true, and_self, if_pos, if_neg, Option.bind_some, bnd_some, Sum.elim_inl, Sum.elim_inr, ↓reduceIte]
theorem in_ndgt {c : Nat} (hc : c ≤ 127) (h : ¬ dgt c) : fX7_in (nI c) (nI 48) (nI 57) = some (nI 0) := by
  unfold dgt at h
  by_cases h1 : c < 48
  · simp (disch := omega) only [fX7_in, l_0, l_1, l_2, l_3, l_4, l_5, l_6, l_7, l_8, l_9, l_10, l_11, l_12, l_13, l_14, l_15, l_16, l_17, l_18, l_19, l_20, l_21, l_24, l_28, l_31, l_32, l_33, l_45, l_47, l_48, l_57, l_59, l_84, l_95, l_96, l_100, l_112, l_119, l_120, l_127, l_140, l_700, l_840, l_999, l_4095, l_999999, ↓l_m1, ↓l_m2, ↓l_m3, ↓l_m4, ↓l_m10, ↓l_m10000, nI_leI, nI_ltI, nI_eq, mI_le, mI_lt, le_mI, lt_mI, mI_eq, eq_mI, nI_add, pk_mul, pk_sub, pk_div, nI_clamp, md_eq, Nat.zero_le, true_and, and_true, and_self, if_pos, if_neg, Option.bind_some, bnd_some, Sum.elim_inl, Sum.elim_inr, ↓reduceIte]
  · simp (disch := omega) only [fX7_in, l_0, l_1, l_2, l_3, l_4, l_5, l_6, l_7, l_8, l_9, l_10, l_11, l_12, l_13, l_14, l_15, l_16, l_17, l_18, l_19, l_20, l_21, l_24, l_28, l_31, l_32, l_33, l_45, l_47, l_48, l_57, l_59, l_84, l_95, l_96, l_100, l_112, l_119, l_120, l_127, l_140, l_700, l_840, l_999, l_4095, l_999999, ↓l_m1, ↓l_m2, ↓l_m3, ↓l_m4, ↓l_m10, ↓l_m10000, nI_leI, nI_ltI, nI_eq, mI_le, mI_lt, le_mI, lt_mI, mI_eq, eq_mI, nI_add, pk_mul, pk_sub, pk_div, nI_clamp, md_eq, Nat.zero_le, true_and, and_true, and_self, if_pos, if_neg, Option.bind_some, bnd_some, Sum.elim_inl, Sum.elim_inr, ↓reduceIte]
theorem fig_dgt {c : Nat} (hc : c ≤ 127) (h : dgt c) : fX4_isFigure (nI c) = some (nI 1) := by
  unfold dgt at h
  simp (disch := omega) only [fX4_isFigure, l_0, l_1, l_2, l_3, l_4, l_5, l_6, l_7, l_8, l_9, l_10, l_11, l_12, l_13, l_14, l_15, l_16, l_17, l_18, l_19, l_20, l_21, l_24, l_28, l_31, l_32, l_33, l_45, l_47, l_48, l_57, l_59, l_84, l_95, l_96, l_100, l_112, l_119, l_120, l_127, l_140, l_700, l_840, l_999, l_4095, l_999999, ↓l_m1, ↓l_m2, ↓l_m3, ↓l_m4, ↓l_m10, ↓l_m10000, nI_leI, nI_ltI, nI_eq, mI_le, mI_lt, le_mI, lt_mI, mI_eq, eq_mI, nI_add, pk_mul, pk_sub, pk_div, nI_clamp, md_eq, Nat.zero_le, true_and, and_true, and_self, if_pos, if_neg, Option.bind_some, bnd_some, Sum.elim_inl, Sum.elim_inr, ↓reduceIte]
theorem fig_ndgt {c : Nat} (hc : c ≤ 127) (h : ¬ dgt c) : fX4_isFigure (nI c) = some (nI 0) := by
  unfold dgt at h
  by_cases h1 : c < 48
  · simp (disch := omega) only [fX4_isFigure, l_0, l_1, l_2, l_3, l_4, l_5, l_6, l_7, l_8, l_9, l_10, l_11, l_12, l_13, l_14, l_15, l_16, l_17, l_18, l_19, l_20, l_21, l_24, l_28, l_31, l_32, l_33, l_45, l_47, l_48, l_57, l_59, l_84, l_95, l_96, l_100, l_112, l_119, l_120, l_127, l_140, l_700, l_840, l_999, l_4095, l_999999, ↓l_m1, ↓l_m2, ↓l_m3, ↓l_m4, ↓l_m10, ↓l_m10000, nI_leI, nI_ltI, nI_eq, mI_le, mI_lt, le_mI, lt_mI, mI_eq, eq_mI, nI_add, pk_mul, pk_sub, pk_div, nI_clamp, md_eq, Nat.zero_le, true_and, and_true, and_self, if_pos, if_neg, Option.bind_some, bnd_some, Sum.elim_inl, Sum.elim_inr, ↓reduceIte]
  · simp (disch := omega) only [fX4_isFigure, l_0, l_1, l_2, l_3, l_4, l_5, l_6, l_7, l_8, l_9, l_10, l_11, l_12, l_13, l_14, l_15, l_16, l_17, l_18, l_19, l_20, l_21, l_24, l_28, l_31, l_32, l_33, l_45, l_47, l_48, l_57, l_59, l_84, l_95, l_96, l_100, l_112, l_119, l_120, l_127, l_140, l_700, l_840, l_999, l_4095, l_999999, ↓l_m1, ↓l_m2, ↓l_m3, ↓l_m4, ↓l_m10, ↓l_m10000, nI_leI, nI_ltI, nI_eq, mI_le, mI_lt, le_mI, lt_mI, mI_eq, eq_mI, nI_add, pk_mul, pk_sub, pk_div, nI_clamp, md_eq, Nat.zero_le, true_and, and_true, and_self, if_pos, if_neg, Option.bind_some, bnd_some, Sum.elim_inl, Sum.elim_inr, ↓reduceIte]
theorem num_loop_c {t : S4} {tl : Nat} {tx : Nat → Nat} {b d : Nat} {F : Int32} (hx : TX tl tx) (h : PT t tl tx b F) (hb : b ≤ 130) (hd : Dg tl tx b d) (hd2 : d ≤ 120) : ∃ x, loopF (fX4_readNumber_L14 t) 5000 (nI 0, nI b) = some (x, nI (b + d)) ∧ (d ≤ 3 → x = nI (vl tx b d)) := by
  obtain ⟨h1, h2, h3, h4⟩ := h
  have hl := hx.1
  obtain ⟨z, e1, x, rfl, e2⟩ := loopI (step := fX4_readNumber_L14 t) (fun i (q : Int32 × Int32) => ∃ x, q = (x, nI (b + i)) ∧ (i ≤ 3 → x = nI (vl tx b i))) (fun q => ∃ x, q = (x, nI (b + d)) ∧ (d ≤ 3 → x = nI (vl tx b d))) d (F := 5000) (by omega) (s0 := (nI 0, nI b)) ⟨nI 0, rfl, fun _ => rfl⟩
    (by
      rintro i q hi ⟨x, rfl, hv⟩
      obtain ⟨g1, g2⟩ := hd.1 i hi
      have hc := h1 (b + i) g1
      have hxr := hx.2 (b + i) g1
      have hf := fig_dgt hxr g2
      refine ⟨((((10 : Int32) * x) + nI (tx (b + i))) - (48 : Int32), nI (b + i + 1)), ?_, _, rfl, fun hi3 => ?_⟩
      · simp (disch := omega) only [fX4_readNumber_L14, h2, hc, hf, l_1, l_0, nI_leI, nI_clamp, Nat.zero_le, true_and, if_pos, if_neg, nI_eq, ↓reduceIte, bnd_some, nI_add]
      · rw [hv (by omega)]
        have hv99 := vl_99 hd (k := i) (by omega) (by omega)
        unfold dgt at g2
        rw [vl]
        simp (disch := omega) only [l_0, l_1, l_2, l_3, l_4, l_5, l_6, l_7, l_8, l_9, l_10, l_11, l_12, l_13, l_14, l_15, l_16, l_17, l_18, l_19, l_20, l_21, l_24, l_28, l_31, l_32, l_33, l_45, l_47, l_48, l_57, l_59, l_84, l_95, l_96, l_100, l_112, l_119, l_120, l_127, l_140, l_700, l_840, l_999, l_4095, l_999999, ↓l_m1, ↓l_m2, ↓l_m3, ↓l_m4, ↓l_m10, ↓l_m10000, nI_leI, nI_ltI, nI_eq, mI_le, mI_lt, le_mI, lt_mI, mI_eq, eq_mI, nI_add, pk_mul, pk_sub, pk_div, nI_clamp, md_eq, Nat.zero_le, true_and, and_true, and_self, if_pos, if_neg, Option.bind_some, bnd_some, Sum.elim_inl, Sum.elim_inr, ↓reduceIte])
    (by
      rintro q ⟨x, rfl, hv⟩
      refine ⟨(x, nI (b + d)), ?_, x, rfl, hv⟩
      by_cases hge : tl ≤ b + d
      · simp (disch := omega) only [fX4_readNumber_L14, h2, l_0, l_1, l_2, l_3, l_4, l_5, l_6, l_7, l_8, l_9, l_10, l_11, l_12, l_13, l_14, l_15, l_16, l_17, l_18, l_19, l_20, l_21, l_24, l_28, l_31, l_32, l_33, l_45, l_47, l_48, l_57, l_59, l_84, l_95, l_96, l_100, l_112, l_119, l_120, l_127, l_140, l_700, l_840, l_999, l_4095, l_999999, ↓l_m1, ↓l_m2, ↓l_m3, ↓l_m4, ↓l_m10, ↓l_m10000, nI_leI, nI_ltI, nI_eq, mI_le, mI_lt, le_mI, lt_mI, mI_eq, eq_mI, nI_add, pk_mul, pk_sub, pk_div, nI_clamp, md_eq, Nat.zero_le, true_and, and_true, and_self, if_pos, if_neg, Option.bind_some, bnd_some, Sum.elim_inl, Sum.elim_inr, ↓reduceIte]
      · have hc := h1 (b + d) (by omega)
        have hxr := hx.2 (b + d) (by omega)
        have hf := fig_ndgt hxr (by rcases hd.2 with q | q; omega; exact q)
        simp (disch := omega) only [fX4_readNumber_L14, h2, hc, hf, l_0, l_1, l_2, l_3, l_4, l_5, l_6, l_7, l_8, l_9, l_10, l_11, l_12, l_13, l_14, l_15, l_16, l_17, l_18, l_19, l_20, l_21, l_24, l_28, l_31, l_32, l_33, l_45, l_47, l_48, l_57, l_59, l_84, l_95, l_96, l_100, l_112, l_119, l_120, l_127, l_140, l_700, l_840, l_999, l_4095, l_999999, ↓l_m1, ↓l_m2, ↓l_m3, ↓l_m4, ↓l_m10, ↓l_m10000, nI_leI, nI_ltI, nI_eq, mI_le, mI_lt, le_mI, lt_mI, mI_eq, eq_mI, nI_add, pk_mul, pk_sub, pk_div, nI_clamp, md_eq, Nat.zero_le, true_and, and_true, and_self, if_pos, if_neg, Option.bind_some, bnd_some, Sum.elim_inl, Sum.elim_inr, ↓reduceIte])
  exact ⟨x, e1, e2⟩
theorem num_loop_m {τ : S7} {c : Int32} {tl : Nat} {tx : Nat → Nat} {b d : Nat} (hx : TX tl tx) (h : PM τ tl tx b) (hb : b ≤ 130) (hd : Dg tl tx b d) (hd2 : d ≤ 120) : ∃ x, loopF (fX7_readsNumber_L28 (c, τ)) 5000 (nI 0, nI b, nI 0) = some (nI d, nI (b + d), x) ∧ (d ≤ 3 → x = nI (vl tx b d)) := by
  obtain ⟨h1, h2, h3⟩ := h
  have hl := hx.1
  obtain ⟨z, e1, x, rfl, e2⟩ := loopI (step := fX7_readsNumber_L28 (c, τ)) (fun i (q : Int32 × Int32 × Int32) => ∃ x, q = (nI i, nI (b + i), x) ∧ (i ≤ 3 → x = nI (vl tx b i))) (fun q => ∃ x, q = (nI d, nI (b + d), x) ∧ (d ≤ 3 → x = nI (vl tx b d))) d (F := 5000) (by omega) (s0 := (nI 0, nI b, nI 0)) ⟨nI 0, rfl, fun _ => rfl⟩
    (by
      rintro i q hi ⟨x, rfl, hv⟩
      obtain ⟨g1, g2⟩ := hd.1 i hi
      have hc := h1 (b + i) g1
      have hxr := hx.2 (b + i) g1
      have hf := in_dgt hxr g2
      by_cases hi3 : 3 ≤ i
      · refine ⟨(nI (i + 1), nI (b + i + 1), x), ?_, _, rfl, fun q => absurd q (by omega)⟩
        simp (disch := omega) only [fX7_readsNumber_L28, h2, hc, hf, l_0, l_1, l_2, l_3, l_4, l_5, l_6, l_7, l_8, l_9, l_10, l_11, l_12, l_13, l_14, l_15, l_16, l_17, l_18, l_19, l_20, l_21, l_24, l_28, l_31, l_32, l_33, l_45, l_47, l_48, l_57, l_59, l_84, l_95, l_96, l_100, l_112, l_119, l_120, l_127, l_140, l_700, l_840, l_999, l_4095, l_999999, ↓l_m1, ↓l_m2, ↓l_m3, ↓l_m4, ↓l_m10, ↓l_m10000, nI_leI, nI_ltI, nI_eq, mI_le, mI_lt, le_mI, lt_mI, mI_eq, eq_mI, nI_add, pk_mul, pk_sub, pk_div, nI_clamp, md_eq, Nat.zero_le, true_and, and_true, and_self, if_pos, if_neg, Option.bind_some, bnd_some, Sum.elim_inl, Sum.elim_inr, ↓reduceIte]
      · refine ⟨(nI (i + 1), nI (b + i + 1), nI (vl tx b (i + 1))), ?_, _, rfl, fun q => rfl⟩
        rw [hv (by omega)]
        have hv99 := vl_99 hd (k := i) (by omega) (by omega)
        unfold dgt at g2
        rw [vl]
        simp (disch := omega) only [fX7_readsNumber_L28, h2, hc, hf, l_0, l_1, l_2, l_3, l_4, l_5, l_6, l_7, l_8, l_9, l_10, l_11, l_12, l_13, l_14, l_15, l_16, l_17, l_18, l_19, l_20, l_21, l_24, l_28, l_31, l_32, l_33, l_45, l_47, l_48, l_57, l_59, l_84, l_95, l_96, l_100, l_112, l_119, l_120, l_127, l_140, l_700, l_840, l_999, l_4095, l_999999, ↓l_m1, ↓l_m2, ↓l_m3, ↓l_m4, ↓l_m10, ↓l_m10000, nI_leI, nI_ltI, nI_eq, mI_le, mI_lt, le_mI, lt_mI, mI_eq, eq_mI, nI_add, pk_mul, pk_sub, pk_div, nI_clamp, md_eq, Nat.zero_le, true_and, and_true, and_self, if_pos, if_neg, Option.bind_some, bnd_some, Sum.elim_inl, Sum.elim_inr, ↓reduceIte])
    (by
      rintro q ⟨x, rfl, hv⟩
      refine ⟨(nI d, nI (b + d), x), ?_, x, rfl, hv⟩
      by_cases hge : tl ≤ b + d
      · simp (disch := omega) only [fX7_readsNumber_L28, h2, l_0, l_1, l_2, l_3, l_4, l_5, l_6, l_7, l_8, l_9, l_10, l_11, l_12, l_13, l_14, l_15, l_16, l_17, l_18, l_19, l_20, l_21, l_24, l_28, l_31, l_32, l_33, l_45, l_47, l_48, l_57, l_59, l_84, l_95, l_96, l_100, l_112, l_119, l_120, l_127, l_140, l_700, l_840, l_999, l_4095, l_999999, ↓l_m1, ↓l_m2, ↓l_m3, ↓l_m4, ↓l_m10, ↓l_m10000, nI_leI, nI_ltI, nI_eq, mI_le, mI_lt, le_mI, lt_mI, mI_eq, eq_mI, nI_add, pk_mul, pk_sub, pk_div, nI_clamp, md_eq, Nat.zero_le, true_and, and_true, and_self, if_pos, if_neg, Option.bind_some, bnd_some, Sum.elim_inl, Sum.elim_inr, ↓reduceIte]
      · have hc := h1 (b + d) (by omega)
        have hxr := hx.2 (b + d) (by omega)
        have hf := in_ndgt hxr (by rcases hd.2 with q | q; omega; exact q)
        simp (disch := omega) only [fX7_readsNumber_L28, h2, hc, hf, l_0, l_1, l_2, l_3, l_4, l_5, l_6, l_7, l_8, l_9, l_10, l_11, l_12, l_13, l_14, l_15, l_16, l_17, l_18, l_19, l_20, l_21, l_24, l_28, l_31, l_32, l_33, l_45, l_47, l_48, l_57, l_59, l_84, l_95, l_96, l_100, l_112, l_119, l_120, l_127, l_140, l_700, l_840, l_999, l_4095, l_999999, ↓l_m1, ↓l_m2, ↓l_m3, ↓l_m4, ↓l_m10, ↓l_m10000, nI_leI, nI_ltI, nI_eq, mI_le, mI_lt, le_mI, lt_mI, mI_eq, eq_mI, nI_add, pk_mul, pk_sub, pk_div, nI_clamp, md_eq, Nat.zero_le, true_and, and_true, and_self, if_pos, if_neg, Option.bind_some, bnd_some, Sum.elim_inl, Sum.elim_inr, ↓reduceIte])
  exact ⟨x, e1, e2⟩
