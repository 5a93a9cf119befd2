/-! the orders of a text, both sides -/
def MK (τ τ1 : S7) : Prop := (τ1.1 = τ.1 ∧ τ1.2.2.2.2.2.2.2.1 = τ.2.2.2.2.2.2.2.1 ∧ τ1.2.2.2.2.2.2.2.2.1 = τ.2.2.2.2.2.2.2.2.1) ∧ (τ1.2.2.2.2.2.2.2.2.2.2.2.2.2.2.2.1 = τ.2.2.2.2.2.2.2.2.2.2.2.2.2.2.2.1 ∧ τ1.2.2.2.2.2.2.2.2.2.2.2.2.2.2.2.2.1 = τ.2.2.2.2.2.2.2.2.2.2.2.2.2.2.2.2.1) ∧ (τ1.2.2.2.2.2.2.2.2.2.2.2.2.2.2.2.2.2.2.2.2.1 = τ.2.2.2.2.2.2.2.2.2.2.2.2.2.2.2.2.2.2.2.2.1 ∧ τ1.2.2.2.2.2.2.2.2.2.2.2.2.2.2.2.2.2.2.2.2.2.1 = τ.2.2.2.2.2.2.2.2.2.2.2.2.2.2.2.2.2.2.2.2.2.1 ∧ τ1.2.2.2.2.2.2.2.2.2.2.2.2.2.2.2.2.2.2.2.2.2.2 = τ.2.2.2.2.2.2.2.2.2.2.2.2.2.2.2.2.2.2.2.2.2.2)
def MW (τ τ1 : S7) : Prop := τ1.2.2.2.2.2.2.2.2.2.2.2.2.2.1 = τ.2.2.2.2.2.2.2.2.2.2.2.2.2.1 ∧ τ1.2.2.2.2.2.2.2.2.2.2.2.2.2.2.1 = τ.2.2.2.2.2.2.2.2.2.2.2.2.2.2.1
def Res (C : Option (S4 × S1)) (D : Option (Int32 × S7)) (tl : Nat) (tx : Nat → Nat) (a : Nat) (τ : S7) : Prop :=
  (∃ e t1 m1 τ1 M1, a ≤ e ∧ e ≤ tl ∧ C = some (t1, m1) ∧ PT t1 tl tx e mI ∧ MR m1 M1 ∧ D = some (nI 1, τ1) ∧ TR τ1 M1 ∧ MK τ τ1 ∧ MW τ τ1 ∧ τ1.2.2.2.2.2.2.2.2.2.2.2.2.2.2.2.2.2.1 = nI e) ∨
  (∃ f t1 m1 τ1, f ≤ 120 ∧ C = some (t1, m1) ∧ FT 121 t1 tl tx f ∧ D = some (nI 0, τ1) ∧ MK τ τ1 ∧ τ1.2.2.2.2.2.2.2.2.2.2.2.2.2.2.2.2.2.1 = nI f)
theorem FT_fault {A : Nat} {t : S4} {tl : Nat} {tx : Nat → Nat} {f : Nat} (h : FT A t tl tx f) (hf : f ≤ 125) : ¬ t.2.2.2.1 = mI := by
  obtain ⟨a, ha, h1, h2, h3, h4⟩ := h
  rw [h4, eq_mI (by omega)]
  exact id
theorem fail_ft {A : Nat} {t : S4} {tl : Nat} {tx : Nat → Nat} {f : Nat} (h : FT A t tl tx f) (hf : f ≤ 125) (x : Int32) : fX4_fail t x = some t := by
  have := FT_fault h hf
  simp only [fX4_fail, ↓l_m1, if_neg this]
theorem n01 : nI 0 = nI 0 ∨ nI 0 = nI 1 := Or.inl rfl
theorem n11 : nI 1 = nI 0 ∨ nI 1 = nI 1 := Or.inr rfl
theorem wall_p {t : S4} {m : S1} {τ : S7} {M : AM} {tl : Nat} {tx : Nat → Nat} {a base mx : Nat} (hx : TX tl tx) (hp : PT t tl tx a mI) (hq : PM τ tl tx a) (ha : a ≤ 120) (hm : MR m M) (hτ : TR τ M) (hb : (base = 0 ∧ mx = 6) ∨ (base = 10 ∧ mx = 10)) : Res (fX4_readWall t m (nI base) (nI mx)) (fX7_readsWall τ (nI base) (nI mx)) tl tx a τ := by
  have hl := hx.1
  rcases num_both hx hp hq ha (show mx ≤ 999 by omega) with ⟨v, e, t1, a1, a0, a2, a3, a4, a5⟩ | ⟨f, t1, v, a1, a2, a3, a4⟩
  · rcases end_both (τ := (τ.1, τ.2.1, τ.2.2.1, τ.2.2.2.1, τ.2.2.2.2.1, τ.2.2.2.2.2.1, τ.2.2.2.2.2.2.1 ||| (nI 1 <<< (nI (base + v) &&& nI 31)), τ.2.2.2.2.2.2.2.1, τ.2.2.2.2.2.2.2.2.1, τ.2.2.2.2.2.2.2.2.2.1, τ.2.2.2.2.2.2.2.2.2.2.1, τ.2.2.2.2.2.2.2.2.2.2.2.1, τ.2.2.2.2.2.2.2.2.2.2.2.2.1, τ.2.2.2.2.2.2.2.2.2.2.2.2.2.1, τ.2.2.2.2.2.2.2.2.2.2.2.2.2.2.1, τ.2.2.2.2.2.2.2.2.2.2.2.2.2.2.2.1, τ.2.2.2.2.2.2.2.2.2.2.2.2.2.2.2.2.1, nI e, nI v, τ.2.2.2.2.2.2.2.2.2.2.2.2.2.2.2.2.2.2.2)) hx a4 ⟨hq.1, hq.2.1, rfl⟩ (by omega) with ⟨e2, t2, b1, b2, b3, b4, b5⟩ | ⟨f, t2, b1, b3, b4, b5⟩
    · refine Or.inl ⟨e2, t2, (m.1, m.2.1, m.2.2.1, m.2.2.2.1, upd m.2.2.2.2.1 (base + v) (bI true), m.2.2.2.2.2), (τ.1, τ.2.1, τ.2.2.1, τ.2.2.2.1, τ.2.2.2.2.1, τ.2.2.2.2.2.1, τ.2.2.2.2.2.2.1 ||| (nI 1 <<< (nI (base + v) &&& nI 31)), τ.2.2.2.2.2.2.2.1, τ.2.2.2.2.2.2.2.2.1, τ.2.2.2.2.2.2.2.2.2.1, τ.2.2.2.2.2.2.2.2.2.2.1, τ.2.2.2.2.2.2.2.2.2.2.2.1, τ.2.2.2.2.2.2.2.2.2.2.2.2.1, τ.2.2.2.2.2.2.2.2.2.2.2.2.2.1, τ.2.2.2.2.2.2.2.2.2.2.2.2.2.2.1, τ.2.2.2.2.2.2.2.2.2.2.2.2.2.2.2.1, τ.2.2.2.2.2.2.2.2.2.2.2.2.2.2.2.2.1, nI e2, nI v, τ.2.2.2.2.2.2.2.2.2.2.2.2.2.2.2.2.2.2.2), setW M (base + v) true, by omega, b2, ?_, b4, MR_setW hm (by omega) true, ?_, ⟨hτ.1, hτ.2.1, hτ.2.2.1, hτ.2.2.2.1, (hS_setW hτ.2.2.2.2.1 (by omega)).1, hτ.2.2.2.2.2⟩, ⟨⟨rfl, rfl, rfl⟩, ⟨rfl, rfl⟩, rfl, rfl, rfl⟩, ⟨rfl, rfl⟩, rfl⟩
      · have hf := b4.2.2.2
        simp (disch := omega) only [fX4_readWall, a3, b3, hf, bI_t, l_0, l_1, l_2, l_3, l_4, l_5, l_6, l_7, l_8, l_9, l_10, l_11, l_12, l_13, l_14, l_15, l_16, l_17, l_18, l_19, l_20, l_21, l_24, l_28, l_31, l_32, l_33, l_45, l_47, l_48, l_57, l_59, l_84, l_95, l_96, l_100, l_112, l_119, l_120, l_127, l_140, l_700, l_840, l_999, l_4095, l_999999, ↓l_m1, ↓l_m2, ↓l_m3, ↓l_m4, ↓l_m10, ↓l_m10000, nI_leI, nI_ltI, nI_eq, mI_le, mI_lt, le_mI, lt_mI, mI_eq, eq_mI, nI_add, pk_mul, pk_sub, pk_div, nI_clamp, md_eq, Nat.zero_le, true_and, and_true, and_self, if_pos, if_neg, Option.bind_some, bnd_some, Sum.elim_inl, Sum.elim_inr, ↓reduceIte]
      · simp (disch := omega) only [fX7_readsWall, a5, l_1, l_31, l_0, nI_add, b5, bnd_some, eq_self, or_true, true_or, n10, if_true, if_false]
    · have hf := FT_fault b4 (by omega)
      refine Or.inr ⟨f, t2, m, (τ.1, τ.2.1, τ.2.2.1, τ.2.2.2.1, τ.2.2.2.2.1, τ.2.2.2.2.2.1, τ.2.2.2.2.2.2.1 ||| (nI 1 <<< (nI (base + v) &&& nI 31)), τ.2.2.2.2.2.2.2.1, τ.2.2.2.2.2.2.2.2.1, τ.2.2.2.2.2.2.2.2.2.1, τ.2.2.2.2.2.2.2.2.2.2.1, τ.2.2.2.2.2.2.2.2.2.2.2.1, τ.2.2.2.2.2.2.2.2.2.2.2.2.1, τ.2.2.2.2.2.2.2.2.2.2.2.2.2.1, τ.2.2.2.2.2.2.2.2.2.2.2.2.2.2.1, τ.2.2.2.2.2.2.2.2.2.2.2.2.2.2.2.1, τ.2.2.2.2.2.2.2.2.2.2.2.2.2.2.2.2.1, nI f, nI v, τ.2.2.2.2.2.2.2.2.2.2.2.2.2.2.2.2.2.2.2), b1, ?_, b4, ?_, ⟨⟨rfl, rfl, rfl⟩, ⟨rfl, rfl⟩, rfl, rfl, rfl⟩, rfl⟩
      · simp (disch := omega) only [fX4_readWall, a3, b3, ↓l_m1, hf, bnd_some, if_false]
      · simp (disch := omega) only [fX7_readsWall, a5, l_1, l_31, l_0, nI_add, b5, bnd_some, eq_self, or_true, true_or, n10, if_true, if_false]
  · obtain ⟨t2, b1, b2⟩ := end_ft hx a3 (by omega)
    have hf := FT_fault b2 (by omega)
    refine Or.inr ⟨f, t2, m, (τ.1, τ.2.1, τ.2.2.1, τ.2.2.2.1, τ.2.2.2.2.1, τ.2.2.2.2.2.1, τ.2.2.2.2.2.2.1, τ.2.2.2.2.2.2.2.1, τ.2.2.2.2.2.2.2.2.1, τ.2.2.2.2.2.2.2.2.2.1, τ.2.2.2.2.2.2.2.2.2.2.1, τ.2.2.2.2.2.2.2.2.2.2.2.1, τ.2.2.2.2.2.2.2.2.2.2.2.2.1, τ.2.2.2.2.2.2.2.2.2.2.2.2.2.1, τ.2.2.2.2.2.2.2.2.2.2.2.2.2.2.1, τ.2.2.2.2.2.2.2.2.2.2.2.2.2.2.2.1, τ.2.2.2.2.2.2.2.2.2.2.2.2.2.2.2.2.1, nI f, v, τ.2.2.2.2.2.2.2.2.2.2.2.2.2.2.2.2.2.2.2), a1, ?_, b2, ?_, ⟨⟨rfl, rfl, rfl⟩, ⟨rfl, rfl⟩, rfl, rfl, rfl⟩, rfl⟩
    · simp (disch := omega) only [fX4_readWall, a2, b1, ↓l_m1, hf, bnd_some, if_false]
    · simp (disch := omega) only [fX7_readsWall, a4, l_0, bnd_some, if_true]
theorem cell_ft {t : S4} {tl : Nat} {tx : Nat → Nat} {f : Nat} (hx : TX tl tx) (h : FT 120 t tl tx f) (hf : f ≤ 125) : ∃ t1, fX4_readCell t = some (nI 0, t1) ∧ FT 120 t1 tl tx f := by
  obtain ⟨t1, a1, a2⟩ := num_ft (mx := 7) hx h hf (by omega)
  obtain ⟨t2, b1, b2⟩ := num_ft (mx := 11) hx a2 hf (by omega)
  refine ⟨t2, ?_, b2⟩
  simp (disch := omega) only [fX4_readCell, a1, b1, l_0, l_1, l_2, l_3, l_4, l_5, l_6, l_7, l_8, l_9, l_10, l_11, l_12, l_13, l_14, l_15, l_16, l_17, l_18, l_19, l_20, l_21, l_24, l_28, l_31, l_32, l_33, l_45, l_47, l_48, l_57, l_59, l_84, l_95, l_96, l_100, l_112, l_119, l_120, l_127, l_140, l_700, l_840, l_999, l_4095, l_999999, ↓l_m1, ↓l_m2, ↓l_m3, ↓l_m4, ↓l_m10, ↓l_m10000, nI_leI, nI_ltI, nI_eq, mI_le, mI_lt, le_mI, lt_mI, mI_eq, eq_mI, nI_add, pk_mul, pk_sub, pk_div, nI_clamp, md_eq, Nat.zero_le, true_and, and_true, and_self, if_pos, if_neg, Option.bind_some, bnd_some, Sum.elim_inl, Sum.elim_inr, ↓reduceIte]
theorem cell_both {t : S4} {τ : S7} {tl : Nat} {tx : Nat → Nat} {a : Nat} (hx : TX tl tx) (h : PT t tl tx a mI) (h2 : PM τ tl tx a) (ha : a ≤ 120) :
    (∃ c e t1 rv, c < 96 ∧ a ≤ e ∧ e ≤ tl ∧ fX4_readCell t = some (nI c, t1) ∧ PT t1 tl tx e mI ∧ fX7_readsCell τ = some (nI 1, (τ.1, τ.2.1, τ.2.2.1, τ.2.2.2.1, τ.2.2.2.2.1, τ.2.2.2.2.2.1, τ.2.2.2.2.2.2.1, τ.2.2.2.2.2.2.2.1, τ.2.2.2.2.2.2.2.2.1, τ.2.2.2.2.2.2.2.2.2.1, τ.2.2.2.2.2.2.2.2.2.2.1, τ.2.2.2.2.2.2.2.2.2.2.2.1, τ.2.2.2.2.2.2.2.2.2.2.2.2.1, τ.2.2.2.2.2.2.2.2.2.2.2.2.2.1, τ.2.2.2.2.2.2.2.2.2.2.2.2.2.2.1, τ.2.2.2.2.2.2.2.2.2.2.2.2.2.2.2.1, τ.2.2.2.2.2.2.2.2.2.2.2.2.2.2.2.2.1, nI e, rv, nI c, τ.2.2.2.2.2.2.2.2.2.2.2.2.2.2.2.2.2.2.2.2))) ∨
    (∃ f t1 cc rv rc, f ≤ 120 ∧ cc < 96 ∧ fX4_readCell t = some (nI cc, t1) ∧ FT 120 t1 tl tx f ∧ fX7_readsCell τ = some (nI 0, (τ.1, τ.2.1, τ.2.2.1, τ.2.2.2.1, τ.2.2.2.2.1, τ.2.2.2.2.2.1, τ.2.2.2.2.2.2.1, τ.2.2.2.2.2.2.2.1, τ.2.2.2.2.2.2.2.2.1, τ.2.2.2.2.2.2.2.2.2.1, τ.2.2.2.2.2.2.2.2.2.2.1, τ.2.2.2.2.2.2.2.2.2.2.2.1, τ.2.2.2.2.2.2.2.2.2.2.2.2.1, τ.2.2.2.2.2.2.2.2.2.2.2.2.2.1, τ.2.2.2.2.2.2.2.2.2.2.2.2.2.2.1, τ.2.2.2.2.2.2.2.2.2.2.2.2.2.2.2.1, τ.2.2.2.2.2.2.2.2.2.2.2.2.2.2.2.2.1, nI f, rv, rc, τ.2.2.2.2.2.2.2.2.2.2.2.2.2.2.2.2.2.2.2.2))) := by
  have hl := hx.1
  rcases num_both (mx := 7) hx h h2 ha (by omega) with ⟨v, e, t1, a1, a0, a2, a3, a4, a5⟩ | ⟨f, t1, v, a1, a2, a3, a4⟩
  · rcases num_both (mx := 11) (τ := (τ.1, τ.2.1, τ.2.2.1, τ.2.2.2.1, τ.2.2.2.2.1, τ.2.2.2.2.2.1, τ.2.2.2.2.2.2.1, τ.2.2.2.2.2.2.2.1, τ.2.2.2.2.2.2.2.2.1, τ.2.2.2.2.2.2.2.2.2.1, τ.2.2.2.2.2.2.2.2.2.2.1, τ.2.2.2.2.2.2.2.2.2.2.2.1, τ.2.2.2.2.2.2.2.2.2.2.2.2.1, τ.2.2.2.2.2.2.2.2.2.2.2.2.2.1, τ.2.2.2.2.2.2.2.2.2.2.2.2.2.2.1, τ.2.2.2.2.2.2.2.2.2.2.2.2.2.2.2.1, τ.2.2.2.2.2.2.2.2.2.2.2.2.2.2.2.2.1, nI e, nI v, nI (12 * v), τ.2.2.2.2.2.2.2.2.2.2.2.2.2.2.2.2.2.2.2.2)) hx a4 ⟨h2.1, h2.2.1, rfl⟩ (by omega) (by omega) with ⟨u, e2, t2, b1, b0, b2, b3, b4, b5⟩ | ⟨f, t2, u, b1, b2, b3, b4⟩
    · refine Or.inl ⟨12 * v + u, e2, t2, nI u, by omega, by omega, b2, ?_, b4, ?_⟩
      · simp (disch := omega) only [fX4_readCell, a3, b3, l_0, l_1, l_2, l_3, l_4, l_5, l_6, l_7, l_8, l_9, l_10, l_11, l_12, l_13, l_14, l_15, l_16, l_17, l_18, l_19, l_20, l_21, l_24, l_28, l_31, l_32, l_33, l_45, l_47, l_48, l_57, l_59, l_84, l_95, l_96, l_100, l_112, l_119, l_120, l_127, l_140, l_700, l_840, l_999, l_4095, l_999999, ↓l_m1, ↓l_m2, ↓l_m3, ↓l_m4, ↓l_m10, ↓l_m10000, nI_leI, nI_ltI, nI_eq, mI_le, mI_lt, le_mI, lt_mI, mI_eq, eq_mI, nI_add, pk_mul, pk_sub, pk_div, nI_clamp, md_eq, Nat.zero_le, true_and, and_true, and_self, if_pos, if_neg, Option.bind_some, bnd_some, Sum.elim_inl, Sum.elim_inr, ↓reduceIte]
      · simp (disch := omega) only [fX7_readsCell, a5, l_0, l_1, l_7, l_11, l_12, pk_mul, b5, nI_add, bnd_some, n10, if_false]
    · refine Or.inr ⟨f, t2, 12 * v, u, nI (12 * v), b1, by omega, ?_, b3, ?_⟩
      · simp (disch := omega) only [fX4_readCell, a3, b2, Nat.add_zero, l_0, l_1, l_2, l_3, l_4, l_5, l_6, l_7, l_8, l_9, l_10, l_11, l_12, l_13, l_14, l_15, l_16, l_17, l_18, l_19, l_20, l_21, l_24, l_28, l_31, l_32, l_33, l_45, l_47, l_48, l_57, l_59, l_84, l_95, l_96, l_100, l_112, l_119, l_120, l_127, l_140, l_700, l_840, l_999, l_4095, l_999999, ↓l_m1, ↓l_m2, ↓l_m3, ↓l_m4, ↓l_m10, ↓l_m10000, nI_leI, nI_ltI, nI_eq, mI_le, mI_lt, le_mI, lt_mI, mI_eq, eq_mI, nI_add, pk_mul, pk_sub, pk_div, nI_clamp, md_eq, Nat.zero_le, true_and, and_true, and_self, if_pos, if_neg, Option.bind_some, bnd_some, Sum.elim_inl, Sum.elim_inr, ↓reduceIte]
      · simp (disch := omega) only [fX7_readsCell, a5, l_0, l_1, l_7, l_11, l_12, pk_mul, b4, nI_add, bnd_some, n10, if_false, if_true]
  · obtain ⟨t2, b1, b2⟩ := num_ft (mx := 11) hx a3 (by omega) (by omega)
    refine Or.inr ⟨f, t2, 0, v, τ.2.2.2.2.2.2.2.2.2.2.2.2.2.2.2.2.2.2.2.1, a1, by omega, ?_, b2, ?_⟩
    · simp (disch := omega) only [fX4_readCell, a2, b1, l_0, l_1, l_2, l_3, l_4, l_5, l_6, l_7, l_8, l_9, l_10, l_11, l_12, l_13, l_14, l_15, l_16, l_17, l_18, l_19, l_20, l_21, l_24, l_28, l_31, l_32, l_33, l_45, l_47, l_48, l_57, l_59, l_84, l_95, l_96, l_100, l_112, l_119, l_120, l_127, l_140, l_700, l_840, l_999, l_4095, l_999999, ↓l_m1, ↓l_m2, ↓l_m3, ↓l_m4, ↓l_m10, ↓l_m10000, nI_leI, nI_ltI, nI_eq, mI_le, mI_lt, le_mI, lt_mI, mI_eq, eq_mI, nI_add, pk_mul, pk_sub, pk_div, nI_clamp, md_eq, Nat.zero_le, true_and, and_true, and_self, if_pos, if_neg, Option.bind_some, bnd_some, Sum.elim_inl, Sum.elim_inr, ↓reduceIte]
    · simp (disch := omega) only [fX7_readsCell, a4, l_0, l_7, bnd_some, if_true]
def setC (M : AM) (c v : Nat) : AM := mkAM M.n M.cl M.sg M.up M.wl (fun j => if j = c then v else M.wt j)
theorem MR_setC {m : S1} {M : AM} (h1 : MR m M) {c v : Nat} (hv : v ≤ 9) : MR (upd m.1 c (nI v), m.2) (setC M c v) := by
  refine ⟨⟨h1.1.1, h1.1.2.1, h1.1.2.2.1, h1.1.2.2.2.1, h1.1.2.2.2.2.1, fun j hj => ?_⟩, h1.2.1, h1.2.2.1, h1.2.2.2.1, h1.2.2.2.2.1, h1.2.2.2.2.2.1, fun j hj => ?_⟩
  · show (if j = c then v else M.wt j) ≤ 9
    split
    · exact hv
    · exact h1.1.2.2.2.2.2 j hj
  · show upd _ c _ j = nI (if j = c then v else M.wt j)
    by_cases hjc : j = c
    · rw [if_pos hjc, hjc, upd_same]
    · rw [if_neg hjc, upd_ne _ _ _ _ hjc]; exact h1.2.2.2.2.2.2 j hj
theorem weight_p {t : S4} {m : S1} {τ : S7} {M : AM} {tl : Nat} {tx : Nat → Nat} {a : Nat} (hx : TX tl tx) (hp : PT t tl tx a mI) (hq : PM τ tl tx a) (ha : a ≤ 120) (hm : MR m M) (hτ : TR τ M) : Res (fX4_readWeight t m) (fX7_readsWeight τ) tl tx a τ := by
  have hl := hx.1
  rcases cell_both hx hp hq ha with ⟨c, e, t1, rv, a1, a0, a2, a3, a4, a5⟩ | ⟨f, t1, cc, rv, rc, a1, a0, a2, a3, a4⟩
  · rcases num_both (mx := 9) (τ := (τ.1, τ.2.1, τ.2.2.1, τ.2.2.2.1, τ.2.2.2.2.1, τ.2.2.2.2.2.1, τ.2.2.2.2.2.2.1, τ.2.2.2.2.2.2.2.1, τ.2.2.2.2.2.2.2.2.1, τ.2.2.2.2.2.2.2.2.2.1, τ.2.2.2.2.2.2.2.2.2.2.1, τ.2.2.2.2.2.2.2.2.2.2.2.1, τ.2.2.2.2.2.2.2.2.2.2.2.2.1, τ.2.2.2.2.2.2.2.2.2.2.2.2.2.1, τ.2.2.2.2.2.2.2.2.2.2.2.2.2.2.1, τ.2.2.2.2.2.2.2.2.2.2.2.2.2.2.2.1, τ.2.2.2.2.2.2.2.2.2.2.2.2.2.2.2.2.1, nI e, rv, nI c, τ.2.2.2.2.2.2.2.2.2.2.2.2.2.2.2.2.2.2.2.2)) hx a4 ⟨hq.1, hq.2.1, rfl⟩ (by omega) (by omega) with ⟨v, e2, t2, b1, b0, b2, b3, b4, b5⟩ | ⟨f, t2, v, b1, b2, b3, b4⟩
    · rcases end_both (τ := (τ.1, upd τ.2.1 c (nI v), τ.2.2.1, τ.2.2.2.1, τ.2.2.2.2.1, τ.2.2.2.2.2.1, τ.2.2.2.2.2.2.1, τ.2.2.2.2.2.2.2.1, τ.2.2.2.2.2.2.2.2.1, τ.2.2.2.2.2.2.2.2.2.1, τ.2.2.2.2.2.2.2.2.2.2.1, τ.2.2.2.2.2.2.2.2.2.2.2.1, τ.2.2.2.2.2.2.2.2.2.2.2.2.1, τ.2.2.2.2.2.2.2.2.2.2.2.2.2.1, τ.2.2.2.2.2.2.2.2.2.2.2.2.2.2.1, τ.2.2.2.2.2.2.2.2.2.2.2.2.2.2.2.1, τ.2.2.2.2.2.2.2.2.2.2.2.2.2.2.2.2.1, nI e2, nI v, nI c, τ.2.2.2.2.2.2.2.2.2.2.2.2.2.2.2.2.2.2.2.2)) hx b4 ⟨hq.1, hq.2.1, rfl⟩ (by omega) with ⟨e3, t3, c1, c2, c3, c4, c5⟩ | ⟨f, t3, c1, c3, c4, c5⟩
      · refine Or.inl ⟨e3, t3, (upd m.1 c (nI v), m.2), (τ.1, upd τ.2.1 c (nI v), τ.2.2.1, τ.2.2.2.1, τ.2.2.2.2.1, τ.2.2.2.2.2.1, τ.2.2.2.2.2.2.1, τ.2.2.2.2.2.2.2.1, τ.2.2.2.2.2.2.2.2.1, τ.2.2.2.2.2.2.2.2.2.1, τ.2.2.2.2.2.2.2.2.2.2.1, τ.2.2.2.2.2.2.2.2.2.2.2.1, τ.2.2.2.2.2.2.2.2.2.2.2.2.1, τ.2.2.2.2.2.2.2.2.2.2.2.2.2.1, τ.2.2.2.2.2.2.2.2.2.2.2.2.2.2.1, τ.2.2.2.2.2.2.2.2.2.2.2.2.2.2.2.1, τ.2.2.2.2.2.2.2.2.2.2.2.2.2.2.2.2.1, nI e3, nI v, nI c, τ.2.2.2.2.2.2.2.2.2.2.2.2.2.2.2.2.2.2.2.2), setC M c v, by omega, c2, ?_, c4, MR_setC hm b1, ?_, ⟨hτ.1, hτ.2.1, hτ.2.2.1, hτ.2.2.2.1, hτ.2.2.2.2.1, fun j hj => ?_⟩, ⟨⟨rfl, rfl, rfl⟩, ⟨rfl, rfl⟩, rfl, rfl, rfl⟩, ⟨rfl, rfl⟩, rfl⟩
        · have hf := c4.2.2.2
          simp (disch := omega) only [fX4_readWeight, a3, b3, c3, hf, l_0, l_1, l_2, l_3, l_4, l_5, l_6, l_7, l_8, l_9, l_10, l_11, l_12, l_13, l_14, l_15, l_16, l_17, l_18, l_19, l_20, l_21, l_24, l_28, l_31, l_32, l_33, l_45, l_47, l_48, l_57, l_59, l_84, l_95, l_96, l_100, l_112, l_119, l_120, l_127, l_140, l_700, l_840, l_999, l_4095, l_999999, ↓l_m1, ↓l_m2, ↓l_m3, ↓l_m4, ↓l_m10, ↓l_m10000, nI_leI, nI_ltI, nI_eq, mI_le, mI_lt, le_mI, lt_mI, mI_eq, eq_mI, nI_add, pk_mul, pk_sub, pk_div, nI_clamp, md_eq, Nat.zero_le, true_and, and_true, and_self, if_pos, if_neg, Option.bind_some, bnd_some, Sum.elim_inl, Sum.elim_inr, ↓reduceIte]
        · simp (disch := omega) only [fX7_readsWeight, a5, b5, l_0, l_1, l_9, nI_leI, nI_clamp, Nat.zero_le, true_and, if_pos, c5, bnd_some, eq_self, or_true, true_or, n10, if_true, if_false]
        · show upd _ c _ j = nI (if j = c then v else M.wt j)
          by_cases hjc : j = c
          · rw [if_pos hjc, hjc, upd_same]
          · rw [if_neg hjc, upd_ne _ _ _ _ hjc]; exact hτ.2.2.2.2.2 j hj
      · have hf := FT_fault c4 (by omega)
        refine Or.inr ⟨f, t3, m, (τ.1, upd τ.2.1 c (nI v), τ.2.2.1, τ.2.2.2.1, τ.2.2.2.2.1, τ.2.2.2.2.2.1, τ.2.2.2.2.2.2.1, τ.2.2.2.2.2.2.2.1, τ.2.2.2.2.2.2.2.2.1, τ.2.2.2.2.2.2.2.2.2.1, τ.2.2.2.2.2.2.2.2.2.2.1, τ.2.2.2.2.2.2.2.2.2.2.2.1, τ.2.2.2.2.2.2.2.2.2.2.2.2.1, τ.2.2.2.2.2.2.2.2.2.2.2.2.2.1, τ.2.2.2.2.2.2.2.2.2.2.2.2.2.2.1, τ.2.2.2.2.2.2.2.2.2.2.2.2.2.2.2.1, τ.2.2.2.2.2.2.2.2.2.2.2.2.2.2.2.2.1, nI f, nI v, nI c, τ.2.2.2.2.2.2.2.2.2.2.2.2.2.2.2.2.2.2.2.2), c1, ?_, c4, ?_, ⟨⟨rfl, rfl, rfl⟩, ⟨rfl, rfl⟩, rfl, rfl, rfl⟩, rfl⟩
        · simp (disch := omega) only [fX4_readWeight, a3, b3, c3, l_9, ↓l_m1, hf, bnd_some, if_false]
        · simp (disch := omega) only [fX7_readsWeight, a5, b5, l_0, l_1, l_9, nI_leI, nI_clamp, Nat.zero_le, true_and, if_pos, c5, bnd_some, eq_self, or_true, true_or, n10, if_true, if_false]
    · obtain ⟨t3, c1, c2⟩ := end_ft hx b3 (by omega)
      have hf := FT_fault c2 (by omega)
      refine Or.inr ⟨f, t3, m, (τ.1, τ.2.1, τ.2.2.1, τ.2.2.2.1, τ.2.2.2.2.1, τ.2.2.2.2.2.1, τ.2.2.2.2.2.2.1, τ.2.2.2.2.2.2.2.1, τ.2.2.2.2.2.2.2.2.1, τ.2.2.2.2.2.2.2.2.2.1, τ.2.2.2.2.2.2.2.2.2.2.1, τ.2.2.2.2.2.2.2.2.2.2.2.1, τ.2.2.2.2.2.2.2.2.2.2.2.2.1, τ.2.2.2.2.2.2.2.2.2.2.2.2.2.1, τ.2.2.2.2.2.2.2.2.2.2.2.2.2.2.1, τ.2.2.2.2.2.2.2.2.2.2.2.2.2.2.2.1, τ.2.2.2.2.2.2.2.2.2.2.2.2.2.2.2.2.1, nI f, v, nI c, τ.2.2.2.2.2.2.2.2.2.2.2.2.2.2.2.2.2.2.2.2), b1, ?_, c2, ?_, ⟨⟨rfl, rfl, rfl⟩, ⟨rfl, rfl⟩, rfl, rfl, rfl⟩, rfl⟩
      · simp (disch := omega) only [fX4_readWeight, a3, b2, c1, l_9, ↓l_m1, hf, bnd_some, if_false]
      · simp (disch := omega) only [fX7_readsWeight, a5, b4, l_0, l_9, bnd_some, n10, if_true, if_false]
  · obtain ⟨t2, b1, b2⟩ := num_ft (mx := 9) hx a3 (by omega) (by omega)
    obtain ⟨t3, c1, c2⟩ := end_ft hx b2 (by omega)
    have hf := FT_fault c2 (by omega)
    refine Or.inr ⟨f, t3, m, (τ.1, τ.2.1, τ.2.2.1, τ.2.2.2.1, τ.2.2.2.2.1, τ.2.2.2.2.2.1, τ.2.2.2.2.2.2.1, τ.2.2.2.2.2.2.2.1, τ.2.2.2.2.2.2.2.2.1, τ.2.2.2.2.2.2.2.2.2.1, τ.2.2.2.2.2.2.2.2.2.2.1, τ.2.2.2.2.2.2.2.2.2.2.2.1, τ.2.2.2.2.2.2.2.2.2.2.2.2.1, τ.2.2.2.2.2.2.2.2.2.2.2.2.2.1, τ.2.2.2.2.2.2.2.2.2.2.2.2.2.2.1, τ.2.2.2.2.2.2.2.2.2.2.2.2.2.2.2.1, τ.2.2.2.2.2.2.2.2.2.2.2.2.2.2.2.2.1, nI f, rv, rc, τ.2.2.2.2.2.2.2.2.2.2.2.2.2.2.2.2.2.2.2.2), a1, ?_, c2, ?_, ⟨⟨rfl, rfl, rfl⟩, ⟨rfl, rfl⟩, rfl, rfl, rfl⟩, rfl⟩
    · simp (disch := omega) only [fX4_readWeight, a2, b1, c1, l_9, ↓l_m1, hf, bnd_some, if_false]
    · simp (disch := omega) only [fX7_readsWeight, a4, l_0, bnd_some, if_true]
theorem pillar_p {t : S4} {m : S1} {τ : S7} {M : AM} {tl : Nat} {tx : Nat → Nat} {a A : Nat} (hx : TX tl tx) (hp : PT t tl tx a mI) (hq : PM τ tl tx a) (ha : a ≤ 120) (hA : A ≤ 120) (hm : MR m M) (hτ : TR τ M) : Res (fX4_readPillar t m (nI A)) (fX7_readsPillar τ (nI A)) tl tx a τ := by
  have hl := hx.1
  have hn := hm.1.1
  have m6 := hm.2.1
  have m7 := hτ.1
  by_cases hlt : M.n < 12
  · have hlt6 : nI M.n < nI 12 := (nI_ltI (by omega) (by omega)).mpr hlt
    have hne7 : ¬ τ.2.2.1 = nI 12 := fun e => by rw [m7, nI_eq (by omega) (by omega)] at e; omega
    rcases cell_both hx hp hq ha with ⟨c, e, t1, rv, a1, a0, a2, a3, a4, a5⟩ | ⟨f, t1, cc, rv, rc, a1, a0, a2, a3, a4⟩
    · obtain ⟨u, p1, p2⟩ := hasPillarOn_ok hm c (by omega)
      rcases num_both (mx := 999) (τ := (τ.1, τ.2.1, τ.2.2.1, τ.2.2.2.1, τ.2.2.2.2.1, τ.2.2.2.2.2.1, τ.2.2.2.2.2.2.1, τ.2.2.2.2.2.2.2.1, τ.2.2.2.2.2.2.2.2.1, τ.2.2.2.2.2.2.2.2.2.1, τ.2.2.2.2.2.2.2.2.2.2.1, τ.2.2.2.2.2.2.2.2.2.2.2.1, τ.2.2.2.2.2.2.2.2.2.2.2.2.1, τ.2.2.2.2.2.2.2.2.2.2.2.2.2.1, τ.2.2.2.2.2.2.2.2.2.2.2.2.2.2.1, τ.2.2.2.2.2.2.2.2.2.2.2.2.2.2.2.1, τ.2.2.2.2.2.2.2.2.2.2.2.2.2.2.2.2.1, nI e, rv, nI c, τ.2.2.2.2.2.2.2.2.2.2.2.2.2.2.2.2.2.2.2.2)) hx a4 ⟨hq.1, hq.2.1, rfl⟩ (by omega) (by omega) with ⟨v, e2, t2, b1, b0, b2, b3, b4, b5⟩ | ⟨f, t2, v, b1, b2, b3, b4⟩
      · rcases end_both (τ := (τ.1, τ.2.1, τ.2.2.1, τ.2.2.2.1, τ.2.2.2.2.1, τ.2.2.2.2.2.1, τ.2.2.2.2.2.2.1, τ.2.2.2.2.2.2.2.1, τ.2.2.2.2.2.2.2.2.1, τ.2.2.2.2.2.2.2.2.2.1, τ.2.2.2.2.2.2.2.2.2.2.1, τ.2.2.2.2.2.2.2.2.2.2.2.1, τ.2.2.2.2.2.2.2.2.2.2.2.2.1, τ.2.2.2.2.2.2.2.2.2.2.2.2.2.1, τ.2.2.2.2.2.2.2.2.2.2.2.2.2.2.1, τ.2.2.2.2.2.2.2.2.2.2.2.2.2.2.2.1, τ.2.2.2.2.2.2.2.2.2.2.2.2.2.2.2.2.1, nI e2, nI v, nI c, τ.2.2.2.2.2.2.2.2.2.2.2.2.2.2.2.2.2.2.2.2)) hx b4 ⟨hq.1, hq.2.1, rfl⟩ (by omega) with ⟨e3, t3, c1, c2, c3, c4, c5⟩ | ⟨f, t3, c1, c3, c4, c5⟩
        · have hf := c4.2.2.2
          have hτ' : TR (τ.1, τ.2.1, τ.2.2.1, τ.2.2.2.1, τ.2.2.2.2.1, τ.2.2.2.2.2.1, τ.2.2.2.2.2.2.1, τ.2.2.2.2.2.2.2.1, τ.2.2.2.2.2.2.2.2.1, τ.2.2.2.2.2.2.2.2.2.1, τ.2.2.2.2.2.2.2.2.2.2.1, τ.2.2.2.2.2.2.2.2.2.2.2.1, τ.2.2.2.2.2.2.2.2.2.2.2.2.1, τ.2.2.2.2.2.2.2.2.2.2.2.2.2.1, τ.2.2.2.2.2.2.2.2.2.2.2.2.2.2.1, τ.2.2.2.2.2.2.2.2.2.2.2.2.2.2.2.1, τ.2.2.2.2.2.2.2.2.2.2.2.2.2.2.2.2.1, nI e3, nI v, nI c, τ.2.2.2.2.2.2.2.2.2.2.2.2.2.2.2.2.2.2.2.2) M := hτ
          rcases pillarAt_ok hτ' hm.1 (c := c) (by omega) with ⟨p, r1, r2, r3⟩ | ⟨r1, r3⟩
          · have hu : u = true := p2.mpr ⟨p, r1, r2⟩
            rw [hu, bI_t] at p1
            refine Or.inr ⟨A, (t3.1, t3.2.1, t3.2.2.1, nI A, t3.2.2.2.2), m, (τ.1, τ.2.1, τ.2.2.1, τ.2.2.2.1, τ.2.2.2.2.1, τ.2.2.2.2.2.1, τ.2.2.2.2.2.2.1, τ.2.2.2.2.2.2.2.1, τ.2.2.2.2.2.2.2.2.1, τ.2.2.2.2.2.2.2.2.2.1, τ.2.2.2.2.2.2.2.2.2.2.1, τ.2.2.2.2.2.2.2.2.2.2.2.1, τ.2.2.2.2.2.2.2.2.2.2.2.2.1, τ.2.2.2.2.2.2.2.2.2.2.2.2.2.1, τ.2.2.2.2.2.2.2.2.2.2.2.2.2.2.1, τ.2.2.2.2.2.2.2.2.2.2.2.2.2.2.2.1, τ.2.2.2.2.2.2.2.2.2.2.2.2.2.2.2.2.1, nI A, nI v, nI c, τ.2.2.2.2.2.2.2.2.2.2.2.2.2.2.2.2.2.2.2.2), hA, ?_, ⟨e3, by omega, c4.1, c4.2.1, c4.2.2.1, rfl⟩, ?_, ⟨⟨rfl, rfl, rfl⟩, ⟨rfl, rfl⟩, rfl, rfl, rfl⟩, rfl⟩
            · simp (disch := omega) only [fX4_readPillar, m6, hlt6, a3, b3, c3, p1, fX4_fail, hf, l_0, l_1, l_2, l_3, l_4, l_5, l_6, l_7, l_8, l_9, l_10, l_11, l_12, l_13, l_14, l_15, l_16, l_17, l_18, l_19, l_20, l_21, l_24, l_28, l_31, l_32, l_33, l_45, l_47, l_48, l_57, l_59, l_84, l_95, l_96, l_100, l_112, l_119, l_120, l_127, l_140, l_700, l_840, l_999, l_4095, l_999999, ↓l_m1, ↓l_m2, ↓l_m3, ↓l_m4, ↓l_m10, ↓l_m10000, nI_leI, nI_ltI, nI_eq, mI_le, mI_lt, le_mI, lt_mI, mI_eq, eq_mI, nI_add, pk_mul, pk_sub, pk_div, nI_clamp, md_eq, Nat.zero_le, true_and, and_true, and_self, if_pos, if_neg, Option.bind_some, bnd_some, Sum.elim_inl, Sum.elim_inr, ↓reduceIte]
            · have hpm : ¬ nI p = mI := by rw [eq_mI (by omega)]; exact id
              simp (disch := omega) only [fX7_readsPillar, l_12, hne7, a5, b5, c5, r3, hpm, l_0, l_1, l_999, ↓l_m1, bnd_some, n10, if_true, if_false]
          · have hu : u = false := by
              cases e : u
              · rfl
              · obtain ⟨p, q1, q2⟩ := p2.mp e
                exact absurd q2 (r1 p q1)
            rw [hu, bI_f] at p1
            obtain ⟨m1, d1, d2⟩ := add_ok hm hlt a1 b1
            obtain ⟨τ1, g0, g1, g2⟩ := comesPillar_ok hτ' hlt c v
            refine Or.inl ⟨e3, t3, m1, τ1, addAM M c v, by omega, c2, ?_, c4, d2, ?_, g2, ?_, ?_, ?_⟩
            · simp (disch := omega) only [fX4_readPillar, m6, hlt6, a3, b3, c3, p1, fX4_fail, hf, d1, l_0, l_1, l_2, l_3, l_4, l_5, l_6, l_7, l_8, l_9, l_10, l_11, l_12, l_13, l_14, l_15, l_16, l_17, l_18, l_19, l_20, l_21, l_24, l_28, l_31, l_32, l_33, l_45, l_47, l_48, l_57, l_59, l_84, l_95, l_96, l_100, l_112, l_119, l_120, l_127, l_140, l_700, l_840, l_999, l_4095, l_999999, ↓l_m1, ↓l_m2, ↓l_m3, ↓l_m4, ↓l_m10, ↓l_m10000, nI_leI, nI_ltI, nI_eq, mI_le, mI_lt, le_mI, lt_mI, mI_eq, eq_mI, nI_add, pk_mul, pk_sub, pk_div, nI_clamp, md_eq, Nat.zero_le, true_and, and_true, and_self, if_pos, if_neg, Option.bind_some, bnd_some, Sum.elim_inl, Sum.elim_inr, ↓reduceIte]
            · simp (disch := omega) only [fX7_readsPillar, l_12, hne7, a5, b5, c5, r3, g1, l_0, l_1, l_999, ↓l_m1, bnd_some, n10, if_true, if_false]
            · rw [g0]; exact ⟨⟨rfl, rfl, rfl⟩, ⟨rfl, rfl⟩, rfl, rfl, rfl⟩
            · rw [g0]; exact ⟨rfl, rfl⟩
            · rw [g0]
        · have hf := FT_fault c4 (by omega)
          have hfl := fail_ft c4 (by omega) (nI A)
          refine Or.inr ⟨f, t3, m, (τ.1, τ.2.1, τ.2.2.1, τ.2.2.2.1, τ.2.2.2.2.1, τ.2.2.2.2.2.1, τ.2.2.2.2.2.2.1, τ.2.2.2.2.2.2.2.1, τ.2.2.2.2.2.2.2.2.1, τ.2.2.2.2.2.2.2.2.2.1, τ.2.2.2.2.2.2.2.2.2.2.1, τ.2.2.2.2.2.2.2.2.2.2.2.1, τ.2.2.2.2.2.2.2.2.2.2.2.2.1, τ.2.2.2.2.2.2.2.2.2.2.2.2.2.1, τ.2.2.2.2.2.2.2.2.2.2.2.2.2.2.1, τ.2.2.2.2.2.2.2.2.2.2.2.2.2.2.2.1, τ.2.2.2.2.2.2.2.2.2.2.2.2.2.2.2.2.1, nI f, nI v, nI c, τ.2.2.2.2.2.2.2.2.2.2.2.2.2.2.2.2.2.2.2.2), c1, ?_, c4, ?_, ⟨⟨rfl, rfl, rfl⟩, ⟨rfl, rfl⟩, rfl, rfl, rfl⟩, rfl⟩
          · cases u
            · rw [bI_f] at p1
              simp (disch := omega) only [fX4_readPillar, m6, l_12, hlt6, a3, b3, c3, p1, hfl, hf, l_0, l_999, ↓l_m1, bnd_some, n10, if_true, if_false]
            · rw [bI_t] at p1
              simp (disch := omega) only [fX4_readPillar, m6, l_12, hlt6, a3, b3, c3, p1, hfl, hf, l_0, l_999, ↓l_m1, bnd_some, n10, if_true, if_false]
          · simp (disch := omega) only [fX7_readsPillar, l_12, hne7, a5, b5, c5, l_0, l_1, l_999, ↓l_m1, bnd_some, n10, if_true, if_false]
      · obtain ⟨t3, c1, c2⟩ := end_ft hx b3 (by omega)
        have hf := FT_fault c2 (by omega)
        have hfl := fail_ft c2 (by omega) (nI A)
        refine Or.inr ⟨f, t3, m, (τ.1, τ.2.1, τ.2.2.1, τ.2.2.2.1, τ.2.2.2.2.1, τ.2.2.2.2.2.1, τ.2.2.2.2.2.2.1, τ.2.2.2.2.2.2.2.1, τ.2.2.2.2.2.2.2.2.1, τ.2.2.2.2.2.2.2.2.2.1, τ.2.2.2.2.2.2.2.2.2.2.1, τ.2.2.2.2.2.2.2.2.2.2.2.1, τ.2.2.2.2.2.2.2.2.2.2.2.2.1, τ.2.2.2.2.2.2.2.2.2.2.2.2.2.1, τ.2.2.2.2.2.2.2.2.2.2.2.2.2.2.1, τ.2.2.2.2.2.2.2.2.2.2.2.2.2.2.2.1, τ.2.2.2.2.2.2.2.2.2.2.2.2.2.2.2.2.1, nI f, v, nI c, τ.2.2.2.2.2.2.2.2.2.2.2.2.2.2.2.2.2.2.2.2), b1, ?_, c2, ?_, ⟨⟨rfl, rfl, rfl⟩, ⟨rfl, rfl⟩, rfl, rfl, rfl⟩, rfl⟩
        · cases u
          · rw [bI_f] at p1
            simp (disch := omega) only [fX4_readPillar, m6, l_12, hlt6, a3, b2, c1, p1, hfl, hf, l_0, l_999, ↓l_m1, bnd_some, n10, if_true, if_false]
          · rw [bI_t] at p1
            simp (disch := omega) only [fX4_readPillar, m6, l_12, hlt6, a3, b2, c1, p1, hfl, hf, l_0, l_999, ↓l_m1, bnd_some, n10, if_true, if_false]
        · simp (disch := omega) only [fX7_readsPillar, l_12, hne7, a5, b4, l_0, l_1, l_999, ↓l_m1, bnd_some, n10, if_true, if_false]
    · obtain ⟨u, p1, p2⟩ := hasPillarOn_ok hm cc (by omega)
      obtain ⟨t2, b1, b2⟩ := num_ft (mx := 999) hx a3 (by omega) (by omega)
      obtain ⟨t3, c1, c2⟩ := end_ft hx b2 (by omega)
      have hf := FT_fault c2 (by omega)
      have hfl := fail_ft c2 (by omega) (nI A)
      refine Or.inr ⟨f, t3, m, (τ.1, τ.2.1, τ.2.2.1, τ.2.2.2.1, τ.2.2.2.2.1, τ.2.2.2.2.2.1, τ.2.2.2.2.2.2.1, τ.2.2.2.2.2.2.2.1, τ.2.2.2.2.2.2.2.2.1, τ.2.2.2.2.2.2.2.2.2.1, τ.2.2.2.2.2.2.2.2.2.2.1, τ.2.2.2.2.2.2.2.2.2.2.2.1, τ.2.2.2.2.2.2.2.2.2.2.2.2.1, τ.2.2.2.2.2.2.2.2.2.2.2.2.2.1, τ.2.2.2.2.2.2.2.2.2.2.2.2.2.2.1, τ.2.2.2.2.2.2.2.2.2.2.2.2.2.2.2.1, τ.2.2.2.2.2.2.2.2.2.2.2.2.2.2.2.2.1, nI f, rv, rc, τ.2.2.2.2.2.2.2.2.2.2.2.2.2.2.2.2.2.2.2.2), a1, ?_, c2, ?_, ⟨⟨rfl, rfl, rfl⟩, ⟨rfl, rfl⟩, rfl, rfl, rfl⟩, rfl⟩
      · cases u
        · rw [bI_f] at p1
          simp (disch := omega) only [fX4_readPillar, m6, l_12, hlt6, a2, b1, c1, p1, hfl, hf, l_0, l_999, ↓l_m1, bnd_some, n10, if_true, if_false]
        · rw [bI_t] at p1
          simp (disch := omega) only [fX4_readPillar, m6, l_12, hlt6, a2, b1, c1, p1, hfl, hf, l_0, l_999, ↓l_m1, bnd_some, n10, if_true, if_false]
      · simp (disch := omega) only [fX7_readsPillar, l_12, hne7, a4, l_0, bnd_some, if_true, if_false]
  · have h12 : M.n = 12 := by omega
    rw [h12] at m6 m7
    have hnl : ¬ nI 12 < nI 12 := by decide
    have hF := hp.2.2.2
    have hft : FT 120 (t.1, t.2.1, t.2.2.1, nI A, t.2.2.2.2) tl tx A := ⟨a, ha, hp.1, hp.2.1, hp.2.2.1, rfl⟩
    have hf0 : fX4_fail t (nI A) = some (t.1, t.2.1, t.2.2.1, nI A, t.2.2.2.2) := by simp only [fX4_fail, hF, ↓l_m1, if_true]
    obtain ⟨t1, a1, a2⟩ := cell_ft hx hft (by omega)
    obtain ⟨t2, b1, b2⟩ := num_ft (mx := 999) hx a2 (by omega) (by omega)
    obtain ⟨t3, c1, c2⟩ := end_ft hx b2 (by omega)
    obtain ⟨u, p1, p2⟩ := hasPillarOn_ok hm 0 (by omega)
    have hf := FT_fault c2 (by omega)
    have hfl := fail_ft c2 (by omega) (nI A)
    refine Or.inr ⟨A, t3, m, (τ.1, τ.2.1, τ.2.2.1, τ.2.2.2.1, τ.2.2.2.2.1, τ.2.2.2.2.2.1, τ.2.2.2.2.2.2.1, τ.2.2.2.2.2.2.2.1, τ.2.2.2.2.2.2.2.2.1, τ.2.2.2.2.2.2.2.2.2.1, τ.2.2.2.2.2.2.2.2.2.2.1, τ.2.2.2.2.2.2.2.2.2.2.2.1, τ.2.2.2.2.2.2.2.2.2.2.2.2.1, τ.2.2.2.2.2.2.2.2.2.2.2.2.2.1, τ.2.2.2.2.2.2.2.2.2.2.2.2.2.2.1, τ.2.2.2.2.2.2.2.2.2.2.2.2.2.2.2.1, τ.2.2.2.2.2.2.2.2.2.2.2.2.2.2.2.2.1, nI A, τ.2.2.2.2.2.2.2.2.2.2.2.2.2.2.2.2.2.2), hA, ?_, c2, ?_, ⟨⟨rfl, rfl, rfl⟩, ⟨rfl, rfl⟩, rfl, rfl, rfl⟩, rfl⟩
    · cases u
      · rw [bI_f] at p1
        simp (disch := omega) only [fX4_readPillar, m6, l_12, hnl, hf0, a1, b1, c1, p1, hfl, hf, l_0, l_999, ↓l_m1, bnd_some, n10, if_true, if_false]
      · rw [bI_t] at p1
        simp (disch := omega) only [fX4_readPillar, m6, l_12, hnl, hf0, a1, b1, c1, p1, hfl, hf, l_0, l_999, ↓l_m1, bnd_some, n10, if_true, if_false]
    · simp (disch := omega) only [fX7_readsPillar, m7, l_12, l_0, if_true]
theorem Sk_self {tl : Nat} {tx : Nat → Nat} {a b : Nat} (h : Sk tl tx a b) : Sk tl tx b b := ⟨Nat.le_refl _, Or.inr rfl, fun j h1 h2 => absurd h1 (by omega), h.2.2.2⟩
theorem crushed_p {t : S4} {m : S1} {τ : S7} {M : AM} {tl : Nat} {tx : Nat → Nat} {a : Nat} (hx : TX tl tx) (hp : PT t tl tx a mI) (hq : PM τ tl tx a) (ha : a ≤ 120) (hm : MR m M) (hτ : TR τ M) : Res (fX4_readCrushed t m) (fX7_readsCrushed τ) tl tx a τ := by
  have hl := hx.1
  have hn := hm.1.1
  obtain ⟨b, hs⟩ := Sk_ex tl tx 120 a (by omega)
  obtain ⟨d, hd⟩ := Dg_ex tl tx 120 b (by omega)
  have hb := Sk_le hs hl ha
  have hdl := Dg_le hd hl
  have hab := hs.1
  have e1 := here_m hx hq (by omega) hs
  have hmm := num_m (τ := (τ.1, τ.2.1, τ.2.2.1, τ.2.2.2.1, τ.2.2.2.2.1, τ.2.2.2.2.2.1, τ.2.2.2.2.2.2.1, τ.2.2.2.2.2.2.2.1, τ.2.2.2.2.2.2.2.2.1, τ.2.2.2.2.2.2.2.2.2.1, τ.2.2.2.2.2.2.2.2.2.2.1, τ.2.2.2.2.2.2.2.2.2.2.2.1, τ.2.2.2.2.2.2.2.2.2.2.2.2.1, τ.2.2.2.2.2.2.2.2.2.2.2.2.2.1, τ.2.2.2.2.2.2.2.2.2.2.2.2.2.2.1, τ.2.2.2.2.2.2.2.2.2.2.2.2.2.2.2.1, τ.2.2.2.2.2.2.2.2.2.2.2.2.2.2.2.2.1, nI b, τ.2.2.2.2.2.2.2.2.2.2.2.2.2.2.2.2.2.2)) (mx := 999) hx ⟨hq.1, hq.2.1, rfl⟩ (by omega) (by omega) (Sk_self hs) hd
  obtain ⟨u0, s0⟩ : ∃ u, fX1_isStanding m (nI 0) = some (bI u) := ⟨_, isStanding_ok hm (by omega)⟩
  have bad : ∀ τ1 : S7, ¬ NumOK tx b d 11 → fX7_readsCrushed τ = some (nI 0, τ1) → MK τ τ1 → τ1.2.2.2.2.2.2.2.2.2.2.2.2.2.2.2.2.2.1 = nI b → Res (fX4_readCrushed t m) (fX7_readsCrushed τ) tl tx a τ := by
    intro τ1 hno g1 g2 g3
    have c1 := num_c2 hx hp (by omega) (show 11 ≤ 999 by omega) hs hd hno
    have hft : FT 120 (t.1, t.2.1, nI (b + d), nI b, nI b) tl tx b := ⟨b + d, by omega, hp.1, hp.2.1, rfl, rfl⟩
    obtain ⟨t2, c2, c3⟩ := end_ft hx hft (by omega)
    have hf := FT_fault c3 (by omega)
    have hfl := fail_ft hft (by omega) (nI b)
    refine Or.inr ⟨b, t2, m, τ1, hb, ?_, c3, g1, g2, g3⟩
    cases u0
    · rw [bI_f] at s0
      simp (disch := omega) only [fX4_readCrushed, l_11, c1, s0, hfl, c2, hf, l_0, ↓l_m1, bnd_some, n10, if_true, if_false]
    · rw [bI_t] at s0
      simp (disch := omega) only [fX4_readCrushed, l_11, c1, s0, hfl, c2, hf, l_0, ↓l_m1, bnd_some, n10, if_true, if_false]
  by_cases hge : tl ≤ b
  · rw [if_pos hge] at e1
    have hd0 : d = 0 := by
      by_cases h0 : d = 0
      · exact h0
      · have := (hd.1 0 (by omega)).1; omega
    refine bad (τ.1, τ.2.1, τ.2.2.1, τ.2.2.2.1, τ.2.2.2.2.1, τ.2.2.2.2.2.1, τ.2.2.2.2.2.2.1, τ.2.2.2.2.2.2.2.1, τ.2.2.2.2.2.2.2.2.1, τ.2.2.2.2.2.2.2.2.2.1, τ.2.2.2.2.2.2.2.2.2.2.1, τ.2.2.2.2.2.2.2.2.2.2.2.1, τ.2.2.2.2.2.2.2.2.2.2.2.2.1, τ.2.2.2.2.2.2.2.2.2.2.2.2.2.1, τ.2.2.2.2.2.2.2.2.2.2.2.2.2.2.1, τ.2.2.2.2.2.2.2.2.2.2.2.2.2.2.2.1, τ.2.2.2.2.2.2.2.2.2.2.2.2.2.2.2.2.1, nI b, τ.2.2.2.2.2.2.2.2.2.2.2.2.2.2.2.2.2.2) (fun q => by have := q.1; omega) ?_ ⟨⟨rfl, rfl, rfl⟩, ⟨rfl, rfl⟩, rfl, rfl, rfl⟩ rfl
    simp (disch := omega) only [fX7_readsCrushed, e1, l_0, ↓l_m1, bnd_some, if_true]
  · rw [if_neg hge] at e1
    have hxb := hx.2 b (by omega)
    have hcm : ¬ nI (tx b) = mI := by rw [eq_mI (by omega)]; exact id
    rcases Classical.em (NumOK tx b d 999) with hok | hok
    · have g1 := hmm.1 hok
      have hv := hok.2.2
      have hτ2 : TR (τ.1, τ.2.1, τ.2.2.1, τ.2.2.2.1, τ.2.2.2.2.1, τ.2.2.2.2.2.1, τ.2.2.2.2.2.2.1, τ.2.2.2.2.2.2.2.1, τ.2.2.2.2.2.2.2.2.1, τ.2.2.2.2.2.2.2.2.2.1, τ.2.2.2.2.2.2.2.2.2.2.1, τ.2.2.2.2.2.2.2.2.2.2.2.1, τ.2.2.2.2.2.2.2.2.2.2.2.2.1, τ.2.2.2.2.2.2.2.2.2.2.2.2.2.1, τ.2.2.2.2.2.2.2.2.2.2.2.2.2.2.1, τ.2.2.2.2.2.2.2.2.2.2.2.2.2.2.2.1, τ.2.2.2.2.2.2.2.2.2.2.2.2.2.2.2.2.1, nI (b + d), nI (vl tx b d), τ.2.2.2.2.2.2.2.2.2.2.2.2.2.2.2.2.2.2.2) M := hτ
      by_cases hpn : vl tx b d < M.n
      · have hok11 : NumOK tx b d 11 := ⟨hok.1, hok.2.1, by omega⟩
        have c1 := num_c1 hx hp (by omega) (show 11 ≤ 999 by omega) hs hd hok11
        have hpt : PT (t.1, t.2.1, nI (b + d), mI, nI b) tl tx (b + d) mI := ⟨hp.1, hp.2.1, rfl, rfl⟩
        have i7 := isPillar_ok hτ2.1 hn hpn
        have st6 := isStanding_ok hm (p := vl tx b d) (by omega)
        have st7 := stands_ok hτ2 (j := vl tx b d) (by omega)
        cases hu : M.up (vl tx b d)
        · rw [hu, bI_f] at st6 st7
          have hfl : fX4_fail (t.1, t.2.1, nI (b + d), mI, nI b) (nI b) = some (t.1, t.2.1, nI (b + d), nI b, nI b) := by simp only [fX4_fail, ↓l_m1, if_true]
          have hft : FT 120 (t.1, t.2.1, nI (b + d), nI b, nI b) tl tx b := ⟨b + d, by omega, hp.1, hp.2.1, rfl, rfl⟩
          obtain ⟨t2, c2, c3⟩ := end_ft hx hft (by omega)
          have hf := FT_fault c3 (by omega)
          refine Or.inr ⟨b, t2, m, (τ.1, τ.2.1, τ.2.2.1, τ.2.2.2.1, τ.2.2.2.2.1, τ.2.2.2.2.2.1, τ.2.2.2.2.2.2.1, τ.2.2.2.2.2.2.2.1, τ.2.2.2.2.2.2.2.2.1, τ.2.2.2.2.2.2.2.2.2.1, τ.2.2.2.2.2.2.2.2.2.2.1, τ.2.2.2.2.2.2.2.2.2.2.2.1, τ.2.2.2.2.2.2.2.2.2.2.2.2.1, τ.2.2.2.2.2.2.2.2.2.2.2.2.2.1, τ.2.2.2.2.2.2.2.2.2.2.2.2.2.2.1, τ.2.2.2.2.2.2.2.2.2.2.2.2.2.2.2.1, τ.2.2.2.2.2.2.2.2.2.2.2.2.2.2.2.2.1, nI b, nI (vl tx b d), τ.2.2.2.2.2.2.2.2.2.2.2.2.2.2.2.2.2.2.2), hb, ?_, c3, ?_, ⟨⟨rfl, rfl, rfl⟩, ⟨rfl, rfl⟩, rfl, rfl, rfl⟩, rfl⟩
          · simp (disch := omega) only [fX4_readCrushed, l_11, c1, st6, hfl, c2, hf, l_0, ↓l_m1, bnd_some, n10, if_true, if_false]
          · simp (disch := omega) only [fX7_readsCrushed, e1, hcm, g1, l_999, i7, st7, l_0, ↓l_m1, bnd_some, n10, if_true, if_false]
        · rw [hu, bI_t] at st6 st7
          rcases end_both (τ := (τ.1, τ.2.1, τ.2.2.1, τ.2.2.2.1, τ.2.2.2.2.1, τ.2.2.2.2.2.1 &&& ((nI 1 <<< (nI (vl tx b d) &&& nI 31)) ^^^ mI), τ.2.2.2.2.2.2.1, τ.2.2.2.2.2.2.2.1, τ.2.2.2.2.2.2.2.2.1, τ.2.2.2.2.2.2.2.2.2.1, τ.2.2.2.2.2.2.2.2.2.2.1, τ.2.2.2.2.2.2.2.2.2.2.2.1, τ.2.2.2.2.2.2.2.2.2.2.2.2.1, τ.2.2.2.2.2.2.2.2.2.2.2.2.2.1, τ.2.2.2.2.2.2.2.2.2.2.2.2.2.2.1, τ.2.2.2.2.2.2.2.2.2.2.2.2.2.2.2.1, τ.2.2.2.2.2.2.2.2.2.2.2.2.2.2.2.2.1, nI (b + d), nI (vl tx b d), τ.2.2.2.2.2.2.2.2.2.2.2.2.2.2.2.2.2.2.2)) hx hpt ⟨hq.1, hq.2.1, rfl⟩ (by omega) with ⟨e3, t3, k1, k2, k3, k4, k5⟩ | ⟨f, t3, k1, k3, k4, k5⟩
          · have hf := k4.2.2.2
            refine Or.inl ⟨e3, t3, (m.1, m.2.1, m.2.2.1, upd m.2.2.2.1 (vl tx b d) (nI 0), m.2.2.2.2), (τ.1, τ.2.1, τ.2.2.1, τ.2.2.2.1, τ.2.2.2.2.1, τ.2.2.2.2.2.1 &&& ((nI 1 <<< (nI (vl tx b d) &&& nI 31)) ^^^ mI), τ.2.2.2.2.2.2.1, τ.2.2.2.2.2.2.2.1, τ.2.2.2.2.2.2.2.2.1, τ.2.2.2.2.2.2.2.2.2.1, τ.2.2.2.2.2.2.2.2.2.2.1, τ.2.2.2.2.2.2.2.2.2.2.2.1, τ.2.2.2.2.2.2.2.2.2.2.2.2.1, τ.2.2.2.2.2.2.2.2.2.2.2.2.2.1, τ.2.2.2.2.2.2.2.2.2.2.2.2.2.2.1, τ.2.2.2.2.2.2.2.2.2.2.2.2.2.2.2.1, τ.2.2.2.2.2.2.2.2.2.2.2.2.2.2.2.2.1, nI e3, nI (vl tx b d), τ.2.2.2.2.2.2.2.2.2.2.2.2.2.2.2.2.2.2.2), wu M (fun i => M.up i && !decide (i = vl tx b d)), by omega, k2, ?_, k4, MR_del hm _, ?_, ⟨hτ.1, hτ.2.1, hτ.2.2.1, hS_del hτ.2.2.2.1 (by omega), hτ.2.2.2.2⟩, ⟨⟨rfl, rfl, rfl⟩, ⟨rfl, rfl⟩, rfl, rfl, rfl⟩, ⟨rfl, rfl⟩, rfl⟩
            · simp (disch := omega) only [fX4_readCrushed, l_11, c1, st6, k3, hf, l_0, ↓l_m1, nI_leI, nI_clamp, Nat.zero_le, true_and, if_pos, bnd_some, n10, if_true, if_false]
            · simp (disch := omega) only [fX7_readsCrushed, e1, hcm, g1, l_999, i7, st7, l_0, l_1, l_31, ↓l_m1, k5, bnd_some, eq_self, or_true, true_or, n10, if_true, if_false]
          · have hf := FT_fault k4 (by omega)
            refine Or.inr ⟨f, t3, m, (τ.1, τ.2.1, τ.2.2.1, τ.2.2.2.1, τ.2.2.2.2.1, τ.2.2.2.2.2.1 &&& ((nI 1 <<< (nI (vl tx b d) &&& nI 31)) ^^^ mI), τ.2.2.2.2.2.2.1, τ.2.2.2.2.2.2.2.1, τ.2.2.2.2.2.2.2.2.1, τ.2.2.2.2.2.2.2.2.2.1, τ.2.2.2.2.2.2.2.2.2.2.1, τ.2.2.2.2.2.2.2.2.2.2.2.1, τ.2.2.2.2.2.2.2.2.2.2.2.2.1, τ.2.2.2.2.2.2.2.2.2.2.2.2.2.1, τ.2.2.2.2.2.2.2.2.2.2.2.2.2.2.1, τ.2.2.2.2.2.2.2.2.2.2.2.2.2.2.2.1, τ.2.2.2.2.2.2.2.2.2.2.2.2.2.2.2.2.1, nI f, nI (vl tx b d), τ.2.2.2.2.2.2.2.2.2.2.2.2.2.2.2.2.2.2.2), k1, ?_, k4, ?_, ⟨⟨rfl, rfl, rfl⟩, ⟨rfl, rfl⟩, rfl, rfl, rfl⟩, rfl⟩
            · simp (disch := omega) only [fX4_readCrushed, l_11, c1, st6, k3, hf, l_0, ↓l_m1, bnd_some, n10, if_true, if_false]
            · simp (disch := omega) only [fX7_readsCrushed, e1, hcm, g1, l_999, i7, st7, l_0, l_1, l_31, ↓l_m1, k5, bnd_some, eq_self, or_true, true_or, n10, if_true, if_false]
      · have i7 := isPillar_no (τ := (τ.1, τ.2.1, τ.2.2.1, τ.2.2.2.1, τ.2.2.2.2.1, τ.2.2.2.2.2.1, τ.2.2.2.2.2.2.1, τ.2.2.2.2.2.2.2.1, τ.2.2.2.2.2.2.2.2.1, τ.2.2.2.2.2.2.2.2.2.1, τ.2.2.2.2.2.2.2.2.2.2.1, τ.2.2.2.2.2.2.2.2.2.2.2.1, τ.2.2.2.2.2.2.2.2.2.2.2.2.1, τ.2.2.2.2.2.2.2.2.2.2.2.2.2.1, τ.2.2.2.2.2.2.2.2.2.2.2.2.2.2.1, τ.2.2.2.2.2.2.2.2.2.2.2.2.2.2.2.1, τ.2.2.2.2.2.2.2.2.2.2.2.2.2.2.2.2.1, nI (b + d), nI (vl tx b d), τ.2.2.2.2.2.2.2.2.2.2.2.2.2.2.2.2.2.2.2)) hτ2.1 hn (x := nI (vl tx b d)) (Or.inr ⟨vl tx b d, by omega, by omega, rfl⟩)
        have hmod : fX7_readsCrushed τ = some (nI 0, (τ.1, τ.2.1, τ.2.2.1, τ.2.2.2.1, τ.2.2.2.2.1, τ.2.2.2.2.2.1, τ.2.2.2.2.2.2.1, τ.2.2.2.2.2.2.2.1, τ.2.2.2.2.2.2.2.2.1, τ.2.2.2.2.2.2.2.2.2.1, τ.2.2.2.2.2.2.2.2.2.2.1, τ.2.2.2.2.2.2.2.2.2.2.2.1, τ.2.2.2.2.2.2.2.2.2.2.2.2.1, τ.2.2.2.2.2.2.2.2.2.2.2.2.2.1, τ.2.2.2.2.2.2.2.2.2.2.2.2.2.2.1, τ.2.2.2.2.2.2.2.2.2.2.2.2.2.2.2.1, τ.2.2.2.2.2.2.2.2.2.2.2.2.2.2.2.2.1, nI b, nI (vl tx b d), τ.2.2.2.2.2.2.2.2.2.2.2.2.2.2.2.2.2.2.2)) := by
          simp (disch := omega) only [fX7_readsCrushed, e1, hcm, g1, l_999, i7, l_0, ↓l_m1, bnd_some, n10, if_true, if_false]
        rcases Classical.em (NumOK tx b d 11) with hok11 | hok11
        · have c1 := num_c1 hx hp (by omega) (show 11 ≤ 999 by omega) hs hd hok11
          have st6 := isStanding_ok hm (p := vl tx b d) (by omega)
          rw [hm.1.2.2.2.1 _ (by omega), bI_f] at st6
          have hfl : fX4_fail (t.1, t.2.1, nI (b + d), mI, nI b) (nI b) = some (t.1, t.2.1, nI (b + d), nI b, nI b) := by simp only [fX4_fail, ↓l_m1, if_true]
          have hft : FT 120 (t.1, t.2.1, nI (b + d), nI b, nI b) tl tx b := ⟨b + d, by omega, hp.1, hp.2.1, rfl, rfl⟩
          obtain ⟨t2, c2, c3⟩ := end_ft hx hft (by omega)
          have hf := FT_fault c3 (by omega)
          refine Or.inr ⟨b, t2, m, _, hb, ?_, c3, hmod, ⟨⟨rfl, rfl, rfl⟩, ⟨rfl, rfl⟩, rfl, rfl, rfl⟩, rfl⟩
          simp (disch := omega) only [fX4_readCrushed, l_11, c1, st6, hfl, c2, hf, l_0, ↓l_m1, bnd_some, n10, if_true, if_false]
        · exact bad _ hok11 hmod ⟨⟨rfl, rfl, rfl⟩, ⟨rfl, rfl⟩, rfl, rfl, rfl⟩ rfl
    · obtain ⟨v, g1⟩ := hmm.2 hok
      refine bad (τ.1, τ.2.1, τ.2.2.1, τ.2.2.2.1, τ.2.2.2.2.1, τ.2.2.2.2.2.1, τ.2.2.2.2.2.2.1, τ.2.2.2.2.2.2.2.1, τ.2.2.2.2.2.2.2.2.1, τ.2.2.2.2.2.2.2.2.2.1, τ.2.2.2.2.2.2.2.2.2.2.1, τ.2.2.2.2.2.2.2.2.2.2.2.1, τ.2.2.2.2.2.2.2.2.2.2.2.2.1, τ.2.2.2.2.2.2.2.2.2.2.2.2.2.1, τ.2.2.2.2.2.2.2.2.2.2.2.2.2.2.1, τ.2.2.2.2.2.2.2.2.2.2.2.2.2.2.2.1, τ.2.2.2.2.2.2.2.2.2.2.2.2.2.2.2.2.1, nI b, v, τ.2.2.2.2.2.2.2.2.2.2.2.2.2.2.2.2.2.2.2) (fun q => hok ⟨q.1, q.2.1, by have := q.2.2; omega⟩) ?_ ⟨⟨rfl, rfl, rfl⟩, ⟨rfl, rfl⟩, rfl, rfl, rfl⟩ rfl
      simp (disch := omega) only [fX7_readsCrushed, e1, hcm, g1, l_999, l_0, ↓l_m1, bnd_some, if_true, if_false]
