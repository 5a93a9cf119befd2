def rg (t : S1 × S1 × S1 × S1 × S1 × S1) : Nat → S1
  | 0 => t.1
  | 1 => t.2.1
  | 2 => t.2.2.1
  | 3 => t.2.2.2.1
  | 4 => t.2.2.2.2.1
  | _ => t.2.2.2.2.2
def rset (t : S1 × S1 × S1 × S1 × S1 × S1) (k : Nat) (x : S1) : S1 × S1 × S1 × S1 × S1 × S1 :=
  match k with
  | 0 => (x, t.2)
  | 1 => (t.1, x, t.2.2)
  | 2 => (t.1, t.2.1, x, t.2.2.2)
  | 3 => (t.1, t.2.1, t.2.2.1, x, t.2.2.2.2)
  | 4 => (t.1, t.2.1, t.2.2.1, t.2.2.2.1, x, t.2.2.2.2.2)
  | _ => (t.1, t.2.1, t.2.2.1, t.2.2.2.1, t.2.2.2.2.1, x)
theorem lt6 {k : Nat} (h : k < 6) : k = 0 ∨ k = 1 ∨ k = 2 ∨ k = 3 ∨ k = 4 ∨ k = 5 := by omega
theorem rg_same (t : S1 × S1 × S1 × S1 × S1 × S1) (x : S1) {k : Nat} (h : k < 6) : rg (rset t k x) k = x := by
  rcases lt6 h with rfl | rfl | rfl | rfl | rfl | rfl <;> rfl
theorem rg_ne (t : S1 × S1 × S1 × S1 × S1 × S1) (x : S1) {k j : Nat} (h : k < 6) (hj : j < 6) (hne : j ≠ k) : rg (rset t k x) j = rg t j := by
  rcases lt6 h with rfl | rfl | rfl | rfl | rfl | rfl <;> rcases lt6 hj with rfl | rfl | rfl | rfl | rfl | rfl <;> first | rfl | exact absurd rfl hne
theorem c0 : (0 : Int32).toNatClampNeg = 0 := by decide
theorem c12 : (12 : Int32).toNatClampNeg = 12 := by decide
theorem c21 : (21 : Int32).toNatClampNeg = 21 := by decide
theorem c96 : (96 : Int32).toNatClampNeg = 96 := by decide
theorem cpy_in {f g : Nat → Int32} {n j : Nat} (h : j < n) : va_cpy f g 0 0 n j = f j := by
  rw [pk_cpy_in (by omega) (by omega)]
  congr 1
  omega
theorem copy_ok {m : S1} {M : AM} (h : MR m M) (a : S1) : ∃ r, fX1_copy a m = some r ∧ MR r M := by
  refine ⟨_, rfl, ?_⟩
  obtain ⟨hO, h1, h2, h3, h4, h5, h6⟩ := h
  have hn := hO.1
  simp only [c0, c12, c21, c96]
  refine ⟨hO, h1, fun p hp => ?_, fun p hp => ?_, fun p hp => ?_, fun k hk => ?_, fun c hc => ?_⟩
  · show va_cpy _ _ 0 0 12 p = _
    rw [cpy_in (by omega)]; exact h2 p hp
  · show va_cpy _ _ 0 0 12 p = _
    rw [cpy_in (by omega)]; exact h3 p hp
  · show va_cpy _ _ 0 0 12 p = _
    rw [cpy_in (by omega)]; exact h4 p hp
  · show va_cpy _ _ 0 0 21 k = _
    rw [cpy_in hk]; exact h5 k hk
  · show va_cpy _ _ 0 0 96 c = _
    rw [cpy_in hc]; exact h6 c hc
/-- the states to go back to, oldest first, as the class keeps them -/
def HC (s : S3) (c : Nat) (H : Nat → AM) : Prop := c ≤ 6 ∧ s.2.2 = nI c ∧ ∃ x, x < 6 ∧ s.2.1 = nI x ∧ ∀ i, i < c → MR (rg s.1 ((x + 6 - c + i) % 6)) (H i)
def nC (c : Nat) : Nat := if c < 6 then c + 1 else 6
def nH (c : Nat) (H : Nat → AM) (M : AM) : Nat → AM := fun i => if c < 6 then (if i = c then M else H i) else (if i = 5 then M else H (i + 1))
theorem keep_ok {s : S3} {c : Nat} {H : Nat → AM} {m : S1} {M : AM} (h : HC s c H) (hm : MR m M) : ∃ s1, fX3_keep s m = some s1 ∧ HC s1 (nC c) (nH c H M) := by
  obtain ⟨hc, h1, x, hx, h2, h3⟩ := h
  obtain ⟨r, e1, e2⟩ := copy_ok hm (rg s.1 x)
  have hmin : (if nI 6 < nI (c + 1) then nI 6 else nI (c + 1)) = nI (nC c) := by
    unfold nC
    by_cases h6 : c < 6
    · rw [if_neg (fun q => by rw [nI_ltI (by omega) (by omega)] at q; omega), if_pos h6]
    · rw [if_pos ((nI_ltI (by omega) (by omega)).mpr (by omega)), if_neg h6]
  refine ⟨(rset s.1 x r, nI ((x + 1) % 6), nI (nC c)), ?_, ?_⟩
  · rcases lt6 hx with rfl | rfl | rfl | rfl | rfl | rfl <;> simp only [rg] at e1 <;>
      simp (disch := omega) only [fX3_keep, h1, h2, e1, rset, l_0, l_1, l_2, l_3, l_4, l_5, l_6, l_7, l_8, l_9, l_10, l_11, l_12, l_13, l_14, l_15, l_16, l_17, l_18, l_19, l_20, l_21, l_24, l_28, l_31, l_32, l_33, l_45, l_47, l_48, l_57, l_59, l_84, l_95, l_96, l_100, l_112, l_119, l_120, l_127, l_140, l_700, l_840, l_999, l_4095, l_999999, ↓l_m1, ↓l_m2, ↓l_m3, ↓l_m4, ↓l_m10, ↓l_m10000, nI_eq, nI_add, pk_div, pk_mul, pk_sub, md_eq, if_pos, if_neg, ↓reduceIte, bnd_some, hmin]
  · refine ⟨by unfold nC; split <;> omega, rfl, (x + 1) % 6, by omega, rfl, fun i hi => ?_⟩
    show MR (rg (rset s.1 x r) (((x + 1) % 6 + 6 - nC c + i) % 6)) _
    unfold nC at hi ⊢
    unfold nH
    by_cases h6 : c < 6
    · rw [if_pos h6] at hi ⊢
      rw [if_pos h6]
      by_cases hic : i = c
      · rw [if_pos hic, show ((x + 1) % 6 + 6 - (c + 1) + i) % 6 = x by omega, rg_same _ _ hx]
        exact e2
      · rw [if_neg hic, rg_ne _ _ hx (by omega) (by omega)]
        have := h3 i (by omega)
        rw [show ((x + 1) % 6 + 6 - (c + 1) + i) % 6 = (x + 6 - c + i) % 6 by omega]
        exact this
    · rw [if_neg h6] at hi ⊢
      rw [if_neg h6]
      by_cases hic : i = 5
      · rw [if_pos hic, show ((x + 1) % 6 + 6 - 6 + i) % 6 = x by omega, rg_same _ _ hx]
        exact e2
      · rw [if_neg hic, rg_ne _ _ hx (by omega) (by omega)]
        have := h3 (i + 1) (by omega)
        rw [show ((x + 1) % 6 + 6 - 6 + i) % 6 = (x + 6 - c + (i + 1)) % 6 by omega]
        exact this
theorem giveBack_ok {s : S3} {c : Nat} {H : Nat → AM} (h : HC s (c + 1) H) (m : S1) : ∃ s1 m1, fX3_giveBack s m = some (s1, m1) ∧ HC s1 c H ∧ MR m1 (H c) := by
  obtain ⟨hc, h1, x, hx, h2, h3⟩ := h
  have hlast := h3 c (by omega)
  rw [show (x + 6 - (c + 1) + c) % 6 = (x + 5) % 6 by omega] at hlast
  obtain ⟨r, e1, e2⟩ := copy_ok hlast m
  refine ⟨(s.1, nI ((x + 5) % 6), nI c), r, ?_, ⟨by omega, rfl, (x + 5) % 6, by omega, rfl, fun i hi => ?_⟩, e2⟩
  · rcases lt6 hx with rfl | rfl | rfl | rfl | rfl | rfl <;> simp only [rg, Nat.reduceAdd, Nat.reduceMod] at e1 <;>
      simp (disch := omega) only [fX3_giveBack, h1, h2, e1, l_0, l_1, l_2, l_3, l_4, l_5, l_6, l_7, l_8, l_9, l_10, l_11, l_12, l_13, l_14, l_15, l_16, l_17, l_18, l_19, l_20, l_21, l_24, l_28, l_31, l_32, l_33, l_45, l_47, l_48, l_57, l_59, l_84, l_95, l_96, l_100, l_112, l_119, l_120, l_127, l_140, l_700, l_840, l_999, l_4095, l_999999, ↓l_m1, ↓l_m2, ↓l_m3, ↓l_m4, ↓l_m10, ↓l_m10000, nI_leI, nI_eq, nI_add, pk_div, pk_mul, pk_sub, md_eq, if_pos, if_neg, ↓reduceIte, bnd_some, Nat.add_sub_cancel, Nat.reduceAdd, Nat.reduceMod, Nat.reduceSub, Nat.reduceEqDiff, Nat.reduceDiv, Nat.reduceMul]
  · have := h3 i (by omega)
    rw [show ((x + 5) % 6 + 6 - c + i) % 6 = (x + 6 - (c + 1) + i) % 6 by omega]
    exact this
/-- the model's numbers of the mine -/
def TR (τ : S7) (M : AM) : Prop := τ.2.2.1 = nI M.n ∧ (∀ p, p < M.n → τ.2.2.2.1 p = nI (M.cl p)) ∧ (∀ p, p < M.n → τ.2.2.2.2.1 p = nI (M.sg p)) ∧ hS τ.2.2.2.2.2.1 M.up ∧ hS τ.2.2.2.2.2.2.1 M.wl ∧ (∀ c, c < 96 → τ.2.1 c = nI (M.wt c))
theorem up_lt {M : AM} (h : OK M) {p : Nat} (hp : M.up p = true) : p < M.n := by
  rcases Nat.lt_or_ge p M.n with q | q
  · exact q
  · have := h.2.2.2.1 p q; rw [hp] at this; cases this
theorem TR_GR {τ : S7} {M : AM} (h : TR τ M) (hM : OK M) : GR τ M M.up :=
  ⟨h.2.2.2.2.1, fun p _ hs => ⟨h.2.1 p (up_lt hM hs), hM.2.1 p (up_lt hM hs)⟩, fun p _ hs => ⟨h.2.2.1 p (up_lt hM hs), hM.2.2.1 p (up_lt hM hs)⟩, fun c hc => ⟨h.2.2.2.2.2 c hc, hM.2.2.2.2.2 c hc⟩, fun p hp => hM.2.2.2.1 p (by have := hM.1; omega)⟩
/-- a state in the model's row, from a place on -/
def KR (f : Nat → Int32) (a : Nat) (M : AM) : Prop := f a = nI M.n ∧ hS (f (a + 1)) M.up ∧ hS (f (a + 2)) M.wl ∧ (∀ p, p < M.n → f (a + 4 + p) = nI (M.cl p)) ∧ (∀ p, p < M.n → f (a + 16 + p) = nI (M.sg p)) ∧ (∀ c, c < 96 → f (a + 28 + c) = nI (M.wt c))
def HM (τ : S7) (c : Nat) (H : Nat → AM) : Prop := c ≤ 6 ∧ τ.2.2.2.2.2.2.2.1 = nI c ∧ ∀ i, i < c → KR τ.2.2.2.2.2.2.2.2.1 (140 * i) (H i)
theorem KR_cong {f g : Nat → Int32} {a b : Nat} {M : AM} (hM : M.n ≤ 12) (h : KR f a M) (e : ∀ j, j < 140 → g (b + j) = f (a + j)) : KR g b M := by
  obtain ⟨h1, h2, h3, h4, h5, h6⟩ := h
  refine ⟨by rw [← h1]; exact e 0 (by omega), by rw [e 1 (by omega)]; exact h2, by rw [e 2 (by omega)]; exact h3, fun p hp => ?_, fun p hp => ?_, fun c hc => ?_⟩
  · rw [← h4 p hp, Nat.add_assoc, e (4 + p) (by omega), Nat.add_assoc]
  · rw [← h5 p hp, Nat.add_assoc, e (16 + p) (by omega), Nat.add_assoc]
  · rw [← h6 c hc, Nat.add_assoc, e (28 + c) (by omega), Nat.add_assoc]
theorem writes_ok {τ : S7} {M : AM} (h : TR τ M) (hM : OK M) {a : Nat} (ha : a ≤ 700) : ∃ f, fX7_writes τ (nI a) = some (τ.1, τ.2.1, τ.2.2.1, τ.2.2.2.1, τ.2.2.2.2.1, τ.2.2.2.2.2.1, τ.2.2.2.2.2.2.1, τ.2.2.2.2.2.2.2.1, f, τ.2.2.2.2.2.2.2.2.2) ∧ KR f a M ∧ ∀ j, j < a → f j = τ.2.2.2.2.2.2.2.2.1 j := by
  obtain ⟨h1, h2, h3, h4, h5, h6⟩ := h
  have hn := hM.1
  let f0 := upd (upd (upd τ.2.2.2.2.2.2.2.2.1 a τ.2.2.1) (a + 1) τ.2.2.2.2.2.1) (a + 2) τ.2.2.2.2.2.2.1
  obtain ⟨z, e1, e2, e3, e4⟩ := loopI (step := fX7_writes_L36 τ (nI a)) (fun i (q : Int32 × (Nat → Int32)) => q.1 = nI i ∧ (∀ j, j < a + 3 → q.2 j = f0 j) ∧ (∀ p, p < i → q.2 (a + 4 + p) = τ.2.2.2.1 p) ∧ (∀ p, p < i → q.2 (a + 16 + p) = τ.2.2.2.2.1 p)) (fun q => (∀ j, j < a + 3 → q.2 j = f0 j) ∧ (∀ p, p < 12 → q.2 (a + 4 + p) = τ.2.2.2.1 p) ∧ (∀ p, p < 12 → q.2 (a + 16 + p) = τ.2.2.2.2.1 p)) 12 (F := 5000) (by omega) (s0 := ((0 : Int32), f0)) ⟨rfl, fun _ _ => rfl, fun p hp => absurd hp (by omega), fun p hp => absurd hp (by omega)⟩
    (by
      rintro i ⟨x, f⟩ hi ⟨rfl, i1, i2, i3⟩
      refine ⟨(nI (i + 1), upd (upd f (a + 4 + i) (τ.2.2.2.1 i)) (a + 16 + i) (τ.2.2.2.2.1 i)), ?_, rfl, fun j hj => ?_, fun p hp => ?_, fun p hp => ?_⟩
      · simp (disch := omega) only [fX7_writes_L36, l_0, l_1, l_2, l_3, l_4, l_5, l_6, l_7, l_8, l_9, l_10, l_11, l_12, l_13, l_14, l_15, l_16, l_17, l_18, l_19, l_20, l_21, l_24, l_28, l_31, l_32, l_33, l_45, l_47, l_48, l_57, l_59, l_84, l_95, l_96, l_100, l_112, l_119, l_120, l_127, l_140, l_700, l_840, l_999, l_4095, l_999999, ↓l_m1, ↓l_m2, ↓l_m3, ↓l_m4, ↓l_m10, ↓l_m10000, nI_leI, nI_ltI, nI_eq, mI_le, mI_lt, le_mI, lt_mI, mI_eq, eq_mI, nI_add, pk_mul, pk_sub, pk_div, nI_clamp, md_eq, Nat.zero_le, true_and, and_true, and_self, if_pos, if_neg, Option.bind_some, bnd_some, Sum.elim_inl, Sum.elim_inr, ↓reduceIte]
      · show upd (upd f _ _) _ _ j = _
        rw [upd_ne _ _ _ _ (by omega), upd_ne _ _ _ _ (by omega)]
        exact i1 j hj
      · show upd (upd f _ _) _ _ (a + 4 + p) = _
        rw [upd_ne _ _ _ _ (by omega)]
        by_cases hpi : p = i
        · subst hpi; exact upd_same _ _ _
        · rw [upd_ne _ _ _ _ (by omega)]; exact i2 p (by omega)
      · show upd (upd f _ _) _ _ (a + 16 + p) = _
        by_cases hpi : p = i
        · subst hpi; exact upd_same _ _ _
        · rw [upd_ne _ _ _ _ (by omega), upd_ne _ _ _ _ (by omega)]; exact i3 p (by omega))
    (by
      rintro ⟨x, f⟩ ⟨rfl, i1, i2, i3⟩
      refine ⟨(nI 12, f), ?_, i1, i2, i3⟩
      simp (disch := omega) only [fX7_writes_L36, l_0, l_1, l_2, l_3, l_4, l_5, l_6, l_7, l_8, l_9, l_10, l_11, l_12, l_13, l_14, l_15, l_16, l_17, l_18, l_19, l_20, l_21, l_24, l_28, l_31, l_32, l_33, l_45, l_47, l_48, l_57, l_59, l_84, l_95, l_96, l_100, l_112, l_119, l_120, l_127, l_140, l_700, l_840, l_999, l_4095, l_999999, ↓l_m1, ↓l_m2, ↓l_m3, ↓l_m4, ↓l_m10, ↓l_m10000, nI_leI, nI_ltI, nI_eq, mI_le, mI_lt, le_mI, lt_mI, mI_eq, eq_mI, nI_add, pk_mul, pk_sub, pk_div, nI_clamp, md_eq, Nat.zero_le, true_and, and_true, and_self, if_pos, if_neg, Option.bind_some, bnd_some, Sum.elim_inl, Sum.elim_inr, ↓reduceIte])
  obtain ⟨y, e5, e6, e7⟩ := loopI (step := fX7_writes_L83 τ (nI a)) (fun i (q : Int32 × (Nat → Int32)) => q.1 = nI i ∧ (∀ j, j < a + 28 → q.2 j = z.2 j) ∧ (∀ p, p < i → q.2 (a + 28 + p) = τ.2.1 p)) (fun q => (∀ j, j < a + 28 → q.2 j = z.2 j) ∧ (∀ p, p < 96 → q.2 (a + 28 + p) = τ.2.1 p)) 96 (F := 5000) (by omega) (s0 := ((0 : Int32), z.2)) ⟨rfl, fun _ _ => rfl, fun p hp => absurd hp (by omega)⟩
    (by
      rintro i ⟨x, f⟩ hi ⟨rfl, i1, i2⟩
      refine ⟨(nI (i + 1), upd f (a + 28 + i) (τ.2.1 i)), ?_, rfl, fun j hj => ?_, fun p hp => ?_⟩
      · simp (disch := omega) only [fX7_writes_L83, l_0, l_1, l_2, l_3, l_4, l_5, l_6, l_7, l_8, l_9, l_10, l_11, l_12, l_13, l_14, l_15, l_16, l_17, l_18, l_19, l_20, l_21, l_24, l_28, l_31, l_32, l_33, l_45, l_47, l_48, l_57, l_59, l_84, l_95, l_96, l_100, l_112, l_119, l_120, l_127, l_140, l_700, l_840, l_999, l_4095, l_999999, ↓l_m1, ↓l_m2, ↓l_m3, ↓l_m4, ↓l_m10, ↓l_m10000, nI_leI, nI_ltI, nI_eq, mI_le, mI_lt, le_mI, lt_mI, mI_eq, eq_mI, nI_add, pk_mul, pk_sub, pk_div, nI_clamp, md_eq, Nat.zero_le, true_and, and_true, and_self, if_pos, if_neg, Option.bind_some, bnd_some, Sum.elim_inl, Sum.elim_inr, ↓reduceIte]
      · show upd f _ _ j = _
        rw [upd_ne _ _ _ _ (by omega)]
        exact i1 j hj
      · show upd f _ _ (a + 28 + p) = _
        by_cases hpi : p = i
        · subst hpi; exact upd_same _ _ _
        · rw [upd_ne _ _ _ _ (by omega)]; exact i2 p (by omega))
    (by
      rintro ⟨x, f⟩ ⟨rfl, i1, i2⟩
      refine ⟨(nI 96, f), ?_, i1, i2⟩
      simp (disch := omega) only [fX7_writes_L83, l_0, l_1, l_2, l_3, l_4, l_5, l_6, l_7, l_8, l_9, l_10, l_11, l_12, l_13, l_14, l_15, l_16, l_17, l_18, l_19, l_20, l_21, l_24, l_28, l_31, l_32, l_33, l_45, l_47, l_48, l_57, l_59, l_84, l_95, l_96, l_100, l_112, l_119, l_120, l_127, l_140, l_700, l_840, l_999, l_4095, l_999999, ↓l_m1, ↓l_m2, ↓l_m3, ↓l_m4, ↓l_m10, ↓l_m10000, nI_leI, nI_ltI, nI_eq, mI_le, mI_lt, le_mI, lt_mI, mI_eq, eq_mI, nI_add, pk_mul, pk_sub, pk_div, nI_clamp, md_eq, Nat.zero_le, true_and, and_true, and_self, if_pos, if_neg, Option.bind_some, bnd_some, Sum.elim_inl, Sum.elim_inr, ↓reduceIte])
  refine ⟨y.2, ?_, ⟨?_, ?_, ?_, fun p hp => ?_, fun p hp => ?_, fun c hc => ?_⟩, fun j hj => ?_⟩
  · have e1' : loopF (fX7_writes_L36 τ (nI a)) 5000 (nI 0, upd (upd (upd τ.2.2.2.2.2.2.2.2.1 a τ.2.2.1) (a + 1) τ.2.2.2.2.2.1) (a + 2) τ.2.2.2.2.2.2.1) = some z := e1
    have e5' : loopF (fX7_writes_L83 τ (nI a)) 5000 (nI 0, z.2) = some y := e5
    simp (disch := omega) only [fX7_writes, l_0, l_1, l_2, l_3, l_4, l_5, l_6, l_7, l_8, l_9, l_10, l_11, l_12, l_13, l_14, l_15, l_16, l_17, l_18, l_19, l_20, l_21, l_24, l_28, l_31, l_32, l_33, l_45, l_47, l_48, l_57, l_59, l_84, l_95, l_96, l_100, l_112, l_119, l_120, l_127, l_140, l_700, l_840, l_999, l_4095, l_999999, ↓l_m1, ↓l_m2, ↓l_m3, ↓l_m4, ↓l_m10, ↓l_m10000, nI_leI, nI_add, nI_clamp, Nat.zero_le, true_and, if_pos, bnd_some, e1', e5']
  · rw [e6 a (by omega), e2 a (by omega)]
    show upd (upd (upd _ _ _) _ _) _ _ a = _
    rw [upd_ne _ _ _ _ (by omega), upd_ne _ _ _ _ (by omega), upd_same]; exact h1
  · rw [e6 (a + 1) (by omega), e2 (a + 1) (by omega)]
    show hS (upd (upd (upd _ _ _) _ _) _ _ (a + 1)) _
    rw [upd_ne _ _ _ _ (by omega), upd_same]; exact h4
  · rw [e6 (a + 2) (by omega), e2 (a + 2) (by omega)]
    show hS (upd (upd (upd _ _ _) _ _) _ _ (a + 2)) _
    rw [upd_same]; exact h5
  · rw [e6 _ (by omega), e3 p (by omega)]; exact h2 p hp
  · rw [e6 _ (by omega), e4 p (by omega)]; exact h3 p hp
  · rw [e7 c hc]; exact h6 c hc
  · rw [e6 j (by omega), e2 j (by omega)]
    show upd (upd (upd _ _ _) _ _) _ _ j = _
    rw [upd_ne _ _ _ _ (by omega), upd_ne _ _ _ _ (by omega), upd_ne _ _ _ _ (by omega)]
theorem leavesState_ok {τ : S7} {M : AM} {c : Nat} {H : Nat → AM} (h : TR τ M) (hM : OK M) (hH : HM τ c H) (hHO : ∀ i, i < c → OK (H i)) : ∃ f, fX7_leavesState τ = some (τ.1, τ.2.1, τ.2.2.1, τ.2.2.2.1, τ.2.2.2.2.1, τ.2.2.2.2.2.1, τ.2.2.2.2.2.2.1, nI (nC c), f, τ.2.2.2.2.2.2.2.2.2) ∧ HM (τ.1, τ.2.1, τ.2.2.1, τ.2.2.2.1, τ.2.2.2.2.1, τ.2.2.2.2.2.1, τ.2.2.2.2.2.2.1, nI (nC c), f, τ.2.2.2.2.2.2.2.2.2) (nC c) (nH c H M) := by
  obtain ⟨hc, h1, h2⟩ := hH
  by_cases h6 : c < 6
  · obtain ⟨f, e1, e2, e3⟩ := writes_ok h hM (a := 140 * c) (by omega)
    refine ⟨f, ?_, by unfold nC; rw [if_pos h6]; omega, rfl, fun i hi => ?_⟩
    · have hnc : nI (nC c) = nI (c + 1) := by unfold nC; rw [if_pos h6]
      rw [hnc]
      simp (disch := omega) only [fX7_leavesState, h1, l_0, l_1, l_2, l_3, l_4, l_5, l_6, l_7, l_8, l_9, l_10, l_11, l_12, l_13, l_14, l_15, l_16, l_17, l_18, l_19, l_20, l_21, l_24, l_28, l_31, l_32, l_33, l_45, l_47, l_48, l_57, l_59, l_84, l_95, l_96, l_100, l_112, l_119, l_120, l_127, l_140, l_700, l_840, l_999, l_4095, l_999999, ↓l_m1, ↓l_m2, ↓l_m3, ↓l_m4, ↓l_m10, ↓l_m10000, nI_eq, pk_mul, nI_add, if_neg, e1, bnd_some]
    · show KR f _ _
      unfold nC at hi
      rw [if_pos h6] at hi
      unfold nH
      rw [if_pos h6]
      by_cases hic : i = c
      · rw [if_pos hic, hic]; exact e2
      · rw [if_neg hic]
        exact KR_cong (hHO i (by omega)).1 (h2 i (by omega)) (fun j hj => e3 _ (by omega))
  · have hc6 : c = 6 := by omega
    subst hc6
    obtain ⟨z, e1, e2⟩ := loopI (step := fX7_leavesState_L11) (fun i (q : Int32 × (Nat → Int32)) => q.1 = nI i ∧ (∀ j, j < i → q.2 j = τ.2.2.2.2.2.2.2.2.1 (j + 140)) ∧ (∀ j, i ≤ j → q.2 j = τ.2.2.2.2.2.2.2.2.1 j)) (fun q => ∀ j, j < 700 → q.2 j = τ.2.2.2.2.2.2.2.2.1 (j + 140)) 700 (F := 5000) (by omega) (s0 := ((0 : Int32), τ.2.2.2.2.2.2.2.2.1)) ⟨rfl, fun j hj => absurd hj (by omega), fun _ _ => rfl⟩
      (by
        rintro i ⟨x, f⟩ hi ⟨rfl, i1, i2⟩
        have i2' : f (i + 140) = τ.2.2.2.2.2.2.2.2.1 (i + 140) := i2 (i + 140) (by omega)
        refine ⟨(nI (i + 1), upd f i (f (i + 140))), ?_, rfl, fun j hj => ?_, fun j hj => ?_⟩
        · simp (disch := omega) only [fX7_leavesState_L11, l_0, l_1, l_2, l_3, l_4, l_5, l_6, l_7, l_8, l_9, l_10, l_11, l_12, l_13, l_14, l_15, l_16, l_17, l_18, l_19, l_20, l_21, l_24, l_28, l_31, l_32, l_33, l_45, l_47, l_48, l_57, l_59, l_84, l_95, l_96, l_100, l_112, l_119, l_120, l_127, l_140, l_700, l_840, l_999, l_4095, l_999999, ↓l_m1, ↓l_m2, ↓l_m3, ↓l_m4, ↓l_m10, ↓l_m10000, nI_leI, nI_ltI, nI_eq, mI_le, mI_lt, le_mI, lt_mI, mI_eq, eq_mI, nI_add, pk_mul, pk_sub, pk_div, nI_clamp, md_eq, Nat.zero_le, true_and, and_true, and_self, if_pos, if_neg, Option.bind_some, bnd_some, Sum.elim_inl, Sum.elim_inr, ↓reduceIte]
        · show upd f _ _ j = _
          by_cases hji : j = i
          · subst hji; rw [upd_same]; exact i2'
          · rw [upd_ne _ _ _ _ hji]; exact i1 j (by omega)
        · show upd f _ _ j = _
          rw [upd_ne _ _ _ _ (by omega)]; exact i2 j (by omega))
      (by
        rintro ⟨x, f⟩ ⟨rfl, i1, i2⟩
        refine ⟨(nI 700, f), ?_, i1⟩
        simp (disch := omega) only [fX7_leavesState_L11, l_0, l_1, l_2, l_3, l_4, l_5, l_6, l_7, l_8, l_9, l_10, l_11, l_12, l_13, l_14, l_15, l_16, l_17, l_18, l_19, l_20, l_21, l_24, l_28, l_31, l_32, l_33, l_45, l_47, l_48, l_57, l_59, l_84, l_95, l_96, l_100, l_112, l_119, l_120, l_127, l_140, l_700, l_840, l_999, l_4095, l_999999, ↓l_m1, ↓l_m2, ↓l_m3, ↓l_m4, ↓l_m10, ↓l_m10000, nI_leI, nI_ltI, nI_eq, mI_le, mI_lt, le_mI, lt_mI, mI_eq, eq_mI, nI_add, pk_mul, pk_sub, pk_div, nI_clamp, md_eq, Nat.zero_le, true_and, and_true, and_self, if_pos, if_neg, Option.bind_some, bnd_some, Sum.elim_inl, Sum.elim_inr, ↓reduceIte])
    obtain ⟨f, e3, e4, e5⟩ := writes_ok (τ := (τ.1, τ.2.1, τ.2.2.1, τ.2.2.2.1, τ.2.2.2.2.1, τ.2.2.2.2.2.1, τ.2.2.2.2.2.2.1, nI 5, z.2, τ.2.2.2.2.2.2.2.2.2)) h hM (a := 700) (by omega)
    refine ⟨f, ?_, by unfold nC; rw [if_neg h6]; omega, rfl, fun i hi => ?_⟩
    · have hnc : nI (nC 6) = nI 6 := rfl
      rw [hnc]
      have e1' : loopF fX7_leavesState_L11 5000 (nI 0, τ.2.2.2.2.2.2.2.2.1) = some z := e1
      simp (disch := omega) only [fX7_leavesState, h1, l_0, l_1, l_2, l_3, l_4, l_5, l_6, l_7, l_8, l_9, l_10, l_11, l_12, l_13, l_14, l_15, l_16, l_17, l_18, l_19, l_20, l_21, l_24, l_28, l_31, l_32, l_33, l_45, l_47, l_48, l_57, l_59, l_84, l_95, l_96, l_100, l_112, l_119, l_120, l_127, l_140, l_700, l_840, l_999, l_4095, l_999999, ↓l_m1, ↓l_m2, ↓l_m3, ↓l_m4, ↓l_m10, ↓l_m10000, nI_eq, pk_mul, pk_sub, nI_add, ↓reduceIte, bnd_some, e1', e3, Nat.reduceSub, Nat.reduceMul, Nat.reduceAdd]
    · show KR f _ _
      unfold nC at hi
      rw [if_neg h6] at hi
      unfold nH
      rw [if_neg h6]
      by_cases hic : i = 5
      · rw [if_pos hic, hic]; exact e4
      · rw [if_neg hic]
        refine KR_cong (hHO (i + 1) (by omega)).1 (h2 (i + 1) (by omega)) (fun j hj => ?_)
        rw [e5 _ (by omega)]
        show z.2 _ = _
        rw [e2 _ (by omega), show 140 * i + j + 140 = 140 * (i + 1) + j by omega]
theorem comesBack_ok {τ : S7} {c : Nat} {H : Nat → AM} (hH : HM τ (c + 1) H) (hO : OK (H c)) : ∃ w n ce st u wl, fX7_comesBack τ = some (τ.1, w, n, ce, st, u, wl, nI c, τ.2.2.2.2.2.2.2.2) ∧ TR (τ.1, w, n, ce, st, u, wl, nI c, τ.2.2.2.2.2.2.2.2) (H c) := by
  obtain ⟨hc, h1, h2⟩ := hH
  obtain ⟨k1, k2, k3, k4, k5, k6⟩ := h2 c (by omega)
  have hn := hO.1
  obtain ⟨z, e1, e2, e3⟩ := loopI (step := fX7_comesBack_L55 τ (nI (140 * c))) (fun i (q : Int32 × (Nat → Int32) × (Nat → Int32)) => q.1 = nI i ∧ (∀ p, p < i → q.2.1 p = τ.2.2.2.2.2.2.2.2.1 (140 * c + 4 + p)) ∧ (∀ p, p < i → q.2.2 p = τ.2.2.2.2.2.2.2.2.1 (140 * c + 16 + p))) (fun q => (∀ p, p < 12 → q.2.1 p = τ.2.2.2.2.2.2.2.2.1 (140 * c + 4 + p)) ∧ (∀ p, p < 12 → q.2.2 p = τ.2.2.2.2.2.2.2.2.1 (140 * c + 16 + p))) 12 (F := 5000) (by omega) (s0 := ((0 : Int32), τ.2.2.2.1, τ.2.2.2.2.1)) ⟨rfl, fun p hp => absurd hp (by omega), fun p hp => absurd hp (by omega)⟩
    (by
      rintro i ⟨x, f, g⟩ hi ⟨rfl, i1, i2⟩
      refine ⟨(nI (i + 1), upd f i (τ.2.2.2.2.2.2.2.2.1 (140 * c + 4 + i)), upd g i (τ.2.2.2.2.2.2.2.2.1 (140 * c + 16 + i))), ?_, rfl, fun p hp => ?_, fun p hp => ?_⟩
      · simp (disch := omega) only [fX7_comesBack_L55, l_0, l_1, l_2, l_3, l_4, l_5, l_6, l_7, l_8, l_9, l_10, l_11, l_12, l_13, l_14, l_15, l_16, l_17, l_18, l_19, l_20, l_21, l_24, l_28, l_31, l_32, l_33, l_45, l_47, l_48, l_57, l_59, l_84, l_95, l_96, l_100, l_112, l_119, l_120, l_127, l_140, l_700, l_840, l_999, l_4095, l_999999, ↓l_m1, ↓l_m2, ↓l_m3, ↓l_m4, ↓l_m10, ↓l_m10000, nI_leI, nI_ltI, nI_eq, mI_le, mI_lt, le_mI, lt_mI, mI_eq, eq_mI, nI_add, pk_mul, pk_sub, pk_div, nI_clamp, md_eq, Nat.zero_le, true_and, and_true, and_self, if_pos, if_neg, Option.bind_some, bnd_some, Sum.elim_inl, Sum.elim_inr, ↓reduceIte]
      · show upd f _ _ p = _
        by_cases hpi : p = i
        · subst hpi; exact upd_same _ _ _
        · rw [upd_ne _ _ _ _ hpi]; exact i1 p (by omega)
      · show upd g _ _ p = _
        by_cases hpi : p = i
        · subst hpi; exact upd_same _ _ _
        · rw [upd_ne _ _ _ _ hpi]; exact i2 p (by omega))
    (by
      rintro ⟨x, f, g⟩ ⟨rfl, i1, i2⟩
      refine ⟨(nI 12, f, g), ?_, i1, i2⟩
      simp (disch := omega) only [fX7_comesBack_L55, l_0, l_1, l_2, l_3, l_4, l_5, l_6, l_7, l_8, l_9, l_10, l_11, l_12, l_13, l_14, l_15, l_16, l_17, l_18, l_19, l_20, l_21, l_24, l_28, l_31, l_32, l_33, l_45, l_47, l_48, l_57, l_59, l_84, l_95, l_96, l_100, l_112, l_119, l_120, l_127, l_140, l_700, l_840, l_999, l_4095, l_999999, ↓l_m1, ↓l_m2, ↓l_m3, ↓l_m4, ↓l_m10, ↓l_m10000, nI_leI, nI_ltI, nI_eq, mI_le, mI_lt, le_mI, lt_mI, mI_eq, eq_mI, nI_add, pk_mul, pk_sub, pk_div, nI_clamp, md_eq, Nat.zero_le, true_and, and_true, and_self, if_pos, if_neg, Option.bind_some, bnd_some, Sum.elim_inl, Sum.elim_inr, ↓reduceIte])
  obtain ⟨y, e4, e5⟩ := loopI (step := fX7_comesBack_L102 τ (nI (140 * c))) (fun i (q : Int32 × (Nat → Int32)) => q.1 = nI i ∧ (∀ p, p < i → q.2 p = τ.2.2.2.2.2.2.2.2.1 (140 * c + 28 + p))) (fun q => ∀ p, p < 96 → q.2 p = τ.2.2.2.2.2.2.2.2.1 (140 * c + 28 + p)) 96 (F := 5000) (by omega) (s0 := ((0 : Int32), τ.2.1)) ⟨rfl, fun p hp => absurd hp (by omega)⟩
    (by
      rintro i ⟨x, f⟩ hi ⟨rfl, i1⟩
      refine ⟨(nI (i + 1), upd f i (τ.2.2.2.2.2.2.2.2.1 (140 * c + 28 + i))), ?_, rfl, fun p hp => ?_⟩
      · simp (disch := omega) only [fX7_comesBack_L102, l_0, l_1, l_2, l_3, l_4, l_5, l_6, l_7, l_8, l_9, l_10, l_11, l_12, l_13, l_14, l_15, l_16, l_17, l_18, l_19, l_20, l_21, l_24, l_28, l_31, l_32, l_33, l_45, l_47, l_48, l_57, l_59, l_84, l_95, l_96, l_100, l_112, l_119, l_120, l_127, l_140, l_700, l_840, l_999, l_4095, l_999999, ↓l_m1, ↓l_m2, ↓l_m3, ↓l_m4, ↓l_m10, ↓l_m10000, nI_leI, nI_ltI, nI_eq, mI_le, mI_lt, le_mI, lt_mI, mI_eq, eq_mI, nI_add, pk_mul, pk_sub, pk_div, nI_clamp, md_eq, Nat.zero_le, true_and, and_true, and_self, if_pos, if_neg, Option.bind_some, bnd_some, Sum.elim_inl, Sum.elim_inr, ↓reduceIte]
      · show upd f _ _ p = _
        by_cases hpi : p = i
        · subst hpi; exact upd_same _ _ _
        · rw [upd_ne _ _ _ _ hpi]; exact i1 p (by omega))
    (by
      rintro ⟨x, f⟩ ⟨rfl, i1⟩
      refine ⟨(nI 96, f), ?_, i1⟩
      simp (disch := omega) only [fX7_comesBack_L102, l_0, l_1, l_2, l_3, l_4, l_5, l_6, l_7, l_8, l_9, l_10, l_11, l_12, l_13, l_14, l_15, l_16, l_17, l_18, l_19, l_20, l_21, l_24, l_28, l_31, l_32, l_33, l_45, l_47, l_48, l_57, l_59, l_84, l_95, l_96, l_100, l_112, l_119, l_120, l_127, l_140, l_700, l_840, l_999, l_4095, l_999999, ↓l_m1, ↓l_m2, ↓l_m3, ↓l_m4, ↓l_m10, ↓l_m10000, nI_leI, nI_ltI, nI_eq, mI_le, mI_lt, le_mI, lt_mI, mI_eq, eq_mI, nI_add, pk_mul, pk_sub, pk_div, nI_clamp, md_eq, Nat.zero_le, true_and, and_true, and_self, if_pos, if_neg, Option.bind_some, bnd_some, Sum.elim_inl, Sum.elim_inr, ↓reduceIte])
  refine ⟨y.2, τ.2.2.2.2.2.2.2.2.1 (140 * c), z.2.1, z.2.2, τ.2.2.2.2.2.2.2.2.1 (140 * c + 1), τ.2.2.2.2.2.2.2.2.1 (140 * c + 2), ?_, k1, fun p hp => ?_, fun p hp => ?_, k2, k3, fun p hp => ?_⟩
  · have e1' : loopF (fX7_comesBack_L55 τ (nI (140 * c))) 5000 (nI 0, τ.2.2.2.1, τ.2.2.2.2.1) = some z := e1
    have e4' : loopF (fX7_comesBack_L102 τ (nI (140 * c))) 5000 (nI 0, τ.2.1) = some y := e4
    simp (disch := omega) only [fX7_comesBack, h1, l_0, l_1, l_2, l_3, l_4, l_5, l_6, l_7, l_8, l_9, l_10, l_11, l_12, l_13, l_14, l_15, l_16, l_17, l_18, l_19, l_20, l_21, l_24, l_28, l_31, l_32, l_33, l_45, l_47, l_48, l_57, l_59, l_84, l_95, l_96, l_100, l_112, l_119, l_120, l_127, l_140, l_700, l_840, l_999, l_4095, l_999999, ↓l_m1, ↓l_m2, ↓l_m3, ↓l_m4, ↓l_m10, ↓l_m10000, nI_leI, nI_add, pk_mul, pk_sub, nI_clamp, Nat.zero_le, true_and, if_pos, bnd_some, Nat.add_sub_cancel, e1', e4']
  · show z.2.1 p = _
    rw [e2 p (by omega)]; exact k4 p hp
  · show z.2.2 p = _
    rw [e3 p (by omega)]; exact k5 p hp
  · show y.2 p = _
    rw [e5 p hp]; exact k6 p hp
