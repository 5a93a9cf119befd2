def mI : Int32 := -1
theorem l_0 : (0 : Int32) = nI 0 := by decide
theorem l_1 : (1 : Int32) = nI 1 := by decide
theorem l_2 : (2 : Int32) = nI 2 := by decide
theorem l_3 : (3 : Int32) = nI 3 := by decide
theorem l_4 : (4 : Int32) = nI 4 := by decide
theorem l_5 : (5 : Int32) = nI 5 := by decide
theorem l_6 : (6 : Int32) = nI 6 := by decide
theorem l_7 : (7 : Int32) = nI 7 := by decide
theorem l_8 : (8 : Int32) = nI 8 := by decide
theorem l_9 : (9 : Int32) = nI 9 := by decide
theorem l_10 : (10 : Int32) = nI 10 := by decide
theorem l_11 : (11 : Int32) = nI 11 := by decide
theorem l_12 : (12 : Int32) = nI 12 := by decide
theorem l_13 : (13 : Int32) = nI 13 := by decide
theorem l_14 : (14 : Int32) = nI 14 := by decide
theorem l_15 : (15 : Int32) = nI 15 := by decide
theorem l_16 : (16 : Int32) = nI 16 := by decide
theorem l_17 : (17 : Int32) = nI 17 := by decide
theorem l_18 : (18 : Int32) = nI 18 := by decide
theorem l_19 : (19 : Int32) = nI 19 := by decide
theorem l_20 : (20 : Int32) = nI 20 := by decide
theorem l_21 : (21 : Int32) = nI 21 := by decide
theorem l_24 : (24 : Int32) = nI 24 := by decide
theorem l_28 : (28 : Int32) = nI 28 := by decide
theorem l_31 : (31 : Int32) = nI 31 := by decide
theorem l_32 : (32 : Int32) = nI 32 := by decide
theorem l_33 : (33 : Int32) = nI 33 := by decide
theorem l_45 : (45 : Int32) = nI 45 := by decide
theorem l_47 : (47 : Int32) = nI 47 := by decide
theorem l_48 : (48 : Int32) = nI 48 := by decide
theorem l_57 : (57 : Int32) = nI 57 := by decide
theorem l_59 : (59 : Int32) = nI 59 := by decide
theorem l_84 : (84 : Int32) = nI 84 := by decide
theorem l_95 : (95 : Int32) = nI 95 := by decide
theorem l_96 : (96 : Int32) = nI 96 := by decide
theorem l_100 : (100 : Int32) = nI 100 := by decide
theorem l_112 : (112 : Int32) = nI 112 := by decide
theorem l_119 : (119 : Int32) = nI 119 := by decide
theorem l_120 : (120 : Int32) = nI 120 := by decide
theorem l_127 : (127 : Int32) = nI 127 := by decide
theorem l_140 : (140 : Int32) = nI 140 := by decide
theorem l_700 : (700 : Int32) = nI 700 := by decide
theorem l_840 : (840 : Int32) = nI 840 := by decide
theorem l_999 : (999 : Int32) = nI 999 := by decide
theorem l_4095 : (4095 : Int32) = nI 4095 := by decide
theorem l_999999 : (999999 : Int32) = nI 999999 := by decide
theorem l_m1 : (-1 : Int32) = mI := by decide
def mI2 : Int32 := -2
def mI3 : Int32 := -3
def mI4 : Int32 := -4
def mI10 : Int32 := -10
def mIk : Int32 := -10000
theorem l_m2 : (-2 : Int32) = mI2 := by decide
theorem l_m3 : (-3 : Int32) = mI3 := by decide
theorem l_m4 : (-4 : Int32) = mI4 := by decide
theorem l_m10 : (-10 : Int32) = mI10 := by decide
theorem l_m10000 : (-10000 : Int32) = mIk := by decide
theorem mI_toInt : mI.toInt = -1 := by decide
theorem mI_le {a : Nat} (h : a < 2 ^ 31) : (mI ≤ nI a) ↔ True := by
  rw [Int32.le_iff_toInt_le, mI_toInt, nI_toInt h, iff_true]; omega
theorem mI_lt {a : Nat} (h : a < 2 ^ 31) : (mI < nI a) ↔ True := by
  rw [Int32.lt_iff_toInt_lt, mI_toInt, nI_toInt h, iff_true]; omega
theorem le_mI {a : Nat} (h : a < 2 ^ 31) : (nI a ≤ mI) ↔ False := by
  rw [Int32.le_iff_toInt_le, mI_toInt, nI_toInt h, iff_false]; omega
theorem lt_mI {a : Nat} (h : a < 2 ^ 31) : (nI a < mI) ↔ False := by
  rw [Int32.lt_iff_toInt_lt, mI_toInt, nI_toInt h, iff_false]; omega
theorem mI_eq {a : Nat} (h : a < 2 ^ 31) : (mI = nI a) ↔ False := by
  rw [← Int32.toInt_inj, mI_toInt, nI_toInt h, iff_false]; omega
theorem eq_mI {a : Nat} (h : a < 2 ^ 31) : (nI a = mI) ↔ False := by
  rw [← Int32.toInt_inj, mI_toInt, nI_toInt h, iff_false]; omega
theorem md_eq (a d : Nat) : a - a / d * d = a % d := by
  have := Nat.div_add_mod' a d
  omega
theorem bnd_some {α β : Type} (a : α) (g : α → Option β) : Option.bind (some a) g = g a := rfl
theorem loopF_s {σ ρ : Type} (step : σ → Option (σ ⊕ ρ)) (n : Nat) (s : σ) : loopF step (n + 1) s = Option.bind (step s) (fun x => Sum.elim (fun s1 => loopF step n s1) (fun r => some r) x) := rfl
theorem loopM {σ ρ : Type} {step : σ → Option (σ ⊕ ρ)} (I : σ → Prop) (μ : σ → Nat) (P : ρ → Prop)
    (hs : ∀ s, I s → (∃ s1, step s = some (.inl s1) ∧ I s1 ∧ μ s1 < μ s) ∨ (∃ r, step s = some (.inr r) ∧ P r)) :
    ∀ (F : Nat) (s : σ), I s → μ s < F → ∃ r, loopF step F s = some r ∧ P r
  | 0, s, _, h => absurd h (by omega)
  | F + 1, s, hi, h => by
    rcases hs s hi with ⟨s1, h1, h2, h3⟩ | ⟨r, h1, h2⟩
    · obtain ⟨r, h4, h5⟩ := loopM I μ P hs F s1 h2 (by omega)
      exact ⟨r, by rw [loopF_s, h1]; exact h4, h5⟩
    · exact ⟨r, by rw [loopF_s, h1]; rfl, h2⟩
theorem loopI {σ ρ : Type} {step : σ → Option (σ ⊕ ρ)} (I : Nat → σ → Prop) (P : ρ → Prop) (n : Nat) {F : Nat} (hF : n < F) {s0 : σ} (h0 : I 0 s0)
    (hs : ∀ i s, i < n → I i s → ∃ s1, step s = some (.inl s1) ∧ I (i + 1) s1) (he : ∀ s, I n s → ∃ r, step s = some (.inr r) ∧ P r) : ∃ r, loopF step F s0 = some r ∧ P r := by
  have key : ∀ (k i : Nat) (s : σ) (F : Nat), i + k = n → I i s → k < F → ∃ r, loopF step F s = some r ∧ P r := by
    intro k
    induction k with
    | zero =>
      intro i s F hi hI hF
      obtain ⟨r, h1, h2⟩ := he s (by rw [← hi]; exact hI)
      cases F with
      | zero => omega
      | succ F => exact ⟨r, by rw [loopF_s, h1]; rfl, h2⟩
    | succ k ih =>
      intro i s F hi hI hF
      obtain ⟨s1, h1, h2⟩ := hs i s (by omega) hI
      cases F with
      | zero => omega
      | succ F =>
        obtain ⟨r, h3, h4⟩ := ih (i + 1) s1 F (by omega) h2 (by omega)
        exact ⟨r, by rw [loopF_s, h1]; exact h3, h4⟩
  exact key n 0 s0 F (by omega) h0 hF
/-- a counted loop that may leave early -/
theorem loopX {σ ρ : Type} {step : σ → Option (σ ⊕ ρ)} (I : Nat → σ → Prop) (P : ρ → Prop) (n : Nat) {F : Nat} (hF : n < F) {s0 : σ} (h0 : I 0 s0)
    (hs : ∀ i s, i < n → I i s → (∃ s1, step s = some (.inl s1) ∧ I (i + 1) s1) ∨ (∃ r, step s = some (.inr r) ∧ P r)) (he : ∀ s, I n s → ∃ r, step s = some (.inr r) ∧ P r) : ∃ r, loopF step F s0 = some r ∧ P r := by
  have key : ∀ (k i : Nat) (s : σ) (F : Nat), i + k = n → I i s → k < F → ∃ r, loopF step F s = some r ∧ P r := by
    intro k
    induction k with
    | zero =>
      intro i s F hi hI hF
      obtain ⟨r, h1, h2⟩ := he s (by rw [← hi]; exact hI)
      cases F with
      | zero => omega
      | succ F => exact ⟨r, by rw [loopF_s, h1]; rfl, h2⟩
    | succ k ih =>
      intro i s F hi hI hF
      cases F with
      | zero => omega
      | succ F =>
        rcases hs i s (by omega) hI with ⟨s1, h1, h2⟩ | ⟨r, h1, h2⟩
        · obtain ⟨r, h3, h4⟩ := ih (i + 1) s1 F (by omega) h2 (by omega)
          exact ⟨r, by rw [loopF_s, h1]; exact h3, h4⟩
        · exact ⟨r, by rw [loopF_s, h1]; rfl, h2⟩
  exact key n 0 s0 F (by omega) h0 hF
theorem upd_same (f : Nat → Int32) (k : Nat) (x : Int32) : upd f k x k = x := by simp [upd]
theorem upd_ne (f : Nat → Int32) (k j : Nat) (x : Int32) (h : j ≠ k) : upd f k x j = f j := by simp [upd, h]
/-- fill: all places hold v -/
theorem fill_ok (n : Nat) (hn : n < 4999) (f : Nat → Int32) (v : Int32) : ∃ g, fJ7_fill_53178 n f v = some g ∧ ∀ j, j < n → g j = v := by
  unfold fJ7_fill_53178
  obtain ⟨r, h1, h2⟩ := loopI (step := fJ7_fill_53178_L5 n v (nI n)) (fun i (q : Int32 × (Nat → Int32)) => q.1 = nI i ∧ ∀ j, j < i → q.2 j = v) (fun q => ∀ j, j < n → q.2 j = v) n (F := 5000) (by omega) (s0 := ((0 : Int32), f)) ⟨rfl, fun j h => absurd h (by omega)⟩
    (by
      intro i q hi hI
      obtain ⟨x, g⟩ := q
      obtain ⟨rfl, hg⟩ := hI
      refine ⟨(nI (i + 1), upd g i v), ?_, rfl, ?_⟩
      · simp (disch := omega) only [fJ7_fill_53178_L5, l_0, l_1, l_2, l_3, l_4, l_5, l_6, l_7, l_8, l_9, l_10, l_11, l_12, l_13, l_14, l_15, l_16, l_17, l_18, l_19, l_20, l_21, l_24, l_28, l_31, l_32, l_33, l_45, l_47, l_48, l_57, l_59, l_84, l_95, l_96, l_100, l_112, l_119, l_120, l_127, l_140, l_700, l_840, l_999, l_4095, l_999999, ↓l_m1, ↓l_m2, ↓l_m3, ↓l_m4, ↓l_m10, ↓l_m10000, nI_leI, nI_ltI, nI_eq, mI_le, mI_lt, le_mI, lt_mI, mI_eq, eq_mI, nI_add, pk_mul, pk_sub, pk_div, nI_clamp, md_eq, Nat.zero_le, true_and, and_true, and_self, if_pos, if_neg, Option.bind_some, bnd_some, Sum.elim_inl, Sum.elim_inr, ↓reduceIte]
      · intro j hj
        by_cases h : j = i
        · subst h; exact upd_same _ _ _
        · show upd g i v j = v
          rw [upd_ne _ _ _ _ h]; exact hg j (by omega))
    (by
      intro q hI
      obtain ⟨x, g⟩ := q
      obtain ⟨rfl, hg⟩ := hI
      refine ⟨(nI n, g), ?_, hg⟩
      simp (disch := omega) only [fJ7_fill_53178_L5, l_0, l_1, l_2, l_3, l_4, l_5, l_6, l_7, l_8, l_9, l_10, l_11, l_12, l_13, l_14, l_15, l_16, l_17, l_18, l_19, l_20, l_21, l_24, l_28, l_31, l_32, l_33, l_45, l_47, l_48, l_57, l_59, l_84, l_95, l_96, l_100, l_112, l_119, l_120, l_127, l_140, l_700, l_840, l_999, l_4095, l_999999, ↓l_m1, ↓l_m2, ↓l_m3, ↓l_m4, ↓l_m10, ↓l_m10000, nI_leI, nI_ltI, nI_eq, mI_le, mI_lt, le_mI, lt_mI, mI_eq, eq_mI, nI_add, pk_mul, pk_sub, pk_div, nI_clamp, md_eq, Nat.zero_le, true_and, and_true, and_self, if_pos, if_neg, Option.bind_some, bnd_some, Sum.elim_inl, Sum.elim_inr, ↓reduceIte])
  refine ⟨r.2, ?_, h2⟩
  simp only [bnd_some, h1]
