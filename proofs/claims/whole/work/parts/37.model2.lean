def GR (τ : S7) (M : AM) (S : Nat → Bool) : Prop := hS τ.2.2.2.2.2.2.1 M.wl ∧ (∀ p, p < 13 → S p = true → τ.2.2.2.1 p = nI (M.cl p) ∧ M.cl p < 96) ∧ (∀ p, p < 13 → S p = true → τ.2.2.2.2.1 p = nI (M.sg p) ∧ M.sg p ≤ 999) ∧ (∀ c, c < 96 → τ.2.1 c = nI (M.wt c) ∧ M.wt c ≤ 9) ∧ (∀ p, 13 ≤ p → S p = false)
def SM (τ τ1 : S7) : Prop := ∃ f g a b, τ1 = (τ.1, τ.2.1, τ.2.2.1, τ.2.2.2.1, τ.2.2.2.2.1, τ.2.2.2.2.2.1, τ.2.2.2.2.2.2.1, τ.2.2.2.2.2.2.2.1, τ.2.2.2.2.2.2.2.2.1, f, g, a, b, τ.2.2.2.2.2.2.2.2.2.2.2.2.2)
theorem SM_rfl (τ : S7) : SM τ τ := ⟨τ.2.2.2.2.2.2.2.2.2.1, τ.2.2.2.2.2.2.2.2.2.2.1, τ.2.2.2.2.2.2.2.2.2.2.2.1, τ.2.2.2.2.2.2.2.2.2.2.2.2.1, rfl⟩
theorem SM_tr {τ τ1 τ2 : S7} (h : SM τ τ1) (h2 : SM τ1 τ2) : SM τ τ2 := by
  obtain ⟨f, g, a, b, rfl⟩ := h
  obtain ⟨f2, g2, a2, b2, rfl⟩ := h2
  exact ⟨f2, g2, a2, b2, rfl⟩
theorem GR_SM {τ τ1 : S7} {M : AM} {S : Nat → Bool} (h : GR τ M S) (h2 : SM τ τ1) : GR τ1 M S := by
  obtain ⟨f, g, a, b, rfl⟩ := h2
  exact h
theorem GR_sub {τ : S7} {M : AM} {S T : Nat → Bool} (h : GR τ M S) (h2 : ∀ p, T p = true → S p = true) : GR τ M T :=
  ⟨h.1, fun p hp q => h.2.1 p hp (h2 p q), fun p hp q => h.2.2.1 p hp (h2 p q), h.2.2.2.1, fun p hp => by
    cases q : T p
    · rfl
    · have := h2 p q; rw [h.2.2.2.2 p hp] at this; cases this⟩
/-- what is borne, as the model tells it -/
def LdR (τ : S7) (M : AM) (S : Nat → Bool) : Prop := (∀ p, p < 14 → τ.2.2.2.2.2.2.2.2.2.2.2.1 p = nI (load M S p)) ∧ (∀ p, p < 14 → τ.2.2.2.2.2.2.2.2.2.2.2.2.1 p = nI (rest M S p))
theorem br_le (cl : Nat → Nat) (wl S : Nat → Bool) (c : Nat) : br cl wl S c ≤ 13 := by
  unfold br
  rcases bsz_best 999 cl wl S c 13 with h | h <;> omega
theorem bears_ok {τ : S7} {M : AM} {S : Nat → Bool} {x : Int32} (h : GR τ M S) (hx : hS x S) : ∃ τ1, fX7_bears τ x = some τ1 ∧ SM τ τ1 ∧ LdR τ1 M S ∧ RmR τ1 M.wl := by
  obtain ⟨h1, h2, h3, h4, h5⟩ := h
  obtain ⟨f, g, e1, hR⟩ := setRooms_ok h1
  generalize hτ1 : (τ.1, τ.2.1, τ.2.2.1, τ.2.2.2.1, τ.2.2.2.2.1, τ.2.2.2.2.2.1, τ.2.2.2.2.2.2.1, τ.2.2.2.2.2.2.2.1, τ.2.2.2.2.2.2.2.2.1, f, g, τ.2.2.2.2.2.2.2.2.2.2.2) = τ1 at e1 hR
  have k1 : τ1.2.2.2.1 = τ.2.2.2.1 := by rw [← hτ1]
  have k2 : τ1.2.1 = τ.2.1 := by rw [← hτ1]
  obtain ⟨z, e2, e3, e4⟩ := loopI (step := fX7_bears_L6) (fun i (q : Int32 × (Nat → Int32) × (Nat → Int32)) => q.1 = nI i ∧ (∀ p, p < i → q.2.1 p = nI 0) ∧ (∀ p, p < i → q.2.2 p = nI 0)) (fun q => (∀ p, p < 14 → q.2.1 p = nI 0) ∧ (∀ p, p < 14 → q.2.2 p = nI 0)) 14 (F := 5000) (by omega) (s0 := ((0 : Int32), τ1.2.2.2.2.2.2.2.2.2.2.2.1, τ1.2.2.2.2.2.2.2.2.2.2.2.2.1)) ⟨rfl, fun r hr => absurd hr (by omega), fun r hr => absurd hr (by omega)⟩
    (by
      rintro i ⟨x, u, a⟩ hi ⟨rfl, hu, ha⟩
      refine ⟨(nI (i + 1), upd u i (nI 0), upd a i (nI 0)), ?_, rfl, fun r hr => ?_, fun r hr => ?_⟩
      · simp (disch := omega) only [fX7_bears_L6, l_0, l_1, l_2, l_3, l_4, l_5, l_6, l_7, l_8, l_9, l_10, l_11, l_12, l_13, l_14, l_15, l_16, l_17, l_18, l_19, l_20, l_21, l_24, l_28, l_31, l_32, l_33, l_45, l_47, l_48, l_57, l_59, l_84, l_95, l_96, l_100, l_112, l_119, l_120, l_127, l_140, l_700, l_840, l_999, l_4095, l_999999, ↓l_m1, ↓l_m2, ↓l_m3, ↓l_m4, ↓l_m10, ↓l_m10000, nI_leI, nI_ltI, nI_eq, mI_le, mI_lt, le_mI, lt_mI, mI_eq, eq_mI, nI_add, pk_mul, pk_sub, pk_div, nI_clamp, md_eq, Nat.zero_le, true_and, and_true, and_self, if_pos, if_neg, Option.bind_some, bnd_some, Sum.elim_inl, Sum.elim_inr, ↓reduceIte]
      · show upd u i _ r = _
        by_cases hri : r = i
        · subst hri; exact upd_same _ _ _
        · rw [upd_ne _ _ _ _ hri]; exact hu r (by omega)
      · show upd a i _ r = _
        by_cases hri : r = i
        · subst hri; exact upd_same _ _ _
        · rw [upd_ne _ _ _ _ hri]; exact ha r (by omega))
    (by
      rintro ⟨x, u, a⟩ ⟨rfl, hu, ha⟩
      refine ⟨(nI 14, u, a), ?_, hu, ha⟩
      simp (disch := omega) only [fX7_bears_L6, l_0, l_1, l_2, l_3, l_4, l_5, l_6, l_7, l_8, l_9, l_10, l_11, l_12, l_13, l_14, l_15, l_16, l_17, l_18, l_19, l_20, l_21, l_24, l_28, l_31, l_32, l_33, l_45, l_47, l_48, l_57, l_59, l_84, l_95, l_96, l_100, l_112, l_119, l_120, l_127, l_140, l_700, l_840, l_999, l_4095, l_999999, ↓l_m1, ↓l_m2, ↓l_m3, ↓l_m4, ↓l_m10, ↓l_m10000, nI_leI, nI_ltI, nI_eq, mI_le, mI_lt, le_mI, lt_mI, mI_eq, eq_mI, nI_add, pk_mul, pk_sub, pk_div, nI_clamp, md_eq, Nat.zero_le, true_and, and_true, and_self, if_pos, if_neg, Option.bind_some, bnd_some, Sum.elim_inl, Sum.elim_inr, ↓reduceIte])
  obtain ⟨y, e5, e6, e7⟩ := loopI (step := fX7_bears_L34 x τ1) (fun i (q : Int32 × (Nat → Int32) × (Nat → Int32)) => q.1 = nI i ∧ (∀ p, p < 14 → q.2.1 p = nI (ldN M.wt (br M.cl M.wl S) p i)) ∧ (∀ p, p < 14 → q.2.2 p = nI (ldN (fun _ => 1) (br M.cl M.wl S) p i))) (fun (q : Int32 × (Nat → Int32) × (Nat → Int32)) => (∀ p, p < 14 → q.2.1 p = nI (load M S p)) ∧ (∀ p, p < 14 → q.2.2 p = nI (rest M S p))) 96 (F := 5000) (by omega) (s0 := ((0 : Int32), z.2.1, z.2.2)) ⟨rfl, e3, e4⟩
    (by
      rintro i ⟨x0, u, a⟩ hi ⟨rfl, hu, ha⟩
      have hbi := bearer_ok (τ := (τ1.1, τ1.2.1, τ1.2.2.1, τ1.2.2.2.1, τ1.2.2.2.2.1, τ1.2.2.2.2.2.1, τ1.2.2.2.2.2.2.1, τ1.2.2.2.2.2.2.2.1, τ1.2.2.2.2.2.2.2.2.1, τ1.2.2.2.2.2.2.2.2.2.1, τ1.2.2.2.2.2.2.2.2.2.2.1, u, a, τ1.2.2.2.2.2.2.2.2.2.2.2.2.2)) (wl := M.wl) (S := S) (cl := M.cl) hR hx (by show ∀ p, p < 13 → S p = true → τ1.2.2.2.1 p = _ ∧ _; rw [k1]; exact h2) hi
      have hwi : τ1.2.1 i = nI (M.wt i) := by rw [k2]; exact (h4 i hi).1
      have hble := br_le M.cl M.wl S i
      generalize hbe : br M.cl M.wl S i = k at *
      have hup : u k = _ := hu k (by omega)
      have hap : a k = _ := ha k (by omega)
      refine ⟨(nI (i + 1), upd u k (nI (ldN M.wt (br M.cl M.wl S) k i + M.wt i)), upd a k (nI (ldN (fun _ => 1) (br M.cl M.wl S) k i + 1))), ?_, rfl, fun p hp => ?_, fun p hp => ?_⟩
      · by_cases hk : k = 13
        · subst hk
          simp (disch := omega) only [fX7_bears_L34, hbi, brI, hup, hap, hwi, l_0, l_1, l_2, l_3, l_4, l_5, l_6, l_7, l_8, l_9, l_10, l_11, l_12, l_13, l_14, l_15, l_16, l_17, l_18, l_19, l_20, l_21, l_24, l_28, l_31, l_32, l_33, l_45, l_47, l_48, l_57, l_59, l_84, l_95, l_96, l_100, l_112, l_119, l_120, l_127, l_140, l_700, l_840, l_999, l_4095, l_999999, ↓l_m1, ↓l_m2, ↓l_m3, ↓l_m4, ↓l_m10, ↓l_m10000, nI_leI, nI_ltI, nI_eq, mI_le, mI_lt, le_mI, lt_mI, mI_eq, eq_mI, nI_add, pk_mul, pk_sub, pk_div, nI_clamp, md_eq, Nat.zero_le, true_and, and_true, and_self, if_pos, if_neg, Option.bind_some, bnd_some, Sum.elim_inl, Sum.elim_inr, ↓reduceIte]
        · simp (disch := omega) only [fX7_bears_L34, hbi, brI, hup, hap, hwi, l_0, l_1, l_2, l_3, l_4, l_5, l_6, l_7, l_8, l_9, l_10, l_11, l_12, l_13, l_14, l_15, l_16, l_17, l_18, l_19, l_20, l_21, l_24, l_28, l_31, l_32, l_33, l_45, l_47, l_48, l_57, l_59, l_84, l_95, l_96, l_100, l_112, l_119, l_120, l_127, l_140, l_700, l_840, l_999, l_4095, l_999999, ↓l_m1, ↓l_m2, ↓l_m3, ↓l_m4, ↓l_m10, ↓l_m10000, nI_leI, nI_ltI, nI_eq, mI_le, mI_lt, le_mI, lt_mI, mI_eq, eq_mI, nI_add, pk_mul, pk_sub, pk_div, nI_clamp, md_eq, Nat.zero_le, true_and, and_true, and_self, if_pos, if_neg, Option.bind_some, bnd_some, Sum.elim_inl, Sum.elim_inr, ↓reduceIte]
      · show upd u k _ p = _
        by_cases hpk : p = k
        · subst hpk
          rw [upd_same]
          simp only [ldN, hbe, if_true]
        · rw [upd_ne _ _ _ _ hpk]
          simp only [ldN, hbe, if_neg (fun q => hpk (Eq.symm q)), Nat.add_zero]
          exact hu p hp
      · show upd a k _ p = _
        by_cases hpk : p = k
        · subst hpk
          rw [upd_same]
          simp only [ldN, hbe, if_true]
        · rw [upd_ne _ _ _ _ hpk]
          simp only [ldN, hbe, if_neg (fun q => hpk (Eq.symm q)), Nat.add_zero]
          exact ha p hp)
    (by
      rintro ⟨x0, u, a⟩ ⟨rfl, hu, ha⟩
      refine ⟨(nI 96, u, a), ?_, hu, ha⟩
      simp (disch := omega) only [fX7_bears_L34, l_0, l_1, l_2, l_3, l_4, l_5, l_6, l_7, l_8, l_9, l_10, l_11, l_12, l_13, l_14, l_15, l_16, l_17, l_18, l_19, l_20, l_21, l_24, l_28, l_31, l_32, l_33, l_45, l_47, l_48, l_57, l_59, l_84, l_95, l_96, l_100, l_112, l_119, l_120, l_127, l_140, l_700, l_840, l_999, l_4095, l_999999, ↓l_m1, ↓l_m2, ↓l_m3, ↓l_m4, ↓l_m10, ↓l_m10000, nI_leI, nI_ltI, nI_eq, mI_le, mI_lt, le_mI, lt_mI, mI_eq, eq_mI, nI_add, pk_mul, pk_sub, pk_div, nI_clamp, md_eq, Nat.zero_le, true_and, and_true, and_self, if_pos, if_neg, Option.bind_some, bnd_some, Sum.elim_inl, Sum.elim_inr, ↓reduceIte])
  refine ⟨(τ1.1, τ1.2.1, τ1.2.2.1, τ1.2.2.2.1, τ1.2.2.2.2.1, τ1.2.2.2.2.2.1, τ1.2.2.2.2.2.2.1, τ1.2.2.2.2.2.2.2.1, τ1.2.2.2.2.2.2.2.2.1, τ1.2.2.2.2.2.2.2.2.2.1, τ1.2.2.2.2.2.2.2.2.2.2.1, y.2.1, y.2.2, τ1.2.2.2.2.2.2.2.2.2.2.2.2.2), ?_, ?_, ⟨e6, e7⟩, hR⟩
  · simp only [fX7_bears, e1, bnd_some, e2, e5]
  · rw [← hτ1]
    exact ⟨f, g, y.2.1, y.2.2, rfl⟩
theorem wtsum {M : AM} (h : ∀ c, c < 96 → M.wt c ≤ 9) (S : Nat → Bool) (p : Nat) : load M S p ≤ 864 := ldN_le (w := M.wt) (b := br M.cl M.wl S) (p := p) 96 h
theorem or_nI0 (x : Int32) : x ||| nI 0 = x := by
  apply b_ext
  intro i hi
  rw [b_or, show bt (nI 0) i = false from b_0 i, Bool.or_false]
theorem tooMuch_ok {τ : S7} {M : AM} {S : Nat → Bool} {x : Int32} (h : GR τ M S) (hx : hS x S) : ∃ y τ1, fX7_tooMuch τ x = some (y, τ1) ∧ SM τ τ1 ∧ LdR τ1 M S ∧ RmR τ1 M.wl ∧ hS y (tm M S) := by
  obtain ⟨τ1, e1, e2, e3, eR⟩ := bears_ok h hx
  have hg := GR_SM h e2
  obtain ⟨h1, h2, h3, h4, h5⟩ := hg
  obtain ⟨z, e4, e5⟩ := loopI (step := fX7_tooMuch_L9 x τ1) (fun i (q : Int32 × Int32) => q.2 = nI i ∧ hS q.1 (fun p => tm M S p && decide (p < i))) (fun q => hS q.1 (tm M S)) 13 (F := 5000) (by omega) (s0 := ((0 : Int32), (0 : Int32))) ⟨rfl, fun i _ => by
      show bt 0 i = (tm M S i && decide (i < 0))
      rw [b_0, decide_eq_false (by omega), Bool.and_false]⟩
    (by
      rintro i ⟨y, x0⟩ hi ⟨rfl, hy⟩
      have hbit := hx i (by omega)
      have hl := e3.1 i (by omega)
      have hlt := wtsum (fun c hc => (h4 c hc).2) S i
      have hstep : ∀ b : Bool, b = tm M S i → ∀ p, (tm M S p && decide (p < i)) = true ∨ (p = i ∧ b = true) ↔ (tm M S p && decide (p < i + 1)) = true := by
        intro b hb p
        by_cases hp : p = i
        · subst hp
          simp [hb]
        · have e1 : decide (p < i + 1) = decide (p < i) := by
            by_cases hq : p < i
            · rw [decide_eq_true hq, decide_eq_true (by omega)]
            · rw [decide_eq_false hq, decide_eq_false (by omega)]
          rw [e1]
          constructor
          · rintro (q | q)
            · exact q
            · exact absurd q.1 hp
          · exact Or.inl
      have hcl : tm M S i = false → hS y (fun p => tm M S p && decide (p < i + 1)) := fun hf => hS_cong hy (fun p hp => by
        by_cases hpi : p = i
        · subst hpi; rw [hf, Bool.false_and, Bool.false_and]
        · by_cases hq : p < i
          · rw [decide_eq_true hq, decide_eq_true (by omega)]
          · rw [decide_eq_false hq, decide_eq_false (by omega)])
      cases hu : S i
      · refine ⟨(y, nI (i + 1)), ?_, rfl, hcl (by unfold tm; rw [hu, Bool.false_and])⟩
        simp (disch := omega) only [fX7_tooMuch_L9, b_one, hbit, hu, bI_f, or_nI0, l_0, l_1, l_2, l_3, l_4, l_5, l_6, l_7, l_8, l_9, l_10, l_11, l_12, l_13, l_14, l_15, l_16, l_17, l_18, l_19, l_20, l_21, l_24, l_28, l_31, l_32, l_33, l_45, l_47, l_48, l_57, l_59, l_84, l_95, l_96, l_100, l_112, l_119, l_120, l_127, l_140, l_700, l_840, l_999, l_4095, l_999999, ↓l_m1, ↓l_m2, ↓l_m3, ↓l_m4, ↓l_m10, ↓l_m10000, nI_leI, nI_ltI, nI_eq, mI_le, mI_lt, le_mI, lt_mI, mI_eq, eq_mI, nI_add, pk_mul, pk_sub, pk_div, nI_clamp, md_eq, Nat.zero_le, true_and, and_true, and_self, if_pos, if_neg, Option.bind_some, bnd_some, Sum.elim_inl, Sum.elim_inr, ↓reduceIte]
      · obtain ⟨hs1, hs2⟩ := h3 i hi hu
        by_cases hgt : M.sg i < load M S i
        · refine ⟨(y ||| (nI 1 <<< (nI i &&& nI 31)), nI (i + 1)), ?_, rfl, hS_cong (hS_or hy (j := i) (by omega)) (fun p hp => ?_)⟩
          · simp (disch := omega) only [fX7_tooMuch_L9, b_one, hbit, hu, bI_t, hl, hs1, l_0, l_1, l_2, l_3, l_4, l_5, l_6, l_7, l_8, l_9, l_10, l_11, l_12, l_13, l_14, l_15, l_16, l_17, l_18, l_19, l_20, l_21, l_24, l_28, l_31, l_32, l_33, l_45, l_47, l_48, l_57, l_59, l_84, l_95, l_96, l_100, l_112, l_119, l_120, l_127, l_140, l_700, l_840, l_999, l_4095, l_999999, ↓l_m1, ↓l_m2, ↓l_m3, ↓l_m4, ↓l_m10, ↓l_m10000, nI_leI, nI_ltI, nI_eq, mI_le, mI_lt, le_mI, lt_mI, mI_eq, eq_mI, nI_add, pk_mul, pk_sub, pk_div, nI_clamp, md_eq, Nat.zero_le, true_and, and_true, and_self, if_pos, if_neg, Option.bind_some, bnd_some, Sum.elim_inl, Sum.elim_inr, ↓reduceIte]
          · by_cases hpi : p = i
            · subst hpi
              have : tm M S p = true := by unfold tm; rw [hu, decide_eq_true hgt]; rfl
              rw [this, decide_eq_true (show p < p + 1 by omega), decide_eq_true rfl, Bool.or_true]; rfl
            · rw [decide_eq_false hpi, Bool.or_false]
              by_cases hq : p < i
              · rw [decide_eq_true hq, decide_eq_true (by omega)]
              · rw [decide_eq_false hq, decide_eq_false (by omega)]
        · refine ⟨(y, nI (i + 1)), ?_, rfl, hcl (by unfold tm; rw [decide_eq_false hgt, Bool.and_false])⟩
          simp (disch := omega) only [fX7_tooMuch_L9, b_one, hbit, hu, bI_t, hl, hs1, or_nI0, l_0, l_1, l_2, l_3, l_4, l_5, l_6, l_7, l_8, l_9, l_10, l_11, l_12, l_13, l_14, l_15, l_16, l_17, l_18, l_19, l_20, l_21, l_24, l_28, l_31, l_32, l_33, l_45, l_47, l_48, l_57, l_59, l_84, l_95, l_96, l_100, l_112, l_119, l_120, l_127, l_140, l_700, l_840, l_999, l_4095, l_999999, ↓l_m1, ↓l_m2, ↓l_m3, ↓l_m4, ↓l_m10, ↓l_m10000, nI_leI, nI_ltI, nI_eq, mI_le, mI_lt, le_mI, lt_mI, mI_eq, eq_mI, nI_add, pk_mul, pk_sub, pk_div, nI_clamp, md_eq, Nat.zero_le, true_and, and_true, and_self, if_pos, if_neg, Option.bind_some, bnd_some, Sum.elim_inl, Sum.elim_inr, ↓reduceIte])
    (by
      rintro ⟨y, x0⟩ ⟨rfl, hy⟩
      refine ⟨(y, nI 13), ?_, hS_cong hy (fun p hp => ?_)⟩
      · simp (disch := omega) only [fX7_tooMuch_L9, l_0, l_1, l_2, l_3, l_4, l_5, l_6, l_7, l_8, l_9, l_10, l_11, l_12, l_13, l_14, l_15, l_16, l_17, l_18, l_19, l_20, l_21, l_24, l_28, l_31, l_32, l_33, l_45, l_47, l_48, l_57, l_59, l_84, l_95, l_96, l_100, l_112, l_119, l_120, l_127, l_140, l_700, l_840, l_999, l_4095, l_999999, ↓l_m1, ↓l_m2, ↓l_m3, ↓l_m4, ↓l_m10, ↓l_m10000, nI_leI, nI_ltI, nI_eq, mI_le, mI_lt, le_mI, lt_mI, mI_eq, eq_mI, nI_add, pk_mul, pk_sub, pk_div, nI_clamp, md_eq, Nat.zero_le, true_and, and_true, and_self, if_pos, if_neg, Option.bind_some, bnd_some, Sum.elim_inl, Sum.elim_inr, ↓reduceIte]
      · by_cases hq : p < 13
        · rw [decide_eq_true hq, Bool.and_true]
        · have : tm M S p = false := by unfold tm; rw [h5 p (by omega), Bool.false_and]
          rw [this, Bool.false_and])
  exact ⟨z.1, τ1, by simp only [fX7_tooMuch, e1, bnd_some, e4], e2, e3, eR, e5⟩
