/-! pillar, weight, strength, anew, mends, back, type, clear -/
theorem MR_pos {m : S1} {M : AM} (h : MR m M) : m.2.2.2.2.2 = nI M.n := h.2.1
theorem pillarAt_ok {τ : S7} {M : AM} (h : TR τ M) (hM : OK M) {c : Nat} (hc : c < 2 ^ 31) : (∃ p, p < M.n ∧ M.cl p = c ∧ fX7_pillarAt τ (nI c) = some (nI p)) ∨ ((∀ p, p < M.n → M.cl p ≠ c) ∧ fX7_pillarAt τ (nI c) = some mI) := by
  have hn := hM.1
  obtain ⟨r, e1, e2⟩ := loopX (step := fX7_pillarAt_L2 τ (nI c)) (fun i (q : Int32) => q = nI i ∧ ∀ p, p < i → M.cl p ≠ c) (fun q => (∃ x, q = .inl x ∧ ∀ p, p < M.n → M.cl p ≠ c) ∨ (∃ p, q = .inr (nI p) ∧ p < M.n ∧ M.cl p = c)) M.n (F := 5000) (by omega) (s0 := (0 : Int32)) ⟨rfl, fun p hp => absurd hp (by omega)⟩
    (by
      rintro i q hi ⟨rfl, hq⟩
      have hcl := hM.2.1 i hi
      have hci := h.2.1 i hi
      by_cases hz : M.cl i = c
      · refine Or.inr ⟨.inr (nI i), ?_, Or.inr ⟨i, rfl, hi, hz⟩⟩
        simp (disch := omega) only [fX7_pillarAt_L2, h.1, hci, l_0, l_1, l_2, l_3, l_4, l_5, l_6, l_7, l_8, l_9, l_10, l_11, l_12, l_13, l_14, l_15, l_16, l_17, l_18, l_19, l_20, l_21, l_24, l_28, l_31, l_32, l_33, l_45, l_47, l_48, l_57, l_59, l_84, l_95, l_96, l_100, l_112, l_119, l_120, l_127, l_140, l_700, l_840, l_999, l_4095, l_999999, ↓l_m1, ↓l_m2, ↓l_m3, ↓l_m4, ↓l_m10, ↓l_m10000, nI_leI, nI_ltI, nI_eq, mI_le, mI_lt, le_mI, lt_mI, mI_eq, eq_mI, nI_add, pk_mul, pk_sub, pk_div, nI_clamp, md_eq, Nat.zero_le, true_and, and_true, and_self, if_pos, if_neg, Option.bind_some, bnd_some, Sum.elim_inl, Sum.elim_inr, ↓reduceIte]
      · refine Or.inl ⟨nI (i + 1), ?_, rfl, fun p hp => ?_⟩
        · simp (disch := omega) only [fX7_pillarAt_L2, h.1, hci, l_0, l_1, l_2, l_3, l_4, l_5, l_6, l_7, l_8, l_9, l_10, l_11, l_12, l_13, l_14, l_15, l_16, l_17, l_18, l_19, l_20, l_21, l_24, l_28, l_31, l_32, l_33, l_45, l_47, l_48, l_57, l_59, l_84, l_95, l_96, l_100, l_112, l_119, l_120, l_127, l_140, l_700, l_840, l_999, l_4095, l_999999, ↓l_m1, ↓l_m2, ↓l_m3, ↓l_m4, ↓l_m10, ↓l_m10000, nI_leI, nI_ltI, nI_eq, mI_le, mI_lt, le_mI, lt_mI, mI_eq, eq_mI, nI_add, pk_mul, pk_sub, pk_div, nI_clamp, md_eq, Nat.zero_le, true_and, and_true, and_self, if_pos, if_neg, Option.bind_some, bnd_some, Sum.elim_inl, Sum.elim_inr, ↓reduceIte]
        · by_cases hpi : p = i
          · subst hpi; exact hz
          · exact hq p (by omega))
    (by
      rintro q ⟨rfl, hq⟩
      refine ⟨.inl (nI M.n), ?_, Or.inl ⟨_, rfl, hq⟩⟩
      simp (disch := omega) only [fX7_pillarAt_L2, h.1, l_0, l_1, l_2, l_3, l_4, l_5, l_6, l_7, l_8, l_9, l_10, l_11, l_12, l_13, l_14, l_15, l_16, l_17, l_18, l_19, l_20, l_21, l_24, l_28, l_31, l_32, l_33, l_45, l_47, l_48, l_57, l_59, l_84, l_95, l_96, l_100, l_112, l_119, l_120, l_127, l_140, l_700, l_840, l_999, l_4095, l_999999, ↓l_m1, ↓l_m2, ↓l_m3, ↓l_m4, ↓l_m10, ↓l_m10000, nI_leI, nI_ltI, nI_eq, mI_le, mI_lt, le_mI, lt_mI, mI_eq, eq_mI, nI_add, pk_mul, pk_sub, pk_div, nI_clamp, md_eq, Nat.zero_le, true_and, and_true, and_self, if_pos, if_neg, Option.bind_some, bnd_some, Sum.elim_inl, Sum.elim_inr, ↓reduceIte])
  have e1' : fX7_pillarAt τ (nI c) = Option.bind (some r) (fun z3 => Sum.elim (fun z3e => some (-1 : Int32)) (fun r => some r) z3) := by rw [← e1]; rfl
  rcases e2 with ⟨x, rfl, hq⟩ | ⟨p, rfl, hp, hq⟩
  · exact Or.inr ⟨hq, e1'⟩
  · exact Or.inl ⟨p, hp, hq, e1'⟩
def addAM (M : AM) (c s : Nat) : AM := mkAM (M.n + 1) (fun p => if p = M.n then c else M.cl p) (fun p => if p = M.n then s else M.sg p) (fun p => M.up p || decide (p = M.n)) M.wl M.wt
theorem OK_add {M : AM} (h : OK M) (hn : M.n < 12) {c s : Nat} (hc : c < 96) (hs : s ≤ 999) : OK (addAM M c s) := by
  refine ⟨show M.n + 1 ≤ 12 by omega, fun p (hp : p < M.n + 1) => ?_, fun p (hp : p < M.n + 1) => ?_, fun p (hp : M.n + 1 ≤ p) => ?_, h.2.2.2.2⟩
  · show (if p = M.n then c else M.cl p) < 96
    split
    · exact hc
    · exact h.2.1 p (by omega)
  · show (if p = M.n then s else M.sg p) ≤ 999
    split
    · exact hs
    · exact h.2.2.1 p (by omega)
  · show (M.up p || decide (p = M.n)) = false
    rw [h.2.2.2.1 p (by omega), decide_eq_false (by omega)]; rfl
theorem add_ok {m : S1} {M : AM} (h : MR m M) (hn : M.n < 12) {c s : Nat} (hc : c < 96) (hs : s ≤ 999) : ∃ m1, fX1_add m (nI c) (nI s) = some m1 ∧ MR m1 (addAM M c s) := by
  obtain ⟨hO, h1, h2, h3, h4, h5, h6⟩ := h
  refine ⟨(m.1, upd m.2.1 M.n (nI c), upd m.2.2.1 M.n (nI s), upd m.2.2.2.1 M.n (nI 1), m.2.2.2.2.1, nI (M.n + 1)), ?_, OK_add hO hn hc hs, rfl, fun p (hp : p < M.n + 1) => ?_, fun p (hp : p < M.n + 1) => ?_, fun p (hp : p < M.n + 1) => ?_, h5, h6⟩
  · simp (disch := omega) only [fX1_add, h1, l_0, l_1, l_2, l_3, l_4, l_5, l_6, l_7, l_8, l_9, l_10, l_11, l_12, l_13, l_14, l_15, l_16, l_17, l_18, l_19, l_20, l_21, l_24, l_28, l_31, l_32, l_33, l_45, l_47, l_48, l_57, l_59, l_84, l_95, l_96, l_100, l_112, l_119, l_120, l_127, l_140, l_700, l_840, l_999, l_4095, l_999999, ↓l_m1, ↓l_m2, ↓l_m3, ↓l_m4, ↓l_m10, ↓l_m10000, nI_leI, nI_ltI, nI_eq, mI_le, mI_lt, le_mI, lt_mI, mI_eq, eq_mI, nI_add, pk_mul, pk_sub, pk_div, nI_clamp, md_eq, Nat.zero_le, true_and, and_true, and_self, if_pos, if_neg, Option.bind_some, bnd_some, Sum.elim_inl, Sum.elim_inr, ↓reduceIte]
  · show upd _ M.n _ p = nI (if p = M.n then c else M.cl p)
    by_cases hpn : p = M.n
    · rw [if_pos hpn, hpn, upd_same]
    · rw [if_neg hpn, upd_ne _ _ _ _ hpn]; exact h2 p (by omega)
  · show upd _ M.n _ p = nI (if p = M.n then s else M.sg p)
    by_cases hpn : p = M.n
    · rw [if_pos hpn, hpn, upd_same]
    · rw [if_neg hpn, upd_ne _ _ _ _ hpn]; exact h3 p (by omega)
  · show upd _ M.n _ p = bI (M.up p || decide (p = M.n))
    by_cases hpn : p = M.n
    · rw [decide_eq_true hpn, Bool.or_true, hpn, upd_same]; rfl
    · rw [decide_eq_false hpn, Bool.or_false, upd_ne _ _ _ _ hpn]; exact h4 p (by omega)
theorem comesPillar_ok {τ : S7} {M : AM} (h : TR τ M) (hn : M.n < 12) (c s : Nat) : ∃ τ1, τ1 = (τ.1, τ.2.1, nI (M.n + 1), upd τ.2.2.2.1 M.n (nI c), upd τ.2.2.2.2.1 M.n (nI s), τ.2.2.2.2.2.1 ||| (nI 1 <<< (nI M.n &&& nI 31)), τ.2.2.2.2.2.2) ∧ fX7_comesPillar τ (nI c) (nI s) = some τ1 ∧ TR τ1 (addAM M c s) := by
  obtain ⟨h1, h2, h3, h4, h5, h6⟩ := h
  refine ⟨_, rfl, ?_, rfl, fun p (hp : p < M.n + 1) => ?_, fun p (hp : p < M.n + 1) => ?_, hS_or h4 (by omega), h5, h6⟩
  · simp (disch := omega) only [fX7_comesPillar, h1, l_0, l_1, l_2, l_3, l_4, l_5, l_6, l_7, l_8, l_9, l_10, l_11, l_12, l_13, l_14, l_15, l_16, l_17, l_18, l_19, l_20, l_21, l_24, l_28, l_31, l_32, l_33, l_45, l_47, l_48, l_57, l_59, l_84, l_95, l_96, l_100, l_112, l_119, l_120, l_127, l_140, l_700, l_840, l_999, l_4095, l_999999, ↓l_m1, ↓l_m2, ↓l_m3, ↓l_m4, ↓l_m10, ↓l_m10000, nI_leI, nI_ltI, nI_eq, mI_le, mI_lt, le_mI, lt_mI, mI_eq, eq_mI, nI_add, pk_mul, pk_sub, pk_div, nI_clamp, md_eq, Nat.zero_le, true_and, and_true, and_self, if_pos, if_neg, Option.bind_some, bnd_some, Sum.elim_inl, Sum.elim_inr, ↓reduceIte]
  · show upd _ M.n _ p = nI (if p = M.n then c else M.cl p)
    by_cases hpn : p = M.n
    · rw [if_pos hpn, hpn, upd_same]
    · rw [if_neg hpn, upd_ne _ _ _ _ hpn]; exact h2 p (by omega)
  · show upd _ M.n _ p = nI (if p = M.n then s else M.sg p)
    by_cases hpn : p = M.n
    · rw [if_pos hpn, hpn, upd_same]
    · rw [if_neg hpn, upd_ne _ _ _ _ hpn]; exact h3 p (by omega)
theorem E_pillar : E2 Rel fX6_pillar fX7_pillar := by
  intro σ τ x y h
  rcases wc x with ⟨c, hc, rfl⟩ | ⟨a1, a2⟩
  · rcases ws y with ⟨s, hs, rfl⟩ | ⟨a1, a2⟩
    · have hh := h
      obtain ⟨M, k, H, w, V, tl, tx, hB⟩ := hh
      have h1 := hB.1
      have h2 := hB.2.1
      have hn := h1.1.1
      obtain ⟨b, b1, b2⟩ := hasPillarOn_ok h1 c (by omega)
      rcases pillarAt_ok h2 h1.1 (c := c) (by omega) with ⟨p, hp, hpc, e1⟩ | ⟨hno, e1⟩
      · have hbt : b = true := b2.mpr ⟨p, hp, hpc⟩
        subst hbt
        obtain ⟨σ1, τ1, e3, e4, e5⟩ := no_ok h
        refine ⟨mI3, σ1, τ1, ?_, ?_, e5⟩
        · simp (disch := omega) only [fX6_pillar, wc6, ws6, b1, bI_t, e3, l_0, l_1, nI_eq, ↓reduceIte, bnd_some, or_true, true_or, if_pos, if_neg, ↓l_m1, ↓l_m2, ↓l_m3, ↓l_m4]
        · simp (disch := omega) only [fX7_pillar, wc7, wi7, l_999, e1, eq_mI, e4, l_0, l_1, nI_eq, ↓reduceIte, bnd_some, or_true, true_or, if_pos, if_neg, ↓l_m1, ↓l_m2, ↓l_m3, ↓l_m4]
      · have hbt : b = false := by
          cases b
          · rfl
          · obtain ⟨p, hp, hpc⟩ := b2.mp rfl
            exact absurd hpc (hno p hp)
        subst hbt
        by_cases h12 : M.n < 12
        · obtain ⟨s1, f, k1, k2, k3, k4⟩ := kept_ok hB
          obtain ⟨m1, e3, e4⟩ := add_ok h1 h12 hc hs
          obtain ⟨τ1, e5, e6, e7⟩ := comesPillar_ok (τ := (τ.1, τ.2.1, τ.2.2.1, τ.2.2.2.1, τ.2.2.2.2.1, τ.2.2.2.2.2.1, τ.2.2.2.2.2.2.1, nI (nC k), f, τ.2.2.2.2.2.2.2.2.2)) (M := M) h2 h12 c s
          have hm1 : m1.2.2.2.2.2 = nI (M.n + 1) := e4.2.1
          have ht1 : τ1.2.2.1 = nI (M.n + 1) := e7.1
          have e6' := e6
          simp only [h2.1] at e6'
          obtain ⟨-, -, h3, -, -, h6, h7, h8⟩ := hB
          refine ⟨nI M.n, (m1, σ.2.1, σ.2.2.1, s1, σ.2.2.2.2), τ1, ?_, ?_, addAM M c s, nC k, nH k H M, w, V, tl, tx, e4, e7, ?_, k3, ?_, h6, ?_, ?_⟩
          · simp (disch := omega) only [fX6_pillar, wc6, ws6, b1, bI_f, h1.2.1, l_12, nI_ltI, k1, e3, hm1, pk_sub, Nat.add_sub_cancel, l_0, l_1, nI_eq, ↓reduceIte, bnd_some, or_true, true_or, if_pos, if_neg, ↓l_m1, ↓l_m2, ↓l_m3, ↓l_m4]
          · simp (disch := omega) only [fX7_pillar, wc7, wi7, l_999, l_12, e1, h2.1, k2, e6', ht1, pk_sub, Nat.add_sub_cancel, l_0, l_1, nI_eq, ↓reduceIte, bnd_some, or_true, true_or, if_pos, if_neg, ↓l_m1, ↓l_m2, ↓l_m3, ↓l_m4]
          · rw [e5]; exact h3
          · rw [e5]; exact k4
          · rw [e5]; exact h7
          · rw [e5]; exact h8
        · obtain ⟨σ1, τ1, e3, e4, e5⟩ := full_ok h
          have hn12 : M.n = 12 := by omega
          refine ⟨mI4, σ1, τ1, ?_, ?_, e5⟩
          · simp (disch := omega) only [fX6_pillar, wc6, ws6, b1, bI_f, h1.2.1, l_12, nI_ltI, e3, l_0, l_1, nI_eq, ↓reduceIte, bnd_some, or_true, true_or, if_pos, if_neg, ↓l_m1, ↓l_m2, ↓l_m3, ↓l_m4]
          · simp (disch := omega) only [fX7_pillar, wc7, wi7, l_999, l_12, e1, h2.1, e4, l_0, l_1, nI_eq, ↓reduceIte, bnd_some, or_true, true_or, if_pos, if_neg, ↓l_m1, ↓l_m2, ↓l_m3, ↓l_m4]
    · obtain ⟨σ1, τ1, e3, e4, e5⟩ := bad_ok h
      refine ⟨mI2, σ1, τ1, ?_, ?_, e5⟩
      · simp (disch := omega) only [fX6_pillar, wc6, a1, e3, l_0, l_1, nI_eq, ↓reduceIte, bnd_some, or_true, true_or, if_pos, if_neg, ↓l_m1, ↓l_m2, ↓l_m3, ↓l_m4]
      · simp (disch := omega) only [fX7_pillar, wc7, l_999, a2, e4, l_0, l_1, nI_eq, ↓reduceIte, bnd_some, or_true, true_or, if_pos, if_neg, ↓l_m1, ↓l_m2, ↓l_m3, ↓l_m4]
  · obtain ⟨σ1, τ1, e3, e4, e5⟩ := bad_ok h
    refine ⟨mI2, σ1, τ1, ?_, ?_, e5⟩
    · simp (disch := omega) only [fX6_pillar, a1, e3, l_0, l_1, nI_eq, ↓reduceIte, bnd_some, or_true, true_or, if_pos, if_neg, ↓l_m1, ↓l_m2, ↓l_m3, ↓l_m4]
    · simp (disch := omega) only [fX7_pillar, a2, e4, l_0, l_1, nI_eq, ↓reduceIte, bnd_some, or_true, true_or, if_pos, if_neg, ↓l_m1, ↓l_m2, ↓l_m3, ↓l_m4]
theorem E_weight : E2 Rel fX6_weight fX7_weight := by
  intro σ τ x y h
  rcases wc x with ⟨c, hc, rfl⟩ | ⟨a1, a2⟩
  · rcases wi y (k := 9) (by omega) with ⟨v, hv, rfl⟩ | ⟨a1, a2⟩
    · obtain ⟨M, k, H, w, V, tl, tx, hB⟩ := h
      obtain ⟨s1, f, k1, k2, k3, k4⟩ := kept_ok hB
      obtain ⟨h1, h2, h3, -, -, h6, h7, h8⟩ := hB
      refine ⟨nI (M.wt c), ((upd σ.1.1 c (nI v), σ.1.2), σ.2.1, σ.2.2.1, s1, σ.2.2.2.2), (τ.1, upd τ.2.1 c (nI v), τ.2.2.1, τ.2.2.2.1, τ.2.2.2.2.1, τ.2.2.2.2.2.1, τ.2.2.2.2.2.2.1, nI (nC k), f, τ.2.2.2.2.2.2.2.2.2), ?_, ?_, mkAM M.n M.cl M.sg M.up M.wl (fun j => if j = c then v else M.wt j), nC k, nH k H M, w, V, tl, tx, ⟨⟨h1.1.1, h1.1.2.1, h1.1.2.2.1, h1.1.2.2.2.1, h1.1.2.2.2.2.1, fun j hj => ?_⟩, h1.2.1, h1.2.2.1, h1.2.2.2.1, h1.2.2.2.2.1, h1.2.2.2.2.2.1, fun j hj => ?_⟩, ⟨h2.1, h2.2.1, h2.2.2.1, h2.2.2.2.1, h2.2.2.2.2.1, fun j hj => ?_⟩, h3, k3, k4, h6, h7, h8⟩
      · have := h1.2.2.2.2.2.2 c hc
        simp (disch := omega) only [fX6_weight, wc6, wi6, l_9, k1, this, nI_leI, nI_clamp, Nat.zero_le, true_and, l_0, l_1, nI_eq, ↓reduceIte, bnd_some, or_true, true_or, if_pos, if_neg, ↓l_m1, ↓l_m2, ↓l_m3, ↓l_m4]
      · have := h2.2.2.2.2.2 c hc
        simp (disch := omega) only [fX7_weight, wc7, wi7, l_9, k2, this, nI_leI, nI_clamp, Nat.zero_le, true_and, l_0, l_1, nI_eq, ↓reduceIte, bnd_some, or_true, true_or, if_pos, if_neg, ↓l_m1, ↓l_m2, ↓l_m3, ↓l_m4]
      · show (if j = c then v else M.wt j) ≤ 9
        split
        · exact hv
        · exact h1.1.2.2.2.2.2 j hj
      · show upd _ c _ j = nI (if j = c then v else M.wt j)
        by_cases hjc : j = c
        · rw [if_pos hjc, hjc, upd_same]
        · rw [if_neg hjc, upd_ne _ _ _ _ hjc]; exact h1.2.2.2.2.2.2 j hj
      · show upd _ c _ j = nI (if j = c then v else M.wt j)
        by_cases hjc : j = c
        · rw [if_pos hjc, hjc, upd_same]
        · rw [if_neg hjc, upd_ne _ _ _ _ hjc]; exact h2.2.2.2.2.2 j hj
    · obtain ⟨σ1, τ1, e3, e4, e5⟩ := bad_ok h
      refine ⟨mI2, σ1, τ1, ?_, ?_, e5⟩
      · simp (disch := omega) only [fX6_weight, wc6, l_9, a1, e3, l_0, l_1, nI_eq, ↓reduceIte, bnd_some, or_true, true_or, if_pos, if_neg, ↓l_m1, ↓l_m2, ↓l_m3, ↓l_m4]
      · simp (disch := omega) only [fX7_weight, wc7, l_9, a2, e4, l_0, l_1, nI_eq, ↓reduceIte, bnd_some, or_true, true_or, if_pos, if_neg, ↓l_m1, ↓l_m2, ↓l_m3, ↓l_m4]
  · obtain ⟨σ1, τ1, e3, e4, e5⟩ := bad_ok h
    refine ⟨mI2, σ1, τ1, ?_, ?_, e5⟩
    · simp (disch := omega) only [fX6_weight, a1, e3, l_0, l_1, nI_eq, ↓reduceIte, bnd_some, or_true, true_or, if_pos, if_neg, ↓l_m1, ↓l_m2, ↓l_m3, ↓l_m4]
    · simp (disch := omega) only [fX7_weight, a2, e4, l_0, l_1, nI_eq, ↓reduceIte, bnd_some, or_true, true_or, if_pos, if_neg, ↓l_m1, ↓l_m2, ↓l_m3, ↓l_m4]
theorem E_strength : E2 Rel fX6_strength fX7_strength := by
  intro σ τ x y h
  have hh := h
  obtain ⟨M, k, H, w, V, tl, tx, hB⟩ := hh
  rcases wp hB.1 hB.2.1 x with ⟨p, hp, rfl, p1, p2⟩ | ⟨a1, a2⟩
  · rcases ws y with ⟨s, hs, rfl⟩ | ⟨a1, a2⟩
    · obtain ⟨s1, f, k1, k2, k3, k4⟩ := kept_ok hB
      obtain ⟨h1, h2, h3, -, -, h6, h7, h8⟩ := hB
      have hn := h1.1.1
      refine ⟨nI (M.sg p), ((σ.1.1, σ.1.2.1, upd σ.1.2.2.1 p (nI s), σ.1.2.2.2), σ.2.1, σ.2.2.1, s1, σ.2.2.2.2), (τ.1, τ.2.1, τ.2.2.1, τ.2.2.2.1, upd τ.2.2.2.2.1 p (nI s), τ.2.2.2.2.2.1, τ.2.2.2.2.2.2.1, nI (nC k), f, τ.2.2.2.2.2.2.2.2.2), ?_, ?_, mkAM M.n M.cl (fun j => if j = p then s else M.sg j) M.up M.wl M.wt, nC k, nH k H M, w, V, tl, tx, ⟨⟨h1.1.1, h1.1.2.1, fun j hj => ?_, h1.1.2.2.2⟩, h1.2.1, h1.2.2.1, fun j hj => ?_, h1.2.2.2.2⟩, ⟨h2.1, h2.2.1, fun j hj => ?_, h2.2.2.2⟩, h3, k3, k4, h6, h7, h8⟩
      · have := h1.2.2.2.1 p hp
        simp (disch := omega) only [fX6_strength, p1, ws6, k1, this, nI_leI, nI_clamp, Nat.zero_le, true_and, l_0, l_1, nI_eq, ↓reduceIte, bnd_some, or_true, true_or, if_pos, if_neg, ↓l_m1, ↓l_m2, ↓l_m3, ↓l_m4]
      · have := h2.2.2.1 p hp
        simp (disch := omega) only [fX7_strength, p2, wi7, l_999, k2, this, nI_leI, nI_clamp, Nat.zero_le, true_and, l_0, l_1, nI_eq, ↓reduceIte, bnd_some, or_true, true_or, if_pos, if_neg, ↓l_m1, ↓l_m2, ↓l_m3, ↓l_m4]
      · show (if j = p then s else M.sg j) ≤ 999
        split
        · exact hs
        · exact h1.1.2.2.1 j hj
      · show upd _ p _ j = nI (if j = p then s else M.sg j)
        by_cases hjc : j = p
        · rw [if_pos hjc, hjc, upd_same]
        · rw [if_neg hjc, upd_ne _ _ _ _ hjc]; exact h1.2.2.2.1 j hj
      · show upd _ p _ j = nI (if j = p then s else M.sg j)
        by_cases hjc : j = p
        · rw [if_pos hjc, hjc, upd_same]
        · rw [if_neg hjc, upd_ne _ _ _ _ hjc]; exact h2.2.2.1 j hj
    · obtain ⟨σ1, τ1, e3, e4, e5⟩ := bad_ok h
      refine ⟨mI2, σ1, τ1, ?_, ?_, e5⟩
      · simp (disch := omega) only [fX6_strength, p1, a1, e3, l_0, l_1, nI_eq, ↓reduceIte, bnd_some, or_true, true_or, if_pos, if_neg, ↓l_m1, ↓l_m2, ↓l_m3, ↓l_m4]
      · simp (disch := omega) only [fX7_strength, p2, l_999, a2, e4, l_0, l_1, nI_eq, ↓reduceIte, bnd_some, or_true, true_or, if_pos, if_neg, ↓l_m1, ↓l_m2, ↓l_m3, ↓l_m4]
  · obtain ⟨σ1, τ1, e3, e4, e5⟩ := bad_ok h
    refine ⟨mI2, σ1, τ1, ?_, ?_, e5⟩
    · simp (disch := omega) only [fX6_strength, a1, e3, l_0, l_1, nI_eq, ↓reduceIte, bnd_some, or_true, true_or, if_pos, if_neg, ↓l_m1, ↓l_m2, ↓l_m3, ↓l_m4]
    · simp (disch := omega) only [fX7_strength, a2, e4, l_0, l_1, nI_eq, ↓reduceIte, bnd_some, or_true, true_or, if_pos, if_neg, ↓l_m1, ↓l_m2, ↓l_m3, ↓l_m4]
