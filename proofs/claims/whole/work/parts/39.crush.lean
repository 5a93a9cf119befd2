/-- the run as it went: w waves, of which V tells who was in each -/
def RunR (r : S2) (w : Nat) (V : Nat → Nat → Bool) : Prop := r.2 = nI w ∧ ∀ p, p < 12 → (∀ k, k < w → V k p = true → r.1 p = nI (k + 1)) ∧ ((∀ k, k < w → V k p = false) → r.1 p = mI)
theorem forget_ok (r : S2) : ∃ r1, fX2_forget r = some r1 ∧ ∀ V, RunR r1 0 V := by
  obtain ⟨f, a1, a2⟩ := fill_ok 12 (by omega) r.1 (-1 : Int32)
  exact ⟨(f, nI 0), by simp only [fX2_forget, a1, bnd_some]; rfl, fun V => ⟨rfl, fun p hp => ⟨fun k hk => absurd hk (by omega), fun _ => a2 p hp⟩⟩⟩
theorem isTooMuch_ok {b : S0} {m : S1} {p : Nat} {u : Bool} {l g : Nat} (hp : p < 12) (h1 : m.2.2.2.1 p = bI u) (h2 : b.2.2.1 p = nI l) (h3 : m.2.2.1 p = nI g) (hl : l < 2 ^ 31) (hg : g < 2 ^ 31) : fX0_isTooMuch b m (nI p) = some (bI (u && decide (g < l))) := by
  cases u
  · simp (disch := omega) only [fX0_isTooMuch, h1, bI_f, Bool.false_and, l_0, l_1, l_2, l_3, l_4, l_5, l_6, l_7, l_8, l_9, l_10, l_11, l_12, l_13, l_14, l_15, l_16, l_17, l_18, l_19, l_20, l_21, l_24, l_28, l_31, l_32, l_33, l_45, l_47, l_48, l_57, l_59, l_84, l_95, l_96, l_100, l_112, l_119, l_120, l_127, l_140, l_700, l_840, l_999, l_4095, l_999999, ↓l_m1, ↓l_m2, ↓l_m3, ↓l_m4, ↓l_m10, ↓l_m10000, nI_leI, nI_ltI, nI_eq, mI_le, mI_lt, le_mI, lt_mI, mI_eq, eq_mI, nI_add, pk_mul, pk_sub, pk_div, nI_clamp, md_eq, Nat.zero_le, true_and, and_true, and_self, if_pos, if_neg, Option.bind_some, bnd_some, Sum.elim_inl, Sum.elim_inr, ↓reduceIte]
  · by_cases h : g < l
    · simp (disch := omega) only [fX0_isTooMuch, h1, h2, h3, bI_t, decide_eq_true h, Bool.and_self, l_0, l_1, l_2, l_3, l_4, l_5, l_6, l_7, l_8, l_9, l_10, l_11, l_12, l_13, l_14, l_15, l_16, l_17, l_18, l_19, l_20, l_21, l_24, l_28, l_31, l_32, l_33, l_45, l_47, l_48, l_57, l_59, l_84, l_95, l_96, l_100, l_112, l_119, l_120, l_127, l_140, l_700, l_840, l_999, l_4095, l_999999, ↓l_m1, ↓l_m2, ↓l_m3, ↓l_m4, ↓l_m10, ↓l_m10000, nI_leI, nI_ltI, nI_eq, mI_le, mI_lt, le_mI, lt_mI, mI_eq, eq_mI, nI_add, pk_mul, pk_sub, pk_div, nI_clamp, md_eq, Nat.zero_le, true_and, and_true, and_self, if_pos, if_neg, Option.bind_some, bnd_some, Sum.elim_inl, Sum.elim_inr, ↓reduceIte]
    · simp (disch := omega) only [fX0_isTooMuch, h1, h2, h3, bI_t, bI_f, decide_eq_false h, Bool.and_false, l_0, l_1, l_2, l_3, l_4, l_5, l_6, l_7, l_8, l_9, l_10, l_11, l_12, l_13, l_14, l_15, l_16, l_17, l_18, l_19, l_20, l_21, l_24, l_28, l_31, l_32, l_33, l_45, l_47, l_48, l_57, l_59, l_84, l_95, l_96, l_100, l_112, l_119, l_120, l_127, l_140, l_700, l_840, l_999, l_4095, l_999999, ↓l_m1, ↓l_m2, ↓l_m3, ↓l_m4, ↓l_m10, ↓l_m10000, nI_leI, nI_ltI, nI_eq, mI_le, mI_lt, le_mI, lt_mI, mI_eq, eq_mI, nI_add, pk_mul, pk_sub, pk_div, nI_clamp, md_eq, Nat.zero_le, true_and, and_true, and_self, if_pos, if_neg, Option.bind_some, bnd_some, Sum.elim_inl, Sum.elim_inr, ↓reduceIte]
theorem OK_wu {M : AM} {S T : Nat → Bool} (h : OK (wu M S)) (hT : ∀ p, M.n ≤ p → T p = false) : OK (wu M T) := ⟨h.1, h.2.1, h.2.2.1, hT, h.2.2.2.2⟩
theorem crushWave_ok {m : S1} {b : S0} {r : S2} {M : AM} {S : Nat → Bool} (h : MR m (wu M S)) (hb : BR b (wu M S)) (w : Nat) : ∃ r1 m1, fX2_crushWave r m b (nI w) = some (nI (cntB (tm M S) M.n), r1, m1) ∧ MR m1 (wu M (nx M S)) ∧ r1.2 = r.2 ∧ ∀ p, p < 12 → r1.1 p = if tm M S p = true then nI w else r.1 p := by
  obtain ⟨hO, h1, h2, h3, h4, h5, h6⟩ := h
  have hn : M.n ≤ 12 := hO.1
  have htm : ∀ p, M.n ≤ p → tm M S p = false := fun p hp => by
    have : S p = false := hO.2.2.2.1 p hp
    unfold tm; rw [this, Bool.false_and]
  obtain ⟨z, e1, e2, e3, e4⟩ := loopI (step := fX2_crushWave_L6 m b (nI w)) (fun i (q : Int32 × Int32 × (Nat → Int32) × (Nat → Int32)) => (q.1 = nI (cntB (tm M S) i) ∧ q.2.1 = nI i) ∧ (∀ p, p < 12 → q.2.2.1 p = if tm M S p = true ∧ p < i then nI w else r.1 p) ∧ (∀ p, p < M.n → q.2.2.2 p = bI (if p < i then nx M S p else S p))) (fun (q : Int32 × Int32 × (Nat → Int32) × (Nat → Int32)) => q.1 = nI (cntB (tm M S) M.n) ∧ (∀ p, p < 12 → q.2.2.1 p = if tm M S p = true then nI w else r.1 p) ∧ (∀ p, p < M.n → q.2.2.2 p = bI (nx M S p))) M.n (F := 5000) (by omega) (s0 := ((0 : Int32), (0 : Int32), r.1, m.2.2.2.1)) ⟨⟨rfl, rfl⟩, fun p _ => by rw [if_neg (by omega)], fun p hp => by rw [if_neg (by omega)]; exact h4 p hp⟩
    (by
      rintro i ⟨x, x0, f, g⟩ hi ⟨⟨rfl, rfl⟩, hf, hg⟩
      have hg : ∀ p, p < M.n → g p = bI (if p < i then nx M S p else S p) := hg
      have hf : ∀ p, p < 12 → f p = if tm M S p = true ∧ p < i then nI w else r.1 p := hf
      have hgi := hg i hi
      rw [if_neg (by omega)] at hgi
      have hld := hb.2.1 i (by omega)
      have hll := load_lt hO S i
      have hsg := h3 i hi
      have hsl : M.sg i ≤ 999 := hO.2.2.1 i hi
      have hcb := cntB_le (tm M S) i
      have hT := isTooMuch_ok (b := b) (m := (m.1, m.2.1, m.2.2.1, g, m.2.2.2.2)) (p := i) (u := S i) (l := load M S i) (g := M.sg i) (by omega) hgi hld hsg (Nat.lt_of_le_of_lt hll (by omega)) (by omega)
      have htmd : (S i && decide (M.sg i < load M S i)) = tm M S i := rfl
      rw [htmd] at hT
      have h1' : m.2.2.2.2.2 = nI M.n := h1
      cases ht : tm M S i
      · rw [ht, bI_f] at hT
        refine ⟨(nI (cntB (tm M S) (i + 1)), nI (i + 1), f, g), ?_, ⟨rfl, rfl⟩, fun p hp => ?_, fun p hp => ?_⟩
        · have hc : cntB (tm M S) (i + 1) = cntB (tm M S) i := by simp only [cntB, ht, Bool.false_eq_true, if_false, Nat.add_zero]
          rw [hc]
          simp (disch := omega) only [fX2_crushWave_L6, h1', hT, l_0, l_1, l_2, l_3, l_4, l_5, l_6, l_7, l_8, l_9, l_10, l_11, l_12, l_13, l_14, l_15, l_16, l_17, l_18, l_19, l_20, l_21, l_24, l_28, l_31, l_32, l_33, l_45, l_47, l_48, l_57, l_59, l_84, l_95, l_96, l_100, l_112, l_119, l_120, l_127, l_140, l_700, l_840, l_999, l_4095, l_999999, ↓l_m1, ↓l_m2, ↓l_m3, ↓l_m4, ↓l_m10, ↓l_m10000, nI_leI, nI_ltI, nI_eq, mI_le, mI_lt, le_mI, lt_mI, mI_eq, eq_mI, nI_add, pk_mul, pk_sub, pk_div, nI_clamp, md_eq, Nat.zero_le, true_and, and_true, and_self, if_pos, if_neg, Option.bind_some, bnd_some, Sum.elim_inl, Sum.elim_inr, ↓reduceIte]
        · show f p = _
          rw [hf p hp]
          by_cases hpi : p = i
          · subst hpi; rw [if_neg (by omega), if_neg (fun q => by rw [ht] at q; cases q.1)]
          · by_cases hq : tm M S p = true ∧ p < i
            · rw [if_pos hq, if_pos ⟨hq.1, by omega⟩]
            · rw [if_neg hq, if_neg (fun z => hq ⟨z.1, by omega⟩)]
        · show g p = _
          rw [hg p hp]
          by_cases hpi : p = i
          · subst hpi
            rw [if_neg (by omega), if_pos (by omega)]
            have : nx M S p = S p := by unfold nx; rw [ht]; cases S p <;> rfl
            rw [this]
          · by_cases hq : p < i
            · rw [if_pos hq, if_pos (by omega)]
            · rw [if_neg hq, if_neg (by omega)]
      · rw [ht, bI_t] at hT
        refine ⟨(nI (cntB (tm M S) (i + 1)), nI (i + 1), upd f i (nI w), upd g i (nI 0)), ?_, ⟨rfl, rfl⟩, fun p hp => ?_, fun p hp => ?_⟩
        · have hc : cntB (tm M S) (i + 1) = cntB (tm M S) i + 1 := by simp only [cntB, ht, if_true]
          rw [hc]
          simp (disch := omega) only [fX2_crushWave_L6, h1', hT, l_0, l_1, l_2, l_3, l_4, l_5, l_6, l_7, l_8, l_9, l_10, l_11, l_12, l_13, l_14, l_15, l_16, l_17, l_18, l_19, l_20, l_21, l_24, l_28, l_31, l_32, l_33, l_45, l_47, l_48, l_57, l_59, l_84, l_95, l_96, l_100, l_112, l_119, l_120, l_127, l_140, l_700, l_840, l_999, l_4095, l_999999, ↓l_m1, ↓l_m2, ↓l_m3, ↓l_m4, ↓l_m10, ↓l_m10000, nI_leI, nI_ltI, nI_eq, mI_le, mI_lt, le_mI, lt_mI, mI_eq, eq_mI, nI_add, pk_mul, pk_sub, pk_div, nI_clamp, md_eq, Nat.zero_le, true_and, and_true, and_self, if_pos, if_neg, Option.bind_some, bnd_some, Sum.elim_inl, Sum.elim_inr, ↓reduceIte]
        · show upd f i _ p = _
          by_cases hpi : p = i
          · subst hpi; rw [upd_same, if_pos ⟨ht, by omega⟩]
          · rw [upd_ne _ _ _ _ hpi, hf p hp]
            by_cases hq : tm M S p = true ∧ p < i
            · rw [if_pos hq, if_pos ⟨hq.1, by omega⟩]
            · rw [if_neg hq, if_neg (fun z => hq ⟨z.1, by omega⟩)]
        · show upd g i _ p = _
          by_cases hpi : p = i
          · subst hpi
            rw [upd_same, if_pos (by omega)]
            have : nx M S p = false := by unfold nx; rw [ht]; cases S p <;> rfl
            rw [this]; rfl
          · rw [upd_ne _ _ _ _ hpi, hg p hp]
            by_cases hq : p < i
            · rw [if_pos hq, if_pos (by omega)]
            · rw [if_neg hq, if_neg (by omega)])
    (by
      rintro ⟨x, x0, f, g⟩ ⟨⟨rfl, rfl⟩, hf, hg⟩
      have h1' : m.2.2.2.2.2 = nI M.n := h1
      refine ⟨(nI (cntB (tm M S) M.n), nI M.n, f, g), ?_, rfl, fun p hp => ?_, fun p hp => ?_⟩
      · simp (disch := omega) only [fX2_crushWave_L6, h1', l_0, l_1, l_2, l_3, l_4, l_5, l_6, l_7, l_8, l_9, l_10, l_11, l_12, l_13, l_14, l_15, l_16, l_17, l_18, l_19, l_20, l_21, l_24, l_28, l_31, l_32, l_33, l_45, l_47, l_48, l_57, l_59, l_84, l_95, l_96, l_100, l_112, l_119, l_120, l_127, l_140, l_700, l_840, l_999, l_4095, l_999999, ↓l_m1, ↓l_m2, ↓l_m3, ↓l_m4, ↓l_m10, ↓l_m10000, nI_leI, nI_ltI, nI_eq, mI_le, mI_lt, le_mI, lt_mI, mI_eq, eq_mI, nI_add, pk_mul, pk_sub, pk_div, nI_clamp, md_eq, Nat.zero_le, true_and, and_true, and_self, if_pos, if_neg, Option.bind_some, bnd_some, Sum.elim_inl, Sum.elim_inr, ↓reduceIte]
      · have := hf p hp
        show f p = _
        have : f p = if tm M S p = true ∧ p < M.n then nI w else r.1 p := this
        rw [this]
        by_cases hq : tm M S p = true
        · have : p < M.n := by
            rcases Nat.lt_or_ge p M.n with z | z
            · exact z
            · rw [htm p z] at hq; cases hq
          rw [if_pos ⟨hq, this⟩, if_pos hq]
        · rw [if_neg (fun z => hq z.1), if_neg hq]
      · have : g p = bI (if p < M.n then nx M S p else S p) := hg p hp
        show g p = _
        rw [this, if_pos hp])
  refine ⟨(z.2.2.1, r.2), (m.1, m.2.1, m.2.2.1, z.2.2.2, m.2.2.2.2), ?_, ⟨OK_wu hO (fun p hp => ?_), h1, h2, h3, e4, h5, h6⟩, rfl, e3⟩
  · simp only [fX2_crushWave, e1, bnd_some, e2]
  · cases q : nx M S p
    · rfl
    · have := nx_sub q
      have hz : S p = false := hO.2.2.2.1 p hp
      rw [hz] at this; cases this
theorem cntB_all0 {S : Nat → Bool} (h : ∀ p, S p = false) : ∀ k, cntB S k = 0
  | 0 => rfl
  | k + 1 => by simp only [cntB, cntB_all0 h k, h k, Bool.false_eq_true, if_false]
theorem crush_ok {m : S1} {M : AM} {S : Nat → Bool} (h : MR m (wu M S)) (r : S2) (b : S0) : ∃ w r1 m1 b1, fX2_crush r m b = some (nI (cntB S M.n - cntB (it M S w) M.n), r1, m1, b1) ∧ Wv M S w ∧ w ≤ 12 ∧ cntB (it M S w) M.n ≤ cntB S M.n ∧ MR m1 (wu M (it M S w)) ∧ BR b1 (wu M (it M S w)) ∧ RunR r1 w (fun k => tm M (it M S k)) := by
  have hn : M.n ≤ 12 := h.1.1
  have hSn : ∀ p, M.n ≤ p → S p = false := h.1.2.2.2.1
  have hcS := cntB_le S M.n
  obtain ⟨r0, g1, g2⟩ := forget_ok r
  obtain ⟨z, e1, w, e2, e3, e4, e5, e6, e7, e8⟩ := loopX (step := fX2_crush_L9) (fun k (q : Int32 × Int32 × S2 × S1 × S0) => (q.1 = nI (cntB S M.n - cntB (it M S k) M.n) ∧ q.2.1 = nI (k + 1)) ∧ (∀ j, j < k → ¬ stb M (it M S j)) ∧ MR q.2.2.2.1 (wu M (it M S k)) ∧ RunR q.2.2.1 k (fun k => tm M (it M S k))) (fun (q : Int32 × Int32 × S2 × S1 × S0) => ∃ w, q.1 = nI (cntB S M.n - cntB (it M S w) M.n) ∧ Wv M S w ∧ w ≤ 12 ∧ cntB (it M S w) M.n ≤ cntB S M.n ∧ MR q.2.2.2.1 (wu M (it M S w)) ∧ BR q.2.2.2.2 (wu M (it M S w)) ∧ RunR q.2.2.1 w (fun k => tm M (it M S k))) 13 (F := 5000) (by omega) (s0 := ((0 : Int32), (1 : Int32), r0, m, b)) ⟨⟨by rw [show it M S 0 = S from rfl, Nat.sub_self]; rfl, rfl⟩, fun j hj => absurd hj (by omega), h, g2 _⟩
    (by
      rintro k ⟨x, x0, r1, m1, b1⟩ hk ⟨⟨rfl, rfl⟩, i1, i2, i3⟩
      have i2 : MR m1 (wu M (it M S k)) := i2
      have i3 : RunR r1 k (fun k => tm M (it M S k)) := i3
      obtain ⟨b2, f1, f2⟩ := lay_ok i2 b1
      obtain ⟨r2, m2, f3, f4, f5, f6⟩ := crushWave_ok (r := r1) i2 f2 (k + 1)
      have hcn := cnt_it (M := M) hSn k i1
      have hnx := cnt_nx M (it M S k) M.n
      have hct := cntB_le (tm M (it M S k)) M.n
      by_cases hst : stb M (it M S k)
      · have h0 : cntB (tm M (it M S k)) M.n = 0 := cntB_all0 hst _
        rw [h0] at f3
        refine Or.inr ⟨(nI (cntB S M.n - cntB (it M S k) M.n), nI (k + 1), r2, m2, b2), ?_, k, rfl, ⟨hst, i1⟩, by omega, by omega, ?_, f2, ?_, fun p hp => ?_⟩
        · simp (disch := omega) only [fX2_crush_L9, f1, f3, l_0, l_1, l_2, l_3, l_4, l_5, l_6, l_7, l_8, l_9, l_10, l_11, l_12, l_13, l_14, l_15, l_16, l_17, l_18, l_19, l_20, l_21, l_24, l_28, l_31, l_32, l_33, l_45, l_47, l_48, l_57, l_59, l_84, l_95, l_96, l_100, l_112, l_119, l_120, l_127, l_140, l_700, l_840, l_999, l_4095, l_999999, ↓l_m1, ↓l_m2, ↓l_m3, ↓l_m4, ↓l_m10, ↓l_m10000, nI_leI, nI_ltI, nI_eq, mI_le, mI_lt, le_mI, lt_mI, mI_eq, eq_mI, nI_add, pk_mul, pk_sub, pk_div, nI_clamp, md_eq, Nat.zero_le, true_and, and_true, and_self, if_pos, if_neg, Option.bind_some, bnd_some, Sum.elim_inl, Sum.elim_inr, ↓reduceIte]
        · have : nx M (it M S k) = it M S k := funext (fun p => by unfold nx; rw [hst p]; cases it M S k p <;> rfl)
          rw [this] at f4
          exact f4
        · show r2.2 = nI k
          rw [f5]; exact i3.1
        · show (∀ j, j < k → _ → r2.1 p = _) ∧ (_ → r2.1 p = _)
          rw [f6 p hp, if_neg (by rw [hst p]; simp)]
          exact i3.2 p hp
      · obtain ⟨p0, hp0⟩ := not_stb hst
        have hp0n : p0 < M.n := by
          rcases Nat.lt_or_ge p0 M.n with q | q
          · exact q
          · have := it_sub k (tm_sub hp0)
            rw [hSn p0 q] at this; cases this
        have hpos := cntB_pos M.n p0 hp0n hp0
        have hit : cntB (it M S (k + 1)) M.n = cntB (nx M (it M S k)) M.n := rfl
        refine Or.inl ⟨(nI (cntB S M.n - cntB (it M S (k + 1)) M.n), nI (k + 1 + 1), (r2.1, nI (k + 1)), m2, b2), ?_, ⟨rfl, rfl⟩, fun j hj => ?_, f4, rfl, fun p hp => ?_⟩
        · have hsum : cntB S M.n - cntB (it M S (k + 1)) M.n = cntB S M.n - cntB (it M S k) M.n + cntB (tm M (it M S k)) M.n := by omega
          rw [hsum]
          simp (disch := omega) only [fX2_crush_L9, f1, f3, l_0, l_1, l_2, l_3, l_4, l_5, l_6, l_7, l_8, l_9, l_10, l_11, l_12, l_13, l_14, l_15, l_16, l_17, l_18, l_19, l_20, l_21, l_24, l_28, l_31, l_32, l_33, l_45, l_47, l_48, l_57, l_59, l_84, l_95, l_96, l_100, l_112, l_119, l_120, l_127, l_140, l_700, l_840, l_999, l_4095, l_999999, ↓l_m1, ↓l_m2, ↓l_m3, ↓l_m4, ↓l_m10, ↓l_m10000, nI_leI, nI_ltI, nI_eq, mI_le, mI_lt, le_mI, lt_mI, mI_eq, eq_mI, nI_add, pk_mul, pk_sub, pk_div, nI_clamp, md_eq, Nat.zero_le, true_and, and_true, and_self, if_pos, if_neg, Option.bind_some, bnd_some, Sum.elim_inl, Sum.elim_inr, ↓reduceIte]
        · by_cases hjk : j = k
          · subst hjk; exact hst
          · exact i1 j (by omega)
        · show (∀ j, j < k + 1 → _ → r2.1 p = _) ∧ (_ → r2.1 p = _)
          rw [f6 p hp]
          by_cases ht : tm M (it M S k) p = true
          · rw [if_pos ht]
            refine ⟨fun j hj (hv : tm M (it M S j) p = true) => ?_, fun hv => ?_⟩
            · by_cases hjk : j = k
              · subst hjk; rfl
              · exfalso
                have h1 : it M S (j + 1) p = false := by show nx M (it M S j) p = false; unfold nx; rw [hv]; cases it M S j p <;> rfl
                have h2 : ∀ i, it M S (j + 1 + i) p = false := by
                  intro i
                  induction i with
                  | zero => exact h1
                  | succ i ih =>
                    show nx M (it M S (j + 1 + i)) p = false
                    unfold nx; rw [ih]; rfl
                have h3 := h2 (k - (j + 1))
                rw [show j + 1 + (k - (j + 1)) = k by omega] at h3
                have h4 := tm_sub ht
                rw [h3] at h4; cases h4
            · have : tm M (it M S k) p = false := hv k (by omega)
              rw [ht] at this; cases this
          · rw [if_neg ht]
            refine ⟨fun j hj hv => ?_, fun hv => (i3.2 p hp).2 (fun j hj => hv j (by omega))⟩
            by_cases hjk : j = k
            · subst hjk; exact absurd hv ht
            · exact (i3.2 p hp).1 j (by omega) hv)
    (by
      rintro ⟨x, x0, r1, m1, b1⟩ ⟨_, i1, _, _⟩
      have hcn := cnt_it (M := M) hSn 13 i1
      omega)
  exact ⟨w, z.2.2.1, z.2.2.2.1, z.2.2.2.2, by simp only [fX2_crush, g1, bnd_some, e1, e2], e3, e4, e5, e6, e7, e8⟩
