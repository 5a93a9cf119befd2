/-! mends, anew, runs, loses, back, type, clear, wall -/
theorem cnt_ext {S : Nat → Bool} {n : Nat} (h : ∀ p, n ≤ p → S p = false) : ∀ k, cntB S (n + k) = cntB S n
  | 0 => rfl
  | k + 1 => by
    rw [show n + (k + 1) = (n + k) + 1 by omega, cntB, cnt_ext h k, h (n + k) (by omega)]
    simp
theorem cnt_12 {S : Nat → Bool} {n : Nat} (hn : n ≤ 12) (h : ∀ p, n ≤ p → S p = false) : cntB S 12 = cntB S n := by
  have := cnt_ext h (12 - n)
  rw [show n + (12 - n) = 12 by omega] at this
  exact this
theorem cnt_13 {S : Nat → Bool} {n : Nat} (hn : n ≤ 12) (h : ∀ p, n ≤ p → S p = false) : cntB S 13 = cntB S n := by
  have := cnt_ext h (13 - n)
  rw [show n + (13 - n) = 13 by omega] at this
  exact this
theorem cnt_del {S : Nat → Bool} {p : Nat} : ∀ k, cntB (fun i => S i && !decide (i = p)) k + (if p < k ∧ S p = true then 1 else 0) = cntB S k
  | 0 => by simp [cntB]
  | k + 1 => by
    have ih := cnt_del (S := S) (p := p) k
    simp only [cntB]
    by_cases hk : k = p
    · rw [if_neg (show ¬ (p < k ∧ S p = true) by omega)] at ih
      have e0 : (S k && !decide (k = p)) = false := by rw [decide_eq_true hk]; cases S k <;> rfl
      simp only [e0, Bool.false_eq_true, if_false]
      by_cases hs : S k = true
      · rw [if_pos (show p < k + 1 ∧ S p = true from ⟨by omega, by rw [← hk]; exact hs⟩), if_pos hs]; omega
      · rw [if_neg (show ¬ (p < k + 1 ∧ S p = true) from fun q => hs (by rw [hk]; exact q.2)), if_neg hs]; omega
    · have e1 : (S k && !decide (k = p)) = S k := by rw [decide_eq_false hk]; cases S k <;> rfl
      simp only [e1]
      by_cases hc : p < k ∧ S p = true
      · rw [if_pos hc] at ih
        rw [if_pos (show p < k + 1 ∧ S p = true from ⟨by omega, hc.2⟩)]
        omega
      · rw [if_neg hc] at ih
        rw [if_neg (show ¬ (p < k + 1 ∧ S p = true) from fun q => hc ⟨by omega, q.2⟩)]
        omega
theorem WR0 {τ : S7} (h : τ.2.2.2.2.2.2.2.2.2.2.2.2.2.1 = nI 0) : WR τ 0 (fun _ _ => false) := ⟨h, by omega, fun k hk => absurd hk (by omega), fun k hk => absurd hk (by omega), fun k j p hk => absurd hk (by omega)⟩
theorem E_mends : E0 Rel fX6_mends fX7_mends := by
  intro σ τ h
  obtain ⟨M, k, H, w, V, tl, tx, hB⟩ := h
  obtain ⟨s1, f, k1, k2, k3, k4⟩ := kept_ok hB
  obtain ⟨h1, h2, h3, -, -, h6, h7, h8⟩ := hB
  have hn := h1.1.1
  have hcs := countStanding_ok h1
  have hcl := cntB_le M.up M.n
  have hon := ones_ok (x := τ.2.2.2.2.2.1) h2.2.2.2.1
  rw [cnt_12 hn h1.1.2.2.2.1] at hon
  obtain ⟨r2, f1, f2⟩ := forget_ok σ.2.2.1
  have hmn := h1.2.1
  obtain ⟨z, e1, e2⟩ := loopI (step := fX6_mends_L36 σ) (fun i (q : Int32 × (Nat → Int32)) => q.1 = nI i ∧ ∀ p, p < i → q.2 p = nI 1) (fun q => ∀ p, p < M.n → q.2 p = nI 1) M.n (F := 5000) (by omega) (s0 := ((0 : Int32), σ.1.2.2.2.1)) ⟨rfl, fun p hp => absurd hp (by omega)⟩
    (by
      rintro i ⟨x, g⟩ hi ⟨rfl, hg⟩
      refine ⟨(nI (i + 1), upd g i (nI 1)), ?_, rfl, fun p hp => ?_⟩
      · simp (disch := omega) only [fX6_mends_L36, hmn, l_0, l_1, l_2, l_3, l_4, l_5, l_6, l_7, l_8, l_9, l_10, l_11, l_12, l_13, l_14, l_15, l_16, l_17, l_18, l_19, l_20, l_21, l_24, l_28, l_31, l_32, l_33, l_45, l_47, l_48, l_57, l_59, l_84, l_95, l_96, l_100, l_112, l_119, l_120, l_127, l_140, l_700, l_840, l_999, l_4095, l_999999, ↓l_m1, ↓l_m2, ↓l_m3, ↓l_m4, ↓l_m10, ↓l_m10000, nI_leI, nI_ltI, nI_eq, mI_le, mI_lt, le_mI, lt_mI, mI_eq, eq_mI, nI_add, pk_mul, pk_sub, pk_div, nI_clamp, md_eq, Nat.zero_le, true_and, and_true, and_self, if_pos, if_neg, Option.bind_some, bnd_some, Sum.elim_inl, Sum.elim_inr, ↓reduceIte]
      · show upd g i _ p = _
        by_cases hpi : p = i
        · subst hpi; exact upd_same _ _ _
        · rw [upd_ne _ _ _ _ hpi]; exact hg p (by omega))
    (by
      rintro ⟨x, g⟩ ⟨rfl, hg⟩
      refine ⟨(nI M.n, g), ?_, hg⟩
      simp (disch := omega) only [fX6_mends_L36, hmn, l_0, l_1, l_2, l_3, l_4, l_5, l_6, l_7, l_8, l_9, l_10, l_11, l_12, l_13, l_14, l_15, l_16, l_17, l_18, l_19, l_20, l_21, l_24, l_28, l_31, l_32, l_33, l_45, l_47, l_48, l_57, l_59, l_84, l_95, l_96, l_100, l_112, l_119, l_120, l_127, l_140, l_700, l_840, l_999, l_4095, l_999999, ↓l_m1, ↓l_m2, ↓l_m3, ↓l_m4, ↓l_m10, ↓l_m10000, nI_leI, nI_ltI, nI_eq, mI_le, mI_lt, le_mI, lt_mI, mI_eq, eq_mI, nI_add, pk_mul, pk_sub, pk_div, nI_clamp, md_eq, Nat.zero_le, true_and, and_true, and_self, if_pos, if_neg, Option.bind_some, bnd_some, Sum.elim_inl, Sum.elim_inr, ↓reduceIte])
  have e1' : loopF (fX6_mends_L36 σ) 5000 (nI 0, σ.1.2.2.2.1) = some z := e1
  refine ⟨nI (M.n - cntB M.up M.n), ((σ.1.1, σ.1.2.1, σ.1.2.2.1, z.2, σ.1.2.2.2.2), σ.2.1, r2, s1, σ.2.2.2.2), (τ.1, τ.2.1, τ.2.2.1, τ.2.2.2.1, τ.2.2.2.2.1, (nI 1 <<< (nI M.n &&& nI 31)) - nI 1, τ.2.2.2.2.2.2.1, nI (nC k), f, τ.2.2.2.2.2.2.2.2.2.1, τ.2.2.2.2.2.2.2.2.2.2.1, τ.2.2.2.2.2.2.2.2.2.2.2.1, τ.2.2.2.2.2.2.2.2.2.2.2.2.1, nI 0, τ.2.2.2.2.2.2.2.2.2.2.2.2.2.2), ?_, ?_, wu M (fun i => decide (i < M.n)), nC k, nH k H M, 0, fun _ _ => false, tl, tx, ⟨⟨hn, h1.1.2.1, h1.1.2.2.1, fun p (hp : M.n ≤ p) => decide_eq_false (by omega), h1.1.2.2.2.2⟩, h1.2.1, h1.2.2.1, h1.2.2.2.1, fun p (hp : p < M.n) => ?_, h1.2.2.2.2.2⟩, ⟨h2.1, h2.2.1, h2.2.2.1, hS_all hn, h2.2.2.2.2⟩, h3, k3, k4, f2 _, WR0 rfl, h8⟩
  · simp (disch := omega) only [fX6_mends, k1, f1, hcs, hmn, pk_sub, e1', l_0, bnd_some]
  · have hmt := h2.1
    simp (disch := omega) only [fX7_mends, fX7_noWaves, k2, hon, hmt, pk_sub, l_0, l_1, l_31, bnd_some]
  · show z.2 p = bI (decide (p < M.n))
    rw [decide_eq_true hp, e2 p hp]; rfl
def am0 (M : AM) : AM := mkAM 0 M.cl M.sg (fun _ => false) (fun _ => false) (fun _ => 1)
theorem OK_am0 (M : AM) : OK (am0 M) := ⟨Nat.zero_le 12, fun p (hp : p < 0) => absurd hp (by omega), fun p (hp : p < 0) => absurd hp (by omega), fun _ _ => rfl, fun _ _ => rfl, fun _ _ => (by decide : 1 ≤ 9)⟩
theorem reset_ok (m : S1) (M : AM) : ∃ m1, fX1_reset m = some m1 ∧ MR m1 (am0 M) := by
  obtain ⟨f, a1, a2⟩ := fill_ok 96 (by omega) m.1 (1 : Int32)
  obtain ⟨g, a3, a4⟩ := fill_ok 21 (by omega) m.2.2.2.2.1 (0 : Int32)
  refine ⟨(f, m.2.1, m.2.2.1, m.2.2.2.1, g, nI 0), by simp only [fX1_reset, a1, a3, bnd_some]; rfl, OK_am0 M, rfl, fun p (hp : p < 0) => absurd hp (by omega), fun p (hp : p < 0) => absurd hp (by omega), fun p (hp : p < 0) => absurd hp (by omega), fun k hk => a4 k hk, fun c hc => a2 c hc⟩
theorem E_anew : E0 Rel fX6_anew fX7_anew := by
  intro σ τ h
  obtain ⟨M, k, H, w, V, tl, tx, hB⟩ := h
  obtain ⟨s1, f, k1, k2, k3, k4⟩ := kept_ok hB
  obtain ⟨h1, h2, h3, -, -, h6, h7, h8⟩ := hB
  obtain ⟨r2, f1, f2⟩ := forget_ok σ.2.2.1
  obtain ⟨m1, g1, g2⟩ := reset_ok σ.1 M
  obtain ⟨z, e1, e2⟩ := loopI (step := fX7_anew_L26) (fun i (q : Int32 × (Nat → Int32)) => q.1 = nI i ∧ ∀ p, p < i → q.2 p = nI 1) (fun q => ∀ p, p < 96 → q.2 p = nI 1) 96 (F := 5000) (by omega) (s0 := ((0 : Int32), τ.2.1)) ⟨rfl, fun p hp => absurd hp (by omega)⟩
    (by
      rintro i ⟨x, g⟩ hi ⟨rfl, hg⟩
      refine ⟨(nI (i + 1), upd g i (nI 1)), ?_, rfl, fun p hp => ?_⟩
      · simp (disch := omega) only [fX7_anew_L26, l_0, l_1, l_2, l_3, l_4, l_5, l_6, l_7, l_8, l_9, l_10, l_11, l_12, l_13, l_14, l_15, l_16, l_17, l_18, l_19, l_20, l_21, l_24, l_28, l_31, l_32, l_33, l_45, l_47, l_48, l_57, l_59, l_84, l_95, l_96, l_100, l_112, l_119, l_120, l_127, l_140, l_700, l_840, l_999, l_4095, l_999999, ↓l_m1, ↓l_m2, ↓l_m3, ↓l_m4, ↓l_m10, ↓l_m10000, nI_leI, nI_ltI, nI_eq, mI_le, mI_lt, le_mI, lt_mI, mI_eq, eq_mI, nI_add, pk_mul, pk_sub, pk_div, nI_clamp, md_eq, Nat.zero_le, true_and, and_true, and_self, if_pos, if_neg, Option.bind_some, bnd_some, Sum.elim_inl, Sum.elim_inr, ↓reduceIte]
      · show upd g i _ p = _
        by_cases hpi : p = i
        · subst hpi; exact upd_same _ _ _
        · rw [upd_ne _ _ _ _ hpi]; exact hg p (by omega))
    (by
      rintro ⟨x, g⟩ ⟨rfl, hg⟩
      refine ⟨(nI 96, g), ?_, hg⟩
      simp (disch := omega) only [fX7_anew_L26, l_0, l_1, l_2, l_3, l_4, l_5, l_6, l_7, l_8, l_9, l_10, l_11, l_12, l_13, l_14, l_15, l_16, l_17, l_18, l_19, l_20, l_21, l_24, l_28, l_31, l_32, l_33, l_45, l_47, l_48, l_57, l_59, l_84, l_95, l_96, l_100, l_112, l_119, l_120, l_127, l_140, l_700, l_840, l_999, l_4095, l_999999, ↓l_m1, ↓l_m2, ↓l_m3, ↓l_m4, ↓l_m10, ↓l_m10000, nI_leI, nI_ltI, nI_eq, mI_le, mI_lt, le_mI, lt_mI, mI_eq, eq_mI, nI_add, pk_mul, pk_sub, pk_div, nI_clamp, md_eq, Nat.zero_le, true_and, and_true, and_self, if_pos, if_neg, Option.bind_some, bnd_some, Sum.elim_inl, Sum.elim_inr, ↓reduceIte])
  have e1' : loopF fX7_anew_L26 5000 (nI 0, τ.2.1) = some z := e1
  refine ⟨nI M.n, (m1, σ.2.1, r2, s1, σ.2.2.2.2), (τ.1, z.2, nI 0, τ.2.2.2.1, τ.2.2.2.2.1, nI 0, nI 0, nI (nC k), f, τ.2.2.2.2.2.2.2.2.2.1, τ.2.2.2.2.2.2.2.2.2.2.1, τ.2.2.2.2.2.2.2.2.2.2.2.1, τ.2.2.2.2.2.2.2.2.2.2.2.2.1, nI 0, τ.2.2.2.2.2.2.2.2.2.2.2.2.2.2), ?_, ?_, am0 M, nC k, nH k H M, 0, fun _ _ => false, tl, tx, g2, ⟨rfl, fun p (hp : p < 0) => absurd hp (by omega), fun p (hp : p < 0) => absurd hp (by omega), hS_0, hS_0, fun c hc => e2 c hc⟩, h3, k3, k4, f2 _, WR0 rfl, h8⟩
  · have hmn := h1.2.1
    simp only [fX6_anew, k1, f1, g1, hmn, bnd_some]
  · have hmt := h2.1
    simp only [fX7_anew, fX7_noWaves, k2, hmt, e1', l_0, bnd_some]
theorem it_dead {M : AM} {S : Nat → Bool} {j p : Nat} (hv : tm M (it M S j) p = true) : ∀ i, it M S (j + 1 + i) p = false := by
  have h1 : it M S (j + 1) p = false := by show nx M (it M S j) p = false; unfold nx; rw [hv]; cases it M S j p <;> rfl
  intro i
  induction i with
  | zero => exact h1
  | succ i ih =>
    show nx M (it M S (j + 1 + i)) p = false
    unfold nx; rw [ih]; rfl
theorem it_once {M : AM} {S : Nat → Bool} {j k p : Nat} (h1 : tm M (it M S j) p = true) (h2 : tm M (it M S k) p = true) : j = k := by
  rcases Nat.lt_trichotomy j k with q | q | q
  · have := it_dead h1 (k - (j + 1))
    rw [show j + 1 + (k - (j + 1)) = k by omega] at this
    have h3 := tm_sub h2
    rw [this] at h3; cases h3
  · exact q
  · have := it_dead h2 (j - (k + 1))
    rw [show k + 1 + (j - (k + 1)) = j by omega] at this
    have h3 := tm_sub h1
    rw [this] at h3; cases h3
/-- a run on both sides, from a set S of those that stand -/
theorem run_both {σ : S6} {τ : S7} {M : AM} {S : Nat → Bool} {tl : Nat} {tx : Nat → Nat} (m : S1) (hm : MR m (wu M S)) (hτ : TR τ (wu M S)) (h8 : TxR σ.2.2.2.2.2.1 τ tl tx) : ∃ w r1 m1 b1 τ1, fX2_crush σ.2.2.1 m σ.2.1 = some (nI (cntB S M.n - cntB (it M S w) M.n), r1, m1, b1) ∧ fX7_goes τ = some τ1 ∧ cntB (it M S w) M.n ≤ cntB S M.n ∧ MR m1 (wu M (it M S w)) ∧ TR τ1 (wu M (it M S w)) ∧ τ1.1 = τ.1 ∧ τ1.2.2.2.2.2.2.2.1 = τ.2.2.2.2.2.2.2.1 ∧ τ1.2.2.2.2.2.2.2.2.1 = τ.2.2.2.2.2.2.2.2.1 ∧ RunR r1 w (fun k => tm M (it M S k)) ∧ WR τ1 w (fun k => tm M (it M S k)) ∧ TxR σ.2.2.2.2.2.1 τ1 tl tx := by
  obtain ⟨w, r1, m1, b1, e1, e2, e3, e4, e5, e6, e7⟩ := crush_ok hm σ.2.2.1 σ.2.1
  have hn : M.n ≤ 12 := hm.1.1
  have hSn : ∀ p, M.n ≤ p → S p = false := hm.1.2.2.2.1
  have hgr := TR_GR hτ hm.1
  obtain ⟨τ1, v, g1, g2, u, f, g, a, b, wv, rfl, g4, g5⟩ := goes_ok (M := M) (S := S) hgr hτ.2.2.2.1 (by rw [cnt_13 hn hSn]; have := cntB_le S M.n; omega)
  have hwv := Wv_uniq e2 g2
  subst hwv
  refine ⟨w, r1, m1, b1, _, e1, g1, e4, e5, ⟨hτ.1, hτ.2.1, hτ.2.2.1, g4, hτ.2.2.2.2⟩, rfl, rfl, rfl, e7, ⟨rfl, e3, g5, fun k hk p hp => ?_, fun k j p _ _ q1 q2 => it_once q1 q2⟩, h8⟩
  have h1 := it_sub k (tm_sub hp)
  rcases Nat.lt_or_ge p M.n with q | q
  · omega
  · rw [hSn p q] at h1; cases h1
theorem E_runs : E0 Rel fX6_runs fX7_runs := by
  intro σ τ h
  obtain ⟨M, k, H, w, V, tl, tx, hB⟩ := h
  obtain ⟨s1, f, k1, k2, k3, k4⟩ := kept_ok hB
  obtain ⟨h1, h2, h3, -, -, h6, h7, h8⟩ := hB
  have hn := h1.1.1
  obtain ⟨w1, r1, m1, b1, τ1, e1, e2, e3, e4, e5, e6, e7, e8, e9, e10, e11⟩ := run_both (σ := σ) (τ := (τ.1, τ.2.1, τ.2.2.1, τ.2.2.2.1, τ.2.2.2.2.1, τ.2.2.2.2.2.1, τ.2.2.2.2.2.2.1, nI (nC k), f, τ.2.2.2.2.2.2.2.2.2)) (M := M) (S := M.up) σ.1 h1 h2 h8
  have hitn : ∀ p, M.n ≤ p → it M M.up w1 p = false := e4.1.2.2.2.1
  have ho1 := ones_ok (x := τ.2.2.2.2.2.1) h2.2.2.2.1
  rw [cnt_12 hn h1.1.2.2.2.1] at ho1
  have ho2 := ones_ok (x := τ1.2.2.2.2.2.1) e5.2.2.2.1
  rw [show (wu M (it M M.up w1)).up = it M M.up w1 from rfl, cnt_12 hn hitn] at ho2
  refine ⟨nI (cntB M.up M.n - cntB (it M M.up w1) M.n), (m1, b1, r1, s1, σ.2.2.2.2), τ1, ?_, ?_, wu M (it M M.up w1), nC k, nH k H M, w1, fun k => tm M (it M M.up k), tl, tx, e4, e5, ?_, k3, ?_, e9, e10, e11⟩
  · simp only [fX6_runs, k1, e1, bnd_some]
  · have hc := cntB_le M.up M.n
    simp (disch := omega) only [fX7_runs, k2, ho1, e2, ho2, pk_sub, bnd_some]
  · rw [e6]; exact h3
  · exact ⟨k4.1, by rw [e7], fun i hi => by rw [e8]; exact k4.2.2 i hi⟩
theorem E_loses : E1 Rel fX6_loses fX7_loses := by
  intro σ τ x h
  have hh := h
  obtain ⟨M, k, H, w, V, tl, tx, hB⟩ := hh
  rcases wp hB.1 hB.2.1 x with ⟨p, hp, rfl, p1, p2⟩ | ⟨a1, a2⟩
  · have hn := hB.1.1.1
    have st6 := isStanding_ok hB.1 (p := p) (by omega)
    have st7 := stands_ok hB.2.1 (j := p) (by omega)
    cases hu : M.up p
    · rw [hu, bI_f] at st6 st7
      obtain ⟨σ1, τ1, e3, e4, e5⟩ := no_ok h
      refine ⟨mI3, σ1, τ1, ?_, ?_, e5⟩
      · simp (disch := omega) only [fX6_loses, p1, st6, e3, l_0, l_1, nI_eq, ↓reduceIte, bnd_some, or_true, true_or, if_pos, if_neg, ↓l_m1, ↓l_m2, ↓l_m3, ↓l_m4]
      · simp (disch := omega) only [fX7_loses, p2, st7, e4, l_0, l_1, nI_eq, ↓reduceIte, bnd_some, or_true, true_or, if_pos, if_neg, ↓l_m1, ↓l_m2, ↓l_m3, ↓l_m4]
    · rw [hu, bI_t] at st6 st7
      obtain ⟨s1, f, k1, k2, k3, k4⟩ := kept_ok hB
      obtain ⟨h1, h2, h3, -, -, h6, h7, h8⟩ := hB
      let S : Nat → Bool := fun i => M.up i && !decide (i = p)
      have hSn : ∀ i, M.n ≤ i → S i = false := fun i hi => by
        show (M.up i && _) = false
        rw [h1.1.2.2.2.1 i hi]; rfl
      have hm : MR (σ.1.1, σ.1.2.1, σ.1.2.2.1, upd σ.1.2.2.2.1 p (nI 0), σ.1.2.2.2.2) (wu M S) := by
        refine ⟨⟨hn, h1.1.2.1, h1.1.2.2.1, hSn, h1.1.2.2.2.2⟩, h1.2.1, h1.2.2.1, h1.2.2.2.1, fun i (hi : i < M.n) => ?_, h1.2.2.2.2.2⟩
        show upd _ p _ i = bI (M.up i && !decide (i = p))
        by_cases hip : i = p
        · subst hip; rw [upd_same, decide_eq_true rfl]; cases M.up i <;> rfl
        · rw [upd_ne _ _ _ _ hip, decide_eq_false hip, h1.2.2.2.2.1 i hi]; cases M.up i <;> rfl
      have hτ : TR (τ.1, τ.2.1, τ.2.2.1, τ.2.2.2.1, τ.2.2.2.2.1, τ.2.2.2.2.2.1 &&& ((nI 1 <<< (nI p &&& nI 31)) ^^^ mI), τ.2.2.2.2.2.2.1, nI (nC k), f, τ.2.2.2.2.2.2.2.2.2) (wu M S) := ⟨h2.1, h2.2.1, h2.2.2.1, hS_del h2.2.2.2.1 (by omega), h2.2.2.2.2⟩
      obtain ⟨w1, r1, m1, b1, τ1, e1, e2, e3, e4, e5, e6, e7, e8, e9, e10, e11⟩ := run_both (σ := σ) (M := M) (S := S) _ hm hτ h8
      have hitn : ∀ i, M.n ≤ i → it M S w1 i = false := e4.1.2.2.2.1
      have ho1 := ones_ok (x := τ.2.2.2.2.2.1) h2.2.2.2.1
      rw [cnt_12 hn h1.1.2.2.2.1] at ho1
      have ho2 := ones_ok (x := τ1.2.2.2.2.2.1) e5.2.2.2.1
      rw [show (wu M (it M S w1)).up = it M S w1 from rfl, cnt_12 hn hitn] at ho2
      have hdel : cntB S M.n + 1 = cntB M.up M.n := by
        have := cnt_del (S := M.up) (p := p) M.n
        rw [if_pos ⟨hp, hu⟩] at this
        exact this
      have hc := cntB_le M.up M.n
      refine ⟨nI (cntB M.up M.n - cntB (it M S w1) M.n), (m1, b1, r1, s1, σ.2.2.2.2), τ1, ?_, ?_, wu M (it M S w1), nC k, nH k H M, w1, fun k => tm M (it M S k), tl, tx, e4, e5, ?_, k3, ?_, e9, e10, e11⟩
      · have hs : cntB M.up M.n - cntB (it M S w1) M.n = 1 + (cntB S M.n - cntB (it M S w1) M.n) := by omega
        rw [hs]
        simp (disch := omega) only [fX6_loses, p1, st6, k1, nI_leI, nI_clamp, Nat.zero_le, true_and, e1, nI_add, l_0, l_1, nI_eq, ↓reduceIte, bnd_some, or_true, true_or, if_pos, if_neg, ↓l_m1, ↓l_m2, ↓l_m3, ↓l_m4]
      · simp (disch := omega) only [fX7_loses, p2, st7, k2, ho1, l_31, e2, ho2, pk_sub, l_0, l_1, nI_eq, ↓reduceIte, bnd_some, or_true, true_or, if_pos, if_neg, ↓l_m1, ↓l_m2, ↓l_m3, ↓l_m4]
      · rw [e6]; exact h3
      · exact ⟨k4.1, by rw [e7], fun i hi => by rw [e8]; exact k4.2.2 i hi⟩
  · obtain ⟨σ1, τ1, e3, e4, e5⟩ := bad_ok h
    refine ⟨mI2, σ1, τ1, ?_, ?_, e5⟩
    · simp (disch := omega) only [fX6_loses, a1, e3, l_0, l_1, nI_eq, ↓reduceIte, bnd_some, or_true, true_or, if_pos, if_neg, ↓l_m1, ↓l_m2, ↓l_m3, ↓l_m4]
    · simp (disch := omega) only [fX7_loses, a2, e4, l_0, l_1, nI_eq, ↓reduceIte, bnd_some, or_true, true_or, if_pos, if_neg, ↓l_m1, ↓l_m2, ↓l_m3, ↓l_m4]
theorem E_back : E0 Rel fX6_back fX7_back := by
  intro σ τ h
  have hh := h
  obtain ⟨M, k, H, w, V, tl, tx, h1, h2, h3, h4, h5, h6, h7, h8⟩ := hh
  have hk6 := h4.1
  have hc6 := h4.2.1
  have hc7 := h5.2.1
  cases k with
  | zero =>
    obtain ⟨σ1, τ1, e3, e4, e5⟩ := no_ok h
    refine ⟨mI3, σ1, τ1, ?_, ?_, e5⟩
    · simp (disch := omega) only [fX6_back, hc6, e3, l_0, l_1, nI_eq, ↓reduceIte, bnd_some, or_true, true_or, if_pos, if_neg, ↓l_m1, ↓l_m2, ↓l_m3, ↓l_m4]
    · simp (disch := omega) only [fX7_back, hc7, e4, l_0, l_1, nI_eq, ↓reduceIte, bnd_some, or_true, true_or, if_pos, if_neg, ↓l_m1, ↓l_m2, ↓l_m3, ↓l_m4]
  | succ k =>
    obtain ⟨s1, m1, e1, e2, e3⟩ := giveBack_ok h4 σ.1
    obtain ⟨r2, f1, f2⟩ := forget_ok σ.2.2.1
    obtain ⟨wt, mn, ce, st, u, wl, g1, g2⟩ := comesBack_ok h5 e3.1
    have hs1 := e2.2.1
    refine ⟨nI k, (m1, σ.2.1, r2, s1, σ.2.2.2.2), (τ.1, wt, mn, ce, st, u, wl, nI k, τ.2.2.2.2.2.2.2.2.1, τ.2.2.2.2.2.2.2.2.2.1, τ.2.2.2.2.2.2.2.2.2.2.1, τ.2.2.2.2.2.2.2.2.2.2.2.1, τ.2.2.2.2.2.2.2.2.2.2.2.2.1, nI 0, τ.2.2.2.2.2.2.2.2.2.2.2.2.2.2), ?_, ?_, H k, k, H, 0, fun _ _ => false, tl, tx, e3, g2, h3, e2, ⟨by omega, rfl, fun i hi => h5.2.2 i (by omega)⟩, f2 _, WR0 rfl, h8⟩
    · simp (disch := omega) only [fX6_back, hc6, e1, f1, hs1, l_0, l_1, nI_eq, ↓reduceIte, bnd_some, or_true, true_or, if_pos, if_neg, ↓l_m1, ↓l_m2, ↓l_m3, ↓l_m4]
    · simp (disch := omega) only [fX7_back, fX7_noWaves, hc7, g1, l_0, l_1, nI_eq, ↓reduceIte, bnd_some, or_true, true_or, if_pos, if_neg, ↓l_m1, ↓l_m2, ↓l_m3, ↓l_m4]
theorem E_type : E1 Rel fX6_type fX7_type := by
  intro σ τ x h
  rcases wi x (k := 127) (by omega) with ⟨v, hv, rfl⟩ | ⟨a1, a2⟩
  · have hh := h
    obtain ⟨M, k, H, w, V, tl, tx, h1, h2, h3, h4, h5, h6, h7, t1, t2, t3, t4⟩ := hh
    by_cases ht : tl < 120
    · refine ⟨nI (tl + 1), (σ.1, σ.2.1, σ.2.2.1, σ.2.2.2.1, σ.2.2.2.2.1, (upd σ.2.2.2.2.2.1.1 tl (nI v), nI (tl + 1), σ.2.2.2.2.2.1.2.2), σ.2.2.2.2.2.2), (τ.1, τ.2.1, τ.2.2.1, τ.2.2.2.1, τ.2.2.2.2.1, τ.2.2.2.2.2.1, τ.2.2.2.2.2.2.1, τ.2.2.2.2.2.2.2.1, τ.2.2.2.2.2.2.2.2.1, τ.2.2.2.2.2.2.2.2.2.1, τ.2.2.2.2.2.2.2.2.2.2.1, τ.2.2.2.2.2.2.2.2.2.2.2.1, τ.2.2.2.2.2.2.2.2.2.2.2.2.1, τ.2.2.2.2.2.2.2.2.2.2.2.2.2.1, τ.2.2.2.2.2.2.2.2.2.2.2.2.2.2.1, upd τ.2.2.2.2.2.2.2.2.2.2.2.2.2.2.2.1 tl (nI v), nI (tl + 1), τ.2.2.2.2.2.2.2.2.2.2.2.2.2.2.2.2.2), ?_, ?_, M, k, H, w, V, tl + 1, fun j => if j = tl then v else tx j, h1, h2, h3, h4, h5, h6, h7, by omega, rfl, rfl, fun j hj => ?_⟩
      · simp (disch := omega) only [fX6_type, fX4_add, wi6, l_127, l_120, t2, nI_ltI, nI_leI, nI_clamp, Nat.zero_le, true_and, nI_add, l_0, l_1, nI_eq, ↓reduceIte, bnd_some, or_true, true_or, if_pos, if_neg, ↓l_m1, ↓l_m2, ↓l_m3, ↓l_m4]
      · simp (disch := omega) only [fX7_type, wi7, l_127, l_120, t3, nI_leI, nI_clamp, Nat.zero_le, true_and, nI_add, l_0, l_1, nI_eq, ↓reduceIte, bnd_some, or_true, true_or, if_pos, if_neg, ↓l_m1, ↓l_m2, ↓l_m3, ↓l_m4]
      · show upd _ tl _ j = nI (if j = tl then v else tx j) ∧ upd _ tl _ j = nI (if j = tl then v else tx j) ∧ (if j = tl then v else tx j) ≤ 127
        by_cases hjt : j = tl
        · rw [if_pos hjt, hjt, upd_same, upd_same]; exact ⟨rfl, rfl, hv⟩
        · rw [if_neg hjt, upd_ne _ _ _ _ hjt, upd_ne _ _ _ _ hjt]; exact t4 j (by omega)
    · obtain ⟨σ1, τ1, e3, e4, e5⟩ := full_ok h
      have : tl = 120 := by omega
      refine ⟨mI4, σ1, τ1, ?_, ?_, e5⟩
      · simp (disch := omega) only [fX6_type, wi6, l_127, l_120, t2, nI_ltI, e3, l_0, l_1, nI_eq, ↓reduceIte, bnd_some, or_true, true_or, if_pos, if_neg, ↓l_m1, ↓l_m2, ↓l_m3, ↓l_m4]
      · simp (disch := omega) only [fX7_type, wi7, l_127, l_120, t3, e4, l_0, l_1, nI_eq, ↓reduceIte, bnd_some, or_true, true_or, if_pos, if_neg, ↓l_m1, ↓l_m2, ↓l_m3, ↓l_m4]
  · obtain ⟨σ1, τ1, e3, e4, e5⟩ := bad_ok h
    refine ⟨mI2, σ1, τ1, ?_, ?_, e5⟩
    · simp (disch := omega) only [fX6_type, l_127, a1, e3, l_0, l_1, nI_eq, ↓reduceIte, bnd_some, or_true, true_or, if_pos, if_neg, ↓l_m1, ↓l_m2, ↓l_m3, ↓l_m4]
    · simp (disch := omega) only [fX7_type, l_127, a2, e4, l_0, l_1, nI_eq, ↓reduceIte, bnd_some, or_true, true_or, if_pos, if_neg, ↓l_m1, ↓l_m2, ↓l_m3, ↓l_m4]
theorem E_clear : E0 Rel fX6_clear fX7_clear := by
  intro σ τ h
  obtain ⟨M, k, H, w, V, tl, tx, h1, h2, h3, h4, h5, h6, h7, t1, t2, t3, t4⟩ := h
  refine ⟨nI tl, (σ.1, σ.2.1, σ.2.2.1, σ.2.2.2.1, σ.2.2.2.2.1, (σ.2.2.2.2.2.1.1, nI 0, σ.2.2.2.2.2.1.2.2), σ.2.2.2.2.2.2), (τ.1, τ.2.1, τ.2.2.1, τ.2.2.2.1, τ.2.2.2.2.1, τ.2.2.2.2.2.1, τ.2.2.2.2.2.2.1, τ.2.2.2.2.2.2.2.1, τ.2.2.2.2.2.2.2.2.1, τ.2.2.2.2.2.2.2.2.2.1, τ.2.2.2.2.2.2.2.2.2.2.1, τ.2.2.2.2.2.2.2.2.2.2.2.1, τ.2.2.2.2.2.2.2.2.2.2.2.2.1, τ.2.2.2.2.2.2.2.2.2.2.2.2.2.1, τ.2.2.2.2.2.2.2.2.2.2.2.2.2.2.1, τ.2.2.2.2.2.2.2.2.2.2.2.2.2.2.2.1, nI 0, τ.2.2.2.2.2.2.2.2.2.2.2.2.2.2.2.2.2), ?_, ?_, M, k, H, w, V, 0, tx, h1, h2, h3, h4, h5, h6, h7, by omega, rfl, rfl, fun j hj => absurd hj (by omega)⟩
  · simp only [fX6_clear, t2, l_0]
  · simp only [fX7_clear, t3, l_0]
