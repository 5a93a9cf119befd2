def wu (M : AM) (S : Nat → Bool) : AM := mkAM M.n M.cl M.sg S M.wl M.wt
def stb (M : AM) (S : Nat → Bool) : Prop := ∀ p, tm M S p = false
/-- so many waves -/
def Wv (M : AM) (S : Nat → Bool) (w : Nat) : Prop := stb M (it M S w) ∧ ∀ k, k < w → ¬ stb M (it M S k)
theorem Wv_uniq {M : AM} {S : Nat → Bool} {w v : Nat} (h : Wv M S w) (h2 : Wv M S v) : w = v := by
  rcases Nat.lt_trichotomy w v with q | q | q
  · exact absurd h.1 (h2.2 w q)
  · exact q
  · exact absurd h2.1 (h.2 v q)
theorem nx_sub {M : AM} {S : Nat → Bool} {p : Nat} (h : nx M S p = true) : S p = true := by
  unfold nx at h
  cases q : S p
  · rw [q] at h; cases h
  · rfl
theorem it_sub {M : AM} {S : Nat → Bool} : ∀ (k : Nat) {p : Nat}, it M S k p = true → S p = true
  | 0, _, h => h
  | k + 1, _, h => it_sub k (nx_sub h)
theorem tm_sub {M : AM} {S : Nat → Bool} {p : Nat} (h : tm M S p = true) : S p = true := by
  unfold tm at h
  cases q : S p
  · rw [q] at h; cases h
  · rfl
theorem cnt_nx (M : AM) (S : Nat → Bool) : ∀ k, cntB (nx M S) k + cntB (tm M S) k = cntB S k
  | 0 => rfl
  | k + 1 => by
    have ih := cnt_nx M S k
    simp only [cntB]
    cases hs : S k
    · have h1 : nx M S k = false := by unfold nx; rw [hs]; rfl
      have h2 : tm M S k = false := by unfold tm; rw [hs]; rfl
      simp only [h1, h2, Bool.false_eq_true, if_false]
      omega
    · cases ht : tm M S k
      · have h1 : nx M S k = true := by unfold nx; rw [hs, ht]; rfl
        simp only [h1, Bool.false_eq_true, if_true, if_false]
        omega
      · have h1 : nx M S k = false := by unfold nx; rw [hs, ht]; rfl
        simp only [h1, Bool.false_eq_true, if_true, if_false]
        omega
theorem cntB_pos {S : Nat → Bool} : ∀ (k p : Nat), p < k → S p = true → 0 < cntB S k
  | 0, p, h, _ => absurd h (by omega)
  | k + 1, p, h, hs => by
    simp only [cntB]
    by_cases hp : p = k
    · subst hp; rw [if_pos hs]; omega
    · have := cntB_pos k p (by omega) hs
      omega
theorem cntB_zero {S : Nat → Bool} : ∀ (k : Nat), cntB S k = 0 → ∀ p, p < k → S p = false
  | 0, _, p, h => absurd h (by omega)
  | k + 1, h, p, hp => by
    cases q : S p
    · rfl
    · have := cntB_pos (k + 1) p hp q
      omega
theorem not_stb {M : AM} {S : Nat → Bool} (h : ¬ stb M S) : ∃ p, tm M S p = true := by
  apply Classical.byContradiction
  intro q
  apply h
  intro p
  cases e : tm M S p
  · rfl
  · exact absurd ⟨p, e⟩ q
theorem cnt_it {M : AM} {S : Nat → Bool} {n : Nat} (hS : ∀ p, n ≤ p → S p = false) : ∀ (k : Nat), (∀ j, j < k → ¬ stb M (it M S j)) → cntB (it M S k) n + k ≤ cntB S n
  | 0, _ => Nat.le_refl _
  | k + 1, h => by
    have ih := cnt_it (M := M) hS k (fun j hj => h j (by omega))
    obtain ⟨p, hp⟩ := not_stb (h k (by omega))
    have hpn : p < n := by
      rcases Nat.lt_or_ge p n with q | q
      · exact q
      · have := it_sub k (tm_sub hp)
        rw [hS p q] at this; cases this
    have h1 := cntB_pos n p hpn hp
    have h2 := cnt_nx M (it M S k) n
    show cntB (nx M (it M S k)) n + (k + 1) ≤ _
    omega
theorem left_ok {τ : S7} {M : AM} {S : Nat → Bool} {x : Int32} (h : GR τ M S) (hx : hS x S) : ∃ y τ1 w, fX7_left τ x = some (y, τ1) ∧ SM τ τ1 ∧ Wv M S w ∧ hS y (it M S w) ∧ LdR τ1 M (it M S w) := by
  obtain ⟨y0, τ0, e1, e2, e3, -, e4⟩ := tooMuch_ok h hx
  obtain ⟨z, e5, w, e6, e7, e8, e9⟩ := loopM (step := fX7_left_L8) (fun (q : Int32 × Int32 × S7) => ∃ k, SM τ q.2.2 ∧ (∀ j, j < k → ¬ stb M (it M S j)) ∧ hS q.1 (it M S k) ∧ hS q.2.1 (tm M (it M S k)) ∧ LdR q.2.2 M (it M S k)) (fun q => cntB (bt q.1) 13) (fun (q : Int32 × Int32 × S7) => ∃ w, SM τ q.2.2 ∧ Wv M S w ∧ hS q.1 (it M S w) ∧ LdR q.2.2 M (it M S w))
    (by
      rintro ⟨now, much, τ1⟩ ⟨k, i1, i2, i3, i4, i5⟩
      by_cases hz : much = nI 0
      · refine Or.inr ⟨(now, much, τ1), ?_, k, i1, ⟨fun p => ?_, i2⟩, i3, i5⟩
        · simp only [fX7_left_L8, hz, l_0, if_true]
        · rcases Nat.lt_or_ge p 32 with q | q
          · exact (hS_eq0 i4).mp hz p q
          · unfold tm
            have : it M S k p = false := by
              cases e : it M S k p
              · rfl
              · have := it_sub k e; rw [h.2.2.2.2 p (by omega)] at this; cases this
            rw [this, Bool.false_and]
      · have hns : ¬ stb M (it M S k) := fun q => hz ((hS_eq0 i4).mpr (fun p _ => q p))
        have hsub : ∀ p, nx M (it M S k) p = true → S p = true := fun p hp => it_sub k (nx_sub hp)
        have hnow : hS (now &&& (much ^^^ mI)) (it M S (k + 1)) := hS_sub i3 i4
        obtain ⟨y1, τ2, f1, f2, f3, -, f4⟩ := tooMuch_ok (x := now &&& (much ^^^ mI)) (S := it M S (k + 1)) (GR_sub (GR_SM h i1) hsub) hnow
        refine Or.inl ⟨(now &&& (much ^^^ mI), y1, τ2), ?_, ⟨k + 1, SM_tr i1 f2, fun j hj => ?_, hnow, f4, f3⟩, ?_⟩
        · simp only [fX7_left_L8, hz, l_0, ↓l_m1, if_false, bnd_some, f1]
        · by_cases hjk : j = k
          · subst hjk; exact hns
          · exact i2 j (by omega)
        · have c1 : cntB (bt (now &&& (much ^^^ mI))) 13 = cntB (it M S (k + 1)) 13 := cntB_cong 13 (fun i hi => hnow i (by omega))
          have c2 : cntB (bt now) 13 = cntB (it M S k) 13 := cntB_cong 13 (fun i hi => i3 i (by omega))
          show cntB (bt (now &&& (much ^^^ mI))) 13 < cntB (bt now) 13
          rw [c1, c2]
          have h2 := cnt_nx M (it M S k) 13
          obtain ⟨p, hp⟩ := not_stb hns
          have hpn : p < 13 := by
            rcases Nat.lt_or_ge p 13 with q | q
            · exact q
            · have := it_sub k (tm_sub hp)
              rw [h.2.2.2.2 p q] at this; cases this
          have h1 := cntB_pos 13 p hpn hp
          show cntB (nx M (it M S k)) 13 < _
          omega) 5000 (x, y0, τ0) ⟨0, e2, fun j hj => absurd hj (by omega), hx, e4, e3⟩ (by have := cntB_le (bt x) 13; show cntB (bt x) 13 < 5000; omega)
  exact ⟨z.1, z.2.2, w, by simp only [fX7_left, e1, bnd_some, e5], e6, e7, e8, e9⟩
/-- behind a run of the model -/
def GoesR (τ τ1 : S7) (M : AM) (S : Nat → Bool) (w : Nat) : Prop := ∃ u f g a b v, τ1 = (τ.1, τ.2.1, τ.2.2.1, τ.2.2.2.1, τ.2.2.2.2.1, u, τ.2.2.2.2.2.2.1, τ.2.2.2.2.2.2.2.1, τ.2.2.2.2.2.2.2.2.1, f, g, a, b, nI w, v, τ.2.2.2.2.2.2.2.2.2.2.2.2.2.2.2) ∧ hS u (it M S w) ∧ ∀ k, k < w → hS (v k) (tm M (it M S k))
theorem goes_ok {τ : S7} {M : AM} {S : Nat → Bool} (h : GR τ M S) (hx : hS τ.2.2.2.2.2.1 S) (hc : cntB S 13 ≤ 12) : ∃ τ1 w, fX7_goes τ = some τ1 ∧ Wv M S w ∧ GoesR τ τ1 M S w := by
  obtain ⟨y0, τ0, e1, e2, e3, -, e4⟩ := tooMuch_ok (τ := (τ.1, τ.2.1, τ.2.2.1, τ.2.2.2.1, τ.2.2.2.2.1, τ.2.2.2.2.2.1, τ.2.2.2.2.2.2.1, τ.2.2.2.2.2.2.2.1, τ.2.2.2.2.2.2.2.2.1, τ.2.2.2.2.2.2.2.2.2.1, τ.2.2.2.2.2.2.2.2.2.2.1, τ.2.2.2.2.2.2.2.2.2.2.2.1, τ.2.2.2.2.2.2.2.2.2.2.2.2.1, nI 0, τ.2.2.2.2.2.2.2.2.2.2.2.2.2.2)) (x := τ.2.2.2.2.2.1) h hx
  obtain ⟨f0, g0, a0, b0, rfl⟩ := e2
  obtain ⟨z, e5, w, e6, e7⟩ := loopM (step := fX7_goes_L13) (fun (q : Int32 × S7) => ∃ k, (∀ j, j < k → ¬ stb M (it M S j)) ∧ GoesR τ q.2 M S k ∧ hS q.1 (tm M (it M S k))) (fun q => cntB (bt q.2.2.2.2.2.2.1) 13) (fun (q : Int32 × S7) => ∃ w, Wv M S w ∧ GoesR τ q.2 M S w)
    (by
      rintro ⟨much, τ1⟩ ⟨k, i2, ⟨u, f, g, a, b, v, rfl, i3, i5⟩, i4⟩
      by_cases hz : much = nI 0
      · refine Or.inr ⟨(much, _), ?_, k, ⟨fun p => ?_, i2⟩, u, f, g, a, b, v, rfl, i3, i5⟩
        · simp only [fX7_goes_L13, hz, l_0, if_true]
        · rcases Nat.lt_or_ge p 32 with q | q
          · exact (hS_eq0 i4).mp hz p q
          · unfold tm
            have : it M S k p = false := by
              cases e : it M S k p
              · rfl
              · have := it_sub k e; rw [h.2.2.2.2 p (by omega)] at this; cases this
            rw [this, Bool.false_and]
      · have hns : ¬ stb M (it M S k) := fun q => hz ((hS_eq0 i4).mpr (fun p _ => q p))
        have hsub : ∀ p, nx M (it M S k) p = true → S p = true := fun p hp => it_sub k (nx_sub hp)
        have hnow : hS (u &&& (much ^^^ mI)) (it M S (k + 1)) := hS_sub i3 i4
        have hcnt := cnt_it (M := M) h.2.2.2.2 (k + 1) (fun j hj => by
          by_cases hjk : j = k
          · subst hjk; exact hns
          · exact i2 j (by omega))
        have hk : k < 13 := by omega
        obtain ⟨y1, τ2, f1, f2, f3, -, f4⟩ := tooMuch_ok (τ := (τ.1, τ.2.1, τ.2.2.1, τ.2.2.2.1, τ.2.2.2.2.1, u &&& (much ^^^ mI), τ.2.2.2.2.2.2.1, τ.2.2.2.2.2.2.2.1, τ.2.2.2.2.2.2.2.2.1, f, g, a, b, nI (k + 1), upd v k much, τ.2.2.2.2.2.2.2.2.2.2.2.2.2.2.2)) (x := u &&& (much ^^^ mI)) (S := it M S (k + 1)) (GR_sub (τ := (τ.1, τ.2.1, τ.2.2.1, τ.2.2.2.1, τ.2.2.2.2.1, u &&& (much ^^^ mI), τ.2.2.2.2.2.2.1, τ.2.2.2.2.2.2.2.1, τ.2.2.2.2.2.2.2.2.1, f, g, a, b, nI (k + 1), upd v k much, τ.2.2.2.2.2.2.2.2.2.2.2.2.2.2.2)) h hsub) hnow
        obtain ⟨f0, g0, a0, b0, rfl⟩ := f2
        refine Or.inl ⟨(y1, _), ?_, ⟨k + 1, fun j hj => ?_, ⟨u &&& (much ^^^ mI), f0, g0, a0, b0, upd v k much, rfl, hnow, fun j hj => ?_⟩, f4⟩, ?_⟩
        · simp (disch := omega) only [fX7_goes_L13, hz, l_0, l_1, l_13, ↓l_m1, if_false, nI_leI, nI_clamp, Nat.zero_le, true_and, if_pos, nI_add, bnd_some, f1]
        · by_cases hjk : j = k
          · subst hjk; exact hns
          · exact i2 j (by omega)
        · by_cases hjk : j = k
          · subst hjk; rw [upd_same]; exact i4
          · rw [upd_ne _ _ _ _ hjk]; exact i5 j (by omega)
        · have c1 : cntB (bt (u &&& (much ^^^ mI))) 13 = cntB (it M S (k + 1)) 13 := cntB_cong 13 (fun i hi => hnow i (by omega))
          have c2 : cntB (bt u) 13 = cntB (it M S k) 13 := cntB_cong 13 (fun i hi => i3 i (by omega))
          show cntB (bt (u &&& (much ^^^ mI))) 13 < cntB (bt u) 13
          rw [c1, c2]
          have h2 := cnt_nx M (it M S k) 13
          obtain ⟨p, hp⟩ := not_stb hns
          have hpn : p < 13 := by
            rcases Nat.lt_or_ge p 13 with q | q
            · exact q
            · have := it_sub k (tm_sub hp)
              rw [h.2.2.2.2 p q] at this; cases this
          have h1 := cntB_pos 13 p hpn hp
          show cntB (nx M (it M S k)) 13 < _
          omega) 5000 (y0, _) ⟨0, fun j hj => absurd hj (by omega), ⟨τ.2.2.2.2.2.1, f0, g0, a0, b0, τ.2.2.2.2.2.2.2.2.2.2.2.2.2.2.1, rfl, hx, fun k hk => absurd hk (by omega)⟩, e4⟩ (by have := cntB_le (bt τ.2.2.2.2.2.1) 13; show cntB (bt τ.2.2.2.2.2.1) 13 < 5000; omega)
  exact ⟨z.2, w, by simp only [fX7_goes, fX7_noWaves, l_0, bnd_some, e1, e5], e6, e7⟩
