/-! does -/
theorem MK_tr {τ τ1 τ2 : S7} (h : MK τ τ1) (h2 : MK τ1 τ2) : MK τ τ2 := by
  obtain ⟨⟨a1, a2, a3⟩, ⟨a4, a5⟩, a6, a7, a8⟩ := h
  obtain ⟨⟨b1, b2, b3⟩, ⟨b4, b5⟩, b6, b7, b8⟩ := h2
  exact ⟨⟨b1.trans a1, b2.trans a2, b3.trans a3⟩, ⟨b4.trans a4, b5.trans a5⟩, b6.trans a6, b7.trans a7, b8.trans a8⟩
theorem MK_rfl (τ : S7) : MK τ τ := ⟨⟨rfl, rfl, rfl⟩, ⟨rfl, rfl⟩, rfl, rfl, rfl⟩
def JR (tl : Nat) (tx : Nat → Nat) (τ0 : S7) (k : Nat) (a a0 : Nat) (t : S4) (s : S5) (y : Int32) (τ : S7) : Prop :=
  y = nI 1 ∧ k ≤ a ∧ a ≤ 120 ∧ a0 ≤ 120 ∧ PT t tl tx a mI ∧ Sk tl tx a0 a ∧ PM τ tl tx a0 ∧ MK τ0 τ ∧ ∃ M w V, MR s.1 M ∧ RunR s.2.2 w V ∧ TR τ M ∧ WR τ w V
def JB (tl : Nat) (tx : Nat → Nat) (τ0 : S7) (t : S4) (y : Int32) (τ : S7) : Prop := y = nI 0 ∧ ∃ f, f ≤ 120 ∧ FT 121 t tl tx f ∧ τ.2.2.2.2.2.2.2.2.2.2.2.2.2.2.2.2.2.1 = nI f ∧ MK τ0 τ
def PE (tl : Nat) (tx : Nat → Nat) (τ0 : S7) (t : S4) (s : S5) (y : Int32) (τ : S7) : Prop := (y = nI 1 ∧ (∃ a, PT t tl tx a mI) ∧ MK τ0 τ ∧ ∃ M w V, MR s.1 M ∧ RunR s.2.2 w V ∧ TR τ M ∧ WR τ w V) ∨ JB tl tx τ0 t y τ
theorem skip_ft {t : S4} {tl : Nat} {tx : Nat → Nat} {f : Nat} (hx : TX tl tx) (h : FT 121 t tl tx f) : ∃ t1, fX4_skipBlanks t = some t1 ∧ FT 121 t1 tl tx f := by
  obtain ⟨a, ha, hp⟩ := h
  have hl := hx.1
  obtain ⟨b, hs⟩ := Sk_ex tl tx 120 a (by omega)
  have e1 := skip_c hx hp (by omega) hs
  obtain ⟨s1, s2, s3, s4⟩ := hs
  exact ⟨_, e1, b, by omega, hp.1, hp.2.1, rfl, hp.2.2.2⟩
theorem rows_both {t : S4} {s : S5} {τ τ0 : S7} {tl : Nat} {tx : Nat → Nat} {a : Nat} (hx : TX tl tx) (h : JR tl tx τ0 0 a a t s (nI 1) τ) : ∃ r r', loopF fX4_read_L35 5000 (nI 0, t, s) = some r ∧ loopF fX7_does_L27 5000 (nI 1, τ) = some r' ∧ PE tl tx τ0 r.2.1 r.2.2 r'.1 r'.2 := by
  have hl := hx.1
  refine loop2M (step := fX4_read_L35) (step' := fX7_does_L27) (fun n (q : Int32 × S4 × S5) (q' : Int32 × S7) => (∃ k a a0, q.1 = nI k ∧ n = 200 - a ∧ JR tl tx τ0 k a a0 q.2.1 q.2.2 q'.1 q'.2) ∨ (n = 0 ∧ (∃ k, k < 1000 ∧ q.1 = nI k) ∧ JB tl tx τ0 q.2.1 q'.1 q'.2)) (fun (r : Int32 × S4 × S5) (r' : Int32 × S7) => PE tl tx τ0 r.2.1 r.2.2 r'.1 r'.2) ?_ 5000 (200 - a) (nI 0, t, s) (nI 1, τ) ?_ (by omega)
  · rintro n ⟨x, t1, s1⟩ ⟨y, τ1⟩ hj
    rcases hj with ⟨k, a, a0, rfl, rfl, rfl, j1, j2, j3, j4, j5, j6, j7, M, w, V, j8, j9, j10, j11⟩ | ⟨rfl, ⟨k, hk, rfl⟩, hjb⟩
    · have j4 : PT t1 tl tx a mI := j4
      have j6 : PM τ1 tl tx a0 := j6
      have j7 : MK τ0 τ1 := j7
      have j8 : MR s1.1 M := j8
      have j9 : RunR s1.2.2 w V := j9
      have j10 : TR τ1 M := j10
      have j11 : WR τ1 w V := j11
      have e1 := here_m hx j6 (by omega) j5
      obtain ⟨p1, p2, p3, p4⟩ := j4
      by_cases hge : tl ≤ a
      · rw [if_pos hge] at e1
        refine Or.inr ⟨(nI k, t1, s1), (nI 1, (τ1.1, τ1.2.1, τ1.2.2.1, τ1.2.2.2.1, τ1.2.2.2.2.1, τ1.2.2.2.2.2.1, τ1.2.2.2.2.2.2.1, τ1.2.2.2.2.2.2.2.1, τ1.2.2.2.2.2.2.2.2.1, τ1.2.2.2.2.2.2.2.2.2.1, τ1.2.2.2.2.2.2.2.2.2.2.1, τ1.2.2.2.2.2.2.2.2.2.2.2.1, τ1.2.2.2.2.2.2.2.2.2.2.2.2.1, τ1.2.2.2.2.2.2.2.2.2.2.2.2.2.1, τ1.2.2.2.2.2.2.2.2.2.2.2.2.2.2.1, τ1.2.2.2.2.2.2.2.2.2.2.2.2.2.2.2.1, τ1.2.2.2.2.2.2.2.2.2.2.2.2.2.2.2.2.1, nI a, τ1.2.2.2.2.2.2.2.2.2.2.2.2.2.2.2.2.2.2)), ?_, ?_, Or.inl ⟨rfl, ⟨a, p1, p2, p3, p4⟩, MK_tr j7 ⟨⟨rfl, rfl, rfl⟩, ⟨rfl, rfl⟩, rfl, rfl, rfl⟩, M, w, V, j8, j9, j10, j11⟩⟩
        · by_cases h120 : 120 ≤ k
          · simp (disch := omega) only [fX4_read_L35, l_0, l_1, l_2, l_3, l_4, l_5, l_6, l_7, l_8, l_9, l_10, l_11, l_12, l_13, l_14, l_15, l_16, l_17, l_18, l_19, l_20, l_21, l_24, l_28, l_31, l_32, l_33, l_45, l_47, l_48, l_57, l_59, l_84, l_95, l_96, l_100, l_112, l_119, l_120, l_127, l_140, l_700, l_840, l_999, l_4095, l_999999, ↓l_m1, ↓l_m2, ↓l_m3, ↓l_m4, ↓l_m10, ↓l_m10000, nI_leI, nI_ltI, nI_eq, mI_le, mI_lt, le_mI, lt_mI, mI_eq, eq_mI, nI_add, pk_mul, pk_sub, pk_div, nI_clamp, md_eq, Nat.zero_le, true_and, and_true, and_self, if_pos, if_neg, Option.bind_some, bnd_some, Sum.elim_inl, Sum.elim_inr, ↓reduceIte]
          · simp (disch := omega) only [fX4_read_L35, p2, p3, l_0, l_1, l_2, l_3, l_4, l_5, l_6, l_7, l_8, l_9, l_10, l_11, l_12, l_13, l_14, l_15, l_16, l_17, l_18, l_19, l_20, l_21, l_24, l_28, l_31, l_32, l_33, l_45, l_47, l_48, l_57, l_59, l_84, l_95, l_96, l_100, l_112, l_119, l_120, l_127, l_140, l_700, l_840, l_999, l_4095, l_999999, ↓l_m1, ↓l_m2, ↓l_m3, ↓l_m4, ↓l_m10, ↓l_m10000, nI_leI, nI_ltI, nI_eq, mI_le, mI_lt, le_mI, lt_mI, mI_eq, eq_mI, nI_add, pk_mul, pk_sub, pk_div, nI_clamp, md_eq, Nat.zero_le, true_and, and_true, and_self, if_pos, if_neg, Option.bind_some, bnd_some, Sum.elim_inl, Sum.elim_inr, ↓reduceIte]
        · simp (disch := omega) only [fX7_does_L27, e1, l_0, ↓l_m1, n10, if_true, if_false, bnd_some]
      · rw [if_neg hge] at e1
        have h32 : tx a ≠ 32 := by rcases j5.2.2.2 with q | q; omega; exact q
        have hxa := hx.2 a (by omega)
        have hcm : ¬ nI (tx a) = mI := by rw [eq_mI (by omega)]; exact id
        have hord := order_both (s := s1) (τ := (τ1.1, τ1.2.1, τ1.2.2.1, τ1.2.2.2.1, τ1.2.2.2.2.1, τ1.2.2.2.2.2.1, τ1.2.2.2.2.2.2.1, τ1.2.2.2.2.2.2.2.1, τ1.2.2.2.2.2.2.2.2.1, τ1.2.2.2.2.2.2.2.2.2.1, τ1.2.2.2.2.2.2.2.2.2.2.1, τ1.2.2.2.2.2.2.2.2.2.2.2.1, τ1.2.2.2.2.2.2.2.2.2.2.2.2.1, τ1.2.2.2.2.2.2.2.2.2.2.2.2.2.1, τ1.2.2.2.2.2.2.2.2.2.2.2.2.2.2.1, τ1.2.2.2.2.2.2.2.2.2.2.2.2.2.2.2.1, τ1.2.2.2.2.2.2.2.2.2.2.2.2.2.2.2.2.1, nI a, τ1.2.2.2.2.2.2.2.2.2.2.2.2.2.2.2.2.2.2)) hx ⟨p1, p2, p3, p4⟩ ⟨j6.1, j6.2.1, rfl⟩ (by omega) h32 j8 j10 j9 j11
        rcases hord with ⟨e, t2, s2, τ2, M2, w2, V2, o1, o2, o3, o4, o5, o6, o7, o8, o9, o10, o11⟩ | ⟨f, t2, s2, τ2, o1, o2, o3, o4, o5, o6⟩
        · obtain ⟨b, hs⟩ := Sk_ex tl tx 120 e (by omega)
          have hb := Sk_le hs hl (by omega)
          have hbe := hs.1
          have g1 := skip_c hx o4 (by omega) hs
          have hmk : MK τ0 τ2 := MK_tr (MK_tr j7 ⟨⟨rfl, rfl, rfl⟩, ⟨rfl, rfl⟩, rfl, rfl, rfl⟩) o10
          refine Or.inl ⟨200 - b, (nI (k + 1), (t2.1, t2.2.1, nI b, t2.2.2.2), s2), (nI 1, τ2), by omega, ?_, ?_, Or.inl ⟨k + 1, b, e, rfl, rfl, rfl, by omega, hb, by omega, ⟨o4.1, o4.2.1, rfl, o4.2.2.2⟩, hs, ⟨?_, ?_, o11⟩, hmk, M2, w2, V2, o5, o6, o8, o9⟩⟩
          · simp (disch := omega) only [fX4_read_L35, p2, p3, p4, o3, g1, l_0, l_1, l_2, l_3, l_4, l_5, l_6, l_7, l_8, l_9, l_10, l_11, l_12, l_13, l_14, l_15, l_16, l_17, l_18, l_19, l_20, l_21, l_24, l_28, l_31, l_32, l_33, l_45, l_47, l_48, l_57, l_59, l_84, l_95, l_96, l_100, l_112, l_119, l_120, l_127, l_140, l_700, l_840, l_999, l_4095, l_999999, ↓l_m1, ↓l_m2, ↓l_m3, ↓l_m4, ↓l_m10, ↓l_m10000, nI_leI, nI_ltI, nI_eq, mI_le, mI_lt, le_mI, lt_mI, mI_eq, eq_mI, nI_add, pk_mul, pk_sub, pk_div, nI_clamp, md_eq, Nat.zero_le, true_and, and_true, and_self, if_pos, if_neg, Option.bind_some, bnd_some, Sum.elim_inl, Sum.elim_inr, ↓reduceIte]
          · simp (disch := omega) only [fX7_does_L27, e1, hcm, o7, l_0, ↓l_m1, n10, if_true, if_false, bnd_some]
          · intro j hj
            have := j6.1 j hj
            rw [← this]
            have q := o10.2.1.1
            exact congrFun q j
          · exact o10.2.1.2.trans j6.2.1
        · obtain ⟨t3, g1, g2⟩ := skip_ft hx o3
          have hmk : MK τ0 τ2 := MK_tr (MK_tr j7 ⟨⟨rfl, rfl, rfl⟩, ⟨rfl, rfl⟩, rfl, rfl, rfl⟩) o5
          refine Or.inl ⟨0, (nI (k + 1), t3, s2), (nI 0, τ2), by omega, ?_, ?_, Or.inr ⟨rfl, ⟨k + 1, by omega, rfl⟩, rfl, f, o1, g2, o6, hmk⟩⟩
          · simp (disch := omega) only [fX4_read_L35, p2, p3, p4, o2, g1, l_0, l_1, l_2, l_3, l_4, l_5, l_6, l_7, l_8, l_9, l_10, l_11, l_12, l_13, l_14, l_15, l_16, l_17, l_18, l_19, l_20, l_21, l_24, l_28, l_31, l_32, l_33, l_45, l_47, l_48, l_57, l_59, l_84, l_95, l_96, l_100, l_112, l_119, l_120, l_127, l_140, l_700, l_840, l_999, l_4095, l_999999, ↓l_m1, ↓l_m2, ↓l_m3, ↓l_m4, ↓l_m10, ↓l_m10000, nI_leI, nI_ltI, nI_eq, mI_le, mI_lt, le_mI, lt_mI, mI_eq, eq_mI, nI_add, pk_mul, pk_sub, pk_div, nI_clamp, md_eq, Nat.zero_le, true_and, and_true, and_self, if_pos, if_neg, Option.bind_some, bnd_some, Sum.elim_inl, Sum.elim_inr, ↓reduceIte]
          · simp (disch := omega) only [fX7_does_L27, e1, hcm, o4, l_0, ↓l_m1, n10, if_true, if_false, bnd_some]
    · obtain ⟨rfl, f, f1, f2, f3, f4⟩ := hjb
      have hf := FT_fault f2 (by omega)
      have hf : ¬ t1.2.2.2.1 = mI := hf
      refine Or.inr ⟨(nI k, t1, s1), (nI 0, τ1), ?_, ?_, Or.inr ⟨rfl, f, f1, f2, f3, f4⟩⟩
      · simp only [fX4_read_L35, ↓l_m1, hf, if_false, ite_self]
      · simp only [fX7_does_L27, l_0, if_true]
  · exact Or.inl ⟨0, a, a, rfl, rfl, h⟩
theorem runcopy_ok {r : S2} {w : Nat} {V : Nat → Nat → Bool} (h : RunR r w V) (x : S2) : ∃ r1, fX2_copy x r = some r1 ∧ RunR r1 w V := by
  refine ⟨_, rfl, h.1, fun p hp => ?_⟩
  simp only [c0, c12]
  rw [cpy_in hp]
  exact h.2 p hp
theorem waves_loop {τ : S7} : ∃ v, loopF (fX7_does_L65 τ) 5000 (nI 0, τ.2.2.2.2.2.2.2.2.2.2.2.2.2.2.1) = some v ∧ ∀ p, p < 13 → v.2 p = τ.2.2.2.2.2.2.2.2.2.2.2.2.2.2.2.2.2.2.2.2.2.1 p :=
  loopI (step := fX7_does_L65 τ) (fun i (q : Int32 × (Nat → Int32)) => q.1 = nI i ∧ (∀ p, p < i → q.2 p = τ.2.2.2.2.2.2.2.2.2.2.2.2.2.2.2.2.2.2.2.2.2.1 p)) (fun q => ∀ p, p < 13 → q.2 p = τ.2.2.2.2.2.2.2.2.2.2.2.2.2.2.2.2.2.2.2.2.2.1 p) 13 (F := 5000) (by omega) (s0 := (nI 0, τ.2.2.2.2.2.2.2.2.2.2.2.2.2.2.1)) ⟨rfl, fun p hp => absurd hp (by omega)⟩
    (by
      rintro i ⟨x, f⟩ hi ⟨rfl, i2⟩
      refine ⟨(nI (i + 1), upd f i (τ.2.2.2.2.2.2.2.2.2.2.2.2.2.2.2.2.2.2.2.2.2.1 i)), ?_, rfl, fun p hp => ?_⟩
      · simp (disch := omega) only [fX7_does_L65, l_0, l_1, l_2, l_3, l_4, l_5, l_6, l_7, l_8, l_9, l_10, l_11, l_12, l_13, l_14, l_15, l_16, l_17, l_18, l_19, l_20, l_21, l_24, l_28, l_31, l_32, l_33, l_45, l_47, l_48, l_57, l_59, l_84, l_95, l_96, l_100, l_112, l_119, l_120, l_127, l_140, l_700, l_840, l_999, l_4095, l_999999, ↓l_m1, ↓l_m2, ↓l_m3, ↓l_m4, ↓l_m10, ↓l_m10000, nI_leI, nI_ltI, nI_eq, mI_le, mI_lt, le_mI, lt_mI, mI_eq, eq_mI, nI_add, pk_mul, pk_sub, pk_div, nI_clamp, md_eq, Nat.zero_le, true_and, and_true, and_self, if_pos, if_neg, Option.bind_some, bnd_some, Sum.elim_inl, Sum.elim_inr, ↓reduceIte]
      · show upd f _ _ p = _
        by_cases hpi : p = i
        · subst hpi; exact upd_same _ _ _
        · rw [upd_ne _ _ _ _ (by omega)]; exact i2 p (by omega))
    (by
      rintro ⟨x, f⟩ ⟨rfl, i2⟩
      refine ⟨(nI 13, f), ?_, i2⟩
      simp (disch := omega) only [fX7_does_L65, l_0, l_1, l_2, l_3, l_4, l_5, l_6, l_7, l_8, l_9, l_10, l_11, l_12, l_13, l_14, l_15, l_16, l_17, l_18, l_19, l_20, l_21, l_24, l_28, l_31, l_32, l_33, l_45, l_47, l_48, l_57, l_59, l_84, l_95, l_96, l_100, l_112, l_119, l_120, l_127, l_140, l_700, l_840, l_999, l_4095, l_999999, ↓l_m1, ↓l_m2, ↓l_m3, ↓l_m4, ↓l_m10, ↓l_m10000, nI_leI, nI_ltI, nI_eq, mI_le, mI_lt, le_mI, lt_mI, mI_eq, eq_mI, nI_add, pk_mul, pk_sub, pk_div, nI_clamp, md_eq, Nat.zero_le, true_and, and_true, and_self, if_pos, if_neg, Option.bind_some, bnd_some, Sum.elim_inl, Sum.elim_inr, ↓reduceIte])
theorem TxR_of {t : S4} {τ : S7} {tl : Nat} {tx : Nat → Nat} {a : Nat} {F : Int32} (hx : TX tl tx) (h : PT t tl tx a F) (h2 : τ.2.2.2.2.2.2.2.2.2.2.2.2.2.2.2.2.1 = nI tl) (h3 : ∀ j, j < tl → τ.2.2.2.2.2.2.2.2.2.2.2.2.2.2.2.1 j = nI (tx j)) : TxR t τ tl tx := ⟨hx.1, h.2.1, h2, fun j hj => ⟨h.1 j hj, h3 j hj, hx.2 j hj⟩⟩
theorem E_does : E0 Rel fX6_does fX7_does := by
  intro σ τ h
  obtain ⟨M, c, H, w, V, tl, tx, hB⟩ := h
  have hHO := HC_OK hB.2.2.2.1
  obtain ⟨s3, kp1, kp2⟩ := keep_ok hB.2.2.2.1 hB.1
  obtain ⟨h1, h2, h3, h4, h5, h6, h7, h8⟩ := hB
  have hx : TX tl tx := ⟨h8.1, fun j hj => (h8.2.2.2 j hj).2.2⟩
  have hl := hx.1
  obtain ⟨m0, c1, c2⟩ := copy_ok h1 σ.2.2.2.2.1.1
  obtain ⟨r0, c3, c4⟩ := runcopy_ok h6 σ.2.2.2.2.1.2.2
  obtain ⟨a, hs⟩ := Sk_ex tl tx 120 0 (by omega)
  have ha := Sk_le hs hl (by omega)
  have hpt : PT (σ.2.2.2.2.2.1.1, σ.2.2.2.2.2.1.2.1, nI 0, mI, σ.2.2.2.2.2.1.2.2.2.2) tl tx 0 mI := ⟨fun j hj => (h8.2.2.2 j hj).1, h8.2.1, rfl, rfl⟩
  have hpm : PM (τ.1, τ.2.1, τ.2.2.1, τ.2.2.2.1, τ.2.2.2.2.1, τ.2.2.2.2.2.1, τ.2.2.2.2.2.2.1, τ.2.2.2.2.2.2.2.1, τ.2.2.2.2.2.2.2.2.1, τ.2.2.2.2.2.2.2.2.2.1, τ.2.2.2.2.2.2.2.2.2.2.1, τ.2.2.2.2.2.2.2.2.2.2.2.1, τ.2.2.2.2.2.2.2.2.2.2.2.2.1, τ.2.2.2.2.2.2.2.2.2.2.2.2.2.1, τ.2.2.2.2.2.2.2.2.2.2.2.2.2.2.1, τ.2.2.2.2.2.2.2.2.2.2.2.2.2.2.2.1, τ.2.2.2.2.2.2.2.2.2.2.2.2.2.2.2.2.1, nI 0, τ.2.2.2.2.2.2.2.2.2.2.2.2.2.2.2.2.2.2) tl tx 0 := ⟨fun j hj => (h8.2.2.2 j hj).2.1, h8.2.2.1, rfl⟩
  have e1 := skip_c hx hpt (by omega) hs
  have e2 := here_m hx hpm (by omega) hs
  have hlen : σ.2.2.2.2.2.1.2.1 = nI tl := h8.2.1
  by_cases hge : tl ≤ a
  · have hat : a = tl := by have := hs.2.1; omega
    subst hat
    rw [if_pos hge] at e2
    have hlp : loopF fX4_read_L35_1 5000 (nI 0, (σ.2.2.2.2.2.1.1, σ.2.2.2.2.2.1.2.1, nI a, nI a, σ.2.2.2.2.2.1.2.2.2.2), (m0, σ.2.2.2.2.1.2.1, r0)) = some (nI 0, (σ.2.2.2.2.2.1.1, σ.2.2.2.2.2.1.2.1, nI a, nI a, σ.2.2.2.2.2.1.2.2.2.2), (m0, σ.2.2.2.2.1.2.1, r0)) := by
      rw [show (5000 : Nat) = 4999 + 1 from rfl, loopF_s]
      have : fX4_read_L35_1 (nI 0, (σ.2.2.2.2.2.1.1, σ.2.2.2.2.2.1.2.1, nI a, nI a, σ.2.2.2.2.2.1.2.2.2.2), (m0, σ.2.2.2.2.1.2.1, r0)) = some (.inr (nI 0, (σ.2.2.2.2.2.1.1, σ.2.2.2.2.2.1.2.1, nI a, nI a, σ.2.2.2.2.2.1.2.2.2.2), (m0, σ.2.2.2.2.1.2.1, r0))) := by
        simp (disch := omega) only [fX4_read_L35_1, hlen, l_0, l_1, l_2, l_3, l_4, l_5, l_6, l_7, l_8, l_9, l_10, l_11, l_12, l_13, l_14, l_15, l_16, l_17, l_18, l_19, l_20, l_21, l_24, l_28, l_31, l_32, l_33, l_45, l_47, l_48, l_57, l_59, l_84, l_95, l_96, l_100, l_112, l_119, l_120, l_127, l_140, l_700, l_840, l_999, l_4095, l_999999, ↓l_m1, ↓l_m2, ↓l_m3, ↓l_m4, ↓l_m10, ↓l_m10000, nI_leI, nI_ltI, nI_eq, mI_le, mI_lt, le_mI, lt_mI, mI_eq, eq_mI, nI_add, pk_mul, pk_sub, pk_div, nI_clamp, md_eq, Nat.zero_le, true_and, and_true, and_self, if_pos, if_neg, Option.bind_some, bnd_some, Sum.elim_inl, Sum.elim_inr, ↓reduceIte]
      rw [this]
      rfl
    have hnl : ¬ nI a < σ.2.2.2.2.2.1.2.1 := by rw [hlen, nI_ltI (by omega) (by omega)]; omega
    have hrd : fX4_read σ.2.2.2.2.2.1 (m0, σ.2.2.2.2.1.2.1, r0) = some (nI a, (σ.2.2.2.2.2.1.1, σ.2.2.2.2.2.1.2.1, nI a, nI a, σ.2.2.2.2.2.1.2.2.2.2), (m0, σ.2.2.2.2.1.2.1, r0)) := by
      unfold fX4_read
      rw [l_0, l_m1, e1, bnd_some, if_neg hnl]
      have hfl : fX4_fail (σ.2.2.2.2.2.1.1, σ.2.2.2.2.2.1.2.1, nI a, mI, σ.2.2.2.2.2.1.2.2.2.2) σ.2.2.2.2.2.1.2.1 = some (σ.2.2.2.2.2.1.1, σ.2.2.2.2.2.1.2.1, nI a, nI a, σ.2.2.2.2.2.1.2.2.2.2) := by
        unfold fX4_fail
        rw [l_m1, if_pos rfl, hlen]
      rw [hfl, bnd_some, hlp, bnd_some]
    have hcm : ¬ nI a = mI := by rw [eq_mI (by omega)]; exact id
    refine ⟨(-10 : Int32) - nI a, (σ.1, σ.2.1, σ.2.2.1, σ.2.2.2.1, (m0, σ.2.2.2.2.1.2.1, r0), (σ.2.2.2.2.2.1.1, σ.2.2.2.2.2.1.2.1, nI a, nI a, σ.2.2.2.2.2.1.2.2.2.2), σ.2.2.2.2.2.2), (τ.1, τ.2.1, τ.2.2.1, τ.2.2.2.1, τ.2.2.2.2.1, τ.2.2.2.2.2.1, τ.2.2.2.2.2.2.1, τ.2.2.2.2.2.2.2.1, τ.2.2.2.2.2.2.2.2.1, τ.2.2.2.2.2.2.2.2.2.1, τ.2.2.2.2.2.2.2.2.2.2.1, τ.2.2.2.2.2.2.2.2.2.2.2.1, τ.2.2.2.2.2.2.2.2.2.2.2.2.1, τ.2.2.2.2.2.2.2.2.2.2.2.2.2.1, τ.2.2.2.2.2.2.2.2.2.2.2.2.2.2.1, τ.2.2.2.2.2.2.2.2.2.2.2.2.2.2.2.1, τ.2.2.2.2.2.2.2.2.2.2.2.2.2.2.2.2.1, nI a, τ.2.2.2.2.2.2.2.2.2.2.2.2.2.2.2.2.2.2), ?_, ?_, M, c, H, w, V, a, tx, h1, h2, h3, h4, h5, h6, h7, h8⟩
    · unfold fX6_does fX5_start
      rw [c1, bnd_some, bnd_some, c3, bnd_some, hrd, bnd_some, l_m1, if_neg hcm]
    · unfold fX7_does
      rw [l_0, e2, bnd_some, l_m1, if_pos rfl]
      dsimp only
      rw [h8.2.2.1]
  · rw [if_neg hge] at e2
    have hxa := hx.2 a (by omega)
    have hcm : ¬ nI (tx a) = mI := by rw [eq_mI (by omega)]; exact id
    obtain ⟨g, f, k1, k2, k3⟩ := keepsAhead_ok (τ := (τ.1, τ.2.1, τ.2.2.1, τ.2.2.2.1, τ.2.2.2.2.1, τ.2.2.2.2.2.1, τ.2.2.2.2.2.2.1, τ.2.2.2.2.2.2.2.1, τ.2.2.2.2.2.2.2.2.1, τ.2.2.2.2.2.2.2.2.2.1, τ.2.2.2.2.2.2.2.2.2.2.1, τ.2.2.2.2.2.2.2.2.2.2.2.1, τ.2.2.2.2.2.2.2.2.2.2.2.2.1, τ.2.2.2.2.2.2.2.2.2.2.2.2.2.1, τ.2.2.2.2.2.2.2.2.2.2.2.2.2.2.1, τ.2.2.2.2.2.2.2.2.2.2.2.2.2.2.2.1, τ.2.2.2.2.2.2.2.2.2.2.2.2.2.2.2.2.1, nI a, τ.2.2.2.2.2.2.2.2.2.2.2.2.2.2.2.2.2.2)) (M := M) h2 h1.1
    obtain ⟨τ0, ht0⟩ : ∃ τ0, τ0 = (τ.1, τ.2.1, τ.2.2.1, τ.2.2.2.1, τ.2.2.2.2.1, τ.2.2.2.2.2.1, τ.2.2.2.2.2.2.1, τ.2.2.2.2.2.2.2.1, τ.2.2.2.2.2.2.2.2.1, τ.2.2.2.2.2.2.2.2.2.1, τ.2.2.2.2.2.2.2.2.2.2.1, τ.2.2.2.2.2.2.2.2.2.2.2.1, τ.2.2.2.2.2.2.2.2.2.2.2.2.1, τ.2.2.2.2.2.2.2.2.2.2.2.2.2.1, τ.2.2.2.2.2.2.2.2.2.2.2.2.2.2.1, τ.2.2.2.2.2.2.2.2.2.2.2.2.2.2.2.1, τ.2.2.2.2.2.2.2.2.2.2.2.2.2.2.2.2.1, nI a, τ.2.2.2.2.2.2.2.2.2.2.2.2.2.2.2.2.2.2.1, τ.2.2.2.2.2.2.2.2.2.2.2.2.2.2.2.2.2.2.2.1, τ.2.2.2.2.2.2.2.2.2.2.2.2.2.1, g, f) := ⟨_, rfl⟩
    have k1' : fX7_keepsAhead (τ.1, τ.2.1, τ.2.2.1, τ.2.2.2.1, τ.2.2.2.2.1, τ.2.2.2.2.2.1, τ.2.2.2.2.2.2.1, τ.2.2.2.2.2.2.2.1, τ.2.2.2.2.2.2.2.2.1, τ.2.2.2.2.2.2.2.2.2.1, τ.2.2.2.2.2.2.2.2.2.2.1, τ.2.2.2.2.2.2.2.2.2.2.2.1, τ.2.2.2.2.2.2.2.2.2.2.2.2.1, τ.2.2.2.2.2.2.2.2.2.2.2.2.2.1, τ.2.2.2.2.2.2.2.2.2.2.2.2.2.2.1, τ.2.2.2.2.2.2.2.2.2.2.2.2.2.2.2.1, τ.2.2.2.2.2.2.2.2.2.2.2.2.2.2.2.2.1, nI a, τ.2.2.2.2.2.2.2.2.2.2.2.2.2.2.2.2.2.2) = some τ0 := by rw [ht0]; exact k1
    have hjr : JR tl tx τ0 0 a a (σ.2.2.2.2.2.1.1, σ.2.2.2.2.2.1.2.1, nI a, mI, σ.2.2.2.2.2.1.2.2.2.2) (m0, σ.2.2.2.2.1.2.1, r0) (nI 1) τ0 := by
      refine ⟨rfl, by omega, ha, ha, ⟨hpt.1, hpt.2.1, rfl, rfl⟩, Sk_self hs, ?_, MK_rfl τ0, M, w, V, c2, c4, ?_, ?_⟩
      · rw [ht0]; exact ⟨hpm.1, hpm.2.1, rfl⟩
      · rw [ht0]; exact h2
      · rw [ht0]; exact h7
    obtain ⟨r, r', l1, l2, l3⟩ := rows_both hx hjr
    obtain ⟨rk, rt, rs⟩ := r
    obtain ⟨ry, τ1⟩ := r'
    have hlt : nI a < σ.2.2.2.2.2.1.2.1 := by rw [hlen, nI_ltI (by omega) (by omega)]; omega
    have hrd : fX4_read σ.2.2.2.2.2.1 (m0, σ.2.2.2.2.1.2.1, r0) = some (rt.2.2.2.1, rt, rs) := by
      unfold fX4_read
      rw [l_0, l_m1, e1, bnd_some, if_pos hlt, l1, bnd_some]
    have hah : τ0.2.2.2.2.2.2.2.2.2.2.2.2.2.2.2.2.2.2.2.2.2.2 = f := by rw [ht0]
    rcases l3 with ⟨q1, ⟨ae, q2⟩, q3, M1, w1, V1, q4, q5, q6, q7⟩ | ⟨q1, ff, q2, q3, q4, q5⟩
    · have q1 : ry = nI 1 := q1
      have q2 : PT rt tl tx ae mI := q2
      have q3 : MK τ0 τ1 := q3
      have q4 : MR rs.1 M1 := q4
      have q5 : RunR rs.2.2 w1 V1 := q5
      have q6 : TR τ1 M1 := q6
      have q7 : WR τ1 w1 V1 := q7
      subst q1
      obtain ⟨m1, d1, d2⟩ := copy_ok q4 σ.1
      obtain ⟨r1, d3, d4⟩ := runcopy_ok q5 σ.2.2.1
      have hHM : HM τ1 c H := ⟨h5.1, by rw [q3.1.2.1, ht0]; exact h5.2.1, fun i hi => by rw [q3.1.2.2, ht0]; exact h5.2.2 i hi⟩
      obtain ⟨f2, g1, g2⟩ := leavesAhead_ok q6 q4.1 h1.1 hHM hHO (by rw [q3.2.2.2.2, hah]; exact k2)
      have o6 := countStanding_ok d2
      have o7 := ones_ok (x := τ1.2.2.2.2.2.1) q6.2.2.2.1
      rw [cnt_12 q4.1.1 q4.1.2.2.2.1] at o7
      refine ⟨nI (cntB M1.up M1.n), (m1, σ.2.1, r1, s3, rs, rt, σ.2.2.2.2.2.2), (τ1.1, τ1.2.1, τ1.2.2.1, τ1.2.2.2.1, τ1.2.2.2.2.1, τ1.2.2.2.2.2.1, τ1.2.2.2.2.2.2.1, nI (nC c), f2, τ1.2.2.2.2.2.2.2.2.2), ?_, ?_, M1, nC c, nH c H M, w1, V1, tl, tx, d2, q6, ?_, kp2, g2, d4, q7, TxR_of hx q2 ?_ ?_⟩
      · unfold fX6_does fX5_start
        have hf := q2.2.2.2
        rw [c1, bnd_some, bnd_some, c3, bnd_some, hrd, bnd_some, l_m1, if_pos hf, kp1, bnd_some, d1, bnd_some, d3, bnd_some, o6, bnd_some]
      · unfold fX7_does
        rw [l_0, e2, bnd_some, l_m1, if_neg hcm, k1', bnd_some, l_1, l2, bnd_some, if_neg n10, g1, bnd_some, o7, bnd_some]
      · intro j hj
        rw [h3 j hj]
        have := q3.1.1
        rw [ht0] at this
        exact (congrFun this j).symm
      · have := q3.2.1.2
        rw [ht0] at this
        exact this.trans h8.2.2.1
      · intro j hj
        have := q3.2.1.1
        rw [ht0] at this
        exact (congrFun this j).trans (h8.2.2.2 j hj).2.1
    · have q1 : ry = nI 0 := q1
      have q3 : FT 121 rt tl tx ff := q3
      have q4 : τ1.2.2.2.2.2.2.2.2.2.2.2.2.2.2.2.2.2.1 = nI ff := q4
      have q5 : MK τ0 τ1 := q5
      subst q1
      have hf := FT_fault q3 (by omega)
      obtain ⟨ae, hae, q3'⟩ := q3
      obtain ⟨aw, an, ac, as, au, al, g1, g2⟩ := asAhead_ok (τ := τ1) (M := M) (by rw [q5.2.2.2.2, hah]; exact k2) h1.1
      obtain ⟨τ2, ht2⟩ : ∃ τ2, τ2 = (τ1.1, aw, an, ac, as, au, al, τ1.2.2.2.2.2.2.2) := ⟨_, rfl⟩
      rw [← ht2] at g1 g2
      obtain ⟨v, v1, v2⟩ := waves_loop (τ := τ2)
      have hfe := q3'.2.2.2
      have hra : τ2.2.2.2.2.2.2.2.2.2.2.2.2.2.2.2.2.2.1 = nI ff := by rw [ht2]; exact q4
      refine ⟨(-10 : Int32) - nI ff, (σ.1, σ.2.1, σ.2.2.1, σ.2.2.2.1, rs, rt, σ.2.2.2.2.2.2), (τ2.1, τ2.2.1, τ2.2.2.1, τ2.2.2.2.1, τ2.2.2.2.2.1, τ2.2.2.2.2.2.1, τ2.2.2.2.2.2.2.1, τ2.2.2.2.2.2.2.2.1, τ2.2.2.2.2.2.2.2.2.1, τ2.2.2.2.2.2.2.2.2.2.1, τ2.2.2.2.2.2.2.2.2.2.2.1, τ2.2.2.2.2.2.2.2.2.2.2.2.1, τ2.2.2.2.2.2.2.2.2.2.2.2.2.1, τ2.2.2.2.2.2.2.2.2.2.2.2.2.2.2.2.2.2.2.2.2.1, v.2, τ2.2.2.2.2.2.2.2.2.2.2.2.2.2.2.2), ?_, ?_, M, c, H, w, V, tl, tx, h1, g2, ?_, h4, ⟨h5.1, ?_, fun i hi => ?_⟩, h6, ⟨?_, h7.2.1, fun k hk => ?_, h7.2.2.2.1, h7.2.2.2.2⟩, TxR_of hx q3' ?_ ?_⟩
      · unfold fX6_does fX5_start
        rw [c1, bnd_some, bnd_some, c3, bnd_some, hrd, bnd_some, l_m1, if_neg hf, hfe]
      · unfold fX7_does
        rw [l_0, e2, bnd_some, l_m1, if_neg hcm, k1', bnd_some, l_1, l2, bnd_some, if_pos rfl, g1, bnd_some, v1, bnd_some, hra]
      · intro j hj
        rw [h3 j hj]
        have := q5.1.1
        rw [ht0] at this
        rw [ht2]
        exact (congrFun this j).symm
      · have := q5.1.2.1
        rw [ht0] at this
        rw [ht2]
        exact this.trans h5.2.1
      · have := q5.1.2.2
        rw [ht0] at this
        rw [ht2]
        show KR τ1.2.2.2.2.2.2.2.2.1 (140 * i) (H i)
        rw [this]
        exact h5.2.2 i hi
      · have := q5.2.2.1
        rw [ht0] at this
        show τ2.2.2.2.2.2.2.2.2.2.2.2.2.2.2.2.2.2.2.2.2.1 = nI w
        rw [ht2]
        exact this.trans h7.1
      · show hS (v.2 k) (V k)
        have hw12 := h7.2.1
        rw [v2 k (by omega)]
        have := q5.2.2.2.1
        rw [ht0] at this
        have t2 : τ2.2.2.2.2.2.2.2.2.2.2.2.2.2.2.2.2.2.2.2.2.2.1 = g := by rw [ht2]; exact this
        rw [t2, k3 k (by omega)]
        exact h7.2.2.1 k hk
      · have := q5.2.1.2
        rw [ht0] at this
        rw [ht2]
        exact this.trans h8.2.2.1
      · intro j hj
        have := q5.2.1.1
        rw [ht0] at this
        rw [ht2]
        exact (congrFun this j).trans (h8.2.2.2 j hj).2.1
