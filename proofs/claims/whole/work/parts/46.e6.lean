/-! would, worst, bestWall -/
theorem loop2 {σ ρ σ' ρ' : Type} {step : σ → Option (σ ⊕ ρ)} {step' : σ' → Option (σ' ⊕ ρ')} (J : Nat → σ → σ' → Prop) (P : ρ → ρ' → Prop) (n : Nat) {F : Nat} (hF : n < F) {s0 : σ} {t0 : σ'} (h0 : J 0 s0 t0)
    (hs : ∀ i s t, i < n → J i s t → ∃ s1 t1, step s = some (.inl s1) ∧ step' t = some (.inl t1) ∧ J (i + 1) s1 t1) (he : ∀ s t, J n s t → ∃ r r', step s = some (.inr r) ∧ step' t = some (.inr r') ∧ P r r') : ∃ r r', loopF step F s0 = some r ∧ loopF step' F t0 = some r' ∧ P r r' := by
  have key : ∀ (k i : Nat) (s : σ) (t : σ') (F : Nat), i + k = n → J i s t → k < F → ∃ r r', loopF step F s = some r ∧ loopF step' F t = some r' ∧ P r r' := by
    intro k
    induction k with
    | zero =>
      intro i s t F hi hI hF
      obtain ⟨r, r', h1, h2, h3⟩ := he s t (by rw [← hi]; exact hI)
      cases F with
      | zero => omega
      | succ F => exact ⟨r, r', by rw [loopF_s, h1]; rfl, by rw [loopF_s, h2]; rfl, h3⟩
    | succ k ih =>
      intro i s t F hi hI hF
      obtain ⟨s1, t1, h1, h2, h3⟩ := hs i s t (by omega) hI
      cases F with
      | zero => omega
      | succ F =>
        obtain ⟨r, r', h4, h5, h6⟩ := ih (i + 1) s1 t1 F (by omega) h3 (by omega)
        exact ⟨r, r', by rw [loopF_s, h1]; exact h4, by rw [loopF_s, h2]; exact h5, h6⟩
  exact key n 0 s0 t0 F (by omega) h0 hF
theorem ldN1_le {b : Nat → Nat} {p : Nat} : ∀ k, ldN (fun _ => 1) b p k ≤ k
  | 0 => Nat.le_refl _
  | k + 1 => by
    have := ldN1_le (b := b) (p := p) k
    simp only [ldN]
    split <;> omega
theorem brI_m {k : Nat} (hk : k ≤ 13) : (brI k = mI) ↔ k = 13 := by
  unfold brI
  by_cases h : k = 13
  · rw [if_pos h]; exact ⟨fun _ => h, fun _ => rfl⟩
  · rw [if_neg h, eq_mI (by omega)]
    exact ⟨False.elim, fun q => absurd q h⟩
theorem countFallen_ok {b : S0} {M : AM} (h : BR b M) : fX0_countFallen b = some (nI (rest M M.up 13)) := by
  obtain ⟨z, e1, e2⟩ := loopI (step := fX0_countFallen_L4 b) (fun i (q : Int32 × Int32) => q = (nI (ldN (fun _ => 1) (br M.cl M.wl M.up) 13 i), nI i)) (fun q => q.1 = nI (rest M M.up 13)) 96 (F := 5000) (by omega) (s0 := ((0 : Int32), (0 : Int32))) rfl
    (by
      rintro i q hi rfl
      have hb := h.1 i hi
      have hle := br_le M.cl M.wl M.up i
      have hm := brI_m hle
      have hld := ldN1_le (b := br M.cl M.wl M.up) (p := 13) i
      refine ⟨_, ?_, rfl⟩
      by_cases hc : br M.cl M.wl M.up i = 13
      · simp only [ldN, if_pos hc]
        rw [hm.mpr hc] at hb
        simp (disch := omega) only [fX0_countFallen_L4, hb, l_0, l_1, l_2, l_3, l_4, l_5, l_6, l_7, l_8, l_9, l_10, l_11, l_12, l_13, l_14, l_15, l_16, l_17, l_18, l_19, l_20, l_21, l_24, l_28, l_31, l_32, l_33, l_45, l_47, l_48, l_57, l_59, l_84, l_95, l_96, l_100, l_112, l_119, l_120, l_127, l_140, l_700, l_840, l_999, l_4095, l_999999, ↓l_m1, ↓l_m2, ↓l_m3, ↓l_m4, ↓l_m10, ↓l_m10000, nI_leI, nI_ltI, nI_eq, mI_le, mI_lt, le_mI, lt_mI, mI_eq, eq_mI, nI_add, pk_mul, pk_sub, pk_div, nI_clamp, md_eq, Nat.zero_le, true_and, and_true, and_self, if_pos, if_neg, Option.bind_some, bnd_some, Sum.elim_inl, Sum.elim_inr, ↓reduceIte]
      · simp only [ldN, if_neg hc, Nat.add_zero]
        have hmn : ¬ brI (br M.cl M.wl M.up i) = mI := fun q => hc (hm.mp q)
        simp (disch := omega) only [fX0_countFallen_L4, hb, hmn, l_0, l_1, l_2, l_3, l_4, l_5, l_6, l_7, l_8, l_9, l_10, l_11, l_12, l_13, l_14, l_15, l_16, l_17, l_18, l_19, l_20, l_21, l_24, l_28, l_31, l_32, l_33, l_45, l_47, l_48, l_57, l_59, l_84, l_95, l_96, l_100, l_112, l_119, l_120, l_127, l_140, l_700, l_840, l_999, l_4095, l_999999, ↓l_m1, ↓l_m2, ↓l_m3, ↓l_m4, ↓l_m10, ↓l_m10000, nI_leI, nI_ltI, nI_eq, mI_le, mI_lt, le_mI, lt_mI, mI_eq, eq_mI, nI_add, pk_mul, pk_sub, pk_div, nI_clamp, md_eq, Nat.zero_le, true_and, and_true, and_self, if_pos, if_neg, Option.bind_some, bnd_some, Sum.elim_inl, Sum.elim_inr, ↓reduceIte])
    (by
      rintro q rfl
      refine ⟨(nI (ldN (fun _ => 1) (br M.cl M.wl M.up) 13 96), nI 96), ?_, rfl⟩
      simp (disch := omega) only [fX0_countFallen_L4, l_0, l_1, l_2, l_3, l_4, l_5, l_6, l_7, l_8, l_9, l_10, l_11, l_12, l_13, l_14, l_15, l_16, l_17, l_18, l_19, l_20, l_21, l_24, l_28, l_31, l_32, l_33, l_45, l_47, l_48, l_57, l_59, l_84, l_95, l_96, l_100, l_112, l_119, l_120, l_127, l_140, l_700, l_840, l_999, l_4095, l_999999, ↓l_m1, ↓l_m2, ↓l_m3, ↓l_m4, ↓l_m10, ↓l_m10000, nI_leI, nI_ltI, nI_eq, mI_le, mI_lt, le_mI, lt_mI, mI_eq, eq_mI, nI_add, pk_mul, pk_sub, pk_div, nI_clamp, md_eq, Nat.zero_le, true_and, and_true, and_self, if_pos, if_neg, Option.bind_some, bnd_some, Sum.elim_inl, Sum.elim_inr, ↓reduceIte])
  have e1' : fX0_countFallen b = Option.bind (some z) (fun z5 => some z5.1) := by rw [← e1]; rfl
  rw [e1', bnd_some, e2]
theorem MR_del {m : S1} {M : AM} (h : MR m M) (p : Nat) : MR (m.1, m.2.1, m.2.2.1, upd m.2.2.2.1 p (nI 0), m.2.2.2.2) (wu M (fun i => M.up i && !decide (i = p))) := by
  refine ⟨⟨h.1.1, h.1.2.1, h.1.2.2.1, fun i (hi : M.n ≤ i) => ?_, h.1.2.2.2.2⟩, h.2.1, h.2.2.1, h.2.2.2.1, fun i (hi : i < M.n) => ?_, h.2.2.2.2.2⟩
  · show (M.up i && _) = false
    rw [h.1.2.2.2.1 i hi]; rfl
  · show upd _ p _ i = bI (M.up i && !decide (i = p))
    by_cases hip : i = p
    · subst hip; rw [upd_same, decide_eq_true rfl]; cases M.up i <;> rfl
    · rw [upd_ne _ _ _ _ hip, decide_eq_false hip, h.2.2.2.2.1 i hi]; cases M.up i <;> rfl
theorem del_sub {S : Nat → Bool} {p i : Nat} (h : (S i && !decide (i = p)) = true) : S i = true := by
  cases q : S i
  · rw [q] at h; cases h
  · rfl
/-- the loss of a pillar, tried out on both sides -/
theorem loss_both {m : S1} {τ : S7} {M : AM} (h1 : MR m M) (h2 : TR τ M) {p : Nat} (hp : p < M.n) (hu : M.up p = true) (t : S5) : ∃ v u t1 τ1, fX5_lose t m (nI p) = some (nI v, t1) ∧ fX7_lossOf τ (nI p) = some (nI v, τ1) ∧ SM τ τ1 ∧ fX0_countFallen t1.2.1 = some (nI u) ∧ τ1.2.2.2.2.2.2.2.2.2.2.2.2.1 13 = nI u ∧ v ≤ 12 := by
  have hn := h1.1.1
  obtain ⟨m0, c1, c2⟩ := copy_ok h1 t.1
  have hmr := MR_del c2 p
  have hτ := hS_del h2.2.2.2.1 (j := p) (by omega)
  have hgr := GR_sub (T := fun i => M.up i && !decide (i = p)) (TR_GR h2 h1.1) (fun i hi => del_sub hi)
  have hdel : cntB (fun i => M.up i && !decide (i = p)) M.n + 1 = cntB M.up M.n := by
    have := cnt_del (S := M.up) (p := p) M.n
    rw [if_pos ⟨hp, hu⟩] at this
    exact this
  obtain ⟨S, hS0⟩ : ∃ S : Nat → Bool, S = fun i => M.up i && !decide (i = p) := ⟨_, rfl⟩
  rw [← hS0] at hmr hτ hgr hdel
  obtain ⟨w, r1, m1, b1, e1, e2, e3, e4, e5, e6, e7⟩ := crush_ok hmr t.2.2 t.2.1
  obtain ⟨y, τ1, v, g1, g2, g3, g4, g5⟩ := left_ok (M := M) hgr hτ
  have hwv := Wv_uniq e2 g3
  subst hwv
  have hitn : ∀ i, M.n ≤ i → it M S w i = false := e5.1.2.2.2.1
  have ho1 := ones_ok (x := τ.2.2.2.2.2.1) h2.2.2.2.1
  rw [cnt_12 hn h1.1.2.2.2.1] at ho1
  have ho2 := ones_ok g4
  rw [cnt_12 hn hitn] at ho2
  have hc := cntB_le M.up M.n
  have hs : cntB M.up M.n - cntB (it M S w) M.n = 1 + (cntB S M.n - cntB (it M S w) M.n) := by omega
  have hcf := countFallen_ok e6
  have hrr : rest (wu M (it M S w)) (wu M (it M S w)).up 13 = rest M (it M S w) 13 := rfl
  rw [hrr] at hcf
  refine ⟨cntB M.up M.n - cntB (it M S w) M.n, rest M (it M S w) 13, (m1, b1, r1), τ1, ?_, ?_, g2, hcf, g5.2 13 (by omega), by omega⟩
  · rw [hs]
    simp (disch := omega) only [fX5_lose, fX5_start, fX5_crush, c1, l_0, l_1, nI_leI, nI_clamp, Nat.zero_le, true_and, if_pos, bnd_some, e1, nI_add]
  · simp (disch := omega) only [fX7_lossOf, ho1, l_1, l_31, ↓l_m1, g1, ho2, pk_sub, bnd_some]
theorem E_would : E2 Rel fX6_would fX7_would := by
  intro σ τ x y h
  have hh := h
  obtain ⟨M, k, H, w, V, tl, tx, hB⟩ := hh
  rcases wp hB.1 hB.2.1 x with ⟨p, hp, rfl, p1, p2⟩ | ⟨a1, a2⟩
  · rcases wi y (k := 1) (by omega) with ⟨q, hq, rfl⟩ | ⟨a1, a2⟩
    · have hn := hB.1.1.1
      have st6 := isStanding_ok hB.1 (p := p) (by omega)
      have st7 := stands_ok hB.2.1 (j := p) (by omega)
      cases hu : M.up p
      · rw [hu, bI_f] at st6 st7
        obtain ⟨σ1, τ1, e3, e4, e5⟩ := no_ok h
        refine ⟨mI3, σ1, τ1, ?_, ?_, e5⟩
        · simp (disch := omega) only [fX6_would, p1, wi6, st6, e3, l_0, l_1, nI_eq, ↓reduceIte, bnd_some, or_true, true_or, if_pos, if_neg, ↓l_m1, ↓l_m2, ↓l_m3, ↓l_m4]
        · simp (disch := omega) only [fX7_would, p2, wi7, st7, e4, l_0, l_1, nI_eq, ↓reduceIte, bnd_some, or_true, true_or, if_pos, if_neg, ↓l_m1, ↓l_m2, ↓l_m3, ↓l_m4]
      · rw [hu, bI_t] at st6 st7
        obtain ⟨v, u, t1, τ1, f1, f2, f3, f4, f5, f6⟩ := loss_both hB.1 hB.2.1 hp hu σ.2.2.2.2.1
        rcases (show q = 0 ∨ q = 1 by omega) with rfl | rfl
        · refine ⟨nI v, _, τ1, ?_, ?_, Rel_SM hB f3 σ.2.1 t1⟩
          · simp (disch := omega) only [fX6_would, p1, wi6, st6, f1, l_0, l_1, nI_eq, ↓reduceIte, bnd_some, or_true, true_or, if_pos, if_neg, ↓l_m1, ↓l_m2, ↓l_m3, ↓l_m4]
          · simp (disch := omega) only [fX7_would, p2, wi7, st7, f2, l_0, l_1, nI_eq, ↓reduceIte, bnd_some, or_true, true_or, if_pos, if_neg, ↓l_m1, ↓l_m2, ↓l_m3, ↓l_m4]
        · refine ⟨nI u, _, τ1, ?_, ?_, Rel_SM hB f3 σ.2.1 t1⟩
          · simp (disch := omega) only [fX6_would, p1, wi6, st6, f1, f4, l_0, l_1, nI_eq, ↓reduceIte, bnd_some, or_true, true_or, if_pos, if_neg, ↓l_m1, ↓l_m2, ↓l_m3, ↓l_m4]
          · simp (disch := omega) only [fX7_would, p2, wi7, st7, f2, l_13, nI_leI, nI_clamp, Nat.zero_le, true_and, f5, l_0, l_1, nI_eq, ↓reduceIte, bnd_some, or_true, true_or, if_pos, if_neg, ↓l_m1, ↓l_m2, ↓l_m3, ↓l_m4]
    · obtain ⟨σ1, τ1, e3, e4, e5⟩ := bad_ok h
      refine ⟨mI2, σ1, τ1, ?_, ?_, e5⟩
      · simp (disch := omega) only [fX6_would, p1, a1, e3, l_0, l_1, nI_eq, ↓reduceIte, bnd_some, or_true, true_or, if_pos, if_neg, ↓l_m1, ↓l_m2, ↓l_m3, ↓l_m4]
      · simp (disch := omega) only [fX7_would, p2, a2, e4, l_0, l_1, nI_eq, ↓reduceIte, bnd_some, or_true, true_or, if_pos, if_neg, ↓l_m1, ↓l_m2, ↓l_m3, ↓l_m4]
  · obtain ⟨σ1, τ1, e3, e4, e5⟩ := bad_ok h
    refine ⟨mI2, σ1, τ1, ?_, ?_, e5⟩
    · simp (disch := omega) only [fX6_would, a1, e3, l_0, l_1, nI_eq, ↓reduceIte, bnd_some, or_true, true_or, if_pos, if_neg, ↓l_m1, ↓l_m2, ↓l_m3, ↓l_m4]
    · simp (disch := omega) only [fX7_would, a2, e4, l_0, l_1, nI_eq, ↓reduceIte, bnd_some, or_true, true_or, if_pos, if_neg, ↓l_m1, ↓l_m2, ↓l_m3, ↓l_m4]
theorem TR_SM {τ τ1 : S7} {M : AM} (h : TR τ M) (h2 : SM τ τ1) : TR τ1 M := by
  obtain ⟨f, g, a, c, rfl⟩ := h2
  exact h
theorem E_worst : E1 Rel fX6_worst fX7_worst := by
  intro σ τ x h
  rcases wi x (k := 1) (by omega) with ⟨q, hq, rfl⟩ | ⟨a1, a2⟩
  · obtain ⟨M, k, H, w, V, tl, tx, hB⟩ := h
    have hn := hB.1.1.1
    obtain ⟨z, y, e1, e2, e3, e4, e5⟩ := loop2 (step := fX6_worst_L22 σ) (step' := fX7_worst_L21) (fun i (s : Int32 × Int32 × Int32 × S5) (t : Int32 × Int32 × Int32 × S7) => s.1 = t.1 ∧ (∃ mo, mo ≤ 12 ∧ s.2.1 = nI mo ∧ t.2.1 = nI mo) ∧ (s.2.2.1 = nI i ∧ t.2.2.1 = nI i) ∧ SM τ t.2.2.2) (fun (s : Int32 × Int32 × Int32 × S5) (t : Int32 × Int32 × Int32 × S7) => s.1 = t.1 ∧ s.2.1 = t.2.1 ∧ SM τ t.2.2.2) M.n (F := 5000) (by omega) (s0 := ((-1 : Int32), (0 : Int32), (0 : Int32), σ.2.2.2.2.1)) (t0 := ((-1 : Int32), (0 : Int32), (0 : Int32), τ)) ⟨rfl, ⟨0, by omega, rfl, rfl⟩, ⟨rfl, rfl⟩, SM_rfl τ⟩
      (by
        rintro i ⟨b, mo6, i6, t⟩ ⟨b', mo7, i7, τ0⟩ hi ⟨rfl, ⟨mo, hmo, rfl, rfl⟩, ⟨rfl, rfl⟩, hsm⟩
        have hsm : SM τ τ0 := hsm
        have h2' := TR_SM hB.2.1 hsm
        have st6 := isStanding_ok hB.1 (p := i) (by omega)
        have st7 := stands_ok h2' (j := i) (by omega)
        have m6 := hB.1.2.1
        have m7 := h2'.1
        cases hu : M.up i
        · rw [hu, bI_f] at st6 st7
          refine ⟨(b, nI mo, nI (i + 1), t), (b, nI mo, nI (i + 1), τ0), ?_, ?_, rfl, ⟨mo, hmo, rfl, rfl⟩, ⟨rfl, rfl⟩, hsm⟩
          · simp (disch := omega) only [fX6_worst_L22, m6, st6, l_0, l_1, l_2, l_3, l_4, l_5, l_6, l_7, l_8, l_9, l_10, l_11, l_12, l_13, l_14, l_15, l_16, l_17, l_18, l_19, l_20, l_21, l_24, l_28, l_31, l_32, l_33, l_45, l_47, l_48, l_57, l_59, l_84, l_95, l_96, l_100, l_112, l_119, l_120, l_127, l_140, l_700, l_840, l_999, l_4095, l_999999, ↓l_m1, ↓l_m2, ↓l_m3, ↓l_m4, ↓l_m10, ↓l_m10000, nI_leI, nI_ltI, nI_eq, mI_le, mI_lt, le_mI, lt_mI, mI_eq, eq_mI, nI_add, pk_mul, pk_sub, pk_div, nI_clamp, md_eq, Nat.zero_le, true_and, and_true, and_self, if_pos, if_neg, Option.bind_some, bnd_some, Sum.elim_inl, Sum.elim_inr, ↓reduceIte]
          · simp (disch := omega) only [fX7_worst_L21, m7, st7, l_0, l_1, l_2, l_3, l_4, l_5, l_6, l_7, l_8, l_9, l_10, l_11, l_12, l_13, l_14, l_15, l_16, l_17, l_18, l_19, l_20, l_21, l_24, l_28, l_31, l_32, l_33, l_45, l_47, l_48, l_57, l_59, l_84, l_95, l_96, l_100, l_112, l_119, l_120, l_127, l_140, l_700, l_840, l_999, l_4095, l_999999, ↓l_m1, ↓l_m2, ↓l_m3, ↓l_m4, ↓l_m10, ↓l_m10000, nI_leI, nI_ltI, nI_eq, mI_le, mI_lt, le_mI, lt_mI, mI_eq, eq_mI, nI_add, pk_mul, pk_sub, pk_div, nI_clamp, md_eq, Nat.zero_le, true_and, and_true, and_self, if_pos, if_neg, Option.bind_some, bnd_some, Sum.elim_inl, Sum.elim_inr, ↓reduceIte]
        · rw [hu, bI_t] at st6 st7
          obtain ⟨v, u, t1, τ1, f1, f2, f3, f4, f5, f6⟩ := loss_both hB.1 h2' hi hu t
          by_cases hc : v ≤ mo
          · refine ⟨(b, nI mo, nI (i + 1), t1), (b, nI mo, nI (i + 1), τ1), ?_, ?_, rfl, ⟨mo, hmo, rfl, rfl⟩, ⟨rfl, rfl⟩, SM_tr hsm f3⟩
            · simp (disch := omega) only [fX6_worst_L22, m6, st6, f1, l_0, l_1, l_2, l_3, l_4, l_5, l_6, l_7, l_8, l_9, l_10, l_11, l_12, l_13, l_14, l_15, l_16, l_17, l_18, l_19, l_20, l_21, l_24, l_28, l_31, l_32, l_33, l_45, l_47, l_48, l_57, l_59, l_84, l_95, l_96, l_100, l_112, l_119, l_120, l_127, l_140, l_700, l_840, l_999, l_4095, l_999999, ↓l_m1, ↓l_m2, ↓l_m3, ↓l_m4, ↓l_m10, ↓l_m10000, nI_leI, nI_ltI, nI_eq, mI_le, mI_lt, le_mI, lt_mI, mI_eq, eq_mI, nI_add, pk_mul, pk_sub, pk_div, nI_clamp, md_eq, Nat.zero_le, true_and, and_true, and_self, if_pos, if_neg, Option.bind_some, bnd_some, Sum.elim_inl, Sum.elim_inr, ↓reduceIte]
            · simp (disch := omega) only [fX7_worst_L21, m7, st7, f2, l_0, l_1, l_2, l_3, l_4, l_5, l_6, l_7, l_8, l_9, l_10, l_11, l_12, l_13, l_14, l_15, l_16, l_17, l_18, l_19, l_20, l_21, l_24, l_28, l_31, l_32, l_33, l_45, l_47, l_48, l_57, l_59, l_84, l_95, l_96, l_100, l_112, l_119, l_120, l_127, l_140, l_700, l_840, l_999, l_4095, l_999999, ↓l_m1, ↓l_m2, ↓l_m3, ↓l_m4, ↓l_m10, ↓l_m10000, nI_leI, nI_ltI, nI_eq, mI_le, mI_lt, le_mI, lt_mI, mI_eq, eq_mI, nI_add, pk_mul, pk_sub, pk_div, nI_clamp, md_eq, Nat.zero_le, true_and, and_true, and_self, if_pos, if_neg, Option.bind_some, bnd_some, Sum.elim_inl, Sum.elim_inr, ↓reduceIte]
          · refine ⟨(nI i, nI v, nI (i + 1), t1), (nI i, nI v, nI (i + 1), τ1), ?_, ?_, rfl, ⟨v, f6, rfl, rfl⟩, ⟨rfl, rfl⟩, SM_tr hsm f3⟩
            · simp (disch := omega) only [fX6_worst_L22, m6, st6, f1, l_0, l_1, l_2, l_3, l_4, l_5, l_6, l_7, l_8, l_9, l_10, l_11, l_12, l_13, l_14, l_15, l_16, l_17, l_18, l_19, l_20, l_21, l_24, l_28, l_31, l_32, l_33, l_45, l_47, l_48, l_57, l_59, l_84, l_95, l_96, l_100, l_112, l_119, l_120, l_127, l_140, l_700, l_840, l_999, l_4095, l_999999, ↓l_m1, ↓l_m2, ↓l_m3, ↓l_m4, ↓l_m10, ↓l_m10000, nI_leI, nI_ltI, nI_eq, mI_le, mI_lt, le_mI, lt_mI, mI_eq, eq_mI, nI_add, pk_mul, pk_sub, pk_div, nI_clamp, md_eq, Nat.zero_le, true_and, and_true, and_self, if_pos, if_neg, Option.bind_some, bnd_some, Sum.elim_inl, Sum.elim_inr, ↓reduceIte]
            · simp (disch := omega) only [fX7_worst_L21, m7, st7, f2, l_0, l_1, l_2, l_3, l_4, l_5, l_6, l_7, l_8, l_9, l_10, l_11, l_12, l_13, l_14, l_15, l_16, l_17, l_18, l_19, l_20, l_21, l_24, l_28, l_31, l_32, l_33, l_45, l_47, l_48, l_57, l_59, l_84, l_95, l_96, l_100, l_112, l_119, l_120, l_127, l_140, l_700, l_840, l_999, l_4095, l_999999, ↓l_m1, ↓l_m2, ↓l_m3, ↓l_m4, ↓l_m10, ↓l_m10000, nI_leI, nI_ltI, nI_eq, mI_le, mI_lt, le_mI, lt_mI, mI_eq, eq_mI, nI_add, pk_mul, pk_sub, pk_div, nI_clamp, md_eq, Nat.zero_le, true_and, and_true, and_self, if_pos, if_neg, Option.bind_some, bnd_some, Sum.elim_inl, Sum.elim_inr, ↓reduceIte])
      (by
        rintro ⟨b, mo6, i6, t⟩ ⟨b', mo7, i7, τ0⟩ ⟨rfl, ⟨mo, hmo, rfl, rfl⟩, ⟨rfl, rfl⟩, hsm⟩
        have hsm : SM τ τ0 := hsm
        have h2' := TR_SM hB.2.1 hsm
        have m6 := hB.1.2.1
        have m7 := h2'.1
        refine ⟨(b, nI mo, nI M.n, t), (b, nI mo, nI M.n, τ0), ?_, ?_, rfl, rfl, hsm⟩
        · simp (disch := omega) only [fX6_worst_L22, m6, l_0, l_1, l_2, l_3, l_4, l_5, l_6, l_7, l_8, l_9, l_10, l_11, l_12, l_13, l_14, l_15, l_16, l_17, l_18, l_19, l_20, l_21, l_24, l_28, l_31, l_32, l_33, l_45, l_47, l_48, l_57, l_59, l_84, l_95, l_96, l_100, l_112, l_119, l_120, l_127, l_140, l_700, l_840, l_999, l_4095, l_999999, ↓l_m1, ↓l_m2, ↓l_m3, ↓l_m4, ↓l_m10, ↓l_m10000, nI_leI, nI_ltI, nI_eq, mI_le, mI_lt, le_mI, lt_mI, mI_eq, eq_mI, nI_add, pk_mul, pk_sub, pk_div, nI_clamp, md_eq, Nat.zero_le, true_and, and_true, and_self, if_pos, if_neg, Option.bind_some, bnd_some, Sum.elim_inl, Sum.elim_inr, ↓reduceIte]
        · simp (disch := omega) only [fX7_worst_L21, m7, l_0, l_1, l_2, l_3, l_4, l_5, l_6, l_7, l_8, l_9, l_10, l_11, l_12, l_13, l_14, l_15, l_16, l_17, l_18, l_19, l_20, l_21, l_24, l_28, l_31, l_32, l_33, l_45, l_47, l_48, l_57, l_59, l_84, l_95, l_96, l_100, l_112, l_119, l_120, l_127, l_140, l_700, l_840, l_999, l_4095, l_999999, ↓l_m1, ↓l_m2, ↓l_m3, ↓l_m4, ↓l_m10, ↓l_m10000, nI_leI, nI_ltI, nI_eq, mI_le, mI_lt, le_mI, lt_mI, mI_eq, eq_mI, nI_add, pk_mul, pk_sub, pk_div, nI_clamp, md_eq, Nat.zero_le, true_and, and_true, and_self, if_pos, if_neg, Option.bind_some, bnd_some, Sum.elim_inl, Sum.elim_inr, ↓reduceIte])
    have e1' : loopF (fX6_worst_L22 σ) 5000 (mI, nI 0, nI 0, σ.2.2.2.2.1) = some z := e1
    have e2' : loopF fX7_worst_L21 5000 (mI, nI 0, nI 0, τ) = some y := e2
    rcases (show q = 0 ∨ q = 1 by omega) with rfl | rfl
    · refine ⟨y.1, _, y.2.2.2, ?_, ?_, Rel_SM hB e5 σ.2.1 z.2.2.2⟩
      · simp (disch := omega) only [fX6_worst, wi6, e1', e3, l_0, l_1, nI_eq, ↓reduceIte, bnd_some, or_true, true_or, if_pos, if_neg, ↓l_m1, ↓l_m2, ↓l_m3, ↓l_m4]
      · simp (disch := omega) only [fX7_worst, wi7, e2', l_0, l_1, nI_eq, ↓reduceIte, bnd_some, or_true, true_or, if_pos, if_neg, ↓l_m1, ↓l_m2, ↓l_m3, ↓l_m4]
    · refine ⟨y.2.1, _, y.2.2.2, ?_, ?_, Rel_SM hB e5 σ.2.1 z.2.2.2⟩
      · simp (disch := omega) only [fX6_worst, wi6, e1', e4, l_0, l_1, nI_eq, ↓reduceIte, bnd_some, or_true, true_or, if_pos, if_neg, ↓l_m1, ↓l_m2, ↓l_m3, ↓l_m4]
      · simp (disch := omega) only [fX7_worst, wi7, e2', l_0, l_1, nI_eq, ↓reduceIte, bnd_some, or_true, true_or, if_pos, if_neg, ↓l_m1, ↓l_m2, ↓l_m3, ↓l_m4]
  · obtain ⟨σ1, τ1, e3, e4, e5⟩ := bad_ok h
    refine ⟨mI2, σ1, τ1, ?_, ?_, e5⟩
    · simp (disch := omega) only [fX6_worst, a1, e3, l_0, l_1, nI_eq, ↓reduceIte, bnd_some, or_true, true_or, if_pos, if_neg, ↓l_m1, ↓l_m2, ↓l_m3, ↓l_m4]
    · simp (disch := omega) only [fX7_worst, a2, e4, l_0, l_1, nI_eq, ↓reduceIte, bnd_some, or_true, true_or, if_pos, if_neg, ↓l_m1, ↓l_m2, ↓l_m3, ↓l_m4]
theorem build_both {m : S1} {τ : S7} {M : AM} (h1 : MR m M) (h2 : TR τ M) {j : Nat} (hj : j < 7 ∨ (10 ≤ j ∧ j < 21)) (hw : M.wl j = false) (t : S5) : ∃ v t1 y τ1, fX5_build t m (nI j) = some (nI v, t1) ∧ fX7_left (τ.1, τ.2.1, τ.2.2.1, τ.2.2.2.1, τ.2.2.2.2.1, τ.2.2.2.2.2.1, τ.2.2.2.2.2.2.1 ||| (nI 1 <<< (nI j &&& nI 31)), τ.2.2.2.2.2.2.2) τ.2.2.2.2.2.1 = some (y, τ1) ∧ fX7_ones y = some (nI v) ∧ SM τ (τ1.1, τ1.2.1, τ1.2.2.1, τ1.2.2.2.1, τ1.2.2.2.2.1, τ1.2.2.2.2.2.1, τ1.2.2.2.2.2.2.1 &&& ((nI 1 <<< (nI j &&& nI 31)) ^^^ mI), τ1.2.2.2.2.2.2.2) ∧ v ≤ 12 := by
  have hn := h1.1.1
  obtain ⟨m0, c1, c2⟩ := copy_ok h1 t.1
  obtain ⟨w, r1, m1, b1, e1, e2, e3, e4, e5, e6, e7⟩ := crush_ok (M := setW M j true) (S := M.up) (MR_setW c2 hj true) t.2.2 t.2.1
  have hs := hS_setW (x := τ.2.2.2.2.2.2.1) h2.2.2.2.2.1 (j := j) (by omega)
  have hgr : GR (τ.1, τ.2.1, τ.2.2.1, τ.2.2.2.1, τ.2.2.2.2.1, τ.2.2.2.2.2.1, τ.2.2.2.2.2.2.1 ||| (nI 1 <<< (nI j &&& nI 31)), τ.2.2.2.2.2.2.2) (setW M j true) M.up := by
    have := TR_GR h2 h1.1
    exact ⟨hs.1, this.2⟩
  obtain ⟨y, τ1, v, g1, ⟨f, g, a, b, rfl⟩, g3, g4, g5⟩ := left_ok hgr h2.2.2.2.1
  have hwv := Wv_uniq e2 g3
  subst hwv
  have hitn : ∀ i, M.n ≤ i → it (setW M j true) M.up w i = false := e5.1.2.2.2.1
  have ho := ones_ok g4
  rw [cnt_12 hn hitn] at ho
  have hcs := countStanding_ok e5
  have hcs' : fX1_countStanding m1 = some (nI (cntB (it (setW M j true) M.up w) M.n)) := hcs
  have hle := cntB_le (it (setW M j true) M.up w) M.n
  refine ⟨cntB (it (setW M j true) M.up w) M.n, (m1, b1, r1), y, _, ?_, g1, ho, ⟨f, g, a, b, ?_⟩, by omega⟩
  · have e1' := e1
    simp only [bI_t] at e1'
    simp (disch := omega) only [fX5_build, fX5_start, fX5_crush, c1, l_0, l_1, nI_leI, nI_clamp, Nat.zero_le, true_and, if_pos, bnd_some, e1', hcs']
  · have hback : (τ.2.2.2.2.2.2.1 ||| (nI 1 <<< (nI j &&& nI 31))) &&& ((nI 1 <<< (nI j &&& nI 31)) ^^^ mI) = τ.2.2.2.2.2.2.1 := by
      refine hS_inj (S := M.wl) (hS_cong (hS_del hs.1 (j := j) (by omega)) (fun i _ => ?_)) h2.2.2.2.2.1
      by_cases hij : i = j
      · rw [decide_eq_true hij, hij, hw]; simp
      · rw [if_neg hij, decide_eq_false hij]; simp
    rw [hback]
theorem E_bestWall : E1 Rel fX6_bestWall fX7_bestWall := by
  intro σ τ x h
  rcases wi x (k := 1) (by omega) with ⟨q, hq, rfl⟩ | ⟨a1, a2⟩
  · obtain ⟨M, k, H, w, V, tl, tx, hB⟩ := h
    have hn := hB.1.1.1
    obtain ⟨z, y, e1, e2, e3, e4, e5⟩ := loop2 (step := fX6_bestWall_L22 σ) (step' := fX7_bestWall_L21) (fun i (s : Int32 × Int32 × Int32 × S5) (t : Int32 × Int32 × Int32 × S7) => s.1 = t.1 ∧ (s.2.1 = t.2.1 ∧ (s.2.1 = mI ∨ ∃ mo, mo ≤ 12 ∧ s.2.1 = nI mo)) ∧ (s.2.2.1 = nI i ∧ t.2.2.1 = nI i) ∧ SM τ t.2.2.2) (fun (s : Int32 × Int32 × Int32 × S5) (t : Int32 × Int32 × Int32 × S7) => s.1 = t.1 ∧ s.2.1 = t.2.1 ∧ SM τ t.2.2.2) 21 (F := 5000) (by omega) (s0 := ((-1 : Int32), (-1 : Int32), (0 : Int32), σ.2.2.2.2.1)) (t0 := ((-1 : Int32), (-1 : Int32), (0 : Int32), τ)) ⟨rfl, ⟨rfl, Or.inl rfl⟩, ⟨rfl, rfl⟩, SM_rfl τ⟩
      (by
        rintro i ⟨b, mo, i6, t⟩ ⟨b', mo7, i7, τ0⟩ hi ⟨rfl, ⟨rfl, hmo⟩, ⟨rfl, rfl⟩, hsm⟩
        have hsm : SM τ τ0 := hsm
        have hmo : mo = mI ∨ ∃ k, k ≤ 12 ∧ mo = nI k := hmo
        have h2' := TR_SM hB.2.1 hsm
        have hw6 := hB.1.2.2.2.2.2.1 i (by omega)
        have hb7 := h2'.2.2.2.2.1 i (by omega)
        have hmle : mI ≤ mo := by
          rcases hmo with rfl | ⟨k, hk, rfl⟩
          · exact Int32.le_refl _
          · exact (mI_le (by omega)).mpr trivial
        by_cases hgap : 7 ≤ i ∧ i < 10
        · refine ⟨(b, mo, nI (i + 1), t), (b, mo, nI (i + 1), τ0), ?_, ?_, rfl, ⟨rfl, hmo⟩, ⟨rfl, rfl⟩, hsm⟩
          · have hiw : fX6_isWall (nI i) = some (nI 0) := by simp (disch := omega) only [fX6_isWall, l_0, l_1, l_2, l_3, l_4, l_5, l_6, l_7, l_8, l_9, l_10, l_11, l_12, l_13, l_14, l_15, l_16, l_17, l_18, l_19, l_20, l_21, l_24, l_28, l_31, l_32, l_33, l_45, l_47, l_48, l_57, l_59, l_84, l_95, l_96, l_100, l_112, l_119, l_120, l_127, l_140, l_700, l_840, l_999, l_4095, l_999999, ↓l_m1, ↓l_m2, ↓l_m3, ↓l_m4, ↓l_m10, ↓l_m10000, nI_leI, nI_ltI, nI_eq, mI_le, mI_lt, le_mI, lt_mI, mI_eq, eq_mI, nI_add, pk_mul, pk_sub, pk_div, nI_clamp, md_eq, Nat.zero_le, true_and, and_true, and_self, if_pos, if_neg, Option.bind_some, bnd_some, Sum.elim_inl, Sum.elim_inr, ↓reduceIte]
            simp (disch := omega) only [fX6_bestWall_L22, hiw, hmle, l_0, l_1, l_2, l_3, l_4, l_5, l_6, l_7, l_8, l_9, l_10, l_11, l_12, l_13, l_14, l_15, l_16, l_17, l_18, l_19, l_20, l_21, l_24, l_28, l_31, l_32, l_33, l_45, l_47, l_48, l_57, l_59, l_84, l_95, l_96, l_100, l_112, l_119, l_120, l_127, l_140, l_700, l_840, l_999, l_4095, l_999999, ↓l_m1, ↓l_m2, ↓l_m3, ↓l_m4, ↓l_m10, ↓l_m10000, nI_leI, nI_ltI, nI_eq, mI_le, mI_lt, le_mI, lt_mI, mI_eq, eq_mI, nI_add, pk_mul, pk_sub, pk_div, nI_clamp, md_eq, Nat.zero_le, true_and, and_true, and_self, if_pos, if_neg, Option.bind_some, bnd_some, Sum.elim_inl, Sum.elim_inr, ↓reduceIte]
          · rcases (show i = 7 ∨ i = 8 ∨ i = 9 by omega) with rfl | rfl | rfl <;> simp (disch := omega) only [fX7_bestWall_L21, l_0, l_1, l_2, l_3, l_4, l_5, l_6, l_7, l_8, l_9, l_10, l_11, l_12, l_13, l_14, l_15, l_16, l_17, l_18, l_19, l_20, l_21, l_24, l_28, l_31, l_32, l_33, l_45, l_47, l_48, l_57, l_59, l_84, l_95, l_96, l_100, l_112, l_119, l_120, l_127, l_140, l_700, l_840, l_999, l_4095, l_999999, ↓l_m1, ↓l_m2, ↓l_m3, ↓l_m4, ↓l_m10, ↓l_m10000, nI_leI, nI_ltI, nI_eq, mI_le, mI_lt, le_mI, lt_mI, mI_eq, eq_mI, nI_add, pk_mul, pk_sub, pk_div, nI_clamp, md_eq, Nat.zero_le, true_and, and_true, and_self, if_pos, if_neg, Option.bind_some, bnd_some, Sum.elim_inl, Sum.elim_inr, ↓reduceIte]
        · have hiw : fX6_isWall (nI i) = some (nI 1) := by
            by_cases h7 : i < 7
            · simp (disch := omega) only [fX6_isWall, l_0, l_1, l_2, l_3, l_4, l_5, l_6, l_7, l_8, l_9, l_10, l_11, l_12, l_13, l_14, l_15, l_16, l_17, l_18, l_19, l_20, l_21, l_24, l_28, l_31, l_32, l_33, l_45, l_47, l_48, l_57, l_59, l_84, l_95, l_96, l_100, l_112, l_119, l_120, l_127, l_140, l_700, l_840, l_999, l_4095, l_999999, ↓l_m1, ↓l_m2, ↓l_m3, ↓l_m4, ↓l_m10, ↓l_m10000, nI_leI, nI_ltI, nI_eq, mI_le, mI_lt, le_mI, lt_mI, mI_eq, eq_mI, nI_add, pk_mul, pk_sub, pk_div, nI_clamp, md_eq, Nat.zero_le, true_and, and_true, and_self, if_pos, if_neg, Option.bind_some, bnd_some, Sum.elim_inl, Sum.elim_inr, ↓reduceIte]
            · simp (disch := omega) only [fX6_isWall, l_0, l_1, l_2, l_3, l_4, l_5, l_6, l_7, l_8, l_9, l_10, l_11, l_12, l_13, l_14, l_15, l_16, l_17, l_18, l_19, l_20, l_21, l_24, l_28, l_31, l_32, l_33, l_45, l_47, l_48, l_57, l_59, l_84, l_95, l_96, l_100, l_112, l_119, l_120, l_127, l_140, l_700, l_840, l_999, l_4095, l_999999, ↓l_m1, ↓l_m2, ↓l_m3, ↓l_m4, ↓l_m10, ↓l_m10000, nI_leI, nI_ltI, nI_eq, mI_le, mI_lt, le_mI, lt_mI, mI_eq, eq_mI, nI_add, pk_mul, pk_sub, pk_div, nI_clamp, md_eq, Nat.zero_le, true_and, and_true, and_self, if_pos, if_neg, Option.bind_some, bnd_some, Sum.elim_inl, Sum.elim_inr, ↓reduceIte]
          cases hwl : M.wl i
          · rw [hwl] at hw6 hb7
            rw [bI_f] at hw6
            obtain ⟨v, t1, y, τ1, f1, f2, f3, f4, f5⟩ := build_both hB.1 h2' (j := i) (by omega) hwl t
            have hcmp : nI v ≤ mo ∨ ¬ nI v ≤ mo := Classical.em _
            rcases hcmp with hc | hc
            · refine ⟨(b, mo, nI (i + 1), t1), (b, mo, nI (i + 1), _), ?_, ?_, rfl, ⟨rfl, hmo⟩, ⟨rfl, rfl⟩, SM_tr hsm f4⟩
              · simp (disch := omega) only [fX6_bestWall_L22, hiw, hw6, f1, hc, l_0, l_1, l_2, l_3, l_4, l_5, l_6, l_7, l_8, l_9, l_10, l_11, l_12, l_13, l_14, l_15, l_16, l_17, l_18, l_19, l_20, l_21, l_24, l_28, l_31, l_32, l_33, l_45, l_47, l_48, l_57, l_59, l_84, l_95, l_96, l_100, l_112, l_119, l_120, l_127, l_140, l_700, l_840, l_999, l_4095, l_999999, ↓l_m1, ↓l_m2, ↓l_m3, ↓l_m4, ↓l_m10, ↓l_m10000, nI_leI, nI_ltI, nI_eq, mI_le, mI_lt, le_mI, lt_mI, mI_eq, eq_mI, nI_add, pk_mul, pk_sub, pk_div, nI_clamp, md_eq, Nat.zero_le, true_and, and_true, and_self, if_pos, if_neg, Option.bind_some, bnd_some, Sum.elim_inl, Sum.elim_inr, ↓reduceIte]
              · simp (disch := omega) only [fX7_bestWall_L21, b_one, hb7, bI_f, f2, f3, hc, l_0, l_1, l_2, l_3, l_4, l_5, l_6, l_7, l_8, l_9, l_10, l_11, l_12, l_13, l_14, l_15, l_16, l_17, l_18, l_19, l_20, l_21, l_24, l_28, l_31, l_32, l_33, l_45, l_47, l_48, l_57, l_59, l_84, l_95, l_96, l_100, l_112, l_119, l_120, l_127, l_140, l_700, l_840, l_999, l_4095, l_999999, ↓l_m1, ↓l_m2, ↓l_m3, ↓l_m4, ↓l_m10, ↓l_m10000, nI_leI, nI_ltI, nI_eq, mI_le, mI_lt, le_mI, lt_mI, mI_eq, eq_mI, nI_add, pk_mul, pk_sub, pk_div, nI_clamp, md_eq, Nat.zero_le, true_and, and_true, and_self, if_pos, if_neg, Option.bind_some, bnd_some, Sum.elim_inl, Sum.elim_inr, ↓reduceIte]
            · refine ⟨(nI i, nI v, nI (i + 1), t1), (nI i, nI v, nI (i + 1), _), ?_, ?_, rfl, ⟨rfl, Or.inr ⟨v, f5, rfl⟩⟩, ⟨rfl, rfl⟩, SM_tr hsm f4⟩
              · simp (disch := omega) only [fX6_bestWall_L22, hiw, hw6, f1, hc, l_0, l_1, l_2, l_3, l_4, l_5, l_6, l_7, l_8, l_9, l_10, l_11, l_12, l_13, l_14, l_15, l_16, l_17, l_18, l_19, l_20, l_21, l_24, l_28, l_31, l_32, l_33, l_45, l_47, l_48, l_57, l_59, l_84, l_95, l_96, l_100, l_112, l_119, l_120, l_127, l_140, l_700, l_840, l_999, l_4095, l_999999, ↓l_m1, ↓l_m2, ↓l_m3, ↓l_m4, ↓l_m10, ↓l_m10000, nI_leI, nI_ltI, nI_eq, mI_le, mI_lt, le_mI, lt_mI, mI_eq, eq_mI, nI_add, pk_mul, pk_sub, pk_div, nI_clamp, md_eq, Nat.zero_le, true_and, and_true, and_self, if_pos, if_neg, Option.bind_some, bnd_some, Sum.elim_inl, Sum.elim_inr, ↓reduceIte]
              · simp (disch := omega) only [fX7_bestWall_L21, b_one, hb7, bI_f, f2, f3, hc, l_0, l_1, l_2, l_3, l_4, l_5, l_6, l_7, l_8, l_9, l_10, l_11, l_12, l_13, l_14, l_15, l_16, l_17, l_18, l_19, l_20, l_21, l_24, l_28, l_31, l_32, l_33, l_45, l_47, l_48, l_57, l_59, l_84, l_95, l_96, l_100, l_112, l_119, l_120, l_127, l_140, l_700, l_840, l_999, l_4095, l_999999, ↓l_m1, ↓l_m2, ↓l_m3, ↓l_m4, ↓l_m10, ↓l_m10000, nI_leI, nI_ltI, nI_eq, mI_le, mI_lt, le_mI, lt_mI, mI_eq, eq_mI, nI_add, pk_mul, pk_sub, pk_div, nI_clamp, md_eq, Nat.zero_le, true_and, and_true, and_self, if_pos, if_neg, Option.bind_some, bnd_some, Sum.elim_inl, Sum.elim_inr, ↓reduceIte]
          · rw [hwl] at hw6 hb7
            rw [bI_t] at hw6
            refine ⟨(b, mo, nI (i + 1), t), (b, mo, nI (i + 1), τ0), ?_, ?_, rfl, ⟨rfl, hmo⟩, ⟨rfl, rfl⟩, hsm⟩
            · simp (disch := omega) only [fX6_bestWall_L22, hiw, hw6, hmle, l_0, l_1, l_2, l_3, l_4, l_5, l_6, l_7, l_8, l_9, l_10, l_11, l_12, l_13, l_14, l_15, l_16, l_17, l_18, l_19, l_20, l_21, l_24, l_28, l_31, l_32, l_33, l_45, l_47, l_48, l_57, l_59, l_84, l_95, l_96, l_100, l_112, l_119, l_120, l_127, l_140, l_700, l_840, l_999, l_4095, l_999999, ↓l_m1, ↓l_m2, ↓l_m3, ↓l_m4, ↓l_m10, ↓l_m10000, nI_leI, nI_ltI, nI_eq, mI_le, mI_lt, le_mI, lt_mI, mI_eq, eq_mI, nI_add, pk_mul, pk_sub, pk_div, nI_clamp, md_eq, Nat.zero_le, true_and, and_true, and_self, if_pos, if_neg, Option.bind_some, bnd_some, Sum.elim_inl, Sum.elim_inr, ↓reduceIte]
            · simp (disch := omega) only [fX7_bestWall_L21, b_one, hb7, bI_t, l_0, l_1, l_2, l_3, l_4, l_5, l_6, l_7, l_8, l_9, l_10, l_11, l_12, l_13, l_14, l_15, l_16, l_17, l_18, l_19, l_20, l_21, l_24, l_28, l_31, l_32, l_33, l_45, l_47, l_48, l_57, l_59, l_84, l_95, l_96, l_100, l_112, l_119, l_120, l_127, l_140, l_700, l_840, l_999, l_4095, l_999999, ↓l_m1, ↓l_m2, ↓l_m3, ↓l_m4, ↓l_m10, ↓l_m10000, nI_leI, nI_ltI, nI_eq, mI_le, mI_lt, le_mI, lt_mI, mI_eq, eq_mI, nI_add, pk_mul, pk_sub, pk_div, nI_clamp, md_eq, Nat.zero_le, true_and, and_true, and_self, if_pos, if_neg, Option.bind_some, bnd_some, Sum.elim_inl, Sum.elim_inr, ↓reduceIte])
      (by
        rintro ⟨b, mo, i6, t⟩ ⟨b', mo7, i7, τ0⟩ ⟨rfl, ⟨rfl, hmo⟩, ⟨rfl, rfl⟩, hsm⟩
        refine ⟨(b, mo, nI 21, t), (b, mo, nI 21, τ0), ?_, ?_, rfl, rfl, hsm⟩
        · simp (disch := omega) only [fX6_bestWall_L22, l_0, l_1, l_2, l_3, l_4, l_5, l_6, l_7, l_8, l_9, l_10, l_11, l_12, l_13, l_14, l_15, l_16, l_17, l_18, l_19, l_20, l_21, l_24, l_28, l_31, l_32, l_33, l_45, l_47, l_48, l_57, l_59, l_84, l_95, l_96, l_100, l_112, l_119, l_120, l_127, l_140, l_700, l_840, l_999, l_4095, l_999999, ↓l_m1, ↓l_m2, ↓l_m3, ↓l_m4, ↓l_m10, ↓l_m10000, nI_leI, nI_ltI, nI_eq, mI_le, mI_lt, le_mI, lt_mI, mI_eq, eq_mI, nI_add, pk_mul, pk_sub, pk_div, nI_clamp, md_eq, Nat.zero_le, true_and, and_true, and_self, if_pos, if_neg, Option.bind_some, bnd_some, Sum.elim_inl, Sum.elim_inr, ↓reduceIte]
        · simp (disch := omega) only [fX7_bestWall_L21, l_0, l_1, l_2, l_3, l_4, l_5, l_6, l_7, l_8, l_9, l_10, l_11, l_12, l_13, l_14, l_15, l_16, l_17, l_18, l_19, l_20, l_21, l_24, l_28, l_31, l_32, l_33, l_45, l_47, l_48, l_57, l_59, l_84, l_95, l_96, l_100, l_112, l_119, l_120, l_127, l_140, l_700, l_840, l_999, l_4095, l_999999, ↓l_m1, ↓l_m2, ↓l_m3, ↓l_m4, ↓l_m10, ↓l_m10000, nI_leI, nI_ltI, nI_eq, mI_le, mI_lt, le_mI, lt_mI, mI_eq, eq_mI, nI_add, pk_mul, pk_sub, pk_div, nI_clamp, md_eq, Nat.zero_le, true_and, and_true, and_self, if_pos, if_neg, Option.bind_some, bnd_some, Sum.elim_inl, Sum.elim_inr, ↓reduceIte])
    have e1' : loopF (fX6_bestWall_L22 σ) 5000 (mI, mI, nI 0, σ.2.2.2.2.1) = some z := e1
    have e2' : loopF fX7_bestWall_L21 5000 (mI, mI, nI 0, τ) = some y := e2
    rcases (show q = 0 ∨ q = 1 by omega) with rfl | rfl
    · refine ⟨y.1, _, y.2.2.2, ?_, ?_, Rel_SM hB e5 σ.2.1 z.2.2.2⟩
      · simp (disch := omega) only [fX6_bestWall, wi6, e1', e3, l_0, l_1, nI_eq, ↓reduceIte, bnd_some, or_true, true_or, if_pos, if_neg, ↓l_m1, ↓l_m2, ↓l_m3, ↓l_m4]
      · simp (disch := omega) only [fX7_bestWall, wi7, e2', l_0, l_1, nI_eq, ↓reduceIte, bnd_some, or_true, true_or, if_pos, if_neg, ↓l_m1, ↓l_m2, ↓l_m3, ↓l_m4]
    · refine ⟨y.2.1, _, y.2.2.2, ?_, ?_, Rel_SM hB e5 σ.2.1 z.2.2.2⟩
      · simp (disch := omega) only [fX6_bestWall, wi6, e1', e4, l_0, l_1, nI_eq, ↓reduceIte, bnd_some, or_true, true_or, if_pos, if_neg, ↓l_m1, ↓l_m2, ↓l_m3, ↓l_m4]
      · simp (disch := omega) only [fX7_bestWall, wi7, e2', l_0, l_1, nI_eq, ↓reduceIte, bnd_some, or_true, true_or, if_pos, if_neg, ↓l_m1, ↓l_m2, ↓l_m3, ↓l_m4]
  · obtain ⟨σ1, τ1, e3, e4, e5⟩ := bad_ok h
    refine ⟨mI2, σ1, τ1, ?_, ?_, e5⟩
    · simp (disch := omega) only [fX6_bestWall, a1, e3, l_0, l_1, nI_eq, ↓reduceIte, bnd_some, or_true, true_or, if_pos, if_neg, ↓l_m1, ↓l_m2, ↓l_m3, ↓l_m4]
    · simp (disch := omega) only [fX7_bestWall, a2, e4, l_0, l_1, nI_eq, ↓reduceIte, bnd_some, or_true, true_or, if_pos, if_neg, ↓l_m1, ↓l_m2, ↓l_m3, ↓l_m4]
