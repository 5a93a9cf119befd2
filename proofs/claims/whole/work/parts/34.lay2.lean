theorem claim_ok {m : S1} {M : AM} (h : MR m M) (b : S0) {p : Nat} (hp : p < M.n) {u0 : Nat → Int32} {a0 : Nat → Nat} (ha0 : ∀ x, x < 96 → a0 x ≤ 999) (hu : ∀ x, x < 96 → b.1 x = u0 x ∧ b.2.1 x = nI (a0 x)) :
    ∃ b1 : S0, fX0_claim b m (nI p) = some b1 ∧ b1.2.2 = b.2.2 ∧ ∀ x, x < 96 → ((cntW M.wl 0 (M.cl p / 12) = cntW M.wl 0 (x / 12) ∧ cntW M.wl 10 (M.cl p % 12) = cntW M.wl 10 (x % 12)) ∧ dist (M.cl p) x < a0 x → b1.1 x = nI p ∧ b1.2.1 x = nI (dist (M.cl p) x)) ∧ (¬ ((cntW M.wl 0 (M.cl p / 12) = cntW M.wl 0 (x / 12) ∧ cntW M.wl 10 (M.cl p % 12) = cntW M.wl 10 (x % 12)) ∧ dist (M.cl p) x < a0 x) → b1.1 x = u0 x ∧ b1.2.1 x = nI (a0 x)) := by
  have hcp := h.1.2.1 p hp
  have hn := h.1.1
  have hcell := h.2.2.1 p hp
  obtain ⟨r1, e1, l1, l2, l3, l4⟩ := lastOf_ok h (b := 0) (k := M.cl p / 12) (t := 7) (by omega) (by omega) (by omega)
  obtain ⟨c0, e2, m1, m2, m3⟩ := firstOf_ok h (b := 10) (k := M.cl p % 12) (by omega) (by omega)
  obtain ⟨c1, e3, n1, n2, n3, n4⟩ := lastOf_ok h (b := 10) (k := M.cl p % 12) (t := 11) (by omega) (by omega) (by omega)
  obtain ⟨r0, e4, o1, o2, o3⟩ := firstOf_ok h (b := 0) (k := M.cl p / 12) (by omega) (by omega)
  obtain ⟨z, hz1, hz2⟩ := loopI (step := fX0_claim_L61 (nI p) (nI (M.cl p / 12)) (nI (M.cl p % 12)) (nI r1) (nI c0) (nI c1)) (fun i (q : Int32 × (Nat → Int32) × (Nat → Int32)) => q.1 = nI (r0 + i) ∧ CI p u0 a0 (dist (M.cl p)) (fun x => bh (r0 + i) c0 x ∧ inR r0 r1 c0 c1 x) q.2.1 q.2.2) (fun (z : Int32 × (Nat → Int32) × (Nat → Int32)) => CI p u0 a0 (dist (M.cl p)) (fun x => inR r0 r1 c0 c1 x) z.2.1 z.2.2) (r1 + 1 - r0) (F := 5000) (by omega) (s0 := (nI r0, b.1, b.2.1)) ⟨rfl, fun x hx => ⟨fun q => by
      exfalso
      obtain ⟨q1 | q1, q2⟩ := q <;> unfold inR at q2 <;> omega, fun _ => hu x hx⟩⟩
    (by
      rintro i ⟨x0, u, a⟩ hi ⟨rfl, hC⟩
      have hg := gap_l (a := r0 + i) (b := M.cl p / 12) (by omega) (by omega)
      obtain ⟨z, hz1, hz2⟩ := claim_in (r := r0 + i) (r0 := r0) (r1 := r1) (c0 := c0) (c1 := c1) (p := p) (cp := M.cl p) (by omega) hcp (by omega) (by omega) (by omega) (by omega) (by omega) ha0 (nI (r0 + i), u, a) rfl hC
      refine ⟨(nI (r0 + (i + 1)), z.2.1, z.2.2), ?_, rfl, hz2⟩
      simp (disch := omega) only [fX0_claim_L61, hg, hz1, l_0, l_1, l_2, l_3, l_4, l_5, l_6, l_7, l_8, l_9, l_10, l_11, l_12, l_13, l_14, l_15, l_16, l_17, l_18, l_19, l_20, l_21, l_24, l_28, l_31, l_32, l_33, l_45, l_47, l_48, l_57, l_59, l_84, l_95, l_96, l_100, l_112, l_119, l_120, l_127, l_140, l_700, l_840, l_999, l_4095, l_999999, ↓l_m1, ↓l_m2, ↓l_m3, ↓l_m4, ↓l_m10, ↓l_m10000, nI_leI, nI_ltI, nI_eq, mI_le, mI_lt, le_mI, lt_mI, mI_eq, eq_mI, nI_add, if_pos, if_neg, bnd_some]
      rfl)
    (by
      rintro ⟨x0, u, a⟩ ⟨rfl, hC⟩
      refine ⟨(nI (r0 + (r1 + 1 - r0)), u, a), ?_, ?_⟩
      · simp (disch := omega) only [fX0_claim_L61, l_0, l_1, l_2, l_3, l_4, l_5, l_6, l_7, l_8, l_9, l_10, l_11, l_12, l_13, l_14, l_15, l_16, l_17, l_18, l_19, l_20, l_21, l_24, l_28, l_31, l_32, l_33, l_45, l_47, l_48, l_57, l_59, l_84, l_95, l_96, l_100, l_112, l_119, l_120, l_127, l_140, l_700, l_840, l_999, l_4095, l_999999, ↓l_m1, ↓l_m2, ↓l_m3, ↓l_m4, ↓l_m10, ↓l_m10000, nI_leI, nI_ltI, nI_eq, mI_le, mI_lt, le_mI, lt_mI, mI_eq, eq_mI, if_pos, if_neg]
      · refine CI_mono hC (fun x hx => ?_)
        unfold bh inR
        constructor
        · rintro ⟨_, q2⟩; exact q2
        · intro q2; exact ⟨by omega, q2⟩)
  refine ⟨(z.2.1, z.2.2, b.2.2), ?_, rfl, ?_⟩
  · have hcp2 : M.cl p < 2 ^ 31 := by omega
    simp (disch := omega) only [fX0_claim, hcell, l_0, l_12, l_7, l_10, l_11, nI_leI, nI_clamp, pk_div, pk_mul, pk_sub, md_eq, Nat.zero_le, true_and, if_pos, bnd_some, e1, e2, e3, e4, hz1]
  · intro x hx
    have hrow := room_iff (wl := M.wl) (b := 0) (x := x / 12) o1 l1 l2 o2 o3 l3 l4 (by omega)
    have hcol := room_iff (wl := M.wl) (b := 10) (x := x % 12) m1 n1 n2 m2 m3 n3 n4 (by omega)
    have hin : inR r0 r1 c0 c1 x ↔ (cntW M.wl 0 (M.cl p / 12) = cntW M.wl 0 (x / 12) ∧ cntW M.wl 10 (M.cl p % 12) = cntW M.wl 10 (x % 12)) := by
      unfold inR
      rw [hrow, hcol]
    have hx2 := hz2 x hx
    constructor
    · rintro ⟨q1, q2⟩
      exact (hx2.1 (hin.mpr q1)).1 q2
    · intro q
      by_cases hi : inR r0 r1 c0 c1 x
      · exact (hx2.1 hi).2 (fun q2 => q ⟨hin.mp hi, q2⟩)
      · exact hx2.2 hi
/-- lay's loop: on what each cell rests -/
theorem lay_loop {m : S1} {M : AM} (h : MR m M) (b : S0) (hb : ∀ x, x < 96 → b.1 x = mI ∧ b.2.1 x = nI 100) :
    ∃ z : Int32 × S0, loopF (fX0_lay_L19 m) 5000 ((0 : Int32), b) = some z ∧ z.2.2.2 = b.2.2 ∧ ∀ x, x < 96 → z.2.1 x = brI (br M.cl M.wl M.up x) := by
  have hn := h.1.1
  have hcl : ∀ p, M.up p = true → M.cl p < 96 := fun p hp => by
    rcases Nat.lt_or_ge p M.n with q | q
    · exact h.1.2.1 p q
    · have := h.1.2.2.2.1 p q; rw [hp] at this; cases this
  obtain ⟨z, hz1, hz2, hz3⟩ := loopI (step := fX0_lay_L19 m) (fun i (q : Int32 × S0) => q.1 = nI i ∧ q.2.2.2 = b.2.2 ∧ ∀ x, x < 96 → q.2.1 x = brI (bsz 100 M.cl M.wl M.up x i).1 ∧ q.2.2.1 x = nI (bsz 100 M.cl M.wl M.up x i).2) (fun (z : Int32 × S0) => z.2.2.2 = b.2.2 ∧ ∀ x, x < 96 → z.2.1 x = brI (bsz 100 M.cl M.wl M.up x M.n).1) M.n (F := 5000) (by omega) (s0 := ((0 : Int32), b)) ⟨rfl, rfl, fun x hx => hb x hx⟩
    (by
      rintro i ⟨x0, b1⟩ hi ⟨rfl, hb1, hI⟩
      have hst := h.2.2.2.2.1 i hi
      have hbz : ∀ x, x < 96 → (bsz 100 M.cl M.wl M.up x i).2 ≤ 999 := fun x hx => by
        rcases (bsz_z (cl := M.cl) (wl := M.wl) (S := M.up) hx (z := 100) (by omega) i (fun p _ hp => hcl p hp)).2 with ⟨_, q⟩ | ⟨q, _⟩ <;> omega
      cases hu : M.up i
      · refine ⟨(nI (i + 1), b1), ?_, rfl, hb1, fun x hx => ?_⟩
        · simp (disch := omega) only [fX0_lay_L19, h.2.1, hst, hu, bI_f, l_0, l_1, l_2, l_3, l_4, l_5, l_6, l_7, l_8, l_9, l_10, l_11, l_12, l_13, l_14, l_15, l_16, l_17, l_18, l_19, l_20, l_21, l_24, l_28, l_31, l_32, l_33, l_45, l_47, l_48, l_57, l_59, l_84, l_95, l_96, l_100, l_112, l_119, l_120, l_127, l_140, l_700, l_840, l_999, l_4095, l_999999, ↓l_m1, ↓l_m2, ↓l_m3, ↓l_m4, ↓l_m10, ↓l_m10000, nI_leI, nI_ltI, nI_eq, mI_le, mI_lt, le_mI, lt_mI, mI_eq, eq_mI, nI_add, pk_mul, pk_sub, pk_div, nI_clamp, md_eq, Nat.zero_le, true_and, and_true, and_self, if_pos, if_neg, Option.bind_some, bnd_some, Sum.elim_inl, Sum.elim_inr, ↓reduceIte]
        · have hne : ¬ (M.up i = true ∧ (cntW M.wl 0 (M.cl i / 12) = cntW M.wl 0 (x / 12) ∧ cntW M.wl 10 (M.cl i % 12) = cntW M.wl 10 (x % 12)) ∧ dist (M.cl i) x < (bsz 100 M.cl M.wl M.up x i).2) := fun q => by rw [hu] at q; cases q.1
          simp only [bsz, if_neg hne]
          exact hI x hx
      · obtain ⟨b2, e1, e2, e3⟩ := claim_ok h b1 (p := i) hi (u0 := fun x => brI (bsz 100 M.cl M.wl M.up x i).1) (a0 := fun x => (bsz 100 M.cl M.wl M.up x i).2) hbz hI
        refine ⟨(nI (i + 1), b2), ?_, rfl, e2.trans hb1, fun x hx => ?_⟩
        · simp (disch := omega) only [fX0_lay_L19, h.2.1, hst, hu, bI_t, e1, l_0, l_1, l_2, l_3, l_4, l_5, l_6, l_7, l_8, l_9, l_10, l_11, l_12, l_13, l_14, l_15, l_16, l_17, l_18, l_19, l_20, l_21, l_24, l_28, l_31, l_32, l_33, l_45, l_47, l_48, l_57, l_59, l_84, l_95, l_96, l_100, l_112, l_119, l_120, l_127, l_140, l_700, l_840, l_999, l_4095, l_999999, ↓l_m1, ↓l_m2, ↓l_m3, ↓l_m4, ↓l_m10, ↓l_m10000, nI_leI, nI_ltI, nI_eq, mI_le, mI_lt, le_mI, lt_mI, mI_eq, eq_mI, nI_add, pk_mul, pk_sub, pk_div, nI_clamp, md_eq, Nat.zero_le, true_and, and_true, and_self, if_pos, if_neg, Option.bind_some, bnd_some, Sum.elim_inl, Sum.elim_inr, ↓reduceIte]
        · have := e3 x hx
          by_cases hc : (cntW M.wl 0 (M.cl i / 12) = cntW M.wl 0 (x / 12) ∧ cntW M.wl 10 (M.cl i % 12) = cntW M.wl 10 (x % 12)) ∧ dist (M.cl i) x < (bsz 100 M.cl M.wl M.up x i).2
          · have h1 := this.1 hc
            simp only [bsz, if_pos (show M.up i = true ∧ _ from ⟨hu, hc⟩)]
            refine ⟨?_, h1.2⟩
            rw [brI, if_neg (by omega)]
            exact h1.1
          · have h1 := this.2 hc
            simp only [bsz, if_neg (fun q : M.up i = true ∧ _ => hc q.2)]
            exact h1)
    (by
      rintro ⟨x0, b1⟩ ⟨rfl, hb1, hI⟩
      refine ⟨(nI M.n, b1), ?_, hb1, fun x hx => (hI x hx).1⟩
      simp (disch := omega) only [fX0_lay_L19, h.2.1, l_0, l_1, l_2, l_3, l_4, l_5, l_6, l_7, l_8, l_9, l_10, l_11, l_12, l_13, l_14, l_15, l_16, l_17, l_18, l_19, l_20, l_21, l_24, l_28, l_31, l_32, l_33, l_45, l_47, l_48, l_57, l_59, l_84, l_95, l_96, l_100, l_112, l_119, l_120, l_127, l_140, l_700, l_840, l_999, l_4095, l_999999, ↓l_m1, ↓l_m2, ↓l_m3, ↓l_m4, ↓l_m10, ↓l_m10000, nI_leI, nI_ltI, nI_eq, mI_le, mI_lt, le_mI, lt_mI, mI_eq, eq_mI, nI_add, pk_mul, pk_sub, pk_div, nI_clamp, md_eq, Nat.zero_le, true_and, and_true, and_self, if_pos, if_neg, Option.bind_some, bnd_some, Sum.elim_inl, Sum.elim_inr, ↓reduceIte])
  refine ⟨z, hz1, hz2, fun x hx => ?_⟩
  rw [hz3 x hx]
  have h1 := (bsz_z (cl := M.cl) (wl := M.wl) (S := M.up) hx (z := 100) (by omega) M.n (fun p _ hp => hcl p hp)).1
  have h2 := bsz_more 999 M.cl M.wl M.up x M.n (13 - M.n) h.1.2.2.2.1
  rw [h1]
  unfold br
  rw [← h2, show M.n + (13 - M.n) = 13 by omega]
theorem br_cases (M : AM) (hM : OK M) (S : Nat → Bool) (hS : ∀ p, M.n ≤ p → S p = false) (x : Nat) : br M.cl M.wl S x = 13 ∨ (br M.cl M.wl S x < M.n ∧ S (br M.cl M.wl S x) = true) := by
  have h2 := bsz_more 999 M.cl M.wl S x M.n (13 - M.n) hS
  have hn := hM.1
  rw [show M.n + (13 - M.n) = 13 by omega] at h2
  unfold br
  rw [h2]
  rcases bsz_best 999 M.cl M.wl S x M.n with h | h
  · exact Or.inl h
  · exact Or.inr h
theorem weigh_ok {m : S1} {M : AM} (h : MR m M) (b : S0) (hb : ∀ x, x < 96 → b.1 x = brI (br M.cl M.wl M.up x)) :
    ∃ b1 : S0, fX0_weigh b m = some b1 ∧ b1.1 = b.1 ∧ (∀ p, p < 12 → b1.2.2.1 p = nI (load M M.up p)) ∧ (∀ p, p < 12 → b1.2.2.2 p = nI (rest M M.up p)) := by
  have hn := h.1.1
  obtain ⟨f1, a1, a2⟩ := fill_ok 12 (by omega) b.2.2.1 (0 : Int32)
  obtain ⟨f2, a3, a4⟩ := fill_ok 12 (by omega) b.2.2.2 (0 : Int32)
  obtain ⟨z, hz1, hz2, hz3⟩ := loopI (step := fX0_weigh_L18 b m) (fun i (q : Int32 × (Nat → Int32) × (Nat → Int32)) => q.1 = nI i ∧ (∀ p, p < 12 → q.2.1 p = nI (ldN M.wt (br M.cl M.wl M.up) p i)) ∧ (∀ p, p < 12 → q.2.2 p = nI (ldN (fun _ => 1) (br M.cl M.wl M.up) p i))) (fun (q : Int32 × (Nat → Int32) × (Nat → Int32)) => (∀ p, p < 12 → q.2.1 p = nI (load M M.up p)) ∧ (∀ p, p < 12 → q.2.2 p = nI (rest M M.up p))) 96 (F := 5000) (by omega) (s0 := ((0 : Int32), f1, f2)) ⟨rfl, a2, a4⟩
    (by
      rintro i ⟨x0, u, a⟩ hi ⟨rfl, hu, ha⟩
      have hbi := hb i hi
      have hwi := h.2.2.2.2.2.2 i hi
      rcases br_cases M h.1 M.up h.1.2.2.2.1 i with hc | ⟨hc, hc2⟩
      · refine ⟨(nI (i + 1), u, a), ?_, rfl, fun p hp => ?_, fun p hp => ?_⟩
        · simp (disch := omega) only [fX0_weigh_L18, hbi, hc, brI, l_0, l_1, l_2, l_3, l_4, l_5, l_6, l_7, l_8, l_9, l_10, l_11, l_12, l_13, l_14, l_15, l_16, l_17, l_18, l_19, l_20, l_21, l_24, l_28, l_31, l_32, l_33, l_45, l_47, l_48, l_57, l_59, l_84, l_95, l_96, l_100, l_112, l_119, l_120, l_127, l_140, l_700, l_840, l_999, l_4095, l_999999, ↓l_m1, ↓l_m2, ↓l_m3, ↓l_m4, ↓l_m10, ↓l_m10000, nI_leI, nI_ltI, nI_eq, mI_le, mI_lt, le_mI, lt_mI, mI_eq, eq_mI, nI_add, pk_mul, pk_sub, pk_div, nI_clamp, md_eq, Nat.zero_le, true_and, and_true, and_self, if_pos, if_neg, Option.bind_some, bnd_some, Sum.elim_inl, Sum.elim_inr, ↓reduceIte]
        · show u p = _
          simp only [ldN, hc, if_neg (show ¬ 13 = p by omega), Nat.add_zero]
          exact hu p hp
        · show a p = _
          simp only [ldN, hc, if_neg (show ¬ 13 = p by omega), Nat.add_zero]
          exact ha p hp
      · generalize hbe : br M.cl M.wl M.up i = k at *
        have hup := hu k (by omega)
        have hap := ha k (by omega)
        refine ⟨(nI (i + 1), upd u k (nI (ldN M.wt (br M.cl M.wl M.up) k i + M.wt i)), upd a k (nI (ldN (fun _ => 1) (br M.cl M.wl M.up) k i + 1))), ?_, rfl, fun p hp => ?_, fun p hp => ?_⟩
        · simp only at hup hap
          simp (disch := omega) only [fX0_weigh_L18, hbi, brI, hup, hap, hwi, l_0, l_1, l_2, l_3, l_4, l_5, l_6, l_7, l_8, l_9, l_10, l_11, l_12, l_13, l_14, l_15, l_16, l_17, l_18, l_19, l_20, l_21, l_24, l_28, l_31, l_32, l_33, l_45, l_47, l_48, l_57, l_59, l_84, l_95, l_96, l_100, l_112, l_119, l_120, l_127, l_140, l_700, l_840, l_999, l_4095, l_999999, ↓l_m1, ↓l_m2, ↓l_m3, ↓l_m4, ↓l_m10, ↓l_m10000, nI_leI, nI_ltI, nI_eq, mI_le, mI_lt, le_mI, lt_mI, mI_eq, eq_mI, nI_add, pk_mul, pk_sub, pk_div, nI_clamp, md_eq, Nat.zero_le, true_and, and_true, and_self, if_pos, if_neg, Option.bind_some, bnd_some, Sum.elim_inl, Sum.elim_inr, ↓reduceIte]
        · show upd u k _ p = _
          by_cases hpk : p = k
          · subst hpk
            rw [upd_same]
            simp only [ldN, hbe, if_true]
          · rw [upd_ne _ _ _ _ hpk]
            simp only [ldN, hbe, if_neg (fun q => hpk (Eq.symm q)), Nat.add_zero]
            exact hu p hp
        · show upd a k _ p = _
          by_cases hpk : p = k
          · subst hpk
            rw [upd_same]
            simp only [ldN, hbe, if_true]
          · rw [upd_ne _ _ _ _ hpk]
            simp only [ldN, hbe, if_neg (fun q => hpk (Eq.symm q)), Nat.add_zero]
            exact ha p hp)
    (by
      rintro ⟨x0, u, a⟩ ⟨rfl, hu, ha⟩
      refine ⟨(nI 96, u, a), ?_, hu, ha⟩
      simp (disch := omega) only [fX0_weigh_L18, l_0, l_1, l_2, l_3, l_4, l_5, l_6, l_7, l_8, l_9, l_10, l_11, l_12, l_13, l_14, l_15, l_16, l_17, l_18, l_19, l_20, l_21, l_24, l_28, l_31, l_32, l_33, l_45, l_47, l_48, l_57, l_59, l_84, l_95, l_96, l_100, l_112, l_119, l_120, l_127, l_140, l_700, l_840, l_999, l_4095, l_999999, ↓l_m1, ↓l_m2, ↓l_m3, ↓l_m4, ↓l_m10, ↓l_m10000, nI_leI, nI_ltI, nI_eq, mI_le, mI_lt, le_mI, lt_mI, mI_eq, eq_mI, nI_add, pk_mul, pk_sub, pk_div, nI_clamp, md_eq, Nat.zero_le, true_and, and_true, and_self, if_pos, if_neg, Option.bind_some, bnd_some, Sum.elim_inl, Sum.elim_inr, ↓reduceIte])
  refine ⟨(b.1, b.2.1, z.2.1, z.2.2), ?_, rfl, hz2, hz3⟩
  simp only [fX0_weigh, a1, a3, hz1, bnd_some]
/-- the bearing that is laid over a mine -/
def BR (b : S0) (M : AM) : Prop := (∀ x, x < 96 → b.1 x = brI (br M.cl M.wl M.up x)) ∧ (∀ p, p < 12 → b.2.2.1 p = nI (load M M.up p)) ∧ (∀ p, p < 12 → b.2.2.2 p = nI (rest M M.up p))
theorem lay_ok {m : S1} {M : AM} (h : MR m M) (b : S0) : ∃ b1 : S0, fX0_lay b m = some b1 ∧ BR b1 M := by
  obtain ⟨f1, a1, a2⟩ := fill_ok 96 (by omega) b.1 (-1 : Int32)
  obtain ⟨f2, a3, a4⟩ := fill_ok 96 (by omega) b.2.1 (100 : Int32)
  obtain ⟨z, hz1, hz2, hz3⟩ := lay_loop h (f1, f2, b.2.2) (fun x hx => ⟨a2 x hx, a4 x hx⟩)
  obtain ⟨b1, e1, e2, e3, e4⟩ := weigh_ok h z.2 hz3
  refine ⟨b1, ?_, fun x hx => by rw [e2]; exact hz3 x hx, e3, e4⟩
  simp only [fX0_lay, a1, a3, bnd_some, hz1, e1]
