/-! wall, told, draw, rests, of, wave -/
def setW (M : AM) (j : Nat) (b : Bool) : AM := mkAM M.n M.cl M.sg M.up (fun i => if i = j then b else M.wl i) M.wt
theorem MR_setW {m : S1} {M : AM} (h : MR m M) {j : Nat} (hj : j < 7 ∨ (10 ≤ j ∧ j < 21)) (b : Bool) : MR (m.1, m.2.1, m.2.2.1, m.2.2.2.1, upd m.2.2.2.2.1 j (bI b), m.2.2.2.2.2) (setW M j b) := by
  obtain ⟨hO, h1, h2, h3, h4, h5, h6⟩ := h
  refine ⟨⟨hO.1, hO.2.1, hO.2.2.1, hO.2.2.2.1, fun k hk => ?_, hO.2.2.2.2.2⟩, h1, h2, h3, h4, fun k hk => ?_, h6⟩
  · show (if k = j then b else M.wl k) = false
    rw [if_neg (by omega)]
    exact hO.2.2.2.2.1 k hk
  · show upd _ j _ k = bI (if k = j then b else M.wl k)
    by_cases hkj : k = j
    · rw [if_pos hkj, hkj, upd_same]
    · rw [if_neg hkj, upd_ne _ _ _ _ hkj]; exact h5 k hk
theorem hS_setW {x : Int32} {wl : Nat → Bool} (h : hS x wl) {j : Nat} (hj : j < 32) : hS (x ||| (nI 1 <<< (nI j &&& nI 31))) (fun i => if i = j then true else wl i) ∧ hS (x &&& ((nI 1 <<< (nI j &&& nI 31)) ^^^ mI)) (fun i => if i = j then false else wl i) := by
  refine ⟨hS_cong (hS_or h hj) (fun i _ => ?_), hS_cong (hS_del h hj) (fun i _ => ?_)⟩
  · by_cases hij : i = j
    · rw [if_pos hij, decide_eq_true hij, Bool.or_true]
    · rw [if_neg hij, decide_eq_false hij, Bool.or_false]
  · by_cases hij : i = j
    · rw [if_pos hij, decide_eq_true hij, Bool.not_true, Bool.and_false]
    · rw [if_neg hij, decide_eq_false hij, Bool.not_false, Bool.and_true]
theorem isWall_no {x y : Int32} (h : fX7_in y (nI 0) (nI 6) = some (nI 0)) : fX7_isWall (nI 0) y = some (nI 0) := by
  simp (disch := omega) only [fX7_isWall, l_6, h, l_0, l_1, nI_eq, ↓reduceIte, bnd_some, or_true, true_or, if_pos, if_neg, ↓l_m1, ↓l_m2, ↓l_m3, ↓l_m4]
theorem wall_main {σ : S6} {τ : S7} {M : AM} {k : Nat} {H : Nat → AM} {w : Nat} {V : Nat → Nat → Bool} {tl : Nat} {tx : Nat → Nat} (hB : RB σ τ M k H w V tl tx) {j v : Nat} (hj : j < 7 ∨ (10 ≤ j ∧ j < 21)) (hv : v ≤ 1) {s1 : S3} {f : Nat → Int32} (k3 : HC s1 (nC k) (nH k H M)) (k4 : HM (τ.1, τ.2.1, τ.2.2.1, τ.2.2.2.1, τ.2.2.2.2.1, τ.2.2.2.2.2.1, τ.2.2.2.2.2.2.1, nI (nC k), f, τ.2.2.2.2.2.2.2.2.2) (nC k) (nH k H M)) :
    Rel ((σ.1.1, σ.1.2.1, σ.1.2.2.1, σ.1.2.2.2.1, upd σ.1.2.2.2.2.1 j (nI v), σ.1.2.2.2.2.2), σ.2.1, σ.2.2.1, s1, σ.2.2.2.2) (τ.1, τ.2.1, τ.2.2.1, τ.2.2.2.1, τ.2.2.2.2.1, τ.2.2.2.2.2.1, (if v = 1 then τ.2.2.2.2.2.2.1 ||| (nI 1 <<< (nI j &&& nI 31)) else τ.2.2.2.2.2.2.1 &&& ((nI 1 <<< (nI j &&& nI 31)) ^^^ mI)), nI (nC k), f, τ.2.2.2.2.2.2.2.2.2) := by
  obtain ⟨h1, h2, h3, -, -, h6, h7, h8⟩ := hB
  have hs := hS_setW (x := τ.2.2.2.2.2.2.1) h2.2.2.2.2.1 (j := j) (by omega)
  rcases (show v = 0 ∨ v = 1 by omega) with rfl | rfl
  · rw [if_neg (by omega)]
    exact ⟨setW M j false, nC k, nH k H M, w, V, tl, tx, MR_setW h1 hj false, ⟨h2.1, h2.2.1, h2.2.2.1, h2.2.2.2.1, hs.2, h2.2.2.2.2.2⟩, h3, k3, k4, h6, h7, h8⟩
  · rw [if_pos rfl]
    exact ⟨setW M j true, nC k, nH k H M, w, V, tl, tx, MR_setW h1 hj true, ⟨h2.1, h2.2.1, h2.2.2.1, h2.2.2.2.1, hs.1, h2.2.2.2.2.2⟩, h3, k3, k4, h6, h7, h8⟩
theorem E_wall : E3 Rel fX6_wall fX7_wall := by
  intro σ τ x y z h
  rcases wi x (k := 1) (by omega) with ⟨v, hv, rfl⟩ | ⟨a1, a2⟩
  · rcases (show v = 0 ∨ v = 1 by omega) with rfl | rfl
    · rcases wi y (k := 6) (by omega) with ⟨j, hj, rfl⟩ | ⟨a1, a2⟩
      · have hw7 : fX7_isWall (nI 0) (nI j) = some (nI 1) := by simp (disch := omega) only [fX7_isWall, l_6, wi7, l_0, l_1, nI_eq, ↓reduceIte, bnd_some, or_true, true_or, if_pos, if_neg, ↓l_m1, ↓l_m2, ↓l_m3, ↓l_m4]
        rcases wi z (k := 1) (by omega) with ⟨u, hu, rfl⟩ | ⟨a1, a2⟩
        · obtain ⟨M, k, H, w, V, tl, tx, hB⟩ := h
          obtain ⟨s1, f, k1, k2, k3, k4⟩ := kept_ok hB
          have hw := hB.1.2.2.2.2.2.1 j (by omega)
          have hb := hB.2.1.2.2.2.2.1 j (by omega)
          refine ⟨bI (M.wl j), _, _, ?_, ?_, wall_main hB (j := j) (v := u) (by omega) hu k3 k4⟩
          · simp (disch := omega) only [fX6_wall, wi6, l_6, k1, nI_add, Nat.add_zero, nI_leI, nI_clamp, Nat.zero_le, true_and, hw, l_0, l_1, nI_eq, ↓reduceIte, bnd_some, or_true, true_or, if_pos, if_neg, ↓l_m1, ↓l_m2, ↓l_m3, ↓l_m4]
          · rcases (show u = 0 ∨ u = 1 by omega) with rfl | rfl
            · simp (disch := omega) only [fX7_wall, hw7, wi7, k2, l_31, b_one, hb, l_0, l_1, nI_eq, ↓reduceIte, bnd_some, or_true, true_or, if_pos, if_neg, ↓l_m1, ↓l_m2, ↓l_m3, ↓l_m4]
            · simp (disch := omega) only [fX7_wall, hw7, wi7, k2, l_31, b_one, hb, l_0, l_1, nI_eq, ↓reduceIte, bnd_some, or_true, true_or, if_pos, if_neg, ↓l_m1, ↓l_m2, ↓l_m3, ↓l_m4]
        · obtain ⟨σ1, τ1, e3, e4, e5⟩ := bad_ok h
          refine ⟨mI2, σ1, τ1, ?_, ?_, e5⟩
          · simp (disch := omega) only [fX6_wall, wi6, l_6, a1, e3, l_0, l_1, nI_eq, ↓reduceIte, bnd_some, or_true, true_or, if_pos, if_neg, ↓l_m1, ↓l_m2, ↓l_m3, ↓l_m4]
          · simp (disch := omega) only [fX7_wall, hw7, a2, e4, l_0, l_1, nI_eq, ↓reduceIte, bnd_some, or_true, true_or, if_pos, if_neg, ↓l_m1, ↓l_m2, ↓l_m3, ↓l_m4]
      · have hw7 : fX7_isWall (nI 0) y = some (nI 0) := by simp (disch := omega) only [fX7_isWall, l_6, a2, l_0, l_1, nI_eq, ↓reduceIte, bnd_some, or_true, true_or, if_pos, if_neg, ↓l_m1, ↓l_m2, ↓l_m3, ↓l_m4]
        obtain ⟨σ1, τ1, e3, e4, e5⟩ := bad_ok h
        refine ⟨mI2, σ1, τ1, ?_, ?_, e5⟩
        · simp (disch := omega) only [fX6_wall, wi6, l_6, a1, e3, l_0, l_1, nI_eq, ↓reduceIte, bnd_some, or_true, true_or, if_pos, if_neg, ↓l_m1, ↓l_m2, ↓l_m3, ↓l_m4]
        · simp (disch := omega) only [fX7_wall, hw7, e4, l_0, l_1, nI_eq, ↓reduceIte, bnd_some, or_true, true_or, if_pos, if_neg, ↓l_m1, ↓l_m2, ↓l_m3, ↓l_m4]
    · rcases wi y (k := 10) (by omega) with ⟨j, hj, rfl⟩ | ⟨a1, a2⟩
      · have hw7 : fX7_isWall (nI 1) (nI j) = some (nI 1) := by simp (disch := omega) only [fX7_isWall, l_10, wi7, l_0, l_1, nI_eq, ↓reduceIte, bnd_some, or_true, true_or, if_pos, if_neg, ↓l_m1, ↓l_m2, ↓l_m3, ↓l_m4]
        rcases wi z (k := 1) (by omega) with ⟨u, hu, rfl⟩ | ⟨a1, a2⟩
        · obtain ⟨M, k, H, w, V, tl, tx, hB⟩ := h
          obtain ⟨s1, f, k1, k2, k3, k4⟩ := kept_ok hB
          have hw := hB.1.2.2.2.2.2.1 (10 + j) (by omega)
          have hb := hB.2.1.2.2.2.2.1 (10 + j) (by omega)
          have ej : j + 10 = 10 + j := by omega
          refine ⟨bI (M.wl (10 + j)), _, _, ?_, ?_, wall_main hB (j := 10 + j) (v := u) (by omega) hu k3 k4⟩
          · simp (disch := omega) only [fX6_wall, wi6, l_10, k1, nI_add, ej, nI_leI, nI_clamp, Nat.zero_le, true_and, hw, l_0, l_1, nI_eq, ↓reduceIte, bnd_some, or_true, true_or, if_pos, if_neg, ↓l_m1, ↓l_m2, ↓l_m3, ↓l_m4]
          · rcases (show u = 0 ∨ u = 1 by omega) with rfl | rfl
            · simp (disch := omega) only [fX7_wall, hw7, wi7, k2, l_10, nI_add, l_31, b_one, hb, l_0, l_1, nI_eq, ↓reduceIte, bnd_some, or_true, true_or, if_pos, if_neg, ↓l_m1, ↓l_m2, ↓l_m3, ↓l_m4]
            · simp (disch := omega) only [fX7_wall, hw7, wi7, k2, l_10, nI_add, l_31, b_one, hb, l_0, l_1, nI_eq, ↓reduceIte, bnd_some, or_true, true_or, if_pos, if_neg, ↓l_m1, ↓l_m2, ↓l_m3, ↓l_m4]
        · obtain ⟨σ1, τ1, e3, e4, e5⟩ := bad_ok h
          refine ⟨mI2, σ1, τ1, ?_, ?_, e5⟩
          · simp (disch := omega) only [fX6_wall, wi6, l_10, a1, e3, l_0, l_1, nI_eq, ↓reduceIte, bnd_some, or_true, true_or, if_pos, if_neg, ↓l_m1, ↓l_m2, ↓l_m3, ↓l_m4]
          · simp (disch := omega) only [fX7_wall, hw7, a2, e4, l_0, l_1, nI_eq, ↓reduceIte, bnd_some, or_true, true_or, if_pos, if_neg, ↓l_m1, ↓l_m2, ↓l_m3, ↓l_m4]
      · have hw7 : fX7_isWall (nI 1) y = some (nI 0) := by simp (disch := omega) only [fX7_isWall, l_10, a2, l_0, l_1, nI_eq, ↓reduceIte, bnd_some, or_true, true_or, if_pos, if_neg, ↓l_m1, ↓l_m2, ↓l_m3, ↓l_m4]
        obtain ⟨σ1, τ1, e3, e4, e5⟩ := bad_ok h
        refine ⟨mI2, σ1, τ1, ?_, ?_, e5⟩
        · simp (disch := omega) only [fX6_wall, wi6, l_10, a1, e3, l_0, l_1, nI_eq, ↓reduceIte, bnd_some, or_true, true_or, if_pos, if_neg, ↓l_m1, ↓l_m2, ↓l_m3, ↓l_m4]
        · simp (disch := omega) only [fX7_wall, hw7, e4, l_0, l_1, nI_eq, ↓reduceIte, bnd_some, or_true, true_or, if_pos, if_neg, ↓l_m1, ↓l_m2, ↓l_m3, ↓l_m4]
  · have hx0 : ¬ x = nI 0 := fun q => by
      rw [q, wi6 (by omega) (by omega)] at a1
      exact n10 (Option.some.inj a1)
    have hx1 : ¬ x = nI 1 := fun q => by
      rw [q, wi6 (by omega) (by omega)] at a1
      exact n10 (Option.some.inj a1)
    have hw7 : fX7_isWall x y = some (nI 0) := by simp only [fX7_isWall, l_0, l_1, if_neg hx0, if_neg hx1]
    obtain ⟨σ1, τ1, e3, e4, e5⟩ := bad_ok h
    refine ⟨mI2, σ1, τ1, ?_, ?_, e5⟩
    · simp (disch := omega) only [fX6_wall, a1, e3, l_0, l_1, nI_eq, ↓reduceIte, bnd_some, or_true, true_or, if_pos, if_neg, ↓l_m1, ↓l_m2, ↓l_m3, ↓l_m4]
    · simp (disch := omega) only [fX7_wall, hw7, e4, l_0, l_1, nI_eq, ↓reduceIte, bnd_some, or_true, true_or, if_pos, if_neg, ↓l_m1, ↓l_m2, ↓l_m3, ↓l_m4]
theorem sum_ok {n : Nat} (hn : n < 4999) {f : Nat → Int32} {g : Nat → Nat} (h : ∀ j, j < n → f j = nI (g j)) : fX6_sum n f = some (nI (sumN g n)) := by
  unfold fX6_sum
  obtain ⟨r, e1, e2⟩ := loopI (step := fX6_sum_L4 n f) (fun i (q : Int32 × Int32) => q = (nI (sumN g i), nI i)) (fun q => q.1 = nI (sumN g n)) n (F := 5000) (by omega) (s0 := ((0 : Int32), (0 : Int32))) rfl
    (by
      rintro i q hi rfl
      have hfi := h i hi
      refine ⟨_, ?_, rfl⟩
      simp (disch := omega) only [fX6_sum_L4, hfi, sumN, l_0, l_1, l_2, l_3, l_4, l_5, l_6, l_7, l_8, l_9, l_10, l_11, l_12, l_13, l_14, l_15, l_16, l_17, l_18, l_19, l_20, l_21, l_24, l_28, l_31, l_32, l_33, l_45, l_47, l_48, l_57, l_59, l_84, l_95, l_96, l_100, l_112, l_119, l_120, l_127, l_140, l_700, l_840, l_999, l_4095, l_999999, ↓l_m1, ↓l_m2, ↓l_m3, ↓l_m4, ↓l_m10, ↓l_m10000, nI_leI, nI_ltI, nI_eq, mI_le, mI_lt, le_mI, lt_mI, mI_eq, eq_mI, nI_add, pk_mul, pk_sub, pk_div, nI_clamp, md_eq, Nat.zero_le, true_and, and_true, and_self, if_pos, if_neg, Option.bind_some, bnd_some, Sum.elim_inl, Sum.elim_inr, ↓reduceIte])
    (by
      rintro q rfl
      refine ⟨(nI (sumN g n), nI n), ?_, rfl⟩
      simp (disch := omega) only [fX6_sum_L4, l_0, l_1, l_2, l_3, l_4, l_5, l_6, l_7, l_8, l_9, l_10, l_11, l_12, l_13, l_14, l_15, l_16, l_17, l_18, l_19, l_20, l_21, l_24, l_28, l_31, l_32, l_33, l_45, l_47, l_48, l_57, l_59, l_84, l_95, l_96, l_100, l_112, l_119, l_120, l_127, l_140, l_700, l_840, l_999, l_4095, l_999999, ↓l_m1, ↓l_m2, ↓l_m3, ↓l_m4, ↓l_m10, ↓l_m10000, nI_leI, nI_ltI, nI_eq, mI_le, mI_lt, le_mI, lt_mI, mI_eq, eq_mI, nI_add, pk_mul, pk_sub, pk_div, nI_clamp, md_eq, Nat.zero_le, true_and, and_true, and_self, if_pos, if_neg, Option.bind_some, bnd_some, Sum.elim_inl, Sum.elim_inr, ↓reduceIte])
  rw [e1, bnd_some, e2]
def b2n (b : Bool) : Nat := if b = true then 1 else 0
theorem walls_sum {M : AM} (h : OK M) : sumN (fun k => b2n (M.wl k)) 21 = cntW M.wl 0 7 + cntW M.wl 10 11 := by
  have h7 := h.2.2.2.2.1 7 (by omega)
  have h8 := h.2.2.2.2.1 8 (by omega)
  have h9 := h.2.2.2.2.1 9 (by omega)
  simp only [sumN, cntW, b2n, h7, h8, h9, Nat.zero_add, Bool.false_eq_true, if_false, Nat.reduceAdd]
  omega
/-- one told number, on both sides -/
theorem told_both {σ : S6} {τ : S7} {M : AM} {k : Nat} {H : Nat → AM} {w : Nat} {V : Nat → Nat → Bool} {tl : Nat} {tx : Nat → Nat} (hB : RB σ τ M k H w V tl tx) {j : Nat} (hj : j ≤ 5) : ∃ v, fX6_tellCount σ (nI j) = some v ∧ fX7_toldBy τ (nI j) = some v := by
  obtain ⟨h1, h2, h3, h4, h5, h6, h7, t1, t2, t3, t4⟩ := hB
  rcases (show j < 3 ∨ j = 3 ∨ j = 4 ∨ j = 5 by omega) with hj | rfl | rfl | rfl
  · have hr := h3 j hj
    refine ⟨τ.1 j, ?_, ?_⟩
    · rcases (show j = 0 ∨ j = 1 ∨ j = 2 by omega) with rfl | rfl | rfl <;> simp (disch := omega) only [fX6_tellCount, hr, l_0, l_1, l_2, l_3, l_4, l_5, l_6, l_7, l_8, l_9, l_10, l_11, l_12, l_13, l_14, l_15, l_16, l_17, l_18, l_19, l_20, l_21, l_24, l_28, l_31, l_32, l_33, l_45, l_47, l_48, l_57, l_59, l_84, l_95, l_96, l_100, l_112, l_119, l_120, l_127, l_140, l_700, l_840, l_999, l_4095, l_999999, ↓l_m1, ↓l_m2, ↓l_m3, ↓l_m4, ↓l_m10, ↓l_m10000, nI_leI, nI_ltI, nI_eq, mI_le, mI_lt, le_mI, lt_mI, mI_eq, eq_mI, nI_add, pk_mul, pk_sub, pk_div, nI_clamp, md_eq, Nat.zero_le, true_and, and_true, and_self, if_pos, if_neg, Option.bind_some, bnd_some, Sum.elim_inl, Sum.elim_inr, ↓reduceIte]
    · simp (disch := omega) only [fX7_toldBy, l_0, l_1, l_2, l_3, l_4, l_5, l_6, l_7, l_8, l_9, l_10, l_11, l_12, l_13, l_14, l_15, l_16, l_17, l_18, l_19, l_20, l_21, l_24, l_28, l_31, l_32, l_33, l_45, l_47, l_48, l_57, l_59, l_84, l_95, l_96, l_100, l_112, l_119, l_120, l_127, l_140, l_700, l_840, l_999, l_4095, l_999999, ↓l_m1, ↓l_m2, ↓l_m3, ↓l_m4, ↓l_m10, ↓l_m10000, nI_leI, nI_ltI, nI_eq, mI_le, mI_lt, le_mI, lt_mI, mI_eq, eq_mI, nI_add, pk_mul, pk_sub, pk_div, nI_clamp, md_eq, Nat.zero_le, true_and, and_true, and_self, if_pos, if_neg, Option.bind_some, bnd_some, Sum.elim_inl, Sum.elim_inr, ↓reduceIte]
  · refine ⟨nI tl, ?_, ?_⟩
    · simp (disch := omega) only [fX6_tellCount, t2, l_0, l_1, l_2, l_3, l_4, l_5, l_6, l_7, l_8, l_9, l_10, l_11, l_12, l_13, l_14, l_15, l_16, l_17, l_18, l_19, l_20, l_21, l_24, l_28, l_31, l_32, l_33, l_45, l_47, l_48, l_57, l_59, l_84, l_95, l_96, l_100, l_112, l_119, l_120, l_127, l_140, l_700, l_840, l_999, l_4095, l_999999, ↓l_m1, ↓l_m2, ↓l_m3, ↓l_m4, ↓l_m10, ↓l_m10000, nI_leI, nI_ltI, nI_eq, mI_le, mI_lt, le_mI, lt_mI, mI_eq, eq_mI, nI_add, pk_mul, pk_sub, pk_div, nI_clamp, md_eq, Nat.zero_le, true_and, and_true, and_self, if_pos, if_neg, Option.bind_some, bnd_some, Sum.elim_inl, Sum.elim_inr, ↓reduceIte]
    · simp (disch := omega) only [fX7_toldBy, t3, l_0, l_1, l_2, l_3, l_4, l_5, l_6, l_7, l_8, l_9, l_10, l_11, l_12, l_13, l_14, l_15, l_16, l_17, l_18, l_19, l_20, l_21, l_24, l_28, l_31, l_32, l_33, l_45, l_47, l_48, l_57, l_59, l_84, l_95, l_96, l_100, l_112, l_119, l_120, l_127, l_140, l_700, l_840, l_999, l_4095, l_999999, ↓l_m1, ↓l_m2, ↓l_m3, ↓l_m4, ↓l_m10, ↓l_m10000, nI_leI, nI_ltI, nI_eq, mI_le, mI_lt, le_mI, lt_mI, mI_eq, eq_mI, nI_add, pk_mul, pk_sub, pk_div, nI_clamp, md_eq, Nat.zero_le, true_and, and_true, and_self, if_pos, if_neg, Option.bind_some, bnd_some, Sum.elim_inl, Sum.elim_inr, ↓reduceIte]
  · have hs := sum_ok (n := 21) (by omega) (f := σ.1.2.2.2.2.1) (g := fun k => b2n (M.wl k)) (fun j hj => by rw [h1.2.2.2.2.2.1 j hj, bI_toN]; rfl)
    rw [walls_sum h1.1] at hs
    have ha := wallsAhead_ok (τ := τ) h2.2.2.2.2.1 (b := 0) (k := 7) (by omega)
    have hb := wallsAhead_ok (τ := τ) h2.2.2.2.2.1 (b := 10) (k := 11) (by omega)
    refine ⟨nI (cntW M.wl 0 7 + cntW M.wl 10 11), ?_, ?_⟩
    · simp (disch := omega) only [fX6_tellCount, hs, l_0, l_1, l_2, l_3, l_4, l_5, l_6, l_7, l_8, l_9, l_10, l_11, l_12, l_13, l_14, l_15, l_16, l_17, l_18, l_19, l_20, l_21, l_24, l_28, l_31, l_32, l_33, l_45, l_47, l_48, l_57, l_59, l_84, l_95, l_96, l_100, l_112, l_119, l_120, l_127, l_140, l_700, l_840, l_999, l_4095, l_999999, ↓l_m1, ↓l_m2, ↓l_m3, ↓l_m4, ↓l_m10, ↓l_m10000, nI_leI, nI_ltI, nI_eq, mI_le, mI_lt, le_mI, lt_mI, mI_eq, eq_mI, nI_add, pk_mul, pk_sub, pk_div, nI_clamp, md_eq, Nat.zero_le, true_and, and_true, and_self, if_pos, if_neg, Option.bind_some, bnd_some, Sum.elim_inl, Sum.elim_inr, ↓reduceIte]
    · simp (disch := omega) only [fX7_toldBy, ha, hb, l_0, l_1, l_2, l_3, l_4, l_5, l_6, l_7, l_8, l_9, l_10, l_11, l_12, l_13, l_14, l_15, l_16, l_17, l_18, l_19, l_20, l_21, l_24, l_28, l_31, l_32, l_33, l_45, l_47, l_48, l_57, l_59, l_84, l_95, l_96, l_100, l_112, l_119, l_120, l_127, l_140, l_700, l_840, l_999, l_4095, l_999999, ↓l_m1, ↓l_m2, ↓l_m3, ↓l_m4, ↓l_m10, ↓l_m10000, nI_leI, nI_ltI, nI_eq, mI_le, mI_lt, le_mI, lt_mI, mI_eq, eq_mI, nI_add, pk_mul, pk_sub, pk_div, nI_clamp, md_eq, Nat.zero_le, true_and, and_true, and_self, if_pos, if_neg, Option.bind_some, bnd_some, Sum.elim_inl, Sum.elim_inr, ↓reduceIte]
  · refine ⟨nI k, ?_, ?_⟩
    · simp (disch := omega) only [fX6_tellCount, h4.2.1, l_0, l_1, l_2, l_3, l_4, l_5, l_6, l_7, l_8, l_9, l_10, l_11, l_12, l_13, l_14, l_15, l_16, l_17, l_18, l_19, l_20, l_21, l_24, l_28, l_31, l_32, l_33, l_45, l_47, l_48, l_57, l_59, l_84, l_95, l_96, l_100, l_112, l_119, l_120, l_127, l_140, l_700, l_840, l_999, l_4095, l_999999, ↓l_m1, ↓l_m2, ↓l_m3, ↓l_m4, ↓l_m10, ↓l_m10000, nI_leI, nI_ltI, nI_eq, mI_le, mI_lt, le_mI, lt_mI, mI_eq, eq_mI, nI_add, pk_mul, pk_sub, pk_div, nI_clamp, md_eq, Nat.zero_le, true_and, and_true, and_self, if_pos, if_neg, Option.bind_some, bnd_some, Sum.elim_inl, Sum.elim_inr, ↓reduceIte]
    · simp (disch := omega) only [fX7_toldBy, h5.2.1, l_0, l_1, l_2, l_3, l_4, l_5, l_6, l_7, l_8, l_9, l_10, l_11, l_12, l_13, l_14, l_15, l_16, l_17, l_18, l_19, l_20, l_21, l_24, l_28, l_31, l_32, l_33, l_45, l_47, l_48, l_57, l_59, l_84, l_95, l_96, l_100, l_112, l_119, l_120, l_127, l_140, l_700, l_840, l_999, l_4095, l_999999, ↓l_m1, ↓l_m2, ↓l_m3, ↓l_m4, ↓l_m10, ↓l_m10000, nI_leI, nI_ltI, nI_eq, mI_le, mI_lt, le_mI, lt_mI, mI_eq, eq_mI, nI_add, pk_mul, pk_sub, pk_div, nI_clamp, md_eq, Nat.zero_le, true_and, and_true, and_self, if_pos, if_neg, Option.bind_some, bnd_some, Sum.elim_inl, Sum.elim_inr, ↓reduceIte]
theorem E_told : E1 Rel fX6_told fX7_told := by
  intro σ τ x h
  rcases wi x (k := 5) (by omega) with ⟨j, hj, rfl⟩ | ⟨a1, a2⟩
  · have hh := h
    obtain ⟨M, k, H, w, V, tl, tx, hB⟩ := hh
    obtain ⟨v, e1, e2⟩ := told_both hB hj
    refine ⟨v, σ, τ, ?_, ?_, h⟩
    · simp (disch := omega) only [fX6_told, wi6, l_5, e1, l_0, l_1, nI_eq, ↓reduceIte, bnd_some, or_true, true_or, if_pos, if_neg, ↓l_m1, ↓l_m2, ↓l_m3, ↓l_m4]
    · simp (disch := omega) only [fX7_told, wi7, l_5, e2, l_0, l_1, nI_eq, ↓reduceIte, bnd_some, or_true, true_or, if_pos, if_neg, ↓l_m1, ↓l_m2, ↓l_m3, ↓l_m4]
  · obtain ⟨σ1, τ1, e3, e4, e5⟩ := bad_ok h
    refine ⟨mI2, σ1, τ1, ?_, ?_, e5⟩
    · simp (disch := omega) only [fX6_told, l_5, a1, e3, l_0, l_1, nI_eq, ↓reduceIte, bnd_some, or_true, true_or, if_pos, if_neg, ↓l_m1, ↓l_m2, ↓l_m3, ↓l_m4]
    · simp (disch := omega) only [fX7_told, l_5, a2, e4, l_0, l_1, nI_eq, ↓reduceIte, bnd_some, or_true, true_or, if_pos, if_neg, ↓l_m1, ↓l_m2, ↓l_m3, ↓l_m4]
/-- the row of drawn numbers -/
def drX (s : Nat) : Nat → Nat
  | 0 => s
  | k + 1 => (drX s k * 1103515245 + 12345) % 2147483648
theorem drX_lt {s : Nat} (h : s < 2147483648) : ∀ k, drX s k < 2147483648
  | 0 => h
  | k + 1 => by rw [drX]; exact Nat.mod_lt _ (by omega)
def drW (s v : Nat) (c : Nat) : Nat := drX s (c + 1) / 65536 % (v + 1)
theorem drX_s (s k : Nat) : drX s (k + 1) = (drX s k * 1103515245 + 12345) % 2147483648 := by rw [drX]
theorem drW_d (s v c : Nat) : drW s v c = drX s (c + 1) / 65536 % (v + 1) := by rw [drW]
theorem L1 : (1103515245 : Int64) = lN 1103515245 := by decide
theorem L2 : (12345 : Int64) = lN 12345 := by decide
theorem L3 : (2147483648 : Int64) = lN 2147483648 := by decide
theorem L4 : (65536 : Int64) = lN 65536 := by decide
theorem lrem {a b : Nat} (ha : a < 2 ^ 63) (h0 : 0 < b) (hb : b < 2 ^ 63) : lN a - lN a / lN b * lN b = lN (a % b) := pk_lRem ha h0 hb
theorem draw_row {s v : Nat} (hs : s < 2147483648) (hv : v ≤ 9) : ∃ X d : Nat → Nat, X 0 = s ∧ (∀ i, ((lN (X i) * (1103515245 : Int64)) + (12345 : Int64)) - ((lN (X i) * (1103515245 : Int64)) + (12345 : Int64)) / (2147483648 : Int64) * (2147483648 : Int64) = lN (X (i + 1))) ∧ (∀ i, (((lN (X (i + 1)) / (65536 : Int64)) - (lN (X (i + 1)) / (65536 : Int64)) / lN (v + 1) * lN (v + 1)).toInt32) = nI (d i)) ∧ ∀ i, d i ≤ 9 := by
  have hx := drX_lt (s := s) hs
  refine ⟨drX s, drW s v, by rw [drX], fun i => ?_, fun i => ?_, fun i => ?_⟩
  · have := hx i
    rw [L1, L2, L3, lN_mul, lN_add, lrem (by omega) (by omega) (by omega), ← drX_s]
  · have := hx (i + 1)
    rw [L4, pk_lDiv (by omega) (by omega) (by omega), lrem (by omega) (by omega) (by omega), lN_i, ← drW_d]
  · have : drW s v i < v + 1 := by rw [drW_d]; exact Nat.mod_lt _ (by omega)
    omega
theorem E_draw : E2 Rel fX6_draw fX7_draw := by
  intro σ τ x y h
  rcases wi x (k := 999999) (by omega) with ⟨s, hs, rfl⟩ | ⟨a1, a2⟩
  · rcases wi y (k := 9) (by omega) with ⟨v, hv, rfl⟩ | ⟨a1, a2⟩
    · obtain ⟨M, k, H, w, V, tl, tx, hB⟩ := h
      obtain ⟨s1, f, k1, k2, k3, k4⟩ := kept_ok hB
      obtain ⟨h1, h2, h3, -, -, h6, h7, h8⟩ := hB
      have hm6 : (nI v + (1 : Int32)).toInt64 = lN (v + 1) := by
        rw [show (1 : Int32) = nI 1 from rfl, nI_add, nI_l (by omega)]
      have hm7 : (nI v).toInt64 + (1 : Int64) = lN (v + 1) := by rw [nI_l (by omega)]; exact lN_1 v
      have hne : ¬ lN (v + 1) = 0 := fun q => by
        have := (pk_lEQ (a := v + 1) (b := 0) (by omega) (by omega)).mp q
        omega
      obtain ⟨X, d, hX0, hstep, hval, hle⟩ := draw_row (s := s) (v := v) (by omega) hv
      obtain ⟨z, e1, e2⟩ := loopI (step := fX6_draw_L42 (nI v)) (fun i (q : Int64 × Int32 × (Nat → Int32)) => (q.1 = lN (X i) ∧ q.2.1 = nI i) ∧ ∀ c, c < i → q.2.2 c = nI (d c)) (fun q => ∀ c, c < 96 → q.2.2 c = nI (d c)) 96 (F := 5000) (by omega) (s0 := ((nI s).toInt64, (0 : Int32), σ.1.1)) ⟨⟨by rw [hX0]; exact nI_l (by omega), rfl⟩, fun c hc => absurd hc (by omega)⟩
        (by
          rintro i ⟨a, b, g⟩ hi ⟨⟨rfl, rfl⟩, hg⟩
          refine ⟨(lN (X (i + 1)), nI (i + 1), upd g i (nI (d i))), ?_, ⟨rfl, rfl⟩, fun c hc => ?_⟩
          · simp only [fX6_draw_L42, hstep, hm6, bnd_some, hval, if_pos hne]
            simp (disch := omega) only [l_0, l_1, l_2, l_3, l_4, l_5, l_6, l_7, l_8, l_9, l_10, l_11, l_12, l_13, l_14, l_15, l_16, l_17, l_18, l_19, l_20, l_21, l_24, l_28, l_31, l_32, l_33, l_45, l_47, l_48, l_57, l_59, l_84, l_95, l_96, l_100, l_112, l_119, l_120, l_127, l_140, l_700, l_840, l_999, l_4095, l_999999, ↓l_m1, ↓l_m2, ↓l_m3, ↓l_m4, ↓l_m10, ↓l_m10000, nI_leI, nI_ltI, nI_eq, mI_le, mI_lt, le_mI, lt_mI, mI_eq, eq_mI, nI_add, pk_mul, pk_sub, pk_div, nI_clamp, md_eq, Nat.zero_le, true_and, and_true, and_self, if_pos, if_neg, Option.bind_some, bnd_some, Sum.elim_inl, Sum.elim_inr, ↓reduceIte]
          · show upd g i _ c = _
            by_cases hci : c = i
            · subst hci; exact upd_same _ _ _
            · rw [upd_ne _ _ _ _ hci]; exact hg c (by omega))
        (by
          rintro ⟨a, b, g⟩ ⟨⟨rfl, rfl⟩, hg⟩
          refine ⟨(lN (X 96), nI 96, g), ?_, hg⟩
          simp (disch := omega) only [fX6_draw_L42, l_0, l_1, l_2, l_3, l_4, l_5, l_6, l_7, l_8, l_9, l_10, l_11, l_12, l_13, l_14, l_15, l_16, l_17, l_18, l_19, l_20, l_21, l_24, l_28, l_31, l_32, l_33, l_45, l_47, l_48, l_57, l_59, l_84, l_95, l_96, l_100, l_112, l_119, l_120, l_127, l_140, l_700, l_840, l_999, l_4095, l_999999, ↓l_m1, ↓l_m2, ↓l_m3, ↓l_m4, ↓l_m10, ↓l_m10000, nI_leI, nI_ltI, nI_eq, mI_le, mI_lt, le_mI, lt_mI, mI_eq, eq_mI, nI_add, pk_mul, pk_sub, pk_div, nI_clamp, md_eq, Nat.zero_le, true_and, and_true, and_self, if_pos, if_neg, Option.bind_some, bnd_some, Sum.elim_inl, Sum.elim_inr, ↓reduceIte])
      have hsum := sum_ok (n := 96) (by omega) e2
      obtain ⟨y, e3, e4, e5⟩ := loopI (step := fX7_draw_L38 (nI v)) (fun i (q : Int64 × Int32 × Int32 × (Nat → Int32)) => (q.1 = lN (X i) ∧ q.2.1 = nI (sumN (d) i) ∧ q.2.2.1 = nI i) ∧ ∀ c, c < i → q.2.2.2 c = nI (d c)) (fun (q : Int64 × Int32 × Int32 × (Nat → Int32)) => q.2.1 = nI (sumN (d) 96) ∧ ∀ c, c < 96 → q.2.2.2 c = nI (d c)) 96 (F := 5000) (by omega) (s0 := ((nI s).toInt64, (0 : Int32), (0 : Int32), τ.2.1)) ⟨⟨by rw [hX0]; exact nI_l (by omega), rfl, rfl⟩, fun c hc => absurd hc (by omega)⟩
        (by
          rintro i ⟨a, b, b2, g⟩ hi ⟨⟨rfl, rfl, rfl⟩, hg⟩
          refine ⟨(lN (X (i + 1)), nI (sumN (d) (i + 1)), nI (i + 1), upd g i (nI (d i))), ?_, ⟨rfl, rfl, rfl⟩, fun c hc => ?_⟩
          · simp only [fX7_draw_L38, hstep, hm7, bnd_some, hval, if_pos hne]
            simp (disch := omega) only [upd_same, sumN, l_0, l_1, l_2, l_3, l_4, l_5, l_6, l_7, l_8, l_9, l_10, l_11, l_12, l_13, l_14, l_15, l_16, l_17, l_18, l_19, l_20, l_21, l_24, l_28, l_31, l_32, l_33, l_45, l_47, l_48, l_57, l_59, l_84, l_95, l_96, l_100, l_112, l_119, l_120, l_127, l_140, l_700, l_840, l_999, l_4095, l_999999, ↓l_m1, ↓l_m2, ↓l_m3, ↓l_m4, ↓l_m10, ↓l_m10000, nI_leI, nI_ltI, nI_eq, mI_le, mI_lt, le_mI, lt_mI, mI_eq, eq_mI, nI_add, pk_mul, pk_sub, pk_div, nI_clamp, md_eq, Nat.zero_le, true_and, and_true, and_self, if_pos, if_neg, Option.bind_some, bnd_some, Sum.elim_inl, Sum.elim_inr, ↓reduceIte]
          · show upd g i _ c = _
            by_cases hci : c = i
            · subst hci; exact upd_same _ _ _
            · rw [upd_ne _ _ _ _ hci]; exact hg c (by omega))
        (by
          rintro ⟨a, b, b2, g⟩ ⟨⟨rfl, rfl, rfl⟩, hg⟩
          refine ⟨(lN (X 96), nI (sumN (d) 96), nI 96, g), ?_, rfl, hg⟩
          simp (disch := omega) only [fX7_draw_L38, l_0, l_1, l_2, l_3, l_4, l_5, l_6, l_7, l_8, l_9, l_10, l_11, l_12, l_13, l_14, l_15, l_16, l_17, l_18, l_19, l_20, l_21, l_24, l_28, l_31, l_32, l_33, l_45, l_47, l_48, l_57, l_59, l_84, l_95, l_96, l_100, l_112, l_119, l_120, l_127, l_140, l_700, l_840, l_999, l_4095, l_999999, ↓l_m1, ↓l_m2, ↓l_m3, ↓l_m4, ↓l_m10, ↓l_m10000, nI_leI, nI_ltI, nI_eq, mI_le, mI_lt, le_mI, lt_mI, mI_eq, eq_mI, nI_add, pk_mul, pk_sub, pk_div, nI_clamp, md_eq, Nat.zero_le, true_and, and_true, and_self, if_pos, if_neg, Option.bind_some, bnd_some, Sum.elim_inl, Sum.elim_inr, ↓reduceIte])
      have e1' : loopF (fX6_draw_L42 (nI v)) 5000 ((nI s).toInt64, nI 0, σ.1.1) = some z := e1
      have e3' : loopF (fX7_draw_L38 (nI v)) 5000 ((nI s).toInt64, nI 0, nI 0, τ.2.1) = some y := e3
      refine ⟨nI (sumN (d) 96), ((z.2.2, σ.1.2), σ.2.1, σ.2.2.1, s1, σ.2.2.2.2), (τ.1, y.2.2.2, τ.2.2.1, τ.2.2.2.1, τ.2.2.2.2.1, τ.2.2.2.2.2.1, τ.2.2.2.2.2.2.1, nI (nC k), f, τ.2.2.2.2.2.2.2.2.2), ?_, ?_, mkAM M.n M.cl M.sg M.up M.wl (d), nC k, nH k H M, w, V, tl, tx, ⟨⟨h1.1.1, h1.1.2.1, h1.1.2.2.1, h1.1.2.2.2.1, h1.1.2.2.2.2.1, fun c _ => hle c⟩, h1.2.1, h1.2.2.1, h1.2.2.2.1, h1.2.2.2.2.1, h1.2.2.2.2.2.1, e2⟩, ⟨h2.1, h2.2.1, h2.2.2.1, h2.2.2.2.1, h2.2.2.2.2.1, e5⟩, h3, k3, k4, h6, h7, h8⟩
      · simp (disch := omega) only [fX6_draw, wi6, l_9, l_999999, k1, e1', hsum, l_0, l_1, nI_eq, ↓reduceIte, bnd_some, or_true, true_or, if_pos, if_neg, ↓l_m1, ↓l_m2, ↓l_m3, ↓l_m4]
      · simp (disch := omega) only [fX7_draw, wi7, l_9, l_999999, k2, e3', e4, l_0, l_1, nI_eq, ↓reduceIte, bnd_some, or_true, true_or, if_pos, if_neg, ↓l_m1, ↓l_m2, ↓l_m3, ↓l_m4]
    · obtain ⟨σ1, τ1, e3, e4, e5⟩ := bad_ok h
      refine ⟨mI2, σ1, τ1, ?_, ?_, e5⟩
      · simp (disch := omega) only [fX6_draw, wi6, l_999999, l_9, a1, e3, l_0, l_1, nI_eq, ↓reduceIte, bnd_some, or_true, true_or, if_pos, if_neg, ↓l_m1, ↓l_m2, ↓l_m3, ↓l_m4]
      · simp (disch := omega) only [fX7_draw, wi7, l_999999, l_9, a2, e4, l_0, l_1, nI_eq, ↓reduceIte, bnd_some, or_true, true_or, if_pos, if_neg, ↓l_m1, ↓l_m2, ↓l_m3, ↓l_m4]
  · obtain ⟨σ1, τ1, e3, e4, e5⟩ := bad_ok h
    refine ⟨mI2, σ1, τ1, ?_, ?_, e5⟩
    · simp (disch := omega) only [fX6_draw, l_999999, a1, e3, l_0, l_1, nI_eq, ↓reduceIte, bnd_some, or_true, true_or, if_pos, if_neg, ↓l_m1, ↓l_m2, ↓l_m3, ↓l_m4]
    · simp (disch := omega) only [fX7_draw, l_999999, a2, e4, l_0, l_1, nI_eq, ↓reduceIte, bnd_some, or_true, true_or, if_pos, if_neg, ↓l_m1, ↓l_m2, ↓l_m3, ↓l_m4]
