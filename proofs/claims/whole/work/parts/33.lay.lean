theorem gap_l {a b : Nat} (ha : a < 2 ^ 30) (hb : b < 2 ^ 30) : (if nI 0 ≤ nI a - nI b then nI a - nI b else nI 0 - (nI a - nI b)) = nI (gapN b a) := by
  unfold gapN
  by_cases h : b ≤ a
  · rw [pk_sub h, if_pos (nI_le (Nat.zero_le _) (by omega)), if_neg (by omega)]
  · have e1 : (nI a - nI b).toInt = (a : Int) - b := pk_sub_toInt ha hb
    rw [if_neg, if_pos (by omega)]
    · apply Int32.toInt_inj.mp
      rw [Int32.toInt_sub, e1, nI_toInt (by omega), nI_toInt (by omega), Int.bmod_eq_of_le (by omega) (by omega)]
      omega
    · intro q
      have := Int32.le_iff_toInt_le.mp q
      rw [e1, nI_toInt (by omega)] at this
      omega
/-- which cells a claim has been at: rows before r, and of row r the columns before c -/
def bh (r c x : Nat) : Prop := x / 12 < r ∨ (x / 12 = r ∧ x % 12 < c)
def inR (r0 r1 c0 c1 x : Nat) : Prop := (r0 ≤ x / 12 ∧ x / 12 ≤ r1) ∧ (c0 ≤ x % 12 ∧ x % 12 ≤ c1)
/-- a claim has been made on those of a kind -/
def CI (p : Nat) (u0 : Nat → Int32) (a0 : Nat → Nat) (d : Nat → Nat) (g : Nat → Prop) (u a : Nat → Int32) : Prop :=
  ∀ x, x < 96 → (g x → (d x < a0 x → u x = nI p ∧ a x = nI (d x)) ∧ (¬ d x < a0 x → u x = u0 x ∧ a x = nI (a0 x))) ∧ (¬ g x → u x = u0 x ∧ a x = nI (a0 x))
theorem CI_mono {p : Nat} {u0 : Nat → Int32} {a0 d : Nat → Nat} {g g1 : Nat → Prop} {u a : Nat → Int32} (h : CI p u0 a0 d g u a) (e : ∀ x, x < 96 → (g x ↔ g1 x)) : CI p u0 a0 d g1 u a :=
  fun x hx => ⟨fun q => (h x hx).1 ((e x hx).mpr q), fun q => (h x hx).2 (fun z => q ((e x hx).mp z))⟩
theorem claim_in {p cp r r0 r1 c0 c1 : Nat} {u0 : Nat → Int32} {a0 : Nat → Nat} (hp : p < 12) (hcp : cp < 96) (hr : r < 8) (hc1 : c1 < 12) (hc0 : c0 ≤ c1) (hr0 : r0 ≤ r) (hr1 : r ≤ r1) (ha0 : ∀ x, x < 96 → a0 x ≤ 999) (q7 : Int32 × (Nat → Int32) × (Nat → Int32)) (hq7 : q7.1 = nI r)
    {u a : Nat → Int32} (hI : CI p u0 a0 (dist cp) (fun x => bh r c0 x ∧ inR r0 r1 c0 c1 x) u a) :
    ∃ z, loopF (fX0_claim_L81 (nI p) (nI (cp % 12)) (nI c1) q7 (nI (gapN (cp / 12) r))) 5000 (nI c0, u, a) = some z ∧ CI p u0 a0 (dist cp) (fun x => bh (r + 1) c0 x ∧ inR r0 r1 c0 c1 x) z.2.1 z.2.2 := by
  refine loopI (fun i (q : Int32 × (Nat → Int32) × (Nat → Int32)) => q.1 = nI (c0 + i) ∧ CI p u0 a0 (dist cp) (fun x => bh r (c0 + i) x ∧ inR r0 r1 c0 c1 x) q.2.1 q.2.2) (fun (z : Int32 × (Nat → Int32) × (Nat → Int32)) => CI p u0 a0 (dist cp) (fun x => bh (r + 1) c0 x ∧ inR r0 r1 c0 c1 x) z.2.1 z.2.2) (c1 + 1 - c0) (F := 5000) (by omega) (s0 := (nI c0, u, a)) ⟨rfl, hI⟩ ?_ ?_
  · rintro i ⟨x0, u, a⟩ hi ⟨rfl, hC⟩
    have hC : CI p u0 a0 (dist cp) (fun x => bh r (c0 + i) x ∧ inR r0 r1 c0 c1 x) u a := hC
    have hx : 12 * r + (c0 + i) < 96 := by omega
    have d1 : (12 * r + (c0 + i)) / 12 = r := by omega
    have d2 : (12 * r + (c0 + i)) % 12 = c0 + i := by omega
    have hnb : ¬ (bh r (c0 + i) (12 * r + (c0 + i)) ∧ inR r0 r1 c0 c1 (12 * r + (c0 + i))) := by
      rintro ⟨q | q, -⟩ <;> omega
    have ha := ((hC _ hx).2 hnb).2
    have hu := ((hC _ hx).2 hnb).1
    have hd : gapN (cp / 12) r + gapN (cp % 12) (c0 + i) = dist cp (12 * r + (c0 + i)) := by
      unfold dist; rw [d1, d2]
    have hdl := dist_lt hcp hx
    have hal := ha0 _ hx
    have hgl : gapN (cp / 12) r < 100 := by unfold gapN; split <;> omega
    have hgl2 : gapN (cp % 12) (c0 + i) < 100 := by unfold gapN; split <;> omega
    have hg := gap_l (a := c0 + i) (b := cp % 12) (by omega) (by omega)
    have hbh : ∀ x, x < 96 → x ≠ 12 * r + (c0 + i) → (bh r (c0 + i) x ↔ bh r (c0 + (i + 1)) x) := by
      intro x hx1 hne
      unfold bh
      constructor
      · rintro (q | q) <;> omega
      · rintro (q | q) <;> omega
    by_cases hlt : dist cp (12 * r + (c0 + i)) < a0 (12 * r + (c0 + i))
    · refine ⟨(nI (c0 + (i + 1)), upd u (12 * r + (c0 + i)) (nI p), upd a (12 * r + (c0 + i)) (nI (dist cp (12 * r + (c0 + i))))), ?_, rfl, ?_⟩
      · simp (disch := omega) only [fX0_claim_L81, hq7, hg, hd, ha, l_0, l_1, l_2, l_3, l_4, l_5, l_6, l_7, l_8, l_9, l_10, l_11, l_12, l_13, l_14, l_15, l_16, l_17, l_18, l_19, l_20, l_21, l_24, l_28, l_31, l_32, l_33, l_45, l_47, l_48, l_57, l_59, l_84, l_95, l_96, l_100, l_112, l_119, l_120, l_127, l_140, l_700, l_840, l_999, l_4095, l_999999, ↓l_m1, ↓l_m2, ↓l_m3, ↓l_m4, ↓l_m10, ↓l_m10000, nI_leI, nI_ltI, nI_eq, mI_le, mI_lt, le_mI, lt_mI, mI_eq, eq_mI, nI_add, pk_mul, nI_clamp, Nat.zero_le, true_and, and_true, if_pos, if_neg, bnd_some]
        rfl
      · intro x hx1
        by_cases hxe : x = 12 * r + (c0 + i)
        · subst hxe
          refine ⟨fun _ => ⟨fun _ => ⟨upd_same _ _ _, upd_same _ _ _⟩, fun q => absurd hlt q⟩, fun q => absurd ⟨Or.inr ⟨d1, by omega⟩, ⟨by omega, by omega⟩, by omega, by omega⟩ q⟩
        · show (_ → (_ → upd u _ _ x = _ ∧ upd a _ _ x = _) ∧ (_ → upd u _ _ x = _ ∧ upd a _ _ x = _)) ∧ (_ → upd u _ _ x = _ ∧ upd a _ _ x = _)
          rw [upd_ne _ _ _ _ hxe, upd_ne _ _ _ _ hxe]
          exact ⟨fun q => (hC x hx1).1 ⟨(hbh x hx1 hxe).mpr q.1, q.2⟩, fun q => (hC x hx1).2 (fun z => q ⟨(hbh x hx1 hxe).mp z.1, z.2⟩)⟩
    · refine ⟨(nI (c0 + (i + 1)), u, a), ?_, rfl, ?_⟩
      · simp (disch := omega) only [fX0_claim_L81, hq7, hg, hd, ha, l_0, l_1, l_2, l_3, l_4, l_5, l_6, l_7, l_8, l_9, l_10, l_11, l_12, l_13, l_14, l_15, l_16, l_17, l_18, l_19, l_20, l_21, l_24, l_28, l_31, l_32, l_33, l_45, l_47, l_48, l_57, l_59, l_84, l_95, l_96, l_100, l_112, l_119, l_120, l_127, l_140, l_700, l_840, l_999, l_4095, l_999999, ↓l_m1, ↓l_m2, ↓l_m3, ↓l_m4, ↓l_m10, ↓l_m10000, nI_leI, nI_ltI, nI_eq, mI_le, mI_lt, le_mI, lt_mI, mI_eq, eq_mI, nI_add, pk_mul, nI_clamp, Nat.zero_le, true_and, and_true, if_pos, if_neg, bnd_some]
        rfl
      · intro x hx1
        by_cases hxe : x = 12 * r + (c0 + i)
        · subst hxe
          exact ⟨fun _ => ⟨fun q => absurd q hlt, fun _ => ⟨hu, ha⟩⟩, fun _ => ⟨hu, ha⟩⟩
        · exact ⟨fun q => (hC x hx1).1 ⟨(hbh x hx1 hxe).mpr q.1, q.2⟩, fun q => (hC x hx1).2 (fun z => q ⟨(hbh x hx1 hxe).mp z.1, z.2⟩)⟩
  · rintro ⟨x0, u, a⟩ ⟨rfl, hC⟩
    refine ⟨(nI (c0 + (c1 + 1 - c0)), u, a), ?_, ?_⟩
    · simp (disch := omega) only [fX0_claim_L81, l_0, l_1, l_2, l_3, l_4, l_5, l_6, l_7, l_8, l_9, l_10, l_11, l_12, l_13, l_14, l_15, l_16, l_17, l_18, l_19, l_20, l_21, l_24, l_28, l_31, l_32, l_33, l_45, l_47, l_48, l_57, l_59, l_84, l_95, l_96, l_100, l_112, l_119, l_120, l_127, l_140, l_700, l_840, l_999, l_4095, l_999999, ↓l_m1, ↓l_m2, ↓l_m3, ↓l_m4, ↓l_m10, ↓l_m10000, nI_leI, nI_ltI, nI_eq, mI_le, mI_lt, le_mI, lt_mI, mI_eq, eq_mI, if_pos, if_neg]
    · refine CI_mono hC (fun x hx => ?_)
      unfold bh inR
      constructor
      · rintro ⟨q | q, q2⟩ <;> exact ⟨by omega, q2⟩
      · rintro ⟨q | q, q2⟩
        · refine ⟨?_, q2⟩
          omega
        · exact ⟨by omega, q2⟩
