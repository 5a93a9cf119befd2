def bt (x : Int32) (i : Nat) : Bool := x.toBitVec.getLsbD i
theorem b_ext {x y : Int32} (h : ∀ i, i < 32 → bt x i = bt y i) : x = y := Int32.toBitVec_inj.mp (BitVec.eq_of_getLsbD_eq (fun i hi => h i hi))
theorem b_or (x y : Int32) (i : Nat) : bt (x ||| y) i = (bt x i || bt y i) := by unfold bt; rw [Int32.toBitVec_or, BitVec.getLsbD_or]
theorem b_and (x y : Int32) (i : Nat) : bt (x &&& y) i = (bt x i && bt y i) := by unfold bt; rw [Int32.toBitVec_and, BitVec.getLsbD_and]
theorem b_xor (x y : Int32) (i : Nat) : bt (x ^^^ y) i = (bt x i ^^ bt y i) := by unfold bt; rw [Int32.toBitVec_xor, BitVec.getLsbD_xor]
theorem b_big {x : Int32} {i : Nat} (h : 32 ≤ i) : bt x i = false := BitVec.getLsbD_of_ge _ _ h
theorem b_m1 : ∀ i, i < 32 → bt (-1) i = true := by decide +kernel
theorem b_0 (i : Nat) : bt 0 i = false := BitVec.getLsbD_zero
theorem s_l : ∀ n, n < 32 → ((nI n &&& 31).toBitVec.smod 32).toNat = n := by decide +kernel
theorem b_shl (n : Nat) (hn : n < 32) (x : Int32) {i : Nat} (hi : i < 32) : bt (x <<< (nI n &&& 31)) i = (decide (n ≤ i) && bt x (i - n)) := by
  unfold bt
  rw [Int32.toBitVec_shiftLeft]
  show (x.toBitVec <<< ((nI n &&& 31).toBitVec.smod 32).toNat).getLsbD i = _
  rw [s_l n hn, BitVec.getLsbD_shiftLeft]
  rcases Nat.lt_or_ge i n with h | h
  · simp [h, Nat.not_le.mpr h]
  · simp [hi, h, Nat.not_lt.mpr h]
theorem b_sshr (n : Nat) (hn : n < 32) (x : Int32) {i : Nat} (hi : i < 32) : bt (x >>> (nI n &&& 31)) i = if n + i < 32 then bt x (n + i) else bt x 31 := by
  unfold bt
  rw [Int32.toBitVec_shiftRight]
  show (x.toBitVec.sshiftRight ((nI n &&& 31).toBitVec.smod 32).toNat).getLsbD i = _
  rw [s_l n hn, BitVec.getLsbD_sshiftRight, BitVec.msb_eq_getLsbD_last]
  simp [hi]
theorem b_nI1 (i : Nat) : bt (nI 1) i = decide (i = 0) := by
  rcases Nat.lt_or_ge i 32 with h | h
  · exact (by decide +kernel : ∀ i, i < 32 → bt (nI 1) i = decide (i = 0)) i h
  · rw [b_big h, decide_eq_false (by omega)]
theorem b_nI0 (i : Nat) : bt (nI 0) i = false := b_0 i
/-- one bit of a set -/
theorem b_one (x : Int32) {k : Nat} (hk : k < 32) : (x >>> (nI k &&& nI 31)) &&& nI 1 = bI (bt x k) := by
  apply b_ext
  intro i hi
  rw [b_and, b_nI1]
  have e : bt (x >>> (nI k &&& nI 31)) i = if k + i < 32 then bt x (k + i) else bt x 31 := b_sshr k hk x hi
  rw [e]
  by_cases h0 : i = 0
  · subst h0
    rw [if_pos (by omega), decide_eq_true rfl, Bool.and_true, Nat.add_zero]
    cases bt x k
    · exact (b_0 0).symm
    · rw [bI_t, b_nI1, decide_eq_true rfl]
  · rw [decide_eq_false h0, Bool.and_false]
    cases bt x k
    · exact (b_0 i).symm
    · rw [bI_t, b_nI1, decide_eq_false h0]
theorem b_tw {j : Nat} (hj : j < 32) {i : Nat} (hi : i < 32) : bt (nI 1 <<< (nI j &&& nI 31)) i = decide (i = j) := by
  have e : bt (nI 1 <<< (nI j &&& nI 31)) i = (decide (j ≤ i) && bt (nI 1) (i - j)) := b_shl j hj (nI 1) hi
  rw [e, b_nI1]
  by_cases h : i = j
  · subst h; simp
  · rw [decide_eq_false h]
    by_cases h2 : j ≤ i
    · rw [decide_eq_false (show ¬ i - j = 0 by omega), Bool.and_false]
    · rw [decide_eq_false h2, Bool.false_and]
theorem b_not (x : Int32) {i : Nat} (hi : i < 32) : bt (x ^^^ mI) i = !bt x i := by
  rw [b_xor, show mI = -1 from rfl, b_m1 i hi, Bool.xor_true]
/-- x holds the set S, of the first 32 -/
def hS (x : Int32) (S : Nat → Bool) : Prop := ∀ i, i < 32 → bt x i = S i
theorem hS_or {x : Int32} {S : Nat → Bool} (h : hS x S) {j : Nat} (hj : j < 32) : hS (x ||| (nI 1 <<< (nI j &&& nI 31))) (fun i => S i || decide (i = j)) := fun i hi => by
  rw [b_or, h i hi, b_tw hj hi]
theorem hS_del {x : Int32} {S : Nat → Bool} (h : hS x S) {j : Nat} (hj : j < 32) : hS (x &&& ((nI 1 <<< (nI j &&& nI 31)) ^^^ mI)) (fun i => S i && !decide (i = j)) := fun i hi => by
  rw [b_and, h i hi, b_not _ hi, b_tw hj hi]
theorem hS_sub {x y : Int32} {S T : Nat → Bool} (h : hS x S) (h2 : hS y T) : hS (x &&& (y ^^^ mI)) (fun i => S i && !T i) := fun i hi => by
  rw [b_and, h i hi, b_not _ hi, h2 i hi]
theorem hS_all {n : Nat} (hn : n ≤ 12) : hS ((nI 1 <<< (nI n &&& nI 31)) - nI 1) (fun i => decide (i < n)) :=
  (by decide +kernel : ∀ n, n < 13 → ∀ i, i < 32 → bt ((nI 1 <<< (nI n &&& nI 31)) - nI 1) i = decide (i < n)) n (by omega)
theorem hS_0 : hS (nI 0) (fun _ => false) := fun i _ => b_0 i
theorem hS_eq0 {x : Int32} {S : Nat → Bool} (h : hS x S) : x = nI 0 ↔ ∀ i, i < 32 → S i = false := by
  constructor
  · rintro rfl i hi
    rw [← h i hi]; exact b_0 i
  · intro q
    exact b_ext (fun i hi => by rw [h i hi, q i hi]; exact (b_0 i).symm)
theorem hS_inj {x y : Int32} {S : Nat → Bool} (h : hS x S) (h2 : hS y S) : x = y := b_ext (fun i hi => (h i hi).trans (h2 i hi).symm)
theorem hS_cong {x : Int32} {S T : Nat → Bool} (h : hS x S) (e : ∀ i, i < 32 → S i = T i) : hS x T := fun i hi => (h i hi).trans (e i hi)
theorem cntB_cong {S T : Nat → Bool} : ∀ k, (∀ i, i < k → S i = T i) → cntB S k = cntB T k
  | 0, _ => rfl
  | k + 1, h => by
    simp only [cntB]
    rw [cntB_cong k (fun i hi => h i (by omega)), h k (by omega)]
theorem bI_toN (b : Bool) : bI b = nI (if b = true then 1 else 0) := by cases b <;> rfl
theorem ones_ok {x : Int32} {S : Nat → Bool} (h : hS x S) : fX7_ones x = some (nI (cntB S 12)) := by
  unfold fX7_ones
  obtain ⟨r, e1, e2⟩ := loopI (step := fX7_ones_L4 x) (fun i (q : Int32 × Int32) => q = (nI (cntB S i), nI i)) (fun q => q.1 = nI (cntB S 12)) 12 (F := 5000) (by omega) (s0 := ((0 : Int32), (0 : Int32))) rfl
    (by
      rintro i q hi rfl
      have hb := h i (by omega)
      refine ⟨_, ?_, rfl⟩
      simp (disch := omega) only [fX7_ones_L4, b_one, hb, bI_toN, cntB, l_0, l_1, l_2, l_3, l_4, l_5, l_6, l_7, l_8, l_9, l_10, l_11, l_12, l_13, l_14, l_15, l_16, l_17, l_18, l_19, l_20, l_21, l_24, l_28, l_31, l_32, l_33, l_45, l_47, l_48, l_57, l_59, l_84, l_95, l_96, l_100, l_112, l_119, l_120, l_127, l_140, l_700, l_840, l_999, l_4095, l_999999, ↓l_m1, ↓l_m2, ↓l_m3, ↓l_m4, ↓l_m10, ↓l_m10000, nI_leI, nI_ltI, nI_eq, mI_le, mI_lt, le_mI, lt_mI, mI_eq, eq_mI, nI_add, pk_mul, pk_sub, pk_div, nI_clamp, md_eq, Nat.zero_le, true_and, and_true, and_self, if_pos, if_neg, Option.bind_some, bnd_some, Sum.elim_inl, Sum.elim_inr, ↓reduceIte])
    (by
      rintro q rfl
      refine ⟨(nI (cntB S 12), nI 12), ?_, rfl⟩
      simp (disch := omega) only [fX7_ones_L4, l_0, l_1, l_2, l_3, l_4, l_5, l_6, l_7, l_8, l_9, l_10, l_11, l_12, l_13, l_14, l_15, l_16, l_17, l_18, l_19, l_20, l_21, l_24, l_28, l_31, l_32, l_33, l_45, l_47, l_48, l_57, l_59, l_84, l_95, l_96, l_100, l_112, l_119, l_120, l_127, l_140, l_700, l_840, l_999, l_4095, l_999999, ↓l_m1, ↓l_m2, ↓l_m3, ↓l_m4, ↓l_m10, ↓l_m10000, nI_leI, nI_ltI, nI_eq, mI_le, mI_lt, le_mI, lt_mI, mI_eq, eq_mI, nI_add, pk_mul, pk_sub, pk_div, nI_clamp, md_eq, Nat.zero_le, true_and, and_true, and_self, if_pos, if_neg, Option.bind_some, bnd_some, Sum.elim_inl, Sum.elim_inr, ↓reduceIte])
  rw [e1, bnd_some, e2]
