/-! all, digest -/
def rid (wl : Nat → Bool) (c : Nat) : Nat := 12 * cntW wl 0 (c / 12) + cntW wl 10 (c % 12)
theorem rid_lt (wl : Nat → Bool) {c : Nat} (hc : c < 96) : rid wl c < 96 := by
  have h1 := cntW_le wl 0 (c / 12)
  have h2 := cntW_le wl 10 (c % 12)
  unfold rid
  omega
theorem rid_eq {wl : Nat → Bool} {c d : Nat} (hc : c < 96) (hd : d < 96) : rid wl c = rid wl d ↔ (cntW wl 0 (c / 12) = cntW wl 0 (d / 12) ∧ cntW wl 10 (c % 12) = cntW wl 10 (d % 12)) := room_eq hc hd
def img (P : Nat → Bool) (f : Nat → Nat) : Nat → Nat → Bool
  | 0 => fun _ => false
  | n + 1 => fun v => img P f n v || (P n && decide (f n = v))
theorem img_iff {P : Nat → Bool} {f : Nat → Nat} {v : Nat} : ∀ n, img P f n v = true ↔ ∃ i, i < n ∧ P i = true ∧ f i = v
  | 0 => ⟨fun h => (by cases h), fun ⟨i, h, _⟩ => absurd h (by omega)⟩
  | n + 1 => by
    have ih := img_iff (P := P) (f := f) (v := v) n
    show (img P f n v || (P n && decide (f n = v))) = true ↔ _
    rw [Bool.or_eq_true, Bool.and_eq_true, ih]
    constructor
    · rintro (⟨i, h1, h2⟩ | ⟨h1, h2⟩)
      · exact ⟨i, by omega, h2⟩
      · exact ⟨n, by omega, h1, of_decide_eq_true h2⟩
    · rintro ⟨i, h1, h2, h3⟩
      by_cases hi : i = n
      · subst hi; exact Or.inr ⟨h2, decide_eq_true h3⟩
      · exact Or.inl ⟨i, by omega, h2, h3⟩
theorem cnt_ins {S : Nat → Bool} {b : Bool} {a : Nat} : ∀ k, cntB (fun v => S v || (b && decide (a = v))) k = cntB S k + (if a < k ∧ b = true ∧ S a = false then 1 else 0)
  | 0 => by simp [cntB]
  | k + 1 => by
    have ih := cnt_ins (S := S) (b := b) (a := a) k
    simp only [cntB, ih]
    by_cases hak : a = k
    · subst hak
      rcases Bool.eq_false_or_eq_true (S a) with q | q <;> cases b <;> simp [q]
    · have hd : (S k || (b && decide (a = k))) = S k := by rw [decide_eq_false hak, Bool.and_false, Bool.or_false]
      simp only [hd]
      by_cases h1 : a < k
      · have h2 : a < k + 1 := by omega
        simp only [h1, h2, true_and]
        omega
      · have h2 : ¬ a < k + 1 := by omega
        simp only [h1, h2, false_and, if_false]
        omega
theorem cnt_firsts {P : Nat → Bool} {f : Nat → Nat} {K : Nat} : ∀ n, (∀ i, i < n → P i = true → f i < K) → cntB (fun i => P i && !img P f i (f i)) n = cntB (img P f n) K
  | 0, _ => (cntB_all0 (fun _ => rfl) K).symm
  | n + 1, h => by
    have ih := cnt_firsts (P := P) (f := f) (K := K) n (fun i hi => h i (by omega))
    have h2 := cnt_ins (S := img P f n) (b := P n) (a := f n) K
    show cntB _ n + _ = cntB (fun v => img P f n v || (P n && decide (f n = v))) K
    rw [h2, ih]
    cases hp : P n
    · simp [hp]
    · have := h n (by omega) hp
      cases hq : img P f n (f n)
      · simp [this, hp, hq]
      · simp [hp, hq]
theorem bsz_13 {cl : Nat → Nat} {wl S : Nat → Bool} {c : Nat} : ∀ k, k ≤ 13 → (bsz 999 cl wl S c k).1 = 13 → (bsz 999 cl wl S c k).2 = 999
  | 0, _, _ => rfl
  | k + 1, hk, h => by
    rw [bsz] at h ⊢
    split at h
    · simp only at h; omega
    · rename_i hn
      rw [if_neg hn]
      exact bsz_13 k (by omega) h
theorem bsz_none {cl : Nat → Nat} {wl S : Nat → Bool} {c : Nat} (hc : c < 96) : ∀ k, k ≤ 13 → (∀ p, p < k → S p = true → cl p < 96) → ((bsz 999 cl wl S c k).1 = 13 ↔ ∀ p, p < k → S p = true → ¬ rid wl (cl p) = rid wl c)
  | 0, _, _ => ⟨fun _ p hp => absurd hp (by omega), fun _ => rfl⟩
  | k + 1, hk, hcl => by
    have ih := bsz_none (cl := cl) (wl := wl) (S := S) hc k (by omega) (fun p hp => hcl p (by omega))
    have h13 := bsz_13 (cl := cl) (wl := wl) (S := S) (c := c) k (by omega)
    rw [bsz]
    split
    · rename_i h
      constructor
      · intro q; simp only at q; omega
      · intro q
        exact absurd ((rid_eq (hcl k (by omega) h.1) hc).mpr h.2.1) (q k (by omega) h.1)
    · rename_i h
      rw [ih]
      constructor
      · intro q p hp hs he
        by_cases hpk : p = k
        · subst hpk
          have hc2 := hcl p (by omega) hs
          have hd := dist_lt hc2 hc
          have := h13 (ih.mpr q)
          exact h ⟨hs, (rid_eq hc2 hc).mp he, by omega⟩
        · exact q p (by omega) hs he
      · intro q p hp hs
        exact q p (by omega) hs
def stl (wl : Nat → Bool) (b k : Nat) : Bool := decide (k = 0) || wl (b + k - 1)
def stx (wl : Nat → Bool) (x : Nat) : Bool := stl wl 0 (x / 12) && stl wl 10 (x % 12)
theorem stl_cnt (wl : Nat → Bool) (b : Nat) : ∀ k, cntB (stl wl b) (k + 1) = cntW wl b k + 1
  | 0 => rfl
  | k + 1 => by
    have ih := stl_cnt wl b k
    rw [cntB, ih, cntW]
    have : stl wl b (k + 1) = wl (b + k) := by
      unfold stl
      rw [decide_eq_false (by omega), Bool.false_or]
      rfl
    rw [this]
    omega
theorem stx_cnt (wl : Nat → Bool) (r : Nat) : ∀ c, c ≤ 12 → cntB (stx wl) (12 * r + c) = cntB (stx wl) (12 * r) + (if stl wl 0 r = true then cntB (stl wl 10) c else 0)
  | 0, _ => by simp [cntB]
  | c + 1, h => by
    have ih := stx_cnt wl r c (by omega)
    rw [show 12 * r + (c + 1) = (12 * r + c) + 1 by omega, cntB, ih]
    have h1 : stx wl (12 * r + c) = (stl wl 0 r && stl wl 10 c) := by
      unfold stx
      rw [show (12 * r + c) / 12 = r by omega, show (12 * r + c) % 12 = c by omega]
    rw [h1]
    cases stl wl 0 r
    · simp
    · simp only [Bool.true_and, if_true, cntB]
      omega
theorem stx_rows (wl : Nat → Bool) : ∀ r, cntB (stx wl) (12 * r) = cntB (stl wl 0) r * cntB (stl wl 10) 12
  | 0 => by simp [cntB]
  | r + 1 => by
    have ih := stx_rows wl r
    have h1 := stx_cnt wl r 12 (by omega)
    rw [show 12 * (r + 1) = 12 * r + 12 by omega, h1, ih]
    simp only [cntB.eq_2 (stl wl 0) r]
    cases stl wl 0 r
    · simp
    · simp only [if_true, Nat.add_mul, Nat.one_mul]
theorem rooms_cnt (wl : Nat → Bool) : cntB (stx wl) 96 = (cntW wl 0 7 + 1) * (cntW wl 10 11 + 1) := by
  have h := stx_rows wl 8
  rw [stl_cnt wl 0 7, stl_cnt wl 10 11] at h
  exact h
theorem stx_iff {wl : Nat → Bool} {x : Nat} (hx : x < 96) : stx wl x = true ↔ ∀ y, y < x → ¬ rid wl y = rid wl x := by
  constructor
  · intro h y hy he
    unfold stx at h
    rw [Bool.and_eq_true] at h
    obtain ⟨e1, e2⟩ := (rid_eq (by omega) hx).mp he
    by_cases hr : y / 12 < x / 12
    · have h1 := (cntW_same wl 0 (y / 12) (x / 12 - y / 12)).mp (by rw [show y / 12 + (x / 12 - y / 12) = x / 12 by omega]; exact e1) (x / 12 - 1) (by omega) (by omega)
      have h2 := h.1
      unfold stl at h2
      rw [decide_eq_false (by omega), Bool.false_or, show 0 + x / 12 - 1 = 0 + (x / 12 - 1) by omega, h1] at h2
      cases h2
    · have h1 := (cntW_same wl 10 (y % 12) (x % 12 - y % 12)).mp (by rw [show y % 12 + (x % 12 - y % 12) = x % 12 by omega]; exact e2) (x % 12 - 1) (by omega) (by omega)
      have h2 := h.2
      unfold stl at h2
      rw [decide_eq_false (by omega), Bool.false_or, show 10 + x % 12 - 1 = 10 + (x % 12 - 1) by omega, h1] at h2
      cases h2
  · intro h
    cases hs : stx wl x
    · exfalso
      unfold stx at hs
      rw [Bool.and_eq_false_iff] at hs
      rcases hs with hs | hs
      · unfold stl at hs
        rw [Bool.or_eq_false_iff] at hs
        have h0 := of_decide_eq_false hs.1
        refine h (x - 12) (by omega) ((rid_eq (by omega) hx).mpr ⟨?_, by rw [show (x - 12) % 12 = x % 12 by omega]⟩)
        have := cntW.eq_2 wl 0 (x / 12 - 1)
        rw [show 0 + (x / 12 - 1) = 0 + x / 12 - 1 by omega, hs.2, show (x / 12 - 1).succ = x / 12 by omega] at this
        rw [show (x - 12) / 12 = x / 12 - 1 by omega, this]
        simp
      · unfold stl at hs
        rw [Bool.or_eq_false_iff] at hs
        have h0 := of_decide_eq_false hs.1
        refine h (x - 1) (by omega) ((rid_eq (by omega) hx).mpr ⟨by rw [show (x - 1) / 12 = x / 12 by omega], ?_⟩)
        have := cntW.eq_2 wl 10 (x % 12 - 1)
        rw [show 10 + (x % 12 - 1) = 10 + x % 12 - 1 by omega, hs.2, show (x % 12 - 1).succ = x % 12 by omega] at this
        rw [show (x - 1) % 12 = x % 12 - 1 by omega, this]
        simp
    · rfl
theorem held_eq {M : AM} (hM : OK M) : cntB (fun x => !decide (br M.cl M.wl M.up x = 13) && stx M.wl x) 96 = cntB (fun p => M.up p && !img M.up (fun q => rid M.wl (M.cl q)) p (rid M.wl (M.cl p))) M.n := by
  have hcl : ∀ p, p < 13 → M.up p = true → M.cl p < 96 := fun p _ hp => by
    rcases Nat.lt_or_ge p M.n with q | q
    · exact hM.2.1 p q
    · rw [hM.2.2.2.1 p q] at hp; cases hp
  have hno : ∀ x, x < 96 → (br M.cl M.wl M.up x = 13 ↔ ∀ p, p < 13 → M.up p = true → ¬ rid M.wl (M.cl p) = rid M.wl x) := fun x hx => bsz_none hx 13 (by omega) hcl
  have hP : ∀ x y, x < 96 → y < 96 → rid M.wl x = rid M.wl y → br M.cl M.wl M.up x = 13 → br M.cl M.wl M.up y = 13 := fun x y hx hy he h => (hno y hy).mpr (fun p hp hs q => (hno x hx).mp h p hp hs (by rw [q, he]))
  have e1 : cntB (fun x => !decide (br M.cl M.wl M.up x = 13) && stx M.wl x) 96 = cntB (fun x => (fun z => !decide (br M.cl M.wl M.up z = 13)) x && !img (fun z => !decide (br M.cl M.wl M.up z = 13)) (rid M.wl) x (rid M.wl x)) 96 := by
    refine cntB_cong 96 (fun x hx => ?_)
    by_cases hb : br M.cl M.wl M.up x = 13
    · simp [hb]
    · simp only [decide_eq_false hb, Bool.not_false, Bool.true_and]
      rw [Bool.eq_iff_iff, stx_iff hx, Bool.not_eq_true', ← Bool.not_eq_true, img_iff]
      constructor
      · rintro h ⟨y, h1, h2, h3⟩
        exact h y h1 h3
      · intro h y hy he
        refine h ⟨y, hy, ?_, he⟩
        rw [decide_eq_false (fun q => hb (hP y x (by omega) hx he q))]; rfl
  rw [e1, cnt_firsts (K := 96) 96 (fun i hi _ => rid_lt M.wl hi), cnt_firsts (K := 96) (P := M.up) M.n (fun i hi _ => rid_lt M.wl (hM.2.1 i hi))]
  refine cntB_cong 96 (fun v hv => ?_)
  rw [Bool.eq_iff_iff, img_iff, img_iff]
  constructor
  · rintro ⟨x, h1, h2, h3⟩
    have hb : ¬ br M.cl M.wl M.up x = 13 := fun q => by rw [decide_eq_true q] at h2; cases h2
    rcases Classical.em (∃ p, p < 13 ∧ M.up p = true ∧ rid M.wl (M.cl p) = rid M.wl x) with ⟨p, q1, q2, q3⟩ | hn
    · refine ⟨p, ?_, q2, by rw [q3, h3]⟩
      rcases Nat.lt_or_ge p M.n with q | q
      · exact q
      · rw [hM.2.2.2.1 p q] at q2; cases q2
    · exact absurd ((hno x h1).mpr (fun p q1 q2 q3 => hn ⟨p, q1, q2, q3⟩)) hb
  · rintro ⟨p, h1, h2, h3⟩
    have hc := hM.2.1 p h1
    refine ⟨M.cl p, hc, ?_, h3⟩
    have hn := hM.1
    rw [decide_eq_false (fun q => (hno _ hc).mp q p (by omega) h2 rfl)]; rfl
theorem startsRoom_ok {m : S1} {M : AM} (h : MR m M) {x : Nat} (hx : x < 96) : fX1_startsRoom m (nI x) = some (bI (stx M.wl x)) := by
  have hd : (nI x / (12 : Int32)) = nI (x / 12) := by simp (disch := omega) only [l_0, l_1, l_2, l_3, l_4, l_5, l_6, l_7, l_8, l_9, l_10, l_11, l_12, l_13, l_14, l_15, l_16, l_17, l_18, l_19, l_20, l_21, l_24, l_28, l_31, l_32, l_33, l_45, l_47, l_48, l_57, l_59, l_84, l_95, l_96, l_100, l_112, l_119, l_120, l_127, l_140, l_700, l_840, l_999, l_4095, l_999999, ↓l_m1, ↓l_m2, ↓l_m3, ↓l_m4, ↓l_m10, ↓l_m10000, nI_leI, nI_ltI, nI_eq, mI_le, mI_lt, le_mI, lt_mI, mI_eq, eq_mI, nI_add, pk_mul, pk_sub, pk_div, nI_clamp, md_eq, Nat.zero_le, true_and, and_true, and_self, if_pos, if_neg, Option.bind_some, bnd_some, Sum.elim_inl, Sum.elim_inr, ↓reduceIte]
  have hr : (nI x - nI x / (12 : Int32) * (12 : Int32)) = nI (x % 12) := by simp (disch := omega) only [l_0, l_1, l_2, l_3, l_4, l_5, l_6, l_7, l_8, l_9, l_10, l_11, l_12, l_13, l_14, l_15, l_16, l_17, l_18, l_19, l_20, l_21, l_24, l_28, l_31, l_32, l_33, l_45, l_47, l_48, l_57, l_59, l_84, l_95, l_96, l_100, l_112, l_119, l_120, l_127, l_140, l_700, l_840, l_999, l_4095, l_999999, ↓l_m1, ↓l_m2, ↓l_m3, ↓l_m4, ↓l_m10, ↓l_m10000, nI_leI, nI_ltI, nI_eq, mI_le, mI_lt, le_mI, lt_mI, mI_eq, eq_mI, nI_add, pk_mul, pk_sub, pk_div, nI_clamp, md_eq, Nat.zero_le, true_and, and_true, and_self, if_pos, if_neg, Option.bind_some, bnd_some, Sum.elim_inl, Sum.elim_inr, ↓reduceIte]
  have hb : fX1_isOpenBelow m ((nI x / (12 : Int32)) - (1 : Int32)) = some (bI (!stl M.wl 0 (x / 12))) := by
    rw [hd]
    by_cases h0 : x / 12 = 0
    · rw [h0]
      have : nI 0 - (1 : Int32) = mI := by decide
      rw [this]
      have hneg : mI < (0 : Int32) := by decide
      unfold fX1_isOpenBelow
      rw [if_pos hneg]
      rfl
    · have hw := h.2.2.2.2.2.1 (x / 12 - 1) (by omega)
      have e : stl M.wl 0 (x / 12) = M.wl (x / 12 - 1) := by
        unfold stl
        rw [decide_eq_false h0, Bool.false_or, show 0 + x / 12 - 1 = x / 12 - 1 by omega]
      rw [e]
      cases hq : M.wl (x / 12 - 1)
      · rw [hq, bI_f] at hw
        simp (disch := omega) only [fX1_isOpenBelow, hw, Bool.not_false, bI_t, l_0, l_1, l_2, l_3, l_4, l_5, l_6, l_7, l_8, l_9, l_10, l_11, l_12, l_13, l_14, l_15, l_16, l_17, l_18, l_19, l_20, l_21, l_24, l_28, l_31, l_32, l_33, l_45, l_47, l_48, l_57, l_59, l_84, l_95, l_96, l_100, l_112, l_119, l_120, l_127, l_140, l_700, l_840, l_999, l_4095, l_999999, ↓l_m1, ↓l_m2, ↓l_m3, ↓l_m4, ↓l_m10, ↓l_m10000, nI_leI, nI_ltI, nI_eq, mI_le, mI_lt, le_mI, lt_mI, mI_eq, eq_mI, nI_add, pk_mul, pk_sub, pk_div, nI_clamp, md_eq, Nat.zero_le, true_and, and_true, and_self, if_pos, if_neg, Option.bind_some, bnd_some, Sum.elim_inl, Sum.elim_inr, ↓reduceIte]
      · rw [hq, bI_t] at hw
        simp (disch := omega) only [fX1_isOpenBelow, hw, Bool.not_true, bI_f, l_0, l_1, l_2, l_3, l_4, l_5, l_6, l_7, l_8, l_9, l_10, l_11, l_12, l_13, l_14, l_15, l_16, l_17, l_18, l_19, l_20, l_21, l_24, l_28, l_31, l_32, l_33, l_45, l_47, l_48, l_57, l_59, l_84, l_95, l_96, l_100, l_112, l_119, l_120, l_127, l_140, l_700, l_840, l_999, l_4095, l_999999, ↓l_m1, ↓l_m2, ↓l_m3, ↓l_m4, ↓l_m10, ↓l_m10000, nI_leI, nI_ltI, nI_eq, mI_le, mI_lt, le_mI, lt_mI, mI_eq, eq_mI, nI_add, pk_mul, pk_sub, pk_div, nI_clamp, md_eq, Nat.zero_le, true_and, and_true, and_self, if_pos, if_neg, Option.bind_some, bnd_some, Sum.elim_inl, Sum.elim_inr, ↓reduceIte]
  have hc : fX1_isOpenRight m ((nI x - nI x / (12 : Int32) * (12 : Int32)) - (1 : Int32)) = some (bI (!stl M.wl 10 (x % 12))) := by
    rw [hr]
    by_cases h0 : x % 12 = 0
    · rw [h0]
      have : nI 0 - (1 : Int32) = mI := by decide
      rw [this]
      have hneg : mI < (0 : Int32) := by decide
      unfold fX1_isOpenRight
      rw [if_pos hneg]
      rfl
    · have hw := h.2.2.2.2.2.1 (10 + (x % 12 - 1)) (by omega)
      have e : stl M.wl 10 (x % 12) = M.wl (10 + (x % 12 - 1)) := by
        unfold stl
        rw [decide_eq_false h0, Bool.false_or, show 10 + x % 12 - 1 = 10 + (x % 12 - 1) by omega]
      rw [e]
      cases hq : M.wl (10 + (x % 12 - 1))
      · rw [hq, bI_f] at hw
        simp (disch := omega) only [fX1_isOpenRight, hw, Bool.not_false, bI_t, l_0, l_1, l_2, l_3, l_4, l_5, l_6, l_7, l_8, l_9, l_10, l_11, l_12, l_13, l_14, l_15, l_16, l_17, l_18, l_19, l_20, l_21, l_24, l_28, l_31, l_32, l_33, l_45, l_47, l_48, l_57, l_59, l_84, l_95, l_96, l_100, l_112, l_119, l_120, l_127, l_140, l_700, l_840, l_999, l_4095, l_999999, ↓l_m1, ↓l_m2, ↓l_m3, ↓l_m4, ↓l_m10, ↓l_m10000, nI_leI, nI_ltI, nI_eq, mI_le, mI_lt, le_mI, lt_mI, mI_eq, eq_mI, nI_add, pk_mul, pk_sub, pk_div, nI_clamp, md_eq, Nat.zero_le, true_and, and_true, and_self, if_pos, if_neg, Option.bind_some, bnd_some, Sum.elim_inl, Sum.elim_inr, ↓reduceIte]
      · rw [hq, bI_t] at hw
        simp (disch := omega) only [fX1_isOpenRight, hw, Bool.not_true, bI_f, l_0, l_1, l_2, l_3, l_4, l_5, l_6, l_7, l_8, l_9, l_10, l_11, l_12, l_13, l_14, l_15, l_16, l_17, l_18, l_19, l_20, l_21, l_24, l_28, l_31, l_32, l_33, l_45, l_47, l_48, l_57, l_59, l_84, l_95, l_96, l_100, l_112, l_119, l_120, l_127, l_140, l_700, l_840, l_999, l_4095, l_999999, ↓l_m1, ↓l_m2, ↓l_m3, ↓l_m4, ↓l_m10, ↓l_m10000, nI_leI, nI_ltI, nI_eq, mI_le, mI_lt, le_mI, lt_mI, mI_eq, eq_mI, nI_add, pk_mul, pk_sub, pk_div, nI_clamp, md_eq, Nat.zero_le, true_and, and_true, and_self, if_pos, if_neg, Option.bind_some, bnd_some, Sum.elim_inl, Sum.elim_inr, ↓reduceIte]
  unfold fX1_startsRoom stx
  rw [hb, hc]
  cases stl M.wl 0 (x / 12) <;> cases stl M.wl 10 (x % 12) <;> simp (disch := omega) only [Bool.not_false, Bool.not_true, bI_t, bI_f, Bool.and_self, Bool.and_false, Bool.false_and, l_0, l_1, l_2, l_3, l_4, l_5, l_6, l_7, l_8, l_9, l_10, l_11, l_12, l_13, l_14, l_15, l_16, l_17, l_18, l_19, l_20, l_21, l_24, l_28, l_31, l_32, l_33, l_45, l_47, l_48, l_57, l_59, l_84, l_95, l_96, l_100, l_112, l_119, l_120, l_127, l_140, l_700, l_840, l_999, l_4095, l_999999, ↓l_m1, ↓l_m2, ↓l_m3, ↓l_m4, ↓l_m10, ↓l_m10000, nI_leI, nI_ltI, nI_eq, mI_le, mI_lt, le_mI, lt_mI, mI_eq, eq_mI, nI_add, pk_mul, pk_sub, pk_div, nI_clamp, md_eq, Nat.zero_le, true_and, and_true, and_self, if_pos, if_neg, Option.bind_some, bnd_some, Sum.elim_inl, Sum.elim_inr, ↓reduceIte]
theorem countRooms_ok {m : S1} {M : AM} (h : MR m M) : fX1_countRooms m = some (nI (cntB (stx M.wl) 96)) := by
  obtain ⟨z, e1, e2⟩ := loopI (step := fX1_countRooms_L4 m) (fun i (q : Int32 × Int32) => q = (nI (cntB (stx M.wl) i), nI i)) (fun q => q.1 = nI (cntB (stx M.wl) 96)) 96 (F := 5000) (by omega) (s0 := ((0 : Int32), (0 : Int32))) rfl
    (by
      rintro i q hi rfl
      have hs := startsRoom_ok h hi
      have hle := cntB_le (stx M.wl) i
      refine ⟨_, ?_, rfl⟩
      rw [cntB]
      cases hq : stx M.wl i
      · rw [hq, bI_f] at hs
        simp (disch := omega) only [fX1_countRooms_L4, hs, Bool.false_eq_true, Nat.add_zero, l_0, l_1, l_2, l_3, l_4, l_5, l_6, l_7, l_8, l_9, l_10, l_11, l_12, l_13, l_14, l_15, l_16, l_17, l_18, l_19, l_20, l_21, l_24, l_28, l_31, l_32, l_33, l_45, l_47, l_48, l_57, l_59, l_84, l_95, l_96, l_100, l_112, l_119, l_120, l_127, l_140, l_700, l_840, l_999, l_4095, l_999999, ↓l_m1, ↓l_m2, ↓l_m3, ↓l_m4, ↓l_m10, ↓l_m10000, nI_leI, nI_ltI, nI_eq, mI_le, mI_lt, le_mI, lt_mI, mI_eq, eq_mI, nI_add, pk_mul, pk_sub, pk_div, nI_clamp, md_eq, Nat.zero_le, true_and, and_true, and_self, if_pos, if_neg, Option.bind_some, bnd_some, Sum.elim_inl, Sum.elim_inr, ↓reduceIte]
      · rw [hq, bI_t] at hs
        simp (disch := omega) only [fX1_countRooms_L4, hs, l_0, l_1, l_2, l_3, l_4, l_5, l_6, l_7, l_8, l_9, l_10, l_11, l_12, l_13, l_14, l_15, l_16, l_17, l_18, l_19, l_20, l_21, l_24, l_28, l_31, l_32, l_33, l_45, l_47, l_48, l_57, l_59, l_84, l_95, l_96, l_100, l_112, l_119, l_120, l_127, l_140, l_700, l_840, l_999, l_4095, l_999999, ↓l_m1, ↓l_m2, ↓l_m3, ↓l_m4, ↓l_m10, ↓l_m10000, nI_leI, nI_ltI, nI_eq, mI_le, mI_lt, le_mI, lt_mI, mI_eq, eq_mI, nI_add, pk_mul, pk_sub, pk_div, nI_clamp, md_eq, Nat.zero_le, true_and, and_true, and_self, if_pos, if_neg, Option.bind_some, bnd_some, Sum.elim_inl, Sum.elim_inr, ↓reduceIte])
    (by
      rintro q rfl
      refine ⟨(nI (cntB (stx M.wl) 96), nI 96), ?_, rfl⟩
      simp (disch := omega) only [fX1_countRooms_L4, l_0, l_1, l_2, l_3, l_4, l_5, l_6, l_7, l_8, l_9, l_10, l_11, l_12, l_13, l_14, l_15, l_16, l_17, l_18, l_19, l_20, l_21, l_24, l_28, l_31, l_32, l_33, l_45, l_47, l_48, l_57, l_59, l_84, l_95, l_96, l_100, l_112, l_119, l_120, l_127, l_140, l_700, l_840, l_999, l_4095, l_999999, ↓l_m1, ↓l_m2, ↓l_m3, ↓l_m4, ↓l_m10, ↓l_m10000, nI_leI, nI_ltI, nI_eq, mI_le, mI_lt, le_mI, lt_mI, mI_eq, eq_mI, nI_add, pk_mul, pk_sub, pk_div, nI_clamp, md_eq, Nat.zero_le, true_and, and_true, and_self, if_pos, if_neg, Option.bind_some, bnd_some, Sum.elim_inl, Sum.elim_inr, ↓reduceIte])
  have e1' : fX1_countRooms m = Option.bind (some z) (fun z5 => some z5.1) := by rw [← e1]; rfl
  rw [e1', bnd_some, e2]
theorem countHeld_ok {b : S0} {m : S1} {M : AM} (h : MR m M) (hb : BR b M) : fX0_countHeldRooms b m = some (nI (cntB (fun x => !decide (br M.cl M.wl M.up x = 13) && stx M.wl x) 96)) := by
  obtain ⟨T, hT⟩ : ∃ T : Nat → Bool, T = fun x => !decide (br M.cl M.wl M.up x = 13) && stx M.wl x := ⟨_, rfl⟩
  rw [← hT]
  obtain ⟨z, e1, e2⟩ := loopI (step := fX0_countHeldRooms_L4 b m) (fun i (q : Int32 × Int32) => q = (nI (cntB T i), nI i)) (fun q => q.1 = nI (cntB T 96)) 96 (F := 5000) (by omega) (s0 := ((0 : Int32), (0 : Int32))) rfl
    (by
      rintro i q hi rfl
      have hs := startsRoom_ok h hi
      have hle := cntB_le T i
      have hbi := hb.1 i hi
      have hm := brI_m (br_le M.cl M.wl M.up i)
      have hTi : T i = (!decide (br M.cl M.wl M.up i = 13) && stx M.wl i) := by rw [hT]
      refine ⟨_, ?_, rfl⟩
      rw [cntB]
      by_cases hc : br M.cl M.wl M.up i = 13
      · rw [hm.mpr hc] at hbi
        rw [decide_eq_true hc, Bool.not_true, Bool.false_and] at hTi
        simp (disch := omega) only [fX0_countHeldRooms_L4, hbi, hTi, Bool.false_eq_true, Nat.add_zero, l_0, l_1, l_2, l_3, l_4, l_5, l_6, l_7, l_8, l_9, l_10, l_11, l_12, l_13, l_14, l_15, l_16, l_17, l_18, l_19, l_20, l_21, l_24, l_28, l_31, l_32, l_33, l_45, l_47, l_48, l_57, l_59, l_84, l_95, l_96, l_100, l_112, l_119, l_120, l_127, l_140, l_700, l_840, l_999, l_4095, l_999999, ↓l_m1, ↓l_m2, ↓l_m3, ↓l_m4, ↓l_m10, ↓l_m10000, nI_leI, nI_ltI, nI_eq, mI_le, mI_lt, le_mI, lt_mI, mI_eq, eq_mI, nI_add, pk_mul, pk_sub, pk_div, nI_clamp, md_eq, Nat.zero_le, true_and, and_true, and_self, if_pos, if_neg, Option.bind_some, bnd_some, Sum.elim_inl, Sum.elim_inr, ↓reduceIte]
      · have hmn : ¬ brI (br M.cl M.wl M.up i) = mI := fun q => hc (hm.mp q)
        rw [decide_eq_false hc, Bool.not_false, Bool.true_and] at hTi
        cases hq : stx M.wl i
        · rw [hq] at hTi
          rw [hq, bI_f] at hs
          simp (disch := omega) only [fX0_countHeldRooms_L4, hbi, hmn, hs, hTi, Bool.false_eq_true, Nat.add_zero, l_0, l_1, l_2, l_3, l_4, l_5, l_6, l_7, l_8, l_9, l_10, l_11, l_12, l_13, l_14, l_15, l_16, l_17, l_18, l_19, l_20, l_21, l_24, l_28, l_31, l_32, l_33, l_45, l_47, l_48, l_57, l_59, l_84, l_95, l_96, l_100, l_112, l_119, l_120, l_127, l_140, l_700, l_840, l_999, l_4095, l_999999, ↓l_m1, ↓l_m2, ↓l_m3, ↓l_m4, ↓l_m10, ↓l_m10000, nI_leI, nI_ltI, nI_eq, mI_le, mI_lt, le_mI, lt_mI, mI_eq, eq_mI, nI_add, pk_mul, pk_sub, pk_div, nI_clamp, md_eq, Nat.zero_le, true_and, and_true, and_self, if_pos, if_neg, Option.bind_some, bnd_some, Sum.elim_inl, Sum.elim_inr, ↓reduceIte]
        · rw [hq] at hTi
          rw [hq, bI_t] at hs
          simp (disch := omega) only [fX0_countHeldRooms_L4, hbi, hmn, hs, hTi, l_0, l_1, l_2, l_3, l_4, l_5, l_6, l_7, l_8, l_9, l_10, l_11, l_12, l_13, l_14, l_15, l_16, l_17, l_18, l_19, l_20, l_21, l_24, l_28, l_31, l_32, l_33, l_45, l_47, l_48, l_57, l_59, l_84, l_95, l_96, l_100, l_112, l_119, l_120, l_127, l_140, l_700, l_840, l_999, l_4095, l_999999, ↓l_m1, ↓l_m2, ↓l_m3, ↓l_m4, ↓l_m10, ↓l_m10000, nI_leI, nI_ltI, nI_eq, mI_le, mI_lt, le_mI, lt_mI, mI_eq, eq_mI, nI_add, pk_mul, pk_sub, pk_div, nI_clamp, md_eq, Nat.zero_le, true_and, and_true, and_self, if_pos, if_neg, Option.bind_some, bnd_some, Sum.elim_inl, Sum.elim_inr, ↓reduceIte])
    (by
      rintro q rfl
      refine ⟨(nI (cntB T 96), nI 96), ?_, rfl⟩
      simp (disch := omega) only [fX0_countHeldRooms_L4, l_0, l_1, l_2, l_3, l_4, l_5, l_6, l_7, l_8, l_9, l_10, l_11, l_12, l_13, l_14, l_15, l_16, l_17, l_18, l_19, l_20, l_21, l_24, l_28, l_31, l_32, l_33, l_45, l_47, l_48, l_57, l_59, l_84, l_95, l_96, l_100, l_112, l_119, l_120, l_127, l_140, l_700, l_840, l_999, l_4095, l_999999, ↓l_m1, ↓l_m2, ↓l_m3, ↓l_m4, ↓l_m10, ↓l_m10000, nI_leI, nI_ltI, nI_eq, mI_le, mI_lt, le_mI, lt_mI, mI_eq, eq_mI, nI_add, pk_mul, pk_sub, pk_div, nI_clamp, md_eq, Nat.zero_le, true_and, and_true, and_self, if_pos, if_neg, Option.bind_some, bnd_some, Sum.elim_inl, Sum.elim_inr, ↓reduceIte])
  have e1' : fX0_countHeldRooms b m = Option.bind (some z) (fun z5 => some z5.1) := by rw [← e1]; rfl
  rw [e1', bnd_some, e2]
theorem weighFallen_ok {b : S0} {m : S1} {M : AM} (h : MR m M) (hb : BR b M) : fX0_weighFallen b m = some (nI (load M M.up 13)) := by
  obtain ⟨z, e1, e2⟩ := loopI (step := fX0_weighFallen_L4 b m) (fun i (q : Int32 × Int32) => q = (nI (ldN M.wt (br M.cl M.wl M.up) 13 i), nI i)) (fun q => q.1 = nI (load M M.up 13)) 96 (F := 5000) (by omega) (s0 := ((0 : Int32), (0 : Int32))) rfl
    (by
      rintro i q hi rfl
      have hbi := hb.1 i hi
      have hm := brI_m (br_le M.cl M.wl M.up i)
      have hw := h.2.2.2.2.2.2 i hi
      refine ⟨_, ?_, rfl⟩
      by_cases hc : br M.cl M.wl M.up i = 13
      · simp only [ldN, if_pos hc]
        rw [hm.mpr hc] at hbi
        simp (disch := omega) only [fX0_weighFallen_L4, hbi, hw, l_0, l_1, l_2, l_3, l_4, l_5, l_6, l_7, l_8, l_9, l_10, l_11, l_12, l_13, l_14, l_15, l_16, l_17, l_18, l_19, l_20, l_21, l_24, l_28, l_31, l_32, l_33, l_45, l_47, l_48, l_57, l_59, l_84, l_95, l_96, l_100, l_112, l_119, l_120, l_127, l_140, l_700, l_840, l_999, l_4095, l_999999, ↓l_m1, ↓l_m2, ↓l_m3, ↓l_m4, ↓l_m10, ↓l_m10000, nI_leI, nI_ltI, nI_eq, mI_le, mI_lt, le_mI, lt_mI, mI_eq, eq_mI, nI_add, pk_mul, pk_sub, pk_div, nI_clamp, md_eq, Nat.zero_le, true_and, and_true, and_self, if_pos, if_neg, Option.bind_some, bnd_some, Sum.elim_inl, Sum.elim_inr, ↓reduceIte]
      · simp only [ldN, if_neg hc, Nat.add_zero]
        have hmn : ¬ brI (br M.cl M.wl M.up i) = mI := fun q => hc (hm.mp q)
        simp (disch := omega) only [fX0_weighFallen_L4, hbi, hmn, l_0, l_1, l_2, l_3, l_4, l_5, l_6, l_7, l_8, l_9, l_10, l_11, l_12, l_13, l_14, l_15, l_16, l_17, l_18, l_19, l_20, l_21, l_24, l_28, l_31, l_32, l_33, l_45, l_47, l_48, l_57, l_59, l_84, l_95, l_96, l_100, l_112, l_119, l_120, l_127, l_140, l_700, l_840, l_999, l_4095, l_999999, ↓l_m1, ↓l_m2, ↓l_m3, ↓l_m4, ↓l_m10, ↓l_m10000, nI_leI, nI_ltI, nI_eq, mI_le, mI_lt, le_mI, lt_mI, mI_eq, eq_mI, nI_add, pk_mul, pk_sub, pk_div, nI_clamp, md_eq, Nat.zero_le, true_and, and_true, and_self, if_pos, if_neg, Option.bind_some, bnd_some, Sum.elim_inl, Sum.elim_inr, ↓reduceIte])
    (by
      rintro q rfl
      refine ⟨(nI (ldN M.wt (br M.cl M.wl M.up) 13 96), nI 96), ?_, rfl⟩
      simp (disch := omega) only [fX0_weighFallen_L4, l_0, l_1, l_2, l_3, l_4, l_5, l_6, l_7, l_8, l_9, l_10, l_11, l_12, l_13, l_14, l_15, l_16, l_17, l_18, l_19, l_20, l_21, l_24, l_28, l_31, l_32, l_33, l_45, l_47, l_48, l_57, l_59, l_84, l_95, l_96, l_100, l_112, l_119, l_120, l_127, l_140, l_700, l_840, l_999, l_4095, l_999999, ↓l_m1, ↓l_m2, ↓l_m3, ↓l_m4, ↓l_m10, ↓l_m10000, nI_leI, nI_ltI, nI_eq, mI_le, mI_lt, le_mI, lt_mI, mI_eq, eq_mI, nI_add, pk_mul, pk_sub, pk_div, nI_clamp, md_eq, Nat.zero_le, true_and, and_true, and_self, if_pos, if_neg, Option.bind_some, bnd_some, Sum.elim_inl, Sum.elim_inr, ↓reduceIte])
  have e1' : fX0_weighFallen b m = Option.bind (some z) (fun z5 => some z5.1) := by rw [← e1]; rfl
  rw [e1', bnd_some, e2]
theorem countTooMuch_ok {b : S0} {m : S1} {M : AM} (h : MR m M) (hb : BR b M) : fX0_countTooMuch b m = some (nI (cntB (tm M M.up) M.n)) := by
  have hn := h.1.1
  have hN := h.2.1
  obtain ⟨z, e1, e2⟩ := loopI (step := fX0_countTooMuch_L4 b m) (fun i (q : Int32 × Int32) => q = (nI (cntB (tm M M.up) i), nI i)) (fun q => q.1 = nI (cntB (tm M M.up) M.n)) M.n (F := 5000) (by omega) (s0 := ((0 : Int32), (0 : Int32))) rfl
    (by
      rintro i q hi rfl
      have hle := cntB_le (tm M M.up) i
      have hll := load_lt h.1 M.up i
      have hsl := h.1.2.2.1 i hi
      have hT := isTooMuch_ok (b := b) (m := m) (p := i) (by omega) (h.2.2.2.2.1 i hi) (hb.2.1 i (by omega)) (h.2.2.2.1 i hi) (by omega) (by omega)
      have hT : fX0_isTooMuch b m (nI i) = some (bI (tm M M.up i)) := hT
      refine ⟨_, ?_, rfl⟩
      rw [cntB]
      cases hq : tm M M.up i
      · rw [hq, bI_f] at hT
        simp (disch := omega) only [fX0_countTooMuch_L4, hN, hT, Bool.false_eq_true, Nat.add_zero, l_0, l_1, l_2, l_3, l_4, l_5, l_6, l_7, l_8, l_9, l_10, l_11, l_12, l_13, l_14, l_15, l_16, l_17, l_18, l_19, l_20, l_21, l_24, l_28, l_31, l_32, l_33, l_45, l_47, l_48, l_57, l_59, l_84, l_95, l_96, l_100, l_112, l_119, l_120, l_127, l_140, l_700, l_840, l_999, l_4095, l_999999, ↓l_m1, ↓l_m2, ↓l_m3, ↓l_m4, ↓l_m10, ↓l_m10000, nI_leI, nI_ltI, nI_eq, mI_le, mI_lt, le_mI, lt_mI, mI_eq, eq_mI, nI_add, pk_mul, pk_sub, pk_div, nI_clamp, md_eq, Nat.zero_le, true_and, and_true, and_self, if_pos, if_neg, Option.bind_some, bnd_some, Sum.elim_inl, Sum.elim_inr, ↓reduceIte]
      · rw [hq, bI_t] at hT
        simp (disch := omega) only [fX0_countTooMuch_L4, hN, hT, l_0, l_1, l_2, l_3, l_4, l_5, l_6, l_7, l_8, l_9, l_10, l_11, l_12, l_13, l_14, l_15, l_16, l_17, l_18, l_19, l_20, l_21, l_24, l_28, l_31, l_32, l_33, l_45, l_47, l_48, l_57, l_59, l_84, l_95, l_96, l_100, l_112, l_119, l_120, l_127, l_140, l_700, l_840, l_999, l_4095, l_999999, ↓l_m1, ↓l_m2, ↓l_m3, ↓l_m4, ↓l_m10, ↓l_m10000, nI_leI, nI_ltI, nI_eq, mI_le, mI_lt, le_mI, lt_mI, mI_eq, eq_mI, nI_add, pk_mul, pk_sub, pk_div, nI_clamp, md_eq, Nat.zero_le, true_and, and_true, and_self, if_pos, if_neg, Option.bind_some, bnd_some, Sum.elim_inl, Sum.elim_inr, ↓reduceIte])
    (by
      rintro q rfl
      refine ⟨(nI (cntB (tm M M.up) M.n), nI M.n), ?_, rfl⟩
      simp (disch := omega) only [fX0_countTooMuch_L4, hN, l_0, l_1, l_2, l_3, l_4, l_5, l_6, l_7, l_8, l_9, l_10, l_11, l_12, l_13, l_14, l_15, l_16, l_17, l_18, l_19, l_20, l_21, l_24, l_28, l_31, l_32, l_33, l_45, l_47, l_48, l_57, l_59, l_84, l_95, l_96, l_100, l_112, l_119, l_120, l_127, l_140, l_700, l_840, l_999, l_4095, l_999999, ↓l_m1, ↓l_m2, ↓l_m3, ↓l_m4, ↓l_m10, ↓l_m10000, nI_leI, nI_ltI, nI_eq, mI_le, mI_lt, le_mI, lt_mI, mI_eq, eq_mI, nI_add, pk_mul, pk_sub, pk_div, nI_clamp, md_eq, Nat.zero_le, true_and, and_true, and_self, if_pos, if_neg, Option.bind_some, bnd_some, Sum.elim_inl, Sum.elim_inr, ↓reduceIte])
  have e1' : fX0_countTooMuch b m = Option.bind (some z) (fun z5 => some z5.1) := by rw [← e1]; rfl
  rw [e1', bnd_some, e2]
theorem allWeight_ok {τ : S7} {g : Nat → Nat} (h : ∀ c, c < 96 → τ.2.1 c = nI (g c)) : fX7_allWeight τ = some (nI (sumN g 96)) := by
  obtain ⟨z, e1, e2⟩ := loopI (step := fX7_allWeight_L4 τ) (fun i (q : Int32 × Int32) => q = (nI (sumN g i), nI i)) (fun q => q.1 = nI (sumN g 96)) 96 (F := 5000) (by omega) (s0 := ((0 : Int32), (0 : Int32))) rfl
    (by
      rintro i q hi rfl
      have hw := h i hi
      refine ⟨_, ?_, rfl⟩
      rw [sumN]
      simp (disch := omega) only [fX7_allWeight_L4, hw, l_0, l_1, l_2, l_3, l_4, l_5, l_6, l_7, l_8, l_9, l_10, l_11, l_12, l_13, l_14, l_15, l_16, l_17, l_18, l_19, l_20, l_21, l_24, l_28, l_31, l_32, l_33, l_45, l_47, l_48, l_57, l_59, l_84, l_95, l_96, l_100, l_112, l_119, l_120, l_127, l_140, l_700, l_840, l_999, l_4095, l_999999, ↓l_m1, ↓l_m2, ↓l_m3, ↓l_m4, ↓l_m10, ↓l_m10000, nI_leI, nI_ltI, nI_eq, mI_le, mI_lt, le_mI, lt_mI, mI_eq, eq_mI, nI_add, pk_mul, pk_sub, pk_div, nI_clamp, md_eq, Nat.zero_le, true_and, and_true, and_self, if_pos, if_neg, Option.bind_some, bnd_some, Sum.elim_inl, Sum.elim_inr, ↓reduceIte])
    (by
      rintro q rfl
      refine ⟨(nI (sumN g 96), nI 96), ?_, rfl⟩
      simp (disch := omega) only [fX7_allWeight_L4, l_0, l_1, l_2, l_3, l_4, l_5, l_6, l_7, l_8, l_9, l_10, l_11, l_12, l_13, l_14, l_15, l_16, l_17, l_18, l_19, l_20, l_21, l_24, l_28, l_31, l_32, l_33, l_45, l_47, l_48, l_57, l_59, l_84, l_95, l_96, l_100, l_112, l_119, l_120, l_127, l_140, l_700, l_840, l_999, l_4095, l_999999, ↓l_m1, ↓l_m2, ↓l_m3, ↓l_m4, ↓l_m10, ↓l_m10000, nI_leI, nI_ltI, nI_eq, mI_le, mI_lt, le_mI, lt_mI, mI_eq, eq_mI, nI_add, pk_mul, pk_sub, pk_div, nI_clamp, md_eq, Nat.zero_le, true_and, and_true, and_self, if_pos, if_neg, Option.bind_some, bnd_some, Sum.elim_inl, Sum.elim_inr, ↓reduceIte])
  have e1' : fX7_allWeight τ = Option.bind (some z) (fun z5 => some z5.1) := by rw [← e1]; rfl
  rw [e1', bnd_some, e2]
theorem heldRooms_ok {τ : S7} {M : AM} (h : TR τ M) (hM : OK M) : ∃ τ1, fX7_heldRooms τ = some (nI (cntB (fun p => M.up p && !img M.up (fun q => rid M.wl (M.cl q)) p (rid M.wl (M.cl p))) M.n), τ1) ∧ SM τ τ1 := by
  have hn := hM.1
  obtain ⟨f, g, e1, hR⟩ := setRooms_ok h.2.2.2.2.1
  have hsm : SM τ (τ.1, τ.2.1, τ.2.2.1, τ.2.2.2.1, τ.2.2.2.2.1, τ.2.2.2.2.2.1, τ.2.2.2.2.2.2.1, τ.2.2.2.2.2.2.2.1, τ.2.2.2.2.2.2.2.2.1, f, g, τ.2.2.2.2.2.2.2.2.2.2.2) := ⟨f, g, τ.2.2.2.2.2.2.2.2.2.2.2.1, τ.2.2.2.2.2.2.2.2.2.2.2.2.1, rfl⟩
  obtain ⟨τ1, ht1⟩ : ∃ τ1, τ1 = (τ.1, τ.2.1, τ.2.2.1, τ.2.2.2.1, τ.2.2.2.2.1, τ.2.2.2.2.2.1, τ.2.2.2.2.2.2.1, τ.2.2.2.2.2.2.2.1, τ.2.2.2.2.2.2.2.2.1, f, g, τ.2.2.2.2.2.2.2.2.2.2.2) := ⟨_, rfl⟩
  rw [← ht1] at e1 hR hsm
  have h1 := TR_SM h hsm
  obtain ⟨fr, hfr⟩ : ∃ fr : Nat → Nat → Bool, fr = fun p k => M.up p && !img M.up (fun q => rid M.wl (M.cl q)) k (rid M.wl (M.cl p)) := ⟨_, rfl⟩
  have hs : ∀ p k, fr p (k + 1) = (fr p k && !(M.up k && decide (rid M.wl (M.cl k) = rid M.wl (M.cl p)))) := by
    intro p k
    rw [hfr]
    show (M.up p && !(img M.up (fun q => rid M.wl (M.cl q)) k (rid M.wl (M.cl p)) || (M.up k && decide (rid M.wl (M.cl k) = rid M.wl (M.cl p))))) = _
    rw [Bool.not_or, Bool.and_assoc]
  have h0 : ∀ p, fr p 0 = M.up p := by
    intro p
    rw [hfr]
    show (M.up p && !false) = _
    rw [Bool.not_false, Bool.and_true]
  have hgo : (fun p => M.up p && !img M.up (fun q => rid M.wl (M.cl q)) p (rid M.wl (M.cl p))) = fun p => fr p p := by rw [hfr]
  rw [hgo]
  have hN := h1.1
  have inner : ∀ p c, p < M.n → ∃ z, loopF (fX7_heldRooms_L25 τ1 (c, nI p)) 5000 (bI (M.up p), (0 : Int32)) = some z ∧ z.1 = bI (fr p p) := by
    intro p c hp
    refine loopI (step := fX7_heldRooms_L25 τ1 (c, nI p)) (fun k (q : Int32 × Int32) => q = (bI (fr p k), nI k)) (fun q => q.1 = bI (fr p p)) p (F := 5000) (by omega) (s0 := (bI (M.up p), (0 : Int32))) (by rw [h0]; rfl)
      (by
        rintro i q hi rfl
        refine ⟨_, ?_, rfl⟩
        have st := stands_ok h1 (j := i) (by omega)
        have hc1 := h1.2.1 i (by omega)
        have hc2 := h1.2.1 p (by omega)
        have hl1 := hM.2.1 i (by omega)
        have hl2 := hM.2.1 p (by omega)
        have hr1 := roomOf_ok hR hl1
        have hr2 := roomOf_ok hR hl2
        have hr1 : fX7_roomOf τ1 (nI (M.cl i)) = some (nI (rid M.wl (M.cl i))) := hr1
        have hr2 : fX7_roomOf τ1 (nI (M.cl p)) = some (nI (rid M.wl (M.cl p))) := hr2
        have b1 := rid_lt M.wl hl1
        have b2 := rid_lt M.wl hl2
        rw [hs]
        cases q1 : fr p i
        · simp (disch := omega) only [fX7_heldRooms_L25, Bool.false_and, bI_f, l_0, l_1, l_2, l_3, l_4, l_5, l_6, l_7, l_8, l_9, l_10, l_11, l_12, l_13, l_14, l_15, l_16, l_17, l_18, l_19, l_20, l_21, l_24, l_28, l_31, l_32, l_33, l_45, l_47, l_48, l_57, l_59, l_84, l_95, l_96, l_100, l_112, l_119, l_120, l_127, l_140, l_700, l_840, l_999, l_4095, l_999999, ↓l_m1, ↓l_m2, ↓l_m3, ↓l_m4, ↓l_m10, ↓l_m10000, nI_leI, nI_ltI, nI_eq, mI_le, mI_lt, le_mI, lt_mI, mI_eq, eq_mI, nI_add, pk_mul, pk_sub, pk_div, nI_clamp, md_eq, Nat.zero_le, true_and, and_true, and_self, if_pos, if_neg, Option.bind_some, bnd_some, Sum.elim_inl, Sum.elim_inr, ↓reduceIte]
        · cases q2 : M.up i
          · rw [q2, bI_f] at st
            simp (disch := omega) only [fX7_heldRooms_L25, Bool.false_and, Bool.not_false, Bool.and_self, bI_t, st, l_0, l_1, l_2, l_3, l_4, l_5, l_6, l_7, l_8, l_9, l_10, l_11, l_12, l_13, l_14, l_15, l_16, l_17, l_18, l_19, l_20, l_21, l_24, l_28, l_31, l_32, l_33, l_45, l_47, l_48, l_57, l_59, l_84, l_95, l_96, l_100, l_112, l_119, l_120, l_127, l_140, l_700, l_840, l_999, l_4095, l_999999, ↓l_m1, ↓l_m2, ↓l_m3, ↓l_m4, ↓l_m10, ↓l_m10000, nI_leI, nI_ltI, nI_eq, mI_le, mI_lt, le_mI, lt_mI, mI_eq, eq_mI, nI_add, pk_mul, pk_sub, pk_div, nI_clamp, md_eq, Nat.zero_le, true_and, and_true, and_self, if_pos, if_neg, Option.bind_some, bnd_some, Sum.elim_inl, Sum.elim_inr, ↓reduceIte]
          · rw [q2, bI_t] at st
            by_cases q3 : rid M.wl (M.cl i) = rid M.wl (M.cl p)
            · rw [decide_eq_true q3, show (true && !(true && true)) = false from rfl]
              simp (disch := omega) only [fX7_heldRooms_L25, bI_t, bI_f, st, hc1, hc2, hr1, hr2, q3, l_0, l_1, l_2, l_3, l_4, l_5, l_6, l_7, l_8, l_9, l_10, l_11, l_12, l_13, l_14, l_15, l_16, l_17, l_18, l_19, l_20, l_21, l_24, l_28, l_31, l_32, l_33, l_45, l_47, l_48, l_57, l_59, l_84, l_95, l_96, l_100, l_112, l_119, l_120, l_127, l_140, l_700, l_840, l_999, l_4095, l_999999, ↓l_m1, ↓l_m2, ↓l_m3, ↓l_m4, ↓l_m10, ↓l_m10000, nI_leI, nI_ltI, nI_eq, mI_le, mI_lt, le_mI, lt_mI, mI_eq, eq_mI, nI_add, pk_mul, pk_sub, pk_div, nI_clamp, md_eq, Nat.zero_le, true_and, and_true, and_self, if_pos, if_neg, Option.bind_some, bnd_some, Sum.elim_inl, Sum.elim_inr, ↓reduceIte]
            · rw [decide_eq_false q3, show (true && !(true && false)) = true from rfl]
              simp (disch := omega) only [fX7_heldRooms_L25, bI_t, bI_f, st, hc1, hc2, hr1, hr2, q3, l_0, l_1, l_2, l_3, l_4, l_5, l_6, l_7, l_8, l_9, l_10, l_11, l_12, l_13, l_14, l_15, l_16, l_17, l_18, l_19, l_20, l_21, l_24, l_28, l_31, l_32, l_33, l_45, l_47, l_48, l_57, l_59, l_84, l_95, l_96, l_100, l_112, l_119, l_120, l_127, l_140, l_700, l_840, l_999, l_4095, l_999999, ↓l_m1, ↓l_m2, ↓l_m3, ↓l_m4, ↓l_m10, ↓l_m10000, nI_leI, nI_ltI, nI_eq, mI_le, mI_lt, le_mI, lt_mI, mI_eq, eq_mI, nI_add, pk_mul, pk_sub, pk_div, nI_clamp, md_eq, Nat.zero_le, true_and, and_true, and_self, if_pos, if_neg, Option.bind_some, bnd_some, Sum.elim_inl, Sum.elim_inr, ↓reduceIte])
      (by
        rintro q rfl
        refine ⟨(bI (fr p p), nI p), ?_, rfl⟩
        simp (disch := omega) only [fX7_heldRooms_L25, l_0, l_1, l_2, l_3, l_4, l_5, l_6, l_7, l_8, l_9, l_10, l_11, l_12, l_13, l_14, l_15, l_16, l_17, l_18, l_19, l_20, l_21, l_24, l_28, l_31, l_32, l_33, l_45, l_47, l_48, l_57, l_59, l_84, l_95, l_96, l_100, l_112, l_119, l_120, l_127, l_140, l_700, l_840, l_999, l_4095, l_999999, ↓l_m1, ↓l_m2, ↓l_m3, ↓l_m4, ↓l_m10, ↓l_m10000, nI_leI, nI_ltI, nI_eq, mI_le, mI_lt, le_mI, lt_mI, mI_eq, eq_mI, nI_add, pk_mul, pk_sub, pk_div, nI_clamp, md_eq, Nat.zero_le, true_and, and_true, and_self, if_pos, if_neg, Option.bind_some, bnd_some, Sum.elim_inl, Sum.elim_inr, ↓reduceIte])
  obtain ⟨z, e3, e4⟩ := loopI (step := fX7_heldRooms_L8 τ1) (fun i (q : Int32 × Int32) => q = (nI (cntB (fun p => fr p p) i), nI i)) (fun q => q.1 = nI (cntB (fun p => fr p p) M.n)) M.n (F := 5000) (by omega) (s0 := ((0 : Int32), (0 : Int32))) rfl
    (by
      rintro i q hi rfl
      have hle := cntB_le (fun p => fr p p) i
      have st := stands_ok h1 (j := i) (by omega)
      obtain ⟨z, i1, i2⟩ := inner i (nI (cntB (fun p => fr p p) i)) hi
      have i1' : loopF (fX7_heldRooms_L25 τ1 (nI (cntB (fun p => fr p p) i), nI i)) 5000 (bI (M.up i), nI 0) = some z := i1
      refine ⟨_, ?_, rfl⟩
      rw [cntB]
      cases hq : fr i i
      · rw [hq, bI_f] at i2
        simp (disch := omega) only [fX7_heldRooms_L8, hN, st, i1', i2, Bool.false_eq_true, Nat.add_zero, l_0, l_1, l_2, l_3, l_4, l_5, l_6, l_7, l_8, l_9, l_10, l_11, l_12, l_13, l_14, l_15, l_16, l_17, l_18, l_19, l_20, l_21, l_24, l_28, l_31, l_32, l_33, l_45, l_47, l_48, l_57, l_59, l_84, l_95, l_96, l_100, l_112, l_119, l_120, l_127, l_140, l_700, l_840, l_999, l_4095, l_999999, ↓l_m1, ↓l_m2, ↓l_m3, ↓l_m4, ↓l_m10, ↓l_m10000, nI_leI, nI_ltI, nI_eq, mI_le, mI_lt, le_mI, lt_mI, mI_eq, eq_mI, nI_add, pk_mul, pk_sub, pk_div, nI_clamp, md_eq, Nat.zero_le, true_and, and_true, and_self, if_pos, if_neg, Option.bind_some, bnd_some, Sum.elim_inl, Sum.elim_inr, ↓reduceIte]
      · rw [hq, bI_t] at i2
        simp (disch := omega) only [fX7_heldRooms_L8, hN, st, i1', i2, l_0, l_1, l_2, l_3, l_4, l_5, l_6, l_7, l_8, l_9, l_10, l_11, l_12, l_13, l_14, l_15, l_16, l_17, l_18, l_19, l_20, l_21, l_24, l_28, l_31, l_32, l_33, l_45, l_47, l_48, l_57, l_59, l_84, l_95, l_96, l_100, l_112, l_119, l_120, l_127, l_140, l_700, l_840, l_999, l_4095, l_999999, ↓l_m1, ↓l_m2, ↓l_m3, ↓l_m4, ↓l_m10, ↓l_m10000, nI_leI, nI_ltI, nI_eq, mI_le, mI_lt, le_mI, lt_mI, mI_eq, eq_mI, nI_add, pk_mul, pk_sub, pk_div, nI_clamp, md_eq, Nat.zero_le, true_and, and_true, and_self, if_pos, if_neg, Option.bind_some, bnd_some, Sum.elim_inl, Sum.elim_inr, ↓reduceIte])
    (by
      rintro q rfl
      refine ⟨(nI (cntB (fun p => fr p p) M.n), nI M.n), ?_, rfl⟩
      simp (disch := omega) only [fX7_heldRooms_L8, hN, l_0, l_1, l_2, l_3, l_4, l_5, l_6, l_7, l_8, l_9, l_10, l_11, l_12, l_13, l_14, l_15, l_16, l_17, l_18, l_19, l_20, l_21, l_24, l_28, l_31, l_32, l_33, l_45, l_47, l_48, l_57, l_59, l_84, l_95, l_96, l_100, l_112, l_119, l_120, l_127, l_140, l_700, l_840, l_999, l_4095, l_999999, ↓l_m1, ↓l_m2, ↓l_m3, ↓l_m4, ↓l_m10, ↓l_m10000, nI_leI, nI_ltI, nI_eq, mI_le, mI_lt, le_mI, lt_mI, mI_eq, eq_mI, nI_add, pk_mul, pk_sub, pk_div, nI_clamp, md_eq, Nat.zero_le, true_and, and_true, and_self, if_pos, if_neg, Option.bind_some, bnd_some, Sum.elim_inl, Sum.elim_inr, ↓reduceIte])
  have e3' : loopF (fX7_heldRooms_L8 τ1) 5000 ((0 : Int32), (0 : Int32)) = some z := e3
  exact ⟨τ1, by unfold fX7_heldRooms; rw [e1, bnd_some, e3', bnd_some, e4], hsm⟩
theorem all_both {σ : S6} {τ : S7} {M : AM} (h1 : MR σ.1 M) (h2 : TR τ M) (hb : BR σ.2.1 M) {q : Nat} (hq : q ≤ 7) : ∃ v τ1, fX6_tellMine σ (nI q) = some v ∧ fX7_allBy τ (nI q) = some (v, τ1) ∧ SM τ τ1 := by
  have hn := h1.1.1
  have hgr := TR_GR h2 h1.1
  rcases (show q = 0 ∨ q = 1 ∨ q = 2 ∨ q = 3 ∨ q = 4 ∨ q = 5 ∨ q = 6 ∨ q = 7 by omega) with rfl | rfl | rfl | rfl | rfl | rfl | rfl | rfl
  · have m6 := h1.2.1
    have m7 := h2.1
    refine ⟨nI M.n, τ, ?_, ?_, SM_rfl τ⟩
    · simp (disch := omega) only [fX6_tellMine, m6, l_0, l_1, l_2, l_3, l_4, l_5, l_6, l_7, l_8, l_9, l_10, l_11, l_12, l_13, l_14, l_15, l_16, l_17, l_18, l_19, l_20, l_21, l_24, l_28, l_31, l_32, l_33, l_45, l_47, l_48, l_57, l_59, l_84, l_95, l_96, l_100, l_112, l_119, l_120, l_127, l_140, l_700, l_840, l_999, l_4095, l_999999, ↓l_m1, ↓l_m2, ↓l_m3, ↓l_m4, ↓l_m10, ↓l_m10000, nI_leI, nI_ltI, nI_eq, mI_le, mI_lt, le_mI, lt_mI, mI_eq, eq_mI, nI_add, pk_mul, pk_sub, pk_div, nI_clamp, md_eq, Nat.zero_le, true_and, and_true, and_self, if_pos, if_neg, Option.bind_some, bnd_some, Sum.elim_inl, Sum.elim_inr, ↓reduceIte]
    · simp (disch := omega) only [fX7_allBy, m7, l_0, l_1, l_2, l_3, l_4, l_5, l_6, l_7, l_8, l_9, l_10, l_11, l_12, l_13, l_14, l_15, l_16, l_17, l_18, l_19, l_20, l_21, l_24, l_28, l_31, l_32, l_33, l_45, l_47, l_48, l_57, l_59, l_84, l_95, l_96, l_100, l_112, l_119, l_120, l_127, l_140, l_700, l_840, l_999, l_4095, l_999999, ↓l_m1, ↓l_m2, ↓l_m3, ↓l_m4, ↓l_m10, ↓l_m10000, nI_leI, nI_ltI, nI_eq, mI_le, mI_lt, le_mI, lt_mI, mI_eq, eq_mI, nI_add, pk_mul, pk_sub, pk_div, nI_clamp, md_eq, Nat.zero_le, true_and, and_true, and_self, if_pos, if_neg, Option.bind_some, bnd_some, Sum.elim_inl, Sum.elim_inr, ↓reduceIte]
  · have c6 := countStanding_ok h1
    have c7 := ones_ok (x := τ.2.2.2.2.2.1) h2.2.2.2.1
    rw [cnt_12 hn h1.1.2.2.2.1] at c7
    refine ⟨nI (cntB M.up M.n), τ, ?_, ?_, SM_rfl τ⟩
    · simp (disch := omega) only [fX6_tellMine, c6, l_0, l_1, l_2, l_3, l_4, l_5, l_6, l_7, l_8, l_9, l_10, l_11, l_12, l_13, l_14, l_15, l_16, l_17, l_18, l_19, l_20, l_21, l_24, l_28, l_31, l_32, l_33, l_45, l_47, l_48, l_57, l_59, l_84, l_95, l_96, l_100, l_112, l_119, l_120, l_127, l_140, l_700, l_840, l_999, l_4095, l_999999, ↓l_m1, ↓l_m2, ↓l_m3, ↓l_m4, ↓l_m10, ↓l_m10000, nI_leI, nI_ltI, nI_eq, mI_le, mI_lt, le_mI, lt_mI, mI_eq, eq_mI, nI_add, pk_mul, pk_sub, pk_div, nI_clamp, md_eq, Nat.zero_le, true_and, and_true, and_self, if_pos, if_neg, Option.bind_some, bnd_some, Sum.elim_inl, Sum.elim_inr, ↓reduceIte]
    · simp (disch := omega) only [fX7_allBy, c7, l_0, l_1, l_2, l_3, l_4, l_5, l_6, l_7, l_8, l_9, l_10, l_11, l_12, l_13, l_14, l_15, l_16, l_17, l_18, l_19, l_20, l_21, l_24, l_28, l_31, l_32, l_33, l_45, l_47, l_48, l_57, l_59, l_84, l_95, l_96, l_100, l_112, l_119, l_120, l_127, l_140, l_700, l_840, l_999, l_4095, l_999999, ↓l_m1, ↓l_m2, ↓l_m3, ↓l_m4, ↓l_m10, ↓l_m10000, nI_leI, nI_ltI, nI_eq, mI_le, mI_lt, le_mI, lt_mI, mI_eq, eq_mI, nI_add, pk_mul, pk_sub, pk_div, nI_clamp, md_eq, Nat.zero_le, true_and, and_true, and_self, if_pos, if_neg, Option.bind_some, bnd_some, Sum.elim_inl, Sum.elim_inr, ↓reduceIte]
  · have c6 := countTooMuch_ok h1 hb
    obtain ⟨y, τ1, e1, e2, e3, e4, e5⟩ := tooMuch_ok (x := τ.2.2.2.2.2.1) hgr h2.2.2.2.1
    have c7 := ones_ok e5
    rw [cnt_12 hn (fun p hp => by unfold tm; rw [h1.1.2.2.2.1 p hp]; rfl)] at c7
    refine ⟨nI (cntB (tm M M.up) M.n), τ1, ?_, ?_, e2⟩
    · simp (disch := omega) only [fX6_tellMine, c6, l_0, l_1, l_2, l_3, l_4, l_5, l_6, l_7, l_8, l_9, l_10, l_11, l_12, l_13, l_14, l_15, l_16, l_17, l_18, l_19, l_20, l_21, l_24, l_28, l_31, l_32, l_33, l_45, l_47, l_48, l_57, l_59, l_84, l_95, l_96, l_100, l_112, l_119, l_120, l_127, l_140, l_700, l_840, l_999, l_4095, l_999999, ↓l_m1, ↓l_m2, ↓l_m3, ↓l_m4, ↓l_m10, ↓l_m10000, nI_leI, nI_ltI, nI_eq, mI_le, mI_lt, le_mI, lt_mI, mI_eq, eq_mI, nI_add, pk_mul, pk_sub, pk_div, nI_clamp, md_eq, Nat.zero_le, true_and, and_true, and_self, if_pos, if_neg, Option.bind_some, bnd_some, Sum.elim_inl, Sum.elim_inr, ↓reduceIte]
    · simp (disch := omega) only [fX7_allBy, e1, c7, l_0, l_1, l_2, l_3, l_4, l_5, l_6, l_7, l_8, l_9, l_10, l_11, l_12, l_13, l_14, l_15, l_16, l_17, l_18, l_19, l_20, l_21, l_24, l_28, l_31, l_32, l_33, l_45, l_47, l_48, l_57, l_59, l_84, l_95, l_96, l_100, l_112, l_119, l_120, l_127, l_140, l_700, l_840, l_999, l_4095, l_999999, ↓l_m1, ↓l_m2, ↓l_m3, ↓l_m4, ↓l_m10, ↓l_m10000, nI_leI, nI_ltI, nI_eq, mI_le, mI_lt, le_mI, lt_mI, mI_eq, eq_mI, nI_add, pk_mul, pk_sub, pk_div, nI_clamp, md_eq, Nat.zero_le, true_and, and_true, and_self, if_pos, if_neg, Option.bind_some, bnd_some, Sum.elim_inl, Sum.elim_inr, ↓reduceIte]
  · have c6 := countFallen_ok hb
    obtain ⟨τ1, e1, e2, e3, -⟩ := bears_ok (x := τ.2.2.2.2.2.1) hgr h2.2.2.2.1
    have c7 := e3.2 13 (by omega)
    refine ⟨nI (rest M M.up 13), τ1, ?_, ?_, e2⟩
    · simp (disch := omega) only [fX6_tellMine, c6, l_0, l_1, l_2, l_3, l_4, l_5, l_6, l_7, l_8, l_9, l_10, l_11, l_12, l_13, l_14, l_15, l_16, l_17, l_18, l_19, l_20, l_21, l_24, l_28, l_31, l_32, l_33, l_45, l_47, l_48, l_57, l_59, l_84, l_95, l_96, l_100, l_112, l_119, l_120, l_127, l_140, l_700, l_840, l_999, l_4095, l_999999, ↓l_m1, ↓l_m2, ↓l_m3, ↓l_m4, ↓l_m10, ↓l_m10000, nI_leI, nI_ltI, nI_eq, mI_le, mI_lt, le_mI, lt_mI, mI_eq, eq_mI, nI_add, pk_mul, pk_sub, pk_div, nI_clamp, md_eq, Nat.zero_le, true_and, and_true, and_self, if_pos, if_neg, Option.bind_some, bnd_some, Sum.elim_inl, Sum.elim_inr, ↓reduceIte]
    · simp (disch := omega) only [fX7_allBy, e1, c7, l_0, l_1, l_2, l_3, l_4, l_5, l_6, l_7, l_8, l_9, l_10, l_11, l_12, l_13, l_14, l_15, l_16, l_17, l_18, l_19, l_20, l_21, l_24, l_28, l_31, l_32, l_33, l_45, l_47, l_48, l_57, l_59, l_84, l_95, l_96, l_100, l_112, l_119, l_120, l_127, l_140, l_700, l_840, l_999, l_4095, l_999999, ↓l_m1, ↓l_m2, ↓l_m3, ↓l_m4, ↓l_m10, ↓l_m10000, nI_leI, nI_ltI, nI_eq, mI_le, mI_lt, le_mI, lt_mI, mI_eq, eq_mI, nI_add, pk_mul, pk_sub, pk_div, nI_clamp, md_eq, Nat.zero_le, true_and, and_true, and_self, if_pos, if_neg, Option.bind_some, bnd_some, Sum.elim_inl, Sum.elim_inr, ↓reduceIte]
  · have c6 := weighFallen_ok h1 hb
    obtain ⟨τ1, e1, e2, e3, -⟩ := bears_ok (x := τ.2.2.2.2.2.1) hgr h2.2.2.2.1
    have c7 := e3.1 13 (by omega)
    refine ⟨nI (load M M.up 13), τ1, ?_, ?_, e2⟩
    · simp (disch := omega) only [fX6_tellMine, c6, l_0, l_1, l_2, l_3, l_4, l_5, l_6, l_7, l_8, l_9, l_10, l_11, l_12, l_13, l_14, l_15, l_16, l_17, l_18, l_19, l_20, l_21, l_24, l_28, l_31, l_32, l_33, l_45, l_47, l_48, l_57, l_59, l_84, l_95, l_96, l_100, l_112, l_119, l_120, l_127, l_140, l_700, l_840, l_999, l_4095, l_999999, ↓l_m1, ↓l_m2, ↓l_m3, ↓l_m4, ↓l_m10, ↓l_m10000, nI_leI, nI_ltI, nI_eq, mI_le, mI_lt, le_mI, lt_mI, mI_eq, eq_mI, nI_add, pk_mul, pk_sub, pk_div, nI_clamp, md_eq, Nat.zero_le, true_and, and_true, and_self, if_pos, if_neg, Option.bind_some, bnd_some, Sum.elim_inl, Sum.elim_inr, ↓reduceIte]
    · simp (disch := omega) only [fX7_allBy, e1, c7, l_0, l_1, l_2, l_3, l_4, l_5, l_6, l_7, l_8, l_9, l_10, l_11, l_12, l_13, l_14, l_15, l_16, l_17, l_18, l_19, l_20, l_21, l_24, l_28, l_31, l_32, l_33, l_45, l_47, l_48, l_57, l_59, l_84, l_95, l_96, l_100, l_112, l_119, l_120, l_127, l_140, l_700, l_840, l_999, l_4095, l_999999, ↓l_m1, ↓l_m2, ↓l_m3, ↓l_m4, ↓l_m10, ↓l_m10000, nI_leI, nI_ltI, nI_eq, mI_le, mI_lt, le_mI, lt_mI, mI_eq, eq_mI, nI_add, pk_mul, pk_sub, pk_div, nI_clamp, md_eq, Nat.zero_le, true_and, and_true, and_self, if_pos, if_neg, Option.bind_some, bnd_some, Sum.elim_inl, Sum.elim_inr, ↓reduceIte]
  · have c6 := sum_ok (n := 96) (by omega) h1.2.2.2.2.2.2
    have c7 := allWeight_ok (fun c hc => (hgr.2.2.2.1 c hc).1)
    refine ⟨nI (sumN M.wt 96), τ, ?_, ?_, SM_rfl τ⟩
    · simp (disch := omega) only [fX6_tellMine, c6, l_0, l_1, l_2, l_3, l_4, l_5, l_6, l_7, l_8, l_9, l_10, l_11, l_12, l_13, l_14, l_15, l_16, l_17, l_18, l_19, l_20, l_21, l_24, l_28, l_31, l_32, l_33, l_45, l_47, l_48, l_57, l_59, l_84, l_95, l_96, l_100, l_112, l_119, l_120, l_127, l_140, l_700, l_840, l_999, l_4095, l_999999, ↓l_m1, ↓l_m2, ↓l_m3, ↓l_m4, ↓l_m10, ↓l_m10000, nI_leI, nI_ltI, nI_eq, mI_le, mI_lt, le_mI, lt_mI, mI_eq, eq_mI, nI_add, pk_mul, pk_sub, pk_div, nI_clamp, md_eq, Nat.zero_le, true_and, and_true, and_self, if_pos, if_neg, Option.bind_some, bnd_some, Sum.elim_inl, Sum.elim_inr, ↓reduceIte]
    · simp (disch := omega) only [fX7_allBy, c7, l_0, l_1, l_2, l_3, l_4, l_5, l_6, l_7, l_8, l_9, l_10, l_11, l_12, l_13, l_14, l_15, l_16, l_17, l_18, l_19, l_20, l_21, l_24, l_28, l_31, l_32, l_33, l_45, l_47, l_48, l_57, l_59, l_84, l_95, l_96, l_100, l_112, l_119, l_120, l_127, l_140, l_700, l_840, l_999, l_4095, l_999999, ↓l_m1, ↓l_m2, ↓l_m3, ↓l_m4, ↓l_m10, ↓l_m10000, nI_leI, nI_ltI, nI_eq, mI_le, mI_lt, le_mI, lt_mI, mI_eq, eq_mI, nI_add, pk_mul, pk_sub, pk_div, nI_clamp, md_eq, Nat.zero_le, true_and, and_true, and_self, if_pos, if_neg, Option.bind_some, bnd_some, Sum.elim_inl, Sum.elim_inr, ↓reduceIte]
  · have c6 := countRooms_ok h1
    rw [rooms_cnt] at c6
    have a1 := wallsAhead_ok h2.2.2.2.2.1 (b := 0) (k := 7) (by omega)
    have a2 := wallsAhead_ok h2.2.2.2.2.1 (b := 10) (k := 11) (by omega)
    refine ⟨nI ((cntW M.wl 0 7 + 1) * (cntW M.wl 10 11 + 1)), τ, ?_, ?_, SM_rfl τ⟩
    · simp (disch := omega) only [fX6_tellMine, c6, l_0, l_1, l_2, l_3, l_4, l_5, l_6, l_7, l_8, l_9, l_10, l_11, l_12, l_13, l_14, l_15, l_16, l_17, l_18, l_19, l_20, l_21, l_24, l_28, l_31, l_32, l_33, l_45, l_47, l_48, l_57, l_59, l_84, l_95, l_96, l_100, l_112, l_119, l_120, l_127, l_140, l_700, l_840, l_999, l_4095, l_999999, ↓l_m1, ↓l_m2, ↓l_m3, ↓l_m4, ↓l_m10, ↓l_m10000, nI_leI, nI_ltI, nI_eq, mI_le, mI_lt, le_mI, lt_mI, mI_eq, eq_mI, nI_add, pk_mul, pk_sub, pk_div, nI_clamp, md_eq, Nat.zero_le, true_and, and_true, and_self, if_pos, if_neg, Option.bind_some, bnd_some, Sum.elim_inl, Sum.elim_inr, ↓reduceIte]
    · simp (disch := omega) only [fX7_allBy, fX7_rooms, a1, a2, l_0, l_1, l_2, l_3, l_4, l_5, l_6, l_7, l_8, l_9, l_10, l_11, l_12, l_13, l_14, l_15, l_16, l_17, l_18, l_19, l_20, l_21, l_24, l_28, l_31, l_32, l_33, l_45, l_47, l_48, l_57, l_59, l_84, l_95, l_96, l_100, l_112, l_119, l_120, l_127, l_140, l_700, l_840, l_999, l_4095, l_999999, ↓l_m1, ↓l_m2, ↓l_m3, ↓l_m4, ↓l_m10, ↓l_m10000, nI_leI, nI_ltI, nI_eq, mI_le, mI_lt, le_mI, lt_mI, mI_eq, eq_mI, nI_add, pk_mul, pk_sub, pk_div, nI_clamp, md_eq, Nat.zero_le, true_and, and_true, and_self, if_pos, if_neg, Option.bind_some, bnd_some, Sum.elim_inl, Sum.elim_inr, ↓reduceIte]
  · have c6 := countHeld_ok h1 hb
    rw [held_eq h1.1] at c6
    obtain ⟨τ1, e1, e2⟩ := heldRooms_ok h2 h1.1
    refine ⟨nI (cntB (fun p => M.up p && !img M.up (fun q => rid M.wl (M.cl q)) p (rid M.wl (M.cl p))) M.n), τ1, ?_, ?_, e2⟩
    · simp (disch := omega) only [fX6_tellMine, c6, l_0, l_1, l_2, l_3, l_4, l_5, l_6, l_7, l_8, l_9, l_10, l_11, l_12, l_13, l_14, l_15, l_16, l_17, l_18, l_19, l_20, l_21, l_24, l_28, l_31, l_32, l_33, l_45, l_47, l_48, l_57, l_59, l_84, l_95, l_96, l_100, l_112, l_119, l_120, l_127, l_140, l_700, l_840, l_999, l_4095, l_999999, ↓l_m1, ↓l_m2, ↓l_m3, ↓l_m4, ↓l_m10, ↓l_m10000, nI_leI, nI_ltI, nI_eq, mI_le, mI_lt, le_mI, lt_mI, mI_eq, eq_mI, nI_add, pk_mul, pk_sub, pk_div, nI_clamp, md_eq, Nat.zero_le, true_and, and_true, and_self, if_pos, if_neg, Option.bind_some, bnd_some, Sum.elim_inl, Sum.elim_inr, ↓reduceIte]
    · simp (disch := omega) only [fX7_allBy, e1, l_0, l_1, l_2, l_3, l_4, l_5, l_6, l_7, l_8, l_9, l_10, l_11, l_12, l_13, l_14, l_15, l_16, l_17, l_18, l_19, l_20, l_21, l_24, l_28, l_31, l_32, l_33, l_45, l_47, l_48, l_57, l_59, l_84, l_95, l_96, l_100, l_112, l_119, l_120, l_127, l_140, l_700, l_840, l_999, l_4095, l_999999, ↓l_m1, ↓l_m2, ↓l_m3, ↓l_m4, ↓l_m10, ↓l_m10000, nI_leI, nI_ltI, nI_eq, mI_le, mI_lt, le_mI, lt_mI, mI_eq, eq_mI, nI_add, pk_mul, pk_sub, pk_div, nI_clamp, md_eq, Nat.zero_le, true_and, and_true, and_self, if_pos, if_neg, Option.bind_some, bnd_some, Sum.elim_inl, Sum.elim_inr, ↓reduceIte]
theorem E_all : E1 Rel fX6_all fX7_all := by
  intro σ τ x h
  rcases wi x (k := 7) (by omega) with ⟨q, hq, rfl⟩ | ⟨a1, a2⟩
  · obtain ⟨M, k, H, w, V, tl, tx, hB⟩ := h
    obtain ⟨b1, e1, e2⟩ := lay_ok hB.1 σ.2.1
    obtain ⟨v, τ1, f1, f2, f3⟩ := all_both (σ := (σ.1, b1, σ.2.2)) hB.1 hB.2.1 e2 hq
    refine ⟨v, _, τ1, ?_, ?_, Rel_SM hB f3 b1 σ.2.2.2.2.1⟩
    · simp (disch := omega) only [fX6_all, l_7, wi6, e1, f1, l_0, l_1, nI_eq, ↓reduceIte, bnd_some, or_true, true_or, if_pos, if_neg, ↓l_m1, ↓l_m2, ↓l_m3, ↓l_m4]
    · simp (disch := omega) only [fX7_all, l_0, l_7, wi7, f2, l_0, l_1, nI_eq, ↓reduceIte, bnd_some, or_true, true_or, if_pos, if_neg, ↓l_m1, ↓l_m2, ↓l_m3, ↓l_m4]
  · obtain ⟨σ1, τ1, e3, e4, e5⟩ := bad_ok h
    refine ⟨mI2, σ1, τ1, ?_, ?_, e5⟩
    · simp (disch := omega) only [fX6_all, l_7, a1, e3, l_0, l_1, nI_eq, ↓reduceIte, bnd_some, or_true, true_or, if_pos, if_neg, ↓l_m1, ↓l_m2, ↓l_m3, ↓l_m4]
    · simp (disch := omega) only [fX7_all, l_7, a2, e4, l_0, l_1, nI_eq, ↓reduceIte, bnd_some, or_true, true_or, if_pos, if_neg, ↓l_m1, ↓l_m2, ↓l_m3, ↓l_m4]
theorem dig1 {g : Int32 → Option Int32} {f : Int32 → Option Int32} {stp stp' : Int64 × Int32 → Option ((Int64 × Int32) ⊕ (Int64 × Int32))} {n : Nat} (hn : n < 2000) (h1 : ∀ x i, i < n → ∃ v, f (nI i) = some v ∧ g (nI i) = some v ∧ stp (x, nI i) = some (.inl (((31 : Int64) * x) + v.toInt64, nI (i + 1))) ∧ stp' (x, nI i) = some (.inl (((31 : Int64) * x) + v.toInt64, nI (i + 1)))) (h2 : ∀ x, stp (x, nI n) = some (.inr (x, nI n)) ∧ stp' (x, nI n) = some (.inr (x, nI n))) (x : Int64) : ∃ y, loopF stp 5000 (x, (0 : Int32)) = some (y, nI n) ∧ loopF stp' 5000 (x, (0 : Int32)) = some (y, nI n) := by
  obtain ⟨r, r', e1, e2, y, e3, e4⟩ := loop2 (step := stp) (step' := stp') (fun i s t => ∃ y, s = (y, nI i) ∧ t = (y, nI i)) (fun s t => ∃ y, s = (y, nI n) ∧ t = (y, nI n)) n (F := 5000) (by omega) (s0 := (x, (0 : Int32))) (t0 := (x, (0 : Int32))) ⟨x, rfl, rfl⟩
    (by
      rintro i s t hi ⟨y, rfl, rfl⟩
      obtain ⟨v, -, -, a, b⟩ := h1 y i hi
      exact ⟨_, _, a, b, _, rfl, rfl⟩)
    (by
      rintro s t ⟨y, rfl, rfl⟩
      exact ⟨_, _, (h2 y).1, (h2 y).2, y, rfl, rfl⟩)
  rw [e3] at e1
  rw [e4] at e2
  exact ⟨y, e1, e2⟩
theorem E_digest : EL Rel fX6_digest fX7_digest := by
  intro σ τ h
  obtain ⟨M, k, H, w, V, tl, tx, hB⟩ := h
  have hn := hB.1.1.1
  obtain ⟨b1, e1, e2⟩ := lay_ok hB.1 σ.2.1
  have hB1 := RB_SM hB (SM_rfl τ) b1 σ.2.2.2.2.1
  obtain ⟨y1, d1, d2⟩ := dig1 (stp := fX6_digest_L17 σ b1) (stp' := fX7_digest_L6 τ) (n := 6) (g := fX7_toldBy τ) (f := fX6_tellCount (σ.1, b1, σ.2.2)) (by omega)
    (by
      intro x i hi
      obtain ⟨v, v1, v2⟩ := told_both hB1 (j := i) (by omega)
      refine ⟨v, v1, v2, ?_, ?_⟩
      · have v1' : fX6_tellCount ((σ.1, b1, σ.2.2)) (nI i) = some v := v1
        simp (disch := omega) only [fX6_digest_L17, v1', l_0, l_1, l_2, l_3, l_4, l_5, l_6, l_7, l_8, l_9, l_10, l_11, l_12, l_13, l_14, l_15, l_16, l_17, l_18, l_19, l_20, l_21, l_24, l_28, l_31, l_32, l_33, l_45, l_47, l_48, l_57, l_59, l_84, l_95, l_96, l_100, l_112, l_119, l_120, l_127, l_140, l_700, l_840, l_999, l_4095, l_999999, ↓l_m1, ↓l_m2, ↓l_m3, ↓l_m4, ↓l_m10, ↓l_m10000, nI_leI, nI_ltI, nI_eq, mI_le, mI_lt, le_mI, lt_mI, mI_eq, eq_mI, nI_add, pk_mul, pk_sub, pk_div, nI_clamp, md_eq, Nat.zero_le, true_and, and_true, and_self, if_pos, if_neg, Option.bind_some, bnd_some, Sum.elim_inl, Sum.elim_inr, ↓reduceIte]
      · simp (disch := omega) only [fX7_digest_L6, v2, l_0, l_1, l_2, l_3, l_4, l_5, l_6, l_7, l_8, l_9, l_10, l_11, l_12, l_13, l_14, l_15, l_16, l_17, l_18, l_19, l_20, l_21, l_24, l_28, l_31, l_32, l_33, l_45, l_47, l_48, l_57, l_59, l_84, l_95, l_96, l_100, l_112, l_119, l_120, l_127, l_140, l_700, l_840, l_999, l_4095, l_999999, ↓l_m1, ↓l_m2, ↓l_m3, ↓l_m4, ↓l_m10, ↓l_m10000, nI_leI, nI_ltI, nI_eq, mI_le, mI_lt, le_mI, lt_mI, mI_eq, eq_mI, nI_add, pk_mul, pk_sub, pk_div, nI_clamp, md_eq, Nat.zero_le, true_and, and_true, and_self, if_pos, if_neg, Option.bind_some, bnd_some, Sum.elim_inl, Sum.elim_inr, ↓reduceIte])
    (by
      intro x
      constructor
      · simp (disch := omega) only [fX6_digest_L17, l_0, l_1, l_2, l_3, l_4, l_5, l_6, l_7, l_8, l_9, l_10, l_11, l_12, l_13, l_14, l_15, l_16, l_17, l_18, l_19, l_20, l_21, l_24, l_28, l_31, l_32, l_33, l_45, l_47, l_48, l_57, l_59, l_84, l_95, l_96, l_100, l_112, l_119, l_120, l_127, l_140, l_700, l_840, l_999, l_4095, l_999999, ↓l_m1, ↓l_m2, ↓l_m3, ↓l_m4, ↓l_m10, ↓l_m10000, nI_leI, nI_ltI, nI_eq, mI_le, mI_lt, le_mI, lt_mI, mI_eq, eq_mI, nI_add, pk_mul, pk_sub, pk_div, nI_clamp, md_eq, Nat.zero_le, true_and, and_true, and_self, if_pos, if_neg, Option.bind_some, bnd_some, Sum.elim_inl, Sum.elim_inr, ↓reduceIte]
      · simp (disch := omega) only [fX7_digest_L6, l_0, l_1, l_2, l_3, l_4, l_5, l_6, l_7, l_8, l_9, l_10, l_11, l_12, l_13, l_14, l_15, l_16, l_17, l_18, l_19, l_20, l_21, l_24, l_28, l_31, l_32, l_33, l_45, l_47, l_48, l_57, l_59, l_84, l_95, l_96, l_100, l_112, l_119, l_120, l_127, l_140, l_700, l_840, l_999, l_4095, l_999999, ↓l_m1, ↓l_m2, ↓l_m3, ↓l_m4, ↓l_m10, ↓l_m10000, nI_leI, nI_ltI, nI_eq, mI_le, mI_lt, le_mI, lt_mI, mI_eq, eq_mI, nI_add, pk_mul, pk_sub, pk_div, nI_clamp, md_eq, Nat.zero_le, true_and, and_true, and_self, if_pos, if_neg, Option.bind_some, bnd_some, Sum.elim_inl, Sum.elim_inr, ↓reduceIte]) 2153
  obtain ⟨z, z', f1, f2, y2, f3, τ2, f4, f5⟩ := loop2 (step := fX6_digest_L43 σ b1) (step' := fX7_digest_L33) (fun i s t => ∃ y, s = (y, nI i) ∧ ∃ τ1, t = (y, nI i, τ1) ∧ SM τ τ1) (fun s t => ∃ y, s = (y, nI 8) ∧ ∃ τ1, t = (y, nI 8, τ1) ∧ SM τ τ1) 8 (F := 5000) (by omega) (s0 := (y1, (0 : Int32))) (t0 := (y1, (0 : Int32), τ)) ⟨y1, rfl, τ, rfl, SM_rfl τ⟩
    (by
      rintro i s t hi ⟨y, rfl, τ1, rfl, hs⟩
      obtain ⟨v, τ2, v1, v2, v3⟩ := all_both (σ := (σ.1, b1, σ.2.2)) hB.1 (TR_SM hB.2.1 hs) e2 (q := i) (by omega)
      refine ⟨(((31 : Int64) * y) + v.toInt64, nI (i + 1)), (((31 : Int64) * y) + v.toInt64, nI (i + 1), τ2), ?_, ?_, _, rfl, τ2, rfl, SM_tr hs v3⟩
      · simp (disch := omega) only [fX6_digest_L43, v1, l_0, l_1, l_2, l_3, l_4, l_5, l_6, l_7, l_8, l_9, l_10, l_11, l_12, l_13, l_14, l_15, l_16, l_17, l_18, l_19, l_20, l_21, l_24, l_28, l_31, l_32, l_33, l_45, l_47, l_48, l_57, l_59, l_84, l_95, l_96, l_100, l_112, l_119, l_120, l_127, l_140, l_700, l_840, l_999, l_4095, l_999999, ↓l_m1, ↓l_m2, ↓l_m3, ↓l_m4, ↓l_m10, ↓l_m10000, nI_leI, nI_ltI, nI_eq, mI_le, mI_lt, le_mI, lt_mI, mI_eq, eq_mI, nI_add, pk_mul, pk_sub, pk_div, nI_clamp, md_eq, Nat.zero_le, true_and, and_true, and_self, if_pos, if_neg, Option.bind_some, bnd_some, Sum.elim_inl, Sum.elim_inr, ↓reduceIte]
      · simp (disch := omega) only [fX7_digest_L33, v2, l_0, l_1, l_2, l_3, l_4, l_5, l_6, l_7, l_8, l_9, l_10, l_11, l_12, l_13, l_14, l_15, l_16, l_17, l_18, l_19, l_20, l_21, l_24, l_28, l_31, l_32, l_33, l_45, l_47, l_48, l_57, l_59, l_84, l_95, l_96, l_100, l_112, l_119, l_120, l_127, l_140, l_700, l_840, l_999, l_4095, l_999999, ↓l_m1, ↓l_m2, ↓l_m3, ↓l_m4, ↓l_m10, ↓l_m10000, nI_leI, nI_ltI, nI_eq, mI_le, mI_lt, le_mI, lt_mI, mI_eq, eq_mI, nI_add, pk_mul, pk_sub, pk_div, nI_clamp, md_eq, Nat.zero_le, true_and, and_true, and_self, if_pos, if_neg, Option.bind_some, bnd_some, Sum.elim_inl, Sum.elim_inr, ↓reduceIte])
    (by
      rintro s t ⟨y, rfl, τ1, rfl, hs⟩
      refine ⟨(y, nI 8), (y, nI 8, τ1), ?_, ?_, _, rfl, τ1, rfl, hs⟩
      · simp (disch := omega) only [fX6_digest_L43, l_0, l_1, l_2, l_3, l_4, l_5, l_6, l_7, l_8, l_9, l_10, l_11, l_12, l_13, l_14, l_15, l_16, l_17, l_18, l_19, l_20, l_21, l_24, l_28, l_31, l_32, l_33, l_45, l_47, l_48, l_57, l_59, l_84, l_95, l_96, l_100, l_112, l_119, l_120, l_127, l_140, l_700, l_840, l_999, l_4095, l_999999, ↓l_m1, ↓l_m2, ↓l_m3, ↓l_m4, ↓l_m10, ↓l_m10000, nI_leI, nI_ltI, nI_eq, mI_le, mI_lt, le_mI, lt_mI, mI_eq, eq_mI, nI_add, pk_mul, pk_sub, pk_div, nI_clamp, md_eq, Nat.zero_le, true_and, and_true, and_self, if_pos, if_neg, Option.bind_some, bnd_some, Sum.elim_inl, Sum.elim_inr, ↓reduceIte]
      · simp (disch := omega) only [fX7_digest_L33, l_0, l_1, l_2, l_3, l_4, l_5, l_6, l_7, l_8, l_9, l_10, l_11, l_12, l_13, l_14, l_15, l_16, l_17, l_18, l_19, l_20, l_21, l_24, l_28, l_31, l_32, l_33, l_45, l_47, l_48, l_57, l_59, l_84, l_95, l_96, l_100, l_112, l_119, l_120, l_127, l_140, l_700, l_840, l_999, l_4095, l_999999, ↓l_m1, ↓l_m2, ↓l_m3, ↓l_m4, ↓l_m10, ↓l_m10000, nI_leI, nI_ltI, nI_eq, mI_le, mI_lt, le_mI, lt_mI, mI_eq, eq_mI, nI_add, pk_mul, pk_sub, pk_div, nI_clamp, md_eq, Nat.zero_le, true_and, and_true, and_self, if_pos, if_neg, Option.bind_some, bnd_some, Sum.elim_inl, Sum.elim_inr, ↓reduceIte])
  subst f3 f4
  obtain ⟨z, z', g1, g2, y3, g3, τ3, g4, g5⟩ := loop2 (step := fX6_digest_L70 σ b1) (step' := fX7_digest_L60) (fun i s t => ∃ y, s = (y, nI i) ∧ ∃ τ1, t = (y, nI i, τ1) ∧ SM τ τ1) (fun s t => ∃ y, s = (y, nI M.n) ∧ ∃ τ1, t = (y, nI M.n, τ1) ∧ SM τ τ1) M.n (F := 5000) (by omega) (s0 := (y2, (0 : Int32))) (t0 := (y2, (0 : Int32), τ2)) ⟨y2, rfl, τ2, rfl, f5⟩
    (by
      rintro i s t hi ⟨y, rfl, τ1, rfl, hs⟩
      obtain ⟨z, z', i1, i2, y3, i3, τ3, i4, i5⟩ := loop2 (step := fX6_digest_L84 σ b1 (y, nI i)) (step' := fX7_digest_L71 (y, nI i, τ1)) (fun j s t => ∃ y, s = (y, nI j) ∧ ∃ τ1, t = (y, nI j, τ1) ∧ SM τ τ1) (fun s t => ∃ y, s = (y, nI 5) ∧ ∃ τ1, t = (y, nI 5, τ1) ∧ SM τ τ1) 5 (F := 5000) (by omega) (s0 := (y, nI 0)) (t0 := (y, nI 0, τ1)) ⟨y, rfl, τ1, rfl, hs⟩
        (by
          rintro j s t hj ⟨x, rfl, τ5, rfl, hs⟩
          obtain ⟨v, τ6, v1, v2, v3⟩ := of_both (σ := (σ.1, b1, σ.2.2)) hB.1 (TR_SM hB.2.1 hs) e2 hi (q := j) (by omega)
          refine ⟨(((31 : Int64) * x) + v.toInt64, nI (j + 1)), (((31 : Int64) * x) + v.toInt64, nI (j + 1), τ6), ?_, ?_, _, rfl, τ6, rfl, SM_tr hs v3⟩
          · simp (disch := omega) only [fX6_digest_L84, v1, l_0, l_1, l_2, l_3, l_4, l_5, l_6, l_7, l_8, l_9, l_10, l_11, l_12, l_13, l_14, l_15, l_16, l_17, l_18, l_19, l_20, l_21, l_24, l_28, l_31, l_32, l_33, l_45, l_47, l_48, l_57, l_59, l_84, l_95, l_96, l_100, l_112, l_119, l_120, l_127, l_140, l_700, l_840, l_999, l_4095, l_999999, ↓l_m1, ↓l_m2, ↓l_m3, ↓l_m4, ↓l_m10, ↓l_m10000, nI_leI, nI_ltI, nI_eq, mI_le, mI_lt, le_mI, lt_mI, mI_eq, eq_mI, nI_add, pk_mul, pk_sub, pk_div, nI_clamp, md_eq, Nat.zero_le, true_and, and_true, and_self, if_pos, if_neg, Option.bind_some, bnd_some, Sum.elim_inl, Sum.elim_inr, ↓reduceIte]
          · simp (disch := omega) only [fX7_digest_L71, v2, l_0, l_1, l_2, l_3, l_4, l_5, l_6, l_7, l_8, l_9, l_10, l_11, l_12, l_13, l_14, l_15, l_16, l_17, l_18, l_19, l_20, l_21, l_24, l_28, l_31, l_32, l_33, l_45, l_47, l_48, l_57, l_59, l_84, l_95, l_96, l_100, l_112, l_119, l_120, l_127, l_140, l_700, l_840, l_999, l_4095, l_999999, ↓l_m1, ↓l_m2, ↓l_m3, ↓l_m4, ↓l_m10, ↓l_m10000, nI_leI, nI_ltI, nI_eq, mI_le, mI_lt, le_mI, lt_mI, mI_eq, eq_mI, nI_add, pk_mul, pk_sub, pk_div, nI_clamp, md_eq, Nat.zero_le, true_and, and_true, and_self, if_pos, if_neg, Option.bind_some, bnd_some, Sum.elim_inl, Sum.elim_inr, ↓reduceIte])
        (by
          rintro s t ⟨x, rfl, τ5, rfl, hs⟩
          refine ⟨(x, nI 5), (x, nI 5, τ5), ?_, ?_, _, rfl, τ5, rfl, hs⟩
          · simp (disch := omega) only [fX6_digest_L84, l_0, l_1, l_2, l_3, l_4, l_5, l_6, l_7, l_8, l_9, l_10, l_11, l_12, l_13, l_14, l_15, l_16, l_17, l_18, l_19, l_20, l_21, l_24, l_28, l_31, l_32, l_33, l_45, l_47, l_48, l_57, l_59, l_84, l_95, l_96, l_100, l_112, l_119, l_120, l_127, l_140, l_700, l_840, l_999, l_4095, l_999999, ↓l_m1, ↓l_m2, ↓l_m3, ↓l_m4, ↓l_m10, ↓l_m10000, nI_leI, nI_ltI, nI_eq, mI_le, mI_lt, le_mI, lt_mI, mI_eq, eq_mI, nI_add, pk_mul, pk_sub, pk_div, nI_clamp, md_eq, Nat.zero_le, true_and, and_true, and_self, if_pos, if_neg, Option.bind_some, bnd_some, Sum.elim_inl, Sum.elim_inr, ↓reduceIte]
          · simp (disch := omega) only [fX7_digest_L71, l_0, l_1, l_2, l_3, l_4, l_5, l_6, l_7, l_8, l_9, l_10, l_11, l_12, l_13, l_14, l_15, l_16, l_17, l_18, l_19, l_20, l_21, l_24, l_28, l_31, l_32, l_33, l_45, l_47, l_48, l_57, l_59, l_84, l_95, l_96, l_100, l_112, l_119, l_120, l_127, l_140, l_700, l_840, l_999, l_4095, l_999999, ↓l_m1, ↓l_m2, ↓l_m3, ↓l_m4, ↓l_m10, ↓l_m10000, nI_leI, nI_ltI, nI_eq, mI_le, mI_lt, le_mI, lt_mI, mI_eq, eq_mI, nI_add, pk_mul, pk_sub, pk_div, nI_clamp, md_eq, Nat.zero_le, true_and, and_true, and_self, if_pos, if_neg, Option.bind_some, bnd_some, Sum.elim_inl, Sum.elim_inr, ↓reduceIte])
      subst i3 i4
      have m6 := hB.1.2.1
      have m7 := (TR_SM hB.2.1 hs).1
      refine ⟨(y3, nI (i + 1)), (y3, nI (i + 1), τ3), ?_, ?_, _, rfl, τ3, rfl, i5⟩
      · simp (disch := omega) only [fX6_digest_L70, m6, i1, l_0, l_1, l_2, l_3, l_4, l_5, l_6, l_7, l_8, l_9, l_10, l_11, l_12, l_13, l_14, l_15, l_16, l_17, l_18, l_19, l_20, l_21, l_24, l_28, l_31, l_32, l_33, l_45, l_47, l_48, l_57, l_59, l_84, l_95, l_96, l_100, l_112, l_119, l_120, l_127, l_140, l_700, l_840, l_999, l_4095, l_999999, ↓l_m1, ↓l_m2, ↓l_m3, ↓l_m4, ↓l_m10, ↓l_m10000, nI_leI, nI_ltI, nI_eq, mI_le, mI_lt, le_mI, lt_mI, mI_eq, eq_mI, nI_add, pk_mul, pk_sub, pk_div, nI_clamp, md_eq, Nat.zero_le, true_and, and_true, and_self, if_pos, if_neg, Option.bind_some, bnd_some, Sum.elim_inl, Sum.elim_inr, ↓reduceIte]
      · simp (disch := omega) only [fX7_digest_L60, m7, i2, l_0, l_1, l_2, l_3, l_4, l_5, l_6, l_7, l_8, l_9, l_10, l_11, l_12, l_13, l_14, l_15, l_16, l_17, l_18, l_19, l_20, l_21, l_24, l_28, l_31, l_32, l_33, l_45, l_47, l_48, l_57, l_59, l_84, l_95, l_96, l_100, l_112, l_119, l_120, l_127, l_140, l_700, l_840, l_999, l_4095, l_999999, ↓l_m1, ↓l_m2, ↓l_m3, ↓l_m4, ↓l_m10, ↓l_m10000, nI_leI, nI_ltI, nI_eq, mI_le, mI_lt, le_mI, lt_mI, mI_eq, eq_mI, nI_add, pk_mul, pk_sub, pk_div, nI_clamp, md_eq, Nat.zero_le, true_and, and_true, and_self, if_pos, if_neg, Option.bind_some, bnd_some, Sum.elim_inl, Sum.elim_inr, ↓reduceIte])
    (by
      rintro s t ⟨y, rfl, τ1, rfl, hs⟩
      have m6 := hB.1.2.1
      have m7 := (TR_SM hB.2.1 hs).1
      refine ⟨(y, nI M.n), (y, nI M.n, τ1), ?_, ?_, _, rfl, τ1, rfl, hs⟩
      · simp (disch := omega) only [fX6_digest_L70, m6, l_0, l_1, l_2, l_3, l_4, l_5, l_6, l_7, l_8, l_9, l_10, l_11, l_12, l_13, l_14, l_15, l_16, l_17, l_18, l_19, l_20, l_21, l_24, l_28, l_31, l_32, l_33, l_45, l_47, l_48, l_57, l_59, l_84, l_95, l_96, l_100, l_112, l_119, l_120, l_127, l_140, l_700, l_840, l_999, l_4095, l_999999, ↓l_m1, ↓l_m2, ↓l_m3, ↓l_m4, ↓l_m10, ↓l_m10000, nI_leI, nI_ltI, nI_eq, mI_le, mI_lt, le_mI, lt_mI, mI_eq, eq_mI, nI_add, pk_mul, pk_sub, pk_div, nI_clamp, md_eq, Nat.zero_le, true_and, and_true, and_self, if_pos, if_neg, Option.bind_some, bnd_some, Sum.elim_inl, Sum.elim_inr, ↓reduceIte]
      · simp (disch := omega) only [fX7_digest_L60, m7, l_0, l_1, l_2, l_3, l_4, l_5, l_6, l_7, l_8, l_9, l_10, l_11, l_12, l_13, l_14, l_15, l_16, l_17, l_18, l_19, l_20, l_21, l_24, l_28, l_31, l_32, l_33, l_45, l_47, l_48, l_57, l_59, l_84, l_95, l_96, l_100, l_112, l_119, l_120, l_127, l_140, l_700, l_840, l_999, l_4095, l_999999, ↓l_m1, ↓l_m2, ↓l_m3, ↓l_m4, ↓l_m10, ↓l_m10000, nI_leI, nI_ltI, nI_eq, mI_le, mI_lt, le_mI, lt_mI, mI_eq, eq_mI, nI_add, pk_mul, pk_sub, pk_div, nI_clamp, md_eq, Nat.zero_le, true_and, and_true, and_self, if_pos, if_neg, Option.bind_some, bnd_some, Sum.elim_inl, Sum.elim_inr, ↓reduceIte])
  subst g3 g4
  have hgr := TR_GR (TR_SM hB.2.1 g5) hB.1.1
  obtain ⟨y4, k1, k2⟩ := dig1 (stp := fX6_digest_L119 σ) (stp' := fX7_digest_L106 (y3, nI M.n, τ3)) (n := 96) (g := fun i => some (σ.1.1 i.toNatClampNeg)) (f := fun i => some (σ.1.1 i.toNatClampNeg)) (by omega)
    (by
      intro x i hi
      have w6 := hB.1.2.2.2.2.2.2 i hi
      have w7 := (hgr.2.2.2.1 i hi).1
      refine ⟨nI (M.wt i), ?_, ?_, ?_, ?_⟩
      · simp (disch := omega) only [w6, nI_clamp]
      · simp (disch := omega) only [w6, nI_clamp]
      · simp (disch := omega) only [fX6_digest_L119, w6, l_0, l_1, l_2, l_3, l_4, l_5, l_6, l_7, l_8, l_9, l_10, l_11, l_12, l_13, l_14, l_15, l_16, l_17, l_18, l_19, l_20, l_21, l_24, l_28, l_31, l_32, l_33, l_45, l_47, l_48, l_57, l_59, l_84, l_95, l_96, l_100, l_112, l_119, l_120, l_127, l_140, l_700, l_840, l_999, l_4095, l_999999, ↓l_m1, ↓l_m2, ↓l_m3, ↓l_m4, ↓l_m10, ↓l_m10000, nI_leI, nI_ltI, nI_eq, mI_le, mI_lt, le_mI, lt_mI, mI_eq, eq_mI, nI_add, pk_mul, pk_sub, pk_div, nI_clamp, md_eq, Nat.zero_le, true_and, and_true, and_self, if_pos, if_neg, Option.bind_some, bnd_some, Sum.elim_inl, Sum.elim_inr, ↓reduceIte]
      · simp (disch := omega) only [fX7_digest_L106, w7, l_0, l_1, l_2, l_3, l_4, l_5, l_6, l_7, l_8, l_9, l_10, l_11, l_12, l_13, l_14, l_15, l_16, l_17, l_18, l_19, l_20, l_21, l_24, l_28, l_31, l_32, l_33, l_45, l_47, l_48, l_57, l_59, l_84, l_95, l_96, l_100, l_112, l_119, l_120, l_127, l_140, l_700, l_840, l_999, l_4095, l_999999, ↓l_m1, ↓l_m2, ↓l_m3, ↓l_m4, ↓l_m10, ↓l_m10000, nI_leI, nI_ltI, nI_eq, mI_le, mI_lt, le_mI, lt_mI, mI_eq, eq_mI, nI_add, pk_mul, pk_sub, pk_div, nI_clamp, md_eq, Nat.zero_le, true_and, and_true, and_self, if_pos, if_neg, Option.bind_some, bnd_some, Sum.elim_inl, Sum.elim_inr, ↓reduceIte])
    (by
      intro x
      constructor
      · simp (disch := omega) only [fX6_digest_L119, l_0, l_1, l_2, l_3, l_4, l_5, l_6, l_7, l_8, l_9, l_10, l_11, l_12, l_13, l_14, l_15, l_16, l_17, l_18, l_19, l_20, l_21, l_24, l_28, l_31, l_32, l_33, l_45, l_47, l_48, l_57, l_59, l_84, l_95, l_96, l_100, l_112, l_119, l_120, l_127, l_140, l_700, l_840, l_999, l_4095, l_999999, ↓l_m1, ↓l_m2, ↓l_m3, ↓l_m4, ↓l_m10, ↓l_m10000, nI_leI, nI_ltI, nI_eq, mI_le, mI_lt, le_mI, lt_mI, mI_eq, eq_mI, nI_add, pk_mul, pk_sub, pk_div, nI_clamp, md_eq, Nat.zero_le, true_and, and_true, and_self, if_pos, if_neg, Option.bind_some, bnd_some, Sum.elim_inl, Sum.elim_inr, ↓reduceIte]
      · simp (disch := omega) only [fX7_digest_L106, l_0, l_1, l_2, l_3, l_4, l_5, l_6, l_7, l_8, l_9, l_10, l_11, l_12, l_13, l_14, l_15, l_16, l_17, l_18, l_19, l_20, l_21, l_24, l_28, l_31, l_32, l_33, l_45, l_47, l_48, l_57, l_59, l_84, l_95, l_96, l_100, l_112, l_119, l_120, l_127, l_140, l_700, l_840, l_999, l_4095, l_999999, ↓l_m1, ↓l_m2, ↓l_m3, ↓l_m4, ↓l_m10, ↓l_m10000, nI_leI, nI_ltI, nI_eq, mI_le, mI_lt, le_mI, lt_mI, mI_eq, eq_mI, nI_add, pk_mul, pk_sub, pk_div, nI_clamp, md_eq, Nat.zero_le, true_and, and_true, and_self, if_pos, if_neg, Option.bind_some, bnd_some, Sum.elim_inl, Sum.elim_inr, ↓reduceIte]) y3
  refine ⟨y4, _, τ3, ?_, ?_, Rel_SM hB g5 b1 σ.2.2.2.2.1⟩
  · simp only [fX6_digest, e1, bnd_some, d1, f1, g1, k1]
  · simp only [fX7_digest, bnd_some, d2, f2, g2, k2]
