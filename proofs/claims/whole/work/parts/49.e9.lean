/-! cut -/
theorem bsz_mono {z : Nat} {cl : Nat → Nat} {wl S T : Nat → Bool} {c : Nat} (h : ∀ i, S i = true → T i = true) : ∀ k, (bsz z cl wl T c k).2 ≤ (bsz z cl wl S c k).2
  | 0 => Nat.le_refl _
  | k + 1 => by
    have ih := bsz_mono (z := z) (cl := cl) (wl := wl) (c := c) h k
    simp only [bsz]
    by_cases h1 : S k = true ∧ (cntW wl 0 (cl k / 12) = cntW wl 0 (c / 12) ∧ cntW wl 10 (cl k % 12) = cntW wl 10 (c % 12)) ∧ dist (cl k) c < (bsz z cl wl S c k).2
    · rw [if_pos h1]
      by_cases h2 : T k = true ∧ (cntW wl 0 (cl k / 12) = cntW wl 0 (c / 12) ∧ cntW wl 10 (cl k % 12) = cntW wl 10 (c % 12)) ∧ dist (cl k) c < (bsz z cl wl T c k).2
      · rw [if_pos h2]; exact Nat.le_refl _
      · rw [if_neg h2]
        rcases Nat.lt_or_ge (dist (cl k) c) (bsz z cl wl T c k).2 with q | q
        · exact absurd ⟨h k h1.1, h1.2.1, q⟩ h2
        · exact q
    · rw [if_neg h1]
      by_cases h2 : T k = true ∧ (cntW wl 0 (cl k / 12) = cntW wl 0 (c / 12) ∧ cntW wl 10 (cl k % 12) = cntW wl 10 (c % 12)) ∧ dist (cl k) c < (bsz z cl wl T c k).2
      · rw [if_pos h2]
        have := h2.2.2
        show dist (cl k) c ≤ _
        omega
      · rw [if_neg h2]; exact ih
theorem bsz_keep {z : Nat} {cl : Nat → Nat} {wl S T : Nat → Bool} {c p : Nat} (h : ∀ i, S i = true → T i = true) (hp : S p = true) : ∀ k, (bsz z cl wl T c k).1 = p → bsz z cl wl S c k = bsz z cl wl T c k
  | 0, _ => rfl
  | k + 1, he => by
    have ih := bsz_keep (z := z) (cl := cl) (wl := wl) (c := c) h hp k
    have hm := bsz_mono (z := z) (cl := cl) (wl := wl) (c := c) h k
    by_cases h2 : T k = true ∧ (cntW wl 0 (cl k / 12) = cntW wl 0 (c / 12) ∧ cntW wl 10 (cl k % 12) = cntW wl 10 (c % 12)) ∧ dist (cl k) c < (bsz z cl wl T c k).2
    · rw [bsz_t h2.1 h2.2.1 h2.2.2] at he ⊢
      have hk : k = p := he
      subst hk
      exact bsz_t hp h2.2.1 (by have := h2.2.2; omega)
    · rw [bsz_f h2] at he ⊢
      have ih := ih he
      rw [bsz_f (fun q => h2 ⟨h k q.1, q.2.1, by rw [← ih]; exact q.2.2⟩)]
      exact ih
theorem ldN_mono {w b b' : Nat → Nat} {p : Nat} (h : ∀ c, b c = p → b' c = p) : ∀ k, ldN w b p k ≤ ldN w b' p k
  | 0 => Nat.le_refl _
  | k + 1 => by
    have ih := ldN_mono (w := w) h k
    simp only [ldN]
    by_cases h1 : b k = p
    · rw [if_pos h1, if_pos (h k h1)]; omega
    · rw [if_neg h1]; omega
theorem load_anti {M : AM} {S T : Nat → Bool} (h : ∀ i, S i = true → T i = true) {p : Nat} (hp : S p = true) : load M T p ≤ load M S p := by
  unfold load
  refine ldN_mono (fun c hc => ?_) 96
  unfold br at hc ⊢
  rw [bsz_keep h hp 13 hc]
  exact hc
theorem it_big {M : AM} {S G : Nat → Bool} (hG : ∀ i, G i = true → S i = true) (hst : stb M G) : ∀ k i, G i = true → it M S k i = true
  | 0, i, hi => hG i hi
  | k + 1, i, hi => by
    have ih := it_big (M := M) hG hst k
    have h1 := ih i hi
    have h2 := load_anti (M := M) (S := G) (T := it M S k) ih hi
    have h3 := hst i
    unfold tm at h3
    rw [hi, Bool.true_and] at h3
    have h3 := of_decide_eq_false h3
    show nx M (it M S k) i = true
    unfold nx tm
    rw [h1, decide_eq_false (by omega)]
    rfl
theorem cnt_same {F G : Nat → Bool} (h : ∀ i, F i = true → G i = true) : ∀ n, cntB F n ≤ cntB G n ∧ (cntB F n = cntB G n → ∀ i, i < n → F i = G i)
  | 0 => ⟨Nat.le_refl _, fun _ i hi => absurd hi (by omega)⟩
  | n + 1 => by
    obtain ⟨i1, i2⟩ := cnt_same h n
    simp only [cntB]
    cases hf : F n
    · cases hg : G n
      · simp only [Bool.false_eq_true, if_false]
        refine ⟨by omega, fun q i hi => ?_⟩
        by_cases hin : i = n
        · subst hin; rw [hf, hg]
        · exact i2 (by omega) i (by omega)
      · simp only [Bool.false_eq_true, if_false, if_true]
        exact ⟨by omega, fun q => absurd q (by omega)⟩
    · rw [h n hf]
      simp only [if_true]
      refine ⟨by omega, fun q i hi => ?_⟩
      by_cases hin : i = n
      · subst hin; rw [hf, h i hf]
      · exact i2 (by omega) i (by omega)
def cutM (M : AM) (p k : Nat) : AM := mkAM M.n M.cl (fun i => if i = p then M.sg p - k else M.sg i) M.up M.wl M.wt
theorem cut_iff {M : AM} {S F G : Nat → Bool} {p k w v : Nat} (hSn : ∀ i, M.n ≤ i → S i = false) (hp : p < M.n) (hF : F = it M S w) (hw : Wv M S w) (hG : G = it (cutM M p k) S v) (hv : Wv (cutM M p k) S v) (hk : k ≤ M.sg p) : cntB G M.n = cntB F M.n ↔ k ≤ (if F p = true then M.sg p - load M F p else M.sg p) := by
  have sF : stb M F := by rw [hF]; exact hw.1
  have sG : stb (cutM M p k) G := by rw [hG]; exact hv.1
  have hFS : ∀ i, F i = true → S i = true := fun i hi => it_sub w (by rw [← hF]; exact hi)
  have hGS : ∀ i, G i = true → S i = true := fun i hi => it_sub v (by rw [← hG]; exact hi)
  have sGM : stb M G := fun i => by
    have := sG i
    unfold tm at this ⊢
    cases hi : G i
    · rfl
    · rw [hi, Bool.true_and] at this
      have h1 := of_decide_eq_false this
      have h2 : (cutM M p k).sg i ≤ M.sg i := by
        show (if i = p then M.sg p - k else M.sg i) ≤ _
        split
        · rename_i e; subst e; omega
        · exact Nat.le_refl _
      have h3 : load (cutM M p k) G i = load M G i := rfl
      rw [h3] at h1
      rw [Bool.true_and]
      exact decide_eq_false (by omega)
  have hGF : ∀ i, G i = true → F i = true := fun i hi => by rw [hF]; exact it_big hGS sGM w i hi
  have hcs := cnt_same hGF M.n
  have hback : stb (cutM M p k) F → cntB G M.n = cntB F M.n := fun q => by
    have hFG : ∀ i, F i = true → G i = true := fun i hi => by rw [hG]; exact it_big hFS q v i hi
    have := cnt_same hFG M.n
    omega
  have hstF : ∀ i, ¬ i = p → tm (cutM M p k) F i = false := fun i hi => by
    have := sF i
    unfold tm at this ⊢
    have e : (cutM M p k).sg i = M.sg i := by
      show (if i = p then M.sg p - k else M.sg i) = _
      rw [if_neg hi]
    rw [e]
    exact this
  have hsp : (cutM M p k).sg p = M.sg p - k := by
    show (if p = p then M.sg p - k else M.sg p) = _
    rw [if_pos rfl]
  cases hpF : F p
  · rw [if_neg (by simp)]
    refine ⟨fun _ => hk, fun _ => hback (fun i => ?_)⟩
    by_cases hip : i = p
    · subst hip; unfold tm; rw [hpF]; rfl
    · exact hstF i hip
  · rw [if_pos rfl]
    constructor
    · intro he
      have hGp : G p = true := by rw [hcs.2 he p hp]; exact hpF
      have hGeq : G = F := funext (fun i => by
        rcases Nat.lt_or_ge i M.n with q | q
        · exact hcs.2 he i q
        · have a1 : G i = false := by
            cases e : G i
            · rfl
            · have := hGS i e; rw [hSn i q] at this; cases this
          have a2 : F i = false := by
            cases e : F i
            · rfl
            · have := hFS i e; rw [hSn i q] at this; cases this
          rw [a1, a2])
      have h1 := sG p
      rw [hGeq] at h1
      unfold tm at h1
      rw [hpF, Bool.true_and, hsp] at h1
      have h1 : ¬ M.sg p - k < load M F p := of_decide_eq_false h1
      omega
    · intro hka
      refine hback (fun i => ?_)
      by_cases hip : i = p
      · subst hip
        have h1 := sF i
        unfold tm at h1 ⊢
        rw [hpF, Bool.true_and] at h1 ⊢
        have h1 := of_decide_eq_false h1
        rw [hsp]
        have h3 : load (cutM M i k) F i = load M F i := rfl
        rw [h3]
        exact decide_eq_false (by omega)
      · exact hstF i hip
theorem leftCut_ok {τ : S7} {M : AM} (h : TR τ M) (hM : OK M) {p k : Nat} (hp : p < M.n) (hk : k ≤ M.sg p) : ∃ v τ1, Wv (cutM M p k) M.up v ∧ fX7_leftCut τ (nI p) (nI k) = some (nI (cntB (it (cutM M p k) M.up v) M.n), τ1) ∧ SM τ τ1 := by
  have hn := hM.1
  have hgr := TR_GR h hM
  have hsp := h.2.2.1 p hp
  have hsl := hM.2.2.1 p hp
  have hgr' : GR (τ.1, τ.2.1, τ.2.2.1, τ.2.2.2.1, upd τ.2.2.2.2.1 p (nI (M.sg p - k)), τ.2.2.2.2.2) (cutM M p k) M.up := by
    refine ⟨hgr.1, hgr.2.1, fun i hi hu => ?_, hgr.2.2.2⟩
    show upd τ.2.2.2.2.1 p (nI (M.sg p - k)) i = nI (if i = p then M.sg p - k else M.sg i) ∧ (if i = p then M.sg p - k else M.sg i) ≤ 999
    by_cases hip : i = p
    · subst hip
      rw [upd_same, if_pos rfl]
      exact ⟨rfl, by omega⟩
    · rw [upd_ne _ _ _ _ hip, if_neg hip]
      exact hgr.2.2.1 i hi hu
  obtain ⟨y, τ1, v, g1, ⟨f, g, a, b, rfl⟩, g3, g4, g5⟩ := left_ok hgr' h.2.2.2.1
  have hitn : ∀ i, M.n ≤ i → it (cutM M p k) M.up v i = false := fun i hi => by
    cases e : it (cutM M p k) M.up v i
    · rfl
    · have := it_sub v e; rw [hM.2.2.2.1 i hi] at this; cases this
  have ho := ones_ok g4
  rw [cnt_12 hn hitn] at ho
  refine ⟨v, _, g3, ?_, ⟨f, g, a, b, rfl⟩⟩
  have hback : upd (upd τ.2.2.2.2.1 p (nI (M.sg p - k))) p (nI (M.sg p)) = τ.2.2.2.2.1 := funext (fun i => by
    by_cases hip : i = p
    · subst hip; rw [upd_same, hsp]
    · rw [upd_ne _ _ _ _ hip, upd_ne _ _ _ _ hip])
  have hsub : M.sg p - k + k = M.sg p := by omega
  simp (disch := omega) only [fX7_leftCut, nI_clamp, nI_leI, l_0, Nat.zero_le, true_and, if_pos, hsp, pk_sub, g1, bnd_some, ho, upd_same, nI_add, hsub, hback]
theorem E_cut : E1 Rel fX6_cut fX7_cut := by
  intro σ τ x h
  have hh := h
  obtain ⟨M, k, H, w, V, tl, tx, hB⟩ := hh
  have hn := hB.1.1.1
  rcases wp hB.1 hB.2.1 x with ⟨p, hp, rfl, p1, p2⟩ | ⟨a1, a2⟩
  · have st6 := isStanding_ok hB.1 (p := p) (by omega)
    have st7 := stands_ok hB.2.1 (j := p) (by omega)
    cases hu : M.up p
    · rw [hu, bI_f] at st6 st7
      obtain ⟨σ1, τ1, e3, e4, e5⟩ := no_ok h
      refine ⟨mI3, σ1, τ1, ?_, ?_, e5⟩
      · simp (disch := omega) only [fX6_cut, p1, st6, e3, l_0, l_1, nI_eq, ↓reduceIte, bnd_some, or_true, true_or, if_pos, if_neg, ↓l_m1, ↓l_m2, ↓l_m3, ↓l_m4]
      · simp (disch := omega) only [fX7_cut, p2, st7, e4, l_0, l_1, nI_eq, ↓reduceIte, bnd_some, or_true, true_or, if_pos, if_neg, ↓l_m1, ↓l_m2, ↓l_m3, ↓l_m4]
    · rw [hu, bI_t] at st6 st7
      have hSn := hB.1.1.2.2.2.1
      have hsg := hB.1.1.2.2.1 p hp
      have hs6 := hB.1.2.2.2.1 p hp
      obtain ⟨m0, c1, c2⟩ := copy_ok hB.1 σ.2.2.2.2.1.1
      obtain ⟨v, r1, m1, b1, e1, e2, e3, e4, e5, e6, e7⟩ := crush_ok (M := M) (S := M.up) c2 σ.2.2.2.2.1.2.2 σ.2.2.2.2.1.2.1
      obtain ⟨F, hF⟩ : ∃ F, F = it M M.up v := ⟨_, rfl⟩
      rw [← hF] at e5 e6
      have sF : stb M F := by rw [hF]; exact e2.1
      have hst1 := isStanding_ok e5 (p := p) (by omega)
      have hst1 : fX1_isStanding m1 (nI p) = some (bI (F p)) := hst1
      have hld := e6.2.1 p (by omega)
      have hld : b1.2.2.1 p = nI (load M F p) := hld
      obtain ⟨A, hA⟩ : ∃ A, A = if F p = true then M.sg p - load M F p else M.sg p := ⟨_, rfl⟩
      have hAle : A ≤ M.sg p := by rw [hA]; split <;> omega
      have hcut : ∀ j v, j ≤ M.sg p → Wv (cutM M p j) M.up v → (cntB (it (cutM M p j) M.up v) M.n = cntB F M.n ↔ j ≤ A) := fun j v hj hv => by
        rw [hA]
        exact cut_iff hSn hp hF e2 rfl hv hj
      have c6 : fX6_cut σ (nI p) = some (nI A, (σ.1, σ.2.1, σ.2.2.1, σ.2.2.2.1, (m1, b1, r1), σ.2.2.2.2.2)) := by
        cases hq : F p
        · rw [hq, bI_f] at hst1
          rw [hq] at hA
          have hA' : A = M.sg p := by rw [hA]; simp
          rw [hA']
          simp (disch := omega) only [fX6_cut, p1, st6, fX5_start, fX5_crush, c1, e1, hst1, hs6, nI_clamp, nI_leI, Nat.zero_le, true_and, l_0, l_1, nI_eq, ↓reduceIte, bnd_some, or_true, true_or, if_pos, if_neg, ↓l_m1, ↓l_m2, ↓l_m3, ↓l_m4]
        · rw [hq, bI_t] at hst1
          rw [hq, if_pos rfl] at hA
          have h3 := sF p
          unfold tm at h3
          rw [hq, Bool.true_and] at h3
          have h3 := of_decide_eq_false h3
          rw [hA]
          simp (disch := omega) only [fX6_cut, p1, st6, fX5_start, fX5_crush, c1, e1, hst1, hs6, hld, nI_clamp, nI_leI, Nat.zero_le, true_and, pk_sub, l_0, l_1, nI_eq, ↓reduceIte, bnd_some, or_true, true_or, if_pos, if_neg, ↓l_m1, ↓l_m2, ↓l_m3, ↓l_m4]
      obtain ⟨v0, τ0, w1, w2, w3⟩ := leftCut_ok hB.2.1 hB.1.1 hp (k := 0) (by omega)
      have w4 := (hcut 0 v0 (by omega) w1).mpr (by omega)
      rw [w4] at w2
      have hcF := cntB_le F M.n
      obtain ⟨z, l1, l2, l3⟩ := loopM (step := fX7_cut_L43 (nI p) (nI (cntB F M.n), τ0)) (fun (q : Int32 × Int32 × S7) => ∃ lo hi, q.1 = nI lo ∧ q.2.1 = nI hi ∧ lo ≤ A ∧ A ≤ hi ∧ hi ≤ M.sg p ∧ SM τ q.2.2) (fun q => q.2.1.toNatClampNeg - q.1.toNatClampNeg) (fun (q : Int32 × Int32 × S7) => q.1 = nI A ∧ SM τ q.2.2)
        (by
          rintro ⟨x, y, τ1⟩ ⟨lo, hi, rfl, rfl, i1, i2, i3, i4⟩
          by_cases hle : hi ≤ lo
          · refine Or.inr ⟨(nI lo, nI hi, τ1), ?_, ?_, i4⟩
            · simp (disch := omega) only [fX7_cut_L43, l_0, l_1, l_2, l_3, l_4, l_5, l_6, l_7, l_8, l_9, l_10, l_11, l_12, l_13, l_14, l_15, l_16, l_17, l_18, l_19, l_20, l_21, l_24, l_28, l_31, l_32, l_33, l_45, l_47, l_48, l_57, l_59, l_84, l_95, l_96, l_100, l_112, l_119, l_120, l_127, l_140, l_700, l_840, l_999, l_4095, l_999999, ↓l_m1, ↓l_m2, ↓l_m3, ↓l_m4, ↓l_m10, ↓l_m10000, nI_leI, nI_ltI, nI_eq, mI_le, mI_lt, le_mI, lt_mI, mI_eq, eq_mI, nI_add, pk_mul, pk_sub, pk_div, nI_clamp, md_eq, Nat.zero_le, true_and, and_true, and_self, if_pos, if_neg, Option.bind_some, bnd_some, Sum.elim_inl, Sum.elim_inr, ↓reduceIte]
            · show nI lo = nI A
              rw [show lo = A by omega]
          · obtain ⟨v1, τ2, u1, u2, u3⟩ := leftCut_ok (TR_SM hB.2.1 i4) hB.1.1 hp (k := (lo + hi + 1) / 2) (by omega)
            have u4 := hcut _ v1 (by omega) u1
            have hc1 := cntB_le (it (cutM M p ((lo + hi + 1) / 2)) M.up v1) M.n
            by_cases hmid : (lo + hi + 1) / 2 ≤ A
            · rw [u4.mpr hmid] at u2
              refine Or.inl ⟨(nI ((lo + hi + 1) / 2), nI hi, τ2), ?_, ⟨_, _, rfl, rfl, hmid, i2, i3, SM_tr i4 u3⟩, ?_⟩
              · simp (disch := omega) only [fX7_cut_L43, u2, l_0, l_1, l_2, l_3, l_4, l_5, l_6, l_7, l_8, l_9, l_10, l_11, l_12, l_13, l_14, l_15, l_16, l_17, l_18, l_19, l_20, l_21, l_24, l_28, l_31, l_32, l_33, l_45, l_47, l_48, l_57, l_59, l_84, l_95, l_96, l_100, l_112, l_119, l_120, l_127, l_140, l_700, l_840, l_999, l_4095, l_999999, ↓l_m1, ↓l_m2, ↓l_m3, ↓l_m4, ↓l_m10, ↓l_m10000, nI_leI, nI_ltI, nI_eq, mI_le, mI_lt, le_mI, lt_mI, mI_eq, eq_mI, nI_add, pk_mul, pk_sub, pk_div, nI_clamp, md_eq, Nat.zero_le, true_and, and_true, and_self, if_pos, if_neg, Option.bind_some, bnd_some, Sum.elim_inl, Sum.elim_inr, ↓reduceIte]
              · show (nI hi).toNatClampNeg - (nI ((lo + hi + 1) / 2)).toNatClampNeg < (nI hi).toNatClampNeg - (nI lo).toNatClampNeg
                rw [nI_clamp (by omega), nI_clamp (by omega), nI_clamp (by omega)]
                omega
            · have u5 : ¬ cntB (it (cutM M p ((lo + hi + 1) / 2)) M.up v1) M.n = cntB F M.n := fun q => hmid (u4.mp q)
              refine Or.inl ⟨(nI lo, nI ((lo + hi + 1) / 2 - 1), τ2), ?_, ⟨_, _, rfl, rfl, i1, by omega, by omega, SM_tr i4 u3⟩, ?_⟩
              · simp (disch := omega) only [fX7_cut_L43, u2, u5, l_0, l_1, l_2, l_3, l_4, l_5, l_6, l_7, l_8, l_9, l_10, l_11, l_12, l_13, l_14, l_15, l_16, l_17, l_18, l_19, l_20, l_21, l_24, l_28, l_31, l_32, l_33, l_45, l_47, l_48, l_57, l_59, l_84, l_95, l_96, l_100, l_112, l_119, l_120, l_127, l_140, l_700, l_840, l_999, l_4095, l_999999, ↓l_m1, ↓l_m2, ↓l_m3, ↓l_m4, ↓l_m10, ↓l_m10000, nI_leI, nI_ltI, nI_eq, mI_le, mI_lt, le_mI, lt_mI, mI_eq, eq_mI, nI_add, pk_mul, pk_sub, pk_div, nI_clamp, md_eq, Nat.zero_le, true_and, and_true, and_self, if_pos, if_neg, Option.bind_some, bnd_some, Sum.elim_inl, Sum.elim_inr, ↓reduceIte]
              · show (nI ((lo + hi + 1) / 2 - 1)).toNatClampNeg - (nI lo).toNatClampNeg < (nI hi).toNatClampNeg - (nI lo).toNatClampNeg
                rw [nI_clamp (by omega), nI_clamp (by omega), nI_clamp (by omega)]
                omega) 5000 (nI 0, nI (M.sg p), τ0) ⟨0, M.sg p, rfl, rfl, by omega, hAle, by omega, w3⟩ (by
          show (nI (M.sg p)).toNatClampNeg - (nI 0).toNatClampNeg < 5000
          rw [nI_clamp (by omega), nI_clamp (by omega)]
          omega)
      have hs7 := (TR_SM hB.2.1 w3).2.2.1 p hp
      refine ⟨nI A, _, z.2.2, c6, ?_, Rel_SM hB l3 σ.2.1 (m1, b1, r1)⟩
      simp (disch := omega) only [fX7_cut, p2, st7, w2, nI_clamp, nI_leI, Nat.zero_le, true_and, hs7, l1, l2, l_0, l_1, nI_eq, ↓reduceIte, bnd_some, or_true, true_or, if_pos, if_neg, ↓l_m1, ↓l_m2, ↓l_m3, ↓l_m4]
  · obtain ⟨σ1, τ1, e3, e4, e5⟩ := bad_ok h
    refine ⟨mI2, σ1, τ1, ?_, ?_, e5⟩
    · simp (disch := omega) only [fX6_cut, a1, e3, l_0, l_1, nI_eq, ↓reduceIte, bnd_some, or_true, true_or, if_pos, if_neg, ↓l_m1, ↓l_m2, ↓l_m3, ↓l_m4]
    · simp (disch := omega) only [fX7_cut, a2, e4, l_0, l_1, nI_eq, ↓reduceIte, bnd_some, or_true, true_or, if_pos, if_neg, ↓l_m1, ↓l_m2, ↓l_m3, ↓l_m4]
