/-! bestCell -/
def CR (n : Nat) (S T : Nat → Bool) : Prop := (∀ i, i < n → T i = S i) ∧ T 12 = S n ∧ (∀ i, n ≤ i → i ≠ 12 → T i = false) ∧ (∀ i, n < i → S i = false)
def M12 (M : AM) (c s : Nat) : AM := mkAM M.n (fun p => if p = 12 then c else M.cl p) (fun p => if p = 12 then s else M.sg p) M.up M.wl M.wt
theorem bsz_cong {z : Nat} {cl cl' : Nat → Nat} {wl S T : Nat → Bool} {x : Nat} : ∀ k, (∀ i, i < k → cl i = cl' i ∧ S i = T i) → bsz z cl wl S x k = bsz z cl' wl T x k
  | 0, _ => rfl
  | k + 1, h => by
    have ih := bsz_cong (z := z) (wl := wl) (x := x) k (fun i hi => h i (by omega))
    obtain ⟨h1, h2⟩ := h k (by omega)
    simp only [bsz, ih, h1, h2]
theorem bsz_skip {z : Nat} {cl : Nat → Nat} {wl S : Nat → Bool} {x k : Nat} : ∀ j, (∀ p, k ≤ p → p < k + j → S p = false) → bsz z cl wl S x (k + j) = bsz z cl wl S x k
  | 0, _ => rfl
  | j + 1, h => by
    rw [show k + (j + 1) = (k + j) + 1 by omega, bsz_f (fun q => by have := h (k + j) (by omega) (by omega); rw [this] at q; cases q.1)]
    exact bsz_skip j (fun p h1 h2 => h p h1 (by omega))
theorem br_12 {M : AM} {c s : Nat} {S T : Nat → Bool} (hn : M.n < 12) (h : CR M.n S T) (x : Nat) : br (M12 M c s).cl (M12 M c s).wl T x = (if br (addAM M c s).cl (addAM M c s).wl S x = M.n then 12 else br (addAM M c s).cl (addAM M c s).wl S x) ∧ (br (addAM M c s).cl (addAM M c s).wl S x = 13 ∨ br (addAM M c s).cl (addAM M c s).wl S x ≤ M.n) := by
  obtain ⟨h1, h2, h3, h4⟩ := h
  have a1 : bsz 999 (M12 M c s).cl M.wl T x M.n = bsz 999 (addAM M c s).cl M.wl S x M.n := bsz_cong M.n (fun i hi => ⟨by
    show (if i = 12 then c else M.cl i) = (if i = M.n then c else M.cl i)
    rw [if_neg (by omega), if_neg (by omega)], h1 i hi⟩)
  have a2 : bsz 999 (M12 M c s).cl M.wl T x 12 = bsz 999 (M12 M c s).cl M.wl T x M.n := by
    have := bsz_skip (z := 999) (cl := (M12 M c s).cl) (wl := M.wl) (S := T) (x := x) (k := M.n) (12 - M.n) (fun p q1 q2 => h3 p q1 (by omega))
    rw [show M.n + (12 - M.n) = 12 by omega] at this
    exact this
  have a3 : bsz 999 (addAM M c s).cl M.wl S x 13 = bsz 999 (addAM M c s).cl M.wl S x (M.n + 1) := by
    have := bsz_skip (z := 999) (cl := (addAM M c s).cl) (wl := M.wl) (S := S) (x := x) (k := M.n + 1) (12 - M.n) (fun p q1 q2 => h4 p (by omega))
    rw [show M.n + 1 + (12 - M.n) = 13 by omega] at this
    exact this
  have c1 : (M12 M c s).cl 12 = c := by show (if 12 = 12 then c else M.cl 12) = c; rw [if_pos rfl]
  have c2 : (addAM M c s).cl M.n = c := by show (if M.n = M.n then c else M.cl M.n) = c; rw [if_pos rfl]
  have w1 : (M12 M c s).wl = M.wl := rfl
  have w2 : (addAM M c s).wl = M.wl := rfl
  have hb := bsz_best 999 (addAM M c s).cl M.wl S x M.n
  unfold br
  rw [w1, w2, a3]
  by_cases hc : S M.n = true ∧ (cntW M.wl 0 (c / 12) = cntW M.wl 0 (x / 12) ∧ cntW M.wl 10 (c % 12) = cntW M.wl 10 (x % 12)) ∧ dist c x < (bsz 999 (addAM M c s).cl M.wl S x M.n).2
  · have e1 : bsz 999 (addAM M c s).cl M.wl S x (M.n + 1) = (M.n, dist c x) := by
      rw [bsz_t hc.1 (by rw [c2]; exact hc.2.1) (by rw [c2]; exact hc.2.2), c2]
    have e2 : bsz 999 (M12 M c s).cl M.wl T x 13 = (12, dist c x) := by
      rw [bsz_t (p := 12) (by rw [h2]; exact hc.1) (by rw [c1]; exact hc.2.1) (by rw [c1, a2, a1]; exact hc.2.2), c1]
    rw [e1, e2]
    exact ⟨(if_pos rfl).symm, Or.inr (Nat.le_refl _)⟩
  · have e1 : bsz 999 (addAM M c s).cl M.wl S x (M.n + 1) = bsz 999 (addAM M c s).cl M.wl S x M.n := by
      rw [bsz_f (by rw [c2]; exact hc)]
    have e2 : bsz 999 (M12 M c s).cl M.wl T x 13 = bsz 999 (addAM M c s).cl M.wl S x M.n := by
      rw [bsz_f (p := 12) (by rw [c1, h2, a2, a1]; exact hc), a2, a1]
    rw [e1, e2, if_neg (by omega)]
    exact ⟨rfl, by omega⟩
theorem ldN_iff {w b b' : Nat → Nat} {p p' : Nat} (h : ∀ c, b c = p ↔ b' c = p') : ∀ k, ldN w b p k = ldN w b' p' k
  | 0 => rfl
  | k + 1 => by
    have ih := ldN_iff (w := w) h k
    simp only [ldN, ih]
    by_cases q : b k = p
    · rw [if_pos q, if_pos ((h k).mp q)]
    · rw [if_neg q, if_neg (fun z => q ((h k).mpr z))]
theorem load_12 {M : AM} {c s : Nat} {S T : Nat → Bool} (hn : M.n < 12) (h : CR M.n S T) : (∀ p, p < M.n → load (M12 M c s) T p = load (addAM M c s) S p) ∧ load (M12 M c s) T 12 = load (addAM M c s) S M.n := by
  constructor
  · intro p hp
    refine ldN_iff (w := M.wt) (fun x => ?_) 96
    obtain ⟨q1, q2⟩ := br_12 (c := c) (s := s) hn h x
    rw [q1]
    split <;> omega
  · refine ldN_iff (w := M.wt) (fun x => ?_) 96
    obtain ⟨q1, q2⟩ := br_12 (c := c) (s := s) hn h x
    rw [q1]
    split <;> omega
theorem tm_12 {M : AM} {c s : Nat} {S T : Nat → Bool} (hn : M.n < 12) (h : CR M.n S T) : CR M.n (tm (addAM M c s) S) (tm (M12 M c s) T) := by
  obtain ⟨l1, l2⟩ := load_12 (c := c) (s := s) hn h
  obtain ⟨h1, h2, h3, h4⟩ := h
  refine ⟨fun i hi => ?_, ?_, fun i hi hi2 => ?_, fun i hi => ?_⟩
  · unfold tm
    rw [l1 i hi, h1 i hi]
    have e : (M12 M c s).sg i = (addAM M c s).sg i := by
      show (if i = 12 then s else M.sg i) = (if i = M.n then s else M.sg i)
      rw [if_neg (by omega), if_neg (by omega)]
    rw [e]
  · unfold tm
    rw [l2, h2]
    have e : (M12 M c s).sg 12 = (addAM M c s).sg M.n := by
      show (if 12 = 12 then s else M.sg 12) = (if M.n = M.n then s else M.sg M.n)
      rw [if_pos rfl, if_pos rfl]
    rw [e]
  · unfold tm; rw [h3 i hi hi2]; rfl
  · unfold tm; rw [h4 i hi]; rfl
theorem it_12 {M : AM} {c s : Nat} {S T : Nat → Bool} (hn : M.n < 12) (h : CR M.n S T) : ∀ k, CR M.n (it (addAM M c s) S k) (it (M12 M c s) T k)
  | 0 => h
  | k + 1 => by
    have ih := it_12 (c := c) (s := s) hn h k
    have ht := tm_12 (c := c) (s := s) hn ih
    obtain ⟨h1, h2, h3, h4⟩ := ih
    obtain ⟨t1, t2, t3, t4⟩ := ht
    refine ⟨fun i hi => ?_, ?_, fun i hi hi2 => ?_, fun i hi => ?_⟩
    · show nx _ _ i = nx _ _ i
      unfold nx
      rw [h1 i hi, t1 i hi]
    · show nx _ _ 12 = nx _ _ M.n
      unfold nx
      rw [h2, t2]
    · show nx _ _ i = false
      unfold nx; rw [h3 i hi hi2]; rfl
    · show nx _ _ i = false
      unfold nx; rw [h4 i hi]; rfl
theorem stb_12 {M : AM} {c s : Nat} {S T : Nat → Bool} (hn : M.n < 12) (h : CR M.n S T) : stb (addAM M c s) S ↔ stb (M12 M c s) T := by
  obtain ⟨t1, t2, t3, t4⟩ := tm_12 (c := c) (s := s) hn h
  constructor
  · intro q i
    by_cases h1 : i < M.n
    · rw [t1 i h1]; exact q i
    · by_cases h2 : i = 12
      · rw [h2, t2]; exact q M.n
      · exact t3 i (by omega) h2
  · intro q i
    by_cases h1 : i < M.n
    · rw [← t1 i h1]; exact q i
    · by_cases h2 : i = M.n
      · rw [h2, ← t2]; exact q 12
      · exact t4 i (by omega)
theorem Wv_12 {M : AM} {c s : Nat} {S T : Nat → Bool} (hn : M.n < 12) (h : CR M.n S T) {w : Nat} (hw : Wv (addAM M c s) S w) : Wv (M12 M c s) T w :=
  ⟨(stb_12 hn (it_12 hn h w)).mp hw.1, fun k hk q => hw.2 k hk ((stb_12 hn (it_12 hn h k)).mpr q)⟩
theorem bt_4095 : ∀ i, i < 32 → bt (4095 : Int32) i = decide (i < 12) := by decide +kernel
theorem l_4096 : (4096 : Int32) = nI 1 <<< (nI 12 &&& nI 31) := by decide +kernel
theorem tall_ok {n : Nat} {S T : Nat → Bool} {y : Int32} (hn : n < 12) (h : CR n S T) (hy : hS y T) : fX7_tall y = some (nI (cntB S (n + 1))) := by
  obtain ⟨h1, h2, h3, h4⟩ := h
  have hs : hS (y &&& (4095 : Int32)) (fun i => T i && decide (i < 12)) := fun i hi => by
    rw [b_and, hy i hi, bt_4095 i hi]
  have ho := ones_ok hs
  rw [cnt_12 (n := n) (by omega) (fun i hi => by
    by_cases h12 : i = 12
    · subst h12; rw [decide_eq_false (by omega), Bool.and_false]
    · show (T i && _) = false
      rw [h3 i hi h12]; rfl)] at ho
  have hc : cntB (fun i => T i && decide (i < 12)) n = cntB S n := cntB_cong n (fun i hi => by
    show (T i && decide (i < 12)) = S i
    rw [decide_eq_true (by omega), Bool.and_true, h1 i hi])
  rw [hc] at ho
  have hb : (y >>> ((12 : Int32) &&& 31)) &&& (1 : Int32) = bI (bt y 12) := b_one y (k := 12) (by omega)
  rw [hy 12 (by omega), h2] at hb
  unfold fX7_tall
  rw [ho, bnd_some, hb, bI_toN, nI_add]
  rfl
/-- what a try of a pillar leaves in the model -/
def SC (τ τ1 : S7) : Prop := ∃ cc ss f g a b, τ1 = (τ.1, τ.2.1, τ.2.2.1, cc, ss, τ.2.2.2.2.2.1, τ.2.2.2.2.2.2.1, τ.2.2.2.2.2.2.2.1, τ.2.2.2.2.2.2.2.2.1, f, g, a, b, τ.2.2.2.2.2.2.2.2.2.2.2.2.2) ∧ (∀ i, i < 12 → cc i = τ.2.2.2.1 i) ∧ (∀ i, i < 12 → ss i = τ.2.2.2.2.1 i)
theorem SC_rfl (τ : S7) : SC τ τ := ⟨τ.2.2.2.1, τ.2.2.2.2.1, τ.2.2.2.2.2.2.2.2.2.1, τ.2.2.2.2.2.2.2.2.2.2.1, τ.2.2.2.2.2.2.2.2.2.2.2.1, τ.2.2.2.2.2.2.2.2.2.2.2.2.1, rfl, fun _ _ => rfl, fun _ _ => rfl⟩
theorem SC_tr {τ τ1 τ2 : S7} (h : SC τ τ1) (h2 : SC τ1 τ2) : SC τ τ2 := by
  obtain ⟨cc, ss, f, g, a, b, rfl, q1, q2⟩ := h
  obtain ⟨cc', ss', f', g', a', b', rfl, q3, q4⟩ := h2
  exact ⟨cc', ss', f', g', a', b', rfl, fun i hi => (q3 i hi).trans (q1 i hi), fun i hi => (q4 i hi).trans (q2 i hi)⟩
theorem TR_SC {τ τ1 : S7} {M : AM} (h : TR τ M) (hn : M.n ≤ 12) (h2 : SC τ τ1) : TR τ1 M := by
  obtain ⟨cc, ss, f, g, a, b, rfl, q1, q2⟩ := h2
  exact ⟨h.1, fun p hp => (q1 p (by omega)).trans (h.2.1 p hp), fun p hp => (q2 p (by omega)).trans (h.2.2.1 p hp), h.2.2.2⟩
theorem Rel_SC {σ : S6} {τ τ1 : S7} {M : AM} {k : Nat} {H : Nat → AM} {w : Nat} {V : Nat → Nat → Bool} {tl : Nat} {tx : Nat → Nat} (h : RB σ τ M k H w V tl tx) (h2 : SC τ τ1) (t : S5) : Rel (σ.1, σ.2.1, σ.2.2.1, σ.2.2.2.1, t, σ.2.2.2.2.2) τ1 := by
  have ht := TR_SC h.2.1 h.1.1.1 h2
  obtain ⟨cc, ss, f, g, a, b, rfl, q1, q2⟩ := h2
  exact ⟨M, k, H, w, V, tl, tx, h.1, ht, h.2.2⟩
theorem support_both {m : S1} {τ : S7} {M : AM} (h1 : MR m M) (h2 : TR τ M) (hn : M.n < 12) {c s : Nat} (hc : c < 96) (hs : s ≤ 999) (t : S5) : ∃ v t1 y τ1, fX5_support t m (nI c) (nI s) = some (nI v, t1) ∧ fX7_left (τ.1, τ.2.1, τ.2.2.1, upd τ.2.2.2.1 12 (nI c), upd τ.2.2.2.2.1 12 (nI s), τ.2.2.2.2.2) (τ.2.2.2.2.2.1 ||| (4096 : Int32)) = some (y, τ1) ∧ fX7_tall y = some (nI v) ∧ SC τ τ1 ∧ v ≤ 12 := by
  obtain ⟨m0, c1, c2⟩ := copy_ok h1 t.1
  obtain ⟨m2, d1, d2⟩ := add_ok c2 hn hc hs
  obtain ⟨w, r1, m1, b1, e1, e2, e3, e4, e5, e6, e7⟩ := crush_ok (M := addAM M c s) (S := (addAM M c s).up) d2 t.2.2 t.2.1
  have hgr := TR_GR h2 h1.1
  have hx : hS (τ.2.2.2.2.2.1 ||| (4096 : Int32)) (fun i => M.up i || decide (i = 12)) := by
    rw [l_4096]
    exact hS_or h2.2.2.2.1 (by omega)
  have hup12 : M.up 12 = false := h1.1.2.2.2.1 12 (by omega)
  have hgr' : GR (τ.1, τ.2.1, τ.2.2.1, upd τ.2.2.2.1 12 (nI c), upd τ.2.2.2.2.1 12 (nI s), τ.2.2.2.2.2) (M12 M c s) (fun i => M.up i || decide (i = 12)) := by
    refine ⟨hgr.1, fun i hi hu => ?_, fun i hi hu => ?_, hgr.2.2.2.1, fun i hi => ?_⟩
    · show upd τ.2.2.2.1 12 (nI c) i = nI (if i = 12 then c else M.cl i) ∧ (if i = 12 then c else M.cl i) < 96
      by_cases hip : i = 12
      · subst hip; rw [upd_same, if_pos rfl]; exact ⟨rfl, hc⟩
      · rw [upd_ne _ _ _ _ hip, if_neg hip]
        refine hgr.2.1 i hi ?_
        have hu : (M.up i || decide (i = 12)) = true := hu
        rw [decide_eq_false hip, Bool.or_false] at hu
        exact hu
    · show upd τ.2.2.2.2.1 12 (nI s) i = nI (if i = 12 then s else M.sg i) ∧ (if i = 12 then s else M.sg i) ≤ 999
      by_cases hip : i = 12
      · subst hip; rw [upd_same, if_pos rfl]; exact ⟨rfl, hs⟩
      · rw [upd_ne _ _ _ _ hip, if_neg hip]
        refine hgr.2.2.1 i hi ?_
        have hu : (M.up i || decide (i = 12)) = true := hu
        rw [decide_eq_false hip, Bool.or_false] at hu
        exact hu
    · show (M.up i || decide (i = 12)) = false
      rw [hgr.2.2.2.2 i hi, decide_eq_false (by omega)]; rfl
  have hcr : CR M.n (addAM M c s).up (fun i => M.up i || decide (i = 12)) := by
    refine ⟨fun i hi => ?_, ?_, fun i hi hi2 => ?_, fun i hi => ?_⟩
    · show (M.up i || decide (i = 12)) = (M.up i || decide (i = M.n))
      rw [decide_eq_false (by omega), decide_eq_false (by omega)]
    · show (M.up 12 || decide (12 = 12)) = (M.up M.n || decide (M.n = M.n))
      rw [decide_eq_true rfl, decide_eq_true rfl, Bool.or_true, Bool.or_true]
    · show (M.up i || decide (i = 12)) = false
      rw [h1.1.2.2.2.1 i hi, decide_eq_false hi2]; rfl
    · show (M.up i || decide (i = M.n)) = false
      rw [h1.1.2.2.2.1 i (by omega), decide_eq_false (by omega)]; rfl
  obtain ⟨y, τ1, v, g1, ⟨f, g, a, b, rfl⟩, g3, g4, g5⟩ := left_ok hgr' hx
  have hwv := Wv_uniq (Wv_12 hn hcr e2) g3
  subst hwv
  have htl := tall_ok hn (it_12 (c := c) (s := s) hn hcr w) g4
  have hcs := countStanding_ok e5
  have hcs' : fX1_countStanding m1 = some (nI (cntB (it (addAM M c s) (addAM M c s).up w) (M.n + 1))) := hcs
  have hle := cntB_le (it (addAM M c s) (addAM M c s).up w) (M.n + 1)
  refine ⟨_, (m1, b1, r1), y, _, ?_, g1, htl, ⟨_, _, f, g, a, b, rfl, fun i hi => upd_ne _ _ _ _ (by omega), fun i hi => upd_ne _ _ _ _ (by omega)⟩, by omega⟩
  simp only [fX5_support, fX5_start, fX5_crush, c1, d1, bnd_some, e1, hcs']
theorem E_bestCell : E2 Rel fX6_bestCell fX7_bestCell := by
  intro σ τ x y h
  rcases ws x with ⟨s, hs, rfl⟩ | ⟨a1, a2⟩
  · rcases wi y (k := 1) (by omega) with ⟨q, hq, rfl⟩ | ⟨a1, a2⟩
    · have hh := h
      obtain ⟨M, k, H, w, V, tl, tx, hB⟩ := hh
      have hn := hB.1.1.1
      have m6 := hB.1.2.1
      have m7 := hB.2.1.1
      by_cases hlt : M.n < 12
      · obtain ⟨z, y, e1, e2, e3, e4, e5⟩ := loop2 (step := fX6_bestCell_L49 σ (nI s)) (step' := fX7_bestCell_L47 (nI s)) (fun i (s : Int32 × Int32 × Int32 × S5) (t : Int32 × Int32 × Int32 × S7) => s.1 = t.1 ∧ (s.2.1 = t.2.1 ∧ (s.2.1 = mI ∨ ∃ mo, mo ≤ 12 ∧ s.2.1 = nI mo)) ∧ (s.2.2.1 = nI i ∧ t.2.2.1 = nI i) ∧ SC τ t.2.2.2) (fun (s : Int32 × Int32 × Int32 × S5) (t : Int32 × Int32 × Int32 × S7) => s.1 = t.1 ∧ s.2.1 = t.2.1 ∧ SC τ t.2.2.2) 96 (F := 5000) (by omega) (s0 := ((-1 : Int32), (-1 : Int32), (0 : Int32), σ.2.2.2.2.1)) (t0 := ((-1 : Int32), (-1 : Int32), (0 : Int32), τ)) ⟨rfl, ⟨rfl, Or.inl rfl⟩, ⟨rfl, rfl⟩, SC_rfl τ⟩
          (by
            rintro i ⟨b, mo, i6, t⟩ ⟨b', mo7, i7, τ0⟩ hi ⟨rfl, ⟨rfl, hmo⟩, ⟨rfl, rfl⟩, hsm⟩
            have hsm : SC τ τ0 := hsm
            have hmo : mo = mI ∨ ∃ k, k ≤ 12 ∧ mo = nI k := hmo
            have h2' := TR_SC hB.2.1 hn hsm
            have hmle : mI ≤ mo := by
              rcases hmo with rfl | ⟨k, hk, rfl⟩
              · exact Int32.le_refl _
              · exact (mI_le (by omega)).mpr trivial
            obtain ⟨u, p1, p2⟩ := hasPillarOn_ok hB.1 i (by omega)
            rcases pillarAt_ok h2' hB.1.1 (c := i) (by omega) with ⟨p, r1, r2, r3⟩ | ⟨r1, r3⟩
            · have hu : u = true := p2.mpr ⟨p, r1, r2⟩
              rw [hu, bI_t] at p1
              refine ⟨(b, mo, nI (i + 1), t), (b, mo, nI (i + 1), τ0), ?_, ?_, rfl, ⟨rfl, hmo⟩, ⟨rfl, rfl⟩, hsm⟩
              · simp (disch := omega) only [fX6_bestCell_L49, p1, hmle, l_0, l_1, l_2, l_3, l_4, l_5, l_6, l_7, l_8, l_9, l_10, l_11, l_12, l_13, l_14, l_15, l_16, l_17, l_18, l_19, l_20, l_21, l_24, l_28, l_31, l_32, l_33, l_45, l_47, l_48, l_57, l_59, l_84, l_95, l_96, l_100, l_112, l_119, l_120, l_127, l_140, l_700, l_840, l_999, l_4095, l_999999, ↓l_m1, ↓l_m2, ↓l_m3, ↓l_m4, ↓l_m10, ↓l_m10000, nI_leI, nI_ltI, nI_eq, mI_le, mI_lt, le_mI, lt_mI, mI_eq, eq_mI, nI_add, pk_mul, pk_sub, pk_div, nI_clamp, md_eq, Nat.zero_le, true_and, and_true, and_self, if_pos, if_neg, Option.bind_some, bnd_some, Sum.elim_inl, Sum.elim_inr, ↓reduceIte]
              · simp (disch := omega) only [fX7_bestCell_L47, r3, l_0, l_1, l_2, l_3, l_4, l_5, l_6, l_7, l_8, l_9, l_10, l_11, l_12, l_13, l_14, l_15, l_16, l_17, l_18, l_19, l_20, l_21, l_24, l_28, l_31, l_32, l_33, l_45, l_47, l_48, l_57, l_59, l_84, l_95, l_96, l_100, l_112, l_119, l_120, l_127, l_140, l_700, l_840, l_999, l_4095, l_999999, ↓l_m1, ↓l_m2, ↓l_m3, ↓l_m4, ↓l_m10, ↓l_m10000, nI_leI, nI_ltI, nI_eq, mI_le, mI_lt, le_mI, lt_mI, mI_eq, eq_mI, nI_add, pk_mul, pk_sub, pk_div, nI_clamp, md_eq, Nat.zero_le, true_and, and_true, and_self, if_pos, if_neg, Option.bind_some, bnd_some, Sum.elim_inl, Sum.elim_inr, ↓reduceIte]
            · have hu : u = false := by
                cases e : u
                · rfl
                · obtain ⟨p, q1, q2⟩ := p2.mp e
                  exact absurd q2 (r1 p q1)
              rw [hu, bI_f] at p1
              obtain ⟨v, t1, y, τ1, f1, f2, f3, f4, f5⟩ := support_both hB.1 h2' hlt hi hs t
              rcases Classical.em (nI v ≤ mo) with hc | hc
              · refine ⟨(b, mo, nI (i + 1), t1), (b, mo, nI (i + 1), τ1), ?_, ?_, rfl, ⟨rfl, hmo⟩, ⟨rfl, rfl⟩, SC_tr hsm f4⟩
                · simp (disch := omega) only [fX6_bestCell_L49, p1, f1, hc, l_0, l_1, l_2, l_3, l_4, l_5, l_6, l_7, l_8, l_9, l_10, l_11, l_12, l_13, l_14, l_15, l_16, l_17, l_18, l_19, l_20, l_21, l_24, l_28, l_31, l_32, l_33, l_45, l_47, l_48, l_57, l_59, l_84, l_95, l_96, l_100, l_112, l_119, l_120, l_127, l_140, l_700, l_840, l_999, l_4095, l_999999, ↓l_m1, ↓l_m2, ↓l_m3, ↓l_m4, ↓l_m10, ↓l_m10000, nI_leI, nI_ltI, nI_eq, mI_le, mI_lt, le_mI, lt_mI, mI_eq, eq_mI, nI_add, pk_mul, pk_sub, pk_div, nI_clamp, md_eq, Nat.zero_le, true_and, and_true, and_self, if_pos, if_neg, Option.bind_some, bnd_some, Sum.elim_inl, Sum.elim_inr, ↓reduceIte]
                · simp (disch := omega) only [fX7_bestCell_L47, r3, f2, f3, hc, l_0, l_1, l_2, l_3, l_4, l_5, l_6, l_7, l_8, l_9, l_10, l_11, l_12, l_13, l_14, l_15, l_16, l_17, l_18, l_19, l_20, l_21, l_24, l_28, l_31, l_32, l_33, l_45, l_47, l_48, l_57, l_59, l_84, l_95, l_96, l_100, l_112, l_119, l_120, l_127, l_140, l_700, l_840, l_999, l_4095, l_999999, ↓l_m1, ↓l_m2, ↓l_m3, ↓l_m4, ↓l_m10, ↓l_m10000, nI_leI, nI_ltI, nI_eq, mI_le, mI_lt, le_mI, lt_mI, mI_eq, eq_mI, nI_add, pk_mul, pk_sub, pk_div, nI_clamp, md_eq, Nat.zero_le, true_and, and_true, and_self, if_pos, if_neg, Option.bind_some, bnd_some, Sum.elim_inl, Sum.elim_inr, ↓reduceIte]
              · refine ⟨(nI i, nI v, nI (i + 1), t1), (nI i, nI v, nI (i + 1), τ1), ?_, ?_, rfl, ⟨rfl, Or.inr ⟨v, f5, rfl⟩⟩, ⟨rfl, rfl⟩, SC_tr hsm f4⟩
                · simp (disch := omega) only [fX6_bestCell_L49, p1, f1, hc, l_0, l_1, l_2, l_3, l_4, l_5, l_6, l_7, l_8, l_9, l_10, l_11, l_12, l_13, l_14, l_15, l_16, l_17, l_18, l_19, l_20, l_21, l_24, l_28, l_31, l_32, l_33, l_45, l_47, l_48, l_57, l_59, l_84, l_95, l_96, l_100, l_112, l_119, l_120, l_127, l_140, l_700, l_840, l_999, l_4095, l_999999, ↓l_m1, ↓l_m2, ↓l_m3, ↓l_m4, ↓l_m10, ↓l_m10000, nI_leI, nI_ltI, nI_eq, mI_le, mI_lt, le_mI, lt_mI, mI_eq, eq_mI, nI_add, pk_mul, pk_sub, pk_div, nI_clamp, md_eq, Nat.zero_le, true_and, and_true, and_self, if_pos, if_neg, Option.bind_some, bnd_some, Sum.elim_inl, Sum.elim_inr, ↓reduceIte]
                · simp (disch := omega) only [fX7_bestCell_L47, r3, f2, f3, hc, l_0, l_1, l_2, l_3, l_4, l_5, l_6, l_7, l_8, l_9, l_10, l_11, l_12, l_13, l_14, l_15, l_16, l_17, l_18, l_19, l_20, l_21, l_24, l_28, l_31, l_32, l_33, l_45, l_47, l_48, l_57, l_59, l_84, l_95, l_96, l_100, l_112, l_119, l_120, l_127, l_140, l_700, l_840, l_999, l_4095, l_999999, ↓l_m1, ↓l_m2, ↓l_m3, ↓l_m4, ↓l_m10, ↓l_m10000, nI_leI, nI_ltI, nI_eq, mI_le, mI_lt, le_mI, lt_mI, mI_eq, eq_mI, nI_add, pk_mul, pk_sub, pk_div, nI_clamp, md_eq, Nat.zero_le, true_and, and_true, and_self, if_pos, if_neg, Option.bind_some, bnd_some, Sum.elim_inl, Sum.elim_inr, ↓reduceIte])
          (by
            rintro ⟨b, mo, i6, t⟩ ⟨b', mo7, i7, τ0⟩ ⟨rfl, ⟨rfl, hmo⟩, ⟨rfl, rfl⟩, hsm⟩
            refine ⟨(b, mo, nI 96, t), (b, mo, nI 96, τ0), ?_, ?_, rfl, rfl, hsm⟩
            · simp (disch := omega) only [fX6_bestCell_L49, l_0, l_1, l_2, l_3, l_4, l_5, l_6, l_7, l_8, l_9, l_10, l_11, l_12, l_13, l_14, l_15, l_16, l_17, l_18, l_19, l_20, l_21, l_24, l_28, l_31, l_32, l_33, l_45, l_47, l_48, l_57, l_59, l_84, l_95, l_96, l_100, l_112, l_119, l_120, l_127, l_140, l_700, l_840, l_999, l_4095, l_999999, ↓l_m1, ↓l_m2, ↓l_m3, ↓l_m4, ↓l_m10, ↓l_m10000, nI_leI, nI_ltI, nI_eq, mI_le, mI_lt, le_mI, lt_mI, mI_eq, eq_mI, nI_add, pk_mul, pk_sub, pk_div, nI_clamp, md_eq, Nat.zero_le, true_and, and_true, and_self, if_pos, if_neg, Option.bind_some, bnd_some, Sum.elim_inl, Sum.elim_inr, ↓reduceIte]
            · simp (disch := omega) only [fX7_bestCell_L47, l_0, l_1, l_2, l_3, l_4, l_5, l_6, l_7, l_8, l_9, l_10, l_11, l_12, l_13, l_14, l_15, l_16, l_17, l_18, l_19, l_20, l_21, l_24, l_28, l_31, l_32, l_33, l_45, l_47, l_48, l_57, l_59, l_84, l_95, l_96, l_100, l_112, l_119, l_120, l_127, l_140, l_700, l_840, l_999, l_4095, l_999999, ↓l_m1, ↓l_m2, ↓l_m3, ↓l_m4, ↓l_m10, ↓l_m10000, nI_leI, nI_ltI, nI_eq, mI_le, mI_lt, le_mI, lt_mI, mI_eq, eq_mI, nI_add, pk_mul, pk_sub, pk_div, nI_clamp, md_eq, Nat.zero_le, true_and, and_true, and_self, if_pos, if_neg, Option.bind_some, bnd_some, Sum.elim_inl, Sum.elim_inr, ↓reduceIte])
        have e1' : loopF (fX6_bestCell_L49 σ (nI s)) 5000 (mI, mI, nI 0, σ.2.2.2.2.1) = some z := e1
        have e2' : loopF (fX7_bestCell_L47 (nI s)) 5000 (mI, mI, nI 0, τ) = some y := e2
        have hlt6 : nI M.n < nI 12 := (nI_ltI (by omega) (by omega)).mpr hlt
        have hne7 : ¬ nI M.n = nI 12 := fun e => by rw [nI_eq (by omega) (by omega)] at e; omega
        rcases (show q = 0 ∨ q = 1 by omega) with rfl | rfl
        · refine ⟨y.1, _, y.2.2.2, ?_, ?_, Rel_SC hB e5 z.2.2.2⟩
          · simp (disch := omega) only [fX6_bestCell, ws6, wi6, m6, l_12, hlt6, e1', e3, l_0, l_1, nI_eq, ↓reduceIte, bnd_some, or_true, true_or, if_pos, if_neg, ↓l_m1, ↓l_m2, ↓l_m3, ↓l_m4]
          · simp (disch := omega) only [fX7_bestCell, l_999, wi7, m7, l_12, hne7, e2', l_0, l_1, nI_eq, ↓reduceIte, bnd_some, or_true, true_or, if_pos, if_neg, ↓l_m1, ↓l_m2, ↓l_m3, ↓l_m4]
        · refine ⟨y.2.1, _, y.2.2.2, ?_, ?_, Rel_SC hB e5 z.2.2.2⟩
          · simp (disch := omega) only [fX6_bestCell, ws6, wi6, m6, l_12, hlt6, e1', e4, l_0, l_1, nI_eq, ↓reduceIte, bnd_some, or_true, true_or, if_pos, if_neg, ↓l_m1, ↓l_m2, ↓l_m3, ↓l_m4]
          · simp (disch := omega) only [fX7_bestCell, l_999, wi7, m7, l_12, hne7, e2', l_0, l_1, nI_eq, ↓reduceIte, bnd_some, or_true, true_or, if_pos, if_neg, ↓l_m1, ↓l_m2, ↓l_m3, ↓l_m4]
      · obtain ⟨σ1, τ1, e3, e4, e5⟩ := no_ok h
        have h12 : M.n = 12 := by omega
        rw [h12] at m6 m7
        have hnl : ¬ nI 12 < nI 12 := by decide
        refine ⟨mI3, σ1, τ1, ?_, ?_, e5⟩
        · simp (disch := omega) only [fX6_bestCell, ws6, wi6, m6, l_12, hnl, e3, l_0, l_1, nI_eq, ↓reduceIte, bnd_some, or_true, true_or, if_pos, if_neg, ↓l_m1, ↓l_m2, ↓l_m3, ↓l_m4]
        · simp (disch := omega) only [fX7_bestCell, l_999, wi7, m7, l_12, e4, l_0, l_1, nI_eq, ↓reduceIte, bnd_some, or_true, true_or, if_pos, if_neg, ↓l_m1, ↓l_m2, ↓l_m3, ↓l_m4]
    · obtain ⟨σ1, τ1, e3, e4, e5⟩ := bad_ok h
      refine ⟨mI2, σ1, τ1, ?_, ?_, e5⟩
      · simp (disch := omega) only [fX6_bestCell, ws6, a1, e3, l_0, l_1, nI_eq, ↓reduceIte, bnd_some, or_true, true_or, if_pos, if_neg, ↓l_m1, ↓l_m2, ↓l_m3, ↓l_m4]
      · simp (disch := omega) only [fX7_bestCell, l_999, wi7, a2, e4, l_0, l_1, nI_eq, ↓reduceIte, bnd_some, or_true, true_or, if_pos, if_neg, ↓l_m1, ↓l_m2, ↓l_m3, ↓l_m4]
  · obtain ⟨σ1, τ1, e3, e4, e5⟩ := bad_ok h
    refine ⟨mI2, σ1, τ1, ?_, ?_, e5⟩
    · simp (disch := omega) only [fX6_bestCell, a1, e3, l_0, l_1, nI_eq, ↓reduceIte, bnd_some, or_true, true_or, if_pos, if_neg, ↓l_m1, ↓l_m2, ↓l_m3, ↓l_m4]
    · simp (disch := omega) only [fX7_bestCell, l_999, a2, e4, l_0, l_1, nI_eq, ↓reduceIte, bnd_some, or_true, true_or, if_pos, if_neg, ↓l_m1, ↓l_m2, ↓l_m3, ↓l_m4]
