/-! the mine as numbers: how many pillars, their cells and strengths, which stand, walls, weights -/
def AM : Type := Nat × (Nat → Nat) × (Nat → Nat) × (Nat → Bool) × (Nat → Bool) × (Nat → Nat)
def AM.n (M : AM) : Nat := M.1
def AM.cl (M : AM) : Nat → Nat := M.2.1
def AM.sg (M : AM) : Nat → Nat := M.2.2.1
def AM.up (M : AM) : Nat → Bool := M.2.2.2.1
def AM.wl (M : AM) : Nat → Bool := M.2.2.2.2.1
def AM.wt (M : AM) : Nat → Nat := M.2.2.2.2.2
def mkAM (n : Nat) (cl sg : Nat → Nat) (up wl : Nat → Bool) (wt : Nat → Nat) : AM := (n, cl, sg, up, wl, wt)
theorem mk_n (n : Nat) (cl sg : Nat → Nat) (up wl : Nat → Bool) (wt : Nat → Nat) : (mkAM n cl sg up wl wt).n = n := rfl
theorem mk_cl (n : Nat) (cl sg : Nat → Nat) (up wl : Nat → Bool) (wt : Nat → Nat) : (mkAM n cl sg up wl wt).cl = cl := rfl
theorem mk_sg (n : Nat) (cl sg : Nat → Nat) (up wl : Nat → Bool) (wt : Nat → Nat) : (mkAM n cl sg up wl wt).sg = sg := rfl
theorem mk_up (n : Nat) (cl sg : Nat → Nat) (up wl : Nat → Bool) (wt : Nat → Nat) : (mkAM n cl sg up wl wt).up = up := rfl
theorem mk_wl (n : Nat) (cl sg : Nat → Nat) (up wl : Nat → Bool) (wt : Nat → Nat) : (mkAM n cl sg up wl wt).wl = wl := rfl
theorem mk_wt (n : Nat) (cl sg : Nat → Nat) (up wl : Nat → Bool) (wt : Nat → Nat) : (mkAM n cl sg up wl wt).wt = wt := rfl
def bI (b : Bool) : Int32 := if b = true then nI 1 else nI 0
theorem bI_t : bI true = nI 1 := rfl
theorem bI_f : bI false = nI 0 := rfl
/-- what always holds of such numbers -/
def OK (M : AM) : Prop := M.n ≤ 12 ∧ (∀ p, p < M.n → M.cl p < 96) ∧ (∀ p, p < M.n → M.sg p ≤ 999) ∧ (∀ p, M.n ≤ p → M.up p = false) ∧ (∀ k, (7 ≤ k ∧ k < 10) ∨ 21 ≤ k → M.wl k = false) ∧ (∀ c, c < 96 → M.wt c ≤ 9)
/-- the class's mine holds M -/
def MR (m : S1) (M : AM) : Prop := OK M ∧ m.2.2.2.2.2 = nI M.n ∧ (∀ p, p < M.n → m.2.1 p = nI (M.cl p)) ∧ (∀ p, p < M.n → m.2.2.1 p = nI (M.sg p)) ∧ (∀ p, p < M.n → m.2.2.2.1 p = bI (M.up p)) ∧ (∀ k, k < 21 → m.2.2.2.2.1 k = bI (M.wl k)) ∧ (∀ c, c < 96 → m.1 c = nI (M.wt c))
/-- how many of the first ones -/
def cntB (S : Nat → Bool) : Nat → Nat
  | 0 => 0
  | k + 1 => cntB S k + (if S k = true then 1 else 0)
theorem cntB_le (S : Nat → Bool) : ∀ k, cntB S k ≤ k
  | 0 => Nat.le_refl _
  | k + 1 => by
    have := cntB_le S k
    simp only [cntB]
    split <;> omega
def sumN (f : Nat → Nat) : Nat → Nat
  | 0 => 0
  | k + 1 => sumN f k + f k
/-- walls ahead of a line -/
def cntW (wl : Nat → Bool) (b : Nat) : Nat → Nat
  | 0 => 0
  | k + 1 => cntW wl b k + (if wl (b + k) = true then 1 else 0)
theorem cntW_le (wl : Nat → Bool) (b : Nat) : ∀ k, cntW wl b k ≤ k
  | 0 => Nat.le_refl _
  | k + 1 => by
    have := cntW_le wl b k
    simp only [cntW]
    split <;> omega
theorem cntW_mono (wl : Nat → Bool) (b i : Nat) : ∀ k, cntW wl b i ≤ cntW wl b (i + k)
  | 0 => Nat.le_refl _
  | k + 1 => by
    have := cntW_mono wl b i k
    rw [show i + (k + 1) = (i + k) + 1 by omega, cntW]
    omega
theorem cntW_same (wl : Nat → Bool) (b i : Nat) : ∀ k, cntW wl b i = cntW wl b (i + k) ↔ ∀ j, i ≤ j → j < i + k → wl (b + j) = false
  | 0 => ⟨fun _ j h1 h2 => absurd h2 (by omega), fun _ => rfl⟩
  | k + 1 => by
    have ih := cntW_same wl b i k
    have hm := cntW_mono wl b i k
    rw [show i + (k + 1) = (i + k) + 1 by omega]
    simp only [cntW]
    by_cases h : wl (b + (i + k)) = true
    · rw [if_pos h]
      constructor
      · intro e; omega
      · intro e
        have := e (i + k) (by omega) (by omega)
        rw [h] at this; cases this
    · rw [if_neg h]
      constructor
      · intro e j h1 h2
        by_cases hj : j = i + k
        · subst hj; simpa using h
        · exact ih.mp (by omega) j h1 (by omega)
      · intro e
        have := ih.mpr (fun j h1 h2 => e j h1 (by omega))
        omega
def rm (wl : Nat → Bool) (c d : Nat) : Prop := cntW wl 0 (c / 12) = cntW wl 0 (d / 12) ∧ cntW wl 10 (c % 12) = cntW wl 10 (d % 12)
def rmD (wl : Nat → Bool) (c d : Nat) : Decidable (rm wl c d) := inferInstanceAs (Decidable (_ ∧ _))
def gapN (a b : Nat) : Nat := if b < a then a - b else b - a
def dist (c d : Nat) : Nat := gapN (c / 12) (d / 12) + gapN (c % 12) (d % 12)
/-- on which a cell rests, by looking at the first k; 13: none. Second: how far -/
def bsz (z : Nat) (cl : Nat → Nat) (wl : Nat → Bool) (S : Nat → Bool) (c : Nat) : Nat → Nat × Nat
  | 0 => (13, z)
  | p + 1 => if S p = true ∧ (cntW wl 0 (cl p / 12) = cntW wl 0 (c / 12) ∧ cntW wl 10 (cl p % 12) = cntW wl 10 (c % 12)) ∧ dist (cl p) c < (bsz z cl wl S c p).2 then (p, dist (cl p) c) else bsz z cl wl S c p
def brI (b : Nat) : Int32 := if b = 13 then mI else nI b
def br (cl : Nat → Nat) (wl : Nat → Bool) (S : Nat → Bool) (c : Nat) : Nat := (bsz 999 cl wl S c 13).1
theorem dist_lt {c d : Nat} (hc : c < 96) (hd : d < 96) : dist c d < 19 := by
  unfold dist gapN
  split <;> split <;> omega
theorem bsz_best (z : Nat) (cl : Nat → Nat) (wl : Nat → Bool) (S : Nat → Bool) (c : Nat) : ∀ k, (bsz z cl wl S c k).1 = 13 ∨ ((bsz z cl wl S c k).1 < k ∧ S (bsz z cl wl S c k).1 = true)
  | 0 => Or.inl rfl
  | k + 1 => by
    have ih := bsz_best z cl wl S c k
    simp only [bsz]
    split
    · rename_i h
      exact Or.inr ⟨by simp, h.1⟩
    · rcases ih with h | ⟨h1, h2⟩
      · exact Or.inl h
      · exact Or.inr ⟨by omega, h2⟩
/-- the first nearness only must be far enough -/
theorem bsz_z {cl : Nat → Nat} {wl : Nat → Bool} {S : Nat → Bool} {c : Nat} (hc : c < 96) {z : Nat} (hz : 19 ≤ z) : ∀ k, (∀ p, p < k → S p = true → cl p < 96) → (bsz z cl wl S c k).1 = (bsz 999 cl wl S c k).1 ∧ (((bsz z cl wl S c k).2 = (bsz 999 cl wl S c k).2 ∧ (bsz z cl wl S c k).2 < 19) ∨ ((bsz z cl wl S c k).2 = z ∧ (bsz 999 cl wl S c k).2 = 999 ∧ (bsz z cl wl S c k).1 = 13))
  | 0, _ => ⟨rfl, Or.inr ⟨rfl, rfl, rfl⟩⟩
  | k + 1, hS => by
    have ih := bsz_z (cl := cl) (wl := wl) (S := S) hc hz k (fun p hp => hS p (by omega))
    simp only [bsz]
    by_cases h1 : S k = true ∧ (cntW wl 0 (cl k / 12) = cntW wl 0 (c / 12) ∧ cntW wl 10 (cl k % 12) = cntW wl 10 (c % 12))
    · have hd := dist_lt (hS k (by omega) h1.1) hc
      by_cases h2 : dist (cl k) c < (bsz z cl wl S c k).2
      · have h3 : dist (cl k) c < (bsz 999 cl wl S c k).2 := by
          rcases ih.2 with ⟨e1, _⟩ | ⟨_, e2, _⟩ <;> omega
        rw [if_pos ⟨h1.1, h1.2, h2⟩, if_pos ⟨h1.1, h1.2, h3⟩]
        exact ⟨rfl, Or.inl ⟨rfl, hd⟩⟩
      · have h3 : ¬ dist (cl k) c < (bsz 999 cl wl S c k).2 := by
          rcases ih.2 with ⟨e1, _⟩ | ⟨e1, e2, _⟩ <;> omega
        rw [if_neg (fun q => h2 q.2.2), if_neg (fun q => h3 q.2.2)]
        exact ih
    · rw [if_neg (fun q => h1 ⟨q.1, q.2.1⟩), if_neg (fun q => h1 ⟨q.1, q.2.1⟩)]
      exact ih
theorem bsz_more (z : Nat) (cl : Nat → Nat) (wl : Nat → Bool) (S : Nat → Bool) (c k : Nat) : ∀ j, (∀ p, k ≤ p → S p = false) → bsz z cl wl S c (k + j) = bsz z cl wl S c k
  | 0, _ => rfl
  | j + 1, h => by
    rw [show k + (j + 1) = (k + j) + 1 by omega, bsz]
    rw [if_neg (fun q => by have := h (k + j) (by omega); rw [this] at q; cases q.1)]
    exact bsz_more z cl wl S c k j h
/-- what comes on p of the first k cells -/
def ldN (w : Nat → Nat) (b : Nat → Nat) (p : Nat) : Nat → Nat
  | 0 => 0
  | c + 1 => ldN w b p c + (if b c = p then w c else 0)
theorem ldN_le {w b : Nat → Nat} {p : Nat} : ∀ k, (∀ c, c < k → w c ≤ 9) → ldN w b p k ≤ 9 * k
  | 0, _ => Nat.le_refl _
  | k + 1, h => by
    have := ldN_le (p := p) (b := b) k (fun c hc => h c (by omega))
    have := h k (by omega)
    simp only [ldN]
    split <;> omega
def load (M : AM) (S : Nat → Bool) (p : Nat) : Nat := ldN M.wt (br M.cl M.wl S) p 96
def rest (M : AM) (S : Nat → Bool) (p : Nat) : Nat := ldN (fun _ => 1) (br M.cl M.wl S) p 96
def tm (M : AM) (S : Nat → Bool) (p : Nat) : Bool := S p && decide (M.sg p < load M S p)
def nx (M : AM) (S : Nat → Bool) (p : Nat) : Bool := S p && !tm M S p
def it (M : AM) (S : Nat → Bool) : Nat → Nat → Bool
  | 0 => S
  | k + 1 => nx M (it M S k)
theorem load_lt {M : AM} (hM : OK M) (S : Nat → Bool) (p : Nat) : load M S p ≤ 864 := ldN_le (w := M.wt) (b := br M.cl M.wl S) (p := p) 96 hM.2.2.2.2.2
theorem rest_lt (M : AM) (S : Nat → Bool) (p : Nat) : rest M S p ≤ 864 := ldN_le (w := fun _ => 1) (b := br M.cl M.wl S) (p := p) 96 (fun _ _ => by omega)
