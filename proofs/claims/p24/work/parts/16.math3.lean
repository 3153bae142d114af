/-- the least bad of a set that is played in, as a number -/
noncomputable def lbI (c : Nat) (sb : Nat → Bool) : Nat := (lbR c sb true).toNatClampNeg
theorem lbS_in {c : Nat} {sb : Nat → Bool} (n : Nat) (hn : n ≤ 81) : (lbS c sb true n = (-1, false, 82) ∧ ∀ k, k < n → sb k = false) ∨ ∃ k, k < n ∧ sb k = true ∧ (lbS c sb true n).1 = nI k := by
  induction n with
  | zero => exact Or.inl ⟨rfl, fun k hk => absurd hk (Nat.not_lt_zero _)⟩
  | succ n ih =>
    rw [lbS_step]
    by_cases hs : sb n = true
    · by_cases hu : (sb n = true ∨ true = false) ∧ (gh c n sb < (lbS c sb true n).2.2 ∨ gh c n sb = (lbS c sb true n).2.2 ∧ sb n = true ∧ (lbS c sb true n).2.1 = false)
      · rw [if_pos hu]; exact Or.inr ⟨n, Nat.lt_succ_self _, hs, rfl⟩
      · rw [if_neg hu]
        rcases ih (by omega) with h | ⟨k, a, b, d⟩
        · exfalso
          apply hu
          refine ⟨Or.inl hs, Or.inl ?_⟩
          rw [h.1]
          have := gh_le81 c n sb
          show gh c n sb < 82
          omega
        · exact Or.inr ⟨k, by omega, b, d⟩
    · have hs' : sb n = false := by cases h : sb n; rfl; exact absurd h hs
      rw [if_neg (fun q => by rcases q.1 with h | h; exact hs h; cases h)]
      rcases ih (by omega) with h | ⟨k, a, b, d⟩
      · refine Or.inl ⟨h.1, fun k hk => ?_⟩
        by_cases e : k = n
        · rw [e]; exact hs'
        · exact h.2 k (by omega)
      · exact Or.inr ⟨k, by omega, b, d⟩
theorem lbI_ok {c : Nat} {sb : Nat → Bool} (hc : qq c ≤ 81) (hsb : ∀ k, k < 81 → sb k = true → k < qq c) (hne : ∃ k, k < qq c ∧ sb k = true) : lbR c sb true = nI (lbI c sb) ∧ lbI c sb < qq c ∧ sb (lbI c sb) = true := by
  obtain ⟨k0, h0, h1⟩ := hne
  have hz : ¬ cN sb 81 = 0 := by have := cN_pos (p := sb) (n := 81) (by omega) h1; omega
  have e : lbR c sb true = (lbS c sb true (qq c)).1 := by rw [lbR, if_neg hz]
  rcases lbS_in (c := c) (sb := sb) (qq c) hc with h | ⟨k, a, b, d⟩
  · exact absurd (h.2 k0 h0) (by rw [h1]; decide)
  · have e2 : lbI c sb = k := by rw [lbI, e, d]; exact nI_clamp (by omega)
    rw [e2, e, d]
    exact ⟨rfl, a, b⟩
/-- a play: the codes that are possible, and the guess that comes next, after n guesses -/
noncomputable def tkP (c code first : Nat) : Nat → (Nat → Bool) × Nat
  | 0 => (fun k => decide (k < qq c), first)
  | n + 1 => (fun k => (tkP c code first n).1 k && decide (pins c (tkP c code first n).2 k = pins c (tkP c code first n).2 code), lbI c (fun k => (tkP c code first n).1 k && decide (pins c (tkP c code first n).2 k = pins c (tkP c code first n).2 code)))
theorem cN_lt {p q : Nat → Bool} {n k : Nat} (h : ∀ j, j < n → q j = true → p j = true) (hk : k < n) (h1 : p k = true) (h2 : q k = false) : cN q n < cN p n := by
  have hle : ∀ m, m ≤ n → cN q m ≤ cN p m := by
    intro m hm
    induction m with
    | zero => exact Nat.le_refl _
    | succ m ih =>
      have := ih (by omega)
      have := h m (by omega)
      simp only [cN]
      cases hq : q m with
      | false => simp; omega
      | true => rw [h m (by omega) hq]; simp; omega
  induction n with
  | zero => omega
  | succ n ih =>
    by_cases e : k = n
    · subst e
      rw [cN_s h1, cN_n h2]
      have := hle k (by omega); omega
    · have h5 := ih (fun j hj => h j (by omega)) (by omega) (fun m hm => hle m (by omega))
      simp only [cN]
      cases hq : q n with
      | false => simp; omega
      | true => rw [h n (by omega) hq]; simp; omega
theorem tk_inv {c code first : Nat} (hc : c = 2 ∨ c = 3) (hk : code < qq c) (hf : first < qq c) (n : Nat) (hno : ∀ m, m < n → ¬ (tkP c code first m).2 = code) :
    (tkP c code first n).1 code = true ∧ (tkP c code first n).2 < qq c ∧ (tkP c code first n).1 (tkP c code first n).2 = true ∧ cN (tkP c code first n).1 81 + n ≤ 81 ∧ (∀ k, (tkP c code first n).1 k = true → k < qq c) := by
  have hq := qq_in hc
  induction n with
  | zero => exact ⟨decide_eq_true hk, hf, decide_eq_true hf, Nat.le_trans (Nat.le_of_eq (Nat.add_zero _)) (cN_le _ _), fun k h => of_decide_eq_true h⟩
  | succ n ih =>
    obtain ⟨h1, h2, h3, h4, h5⟩ := ih (fun m hm => hno m (by omega))
    have hn := hno n (by omega)
    have hcode : (tkP c code first (n + 1)).1 code = true := by
      show ((tkP c code first n).1 code && decide _) = true
      rw [h1, decide_eq_true rfl]; rfl
    have hlt : ∀ k, (tkP c code first (n + 1)).1 k = true → k < qq c := fun k h => h5 k (by
      have h : ((tkP c code first n).1 k && decide _) = true := h
      exact (Bool.and_eq_true_iff.mp h).1)
    have hl := lbI_ok (c := c) (sb := (tkP c code first (n + 1)).1) hq.2 (fun k _ h => hlt k h) ⟨code, hk, hcode⟩
    have hx : (tkP c code first (n + 1)).1 (tkP c code first n).2 = false := by
      show ((tkP c code first n).1 _ && decide _) = false
      rw [decide_eq_false, Bool.and_false]
      intro q
      have t := pins_tab hc h2 hk
      rw [t.2.2.2] at q
      exact hn (t.2.2.1 q.symm)
    have hcard := cN_lt (p := (tkP c code first n).1) (q := (tkP c code first (n + 1)).1) (n := 81) (fun j _ h => by
      have h : ((tkP c code first n).1 j && decide _) = true := h
      exact (Bool.and_eq_true_iff.mp h).1) (by omega : (tkP c code first n).2 < 81) h3 hx
    exact ⟨hcode, hl.2.1, hl.2.2, by omega, hlt⟩
theorem tk_bound {c code first : Nat} (hc : c = 2 ∨ c = 3) (hk : code < qq c) (hf : first < qq c) (n : Nat) (hno : ∀ m, m < n → ¬ (tkP c code first m).2 = code) : n ≤ 80 := by
  have h := tk_inv hc hk hf n hno
  have hq := qq_in hc
  have := cN_pos (p := (tkP c code first n).1) (n := 81) (by omega) h.1
  omega
/-- that many guesses a code takes -/
def tkR (c code first : Nat) (r : Int32) : Prop := ∃ n, n ≤ 80 ∧ (∀ m, m < n → ¬ (tkP c code first m).2 = code) ∧ (tkP c code first n).2 = code ∧ r = nI (n + 1)
theorem tkR_one {c code first : Nat} {r r2 : Int32} (h : tkR c code first r) (h2 : tkR c code first r2) : r = r2 := by
  obtain ⟨n, -, a, b, rfl⟩ := h
  obtain ⟨k, -, a2, b2, rfl⟩ := h2
  rcases Nat.lt_trichotomy n k with q | q | q
  · exact absurd b (a2 n q)
  · rw [q]
  · exact absurd b2 (a k q)
def blkS (ans : Nat → Nat) (g : Nat) : Nat := sN (fun i => ans i / 5) g
theorem blkS_le {c g : Nat} {code ans : Nat → Nat} (h : CodeOK c g code ans) (n : Nat) (hn : n ≤ g) : blkS ans n ≤ 6 * n := by
  induction n with
  | zero => exact Nat.le_refl _
  | succ n ih =>
    have := ih (by omega)
    have := (h n (by omega)).2
    simp only [blkS, sN] at *
    omega
theorem mean_nan : ∀ a, a < 73 → ∀ g, g < 13 → 0 < g → vf_n64 (FP.ddiv (FP.i2d (nI a)) (FP.i2d (nI g))) := by
  unfold vf_n64
  decide +kernel
def meanV (g : Nat) (ans : Nat → Nat) : UInt64 := if g = 0 then FP.dconst0 else FP.ddiv (FP.i2d (nI (blkS ans g))) (FP.i2d (nI g))
noncomputable def dgC (c g : Nat) (hid : Int32) (code ans : Nat → Nat) (dbt : Nat → Bool) : Nat → Int64
  | 0 => 1583
  | n + 1 => dgm (dgC c g hid code ans dbt n) (nI (cntV c g hid code ans dbt n))
noncomputable def dgI (c : Nat) (code ans : Nat → Nat) (dbt : Nat → Bool) (d : Int64) (i : Nat) : Nat → Int64
  | 0 => d
  | w + 1 => dgm (dgI c code ans dbt d i w) (nI (tldV c code ans dbt i w))
noncomputable def dgT (c g : Nat) (hid : Int32) (code ans : Nat → Nat) (dbt : Nat → Bool) : Nat → Int64
  | 0 => dgm (dgC c g hid code ans dbt 7) hid
  | i + 1 => dgI c code ans dbt (dgT c g hid code ans dbt i) i 6
def dgH (c : Nat) (sb : Nat → Bool) (d : Int64) (p : Nat) : Nat → Int64
  | 0 => d
  | x + 1 => dgm (dgH c sb d p x) (nI (hvN c sb p x))
noncomputable def dgP (c g : Nat) (hid : Int32) (code ans : Nat → Nat) (dbt : Nat → Bool) : Nat → Int64
  | 0 => dgT c g hid code ans dbt g
  | p + 1 => dgH c (opS c g code ans dbt) (dgm (dgP c g hid code ans dbt p) (sureV c (opS c g code ans dbt) p c)) p c
def dgK (sb : Nat → Bool) (d : Int64) : Nat → Int64
  | 0 => d
  | k + 1 => if sb k = true then dgm (dgK sb d k) (nI k) else dgK sb d k
noncomputable def digV (c g : Nat) (hid : Int32) (code ans : Nat → Nat) (dbt : Nat → Bool) : Int64 := dgK (opS c g code ans dbt) (dgP c g hid code ans dbt 4) 81
theorem tk_no {c code first n : Nat} (h : ∀ m, m < n → ¬ (tkP c code first m).2 = code) (h2 : ¬ (tkP c code first n).2 = code) : ∀ m, m < n + 1 → ¬ (tkP c code first m).2 = code := by
  intro m hm
  by_cases e : m = n
  · rw [e]; exact h2
  · exact h m (by omega)
