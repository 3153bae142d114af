/-- a number of 0 to n - 1 -/
def rgC (n : Nat) (v : Int32) : Bool := decide (0 ≤ v ∧ v < nI n)
abbrev plC (v : Int32) : Bool := rgC 4 v
abbrev gsC (g : Nat) (v : Int32) : Bool := rgC g v
theorem rgC_f1 {n : Nat} {v : Int32} (h : v < 0) : rgC n v = false := by
  simp only [rgC, decide_eq_false_iff_not]
  intro q
  exact absurd (Int32.lt_of_lt_of_le h q.1) (Int32.lt_irrefl)
theorem rgC_f2 {n : Nat} {v : Int32} (h : ¬ v < nI n) : rgC n v = false := by
  simp only [rgC, decide_eq_false_iff_not]
  exact fun q => h q.2
theorem rgC_f3 {n : Nat} {v : Int32} (h : nI n ≤ v) : rgC n v = false := rgC_f2 (Int32.not_lt.mpr h)
theorem rgC_t {n : Nat} {v : Int32} (h1 : ¬ v < 0) (h2 : v < nI n) : rgC n v = true := by
  simp only [rgC, decide_eq_true_eq]
  exact ⟨Int32.not_lt.mp h1, h2⟩
theorem rgC_t2 {n : Nat} {v : Int32} (h1 : ¬ v < 0) (h2 : ¬ nI n ≤ v) : rgC n v = true := rgC_t h1 (Int32.not_le.mp h2)
theorem rgC_of {n : Nat} {v : Int32} (h : rgC n v = true) (hn : n < 2 ^ 31) : ∃ k, k < n ∧ v = nI k := by
  simp only [rgC, decide_eq_true_eq] at h
  obtain ⟨k, hk, rfl⟩ := nI_of (x := v) (fun h2 => Int32.lt_irrefl (Int32.lt_of_lt_of_le h2 h.1))
  exact ⟨k, (nI_ltI hk hn).mp h.2, rfl⟩
theorem rgC_nI {n k : Nat} (hk : k < n) (hn : n < 2 ^ 31) : rgC n (nI k) = true := rgC_t (nI_pos (by omega)) (nI_lt hk hn)
theorem sw_cases (x : Int32) (n : Nat) (hi : Int) (h1 : hi + 1 = (n : Int)) (h2 : n < 2 ^ 31) : (x.toInt < 0 ∨ hi < x.toInt) ∨ ∃ j, j < n ∧ x = nI j := by
  rcases Int.lt_or_le x.toInt 0 with h | h
  · exact Or.inl (Or.inl h)
  · rcases Int.lt_or_le hi x.toInt with q | q
    · exact Or.inl (Or.inr q)
    · right
      have hv : vp_in x n := vp_in_iff.mpr ⟨h, by omega⟩
      exact vp_in_of hv h2
theorem rgC_f {n : Nat} {hi : Int} {v : Int32} (hn : hi + 1 = (n : Int) ∧ n < 2 ^ 31) (h : v.toInt < 0 ∨ hi < v.toInt) : rgC n v = false := by
  cases e : rgC n v with
  | false => rfl
  | true =>
    obtain ⟨k, hk, rfl⟩ := rgC_of e hn.2
    rw [nI_toInt (by omega)] at h
    omega
theorem plC_f1 {v : Int32} (h : v < 0) : plC v = false := rgC_f1 h
theorem plC_f2 {v : Int32} (h : ¬ v < nI 4) : plC v = false := rgC_f2 h
theorem plC_t {v : Int32} (h1 : ¬ v < 0) (h2 : v < nI 4) : plC v = true := rgC_t h1 h2
theorem plC_of {v : Int32} (h : plC v = true) : ∃ k, k < 4 ∧ v = nI k := rgC_of h (by decide)
theorem plC_nI {k : Nat} (hk : k < 4) : plC (nI k) = true := rgC_nI hk (by decide)
theorem gsC_f1 {g : Nat} {v : Int32} (h : v < 0) : gsC g v = false := rgC_f1 h
theorem gsC_f2 {g : Nat} {v : Int32} (h : nI g ≤ v) : gsC g v = false := rgC_f3 h
theorem gsC_t {g : Nat} {v : Int32} (h1 : ¬ v < 0) (h2 : ¬ nI g ≤ v) : gsC g v = true := rgC_t2 h1 h2
theorem gsC_12 {g : Nat} {v : Int32} (hg : g ≤ 12) (h : ¬ nI g ≤ v) : ¬ (12 : Int32) ≤ v := fun q => by
  have h1 : v < nI g := Int32.not_le.mp h
  have h2 : nI g ≤ nI 12 := nI_le hg (by decide)
  exact Int32.lt_irrefl (Int32.lt_of_lt_of_le (Int32.lt_of_le_of_lt q h1) h2)
theorem gsC_of {g : Nat} {v : Int32} (hg : g ≤ 12) (h : gsC g v = true) : ∃ k, k < g ∧ v = nI k := rgC_of h (by omega)
theorem gsC_nI {g i : Nat} (hi : i < g) (hg : g ≤ 12) : gsC g (nI i) = true := rgC_nI hi (by omega)
theorem pk_sub1 {g : Nat} (h : 0 < g) : nI g - 1 = nI (g - 1) := pk_sub (a := g) (b := 1) h
theorem gs_last {g : Nat} (hg : g ≤ 12) : gsC g (nI g - 1) = decide (0 < g) := by
  rcases Nat.eq_zero_or_pos g with h | h
  · subst h; decide
  · rw [pk_sub1 h, gsC_nI (by omega) hg, decide_eq_true h]
def pinC (b w : Int32) : Bool := decide (0 ≤ b ∧ 0 ≤ w ∧ w ≤ 4 - b ∧ ¬ (b = 3 ∧ w = 1))
theorem pinC_f1 {b w : Int32} (h : b < 0) : pinC b w = false := by
  simp only [pinC, decide_eq_false_iff_not]
  exact fun q => Int32.lt_irrefl (Int32.lt_of_lt_of_le h q.1)
theorem pinC_f2 {b w : Int32} (h : w < 0) : pinC b w = false := by
  simp only [pinC, decide_eq_false_iff_not]
  exact fun q => Int32.lt_irrefl (Int32.lt_of_lt_of_le h q.2.1)
theorem pinC_f3 {b w : Int32} (h : ¬ w ≤ 4 - b) : pinC b w = false := by
  simp only [pinC, decide_eq_false_iff_not]
  exact fun q => h q.2.2.1
theorem pinC_f4 {b w : Int32} (h : b = 3) (h2 : w = 1) : pinC b w = false := by
  simp only [pinC, decide_eq_false_iff_not]
  exact fun q => q.2.2.2 ⟨h, h2⟩
theorem pinC_t {b w : Int32} (h1 : ¬ b < 0) (h2 : ¬ w < 0) (h3 : w ≤ 4 - b) (h4 : ¬ (b = 3 ∧ w = 1)) : pinC b w = true := by
  simp only [pinC, decide_eq_true_eq]
  exact ⟨Int32.not_lt.mp h1, Int32.not_lt.mp h2, h3, h4⟩
theorem pinC_of {b w : Int32} (h : pinC b w = true) : ∃ nb nw : Nat, nb + nw ≤ 4 ∧ b = nI nb ∧ w = nI nw := by
  simp only [pinC, decide_eq_true_eq] at h
  obtain ⟨h1, h2, h3, -⟩ := h
  obtain ⟨nb, hb, rfl⟩ := nI_of (x := b) (fun q => Int32.lt_irrefl (Int32.lt_of_lt_of_le q h1))
  obtain ⟨nw, hw, rfl⟩ := nI_of (x := w) (fun q => Int32.lt_irrefl (Int32.lt_of_lt_of_le q h2))
  refine ⟨nb, nw, ?_, rfl, rfl⟩
  have e1 : (nI nb).toInt = nb := nI_toInt hb
  have e2 : (nI nw).toInt = nw := nI_toInt hw
  have e3 : (4 - nI nb).toInt = 4 - (nb : Int) := by
    rw [Int32.toInt_sub, e1]
    show ((4 : Int32).toInt - (nb : Int)).bmod (2 ^ 32) = _
    rw [show (4 : Int32).toInt = 4 from rfl, Int.bmod_eq_of_le (by omega) (by omega)]
  have h4 : (nI nw).toInt ≤ (4 - nI nb).toInt := Int32.le_iff_toInt_le.mp h3
  omega
theorem code_up {c g : Nat} {code ans : Nat → Nat} {cd an : Nat} (h : CodeOK c g code ans) (h1 : cd < qq c) (h2 : an < 32) : CodeOK c (g + 1) (va_up code g cd) (va_up ans g an) := by
  intro i hi
  by_cases e : i = g
  · subst e; simp [va_up, h1, h2]
  · simp only [va_up, if_neg e]; exact h i (by omega)
theorem code_dn {c g : Nat} {code ans : Nat → Nat} (h : CodeOK c g code ans) : CodeOK c (g - 1) code ans := fun i hi => h i (by omega)
theorem code_le {c g n : Nat} {code ans : Nat → Nat} (h : CodeOK c g code ans) (hn : n ≤ g) : CodeOK c n code ans := fun i hi => h i (by omega)
def XI (c g : Nat) (hid : Int32) (code ans : Nat → Nat) (dbt opn : Nat → Bool) : Prop := (c = 2 ∨ c = 3) ∧ g ≤ 12 ∧ CodeOK c g code ans ∧ (hid = -1 ∨ ∃ h, h < qq c ∧ hid = nI h) ∧ ∀ k, k < 81 → opn k = opS c g code ans dbt k
theorem op_lt2 {c g : Nat} {code ans : Nat → Nat} {dbt : Nat → Bool} {k : Nat} (h : opS c g code ans dbt k = true) : k < qq c := by
  simp only [opS, Bool.and_eq_true, decide_eq_true_eq] at h; exact h.1
theorem op_lt {c g : Nat} {code ans : Nat → Nat} {dbt opn : Nat → Bool} (h : ∀ k, k < 81 → opn k = opS c g code ans dbt k) : ∀ k, k < 81 → opn k = true → k < qq c := fun k hk q => op_lt2 ((h k hk).symm.trans q)
theorem cN_s {p : Nat → Bool} {n : Nat} (h : p n = true) : cN p (n + 1) = cN p n + 1 := by simp only [cN, h, if_true]
theorem cN_n {p : Nat → Bool} {n : Nat} (h : p n = false) : cN p (n + 1) = cN p n := by simp [cN, h]
def swF (c h pa pb : Nat) : Nat → Nat
  | 0 => 0
  | n + 1 => swF c h pa pb n * c + col c h (if n = pa then pb else if n = pb then pa else n)
noncomputable def tldV (c : Nat) (code ans : Nat → Nat) (dbt : Nat → Bool) (i w : Nat) : Nat := match w with
  | 0 => code i
  | 1 => ans i / 5
  | 2 => ans i % 5
  | 3 => if dbt i = true then 1 else 0
  | 4 => cN (fit c code ans dbt (i + 1)) (qq c)
  | _ => cN (fun k => decide (pins c (code i) k = ans i)) (qq c)
noncomputable def cntV (c g : Nat) (hid : Int32) (code ans : Nat → Nat) (dbt : Nat → Bool) (w : Nat) : Nat := match w with
  | 0 => c
  | 1 => qq c
  | 2 => g
  | 3 => cN (opS c g code ans dbt) 81
  | 4 => if hid = -1 then 0 else 1
  | 5 => cN (fun z => decide (ans z = 20)) g
  | _ => cN dbt g
def hvN (c : Nat) (sb : Nat → Bool) (p x : Nat) : Nat := cN (fun k => sb k && decide (col c k p = x)) 81
theorem hv_congr {sa sb : Nat → Bool} (h : ∀ k, k < 81 → sa k = sb k) {c p x : Nat} : cN (fun k => sa k && decide (col c k p = x)) 81 = cN (fun k => sb k && decide (col c k p = x)) 81 := cN_congr 81 (fun k hk => by rw [h k hk])
theorem hvN_le (c : Nat) (sb : Nat → Bool) (p x : Nat) : hvN c sb p x ≤ 81 := cN_le _ _
theorem memA_congr_n {sa sb : Nat → Bool} (n : Nat) (h : ∀ k, k < n → sa k = sb k) {v : Int32} : memA sa v n = memA sb v n := by
  induction n with
  | zero => rfl
  | succ n ih =>
    have e1 := ih (fun k hk => h k (by omega))
    have e2 : cN sa n = cN sb n := cN_congr n (fun k hk => h k (by omega))
    simp only [memA, e1, e2, h n (by omega)]
theorem memA_congr {sa sb : Nat → Bool} (h : ∀ k, k < 81 → sa k = sb k) {v : Int32} : memA sa v 81 = memA sb v 81 := memA_congr_n 81 h
theorem memA_of_n {sb : Nat → Bool} {v : Int32} (n : Nat) (h : ¬ memA sb v n = -1) : ∃ k, k < n ∧ sb k = true ∧ nI (cN sb k) = v ∧ memA sb v n = nI k := by
  induction n with
  | zero => exact absurd rfl h
  | succ n ih =>
    by_cases h1 : memA sb v n = -1
    · simp only [memA, h1, if_true] at h ⊢
      by_cases h2 : sb n = true ∧ nI (cN sb n) = v
      · rw [if_pos h2] at h ⊢; exact ⟨n, Nat.lt_succ_self n, h2.1, h2.2, rfl⟩
      · rw [if_neg h2] at h; exact absurd rfl h
    · obtain ⟨k, hk, a, b, e⟩ := ih h1
      refine ⟨k, by omega, a, b, ?_⟩
      rw [memA, if_neg h1, e]
theorem memA_of {sb : Nat → Bool} {v : Int32} (h : ¬ memA sb v 81 = -1) : ∃ k, k < 81 ∧ sb k = true ∧ memA sb v 81 = nI k := by
  obtain ⟨k, a, b, -, d⟩ := memA_of_n 81 h; exact ⟨k, a, b, d⟩
theorem cN_and_le {p q : Nat → Bool} (n : Nat) : cN (fun k => p k && q k) n ≤ cN p n := by
  induction n with
  | zero => exact Nat.le_refl _
  | succ n ih =>
    cases hp : p n with
    | false => rw [cN_n (p := fun k => p k && q k) (by simp [hp]), cN_n hp]; exact ih
    | true =>
      cases hq : q n with
      | false => rw [cN_n (p := fun k => p k && q k) (by simp [hq]), cN_s hp]; omega
      | true => rw [cN_s (p := fun k => p k && q k) (by simp [hp, hq]), cN_s hp]; omega
theorem cN_all {p q : Nat → Bool} {n : Nat} (h : cN (fun k => p k && q k) n = cN p n) : ∀ k, k < n → p k = true → q k = true := by
  induction n with
  | zero => intro k hk; omega
  | succ n ih =>
    have hle := cN_and_le (p := p) (q := q) n
    intro k hk hpk
    cases hp : p n with
    | false =>
      rw [cN_n (p := fun k => p k && q k) (by simp [hp]), cN_n hp] at h
      by_cases e : k = n
      · subst e; rw [hp] at hpk; cases hpk
      · exact ih h k (by omega) hpk
    | true =>
      cases hq : q n with
      | false => rw [cN_n (p := fun k => p k && q k) (by simp [hq]), cN_s hp] at h; omega
      | true =>
        rw [cN_s (p := fun k => p k && q k) (by simp [hp, hq]), cN_s hp] at h
        by_cases e : k = n
        · subst e; exact hq
        · exact ih (by omega) k (by omega) hpk
theorem cN_zero {p : Nat → Bool} {n : Nat} (h : ∀ k, k < n → p k = false) : cN p n = 0 := by
  induction n with
  | zero => rfl
  | succ n ih => rw [cN_n (h n (by omega))]; exact ih (fun k hk => h k (by omega))
theorem cN_pos {p : Nat → Bool} {n k : Nat} (hk : k < n) (h : p k = true) : 0 < cN p n := by
  induction n with
  | zero => omega
  | succ n ih =>
    by_cases e : k = n
    · subst e; rw [cN_s h]; omega
    · have := ih (by omega); simp only [cN]; omega
/-- the colour that all of the set have at a place, of the first n; -1 if there is none -/
def sureV (c : Nat) (sb : Nat → Bool) (p : Nat) : Nat → Int32
  | 0 => -1
  | n + 1 => if sureV c sb p n = -1 then (if 0 < cN sb 81 ∧ hvN c sb p n = cN sb 81 then nI n else -1) else sureV c sb p n
theorem nI_ne_m1 {k : Nat} (hk : k < 2 ^ 31) : ¬ nI k = -1 := fun q => by
  have h1 : (0 : Int32) ≤ nI k := nI_pos' hk
  rw [q] at h1
  exact absurd h1 (by decide)
theorem sure_none {c : Nat} {sb : Nat → Bool} {p : Nat} (n : Nat) (h : ∀ x, x < n → ¬ (0 < cN sb 81 ∧ hvN c sb p x = cN sb 81)) : sureV c sb p n = -1 := by
  induction n with
  | zero => rfl
  | succ n ih => rw [sureV, if_pos (ih (fun x hx => h x (by omega))), if_neg (h n (by omega))]
theorem sure_some {c : Nat} {sb : Nat → Bool} {p x : Nat} (n : Nat) (hx : x < n) (h0 : 0 < cN sb 81) (hh : hvN c sb p x = cN sb 81) (hl : ∀ y, y < x → ¬ hvN c sb p y = cN sb 81) (hn : n < 2 ^ 31) : sureV c sb p n = nI x := by
  induction n with
  | zero => omega
  | succ n ih =>
    by_cases e : x = n
    · subst e
      rw [sureV, if_pos (sure_none _ (fun y hy q => hl y hy q.2)), if_pos ⟨h0, hh⟩]
    · have e1 := ih (by omega) (by omega)
      rw [sureV, e1, if_neg (nI_ne_m1 (by omega))]
theorem sure_0 {c : Nat} {sb : Nat → Bool} (h : memA sb 0 81 = -1) (p : Nat) : sureV c sb p c = -1 := by
  have hz : ∀ n, n ≤ 81 → cN sb n = 0 := by
    intro n hn
    induction n with
    | zero => rfl
    | succ n ih =>
      have e := ih (by omega)
      cases hs : sb n with
      | false => rw [cN_n hs, e]
      | true =>
        have hm : memA sb 0 n = -1 := by
          by_cases q : memA sb 0 n = -1
          · exact q
          · obtain ⟨k, hk, a, -, -⟩ := memA_of_n n q
            have := cN_pos (p := sb) hk a
            omega
        have := memA_hit (v := 0) (n := 81) (by omega : n < 81) hm hs (by rw [e]; rfl)
        rw [this] at h
        exact absurd h (nI_ne_m1 (by omega))
  exact sure_none _ (fun x _ q => by have := hz 81 (Nat.le_refl _); omega)
theorem sure_1 {c : Nat} {sb : Nat → Bool} {p k : Nat} (hc : c = 2 ∨ c = 3) (hk : k < 81) (hs : sb k = true) (h : hvN c sb p (col c k p) = cN sb 81) (hcl : col c k p < c) : sureV c sb p c = nI (col c k p) := by
  refine sure_some c hcl (cN_pos hk hs) h (fun y hy q => ?_) (by omega)
  have := cN_all (p := sb) (q := fun z => decide (col c z p = y)) q k hk hs
  have := of_decide_eq_true this
  omega
theorem sure_2 {c : Nat} {sb : Nat → Bool} {p k : Nat} (hc : c = 2 ∨ c = 3) (hk : k < 81) (hs : sb k = true) (h : ¬ hvN c sb p (col c k p) = cN sb 81) : sureV c sb p c = -1 := by
  refine sure_none c (fun x hx q => ?_)
  have := cN_all (p := sb) (q := fun z => decide (col c z p = x)) q.2 k hk hs
  have := of_decide_eq_true this
  subst this
  exact h q.2
theorem hpN_congr {sa sb : Nat → Bool} (h : ∀ k, k < 81 → sa k = sb k) {c a x : Nat} : hpN c a sa x = hpN c a sb x := cN_congr 81 (fun k hk => by rw [h k hk])
theorem mxN_congr {f g : Nat → Nat} (n : Nat) (h : ∀ k, k < n → f k = g k) : mxN f n = mxN g n := by
  induction n with
  | zero => rfl
  | succ n ih => simp only [mxN, ih (fun k hk => h k (by omega)), h n (by omega)]
theorem gh_congr {sa sb : Nat → Bool} (h : ∀ k, k < 81 → sa k = sb k) {c a : Nat} : gh c a sa = gh c a sb := by
  rw [gh_eq, gh_eq]; exact mxN_congr 21 (fun x _ => hpN_congr h)
theorem lbS_congr {sa sb : Nat → Bool} (h : ∀ k, k < 81 → sa k = sb k) {c : Nat} {only : Bool} (n : Nat) (hn : n ≤ 81) : lbS c sa only n = lbS c sb only n := by
  induction n with
  | zero => rfl
  | succ n ih => rw [lbS_step, lbS_step, ih (by omega), h n (by omega), gh_congr h]
theorem lbR_congr {sa sb : Nat → Bool} (h : ∀ k, k < 81 → sa k = sb k) {c : Nat} {only : Bool} (hc : qq c ≤ 81 := by omega) : lbR c sa only = lbR c sb only := by
  simp only [lbR, cN_congr 81 h, lbS_congr h (qq c) hc]
def dgm (d : Int64) (x : Int32) : Int64 := d * 31 + x.toInt64
