theorem bool_iff {a b : Bool} (h : a = true ↔ b = true) : a = b := by cases a <;> cases b <;> simp_all
theorem cnt_up {c a j : Nat} {o2 : Nat → Nat} (h : ∀ z, z < c → o2 z = cN (fun p => decide (col c a p = z)) j) : ∀ z, z < c → va_up o2 (col c a j) (o2 (col c a j) + 1) z = cN (fun p => decide (col c a p = z)) (j + 1) := by
  intro z hz
  by_cases e : col c a j = z
  · rw [cN_s (p := fun p => decide (col c a p = z)) (decide_eq_true e), ← h z hz, e]; simp [va_up]
  · rw [cN_n (p := fun p => decide (col c a p = z)) (decide_eq_false e), ← h z hz]; simp only [va_up, if_neg (fun q => e (Eq.symm q))]
theorem sN_congr {f g : Nat → Nat} (n : Nat) (h : ∀ i, i < n → f i = g i) : sN f n = sN g n := by
  induction n with
  | zero => rfl
  | succ n ih => simp only [sN]; rw [ih (fun i hi => h i (by omega)), h n (by omega)]
theorem cN_mono {p : Nat → Bool} {a b : Nat} (h : a ≤ b) : cN p a ≤ cN p b := by
  induction b with
  | zero => rw [show a = 0 by omega]; exact Nat.le_refl _
  | succ b ih =>
    by_cases e : a = b + 1
    · rw [e]; exact Nat.le_refl _
    · have := ih (by omega); simp only [cN]; omega
theorem cN_lt2 {p : Nat → Bool} {k n : Nat} (hk : k < n) (hp : p k = true) : cN p k < cN p n := by
  have h1 := cN_s hp
  have h2 := cN_mono (p := p) (show k + 1 ≤ n by omega)
  omega
theorem op_cN' {c n : Nat} {code ans : Nat → Nat} {dbt : Nat → Bool} (k : Nat) : cN (opS c n code ans dbt) k = cN (fit c code ans dbt n) (min k (qq c)) := by
  induction k with
  | zero => rw [Nat.zero_min]; rfl
  | succ k ih =>
    by_cases h : k < qq c
    · rw [show min (k + 1) (qq c) = min k (qq c) + 1 by omega]
      have e : min k (qq c) = k := by omega
      simp only [cN, ih, e, opS, decide_eq_true h, Bool.true_and]
    · rw [cN_n (by rw [opS, decide_eq_false h, Bool.false_and]), ih]; congr 1; omega
theorem op_cN {c n : Nat} {code ans : Nat → Nat} {dbt : Nat → Bool} (hq : qq c ≤ 81) : cN (opS c n code ans dbt) 81 = cN (fit c code ans dbt n) (qq c) := by
  rw [op_cN', show min 81 (qq c) = qq c by omega]
theorem sw_lt2 : ∀ h, h < 16 → ∀ pa, pa < 4 → ∀ pb, pb < 4 → swF 2 h pa pb 4 < 16 := by decide +kernel
theorem sw_lt3 : ∀ h, h < 81 → ∀ pa, pa < 4 → ∀ pb, pb < 4 → swF 3 h pa pb 4 < 81 := by decide +kernel
theorem sw_lt {c h pa pb : Nat} (hc : c = 2 ∨ c = 3) (hh : h < qq c) (ha : pa < 4) (hb : pb < 4) : swF c h pa pb 4 < qq c := by
  rcases hc with rfl | rfl
  · exact sw_lt2 h hh pa ha pb hb
  · exact sw_lt3 h hh pa ha pb hb
theorem memA_at {sb : Nat → Bool} {k j : Nat} (hk : k < 81) (hs : sb k = true) (hj : cN sb k = j) : memA sb (nI j) 81 = nI k := by
  have hcl := cN_le sb k
  have hm : memA sb (nI j) k = -1 := by
    by_cases q : memA sb (nI j) k = -1
    · exact q
    · obtain ⟨i, hi, a, b, -⟩ := memA_of_n k q
      have h1 := cN_lt2 hi a
      have h2 := (nI_eq (a := cN sb i) (b := j) (by omega) (by omega)).mp b
      omega
  exact memA_hit (n := 81) hk hm hs (by rw [hj])
