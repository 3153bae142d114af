theorem P_perm {D : va_G} {cl : List vw_C} {ws ws' : va_W} {H : Heap} (h : ws.Perm ws') (hP : va_P D cl ws H) : va_P D cl ws' H := by
  intro k q hk
  have h1 : q ∈ ws := h.symm.subset (List.mem_of_getElem? hk)
  obtain ⟨k', hk'⟩ := List.getElem?_of_mem h1
  exact hP k' q hk'
theorem D_iff {A : Nat → Prop} {ws : va_W} : va_D A ws ↔ (ws.map (·.1)).Nodup ∧ ∀ q ∈ ws, A q.1 := by
  constructor
  · intro h
    refine ⟨?_, fun q hq => ?_⟩
    · rw [List.Nodup, List.pairwise_iff_getElem]
      intro i j hi hj hij e
      rw [List.length_map] at hi hj
      rw [List.getElem_map, List.getElem_map] at e
      have := h.1 i j ws[i] ws[j] (List.getElem?_eq_getElem hi) (List.getElem?_eq_getElem hj) e
      omega
    · obtain ⟨k, hk⟩ := List.getElem?_of_mem hq
      exact h.2 k q hk
  · intro h
    refine ⟨fun i j p q hi hj e => ?_, fun k q hk => h.2 q (List.mem_of_getElem? hk)⟩
    obtain ⟨hi1, hi2⟩ := List.getElem?_eq_some_iff.mp hi
    obtain ⟨hj1, hj2⟩ := List.getElem?_eq_some_iff.mp hj
    have hp := List.pairwise_iff_getElem.mp h.1
    rcases Nat.lt_trichotomy i j with q1 | q1 | q1
    · have := hp i j (by rw [List.length_map]; exact hi1) (by rw [List.length_map]; exact hj1) q1
      rw [List.getElem_map, List.getElem_map, hi2, hj2] at this
      exact absurd e this
    · exact q1
    · have := hp j i (by rw [List.length_map]; exact hj1) (by rw [List.length_map]; exact hi1) q1
      rw [List.getElem_map, List.getElem_map, hi2, hj2] at this
      exact absurd e.symm this
theorem D_perm {A : Nat → Prop} {ws ws' : va_W} (h : ws.Perm ws') (hD : va_D A ws) : va_D A ws' := by
  rw [D_iff] at hD ⊢
  exact ⟨(h.map (·.1)).nodup_iff.mp hD.1, fun q hq => hD.2 q (h.symm.subset hq)⟩
theorem lg_cmp_self (x : Int64) : lg_cmp x x = 0 := by simp [lg_cmp]
theorem mean_cmp_tab : ∀ a, a < 73 → ∀ g, g < 13 → 0 < g → Op.cmpValue (FP.dcmp (FP.ddiv (FP.i2d (nI a)) (FP.i2d (nI g))) (FP.ddiv (FP.i2d (nI a)) (FP.i2d (nI g)))) .l = 0 := by decide +kernel
theorem mean_cmp {c g : Nat} {code ans : Nat → Nat} (hg : g ≤ 12) (h : CodeOK c g code ans) : Op.cmpValue (FP.dcmp (meanV g ans) (meanV g ans)) .l = 0 := by
  by_cases h0 : g = 0
  · rw [meanV, if_pos h0]; decide +kernel
  · have := blkS_le h g (Nat.le_refl _)
    rw [meanV, if_neg h0]
    exact mean_cmp_tab _ (by omega) g (by omega) (by omega)
theorem bool_iff {a b : Bool} (h : a = true ↔ b = true) : a = b := by cases a <;> cases b <;> simp_all
theorem cnt_up {c a j : Nat} {o2 : Nat → Nat} (h : ∀ z, z < c → o2 z = cN (fun p => decide (col c a p = z)) j) : ∀ z, z < c → va_up o2 (col c a j) (o2 (col c a j) + 1) z = cN (fun p => decide (col c a p = z)) (j + 1) := by
  intro z hz
  by_cases e : col c a j = z
  · rw [cN_s (p := fun p => decide (col c a p = z)) (decide_eq_true e), ← h z hz, e]; simp [va_up]
  · rw [cN_n (p := fun p => decide (col c a p = z)) (decide_eq_false e), ← h z hz]; simp only [va_up, if_neg (fun q => e (Eq.symm q))]
theorem sN_congr {f g : Nat → Nat} (n : Nat) (h : ∀ i, i < n → f i = g i) : sN f n = sN g n := by
  induction n with
  | zero => rfl
  | succ n ih => simp only [sN]; rw [ih (fun i hi => h i (by omega)), h n (by omega)]
theorem cN_mono {p : Nat → Bool} {a b : Nat} (h : a ≤ b) : cN p a ≤ cN p b := by
  induction b with
  | zero => rw [show a = 0 by omega]; exact Nat.le_refl _
  | succ b ih =>
    by_cases e : a = b + 1
    · rw [e]; exact Nat.le_refl _
    · have := ih (by omega); simp only [cN]; omega
theorem cN_lt2 {p : Nat → Bool} {k n : Nat} (hk : k < n) (hp : p k = true) : cN p k < cN p n := by
  have h1 := cN_s hp
  have h2 := cN_mono (p := p) (show k + 1 ≤ n by omega)
  omega
theorem op_cN' {c n : Nat} {code ans : Nat → Nat} {dbt : Nat → Bool} (k : Nat) : cN (opS c n code ans dbt) k = cN (fit c code ans dbt n) (min k (qq c)) := by
  induction k with
  | zero => rw [Nat.zero_min]; rfl
  | succ k ih =>
    by_cases h : k < qq c
    · rw [show min (k + 1) (qq c) = min k (qq c) + 1 by omega]
      have e : min k (qq c) = k := by omega
      simp only [cN, ih, e, opS, decide_eq_true h, Bool.true_and]
    · rw [cN_n (by rw [opS, decide_eq_false h, Bool.false_and]), ih]; congr 1; omega
theorem op_cN {c n : Nat} {code ans : Nat → Nat} {dbt : Nat → Bool} (hq : qq c ≤ 81) : cN (opS c n code ans dbt) 81 = cN (fit c code ans dbt n) (qq c) := by
  rw [op_cN', show min 81 (qq c) = qq c by omega]
theorem sw_lt2 : ∀ h, h < 16 → ∀ pa, pa < 4 → ∀ pb, pb < 4 → swF 2 h pa pb 4 < 16 := by decide +kernel
theorem sw_lt3 : ∀ h, h < 81 → ∀ pa, pa < 4 → ∀ pb, pb < 4 → swF 3 h pa pb 4 < 81 := by decide +kernel
theorem sw_lt {c h pa pb : Nat} (hc : c = 2 ∨ c = 3) (hh : h < qq c) (ha : pa < 4) (hb : pb < 4) : swF c h pa pb 4 < qq c := by
  rcases hc with rfl | rfl
  · exact sw_lt2 h hh pa ha pb hb
  · exact sw_lt3 h hh pa ha pb hb
theorem memA_at {sb : Nat → Bool} {k j : Nat} (hk : k < 81) (hs : sb k = true) (hj : cN sb k = j) : memA sb (nI j) 81 = nI k := by
  have hcl := cN_le sb k
  have hm : memA sb (nI j) k = -1 := by
    by_cases q : memA sb (nI j) k = -1
    · exact q
    · obtain ⟨i, hi, a, b, -⟩ := memA_of_n k q
      have h1 := cN_lt2 hi a
      have h2 := (nI_eq (a := cN sb i) (b := j) (by omega) (by omega)).mp b
      omega
  exact memA_hit (n := 81) hk hm hs (by rw [hj])
