abbrev MSt : Type := Nat × (Nat → Nat) × (Nat → Nat) × (Nat → Nat) × (Nat → Nat)
def WM (bd : Nat → Nat) (cI : ClassId) (th c : Nat) (hid : Int32) (g : Nat) (code ans : Nat → Nat) (dbt : Nat → Bool) (many : Nat) (row heap our the : Nat → Nat) (wr : va_W) : va_W :=
  (bd 0, .inr (2, [.int (nI th), .int (nI c), .int hid, .int (nI g), .ref (bd 1), .ref (bd 2), .ref (bd 3), .int (nI many), .ref (bd 4), .ref (bd 5), .ref (bd 6), .ref (bd 7)])) ::
  (bd 1, .inl (cI, 12, .inl (fun j => nI (code j)))) :: (bd 2, .inl (cI, 12, .inl (fun j => nI (ans j)))) :: (bd 3, .inl (cI, 12, .inl (fun j => bI (dbt j)))) ::
  (bd 4, .inl (cI, 81, .inl (fun j => nI (row j)))) :: (bd 5, .inl (cI, 21, .inl (fun j => nI (heap j)))) :: (bd 6, .inl (cI, 3, .inl (fun j => nI (our j)))) :: (bd 7, .inl (cI, 3, .inl (fun j => nI (the j)))) :: wr
def inC (v lo hi : Int32) : Bool := decide (lo ≤ v ∧ v ≤ hi)
theorem inC_f1 {v lo hi : Int32} (h : v < lo) : inC v lo hi = false := by
  simp only [inC, decide_eq_false_iff_not]; exact fun q => Int32.lt_irrefl (Int32.lt_of_lt_of_le h q.1)
theorem inC_f2 {v lo hi : Int32} (h : hi < v) : inC v lo hi = false := by
  simp only [inC, decide_eq_false_iff_not]; exact fun q => Int32.lt_irrefl (Int32.lt_of_lt_of_le h q.2)
theorem inC_t {v lo hi : Int32} (h1 : ¬ v < lo) (h2 : ¬ hi < v) : inC v lo hi = true := by
  simp only [inC, decide_eq_true_eq]; exact ⟨Int32.not_lt.mp h1, Int32.not_lt.mp h2⟩
theorem bool_iff {a b : Bool} (h : a = true ↔ b = true) : a = b := by cases a <;> cases b <;> simp_all
theorem in_rg {n m : Nat} {v : Int32} (h : m + 1 = n) (hn : n < 2 ^ 31) : inC v (nI 0) (nI m) = rgC n v := by
  apply bool_iff
  simp only [inC, rgC, decide_eq_true_eq]
  have e1 : (nI m).toInt = m := nI_toInt (by omega)
  have e2 : (nI n).toInt = n := nI_toInt hn
  rw [Int32.le_iff_toInt_le, Int32.le_iff_toInt_le, Int32.le_iff_toInt_le, Int32.lt_iff_toInt_lt, e1, e2]
  show (0 : Int) ≤ v.toInt ∧ v.toInt ≤ (m : Int) ↔ (0 : Int) ≤ v.toInt ∧ v.toInt < (n : Int)
  omega
theorem in_gs {g : Nat} {v : Int32} (hg : g < 2 ^ 30) : inC v (nI 0) (nI g - 1) = rgC g v := by
  rcases Nat.eq_zero_or_pos g with h | h
  · subst h
    rw [show rgC 0 v = false from by
      cases e : rgC 0 v with
      | false => rfl
      | true => obtain ⟨k, hk, -⟩ := rgC_of e (by decide); omega]
    simp only [inC, decide_eq_false_iff_not]
    intro q
    have h1 := Int32.le_iff_toInt_le.mp q.1
    have h2 := Int32.le_iff_toInt_le.mp q.2
    have h3 : (nI 0 - 1 : Int32).toInt = -1 := by decide
    have h4 : (nI 0 : Int32).toInt = 0 := by decide
    omega
  · rw [pk_sub1 h]; exact in_rg (by omega) (by omega)
theorem in23 {v : Int32} (h : inC v (nI 2) (nI 3) = true) : ∃ k : Nat, (k = 2 ∨ k = 3) ∧ v = nI k := by
  simp only [inC, decide_eq_true_eq] at h
  have h1 := Int32.le_iff_toInt_le.mp h.1
  have h2 := Int32.le_iff_toInt_le.mp h.2
  have e2 : (nI 2).toInt = 2 := by decide
  have e3 : (nI 3).toInt = 3 := by decide
  rcases (show v.toInt = 2 ∨ v.toInt = 3 by omega) with q | q
  · exact ⟨2, Or.inl rfl, Int32.toInt_inj.mp (by rw [q, e2])⟩
  · exact ⟨3, Or.inr rfl, Int32.toInt_inj.mp (by rw [q, e3])⟩
theorem in23_f {v : Int32} (h : inC v (nI 2) (nI 3) = false) : ¬ v = 2 ∧ ¬ v = 3 := by
  refine ⟨fun q => ?_, fun q => ?_⟩ <;> (subst q; revert h; decide)
theorem pw_pos {c : Nat} (hc : c = 2 ∨ c = 3) (p : Nat) : 0 < c ^ (3 - p) := Nat.pow_pos (by omega)
theorem pw_le {c : Nat} (hc : c = 2 ∨ c = 3) (p : Nat) : c ^ (3 - p) ≤ 27 := by
  have h1 : c ^ (3 - p) ≤ 3 ^ (3 - p) := Nat.pow_le_pow_left (by omega) _
  have h2 : 3 ^ (3 - p) ≤ 3 ^ 3 := Nat.pow_le_pow_right (by omega) (by omega)
  omega
theorem cnt_up {c a j : Nat} {o2 : Nat → Nat} (h : ∀ z, z < c → o2 z = cN (fun p => decide (col c a p = z)) j) : ∀ z, z < c → va_up o2 (col c a j) (o2 (col c a j) + 1) z = cN (fun p => decide (col c a p = z)) (j + 1) := by
  intro z hz
  by_cases e : col c a j = z
  · rw [cN_s (p := fun p => decide (col c a p = z)) (decide_eq_true e), ← h z hz, e]; simp [va_up]
  · rw [cN_n (p := fun p => decide (col c a p = z)) (decide_eq_false e), ← h z hz]; simp only [va_up, if_neg (fun q => e (Eq.symm q))]
theorem sN_congr {f g : Nat → Nat} (n : Nat) (h : ∀ i, i < n → f i = g i) : sN f n = sN g n := by
  induction n with
  | zero => rfl
  | succ n ih => simp only [sN]; rw [ih (fun i hi => h i (by omega)), h n (by omega)]
theorem pinsD_of {c a b j : Nat} {o2 t2 : Nat → Nat} (e : j = 4) (h1 : ∀ z, z < c → o2 z = cN (fun p => decide (col c a p = z)) j) (h2 : ∀ z, z < c → t2 z = cN (fun p => decide (col c b p = z)) j) : pinsD c a b = 5 * cN (fun p => decide (col c a p = col c b p)) j + sN (fun z => min (o2 z) (t2 z)) c - cN (fun p => decide (col c a p = col c b p)) j := by
  subst e
  rw [sN_congr c (fun z hz => by rw [h1 z hz, h2 z hz])]
  rfl
def RowOK (row : Nat → Nat) (m : Nat) (p : Nat → Bool) (n : Nat) : Prop := m = cN p n ∧ ∀ k, k < n → p k = true → row (cN p k) = k
abbrev RowS (row : Nat → Nat) (m : Nat) (sb : Nat → Bool) : Prop := RowOK row m sb 81
theorem row_0 {row : Nat → Nat} {p : Nat → Bool} : RowOK row 0 p 0 := ⟨rfl, fun k hk => absurd hk (Nat.not_lt_zero _)⟩
theorem row_n {row : Nat → Nat} {p : Nat → Bool} {m i : Nat} (h : RowOK row m p i) (hp : p i = false) : RowOK row m p (i + 1) := by
  refine ⟨by rw [cN_n hp]; exact h.1, fun k hk q => ?_⟩
  by_cases e : k = i
  · rw [e, hp] at q; cases q
  · exact h.2 k (by omega) q
theorem cN_mono {p : Nat → Bool} {a b : Nat} (h : a ≤ b) : cN p a ≤ cN p b := by
  induction b with
  | zero => rw [show a = 0 by omega]; exact Nat.le_refl _
  | succ b ih =>
    by_cases e : a = b + 1
    · rw [e]; exact Nat.le_refl _
    · have := ih (by omega); simp only [cN]; omega
theorem cN_lt2 {p : Nat → Bool} {k n : Nat} (hk : k < n) (hp : p k = true) : cN p k < cN p n := by
  have h1 := cN_s hp
  have h2 := cN_mono (p := p) (show k + 1 ≤ n by omega)
  omega
theorem row_s {row : Nat → Nat} {p : Nat → Bool} {m i : Nat} (h : RowOK row m p i) (hp : p i = true) : RowOK (va_up row m i) (m + 1) p (i + 1) := by
  refine ⟨by rw [cN_s hp, h.1], fun k hk q => ?_⟩
  by_cases e : k = i
  · subst e; rw [← h.1]; simp [va_up]
  · have h1 := cN_lt2 (show k < i by omega) q
    simp only [va_up, if_neg (show ¬ cN p k = m by have := h.1; omega)]
    exact h.2 k (by omega) q
theorem op_cN' {c n : Nat} {code ans : Nat → Nat} {dbt : Nat → Bool} (k : Nat) : cN (opS c n code ans dbt) k = cN (fit c code ans dbt n) (min k (qq c)) := by
  induction k with
  | zero => rw [Nat.zero_min]; rfl
  | succ k ih =>
    by_cases h : k < qq c
    · rw [show min (k + 1) (qq c) = min k (qq c) + 1 by omega]
      have e : min k (qq c) = k := by omega
      simp only [cN, ih, e, opS, decide_eq_true h, Bool.true_and]
    · rw [cN_n (by rw [opS, decide_eq_false h, Bool.false_and]), ih]; congr 1; omega
theorem op_cN {c n : Nat} {code ans : Nat → Nat} {dbt : Nat → Bool} (hq : qq c ≤ 81) : cN (opS c n code ans dbt) 81 = cN (fit c code ans dbt n) (qq c) := by
  rw [op_cN', show min 81 (qq c) = qq c by omega]
theorem row_op {c n : Nat} {code ans : Nat → Nat} {dbt : Nat → Bool} {row : Nat → Nat} {m : Nat} (hq : qq c ≤ 81) (h : RowOK row m (fit c code ans dbt n) (qq c)) : RowS row m (opS c n code ans dbt) := by
  refine ⟨by rw [op_cN hq]; exact h.1, fun k hk q => ?_⟩
  have hk2 := op_lt2 q
  have q2 : fit c code ans dbt n k = true := by rw [opS, decide_eq_true hk2, Bool.true_and] at q; exact q
  rw [op_cN', show min k (qq c) = k by omega]
  exact h.2 k hk2 q2
theorem row_in_n {row : Nat → Nat} {m : Nat} {sb : Nat → Bool} (n : Nat) (h : RowOK row m sb n) : ∀ j, j < m → ∃ k, k < n ∧ sb k = true ∧ cN sb k = j ∧ row j = k := by
  intro j hj
  have key : ∀ i, i ≤ n → j < cN sb i → ∃ k, k < i ∧ sb k = true ∧ cN sb k = j := by
    intro i hi
    induction i with
    | zero => intro q; exact absurd q (Nat.not_lt_zero _)
    | succ i ih =>
      intro q
      cases hs : sb i with
      | false => rw [cN_n hs] at q; obtain ⟨k, a, b, d⟩ := ih (by omega) q; exact ⟨k, by omega, b, d⟩
      | true =>
        rw [cN_s hs] at q
        by_cases e : cN sb i = j
        · exact ⟨i, by omega, hs, e⟩
        · obtain ⟨k, a, b, d⟩ := ih (by omega) (by omega); exact ⟨k, by omega, b, d⟩
  obtain ⟨k, a, b, d⟩ := key n (Nat.le_refl _) (by rw [← h.1]; exact hj)
  exact ⟨k, a, b, d, by rw [← d]; exact h.2 k a b⟩
theorem row_in {row : Nat → Nat} {m : Nat} {sb : Nat → Bool} (h : RowS row m sb) : ∀ j, j < m → ∃ k, k < 81 ∧ sb k = true ∧ cN sb k = j ∧ row j = k := row_in_n 81 h
theorem row_cN_n {row : Nat → Nat} {sb : Nat → Bool} (f : Nat → Bool) (n : Nat) (h : ∀ k, k < n → sb k = true → row (cN sb k) = k) : cN (fun j => f (row j)) (cN sb n) = cN (fun k => sb k && f k) n := by
  induction n with
  | zero => rfl
  | succ n ih =>
    have e := ih (fun k hk => h k (by omega))
    cases hs : sb n with
    | false => rw [cN_n hs, e, cN_n (p := fun k => sb k && f k) (by simp [hs])]
    | true =>
      have hr := h n (by omega) hs
      cases hf : f n with
      | false => rw [cN_s hs, cN_n (p := fun j => f (row j)) (by simp [hr, hf]), e, cN_n (p := fun k => sb k && f k) (by simp [hf])]
      | true => rw [cN_s hs, cN_s (p := fun j => f (row j)) (by simp [hr, hf]), e, cN_s (p := fun k => sb k && f k) (by simp [hs, hf])]
theorem row_cN {row : Nat → Nat} {m : Nat} {sb : Nat → Bool} (h : RowS row m sb) (f : Nat → Bool) : cN (fun j => f (row j)) m = cN (fun k => sb k && f k) 81 := by
  rw [h.1]; exact row_cN_n f 81 h.2
theorem pile_up {c a j : Nat} {row h4 : Nat → Nat} (h : ∀ x, x < 21 → h4 x = cN (fun z => decide (pins c a (row z) = x)) j) : ∀ x, x < 21 → va_up h4 (pins c a (row j)) (h4 (pins c a (row j)) + 1) x = cN (fun z => decide (pins c a (row z) = x)) (j + 1) := by
  intro x hx
  by_cases e : pins c a (row j) = x
  · rw [cN_s (p := fun z => decide (pins c a (row z) = x)) (decide_eq_true e), ← h x hx, e]; simp [va_up]
  · rw [cN_n (p := fun z => decide (pins c a (row z) = x)) (decide_eq_false e), ← h x hx]; simp only [va_up, if_neg (fun q => e (Eq.symm q))]
def plR (sb : Nat → Bool) (k : Nat) : Int32 := if sb k = true then nI (cN sb k) else -1
theorem plR_m1 {sb : Nat → Bool} {k : Nat} (hk : k < 81) (h : plR sb k = -1) : sb k = false := by
  cases hs : sb k with
  | false => rfl
  | true => rw [plR, if_pos hs] at h; have := cN_le sb k; exact absurd h (nI_ne_m1 (by omega))
theorem plR_n1 {sb : Nat → Bool} {k : Nat} (h : ¬ plR sb k = -1) : sb k = true := by
  cases hs : sb k with
  | true => rfl
  | false => rw [plR, if_neg (by rw [hs]; decide)] at h; exact absurd rfl h
theorem plR_hit {row : Nat → Nat} {m : Nat} {sb : Nat → Bool} {i k : Nat} (h : RowS row m sb) (hi : i < m) (e : row i = k) : plR sb k = nI i := by
  obtain ⟨k2, a1, a2, a3, a4⟩ := row_in h i hi
  rw [e] at a4; subst a4
  rw [plR, if_pos a2, a3]
theorem plR_no {row : Nat → Nat} {m : Nat} {sb : Nat → Bool} {k : Nat} (h : RowS row m sb) (hk : k < 81) (hn : ∀ j, j < m → ¬ row j = k) : plR sb k = -1 := by
  rw [plR, if_neg]
  intro q
  exact hn (cN sb k) (by rw [h.1]; exact cN_lt2 hk q) (h.2 k hk q)
theorem no_up {row : Nat → Nat} {i k : Nat} (h : ∀ j, j < i → ¬ row j = k) (h2 : ¬ row i = k) : ∀ j, j < i + 1 → ¬ row j = k := by
  intro j hj
  by_cases e : j = i
  · rw [e]; exact h2
  · exact h j (by omega)
theorem no_up2 {P : Nat → Prop} {i : Nat} (h : ∀ j, j < i → ¬ P j) (h2 : ¬ P i) : ∀ j, j < i + 1 → ¬ P j := by
  intro j hj
  by_cases e : j = i
  · rw [e]; exact h2
  · exact h j (by omega)
theorem sw_tab2 : ∀ h, h < 16 → ∀ pa, pa < 4 → ∀ pb, pb < 4 → nI h + ((nI (col 2 h pb) - nI (col 2 h pa)) * nI (2 ^ (3 - pa)) + (nI (col 2 h pa) - nI (col 2 h pb)) * nI (2 ^ (3 - pb))) = nI (swF 2 h pa pb 4) := by decide +kernel
theorem sw_tab3 : ∀ h, h < 81 → ∀ pa, pa < 4 → ∀ pb, pb < 4 → nI h + ((nI (col 3 h pb) - nI (col 3 h pa)) * nI (3 ^ (3 - pa)) + (nI (col 3 h pa) - nI (col 3 h pb)) * nI (3 ^ (3 - pb))) = nI (swF 3 h pa pb 4) := by decide +kernel
theorem sw_tab {c h pa pb : Nat} (hc : c = 2 ∨ c = 3) (hh : h < qq c) (ha : pa < 4) (hb : pb < 4) : nI h + ((nI (col c h pb) - nI (col c h pa)) * nI (c ^ (3 - pa)) + (nI (col c h pa) - nI (col c h pb)) * nI (c ^ (3 - pb))) = nI (swF c h pa pb 4) := by
  rcases hc with rfl | rfl
  · exact sw_tab2 h hh pa ha pb hb
  · exact sw_tab3 h hh pa ha pb hb
theorem sw_lt2 : ∀ h, h < 16 → ∀ pa, pa < 4 → ∀ pb, pb < 4 → swF 2 h pa pb 4 < 16 := by decide +kernel
theorem sw_lt3 : ∀ h, h < 81 → ∀ pa, pa < 4 → ∀ pb, pb < 4 → swF 3 h pa pb 4 < 81 := by decide +kernel
theorem sw_lt {c h pa pb : Nat} (hc : c = 2 ∨ c = 3) (hh : h < qq c) (ha : pa < 4) (hb : pb < 4) : swF c h pa pb 4 < qq c := by
  rcases hc with rfl | rfl
  · exact sw_lt2 h hh pa ha pb hb
  · exact sw_lt3 h hh pa ha pb hb
theorem pin_f1 {b w : Int32} (h : rgC 5 b = false) : pinC b w = false := by
  cases e : pinC b w with
  | false => rfl
  | true => obtain ⟨nb, nw, h1, rfl, rfl⟩ := pinC_of e; rw [rgC_nI (by omega) (by decide)] at h; cases h
theorem pin_f2 {b w : Int32} (h : inC w (nI 0) (4 - b) = false) : pinC b w = false := by
  cases e : pinC b w with
  | false => rfl
  | true =>
    simp only [pinC, decide_eq_true_eq] at e
    have h2 : inC w 0 (4 - b) = false := h
    rw [inC_t (Int32.not_lt.mpr e.2.1) (Int32.not_lt.mpr e.2.2.1)] at h2
    cases h2
theorem pin_t {b w : Int32} (h1 : rgC 5 b = true) (h2 : inC w (nI 0) (4 - b) = true) (h3 : ¬ (b = 3 ∧ w = 1)) : pinC b w = true := by
  simp only [rgC, inC, decide_eq_true_eq] at h1 h2
  simp only [pinC, decide_eq_true_eq]
  exact ⟨h1.1, h2.1, h2.2, h3⟩
theorem memA_at {sb : Nat → Bool} {k j : Nat} (hk : k < 81) (hs : sb k = true) (hj : cN sb k = j) : memA sb (nI j) 81 = nI k := by
  have hcl := cN_le sb k
  have hm : memA sb (nI j) k = -1 := by
    by_cases q : memA sb (nI j) k = -1
    · exact q
    · obtain ⟨i, hi, a, b, -⟩ := memA_of_n k q
      have h1 := cN_lt2 hi a
      have h2 := (nI_eq (a := cN sb i) (b := j) (by omega) (by omega)).mp b
      omega
  exact memA_hit (n := 81) hk hm hs (by rw [hj])
theorem memA_out {sb : Nat → Bool} {v : Int32} (h : rgC (cN sb 81) v = false) : memA sb v 81 = -1 := by
  by_cases q : memA sb v 81 = -1
  · exact q
  · obtain ⟨i, hi, a, b, -⟩ := memA_of_n 81 q
    rw [← b, rgC_nI (cN_lt2 hi a) (by have := cN_le sb 81; omega)] at h
    cases h
theorem lb_first (c : Nat) (sb : Nat → Bool) : lbS c sb false 1 = (nI 0, sb 0, gh c 0 sb) := by
  rw [lbS_step, if_pos ⟨Or.inr rfl, Or.inl (by have := gh_le81 c 0 sb; show gh c 0 sb < 82; omega)⟩]
theorem lbm_no1 {c i be le : Nat} {sb : Nat → Bool} (h : lbS c sb false i = (nI be, sb be, le)) (h1 : le < gh c i sb) : lbS c sb false (i + 1) = (nI be, sb be, le) := by
  rw [lbS_step, h, if_neg]; exact fun q => q.2.elim (fun q => by have q : gh c i sb < le := q; omega) (fun q => by have := q.1; have q : gh c i sb = le := this; omega)
theorem lbm_up1 {c i be le : Nat} {sb : Nat → Bool} (h : lbS c sb false i = (nI be, sb be, le)) (h1 : gh c i sb < le) : lbS c sb false (i + 1) = (nI i, sb i, gh c i sb) := by
  rw [lbS_step, h, if_pos ⟨Or.inr rfl, Or.inl h1⟩]
theorem lbm_no2 {c i be le : Nat} {sb : Nat → Bool} (h : lbS c sb false i = (nI be, sb be, le)) (h1 : gh c i sb = le) (h2 : sb i = false) : lbS c sb false (i + 1) = (nI be, sb be, le) := by
  rw [lbS_step, h, if_neg]; exact fun q => q.2.elim (fun q => by have q : gh c i sb < le := q; omega) (fun q => by have := q.2.1; rw [h2] at this; cases this)
theorem lbm_up2 {c i be le : Nat} {sb : Nat → Bool} (h : lbS c sb false i = (nI be, sb be, le)) (h1 : gh c i sb = le) (h2 : sb i = true) (h3 : sb be = false) : lbS c sb false (i + 1) = (nI i, sb i, gh c i sb) := by
  rw [lbS_step, h, if_pos ⟨Or.inr rfl, Or.inr ⟨h1, h2, h3⟩⟩]
theorem lbm_no3 {c i be le : Nat} {sb : Nat → Bool} (h : lbS c sb false i = (nI be, sb be, le)) (h1 : gh c i sb = le) (h3 : sb be = true) : lbS c sb false (i + 1) = (nI be, sb be, le) := by
  rw [lbS_step, h, if_neg]; exact fun q => q.2.elim (fun q => by have q : gh c i sb < le := q; omega) (fun q => by have := q.2.2; have q : sb be = false := this; rw [h3] at q; cases q)
def KeepOK (row r2 : Nat → Nat) (kp : Nat) (f : Nat → Bool) (i : Nat) : Prop := kp = cN (fun j => f (row j)) i ∧ (∀ j, j < i → f (row j) = true → r2 (cN (fun j => f (row j)) j) = row j) ∧ ∀ j, i ≤ j → r2 j = row j
theorem keep_0 {row : Nat → Nat} {f : Nat → Bool} : KeepOK row row 0 f 0 := ⟨rfl, fun j hj => absurd hj (Nat.not_lt_zero _), fun _ _ => rfl⟩
theorem keep_le {row r2 : Nat → Nat} {kp i : Nat} {f : Nat → Bool} (h : KeepOK row r2 kp f i) : kp ≤ i := by rw [h.1]; exact cN_le _ _
theorem keep_s {row r2 : Nat → Nat} {kp i : Nat} {f : Nat → Bool} (h : KeepOK row r2 kp f i) (hf : f (row i) = true) : KeepOK row (va_up r2 kp (row i)) (kp + 1) f (i + 1) := by
  have hle := keep_le h
  refine ⟨by rw [cN_s (p := fun j => f (row j)) hf, h.1], fun j hj q => ?_, fun j hj => ?_⟩
  · by_cases e : j = i
    · subst e; rw [← h.1]; simp [va_up]
    · have h1 := cN_lt2 (p := fun j => f (row j)) (show j < i by omega) q
      simp only [va_up, if_neg (show ¬ cN (fun j => f (row j)) j = kp by have := h.1; omega)]
      exact h.2.1 j (by omega) q
  · simp only [va_up, if_neg (show ¬ j = kp by omega)]; exact h.2.2 j (by omega)
theorem keep_n {row r2 : Nat → Nat} {kp i : Nat} {f : Nat → Bool} (h : KeepOK row r2 kp f i) (hf : f (row i) = false) : KeepOK row r2 kp f (i + 1) := by
  refine ⟨by rw [cN_n (p := fun j => f (row j)) hf]; exact h.1, fun j hj q => ?_, fun j hj => h.2.2 j (by omega)⟩
  by_cases e : j = i
  · rw [e, hf] at q; cases q
  · exact h.2.1 j (by omega) q
theorem keep_row {row r2 : Nat → Nat} {kp m : Nat} {f sb : Nat → Bool} (hR : RowS row m sb) (h : KeepOK row r2 kp f m) : RowS r2 kp (fun z => sb z && f z) := by
  refine ⟨by rw [h.1]; exact row_cN hR f, fun k hk q => ?_⟩
  have q1 : (sb k && f k) = true := q
  rw [Bool.and_eq_true] at q1
  have hr := hR.2 k hk q1.1
  have e : cN (fun z => sb z && f z) k = cN (fun j => f (row j)) (cN sb k) := (row_cN_n f k (fun j hj => hR.2 j (by omega))).symm
  rw [e, h.2.1 (cN sb k) (by rw [hR.1]; exact cN_lt2 hk q1.1) (by rw [hr]; exact q1.2), hr]
noncomputable def lrS (c : Nat) (sb : Nat → Bool) (row : Nat → Nat) : Nat → Int32 × Bool × Nat
  | 0 => (-1, false, 82)
  | i + 1 => if gh c (row i) sb < (lrS c sb row i).2.2 then (nI (row i), true, gh c (row i) sb) else lrS c sb row i
theorem lrs_up1 {c i le : Nat} {sb : Nat → Bool} {row : Nat → Nat} {be : Int32} (h2 : be = (lrS c sb row i).1) (h3 : 0 < i → le = (lrS c sb row i).2.2 ∧ ¬ be = -1) (h : be = -1) (hg : gh c (row i) sb ≤ 81) (hr : row i < 2 ^ 31) : nI (row i) = (lrS c sb row (i + 1)).1 ∧ (0 < i + 1 → gh c (row i) sb = (lrS c sb row (i + 1)).2.2 ∧ ¬ nI (row i) = -1) ∧ gh c (row i) sb ≤ 82 := by
  have h0 : i = 0 := by
    rcases Nat.eq_zero_or_pos i with q | q
    · exact q
    · exact absurd h (h3 q).2
  subst h0
  have e : lrS c sb row (0 + 1) = (nI (row 0), true, gh c (row 0) sb) := by rw [lrS, if_pos]; show gh c (row 0) sb < 82; omega
  rw [e]
  exact ⟨rfl, fun _ => ⟨rfl, nI_ne_m1 hr⟩, by omega⟩
theorem lrs_pos {c i : Nat} {sb : Nat → Bool} {row : Nat → Nat} {be : Int32} (h2 : be = (lrS c sb row i).1) (h : ¬ be = -1) : 0 < i := by
  rcases Nat.eq_zero_or_pos i with q | q
  · subst q; exact absurd h2 h
  · exact q
theorem lrs_up2 {c i le : Nat} {sb : Nat → Bool} {row : Nat → Nat} {be : Int32} (h2 : be = (lrS c sb row i).1) (h3 : 0 < i → le = (lrS c sb row i).2.2 ∧ ¬ be = -1) (h : ¬ be = -1) (hl : gh c (row i) sb < le) (hg : gh c (row i) sb ≤ 81) (hr : row i < 2 ^ 31) : nI (row i) = (lrS c sb row (i + 1)).1 ∧ (0 < i + 1 → gh c (row i) sb = (lrS c sb row (i + 1)).2.2 ∧ ¬ nI (row i) = -1) ∧ gh c (row i) sb ≤ 82 := by
  have e : lrS c sb row (i + 1) = (nI (row i), true, gh c (row i) sb) := by rw [lrS, if_pos]; rw [← (h3 (lrs_pos h2 h)).1]; exact hl
  rw [e]
  exact ⟨rfl, fun _ => ⟨rfl, nI_ne_m1 hr⟩, by omega⟩
theorem lrs_no {c i le : Nat} {sb : Nat → Bool} {row : Nat → Nat} {be : Int32} (h2 : be = (lrS c sb row i).1) (h3 : 0 < i → le = (lrS c sb row i).2.2 ∧ ¬ be = -1) (h : ¬ be = -1) (hl : le ≤ gh c (row i) sb) (h4 : le ≤ 82) : be = (lrS c sb row (i + 1)).1 ∧ (0 < i + 1 → le = (lrS c sb row (i + 1)).2.2 ∧ ¬ be = -1) ∧ le ≤ 82 := by
  have hp := h3 (lrs_pos h2 h)
  have e : lrS c sb row (i + 1) = lrS c sb row i := by rw [lrS, if_neg]; rw [← hp.1]; omega
  rw [e]
  exact ⟨h2, fun _ => hp, h4⟩
theorem lr_in {c : Nat} {sb : Nat → Bool} {row : Nat → Nat} (i : Nat) : (i = 0 ∧ lrS c sb row i = (-1, false, 82)) ∨ (0 < i ∧ (lrS c sb row i).2.1 = true ∧ (lrS c sb row i).2.2 ≤ 81) := by
  induction i with
  | zero => exact Or.inl ⟨rfl, rfl⟩
  | succ i ih =>
    right
    refine ⟨by omega, ?_⟩
    have hg := gh_le81 c (row i) sb
    by_cases q : gh c (row i) sb < (lrS c sb row i).2.2
    · rw [lrS, if_pos q]; exact ⟨rfl, hg⟩
    · rw [lrS, if_neg q]
      rcases ih with h | h
      · rw [h.2] at q; exact absurd (show gh c (row i) sb < 82 by omega) q
      · exact h.2
theorem lr_lb {c : Nat} {sb : Nat → Bool} {row : Nat → Nat} (n : Nat) (h : ∀ k, k < n → sb k = true → row (cN sb k) = k) : lbS c sb true n = lrS c sb row (cN sb n) := by
  induction n with
  | zero => rfl
  | succ n ih =>
    have e := ih (fun k hk => h k (by omega))
    rw [lbS_step, e]
    cases hs : sb n with
    | false =>
      rw [if_neg (fun q => by rcases q.1 with h | h <;> cases h), cN_n hs]
    | true =>
      have hr := h n (by omega) hs
      rw [cN_s hs, lrS, hr]
      by_cases q : gh c n sb < (lrS c sb row (cN sb n)).2.2
      · rw [if_pos ⟨Or.inl rfl, Or.inl q⟩, if_pos q]
      · rw [if_neg q, if_neg]
        intro w
        rcases w.2 with w | w
        · exact q w
        · rcases lr_in (c := c) (sb := sb) (row := row) (cN sb n) with z | z
          · rw [z.2] at q; have := gh_le81 c n sb; exact q (show gh c n sb < 82 by omega)
          · rw [z.2.1] at w; cases w.2.2
theorem lrs_lb {c m : Nat} {sb : Nat → Bool} {row : Nat → Nat} (hq : qq c ≤ 81) (hR : RowS row m sb) (hsb : ∀ k, k < 81 → sb k = true → k < qq c) (hne : 0 < m) : (lrS c sb row m).1 = lbR c sb true := by
  have e1 : ∀ n, qq c ≤ n → n ≤ 81 → cN sb n = cN sb (qq c) := by
    intro n h1 h2
    induction n with
    | zero => rw [show qq c = 0 by omega]
    | succ n ih =>
      by_cases e : n + 1 = qq c
      · rw [e]
      · rw [cN_n (by
          cases hs : sb n with
          | false => rfl
          | true => have := hsb n (by omega) hs; omega)]
        exact ih (by omega) (by omega)
  have hz : ¬ cN sb 81 = 0 := by have := hR.1; omega
  rw [lbR, if_neg hz, lr_lb (row := row) (qq c) (fun k hk => hR.2 k (by omega)), ← e1 81 hq (Nat.le_refl _), ← hR.1]
theorem row_all {c code first m : Nat} {r2 : Nat → Nat} (hq : qq c ≤ 81) (e : m = qq c) (h : ∀ z, z < qq c → r2 z = z) : RowS r2 m (tkP c code first 0).1 := by
  have hc : ∀ n, n ≤ 81 → cN (tkP c code first 0).1 n = min n (qq c) := by
    intro n hn
    induction n with
    | zero => rw [Nat.zero_min]; rfl
    | succ n ih =>
      have e2 := ih (by omega)
      by_cases q : n < qq c
      · rw [cN_s (p := (tkP c code first 0).1) (decide_eq_true q), e2]; omega
      · rw [cN_n (p := (tkP c code first 0).1) (decide_eq_false q), e2]; omega
  refine ⟨by rw [hc 81 (Nat.le_refl _), e]; omega, fun k hk q => ?_⟩
  have q : k < qq c := of_decide_eq_true q
  rw [hc k (by omega), show min k (qq c) = k by omega]
  exact h k q
def dgR (row : Nat → Nat) (d : Int64) : Nat → Int64
  | 0 => d
  | n + 1 => dgm (dgR row d n) (nI (row n))
theorem dgR_K_n {row : Nat → Nat} {sb : Nat → Bool} {d : Int64} (n : Nat) (h : ∀ k, k < n → sb k = true → row (cN sb k) = k) : dgR row d (cN sb n) = dgK sb d n := by
  induction n with
  | zero => rfl
  | succ n ih =>
    have e := ih (fun k hk => h k (by omega))
    cases hs : sb n with
    | false => rw [cN_n hs, e, dgK, if_neg (by rw [hs]; decide)]
    | true => rw [cN_s hs, dgR, e, h n (by omega) hs, dgK, if_pos hs]
theorem dgR_K {row : Nat → Nat} {m : Nat} {sb : Nat → Bool} {d : Int64} (h : RowS row m sb) : dgR row d m = dgK sb d 81 := by
  rw [h.1]; exact dgR_K_n 81 h.2
