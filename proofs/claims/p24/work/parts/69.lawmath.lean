theorem sN_add {f g : Nat → Nat} (n : Nat) : sN (fun x => f x + g x) n = sN f n + sN g n := by
  induction n with
  | zero => rfl
  | succ n ih => simp only [sN, ih]; omega
theorem sN_zero (n : Nat) : sN (fun _ => 0) n = 0 := by
  induction n with
  | zero => rfl
  | succ n ih => simp only [sN, ih]
theorem sN_one {a n : Nat} (h : a < n) : sN (fun x => if a = x then 1 else 0) n = 1 := by
  induction n with
  | zero => omega
  | succ n ih =>
    by_cases e : a = n
    · subst e
      have : sN (fun x => if a = x then 1 else 0) a = 0 := by
        rw [sN_congr (g := fun _ => 0) a (fun i hi => if_neg (by omega)), sN_zero]
      simp only [sN, this, if_true]
    · simp only [sN, ih (by omega), if_neg e]
/-- things told apart by a number below m, added up -/
theorem sN_cN {sb : Nat → Bool} {f : Nat → Nat} {m : Nat} (n : Nat) (h : ∀ z, z < n → sb z = true → f z < m) : sN (fun x => cN (fun z => sb z && decide (f z = x)) n) m = cN sb n := by
  induction n with
  | zero => exact sN_zero m
  | succ n ih =>
    have ih := ih (fun z hz => h z (by omega))
    cases hs : sb n with
    | false =>
      rw [cN_n hs, ← ih]
      exact sN_congr m (fun x _ => cN_n (p := fun z => sb z && decide (f z = x)) (by simp [hs]))
    | true =>
      have e2 : sN (fun x => cN (fun z => sb z && decide (f z = x)) (n + 1)) m = sN (fun x => cN (fun z => sb z && decide (f z = x)) n + (if f n = x then 1 else 0)) m := by
        refine sN_congr m (fun x _ => ?_)
        by_cases e : f n = x
        · rw [if_pos e]; exact cN_s (n := n) (p := fun z => sb z && decide (f z = x)) (by simp [hs, e])
        · rw [if_neg e]; exact cN_n (n := n) (p := fun z => sb z && decide (f z = x)) (by simp [hs, e])
      rw [cN_s hs, e2, sN_add, sN_one (h n (by omega) hs), ih]
theorem have_sum {c : Nat} {sb : Nat → Bool} (hc : c = 2 ∨ c = 3) (k : Nat) : sN (fun x => hvN c sb k x) c = cN sb 81 := sN_cN (f := fun z => col c z k) 81 (fun z _ _ => col_lt hc z k)
/-- the last colour that all of the set have at a place -/
def lastV (c : Nat) (sb : Nat → Bool) (p : Nat) : Nat → Int32
  | 0 => -1
  | n + 1 => if 0 < cN sb 81 ∧ hvN c sb p n = cN sb 81 then nI n else lastV c sb p n
theorem hv_uniq {c : Nat} {sb : Nat → Bool} {p x y : Nat} (h0 : 0 < cN sb 81) (hx : hvN c sb p x = cN sb 81) (hy : hvN c sb p y = cN sb 81) : x = y := by
  obtain ⟨k, hk, hs, -⟩ := cN_nth h0
  have a := of_decide_eq_true (cN_all (p := sb) (q := fun z => decide (col c z p = x)) hx k hk hs)
  have b := of_decide_eq_true (cN_all (p := sb) (q := fun z => decide (col c z p = y)) hy k hk hs)
  exact a.symm.trans b
theorem last_sure {c : Nat} {sb : Nat → Bool} {p : Nat} (n : Nat) (hn : n < 2 ^ 31) : lastV c sb p n = sureV c sb p n := by
  induction n with
  | zero => rfl
  | succ n ih =>
    have ih := ih (by omega)
    by_cases h : 0 < cN sb 81 ∧ hvN c sb p n = cN sb 81
    · have e : sureV c sb p n = -1 := sure_none n (fun x hx q => by have := hv_uniq h.1 q.2 h.2; omega)
      rw [lastV, if_pos h, sureV, if_pos e, if_pos h]
    · rw [lastV, if_neg h, ih, sureV, if_neg h]
      by_cases e : sureV c sb p n = -1
      · rw [if_pos e, e]
      · rw [if_neg e]
section HEAPS
variable {h : Nat → Nat}
theorem mx_ge (n : Nat) {x : Nat} (hx : x < n) : h x ≤ mxN h n := by
  induction n with
  | zero => omega
  | succ n ih =>
    simp only [mxN]
    by_cases e : x = n
    · subst e; exact Nat.le_max_right _ _
    · exact Nat.le_trans (ih (by omega)) (Nat.le_max_left _ _)
theorem mx_le_s (n : Nat) : mxN h n ≤ sN h n := by
  induction n with
  | zero => exact Nat.le_refl _
  | succ n ih => simp only [mxN, sN]; exact Nat.max_le.mpr ⟨by omega, by omega⟩
theorem s_le_mx (n : Nat) : sN h n ≤ mxN h n * cN (fun x => decide (0 < h x)) n := by
  induction n with
  | zero => exact Nat.zero_le _
  | succ n ih =>
    have hm : mxN h n ≤ mxN h (n + 1) := by simp only [mxN]; exact Nat.le_max_left _ _
    have hx : h n ≤ mxN h (n + 1) := mx_ge (n + 1) (Nat.lt_succ_self n)
    have h1 : sN h n ≤ mxN h (n + 1) * cN (fun x => decide (0 < h x)) n := Nat.le_trans ih (Nat.mul_le_mul_right _ hm)
    by_cases e : 0 < h n
    · rw [cN_s (p := fun x => decide (0 < h x)) (decide_eq_true e), Nat.mul_add, Nat.mul_one]
      show sN h n + h n ≤ _
      omega
    · rw [cN_n (p := fun x => decide (0 < h x)) (decide_eq_false e)]
      show sN h n + h n ≤ _
      omega
theorem n_le_s (n : Nat) : cN (fun x => decide (0 < h x)) n ≤ sN h n := by
  induction n with
  | zero => exact Nat.le_refl _
  | succ n ih =>
    by_cases e : 0 < h n
    · rw [cN_s (p := fun x => decide (0 < h x)) (decide_eq_true e)]; show _ ≤ sN h n + h n; omega
    · rw [cN_n (p := fun x => decide (0 < h x)) (decide_eq_false e)]; show _ ≤ sN h n + h n; omega
end HEAPS
theorem hp_sum {c a : Nat} {sb : Nat → Bool} (hc : c = 2 ∨ c = 3) (ha : a < qq c) (hsb : ∀ z, z < 81 → sb z = true → z < qq c) : sN (hpN c a sb) 21 = cN sb 81 :=
  sN_cN (f := fun z => pins c a z) 81 (fun z hz hs => Nat.lt_succ_of_le (pins_le hc ha (hsb z hz hs)))
theorem worst_facts {c a : Nat} {sb : Nat → Bool} (hc : c = 2 ∨ c = 3) (ha : a < qq c) (hsb : ∀ z, z < 81 → sb z = true → z < qq c) : gh c a sb ≤ cN sb 81 ∧ cN sb 81 ≤ gh c a sb * cN (fun x => decide (0 < hpN c a sb x)) 21 ∧ cN (fun x => decide (0 < hpN c a sb x)) 21 ≤ cN sb 81 ∧ (gh c a sb = 0 ↔ cN sb 81 = 0) := by
  have e := hp_sum hc ha hsb
  rw [gh_eq]
  have h1 := mx_le_s (h := hpN c a sb) 21
  have h2 := s_le_mx (h := hpN c a sb) 21
  have h3 := n_le_s (h := hpN c a sb) 21
  rw [e] at h1 h2 h3
  refine ⟨h1, h2, h3, fun q => ?_, fun q => by omega⟩
  rw [q, Nat.zero_mul] at h2
  omega
/-- the least bad one of the first n -/
theorem lbS_min {c : Nat} {sb : Nat → Bool} (n : Nat) (h0 : 0 < n) : ∃ be, be < n ∧ lbS c sb false n = (nI be, sb be, gh c be sb) ∧ ∀ k, k < n → gh c be sb ≤ gh c k sb ∧ (gh c k sb = gh c be sb → sb k = true → sb be = true) ∧ (gh c k sb = gh c be sb → sb k = sb be → be ≤ k) := by
  induction n with
  | zero => omega
  | succ n ih =>
    rw [lbS_step]
    rcases Nat.eq_zero_or_pos n with e | h1
    · subst e
      have hl : lbS c sb false 0 = (-1, false, 82) := rfl
      have hg := gh_le81 c 0 sb
      rw [hl, if_pos ⟨Or.inr rfl, Or.inl (by show gh c 0 sb < 82; omega)⟩]
      exact ⟨0, by omega, rfl, fun k hk => by
        have : k = 0 := by omega
        subst this
        exact ⟨Nat.le_refl _, fun _ h => h, fun _ _ => Nat.le_refl _⟩⟩
    · obtain ⟨be, hb, e, hm⟩ := ih h1
      rw [e]
      by_cases hu : gh c n sb < gh c be sb ∨ gh c n sb = gh c be sb ∧ sb n = true ∧ sb be = false
      · rw [if_pos ⟨Or.inr rfl, hu⟩]
        refine ⟨n, by omega, rfl, fun k hk => ?_⟩
        by_cases ek : k = n
        · subst ek; exact ⟨Nat.le_refl _, fun _ h => h, fun _ _ => Nat.le_refl _⟩
        · obtain ⟨m1, m2, m3⟩ := hm k (by omega)
          rcases hu with hu | ⟨hu, hn, hbe⟩
          · exact ⟨by omega, fun q => by omega, fun q => by omega⟩
          · refine ⟨by omega, fun _ _ => hn, fun q hs => ?_⟩
            have := m2 (by omega) (hs.trans hn)
            rw [hbe] at this; cases this
      · rw [if_neg (fun q => hu q.2)]
        refine ⟨be, by omega, rfl, fun k hk => ?_⟩
        by_cases ek : k = n
        · subst ek
          refine ⟨by omega, fun q hs => ?_, fun q hs => by omega⟩
          cases hbe : sb be with
          | true => rfl
          | false => exact absurd (Or.inr ⟨q, hs, hbe⟩) hu
        · exact hm k (by omega)
/-- of the least bad guess -/
theorem best_facts {c : Nat} {sb : Nat → Bool} (hc : c = 2 ∨ c = 3) : (cN sb 81 = 0 ∧ lbR c sb false = -1) ∨ (0 < cN sb 81 ∧ ∃ be, be < qq c ∧ lbR c sb false = nI be ∧ ∀ k, k < qq c → gh c be sb ≤ gh c k sb ∧ (gh c k sb = gh c be sb → sb k = true → sb be = true) ∧ (gh c k sb = gh c be sb → sb k = sb be → be ≤ k)) := by
  have hq := qq_in hc
  by_cases h : cN sb 81 = 0
  · exact Or.inl ⟨h, by rw [lbR, if_pos h]⟩
  · obtain ⟨be, h1, h2, h3⟩ := lbS_min (c := c) (sb := sb) (qq c) (by omega)
    exact Or.inr ⟨by omega, be, h1, by rw [lbR, if_neg h, h2], h3⟩
theorem cN_lt_id (n m : Nat) (h : m ≤ n) : cN (fun k => decide (k < m)) n = m := by
  induction n with
  | zero => have : m = 0 := by omega
            subst this; rfl
  | succ n ih =>
    by_cases e : m = n + 1
    · subst e
      have : ∀ j, j ≤ n + 1 → cN (fun k => decide (k < n + 1)) j = j := by
        intro j hj
        induction j with
        | zero => rfl
        | succ j ihj => rw [cN_s (p := fun k => decide (k < n + 1)) (decide_eq_true (by omega)), ihj (by omega)]
      exact this _ (Nat.le_refl _)
    · rw [cN_n (p := fun k => decide (k < m)) (decide_eq_false (by omega)), ih (by omega)]
theorem tk_cnt {c code first : Nat} (hc : c = 2 ∨ c = 3) (hk : code < qq c) (hf : first < qq c) (n : Nat) (hno : ∀ m, m < n → ¬ (tkP c code first m).2 = code) : cN (tkP c code first n).1 81 + n ≤ qq c := by
  have hq := qq_in hc
  induction n with
  | zero =>
    have e : cN (tkP c code first 0).1 81 = qq c := cN_lt_id 81 (qq c) hq.2
    omega
  | succ n ih =>
    have ih := ih (fun m hm => hno m (by omega))
    have hn := hno n (by omega)
    obtain ⟨h1, h2, h3, h4, h5⟩ := tk_inv hc hk hf n (fun m hm => hno m (by omega))
    have hx : (tkP c code first (n + 1)).1 (tkP c code first n).2 = false := by
      show ((tkP c code first n).1 _ && decide _) = false
      rw [decide_eq_false, Bool.and_false]
      intro q
      have t := pins_tab hc h2 hk
      rw [t.2.2.2] at q
      exact hn (t.2.2.1 q.symm)
    have hcard := cN_lt (p := (tkP c code first n).1) (q := (tkP c code first (n + 1)).1) (n := 81) (fun j _ h => by
      have h : ((tkP c code first n).1 j && decide _) = true := h
      exact (Bool.and_eq_true_iff.mp h).1) (by omega : (tkP c code first n).2 < 81) h3 hx
    omega
/-- how many guesses a code takes -/
theorem takes_facts {c code first : Nat} {r : Int32} (hc : c = 2 ∨ c = 3) (hk : code < qq c) (hf : first < qq c) (h : tkR c code first r) : ∃ t, t ≤ qq c ∧ 1 ≤ t ∧ r = nI t ∧ (t = 1 ↔ code = first) := by
  obtain ⟨n, -, hno, he, hr⟩ := h
  have h1 := tk_cnt hc hk hf n hno
  have h2 := (tk_inv hc hk hf n hno).1
  have h3 := cN_pos (p := (tkP c code first n).1) (n := 81) (by have := qq_in hc; omega) h2
  refine ⟨n + 1, by omega, by omega, hr, fun q => ?_, fun q => ?_⟩
  · have : n = 0 := by omega
    subst this
    exact he.symm
  · rcases Nat.eq_zero_or_pos n with e | e
    · omega
    · exact absurd q.symm (hno 0 e)
theorem fit_le {c n : Nat} {code ans : Nat → Nat} {dbt : Nat → Bool} {k : Nat} (h : fit c code ans dbt (n + 1) k = true) : fit c code ans dbt n k = true := by
  rw [fit] at h; exact (Bool.and_eq_true_iff.mp h).1
theorem cN_le2 {p q : Nat → Bool} (n : Nat) (h : ∀ k, k < n → p k = true → q k = true) : cN p n ≤ cN q n := by
  induction n with
  | zero => exact Nat.le_refl _
  | succ n ih =>
    have ih := ih (fun k hk => h k (by omega))
    cases hp : p n with
    | false => rw [cN_n hp]; exact Nat.le_trans ih (cN_mono (by omega))
    | true => rw [cN_s hp, cN_s (h n (by omega) hp)]; omega
/-- what is told of a guess, and of the guesses ahead of it -/
theorem told_facts {c i g : Nat} {code ans : Nat → Nat} {dbt : Nat → Bool} : cN (fit c code ans dbt (i + 1)) (qq c) ≤ cN (fit c code ans dbt i) (qq c) ∧ (dbt i = true → cN (fit c code ans dbt (i + 1)) (qq c) = cN (fit c code ans dbt i) (qq c)) ∧ (dbt i = false → cN (fit c code ans dbt (i + 1)) (qq c) ≤ cN (fun k => decide (pins c (code i) k = ans i)) (qq c)) := by
  refine ⟨cN_le2 _ (fun k _ h => fit_le h), fun hd => cN_congr _ (fun k _ => by rw [fit, hd]; simp), fun hd => cN_le2 _ (fun k _ h => ?_)⟩
  rw [fit, hd, Bool.false_or] at h
  exact (Bool.and_eq_true_iff.mp h).2
theorem fit_all (c : Nat) (code ans : Nat → Nat) (dbt : Nat → Bool) : cN (fit c code ans dbt 0) (qq c) = qq c := by
  have : ∀ n, cN (fun _ : Nat => true) n = n := by
    intro n
    induction n with
    | zero => rfl
    | succ n ih => rw [cN_s (p := fun _ => true) rfl, ih]
  exact this _
theorem tld_lt {c g i w : Nat} {code ans : Nat → Nat} {dbt : Nat → Bool} (hc : c = 2 ∨ c = 3) (hco : CodeOK c g code ans) (hi : i < g) (hw : w < 6) : tldV c code ans dbt i w < 2 ^ 31 := by
  have hq := qq_in hc
  have h1 := hco i hi
  obtain rfl | rfl | rfl | rfl | rfl | rfl : w = 0 ∨ w = 1 ∨ w = 2 ∨ w = 3 ∨ w = 4 ∨ w = 5 := by omega
  · show code i < _; omega
  · show ans i / 5 < _; omega
  · show ans i % 5 < _; omega
  · show (if dbt i then 1 else 0) < _; split <;> decide
  · show cN _ _ < _; exact Nat.lt_of_le_of_lt (cN_le _ _) (by omega)
  · show cN _ _ < _; exact Nat.lt_of_le_of_lt (cN_le _ _) (by omega)
theorem cnt_lt {c g w : Nat} {hid : Int32} {code ans : Nat → Nat} {dbt : Nat → Bool} (hc : c = 2 ∨ c = 3) (hg : g ≤ 12) (hw : w < 7) : cntV c g hid code ans dbt w < 2 ^ 31 := by
  have hq := qq_in hc
  obtain rfl | rfl | rfl | rfl | rfl | rfl | rfl : w = 0 ∨ w = 1 ∨ w = 2 ∨ w = 3 ∨ w = 4 ∨ w = 5 ∨ w = 6 := by omega
  · show c < _; omega
  · show qq c < _; omega
  · show g < _; omega
  · show cN _ _ < _; exact Nat.lt_of_le_of_lt (cN_le _ _) (by omega)
  · show (if hid = -1 then 0 else 1) < _; split <;> decide
  · show cN _ _ < _; exact Nat.lt_of_le_of_lt (cN_le _ _) (by omega)
  · show cN _ _ < _; exact Nat.lt_of_le_of_lt (cN_le _ _) (by omega)
/-- pins that are four black ones -/
theorem four_iff {a : Nat} (h : a / 5 + a % 5 ≤ 4) : a / 5 = 4 ↔ a = 20 := by omega
section CONGR
variable {c g : Nat} {hid : Int32} {code ans code2 ans2 : Nat → Nat} {dbt dbt2 : Nat → Bool}
def Same3 (g : Nat) (code ans : Nat → Nat) (dbt : Nat → Bool) (code2 ans2 : Nat → Nat) (dbt2 : Nat → Bool) : Prop := ∀ i, i < g → code2 i = code i ∧ ans2 i = ans i ∧ dbt2 i = dbt i
theorem op_congr (h : Same3 g code ans dbt code2 ans2 dbt2) : opS c g code2 ans2 dbt2 = opS c g code ans dbt := by
  funext k
  rw [opS, opS, fit_congr h]
theorem tld_congr (h : Same3 g code ans dbt code2 ans2 dbt2) {i w : Nat} (hi : i < g) (hw : w < 6) : tldV c code2 ans2 dbt2 i w = tldV c code ans dbt i w := by
  obtain ⟨a1, a2, a3⟩ := h i hi
  have hf : ∀ k, fit c code2 ans2 dbt2 (i + 1) k = fit c code ans dbt (i + 1) k := fun k => fit_congr (fun j hj => h j (by omega))
  obtain rfl | rfl | rfl | rfl | rfl | rfl : w = 0 ∨ w = 1 ∨ w = 2 ∨ w = 3 ∨ w = 4 ∨ w = 5 := by omega
  · exact a1
  · show ans2 i / 5 = ans i / 5; rw [a2]
  · show ans2 i % 5 = ans i % 5; rw [a2]
  · show (if dbt2 i then 1 else 0) = (if dbt i then 1 else 0); rw [a3]
  · show cN _ _ = cN _ _; exact cN_congr _ (fun k _ => hf k)
  · show cN _ _ = cN _ _; rw [a1, a2]
theorem cnt_congr (h : Same3 g code ans dbt code2 ans2 dbt2) {w : Nat} (hw : w < 7) : cntV c g hid code2 ans2 dbt2 w = cntV c g hid code ans dbt w := by
  obtain rfl | rfl | rfl | rfl | rfl | rfl | rfl : w = 0 ∨ w = 1 ∨ w = 2 ∨ w = 3 ∨ w = 4 ∨ w = 5 ∨ w = 6 := by omega
  · rfl
  · rfl
  · rfl
  · show cN _ _ = cN _ _; rw [op_congr h]
  · rfl
  · show cN _ _ = cN _ _; exact cN_congr _ (fun k hk => by rw [(h k hk).2.1])
  · show cN _ _ = cN _ _; exact cN_congr _ (fun k hk => (h k hk).2.2)
theorem dgC_congr (h : Same3 g code ans dbt code2 ans2 dbt2) (n : Nat) (hn : n ≤ 7) : dgC c g hid code2 ans2 dbt2 n = dgC c g hid code ans dbt n := by
  induction n with
  | zero => rfl
  | succ n ih => rw [dgC, dgC, ih (by omega), cnt_congr h (by omega)]
theorem dgI_congr (h : Same3 g code ans dbt code2 ans2 dbt2) {d : Int64} {i : Nat} (hi : i < g) (n : Nat) (hn : n ≤ 6) : dgI c code2 ans2 dbt2 d i n = dgI c code ans dbt d i n := by
  induction n with
  | zero => rfl
  | succ n ih => rw [dgI, dgI, ih (by omega), tld_congr h hi (by omega)]
theorem dgT_congr (h : Same3 g code ans dbt code2 ans2 dbt2) (n : Nat) (hn : n ≤ g) : dgT c g hid code2 ans2 dbt2 n = dgT c g hid code ans dbt n := by
  induction n with
  | zero => rw [dgT, dgT, dgC_congr h 7 (by omega)]
  | succ n ih => rw [dgT, dgT, ih (by omega), dgI_congr h (by omega) 6 (by omega)]
theorem dgP_congr (h : Same3 g code ans dbt code2 ans2 dbt2) (n : Nat) : dgP c g hid code2 ans2 dbt2 n = dgP c g hid code ans dbt n := by
  induction n with
  | zero => rw [dgP, dgP, dgT_congr h g (Nat.le_refl _)]
  | succ n ih => rw [dgP, dgP, ih, op_congr h]
theorem dig_congr (h : Same3 g code ans dbt code2 ans2 dbt2) : digV c g hid code2 ans2 dbt2 = digV c g hid code ans dbt := by
  rw [digV, digV, dgP_congr h, op_congr h]
theorem XI_congr {opn : Nat → Bool} (h : Same3 g code ans dbt code2 ans2 dbt2) (hI : XI c g hid code ans dbt opn) : XI c g hid code2 ans2 dbt2 opn := by
  obtain ⟨a, b, d, e, f⟩ := hI
  exact ⟨a, b, fun i hi => by rw [(h i hi).1, (h i hi).2.1]; exact d i hi, e, fun k hk => by rw [op_congr h]; exact f k hk⟩
theorem AnsOK_congr (h : Same3 g code ans dbt code2 ans2 dbt2) (hA : AnsOK g ans) : AnsOK g ans2 := fun i hi => by rw [(h i hi).2.1]; exact hA i hi
theorem same_up {cd an : Nat} {b1 b2 : Bool} : Same3 g code ans dbt (va_up code g cd) (va_up ans g an) (va_up (va_up dbt g b1) g b2) := fun i hi => ⟨by simp only [va_up, if_neg (show ¬ i = g by omega)], by simp only [va_up, if_neg (show ¬ i = g by omega)], by simp only [va_up, if_neg (show ¬ i = g by omega)]⟩
theorem same_up1 {cd an : Nat} {b1 : Bool} : Same3 g code ans dbt (va_up code g cd) (va_up ans g an) (va_up dbt g b1) := fun i hi => ⟨by simp only [va_up, if_neg (show ¬ i = g by omega)], by simp only [va_up, if_neg (show ¬ i = g by omega)], by simp only [va_up, if_neg (show ¬ i = g by omega)]⟩
/-- one guess more -/
theorem op_up {cd an k : Nat} : opS c (g + 1) (va_up code g cd) (va_up ans g an) (va_up dbt g false) k = (opS c g code ans dbt k && decide (pins c cd k = an)) := by
  rw [opS, fit, fit_congr (code := code) (ans := ans) (dbt := dbt) same_up1, opS]
  simp [va_up, Bool.and_assoc]
/-- one guess more, doubted -/
theorem op_dbt {cd an k : Nat} {b : Bool} : opS c (g + 1) (va_up code g cd) (va_up ans g an) (va_up (va_up dbt g b) g true) k = opS c g code ans dbt k := by
  rw [opS, fit, fit_congr (code := code) (ans := ans) (dbt := dbt) same_up, opS]
  simp [va_up]
end CONGR
/-- of a guess that is answered as a possible code would -/
theorem tell_facts {c g gu its : Nat} {code ans : Nat → Nat} {dbt : Nat → Bool} (hc : c = 2 ∨ c = 3) (hs : opS c g code ans dbt its = true) :
    let op2 := opS c (g + 1) (va_up code g gu) (va_up ans g (pins c gu its)) (va_up dbt g false)
    op2 its = true ∧ 1 ≤ cN op2 81 ∧ cN op2 81 ≤ cN (opS c g code ans dbt) 81 ∧ cN op2 81 ≤ cN (fun k => decide (pins c gu k = pins c gu its)) (qq c) := by
  intro op2
  have hq := qq_in hc
  have h1 : op2 its = true := by show opS c (g + 1) _ _ _ its = true; rw [op_up, hs]; simp
  have hits := op_lt2 hs
  refine ⟨h1, cN_pos (p := op2) (by omega) h1, cN_le2 81 (fun k _ h => ?_), ?_⟩
  · have h : opS c (g + 1) _ _ _ k = true := h
    rw [op_up] at h
    exact (Bool.and_eq_true_iff.mp h).1
  · show cN (opS c (g + 1) _ _ _) 81 ≤ _
    rw [op_cN hq.2]
    refine cN_le2 _ (fun k _ h => ?_)
    rw [fit] at h
    have h2 := (Bool.and_eq_true_iff.mp h).2
    simpa [va_up] using h2
