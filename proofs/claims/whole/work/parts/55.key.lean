theorem nI_uq {v : Int32} {a b n : Nat} (ha : a < n) (hb : b < n) (hn : n ≤ 2 ^ 31) (h1 : v = nI a) (h2 : v = nI b) : a = b := (nI_eq (by omega) (by omega)).mp (h1.symm.trans h2)
set_option maxHeartbeats 1000000 in
theorem key_setColours {c : Nat} {g : Nat} {hid : Int32} {code : Nat → Nat} {ans : Nat → Nat} {dbt : Nat → Bool} {opn : Nat → Bool} {ply : Nat → Bool} {hps : Nat → Nat} {v : Int32} {kk r2 : Int32} {u : XSt × (Nat → Int64)} {mw : Nat × Nat × Nat × Int32} (hI : XI c g hid code ans dbt opn) (hL : (kk = nI 0 ∧ ∃ (ρ9 : Int32) (w9 : Nat × (Nat → Bool)), (ρ9 = nI c ∧ ((w9.1 = 2 ∨ w9.1 = 3) ∧ v = nI w9.1) ∧ ∀ k, k < 81 → w9.2 k = opS w9.1 0 code ans dbt k) ∧ u.1 = (w9.1, 0, (-1), code, ans, dbt, w9.2, ply, hps) ∧ u.2 0 = ρ9.toInt64) ∨ (kk = nI 1 ∧ (¬ v = 2 ∧ ¬ v = 3) ∧ u.1 = (c, g, hid, code, ans, dbt, opn, ply, hps))) (hM : (mw.1 = 0 ∧ (mw.2.1 = 2 ∨ mw.2.1 = 3) ∧ v = nI mw.2.1 ∧ mw.2.2.1 = 0 ∧ mw.2.2.2 = -1 ∧ r2 = nI c) ∨ (mw.1 = 1 ∧ ¬ v = 2 ∧ ¬ v = 3 ∧ mw.2.1 = c ∧ mw.2.2.1 = g ∧ mw.2.2.2 = hid)) : kk = nI (mw.1) ∧ (kk = nI 0 → u.2 0 = r2.toInt64) ∧ u.1.1 = mw.2.1 ∧ u.1.2.1 = mw.2.2.1 ∧ u.1.2.2.1 = mw.2.2.2 ∧ u.1.2.2.2.1 = code ∧ u.1.2.2.2.2.1 = ans ∧ u.1.2.2.2.2.2.1 = dbt ∧ XI u.1.1 u.1.2.1 u.1.2.2.1 u.1.2.2.2.1 u.1.2.2.2.2.1 u.1.2.2.2.2.2.1 u.1.2.2.2.2.2.2.1 := by
  obtain ⟨σ, ov⟩ := u
  have hI0 := hI
  obtain ⟨hc, hg, hco, hhid, hop⟩ := hI0
  have hq := qq_in hc
  rcases hL with ⟨rfl, ρ9, w9, hx, e1, e2⟩ | ⟨rfl, hc9, e1⟩
  · change σ = _ at e1
    subst e1
    change ov 0 = _ at e2
    rcases hM with hm | hm
    · obtain ⟨m0, m1, m2, m3, m4, m5⟩ := hm
      obtain ⟨a1, ⟨a2, a3⟩, a4⟩ := hx
      have e9 : w9.1 = mw.2.1 := nI_uq (n := 4) (by omega) (by omega) (by decide) a3 m2
      refine ⟨by rw [m0], fun _ => by show ov 0 = _; rw [e2, a1, m5], e9, m3.symm, m4.symm, rfl, rfl, rfl, ?_⟩
      exact ⟨a2, Nat.zero_le _, fun i hi => absurd hi (Nat.not_lt_zero _), Or.inl rfl, a4⟩
    · exfalso; rcases hx.2.1.1 with q | q <;> (have h9 := hx.2.1.2; rw [q] at h9; first | exact hm.2.1 h9 | exact hm.2.2.1 h9)
  · change σ = _ at e1
    subst e1
    rcases hM with hm | hm
    · exfalso; rcases hm.2.1 with q | q <;> (have h9 := hm.2.2.1; rw [q] at h9; first | exact hc9.1 h9 | exact hc9.2 h9)
    · exact ⟨by rw [hm.1], fun q => absurd q (by decide), hm.2.2.2.1.symm, hm.2.2.2.2.1.symm, hm.2.2.2.2.2.symm, rfl, rfl, rfl, hI⟩

set_option maxHeartbeats 1000000 in
theorem key_hide {c : Nat} {g : Nat} {hid : Int32} {code : Nat → Nat} {ans : Nat → Nat} {dbt : Nat → Bool} {opn : Nat → Bool} {ply : Nat → Bool} {hps : Nat → Nat} {v : Int32} {kk r2 : Int32} {u : XSt × (Nat → Int64)} {mw : Nat × Int32} (hI : XI c g hid code ans dbt opn) (hL : (kk = nI 0 ∧ ∃ (ρ9 : Int32) (w9 : Unit), (ρ9 = hid ∧ hasC c v = true) ∧ u.1 = (c, g, v, code, ans, dbt, opn, ply, hps) ∧ u.2 0 = ρ9.toInt64) ∨ (kk = nI 1 ∧ (hasC c v = false) ∧ u.1 = (c, g, hid, code, ans, dbt, opn, ply, hps))) (hM : (mw.1 = 0 ∧ hasC c v = true ∧ r2 = hid ∧ mw.2 = v) ∨ (mw.1 = 1 ∧ hasC c v = false ∧ mw.2 = hid)) : kk = nI (mw.1) ∧ (kk = nI 0 → u.2 0 = r2.toInt64) ∧ u.1.1 = c ∧ u.1.2.1 = g ∧ u.1.2.2.1 = mw.2 ∧ u.1.2.2.2.1 = code ∧ u.1.2.2.2.2.1 = ans ∧ u.1.2.2.2.2.2.1 = dbt ∧ XI u.1.1 u.1.2.1 u.1.2.2.1 u.1.2.2.2.1 u.1.2.2.2.2.1 u.1.2.2.2.2.2.1 u.1.2.2.2.2.2.2.1 := by
  obtain ⟨σ, ov⟩ := u
  have hI0 := hI
  obtain ⟨hc, hg, hco, hhid, hop⟩ := hI0
  have hq := qq_in hc
  rcases hL with ⟨rfl, ρ9, w9, hx, e1, e2⟩ | ⟨rfl, hc9, e1⟩
  · change σ = _ at e1
    subst e1
    change ov 0 = _ at e2
    rcases hM with hm | hm
    · obtain ⟨m0, m1, m2, m3⟩ := hm
      obtain ⟨a1, a2⟩ := hx
      refine ⟨by rw [m0], fun _ => by show ov 0 = _; rw [e2, a1, m2], rfl, rfl, m3.symm, rfl, rfl, rfl, ?_⟩
      exact ⟨hc, hg, hco, Or.inr (hasC_of hc a2), hop⟩
    · exfalso; rw [hx.2] at hm; exact absurd hm.2.1 (by decide)
  · change σ = _ at e1
    subst e1
    rcases hM with hm | hm
    · exfalso; rw [hm.2.1] at hc9; exact absurd hc9 (by decide)
    · exact ⟨by rw [hm.1], fun q => absurd q (by decide), rfl, rfl, hm.2.2.symm, rfl, rfl, rfl, hI⟩

set_option maxHeartbeats 1000000 in
theorem key_swap {c : Nat} {g : Nat} {hid : Int32} {code : Nat → Nat} {ans : Nat → Nat} {dbt : Nat → Bool} {opn : Nat → Bool} {ply : Nat → Bool} {hps : Nat → Nat} {a : Int32} {b : Int32} {kk r2 : Int32} {u : XSt × (Nat → Int64)} {mw : Nat × Int32} (hI : XI c g hid code ans dbt opn) (hL : (kk = nI 0 ∧ ∃ (ρ9 : Int32) (w9 : Int32), (ρ9 = w9 ∧ ∃ h pa pb : Nat, h < qq c ∧ pa < 4 ∧ pb < 4 ∧ hid = nI h ∧ a = nI pa ∧ b = nI pb ∧ w9 = nI (swF c h pa pb 4)) ∧ u.1 = (c, g, w9, code, ans, dbt, opn, ply, hps) ∧ u.2 0 = ρ9.toInt64) ∨ (kk = nI 1 ∧ (plC a = false ∨ plC b = false) ∧ u.1 = (c, g, hid, code, ans, dbt, opn, ply, hps)) ∨ (kk = nI 2 ∧ (plC a = true ∧ plC b = true ∧ hid = -1) ∧ u.1 = (c, g, hid, code, ans, dbt, opn, ply, hps))) (hM : (mw.1 = 0 ∧ ∃ h pa pb : Nat, h < qq c ∧ pa < 4 ∧ pb < 4 ∧ hid = nI h ∧ a = nI pa ∧ b = nI pb ∧ r2 = nI (swF c h pa pb 4) ∧ mw.2 = nI (swF c h pa pb 4)) ∨ (mw.1 = 1 ∧ (plC a = false ∨ plC b = false) ∧ mw.2 = hid) ∨ (mw.1 = 2 ∧ plC a = true ∧ plC b = true ∧ hid = -1 ∧ mw.2 = hid)) : kk = nI (mw.1) ∧ (kk = nI 0 → u.2 0 = r2.toInt64) ∧ u.1.1 = c ∧ u.1.2.1 = g ∧ u.1.2.2.1 = mw.2 ∧ u.1.2.2.2.1 = code ∧ u.1.2.2.2.2.1 = ans ∧ u.1.2.2.2.2.2.1 = dbt ∧ XI u.1.1 u.1.2.1 u.1.2.2.1 u.1.2.2.2.1 u.1.2.2.2.2.1 u.1.2.2.2.2.2.1 u.1.2.2.2.2.2.2.1 := by
  obtain ⟨σ, ov⟩ := u
  have hI0 := hI
  obtain ⟨hc, hg, hco, hhid, hop⟩ := hI0
  have hq := qq_in hc
  rcases hL with ⟨rfl, ρ9, w9, hx, e1, e2⟩ | ⟨rfl, hc9, e1⟩ | ⟨rfl, hc9, e1⟩
  · change σ = _ at e1
    subst e1
    change ov 0 = _ at e2
    rcases hM with hm | hm | hm
    · obtain ⟨m0, h, pa, pb, m1, m2, m3, m4, m5, m6, m7, m8⟩ := hm
      obtain ⟨a1, h2, pa2, pb2, n1, n2, n3, n4, n5, n6, n7⟩ := hx
      have q1 : h2 = h := nI_uq n1 m1 (by omega) n4 m4
      have q2 : pa2 = pa := nI_uq n2 m2 (by decide) n5 m5
      have q3 : pb2 = pb := nI_uq n3 m3 (by decide) n6 m6
      subst q1; subst q2; subst q3
      refine ⟨by rw [m0], fun _ => by show ov 0 = _; rw [e2, a1, n7, m7], rfl, rfl, by show w9 = _; rw [n7, m8], rfl, rfl, rfl, ?_⟩
      exact ⟨hc, hg, hco, Or.inr ⟨_, sw_lt hc n1 n2 n3, n7⟩, hop⟩
    · exfalso; obtain ⟨a1, h2, pa2, pb2, n1, n2, n3, n4, n5, n6, n7⟩ := hx; rcases hm.2.1 with q | q; (rw [n5, plC_nI n2] at q; exact absurd q (by decide)); (rw [n6, plC_nI n3] at q; exact absurd q (by decide))
    · exfalso; obtain ⟨a1, h2, pa2, pb2, n1, n2, n3, n4, n5, n6, n7⟩ := hx; have h9 := hm.2.2.2.1; rw [n4] at h9; exact nI_ne_m1 (by omega) h9
  · change σ = _ at e1
    subst e1
    rcases hM with hm | hm | hm
    · exfalso; obtain ⟨m0, h, pa, pb, m1, m2, m3, m4, m5, m6, m7, m8⟩ := hm; rcases hc9 with q | q; (rw [m5, plC_nI m2] at q; exact absurd q (by decide)); (rw [m6, plC_nI m3] at q; exact absurd q (by decide))
    · exact ⟨by rw [hm.1], fun q => absurd q (by decide), rfl, rfl, hm.2.2.symm, rfl, rfl, rfl, hI⟩
    · exfalso; rcases hc9 with q | q; (rw [hm.2.1] at q; exact absurd q (by decide)); (rw [hm.2.2.1] at q; exact absurd q (by decide))
  · change σ = _ at e1
    subst e1
    rcases hM with hm | hm | hm
    · exfalso; obtain ⟨m0, h, pa, pb, m1, m2, m3, m4, m5, m6, m7, m8⟩ := hm; have h9 := hc9.2.2; rw [m4] at h9; exact nI_ne_m1 (by omega) h9
    · exfalso; rcases hm.2.1 with q | q; (rw [hc9.1] at q; exact absurd q (by decide)); (rw [hc9.2.1] at q; exact absurd q (by decide))
    · exact ⟨by rw [hm.1], fun q => absurd q (by decide), rfl, rfl, hm.2.2.2.2.symm, rfl, rfl, rfl, hI⟩

set_option maxHeartbeats 1000000 in
theorem key_guess {c : Nat} {g : Nat} {hid : Int32} {code : Nat → Nat} {ans : Nat → Nat} {dbt : Nat → Bool} {opn : Nat → Bool} {ply : Nat → Bool} {hps : Nat → Nat} {v : Int32} {kk r2 : Int32} {u : XSt × (Nat → Int64)} {mw : (Nat × Nat × (Nat → Nat) × (Nat → Nat) × (Nat → Bool)) × (Nat → Nat) × (Nat → Nat)} (hI : XI c g hid code ans dbt opn) (hL : (kk = nI 0 ∧ ∃ (ρ9 : Int32) (w9 : Nat × Nat × (Nat → Bool)), (ρ9 = nI (pins c w9.1 w9.2.1) ∧ w9.1 < qq c ∧ v = nI w9.1 ∧ w9.2.1 < qq c ∧ hid = nI w9.2.1 ∧ g < 12 ∧ ∀ k, k < 81 → w9.2.2 k = opS c (g + 1) (va_up code g w9.1) (va_up ans g (pins c w9.1 w9.2.1)) (va_up dbt g false) k) ∧ u.1 = (c, (g + 1), hid, (va_up code g w9.1), (va_up ans g (pins c w9.1 w9.2.1)), (va_up dbt g false), w9.2.2, ply, hps) ∧ u.2 0 = ρ9.toInt64) ∨ (kk = nI 1 ∧ (hasC c v = false) ∧ u.1 = (c, g, hid, code, ans, dbt, opn, ply, hps)) ∨ (kk = nI 2 ∧ (hasC c v = true ∧ (hid = -1 ∨ 12 ≤ g)) ∧ u.1 = (c, g, hid, code, ans, dbt, opn, ply, hps))) (hM : (mw.1.1 = 0 ∧ ∃ k h : Nat, k < qq c ∧ v = nI k ∧ h < qq c ∧ hid = nI h ∧ g < 12 ∧ r2 = nI (pins c k h) ∧ mw.1.2.1 = g + 1 ∧ mw.1.2.2.1 = va_up code g k ∧ mw.1.2.2.2.1 = va_up ans g (pins c k h) ∧ mw.1.2.2.2.2 = va_up dbt g false) ∨ (mw.1.1 = 1 ∧ hasC c v = false ∧ mw.1.2.1 = g ∧ mw.1.2.2.1 = code ∧ mw.1.2.2.2.1 = ans ∧ mw.1.2.2.2.2 = dbt) ∨ (mw.1.1 = 2 ∧ hasC c v = true ∧ (hid = -1 ∨ 12 ≤ g) ∧ mw.1.2.1 = g ∧ mw.1.2.2.1 = code ∧ mw.1.2.2.2.1 = ans ∧ mw.1.2.2.2.2 = dbt)) : kk = nI (mw.1.1) ∧ (kk = nI 0 → u.2 0 = r2.toInt64) ∧ u.1.1 = c ∧ u.1.2.1 = mw.1.2.1 ∧ u.1.2.2.1 = hid ∧ u.1.2.2.2.1 = mw.1.2.2.1 ∧ u.1.2.2.2.2.1 = mw.1.2.2.2.1 ∧ u.1.2.2.2.2.2.1 = mw.1.2.2.2.2 ∧ XI u.1.1 u.1.2.1 u.1.2.2.1 u.1.2.2.2.1 u.1.2.2.2.2.1 u.1.2.2.2.2.2.1 u.1.2.2.2.2.2.2.1 := by
  obtain ⟨σ, ov⟩ := u
  have hI0 := hI
  obtain ⟨hc, hg, hco, hhid, hop⟩ := hI0
  have hq := qq_in hc
  rcases hL with ⟨rfl, ρ9, w9, hx, e1, e2⟩ | ⟨rfl, hc9, e1⟩ | ⟨rfl, hc9, e1⟩
  · change σ = _ at e1
    subst e1
    change ov 0 = _ at e2
    rcases hM with hm | hm | hm
    · obtain ⟨m0, k, h, m1, m2, m3, m4, m5, m6, m7, m8, m9, m10⟩ := hm
      obtain ⟨a1, a2, a3, a4, a5, a6, a7⟩ := hx
      have q1 : w9.1 = k := nI_uq a2 m1 (by omega) a3 m2
      have q2 : w9.2.1 = h := nI_uq a4 m3 (by omega) a5 m4
      refine ⟨by rw [m0], fun _ => by show ov 0 = _; rw [e2, a1, m6, q1, q2], rfl, m7.symm, rfl, by rw [m8, ← q1], by rw [m9, ← q1, ← q2], m10.symm, ?_⟩
      exact ⟨hc, a6, code_up hco a2 (by have := pins_le hc a2 a4; omega), hhid, a7⟩
    · exfalso; rw [hx.2.2.1, hasC_lt hc hx.2.1] at hm; exact absurd hm.2.1 (by decide)
    · exfalso; rcases hm.2.2.1 with q | q; (rw [hx.2.2.2.2.1] at q; exact nI_ne_m1 (by have := hx.2.2.2.1; omega) q); (have := hx.2.2.2.2.2.1; omega)
  · change σ = _ at e1
    subst e1
    rcases hM with hm | hm | hm
    · exfalso; obtain ⟨m0, k, h, m1, m2, m3⟩ := hm; rw [m2, hasC_lt hc m1] at hc9; exact absurd hc9 (by decide)
    · exact ⟨by rw [hm.1], fun q => absurd q (by decide), rfl, hm.2.2.1.symm, rfl, hm.2.2.2.1.symm, hm.2.2.2.2.1.symm, hm.2.2.2.2.2.symm, hI⟩
    · exfalso; rw [hm.2.1] at hc9; exact absurd hc9 (by decide)
  · change σ = _ at e1
    subst e1
    rcases hM with hm | hm | hm
    · exfalso; obtain ⟨m0, k, h, m1, m2, m3, m4, m5, m6⟩ := hm; rcases hc9.2 with q | q; (rw [m4] at q; exact nI_ne_m1 (by omega) q); omega
    · exfalso; rw [hc9.1] at hm; exact absurd hm.2.1 (by decide)
    · exact ⟨by rw [hm.1], fun q => absurd q (by decide), rfl, hm.2.2.2.1.symm, rfl, hm.2.2.2.2.1.symm, hm.2.2.2.2.2.1.symm, hm.2.2.2.2.2.2.symm, hI⟩

set_option maxHeartbeats 1000000 in
theorem key_tell {c : Nat} {g : Nat} {hid : Int32} {code : Nat → Nat} {ans : Nat → Nat} {dbt : Nat → Bool} {opn : Nat → Bool} {ply : Nat → Bool} {hps : Nat → Nat} {v : Int32} {b : Int32} {wt : Int32} {kk r2 : Int32} {u : XSt × (Nat → Int64)} {mw : (Nat × Nat × (Nat → Nat) × (Nat → Nat) × (Nat → Bool)) × Nat × (Nat → Nat) × (Nat → Nat) × (Nat → Nat)} (hI : XI c g hid code ans dbt opn) (hL : (kk = nI 0 ∧ ∃ (ρ9 : Int32) (w9 : Nat × Nat × Nat × (Nat → Bool)), (ρ9 = nI (cN (opS c (g + 1) (va_up code g w9.1) (va_up ans g (5 * w9.2.1 + w9.2.2.1)) (va_up dbt g false)) 81) ∧ w9.1 < qq c ∧ v = nI w9.1 ∧ w9.2.1 + w9.2.2.1 ≤ 4 ∧ b = nI w9.2.1 ∧ wt = nI w9.2.2.1 ∧ g < 12 ∧ (∀ k, k < 81 → w9.2.2.2 k = opS c (g + 1) (va_up code g w9.1) (va_up ans g (5 * w9.2.1 + w9.2.2.1)) (va_up dbt g false) k) ∧ pinC b wt = true) ∧ u.1 = (c, (g + 1), hid, (va_up code g w9.1), (va_up ans g (5 * w9.2.1 + w9.2.2.1)), (va_up dbt g false), w9.2.2.2, ply, hps) ∧ u.2 0 = ρ9.toInt64) ∨ (kk = nI 1 ∧ (hasC c v = false) ∧ u.1 = (c, g, hid, code, ans, dbt, opn, ply, hps)) ∨ (kk = nI 2 ∧ (hasC c v = true ∧ pinC b wt = false) ∧ u.1 = (c, g, hid, code, ans, dbt, opn, ply, hps)) ∨ (kk = nI 3 ∧ (hasC c v = true ∧ pinC b wt = true ∧ 12 ≤ g) ∧ u.1 = (c, g, hid, code, ans, dbt, opn, ply, hps))) (hM : (mw.1.1 = 0 ∧ ∃ k nb nw : Nat, k < qq c ∧ v = nI k ∧ nb + nw ≤ 4 ∧ b = nI nb ∧ wt = nI nw ∧ g < 12 ∧ r2 = nI (cN (opS c (g + 1) (va_up code g k) (va_up ans g (5 * nb + nw)) (va_up dbt g false)) 81) ∧ mw.1.2.1 = g + 1 ∧ mw.1.2.2.1 = va_up code g k ∧ mw.1.2.2.2.1 = va_up ans g (5 * nb + nw) ∧ mw.1.2.2.2.2 = va_up dbt g false ∧ pinC b wt = true) ∨ (mw.1.1 = 1 ∧ hasC c v = false ∧ mw.1.2.1 = g ∧ mw.1.2.2.1 = code ∧ mw.1.2.2.2.1 = ans ∧ mw.1.2.2.2.2 = dbt) ∨ (mw.1.1 = 2 ∧ hasC c v = true ∧ pinC b wt = false ∧ mw.1.2.1 = g ∧ mw.1.2.2.1 = code ∧ mw.1.2.2.2.1 = ans ∧ mw.1.2.2.2.2 = dbt) ∨ (mw.1.1 = 3 ∧ hasC c v = true ∧ pinC b wt = true ∧ 12 ≤ g ∧ mw.1.2.1 = g ∧ mw.1.2.2.1 = code ∧ mw.1.2.2.2.1 = ans ∧ mw.1.2.2.2.2 = dbt)) : kk = nI (mw.1.1) ∧ (kk = nI 0 → u.2 0 = r2.toInt64) ∧ u.1.1 = c ∧ u.1.2.1 = mw.1.2.1 ∧ u.1.2.2.1 = hid ∧ u.1.2.2.2.1 = mw.1.2.2.1 ∧ u.1.2.2.2.2.1 = mw.1.2.2.2.1 ∧ u.1.2.2.2.2.2.1 = mw.1.2.2.2.2 ∧ XI u.1.1 u.1.2.1 u.1.2.2.1 u.1.2.2.2.1 u.1.2.2.2.2.1 u.1.2.2.2.2.2.1 u.1.2.2.2.2.2.2.1 := by
  obtain ⟨σ, ov⟩ := u
  have hI0 := hI
  obtain ⟨hc, hg, hco, hhid, hop⟩ := hI0
  have hq := qq_in hc
  rcases hL with ⟨rfl, ρ9, w9, hx, e1, e2⟩ | ⟨rfl, hc9, e1⟩ | ⟨rfl, hc9, e1⟩ | ⟨rfl, hc9, e1⟩
  · change σ = _ at e1
    subst e1
    change ov 0 = _ at e2
    rcases hM with hm | hm | hm | hm
    · obtain ⟨m0, k, nb, nw, m1, m2, m3, m4, m5, m6, m7, m8, m9, m10, m11, m12⟩ := hm
      obtain ⟨a1, a2, a3, a4, a5, a6, a7, a8, a9⟩ := hx
      have q1 : w9.1 = k := nI_uq a2 m1 (by omega) a3 m2
      have q2 : w9.2.1 = nb := nI_uq (n := 5) (by omega) (by omega) (by decide) a5 m4
      have q3 : w9.2.2.1 = nw := nI_uq (n := 5) (by omega) (by omega) (by decide) a6 m5
      refine ⟨by rw [m0], fun _ => by show ov 0 = _; rw [e2, a1, m7, q1, q2, q3], rfl, m8.symm, rfl, by rw [m9, ← q1], by rw [m10, ← q2, ← q3], m11.symm, ?_⟩
      exact ⟨hc, a7, code_up hco a2 (by omega), hhid, a8⟩
    · exfalso; rw [hx.2.2.1, hasC_lt hc hx.2.1] at hm; exact absurd hm.2.1 (by decide)
    · exfalso; exact absurd hm.2.2.1 (by rw [hx.2.2.2.2.2.2.2.2]; decide)
    · exfalso; have := hx.2.2.2.2.2.2.1; have := hm.2.2.2.1; omega
  · change σ = _ at e1
    subst e1
    rcases hM with hm | hm | hm | hm
    · exfalso; obtain ⟨m0, k, nb, nw, m1, m2, m3⟩ := hm; rw [m2, hasC_lt hc m1] at hc9; exact absurd hc9 (by decide)
    · exact ⟨by rw [hm.1], fun q => absurd q (by decide), rfl, hm.2.2.1.symm, rfl, hm.2.2.2.1.symm, hm.2.2.2.2.1.symm, hm.2.2.2.2.2.symm, hI⟩
    · exfalso; rw [hm.2.1] at hc9; exact absurd hc9 (by decide)
    · exfalso; rw [hm.2.1] at hc9; exact absurd hc9 (by decide)
  · change σ = _ at e1
    subst e1
    rcases hM with hm | hm | hm | hm
    · exfalso; obtain ⟨m0, k, nb, nw, m1, m2, m3, m4, m5, m6, m7, m8, m9, m10, m11, m12⟩ := hm; rw [m12] at hc9; exact absurd hc9.2 (by decide)
    · exfalso; rw [hc9.1] at hm; exact absurd hm.2.1 (by decide)
    · exact ⟨by rw [hm.1], fun q => absurd q (by decide), rfl, hm.2.2.2.1.symm, rfl, hm.2.2.2.2.1.symm, hm.2.2.2.2.2.1.symm, hm.2.2.2.2.2.2.symm, hI⟩
    · exfalso; rw [hm.2.2.1] at hc9; exact absurd hc9.2 (by decide)
  · change σ = _ at e1
    subst e1
    rcases hM with hm | hm | hm | hm
    · exfalso; obtain ⟨m0, k, nb, nw, m1, m2, m3, m4, m5, m6, m7⟩ := hm; have := hc9.2.2; omega
    · exfalso; rw [hc9.1] at hm; exact absurd hm.2.1 (by decide)
    · exfalso; rw [hc9.2.1] at hm; exact absurd hm.2.2.1 (by decide)
    · exact ⟨by rw [hm.1], fun q => absurd q (by decide), rfl, hm.2.2.2.2.1.symm, rfl, hm.2.2.2.2.2.1.symm, hm.2.2.2.2.2.2.1.symm, hm.2.2.2.2.2.2.2.symm, hI⟩

set_option maxHeartbeats 1000000 in
theorem key_doubt {c : Nat} {g : Nat} {hid : Int32} {code : Nat → Nat} {ans : Nat → Nat} {dbt : Nat → Bool} {opn : Nat → Bool} {ply : Nat → Bool} {hps : Nat → Nat} {v : Int32} {is : Bool} {kk r2 : Int32} {u : XSt × (Nat → Int64)} {mw : Nat × (Nat → Bool)} (hI : XI c g hid code ans dbt opn) (hL : (kk = nI 0 ∧ ∃ (ρ9 : Int32) (w9 : Nat × (Nat → Bool)), (ρ9 = bI (dbt w9.1) ∧ w9.1 < g ∧ v = nI w9.1 ∧ ∀ k, k < 81 → w9.2 k = opS c g code ans (va_up dbt w9.1 is) k) ∧ u.1 = (c, g, hid, code, ans, (va_up dbt w9.1 is), w9.2, ply, hps) ∧ u.2 0 = (if ρ9 = 0 then 0 else 1)) ∨ (kk = nI 1 ∧ (gsC g v = false) ∧ u.1 = (c, g, hid, code, ans, dbt, opn, ply, hps))) (hM : (mw.1 = 0 ∧ ∃ i : Nat, i < g ∧ v = nI i ∧ r2 = bI (dbt i) ∧ mw.2 = va_up dbt i is) ∨ (mw.1 = 1 ∧ gsC g v = false ∧ mw.2 = dbt)) : kk = nI (mw.1) ∧ (kk = nI 0 → u.2 0 = (if r2 = 0 then 0 else 1)) ∧ u.1.1 = c ∧ u.1.2.1 = g ∧ u.1.2.2.1 = hid ∧ u.1.2.2.2.1 = code ∧ u.1.2.2.2.2.1 = ans ∧ u.1.2.2.2.2.2.1 = mw.2 ∧ XI u.1.1 u.1.2.1 u.1.2.2.1 u.1.2.2.2.1 u.1.2.2.2.2.1 u.1.2.2.2.2.2.1 u.1.2.2.2.2.2.2.1 := by
  obtain ⟨σ, ov⟩ := u
  have hI0 := hI
  obtain ⟨hc, hg, hco, hhid, hop⟩ := hI0
  have hq := qq_in hc
  rcases hL with ⟨rfl, ρ9, w9, hx, e1, e2⟩ | ⟨rfl, hc9, e1⟩
  · change σ = _ at e1
    subst e1
    change ov 0 = _ at e2
    rcases hM with hm | hm
    · obtain ⟨m0, i, m1, m2, m3, m4⟩ := hm
      obtain ⟨a1, a2, a3, a4⟩ := hx
      have q1 : w9.1 = i := nI_uq a2 m1 (by omega) a3 m2
      refine ⟨by rw [m0], fun _ => by show ov 0 = _; rw [e2, a1, m3, q1], rfl, rfl, rfl, rfl, rfl, by rw [m4, ← q1], ?_⟩
      exact ⟨hc, hg, hco, hhid, a4⟩
    · exfalso; rw [hx.2.2.1, gsC_nI hx.2.1 hg] at hm; exact absurd hm.2.1 (by decide)
  · change σ = _ at e1
    subst e1
    rcases hM with hm | hm
    · exfalso; obtain ⟨m0, i, m1, m2, m3⟩ := hm; rw [m2, gsC_nI m1 hg] at hc9; exact absurd hc9 (by decide)
    · exact ⟨by rw [hm.1], fun q => absurd q (by decide), rfl, rfl, rfl, rfl, rfl, hm.2.2.symm, hI⟩

set_option maxHeartbeats 1000000 in
theorem key_forget {c : Nat} {g : Nat} {hid : Int32} {code : Nat → Nat} {ans : Nat → Nat} {dbt : Nat → Bool} {opn : Nat → Bool} {ply : Nat → Bool} {hps : Nat → Nat} {kk r2 : Int32} {u : XSt × (Nat → Int64)} {mw : Nat × Nat} (hI : XI c g hid code ans dbt opn) (hL : (kk = nI 0 ∧ ∃ (ρ9 : Int32) (w9 : Nat → Bool), (ρ9 = nI (code (g - 1)) ∧ 0 < g ∧ ∀ k, k < 81 → w9 k = opS c (g - 1) code ans dbt k) ∧ u.1 = (c, (g - 1), hid, code, ans, dbt, w9, ply, hps) ∧ u.2 0 = ρ9.toInt64) ∨ (kk = nI 1 ∧ (g = 0) ∧ u.1 = (c, g, hid, code, ans, dbt, opn, ply, hps))) (hM : (mw.1 = 0 ∧ 0 < g ∧ mw.2 = g - 1 ∧ r2 = nI (code (g - 1))) ∨ (mw.1 = 1 ∧ g = 0 ∧ mw.2 = g)) : kk = nI (mw.1) ∧ (kk = nI 0 → u.2 0 = r2.toInt64) ∧ u.1.1 = c ∧ u.1.2.1 = mw.2 ∧ u.1.2.2.1 = hid ∧ u.1.2.2.2.1 = code ∧ u.1.2.2.2.2.1 = ans ∧ u.1.2.2.2.2.2.1 = dbt ∧ XI u.1.1 u.1.2.1 u.1.2.2.1 u.1.2.2.2.1 u.1.2.2.2.2.1 u.1.2.2.2.2.2.1 u.1.2.2.2.2.2.2.1 := by
  obtain ⟨σ, ov⟩ := u
  have hI0 := hI
  obtain ⟨hc, hg, hco, hhid, hop⟩ := hI0
  have hq := qq_in hc
  rcases hL with ⟨rfl, ρ9, w9, hx, e1, e2⟩ | ⟨rfl, hc9, e1⟩
  · change σ = _ at e1
    subst e1
    change ov 0 = _ at e2
    rcases hM with hm | hm
    · obtain ⟨m0, m1, m2, m3⟩ := hm
      obtain ⟨a1, a2, a3⟩ := hx
      refine ⟨by rw [m0], fun _ => by show ov 0 = _; rw [e2, a1, m3], rfl, m2.symm, rfl, rfl, rfl, rfl, ?_⟩
      exact ⟨hc, by show g - 1 ≤ 12; omega, code_dn hco, hhid, a3⟩
    · exfalso; have := hx.2.1; have := hm.2.1; omega
  · change σ = _ at e1
    subst e1
    rcases hM with hm | hm
    · exfalso; have := hm.2.1; omega
    · exact ⟨by rw [hm.1], fun q => absurd q (by decide), rfl, hm.2.2.symm, rfl, rfl, rfl, rfl, hI⟩

set_option maxHeartbeats 1000000 in
theorem key_colour {c : Nat} {g : Nat} {hid : Int32} {code : Nat → Nat} {ans : Nat → Nat} {dbt : Nat → Bool} {opn : Nat → Bool} {ply : Nat → Bool} {hps : Nat → Nat} {v : Int32} {pl : Int32} {kk r2 : Int32} {u : XSt × (Nat → Int64)} {mw : Nat} (hI : XI c g hid code ans dbt opn) (hL : (kk = nI 0 ∧ ∃ (ρ9 : Int32) (w9 : Nat × Nat), (ρ9 = nI (col c w9.1 w9.2) ∧ w9.1 < qq c ∧ v = nI w9.1 ∧ w9.2 < 4 ∧ pl = nI w9.2) ∧ u.1 = (c, g, hid, code, ans, dbt, opn, ply, hps) ∧ u.2 0 = ρ9.toInt64) ∨ (kk = nI 1 ∧ (hasC c v = false ∨ plC pl = false) ∧ u.1 = (c, g, hid, code, ans, dbt, opn, ply, hps))) (hM : (mw = 0 ∧ ∃ k p0 : Nat, k < qq c ∧ v = nI k ∧ p0 < 4 ∧ pl = nI p0 ∧ r2 = nI (col c k p0)) ∨ (mw = 1 ∧ (hasC c v = false ∨ plC pl = false))) : kk = nI (mw) ∧ (kk = nI 0 → u.2 0 = r2.toInt64) ∧ u.1.1 = c ∧ u.1.2.1 = g ∧ u.1.2.2.1 = hid ∧ u.1.2.2.2.1 = code ∧ u.1.2.2.2.2.1 = ans ∧ u.1.2.2.2.2.2.1 = dbt ∧ XI u.1.1 u.1.2.1 u.1.2.2.1 u.1.2.2.2.1 u.1.2.2.2.2.1 u.1.2.2.2.2.2.1 u.1.2.2.2.2.2.2.1 := by
  obtain ⟨σ, ov⟩ := u
  have hI0 := hI
  obtain ⟨hc, hg, hco, hhid, hop⟩ := hI0
  have hq := qq_in hc
  rcases hL with ⟨rfl, ρ9, w9, hx, e1, e2⟩ | ⟨rfl, hc9, e1⟩
  · change σ = _ at e1
    subst e1
    change ov 0 = _ at e2
    rcases hM with hm | hm
    · refine ⟨by rw [hm.1], fun _ => ?_, rfl, rfl, rfl, rfl, rfl, rfl, hI⟩
      obtain ⟨m0, y1, y2, m1, m2, m3, m4, m5⟩ := hm
      obtain ⟨a1, a2, a3, a4, a5⟩ := hx
      have q1 : w9.1 = y1 := nI_uq a2 m1 (by omega) a3 m2
      have q2 : w9.2 = y2 := nI_uq a4 m3 (by decide) a5 m4
      show ov 0 = _
      rw [e2]
      rw [a1, m5, q1, q2]
    · exfalso; obtain ⟨a1, a2, a3, a4, a5⟩ := hx; rcases hm.2 with q | q; (rw [a3, hasC_lt hc a2] at q; exact absurd q (by decide)); (rw [a5, plC_nI a4] at q; exact absurd q (by decide))
  · change σ = _ at e1
    subst e1
    rcases hM with hm | hm
    · exfalso; obtain ⟨m0, y1, y2, m1, m2, m3, m4, m5⟩ := hm; rcases hc9 with q | q; (rw [m2, hasC_lt hc m1] at q; exact absurd q (by decide)); (rw [m4, plC_nI m3] at q; exact absurd q (by decide))
    · exact ⟨by rw [hm.1], fun q => absurd q (by decide), rfl, rfl, rfl, rfl, rfl, rfl, hI⟩

set_option maxHeartbeats 1000000 in
theorem key_pins {c : Nat} {g : Nat} {hid : Int32} {code : Nat → Nat} {ans : Nat → Nat} {dbt : Nat → Bool} {opn : Nat → Bool} {ply : Nat → Bool} {hps : Nat → Nat} {a : Int32} {b : Int32} {kk r2 : Int32} {u : XSt × (Nat → Int64)} {mw : Nat × (Nat → Nat) × (Nat → Nat)} (hI : XI c g hid code ans dbt opn) (hL : (kk = nI 0 ∧ ∃ (ρ9 : Int32) (w9 : Nat × Nat), (ρ9 = nI (pins c w9.1 w9.2) ∧ w9.1 < qq c ∧ a = nI w9.1 ∧ w9.2 < qq c ∧ b = nI w9.2) ∧ u.1 = (c, g, hid, code, ans, dbt, opn, ply, hps) ∧ u.2 0 = ρ9.toInt64) ∨ (kk = nI 1 ∧ (hasC c a = false ∨ hasC c b = false) ∧ u.1 = (c, g, hid, code, ans, dbt, opn, ply, hps))) (hM : (mw.1 = 0 ∧ ∃ k k2 : Nat, k < qq c ∧ a = nI k ∧ k2 < qq c ∧ b = nI k2 ∧ r2 = nI (pins c k k2)) ∨ (mw.1 = 1 ∧ (hasC c a = false ∨ hasC c b = false))) : kk = nI (mw.1) ∧ (kk = nI 0 → u.2 0 = r2.toInt64) ∧ u.1.1 = c ∧ u.1.2.1 = g ∧ u.1.2.2.1 = hid ∧ u.1.2.2.2.1 = code ∧ u.1.2.2.2.2.1 = ans ∧ u.1.2.2.2.2.2.1 = dbt ∧ XI u.1.1 u.1.2.1 u.1.2.2.1 u.1.2.2.2.1 u.1.2.2.2.2.1 u.1.2.2.2.2.2.1 u.1.2.2.2.2.2.2.1 := by
  obtain ⟨σ, ov⟩ := u
  have hI0 := hI
  obtain ⟨hc, hg, hco, hhid, hop⟩ := hI0
  have hq := qq_in hc
  rcases hL with ⟨rfl, ρ9, w9, hx, e1, e2⟩ | ⟨rfl, hc9, e1⟩
  · change σ = _ at e1
    subst e1
    change ov 0 = _ at e2
    rcases hM with hm | hm
    · refine ⟨by rw [hm.1], fun _ => ?_, rfl, rfl, rfl, rfl, rfl, rfl, hI⟩
      obtain ⟨m0, y1, y2, m1, m2, m3, m4, m5⟩ := hm
      obtain ⟨a1, a2, a3, a4, a5⟩ := hx
      have q1 : w9.1 = y1 := nI_uq a2 m1 (by omega) a3 m2
      have q2 : w9.2 = y2 := nI_uq a4 m3 (by omega) a5 m4
      show ov 0 = _
      rw [e2]
      rw [a1, m5, q1, q2]
    · exfalso; obtain ⟨a1, a2, a3, a4, a5⟩ := hx; rcases hm.2 with q | q; (rw [a3, hasC_lt hc a2] at q; exact absurd q (by decide)); (rw [a5, hasC_lt hc a4] at q; exact absurd q (by decide))
  · change σ = _ at e1
    subst e1
    rcases hM with hm | hm
    · exfalso; obtain ⟨m0, y1, y2, m1, m2, m3, m4, m5⟩ := hm; rcases hc9 with q | q; (rw [m2, hasC_lt hc m1] at q; exact absurd q (by decide)); (rw [m4, hasC_lt hc m3] at q; exact absurd q (by decide))
    · exact ⟨by rw [hm.1], fun q => absurd q (by decide), rfl, rfl, rfl, rfl, rfl, rfl, hI⟩

set_option maxHeartbeats 1000000 in
theorem key_told {c : Nat} {g : Nat} {hid : Int32} {code : Nat → Nat} {ans : Nat → Nat} {dbt : Nat → Bool} {opn : Nat → Bool} {ply : Nat → Bool} {hps : Nat → Nat} {v : Int32} {w : Int32} {kk r2 : Int32} {u : XSt × (Nat → Int64)} {mw : Nat × MSt} (hI : XI c g hid code ans dbt opn) (hL : (kk = nI 0 ∧ ∃ (ρ9 : Int32) (w9 : Nat × Nat), (ρ9 = nI (tldV c code ans dbt w9.1 w9.2) ∧ w9.1 < g ∧ v = nI w9.1 ∧ w9.2 < 6 ∧ w = nI w9.2) ∧ u.1 = (c, g, hid, code, ans, dbt, opn, ply, hps) ∧ u.2 0 = ρ9.toInt64) ∨ (kk = nI 1 ∧ (gsC g v = false ∨ rgC 6 w = false) ∧ u.1 = (c, g, hid, code, ans, dbt, opn, ply, hps))) (hM : (mw.1 = 0 ∧ ∃ i j : Nat, i < g ∧ v = nI i ∧ j < 6 ∧ w = nI j ∧ r2 = nI (tldV c code ans dbt i j)) ∨ (mw.1 = 1 ∧ (gsC g v = false ∨ rgC 6 w = false))) : kk = nI (mw.1) ∧ (kk = nI 0 → u.2 0 = r2.toInt64) ∧ u.1.1 = c ∧ u.1.2.1 = g ∧ u.1.2.2.1 = hid ∧ u.1.2.2.2.1 = code ∧ u.1.2.2.2.2.1 = ans ∧ u.1.2.2.2.2.2.1 = dbt ∧ XI u.1.1 u.1.2.1 u.1.2.2.1 u.1.2.2.2.1 u.1.2.2.2.2.1 u.1.2.2.2.2.2.1 u.1.2.2.2.2.2.2.1 := by
  obtain ⟨σ, ov⟩ := u
  have hI0 := hI
  obtain ⟨hc, hg, hco, hhid, hop⟩ := hI0
  have hq := qq_in hc
  rcases hL with ⟨rfl, ρ9, w9, hx, e1, e2⟩ | ⟨rfl, hc9, e1⟩
  · change σ = _ at e1
    subst e1
    change ov 0 = _ at e2
    rcases hM with hm | hm
    · refine ⟨by rw [hm.1], fun _ => ?_, rfl, rfl, rfl, rfl, rfl, rfl, hI⟩
      obtain ⟨m0, y1, y2, m1, m2, m3, m4, m5⟩ := hm
      obtain ⟨a1, a2, a3, a4, a5⟩ := hx
      have q1 : w9.1 = y1 := nI_uq a2 m1 (by omega) a3 m2
      have q2 : w9.2 = y2 := nI_uq a4 m3 (by decide) a5 m4
      show ov 0 = _
      rw [e2]
      rw [a1, m5, q1, q2]
    · exfalso; obtain ⟨a1, a2, a3, a4, a5⟩ := hx; rcases hm.2 with q | q; (rw [a3, gsC_nI a2 hg] at q; exact absurd q (by decide)); (rw [a5, rgC_nI a4 (by decide)] at q; exact absurd q (by decide))
  · change σ = _ at e1
    subst e1
    rcases hM with hm | hm
    · exfalso; obtain ⟨m0, y1, y2, m1, m2, m3, m4, m5⟩ := hm; rcases hc9 with q | q; (rw [m2, gsC_nI m1 hg] at q; exact absurd q (by decide)); (rw [m4, rgC_nI m3 (by decide)] at q; exact absurd q (by decide))
    · exact ⟨by rw [hm.1], fun q => absurd q (by decide), rfl, rfl, rfl, rfl, rfl, rfl, hI⟩

set_option maxHeartbeats 1000000 in
theorem key_have {c : Nat} {g : Nat} {hid : Int32} {code : Nat → Nat} {ans : Nat → Nat} {dbt : Nat → Bool} {opn : Nat → Bool} {ply : Nat → Bool} {hps : Nat → Nat} {pl : Int32} {x : Int32} {kk r2 : Int32} {u : XSt × (Nat → Int64)} {mw : Nat × MSt} (hI : XI c g hid code ans dbt opn) (hL : (kk = nI 0 ∧ ∃ (ρ9 : Int32) (w9 : Nat × Nat), (ρ9 = nI (hvN c (opS c g code ans dbt) w9.1 w9.2) ∧ w9.1 < 4 ∧ pl = nI w9.1 ∧ w9.2 < c ∧ x = nI w9.2) ∧ u.1 = (c, g, hid, code, ans, dbt, opn, ply, hps) ∧ u.2 0 = ρ9.toInt64) ∨ (kk = nI 1 ∧ (plC pl = false ∨ rgC c x = false) ∧ u.1 = (c, g, hid, code, ans, dbt, opn, ply, hps))) (hM : (mw.1 = 0 ∧ ∃ p0 x0 : Nat, p0 < 4 ∧ pl = nI p0 ∧ x0 < c ∧ x = nI x0 ∧ r2 = nI (hvN c (opS c g code ans dbt) p0 x0)) ∨ (mw.1 = 1 ∧ (plC pl = false ∨ rgC c x = false))) : kk = nI (mw.1) ∧ (kk = nI 0 → u.2 0 = r2.toInt64) ∧ u.1.1 = c ∧ u.1.2.1 = g ∧ u.1.2.2.1 = hid ∧ u.1.2.2.2.1 = code ∧ u.1.2.2.2.2.1 = ans ∧ u.1.2.2.2.2.2.1 = dbt ∧ XI u.1.1 u.1.2.1 u.1.2.2.1 u.1.2.2.2.1 u.1.2.2.2.2.1 u.1.2.2.2.2.2.1 u.1.2.2.2.2.2.2.1 := by
  obtain ⟨σ, ov⟩ := u
  have hI0 := hI
  obtain ⟨hc, hg, hco, hhid, hop⟩ := hI0
  have hq := qq_in hc
  rcases hL with ⟨rfl, ρ9, w9, hx, e1, e2⟩ | ⟨rfl, hc9, e1⟩
  · change σ = _ at e1
    subst e1
    change ov 0 = _ at e2
    rcases hM with hm | hm
    · refine ⟨by rw [hm.1], fun _ => ?_, rfl, rfl, rfl, rfl, rfl, rfl, hI⟩
      obtain ⟨m0, y1, y2, m1, m2, m3, m4, m5⟩ := hm
      obtain ⟨a1, a2, a3, a4, a5⟩ := hx
      have q1 : w9.1 = y1 := nI_uq a2 m1 (by decide) a3 m2
      have q2 : w9.2 = y2 := nI_uq a4 m3 (by omega) a5 m4
      show ov 0 = _
      rw [e2]
      rw [a1, m5, q1, q2]
    · exfalso; obtain ⟨a1, a2, a3, a4, a5⟩ := hx; rcases hm.2 with q | q; (rw [a3, plC_nI a2] at q; exact absurd q (by decide)); (rw [a5, rgC_nI a4 (by omega)] at q; exact absurd q (by decide))
  · change σ = _ at e1
    subst e1
    rcases hM with hm | hm
    · exfalso; obtain ⟨m0, y1, y2, m1, m2, m3, m4, m5⟩ := hm; rcases hc9 with q | q; (rw [m2, plC_nI m1] at q; exact absurd q (by decide)); (rw [m4, rgC_nI m3 (by omega)] at q; exact absurd q (by decide))
    · exact ⟨by rw [hm.1], fun q => absurd q (by decide), rfl, rfl, rfl, rfl, rfl, rfl, hI⟩

set_option maxHeartbeats 1000000 in
theorem key_count {c : Nat} {g : Nat} {hid : Int32} {code : Nat → Nat} {ans : Nat → Nat} {dbt : Nat → Bool} {opn : Nat → Bool} {ply : Nat → Bool} {hps : Nat → Nat} {w : Int32} {kk r2 : Int32} {u : XSt × (Nat → Int64)} {mw : Nat × MSt} (hI : XI c g hid code ans dbt opn) (hL : (kk = nI 0 ∧ ∃ (ρ9 : Int32) (w9 : Nat), (ρ9 = nI (cntV c g hid code ans dbt w9) ∧ w9 < 7 ∧ w = nI w9) ∧ u.1 = (c, g, hid, code, ans, dbt, opn, ply, hps) ∧ u.2 0 = ρ9.toInt64) ∨ (kk = nI 1 ∧ (rgC 7 w = false) ∧ u.1 = (c, g, hid, code, ans, dbt, opn, ply, hps))) (hM : (mw.1 = 0 ∧ ∃ j : Nat, j < 7 ∧ w = nI j ∧ r2 = nI (cntV c g hid code ans dbt j)) ∨ (mw.1 = 1 ∧ rgC 7 w = false)) : kk = nI (mw.1) ∧ (kk = nI 0 → u.2 0 = r2.toInt64) ∧ u.1.1 = c ∧ u.1.2.1 = g ∧ u.1.2.2.1 = hid ∧ u.1.2.2.2.1 = code ∧ u.1.2.2.2.2.1 = ans ∧ u.1.2.2.2.2.2.1 = dbt ∧ XI u.1.1 u.1.2.1 u.1.2.2.1 u.1.2.2.2.1 u.1.2.2.2.2.1 u.1.2.2.2.2.2.1 u.1.2.2.2.2.2.2.1 := by
  obtain ⟨σ, ov⟩ := u
  have hI0 := hI
  obtain ⟨hc, hg, hco, hhid, hop⟩ := hI0
  have hq := qq_in hc
  rcases hL with ⟨rfl, ρ9, w9, hx, e1, e2⟩ | ⟨rfl, hc9, e1⟩
  · change σ = _ at e1
    subst e1
    change ov 0 = _ at e2
    rcases hM with hm | hm
    · refine ⟨by rw [hm.1], fun _ => ?_, rfl, rfl, rfl, rfl, rfl, rfl, hI⟩
      obtain ⟨m0, y1, m1, m2, m3⟩ := hm
      obtain ⟨a1, a2, a3⟩ := hx
      have q1 : w9 = y1 := nI_uq a2 m1 (by decide) a3 m2
      show ov 0 = _
      rw [e2]
      rw [a1, m3, q1]
    · exfalso; obtain ⟨a1, a2, a3⟩ := hx; have q := hm.2; rw [a3, rgC_nI a2 (by decide)] at q; exact absurd q (by decide)
  · change σ = _ at e1
    subst e1
    rcases hM with hm | hm
    · exfalso; obtain ⟨m0, y1, m1, m2, m3⟩ := hm; rw [m2, rgC_nI m1 (by decide)] at hc9; exact absurd hc9 (by decide)
    · exact ⟨by rw [hm.1], fun q => absurd q (by decide), rfl, rfl, rfl, rfl, rfl, rfl, hI⟩

set_option maxHeartbeats 1000000 in
theorem key_isPossible {c : Nat} {g : Nat} {hid : Int32} {code : Nat → Nat} {ans : Nat → Nat} {dbt : Nat → Bool} {opn : Nat → Bool} {ply : Nat → Bool} {hps : Nat → Nat} {v : Int32} {kk r2 : Int32} {u : XSt × (Nat → Int64)} {mw : Nat × (Nat → Nat) × (Nat → Nat)} (hI : XI c g hid code ans dbt opn) (hL : (kk = nI 0 ∧ ∃ (ρ9 : Int32) (w9 : Nat), (ρ9 = bI (opS c g code ans dbt w9) ∧ w9 < qq c ∧ v = nI w9) ∧ u.1 = (c, g, hid, code, ans, dbt, opn, ply, hps) ∧ u.2 0 = (if ρ9 = 0 then 0 else 1)) ∨ (kk = nI 1 ∧ (hasC c v = false) ∧ u.1 = (c, g, hid, code, ans, dbt, opn, ply, hps))) (hM : (mw.1 = 0 ∧ ∃ k : Nat, k < qq c ∧ v = nI k ∧ r2 = bI (opS c g code ans dbt k)) ∨ (mw.1 = 1 ∧ hasC c v = false)) : kk = nI (mw.1) ∧ (kk = nI 0 → u.2 0 = (if r2 = 0 then 0 else 1)) ∧ u.1.1 = c ∧ u.1.2.1 = g ∧ u.1.2.2.1 = hid ∧ u.1.2.2.2.1 = code ∧ u.1.2.2.2.2.1 = ans ∧ u.1.2.2.2.2.2.1 = dbt ∧ XI u.1.1 u.1.2.1 u.1.2.2.1 u.1.2.2.2.1 u.1.2.2.2.2.1 u.1.2.2.2.2.2.1 u.1.2.2.2.2.2.2.1 := by
  obtain ⟨σ, ov⟩ := u
  have hI0 := hI
  obtain ⟨hc, hg, hco, hhid, hop⟩ := hI0
  have hq := qq_in hc
  rcases hL with ⟨rfl, ρ9, w9, hx, e1, e2⟩ | ⟨rfl, hc9, e1⟩
  · change σ = _ at e1
    subst e1
    change ov 0 = _ at e2
    rcases hM with hm | hm
    · refine ⟨by rw [hm.1], fun _ => ?_, rfl, rfl, rfl, rfl, rfl, rfl, hI⟩
      obtain ⟨m0, y1, m1, m2, m3⟩ := hm
      obtain ⟨a1, a2, a3⟩ := hx
      have q1 : w9 = y1 := nI_uq a2 m1 (by omega) a3 m2
      show ov 0 = _
      rw [e2]
      rw [a1, m3, q1]
    · exfalso; obtain ⟨a1, a2, a3⟩ := hx; have q := hm.2; rw [a3, hasC_lt hc a2] at q; exact absurd q (by decide)
  · change σ = _ at e1
    subst e1
    rcases hM with hm | hm
    · exfalso; obtain ⟨m0, y1, m1, m2, m3⟩ := hm; rw [m2, hasC_lt hc m1] at hc9; exact absurd hc9 (by decide)
    · exact ⟨by rw [hm.1], fun q => absurd q (by decide), rfl, rfl, rfl, rfl, rfl, rfl, hI⟩

set_option maxHeartbeats 1000000 in
theorem key_possible {c : Nat} {g : Nat} {hid : Int32} {code : Nat → Nat} {ans : Nat → Nat} {dbt : Nat → Bool} {opn : Nat → Bool} {ply : Nat → Bool} {hps : Nat → Nat} {v : Int32} {kk r2 : Int32} {u : XSt × (Nat → Int64)} {mw : Nat × MSt} (hI : XI c g hid code ans dbt opn) (hL : (kk = nI 0 ∧ ∃ (ρ9 : Int32) (w9 : Unit), (ρ9 = memA (opS c g code ans dbt) v 81 ∧ ¬ memA (opS c g code ans dbt) v 81 = -1) ∧ u.1 = (c, g, hid, code, ans, dbt, opn, ply, hps) ∧ u.2 0 = ρ9.toInt64) ∨ (kk = nI 1 ∧ (memA (opS c g code ans dbt) v 81 = -1) ∧ u.1 = (c, g, hid, code, ans, dbt, opn, ply, hps))) (hM : (mw.1 = 0 ∧ ¬ memA (opS c g code ans dbt) v 81 = -1 ∧ r2 = memA (opS c g code ans dbt) v 81) ∨ (mw.1 = 1 ∧ memA (opS c g code ans dbt) v 81 = -1)) : kk = nI (mw.1) ∧ (kk = nI 0 → u.2 0 = r2.toInt64) ∧ u.1.1 = c ∧ u.1.2.1 = g ∧ u.1.2.2.1 = hid ∧ u.1.2.2.2.1 = code ∧ u.1.2.2.2.2.1 = ans ∧ u.1.2.2.2.2.2.1 = dbt ∧ XI u.1.1 u.1.2.1 u.1.2.2.1 u.1.2.2.2.1 u.1.2.2.2.2.1 u.1.2.2.2.2.2.1 u.1.2.2.2.2.2.2.1 := by
  obtain ⟨σ, ov⟩ := u
  have hI0 := hI
  obtain ⟨hc, hg, hco, hhid, hop⟩ := hI0
  have hq := qq_in hc
  rcases hL with ⟨rfl, ρ9, w9, hx, e1, e2⟩ | ⟨rfl, hc9, e1⟩
  · change σ = _ at e1
    subst e1
    change ov 0 = _ at e2
    rcases hM with hm | hm
    · refine ⟨by rw [hm.1], fun _ => ?_, rfl, rfl, rfl, rfl, rfl, rfl, hI⟩
      obtain ⟨m0, m1, m2⟩ := hm
      show ov 0 = _
      rw [e2]
      rw [hx.1, m2]
    · exfalso; exact hx.2 hm.2
  · change σ = _ at e1
    subst e1
    rcases hM with hm | hm
    · exfalso; exact hm.2.1 hc9
    · exact ⟨by rw [hm.1], fun q => absurd q (by decide), rfl, rfl, rfl, rfl, rfl, rfl, hI⟩

set_option maxHeartbeats 1000000 in
theorem key_sure {c : Nat} {g : Nat} {hid : Int32} {code : Nat → Nat} {ans : Nat → Nat} {dbt : Nat → Bool} {opn : Nat → Bool} {ply : Nat → Bool} {hps : Nat → Nat} {pl : Int32} {kk r2 : Int32} {u : XSt × (Nat → Int64)} {mw : Nat × MSt} (hI : XI c g hid code ans dbt opn) (hL : (kk = nI 0 ∧ ∃ (ρ9 : Int32) (w9 : Nat), (ρ9 = sureV c (opS c g code ans dbt) w9 c ∧ w9 < 4 ∧ pl = nI w9) ∧ u.1 = (c, g, hid, code, ans, dbt, opn, ply, hps) ∧ u.2 0 = ρ9.toInt64) ∨ (kk = nI 1 ∧ (plC pl = false) ∧ u.1 = (c, g, hid, code, ans, dbt, opn, ply, hps))) (hM : (mw.1 = 0 ∧ ∃ p0 : Nat, p0 < 4 ∧ pl = nI p0 ∧ r2 = sureV c (opS c g code ans dbt) p0 c) ∨ (mw.1 = 1 ∧ plC pl = false)) : kk = nI (mw.1) ∧ (kk = nI 0 → u.2 0 = r2.toInt64) ∧ u.1.1 = c ∧ u.1.2.1 = g ∧ u.1.2.2.1 = hid ∧ u.1.2.2.2.1 = code ∧ u.1.2.2.2.2.1 = ans ∧ u.1.2.2.2.2.2.1 = dbt ∧ XI u.1.1 u.1.2.1 u.1.2.2.1 u.1.2.2.2.1 u.1.2.2.2.2.1 u.1.2.2.2.2.2.1 u.1.2.2.2.2.2.2.1 := by
  obtain ⟨σ, ov⟩ := u
  have hI0 := hI
  obtain ⟨hc, hg, hco, hhid, hop⟩ := hI0
  have hq := qq_in hc
  rcases hL with ⟨rfl, ρ9, w9, hx, e1, e2⟩ | ⟨rfl, hc9, e1⟩
  · change σ = _ at e1
    subst e1
    change ov 0 = _ at e2
    rcases hM with hm | hm
    · refine ⟨by rw [hm.1], fun _ => ?_, rfl, rfl, rfl, rfl, rfl, rfl, hI⟩
      obtain ⟨m0, y1, m1, m2, m3⟩ := hm
      obtain ⟨a1, a2, a3⟩ := hx
      have q1 : w9 = y1 := nI_uq a2 m1 (by decide) a3 m2
      show ov 0 = _
      rw [e2]
      rw [a1, m3, q1]
    · exfalso; obtain ⟨a1, a2, a3⟩ := hx; have q := hm.2; rw [a3, plC_nI a2] at q; exact absurd q (by decide)
  · change σ = _ at e1
    subst e1
    rcases hM with hm | hm
    · exfalso; obtain ⟨m0, y1, m1, m2, m3⟩ := hm; rw [m2, plC_nI m1] at hc9; exact absurd hc9 (by decide)
    · exact ⟨by rw [hm.1], fun q => absurd q (by decide), rfl, rfl, rfl, rfl, rfl, rfl, hI⟩

set_option maxHeartbeats 1000000 in
theorem key_worst {c : Nat} {g : Nat} {hid : Int32} {code : Nat → Nat} {ans : Nat → Nat} {dbt : Nat → Bool} {opn : Nat → Bool} {ply : Nat → Bool} {hps : Nat → Nat} {v : Int32} {kk r2 : Int32} {u : XSt × (Nat → Int64)} {mw : Nat × MSt} (hI : XI c g hid code ans dbt opn) (hL : (kk = nI 0 ∧ ∃ (ρ9 : Int32) (w9 : Nat × (Nat → Nat)), (ρ9 = nI (gh c w9.1 (opS c g code ans dbt)) ∧ w9.1 < qq c ∧ v = nI w9.1) ∧ u.1 = (c, g, hid, code, ans, dbt, opn, ply, w9.2) ∧ u.2 0 = ρ9.toInt64) ∨ (kk = nI 1 ∧ (hasC c v = false) ∧ u.1 = (c, g, hid, code, ans, dbt, opn, ply, hps))) (hM : (mw.1 = 0 ∧ ∃ k : Nat, k < qq c ∧ v = nI k ∧ r2 = nI (gh c k (opS c g code ans dbt))) ∨ (mw.1 = 1 ∧ hasC c v = false)) : kk = nI (mw.1) ∧ (kk = nI 0 → u.2 0 = r2.toInt64) ∧ u.1.1 = c ∧ u.1.2.1 = g ∧ u.1.2.2.1 = hid ∧ u.1.2.2.2.1 = code ∧ u.1.2.2.2.2.1 = ans ∧ u.1.2.2.2.2.2.1 = dbt ∧ XI u.1.1 u.1.2.1 u.1.2.2.1 u.1.2.2.2.1 u.1.2.2.2.2.1 u.1.2.2.2.2.2.1 u.1.2.2.2.2.2.2.1 := by
  obtain ⟨σ, ov⟩ := u
  have hI0 := hI
  obtain ⟨hc, hg, hco, hhid, hop⟩ := hI0
  have hq := qq_in hc
  rcases hL with ⟨rfl, ρ9, w9, hx, e1, e2⟩ | ⟨rfl, hc9, e1⟩
  · change σ = _ at e1
    subst e1
    change ov 0 = _ at e2
    rcases hM with hm | hm
    · refine ⟨by rw [hm.1], fun _ => ?_, rfl, rfl, rfl, rfl, rfl, rfl, hI⟩
      obtain ⟨m0, y1, m1, m2, m3⟩ := hm
      obtain ⟨a1, a2, a3⟩ := hx
      have q1 : w9.1 = y1 := nI_uq a2 m1 (by omega) a3 m2
      show ov 0 = _
      rw [e2]
      rw [a1, m3, q1]
    · exfalso; obtain ⟨a1, a2, a3⟩ := hx; have q := hm.2; rw [a3, hasC_lt hc a2] at q; exact absurd q (by decide)
  · change σ = _ at e1
    subst e1
    rcases hM with hm | hm
    · exfalso; obtain ⟨m0, y1, m1, m2, m3⟩ := hm; rw [m2, hasC_lt hc m1] at hc9; exact absurd hc9 (by decide)
    · exact ⟨by rw [hm.1], fun q => absurd q (by decide), rfl, rfl, rfl, rfl, rfl, rfl, hI⟩

set_option maxHeartbeats 1000000 in
theorem key_parts {c : Nat} {g : Nat} {hid : Int32} {code : Nat → Nat} {ans : Nat → Nat} {dbt : Nat → Bool} {opn : Nat → Bool} {ply : Nat → Bool} {hps : Nat → Nat} {v : Int32} {kk r2 : Int32} {u : XSt × (Nat → Int64)} {mw : Nat × MSt} (hI : XI c g hid code ans dbt opn) (hL : (kk = nI 0 ∧ ∃ (ρ9 : Int32) (w9 : Nat × (Nat → Nat)), (ρ9 = nI (cN (fun x => decide (0 < hpN c w9.1 (opS c g code ans dbt) x)) 21) ∧ w9.1 < qq c ∧ v = nI w9.1) ∧ u.1 = (c, g, hid, code, ans, dbt, opn, ply, w9.2) ∧ u.2 0 = ρ9.toInt64) ∨ (kk = nI 1 ∧ (hasC c v = false) ∧ u.1 = (c, g, hid, code, ans, dbt, opn, ply, hps))) (hM : (mw.1 = 0 ∧ ∃ k : Nat, k < qq c ∧ v = nI k ∧ r2 = nI (cN (fun x => decide (0 < hpN c k (opS c g code ans dbt) x)) 21)) ∨ (mw.1 = 1 ∧ hasC c v = false)) : kk = nI (mw.1) ∧ (kk = nI 0 → u.2 0 = r2.toInt64) ∧ u.1.1 = c ∧ u.1.2.1 = g ∧ u.1.2.2.1 = hid ∧ u.1.2.2.2.1 = code ∧ u.1.2.2.2.2.1 = ans ∧ u.1.2.2.2.2.2.1 = dbt ∧ XI u.1.1 u.1.2.1 u.1.2.2.1 u.1.2.2.2.1 u.1.2.2.2.2.1 u.1.2.2.2.2.2.1 u.1.2.2.2.2.2.2.1 := by
  obtain ⟨σ, ov⟩ := u
  have hI0 := hI
  obtain ⟨hc, hg, hco, hhid, hop⟩ := hI0
  have hq := qq_in hc
  rcases hL with ⟨rfl, ρ9, w9, hx, e1, e2⟩ | ⟨rfl, hc9, e1⟩
  · change σ = _ at e1
    subst e1
    change ov 0 = _ at e2
    rcases hM with hm | hm
    · refine ⟨by rw [hm.1], fun _ => ?_, rfl, rfl, rfl, rfl, rfl, rfl, hI⟩
      obtain ⟨m0, y1, m1, m2, m3⟩ := hm
      obtain ⟨a1, a2, a3⟩ := hx
      have q1 : w9.1 = y1 := nI_uq a2 m1 (by omega) a3 m2
      show ov 0 = _
      rw [e2]
      rw [a1, m3, q1]
    · exfalso; obtain ⟨a1, a2, a3⟩ := hx; have q := hm.2; rw [a3, hasC_lt hc a2] at q; exact absurd q (by decide)
  · change σ = _ at e1
    subst e1
    rcases hM with hm | hm
    · exfalso; obtain ⟨m0, y1, m1, m2, m3⟩ := hm; rw [m2, hasC_lt hc m1] at hc9; exact absurd hc9 (by decide)
    · exact ⟨by rw [hm.1], fun q => absurd q (by decide), rfl, rfl, rfl, rfl, rfl, rfl, hI⟩

set_option maxHeartbeats 1000000 in
theorem key_takes {c : Nat} {g : Nat} {hid : Int32} {code : Nat → Nat} {ans : Nat → Nat} {dbt : Nat → Bool} {opn : Nat → Bool} {ply : Nat → Bool} {hps : Nat → Nat} {v : Int32} {f : Int32} {kk r2 : Int32} {u : XSt × (Nat → Int64)} {mw : Nat × MSt} (hI : XI c g hid code ans dbt opn) (hL : (kk = nI 0 ∧ ∃ (ρ9 : Int32) (w9 : Nat × Nat × Int32 × (Nat → Bool) × (Nat → Nat)), (ρ9 = w9.2.2.1 ∧ tkR c w9.1 w9.2.1 w9.2.2.1 ∧ w9.1 < qq c ∧ v = nI w9.1 ∧ w9.2.1 < qq c ∧ f = nI w9.2.1) ∧ u.1 = (c, g, hid, code, ans, dbt, opn, w9.2.2.2.1, w9.2.2.2.2) ∧ u.2 0 = ρ9.toInt64) ∨ (kk = nI 1 ∧ (hasC c v = false ∨ hasC c f = false) ∧ u.1 = (c, g, hid, code, ans, dbt, opn, ply, hps))) (hM : (mw.1 = 0 ∧ ∃ k k2 : Nat, k < qq c ∧ v = nI k ∧ k2 < qq c ∧ f = nI k2 ∧ tkR c k k2 r2) ∨ (mw.1 = 1 ∧ (hasC c v = false ∨ hasC c f = false))) : kk = nI (mw.1) ∧ (kk = nI 0 → u.2 0 = r2.toInt64) ∧ u.1.1 = c ∧ u.1.2.1 = g ∧ u.1.2.2.1 = hid ∧ u.1.2.2.2.1 = code ∧ u.1.2.2.2.2.1 = ans ∧ u.1.2.2.2.2.2.1 = dbt ∧ XI u.1.1 u.1.2.1 u.1.2.2.1 u.1.2.2.2.1 u.1.2.2.2.2.1 u.1.2.2.2.2.2.1 u.1.2.2.2.2.2.2.1 := by
  obtain ⟨σ, ov⟩ := u
  have hI0 := hI
  obtain ⟨hc, hg, hco, hhid, hop⟩ := hI0
  have hq := qq_in hc
  rcases hL with ⟨rfl, ρ9, w9, hx, e1, e2⟩ | ⟨rfl, hc9, e1⟩
  · change σ = _ at e1
    subst e1
    change ov 0 = _ at e2
    rcases hM with hm | hm
    · refine ⟨by rw [hm.1], fun _ => ?_, rfl, rfl, rfl, rfl, rfl, rfl, hI⟩
      obtain ⟨m0, y1, y2, m1, m2, m3, m4, m5⟩ := hm
      obtain ⟨a1, a0, a2, a3, a4, a5⟩ := hx
      have q1 : w9.1 = y1 := nI_uq a2 m1 (by omega) a3 m2
      have q2 : w9.2.1 = y2 := nI_uq a4 m3 (by omega) a5 m4
      rw [q1, q2] at a0
      show ov 0 = _
      rw [e2]
      rw [a1, tkR_one a0 m5]
    · exfalso; obtain ⟨a1, a0, a2, a3, a4, a5⟩ := hx; rcases hm.2 with q | q; (rw [a3, hasC_lt hc a2] at q; exact absurd q (by decide)); (rw [a5, hasC_lt hc a4] at q; exact absurd q (by decide))
  · change σ = _ at e1
    subst e1
    rcases hM with hm | hm
    · exfalso; obtain ⟨m0, y1, y2, m1, m2, m3, m4, m5⟩ := hm; rcases hc9 with q | q; (rw [m2, hasC_lt hc m1] at q; exact absurd q (by decide)); (rw [m4, hasC_lt hc m3] at q; exact absurd q (by decide))
    · exact ⟨by rw [hm.1], fun q => absurd q (by decide), rfl, rfl, rfl, rfl, rfl, rfl, hI⟩
