/-- candles as they are taken away: 3 is none -/
def eA (x : Nat) : Int32 := if x = 3 then -1 else nI x
def eB (x : Nat) : Int32 := if x = 3 then -2 else nI x
theorem eAB : ∀ x, x < 4 → ∀ y, y < 4 → (eA x = eB y ↔ (x = y ∧ x ≠ 3)) := by decide
def stp (s : (Nat → Nat) × (Nat → Nat) × Nat) (k i : Nat) : (Nat → Nat) × (Nat → Nat) × Nat := if s.1 k = s.2.1 i ∧ s.1 k ≠ 3 then (va_up s.1 k 3, va_up s.2.1 i 3, s.2.2 + 1) else s
def dg (c a b : Nat) : Nat → (Nat → Nat) × (Nat → Nat) × Nat
  | 0 => (col c a, col c b, 0)
  | j + 1 => stp (dg c a b j) j j
def inn (s : (Nat → Nat) × (Nat → Nat) × Nat) (k : Nat) : Nat → (Nat → Nat) × (Nat → Nat) × Nat
  | 0 => s
  | i + 1 => stp (inn s k i) k i
def ou (s : (Nat → Nat) × (Nat → Nat) × Nat) : Nat → (Nat → Nat) × (Nat → Nat) × Nat
  | 0 => s
  | k + 1 => inn (ou s k) k 4
def dg0 (c a b : Nat) : (Nat → Nat) × (Nat → Nat) × Nat := ((dg c a b 4).1, (dg c a b 4).2.1, 0)
def RS (s : (Nat → Nat) × (Nat → Nat) × Nat) (fa fb : Nat → Int32) : Prop := ∀ z, z < 4 → fa z = eA (s.1 z) ∧ fb z = eB (s.2.1 z) ∧ s.1 z < 4 ∧ s.2.1 z < 4
theorem RS.eq {s : (Nat → Nat) × (Nat → Nat) × Nat} {fa fb : Nat → Int32} (h : RS s fa fb) {k i : Nat} (hk : k < 4) (hi : i < 4) (e : fa k = fb i) : (stp s k i).2.2 = s.2.2 + 1 ∧ RS (stp s k i) (va_up fa k (-1)) (va_up fb i (-2)) := by
  obtain ⟨h1, -, h3, -⟩ := h k hk
  obtain ⟨-, h2, -, h4⟩ := h i hi
  rw [h1, h2] at e
  have e2 := (eAB _ h3 _ h4).mp e
  rw [stp, if_pos e2]
  refine ⟨rfl, fun z hz => ?_⟩
  obtain ⟨g1, g2, g3, g4⟩ := h z hz
  refine ⟨?_, ?_, ?_, ?_⟩
  · simp only [va_up]; split
    · rfl
    · exact g1
  · simp only [va_up]; split
    · rfl
    · exact g2
  · simp only [va_up]; split <;> omega
  · simp only [va_up]; split <;> omega
theorem RS.ne {s : (Nat → Nat) × (Nat → Nat) × Nat} {fa fb : Nat → Int32} (h : RS s fa fb) {k i : Nat} (hk : k < 4) (hi : i < 4) (e : ¬ fa k = fb i) : stp s k i = s := by
  obtain ⟨h1, -, h3, -⟩ := h k hk
  obtain ⟨-, h2, -, h4⟩ := h i hi
  rw [h1, h2] at e
  rw [stp, if_neg (fun q => e ((eAB _ h3 _ h4).mpr q))]
theorem RS_col {c a b : Nat} (hc : c = 2 ∨ c = 3) {fa fb : Nat → Nat} (h1 : ∀ j, j < 4 → fa j = col c a j) (h2 : ∀ j, j < 4 → fb j = col c b j) : RS (dg c a b 0) (fun j => nI (fa j)) (fun j => nI (fb j)) := by
  intro z hz
  have := col_lt hc a z
  have := col_lt hc b z
  refine ⟨?_, ?_, ?_, ?_⟩
  · show nI (fa z) = eA (col c a z); rw [h1 z hz, eA, if_neg (by omega)]
  · show nI (fb z) = eB (col c b z); rw [h2 z hz, eB, if_neg (by omega)]
  · show col c a z < 4; omega
  · show col c b z < 4; omega
theorem sim_tab2 : ∀ a, a < 16 → ∀ b, b < 16 → 5 * (dg 2 a b 4).2.2 + (ou (dg0 2 a b) 4).2.2 = pinsD 2 a b := by decide +kernel
theorem pin_tab2 : ∀ a, a < 16 → ∀ b, b < 16 → pinsD 2 a b / 5 + pinsD 2 a b % 5 ≤ 4 ∧ ¬ (pinsD 2 a b / 5 = 3 ∧ pinsD 2 a b % 5 = 1) := by decide +kernel
theorem pin_tab3 : ∀ a, a < 81 → ∀ b, b < 81 → pinsD 3 a b / 5 + pinsD 3 a b % 5 ≤ 4 ∧ ¬ (pinsD 3 a b / 5 = 3 ∧ pinsD 3 a b % 5 = 1) := by decide +kernel
theorem pin_tab {c a b : Nat} (hc : c = 2 ∨ c = 3) (ha : a < qq c) (hb : b < qq c) : pins c a b / 5 + pins c a b % 5 ≤ 4 ∧ ¬ (pins c a b / 5 = 3 ∧ pins c a b % 5 = 1) := by
  simp only [pins_eq]
  rcases hc with rfl | rfl
  · exact pin_tab2 a ha b hb
  · exact pin_tab3 a ha b hb
theorem sim_tab3 : ∀ a, a < 81 → ∀ b, b < 81 → 5 * (dg 3 a b 4).2.2 + (ou (dg0 3 a b) 4).2.2 = pinsD 3 a b := by decide +kernel
theorem sim_pins {c a b : Nat} (hc : c = 2 ∨ c = 3) (ha : a < qq c) (hb : b < qq c) : 5 * (dg c a b 4).2.2 + (ou (dg0 c a b) 4).2.2 = pins c a b := by
  rw [pins_eq]
  rcases hc with rfl | rfl
  · exact sim_tab2 a ha b hb
  · exact sim_tab3 a ha b hb
