abbrev OutC (cG : ClassId) (n : Nat) (rc : Nat → Nat) : va_E := .inl (cG, n, .inr (.inr (.inr (.inr (fun i => if i < n then some (rc i) else none)))))
def RowsAt (w : va_W) (cI : ClassId) (kr n k : Nat) (rc : Nat → Nat) (M : Nat → Nat → Nat) : Prop := ∀ i, i < n → w[kr + i]? = some (rc i, .inl (cI, k, .inl (fun j => nI (M i j))))
def up2 (M : Nat → Nat → Nat) (i j v : Nat) : Nat → Nat → Nat := fun a => if a = i then va_up (M i) j v else M a
def Same (w w2 : va_W) (lo hi : Nat) : Prop := w2.length = w.length ∧ ∀ k, (k < lo ∨ hi ≤ k) → w2[k]? = w[k]?
theorem Same.rf {w : va_W} {lo hi : Nat} : Same w w lo hi := ⟨rfl, fun _ _ => rfl⟩
theorem Same.put {w w2 : va_W} {lo hi p : Nat} {x : Nat × va_E} (h : Same w w2 lo hi) (h1 : lo ≤ p) (h2 : p < hi) : Same w (w2.set p x) lo hi := by
  refine ⟨by rw [List.length_set]; exact h.1, fun k hk => ?_⟩
  rw [List.getElem?_set_ne (by omega)]
  exact h.2 k hk
theorem Same.tr {w w2 w3 : va_W} {lo hi lo2 hi2 : Nat} (h : Same w w2 lo hi) (h2 : Same w2 w3 lo2 hi2) (a b : Nat) (h3 : a ≤ lo) (h4 : a ≤ lo2) (h5 : hi ≤ b) (h6 : hi2 ≤ b) : Same w w3 a b :=
  ⟨h2.1.trans h.1, fun k hk => (h2.2 k (by omega)).trans (h.2 k (by omega))⟩
theorem RowsAt.put {w : va_W} {cI : ClassId} {kr n k i j v : Nat} {rc : Nat → Nat} {M : Nat → Nat → Nat} (h : RowsAt w cI kr n k rc M) (hi : i < n) : RowsAt (w.set (kr + i) (rc i, .inl (cI, k, .inl (fun z => nI (va_up (M i) j v z))))) cI kr n k rc (up2 M i j v) := by
  intro a ha
  by_cases e : a = i
  · subst e
    rw [List.getElem?_set_self (List.getElem?_eq_some_iff.mp (h a ha)).1]
    simp [up2]
  · rw [List.getElem?_set_ne (by omega), h a ha]
    simp only [up2, if_neg e]
theorem RowsAt.keep {w w2 : va_W} {cI : ClassId} {kr n k lo hi : Nat} {rc : Nat → Nat} {M : Nat → Nat → Nat} (h : RowsAt w cI kr n k rc M) (hs : Same w w2 lo hi) (hd : kr + n ≤ lo ∨ hi ≤ kr) : RowsAt w2 cI kr n k rc M := fun i hi9 => (hs.2 _ (by omega)).trans (h i hi9)
section RMN
variable {p : Program} {l : Launch} {e : Env} {R : Room} {s : State} {m : MethodId} {args : Array Value} {below : List Frame} {meth : Method} {c : Code} {H : Heap} {locs : List Loc} {cells slots : Nat} {Q : State → Prop}
variable {cc : ByteArray} {pc : Nat} {ls : Array Slot} {rest : List Value} {D : va_G} {A : Nat → Prop} {w : va_W}
theorem TY_eq {cI cZ cG cJ : ClassId} {tys : List (ClassId × FieldType)} (hK : va_K D vwCl (TY cI cZ cG cJ) s) (hK2 : va_K D vwCl tys s) {k k2 : Nat} {c1 c2 : ClassId} {ty : FieldType} (h1 : (TY cI cZ cG cJ)[k]? = some (c1, ty)) (h2 : tys[k2]? = some (c2, ty)) (hty : ∀ C, ty ≠ .object C) : c2 = c1 := by
  have a1 := (hK.2 k _ h1).2
  have a2 := (hK2.2 k2 _ h2).2
  cases ty <;> first | exact absurd rfl (hty _) | exact Option.some.inj (a2.symm.trans a1)
theorem x_newi {cI cZ cG cJ : ClassId} (hx : p.tables.exec = Jvm.exec) (hb : c.code = cc) (harr : (Cond.arrayClass .int).before args s = true) (hB : Bs D (TY cI cZ cG cJ) A s) (hP : va_P D vwCl w H) (hD : va_D A w) (hS : va_S A s.heap H locs) {n : Nat} (hn : n ≤ 81) (hc : cells + 1 ≤ R.cells) (hs : slots + n ≤ R.slots) (hdg : decode cc pc = .ok (.newarray .int, 2))
    (kk : ∀ (q : Nat) (H1 : Heap), va_P D vwCl (w ++ [(q, .inl (cI, n, .inl (fun j => nI ((fun _ => 0) j))))]) H1 → va_D A (w ++ [(q, .inl (cI, n, .inl (fun j => nI ((fun _ => 0) j))))]) → va_S A s.heap H1 locs → W p l e R s m args below meth c H1 locs (cells + 1) (slots + n) Q (F0 m (pc + 2) ls (.ref q :: rest))) : W p l e R s m args below meth c H locs cells slots Q (F0 m pc ls (.int (nI n) :: rest)) := by
  refine va_newa (atype := .int) (ty := .int) (a0 := (n, .inl (fun _ => 0))) (N' := n) hx hb harr rfl hB.1 hP hD hS hB.2.1 (fun _ => rfl) (nI_pos (by omega)) (nI_clamp (by omega)) (by show n * 4 ≤ _; omega) hc hs hdg (fun q cA H1 hK2 hP2 hD2 hS2 => ?_)
  have e9 : cA = cI := TY_eq hB.1 hK2 (k := 0) (k2 := 3) rfl rfl (fun C q => by cases q)
  subst e9
  exact kk q H1 hP2 hD2 hS2
theorem x_newz {cI cZ cG cJ : ClassId} (hx : p.tables.exec = Jvm.exec) (hb : c.code = cc) (harr : (Cond.arrayClass .boolean).before args s = true) (hB : Bs D (TY cI cZ cG cJ) A s) (hP : va_P D vwCl w H) (hD : va_D A w) (hS : va_S A s.heap H locs) {n : Nat} (hn : n ≤ 81) (hc : cells + 1 ≤ R.cells) (hs : slots + n ≤ R.slots) (hdg : decode cc pc = .ok (.newarray .boolean, 2))
    (kk : ∀ (q : Nat) (H1 : Heap), va_P D vwCl (w ++ [(q, .inl (cZ, n, .inl (fun j => bI ((fun _ => false) j))))]) H1 → va_D A (w ++ [(q, .inl (cZ, n, .inl (fun j => bI ((fun _ => false) j))))]) → va_S A s.heap H1 locs → W p l e R s m args below meth c H1 locs (cells + 1) (slots + n) Q (F0 m (pc + 2) ls (.ref q :: rest))) : W p l e R s m args below meth c H locs cells slots Q (F0 m pc ls (.int (nI n) :: rest)) := by
  refine va_newa (atype := .boolean) (ty := .boolean) (a0 := (n, .inl (fun _ => 0))) (N' := n) hx hb harr rfl hB.1 hP hD hS hB.2.1 (fun _ => rfl) (nI_pos (by omega)) (nI_clamp (by omega)) (by show n * 1 ≤ _; omega) hc hs hdg (fun q cA H1 hK2 hP2 hD2 hS2 => ?_)
  have e9 : cA = cZ := TY_eq hB.1 hK2 (k := 1) (k2 := 3) rfl rfl (fun C q => by cases q)
  subst e9
  exact kk q H1 hP2 hD2 hS2
theorem x_mna {cI cZ cG cJ : ClassId} (hx : p.tables.exec = Jvm.exec) (hb : c.code = cc) {own : String} {idx : Nat} (hown : s.vm.findClass own = some m.cls) (hclink : (Cond.classLink own idx "[[I").before args s = true) (harr : (Cond.arrayClass .int).before args s = true) (hB : Bs D (TY cI cZ cG cJ) A s) (hP : va_P D vwCl w H) (hD : va_D A w) (hS : va_S A s.heap H locs) {n k : Nat} (hn : n ≤ 81) (hk : k ≤ 81) (hcells : cells + (1 + n) ≤ R.cells) (hslots : slots + (n + n * k) ≤ R.slots) (hdg : decode cc pc = .ok (.multianewarray idx 2, 4))
    (kk : ∀ (q : Nat) (r : Nat → Nat) (w2 : va_W) (H1 : Heap), w2.length = w.length + 1 + n → (∀ j, j < w.length → w2[j]? = w[j]?) → w2[w.length]? = some (q, OutC cG n r) → RowsAt w2 cI (w.length + 1) n k r (fun _ _ => 0) → va_P D vwCl w2 H1 → va_D A w2 → va_S A s.heap H1 locs →
      W p l e R s m args below meth c H1 locs (cells + 1 + n) (slots + n + n * k) Q (F0 m (pc + 4) ls (.ref q :: rest))) : W p l e R s m args below meth c H locs cells slots Q (F0 m pc ls (.int (nI k) :: .int (nI n) :: rest)) := by
  have hK := hB.1
  have hover : va_AOA .int s := hB.2.2.2.2.2.2.2.2.2
  have hcy : s.vm.findClass (FieldType.array .int).toString = some cI := (hK.2 0 (cI, .int) rfl).2
  have e0 : w ++ va_pl [] (fun _ => (.inr (0, []) : va_E)) = w := by simp [va_pl]
  refine va_mna (X := w) (L := []) (f := fun _ => .inr (0, [])) (ty := .int) (cy := cI) (z := (k, .inl (fun _ => nI 0))) (N' := n) (K' := k) hx hb hown hclink hover harr hcy hK (by rw [e0]; exact hP) (by rw [e0]; exact hD) hS hB.2.1 (nI_pos (by omega)) (nI_pos (by omega)) (nI_clamp (by omega)) (nI_clamp (by omega)) (by omega) (by show k * 4 ≤ _; omega) (by omega) rfl rfl hcells hslots (fun c => by rw [vp_cell_i]; exact arrV_new c k (.int 0)) hdg (fun q r cA H1 hinj hni hK2 hP2 hD2 hS2 => ?_)
  have e9 : cA = cG := TY_eq hK hK2 (k := 2) (k2 := 3) rfl rfl (fun C q => by cases q)
  subst e9
  have e1 : va_pl ([] ++ (List.range n).map r) (vr_up (fun _ => (.inr (0, []) : va_E)) ((List.range n).map r) (.inl (cI, k, .inl (fun _ => nI 0)))) = (List.range n).map (fun i => (r i, (.inl (cI, k, .inl (fun _ => nI 0)) : va_E))) := by
    rw [List.nil_append, va_pl, List.map_map]
    apply List.map_congr_left
    intro i hi
    show (r i, _) = _
    rw [vr_up_in (List.mem_map.mpr ⟨i, hi, rfl⟩)]
  rw [e1] at hP2 hD2
  refine kk q r _ H1 ?_ (fun j hj => ?_) ?_ (fun i hi => ?_) hP2 hD2 hS2
  · simp; omega
  · rw [List.append_assoc, List.getElem?_append_left hj]
  · rw [List.append_assoc, List.getElem?_append_right (Nat.le_refl _), Nat.sub_self]; rfl
  · rw [List.getElem?_append_right (by simp), List.length_append, List.length_singleton, show w.length + 1 + i - (w.length + 1) = i by omega, List.getElem?_map, List.getElem?_range hi]
    rfl
end RMN
theorem rows_up {P : Nat → Prop} {i : Nat} (h : ∀ a, a < i → P a) (h2 : P i) : ∀ a, a < i + 1 → P a := by
  intro a ha
  by_cases e : a = i
  · rw [e]; exact h2
  · exact h a (by omega)
