section TD
variable {p : Program} {l : Launch} {e : Env} {R : Room} {s : State} {m : MethodId} {args : Array Value} {below : List Frame} {meth : Method} {c : Code} {H : Heap} {locs : List Loc} {cells slots : Nat} {Q : State → Prop}
variable {pc : Nat} {ls : Array Slot} {rest : List Value}
theorem x_td {x y : UInt64} (h : x = y) (k : W p l e R s m args below meth c H locs cells slots Q (F0 m pc ls (.double y :: rest))) : W p l e R s m args below meth c H locs cells slots Q (F0 m pc ls (.double x :: rest)) := h ▸ k
theorem x_csd {v : UInt64} {st0 : List Value} {a : Array Value} (hr : va_Run p l e R s m args below meth c H locs cells slots 0 0 (F0 m pc ls st0) rest (vp_Sd (fun r => r = v) a) (fun _ => False)) (kk : W p l e R s m args below meth c H locs cells slots Q (F0 m (pc + 3) ls (.double v :: rest))) : W p l e R s m args below meth c H locs cells slots Q (F0 m pc ls st0) := vp_callSd (va_Run.run hr) (fun _ h => h ▸ kk)
end TD
section DROP
variable {ad : Nat → Nat} {cI cZ cG : ClassId} {c g : Nat} {hid : Int32} {code ans : Nat → Nat} {dbt opn ply : Nat → Bool} {hps : Nat → Nat} {wr wr2 : va_W} {x : Nat × va_E} {D : va_G} {A : Nat → Prop} {H : Heap}
/-- a world behind the class's cells, seen as a part of another -/
theorem embWW (h : ∀ (k : Nat) (x : Nat × va_E), wr[k]? = some x → wr2[k]? = some x) : Emb (WX ad cI cZ c g hid code ans dbt opn ply hps wr) (WX ad cI cZ c g hid code ans dbt opn ply hps wr2) id :=
  ⟨fun _ _ h => h, fun k x hk => by
    show (WX ad cI cZ c g hid code ans dbt opn ply hps wr2)[k]? = some x
    match k, hk with
    | 0, hk => exact hk
    | 1, hk => exact hk
    | 2, hk => exact hk
    | 3, hk => exact hk
    | 4, hk => exact hk
    | 5, hk => exact hk
    | 6, hk => exact hk
    | k + 7, hk => exact h k x hk⟩
theorem P_drop (h : va_P D vwCl (WX ad cI cZ c g hid code ans dbt opn ply hps (x :: wr)) H) : va_P D vwCl (WX ad cI cZ c g hid code ans dbt opn ply hps wr) H := P_tail (P_perm permWX.symm h)
theorem D_drop (h : va_D A (WX ad cI cZ c g hid code ans dbt opn ply hps (x :: wr))) : va_D A (WX ad cI cZ c g hid code ans dbt opn ply hps wr) := D_tail (D_perm permWX.symm h)
/-- a table of rows behind a world: the rows of the places, a column a colour -/
def HV (cI cG : ClassId) (wr wr2 : va_W) (hv : Nat) (r : Nat → Nat) (c : Nat) (M : Nat → Nat → Nat) : Prop := wr2.length = wr.length + 5 ∧ (∀ (k : Nat) (x : Nat × va_E), wr[k]? = some x → wr2[k]? = some x) ∧ wr2[wr.length]? = some (hv, OutC cG 4 r) ∧ RowsAt wr2 cI (wr.length + 1) 4 c r M
theorem HV.put {hv : Nat} {r : Nat → Nat} {M : Nat → Nat → Nat} {k j v : Nat} (h : HV cI cG wr wr2 hv r c M) (hk : k < 4) : HV cI cG wr (wr2.set (wr.length + 1 + k) (r k, .inl (cI, c, .inl (fun z => nI (va_up (M k) j v z))))) hv r c (up2 M k j v) := by
  obtain ⟨h1, h2, h3, h4⟩ := h
  refine ⟨by rw [List.length_set]; exact h1, fun i x hx => ?_, ?_, RowsAt.put h4 hk⟩
  · have := (List.getElem?_eq_some_iff.mp hx).1
    rw [List.getElem?_set_ne (by omega)]; exact h2 i x hx
  · rw [List.getElem?_set_ne (by omega)]; exact h3
end DROP
section MNX
variable {p : Program} {l : Launch} {e : Env} {R : Room} {s : State} {m : MethodId} {args : Array Value} {below : List Frame} {meth : Method} {c9 : Code} {H : Heap} {locs : List Loc} {cells slots : Nat} {Q : State → Prop}
variable {cc : ByteArray} {pc : Nat} {ls : Array Slot} {rest : List Value} {D : va_G} {A : Nat → Prop}
theorem x_mnaX {cI cZ cG cJ : ClassId} {ad : Nat → Nat} {c g : Nat} {hid : Int32} {code ans : Nat → Nat} {dbt opn ply : Nat → Bool} {hps : Nat → Nat} {wr : va_W} (hx : p.tables.exec = Jvm.exec) (hb : c9.code = cc) {own : String} {idx : Nat} (hown : s.vm.findClass own = some m.cls) (hclink : (Cond.classLink own idx "[[I").before args s = true) (harr : (Cond.arrayClass .int).before args s = true) (hB : Bs D (TY cI cZ cG cJ) A s) (hP : va_P D vwCl (WX ad cI cZ c g hid code ans dbt opn ply hps wr) H) (hD : va_D A (WX ad cI cZ c g hid code ans dbt opn ply hps wr)) (hS : va_S A s.heap H locs) {k : Nat} (hk : k ≤ 81) (hcells : cells + (1 + 4) ≤ R.cells) (hslots : slots + (4 + 4 * k) ≤ R.slots) (hdg : decode cc pc = .ok (.multianewarray idx 2, 4))
    (kk : ∀ (q : Nat) (r : Nat → Nat) (wr2 : va_W) (H1 : Heap), HV cI cG wr wr2 q r k (fun _ _ => 0) → va_P D vwCl (WX ad cI cZ c g hid code ans dbt opn ply hps wr2) H1 → va_D A (WX ad cI cZ c g hid code ans dbt opn ply hps wr2) → va_S A s.heap H1 locs →
      W p l e R s m args below meth c9 H1 locs (cells + 1 + 4) (slots + 4 + 4 * k) Q (F0 m (pc + 4) ls (.ref q :: rest))) : W p l e R s m args below meth c9 H locs cells slots Q (F0 m pc ls (.int (nI k) :: .int (nI 4) :: rest)) := by
  refine x_mna hx hb hown hclink harr hB hP hD hS (n := 4) (k := k) (by decide) hk hcells hslots hdg (fun q r w2 H1 h1 h2 h3 h4 hP2 hD2 hS2 => ?_)
  have hlen : (WX ad cI cZ c g hid code ans dbt opn ply hps wr).length = wr.length + 7 := rfl
  have e : w2 = WX ad cI cZ c g hid code ans dbt opn ply hps (w2.drop 7) := by
    have e1 : w2.take 7 = WX ad cI cZ c g hid code ans dbt opn ply hps [] := by
      apply List.ext_getElem?
      intro j
      by_cases hj : j < 7
      · rw [List.getElem?_take_of_lt hj, h2 j (by omega)]
        match j, hj with
        | 0, _ => rfl
        | 1, _ => rfl
        | 2, _ => rfl
        | 3, _ => rfl
        | 4, _ => rfl
        | 5, _ => rfl
        | 6, _ => rfl
      · rw [List.getElem?_eq_none (by rw [List.length_take]; omega), List.getElem?_eq_none (by show 7 ≤ j; omega)]
    have e2 := List.take_append_drop 7 w2
    rw [e1] at e2
    exact e2.symm
  have hat : ∀ j, (w2.drop 7)[j]? = w2[j + 7]? := fun j => by rw [List.getElem?_drop, Nat.add_comm]
  refine kk q r (w2.drop 7) H1 ⟨by rw [List.length_drop]; omega, fun j x hj => ?_, ?_, fun i hi => ?_⟩ (by rw [← e]; exact hP2) (by rw [← e]; exact hD2) hS2
  · have hl := (List.getElem?_eq_some_iff.mp hj).1
    rw [hat, h2 (j + 7) (by omega)]
    exact hj
  · rw [hat]; exact h3
  · rw [hat, show wr.length + 1 + i + 7 = (WX ad cI cZ c g hid code ans dbt opn ply hps wr).length + 1 + i by omega]
    exact h4 i hi
end MNX
theorem cN_tail {p : Nat → Bool} {n : Nat} (m : Nat) (h : ∀ k, n ≤ k → p k = false) (hm : n ≤ m) : cN p m = cN p n := by
  induction m with
  | zero => have : n = 0 := by omega
            subst this; rfl
  | succ m ih =>
    by_cases e : n = m + 1
    · rw [e]
    · rw [cN_n (h m (by omega)), ih (by omega)]
theorem hv_qq {c g : Nat} {code ans : Nat → Nat} {dbt : Nat → Bool} (hq : qq c ≤ 81) (k x : Nat) : cN (fun z => opS c g code ans dbt z && decide (col c z k = x)) 81 = cN (fun z => opS c g code ans dbt z && decide (col c z k = x)) (qq c) :=
  cN_tail 81 (fun z hz => by rw [opS, decide_eq_false (show ¬ z < qq c by omega)]; rfl) hq
theorem have_up {c kk j : Nat} {sb : Nat → Bool} {M2 : Nat → Nat → Nat} (hs : sb kk = true) (h : ∀ k, k < 4 → ∀ x, x < c → (k < j → M2 k x = cN (fun z => sb z && decide (col c z k = x)) (kk + 1)) ∧ (j ≤ k → M2 k x = cN (fun z => sb z && decide (col c z k = x)) kk)) (hj : j < 4) :
    ∀ k, k < 4 → ∀ x, x < c → (k < j + 1 → up2 M2 j (col c kk j) (M2 j (col c kk j) + 1) k x = cN (fun z => sb z && decide (col c z k = x)) (kk + 1)) ∧ (j + 1 ≤ k → up2 M2 j (col c kk j) (M2 j (col c kk j) + 1) k x = cN (fun z => sb z && decide (col c z k = x)) kk) := by
  intro k hk x hx
  by_cases e : k = j
  · subst e
    refine ⟨fun _ => ?_, fun q => by omega⟩
    simp only [up2, if_true, va_up]
    by_cases e2 : x = col c kk k
    · subst e2
      rw [if_pos rfl, (h k hk _ hx).2 (Nat.le_refl _)]
      exact (cN_s (p := fun z => sb z && decide (col c z k = col c kk k)) (by simp [hs])).symm
    · rw [if_neg e2, (h k hk _ hx).2 (Nat.le_refl _)]
      exact (cN_n (p := fun z => sb z && decide (col c z k = x)) (by simp [hs]; exact fun q => e2 q.symm)).symm
  · simp only [up2, if_neg e]
    exact ⟨fun q => (h k hk x hx).1 (by omega), fun q => (h k hk x hx).2 (by omega)⟩
theorem atWXa3 {ad : Nat → Nat} {cI cZ : ClassId} {c g : Nat} {hid : Int32} {code ans : Nat → Nat} {dbt opn ply : Nat → Bool} {hps : Nat → Nat} {wr : va_W} {k : Nat} {x y z : Nat × va_E} (h : wr[k]? = some x) : (WX ad cI cZ c g hid code ans dbt opn ply hps (z :: y :: wr))[k + 9]? = some x := h
