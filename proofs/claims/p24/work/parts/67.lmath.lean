def bw (v : Int32) (n : Nat) : Nat := (v &&& 2147483647).toNatClampNeg % n
theorem bw_lt (v : Int32) {n : Nat} (h : 0 < n) : bw v n < n := Nat.mod_lt _ h
theorem bw_rem (v : Int32) {n : Nat} (h0 : 0 < n) (hn : n < 2 ^ 31) : (v &&& 2147483647) - (v &&& 2147483647) / nI n * nI n = nI (bw v n) := by
  obtain ⟨j, hj, e⟩ := pk_andE v (m := 2147483647) 31 (by decide)
  rw [bw, e, pk_rem hj h0 hn, nI_clamp hj]
def cel (xs : Nat → Int32) (L k : Nat) : Int32 := if k < L then xs k else 790386105 * nI (k + 3)
abbrev LSt : Type := Nat × Nat × Int32 × (Nat → Nat) × (Nat → Nat) × (Nat → Bool) × (Nat → Bool) × (Nat → Bool) × (Nat → Nat) × va_W
def AnsOK (g : Nat) (ans : Nat → Nat) : Prop := ∀ i, i < g → ans i / 5 + ans i % 5 ≤ 4
abbrev LG (cI cG : ClassId) (ad : Nat → Nat) (so : Nat) (u : LSt) : Prop := Pals cI cG ad u.2.2.2.2.2.2.2.2.2 ∧ XI u.1 u.2.1 u.2.2.1 u.2.2.2.1 u.2.2.2.2.1 u.2.2.2.2.2.1 u.2.2.2.2.2.2.1 ∧ SimAt cI cG u.2.2.2.2.2.2.2.2.2 so u.1 u.2.2.1 u.2.1 u.2.2.2.1 u.2.2.2.2.1 u.2.2.2.2.2.1 ∧ AnsOK u.2.1 u.2.2.2.2.1
abbrev WL (ad : Nat → Nat) (cI cZ : ClassId) (u : LSt) : va_W := WX ad cI cZ u.1 u.2.1 u.2.2.1 u.2.2.2.1 u.2.2.2.2.1 u.2.2.2.2.2.1 u.2.2.2.2.2.2.1 u.2.2.2.2.2.2.2.1 u.2.2.2.2.2.2.2.2.1 u.2.2.2.2.2.2.2.2.2
theorem AnsOK.up {g an : Nat} {ans : Nat → Nat} (h : AnsOK g ans) (h2 : an / 5 + an % 5 ≤ 4) : AnsOK (g + 1) (va_up ans g an) := by
  intro i hi
  by_cases e : i = g
  · subst e; simp only [va_up, if_true]; exact h2
  · simp only [va_up, if_neg e]; exact h i (by omega)
theorem AnsOK.dn {g : Nat} {ans : Nat → Nat} (h : AnsOK g ans) : AnsOK (g - 1) ans := fun i hi => h i (by omega)
theorem part_congr {cG : ClassId} {N k : Nat} {rc rc2 : Nat → Nat} (h : ∀ i, i < k → rc i = rc2 i) : PartC cG N k rc = PartC cG N k rc2 := by
  simp only [PartC]
  congr 7
  funext i
  by_cases hi : i < k
  · rw [if_pos hi, if_pos hi, h i hi]
  · rw [if_neg hi, if_neg hi]
/-- a guess is added by hand -/
theorem SimF.add {cI cG : ClassId} {w : va_W} {so c n : Nat} {hid : Int32} {code ans : Nat → Nat} {dbt : Nat → Bool} {ga ks kg : Nat} {ra kr : Nat → Nat} {M : Nat → Nat → Nat} (h : SimF cI cG w so c hid n code ans dbt ga ks kg ra kr M) {gn rn k an : Nat} {f : Nat → Nat} (h0 : f 0 = k) (h1 : f 1 = an) (h2 : f 2 = 0) :
    SimAt cI cG ((rn, .inl (cI, 3, .inl (fun j => nI (f j)))) :: (gn, OutC cG (n + 1) (va_up ra n rn)) :: w.set ks (so, .inr (2, [.int (nI c), .int hid, .ref gn]))) so c hid (n + 1) (va_up code n k) (va_up ans n an) (va_up dbt n false) := by
  have hE : Emb w ((rn, .inl (cI, 3, .inl (fun j => nI (f j)))) :: (gn, OutC cG (n + 1) (va_up ra n rn)) :: w) (fun k => k + 1 + 1) := ⟨fun i j h => by simpa using h, fun k x h => h⟩
  have hF := h.emb hE
  have := hF.newg (gn := gn) (kn := 1) (n2 := n + 1) (ra2 := va_up ra n rn) (kr2 := fun i => if i = n then 0 else kr i + 1 + 1) (M2 := fun i => if i = n then f else M i) (code2 := va_up code n k) (ans2 := va_up ans n an) (dbt2 := va_up dbt n false) rfl (fun i hi => by
      by_cases e : i = n
      · subst e; simp [va_up]
      · simp only [va_up, if_neg e]; exact hF.2.2.1 i (by omega)) (fun i j hi hj e => by
      by_cases e1 : i = n
      · by_cases e2 : j = n
        · rw [e1, e2]
        · rw [if_pos e1, if_neg e2] at e; omega
      · by_cases e2 : j = n
        · rw [if_neg e1, if_pos e2] at e; omega
        · rw [if_neg e1, if_neg e2] at e; exact hF.2.2.2.1 i j (by omega) (by omega) e) (fun i hi => by
      by_cases e : i = n
      · subst e; simp [va_up, h0, h1, h2, bN]
      · simp only [va_up, if_neg e]; exact hF.2.2.2.2 i (by omega))
  exact ⟨_, _, _, _, _, _, this⟩
theorem permWX2 {ad : Nat → Nat} {cI cZ : ClassId} {c g : Nat} {hid : Int32} {code ans : Nat → Nat} {dbt opn ply : Nat → Bool} {hps : Nat → Nat} {wr : va_W} {x y : Nat × va_E} : (x :: y :: WX ad cI cZ c g hid code ans dbt opn ply hps wr).Perm (WX ad cI cZ c g hid code ans dbt opn ply hps (x :: y :: wr)) :=
  (List.Perm.cons x permWX).trans permWX
theorem Pals.cons {cI cG : ClassId} {ad : Nat → Nat} {wr : va_W} (x : Nat × va_E) (h : Pals cI cG ad wr) : Pals cI cG ad (x :: wr) := h.emb (f := (· + 1)) (fun k y h => h)
/-- the j-th of a set -/
theorem cN_nth {p : Nat → Bool} {n j : Nat} (h : j < cN p n) : ∃ k, k < n ∧ p k = true ∧ cN p k = j := by
  induction n with
  | zero => exact absurd h (Nat.not_lt_zero _)
  | succ n ih =>
    by_cases h2 : j < cN p n
    · obtain ⟨k, a, b, d⟩ := ih h2
      exact ⟨k, by omega, b, d⟩
    · cases hp : p n with
      | false => rw [cN_n hp] at h; omega
      | true => rw [cN_s hp] at h; exact ⟨n, by omega, hp, by omega⟩
theorem fit_congr {c n : Nat} {code ans code2 ans2 : Nat → Nat} {dbt dbt2 : Nat → Bool} {k : Nat} (h : ∀ i, i < n → code2 i = code i ∧ ans2 i = ans i ∧ dbt2 i = dbt i) : fit c code2 ans2 dbt2 n k = fit c code ans dbt n k := by
  induction n with
  | zero => rfl
  | succ n ih => rw [fit, fit, ih (fun i hi => h i (by omega)), (h n (by omega)).1, (h n (by omega)).2.1, (h n (by omega)).2.2]
theorem many_op {c n : Nat} {code ans : Nat → Nat} {dbt f : Nat → Bool} (hq : qq c ≤ 81) (h : ∀ z, z < qq c → f z = fit c code ans dbt n z) : cN f (qq c) = cN (opS c n code ans dbt) 81 := by
  rw [op_cN hq]; exact cN_congr _ h
/-- two candles change their places -/
theorem sw_num2 : ∀ h, h < 16 → ∀ pa, pa < 4 → ∀ pb, pb < 4 → (((va_up (va_up (col 2 h) pa (col 2 h pb)) pb (col 2 h pa) 0 * 2 + va_up (va_up (col 2 h) pa (col 2 h pb)) pb (col 2 h pa) 1) * 2 + va_up (va_up (col 2 h) pa (col 2 h pb)) pb (col 2 h pa) 2) * 2 + va_up (va_up (col 2 h) pa (col 2 h pb)) pb (col 2 h pa) 3) = swF 2 h pa pb 4 := by decide +kernel
theorem sw_num3 : ∀ h, h < 81 → ∀ pa, pa < 4 → ∀ pb, pb < 4 → (((va_up (va_up (col 3 h) pa (col 3 h pb)) pb (col 3 h pa) 0 * 3 + va_up (va_up (col 3 h) pa (col 3 h pb)) pb (col 3 h pa) 1) * 3 + va_up (va_up (col 3 h) pa (col 3 h pb)) pb (col 3 h pa) 2) * 3 + va_up (va_up (col 3 h) pa (col 3 h pb)) pb (col 3 h pa) 3) = swF 3 h pa pb 4 := by decide +kernel
theorem up_congr {f g : Nat → Nat} (h : ∀ j, j < 4 → f j = g j) (i v : Nat) : ∀ j, j < 4 → va_up f i v j = va_up g i v j := by
  intro j hj; simp only [va_up]; split
  · rfl
  · exact h j hj
theorem sw_num {c h pa pb : Nat} {f : Nat → Nat} (hc : c = 2 ∨ c = 3) (hh : h < qq c) (ha : pa < 4) (hb : pb < 4) (hf : ∀ j, j < 4 → f j = col c h j) : (((va_up (va_up f pa (f pb)) pb (f pa) 0 * c + va_up (va_up f pa (f pb)) pb (f pa) 1) * c + va_up (va_up f pa (f pb)) pb (f pa) 2) * c + va_up (va_up f pa (f pb)) pb (f pa) 3) = swF c h pa pb 4 := by
  have e := up_congr (up_congr hf pa (f pb)) pb (f pa)
  rw [e 0 (by decide), e 1 (by decide), e 2 (by decide), e 3 (by decide), hf pa ha, hf pb hb]
  rcases hc with rfl | rfl
  · exact sw_num2 h hh pa ha pb hb
  · exact sw_num3 h hh pa ha pb hb
section LROW
variable {p : Program} {l : Launch} {e : Env} {R : Room} {s : State} {m : MethodId} {args : Array Value} {below : List Frame} {meth : Method} {c : Code} {H : Heap} {locs : List Loc} {cells slots : Nat} {Q : State → Prop}
variable {cc : ByteArray} {pc : Nat} {ls : Array Slot} {rest : List Value} {D : va_G} {A : Nat → Prop} {w : va_W} {a : Nat} {tys : List (ClassId × FieldType)} {ws : va_W} {H0 : Heap}
theorem x_sld (hx : p.tables.exec = Jvm.exec) (hb : c.code = cc) {b L : Nat} {xs : Nat → Int32} (hX : va_X b L xs s H0) (hbl : b < H0.size) (hbA : ¬ A b) (hS : va_S A H0 H locs) {i : Nat} (hi : i < L) (hL : L < 2 ^ 31) (hdg : decode cc pc = .ok (.iaload, 1))
    (kk : W p l e R s m args below meth c H locs cells slots Q (F0 m (pc + 1) ls (.int (xs i) :: rest))) : W p l e R s m args below meth c H locs cells slots Q (F0 m pc ls (.int (nI i) :: .ref b :: rest)) :=
  va_sld hx hb hX hbl hbA hS (vp_in_nI hi hL) hdg (by rw [nI_clamp (Nat.lt_trans hi hL)]; exact kk)
/-- a world, and the script, which nobody changes -/
def IvX (D : va_G) (tys : List (ClassId × FieldType)) (A : Nat → Prop) (w : va_W) (b L : Nat) (xs : Nat → Int32) (U : State) : Prop := Iv D tys A w U ∧ va_X b L xs U U.heap ∧ b < U.heap.size ∧ ¬ A b
theorem preSX {b L : Nat} {xs : Nat → Int32} {As : List Value} (hB : Bs D tys A s) (hS : va_S A s.heap H locs) (hP : va_P D vwCl w H) (hD : va_D A w) (hX : va_X b L xs s s.heap) (hbl : b < s.heap.size) (hbA : ¬ A b) : PreS s H (va_Pc As (IvX D tys A w b L xs)) As :=
  ⟨fun a U g mk h => ⟨h.1, (Iv.blind (av := As) a U g mk ⟨h.1, h.2.1⟩).2, h.2.2.1.moved (u := U) (U := U.calling g mk a) (Vm.Alike.refl U.vm), h.2.2.2⟩,
   fun U hU hW => ⟨rfl, ⟨by rw [hU]; exact hP, hD, Bs.at hS hU hW hB⟩, (hX.kept (by rw [hU]; exact hS.2.1 b hbl hbA)).moved hW.alike, by rw [hU]; exact Nat.lt_of_lt_of_le hbl hS.1, hbA⟩⟩
/-- caught by the second row, the first one covers another stretch -/
theorem L_catch1r {own E : String} {ce : Cell} {q : Addr} {a b h t a0 b0 h0 t0 : Nat} {r : List (Nat × Nat × Nat × Nat)} (hown : s.vm.findClass own = some m.cls) (htab : c.exceptionTable.toList = tableOf ((a0, b0, h0, t0) :: (a, b, h, t) :: r)) (hno : covers ⟨a0, b0, h0, t0⟩ pc = false) (hcov : covers ⟨a, b, h, t⟩ pc = true) (hz : t ≠ 0) (hlink : (Cond.classLink own t E).before args s = true) (hcast : (Cond.castable E E).before args s = true)
    (hcell : H[q]? = some ce) (hv : ce.vm = .none) (hcl : s.vm.findClass E = some ce.cls) (kk : W p l e R s m args below meth c H locs cells slots Q (F0 m h ls [.ref q])) : vx_W p l e R s m args below meth c H locs cells slots Q (F0 m pc ls rest) q :=
  vx_catch hown [⟨a0, b0, h0, t0⟩] ⟨a, b, h, t⟩ (tableOf r) (by rw [htab]; rfl) (fun z hz9 => by rw [List.mem_singleton] at hz9; subst hz9; exact Or.inl hno) hcov hz hlink hcast hcell hv hcl kk
end LROW
theorem hid_neg {c : Nat} {hid : Int32} (hc : qq c ≤ 81) (h : hid = -1 ∨ ∃ k, k < qq c ∧ hid = nI k) (h2 : hid < 0) : hid = -1 := by
  rcases h with h | ⟨k, hk, e⟩
  · exact h
  · exact absurd h2 (by rw [e]; exact nI_pos (by omega))
theorem hid_pos {c : Nat} {hid : Int32} (h : hid = -1 ∨ ∃ k, k < qq c ∧ hid = nI k) (h2 : ¬ hid < 0) : ∃ k, k < qq c ∧ hid = nI k := h.resolve_left (fun e => h2 (by rw [e]; decide))
theorem bN_0 {b : Bool} (h : ¬ bN b = 1) : b = false := by cases b; rfl; exact absurd rfl h
section ATWX
variable {ad : Nat → Nat} {cI cZ cG : ClassId} {c g : Nat} {hid : Int32} {code ans : Nat → Nat} {dbt opn ply : Nat → Bool} {hps : Nat → Nat} {wr : va_W}
theorem atWX {k : Nat} {x : Nat × va_E} (h : wr[k]? = some x) : (WX ad cI cZ c g hid code ans dbt opn ply hps wr)[k + 7]? = some x := h
theorem atWX2 {k : Nat} {x y : Nat × va_E} (h : wr[k]? = some x) : (WX ad cI cZ c g hid code ans dbt opn ply hps (y :: wr))[k + 8]? = some x := h
theorem atWX3 {k : Nat} {x y : Nat × va_E} (h : wr[k]? = some x) : (y :: WX ad cI cZ c g hid code ans dbt opn ply hps wr)[k + 8]? = some x := h
theorem atWX4 {k : Nat} {x y z : Nat × va_E} (h : wr[k]? = some x) : (z :: y :: WX ad cI cZ c g hid code ans dbt opn ply hps wr)[k + 9]? = some x := h
end ATWX
