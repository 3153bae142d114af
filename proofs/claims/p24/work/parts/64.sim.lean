theorem bI_and (a b : Bool) : bI a &&& bI b = bI (a && b) := by cases a <;> cases b <;> rfl
def bN (b : Bool) : Nat := if b then 1 else 0
theorem bN_le (b : Bool) : bN b ≤ 1 := by cases b <;> decide
theorem bN_1 {b : Bool} : bN b = 1 ↔ b = true := by cases b <;> simp [bN]
abbrev PartC (cG : ClassId) (N k : Nat) (rc : Nat → Nat) : va_E := .inl (cG, N, .inr (.inr (.inr (.inr (fun i => if i < k then some (rc i) else none)))))
theorem P_tail {D : va_G} {w : va_W} {x : Nat × va_E} {H : Heap} (h : va_P D vwCl (x :: w) H) : va_P D vwCl w H := fun k q hk => h (k + 1) q hk
theorem D_tail {A : Nat → Prop} {w : va_W} {x : Nat × va_E} (h : va_D A (x :: w)) : va_D A w :=
  ⟨fun i j p q hi hj e => by have := h.1 (i + 1) (j + 1) p q hi hj e; omega, fun k q hk => h.2 (k + 1) q hk⟩
/-- what lies in w lies in w2 too -/
def Emb (w w2 : va_W) (f : Nat → Nat) : Prop := (∀ i j, f i = f j → i = j) ∧ ∀ k x, w[k]? = some x → w2[f k]? = some x
theorem P_emb {D : va_G} {w w2 : va_W} {f : Nat → Nat} {H : Heap} (hE : Emb w w2 f) (h : va_P D vwCl w2 H) : va_P D vwCl w H := fun k q hk => h (f k) q (hE.2 k q hk)
theorem D_emb {A : Nat → Prop} {w w2 : va_W} {f : Nat → Nat} (hE : Emb w w2 f) (h : va_D A w2) : va_D A w :=
  ⟨fun i j p q hi hj e => hE.1 i j (h.1 (f i) (f j) p q (hE.2 i p hi) (hE.2 j q hj) e), fun k q hk => h.2 (f k) q (hE.2 k q hk)⟩
theorem Emb.cons (x : Nat × va_E) (w : va_W) : Emb w (x :: w) (· + 1) := ⟨fun i j h => by simpa using h, fun k y h => h⟩
theorem PalOK.emb {cI cG : ClassId} {w w2 : va_W} {q c : Nat} {f : Nat → Nat} (hm : ∀ k x, w[k]? = some x → w2[f k]? = some x) (h : PalOK cI cG w q c) : PalOK cI cG w2 q c := by
  obtain ⟨cd, tb, kq, kc, kt, fc, ft, e1, e2, e3, e4, e5⟩ := h
  refine ⟨cd, tb, f kq, f kc, f kt, fc, ft, hm _ _ e1, hm _ _ e2, hm _ _ e3, fun i hi => ?_, fun i hi => ?_⟩
  · obtain ⟨r, k, g, a1, a2, a3⟩ := e4 i hi
    exact ⟨r, f k, g, a1, hm _ _ a2, a3⟩
  · obtain ⟨r, k, g, a1, a2, a3⟩ := e5 i hi
    exact ⟨r, f k, g, a1, hm _ _ a2, a3⟩
theorem Pals.emb {cI cG : ClassId} {ad : Nat → Nat} {w w2 : va_W} {f : Nat → Nat} (hm : ∀ k x, w[k]? = some x → w2[f k]? = some x) (h : Pals cI cG ad w) : Pals cI cG ad w2 := ⟨h.1.emb hm, h.2.emb hm⟩
/-- an element of a kind that no palette has, at a place -/
def NoPal (cI : ClassId) (e : va_E) : Prop := (∀ fs, e ≠ .inr (0, fs)) ∧ (∀ cG n f, e ≠ .inl (cG, n, .inr (.inr (.inr (.inr f))))) ∧ ∀ n f, (n = 4 ∨ n = 16 ∨ n = 81) → e ≠ .inl (cI, n, .inl f)
theorem set_at {w : va_W} {k : Nat} {x y : Nat × va_E} (h : w[k]? = some x) : (w.set k y)[k]? = some y := List.getElem?_set_self (List.getElem?_eq_some_iff.mp h).1
theorem set_ot {w : va_W} {k j : Nat} {x : Nat × va_E} {y : Nat × va_E} (h : w[j]? = some x) (hne : k ≠ j) : (w.set k y)[j]? = some x := by rw [List.getElem?_set_ne hne]; exact h
theorem PalOK.set {cI cG : ClassId} {w : va_W} {q c k : Nat} {x y : Nat × va_E} (hc : c = 2 ∨ c = 3) (h : PalOK cI cG w q c) (hx : w[k]? = some x) (hn : NoPal cI x.2) : PalOK cI cG (w.set k y) q c := by
  obtain ⟨cd, tb, kq, kc, kt, fc, ft, e1, e2, e3, e4, e5⟩ := h
  have hne : ∀ (j : Nat) (z : Nat × va_E), w[j]? = some z → x.2 ≠ z.2 → k ≠ j := fun j z hz hd e => hd (by subst e; exact congrArg Prod.snd (Option.some.inj (hx.symm.trans hz)))
  refine ⟨cd, tb, kq, kc, kt, fc, ft, set_ot e1 (hne _ _ e1 (hn.1 _)), set_ot e2 (hne _ _ e2 (hn.2.1 _ _ _)), set_ot e3 (hne _ _ e3 (hn.2.1 _ _ _)), fun i hi => ?_, fun i hi => ?_⟩
  · obtain ⟨r, k2, g, a1, a2, a3⟩ := e4 i hi
    exact ⟨r, k2, g, a1, set_ot a2 (hne _ _ a2 (hn.2.2 _ _ (Or.inl rfl))), a3⟩
  · obtain ⟨r, k2, g, a1, a2, a3⟩ := e5 i hi
    exact ⟨r, k2, g, a1, set_ot a2 (hne _ _ a2 (hn.2.2 _ _ (by rcases hc with rfl | rfl; exact Or.inr (Or.inl rfl); exact Or.inr (Or.inr rfl)))), a3⟩
theorem Pals.set {cI cG : ClassId} {ad : Nat → Nat} {w : va_W} {k : Nat} {x y : Nat × va_E} (h : Pals cI cG ad w) (hx : w[k]? = some x) (hn : NoPal cI x.2) : Pals cI cG ad (w.set k y) := ⟨h.1.set (Or.inl rfl) hx hn, h.2.set (Or.inr rfl) hx hn⟩
theorem noPal_sim {cI : ClassId} {fs : List Value} : NoPal cI (.inr (2, fs)) := ⟨fun _ h => (by cases h), fun _ _ _ h => (by cases h), fun _ _ _ h => (by cases h)⟩
theorem noPal_row {cI : ClassId} {f : Nat → Int32} {n : Nat} (hn : n = 2 ∨ n = 3) : NoPal cI (.inl (cI, n, .inl f)) := ⟨fun _ h => (by cases h), fun _ _ _ h => (by cases h), fun m g hm h => (by cases h; omega)⟩
/-- the guesses by hand lie in w: the object so, its row of rows, the rows -/
def SimF (cI cG : ClassId) (w : va_W) (so c : Nat) (hid : Int32) (n : Nat) (code ans : Nat → Nat) (dbt : Nat → Bool) (ga ks kg : Nat) (ra kr : Nat → Nat) (M : Nat → Nat → Nat) : Prop :=
  w[ks]? = some (so, .inr (2, [.int (nI c), .int hid, .ref ga])) ∧ w[kg]? = some (ga, OutC cG n ra) ∧ (∀ i, i < n → w[kr i]? = some (ra i, .inl (cI, 3, .inl (fun j => nI (M i j))))) ∧ (∀ i j, i < n → j < n → kr i = kr j → i = j) ∧ ∀ i, i < n → M i 0 = code i ∧ M i 1 = ans i ∧ M i 2 = bN (dbt i)
def SimAt (cI cG : ClassId) (w : va_W) (so c : Nat) (hid : Int32) (n : Nat) (code ans : Nat → Nat) (dbt : Nat → Bool) : Prop := ∃ (ga ks kg : Nat) (ra kr : Nat → Nat) (M : Nat → Nat → Nat), SimF cI cG w so c hid n code ans dbt ga ks kg ra kr M
theorem SimF.emb {cI cG : ClassId} {w w2 : va_W} {so c n : Nat} {hid : Int32} {code ans : Nat → Nat} {dbt : Nat → Bool} {ga ks kg : Nat} {ra kr : Nat → Nat} {M : Nat → Nat → Nat} {f : Nat → Nat} (hE : Emb w w2 f) (h : SimF cI cG w so c hid n code ans dbt ga ks kg ra kr M) : SimF cI cG w2 so c hid n code ans dbt ga (f ks) (f kg) ra (fun i => f (kr i)) M :=
  ⟨hE.2 _ _ h.1, hE.2 _ _ h.2.1, fun i hi => hE.2 _ _ (h.2.2.1 i hi), fun i j hi hj e => h.2.2.2.1 i j hi hj (hE.1 _ _ e), h.2.2.2.2⟩
theorem SimAt.emb {cI cG : ClassId} {w w2 : va_W} {so c n : Nat} {hid : Int32} {code ans : Nat → Nat} {dbt : Nat → Bool} {f : Nat → Nat} (hE : Emb w w2 f) (h : SimAt cI cG w so c hid n code ans dbt) : SimAt cI cG w2 so c hid n code ans dbt := by
  obtain ⟨ga, ks, kg, ra, kr, M, h⟩ := h
  exact ⟨ga, f ks, f kg, ra, _, M, h.emb hE⟩
theorem SimAt.cons {cI cG : ClassId} {w : va_W} {so c n : Nat} {hid : Int32} {code ans : Nat → Nat} {dbt : Nat → Bool} (x : Nat × va_E) (h : SimAt cI cG w so c hid n code ans dbt) : SimAt cI cG (x :: w) so c hid n code ans dbt := h.emb (Emb.cons x w)
theorem SimAt.congr {cI cG : ClassId} {w : va_W} {so c n : Nat} {hid : Int32} {code ans code2 ans2 : Nat → Nat} {dbt dbt2 : Nat → Bool} (h : SimAt cI cG w so c hid n code ans dbt) (hq : ∀ i, i < n → code2 i = code i ∧ ans2 i = ans i ∧ dbt2 i = dbt i) : SimAt cI cG w so c hid n code2 ans2 dbt2 := by
  obtain ⟨ga, ks, kg, ra, kr, M, h1, h2, h3, h4, h5⟩ := h
  exact ⟨ga, ks, kg, ra, kr, M, h1, h2, h3, h4, fun i hi => by rw [(hq i hi).1, (hq i hi).2.1, (hq i hi).2.2]; exact h5 i hi⟩
theorem embWX {ad : Nat → Nat} {cI cZ : ClassId} {c g : Nat} {hid : Int32} {code ans : Nat → Nat} {dbt opn ply : Nat → Bool} {hps : Nat → Nat} {wr : va_W} : Emb wr (WX ad cI cZ c g hid code ans dbt opn ply hps wr) (· + 7) := ⟨fun i j h => by simpa using h, fun k x h => h⟩
theorem permWX {ad : Nat → Nat} {cI cZ : ClassId} {c g : Nat} {hid : Int32} {code ans : Nat → Nat} {dbt opn ply : Nat → Bool} {hps : Nat → Nat} {wr : va_W} {x : Nat × va_E} : (x :: WX ad cI cZ c g hid code ans dbt opn ply hps wr).Perm (WX ad cI cZ c g hid code ans dbt opn ply hps (x :: wr)) :=
  (List.perm_middle (l₁ := WX ad cI cZ c g hid code ans dbt opn ply hps []) (a := x) (l₂ := wr)).symm
theorem SimAt.WX {ad : Nat → Nat} {cI cZ cG : ClassId} {c g : Nat} {hid : Int32} {code ans : Nat → Nat} {dbt opn ply : Nat → Bool} {hps : Nat → Nat} {wr : va_W} {so c2 n : Nat} {hid2 : Int32} {code2 ans2 : Nat → Nat} {dbt2 : Nat → Bool} (h : SimAt cI cG wr so c2 hid2 n code2 ans2 dbt2) : SimAt cI cG (WX ad cI cZ c g hid code ans dbt opn ply hps wr) so c2 hid2 n code2 ans2 dbt2 := h.emb embWX
section SIMF
variable {cI cG : ClassId} {w : va_W} {so c n : Nat} {hid : Int32} {code ans : Nat → Nat} {dbt : Nat → Bool} {ga ks kg : Nat} {ra kr : Nat → Nat} {M : Nat → Nat → Nat}
theorem SimF.ks_kg (h : SimF cI cG w so c hid n code ans dbt ga ks kg ra kr M) : ks ≠ kg := fun e => by have := h.1; rw [e, h.2.1] at this; cases this
theorem SimF.ks_kr (h : SimF cI cG w so c hid n code ans dbt ga ks kg ra kr M) {i : Nat} (hi : i < n) : ks ≠ kr i := fun e => by have := h.1; rw [e, h.2.2.1 i hi] at this; cases this
theorem SimF.kg_kr (h : SimF cI cG w so c hid n code ans dbt ga ks kg ra kr M) {i : Nat} (hi : i < n) : kr i ≠ kg := fun e => by have := h.2.1; rw [← e, h.2.2.1 i hi] at this; cases this
/-- the object's numbers are changed -/
theorem SimF.obj (h : SimF cI cG w so c hid n code ans dbt ga ks kg ra kr M) (c2 : Nat) (hid2 : Int32) : SimF cI cG (w.set ks (so, .inr (2, [.int (nI c2), .int hid2, .ref ga]))) so c2 hid2 n code ans dbt ga ks kg ra kr M :=
  ⟨set_at h.1, set_ot h.2.1 h.ks_kg, fun i hi => set_ot (h.2.2.1 i hi) (h.ks_kr hi), h.2.2.2.1, h.2.2.2.2⟩
/-- another row of rows is put in -/
theorem SimF.newg (h : SimF cI cG w so c hid n code ans dbt ga ks kg ra kr M) {gn kn n2 : Nat} {ra2 kr2 : Nat → Nat} {M2 : Nat → Nat → Nat} {code2 ans2 : Nat → Nat} {dbt2 : Nat → Bool} (h2 : w[kn]? = some (gn, OutC cG n2 ra2)) (h3 : ∀ i, i < n2 → w[kr2 i]? = some (ra2 i, .inl (cI, 3, .inl (fun j => nI (M2 i j))))) (h4 : ∀ i j, i < n2 → j < n2 → kr2 i = kr2 j → i = j) (h5 : ∀ i, i < n2 → M2 i 0 = code2 i ∧ M2 i 1 = ans2 i ∧ M2 i 2 = bN (dbt2 i)) :
    SimF cI cG (w.set ks (so, .inr (2, [.int (nI c), .int hid, .ref gn]))) so c hid n2 code2 ans2 dbt2 gn ks kn ra2 kr2 M2 :=
  ⟨set_at h.1, set_ot h2 (fun e => by have := h.1; rw [e, h2] at this; cases this), fun i hi => set_ot (h3 i hi) (fun e => by have := h.1; rw [e, h3 i hi] at this; cases this), h4, h5⟩
/-- a guess is doubted, or not any more -/
theorem SimF.row (h : SimF cI cG w so c hid n code ans dbt ga ks kg ra kr M) {i : Nat} (hi : i < n) (is : Bool) : SimF cI cG (w.set (kr i) (ra i, .inl (cI, 3, .inl (fun j => nI (va_up (M i) 2 (bN is) j))))) so c hid n code ans (va_up dbt i is) ga ks kg ra kr (up2 M i 2 (bN is)) := by
  refine ⟨set_ot h.1 (h.ks_kr hi).symm, set_ot h.2.1 (h.kg_kr hi), fun a ha => ?_, h.2.2.2.1, fun a ha => ?_⟩
  · by_cases e : a = i
    · subst e
      rw [set_at (h.2.2.1 a ha)]
      simp [up2]
    · simp only [up2, if_neg e]
      exact set_ot (h.2.2.1 a ha) (fun q => e (h.2.2.2.1 i a hi ha q).symm)
  · have h5 := h.2.2.2.2 a ha
    by_cases e : a = i
    · subst e
      simp [up2, va_up, h5.1, h5.2.1]
    · simp only [up2, va_up, if_neg e]
      exact h5
end SIMF
section SROW
variable {p : Program} {l : Launch} {e : Env} {R : Room} {s : State} {m : MethodId} {args : Array Value} {below : List Frame} {meth : Method} {c : Code} {H : Heap} {locs : List Loc} {cells slots : Nat} {Q : State → Prop}
variable {cc : ByteArray} {pc : Nat} {ls : Array Slot} {rest : List Value} {D : va_G} {A : Nat → Prop} {w : va_W} {a : Nat} {tys : List (ClassId × FieldType)} {ws : va_W} {H0 : Heap}
theorem x_join {g1 g2 : JFrame} (hj : W p l e R s m args below meth c H locs cells slots Q g2) (k : W p l e R s m args below meth c H locs cells slots Q g2 → W p l e R s m args below meth c H locs cells slots Q g1) : W p l e R s m args below meth c H locs cells slots Q g1 := k hj
theorem updI (f : Nat → Int32) (i : Nat) (v : Int32) : upd f i v = fun j => va_up f i v j := by funext j; simp only [upd, va_up]
theorem x_iastI (hx : p.tables.exec = Jvm.exec) (hb : c.code = cc) (hK : va_K D vwCl tys s) (hP : va_P D vwCl ws H) (hD : va_D A ws) (hS : va_S A H0 H locs) (q0 t0 : Nat) {cA : ClassId} {n : Nat} {f : Nat → Int32} (ha : ws[q0]? = some (a, .inl (cA, n, .inl f))) (ht : tys[t0]? = some (cA, .int)) {i : Nat} {v : Int32} (hi : i < n) (hn : n < 2 ^ 31) (hdg : decode cc pc = .ok (.iastore, 1))
    (kk : ∀ (H1 : Heap) (locs1 : List Loc), va_P D vwCl (ws.set q0 (a, .inl (cA, n, .inl (va_up f i v)))) H1 → va_D A (ws.set q0 (a, .inl (cA, n, .inl (va_up f i v)))) → va_S A H0 H1 locs1 → W p l e R s m args below meth c H1 locs1 cells slots Q (F0 m (pc + 1) ls rest)) : W p l e R s m args below meth c H locs cells slots Q (F0 m pc ls (.int v :: .int (nI i) :: .ref a :: rest)) :=
  va_iast hx hb hK hP hD hS q0 t0 ha ht (vp_in_nI hi hn) hdg (fun H1 locs1 h1 h2 h3 => by
    rw [nI_clamp (Nat.lt_trans hi hn), updI] at h1 h2
    exact kk H1 locs1 h1 h2 h3)
theorem x_newiC {cI cZ cG cJ : ClassId} (hx : p.tables.exec = Jvm.exec) (hb : c.code = cc) (harr : (Cond.arrayClass .int).before args s = true) (hB : Bs D (TY cI cZ cG cJ) A s) (hP : va_P D vwCl w H) (hD : va_D A w) (hS : va_S A s.heap H locs) {n : Nat} (hn : n ≤ 81) (hc : cells + 1 ≤ R.cells) (hs : slots + n ≤ R.slots) (hdg : decode cc pc = .ok (.newarray .int, 2))
    (kk : ∀ (q : Nat) (H1 : Heap), va_P D vwCl ((q, .inl (cI, n, .inl (fun j => nI ((fun _ => 0) j)))) :: w) H1 → va_D A ((q, .inl (cI, n, .inl (fun j => nI ((fun _ => 0) j)))) :: w) → va_S A s.heap H1 locs → W p l e R s m args below meth c H1 locs (cells + 1) (slots + n) Q (F0 m (pc + 2) ls (.ref q :: rest))) : W p l e R s m args below meth c H locs cells slots Q (F0 m pc ls (.int (nI n) :: rest)) :=
  x_newi hx hb harr hB hP hD hS hn hc hs hdg (fun q H1 h1 h2 h3 => kk q H1 (P_perm List.perm_append_comm h1) (D_perm List.perm_append_comm h2) h3)
theorem x_newzC {cI cZ cG cJ : ClassId} (hx : p.tables.exec = Jvm.exec) (hb : c.code = cc) (harr : (Cond.arrayClass .boolean).before args s = true) (hB : Bs D (TY cI cZ cG cJ) A s) (hP : va_P D vwCl w H) (hD : va_D A w) (hS : va_S A s.heap H locs) {n : Nat} (hn : n ≤ 81) (hc : cells + 1 ≤ R.cells) (hs : slots + n ≤ R.slots) (hdg : decode cc pc = .ok (.newarray .boolean, 2))
    (kk : ∀ (q : Nat) (H1 : Heap), va_P D vwCl ((q, .inl (cZ, n, .inl (fun j => bI ((fun _ => false) j)))) :: w) H1 → va_D A ((q, .inl (cZ, n, .inl (fun j => bI ((fun _ => false) j)))) :: w) → va_S A s.heap H1 locs → W p l e R s m args below meth c H1 locs (cells + 1) (slots + n) Q (F0 m (pc + 2) ls (.ref q :: rest))) : W p l e R s m args below meth c H locs cells slots Q (F0 m pc ls (.int (nI n) :: rest)) :=
  x_newz hx hb harr hB hP hD hS hn hc hs hdg (fun q H1 h1 h2 h3 => kk q H1 (P_perm List.perm_append_comm h1) (D_perm List.perm_append_comm h2) h3)
theorem ag_cls {cI cZ cG cJ : ClassId} (hB : Bs D (TY cI cZ cG cJ) A s) : ∃ k : Class, s.vm.classes[cG]? = some k ∧ k.kind = .array cI (.array .int) := by
  have hover : va_AOA .int s := hB.2.2.2.2.2.2.2.2.2
  obtain ⟨comp, cA, kA, h1, -, h3, h4, h5⟩ := arrayOverA_spec (va_AOA.use (A := #[]) hover)
  have e1 : s.vm.findClass (FieldType.array .int).toString = some cI := (hB.1.2 0 (cI, .int) rfl).2
  have e2 : s.vm.findClass ("[" ++ (FieldType.array .int).toString) = some cG := (hB.1.2 2 (cG, .array .int) rfl).2
  have a1 : comp = cI := Option.some.inj (h1.symm.trans e1)
  have a2 : cA = cG := Option.some.inj (h5.symm.trans e2)
  subst a1; subst a2
  exact ⟨kA, h3, h4⟩
/-- new int[n][] -/
theorem x_newg {cI cZ cG cJ : ClassId} {rc : Nat → Nat} (hx : p.tables.exec = Jvm.exec) (hb : c.code = cc) {own : String} {index : Nat} (hown : s.vm.findClass own = some m.cls) (hclink : (Cond.classLink own index "[I").before args s = true) (hB : Bs D (TY cI cZ cG cJ) A s) (hP : va_P D vwCl w H) (hD : va_D A w) (hS : va_S A s.heap H locs) {n : Nat} (hn : n ≤ 81) (hc : cells + 1 ≤ R.cells) (hs : slots + n ≤ R.slots) (hdg : decode cc pc = .ok (.anewarray index, 3))
    (kk : ∀ (q : Nat) (H1 : Heap), va_P D vwCl ((q, PartC cG n 0 rc) :: w) H1 → va_D A ((q, PartC cG n 0 rc) :: w) → va_S A s.heap H1 locs → W p l e R s m args below meth c H1 locs (cells + 1) (slots + n) Q (F0 m (pc + 3) ls (.ref q :: rest))) : W p l e R s m args below meth c H locs cells slots Q (F0 m pc ls (.int (nI n) :: rest)) := by
  have hover : va_AOA .int s := hB.2.2.2.2.2.2.2.2.2
  have hcl : (nI n).toNatClampNeg = n := nI_clamp (by omega)
  refine W.anewA (t := .int) hx hb hown hclink (va_AOA.use hover) rfl hdg rfl (nI_pos (by omega)) (by rw [hcl]; omega) hc (by rw [hcl]; exact hs) fun cA kA comp f1 f2 f3 f4 => ?_
  rw [hcl]
  have e2 : s.vm.findClass ("[" ++ (FieldType.array .int).toString) = some cG := (hB.1.2 2 (cG, .array .int) rfl).2
  have a2 : cA = cG := Option.some.inj (f1.symm.trans e2)
  subst a2
  generalize hH1 : H.push ({ cls := cA, slots := Array.replicate n .null, vm := .none } : Cell) = H1
  have z1 : H1.size = H.size + 1 := by rw [← hH1, Array.size_push]
  have e1 : H1[H.size]? = some (arrV cA n (fun _ => .null)) := by rw [← hH1, Array.getElem?_push_size, ← arrV_new]
  have o1 : ∀ q : Nat, q < H.size → H1[q]? = H[q]? := fun q hq => by rw [← hH1, Array.getElem?_push, if_neg (Nat.ne_of_lt hq)]
  have hk : ∀ (k : Nat) (x : Nat × va_E), w[k]? = some x → H1[x.1]? = H[x.1]? := fun k x hx => o1 x.1 ((hP k x hx).lt)
  have e0 : PartC cA n 0 rc = .inl (cA, n, .inr (.inr (.inr (.inr (fun _ => none))))) := by
    simp only [PartC, Nat.not_lt_zero, if_false]
  have hP2 : va_P D vwCl (w ++ [(H.size, PartC cA n 0 rc)]) H1 := (hP.kept hk).app (fun k x hx => by
    have hz : k < 1 := (List.getElem?_eq_some_iff.mp hx).1
    rw [show k = 0 by omega] at hx
    cases hx
    show va_at D vwCl (H.size, PartC cA n 0 rc) H1
    rw [e0]
    show H1[H.size]? = some (vp_cell _ _)
    rw [vp_cell_q]
    exact e1)
  exact kk H.size H1 (P_perm List.perm_append_comm hP2) (D_perm List.perm_append_comm (hD.push hP rfl (hB.2.1 _ hS.1))) ⟨Nat.le_trans hS.1 (by omega), fun x h1 h2 => (o1 x (Nat.lt_of_lt_of_le h1 hS.1)).trans (hS.2.1 x h1 h2), hS.2.2⟩
theorem as_self (vm : Vm) (c : ClassId) : vm.assignable c c = true := by
  show vm.assignableAux (255 + 1) c c = true
  rw [Vm.assignableAux]
  simp
/-- the next row is put into a row of rows -/
theorem x_gast {cI cZ cG cJ : ClassId} (hx : p.tables.exec = Jvm.exec) (hb : c.code = cc) (hB : Bs D (TY cI cZ cG cJ) A s) (hP : va_P D vwCl w H) (hD : va_D A w) (hS : va_S A s.heap H locs) (q0 qk : Nat) {N k n3 v : Nat} {rc : Nat → Nat} {f : Nat → Int32} (ha : w[q0]? = some (a, PartC cG N k rc)) (hv : w[qk]? = some (v, .inl (cI, n3, .inl f))) (hr : rc k = v) (hk : k < N) (hN : N < 2 ^ 31) (hdg : decode cc pc = .ok (.aastore, 1))
    (kk : ∀ (H1 : Heap) (locs1 : List Loc), va_P D vwCl (w.set q0 (a, PartC cG N (k + 1) rc)) H1 → va_D A (w.set q0 (a, PartC cG N (k + 1) rc)) → va_S A s.heap H1 locs1 → W p l e R s m args below meth c H1 locs1 cells slots Q (F0 m (pc + 1) ls rest)) : W p l e R s m args below meth c H locs cells slots Q (F0 m pc ls (.ref v :: .int (nI k) :: .ref a :: rest)) := by
  subst hr
  have hcl : (nI k).toNatClampNeg = k := nI_clamp (by omega)
  obtain ⟨kA, hkA, hkind⟩ := ag_cls hB
  have hcell : H[a]? = some (vp_cell cG (N, .inr (.inr (.inr (.inr (fun i => if i < k then some (rc i) else none)))))) := hP q0 _ ha
  have hcv : H[rc k]? = some (vp_cell cI (n3, .inl f)) := hP qk _ hv
  obtain ⟨kI, hkI, -⟩ : ∃ kI : Class, s.vm.classes[cI]? = some kI ∧ True := by
    obtain ⟨kI, hkI, -⟩ := Vm.findClass_spec (hB.1.2 0 (cI, .int) rfl).2
    exact ⟨kI, hkI, trivial⟩
  refine W.aast hx hb hcell (fun q h => by cases h) (fun h => by cases h) hkA hkind rfl hkI ⟨nI_pos (by omega), by show _ < (arrV _ _ _).slots.size; rw [arrV_size, hcl]; exact hk⟩ hcv (fun q h => by cases h) hkI (as_self _ _) rfl rfl hdg fun H1 e z oq => ?_
  have e9 : (w.set q0 (a, PartC cG N (k + 1) rc)) = w.set q0 (a, .inl (cG, N, .inr (.inr (.inr (.inr (va_up (fun i => if i < k then some (rc i) else none) k (some (rc k)))))))) := by
    congr 2
    show PartC cG N (k + 1) rc = _
    simp only [PartC]
    congr 7
    funext i
    by_cases h1 : i = k
    · subst h1; simp [va_up]
    · by_cases h2 : i < k
      · simp [va_up, h1, h2, Nat.lt_succ_of_lt h2]
      · simp [va_up, h1, h2, show ¬ i < k + 1 by omega]
  have key : H1[a]? = some (vp_cell cG (N, .inr (.inr (.inr (.inr (va_up (fun i => if i < k then some (rc i) else none) k (some (rc k)))))))) := by
    rw [e, hcl, vp_cell_q, vp_cell_q, arrV_store]
    congr 2
    funext q
    by_cases hq : q = k
    · subst hq
      simp [updV, va_up, va_rf]
    · simp [updV, va_up, hq]
  exact kk H1 _ (by rw [e9]; exact hP.set hD ha key oq) (by rw [e9]; exact hD.set ha) (hS.put z oq (hD.2 q0 _ ha))
end SROW
