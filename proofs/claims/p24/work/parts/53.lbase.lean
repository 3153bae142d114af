section LCATCH
variable {p : Program} {l : Launch} {e : Env} {R : Room} {s : State} {m : MethodId} {args : Array Value} {below : List Frame} {meth : Method} {c : Code} {H : Heap} {locs : List Loc} {cells slots : Nat} {Q : State → Prop}
variable {own E : String} {ce : Cell} {q : Addr} {pc : Nat} {ls : Array Slot} {rest : List Value}
theorem L_catch0 {a b h t : Nat} {r : List (Nat × Nat × Nat × Nat)} (hown : s.vm.findClass own = some m.cls) (htab : c.exceptionTable.toList = tableOf ((a, b, h, t) :: r)) (hcov : covers ⟨a, b, h, t⟩ pc = true) (h0 : t ≠ 0) (hlink : (Cond.classLink own t E).before args s = true) (hcast : (Cond.castable E E).before args s = true)
    (hcell : H[q]? = some ce) (hv : ce.vm = .none) (hcl : s.vm.findClass E = some ce.cls) (kk : W p l e R s m args below meth c H locs cells slots Q (F0 m h ls [.ref q])) : vx_W p l e R s m args below meth c H locs cells slots Q (F0 m pc ls rest) q :=
  vx_catch hown [] ⟨a, b, h, t⟩ (tableOf r) (by rw [htab]; rfl) (fun z hz => nomatch hz) hcov h0 hlink hcast hcell hv hcl kk
theorem L_catch1 {a b h t a0 b0 h0 t0 : Nat} {nm : String} {r : List (Nat × Nat × Nat × Nat)} (hown : s.vm.findClass own = some m.cls) (htab : c.exceptionTable.toList = tableOf ((a0, b0, h0, t0) :: (a, b, h, t) :: r)) (hcov : covers ⟨a, b, h, t⟩ pc = true) (hz : t ≠ 0) (hlink : (Cond.classLink own t E).before args s = true)
    (hz0 : t0 ≠ 0) (hl0 : (Cond.classLink own t0 nm).before args s = true) (hn0 : va_Nc E nm s) (hcast : (Cond.castable E E).before args s = true)
    (hcell : H[q]? = some ce) (hv : ce.vm = .none) (hcl : s.vm.findClass E = some ce.cls) (kk : W p l e R s m args below meth c H locs cells slots Q (F0 m h ls [.ref q])) : vx_W p l e R s m args below meth c H locs cells slots Q (F0 m pc ls rest) q :=
  vx_catch hown [⟨a0, b0, h0, t0⟩] ⟨a, b, h, t⟩ (tableOf r) (by rw [htab]; rfl) (fun z hz9 => by rw [List.mem_singleton] at hz9; subst hz9; exact Or.inr ⟨hz0, nm, hl0, hn0⟩) hcov hz hlink hcast hcell hv hcl kk
theorem L_catch2 {a b h t a0 b0 h0 t0 a1 b1 h1 t1 : Nat} {nm nm1 : String} {r : List (Nat × Nat × Nat × Nat)} (hown : s.vm.findClass own = some m.cls) (htab : c.exceptionTable.toList = tableOf ((a0, b0, h0, t0) :: (a1, b1, h1, t1) :: (a, b, h, t) :: r)) (hcov : covers ⟨a, b, h, t⟩ pc = true) (hz : t ≠ 0) (hlink : (Cond.classLink own t E).before args s = true)
    (hz0 : t0 ≠ 0) (hl0 : (Cond.classLink own t0 nm).before args s = true) (hn0 : va_Nc E nm s) (hz1 : t1 ≠ 0) (hl1 : (Cond.classLink own t1 nm1).before args s = true) (hn1 : va_Nc E nm1 s) (hcast : (Cond.castable E E).before args s = true)
    (hcell : H[q]? = some ce) (hv : ce.vm = .none) (hcl : s.vm.findClass E = some ce.cls) (kk : W p l e R s m args below meth c H locs cells slots Q (F0 m h ls [.ref q])) : vx_W p l e R s m args below meth c H locs cells slots Q (F0 m pc ls rest) q :=
  vx_catch hown [⟨a0, b0, h0, t0⟩, ⟨a1, b1, h1, t1⟩] ⟨a, b, h, t⟩ (tableOf r) (by rw [htab]; rfl) (fun z hz9 => by
    rw [List.mem_cons, List.mem_singleton] at hz9
    rcases hz9 with rfl | rfl
    · exact Or.inr ⟨hz0, nm, hl0, hn0⟩
    · exact Or.inr ⟨hz1, nm1, hl1, hn1⟩) hcov hz hlink hcast hcell hv hcl kk
end LCATCH
