def qq (c : Nat) : Nat := c * c * c * c
def col (c k p : Nat) : Nat := k / c ^ (3 - p) % c
def sN (f : Nat → Nat) : Nat → Nat
  | 0 => 0
  | n + 1 => sN f n + f n
def cN (p : Nat → Bool) : Nat → Nat
  | 0 => 0
  | n + 1 => cN p n + (if p n then 1 else 0)
def cnt (c k x : Nat) : Nat := cN (fun p => decide (col c k p = x)) 4
def blk (c a b : Nat) : Nat := cN (fun p => decide (col c a p = col c b p)) 4
def shr (c a b : Nat) : Nat := sN (fun x => min (cnt c a x) (cnt c b x)) c
def pinsD (c a b : Nat) : Nat := 5 * blk c a b + shr c a b - blk c a b
/-- as pinsD; not to be unfolded -/
noncomputable def pins (c a b : Nat) : Nat := Classical.choose (p := fun x => x = pinsD c a b) ⟨_, rfl⟩
theorem pins_eq (c a b : Nat) : pins c a b = pinsD c a b := Classical.choose_spec (p := fun x => x = pinsD c a b) ⟨_, rfl⟩
noncomputable def fit (c : Nat) (code ans : Nat → Nat) (dbt : Nat → Bool) : Nat → Nat → Bool
  | 0, _ => true
  | n + 1, k => fit c code ans dbt n k && (dbt n || decide (pins c (code n) k = ans n))
def hasC (c : Nat) (v : Int32) : Bool := decide (0 ≤ v ∧ v < nI (qq c))
def CodeOK (c n : Nat) (code ans : Nat → Nat) : Prop := ∀ i, i < n → code i < qq c ∧ ans i < 32
theorem qq_2 : qq 2 = 16 := rfl
theorem qq_3 : qq 3 = 81 := rfl
theorem qq_in {c : Nat} (hc : c = 2 ∨ c = 3) : 16 ≤ qq c ∧ qq c ≤ 81 := by rcases hc with rfl | rfl <;> decide
theorem cN_le (p : Nat → Bool) (n : Nat) : cN p n ≤ n := by
  induction n with
  | zero => exact Nat.le_refl _
  | succ n ih => simp only [cN]; split <;> omega
theorem sN_le {f g : Nat → Nat} (n : Nat) (h : ∀ i, i < n → f i ≤ g i) : sN f n ≤ sN g n := by
  induction n with
  | zero => exact Nat.le_refl _
  | succ n ih => simp only [sN]; have := ih (fun i hi => h i (by omega)); have := h n (by omega); omega
theorem cN_congr {p q : Nat → Bool} (n : Nat) (h : ∀ i, i < n → p i = q i) : cN p n = cN q n := by
  induction n with
  | zero => rfl
  | succ n ih => simp only [cN]; rw [ih (fun i hi => h i (by omega)), h n (by omega)]
theorem fit_false {c : Nat} {code ans : Nat → Nat} {dbt : Nat → Bool} {k i n : Nat} (hi : i < n) (hd : dbt i = false) (hp : ¬ pins c (code i) k = ans i) : fit c code ans dbt n k = false := by
  induction n with
  | zero => omega
  | succ n ih =>
    rcases Nat.lt_or_ge i n with h | h
    · simp [fit, ih h]
    · have : i = n := by omega
      subst this
      simp [fit, hd, hp]
theorem hasC_nI {c k : Nat} (hc : c = 2 ∨ c = 3) (hk : k < 2 ^ 31) : hasC c (nI k) = decide (k < qq c) := by
  have h := qq_in hc
  have h1 : (0 : Int32) ≤ nI k := nI_pos' hk
  simp only [hasC, h1, true_and, nI_ltI hk (by omega : qq c < 2 ^ 31)]
theorem hasC_lt {c k : Nat} (hc : c = 2 ∨ c = 3) (hk : k < qq c) : hasC c (nI k) = true := by
  have h := qq_in hc
  rw [hasC_nI hc (by omega)]; simp [hk]
theorem hasC_of {c : Nat} {v : Int32} (hc : c = 2 ∨ c = 3) (h : hasC c v = true) : ∃ k, k < qq c ∧ v = nI k := by
  have hq := qq_in hc
  simp only [hasC, decide_eq_true_eq] at h
  obtain ⟨k, hk, rfl⟩ := nI_of (x := v) (by
    intro h2
    have : v < v := Int32.lt_of_lt_of_le h2 h.1
    exact Int32.lt_irrefl this)
  exact ⟨k, (nI_ltI hk (by omega)).mp h.2, rfl⟩
theorem nI_min {x y : Nat} (hx : x < 2 ^ 31) (hy : y < 2 ^ 31) : (if nI y < nI x then nI y else nI x) = nI (min x y) := by
  by_cases h : y < x
  · rw [if_pos ((nI_ltI hy hx).mpr h)]; congr 1; omega
  · rw [if_neg (fun q => h ((nI_ltI hy hx).mp q))]; congr 1; omega
theorem nI_max {x y : Nat} (hx : x < 2 ^ 31) (hy : y < 2 ^ 31) : (if nI x < nI y then nI y else nI x) = nI (max x y) := by
  by_cases h : x < y
  · rw [if_pos ((nI_ltI hx hy).mpr h)]; congr 1; omega
  · rw [if_neg (fun q => h ((nI_ltI hx hy).mp q))]; congr 1; omega
def pal (ad : Nat → Nat) (c : Nat) : Nat := if c = 2 then ad 7 else ad 8
def PalOK (cI cG : ClassId) (w : va_W) (q c : Nat) : Prop := ∃ (cd tb kq kc kt : Nat) (fc ft : Nat → Option Nat), w[kq]? = some (q, .inr (0, [.int (nI c), .int (nI (qq c)), .ref cd, .ref tb])) ∧ w[kc]? = some (cd, .inl (cG, qq c, .inr (.inr (.inr (.inr fc))))) ∧ w[kt]? = some (tb, .inl (cG, qq c, .inr (.inr (.inr (.inr ft))))) ∧
  (∀ i, i < qq c → ∃ (r k : Nat) (f : Nat → Int32), fc i = some r ∧ w[k]? = some (r, .inl (cI, 4, .inl f)) ∧ ∀ j, j < 4 → f j = nI (col c i j)) ∧ (∀ i, i < qq c → ∃ (r k : Nat) (f : Nat → Int32), ft i = some r ∧ w[k]? = some (r, .inl (cI, qq c, .inl f)) ∧ ∀ j, j < qq c → f j = nI (pins c i j))
def Pals (cI cG : ClassId) (ad : Nat → Nat) (wr : va_W) : Prop := PalOK cI cG wr (ad 7) 2 ∧ PalOK cI cG wr (ad 8) 3
def WX (ad : Nat → Nat) (cI cZ : ClassId) (c g : Nat) (hid : Int32) (code ans : Nat → Nat) (dbt opn ply : Nat → Bool) (hps : Nat → Nat) (wr : va_W) : va_W :=
  (ad 0, .inr (1, [.ref (ad 7), .ref (ad 8), .ref (pal ad c), .int hid, .int (nI g), .ref (ad 1), .ref (ad 2), .ref (ad 3), .ref (ad 4), .ref (ad 5), .ref (ad 6)])) ::
  (ad 1, .inl (cI, 12, .inl (fun j => nI (code j)))) :: (ad 2, .inl (cI, 12, .inl (fun j => nI (ans j)))) :: (ad 3, .inl (cZ, 12, .inl (fun j => bI (dbt j)))) ::
  (ad 4, .inl (cZ, 81, .inl (fun j => bI (opn j)))) :: (ad 5, .inl (cZ, 81, .inl (fun j => bI (ply j)))) :: (ad 6, .inl (cI, 21, .inl (fun j => nI (hps j)))) :: wr
theorem PalOK.up {cI cG : ClassId} {wr : va_W} {q c : Nat} (h : PalOK cI cG wr q c) (w : va_W) (n : Nat) (hw : ∀ k, w[k + n]? = wr[k]?) : PalOK cI cG w q c := by
  obtain ⟨cd, tb, kq, kc, kt, fc, ft, e1, e2, e3, e4, e5⟩ := h
  refine ⟨cd, tb, kq + n, kc + n, kt + n, fc, ft, by rw [hw]; exact e1, by rw [hw]; exact e2, by rw [hw]; exact e3, fun i hi => ?_, fun i hi => ?_⟩
  · obtain ⟨r, k, f, a1, a2, a3⟩ := e4 i hi
    exact ⟨r, k + n, f, a1, by rw [hw]; exact a2, a3⟩
  · obtain ⟨r, k, f, a1, a2, a3⟩ := e5 i hi
    exact ⟨r, k + n, f, a1, by rw [hw]; exact a2, a3⟩
theorem palX {cI cZ cG : ClassId} {ad : Nat → Nat} {wr : va_W} (h : Pals cI cG ad wr) {c : Nat} (hc : c = 2 ∨ c = 3) {g : Nat} {hid : Int32} {code ans : Nat → Nat} {dbt opn ply : Nat → Bool} {hps : Nat → Nat} : PalOK cI cG (WX ad cI cZ c g hid code ans dbt opn ply hps wr) (pal ad c) c := by
  have hw : ∀ k, (WX ad cI cZ c g hid code ans dbt opn ply hps wr)[k + 7]? = wr[k]? := fun k => rfl
  rcases hc with rfl | rfl
  · exact h.1.up _ 7 hw
  · exact h.2.up _ 7 hw
theorem prePal {D : va_G} {tys : List (ClassId × FieldType)} {A : Nat → Prop} {w : va_W} {s : State} {H : Heap} {locs : List Loc} {b : Addr} {As : List Value} {cI cG : ClassId} {c : Nat} (hB : Bs D tys A s) (hS : va_S A s.heap H locs) (hP : va_P D vwCl w H) (hD : va_D A w) (h : PalOK cI cG w b c) : PreV s H RX0 b (va_Pc (.ref b :: As) (Iv D tys A w)) As := by
  obtain ⟨cd, tb, kq, kc, kt, fc, ft, e1, e2⟩ := h
  exact preV (ci := 0) (q := (RX0, TX0, 4)) hB hS hP hD e1 rfl
theorem hasC_f1 {c : Nat} {v : Int32} (h : v < 0) : hasC c v = false := by
  simp only [hasC, decide_eq_false_iff_not]
  intro q
  exact absurd (Int32.lt_of_lt_of_le h q.1) (Int32.lt_irrefl)
theorem hasC_f2 {c : Nat} {v : Int32} (h : nI (qq c) ≤ v) : hasC c v = false := by
  simp only [hasC, decide_eq_false_iff_not]
  intro q
  exact absurd (Int32.lt_of_lt_of_le q.2 h) (Int32.lt_irrefl)
theorem hasC_t {c : Nat} {v : Int32} (h1 : ¬ v < 0) (h2 : ¬ nI (qq c) ≤ v) : hasC c v = true := by
  simp only [hasC, decide_eq_true_eq]
  exact ⟨Int32.not_lt.mp h1, Int32.not_le.mp h2⟩
/-- the member of the set at a place, of those below n; -1 if there is none -/
def memA (sb : Nat → Bool) (v : Int32) : Nat → Int32
  | 0 => -1
  | n + 1 => if memA sb v n = -1 then (if sb n = true ∧ nI (cN sb n) = v then nI n else -1) else memA sb v n
theorem memA_hit {sb : Nat → Bool} {v : Int32} {i n : Nat} (hi : i < n) (h3 : memA sb v i = -1) (hs : sb i = true) (hv : nI (cN sb i) = v) (hn : n ≤ 81 := by omega) : memA sb v n = nI i := by
  have hne : ∀ k, k < 81 → ¬ nI k = -1 := fun k hk q => by
    have h1 : (0 : Int32) ≤ nI k := nI_pos' (by omega)
    rw [q] at h1
    exact absurd h1 (by decide)
  induction n with
  | zero => omega
  | succ n ih =>
    rcases Nat.lt_or_ge i n with h | h
    · have e := ih h (by omega)
      simp only [memA, e, hne i (by omega), if_false]
    · have : i = n := by omega
      subst this
      simp only [memA, h3, hs, hv, if_true, and_self]
theorem pins_tab2 : ∀ a, a < 16 → ∀ b, b < 16 → pinsD 2 a b ≤ 20 ∧ pinsD 2 a b = pinsD 2 b a ∧ (pinsD 2 a b = 20 → a = b) ∧ pinsD 2 a a = 20 := by decide +kernel
theorem pins_tab3 : ∀ a, a < 81 → ∀ b, b < 81 → pinsD 3 a b ≤ 20 ∧ pinsD 3 a b = pinsD 3 b a ∧ (pinsD 3 a b = 20 → a = b) ∧ pinsD 3 a a = 20 := by decide +kernel
theorem pins_tab {c a b : Nat} (hc : c = 2 ∨ c = 3) (ha : a < qq c) (hb : b < qq c) : pins c a b ≤ 20 ∧ pins c a b = pins c b a ∧ (pins c a b = 20 → a = b) ∧ pins c a a = 20 := by
  simp only [pins_eq]
  rcases hc with rfl | rfl
  · exact pins_tab2 a ha b hb
  · exact pins_tab3 a ha b hb
theorem pins_le {c a b : Nat} (hc : c = 2 ∨ c = 3) (ha : a < qq c) (hb : b < qq c) : pins c a b ≤ 20 := (pins_tab hc ha hb).1
theorem col_lt {c : Nat} (hc : c = 2 ∨ c = 3) (k p : Nat) : col c k p < c := Nat.mod_lt _ (by omega)
theorem up_le {α : Type} {p q : Nat → α} {i : Nat} {v : α} (h : ∀ k, k < i → p k = q k) (hv : v = q i) : ∀ k, k < i + 1 → va_up p i v k = q k := by
  intro k hk
  by_cases e : k = i
  · subst e; simp [va_up, hv]
  · simp only [va_up, if_neg e]; exact h k (by omega)
theorem up_gt {α : Type} {p q : Nat → α} {i : Nat} {v : α} (h : ∀ k, i ≤ k → p k = q k) : ∀ k, i + 1 ≤ k → va_up p i v k = q k := by
  intro k hk
  simp only [va_up, if_neg (show ¬ k = i by omega)]; exact h k (by omega)
noncomputable def opS (c g : Nat) (code ans : Nat → Nat) (dbt : Nat → Bool) (k : Nat) : Bool := decide (k < qq c) && fit c code ans dbt g k
def SetX (ad : Nat → Nat) (opn ply : Nat → Bool) (sa k0 : Nat) (sb : Nat → Bool) : Prop := (sa = ad 4 ∧ k0 = 4 ∧ sb = opn) ∨ (sa = ad 5 ∧ k0 = 5 ∧ sb = ply)
theorem setX {ad : Nat → Nat} {cI cZ : ClassId} {c g : Nat} {hid : Int32} {code ans : Nat → Nat} {dbt opn ply : Nat → Bool} {hps : Nat → Nat} {wr : va_W} {sa k0 : Nat} {sb : Nat → Bool} (h : SetX ad opn ply sa k0 sb) : (WX ad cI cZ c g hid code ans dbt opn ply hps wr)[k0]? = some (sa, .inl (cZ, 81, .inl (fun j => bI (sb j)))) := by
  rcases h with ⟨rfl, rfl, rfl⟩ | ⟨rfl, rfl, rfl⟩ <;> rfl
noncomputable def hpN (c a : Nat) (sb : Nat → Bool) (x : Nat) : Nat := cN (fun k => sb k && decide (pins c a k = x)) 81
def mxN (f : Nat → Nat) : Nat → Nat
  | 0 => 0
  | n + 1 => max (mxN f n) (f n)
noncomputable def gh (c a : Nat) (sb : Nat → Bool) : Nat := Classical.choose (p := fun x => x = mxN (hpN c a sb) 21) ⟨_, rfl⟩
theorem gh_eq (c a : Nat) (sb : Nat → Bool) : gh c a sb = mxN (hpN c a sb) 21 := Classical.choose_spec (p := fun x => x = mxN (hpN c a sb) 21) ⟨_, rfl⟩
theorem gh_le (c a : Nat) (sb : Nat → Bool) (j : Nat) : mxN (hpN c a sb) j ≤ 81 := by
  induction j with
  | zero => exact Nat.zero_le _
  | succ n ih => have : hpN c a sb n ≤ 81 := cN_le _ _; simp only [mxN]; omega
theorem heap_up {c a i : Nat} {sb : Nat → Bool} {h2 : Nat → Nat} (h : ∀ x, x < 21 → h2 x = cN (fun k => sb k && decide (pins c a k = x)) i) (hs : sb i = true) : ∀ x, x < 21 → va_up h2 (pins c a i) (h2 (pins c a i) + 1) x = cN (fun k => sb k && decide (pins c a k = x)) (i + 1) := by
  intro x hx
  simp only [cN, hs, Bool.true_and]
  by_cases e : pins c a i = x
  · subst e; simp [va_up, h _ hx]
  · simp only [va_up, if_neg (fun q => e (Eq.symm q)), h x hx]; simp [e]
/-- the least bad of the first codes: it, whether it is of the set, how many it leaves -/
noncomputable def lbS (c : Nat) (sb : Nat → Bool) (only : Bool) : Nat → Int32 × Bool × Nat
  | 0 => (-1, false, 82)
  | n + 1 => if (sb n = true ∨ only = false) ∧ (gh c n sb < (lbS c sb only n).2.2 ∨ gh c n sb = (lbS c sb only n).2.2 ∧ sb n = true ∧ (lbS c sb only n).2.1 = false) then (nI n, sb n, gh c n sb) else lbS c sb only n
theorem lbS_step (c : Nat) (sb : Nat → Bool) (only : Bool) (n : Nat) : lbS c sb only (n + 1) = if (sb n = true ∨ only = false) ∧ (gh c n sb < (lbS c sb only n).2.2 ∨ gh c n sb = (lbS c sb only n).2.2 ∧ sb n = true ∧ (lbS c sb only n).2.1 = false) then (nI n, sb n, gh c n sb) else lbS c sb only n := rfl
noncomputable def lbR (c : Nat) (sb : Nat → Bool) (only : Bool) : Int32 := if cN sb 81 = 0 then -1 else (lbS c sb only (qq c)).1
section PALF
variable {p : Program} {l : Launch} {e : Env} {R : Room} {s : State} {m : MethodId} {args : Array Value} {below : List Frame} {meth : Method} {c9 : Code} {H : Heap} {locs : List Loc} {cells slots : Nat} {Q : State → Prop}
variable {cc : ByteArray} {pc : Nat} {ls : Array Slot} {rest : List Value} {D : va_G} {tys : List (ClassId × FieldType)} {ws : va_W} {Ts : List Cond}
theorem x_codes (hx : p.tables.exec = Jvm.exec) (hb : c9.code = cc) (hts : ∀ w ∈ Ts, w.before args s = true) (hin : ∀ w ∈ wsX00, w ∈ Ts) (hown : s.vm.findClass RX1 = some m.cls) (hK : va_K D vwCl tys s) (hP : va_P D vwCl ws H) {cI cG : ClassId} {q c : Nat} (h : PalOK cI cG ws q c) (hN : va_Nw (.fieldLinkNest RX1 114 RX0 "codes" "I" RX1) s) (hdg : decode cc pc = .ok (.getfield 114, 3))
    (kk : W p l e R s m args below meth c9 H locs cells slots Q (F0 m (pc + 3) ls (.int (nI (qq c)) :: rest))) : W p l e R s m args below meth c9 H locs cells slots Q (F0 m pc ls (.ref q :: rest)) := by
  obtain ⟨cd, tb, kq, kc, kt, fc, ft, e1, e2⟩ := h
  exact va_getN (D := D) (ci := 0) (v := .int (nI (qq c))) (C := RX0) (T := TX0) (N := 4) hx hb hts hin hown hK hP kq e1 rfl 1 (by decide) (va_Nw.use rfl hN) (fun _ h9 => h9) rfl hdg kk
theorem x_colours (hx : p.tables.exec = Jvm.exec) (hb : c9.code = cc) (hts : ∀ w ∈ Ts, w.before args s = true) (hin : ∀ w ∈ wsX00, w ∈ Ts) (hown : s.vm.findClass RX1 = some m.cls) (hK : va_K D vwCl tys s) (hP : va_P D vwCl ws H) {cI cG : ClassId} {q c : Nat} (h : PalOK cI cG ws q c) (hN : va_Nw (.fieldLinkNest RX1 61 RX0 "colours" "I" RX1) s) (hdg : decode cc pc = .ok (.getfield 61, 3))
    (kk : W p l e R s m args below meth c9 H locs cells slots Q (F0 m (pc + 3) ls (.int (nI c) :: rest))) : W p l e R s m args below meth c9 H locs cells slots Q (F0 m pc ls (.ref q :: rest)) := by
  obtain ⟨cd, tb, kq, kc, kt, fc, ft, e1, e2⟩ := h
  exact va_getN (D := D) (ci := 0) (v := .int (nI c)) (C := RX0) (T := TX0) (N := 4) hx hb hts hin hown hK hP kq e1 rfl 0 (by decide) (va_Nw.use rfl hN) (fun _ h9 => h9) rfl hdg kk
end PALF
theorem memA_no {sb : Nat → Bool} {v : Int32} {i : Nat} (h3 : memA sb v i = -1) (h : sb i = true → ¬ nI (cN sb i) = v) : memA sb v (i + 1) = -1 := by
  rw [memA, if_pos h3, if_neg (fun q => h q.1 q.2)]
theorem heap_no {c a i : Nat} {sb : Nat → Bool} {h2 : Nat → Nat} (h : ∀ x, x < 21 → h2 x = cN (fun k => sb k && decide (pins c a k = x)) i) (hs : sb i = false) : ∀ x, x < 21 → h2 x = cN (fun k => sb k && decide (pins c a k = x)) (i + 1) := by
  intro x hx
  simp only [cN, hs, Bool.false_and, h x hx]; rfl
theorem lbS_upd {c : Nat} {sb : Nat → Bool} {only : Bool} {i few : Nat} {inn : Bool} (hi : inn = (lbS c sb only i).2.1) (hf : few = (lbS c sb only i).2.2) (h1 : sb i = true ∨ only = false) (h2 : gh c i sb < few ∨ gh c i sb = few ∧ sb i = true ∧ inn = false) : lbS c sb only (i + 1) = (nI i, sb i, gh c i sb) := by
  subst hi; subst hf; exact if_pos ⟨h1, h2⟩
theorem lbS_nup {c : Nat} {sb : Nat → Bool} {only : Bool} {i few : Nat} {inn : Bool} (hi : inn = (lbS c sb only i).2.1) (hf : few = (lbS c sb only i).2.2) (h : ¬ ((sb i = true ∨ only = false) ∧ (gh c i sb < few ∨ gh c i sb = few ∧ sb i = true ∧ inn = false))) : lbS c sb only (i + 1) = lbS c sb only i := by
  subst hi; subst hf; exact if_neg h
theorem lb_n1 {P : Prop} {x y : Bool} (h1 : x = false) (h2 : y = true) : ¬ ((x = true ∨ y = false) ∧ P) := by subst h1; subst h2; simp
theorem lb_n2 {P : Prop} {a b : Nat} {Q : Prop} (h1 : b ≤ a) (h2 : ¬ a = b) : ¬ (P ∧ (a < b ∨ a = b ∧ Q)) := fun q => q.2.elim (fun h => by omega) (fun h => h2 h.1)
theorem lb_n3 {P : Prop} {a b : Nat} {x : Bool} {Q : Prop} (h1 : b ≤ a) (h2 : x = false) : ¬ (P ∧ (a < b ∨ a = b ∧ x = true ∧ Q)) := fun q => q.2.elim (fun h => by omega) (fun h => by have := h.2.1; rw [h2] at this; cases this)
theorem lb_n4 {P : Prop} {a b : Nat} {x : Bool} {Q : Prop} (h1 : b ≤ a) (h2 : x = true) : ¬ (P ∧ (a < b ∨ a = b ∧ Q ∧ x = false)) := fun q => q.2.elim (fun h => by omega) (fun h => by have := h.2.2; rw [h2] at this; cases this)
theorem gh_le81 (c a : Nat) (sb : Nat → Bool) : gh c a sb ≤ 81 := by rw [gh_eq]; exact gh_le c a sb 21
