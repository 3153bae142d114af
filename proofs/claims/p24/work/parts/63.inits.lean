def adL (L : List Nat) (i : Nat) : Nat := L.getD i 0
theorem set_self {w : va_W} {k : Nat} {x y : Nat × va_E} (h : w[k]? = some x) : (w.set k y)[k]? = some y := List.getElem?_set_self (List.getElem?_eq_some_iff.mp h).1
theorem cons_of {u : va_W} {e : Nat × va_E} (h : u[0]? = some e) : ∃ R : va_W, u = e :: R := by
  cases u with
  | nil => simp at h
  | cons a R => exact ⟨R, by rw [List.getElem?_cons_zero] at h; rw [Option.some.inj h]⟩
theorem at_tail {e x : Nat × va_E} {R : va_W} {k : Nat} (h : (e :: R)[k]? = some x) (hne : e ≠ x) : ∃ k2 : Nat, R[k2]? = some x := by
  cases k with
  | zero => rw [List.getElem?_cons_zero] at h; exact absurd (Option.some.inj h) hne
  | succ k => exact ⟨k, h⟩
theorem PalOK.tail {cI cG : ClassId} {x : Nat} {fs : List Value} {R : va_W} {q c : Nat} (h : PalOK cI cG ((x, .inr (1, fs)) :: R) q c) : PalOK cI cG R q c := by
  obtain ⟨cd, tb, kq, kc, kt, fc, ft, e1, e2, e3, e4, e5⟩ := h
  obtain ⟨kq2, e1⟩ := at_tail e1 (by intro q; cases q)
  obtain ⟨kc2, e2⟩ := at_tail e2 (by intro q; cases q)
  obtain ⟨kt2, e3⟩ := at_tail e3 (by intro q; cases q)
  refine ⟨cd, tb, kq2, kc2, kt2, fc, ft, e1, e2, e3, fun i hi => ?_, fun i hi => ?_⟩
  · obtain ⟨r, k, f, a1, a2, a3⟩ := e4 i hi
    obtain ⟨k2, a2⟩ := at_tail a2 (by intro q; cases q)
    exact ⟨r, k2, f, a1, a2, a3⟩
  · obtain ⟨r, k, f, a1, a2, a3⟩ := e5 i hi
    obtain ⟨k2, a2⟩ := at_tail a2 (by intro q; cases q)
    exact ⟨r, k2, f, a1, a2, a3⟩
theorem at_mono {w w2 : va_W} {k : Nat} {x : Nat × va_E} (h : w[k]? = some x) (hm : ∀ k, k < w.length → w2[k]? = w[k]?) : w2[k]? = some x := (hm k (List.getElem?_eq_some_iff.mp h).1).trans h
theorem PalOK.mono {cI cG : ClassId} {w w2 : va_W} {q c : Nat} (h : PalOK cI cG w q c) (hm : ∀ k, k < w.length → w2[k]? = w[k]?) : PalOK cI cG w2 q c := by
  obtain ⟨cd, tb, kq, kc, kt, fc, ft, e1, e2, e3, e4, e5⟩ := h
  refine ⟨cd, tb, kq, kc, kt, fc, ft, at_mono e1 hm, at_mono e2 hm, at_mono e3 hm, fun i hi => ?_, fun i hi => ?_⟩
  · obtain ⟨r, k, f, a1, a2, a3⟩ := e4 i hi
    exact ⟨r, k, f, a1, at_mono a2 hm, a3⟩
  · obtain ⟨r, k, f, a1, a2, a3⟩ := e5 i hi
    exact ⟨r, k, f, a1, at_mono a2 hm, a3⟩
theorem perm6 (R : va_W) (e0 e1 e2 e3 e4 e5 e6 : Nat × va_E) : (e0 :: ((((((R ++ [e1]) ++ [e2]) ++ [e3]) ++ [e4]) ++ [e5]) ++ [e6])).Perm (e0 :: e1 :: e2 :: e3 :: e4 :: e5 :: e6 :: R) := by
  simp only [List.append_assoc]
  exact List.Perm.cons _ (List.perm_append_comm (l₁ := R) (l₂ := [e1, e2, e3, e4, e5, e6]))
theorem perm7 (R : va_W) (e0 e1 e2 e3 e4 e5 e6 e7 : Nat × va_E) : (e0 :: (((((((R ++ [e1]) ++ [e2]) ++ [e3]) ++ [e4]) ++ [e5]) ++ [e6]) ++ [e7])).Perm (e0 :: e1 :: e2 :: e3 :: e4 :: e5 :: e6 :: e7 :: R) := by
  simp only [List.append_assoc]
  exact List.Perm.cons _ (List.perm_append_comm (l₁ := R) (l₂ := [e1, e2, e3, e4, e5, e6, e7]))
set_option maxHeartbeats 4000000 in
set_option maxRecDepth 100000 in
theorem c_X0_init (l : Launch) (D : va_G) (cI cZ cG cJ : ClassId) (A : Nat → Prop) (w : va_W) (q : Nat) (c : Nat) (kq : Nat) (hc : c = 2 ∨ c = 3) (e0 : w[kq]? = some (q, .inr (0, [.int 0, .int 0, .null, .null]))) (hle : w.length = kq + 1) : Met l yX0_init wsX0_init ({ frames := 3, cells := 246, slots := 7371, locals := 70 }) (va_Pc [.ref (q), .int (nI (c))] (Iv D (TY cI cZ cG cJ) A (w))) (va_Qv (fun (u : va_W) => (∀ k, k < kq → u[k]? = w[k]?) ∧ kq < u.length ∧ PalOK cI cG u q c) (fun u => Wd D A (u)) A) 246 7371 A := by
  refine Met.ofW (cc := cX0_init) (maxL := 2) (ret := none) (by decide) rfl ?_
  intro p e s m args below meth c9 s₁ B hml hv
  obtain ⟨rfl, hP, hD, hB⟩ := hv
  have hK := hB.1
  have hA := hB.2.1
  have hx := B.exec
  have hb := B.bytes
  have hr := B.returns
  have hts := atoms_spec (ws := wsX0_init) B.pre
  have hown : s.vm.findClass RX0 = some m.cls := findClass_of_methodNamed B.named
  have hlocks := B.notSynchronized
  have hS : va_S A s.heap s.heap [] := va_S.rf
  have hinit : meth.name = "<init>" := (name_of_methodNamed B.named B.method).1
  have hinX0 : ∀ w ∈ wsX00, w ∈ wsX0_init := by decide +kernel
  have lk9 := hts (.fieldLink RX0 9 "HiddenCandles$Palette" "colours" "I") (by decide +kernel)
  have lk15 := hts (.fieldLink RX0 15 "HiddenCandles$Palette" "codes" "I") (by decide +kernel)
  have lk20 := hts (.fieldLink RX0 20 "HiddenCandles$Palette" "candles" "[[I") (by decide +kernel)
  have lk23 := hts (.fieldLink RX0 23 "HiddenCandles$Palette" "table" "[[I") (by decide +kernel)
  have hl := lv_entry ([.ref (q), .int (nI (c))]) (n := 2) (Nat.le_of_ble_eq_true rfl)
  rw [lg_entry_eq]
  generalize (lg_sl ([.ref (q), .int (nI (c))]) ++ List.replicate (2 - (lg_sl ([.ref (q), .int (nI (c))])).length) Slot.unset).toArray = ls at hl ⊢
  have hl : lv_has ls 2 [(0, .ref (q)), (1, .int (nI (c)))] := hl
  obtain ⟨H, eH⟩ : ∃ q, q = s.heap := ⟨_, rfl⟩
  obtain ⟨locs, eL⟩ : ∃ q : List Loc, q = [] := ⟨_, rfl⟩
  replace hP : va_P D vwCl (w) H := by rw [eH]; exact hP
  replace hS : va_S A s.heap H locs := by rw [eH, eL]; exact hS
  rw [show W p l e _ s m _ below meth c9 s.heap [] = W p l e _ s m _ below meth c9 H locs from by rw [eH, eL]]
  clear eH eL
  have hq := qq_in hc
  have hqq : qq c * qq c ≤ 6561 := by rcases hc with rfl | rfl <;> decide
  have f1 := e0
  refine lv_aload_n hx hb dX0_init_0 rfl (lv_at hl 0 rfl) ?_
  refine W.objInit hx hb hown (hts (.methodLink RX0 3 objectInit) (by decide +kernel)) (hts (.instanceMethod objectInit) (by decide +kernel)) (hts (.code objectInit ⟨#[0xb1]⟩ 1 none) (by decide +kernel)) rfl (by rw [hml]; exact hl.1) rfl dX0_init_1 (Nat.le_of_ble_eq_true rfl) (Nat.le_of_ble_eq_true rfl) ?_
  refine W.eq (g2 := F0 m 4 ls []) rfl ?_
  refine lv_aload_n hx hb dX0_init_4 rfl (lv_at hl 0 rfl) ?_
  refine lv_iload_n hx hb dX0_init_5 rfl (lv_at hl 1 rfl) ?_
  refine lv_iconst (v := nI (2)) hx hb dX0_init_6 (by decide) ?_
  refine x_ne (tgt := 14) hx hb dX0_init_7 (by decide) (by omega) (by omega) (fun c7 => ?_) (fun c7 => ?_)
  · skip
    refine lv_iconst (v := nI (3)) hx hb dX0_init_14 (by decide) ?_
    refine x_ti (y := nI (c)) (by rw [show c = 3 by omega]) ?_
    refine va_putF (D := D) (ci := 0) (v := .int (nI (c))) (ty := .int) (C := RX0) (T := TX0) (N := 4) hx hb hts hinX0 tyX0 tyX0_ok nmX0 hown hK hP hD hS kq f1 rfl 0 (by decide) lk9 (fun _ h9 => h9) rfl hinit rfl (by decide +kernel) rfl rfl (Nat.le_of_ble_eq_true rfl) dX0_init_15 (fun H locs hP hD hS => ?_)
    replace hP : va_P D vwCl ((w.set kq (q, .inr (0, [.int (nI c), .int 0, .null, .null])))) H := hP
    replace hD : va_D A ((w.set kq (q, .inr (0, [.int (nI c), .int 0, .null, .null])))) := hD
    have f1 : (w.set kq (q, .inr (0, [.int (nI c), .int 0, .null, .null])))[kq]? = some (q, .inr (0, [.int (nI c), .int 0, .null, .null])) := set_self f1
    refine lv_aload_n hx hb dX0_init_18 rfl (lv_at hl 0 rfl) ?_
    refine lv_aload_n hx hb dX0_init_19 rfl (lv_at hl 0 rfl) ?_
    refine va_get (D := D) (ci := 0) (v := .int (nI (c))) (C := RX0) (T := TX0) (N := 4) hx hb hts hinX0 hown hK hP kq f1 rfl 0 (by decide) lk9 (fun _ h9 => h9) rfl dX0_init_20 ?_
    refine lv_aload_n hx hb dX0_init_23 rfl (lv_at hl 0 rfl) ?_
    refine va_get (D := D) (ci := 0) (v := .int (nI (c))) (C := RX0) (T := TX0) (N := 4) hx hb hts hinX0 hown hK hP kq f1 rfl 0 (by decide) lk9 (fun _ h9 => h9) rfl dX0_init_24 ?_
    refine lv_imul hx hb dX0_init_27 ?_
    refine x_ti (pk_mul _ _) ?_
    refine lv_aload_n hx hb dX0_init_28 rfl (lv_at hl 0 rfl) ?_
    refine va_get (D := D) (ci := 0) (v := .int (nI (c))) (C := RX0) (T := TX0) (N := 4) hx hb hts hinX0 hown hK hP kq f1 rfl 0 (by decide) lk9 (fun _ h9 => h9) rfl dX0_init_29 ?_
    refine lv_imul hx hb dX0_init_32 ?_
    refine x_ti (pk_mul _ _) ?_
    refine lv_aload_n hx hb dX0_init_33 rfl (lv_at hl 0 rfl) ?_
    refine va_get (D := D) (ci := 0) (v := .int (nI (c))) (C := RX0) (T := TX0) (N := 4) hx hb hts hinX0 hown hK hP kq f1 rfl 0 (by decide) lk9 (fun _ h9 => h9) rfl dX0_init_34 ?_
    refine lv_imul hx hb dX0_init_37 ?_
    refine x_ti (pk_mul _ _) ?_
    refine x_ti (y := nI (qq c)) (rfl) ?_
    refine va_putF (D := D) (ci := 0) (v := .int (nI (qq c))) (ty := .int) (C := RX0) (T := TX0) (N := 4) hx hb hts hinX0 tyX0 tyX0_ok nmX0 hown hK hP hD hS kq f1 rfl 1 (by decide) lk15 (fun _ h9 => h9) rfl hinit rfl (by decide +kernel) rfl rfl (Nat.le_of_ble_eq_true rfl) dX0_init_38 (fun H locs hP hD hS => ?_)
    replace hP : va_P D vwCl (((w.set kq (q, .inr (0, [.int (nI c), .int 0, .null, .null]))).set kq (q, .inr (0, [.int (nI c), .int (nI (qq c)), .null, .null])))) H := hP
    replace hD : va_D A (((w.set kq (q, .inr (0, [.int (nI c), .int 0, .null, .null]))).set kq (q, .inr (0, [.int (nI c), .int (nI (qq c)), .null, .null])))) := hD
    have f1 : ((w.set kq (q, .inr (0, [.int (nI c), .int 0, .null, .null]))).set kq (q, .inr (0, [.int (nI c), .int (nI (qq c)), .null, .null])))[kq]? = some (q, .inr (0, [.int (nI c), .int (nI (qq c)), .null, .null])) := set_self f1
    have hA1 : ((w.set kq (q, .inr (0, [.int (nI c), .int 0, .null, .null]))).set kq (q, .inr (0, [.int (nI c), .int (nI (qq c)), .null, .null]))).length = kq + 1 := by rw [List.length_set, List.length_set]; exact hle
    have hA2 : ∀ k, k < kq → ((w.set kq (q, .inr (0, [.int (nI c), .int 0, .null, .null]))).set kq (q, .inr (0, [.int (nI c), .int (nI (qq c)), .null, .null])))[k]? = w[k]? := fun k hk => by rw [List.getElem?_set_ne (by omega), List.getElem?_set_ne (by omega)]
    obtain ⟨wA, hwA⟩ : ∃ x : va_W, x = ((w.set kq (q, .inr (0, [.int (nI c), .int 0, .null, .null]))).set kq (q, .inr (0, [.int (nI c), .int (nI (qq c)), .null, .null]))) := ⟨_, rfl⟩
    rw [← hwA] at hP hD f1 hA1 hA2
    refine lv_aload_n hx hb dX0_init_41 rfl (lv_at hl 0 rfl) ?_
    refine lv_aload_n hx hb dX0_init_42 rfl (lv_at hl 0 rfl) ?_
    refine va_get (D := D) (ci := 0) (v := .int (nI (qq c))) (C := RX0) (T := TX0) (N := 4) hx hb hts hinX0 hown hK hP kq f1 rfl 1 (by decide) lk15 (fun _ h9 => h9) rfl dX0_init_43 ?_
    refine lv_iconst (v := nI (4)) hx hb dX0_init_46 (by decide) ?_
    refine x_mna hx hb hown (hts _ (by decide +kernel)) (hts _ (by decide +kernel)) hB hP hD hS (n := qq c) (k := 4) (by omega) (by omega) (by show _ ≤ 246; omega) (by show _ ≤ 7371; omega) dX0_init_47 (fun cd rc w1 H2 hw1 hw2 hw3 hw4 hP2 hD2 hS2 => ?_)
    clear hP hD hS
    generalize H2 = H at hP2 hS2 ⊢
    have hP := hP2; have hD := hD2; have hS := hS2
    clear hP2 hD2 hS2
    have f1 := (hw2 kq (by omega)).trans f1
    have g1 := hw1; have g2 := hw2; have g3 := hw3; have g4 := hw4
    rw [hA1] at g1 g3 g4
    refine va_putF (D := D) (ci := 0) (v := .ref (cd)) (ty := (.array (.array .int))) (C := RX0) (T := TX0) (N := 4) hx hb hts hinX0 tyX0 tyX0_ok nmX0 hown hK hP hD hS kq f1 rfl 2 (by decide) lk20 (fun _ h9 => h9) rfl hinit rfl (by decide +kernel) rfl rfl (Nat.le_of_ble_eq_true rfl) dX0_init_51 (fun H locs hP hD hS => ?_)
    replace hP : va_P D vwCl ((w1.set kq (q, .inr (0, [.int (nI c), .int (nI (qq c)), .ref cd, .null])))) H := hP
    replace hD : va_D A ((w1.set kq (q, .inr (0, [.int (nI c), .int (nI (qq c)), .ref cd, .null])))) := hD
    have s1 : Same w1 (w1.set kq (q, .inr (0, [.int (nI c), .int (nI (qq c)), .ref cd, .null]))) kq (kq + 1) := Same.put Same.rf (Nat.le_refl _) (Nat.lt_succ_self _)
    have f1 : (w1.set kq (q, .inr (0, [.int (nI c), .int (nI (qq c)), .ref cd, .null])))[kq]? = some (q, .inr (0, [.int (nI c), .int (nI (qq c)), .ref cd, .null])) := set_self f1
    have f2 := (s1.2 (kq + 1) (by omega)).trans g3
    have g5 := RowsAt.keep g4 s1 (by omega)
    have g6 := s1.1.trans g1
    have g7 : ∀ k, k < kq → (w1.set kq (q, .inr (0, [.int (nI c), .int (nI (qq c)), .ref cd, .null])))[k]? = w[k]? := fun k hk => (s1.2 k (by omega)).trans ((g2 k (by omega)).trans (hA2 k hk))
    obtain ⟨wB, hwB⟩ : ∃ x : va_W, x = (w1.set kq (q, .inr (0, [.int (nI c), .int (nI (qq c)), .ref cd, .null]))) := ⟨_, rfl⟩
    rw [← hwB] at hP hD f1 f2 g5 g6 g7
    refine lv_aload_n hx hb dX0_init_54 rfl (lv_at hl 0 rfl) ?_
    refine lv_aload_n hx hb dX0_init_55 rfl (lv_at hl 0 rfl) ?_
    refine va_get (D := D) (ci := 0) (v := .int (nI (qq c))) (C := RX0) (T := TX0) (N := 4) hx hb hts hinX0 hown hK hP kq f1 rfl 1 (by decide) lk15 (fun _ h9 => h9) rfl dX0_init_56 ?_
    refine lv_aload_n hx hb dX0_init_59 rfl (lv_at hl 0 rfl) ?_
    refine va_get (D := D) (ci := 0) (v := .int (nI (qq c))) (C := RX0) (T := TX0) (N := 4) hx hb hts hinX0 hown hK hP kq f1 rfl 1 (by decide) lk15 (fun _ h9 => h9) rfl dX0_init_60 ?_
    refine x_mna hx hb hown (hts _ (by decide +kernel)) (hts _ (by decide +kernel)) hB hP hD hS (n := qq c) (k := qq c) (by omega) (by omega) (by show _ ≤ 246; omega) (by show _ ≤ 7371; omega) dX0_init_63 (fun tb rt w2 H2 hw1 hw2 hw3 hw4 hP2 hD2 hS2 => ?_)
    clear hP hD hS
    generalize H2 = H at hP2 hS2 ⊢
    have hP := hP2; have hD := hD2; have hS := hS2
    clear hP2 hD2 hS2
    have f1 := (hw2 kq (by omega)).trans f1; have f2 := (hw2 (kq + 1) (by omega)).trans f2
    have g8 : RowsAt w2 cI (kq + 1 + 1) (qq c) 4 rc (fun _ _ => 0) := fun z hz => (hw2 _ (by omega)).trans (g5 z hz)
    have g9 : ∀ k, k < kq → w2[k]? = w[k]? := fun k hk => (hw2 k (by omega)).trans (g7 k hk)
    rw [g6] at hw1 hw3 hw4
    refine va_putF (D := D) (ci := 0) (v := .ref (tb)) (ty := (.array (.array .int))) (C := RX0) (T := TX0) (N := 4) hx hb hts hinX0 tyX0 tyX0_ok nmX0 hown hK hP hD hS kq f1 rfl 3 (by decide) lk23 (fun _ h9 => h9) rfl hinit rfl (by decide +kernel) rfl rfl (Nat.le_of_ble_eq_true rfl) dX0_init_67 (fun H locs hP hD hS => ?_)
    replace hP : va_P D vwCl ((w2.set kq (q, .inr (0, [.int (nI c), .int (nI (qq c)), .ref cd, .ref tb])))) H := hP
    replace hD : va_D A ((w2.set kq (q, .inr (0, [.int (nI c), .int (nI (qq c)), .ref cd, .ref tb])))) := hD
    have s2 : Same w2 (w2.set kq (q, .inr (0, [.int (nI c), .int (nI (qq c)), .ref cd, .ref tb]))) kq (kq + 1) := Same.put Same.rf (Nat.le_refl _) (Nat.lt_succ_self _)
    have f1 : (w2.set kq (q, .inr (0, [.int (nI c), .int (nI (qq c)), .ref cd, .ref tb])))[kq]? = some (q, .inr (0, [.int (nI c), .int (nI (qq c)), .ref cd, .ref tb])) := set_self f1
    have f2 := (s2.2 (kq + 1) (by omega)).trans f2
    have f3 := (s2.2 (kq + 1 + 1 + qq c) (by omega)).trans hw3
    have g8 := RowsAt.keep g8 s2 (by omega)
    have t4 := RowsAt.keep hw4 s2 (by omega)
    have t1 := s2.1.trans hw1
    have g9 : ∀ k, k < kq → (w2.set kq (q, .inr (0, [.int (nI c), .int (nI (qq c)), .ref cd, .ref tb])))[k]? = w[k]? := fun k hk => (s2.2 k (by omega)).trans (g9 k hk)
    obtain ⟨wC, hwC⟩ : ∃ x : va_W, x = (w2.set kq (q, .inr (0, [.int (nI c), .int (nI (qq c)), .ref cd, .ref tb]))) := ⟨_, rfl⟩
    rw [← hwC] at hP hD f1 f2 f3 g8 t4 t1 g9
    refine lv_aload_n hx hb dX0_init_70 rfl (lv_at hl 0 rfl) ?_
    refine va_callv (va_runV (As := []) (rest := []) ⟨hx, hb, hml, hown, hts⟩ (c_X0_lightCandles l D cI cZ cG cJ A wC q c cd tb kq (kq + 1) (kq + 1 + 1) rc (fun _ _ => 0) (hc) (f1) (f2) (g8) (by omega) (by omega)) (cwV 0 hts gX0_init_X0_lightCandles rfl rfl rfl (by decide +kernel) ⟨Nat.le_of_ble_eq_true rfl, Nat.le_of_ble_eq_true rfl⟩) (preV (ci := 0) (q0 := kq) hB hS hP hD f1 rfl) rfl rfl hl.1 rfl (lv_room (Nat.le_of_ble_eq_true rfl)) dX0_init_71 ⟨by show _ ≤ 246; omega, by show _ ≤ 7371; omega⟩) hS (fun q _ h => h) (fun q h => h) (fun u_71 t9 H1 locs1 ht9 hvm9 hw_71 hBw hz9 hk9 hS => ?_)
    obtain ⟨hP, hD⟩ := hBw
    rw [ht9] at hP
    generalize H1 = H at hP hS ⊢
    generalize locs1 = locs at hS ⊢
    replace hP : va_P D vwCl (u_71) H := hP
    replace hD : va_D A (u_71) := hD
    obtain ⟨m1, M, m2, m3⟩ := hw_71
    have f1 := (m1.2 kq (by omega)).trans f1; have f2 := (m1.2 (kq + 1) (by omega)).trans f2; have f3 := (m1.2 (kq + 1 + 1 + qq c) (by omega)).trans f3
    have t4 := RowsAt.keep t4 m1 (by omega)
    have t1 := m1.1.trans t1
    have g9 : ∀ k, k < kq → u_71[k]? = w[k]? := fun k hk => (m1.2 k (by omega)).trans (g9 k hk)
    refine lv_aload_n hx hb dX0_init_74 rfl (lv_at hl 0 rfl) ?_
    refine lv_aload_n hx hb dX0_init_75 rfl (lv_at hl 0 rfl) ?_
    refine va_callr (va_runV (As := []) (rest := [.ref (q)]) ⟨hx, hb, hml, hown, hts⟩ (c_X0_tallies l D cI cZ cG cJ A u_71 q c cd tb kq (kq + 1) (kq + 1 + 1) rc M (hc) (f1) (f2) (m2) (m3)) (cwV 0 hts gX0_init_X0_tallies rfl rfl rfl (by decide +kernel) ⟨Nat.le_of_ble_eq_true rfl, Nat.le_of_ble_eq_true rfl⟩) (preV (ci := 0) (q0 := kq) hB hS hP hD f1 rfl) rfl rfl hl.1 rfl (lv_room (Nat.le_of_ble_eq_true rfl)) dX0_init_76 ⟨by show _ ≤ 246; omega, by show _ ≤ 7371; omega⟩) hS (fun q _ h => h) (fun q h => h) (fun u_76 a9 t9 H1 locs1 ht9 hvm9 hw_76 hBw hz9 hk9 hS => ?_)
    obtain ⟨rfl, hP, hD⟩ := hBw
    rw [ht9] at hP
    generalize H1 = H at hP hS ⊢
    generalize locs1 = locs at hS ⊢
    replace hP : va_P D vwCl (u_76.1) H := hP
    replace hD : va_D A (u_76.1) := hD
    obtain ⟨n1, n2, rl, T, n3, n4, n5⟩ := hw_76
    rw [t1] at n1 n2 n3 n4
    have f1 := (n2 kq (by omega)).trans f1; have f2 := (n2 (kq + 1) (by omega)).trans f2; have f3 := (n2 (kq + 1 + 1 + qq c) (by omega)).trans f3
    have m2 : RowsAt u_76.1 cI (kq + 1 + 1) (qq c) 4 rc M := fun z hz => (n2 _ (by omega)).trans (m2 z hz)
    have t4 : RowsAt u_76.1 cI (kq + 1 + 1 + qq c + 1) (qq c) (qq c) rt (fun _ _ => 0) := fun z hz => (n2 _ (by omega)).trans (t4 z hz)
    have g9 : ∀ k, k < kq → u_76.1[k]? = w[k]? := fun k hk => (n2 k (by omega)).trans (g9 k hk)
    refine va_callv (va_runV (As := [.ref (u_76.2)]) (rest := []) ⟨hx, hb, hml, hown, hts⟩ (c_X0_fillTable l D cI cZ cG cJ A u_76.1 q c cd tb kq (kq + 1) (kq + 1 + 1) rc M (kq + 1 + 1 + qq c) (kq + 1 + 1 + qq c + 1) rt (fun _ _ => 0) u_76.2 (kq + 1 + 1 + qq c + 1 + qq c) (kq + 1 + 1 + qq c + 1 + qq c + 1) rl T (hc) (f1) (f2) (f3) (n3) (m2) (m3) (t4) (n4) (n5) (⟨by omega, by omega, by omega, by omega, by omega, by omega⟩)) (cwV 1 hts gX0_init_X0_fillTable rfl rfl rfl (by decide +kernel) ⟨Nat.le_of_ble_eq_true rfl, Nat.le_of_ble_eq_true rfl⟩) (preV (ci := 0) (q0 := kq) hB hS hP hD f1 rfl) rfl rfl hl.1 rfl (lv_room (Nat.le_of_ble_eq_true rfl)) dX0_init_79 ⟨by show _ ≤ 246; omega, by show _ ≤ 7371; omega⟩) hS (fun q _ h => h) (fun q h => h) (fun u_79 t9 H1 locs1 ht9 hvm9 hw_79 hBw hz9 hk9 hS => ?_)
    obtain ⟨hP, hD⟩ := hBw
    rw [ht9] at hP
    generalize H1 = H at hP hS ⊢
    generalize locs1 = locs at hS ⊢
    replace hP : va_P D vwCl (u_79) H := hP
    replace hD : va_D A (u_79) := hD
    obtain ⟨y1, P, y2, y3⟩ := hw_79
    have f1 := (y1.2 kq (by omega)).trans f1; have f2 := (y1.2 (kq + 1) (by omega)).trans f2; have f3 := (y1.2 (kq + 1 + 1 + qq c) (by omega)).trans f3
    have m2 := RowsAt.keep m2 y1 (by omega)
    refine W.widen (k := 246) (n := 7371) (by omega) (by omega) ?_
    exact W.vret hx hb hr (fun t ht hW => ⟨⟨u_79, rfl, (by
        refine ⟨fun k hk => (y1.2 k (by omega)).trans (g9 k hk), by rw [y1.1, n1]; omega, cd, tb, kq, kq + 1, kq + 1 + 1 + qq c, _, _, f1, f2, f3, fun i hi => ⟨rc i, kq + 1 + 1 + i, _, if_pos hi, m2 i hi, fun j hj => ?_⟩, fun i hi => ⟨rt i, kq + 1 + 1 + qq c + 1 + i, _, if_pos hi, y2 i hi, fun j hj => ?_⟩⟩
        · show nI _ = nI _; rw [m3 i hi j hj]
        · show nI _ = nI _; rw [y3 i hi j hj]), ⟨by rw [ht]; exact hP, hD⟩⟩, hS.F ht⟩) hS.2.2 dX0_init_82
  · skip
    refine lv_iconst (v := nI (2)) hx hb dX0_init_10 (by decide) ?_
    refine x_ti (y := nI (c)) (by rw [c7]) ?_
    refine lv_goto (tgt := 15) hx hb dX0_init_11 (by decide) ?_
    refine va_putF (D := D) (ci := 0) (v := .int (nI (c))) (ty := .int) (C := RX0) (T := TX0) (N := 4) hx hb hts hinX0 tyX0 tyX0_ok nmX0 hown hK hP hD hS kq f1 rfl 0 (by decide) lk9 (fun _ h9 => h9) rfl hinit rfl (by decide +kernel) rfl rfl (Nat.le_of_ble_eq_true rfl) dX0_init_15 (fun H locs hP hD hS => ?_)
    replace hP : va_P D vwCl ((w.set kq (q, .inr (0, [.int (nI c), .int 0, .null, .null])))) H := hP
    replace hD : va_D A ((w.set kq (q, .inr (0, [.int (nI c), .int 0, .null, .null])))) := hD
    have f1 : (w.set kq (q, .inr (0, [.int (nI c), .int 0, .null, .null])))[kq]? = some (q, .inr (0, [.int (nI c), .int 0, .null, .null])) := set_self f1
    refine lv_aload_n hx hb dX0_init_18 rfl (lv_at hl 0 rfl) ?_
    refine lv_aload_n hx hb dX0_init_19 rfl (lv_at hl 0 rfl) ?_
    refine va_get (D := D) (ci := 0) (v := .int (nI (c))) (C := RX0) (T := TX0) (N := 4) hx hb hts hinX0 hown hK hP kq f1 rfl 0 (by decide) lk9 (fun _ h9 => h9) rfl dX0_init_20 ?_
    refine lv_aload_n hx hb dX0_init_23 rfl (lv_at hl 0 rfl) ?_
    refine va_get (D := D) (ci := 0) (v := .int (nI (c))) (C := RX0) (T := TX0) (N := 4) hx hb hts hinX0 hown hK hP kq f1 rfl 0 (by decide) lk9 (fun _ h9 => h9) rfl dX0_init_24 ?_
    refine lv_imul hx hb dX0_init_27 ?_
    refine x_ti (pk_mul _ _) ?_
    refine lv_aload_n hx hb dX0_init_28 rfl (lv_at hl 0 rfl) ?_
    refine va_get (D := D) (ci := 0) (v := .int (nI (c))) (C := RX0) (T := TX0) (N := 4) hx hb hts hinX0 hown hK hP kq f1 rfl 0 (by decide) lk9 (fun _ h9 => h9) rfl dX0_init_29 ?_
    refine lv_imul hx hb dX0_init_32 ?_
    refine x_ti (pk_mul _ _) ?_
    refine lv_aload_n hx hb dX0_init_33 rfl (lv_at hl 0 rfl) ?_
    refine va_get (D := D) (ci := 0) (v := .int (nI (c))) (C := RX0) (T := TX0) (N := 4) hx hb hts hinX0 hown hK hP kq f1 rfl 0 (by decide) lk9 (fun _ h9 => h9) rfl dX0_init_34 ?_
    refine lv_imul hx hb dX0_init_37 ?_
    refine x_ti (pk_mul _ _) ?_
    refine x_ti (y := nI (qq c)) (rfl) ?_
    refine va_putF (D := D) (ci := 0) (v := .int (nI (qq c))) (ty := .int) (C := RX0) (T := TX0) (N := 4) hx hb hts hinX0 tyX0 tyX0_ok nmX0 hown hK hP hD hS kq f1 rfl 1 (by decide) lk15 (fun _ h9 => h9) rfl hinit rfl (by decide +kernel) rfl rfl (Nat.le_of_ble_eq_true rfl) dX0_init_38 (fun H locs hP hD hS => ?_)
    replace hP : va_P D vwCl (((w.set kq (q, .inr (0, [.int (nI c), .int 0, .null, .null]))).set kq (q, .inr (0, [.int (nI c), .int (nI (qq c)), .null, .null])))) H := hP
    replace hD : va_D A (((w.set kq (q, .inr (0, [.int (nI c), .int 0, .null, .null]))).set kq (q, .inr (0, [.int (nI c), .int (nI (qq c)), .null, .null])))) := hD
    have f1 : ((w.set kq (q, .inr (0, [.int (nI c), .int 0, .null, .null]))).set kq (q, .inr (0, [.int (nI c), .int (nI (qq c)), .null, .null])))[kq]? = some (q, .inr (0, [.int (nI c), .int (nI (qq c)), .null, .null])) := set_self f1
    have hA1 : ((w.set kq (q, .inr (0, [.int (nI c), .int 0, .null, .null]))).set kq (q, .inr (0, [.int (nI c), .int (nI (qq c)), .null, .null]))).length = kq + 1 := by rw [List.length_set, List.length_set]; exact hle
    have hA2 : ∀ k, k < kq → ((w.set kq (q, .inr (0, [.int (nI c), .int 0, .null, .null]))).set kq (q, .inr (0, [.int (nI c), .int (nI (qq c)), .null, .null])))[k]? = w[k]? := fun k hk => by rw [List.getElem?_set_ne (by omega), List.getElem?_set_ne (by omega)]
    obtain ⟨wA, hwA⟩ : ∃ x : va_W, x = ((w.set kq (q, .inr (0, [.int (nI c), .int 0, .null, .null]))).set kq (q, .inr (0, [.int (nI c), .int (nI (qq c)), .null, .null]))) := ⟨_, rfl⟩
    rw [← hwA] at hP hD f1 hA1 hA2
    refine lv_aload_n hx hb dX0_init_41 rfl (lv_at hl 0 rfl) ?_
    refine lv_aload_n hx hb dX0_init_42 rfl (lv_at hl 0 rfl) ?_
    refine va_get (D := D) (ci := 0) (v := .int (nI (qq c))) (C := RX0) (T := TX0) (N := 4) hx hb hts hinX0 hown hK hP kq f1 rfl 1 (by decide) lk15 (fun _ h9 => h9) rfl dX0_init_43 ?_
    refine lv_iconst (v := nI (4)) hx hb dX0_init_46 (by decide) ?_
    refine x_mna hx hb hown (hts _ (by decide +kernel)) (hts _ (by decide +kernel)) hB hP hD hS (n := qq c) (k := 4) (by omega) (by omega) (by show _ ≤ 246; omega) (by show _ ≤ 7371; omega) dX0_init_47 (fun cd rc w1 H2 hw1 hw2 hw3 hw4 hP2 hD2 hS2 => ?_)
    clear hP hD hS
    generalize H2 = H at hP2 hS2 ⊢
    have hP := hP2; have hD := hD2; have hS := hS2
    clear hP2 hD2 hS2
    have f1 := (hw2 kq (by omega)).trans f1
    have g1 := hw1; have g2 := hw2; have g3 := hw3; have g4 := hw4
    rw [hA1] at g1 g3 g4
    refine va_putF (D := D) (ci := 0) (v := .ref (cd)) (ty := (.array (.array .int))) (C := RX0) (T := TX0) (N := 4) hx hb hts hinX0 tyX0 tyX0_ok nmX0 hown hK hP hD hS kq f1 rfl 2 (by decide) lk20 (fun _ h9 => h9) rfl hinit rfl (by decide +kernel) rfl rfl (Nat.le_of_ble_eq_true rfl) dX0_init_51 (fun H locs hP hD hS => ?_)
    replace hP : va_P D vwCl ((w1.set kq (q, .inr (0, [.int (nI c), .int (nI (qq c)), .ref cd, .null])))) H := hP
    replace hD : va_D A ((w1.set kq (q, .inr (0, [.int (nI c), .int (nI (qq c)), .ref cd, .null])))) := hD
    have s1 : Same w1 (w1.set kq (q, .inr (0, [.int (nI c), .int (nI (qq c)), .ref cd, .null]))) kq (kq + 1) := Same.put Same.rf (Nat.le_refl _) (Nat.lt_succ_self _)
    have f1 : (w1.set kq (q, .inr (0, [.int (nI c), .int (nI (qq c)), .ref cd, .null])))[kq]? = some (q, .inr (0, [.int (nI c), .int (nI (qq c)), .ref cd, .null])) := set_self f1
    have f2 := (s1.2 (kq + 1) (by omega)).trans g3
    have g5 := RowsAt.keep g4 s1 (by omega)
    have g6 := s1.1.trans g1
    have g7 : ∀ k, k < kq → (w1.set kq (q, .inr (0, [.int (nI c), .int (nI (qq c)), .ref cd, .null])))[k]? = w[k]? := fun k hk => (s1.2 k (by omega)).trans ((g2 k (by omega)).trans (hA2 k hk))
    obtain ⟨wB, hwB⟩ : ∃ x : va_W, x = (w1.set kq (q, .inr (0, [.int (nI c), .int (nI (qq c)), .ref cd, .null]))) := ⟨_, rfl⟩
    rw [← hwB] at hP hD f1 f2 g5 g6 g7
    refine lv_aload_n hx hb dX0_init_54 rfl (lv_at hl 0 rfl) ?_
    refine lv_aload_n hx hb dX0_init_55 rfl (lv_at hl 0 rfl) ?_
    refine va_get (D := D) (ci := 0) (v := .int (nI (qq c))) (C := RX0) (T := TX0) (N := 4) hx hb hts hinX0 hown hK hP kq f1 rfl 1 (by decide) lk15 (fun _ h9 => h9) rfl dX0_init_56 ?_
    refine lv_aload_n hx hb dX0_init_59 rfl (lv_at hl 0 rfl) ?_
    refine va_get (D := D) (ci := 0) (v := .int (nI (qq c))) (C := RX0) (T := TX0) (N := 4) hx hb hts hinX0 hown hK hP kq f1 rfl 1 (by decide) lk15 (fun _ h9 => h9) rfl dX0_init_60 ?_
    refine x_mna hx hb hown (hts _ (by decide +kernel)) (hts _ (by decide +kernel)) hB hP hD hS (n := qq c) (k := qq c) (by omega) (by omega) (by show _ ≤ 246; omega) (by show _ ≤ 7371; omega) dX0_init_63 (fun tb rt w2 H2 hw1 hw2 hw3 hw4 hP2 hD2 hS2 => ?_)
    clear hP hD hS
    generalize H2 = H at hP2 hS2 ⊢
    have hP := hP2; have hD := hD2; have hS := hS2
    clear hP2 hD2 hS2
    have f1 := (hw2 kq (by omega)).trans f1; have f2 := (hw2 (kq + 1) (by omega)).trans f2
    have g8 : RowsAt w2 cI (kq + 1 + 1) (qq c) 4 rc (fun _ _ => 0) := fun z hz => (hw2 _ (by omega)).trans (g5 z hz)
    have g9 : ∀ k, k < kq → w2[k]? = w[k]? := fun k hk => (hw2 k (by omega)).trans (g7 k hk)
    rw [g6] at hw1 hw3 hw4
    refine va_putF (D := D) (ci := 0) (v := .ref (tb)) (ty := (.array (.array .int))) (C := RX0) (T := TX0) (N := 4) hx hb hts hinX0 tyX0 tyX0_ok nmX0 hown hK hP hD hS kq f1 rfl 3 (by decide) lk23 (fun _ h9 => h9) rfl hinit rfl (by decide +kernel) rfl rfl (Nat.le_of_ble_eq_true rfl) dX0_init_67 (fun H locs hP hD hS => ?_)
    replace hP : va_P D vwCl ((w2.set kq (q, .inr (0, [.int (nI c), .int (nI (qq c)), .ref cd, .ref tb])))) H := hP
    replace hD : va_D A ((w2.set kq (q, .inr (0, [.int (nI c), .int (nI (qq c)), .ref cd, .ref tb])))) := hD
    have s2 : Same w2 (w2.set kq (q, .inr (0, [.int (nI c), .int (nI (qq c)), .ref cd, .ref tb]))) kq (kq + 1) := Same.put Same.rf (Nat.le_refl _) (Nat.lt_succ_self _)
    have f1 : (w2.set kq (q, .inr (0, [.int (nI c), .int (nI (qq c)), .ref cd, .ref tb])))[kq]? = some (q, .inr (0, [.int (nI c), .int (nI (qq c)), .ref cd, .ref tb])) := set_self f1
    have f2 := (s2.2 (kq + 1) (by omega)).trans f2
    have f3 := (s2.2 (kq + 1 + 1 + qq c) (by omega)).trans hw3
    have g8 := RowsAt.keep g8 s2 (by omega)
    have t4 := RowsAt.keep hw4 s2 (by omega)
    have t1 := s2.1.trans hw1
    have g9 : ∀ k, k < kq → (w2.set kq (q, .inr (0, [.int (nI c), .int (nI (qq c)), .ref cd, .ref tb])))[k]? = w[k]? := fun k hk => (s2.2 k (by omega)).trans (g9 k hk)
    obtain ⟨wC, hwC⟩ : ∃ x : va_W, x = (w2.set kq (q, .inr (0, [.int (nI c), .int (nI (qq c)), .ref cd, .ref tb]))) := ⟨_, rfl⟩
    rw [← hwC] at hP hD f1 f2 f3 g8 t4 t1 g9
    refine lv_aload_n hx hb dX0_init_70 rfl (lv_at hl 0 rfl) ?_
    refine va_callv (va_runV (As := []) (rest := []) ⟨hx, hb, hml, hown, hts⟩ (c_X0_lightCandles l D cI cZ cG cJ A wC q c cd tb kq (kq + 1) (kq + 1 + 1) rc (fun _ _ => 0) (hc) (f1) (f2) (g8) (by omega) (by omega)) (cwV 0 hts gX0_init_X0_lightCandles rfl rfl rfl (by decide +kernel) ⟨Nat.le_of_ble_eq_true rfl, Nat.le_of_ble_eq_true rfl⟩) (preV (ci := 0) (q0 := kq) hB hS hP hD f1 rfl) rfl rfl hl.1 rfl (lv_room (Nat.le_of_ble_eq_true rfl)) dX0_init_71 ⟨by show _ ≤ 246; omega, by show _ ≤ 7371; omega⟩) hS (fun q _ h => h) (fun q h => h) (fun u_71 t9 H1 locs1 ht9 hvm9 hw_71 hBw hz9 hk9 hS => ?_)
    obtain ⟨hP, hD⟩ := hBw
    rw [ht9] at hP
    generalize H1 = H at hP hS ⊢
    generalize locs1 = locs at hS ⊢
    replace hP : va_P D vwCl (u_71) H := hP
    replace hD : va_D A (u_71) := hD
    obtain ⟨m1, M, m2, m3⟩ := hw_71
    have f1 := (m1.2 kq (by omega)).trans f1; have f2 := (m1.2 (kq + 1) (by omega)).trans f2; have f3 := (m1.2 (kq + 1 + 1 + qq c) (by omega)).trans f3
    have t4 := RowsAt.keep t4 m1 (by omega)
    have t1 := m1.1.trans t1
    have g9 : ∀ k, k < kq → u_71[k]? = w[k]? := fun k hk => (m1.2 k (by omega)).trans (g9 k hk)
    refine lv_aload_n hx hb dX0_init_74 rfl (lv_at hl 0 rfl) ?_
    refine lv_aload_n hx hb dX0_init_75 rfl (lv_at hl 0 rfl) ?_
    refine va_callr (va_runV (As := []) (rest := [.ref (q)]) ⟨hx, hb, hml, hown, hts⟩ (c_X0_tallies l D cI cZ cG cJ A u_71 q c cd tb kq (kq + 1) (kq + 1 + 1) rc M (hc) (f1) (f2) (m2) (m3)) (cwV 0 hts gX0_init_X0_tallies rfl rfl rfl (by decide +kernel) ⟨Nat.le_of_ble_eq_true rfl, Nat.le_of_ble_eq_true rfl⟩) (preV (ci := 0) (q0 := kq) hB hS hP hD f1 rfl) rfl rfl hl.1 rfl (lv_room (Nat.le_of_ble_eq_true rfl)) dX0_init_76 ⟨by show _ ≤ 246; omega, by show _ ≤ 7371; omega⟩) hS (fun q _ h => h) (fun q h => h) (fun u_76 a9 t9 H1 locs1 ht9 hvm9 hw_76 hBw hz9 hk9 hS => ?_)
    obtain ⟨rfl, hP, hD⟩ := hBw
    rw [ht9] at hP
    generalize H1 = H at hP hS ⊢
    generalize locs1 = locs at hS ⊢
    replace hP : va_P D vwCl (u_76.1) H := hP
    replace hD : va_D A (u_76.1) := hD
    obtain ⟨n1, n2, rl, T, n3, n4, n5⟩ := hw_76
    rw [t1] at n1 n2 n3 n4
    have f1 := (n2 kq (by omega)).trans f1; have f2 := (n2 (kq + 1) (by omega)).trans f2; have f3 := (n2 (kq + 1 + 1 + qq c) (by omega)).trans f3
    have m2 : RowsAt u_76.1 cI (kq + 1 + 1) (qq c) 4 rc M := fun z hz => (n2 _ (by omega)).trans (m2 z hz)
    have t4 : RowsAt u_76.1 cI (kq + 1 + 1 + qq c + 1) (qq c) (qq c) rt (fun _ _ => 0) := fun z hz => (n2 _ (by omega)).trans (t4 z hz)
    have g9 : ∀ k, k < kq → u_76.1[k]? = w[k]? := fun k hk => (n2 k (by omega)).trans (g9 k hk)
    refine va_callv (va_runV (As := [.ref (u_76.2)]) (rest := []) ⟨hx, hb, hml, hown, hts⟩ (c_X0_fillTable l D cI cZ cG cJ A u_76.1 q c cd tb kq (kq + 1) (kq + 1 + 1) rc M (kq + 1 + 1 + qq c) (kq + 1 + 1 + qq c + 1) rt (fun _ _ => 0) u_76.2 (kq + 1 + 1 + qq c + 1 + qq c) (kq + 1 + 1 + qq c + 1 + qq c + 1) rl T (hc) (f1) (f2) (f3) (n3) (m2) (m3) (t4) (n4) (n5) (⟨by omega, by omega, by omega, by omega, by omega, by omega⟩)) (cwV 1 hts gX0_init_X0_fillTable rfl rfl rfl (by decide +kernel) ⟨Nat.le_of_ble_eq_true rfl, Nat.le_of_ble_eq_true rfl⟩) (preV (ci := 0) (q0 := kq) hB hS hP hD f1 rfl) rfl rfl hl.1 rfl (lv_room (Nat.le_of_ble_eq_true rfl)) dX0_init_79 ⟨by show _ ≤ 246; omega, by show _ ≤ 7371; omega⟩) hS (fun q _ h => h) (fun q h => h) (fun u_79 t9 H1 locs1 ht9 hvm9 hw_79 hBw hz9 hk9 hS => ?_)
    obtain ⟨hP, hD⟩ := hBw
    rw [ht9] at hP
    generalize H1 = H at hP hS ⊢
    generalize locs1 = locs at hS ⊢
    replace hP : va_P D vwCl (u_79) H := hP
    replace hD : va_D A (u_79) := hD
    obtain ⟨y1, P, y2, y3⟩ := hw_79
    have f1 := (y1.2 kq (by omega)).trans f1; have f2 := (y1.2 (kq + 1) (by omega)).trans f2; have f3 := (y1.2 (kq + 1 + 1 + qq c) (by omega)).trans f3
    have m2 := RowsAt.keep m2 y1 (by omega)
    refine W.widen (k := 246) (n := 7371) (by omega) (by omega) ?_
    exact W.vret hx hb hr (fun t ht hW => ⟨⟨u_79, rfl, (by
        refine ⟨fun k hk => (y1.2 k (by omega)).trans (g9 k hk), by rw [y1.1, n1]; omega, cd, tb, kq, kq + 1, kq + 1 + 1 + qq c, _, _, f1, f2, f3, fun i hi => ⟨rc i, kq + 1 + 1 + i, _, if_pos hi, m2 i hi, fun j hj => ?_⟩, fun i hi => ⟨rt i, kq + 1 + 1 + qq c + 1 + i, _, if_pos hi, y2 i hi, fun j hj => ?_⟩⟩
        · show nI _ = nI _; rw [m3 i hi j hj]
        · show nI _ = nI _; rw [y3 i hi j hj]), ⟨by rw [ht]; exact hP, hD⟩⟩, hS.F ht⟩) hS.2.2 dX0_init_82

set_option maxHeartbeats 4000000 in
set_option maxRecDepth 100000 in
theorem c_X1_init (l : Launch) (D : va_G) (cI cZ cG cJ : ClassId) (A : Nat → Prop) (x : Nat)  : Met l yX1_init wsX1_init ({ frames := 4, cells := 500, slots := 14969, locals := 91 }) (va_Pc [.ref (x)] (Iv D (TY cI cZ cG cJ) A (((x, .inr (1, [.null, .null, .null, .int 0, .int 0, .null, .null, .null, .null, .null, .null])) :: [])))) (va_Qv (fun (u : (Nat → Nat) × (Nat → Bool) × va_W) => u.1 0 = x ∧ Pals cI cG u.1 u.2.2 ∧ ∀ k, k < 81 → u.2.1 k = opS 3 0 (fun _ => 0) (fun _ => 0) (fun _ => false) k) (fun u => Wd D A (WX u.1 cI cZ 3 0 (-1) (fun _ => 0) (fun _ => 0) (fun _ => false) u.2.1 (fun _ => false) (fun _ => 0) u.2.2)) A) 500 14969 A := by
  refine Met.ofW (cc := cX1_init) (maxL := 1) (ret := none) (by decide) rfl ?_
  intro p e s m args below meth c9 s₁ B hml hv
  obtain ⟨rfl, hP, hD, hB⟩ := hv
  have hK := hB.1
  have hA := hB.2.1
  have hx := B.exec
  have hb := B.bytes
  have hr := B.returns
  have hts := atoms_spec (ws := wsX1_init) B.pre
  have hown : s.vm.findClass RX1 = some m.cls := findClass_of_methodNamed B.named
  have hlocks := B.notSynchronized
  have hS : va_S A s.heap s.heap [] := va_S.rf
  have hinit : meth.name = "<init>" := (name_of_methodNamed B.named B.method).1
  have hinX0 : ∀ w ∈ wsX00, w ∈ wsX1_init := by decide +kernel
  have hinX1 : ∀ w ∈ wsX10, w ∈ wsX1_init := by decide +kernel
  have lk14 := hts (.fieldLink RX1 14 "HiddenCandles" "fewColours" "LHiddenCandles$Palette;") (by decide +kernel)
  have lk18 := hts (.fieldLink RX1 18 "HiddenCandles" "manyColours" "LHiddenCandles$Palette;") (by decide +kernel)
  have lk21 := hts (.fieldLink RX1 21 "HiddenCandles" "palette" "LHiddenCandles$Palette;") (by decide +kernel)
  have lk24 := hts (.fieldLink RX1 24 "HiddenCandles" "hidden" "I") (by decide +kernel)
  have lk28 := hts (.fieldLink RX1 28 "HiddenCandles" "guesses" "I") (by decide +kernel)
  have lk31 := hts (.fieldLink RX1 31 "HiddenCandles" "guessed" "[I") (by decide +kernel)
  have lk35 := hts (.fieldLink RX1 35 "HiddenCandles" "answers" "[I") (by decide +kernel)
  have lk38 := hts (.fieldLink RX1 38 "HiddenCandles" "doubted" "[Z") (by decide +kernel)
  have lk42 := hts (.fieldLink RX1 42 "HiddenCandles" "open" "[Z") (by decide +kernel)
  have lk45 := hts (.fieldLink RX1 45 "HiddenCandles" "play" "[Z") (by decide +kernel)
  have lk48 := hts (.fieldLink RX1 48 "HiddenCandles" "heaps" "[I") (by decide +kernel)
  have hl := lv_entry ([.ref (x)]) (n := 1) (Nat.le_of_ble_eq_true rfl)
  rw [lg_entry_eq]
  generalize (lg_sl ([.ref (x)]) ++ List.replicate (1 - (lg_sl ([.ref (x)])).length) Slot.unset).toArray = ls at hl ⊢
  have hl : lv_has ls 1 [(0, .ref (x))] := hl
  obtain ⟨H, eH⟩ : ∃ q, q = s.heap := ⟨_, rfl⟩
  obtain ⟨locs, eL⟩ : ∃ q : List Loc, q = [] := ⟨_, rfl⟩
  replace hP : va_P D vwCl (((x, .inr (1, [.null, .null, .null, .int 0, .int 0, .null, .null, .null, .null, .null, .null])) :: [])) H := by rw [eH]; exact hP
  replace hS : va_S A s.heap H locs := by rw [eH, eL]; exact hS
  rw [show W p l e _ s m _ below meth c9 s.heap [] = W p l e _ s m _ below meth c9 H locs from by rw [eH, eL]]
  clear eH eL
  refine lv_aload_n hx hb dX1_init_0 rfl (lv_at hl 0 rfl) ?_
  refine W.objInit hx hb hown (hts (.methodLink RX1 3 objectInit) (by decide +kernel)) (hts (.instanceMethod objectInit) (by decide +kernel)) (hts (.code objectInit ⟨#[0xb1]⟩ 1 none) (by decide +kernel)) rfl (by rw [hml]; exact hl.1) rfl dX1_init_1 (Nat.le_of_ble_eq_true rfl) (Nat.le_of_ble_eq_true rfl) ?_
  refine W.eq (g2 := F0 m 4 ls []) rfl ?_
  refine lv_aload_n hx hb dX1_init_4 rfl (lv_at hl 0 rfl) ?_
  refine va_new (D := D) (ci := 0) (fs := [.int 0, .int 0, .null, .null]) (C := RX0) (T := TX0) (N := 4) hx hb hts hinX0 tyX0 tyX0_ok hown (hts (.classLink RX1 9 RX0) (by decide +kernel)) (hts (.instantiable RX0 4) (by decide +kernel)) (hts (.initialized RX0) (by decide +kernel)) hK hP hD hS hA rfl (fun j hj => by rcases (show j = 0 ∨ j = 1 ∨ j = 2 ∨ j = 3 by omega) with rfl | rfl | rfl | rfl <;> rfl) (by show _ ≤ 500; omega) (by show _ ≤ 14969; omega) dX1_init_5 (fun q1 H hP hD hS => ?_)
  replace hP : va_P D vwCl (((x, .inr (1, [.null, .null, .null, .int 0, .int 0, .null, .null, .null, .null, .null, .null])) :: ([] ++ [(q1, .inr (0, [.int 0, .int 0, .null, .null]))]))) H := hP
  replace hD : va_D A (((x, .inr (1, [.null, .null, .null, .int 0, .int 0, .null, .null, .null, .null, .null, .null])) :: ([] ++ [(q1, .inr (0, [.int 0, .int 0, .null, .null]))]))) := hD
  refine lv_dup hx hb dX1_init_8 rfl ?_
  refine lv_iconst (v := nI (2)) hx hb dX1_init_9 (by decide) ?_
  refine va_callv (va_runIN (As := [.int (nI (2))]) (rest := [.ref (q1), .ref (x)]) ⟨hx, hb, hml, hown, hts⟩ (c_X0_init l D cI cZ cG cJ A ((x, .inr (1, [.null, .null, .null, .int 0, .int 0, .null, .null, .null, .null, .null, .null])) :: ([] ++ [(q1, .inr (0, [.int 0, .int 0, .null, .null]))])) q1 2 1 (by decide) (rfl) (rfl)) ⟨va_cnB (host := RX1) 1 hts gX1_init_X0_init_n11 rfl rfl rfl (hB.2.2.2.2.1 _ (by simp [Nws])) (hts _ (by decide +kernel)) (by decide +kernel) ⟨Nat.le_of_ble_eq_true rfl, Nat.le_of_ble_eq_true rfl⟩, rfl, hts _ (by decide +kernel)⟩ (preS hB hS hP hD) rfl rfl hl.1 rfl (lv_room (Nat.le_of_ble_eq_true rfl)) dX1_init_10 ⟨by show _ ≤ 500; omega, by show _ ≤ 14969; omega⟩) hS (fun q _ h => h) (fun q h => h) (fun u_10 t9 H1 locs1 ht9 hvm9 hw_10 hBw hz9 hk9 hS => ?_)
  obtain ⟨hP, hD⟩ := hBw
  rw [ht9] at hP
  generalize H1 = H at hP hS ⊢
  generalize locs1 = locs at hS ⊢
  obtain ⟨R1, hR1⟩ : ∃ R : va_W, u_10 = (x, .inr (1, [.null, .null, .null, .int 0, .int 0, .null, .null, .null, .null, .null, .null])) :: R := cons_of (hw_10.1 0 (by omega))
  rw [hR1] at hP hD hw_10
  have hp1 : PalOK cI cG R1 q1 2 := PalOK.tail hw_10.2.2
  replace hP : va_P D vwCl (((x, .inr (1, [.null, .null, .null, .int 0, .int 0, .null, .null, .null, .null, .null, .null])) :: R1)) H := hP
  replace hD : va_D A (((x, .inr (1, [.null, .null, .null, .int 0, .int 0, .null, .null, .null, .null, .null, .null])) :: R1)) := hD
  refine va_putF (D := D) (ci := 1) (v := .ref (q1)) (ty := (.object "HiddenCandles$Palette")) (C := RX1) (T := TX1) (N := 11) hx hb hts hinX1 tyX1 tyX1_ok nmX1 hown hK hP hD hS 0 rfl rfl 0 (by decide) lk14 (fun _ h9 => h9) rfl hinit rfl (by decide +kernel) rfl rfl (Nat.le_of_ble_eq_true rfl) dX1_init_13 (fun H locs hP hD hS => ?_)
  replace hP : va_P D vwCl (((x, .inr (1, [(.ref (q1)), .null, .null, .int 0, .int 0, .null, .null, .null, .null, .null, .null])) :: R1)) H := hP
  replace hD : va_D A (((x, .inr (1, [(.ref (q1)), .null, .null, .int 0, .int 0, .null, .null, .null, .null, .null, .null])) :: R1)) := hD
  refine lv_aload_n hx hb dX1_init_16 rfl (lv_at hl 0 rfl) ?_
  refine va_new (D := D) (ci := 0) (fs := [.int 0, .int 0, .null, .null]) (C := RX0) (T := TX0) (N := 4) hx hb hts hinX0 tyX0 tyX0_ok hown (hts (.classLink RX1 9 RX0) (by decide +kernel)) (hts (.instantiable RX0 4) (by decide +kernel)) (hts (.initialized RX0) (by decide +kernel)) hK hP hD hS hA rfl (fun j hj => by rcases (show j = 0 ∨ j = 1 ∨ j = 2 ∨ j = 3 by omega) with rfl | rfl | rfl | rfl <;> rfl) (by show _ ≤ 500; omega) (by show _ ≤ 14969; omega) dX1_init_17 (fun q2 H hP hD hS => ?_)
  replace hP : va_P D vwCl (((x, .inr (1, [(.ref (q1)), .null, .null, .int 0, .int 0, .null, .null, .null, .null, .null, .null])) :: (R1 ++ [(q2, .inr (0, [.int 0, .int 0, .null, .null]))]))) H := hP
  replace hD : va_D A (((x, .inr (1, [(.ref (q1)), .null, .null, .int 0, .int 0, .null, .null, .null, .null, .null, .null])) :: (R1 ++ [(q2, .inr (0, [.int 0, .int 0, .null, .null]))]))) := hD
  refine lv_dup hx hb dX1_init_20 rfl ?_
  refine lv_iconst (v := nI (3)) hx hb dX1_init_21 (by decide) ?_
  refine va_callv (va_runIN (As := [.int (nI (3))]) (rest := [.ref (q2), .ref (x)]) ⟨hx, hb, hml, hown, hts⟩ (c_X0_init l D cI cZ cG cJ A ((x, .inr (1, [.ref (q1), .null, .null, .int 0, .int 0, .null, .null, .null, .null, .null, .null])) :: (R1 ++ [(q2, .inr (0, [.int 0, .int 0, .null, .null]))])) q2 3 (R1.length + 1) (by decide) (by simp) (by simp)) ⟨va_cnB (host := RX1) 1 hts gX1_init_X0_init_n11 rfl rfl rfl (hB.2.2.2.2.1 _ (by simp [Nws])) (hts _ (by decide +kernel)) (by decide +kernel) ⟨Nat.le_of_ble_eq_true rfl, Nat.le_of_ble_eq_true rfl⟩, rfl, hts _ (by decide +kernel)⟩ (preS hB hS hP hD) rfl rfl hl.1 rfl (lv_room (Nat.le_of_ble_eq_true rfl)) dX1_init_22 ⟨by show _ ≤ 500; omega, by show _ ≤ 14969; omega⟩) hS (fun q _ h => h) (fun q h => h) (fun u_22 t9 H1 locs1 ht9 hvm9 hw_22 hBw hz9 hk9 hS => ?_)
  obtain ⟨hP, hD⟩ := hBw
  rw [ht9] at hP
  generalize H1 = H at hP hS ⊢
  generalize locs1 = locs at hS ⊢
  obtain ⟨R2, hR2⟩ : ∃ R : va_W, u_22 = (x, .inr (1, [.ref (q1), .null, .null, .int 0, .int 0, .null, .null, .null, .null, .null, .null])) :: R := cons_of (hw_22.1 0 (by omega))
  rw [hR2] at hP hD hw_22
  have hp2 : PalOK cI cG R2 q2 3 := PalOK.tail hw_22.2.2
  have hp1 : PalOK cI cG R2 q1 2 := PalOK.mono hp1 (fun k hk => by have := hw_22.1 (k + 1) (by omega); rw [List.getElem?_cons_succ, List.getElem?_cons_succ, List.getElem?_append_left hk] at this; exact this)
  replace hP : va_P D vwCl (((x, .inr (1, [(.ref (q1)), .null, .null, .int 0, .int 0, .null, .null, .null, .null, .null, .null])) :: R2)) H := hP
  replace hD : va_D A (((x, .inr (1, [(.ref (q1)), .null, .null, .int 0, .int 0, .null, .null, .null, .null, .null, .null])) :: R2)) := hD
  refine va_putF (D := D) (ci := 1) (v := .ref (q2)) (ty := (.object "HiddenCandles$Palette")) (C := RX1) (T := TX1) (N := 11) hx hb hts hinX1 tyX1 tyX1_ok nmX1 hown hK hP hD hS 0 rfl rfl 1 (by decide) lk18 (fun _ h9 => h9) rfl hinit rfl (by decide +kernel) rfl rfl (Nat.le_of_ble_eq_true rfl) dX1_init_25 (fun H locs hP hD hS => ?_)
  replace hP : va_P D vwCl (((x, .inr (1, [(.ref (q1)), (.ref (q2)), .null, .int 0, .int 0, .null, .null, .null, .null, .null, .null])) :: R2)) H := hP
  replace hD : va_D A (((x, .inr (1, [(.ref (q1)), (.ref (q2)), .null, .int 0, .int 0, .null, .null, .null, .null, .null, .null])) :: R2)) := hD
  refine lv_aload_n hx hb dX1_init_28 rfl (lv_at hl 0 rfl) ?_
  refine lv_aload_n hx hb dX1_init_29 rfl (lv_at hl 0 rfl) ?_
  refine va_get (D := D) (ci := 1) (v := .ref (q2)) (C := RX1) (T := TX1) (N := 11) hx hb hts hinX1 hown hK hP 0 rfl rfl 1 (by decide) lk18 (fun _ h9 => h9) rfl dX1_init_30 ?_
  refine va_put (D := D) (ci := 1) (v := .ref (q2)) (ty := (.object "HiddenCandles$Palette")) (C := RX1) (T := TX1) (N := 11) hx hb hts hinX1 tyX1 tyX1_ok nmX1 hown hK hP hD hS 0 rfl rfl 2 (by decide) lk21 (fun _ h9 => h9) rfl (by decide +kernel) rfl rfl (Nat.le_of_ble_eq_true rfl) dX1_init_33 (fun H locs hP hD hS => ?_)
  replace hP : va_P D vwCl (((x, .inr (1, [(.ref (q1)), (.ref (q2)), (.ref (q2)), .int 0, .int 0, .null, .null, .null, .null, .null, .null])) :: R2)) H := hP
  replace hD : va_D A (((x, .inr (1, [(.ref (q1)), (.ref (q2)), (.ref (q2)), .int 0, .int 0, .null, .null, .null, .null, .null, .null])) :: R2)) := hD
  refine lv_aload_n hx hb dX1_init_36 rfl (lv_at hl 0 rfl) ?_
  refine lv_iconst (v := (-1)) hx hb dX1_init_37 (by decide) ?_
  refine va_put (D := D) (ci := 1) (v := .int ((-1))) (ty := .int) (C := RX1) (T := TX1) (N := 11) hx hb hts hinX1 tyX1 tyX1_ok nmX1 hown hK hP hD hS 0 rfl rfl 3 (by decide) lk24 (fun _ h9 => h9) rfl (by decide +kernel) rfl rfl (Nat.le_of_ble_eq_true rfl) dX1_init_38 (fun H locs hP hD hS => ?_)
  replace hP : va_P D vwCl (((x, .inr (1, [(.ref (q1)), (.ref (q2)), (.ref (q2)), (.int ((-1))), .int 0, .null, .null, .null, .null, .null, .null])) :: R2)) H := hP
  replace hD : va_D A (((x, .inr (1, [(.ref (q1)), (.ref (q2)), (.ref (q2)), (.int ((-1))), .int 0, .null, .null, .null, .null, .null, .null])) :: R2)) := hD
  refine lv_aload_n hx hb dX1_init_41 rfl (lv_at hl 0 rfl) ?_
  refine lv_iconst (v := 0) hx hb dX1_init_42 (by decide) ?_
  refine va_put (D := D) (ci := 1) (v := .int (0)) (ty := .int) (C := RX1) (T := TX1) (N := 11) hx hb hts hinX1 tyX1 tyX1_ok nmX1 hown hK hP hD hS 0 rfl rfl 4 (by decide) lk28 (fun _ h9 => h9) rfl (by decide +kernel) rfl rfl (Nat.le_of_ble_eq_true rfl) dX1_init_43 (fun H locs hP hD hS => ?_)
  replace hP : va_P D vwCl (((x, .inr (1, [(.ref (q1)), (.ref (q2)), (.ref (q2)), (.int ((-1))), (.int (0)), .null, .null, .null, .null, .null, .null])) :: R2)) H := hP
  replace hD : va_D A (((x, .inr (1, [(.ref (q1)), (.ref (q2)), (.ref (q2)), (.int ((-1))), (.int (0)), .null, .null, .null, .null, .null, .null])) :: R2)) := hD
  refine lv_aload_n hx hb dX1_init_46 rfl (lv_at hl 0 rfl) ?_
  refine lv_bipush (v := nI (12)) hx hb dX1_init_47 (by decide) ?_
  refine x_newi hx hb (hts _ (by decide +kernel)) hB hP hD hS (n := 12) (by decide) (by show _ ≤ 500; omega) (by show _ ≤ 14969; omega) dX1_init_49 (fun a1 H hP hD hS => ?_)
  replace hP : va_P D vwCl (((x, .inr (1, [(.ref (q1)), (.ref (q2)), (.ref (q2)), (.int ((-1))), (.int (0)), .null, .null, .null, .null, .null, .null])) :: (R2 ++ [(a1, .inl (cI, 12, .inl (fun j => nI ((fun _ => 0) j))))]))) H := hP
  replace hD : va_D A (((x, .inr (1, [(.ref (q1)), (.ref (q2)), (.ref (q2)), (.int ((-1))), (.int (0)), .null, .null, .null, .null, .null, .null])) :: (R2 ++ [(a1, .inl (cI, 12, .inl (fun j => nI ((fun _ => 0) j))))]))) := hD
  refine va_putF (D := D) (ci := 1) (v := .ref (a1)) (ty := (.array .int)) (C := RX1) (T := TX1) (N := 11) hx hb hts hinX1 tyX1 tyX1_ok nmX1 hown hK hP hD hS 0 rfl rfl 5 (by decide) lk31 (fun _ h9 => h9) rfl hinit rfl (by decide +kernel) rfl rfl (Nat.le_of_ble_eq_true rfl) dX1_init_51 (fun H locs hP hD hS => ?_)
  replace hP : va_P D vwCl (((x, .inr (1, [(.ref (q1)), (.ref (q2)), (.ref (q2)), (.int ((-1))), (.int (0)), (.ref (a1)), .null, .null, .null, .null, .null])) :: (R2 ++ [(a1, .inl (cI, 12, .inl (fun j => nI ((fun _ => 0) j))))]))) H := hP
  replace hD : va_D A (((x, .inr (1, [(.ref (q1)), (.ref (q2)), (.ref (q2)), (.int ((-1))), (.int (0)), (.ref (a1)), .null, .null, .null, .null, .null])) :: (R2 ++ [(a1, .inl (cI, 12, .inl (fun j => nI ((fun _ => 0) j))))]))) := hD
  refine lv_aload_n hx hb dX1_init_54 rfl (lv_at hl 0 rfl) ?_
  refine lv_bipush (v := nI (12)) hx hb dX1_init_55 (by decide) ?_
  refine x_newi hx hb (hts _ (by decide +kernel)) hB hP hD hS (n := 12) (by decide) (by show _ ≤ 500; omega) (by show _ ≤ 14969; omega) dX1_init_57 (fun a2 H hP hD hS => ?_)
  replace hP : va_P D vwCl (((x, .inr (1, [(.ref (q1)), (.ref (q2)), (.ref (q2)), (.int ((-1))), (.int (0)), (.ref (a1)), .null, .null, .null, .null, .null])) :: ((R2 ++ [(a1, .inl (cI, 12, .inl (fun j => nI ((fun _ => 0) j))))]) ++ [(a2, .inl (cI, 12, .inl (fun j => nI ((fun _ => 0) j))))]))) H := hP
  replace hD : va_D A (((x, .inr (1, [(.ref (q1)), (.ref (q2)), (.ref (q2)), (.int ((-1))), (.int (0)), (.ref (a1)), .null, .null, .null, .null, .null])) :: ((R2 ++ [(a1, .inl (cI, 12, .inl (fun j => nI ((fun _ => 0) j))))]) ++ [(a2, .inl (cI, 12, .inl (fun j => nI ((fun _ => 0) j))))]))) := hD
  refine va_putF (D := D) (ci := 1) (v := .ref (a2)) (ty := (.array .int)) (C := RX1) (T := TX1) (N := 11) hx hb hts hinX1 tyX1 tyX1_ok nmX1 hown hK hP hD hS 0 rfl rfl 6 (by decide) lk35 (fun _ h9 => h9) rfl hinit rfl (by decide +kernel) rfl rfl (Nat.le_of_ble_eq_true rfl) dX1_init_59 (fun H locs hP hD hS => ?_)
  replace hP : va_P D vwCl (((x, .inr (1, [(.ref (q1)), (.ref (q2)), (.ref (q2)), (.int ((-1))), (.int (0)), (.ref (a1)), (.ref (a2)), .null, .null, .null, .null])) :: ((R2 ++ [(a1, .inl (cI, 12, .inl (fun j => nI ((fun _ => 0) j))))]) ++ [(a2, .inl (cI, 12, .inl (fun j => nI ((fun _ => 0) j))))]))) H := hP
  replace hD : va_D A (((x, .inr (1, [(.ref (q1)), (.ref (q2)), (.ref (q2)), (.int ((-1))), (.int (0)), (.ref (a1)), (.ref (a2)), .null, .null, .null, .null])) :: ((R2 ++ [(a1, .inl (cI, 12, .inl (fun j => nI ((fun _ => 0) j))))]) ++ [(a2, .inl (cI, 12, .inl (fun j => nI ((fun _ => 0) j))))]))) := hD
  refine lv_aload_n hx hb dX1_init_62 rfl (lv_at hl 0 rfl) ?_
  refine lv_bipush (v := nI (12)) hx hb dX1_init_63 (by decide) ?_
  refine x_newz hx hb (hts _ (by decide +kernel)) hB hP hD hS (n := 12) (by decide) (by show _ ≤ 500; omega) (by show _ ≤ 14969; omega) dX1_init_65 (fun a3 H hP hD hS => ?_)
  replace hP : va_P D vwCl (((x, .inr (1, [(.ref (q1)), (.ref (q2)), (.ref (q2)), (.int ((-1))), (.int (0)), (.ref (a1)), (.ref (a2)), .null, .null, .null, .null])) :: (((R2 ++ [(a1, .inl (cI, 12, .inl (fun j => nI ((fun _ => 0) j))))]) ++ [(a2, .inl (cI, 12, .inl (fun j => nI ((fun _ => 0) j))))]) ++ [(a3, .inl (cZ, 12, .inl (fun j => bI ((fun _ => false) j))))]))) H := hP
  replace hD : va_D A (((x, .inr (1, [(.ref (q1)), (.ref (q2)), (.ref (q2)), (.int ((-1))), (.int (0)), (.ref (a1)), (.ref (a2)), .null, .null, .null, .null])) :: (((R2 ++ [(a1, .inl (cI, 12, .inl (fun j => nI ((fun _ => 0) j))))]) ++ [(a2, .inl (cI, 12, .inl (fun j => nI ((fun _ => 0) j))))]) ++ [(a3, .inl (cZ, 12, .inl (fun j => bI ((fun _ => false) j))))]))) := hD
  refine va_putF (D := D) (ci := 1) (v := .ref (a3)) (ty := (.array .boolean)) (C := RX1) (T := TX1) (N := 11) hx hb hts hinX1 tyX1 tyX1_ok nmX1 hown hK hP hD hS 0 rfl rfl 7 (by decide) lk38 (fun _ h9 => h9) rfl hinit rfl (by decide +kernel) rfl rfl (Nat.le_of_ble_eq_true rfl) dX1_init_67 (fun H locs hP hD hS => ?_)
  replace hP : va_P D vwCl (((x, .inr (1, [(.ref (q1)), (.ref (q2)), (.ref (q2)), (.int ((-1))), (.int (0)), (.ref (a1)), (.ref (a2)), (.ref (a3)), .null, .null, .null])) :: (((R2 ++ [(a1, .inl (cI, 12, .inl (fun j => nI ((fun _ => 0) j))))]) ++ [(a2, .inl (cI, 12, .inl (fun j => nI ((fun _ => 0) j))))]) ++ [(a3, .inl (cZ, 12, .inl (fun j => bI ((fun _ => false) j))))]))) H := hP
  replace hD : va_D A (((x, .inr (1, [(.ref (q1)), (.ref (q2)), (.ref (q2)), (.int ((-1))), (.int (0)), (.ref (a1)), (.ref (a2)), (.ref (a3)), .null, .null, .null])) :: (((R2 ++ [(a1, .inl (cI, 12, .inl (fun j => nI ((fun _ => 0) j))))]) ++ [(a2, .inl (cI, 12, .inl (fun j => nI ((fun _ => 0) j))))]) ++ [(a3, .inl (cZ, 12, .inl (fun j => bI ((fun _ => false) j))))]))) := hD
  refine lv_aload_n hx hb dX1_init_70 rfl (lv_at hl 0 rfl) ?_
  refine lv_bipush (v := nI (81)) hx hb dX1_init_71 (by decide) ?_
  refine x_newz hx hb (hts _ (by decide +kernel)) hB hP hD hS (n := 81) (by decide) (by show _ ≤ 500; omega) (by show _ ≤ 14969; omega) dX1_init_73 (fun a4 H hP hD hS => ?_)
  replace hP : va_P D vwCl (((x, .inr (1, [(.ref (q1)), (.ref (q2)), (.ref (q2)), (.int ((-1))), (.int (0)), (.ref (a1)), (.ref (a2)), (.ref (a3)), .null, .null, .null])) :: ((((R2 ++ [(a1, .inl (cI, 12, .inl (fun j => nI ((fun _ => 0) j))))]) ++ [(a2, .inl (cI, 12, .inl (fun j => nI ((fun _ => 0) j))))]) ++ [(a3, .inl (cZ, 12, .inl (fun j => bI ((fun _ => false) j))))]) ++ [(a4, .inl (cZ, 81, .inl (fun j => bI ((fun _ => false) j))))]))) H := hP
  replace hD : va_D A (((x, .inr (1, [(.ref (q1)), (.ref (q2)), (.ref (q2)), (.int ((-1))), (.int (0)), (.ref (a1)), (.ref (a2)), (.ref (a3)), .null, .null, .null])) :: ((((R2 ++ [(a1, .inl (cI, 12, .inl (fun j => nI ((fun _ => 0) j))))]) ++ [(a2, .inl (cI, 12, .inl (fun j => nI ((fun _ => 0) j))))]) ++ [(a3, .inl (cZ, 12, .inl (fun j => bI ((fun _ => false) j))))]) ++ [(a4, .inl (cZ, 81, .inl (fun j => bI ((fun _ => false) j))))]))) := hD
  refine va_putF (D := D) (ci := 1) (v := .ref (a4)) (ty := (.array .boolean)) (C := RX1) (T := TX1) (N := 11) hx hb hts hinX1 tyX1 tyX1_ok nmX1 hown hK hP hD hS 0 rfl rfl 8 (by decide) lk42 (fun _ h9 => h9) rfl hinit rfl (by decide +kernel) rfl rfl (Nat.le_of_ble_eq_true rfl) dX1_init_75 (fun H locs hP hD hS => ?_)
  replace hP : va_P D vwCl (((x, .inr (1, [(.ref (q1)), (.ref (q2)), (.ref (q2)), (.int ((-1))), (.int (0)), (.ref (a1)), (.ref (a2)), (.ref (a3)), (.ref (a4)), .null, .null])) :: ((((R2 ++ [(a1, .inl (cI, 12, .inl (fun j => nI ((fun _ => 0) j))))]) ++ [(a2, .inl (cI, 12, .inl (fun j => nI ((fun _ => 0) j))))]) ++ [(a3, .inl (cZ, 12, .inl (fun j => bI ((fun _ => false) j))))]) ++ [(a4, .inl (cZ, 81, .inl (fun j => bI ((fun _ => false) j))))]))) H := hP
  replace hD : va_D A (((x, .inr (1, [(.ref (q1)), (.ref (q2)), (.ref (q2)), (.int ((-1))), (.int (0)), (.ref (a1)), (.ref (a2)), (.ref (a3)), (.ref (a4)), .null, .null])) :: ((((R2 ++ [(a1, .inl (cI, 12, .inl (fun j => nI ((fun _ => 0) j))))]) ++ [(a2, .inl (cI, 12, .inl (fun j => nI ((fun _ => 0) j))))]) ++ [(a3, .inl (cZ, 12, .inl (fun j => bI ((fun _ => false) j))))]) ++ [(a4, .inl (cZ, 81, .inl (fun j => bI ((fun _ => false) j))))]))) := hD
  refine lv_aload_n hx hb dX1_init_78 rfl (lv_at hl 0 rfl) ?_
  refine lv_bipush (v := nI (81)) hx hb dX1_init_79 (by decide) ?_
  refine x_newz hx hb (hts _ (by decide +kernel)) hB hP hD hS (n := 81) (by decide) (by show _ ≤ 500; omega) (by show _ ≤ 14969; omega) dX1_init_81 (fun a5 H hP hD hS => ?_)
  replace hP : va_P D vwCl (((x, .inr (1, [(.ref (q1)), (.ref (q2)), (.ref (q2)), (.int ((-1))), (.int (0)), (.ref (a1)), (.ref (a2)), (.ref (a3)), (.ref (a4)), .null, .null])) :: (((((R2 ++ [(a1, .inl (cI, 12, .inl (fun j => nI ((fun _ => 0) j))))]) ++ [(a2, .inl (cI, 12, .inl (fun j => nI ((fun _ => 0) j))))]) ++ [(a3, .inl (cZ, 12, .inl (fun j => bI ((fun _ => false) j))))]) ++ [(a4, .inl (cZ, 81, .inl (fun j => bI ((fun _ => false) j))))]) ++ [(a5, .inl (cZ, 81, .inl (fun j => bI ((fun _ => false) j))))]))) H := hP
  replace hD : va_D A (((x, .inr (1, [(.ref (q1)), (.ref (q2)), (.ref (q2)), (.int ((-1))), (.int (0)), (.ref (a1)), (.ref (a2)), (.ref (a3)), (.ref (a4)), .null, .null])) :: (((((R2 ++ [(a1, .inl (cI, 12, .inl (fun j => nI ((fun _ => 0) j))))]) ++ [(a2, .inl (cI, 12, .inl (fun j => nI ((fun _ => 0) j))))]) ++ [(a3, .inl (cZ, 12, .inl (fun j => bI ((fun _ => false) j))))]) ++ [(a4, .inl (cZ, 81, .inl (fun j => bI ((fun _ => false) j))))]) ++ [(a5, .inl (cZ, 81, .inl (fun j => bI ((fun _ => false) j))))]))) := hD
  refine va_putF (D := D) (ci := 1) (v := .ref (a5)) (ty := (.array .boolean)) (C := RX1) (T := TX1) (N := 11) hx hb hts hinX1 tyX1 tyX1_ok nmX1 hown hK hP hD hS 0 rfl rfl 9 (by decide) lk45 (fun _ h9 => h9) rfl hinit rfl (by decide +kernel) rfl rfl (Nat.le_of_ble_eq_true rfl) dX1_init_83 (fun H locs hP hD hS => ?_)
  replace hP : va_P D vwCl (((x, .inr (1, [(.ref (q1)), (.ref (q2)), (.ref (q2)), (.int ((-1))), (.int (0)), (.ref (a1)), (.ref (a2)), (.ref (a3)), (.ref (a4)), (.ref (a5)), .null])) :: (((((R2 ++ [(a1, .inl (cI, 12, .inl (fun j => nI ((fun _ => 0) j))))]) ++ [(a2, .inl (cI, 12, .inl (fun j => nI ((fun _ => 0) j))))]) ++ [(a3, .inl (cZ, 12, .inl (fun j => bI ((fun _ => false) j))))]) ++ [(a4, .inl (cZ, 81, .inl (fun j => bI ((fun _ => false) j))))]) ++ [(a5, .inl (cZ, 81, .inl (fun j => bI ((fun _ => false) j))))]))) H := hP
  replace hD : va_D A (((x, .inr (1, [(.ref (q1)), (.ref (q2)), (.ref (q2)), (.int ((-1))), (.int (0)), (.ref (a1)), (.ref (a2)), (.ref (a3)), (.ref (a4)), (.ref (a5)), .null])) :: (((((R2 ++ [(a1, .inl (cI, 12, .inl (fun j => nI ((fun _ => 0) j))))]) ++ [(a2, .inl (cI, 12, .inl (fun j => nI ((fun _ => 0) j))))]) ++ [(a3, .inl (cZ, 12, .inl (fun j => bI ((fun _ => false) j))))]) ++ [(a4, .inl (cZ, 81, .inl (fun j => bI ((fun _ => false) j))))]) ++ [(a5, .inl (cZ, 81, .inl (fun j => bI ((fun _ => false) j))))]))) := hD
  refine lv_aload_n hx hb dX1_init_86 rfl (lv_at hl 0 rfl) ?_
  refine lv_bipush (v := nI (21)) hx hb dX1_init_87 (by decide) ?_
  refine x_newi hx hb (hts _ (by decide +kernel)) hB hP hD hS (n := 21) (by decide) (by show _ ≤ 500; omega) (by show _ ≤ 14969; omega) dX1_init_89 (fun a6 H hP hD hS => ?_)
  replace hP : va_P D vwCl (((x, .inr (1, [(.ref (q1)), (.ref (q2)), (.ref (q2)), (.int ((-1))), (.int (0)), (.ref (a1)), (.ref (a2)), (.ref (a3)), (.ref (a4)), (.ref (a5)), .null])) :: ((((((R2 ++ [(a1, .inl (cI, 12, .inl (fun j => nI ((fun _ => 0) j))))]) ++ [(a2, .inl (cI, 12, .inl (fun j => nI ((fun _ => 0) j))))]) ++ [(a3, .inl (cZ, 12, .inl (fun j => bI ((fun _ => false) j))))]) ++ [(a4, .inl (cZ, 81, .inl (fun j => bI ((fun _ => false) j))))]) ++ [(a5, .inl (cZ, 81, .inl (fun j => bI ((fun _ => false) j))))]) ++ [(a6, .inl (cI, 21, .inl (fun j => nI ((fun _ => 0) j))))]))) H := hP
  replace hD : va_D A (((x, .inr (1, [(.ref (q1)), (.ref (q2)), (.ref (q2)), (.int ((-1))), (.int (0)), (.ref (a1)), (.ref (a2)), (.ref (a3)), (.ref (a4)), (.ref (a5)), .null])) :: ((((((R2 ++ [(a1, .inl (cI, 12, .inl (fun j => nI ((fun _ => 0) j))))]) ++ [(a2, .inl (cI, 12, .inl (fun j => nI ((fun _ => 0) j))))]) ++ [(a3, .inl (cZ, 12, .inl (fun j => bI ((fun _ => false) j))))]) ++ [(a4, .inl (cZ, 81, .inl (fun j => bI ((fun _ => false) j))))]) ++ [(a5, .inl (cZ, 81, .inl (fun j => bI ((fun _ => false) j))))]) ++ [(a6, .inl (cI, 21, .inl (fun j => nI ((fun _ => 0) j))))]))) := hD
  refine va_putF (D := D) (ci := 1) (v := .ref (a6)) (ty := (.array .int)) (C := RX1) (T := TX1) (N := 11) hx hb hts hinX1 tyX1 tyX1_ok nmX1 hown hK hP hD hS 0 rfl rfl 10 (by decide) lk48 (fun _ h9 => h9) rfl hinit rfl (by decide +kernel) rfl rfl (Nat.le_of_ble_eq_true rfl) dX1_init_91 (fun H locs hP hD hS => ?_)
  replace hP : va_P D vwCl (((x, .inr (1, [(.ref (q1)), (.ref (q2)), (.ref (q2)), (.int ((-1))), (.int (0)), (.ref (a1)), (.ref (a2)), (.ref (a3)), (.ref (a4)), (.ref (a5)), (.ref (a6))])) :: ((((((R2 ++ [(a1, .inl (cI, 12, .inl (fun j => nI ((fun _ => 0) j))))]) ++ [(a2, .inl (cI, 12, .inl (fun j => nI ((fun _ => 0) j))))]) ++ [(a3, .inl (cZ, 12, .inl (fun j => bI ((fun _ => false) j))))]) ++ [(a4, .inl (cZ, 81, .inl (fun j => bI ((fun _ => false) j))))]) ++ [(a5, .inl (cZ, 81, .inl (fun j => bI ((fun _ => false) j))))]) ++ [(a6, .inl (cI, 21, .inl (fun j => nI ((fun _ => 0) j))))]))) H := hP
  replace hD : va_D A (((x, .inr (1, [(.ref (q1)), (.ref (q2)), (.ref (q2)), (.int ((-1))), (.int (0)), (.ref (a1)), (.ref (a2)), (.ref (a3)), (.ref (a4)), (.ref (a5)), (.ref (a6))])) :: ((((((R2 ++ [(a1, .inl (cI, 12, .inl (fun j => nI ((fun _ => 0) j))))]) ++ [(a2, .inl (cI, 12, .inl (fun j => nI ((fun _ => 0) j))))]) ++ [(a3, .inl (cZ, 12, .inl (fun j => bI ((fun _ => false) j))))]) ++ [(a4, .inl (cZ, 81, .inl (fun j => bI ((fun _ => false) j))))]) ++ [(a5, .inl (cZ, 81, .inl (fun j => bI ((fun _ => false) j))))]) ++ [(a6, .inl (cI, 21, .inl (fun j => nI ((fun _ => 0) j))))]))) := hD
  refine lv_aload_n hx hb dX1_init_94 rfl (lv_at hl 0 rfl) ?_
  have hpal : Pals cI cG (adL [x, a1, a2, a3, a4, a5, a6, q1, q2]) R2 := ⟨hp1, hp2⟩
  replace hP : va_P D vwCl (WX (adL [x, a1, a2, a3, a4, a5, a6, q1, q2]) cI cZ 3 0 (-1) (fun _ => 0) (fun _ => 0) (fun _ => false) (fun _ => false) (fun _ => false) (fun _ => 0) R2) H := P_perm (perm6 R2 _ _ _ _ _ _ _) hP
  replace hD : va_D A (WX (adL [x, a1, a2, a3, a4, a5, a6, q1, q2]) cI cZ 3 0 (-1) (fun _ => 0) (fun _ => 0) (fun _ => false) (fun _ => false) (fun _ => false) (fun _ => 0) R2) := D_perm (perm6 R2 _ _ _ _ _ _ _) hD
  refine va_callv (va_runV (As := []) (rest := []) ⟨hx, hb, hml, hown, hts⟩ (c_X1_sieve l D cI cZ cG cJ A (adL [x, a1, a2, a3, a4, a5, a6, q1, q2]) R2 hpal 3 0 (-1) (fun _ => 0) (fun _ => 0) (fun _ => false) (fun _ => false) (fun _ => false) (fun _ => 0) (by decide) (by decide) (fun i hi => absurd hi (Nat.not_lt_zero _))) (cwV 0 hts gX1_init_X1_sieve rfl rfl rfl (by decide +kernel) ⟨Nat.le_of_ble_eq_true rfl, Nat.le_of_ble_eq_true rfl⟩) (preV (ci := 1) (q0 := 0) hB hS hP hD rfl rfl) rfl rfl hl.1 rfl (lv_room (Nat.le_of_ble_eq_true rfl)) dX1_init_95 ⟨by show _ ≤ 500; omega, by show _ ≤ 14969; omega⟩) hS (fun q _ h => h) (fun q h => h) (fun u_95 t9 H1 locs1 ht9 hvm9 hw_95 hBw hz9 hk9 hS => ?_)
  obtain ⟨hP, hD⟩ := hBw
  rw [ht9] at hP
  generalize H1 = H at hP hS ⊢
  generalize locs1 = locs at hS ⊢
  refine W.widen (k := 500) (n := 14969) (by omega) (by omega) ?_
  exact W.vret hx hb hr (fun t ht hW => ⟨⟨((adL [x, a1, a2, a3, a4, a5, a6, q1, q2]), u_95, R2), rfl, (by
      exact ⟨rfl, hpal, hw_95⟩), ⟨by rw [ht]; exact hP, hD⟩⟩, hS.F ht⟩) hS.2.2 dX1_init_98
