theorem tab_up (P : Nat → Nat → Nat) (i j v a b : Nat) : up2 (up2 P i j v) j i v a b = if (a = i ∧ b = j) ∨ (a = j ∧ b = i) then v else P a b := by
  simp only [up2]
  by_cases h1 : a = j
  · subst h1
    by_cases h2 : a = i
    · subst h2
      simp only [if_true, va_up]
      split <;> simp_all
    · simp only [if_true, va_up, if_neg h2]
      split <;> simp_all
  · by_cases h2 : a = i
    · subst h2
      simp only [if_true, va_up, if_neg h1]
      split <;> simp_all
    · simp only [if_neg h1, if_neg h2]
      simp_all
def Filled (c : Nat) (P : Nat → Nat → Nat) (i j : Nat) : Prop := ∀ a b, (a < i ∧ b < i) ∨ (a = i ∧ b < j) ∨ (a < j ∧ b = i) → P a b = pins c a b
theorem Filled.next {c : Nat} {P : Nat → Nat → Nat} {i j : Nat} (h : Filled c P i j) (hj : i + 1 ≤ j) : Filled c P (i + 1) 0 := fun a b q => h a b (by omega)
theorem Filled.up {c : Nat} {P : Nat → Nat → Nat} {i j : Nat} (h : Filled c P i j) (hs : pins c i j = pins c j i) : Filled c (up2 (up2 P i j (pins c i j)) j i (pins c i j)) i (j + 1) := by
  intro a b q
  rw [tab_up]
  by_cases e : (a = i ∧ b = j) ∨ (a = j ∧ b = i)
  · rw [if_pos e]
    rcases e with ⟨rfl, rfl⟩ | ⟨rfl, rfl⟩
    · rfl
    · exact hs
  · rw [if_neg e]
    exact h a b (by omega)
set_option maxHeartbeats 4000000 in
set_option maxRecDepth 100000 in
theorem c_X0_lightCandles (l : Launch) (D : va_G) (cI cZ cG cJ : ClassId) (A : Nat → Prop) (w : va_W) (q : Nat) (c : Nat) (cd : Nat) (tb : Nat) (kq : Nat) (kc : Nat) (kr : Nat) (rc : Nat → Nat) (M0 : Nat → Nat → Nat) (hc : c = 2 ∨ c = 3) (e1 : w[kq]? = some (q, .inr (0, [.int (nI c), .int (nI (qq c)), .ref cd, .ref tb]))) (e2 : w[kc]? = some (cd, OutC cG (qq c) rc)) (hR : RowsAt w cI kr (qq c) 4 rc M0) (hl1 : kq < kr) (hl2 : kc < kr) : Met l yX0_lightCandles wsX0_lightCandles ({ frames := 0, cells := 0, slots := 0, locals := 0 }) (va_Pc [.ref (q)] (Iv D (TY cI cZ cG cJ) A (w))) (va_Qv (fun (u : va_W) => Same w u kr (kr + qq c) ∧ ∃ M : Nat → Nat → Nat, RowsAt u cI kr (qq c) 4 rc M ∧ ∀ a, a < qq c → ∀ j, j < 4 → M a j = col c a j) (fun u => Wd D A (u)) A) 0 0 A := by
  refine Met.ofW (cc := cX0_lightCandles) (maxL := 4) (ret := none) (by decide) rfl ?_
  intro p e s m args below meth c9 s₁ B hml hv
  obtain ⟨rfl, hP, hD, hB⟩ := hv
  have hK := hB.1
  have hA := hB.2.1
  have hx := B.exec
  have hb := B.bytes
  have hr := B.returns
  have hts := atoms_spec (ws := wsX0_lightCandles) B.pre
  have hown : s.vm.findClass RX0 = some m.cls := findClass_of_methodNamed B.named
  have hlocks := B.notSynchronized
  have hS : va_S A s.heap s.heap [] := va_S.rf
  have hinX0 : ∀ w ∈ wsX00, w ∈ wsX0_lightCandles := by decide +kernel
  have lk9 := hts (.fieldLink RX0 9 "HiddenCandles$Palette" "colours" "I") (by decide +kernel)
  have lk20 := hts (.fieldLink RX0 20 "HiddenCandles$Palette" "candles" "[[I") (by decide +kernel)
  have hl := lv_entry ([.ref (q)]) (n := 4) (Nat.le_of_ble_eq_true rfl)
  rw [lg_entry_eq]
  generalize (lg_sl ([.ref (q)]) ++ List.replicate (4 - (lg_sl ([.ref (q)])).length) Slot.unset).toArray = ls at hl ⊢
  have hl : lv_has ls 4 [(0, .ref (q))] := hl
  obtain ⟨H, eH⟩ : ∃ q, q = s.heap := ⟨_, rfl⟩
  obtain ⟨locs, eL⟩ : ∃ q : List Loc, q = [] := ⟨_, rfl⟩
  replace hP : va_P D vwCl (w) H := by rw [eH]; exact hP
  replace hS : va_S A s.heap H locs := by rw [eH, eL]; exact hS
  rw [show W p l e _ s m _ below meth c9 s.heap [] = W p l e _ s m _ below meth c9 H locs from by rw [eH, eL]]
  clear eH eL
  have hq := qq_in hc
  have f1 := e1
  have f2 := e2
  refine lv_iconst (v := nI (0)) hx hb dX0_lightCandles_0 (by decide) ?_
  refine lv_istore_n (lv' := [(1, .int (nI (0))), (0, .ref (q))]) hx hb dX0_lightCandles_1 rfl hl (by decide) rfl (fun ls hl => ?_)
  -- loop at 2
  have hinv : 0 ≤ qq c ∧ Same w w kr (kr + qq c) ∧ ∃ M : Nat → Nat → Nat, RowsAt w cI kr (qq c) 4 rc M ∧ ∀ a, a < 0 → ∀ j, j < 4 → M a j = col c a j := by
    exact ⟨Nat.zero_le _, Same.rf, M0, hR, fun a ha => absurd ha (Nat.not_lt_zero _)⟩
  obtain ⟨i, w2, hq9⟩ : ∃ (i : Nat) (w2 : va_W), lv_has ls 4 [(0, .ref (q)), (1, .int (nI (i)))] ∧ (i ≤ qq c ∧ Same w w2 kr (kr + qq c) ∧ ∃ M : Nat → Nat → Nat, RowsAt w2 cI kr (qq c) 4 rc M ∧ ∀ a, a < i → ∀ j, j < 4 → M a j = col c a j) ∧ va_P D vwCl (w2) H ∧ va_D A (w2) := ⟨0, w, lv_sub hl [1, 0] rfl, hinv, hP, hD⟩
  clear hl hinv hP hD
  obtain ⟨hl, hinv, hP, hD⟩ := hq9
  obtain ⟨n9_2, hn9⟩ : ∃ q : Nat, qq c - i < q := ⟨_, Nat.lt_succ_self _⟩
  induction n9_2 generalizing ls H locs i w2 with
  | zero => exact absurd hn9 (Nat.not_lt_zero _)
  | succ n9_2 ih2 =>
    obtain ⟨h1, h2, M, hM1, hM2⟩ := hinv; have f1 := (h2.2 kq (by omega)).trans e1; have f2 := (h2.2 kc (by omega)).trans e2
    refine lv_iload_n hx hb dX0_lightCandles_2 rfl (lv_at hl 1 rfl) ?_
    refine lv_aload_n hx hb dX0_lightCandles_3 rfl (lv_at hl 0 rfl) ?_
    refine va_get (D := D) (ci := 0) (v := .ref (cd)) (C := RX0) (T := TX0) (N := 4) hx hb hts hinX0 hown hK hP kq f1 rfl 2 (by decide) lk20 (fun _ h9 => h9) rfl dX0_lightCandles_4 ?_
    refine x_alen hx hb hK hP kc 2 f2 rfl (n := qq c) rfl dX0_lightCandles_7 ?_
    refine x_ge (tgt := 52) hx hb dX0_lightCandles_8 (by decide) (by omega) (by omega) (fun c8 => ?_) (fun c8 => ?_)
    · skip
      exact W.vret hx hb hr (fun t ht hW => ⟨⟨w2, rfl, (by
          have e9 : i = qq c := by omega
          rw [e9] at hM2
          exact ⟨h2, M, hM1, hM2⟩), ⟨by rw [ht]; exact hP, hD⟩⟩, hS.F ht⟩) hS.2.2 dX0_lightCandles_52
    · skip
      refine lv_iload_n hx hb dX0_lightCandles_11 rfl (lv_at hl 1 rfl) ?_
      refine lv_istore_n (lv' := [(2, .int (nI (i))), (0, .ref (q)), (1, .int (nI (i)))]) hx hb dX0_lightCandles_12 rfl hl (by decide) rfl (fun ls hl => ?_)
      refine lv_iconst (v := 3) hx hb dX0_lightCandles_13 (by decide) ?_
      refine lv_istore_n (lv' := [(3, .int (3)), (2, .int (nI (i))), (0, .ref (q)), (1, .int (nI (i)))]) hx hb dX0_lightCandles_14 rfl hl (by decide) rfl (fun ls hl => ?_)
      -- loop at 15
      have hinv : 4 ≤ 4 ∧ 3 = nI 4 - 1 ∧ i = i / c ^ (4 - 4) ∧ Same w w2 kr (kr + qq c) ∧ ∃ M : Nat → Nat → Nat, RowsAt w2 cI kr (qq c) 4 rc M ∧ (∀ a, a < i → ∀ j, j < 4 → M a j = col c a j) ∧ ∀ j, 4 ≤ j → j < 4 → M i j = col c i j := by
        exact ⟨Nat.le_refl _, by decide, by rw [Nat.sub_self, Nat.pow_zero, Nat.div_one], h2, M, hM1, hM2, fun j a b => absurd b (by omega)⟩
      obtain ⟨t, tv, rest, w3, hq9⟩ : ∃ (t : Nat) (tv : Int32) (rest : Nat) (w3 : va_W), lv_has ls 4 [(0, .ref (q)), (1, .int (nI (i))), (2, .int (nI (rest))), (3, .int (tv))] ∧ (t ≤ 4 ∧ tv = nI t - 1 ∧ rest = i / c ^ (4 - t) ∧ Same w w3 kr (kr + qq c) ∧ ∃ M : Nat → Nat → Nat, RowsAt w3 cI kr (qq c) 4 rc M ∧ (∀ a, a < i → ∀ j, j < 4 → M a j = col c a j) ∧ ∀ j, t ≤ j → j < 4 → M i j = col c i j) ∧ va_P D vwCl (w3) H ∧ va_D A (w3) := ⟨4, 3, i, w2, lv_sub hl [2, 3, 1, 0] rfl, hinv, hP, hD⟩
      clear hl hinv hP hD
      obtain ⟨hl, hinv, hP, hD⟩ := hq9
      obtain ⟨n9_15, hn9⟩ : ∃ q : Nat, t < q := ⟨_, Nat.lt_succ_self _⟩
      induction n9_15 generalizing ls H locs t tv rest w3 with
      | zero => exact absurd hn9 (Nat.not_lt_zero _)
      | succ n9_15 ih15 =>
        obtain ⟨k1, k2, k3, k4, M3, k5, k6, k7⟩ := hinv; have f1 := (k4.2 kq (by omega)).trans e1; have f2 := (k4.2 kc (by omega)).trans e2
        refine lv_iload_n hx hb dX0_lightCandles_15 rfl (lv_at hl 3 rfl) ?_
        refine lv_if_lt (tgt := 46) hx hb dX0_lightCandles_16 (by decide) (fun c16 => ?_) (fun c16 => ?_)
        · skip
          refine lv_iinc (v := nI (i + 1)) (lv' := [(1, .int (nI (i + 1))), (0, .ref (q)), (2, .int (nI (rest))), (3, .int (tv))]) hx hb dX0_lightCandles_46 hl (k := 1) rfl (nI_add _ _) (by decide) rfl (fun ls hl => ?_)
          refine lv_goto (tgt := 2) hx hb dX0_lightCandles_49 (by decide) ?_
          exact ih2 (i := i + 1) (w2 := w3) (ls := ls) (hl := lv_sub hl [1, 0] rfl) (H := H) (locs := locs) (hP := hP) (hD := hD) (hS := hS) (hinv := by
              have ht0 : t = 0 := by
                rcases Nat.eq_zero_or_pos t with q9 | q9
                · exact q9
                · exact absurd c16 (by rw [k2, pk_sub1 q9]; exact nI_pos (by omega))
              exact ⟨by omega, k4, M3, k5, rows_up k6 (fun j hj => k7 j (by omega) hj)⟩
            ) (hn9 := by
              omega
            )
        · skip
          have htp : 0 < t := by
            rcases Nat.eq_zero_or_pos t with q9 | q9
            · exact absurd (show tv < 0 by rw [k2, q9]; decide) c16
            · exact q9
          have htv : tv = nI (t - 1) := by rw [k2, pk_sub1 htp]
          refine lv_aload_n hx hb dX0_lightCandles_19 rfl (lv_at hl 0 rfl) ?_
          refine va_get (D := D) (ci := 0) (v := .ref (cd)) (C := RX0) (T := TX0) (N := 4) hx hb hts hinX0 hown hK hP kq f1 rfl 2 (by decide) lk20 (fun _ h9 => h9) rfl dX0_lightCandles_20 ?_
          refine lv_iload_n hx hb dX0_lightCandles_23 rfl (lv_at hl 1 rfl) ?_
          refine x_gald hx hb hK hP kc 2 f2 rfl (i := i) (by omega) (by omega) (r := rc i) (if_pos (by omega)) dX0_lightCandles_24 ?_
          refine lv_iload_n hx hb dX0_lightCandles_25 rfl (lv_at hl 3 rfl) ?_
          refine x_ti (y := nI (t - 1)) (htv) ?_
          refine lv_iload_n hx hb dX0_lightCandles_26 rfl (lv_at hl 2 rfl) ?_
          refine lv_aload_n hx hb dX0_lightCandles_27 rfl (lv_at hl 0 rfl) ?_
          refine va_get (D := D) (ci := 0) (v := .int (nI (c))) (C := RX0) (T := TX0) (N := 4) hx hb hts hinX0 hown hK hP kq f1 rfl 0 (by decide) lk9 (fun _ h9 => h9) rfl dX0_lightCandles_28 ?_
          refine lv_irem hx hb dX0_lightCandles_31 (nI_ne0 (by omega) (by omega)) ?_
          refine x_ti (pk_rem (by rw [k3]; exact Nat.lt_of_le_of_lt (Nat.div_le_self _ _) (by omega)) (by omega) (by omega)) ?_
          refine x_iast hx hb hK hP hD hS (kr + i) 0 (k5 i (by omega)) rfl (i := t - 1) (v := rest % c) (by omega) (by omega) dX0_lightCandles_32 (fun H locs hP hD hS => ?_)
          replace hP : va_P D vwCl ((w3.set (kr + i) (rc i, .inl (cI, 4, .inl (fun z => nI (va_up (M3 i) (t - 1) (rest % c) z)))))) H := hP
          replace hD : va_D A ((w3.set (kr + i) (rc i, .inl (cI, 4, .inl (fun z => nI (va_up (M3 i) (t - 1) (rest % c) z)))))) := hD
          have k8 : Same w (w3.set (kr + i) (rc i, .inl (cI, 4, .inl (fun z => nI (va_up (M3 i) (t - 1) (rest % c) z))))) kr (kr + qq c) := Same.put k4 (by omega) (by omega)
          have f1 := (k8.2 kq (by omega)).trans e1
          refine lv_iload_n hx hb dX0_lightCandles_33 rfl (lv_at hl 2 rfl) ?_
          refine lv_aload_n hx hb dX0_lightCandles_34 rfl (lv_at hl 0 rfl) ?_
          refine va_get (D := D) (ci := 0) (v := .int (nI (c))) (C := RX0) (T := TX0) (N := 4) hx hb hts hinX0 hown hK hP kq f1 rfl 0 (by decide) lk9 (fun _ h9 => h9) rfl dX0_lightCandles_35 ?_
          refine lv_idiv hx hb dX0_lightCandles_38 (nI_ne0 (by omega) (by omega)) ?_
          refine x_ti (pk_div (by rw [k3]; exact Nat.lt_of_le_of_lt (Nat.div_le_self _ _) (by omega)) (by omega) (by omega)) ?_
          refine lv_istore_n (lv' := [(2, .int (nI (rest / c))), (0, .ref (q)), (1, .int (nI (i))), (3, .int (tv))]) hx hb dX0_lightCandles_39 rfl hl (by decide) rfl (fun ls hl => ?_)
          refine lv_iinc (v := nI (t - 1) - 1) (lv' := [(3, .int (nI (t - 1) - 1)), (2, .int (nI (rest / c))), (0, .ref (q)), (1, .int (nI (i)))]) hx hb dX0_lightCandles_40 hl (k := 3) rfl (by rw [htv, Int32.sub_eq_add_neg]; rfl) (by decide) rfl (fun ls hl => ?_)
          refine lv_goto (tgt := 15) hx hb dX0_lightCandles_43 (by decide) ?_
          exact ih15 (t := t - 1) (tv := nI (t - 1) - 1) (rest := rest / c) (w3 := (w3.set (kr + i) (rc i, .inl (cI, 4, .inl (fun z => nI (va_up (M3 i) (t - 1) (rest % c) z)))))) (ls := ls) (hl := lv_sub hl [2, 3, 1, 0] rfl) (H := H) (locs := locs) (hP := hP) (hD := hD) (hS := hS) (hinv := by
              refine ⟨by omega, rfl, ?_, k8, up2 M3 i (t - 1) (rest % c), RowsAt.put k5 (by omega), ?_, ?_⟩
              · rw [k3, Nat.div_div_eq_div_mul, ← Nat.pow_succ]; congr 2; omega
              · intro a ha j hj; simp only [up2, if_neg (show ¬ a = i by omega)]; exact k6 a ha j hj
              · intro j ha hb9; simp only [up2, if_true, va_up]; by_cases e9 : j = t - 1
                · rw [if_pos e9, e9, k3, col, show 3 - (t - 1) = 4 - t by omega]
                · rw [if_neg e9]; exact k7 j (by omega) hb9
            ) (hn9 := by
              omega
            )

set_option maxHeartbeats 4000000 in
set_option maxRecDepth 100000 in
theorem c_X0_tallies (l : Launch) (D : va_G) (cI cZ cG cJ : ClassId) (A : Nat → Prop) (w : va_W) (q : Nat) (c : Nat) (cd : Nat) (tb : Nat) (kq : Nat) (kc : Nat) (kr : Nat) (rc : Nat → Nat) (M : Nat → Nat → Nat) (hc : c = 2 ∨ c = 3) (e1 : w[kq]? = some (q, .inr (0, [.int (nI c), .int (nI (qq c)), .ref cd, .ref tb]))) (e2 : w[kc]? = some (cd, OutC cG (qq c) rc)) (hR : RowsAt w cI kr (qq c) 4 rc M) (hM : ∀ a, a < qq c → ∀ j, j < 4 → M a j = col c a j) : Met l yX0_tallies wsX0_tallies ({ frames := 0, cells := 82, slots := 324, locals := 0 }) (va_Pc [.ref (q)] (Iv D (TY cI cZ cG cJ) A (w))) (va_Qr (fun (u : va_W × Nat) => u.1.length = w.length + 1 + qq c ∧ (∀ k, k < w.length → u.1[k]? = w[k]?) ∧ ∃ (rl : Nat → Nat) (T : Nat → Nat → Nat), u.1[w.length]? = some (u.2, OutC cG (qq c) rl) ∧ RowsAt u.1 cI (w.length + 1) (qq c) c rl T ∧ ∀ a, a < qq c → ∀ x, x < c → T a x = cnt c a x) (fun u a9 t9 => a9 = u.2 ∧ Wd D A (u.1) t9) A) 82 324 A := by
  refine Met.ofW (cc := cX0_tallies) (maxL := 5) (ret := (some (.array (.array .int)))) (by decide) rfl ?_
  intro p e s m args below meth c9 s₁ B hml hv
  obtain ⟨rfl, hP, hD, hB⟩ := hv
  have hK := hB.1
  have hA := hB.2.1
  have hx := B.exec
  have hb := B.bytes
  have hr := B.returns
  have hts := atoms_spec (ws := wsX0_tallies) B.pre
  have hown : s.vm.findClass RX0 = some m.cls := findClass_of_methodNamed B.named
  have hlocks := B.notSynchronized
  have hS : va_S A s.heap s.heap [] := va_S.rf
  have hinX0 : ∀ w ∈ wsX00, w ∈ wsX0_tallies := by decide +kernel
  have lk9 := hts (.fieldLink RX0 9 "HiddenCandles$Palette" "colours" "I") (by decide +kernel)
  have lk15 := hts (.fieldLink RX0 15 "HiddenCandles$Palette" "codes" "I") (by decide +kernel)
  have lk20 := hts (.fieldLink RX0 20 "HiddenCandles$Palette" "candles" "[[I") (by decide +kernel)
  have hl := lv_entry ([.ref (q)]) (n := 5) (Nat.le_of_ble_eq_true rfl)
  rw [lg_entry_eq]
  generalize (lg_sl ([.ref (q)]) ++ List.replicate (5 - (lg_sl ([.ref (q)])).length) Slot.unset).toArray = ls at hl ⊢
  have hl : lv_has ls 5 [(0, .ref (q))] := hl
  obtain ⟨H, eH⟩ : ∃ q, q = s.heap := ⟨_, rfl⟩
  obtain ⟨locs, eL⟩ : ∃ q : List Loc, q = [] := ⟨_, rfl⟩
  replace hP : va_P D vwCl (w) H := by rw [eH]; exact hP
  replace hS : va_S A s.heap H locs := by rw [eH, eL]; exact hS
  rw [show W p l e _ s m _ below meth c9 s.heap [] = W p l e _ s m _ below meth c9 H locs from by rw [eH, eL]]
  clear eH eL
  have hq := qq_in hc
  have hqc : qq c * c ≤ 243 := by rcases hc with rfl | rfl <;> decide
  have f1 := e1
  have f2 := e2
  refine lv_aload_n hx hb dX0_tallies_0 rfl (lv_at hl 0 rfl) ?_
  refine va_get (D := D) (ci := 0) (v := .int (nI (qq c))) (C := RX0) (T := TX0) (N := 4) hx hb hts hinX0 hown hK hP kq f1 rfl 1 (by decide) lk15 (fun _ h9 => h9) rfl dX0_tallies_1 ?_
  refine lv_aload_n hx hb dX0_tallies_4 rfl (lv_at hl 0 rfl) ?_
  refine va_get (D := D) (ci := 0) (v := .int (nI (c))) (C := RX0) (T := TX0) (N := 4) hx hb hts hinX0 hown hK hP kq f1 rfl 0 (by decide) lk9 (fun _ h9 => h9) rfl dX0_tallies_5 ?_
  refine x_mna hx hb hown (hts _ (by decide +kernel)) (hts _ (by decide +kernel)) hB hP hD hS (n := qq c) (k := c) (by omega) (by omega) (by show _ ≤ 82; omega) (by show _ ≤ 324; omega) dX0_tallies_8 (fun tl rl w1 H2 hw1 hw2 hw3 hw4 hP2 hD2 hS2 => ?_)
  clear hP hD hS
  generalize H2 = H at hP2 hS2 ⊢
  have hP := hP2; have hD := hD2; have hS := hS2
  clear hP2 hD2 hS2
  have hlq : kq < w.length := (List.getElem?_eq_some_iff.mp e1).1
  have hlc : kc < w.length := (List.getElem?_eq_some_iff.mp e2).1
  have hlt : ∀ z, z < qq c → kr + z < w.length := fun z hz => (List.getElem?_eq_some_iff.mp (hR z hz)).1
  refine lv_astore_n (lv' := [(1, .ref (tl)), (0, .ref (q))]) hx hb dX0_tallies_12 rfl hl (by decide) rfl (fun ls hl => ?_)
  refine lv_iconst (v := nI (0)) hx hb dX0_tallies_13 (by decide) ?_
  refine lv_istore_n (lv' := [(2, .int (nI (0))), (1, .ref (tl)), (0, .ref (q))]) hx hb dX0_tallies_14 rfl hl (by decide) rfl (fun ls hl => ?_)
  -- loop at 15
  have hinv : 0 ≤ qq c ∧ Same w1 w1 (w.length + 1) (w.length + 1 + qq c) ∧ ∃ T : Nat → Nat → Nat, RowsAt w1 cI (w.length + 1) (qq c) c rl T ∧ (∀ a, a < 0 → ∀ x, x < c → T a x = cnt c a x) ∧ ∀ a, 0 ≤ a → ∀ x, x < c → T a x = 0 := by
    exact ⟨Nat.zero_le _, Same.rf, _, hw4, fun a ha => absurd ha (Nat.not_lt_zero _), fun _ _ _ _ => rfl⟩
  obtain ⟨i, w2, hq9⟩ : ∃ (i : Nat) (w2 : va_W), lv_has ls 5 [(0, .ref (q)), (1, .ref (tl)), (2, .int (nI (i)))] ∧ (i ≤ qq c ∧ Same w1 w2 (w.length + 1) (w.length + 1 + qq c) ∧ ∃ T : Nat → Nat → Nat, RowsAt w2 cI (w.length + 1) (qq c) c rl T ∧ (∀ a, a < i → ∀ x, x < c → T a x = cnt c a x) ∧ ∀ a, i ≤ a → ∀ x, x < c → T a x = 0) ∧ va_P D vwCl (w2) H ∧ va_D A (w2) := ⟨0, w1, lv_sub hl [2, 1, 0] rfl, hinv, hP, hD⟩
  clear hl hinv hP hD
  obtain ⟨hl, hinv, hP, hD⟩ := hq9
  obtain ⟨n9_15, hn9⟩ : ∃ q : Nat, qq c - i < q := ⟨_, Nat.lt_succ_self _⟩
  induction n9_15 generalizing ls H locs i w2 with
  | zero => exact absurd hn9 (Nat.not_lt_zero _)
  | succ n9_15 ih15 =>
    obtain ⟨h1, h2, T2, h3, h4, h5⟩ := hinv; have f1 := (h2.2 kq (by omega)).trans ((hw2 kq hlq).trans e1); have f2 := (h2.2 kc (by omega)).trans ((hw2 kc hlc).trans e2); have f4 := (h2.2 w.length (by omega)).trans hw3; have hRc : RowsAt w2 cI kr (qq c) 4 rc M := fun z hz => by have := hlt z hz; exact (h2.2 _ (by omega)).trans ((hw2 _ this).trans (hR z hz))
    refine lv_iload_n hx hb dX0_tallies_15 rfl (lv_at hl 2 rfl) ?_
    refine lv_aload_n hx hb dX0_tallies_16 rfl (lv_at hl 0 rfl) ?_
    refine va_get (D := D) (ci := 0) (v := .int (nI (qq c))) (C := RX0) (T := TX0) (N := 4) hx hb hts hinX0 hown hK hP kq f1 rfl 1 (by decide) lk15 (fun _ h9 => h9) rfl dX0_tallies_17 ?_
    refine x_ge (tgt := 76) hx hb dX0_tallies_20 (by decide) (by omega) (by omega) (fun c20 => ?_) (fun c20 => ?_)
    · skip
      refine lv_aload_n hx hb dX0_tallies_76 rfl (lv_at hl 1 rfl) ?_
      refine W.widen (k := 82) (n := 324) (by omega) (by omega) ?_
      exact W.aret (v := .ref tl) hx hb hr (Or.inr ⟨_, rfl⟩) (Or.inr ⟨_, rfl⟩) (fun t ht hW => ⟨⟨(w2, tl), tl, rfl, (by
          have e9 : i = qq c := by omega
          rw [e9] at h4
          exact ⟨h2.1.trans hw1, fun k hk => (h2.2 k (by omega)).trans (hw2 k hk), rl, T2, (h2.2 w.length (by omega)).trans hw3, h3, h4⟩), rfl, ⟨by rw [ht]; exact hP, hD⟩⟩, hS.F ht⟩) hS.2.2 dX0_tallies_77
    · skip
      refine lv_iconst (v := nI (0)) hx hb dX0_tallies_23 (by decide) ?_
      refine lv_istore_n (lv' := [(3, .int (nI (0))), (0, .ref (q)), (1, .ref (tl)), (2, .int (nI (i)))]) hx hb dX0_tallies_24 rfl hl (by decide) rfl (fun ls hl => ?_)
      -- loop at 25
      have hinv : 0 ≤ 4 ∧ Same w1 w2 (w.length + 1) (w.length + 1 + qq c) ∧ ∃ T : Nat → Nat → Nat, RowsAt w2 cI (w.length + 1) (qq c) c rl T ∧ (∀ a, a < i → ∀ x, x < c → T a x = cnt c a x) ∧ (∀ a, i + 1 ≤ a → ∀ x, x < c → T a x = 0) ∧ ∀ x, x < c → T i x = cN (fun p => decide (col c i p = x)) 0 := by
        exact ⟨Nat.zero_le _, h2, T2, h3, h4, fun a ha x hx9 => h5 a (by omega) x hx9, fun x hx9 => h5 i (Nat.le_refl _) x hx9⟩
      obtain ⟨j, w3, hq9⟩ : ∃ (j : Nat) (w3 : va_W), lv_has ls 5 [(0, .ref (q)), (1, .ref (tl)), (2, .int (nI (i))), (3, .int (nI (j)))] ∧ (j ≤ 4 ∧ Same w1 w3 (w.length + 1) (w.length + 1 + qq c) ∧ ∃ T : Nat → Nat → Nat, RowsAt w3 cI (w.length + 1) (qq c) c rl T ∧ (∀ a, a < i → ∀ x, x < c → T a x = cnt c a x) ∧ (∀ a, i + 1 ≤ a → ∀ x, x < c → T a x = 0) ∧ ∀ x, x < c → T i x = cN (fun p => decide (col c i p = x)) j) ∧ va_P D vwCl (w3) H ∧ va_D A (w3) := ⟨0, w2, lv_sub hl [1, 2, 3, 0] rfl, hinv, hP, hD⟩
      clear hl hinv hP hD
      obtain ⟨hl, hinv, hP, hD⟩ := hq9
      obtain ⟨n9_25, hn9⟩ : ∃ q : Nat, 4 - j < q := ⟨_, Nat.lt_succ_self _⟩
      induction n9_25 generalizing ls H locs j w3 with
      | zero => exact absurd hn9 (Nat.not_lt_zero _)
      | succ n9_25 ih25 =>
        obtain ⟨k1, k2, T3, k3, k4, k5, k6⟩ := hinv; have hcl := col_lt hc i j; have f1 := (k2.2 kq (by omega)).trans ((hw2 kq hlq).trans e1); have f2 := (k2.2 kc (by omega)).trans ((hw2 kc hlc).trans e2); have f4 := (k2.2 w.length (by omega)).trans hw3; have hRc : RowsAt w3 cI kr (qq c) 4 rc M := fun z hz => by have := hlt z hz; exact (k2.2 _ (by omega)).trans ((hw2 _ this).trans (hR z hz))
        refine lv_iload_n hx hb dX0_tallies_25 rfl (lv_at hl 3 rfl) ?_
        refine lv_iconst (v := nI (4)) hx hb dX0_tallies_26 (by decide) ?_
        refine x_ge (tgt := 70) hx hb dX0_tallies_27 (by decide) (by omega) (by omega) (fun c27 => ?_) (fun c27 => ?_)
        · skip
          refine lv_iinc (v := nI (i + 1)) (lv' := [(2, .int (nI (i + 1))), (0, .ref (q)), (1, .ref (tl)), (3, .int (nI (j)))]) hx hb dX0_tallies_70 hl (k := 2) rfl (nI_add _ _) (by decide) rfl (fun ls hl => ?_)
          refine lv_goto (tgt := 15) hx hb dX0_tallies_73 (by decide) ?_
          exact ih15 (i := i + 1) (w2 := w3) (ls := ls) (hl := lv_sub hl [1, 2, 0] rfl) (H := H) (locs := locs) (hP := hP) (hD := hD) (hS := hS) (hinv := by
              have ej : j = 4 := by omega
              exact ⟨by omega, k2, T3, k3, rows_up k4 (fun x hx9 => by rw [k6 x hx9, ej]; rfl), fun a ha x hx9 => k5 a (by omega) x hx9⟩
            ) (hn9 := by
              omega
            )
        · skip
          refine lv_aload_n hx hb dX0_tallies_30 rfl (lv_at hl 0 rfl) ?_
          refine va_get (D := D) (ci := 0) (v := .ref (cd)) (C := RX0) (T := TX0) (N := 4) hx hb hts hinX0 hown hK hP kq f1 rfl 2 (by decide) lk20 (fun _ h9 => h9) rfl dX0_tallies_31 ?_
          refine lv_iload_n hx hb dX0_tallies_34 rfl (lv_at hl 2 rfl) ?_
          refine x_gald hx hb hK hP kc 2 f2 rfl (i := i) (by omega) (by omega) (r := rc i) (if_pos (by omega)) dX0_tallies_35 ?_
          refine lv_iload_n hx hb dX0_tallies_36 rfl (lv_at hl 3 rfl) ?_
          refine x_iald hx hb hK hP (kr + i) 0 (hRc i (by omega)) rfl (i := j) (by omega) (by omega) dX0_tallies_37 ?_
          refine x_ti (y := nI (col c i j)) (by rw [hM i (by omega) j (by omega)]) ?_
          refine lv_istore (lv' := [(4, .int (nI (col c i j))), (0, .ref (q)), (1, .ref (tl)), (2, .int (nI (i))), (3, .int (nI (j)))]) hx hb dX0_tallies_38 hl (by decide) rfl (fun ls hl => ?_)
          refine lv_iload hx hb dX0_tallies_40 (lv_at hl 0 rfl) ?_
          refine x_lt0 (tgt := 64) hx hb dX0_tallies_42 (by decide) (by omega) ?_
          refine lv_iload hx hb dX0_tallies_45 (lv_at hl 0 rfl) ?_
          refine lv_aload_n hx hb dX0_tallies_47 rfl (lv_at hl 1 rfl) ?_
          refine va_get (D := D) (ci := 0) (v := .int (nI (c))) (C := RX0) (T := TX0) (N := 4) hx hb hts hinX0 hown hK hP kq f1 rfl 0 (by decide) lk9 (fun _ h9 => h9) rfl dX0_tallies_48 ?_
          refine x_ge (tgt := 64) hx hb dX0_tallies_51 (by decide) (by omega) (by omega) (fun c51 => absurd c51 (by omega)) (fun c51 => ?_)
          refine lv_aload_n hx hb dX0_tallies_54 rfl (lv_at hl 2 rfl) ?_
          refine lv_iload_n hx hb dX0_tallies_55 rfl (lv_at hl 3 rfl) ?_
          refine x_gald hx hb hK hP w.length 2 f4 rfl (i := i) (by omega) (by omega) (r := rl i) (if_pos (by omega)) dX0_tallies_56 ?_
          refine lv_iload hx hb dX0_tallies_57 (lv_at hl 0 rfl) ?_
          refine lv_dup2_11 hx hb dX0_tallies_59 rfl rfl ?_
          refine x_iald hx hb hK hP (w.length + 1 + i) 0 (k3 i (by omega)) rfl (i := col c i j) (by omega) (by omega) dX0_tallies_60 ?_
          refine lv_iconst (v := nI (1)) hx hb dX0_tallies_61 (by decide) ?_
          refine lv_iadd hx hb dX0_tallies_62 ?_
          refine x_ti (nI_add _ _) ?_
          refine x_iast hx hb hK hP hD hS (w.length + 1 + i) 0 (k3 i (by omega)) rfl (i := col c i j) (v := (T3 i (col c i j)) + 1) (by omega) (by omega) dX0_tallies_63 (fun H locs hP hD hS => ?_)
          replace hP : va_P D vwCl ((w3.set (w.length + 1 + i) (rl i, .inl (cI, c, .inl (fun z => nI (va_up (T3 i) (col c i j) (T3 i (col c i j) + 1) z)))))) H := hP
          replace hD : va_D A ((w3.set (w.length + 1 + i) (rl i, .inl (cI, c, .inl (fun z => nI (va_up (T3 i) (col c i j) (T3 i (col c i j) + 1) z)))))) := hD
          refine lv_iinc (v := nI (j + 1)) (lv' := [(3, .int (nI (j + 1))), (4, .int (nI (col c i j))), (0, .ref (q)), (1, .ref (tl)), (2, .int (nI (i)))]) hx hb dX0_tallies_64 hl (k := 4) rfl (nI_add _ _) (by decide) rfl (fun ls hl => ?_)
          refine lv_goto (tgt := 25) hx hb dX0_tallies_67 (by decide) ?_
          exact ih25 (j := j + 1) (w3 := (w3.set (w.length + 1 + i) (rl i, .inl (cI, c, .inl (fun z => nI (va_up (T3 i) (col c i j) (T3 i (col c i j) + 1) z)))))) (ls := ls) (hl := lv_sub hl [2, 3, 4, 0] rfl) (H := H) (locs := locs) (hP := hP) (hD := hD) (hS := hS) (hinv := by
              refine ⟨by omega, Same.put k2 (by omega) (by omega), up2 T3 i (col c i j) (T3 i (col c i j) + 1), RowsAt.put k3 (by omega), ?_, ?_, ?_⟩
              · intro a ha x hx9; simp only [up2, if_neg (show ¬ a = i by omega)]; exact k4 a ha x hx9
              · intro a ha x hx9; simp only [up2, if_neg (show ¬ a = i by omega)]; exact k5 a ha x hx9
              · intro x hx9; simp only [up2, if_true]; exact cnt_up k6 x hx9
            ) (hn9 := by
              omega
            )

set_option maxHeartbeats 4000000 in
set_option maxRecDepth 100000 in
theorem c_X0_countSame (l : Launch) (D : va_G) (cI cZ cG cJ : ClassId) (A : Nat → Prop) (w : va_W) (a1 : Nat) (k1 : Nat) (f1 : Nat → Nat) (a2 : Nat) (k2 : Nat) (f2 : Nat → Nat) (n : Nat) (e1 : w[k1]? = some (a1, .inl (cI, n, .inl (fun j => nI (f1 j))))) (e2 : w[k2]? = some (a2, .inl (cI, n, .inl (fun j => nI (f2 j))))) (hn : n ≤ 81) (hb1 : ∀ j, j < n → f1 j ≤ 81) (hb2 : ∀ j, j < n → f2 j ≤ 81) : Met l yX0_countSame wsX0_countSame ({ frames := 0, cells := 0, slots := 0, locals := 0 }) (va_Pc [.ref (a1), .ref (a2)] (Iv D (TY cI cZ cG cJ) A (w))) (vp_Si (fun r => r = nI (cN (fun p => decide (f1 p = f2 p)) n))) 0 0 (fun _ => False) := by
  refine Met.ofW (cc := cX0_countSame) (maxL := 4) (ret := (some .int)) (by decide) rfl ?_
  intro p e s m args below meth c9 s₁ B hml hv
  obtain ⟨rfl, hP, hD, hB⟩ := hv
  have hK := hB.1
  have hA := hB.2.1
  have hx := B.exec
  have hb := B.bytes
  have hr := B.returns
  have hts := atoms_spec (ws := wsX0_countSame) B.pre
  have hown : s.vm.findClass RX0 = some m.cls := findClass_of_methodNamed B.named
  have hlocks := B.notSynchronized
  have hS : va_S A s.heap s.heap [] := va_S.rf
  have hl := lv_entry ([.ref (a1), .ref (a2)]) (n := 4) (Nat.le_of_ble_eq_true rfl)
  rw [lg_entry_eq]
  generalize (lg_sl ([.ref (a1), .ref (a2)]) ++ List.replicate (4 - (lg_sl ([.ref (a1), .ref (a2)])).length) Slot.unset).toArray = ls at hl ⊢
  have hl : lv_has ls 4 [(0, .ref (a1)), (1, .ref (a2))] := hl
  refine lv_iconst (v := nI (0)) hx hb dX0_countSame_0 (by decide) ?_
  refine lv_istore_n (lv' := [(2, .int (nI (0))), (0, .ref (a1)), (1, .ref (a2))]) hx hb dX0_countSame_1 rfl hl (by decide) rfl (fun ls hl => ?_)
  refine lv_iconst (v := nI (0)) hx hb dX0_countSame_2 (by decide) ?_
  refine lv_istore_n (lv' := [(3, .int (nI (0))), (2, .int (nI (0))), (0, .ref (a1)), (1, .ref (a2))]) hx hb dX0_countSame_3 rfl hl (by decide) rfl (fun ls hl => ?_)
  -- loop at 4
  have hinv : 0 ≤ n ∧ 0 = cN (fun p => decide (f1 p = f2 p)) 0 := by
    exact ⟨Nat.zero_le _, rfl⟩
  obtain ⟨r, i, hq9⟩ : ∃ (r : Nat) (i : Nat), lv_has ls 4 [(0, .ref (a1)), (1, .ref (a2)), (2, .int (nI (r))), (3, .int (nI (i)))] ∧ (i ≤ n ∧ r = cN (fun p => decide (f1 p = f2 p)) i) := ⟨0, 0, lv_sub hl [2, 3, 1, 0] rfl, hinv⟩
  clear hl hinv
  obtain ⟨hl, hinv⟩ := hq9
  obtain ⟨n9_4, hn9⟩ : ∃ q : Nat, n - i < q := ⟨_, Nat.lt_succ_self _⟩
  induction n9_4 generalizing ls r i with
  | zero => exact absurd hn9 (Nat.not_lt_zero _)
  | succ n9_4 ih4 =>
    obtain ⟨h1, h2⟩ := hinv; have hle := cN_le (fun p => decide (f1 p = f2 p)) i
    refine lv_iload_n hx hb dX0_countSame_4 rfl (lv_at hl 3 rfl) ?_
    refine lv_aload_n hx hb dX0_countSame_5 rfl (lv_at hl 0 rfl) ?_
    refine x_alen hx hb hK hP k1 0 e1 rfl (n := n) rfl dX0_countSame_6 ?_
    refine x_ge (tgt := 34) hx hb dX0_countSame_7 (by decide) (by omega) (by omega) (fun c7 => ?_) (fun c7 => ?_)
    · skip
      refine lv_iload_n hx hb dX0_countSame_34 rfl (lv_at hl 2 rfl) ?_
      exact W.iret (v := nI (r)) hx hb hr (fun t ht hW => ⟨_, rfl, (by
          have e9 : i = n := by omega
          rw [h2, e9]), ht⟩) (fun _ h => nomatch h) dX0_countSame_35
    · skip
      refine lv_iload_n hx hb dX0_countSame_10 rfl (lv_at hl 3 rfl) ?_
      refine lv_aload_n hx hb dX0_countSame_11 rfl (lv_at hl 1 rfl) ?_
      refine x_alen hx hb hK hP k2 0 e2 rfl (n := n) rfl dX0_countSame_12 ?_
      refine x_ge (tgt := 34) hx hb dX0_countSame_13 (by decide) (by omega) (by omega) (fun c13 => absurd c13 (by omega)) (fun c13 => ?_)
      refine lv_aload_n hx hb dX0_countSame_16 rfl (lv_at hl 0 rfl) ?_
      refine lv_iload_n hx hb dX0_countSame_17 rfl (lv_at hl 3 rfl) ?_
      refine x_iald hx hb hK hP k1 0 e1 rfl (i := i) (by omega) (by omega) dX0_countSame_18 ?_
      refine lv_aload_n hx hb dX0_countSame_19 rfl (lv_at hl 1 rfl) ?_
      refine lv_iload_n hx hb dX0_countSame_20 rfl (lv_at hl 3 rfl) ?_
      refine x_iald hx hb hK hP k2 0 e2 rfl (i := i) (by omega) (by omega) dX0_countSame_21 ?_
      refine x_ne (tgt := 28) hx hb dX0_countSame_22 (by decide) (by have := hb1 i (by omega); have := hb2 i (by omega); omega) (by have := hb1 i (by omega); have := hb2 i (by omega); omega) (fun c22 => ?_) (fun c22 => ?_)
      · skip
        refine lv_iinc (v := nI (i + 1)) (lv' := [(3, .int (nI (i + 1))), (0, .ref (a1)), (1, .ref (a2)), (2, .int (nI (r)))]) hx hb dX0_countSame_28 hl (k := 3) rfl (nI_add _ _) (by decide) rfl (fun ls hl => ?_)
        refine lv_goto (tgt := 4) hx hb dX0_countSame_31 (by decide) ?_
        exact ih4 (r := r) (i := i + 1) (ls := ls) (hl := lv_sub hl [1, 2, 3, 0] rfl) (hinv := by
            exact ⟨by omega, by simp [cN, h2, c22]⟩
          ) (hn9 := by
            omega
          )
      · skip
        refine lv_iinc (v := nI (r + 1)) (lv' := [(2, .int (nI (r + 1))), (0, .ref (a1)), (1, .ref (a2)), (3, .int (nI (i)))]) hx hb dX0_countSame_25 hl (k := 2) rfl (nI_add _ _) (by decide) rfl (fun ls hl => ?_)
        refine lv_iinc (v := nI (i + 1)) (lv' := [(3, .int (nI (i + 1))), (2, .int (nI (r + 1))), (0, .ref (a1)), (1, .ref (a2))]) hx hb dX0_countSame_28 hl (k := 3) rfl (nI_add _ _) (by decide) rfl (fun ls hl => ?_)
        refine lv_goto (tgt := 4) hx hb dX0_countSame_31 (by decide) ?_
        exact ih4 (r := r + 1) (i := i + 1) (ls := ls) (hl := lv_sub hl [2, 3, 1, 0] rfl) (hinv := by
            exact ⟨by omega, by simp [cN, h2, c22]⟩
          ) (hn9 := by
            omega
          )

set_option maxHeartbeats 4000000 in
set_option maxRecDepth 100000 in
theorem c_X0_countShared (l : Launch) (D : va_G) (cI cZ cG cJ : ClassId) (A : Nat → Prop) (w : va_W) (a1 : Nat) (k1 : Nat) (f1 : Nat → Nat) (a2 : Nat) (k2 : Nat) (f2 : Nat → Nat) (n : Nat) (e1 : w[k1]? = some (a1, .inl (cI, n, .inl (fun j => nI (f1 j))))) (e2 : w[k2]? = some (a2, .inl (cI, n, .inl (fun j => nI (f2 j))))) (hn : n ≤ 81) (hb1 : ∀ j, j < n → f1 j ≤ 81) (hb2 : ∀ j, j < n → f2 j ≤ 81) : Met l yX0_countShared wsX0_countShared ({ frames := 1, cells := 0, slots := 0, locals := 21 }) (va_Pc [.ref (a1), .ref (a2)] (Iv D (TY cI cZ cG cJ) A (w))) (vp_Si (fun r => r = nI (sN (fun p => min (f1 p) (f2 p)) n))) 0 0 (fun _ => False) := by
  refine Met.ofW (cc := cX0_countShared) (maxL := 4) (ret := (some .int)) (by decide) rfl ?_
  intro p e s m args below meth c9 s₁ B hml hv
  obtain ⟨rfl, hP, hD, hB⟩ := hv
  have hK := hB.1
  have hA := hB.2.1
  have hx := B.exec
  have hb := B.bytes
  have hr := B.returns
  have hts := atoms_spec (ws := wsX0_countShared) B.pre
  have hown : s.vm.findClass RX0 = some m.cls := findClass_of_methodNamed B.named
  have hlocks := B.notSynchronized
  have hS : va_S A s.heap s.heap [] := va_S.rf
  have hl := lv_entry ([.ref (a1), .ref (a2)]) (n := 4) (Nat.le_of_ble_eq_true rfl)
  rw [lg_entry_eq]
  generalize (lg_sl ([.ref (a1), .ref (a2)]) ++ List.replicate (4 - (lg_sl ([.ref (a1), .ref (a2)])).length) Slot.unset).toArray = ls at hl ⊢
  have hl : lv_has ls 4 [(0, .ref (a1)), (1, .ref (a2))] := hl
  refine lv_iconst (v := nI (0)) hx hb dX0_countShared_0 (by decide) ?_
  refine lv_istore_n (lv' := [(2, .int (nI (0))), (0, .ref (a1)), (1, .ref (a2))]) hx hb dX0_countShared_1 rfl hl (by decide) rfl (fun ls hl => ?_)
  refine lv_iconst (v := nI (0)) hx hb dX0_countShared_2 (by decide) ?_
  refine lv_istore_n (lv' := [(3, .int (nI (0))), (2, .int (nI (0))), (0, .ref (a1)), (1, .ref (a2))]) hx hb dX0_countShared_3 rfl hl (by decide) rfl (fun ls hl => ?_)
  -- loop at 4
  have hinv : 0 ≤ n ∧ 0 = sN (fun p => min (f1 p) (f2 p)) 0 := by
    exact ⟨Nat.zero_le _, rfl⟩
  obtain ⟨r, i, hq9⟩ : ∃ (r : Nat) (i : Nat), lv_has ls 4 [(0, .ref (a1)), (1, .ref (a2)), (2, .int (nI (r))), (3, .int (nI (i)))] ∧ (i ≤ n ∧ r = sN (fun p => min (f1 p) (f2 p)) i) := ⟨0, 0, lv_sub hl [2, 3, 1, 0] rfl, hinv⟩
  clear hl hinv
  obtain ⟨hl, hinv⟩ := hq9
  obtain ⟨n9_4, hn9⟩ : ∃ q : Nat, n - i < q := ⟨_, Nat.lt_succ_self _⟩
  induction n9_4 generalizing ls r i with
  | zero => exact absurd hn9 (Nat.not_lt_zero _)
  | succ n9_4 ih4 =>
    obtain ⟨h1, h2⟩ := hinv
    refine lv_iload_n hx hb dX0_countShared_4 rfl (lv_at hl 3 rfl) ?_
    refine lv_aload_n hx hb dX0_countShared_5 rfl (lv_at hl 0 rfl) ?_
    refine x_alen hx hb hK hP k1 0 e1 rfl (n := n) rfl dX0_countShared_6 ?_
    refine x_ge (tgt := 34) hx hb dX0_countShared_7 (by decide) (by omega) (by omega) (fun c7 => ?_) (fun c7 => ?_)
    · skip
      refine lv_iload_n hx hb dX0_countShared_34 rfl (lv_at hl 2 rfl) ?_
      exact W.iret (v := nI (r)) hx hb hr (fun t ht hW => ⟨_, rfl, (by
          have e9 : i = n := by omega
          rw [h2, e9]), ht⟩) (fun _ h => nomatch h) dX0_countShared_35
    · skip
      refine lv_iload_n hx hb dX0_countShared_10 rfl (lv_at hl 3 rfl) ?_
      refine lv_aload_n hx hb dX0_countShared_11 rfl (lv_at hl 1 rfl) ?_
      refine x_alen hx hb hK hP k2 0 e2 rfl (n := n) rfl dX0_countShared_12 ?_
      refine x_ge (tgt := 34) hx hb dX0_countShared_13 (by decide) (by omega) (by omega) (fun c13 => absurd c13 (by omega)) (fun c13 => ?_)
      refine lv_iload_n hx hb dX0_countShared_16 rfl (lv_at hl 2 rfl) ?_
      refine lv_aload_n hx hb dX0_countShared_17 rfl (lv_at hl 0 rfl) ?_
      refine lv_iload_n hx hb dX0_countShared_18 rfl (lv_at hl 3 rfl) ?_
      refine x_iald hx hb hK hP k1 0 e1 rfl (i := i) (by omega) (by omega) dX0_countShared_19 ?_
      refine lv_aload_n hx hb dX0_countShared_20 rfl (lv_at hl 1 rfl) ?_
      refine lv_iload_n hx hb dX0_countShared_21 rfl (lv_at hl 3 rfl) ?_
      refine x_iald hx hb hK hP k2 0 e2 rfl (i := i) (by omega) (by omega) dX0_countShared_22 ?_
      refine va_mmin hx hb (hml.trans hl.1.symm) hown (hts (.methodLink RX0 44 Lib.Math.min.name) (by decide +kernel)) (hts _ (by decide +kernel)) (hts _ (by decide +kernel)) (hts _ (by decide +kernel)) (Nat.le_of_ble_eq_true rfl) (Nat.le_of_ble_eq_true rfl) (Nat.le_of_ble_eq_true rfl) (Nat.le_of_ble_eq_true rfl) dX0_countShared_23 ?_
      refine x_ti (nI_min (by have := hb1 i (by omega); have := hb2 i (by omega); omega) (by have := hb1 i (by omega); have := hb2 i (by omega); omega)) ?_
      refine lv_iadd hx hb dX0_countShared_26 ?_
      refine x_ti (nI_add _ _) ?_
      refine lv_istore_n (lv' := [(2, .int (nI (r + (min (f1 i) (f2 i))))), (0, .ref (a1)), (1, .ref (a2)), (3, .int (nI (i)))]) hx hb dX0_countShared_27 rfl hl (by decide) rfl (fun ls hl => ?_)
      refine lv_iinc (v := nI (i + 1)) (lv' := [(3, .int (nI (i + 1))), (2, .int (nI (r + (min (f1 i) (f2 i))))), (0, .ref (a1)), (1, .ref (a2))]) hx hb dX0_countShared_28 hl (k := 3) rfl (nI_add _ _) (by decide) rfl (fun ls hl => ?_)
      refine lv_goto (tgt := 4) hx hb dX0_countShared_31 (by decide) ?_
      exact ih4 (r := r + (min (f1 i) (f2 i))) (i := i + 1) (ls := ls) (hl := lv_sub hl [2, 3, 1, 0] rfl) (hinv := by
          exact ⟨by omega, by rw [h2]; rfl⟩
        ) (hn9 := by
          omega
        )

set_option maxHeartbeats 4000000 in
set_option maxRecDepth 100000 in
theorem c_X0_fillTable (l : Launch) (D : va_G) (cI cZ cG cJ : ClassId) (A : Nat → Prop) (w : va_W) (q : Nat) (c : Nat) (cd : Nat) (tb : Nat) (kq : Nat) (kc : Nat) (kr : Nat) (rc : Nat → Nat) (M : Nat → Nat → Nat) (kt : Nat) (krt : Nat) (rt : Nat → Nat) (T0 : Nat → Nat → Nat) (tl : Nat) (kl : Nat) (krl : Nat) (rl : Nat → Nat) (T : Nat → Nat → Nat) (hc : c = 2 ∨ c = 3) (e1 : w[kq]? = some (q, .inr (0, [.int (nI c), .int (nI (qq c)), .ref cd, .ref tb]))) (e2 : w[kc]? = some (cd, OutC cG (qq c) rc)) (e3 : w[kt]? = some (tb, OutC cG (qq c) rt)) (e4 : w[kl]? = some (tl, OutC cG (qq c) rl)) (hR : RowsAt w cI kr (qq c) 4 rc M) (hM : ∀ a, a < qq c → ∀ j, j < 4 → M a j = col c a j) (hRt : RowsAt w cI krt (qq c) (qq c) rt T0) (hRl : RowsAt w cI krl (qq c) c rl T) (hT : ∀ a, a < qq c → ∀ x, x < c → T a x = cnt c a x) (hl1 : kq < krt ∧ kc < krt ∧ kt < krt ∧ kr + qq c ≤ krt ∧ krt + qq c ≤ kl ∧ krt + qq c ≤ krl) : Met l yX0_fillTable wsX0_fillTable ({ frames := 2, cells := 0, slots := 0, locals := 44 }) (va_Pc [.ref (q), .ref (tl)] (Iv D (TY cI cZ cG cJ) A (w))) (va_Qv (fun (u : va_W) => Same w u krt (krt + qq c) ∧ ∃ P : Nat → Nat → Nat, RowsAt u cI krt (qq c) (qq c) rt P ∧ ∀ a, a < qq c → ∀ b, b < qq c → P a b = pins c a b) (fun u => Wd D A (u)) A) 0 0 A := by
  refine Met.ofW (cc := cX0_fillTable) (maxL := 7) (ret := none) (by decide) rfl ?_
  intro p e s m args below meth c9 s₁ B hml hv
  obtain ⟨rfl, hP, hD, hB⟩ := hv
  have hK := hB.1
  have hA := hB.2.1
  have hx := B.exec
  have hb := B.bytes
  have hr := B.returns
  have hts := atoms_spec (ws := wsX0_fillTable) B.pre
  have hown : s.vm.findClass RX0 = some m.cls := findClass_of_methodNamed B.named
  have hlocks := B.notSynchronized
  have hS : va_S A s.heap s.heap [] := va_S.rf
  have hinX0 : ∀ w ∈ wsX00, w ∈ wsX0_fillTable := by decide +kernel
  have lk15 := hts (.fieldLink RX0 15 "HiddenCandles$Palette" "codes" "I") (by decide +kernel)
  have lk20 := hts (.fieldLink RX0 20 "HiddenCandles$Palette" "candles" "[[I") (by decide +kernel)
  have lk23 := hts (.fieldLink RX0 23 "HiddenCandles$Palette" "table" "[[I") (by decide +kernel)
  have hl := lv_entry ([.ref (q), .ref (tl)]) (n := 7) (Nat.le_of_ble_eq_true rfl)
  rw [lg_entry_eq]
  generalize (lg_sl ([.ref (q), .ref (tl)]) ++ List.replicate (7 - (lg_sl ([.ref (q), .ref (tl)])).length) Slot.unset).toArray = ls at hl ⊢
  have hl : lv_has ls 7 [(0, .ref (q)), (1, .ref (tl))] := hl
  obtain ⟨H, eH⟩ : ∃ q, q = s.heap := ⟨_, rfl⟩
  obtain ⟨locs, eL⟩ : ∃ q : List Loc, q = [] := ⟨_, rfl⟩
  replace hP : va_P D vwCl (w) H := by rw [eH]; exact hP
  replace hS : va_S A s.heap H locs := by rw [eH, eL]; exact hS
  rw [show W p l e _ s m _ below meth c9 s.heap [] = W p l e _ s m _ below meth c9 H locs from by rw [eH, eL]]
  clear eH eL
  have hq := qq_in hc
  have f1 := e1
  have f2 := e2
  have f3 := e3
  have f4 := e4
  have hMle : ∀ a z, a < qq c → z < 4 → M a z ≤ 81 := fun a z ha hz => by have := col_lt hc a z; rw [hM a ha z hz]; omega
  have hTle : ∀ a z, a < qq c → z < c → T a z ≤ 81 := fun a z ha hz => by have := cN_le (fun p => decide (col c a p = z)) 4; rw [hT a ha z hz]; unfold cnt; omega
  refine lv_iconst (v := nI (0)) hx hb dX0_fillTable_0 (by decide) ?_
  refine lv_istore_n (lv' := [(2, .int (nI (0))), (0, .ref (q)), (1, .ref (tl))]) hx hb dX0_fillTable_1 rfl hl (by decide) rfl (fun ls hl => ?_)
  -- loop at 2
  have hinv : 0 ≤ qq c ∧ Same w w krt (krt + qq c) ∧ ∃ P : Nat → Nat → Nat, RowsAt w cI krt (qq c) (qq c) rt P ∧ Filled c P 0 0 := by
    exact ⟨Nat.zero_le _, Same.rf, T0, hRt, fun a b h => absurd h (by omega)⟩
  obtain ⟨i, w2, hq9⟩ : ∃ (i : Nat) (w2 : va_W), lv_has ls 7 [(0, .ref (q)), (1, .ref (tl)), (2, .int (nI (i)))] ∧ (i ≤ qq c ∧ Same w w2 krt (krt + qq c) ∧ ∃ P : Nat → Nat → Nat, RowsAt w2 cI krt (qq c) (qq c) rt P ∧ Filled c P i 0) ∧ va_P D vwCl (w2) H ∧ va_D A (w2) := ⟨0, w, lv_sub hl [1, 2, 0] rfl, hinv, hP, hD⟩
  clear hl hinv hP hD
  obtain ⟨hl, hinv, hP, hD⟩ := hq9
  obtain ⟨n9_2, hn9⟩ : ∃ q : Nat, qq c - i < q := ⟨_, Nat.lt_succ_self _⟩
  induction n9_2 generalizing ls H locs i w2 with
  | zero => exact absurd hn9 (Nat.not_lt_zero _)
  | succ n9_2 ih2 =>
    obtain ⟨h1, h2, P2, h3, h4⟩ := hinv; have f1 := (h2.2 kq (by omega)).trans e1; have f2 := (h2.2 kc (by omega)).trans e2; have f3 := (h2.2 kt (by omega)).trans e3; have f4 := (h2.2 kl (by omega)).trans e4; have hRc := RowsAt.keep hR h2 (by omega); have hRll := RowsAt.keep hRl h2 (by omega)
    refine lv_iload_n hx hb dX0_fillTable_2 rfl (lv_at hl 2 rfl) ?_
    refine lv_aload_n hx hb dX0_fillTable_3 rfl (lv_at hl 0 rfl) ?_
    refine va_get (D := D) (ci := 0) (v := .int (nI (qq c))) (C := RX0) (T := TX0) (N := 4) hx hb hts hinX0 hown hK hP kq f1 rfl 1 (by decide) lk15 (fun _ h9 => h9) rfl dX0_fillTable_4 ?_
    refine x_ge (tgt := 89) hx hb dX0_fillTable_7 (by decide) (by omega) (by omega) (fun c7 => ?_) (fun c7 => ?_)
    · skip
      exact W.vret hx hb hr (fun t ht hW => ⟨⟨w2, rfl, (by
          have e9 : i = qq c := by omega
          rw [e9] at h4
          exact ⟨h2, P2, h3, fun a ha b hb => h4 a b (Or.inl ⟨ha, hb⟩)⟩), ⟨by rw [ht]; exact hP, hD⟩⟩, hS.F ht⟩) hS.2.2 dX0_fillTable_89
    · skip
      refine lv_iconst (v := nI (0)) hx hb dX0_fillTable_10 (by decide) ?_
      refine lv_istore_n (lv' := [(3, .int (nI (0))), (0, .ref (q)), (1, .ref (tl)), (2, .int (nI (i)))]) hx hb dX0_fillTable_11 rfl hl (by decide) rfl (fun ls hl => ?_)
      -- loop at 12
      have hinv : 0 ≤ i + 1 ∧ Same w w2 krt (krt + qq c) ∧ ∃ P : Nat → Nat → Nat, RowsAt w2 cI krt (qq c) (qq c) rt P ∧ Filled c P i 0 := by
        exact ⟨Nat.zero_le _, h2, P2, h3, h4⟩
      obtain ⟨j, w3, hq9⟩ : ∃ (j : Nat) (w3 : va_W), lv_has ls 7 [(0, .ref (q)), (1, .ref (tl)), (2, .int (nI (i))), (3, .int (nI (j)))] ∧ (j ≤ i + 1 ∧ Same w w3 krt (krt + qq c) ∧ ∃ P : Nat → Nat → Nat, RowsAt w3 cI krt (qq c) (qq c) rt P ∧ Filled c P i j) ∧ va_P D vwCl (w3) H ∧ va_D A (w3) := ⟨0, w2, lv_sub hl [1, 2, 3, 0] rfl, hinv, hP, hD⟩
      clear hl hinv hP hD
      obtain ⟨hl, hinv, hP, hD⟩ := hq9
      obtain ⟨n9_12, hn9⟩ : ∃ q : Nat, i + 1 - j < q := ⟨_, Nat.lt_succ_self _⟩
      induction n9_12 generalizing ls H locs j w3 with
      | zero => exact absurd hn9 (Nat.not_lt_zero _)
      | succ n9_12 ih12 =>
        obtain ⟨k1, k2, P3, k3, k4⟩ := hinv; have f1 := (k2.2 kq (by omega)).trans e1; have f2 := (k2.2 kc (by omega)).trans e2; have f3 := (k2.2 kt (by omega)).trans e3; have f4 := (k2.2 kl (by omega)).trans e4; have hRc := RowsAt.keep hR k2 (by omega); have hRll := RowsAt.keep hRl k2 (by omega); have hps := pins_tab hc (a := i) (b := j)
        refine lv_iload_n hx hb dX0_fillTable_12 rfl (lv_at hl 3 rfl) ?_
        refine lv_iload_n hx hb dX0_fillTable_13 rfl (lv_at hl 2 rfl) ?_
        refine x_gt (tgt := 83) hx hb dX0_fillTable_14 (by decide) (by omega) (by omega) (fun c14 => ?_) (fun c14 => ?_)
        · skip
          refine lv_iinc (v := nI (i + 1)) (lv' := [(2, .int (nI (i + 1))), (0, .ref (q)), (1, .ref (tl)), (3, .int (nI (j)))]) hx hb dX0_fillTable_83 hl (k := 2) rfl (nI_add _ _) (by decide) rfl (fun ls hl => ?_)
          refine lv_goto (tgt := 2) hx hb dX0_fillTable_86 (by decide) ?_
          exact ih2 (i := i + 1) (w2 := w3) (ls := ls) (hl := lv_sub hl [1, 2, 0] rfl) (H := H) (locs := locs) (hP := hP) (hD := hD) (hS := hS) (hinv := by
              exact ⟨by omega, k2, P3, k3, Filled.next k4 (by omega)⟩
            ) (hn9 := by
              omega
            )
        · skip
          refine lv_aload_n hx hb dX0_fillTable_17 rfl (lv_at hl 0 rfl) ?_
          refine va_get (D := D) (ci := 0) (v := .ref (cd)) (C := RX0) (T := TX0) (N := 4) hx hb hts hinX0 hown hK hP kq f1 rfl 2 (by decide) lk20 (fun _ h9 => h9) rfl dX0_fillTable_18 ?_
          refine lv_iload_n hx hb dX0_fillTable_21 rfl (lv_at hl 2 rfl) ?_
          refine x_gald hx hb hK hP kc 2 f2 rfl (i := i) (by omega) (by omega) (r := rc i) (if_pos (by omega)) dX0_fillTable_22 ?_
          refine lv_aload_n hx hb dX0_fillTable_23 rfl (lv_at hl 0 rfl) ?_
          refine va_get (D := D) (ci := 0) (v := .ref (cd)) (C := RX0) (T := TX0) (N := 4) hx hb hts hinX0 hown hK hP kq f1 rfl 2 (by decide) lk20 (fun _ h9 => h9) rfl dX0_fillTable_24 ?_
          refine lv_iload_n hx hb dX0_fillTable_27 rfl (lv_at hl 3 rfl) ?_
          refine x_gald hx hb hK hP kc 2 f2 rfl (i := j) (by omega) (by omega) (r := rc j) (if_pos (by omega)) dX0_fillTable_28 ?_
          refine x_csi (va_runS (As := [.ref (rc i), .ref (rc j)]) (rest := []) ⟨hx, hb, hml, hown, hts⟩ (c_X0_countSame l D cI cZ cG cJ A w3 (rc i) (kr + i) (M i) (rc j) (kr + j) (M j) 4 (hRc i (by omega)) (hRc j (by omega)) (by omega) (fun z hz => hMle i z (by omega) hz) (fun z hz => hMle j z (by omega) hz)) (va_cwS 2 hts gX0_fillTable_X0_countSame rfl rfl rfl (by decide +kernel) ⟨Nat.le_of_ble_eq_true rfl, Nat.le_of_ble_eq_true rfl⟩) (preS hB hS hP hD) rfl rfl hl.1 rfl (lv_room (Nat.le_of_ble_eq_true rfl)) dX0_fillTable_29 ⟨Nat.le_of_ble_eq_true rfl, Nat.le_of_ble_eq_true rfl⟩) ?_
          refine x_ti (y := nI (blk c i j)) (congrArg nI (cN_congr 4 (fun z hz => by rw [hM i (by omega) z hz, hM j (by omega) z hz]))) ?_
          refine lv_istore (lv' := [(4, .int (nI (blk c i j))), (0, .ref (q)), (1, .ref (tl)), (2, .int (nI (i))), (3, .int (nI (j)))]) hx hb dX0_fillTable_32 hl (by decide) rfl (fun ls hl => ?_)
          refine lv_aload_n hx hb dX0_fillTable_34 rfl (lv_at hl 2 rfl) ?_
          refine lv_iload_n hx hb dX0_fillTable_35 rfl (lv_at hl 3 rfl) ?_
          refine x_gald hx hb hK hP kl 2 f4 rfl (i := i) (by omega) (by omega) (r := rl i) (if_pos (by omega)) dX0_fillTable_36 ?_
          refine lv_aload_n hx hb dX0_fillTable_37 rfl (lv_at hl 2 rfl) ?_
          refine lv_iload_n hx hb dX0_fillTable_38 rfl (lv_at hl 4 rfl) ?_
          refine x_gald hx hb hK hP kl 2 f4 rfl (i := j) (by omega) (by omega) (r := rl j) (if_pos (by omega)) dX0_fillTable_39 ?_
          refine x_csi (va_runS (As := [.ref (rl i), .ref (rl j)]) (rest := []) ⟨hx, hb, hml, hown, hts⟩ (c_X0_countShared l D cI cZ cG cJ A w3 (rl i) (krl + i) (T i) (rl j) (krl + j) (T j) c (hRll i (by omega)) (hRll j (by omega)) (by omega) (fun z hz => hTle i z (by omega) hz) (fun z hz => hTle j z (by omega) hz)) (va_cwS 2 hts gX0_fillTable_X0_countShared rfl rfl rfl (by decide +kernel) ⟨Nat.le_of_ble_eq_true rfl, Nat.le_of_ble_eq_true rfl⟩) (preS hB hS hP hD) rfl rfl hl.1 rfl (lv_room (Nat.le_of_ble_eq_true rfl)) dX0_fillTable_40 ⟨Nat.le_of_ble_eq_true rfl, Nat.le_of_ble_eq_true rfl⟩) ?_
          refine x_ti (y := nI (shr c i j)) (congrArg nI (sN_congr c (fun z hz => by rw [hT i (by omega) z hz, hT j (by omega) z hz]))) ?_
          refine lv_istore (lv' := [(5, .int (nI (shr c i j))), (4, .int (nI (blk c i j))), (0, .ref (q)), (1, .ref (tl)), (2, .int (nI (i))), (3, .int (nI (j)))]) hx hb dX0_fillTable_43 hl (by decide) rfl (fun ls hl => ?_)
          refine lv_iconst (v := nI (5)) hx hb dX0_fillTable_45 (by decide) ?_
          refine lv_iload hx hb dX0_fillTable_46 (lv_at hl 1 rfl) ?_
          refine lv_imul hx hb dX0_fillTable_48 ?_
          refine x_ti (pk_mul _ _) ?_
          refine lv_iload hx hb dX0_fillTable_49 (lv_at hl 0 rfl) ?_
          refine lv_iadd hx hb dX0_fillTable_51 ?_
          refine x_ti (nI_add _ _) ?_
          refine lv_iload hx hb dX0_fillTable_52 (lv_at hl 1 rfl) ?_
          refine lv_isub hx hb dX0_fillTable_54 ?_
          refine x_ti (pk_sub (by omega)) ?_
          refine x_ti (y := nI (pins c i j)) (by rw [pins_eq]; rfl) ?_
          refine lv_istore (lv' := [(6, .int (nI (pins c i j))), (5, .int (nI (shr c i j))), (4, .int (nI (blk c i j))), (0, .ref (q)), (1, .ref (tl)), (2, .int (nI (i))), (3, .int (nI (j)))]) hx hb dX0_fillTable_55 hl (by decide) rfl (fun ls hl => ?_)
          refine lv_aload_n hx hb dX0_fillTable_57 rfl (lv_at hl 3 rfl) ?_
          refine va_get (D := D) (ci := 0) (v := .ref (tb)) (C := RX0) (T := TX0) (N := 4) hx hb hts hinX0 hown hK hP kq f1 rfl 3 (by decide) lk23 (fun _ h9 => h9) rfl dX0_fillTable_58 ?_
          refine lv_iload_n hx hb dX0_fillTable_61 rfl (lv_at hl 5 rfl) ?_
          refine x_gald hx hb hK hP kt 2 f3 rfl (i := i) (by omega) (by omega) (r := rt i) (if_pos (by omega)) dX0_fillTable_62 ?_
          refine lv_iload_n hx hb dX0_fillTable_63 rfl (lv_at hl 6 rfl) ?_
          refine lv_iload hx hb dX0_fillTable_64 (lv_at hl 0 rfl) ?_
          refine x_iast hx hb hK hP hD hS (krt + i) 0 (k3 i (by omega)) rfl (i := j) (v := pins c i j) (by omega) (by omega) dX0_fillTable_66 (fun H locs hP hD hS => ?_)
          replace hP : va_P D vwCl ((w3.set (krt + i) (rt i, .inl (cI, qq c, .inl (fun z => nI (va_up (P3 i) j (pins c i j) z)))))) H := hP
          replace hD : va_D A ((w3.set (krt + i) (rt i, .inl (cI, qq c, .inl (fun z => nI (va_up (P3 i) j (pins c i j) z)))))) := hD
          have k5 : Same w (w3.set (krt + i) (rt i, .inl (cI, qq c, .inl (fun z => nI (va_up (P3 i) j (pins c i j) z))))) krt (krt + qq c) := Same.put k2 (by omega) (by omega)
          have k7 := RowsAt.put (j := j) (v := pins c i j) k3 (show i < qq c by omega)
          have f1 := (k5.2 kq (by omega)).trans e1; have f3 := (k5.2 kt (by omega)).trans e3
          refine lv_aload_n hx hb dX0_fillTable_67 rfl (lv_at hl 3 rfl) ?_
          refine va_get (D := D) (ci := 0) (v := .ref (tb)) (C := RX0) (T := TX0) (N := 4) hx hb hts hinX0 hown hK hP kq f1 rfl 3 (by decide) lk23 (fun _ h9 => h9) rfl dX0_fillTable_68 ?_
          refine lv_iload_n hx hb dX0_fillTable_71 rfl (lv_at hl 6 rfl) ?_
          refine x_gald hx hb hK hP kt 2 f3 rfl (i := j) (by omega) (by omega) (r := rt j) (if_pos (by omega)) dX0_fillTable_72 ?_
          refine lv_iload_n hx hb dX0_fillTable_73 rfl (lv_at hl 5 rfl) ?_
          refine lv_iload hx hb dX0_fillTable_74 (lv_at hl 0 rfl) ?_
          refine x_iast hx hb hK hP hD hS (krt + j) 0 (k7 j (by omega)) rfl (i := i) (v := pins c i j) (by omega) (by omega) dX0_fillTable_76 (fun H locs hP hD hS => ?_)
          replace hP : va_P D vwCl (((w3.set (krt + i) (rt i, .inl (cI, qq c, .inl (fun z => nI (va_up (P3 i) j (pins c i j) z))))).set (krt + j) (rt j, .inl (cI, qq c, .inl (fun z => nI (va_up (up2 P3 i j (pins c i j) j) i (pins c i j) z)))))) H := hP
          replace hD : va_D A (((w3.set (krt + i) (rt i, .inl (cI, qq c, .inl (fun z => nI (va_up (P3 i) j (pins c i j) z))))).set (krt + j) (rt j, .inl (cI, qq c, .inl (fun z => nI (va_up (up2 P3 i j (pins c i j) j) i (pins c i j) z)))))) := hD
          have k6 : Same w ((w3.set (krt + i) (rt i, .inl (cI, qq c, .inl (fun z => nI (va_up (P3 i) j (pins c i j) z))))).set (krt + j) (rt j, .inl (cI, qq c, .inl (fun z => nI (va_up (up2 P3 i j (pins c i j) j) i (pins c i j) z))))) krt (krt + qq c) := Same.put k5 (by omega) (by omega)
          refine lv_iinc (v := nI (j + 1)) (lv' := [(3, .int (nI (j + 1))), (6, .int (nI (pins c i j))), (5, .int (nI (shr c i j))), (4, .int (nI (blk c i j))), (0, .ref (q)), (1, .ref (tl)), (2, .int (nI (i)))]) hx hb dX0_fillTable_77 hl (k := 6) rfl (nI_add _ _) (by decide) rfl (fun ls hl => ?_)
          refine lv_goto (tgt := 12) hx hb dX0_fillTable_80 (by decide) ?_
          exact ih12 (j := j + 1) (w3 := ((w3.set (krt + i) (rt i, .inl (cI, qq c, .inl (fun z => nI (va_up (P3 i) j (pins c i j) z))))).set (krt + j) (rt j, .inl (cI, qq c, .inl (fun z => nI (va_up (up2 P3 i j (pins c i j) j) i (pins c i j) z)))))) (ls := ls) (hl := lv_sub hl [4, 5, 6, 0] rfl) (H := H) (locs := locs) (hP := hP) (hD := hD) (hS := hS) (hinv := by
              exact ⟨by omega, k6, up2 (up2 P3 i j (pins c i j)) j i (pins c i j), RowsAt.put (RowsAt.put k3 (by omega)) (by omega), Filled.up k4 (hps (by omega) (by omega)).2.1⟩
            ) (hn9 := by
              omega
            )
