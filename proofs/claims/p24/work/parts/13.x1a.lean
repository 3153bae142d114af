set_option maxHeartbeats 4000000 in
set_option maxRecDepth 100000 in
theorem c_X1_fits (l : Launch) (D : va_G) (cI cZ cG cJ : ClassId) (A : Nat → Prop) (ad : Nat → Nat) (wr : va_W) (hpal : Pals cI cG ad wr) (c : Nat) (g : Nat) (hid : Int32) (code : Nat → Nat) (ans : Nat → Nat) (dbt : Nat → Bool) (opn : Nat → Bool) (ply : Nat → Bool) (hps : Nat → Nat) (k : Nat) (n : Nat) (hc : c = 2 ∨ c = 3) (hk : k < qq c) (hn : n ≤ 12) (hco : CodeOK c n code ans) : Met l yX1_fits wsX1_fits ({ frames := 2, cells := 0, slots := 0, locals := 43 }) (va_Pc [.ref (ad 0), .int (nI (k)), .int (nI (n))] (Iv D (TY cI cZ cG cJ) A (WX ad cI cZ c g hid code ans dbt opn ply hps wr))) (vp_Si (fun r => r = bI (fit c code ans dbt n k))) 0 0 (fun _ => False) := by
  refine Met.ofW (cc := cX1_fits) (maxL := 4) (ret := (some .boolean)) (by decide) rfl ?_
  intro p e s m args below meth c9 s₁ B hml hv
  obtain ⟨rfl, hP, hD, hB⟩ := hv
  have hK := hB.1
  have hA := hB.2.1
  have hx := B.exec
  have hb := B.bytes
  have hr := B.returns
  have hts := atoms_spec (ws := wsX1_fits) B.pre
  have hown : s.vm.findClass RX1 = some m.cls := findClass_of_methodNamed B.named
  have hlocks := B.notSynchronized
  have hS : va_S A s.heap s.heap [] := va_S.rf
  have hinX1 : ∀ w ∈ wsX10, w ∈ wsX1_fits := by decide +kernel
  have lk21 := hts (.fieldLink RX1 21 "HiddenCandles" "palette" "LHiddenCandles$Palette;") (by decide +kernel)
  have lk31 := hts (.fieldLink RX1 31 "HiddenCandles" "guessed" "[I") (by decide +kernel)
  have lk35 := hts (.fieldLink RX1 35 "HiddenCandles" "answers" "[I") (by decide +kernel)
  have lk38 := hts (.fieldLink RX1 38 "HiddenCandles" "doubted" "[Z") (by decide +kernel)
  have hl := lv_entry ([.ref (ad 0), .int (nI (k)), .int (nI (n))]) (n := 4) (Nat.le_of_ble_eq_true rfl)
  rw [lg_entry_eq]
  generalize (lg_sl ([.ref (ad 0), .int (nI (k)), .int (nI (n))]) ++ List.replicate (4 - (lg_sl ([.ref (ad 0), .int (nI (k)), .int (nI (n))])).length) Slot.unset).toArray = ls at hl ⊢
  have hl : lv_has ls 4 [(0, .ref (ad 0)), (1, .int (nI (k))), (2, .int (nI (n)))] := hl
  have hq := qq_in hc
  refine lv_iconst (v := nI (0)) hx hb dX1_fits_0 (by decide) ?_
  refine lv_istore_n (lv' := [(3, .int (nI (0))), (0, .ref (ad 0)), (1, .int (nI (k))), (2, .int (nI (n)))]) hx hb dX1_fits_1 rfl hl (by decide) rfl (fun ls hl => ?_)
  -- loop at 2
  have hinv : 0 ≤ n ∧ fit c code ans dbt 0 k = true := by
    exact ⟨Nat.zero_le _, rfl⟩
  obtain ⟨i, hq9⟩ : ∃ (i : Nat), lv_has ls 4 [(0, .ref (ad 0)), (1, .int (nI (k))), (2, .int (nI (n))), (3, .int (nI (i)))] ∧ (i ≤ n ∧ fit c code ans dbt i k = true) := ⟨0, lv_sub hl [1, 2, 3, 0] rfl, hinv⟩
  clear hl hinv
  obtain ⟨hl, hinv⟩ := hq9
  obtain ⟨n9_2, hn9⟩ : ∃ q : Nat, n - i < q := ⟨_, Nat.lt_succ_self _⟩
  induction n9_2 generalizing ls i with
  | zero => exact absurd hn9 (Nat.not_lt_zero _)
  | succ n9_2 ih2 =>
    obtain ⟨h1, h2⟩ := hinv
    refine lv_iload_n hx hb dX1_fits_2 rfl (lv_at hl 3 rfl) ?_
    refine lv_iload_n hx hb dX1_fits_3 rfl (lv_at hl 2 rfl) ?_
    refine x_ge (tgt := 53) hx hb dX1_fits_4 (by decide) (by omega) (by omega) (fun c4 => ?_) (fun c4 => ?_)
    · skip
      refine lv_iconst (v := bI (true)) hx hb dX1_fits_53 (by decide) ?_
      exact W.zret (v := bI (true)) hx hb hr (bI_narrow _) (fun t ht hW => ⟨_, rfl, (by
          have e9 : i = n := by omega
          subst e9
          rw [h2]), ht⟩) (fun _ h => nomatch h) dX1_fits_54
    · skip
      refine lv_iload_n hx hb dX1_fits_7 rfl (lv_at hl 3 rfl) ?_
      refine lv_bipush (v := nI (12)) hx hb dX1_fits_8 (by decide) ?_
      refine x_ge (tgt := 53) hx hb dX1_fits_10 (by decide) (by omega) (by omega) (fun c10 => absurd c10 (by omega)) (fun c10 => ?_)
      refine lv_aload_n hx hb dX1_fits_13 rfl (lv_at hl 0 rfl) ?_
      refine va_get (D := D) (ci := 1) (v := .ref (ad 3)) (C := RX1) (T := TX1) (N := 11) hx hb hts hinX1 hown hK hP 0 rfl rfl 7 (by decide) lk38 (fun _ h9 => h9) rfl dX1_fits_14 ?_
      refine lv_iload_n hx hb dX1_fits_17 rfl (lv_at hl 3 rfl) ?_
      refine x_zald hx hb hK hP 3 1 rfl rfl (i := i) (by omega) (by omega) dX1_fits_18 ?_
      refine x_zne (tgt := 47) hx hb dX1_fits_19 (by decide) (fun c19 => ?_) (fun c19 => ?_)
      · skip
        refine lv_iinc (v := nI (i + 1)) (lv' := [(3, .int (nI (i + 1))), (0, .ref (ad 0)), (1, .int (nI (k))), (2, .int (nI (n)))]) hx hb dX1_fits_47 hl (k := 3) rfl (nI_add _ _) (by decide) rfl (fun ls hl => ?_)
        refine lv_goto (tgt := 2) hx hb dX1_fits_50 (by decide) ?_
        exact ih2 (i := i + 1) (ls := ls) (hl := lv_sub hl [1, 2, 3, 0] rfl) (hinv := by
            refine ⟨by omega, ?_⟩
            first | (simp [fit, h2, c19]; done) | (simp [fit, h2, c42]; done)
          ) (hn9 := by
            omega
          )
      · skip
        refine lv_aload_n hx hb dX1_fits_22 rfl (lv_at hl 0 rfl) ?_
        refine va_get (D := D) (ci := 1) (v := .ref (pal ad c)) (C := RX1) (T := TX1) (N := 11) hx hb hts hinX1 hown hK hP 0 rfl rfl 2 (by decide) lk21 (fun _ h9 => h9) rfl dX1_fits_23 ?_
        refine lv_aload_n hx hb dX1_fits_26 rfl (lv_at hl 0 rfl) ?_
        refine va_get (D := D) (ci := 1) (v := .ref (ad 1)) (C := RX1) (T := TX1) (N := 11) hx hb hts hinX1 hown hK hP 0 rfl rfl 5 (by decide) lk31 (fun _ h9 => h9) rfl dX1_fits_27 ?_
        refine lv_iload_n hx hb dX1_fits_30 rfl (lv_at hl 3 rfl) ?_
        refine x_iald hx hb hK hP 1 0 rfl rfl (i := i) (by omega) (by omega) dX1_fits_31 ?_
        refine lv_iload_n hx hb dX1_fits_32 rfl (lv_at hl 1 rfl) ?_
        refine x_csi (va_runVN (As := [.int (nI (code i)), .int (nI (k))]) (rest := []) ⟨hx, hb, hml, hown, hts⟩ (c_X0_answerTo l D cI cZ cG cJ A (WX ad cI cZ c g hid code ans dbt opn ply hps wr) (pal ad c) c (code i) k (palX hpal hc) (hc) ((hco i c4).1) (hk)) ⟨va_cnB (host := RX1) 2 hts gX1_fits_X0_answerTo_n77 rfl rfl rfl (hB.2.2.2.2.1 _ (by simp [Nws])) (hts _ (by decide +kernel)) (by decide +kernel) ⟨Nat.le_of_ble_eq_true rfl, Nat.le_of_ble_eq_true rfl⟩, hts _ (by decide +kernel), hts _ (by decide +kernel)⟩ (prePal hB va_S.rf hP hD (palX hpal hc)) rfl rfl hl.1 rfl (lv_room (Nat.le_of_ble_eq_true rfl)) dX1_fits_33 ⟨Nat.le_of_ble_eq_true rfl, Nat.le_of_ble_eq_true rfl⟩) ?_
        have hpi := pins_le hc ((hco i c4).1) (hk)
        refine lv_aload_n hx hb dX1_fits_36 rfl (lv_at hl 0 rfl) ?_
        refine va_get (D := D) (ci := 1) (v := .ref (ad 2)) (C := RX1) (T := TX1) (N := 11) hx hb hts hinX1 hown hK hP 0 rfl rfl 6 (by decide) lk35 (fun _ h9 => h9) rfl dX1_fits_37 ?_
        refine lv_iload_n hx hb dX1_fits_40 rfl (lv_at hl 3 rfl) ?_
        refine x_iald hx hb hK hP 2 0 rfl rfl (i := i) (by omega) (by omega) dX1_fits_41 ?_
        have hai := (hco i c4).2
        refine x_eq (tgt := 47) hx hb dX1_fits_42 (by decide) (by omega) (by omega) (fun c42 => ?_) (fun c42 => ?_)
        · skip
          refine lv_iinc (v := nI (i + 1)) (lv' := [(3, .int (nI (i + 1))), (0, .ref (ad 0)), (1, .int (nI (k))), (2, .int (nI (n)))]) hx hb dX1_fits_47 hl (k := 3) rfl (nI_add _ _) (by decide) rfl (fun ls hl => ?_)
          refine lv_goto (tgt := 2) hx hb dX1_fits_50 (by decide) ?_
          exact ih2 (i := i + 1) (ls := ls) (hl := lv_sub hl [1, 2, 3, 0] rfl) (hinv := by
              refine ⟨by omega, ?_⟩
              first | (simp [fit, h2, c19]; done) | (simp [fit, h2, c42]; done)
            ) (hn9 := by
              omega
            )
        · skip
          refine lv_iconst (v := bI (false)) hx hb dX1_fits_45 (by decide) ?_
          exact W.zret (v := bI (false)) hx hb hr (bI_narrow _) (fun t ht hW => ⟨_, rfl, (by
              rw [fit_false c4 c19 c42]), ht⟩) (fun _ h => nomatch h) dX1_fits_46

set_option maxHeartbeats 4000000 in
set_option maxRecDepth 100000 in
theorem c_X1_countFitting (l : Launch) (D : va_G) (cI cZ cG cJ : ClassId) (A : Nat → Prop) (ad : Nat → Nat) (wr : va_W) (hpal : Pals cI cG ad wr) (c : Nat) (g : Nat) (hid : Int32) (code : Nat → Nat) (ans : Nat → Nat) (dbt : Nat → Bool) (opn : Nat → Bool) (ply : Nat → Bool) (hps : Nat → Nat) (n : Nat) (hc : c = 2 ∨ c = 3) (hn : n ≤ 12) (hco : CodeOK c n code ans) : Met l yX1_countFitting wsX1_countFitting ({ frames := 3, cells := 0, slots := 0, locals := 66 }) (va_Pc [.ref (ad 0), .int (nI (n))] (Iv D (TY cI cZ cG cJ) A (WX ad cI cZ c g hid code ans dbt opn ply hps wr))) (vp_Si (fun r => r = nI (cN (fit c code ans dbt n) (qq c)))) 0 0 (fun _ => False) := by
  refine Met.ofW (cc := cX1_countFitting) (maxL := 4) (ret := (some .int)) (by decide) rfl ?_
  intro p e s m args below meth c9 s₁ B hml hv
  obtain ⟨rfl, hP, hD, hB⟩ := hv
  have hK := hB.1
  have hA := hB.2.1
  have hx := B.exec
  have hb := B.bytes
  have hr := B.returns
  have hts := atoms_spec (ws := wsX1_countFitting) B.pre
  have hown : s.vm.findClass RX1 = some m.cls := findClass_of_methodNamed B.named
  have hlocks := B.notSynchronized
  have hS : va_S A s.heap s.heap [] := va_S.rf
  have hinX0 : ∀ w ∈ wsX00, w ∈ wsX1_countFitting := by decide +kernel
  have hinX1 : ∀ w ∈ wsX10, w ∈ wsX1_countFitting := by decide +kernel
  have lk21 := hts (.fieldLink RX1 21 "HiddenCandles" "palette" "LHiddenCandles$Palette;") (by decide +kernel)
  have hl := lv_entry ([.ref (ad 0), .int (nI (n))]) (n := 4) (Nat.le_of_ble_eq_true rfl)
  rw [lg_entry_eq]
  generalize (lg_sl ([.ref (ad 0), .int (nI (n))]) ++ List.replicate (4 - (lg_sl ([.ref (ad 0), .int (nI (n))])).length) Slot.unset).toArray = ls at hl ⊢
  have hl : lv_has ls 4 [(0, .ref (ad 0)), (1, .int (nI (n)))] := hl
  have hq := qq_in hc
  refine lv_iconst (v := nI (0)) hx hb dX1_countFitting_0 (by decide) ?_
  refine lv_istore_n (lv' := [(2, .int (nI (0))), (0, .ref (ad 0)), (1, .int (nI (n)))]) hx hb dX1_countFitting_1 rfl hl (by decide) rfl (fun ls hl => ?_)
  refine lv_iconst (v := nI (0)) hx hb dX1_countFitting_2 (by decide) ?_
  refine lv_istore_n (lv' := [(3, .int (nI (0))), (2, .int (nI (0))), (0, .ref (ad 0)), (1, .int (nI (n)))]) hx hb dX1_countFitting_3 rfl hl (by decide) rfl (fun ls hl => ?_)
  -- loop at 4
  have hinv : 0 ≤ qq c ∧ 0 = cN (fit c code ans dbt n) 0 := by
    exact ⟨Nat.zero_le _, rfl⟩
  obtain ⟨i, r, hq9⟩ : ∃ (i : Nat) (r : Nat), lv_has ls 4 [(0, .ref (ad 0)), (1, .int (nI (n))), (2, .int (nI (r))), (3, .int (nI (i)))] ∧ (i ≤ qq c ∧ r = cN (fit c code ans dbt n) i) := ⟨0, 0, lv_sub hl [2, 3, 1, 0] rfl, hinv⟩
  clear hl hinv
  obtain ⟨hl, hinv⟩ := hq9
  obtain ⟨n9_4, hn9⟩ : ∃ q : Nat, qq c - i < q := ⟨_, Nat.lt_succ_self _⟩
  induction n9_4 generalizing ls i r with
  | zero => exact absurd hn9 (Nat.not_lt_zero _)
  | succ n9_4 ih4 =>
    obtain ⟨h1, h2⟩ := hinv; have hle := cN_le (fit c code ans dbt n) i
    refine lv_iload_n hx hb dX1_countFitting_4 rfl (lv_at hl 3 rfl) ?_
    refine lv_aload_n hx hb dX1_countFitting_5 rfl (lv_at hl 0 rfl) ?_
    refine va_get (D := D) (ci := 1) (v := .ref (pal ad c)) (C := RX1) (T := TX1) (N := 11) hx hb hts hinX1 hown hK hP 0 rfl rfl 2 (by decide) lk21 (fun _ h9 => h9) rfl dX1_countFitting_6 ?_
    refine x_codes hx hb hts hinX0 hown hK hP (palX hpal hc) (hB.2.2.2.2.1 _ (by simp [Nws])) dX1_countFitting_9 ?_
    refine x_ge (tgt := 33) hx hb dX1_countFitting_12 (by decide) (by omega) (by omega) (fun c12 => ?_) (fun c12 => ?_)
    · skip
      refine lv_iload_n hx hb dX1_countFitting_33 rfl (lv_at hl 2 rfl) ?_
      exact W.iret (v := nI (r)) hx hb hr (fun t ht hW => ⟨_, rfl, (by
          have e9 : i = qq c := by omega
          rw [h2, e9]), ht⟩) (fun _ h => nomatch h) dX1_countFitting_34
    · skip
      refine lv_aload_n hx hb dX1_countFitting_15 rfl (lv_at hl 0 rfl) ?_
      refine lv_iload_n hx hb dX1_countFitting_16 rfl (lv_at hl 3 rfl) ?_
      refine lv_iload_n hx hb dX1_countFitting_17 rfl (lv_at hl 1 rfl) ?_
      refine x_csi (va_runV (As := [.int (nI (i)), .int (nI (n))]) (rest := []) ⟨hx, hb, hml, hown, hts⟩ (c_X1_fits l D cI cZ cG cJ A ad wr hpal c g hid code ans dbt opn ply hps i n (hc) (by omega) (hn) (hco)) (cwV 2 hts gX1_countFitting_X1_fits rfl rfl rfl (by decide +kernel) ⟨Nat.le_of_ble_eq_true rfl, Nat.le_of_ble_eq_true rfl⟩) (preV (ci := 1) (q0 := 0) hB va_S.rf hP hD rfl rfl) rfl rfl hl.1 rfl (lv_room (Nat.le_of_ble_eq_true rfl)) dX1_countFitting_18 ⟨Nat.le_of_ble_eq_true rfl, Nat.le_of_ble_eq_true rfl⟩) ?_
      refine x_zeq (tgt := 27) hx hb dX1_countFitting_21 (by decide) (fun c21 => ?_) (fun c21 => ?_)
      · skip
        refine lv_iinc (v := nI (i + 1)) (lv' := [(3, .int (nI (i + 1))), (0, .ref (ad 0)), (1, .int (nI (n))), (2, .int (nI (r)))]) hx hb dX1_countFitting_27 hl (k := 3) rfl (nI_add _ _) (by decide) rfl (fun ls hl => ?_)
        refine lv_goto (tgt := 4) hx hb dX1_countFitting_30 (by decide) ?_
        exact ih4 (i := i + 1) (r := r) (ls := ls) (hl := lv_sub hl [1, 2, 3, 0] rfl) (hinv := by
            exact ⟨by omega, by simp [cN, h2, c21]⟩
          ) (hn9 := by
            omega
          )
      · skip
        refine lv_iinc (v := nI (r + 1)) (lv' := [(2, .int (nI (r + 1))), (0, .ref (ad 0)), (1, .int (nI (n))), (3, .int (nI (i)))]) hx hb dX1_countFitting_24 hl (k := 2) rfl (nI_add _ _) (by decide) rfl (fun ls hl => ?_)
        refine lv_iinc (v := nI (i + 1)) (lv' := [(3, .int (nI (i + 1))), (2, .int (nI (r + 1))), (0, .ref (ad 0)), (1, .int (nI (n)))]) hx hb dX1_countFitting_27 hl (k := 3) rfl (nI_add _ _) (by decide) rfl (fun ls hl => ?_)
        refine lv_goto (tgt := 4) hx hb dX1_countFitting_30 (by decide) ?_
        exact ih4 (i := i + 1) (r := r + 1) (ls := ls) (hl := lv_sub hl [2, 3, 1, 0] rfl) (hinv := by
            exact ⟨by omega, by simp [cN, h2, c21]⟩
          ) (hn9 := by
            omega
          )

set_option maxHeartbeats 4000000 in
set_option maxRecDepth 100000 in
theorem c_X1_countAnswering (l : Launch) (D : va_G) (cI cZ cG cJ : ClassId) (A : Nat → Prop) (ad : Nat → Nat) (wr : va_W) (hpal : Pals cI cG ad wr) (c : Nat) (g : Nat) (hid : Int32) (code : Nat → Nat) (ans : Nat → Nat) (dbt : Nat → Bool) (opn : Nat → Bool) (ply : Nat → Bool) (hps : Nat → Nat) (a : Nat) (v : Nat) (hc : c = 2 ∨ c = 3) (ha : a < qq c) (hv : v < 32) : Met l yX1_countAnswering wsX1_countAnswering ({ frames := 2, cells := 0, slots := 0, locals := 43 }) (va_Pc [.ref (ad 0), .int (nI (a)), .int (nI (v))] (Iv D (TY cI cZ cG cJ) A (WX ad cI cZ c g hid code ans dbt opn ply hps wr))) (vp_Si (fun r => r = nI (cN (fun k => decide (pins c a k = v)) (qq c)))) 0 0 (fun _ => False) := by
  refine Met.ofW (cc := cX1_countAnswering) (maxL := 5) (ret := (some .int)) (by decide) rfl ?_
  intro p e s m args below meth c9 s₁ B hml hv
  obtain ⟨rfl, hP, hD, hB⟩ := hv
  have hK := hB.1
  have hA := hB.2.1
  have hx := B.exec
  have hb := B.bytes
  have hr := B.returns
  have hts := atoms_spec (ws := wsX1_countAnswering) B.pre
  have hown : s.vm.findClass RX1 = some m.cls := findClass_of_methodNamed B.named
  have hlocks := B.notSynchronized
  have hS : va_S A s.heap s.heap [] := va_S.rf
  have hinX0 : ∀ w ∈ wsX00, w ∈ wsX1_countAnswering := by decide +kernel
  have hinX1 : ∀ w ∈ wsX10, w ∈ wsX1_countAnswering := by decide +kernel
  have lk21 := hts (.fieldLink RX1 21 "HiddenCandles" "palette" "LHiddenCandles$Palette;") (by decide +kernel)
  have hl := lv_entry ([.ref (ad 0), .int (nI (a)), .int (nI (v))]) (n := 5) (Nat.le_of_ble_eq_true rfl)
  rw [lg_entry_eq]
  generalize (lg_sl ([.ref (ad 0), .int (nI (a)), .int (nI (v))]) ++ List.replicate (5 - (lg_sl ([.ref (ad 0), .int (nI (a)), .int (nI (v))])).length) Slot.unset).toArray = ls at hl ⊢
  have hl : lv_has ls 5 [(0, .ref (ad 0)), (1, .int (nI (a))), (2, .int (nI (v)))] := hl
  have hq := qq_in hc
  refine lv_iconst (v := nI (0)) hx hb dX1_countAnswering_0 (by decide) ?_
  refine lv_istore_n (lv' := [(3, .int (nI (0))), (0, .ref (ad 0)), (1, .int (nI (a))), (2, .int (nI (v)))]) hx hb dX1_countAnswering_1 rfl hl (by decide) rfl (fun ls hl => ?_)
  refine lv_iconst (v := nI (0)) hx hb dX1_countAnswering_2 (by decide) ?_
  refine lv_istore (lv' := [(4, .int (nI (0))), (3, .int (nI (0))), (0, .ref (ad 0)), (1, .int (nI (a))), (2, .int (nI (v)))]) hx hb dX1_countAnswering_3 hl (by decide) rfl (fun ls hl => ?_)
  -- loop at 5
  have hinv : 0 ≤ qq c ∧ 0 = cN (fun k => decide (pins c a k = v)) 0 := by
    exact ⟨Nat.zero_le _, rfl⟩
  obtain ⟨i, r, hq9⟩ : ∃ (i : Nat) (r : Nat), lv_has ls 5 [(0, .ref (ad 0)), (1, .int (nI (a))), (2, .int (nI (v))), (3, .int (nI (r))), (4, .int (nI (i)))] ∧ (i ≤ qq c ∧ r = cN (fun k => decide (pins c a k = v)) i) := ⟨0, 0, lv_sub hl [2, 3, 4, 1, 0] rfl, hinv⟩
  clear hl hinv
  obtain ⟨hl, hinv⟩ := hq9
  obtain ⟨n9_5, hn9⟩ : ∃ q : Nat, qq c - i < q := ⟨_, Nat.lt_succ_self _⟩
  induction n9_5 generalizing ls i r with
  | zero => exact absurd hn9 (Nat.not_lt_zero _)
  | succ n9_5 ih5 =>
    obtain ⟨h1, h2⟩ := hinv; have hle := cN_le (fun k => decide (pins c a k = v)) i
    refine lv_iload hx hb dX1_countAnswering_5 (lv_at hl 4 rfl) ?_
    refine lv_aload_n hx hb dX1_countAnswering_7 rfl (lv_at hl 0 rfl) ?_
    refine va_get (D := D) (ci := 1) (v := .ref (pal ad c)) (C := RX1) (T := TX1) (N := 11) hx hb hts hinX1 hown hK hP 0 rfl rfl 2 (by decide) lk21 (fun _ h9 => h9) rfl dX1_countAnswering_8 ?_
    refine x_codes hx hb hts hinX0 hown hK hP (palX hpal hc) (hB.2.2.2.2.1 _ (by simp [Nws])) dX1_countAnswering_11 ?_
    refine x_ge (tgt := 40) hx hb dX1_countAnswering_14 (by decide) (by omega) (by omega) (fun c14 => ?_) (fun c14 => ?_)
    · skip
      refine lv_iload_n hx hb dX1_countAnswering_40 rfl (lv_at hl 3 rfl) ?_
      exact W.iret (v := nI (r)) hx hb hr (fun t ht hW => ⟨_, rfl, (by
          have e9 : i = qq c := by omega
          rw [h2, e9]), ht⟩) (fun _ h => nomatch h) dX1_countAnswering_41
    · skip
      refine lv_aload_n hx hb dX1_countAnswering_17 rfl (lv_at hl 0 rfl) ?_
      refine va_get (D := D) (ci := 1) (v := .ref (pal ad c)) (C := RX1) (T := TX1) (N := 11) hx hb hts hinX1 hown hK hP 0 rfl rfl 2 (by decide) lk21 (fun _ h9 => h9) rfl dX1_countAnswering_18 ?_
      refine lv_iload_n hx hb dX1_countAnswering_21 rfl (lv_at hl 1 rfl) ?_
      refine lv_iload hx hb dX1_countAnswering_22 (lv_at hl 4 rfl) ?_
      refine x_csi (va_runVN (As := [.int (nI (a)), .int (nI (i))]) (rest := []) ⟨hx, hb, hml, hown, hts⟩ (c_X0_answerTo l D cI cZ cG cJ A (WX ad cI cZ c g hid code ans dbt opn ply hps wr) (pal ad c) c a i (palX hpal hc) (hc) (ha) ((by omega))) ⟨va_cnB (host := RX1) 2 hts gX1_countAnswering_X0_answerTo_n77 rfl rfl rfl (hB.2.2.2.2.1 _ (by simp [Nws])) (hts _ (by decide +kernel)) (by decide +kernel) ⟨Nat.le_of_ble_eq_true rfl, Nat.le_of_ble_eq_true rfl⟩, hts _ (by decide +kernel), hts _ (by decide +kernel)⟩ (prePal hB va_S.rf hP hD (palX hpal hc)) rfl rfl hl.1 rfl (lv_room (Nat.le_of_ble_eq_true rfl)) dX1_countAnswering_24 ⟨Nat.le_of_ble_eq_true rfl, Nat.le_of_ble_eq_true rfl⟩) ?_
      have hpi := pins_le hc (ha) ((by omega))
      refine lv_iload_n hx hb dX1_countAnswering_27 rfl (lv_at hl 2 rfl) ?_
      refine x_ne (tgt := 34) hx hb dX1_countAnswering_28 (by decide) (by omega) (by omega) (fun c28 => ?_) (fun c28 => ?_)
      · skip
        refine lv_iinc (v := nI (i + 1)) (lv' := [(4, .int (nI (i + 1))), (0, .ref (ad 0)), (1, .int (nI (a))), (2, .int (nI (v))), (3, .int (nI (r)))]) hx hb dX1_countAnswering_34 hl (k := 4) rfl (nI_add _ _) (by decide) rfl (fun ls hl => ?_)
        refine lv_goto (tgt := 5) hx hb dX1_countAnswering_37 (by decide) ?_
        exact ih5 (i := i + 1) (r := r) (ls := ls) (hl := lv_sub hl [1, 2, 3, 4, 0] rfl) (hinv := by
            exact ⟨by omega, by simp [cN, h2, c28]⟩
          ) (hn9 := by
            omega
          )
      · skip
        refine lv_iinc (v := nI (r + 1)) (lv' := [(3, .int (nI (r + 1))), (0, .ref (ad 0)), (1, .int (nI (a))), (2, .int (nI (v))), (4, .int (nI (i)))]) hx hb dX1_countAnswering_31 hl (k := 3) rfl (nI_add _ _) (by decide) rfl (fun ls hl => ?_)
        refine lv_iinc (v := nI (i + 1)) (lv' := [(4, .int (nI (i + 1))), (3, .int (nI (r + 1))), (0, .ref (ad 0)), (1, .int (nI (a))), (2, .int (nI (v)))]) hx hb dX1_countAnswering_34 hl (k := 4) rfl (nI_add _ _) (by decide) rfl (fun ls hl => ?_)
        refine lv_goto (tgt := 5) hx hb dX1_countAnswering_37 (by decide) ?_
        exact ih5 (i := i + 1) (r := r + 1) (ls := ls) (hl := lv_sub hl [2, 3, 4, 1, 0] rfl) (hinv := by
            exact ⟨by omega, by simp [cN, h2, c28]⟩
          ) (hn9 := by
            omega
          )

set_option maxHeartbeats 4000000 in
set_option maxRecDepth 100000 in
theorem c_X1_countAllBlack (l : Launch) (D : va_G) (cI cZ cG cJ : ClassId) (A : Nat → Prop) (ad : Nat → Nat) (wr : va_W) (hpal : Pals cI cG ad wr) (c : Nat) (g : Nat) (hid : Int32) (code : Nat → Nat) (ans : Nat → Nat) (dbt : Nat → Bool) (opn : Nat → Bool) (ply : Nat → Bool) (hps : Nat → Nat) (hg : g ≤ 12) (hc : c = 2 ∨ c = 3) (hco : CodeOK c g code ans) : Met l yX1_countAllBlack wsX1_countAllBlack ({ frames := 0, cells := 0, slots := 0, locals := 0 }) (va_Pc [.ref (ad 0)] (Iv D (TY cI cZ cG cJ) A (WX ad cI cZ c g hid code ans dbt opn ply hps wr))) (vp_Si (fun r => r = nI (cN (fun z => decide (ans z = 20)) g))) 0 0 (fun _ => False) := by
  refine Met.ofW (cc := cX1_countAllBlack) (maxL := 3) (ret := (some .int)) (by decide) rfl ?_
  intro p e s m args below meth c9 s₁ B hml hv
  obtain ⟨rfl, hP, hD, hB⟩ := hv
  have hK := hB.1
  have hA := hB.2.1
  have hx := B.exec
  have hb := B.bytes
  have hr := B.returns
  have hts := atoms_spec (ws := wsX1_countAllBlack) B.pre
  have hown : s.vm.findClass RX1 = some m.cls := findClass_of_methodNamed B.named
  have hlocks := B.notSynchronized
  have hS : va_S A s.heap s.heap [] := va_S.rf
  have hinX1 : ∀ w ∈ wsX10, w ∈ wsX1_countAllBlack := by decide +kernel
  have lk28 := hts (.fieldLink RX1 28 "HiddenCandles" "guesses" "I") (by decide +kernel)
  have lk35 := hts (.fieldLink RX1 35 "HiddenCandles" "answers" "[I") (by decide +kernel)
  have hl := lv_entry ([.ref (ad 0)]) (n := 3) (Nat.le_of_ble_eq_true rfl)
  rw [lg_entry_eq]
  generalize (lg_sl ([.ref (ad 0)]) ++ List.replicate (3 - (lg_sl ([.ref (ad 0)])).length) Slot.unset).toArray = ls at hl ⊢
  have hl : lv_has ls 3 [(0, .ref (ad 0))] := hl
  have hq := qq_in hc
  refine lv_iconst (v := nI (0)) hx hb dX1_countAllBlack_0 (by decide) ?_
  refine lv_istore_n (lv' := [(1, .int (nI (0))), (0, .ref (ad 0))]) hx hb dX1_countAllBlack_1 rfl hl (by decide) rfl (fun ls hl => ?_)
  refine lv_iconst (v := nI (0)) hx hb dX1_countAllBlack_2 (by decide) ?_
  refine lv_istore_n (lv' := [(2, .int (nI (0))), (1, .int (nI (0))), (0, .ref (ad 0))]) hx hb dX1_countAllBlack_3 rfl hl (by decide) rfl (fun ls hl => ?_)
  -- loop at 4
  have hinv : 0 ≤ g ∧ 0 = cN (fun z => decide (ans z = 20)) 0 := by
    exact ⟨Nat.zero_le _, rfl⟩
  obtain ⟨i, r, hq9⟩ : ∃ (i : Nat) (r : Nat), lv_has ls 3 [(0, .ref (ad 0)), (1, .int (nI (r))), (2, .int (nI (i)))] ∧ (i ≤ g ∧ r = cN (fun z => decide (ans z = 20)) i) := ⟨0, 0, lv_sub hl [2, 1, 0] rfl, hinv⟩
  clear hl hinv
  obtain ⟨hl, hinv⟩ := hq9
  obtain ⟨n9_4, hn9⟩ : ∃ q : Nat, g - i < q := ⟨_, Nat.lt_succ_self _⟩
  induction n9_4 generalizing ls i r with
  | zero => exact absurd hn9 (Nat.not_lt_zero _)
  | succ n9_4 ih4 =>
    obtain ⟨h1, h2⟩ := hinv; have hle := cN_le (fun z => decide (ans z = 20)) i
    refine lv_iload_n hx hb dX1_countAllBlack_4 rfl (lv_at hl 2 rfl) ?_
    refine lv_aload_n hx hb dX1_countAllBlack_5 rfl (lv_at hl 0 rfl) ?_
    refine va_get (D := D) (ci := 1) (v := .int (nI (g))) (C := RX1) (T := TX1) (N := 11) hx hb hts hinX1 hown hK hP 0 rfl rfl 4 (by decide) lk28 (fun _ h9 => h9) rfl dX1_countAllBlack_6 ?_
    refine x_ge (tgt := 41) hx hb dX1_countAllBlack_9 (by decide) (by omega) (by omega) (fun c9 => ?_) (fun c9 => ?_)
    · skip
      refine lv_iload_n hx hb dX1_countAllBlack_41 rfl (lv_at hl 1 rfl) ?_
      exact W.iret (v := nI (r)) hx hb hr (fun t ht hW => ⟨_, rfl, (by
          have e9 : i = g := by omega
          rw [h2, e9]), ht⟩) (fun _ h => nomatch h) dX1_countAllBlack_42
    · skip
      refine lv_iload_n hx hb dX1_countAllBlack_12 rfl (lv_at hl 2 rfl) ?_
      refine lv_aload_n hx hb dX1_countAllBlack_13 rfl (lv_at hl 0 rfl) ?_
      refine va_get (D := D) (ci := 1) (v := .ref (ad 2)) (C := RX1) (T := TX1) (N := 11) hx hb hts hinX1 hown hK hP 0 rfl rfl 6 (by decide) lk35 (fun _ h9 => h9) rfl dX1_countAllBlack_14 ?_
      refine x_alen hx hb hK hP 2 0 rfl rfl (n := 12) rfl dX1_countAllBlack_17 ?_
      refine x_ge (tgt := 41) hx hb dX1_countAllBlack_18 (by decide) (by omega) (by omega) (fun c18 => absurd c18 (by omega)) (fun c18 => ?_)
      refine lv_aload_n hx hb dX1_countAllBlack_21 rfl (lv_at hl 0 rfl) ?_
      refine va_get (D := D) (ci := 1) (v := .ref (ad 2)) (C := RX1) (T := TX1) (N := 11) hx hb hts hinX1 hown hK hP 0 rfl rfl 6 (by decide) lk35 (fun _ h9 => h9) rfl dX1_countAllBlack_22 ?_
      refine lv_iload_n hx hb dX1_countAllBlack_25 rfl (lv_at hl 2 rfl) ?_
      refine x_iald hx hb hK hP 2 0 rfl rfl (i := i) (by omega) (by omega) dX1_countAllBlack_26 ?_
      have hai := (hco i c9).2
      refine lv_bipush (v := nI (20)) hx hb dX1_countAllBlack_27 (by decide) ?_
      refine x_ne (tgt := 35) hx hb dX1_countAllBlack_29 (by decide) (by omega) (by omega) (fun c29 => ?_) (fun c29 => ?_)
      · skip
        refine lv_iinc (v := nI (i + 1)) (lv' := [(2, .int (nI (i + 1))), (0, .ref (ad 0)), (1, .int (nI (r)))]) hx hb dX1_countAllBlack_35 hl (k := 2) rfl (nI_add _ _) (by decide) rfl (fun ls hl => ?_)
        refine lv_goto (tgt := 4) hx hb dX1_countAllBlack_38 (by decide) ?_
        exact ih4 (i := i + 1) (r := r) (ls := ls) (hl := lv_sub hl [1, 2, 0] rfl) (hinv := by
            exact ⟨by omega, by simp [cN, h2, c29]⟩
          ) (hn9 := by
            omega
          )
      · skip
        refine lv_iinc (v := nI (r + 1)) (lv' := [(1, .int (nI (r + 1))), (0, .ref (ad 0)), (2, .int (nI (i)))]) hx hb dX1_countAllBlack_32 hl (k := 1) rfl (nI_add _ _) (by decide) rfl (fun ls hl => ?_)
        refine lv_iinc (v := nI (i + 1)) (lv' := [(2, .int (nI (i + 1))), (1, .int (nI (r + 1))), (0, .ref (ad 0))]) hx hb dX1_countAllBlack_35 hl (k := 2) rfl (nI_add _ _) (by decide) rfl (fun ls hl => ?_)
        refine lv_goto (tgt := 4) hx hb dX1_countAllBlack_38 (by decide) ?_
        exact ih4 (i := i + 1) (r := r + 1) (ls := ls) (hl := lv_sub hl [2, 1, 0] rfl) (hinv := by
            exact ⟨by omega, by simp [cN, h2, c29]⟩
          ) (hn9 := by
            omega
          )

set_option maxHeartbeats 4000000 in
set_option maxRecDepth 100000 in
theorem c_X1_countDoubted (l : Launch) (D : va_G) (cI cZ cG cJ : ClassId) (A : Nat → Prop) (ad : Nat → Nat) (wr : va_W) (hpal : Pals cI cG ad wr) (c : Nat) (g : Nat) (hid : Int32) (code : Nat → Nat) (ans : Nat → Nat) (dbt : Nat → Bool) (opn : Nat → Bool) (ply : Nat → Bool) (hps : Nat → Nat) (hg : g ≤ 12) : Met l yX1_countDoubted wsX1_countDoubted ({ frames := 0, cells := 0, slots := 0, locals := 0 }) (va_Pc [.ref (ad 0)] (Iv D (TY cI cZ cG cJ) A (WX ad cI cZ c g hid code ans dbt opn ply hps wr))) (vp_Si (fun r => r = nI (cN dbt g))) 0 0 (fun _ => False) := by
  refine Met.ofW (cc := cX1_countDoubted) (maxL := 3) (ret := (some .int)) (by decide) rfl ?_
  intro p e s m args below meth c9 s₁ B hml hv
  obtain ⟨rfl, hP, hD, hB⟩ := hv
  have hK := hB.1
  have hA := hB.2.1
  have hx := B.exec
  have hb := B.bytes
  have hr := B.returns
  have hts := atoms_spec (ws := wsX1_countDoubted) B.pre
  have hown : s.vm.findClass RX1 = some m.cls := findClass_of_methodNamed B.named
  have hlocks := B.notSynchronized
  have hS : va_S A s.heap s.heap [] := va_S.rf
  have hinX1 : ∀ w ∈ wsX10, w ∈ wsX1_countDoubted := by decide +kernel
  have lk28 := hts (.fieldLink RX1 28 "HiddenCandles" "guesses" "I") (by decide +kernel)
  have lk38 := hts (.fieldLink RX1 38 "HiddenCandles" "doubted" "[Z") (by decide +kernel)
  have hl := lv_entry ([.ref (ad 0)]) (n := 3) (Nat.le_of_ble_eq_true rfl)
  rw [lg_entry_eq]
  generalize (lg_sl ([.ref (ad 0)]) ++ List.replicate (3 - (lg_sl ([.ref (ad 0)])).length) Slot.unset).toArray = ls at hl ⊢
  have hl : lv_has ls 3 [(0, .ref (ad 0))] := hl
  refine lv_iconst (v := nI (0)) hx hb dX1_countDoubted_0 (by decide) ?_
  refine lv_istore_n (lv' := [(1, .int (nI (0))), (0, .ref (ad 0))]) hx hb dX1_countDoubted_1 rfl hl (by decide) rfl (fun ls hl => ?_)
  refine lv_iconst (v := nI (0)) hx hb dX1_countDoubted_2 (by decide) ?_
  refine lv_istore_n (lv' := [(2, .int (nI (0))), (1, .int (nI (0))), (0, .ref (ad 0))]) hx hb dX1_countDoubted_3 rfl hl (by decide) rfl (fun ls hl => ?_)
  -- loop at 4
  have hinv : 0 ≤ g ∧ 0 = cN dbt 0 := by
    exact ⟨Nat.zero_le _, rfl⟩
  obtain ⟨i, r, hq9⟩ : ∃ (i : Nat) (r : Nat), lv_has ls 3 [(0, .ref (ad 0)), (1, .int (nI (r))), (2, .int (nI (i)))] ∧ (i ≤ g ∧ r = cN dbt i) := ⟨0, 0, lv_sub hl [2, 1, 0] rfl, hinv⟩
  clear hl hinv
  obtain ⟨hl, hinv⟩ := hq9
  obtain ⟨n9_4, hn9⟩ : ∃ q : Nat, g - i < q := ⟨_, Nat.lt_succ_self _⟩
  induction n9_4 generalizing ls i r with
  | zero => exact absurd hn9 (Nat.not_lt_zero _)
  | succ n9_4 ih4 =>
    obtain ⟨h1, h2⟩ := hinv; have hle := cN_le dbt i
    refine lv_iload_n hx hb dX1_countDoubted_4 rfl (lv_at hl 2 rfl) ?_
    refine lv_aload_n hx hb dX1_countDoubted_5 rfl (lv_at hl 0 rfl) ?_
    refine va_get (D := D) (ci := 1) (v := .int (nI (g))) (C := RX1) (T := TX1) (N := 11) hx hb hts hinX1 hown hK hP 0 rfl rfl 4 (by decide) lk28 (fun _ h9 => h9) rfl dX1_countDoubted_6 ?_
    refine x_ge (tgt := 39) hx hb dX1_countDoubted_9 (by decide) (by omega) (by omega) (fun c9 => ?_) (fun c9 => ?_)
    · skip
      refine lv_iload_n hx hb dX1_countDoubted_39 rfl (lv_at hl 1 rfl) ?_
      exact W.iret (v := nI (r)) hx hb hr (fun t ht hW => ⟨_, rfl, (by
          have e9 : i = g := by omega
          rw [h2, e9]), ht⟩) (fun _ h => nomatch h) dX1_countDoubted_40
    · skip
      refine lv_iload_n hx hb dX1_countDoubted_12 rfl (lv_at hl 2 rfl) ?_
      refine lv_aload_n hx hb dX1_countDoubted_13 rfl (lv_at hl 0 rfl) ?_
      refine va_get (D := D) (ci := 1) (v := .ref (ad 3)) (C := RX1) (T := TX1) (N := 11) hx hb hts hinX1 hown hK hP 0 rfl rfl 7 (by decide) lk38 (fun _ h9 => h9) rfl dX1_countDoubted_14 ?_
      refine x_alen hx hb hK hP 3 1 rfl rfl (n := 12) rfl dX1_countDoubted_17 ?_
      refine x_ge (tgt := 39) hx hb dX1_countDoubted_18 (by decide) (by omega) (by omega) (fun c18 => absurd c18 (by omega)) (fun c18 => ?_)
      refine lv_aload_n hx hb dX1_countDoubted_21 rfl (lv_at hl 0 rfl) ?_
      refine va_get (D := D) (ci := 1) (v := .ref (ad 3)) (C := RX1) (T := TX1) (N := 11) hx hb hts hinX1 hown hK hP 0 rfl rfl 7 (by decide) lk38 (fun _ h9 => h9) rfl dX1_countDoubted_22 ?_
      refine lv_iload_n hx hb dX1_countDoubted_25 rfl (lv_at hl 2 rfl) ?_
      refine x_zald hx hb hK hP 3 1 rfl rfl (i := i) (by omega) (by omega) dX1_countDoubted_26 ?_
      refine x_zeq (tgt := 33) hx hb dX1_countDoubted_27 (by decide) (fun c27 => ?_) (fun c27 => ?_)
      · skip
        refine lv_iinc (v := nI (i + 1)) (lv' := [(2, .int (nI (i + 1))), (0, .ref (ad 0)), (1, .int (nI (r)))]) hx hb dX1_countDoubted_33 hl (k := 2) rfl (nI_add _ _) (by decide) rfl (fun ls hl => ?_)
        refine lv_goto (tgt := 4) hx hb dX1_countDoubted_36 (by decide) ?_
        exact ih4 (i := i + 1) (r := r) (ls := ls) (hl := lv_sub hl [1, 2, 0] rfl) (hinv := by
            exact ⟨by omega, by simp [cN, h2, c27]⟩
          ) (hn9 := by
            omega
          )
      · skip
        refine lv_iinc (v := nI (r + 1)) (lv' := [(1, .int (nI (r + 1))), (0, .ref (ad 0)), (2, .int (nI (i)))]) hx hb dX1_countDoubted_30 hl (k := 1) rfl (nI_add _ _) (by decide) rfl (fun ls hl => ?_)
        refine lv_iinc (v := nI (i + 1)) (lv' := [(2, .int (nI (i + 1))), (1, .int (nI (r + 1))), (0, .ref (ad 0))]) hx hb dX1_countDoubted_33 hl (k := 2) rfl (nI_add _ _) (by decide) rfl (fun ls hl => ?_)
        refine lv_goto (tgt := 4) hx hb dX1_countDoubted_36 (by decide) ?_
        exact ih4 (i := i + 1) (r := r + 1) (ls := ls) (hl := lv_sub hl [2, 1, 0] rfl) (hinv := by
            exact ⟨by omega, by simp [cN, h2, c27]⟩
          ) (hn9 := by
            omega
          )

set_option maxHeartbeats 4000000 in
set_option maxRecDepth 100000 in
theorem c_X1_countHaving (l : Launch) (D : va_G) (cI cZ cG cJ : ClassId) (A : Nat → Prop) (ad : Nat → Nat) (wr : va_W) (hpal : Pals cI cG ad wr) (c : Nat) (g : Nat) (hid : Int32) (code : Nat → Nat) (ans : Nat → Nat) (dbt : Nat → Bool) (opn : Nat → Bool) (ply : Nat → Bool) (hps : Nat → Nat) (pl : Nat) (x : Nat) (hc : c = 2 ∨ c = 3) (hp : pl < 4) (hx9 : x < c) (hop : ∀ k, k < 81 → opn k = true → k < qq c) : Met l yX1_countHaving wsX1_countHaving ({ frames := 2, cells := 0, slots := 0, locals := 43 }) (va_Pc [.ref (ad 0), .int (nI (pl)), .int (nI (x))] (Iv D (TY cI cZ cG cJ) A (WX ad cI cZ c g hid code ans dbt opn ply hps wr))) (vp_Si (fun r => r = nI (cN (fun k => opn k && decide (col c k pl = x)) 81))) 0 0 (fun _ => False) := by
  refine Met.ofW (cc := cX1_countHaving) (maxL := 5) (ret := (some .int)) (by decide) rfl ?_
  intro p e s m args below meth c9 s₁ B hml hv
  obtain ⟨rfl, hP, hD, hB⟩ := hv
  have hK := hB.1
  have hA := hB.2.1
  have hx := B.exec
  have hb := B.bytes
  have hr := B.returns
  have hts := atoms_spec (ws := wsX1_countHaving) B.pre
  have hown : s.vm.findClass RX1 = some m.cls := findClass_of_methodNamed B.named
  have hlocks := B.notSynchronized
  have hS : va_S A s.heap s.heap [] := va_S.rf
  have hinX1 : ∀ w ∈ wsX10, w ∈ wsX1_countHaving := by decide +kernel
  have lk21 := hts (.fieldLink RX1 21 "HiddenCandles" "palette" "LHiddenCandles$Palette;") (by decide +kernel)
  have lk42 := hts (.fieldLink RX1 42 "HiddenCandles" "open" "[Z") (by decide +kernel)
  have hl := lv_entry ([.ref (ad 0), .int (nI (pl)), .int (nI (x))]) (n := 5) (Nat.le_of_ble_eq_true rfl)
  rw [lg_entry_eq]
  generalize (lg_sl ([.ref (ad 0), .int (nI (pl)), .int (nI (x))]) ++ List.replicate (5 - (lg_sl ([.ref (ad 0), .int (nI (pl)), .int (nI (x))])).length) Slot.unset).toArray = ls at hl ⊢
  have hl : lv_has ls 5 [(0, .ref (ad 0)), (1, .int (nI (pl))), (2, .int (nI (x)))] := hl
  have hq := qq_in hc
  refine lv_iconst (v := nI (0)) hx hb dX1_countHaving_0 (by decide) ?_
  refine lv_istore_n (lv' := [(3, .int (nI (0))), (0, .ref (ad 0)), (1, .int (nI (pl))), (2, .int (nI (x)))]) hx hb dX1_countHaving_1 rfl hl (by decide) rfl (fun ls hl => ?_)
  refine lv_iconst (v := nI (0)) hx hb dX1_countHaving_2 (by decide) ?_
  refine lv_istore (lv' := [(4, .int (nI (0))), (3, .int (nI (0))), (0, .ref (ad 0)), (1, .int (nI (pl))), (2, .int (nI (x)))]) hx hb dX1_countHaving_3 hl (by decide) rfl (fun ls hl => ?_)
  -- loop at 5
  have hinv : 0 ≤ 81 ∧ 0 = cN (fun k => opn k && decide (col c k pl = x)) 0 := by
    exact ⟨Nat.zero_le _, rfl⟩
  obtain ⟨i, r, hq9⟩ : ∃ (i : Nat) (r : Nat), lv_has ls 5 [(0, .ref (ad 0)), (1, .int (nI (pl))), (2, .int (nI (x))), (3, .int (nI (r))), (4, .int (nI (i)))] ∧ (i ≤ 81 ∧ r = cN (fun k => opn k && decide (col c k pl = x)) i) := ⟨0, 0, lv_sub hl [2, 3, 4, 1, 0] rfl, hinv⟩
  clear hl hinv
  obtain ⟨hl, hinv⟩ := hq9
  obtain ⟨n9_5, hn9⟩ : ∃ q : Nat, 81 - i < q := ⟨_, Nat.lt_succ_self _⟩
  induction n9_5 generalizing ls i r with
  | zero => exact absurd hn9 (Nat.not_lt_zero _)
  | succ n9_5 ih5 =>
    obtain ⟨h1, h2⟩ := hinv; have hle := cN_le (fun k => opn k && decide (col c k pl = x)) i
    refine lv_iload hx hb dX1_countHaving_5 (lv_at hl 4 rfl) ?_
    refine lv_aload_n hx hb dX1_countHaving_7 rfl (lv_at hl 0 rfl) ?_
    refine va_get (D := D) (ci := 1) (v := .ref (ad 4)) (C := RX1) (T := TX1) (N := 11) hx hb hts hinX1 hown hK hP 0 rfl rfl 8 (by decide) lk42 (fun _ h9 => h9) rfl dX1_countHaving_8 ?_
    refine x_alen hx hb hK hP 4 1 rfl rfl (n := 81) rfl dX1_countHaving_11 ?_
    refine x_ge (tgt := 48) hx hb dX1_countHaving_12 (by decide) (by omega) (by omega) (fun c12 => ?_) (fun c12 => ?_)
    · skip
      refine lv_iload_n hx hb dX1_countHaving_48 rfl (lv_at hl 3 rfl) ?_
      exact W.iret (v := nI (r)) hx hb hr (fun t ht hW => ⟨_, rfl, (by
          have e9 : i = 81 := by omega
          rw [h2, e9]), ht⟩) (fun _ h => nomatch h) dX1_countHaving_49
    · skip
      refine lv_aload_n hx hb dX1_countHaving_15 rfl (lv_at hl 0 rfl) ?_
      refine va_get (D := D) (ci := 1) (v := .ref (ad 4)) (C := RX1) (T := TX1) (N := 11) hx hb hts hinX1 hown hK hP 0 rfl rfl 8 (by decide) lk42 (fun _ h9 => h9) rfl dX1_countHaving_16 ?_
      refine lv_iload hx hb dX1_countHaving_19 (lv_at hl 4 rfl) ?_
      refine x_zald hx hb hK hP 4 1 rfl rfl (i := i) (by omega) (by omega) dX1_countHaving_21 ?_
      refine x_zeq (tgt := 42) hx hb dX1_countHaving_22 (by decide) (fun c22 => ?_) (fun c22 => ?_)
      · skip
        refine lv_iinc (v := nI (i + 1)) (lv' := [(4, .int (nI (i + 1))), (0, .ref (ad 0)), (1, .int (nI (pl))), (2, .int (nI (x))), (3, .int (nI (r)))]) hx hb dX1_countHaving_42 hl (k := 4) rfl (nI_add _ _) (by decide) rfl (fun ls hl => ?_)
        refine lv_goto (tgt := 5) hx hb dX1_countHaving_45 (by decide) ?_
        exact ih5 (i := i + 1) (r := r) (ls := ls) (hl := lv_sub hl [1, 2, 3, 4, 0] rfl) (hinv := by
            refine ⟨by omega, ?_⟩
            first | (simp [cN, h2, c22]; done) | (simp [cN, h2, c22, c36]; done)
          ) (hn9 := by
            omega
          )
      · skip
        refine lv_aload_n hx hb dX1_countHaving_25 rfl (lv_at hl 0 rfl) ?_
        refine va_get (D := D) (ci := 1) (v := .ref (pal ad c)) (C := RX1) (T := TX1) (N := 11) hx hb hts hinX1 hown hK hP 0 rfl rfl 2 (by decide) lk21 (fun _ h9 => h9) rfl dX1_countHaving_26 ?_
        refine lv_iload hx hb dX1_countHaving_29 (lv_at hl 4 rfl) ?_
        refine lv_iload_n hx hb dX1_countHaving_31 rfl (lv_at hl 1 rfl) ?_
        refine x_csi (va_runVN (As := [.int (nI (i)), .int (nI (pl))]) (rest := []) ⟨hx, hb, hml, hown, hts⟩ (c_X0_colourOf l D cI cZ cG cJ A (WX ad cI cZ c g hid code ans dbt opn ply hps wr) (pal ad c) c i pl (palX hpal hc) (hc) (hop i (by omega) c22) (hp)) ⟨va_cnB (host := RX1) 2 hts gX1_countHaving_X0_colourOf_n73 rfl rfl rfl (hB.2.2.2.2.1 _ (by simp [Nws])) (hts _ (by decide +kernel)) (by decide +kernel) ⟨Nat.le_of_ble_eq_true rfl, Nat.le_of_ble_eq_true rfl⟩, hts _ (by decide +kernel), hts _ (by decide +kernel)⟩ (prePal hB va_S.rf hP hD (palX hpal hc)) rfl rfl hl.1 rfl (lv_room (Nat.le_of_ble_eq_true rfl)) dX1_countHaving_32 ⟨Nat.le_of_ble_eq_true rfl, Nat.le_of_ble_eq_true rfl⟩) ?_
        have hcl := col_lt hc (i) (pl)
        refine lv_iload_n hx hb dX1_countHaving_35 rfl (lv_at hl 2 rfl) ?_
        refine x_ne (tgt := 42) hx hb dX1_countHaving_36 (by decide) (by omega) (by omega) (fun c36 => ?_) (fun c36 => ?_)
        · skip
          refine lv_iinc (v := nI (i + 1)) (lv' := [(4, .int (nI (i + 1))), (0, .ref (ad 0)), (1, .int (nI (pl))), (2, .int (nI (x))), (3, .int (nI (r)))]) hx hb dX1_countHaving_42 hl (k := 4) rfl (nI_add _ _) (by decide) rfl (fun ls hl => ?_)
          refine lv_goto (tgt := 5) hx hb dX1_countHaving_45 (by decide) ?_
          exact ih5 (i := i + 1) (r := r) (ls := ls) (hl := lv_sub hl [1, 2, 3, 4, 0] rfl) (hinv := by
              refine ⟨by omega, ?_⟩
              first | (simp [cN, h2, c22]; done) | (simp [cN, h2, c22, c36]; done)
            ) (hn9 := by
              omega
            )
        · skip
          refine lv_iinc (v := nI (r + 1)) (lv' := [(3, .int (nI (r + 1))), (0, .ref (ad 0)), (1, .int (nI (pl))), (2, .int (nI (x))), (4, .int (nI (i)))]) hx hb dX1_countHaving_39 hl (k := 3) rfl (nI_add _ _) (by decide) rfl (fun ls hl => ?_)
          refine lv_iinc (v := nI (i + 1)) (lv' := [(4, .int (nI (i + 1))), (3, .int (nI (r + 1))), (0, .ref (ad 0)), (1, .int (nI (pl))), (2, .int (nI (x)))]) hx hb dX1_countHaving_42 hl (k := 4) rfl (nI_add _ _) (by decide) rfl (fun ls hl => ?_)
          refine lv_goto (tgt := 5) hx hb dX1_countHaving_45 (by decide) ?_
          exact ih5 (i := i + 1) (r := r + 1) (ls := ls) (hl := lv_sub hl [2, 3, 4, 1, 0] rfl) (hinv := by
              refine ⟨by omega, ?_⟩
              first | (simp [cN, h2, c22]; done) | (simp [cN, h2, c22, c36]; done)
            ) (hn9 := by
              omega
            )

set_option maxHeartbeats 4000000 in
set_option maxRecDepth 100000 in
theorem c_X1_keepAnswering (l : Launch) (D : va_G) (cI cZ cG cJ : ClassId) (A : Nat → Prop) (ad : Nat → Nat) (wr : va_W) (hpal : Pals cI cG ad wr) (c : Nat) (g : Nat) (hid : Int32) (code : Nat → Nat) (ans : Nat → Nat) (dbt : Nat → Bool) (opn : Nat → Bool) (ply : Nat → Bool) (hps : Nat → Nat) (a : Nat) (v : Nat) (hc : c = 2 ∨ c = 3) (ha : a < qq c) (hv : v < 32) (hpl : ∀ k, k < 81 → ply k = true → k < qq c) : Met l yX1_keepAnswering wsX1_keepAnswering ({ frames := 2, cells := 0, slots := 0, locals := 43 }) (va_Pc [.ref (ad 0), .ref (ad 5), .int (nI (a)), .int (nI (v))] (Iv D (TY cI cZ cG cJ) A (WX ad cI cZ c g hid code ans dbt opn ply hps wr))) (va_Qv (fun (u : Nat → Bool) => ∀ k, k < 81 → u k = (ply k && decide (pins c a k = v))) (fun u => Wd D A (WX ad cI cZ c g hid code ans dbt opn u hps wr)) A) 0 0 A := by
  refine Met.ofW (cc := cX1_keepAnswering) (maxL := 5) (ret := none) (by decide) rfl ?_
  intro p e s m args below meth c9 s₁ B hml hv
  obtain ⟨rfl, hP, hD, hB⟩ := hv
  have hK := hB.1
  have hA := hB.2.1
  have hx := B.exec
  have hb := B.bytes
  have hr := B.returns
  have hts := atoms_spec (ws := wsX1_keepAnswering) B.pre
  have hown : s.vm.findClass RX1 = some m.cls := findClass_of_methodNamed B.named
  have hlocks := B.notSynchronized
  have hS : va_S A s.heap s.heap [] := va_S.rf
  have hinX1 : ∀ w ∈ wsX10, w ∈ wsX1_keepAnswering := by decide +kernel
  have lk21 := hts (.fieldLink RX1 21 "HiddenCandles" "palette" "LHiddenCandles$Palette;") (by decide +kernel)
  have hl := lv_entry ([.ref (ad 0), .ref (ad 5), .int (nI (a)), .int (nI (v))]) (n := 5) (Nat.le_of_ble_eq_true rfl)
  rw [lg_entry_eq]
  generalize (lg_sl ([.ref (ad 0), .ref (ad 5), .int (nI (a)), .int (nI (v))]) ++ List.replicate (5 - (lg_sl ([.ref (ad 0), .ref (ad 5), .int (nI (a)), .int (nI (v))])).length) Slot.unset).toArray = ls at hl ⊢
  have hl : lv_has ls 5 [(0, .ref (ad 0)), (1, .ref (ad 5)), (2, .int (nI (a))), (3, .int (nI (v)))] := hl
  obtain ⟨H, eH⟩ : ∃ q, q = s.heap := ⟨_, rfl⟩
  obtain ⟨locs, eL⟩ : ∃ q : List Loc, q = [] := ⟨_, rfl⟩
  replace hP : va_P D vwCl (WX ad cI cZ c g hid code ans dbt opn ply hps wr) H := by rw [eH]; exact hP
  replace hS : va_S A s.heap H locs := by rw [eH, eL]; exact hS
  rw [show W p l e _ s m _ below meth c9 s.heap [] = W p l e _ s m _ below meth c9 H locs from by rw [eH, eL]]
  clear eH eL
  have hq := qq_in hc
  refine lv_iconst (v := nI (0)) hx hb dX1_keepAnswering_0 (by decide) ?_
  refine lv_istore (lv' := [(4, .int (nI (0))), (0, .ref (ad 0)), (1, .ref (ad 5)), (2, .int (nI (a))), (3, .int (nI (v)))]) hx hb dX1_keepAnswering_1 hl (by decide) rfl (fun ls hl => ?_)
  -- loop at 3
  have hinv : 0 ≤ 81 ∧ (∀ k, k < 0 → ply k = (ply k && decide (pins c a k = v))) ∧ ∀ k, 0 ≤ k → ply k = ply k := by
    exact ⟨Nat.zero_le _, fun k hk => absurd hk (Nat.not_lt_zero _), fun _ _ => rfl⟩
  obtain ⟨i, p2, hq9⟩ : ∃ (i : Nat) (p2 : Nat → Bool), lv_has ls 5 [(0, .ref (ad 0)), (1, .ref (ad 5)), (2, .int (nI (a))), (3, .int (nI (v))), (4, .int (nI (i)))] ∧ (i ≤ 81 ∧ (∀ k, k < i → p2 k = (ply k && decide (pins c a k = v))) ∧ ∀ k, i ≤ k → p2 k = ply k) ∧ va_P D vwCl (WX ad cI cZ c g hid code ans dbt opn p2 hps wr) H ∧ va_D A (WX ad cI cZ c g hid code ans dbt opn p2 hps wr) := ⟨0, ply, lv_sub hl [1, 2, 3, 4, 0] rfl, hinv, hP, hD⟩
  clear hl hinv hP hD
  obtain ⟨hl, hinv, hP, hD⟩ := hq9
  obtain ⟨n9_3, hn9⟩ : ∃ q : Nat, 81 - i < q := ⟨_, Nat.lt_succ_self _⟩
  induction n9_3 generalizing ls H locs i p2 with
  | zero => exact absurd hn9 (Nat.not_lt_zero _)
  | succ n9_3 ih3 =>
    obtain ⟨h1, h2, h3⟩ := hinv; have h4 := h3 i (Nat.le_refl _)
    refine lv_iload hx hb dX1_keepAnswering_3 (lv_at hl 4 rfl) ?_
    refine lv_aload_n hx hb dX1_keepAnswering_5 rfl (lv_at hl 1 rfl) ?_
    refine x_alen hx hb hK hP 5 1 rfl rfl (n := 81) rfl dX1_keepAnswering_6 ?_
    refine x_ge (tgt := 46) hx hb dX1_keepAnswering_7 (by decide) (by omega) (by omega) (fun c7 => ?_) (fun c7 => ?_)
    · skip
      exact W.vret hx hb hr (fun t ht hW => ⟨⟨p2, rfl, (by
          have e9 : i = 81 := by omega
          subst e9
          exact h2), ⟨by rw [ht]; exact hP, hD⟩⟩, hS.F ht⟩) hS.2.2 dX1_keepAnswering_46
    · skip
      refine lv_aload_n hx hb dX1_keepAnswering_10 rfl (lv_at hl 1 rfl) ?_
      refine lv_iload hx hb dX1_keepAnswering_11 (lv_at hl 4 rfl) ?_
      refine lv_aload_n hx hb dX1_keepAnswering_13 rfl (lv_at hl 1 rfl) ?_
      refine lv_iload hx hb dX1_keepAnswering_14 (lv_at hl 4 rfl) ?_
      refine x_zald hx hb hK hP 5 1 rfl rfl (i := i) (by omega) (by omega) dX1_keepAnswering_16 ?_
      refine x_zeq (tgt := 38) hx hb dX1_keepAnswering_17 (by decide) (fun c17 => ?_) (fun c17 => ?_)
      · skip
        refine lv_iconst (v := bI (false)) hx hb dX1_keepAnswering_38 (by decide) ?_
        refine x_zast hx hb hK hP hD hS 5 1 rfl rfl (i := i) (v := false) (by omega) (by omega) dX1_keepAnswering_39 (fun H locs hP hD hS => ?_)
        replace hP : va_P D vwCl (WX ad cI cZ c g hid code ans dbt opn (va_up p2 i false) hps wr) H := hP
        replace hD : va_D A (WX ad cI cZ c g hid code ans dbt opn (va_up p2 i false) hps wr) := hD
        refine lv_iinc (v := nI (i + 1)) (lv' := [(4, .int (nI (i + 1))), (0, .ref (ad 0)), (1, .ref (ad 5)), (2, .int (nI (a))), (3, .int (nI (v)))]) hx hb dX1_keepAnswering_40 hl (k := 4) rfl (nI_add _ _) (by decide) rfl (fun ls hl => ?_)
        refine lv_goto (tgt := 3) hx hb dX1_keepAnswering_43 (by decide) ?_
        exact ih3 (i := i + 1) (p2 := (va_up p2 i false)) (ls := ls) (hl := lv_sub hl [1, 2, 3, 4, 0] rfl) (H := H) (locs := locs) (hP := hP) (hD := hD) (hS := hS) (hinv := by
            refine ⟨by omega, up_le h2 ?_, up_gt h3⟩
            first | (simp [← h4, c17]; done) | (simp [← h4, c17, c31]; done)
          ) (hn9 := by
            omega
          )
      · skip
        refine lv_aload_n hx hb dX1_keepAnswering_20 rfl (lv_at hl 0 rfl) ?_
        refine va_get (D := D) (ci := 1) (v := .ref (pal ad c)) (C := RX1) (T := TX1) (N := 11) hx hb hts hinX1 hown hK hP 0 rfl rfl 2 (by decide) lk21 (fun _ h9 => h9) rfl dX1_keepAnswering_21 ?_
        refine lv_iload_n hx hb dX1_keepAnswering_24 rfl (lv_at hl 2 rfl) ?_
        refine lv_iload hx hb dX1_keepAnswering_25 (lv_at hl 4 rfl) ?_
        refine x_csi (va_runVN (As := [.int (nI (a)), .int (nI (i))]) (rest := [.int (nI (i)), .ref (ad 5)]) ⟨hx, hb, hml, hown, hts⟩ (c_X0_answerTo l D cI cZ cG cJ A (WX ad cI cZ c g hid code ans dbt opn p2 hps wr) (pal ad c) c a i (palX hpal hc) (hc) (ha) (hpl i (by omega) (by rw [← h4]; exact c17))) ⟨va_cnB (host := RX1) 2 hts gX1_keepAnswering_X0_answerTo_n77 rfl rfl rfl (hB.2.2.2.2.1 _ (by simp [Nws])) (hts _ (by decide +kernel)) (by decide +kernel) ⟨Nat.le_of_ble_eq_true rfl, Nat.le_of_ble_eq_true rfl⟩, hts _ (by decide +kernel), hts _ (by decide +kernel)⟩ (prePal hB hS hP hD (palX hpal hc)) rfl rfl hl.1 rfl (lv_room (Nat.le_of_ble_eq_true rfl)) dX1_keepAnswering_27 ⟨Nat.le_of_ble_eq_true rfl, Nat.le_of_ble_eq_true rfl⟩) ?_
        have hpi := pins_le hc (ha) (hpl i (by omega) (by rw [← h4]; exact c17))
        refine lv_iload_n hx hb dX1_keepAnswering_30 rfl (lv_at hl 3 rfl) ?_
        refine x_ne (tgt := 38) hx hb dX1_keepAnswering_31 (by decide) (by omega) (by omega) (fun c31 => ?_) (fun c31 => ?_)
        · skip
          refine lv_iconst (v := bI (false)) hx hb dX1_keepAnswering_38 (by decide) ?_
          refine x_zast hx hb hK hP hD hS 5 1 rfl rfl (i := i) (v := false) (by omega) (by omega) dX1_keepAnswering_39 (fun H locs hP hD hS => ?_)
          replace hP : va_P D vwCl (WX ad cI cZ c g hid code ans dbt opn (va_up p2 i false) hps wr) H := hP
          replace hD : va_D A (WX ad cI cZ c g hid code ans dbt opn (va_up p2 i false) hps wr) := hD
          refine lv_iinc (v := nI (i + 1)) (lv' := [(4, .int (nI (i + 1))), (0, .ref (ad 0)), (1, .ref (ad 5)), (2, .int (nI (a))), (3, .int (nI (v)))]) hx hb dX1_keepAnswering_40 hl (k := 4) rfl (nI_add _ _) (by decide) rfl (fun ls hl => ?_)
          refine lv_goto (tgt := 3) hx hb dX1_keepAnswering_43 (by decide) ?_
          exact ih3 (i := i + 1) (p2 := (va_up p2 i false)) (ls := ls) (hl := lv_sub hl [1, 2, 3, 4, 0] rfl) (H := H) (locs := locs) (hP := hP) (hD := hD) (hS := hS) (hinv := by
              refine ⟨by omega, up_le h2 ?_, up_gt h3⟩
              first | (simp [← h4, c17]; done) | (simp [← h4, c17, c31]; done)
            ) (hn9 := by
              omega
            )
        · skip
          refine lv_iconst (v := bI (true)) hx hb dX1_keepAnswering_34 (by decide) ?_
          refine lv_goto (tgt := 39) hx hb dX1_keepAnswering_35 (by decide) ?_
          refine x_zast hx hb hK hP hD hS 5 1 rfl rfl (i := i) (v := true) (by omega) (by omega) dX1_keepAnswering_39 (fun H locs hP hD hS => ?_)
          replace hP : va_P D vwCl (WX ad cI cZ c g hid code ans dbt opn (va_up p2 i true) hps wr) H := hP
          replace hD : va_D A (WX ad cI cZ c g hid code ans dbt opn (va_up p2 i true) hps wr) := hD
          refine lv_iinc (v := nI (i + 1)) (lv' := [(4, .int (nI (i + 1))), (0, .ref (ad 0)), (1, .ref (ad 5)), (2, .int (nI (a))), (3, .int (nI (v)))]) hx hb dX1_keepAnswering_40 hl (k := 4) rfl (nI_add _ _) (by decide) rfl (fun ls hl => ?_)
          refine lv_goto (tgt := 3) hx hb dX1_keepAnswering_43 (by decide) ?_
          exact ih3 (i := i + 1) (p2 := (va_up p2 i true)) (ls := ls) (hl := lv_sub hl [1, 2, 3, 4, 0] rfl) (H := H) (locs := locs) (hP := hP) (hD := hD) (hS := hS) (hinv := by
              refine ⟨by omega, up_le h2 ?_, up_gt h3⟩
              first | (simp [← h4, c17]; done) | (simp [← h4, c17, c31]; done)
            ) (hn9 := by
              omega
            )

set_option maxHeartbeats 4000000 in
set_option maxRecDepth 100000 in
theorem c_X1_sieve (l : Launch) (D : va_G) (cI cZ cG cJ : ClassId) (A : Nat → Prop) (ad : Nat → Nat) (wr : va_W) (hpal : Pals cI cG ad wr) (c : Nat) (g : Nat) (hid : Int32) (code : Nat → Nat) (ans : Nat → Nat) (dbt : Nat → Bool) (opn : Nat → Bool) (ply : Nat → Bool) (hps : Nat → Nat) (hc : c = 2 ∨ c = 3) (hg : g ≤ 12) (hco : CodeOK c g code ans) : Met l yX1_sieve wsX1_sieve ({ frames := 3, cells := 0, slots := 0, locals := 66 }) (va_Pc [.ref (ad 0)] (Iv D (TY cI cZ cG cJ) A (WX ad cI cZ c g hid code ans dbt opn ply hps wr))) (va_Qv (fun (u : Nat → Bool) => ∀ k, k < 81 → u k = opS c g code ans dbt k) (fun u => Wd D A (WX ad cI cZ c g hid code ans dbt u ply hps wr)) A) 0 0 A := by
  refine Met.ofW (cc := cX1_sieve) (maxL := 2) (ret := none) (by decide) rfl ?_
  intro p e s m args below meth c9 s₁ B hml hv
  obtain ⟨rfl, hP, hD, hB⟩ := hv
  have hK := hB.1
  have hA := hB.2.1
  have hx := B.exec
  have hb := B.bytes
  have hr := B.returns
  have hts := atoms_spec (ws := wsX1_sieve) B.pre
  have hown : s.vm.findClass RX1 = some m.cls := findClass_of_methodNamed B.named
  have hlocks := B.notSynchronized
  have hS : va_S A s.heap s.heap [] := va_S.rf
  have hinX1 : ∀ w ∈ wsX10, w ∈ wsX1_sieve := by decide +kernel
  have lk21 := hts (.fieldLink RX1 21 "HiddenCandles" "palette" "LHiddenCandles$Palette;") (by decide +kernel)
  have lk28 := hts (.fieldLink RX1 28 "HiddenCandles" "guesses" "I") (by decide +kernel)
  have lk42 := hts (.fieldLink RX1 42 "HiddenCandles" "open" "[Z") (by decide +kernel)
  have hl := lv_entry ([.ref (ad 0)]) (n := 2) (Nat.le_of_ble_eq_true rfl)
  rw [lg_entry_eq]
  generalize (lg_sl ([.ref (ad 0)]) ++ List.replicate (2 - (lg_sl ([.ref (ad 0)])).length) Slot.unset).toArray = ls at hl ⊢
  have hl : lv_has ls 2 [(0, .ref (ad 0))] := hl
  obtain ⟨H, eH⟩ : ∃ q, q = s.heap := ⟨_, rfl⟩
  obtain ⟨locs, eL⟩ : ∃ q : List Loc, q = [] := ⟨_, rfl⟩
  replace hP : va_P D vwCl (WX ad cI cZ c g hid code ans dbt opn ply hps wr) H := by rw [eH]; exact hP
  replace hS : va_S A s.heap H locs := by rw [eH, eL]; exact hS
  rw [show W p l e _ s m _ below meth c9 s.heap [] = W p l e _ s m _ below meth c9 H locs from by rw [eH, eL]]
  clear eH eL
  have hq := qq_in hc
  refine lv_iconst (v := nI (0)) hx hb dX1_sieve_0 (by decide) ?_
  refine lv_istore_n (lv' := [(1, .int (nI (0))), (0, .ref (ad 0))]) hx hb dX1_sieve_1 rfl hl (by decide) rfl (fun ls hl => ?_)
  -- loop at 2
  have hinv : 0 ≤ 81 ∧ (∀ k, k < 0 → opn k = opS c g code ans dbt k) := by
    exact ⟨Nat.zero_le _, fun k hk => absurd hk (Nat.not_lt_zero _)⟩
  obtain ⟨i, p2, hq9⟩ : ∃ (i : Nat) (p2 : Nat → Bool), lv_has ls 2 [(0, .ref (ad 0)), (1, .int (nI (i)))] ∧ (i ≤ 81 ∧ (∀ k, k < i → p2 k = opS c g code ans dbt k)) ∧ va_P D vwCl (WX ad cI cZ c g hid code ans dbt p2 ply hps wr) H ∧ va_D A (WX ad cI cZ c g hid code ans dbt p2 ply hps wr) := ⟨0, opn, lv_sub hl [1, 0] rfl, hinv, hP, hD⟩
  clear hl hinv hP hD
  obtain ⟨hl, hinv, hP, hD⟩ := hq9
  obtain ⟨n9_2, hn9⟩ : ∃ q : Nat, 81 - i < q := ⟨_, Nat.lt_succ_self _⟩
  induction n9_2 generalizing ls H locs i p2 with
  | zero => exact absurd hn9 (Nat.not_lt_zero _)
  | succ n9_2 ih2 =>
    obtain ⟨h1, h2⟩ := hinv
    refine lv_iload_n hx hb dX1_sieve_2 rfl (lv_at hl 1 rfl) ?_
    refine lv_aload_n hx hb dX1_sieve_3 rfl (lv_at hl 0 rfl) ?_
    refine va_get (D := D) (ci := 1) (v := .ref (ad 4)) (C := RX1) (T := TX1) (N := 11) hx hb hts hinX1 hown hK hP 0 rfl rfl 8 (by decide) lk42 (fun _ h9 => h9) rfl dX1_sieve_4 ?_
    refine x_alen hx hb hK hP 4 1 rfl rfl (n := 81) rfl dX1_sieve_7 ?_
    refine x_ge (tgt := 51) hx hb dX1_sieve_8 (by decide) (by omega) (by omega) (fun c8 => ?_) (fun c8 => ?_)
    · skip
      exact W.vret hx hb hr (fun t ht hW => ⟨⟨p2, rfl, (by
          have e9 : i = 81 := by omega
          subst e9
          exact h2), ⟨by rw [ht]; exact hP, hD⟩⟩, hS.F ht⟩) hS.2.2 dX1_sieve_51
    · skip
      refine lv_aload_n hx hb dX1_sieve_11 rfl (lv_at hl 0 rfl) ?_
      refine va_get (D := D) (ci := 1) (v := .ref (ad 4)) (C := RX1) (T := TX1) (N := 11) hx hb hts hinX1 hown hK hP 0 rfl rfl 8 (by decide) lk42 (fun _ h9 => h9) rfl dX1_sieve_12 ?_
      refine lv_iload_n hx hb dX1_sieve_15 rfl (lv_at hl 1 rfl) ?_
      refine lv_aload_n hx hb dX1_sieve_16 rfl (lv_at hl 0 rfl) ?_
      refine va_get (D := D) (ci := 1) (v := .ref (pal ad c)) (C := RX1) (T := TX1) (N := 11) hx hb hts hinX1 hown hK hP 0 rfl rfl 2 (by decide) lk21 (fun _ h9 => h9) rfl dX1_sieve_17 ?_
      refine lv_iload_n hx hb dX1_sieve_20 rfl (lv_at hl 1 rfl) ?_
      refine x_csi (va_runVN (As := [.int (nI (i))]) (rest := [.int (nI (i)), .ref (ad 4)]) ⟨hx, hb, hml, hown, hts⟩ (c_X0_hasCode l D cI cZ cG cJ A (WX ad cI cZ c g hid code ans dbt p2 ply hps wr) (pal ad c) c (nI i) (palX hpal hc) (hc)) ⟨va_cnB (host := RX1) 1 hts gX1_sieve_X0_hasCode_n153 rfl rfl rfl (hB.2.2.2.2.1 _ (by simp [Nws])) (hts _ (by decide +kernel)) (by decide +kernel) ⟨Nat.le_of_ble_eq_true rfl, Nat.le_of_ble_eq_true rfl⟩, hts _ (by decide +kernel), hts _ (by decide +kernel)⟩ (prePal hB hS hP hD (palX hpal hc)) rfl rfl hl.1 rfl (lv_room (Nat.le_of_ble_eq_true rfl)) dX1_sieve_21 ⟨Nat.le_of_ble_eq_true rfl, Nat.le_of_ble_eq_true rfl⟩) ?_
      refine x_ti (y := bI (decide (i < qq c))) (by rw [hasC_nI hc (by omega)]) ?_
      refine x_zeq (tgt := 43) hx hb dX1_sieve_24 (by decide) (fun c24 => ?_) (fun c24 => ?_)
      · skip
        refine lv_iconst (v := bI (false)) hx hb dX1_sieve_43 (by decide) ?_
        refine x_zast hx hb hK hP hD hS 4 1 rfl rfl (i := i) (v := false) (by omega) (by omega) dX1_sieve_44 (fun H locs hP hD hS => ?_)
        replace hP : va_P D vwCl (WX ad cI cZ c g hid code ans dbt (va_up p2 i false) ply hps wr) H := hP
        replace hD : va_D A (WX ad cI cZ c g hid code ans dbt (va_up p2 i false) ply hps wr) := hD
        refine lv_iinc (v := nI (i + 1)) (lv' := [(1, .int (nI (i + 1))), (0, .ref (ad 0))]) hx hb dX1_sieve_45 hl (k := 1) rfl (nI_add _ _) (by decide) rfl (fun ls hl => ?_)
        refine lv_goto (tgt := 2) hx hb dX1_sieve_48 (by decide) ?_
        exact ih2 (i := i + 1) (p2 := (va_up p2 i false)) (ls := ls) (hl := lv_sub hl [1, 0] rfl) (H := H) (locs := locs) (hP := hP) (hD := hD) (hS := hS) (hinv := by
            refine ⟨by omega, up_le h2 ?_⟩
            first | (simp only [opS, c24, Bool.false_and]; done) | (simp only [opS, c24, c36, Bool.true_and]; done)
          ) (hn9 := by
            omega
          )
      · skip
        refine lv_aload_n hx hb dX1_sieve_27 rfl (lv_at hl 0 rfl) ?_
        refine lv_iload_n hx hb dX1_sieve_28 rfl (lv_at hl 1 rfl) ?_
        refine lv_aload_n hx hb dX1_sieve_29 rfl (lv_at hl 0 rfl) ?_
        refine va_get (D := D) (ci := 1) (v := .int (nI (g))) (C := RX1) (T := TX1) (N := 11) hx hb hts hinX1 hown hK hP 0 rfl rfl 4 (by decide) lk28 (fun _ h9 => h9) rfl dX1_sieve_30 ?_
        refine x_csi (va_runV (As := [.int (nI (i)), .int (nI (g))]) (rest := [.int (nI (i)), .ref (ad 4)]) ⟨hx, hb, hml, hown, hts⟩ (c_X1_fits l D cI cZ cG cJ A ad wr hpal c g hid code ans dbt p2 ply hps i g (hc) (of_decide_eq_true c24) (hg) (hco)) (cwV 2 hts gX1_sieve_X1_fits rfl rfl rfl (by decide +kernel) ⟨Nat.le_of_ble_eq_true rfl, Nat.le_of_ble_eq_true rfl⟩) (preV (ci := 1) (q0 := 0) hB hS hP hD rfl rfl) rfl rfl hl.1 rfl (lv_room (Nat.le_of_ble_eq_true rfl)) dX1_sieve_33 ⟨Nat.le_of_ble_eq_true rfl, Nat.le_of_ble_eq_true rfl⟩) ?_
        refine x_zeq (tgt := 43) hx hb dX1_sieve_36 (by decide) (fun c36 => ?_) (fun c36 => ?_)
        · skip
          refine lv_iconst (v := bI (false)) hx hb dX1_sieve_43 (by decide) ?_
          refine x_zast hx hb hK hP hD hS 4 1 rfl rfl (i := i) (v := false) (by omega) (by omega) dX1_sieve_44 (fun H locs hP hD hS => ?_)
          replace hP : va_P D vwCl (WX ad cI cZ c g hid code ans dbt (va_up p2 i false) ply hps wr) H := hP
          replace hD : va_D A (WX ad cI cZ c g hid code ans dbt (va_up p2 i false) ply hps wr) := hD
          refine lv_iinc (v := nI (i + 1)) (lv' := [(1, .int (nI (i + 1))), (0, .ref (ad 0))]) hx hb dX1_sieve_45 hl (k := 1) rfl (nI_add _ _) (by decide) rfl (fun ls hl => ?_)
          refine lv_goto (tgt := 2) hx hb dX1_sieve_48 (by decide) ?_
          exact ih2 (i := i + 1) (p2 := (va_up p2 i false)) (ls := ls) (hl := lv_sub hl [1, 0] rfl) (H := H) (locs := locs) (hP := hP) (hD := hD) (hS := hS) (hinv := by
              refine ⟨by omega, up_le h2 ?_⟩
              first | (simp only [opS, c24, Bool.false_and]; done) | (simp only [opS, c24, c36, Bool.true_and]; done)
            ) (hn9 := by
              omega
            )
        · skip
          refine lv_iconst (v := bI (true)) hx hb dX1_sieve_39 (by decide) ?_
          refine lv_goto (tgt := 44) hx hb dX1_sieve_40 (by decide) ?_
          refine x_zast hx hb hK hP hD hS 4 1 rfl rfl (i := i) (v := true) (by omega) (by omega) dX1_sieve_44 (fun H locs hP hD hS => ?_)
          replace hP : va_P D vwCl (WX ad cI cZ c g hid code ans dbt (va_up p2 i true) ply hps wr) H := hP
          replace hD : va_D A (WX ad cI cZ c g hid code ans dbt (va_up p2 i true) ply hps wr) := hD
          refine lv_iinc (v := nI (i + 1)) (lv' := [(1, .int (nI (i + 1))), (0, .ref (ad 0))]) hx hb dX1_sieve_45 hl (k := 1) rfl (nI_add _ _) (by decide) rfl (fun ls hl => ?_)
          refine lv_goto (tgt := 2) hx hb dX1_sieve_48 (by decide) ?_
          exact ih2 (i := i + 1) (p2 := (va_up p2 i true)) (ls := ls) (hl := lv_sub hl [1, 0] rfl) (H := H) (locs := locs) (hP := hP) (hD := hD) (hS := hS) (hinv := by
              refine ⟨by omega, up_le h2 ?_⟩
              first | (simp only [opS, c24, Bool.false_and]; done) | (simp only [opS, c24, c36, Bool.true_and]; done)
            ) (hn9 := by
              omega
            )

set_option maxHeartbeats 4000000 in
set_option maxRecDepth 100000 in
theorem c_J7_fill_53178 (l : Launch) (D : va_G) (cI cZ cG cJ : ClassId) (A : Nat → Prop) (ad : Nat → Nat) (wr : va_W) (hpal : Pals cI cG ad wr) (c : Nat) (g : Nat) (hid : Int32) (code : Nat → Nat) (ans : Nat → Nat) (dbt : Nat → Bool) (opn : Nat → Bool) (ply : Nat → Bool) (hps : Nat → Nat)  : Met l yJ7_fill_53178 wsJ7_fill_53178 ({ frames := 0, cells := 0, slots := 0, locals := 0 }) (va_Pc [.ref (ad 6), .int (nI (0))] (Iv D (TY cI cZ cG cJ) A (WX ad cI cZ c g hid code ans dbt opn ply hps wr))) (va_Qv (fun (u : Nat → Nat) => ∀ k, k < 21 → u k = 0) (fun u => Wd D A (WX ad cI cZ c g hid code ans dbt opn ply u wr)) A) 0 0 A := by
  refine Met.ofW (cc := cJ7_fill_53178) (maxL := 4) (ret := none) (by decide) rfl ?_
  intro p e s m args below meth c9 s₁ B hml hv
  obtain ⟨rfl, hP, hD, hB⟩ := hv
  have hK := hB.1
  have hA := hB.2.1
  have hx := B.exec
  have hb := B.bytes
  have hr := B.returns
  have hts := atoms_spec (ws := wsJ7_fill_53178) B.pre
  have hown : s.vm.findClass RJ7 = some m.cls := findClass_of_methodNamed B.named
  have hlocks := B.notSynchronized
  have hS : va_S A s.heap s.heap [] := va_S.rf
  have hl := lv_entry ([.ref (ad 6), .int (nI (0))]) (n := 4) (Nat.le_of_ble_eq_true rfl)
  rw [lg_entry_eq]
  generalize (lg_sl ([.ref (ad 6), .int (nI (0))]) ++ List.replicate (4 - (lg_sl ([.ref (ad 6), .int (nI (0))])).length) Slot.unset).toArray = ls at hl ⊢
  have hl : lv_has ls 4 [(0, .ref (ad 6)), (1, .int (nI (0)))] := hl
  obtain ⟨H, eH⟩ : ∃ q, q = s.heap := ⟨_, rfl⟩
  obtain ⟨locs, eL⟩ : ∃ q : List Loc, q = [] := ⟨_, rfl⟩
  replace hP : va_P D vwCl (WX ad cI cZ c g hid code ans dbt opn ply hps wr) H := by rw [eH]; exact hP
  replace hS : va_S A s.heap H locs := by rw [eH, eL]; exact hS
  rw [show W p l e _ s m _ below meth c9 s.heap [] = W p l e _ s m _ below meth c9 H locs from by rw [eH, eL]]
  clear eH eL
  refine lv_iconst (v := nI (0)) hx hb dJ7_fill_53178_0 (by decide) ?_
  refine lv_istore_n (lv' := [(2, .int (nI (0))), (0, .ref (ad 6)), (1, .int (nI (0)))]) hx hb dJ7_fill_53178_1 rfl hl (by decide) rfl (fun ls hl => ?_)
  refine lv_aload_n hx hb dJ7_fill_53178_2 rfl (lv_at hl 1 rfl) ?_
  refine x_alen hx hb hK hP 6 0 rfl rfl (n := 21) rfl dJ7_fill_53178_3 ?_
  refine lv_istore_n (lv' := [(3, .int (nI (21))), (2, .int (nI (0))), (0, .ref (ad 6)), (1, .int (nI (0)))]) hx hb dJ7_fill_53178_4 rfl hl (by decide) rfl (fun ls hl => ?_)
  -- loop at 5
  have hinv : 0 ≤ 21 ∧ (∀ k, k < 0 → hps k = 0) := by
    exact ⟨Nat.zero_le _, fun k hk => absurd hk (Nat.not_lt_zero _)⟩
  obtain ⟨i, h2, hq9⟩ : ∃ (i : Nat) (h2 : Nat → Nat), lv_has ls 4 [(0, .ref (ad 6)), (1, .int (nI (0))), (2, .int (nI (i))), (3, .int (nI (21)))] ∧ (i ≤ 21 ∧ (∀ k, k < i → h2 k = 0)) ∧ va_P D vwCl (WX ad cI cZ c g hid code ans dbt opn ply h2 wr) H ∧ va_D A (WX ad cI cZ c g hid code ans dbt opn ply h2 wr) := ⟨0, hps, lv_sub hl [2, 3, 1, 0] rfl, hinv, hP, hD⟩
  clear hl hinv hP hD
  obtain ⟨hl, hinv, hP, hD⟩ := hq9
  obtain ⟨n9_5, hn9⟩ : ∃ q : Nat, 21 - i < q := ⟨_, Nat.lt_succ_self _⟩
  induction n9_5 generalizing ls H locs i h2 with
  | zero => exact absurd hn9 (Nat.not_lt_zero _)
  | succ n9_5 ih5 =>
    obtain ⟨h1, h3⟩ := hinv
    refine lv_iload_n hx hb dJ7_fill_53178_5 rfl (lv_at hl 2 rfl) ?_
    refine lv_iload_n hx hb dJ7_fill_53178_6 rfl (lv_at hl 3 rfl) ?_
    refine x_ge (tgt := 20) hx hb dJ7_fill_53178_7 (by decide) (by omega) (by omega) (fun c7 => ?_) (fun c7 => ?_)
    · skip
      exact W.vret hx hb hr (fun t ht hW => ⟨⟨h2, rfl, (by
          have e9 : i = 21 := by omega
          subst e9
          exact h3), ⟨by rw [ht]; exact hP, hD⟩⟩, hS.F ht⟩) hS.2.2 dJ7_fill_53178_20
    · skip
      refine lv_aload_n hx hb dJ7_fill_53178_10 rfl (lv_at hl 0 rfl) ?_
      refine lv_iload_n hx hb dJ7_fill_53178_11 rfl (lv_at hl 2 rfl) ?_
      refine lv_iload_n hx hb dJ7_fill_53178_12 rfl (lv_at hl 1 rfl) ?_
      refine x_iast hx hb hK hP hD hS 6 0 rfl rfl (i := i) (v := 0) (by omega) (by omega) dJ7_fill_53178_13 (fun H locs hP hD hS => ?_)
      replace hP : va_P D vwCl (WX ad cI cZ c g hid code ans dbt opn ply (va_up h2 i 0) wr) H := hP
      replace hD : va_D A (WX ad cI cZ c g hid code ans dbt opn ply (va_up h2 i 0) wr) := hD
      refine lv_iinc (v := nI (i + 1)) (lv' := [(2, .int (nI (i + 1))), (0, .ref (ad 6)), (1, .int (nI (0))), (3, .int (nI (21)))]) hx hb dJ7_fill_53178_14 hl (k := 2) rfl (nI_add _ _) (by decide) rfl (fun ls hl => ?_)
      refine lv_goto (tgt := 5) hx hb dJ7_fill_53178_17 (by decide) ?_
      exact ih5 (i := i + 1) (h2 := (va_up h2 i 0)) (ls := ls) (hl := lv_sub hl [1, 2, 0, 3] rfl) (H := H) (locs := locs) (hP := hP) (hD := hD) (hS := hS) (hinv := by
          exact ⟨by omega, up_le (q := fun _ => 0) h3 rfl⟩
        ) (hn9 := by
          omega
        )

set_option maxHeartbeats 4000000 in
set_option maxRecDepth 100000 in
theorem c_X1_heapUp (l : Launch) (D : va_G) (cI cZ cG cJ : ClassId) (A : Nat → Prop) (ad : Nat → Nat) (wr : va_W) (hpal : Pals cI cG ad wr) (c : Nat) (g : Nat) (hid : Int32) (code : Nat → Nat) (ans : Nat → Nat) (dbt : Nat → Bool) (opn : Nat → Bool) (ply : Nat → Bool) (hps : Nat → Nat) (a : Nat) (sa : Nat) (k0 : Nat) (sb : Nat → Bool) (hc : c = 2 ∨ c = 3) (ha : a < qq c) (hset : SetX ad opn ply sa k0 sb) (hsb : ∀ k, k < 81 → sb k = true → k < qq c) : Met l yX1_heapUp wsX1_heapUp ({ frames := 2, cells := 0, slots := 0, locals := 43 }) (va_Pc [.ref (ad 0), .int (nI (a)), .ref (sa)] (Iv D (TY cI cZ cG cJ) A (WX ad cI cZ c g hid code ans dbt opn ply hps wr))) (va_Qv (fun (u : Nat → Nat) => ∀ x, x < 21 → u x = hpN c a sb x) (fun u => Wd D A (WX ad cI cZ c g hid code ans dbt opn ply u wr)) A) 0 0 A := by
  refine Met.ofW (cc := cX1_heapUp) (maxL := 5) (ret := none) (by decide) rfl ?_
  intro p e s m args below meth c9 s₁ B hml hv
  obtain ⟨rfl, hP, hD, hB⟩ := hv
  have hK := hB.1
  have hA := hB.2.1
  have hx := B.exec
  have hb := B.bytes
  have hr := B.returns
  have hts := atoms_spec (ws := wsX1_heapUp) B.pre
  have hown : s.vm.findClass RX1 = some m.cls := findClass_of_methodNamed B.named
  have hlocks := B.notSynchronized
  have hS : va_S A s.heap s.heap [] := va_S.rf
  have hinX1 : ∀ w ∈ wsX10, w ∈ wsX1_heapUp := by decide +kernel
  have lk21 := hts (.fieldLink RX1 21 "HiddenCandles" "palette" "LHiddenCandles$Palette;") (by decide +kernel)
  have lk48 := hts (.fieldLink RX1 48 "HiddenCandles" "heaps" "[I") (by decide +kernel)
  have hl := lv_entry ([.ref (ad 0), .int (nI (a)), .ref (sa)]) (n := 5) (Nat.le_of_ble_eq_true rfl)
  rw [lg_entry_eq]
  generalize (lg_sl ([.ref (ad 0), .int (nI (a)), .ref (sa)]) ++ List.replicate (5 - (lg_sl ([.ref (ad 0), .int (nI (a)), .ref (sa)])).length) Slot.unset).toArray = ls at hl ⊢
  have hl : lv_has ls 5 [(0, .ref (ad 0)), (1, .int (nI (a))), (2, .ref (sa))] := hl
  obtain ⟨H, eH⟩ : ∃ q, q = s.heap := ⟨_, rfl⟩
  obtain ⟨locs, eL⟩ : ∃ q : List Loc, q = [] := ⟨_, rfl⟩
  replace hP : va_P D vwCl (WX ad cI cZ c g hid code ans dbt opn ply hps wr) H := by rw [eH]; exact hP
  replace hS : va_S A s.heap H locs := by rw [eH, eL]; exact hS
  rw [show W p l e _ s m _ below meth c9 s.heap [] = W p l e _ s m _ below meth c9 H locs from by rw [eH, eL]]
  clear eH eL
  have hq := qq_in hc
  refine lv_aload_n hx hb dX1_heapUp_0 rfl (lv_at hl 0 rfl) ?_
  refine va_get (D := D) (ci := 1) (v := .ref (ad 6)) (C := RX1) (T := TX1) (N := 11) hx hb hts hinX1 hown hK hP 0 rfl rfl 10 (by decide) lk48 (fun _ h9 => h9) rfl dX1_heapUp_1 ?_
  refine lv_iconst (v := nI (0)) hx hb dX1_heapUp_4 (by decide) ?_
  refine va_callv (va_runS (As := [.ref (ad 6), .int (nI (0))]) (rest := []) ⟨hx, hb, hml, hown, hts⟩ (c_J7_fill_53178 l D cI cZ cG cJ A ad wr hpal c g hid code ans dbt opn ply hps ) (va_cwS 2 hts gX1_heapUp_J7_fill_53178 rfl rfl rfl (by decide +kernel) ⟨Nat.le_of_ble_eq_true rfl, Nat.le_of_ble_eq_true rfl⟩) (preS hB hS hP hD) rfl rfl hl.1 rfl (lv_room (Nat.le_of_ble_eq_true rfl)) dX1_heapUp_5 ⟨Nat.le_of_ble_eq_true rfl, Nat.le_of_ble_eq_true rfl⟩) hS (fun q _ h => h) (fun q h => h) (fun u_5 t9 H1 locs1 ht9 hvm9 hw_5 hBw hz9 hk9 hS => ?_)
  obtain ⟨hP, hD⟩ := hBw
  rw [ht9] at hP
  generalize H1 = H at hP hS ⊢
  generalize locs1 = locs at hS ⊢
  replace hP : va_P D vwCl (WX ad cI cZ c g hid code ans dbt opn ply u_5 wr) H := hP
  replace hD : va_D A (WX ad cI cZ c g hid code ans dbt opn ply u_5 wr) := hD
  refine lv_iconst (v := nI (0)) hx hb dX1_heapUp_8 (by decide) ?_
  refine lv_istore_n (lv' := [(3, .int (nI (0))), (0, .ref (ad 0)), (1, .int (nI (a))), (2, .ref (sa))]) hx hb dX1_heapUp_9 rfl hl (by decide) rfl (fun ls hl => ?_)
  -- loop at 10
  have hinv : 0 ≤ 81 ∧ (∀ x, x < 21 → u_5 x = cN (fun k => sb k && decide (pins c a k = x)) 0) := by
    exact ⟨Nat.zero_le _, hw_5⟩
  obtain ⟨i, h2, hq9⟩ : ∃ (i : Nat) (h2 : Nat → Nat), lv_has ls 5 [(0, .ref (ad 0)), (1, .int (nI (a))), (2, .ref (sa)), (3, .int (nI (i)))] ∧ (i ≤ 81 ∧ (∀ x, x < 21 → h2 x = cN (fun k => sb k && decide (pins c a k = x)) i)) ∧ va_P D vwCl (WX ad cI cZ c g hid code ans dbt opn ply h2 wr) H ∧ va_D A (WX ad cI cZ c g hid code ans dbt opn ply h2 wr) := ⟨0, u_5, lv_sub hl [1, 2, 3, 0] rfl, hinv, hP, hD⟩
  clear hl hinv hP hD
  obtain ⟨hl, hinv, hP, hD⟩ := hq9
  obtain ⟨n9_10, hn9⟩ : ∃ q : Nat, 81 - i < q := ⟨_, Nat.lt_succ_self _⟩
  induction n9_10 generalizing ls H locs i h2 with
  | zero => exact absurd hn9 (Nat.not_lt_zero _)
  | succ n9_10 ih10 =>
    obtain ⟨h1, h3⟩ := hinv
    refine lv_iload_n hx hb dX1_heapUp_10 rfl (lv_at hl 3 rfl) ?_
    refine lv_aload_n hx hb dX1_heapUp_11 rfl (lv_at hl 2 rfl) ?_
    refine x_alen hx hb hK hP k0 1 (setX hset) rfl (n := 81) rfl dX1_heapUp_12 ?_
    refine x_ge (tgt := 65) hx hb dX1_heapUp_13 (by decide) (by omega) (by omega) (fun c13 => ?_) (fun c13 => ?_)
    · skip
      exact W.vret hx hb hr (fun t ht hW => ⟨⟨h2, rfl, (by
          have e9 : i = 81 := by omega
          subst e9
          exact h3), ⟨by rw [ht]; exact hP, hD⟩⟩, hS.F ht⟩) hS.2.2 dX1_heapUp_65
    · skip
      refine lv_aload_n hx hb dX1_heapUp_16 rfl (lv_at hl 2 rfl) ?_
      refine lv_iload_n hx hb dX1_heapUp_17 rfl (lv_at hl 3 rfl) ?_
      refine x_zald hx hb hK hP k0 1 (setX hset) rfl (i := i) (by omega) (by omega) dX1_heapUp_18 ?_
      refine x_zeq (tgt := 59) hx hb dX1_heapUp_19 (by decide) (fun c19 => ?_) (fun c19 => ?_)
      · skip
        refine lv_iinc (v := nI (i + 1)) (lv' := [(3, .int (nI (i + 1))), (0, .ref (ad 0)), (1, .int (nI (a))), (2, .ref (sa))]) hx hb dX1_heapUp_59 hl (k := 3) rfl (nI_add _ _) (by decide) rfl (fun ls hl => ?_)
        refine lv_goto (tgt := 10) hx hb dX1_heapUp_62 (by decide) ?_
        exact ih10 (i := i + 1) (h2 := h2) (ls := ls) (hl := lv_sub hl [1, 2, 3, 0] rfl) (H := H) (locs := locs) (hP := hP) (hD := hD) (hS := hS) (hinv := by
            refine ⟨by omega, ?_⟩
            first | exact heap_up h3 c19 | exact heap_no h3 c19
          ) (hn9 := by
            omega
          )
      · skip
        refine lv_aload_n hx hb dX1_heapUp_22 rfl (lv_at hl 0 rfl) ?_
        refine va_get (D := D) (ci := 1) (v := .ref (pal ad c)) (C := RX1) (T := TX1) (N := 11) hx hb hts hinX1 hown hK hP 0 rfl rfl 2 (by decide) lk21 (fun _ h9 => h9) rfl dX1_heapUp_23 ?_
        refine lv_iload_n hx hb dX1_heapUp_26 rfl (lv_at hl 1 rfl) ?_
        refine lv_iload_n hx hb dX1_heapUp_27 rfl (lv_at hl 3 rfl) ?_
        refine x_csi (va_runVN (As := [.int (nI (a)), .int (nI (i))]) (rest := []) ⟨hx, hb, hml, hown, hts⟩ (c_X0_answerTo l D cI cZ cG cJ A (WX ad cI cZ c g hid code ans dbt opn ply h2 wr) (pal ad c) c a i (palX hpal hc) (hc) (ha) (hsb i (by omega) c19)) ⟨va_cnB (host := RX1) 2 hts gX1_heapUp_X0_answerTo_n77 rfl rfl rfl (hB.2.2.2.2.1 _ (by simp [Nws])) (hts _ (by decide +kernel)) (by decide +kernel) ⟨Nat.le_of_ble_eq_true rfl, Nat.le_of_ble_eq_true rfl⟩, hts _ (by decide +kernel), hts _ (by decide +kernel)⟩ (prePal hB hS hP hD (palX hpal hc)) rfl rfl hl.1 rfl (lv_room (Nat.le_of_ble_eq_true rfl)) dX1_heapUp_28 ⟨Nat.le_of_ble_eq_true rfl, Nat.le_of_ble_eq_true rfl⟩) ?_
        have hpi := pins_le hc (ha) (hsb i (by omega) c19)
        refine lv_istore (lv' := [(4, .int (nI (pins c a i))), (0, .ref (ad 0)), (1, .int (nI (a))), (2, .ref (sa)), (3, .int (nI (i)))]) hx hb dX1_heapUp_31 hl (by decide) rfl (fun ls hl => ?_)
        refine lv_iload hx hb dX1_heapUp_33 (lv_at hl 0 rfl) ?_
        refine x_lt0 (tgt := 59) hx hb dX1_heapUp_35 (by decide) (by omega) ?_
        refine lv_iload hx hb dX1_heapUp_38 (lv_at hl 0 rfl) ?_
        refine lv_aload_n hx hb dX1_heapUp_40 rfl (lv_at hl 1 rfl) ?_
        refine va_get (D := D) (ci := 1) (v := .ref (ad 6)) (C := RX1) (T := TX1) (N := 11) hx hb hts hinX1 hown hK hP 0 rfl rfl 10 (by decide) lk48 (fun _ h9 => h9) rfl dX1_heapUp_41 ?_
        refine x_alen hx hb hK hP 6 0 rfl rfl (n := 21) rfl dX1_heapUp_44 ?_
        refine x_ge (tgt := 59) hx hb dX1_heapUp_45 (by decide) (by omega) (by omega) (fun c45 => absurd c45 (by omega)) (fun c45 => ?_)
        refine lv_aload_n hx hb dX1_heapUp_48 rfl (lv_at hl 1 rfl) ?_
        refine va_get (D := D) (ci := 1) (v := .ref (ad 6)) (C := RX1) (T := TX1) (N := 11) hx hb hts hinX1 hown hK hP 0 rfl rfl 10 (by decide) lk48 (fun _ h9 => h9) rfl dX1_heapUp_49 ?_
        refine lv_iload hx hb dX1_heapUp_52 (lv_at hl 0 rfl) ?_
        refine lv_dup2_11 hx hb dX1_heapUp_54 rfl rfl ?_
        refine x_iald hx hb hK hP 6 0 rfl rfl (i := pins c a i) (by omega) (by omega) dX1_heapUp_55 ?_
        have hle := cN_le (fun k => sb k && decide (pins c a k = pins c a i)) i
        have h4 := h3 (pins c a i) (by omega)
        refine lv_iconst (v := nI (1)) hx hb dX1_heapUp_56 (by decide) ?_
        refine lv_iadd hx hb dX1_heapUp_57 ?_
        refine x_ti (nI_add _ _) ?_
        refine x_iast hx hb hK hP hD hS 6 0 rfl rfl (i := pins c a i) (v := (h2 (pins c a i)) + 1) (by omega) (by omega) dX1_heapUp_58 (fun H locs hP hD hS => ?_)
        replace hP : va_P D vwCl (WX ad cI cZ c g hid code ans dbt opn ply (va_up h2 (pins c a i) ((h2 (pins c a i)) + 1)) wr) H := hP
        replace hD : va_D A (WX ad cI cZ c g hid code ans dbt opn ply (va_up h2 (pins c a i) ((h2 (pins c a i)) + 1)) wr) := hD
        refine lv_iinc (v := nI (i + 1)) (lv' := [(3, .int (nI (i + 1))), (4, .int (nI (pins c a i))), (0, .ref (ad 0)), (1, .int (nI (a))), (2, .ref (sa))]) hx hb dX1_heapUp_59 hl (k := 4) rfl (nI_add _ _) (by decide) rfl (fun ls hl => ?_)
        refine lv_goto (tgt := 10) hx hb dX1_heapUp_62 (by decide) ?_
        exact ih10 (i := i + 1) (h2 := (va_up h2 (pins c a i) ((h2 (pins c a i)) + 1))) (ls := ls) (hl := lv_sub hl [2, 3, 4, 0] rfl) (H := H) (locs := locs) (hP := hP) (hD := hD) (hS := hS) (hinv := by
            refine ⟨by omega, ?_⟩
            first | exact heap_up h3 c19 | exact heap_no h3 c19
          ) (hn9 := by
            omega
          )

set_option maxHeartbeats 4000000 in
set_option maxRecDepth 100000 in
theorem c_X1_greatestHeap (l : Launch) (D : va_G) (cI cZ cG cJ : ClassId) (A : Nat → Prop) (ad : Nat → Nat) (wr : va_W) (hpal : Pals cI cG ad wr) (c : Nat) (g : Nat) (hid : Int32) (code : Nat → Nat) (ans : Nat → Nat) (dbt : Nat → Bool) (opn : Nat → Bool) (ply : Nat → Bool) (hps : Nat → Nat) (a : Nat) (sa : Nat) (k0 : Nat) (sb : Nat → Bool) (hc : c = 2 ∨ c = 3) (ha : a < qq c) (hset : SetX ad opn ply sa k0 sb) (hsb : ∀ k, k < 81 → sb k = true → k < qq c) : Met l yX1_greatestHeap wsX1_greatestHeap ({ frames := 3, cells := 0, slots := 0, locals := 67 }) (va_Pc [.ref (ad 0), .int (nI (a)), .ref (sa)] (Iv D (TY cI cZ cG cJ) A (WX ad cI cZ c g hid code ans dbt opn ply hps wr))) (va_Qi (fun r (u : Nat → Nat) => r = nI (gh c a sb) ∧ ∀ x, x < 21 → u x = hpN c a sb x) (fun u => Wd D A (WX ad cI cZ c g hid code ans dbt opn ply u wr)) A) 0 0 A := by
  refine Met.ofW (cc := cX1_greatestHeap) (maxL := 5) (ret := (some .int)) (by decide) rfl ?_
  intro p e s m args below meth c9 s₁ B hml hv
  obtain ⟨rfl, hP, hD, hB⟩ := hv
  have hK := hB.1
  have hA := hB.2.1
  have hx := B.exec
  have hb := B.bytes
  have hr := B.returns
  have hts := atoms_spec (ws := wsX1_greatestHeap) B.pre
  have hown : s.vm.findClass RX1 = some m.cls := findClass_of_methodNamed B.named
  have hlocks := B.notSynchronized
  have hS : va_S A s.heap s.heap [] := va_S.rf
  have hinX1 : ∀ w ∈ wsX10, w ∈ wsX1_greatestHeap := by decide +kernel
  have lk48 := hts (.fieldLink RX1 48 "HiddenCandles" "heaps" "[I") (by decide +kernel)
  have hl := lv_entry ([.ref (ad 0), .int (nI (a)), .ref (sa)]) (n := 5) (Nat.le_of_ble_eq_true rfl)
  rw [lg_entry_eq]
  generalize (lg_sl ([.ref (ad 0), .int (nI (a)), .ref (sa)]) ++ List.replicate (5 - (lg_sl ([.ref (ad 0), .int (nI (a)), .ref (sa)])).length) Slot.unset).toArray = ls at hl ⊢
  have hl : lv_has ls 5 [(0, .ref (ad 0)), (1, .int (nI (a))), (2, .ref (sa))] := hl
  obtain ⟨H, eH⟩ : ∃ q, q = s.heap := ⟨_, rfl⟩
  obtain ⟨locs, eL⟩ : ∃ q : List Loc, q = [] := ⟨_, rfl⟩
  replace hP : va_P D vwCl (WX ad cI cZ c g hid code ans dbt opn ply hps wr) H := by rw [eH]; exact hP
  replace hS : va_S A s.heap H locs := by rw [eH, eL]; exact hS
  rw [show W p l e _ s m _ below meth c9 s.heap [] = W p l e _ s m _ below meth c9 H locs from by rw [eH, eL]]
  clear eH eL
  have hq := qq_in hc
  refine lv_aload_n hx hb dX1_greatestHeap_0 rfl (lv_at hl 0 rfl) ?_
  refine lv_iload_n hx hb dX1_greatestHeap_1 rfl (lv_at hl 1 rfl) ?_
  refine lv_aload_n hx hb dX1_greatestHeap_2 rfl (lv_at hl 2 rfl) ?_
  refine va_callv (va_runV (As := [.int (nI (a)), .ref (sa)]) (rest := []) ⟨hx, hb, hml, hown, hts⟩ (c_X1_heapUp l D cI cZ cG cJ A ad wr hpal c g hid code ans dbt opn ply hps a sa k0 sb (hc) (ha) (hset) (hsb)) (cwV 2 hts gX1_greatestHeap_X1_heapUp rfl rfl rfl (by decide +kernel) ⟨Nat.le_of_ble_eq_true rfl, Nat.le_of_ble_eq_true rfl⟩) (preV (ci := 1) (q0 := 0) hB hS hP hD rfl rfl) rfl rfl hl.1 rfl (lv_room (Nat.le_of_ble_eq_true rfl)) dX1_greatestHeap_3 ⟨Nat.le_of_ble_eq_true rfl, Nat.le_of_ble_eq_true rfl⟩) hS (fun q _ h => h) (fun q h => h) (fun u_3 t9 H1 locs1 ht9 hvm9 hw_3 hBw hz9 hk9 hS => ?_)
  obtain ⟨hP, hD⟩ := hBw
  rw [ht9] at hP
  generalize H1 = H at hP hS ⊢
  generalize locs1 = locs at hS ⊢
  replace hP : va_P D vwCl (WX ad cI cZ c g hid code ans dbt opn ply u_3 wr) H := hP
  replace hD : va_D A (WX ad cI cZ c g hid code ans dbt opn ply u_3 wr) := hD
  refine lv_iconst (v := nI (0)) hx hb dX1_greatestHeap_6 (by decide) ?_
  refine lv_istore_n (lv' := [(3, .int (nI (0))), (0, .ref (ad 0)), (1, .int (nI (a))), (2, .ref (sa))]) hx hb dX1_greatestHeap_7 rfl hl (by decide) rfl (fun ls hl => ?_)
  refine lv_iconst (v := nI (0)) hx hb dX1_greatestHeap_8 (by decide) ?_
  refine lv_istore (lv' := [(4, .int (nI (0))), (3, .int (nI (0))), (0, .ref (ad 0)), (1, .int (nI (a))), (2, .ref (sa))]) hx hb dX1_greatestHeap_9 hl (by decide) rfl (fun ls hl => ?_)
  -- loop at 11
  have hinv : 0 ≤ 21 ∧ 0 = mxN (hpN c a sb) 0 := by
    exact ⟨Nat.zero_le _, rfl⟩
  obtain ⟨j, r, hq9⟩ : ∃ (j : Nat) (r : Nat), lv_has ls 5 [(0, .ref (ad 0)), (1, .int (nI (a))), (2, .ref (sa)), (3, .int (nI (r))), (4, .int (nI (j)))] ∧ (j ≤ 21 ∧ r = mxN (hpN c a sb) j) ∧ va_P D vwCl (WX ad cI cZ c g hid code ans dbt opn ply u_3 wr) H ∧ va_D A (WX ad cI cZ c g hid code ans dbt opn ply u_3 wr) := ⟨0, 0, lv_sub hl [2, 3, 4, 1, 0] rfl, hinv, hP, hD⟩
  clear hl hinv hP hD
  obtain ⟨hl, hinv, hP, hD⟩ := hq9
  obtain ⟨n9_11, hn9⟩ : ∃ q : Nat, 21 - j < q := ⟨_, Nat.lt_succ_self _⟩
  induction n9_11 generalizing ls H locs j r with
  | zero => exact absurd hn9 (Nat.not_lt_zero _)
  | succ n9_11 ih11 =>
    obtain ⟨h1, h3⟩ := hinv; have hm := gh_le c a sb j; have h5 : ∀ x, x < 21 → u_3 x ≤ 81 := fun x hx21 => by rw [hw_3 x hx21]; exact cN_le _ _
    refine lv_iload hx hb dX1_greatestHeap_11 (lv_at hl 4 rfl) ?_
    refine lv_aload_n hx hb dX1_greatestHeap_13 rfl (lv_at hl 0 rfl) ?_
    refine va_get (D := D) (ci := 1) (v := .ref (ad 6)) (C := RX1) (T := TX1) (N := 11) hx hb hts hinX1 hown hK hP 0 rfl rfl 10 (by decide) lk48 (fun _ h9 => h9) rfl dX1_greatestHeap_14 ?_
    refine x_alen hx hb hK hP 6 0 rfl rfl (n := 21) rfl dX1_greatestHeap_17 ?_
    refine x_ge (tgt := 39) hx hb dX1_greatestHeap_18 (by decide) (by omega) (by omega) (fun c18 => ?_) (fun c18 => ?_)
    · skip
      refine lv_iload_n hx hb dX1_greatestHeap_39 rfl (lv_at hl 3 rfl) ?_
      exact W.iret (v := nI (r)) hx hb hr (fun t ht hW => ⟨⟨_, u_3, rfl, (by
          have e9 : j = 21 := by omega
          subst e9
          exact ⟨by rw [h3, gh_eq], hw_3⟩), ⟨by rw [ht]; exact hP, hD⟩⟩, hS.F ht⟩) hS.2.2 dX1_greatestHeap_40
    · skip
      refine lv_iload_n hx hb dX1_greatestHeap_21 rfl (lv_at hl 3 rfl) ?_
      refine lv_aload_n hx hb dX1_greatestHeap_22 rfl (lv_at hl 0 rfl) ?_
      refine va_get (D := D) (ci := 1) (v := .ref (ad 6)) (C := RX1) (T := TX1) (N := 11) hx hb hts hinX1 hown hK hP 0 rfl rfl 10 (by decide) lk48 (fun _ h9 => h9) rfl dX1_greatestHeap_23 ?_
      refine lv_iload hx hb dX1_greatestHeap_26 (lv_at hl 4 rfl) ?_
      refine x_iald hx hb hK hP 6 0 rfl rfl (i := j) (by omega) (by omega) dX1_greatestHeap_28 ?_
      refine va_mmax hx hb (hml.trans hl.1.symm) hown (hts (.methodLink RX1 202 Lib.Math.max.name) (by decide +kernel)) (hts _ (by decide +kernel)) (hts _ (by decide +kernel)) (hts _ (by decide +kernel)) (Nat.le_of_ble_eq_true rfl) (Nat.le_of_ble_eq_true rfl) (Nat.le_of_ble_eq_true rfl) (Nat.le_of_ble_eq_true rfl) dX1_greatestHeap_29 ?_
      refine x_ti (nI_max (by omega) (by have := h5 j (by omega); omega)) ?_
      refine lv_istore_n (lv' := [(3, .int (nI (max r (u_3 j)))), (0, .ref (ad 0)), (1, .int (nI (a))), (2, .ref (sa)), (4, .int (nI (j)))]) hx hb dX1_greatestHeap_32 rfl hl (by decide) rfl (fun ls hl => ?_)
      refine lv_iinc (v := nI (j + 1)) (lv' := [(4, .int (nI (j + 1))), (3, .int (nI (max r (u_3 j)))), (0, .ref (ad 0)), (1, .int (nI (a))), (2, .ref (sa))]) hx hb dX1_greatestHeap_33 hl (k := 4) rfl (nI_add _ _) (by decide) rfl (fun ls hl => ?_)
      refine lv_goto (tgt := 11) hx hb dX1_greatestHeap_36 (by decide) ?_
      exact ih11 (j := j + 1) (r := max r (u_3 j)) (ls := ls) (hl := lv_sub hl [2, 3, 4, 1, 0] rfl) (H := H) (locs := locs) (hP := hP) (hS := hS) (hinv := by
          exact ⟨by omega, by simp only [mxN, h3, hw_3 j (by omega)]⟩
        ) (hn9 := by
          omega
        )

set_option maxHeartbeats 4000000 in
set_option maxRecDepth 100000 in
theorem c_X1_leastBad (l : Launch) (D : va_G) (cI cZ cG cJ : ClassId) (A : Nat → Prop) (ad : Nat → Nat) (wr : va_W) (hpal : Pals cI cG ad wr) (c : Nat) (g : Nat) (hid : Int32) (code : Nat → Nat) (ans : Nat → Nat) (dbt : Nat → Bool) (opn : Nat → Bool) (ply : Nat → Bool) (hps : Nat → Nat) (sa : Nat) (k0 : Nat) (sb : Nat → Bool) (only : Bool) (hc : c = 2 ∨ c = 3) (hset : SetX ad opn ply sa k0 sb) (hsb : ∀ k, k < 81 → sb k = true → k < qq c) : Met l yX1_leastBad wsX1_leastBad ({ frames := 4, cells := 0, slots := 0, locals := 91 }) (va_Pc [.ref (ad 0), .ref (sa), .int (bI (only))] (Iv D (TY cI cZ cG cJ) A (WX ad cI cZ c g hid code ans dbt opn ply hps wr))) (va_Qi (fun r (u : Nat → Nat) => r = lbR c sb only ∧ True) (fun u => Wd D A (WX ad cI cZ c g hid code ans dbt opn ply u wr)) A) 0 0 A := by
  refine Met.ofW (cc := cX1_leastBad) (maxL := 9) (ret := (some .int)) (by decide) rfl ?_
  intro p e s m args below meth c9 s₁ B hml hv
  obtain ⟨rfl, hP, hD, hB⟩ := hv
  have hK := hB.1
  have hA := hB.2.1
  have hx := B.exec
  have hb := B.bytes
  have hr := B.returns
  have hts := atoms_spec (ws := wsX1_leastBad) B.pre
  have hown : s.vm.findClass RX1 = some m.cls := findClass_of_methodNamed B.named
  have hlocks := B.notSynchronized
  have hS : va_S A s.heap s.heap [] := va_S.rf
  have hinX0 : ∀ w ∈ wsX00, w ∈ wsX1_leastBad := by decide +kernel
  have hinX1 : ∀ w ∈ wsX10, w ∈ wsX1_leastBad := by decide +kernel
  have lk21 := hts (.fieldLink RX1 21 "HiddenCandles" "palette" "LHiddenCandles$Palette;") (by decide +kernel)
  have hl := lv_entry ([.ref (ad 0), .ref (sa), .int (bI (only))]) (n := 9) (Nat.le_of_ble_eq_true rfl)
  rw [lg_entry_eq]
  generalize (lg_sl ([.ref (ad 0), .ref (sa), .int (bI (only))]) ++ List.replicate (9 - (lg_sl ([.ref (ad 0), .ref (sa), .int (bI (only))])).length) Slot.unset).toArray = ls at hl ⊢
  have hl : lv_has ls 9 [(0, .ref (ad 0)), (1, .ref (sa)), (2, .int (bI (only)))] := hl
  obtain ⟨H, eH⟩ : ∃ q, q = s.heap := ⟨_, rfl⟩
  obtain ⟨locs, eL⟩ : ∃ q : List Loc, q = [] := ⟨_, rfl⟩
  replace hP : va_P D vwCl (WX ad cI cZ c g hid code ans dbt opn ply hps wr) H := by rw [eH]; exact hP
  replace hS : va_S A s.heap H locs := by rw [eH, eL]; exact hS
  rw [show W p l e _ s m _ below meth c9 s.heap [] = W p l e _ s m _ below meth c9 H locs from by rw [eH, eL]]
  clear eH eL
  have hq := qq_in hc
  refine lv_aload_n hx hb dX1_leastBad_0 rfl (lv_at hl 1 rfl) ?_
  refine x_csi (va_runS (As := [.ref (sa)]) (rest := []) ⟨hx, hb, hml, hown, hts⟩ (c_X1_size l D cI cZ cG cJ A (WX ad cI cZ c g hid code ans dbt opn ply hps wr) sa k0 sb (setX hset)) (va_cwS 1 hts gX1_leastBad_X1_size rfl rfl rfl (by decide +kernel) ⟨Nat.le_of_ble_eq_true rfl, Nat.le_of_ble_eq_true rfl⟩) (preS hB hS hP hD) rfl rfl hl.1 rfl (lv_room (Nat.le_of_ble_eq_true rfl)) dX1_leastBad_1 ⟨Nat.le_of_ble_eq_true rfl, Nat.le_of_ble_eq_true rfl⟩) ?_
  have hsz := cN_le sb 81
  refine x_ne0 (tgt := 9) hx hb dX1_leastBad_4 (by decide) (by omega) (fun c4 => ?_) (fun c4 => ?_)
  · skip
    refine lv_iconst (v := (-1)) hx hb dX1_leastBad_9 (by decide) ?_
    refine lv_istore_n (lv' := [(3, .int ((-1))), (0, .ref (ad 0)), (1, .ref (sa)), (2, .int (bI (only)))]) hx hb dX1_leastBad_10 rfl hl (by decide) rfl (fun ls hl => ?_)
    refine lv_iconst (v := bI (false)) hx hb dX1_leastBad_11 (by decide) ?_
    refine lv_istore (lv' := [(4, .int (bI (false))), (3, .int ((-1))), (0, .ref (ad 0)), (1, .ref (sa)), (2, .int (bI (only)))]) hx hb dX1_leastBad_12 hl (by decide) rfl (fun ls hl => ?_)
    refine lv_bipush (v := nI (82)) hx hb dX1_leastBad_14 (by decide) ?_
    refine lv_istore (lv' := [(5, .int (nI (82))), (4, .int (bI (false))), (3, .int ((-1))), (0, .ref (ad 0)), (1, .ref (sa)), (2, .int (bI (only)))]) hx hb dX1_leastBad_16 hl (by decide) rfl (fun ls hl => ?_)
    refine lv_iconst (v := nI (0)) hx hb dX1_leastBad_18 (by decide) ?_
    refine lv_istore (lv' := [(6, .int (nI (0))), (5, .int (nI (82))), (4, .int (bI (false))), (3, .int ((-1))), (0, .ref (ad 0)), (1, .ref (sa)), (2, .int (bI (only)))]) hx hb dX1_leastBad_19 hl (by decide) rfl (fun ls hl => ?_)
    -- loop at 21
    have hinv : 0 ≤ qq c ∧ (-1) = (lbS c sb only 0).1 ∧ false = (lbS c sb only 0).2.1 ∧ 82 = (lbS c sb only 0).2.2 ∧ 82 ≤ 82 := by
      exact ⟨Nat.zero_le _, rfl, rfl, rfl, Nat.le_refl _⟩
    obtain ⟨i, lst, inn, few, h2, hq9⟩ : ∃ (i : Nat) (lst : Int32) (inn : Bool) (few : Nat) (h2 : Nat → Nat), lv_has ls 9 [(0, .ref (ad 0)), (1, .ref (sa)), (2, .int (bI (only))), (3, .int (lst)), (4, .int (bI (inn))), (5, .int (nI (few))), (6, .int (nI (i)))] ∧ (i ≤ qq c ∧ lst = (lbS c sb only i).1 ∧ inn = (lbS c sb only i).2.1 ∧ few = (lbS c sb only i).2.2 ∧ few ≤ 82) ∧ va_P D vwCl (WX ad cI cZ c g hid code ans dbt opn ply h2 wr) H ∧ va_D A (WX ad cI cZ c g hid code ans dbt opn ply h2 wr) := ⟨0, (-1), false, 82, hps, lv_sub hl [4, 5, 6, 3, 2, 1, 0] rfl, hinv, hP, hD⟩
    clear hl hinv hP hD
    obtain ⟨hl, hinv, hP, hD⟩ := hq9
    obtain ⟨n9_21, hn9⟩ : ∃ q : Nat, qq c - i < q := ⟨_, Nat.lt_succ_self _⟩
    induction n9_21 generalizing ls H locs i lst inn few h2 with
    | zero => exact absurd hn9 (Nat.not_lt_zero _)
    | succ n9_21 ih21 =>
      obtain ⟨h1, h2l, h2i, h2f, h2b⟩ := hinv
      refine lv_iload hx hb dX1_leastBad_21 (lv_at hl 6 rfl) ?_
      refine lv_aload_n hx hb dX1_leastBad_23 rfl (lv_at hl 0 rfl) ?_
      refine va_get (D := D) (ci := 1) (v := .ref (pal ad c)) (C := RX1) (T := TX1) (N := 11) hx hb hts hinX1 hown hK hP 0 rfl rfl 2 (by decide) lk21 (fun _ h9 => h9) rfl dX1_leastBad_24 ?_
      refine x_codes hx hb hts hinX0 hown hK hP (palX hpal hc) (hB.2.2.2.2.1 _ (by simp [Nws])) dX1_leastBad_27 ?_
      refine x_ge (tgt := 100) hx hb dX1_leastBad_30 (by decide) (by omega) (by omega) (fun c30 => ?_) (fun c30 => ?_)
      · skip
        refine lv_iload_n hx hb dX1_leastBad_100 rfl (lv_at hl 3 rfl) ?_
        exact W.iret (v := lst) hx hb hr (fun t ht hW => ⟨⟨_, h2, rfl, (by
            have e9 : i = qq c := by omega
            exact ⟨by rw [lbR, if_neg (by omega), h2l, e9], trivial⟩), ⟨by rw [ht]; exact hP, hD⟩⟩, hS.F ht⟩) hS.2.2 dX1_leastBad_101
      · skip
        refine lv_aload_n hx hb dX1_leastBad_33 rfl (lv_at hl 1 rfl) ?_
        refine lv_iload hx hb dX1_leastBad_34 (lv_at hl 6 rfl) ?_
        refine x_csi (va_runS (As := [.ref (sa), .int (nI (i))]) (rest := []) ⟨hx, hb, hml, hown, hts⟩ (c_X1_isIn l D cI cZ cG cJ A (WX ad cI cZ c g hid code ans dbt opn ply h2 wr) sa k0 sb i (setX hset) (by omega)) (va_cwS 2 hts gX1_leastBad_X1_isIn rfl rfl rfl (by decide +kernel) ⟨Nat.le_of_ble_eq_true rfl, Nat.le_of_ble_eq_true rfl⟩) (preS hB hS hP hD) rfl rfl hl.1 rfl (lv_room (Nat.le_of_ble_eq_true rfl)) dX1_leastBad_36 ⟨Nat.le_of_ble_eq_true rfl, Nat.le_of_ble_eq_true rfl⟩) ?_
        refine lv_istore (lv' := [(7, .int (bI (sb i))), (0, .ref (ad 0)), (1, .ref (sa)), (2, .int (bI (only))), (3, .int (lst)), (4, .int (bI (inn))), (5, .int (nI (few))), (6, .int (nI (i)))]) hx hb dX1_leastBad_39 hl (by decide) rfl (fun ls hl => ?_)
        refine lv_iload hx hb dX1_leastBad_41 (lv_at hl 0 rfl) ?_
        refine x_zne (tgt := 50) hx hb dX1_leastBad_43 (by decide) (fun c43 => ?_) (fun c43 => ?_)
        · skip
          refine lv_aload_n hx hb dX1_leastBad_50 rfl (lv_at hl 1 rfl) ?_
          refine lv_iload hx hb dX1_leastBad_51 (lv_at hl 7 rfl) ?_
          refine lv_aload_n hx hb dX1_leastBad_53 rfl (lv_at hl 2 rfl) ?_
          refine va_calli (va_runV (As := [.int (nI (i)), .ref (sa)]) (rest := []) ⟨hx, hb, hml, hown, hts⟩ (c_X1_greatestHeap l D cI cZ cG cJ A ad wr hpal c g hid code ans dbt opn ply h2 i sa k0 sb (hc) (by omega) (hset) (hsb)) (cwV 2 hts gX1_leastBad_X1_greatestHeap rfl rfl rfl (by decide +kernel) ⟨Nat.le_of_ble_eq_true rfl, Nat.le_of_ble_eq_true rfl⟩) (preV (ci := 1) (q0 := 0) hB hS hP hD rfl rfl) rfl rfl hl.1 rfl (lv_room (Nat.le_of_ble_eq_true rfl)) dX1_leastBad_54 ⟨Nat.le_of_ble_eq_true rfl, Nat.le_of_ble_eq_true rfl⟩) hS (fun q _ h => h) (fun q h => h) (fun r_54 u_54 t9 H1 locs1 ht9 hvm9 hw_54 hBw hz9 hk9 hS => ?_)
          obtain ⟨hP, hD⟩ := hBw
          rw [ht9] at hP
          generalize H1 = H at hP hS ⊢
          generalize locs1 = locs at hS ⊢
          replace hP : va_P D vwCl (WX ad cI cZ c g hid code ans dbt opn ply u_54 wr) H := hP
          replace hD : va_D A (WX ad cI cZ c g hid code ans dbt opn ply u_54 wr) := hD
          have hgl := gh_le81 c i sb
          refine x_ti (y := nI (gh c i sb)) (hw_54.1) ?_
          refine lv_istore (lv' := [(8, .int (nI (gh c i sb))), (7, .int (bI (sb i))), (0, .ref (ad 0)), (1, .ref (sa)), (2, .int (bI (only))), (3, .int (lst)), (4, .int (bI (inn))), (5, .int (nI (few))), (6, .int (nI (i)))]) hx hb dX1_leastBad_57 hl (by decide) rfl (fun ls hl => ?_)
          refine lv_iload hx hb dX1_leastBad_59 (lv_at hl 0 rfl) ?_
          refine lv_iload hx hb dX1_leastBad_61 (lv_at hl 7 rfl) ?_
          refine x_lt (tgt := 83) hx hb dX1_leastBad_63 (by decide) (by omega) (by omega) (fun c63 => ?_) (fun c63 => ?_)
          · skip
            refine lv_iload hx hb dX1_leastBad_83 (lv_at hl 8 rfl) ?_
            refine lv_istore_n (lv' := [(3, .int (nI (i))), (8, .int (nI (gh c i sb))), (7, .int (bI (sb i))), (0, .ref (ad 0)), (1, .ref (sa)), (2, .int (bI (only))), (4, .int (bI (inn))), (5, .int (nI (few))), (6, .int (nI (i)))]) hx hb dX1_leastBad_85 rfl hl (by decide) rfl (fun ls hl => ?_)
            refine lv_iload hx hb dX1_leastBad_86 (lv_at hl 2 rfl) ?_
            refine lv_istore (lv' := [(4, .int (bI (sb i))), (3, .int (nI (i))), (8, .int (nI (gh c i sb))), (7, .int (bI (sb i))), (0, .ref (ad 0)), (1, .ref (sa)), (2, .int (bI (only))), (5, .int (nI (few))), (6, .int (nI (i)))]) hx hb dX1_leastBad_88 hl (by decide) rfl (fun ls hl => ?_)
            refine lv_iload hx hb dX1_leastBad_90 (lv_at hl 2 rfl) ?_
            refine lv_istore (lv' := [(5, .int (nI (gh c i sb))), (4, .int (bI (sb i))), (3, .int (nI (i))), (8, .int (nI (gh c i sb))), (7, .int (bI (sb i))), (0, .ref (ad 0)), (1, .ref (sa)), (2, .int (bI (only))), (6, .int (nI (i)))]) hx hb dX1_leastBad_92 hl (by decide) rfl (fun ls hl => ?_)
            refine lv_iinc (v := nI (i + 1)) (lv' := [(6, .int (nI (i + 1))), (5, .int (nI (gh c i sb))), (4, .int (bI (sb i))), (3, .int (nI (i))), (8, .int (nI (gh c i sb))), (7, .int (bI (sb i))), (0, .ref (ad 0)), (1, .ref (sa)), (2, .int (bI (only)))]) hx hb dX1_leastBad_94 hl (k := 8) rfl (nI_add _ _) (by decide) rfl (fun ls hl => ?_)
            refine lv_goto (tgt := 21) hx hb dX1_leastBad_97 (by decide) ?_
            exact ih21 (i := i + 1) (lst := nI (i)) (inn := sb i) (few := gh c i sb) (h2 := u_54) (ls := ls) (hl := lv_sub hl [6, 7, 8, 3, 2, 1, 0] rfl) (H := H) (locs := locs) (hP := hP) (hD := hD) (hS := hS) (hinv := by
                refine ⟨by omega, ?_, ?_, ?_, by omega⟩
                all_goals first | rw [lbS_upd h2i h2f (Or.inl c43) (Or.inl c63)] | rw [lbS_upd h2i h2f (Or.inr c47) (Or.inl c63)] | rw [lbS_upd h2i h2f (Or.inl c43) (Or.inr ⟨c70, c75, c80⟩)] | rw [lbS_upd h2i h2f (Or.inr c47) (Or.inr ⟨c70, c75, c80⟩)] | (rw [lbS_nup h2i h2f (lb_n1 c43 c47)]; assumption) | (rw [lbS_nup h2i h2f (lb_n2 c63 c70)]; assumption) | (rw [lbS_nup h2i h2f (lb_n3 c63 c75)]; assumption) | (rw [lbS_nup h2i h2f (lb_n4 c63 c80)]; assumption)
              ) (hn9 := by
                omega
              )
          · skip
            refine lv_iload hx hb dX1_leastBad_66 (lv_at hl 0 rfl) ?_
            refine lv_iload hx hb dX1_leastBad_68 (lv_at hl 7 rfl) ?_
            refine x_ne (tgt := 94) hx hb dX1_leastBad_70 (by decide) (by omega) (by omega) (fun c70 => ?_) (fun c70 => ?_)
            · skip
              refine lv_iinc (v := nI (i + 1)) (lv' := [(6, .int (nI (i + 1))), (8, .int (nI (gh c i sb))), (7, .int (bI (sb i))), (0, .ref (ad 0)), (1, .ref (sa)), (2, .int (bI (only))), (3, .int (lst)), (4, .int (bI (inn))), (5, .int (nI (few)))]) hx hb dX1_leastBad_94 hl (k := 8) rfl (nI_add _ _) (by decide) rfl (fun ls hl => ?_)
              refine lv_goto (tgt := 21) hx hb dX1_leastBad_97 (by decide) ?_
              exact ih21 (i := i + 1) (lst := lst) (inn := inn) (few := few) (h2 := u_54) (ls := ls) (hl := lv_sub hl [3, 4, 5, 6, 7, 8, 0] rfl) (H := H) (locs := locs) (hP := hP) (hD := hD) (hS := hS) (hinv := by
                  refine ⟨by omega, ?_, ?_, ?_, by omega⟩
                  all_goals first | rw [lbS_upd h2i h2f (Or.inl c43) (Or.inl c63)] | rw [lbS_upd h2i h2f (Or.inr c47) (Or.inl c63)] | rw [lbS_upd h2i h2f (Or.inl c43) (Or.inr ⟨c70, c75, c80⟩)] | rw [lbS_upd h2i h2f (Or.inr c47) (Or.inr ⟨c70, c75, c80⟩)] | (rw [lbS_nup h2i h2f (lb_n1 c43 c47)]; assumption) | (rw [lbS_nup h2i h2f (lb_n2 c63 c70)]; assumption) | (rw [lbS_nup h2i h2f (lb_n3 c63 c75)]; assumption) | (rw [lbS_nup h2i h2f (lb_n4 c63 c80)]; assumption)
                ) (hn9 := by
                  omega
                )
            · skip
              refine lv_iload hx hb dX1_leastBad_73 (lv_at hl 1 rfl) ?_
              refine x_zeq (tgt := 94) hx hb dX1_leastBad_75 (by decide) (fun c75 => ?_) (fun c75 => ?_)
              · skip
                refine lv_iinc (v := nI (i + 1)) (lv' := [(6, .int (nI (i + 1))), (8, .int (nI (gh c i sb))), (7, .int (bI (sb i))), (0, .ref (ad 0)), (1, .ref (sa)), (2, .int (bI (only))), (3, .int (lst)), (4, .int (bI (inn))), (5, .int (nI (few)))]) hx hb dX1_leastBad_94 hl (k := 8) rfl (nI_add _ _) (by decide) rfl (fun ls hl => ?_)
                refine lv_goto (tgt := 21) hx hb dX1_leastBad_97 (by decide) ?_
                exact ih21 (i := i + 1) (lst := lst) (inn := inn) (few := few) (h2 := u_54) (ls := ls) (hl := lv_sub hl [3, 4, 5, 6, 7, 8, 0] rfl) (H := H) (locs := locs) (hP := hP) (hD := hD) (hS := hS) (hinv := by
                    refine ⟨by omega, ?_, ?_, ?_, by omega⟩
                    all_goals first | rw [lbS_upd h2i h2f (Or.inl c43) (Or.inl c63)] | rw [lbS_upd h2i h2f (Or.inr c47) (Or.inl c63)] | rw [lbS_upd h2i h2f (Or.inl c43) (Or.inr ⟨c70, c75, c80⟩)] | rw [lbS_upd h2i h2f (Or.inr c47) (Or.inr ⟨c70, c75, c80⟩)] | (rw [lbS_nup h2i h2f (lb_n1 c43 c47)]; assumption) | (rw [lbS_nup h2i h2f (lb_n2 c63 c70)]; assumption) | (rw [lbS_nup h2i h2f (lb_n3 c63 c75)]; assumption) | (rw [lbS_nup h2i h2f (lb_n4 c63 c80)]; assumption)
                  ) (hn9 := by
                    omega
                  )
              · skip
                refine lv_iload hx hb dX1_leastBad_78 (lv_at hl 6 rfl) ?_
                refine x_zne (tgt := 94) hx hb dX1_leastBad_80 (by decide) (fun c80 => ?_) (fun c80 => ?_)
                · skip
                  refine lv_iinc (v := nI (i + 1)) (lv' := [(6, .int (nI (i + 1))), (8, .int (nI (gh c i sb))), (7, .int (bI (sb i))), (0, .ref (ad 0)), (1, .ref (sa)), (2, .int (bI (only))), (3, .int (lst)), (4, .int (bI (inn))), (5, .int (nI (few)))]) hx hb dX1_leastBad_94 hl (k := 8) rfl (nI_add _ _) (by decide) rfl (fun ls hl => ?_)
                  refine lv_goto (tgt := 21) hx hb dX1_leastBad_97 (by decide) ?_
                  exact ih21 (i := i + 1) (lst := lst) (inn := inn) (few := few) (h2 := u_54) (ls := ls) (hl := lv_sub hl [3, 4, 5, 6, 7, 8, 0] rfl) (H := H) (locs := locs) (hP := hP) (hD := hD) (hS := hS) (hinv := by
                      refine ⟨by omega, ?_, ?_, ?_, by omega⟩
                      all_goals first | rw [lbS_upd h2i h2f (Or.inl c43) (Or.inl c63)] | rw [lbS_upd h2i h2f (Or.inr c47) (Or.inl c63)] | rw [lbS_upd h2i h2f (Or.inl c43) (Or.inr ⟨c70, c75, c80⟩)] | rw [lbS_upd h2i h2f (Or.inr c47) (Or.inr ⟨c70, c75, c80⟩)] | (rw [lbS_nup h2i h2f (lb_n1 c43 c47)]; assumption) | (rw [lbS_nup h2i h2f (lb_n2 c63 c70)]; assumption) | (rw [lbS_nup h2i h2f (lb_n3 c63 c75)]; assumption) | (rw [lbS_nup h2i h2f (lb_n4 c63 c80)]; assumption)
                    ) (hn9 := by
                      omega
                    )
                · skip
                  refine lv_iload hx hb dX1_leastBad_83 (lv_at hl 8 rfl) ?_
                  refine lv_istore_n (lv' := [(3, .int (nI (i))), (8, .int (nI (gh c i sb))), (7, .int (bI (sb i))), (0, .ref (ad 0)), (1, .ref (sa)), (2, .int (bI (only))), (4, .int (bI (inn))), (5, .int (nI (few))), (6, .int (nI (i)))]) hx hb dX1_leastBad_85 rfl hl (by decide) rfl (fun ls hl => ?_)
                  refine lv_iload hx hb dX1_leastBad_86 (lv_at hl 2 rfl) ?_
                  refine lv_istore (lv' := [(4, .int (bI (sb i))), (3, .int (nI (i))), (8, .int (nI (gh c i sb))), (7, .int (bI (sb i))), (0, .ref (ad 0)), (1, .ref (sa)), (2, .int (bI (only))), (5, .int (nI (few))), (6, .int (nI (i)))]) hx hb dX1_leastBad_88 hl (by decide) rfl (fun ls hl => ?_)
                  refine lv_iload hx hb dX1_leastBad_90 (lv_at hl 2 rfl) ?_
                  refine lv_istore (lv' := [(5, .int (nI (gh c i sb))), (4, .int (bI (sb i))), (3, .int (nI (i))), (8, .int (nI (gh c i sb))), (7, .int (bI (sb i))), (0, .ref (ad 0)), (1, .ref (sa)), (2, .int (bI (only))), (6, .int (nI (i)))]) hx hb dX1_leastBad_92 hl (by decide) rfl (fun ls hl => ?_)
                  refine lv_iinc (v := nI (i + 1)) (lv' := [(6, .int (nI (i + 1))), (5, .int (nI (gh c i sb))), (4, .int (bI (sb i))), (3, .int (nI (i))), (8, .int (nI (gh c i sb))), (7, .int (bI (sb i))), (0, .ref (ad 0)), (1, .ref (sa)), (2, .int (bI (only)))]) hx hb dX1_leastBad_94 hl (k := 8) rfl (nI_add _ _) (by decide) rfl (fun ls hl => ?_)
                  refine lv_goto (tgt := 21) hx hb dX1_leastBad_97 (by decide) ?_
                  exact ih21 (i := i + 1) (lst := nI (i)) (inn := sb i) (few := gh c i sb) (h2 := u_54) (ls := ls) (hl := lv_sub hl [6, 7, 8, 3, 2, 1, 0] rfl) (H := H) (locs := locs) (hP := hP) (hD := hD) (hS := hS) (hinv := by
                      refine ⟨by omega, ?_, ?_, ?_, by omega⟩
                      all_goals first | rw [lbS_upd h2i h2f (Or.inl c43) (Or.inl c63)] | rw [lbS_upd h2i h2f (Or.inr c47) (Or.inl c63)] | rw [lbS_upd h2i h2f (Or.inl c43) (Or.inr ⟨c70, c75, c80⟩)] | rw [lbS_upd h2i h2f (Or.inr c47) (Or.inr ⟨c70, c75, c80⟩)] | (rw [lbS_nup h2i h2f (lb_n1 c43 c47)]; assumption) | (rw [lbS_nup h2i h2f (lb_n2 c63 c70)]; assumption) | (rw [lbS_nup h2i h2f (lb_n3 c63 c75)]; assumption) | (rw [lbS_nup h2i h2f (lb_n4 c63 c80)]; assumption)
                    ) (hn9 := by
                      omega
                    )
        · skip
          refine lv_iload_n hx hb dX1_leastBad_46 rfl (lv_at hl 3 rfl) ?_
          refine x_zne (tgt := 94) hx hb dX1_leastBad_47 (by decide) (fun c47 => ?_) (fun c47 => ?_)
          · skip
            refine lv_iinc (v := nI (i + 1)) (lv' := [(6, .int (nI (i + 1))), (7, .int (bI (sb i))), (0, .ref (ad 0)), (1, .ref (sa)), (2, .int (bI (only))), (3, .int (lst)), (4, .int (bI (inn))), (5, .int (nI (few)))]) hx hb dX1_leastBad_94 hl (k := 7) rfl (nI_add _ _) (by decide) rfl (fun ls hl => ?_)
            refine lv_goto (tgt := 21) hx hb dX1_leastBad_97 (by decide) ?_
            exact ih21 (i := i + 1) (lst := lst) (inn := inn) (few := few) (h2 := h2) (ls := ls) (hl := lv_sub hl [2, 3, 4, 5, 6, 7, 0] rfl) (H := H) (locs := locs) (hP := hP) (hD := hD) (hS := hS) (hinv := by
                refine ⟨by omega, ?_, ?_, ?_, by omega⟩
                all_goals first | rw [lbS_upd h2i h2f (Or.inl c43) (Or.inl c63)] | rw [lbS_upd h2i h2f (Or.inr c47) (Or.inl c63)] | rw [lbS_upd h2i h2f (Or.inl c43) (Or.inr ⟨c70, c75, c80⟩)] | rw [lbS_upd h2i h2f (Or.inr c47) (Or.inr ⟨c70, c75, c80⟩)] | (rw [lbS_nup h2i h2f (lb_n1 c43 c47)]; assumption) | (rw [lbS_nup h2i h2f (lb_n2 c63 c70)]; assumption) | (rw [lbS_nup h2i h2f (lb_n3 c63 c75)]; assumption) | (rw [lbS_nup h2i h2f (lb_n4 c63 c80)]; assumption)
              ) (hn9 := by
                omega
              )
          · skip
            refine lv_aload_n hx hb dX1_leastBad_50 rfl (lv_at hl 1 rfl) ?_
            refine lv_iload hx hb dX1_leastBad_51 (lv_at hl 7 rfl) ?_
            refine lv_aload_n hx hb dX1_leastBad_53 rfl (lv_at hl 2 rfl) ?_
            refine va_calli (va_runV (As := [.int (nI (i)), .ref (sa)]) (rest := []) ⟨hx, hb, hml, hown, hts⟩ (c_X1_greatestHeap l D cI cZ cG cJ A ad wr hpal c g hid code ans dbt opn ply h2 i sa k0 sb (hc) (by omega) (hset) (hsb)) (cwV 2 hts gX1_leastBad_X1_greatestHeap rfl rfl rfl (by decide +kernel) ⟨Nat.le_of_ble_eq_true rfl, Nat.le_of_ble_eq_true rfl⟩) (preV (ci := 1) (q0 := 0) hB hS hP hD rfl rfl) rfl rfl hl.1 rfl (lv_room (Nat.le_of_ble_eq_true rfl)) dX1_leastBad_54 ⟨Nat.le_of_ble_eq_true rfl, Nat.le_of_ble_eq_true rfl⟩) hS (fun q _ h => h) (fun q h => h) (fun r_54 u_54 t9 H1 locs1 ht9 hvm9 hw_54 hBw hz9 hk9 hS => ?_)
            obtain ⟨hP, hD⟩ := hBw
            rw [ht9] at hP
            generalize H1 = H at hP hS ⊢
            generalize locs1 = locs at hS ⊢
            replace hP : va_P D vwCl (WX ad cI cZ c g hid code ans dbt opn ply u_54 wr) H := hP
            replace hD : va_D A (WX ad cI cZ c g hid code ans dbt opn ply u_54 wr) := hD
            have hgl := gh_le81 c i sb
            refine x_ti (y := nI (gh c i sb)) (hw_54.1) ?_
            refine lv_istore (lv' := [(8, .int (nI (gh c i sb))), (7, .int (bI (sb i))), (0, .ref (ad 0)), (1, .ref (sa)), (2, .int (bI (only))), (3, .int (lst)), (4, .int (bI (inn))), (5, .int (nI (few))), (6, .int (nI (i)))]) hx hb dX1_leastBad_57 hl (by decide) rfl (fun ls hl => ?_)
            refine lv_iload hx hb dX1_leastBad_59 (lv_at hl 0 rfl) ?_
            refine lv_iload hx hb dX1_leastBad_61 (lv_at hl 7 rfl) ?_
            refine x_lt (tgt := 83) hx hb dX1_leastBad_63 (by decide) (by omega) (by omega) (fun c63 => ?_) (fun c63 => ?_)
            · skip
              refine lv_iload hx hb dX1_leastBad_83 (lv_at hl 8 rfl) ?_
              refine lv_istore_n (lv' := [(3, .int (nI (i))), (8, .int (nI (gh c i sb))), (7, .int (bI (sb i))), (0, .ref (ad 0)), (1, .ref (sa)), (2, .int (bI (only))), (4, .int (bI (inn))), (5, .int (nI (few))), (6, .int (nI (i)))]) hx hb dX1_leastBad_85 rfl hl (by decide) rfl (fun ls hl => ?_)
              refine lv_iload hx hb dX1_leastBad_86 (lv_at hl 2 rfl) ?_
              refine lv_istore (lv' := [(4, .int (bI (sb i))), (3, .int (nI (i))), (8, .int (nI (gh c i sb))), (7, .int (bI (sb i))), (0, .ref (ad 0)), (1, .ref (sa)), (2, .int (bI (only))), (5, .int (nI (few))), (6, .int (nI (i)))]) hx hb dX1_leastBad_88 hl (by decide) rfl (fun ls hl => ?_)
              refine lv_iload hx hb dX1_leastBad_90 (lv_at hl 2 rfl) ?_
              refine lv_istore (lv' := [(5, .int (nI (gh c i sb))), (4, .int (bI (sb i))), (3, .int (nI (i))), (8, .int (nI (gh c i sb))), (7, .int (bI (sb i))), (0, .ref (ad 0)), (1, .ref (sa)), (2, .int (bI (only))), (6, .int (nI (i)))]) hx hb dX1_leastBad_92 hl (by decide) rfl (fun ls hl => ?_)
              refine lv_iinc (v := nI (i + 1)) (lv' := [(6, .int (nI (i + 1))), (5, .int (nI (gh c i sb))), (4, .int (bI (sb i))), (3, .int (nI (i))), (8, .int (nI (gh c i sb))), (7, .int (bI (sb i))), (0, .ref (ad 0)), (1, .ref (sa)), (2, .int (bI (only)))]) hx hb dX1_leastBad_94 hl (k := 8) rfl (nI_add _ _) (by decide) rfl (fun ls hl => ?_)
              refine lv_goto (tgt := 21) hx hb dX1_leastBad_97 (by decide) ?_
              exact ih21 (i := i + 1) (lst := nI (i)) (inn := sb i) (few := gh c i sb) (h2 := u_54) (ls := ls) (hl := lv_sub hl [6, 7, 8, 3, 2, 1, 0] rfl) (H := H) (locs := locs) (hP := hP) (hD := hD) (hS := hS) (hinv := by
                  refine ⟨by omega, ?_, ?_, ?_, by omega⟩
                  all_goals first | rw [lbS_upd h2i h2f (Or.inl c43) (Or.inl c63)] | rw [lbS_upd h2i h2f (Or.inr c47) (Or.inl c63)] | rw [lbS_upd h2i h2f (Or.inl c43) (Or.inr ⟨c70, c75, c80⟩)] | rw [lbS_upd h2i h2f (Or.inr c47) (Or.inr ⟨c70, c75, c80⟩)] | (rw [lbS_nup h2i h2f (lb_n1 c43 c47)]; assumption) | (rw [lbS_nup h2i h2f (lb_n2 c63 c70)]; assumption) | (rw [lbS_nup h2i h2f (lb_n3 c63 c75)]; assumption) | (rw [lbS_nup h2i h2f (lb_n4 c63 c80)]; assumption)
                ) (hn9 := by
                  omega
                )
            · skip
              refine lv_iload hx hb dX1_leastBad_66 (lv_at hl 0 rfl) ?_
              refine lv_iload hx hb dX1_leastBad_68 (lv_at hl 7 rfl) ?_
              refine x_ne (tgt := 94) hx hb dX1_leastBad_70 (by decide) (by omega) (by omega) (fun c70 => ?_) (fun c70 => ?_)
              · skip
                refine lv_iinc (v := nI (i + 1)) (lv' := [(6, .int (nI (i + 1))), (8, .int (nI (gh c i sb))), (7, .int (bI (sb i))), (0, .ref (ad 0)), (1, .ref (sa)), (2, .int (bI (only))), (3, .int (lst)), (4, .int (bI (inn))), (5, .int (nI (few)))]) hx hb dX1_leastBad_94 hl (k := 8) rfl (nI_add _ _) (by decide) rfl (fun ls hl => ?_)
                refine lv_goto (tgt := 21) hx hb dX1_leastBad_97 (by decide) ?_
                exact ih21 (i := i + 1) (lst := lst) (inn := inn) (few := few) (h2 := u_54) (ls := ls) (hl := lv_sub hl [3, 4, 5, 6, 7, 8, 0] rfl) (H := H) (locs := locs) (hP := hP) (hD := hD) (hS := hS) (hinv := by
                    refine ⟨by omega, ?_, ?_, ?_, by omega⟩
                    all_goals first | rw [lbS_upd h2i h2f (Or.inl c43) (Or.inl c63)] | rw [lbS_upd h2i h2f (Or.inr c47) (Or.inl c63)] | rw [lbS_upd h2i h2f (Or.inl c43) (Or.inr ⟨c70, c75, c80⟩)] | rw [lbS_upd h2i h2f (Or.inr c47) (Or.inr ⟨c70, c75, c80⟩)] | (rw [lbS_nup h2i h2f (lb_n1 c43 c47)]; assumption) | (rw [lbS_nup h2i h2f (lb_n2 c63 c70)]; assumption) | (rw [lbS_nup h2i h2f (lb_n3 c63 c75)]; assumption) | (rw [lbS_nup h2i h2f (lb_n4 c63 c80)]; assumption)
                  ) (hn9 := by
                    omega
                  )
              · skip
                refine lv_iload hx hb dX1_leastBad_73 (lv_at hl 1 rfl) ?_
                refine x_zeq (tgt := 94) hx hb dX1_leastBad_75 (by decide) (fun c75 => ?_) (fun c75 => ?_)
                · skip
                  refine lv_iinc (v := nI (i + 1)) (lv' := [(6, .int (nI (i + 1))), (8, .int (nI (gh c i sb))), (7, .int (bI (sb i))), (0, .ref (ad 0)), (1, .ref (sa)), (2, .int (bI (only))), (3, .int (lst)), (4, .int (bI (inn))), (5, .int (nI (few)))]) hx hb dX1_leastBad_94 hl (k := 8) rfl (nI_add _ _) (by decide) rfl (fun ls hl => ?_)
                  refine lv_goto (tgt := 21) hx hb dX1_leastBad_97 (by decide) ?_
                  exact ih21 (i := i + 1) (lst := lst) (inn := inn) (few := few) (h2 := u_54) (ls := ls) (hl := lv_sub hl [3, 4, 5, 6, 7, 8, 0] rfl) (H := H) (locs := locs) (hP := hP) (hD := hD) (hS := hS) (hinv := by
                      refine ⟨by omega, ?_, ?_, ?_, by omega⟩
                      all_goals first | rw [lbS_upd h2i h2f (Or.inl c43) (Or.inl c63)] | rw [lbS_upd h2i h2f (Or.inr c47) (Or.inl c63)] | rw [lbS_upd h2i h2f (Or.inl c43) (Or.inr ⟨c70, c75, c80⟩)] | rw [lbS_upd h2i h2f (Or.inr c47) (Or.inr ⟨c70, c75, c80⟩)] | (rw [lbS_nup h2i h2f (lb_n1 c43 c47)]; assumption) | (rw [lbS_nup h2i h2f (lb_n2 c63 c70)]; assumption) | (rw [lbS_nup h2i h2f (lb_n3 c63 c75)]; assumption) | (rw [lbS_nup h2i h2f (lb_n4 c63 c80)]; assumption)
                    ) (hn9 := by
                      omega
                    )
                · skip
                  refine lv_iload hx hb dX1_leastBad_78 (lv_at hl 6 rfl) ?_
                  refine x_zne (tgt := 94) hx hb dX1_leastBad_80 (by decide) (fun c80 => ?_) (fun c80 => ?_)
                  · skip
                    refine lv_iinc (v := nI (i + 1)) (lv' := [(6, .int (nI (i + 1))), (8, .int (nI (gh c i sb))), (7, .int (bI (sb i))), (0, .ref (ad 0)), (1, .ref (sa)), (2, .int (bI (only))), (3, .int (lst)), (4, .int (bI (inn))), (5, .int (nI (few)))]) hx hb dX1_leastBad_94 hl (k := 8) rfl (nI_add _ _) (by decide) rfl (fun ls hl => ?_)
                    refine lv_goto (tgt := 21) hx hb dX1_leastBad_97 (by decide) ?_
                    exact ih21 (i := i + 1) (lst := lst) (inn := inn) (few := few) (h2 := u_54) (ls := ls) (hl := lv_sub hl [3, 4, 5, 6, 7, 8, 0] rfl) (H := H) (locs := locs) (hP := hP) (hD := hD) (hS := hS) (hinv := by
                        refine ⟨by omega, ?_, ?_, ?_, by omega⟩
                        all_goals first | rw [lbS_upd h2i h2f (Or.inl c43) (Or.inl c63)] | rw [lbS_upd h2i h2f (Or.inr c47) (Or.inl c63)] | rw [lbS_upd h2i h2f (Or.inl c43) (Or.inr ⟨c70, c75, c80⟩)] | rw [lbS_upd h2i h2f (Or.inr c47) (Or.inr ⟨c70, c75, c80⟩)] | (rw [lbS_nup h2i h2f (lb_n1 c43 c47)]; assumption) | (rw [lbS_nup h2i h2f (lb_n2 c63 c70)]; assumption) | (rw [lbS_nup h2i h2f (lb_n3 c63 c75)]; assumption) | (rw [lbS_nup h2i h2f (lb_n4 c63 c80)]; assumption)
                      ) (hn9 := by
                        omega
                      )
                  · skip
                    refine lv_iload hx hb dX1_leastBad_83 (lv_at hl 8 rfl) ?_
                    refine lv_istore_n (lv' := [(3, .int (nI (i))), (8, .int (nI (gh c i sb))), (7, .int (bI (sb i))), (0, .ref (ad 0)), (1, .ref (sa)), (2, .int (bI (only))), (4, .int (bI (inn))), (5, .int (nI (few))), (6, .int (nI (i)))]) hx hb dX1_leastBad_85 rfl hl (by decide) rfl (fun ls hl => ?_)
                    refine lv_iload hx hb dX1_leastBad_86 (lv_at hl 2 rfl) ?_
                    refine lv_istore (lv' := [(4, .int (bI (sb i))), (3, .int (nI (i))), (8, .int (nI (gh c i sb))), (7, .int (bI (sb i))), (0, .ref (ad 0)), (1, .ref (sa)), (2, .int (bI (only))), (5, .int (nI (few))), (6, .int (nI (i)))]) hx hb dX1_leastBad_88 hl (by decide) rfl (fun ls hl => ?_)
                    refine lv_iload hx hb dX1_leastBad_90 (lv_at hl 2 rfl) ?_
                    refine lv_istore (lv' := [(5, .int (nI (gh c i sb))), (4, .int (bI (sb i))), (3, .int (nI (i))), (8, .int (nI (gh c i sb))), (7, .int (bI (sb i))), (0, .ref (ad 0)), (1, .ref (sa)), (2, .int (bI (only))), (6, .int (nI (i)))]) hx hb dX1_leastBad_92 hl (by decide) rfl (fun ls hl => ?_)
                    refine lv_iinc (v := nI (i + 1)) (lv' := [(6, .int (nI (i + 1))), (5, .int (nI (gh c i sb))), (4, .int (bI (sb i))), (3, .int (nI (i))), (8, .int (nI (gh c i sb))), (7, .int (bI (sb i))), (0, .ref (ad 0)), (1, .ref (sa)), (2, .int (bI (only)))]) hx hb dX1_leastBad_94 hl (k := 8) rfl (nI_add _ _) (by decide) rfl (fun ls hl => ?_)
                    refine lv_goto (tgt := 21) hx hb dX1_leastBad_97 (by decide) ?_
                    exact ih21 (i := i + 1) (lst := nI (i)) (inn := sb i) (few := gh c i sb) (h2 := u_54) (ls := ls) (hl := lv_sub hl [6, 7, 8, 3, 2, 1, 0] rfl) (H := H) (locs := locs) (hP := hP) (hD := hD) (hS := hS) (hinv := by
                        refine ⟨by omega, ?_, ?_, ?_, by omega⟩
                        all_goals first | rw [lbS_upd h2i h2f (Or.inl c43) (Or.inl c63)] | rw [lbS_upd h2i h2f (Or.inr c47) (Or.inl c63)] | rw [lbS_upd h2i h2f (Or.inl c43) (Or.inr ⟨c70, c75, c80⟩)] | rw [lbS_upd h2i h2f (Or.inr c47) (Or.inr ⟨c70, c75, c80⟩)] | (rw [lbS_nup h2i h2f (lb_n1 c43 c47)]; assumption) | (rw [lbS_nup h2i h2f (lb_n2 c63 c70)]; assumption) | (rw [lbS_nup h2i h2f (lb_n3 c63 c75)]; assumption) | (rw [lbS_nup h2i h2f (lb_n4 c63 c80)]; assumption)
                      ) (hn9 := by
                        omega
                      )
  · skip
    refine lv_iconst (v := (-1)) hx hb dX1_leastBad_7 (by decide) ?_
    exact W.iret (v := (-1)) hx hb hr (fun t ht hW => ⟨⟨_, hps, rfl, (by
        exact ⟨by rw [lbR, if_pos c4], trivial⟩), ⟨by rw [ht]; exact hP, hD⟩⟩, hS.F ht⟩) hS.2.2 dX1_leastBad_8
