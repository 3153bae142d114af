set_option maxHeartbeats 4000000 in
set_option maxRecDepth 100000 in
theorem c_X1_takes (l : Launch) (hfl : l.flags = flags0) (D : va_G) (cI cZ cG cJ : ClassId) (A : Nat → Prop) (ad : Nat → Nat) (wr : va_W) (hpal : Pals cI cG ad wr) (c : Nat) (g : Nat) (hid : Int32) (code : Nat → Nat) (ans : Nat → Nat) (dbt : Nat → Bool) (opn : Nat → Bool) (ply : Nat → Bool) (hps : Nat → Nat) (v : Int32) (f : Int32) (hI : XI c g hid code ans dbt opn) : vx_Met l yX1_takes wsX1_takes ({ frames := 7, cells := 2, slots := 12, locals := 119 }) (va_Pc [.ref (ad 0), .int (v), .int (f)] (Iv D (TY cI cZ cG cJ) A (WX ad cI cZ c g hid code ans dbt opn ply hps wr))) (va_Qi (fun r (u : Nat × Nat × Int32 × (Nat → Bool) × (Nat → Nat)) => r = u.2.2.1 ∧ tkR c u.1 u.2.1 u.2.2.1 ∧ u.1 < qq c ∧ v = nI u.1 ∧ u.2.1 < qq c ∧ f = nI u.2.1) (fun u => Wd D A (WX ad cI cZ c g hid code ans dbt opn u.2.2.2.1 u.2.2.2.2 wr)) A) (Xw D A (WX ad cI cZ c g hid code ans dbt opn ply hps wr) (fun E => E = "java/lang/IndexOutOfBoundsException" ∧ (hasC c v = false ∨ hasC c f = false))) 2 12 A := by
  refine vx_ofW (cc := cX1_takes) (maxL := 5) (ret := (some .int)) (by decide) rfl ?_
  intro p e s m args below meth c9 s₁ B hml hnt hv
  obtain ⟨rfl, hP, hD, hB⟩ := hv
  have hK := hB.1
  have hA := hB.2.1
  have hx := B.exec
  have hb := B.bytes
  have hr := B.returns
  have hts := atoms_spec (ws := wsX1_takes) B.pre
  have hown : s.vm.findClass RX1 = some m.cls := findClass_of_methodNamed B.named
  have hlocks := B.notSynchronized
  have hS : va_S A s.heap s.heap [] := va_S.rf
  have hflag : l.stackTraces = false := by rw [Launch.stackTraces, hfl]; decide
  have hinX1 : ∀ w ∈ wsX10, w ∈ wsX1_takes := by decide +kernel
  have lk21 := hts (.fieldLink RX1 21 "HiddenCandles" "palette" "LHiddenCandles$Palette;") (by decide +kernel)
  have lk45 := hts (.fieldLink RX1 45 "HiddenCandles" "play" "[Z") (by decide +kernel)
  have hl := lv_entry ([.ref (ad 0), .int (v), .int (f)]) (n := 5) (Nat.le_of_ble_eq_true rfl)
  rw [lg_entry_eq]
  generalize (lg_sl ([.ref (ad 0), .int (v), .int (f)]) ++ List.replicate (5 - (lg_sl ([.ref (ad 0), .int (v), .int (f)])).length) Slot.unset).toArray = ls at hl ⊢
  have hl : lv_has ls 5 [(0, .ref (ad 0)), (1, .int (v)), (2, .int (f))] := hl
  obtain ⟨H, eH⟩ : ∃ q, q = s.heap := ⟨_, rfl⟩
  obtain ⟨locs, eL⟩ : ∃ q : List Loc, q = [] := ⟨_, rfl⟩
  replace hP : va_P D vwCl (WX ad cI cZ c g hid code ans dbt opn ply hps wr) H := by rw [eH]; exact hP
  replace hS : va_S A s.heap H locs := by rw [eH, eL]; exact hS
  rw [show W p l e _ s m _ below meth c9 s.heap [] = W p l e _ s m _ below meth c9 H locs from by rw [eH, eL]]
  clear eH eL
  obtain ⟨hc, hg, hco, hhid, hop⟩ := id hI
  have hq := qq_in hc
  have hop2 := op_lt hop
  refine lv_aload_n hx hb dX1_takes_0 rfl (lv_at hl 0 rfl) ?_
  refine lv_iload_n hx hb dX1_takes_1 rfl (lv_at hl 1 rfl) ?_
  refine vx_callv (vx_runV (As := [.int (v)]) (rest := []) ⟨hx, hb, hml, hown, hts⟩ (c_X1_needCode l hfl D cI cZ cG cJ A ad wr hpal c g hid code ans dbt opn ply hps v (hc)) (cwV 1 hts gX1_takes_X1_needCode rfl rfl rfl (by decide +kernel) ⟨Nat.le_of_ble_eq_true rfl, Nat.le_of_ble_eq_true rfl⟩) (preV (ci := 1) (q0 := 0) hB hS hP hD rfl rfl) rfl rfl hl.1 rfl (lv_room (Nat.le_of_ble_eq_true rfl)) dX1_takes_2 ⟨Nat.le_of_ble_eq_true rfl, Nat.le_of_ble_eq_true rfl⟩) hS (fun q _ h => h) (fun q h => h) (fun q _ h => h) (fun E ce q9 u9 t9 H1 locs1 ht9 hvm9 hpx8 hBx hz9 hk9 hS hq9 hv9 hcl9 => ?_) (fun u_2 t9 H1 locs1 ht9 hvm9 hw_2 hBw hz9 hk9 hS => ?_)
  · obtain ⟨hpx9, hP1, hD1⟩ := hBx
    rw [ht9] at hP1
    exact vx_out (fun x hx9 => (hnt x hx9).elim) hlocks hq9 hv9 hcl9 (fun t ht hvm => ⟨(), trivial, ⟨(by
        exact ⟨hpx9.1, Or.inl hpx9.2⟩), by rw [ht]; exact hP1, hD1⟩, hS.F ht⟩) hS.2.2 (by omega) (by omega)
  obtain ⟨hP, hD⟩ := hBw
  rw [ht9] at hP
  generalize H1 = H at hP hS ⊢
  generalize locs1 = locs at hS ⊢
  replace hP : va_P D vwCl (WX ad cI cZ c g hid code ans dbt opn ply hps wr) H := hP
  replace hD : va_D A (WX ad cI cZ c g hid code ans dbt opn ply hps wr) := hD
  obtain ⟨k, hk, rfl⟩ := hasC_of hc hw_2
  refine lv_aload_n hx hb dX1_takes_5 rfl (lv_at hl 0 rfl) ?_
  refine lv_iload_n hx hb dX1_takes_6 rfl (lv_at hl 2 rfl) ?_
  refine vx_callv (vx_runV (As := [.int (f)]) (rest := []) ⟨hx, hb, hml, hown, hts⟩ (c_X1_needCode l hfl D cI cZ cG cJ A ad wr hpal c g hid code ans dbt opn ply hps f (hc)) (cwV 1 hts gX1_takes_X1_needCode rfl rfl rfl (by decide +kernel) ⟨Nat.le_of_ble_eq_true rfl, Nat.le_of_ble_eq_true rfl⟩) (preV (ci := 1) (q0 := 0) hB hS hP hD rfl rfl) rfl rfl hl.1 rfl (lv_room (Nat.le_of_ble_eq_true rfl)) dX1_takes_7 ⟨Nat.le_of_ble_eq_true rfl, Nat.le_of_ble_eq_true rfl⟩) hS (fun q _ h => h) (fun q h => h) (fun q _ h => h) (fun E ce q9 u9 t9 H1 locs1 ht9 hvm9 hpx8 hBx hz9 hk9 hS hq9 hv9 hcl9 => ?_) (fun u_7 t9 H1 locs1 ht9 hvm9 hw_7 hBw hz9 hk9 hS => ?_)
  · obtain ⟨hpx9, hP1, hD1⟩ := hBx
    rw [ht9] at hP1
    exact vx_out (fun x hx9 => (hnt x hx9).elim) hlocks hq9 hv9 hcl9 (fun t ht hvm => ⟨(), trivial, ⟨(by
        exact ⟨hpx9.1, Or.inr hpx9.2⟩), by rw [ht]; exact hP1, hD1⟩, hS.F ht⟩) hS.2.2 (by omega) (by omega)
  obtain ⟨hP, hD⟩ := hBw
  rw [ht9] at hP
  generalize H1 = H at hP hS ⊢
  generalize locs1 = locs at hS ⊢
  replace hP : va_P D vwCl (WX ad cI cZ c g hid code ans dbt opn ply hps wr) H := hP
  replace hD : va_D A (WX ad cI cZ c g hid code ans dbt opn ply hps wr) := hD
  obtain ⟨k2, hk2, rfl⟩ := hasC_of hc hw_7
  refine lv_iconst (v := nI (0)) hx hb dX1_takes_10 (by decide) ?_
  refine lv_istore_n (lv' := [(3, .int (nI (0))), (0, .ref (ad 0)), (1, .int (nI (k))), (2, .int (nI (k2)))]) hx hb dX1_takes_11 rfl hl (by decide) rfl (fun ls hl => ?_)
  -- loop at 12
  have hinv : 0 ≤ 81 ∧ ∀ z, z < 0 → ply z = decide (z < qq c) := by
    exact ⟨Nat.zero_le _, fun k hk => absurd hk (Nat.not_lt_zero _)⟩
  obtain ⟨i, p2, hq9⟩ : ∃ (i : Nat) (p2 : Nat → Bool), lv_has ls 5 [(0, .ref (ad 0)), (1, .int (nI (k))), (2, .int (nI (k2))), (3, .int (nI (i)))] ∧ (i ≤ 81 ∧ ∀ z, z < i → p2 z = decide (z < qq c)) ∧ va_P D vwCl (WX ad cI cZ c g hid code ans dbt opn p2 hps wr) H ∧ va_D A (WX ad cI cZ c g hid code ans dbt opn p2 hps wr) := ⟨0, ply, lv_sub hl [1, 2, 3, 0] rfl, hinv, hP, hD⟩
  clear hl hinv hP hD
  obtain ⟨hl, hinv, hP, hD⟩ := hq9
  obtain ⟨n9_12, hn9⟩ : ∃ q : Nat, 81 - i < q := ⟨_, Nat.lt_succ_self _⟩
  induction n9_12 generalizing ls H locs i p2 with
  | zero => exact absurd hn9 (Nat.not_lt_zero _)
  | succ n9_12 ih12 =>
    obtain ⟨h1, h2⟩ := hinv
    refine lv_iload_n hx hb dX1_takes_12 rfl (lv_at hl 3 rfl) ?_
    refine lv_aload_n hx hb dX1_takes_13 rfl (lv_at hl 0 rfl) ?_
    refine va_get (D := D) (ci := 1) (v := .ref (ad 5)) (C := RX1) (T := TX1) (N := 11) hx hb hts hinX1 hown hK hP 0 rfl rfl 9 (by decide) lk45 (fun _ h9 => h9) rfl dX1_takes_14 ?_
    refine x_alen hx hb hK hP 5 1 rfl rfl (n := 81) rfl dX1_takes_17 ?_
    refine x_ge (tgt := 41) hx hb dX1_takes_18 (by decide) (by omega) (by omega) (fun c18 => ?_) (fun c18 => ?_)
    · skip
      refine lv_iconst (v := nI (1)) hx hb dX1_takes_41 (by decide) ?_
      refine lv_istore_n (lv' := [(3, .int (nI (1))), (0, .ref (ad 0)), (1, .int (nI (k))), (2, .int (nI (k2)))]) hx hb dX1_takes_42 rfl hl (by decide) rfl (fun ls hl => ?_)
      refine lv_iload_n hx hb dX1_takes_43 rfl (lv_at hl 3 rfl) ?_
      refine lv_istore (lv' := [(4, .int (nI (k2))), (3, .int (nI (1))), (0, .ref (ad 0)), (1, .int (nI (k))), (2, .int (nI (k2)))]) hx hb dX1_takes_44 hl (by decide) rfl (fun ls hl => ?_)
      -- loop at 46
      have hinv : 1 = 0 + 1 ∧ k2 = (tkP c k k2 0).2 ∧ (∀ z, z < 81 → p2 z = (tkP c k k2 0).1 z) ∧ ∀ m, m < 0 → ¬ (tkP c k k2 m).2 = k := by
        have e9 : i = 81 := by omega
        subst e9
        exact ⟨rfl, rfl, h2, fun m hm => absurd hm (Nat.not_lt_zero _)⟩
      obtain ⟨n, tt9, xx, p3, h3, hq9⟩ : ∃ (n : Nat) (tt9 : Nat) (xx : Nat) (p3 : Nat → Bool) (h3 : Nat → Nat), lv_has ls 5 [(0, .ref (ad 0)), (1, .int (nI (k))), (2, .int (nI (k2))), (3, .int (nI (tt9))), (4, .int (nI (xx)))] ∧ (tt9 = n + 1 ∧ xx = (tkP c k k2 n).2 ∧ (∀ z, z < 81 → p3 z = (tkP c k k2 n).1 z) ∧ ∀ m, m < n → ¬ (tkP c k k2 m).2 = k) ∧ va_P D vwCl (WX ad cI cZ c g hid code ans dbt opn p3 h3 wr) H ∧ va_D A (WX ad cI cZ c g hid code ans dbt opn p3 h3 wr) := ⟨0, 1, k2, p2, hps, lv_sub hl [2, 3, 4, 1, 0] rfl, hinv, hP, hD⟩
      clear hl hinv hP hD
      obtain ⟨hl, hinv, hP, hD⟩ := hq9
      obtain ⟨n9_46, hn9⟩ : ∃ q : Nat, 81 - n < q := ⟨_, Nat.lt_succ_self _⟩
      induction n9_46 generalizing ls H locs n tt9 xx p3 h3 with
      | zero => exact absurd hn9 (Nat.not_lt_zero _)
      | succ n9_46 ih46 =>
        obtain ⟨ht9, hxx, hp3, hno⟩ := hinv; have hnb := tk_bound hc hk hk2 n hno; have hti := tk_inv hc hk hk2 n hno; have hxq : xx < qq c := by rw [hxx]; exact hti.2.1
        refine lv_iload hx hb dX1_takes_46 (lv_at hl 4 rfl) ?_
        refine lv_iload_n hx hb dX1_takes_48 rfl (lv_at hl 1 rfl) ?_
        refine x_eq (tgt := 95) hx hb dX1_takes_49 (by decide) (by omega) (by omega) (fun c49 => ?_) (fun c49 => ?_)
        · skip
          refine lv_iload_n hx hb dX1_takes_95 rfl (lv_at hl 3 rfl) ?_
          refine W.widen (k := 2) (n := 12) (Nat.le_of_ble_eq_true rfl) (Nat.le_of_ble_eq_true rfl) ?_
          exact vx_ret (W.iret (v := nI (tt9)) hx hb hr (fun t ht hW => ⟨⟨_, (k, k2, nI tt9, p3, h3), rfl, (by
              exact ⟨rfl, ⟨n, by omega, hno, by rw [← hxx]; exact c49, by rw [ht9]⟩, hk, rfl, hk2, rfl⟩), ⟨by rw [ht]; exact hP, hD⟩⟩, hS.F ht⟩) hS.2.2 dX1_takes_96)
        · skip
          refine lv_iload_n hx hb dX1_takes_52 rfl (lv_at hl 3 rfl) ?_
          refine lv_bipush (v := nI (81)) hx hb dX1_takes_53 (by decide) ?_
          refine x_gt (tgt := 95) hx hb dX1_takes_55 (by decide) (by omega) (by omega) (fun c55 => absurd c55 (by omega)) (fun c55 => ?_)
          refine lv_aload_n hx hb dX1_takes_58 rfl (lv_at hl 0 rfl) ?_
          refine lv_aload_n hx hb dX1_takes_59 rfl (lv_at hl 0 rfl) ?_
          refine va_get (D := D) (ci := 1) (v := .ref (ad 5)) (C := RX1) (T := TX1) (N := 11) hx hb hts hinX1 hown hK hP 0 rfl rfl 9 (by decide) lk45 (fun _ h9 => h9) rfl dX1_takes_60 ?_
          refine lv_iload hx hb dX1_takes_63 (lv_at hl 4 rfl) ?_
          refine lv_aload_n hx hb dX1_takes_65 rfl (lv_at hl 0 rfl) ?_
          refine va_get (D := D) (ci := 1) (v := .ref (pal ad c)) (C := RX1) (T := TX1) (N := 11) hx hb hts hinX1 hown hK hP 0 rfl rfl 2 (by decide) lk21 (fun _ h9 => h9) rfl dX1_takes_66 ?_
          refine lv_iload hx hb dX1_takes_69 (lv_at hl 4 rfl) ?_
          refine lv_iload_n hx hb dX1_takes_71 rfl (lv_at hl 1 rfl) ?_
          refine x_csi (va_runVN (As := [.int (nI (xx)), .int (nI (k))]) (rest := [.int (nI (xx)), .ref (ad 5), .ref (ad 0)]) ⟨hx, hb, hml, hown, hts⟩ (c_X0_answerTo l D cI cZ cG cJ A (WX ad cI cZ c g hid code ans dbt opn p3 h3 wr) (pal ad c) c xx k (palX hpal hc) (hc) (hxq) (hk)) ⟨va_cnB (host := RX1) 2 hts gX1_takes_X0_answerTo_n77 rfl rfl rfl (hB.2.2.2.2.1 _ (by simp [Nws])) (hts _ (by decide +kernel)) (by decide +kernel) ⟨Nat.le_of_ble_eq_true rfl, Nat.le_of_ble_eq_true rfl⟩, hts _ (by decide +kernel), hts _ (by decide +kernel)⟩ (prePal hB hS hP hD (palX hpal hc)) rfl rfl hl.1 rfl (lv_room (Nat.le_of_ble_eq_true rfl)) dX1_takes_72 ⟨Nat.le_of_ble_eq_true rfl, Nat.le_of_ble_eq_true rfl⟩) ?_
          have hpi := pins_le hc (hxq) (hk)
          refine va_callv (va_runV (As := [.ref (ad 5), .int (nI (xx)), .int (nI (pins c xx k))]) (rest := []) ⟨hx, hb, hml, hown, hts⟩ (c_X1_keepAnswering l D cI cZ cG cJ A ad wr hpal c g hid code ans dbt opn p3 h3 xx (pins c xx k) (hc) (hxq) (by omega) (fun z hz q => hti.2.2.2.2 z ((hp3 z hz).symm.trans q))) (cwV 3 hts gX1_takes_X1_keepAnswering rfl rfl rfl (by decide +kernel) ⟨Nat.le_of_ble_eq_true rfl, Nat.le_of_ble_eq_true rfl⟩) (preV (ci := 1) (q0 := 0) hB hS hP hD rfl rfl) rfl rfl hl.1 rfl (lv_room (Nat.le_of_ble_eq_true rfl)) dX1_takes_75 ⟨Nat.le_of_ble_eq_true rfl, Nat.le_of_ble_eq_true rfl⟩) hS (fun q _ h => h) (fun q h => h) (fun u_75 t9 H1 locs1 ht9 hvm9 hw_75 hBw hz9 hk9 hS => ?_)
          obtain ⟨hP, hD⟩ := hBw
          rw [ht9] at hP
          generalize H1 = H at hP hS ⊢
          generalize locs1 = locs at hS ⊢
          replace hP : va_P D vwCl (WX ad cI cZ c g hid code ans dbt opn u_75 h3 wr) H := hP
          replace hD : va_D A (WX ad cI cZ c g hid code ans dbt opn u_75 h3 wr) := hD
          have hs7 : ∀ z, z < 81 → u_75 z = (tkP c k k2 (n + 1)).1 z := fun z hz => by rw [hw_75 z hz, hp3 z hz, hxx]; rfl
          have hti2 := tk_inv hc hk hk2 (n + 1) (tk_no hno (by rw [← hxx]; exact c49))
          refine lv_aload_n hx hb dX1_takes_78 rfl (lv_at hl 0 rfl) ?_
          refine lv_aload_n hx hb dX1_takes_79 rfl (lv_at hl 0 rfl) ?_
          refine va_get (D := D) (ci := 1) (v := .ref (ad 5)) (C := RX1) (T := TX1) (N := 11) hx hb hts hinX1 hown hK hP 0 rfl rfl 9 (by decide) lk45 (fun _ h9 => h9) rfl dX1_takes_80 ?_
          refine lv_iconst (v := bI (true)) hx hb dX1_takes_83 (by decide) ?_
          refine va_calli (va_runV (As := [.ref (ad 5), .int (bI (true))]) (rest := []) ⟨hx, hb, hml, hown, hts⟩ (c_X1_leastBad l D cI cZ cG cJ A ad wr hpal c g hid code ans dbt opn u_75 h3 (ad 5) 5 u_75 true (hc) (Or.inr ⟨rfl, rfl, rfl⟩) (fun z hz q => hti2.2.2.2.2 z ((hs7 z hz).symm.trans q))) (cwV 2 hts gX1_takes_X1_leastBad rfl rfl rfl (by decide +kernel) ⟨Nat.le_of_ble_eq_true rfl, Nat.le_of_ble_eq_true rfl⟩) (preV (ci := 1) (q0 := 0) hB hS hP hD rfl rfl) rfl rfl hl.1 rfl (lv_room (Nat.le_of_ble_eq_true rfl)) dX1_takes_84 ⟨Nat.le_of_ble_eq_true rfl, Nat.le_of_ble_eq_true rfl⟩) hS (fun q _ h => h) (fun q h => h) (fun r_84 u_84 t9 H1 locs1 ht9 hvm9 hw_84 hBw hz9 hk9 hS => ?_)
          obtain ⟨hP, hD⟩ := hBw
          rw [ht9] at hP
          generalize H1 = H at hP hS ⊢
          generalize locs1 = locs at hS ⊢
          replace hP : va_P D vwCl (WX ad cI cZ c g hid code ans dbt opn u_75 u_84 wr) H := hP
          replace hD : va_D A (WX ad cI cZ c g hid code ans dbt opn u_75 u_84 wr) := hD
          refine x_ti (y := lbR c u_75 true) (hw_84.1) ?_
          have hx7 : (tkP c k k2 (n + 1)).2 = (tkP c k k2 (n + 1)).2 := rfl
          refine x_ti (y := nI ((tkP c k k2 (n + 1)).2)) (by rw [lbR_congr hs7]; exact (lbI_ok hq.2 (fun z _ q => hti2.2.2.2.2 z q) ⟨k, hk, hti2.1⟩).1) ?_
          refine lv_istore (lv' := [(4, .int (nI ((tkP c k k2 (n + 1)).2))), (0, .ref (ad 0)), (1, .int (nI (k))), (2, .int (nI (k2))), (3, .int (nI (tt9)))]) hx hb dX1_takes_87 hl (by decide) rfl (fun ls hl => ?_)
          refine lv_iinc (v := nI (tt9 + 1)) (lv' := [(3, .int (nI (tt9 + 1))), (4, .int (nI ((tkP c k k2 (n + 1)).2))), (0, .ref (ad 0)), (1, .int (nI (k))), (2, .int (nI (k2)))]) hx hb dX1_takes_89 hl (k := 4) rfl (nI_add _ _) (by decide) rfl (fun ls hl => ?_)
          refine lv_goto (tgt := 46) hx hb dX1_takes_92 (by decide) ?_
          exact ih46 (n := n + 1) (tt9 := tt9 + 1) (xx := (tkP c k k2 (n + 1)).2) (p3 := u_75) (h3 := u_84) (ls := ls) (hl := lv_sub hl [2, 3, 4, 0, 1] rfl) (H := H) (locs := locs) (hP := hP) (hD := hD) (hS := hS) (hinv := by
              exact ⟨by omega, hx7, hs7, tk_no hno (by rw [← hxx]; exact c49)⟩
            ) (hn9 := by
              have := tk_bound hc hk hk2 (n + 1) (tk_no hno (by rw [← hxx]; exact c49))
              omega
            )
    · skip
      refine lv_aload_n hx hb dX1_takes_21 rfl (lv_at hl 0 rfl) ?_
      refine va_get (D := D) (ci := 1) (v := .ref (ad 5)) (C := RX1) (T := TX1) (N := 11) hx hb hts hinX1 hown hK hP 0 rfl rfl 9 (by decide) lk45 (fun _ h9 => h9) rfl dX1_takes_22 ?_
      refine lv_iload_n hx hb dX1_takes_25 rfl (lv_at hl 3 rfl) ?_
      refine lv_aload_n hx hb dX1_takes_26 rfl (lv_at hl 0 rfl) ?_
      refine va_get (D := D) (ci := 1) (v := .ref (pal ad c)) (C := RX1) (T := TX1) (N := 11) hx hb hts hinX1 hown hK hP 0 rfl rfl 2 (by decide) lk21 (fun _ h9 => h9) rfl dX1_takes_27 ?_
      refine lv_iload_n hx hb dX1_takes_30 rfl (lv_at hl 3 rfl) ?_
      refine x_csi (va_runVN (As := [.int (nI (i))]) (rest := [.int (nI (i)), .ref (ad 5)]) ⟨hx, hb, hml, hown, hts⟩ (c_X0_hasCode l D cI cZ cG cJ A (WX ad cI cZ c g hid code ans dbt opn p2 hps wr) (pal ad c) c (nI i) (palX hpal hc) (hc)) ⟨va_cnB (host := RX1) 1 hts gX1_takes_X0_hasCode_n153 rfl rfl rfl (hB.2.2.2.2.1 _ (by simp [Nws])) (hts _ (by decide +kernel)) (by decide +kernel) ⟨Nat.le_of_ble_eq_true rfl, Nat.le_of_ble_eq_true rfl⟩, hts _ (by decide +kernel), hts _ (by decide +kernel)⟩ (prePal hB hS hP hD (palX hpal hc)) rfl rfl hl.1 rfl (lv_room (Nat.le_of_ble_eq_true rfl)) dX1_takes_31 ⟨Nat.le_of_ble_eq_true rfl, Nat.le_of_ble_eq_true rfl⟩) ?_
      refine x_ti (y := bI (decide (i < qq c))) (by rw [hasC_nI hc (by omega)]) ?_
      refine x_zast hx hb hK hP hD hS 5 1 rfl rfl (i := i) (v := decide (i < qq c)) (by omega) (by omega) dX1_takes_34 (fun H locs hP hD hS => ?_)
      replace hP : va_P D vwCl (WX ad cI cZ c g hid code ans dbt opn (va_up p2 i (decide (i < qq c))) hps wr) H := hP
      replace hD : va_D A (WX ad cI cZ c g hid code ans dbt opn (va_up p2 i (decide (i < qq c))) hps wr) := hD
      refine lv_iinc (v := nI (i + 1)) (lv' := [(3, .int (nI (i + 1))), (0, .ref (ad 0)), (1, .int (nI (k))), (2, .int (nI (k2)))]) hx hb dX1_takes_35 hl (k := 3) rfl (nI_add _ _) (by decide) rfl (fun ls hl => ?_)
      refine lv_goto (tgt := 12) hx hb dX1_takes_38 (by decide) ?_
      exact ih12 (i := i + 1) (p2 := (va_up p2 i (decide (i < qq c)))) (ls := ls) (hl := lv_sub hl [1, 2, 3, 0] rfl) (H := H) (locs := locs) (hP := hP) (hD := hD) (hS := hS) (hinv := by
          exact ⟨by omega, up_le (q := fun z => decide (z < qq c)) h2 rfl⟩
        ) (hn9 := by
          omega
        )

set_option maxHeartbeats 4000000 in
set_option maxRecDepth 100000 in
theorem c_X1_mean (l : Launch) (D : va_G) (cI cZ cG cJ : ClassId) (A : Nat → Prop) (ad : Nat → Nat) (wr : va_W) (hpal : Pals cI cG ad wr) (c : Nat) (g : Nat) (hid : Int32) (code : Nat → Nat) (ans : Nat → Nat) (dbt : Nat → Bool) (opn : Nat → Bool) (ply : Nat → Bool) (hps : Nat → Nat) (hI : XI c g hid code ans dbt opn) : Met l yX1_mean wsX1_mean ({ frames := 0, cells := 0, slots := 0, locals := 0 }) (va_Pc [.ref (ad 0)] (Iv D (TY cI cZ cG cJ) A (WX ad cI cZ c g hid code ans dbt opn ply hps wr))) (vp_Sd (fun r => r = meanV g ans)) 0 0 (fun _ => False) := by
  refine Met.ofW (cc := cX1_mean) (maxL := 3) (ret := (some .double)) (by decide) rfl ?_
  intro p e s m args below meth c9 s₁ B hml hv
  obtain ⟨rfl, hP, hD, hB⟩ := hv
  have hK := hB.1
  have hA := hB.2.1
  have hx := B.exec
  have hb := B.bytes
  have hr := B.returns
  have hts := atoms_spec (ws := wsX1_mean) B.pre
  have hown : s.vm.findClass RX1 = some m.cls := findClass_of_methodNamed B.named
  have hlocks := B.notSynchronized
  have hS : va_S A s.heap s.heap [] := va_S.rf
  have hinX1 : ∀ w ∈ wsX10, w ∈ wsX1_mean := by decide +kernel
  have lk28 := hts (.fieldLink RX1 28 "HiddenCandles" "guesses" "I") (by decide +kernel)
  have lk35 := hts (.fieldLink RX1 35 "HiddenCandles" "answers" "[I") (by decide +kernel)
  have hl := lv_entry ([.ref (ad 0)]) (n := 3) (Nat.le_of_ble_eq_true rfl)
  rw [lg_entry_eq]
  generalize (lg_sl ([.ref (ad 0)]) ++ List.replicate (3 - (lg_sl ([.ref (ad 0)])).length) Slot.unset).toArray = ls at hl ⊢
  have hl : lv_has ls 3 [(0, .ref (ad 0))] := hl
  obtain ⟨hc, hg, hco, hhid, hop⟩ := id hI
  have hq := qq_in hc
  have hop2 := op_lt hop
  refine lv_aload_n hx hb dX1_mean_0 rfl (lv_at hl 0 rfl) ?_
  refine va_get (D := D) (ci := 1) (v := .int (nI (g))) (C := RX1) (T := TX1) (N := 11) hx hb hts hinX1 hown hK hP 0 rfl rfl 4 (by decide) lk28 (fun _ h9 => h9) rfl dX1_mean_1 ?_
  refine x_ne0 (tgt := 9) hx hb dX1_mean_4 (by decide) (by omega) (fun c4 => ?_) (fun c4 => ?_)
  · skip
    refine lv_iconst (v := nI (0)) hx hb dX1_mean_9 (by decide) ?_
    refine lv_istore_n (lv' := [(1, .int (nI (0))), (0, .ref (ad 0))]) hx hb dX1_mean_10 rfl hl (by decide) rfl (fun ls hl => ?_)
    refine lv_iconst (v := nI (0)) hx hb dX1_mean_11 (by decide) ?_
    refine lv_istore_n (lv' := [(2, .int (nI (0))), (1, .int (nI (0))), (0, .ref (ad 0))]) hx hb dX1_mean_12 rfl hl (by decide) rfl (fun ls hl => ?_)
    -- loop at 13
    have hinv : 0 ≤ g ∧ 0 = blkS ans 0 := by
      exact ⟨Nat.zero_le _, rfl⟩
    obtain ⟨i, r, hq9⟩ : ∃ (i : Nat) (r : Nat), lv_has ls 3 [(0, .ref (ad 0)), (1, .int (nI (r))), (2, .int (nI (i)))] ∧ (i ≤ g ∧ r = blkS ans i) := ⟨0, 0, lv_sub hl [2, 1, 0] rfl, hinv⟩
    clear hl hinv
    obtain ⟨hl, hinv⟩ := hq9
    obtain ⟨n9_13, hn9⟩ : ∃ q : Nat, g - i < q := ⟨_, Nat.lt_succ_self _⟩
    induction n9_13 generalizing ls i r with
    | zero => exact absurd hn9 (Nat.not_lt_zero _)
    | succ n9_13 ih13 =>
      obtain ⟨h1, h2⟩ := hinv
      refine lv_iload_n hx hb dX1_mean_13 rfl (lv_at hl 2 rfl) ?_
      refine lv_aload_n hx hb dX1_mean_14 rfl (lv_at hl 0 rfl) ?_
      refine va_get (D := D) (ci := 1) (v := .int (nI (g))) (C := RX1) (T := TX1) (N := 11) hx hb hts hinX1 hown hK hP 0 rfl rfl 4 (by decide) lk28 (fun _ h9 => h9) rfl dX1_mean_15 ?_
      refine x_ge (tgt := 47) hx hb dX1_mean_18 (by decide) (by omega) (by omega) (fun c18 => ?_) (fun c18 => ?_)
      · skip
        refine lv_iload_n hx hb dX1_mean_47 rfl (lv_at hl 1 rfl) ?_
        refine lv_i2d hx hb dX1_mean_48 ?_
        refine lv_aload_n hx hb dX1_mean_49 rfl (lv_at hl 0 rfl) ?_
        refine va_get (D := D) (ci := 1) (v := .int (nI (g))) (C := RX1) (T := TX1) (N := 11) hx hb hts hinX1 hown hK hP 0 rfl rfl 4 (by decide) lk28 (fun _ h9 => h9) rfl dX1_mean_50 ?_
        refine lv_i2d hx hb dX1_mean_53 ?_
        refine lv_ddiv hx hb dX1_mean_54 (mean_nan r (by rw [h2]; have := blkS_le hco i h1; omega) g (by omega) c4) ?_
        exact W.dret (v := FP.ddiv (FP.i2d (nI (r))) (FP.i2d (nI (g)))) hx hb hr (fun t ht hW => ⟨_, rfl, (by
            have e9 : i = g := by omega
            rw [meanV, if_neg (by omega), h2, e9]), ht⟩) (fun _ h => nomatch h) dX1_mean_55
      · skip
        refine lv_iload_n hx hb dX1_mean_21 rfl (lv_at hl 2 rfl) ?_
        refine lv_aload_n hx hb dX1_mean_22 rfl (lv_at hl 0 rfl) ?_
        refine va_get (D := D) (ci := 1) (v := .ref (ad 2)) (C := RX1) (T := TX1) (N := 11) hx hb hts hinX1 hown hK hP 0 rfl rfl 6 (by decide) lk35 (fun _ h9 => h9) rfl dX1_mean_23 ?_
        refine x_alen hx hb hK hP 2 0 rfl rfl (n := 12) rfl dX1_mean_26 ?_
        refine x_ge (tgt := 47) hx hb dX1_mean_27 (by decide) (by omega) (by omega) (fun c27 => absurd c27 (by omega)) (fun c27 => ?_)
        refine lv_iload_n hx hb dX1_mean_30 rfl (lv_at hl 1 rfl) ?_
        refine lv_aload_n hx hb dX1_mean_31 rfl (lv_at hl 0 rfl) ?_
        refine va_get (D := D) (ci := 1) (v := .ref (ad 2)) (C := RX1) (T := TX1) (N := 11) hx hb hts hinX1 hown hK hP 0 rfl rfl 6 (by decide) lk35 (fun _ h9 => h9) rfl dX1_mean_32 ?_
        refine lv_iload_n hx hb dX1_mean_35 rfl (lv_at hl 2 rfl) ?_
        refine x_iald hx hb hK hP 2 0 rfl rfl (i := i) (by omega) (by omega) dX1_mean_36 ?_
        have hai := (hco i c18).2
        refine lv_iconst (v := nI (5)) hx hb dX1_mean_37 (by decide) ?_
        refine lv_idiv hx hb dX1_mean_38 (nI_ne0 (by omega) (by omega)) ?_
        refine x_ti (pk_div (by omega) (by omega) (by omega)) ?_
        refine lv_iadd hx hb dX1_mean_39 ?_
        refine x_ti (nI_add _ _) ?_
        refine lv_istore_n (lv' := [(1, .int (nI (r + ((ans i) / 5)))), (0, .ref (ad 0)), (2, .int (nI (i)))]) hx hb dX1_mean_40 rfl hl (by decide) rfl (fun ls hl => ?_)
        refine lv_iinc (v := nI (i + 1)) (lv' := [(2, .int (nI (i + 1))), (1, .int (nI (r + ((ans i) / 5)))), (0, .ref (ad 0))]) hx hb dX1_mean_41 hl (k := 2) rfl (nI_add _ _) (by decide) rfl (fun ls hl => ?_)
        refine lv_goto (tgt := 13) hx hb dX1_mean_44 (by decide) ?_
        exact ih13 (i := i + 1) (r := r + ((ans i) / 5)) (ls := ls) (hl := lv_sub hl [2, 1, 0] rfl) (hinv := by
            exact ⟨by omega, by rw [h2]; rfl⟩
          ) (hn9 := by
            omega
          )
  · skip
    refine lv_dconst0 hx hb dX1_mean_7 ?_
    exact W.dret (v := FP.dconst0) hx hb hr (fun t ht hW => ⟨_, rfl, (by
        rw [meanV, if_pos c4]), ht⟩) (fun _ h => nomatch h) dX1_mean_8

set_option maxHeartbeats 4000000 in
set_option maxRecDepth 100000 in
theorem c_X1_digest (l : Launch) (D : va_G) (cI cZ cG cJ : ClassId) (A : Nat → Prop) (ad : Nat → Nat) (wr : va_W) (hpal : Pals cI cG ad wr) (c : Nat) (g : Nat) (hid : Int32) (code : Nat → Nat) (ans : Nat → Nat) (dbt : Nat → Bool) (opn : Nat → Bool) (ply : Nat → Bool) (hps : Nat → Nat) (hI : XI c g hid code ans dbt opn) : Met l yX1_digest wsX1_digest ({ frames := 5, cells := 0, slots := 0, locals := 111 }) (va_Pc [.ref (ad 0)] (Iv D (TY cI cZ cG cJ) A (WX ad cI cZ c g hid code ans dbt opn ply hps wr))) (vp_Sl (fun r => r = digV c g hid code ans dbt)) 0 0 (fun _ => False) := by
  refine Met.ofW (cc := cX1_digest) (maxL := 5) (ret := (some .long)) (by decide) rfl ?_
  intro p e s m args below meth c9 s₁ B hml hv
  obtain ⟨rfl, hP, hD, hB⟩ := hv
  have hK := hB.1
  have hA := hB.2.1
  have hx := B.exec
  have hb := B.bytes
  have hr := B.returns
  have hts := atoms_spec (ws := wsX1_digest) B.pre
  have hown : s.vm.findClass RX1 = some m.cls := findClass_of_methodNamed B.named
  have hlocks := B.notSynchronized
  have hS : va_S A s.heap s.heap [] := va_S.rf
  have hinX0 : ∀ w ∈ wsX00, w ∈ wsX1_digest := by decide +kernel
  have hinX1 : ∀ w ∈ wsX10, w ∈ wsX1_digest := by decide +kernel
  have lk21 := hts (.fieldLink RX1 21 "HiddenCandles" "palette" "LHiddenCandles$Palette;") (by decide +kernel)
  have lk24 := hts (.fieldLink RX1 24 "HiddenCandles" "hidden" "I") (by decide +kernel)
  have lk28 := hts (.fieldLink RX1 28 "HiddenCandles" "guesses" "I") (by decide +kernel)
  have lk42 := hts (.fieldLink RX1 42 "HiddenCandles" "open" "[Z") (by decide +kernel)
  have hl := lv_entry ([.ref (ad 0)]) (n := 5) (Nat.le_of_ble_eq_true rfl)
  rw [lg_entry_eq]
  generalize (lg_sl ([.ref (ad 0)]) ++ List.replicate (5 - (lg_sl ([.ref (ad 0)])).length) Slot.unset).toArray = ls at hl ⊢
  have hl : lv_has ls 5 [(0, .ref (ad 0))] := hl
  obtain ⟨hc, hg, hco, hhid, hop⟩ := id hI
  have hq := qq_in hc
  have hop2 := op_lt hop
  refine lv_ldc2 (v := 1583) hx hb hown (hts _ (by decide +kernel)) dX1_digest_0 ?_
  refine lv_lstore_n (lv' := [(1, .long (1583)), (0, .ref (ad 0))]) hx hb dX1_digest_3 rfl hl (by decide) rfl (fun ls hl => ?_)
  refine lv_iconst (v := nI (0)) hx hb dX1_digest_4 (by decide) ?_
  refine lv_istore_n (lv' := [(3, .int (nI (0))), (1, .long (1583)), (0, .ref (ad 0))]) hx hb dX1_digest_5 rfl hl (by decide) rfl (fun ls hl => ?_)
  -- loop at 6
  have hinv : 0 ≤ 7 ∧ 1583 = dgC c g hid code ans dbt 0 := by
    exact ⟨Nat.zero_le _, rfl⟩
  obtain ⟨i, dd, hq9⟩ : ∃ (i : Nat) (dd : Int64), lv_has ls 5 [(0, .ref (ad 0)), (1, .long (dd)), (3, .int (nI (i)))] ∧ (i ≤ 7 ∧ dd = dgC c g hid code ans dbt i) := ⟨0, 1583, lv_sub hl [2, 1, 0] rfl, hinv⟩
  clear hl hinv
  obtain ⟨hl, hinv⟩ := hq9
  obtain ⟨n9_6, hn9⟩ : ∃ q : Nat, 7 - i < q := ⟨_, Nat.lt_succ_self _⟩
  induction n9_6 generalizing ls i dd with
  | zero => exact absurd hn9 (Nat.not_lt_zero _)
  | succ n9_6 ih6 =>
    obtain ⟨h1, h2⟩ := hinv
    refine lv_iload_n hx hb dX1_digest_6 rfl (lv_at hl 2 rfl) ?_
    refine lv_bipush (v := nI (7)) hx hb dX1_digest_7 (by decide) ?_
    refine x_ge (tgt := 28) hx hb dX1_digest_9 (by decide) (by omega) (by omega) (fun c9 => ?_) (fun c9 => ?_)
    · skip
      refine lv_lload_n hx hb dX1_digest_28 rfl (lv_at hl 1 rfl) ?_
      refine lv_aload_n hx hb dX1_digest_29 rfl (lv_at hl 0 rfl) ?_
      refine va_get (D := D) (ci := 1) (v := .int (hid)) (C := RX1) (T := TX1) (N := 11) hx hb hts hinX1 hown hK hP 0 rfl rfl 3 (by decide) lk24 (fun _ h9 => h9) rfl dX1_digest_30 ?_
      refine x_csl (va_runS (As := [.long (dd), .int (hid)]) (rest := []) ⟨hx, hb, hml, hown, hts⟩ (c_X1_mix l D cI cZ cG cJ A (WX ad cI cZ c g hid code ans dbt opn ply hps wr) dd hid ) (va_cwS 2 hts gX1_digest_X1_mix rfl rfl rfl (by decide +kernel) ⟨Nat.le_of_ble_eq_true rfl, Nat.le_of_ble_eq_true rfl⟩) (preS hB va_S.rf hP hD) rfl rfl hl.1 rfl (lv_room (Nat.le_of_ble_eq_true rfl)) dX1_digest_33 ⟨Nat.le_of_ble_eq_true rfl, Nat.le_of_ble_eq_true rfl⟩) ?_
      refine lv_lstore_n (lv' := [(1, .long (dgm dd hid)), (0, .ref (ad 0)), (3, .int (nI (i)))]) hx hb dX1_digest_36 rfl hl (by decide) rfl (fun ls hl => ?_)
      refine lv_iconst (v := nI (0)) hx hb dX1_digest_37 (by decide) ?_
      refine lv_istore_n (lv' := [(3, .int (nI (0))), (1, .long (dgm dd hid)), (0, .ref (ad 0))]) hx hb dX1_digest_38 rfl hl (by decide) rfl (fun ls hl => ?_)
      -- loop at 39
      have hinv : 0 ≤ g ∧ (dgm dd hid) = dgT c g hid code ans dbt 0 := by
        have e9 : i = 7 := by omega
        exact ⟨Nat.zero_le _, by rw [h2, e9]; rfl⟩
      obtain ⟨i2, d2, hq9⟩ : ∃ (i2 : Nat) (d2 : Int64), lv_has ls 5 [(0, .ref (ad 0)), (1, .long (d2)), (3, .int (nI (i2)))] ∧ (i2 ≤ g ∧ d2 = dgT c g hid code ans dbt i2) := ⟨0, (dgm dd hid), lv_sub hl [2, 1, 0] rfl, hinv⟩
      clear hl hinv
      obtain ⟨hl, hinv⟩ := hq9
      obtain ⟨n9_39, hn9⟩ : ∃ q : Nat, g - i2 < q := ⟨_, Nat.lt_succ_self _⟩
      induction n9_39 generalizing ls i2 d2 with
      | zero => exact absurd hn9 (Nat.not_lt_zero _)
      | succ n9_39 ih39 =>
        obtain ⟨h1, h2⟩ := hinv
        refine lv_iload_n hx hb dX1_digest_39 rfl (lv_at hl 2 rfl) ?_
        refine lv_aload_n hx hb dX1_digest_40 rfl (lv_at hl 0 rfl) ?_
        refine va_get (D := D) (ci := 1) (v := .int (nI (g))) (C := RX1) (T := TX1) (N := 11) hx hb hts hinX1 hown hK hP 0 rfl rfl 4 (by decide) lk28 (fun _ h9 => h9) rfl dX1_digest_41 ?_
        refine x_ge (tgt := 81) hx hb dX1_digest_44 (by decide) (by omega) (by omega) (fun c44 => ?_) (fun c44 => ?_)
        · skip
          refine lv_iconst (v := nI (0)) hx hb dX1_digest_81 (by decide) ?_
          refine lv_istore_n (lv' := [(3, .int (nI (0))), (0, .ref (ad 0)), (1, .long (d2))]) hx hb dX1_digest_82 rfl hl (by decide) rfl (fun ls hl => ?_)
          -- loop at 83
          have hinv : 0 ≤ 4 ∧ d2 = dgP c g hid code ans dbt 0 := by
            have e9 : i2 = g := by omega
            exact ⟨Nat.zero_le _, by rw [h2, e9]; rfl⟩
          obtain ⟨p4, d4, hq9⟩ : ∃ (p4 : Nat) (d4 : Int64), lv_has ls 5 [(0, .ref (ad 0)), (1, .long (d4)), (3, .int (nI (p4)))] ∧ (p4 ≤ 4 ∧ d4 = dgP c g hid code ans dbt p4) := ⟨0, d2, lv_sub hl [1, 2, 0] rfl, hinv⟩
          clear hl hinv
          obtain ⟨hl, hinv⟩ := hq9
          obtain ⟨n9_83, hn9⟩ : ∃ q : Nat, 4 - p4 < q := ⟨_, Nat.lt_succ_self _⟩
          induction n9_83 generalizing ls p4 d4 with
          | zero => exact absurd hn9 (Nat.not_lt_zero _)
          | succ n9_83 ih83 =>
            obtain ⟨h1, h2⟩ := hinv
            refine lv_iload_n hx hb dX1_digest_83 rfl (lv_at hl 2 rfl) ?_
            refine lv_iconst (v := nI (4)) hx hb dX1_digest_84 (by decide) ?_
            refine x_ge (tgt := 137) hx hb dX1_digest_85 (by decide) (by omega) (by omega) (fun c85 => ?_) (fun c85 => ?_)
            · skip
              refine lv_iconst (v := nI (0)) hx hb dX1_digest_137 (by decide) ?_
              refine lv_istore_n (lv' := [(3, .int (nI (0))), (0, .ref (ad 0)), (1, .long (d4))]) hx hb dX1_digest_138 rfl hl (by decide) rfl (fun ls hl => ?_)
              -- loop at 139
              have hinv : 0 ≤ 81 ∧ d4 = dgK (opS c g code ans dbt) (dgP c g hid code ans dbt 4) 0 := by
                have e9 : p4 = 4 := by omega
                exact ⟨Nat.zero_le _, by rw [h2, e9]; rfl⟩
              obtain ⟨k6, d6, hq9⟩ : ∃ (k6 : Nat) (d6 : Int64), lv_has ls 5 [(0, .ref (ad 0)), (1, .long (d6)), (3, .int (nI (k6)))] ∧ (k6 ≤ 81 ∧ d6 = dgK (opS c g code ans dbt) (dgP c g hid code ans dbt 4) k6) := ⟨0, d4, lv_sub hl [1, 2, 0] rfl, hinv⟩
              clear hl hinv
              obtain ⟨hl, hinv⟩ := hq9
              obtain ⟨n9_139, hn9⟩ : ∃ q : Nat, 81 - k6 < q := ⟨_, Nat.lt_succ_self _⟩
              induction n9_139 generalizing ls k6 d6 with
              | zero => exact absurd hn9 (Nat.not_lt_zero _)
              | succ n9_139 ih139 =>
                obtain ⟨h1, h2⟩ := hinv
                refine lv_iload_n hx hb dX1_digest_139 rfl (lv_at hl 2 rfl) ?_
                refine lv_aload_n hx hb dX1_digest_140 rfl (lv_at hl 0 rfl) ?_
                refine va_get (D := D) (ci := 1) (v := .ref (ad 4)) (C := RX1) (T := TX1) (N := 11) hx hb hts hinX1 hown hK hP 0 rfl rfl 8 (by decide) lk42 (fun _ h9 => h9) rfl dX1_digest_141 ?_
                refine x_alen hx hb hK hP 4 1 rfl rfl (n := 81) rfl dX1_digest_144 ?_
                refine x_ge (tgt := 169) hx hb dX1_digest_145 (by decide) (by omega) (by omega) (fun c145 => ?_) (fun c145 => ?_)
                · skip
                  refine lv_lload_n hx hb dX1_digest_169 rfl (lv_at hl 1 rfl) ?_
                  exact W.lret (v := d6) hx hb hr (fun t ht hW => ⟨_, rfl, (by
                      have e9 : k6 = 81 := by omega
                      rw [h2, e9]; rfl), ht⟩) (fun _ h => nomatch h) dX1_digest_170
                · skip
                  refine lv_aload_n hx hb dX1_digest_148 rfl (lv_at hl 0 rfl) ?_
                  refine va_get (D := D) (ci := 1) (v := .ref (ad 4)) (C := RX1) (T := TX1) (N := 11) hx hb hts hinX1 hown hK hP 0 rfl rfl 8 (by decide) lk42 (fun _ h9 => h9) rfl dX1_digest_149 ?_
                  refine lv_iload_n hx hb dX1_digest_152 rfl (lv_at hl 2 rfl) ?_
                  refine x_zald hx hb hK hP 4 1 rfl rfl (i := k6) (by omega) (by omega) dX1_digest_153 ?_
                  refine x_zeq (tgt := 163) hx hb dX1_digest_154 (by decide) (fun c154 => ?_) (fun c154 => ?_)
                  · skip
                    refine lv_iinc (v := nI (k6 + 1)) (lv' := [(3, .int (nI (k6 + 1))), (0, .ref (ad 0)), (1, .long (d6))]) hx hb dX1_digest_163 hl (k := 2) rfl (nI_add _ _) (by decide) rfl (fun ls hl => ?_)
                    refine lv_goto (tgt := 139) hx hb dX1_digest_166 (by decide) ?_
                    exact ih139 (k6 := k6 + 1) (d6 := d6) (ls := ls) (hl := lv_sub hl [1, 2, 0] rfl) (hinv := by
                        refine ⟨by omega, ?_⟩
                        rw [dgK, ← hop k6 (by omega), c154, ← h2]
                        rfl
                      ) (hn9 := by
                        omega
                      )
                  · skip
                    refine lv_lload_n hx hb dX1_digest_157 rfl (lv_at hl 1 rfl) ?_
                    refine lv_iload_n hx hb dX1_digest_158 rfl (lv_at hl 2 rfl) ?_
                    refine x_csl (va_runS (As := [.long (d6), .int (nI (k6))]) (rest := []) ⟨hx, hb, hml, hown, hts⟩ (c_X1_mix l D cI cZ cG cJ A (WX ad cI cZ c g hid code ans dbt opn ply hps wr) d6 (nI (k6)) ) (va_cwS 2 hts gX1_digest_X1_mix rfl rfl rfl (by decide +kernel) ⟨Nat.le_of_ble_eq_true rfl, Nat.le_of_ble_eq_true rfl⟩) (preS hB va_S.rf hP hD) rfl rfl hl.1 rfl (lv_room (Nat.le_of_ble_eq_true rfl)) dX1_digest_159 ⟨Nat.le_of_ble_eq_true rfl, Nat.le_of_ble_eq_true rfl⟩) ?_
                    refine lv_lstore_n (lv' := [(1, .long (dgm d6 (nI (k6)))), (0, .ref (ad 0)), (3, .int (nI (k6)))]) hx hb dX1_digest_162 rfl hl (by decide) rfl (fun ls hl => ?_)
                    refine lv_iinc (v := nI (k6 + 1)) (lv' := [(3, .int (nI (k6 + 1))), (1, .long (dgm d6 (nI (k6)))), (0, .ref (ad 0))]) hx hb dX1_digest_163 hl (k := 2) rfl (nI_add _ _) (by decide) rfl (fun ls hl => ?_)
                    refine lv_goto (tgt := 139) hx hb dX1_digest_166 (by decide) ?_
                    exact ih139 (k6 := k6 + 1) (d6 := dgm d6 (nI (k6))) (ls := ls) (hl := lv_sub hl [2, 1, 0] rfl) (hinv := by
                        refine ⟨by omega, ?_⟩
                        rw [dgK, ← hop k6 (by omega), c154, ← h2]
                        rfl
                      ) (hn9 := by
                        omega
                      )
            · skip
              refine lv_lload_n hx hb dX1_digest_88 rfl (lv_at hl 1 rfl) ?_
              refine lv_aload_n hx hb dX1_digest_89 rfl (lv_at hl 0 rfl) ?_
              refine lv_iload_n hx hb dX1_digest_90 rfl (lv_at hl 2 rfl) ?_
              refine x_csi (va_runV (As := [.int (nI (p4))]) (rest := [.long (d4)]) ⟨hx, hb, hml, hown, hts⟩ (c_X1_sureP l D cI cZ cG cJ A ad wr hpal c g hid code ans dbt opn ply hps p4 (hI) (by omega)) (cwV 1 hts gX1_digest_X1_sure rfl rfl rfl (by decide +kernel) ⟨Nat.le_of_ble_eq_true rfl, Nat.le_of_ble_eq_true rfl⟩) (preV (ci := 1) (q0 := 0) hB va_S.rf hP hD rfl rfl) rfl rfl hl.1 rfl (lv_room (Nat.le_of_ble_eq_true rfl)) dX1_digest_91 ⟨Nat.le_of_ble_eq_true rfl, Nat.le_of_ble_eq_true rfl⟩) ?_
              refine x_csl (va_runS (As := [.long (d4), .int (sureV c (opS c g code ans dbt) p4 c)]) (rest := []) ⟨hx, hb, hml, hown, hts⟩ (c_X1_mix l D cI cZ cG cJ A (WX ad cI cZ c g hid code ans dbt opn ply hps wr) d4 (sureV c (opS c g code ans dbt) p4 c) ) (va_cwS 2 hts gX1_digest_X1_mix rfl rfl rfl (by decide +kernel) ⟨Nat.le_of_ble_eq_true rfl, Nat.le_of_ble_eq_true rfl⟩) (preS hB va_S.rf hP hD) rfl rfl hl.1 rfl (lv_room (Nat.le_of_ble_eq_true rfl)) dX1_digest_94 ⟨Nat.le_of_ble_eq_true rfl, Nat.le_of_ble_eq_true rfl⟩) ?_
              refine lv_lstore_n (lv' := [(1, .long (dgm d4 (sureV c (opS c g code ans dbt) p4 c))), (0, .ref (ad 0)), (3, .int (nI (p4)))]) hx hb dX1_digest_97 rfl hl (by decide) rfl (fun ls hl => ?_)
              refine lv_iconst (v := nI (0)) hx hb dX1_digest_98 (by decide) ?_
              refine lv_istore (lv' := [(4, .int (nI (0))), (1, .long (dgm d4 (sureV c (opS c g code ans dbt) p4 c))), (0, .ref (ad 0)), (3, .int (nI (p4)))]) hx hb dX1_digest_99 hl (by decide) rfl (fun ls hl => ?_)
              -- loop at 101
              have hinv : 0 ≤ c ∧ (dgm d4 (sureV c (opS c g code ans dbt) p4 c)) = dgH c (opS c g code ans dbt) (dgm d4 (sureV c (opS c g code ans dbt) p4 c)) p4 0 := by
                exact ⟨Nat.zero_le _, rfl⟩
              obtain ⟨x5, d5, hq9⟩ : ∃ (x5 : Nat) (d5 : Int64), lv_has ls 5 [(0, .ref (ad 0)), (1, .long (d5)), (3, .int (nI (p4))), (4, .int (nI (x5)))] ∧ (x5 ≤ c ∧ d5 = dgH c (opS c g code ans dbt) (dgm d4 (sureV c (opS c g code ans dbt) p4 c)) p4 x5) := ⟨0, (dgm d4 (sureV c (opS c g code ans dbt) p4 c)), lv_sub hl [2, 1, 3, 0] rfl, hinv⟩
              clear hl hinv
              obtain ⟨hl, hinv⟩ := hq9
              obtain ⟨n9_101, hn9⟩ : ∃ q : Nat, c - x5 < q := ⟨_, Nat.lt_succ_self _⟩
              induction n9_101 generalizing ls x5 d5 with
              | zero => exact absurd hn9 (Nat.not_lt_zero _)
              | succ n9_101 ih101 =>
                obtain ⟨k1, k2⟩ := hinv
                refine lv_iload hx hb dX1_digest_101 (lv_at hl 3 rfl) ?_
                refine lv_aload_n hx hb dX1_digest_103 rfl (lv_at hl 0 rfl) ?_
                refine va_get (D := D) (ci := 1) (v := .ref (pal ad c)) (C := RX1) (T := TX1) (N := 11) hx hb hts hinX1 hown hK hP 0 rfl rfl 2 (by decide) lk21 (fun _ h9 => h9) rfl dX1_digest_104 ?_
                refine x_colours hx hb hts hinX0 hown hK hP (palX hpal hc) (hB.2.2.2.2.1 _ (by simp [Nws])) dX1_digest_107 ?_
                refine x_ge (tgt := 131) hx hb dX1_digest_110 (by decide) (by omega) (by omega) (fun c110 => ?_) (fun c110 => ?_)
                · skip
                  refine lv_iinc (v := nI (p4 + 1)) (lv' := [(3, .int (nI (p4 + 1))), (0, .ref (ad 0)), (1, .long (d5)), (4, .int (nI (x5)))]) hx hb dX1_digest_131 hl (k := 2) rfl (nI_add _ _) (by decide) rfl (fun ls hl => ?_)
                  refine lv_goto (tgt := 83) hx hb dX1_digest_134 (by decide) ?_
                  exact ih83 (p4 := p4 + 1) (d4 := d5) (ls := ls) (hl := lv_sub hl [1, 2, 0] rfl) (hinv := by
                      have e9 : x5 = c := by omega
                      exact ⟨by omega, by rw [k2, e9, h2]; rfl⟩
                    ) (hn9 := by
                      omega
                    )
                · skip
                  refine lv_lload_n hx hb dX1_digest_113 rfl (lv_at hl 1 rfl) ?_
                  refine lv_aload_n hx hb dX1_digest_114 rfl (lv_at hl 0 rfl) ?_
                  refine lv_iload_n hx hb dX1_digest_115 rfl (lv_at hl 2 rfl) ?_
                  refine lv_iload hx hb dX1_digest_116 (lv_at hl 3 rfl) ?_
                  refine x_csi (va_runV (As := [.int (nI (p4)), .int (nI (x5))]) (rest := [.long (d5)]) ⟨hx, hb, hml, hown, hts⟩ (c_X1_haveP l D cI cZ cG cJ A ad wr hpal c g hid code ans dbt opn ply hps p4 x5 (hI) (by omega) (by omega)) (cwV 2 hts gX1_digest_X1_have rfl rfl rfl (by decide +kernel) ⟨Nat.le_of_ble_eq_true rfl, Nat.le_of_ble_eq_true rfl⟩) (preV (ci := 1) (q0 := 0) hB va_S.rf hP hD rfl rfl) rfl rfl hl.1 rfl (lv_room (Nat.le_of_ble_eq_true rfl)) dX1_digest_118 ⟨Nat.le_of_ble_eq_true rfl, Nat.le_of_ble_eq_true rfl⟩) ?_
                  refine x_csl (va_runS (As := [.long (d5), .int (nI (hvN c (opS c g code ans dbt) p4 x5))]) (rest := []) ⟨hx, hb, hml, hown, hts⟩ (c_X1_mix l D cI cZ cG cJ A (WX ad cI cZ c g hid code ans dbt opn ply hps wr) d5 (nI (hvN c (opS c g code ans dbt) p4 x5)) ) (va_cwS 2 hts gX1_digest_X1_mix rfl rfl rfl (by decide +kernel) ⟨Nat.le_of_ble_eq_true rfl, Nat.le_of_ble_eq_true rfl⟩) (preS hB va_S.rf hP hD) rfl rfl hl.1 rfl (lv_room (Nat.le_of_ble_eq_true rfl)) dX1_digest_121 ⟨Nat.le_of_ble_eq_true rfl, Nat.le_of_ble_eq_true rfl⟩) ?_
                  refine lv_lstore_n (lv' := [(1, .long (dgm d5 (nI (hvN c (opS c g code ans dbt) p4 x5)))), (0, .ref (ad 0)), (3, .int (nI (p4))), (4, .int (nI (x5)))]) hx hb dX1_digest_124 rfl hl (by decide) rfl (fun ls hl => ?_)
                  refine lv_iinc (v := nI (x5 + 1)) (lv' := [(4, .int (nI (x5 + 1))), (1, .long (dgm d5 (nI (hvN c (opS c g code ans dbt) p4 x5)))), (0, .ref (ad 0)), (3, .int (nI (p4)))]) hx hb dX1_digest_125 hl (k := 3) rfl (nI_add _ _) (by decide) rfl (fun ls hl => ?_)
                  refine lv_goto (tgt := 101) hx hb dX1_digest_128 (by decide) ?_
                  exact ih101 (x5 := x5 + 1) (d5 := dgm d5 (nI (hvN c (opS c g code ans dbt) p4 x5))) (ls := ls) (hl := lv_sub hl [2, 1, 3, 0] rfl) (hinv := by
                      exact ⟨by omega, by rw [k2]; rfl⟩
                    ) (hn9 := by
                      omega
                    )
        · skip
          refine lv_iconst (v := nI (0)) hx hb dX1_digest_47 (by decide) ?_
          refine lv_istore (lv' := [(4, .int (nI (0))), (0, .ref (ad 0)), (1, .long (d2)), (3, .int (nI (i2)))]) hx hb dX1_digest_48 hl (by decide) rfl (fun ls hl => ?_)
          -- loop at 50
          have hinv : 0 ≤ 6 ∧ d2 = dgI c code ans dbt d2 i2 0 := by
            exact ⟨Nat.zero_le _, rfl⟩
          obtain ⟨w3, d3, hq9⟩ : ∃ (w3 : Nat) (d3 : Int64), lv_has ls 5 [(0, .ref (ad 0)), (1, .long (d3)), (3, .int (nI (i2))), (4, .int (nI (w3)))] ∧ (w3 ≤ 6 ∧ d3 = dgI c code ans dbt d2 i2 w3) := ⟨0, d2, lv_sub hl [1, 2, 3, 0] rfl, hinv⟩
          clear hl hinv
          obtain ⟨hl, hinv⟩ := hq9
          obtain ⟨n9_50, hn9⟩ : ∃ q : Nat, 6 - w3 < q := ⟨_, Nat.lt_succ_self _⟩
          induction n9_50 generalizing ls w3 d3 with
          | zero => exact absurd hn9 (Nat.not_lt_zero _)
          | succ n9_50 ih50 =>
            obtain ⟨k1, k2⟩ := hinv
            refine lv_iload hx hb dX1_digest_50 (lv_at hl 3 rfl) ?_
            refine lv_bipush (v := nI (6)) hx hb dX1_digest_52 (by decide) ?_
            refine x_ge (tgt := 75) hx hb dX1_digest_54 (by decide) (by omega) (by omega) (fun c54 => ?_) (fun c54 => ?_)
            · skip
              refine lv_iinc (v := nI (i2 + 1)) (lv' := [(3, .int (nI (i2 + 1))), (0, .ref (ad 0)), (1, .long (d3)), (4, .int (nI (w3)))]) hx hb dX1_digest_75 hl (k := 2) rfl (nI_add _ _) (by decide) rfl (fun ls hl => ?_)
              refine lv_goto (tgt := 39) hx hb dX1_digest_78 (by decide) ?_
              exact ih39 (i2 := i2 + 1) (d2 := d3) (ls := ls) (hl := lv_sub hl [1, 2, 0] rfl) (hinv := by
                  have e9 : w3 = 6 := by omega
                  exact ⟨by omega, by rw [k2, e9, h2]; rfl⟩
                ) (hn9 := by
                  omega
                )
            · skip
              refine lv_lload_n hx hb dX1_digest_57 rfl (lv_at hl 1 rfl) ?_
              refine lv_aload_n hx hb dX1_digest_58 rfl (lv_at hl 0 rfl) ?_
              refine lv_iload_n hx hb dX1_digest_59 rfl (lv_at hl 2 rfl) ?_
              refine lv_iload hx hb dX1_digest_60 (lv_at hl 3 rfl) ?_
              refine x_csi (va_runV (As := [.int (nI (i2)), .int (nI (w3))]) (rest := [.long (d3)]) ⟨hx, hb, hml, hown, hts⟩ (c_X1_toldP l D cI cZ cG cJ A ad wr hpal c g hid code ans dbt opn ply hps i2 w3 (hI) (by omega) (by omega)) (cwV 2 hts gX1_digest_X1_told rfl rfl rfl (by decide +kernel) ⟨Nat.le_of_ble_eq_true rfl, Nat.le_of_ble_eq_true rfl⟩) (preV (ci := 1) (q0 := 0) hB va_S.rf hP hD rfl rfl) rfl rfl hl.1 rfl (lv_room (Nat.le_of_ble_eq_true rfl)) dX1_digest_62 ⟨Nat.le_of_ble_eq_true rfl, Nat.le_of_ble_eq_true rfl⟩) ?_
              refine x_csl (va_runS (As := [.long (d3), .int (nI (tldV c code ans dbt i2 w3))]) (rest := []) ⟨hx, hb, hml, hown, hts⟩ (c_X1_mix l D cI cZ cG cJ A (WX ad cI cZ c g hid code ans dbt opn ply hps wr) d3 (nI (tldV c code ans dbt i2 w3)) ) (va_cwS 2 hts gX1_digest_X1_mix rfl rfl rfl (by decide +kernel) ⟨Nat.le_of_ble_eq_true rfl, Nat.le_of_ble_eq_true rfl⟩) (preS hB va_S.rf hP hD) rfl rfl hl.1 rfl (lv_room (Nat.le_of_ble_eq_true rfl)) dX1_digest_65 ⟨Nat.le_of_ble_eq_true rfl, Nat.le_of_ble_eq_true rfl⟩) ?_
              refine lv_lstore_n (lv' := [(1, .long (dgm d3 (nI (tldV c code ans dbt i2 w3)))), (0, .ref (ad 0)), (3, .int (nI (i2))), (4, .int (nI (w3)))]) hx hb dX1_digest_68 rfl hl (by decide) rfl (fun ls hl => ?_)
              refine lv_iinc (v := nI (w3 + 1)) (lv' := [(4, .int (nI (w3 + 1))), (1, .long (dgm d3 (nI (tldV c code ans dbt i2 w3)))), (0, .ref (ad 0)), (3, .int (nI (i2)))]) hx hb dX1_digest_69 hl (k := 3) rfl (nI_add _ _) (by decide) rfl (fun ls hl => ?_)
              refine lv_goto (tgt := 50) hx hb dX1_digest_72 (by decide) ?_
              exact ih50 (w3 := w3 + 1) (d3 := dgm d3 (nI (tldV c code ans dbt i2 w3))) (ls := ls) (hl := lv_sub hl [2, 1, 3, 0] rfl) (hinv := by
                  exact ⟨by omega, by rw [k2]; rfl⟩
                ) (hn9 := by
                  omega
                )
    · skip
      refine lv_lload_n hx hb dX1_digest_12 rfl (lv_at hl 1 rfl) ?_
      refine lv_aload_n hx hb dX1_digest_13 rfl (lv_at hl 0 rfl) ?_
      refine lv_iload_n hx hb dX1_digest_14 rfl (lv_at hl 2 rfl) ?_
      refine x_csi (va_runV (As := [.int (nI (i))]) (rest := [.long (dd)]) ⟨hx, hb, hml, hown, hts⟩ (c_X1_countP l D cI cZ cG cJ A ad wr hpal c g hid code ans dbt opn ply hps i (hI) (by omega)) (cwV 1 hts gX1_digest_X1_count rfl rfl rfl (by decide +kernel) ⟨Nat.le_of_ble_eq_true rfl, Nat.le_of_ble_eq_true rfl⟩) (preV (ci := 1) (q0 := 0) hB va_S.rf hP hD rfl rfl) rfl rfl hl.1 rfl (lv_room (Nat.le_of_ble_eq_true rfl)) dX1_digest_15 ⟨Nat.le_of_ble_eq_true rfl, Nat.le_of_ble_eq_true rfl⟩) ?_
      refine x_csl (va_runS (As := [.long (dd), .int (nI (cntV c g hid code ans dbt i))]) (rest := []) ⟨hx, hb, hml, hown, hts⟩ (c_X1_mix l D cI cZ cG cJ A (WX ad cI cZ c g hid code ans dbt opn ply hps wr) dd (nI (cntV c g hid code ans dbt i)) ) (va_cwS 2 hts gX1_digest_X1_mix rfl rfl rfl (by decide +kernel) ⟨Nat.le_of_ble_eq_true rfl, Nat.le_of_ble_eq_true rfl⟩) (preS hB va_S.rf hP hD) rfl rfl hl.1 rfl (lv_room (Nat.le_of_ble_eq_true rfl)) dX1_digest_18 ⟨Nat.le_of_ble_eq_true rfl, Nat.le_of_ble_eq_true rfl⟩) ?_
      refine lv_lstore_n (lv' := [(1, .long (dgm dd (nI (cntV c g hid code ans dbt i)))), (0, .ref (ad 0)), (3, .int (nI (i)))]) hx hb dX1_digest_21 rfl hl (by decide) rfl (fun ls hl => ?_)
      refine lv_iinc (v := nI (i + 1)) (lv' := [(3, .int (nI (i + 1))), (1, .long (dgm dd (nI (cntV c g hid code ans dbt i)))), (0, .ref (ad 0))]) hx hb dX1_digest_22 hl (k := 2) rfl (nI_add _ _) (by decide) rfl (fun ls hl => ?_)
      refine lv_goto (tgt := 6) hx hb dX1_digest_25 (by decide) ?_
      exact ih6 (i := i + 1) (dd := dgm dd (nI (cntV c g hid code ans dbt i))) (ls := ls) (hl := lv_sub hl [2, 1, 0] rfl) (hinv := by
          exact ⟨by omega, by rw [h2]; rfl⟩
        ) (hn9 := by
          omega
        )
