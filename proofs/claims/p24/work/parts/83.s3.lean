set_option maxHeartbeats 40000000 in
set_option maxRecDepth 100000 in
theorem law_S3 {p : Program} {l : Launch} {e : Env} {s : State} {m : MethodId} {below : List Frame} {meth : Method} {c9 : Code} (hfl : l.flags = flags0) {D : va_G} {cI cZ cG cJ : ClassId} {A : Nat → Prop} {ad : Nat → Nat} {so : Nat} {b L : Nat} {xs : Nat → Int32} (hL : L ≤ 260) (C0 : lw_At p s m meth c9 b L xs) (hB : Bs D (TY cI cZ cG cJ) A s) (hAf : ∀ q, A q → s.heap.size ≤ q) {c g : Nat} {hid : Int32} {code ans : Nat → Nat} {dbt opn ply : Nat → Bool} {hps : Nat → Nat} {wr : va_W} (hG : LG cI cG ad so (c, g, hid, code, ans, dbt, opn, ply, hps, wr))  {t : Nat} {v : Int32} {dd : Int64} {H : Heap} {locs : List Loc} (hP : va_P D vwCl (WX ad cI cZ c g hid code ans dbt opn ply hps wr) H) (hD : va_D A (WX ad cI cZ c g hid code ans dbt opn ply hps wr)) (hS : va_S A s.heap H locs) {ls : Array Slot} (hl : lv_has ls 25 [(0, .ref (b)), (1, .ref (ad 0)), (2, .ref (so)), (3, .int (nI (t))), (4, .int (v)), (5, .int (nI (qq c))), (6, .int (nI (g))), (7, .int (nI (cN (opS c g code ans dbt) 81))), (8, .long (dd))]) {nc ns : Nat} (hnc : nc ≤ 90000) (hns : ns ≤ 900000) (K : ∀  (H : Heap) (locs : List Loc) (ls : Array Slot),  va_P D vwCl (WX ad cI cZ c g hid code ans dbt opn ply hps wr) H → va_D A (WX ad cI cZ c g hid code ans dbt opn ply hps wr) → va_S A s.heap H locs → lv_has ls 25 [(0, .ref (b)), (1, .ref (ad 0)), (2, .ref (so)), (3, .int (nI (t))), (4, .int (v)), (5, .int (nI (qq c))), (6, .int (nI (g))), (7, .int (nI (cN (opS c g code ans dbt) 81))), (8, .long (dd))] → W p l e room_1 s m #[Value.ref b] below meth c9 H locs nc ns (lw_Z below #[Value.ref b] s) (F0 m 592 ls [])) : W p l e room_1 s m #[Value.ref b] below meth c9 H locs nc ns (lw_Z below #[Value.ref b] s) (F0 m 383 ls []) := by
  obtain ⟨hx, hb, hr, hml, hown, hts0, hX, hbl, hlocks, hgv⟩ := id C0
  have hown : s.vm.findClass RL = some m.cls := hown
  have hb : c9.code = cL_law := hb
  have hts : ∀ w ∈ wsL_law, w.before #[Value.ref b] s = true := fun w h => hts0 w (wsL_law_in w h)
  have hK := hB.1
  have hbA : ¬ A b := fun q => absurd (hAf b q) (Nat.not_le.mpr hbl)
  obtain ⟨hpal, hI, hS0, hA5⟩ := id hG
  replace hpal : Pals cI cG ad wr := hpal
  replace hI : XI c g hid code ans dbt opn := hI
  replace hS0 : SimAt cI cG wr so c hid g code ans dbt := hS0
  replace hA5 : AnsOK g ans := hA5
  obtain ⟨hc, hg, hco, hhid, hop⟩ := id hI
  have hq := qq_in hc
  have hcl81 := cN_le (opS c g code ans dbt) 81
  refine lv_iload hx hb dL_law_383 (lv_at hl 5 rfl) ?_
  refine lv_istore (lv' := [(12, .int (nI (qq c))), (0, .ref (b)), (1, .ref (ad 0)), (2, .ref (so)), (3, .int (nI (t))), (4, .int (v)), (5, .int (nI (qq c))), (6, .int (nI (g))), (7, .int (nI (cN (opS c g code ans dbt) 81))), (8, .long (dd))]) hx hb dL_law_385 hl (by decide) rfl (fun ls hl => ?_)
  refine lv_iconst (v := nI (0)) hx hb dL_law_387 (by decide) ?_
  refine lv_istore (lv' := [(13, .int (nI (0))), (12, .int (nI (qq c))), (0, .ref (b)), (1, .ref (ad 0)), (2, .ref (so)), (3, .int (nI (t))), (4, .int (v)), (5, .int (nI (qq c))), (6, .int (nI (g))), (7, .int (nI (cN (opS c g code ans dbt) 81))), (8, .long (dd))]) hx hb dL_law_388 hl (by decide) rfl (fun ls hl => ?_)
  refine lv_iconst (v := nI (0)) hx hb dL_law_390 (by decide) ?_
  refine lv_istore (lv' := [(14, .int (nI (0))), (13, .int (nI (0))), (12, .int (nI (qq c))), (0, .ref (b)), (1, .ref (ad 0)), (2, .ref (so)), (3, .int (nI (t))), (4, .int (v)), (5, .int (nI (qq c))), (6, .int (nI (g))), (7, .int (nI (cN (opS c g code ans dbt) 81))), (8, .long (dd))]) hx hb dL_law_391 hl (by decide) rfl (fun ls hl => ?_)
  refine lv_iconst (v := nI (0)) hx hb dL_law_393 (by decide) ?_
  refine lv_istore (lv' := [(15, .int (nI (0))), (14, .int (nI (0))), (13, .int (nI (0))), (12, .int (nI (qq c))), (0, .ref (b)), (1, .ref (ad 0)), (2, .ref (so)), (3, .int (nI (t))), (4, .int (v)), (5, .int (nI (qq c))), (6, .int (nI (g))), (7, .int (nI (cN (opS c g code ans dbt) 81))), (8, .long (dd))]) hx hb dL_law_394 hl (by decide) rfl (fun ls hl => ?_)
  refine lv_iconst (v := nI (0)) hx hb dL_law_396 (by decide) ?_
  refine lv_istore (lv' := [(16, .int (nI (0))), (15, .int (nI (0))), (14, .int (nI (0))), (13, .int (nI (0))), (12, .int (nI (qq c))), (0, .ref (b)), (1, .ref (ad 0)), (2, .ref (so)), (3, .int (nI (t))), (4, .int (v)), (5, .int (nI (qq c))), (6, .int (nI (g))), (7, .int (nI (cN (opS c g code ans dbt) 81))), (8, .long (dd))]) hx hb dL_law_397 hl (by decide) rfl (fun ls hl => ?_)
  -- loop at 399
  have hinv : 0 ≤ g ∧ (qq c) = cN (fit c code ans dbt 0) (qq c) ∧ 0 = cN (fun z => decide (ans z = 20)) 0 ∧ 0 = cN dbt 0 ∧ 0 = blkS ans 0 := by
    exact ⟨Nat.zero_le _, (fit_all c code ans dbt).symm, rfl, rfl, rfl⟩
  obtain ⟨gi, la, fo, db, bk, hq9⟩ : ∃ (gi : Nat) (la : Nat) (fo : Nat) (db : Nat) (bk : Nat), lv_has ls 25 [(0, .ref (b)), (1, .ref (ad 0)), (2, .ref (so)), (3, .int (nI (t))), (4, .int (v)), (5, .int (nI (qq c))), (6, .int (nI (g))), (7, .int (nI (cN (opS c g code ans dbt) 81))), (8, .long (dd)), (12, .int (nI (la))), (13, .int (nI (fo))), (14, .int (nI (db))), (15, .int (nI (bk))), (16, .int (nI (gi)))] ∧ (gi ≤ g ∧ la = cN (fit c code ans dbt gi) (qq c) ∧ fo = cN (fun z => decide (ans z = 20)) gi ∧ db = cN dbt gi ∧ bk = blkS ans gi) ∧ va_P D vwCl (WX ad cI cZ c g hid code ans dbt opn ply hps wr) H ∧ va_D A (WX ad cI cZ c g hid code ans dbt opn ply hps wr) := ⟨0, (qq c), 0, 0, 0, lv_sub hl [5, 6, 7, 8, 9, 10, 11, 12, 13, 4, 3, 2, 1, 0] rfl, hinv, hP, hD⟩
  clear hl hinv hP hD
  obtain ⟨hl, hinv, hP, hD⟩ := hq9
  obtain ⟨n9_399, hn9⟩ : ∃ q : Nat, g - gi < q := ⟨_, Nat.lt_succ_self _⟩
  induction n9_399 generalizing ls H locs gi la fo db bk with
  | zero => exact absurd hn9 (Nat.not_lt_zero _)
  | succ n9_399 ih399 =>
    obtain ⟨j1, j2, j3, j4, j5⟩ := hinv; have hle1 := cN_le (fun z => decide (ans z = 20)) gi; have hle2 := cN_le dbt gi; have hle3 := blkS_le hco gi j1; have hle4 := cN_le (fit c code ans dbt gi) (qq c); have hle5 := cN_le (fit c code ans dbt (gi + 1)) (qq c); have hle6 := cN_le (fun k => decide (pins c (code gi) k = ans gi)) (qq c); have hbn := bN_le (dbt gi)
    refine lv_iload hx hb dL_law_399 (lv_at hl 13 rfl) ?_
    refine lv_iload hx hb dL_law_401 (lv_at hl 6 rfl) ?_
    refine x_ge (tgt := 538) hx hb dL_law_403 (by decide) (by omega) (by omega) (fun c403 => ?_) (fun c403 => ?_)
    · skip
      have eg : gi = g := by omega
      have hla : la = cN (opS c g code ans dbt) 81 := by rw [j2, eg, op_cN hq.2]
      refine lv_iload hx hb dL_law_538 (lv_at hl 9 rfl) ?_
      refine lv_iload hx hb dL_law_540 (lv_at hl 7 rfl) ?_
      refine x_ne (tgt := 590) hx hb dL_law_542 (by decide) (by omega) (by omega) (fun c542 => absurd c542 (fun q => q hla)) (fun c542 => ?_)
      refine lv_iload hx hb dL_law_545 (lv_at hl 10 rfl) ?_
      refine lv_aload_n hx hb dL_law_547 rfl (lv_at hl 1 rfl) ?_
      refine lv_iconst (v := nI (5)) hx hb dL_law_548 (by decide) ?_
      refine x_csi (va_runV (As := [.int (nI (5))]) (rest := [.int (nI (fo))]) ⟨hx, hb, hml, hown, hts⟩ (c_X1_countP l D cI cZ cG cJ A ad wr hpal c g hid code ans dbt opn ply hps 5 (hI) (by decide)) (cwV 1 hts gL_law_X1_count rfl rfl rfl (by decide +kernel) ⟨Nat.le_of_ble_eq_true rfl, Nat.le_of_ble_eq_true rfl⟩) (preV (ci := 1) (q0 := 0) hB hS hP hD rfl rfl) rfl rfl hl.1 rfl (lv_room (Nat.le_of_ble_eq_true rfl)) dL_law_549 ⟨by show _ ≤ 600130; omega, by show _ ≤ 7301080; omega⟩) ?_
      have hl5 := cN_le (fun z => decide (ans z = 20)) g
      refine x_ti (y := nI (cN (fun z => decide (ans z = 20)) g)) (rfl) ?_
      refine x_ne (tgt := 590) hx hb dL_law_552 (by decide) (by omega) (by omega) (fun c552 => absurd c552 (fun q => q (by rw [j3, eg]))) (fun c552 => ?_)
      refine lv_iload hx hb dL_law_555 (lv_at hl 11 rfl) ?_
      refine lv_aload_n hx hb dL_law_557 rfl (lv_at hl 1 rfl) ?_
      refine lv_bipush (v := nI (6)) hx hb dL_law_558 (by decide) ?_
      refine x_csi (va_runV (As := [.int (nI (6))]) (rest := [.int (nI (db))]) ⟨hx, hb, hml, hown, hts⟩ (c_X1_countP l D cI cZ cG cJ A ad wr hpal c g hid code ans dbt opn ply hps 6 (hI) (by decide)) (cwV 1 hts gL_law_X1_count rfl rfl rfl (by decide +kernel) ⟨Nat.le_of_ble_eq_true rfl, Nat.le_of_ble_eq_true rfl⟩) (preV (ci := 1) (q0 := 0) hB hS hP hD rfl rfl) rfl rfl hl.1 rfl (lv_room (Nat.le_of_ble_eq_true rfl)) dL_law_560 ⟨by show _ ≤ 600130; omega, by show _ ≤ 7301080; omega⟩) ?_
      have hl6 := cN_le dbt g
      refine x_ti (y := nI (cN dbt g)) (rfl) ?_
      refine x_ne (tgt := 590) hx hb dL_law_563 (by decide) (by omega) (by omega) (fun c563 => absurd c563 (fun q => q (by rw [j4, eg]))) (fun c563 => ?_)
      refine lv_aload_n hx hb dL_law_566 rfl (lv_at hl 1 rfl) ?_
      refine x_csd (va_runV (As := []) (rest := []) ⟨hx, hb, hml, hown, hts⟩ (c_X1_mean l D cI cZ cG cJ A ad wr hpal c g hid code ans dbt opn ply hps (hI)) (cwV 0 hts gL_law_X1_mean rfl rfl rfl (by decide +kernel) ⟨Nat.le_of_ble_eq_true rfl, Nat.le_of_ble_eq_true rfl⟩) (preV (ci := 1) (q0 := 0) hB hS hP hD rfl rfl) rfl rfl hl.1 rfl (lv_room (Nat.le_of_ble_eq_true rfl)) dL_law_567 ⟨by show _ ≤ 600130; omega, by show _ ≤ 7301080; omega⟩) ?_
      refine lv_iload hx hb dL_law_570 (lv_at hl 6 rfl) ?_
      refine x_ne0 (tgt := 579) hx hb dL_law_572 (by decide) (by omega) (fun c572 => ?_) (fun c572 => ?_)
      · skip
        refine lv_iload hx hb dL_law_579 (lv_at hl 12 rfl) ?_
        refine lv_i2d hx hb dL_law_581 ?_
        refine lv_iload hx hb dL_law_582 (lv_at hl 6 rfl) ?_
        refine lv_i2d hx hb dL_law_584 ?_
        refine lv_ddiv hx hb dL_law_585 (mean_nan bk (by omega) g (by omega) c572) ?_
        refine lv_dcmp hx hb dL_law_586 ?_
        refine x_ti (y := 0) (by rw [show FP.ddiv (FP.i2d (nI (bk))) (FP.i2d (nI (g))) = meanV g ans from by first | (rw [meanV, if_pos c572]; done) | (rw [meanV, if_neg (by omega), j5, eg]; done)]; exact mean_cmp hg hco) ?_
        refine lv_if_eq (tgt := 592) hx hb dL_law_587 (by decide) (fun c587 => ?_) (fun c587 => absurd c587 (fun q => q rfl))
        exact K H locs ls hP hD hS (lv_sub hl [0, 1, 2, 3, 4, 5, 6, 7, 8] rfl)
      · skip
        refine lv_dconst0 hx hb dL_law_575 ?_
        refine lv_goto (tgt := 586) hx hb dL_law_576 (by decide) ?_
        refine lv_dcmp hx hb dL_law_586 ?_
        refine x_ti (y := 0) (by rw [show FP.dconst0 = meanV g ans from by first | (rw [meanV, if_pos c572]; done) | (rw [meanV, if_neg (by omega), j5, eg]; done)]; exact mean_cmp hg hco) ?_
        refine lv_if_eq (tgt := 592) hx hb dL_law_587 (by decide) (fun c587 => ?_) (fun c587 => absurd c587 (fun q => q rfl))
        exact K H locs ls hP hD hS (lv_sub hl [0, 1, 2, 3, 4, 5, 6, 7, 8] rfl)
    · skip
      refine lv_aload_n hx hb dL_law_406 rfl (lv_at hl 1 rfl) ?_
      refine lv_iload hx hb dL_law_407 (lv_at hl 13 rfl) ?_
      refine lv_iconst (v := nI (4)) hx hb dL_law_409 (by decide) ?_
      refine x_csi (va_runV (As := [.int (nI (gi)), .int (nI (4))]) (rest := []) ⟨hx, hb, hml, hown, hts⟩ (c_X1_toldP l D cI cZ cG cJ A ad wr hpal c g hid code ans dbt opn ply hps gi 4 (hI) (by omega) (by decide)) (cwV 2 hts gL_law_X1_told rfl rfl rfl (by decide +kernel) ⟨Nat.le_of_ble_eq_true rfl, Nat.le_of_ble_eq_true rfl⟩) (preV (ci := 1) (q0 := 0) hB hS hP hD rfl rfl) rfl rfl hl.1 rfl (lv_room (Nat.le_of_ble_eq_true rfl)) dL_law_410 ⟨by show _ ≤ 600130; omega, by show _ ≤ 7301080; omega⟩) ?_
      refine x_ti (y := nI (cN (fit c code ans dbt (gi + 1)) (qq c))) (rfl) ?_
      refine lv_istore (lv' := [(17, .int (nI (cN (fit c code ans dbt (gi + 1)) (qq c)))), (0, .ref (b)), (1, .ref (ad 0)), (2, .ref (so)), (3, .int (nI (t))), (4, .int (v)), (5, .int (nI (qq c))), (6, .int (nI (g))), (7, .int (nI (cN (opS c g code ans dbt) 81))), (8, .long (dd)), (12, .int (nI (la))), (13, .int (nI (fo))), (14, .int (nI (db))), (15, .int (nI (bk))), (16, .int (nI (gi)))]) hx hb dL_law_413 hl (by decide) rfl (fun ls hl => ?_)
      have hTF := told_facts (c := c) (i := gi) (g := g) (code := code) (ans := ans) (dbt := dbt)
      rw [← j2] at hTF
      have hai := (hco gi (by omega)).2
      have ha4 := hA5 gi (by omega)
      refine lv_iload hx hb dL_law_415 (lv_at hl 0 rfl) ?_
      refine lv_iload hx hb dL_law_417 (lv_at hl 10 rfl) ?_
      refine x_gt (tgt := 481) hx hb dL_law_419 (by decide) (by omega) (by omega) (fun c419 => absurd c419 (by omega)) (fun c419 => ?_)
      refine lv_aload_n hx hb dL_law_422 rfl (lv_at hl 2 rfl) ?_
      refine lv_iload hx hb dL_law_423 (lv_at hl 14 rfl) ?_
      refine lv_iconst (v := nI (3)) hx hb dL_law_425 (by decide) ?_
      refine x_csi (va_runV (As := [.int (nI (gi)), .int (nI (3))]) (rest := []) ⟨hx, hb, hml, hown, hts⟩ (c_X1_toldP l D cI cZ cG cJ A ad wr hpal c g hid code ans dbt opn ply hps gi 3 (hI) (by omega) (by decide)) (cwV 2 hts gL_law_X1_told rfl rfl rfl (by decide +kernel) ⟨Nat.le_of_ble_eq_true rfl, Nat.le_of_ble_eq_true rfl⟩) (preV (ci := 1) (q0 := 0) hB hS hP hD rfl rfl) rfl rfl hl.1 rfl (lv_room (Nat.le_of_ble_eq_true rfl)) dL_law_426 ⟨by show _ ≤ 600130; omega, by show _ ≤ 7301080; omega⟩) ?_
      refine x_ti (y := nI (bN (dbt gi))) (rfl) ?_
      refine lv_iconst (v := nI (1)) hx hb dL_law_429 (by decide) ?_
      refine x_join (g2 := F0 m 440 ls []) ?_ (fun hj440 => ?_)
      · skip
        refine lv_aload_n hx hb dL_law_440 rfl (lv_at hl 2 rfl) ?_
        refine lv_iload hx hb dL_law_441 (lv_at hl 14 rfl) ?_
        refine lv_iconst (v := nI (3)) hx hb dL_law_443 (by decide) ?_
        refine x_csi (va_runV (As := [.int (nI (gi)), .int (nI (3))]) (rest := []) ⟨hx, hb, hml, hown, hts⟩ (c_X1_toldP l D cI cZ cG cJ A ad wr hpal c g hid code ans dbt opn ply hps gi 3 (hI) (by omega) (by decide)) (cwV 2 hts gL_law_X1_told rfl rfl rfl (by decide +kernel) ⟨Nat.le_of_ble_eq_true rfl, Nat.le_of_ble_eq_true rfl⟩) (preV (ci := 1) (q0 := 0) hB hS hP hD rfl rfl) rfl rfl hl.1 rfl (lv_room (Nat.le_of_ble_eq_true rfl)) dL_law_444 ⟨by show _ ≤ 600130; omega, by show _ ≤ 7301080; omega⟩) ?_
        refine x_ti (y := nI (bN (dbt gi))) (rfl) ?_
        refine x_join (g2 := F0 m 462 ls []) ?_ (fun hj462 => ?_)
        · skip
          refine lv_aload_n hx hb dL_law_462 rfl (lv_at hl 2 rfl) ?_
          refine lv_iload hx hb dL_law_463 (lv_at hl 14 rfl) ?_
          refine lv_iconst (v := nI (1)) hx hb dL_law_465 (by decide) ?_
          refine x_csi (va_runV (As := [.int (nI (gi)), .int (nI (1))]) (rest := []) ⟨hx, hb, hml, hown, hts⟩ (c_X1_toldP l D cI cZ cG cJ A ad wr hpal c g hid code ans dbt opn ply hps gi 1 (hI) (by omega) (by decide)) (cwV 2 hts gL_law_X1_told rfl rfl rfl (by decide +kernel) ⟨Nat.le_of_ble_eq_true rfl, Nat.le_of_ble_eq_true rfl⟩) (preV (ci := 1) (q0 := 0) hB hS hP hD rfl rfl) rfl rfl hl.1 rfl (lv_room (Nat.le_of_ble_eq_true rfl)) dL_law_466 ⟨by show _ ≤ 600130; omega, by show _ ≤ 7301080; omega⟩) ?_
          refine x_ti (y := nI (ans gi / 5)) (rfl) ?_
          refine lv_aload_n hx hb dL_law_469 rfl (lv_at hl 2 rfl) ?_
          refine lv_iload hx hb dL_law_470 (lv_at hl 14 rfl) ?_
          refine lv_iconst (v := nI (2)) hx hb dL_law_472 (by decide) ?_
          refine x_csi (va_runV (As := [.int (nI (gi)), .int (nI (2))]) (rest := [.int (nI (ans gi / 5))]) ⟨hx, hb, hml, hown, hts⟩ (c_X1_toldP l D cI cZ cG cJ A ad wr hpal c g hid code ans dbt opn ply hps gi 2 (hI) (by omega) (by decide)) (cwV 2 hts gL_law_X1_told rfl rfl rfl (by decide +kernel) ⟨Nat.le_of_ble_eq_true rfl, Nat.le_of_ble_eq_true rfl⟩) (preV (ci := 1) (q0 := 0) hB hS hP hD rfl rfl) rfl rfl hl.1 rfl (lv_room (Nat.le_of_ble_eq_true rfl)) dL_law_473 ⟨by show _ ≤ 600130; omega, by show _ ≤ 7301080; omega⟩) ?_
          refine x_ti (y := nI (ans gi % 5)) (rfl) ?_
          refine lv_iadd hx hb dL_law_476 ?_
          refine x_ti (nI_add _ _) ?_
          refine lv_iconst (v := nI (4)) hx hb dL_law_477 (by decide) ?_
          refine x_le (tgt := 483) hx hb dL_law_478 (by decide) (by omega) (by omega) (fun c478 => ?_) (fun c478 => absurd c478 (by omega))
          refine lv_iload hx hb dL_law_483 (lv_at hl 0 rfl) ?_
          refine lv_istore (lv' := [(12, .int (nI (cN (fit c code ans dbt (gi + 1)) (qq c)))), (17, .int (nI (cN (fit c code ans dbt (gi + 1)) (qq c)))), (0, .ref (b)), (1, .ref (ad 0)), (2, .ref (so)), (3, .int (nI (t))), (4, .int (v)), (5, .int (nI (qq c))), (6, .int (nI (g))), (7, .int (nI (cN (opS c g code ans dbt) 81))), (8, .long (dd)), (13, .int (nI (fo))), (14, .int (nI (db))), (15, .int (nI (bk))), (16, .int (nI (gi)))]) hx hb dL_law_485 hl (by decide) rfl (fun ls hl => ?_)
          refine lv_iload hx hb dL_law_487 (lv_at hl 13 rfl) ?_
          refine lv_aload_n hx hb dL_law_489 rfl (lv_at hl 3 rfl) ?_
          refine lv_iload hx hb dL_law_490 (lv_at hl 14 rfl) ?_
          refine lv_iconst (v := nI (1)) hx hb dL_law_492 (by decide) ?_
          refine x_csi (va_runV (As := [.int (nI (gi)), .int (nI (1))]) (rest := [.int (nI (bk))]) ⟨hx, hb, hml, hown, hts⟩ (c_X1_toldP l D cI cZ cG cJ A ad wr hpal c g hid code ans dbt opn ply hps gi 1 (hI) (by omega) (by decide)) (cwV 2 hts gL_law_X1_told rfl rfl rfl (by decide +kernel) ⟨Nat.le_of_ble_eq_true rfl, Nat.le_of_ble_eq_true rfl⟩) (preV (ci := 1) (q0 := 0) hB hS hP hD rfl rfl) rfl rfl hl.1 rfl (lv_room (Nat.le_of_ble_eq_true rfl)) dL_law_493 ⟨by show _ ≤ 600130; omega, by show _ ≤ 7301080; omega⟩) ?_
          refine x_ti (y := nI (ans gi / 5)) (rfl) ?_
          refine lv_iadd hx hb dL_law_496 ?_
          refine x_ti (nI_add _ _) ?_
          refine lv_istore (lv' := [(15, .int (nI (bk + (ans gi / 5)))), (12, .int (nI (cN (fit c code ans dbt (gi + 1)) (qq c)))), (17, .int (nI (cN (fit c code ans dbt (gi + 1)) (qq c)))), (0, .ref (b)), (1, .ref (ad 0)), (2, .ref (so)), (3, .int (nI (t))), (4, .int (v)), (5, .int (nI (qq c))), (6, .int (nI (g))), (7, .int (nI (cN (opS c g code ans dbt) 81))), (8, .long (dd)), (13, .int (nI (fo))), (14, .int (nI (db))), (16, .int (nI (gi)))]) hx hb dL_law_497 hl (by decide) rfl (fun ls hl => ?_)
          refine lv_iload hx hb dL_law_499 (lv_at hl 12 rfl) ?_
          refine lv_aload_n hx hb dL_law_501 rfl (lv_at hl 4 rfl) ?_
          refine lv_iload hx hb dL_law_502 (lv_at hl 14 rfl) ?_
          refine lv_iconst (v := nI (1)) hx hb dL_law_504 (by decide) ?_
          refine x_csi (va_runV (As := [.int (nI (gi)), .int (nI (1))]) (rest := [.int (nI (fo))]) ⟨hx, hb, hml, hown, hts⟩ (c_X1_toldP l D cI cZ cG cJ A ad wr hpal c g hid code ans dbt opn ply hps gi 1 (hI) (by omega) (by decide)) (cwV 2 hts gL_law_X1_told rfl rfl rfl (by decide +kernel) ⟨Nat.le_of_ble_eq_true rfl, Nat.le_of_ble_eq_true rfl⟩) (preV (ci := 1) (q0 := 0) hB hS hP hD rfl rfl) rfl rfl hl.1 rfl (lv_room (Nat.le_of_ble_eq_true rfl)) dL_law_505 ⟨by show _ ≤ 600130; omega, by show _ ≤ 7301080; omega⟩) ?_
          refine x_ti (y := nI (ans gi / 5)) (rfl) ?_
          refine lv_iconst (v := nI (4)) hx hb dL_law_508 (by decide) ?_
          refine x_ne (tgt := 516) hx hb dL_law_509 (by decide) (by omega) (by omega) (fun c509 => ?_) (fun c509 => ?_)
          · skip
            refine lv_iconst (v := nI (0)) hx hb dL_law_516 (by decide) ?_
            refine lv_iadd hx hb dL_law_517 ?_
            refine x_ti (nI_add _ _) ?_
            refine lv_istore (lv' := [(13, .int (nI (fo + 0))), (15, .int (nI (bk + (ans gi / 5)))), (12, .int (nI (cN (fit c code ans dbt (gi + 1)) (qq c)))), (17, .int (nI (cN (fit c code ans dbt (gi + 1)) (qq c)))), (0, .ref (b)), (1, .ref (ad 0)), (2, .ref (so)), (3, .int (nI (t))), (4, .int (v)), (5, .int (nI (qq c))), (6, .int (nI (g))), (7, .int (nI (cN (opS c g code ans dbt) 81))), (8, .long (dd)), (14, .int (nI (db))), (16, .int (nI (gi)))]) hx hb dL_law_518 hl (by decide) rfl (fun ls hl => ?_)
            refine lv_iload hx hb dL_law_520 (lv_at hl 13 rfl) ?_
            refine lv_aload_n hx hb dL_law_522 rfl (lv_at hl 5 rfl) ?_
            refine lv_iload hx hb dL_law_523 (lv_at hl 14 rfl) ?_
            refine lv_iconst (v := nI (3)) hx hb dL_law_525 (by decide) ?_
            refine x_csi (va_runV (As := [.int (nI (gi)), .int (nI (3))]) (rest := [.int (nI (db))]) ⟨hx, hb, hml, hown, hts⟩ (c_X1_toldP l D cI cZ cG cJ A ad wr hpal c g hid code ans dbt opn ply hps gi 3 (hI) (by omega) (by decide)) (cwV 2 hts gL_law_X1_told rfl rfl rfl (by decide +kernel) ⟨Nat.le_of_ble_eq_true rfl, Nat.le_of_ble_eq_true rfl⟩) (preV (ci := 1) (q0 := 0) hB hS hP hD rfl rfl) rfl rfl hl.1 rfl (lv_room (Nat.le_of_ble_eq_true rfl)) dL_law_526 ⟨by show _ ≤ 600130; omega, by show _ ≤ 7301080; omega⟩) ?_
            refine x_ti (y := nI (bN (dbt gi))) (rfl) ?_
            refine lv_iadd hx hb dL_law_529 ?_
            refine x_ti (nI_add _ _) ?_
            refine lv_istore (lv' := [(14, .int (nI (db + (bN (dbt gi))))), (13, .int (nI (fo + 0))), (15, .int (nI (bk + (ans gi / 5)))), (12, .int (nI (cN (fit c code ans dbt (gi + 1)) (qq c)))), (17, .int (nI (cN (fit c code ans dbt (gi + 1)) (qq c)))), (0, .ref (b)), (1, .ref (ad 0)), (2, .ref (so)), (3, .int (nI (t))), (4, .int (v)), (5, .int (nI (qq c))), (6, .int (nI (g))), (7, .int (nI (cN (opS c g code ans dbt) 81))), (8, .long (dd)), (16, .int (nI (gi)))]) hx hb dL_law_530 hl (by decide) rfl (fun ls hl => ?_)
            refine lv_iinc (v := nI (gi + 1)) (lv' := [(16, .int (nI (gi + 1))), (14, .int (nI (db + (bN (dbt gi))))), (13, .int (nI (fo + 0))), (15, .int (nI (bk + (ans gi / 5)))), (12, .int (nI (cN (fit c code ans dbt (gi + 1)) (qq c)))), (17, .int (nI (cN (fit c code ans dbt (gi + 1)) (qq c)))), (0, .ref (b)), (1, .ref (ad 0)), (2, .ref (so)), (3, .int (nI (t))), (4, .int (v)), (5, .int (nI (qq c))), (6, .int (nI (g))), (7, .int (nI (cN (opS c g code ans dbt) 81))), (8, .long (dd))]) hx hb dL_law_532 hl (k := 14) rfl (nI_add _ _) (by decide) rfl (fun ls hl => ?_)
            refine lv_goto (tgt := 399) hx hb dL_law_535 (by decide) ?_
            exact ih399 (gi := gi + 1) (la := cN (fit c code ans dbt (gi + 1)) (qq c)) (fo := fo + 0) (db := db + (bN (dbt gi))) (bk := bk + (ans gi / 5)) (ls := ls) (hl := lv_sub hl [6, 7, 8, 9, 10, 11, 12, 13, 14, 4, 2, 1, 3, 0] rfl) (H := H) (locs := locs) (hP := hP) (hS := hS) (hinv := by
                refine ⟨by omega, rfl, ?_, ?_, by rw [j5]; rfl⟩
                · first | exact (congrArg (· + 1) j3).trans (cN_s (p := fun z => decide (ans z = 20)) (decide_eq_true ((four_iff (hA5 gi (by omega))).mp c509))).symm | exact j3.trans (cN_n (p := fun z => decide (ans z = 20)) (decide_eq_false (fun q => c509 ((four_iff (hA5 gi (by omega))).mpr q)))).symm
                · rw [j4]; cases hd9 : dbt gi with
                  | true => rw [cN_s hd9]; rfl
                  | false => rw [cN_n hd9]; rfl
              ) (hn9 := by
                omega
              )
          · skip
            refine lv_iconst (v := nI (1)) hx hb dL_law_512 (by decide) ?_
            refine lv_goto (tgt := 517) hx hb dL_law_513 (by decide) ?_
            refine lv_iadd hx hb dL_law_517 ?_
            refine x_ti (nI_add _ _) ?_
            refine lv_istore (lv' := [(13, .int (nI (fo + 1))), (15, .int (nI (bk + (ans gi / 5)))), (12, .int (nI (cN (fit c code ans dbt (gi + 1)) (qq c)))), (17, .int (nI (cN (fit c code ans dbt (gi + 1)) (qq c)))), (0, .ref (b)), (1, .ref (ad 0)), (2, .ref (so)), (3, .int (nI (t))), (4, .int (v)), (5, .int (nI (qq c))), (6, .int (nI (g))), (7, .int (nI (cN (opS c g code ans dbt) 81))), (8, .long (dd)), (14, .int (nI (db))), (16, .int (nI (gi)))]) hx hb dL_law_518 hl (by decide) rfl (fun ls hl => ?_)
            refine lv_iload hx hb dL_law_520 (lv_at hl 13 rfl) ?_
            refine lv_aload_n hx hb dL_law_522 rfl (lv_at hl 5 rfl) ?_
            refine lv_iload hx hb dL_law_523 (lv_at hl 14 rfl) ?_
            refine lv_iconst (v := nI (3)) hx hb dL_law_525 (by decide) ?_
            refine x_csi (va_runV (As := [.int (nI (gi)), .int (nI (3))]) (rest := [.int (nI (db))]) ⟨hx, hb, hml, hown, hts⟩ (c_X1_toldP l D cI cZ cG cJ A ad wr hpal c g hid code ans dbt opn ply hps gi 3 (hI) (by omega) (by decide)) (cwV 2 hts gL_law_X1_told rfl rfl rfl (by decide +kernel) ⟨Nat.le_of_ble_eq_true rfl, Nat.le_of_ble_eq_true rfl⟩) (preV (ci := 1) (q0 := 0) hB hS hP hD rfl rfl) rfl rfl hl.1 rfl (lv_room (Nat.le_of_ble_eq_true rfl)) dL_law_526 ⟨by show _ ≤ 600130; omega, by show _ ≤ 7301080; omega⟩) ?_
            refine x_ti (y := nI (bN (dbt gi))) (rfl) ?_
            refine lv_iadd hx hb dL_law_529 ?_
            refine x_ti (nI_add _ _) ?_
            refine lv_istore (lv' := [(14, .int (nI (db + (bN (dbt gi))))), (13, .int (nI (fo + 1))), (15, .int (nI (bk + (ans gi / 5)))), (12, .int (nI (cN (fit c code ans dbt (gi + 1)) (qq c)))), (17, .int (nI (cN (fit c code ans dbt (gi + 1)) (qq c)))), (0, .ref (b)), (1, .ref (ad 0)), (2, .ref (so)), (3, .int (nI (t))), (4, .int (v)), (5, .int (nI (qq c))), (6, .int (nI (g))), (7, .int (nI (cN (opS c g code ans dbt) 81))), (8, .long (dd)), (16, .int (nI (gi)))]) hx hb dL_law_530 hl (by decide) rfl (fun ls hl => ?_)
            refine lv_iinc (v := nI (gi + 1)) (lv' := [(16, .int (nI (gi + 1))), (14, .int (nI (db + (bN (dbt gi))))), (13, .int (nI (fo + 1))), (15, .int (nI (bk + (ans gi / 5)))), (12, .int (nI (cN (fit c code ans dbt (gi + 1)) (qq c)))), (17, .int (nI (cN (fit c code ans dbt (gi + 1)) (qq c)))), (0, .ref (b)), (1, .ref (ad 0)), (2, .ref (so)), (3, .int (nI (t))), (4, .int (v)), (5, .int (nI (qq c))), (6, .int (nI (g))), (7, .int (nI (cN (opS c g code ans dbt) 81))), (8, .long (dd))]) hx hb dL_law_532 hl (k := 14) rfl (nI_add _ _) (by decide) rfl (fun ls hl => ?_)
            refine lv_goto (tgt := 399) hx hb dL_law_535 (by decide) ?_
            exact ih399 (gi := gi + 1) (la := cN (fit c code ans dbt (gi + 1)) (qq c)) (fo := fo + 1) (db := db + (bN (dbt gi))) (bk := bk + (ans gi / 5)) (ls := ls) (hl := lv_sub hl [6, 7, 8, 9, 10, 11, 12, 13, 14, 4, 2, 1, 3, 0] rfl) (H := H) (locs := locs) (hP := hP) (hS := hS) (hinv := by
                refine ⟨by omega, rfl, ?_, ?_, by rw [j5]; rfl⟩
                · first | exact (congrArg (· + 1) j3).trans (cN_s (p := fun z => decide (ans z = 20)) (decide_eq_true ((four_iff (hA5 gi (by omega))).mp c509))).symm | exact j3.trans (cN_n (p := fun z => decide (ans z = 20)) (decide_eq_false (fun q => c509 ((four_iff (hA5 gi (by omega))).mpr q)))).symm
                · rw [j4]; cases hd9 : dbt gi with
                  | true => rw [cN_s hd9]; rfl
                  | false => rw [cN_n hd9]; rfl
              ) (hn9 := by
                omega
              )
        · skip
          refine x_ne0 (tgt := 462) hx hb dL_law_447 (by decide) (by omega) (fun c447 => ?_) (fun c447 => ?_)
          · skip
            exact hj462
          · skip
            refine lv_iload hx hb dL_law_450 (lv_at hl 0 rfl) ?_
            refine lv_aload_n hx hb dL_law_452 rfl (lv_at hl 2 rfl) ?_
            refine lv_iload hx hb dL_law_453 (lv_at hl 14 rfl) ?_
            refine lv_iconst (v := nI (5)) hx hb dL_law_455 (by decide) ?_
            refine x_csi (va_runV (As := [.int (nI (gi)), .int (nI (5))]) (rest := [.int (nI (cN (fit c code ans dbt (gi + 1)) (qq c)))]) ⟨hx, hb, hml, hown, hts⟩ (c_X1_toldP l D cI cZ cG cJ A ad wr hpal c g hid code ans dbt opn ply hps gi 5 (hI) (by omega) (by decide)) (cwV 2 hts gL_law_X1_told rfl rfl rfl (by decide +kernel) ⟨Nat.le_of_ble_eq_true rfl, Nat.le_of_ble_eq_true rfl⟩) (preV (ci := 1) (q0 := 0) hB hS hP hD rfl rfl) rfl rfl hl.1 rfl (lv_room (Nat.le_of_ble_eq_true rfl)) dL_law_456 ⟨by show _ ≤ 600130; omega, by show _ ≤ 7301080; omega⟩) ?_
            refine x_ti (y := nI (cN (fun k => decide (pins c (code gi) k = ans gi)) (qq c))) (rfl) ?_
            refine x_gt (tgt := 481) hx hb dL_law_459 (by decide) (by omega) (by omega) (fun c459 => absurd c459 (by have := hTF.2.2 (bN_0 (by omega)); omega)) (fun c459 => ?_)
            exact hj462
      · skip
        refine x_ne (tgt := 440) hx hb dL_law_430 (by decide) (by omega) (by omega) (fun c430 => ?_) (fun c430 => ?_)
        · skip
          exact hj440
        · skip
          refine lv_iload hx hb dL_law_433 (lv_at hl 0 rfl) ?_
          refine lv_iload hx hb dL_law_435 (lv_at hl 10 rfl) ?_
          refine x_ne (tgt := 481) hx hb dL_law_437 (by decide) (by omega) (by omega) (fun c437 => absurd c437 (fun q => q (hTF.2.1 (bN_1.mp c430)))) (fun c437 => ?_)
          exact hj440
