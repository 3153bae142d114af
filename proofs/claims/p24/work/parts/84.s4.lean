theorem m1_le {k : Nat} (h : k < 2 ^ 31) : (-1 : Int32) ≤ nI k := Int32.le_trans (by decide) (nI_pos' h)
set_option maxHeartbeats 40000000 in
set_option maxRecDepth 100000 in
theorem law_S4 {p : Program} {l : Launch} {e : Env} {s : State} {m : MethodId} {below : List Frame} {meth : Method} {c9 : Code} (hfl : l.flags = flags0) {D : va_G} {cI cZ cG cJ : ClassId} {A : Nat → Prop} {ad : Nat → Nat} {so : Nat} {b L : Nat} {xs : Nat → Int32} (hL : L ≤ 260) (C0 : lw_At p s m meth c9 b L xs) (hB : Bs D (TY cI cZ cG cJ) A s) (hAf : ∀ q, A q → s.heap.size ≤ q) {c g : Nat} {hid : Int32} {code ans : Nat → Nat} {dbt opn ply : Nat → Bool} {hps : Nat → Nat} {wr : va_W} (hG : LG cI cG ad so (c, g, hid, code, ans, dbt, opn, ply, hps, wr))  {t : Nat} {v : Int32} {dd : Int64} {H : Heap} {locs : List Loc} (hP : va_P D vwCl (WX ad cI cZ c g hid code ans dbt opn ply hps wr) H) (hD : va_D A (WX ad cI cZ c g hid code ans dbt opn ply hps wr)) (hS : va_S A s.heap H locs) {ls : Array Slot} (hl : lv_has ls 25 [(0, .ref (b)), (1, .ref (ad 0)), (2, .ref (so)), (3, .int (nI (t))), (4, .int (v)), (5, .int (nI (qq c))), (6, .int (nI (g))), (7, .int (nI (cN (opS c g code ans dbt) 81))), (8, .long (dd))]) {nc ns : Nat} (hnc : nc ≤ 90000) (hns : ns ≤ 900000) (K : ∀ (hp9 : Nat → Nat) (H : Heap) (locs : List Loc) (ls : Array Slot),  va_P D vwCl (WX ad cI cZ c g hid code ans dbt opn ply hp9 wr) H → va_D A (WX ad cI cZ c g hid code ans dbt opn ply hp9 wr) → va_S A s.heap H locs → lv_has ls 25 [(0, .ref (b)), (1, .ref (ad 0)), (2, .ref (so)), (3, .int (nI (t))), (4, .int (v)), (5, .int (nI (qq c))), (6, .int (nI (g))), (7, .int (nI (cN (opS c g code ans dbt) 81))), (8, .long (dd))] → W p l e room_1 s m #[Value.ref b] below meth c9 H locs nc ns (lw_Z below #[Value.ref b] s) (F0 m 819 ls [])) : W p l e room_1 s m #[Value.ref b] below meth c9 H locs nc ns (lw_Z below #[Value.ref b] s) (F0 m 592 ls []) := by
  obtain ⟨hx, hb, hr, hml, hown, hts0, hX, hbl, hlocks, hgv⟩ := id C0
  have hown : s.vm.findClass RL = some m.cls := hown
  have hb : c9.code = cL_law := hb
  have hts : ∀ w ∈ wsL_law, w.before #[Value.ref b] s = true := fun w h => hts0 w (wsL_law_in w h)
  have hK := hB.1
  have hbA : ¬ A b := fun q => absurd (hAf b q) (Nat.not_le.mpr hbl)
  obtain ⟨hpal, hI, hS0, hA5⟩ := id hG
  replace hpal : Pals cI cG ad wr := hpal
  replace hI : XI c g hid code ans dbt opn := hI
  replace hS0 : SimAt cI cG wr so c hid g code ans dbt := hS0
  replace hA5 : AnsOK g ans := hA5
  obtain ⟨hc, hg, hco, hhid, hop⟩ := id hI
  have hq := qq_in hc
  have hcl81 := cN_le (opS c g code ans dbt) 81
  rcases best_facts (c := c) (sb := (opS c g code ans dbt)) hc with ⟨hb0, hbe⟩ | ⟨hb0, be, hbq, hbe, hbm⟩
  · skip
    refine lv_aload_n hx hb dL_law_592 rfl (lv_at hl 1 rfl) ?_
    refine va_calli (va_runV (As := []) (rest := []) ⟨hx, hb, hml, hown, hts⟩ (c_X1_best l D cI cZ cG cJ A ad wr hpal c g hid code ans dbt opn ply hps (hI)) (cwV 0 hts gL_law_X1_best rfl rfl rfl (by decide +kernel) ⟨Nat.le_of_ble_eq_true rfl, Nat.le_of_ble_eq_true rfl⟩) (preV (ci := 1) (q0 := 0) hB hS hP hD rfl rfl) rfl rfl hl.1 rfl (lv_room (Nat.le_of_ble_eq_true rfl)) dL_law_593 ⟨by show _ ≤ 600130; omega, by show _ ≤ 7301080; omega⟩) hS (fun q _ h => h) (fun q h => h) (fun r_593 u_593 t9 H1 locs1 ht9 hvm9 hw_593 hBw hz9 hk9 hS => ?_)
    obtain ⟨hP, hD⟩ := hBw
    rw [ht9] at hP
    generalize H1 = H at hP hS ⊢
    generalize locs1 = locs at hS ⊢
    replace hP : va_P D vwCl (WX ad cI cZ c g hid code ans dbt opn ply u_593 wr) H := hP
    replace hD : va_D A (WX ad cI cZ c g hid code ans dbt opn ply u_593 wr) := hD
    refine x_ti (y := lbR c (opS c g code ans dbt) false) (hw_593.1) ?_
    refine x_ti (y := (-1)) (by rw [hbe]) ?_
    refine lv_istore (lv' := [(16, .int ((-1))), (0, .ref (b)), (1, .ref (ad 0)), (2, .ref (so)), (3, .int (nI (t))), (4, .int (v)), (5, .int (nI (qq c))), (6, .int (nI (g))), (7, .int (nI (cN (opS c g code ans dbt) 81))), (8, .long (dd))]) hx hb dL_law_596 hl (by decide) rfl (fun ls hl => ?_)
    refine lv_iload hx hb dL_law_598 (lv_at hl 0 rfl) ?_
    refine lv_if_ge (tgt := 607) hx hb dL_law_600 (by decide) (fun c600 => absurd c600 (by decide)) (fun c600 => ?_)
    refine lv_iconst (v := nI (1)) hx hb dL_law_603 (by decide) ?_
    refine lv_goto (tgt := 608) hx hb dL_law_604 (by decide) ?_
    refine lv_iload hx hb dL_law_608 (lv_at hl 8 rfl) ?_
    refine x_ne0 (tgt := 617) hx hb dL_law_610 (by decide) (by omega) (fun c610 => absurd c610 (by omega)) (fun c610 => ?_)
    refine lv_iconst (v := nI (1)) hx hb dL_law_613 (by decide) ?_
    refine lv_goto (tgt := 618) hx hb dL_law_614 (by decide) ?_
    refine x_eq (tgt := 623) hx hb dL_law_618 (by decide) (by omega) (by omega) (fun c618 => ?_) (fun c618 => absurd c618 (fun q => q rfl))
    refine lv_iload hx hb dL_law_623 (lv_at hl 0 rfl) ?_
    refine lv_if_ge (tgt := 632) hx hb dL_law_625 (by decide) (fun c625 => absurd c625 (by decide)) (fun c625 => ?_)
    refine lv_iconst (v := nI (0)) hx hb dL_law_628 (by decide) ?_
    refine lv_goto (tgt := 638) hx hb dL_law_629 (by decide) ?_
    refine lv_istore (lv' := [(17, .int (nI (0))), (16, .int ((-1))), (0, .ref (b)), (1, .ref (ad 0)), (2, .ref (so)), (3, .int (nI (t))), (4, .int (v)), (5, .int (nI (qq c))), (6, .int (nI (g))), (7, .int (nI (cN (opS c g code ans dbt) 81))), (8, .long (dd))]) hx hb dL_law_638 hl (by decide) rfl (fun ls hl => ?_)
    refine lv_iconst (v := nI (0)) hx hb dL_law_640 (by decide) ?_
    refine lv_istore (lv' := [(18, .int (nI (0))), (17, .int (nI (0))), (16, .int ((-1))), (0, .ref (b)), (1, .ref (ad 0)), (2, .ref (so)), (3, .int (nI (t))), (4, .int (v)), (5, .int (nI (qq c))), (6, .int (nI (g))), (7, .int (nI (cN (opS c g code ans dbt) 81))), (8, .long (dd))]) hx hb dL_law_641 hl (by decide) rfl (fun ls hl => ?_)
    -- loop at 643
    have hinv : 0 ≤ 14 := by
      exact Nat.zero_le _
    obtain ⟨k4, hp9, hq9⟩ : ∃ (k4 : Nat) (hp9 : Nat → Nat), lv_has ls 25 [(0, .ref (b)), (1, .ref (ad 0)), (2, .ref (so)), (3, .int (nI (t))), (4, .int (v)), (5, .int (nI (qq c))), (6, .int (nI (g))), (7, .int (nI (cN (opS c g code ans dbt) 81))), (8, .long (dd)), (16, .int ((-1))), (17, .int (nI (0))), (18, .int (nI (k4)))] ∧ (k4 ≤ 14) ∧ va_P D vwCl (WX ad cI cZ c g hid code ans dbt opn ply hp9 wr) H ∧ va_D A (WX ad cI cZ c g hid code ans dbt opn ply hp9 wr) := ⟨0, u_593, lv_sub hl [3, 4, 5, 6, 7, 8, 9, 10, 11, 2, 1, 0] rfl, hinv, hP, hD⟩
    clear hl hinv hP hD
    obtain ⟨hl, hinv, hP, hD⟩ := hq9
    obtain ⟨n9_643, hn9⟩ : ∃ q : Nat, 14 - k4 < q := ⟨_, Nat.lt_succ_self _⟩
    induction n9_643 generalizing ls H locs k4 hp9 with
    | zero => exact absurd hn9 (Nat.not_lt_zero _)
    | succ n9_643 ih643 =>
      refine lv_iload hx hb dL_law_643 (lv_at hl 11 rfl) ?_
      refine lv_bipush (v := nI (14)) hx hb dL_law_645 (by decide) ?_
      refine x_ge (tgt := 819) hx hb dL_law_647 (by decide) (by omega) (by omega) (fun c647 => ?_) (fun c647 => ?_)
      · skip
        exact K hp9 H locs ls hP hD hS (lv_sub hl [0, 1, 2, 3, 4, 5, 6, 7, 8] rfl)
      · skip
        refine lv_iload hx hb dL_law_650 (lv_at hl 4 rfl) ?_
        refine lv_iconst (v := nI (2)) hx hb dL_law_652 (by decide) ?_
        refine lv_ishr hx hb dL_law_653 ?_
        refine lv_bipush (v := nI (11)) hx hb dL_law_654 (by decide) ?_
        refine lv_iload hx hb dL_law_656 (lv_at hl 11 rfl) ?_
        refine lv_imul hx hb dL_law_658 ?_
        refine x_ti (pk_mul _ _) ?_
        refine lv_iadd hx hb dL_law_659 ?_
        refine lv_iload hx hb dL_law_660 (lv_at hl 5 rfl) ?_
        refine x_csi (va_runS (As := [.int (((v) >>> ((nI (2)) &&& 31)) + (nI (11 * k4))), .int (nI (qq c))]) (rest := []) ⟨hx, hb, hml, hown, hts⟩ (c_L_below l D cI cZ cG cJ A (WX ad cI cZ c g hid code ans dbt opn ply hp9 wr) (((v) >>> ((nI (2)) &&& 31)) + (nI (11 * k4))) (qq c) (by omega) (by omega)) (va_cwS 2 hts gL_law_L_below rfl rfl rfl (by decide +kernel) ⟨Nat.le_of_ble_eq_true rfl, Nat.le_of_ble_eq_true rfl⟩) (preS hB hS hP hD) rfl rfl hl.1 rfl (lv_room (Nat.le_of_ble_eq_true rfl)) dL_law_662 ⟨by show _ ≤ 600130; omega, by show _ ≤ 7301080; omega⟩) ?_
        obtain ⟨cd, e_cd⟩ : ∃ q : Nat, q = bw (((v) >>> ((nI (2)) &&& 31)) + (nI (11 * k4))) (qq c) := ⟨_, rfl⟩
        have h_cd : cd < qq c := by rw [e_cd]; exact bw_lt _ (by omega)
        have hwf := worst_facts (a := cd) (sb := (opS c g code ans dbt)) hc h_cd (fun z _ h => op_lt2 h)
        have hw81 := gh_le81 c cd (opS c g code ans dbt)
        have hp21 := cN_le (fun x => decide (0 < hpN c cd (opS c g code ans dbt) x)) 21
        refine x_ti (y := nI (cd)) (by rw [e_cd]) ?_
        refine lv_istore (lv' := [(19, .int (nI (cd))), (0, .ref (b)), (1, .ref (ad 0)), (2, .ref (so)), (3, .int (nI (t))), (4, .int (v)), (5, .int (nI (qq c))), (6, .int (nI (g))), (7, .int (nI (cN (opS c g code ans dbt) 81))), (8, .long (dd)), (16, .int ((-1))), (17, .int (nI (0))), (18, .int (nI (k4)))]) hx hb dL_law_665 hl (by decide) rfl (fun ls hl => ?_)
        refine lv_aload_n hx hb dL_law_667 rfl (lv_at hl 2 rfl) ?_
        refine lv_iload hx hb dL_law_668 (lv_at hl 0 rfl) ?_
        refine va_calli (va_runV (As := [.int (nI (cd))]) (rest := []) ⟨hx, hb, hml, hown, hts⟩ (c_X1_worstP l D cI cZ cG cJ A ad wr hpal c g hid code ans dbt opn ply hp9 cd (hI) (h_cd)) (cwV 1 hts gL_law_X1_worst rfl rfl rfl (by decide +kernel) ⟨Nat.le_of_ble_eq_true rfl, Nat.le_of_ble_eq_true rfl⟩) (preV (ci := 1) (q0 := 0) hB hS hP hD rfl rfl) rfl rfl hl.1 rfl (lv_room (Nat.le_of_ble_eq_true rfl)) dL_law_670 ⟨by show _ ≤ 600130; omega, by show _ ≤ 7301080; omega⟩) hS (fun q _ h => h) (fun q h => h) (fun r_670 u_670 t9 H1 locs1 ht9 hvm9 hw_670 hBw hz9 hk9 hS => ?_)
        obtain ⟨hP, hD⟩ := hBw
        rw [ht9] at hP
        generalize H1 = H at hP hS ⊢
        generalize locs1 = locs at hS ⊢
        replace hP : va_P D vwCl (WX ad cI cZ c g hid code ans dbt opn ply u_670 wr) H := hP
        replace hD : va_D A (WX ad cI cZ c g hid code ans dbt opn ply u_670 wr) := hD
        refine x_ti (y := nI (gh c cd (opS c g code ans dbt))) (hw_670.1) ?_
        refine lv_istore (lv' := [(20, .int (nI (gh c cd (opS c g code ans dbt)))), (19, .int (nI (cd))), (0, .ref (b)), (1, .ref (ad 0)), (2, .ref (so)), (3, .int (nI (t))), (4, .int (v)), (5, .int (nI (qq c))), (6, .int (nI (g))), (7, .int (nI (cN (opS c g code ans dbt) 81))), (8, .long (dd)), (16, .int ((-1))), (17, .int (nI (0))), (18, .int (nI (k4)))]) hx hb dL_law_673 hl (by decide) rfl (fun ls hl => ?_)
        refine lv_aload_n hx hb dL_law_675 rfl (lv_at hl 3 rfl) ?_
        refine lv_iload hx hb dL_law_676 (lv_at hl 1 rfl) ?_
        refine va_calli (va_runV (As := [.int (nI (cd))]) (rest := []) ⟨hx, hb, hml, hown, hts⟩ (c_X1_partsP l D cI cZ cG cJ A ad wr hpal c g hid code ans dbt opn ply u_670 cd (hI) (h_cd)) (cwV 1 hts gL_law_X1_parts rfl rfl rfl (by decide +kernel) ⟨Nat.le_of_ble_eq_true rfl, Nat.le_of_ble_eq_true rfl⟩) (preV (ci := 1) (q0 := 0) hB hS hP hD rfl rfl) rfl rfl hl.1 rfl (lv_room (Nat.le_of_ble_eq_true rfl)) dL_law_678 ⟨by show _ ≤ 600130; omega, by show _ ≤ 7301080; omega⟩) hS (fun q _ h => h) (fun q h => h) (fun r_678 u_678 t9 H1 locs1 ht9 hvm9 hw_678 hBw hz9 hk9 hS => ?_)
        obtain ⟨hP, hD⟩ := hBw
        rw [ht9] at hP
        generalize H1 = H at hP hS ⊢
        generalize locs1 = locs at hS ⊢
        replace hP : va_P D vwCl (WX ad cI cZ c g hid code ans dbt opn ply u_678 wr) H := hP
        replace hD : va_D A (WX ad cI cZ c g hid code ans dbt opn ply u_678 wr) := hD
        refine x_ti (y := nI (cN (fun x => decide (0 < hpN c cd (opS c g code ans dbt) x)) 21)) (hw_678.1) ?_
        refine lv_istore (lv' := [(21, .int (nI (cN (fun x => decide (0 < hpN c cd (opS c g code ans dbt) x)) 21))), (20, .int (nI (gh c cd (opS c g code ans dbt)))), (19, .int (nI (cd))), (0, .ref (b)), (1, .ref (ad 0)), (2, .ref (so)), (3, .int (nI (t))), (4, .int (v)), (5, .int (nI (qq c))), (6, .int (nI (g))), (7, .int (nI (cN (opS c g code ans dbt) 81))), (8, .long (dd)), (16, .int ((-1))), (17, .int (nI (0))), (18, .int (nI (k4)))]) hx hb dL_law_681 hl (by decide) rfl (fun ls hl => ?_)
        refine lv_iload hx hb dL_law_683 (lv_at hl 1 rfl) ?_
        refine lv_iload hx hb dL_law_685 (lv_at hl 10 rfl) ?_
        refine x_gt (tgt := 796) hx hb dL_law_687 (by decide) (by omega) (by omega) (fun c687 => absurd c687 (by omega)) (fun c687 => ?_)
        refine lv_iload hx hb dL_law_690 (lv_at hl 1 rfl) ?_
        refine lv_iload hx hb dL_law_692 (lv_at hl 0 rfl) ?_
        refine lv_imul hx hb dL_law_694 ?_
        refine x_ti (pk_mul _ _) ?_
        refine lv_iload hx hb dL_law_695 (lv_at hl 10 rfl) ?_
        refine x_lt (tgt := 796) hx hb dL_law_697 (by decide) (Nat.lt_of_le_of_lt (Nat.mul_le_mul hw81 hp21) (by decide)) (by omega) (fun c697 => absurd c697 (Nat.not_lt.mpr hwf.2.1)) (fun c697 => ?_)
        refine lv_iload hx hb dL_law_700 (lv_at hl 0 rfl) ?_
        refine lv_iload hx hb dL_law_702 (lv_at hl 10 rfl) ?_
        refine x_gt (tgt := 796) hx hb dL_law_704 (by decide) (by omega) (by omega) (fun c704 => absurd c704 (Nat.not_lt.mpr hwf.2.2.1)) (fun c704 => ?_)
        refine lv_iload hx hb dL_law_707 (lv_at hl 1 rfl) ?_
        refine x_ne0 (tgt := 716) hx hb dL_law_709 (by decide) (by omega) (fun c709 => absurd c709 (by have := hwf.2.2.2; omega)) (fun c709 => ?_)
        refine lv_iconst (v := nI (1)) hx hb dL_law_712 (by decide) ?_
        refine lv_goto (tgt := 717) hx hb dL_law_713 (by decide) ?_
        refine lv_iload hx hb dL_law_717 (lv_at hl 10 rfl) ?_
        refine x_ne0 (tgt := 726) hx hb dL_law_719 (by decide) (by omega) (fun c719 => absurd c719 (by omega)) (fun c719 => ?_)
        refine lv_iconst (v := nI (1)) hx hb dL_law_722 (by decide) ?_
        refine lv_goto (tgt := 727) hx hb dL_law_723 (by decide) ?_
        refine x_ne (tgt := 796) hx hb dL_law_727 (by decide) (by omega) (by omega) (fun c727 => absurd c727 (fun q => q rfl)) (fun c727 => ?_)
        refine lv_iload hx hb dL_law_730 (lv_at hl 1 rfl) ?_
        refine lv_iload hx hb dL_law_732 (lv_at hl 13 rfl) ?_
        refine x_lt (tgt := 796) hx hb dL_law_734 (by decide) (by omega) (by omega) (fun c734 => absurd c734 (by omega)) (fun c734 => ?_)
        refine lv_iload hx hb dL_law_737 (lv_at hl 1 rfl) ?_
        refine lv_iload hx hb dL_law_739 (lv_at hl 13 rfl) ?_
        refine x_join (g2 := F0 m 798 ls []) ?_ (fun hj798 => ?_)
        · skip
          refine lv_aload_n hx hb dL_law_798 rfl (lv_at hl 4 rfl) ?_
          refine lv_iload hx hb dL_law_799 (lv_at hl 2 rfl) ?_
          refine lv_iload hx hb dL_law_801 (lv_at hl 2 rfl) ?_
          refine x_csi (va_runV (As := [.int (nI (cd)), .int (nI (cd))]) (rest := []) ⟨hx, hb, hml, hown, hts⟩ (c_X1_pinsP l D cI cZ cG cJ A ad wr hpal c g hid code ans dbt opn ply u_678 cd cd (hI) (h_cd) (h_cd)) (cwV 2 hts gL_law_X1_pins rfl rfl rfl (by decide +kernel) ⟨Nat.le_of_ble_eq_true rfl, Nat.le_of_ble_eq_true rfl⟩) (preV (ci := 1) (q0 := 0) hB hS hP hD rfl rfl) rfl rfl hl.1 rfl (lv_room (Nat.le_of_ble_eq_true rfl)) dL_law_803 ⟨by show _ ≤ 600130; omega, by show _ ≤ 7301080; omega⟩) ?_
          refine x_ti (y := nI (20)) (by rw [(pins_tab hc h_cd h_cd).2.2.2]) ?_
          refine lv_bipush (v := nI (20)) hx hb dL_law_806 (by decide) ?_
          refine x_eq (tgt := 813) hx hb dL_law_808 (by decide) (by omega) (by omega) (fun c808 => ?_) (fun c808 => absurd c808 (fun q => q rfl))
          refine lv_iinc (v := nI (k4 + 1)) (lv' := [(18, .int (nI (k4 + 1))), (21, .int (nI (cN (fun x => decide (0 < hpN c cd (opS c g code ans dbt) x)) 21))), (20, .int (nI (gh c cd (opS c g code ans dbt)))), (19, .int (nI (cd))), (0, .ref (b)), (1, .ref (ad 0)), (2, .ref (so)), (3, .int (nI (t))), (4, .int (v)), (5, .int (nI (qq c))), (6, .int (nI (g))), (7, .int (nI (cN (opS c g code ans dbt) 81))), (8, .long (dd)), (16, .int ((-1))), (17, .int (nI (0)))]) hx hb dL_law_813 hl (k := 14) rfl (nI_add _ _) (by decide) rfl (fun ls hl => ?_)
          refine lv_goto (tgt := 643) hx hb dL_law_816 (by decide) ?_
          exact ih643 (k4 := k4 + 1) (hp9 := u_678) (ls := ls) (hl := lv_sub hl [4, 5, 6, 7, 8, 9, 10, 11, 12, 13, 14, 0] rfl) (H := H) (locs := locs) (hP := hP) (hD := hD) (hS := hS) (hinv := by
              omega
            ) (hn9 := by
              omega
            )
        · skip
          refine x_join (g2 := F0 m 767 ls []) ?_ (fun hj767 => ?_)
          · skip
            refine lv_iload hx hb dL_law_767 (lv_at hl 1 rfl) ?_
            refine lv_iload hx hb dL_law_769 (lv_at hl 13 rfl) ?_
            refine x_ne (tgt := 798) hx hb dL_law_771 (by decide) (by omega) (by omega) (fun c771 => ?_) (fun c771 => ?_)
            · skip
              exact hj798
            · skip
              refine lv_iload hx hb dL_law_774 (lv_at hl 2 rfl) ?_
              refine lv_iload hx hb dL_law_776 (lv_at hl 12 rfl) ?_
              refine lv_icmp_ge (tgt := 798) hx hb dL_law_778 (by decide) (fun c778 => ?_) (fun c778 => absurd c778 (fun q => q (m1_le (by omega))))
              exact hj798
          · skip
            refine x_ne (tgt := 767) hx hb dL_law_741 (by decide) (by omega) (by omega) (fun c741 => ?_) (fun c741 => ?_)
            · skip
              exact hj767
            · skip
              refine lv_iload hx hb dL_law_744 (lv_at hl 12 rfl) ?_
              refine lv_if_lt (tgt := 767) hx hb dL_law_746 (by decide) (fun c746 => ?_) (fun c746 => absurd c746 (fun q => q (by decide)))
              exact hj767
  · skip
    refine lv_aload_n hx hb dL_law_592 rfl (lv_at hl 1 rfl) ?_
    refine va_calli (va_runV (As := []) (rest := []) ⟨hx, hb, hml, hown, hts⟩ (c_X1_best l D cI cZ cG cJ A ad wr hpal c g hid code ans dbt opn ply hps (hI)) (cwV 0 hts gL_law_X1_best rfl rfl rfl (by decide +kernel) ⟨Nat.le_of_ble_eq_true rfl, Nat.le_of_ble_eq_true rfl⟩) (preV (ci := 1) (q0 := 0) hB hS hP hD rfl rfl) rfl rfl hl.1 rfl (lv_room (Nat.le_of_ble_eq_true rfl)) dL_law_593 ⟨by show _ ≤ 600130; omega, by show _ ≤ 7301080; omega⟩) hS (fun q _ h => h) (fun q h => h) (fun r_593 u_593 t9 H1 locs1 ht9 hvm9 hw_593 hBw hz9 hk9 hS => ?_)
    obtain ⟨hP, hD⟩ := hBw
    rw [ht9] at hP
    generalize H1 = H at hP hS ⊢
    generalize locs1 = locs at hS ⊢
    replace hP : va_P D vwCl (WX ad cI cZ c g hid code ans dbt opn ply u_593 wr) H := hP
    replace hD : va_D A (WX ad cI cZ c g hid code ans dbt opn ply u_593 wr) := hD
    refine x_ti (y := lbR c (opS c g code ans dbt) false) (hw_593.1) ?_
    refine x_ti (y := nI (be)) (by rw [hbe]) ?_
    refine lv_istore (lv' := [(16, .int (nI (be))), (0, .ref (b)), (1, .ref (ad 0)), (2, .ref (so)), (3, .int (nI (t))), (4, .int (v)), (5, .int (nI (qq c))), (6, .int (nI (g))), (7, .int (nI (cN (opS c g code ans dbt) 81))), (8, .long (dd))]) hx hb dL_law_596 hl (by decide) rfl (fun ls hl => ?_)
    refine lv_iload hx hb dL_law_598 (lv_at hl 0 rfl) ?_
    refine x_ge0 (tgt := 607) hx hb dL_law_600 (by decide) (by omega) ?_
    refine lv_iconst (v := nI (0)) hx hb dL_law_607 (by decide) ?_
    refine lv_iload hx hb dL_law_608 (lv_at hl 8 rfl) ?_
    refine x_ne0 (tgt := 617) hx hb dL_law_610 (by decide) (by omega) (fun c610 => ?_) (fun c610 => absurd c610 (by omega))
    refine lv_iconst (v := nI (0)) hx hb dL_law_617 (by decide) ?_
    refine x_eq (tgt := 623) hx hb dL_law_618 (by decide) (by omega) (by omega) (fun c618 => ?_) (fun c618 => absurd c618 (fun q => q rfl))
    refine lv_iload hx hb dL_law_623 (lv_at hl 0 rfl) ?_
    refine x_ge0 (tgt := 632) hx hb dL_law_625 (by decide) (by omega) ?_
    refine lv_aload_n hx hb dL_law_632 rfl (lv_at hl 2 rfl) ?_
    refine lv_iload hx hb dL_law_633 (lv_at hl 0 rfl) ?_
    refine va_calli (va_runV (As := [.int (nI (be))]) (rest := []) ⟨hx, hb, hml, hown, hts⟩ (c_X1_worstP l D cI cZ cG cJ A ad wr hpal c g hid code ans dbt opn ply u_593 be (hI) (hbq)) (cwV 1 hts gL_law_X1_worst rfl rfl rfl (by decide +kernel) ⟨Nat.le_of_ble_eq_true rfl, Nat.le_of_ble_eq_true rfl⟩) (preV (ci := 1) (q0 := 0) hB hS hP hD rfl rfl) rfl rfl hl.1 rfl (lv_room (Nat.le_of_ble_eq_true rfl)) dL_law_635 ⟨by show _ ≤ 600130; omega, by show _ ≤ 7301080; omega⟩) hS (fun q _ h => h) (fun q h => h) (fun r_635 u_635 t9 H1 locs1 ht9 hvm9 hw_635 hBw hz9 hk9 hS => ?_)
    obtain ⟨hP, hD⟩ := hBw
    rw [ht9] at hP
    generalize H1 = H at hP hS ⊢
    generalize locs1 = locs at hS ⊢
    replace hP : va_P D vwCl (WX ad cI cZ c g hid code ans dbt opn ply u_635 wr) H := hP
    replace hD : va_D A (WX ad cI cZ c g hid code ans dbt opn ply u_635 wr) := hD
    refine x_ti (y := nI (gh c be (opS c g code ans dbt))) (hw_635.1) ?_
    have hwb := gh_le81 c be (opS c g code ans dbt)
    refine lv_istore (lv' := [(17, .int (nI (gh c be (opS c g code ans dbt)))), (16, .int (nI (be))), (0, .ref (b)), (1, .ref (ad 0)), (2, .ref (so)), (3, .int (nI (t))), (4, .int (v)), (5, .int (nI (qq c))), (6, .int (nI (g))), (7, .int (nI (cN (opS c g code ans dbt) 81))), (8, .long (dd))]) hx hb dL_law_638 hl (by decide) rfl (fun ls hl => ?_)
    refine lv_iconst (v := nI (0)) hx hb dL_law_640 (by decide) ?_
    refine lv_istore (lv' := [(18, .int (nI (0))), (17, .int (nI (gh c be (opS c g code ans dbt)))), (16, .int (nI (be))), (0, .ref (b)), (1, .ref (ad 0)), (2, .ref (so)), (3, .int (nI (t))), (4, .int (v)), (5, .int (nI (qq c))), (6, .int (nI (g))), (7, .int (nI (cN (opS c g code ans dbt) 81))), (8, .long (dd))]) hx hb dL_law_641 hl (by decide) rfl (fun ls hl => ?_)
    -- loop at 643
    have hinv : 0 ≤ 14 := by
      exact Nat.zero_le _
    obtain ⟨k4, hp9, hq9⟩ : ∃ (k4 : Nat) (hp9 : Nat → Nat), lv_has ls 25 [(0, .ref (b)), (1, .ref (ad 0)), (2, .ref (so)), (3, .int (nI (t))), (4, .int (v)), (5, .int (nI (qq c))), (6, .int (nI (g))), (7, .int (nI (cN (opS c g code ans dbt) 81))), (8, .long (dd)), (16, .int (nI (be))), (17, .int (nI (gh c be (opS c g code ans dbt)))), (18, .int (nI (k4)))] ∧ (k4 ≤ 14) ∧ va_P D vwCl (WX ad cI cZ c g hid code ans dbt opn ply hp9 wr) H ∧ va_D A (WX ad cI cZ c g hid code ans dbt opn ply hp9 wr) := ⟨0, u_635, lv_sub hl [3, 4, 5, 6, 7, 8, 9, 10, 11, 2, 1, 0] rfl, hinv, hP, hD⟩
    clear hl hinv hP hD
    obtain ⟨hl, hinv, hP, hD⟩ := hq9
    obtain ⟨n9_643, hn9⟩ : ∃ q : Nat, 14 - k4 < q := ⟨_, Nat.lt_succ_self _⟩
    induction n9_643 generalizing ls H locs k4 hp9 with
    | zero => exact absurd hn9 (Nat.not_lt_zero _)
    | succ n9_643 ih643 =>
      refine lv_iload hx hb dL_law_643 (lv_at hl 11 rfl) ?_
      refine lv_bipush (v := nI (14)) hx hb dL_law_645 (by decide) ?_
      refine x_ge (tgt := 819) hx hb dL_law_647 (by decide) (by omega) (by omega) (fun c647 => ?_) (fun c647 => ?_)
      · skip
        exact K hp9 H locs ls hP hD hS (lv_sub hl [0, 1, 2, 3, 4, 5, 6, 7, 8] rfl)
      · skip
        refine lv_iload hx hb dL_law_650 (lv_at hl 4 rfl) ?_
        refine lv_iconst (v := nI (2)) hx hb dL_law_652 (by decide) ?_
        refine lv_ishr hx hb dL_law_653 ?_
        refine lv_bipush (v := nI (11)) hx hb dL_law_654 (by decide) ?_
        refine lv_iload hx hb dL_law_656 (lv_at hl 11 rfl) ?_
        refine lv_imul hx hb dL_law_658 ?_
        refine x_ti (pk_mul _ _) ?_
        refine lv_iadd hx hb dL_law_659 ?_
        refine lv_iload hx hb dL_law_660 (lv_at hl 5 rfl) ?_
        refine x_csi (va_runS (As := [.int (((v) >>> ((nI (2)) &&& 31)) + (nI (11 * k4))), .int (nI (qq c))]) (rest := []) ⟨hx, hb, hml, hown, hts⟩ (c_L_below l D cI cZ cG cJ A (WX ad cI cZ c g hid code ans dbt opn ply hp9 wr) (((v) >>> ((nI (2)) &&& 31)) + (nI (11 * k4))) (qq c) (by omega) (by omega)) (va_cwS 2 hts gL_law_L_below rfl rfl rfl (by decide +kernel) ⟨Nat.le_of_ble_eq_true rfl, Nat.le_of_ble_eq_true rfl⟩) (preS hB hS hP hD) rfl rfl hl.1 rfl (lv_room (Nat.le_of_ble_eq_true rfl)) dL_law_662 ⟨by show _ ≤ 600130; omega, by show _ ≤ 7301080; omega⟩) ?_
        obtain ⟨cd, e_cd⟩ : ∃ q : Nat, q = bw (((v) >>> ((nI (2)) &&& 31)) + (nI (11 * k4))) (qq c) := ⟨_, rfl⟩
        have h_cd : cd < qq c := by rw [e_cd]; exact bw_lt _ (by omega)
        have hwf := worst_facts (a := cd) (sb := (opS c g code ans dbt)) hc h_cd (fun z _ h => op_lt2 h)
        have hw81 := gh_le81 c cd (opS c g code ans dbt)
        have hp21 := cN_le (fun x => decide (0 < hpN c cd (opS c g code ans dbt) x)) 21
        refine x_ti (y := nI (cd)) (by rw [e_cd]) ?_
        refine lv_istore (lv' := [(19, .int (nI (cd))), (0, .ref (b)), (1, .ref (ad 0)), (2, .ref (so)), (3, .int (nI (t))), (4, .int (v)), (5, .int (nI (qq c))), (6, .int (nI (g))), (7, .int (nI (cN (opS c g code ans dbt) 81))), (8, .long (dd)), (16, .int (nI (be))), (17, .int (nI (gh c be (opS c g code ans dbt)))), (18, .int (nI (k4)))]) hx hb dL_law_665 hl (by decide) rfl (fun ls hl => ?_)
        refine lv_aload_n hx hb dL_law_667 rfl (lv_at hl 2 rfl) ?_
        refine lv_iload hx hb dL_law_668 (lv_at hl 0 rfl) ?_
        refine va_calli (va_runV (As := [.int (nI (cd))]) (rest := []) ⟨hx, hb, hml, hown, hts⟩ (c_X1_worstP l D cI cZ cG cJ A ad wr hpal c g hid code ans dbt opn ply hp9 cd (hI) (h_cd)) (cwV 1 hts gL_law_X1_worst rfl rfl rfl (by decide +kernel) ⟨Nat.le_of_ble_eq_true rfl, Nat.le_of_ble_eq_true rfl⟩) (preV (ci := 1) (q0 := 0) hB hS hP hD rfl rfl) rfl rfl hl.1 rfl (lv_room (Nat.le_of_ble_eq_true rfl)) dL_law_670 ⟨by show _ ≤ 600130; omega, by show _ ≤ 7301080; omega⟩) hS (fun q _ h => h) (fun q h => h) (fun r_670 u_670 t9 H1 locs1 ht9 hvm9 hw_670 hBw hz9 hk9 hS => ?_)
        obtain ⟨hP, hD⟩ := hBw
        rw [ht9] at hP
        generalize H1 = H at hP hS ⊢
        generalize locs1 = locs at hS ⊢
        replace hP : va_P D vwCl (WX ad cI cZ c g hid code ans dbt opn ply u_670 wr) H := hP
        replace hD : va_D A (WX ad cI cZ c g hid code ans dbt opn ply u_670 wr) := hD
        refine x_ti (y := nI (gh c cd (opS c g code ans dbt))) (hw_670.1) ?_
        refine lv_istore (lv' := [(20, .int (nI (gh c cd (opS c g code ans dbt)))), (19, .int (nI (cd))), (0, .ref (b)), (1, .ref (ad 0)), (2, .ref (so)), (3, .int (nI (t))), (4, .int (v)), (5, .int (nI (qq c))), (6, .int (nI (g))), (7, .int (nI (cN (opS c g code ans dbt) 81))), (8, .long (dd)), (16, .int (nI (be))), (17, .int (nI (gh c be (opS c g code ans dbt)))), (18, .int (nI (k4)))]) hx hb dL_law_673 hl (by decide) rfl (fun ls hl => ?_)
        refine lv_aload_n hx hb dL_law_675 rfl (lv_at hl 3 rfl) ?_
        refine lv_iload hx hb dL_law_676 (lv_at hl 1 rfl) ?_
        refine va_calli (va_runV (As := [.int (nI (cd))]) (rest := []) ⟨hx, hb, hml, hown, hts⟩ (c_X1_partsP l D cI cZ cG cJ A ad wr hpal c g hid code ans dbt opn ply u_670 cd (hI) (h_cd)) (cwV 1 hts gL_law_X1_parts rfl rfl rfl (by decide +kernel) ⟨Nat.le_of_ble_eq_true rfl, Nat.le_of_ble_eq_true rfl⟩) (preV (ci := 1) (q0 := 0) hB hS hP hD rfl rfl) rfl rfl hl.1 rfl (lv_room (Nat.le_of_ble_eq_true rfl)) dL_law_678 ⟨by show _ ≤ 600130; omega, by show _ ≤ 7301080; omega⟩) hS (fun q _ h => h) (fun q h => h) (fun r_678 u_678 t9 H1 locs1 ht9 hvm9 hw_678 hBw hz9 hk9 hS => ?_)
        obtain ⟨hP, hD⟩ := hBw
        rw [ht9] at hP
        generalize H1 = H at hP hS ⊢
        generalize locs1 = locs at hS ⊢
        replace hP : va_P D vwCl (WX ad cI cZ c g hid code ans dbt opn ply u_678 wr) H := hP
        replace hD : va_D A (WX ad cI cZ c g hid code ans dbt opn ply u_678 wr) := hD
        refine x_ti (y := nI (cN (fun x => decide (0 < hpN c cd (opS c g code ans dbt) x)) 21)) (hw_678.1) ?_
        refine lv_istore (lv' := [(21, .int (nI (cN (fun x => decide (0 < hpN c cd (opS c g code ans dbt) x)) 21))), (20, .int (nI (gh c cd (opS c g code ans dbt)))), (19, .int (nI (cd))), (0, .ref (b)), (1, .ref (ad 0)), (2, .ref (so)), (3, .int (nI (t))), (4, .int (v)), (5, .int (nI (qq c))), (6, .int (nI (g))), (7, .int (nI (cN (opS c g code ans dbt) 81))), (8, .long (dd)), (16, .int (nI (be))), (17, .int (nI (gh c be (opS c g code ans dbt)))), (18, .int (nI (k4)))]) hx hb dL_law_681 hl (by decide) rfl (fun ls hl => ?_)
        refine lv_iload hx hb dL_law_683 (lv_at hl 1 rfl) ?_
        refine lv_iload hx hb dL_law_685 (lv_at hl 10 rfl) ?_
        refine x_gt (tgt := 796) hx hb dL_law_687 (by decide) (by omega) (by omega) (fun c687 => absurd c687 (by omega)) (fun c687 => ?_)
        refine lv_iload hx hb dL_law_690 (lv_at hl 1 rfl) ?_
        refine lv_iload hx hb dL_law_692 (lv_at hl 0 rfl) ?_
        refine lv_imul hx hb dL_law_694 ?_
        refine x_ti (pk_mul _ _) ?_
        refine lv_iload hx hb dL_law_695 (lv_at hl 10 rfl) ?_
        refine x_lt (tgt := 796) hx hb dL_law_697 (by decide) (Nat.lt_of_le_of_lt (Nat.mul_le_mul hw81 hp21) (by decide)) (by omega) (fun c697 => absurd c697 (Nat.not_lt.mpr hwf.2.1)) (fun c697 => ?_)
        refine lv_iload hx hb dL_law_700 (lv_at hl 0 rfl) ?_
        refine lv_iload hx hb dL_law_702 (lv_at hl 10 rfl) ?_
        refine x_gt (tgt := 796) hx hb dL_law_704 (by decide) (by omega) (by omega) (fun c704 => absurd c704 (Nat.not_lt.mpr hwf.2.2.1)) (fun c704 => ?_)
        refine lv_iload hx hb dL_law_707 (lv_at hl 1 rfl) ?_
        refine x_ne0 (tgt := 716) hx hb dL_law_709 (by decide) (by omega) (fun c709 => ?_) (fun c709 => absurd c709 (by have := hwf.2.2.2; omega))
        refine lv_iconst (v := nI (0)) hx hb dL_law_716 (by decide) ?_
        refine lv_iload hx hb dL_law_717 (lv_at hl 10 rfl) ?_
        refine x_ne0 (tgt := 726) hx hb dL_law_719 (by decide) (by omega) (fun c719 => ?_) (fun c719 => absurd c719 (by omega))
        refine lv_iconst (v := nI (0)) hx hb dL_law_726 (by decide) ?_
        refine x_ne (tgt := 796) hx hb dL_law_727 (by decide) (by omega) (by omega) (fun c727 => absurd c727 (fun q => q rfl)) (fun c727 => ?_)
        refine lv_iload hx hb dL_law_730 (lv_at hl 1 rfl) ?_
        refine lv_iload hx hb dL_law_732 (lv_at hl 13 rfl) ?_
        refine x_lt (tgt := 796) hx hb dL_law_734 (by decide) (by omega) (by omega) (fun c734 => absurd c734 (Nat.not_lt.mpr (hbm cd h_cd).1)) (fun c734 => ?_)
        refine lv_iload hx hb dL_law_737 (lv_at hl 1 rfl) ?_
        refine lv_iload hx hb dL_law_739 (lv_at hl 13 rfl) ?_
        refine x_join (g2 := F0 m 798 ls []) ?_ (fun hj798 => ?_)
        · skip
          refine lv_aload_n hx hb dL_law_798 rfl (lv_at hl 4 rfl) ?_
          refine lv_iload hx hb dL_law_799 (lv_at hl 2 rfl) ?_
          refine lv_iload hx hb dL_law_801 (lv_at hl 2 rfl) ?_
          refine x_csi (va_runV (As := [.int (nI (cd)), .int (nI (cd))]) (rest := []) ⟨hx, hb, hml, hown, hts⟩ (c_X1_pinsP l D cI cZ cG cJ A ad wr hpal c g hid code ans dbt opn ply u_678 cd cd (hI) (h_cd) (h_cd)) (cwV 2 hts gL_law_X1_pins rfl rfl rfl (by decide +kernel) ⟨Nat.le_of_ble_eq_true rfl, Nat.le_of_ble_eq_true rfl⟩) (preV (ci := 1) (q0 := 0) hB hS hP hD rfl rfl) rfl rfl hl.1 rfl (lv_room (Nat.le_of_ble_eq_true rfl)) dL_law_803 ⟨by show _ ≤ 600130; omega, by show _ ≤ 7301080; omega⟩) ?_
          refine x_ti (y := nI (20)) (by rw [(pins_tab hc h_cd h_cd).2.2.2]) ?_
          refine lv_bipush (v := nI (20)) hx hb dL_law_806 (by decide) ?_
          refine x_eq (tgt := 813) hx hb dL_law_808 (by decide) (by omega) (by omega) (fun c808 => ?_) (fun c808 => absurd c808 (fun q => q rfl))
          refine lv_iinc (v := nI (k4 + 1)) (lv' := [(18, .int (nI (k4 + 1))), (21, .int (nI (cN (fun x => decide (0 < hpN c cd (opS c g code ans dbt) x)) 21))), (20, .int (nI (gh c cd (opS c g code ans dbt)))), (19, .int (nI (cd))), (0, .ref (b)), (1, .ref (ad 0)), (2, .ref (so)), (3, .int (nI (t))), (4, .int (v)), (5, .int (nI (qq c))), (6, .int (nI (g))), (7, .int (nI (cN (opS c g code ans dbt) 81))), (8, .long (dd)), (16, .int (nI (be))), (17, .int (nI (gh c be (opS c g code ans dbt))))]) hx hb dL_law_813 hl (k := 14) rfl (nI_add _ _) (by decide) rfl (fun ls hl => ?_)
          refine lv_goto (tgt := 643) hx hb dL_law_816 (by decide) ?_
          exact ih643 (k4 := k4 + 1) (hp9 := u_678) (ls := ls) (hl := lv_sub hl [4, 5, 6, 7, 8, 9, 10, 11, 12, 13, 14, 0] rfl) (H := H) (locs := locs) (hP := hP) (hD := hD) (hS := hS) (hinv := by
              omega
            ) (hn9 := by
              omega
            )
        · skip
          refine x_join (g2 := F0 m 767 ls []) ?_ (fun hj767 => ?_)
          · skip
            refine lv_iload hx hb dL_law_767 (lv_at hl 1 rfl) ?_
            refine lv_iload hx hb dL_law_769 (lv_at hl 13 rfl) ?_
            refine x_ne (tgt := 798) hx hb dL_law_771 (by decide) (by omega) (by omega) (fun c771 => ?_) (fun c771 => ?_)
            · skip
              exact hj798
            · skip
              refine lv_iload hx hb dL_law_774 (lv_at hl 2 rfl) ?_
              refine lv_iload hx hb dL_law_776 (lv_at hl 12 rfl) ?_
              refine x_ge (tgt := 798) hx hb dL_law_778 (by decide) (by omega) (by omega) (fun c778 => ?_) (fun c778 => ?_)
              · skip
                exact hj798
              · skip
                refine lv_aload_n hx hb dL_law_781 rfl (lv_at hl 4 rfl) ?_
                refine lv_iload hx hb dL_law_782 (lv_at hl 2 rfl) ?_
                refine x_csi (va_runV (As := [.int (nI (cd))]) (rest := []) ⟨hx, hb, hml, hown, hts⟩ (c_X1_isPossibleP l D cI cZ cG cJ A ad wr hpal c g hid code ans dbt opn ply u_678 cd (hI) (h_cd)) (cwV 1 hts gL_law_X1_isPossible rfl rfl rfl (by decide +kernel) ⟨Nat.le_of_ble_eq_true rfl, Nat.le_of_ble_eq_true rfl⟩) (preV (ci := 1) (q0 := 0) hB hS hP hD rfl rfl) rfl rfl hl.1 rfl (lv_room (Nat.le_of_ble_eq_true rfl)) dL_law_784 ⟨by show _ ≤ 600130; omega, by show _ ≤ 7301080; omega⟩) ?_
                refine lv_aload_n hx hb dL_law_787 rfl (lv_at hl 4 rfl) ?_
                refine lv_iload hx hb dL_law_788 (lv_at hl 12 rfl) ?_
                refine x_csi (va_runV (As := [.int (nI (be))]) (rest := [.int (bI (opS c g code ans dbt cd))]) ⟨hx, hb, hml, hown, hts⟩ (c_X1_isPossibleP l D cI cZ cG cJ A ad wr hpal c g hid code ans dbt opn ply u_678 be (hI) (hbq)) (cwV 1 hts gL_law_X1_isPossible rfl rfl rfl (by decide +kernel) ⟨Nat.le_of_ble_eq_true rfl, Nat.le_of_ble_eq_true rfl⟩) (preV (ci := 1) (q0 := 0) hB hS hP hD rfl rfl) rfl rfl hl.1 rfl (lv_room (Nat.le_of_ble_eq_true rfl)) dL_law_790 ⟨by show _ ≤ 600130; omega, by show _ ≤ 7301080; omega⟩) ?_
                refine lv_icmp_ne (tgt := 798) hx hb dL_law_793 (by decide) (fun c793 => ?_) (fun c793 => absurd c793 (fun q => by have := (hbm cd h_cd).2.2 c771 (bI_inj.mp q); omega))
                exact hj798
          · skip
            refine x_ne (tgt := 767) hx hb dL_law_741 (by decide) (by omega) (by omega) (fun c741 => ?_) (fun c741 => ?_)
            · skip
              exact hj767
            · skip
              refine lv_iload hx hb dL_law_744 (lv_at hl 12 rfl) ?_
              refine x_lt0 (tgt := 767) hx hb dL_law_746 (by decide) (by omega) ?_
              refine lv_aload_n hx hb dL_law_749 rfl (lv_at hl 4 rfl) ?_
              refine lv_iload hx hb dL_law_750 (lv_at hl 12 rfl) ?_
              refine x_csi (va_runV (As := [.int (nI (be))]) (rest := []) ⟨hx, hb, hml, hown, hts⟩ (c_X1_isPossibleP l D cI cZ cG cJ A ad wr hpal c g hid code ans dbt opn ply u_678 be (hI) (hbq)) (cwV 1 hts gL_law_X1_isPossible rfl rfl rfl (by decide +kernel) ⟨Nat.le_of_ble_eq_true rfl, Nat.le_of_ble_eq_true rfl⟩) (preV (ci := 1) (q0 := 0) hB hS hP hD rfl rfl) rfl rfl hl.1 rfl (lv_room (Nat.le_of_ble_eq_true rfl)) dL_law_752 ⟨by show _ ≤ 600130; omega, by show _ ≤ 7301080; omega⟩) ?_
              refine x_zne (tgt := 767) hx hb dL_law_755 (by decide) (fun c755 => ?_) (fun c755 => ?_)
              · skip
                exact hj767
              · skip
                refine lv_aload_n hx hb dL_law_758 rfl (lv_at hl 4 rfl) ?_
                refine lv_iload hx hb dL_law_759 (lv_at hl 2 rfl) ?_
                refine x_csi (va_runV (As := [.int (nI (cd))]) (rest := []) ⟨hx, hb, hml, hown, hts⟩ (c_X1_isPossibleP l D cI cZ cG cJ A ad wr hpal c g hid code ans dbt opn ply u_678 cd (hI) (h_cd)) (cwV 1 hts gL_law_X1_isPossible rfl rfl rfl (by decide +kernel) ⟨Nat.le_of_ble_eq_true rfl, Nat.le_of_ble_eq_true rfl⟩) (preV (ci := 1) (q0 := 0) hB hS hP hD rfl rfl) rfl rfl hl.1 rfl (lv_room (Nat.le_of_ble_eq_true rfl)) dL_law_761 ⟨by show _ ≤ 600130; omega, by show _ ≤ 7301080; omega⟩) ?_
                refine x_zne (tgt := 796) hx hb dL_law_764 (by decide) (fun c764 => absurd c764 (fun q => by have := (hbm cd h_cd).2.1 c741 q; rw [c755] at this; cases this)) (fun c764 => ?_)
                exact hj767
