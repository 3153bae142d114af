set_option maxHeartbeats 40000000 in
set_option maxRecDepth 100000 in
theorem law_loop {p : Program} {l : Launch} {e : Env} {s : State} {m : MethodId} {below : List Frame} {meth : Method} {c9 : Code} (hfl : l.flags = flags0) {D : va_G} {cI cZ cG cJ : ClassId} {A : Nat → Prop} {ad : Nat → Nat} {so : Nat} {b L : Nat} {xs : Nat → Int32} (hL : L ≤ 260) (C0 : lw_At p s m meth c9 b L xs) (hB : Bs D (TY cI cZ cG cJ) A s) (hAf : ∀ q, A q → s.heap.size ≤ q) {c g : Nat} {hid : Int32} {code ans : Nat → Nat} {dbt opn ply : Nat → Bool} {hps : Nat → Nat} {wr : va_W} (hG : LG cI cG ad so (c, g, hid, code, ans, dbt, opn, ply, hps, wr)) {H : Heap} {locs : List Loc} (hP : va_P D vwCl (WX ad cI cZ c g hid code ans dbt opn ply hps wr) H) (hD : va_D A (WX ad cI cZ c g hid code ans dbt opn ply hps wr)) (hS : va_S A s.heap H locs) {ls : Array Slot} (hl : lv_has ls 25 [(0, .ref (b)), (1, .ref (ad 0)), (2, .ref (so)), (3, .int (nI (0)))]) {nc ns : Nat} (hnc : nc ≤ 31000) (hns : ns ≤ 140000) : W p l e room_1 s m #[Value.ref b] below meth c9 H locs nc ns (lw_Z below #[Value.ref b] s) (F0 m 22 ls []) := by
  obtain ⟨hx, hb, hr, hml, hown, hts0, hX, hbl, hlocks, hgv⟩ := id C0
  have hown : s.vm.findClass RL = some m.cls := hown
  have hb : c9.code = cL_law := hb
  have hts : ∀ w ∈ wsL_law, w.before #[Value.ref b] s = true := fun w h => hts0 w (wsL_law_in w h)
  have hK := hB.1
  have hbA : ¬ A b := fun q => absurd (hAf b q) (Nat.not_le.mpr hbl)
  -- loop at 22
  have hinv : 0 ≤ 10 ∧ LG cI cG ad so (c, g, hid, code, ans, dbt, opn, ply, hps, wr) ∧ nc ≤ 31000 + 2200 * 0 ∧ ns ≤ 140000 + 8700 * 0 := by
    exact ⟨Nat.zero_le _, hG, by omega, by omega⟩
  obtain ⟨t, c, g, hid, code, ans, dbt, opn, ply, hps, wr, hq9⟩ : ∃ (t : Nat) (c : Nat) (g : Nat) (hid : Int32) (code : Nat → Nat) (ans : Nat → Nat) (dbt : Nat → Bool) (opn : Nat → Bool) (ply : Nat → Bool) (hps : Nat → Nat) (wr : va_W), lv_has ls 25 [(0, .ref (b)), (1, .ref (ad 0)), (2, .ref (so)), (3, .int (nI (t)))] ∧ (t ≤ 10 ∧ LG cI cG ad so (c, g, hid, code, ans, dbt, opn, ply, hps, wr) ∧ nc ≤ 31000 + 2200 * t ∧ ns ≤ 140000 + 8700 * t) ∧ va_P D vwCl (WX ad cI cZ c g hid code ans dbt opn ply hps wr) H ∧ va_D A (WX ad cI cZ c g hid code ans dbt opn ply hps wr) := ⟨0, c, g, hid, code, ans, dbt, opn, ply, hps, wr, lv_sub hl [0, 1, 2, 3] rfl, hinv, hP, hD⟩
  clear hl hinv hP hD
  obtain ⟨hl, hinv, hP, hD⟩ := hq9
  clear hG hnc hns
  obtain ⟨n9_22, hn9⟩ : ∃ q : Nat, 10 - t < q := ⟨_, Nat.lt_succ_self _⟩
  induction n9_22 generalizing ls H locs nc ns t c g hid code ans dbt opn ply hps wr with
  | zero => exact absurd hn9 (Nat.not_lt_zero _)
  | succ n9_22 ih22 =>
    obtain ⟨h1, hG, h2, h3⟩ := hinv
    refine lv_iload_n hx hb dL_law_22 rfl (lv_at hl 3 rfl) ?_
    refine lv_bipush (v := nI (10)) hx hb dL_law_23 (by decide) ?_
    refine x_ge (tgt := 1053) hx hb dL_law_25 (by decide) (by omega) (by omega) (fun c25 => ?_) (fun c25 => ?_)
    · skip
      refine lv_aload_n hx hb dL_law_1053 rfl (lv_at hl 2 rfl) ?_
      refine lv_aload_n hx hb dL_law_1054 rfl (lv_at hl 1 rfl) ?_
      obtain ⟨ga, ks, kg, ra, kr, M, hF⟩ := hG.2.2.1
      refine va_calli (va_runV (As := [.ref (ad 0)]) (rest := []) ⟨hx, hb, hml, hown, hts⟩ (c_X2_isSame l D cI cZ cG cJ A ad so c g hid code ans dbt opn ply hps wr (hG)) (cwV 1 hts gL_law_X2_isSame rfl rfl rfl (by decide +kernel) ⟨Nat.le_of_ble_eq_true rfl, Nat.le_of_ble_eq_true rfl⟩) (preV (ci := 2) (q0 := ks + 7) hB hS hP hD (atWX hF.1) rfl) rfl rfl hl.1 rfl (lv_room (Nat.le_of_ble_eq_true rfl)) dL_law_1055 ⟨by show _ ≤ 600130; omega, by show _ ≤ 7301080; omega⟩) hS (fun q _ h => h) (fun q h => h) (fun r_1055 u_1055 t9 H1 locs1 ht9 hvm9 hw_1055 hBw hz9 hk9 hS => ?_)
      obtain ⟨hP, hD⟩ := hBw
      rw [ht9] at hP
      generalize H1 = H at hP hS ⊢
      generalize locs1 = locs at hS ⊢
      refine x_ti (y := bI (true)) (hw_1055.1) ?_
      refine va_forget (fun q hq => hAf _ (hS.2.2 q hq)) (W.widen (k := 600130) (n := 7301080) (by omega) (by omega) (lw_ret (d0 := s.drawn) (Drawn.sameBut.refl s.drawn lw_cs) hx hb hr hlocks dL_law_1058))
    · skip
      refine lv_aload_n hx hb dL_law_28 rfl (lv_at hl 0 rfl) ?_
      refine lv_iconst (v := nI (3)) hx hb dL_law_29 (by decide) ?_
      refine lv_iload_n hx hb dL_law_30 rfl (lv_at hl 3 rfl) ?_
      refine lv_iadd hx hb dL_law_31 ?_
      refine x_ti (nI_add _ _) ?_
      refine x_csi (va_runS (As := [.ref (b), .int (nI (3 + t))]) (rest := []) ⟨hx, hb, hml, hown, hts⟩ (c_L_cell l D cI cZ cG cJ A (WX ad cI cZ c g hid code ans dbt opn ply hps wr) b L xs (3 + t) (hL) (by omega)) (va_cwS 2 hts gL_law_L_cell rfl rfl rfl (by decide +kernel) ⟨Nat.le_of_ble_eq_true rfl, Nat.le_of_ble_eq_true rfl⟩) (preSX hB hS hP hD hX hbl hbA) rfl rfl hl.1 rfl (lv_room (Nat.le_of_ble_eq_true rfl)) dL_law_32 ⟨by show _ ≤ 600130; omega, by show _ ≤ 7301080; omega⟩) ?_
      refine lv_iconst (v := nI (1)) hx hb dL_law_35 (by decide) ?_
      refine lv_ishr hx hb dL_law_36 ?_
      refine lv_sipush (v := nI (263)) hx hb dL_law_37 (by decide) ?_
      refine lv_iload_n hx hb dL_law_40 rfl (lv_at hl 3 rfl) ?_
      refine lv_imul hx hb dL_law_41 ?_
      refine x_ti (pk_mul _ _) ?_
      refine lv_iadd hx hb dL_law_42 ?_
      obtain ⟨v, hv9⟩ : ∃ q : Int32, q = ((cel xs L (3 + t)) >>> ((nI (1)) &&& 31)) + (nI (263 * t)) := ⟨_, rfl⟩
      refine x_ti (y := v) (by rw [hv9]) ?_
      refine lv_istore (lv' := [(4, .int (v)), (0, .ref (b)), (1, .ref (ad 0)), (2, .ref (so)), (3, .int (nI (t)))]) hx hb dL_law_43 hl (by decide) rfl (fun ls hl => ?_)
      refine lv_aload_n hx hb dL_law_45 rfl (lv_at hl 2 rfl) ?_
      refine lv_aload_n hx hb dL_law_46 rfl (lv_at hl 3 rfl) ?_
      refine lv_iload hx hb dL_law_47 (lv_at hl 0 rfl) ?_
      refine va_calli (vx_runSW (As := [.ref (ad 0), .ref (so), .int (v)]) (rest := []) ⟨hx, hb, hml, hown, hts⟩ (c_L_act l hfl D cI cZ cG cJ A ad so c g hid code ans dbt opn ply hps wr v (hG)) (vx_cwSW 3 hts gL_law_L_act rfl rfl rfl (by decide +kernel) ⟨Nat.le_of_ble_eq_true rfl, Nat.le_of_ble_eq_true rfl⟩) (preS hB hS hP hD) rfl rfl hl.1 rfl (lv_room (Nat.le_of_ble_eq_true rfl)) dL_law_49 ⟨by show _ ≤ 600130; omega, by show _ ≤ 7301080; omega⟩) hS (fun q _ h => h) (fun q h => h) (fun r_49 u_49 t9 H1 locs1 ht9 hvm9 hw_49 hBw hz9 hk9 hS => ?_)
      obtain ⟨hP, hD⟩ := hBw
      rw [ht9] at hP
      generalize H1 = H at hP hS ⊢
      generalize locs1 = locs at hS ⊢
      obtain ⟨c2, g2, hid2, code2, ans2, dbt2, opn2, ply2, hps2, wr2⟩ := u_49
      have hG9 := hw_49.2
      have hcc := hG9.2.1.1
      replace hP : va_P D vwCl (WX ad cI cZ c2 g2 hid2 code2 ans2 dbt2 opn2 ply2 hps2 wr2) H := hP
      replace hD : va_D A (WX ad cI cZ c2 g2 hid2 code2 ans2 dbt2 opn2 ply2 hps2 wr2) := hD
      refine x_ti (y := bI (true)) (hw_49.1) ?_
      refine x_zne (tgt := 57) hx hb dL_law_52 (by decide) (fun c52 => ?_) (fun c52 => absurd c52 (by decide))
      refine law_body hfl hL C0 hB hAf hG9 hP hD hS (lv_sub hl [1, 2, 3, 4, 0] rfl) (by omega) (by omega) (fun code3 ans3 dbt3 opn3 ply3 hps3 H locs ls hG3 hP hD hS hl => ?_)
      refine lv_iinc (v := nI (t + 1)) (lv' := [(3, .int (nI (t + 1))), (0, .ref (b)), (1, .ref (ad 0)), (2, .ref (so)), (4, .int (v))]) hx hb dL_law_1047 hl (k := 3) rfl (nI_add _ _) (by decide) rfl (fun ls hl => ?_)
      refine lv_goto (tgt := 22) hx hb dL_law_1050 (by decide) ?_
      exact ih22 (t := t + 1) (c := c2) (g := g2) (hid := hid2) (code := code3) (ans := ans3) (dbt := dbt3) (opn := opn3) (ply := ply3) (hps := hps3) (wr := wr2) (nc := _) (ns := _) (ls := ls) (hl := lv_sub hl [1, 2, 3, 0] rfl) (H := H) (locs := locs) (hP := hP) (hD := hD) (hS := hS) (hinv := by
          exact ⟨by omega, hG3, by omega, by omega⟩
        ) (hn9 := by
          omega
        )
