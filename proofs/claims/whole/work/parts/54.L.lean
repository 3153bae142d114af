set_option maxHeartbeats 4000000 in
set_option maxRecDepth 100000 in
theorem c_L_setColours (l : Launch) (hfl : l.flags = flags0) (D : va_G) (cI cZ cG cJ : ClassId) (A : Nat → Prop) (ad : Nat → Nat) (ao : Nat) (wr2 : va_W) (hpal : Pals cI cG ad wr2) (c : Nat) (g : Nat) (hid : Int32) (code : Nat → Nat) (ans : Nat → Nat) (dbt : Nat → Bool) (opn : Nat → Bool) (ply : Nat → Bool) (hps : Nat → Nat) (ov : Nat → Int64) (v : Int32) (hI : XI c g hid code ans dbt opn) : Met l yL_setColours wsL_setColours ({ frames := 7, cells := 1, slots := 6, locals := 109 }) (va_Pc [.ref (ad 0), .int (v), .ref (ao)] (Iv D (TY cI cZ cG cJ) A (WX ad cI cZ c g hid code ans dbt opn ply hps (OL ao cJ ov :: wr2)))) (va_Qi (fun r (u : XSt × (Nat → Int64)) => (r = nI 0 ∧ ∃ (ρ9 : Int32) (w9 : Nat × (Nat → Bool)), (ρ9 = nI c ∧ ((w9.1 = 2 ∨ w9.1 = 3) ∧ v = nI w9.1) ∧ ∀ k, k < 81 → w9.2 k = opS w9.1 0 code ans dbt k) ∧ u.1 = (w9.1, 0, (-1), code, ans, dbt, w9.2, ply, hps) ∧ u.2 0 = ρ9.toInt64) ∨ (r = nI 1 ∧ (¬ v = 2 ∧ ¬ v = 3) ∧ u.1 = (c, g, hid, code, ans, dbt, opn, ply, hps))) (fun u => Wd D A (WX ad cI cZ u.1.1 u.1.2.1 u.1.2.2.1 u.1.2.2.2.1 u.1.2.2.2.2.1 u.1.2.2.2.2.2.1 u.1.2.2.2.2.2.2.1 u.1.2.2.2.2.2.2.2.1 u.1.2.2.2.2.2.2.2.2 (OL ao cJ u.2 :: wr2))) A) 1 6 A := by
  refine va_MetW (cc := cL_setColours) (maxL := 4) (ret := (some .int)) (by decide) rfl ?_
  intro p e s m args below meth c9 s₁ B hml hv
  obtain ⟨rfl, hP, hD, hB⟩ := hv
  have hK := hB.1
  have hA := hB.2.1
  have hx := B.exec
  have hb := B.bytes
  have hr := B.returns
  have hts := atoms_spec (ws := wsL_setColours) B.pre
  have hown : s.vm.findClass RL = some m.cls := findClass_of_methodNamed B.named
  have hlocks := B.notSynchronized
  have hS : va_S A s.heap s.heap [] := va_S.rf
  have htab := vx_table (x := yL_setColours) B (hts _ List.mem_cons_self)
  have hl := lv_entry ([.ref (ad 0), .int (v), .ref (ao)]) (n := 4) (Nat.le_of_ble_eq_true rfl)
  rw [lg_entry_eq]
  generalize (lg_sl ([.ref (ad 0), .int (v), .ref (ao)]) ++ List.replicate (4 - (lg_sl ([.ref (ad 0), .int (v), .ref (ao)])).length) Slot.unset).toArray = ls at hl ⊢
  have hl : lv_has ls 4 [(0, .ref (ad 0)), (1, .int (v)), (2, .ref (ao))] := hl
  obtain ⟨H, eH⟩ : ∃ q, q = s.heap := ⟨_, rfl⟩
  obtain ⟨locs, eL⟩ : ∃ q : List Loc, q = [] := ⟨_, rfl⟩
  replace hP : va_P D vwCl (WX ad cI cZ c g hid code ans dbt opn ply hps (OL ao cJ ov :: wr2)) H := by rw [eH]; exact hP
  replace hS : va_S A s.heap H locs := by rw [eH, eL]; exact hS
  rw [show W p l e _ s m _ below meth c9 s.heap [] = W p l e _ s m _ below meth c9 H locs from by rw [eH, eL]]
  clear eH eL
  refine lv_aload_n hx hb dL_setColours_0 rfl (lv_at hl 2 rfl) ?_
  refine lv_iconst (v := nI (0)) hx hb dL_setColours_1 (by decide) ?_
  refine lv_aload_n hx hb dL_setColours_2 rfl (lv_at hl 0 rfl) ?_
  refine lv_iload_n hx hb dL_setColours_3 rfl (lv_at hl 1 rfl) ?_
  refine vx_calli (vx_runV (As := [.int (v)]) (rest := [.int (nI (0)), .ref (ao)]) ⟨hx, hb, hml, hown, hts⟩ (c_X1_setColours l hfl D cI cZ cG cJ A ad (OL ao cJ ov :: wr2) (pal_up hpal) c g hid code ans dbt opn ply hps v (hI)) (cwV 1 hts gL_setColours_X1_setColours rfl rfl rfl (by decide +kernel) ⟨Nat.le_of_ble_eq_true rfl, Nat.le_of_ble_eq_true rfl⟩) (preV (ci := 1) (q0 := 0) hB hS hP hD rfl rfl) rfl rfl hl.1 rfl (lv_room (Nat.le_of_ble_eq_true rfl)) dL_setColours_4 ⟨Nat.le_of_ble_eq_true rfl, Nat.le_of_ble_eq_true rfl⟩) hS (fun q _ h => h) (fun q h => h) (fun q _ h => h) (fun E ce q9 u9 t9 H1 locs1 ht9 hvm9 hpx8 hBx hz9 hk9 hS hq9 hv9 hcl9 => ?_) (fun r_4 u_4 t9 H1 locs1 ht9 hvm9 hw_4 hBw hz9 hk9 hS => ?_)
  · obtain ⟨hpx9, hP1, hD1⟩ := hBx
    rw [ht9] at hP1
    rcases hpx9 with ⟨rfl, hc9⟩
    · refine L_catch0 hown htab (by decide) (by decide) (hts _ (by decide +kernel)) (va_Nw.use rfl (hB.2.2.2.2.1 _ (by simp [Nws]))) hq9 hv9 hcl9 ?_
      replace hP := hP1; replace hD := hD1
      clear hP1 hD1
      generalize H1 = H at hP hS ⊢
      generalize locs1 = locs at hS ⊢
      refine lv_astore_n (lv' := [(3, .ref (q9)), (0, .ref (ad 0)), (1, .int (v)), (2, .ref (ao))]) hx hb dL_setColours_12 rfl hl (by decide) rfl (fun ls hl => ?_)
      refine lv_iconst (v := nI (1)) hx hb dL_setColours_13 (by decide) ?_
      exact W.iret (v := nI (1)) hx hb hr (fun t ht hW => ⟨⟨_, ((c, g, hid, code, ans, dbt, opn, ply, hps), ov), rfl, (by
          exact Or.inr ⟨rfl, hc9, rfl⟩), ⟨by rw [ht]; exact hP, hD⟩⟩, hS.F ht⟩) hS.2.2 dL_setColours_14
  obtain ⟨hP, hD⟩ := hBw
  rw [ht9] at hP
  generalize H1 = H at hP hS ⊢
  generalize locs1 = locs at hS ⊢
  replace hP : va_P D vwCl (WX ad cI cZ u_4.1 0 (-1) code ans dbt u_4.2 ply hps (OL ao cJ ov :: wr2)) H := hP
  replace hD : va_D A (WX ad cI cZ u_4.1 0 (-1) code ans dbt u_4.2 ply hps (OL ao cJ ov :: wr2)) := hD
  refine lv_i2l hx hb dL_setColours_7 rfl ?_
  refine va_last hx hb hK hP hD hS 7 3 rfl rfl (vp_in_nI (n := 0) (N := 1) (by decide) (by decide)) dL_setColours_8 (fun H locs hP hD hS => ?_)
  replace hP : va_P D vwCl (WX ad cI cZ u_4.1 0 (-1) code ans dbt u_4.2 ply hps (OL ao cJ (vp_updL ov (nI 0).toNatClampNeg ((r_4).toInt64)) :: wr2)) H := hP
  replace hD : va_D A (WX ad cI cZ u_4.1 0 (-1) code ans dbt u_4.2 ply hps (OL ao cJ (vp_updL ov (nI 0).toNatClampNeg ((r_4).toInt64)) :: wr2)) := hD
  refine lv_goto (tgt := 15) hx hb dL_setColours_9 (by decide) ?_
  refine lv_iconst (v := nI (0)) hx hb dL_setColours_15 (by decide) ?_
  exact W.iret (v := nI (0)) hx hb hr (fun t ht hW => ⟨⟨_, ((u_4.1, 0, (-1), code, ans, dbt, u_4.2, ply, hps), (vp_updL ov (nI 0).toNatClampNeg ((r_4).toInt64))), rfl, (by
      exact Or.inl ⟨rfl, r_4, u_4, hw_4, rfl, ov_0 (f := ov)⟩), ⟨by rw [ht]; exact hP, hD⟩⟩, hS.F ht⟩) hS.2.2 dL_setColours_16

set_option maxHeartbeats 4000000 in
set_option maxRecDepth 100000 in
theorem c_L_hide (l : Launch) (hfl : l.flags = flags0) (D : va_G) (cI cZ cG cJ : ClassId) (A : Nat → Prop) (ad : Nat → Nat) (ao : Nat) (wr2 : va_W) (hpal : Pals cI cG ad wr2) (c : Nat) (g : Nat) (hid : Int32) (code : Nat → Nat) (ans : Nat → Nat) (dbt : Nat → Bool) (opn : Nat → Bool) (ply : Nat → Bool) (hps : Nat → Nat) (ov : Nat → Int64) (v : Int32) (hI : XI c g hid code ans dbt opn) : Met l yL_hide wsL_hide ({ frames := 8, cells := 1, slots := 6, locals := 125 }) (va_Pc [.ref (ad 0), .int (v), .ref (ao)] (Iv D (TY cI cZ cG cJ) A (WX ad cI cZ c g hid code ans dbt opn ply hps (OL ao cJ ov :: wr2)))) (va_Qi (fun r (u : XSt × (Nat → Int64)) => (r = nI 0 ∧ ∃ (ρ9 : Int32) (w9 : Unit), (ρ9 = hid ∧ hasC c v = true) ∧ u.1 = (c, g, v, code, ans, dbt, opn, ply, hps) ∧ u.2 0 = ρ9.toInt64) ∨ (r = nI 1 ∧ (hasC c v = false) ∧ u.1 = (c, g, hid, code, ans, dbt, opn, ply, hps))) (fun u => Wd D A (WX ad cI cZ u.1.1 u.1.2.1 u.1.2.2.1 u.1.2.2.2.1 u.1.2.2.2.2.1 u.1.2.2.2.2.2.1 u.1.2.2.2.2.2.2.1 u.1.2.2.2.2.2.2.2.1 u.1.2.2.2.2.2.2.2.2 (OL ao cJ u.2 :: wr2))) A) 1 6 A := by
  refine va_MetW (cc := cL_hide) (maxL := 4) (ret := (some .int)) (by decide) rfl ?_
  intro p e s m args below meth c9 s₁ B hml hv
  obtain ⟨rfl, hP, hD, hB⟩ := hv
  have hK := hB.1
  have hA := hB.2.1
  have hx := B.exec
  have hb := B.bytes
  have hr := B.returns
  have hts := atoms_spec (ws := wsL_hide) B.pre
  have hown : s.vm.findClass RL = some m.cls := findClass_of_methodNamed B.named
  have hlocks := B.notSynchronized
  have hS : va_S A s.heap s.heap [] := va_S.rf
  have htab := vx_table (x := yL_hide) B (hts _ List.mem_cons_self)
  have hl := lv_entry ([.ref (ad 0), .int (v), .ref (ao)]) (n := 4) (Nat.le_of_ble_eq_true rfl)
  rw [lg_entry_eq]
  generalize (lg_sl ([.ref (ad 0), .int (v), .ref (ao)]) ++ List.replicate (4 - (lg_sl ([.ref (ad 0), .int (v), .ref (ao)])).length) Slot.unset).toArray = ls at hl ⊢
  have hl : lv_has ls 4 [(0, .ref (ad 0)), (1, .int (v)), (2, .ref (ao))] := hl
  obtain ⟨H, eH⟩ : ∃ q, q = s.heap := ⟨_, rfl⟩
  obtain ⟨locs, eL⟩ : ∃ q : List Loc, q = [] := ⟨_, rfl⟩
  replace hP : va_P D vwCl (WX ad cI cZ c g hid code ans dbt opn ply hps (OL ao cJ ov :: wr2)) H := by rw [eH]; exact hP
  replace hS : va_S A s.heap H locs := by rw [eH, eL]; exact hS
  rw [show W p l e _ s m _ below meth c9 s.heap [] = W p l e _ s m _ below meth c9 H locs from by rw [eH, eL]]
  clear eH eL
  refine lv_aload_n hx hb dL_hide_0 rfl (lv_at hl 2 rfl) ?_
  refine lv_iconst (v := nI (0)) hx hb dL_hide_1 (by decide) ?_
  refine lv_aload_n hx hb dL_hide_2 rfl (lv_at hl 0 rfl) ?_
  refine lv_iload_n hx hb dL_hide_3 rfl (lv_at hl 1 rfl) ?_
  refine vx_calli (vx_runV (As := [.int (v)]) (rest := [.int (nI (0)), .ref (ao)]) ⟨hx, hb, hml, hown, hts⟩ (c_X1_hide l hfl D cI cZ cG cJ A ad (OL ao cJ ov :: wr2) (pal_up hpal) c g hid code ans dbt opn ply hps v (hI)) (cwV 1 hts gL_hide_X1_hide rfl rfl rfl (by decide +kernel) ⟨Nat.le_of_ble_eq_true rfl, Nat.le_of_ble_eq_true rfl⟩) (preV (ci := 1) (q0 := 0) hB hS hP hD rfl rfl) rfl rfl hl.1 rfl (lv_room (Nat.le_of_ble_eq_true rfl)) dL_hide_4 ⟨Nat.le_of_ble_eq_true rfl, Nat.le_of_ble_eq_true rfl⟩) hS (fun q _ h => h) (fun q h => h) (fun q _ h => h) (fun E ce q9 u9 t9 H1 locs1 ht9 hvm9 hpx8 hBx hz9 hk9 hS hq9 hv9 hcl9 => ?_) (fun r_4 u_4 t9 H1 locs1 ht9 hvm9 hw_4 hBw hz9 hk9 hS => ?_)
  · obtain ⟨hpx9, hP1, hD1⟩ := hBx
    rw [ht9] at hP1
    rcases hpx9 with ⟨rfl, hc9⟩
    · refine L_catch0 hown htab (by decide) (by decide) (hts _ (by decide +kernel)) (va_Nw.use rfl (hB.2.2.2.2.1 _ (by simp [Nws]))) hq9 hv9 hcl9 ?_
      replace hP := hP1; replace hD := hD1
      clear hP1 hD1
      generalize H1 = H at hP hS ⊢
      generalize locs1 = locs at hS ⊢
      refine lv_astore_n (lv' := [(3, .ref (q9)), (0, .ref (ad 0)), (1, .int (v)), (2, .ref (ao))]) hx hb dL_hide_12 rfl hl (by decide) rfl (fun ls hl => ?_)
      refine lv_iconst (v := nI (1)) hx hb dL_hide_13 (by decide) ?_
      exact W.iret (v := nI (1)) hx hb hr (fun t ht hW => ⟨⟨_, ((c, g, hid, code, ans, dbt, opn, ply, hps), ov), rfl, (by
          exact Or.inr ⟨rfl, hc9, rfl⟩), ⟨by rw [ht]; exact hP, hD⟩⟩, hS.F ht⟩) hS.2.2 dL_hide_14
  obtain ⟨hP, hD⟩ := hBw
  rw [ht9] at hP
  generalize H1 = H at hP hS ⊢
  generalize locs1 = locs at hS ⊢
  replace hP : va_P D vwCl (WX ad cI cZ c g v code ans dbt opn ply hps (OL ao cJ ov :: wr2)) H := hP
  replace hD : va_D A (WX ad cI cZ c g v code ans dbt opn ply hps (OL ao cJ ov :: wr2)) := hD
  refine lv_i2l hx hb dL_hide_7 rfl ?_
  refine va_last hx hb hK hP hD hS 7 3 rfl rfl (vp_in_nI (n := 0) (N := 1) (by decide) (by decide)) dL_hide_8 (fun H locs hP hD hS => ?_)
  replace hP : va_P D vwCl (WX ad cI cZ c g v code ans dbt opn ply hps (OL ao cJ (vp_updL ov (nI 0).toNatClampNeg ((r_4).toInt64)) :: wr2)) H := hP
  replace hD : va_D A (WX ad cI cZ c g v code ans dbt opn ply hps (OL ao cJ (vp_updL ov (nI 0).toNatClampNeg ((r_4).toInt64)) :: wr2)) := hD
  refine lv_goto (tgt := 15) hx hb dL_hide_9 (by decide) ?_
  refine lv_iconst (v := nI (0)) hx hb dL_hide_15 (by decide) ?_
  exact W.iret (v := nI (0)) hx hb hr (fun t ht hW => ⟨⟨_, ((c, g, v, code, ans, dbt, opn, ply, hps), (vp_updL ov (nI 0).toNatClampNeg ((r_4).toInt64))), rfl, (by
      exact Or.inl ⟨rfl, r_4, u_4, hw_4, rfl, ov_0 (f := ov)⟩), ⟨by rw [ht]; exact hP, hD⟩⟩, hS.F ht⟩) hS.2.2 dL_hide_16

set_option maxHeartbeats 4000000 in
set_option maxRecDepth 100000 in
theorem c_L_swap (l : Launch) (hfl : l.flags = flags0) (D : va_G) (cI cZ cG cJ : ClassId) (A : Nat → Prop) (ad : Nat → Nat) (ao : Nat) (wr2 : va_W) (hpal : Pals cI cG ad wr2) (c : Nat) (g : Nat) (hid : Int32) (code : Nat → Nat) (ans : Nat → Nat) (dbt : Nat → Bool) (opn : Nat → Bool) (ply : Nat → Bool) (hps : Nat → Nat) (ov : Nat → Int64) (a : Int32) (b : Int32) (hI : XI c g hid code ans dbt opn) : Met l yL_swap wsL_swap ({ frames := 8, cells := 3, slots := 18, locals := 127 }) (va_Pc [.ref (ad 0), .int (a), .int (b), .ref (ao)] (Iv D (TY cI cZ cG cJ) A (WX ad cI cZ c g hid code ans dbt opn ply hps (OL ao cJ ov :: wr2)))) (va_Qi (fun r (u : XSt × (Nat → Int64)) => (r = nI 0 ∧ ∃ (ρ9 : Int32) (w9 : Int32), (ρ9 = w9 ∧ ∃ h pa pb : Nat, h < qq c ∧ pa < 4 ∧ pb < 4 ∧ hid = nI h ∧ a = nI pa ∧ b = nI pb ∧ w9 = nI (swF c h pa pb 4)) ∧ u.1 = (c, g, w9, code, ans, dbt, opn, ply, hps) ∧ u.2 0 = ρ9.toInt64) ∨ (r = nI 1 ∧ (plC a = false ∨ plC b = false) ∧ u.1 = (c, g, hid, code, ans, dbt, opn, ply, hps)) ∨ (r = nI 2 ∧ (plC a = true ∧ plC b = true ∧ hid = -1) ∧ u.1 = (c, g, hid, code, ans, dbt, opn, ply, hps))) (fun u => Wd D A (WX ad cI cZ u.1.1 u.1.2.1 u.1.2.2.1 u.1.2.2.2.1 u.1.2.2.2.2.1 u.1.2.2.2.2.2.1 u.1.2.2.2.2.2.2.1 u.1.2.2.2.2.2.2.2.1 u.1.2.2.2.2.2.2.2.2 (OL ao cJ u.2 :: wr2))) A) 3 18 A := by
  refine va_MetW (cc := cL_swap) (maxL := 5) (ret := (some .int)) (by decide) rfl ?_
  intro p e s m args below meth c9 s₁ B hml hv
  obtain ⟨rfl, hP, hD, hB⟩ := hv
  have hK := hB.1
  have hA := hB.2.1
  have hx := B.exec
  have hb := B.bytes
  have hr := B.returns
  have hts := atoms_spec (ws := wsL_swap) B.pre
  have hown : s.vm.findClass RL = some m.cls := findClass_of_methodNamed B.named
  have hlocks := B.notSynchronized
  have hS : va_S A s.heap s.heap [] := va_S.rf
  have htab := vx_table (x := yL_swap) B (hts _ List.mem_cons_self)
  have hl := lv_entry ([.ref (ad 0), .int (a), .int (b), .ref (ao)]) (n := 5) (Nat.le_of_ble_eq_true rfl)
  rw [lg_entry_eq]
  generalize (lg_sl ([.ref (ad 0), .int (a), .int (b), .ref (ao)]) ++ List.replicate (5 - (lg_sl ([.ref (ad 0), .int (a), .int (b), .ref (ao)])).length) Slot.unset).toArray = ls at hl ⊢
  have hl : lv_has ls 5 [(0, .ref (ad 0)), (1, .int (a)), (2, .int (b)), (3, .ref (ao))] := hl
  obtain ⟨H, eH⟩ : ∃ q, q = s.heap := ⟨_, rfl⟩
  obtain ⟨locs, eL⟩ : ∃ q : List Loc, q = [] := ⟨_, rfl⟩
  replace hP : va_P D vwCl (WX ad cI cZ c g hid code ans dbt opn ply hps (OL ao cJ ov :: wr2)) H := by rw [eH]; exact hP
  replace hS : va_S A s.heap H locs := by rw [eH, eL]; exact hS
  rw [show W p l e _ s m _ below meth c9 s.heap [] = W p l e _ s m _ below meth c9 H locs from by rw [eH, eL]]
  clear eH eL
  refine lv_aload_n hx hb dL_swap_0 rfl (lv_at hl 3 rfl) ?_
  refine lv_iconst (v := nI (0)) hx hb dL_swap_1 (by decide) ?_
  refine lv_aload_n hx hb dL_swap_2 rfl (lv_at hl 0 rfl) ?_
  refine lv_iload_n hx hb dL_swap_3 rfl (lv_at hl 1 rfl) ?_
  refine lv_iload_n hx hb dL_swap_4 rfl (lv_at hl 2 rfl) ?_
  refine vx_calli (vx_runV (As := [.int (a), .int (b)]) (rest := [.int (nI (0)), .ref (ao)]) ⟨hx, hb, hml, hown, hts⟩ (c_X1_swap l hfl D cI cZ cG cJ A ad (OL ao cJ ov :: wr2) (pal_up hpal) c g hid code ans dbt opn ply hps a b (hI)) (cwV 2 hts gL_swap_X1_swap rfl rfl rfl (by decide +kernel) ⟨Nat.le_of_ble_eq_true rfl, Nat.le_of_ble_eq_true rfl⟩) (preV (ci := 1) (q0 := 0) hB hS hP hD rfl rfl) rfl rfl hl.1 rfl (lv_room (Nat.le_of_ble_eq_true rfl)) dL_swap_5 ⟨Nat.le_of_ble_eq_true rfl, Nat.le_of_ble_eq_true rfl⟩) hS (fun q _ h => h) (fun q h => h) (fun q _ h => h) (fun E ce q9 u9 t9 H1 locs1 ht9 hvm9 hpx8 hBx hz9 hk9 hS hq9 hv9 hcl9 => ?_) (fun r_5 u_5 t9 H1 locs1 ht9 hvm9 hw_5 hBw hz9 hk9 hS => ?_)
  · obtain ⟨hpx9, hP1, hD1⟩ := hBx
    rw [ht9] at hP1
    rcases hpx9 with ⟨rfl, hc9⟩ | ⟨rfl, hc9⟩
    · refine L_catch0 hown htab (by decide) (by decide) (hts _ (by decide +kernel)) (va_Nw.use rfl (hB.2.2.2.2.1 _ (by simp [Nws]))) hq9 hv9 hcl9 ?_
      replace hP := hP1; replace hD := hD1
      clear hP1 hD1
      generalize H1 = H at hP hS ⊢
      generalize locs1 = locs at hS ⊢
      refine lv_astore (lv' := [(4, .ref (q9)), (0, .ref (ad 0)), (1, .int (a)), (2, .int (b)), (3, .ref (ao))]) hx hb dL_swap_13 hl (by decide) rfl (fun ls hl => ?_)
      refine lv_iconst (v := nI (1)) hx hb dL_swap_15 (by decide) ?_
      exact W.iret (v := nI (1)) hx hb hr (fun t ht hW => ⟨⟨_, ((c, g, hid, code, ans, dbt, opn, ply, hps), ov), rfl, (by
          exact Or.inr (Or.inl ⟨rfl, hc9, rfl⟩)), ⟨by rw [ht]; exact hP, hD⟩⟩, hS.F ht⟩) hS.2.2 dL_swap_16
    · refine L_catch1 hown htab (by decide) (by decide) (hts _ (by decide +kernel)) (by decide) (hts (.classLink RL 18 "java/lang/IndexOutOfBoundsException") (by decide +kernel)) hB.2.2.2.2.2.2.2.1 (va_Nw.use rfl (hB.2.2.2.2.1 _ (by simp [Nws]))) hq9 hv9 hcl9 ?_
      replace hP := hP1; replace hD := hD1
      clear hP1 hD1
      generalize H1 = H at hP hS ⊢
      generalize locs1 = locs at hS ⊢
      refine lv_astore (lv' := [(4, .ref (q9)), (0, .ref (ad 0)), (1, .int (a)), (2, .int (b)), (3, .ref (ao))]) hx hb dL_swap_17 hl (by decide) rfl (fun ls hl => ?_)
      refine lv_iconst (v := nI (2)) hx hb dL_swap_19 (by decide) ?_
      exact W.iret (v := nI (2)) hx hb hr (fun t ht hW => ⟨⟨_, ((c, g, hid, code, ans, dbt, opn, ply, hps), ov), rfl, (by
          exact Or.inr (Or.inr ⟨rfl, hc9, rfl⟩)), ⟨by rw [ht]; exact hP, hD⟩⟩, hS.F ht⟩) hS.2.2 dL_swap_20
  obtain ⟨hP, hD⟩ := hBw
  rw [ht9] at hP
  generalize H1 = H at hP hS ⊢
  generalize locs1 = locs at hS ⊢
  replace hP : va_P D vwCl (WX ad cI cZ c g u_5 code ans dbt opn ply hps (OL ao cJ ov :: wr2)) H := hP
  replace hD : va_D A (WX ad cI cZ c g u_5 code ans dbt opn ply hps (OL ao cJ ov :: wr2)) := hD
  refine lv_i2l hx hb dL_swap_8 rfl ?_
  refine va_last hx hb hK hP hD hS 7 3 rfl rfl (vp_in_nI (n := 0) (N := 1) (by decide) (by decide)) dL_swap_9 (fun H locs hP hD hS => ?_)
  replace hP : va_P D vwCl (WX ad cI cZ c g u_5 code ans dbt opn ply hps (OL ao cJ (vp_updL ov (nI 0).toNatClampNeg ((r_5).toInt64)) :: wr2)) H := hP
  replace hD : va_D A (WX ad cI cZ c g u_5 code ans dbt opn ply hps (OL ao cJ (vp_updL ov (nI 0).toNatClampNeg ((r_5).toInt64)) :: wr2)) := hD
  refine lv_goto (tgt := 21) hx hb dL_swap_10 (by decide) ?_
  refine lv_iconst (v := nI (0)) hx hb dL_swap_21 (by decide) ?_
  exact W.iret (v := nI (0)) hx hb hr (fun t ht hW => ⟨⟨_, ((c, g, u_5, code, ans, dbt, opn, ply, hps), (vp_updL ov (nI 0).toNatClampNeg ((r_5).toInt64))), rfl, (by
      exact Or.inl ⟨rfl, r_5, u_5, hw_5, rfl, ov_0 (f := ov)⟩), ⟨by rw [ht]; exact hP, hD⟩⟩, hS.F ht⟩) hS.2.2 dL_swap_22

set_option maxHeartbeats 4000000 in
set_option maxRecDepth 100000 in
theorem c_L_guess (l : Launch) (hfl : l.flags = flags0) (D : va_G) (cI cZ cG cJ : ClassId) (A : Nat → Prop) (ad : Nat → Nat) (ao : Nat) (wr2 : va_W) (hpal : Pals cI cG ad wr2) (c : Nat) (g : Nat) (hid : Int32) (code : Nat → Nat) (ans : Nat → Nat) (dbt : Nat → Bool) (opn : Nat → Bool) (ply : Nat → Bool) (hps : Nat → Nat) (ov : Nat → Int64) (v : Int32) (hI : XI c g hid code ans dbt opn) : Met l yL_guess wsL_guess ({ frames := 8, cells := 3, slots := 18, locals := 132 }) (va_Pc [.ref (ad 0), .int (v), .ref (ao)] (Iv D (TY cI cZ cG cJ) A (WX ad cI cZ c g hid code ans dbt opn ply hps (OL ao cJ ov :: wr2)))) (va_Qi (fun r (u : XSt × (Nat → Int64)) => (r = nI 0 ∧ ∃ (ρ9 : Int32) (w9 : Nat × Nat × (Nat → Bool)), (ρ9 = nI (pins c w9.1 w9.2.1) ∧ w9.1 < qq c ∧ v = nI w9.1 ∧ w9.2.1 < qq c ∧ hid = nI w9.2.1 ∧ g < 12 ∧ ∀ k, k < 81 → w9.2.2 k = opS c (g + 1) (va_up code g w9.1) (va_up ans g (pins c w9.1 w9.2.1)) (va_up dbt g false) k) ∧ u.1 = (c, (g + 1), hid, (va_up code g w9.1), (va_up ans g (pins c w9.1 w9.2.1)), (va_up dbt g false), w9.2.2, ply, hps) ∧ u.2 0 = ρ9.toInt64) ∨ (r = nI 1 ∧ (hasC c v = false) ∧ u.1 = (c, g, hid, code, ans, dbt, opn, ply, hps)) ∨ (r = nI 2 ∧ (hasC c v = true ∧ (hid = -1 ∨ 12 ≤ g)) ∧ u.1 = (c, g, hid, code, ans, dbt, opn, ply, hps))) (fun u => Wd D A (WX ad cI cZ u.1.1 u.1.2.1 u.1.2.2.1 u.1.2.2.2.1 u.1.2.2.2.2.1 u.1.2.2.2.2.2.1 u.1.2.2.2.2.2.2.1 u.1.2.2.2.2.2.2.2.1 u.1.2.2.2.2.2.2.2.2 (OL ao cJ u.2 :: wr2))) A) 3 18 A := by
  refine va_MetW (cc := cL_guess) (maxL := 4) (ret := (some .int)) (by decide) rfl ?_
  intro p e s m args below meth c9 s₁ B hml hv
  obtain ⟨rfl, hP, hD, hB⟩ := hv
  have hK := hB.1
  have hA := hB.2.1
  have hx := B.exec
  have hb := B.bytes
  have hr := B.returns
  have hts := atoms_spec (ws := wsL_guess) B.pre
  have hown : s.vm.findClass RL = some m.cls := findClass_of_methodNamed B.named
  have hlocks := B.notSynchronized
  have hS : va_S A s.heap s.heap [] := va_S.rf
  have htab := vx_table (x := yL_guess) B (hts _ List.mem_cons_self)
  have hl := lv_entry ([.ref (ad 0), .int (v), .ref (ao)]) (n := 4) (Nat.le_of_ble_eq_true rfl)
  rw [lg_entry_eq]
  generalize (lg_sl ([.ref (ad 0), .int (v), .ref (ao)]) ++ List.replicate (4 - (lg_sl ([.ref (ad 0), .int (v), .ref (ao)])).length) Slot.unset).toArray = ls at hl ⊢
  have hl : lv_has ls 4 [(0, .ref (ad 0)), (1, .int (v)), (2, .ref (ao))] := hl
  obtain ⟨H, eH⟩ : ∃ q, q = s.heap := ⟨_, rfl⟩
  obtain ⟨locs, eL⟩ : ∃ q : List Loc, q = [] := ⟨_, rfl⟩
  replace hP : va_P D vwCl (WX ad cI cZ c g hid code ans dbt opn ply hps (OL ao cJ ov :: wr2)) H := by rw [eH]; exact hP
  replace hS : va_S A s.heap H locs := by rw [eH, eL]; exact hS
  rw [show W p l e _ s m _ below meth c9 s.heap [] = W p l e _ s m _ below meth c9 H locs from by rw [eH, eL]]
  clear eH eL
  refine lv_aload_n hx hb dL_guess_0 rfl (lv_at hl 2 rfl) ?_
  refine lv_iconst (v := nI (0)) hx hb dL_guess_1 (by decide) ?_
  refine lv_aload_n hx hb dL_guess_2 rfl (lv_at hl 0 rfl) ?_
  refine lv_iload_n hx hb dL_guess_3 rfl (lv_at hl 1 rfl) ?_
  refine vx_calli (vx_runV (As := [.int (v)]) (rest := [.int (nI (0)), .ref (ao)]) ⟨hx, hb, hml, hown, hts⟩ (c_X1_guess l hfl D cI cZ cG cJ A ad (OL ao cJ ov :: wr2) (pal_up hpal) c g hid code ans dbt opn ply hps v (hI)) (cwV 1 hts gL_guess_X1_guess rfl rfl rfl (by decide +kernel) ⟨Nat.le_of_ble_eq_true rfl, Nat.le_of_ble_eq_true rfl⟩) (preV (ci := 1) (q0 := 0) hB hS hP hD rfl rfl) rfl rfl hl.1 rfl (lv_room (Nat.le_of_ble_eq_true rfl)) dL_guess_4 ⟨Nat.le_of_ble_eq_true rfl, Nat.le_of_ble_eq_true rfl⟩) hS (fun q _ h => h) (fun q h => h) (fun q _ h => h) (fun E ce q9 u9 t9 H1 locs1 ht9 hvm9 hpx8 hBx hz9 hk9 hS hq9 hv9 hcl9 => ?_) (fun r_4 u_4 t9 H1 locs1 ht9 hvm9 hw_4 hBw hz9 hk9 hS => ?_)
  · obtain ⟨hpx9, hP1, hD1⟩ := hBx
    rw [ht9] at hP1
    rcases hpx9 with ⟨rfl, hc9⟩ | ⟨rfl, hc9⟩
    · refine L_catch0 hown htab (by decide) (by decide) (hts _ (by decide +kernel)) (va_Nw.use rfl (hB.2.2.2.2.1 _ (by simp [Nws]))) hq9 hv9 hcl9 ?_
      replace hP := hP1; replace hD := hD1
      clear hP1 hD1
      generalize H1 = H at hP hS ⊢
      generalize locs1 = locs at hS ⊢
      refine lv_astore_n (lv' := [(3, .ref (q9)), (0, .ref (ad 0)), (1, .int (v)), (2, .ref (ao))]) hx hb dL_guess_12 rfl hl (by decide) rfl (fun ls hl => ?_)
      refine lv_iconst (v := nI (1)) hx hb dL_guess_13 (by decide) ?_
      exact W.iret (v := nI (1)) hx hb hr (fun t ht hW => ⟨⟨_, ((c, g, hid, code, ans, dbt, opn, ply, hps), ov), rfl, (by
          exact Or.inr (Or.inl ⟨rfl, hc9, rfl⟩)), ⟨by rw [ht]; exact hP, hD⟩⟩, hS.F ht⟩) hS.2.2 dL_guess_14
    · refine L_catch1 hown htab (by decide) (by decide) (hts _ (by decide +kernel)) (by decide) (hts (.classLink RL 18 "java/lang/IndexOutOfBoundsException") (by decide +kernel)) hB.2.2.2.2.2.2.2.1 (va_Nw.use rfl (hB.2.2.2.2.1 _ (by simp [Nws]))) hq9 hv9 hcl9 ?_
      replace hP := hP1; replace hD := hD1
      clear hP1 hD1
      generalize H1 = H at hP hS ⊢
      generalize locs1 = locs at hS ⊢
      refine lv_astore_n (lv' := [(3, .ref (q9)), (0, .ref (ad 0)), (1, .int (v)), (2, .ref (ao))]) hx hb dL_guess_15 rfl hl (by decide) rfl (fun ls hl => ?_)
      refine lv_iconst (v := nI (2)) hx hb dL_guess_16 (by decide) ?_
      exact W.iret (v := nI (2)) hx hb hr (fun t ht hW => ⟨⟨_, ((c, g, hid, code, ans, dbt, opn, ply, hps), ov), rfl, (by
          exact Or.inr (Or.inr ⟨rfl, hc9, rfl⟩)), ⟨by rw [ht]; exact hP, hD⟩⟩, hS.F ht⟩) hS.2.2 dL_guess_17
  obtain ⟨hP, hD⟩ := hBw
  rw [ht9] at hP
  generalize H1 = H at hP hS ⊢
  generalize locs1 = locs at hS ⊢
  replace hP : va_P D vwCl (WX ad cI cZ c (g + 1) hid (va_up code g u_4.1) (va_up ans g (pins c u_4.1 u_4.2.1)) (va_up dbt g false) u_4.2.2 ply hps (OL ao cJ ov :: wr2)) H := hP
  replace hD : va_D A (WX ad cI cZ c (g + 1) hid (va_up code g u_4.1) (va_up ans g (pins c u_4.1 u_4.2.1)) (va_up dbt g false) u_4.2.2 ply hps (OL ao cJ ov :: wr2)) := hD
  refine lv_i2l hx hb dL_guess_7 rfl ?_
  refine va_last hx hb hK hP hD hS 7 3 rfl rfl (vp_in_nI (n := 0) (N := 1) (by decide) (by decide)) dL_guess_8 (fun H locs hP hD hS => ?_)
  replace hP : va_P D vwCl (WX ad cI cZ c (g + 1) hid (va_up code g u_4.1) (va_up ans g (pins c u_4.1 u_4.2.1)) (va_up dbt g false) u_4.2.2 ply hps (OL ao cJ (vp_updL ov (nI 0).toNatClampNeg ((r_4).toInt64)) :: wr2)) H := hP
  replace hD : va_D A (WX ad cI cZ c (g + 1) hid (va_up code g u_4.1) (va_up ans g (pins c u_4.1 u_4.2.1)) (va_up dbt g false) u_4.2.2 ply hps (OL ao cJ (vp_updL ov (nI 0).toNatClampNeg ((r_4).toInt64)) :: wr2)) := hD
  refine lv_goto (tgt := 18) hx hb dL_guess_9 (by decide) ?_
  refine lv_iconst (v := nI (0)) hx hb dL_guess_18 (by decide) ?_
  exact W.iret (v := nI (0)) hx hb hr (fun t ht hW => ⟨⟨_, ((c, (g + 1), hid, (va_up code g u_4.1), (va_up ans g (pins c u_4.1 u_4.2.1)), (va_up dbt g false), u_4.2.2, ply, hps), (vp_updL ov (nI 0).toNatClampNeg ((r_4).toInt64))), rfl, (by
      exact Or.inl ⟨rfl, r_4, u_4, hw_4, rfl, ov_0 (f := ov)⟩), ⟨by rw [ht]; exact hP, hD⟩⟩, hS.F ht⟩) hS.2.2 dL_guess_19

set_option maxHeartbeats 4000000 in
set_option maxRecDepth 100000 in
theorem c_L_tell (l : Launch) (hfl : l.flags = flags0) (D : va_G) (cI cZ cG cJ : ClassId) (A : Nat → Prop) (ad : Nat → Nat) (ao : Nat) (wr2 : va_W) (hpal : Pals cI cG ad wr2) (c : Nat) (g : Nat) (hid : Int32) (code : Nat → Nat) (ans : Nat → Nat) (dbt : Nat → Bool) (opn : Nat → Bool) (ply : Nat → Bool) (hps : Nat → Nat) (ov : Nat → Int64) (v : Int32) (b : Int32) (wt : Int32) (hI : XI c g hid code ans dbt opn) : Met l yL_tell wsL_tell ({ frames := 8, cells := 3, slots := 18, locals := 133 }) (va_Pc [.ref (ad 0), .int (v), .int (b), .int (wt), .ref (ao)] (Iv D (TY cI cZ cG cJ) A (WX ad cI cZ c g hid code ans dbt opn ply hps (OL ao cJ ov :: wr2)))) (va_Qi (fun r (u : XSt × (Nat → Int64)) => (r = nI 0 ∧ ∃ (ρ9 : Int32) (w9 : Nat × Nat × Nat × (Nat → Bool)), (ρ9 = nI (cN (opS c (g + 1) (va_up code g w9.1) (va_up ans g (5 * w9.2.1 + w9.2.2.1)) (va_up dbt g false)) 81) ∧ w9.1 < qq c ∧ v = nI w9.1 ∧ w9.2.1 + w9.2.2.1 ≤ 4 ∧ b = nI w9.2.1 ∧ wt = nI w9.2.2.1 ∧ g < 12 ∧ (∀ k, k < 81 → w9.2.2.2 k = opS c (g + 1) (va_up code g w9.1) (va_up ans g (5 * w9.2.1 + w9.2.2.1)) (va_up dbt g false) k) ∧ pinC b wt = true) ∧ u.1 = (c, (g + 1), hid, (va_up code g w9.1), (va_up ans g (5 * w9.2.1 + w9.2.2.1)), (va_up dbt g false), w9.2.2.2, ply, hps) ∧ u.2 0 = ρ9.toInt64) ∨ (r = nI 1 ∧ (hasC c v = false) ∧ u.1 = (c, g, hid, code, ans, dbt, opn, ply, hps)) ∨ (r = nI 2 ∧ (hasC c v = true ∧ pinC b wt = false) ∧ u.1 = (c, g, hid, code, ans, dbt, opn, ply, hps)) ∨ (r = nI 3 ∧ (hasC c v = true ∧ pinC b wt = true ∧ 12 ≤ g) ∧ u.1 = (c, g, hid, code, ans, dbt, opn, ply, hps))) (fun u => Wd D A (WX ad cI cZ u.1.1 u.1.2.1 u.1.2.2.1 u.1.2.2.2.1 u.1.2.2.2.2.1 u.1.2.2.2.2.2.1 u.1.2.2.2.2.2.2.1 u.1.2.2.2.2.2.2.2.1 u.1.2.2.2.2.2.2.2.2 (OL ao cJ u.2 :: wr2))) A) 3 18 A := by
  refine va_MetW (cc := cL_tell) (maxL := 6) (ret := (some .int)) (by decide) rfl ?_
  intro p e s m args below meth c9 s₁ B hml hv
  obtain ⟨rfl, hP, hD, hB⟩ := hv
  have hK := hB.1
  have hA := hB.2.1
  have hx := B.exec
  have hb := B.bytes
  have hr := B.returns
  have hts := atoms_spec (ws := wsL_tell) B.pre
  have hown : s.vm.findClass RL = some m.cls := findClass_of_methodNamed B.named
  have hlocks := B.notSynchronized
  have hS : va_S A s.heap s.heap [] := va_S.rf
  have htab := vx_table (x := yL_tell) B (hts _ List.mem_cons_self)
  have hl := lv_entry ([.ref (ad 0), .int (v), .int (b), .int (wt), .ref (ao)]) (n := 6) (Nat.le_of_ble_eq_true rfl)
  rw [lg_entry_eq]
  generalize (lg_sl ([.ref (ad 0), .int (v), .int (b), .int (wt), .ref (ao)]) ++ List.replicate (6 - (lg_sl ([.ref (ad 0), .int (v), .int (b), .int (wt), .ref (ao)])).length) Slot.unset).toArray = ls at hl ⊢
  have hl : lv_has ls 6 [(0, .ref (ad 0)), (1, .int (v)), (2, .int (b)), (3, .int (wt)), (4, .ref (ao))] := hl
  obtain ⟨H, eH⟩ : ∃ q, q = s.heap := ⟨_, rfl⟩
  obtain ⟨locs, eL⟩ : ∃ q : List Loc, q = [] := ⟨_, rfl⟩
  replace hP : va_P D vwCl (WX ad cI cZ c g hid code ans dbt opn ply hps (OL ao cJ ov :: wr2)) H := by rw [eH]; exact hP
  replace hS : va_S A s.heap H locs := by rw [eH, eL]; exact hS
  rw [show W p l e _ s m _ below meth c9 s.heap [] = W p l e _ s m _ below meth c9 H locs from by rw [eH, eL]]
  clear eH eL
  refine lv_aload hx hb dL_tell_0 (lv_at hl 4 rfl) ?_
  refine lv_iconst (v := nI (0)) hx hb dL_tell_2 (by decide) ?_
  refine lv_aload_n hx hb dL_tell_3 rfl (lv_at hl 0 rfl) ?_
  refine lv_iload_n hx hb dL_tell_4 rfl (lv_at hl 1 rfl) ?_
  refine lv_iload_n hx hb dL_tell_5 rfl (lv_at hl 2 rfl) ?_
  refine lv_iload_n hx hb dL_tell_6 rfl (lv_at hl 3 rfl) ?_
  refine vx_calli (vx_runV (As := [.int (v), .int (b), .int (wt)]) (rest := [.int (nI (0)), .ref (ao)]) ⟨hx, hb, hml, hown, hts⟩ (c_X1_tell l hfl D cI cZ cG cJ A ad (OL ao cJ ov :: wr2) (pal_up hpal) c g hid code ans dbt opn ply hps v b wt (hI)) (cwV 3 hts gL_tell_X1_tell rfl rfl rfl (by decide +kernel) ⟨Nat.le_of_ble_eq_true rfl, Nat.le_of_ble_eq_true rfl⟩) (preV (ci := 1) (q0 := 0) hB hS hP hD rfl rfl) rfl rfl hl.1 rfl (lv_room (Nat.le_of_ble_eq_true rfl)) dL_tell_7 ⟨Nat.le_of_ble_eq_true rfl, Nat.le_of_ble_eq_true rfl⟩) hS (fun q _ h => h) (fun q h => h) (fun q _ h => h) (fun E ce q9 u9 t9 H1 locs1 ht9 hvm9 hpx8 hBx hz9 hk9 hS hq9 hv9 hcl9 => ?_) (fun r_7 u_7 t9 H1 locs1 ht9 hvm9 hw_7 hBw hz9 hk9 hS => ?_)
  · obtain ⟨hpx9, hP1, hD1⟩ := hBx
    rw [ht9] at hP1
    rcases hpx9 with ⟨rfl, hc9⟩ | ⟨rfl, hc9⟩ | ⟨rfl, hc9⟩
    · refine L_catch0 hown htab (by decide) (by decide) (hts _ (by decide +kernel)) (va_Nw.use rfl (hB.2.2.2.2.1 _ (by simp [Nws]))) hq9 hv9 hcl9 ?_
      replace hP := hP1; replace hD := hD1
      clear hP1 hD1
      generalize H1 = H at hP hS ⊢
      generalize locs1 = locs at hS ⊢
      refine lv_astore (lv' := [(5, .ref (q9)), (0, .ref (ad 0)), (1, .int (v)), (2, .int (b)), (3, .int (wt)), (4, .ref (ao))]) hx hb dL_tell_15 hl (by decide) rfl (fun ls hl => ?_)
      refine lv_iconst (v := nI (1)) hx hb dL_tell_17 (by decide) ?_
      exact W.iret (v := nI (1)) hx hb hr (fun t ht hW => ⟨⟨_, ((c, g, hid, code, ans, dbt, opn, ply, hps), ov), rfl, (by
          exact Or.inr (Or.inl ⟨rfl, hc9, rfl⟩)), ⟨by rw [ht]; exact hP, hD⟩⟩, hS.F ht⟩) hS.2.2 dL_tell_18
    · refine L_catch1 hown htab (by decide) (by decide) (hts _ (by decide +kernel)) (by decide) (hts (.classLink RL 18 "java/lang/IndexOutOfBoundsException") (by decide +kernel)) hB.2.2.2.2.2.2.1 (va_Nw.use rfl (hB.2.2.2.2.1 _ (by simp [Nws]))) hq9 hv9 hcl9 ?_
      replace hP := hP1; replace hD := hD1
      clear hP1 hD1
      generalize H1 = H at hP hS ⊢
      generalize locs1 = locs at hS ⊢
      refine lv_astore (lv' := [(5, .ref (q9)), (0, .ref (ad 0)), (1, .int (v)), (2, .int (b)), (3, .int (wt)), (4, .ref (ao))]) hx hb dL_tell_19 hl (by decide) rfl (fun ls hl => ?_)
      refine lv_iconst (v := nI (2)) hx hb dL_tell_21 (by decide) ?_
      exact W.iret (v := nI (2)) hx hb hr (fun t ht hW => ⟨⟨_, ((c, g, hid, code, ans, dbt, opn, ply, hps), ov), rfl, (by
          exact Or.inr (Or.inr (Or.inl ⟨rfl, hc9, rfl⟩))), ⟨by rw [ht]; exact hP, hD⟩⟩, hS.F ht⟩) hS.2.2 dL_tell_22
    · refine L_catch2 hown htab (by decide) (by decide) (hts _ (by decide +kernel)) (by decide) (hts (.classLink RL 18 "java/lang/IndexOutOfBoundsException") (by decide +kernel)) hB.2.2.2.2.2.2.2.1 (by decide) (hts (.classLink RL 13 "java/lang/IllegalArgumentException") (by decide +kernel)) hB.2.2.2.2.2.2.2.2.1 (va_Nw.use rfl (hB.2.2.2.2.1 _ (by simp [Nws]))) hq9 hv9 hcl9 ?_
      replace hP := hP1; replace hD := hD1
      clear hP1 hD1
      generalize H1 = H at hP hS ⊢
      generalize locs1 = locs at hS ⊢
      refine lv_astore (lv' := [(5, .ref (q9)), (0, .ref (ad 0)), (1, .int (v)), (2, .int (b)), (3, .int (wt)), (4, .ref (ao))]) hx hb dL_tell_23 hl (by decide) rfl (fun ls hl => ?_)
      refine lv_iconst (v := nI (3)) hx hb dL_tell_25 (by decide) ?_
      exact W.iret (v := nI (3)) hx hb hr (fun t ht hW => ⟨⟨_, ((c, g, hid, code, ans, dbt, opn, ply, hps), ov), rfl, (by
          exact Or.inr (Or.inr (Or.inr ⟨rfl, hc9, rfl⟩))), ⟨by rw [ht]; exact hP, hD⟩⟩, hS.F ht⟩) hS.2.2 dL_tell_26
  obtain ⟨hP, hD⟩ := hBw
  rw [ht9] at hP
  generalize H1 = H at hP hS ⊢
  generalize locs1 = locs at hS ⊢
  replace hP : va_P D vwCl (WX ad cI cZ c (g + 1) hid (va_up code g u_7.1) (va_up ans g (5 * u_7.2.1 + u_7.2.2.1)) (va_up dbt g false) u_7.2.2.2 ply hps (OL ao cJ ov :: wr2)) H := hP
  replace hD : va_D A (WX ad cI cZ c (g + 1) hid (va_up code g u_7.1) (va_up ans g (5 * u_7.2.1 + u_7.2.2.1)) (va_up dbt g false) u_7.2.2.2 ply hps (OL ao cJ ov :: wr2)) := hD
  refine lv_i2l hx hb dL_tell_10 rfl ?_
  refine va_last hx hb hK hP hD hS 7 3 rfl rfl (vp_in_nI (n := 0) (N := 1) (by decide) (by decide)) dL_tell_11 (fun H locs hP hD hS => ?_)
  replace hP : va_P D vwCl (WX ad cI cZ c (g + 1) hid (va_up code g u_7.1) (va_up ans g (5 * u_7.2.1 + u_7.2.2.1)) (va_up dbt g false) u_7.2.2.2 ply hps (OL ao cJ (vp_updL ov (nI 0).toNatClampNeg ((r_7).toInt64)) :: wr2)) H := hP
  replace hD : va_D A (WX ad cI cZ c (g + 1) hid (va_up code g u_7.1) (va_up ans g (5 * u_7.2.1 + u_7.2.2.1)) (va_up dbt g false) u_7.2.2.2 ply hps (OL ao cJ (vp_updL ov (nI 0).toNatClampNeg ((r_7).toInt64)) :: wr2)) := hD
  refine lv_goto (tgt := 27) hx hb dL_tell_12 (by decide) ?_
  refine lv_iconst (v := nI (0)) hx hb dL_tell_27 (by decide) ?_
  exact W.iret (v := nI (0)) hx hb hr (fun t ht hW => ⟨⟨_, ((c, (g + 1), hid, (va_up code g u_7.1), (va_up ans g (5 * u_7.2.1 + u_7.2.2.1)), (va_up dbt g false), u_7.2.2.2, ply, hps), (vp_updL ov (nI 0).toNatClampNeg ((r_7).toInt64))), rfl, (by
      exact Or.inl ⟨rfl, r_7, u_7, hw_7, rfl, ov_0 (f := ov)⟩), ⟨by rw [ht]; exact hP, hD⟩⟩, hS.F ht⟩) hS.2.2 dL_tell_28

set_option maxHeartbeats 4000000 in
set_option maxRecDepth 100000 in
theorem c_L_doubt (l : Launch) (hfl : l.flags = flags0) (D : va_G) (cI cZ cG cJ : ClassId) (A : Nat → Prop) (ad : Nat → Nat) (ao : Nat) (wr2 : va_W) (hpal : Pals cI cG ad wr2) (c : Nat) (g : Nat) (hid : Int32) (code : Nat → Nat) (ans : Nat → Nat) (dbt : Nat → Bool) (opn : Nat → Bool) (ply : Nat → Bool) (hps : Nat → Nat) (ov : Nat → Int64) (v : Int32) (is : Bool) (hI : XI c g hid code ans dbt opn) : Met l yL_doubt wsL_doubt ({ frames := 7, cells := 1, slots := 6, locals := 110 }) (va_Pc [.ref (ad 0), .int (v), .int (bI (is)), .ref (ao)] (Iv D (TY cI cZ cG cJ) A (WX ad cI cZ c g hid code ans dbt opn ply hps (OL ao cJ ov :: wr2)))) (va_Qi (fun r (u : XSt × (Nat → Int64)) => (r = nI 0 ∧ ∃ (ρ9 : Int32) (w9 : Nat × (Nat → Bool)), (ρ9 = bI (dbt w9.1) ∧ w9.1 < g ∧ v = nI w9.1 ∧ ∀ k, k < 81 → w9.2 k = opS c g code ans (va_up dbt w9.1 is) k) ∧ u.1 = (c, g, hid, code, ans, (va_up dbt w9.1 is), w9.2, ply, hps) ∧ u.2 0 = (if ρ9 = 0 then 0 else 1)) ∨ (r = nI 1 ∧ (gsC g v = false) ∧ u.1 = (c, g, hid, code, ans, dbt, opn, ply, hps))) (fun u => Wd D A (WX ad cI cZ u.1.1 u.1.2.1 u.1.2.2.1 u.1.2.2.2.1 u.1.2.2.2.2.1 u.1.2.2.2.2.2.1 u.1.2.2.2.2.2.2.1 u.1.2.2.2.2.2.2.2.1 u.1.2.2.2.2.2.2.2.2 (OL ao cJ u.2 :: wr2))) A) 1 6 A := by
  refine va_MetW (cc := cL_doubt) (maxL := 5) (ret := (some .int)) (by decide) rfl ?_
  intro p e s m args below meth c9 s₁ B hml hv
  obtain ⟨rfl, hP, hD, hB⟩ := hv
  have hK := hB.1
  have hA := hB.2.1
  have hx := B.exec
  have hb := B.bytes
  have hr := B.returns
  have hts := atoms_spec (ws := wsL_doubt) B.pre
  have hown : s.vm.findClass RL = some m.cls := findClass_of_methodNamed B.named
  have hlocks := B.notSynchronized
  have hS : va_S A s.heap s.heap [] := va_S.rf
  have htab := vx_table (x := yL_doubt) B (hts _ List.mem_cons_self)
  have hl := lv_entry ([.ref (ad 0), .int (v), .int (bI (is)), .ref (ao)]) (n := 5) (Nat.le_of_ble_eq_true rfl)
  rw [lg_entry_eq]
  generalize (lg_sl ([.ref (ad 0), .int (v), .int (bI (is)), .ref (ao)]) ++ List.replicate (5 - (lg_sl ([.ref (ad 0), .int (v), .int (bI (is)), .ref (ao)])).length) Slot.unset).toArray = ls at hl ⊢
  have hl : lv_has ls 5 [(0, .ref (ad 0)), (1, .int (v)), (2, .int (bI (is))), (3, .ref (ao))] := hl
  obtain ⟨H, eH⟩ : ∃ q, q = s.heap := ⟨_, rfl⟩
  obtain ⟨locs, eL⟩ : ∃ q : List Loc, q = [] := ⟨_, rfl⟩
  replace hP : va_P D vwCl (WX ad cI cZ c g hid code ans dbt opn ply hps (OL ao cJ ov :: wr2)) H := by rw [eH]; exact hP
  replace hS : va_S A s.heap H locs := by rw [eH, eL]; exact hS
  rw [show W p l e _ s m _ below meth c9 s.heap [] = W p l e _ s m _ below meth c9 H locs from by rw [eH, eL]]
  clear eH eL
  refine lv_aload_n hx hb dL_doubt_0 rfl (lv_at hl 3 rfl) ?_
  refine lv_iconst (v := nI (0)) hx hb dL_doubt_1 (by decide) ?_
  refine lv_aload_n hx hb dL_doubt_2 rfl (lv_at hl 0 rfl) ?_
  refine lv_iload_n hx hb dL_doubt_3 rfl (lv_at hl 1 rfl) ?_
  refine lv_iload_n hx hb dL_doubt_4 rfl (lv_at hl 2 rfl) ?_
  refine vx_calli (vx_runV (As := [.int (v), .int (bI (is))]) (rest := [.int (nI (0)), .ref (ao)]) ⟨hx, hb, hml, hown, hts⟩ (c_X1_doubt l hfl D cI cZ cG cJ A ad (OL ao cJ ov :: wr2) (pal_up hpal) c g hid code ans dbt opn ply hps v is (hI)) (cwV 2 hts gL_doubt_X1_doubt rfl rfl rfl (by decide +kernel) ⟨Nat.le_of_ble_eq_true rfl, Nat.le_of_ble_eq_true rfl⟩) (preV (ci := 1) (q0 := 0) hB hS hP hD rfl rfl) rfl rfl hl.1 rfl (lv_room (Nat.le_of_ble_eq_true rfl)) dL_doubt_5 ⟨Nat.le_of_ble_eq_true rfl, Nat.le_of_ble_eq_true rfl⟩) hS (fun q _ h => h) (fun q h => h) (fun q _ h => h) (fun E ce q9 u9 t9 H1 locs1 ht9 hvm9 hpx8 hBx hz9 hk9 hS hq9 hv9 hcl9 => ?_) (fun r_5 u_5 t9 H1 locs1 ht9 hvm9 hw_5 hBw hz9 hk9 hS => ?_)
  · obtain ⟨hpx9, hP1, hD1⟩ := hBx
    rw [ht9] at hP1
    rcases hpx9 with ⟨rfl, hc9⟩
    · refine L_catch0 hown htab (by decide) (by decide) (hts _ (by decide +kernel)) (va_Nw.use rfl (hB.2.2.2.2.1 _ (by simp [Nws]))) hq9 hv9 hcl9 ?_
      replace hP := hP1; replace hD := hD1
      clear hP1 hD1
      generalize H1 = H at hP hS ⊢
      generalize locs1 = locs at hS ⊢
      refine lv_astore (lv' := [(4, .ref (q9)), (0, .ref (ad 0)), (1, .int (v)), (2, .int (bI (is))), (3, .ref (ao))]) hx hb dL_doubt_20 hl (by decide) rfl (fun ls hl => ?_)
      refine lv_iconst (v := nI (1)) hx hb dL_doubt_22 (by decide) ?_
      exact W.iret (v := nI (1)) hx hb hr (fun t ht hW => ⟨⟨_, ((c, g, hid, code, ans, dbt, opn, ply, hps), ov), rfl, (by
          exact Or.inr ⟨rfl, hc9, rfl⟩), ⟨by rw [ht]; exact hP, hD⟩⟩, hS.F ht⟩) hS.2.2 dL_doubt_23
  obtain ⟨hP, hD⟩ := hBw
  rw [ht9] at hP
  generalize H1 = H at hP hS ⊢
  generalize locs1 = locs at hS ⊢
  replace hP : va_P D vwCl (WX ad cI cZ c g hid code ans (va_up dbt u_5.1 is) u_5.2 ply hps (OL ao cJ ov :: wr2)) H := hP
  replace hD : va_D A (WX ad cI cZ c g hid code ans (va_up dbt u_5.1 is) u_5.2 ply hps (OL ao cJ ov :: wr2)) := hD
  refine lv_if_eq (tgt := 15) hx hb dL_doubt_8 (by decide) (fun c8 => ?_) (fun c8 => ?_)
  · skip
    refine lv_lconst (v := 0) hx hb dL_doubt_15 (by decide) ?_
    refine va_last hx hb hK hP hD hS 7 3 rfl rfl (vp_in_nI (n := 0) (N := 1) (by decide) (by decide)) dL_doubt_16 (fun H locs hP hD hS => ?_)
    replace hP : va_P D vwCl (WX ad cI cZ c g hid code ans (va_up dbt u_5.1 is) u_5.2 ply hps (OL ao cJ (vp_updL ov (nI 0).toNatClampNeg (0)) :: wr2)) H := hP
    replace hD : va_D A (WX ad cI cZ c g hid code ans (va_up dbt u_5.1 is) u_5.2 ply hps (OL ao cJ (vp_updL ov (nI 0).toNatClampNeg (0)) :: wr2)) := hD
    refine lv_goto (tgt := 24) hx hb dL_doubt_17 (by decide) ?_
    refine lv_iconst (v := nI (0)) hx hb dL_doubt_24 (by decide) ?_
    exact W.iret (v := nI (0)) hx hb hr (fun t ht hW => ⟨⟨_, ((c, g, hid, code, ans, (va_up dbt u_5.1 is), u_5.2, ply, hps), (vp_updL ov (nI 0).toNatClampNeg (0))), rfl, (by
        exact Or.inl ⟨rfl, r_5, u_5, hw_5, rfl, by first | (rw [if_pos c8]; exact ov_0 (f := ov)) | (rw [if_neg c8]; exact ov_0 (f := ov))⟩), ⟨by rw [ht]; exact hP, hD⟩⟩, hS.F ht⟩) hS.2.2 dL_doubt_25
  · skip
    refine lv_lconst (v := 1) hx hb dL_doubt_11 (by decide) ?_
    refine lv_goto (tgt := 16) hx hb dL_doubt_12 (by decide) ?_
    refine va_last hx hb hK hP hD hS 7 3 rfl rfl (vp_in_nI (n := 0) (N := 1) (by decide) (by decide)) dL_doubt_16 (fun H locs hP hD hS => ?_)
    replace hP : va_P D vwCl (WX ad cI cZ c g hid code ans (va_up dbt u_5.1 is) u_5.2 ply hps (OL ao cJ (vp_updL ov (nI 0).toNatClampNeg (1)) :: wr2)) H := hP
    replace hD : va_D A (WX ad cI cZ c g hid code ans (va_up dbt u_5.1 is) u_5.2 ply hps (OL ao cJ (vp_updL ov (nI 0).toNatClampNeg (1)) :: wr2)) := hD
    refine lv_goto (tgt := 24) hx hb dL_doubt_17 (by decide) ?_
    refine lv_iconst (v := nI (0)) hx hb dL_doubt_24 (by decide) ?_
    exact W.iret (v := nI (0)) hx hb hr (fun t ht hW => ⟨⟨_, ((c, g, hid, code, ans, (va_up dbt u_5.1 is), u_5.2, ply, hps), (vp_updL ov (nI 0).toNatClampNeg (1))), rfl, (by
        exact Or.inl ⟨rfl, r_5, u_5, hw_5, rfl, by first | (rw [if_pos c8]; exact ov_0 (f := ov)) | (rw [if_neg c8]; exact ov_0 (f := ov))⟩), ⟨by rw [ht]; exact hP, hD⟩⟩, hS.F ht⟩) hS.2.2 dL_doubt_25

set_option maxHeartbeats 4000000 in
set_option maxRecDepth 100000 in
theorem c_L_forget (l : Launch) (hfl : l.flags = flags0) (D : va_G) (cI cZ cG cJ : ClassId) (A : Nat → Prop) (ad : Nat → Nat) (ao : Nat) (wr2 : va_W) (hpal : Pals cI cG ad wr2) (c : Nat) (g : Nat) (hid : Int32) (code : Nat → Nat) (ans : Nat → Nat) (dbt : Nat → Bool) (opn : Nat → Bool) (ply : Nat → Bool) (hps : Nat → Nat) (ov : Nat → Int64) (hI : XI c g hid code ans dbt opn) : Met l yL_forget wsL_forget ({ frames := 7, cells := 1, slots := 6, locals := 108 }) (va_Pc [.ref (ad 0), .ref (ao)] (Iv D (TY cI cZ cG cJ) A (WX ad cI cZ c g hid code ans dbt opn ply hps (OL ao cJ ov :: wr2)))) (va_Qi (fun r (u : XSt × (Nat → Int64)) => (r = nI 0 ∧ ∃ (ρ9 : Int32) (w9 : Nat → Bool), (ρ9 = nI (code (g - 1)) ∧ 0 < g ∧ ∀ k, k < 81 → w9 k = opS c (g - 1) code ans dbt k) ∧ u.1 = (c, (g - 1), hid, code, ans, dbt, w9, ply, hps) ∧ u.2 0 = ρ9.toInt64) ∨ (r = nI 1 ∧ (g = 0) ∧ u.1 = (c, g, hid, code, ans, dbt, opn, ply, hps))) (fun u => Wd D A (WX ad cI cZ u.1.1 u.1.2.1 u.1.2.2.1 u.1.2.2.2.1 u.1.2.2.2.2.1 u.1.2.2.2.2.2.1 u.1.2.2.2.2.2.2.1 u.1.2.2.2.2.2.2.2.1 u.1.2.2.2.2.2.2.2.2 (OL ao cJ u.2 :: wr2))) A) 1 6 A := by
  refine va_MetW (cc := cL_forget) (maxL := 3) (ret := (some .int)) (by decide) rfl ?_
  intro p e s m args below meth c9 s₁ B hml hv
  obtain ⟨rfl, hP, hD, hB⟩ := hv
  have hK := hB.1
  have hA := hB.2.1
  have hx := B.exec
  have hb := B.bytes
  have hr := B.returns
  have hts := atoms_spec (ws := wsL_forget) B.pre
  have hown : s.vm.findClass RL = some m.cls := findClass_of_methodNamed B.named
  have hlocks := B.notSynchronized
  have hS : va_S A s.heap s.heap [] := va_S.rf
  have htab := vx_table (x := yL_forget) B (hts _ List.mem_cons_self)
  have hl := lv_entry ([.ref (ad 0), .ref (ao)]) (n := 3) (Nat.le_of_ble_eq_true rfl)
  rw [lg_entry_eq]
  generalize (lg_sl ([.ref (ad 0), .ref (ao)]) ++ List.replicate (3 - (lg_sl ([.ref (ad 0), .ref (ao)])).length) Slot.unset).toArray = ls at hl ⊢
  have hl : lv_has ls 3 [(0, .ref (ad 0)), (1, .ref (ao))] := hl
  obtain ⟨H, eH⟩ : ∃ q, q = s.heap := ⟨_, rfl⟩
  obtain ⟨locs, eL⟩ : ∃ q : List Loc, q = [] := ⟨_, rfl⟩
  replace hP : va_P D vwCl (WX ad cI cZ c g hid code ans dbt opn ply hps (OL ao cJ ov :: wr2)) H := by rw [eH]; exact hP
  replace hS : va_S A s.heap H locs := by rw [eH, eL]; exact hS
  rw [show W p l e _ s m _ below meth c9 s.heap [] = W p l e _ s m _ below meth c9 H locs from by rw [eH, eL]]
  clear eH eL
  refine lv_aload_n hx hb dL_forget_0 rfl (lv_at hl 1 rfl) ?_
  refine lv_iconst (v := nI (0)) hx hb dL_forget_1 (by decide) ?_
  refine lv_aload_n hx hb dL_forget_2 rfl (lv_at hl 0 rfl) ?_
  refine vx_calli (vx_runV (As := []) (rest := [.int (nI (0)), .ref (ao)]) ⟨hx, hb, hml, hown, hts⟩ (c_X1_forget l hfl D cI cZ cG cJ A ad (OL ao cJ ov :: wr2) (pal_up hpal) c g hid code ans dbt opn ply hps (hI)) (cwV 0 hts gL_forget_X1_forget rfl rfl rfl (by decide +kernel) ⟨Nat.le_of_ble_eq_true rfl, Nat.le_of_ble_eq_true rfl⟩) (preV (ci := 1) (q0 := 0) hB hS hP hD rfl rfl) rfl rfl hl.1 rfl (lv_room (Nat.le_of_ble_eq_true rfl)) dL_forget_3 ⟨Nat.le_of_ble_eq_true rfl, Nat.le_of_ble_eq_true rfl⟩) hS (fun q _ h => h) (fun q h => h) (fun q _ h => h) (fun E ce q9 u9 t9 H1 locs1 ht9 hvm9 hpx8 hBx hz9 hk9 hS hq9 hv9 hcl9 => ?_) (fun r_3 u_3 t9 H1 locs1 ht9 hvm9 hw_3 hBw hz9 hk9 hS => ?_)
  · obtain ⟨hpx9, hP1, hD1⟩ := hBx
    rw [ht9] at hP1
    rcases hpx9 with ⟨rfl, hc9⟩
    · refine L_catch0 hown htab (by decide) (by decide) (hts _ (by decide +kernel)) (va_Nw.use rfl (hB.2.2.2.2.1 _ (by simp [Nws]))) hq9 hv9 hcl9 ?_
      replace hP := hP1; replace hD := hD1
      clear hP1 hD1
      generalize H1 = H at hP hS ⊢
      generalize locs1 = locs at hS ⊢
      refine lv_astore_n (lv' := [(2, .ref (q9)), (0, .ref (ad 0)), (1, .ref (ao))]) hx hb dL_forget_11 rfl hl (by decide) rfl (fun ls hl => ?_)
      refine lv_iconst (v := nI (1)) hx hb dL_forget_12 (by decide) ?_
      exact W.iret (v := nI (1)) hx hb hr (fun t ht hW => ⟨⟨_, ((c, g, hid, code, ans, dbt, opn, ply, hps), ov), rfl, (by
          exact Or.inr ⟨rfl, hc9, rfl⟩), ⟨by rw [ht]; exact hP, hD⟩⟩, hS.F ht⟩) hS.2.2 dL_forget_13
  obtain ⟨hP, hD⟩ := hBw
  rw [ht9] at hP
  generalize H1 = H at hP hS ⊢
  generalize locs1 = locs at hS ⊢
  replace hP : va_P D vwCl (WX ad cI cZ c (g - 1) hid code ans dbt u_3 ply hps (OL ao cJ ov :: wr2)) H := hP
  replace hD : va_D A (WX ad cI cZ c (g - 1) hid code ans dbt u_3 ply hps (OL ao cJ ov :: wr2)) := hD
  refine lv_i2l hx hb dL_forget_6 rfl ?_
  refine va_last hx hb hK hP hD hS 7 3 rfl rfl (vp_in_nI (n := 0) (N := 1) (by decide) (by decide)) dL_forget_7 (fun H locs hP hD hS => ?_)
  replace hP : va_P D vwCl (WX ad cI cZ c (g - 1) hid code ans dbt u_3 ply hps (OL ao cJ (vp_updL ov (nI 0).toNatClampNeg ((r_3).toInt64)) :: wr2)) H := hP
  replace hD : va_D A (WX ad cI cZ c (g - 1) hid code ans dbt u_3 ply hps (OL ao cJ (vp_updL ov (nI 0).toNatClampNeg ((r_3).toInt64)) :: wr2)) := hD
  refine lv_goto (tgt := 14) hx hb dL_forget_8 (by decide) ?_
  refine lv_iconst (v := nI (0)) hx hb dL_forget_14 (by decide) ?_
  exact W.iret (v := nI (0)) hx hb hr (fun t ht hW => ⟨⟨_, ((c, (g - 1), hid, code, ans, dbt, u_3, ply, hps), (vp_updL ov (nI 0).toNatClampNeg ((r_3).toInt64))), rfl, (by
      exact Or.inl ⟨rfl, r_3, u_3, hw_3, rfl, ov_0 (f := ov)⟩), ⟨by rw [ht]; exact hP, hD⟩⟩, hS.F ht⟩) hS.2.2 dL_forget_15

set_option maxHeartbeats 4000000 in
set_option maxRecDepth 100000 in
theorem c_L_colour (l : Launch) (hfl : l.flags = flags0) (D : va_G) (cI cZ cG cJ : ClassId) (A : Nat → Prop) (ad : Nat → Nat) (ao : Nat) (wr2 : va_W) (hpal : Pals cI cG ad wr2) (c : Nat) (g : Nat) (hid : Int32) (code : Nat → Nat) (ans : Nat → Nat) (dbt : Nat → Bool) (opn : Nat → Bool) (ply : Nat → Bool) (hps : Nat → Nat) (ov : Nat → Int64) (v : Int32) (pl : Int32) (hI : XI c g hid code ans dbt opn) : Met l yL_colour wsL_colour ({ frames := 8, cells := 2, slots := 12, locals := 125 }) (va_Pc [.ref (ad 0), .int (v), .int (pl), .ref (ao)] (Iv D (TY cI cZ cG cJ) A (WX ad cI cZ c g hid code ans dbt opn ply hps (OL ao cJ ov :: wr2)))) (va_Qi (fun r (u : XSt × (Nat → Int64)) => (r = nI 0 ∧ ∃ (ρ9 : Int32) (w9 : Nat × Nat), (ρ9 = nI (col c w9.1 w9.2) ∧ w9.1 < qq c ∧ v = nI w9.1 ∧ w9.2 < 4 ∧ pl = nI w9.2) ∧ u.1 = (c, g, hid, code, ans, dbt, opn, ply, hps) ∧ u.2 0 = ρ9.toInt64) ∨ (r = nI 1 ∧ (hasC c v = false ∨ plC pl = false) ∧ u.1 = (c, g, hid, code, ans, dbt, opn, ply, hps))) (fun u => Wd D A (WX ad cI cZ u.1.1 u.1.2.1 u.1.2.2.1 u.1.2.2.2.1 u.1.2.2.2.2.1 u.1.2.2.2.2.2.1 u.1.2.2.2.2.2.2.1 u.1.2.2.2.2.2.2.2.1 u.1.2.2.2.2.2.2.2.2 (OL ao cJ u.2 :: wr2))) A) 2 12 A := by
  refine va_MetW (cc := cL_colour) (maxL := 5) (ret := (some .int)) (by decide) rfl ?_
  intro p e s m args below meth c9 s₁ B hml hv
  obtain ⟨rfl, hP, hD, hB⟩ := hv
  have hK := hB.1
  have hA := hB.2.1
  have hx := B.exec
  have hb := B.bytes
  have hr := B.returns
  have hts := atoms_spec (ws := wsL_colour) B.pre
  have hown : s.vm.findClass RL = some m.cls := findClass_of_methodNamed B.named
  have hlocks := B.notSynchronized
  have hS : va_S A s.heap s.heap [] := va_S.rf
  have htab := vx_table (x := yL_colour) B (hts _ List.mem_cons_self)
  have hl := lv_entry ([.ref (ad 0), .int (v), .int (pl), .ref (ao)]) (n := 5) (Nat.le_of_ble_eq_true rfl)
  rw [lg_entry_eq]
  generalize (lg_sl ([.ref (ad 0), .int (v), .int (pl), .ref (ao)]) ++ List.replicate (5 - (lg_sl ([.ref (ad 0), .int (v), .int (pl), .ref (ao)])).length) Slot.unset).toArray = ls at hl ⊢
  have hl : lv_has ls 5 [(0, .ref (ad 0)), (1, .int (v)), (2, .int (pl)), (3, .ref (ao))] := hl
  obtain ⟨H, eH⟩ : ∃ q, q = s.heap := ⟨_, rfl⟩
  obtain ⟨locs, eL⟩ : ∃ q : List Loc, q = [] := ⟨_, rfl⟩
  replace hP : va_P D vwCl (WX ad cI cZ c g hid code ans dbt opn ply hps (OL ao cJ ov :: wr2)) H := by rw [eH]; exact hP
  replace hS : va_S A s.heap H locs := by rw [eH, eL]; exact hS
  rw [show W p l e _ s m _ below meth c9 s.heap [] = W p l e _ s m _ below meth c9 H locs from by rw [eH, eL]]
  clear eH eL
  refine lv_aload_n hx hb dL_colour_0 rfl (lv_at hl 3 rfl) ?_
  refine lv_iconst (v := nI (0)) hx hb dL_colour_1 (by decide) ?_
  refine lv_aload_n hx hb dL_colour_2 rfl (lv_at hl 0 rfl) ?_
  refine lv_iload_n hx hb dL_colour_3 rfl (lv_at hl 1 rfl) ?_
  refine lv_iload_n hx hb dL_colour_4 rfl (lv_at hl 2 rfl) ?_
  refine vx_calli (vx_runV (As := [.int (v), .int (pl)]) (rest := [.int (nI (0)), .ref (ao)]) ⟨hx, hb, hml, hown, hts⟩ (c_X1_colour l hfl D cI cZ cG cJ A ad (OL ao cJ ov :: wr2) (pal_up hpal) c g hid code ans dbt opn ply hps v pl (hI)) (cwV 2 hts gL_colour_X1_colour rfl rfl rfl (by decide +kernel) ⟨Nat.le_of_ble_eq_true rfl, Nat.le_of_ble_eq_true rfl⟩) (preV (ci := 1) (q0 := 0) hB hS hP hD rfl rfl) rfl rfl hl.1 rfl (lv_room (Nat.le_of_ble_eq_true rfl)) dL_colour_5 ⟨Nat.le_of_ble_eq_true rfl, Nat.le_of_ble_eq_true rfl⟩) hS (fun q _ h => h) (fun q h => h) (fun q _ h => h) (fun E ce q9 u9 t9 H1 locs1 ht9 hvm9 hpx8 hBx hz9 hk9 hS hq9 hv9 hcl9 => ?_) (fun r_5 u_5 t9 H1 locs1 ht9 hvm9 hw_5 hBw hz9 hk9 hS => ?_)
  · obtain ⟨hpx9, hP1, hD1⟩ := hBx
    rw [ht9] at hP1
    rcases hpx9 with ⟨rfl, hc9⟩
    · refine L_catch0 hown htab (by decide) (by decide) (hts _ (by decide +kernel)) (va_Nw.use rfl (hB.2.2.2.2.1 _ (by simp [Nws]))) hq9 hv9 hcl9 ?_
      replace hP := hP1; replace hD := hD1
      clear hP1 hD1
      generalize H1 = H at hP hS ⊢
      generalize locs1 = locs at hS ⊢
      refine lv_astore (lv' := [(4, .ref (q9)), (0, .ref (ad 0)), (1, .int (v)), (2, .int (pl)), (3, .ref (ao))]) hx hb dL_colour_13 hl (by decide) rfl (fun ls hl => ?_)
      refine lv_iconst (v := nI (1)) hx hb dL_colour_15 (by decide) ?_
      exact W.iret (v := nI (1)) hx hb hr (fun t ht hW => ⟨⟨_, ((c, g, hid, code, ans, dbt, opn, ply, hps), ov), rfl, (by
          exact Or.inr ⟨rfl, hc9, rfl⟩), ⟨by rw [ht]; exact hP, hD⟩⟩, hS.F ht⟩) hS.2.2 dL_colour_16
  obtain ⟨hP, hD⟩ := hBw
  rw [ht9] at hP
  generalize H1 = H at hP hS ⊢
  generalize locs1 = locs at hS ⊢
  replace hP : va_P D vwCl (WX ad cI cZ c g hid code ans dbt opn ply hps (OL ao cJ ov :: wr2)) H := hP
  replace hD : va_D A (WX ad cI cZ c g hid code ans dbt opn ply hps (OL ao cJ ov :: wr2)) := hD
  refine lv_i2l hx hb dL_colour_8 rfl ?_
  refine va_last hx hb hK hP hD hS 7 3 rfl rfl (vp_in_nI (n := 0) (N := 1) (by decide) (by decide)) dL_colour_9 (fun H locs hP hD hS => ?_)
  replace hP : va_P D vwCl (WX ad cI cZ c g hid code ans dbt opn ply hps (OL ao cJ (vp_updL ov (nI 0).toNatClampNeg ((r_5).toInt64)) :: wr2)) H := hP
  replace hD : va_D A (WX ad cI cZ c g hid code ans dbt opn ply hps (OL ao cJ (vp_updL ov (nI 0).toNatClampNeg ((r_5).toInt64)) :: wr2)) := hD
  refine lv_goto (tgt := 17) hx hb dL_colour_10 (by decide) ?_
  refine lv_iconst (v := nI (0)) hx hb dL_colour_17 (by decide) ?_
  exact W.iret (v := nI (0)) hx hb hr (fun t ht hW => ⟨⟨_, ((c, g, hid, code, ans, dbt, opn, ply, hps), (vp_updL ov (nI 0).toNatClampNeg ((r_5).toInt64))), rfl, (by
      exact Or.inl ⟨rfl, r_5, u_5, hw_5, rfl, ov_0 (f := ov)⟩), ⟨by rw [ht]; exact hP, hD⟩⟩, hS.F ht⟩) hS.2.2 dL_colour_18

set_option maxHeartbeats 4000000 in
set_option maxRecDepth 100000 in
theorem c_L_pins (l : Launch) (hfl : l.flags = flags0) (D : va_G) (cI cZ cG cJ : ClassId) (A : Nat → Prop) (ad : Nat → Nat) (ao : Nat) (wr2 : va_W) (hpal : Pals cI cG ad wr2) (c : Nat) (g : Nat) (hid : Int32) (code : Nat → Nat) (ans : Nat → Nat) (dbt : Nat → Bool) (opn : Nat → Bool) (ply : Nat → Bool) (hps : Nat → Nat) (ov : Nat → Int64) (a : Int32) (b : Int32) (hI : XI c g hid code ans dbt opn) : Met l yL_pins wsL_pins ({ frames := 8, cells := 2, slots := 12, locals := 125 }) (va_Pc [.ref (ad 0), .int (a), .int (b), .ref (ao)] (Iv D (TY cI cZ cG cJ) A (WX ad cI cZ c g hid code ans dbt opn ply hps (OL ao cJ ov :: wr2)))) (va_Qi (fun r (u : XSt × (Nat → Int64)) => (r = nI 0 ∧ ∃ (ρ9 : Int32) (w9 : Nat × Nat), (ρ9 = nI (pins c w9.1 w9.2) ∧ w9.1 < qq c ∧ a = nI w9.1 ∧ w9.2 < qq c ∧ b = nI w9.2) ∧ u.1 = (c, g, hid, code, ans, dbt, opn, ply, hps) ∧ u.2 0 = ρ9.toInt64) ∨ (r = nI 1 ∧ (hasC c a = false ∨ hasC c b = false) ∧ u.1 = (c, g, hid, code, ans, dbt, opn, ply, hps))) (fun u => Wd D A (WX ad cI cZ u.1.1 u.1.2.1 u.1.2.2.1 u.1.2.2.2.1 u.1.2.2.2.2.1 u.1.2.2.2.2.2.1 u.1.2.2.2.2.2.2.1 u.1.2.2.2.2.2.2.2.1 u.1.2.2.2.2.2.2.2.2 (OL ao cJ u.2 :: wr2))) A) 2 12 A := by
  refine va_MetW (cc := cL_pins) (maxL := 5) (ret := (some .int)) (by decide) rfl ?_
  intro p e s m args below meth c9 s₁ B hml hv
  obtain ⟨rfl, hP, hD, hB⟩ := hv
  have hK := hB.1
  have hA := hB.2.1
  have hx := B.exec
  have hb := B.bytes
  have hr := B.returns
  have hts := atoms_spec (ws := wsL_pins) B.pre
  have hown : s.vm.findClass RL = some m.cls := findClass_of_methodNamed B.named
  have hlocks := B.notSynchronized
  have hS : va_S A s.heap s.heap [] := va_S.rf
  have htab := vx_table (x := yL_pins) B (hts _ List.mem_cons_self)
  have hl := lv_entry ([.ref (ad 0), .int (a), .int (b), .ref (ao)]) (n := 5) (Nat.le_of_ble_eq_true rfl)
  rw [lg_entry_eq]
  generalize (lg_sl ([.ref (ad 0), .int (a), .int (b), .ref (ao)]) ++ List.replicate (5 - (lg_sl ([.ref (ad 0), .int (a), .int (b), .ref (ao)])).length) Slot.unset).toArray = ls at hl ⊢
  have hl : lv_has ls 5 [(0, .ref (ad 0)), (1, .int (a)), (2, .int (b)), (3, .ref (ao))] := hl
  obtain ⟨H, eH⟩ : ∃ q, q = s.heap := ⟨_, rfl⟩
  obtain ⟨locs, eL⟩ : ∃ q : List Loc, q = [] := ⟨_, rfl⟩
  replace hP : va_P D vwCl (WX ad cI cZ c g hid code ans dbt opn ply hps (OL ao cJ ov :: wr2)) H := by rw [eH]; exact hP
  replace hS : va_S A s.heap H locs := by rw [eH, eL]; exact hS
  rw [show W p l e _ s m _ below meth c9 s.heap [] = W p l e _ s m _ below meth c9 H locs from by rw [eH, eL]]
  clear eH eL
  refine lv_aload_n hx hb dL_pins_0 rfl (lv_at hl 3 rfl) ?_
  refine lv_iconst (v := nI (0)) hx hb dL_pins_1 (by decide) ?_
  refine lv_aload_n hx hb dL_pins_2 rfl (lv_at hl 0 rfl) ?_
  refine lv_iload_n hx hb dL_pins_3 rfl (lv_at hl 1 rfl) ?_
  refine lv_iload_n hx hb dL_pins_4 rfl (lv_at hl 2 rfl) ?_
  refine vx_calli (vx_runV (As := [.int (a), .int (b)]) (rest := [.int (nI (0)), .ref (ao)]) ⟨hx, hb, hml, hown, hts⟩ (c_X1_pins l hfl D cI cZ cG cJ A ad (OL ao cJ ov :: wr2) (pal_up hpal) c g hid code ans dbt opn ply hps a b (hI)) (cwV 2 hts gL_pins_X1_pins rfl rfl rfl (by decide +kernel) ⟨Nat.le_of_ble_eq_true rfl, Nat.le_of_ble_eq_true rfl⟩) (preV (ci := 1) (q0 := 0) hB hS hP hD rfl rfl) rfl rfl hl.1 rfl (lv_room (Nat.le_of_ble_eq_true rfl)) dL_pins_5 ⟨Nat.le_of_ble_eq_true rfl, Nat.le_of_ble_eq_true rfl⟩) hS (fun q _ h => h) (fun q h => h) (fun q _ h => h) (fun E ce q9 u9 t9 H1 locs1 ht9 hvm9 hpx8 hBx hz9 hk9 hS hq9 hv9 hcl9 => ?_) (fun r_5 u_5 t9 H1 locs1 ht9 hvm9 hw_5 hBw hz9 hk9 hS => ?_)
  · obtain ⟨hpx9, hP1, hD1⟩ := hBx
    rw [ht9] at hP1
    rcases hpx9 with ⟨rfl, hc9⟩
    · refine L_catch0 hown htab (by decide) (by decide) (hts _ (by decide +kernel)) (va_Nw.use rfl (hB.2.2.2.2.1 _ (by simp [Nws]))) hq9 hv9 hcl9 ?_
      replace hP := hP1; replace hD := hD1
      clear hP1 hD1
      generalize H1 = H at hP hS ⊢
      generalize locs1 = locs at hS ⊢
      refine lv_astore (lv' := [(4, .ref (q9)), (0, .ref (ad 0)), (1, .int (a)), (2, .int (b)), (3, .ref (ao))]) hx hb dL_pins_13 hl (by decide) rfl (fun ls hl => ?_)
      refine lv_iconst (v := nI (1)) hx hb dL_pins_15 (by decide) ?_
      exact W.iret (v := nI (1)) hx hb hr (fun t ht hW => ⟨⟨_, ((c, g, hid, code, ans, dbt, opn, ply, hps), ov), rfl, (by
          exact Or.inr ⟨rfl, hc9, rfl⟩), ⟨by rw [ht]; exact hP, hD⟩⟩, hS.F ht⟩) hS.2.2 dL_pins_16
  obtain ⟨hP, hD⟩ := hBw
  rw [ht9] at hP
  generalize H1 = H at hP hS ⊢
  generalize locs1 = locs at hS ⊢
  replace hP : va_P D vwCl (WX ad cI cZ c g hid code ans dbt opn ply hps (OL ao cJ ov :: wr2)) H := hP
  replace hD : va_D A (WX ad cI cZ c g hid code ans dbt opn ply hps (OL ao cJ ov :: wr2)) := hD
  refine lv_i2l hx hb dL_pins_8 rfl ?_
  refine va_last hx hb hK hP hD hS 7 3 rfl rfl (vp_in_nI (n := 0) (N := 1) (by decide) (by decide)) dL_pins_9 (fun H locs hP hD hS => ?_)
  replace hP : va_P D vwCl (WX ad cI cZ c g hid code ans dbt opn ply hps (OL ao cJ (vp_updL ov (nI 0).toNatClampNeg ((r_5).toInt64)) :: wr2)) H := hP
  replace hD : va_D A (WX ad cI cZ c g hid code ans dbt opn ply hps (OL ao cJ (vp_updL ov (nI 0).toNatClampNeg ((r_5).toInt64)) :: wr2)) := hD
  refine lv_goto (tgt := 17) hx hb dL_pins_10 (by decide) ?_
  refine lv_iconst (v := nI (0)) hx hb dL_pins_17 (by decide) ?_
  exact W.iret (v := nI (0)) hx hb hr (fun t ht hW => ⟨⟨_, ((c, g, hid, code, ans, dbt, opn, ply, hps), (vp_updL ov (nI 0).toNatClampNeg ((r_5).toInt64))), rfl, (by
      exact Or.inl ⟨rfl, r_5, u_5, hw_5, rfl, ov_0 (f := ov)⟩), ⟨by rw [ht]; exact hP, hD⟩⟩, hS.F ht⟩) hS.2.2 dL_pins_18

set_option maxHeartbeats 4000000 in
set_option maxRecDepth 100000 in
theorem c_L_told (l : Launch) (hfl : l.flags = flags0) (D : va_G) (cI cZ cG cJ : ClassId) (A : Nat → Prop) (ad : Nat → Nat) (ao : Nat) (wr2 : va_W) (hpal : Pals cI cG ad wr2) (c : Nat) (g : Nat) (hid : Int32) (code : Nat → Nat) (ans : Nat → Nat) (dbt : Nat → Bool) (opn : Nat → Bool) (ply : Nat → Bool) (hps : Nat → Nat) (ov : Nat → Int64) (v : Int32) (w : Int32) (hI : XI c g hid code ans dbt opn) : Met l yL_told wsL_told ({ frames := 7, cells := 1, slots := 6, locals := 111 }) (va_Pc [.ref (ad 0), .int (v), .int (w), .ref (ao)] (Iv D (TY cI cZ cG cJ) A (WX ad cI cZ c g hid code ans dbt opn ply hps (OL ao cJ ov :: wr2)))) (va_Qi (fun r (u : XSt × (Nat → Int64)) => (r = nI 0 ∧ ∃ (ρ9 : Int32) (w9 : Nat × Nat), (ρ9 = nI (tldV c code ans dbt w9.1 w9.2) ∧ w9.1 < g ∧ v = nI w9.1 ∧ w9.2 < 6 ∧ w = nI w9.2) ∧ u.1 = (c, g, hid, code, ans, dbt, opn, ply, hps) ∧ u.2 0 = ρ9.toInt64) ∨ (r = nI 1 ∧ (gsC g v = false ∨ rgC 6 w = false) ∧ u.1 = (c, g, hid, code, ans, dbt, opn, ply, hps))) (fun u => Wd D A (WX ad cI cZ u.1.1 u.1.2.1 u.1.2.2.1 u.1.2.2.2.1 u.1.2.2.2.2.1 u.1.2.2.2.2.2.1 u.1.2.2.2.2.2.2.1 u.1.2.2.2.2.2.2.2.1 u.1.2.2.2.2.2.2.2.2 (OL ao cJ u.2 :: wr2))) A) 1 6 A := by
  refine va_MetW (cc := cL_told) (maxL := 5) (ret := (some .int)) (by decide) rfl ?_
  intro p e s m args below meth c9 s₁ B hml hv
  obtain ⟨rfl, hP, hD, hB⟩ := hv
  have hK := hB.1
  have hA := hB.2.1
  have hx := B.exec
  have hb := B.bytes
  have hr := B.returns
  have hts := atoms_spec (ws := wsL_told) B.pre
  have hown : s.vm.findClass RL = some m.cls := findClass_of_methodNamed B.named
  have hlocks := B.notSynchronized
  have hS : va_S A s.heap s.heap [] := va_S.rf
  have htab := vx_table (x := yL_told) B (hts _ List.mem_cons_self)
  have hl := lv_entry ([.ref (ad 0), .int (v), .int (w), .ref (ao)]) (n := 5) (Nat.le_of_ble_eq_true rfl)
  rw [lg_entry_eq]
  generalize (lg_sl ([.ref (ad 0), .int (v), .int (w), .ref (ao)]) ++ List.replicate (5 - (lg_sl ([.ref (ad 0), .int (v), .int (w), .ref (ao)])).length) Slot.unset).toArray = ls at hl ⊢
  have hl : lv_has ls 5 [(0, .ref (ad 0)), (1, .int (v)), (2, .int (w)), (3, .ref (ao))] := hl
  obtain ⟨H, eH⟩ : ∃ q, q = s.heap := ⟨_, rfl⟩
  obtain ⟨locs, eL⟩ : ∃ q : List Loc, q = [] := ⟨_, rfl⟩
  replace hP : va_P D vwCl (WX ad cI cZ c g hid code ans dbt opn ply hps (OL ao cJ ov :: wr2)) H := by rw [eH]; exact hP
  replace hS : va_S A s.heap H locs := by rw [eH, eL]; exact hS
  rw [show W p l e _ s m _ below meth c9 s.heap [] = W p l e _ s m _ below meth c9 H locs from by rw [eH, eL]]
  clear eH eL
  refine lv_aload_n hx hb dL_told_0 rfl (lv_at hl 3 rfl) ?_
  refine lv_iconst (v := nI (0)) hx hb dL_told_1 (by decide) ?_
  refine lv_aload_n hx hb dL_told_2 rfl (lv_at hl 0 rfl) ?_
  refine lv_iload_n hx hb dL_told_3 rfl (lv_at hl 1 rfl) ?_
  refine lv_iload_n hx hb dL_told_4 rfl (lv_at hl 2 rfl) ?_
  refine vx_calli (vx_runV (As := [.int (v), .int (w)]) (rest := [.int (nI (0)), .ref (ao)]) ⟨hx, hb, hml, hown, hts⟩ (c_X1_told l hfl D cI cZ cG cJ A ad (OL ao cJ ov :: wr2) (pal_up hpal) c g hid code ans dbt opn ply hps v w (hI)) (cwV 2 hts gL_told_X1_told rfl rfl rfl (by decide +kernel) ⟨Nat.le_of_ble_eq_true rfl, Nat.le_of_ble_eq_true rfl⟩) (preV (ci := 1) (q0 := 0) hB hS hP hD rfl rfl) rfl rfl hl.1 rfl (lv_room (Nat.le_of_ble_eq_true rfl)) dL_told_5 ⟨Nat.le_of_ble_eq_true rfl, Nat.le_of_ble_eq_true rfl⟩) hS (fun q _ h => h) (fun q h => h) (fun q _ h => h) (fun E ce q9 u9 t9 H1 locs1 ht9 hvm9 hpx8 hBx hz9 hk9 hS hq9 hv9 hcl9 => ?_) (fun r_5 u_5 t9 H1 locs1 ht9 hvm9 hw_5 hBw hz9 hk9 hS => ?_)
  · obtain ⟨hpx9, hP1, hD1⟩ := hBx
    rw [ht9] at hP1
    rcases hpx9 with ⟨rfl, hc9⟩
    · refine L_catch0 hown htab (by decide) (by decide) (hts _ (by decide +kernel)) (va_Nw.use rfl (hB.2.2.2.2.1 _ (by simp [Nws]))) hq9 hv9 hcl9 ?_
      replace hP := hP1; replace hD := hD1
      clear hP1 hD1
      generalize H1 = H at hP hS ⊢
      generalize locs1 = locs at hS ⊢
      refine lv_astore (lv' := [(4, .ref (q9)), (0, .ref (ad 0)), (1, .int (v)), (2, .int (w)), (3, .ref (ao))]) hx hb dL_told_13 hl (by decide) rfl (fun ls hl => ?_)
      refine lv_iconst (v := nI (1)) hx hb dL_told_15 (by decide) ?_
      exact W.iret (v := nI (1)) hx hb hr (fun t ht hW => ⟨⟨_, ((c, g, hid, code, ans, dbt, opn, ply, hps), ov), rfl, (by
          exact Or.inr ⟨rfl, hc9, rfl⟩), ⟨by rw [ht]; exact hP, hD⟩⟩, hS.F ht⟩) hS.2.2 dL_told_16
  obtain ⟨hP, hD⟩ := hBw
  rw [ht9] at hP
  generalize H1 = H at hP hS ⊢
  generalize locs1 = locs at hS ⊢
  replace hP : va_P D vwCl (WX ad cI cZ c g hid code ans dbt opn ply hps (OL ao cJ ov :: wr2)) H := hP
  replace hD : va_D A (WX ad cI cZ c g hid code ans dbt opn ply hps (OL ao cJ ov :: wr2)) := hD
  refine lv_i2l hx hb dL_told_8 rfl ?_
  refine va_last hx hb hK hP hD hS 7 3 rfl rfl (vp_in_nI (n := 0) (N := 1) (by decide) (by decide)) dL_told_9 (fun H locs hP hD hS => ?_)
  replace hP : va_P D vwCl (WX ad cI cZ c g hid code ans dbt opn ply hps (OL ao cJ (vp_updL ov (nI 0).toNatClampNeg ((r_5).toInt64)) :: wr2)) H := hP
  replace hD : va_D A (WX ad cI cZ c g hid code ans dbt opn ply hps (OL ao cJ (vp_updL ov (nI 0).toNatClampNeg ((r_5).toInt64)) :: wr2)) := hD
  refine lv_goto (tgt := 17) hx hb dL_told_10 (by decide) ?_
  refine lv_iconst (v := nI (0)) hx hb dL_told_17 (by decide) ?_
  exact W.iret (v := nI (0)) hx hb hr (fun t ht hW => ⟨⟨_, ((c, g, hid, code, ans, dbt, opn, ply, hps), (vp_updL ov (nI 0).toNatClampNeg ((r_5).toInt64))), rfl, (by
      exact Or.inl ⟨rfl, r_5, u_5, hw_5, rfl, ov_0 (f := ov)⟩), ⟨by rw [ht]; exact hP, hD⟩⟩, hS.F ht⟩) hS.2.2 dL_told_18

set_option maxHeartbeats 4000000 in
set_option maxRecDepth 100000 in
theorem c_L_count (l : Launch) (hfl : l.flags = flags0) (D : va_G) (cI cZ cG cJ : ClassId) (A : Nat → Prop) (ad : Nat → Nat) (ao : Nat) (wr2 : va_W) (hpal : Pals cI cG ad wr2) (c : Nat) (g : Nat) (hid : Int32) (code : Nat → Nat) (ans : Nat → Nat) (dbt : Nat → Bool) (opn : Nat → Bool) (ply : Nat → Bool) (hps : Nat → Nat) (ov : Nat → Int64) (w : Int32) (hI : XI c g hid code ans dbt opn) : Met l yL_count wsL_count ({ frames := 7, cells := 1, slots := 6, locals := 103 }) (va_Pc [.ref (ad 0), .int (w), .ref (ao)] (Iv D (TY cI cZ cG cJ) A (WX ad cI cZ c g hid code ans dbt opn ply hps (OL ao cJ ov :: wr2)))) (va_Qi (fun r (u : XSt × (Nat → Int64)) => (r = nI 0 ∧ ∃ (ρ9 : Int32) (w9 : Nat), (ρ9 = nI (cntV c g hid code ans dbt w9) ∧ w9 < 7 ∧ w = nI w9) ∧ u.1 = (c, g, hid, code, ans, dbt, opn, ply, hps) ∧ u.2 0 = ρ9.toInt64) ∨ (r = nI 1 ∧ (rgC 7 w = false) ∧ u.1 = (c, g, hid, code, ans, dbt, opn, ply, hps))) (fun u => Wd D A (WX ad cI cZ u.1.1 u.1.2.1 u.1.2.2.1 u.1.2.2.2.1 u.1.2.2.2.2.1 u.1.2.2.2.2.2.1 u.1.2.2.2.2.2.2.1 u.1.2.2.2.2.2.2.2.1 u.1.2.2.2.2.2.2.2.2 (OL ao cJ u.2 :: wr2))) A) 1 6 A := by
  refine va_MetW (cc := cL_count) (maxL := 4) (ret := (some .int)) (by decide) rfl ?_
  intro p e s m args below meth c9 s₁ B hml hv
  obtain ⟨rfl, hP, hD, hB⟩ := hv
  have hK := hB.1
  have hA := hB.2.1
  have hx := B.exec
  have hb := B.bytes
  have hr := B.returns
  have hts := atoms_spec (ws := wsL_count) B.pre
  have hown : s.vm.findClass RL = some m.cls := findClass_of_methodNamed B.named
  have hlocks := B.notSynchronized
  have hS : va_S A s.heap s.heap [] := va_S.rf
  have htab := vx_table (x := yL_count) B (hts _ List.mem_cons_self)
  have hl := lv_entry ([.ref (ad 0), .int (w), .ref (ao)]) (n := 4) (Nat.le_of_ble_eq_true rfl)
  rw [lg_entry_eq]
  generalize (lg_sl ([.ref (ad 0), .int (w), .ref (ao)]) ++ List.replicate (4 - (lg_sl ([.ref (ad 0), .int (w), .ref (ao)])).length) Slot.unset).toArray = ls at hl ⊢
  have hl : lv_has ls 4 [(0, .ref (ad 0)), (1, .int (w)), (2, .ref (ao))] := hl
  obtain ⟨H, eH⟩ : ∃ q, q = s.heap := ⟨_, rfl⟩
  obtain ⟨locs, eL⟩ : ∃ q : List Loc, q = [] := ⟨_, rfl⟩
  replace hP : va_P D vwCl (WX ad cI cZ c g hid code ans dbt opn ply hps (OL ao cJ ov :: wr2)) H := by rw [eH]; exact hP
  replace hS : va_S A s.heap H locs := by rw [eH, eL]; exact hS
  rw [show W p l e _ s m _ below meth c9 s.heap [] = W p l e _ s m _ below meth c9 H locs from by rw [eH, eL]]
  clear eH eL
  refine lv_aload_n hx hb dL_count_0 rfl (lv_at hl 2 rfl) ?_
  refine lv_iconst (v := nI (0)) hx hb dL_count_1 (by decide) ?_
  refine lv_aload_n hx hb dL_count_2 rfl (lv_at hl 0 rfl) ?_
  refine lv_iload_n hx hb dL_count_3 rfl (lv_at hl 1 rfl) ?_
  refine vx_calli (vx_runV (As := [.int (w)]) (rest := [.int (nI (0)), .ref (ao)]) ⟨hx, hb, hml, hown, hts⟩ (c_X1_count l hfl D cI cZ cG cJ A ad (OL ao cJ ov :: wr2) (pal_up hpal) c g hid code ans dbt opn ply hps w (hI)) (cwV 1 hts gL_count_X1_count rfl rfl rfl (by decide +kernel) ⟨Nat.le_of_ble_eq_true rfl, Nat.le_of_ble_eq_true rfl⟩) (preV (ci := 1) (q0 := 0) hB hS hP hD rfl rfl) rfl rfl hl.1 rfl (lv_room (Nat.le_of_ble_eq_true rfl)) dL_count_4 ⟨Nat.le_of_ble_eq_true rfl, Nat.le_of_ble_eq_true rfl⟩) hS (fun q _ h => h) (fun q h => h) (fun q _ h => h) (fun E ce q9 u9 t9 H1 locs1 ht9 hvm9 hpx8 hBx hz9 hk9 hS hq9 hv9 hcl9 => ?_) (fun r_4 u_4 t9 H1 locs1 ht9 hvm9 hw_4 hBw hz9 hk9 hS => ?_)
  · obtain ⟨hpx9, hP1, hD1⟩ := hBx
    rw [ht9] at hP1
    rcases hpx9 with ⟨rfl, hc9⟩
    · refine L_catch0 hown htab (by decide) (by decide) (hts _ (by decide +kernel)) (va_Nw.use rfl (hB.2.2.2.2.1 _ (by simp [Nws]))) hq9 hv9 hcl9 ?_
      replace hP := hP1; replace hD := hD1
      clear hP1 hD1
      generalize H1 = H at hP hS ⊢
      generalize locs1 = locs at hS ⊢
      refine lv_astore_n (lv' := [(3, .ref (q9)), (0, .ref (ad 0)), (1, .int (w)), (2, .ref (ao))]) hx hb dL_count_12 rfl hl (by decide) rfl (fun ls hl => ?_)
      refine lv_iconst (v := nI (1)) hx hb dL_count_13 (by decide) ?_
      exact W.iret (v := nI (1)) hx hb hr (fun t ht hW => ⟨⟨_, ((c, g, hid, code, ans, dbt, opn, ply, hps), ov), rfl, (by
          exact Or.inr ⟨rfl, hc9, rfl⟩), ⟨by rw [ht]; exact hP, hD⟩⟩, hS.F ht⟩) hS.2.2 dL_count_14
  obtain ⟨hP, hD⟩ := hBw
  rw [ht9] at hP
  generalize H1 = H at hP hS ⊢
  generalize locs1 = locs at hS ⊢
  replace hP : va_P D vwCl (WX ad cI cZ c g hid code ans dbt opn ply hps (OL ao cJ ov :: wr2)) H := hP
  replace hD : va_D A (WX ad cI cZ c g hid code ans dbt opn ply hps (OL ao cJ ov :: wr2)) := hD
  refine lv_i2l hx hb dL_count_7 rfl ?_
  refine va_last hx hb hK hP hD hS 7 3 rfl rfl (vp_in_nI (n := 0) (N := 1) (by decide) (by decide)) dL_count_8 (fun H locs hP hD hS => ?_)
  replace hP : va_P D vwCl (WX ad cI cZ c g hid code ans dbt opn ply hps (OL ao cJ (vp_updL ov (nI 0).toNatClampNeg ((r_4).toInt64)) :: wr2)) H := hP
  replace hD : va_D A (WX ad cI cZ c g hid code ans dbt opn ply hps (OL ao cJ (vp_updL ov (nI 0).toNatClampNeg ((r_4).toInt64)) :: wr2)) := hD
  refine lv_goto (tgt := 15) hx hb dL_count_9 (by decide) ?_
  refine lv_iconst (v := nI (0)) hx hb dL_count_15 (by decide) ?_
  exact W.iret (v := nI (0)) hx hb hr (fun t ht hW => ⟨⟨_, ((c, g, hid, code, ans, dbt, opn, ply, hps), (vp_updL ov (nI 0).toNatClampNeg ((r_4).toInt64))), rfl, (by
      exact Or.inl ⟨rfl, r_4, u_4, hw_4, rfl, ov_0 (f := ov)⟩), ⟨by rw [ht]; exact hP, hD⟩⟩, hS.F ht⟩) hS.2.2 dL_count_16

set_option maxHeartbeats 4000000 in
set_option maxRecDepth 100000 in
theorem c_L_isPossible (l : Launch) (hfl : l.flags = flags0) (D : va_G) (cI cZ cG cJ : ClassId) (A : Nat → Prop) (ad : Nat → Nat) (ao : Nat) (wr2 : va_W) (hpal : Pals cI cG ad wr2) (c : Nat) (g : Nat) (hid : Int32) (code : Nat → Nat) (ans : Nat → Nat) (dbt : Nat → Bool) (opn : Nat → Bool) (ply : Nat → Bool) (hps : Nat → Nat) (ov : Nat → Int64) (v : Int32) (hI : XI c g hid code ans dbt opn) : Met l yL_isPossible wsL_isPossible ({ frames := 8, cells := 1, slots := 6, locals := 124 }) (va_Pc [.ref (ad 0), .int (v), .ref (ao)] (Iv D (TY cI cZ cG cJ) A (WX ad cI cZ c g hid code ans dbt opn ply hps (OL ao cJ ov :: wr2)))) (va_Qi (fun r (u : XSt × (Nat → Int64)) => (r = nI 0 ∧ ∃ (ρ9 : Int32) (w9 : Nat), (ρ9 = bI (opS c g code ans dbt w9) ∧ w9 < qq c ∧ v = nI w9) ∧ u.1 = (c, g, hid, code, ans, dbt, opn, ply, hps) ∧ u.2 0 = (if ρ9 = 0 then 0 else 1)) ∨ (r = nI 1 ∧ (hasC c v = false) ∧ u.1 = (c, g, hid, code, ans, dbt, opn, ply, hps))) (fun u => Wd D A (WX ad cI cZ u.1.1 u.1.2.1 u.1.2.2.1 u.1.2.2.2.1 u.1.2.2.2.2.1 u.1.2.2.2.2.2.1 u.1.2.2.2.2.2.2.1 u.1.2.2.2.2.2.2.2.1 u.1.2.2.2.2.2.2.2.2 (OL ao cJ u.2 :: wr2))) A) 1 6 A := by
  refine va_MetW (cc := cL_isPossible) (maxL := 4) (ret := (some .int)) (by decide) rfl ?_
  intro p e s m args below meth c9 s₁ B hml hv
  obtain ⟨rfl, hP, hD, hB⟩ := hv
  have hK := hB.1
  have hA := hB.2.1
  have hx := B.exec
  have hb := B.bytes
  have hr := B.returns
  have hts := atoms_spec (ws := wsL_isPossible) B.pre
  have hown : s.vm.findClass RL = some m.cls := findClass_of_methodNamed B.named
  have hlocks := B.notSynchronized
  have hS : va_S A s.heap s.heap [] := va_S.rf
  have htab := vx_table (x := yL_isPossible) B (hts _ List.mem_cons_self)
  have hl := lv_entry ([.ref (ad 0), .int (v), .ref (ao)]) (n := 4) (Nat.le_of_ble_eq_true rfl)
  rw [lg_entry_eq]
  generalize (lg_sl ([.ref (ad 0), .int (v), .ref (ao)]) ++ List.replicate (4 - (lg_sl ([.ref (ad 0), .int (v), .ref (ao)])).length) Slot.unset).toArray = ls at hl ⊢
  have hl : lv_has ls 4 [(0, .ref (ad 0)), (1, .int (v)), (2, .ref (ao))] := hl
  obtain ⟨H, eH⟩ : ∃ q, q = s.heap := ⟨_, rfl⟩
  obtain ⟨locs, eL⟩ : ∃ q : List Loc, q = [] := ⟨_, rfl⟩
  replace hP : va_P D vwCl (WX ad cI cZ c g hid code ans dbt opn ply hps (OL ao cJ ov :: wr2)) H := by rw [eH]; exact hP
  replace hS : va_S A s.heap H locs := by rw [eH, eL]; exact hS
  rw [show W p l e _ s m _ below meth c9 s.heap [] = W p l e _ s m _ below meth c9 H locs from by rw [eH, eL]]
  clear eH eL
  refine lv_aload_n hx hb dL_isPossible_0 rfl (lv_at hl 2 rfl) ?_
  refine lv_iconst (v := nI (0)) hx hb dL_isPossible_1 (by decide) ?_
  refine lv_aload_n hx hb dL_isPossible_2 rfl (lv_at hl 0 rfl) ?_
  refine lv_iload_n hx hb dL_isPossible_3 rfl (lv_at hl 1 rfl) ?_
  refine vx_calli (vx_runV (As := [.int (v)]) (rest := [.int (nI (0)), .ref (ao)]) ⟨hx, hb, hml, hown, hts⟩ (c_X1_isPossible l hfl D cI cZ cG cJ A ad (OL ao cJ ov :: wr2) (pal_up hpal) c g hid code ans dbt opn ply hps v (hI)) (cwV 1 hts gL_isPossible_X1_isPossible rfl rfl rfl (by decide +kernel) ⟨Nat.le_of_ble_eq_true rfl, Nat.le_of_ble_eq_true rfl⟩) (preV (ci := 1) (q0 := 0) hB hS hP hD rfl rfl) rfl rfl hl.1 rfl (lv_room (Nat.le_of_ble_eq_true rfl)) dL_isPossible_4 ⟨Nat.le_of_ble_eq_true rfl, Nat.le_of_ble_eq_true rfl⟩) hS (fun q _ h => h) (fun q h => h) (fun q _ h => h) (fun E ce q9 u9 t9 H1 locs1 ht9 hvm9 hpx8 hBx hz9 hk9 hS hq9 hv9 hcl9 => ?_) (fun r_4 u_4 t9 H1 locs1 ht9 hvm9 hw_4 hBw hz9 hk9 hS => ?_)
  · obtain ⟨hpx9, hP1, hD1⟩ := hBx
    rw [ht9] at hP1
    rcases hpx9 with ⟨rfl, hc9⟩
    · refine L_catch0 hown htab (by decide) (by decide) (hts _ (by decide +kernel)) (va_Nw.use rfl (hB.2.2.2.2.1 _ (by simp [Nws]))) hq9 hv9 hcl9 ?_
      replace hP := hP1; replace hD := hD1
      clear hP1 hD1
      generalize H1 = H at hP hS ⊢
      generalize locs1 = locs at hS ⊢
      refine lv_astore_n (lv' := [(3, .ref (q9)), (0, .ref (ad 0)), (1, .int (v)), (2, .ref (ao))]) hx hb dL_isPossible_19 rfl hl (by decide) rfl (fun ls hl => ?_)
      refine lv_iconst (v := nI (1)) hx hb dL_isPossible_20 (by decide) ?_
      exact W.iret (v := nI (1)) hx hb hr (fun t ht hW => ⟨⟨_, ((c, g, hid, code, ans, dbt, opn, ply, hps), ov), rfl, (by
          exact Or.inr ⟨rfl, hc9, rfl⟩), ⟨by rw [ht]; exact hP, hD⟩⟩, hS.F ht⟩) hS.2.2 dL_isPossible_21
  obtain ⟨hP, hD⟩ := hBw
  rw [ht9] at hP
  generalize H1 = H at hP hS ⊢
  generalize locs1 = locs at hS ⊢
  replace hP : va_P D vwCl (WX ad cI cZ c g hid code ans dbt opn ply hps (OL ao cJ ov :: wr2)) H := hP
  replace hD : va_D A (WX ad cI cZ c g hid code ans dbt opn ply hps (OL ao cJ ov :: wr2)) := hD
  refine lv_if_eq (tgt := 14) hx hb dL_isPossible_7 (by decide) (fun c7 => ?_) (fun c7 => ?_)
  · skip
    refine lv_lconst (v := 0) hx hb dL_isPossible_14 (by decide) ?_
    refine va_last hx hb hK hP hD hS 7 3 rfl rfl (vp_in_nI (n := 0) (N := 1) (by decide) (by decide)) dL_isPossible_15 (fun H locs hP hD hS => ?_)
    replace hP : va_P D vwCl (WX ad cI cZ c g hid code ans dbt opn ply hps (OL ao cJ (vp_updL ov (nI 0).toNatClampNeg (0)) :: wr2)) H := hP
    replace hD : va_D A (WX ad cI cZ c g hid code ans dbt opn ply hps (OL ao cJ (vp_updL ov (nI 0).toNatClampNeg (0)) :: wr2)) := hD
    refine lv_goto (tgt := 22) hx hb dL_isPossible_16 (by decide) ?_
    refine lv_iconst (v := nI (0)) hx hb dL_isPossible_22 (by decide) ?_
    exact W.iret (v := nI (0)) hx hb hr (fun t ht hW => ⟨⟨_, ((c, g, hid, code, ans, dbt, opn, ply, hps), (vp_updL ov (nI 0).toNatClampNeg (0))), rfl, (by
        exact Or.inl ⟨rfl, r_4, u_4, hw_4, rfl, by first | (rw [if_pos c7]; exact ov_0 (f := ov)) | (rw [if_neg c7]; exact ov_0 (f := ov))⟩), ⟨by rw [ht]; exact hP, hD⟩⟩, hS.F ht⟩) hS.2.2 dL_isPossible_23
  · skip
    refine lv_lconst (v := 1) hx hb dL_isPossible_10 (by decide) ?_
    refine lv_goto (tgt := 15) hx hb dL_isPossible_11 (by decide) ?_
    refine va_last hx hb hK hP hD hS 7 3 rfl rfl (vp_in_nI (n := 0) (N := 1) (by decide) (by decide)) dL_isPossible_15 (fun H locs hP hD hS => ?_)
    replace hP : va_P D vwCl (WX ad cI cZ c g hid code ans dbt opn ply hps (OL ao cJ (vp_updL ov (nI 0).toNatClampNeg (1)) :: wr2)) H := hP
    replace hD : va_D A (WX ad cI cZ c g hid code ans dbt opn ply hps (OL ao cJ (vp_updL ov (nI 0).toNatClampNeg (1)) :: wr2)) := hD
    refine lv_goto (tgt := 22) hx hb dL_isPossible_16 (by decide) ?_
    refine lv_iconst (v := nI (0)) hx hb dL_isPossible_22 (by decide) ?_
    exact W.iret (v := nI (0)) hx hb hr (fun t ht hW => ⟨⟨_, ((c, g, hid, code, ans, dbt, opn, ply, hps), (vp_updL ov (nI 0).toNatClampNeg (1))), rfl, (by
        exact Or.inl ⟨rfl, r_4, u_4, hw_4, rfl, by first | (rw [if_pos c7]; exact ov_0 (f := ov)) | (rw [if_neg c7]; exact ov_0 (f := ov))⟩), ⟨by rw [ht]; exact hP, hD⟩⟩, hS.F ht⟩) hS.2.2 dL_isPossible_23

set_option maxHeartbeats 4000000 in
set_option maxRecDepth 100000 in
theorem c_L_possible (l : Launch) (hfl : l.flags = flags0) (D : va_G) (cI cZ cG cJ : ClassId) (A : Nat → Prop) (ad : Nat → Nat) (ao : Nat) (wr2 : va_W) (hpal : Pals cI cG ad wr2) (c : Nat) (g : Nat) (hid : Int32) (code : Nat → Nat) (ans : Nat → Nat) (dbt : Nat → Bool) (opn : Nat → Bool) (ply : Nat → Bool) (hps : Nat → Nat) (ov : Nat → Int64) (v : Int32) (hI : XI c g hid code ans dbt opn) : Met l yL_possible wsL_possible ({ frames := 7, cells := 1, slots := 6, locals := 104 }) (va_Pc [.ref (ad 0), .int (v), .ref (ao)] (Iv D (TY cI cZ cG cJ) A (WX ad cI cZ c g hid code ans dbt opn ply hps (OL ao cJ ov :: wr2)))) (va_Qi (fun r (u : XSt × (Nat → Int64)) => (r = nI 0 ∧ ∃ (ρ9 : Int32) (w9 : Unit), (ρ9 = memA (opS c g code ans dbt) v 81 ∧ ¬ memA (opS c g code ans dbt) v 81 = -1) ∧ u.1 = (c, g, hid, code, ans, dbt, opn, ply, hps) ∧ u.2 0 = ρ9.toInt64) ∨ (r = nI 1 ∧ (memA (opS c g code ans dbt) v 81 = -1) ∧ u.1 = (c, g, hid, code, ans, dbt, opn, ply, hps))) (fun u => Wd D A (WX ad cI cZ u.1.1 u.1.2.1 u.1.2.2.1 u.1.2.2.2.1 u.1.2.2.2.2.1 u.1.2.2.2.2.2.1 u.1.2.2.2.2.2.2.1 u.1.2.2.2.2.2.2.2.1 u.1.2.2.2.2.2.2.2.2 (OL ao cJ u.2 :: wr2))) A) 1 6 A := by
  refine va_MetW (cc := cL_possible) (maxL := 4) (ret := (some .int)) (by decide) rfl ?_
  intro p e s m args below meth c9 s₁ B hml hv
  obtain ⟨rfl, hP, hD, hB⟩ := hv
  have hK := hB.1
  have hA := hB.2.1
  have hx := B.exec
  have hb := B.bytes
  have hr := B.returns
  have hts := atoms_spec (ws := wsL_possible) B.pre
  have hown : s.vm.findClass RL = some m.cls := findClass_of_methodNamed B.named
  have hlocks := B.notSynchronized
  have hS : va_S A s.heap s.heap [] := va_S.rf
  have htab := vx_table (x := yL_possible) B (hts _ List.mem_cons_self)
  have hl := lv_entry ([.ref (ad 0), .int (v), .ref (ao)]) (n := 4) (Nat.le_of_ble_eq_true rfl)
  rw [lg_entry_eq]
  generalize (lg_sl ([.ref (ad 0), .int (v), .ref (ao)]) ++ List.replicate (4 - (lg_sl ([.ref (ad 0), .int (v), .ref (ao)])).length) Slot.unset).toArray = ls at hl ⊢
  have hl : lv_has ls 4 [(0, .ref (ad 0)), (1, .int (v)), (2, .ref (ao))] := hl
  obtain ⟨H, eH⟩ : ∃ q, q = s.heap := ⟨_, rfl⟩
  obtain ⟨locs, eL⟩ : ∃ q : List Loc, q = [] := ⟨_, rfl⟩
  replace hP : va_P D vwCl (WX ad cI cZ c g hid code ans dbt opn ply hps (OL ao cJ ov :: wr2)) H := by rw [eH]; exact hP
  replace hS : va_S A s.heap H locs := by rw [eH, eL]; exact hS
  rw [show W p l e _ s m _ below meth c9 s.heap [] = W p l e _ s m _ below meth c9 H locs from by rw [eH, eL]]
  clear eH eL
  refine lv_aload_n hx hb dL_possible_0 rfl (lv_at hl 2 rfl) ?_
  refine lv_iconst (v := nI (0)) hx hb dL_possible_1 (by decide) ?_
  refine lv_aload_n hx hb dL_possible_2 rfl (lv_at hl 0 rfl) ?_
  refine lv_iload_n hx hb dL_possible_3 rfl (lv_at hl 1 rfl) ?_
  refine vx_calli (vx_runV (As := [.int (v)]) (rest := [.int (nI (0)), .ref (ao)]) ⟨hx, hb, hml, hown, hts⟩ (c_X1_possible l hfl D cI cZ cG cJ A ad (OL ao cJ ov :: wr2) (pal_up hpal) c g hid code ans dbt opn ply hps v (hI)) (cwV 1 hts gL_possible_X1_possible rfl rfl rfl (by decide +kernel) ⟨Nat.le_of_ble_eq_true rfl, Nat.le_of_ble_eq_true rfl⟩) (preV (ci := 1) (q0 := 0) hB hS hP hD rfl rfl) rfl rfl hl.1 rfl (lv_room (Nat.le_of_ble_eq_true rfl)) dL_possible_4 ⟨Nat.le_of_ble_eq_true rfl, Nat.le_of_ble_eq_true rfl⟩) hS (fun q _ h => h) (fun q h => h) (fun q _ h => h) (fun E ce q9 u9 t9 H1 locs1 ht9 hvm9 hpx8 hBx hz9 hk9 hS hq9 hv9 hcl9 => ?_) (fun r_4 u_4 t9 H1 locs1 ht9 hvm9 hw_4 hBw hz9 hk9 hS => ?_)
  · obtain ⟨hpx9, hP1, hD1⟩ := hBx
    rw [ht9] at hP1
    rcases hpx9 with ⟨rfl, hc9⟩
    · refine L_catch0 hown htab (by decide) (by decide) (hts _ (by decide +kernel)) (va_Nw.use rfl (hB.2.2.2.2.1 _ (by simp [Nws]))) hq9 hv9 hcl9 ?_
      replace hP := hP1; replace hD := hD1
      clear hP1 hD1
      generalize H1 = H at hP hS ⊢
      generalize locs1 = locs at hS ⊢
      refine lv_astore_n (lv' := [(3, .ref (q9)), (0, .ref (ad 0)), (1, .int (v)), (2, .ref (ao))]) hx hb dL_possible_12 rfl hl (by decide) rfl (fun ls hl => ?_)
      refine lv_iconst (v := nI (1)) hx hb dL_possible_13 (by decide) ?_
      exact W.iret (v := nI (1)) hx hb hr (fun t ht hW => ⟨⟨_, ((c, g, hid, code, ans, dbt, opn, ply, hps), ov), rfl, (by
          exact Or.inr ⟨rfl, hc9, rfl⟩), ⟨by rw [ht]; exact hP, hD⟩⟩, hS.F ht⟩) hS.2.2 dL_possible_14
  obtain ⟨hP, hD⟩ := hBw
  rw [ht9] at hP
  generalize H1 = H at hP hS ⊢
  generalize locs1 = locs at hS ⊢
  replace hP : va_P D vwCl (WX ad cI cZ c g hid code ans dbt opn ply hps (OL ao cJ ov :: wr2)) H := hP
  replace hD : va_D A (WX ad cI cZ c g hid code ans dbt opn ply hps (OL ao cJ ov :: wr2)) := hD
  refine lv_i2l hx hb dL_possible_7 rfl ?_
  refine va_last hx hb hK hP hD hS 7 3 rfl rfl (vp_in_nI (n := 0) (N := 1) (by decide) (by decide)) dL_possible_8 (fun H locs hP hD hS => ?_)
  replace hP : va_P D vwCl (WX ad cI cZ c g hid code ans dbt opn ply hps (OL ao cJ (vp_updL ov (nI 0).toNatClampNeg ((r_4).toInt64)) :: wr2)) H := hP
  replace hD : va_D A (WX ad cI cZ c g hid code ans dbt opn ply hps (OL ao cJ (vp_updL ov (nI 0).toNatClampNeg ((r_4).toInt64)) :: wr2)) := hD
  refine lv_goto (tgt := 15) hx hb dL_possible_9 (by decide) ?_
  refine lv_iconst (v := nI (0)) hx hb dL_possible_15 (by decide) ?_
  exact W.iret (v := nI (0)) hx hb hr (fun t ht hW => ⟨⟨_, ((c, g, hid, code, ans, dbt, opn, ply, hps), (vp_updL ov (nI 0).toNatClampNeg ((r_4).toInt64))), rfl, (by
      exact Or.inl ⟨rfl, r_4, u_4, hw_4, rfl, ov_0 (f := ov)⟩), ⟨by rw [ht]; exact hP, hD⟩⟩, hS.F ht⟩) hS.2.2 dL_possible_16

set_option maxHeartbeats 4000000 in
set_option maxRecDepth 100000 in
theorem c_L_have (l : Launch) (hfl : l.flags = flags0) (D : va_G) (cI cZ cG cJ : ClassId) (A : Nat → Prop) (ad : Nat → Nat) (ao : Nat) (wr2 : va_W) (hpal : Pals cI cG ad wr2) (c : Nat) (g : Nat) (hid : Int32) (code : Nat → Nat) (ans : Nat → Nat) (dbt : Nat → Bool) (opn : Nat → Bool) (ply : Nat → Bool) (hps : Nat → Nat) (ov : Nat → Int64) (pl : Int32) (x : Int32) (hI : XI c g hid code ans dbt opn) : Met l yL_have wsL_have ({ frames := 8, cells := 2, slots := 12, locals := 124 }) (va_Pc [.ref (ad 0), .int (pl), .int (x), .ref (ao)] (Iv D (TY cI cZ cG cJ) A (WX ad cI cZ c g hid code ans dbt opn ply hps (OL ao cJ ov :: wr2)))) (va_Qi (fun r (u : XSt × (Nat → Int64)) => (r = nI 0 ∧ ∃ (ρ9 : Int32) (w9 : Nat × Nat), (ρ9 = nI (hvN c (opS c g code ans dbt) w9.1 w9.2) ∧ w9.1 < 4 ∧ pl = nI w9.1 ∧ w9.2 < c ∧ x = nI w9.2) ∧ u.1 = (c, g, hid, code, ans, dbt, opn, ply, hps) ∧ u.2 0 = ρ9.toInt64) ∨ (r = nI 1 ∧ (plC pl = false ∨ rgC c x = false) ∧ u.1 = (c, g, hid, code, ans, dbt, opn, ply, hps))) (fun u => Wd D A (WX ad cI cZ u.1.1 u.1.2.1 u.1.2.2.1 u.1.2.2.2.1 u.1.2.2.2.2.1 u.1.2.2.2.2.2.1 u.1.2.2.2.2.2.2.1 u.1.2.2.2.2.2.2.2.1 u.1.2.2.2.2.2.2.2.2 (OL ao cJ u.2 :: wr2))) A) 2 12 A := by
  refine va_MetW (cc := cL_have) (maxL := 5) (ret := (some .int)) (by decide) rfl ?_
  intro p e s m args below meth c9 s₁ B hml hv
  obtain ⟨rfl, hP, hD, hB⟩ := hv
  have hK := hB.1
  have hA := hB.2.1
  have hx := B.exec
  have hb := B.bytes
  have hr := B.returns
  have hts := atoms_spec (ws := wsL_have) B.pre
  have hown : s.vm.findClass RL = some m.cls := findClass_of_methodNamed B.named
  have hlocks := B.notSynchronized
  have hS : va_S A s.heap s.heap [] := va_S.rf
  have htab := vx_table (x := yL_have) B (hts _ List.mem_cons_self)
  have hl := lv_entry ([.ref (ad 0), .int (pl), .int (x), .ref (ao)]) (n := 5) (Nat.le_of_ble_eq_true rfl)
  rw [lg_entry_eq]
  generalize (lg_sl ([.ref (ad 0), .int (pl), .int (x), .ref (ao)]) ++ List.replicate (5 - (lg_sl ([.ref (ad 0), .int (pl), .int (x), .ref (ao)])).length) Slot.unset).toArray = ls at hl ⊢
  have hl : lv_has ls 5 [(0, .ref (ad 0)), (1, .int (pl)), (2, .int (x)), (3, .ref (ao))] := hl
  obtain ⟨H, eH⟩ : ∃ q, q = s.heap := ⟨_, rfl⟩
  obtain ⟨locs, eL⟩ : ∃ q : List Loc, q = [] := ⟨_, rfl⟩
  replace hP : va_P D vwCl (WX ad cI cZ c g hid code ans dbt opn ply hps (OL ao cJ ov :: wr2)) H := by rw [eH]; exact hP
  replace hS : va_S A s.heap H locs := by rw [eH, eL]; exact hS
  rw [show W p l e _ s m _ below meth c9 s.heap [] = W p l e _ s m _ below meth c9 H locs from by rw [eH, eL]]
  clear eH eL
  refine lv_aload_n hx hb dL_have_0 rfl (lv_at hl 3 rfl) ?_
  refine lv_iconst (v := nI (0)) hx hb dL_have_1 (by decide) ?_
  refine lv_aload_n hx hb dL_have_2 rfl (lv_at hl 0 rfl) ?_
  refine lv_iload_n hx hb dL_have_3 rfl (lv_at hl 1 rfl) ?_
  refine lv_iload_n hx hb dL_have_4 rfl (lv_at hl 2 rfl) ?_
  refine vx_calli (vx_runV (As := [.int (pl), .int (x)]) (rest := [.int (nI (0)), .ref (ao)]) ⟨hx, hb, hml, hown, hts⟩ (c_X1_have l hfl D cI cZ cG cJ A ad (OL ao cJ ov :: wr2) (pal_up hpal) c g hid code ans dbt opn ply hps pl x (hI)) (cwV 2 hts gL_have_X1_have rfl rfl rfl (by decide +kernel) ⟨Nat.le_of_ble_eq_true rfl, Nat.le_of_ble_eq_true rfl⟩) (preV (ci := 1) (q0 := 0) hB hS hP hD rfl rfl) rfl rfl hl.1 rfl (lv_room (Nat.le_of_ble_eq_true rfl)) dL_have_5 ⟨Nat.le_of_ble_eq_true rfl, Nat.le_of_ble_eq_true rfl⟩) hS (fun q _ h => h) (fun q h => h) (fun q _ h => h) (fun E ce q9 u9 t9 H1 locs1 ht9 hvm9 hpx8 hBx hz9 hk9 hS hq9 hv9 hcl9 => ?_) (fun r_5 u_5 t9 H1 locs1 ht9 hvm9 hw_5 hBw hz9 hk9 hS => ?_)
  · obtain ⟨hpx9, hP1, hD1⟩ := hBx
    rw [ht9] at hP1
    rcases hpx9 with ⟨rfl, hc9⟩
    · refine L_catch0 hown htab (by decide) (by decide) (hts _ (by decide +kernel)) (va_Nw.use rfl (hB.2.2.2.2.1 _ (by simp [Nws]))) hq9 hv9 hcl9 ?_
      replace hP := hP1; replace hD := hD1
      clear hP1 hD1
      generalize H1 = H at hP hS ⊢
      generalize locs1 = locs at hS ⊢
      refine lv_astore (lv' := [(4, .ref (q9)), (0, .ref (ad 0)), (1, .int (pl)), (2, .int (x)), (3, .ref (ao))]) hx hb dL_have_13 hl (by decide) rfl (fun ls hl => ?_)
      refine lv_iconst (v := nI (1)) hx hb dL_have_15 (by decide) ?_
      exact W.iret (v := nI (1)) hx hb hr (fun t ht hW => ⟨⟨_, ((c, g, hid, code, ans, dbt, opn, ply, hps), ov), rfl, (by
          exact Or.inr ⟨rfl, hc9, rfl⟩), ⟨by rw [ht]; exact hP, hD⟩⟩, hS.F ht⟩) hS.2.2 dL_have_16
  obtain ⟨hP, hD⟩ := hBw
  rw [ht9] at hP
  generalize H1 = H at hP hS ⊢
  generalize locs1 = locs at hS ⊢
  replace hP : va_P D vwCl (WX ad cI cZ c g hid code ans dbt opn ply hps (OL ao cJ ov :: wr2)) H := hP
  replace hD : va_D A (WX ad cI cZ c g hid code ans dbt opn ply hps (OL ao cJ ov :: wr2)) := hD
  refine lv_i2l hx hb dL_have_8 rfl ?_
  refine va_last hx hb hK hP hD hS 7 3 rfl rfl (vp_in_nI (n := 0) (N := 1) (by decide) (by decide)) dL_have_9 (fun H locs hP hD hS => ?_)
  replace hP : va_P D vwCl (WX ad cI cZ c g hid code ans dbt opn ply hps (OL ao cJ (vp_updL ov (nI 0).toNatClampNeg ((r_5).toInt64)) :: wr2)) H := hP
  replace hD : va_D A (WX ad cI cZ c g hid code ans dbt opn ply hps (OL ao cJ (vp_updL ov (nI 0).toNatClampNeg ((r_5).toInt64)) :: wr2)) := hD
  refine lv_goto (tgt := 17) hx hb dL_have_10 (by decide) ?_
  refine lv_iconst (v := nI (0)) hx hb dL_have_17 (by decide) ?_
  exact W.iret (v := nI (0)) hx hb hr (fun t ht hW => ⟨⟨_, ((c, g, hid, code, ans, dbt, opn, ply, hps), (vp_updL ov (nI 0).toNatClampNeg ((r_5).toInt64))), rfl, (by
      exact Or.inl ⟨rfl, r_5, u_5, hw_5, rfl, ov_0 (f := ov)⟩), ⟨by rw [ht]; exact hP, hD⟩⟩, hS.F ht⟩) hS.2.2 dL_have_18

set_option maxHeartbeats 4000000 in
set_option maxRecDepth 100000 in
theorem c_L_sure (l : Launch) (hfl : l.flags = flags0) (D : va_G) (cI cZ cG cJ : ClassId) (A : Nat → Prop) (ad : Nat → Nat) (ao : Nat) (wr2 : va_W) (hpal : Pals cI cG ad wr2) (c : Nat) (g : Nat) (hid : Int32) (code : Nat → Nat) (ans : Nat → Nat) (dbt : Nat → Bool) (opn : Nat → Bool) (ply : Nat → Bool) (hps : Nat → Nat) (ov : Nat → Int64) (pl : Int32) (hI : XI c g hid code ans dbt opn) : Met l yL_sure wsL_sure ({ frames := 8, cells := 1, slots := 6, locals := 125 }) (va_Pc [.ref (ad 0), .int (pl), .ref (ao)] (Iv D (TY cI cZ cG cJ) A (WX ad cI cZ c g hid code ans dbt opn ply hps (OL ao cJ ov :: wr2)))) (va_Qi (fun r (u : XSt × (Nat → Int64)) => (r = nI 0 ∧ ∃ (ρ9 : Int32) (w9 : Nat), (ρ9 = sureV c (opS c g code ans dbt) w9 c ∧ w9 < 4 ∧ pl = nI w9) ∧ u.1 = (c, g, hid, code, ans, dbt, opn, ply, hps) ∧ u.2 0 = ρ9.toInt64) ∨ (r = nI 1 ∧ (plC pl = false) ∧ u.1 = (c, g, hid, code, ans, dbt, opn, ply, hps))) (fun u => Wd D A (WX ad cI cZ u.1.1 u.1.2.1 u.1.2.2.1 u.1.2.2.2.1 u.1.2.2.2.2.1 u.1.2.2.2.2.2.1 u.1.2.2.2.2.2.2.1 u.1.2.2.2.2.2.2.2.1 u.1.2.2.2.2.2.2.2.2 (OL ao cJ u.2 :: wr2))) A) 1 6 A := by
  refine va_MetW (cc := cL_sure) (maxL := 4) (ret := (some .int)) (by decide) rfl ?_
  intro p e s m args below meth c9 s₁ B hml hv
  obtain ⟨rfl, hP, hD, hB⟩ := hv
  have hK := hB.1
  have hA := hB.2.1
  have hx := B.exec
  have hb := B.bytes
  have hr := B.returns
  have hts := atoms_spec (ws := wsL_sure) B.pre
  have hown : s.vm.findClass RL = some m.cls := findClass_of_methodNamed B.named
  have hlocks := B.notSynchronized
  have hS : va_S A s.heap s.heap [] := va_S.rf
  have htab := vx_table (x := yL_sure) B (hts _ List.mem_cons_self)
  have hl := lv_entry ([.ref (ad 0), .int (pl), .ref (ao)]) (n := 4) (Nat.le_of_ble_eq_true rfl)
  rw [lg_entry_eq]
  generalize (lg_sl ([.ref (ad 0), .int (pl), .ref (ao)]) ++ List.replicate (4 - (lg_sl ([.ref (ad 0), .int (pl), .ref (ao)])).length) Slot.unset).toArray = ls at hl ⊢
  have hl : lv_has ls 4 [(0, .ref (ad 0)), (1, .int (pl)), (2, .ref (ao))] := hl
  obtain ⟨H, eH⟩ : ∃ q, q = s.heap := ⟨_, rfl⟩
  obtain ⟨locs, eL⟩ : ∃ q : List Loc, q = [] := ⟨_, rfl⟩
  replace hP : va_P D vwCl (WX ad cI cZ c g hid code ans dbt opn ply hps (OL ao cJ ov :: wr2)) H := by rw [eH]; exact hP
  replace hS : va_S A s.heap H locs := by rw [eH, eL]; exact hS
  rw [show W p l e _ s m _ below meth c9 s.heap [] = W p l e _ s m _ below meth c9 H locs from by rw [eH, eL]]
  clear eH eL
  refine lv_aload_n hx hb dL_sure_0 rfl (lv_at hl 2 rfl) ?_
  refine lv_iconst (v := nI (0)) hx hb dL_sure_1 (by decide) ?_
  refine lv_aload_n hx hb dL_sure_2 rfl (lv_at hl 0 rfl) ?_
  refine lv_iload_n hx hb dL_sure_3 rfl (lv_at hl 1 rfl) ?_
  refine vx_calli (vx_runV (As := [.int (pl)]) (rest := [.int (nI (0)), .ref (ao)]) ⟨hx, hb, hml, hown, hts⟩ (c_X1_sure l hfl D cI cZ cG cJ A ad (OL ao cJ ov :: wr2) (pal_up hpal) c g hid code ans dbt opn ply hps pl (hI)) (cwV 1 hts gL_sure_X1_sure rfl rfl rfl (by decide +kernel) ⟨Nat.le_of_ble_eq_true rfl, Nat.le_of_ble_eq_true rfl⟩) (preV (ci := 1) (q0 := 0) hB hS hP hD rfl rfl) rfl rfl hl.1 rfl (lv_room (Nat.le_of_ble_eq_true rfl)) dL_sure_4 ⟨Nat.le_of_ble_eq_true rfl, Nat.le_of_ble_eq_true rfl⟩) hS (fun q _ h => h) (fun q h => h) (fun q _ h => h) (fun E ce q9 u9 t9 H1 locs1 ht9 hvm9 hpx8 hBx hz9 hk9 hS hq9 hv9 hcl9 => ?_) (fun r_4 u_4 t9 H1 locs1 ht9 hvm9 hw_4 hBw hz9 hk9 hS => ?_)
  · obtain ⟨hpx9, hP1, hD1⟩ := hBx
    rw [ht9] at hP1
    rcases hpx9 with ⟨rfl, hc9⟩
    · refine L_catch0 hown htab (by decide) (by decide) (hts _ (by decide +kernel)) (va_Nw.use rfl (hB.2.2.2.2.1 _ (by simp [Nws]))) hq9 hv9 hcl9 ?_
      replace hP := hP1; replace hD := hD1
      clear hP1 hD1
      generalize H1 = H at hP hS ⊢
      generalize locs1 = locs at hS ⊢
      refine lv_astore_n (lv' := [(3, .ref (q9)), (0, .ref (ad 0)), (1, .int (pl)), (2, .ref (ao))]) hx hb dL_sure_12 rfl hl (by decide) rfl (fun ls hl => ?_)
      refine lv_iconst (v := nI (1)) hx hb dL_sure_13 (by decide) ?_
      exact W.iret (v := nI (1)) hx hb hr (fun t ht hW => ⟨⟨_, ((c, g, hid, code, ans, dbt, opn, ply, hps), ov), rfl, (by
          exact Or.inr ⟨rfl, hc9, rfl⟩), ⟨by rw [ht]; exact hP, hD⟩⟩, hS.F ht⟩) hS.2.2 dL_sure_14
  obtain ⟨hP, hD⟩ := hBw
  rw [ht9] at hP
  generalize H1 = H at hP hS ⊢
  generalize locs1 = locs at hS ⊢
  replace hP : va_P D vwCl (WX ad cI cZ c g hid code ans dbt opn ply hps (OL ao cJ ov :: wr2)) H := hP
  replace hD : va_D A (WX ad cI cZ c g hid code ans dbt opn ply hps (OL ao cJ ov :: wr2)) := hD
  refine lv_i2l hx hb dL_sure_7 rfl ?_
  refine va_last hx hb hK hP hD hS 7 3 rfl rfl (vp_in_nI (n := 0) (N := 1) (by decide) (by decide)) dL_sure_8 (fun H locs hP hD hS => ?_)
  replace hP : va_P D vwCl (WX ad cI cZ c g hid code ans dbt opn ply hps (OL ao cJ (vp_updL ov (nI 0).toNatClampNeg ((r_4).toInt64)) :: wr2)) H := hP
  replace hD : va_D A (WX ad cI cZ c g hid code ans dbt opn ply hps (OL ao cJ (vp_updL ov (nI 0).toNatClampNeg ((r_4).toInt64)) :: wr2)) := hD
  refine lv_goto (tgt := 15) hx hb dL_sure_9 (by decide) ?_
  refine lv_iconst (v := nI (0)) hx hb dL_sure_15 (by decide) ?_
  exact W.iret (v := nI (0)) hx hb hr (fun t ht hW => ⟨⟨_, ((c, g, hid, code, ans, dbt, opn, ply, hps), (vp_updL ov (nI 0).toNatClampNeg ((r_4).toInt64))), rfl, (by
      exact Or.inl ⟨rfl, r_4, u_4, hw_4, rfl, ov_0 (f := ov)⟩), ⟨by rw [ht]; exact hP, hD⟩⟩, hS.F ht⟩) hS.2.2 dL_sure_16

set_option maxHeartbeats 4000000 in
set_option maxRecDepth 100000 in
theorem c_L_worst (l : Launch) (hfl : l.flags = flags0) (D : va_G) (cI cZ cG cJ : ClassId) (A : Nat → Prop) (ad : Nat → Nat) (ao : Nat) (wr2 : va_W) (hpal : Pals cI cG ad wr2) (c : Nat) (g : Nat) (hid : Int32) (code : Nat → Nat) (ans : Nat → Nat) (dbt : Nat → Bool) (opn : Nat → Bool) (ply : Nat → Bool) (hps : Nat → Nat) (ov : Nat → Int64) (v : Int32) (hI : XI c g hid code ans dbt opn) : Met l yL_worst wsL_worst ({ frames := 8, cells := 1, slots := 6, locals := 124 }) (va_Pc [.ref (ad 0), .int (v), .ref (ao)] (Iv D (TY cI cZ cG cJ) A (WX ad cI cZ c g hid code ans dbt opn ply hps (OL ao cJ ov :: wr2)))) (va_Qi (fun r (u : XSt × (Nat → Int64)) => (r = nI 0 ∧ ∃ (ρ9 : Int32) (w9 : Nat × (Nat → Nat)), (ρ9 = nI (gh c w9.1 (opS c g code ans dbt)) ∧ w9.1 < qq c ∧ v = nI w9.1) ∧ u.1 = (c, g, hid, code, ans, dbt, opn, ply, w9.2) ∧ u.2 0 = ρ9.toInt64) ∨ (r = nI 1 ∧ (hasC c v = false) ∧ u.1 = (c, g, hid, code, ans, dbt, opn, ply, hps))) (fun u => Wd D A (WX ad cI cZ u.1.1 u.1.2.1 u.1.2.2.1 u.1.2.2.2.1 u.1.2.2.2.2.1 u.1.2.2.2.2.2.1 u.1.2.2.2.2.2.2.1 u.1.2.2.2.2.2.2.2.1 u.1.2.2.2.2.2.2.2.2 (OL ao cJ u.2 :: wr2))) A) 1 6 A := by
  refine va_MetW (cc := cL_worst) (maxL := 4) (ret := (some .int)) (by decide) rfl ?_
  intro p e s m args below meth c9 s₁ B hml hv
  obtain ⟨rfl, hP, hD, hB⟩ := hv
  have hK := hB.1
  have hA := hB.2.1
  have hx := B.exec
  have hb := B.bytes
  have hr := B.returns
  have hts := atoms_spec (ws := wsL_worst) B.pre
  have hown : s.vm.findClass RL = some m.cls := findClass_of_methodNamed B.named
  have hlocks := B.notSynchronized
  have hS : va_S A s.heap s.heap [] := va_S.rf
  have htab := vx_table (x := yL_worst) B (hts _ List.mem_cons_self)
  have hl := lv_entry ([.ref (ad 0), .int (v), .ref (ao)]) (n := 4) (Nat.le_of_ble_eq_true rfl)
  rw [lg_entry_eq]
  generalize (lg_sl ([.ref (ad 0), .int (v), .ref (ao)]) ++ List.replicate (4 - (lg_sl ([.ref (ad 0), .int (v), .ref (ao)])).length) Slot.unset).toArray = ls at hl ⊢
  have hl : lv_has ls 4 [(0, .ref (ad 0)), (1, .int (v)), (2, .ref (ao))] := hl
  obtain ⟨H, eH⟩ : ∃ q, q = s.heap := ⟨_, rfl⟩
  obtain ⟨locs, eL⟩ : ∃ q : List Loc, q = [] := ⟨_, rfl⟩
  replace hP : va_P D vwCl (WX ad cI cZ c g hid code ans dbt opn ply hps (OL ao cJ ov :: wr2)) H := by rw [eH]; exact hP
  replace hS : va_S A s.heap H locs := by rw [eH, eL]; exact hS
  rw [show W p l e _ s m _ below meth c9 s.heap [] = W p l e _ s m _ below meth c9 H locs from by rw [eH, eL]]
  clear eH eL
  refine lv_aload_n hx hb dL_worst_0 rfl (lv_at hl 2 rfl) ?_
  refine lv_iconst (v := nI (0)) hx hb dL_worst_1 (by decide) ?_
  refine lv_aload_n hx hb dL_worst_2 rfl (lv_at hl 0 rfl) ?_
  refine lv_iload_n hx hb dL_worst_3 rfl (lv_at hl 1 rfl) ?_
  refine vx_calli (vx_runV (As := [.int (v)]) (rest := [.int (nI (0)), .ref (ao)]) ⟨hx, hb, hml, hown, hts⟩ (c_X1_worst l hfl D cI cZ cG cJ A ad (OL ao cJ ov :: wr2) (pal_up hpal) c g hid code ans dbt opn ply hps v (hI)) (cwV 1 hts gL_worst_X1_worst rfl rfl rfl (by decide +kernel) ⟨Nat.le_of_ble_eq_true rfl, Nat.le_of_ble_eq_true rfl⟩) (preV (ci := 1) (q0 := 0) hB hS hP hD rfl rfl) rfl rfl hl.1 rfl (lv_room (Nat.le_of_ble_eq_true rfl)) dL_worst_4 ⟨Nat.le_of_ble_eq_true rfl, Nat.le_of_ble_eq_true rfl⟩) hS (fun q _ h => h) (fun q h => h) (fun q _ h => h) (fun E ce q9 u9 t9 H1 locs1 ht9 hvm9 hpx8 hBx hz9 hk9 hS hq9 hv9 hcl9 => ?_) (fun r_4 u_4 t9 H1 locs1 ht9 hvm9 hw_4 hBw hz9 hk9 hS => ?_)
  · obtain ⟨hpx9, hP1, hD1⟩ := hBx
    rw [ht9] at hP1
    rcases hpx9 with ⟨rfl, hc9⟩
    · refine L_catch0 hown htab (by decide) (by decide) (hts _ (by decide +kernel)) (va_Nw.use rfl (hB.2.2.2.2.1 _ (by simp [Nws]))) hq9 hv9 hcl9 ?_
      replace hP := hP1; replace hD := hD1
      clear hP1 hD1
      generalize H1 = H at hP hS ⊢
      generalize locs1 = locs at hS ⊢
      refine lv_astore_n (lv' := [(3, .ref (q9)), (0, .ref (ad 0)), (1, .int (v)), (2, .ref (ao))]) hx hb dL_worst_12 rfl hl (by decide) rfl (fun ls hl => ?_)
      refine lv_iconst (v := nI (1)) hx hb dL_worst_13 (by decide) ?_
      exact W.iret (v := nI (1)) hx hb hr (fun t ht hW => ⟨⟨_, ((c, g, hid, code, ans, dbt, opn, ply, hps), ov), rfl, (by
          exact Or.inr ⟨rfl, hc9, rfl⟩), ⟨by rw [ht]; exact hP, hD⟩⟩, hS.F ht⟩) hS.2.2 dL_worst_14
  obtain ⟨hP, hD⟩ := hBw
  rw [ht9] at hP
  generalize H1 = H at hP hS ⊢
  generalize locs1 = locs at hS ⊢
  replace hP : va_P D vwCl (WX ad cI cZ c g hid code ans dbt opn ply u_4.2 (OL ao cJ ov :: wr2)) H := hP
  replace hD : va_D A (WX ad cI cZ c g hid code ans dbt opn ply u_4.2 (OL ao cJ ov :: wr2)) := hD
  refine lv_i2l hx hb dL_worst_7 rfl ?_
  refine va_last hx hb hK hP hD hS 7 3 rfl rfl (vp_in_nI (n := 0) (N := 1) (by decide) (by decide)) dL_worst_8 (fun H locs hP hD hS => ?_)
  replace hP : va_P D vwCl (WX ad cI cZ c g hid code ans dbt opn ply u_4.2 (OL ao cJ (vp_updL ov (nI 0).toNatClampNeg ((r_4).toInt64)) :: wr2)) H := hP
  replace hD : va_D A (WX ad cI cZ c g hid code ans dbt opn ply u_4.2 (OL ao cJ (vp_updL ov (nI 0).toNatClampNeg ((r_4).toInt64)) :: wr2)) := hD
  refine lv_goto (tgt := 15) hx hb dL_worst_9 (by decide) ?_
  refine lv_iconst (v := nI (0)) hx hb dL_worst_15 (by decide) ?_
  exact W.iret (v := nI (0)) hx hb hr (fun t ht hW => ⟨⟨_, ((c, g, hid, code, ans, dbt, opn, ply, u_4.2), (vp_updL ov (nI 0).toNatClampNeg ((r_4).toInt64))), rfl, (by
      exact Or.inl ⟨rfl, r_4, u_4, hw_4, rfl, ov_0 (f := ov)⟩), ⟨by rw [ht]; exact hP, hD⟩⟩, hS.F ht⟩) hS.2.2 dL_worst_16

set_option maxHeartbeats 4000000 in
set_option maxRecDepth 100000 in
theorem c_L_parts (l : Launch) (hfl : l.flags = flags0) (D : va_G) (cI cZ cG cJ : ClassId) (A : Nat → Prop) (ad : Nat → Nat) (ao : Nat) (wr2 : va_W) (hpal : Pals cI cG ad wr2) (c : Nat) (g : Nat) (hid : Int32) (code : Nat → Nat) (ans : Nat → Nat) (dbt : Nat → Bool) (opn : Nat → Bool) (ply : Nat → Bool) (hps : Nat → Nat) (ov : Nat → Int64) (v : Int32) (hI : XI c g hid code ans dbt opn) : Met l yL_parts wsL_parts ({ frames := 8, cells := 1, slots := 6, locals := 126 }) (va_Pc [.ref (ad 0), .int (v), .ref (ao)] (Iv D (TY cI cZ cG cJ) A (WX ad cI cZ c g hid code ans dbt opn ply hps (OL ao cJ ov :: wr2)))) (va_Qi (fun r (u : XSt × (Nat → Int64)) => (r = nI 0 ∧ ∃ (ρ9 : Int32) (w9 : Nat × (Nat → Nat)), (ρ9 = nI (cN (fun x => decide (0 < hpN c w9.1 (opS c g code ans dbt) x)) 21) ∧ w9.1 < qq c ∧ v = nI w9.1) ∧ u.1 = (c, g, hid, code, ans, dbt, opn, ply, w9.2) ∧ u.2 0 = ρ9.toInt64) ∨ (r = nI 1 ∧ (hasC c v = false) ∧ u.1 = (c, g, hid, code, ans, dbt, opn, ply, hps))) (fun u => Wd D A (WX ad cI cZ u.1.1 u.1.2.1 u.1.2.2.1 u.1.2.2.2.1 u.1.2.2.2.2.1 u.1.2.2.2.2.2.1 u.1.2.2.2.2.2.2.1 u.1.2.2.2.2.2.2.2.1 u.1.2.2.2.2.2.2.2.2 (OL ao cJ u.2 :: wr2))) A) 1 6 A := by
  refine va_MetW (cc := cL_parts) (maxL := 4) (ret := (some .int)) (by decide) rfl ?_
  intro p e s m args below meth c9 s₁ B hml hv
  obtain ⟨rfl, hP, hD, hB⟩ := hv
  have hK := hB.1
  have hA := hB.2.1
  have hx := B.exec
  have hb := B.bytes
  have hr := B.returns
  have hts := atoms_spec (ws := wsL_parts) B.pre
  have hown : s.vm.findClass RL = some m.cls := findClass_of_methodNamed B.named
  have hlocks := B.notSynchronized
  have hS : va_S A s.heap s.heap [] := va_S.rf
  have htab := vx_table (x := yL_parts) B (hts _ List.mem_cons_self)
  have hl := lv_entry ([.ref (ad 0), .int (v), .ref (ao)]) (n := 4) (Nat.le_of_ble_eq_true rfl)
  rw [lg_entry_eq]
  generalize (lg_sl ([.ref (ad 0), .int (v), .ref (ao)]) ++ List.replicate (4 - (lg_sl ([.ref (ad 0), .int (v), .ref (ao)])).length) Slot.unset).toArray = ls at hl ⊢
  have hl : lv_has ls 4 [(0, .ref (ad 0)), (1, .int (v)), (2, .ref (ao))] := hl
  obtain ⟨H, eH⟩ : ∃ q, q = s.heap := ⟨_, rfl⟩
  obtain ⟨locs, eL⟩ : ∃ q : List Loc, q = [] := ⟨_, rfl⟩
  replace hP : va_P D vwCl (WX ad cI cZ c g hid code ans dbt opn ply hps (OL ao cJ ov :: wr2)) H := by rw [eH]; exact hP
  replace hS : va_S A s.heap H locs := by rw [eH, eL]; exact hS
  rw [show W p l e _ s m _ below meth c9 s.heap [] = W p l e _ s m _ below meth c9 H locs from by rw [eH, eL]]
  clear eH eL
  refine lv_aload_n hx hb dL_parts_0 rfl (lv_at hl 2 rfl) ?_
  refine lv_iconst (v := nI (0)) hx hb dL_parts_1 (by decide) ?_
  refine lv_aload_n hx hb dL_parts_2 rfl (lv_at hl 0 rfl) ?_
  refine lv_iload_n hx hb dL_parts_3 rfl (lv_at hl 1 rfl) ?_
  refine vx_calli (vx_runV (As := [.int (v)]) (rest := [.int (nI (0)), .ref (ao)]) ⟨hx, hb, hml, hown, hts⟩ (c_X1_parts l hfl D cI cZ cG cJ A ad (OL ao cJ ov :: wr2) (pal_up hpal) c g hid code ans dbt opn ply hps v (hI)) (cwV 1 hts gL_parts_X1_parts rfl rfl rfl (by decide +kernel) ⟨Nat.le_of_ble_eq_true rfl, Nat.le_of_ble_eq_true rfl⟩) (preV (ci := 1) (q0 := 0) hB hS hP hD rfl rfl) rfl rfl hl.1 rfl (lv_room (Nat.le_of_ble_eq_true rfl)) dL_parts_4 ⟨Nat.le_of_ble_eq_true rfl, Nat.le_of_ble_eq_true rfl⟩) hS (fun q _ h => h) (fun q h => h) (fun q _ h => h) (fun E ce q9 u9 t9 H1 locs1 ht9 hvm9 hpx8 hBx hz9 hk9 hS hq9 hv9 hcl9 => ?_) (fun r_4 u_4 t9 H1 locs1 ht9 hvm9 hw_4 hBw hz9 hk9 hS => ?_)
  · obtain ⟨hpx9, hP1, hD1⟩ := hBx
    rw [ht9] at hP1
    rcases hpx9 with ⟨rfl, hc9⟩
    · refine L_catch0 hown htab (by decide) (by decide) (hts _ (by decide +kernel)) (va_Nw.use rfl (hB.2.2.2.2.1 _ (by simp [Nws]))) hq9 hv9 hcl9 ?_
      replace hP := hP1; replace hD := hD1
      clear hP1 hD1
      generalize H1 = H at hP hS ⊢
      generalize locs1 = locs at hS ⊢
      refine lv_astore_n (lv' := [(3, .ref (q9)), (0, .ref (ad 0)), (1, .int (v)), (2, .ref (ao))]) hx hb dL_parts_12 rfl hl (by decide) rfl (fun ls hl => ?_)
      refine lv_iconst (v := nI (1)) hx hb dL_parts_13 (by decide) ?_
      exact W.iret (v := nI (1)) hx hb hr (fun t ht hW => ⟨⟨_, ((c, g, hid, code, ans, dbt, opn, ply, hps), ov), rfl, (by
          exact Or.inr ⟨rfl, hc9, rfl⟩), ⟨by rw [ht]; exact hP, hD⟩⟩, hS.F ht⟩) hS.2.2 dL_parts_14
  obtain ⟨hP, hD⟩ := hBw
  rw [ht9] at hP
  generalize H1 = H at hP hS ⊢
  generalize locs1 = locs at hS ⊢
  replace hP : va_P D vwCl (WX ad cI cZ c g hid code ans dbt opn ply u_4.2 (OL ao cJ ov :: wr2)) H := hP
  replace hD : va_D A (WX ad cI cZ c g hid code ans dbt opn ply u_4.2 (OL ao cJ ov :: wr2)) := hD
  refine lv_i2l hx hb dL_parts_7 rfl ?_
  refine va_last hx hb hK hP hD hS 7 3 rfl rfl (vp_in_nI (n := 0) (N := 1) (by decide) (by decide)) dL_parts_8 (fun H locs hP hD hS => ?_)
  replace hP : va_P D vwCl (WX ad cI cZ c g hid code ans dbt opn ply u_4.2 (OL ao cJ (vp_updL ov (nI 0).toNatClampNeg ((r_4).toInt64)) :: wr2)) H := hP
  replace hD : va_D A (WX ad cI cZ c g hid code ans dbt opn ply u_4.2 (OL ao cJ (vp_updL ov (nI 0).toNatClampNeg ((r_4).toInt64)) :: wr2)) := hD
  refine lv_goto (tgt := 15) hx hb dL_parts_9 (by decide) ?_
  refine lv_iconst (v := nI (0)) hx hb dL_parts_15 (by decide) ?_
  exact W.iret (v := nI (0)) hx hb hr (fun t ht hW => ⟨⟨_, ((c, g, hid, code, ans, dbt, opn, ply, u_4.2), (vp_updL ov (nI 0).toNatClampNeg ((r_4).toInt64))), rfl, (by
      exact Or.inl ⟨rfl, r_4, u_4, hw_4, rfl, ov_0 (f := ov)⟩), ⟨by rw [ht]; exact hP, hD⟩⟩, hS.F ht⟩) hS.2.2 dL_parts_16

set_option maxHeartbeats 4000000 in
set_option maxRecDepth 100000 in
theorem c_L_takes (l : Launch) (hfl : l.flags = flags0) (D : va_G) (cI cZ cG cJ : ClassId) (A : Nat → Prop) (ad : Nat → Nat) (ao : Nat) (wr2 : va_W) (hpal : Pals cI cG ad wr2) (c : Nat) (g : Nat) (hid : Int32) (code : Nat → Nat) (ans : Nat → Nat) (dbt : Nat → Bool) (opn : Nat → Bool) (ply : Nat → Bool) (hps : Nat → Nat) (ov : Nat → Int64) (v : Int32) (f : Int32) (hI : XI c g hid code ans dbt opn) : Met l yL_takes wsL_takes ({ frames := 8, cells := 2, slots := 12, locals := 143 }) (va_Pc [.ref (ad 0), .int (v), .int (f), .ref (ao)] (Iv D (TY cI cZ cG cJ) A (WX ad cI cZ c g hid code ans dbt opn ply hps (OL ao cJ ov :: wr2)))) (va_Qi (fun r (u : XSt × (Nat → Int64)) => (r = nI 0 ∧ ∃ (ρ9 : Int32) (w9 : Nat × Nat × Int32 × (Nat → Bool) × (Nat → Nat)), (ρ9 = w9.2.2.1 ∧ tkR c w9.1 w9.2.1 w9.2.2.1 ∧ w9.1 < qq c ∧ v = nI w9.1 ∧ w9.2.1 < qq c ∧ f = nI w9.2.1) ∧ u.1 = (c, g, hid, code, ans, dbt, opn, w9.2.2.2.1, w9.2.2.2.2) ∧ u.2 0 = ρ9.toInt64) ∨ (r = nI 1 ∧ (hasC c v = false ∨ hasC c f = false) ∧ u.1 = (c, g, hid, code, ans, dbt, opn, ply, hps))) (fun u => Wd D A (WX ad cI cZ u.1.1 u.1.2.1 u.1.2.2.1 u.1.2.2.2.1 u.1.2.2.2.2.1 u.1.2.2.2.2.2.1 u.1.2.2.2.2.2.2.1 u.1.2.2.2.2.2.2.2.1 u.1.2.2.2.2.2.2.2.2 (OL ao cJ u.2 :: wr2))) A) 2 12 A := by
  refine va_MetW (cc := cL_takes) (maxL := 5) (ret := (some .int)) (by decide) rfl ?_
  intro p e s m args below meth c9 s₁ B hml hv
  obtain ⟨rfl, hP, hD, hB⟩ := hv
  have hK := hB.1
  have hA := hB.2.1
  have hx := B.exec
  have hb := B.bytes
  have hr := B.returns
  have hts := atoms_spec (ws := wsL_takes) B.pre
  have hown : s.vm.findClass RL = some m.cls := findClass_of_methodNamed B.named
  have hlocks := B.notSynchronized
  have hS : va_S A s.heap s.heap [] := va_S.rf
  have htab := vx_table (x := yL_takes) B (hts _ List.mem_cons_self)
  have hl := lv_entry ([.ref (ad 0), .int (v), .int (f), .ref (ao)]) (n := 5) (Nat.le_of_ble_eq_true rfl)
  rw [lg_entry_eq]
  generalize (lg_sl ([.ref (ad 0), .int (v), .int (f), .ref (ao)]) ++ List.replicate (5 - (lg_sl ([.ref (ad 0), .int (v), .int (f), .ref (ao)])).length) Slot.unset).toArray = ls at hl ⊢
  have hl : lv_has ls 5 [(0, .ref (ad 0)), (1, .int (v)), (2, .int (f)), (3, .ref (ao))] := hl
  obtain ⟨H, eH⟩ : ∃ q, q = s.heap := ⟨_, rfl⟩
  obtain ⟨locs, eL⟩ : ∃ q : List Loc, q = [] := ⟨_, rfl⟩
  replace hP : va_P D vwCl (WX ad cI cZ c g hid code ans dbt opn ply hps (OL ao cJ ov :: wr2)) H := by rw [eH]; exact hP
  replace hS : va_S A s.heap H locs := by rw [eH, eL]; exact hS
  rw [show W p l e _ s m _ below meth c9 s.heap [] = W p l e _ s m _ below meth c9 H locs from by rw [eH, eL]]
  clear eH eL
  refine lv_aload_n hx hb dL_takes_0 rfl (lv_at hl 3 rfl) ?_
  refine lv_iconst (v := nI (0)) hx hb dL_takes_1 (by decide) ?_
  refine lv_aload_n hx hb dL_takes_2 rfl (lv_at hl 0 rfl) ?_
  refine lv_iload_n hx hb dL_takes_3 rfl (lv_at hl 1 rfl) ?_
  refine lv_iload_n hx hb dL_takes_4 rfl (lv_at hl 2 rfl) ?_
  refine vx_calli (vx_runV (As := [.int (v), .int (f)]) (rest := [.int (nI (0)), .ref (ao)]) ⟨hx, hb, hml, hown, hts⟩ (c_X1_takes l hfl D cI cZ cG cJ A ad (OL ao cJ ov :: wr2) (pal_up hpal) c g hid code ans dbt opn ply hps v f (hI)) (cwV 2 hts gL_takes_X1_takes rfl rfl rfl (by decide +kernel) ⟨Nat.le_of_ble_eq_true rfl, Nat.le_of_ble_eq_true rfl⟩) (preV (ci := 1) (q0 := 0) hB hS hP hD rfl rfl) rfl rfl hl.1 rfl (lv_room (Nat.le_of_ble_eq_true rfl)) dL_takes_5 ⟨Nat.le_of_ble_eq_true rfl, Nat.le_of_ble_eq_true rfl⟩) hS (fun q _ h => h) (fun q h => h) (fun q _ h => h) (fun E ce q9 u9 t9 H1 locs1 ht9 hvm9 hpx8 hBx hz9 hk9 hS hq9 hv9 hcl9 => ?_) (fun r_5 u_5 t9 H1 locs1 ht9 hvm9 hw_5 hBw hz9 hk9 hS => ?_)
  · obtain ⟨hpx9, hP1, hD1⟩ := hBx
    rw [ht9] at hP1
    rcases hpx9 with ⟨rfl, hc9⟩
    · refine L_catch0 hown htab (by decide) (by decide) (hts _ (by decide +kernel)) (va_Nw.use rfl (hB.2.2.2.2.1 _ (by simp [Nws]))) hq9 hv9 hcl9 ?_
      replace hP := hP1; replace hD := hD1
      clear hP1 hD1
      generalize H1 = H at hP hS ⊢
      generalize locs1 = locs at hS ⊢
      refine lv_astore (lv' := [(4, .ref (q9)), (0, .ref (ad 0)), (1, .int (v)), (2, .int (f)), (3, .ref (ao))]) hx hb dL_takes_13 hl (by decide) rfl (fun ls hl => ?_)
      refine lv_iconst (v := nI (1)) hx hb dL_takes_15 (by decide) ?_
      exact W.iret (v := nI (1)) hx hb hr (fun t ht hW => ⟨⟨_, ((c, g, hid, code, ans, dbt, opn, ply, hps), ov), rfl, (by
          exact Or.inr ⟨rfl, hc9, rfl⟩), ⟨by rw [ht]; exact hP, hD⟩⟩, hS.F ht⟩) hS.2.2 dL_takes_16
  obtain ⟨hP, hD⟩ := hBw
  rw [ht9] at hP
  generalize H1 = H at hP hS ⊢
  generalize locs1 = locs at hS ⊢
  replace hP : va_P D vwCl (WX ad cI cZ c g hid code ans dbt opn u_5.2.2.2.1 u_5.2.2.2.2 (OL ao cJ ov :: wr2)) H := hP
  replace hD : va_D A (WX ad cI cZ c g hid code ans dbt opn u_5.2.2.2.1 u_5.2.2.2.2 (OL ao cJ ov :: wr2)) := hD
  refine lv_i2l hx hb dL_takes_8 rfl ?_
  refine va_last hx hb hK hP hD hS 7 3 rfl rfl (vp_in_nI (n := 0) (N := 1) (by decide) (by decide)) dL_takes_9 (fun H locs hP hD hS => ?_)
  replace hP : va_P D vwCl (WX ad cI cZ c g hid code ans dbt opn u_5.2.2.2.1 u_5.2.2.2.2 (OL ao cJ (vp_updL ov (nI 0).toNatClampNeg ((r_5).toInt64)) :: wr2)) H := hP
  replace hD : va_D A (WX ad cI cZ c g hid code ans dbt opn u_5.2.2.2.1 u_5.2.2.2.2 (OL ao cJ (vp_updL ov (nI 0).toNatClampNeg ((r_5).toInt64)) :: wr2)) := hD
  refine lv_goto (tgt := 17) hx hb dL_takes_10 (by decide) ?_
  refine lv_iconst (v := nI (0)) hx hb dL_takes_17 (by decide) ?_
  exact W.iret (v := nI (0)) hx hb hr (fun t ht hW => ⟨⟨_, ((c, g, hid, code, ans, dbt, opn, u_5.2.2.2.1, u_5.2.2.2.2), (vp_updL ov (nI 0).toNatClampNeg ((r_5).toInt64))), rfl, (by
      exact Or.inl ⟨rfl, r_5, u_5, hw_5, rfl, ov_0 (f := ov)⟩), ⟨by rw [ht]; exact hP, hD⟩⟩, hS.F ht⟩) hS.2.2 dL_takes_18
