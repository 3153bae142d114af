set_option maxHeartbeats 4000000 in
set_option maxRecDepth 100000 in
theorem c_X1_needCode (l : Launch) (hfl : l.flags = flags0) (D : va_G) (cI cZ cG cJ : ClassId) (A : Nat → Prop) (ad : Nat → Nat) (wr : va_W) (hpal : Pals cI cG ad wr) (c : Nat) (g : Nat) (hid : Int32) (code : Nat → Nat) (ans : Nat → Nat) (dbt : Nat → Bool) (opn : Nat → Bool) (ply : Nat → Bool) (hps : Nat → Nat) (v : Int32) (hc : c = 2 ∨ c = 3) : vx_Met l yX1_needCode wsX1_needCode ({ frames := 6, cells := 1, slots := 6, locals := 82 }) (va_Pc [.ref (ad 0), .int (v)] (Iv D (TY cI cZ cG cJ) A (WX ad cI cZ c g hid code ans dbt opn ply hps wr))) (va_Qv (fun (u : Unit) => hasC c v = true) (fun u => Wd D A (WX ad cI cZ c g hid code ans dbt opn ply hps wr)) A) (Xw D A (WX ad cI cZ c g hid code ans dbt opn ply hps wr) (fun E => E = "java/lang/IndexOutOfBoundsException" ∧ hasC c v = false)) 1 6 A := by
  refine vx_ofW (cc := cX1_needCode) (maxL := 2) (ret := none) (by decide) rfl ?_
  intro p e s m args below meth c9 s₁ B hml hnt hv
  obtain ⟨rfl, hP, hD, hB⟩ := hv
  have hK := hB.1
  have hA := hB.2.1
  have hx := B.exec
  have hb := B.bytes
  have hr := B.returns
  have hts := atoms_spec (ws := wsX1_needCode) B.pre
  have hown : s.vm.findClass RX1 = some m.cls := findClass_of_methodNamed B.named
  have hlocks := B.notSynchronized
  have hS : va_S A s.heap s.heap [] := va_S.rf
  have hflag : l.stackTraces = false := by rw [Launch.stackTraces, hfl]; decide
  have hinX1 : ∀ w ∈ wsX10, w ∈ wsX1_needCode := by decide +kernel
  have lk21 := hts (.fieldLink RX1 21 "HiddenCandles" "palette" "LHiddenCandles$Palette;") (by decide +kernel)
  have hl := lv_entry ([.ref (ad 0), .int (v)]) (n := 2) (Nat.le_of_ble_eq_true rfl)
  rw [lg_entry_eq]
  generalize (lg_sl ([.ref (ad 0), .int (v)]) ++ List.replicate (2 - (lg_sl ([.ref (ad 0), .int (v)])).length) Slot.unset).toArray = ls at hl ⊢
  have hl : lv_has ls 2 [(0, .ref (ad 0)), (1, .int (v))] := hl
  obtain ⟨H, eH⟩ : ∃ q, q = s.heap := ⟨_, rfl⟩
  obtain ⟨locs, eL⟩ : ∃ q : List Loc, q = [] := ⟨_, rfl⟩
  replace hP : va_P D vwCl (WX ad cI cZ c g hid code ans dbt opn ply hps wr) H := by rw [eH]; exact hP
  replace hS : va_S A s.heap H locs := by rw [eH, eL]; exact hS
  rw [show W p l e _ s m _ below meth c9 s.heap [] = W p l e _ s m _ below meth c9 H locs from by rw [eH, eL]]
  clear eH eL
  have hq := qq_in hc
  refine lv_aload_n hx hb dX1_needCode_0 rfl (lv_at hl 0 rfl) ?_
  refine va_get (D := D) (ci := 1) (v := .ref (pal ad c)) (C := RX1) (T := TX1) (N := 11) hx hb hts hinX1 hown hK hP 0 rfl rfl 2 (by decide) lk21 (fun _ h9 => h9) rfl dX1_needCode_1 ?_
  refine lv_iload_n hx hb dX1_needCode_4 rfl (lv_at hl 1 rfl) ?_
  refine x_csi (va_runVN (As := [.int (v)]) (rest := []) ⟨hx, hb, hml, hown, hts⟩ (c_X0_hasCode l D cI cZ cG cJ A (WX ad cI cZ c g hid code ans dbt opn ply hps wr) (pal ad c) c v (palX hpal hc) (hc)) ⟨va_cnB (host := RX1) 1 hts gX1_needCode_X0_hasCode_n153 rfl rfl rfl (hB.2.2.2.2.1 _ (by simp [Nws])) (hts _ (by decide +kernel)) (by decide +kernel) ⟨Nat.le_of_ble_eq_true rfl, Nat.le_of_ble_eq_true rfl⟩, hts _ (by decide +kernel), hts _ (by decide +kernel)⟩ (prePal hB hS hP hD (palX hpal hc)) rfl rfl hl.1 rfl (lv_room (Nat.le_of_ble_eq_true rfl)) dX1_needCode_5 ⟨Nat.le_of_ble_eq_true rfl, Nat.le_of_ble_eq_true rfl⟩) ?_
  refine x_zne (tgt := 21) hx hb dX1_needCode_8 (by decide) (fun c8 => ?_) (fun c8 => ?_)
  · skip
    refine W.widen (k := 1) (n := 6) (Nat.le_of_ble_eq_true rfl) (Nat.le_of_ble_eq_true rfl) ?_
    exact vx_ret (W.vret hx hb hr (fun t ht hW => ⟨⟨(), rfl, (by
        exact c8), ⟨by rw [ht]; exact hP, hD⟩⟩, hS.F ht⟩) hS.2.2 dX1_needCode_21)
  · skip
    obtain ⟨sa9, hsa9⟩ := hB.2.2.2.2.2.1 (180, "no such code") (by decide)
    have hat9 : ∀ w ∈ (vx_atS RX1 99 "java/lang/IndexOutOfBoundsException" ["java/lang/RuntimeException", "java/lang/Exception"]), w.before _ s = true := vx_hat (B := [.castable "java/lang/IndexOutOfBoundsException" "java/lang/IndexOutOfBoundsException", .declares (Bundle.initS "java/lang/RuntimeException"), .declares (Bundle.initS "java/lang/Exception"), .declares (Bundle.initS Bundle.tN)]) (fun w hw => hts w (by first | exact List.mem_cons_of_mem _ (List.mem_append_right _ hw) | exact List.mem_cons_of_mem _ (List.mem_append_left _ (List.mem_append_right _ hw)) | exact List.mem_cons_of_mem _ (List.mem_append_left _ (List.mem_append_left _ (List.mem_append_right _ hw))))) (by decide +kernel) (vx_c (va_Nw.use rfl (hB.2.2.2.2.1 _ (by simp [Nws]))) (vx_c (va_Nw.use rfl (hB.2.2.2.2.1 _ (by simp [Nws]))) (vx_c (va_Nw.use rfl (hB.2.2.2.2.1 _ (by simp [Nws]))) (vx_c (va_Nw.use rfl (hB.2.2.2.2.1 _ (by simp [Nws]))) vx_n))))
    exact vx_throwS (A := A) (names := ["java/lang/RuntimeException", "java/lang/Exception"]) (cls := "java/lang/IndexOutOfBoundsException") hx hb hflag hown (by decide +kernel) (by decide +kernel) (hts _ (by decide +kernel)) (hts _ (by decide +kernel)) hsa9 hat9 (by decide +kernel) hB.2.2.1 hB.2.2.2.1 hS (hl.1.trans hml.symm) dX1_needCode_11 dX1_needCode_14 dX1_needCode_15 dX1_needCode_17 dX1_needCode_20 (fun x hx9 => (hnt x hx9).elim) (Nat.le_of_ble_eq_true rfl) (Nat.le_of_ble_eq_true rfl) (Nat.le_of_ble_eq_true rfl) (Nat.le_of_ble_eq_true rfl) hlocks (fun t hvm hsz hk => ⟨(), trivial, ⟨(by
        exact ⟨rfl, c8⟩), ⟨va_P.kept hP (fun k q hk9 => hk _ (hP k q hk9).lt), hD⟩⟩, ⟨Nat.le_trans hS.1 hsz, fun q h1 h2 => (hk q (Nat.lt_of_lt_of_le h1 hS.1)).trans (hS.2.1 q h1 h2)⟩⟩) hS.2.2 (Nat.le_of_ble_eq_true rfl) (Nat.le_of_ble_eq_true rfl)

set_option maxHeartbeats 4000000 in
set_option maxRecDepth 100000 in
theorem c_X1_needPlace (l : Launch) (hfl : l.flags = flags0) (D : va_G) (cI cZ cG cJ : ClassId) (A : Nat → Prop) (w : va_W) (v : Int32)  : vx_Met l yX1_needPlace wsX1_needPlace ({ frames := 6, cells := 1, slots := 6, locals := 82 }) (va_Pc [.int (v)] (Iv D (TY cI cZ cG cJ) A (w))) (va_Qv (fun (u : Unit) => plC v = true) (fun u => Wd D A (w)) A) (Xw D A (w) (fun E => E = "java/lang/IndexOutOfBoundsException" ∧ plC v = false)) 1 6 A := by
  refine vx_ofW (cc := cX1_needPlace) (maxL := 1) (ret := none) (by decide) rfl ?_
  intro p e s m args below meth c9 s₁ B hml hnt hv
  obtain ⟨rfl, hP, hD, hB⟩ := hv
  have hK := hB.1
  have hA := hB.2.1
  have hx := B.exec
  have hb := B.bytes
  have hr := B.returns
  have hts := atoms_spec (ws := wsX1_needPlace) B.pre
  have hown : s.vm.findClass RX1 = some m.cls := findClass_of_methodNamed B.named
  have hlocks := B.notSynchronized
  have hS : va_S A s.heap s.heap [] := va_S.rf
  have hflag : l.stackTraces = false := by rw [Launch.stackTraces, hfl]; decide
  have hl := lv_entry ([.int (v)]) (n := 1) (Nat.le_of_ble_eq_true rfl)
  rw [lg_entry_eq]
  generalize (lg_sl ([.int (v)]) ++ List.replicate (1 - (lg_sl ([.int (v)])).length) Slot.unset).toArray = ls at hl ⊢
  have hl : lv_has ls 1 [(0, .int (v))] := hl
  obtain ⟨H, eH⟩ : ∃ q, q = s.heap := ⟨_, rfl⟩
  obtain ⟨locs, eL⟩ : ∃ q : List Loc, q = [] := ⟨_, rfl⟩
  replace hP : va_P D vwCl (w) H := by rw [eH]; exact hP
  replace hS : va_S A s.heap H locs := by rw [eH, eL]; exact hS
  rw [show W p l e _ s m _ below meth c9 s.heap [] = W p l e _ s m _ below meth c9 H locs from by rw [eH, eL]]
  clear eH eL
  refine lv_iload_n hx hb dX1_needPlace_0 rfl (lv_at hl 0 rfl) ?_
  refine lv_if_lt (tgt := 9) hx hb dX1_needPlace_1 (by decide) (fun c1 => ?_) (fun c1 => ?_)
  · skip
    obtain ⟨sa9, hsa9⟩ := hB.2.2.2.2.2.1 (182, "places are 0 to 3") (by decide)
    have hat9 : ∀ w ∈ (vx_atS RX1 99 "java/lang/IndexOutOfBoundsException" ["java/lang/RuntimeException", "java/lang/Exception"]), w.before _ s = true := vx_hat (B := [.castable "java/lang/IndexOutOfBoundsException" "java/lang/IndexOutOfBoundsException", .declares (Bundle.initS "java/lang/RuntimeException"), .declares (Bundle.initS "java/lang/Exception"), .declares (Bundle.initS Bundle.tN)]) (fun w hw => hts w (by first | exact List.mem_cons_of_mem _ (List.mem_append_right _ hw) | exact List.mem_cons_of_mem _ (List.mem_append_left _ (List.mem_append_right _ hw)) | exact List.mem_cons_of_mem _ (List.mem_append_left _ (List.mem_append_left _ (List.mem_append_right _ hw))))) (by decide +kernel) (vx_c (va_Nw.use rfl (hB.2.2.2.2.1 _ (by simp [Nws]))) (vx_c (va_Nw.use rfl (hB.2.2.2.2.1 _ (by simp [Nws]))) (vx_c (va_Nw.use rfl (hB.2.2.2.2.1 _ (by simp [Nws]))) (vx_c (va_Nw.use rfl (hB.2.2.2.2.1 _ (by simp [Nws]))) vx_n))))
    exact vx_throwS (A := A) (names := ["java/lang/RuntimeException", "java/lang/Exception"]) (cls := "java/lang/IndexOutOfBoundsException") hx hb hflag hown (by decide +kernel) (by decide +kernel) (hts _ (by decide +kernel)) (hts _ (by decide +kernel)) hsa9 hat9 (by decide +kernel) hB.2.2.1 hB.2.2.2.1 hS (hl.1.trans hml.symm) dX1_needPlace_9 dX1_needPlace_12 dX1_needPlace_13 dX1_needPlace_15 dX1_needPlace_18 (fun x hx9 => (hnt x hx9).elim) (Nat.le_of_ble_eq_true rfl) (Nat.le_of_ble_eq_true rfl) (Nat.le_of_ble_eq_true rfl) (Nat.le_of_ble_eq_true rfl) hlocks (fun t hvm hsz hk => ⟨(), trivial, ⟨(by
        first | exact ⟨rfl, plC_f1 c1⟩ | exact ⟨rfl, plC_f2 c6⟩), ⟨va_P.kept hP (fun k q hk9 => hk _ (hP k q hk9).lt), hD⟩⟩, ⟨Nat.le_trans hS.1 hsz, fun q h1 h2 => (hk q (Nat.lt_of_lt_of_le h1 hS.1)).trans (hS.2.1 q h1 h2)⟩⟩) hS.2.2 (Nat.le_of_ble_eq_true rfl) (Nat.le_of_ble_eq_true rfl)
  · skip
    refine lv_iload_n hx hb dX1_needPlace_4 rfl (lv_at hl 0 rfl) ?_
    refine lv_iconst (v := nI (4)) hx hb dX1_needPlace_5 (by decide) ?_
    refine lv_icmp_lt (tgt := 19) hx hb dX1_needPlace_6 (by decide) (fun c6 => ?_) (fun c6 => ?_)
    · skip
      refine W.widen (k := 1) (n := 6) (Nat.le_of_ble_eq_true rfl) (Nat.le_of_ble_eq_true rfl) ?_
      exact vx_ret (W.vret hx hb hr (fun t ht hW => ⟨⟨(), rfl, (by
          exact plC_t c1 c6), ⟨by rw [ht]; exact hP, hD⟩⟩, hS.F ht⟩) hS.2.2 dX1_needPlace_19)
    · skip
      obtain ⟨sa9, hsa9⟩ := hB.2.2.2.2.2.1 (182, "places are 0 to 3") (by decide)
      have hat9 : ∀ w ∈ (vx_atS RX1 99 "java/lang/IndexOutOfBoundsException" ["java/lang/RuntimeException", "java/lang/Exception"]), w.before _ s = true := vx_hat (B := [.castable "java/lang/IndexOutOfBoundsException" "java/lang/IndexOutOfBoundsException", .declares (Bundle.initS "java/lang/RuntimeException"), .declares (Bundle.initS "java/lang/Exception"), .declares (Bundle.initS Bundle.tN)]) (fun w hw => hts w (by first | exact List.mem_cons_of_mem _ (List.mem_append_right _ hw) | exact List.mem_cons_of_mem _ (List.mem_append_left _ (List.mem_append_right _ hw)) | exact List.mem_cons_of_mem _ (List.mem_append_left _ (List.mem_append_left _ (List.mem_append_right _ hw))))) (by decide +kernel) (vx_c (va_Nw.use rfl (hB.2.2.2.2.1 _ (by simp [Nws]))) (vx_c (va_Nw.use rfl (hB.2.2.2.2.1 _ (by simp [Nws]))) (vx_c (va_Nw.use rfl (hB.2.2.2.2.1 _ (by simp [Nws]))) (vx_c (va_Nw.use rfl (hB.2.2.2.2.1 _ (by simp [Nws]))) vx_n))))
      exact vx_throwS (A := A) (names := ["java/lang/RuntimeException", "java/lang/Exception"]) (cls := "java/lang/IndexOutOfBoundsException") hx hb hflag hown (by decide +kernel) (by decide +kernel) (hts _ (by decide +kernel)) (hts _ (by decide +kernel)) hsa9 hat9 (by decide +kernel) hB.2.2.1 hB.2.2.2.1 hS (hl.1.trans hml.symm) dX1_needPlace_9 dX1_needPlace_12 dX1_needPlace_13 dX1_needPlace_15 dX1_needPlace_18 (fun x hx9 => (hnt x hx9).elim) (Nat.le_of_ble_eq_true rfl) (Nat.le_of_ble_eq_true rfl) (Nat.le_of_ble_eq_true rfl) (Nat.le_of_ble_eq_true rfl) hlocks (fun t hvm hsz hk => ⟨(), trivial, ⟨(by
          first | exact ⟨rfl, plC_f1 c1⟩ | exact ⟨rfl, plC_f2 c6⟩), ⟨va_P.kept hP (fun k q hk9 => hk _ (hP k q hk9).lt), hD⟩⟩, ⟨Nat.le_trans hS.1 hsz, fun q h1 h2 => (hk q (Nat.lt_of_lt_of_le h1 hS.1)).trans (hS.2.1 q h1 h2)⟩⟩) hS.2.2 (Nat.le_of_ble_eq_true rfl) (Nat.le_of_ble_eq_true rfl)

set_option maxHeartbeats 4000000 in
set_option maxRecDepth 100000 in
theorem c_X1_needPlaceP (l : Launch) (D : va_G) (cI cZ cG cJ : ClassId) (A : Nat → Prop) (w : va_W) (pl : Nat) (hp : pl < 4) : Met l yX1_needPlace wsX1_needPlace ({ frames := 0, cells := 0, slots := 0, locals := 0 }) (va_Pc [.int (nI (pl))] (Iv D (TY cI cZ cG cJ) A (w))) (va_Sv (fun _ => True)) 0 0 (fun _ => False) := by
  refine Met.ofW (cc := cX1_needPlace) (maxL := 1) (ret := none) (by decide) rfl ?_
  intro p e s m args below meth c9 s₁ B hml hv
  obtain ⟨rfl, hP, hD, hB⟩ := hv
  have hK := hB.1
  have hA := hB.2.1
  have hx := B.exec
  have hb := B.bytes
  have hr := B.returns
  have hts := atoms_spec (ws := wsX1_needPlace) B.pre
  have hown : s.vm.findClass RX1 = some m.cls := findClass_of_methodNamed B.named
  have hlocks := B.notSynchronized
  have hS : va_S A s.heap s.heap [] := va_S.rf
  have hl := lv_entry ([.int (nI (pl))]) (n := 1) (Nat.le_of_ble_eq_true rfl)
  rw [lg_entry_eq]
  generalize (lg_sl ([.int (nI (pl))]) ++ List.replicate (1 - (lg_sl ([.int (nI (pl))])).length) Slot.unset).toArray = ls at hl ⊢
  have hl : lv_has ls 1 [(0, .int (nI (pl)))] := hl
  refine lv_iload_n hx hb dX1_needPlace_0 rfl (lv_at hl 0 rfl) ?_
  refine x_lt0 (tgt := 9) hx hb dX1_needPlace_1 (by decide) (by omega) ?_
  refine lv_iload_n hx hb dX1_needPlace_4 rfl (lv_at hl 0 rfl) ?_
  refine lv_iconst (v := nI (4)) hx hb dX1_needPlace_5 (by decide) ?_
  refine x_lt (tgt := 19) hx hb dX1_needPlace_6 (by decide) (by omega) (by omega) (fun c6 => ?_) (fun c6 => absurd c6 (by omega))
  exact W.vret hx hb hr (fun t ht hW => ⟨rfl, (by
      trivial), ht⟩) (fun _ h => nomatch h) dX1_needPlace_19

set_option maxHeartbeats 4000000 in
set_option maxRecDepth 100000 in
theorem c_X1_needHidden (l : Launch) (hfl : l.flags = flags0) (D : va_G) (cI cZ cG cJ : ClassId) (A : Nat → Prop) (ad : Nat → Nat) (wr : va_W) (hpal : Pals cI cG ad wr) (c : Nat) (g : Nat) (hid : Int32) (code : Nat → Nat) (ans : Nat → Nat) (dbt : Nat → Bool) (opn : Nat → Bool) (ply : Nat → Bool) (hps : Nat → Nat)  : vx_Met l yX1_needHidden wsX1_needHidden ({ frames := 6, cells := 1, slots := 6, locals := 82 }) (va_Pc [.ref (ad 0)] (Iv D (TY cI cZ cG cJ) A (WX ad cI cZ c g hid code ans dbt opn ply hps wr))) (va_Qv (fun (u : Unit) => ¬ hid = -1) (fun u => Wd D A (WX ad cI cZ c g hid code ans dbt opn ply hps wr)) A) (Xw D A (WX ad cI cZ c g hid code ans dbt opn ply hps wr) (fun E => E = "java/lang/IllegalStateException" ∧ hid = -1)) 1 6 A := by
  refine vx_ofW (cc := cX1_needHidden) (maxL := 1) (ret := none) (by decide) rfl ?_
  intro p e s m args below meth c9 s₁ B hml hnt hv
  obtain ⟨rfl, hP, hD, hB⟩ := hv
  have hK := hB.1
  have hA := hB.2.1
  have hx := B.exec
  have hb := B.bytes
  have hr := B.returns
  have hts := atoms_spec (ws := wsX1_needHidden) B.pre
  have hown : s.vm.findClass RX1 = some m.cls := findClass_of_methodNamed B.named
  have hlocks := B.notSynchronized
  have hS : va_S A s.heap s.heap [] := va_S.rf
  have hflag : l.stackTraces = false := by rw [Launch.stackTraces, hfl]; decide
  have hinX1 : ∀ w ∈ wsX10, w ∈ wsX1_needHidden := by decide +kernel
  have lk24 := hts (.fieldLink RX1 24 "HiddenCandles" "hidden" "I") (by decide +kernel)
  have hl := lv_entry ([.ref (ad 0)]) (n := 1) (Nat.le_of_ble_eq_true rfl)
  rw [lg_entry_eq]
  generalize (lg_sl ([.ref (ad 0)]) ++ List.replicate (1 - (lg_sl ([.ref (ad 0)])).length) Slot.unset).toArray = ls at hl ⊢
  have hl : lv_has ls 1 [(0, .ref (ad 0))] := hl
  obtain ⟨H, eH⟩ : ∃ q, q = s.heap := ⟨_, rfl⟩
  obtain ⟨locs, eL⟩ : ∃ q : List Loc, q = [] := ⟨_, rfl⟩
  replace hP : va_P D vwCl (WX ad cI cZ c g hid code ans dbt opn ply hps wr) H := by rw [eH]; exact hP
  replace hS : va_S A s.heap H locs := by rw [eH, eL]; exact hS
  rw [show W p l e _ s m _ below meth c9 s.heap [] = W p l e _ s m _ below meth c9 H locs from by rw [eH, eL]]
  clear eH eL
  refine lv_aload_n hx hb dX1_needHidden_0 rfl (lv_at hl 0 rfl) ?_
  refine va_get (D := D) (ci := 1) (v := .int (hid)) (C := RX1) (T := TX1) (N := 11) hx hb hts hinX1 hown hK hP 0 rfl rfl 3 (by decide) lk24 (fun _ h9 => h9) rfl dX1_needHidden_1 ?_
  refine lv_iconst (v := (-1)) hx hb dX1_needHidden_4 (by decide) ?_
  refine lv_icmp_ne (tgt := 18) hx hb dX1_needHidden_5 (by decide) (fun c5 => ?_) (fun c5 => ?_)
  · skip
    refine W.widen (k := 1) (n := 6) (Nat.le_of_ble_eq_true rfl) (Nat.le_of_ble_eq_true rfl) ?_
    exact vx_ret (W.vret hx hb hr (fun t ht hW => ⟨⟨(), rfl, (by
        exact c5), ⟨by rw [ht]; exact hP, hD⟩⟩, hS.F ht⟩) hS.2.2 dX1_needHidden_18)
  · skip
    obtain ⟨sa9, hsa9⟩ := hB.2.2.2.2.2.1 (184, "no code is hidden") (by decide)
    have hat9 : ∀ w ∈ (vx_atS RX1 104 "java/lang/IllegalStateException" ["java/lang/RuntimeException", "java/lang/Exception"]), w.before _ s = true := vx_hat (B := [.castable "java/lang/IllegalStateException" "java/lang/IllegalStateException", .declares (Bundle.initS "java/lang/RuntimeException"), .declares (Bundle.initS "java/lang/Exception"), .declares (Bundle.initS Bundle.tN)]) (fun w hw => hts w (by first | exact List.mem_cons_of_mem _ (List.mem_append_right _ hw) | exact List.mem_cons_of_mem _ (List.mem_append_left _ (List.mem_append_right _ hw)) | exact List.mem_cons_of_mem _ (List.mem_append_left _ (List.mem_append_left _ (List.mem_append_right _ hw))))) (by decide +kernel) (vx_c (va_Nw.use rfl (hB.2.2.2.2.1 _ (by simp [Nws]))) (vx_c (va_Nw.use rfl (hB.2.2.2.2.1 _ (by simp [Nws]))) (vx_c (va_Nw.use rfl (hB.2.2.2.2.1 _ (by simp [Nws]))) (vx_c (va_Nw.use rfl (hB.2.2.2.2.1 _ (by simp [Nws]))) vx_n))))
    exact vx_throwS (A := A) (names := ["java/lang/RuntimeException", "java/lang/Exception"]) (cls := "java/lang/IllegalStateException") hx hb hflag hown (by decide +kernel) (by decide +kernel) (hts _ (by decide +kernel)) (hts _ (by decide +kernel)) hsa9 hat9 (by decide +kernel) hB.2.2.1 hB.2.2.2.1 hS (hl.1.trans hml.symm) dX1_needHidden_8 dX1_needHidden_11 dX1_needHidden_12 dX1_needHidden_14 dX1_needHidden_17 (fun x hx9 => (hnt x hx9).elim) (Nat.le_of_ble_eq_true rfl) (Nat.le_of_ble_eq_true rfl) (Nat.le_of_ble_eq_true rfl) (Nat.le_of_ble_eq_true rfl) hlocks (fun t hvm hsz hk => ⟨(), trivial, ⟨(by
        exact ⟨rfl, c5⟩), ⟨va_P.kept hP (fun k q hk9 => hk _ (hP k q hk9).lt), hD⟩⟩, ⟨Nat.le_trans hS.1 hsz, fun q h1 h2 => (hk q (Nat.lt_of_lt_of_le h1 hS.1)).trans (hS.2.1 q h1 h2)⟩⟩) hS.2.2 (Nat.le_of_ble_eq_true rfl) (Nat.le_of_ble_eq_true rfl)

set_option maxHeartbeats 4000000 in
set_option maxRecDepth 100000 in
theorem c_X1_needPins (l : Launch) (hfl : l.flags = flags0) (D : va_G) (cI cZ cG cJ : ClassId) (A : Nat → Prop) (w : va_W) (b : Int32) (wt : Int32)  : vx_Met l yX1_needPins wsX1_needPins ({ frames := 6, cells := 1, slots := 6, locals := 82 }) (va_Pc [.int (b), .int (wt)] (Iv D (TY cI cZ cG cJ) A (w))) (va_Qv (fun (u : Unit) => pinC b wt = true) (fun u => Wd D A (w)) A) (Xw D A (w) (fun E => E = "java/lang/IllegalArgumentException" ∧ pinC b wt = false)) 1 6 A := by
  refine vx_ofW (cc := cX1_needPins) (maxL := 2) (ret := none) (by decide) rfl ?_
  intro p e s m args below meth c9 s₁ B hml hnt hv
  obtain ⟨rfl, hP, hD, hB⟩ := hv
  have hK := hB.1
  have hA := hB.2.1
  have hx := B.exec
  have hb := B.bytes
  have hr := B.returns
  have hts := atoms_spec (ws := wsX1_needPins) B.pre
  have hown : s.vm.findClass RX1 = some m.cls := findClass_of_methodNamed B.named
  have hlocks := B.notSynchronized
  have hS : va_S A s.heap s.heap [] := va_S.rf
  have hflag : l.stackTraces = false := by rw [Launch.stackTraces, hfl]; decide
  have hl := lv_entry ([.int (b), .int (wt)]) (n := 2) (Nat.le_of_ble_eq_true rfl)
  rw [lg_entry_eq]
  generalize (lg_sl ([.int (b), .int (wt)]) ++ List.replicate (2 - (lg_sl ([.int (b), .int (wt)])).length) Slot.unset).toArray = ls at hl ⊢
  have hl : lv_has ls 2 [(0, .int (b)), (1, .int (wt))] := hl
  obtain ⟨H, eH⟩ : ∃ q, q = s.heap := ⟨_, rfl⟩
  obtain ⟨locs, eL⟩ : ∃ q : List Loc, q = [] := ⟨_, rfl⟩
  replace hP : va_P D vwCl (w) H := by rw [eH]; exact hP
  replace hS : va_S A s.heap H locs := by rw [eH, eL]; exact hS
  rw [show W p l e _ s m _ below meth c9 s.heap [] = W p l e _ s m _ below meth c9 H locs from by rw [eH, eL]]
  clear eH eL
  refine lv_iload_n hx hb dX1_needPins_0 rfl (lv_at hl 0 rfl) ?_
  refine lv_if_lt (tgt := 15) hx hb dX1_needPins_1 (by decide) (fun c1 => ?_) (fun c1 => ?_)
  · skip
    obtain ⟨sa9, hsa9⟩ := hB.2.2.2.2.2.1 (186, "pins are 0 to 4 together") (by decide)
    have hat9 : ∀ w ∈ (vx_atS RX1 58 "java/lang/IllegalArgumentException" ["java/lang/RuntimeException", "java/lang/Exception"]), w.before _ s = true := vx_hat (B := [.castable "java/lang/IllegalArgumentException" "java/lang/IllegalArgumentException", .declares (Bundle.initS "java/lang/RuntimeException"), .declares (Bundle.initS "java/lang/Exception"), .declares (Bundle.initS Bundle.tN)]) (fun w hw => hts w (by first | exact List.mem_cons_of_mem _ (List.mem_append_right _ hw) | exact List.mem_cons_of_mem _ (List.mem_append_left _ (List.mem_append_right _ hw)) | exact List.mem_cons_of_mem _ (List.mem_append_left _ (List.mem_append_left _ (List.mem_append_right _ hw))))) (by decide +kernel) (vx_c (va_Nw.use rfl (hB.2.2.2.2.1 _ (by simp [Nws]))) (vx_c (va_Nw.use rfl (hB.2.2.2.2.1 _ (by simp [Nws]))) (vx_c (va_Nw.use rfl (hB.2.2.2.2.1 _ (by simp [Nws]))) (vx_c (va_Nw.use rfl (hB.2.2.2.2.1 _ (by simp [Nws]))) vx_n))))
    exact vx_throwS (A := A) (names := ["java/lang/RuntimeException", "java/lang/Exception"]) (cls := "java/lang/IllegalArgumentException") hx hb hflag hown (by decide +kernel) (by decide +kernel) (hts _ (by decide +kernel)) (hts _ (by decide +kernel)) hsa9 hat9 (by decide +kernel) hB.2.2.1 hB.2.2.2.1 hS (hl.1.trans hml.symm) dX1_needPins_15 dX1_needPins_18 dX1_needPins_19 dX1_needPins_21 dX1_needPins_24 (fun x hx9 => (hnt x hx9).elim) (Nat.le_of_ble_eq_true rfl) (Nat.le_of_ble_eq_true rfl) (Nat.le_of_ble_eq_true rfl) (Nat.le_of_ble_eq_true rfl) hlocks (fun t hvm hsz hk => ⟨(), trivial, ⟨(by
        first | exact ⟨rfl, pinC_f1 c1⟩ | exact ⟨rfl, pinC_f2 c5⟩ | exact ⟨rfl, pinC_f3 c12⟩), ⟨va_P.kept hP (fun k q hk9 => hk _ (hP k q hk9).lt), hD⟩⟩, ⟨Nat.le_trans hS.1 hsz, fun q h1 h2 => (hk q (Nat.lt_of_lt_of_le h1 hS.1)).trans (hS.2.1 q h1 h2)⟩⟩) hS.2.2 (Nat.le_of_ble_eq_true rfl) (Nat.le_of_ble_eq_true rfl)
  · skip
    refine lv_iload_n hx hb dX1_needPins_4 rfl (lv_at hl 1 rfl) ?_
    refine lv_if_lt (tgt := 15) hx hb dX1_needPins_5 (by decide) (fun c5 => ?_) (fun c5 => ?_)
    · skip
      obtain ⟨sa9, hsa9⟩ := hB.2.2.2.2.2.1 (186, "pins are 0 to 4 together") (by decide)
      have hat9 : ∀ w ∈ (vx_atS RX1 58 "java/lang/IllegalArgumentException" ["java/lang/RuntimeException", "java/lang/Exception"]), w.before _ s = true := vx_hat (B := [.castable "java/lang/IllegalArgumentException" "java/lang/IllegalArgumentException", .declares (Bundle.initS "java/lang/RuntimeException"), .declares (Bundle.initS "java/lang/Exception"), .declares (Bundle.initS Bundle.tN)]) (fun w hw => hts w (by first | exact List.mem_cons_of_mem _ (List.mem_append_right _ hw) | exact List.mem_cons_of_mem _ (List.mem_append_left _ (List.mem_append_right _ hw)) | exact List.mem_cons_of_mem _ (List.mem_append_left _ (List.mem_append_left _ (List.mem_append_right _ hw))))) (by decide +kernel) (vx_c (va_Nw.use rfl (hB.2.2.2.2.1 _ (by simp [Nws]))) (vx_c (va_Nw.use rfl (hB.2.2.2.2.1 _ (by simp [Nws]))) (vx_c (va_Nw.use rfl (hB.2.2.2.2.1 _ (by simp [Nws]))) (vx_c (va_Nw.use rfl (hB.2.2.2.2.1 _ (by simp [Nws]))) vx_n))))
      exact vx_throwS (A := A) (names := ["java/lang/RuntimeException", "java/lang/Exception"]) (cls := "java/lang/IllegalArgumentException") hx hb hflag hown (by decide +kernel) (by decide +kernel) (hts _ (by decide +kernel)) (hts _ (by decide +kernel)) hsa9 hat9 (by decide +kernel) hB.2.2.1 hB.2.2.2.1 hS (hl.1.trans hml.symm) dX1_needPins_15 dX1_needPins_18 dX1_needPins_19 dX1_needPins_21 dX1_needPins_24 (fun x hx9 => (hnt x hx9).elim) (Nat.le_of_ble_eq_true rfl) (Nat.le_of_ble_eq_true rfl) (Nat.le_of_ble_eq_true rfl) (Nat.le_of_ble_eq_true rfl) hlocks (fun t hvm hsz hk => ⟨(), trivial, ⟨(by
          first | exact ⟨rfl, pinC_f1 c1⟩ | exact ⟨rfl, pinC_f2 c5⟩ | exact ⟨rfl, pinC_f3 c12⟩), ⟨va_P.kept hP (fun k q hk9 => hk _ (hP k q hk9).lt), hD⟩⟩, ⟨Nat.le_trans hS.1 hsz, fun q h1 h2 => (hk q (Nat.lt_of_lt_of_le h1 hS.1)).trans (hS.2.1 q h1 h2)⟩⟩) hS.2.2 (Nat.le_of_ble_eq_true rfl) (Nat.le_of_ble_eq_true rfl)
    · skip
      refine lv_iload_n hx hb dX1_needPins_8 rfl (lv_at hl 1 rfl) ?_
      refine lv_iconst (v := 4) hx hb dX1_needPins_9 (by decide) ?_
      refine lv_iload_n hx hb dX1_needPins_10 rfl (lv_at hl 0 rfl) ?_
      refine lv_isub hx hb dX1_needPins_11  ?_
      refine x_ti (y := 4 - b) (rfl) ?_
      refine lv_icmp_le (tgt := 25) hx hb dX1_needPins_12 (by decide) (fun c12 => ?_) (fun c12 => ?_)
      · skip
        refine lv_iload_n hx hb dX1_needPins_25 rfl (lv_at hl 0 rfl) ?_
        refine lv_iconst (v := 3) hx hb dX1_needPins_26 (by decide) ?_
        refine lv_icmp_ne (tgt := 45) hx hb dX1_needPins_27 (by decide) (fun c27 => ?_) (fun c27 => ?_)
        · skip
          refine W.widen (k := 1) (n := 6) (Nat.le_of_ble_eq_true rfl) (Nat.le_of_ble_eq_true rfl) ?_
          exact vx_ret (W.vret hx hb hr (fun t ht hW => ⟨⟨(), rfl, (by
              first | exact pinC_t c1 c5 c12 (fun q => c27 q.1) | exact pinC_t c1 c5 c12 (fun q => c32 q.2)), ⟨by rw [ht]; exact hP, hD⟩⟩, hS.F ht⟩) hS.2.2 dX1_needPins_45)
        · skip
          refine lv_iload_n hx hb dX1_needPins_30 rfl (lv_at hl 1 rfl) ?_
          refine lv_iconst (v := 1) hx hb dX1_needPins_31 (by decide) ?_
          refine lv_icmp_ne (tgt := 45) hx hb dX1_needPins_32 (by decide) (fun c32 => ?_) (fun c32 => ?_)
          · skip
            refine W.widen (k := 1) (n := 6) (Nat.le_of_ble_eq_true rfl) (Nat.le_of_ble_eq_true rfl) ?_
            exact vx_ret (W.vret hx hb hr (fun t ht hW => ⟨⟨(), rfl, (by
                first | exact pinC_t c1 c5 c12 (fun q => c27 q.1) | exact pinC_t c1 c5 c12 (fun q => c32 q.2)), ⟨by rw [ht]; exact hP, hD⟩⟩, hS.F ht⟩) hS.2.2 dX1_needPins_45)
          · skip
            obtain ⟨sa9, hsa9⟩ := hB.2.2.2.2.2.1 (188, "three black pins leave no white one") (by decide)
            have hat9 : ∀ w ∈ (vx_atS RX1 58 "java/lang/IllegalArgumentException" ["java/lang/RuntimeException", "java/lang/Exception"]), w.before _ s = true := vx_hat (B := [.castable "java/lang/IllegalArgumentException" "java/lang/IllegalArgumentException", .declares (Bundle.initS "java/lang/RuntimeException"), .declares (Bundle.initS "java/lang/Exception"), .declares (Bundle.initS Bundle.tN)]) (fun w hw => hts w (by first | exact List.mem_cons_of_mem _ (List.mem_append_right _ hw) | exact List.mem_cons_of_mem _ (List.mem_append_left _ (List.mem_append_right _ hw)) | exact List.mem_cons_of_mem _ (List.mem_append_left _ (List.mem_append_left _ (List.mem_append_right _ hw))))) (by decide +kernel) (vx_c (va_Nw.use rfl (hB.2.2.2.2.1 _ (by simp [Nws]))) (vx_c (va_Nw.use rfl (hB.2.2.2.2.1 _ (by simp [Nws]))) (vx_c (va_Nw.use rfl (hB.2.2.2.2.1 _ (by simp [Nws]))) (vx_c (va_Nw.use rfl (hB.2.2.2.2.1 _ (by simp [Nws]))) vx_n))))
            exact vx_throwS (A := A) (names := ["java/lang/RuntimeException", "java/lang/Exception"]) (cls := "java/lang/IllegalArgumentException") hx hb hflag hown (by decide +kernel) (by decide +kernel) (hts _ (by decide +kernel)) (hts _ (by decide +kernel)) hsa9 hat9 (by decide +kernel) hB.2.2.1 hB.2.2.2.1 hS (hl.1.trans hml.symm) dX1_needPins_35 dX1_needPins_38 dX1_needPins_39 dX1_needPins_41 dX1_needPins_44 (fun x hx9 => (hnt x hx9).elim) (Nat.le_of_ble_eq_true rfl) (Nat.le_of_ble_eq_true rfl) (Nat.le_of_ble_eq_true rfl) (Nat.le_of_ble_eq_true rfl) hlocks (fun t hvm hsz hk => ⟨(), trivial, ⟨(by
                exact ⟨rfl, pinC_f4 c27 c32⟩), ⟨va_P.kept hP (fun k q hk9 => hk _ (hP k q hk9).lt), hD⟩⟩, ⟨Nat.le_trans hS.1 hsz, fun q h1 h2 => (hk q (Nat.lt_of_lt_of_le h1 hS.1)).trans (hS.2.1 q h1 h2)⟩⟩) hS.2.2 (Nat.le_of_ble_eq_true rfl) (Nat.le_of_ble_eq_true rfl)
      · skip
        obtain ⟨sa9, hsa9⟩ := hB.2.2.2.2.2.1 (186, "pins are 0 to 4 together") (by decide)
        have hat9 : ∀ w ∈ (vx_atS RX1 58 "java/lang/IllegalArgumentException" ["java/lang/RuntimeException", "java/lang/Exception"]), w.before _ s = true := vx_hat (B := [.castable "java/lang/IllegalArgumentException" "java/lang/IllegalArgumentException", .declares (Bundle.initS "java/lang/RuntimeException"), .declares (Bundle.initS "java/lang/Exception"), .declares (Bundle.initS Bundle.tN)]) (fun w hw => hts w (by first | exact List.mem_cons_of_mem _ (List.mem_append_right _ hw) | exact List.mem_cons_of_mem _ (List.mem_append_left _ (List.mem_append_right _ hw)) | exact List.mem_cons_of_mem _ (List.mem_append_left _ (List.mem_append_left _ (List.mem_append_right _ hw))))) (by decide +kernel) (vx_c (va_Nw.use rfl (hB.2.2.2.2.1 _ (by simp [Nws]))) (vx_c (va_Nw.use rfl (hB.2.2.2.2.1 _ (by simp [Nws]))) (vx_c (va_Nw.use rfl (hB.2.2.2.2.1 _ (by simp [Nws]))) (vx_c (va_Nw.use rfl (hB.2.2.2.2.1 _ (by simp [Nws]))) vx_n))))
        exact vx_throwS (A := A) (names := ["java/lang/RuntimeException", "java/lang/Exception"]) (cls := "java/lang/IllegalArgumentException") hx hb hflag hown (by decide +kernel) (by decide +kernel) (hts _ (by decide +kernel)) (hts _ (by decide +kernel)) hsa9 hat9 (by decide +kernel) hB.2.2.1 hB.2.2.2.1 hS (hl.1.trans hml.symm) dX1_needPins_15 dX1_needPins_18 dX1_needPins_19 dX1_needPins_21 dX1_needPins_24 (fun x hx9 => (hnt x hx9).elim) (Nat.le_of_ble_eq_true rfl) (Nat.le_of_ble_eq_true rfl) (Nat.le_of_ble_eq_true rfl) (Nat.le_of_ble_eq_true rfl) hlocks (fun t hvm hsz hk => ⟨(), trivial, ⟨(by
            first | exact ⟨rfl, pinC_f1 c1⟩ | exact ⟨rfl, pinC_f2 c5⟩ | exact ⟨rfl, pinC_f3 c12⟩), ⟨va_P.kept hP (fun k q hk9 => hk _ (hP k q hk9).lt), hD⟩⟩, ⟨Nat.le_trans hS.1 hsz, fun q h1 h2 => (hk q (Nat.lt_of_lt_of_le h1 hS.1)).trans (hS.2.1 q h1 h2)⟩⟩) hS.2.2 (Nat.le_of_ble_eq_true rfl) (Nat.le_of_ble_eq_true rfl)

set_option maxHeartbeats 4000000 in
set_option maxRecDepth 100000 in
theorem c_X1_mix (l : Launch) (D : va_G) (cI cZ cG cJ : ClassId) (A : Nat → Prop) (w : va_W) (d : Int64) (x : Int32)  : Met l yX1_mix wsX1_mix ({ frames := 0, cells := 0, slots := 0, locals := 0 }) (va_Pc [.long (d), .int (x)] (Iv D (TY cI cZ cG cJ) A (w))) (vp_Sl (fun r => r = dgm d x)) 0 0 (fun _ => False) := by
  refine Met.ofW (cc := cX1_mix) (maxL := 3) (ret := (some .long)) (by decide) rfl ?_
  intro p e s m args below meth c9 s₁ B hml hv
  obtain ⟨rfl, hP, hD, hB⟩ := hv
  have hK := hB.1
  have hA := hB.2.1
  have hx := B.exec
  have hb := B.bytes
  have hr := B.returns
  have hts := atoms_spec (ws := wsX1_mix) B.pre
  have hown : s.vm.findClass RX1 = some m.cls := findClass_of_methodNamed B.named
  have hlocks := B.notSynchronized
  have hS : va_S A s.heap s.heap [] := va_S.rf
  have hl := lv_entry ([.long (d), .int (x)]) (n := 3) (Nat.le_of_ble_eq_true rfl)
  rw [lg_entry_eq]
  generalize (lg_sl ([.long (d), .int (x)]) ++ List.replicate (3 - (lg_sl ([.long (d), .int (x)])).length) Slot.unset).toArray = ls at hl ⊢
  have hl : lv_has ls 3 [(0, .long (d)), (2, .int (x))] := hl
  refine lv_lload_n hx hb dX1_mix_0 rfl (lv_at hl 0 rfl) ?_
  refine lv_ldc2 (v := 31) hx hb hown (hts _ (by decide +kernel)) dX1_mix_1 ?_
  refine lv_lmul hx hb dX1_mix_4 ?_
  refine lv_iload_n hx hb dX1_mix_5 rfl (lv_at hl 1 rfl) ?_
  refine lv_i2l hx hb dX1_mix_6 rfl ?_
  refine lv_ladd hx hb dX1_mix_7 ?_
  exact W.lret (v := ((d) * (31)) + ((x).toInt64)) hx hb hr (fun t ht hW => ⟨_, rfl, (by
      rfl), ht⟩) (fun _ h => nomatch h) dX1_mix_8

set_option maxHeartbeats 4000000 in
set_option maxRecDepth 100000 in
theorem c_X1_hasGuess (l : Launch) (D : va_G) (cI cZ cG cJ : ClassId) (A : Nat → Prop) (ad : Nat → Nat) (wr : va_W) (hpal : Pals cI cG ad wr) (c : Nat) (g : Nat) (hid : Int32) (code : Nat → Nat) (ans : Nat → Nat) (dbt : Nat → Bool) (opn : Nat → Bool) (ply : Nat → Bool) (hps : Nat → Nat) (v : Int32) (hg : g ≤ 12) : Met l yX1_hasGuess wsX1_hasGuess ({ frames := 0, cells := 0, slots := 0, locals := 0 }) (va_Pc [.ref (ad 0), .int (v)] (Iv D (TY cI cZ cG cJ) A (WX ad cI cZ c g hid code ans dbt opn ply hps wr))) (vp_Si (fun r => r = bI (gsC g v))) 0 0 (fun _ => False) := by
  refine Met.ofW (cc := cX1_hasGuess) (maxL := 2) (ret := (some .boolean)) (by decide) rfl ?_
  intro p e s m args below meth c9 s₁ B hml hv
  obtain ⟨rfl, hP, hD, hB⟩ := hv
  have hK := hB.1
  have hA := hB.2.1
  have hx := B.exec
  have hb := B.bytes
  have hr := B.returns
  have hts := atoms_spec (ws := wsX1_hasGuess) B.pre
  have hown : s.vm.findClass RX1 = some m.cls := findClass_of_methodNamed B.named
  have hlocks := B.notSynchronized
  have hS : va_S A s.heap s.heap [] := va_S.rf
  have hinX1 : ∀ w ∈ wsX10, w ∈ wsX1_hasGuess := by decide +kernel
  have lk28 := hts (.fieldLink RX1 28 "HiddenCandles" "guesses" "I") (by decide +kernel)
  have hl := lv_entry ([.ref (ad 0), .int (v)]) (n := 2) (Nat.le_of_ble_eq_true rfl)
  rw [lg_entry_eq]
  generalize (lg_sl ([.ref (ad 0), .int (v)]) ++ List.replicate (2 - (lg_sl ([.ref (ad 0), .int (v)])).length) Slot.unset).toArray = ls at hl ⊢
  have hl : lv_has ls 2 [(0, .ref (ad 0)), (1, .int (v))] := hl
  refine lv_iload_n hx hb dX1_hasGuess_0 rfl (lv_at hl 1 rfl) ?_
  refine lv_if_lt (tgt := 22) hx hb dX1_hasGuess_1 (by decide) (fun c1 => ?_) (fun c1 => ?_)
  · skip
    refine lv_iconst (v := bI (false)) hx hb dX1_hasGuess_22 (by decide) ?_
    exact W.zret (v := bI (false)) hx hb hr (bI_narrow _) (fun t ht hW => ⟨_, rfl, (by
        first | rw [gsC_f1 c1] | rw [gsC_f2 c9] | exact absurd c15 (gsC_12 hg c9) | rw [gsC_t c1 c9]), ht⟩) (fun _ h => nomatch h) dX1_hasGuess_23
  · skip
    refine lv_iload_n hx hb dX1_hasGuess_4 rfl (lv_at hl 1 rfl) ?_
    refine lv_aload_n hx hb dX1_hasGuess_5 rfl (lv_at hl 0 rfl) ?_
    refine va_get (D := D) (ci := 1) (v := .int (nI (g))) (C := RX1) (T := TX1) (N := 11) hx hb hts hinX1 hown hK hP 0 rfl rfl 4 (by decide) lk28 (fun _ h9 => h9) rfl dX1_hasGuess_6 ?_
    refine lv_icmp_ge (tgt := 22) hx hb dX1_hasGuess_9 (by decide) (fun c9 => ?_) (fun c9 => ?_)
    · skip
      refine lv_iconst (v := bI (false)) hx hb dX1_hasGuess_22 (by decide) ?_
      exact W.zret (v := bI (false)) hx hb hr (bI_narrow _) (fun t ht hW => ⟨_, rfl, (by
          first | rw [gsC_f1 c1] | rw [gsC_f2 c9] | exact absurd c15 (gsC_12 hg c9) | rw [gsC_t c1 c9]), ht⟩) (fun _ h => nomatch h) dX1_hasGuess_23
    · skip
      refine lv_iload_n hx hb dX1_hasGuess_12 rfl (lv_at hl 1 rfl) ?_
      refine lv_bipush (v := 12) hx hb dX1_hasGuess_13 (by decide) ?_
      refine lv_icmp_ge (tgt := 22) hx hb dX1_hasGuess_15 (by decide) (fun c15 => ?_) (fun c15 => ?_)
      · skip
        refine lv_iconst (v := bI (false)) hx hb dX1_hasGuess_22 (by decide) ?_
        exact W.zret (v := bI (false)) hx hb hr (bI_narrow _) (fun t ht hW => ⟨_, rfl, (by
            first | rw [gsC_f1 c1] | rw [gsC_f2 c9] | exact absurd c15 (gsC_12 hg c9) | rw [gsC_t c1 c9]), ht⟩) (fun _ h => nomatch h) dX1_hasGuess_23
      · skip
        refine lv_iconst (v := bI (true)) hx hb dX1_hasGuess_18 (by decide) ?_
        refine lv_goto (tgt := 23) hx hb dX1_hasGuess_19 (by decide) ?_
        exact W.zret (v := bI (true)) hx hb hr (bI_narrow _) (fun t ht hW => ⟨_, rfl, (by
            first | rw [gsC_f1 c1] | rw [gsC_f2 c9] | exact absurd c15 (gsC_12 hg c9) | rw [gsC_t c1 c9]), ht⟩) (fun _ h => nomatch h) dX1_hasGuess_23

set_option maxHeartbeats 4000000 in
set_option maxRecDepth 100000 in
theorem c_X1_append (l : Launch) (hfl : l.flags = flags0) (D : va_G) (cI cZ cG cJ : ClassId) (A : Nat → Prop) (ad : Nat → Nat) (wr : va_W) (hpal : Pals cI cG ad wr) (c : Nat) (g : Nat) (hid : Int32) (code : Nat → Nat) (ans : Nat → Nat) (dbt : Nat → Bool) (opn : Nat → Bool) (ply : Nat → Bool) (hps : Nat → Nat) (cd : Nat) (an : Nat) (hc : c = 2 ∨ c = 3) (hg : g ≤ 12) (hco : CodeOK c g code ans) (hcd : cd < qq c) (han : an < 32) : vx_Met l yX1_append wsX1_append ({ frames := 6, cells := 1, slots := 6, locals := 87 }) (va_Pc [.ref (ad 0), .int (nI (cd)), .int (nI (an))] (Iv D (TY cI cZ cG cJ) A (WX ad cI cZ c g hid code ans dbt opn ply hps wr))) (va_Qv (fun (u : Nat → Bool) => g < 12 ∧ ∀ k, k < 81 → u k = opS c (g + 1) (va_up code g cd) (va_up ans g an) (va_up dbt g false) k) (fun u => Wd D A (WX ad cI cZ c (g + 1) hid (va_up code g cd) (va_up ans g an) (va_up dbt g false) u ply hps wr)) A) (Xw D A (WX ad cI cZ c g hid code ans dbt opn ply hps wr) (fun E => E = "java/lang/IllegalStateException" ∧ 12 ≤ g)) 1 6 A := by
  refine vx_ofW (cc := cX1_append) (maxL := 4) (ret := none) (by decide) rfl ?_
  intro p e s m args below meth c9 s₁ B hml hnt hv
  obtain ⟨rfl, hP, hD, hB⟩ := hv
  have hK := hB.1
  have hA := hB.2.1
  have hx := B.exec
  have hb := B.bytes
  have hr := B.returns
  have hts := atoms_spec (ws := wsX1_append) B.pre
  have hown : s.vm.findClass RX1 = some m.cls := findClass_of_methodNamed B.named
  have hlocks := B.notSynchronized
  have hS : va_S A s.heap s.heap [] := va_S.rf
  have hflag : l.stackTraces = false := by rw [Launch.stackTraces, hfl]; decide
  have hinX1 : ∀ w ∈ wsX10, w ∈ wsX1_append := by decide +kernel
  have lk28 := hts (.fieldLink RX1 28 "HiddenCandles" "guesses" "I") (by decide +kernel)
  have lk31 := hts (.fieldLink RX1 31 "HiddenCandles" "guessed" "[I") (by decide +kernel)
  have lk35 := hts (.fieldLink RX1 35 "HiddenCandles" "answers" "[I") (by decide +kernel)
  have lk38 := hts (.fieldLink RX1 38 "HiddenCandles" "doubted" "[Z") (by decide +kernel)
  have hl := lv_entry ([.ref (ad 0), .int (nI (cd)), .int (nI (an))]) (n := 4) (Nat.le_of_ble_eq_true rfl)
  rw [lg_entry_eq]
  generalize (lg_sl ([.ref (ad 0), .int (nI (cd)), .int (nI (an))]) ++ List.replicate (4 - (lg_sl ([.ref (ad 0), .int (nI (cd)), .int (nI (an))])).length) Slot.unset).toArray = ls at hl ⊢
  have hl : lv_has ls 4 [(0, .ref (ad 0)), (1, .int (nI (cd))), (2, .int (nI (an)))] := hl
  obtain ⟨H, eH⟩ : ∃ q, q = s.heap := ⟨_, rfl⟩
  obtain ⟨locs, eL⟩ : ∃ q : List Loc, q = [] := ⟨_, rfl⟩
  replace hP : va_P D vwCl (WX ad cI cZ c g hid code ans dbt opn ply hps wr) H := by rw [eH]; exact hP
  replace hS : va_S A s.heap H locs := by rw [eH, eL]; exact hS
  rw [show W p l e _ s m _ below meth c9 s.heap [] = W p l e _ s m _ below meth c9 H locs from by rw [eH, eL]]
  clear eH eL
  have hq := qq_in hc
  refine lv_aload_n hx hb dX1_append_0 rfl (lv_at hl 0 rfl) ?_
  refine va_get (D := D) (ci := 1) (v := .int (nI (g))) (C := RX1) (T := TX1) (N := 11) hx hb hts hinX1 hown hK hP 0 rfl rfl 4 (by decide) lk28 (fun _ h9 => h9) rfl dX1_append_1 ?_
  refine lv_istore_n (lv' := [(3, .int (nI (g))), (0, .ref (ad 0)), (1, .int (nI (cd))), (2, .int (nI (an)))]) hx hb dX1_append_4 rfl hl (by decide) rfl (fun ls hl => ?_)
  refine lv_iload_n hx hb dX1_append_5 rfl (lv_at hl 0 rfl) ?_
  refine x_lt0 (tgt := 15) hx hb dX1_append_6 (by decide) (by omega) ?_
  refine lv_iload_n hx hb dX1_append_9 rfl (lv_at hl 0 rfl) ?_
  refine lv_bipush (v := nI (12)) hx hb dX1_append_10 (by decide) ?_
  refine x_lt (tgt := 25) hx hb dX1_append_12 (by decide) (by omega) (by omega) (fun c12 => ?_) (fun c12 => ?_)
  · skip
    refine lv_aload_n hx hb dX1_append_25 rfl (lv_at hl 1 rfl) ?_
    refine va_get (D := D) (ci := 1) (v := .ref (ad 1)) (C := RX1) (T := TX1) (N := 11) hx hb hts hinX1 hown hK hP 0 rfl rfl 5 (by decide) lk31 (fun _ h9 => h9) rfl dX1_append_26 ?_
    refine lv_iload_n hx hb dX1_append_29 rfl (lv_at hl 0 rfl) ?_
    refine lv_iload_n hx hb dX1_append_30 rfl (lv_at hl 2 rfl) ?_
    refine x_iast hx hb hK hP hD hS 1 0 rfl rfl (i := g) (v := cd) (by omega) (by omega) dX1_append_31 (fun H locs hP hD hS => ?_)
    replace hP : va_P D vwCl (WX ad cI cZ c g hid (va_up code g cd) ans dbt opn ply hps wr) H := hP
    replace hD : va_D A (WX ad cI cZ c g hid (va_up code g cd) ans dbt opn ply hps wr) := hD
    refine lv_aload_n hx hb dX1_append_32 rfl (lv_at hl 1 rfl) ?_
    refine va_get (D := D) (ci := 1) (v := .ref (ad 2)) (C := RX1) (T := TX1) (N := 11) hx hb hts hinX1 hown hK hP 0 rfl rfl 6 (by decide) lk35 (fun _ h9 => h9) rfl dX1_append_33 ?_
    refine lv_iload_n hx hb dX1_append_36 rfl (lv_at hl 0 rfl) ?_
    refine lv_iload_n hx hb dX1_append_37 rfl (lv_at hl 3 rfl) ?_
    refine x_iast hx hb hK hP hD hS 2 0 rfl rfl (i := g) (v := an) (by omega) (by omega) dX1_append_38 (fun H locs hP hD hS => ?_)
    replace hP : va_P D vwCl (WX ad cI cZ c g hid (va_up code g cd) (va_up ans g an) dbt opn ply hps wr) H := hP
    replace hD : va_D A (WX ad cI cZ c g hid (va_up code g cd) (va_up ans g an) dbt opn ply hps wr) := hD
    refine lv_aload_n hx hb dX1_append_39 rfl (lv_at hl 1 rfl) ?_
    refine va_get (D := D) (ci := 1) (v := .ref (ad 3)) (C := RX1) (T := TX1) (N := 11) hx hb hts hinX1 hown hK hP 0 rfl rfl 7 (by decide) lk38 (fun _ h9 => h9) rfl dX1_append_40 ?_
    refine lv_iload_n hx hb dX1_append_43 rfl (lv_at hl 0 rfl) ?_
    refine lv_iconst (v := bI (false)) hx hb dX1_append_44 (by decide) ?_
    refine x_zast hx hb hK hP hD hS 3 1 rfl rfl (i := g) (v := false) (by omega) (by omega) dX1_append_45 (fun H locs hP hD hS => ?_)
    replace hP : va_P D vwCl (WX ad cI cZ c g hid (va_up code g cd) (va_up ans g an) (va_up dbt g false) opn ply hps wr) H := hP
    replace hD : va_D A (WX ad cI cZ c g hid (va_up code g cd) (va_up ans g an) (va_up dbt g false) opn ply hps wr) := hD
    refine lv_aload_n hx hb dX1_append_46 rfl (lv_at hl 1 rfl) ?_
    refine lv_iload_n hx hb dX1_append_47 rfl (lv_at hl 0 rfl) ?_
    refine lv_iconst (v := nI (1)) hx hb dX1_append_48 (by decide) ?_
    refine lv_iadd hx hb dX1_append_49 ?_
    refine x_ti (nI_add _ _) ?_
    refine va_put (D := D) (ci := 1) (v := .int (nI (g + 1))) (ty := .int) (C := RX1) (T := TX1) (N := 11) hx hb hts hinX1 tyX1 tyX1_ok nmX1 hown hK hP hD hS 0 rfl rfl 4 (by decide) lk28 (fun _ h9 => h9) rfl (by decide +kernel) rfl rfl (Nat.le_of_ble_eq_true rfl) dX1_append_50 (fun H locs hP hD hS => ?_)
    replace hP : va_P D vwCl (WX ad cI cZ c (g + 1) hid (va_up code g cd) (va_up ans g an) (va_up dbt g false) opn ply hps wr) H := hP
    replace hD : va_D A (WX ad cI cZ c (g + 1) hid (va_up code g cd) (va_up ans g an) (va_up dbt g false) opn ply hps wr) := hD
    refine lv_aload_n hx hb dX1_append_53 rfl (lv_at hl 1 rfl) ?_
    refine va_callv (va_runV (As := []) (rest := []) ⟨hx, hb, hml, hown, hts⟩ (c_X1_sieve l D cI cZ cG cJ A ad wr hpal c (g + 1) hid (va_up code g cd) (va_up ans g an) (va_up dbt g false) opn ply hps (hc) (by omega) (code_up hco hcd han)) (cwV 0 hts gX1_append_X1_sieve rfl rfl rfl (by decide +kernel) ⟨Nat.le_of_ble_eq_true rfl, Nat.le_of_ble_eq_true rfl⟩) (preV (ci := 1) (q0 := 0) hB hS hP hD rfl rfl) rfl rfl hl.1 rfl (lv_room (Nat.le_of_ble_eq_true rfl)) dX1_append_54 ⟨Nat.le_of_ble_eq_true rfl, Nat.le_of_ble_eq_true rfl⟩) hS (fun q _ h => h) (fun q h => h) (fun u_54 t9 H1 locs1 ht9 hvm9 hw_54 hBw hz9 hk9 hS => ?_)
    obtain ⟨hP, hD⟩ := hBw
    rw [ht9] at hP
    generalize H1 = H at hP hS ⊢
    generalize locs1 = locs at hS ⊢
    replace hP : va_P D vwCl (WX ad cI cZ c (g + 1) hid (va_up code g cd) (va_up ans g an) (va_up dbt g false) u_54 ply hps wr) H := hP
    replace hD : va_D A (WX ad cI cZ c (g + 1) hid (va_up code g cd) (va_up ans g an) (va_up dbt g false) u_54 ply hps wr) := hD
    refine W.widen (k := 1) (n := 6) (Nat.le_of_ble_eq_true rfl) (Nat.le_of_ble_eq_true rfl) ?_
    exact vx_ret (W.vret hx hb hr (fun t ht hW => ⟨⟨u_54, rfl, (by
        exact ⟨c12, hw_54⟩), ⟨by rw [ht]; exact hP, hD⟩⟩, hS.F ht⟩) hS.2.2 dX1_append_57)
  · skip
    obtain ⟨sa9, hsa9⟩ := hB.2.2.2.2.2.1 (190, "there are 12 guesses") (by decide)
    have hat9 : ∀ w ∈ (vx_atS RX1 104 "java/lang/IllegalStateException" ["java/lang/RuntimeException", "java/lang/Exception"]), w.before _ s = true := vx_hat (B := [.castable "java/lang/IllegalStateException" "java/lang/IllegalStateException", .declares (Bundle.initS "java/lang/RuntimeException"), .declares (Bundle.initS "java/lang/Exception"), .declares (Bundle.initS Bundle.tN)]) (fun w hw => hts w (by first | exact List.mem_cons_of_mem _ (List.mem_append_right _ hw) | exact List.mem_cons_of_mem _ (List.mem_append_left _ (List.mem_append_right _ hw)) | exact List.mem_cons_of_mem _ (List.mem_append_left _ (List.mem_append_left _ (List.mem_append_right _ hw))))) (by decide +kernel) (vx_c (va_Nw.use rfl (hB.2.2.2.2.1 _ (by simp [Nws]))) (vx_c (va_Nw.use rfl (hB.2.2.2.2.1 _ (by simp [Nws]))) (vx_c (va_Nw.use rfl (hB.2.2.2.2.1 _ (by simp [Nws]))) (vx_c (va_Nw.use rfl (hB.2.2.2.2.1 _ (by simp [Nws]))) vx_n))))
    exact vx_throwS (A := A) (names := ["java/lang/RuntimeException", "java/lang/Exception"]) (cls := "java/lang/IllegalStateException") hx hb hflag hown (by decide +kernel) (by decide +kernel) (hts _ (by decide +kernel)) (hts _ (by decide +kernel)) hsa9 hat9 (by decide +kernel) hB.2.2.1 hB.2.2.2.1 hS (hl.1.trans hml.symm) dX1_append_15 dX1_append_18 dX1_append_19 dX1_append_21 dX1_append_24 (fun x hx9 => (hnt x hx9).elim) (Nat.le_of_ble_eq_true rfl) (Nat.le_of_ble_eq_true rfl) (Nat.le_of_ble_eq_true rfl) (Nat.le_of_ble_eq_true rfl) hlocks (fun t hvm hsz hk => ⟨(), trivial, ⟨(by
        exact ⟨rfl, c12⟩), ⟨va_P.kept hP (fun k q hk9 => hk _ (hP k q hk9).lt), hD⟩⟩, ⟨Nat.le_trans hS.1 hsz, fun q h1 h2 => (hk q (Nat.lt_of_lt_of_le h1 hS.1)).trans (hS.2.1 q h1 h2)⟩⟩) hS.2.2 (Nat.le_of_ble_eq_true rfl) (Nat.le_of_ble_eq_true rfl)

set_option maxHeartbeats 4000000 in
set_option maxRecDepth 100000 in
theorem c_X1_setColours (l : Launch) (hfl : l.flags = flags0) (D : va_G) (cI cZ cG cJ : ClassId) (A : Nat → Prop) (ad : Nat → Nat) (wr : va_W) (hpal : Pals cI cG ad wr) (c : Nat) (g : Nat) (hid : Int32) (code : Nat → Nat) (ans : Nat → Nat) (dbt : Nat → Bool) (opn : Nat → Bool) (ply : Nat → Bool) (hps : Nat → Nat) (v : Int32) (hI : XI c g hid code ans dbt opn) : vx_Met l yX1_setColours wsX1_setColours ({ frames := 6, cells := 1, slots := 6, locals := 87 }) (va_Pc [.ref (ad 0), .int (v)] (Iv D (TY cI cZ cG cJ) A (WX ad cI cZ c g hid code ans dbt opn ply hps wr))) (va_Qi (fun r (u : Nat × (Nat → Bool)) => r = nI c ∧ ((u.1 = 2 ∨ u.1 = 3) ∧ v = nI u.1) ∧ ∀ k, k < 81 → u.2 k = opS u.1 0 code ans dbt k) (fun u => Wd D A (WX ad cI cZ u.1 0 (-1) code ans dbt u.2 ply hps wr)) A) (Xw D A (WX ad cI cZ c g hid code ans dbt opn ply hps wr) (fun E => E = "java/lang/IllegalArgumentException" ∧ ¬ v = 2 ∧ ¬ v = 3)) 1 6 A := by
  refine vx_ofW (cc := cX1_setColours) (maxL := 3) (ret := (some .int)) (by decide) rfl ?_
  intro p e s m args below meth c9 s₁ B hml hnt hv
  obtain ⟨rfl, hP, hD, hB⟩ := hv
  have hK := hB.1
  have hA := hB.2.1
  have hx := B.exec
  have hb := B.bytes
  have hr := B.returns
  have hts := atoms_spec (ws := wsX1_setColours) B.pre
  have hown : s.vm.findClass RX1 = some m.cls := findClass_of_methodNamed B.named
  have hlocks := B.notSynchronized
  have hS : va_S A s.heap s.heap [] := va_S.rf
  have hflag : l.stackTraces = false := by rw [Launch.stackTraces, hfl]; decide
  have hinX0 : ∀ w ∈ wsX00, w ∈ wsX1_setColours := by decide +kernel
  have hinX1 : ∀ w ∈ wsX10, w ∈ wsX1_setColours := by decide +kernel
  have lk14 := hts (.fieldLink RX1 14 "HiddenCandles" "fewColours" "LHiddenCandles$Palette;") (by decide +kernel)
  have lk18 := hts (.fieldLink RX1 18 "HiddenCandles" "manyColours" "LHiddenCandles$Palette;") (by decide +kernel)
  have lk21 := hts (.fieldLink RX1 21 "HiddenCandles" "palette" "LHiddenCandles$Palette;") (by decide +kernel)
  have lk24 := hts (.fieldLink RX1 24 "HiddenCandles" "hidden" "I") (by decide +kernel)
  have lk28 := hts (.fieldLink RX1 28 "HiddenCandles" "guesses" "I") (by decide +kernel)
  have hl := lv_entry ([.ref (ad 0), .int (v)]) (n := 3) (Nat.le_of_ble_eq_true rfl)
  rw [lg_entry_eq]
  generalize (lg_sl ([.ref (ad 0), .int (v)]) ++ List.replicate (3 - (lg_sl ([.ref (ad 0), .int (v)])).length) Slot.unset).toArray = ls at hl ⊢
  have hl : lv_has ls 3 [(0, .ref (ad 0)), (1, .int (v))] := hl
  obtain ⟨H, eH⟩ : ∃ q, q = s.heap := ⟨_, rfl⟩
  obtain ⟨locs, eL⟩ : ∃ q : List Loc, q = [] := ⟨_, rfl⟩
  replace hP : va_P D vwCl (WX ad cI cZ c g hid code ans dbt opn ply hps wr) H := by rw [eH]; exact hP
  replace hS : va_S A s.heap H locs := by rw [eH, eL]; exact hS
  rw [show W p l e _ s m _ below meth c9 s.heap [] = W p l e _ s m _ below meth c9 H locs from by rw [eH, eL]]
  clear eH eL
  obtain ⟨hc, hg, hco, hhid, hop⟩ := id hI
  have hq := qq_in hc
  have hop2 := op_lt hop
  refine lv_iload_n hx hb dX1_setColours_0 rfl (lv_at hl 1 rfl) ?_
  refine lv_iconst (v := 2) hx hb dX1_setColours_1 (by decide) ?_
  refine lv_icmp_eq (tgt := 20) hx hb dX1_setColours_2 (by decide) (fun c2 => ?_) (fun c2 => ?_)
  · skip
    refine lv_aload_n hx hb dX1_setColours_20 rfl (lv_at hl 0 rfl) ?_
    refine va_get (D := D) (ci := 1) (v := .ref (pal ad c)) (C := RX1) (T := TX1) (N := 11) hx hb hts hinX1 hown hK hP 0 rfl rfl 2 (by decide) lk21 (fun _ h9 => h9) rfl dX1_setColours_21 ?_
    refine x_colours hx hb hts hinX0 hown hK hP (palX hpal hc) (hB.2.2.2.2.1 _ (by simp [Nws])) dX1_setColours_24 ?_
    refine lv_istore_n (lv' := [(2, .int (nI (c))), (0, .ref (ad 0)), (1, .int (v))]) hx hb dX1_setColours_27 rfl hl (by decide) rfl (fun ls hl => ?_)
    refine lv_aload_n hx hb dX1_setColours_28 rfl (lv_at hl 1 rfl) ?_
    refine lv_iload_n hx hb dX1_setColours_29 rfl (lv_at hl 2 rfl) ?_
    refine lv_iconst (v := 2) hx hb dX1_setColours_30 (by decide) ?_
    refine lv_icmp_ne (tgt := 41) hx hb dX1_setColours_31 (by decide) (fun c31 => ?_) (fun c31 => ?_)
    · skip
      refine lv_aload_n hx hb dX1_setColours_41 rfl (lv_at hl 1 rfl) ?_
      refine va_get (D := D) (ci := 1) (v := .ref (ad 8)) (C := RX1) (T := TX1) (N := 11) hx hb hts hinX1 hown hK hP 0 rfl rfl 1 (by decide) lk18 (fun _ h9 => h9) rfl dX1_setColours_42 ?_
      refine va_put (D := D) (ci := 1) (v := .ref (ad 8)) (ty := (.object "HiddenCandles$Palette")) (C := RX1) (T := TX1) (N := 11) hx hb hts hinX1 tyX1 tyX1_ok nmX1 hown hK hP hD hS 0 rfl rfl 2 (by decide) lk21 (fun _ h9 => h9) rfl (by decide +kernel) rfl rfl (Nat.le_of_ble_eq_true rfl) dX1_setColours_45 (fun H locs hP hD hS => ?_)
      replace hP : va_P D vwCl (WX ad cI cZ 3 g hid code ans dbt opn ply hps wr) H := hP
      replace hD : va_D A (WX ad cI cZ 3 g hid code ans dbt opn ply hps wr) := hD
      refine lv_aload_n hx hb dX1_setColours_48 rfl (lv_at hl 1 rfl) ?_
      refine lv_iconst (v := (-1)) hx hb dX1_setColours_49 (by decide) ?_
      refine va_put (D := D) (ci := 1) (v := .int ((-1))) (ty := .int) (C := RX1) (T := TX1) (N := 11) hx hb hts hinX1 tyX1 tyX1_ok nmX1 hown hK hP hD hS 0 rfl rfl 3 (by decide) lk24 (fun _ h9 => h9) rfl (by decide +kernel) rfl rfl (Nat.le_of_ble_eq_true rfl) dX1_setColours_50 (fun H locs hP hD hS => ?_)
      replace hP : va_P D vwCl (WX ad cI cZ 3 g (-1) code ans dbt opn ply hps wr) H := hP
      replace hD : va_D A (WX ad cI cZ 3 g (-1) code ans dbt opn ply hps wr) := hD
      refine lv_aload_n hx hb dX1_setColours_53 rfl (lv_at hl 1 rfl) ?_
      refine lv_iconst (v := nI (0)) hx hb dX1_setColours_54 (by decide) ?_
      refine va_put (D := D) (ci := 1) (v := .int (nI (0))) (ty := .int) (C := RX1) (T := TX1) (N := 11) hx hb hts hinX1 tyX1 tyX1_ok nmX1 hown hK hP hD hS 0 rfl rfl 4 (by decide) lk28 (fun _ h9 => h9) rfl (by decide +kernel) rfl rfl (Nat.le_of_ble_eq_true rfl) dX1_setColours_55 (fun H locs hP hD hS => ?_)
      replace hP : va_P D vwCl (WX ad cI cZ 3 0 (-1) code ans dbt opn ply hps wr) H := hP
      replace hD : va_D A (WX ad cI cZ 3 0 (-1) code ans dbt opn ply hps wr) := hD
      refine lv_aload_n hx hb dX1_setColours_58 rfl (lv_at hl 1 rfl) ?_
      refine va_callv (va_runV (As := []) (rest := []) ⟨hx, hb, hml, hown, hts⟩ (c_X1_sieve l D cI cZ cG cJ A ad wr hpal 3 0 (-1) code ans dbt opn ply hps (by decide) (Nat.zero_le _) (fun i hi => absurd hi (Nat.not_lt_zero i))) (cwV 0 hts gX1_setColours_X1_sieve rfl rfl rfl (by decide +kernel) ⟨Nat.le_of_ble_eq_true rfl, Nat.le_of_ble_eq_true rfl⟩) (preV (ci := 1) (q0 := 0) hB hS hP hD rfl rfl) rfl rfl hl.1 rfl (lv_room (Nat.le_of_ble_eq_true rfl)) dX1_setColours_59 ⟨Nat.le_of_ble_eq_true rfl, Nat.le_of_ble_eq_true rfl⟩) hS (fun q _ h => h) (fun q h => h) (fun u_59 t9 H1 locs1 ht9 hvm9 hw_59 hBw hz9 hk9 hS => ?_)
      obtain ⟨hP, hD⟩ := hBw
      rw [ht9] at hP
      generalize H1 = H at hP hS ⊢
      generalize locs1 = locs at hS ⊢
      replace hP : va_P D vwCl (WX ad cI cZ 3 0 (-1) code ans dbt u_59 ply hps wr) H := hP
      replace hD : va_D A (WX ad cI cZ 3 0 (-1) code ans dbt u_59 ply hps wr) := hD
      refine lv_iload_n hx hb dX1_setColours_62 rfl (lv_at hl 0 rfl) ?_
      refine W.widen (k := 1) (n := 6) (Nat.le_of_ble_eq_true rfl) (Nat.le_of_ble_eq_true rfl) ?_
      exact vx_ret (W.iret (v := nI (c)) hx hb hr (fun t ht hW => ⟨⟨_, (3, u_59), rfl, (by
          first | exact ⟨rfl, ⟨Or.inl rfl, c2⟩, hw_59⟩ | exact ⟨rfl, ⟨Or.inr rfl, c7⟩, hw_59⟩ | exact absurd c2 c31 | exact absurd (c31.symm.trans c7) (by decide)), ⟨by rw [ht]; exact hP, hD⟩⟩, hS.F ht⟩) hS.2.2 dX1_setColours_63)
    · skip
      refine lv_aload_n hx hb dX1_setColours_34 rfl (lv_at hl 1 rfl) ?_
      refine va_get (D := D) (ci := 1) (v := .ref (ad 7)) (C := RX1) (T := TX1) (N := 11) hx hb hts hinX1 hown hK hP 0 rfl rfl 0 (by decide) lk14 (fun _ h9 => h9) rfl dX1_setColours_35 ?_
      refine lv_goto (tgt := 45) hx hb dX1_setColours_38 (by decide) ?_
      refine va_put (D := D) (ci := 1) (v := .ref (ad 7)) (ty := (.object "HiddenCandles$Palette")) (C := RX1) (T := TX1) (N := 11) hx hb hts hinX1 tyX1 tyX1_ok nmX1 hown hK hP hD hS 0 rfl rfl 2 (by decide) lk21 (fun _ h9 => h9) rfl (by decide +kernel) rfl rfl (Nat.le_of_ble_eq_true rfl) dX1_setColours_45 (fun H locs hP hD hS => ?_)
      replace hP : va_P D vwCl (WX ad cI cZ 2 g hid code ans dbt opn ply hps wr) H := hP
      replace hD : va_D A (WX ad cI cZ 2 g hid code ans dbt opn ply hps wr) := hD
      refine lv_aload_n hx hb dX1_setColours_48 rfl (lv_at hl 1 rfl) ?_
      refine lv_iconst (v := (-1)) hx hb dX1_setColours_49 (by decide) ?_
      refine va_put (D := D) (ci := 1) (v := .int ((-1))) (ty := .int) (C := RX1) (T := TX1) (N := 11) hx hb hts hinX1 tyX1 tyX1_ok nmX1 hown hK hP hD hS 0 rfl rfl 3 (by decide) lk24 (fun _ h9 => h9) rfl (by decide +kernel) rfl rfl (Nat.le_of_ble_eq_true rfl) dX1_setColours_50 (fun H locs hP hD hS => ?_)
      replace hP : va_P D vwCl (WX ad cI cZ 2 g (-1) code ans dbt opn ply hps wr) H := hP
      replace hD : va_D A (WX ad cI cZ 2 g (-1) code ans dbt opn ply hps wr) := hD
      refine lv_aload_n hx hb dX1_setColours_53 rfl (lv_at hl 1 rfl) ?_
      refine lv_iconst (v := nI (0)) hx hb dX1_setColours_54 (by decide) ?_
      refine va_put (D := D) (ci := 1) (v := .int (nI (0))) (ty := .int) (C := RX1) (T := TX1) (N := 11) hx hb hts hinX1 tyX1 tyX1_ok nmX1 hown hK hP hD hS 0 rfl rfl 4 (by decide) lk28 (fun _ h9 => h9) rfl (by decide +kernel) rfl rfl (Nat.le_of_ble_eq_true rfl) dX1_setColours_55 (fun H locs hP hD hS => ?_)
      replace hP : va_P D vwCl (WX ad cI cZ 2 0 (-1) code ans dbt opn ply hps wr) H := hP
      replace hD : va_D A (WX ad cI cZ 2 0 (-1) code ans dbt opn ply hps wr) := hD
      refine lv_aload_n hx hb dX1_setColours_58 rfl (lv_at hl 1 rfl) ?_
      refine va_callv (va_runV (As := []) (rest := []) ⟨hx, hb, hml, hown, hts⟩ (c_X1_sieve l D cI cZ cG cJ A ad wr hpal 2 0 (-1) code ans dbt opn ply hps (by decide) (Nat.zero_le _) (fun i hi => absurd hi (Nat.not_lt_zero i))) (cwV 0 hts gX1_setColours_X1_sieve rfl rfl rfl (by decide +kernel) ⟨Nat.le_of_ble_eq_true rfl, Nat.le_of_ble_eq_true rfl⟩) (preV (ci := 1) (q0 := 0) hB hS hP hD rfl rfl) rfl rfl hl.1 rfl (lv_room (Nat.le_of_ble_eq_true rfl)) dX1_setColours_59 ⟨Nat.le_of_ble_eq_true rfl, Nat.le_of_ble_eq_true rfl⟩) hS (fun q _ h => h) (fun q h => h) (fun u_59 t9 H1 locs1 ht9 hvm9 hw_59 hBw hz9 hk9 hS => ?_)
      obtain ⟨hP, hD⟩ := hBw
      rw [ht9] at hP
      generalize H1 = H at hP hS ⊢
      generalize locs1 = locs at hS ⊢
      replace hP : va_P D vwCl (WX ad cI cZ 2 0 (-1) code ans dbt u_59 ply hps wr) H := hP
      replace hD : va_D A (WX ad cI cZ 2 0 (-1) code ans dbt u_59 ply hps wr) := hD
      refine lv_iload_n hx hb dX1_setColours_62 rfl (lv_at hl 0 rfl) ?_
      refine W.widen (k := 1) (n := 6) (Nat.le_of_ble_eq_true rfl) (Nat.le_of_ble_eq_true rfl) ?_
      exact vx_ret (W.iret (v := nI (c)) hx hb hr (fun t ht hW => ⟨⟨_, (2, u_59), rfl, (by
          first | exact ⟨rfl, ⟨Or.inl rfl, c2⟩, hw_59⟩ | exact ⟨rfl, ⟨Or.inr rfl, c7⟩, hw_59⟩ | exact absurd c2 c31 | exact absurd (c31.symm.trans c7) (by decide)), ⟨by rw [ht]; exact hP, hD⟩⟩, hS.F ht⟩) hS.2.2 dX1_setColours_63)
  · skip
    refine lv_iload_n hx hb dX1_setColours_5 rfl (lv_at hl 1 rfl) ?_
    refine lv_iconst (v := 3) hx hb dX1_setColours_6 (by decide) ?_
    refine lv_icmp_eq (tgt := 20) hx hb dX1_setColours_7 (by decide) (fun c7 => ?_) (fun c7 => ?_)
    · skip
      refine lv_aload_n hx hb dX1_setColours_20 rfl (lv_at hl 0 rfl) ?_
      refine va_get (D := D) (ci := 1) (v := .ref (pal ad c)) (C := RX1) (T := TX1) (N := 11) hx hb hts hinX1 hown hK hP 0 rfl rfl 2 (by decide) lk21 (fun _ h9 => h9) rfl dX1_setColours_21 ?_
      refine x_colours hx hb hts hinX0 hown hK hP (palX hpal hc) (hB.2.2.2.2.1 _ (by simp [Nws])) dX1_setColours_24 ?_
      refine lv_istore_n (lv' := [(2, .int (nI (c))), (0, .ref (ad 0)), (1, .int (v))]) hx hb dX1_setColours_27 rfl hl (by decide) rfl (fun ls hl => ?_)
      refine lv_aload_n hx hb dX1_setColours_28 rfl (lv_at hl 1 rfl) ?_
      refine lv_iload_n hx hb dX1_setColours_29 rfl (lv_at hl 2 rfl) ?_
      refine lv_iconst (v := 2) hx hb dX1_setColours_30 (by decide) ?_
      refine lv_icmp_ne (tgt := 41) hx hb dX1_setColours_31 (by decide) (fun c31 => ?_) (fun c31 => ?_)
      · skip
        refine lv_aload_n hx hb dX1_setColours_41 rfl (lv_at hl 1 rfl) ?_
        refine va_get (D := D) (ci := 1) (v := .ref (ad 8)) (C := RX1) (T := TX1) (N := 11) hx hb hts hinX1 hown hK hP 0 rfl rfl 1 (by decide) lk18 (fun _ h9 => h9) rfl dX1_setColours_42 ?_
        refine va_put (D := D) (ci := 1) (v := .ref (ad 8)) (ty := (.object "HiddenCandles$Palette")) (C := RX1) (T := TX1) (N := 11) hx hb hts hinX1 tyX1 tyX1_ok nmX1 hown hK hP hD hS 0 rfl rfl 2 (by decide) lk21 (fun _ h9 => h9) rfl (by decide +kernel) rfl rfl (Nat.le_of_ble_eq_true rfl) dX1_setColours_45 (fun H locs hP hD hS => ?_)
        replace hP : va_P D vwCl (WX ad cI cZ 3 g hid code ans dbt opn ply hps wr) H := hP
        replace hD : va_D A (WX ad cI cZ 3 g hid code ans dbt opn ply hps wr) := hD
        refine lv_aload_n hx hb dX1_setColours_48 rfl (lv_at hl 1 rfl) ?_
        refine lv_iconst (v := (-1)) hx hb dX1_setColours_49 (by decide) ?_
        refine va_put (D := D) (ci := 1) (v := .int ((-1))) (ty := .int) (C := RX1) (T := TX1) (N := 11) hx hb hts hinX1 tyX1 tyX1_ok nmX1 hown hK hP hD hS 0 rfl rfl 3 (by decide) lk24 (fun _ h9 => h9) rfl (by decide +kernel) rfl rfl (Nat.le_of_ble_eq_true rfl) dX1_setColours_50 (fun H locs hP hD hS => ?_)
        replace hP : va_P D vwCl (WX ad cI cZ 3 g (-1) code ans dbt opn ply hps wr) H := hP
        replace hD : va_D A (WX ad cI cZ 3 g (-1) code ans dbt opn ply hps wr) := hD
        refine lv_aload_n hx hb dX1_setColours_53 rfl (lv_at hl 1 rfl) ?_
        refine lv_iconst (v := nI (0)) hx hb dX1_setColours_54 (by decide) ?_
        refine va_put (D := D) (ci := 1) (v := .int (nI (0))) (ty := .int) (C := RX1) (T := TX1) (N := 11) hx hb hts hinX1 tyX1 tyX1_ok nmX1 hown hK hP hD hS 0 rfl rfl 4 (by decide) lk28 (fun _ h9 => h9) rfl (by decide +kernel) rfl rfl (Nat.le_of_ble_eq_true rfl) dX1_setColours_55 (fun H locs hP hD hS => ?_)
        replace hP : va_P D vwCl (WX ad cI cZ 3 0 (-1) code ans dbt opn ply hps wr) H := hP
        replace hD : va_D A (WX ad cI cZ 3 0 (-1) code ans dbt opn ply hps wr) := hD
        refine lv_aload_n hx hb dX1_setColours_58 rfl (lv_at hl 1 rfl) ?_
        refine va_callv (va_runV (As := []) (rest := []) ⟨hx, hb, hml, hown, hts⟩ (c_X1_sieve l D cI cZ cG cJ A ad wr hpal 3 0 (-1) code ans dbt opn ply hps (by decide) (Nat.zero_le _) (fun i hi => absurd hi (Nat.not_lt_zero i))) (cwV 0 hts gX1_setColours_X1_sieve rfl rfl rfl (by decide +kernel) ⟨Nat.le_of_ble_eq_true rfl, Nat.le_of_ble_eq_true rfl⟩) (preV (ci := 1) (q0 := 0) hB hS hP hD rfl rfl) rfl rfl hl.1 rfl (lv_room (Nat.le_of_ble_eq_true rfl)) dX1_setColours_59 ⟨Nat.le_of_ble_eq_true rfl, Nat.le_of_ble_eq_true rfl⟩) hS (fun q _ h => h) (fun q h => h) (fun u_59 t9 H1 locs1 ht9 hvm9 hw_59 hBw hz9 hk9 hS => ?_)
        obtain ⟨hP, hD⟩ := hBw
        rw [ht9] at hP
        generalize H1 = H at hP hS ⊢
        generalize locs1 = locs at hS ⊢
        replace hP : va_P D vwCl (WX ad cI cZ 3 0 (-1) code ans dbt u_59 ply hps wr) H := hP
        replace hD : va_D A (WX ad cI cZ 3 0 (-1) code ans dbt u_59 ply hps wr) := hD
        refine lv_iload_n hx hb dX1_setColours_62 rfl (lv_at hl 0 rfl) ?_
        refine W.widen (k := 1) (n := 6) (Nat.le_of_ble_eq_true rfl) (Nat.le_of_ble_eq_true rfl) ?_
        exact vx_ret (W.iret (v := nI (c)) hx hb hr (fun t ht hW => ⟨⟨_, (3, u_59), rfl, (by
            first | exact ⟨rfl, ⟨Or.inl rfl, c2⟩, hw_59⟩ | exact ⟨rfl, ⟨Or.inr rfl, c7⟩, hw_59⟩ | exact absurd c2 c31 | exact absurd (c31.symm.trans c7) (by decide)), ⟨by rw [ht]; exact hP, hD⟩⟩, hS.F ht⟩) hS.2.2 dX1_setColours_63)
      · skip
        refine lv_aload_n hx hb dX1_setColours_34 rfl (lv_at hl 1 rfl) ?_
        refine va_get (D := D) (ci := 1) (v := .ref (ad 7)) (C := RX1) (T := TX1) (N := 11) hx hb hts hinX1 hown hK hP 0 rfl rfl 0 (by decide) lk14 (fun _ h9 => h9) rfl dX1_setColours_35 ?_
        refine lv_goto (tgt := 45) hx hb dX1_setColours_38 (by decide) ?_
        refine va_put (D := D) (ci := 1) (v := .ref (ad 7)) (ty := (.object "HiddenCandles$Palette")) (C := RX1) (T := TX1) (N := 11) hx hb hts hinX1 tyX1 tyX1_ok nmX1 hown hK hP hD hS 0 rfl rfl 2 (by decide) lk21 (fun _ h9 => h9) rfl (by decide +kernel) rfl rfl (Nat.le_of_ble_eq_true rfl) dX1_setColours_45 (fun H locs hP hD hS => ?_)
        replace hP : va_P D vwCl (WX ad cI cZ 2 g hid code ans dbt opn ply hps wr) H := hP
        replace hD : va_D A (WX ad cI cZ 2 g hid code ans dbt opn ply hps wr) := hD
        refine lv_aload_n hx hb dX1_setColours_48 rfl (lv_at hl 1 rfl) ?_
        refine lv_iconst (v := (-1)) hx hb dX1_setColours_49 (by decide) ?_
        refine va_put (D := D) (ci := 1) (v := .int ((-1))) (ty := .int) (C := RX1) (T := TX1) (N := 11) hx hb hts hinX1 tyX1 tyX1_ok nmX1 hown hK hP hD hS 0 rfl rfl 3 (by decide) lk24 (fun _ h9 => h9) rfl (by decide +kernel) rfl rfl (Nat.le_of_ble_eq_true rfl) dX1_setColours_50 (fun H locs hP hD hS => ?_)
        replace hP : va_P D vwCl (WX ad cI cZ 2 g (-1) code ans dbt opn ply hps wr) H := hP
        replace hD : va_D A (WX ad cI cZ 2 g (-1) code ans dbt opn ply hps wr) := hD
        refine lv_aload_n hx hb dX1_setColours_53 rfl (lv_at hl 1 rfl) ?_
        refine lv_iconst (v := nI (0)) hx hb dX1_setColours_54 (by decide) ?_
        refine va_put (D := D) (ci := 1) (v := .int (nI (0))) (ty := .int) (C := RX1) (T := TX1) (N := 11) hx hb hts hinX1 tyX1 tyX1_ok nmX1 hown hK hP hD hS 0 rfl rfl 4 (by decide) lk28 (fun _ h9 => h9) rfl (by decide +kernel) rfl rfl (Nat.le_of_ble_eq_true rfl) dX1_setColours_55 (fun H locs hP hD hS => ?_)
        replace hP : va_P D vwCl (WX ad cI cZ 2 0 (-1) code ans dbt opn ply hps wr) H := hP
        replace hD : va_D A (WX ad cI cZ 2 0 (-1) code ans dbt opn ply hps wr) := hD
        refine lv_aload_n hx hb dX1_setColours_58 rfl (lv_at hl 1 rfl) ?_
        refine va_callv (va_runV (As := []) (rest := []) ⟨hx, hb, hml, hown, hts⟩ (c_X1_sieve l D cI cZ cG cJ A ad wr hpal 2 0 (-1) code ans dbt opn ply hps (by decide) (Nat.zero_le _) (fun i hi => absurd hi (Nat.not_lt_zero i))) (cwV 0 hts gX1_setColours_X1_sieve rfl rfl rfl (by decide +kernel) ⟨Nat.le_of_ble_eq_true rfl, Nat.le_of_ble_eq_true rfl⟩) (preV (ci := 1) (q0 := 0) hB hS hP hD rfl rfl) rfl rfl hl.1 rfl (lv_room (Nat.le_of_ble_eq_true rfl)) dX1_setColours_59 ⟨Nat.le_of_ble_eq_true rfl, Nat.le_of_ble_eq_true rfl⟩) hS (fun q _ h => h) (fun q h => h) (fun u_59 t9 H1 locs1 ht9 hvm9 hw_59 hBw hz9 hk9 hS => ?_)
        obtain ⟨hP, hD⟩ := hBw
        rw [ht9] at hP
        generalize H1 = H at hP hS ⊢
        generalize locs1 = locs at hS ⊢
        replace hP : va_P D vwCl (WX ad cI cZ 2 0 (-1) code ans dbt u_59 ply hps wr) H := hP
        replace hD : va_D A (WX ad cI cZ 2 0 (-1) code ans dbt u_59 ply hps wr) := hD
        refine lv_iload_n hx hb dX1_setColours_62 rfl (lv_at hl 0 rfl) ?_
        refine W.widen (k := 1) (n := 6) (Nat.le_of_ble_eq_true rfl) (Nat.le_of_ble_eq_true rfl) ?_
        exact vx_ret (W.iret (v := nI (c)) hx hb hr (fun t ht hW => ⟨⟨_, (2, u_59), rfl, (by
            first | exact ⟨rfl, ⟨Or.inl rfl, c2⟩, hw_59⟩ | exact ⟨rfl, ⟨Or.inr rfl, c7⟩, hw_59⟩ | exact absurd c2 c31 | exact absurd (c31.symm.trans c7) (by decide)), ⟨by rw [ht]; exact hP, hD⟩⟩, hS.F ht⟩) hS.2.2 dX1_setColours_63)
    · skip
      obtain ⟨sa9, hsa9⟩ := hB.2.2.2.2.2.1 (56, "colours are 2 or 3") (by decide)
      have hat9 : ∀ w ∈ (vx_atS RX1 58 "java/lang/IllegalArgumentException" ["java/lang/RuntimeException", "java/lang/Exception"]), w.before _ s = true := vx_hat (B := [.castable "java/lang/IllegalArgumentException" "java/lang/IllegalArgumentException", .declares (Bundle.initS "java/lang/RuntimeException"), .declares (Bundle.initS "java/lang/Exception"), .declares (Bundle.initS Bundle.tN)]) (fun w hw => hts w (by first | exact List.mem_cons_of_mem _ (List.mem_append_right _ hw) | exact List.mem_cons_of_mem _ (List.mem_append_left _ (List.mem_append_right _ hw)) | exact List.mem_cons_of_mem _ (List.mem_append_left _ (List.mem_append_left _ (List.mem_append_right _ hw))))) (by decide +kernel) (vx_c (va_Nw.use rfl (hB.2.2.2.2.1 _ (by simp [Nws]))) (vx_c (va_Nw.use rfl (hB.2.2.2.2.1 _ (by simp [Nws]))) (vx_c (va_Nw.use rfl (hB.2.2.2.2.1 _ (by simp [Nws]))) (vx_c (va_Nw.use rfl (hB.2.2.2.2.1 _ (by simp [Nws]))) vx_n))))
      exact vx_throwS (A := A) (names := ["java/lang/RuntimeException", "java/lang/Exception"]) (cls := "java/lang/IllegalArgumentException") hx hb hflag hown (by decide +kernel) (by decide +kernel) (hts _ (by decide +kernel)) (hts _ (by decide +kernel)) hsa9 hat9 (by decide +kernel) hB.2.2.1 hB.2.2.2.1 hS (hl.1.trans hml.symm) dX1_setColours_10 dX1_setColours_13 dX1_setColours_14 dX1_setColours_16 dX1_setColours_19 (fun x hx9 => (hnt x hx9).elim) (Nat.le_of_ble_eq_true rfl) (Nat.le_of_ble_eq_true rfl) (Nat.le_of_ble_eq_true rfl) (Nat.le_of_ble_eq_true rfl) hlocks (fun t hvm hsz hk => ⟨(), trivial, ⟨(by
          exact ⟨rfl, c2, c7⟩), ⟨va_P.kept hP (fun k q hk9 => hk _ (hP k q hk9).lt), hD⟩⟩, ⟨Nat.le_trans hS.1 hsz, fun q h1 h2 => (hk q (Nat.lt_of_lt_of_le h1 hS.1)).trans (hS.2.1 q h1 h2)⟩⟩) hS.2.2 (Nat.le_of_ble_eq_true rfl) (Nat.le_of_ble_eq_true rfl)

set_option maxHeartbeats 4000000 in
set_option maxRecDepth 100000 in
theorem c_X1_hide (l : Launch) (hfl : l.flags = flags0) (D : va_G) (cI cZ cG cJ : ClassId) (A : Nat → Prop) (ad : Nat → Nat) (wr : va_W) (hpal : Pals cI cG ad wr) (c : Nat) (g : Nat) (hid : Int32) (code : Nat → Nat) (ans : Nat → Nat) (dbt : Nat → Bool) (opn : Nat → Bool) (ply : Nat → Bool) (hps : Nat → Nat) (v : Int32) (hI : XI c g hid code ans dbt opn) : vx_Met l yX1_hide wsX1_hide ({ frames := 7, cells := 1, slots := 6, locals := 103 }) (va_Pc [.ref (ad 0), .int (v)] (Iv D (TY cI cZ cG cJ) A (WX ad cI cZ c g hid code ans dbt opn ply hps wr))) (va_Qi (fun r (u : Unit) => r = hid ∧ hasC c v = true) (fun u => Wd D A (WX ad cI cZ c g v code ans dbt opn ply hps wr)) A) (Xw D A (WX ad cI cZ c g hid code ans dbt opn ply hps wr) (fun E => E = "java/lang/IndexOutOfBoundsException" ∧ hasC c v = false)) 1 6 A := by
  refine vx_ofW (cc := cX1_hide) (maxL := 3) (ret := (some .int)) (by decide) rfl ?_
  intro p e s m args below meth c9 s₁ B hml hnt hv
  obtain ⟨rfl, hP, hD, hB⟩ := hv
  have hK := hB.1
  have hA := hB.2.1
  have hx := B.exec
  have hb := B.bytes
  have hr := B.returns
  have hts := atoms_spec (ws := wsX1_hide) B.pre
  have hown : s.vm.findClass RX1 = some m.cls := findClass_of_methodNamed B.named
  have hlocks := B.notSynchronized
  have hS : va_S A s.heap s.heap [] := va_S.rf
  have hflag : l.stackTraces = false := by rw [Launch.stackTraces, hfl]; decide
  have hinX1 : ∀ w ∈ wsX10, w ∈ wsX1_hide := by decide +kernel
  have lk24 := hts (.fieldLink RX1 24 "HiddenCandles" "hidden" "I") (by decide +kernel)
  have hl := lv_entry ([.ref (ad 0), .int (v)]) (n := 3) (Nat.le_of_ble_eq_true rfl)
  rw [lg_entry_eq]
  generalize (lg_sl ([.ref (ad 0), .int (v)]) ++ List.replicate (3 - (lg_sl ([.ref (ad 0), .int (v)])).length) Slot.unset).toArray = ls at hl ⊢
  have hl : lv_has ls 3 [(0, .ref (ad 0)), (1, .int (v))] := hl
  obtain ⟨H, eH⟩ : ∃ q, q = s.heap := ⟨_, rfl⟩
  obtain ⟨locs, eL⟩ : ∃ q : List Loc, q = [] := ⟨_, rfl⟩
  replace hP : va_P D vwCl (WX ad cI cZ c g hid code ans dbt opn ply hps wr) H := by rw [eH]; exact hP
  replace hS : va_S A s.heap H locs := by rw [eH, eL]; exact hS
  rw [show W p l e _ s m _ below meth c9 s.heap [] = W p l e _ s m _ below meth c9 H locs from by rw [eH, eL]]
  clear eH eL
  obtain ⟨hc, hg, hco, hhid, hop⟩ := id hI
  have hq := qq_in hc
  have hop2 := op_lt hop
  refine lv_aload_n hx hb dX1_hide_0 rfl (lv_at hl 0 rfl) ?_
  refine lv_iload_n hx hb dX1_hide_1 rfl (lv_at hl 1 rfl) ?_
  refine vx_callv (vx_runV (As := [.int (v)]) (rest := []) ⟨hx, hb, hml, hown, hts⟩ (c_X1_needCode l hfl D cI cZ cG cJ A ad wr hpal c g hid code ans dbt opn ply hps v (hc)) (cwV 1 hts gX1_hide_X1_needCode rfl rfl rfl (by decide +kernel) ⟨Nat.le_of_ble_eq_true rfl, Nat.le_of_ble_eq_true rfl⟩) (preV (ci := 1) (q0 := 0) hB hS hP hD rfl rfl) rfl rfl hl.1 rfl (lv_room (Nat.le_of_ble_eq_true rfl)) dX1_hide_2 ⟨Nat.le_of_ble_eq_true rfl, Nat.le_of_ble_eq_true rfl⟩) hS (fun q _ h => h) (fun q h => h) (fun q _ h => h) (fun E ce q9 u9 t9 H1 locs1 ht9 hvm9 hpx8 hBx hz9 hk9 hS hq9 hv9 hcl9 => ?_) (fun u_2 t9 H1 locs1 ht9 hvm9 hw_2 hBw hz9 hk9 hS => ?_)
  · obtain ⟨hpx9, hP1, hD1⟩ := hBx
    rw [ht9] at hP1
    exact vx_out (fun x hx9 => (hnt x hx9).elim) hlocks hq9 hv9 hcl9 (fun t ht hvm => ⟨(), trivial, ⟨(by
        exact hpx9), by rw [ht]; exact hP1, hD1⟩, hS.F ht⟩) hS.2.2 (by omega) (by omega)
  obtain ⟨hP, hD⟩ := hBw
  rw [ht9] at hP
  generalize H1 = H at hP hS ⊢
  generalize locs1 = locs at hS ⊢
  replace hP : va_P D vwCl (WX ad cI cZ c g hid code ans dbt opn ply hps wr) H := hP
  replace hD : va_D A (WX ad cI cZ c g hid code ans dbt opn ply hps wr) := hD
  refine lv_aload_n hx hb dX1_hide_5 rfl (lv_at hl 0 rfl) ?_
  refine va_get (D := D) (ci := 1) (v := .int (hid)) (C := RX1) (T := TX1) (N := 11) hx hb hts hinX1 hown hK hP 0 rfl rfl 3 (by decide) lk24 (fun _ h9 => h9) rfl dX1_hide_6 ?_
  refine lv_istore_n (lv' := [(2, .int (hid)), (0, .ref (ad 0)), (1, .int (v))]) hx hb dX1_hide_9 rfl hl (by decide) rfl (fun ls hl => ?_)
  refine lv_aload_n hx hb dX1_hide_10 rfl (lv_at hl 1 rfl) ?_
  refine lv_iload_n hx hb dX1_hide_11 rfl (lv_at hl 2 rfl) ?_
  refine va_put (D := D) (ci := 1) (v := .int (v)) (ty := .int) (C := RX1) (T := TX1) (N := 11) hx hb hts hinX1 tyX1 tyX1_ok nmX1 hown hK hP hD hS 0 rfl rfl 3 (by decide) lk24 (fun _ h9 => h9) rfl (by decide +kernel) rfl rfl (Nat.le_of_ble_eq_true rfl) dX1_hide_12 (fun H locs hP hD hS => ?_)
  replace hP : va_P D vwCl (WX ad cI cZ c g v code ans dbt opn ply hps wr) H := hP
  replace hD : va_D A (WX ad cI cZ c g v code ans dbt opn ply hps wr) := hD
  refine lv_iload_n hx hb dX1_hide_15 rfl (lv_at hl 0 rfl) ?_
  refine W.widen (k := 1) (n := 6) (Nat.le_of_ble_eq_true rfl) (Nat.le_of_ble_eq_true rfl) ?_
  exact vx_ret (W.iret (v := hid) hx hb hr (fun t ht hW => ⟨⟨_, (), rfl, (by
      exact ⟨rfl, hw_2⟩), ⟨by rw [ht]; exact hP, hD⟩⟩, hS.F ht⟩) hS.2.2 dX1_hide_16)

set_option maxHeartbeats 4000000 in
set_option maxRecDepth 100000 in
theorem c_X1_swap (l : Launch) (hfl : l.flags = flags0) (D : va_G) (cI cZ cG cJ : ClassId) (A : Nat → Prop) (ad : Nat → Nat) (wr : va_W) (hpal : Pals cI cG ad wr) (c : Nat) (g : Nat) (hid : Int32) (code : Nat → Nat) (ans : Nat → Nat) (dbt : Nat → Bool) (opn : Nat → Bool) (ply : Nat → Bool) (hps : Nat → Nat) (a : Int32) (b : Int32) (hI : XI c g hid code ans dbt opn) : vx_Met l yX1_swap wsX1_swap ({ frames := 7, cells := 3, slots := 18, locals := 102 }) (va_Pc [.ref (ad 0), .int (a), .int (b)] (Iv D (TY cI cZ cG cJ) A (WX ad cI cZ c g hid code ans dbt opn ply hps wr))) (va_Qi (fun r (u : Int32) => r = u ∧ ∃ h pa pb : Nat, h < qq c ∧ pa < 4 ∧ pb < 4 ∧ hid = nI h ∧ a = nI pa ∧ b = nI pb ∧ u = nI (swF c h pa pb 4)) (fun u => Wd D A (WX ad cI cZ c g u code ans dbt opn ply hps wr)) A) (Xw D A (WX ad cI cZ c g hid code ans dbt opn ply hps wr) (fun E => (E = "java/lang/IndexOutOfBoundsException" ∧ (plC a = false ∨ plC b = false)) ∨ (E = "java/lang/IllegalStateException" ∧ plC a = true ∧ plC b = true ∧ hid = -1))) 3 18 A := by
  refine vx_ofW (cc := cX1_swap) (maxL := 6) (ret := (some .int)) (by decide) rfl ?_
  intro p e s m args below meth c9 s₁ B hml hnt hv
  obtain ⟨rfl, hP, hD, hB⟩ := hv
  have hK := hB.1
  have hA := hB.2.1
  have hx := B.exec
  have hb := B.bytes
  have hr := B.returns
  have hts := atoms_spec (ws := wsX1_swap) B.pre
  have hown : s.vm.findClass RX1 = some m.cls := findClass_of_methodNamed B.named
  have hlocks := B.notSynchronized
  have hS : va_S A s.heap s.heap [] := va_S.rf
  have hflag : l.stackTraces = false := by rw [Launch.stackTraces, hfl]; decide
  have hinX0 : ∀ w ∈ wsX00, w ∈ wsX1_swap := by decide +kernel
  have hinX1 : ∀ w ∈ wsX10, w ∈ wsX1_swap := by decide +kernel
  have lk21 := hts (.fieldLink RX1 21 "HiddenCandles" "palette" "LHiddenCandles$Palette;") (by decide +kernel)
  have lk24 := hts (.fieldLink RX1 24 "HiddenCandles" "hidden" "I") (by decide +kernel)
  have hl := lv_entry ([.ref (ad 0), .int (a), .int (b)]) (n := 6) (Nat.le_of_ble_eq_true rfl)
  rw [lg_entry_eq]
  generalize (lg_sl ([.ref (ad 0), .int (a), .int (b)]) ++ List.replicate (6 - (lg_sl ([.ref (ad 0), .int (a), .int (b)])).length) Slot.unset).toArray = ls at hl ⊢
  have hl : lv_has ls 6 [(0, .ref (ad 0)), (1, .int (a)), (2, .int (b))] := hl
  obtain ⟨H, eH⟩ : ∃ q, q = s.heap := ⟨_, rfl⟩
  obtain ⟨locs, eL⟩ : ∃ q : List Loc, q = [] := ⟨_, rfl⟩
  replace hP : va_P D vwCl (WX ad cI cZ c g hid code ans dbt opn ply hps wr) H := by rw [eH]; exact hP
  replace hS : va_S A s.heap H locs := by rw [eH, eL]; exact hS
  rw [show W p l e _ s m _ below meth c9 s.heap [] = W p l e _ s m _ below meth c9 H locs from by rw [eH, eL]]
  clear eH eL
  obtain ⟨hc, hg, hco, hhid, hop⟩ := id hI
  have hq := qq_in hc
  have hop2 := op_lt hop
  refine lv_iload_n hx hb dX1_swap_0 rfl (lv_at hl 1 rfl) ?_
  refine vx_callv (vx_runS (As := [.int (a)]) (rest := []) ⟨hx, hb, hml, hown, hts⟩ (c_X1_needPlace l hfl D cI cZ cG cJ A (WX ad cI cZ c g hid code ans dbt opn ply hps wr) a ) (va_cwS 1 hts gX1_swap_X1_needPlace rfl rfl rfl (by decide +kernel) ⟨Nat.le_of_ble_eq_true rfl, Nat.le_of_ble_eq_true rfl⟩) (preS hB hS hP hD) rfl rfl hl.1 rfl (lv_room (Nat.le_of_ble_eq_true rfl)) dX1_swap_1 ⟨Nat.le_of_ble_eq_true rfl, Nat.le_of_ble_eq_true rfl⟩) hS (fun q _ h => h) (fun q h => h) (fun q _ h => h) (fun E ce q9 u9 t9 H1 locs1 ht9 hvm9 hpx8 hBx hz9 hk9 hS hq9 hv9 hcl9 => ?_) (fun u_1 t9 H1 locs1 ht9 hvm9 hw_1 hBw hz9 hk9 hS => ?_)
  · obtain ⟨hpx9, hP1, hD1⟩ := hBx
    rw [ht9] at hP1
    exact vx_out (fun x hx9 => (hnt x hx9).elim) hlocks hq9 hv9 hcl9 (fun t ht hvm => ⟨(), trivial, ⟨(by
        exact Or.inl ⟨hpx9.1, Or.inl hpx9.2⟩), by rw [ht]; exact hP1, hD1⟩, hS.F ht⟩) hS.2.2 (by omega) (by omega)
  obtain ⟨hP, hD⟩ := hBw
  rw [ht9] at hP
  generalize H1 = H at hP hS ⊢
  generalize locs1 = locs at hS ⊢
  replace hP : va_P D vwCl (WX ad cI cZ c g hid code ans dbt opn ply hps wr) H := hP
  replace hD : va_D A (WX ad cI cZ c g hid code ans dbt opn ply hps wr) := hD
  obtain ⟨pa, hpa, rfl⟩ := plC_of hw_1
  refine lv_iload_n hx hb dX1_swap_4 rfl (lv_at hl 2 rfl) ?_
  refine vx_callv (vx_runS (As := [.int (b)]) (rest := []) ⟨hx, hb, hml, hown, hts⟩ (c_X1_needPlace l hfl D cI cZ cG cJ A (WX ad cI cZ c g hid code ans dbt opn ply hps wr) b ) (va_cwS 1 hts gX1_swap_X1_needPlace rfl rfl rfl (by decide +kernel) ⟨Nat.le_of_ble_eq_true rfl, Nat.le_of_ble_eq_true rfl⟩) (preS hB hS hP hD) rfl rfl hl.1 rfl (lv_room (Nat.le_of_ble_eq_true rfl)) dX1_swap_5 ⟨Nat.le_of_ble_eq_true rfl, Nat.le_of_ble_eq_true rfl⟩) hS (fun q _ h => h) (fun q h => h) (fun q _ h => h) (fun E ce q9 u9 t9 H1 locs1 ht9 hvm9 hpx8 hBx hz9 hk9 hS hq9 hv9 hcl9 => ?_) (fun u_5 t9 H1 locs1 ht9 hvm9 hw_5 hBw hz9 hk9 hS => ?_)
  · obtain ⟨hpx9, hP1, hD1⟩ := hBx
    rw [ht9] at hP1
    exact vx_out (fun x hx9 => (hnt x hx9).elim) hlocks hq9 hv9 hcl9 (fun t ht hvm => ⟨(), trivial, ⟨(by
        exact Or.inl ⟨hpx9.1, Or.inr hpx9.2⟩), by rw [ht]; exact hP1, hD1⟩, hS.F ht⟩) hS.2.2 (by omega) (by omega)
  obtain ⟨hP, hD⟩ := hBw
  rw [ht9] at hP
  generalize H1 = H at hP hS ⊢
  generalize locs1 = locs at hS ⊢
  replace hP : va_P D vwCl (WX ad cI cZ c g hid code ans dbt opn ply hps wr) H := hP
  replace hD : va_D A (WX ad cI cZ c g hid code ans dbt opn ply hps wr) := hD
  obtain ⟨pb, hpb, rfl⟩ := plC_of hw_5
  refine lv_aload_n hx hb dX1_swap_8 rfl (lv_at hl 0 rfl) ?_
  refine vx_callv (vx_runV (As := []) (rest := []) ⟨hx, hb, hml, hown, hts⟩ (c_X1_needHidden l hfl D cI cZ cG cJ A ad wr hpal c g hid code ans dbt opn ply hps ) (cwV 0 hts gX1_swap_X1_needHidden rfl rfl rfl (by decide +kernel) ⟨Nat.le_of_ble_eq_true rfl, Nat.le_of_ble_eq_true rfl⟩) (preV (ci := 1) (q0 := 0) hB hS hP hD rfl rfl) rfl rfl hl.1 rfl (lv_room (Nat.le_of_ble_eq_true rfl)) dX1_swap_9 ⟨Nat.le_of_ble_eq_true rfl, Nat.le_of_ble_eq_true rfl⟩) hS (fun q _ h => h) (fun q h => h) (fun q _ h => h) (fun E ce q9 u9 t9 H1 locs1 ht9 hvm9 hpx8 hBx hz9 hk9 hS hq9 hv9 hcl9 => ?_) (fun u_9 t9 H1 locs1 ht9 hvm9 hw_9 hBw hz9 hk9 hS => ?_)
  · obtain ⟨hpx9, hP1, hD1⟩ := hBx
    rw [ht9] at hP1
    exact vx_out (fun x hx9 => (hnt x hx9).elim) hlocks hq9 hv9 hcl9 (fun t ht hvm => ⟨(), trivial, ⟨(by
        exact Or.inr ⟨hpx9.1, plC_nI hpa, plC_nI hpb, hpx9.2⟩), by rw [ht]; exact hP1, hD1⟩, hS.F ht⟩) hS.2.2 (by omega) (by omega)
  obtain ⟨hP, hD⟩ := hBw
  rw [ht9] at hP
  generalize H1 = H at hP hS ⊢
  generalize locs1 = locs at hS ⊢
  replace hP : va_P D vwCl (WX ad cI cZ c g hid code ans dbt opn ply hps wr) H := hP
  replace hD : va_D A (WX ad cI cZ c g hid code ans dbt opn ply hps wr) := hD
  obtain ⟨h, hh, rfl⟩ := hhid.resolve_left hw_9
  refine lv_iconst (v := nI (0)) hx hb dX1_swap_12 (by decide) ?_
  refine lv_istore_n (lv' := [(3, .int (nI (0))), (0, .ref (ad 0)), (1, .int (nI (pa))), (2, .int (nI (pb)))]) hx hb dX1_swap_13 rfl hl (by decide) rfl (fun ls hl => ?_)
  refine lv_iconst (v := nI (0)) hx hb dX1_swap_14 (by decide) ?_
  refine lv_istore (lv' := [(4, .int (nI (0))), (3, .int (nI (0))), (0, .ref (ad 0)), (1, .int (nI (pa))), (2, .int (nI (pb)))]) hx hb dX1_swap_15 hl (by decide) rfl (fun ls hl => ?_)
  -- loop at 17
  have hinv : 0 ≤ 4 ∧ 0 = swF c h pa pb 0 := by
    exact ⟨Nat.zero_le _, rfl⟩
  obtain ⟨i, r, hq9⟩ : ∃ (i : Nat) (r : Nat), lv_has ls 6 [(0, .ref (ad 0)), (1, .int (nI (pa))), (2, .int (nI (pb))), (3, .int (nI (r))), (4, .int (nI (i)))] ∧ (i ≤ 4 ∧ r = swF c h pa pb i) ∧ va_P D vwCl (WX ad cI cZ c g (nI h) code ans dbt opn ply hps wr) H ∧ va_D A (WX ad cI cZ c g (nI h) code ans dbt opn ply hps wr) := ⟨0, 0, lv_sub hl [2, 3, 4, 1, 0] rfl, hinv, hP, hD⟩
  clear hl hinv hP hD
  obtain ⟨hl, hinv, hP, hD⟩ := hq9
  obtain ⟨n9_17, hn9⟩ : ∃ q : Nat, 4 - i < q := ⟨_, Nat.lt_succ_self _⟩
  induction n9_17 generalizing ls H locs i r with
  | zero => exact absurd hn9 (Nat.not_lt_zero _)
  | succ n9_17 ih17 =>
    obtain ⟨h1, h2⟩ := hinv
    refine lv_iload hx hb dX1_swap_17 (lv_at hl 4 rfl) ?_
    refine lv_iconst (v := nI (4)) hx hb dX1_swap_19 (by decide) ?_
    refine x_ge (tgt := 77) hx hb dX1_swap_20 (by decide) (by omega) (by omega) (fun c20 => ?_) (fun c20 => ?_)
    · skip
      refine lv_aload_n hx hb dX1_swap_77 rfl (lv_at hl 0 rfl) ?_
      refine lv_iload_n hx hb dX1_swap_78 rfl (lv_at hl 3 rfl) ?_
      refine va_put (D := D) (ci := 1) (v := .int (nI (r))) (ty := .int) (C := RX1) (T := TX1) (N := 11) hx hb hts hinX1 tyX1 tyX1_ok nmX1 hown hK hP hD hS 0 rfl rfl 3 (by decide) lk24 (fun _ h9 => h9) rfl (by decide +kernel) rfl rfl (Nat.le_of_ble_eq_true rfl) dX1_swap_79 (fun H locs hP hD hS => ?_)
      replace hP : va_P D vwCl (WX ad cI cZ c g (nI (r)) code ans dbt opn ply hps wr) H := hP
      replace hD : va_D A (WX ad cI cZ c g (nI (r)) code ans dbt opn ply hps wr) := hD
      refine lv_aload_n hx hb dX1_swap_82 rfl (lv_at hl 0 rfl) ?_
      refine va_get (D := D) (ci := 1) (v := .int ((nI (r)))) (C := RX1) (T := TX1) (N := 11) hx hb hts hinX1 hown hK hP 0 rfl rfl 3 (by decide) lk24 (fun _ h9 => h9) rfl dX1_swap_83 ?_
      refine W.widen (k := 3) (n := 18) (Nat.le_of_ble_eq_true rfl) (Nat.le_of_ble_eq_true rfl) ?_
      exact vx_ret (W.iret (v := (nI (r))) hx hb hr (fun t ht hW => ⟨⟨_, (nI r), rfl, (by
          have e9 : i = 4 := by omega
          subst e9
          exact ⟨rfl, h, pa, pb, hh, hpa, hpb, rfl, rfl, rfl, by rw [h2]⟩), ⟨by rw [ht]; exact hP, hD⟩⟩, hS.F ht⟩) hS.2.2 dX1_swap_86)
    · skip
      refine lv_iload hx hb dX1_swap_23 (lv_at hl 4 rfl) ?_
      refine lv_iload_n hx hb dX1_swap_25 rfl (lv_at hl 1 rfl) ?_
      refine x_ne (tgt := 33) hx hb dX1_swap_26 (by decide) (by omega) (by omega) (fun c26 => ?_) (fun c26 => ?_)
      · skip
        refine lv_iload hx hb dX1_swap_33 (lv_at hl 4 rfl) ?_
        refine lv_iload_n hx hb dX1_swap_35 rfl (lv_at hl 2 rfl) ?_
        refine x_ne (tgt := 43) hx hb dX1_swap_36 (by decide) (by omega) (by omega) (fun c36 => ?_) (fun c36 => ?_)
        · skip
          refine lv_iload hx hb dX1_swap_43 (lv_at hl 4 rfl) ?_
          refine lv_istore (lv' := [(5, .int (nI (i))), (0, .ref (ad 0)), (1, .int (nI (pa))), (2, .int (nI (pb))), (3, .int (nI (r))), (4, .int (nI (i)))]) hx hb dX1_swap_45 hl (by decide) rfl (fun ls hl => ?_)
          refine lv_iload_n hx hb dX1_swap_47 rfl (lv_at hl 4 rfl) ?_
          refine lv_aload_n hx hb dX1_swap_48 rfl (lv_at hl 1 rfl) ?_
          refine va_get (D := D) (ci := 1) (v := .ref (pal ad c)) (C := RX1) (T := TX1) (N := 11) hx hb hts hinX1 hown hK hP 0 rfl rfl 2 (by decide) lk21 (fun _ h9 => h9) rfl dX1_swap_49 ?_
          refine x_colours hx hb hts hinX0 hown hK hP (palX hpal hc) (hB.2.2.2.2.1 _ (by simp [Nws])) dX1_swap_52 ?_
          refine lv_imul hx hb dX1_swap_55 ?_
          refine x_ti (pk_mul _ _) ?_
          refine lv_aload_n hx hb dX1_swap_56 rfl (lv_at hl 1 rfl) ?_
          refine va_get (D := D) (ci := 1) (v := .ref (pal ad c)) (C := RX1) (T := TX1) (N := 11) hx hb hts hinX1 hown hK hP 0 rfl rfl 2 (by decide) lk21 (fun _ h9 => h9) rfl dX1_swap_57 ?_
          refine lv_aload_n hx hb dX1_swap_60 rfl (lv_at hl 1 rfl) ?_
          refine va_get (D := D) (ci := 1) (v := .int ((nI h))) (C := RX1) (T := TX1) (N := 11) hx hb hts hinX1 hown hK hP 0 rfl rfl 3 (by decide) lk24 (fun _ h9 => h9) rfl dX1_swap_61 ?_
          refine lv_iload hx hb dX1_swap_64 (lv_at hl 0 rfl) ?_
          refine x_csi (va_runVN (As := [.int ((nI h)), .int (nI (i))]) (rest := [.int (nI (r * c))]) ⟨hx, hb, hml, hown, hts⟩ (c_X0_colourOf l D cI cZ cG cJ A (WX ad cI cZ c g (nI h) code ans dbt opn ply hps wr) (pal ad c) c h i (palX hpal hc) (hc) (hh) (by omega)) ⟨va_cnB (host := RX1) 2 hts gX1_swap_X0_colourOf_n73 rfl rfl rfl (hB.2.2.2.2.1 _ (by simp [Nws])) (hts _ (by decide +kernel)) (by decide +kernel) ⟨Nat.le_of_ble_eq_true rfl, Nat.le_of_ble_eq_true rfl⟩, hts _ (by decide +kernel), hts _ (by decide +kernel)⟩ (prePal hB hS hP hD (palX hpal hc)) rfl rfl hl.1 rfl (lv_room (Nat.le_of_ble_eq_true rfl)) dX1_swap_66 ⟨Nat.le_of_ble_eq_true rfl, Nat.le_of_ble_eq_true rfl⟩) ?_
          refine lv_iadd hx hb dX1_swap_69 ?_
          refine x_ti (nI_add _ _) ?_
          refine lv_istore_n (lv' := [(3, .int (nI ((r * c) + (col c h i)))), (5, .int (nI (i))), (0, .ref (ad 0)), (1, .int (nI (pa))), (2, .int (nI (pb))), (4, .int (nI (i)))]) hx hb dX1_swap_70 rfl hl (by decide) rfl (fun ls hl => ?_)
          refine lv_iinc (v := nI (i + 1)) (lv' := [(4, .int (nI (i + 1))), (3, .int (nI ((r * c) + (col c h i)))), (5, .int (nI (i))), (0, .ref (ad 0)), (1, .int (nI (pa))), (2, .int (nI (pb)))]) hx hb dX1_swap_71 hl (k := 5) rfl (nI_add _ _) (by decide) rfl (fun ls hl => ?_)
          refine lv_goto (tgt := 17) hx hb dX1_swap_74 (by decide) ?_
          exact ih17 (i := i + 1) (r := (r * c) + (col c h i)) (ls := ls) (hl := lv_sub hl [3, 4, 5, 1, 0] rfl) (H := H) (locs := locs) (hP := hP) (hS := hS) (hinv := by
              refine ⟨by omega, ?_⟩
              simp only [swF]; rw [← h2]
              first | rw [if_pos c26] | rw [if_neg c26, if_pos c36] | rw [if_neg c26, if_neg c36]
            ) (hn9 := by
              omega
            )
        · skip
          refine lv_iload_n hx hb dX1_swap_39 rfl (lv_at hl 1 rfl) ?_
          refine lv_goto (tgt := 45) hx hb dX1_swap_40 (by decide) ?_
          refine lv_istore (lv' := [(5, .int (nI (pa))), (0, .ref (ad 0)), (1, .int (nI (pa))), (2, .int (nI (pb))), (3, .int (nI (r))), (4, .int (nI (i)))]) hx hb dX1_swap_45 hl (by decide) rfl (fun ls hl => ?_)
          refine lv_iload_n hx hb dX1_swap_47 rfl (lv_at hl 4 rfl) ?_
          refine lv_aload_n hx hb dX1_swap_48 rfl (lv_at hl 1 rfl) ?_
          refine va_get (D := D) (ci := 1) (v := .ref (pal ad c)) (C := RX1) (T := TX1) (N := 11) hx hb hts hinX1 hown hK hP 0 rfl rfl 2 (by decide) lk21 (fun _ h9 => h9) rfl dX1_swap_49 ?_
          refine x_colours hx hb hts hinX0 hown hK hP (palX hpal hc) (hB.2.2.2.2.1 _ (by simp [Nws])) dX1_swap_52 ?_
          refine lv_imul hx hb dX1_swap_55 ?_
          refine x_ti (pk_mul _ _) ?_
          refine lv_aload_n hx hb dX1_swap_56 rfl (lv_at hl 1 rfl) ?_
          refine va_get (D := D) (ci := 1) (v := .ref (pal ad c)) (C := RX1) (T := TX1) (N := 11) hx hb hts hinX1 hown hK hP 0 rfl rfl 2 (by decide) lk21 (fun _ h9 => h9) rfl dX1_swap_57 ?_
          refine lv_aload_n hx hb dX1_swap_60 rfl (lv_at hl 1 rfl) ?_
          refine va_get (D := D) (ci := 1) (v := .int ((nI h))) (C := RX1) (T := TX1) (N := 11) hx hb hts hinX1 hown hK hP 0 rfl rfl 3 (by decide) lk24 (fun _ h9 => h9) rfl dX1_swap_61 ?_
          refine lv_iload hx hb dX1_swap_64 (lv_at hl 0 rfl) ?_
          refine x_csi (va_runVN (As := [.int ((nI h)), .int (nI (pa))]) (rest := [.int (nI (r * c))]) ⟨hx, hb, hml, hown, hts⟩ (c_X0_colourOf l D cI cZ cG cJ A (WX ad cI cZ c g (nI h) code ans dbt opn ply hps wr) (pal ad c) c h pa (palX hpal hc) (hc) (hh) (by omega)) ⟨va_cnB (host := RX1) 2 hts gX1_swap_X0_colourOf_n73 rfl rfl rfl (hB.2.2.2.2.1 _ (by simp [Nws])) (hts _ (by decide +kernel)) (by decide +kernel) ⟨Nat.le_of_ble_eq_true rfl, Nat.le_of_ble_eq_true rfl⟩, hts _ (by decide +kernel), hts _ (by decide +kernel)⟩ (prePal hB hS hP hD (palX hpal hc)) rfl rfl hl.1 rfl (lv_room (Nat.le_of_ble_eq_true rfl)) dX1_swap_66 ⟨Nat.le_of_ble_eq_true rfl, Nat.le_of_ble_eq_true rfl⟩) ?_
          refine lv_iadd hx hb dX1_swap_69 ?_
          refine x_ti (nI_add _ _) ?_
          refine lv_istore_n (lv' := [(3, .int (nI ((r * c) + (col c h pa)))), (5, .int (nI (pa))), (0, .ref (ad 0)), (1, .int (nI (pa))), (2, .int (nI (pb))), (4, .int (nI (i)))]) hx hb dX1_swap_70 rfl hl (by decide) rfl (fun ls hl => ?_)
          refine lv_iinc (v := nI (i + 1)) (lv' := [(4, .int (nI (i + 1))), (3, .int (nI ((r * c) + (col c h pa)))), (5, .int (nI (pa))), (0, .ref (ad 0)), (1, .int (nI (pa))), (2, .int (nI (pb)))]) hx hb dX1_swap_71 hl (k := 5) rfl (nI_add _ _) (by decide) rfl (fun ls hl => ?_)
          refine lv_goto (tgt := 17) hx hb dX1_swap_74 (by decide) ?_
          exact ih17 (i := i + 1) (r := (r * c) + (col c h pa)) (ls := ls) (hl := lv_sub hl [3, 4, 5, 1, 0] rfl) (H := H) (locs := locs) (hP := hP) (hS := hS) (hinv := by
              refine ⟨by omega, ?_⟩
              simp only [swF]; rw [← h2]
              first | rw [if_pos c26] | rw [if_neg c26, if_pos c36] | rw [if_neg c26, if_neg c36]
            ) (hn9 := by
              omega
            )
      · skip
        refine lv_iload_n hx hb dX1_swap_29 rfl (lv_at hl 2 rfl) ?_
        refine lv_goto (tgt := 45) hx hb dX1_swap_30 (by decide) ?_
        refine lv_istore (lv' := [(5, .int (nI (pb))), (0, .ref (ad 0)), (1, .int (nI (pa))), (2, .int (nI (pb))), (3, .int (nI (r))), (4, .int (nI (i)))]) hx hb dX1_swap_45 hl (by decide) rfl (fun ls hl => ?_)
        refine lv_iload_n hx hb dX1_swap_47 rfl (lv_at hl 4 rfl) ?_
        refine lv_aload_n hx hb dX1_swap_48 rfl (lv_at hl 1 rfl) ?_
        refine va_get (D := D) (ci := 1) (v := .ref (pal ad c)) (C := RX1) (T := TX1) (N := 11) hx hb hts hinX1 hown hK hP 0 rfl rfl 2 (by decide) lk21 (fun _ h9 => h9) rfl dX1_swap_49 ?_
        refine x_colours hx hb hts hinX0 hown hK hP (palX hpal hc) (hB.2.2.2.2.1 _ (by simp [Nws])) dX1_swap_52 ?_
        refine lv_imul hx hb dX1_swap_55 ?_
        refine x_ti (pk_mul _ _) ?_
        refine lv_aload_n hx hb dX1_swap_56 rfl (lv_at hl 1 rfl) ?_
        refine va_get (D := D) (ci := 1) (v := .ref (pal ad c)) (C := RX1) (T := TX1) (N := 11) hx hb hts hinX1 hown hK hP 0 rfl rfl 2 (by decide) lk21 (fun _ h9 => h9) rfl dX1_swap_57 ?_
        refine lv_aload_n hx hb dX1_swap_60 rfl (lv_at hl 1 rfl) ?_
        refine va_get (D := D) (ci := 1) (v := .int ((nI h))) (C := RX1) (T := TX1) (N := 11) hx hb hts hinX1 hown hK hP 0 rfl rfl 3 (by decide) lk24 (fun _ h9 => h9) rfl dX1_swap_61 ?_
        refine lv_iload hx hb dX1_swap_64 (lv_at hl 0 rfl) ?_
        refine x_csi (va_runVN (As := [.int ((nI h)), .int (nI (pb))]) (rest := [.int (nI (r * c))]) ⟨hx, hb, hml, hown, hts⟩ (c_X0_colourOf l D cI cZ cG cJ A (WX ad cI cZ c g (nI h) code ans dbt opn ply hps wr) (pal ad c) c h pb (palX hpal hc) (hc) (hh) (by omega)) ⟨va_cnB (host := RX1) 2 hts gX1_swap_X0_colourOf_n73 rfl rfl rfl (hB.2.2.2.2.1 _ (by simp [Nws])) (hts _ (by decide +kernel)) (by decide +kernel) ⟨Nat.le_of_ble_eq_true rfl, Nat.le_of_ble_eq_true rfl⟩, hts _ (by decide +kernel), hts _ (by decide +kernel)⟩ (prePal hB hS hP hD (palX hpal hc)) rfl rfl hl.1 rfl (lv_room (Nat.le_of_ble_eq_true rfl)) dX1_swap_66 ⟨Nat.le_of_ble_eq_true rfl, Nat.le_of_ble_eq_true rfl⟩) ?_
        refine lv_iadd hx hb dX1_swap_69 ?_
        refine x_ti (nI_add _ _) ?_
        refine lv_istore_n (lv' := [(3, .int (nI ((r * c) + (col c h pb)))), (5, .int (nI (pb))), (0, .ref (ad 0)), (1, .int (nI (pa))), (2, .int (nI (pb))), (4, .int (nI (i)))]) hx hb dX1_swap_70 rfl hl (by decide) rfl (fun ls hl => ?_)
        refine lv_iinc (v := nI (i + 1)) (lv' := [(4, .int (nI (i + 1))), (3, .int (nI ((r * c) + (col c h pb)))), (5, .int (nI (pb))), (0, .ref (ad 0)), (1, .int (nI (pa))), (2, .int (nI (pb)))]) hx hb dX1_swap_71 hl (k := 5) rfl (nI_add _ _) (by decide) rfl (fun ls hl => ?_)
        refine lv_goto (tgt := 17) hx hb dX1_swap_74 (by decide) ?_
        exact ih17 (i := i + 1) (r := (r * c) + (col c h pb)) (ls := ls) (hl := lv_sub hl [3, 4, 5, 1, 0] rfl) (H := H) (locs := locs) (hP := hP) (hS := hS) (hinv := by
            refine ⟨by omega, ?_⟩
            simp only [swF]; rw [← h2]
            first | rw [if_pos c26] | rw [if_neg c26, if_pos c36] | rw [if_neg c26, if_neg c36]
          ) (hn9 := by
            omega
          )

set_option maxHeartbeats 4000000 in
set_option maxRecDepth 100000 in
theorem c_X1_guess (l : Launch) (hfl : l.flags = flags0) (D : va_G) (cI cZ cG cJ : ClassId) (A : Nat → Prop) (ad : Nat → Nat) (wr : va_W) (hpal : Pals cI cG ad wr) (c : Nat) (g : Nat) (hid : Int32) (code : Nat → Nat) (ans : Nat → Nat) (dbt : Nat → Bool) (opn : Nat → Bool) (ply : Nat → Bool) (hps : Nat → Nat) (v : Int32) (hI : XI c g hid code ans dbt opn) : vx_Met l yX1_guess wsX1_guess ({ frames := 7, cells := 3, slots := 18, locals := 110 }) (va_Pc [.ref (ad 0), .int (v)] (Iv D (TY cI cZ cG cJ) A (WX ad cI cZ c g hid code ans dbt opn ply hps wr))) (va_Qi (fun r (u : Nat × Nat × (Nat → Bool)) => r = nI (pins c u.1 u.2.1) ∧ u.1 < qq c ∧ v = nI u.1 ∧ u.2.1 < qq c ∧ hid = nI u.2.1 ∧ g < 12 ∧ ∀ k, k < 81 → u.2.2 k = opS c (g + 1) (va_up code g u.1) (va_up ans g (pins c u.1 u.2.1)) (va_up dbt g false) k) (fun u => Wd D A (WX ad cI cZ c (g + 1) hid (va_up code g u.1) (va_up ans g (pins c u.1 u.2.1)) (va_up dbt g false) u.2.2 ply hps wr)) A) (Xw D A (WX ad cI cZ c g hid code ans dbt opn ply hps wr) (fun E => (E = "java/lang/IndexOutOfBoundsException" ∧ hasC c v = false) ∨ (E = "java/lang/IllegalStateException" ∧ hasC c v = true ∧ (hid = -1 ∨ 12 ≤ g)))) 3 18 A := by
  refine vx_ofW (cc := cX1_guess) (maxL := 3) (ret := (some .int)) (by decide) rfl ?_
  intro p e s m args below meth c9 s₁ B hml hnt hv
  obtain ⟨rfl, hP, hD, hB⟩ := hv
  have hK := hB.1
  have hA := hB.2.1
  have hx := B.exec
  have hb := B.bytes
  have hr := B.returns
  have hts := atoms_spec (ws := wsX1_guess) B.pre
  have hown : s.vm.findClass RX1 = some m.cls := findClass_of_methodNamed B.named
  have hlocks := B.notSynchronized
  have hS : va_S A s.heap s.heap [] := va_S.rf
  have hflag : l.stackTraces = false := by rw [Launch.stackTraces, hfl]; decide
  have hinX1 : ∀ w ∈ wsX10, w ∈ wsX1_guess := by decide +kernel
  have lk21 := hts (.fieldLink RX1 21 "HiddenCandles" "palette" "LHiddenCandles$Palette;") (by decide +kernel)
  have lk24 := hts (.fieldLink RX1 24 "HiddenCandles" "hidden" "I") (by decide +kernel)
  have hl := lv_entry ([.ref (ad 0), .int (v)]) (n := 3) (Nat.le_of_ble_eq_true rfl)
  rw [lg_entry_eq]
  generalize (lg_sl ([.ref (ad 0), .int (v)]) ++ List.replicate (3 - (lg_sl ([.ref (ad 0), .int (v)])).length) Slot.unset).toArray = ls at hl ⊢
  have hl : lv_has ls 3 [(0, .ref (ad 0)), (1, .int (v))] := hl
  obtain ⟨H, eH⟩ : ∃ q, q = s.heap := ⟨_, rfl⟩
  obtain ⟨locs, eL⟩ : ∃ q : List Loc, q = [] := ⟨_, rfl⟩
  replace hP : va_P D vwCl (WX ad cI cZ c g hid code ans dbt opn ply hps wr) H := by rw [eH]; exact hP
  replace hS : va_S A s.heap H locs := by rw [eH, eL]; exact hS
  rw [show W p l e _ s m _ below meth c9 s.heap [] = W p l e _ s m _ below meth c9 H locs from by rw [eH, eL]]
  clear eH eL
  obtain ⟨hc, hg, hco, hhid, hop⟩ := id hI
  have hq := qq_in hc
  have hop2 := op_lt hop
  refine lv_aload_n hx hb dX1_guess_0 rfl (lv_at hl 0 rfl) ?_
  refine lv_iload_n hx hb dX1_guess_1 rfl (lv_at hl 1 rfl) ?_
  refine vx_callv (vx_runV (As := [.int (v)]) (rest := []) ⟨hx, hb, hml, hown, hts⟩ (c_X1_needCode l hfl D cI cZ cG cJ A ad wr hpal c g hid code ans dbt opn ply hps v (hc)) (cwV 1 hts gX1_guess_X1_needCode rfl rfl rfl (by decide +kernel) ⟨Nat.le_of_ble_eq_true rfl, Nat.le_of_ble_eq_true rfl⟩) (preV (ci := 1) (q0 := 0) hB hS hP hD rfl rfl) rfl rfl hl.1 rfl (lv_room (Nat.le_of_ble_eq_true rfl)) dX1_guess_2 ⟨Nat.le_of_ble_eq_true rfl, Nat.le_of_ble_eq_true rfl⟩) hS (fun q _ h => h) (fun q h => h) (fun q _ h => h) (fun E ce q9 u9 t9 H1 locs1 ht9 hvm9 hpx8 hBx hz9 hk9 hS hq9 hv9 hcl9 => ?_) (fun u_2 t9 H1 locs1 ht9 hvm9 hw_2 hBw hz9 hk9 hS => ?_)
  · obtain ⟨hpx9, hP1, hD1⟩ := hBx
    rw [ht9] at hP1
    exact vx_out (fun x hx9 => (hnt x hx9).elim) hlocks hq9 hv9 hcl9 (fun t ht hvm => ⟨(), trivial, ⟨(by
        exact Or.inl hpx9), by rw [ht]; exact hP1, hD1⟩, hS.F ht⟩) hS.2.2 (by omega) (by omega)
  obtain ⟨hP, hD⟩ := hBw
  rw [ht9] at hP
  generalize H1 = H at hP hS ⊢
  generalize locs1 = locs at hS ⊢
  replace hP : va_P D vwCl (WX ad cI cZ c g hid code ans dbt opn ply hps wr) H := hP
  replace hD : va_D A (WX ad cI cZ c g hid code ans dbt opn ply hps wr) := hD
  obtain ⟨k, hk, rfl⟩ := hasC_of hc hw_2
  refine lv_aload_n hx hb dX1_guess_5 rfl (lv_at hl 0 rfl) ?_
  refine vx_callv (vx_runV (As := []) (rest := []) ⟨hx, hb, hml, hown, hts⟩ (c_X1_needHidden l hfl D cI cZ cG cJ A ad wr hpal c g hid code ans dbt opn ply hps ) (cwV 0 hts gX1_guess_X1_needHidden rfl rfl rfl (by decide +kernel) ⟨Nat.le_of_ble_eq_true rfl, Nat.le_of_ble_eq_true rfl⟩) (preV (ci := 1) (q0 := 0) hB hS hP hD rfl rfl) rfl rfl hl.1 rfl (lv_room (Nat.le_of_ble_eq_true rfl)) dX1_guess_6 ⟨Nat.le_of_ble_eq_true rfl, Nat.le_of_ble_eq_true rfl⟩) hS (fun q _ h => h) (fun q h => h) (fun q _ h => h) (fun E ce q9 u9 t9 H1 locs1 ht9 hvm9 hpx8 hBx hz9 hk9 hS hq9 hv9 hcl9 => ?_) (fun u_6 t9 H1 locs1 ht9 hvm9 hw_6 hBw hz9 hk9 hS => ?_)
  · obtain ⟨hpx9, hP1, hD1⟩ := hBx
    rw [ht9] at hP1
    exact vx_out (fun x hx9 => (hnt x hx9).elim) hlocks hq9 hv9 hcl9 (fun t ht hvm => ⟨(), trivial, ⟨(by
        exact Or.inr ⟨hpx9.1, hasC_lt hc hk, Or.inl hpx9.2⟩), by rw [ht]; exact hP1, hD1⟩, hS.F ht⟩) hS.2.2 (by omega) (by omega)
  obtain ⟨hP, hD⟩ := hBw
  rw [ht9] at hP
  generalize H1 = H at hP hS ⊢
  generalize locs1 = locs at hS ⊢
  replace hP : va_P D vwCl (WX ad cI cZ c g hid code ans dbt opn ply hps wr) H := hP
  replace hD : va_D A (WX ad cI cZ c g hid code ans dbt opn ply hps wr) := hD
  obtain ⟨h, hh, rfl⟩ := hhid.resolve_left hw_6
  refine lv_aload_n hx hb dX1_guess_9 rfl (lv_at hl 0 rfl) ?_
  refine va_get (D := D) (ci := 1) (v := .ref (pal ad c)) (C := RX1) (T := TX1) (N := 11) hx hb hts hinX1 hown hK hP 0 rfl rfl 2 (by decide) lk21 (fun _ h9 => h9) rfl dX1_guess_10 ?_
  refine lv_iload_n hx hb dX1_guess_13 rfl (lv_at hl 1 rfl) ?_
  refine lv_aload_n hx hb dX1_guess_14 rfl (lv_at hl 0 rfl) ?_
  refine va_get (D := D) (ci := 1) (v := .int ((nI h))) (C := RX1) (T := TX1) (N := 11) hx hb hts hinX1 hown hK hP 0 rfl rfl 3 (by decide) lk24 (fun _ h9 => h9) rfl dX1_guess_15 ?_
  refine x_csi (va_runVN (As := [.int (nI (k)), .int (nI (h))]) (rest := []) ⟨hx, hb, hml, hown, hts⟩ (c_X0_answerTo l D cI cZ cG cJ A (WX ad cI cZ c g (nI h) code ans dbt opn ply hps wr) (pal ad c) c k h (palX hpal hc) (hc) (hk) (hh)) ⟨va_cnB (host := RX1) 2 hts gX1_guess_X0_answerTo_n77 rfl rfl rfl (hB.2.2.2.2.1 _ (by simp [Nws])) (hts _ (by decide +kernel)) (by decide +kernel) ⟨Nat.le_of_ble_eq_true rfl, Nat.le_of_ble_eq_true rfl⟩, hts _ (by decide +kernel), hts _ (by decide +kernel)⟩ (prePal hB hS hP hD (palX hpal hc)) rfl rfl hl.1 rfl (lv_room (Nat.le_of_ble_eq_true rfl)) dX1_guess_18 ⟨Nat.le_of_ble_eq_true rfl, Nat.le_of_ble_eq_true rfl⟩) ?_
  have hpi := pins_le hc (hk) (hh)
  refine lv_istore_n (lv' := [(2, .int (nI (pins c k h))), (0, .ref (ad 0)), (1, .int (nI (k)))]) hx hb dX1_guess_21 rfl hl (by decide) rfl (fun ls hl => ?_)
  refine lv_aload_n hx hb dX1_guess_22 rfl (lv_at hl 1 rfl) ?_
  refine lv_iload_n hx hb dX1_guess_23 rfl (lv_at hl 2 rfl) ?_
  refine lv_iload_n hx hb dX1_guess_24 rfl (lv_at hl 0 rfl) ?_
  refine vx_callv (vx_runV (As := [.int (nI (k)), .int (nI (pins c k h))]) (rest := []) ⟨hx, hb, hml, hown, hts⟩ (c_X1_append l hfl D cI cZ cG cJ A ad wr hpal c g (nI h) code ans dbt opn ply hps k (pins c k h) (hc) (hg) (hco) (hk) (by omega)) (cwV 2 hts gX1_guess_X1_append rfl rfl rfl (by decide +kernel) ⟨Nat.le_of_ble_eq_true rfl, Nat.le_of_ble_eq_true rfl⟩) (preV (ci := 1) (q0 := 0) hB hS hP hD rfl rfl) rfl rfl hl.1 rfl (lv_room (Nat.le_of_ble_eq_true rfl)) dX1_guess_25 ⟨Nat.le_of_ble_eq_true rfl, Nat.le_of_ble_eq_true rfl⟩) hS (fun q _ h => h) (fun q h => h) (fun q _ h => h) (fun E ce q9 u9 t9 H1 locs1 ht9 hvm9 hpx8 hBx hz9 hk9 hS hq9 hv9 hcl9 => ?_) (fun u_25 t9 H1 locs1 ht9 hvm9 hw_25 hBw hz9 hk9 hS => ?_)
  · obtain ⟨hpx9, hP1, hD1⟩ := hBx
    rw [ht9] at hP1
    exact vx_out (fun x hx9 => (hnt x hx9).elim) hlocks hq9 hv9 hcl9 (fun t ht hvm => ⟨(), trivial, ⟨(by
        exact Or.inr ⟨hpx9.1, hasC_lt hc hk, Or.inr hpx9.2⟩), by rw [ht]; exact hP1, hD1⟩, hS.F ht⟩) hS.2.2 (by omega) (by omega)
  obtain ⟨hP, hD⟩ := hBw
  rw [ht9] at hP
  generalize H1 = H at hP hS ⊢
  generalize locs1 = locs at hS ⊢
  replace hP : va_P D vwCl (WX ad cI cZ c (g + 1) (nI h) (va_up code g k) (va_up ans g (pins c k h)) (va_up dbt g false) u_25 ply hps wr) H := hP
  replace hD : va_D A (WX ad cI cZ c (g + 1) (nI h) (va_up code g k) (va_up ans g (pins c k h)) (va_up dbt g false) u_25 ply hps wr) := hD
  refine lv_iload_n hx hb dX1_guess_28 rfl (lv_at hl 0 rfl) ?_
  refine W.widen (k := 3) (n := 18) (Nat.le_of_ble_eq_true rfl) (Nat.le_of_ble_eq_true rfl) ?_
  exact vx_ret (W.iret (v := nI (pins c k h)) hx hb hr (fun t ht hW => ⟨⟨_, (k, h, u_25), rfl, (by
      exact ⟨rfl, hk, rfl, hh, rfl, hw_25.1, hw_25.2⟩), ⟨by rw [ht]; exact hP, hD⟩⟩, hS.F ht⟩) hS.2.2 dX1_guess_29)

set_option maxHeartbeats 4000000 in
set_option maxRecDepth 100000 in
theorem c_X1_tell (l : Launch) (hfl : l.flags = flags0) (D : va_G) (cI cZ cG cJ : ClassId) (A : Nat → Prop) (ad : Nat → Nat) (wr : va_W) (hpal : Pals cI cG ad wr) (c : Nat) (g : Nat) (hid : Int32) (code : Nat → Nat) (ans : Nat → Nat) (dbt : Nat → Bool) (opn : Nat → Bool) (ply : Nat → Bool) (hps : Nat → Nat) (v : Int32) (b : Int32) (wt : Int32) (hI : XI c g hid code ans dbt opn) : vx_Met l yX1_tell wsX1_tell ({ frames := 7, cells := 3, slots := 18, locals := 110 }) (va_Pc [.ref (ad 0), .int (v), .int (b), .int (wt)] (Iv D (TY cI cZ cG cJ) A (WX ad cI cZ c g hid code ans dbt opn ply hps wr))) (va_Qi (fun r (u : Nat × Nat × Nat × (Nat → Bool)) => r = nI (cN (opS c (g + 1) (va_up code g u.1) (va_up ans g (5 * u.2.1 + u.2.2.1)) (va_up dbt g false)) 81) ∧ u.1 < qq c ∧ v = nI u.1 ∧ u.2.1 + u.2.2.1 ≤ 4 ∧ b = nI u.2.1 ∧ wt = nI u.2.2.1 ∧ g < 12 ∧ (∀ k, k < 81 → u.2.2.2 k = opS c (g + 1) (va_up code g u.1) (va_up ans g (5 * u.2.1 + u.2.2.1)) (va_up dbt g false) k) ∧ pinC b wt = true) (fun u => Wd D A (WX ad cI cZ c (g + 1) hid (va_up code g u.1) (va_up ans g (5 * u.2.1 + u.2.2.1)) (va_up dbt g false) u.2.2.2 ply hps wr)) A) (Xw D A (WX ad cI cZ c g hid code ans dbt opn ply hps wr) (fun E => (E = "java/lang/IndexOutOfBoundsException" ∧ hasC c v = false) ∨ (E = "java/lang/IllegalArgumentException" ∧ hasC c v = true ∧ pinC b wt = false) ∨ (E = "java/lang/IllegalStateException" ∧ hasC c v = true ∧ pinC b wt = true ∧ 12 ≤ g))) 3 18 A := by
  refine vx_ofW (cc := cX1_tell) (maxL := 4) (ret := (some .int)) (by decide) rfl ?_
  intro p e s m args below meth c9 s₁ B hml hnt hv
  obtain ⟨rfl, hP, hD, hB⟩ := hv
  have hK := hB.1
  have hA := hB.2.1
  have hx := B.exec
  have hb := B.bytes
  have hr := B.returns
  have hts := atoms_spec (ws := wsX1_tell) B.pre
  have hown : s.vm.findClass RX1 = some m.cls := findClass_of_methodNamed B.named
  have hlocks := B.notSynchronized
  have hS : va_S A s.heap s.heap [] := va_S.rf
  have hflag : l.stackTraces = false := by rw [Launch.stackTraces, hfl]; decide
  have hinX1 : ∀ w ∈ wsX10, w ∈ wsX1_tell := by decide +kernel
  have lk42 := hts (.fieldLink RX1 42 "HiddenCandles" "open" "[Z") (by decide +kernel)
  have hl := lv_entry ([.ref (ad 0), .int (v), .int (b), .int (wt)]) (n := 4) (Nat.le_of_ble_eq_true rfl)
  rw [lg_entry_eq]
  generalize (lg_sl ([.ref (ad 0), .int (v), .int (b), .int (wt)]) ++ List.replicate (4 - (lg_sl ([.ref (ad 0), .int (v), .int (b), .int (wt)])).length) Slot.unset).toArray = ls at hl ⊢
  have hl : lv_has ls 4 [(0, .ref (ad 0)), (1, .int (v)), (2, .int (b)), (3, .int (wt))] := hl
  obtain ⟨H, eH⟩ : ∃ q, q = s.heap := ⟨_, rfl⟩
  obtain ⟨locs, eL⟩ : ∃ q : List Loc, q = [] := ⟨_, rfl⟩
  replace hP : va_P D vwCl (WX ad cI cZ c g hid code ans dbt opn ply hps wr) H := by rw [eH]; exact hP
  replace hS : va_S A s.heap H locs := by rw [eH, eL]; exact hS
  rw [show W p l e _ s m _ below meth c9 s.heap [] = W p l e _ s m _ below meth c9 H locs from by rw [eH, eL]]
  clear eH eL
  obtain ⟨hc, hg, hco, hhid, hop⟩ := id hI
  have hq := qq_in hc
  have hop2 := op_lt hop
  refine lv_aload_n hx hb dX1_tell_0 rfl (lv_at hl 0 rfl) ?_
  refine lv_iload_n hx hb dX1_tell_1 rfl (lv_at hl 1 rfl) ?_
  refine vx_callv (vx_runV (As := [.int (v)]) (rest := []) ⟨hx, hb, hml, hown, hts⟩ (c_X1_needCode l hfl D cI cZ cG cJ A ad wr hpal c g hid code ans dbt opn ply hps v (hc)) (cwV 1 hts gX1_tell_X1_needCode rfl rfl rfl (by decide +kernel) ⟨Nat.le_of_ble_eq_true rfl, Nat.le_of_ble_eq_true rfl⟩) (preV (ci := 1) (q0 := 0) hB hS hP hD rfl rfl) rfl rfl hl.1 rfl (lv_room (Nat.le_of_ble_eq_true rfl)) dX1_tell_2 ⟨Nat.le_of_ble_eq_true rfl, Nat.le_of_ble_eq_true rfl⟩) hS (fun q _ h => h) (fun q h => h) (fun q _ h => h) (fun E ce q9 u9 t9 H1 locs1 ht9 hvm9 hpx8 hBx hz9 hk9 hS hq9 hv9 hcl9 => ?_) (fun u_2 t9 H1 locs1 ht9 hvm9 hw_2 hBw hz9 hk9 hS => ?_)
  · obtain ⟨hpx9, hP1, hD1⟩ := hBx
    rw [ht9] at hP1
    exact vx_out (fun x hx9 => (hnt x hx9).elim) hlocks hq9 hv9 hcl9 (fun t ht hvm => ⟨(), trivial, ⟨(by
        exact Or.inl hpx9), by rw [ht]; exact hP1, hD1⟩, hS.F ht⟩) hS.2.2 (by omega) (by omega)
  obtain ⟨hP, hD⟩ := hBw
  rw [ht9] at hP
  generalize H1 = H at hP hS ⊢
  generalize locs1 = locs at hS ⊢
  replace hP : va_P D vwCl (WX ad cI cZ c g hid code ans dbt opn ply hps wr) H := hP
  replace hD : va_D A (WX ad cI cZ c g hid code ans dbt opn ply hps wr) := hD
  obtain ⟨k, hk, rfl⟩ := hasC_of hc hw_2
  refine lv_iload_n hx hb dX1_tell_5 rfl (lv_at hl 2 rfl) ?_
  refine lv_iload_n hx hb dX1_tell_6 rfl (lv_at hl 3 rfl) ?_
  refine vx_callv (vx_runS (As := [.int (b), .int (wt)]) (rest := []) ⟨hx, hb, hml, hown, hts⟩ (c_X1_needPins l hfl D cI cZ cG cJ A (WX ad cI cZ c g hid code ans dbt opn ply hps wr) b wt ) (va_cwS 2 hts gX1_tell_X1_needPins rfl rfl rfl (by decide +kernel) ⟨Nat.le_of_ble_eq_true rfl, Nat.le_of_ble_eq_true rfl⟩) (preS hB hS hP hD) rfl rfl hl.1 rfl (lv_room (Nat.le_of_ble_eq_true rfl)) dX1_tell_7 ⟨Nat.le_of_ble_eq_true rfl, Nat.le_of_ble_eq_true rfl⟩) hS (fun q _ h => h) (fun q h => h) (fun q _ h => h) (fun E ce q9 u9 t9 H1 locs1 ht9 hvm9 hpx8 hBx hz9 hk9 hS hq9 hv9 hcl9 => ?_) (fun u_7 t9 H1 locs1 ht9 hvm9 hw_7 hBw hz9 hk9 hS => ?_)
  · obtain ⟨hpx9, hP1, hD1⟩ := hBx
    rw [ht9] at hP1
    exact vx_out (fun x hx9 => (hnt x hx9).elim) hlocks hq9 hv9 hcl9 (fun t ht hvm => ⟨(), trivial, ⟨(by
        exact Or.inr (Or.inl ⟨hpx9.1, hasC_lt hc hk, hpx9.2⟩)), by rw [ht]; exact hP1, hD1⟩, hS.F ht⟩) hS.2.2 (by omega) (by omega)
  obtain ⟨hP, hD⟩ := hBw
  rw [ht9] at hP
  generalize H1 = H at hP hS ⊢
  generalize locs1 = locs at hS ⊢
  replace hP : va_P D vwCl (WX ad cI cZ c g hid code ans dbt opn ply hps wr) H := hP
  replace hD : va_D A (WX ad cI cZ c g hid code ans dbt opn ply hps wr) := hD
  obtain ⟨nb, nw, hnb, rfl, rfl⟩ := pinC_of hw_7
  refine lv_aload_n hx hb dX1_tell_10 rfl (lv_at hl 0 rfl) ?_
  refine lv_iload_n hx hb dX1_tell_11 rfl (lv_at hl 1 rfl) ?_
  refine lv_iconst (v := nI (5)) hx hb dX1_tell_12 (by decide) ?_
  refine lv_iload_n hx hb dX1_tell_13 rfl (lv_at hl 2 rfl) ?_
  refine lv_imul hx hb dX1_tell_14 ?_
  refine x_ti (pk_mul _ _) ?_
  refine lv_iload_n hx hb dX1_tell_15 rfl (lv_at hl 3 rfl) ?_
  refine lv_iadd hx hb dX1_tell_16 ?_
  refine x_ti (nI_add _ _) ?_
  refine vx_callv (vx_runV (As := [.int (nI (k)), .int (nI ((5 * nb) + nw))]) (rest := []) ⟨hx, hb, hml, hown, hts⟩ (c_X1_append l hfl D cI cZ cG cJ A ad wr hpal c g hid code ans dbt opn ply hps k ((5 * nb) + nw) (hc) (hg) (hco) (hk) (by omega)) (cwV 2 hts gX1_tell_X1_append rfl rfl rfl (by decide +kernel) ⟨Nat.le_of_ble_eq_true rfl, Nat.le_of_ble_eq_true rfl⟩) (preV (ci := 1) (q0 := 0) hB hS hP hD rfl rfl) rfl rfl hl.1 rfl (lv_room (Nat.le_of_ble_eq_true rfl)) dX1_tell_17 ⟨Nat.le_of_ble_eq_true rfl, Nat.le_of_ble_eq_true rfl⟩) hS (fun q _ h => h) (fun q h => h) (fun q _ h => h) (fun E ce q9 u9 t9 H1 locs1 ht9 hvm9 hpx8 hBx hz9 hk9 hS hq9 hv9 hcl9 => ?_) (fun u_17 t9 H1 locs1 ht9 hvm9 hw_17 hBw hz9 hk9 hS => ?_)
  · obtain ⟨hpx9, hP1, hD1⟩ := hBx
    rw [ht9] at hP1
    exact vx_out (fun x hx9 => (hnt x hx9).elim) hlocks hq9 hv9 hcl9 (fun t ht hvm => ⟨(), trivial, ⟨(by
        exact Or.inr (Or.inr ⟨hpx9.1, hasC_lt hc hk, hw_7, hpx9.2⟩)), by rw [ht]; exact hP1, hD1⟩, hS.F ht⟩) hS.2.2 (by omega) (by omega)
  obtain ⟨hP, hD⟩ := hBw
  rw [ht9] at hP
  generalize H1 = H at hP hS ⊢
  generalize locs1 = locs at hS ⊢
  replace hP : va_P D vwCl (WX ad cI cZ c (g + 1) hid (va_up code g k) (va_up ans g ((5 * nb) + nw)) (va_up dbt g false) u_17 ply hps wr) H := hP
  replace hD : va_D A (WX ad cI cZ c (g + 1) hid (va_up code g k) (va_up ans g ((5 * nb) + nw)) (va_up dbt g false) u_17 ply hps wr) := hD
  refine lv_aload_n hx hb dX1_tell_20 rfl (lv_at hl 0 rfl) ?_
  refine va_get (D := D) (ci := 1) (v := .ref (ad 4)) (C := RX1) (T := TX1) (N := 11) hx hb hts hinX1 hown hK hP 0 rfl rfl 8 (by decide) lk42 (fun _ h9 => h9) rfl dX1_tell_21 ?_
  refine x_csi (va_runS (As := [.ref (ad 4)]) (rest := []) ⟨hx, hb, hml, hown, hts⟩ (c_X1_size l D cI cZ cG cJ A (WX ad cI cZ c (g + 1) hid (va_up code g k) (va_up ans g ((5 * nb) + nw)) (va_up dbt g false) u_17 ply hps wr) (ad 4) 4 u_17 (rfl)) (va_cwS 1 hts gX1_tell_X1_size rfl rfl rfl (by decide +kernel) ⟨Nat.le_of_ble_eq_true rfl, Nat.le_of_ble_eq_true rfl⟩) (preS hB hS hP hD) rfl rfl hl.1 rfl (lv_room (Nat.le_of_ble_eq_true rfl)) dX1_tell_24 ⟨Nat.le_of_ble_eq_true rfl, Nat.le_of_ble_eq_true rfl⟩) ?_
  refine W.widen (k := 3) (n := 18) (Nat.le_of_ble_eq_true rfl) (Nat.le_of_ble_eq_true rfl) ?_
  exact vx_ret (W.iret (v := nI (cN u_17 81)) hx hb hr (fun t ht hW => ⟨⟨_, (k, nb, nw, u_17), rfl, (by
      exact ⟨by rw [cN_congr 81 hw_17.2], hk, rfl, hnb, rfl, rfl, hw_17.1, hw_17.2, hw_7⟩), ⟨by rw [ht]; exact hP, hD⟩⟩, hS.F ht⟩) hS.2.2 dX1_tell_27)

set_option maxHeartbeats 4000000 in
set_option maxRecDepth 100000 in
theorem c_X1_doubt (l : Launch) (hfl : l.flags = flags0) (D : va_G) (cI cZ cG cJ : ClassId) (A : Nat → Prop) (ad : Nat → Nat) (wr : va_W) (hpal : Pals cI cG ad wr) (c : Nat) (g : Nat) (hid : Int32) (code : Nat → Nat) (ans : Nat → Nat) (dbt : Nat → Bool) (opn : Nat → Bool) (ply : Nat → Bool) (hps : Nat → Nat) (v : Int32) (is : Bool) (hI : XI c g hid code ans dbt opn) : vx_Met l yX1_doubt wsX1_doubt ({ frames := 6, cells := 1, slots := 6, locals := 87 }) (va_Pc [.ref (ad 0), .int (v), .int (bI (is))] (Iv D (TY cI cZ cG cJ) A (WX ad cI cZ c g hid code ans dbt opn ply hps wr))) (va_Qi (fun r (u : Nat × (Nat → Bool)) => r = bI (dbt u.1) ∧ u.1 < g ∧ v = nI u.1 ∧ ∀ k, k < 81 → u.2 k = opS c g code ans (va_up dbt u.1 is) k) (fun u => Wd D A (WX ad cI cZ c g hid code ans (va_up dbt u.1 is) u.2 ply hps wr)) A) (Xw D A (WX ad cI cZ c g hid code ans dbt opn ply hps wr) (fun E => E = "java/lang/IndexOutOfBoundsException" ∧ gsC g v = false)) 1 6 A := by
  refine vx_ofW (cc := cX1_doubt) (maxL := 4) (ret := (some .boolean)) (by decide) rfl ?_
  intro p e s m args below meth c9 s₁ B hml hnt hv
  obtain ⟨rfl, hP, hD, hB⟩ := hv
  have hK := hB.1
  have hA := hB.2.1
  have hx := B.exec
  have hb := B.bytes
  have hr := B.returns
  have hts := atoms_spec (ws := wsX1_doubt) B.pre
  have hown : s.vm.findClass RX1 = some m.cls := findClass_of_methodNamed B.named
  have hlocks := B.notSynchronized
  have hS : va_S A s.heap s.heap [] := va_S.rf
  have hflag : l.stackTraces = false := by rw [Launch.stackTraces, hfl]; decide
  have hinX1 : ∀ w ∈ wsX10, w ∈ wsX1_doubt := by decide +kernel
  have lk38 := hts (.fieldLink RX1 38 "HiddenCandles" "doubted" "[Z") (by decide +kernel)
  have hl := lv_entry ([.ref (ad 0), .int (v), .int (bI (is))]) (n := 4) (Nat.le_of_ble_eq_true rfl)
  rw [lg_entry_eq]
  generalize (lg_sl ([.ref (ad 0), .int (v), .int (bI (is))]) ++ List.replicate (4 - (lg_sl ([.ref (ad 0), .int (v), .int (bI (is))])).length) Slot.unset).toArray = ls at hl ⊢
  have hl : lv_has ls 4 [(0, .ref (ad 0)), (1, .int (v)), (2, .int (bI (is)))] := hl
  obtain ⟨H, eH⟩ : ∃ q, q = s.heap := ⟨_, rfl⟩
  obtain ⟨locs, eL⟩ : ∃ q : List Loc, q = [] := ⟨_, rfl⟩
  replace hP : va_P D vwCl (WX ad cI cZ c g hid code ans dbt opn ply hps wr) H := by rw [eH]; exact hP
  replace hS : va_S A s.heap H locs := by rw [eH, eL]; exact hS
  rw [show W p l e _ s m _ below meth c9 s.heap [] = W p l e _ s m _ below meth c9 H locs from by rw [eH, eL]]
  clear eH eL
  obtain ⟨hc, hg, hco, hhid, hop⟩ := id hI
  have hq := qq_in hc
  have hop2 := op_lt hop
  refine lv_aload_n hx hb dX1_doubt_0 rfl (lv_at hl 0 rfl) ?_
  refine lv_iload_n hx hb dX1_doubt_1 rfl (lv_at hl 1 rfl) ?_
  refine x_csi (va_runV (As := [.int (v)]) (rest := []) ⟨hx, hb, hml, hown, hts⟩ (c_X1_hasGuess l D cI cZ cG cJ A ad wr hpal c g hid code ans dbt opn ply hps v (hg)) (cwV 1 hts gX1_doubt_X1_hasGuess rfl rfl rfl (by decide +kernel) ⟨Nat.le_of_ble_eq_true rfl, Nat.le_of_ble_eq_true rfl⟩) (preV (ci := 1) (q0 := 0) hB hS hP hD rfl rfl) rfl rfl hl.1 rfl (lv_room (Nat.le_of_ble_eq_true rfl)) dX1_doubt_2 ⟨Nat.le_of_ble_eq_true rfl, Nat.le_of_ble_eq_true rfl⟩) ?_
  refine x_zne (tgt := 18) hx hb dX1_doubt_5 (by decide) (fun c5 => ?_) (fun c5 => ?_)
  · skip
    obtain ⟨i, hi, rfl⟩ := gsC_of hg c5
    refine lv_aload_n hx hb dX1_doubt_18 rfl (lv_at hl 0 rfl) ?_
    refine va_get (D := D) (ci := 1) (v := .ref (ad 3)) (C := RX1) (T := TX1) (N := 11) hx hb hts hinX1 hown hK hP 0 rfl rfl 7 (by decide) lk38 (fun _ h9 => h9) rfl dX1_doubt_19 ?_
    refine lv_iload_n hx hb dX1_doubt_22 rfl (lv_at hl 1 rfl) ?_
    refine x_zald hx hb hK hP 3 1 rfl rfl (i := i) (by omega) (by omega) dX1_doubt_23 ?_
    refine lv_istore_n (lv' := [(3, .int (bI (dbt i))), (0, .ref (ad 0)), (1, .int (nI (i))), (2, .int (bI (is)))]) hx hb dX1_doubt_24 rfl hl (by decide) rfl (fun ls hl => ?_)
    refine lv_aload_n hx hb dX1_doubt_25 rfl (lv_at hl 1 rfl) ?_
    refine va_get (D := D) (ci := 1) (v := .ref (ad 3)) (C := RX1) (T := TX1) (N := 11) hx hb hts hinX1 hown hK hP 0 rfl rfl 7 (by decide) lk38 (fun _ h9 => h9) rfl dX1_doubt_26 ?_
    refine lv_iload_n hx hb dX1_doubt_29 rfl (lv_at hl 2 rfl) ?_
    refine lv_iload_n hx hb dX1_doubt_30 rfl (lv_at hl 3 rfl) ?_
    refine x_zast hx hb hK hP hD hS 3 1 rfl rfl (i := i) (v := is) (by omega) (by omega) dX1_doubt_31 (fun H locs hP hD hS => ?_)
    replace hP : va_P D vwCl (WX ad cI cZ c g hid code ans (va_up dbt i is) opn ply hps wr) H := hP
    replace hD : va_D A (WX ad cI cZ c g hid code ans (va_up dbt i is) opn ply hps wr) := hD
    refine lv_aload_n hx hb dX1_doubt_32 rfl (lv_at hl 1 rfl) ?_
    refine va_callv (va_runV (As := []) (rest := []) ⟨hx, hb, hml, hown, hts⟩ (c_X1_sieve l D cI cZ cG cJ A ad wr hpal c g hid code ans (va_up dbt i is) opn ply hps (hc) (hg) (hco)) (cwV 0 hts gX1_doubt_X1_sieve rfl rfl rfl (by decide +kernel) ⟨Nat.le_of_ble_eq_true rfl, Nat.le_of_ble_eq_true rfl⟩) (preV (ci := 1) (q0 := 0) hB hS hP hD rfl rfl) rfl rfl hl.1 rfl (lv_room (Nat.le_of_ble_eq_true rfl)) dX1_doubt_33 ⟨Nat.le_of_ble_eq_true rfl, Nat.le_of_ble_eq_true rfl⟩) hS (fun q _ h => h) (fun q h => h) (fun u_33 t9 H1 locs1 ht9 hvm9 hw_33 hBw hz9 hk9 hS => ?_)
    obtain ⟨hP, hD⟩ := hBw
    rw [ht9] at hP
    generalize H1 = H at hP hS ⊢
    generalize locs1 = locs at hS ⊢
    replace hP : va_P D vwCl (WX ad cI cZ c g hid code ans (va_up dbt i is) u_33 ply hps wr) H := hP
    replace hD : va_D A (WX ad cI cZ c g hid code ans (va_up dbt i is) u_33 ply hps wr) := hD
    refine lv_iload_n hx hb dX1_doubt_36 rfl (lv_at hl 0 rfl) ?_
    refine W.widen (k := 1) (n := 6) (Nat.le_of_ble_eq_true rfl) (Nat.le_of_ble_eq_true rfl) ?_
    exact vx_ret (W.zret (v := bI (dbt i)) hx hb hr (bI_narrow _) (fun t ht hW => ⟨⟨_, (i, u_33), rfl, (by
        exact ⟨rfl, hi, rfl, hw_33⟩), ⟨by rw [ht]; exact hP, hD⟩⟩, hS.F ht⟩) hS.2.2 dX1_doubt_37)
  · skip
    obtain ⟨sa9, hsa9⟩ := hB.2.2.2.2.2.1 (97, "no such guess") (by decide)
    have hat9 : ∀ w ∈ (vx_atS RX1 99 "java/lang/IndexOutOfBoundsException" ["java/lang/RuntimeException", "java/lang/Exception"]), w.before _ s = true := vx_hat (B := [.castable "java/lang/IndexOutOfBoundsException" "java/lang/IndexOutOfBoundsException", .declares (Bundle.initS "java/lang/RuntimeException"), .declares (Bundle.initS "java/lang/Exception"), .declares (Bundle.initS Bundle.tN)]) (fun w hw => hts w (by first | exact List.mem_cons_of_mem _ (List.mem_append_right _ hw) | exact List.mem_cons_of_mem _ (List.mem_append_left _ (List.mem_append_right _ hw)) | exact List.mem_cons_of_mem _ (List.mem_append_left _ (List.mem_append_left _ (List.mem_append_right _ hw))))) (by decide +kernel) (vx_c (va_Nw.use rfl (hB.2.2.2.2.1 _ (by simp [Nws]))) (vx_c (va_Nw.use rfl (hB.2.2.2.2.1 _ (by simp [Nws]))) (vx_c (va_Nw.use rfl (hB.2.2.2.2.1 _ (by simp [Nws]))) (vx_c (va_Nw.use rfl (hB.2.2.2.2.1 _ (by simp [Nws]))) vx_n))))
    exact vx_throwS (A := A) (names := ["java/lang/RuntimeException", "java/lang/Exception"]) (cls := "java/lang/IndexOutOfBoundsException") hx hb hflag hown (by decide +kernel) (by decide +kernel) (hts _ (by decide +kernel)) (hts _ (by decide +kernel)) hsa9 hat9 (by decide +kernel) hB.2.2.1 hB.2.2.2.1 hS (hl.1.trans hml.symm) dX1_doubt_8 dX1_doubt_11 dX1_doubt_12 dX1_doubt_14 dX1_doubt_17 (fun x hx9 => (hnt x hx9).elim) (Nat.le_of_ble_eq_true rfl) (Nat.le_of_ble_eq_true rfl) (Nat.le_of_ble_eq_true rfl) (Nat.le_of_ble_eq_true rfl) hlocks (fun t hvm hsz hk => ⟨(), trivial, ⟨(by
        exact ⟨rfl, c5⟩), ⟨va_P.kept hP (fun k q hk9 => hk _ (hP k q hk9).lt), hD⟩⟩, ⟨Nat.le_trans hS.1 hsz, fun q h1 h2 => (hk q (Nat.lt_of_lt_of_le h1 hS.1)).trans (hS.2.1 q h1 h2)⟩⟩) hS.2.2 (Nat.le_of_ble_eq_true rfl) (Nat.le_of_ble_eq_true rfl)

set_option maxHeartbeats 4000000 in
set_option maxRecDepth 100000 in
theorem c_X1_forget (l : Launch) (hfl : l.flags = flags0) (D : va_G) (cI cZ cG cJ : ClassId) (A : Nat → Prop) (ad : Nat → Nat) (wr : va_W) (hpal : Pals cI cG ad wr) (c : Nat) (g : Nat) (hid : Int32) (code : Nat → Nat) (ans : Nat → Nat) (dbt : Nat → Bool) (opn : Nat → Bool) (ply : Nat → Bool) (hps : Nat → Nat) (hI : XI c g hid code ans dbt opn) : vx_Met l yX1_forget wsX1_forget ({ frames := 6, cells := 1, slots := 6, locals := 87 }) (va_Pc [.ref (ad 0)] (Iv D (TY cI cZ cG cJ) A (WX ad cI cZ c g hid code ans dbt opn ply hps wr))) (va_Qi (fun r (u : Nat → Bool) => r = nI (code (g - 1)) ∧ 0 < g ∧ ∀ k, k < 81 → u k = opS c (g - 1) code ans dbt k) (fun u => Wd D A (WX ad cI cZ c (g - 1) hid code ans dbt u ply hps wr)) A) (Xw D A (WX ad cI cZ c g hid code ans dbt opn ply hps wr) (fun E => E = "java/lang/IllegalStateException" ∧ g = 0)) 1 6 A := by
  refine vx_ofW (cc := cX1_forget) (maxL := 2) (ret := (some .int)) (by decide) rfl ?_
  intro p e s m args below meth c9 s₁ B hml hnt hv
  obtain ⟨rfl, hP, hD, hB⟩ := hv
  have hK := hB.1
  have hA := hB.2.1
  have hx := B.exec
  have hb := B.bytes
  have hr := B.returns
  have hts := atoms_spec (ws := wsX1_forget) B.pre
  have hown : s.vm.findClass RX1 = some m.cls := findClass_of_methodNamed B.named
  have hlocks := B.notSynchronized
  have hS : va_S A s.heap s.heap [] := va_S.rf
  have hflag : l.stackTraces = false := by rw [Launch.stackTraces, hfl]; decide
  have hinX1 : ∀ w ∈ wsX10, w ∈ wsX1_forget := by decide +kernel
  have lk28 := hts (.fieldLink RX1 28 "HiddenCandles" "guesses" "I") (by decide +kernel)
  have lk31 := hts (.fieldLink RX1 31 "HiddenCandles" "guessed" "[I") (by decide +kernel)
  have hl := lv_entry ([.ref (ad 0)]) (n := 2) (Nat.le_of_ble_eq_true rfl)
  rw [lg_entry_eq]
  generalize (lg_sl ([.ref (ad 0)]) ++ List.replicate (2 - (lg_sl ([.ref (ad 0)])).length) Slot.unset).toArray = ls at hl ⊢
  have hl : lv_has ls 2 [(0, .ref (ad 0))] := hl
  obtain ⟨H, eH⟩ : ∃ q, q = s.heap := ⟨_, rfl⟩
  obtain ⟨locs, eL⟩ : ∃ q : List Loc, q = [] := ⟨_, rfl⟩
  replace hP : va_P D vwCl (WX ad cI cZ c g hid code ans dbt opn ply hps wr) H := by rw [eH]; exact hP
  replace hS : va_S A s.heap H locs := by rw [eH, eL]; exact hS
  rw [show W p l e _ s m _ below meth c9 s.heap [] = W p l e _ s m _ below meth c9 H locs from by rw [eH, eL]]
  clear eH eL
  obtain ⟨hc, hg, hco, hhid, hop⟩ := id hI
  have hq := qq_in hc
  have hop2 := op_lt hop
  refine lv_aload_n hx hb dX1_forget_0 rfl (lv_at hl 0 rfl) ?_
  refine va_get (D := D) (ci := 1) (v := .int (nI (g))) (C := RX1) (T := TX1) (N := 11) hx hb hts hinX1 hown hK hP 0 rfl rfl 4 (by decide) lk28 (fun _ h9 => h9) rfl dX1_forget_1 ?_
  refine lv_iconst (v := 1) hx hb dX1_forget_4 (by decide) ?_
  refine lv_isub hx hb dX1_forget_5  ?_
  refine x_ti (y := nI g - 1) (rfl) ?_
  refine lv_istore_n (lv' := [(1, .int (nI g - 1)), (0, .ref (ad 0))]) hx hb dX1_forget_6 rfl hl (by decide) rfl (fun ls hl => ?_)
  refine lv_aload_n hx hb dX1_forget_7 rfl (lv_at hl 1 rfl) ?_
  refine lv_iload_n hx hb dX1_forget_8 rfl (lv_at hl 0 rfl) ?_
  refine x_csi (va_runV (As := [.int (nI g - 1)]) (rest := []) ⟨hx, hb, hml, hown, hts⟩ (c_X1_hasGuess l D cI cZ cG cJ A ad wr hpal c g hid code ans dbt opn ply hps (nI g - 1) (hg)) (cwV 1 hts gX1_forget_X1_hasGuess rfl rfl rfl (by decide +kernel) ⟨Nat.le_of_ble_eq_true rfl, Nat.le_of_ble_eq_true rfl⟩) (preV (ci := 1) (q0 := 0) hB hS hP hD rfl rfl) rfl rfl hl.1 rfl (lv_room (Nat.le_of_ble_eq_true rfl)) dX1_forget_9 ⟨Nat.le_of_ble_eq_true rfl, Nat.le_of_ble_eq_true rfl⟩) ?_
  refine x_ti (y := bI (decide (0 < g))) (by rw [gs_last hg]) ?_
  refine x_zne (tgt := 25) hx hb dX1_forget_12 (by decide) (fun c12 => ?_) (fun c12 => ?_)
  · skip
    have h0 : 0 < g := of_decide_eq_true c12
    rw [pk_sub1 h0] at hl
    refine lv_aload_n hx hb dX1_forget_25 rfl (lv_at hl 1 rfl) ?_
    refine lv_iload_n hx hb dX1_forget_26 rfl (lv_at hl 0 rfl) ?_
    refine va_put (D := D) (ci := 1) (v := .int (nI (g - 1))) (ty := .int) (C := RX1) (T := TX1) (N := 11) hx hb hts hinX1 tyX1 tyX1_ok nmX1 hown hK hP hD hS 0 rfl rfl 4 (by decide) lk28 (fun _ h9 => h9) rfl (by decide +kernel) rfl rfl (Nat.le_of_ble_eq_true rfl) dX1_forget_27 (fun H locs hP hD hS => ?_)
    replace hP : va_P D vwCl (WX ad cI cZ c (g - 1) hid code ans dbt opn ply hps wr) H := hP
    replace hD : va_D A (WX ad cI cZ c (g - 1) hid code ans dbt opn ply hps wr) := hD
    refine lv_aload_n hx hb dX1_forget_30 rfl (lv_at hl 1 rfl) ?_
    refine va_callv (va_runV (As := []) (rest := []) ⟨hx, hb, hml, hown, hts⟩ (c_X1_sieve l D cI cZ cG cJ A ad wr hpal c (g - 1) hid code ans dbt opn ply hps (hc) (by omega) (code_dn hco)) (cwV 0 hts gX1_forget_X1_sieve rfl rfl rfl (by decide +kernel) ⟨Nat.le_of_ble_eq_true rfl, Nat.le_of_ble_eq_true rfl⟩) (preV (ci := 1) (q0 := 0) hB hS hP hD rfl rfl) rfl rfl hl.1 rfl (lv_room (Nat.le_of_ble_eq_true rfl)) dX1_forget_31 ⟨Nat.le_of_ble_eq_true rfl, Nat.le_of_ble_eq_true rfl⟩) hS (fun q _ h => h) (fun q h => h) (fun u_31 t9 H1 locs1 ht9 hvm9 hw_31 hBw hz9 hk9 hS => ?_)
    obtain ⟨hP, hD⟩ := hBw
    rw [ht9] at hP
    generalize H1 = H at hP hS ⊢
    generalize locs1 = locs at hS ⊢
    replace hP : va_P D vwCl (WX ad cI cZ c (g - 1) hid code ans dbt u_31 ply hps wr) H := hP
    replace hD : va_D A (WX ad cI cZ c (g - 1) hid code ans dbt u_31 ply hps wr) := hD
    refine lv_aload_n hx hb dX1_forget_34 rfl (lv_at hl 1 rfl) ?_
    refine va_get (D := D) (ci := 1) (v := .ref (ad 1)) (C := RX1) (T := TX1) (N := 11) hx hb hts hinX1 hown hK hP 0 rfl rfl 5 (by decide) lk31 (fun _ h9 => h9) rfl dX1_forget_35 ?_
    refine lv_iload_n hx hb dX1_forget_38 rfl (lv_at hl 0 rfl) ?_
    refine x_iald hx hb hK hP 1 0 rfl rfl (i := g - 1) (by omega) (by omega) dX1_forget_39 ?_
    refine W.widen (k := 1) (n := 6) (Nat.le_of_ble_eq_true rfl) (Nat.le_of_ble_eq_true rfl) ?_
    exact vx_ret (W.iret (v := nI (code (g - 1))) hx hb hr (fun t ht hW => ⟨⟨_, u_31, rfl, (by
        exact ⟨rfl, h0, hw_31⟩), ⟨by rw [ht]; exact hP, hD⟩⟩, hS.F ht⟩) hS.2.2 dX1_forget_40)
  · skip
    obtain ⟨sa9, hsa9⟩ := hB.2.2.2.2.2.1 (102, "there is no guess") (by decide)
    have hat9 : ∀ w ∈ (vx_atS RX1 104 "java/lang/IllegalStateException" ["java/lang/RuntimeException", "java/lang/Exception"]), w.before _ s = true := vx_hat (B := [.castable "java/lang/IllegalStateException" "java/lang/IllegalStateException", .declares (Bundle.initS "java/lang/RuntimeException"), .declares (Bundle.initS "java/lang/Exception"), .declares (Bundle.initS Bundle.tN)]) (fun w hw => hts w (by first | exact List.mem_cons_of_mem _ (List.mem_append_right _ hw) | exact List.mem_cons_of_mem _ (List.mem_append_left _ (List.mem_append_right _ hw)) | exact List.mem_cons_of_mem _ (List.mem_append_left _ (List.mem_append_left _ (List.mem_append_right _ hw))))) (by decide +kernel) (vx_c (va_Nw.use rfl (hB.2.2.2.2.1 _ (by simp [Nws]))) (vx_c (va_Nw.use rfl (hB.2.2.2.2.1 _ (by simp [Nws]))) (vx_c (va_Nw.use rfl (hB.2.2.2.2.1 _ (by simp [Nws]))) (vx_c (va_Nw.use rfl (hB.2.2.2.2.1 _ (by simp [Nws]))) vx_n))))
    exact vx_throwS (A := A) (names := ["java/lang/RuntimeException", "java/lang/Exception"]) (cls := "java/lang/IllegalStateException") hx hb hflag hown (by decide +kernel) (by decide +kernel) (hts _ (by decide +kernel)) (hts _ (by decide +kernel)) hsa9 hat9 (by decide +kernel) hB.2.2.1 hB.2.2.2.1 hS (hl.1.trans hml.symm) dX1_forget_15 dX1_forget_18 dX1_forget_19 dX1_forget_21 dX1_forget_24 (fun x hx9 => (hnt x hx9).elim) (Nat.le_of_ble_eq_true rfl) (Nat.le_of_ble_eq_true rfl) (Nat.le_of_ble_eq_true rfl) (Nat.le_of_ble_eq_true rfl) hlocks (fun t hvm hsz hk => ⟨(), trivial, ⟨(by
        exact ⟨rfl, by have := of_decide_eq_false c12; omega⟩), ⟨va_P.kept hP (fun k q hk9 => hk _ (hP k q hk9).lt), hD⟩⟩, ⟨Nat.le_trans hS.1 hsz, fun q h1 h2 => (hk q (Nat.lt_of_lt_of_le h1 hS.1)).trans (hS.2.1 q h1 h2)⟩⟩) hS.2.2 (Nat.le_of_ble_eq_true rfl) (Nat.le_of_ble_eq_true rfl)

set_option maxHeartbeats 4000000 in
set_option maxRecDepth 100000 in
theorem c_X1_colour (l : Launch) (hfl : l.flags = flags0) (D : va_G) (cI cZ cG cJ : ClassId) (A : Nat → Prop) (ad : Nat → Nat) (wr : va_W) (hpal : Pals cI cG ad wr) (c : Nat) (g : Nat) (hid : Int32) (code : Nat → Nat) (ans : Nat → Nat) (dbt : Nat → Bool) (opn : Nat → Bool) (ply : Nat → Bool) (hps : Nat → Nat) (v : Int32) (pl : Int32) (hI : XI c g hid code ans dbt opn) : vx_Met l yX1_colour wsX1_colour ({ frames := 7, cells := 2, slots := 12, locals := 103 }) (va_Pc [.ref (ad 0), .int (v), .int (pl)] (Iv D (TY cI cZ cG cJ) A (WX ad cI cZ c g hid code ans dbt opn ply hps wr))) (va_Qi (fun r (u : Nat × Nat) => r = nI (col c u.1 u.2) ∧ u.1 < qq c ∧ v = nI u.1 ∧ u.2 < 4 ∧ pl = nI u.2) (fun u => Wd D A (WX ad cI cZ c g hid code ans dbt opn ply hps wr)) A) (Xw D A (WX ad cI cZ c g hid code ans dbt opn ply hps wr) (fun E => E = "java/lang/IndexOutOfBoundsException" ∧ (hasC c v = false ∨ plC pl = false))) 2 12 A := by
  refine vx_ofW (cc := cX1_colour) (maxL := 3) (ret := (some .int)) (by decide) rfl ?_
  intro p e s m args below meth c9 s₁ B hml hnt hv
  obtain ⟨rfl, hP, hD, hB⟩ := hv
  have hK := hB.1
  have hA := hB.2.1
  have hx := B.exec
  have hb := B.bytes
  have hr := B.returns
  have hts := atoms_spec (ws := wsX1_colour) B.pre
  have hown : s.vm.findClass RX1 = some m.cls := findClass_of_methodNamed B.named
  have hlocks := B.notSynchronized
  have hS : va_S A s.heap s.heap [] := va_S.rf
  have hflag : l.stackTraces = false := by rw [Launch.stackTraces, hfl]; decide
  have hinX1 : ∀ w ∈ wsX10, w ∈ wsX1_colour := by decide +kernel
  have lk21 := hts (.fieldLink RX1 21 "HiddenCandles" "palette" "LHiddenCandles$Palette;") (by decide +kernel)
  have hl := lv_entry ([.ref (ad 0), .int (v), .int (pl)]) (n := 3) (Nat.le_of_ble_eq_true rfl)
  rw [lg_entry_eq]
  generalize (lg_sl ([.ref (ad 0), .int (v), .int (pl)]) ++ List.replicate (3 - (lg_sl ([.ref (ad 0), .int (v), .int (pl)])).length) Slot.unset).toArray = ls at hl ⊢
  have hl : lv_has ls 3 [(0, .ref (ad 0)), (1, .int (v)), (2, .int (pl))] := hl
  obtain ⟨H, eH⟩ : ∃ q, q = s.heap := ⟨_, rfl⟩
  obtain ⟨locs, eL⟩ : ∃ q : List Loc, q = [] := ⟨_, rfl⟩
  replace hP : va_P D vwCl (WX ad cI cZ c g hid code ans dbt opn ply hps wr) H := by rw [eH]; exact hP
  replace hS : va_S A s.heap H locs := by rw [eH, eL]; exact hS
  rw [show W p l e _ s m _ below meth c9 s.heap [] = W p l e _ s m _ below meth c9 H locs from by rw [eH, eL]]
  clear eH eL
  obtain ⟨hc, hg, hco, hhid, hop⟩ := id hI
  have hq := qq_in hc
  have hop2 := op_lt hop
  refine lv_aload_n hx hb dX1_colour_0 rfl (lv_at hl 0 rfl) ?_
  refine lv_iload_n hx hb dX1_colour_1 rfl (lv_at hl 1 rfl) ?_
  refine vx_callv (vx_runV (As := [.int (v)]) (rest := []) ⟨hx, hb, hml, hown, hts⟩ (c_X1_needCode l hfl D cI cZ cG cJ A ad wr hpal c g hid code ans dbt opn ply hps v (hc)) (cwV 1 hts gX1_colour_X1_needCode rfl rfl rfl (by decide +kernel) ⟨Nat.le_of_ble_eq_true rfl, Nat.le_of_ble_eq_true rfl⟩) (preV (ci := 1) (q0 := 0) hB hS hP hD rfl rfl) rfl rfl hl.1 rfl (lv_room (Nat.le_of_ble_eq_true rfl)) dX1_colour_2 ⟨Nat.le_of_ble_eq_true rfl, Nat.le_of_ble_eq_true rfl⟩) hS (fun q _ h => h) (fun q h => h) (fun q _ h => h) (fun E ce q9 u9 t9 H1 locs1 ht9 hvm9 hpx8 hBx hz9 hk9 hS hq9 hv9 hcl9 => ?_) (fun u_2 t9 H1 locs1 ht9 hvm9 hw_2 hBw hz9 hk9 hS => ?_)
  · obtain ⟨hpx9, hP1, hD1⟩ := hBx
    rw [ht9] at hP1
    exact vx_out (fun x hx9 => (hnt x hx9).elim) hlocks hq9 hv9 hcl9 (fun t ht hvm => ⟨(), trivial, ⟨(by
        exact ⟨hpx9.1, Or.inl hpx9.2⟩), by rw [ht]; exact hP1, hD1⟩, hS.F ht⟩) hS.2.2 (by omega) (by omega)
  obtain ⟨hP, hD⟩ := hBw
  rw [ht9] at hP
  generalize H1 = H at hP hS ⊢
  generalize locs1 = locs at hS ⊢
  replace hP : va_P D vwCl (WX ad cI cZ c g hid code ans dbt opn ply hps wr) H := hP
  replace hD : va_D A (WX ad cI cZ c g hid code ans dbt opn ply hps wr) := hD
  obtain ⟨k, hk, rfl⟩ := hasC_of hc hw_2
  refine lv_iload_n hx hb dX1_colour_5 rfl (lv_at hl 2 rfl) ?_
  refine vx_callv (vx_runS (As := [.int (pl)]) (rest := []) ⟨hx, hb, hml, hown, hts⟩ (c_X1_needPlace l hfl D cI cZ cG cJ A (WX ad cI cZ c g hid code ans dbt opn ply hps wr) pl ) (va_cwS 1 hts gX1_colour_X1_needPlace rfl rfl rfl (by decide +kernel) ⟨Nat.le_of_ble_eq_true rfl, Nat.le_of_ble_eq_true rfl⟩) (preS hB hS hP hD) rfl rfl hl.1 rfl (lv_room (Nat.le_of_ble_eq_true rfl)) dX1_colour_6 ⟨Nat.le_of_ble_eq_true rfl, Nat.le_of_ble_eq_true rfl⟩) hS (fun q _ h => h) (fun q h => h) (fun q _ h => h) (fun E ce q9 u9 t9 H1 locs1 ht9 hvm9 hpx8 hBx hz9 hk9 hS hq9 hv9 hcl9 => ?_) (fun u_6 t9 H1 locs1 ht9 hvm9 hw_6 hBw hz9 hk9 hS => ?_)
  · obtain ⟨hpx9, hP1, hD1⟩ := hBx
    rw [ht9] at hP1
    exact vx_out (fun x hx9 => (hnt x hx9).elim) hlocks hq9 hv9 hcl9 (fun t ht hvm => ⟨(), trivial, ⟨(by
        exact ⟨hpx9.1, Or.inr hpx9.2⟩), by rw [ht]; exact hP1, hD1⟩, hS.F ht⟩) hS.2.2 (by omega) (by omega)
  obtain ⟨hP, hD⟩ := hBw
  rw [ht9] at hP
  generalize H1 = H at hP hS ⊢
  generalize locs1 = locs at hS ⊢
  replace hP : va_P D vwCl (WX ad cI cZ c g hid code ans dbt opn ply hps wr) H := hP
  replace hD : va_D A (WX ad cI cZ c g hid code ans dbt opn ply hps wr) := hD
  obtain ⟨p0, hp, rfl⟩ := plC_of hw_6
  refine lv_aload_n hx hb dX1_colour_9 rfl (lv_at hl 0 rfl) ?_
  refine va_get (D := D) (ci := 1) (v := .ref (pal ad c)) (C := RX1) (T := TX1) (N := 11) hx hb hts hinX1 hown hK hP 0 rfl rfl 2 (by decide) lk21 (fun _ h9 => h9) rfl dX1_colour_10 ?_
  refine lv_iload_n hx hb dX1_colour_13 rfl (lv_at hl 1 rfl) ?_
  refine lv_iload_n hx hb dX1_colour_14 rfl (lv_at hl 2 rfl) ?_
  refine x_csi (va_runVN (As := [.int (nI (k)), .int (nI (p0))]) (rest := []) ⟨hx, hb, hml, hown, hts⟩ (c_X0_colourOf l D cI cZ cG cJ A (WX ad cI cZ c g hid code ans dbt opn ply hps wr) (pal ad c) c k p0 (palX hpal hc) (hc) (hk) (hp)) ⟨va_cnB (host := RX1) 2 hts gX1_colour_X0_colourOf_n73 rfl rfl rfl (hB.2.2.2.2.1 _ (by simp [Nws])) (hts _ (by decide +kernel)) (by decide +kernel) ⟨Nat.le_of_ble_eq_true rfl, Nat.le_of_ble_eq_true rfl⟩, hts _ (by decide +kernel), hts _ (by decide +kernel)⟩ (prePal hB hS hP hD (palX hpal hc)) rfl rfl hl.1 rfl (lv_room (Nat.le_of_ble_eq_true rfl)) dX1_colour_15 ⟨Nat.le_of_ble_eq_true rfl, Nat.le_of_ble_eq_true rfl⟩) ?_
  have hcl := col_lt hc (k) (p0)
  refine W.widen (k := 2) (n := 12) (Nat.le_of_ble_eq_true rfl) (Nat.le_of_ble_eq_true rfl) ?_
  exact vx_ret (W.iret (v := nI (col c k p0)) hx hb hr (fun t ht hW => ⟨⟨_, (k, p0), rfl, (by
      exact ⟨rfl, hk, rfl, hp, rfl⟩), ⟨by rw [ht]; exact hP, hD⟩⟩, hS.F ht⟩) hS.2.2 dX1_colour_18)

set_option maxHeartbeats 4000000 in
set_option maxRecDepth 100000 in
theorem c_X1_pins (l : Launch) (hfl : l.flags = flags0) (D : va_G) (cI cZ cG cJ : ClassId) (A : Nat → Prop) (ad : Nat → Nat) (wr : va_W) (hpal : Pals cI cG ad wr) (c : Nat) (g : Nat) (hid : Int32) (code : Nat → Nat) (ans : Nat → Nat) (dbt : Nat → Bool) (opn : Nat → Bool) (ply : Nat → Bool) (hps : Nat → Nat) (a : Int32) (b : Int32) (hI : XI c g hid code ans dbt opn) : vx_Met l yX1_pins wsX1_pins ({ frames := 7, cells := 2, slots := 12, locals := 103 }) (va_Pc [.ref (ad 0), .int (a), .int (b)] (Iv D (TY cI cZ cG cJ) A (WX ad cI cZ c g hid code ans dbt opn ply hps wr))) (va_Qi (fun r (u : Nat × Nat) => r = nI (pins c u.1 u.2) ∧ u.1 < qq c ∧ a = nI u.1 ∧ u.2 < qq c ∧ b = nI u.2) (fun u => Wd D A (WX ad cI cZ c g hid code ans dbt opn ply hps wr)) A) (Xw D A (WX ad cI cZ c g hid code ans dbt opn ply hps wr) (fun E => E = "java/lang/IndexOutOfBoundsException" ∧ (hasC c a = false ∨ hasC c b = false))) 2 12 A := by
  refine vx_ofW (cc := cX1_pins) (maxL := 3) (ret := (some .int)) (by decide) rfl ?_
  intro p e s m args below meth c9 s₁ B hml hnt hv
  obtain ⟨rfl, hP, hD, hB⟩ := hv
  have hK := hB.1
  have hA := hB.2.1
  have hx := B.exec
  have hb := B.bytes
  have hr := B.returns
  have hts := atoms_spec (ws := wsX1_pins) B.pre
  have hown : s.vm.findClass RX1 = some m.cls := findClass_of_methodNamed B.named
  have hlocks := B.notSynchronized
  have hS : va_S A s.heap s.heap [] := va_S.rf
  have hflag : l.stackTraces = false := by rw [Launch.stackTraces, hfl]; decide
  have hinX1 : ∀ w ∈ wsX10, w ∈ wsX1_pins := by decide +kernel
  have lk21 := hts (.fieldLink RX1 21 "HiddenCandles" "palette" "LHiddenCandles$Palette;") (by decide +kernel)
  have hl := lv_entry ([.ref (ad 0), .int (a), .int (b)]) (n := 3) (Nat.le_of_ble_eq_true rfl)
  rw [lg_entry_eq]
  generalize (lg_sl ([.ref (ad 0), .int (a), .int (b)]) ++ List.replicate (3 - (lg_sl ([.ref (ad 0), .int (a), .int (b)])).length) Slot.unset).toArray = ls at hl ⊢
  have hl : lv_has ls 3 [(0, .ref (ad 0)), (1, .int (a)), (2, .int (b))] := hl
  obtain ⟨H, eH⟩ : ∃ q, q = s.heap := ⟨_, rfl⟩
  obtain ⟨locs, eL⟩ : ∃ q : List Loc, q = [] := ⟨_, rfl⟩
  replace hP : va_P D vwCl (WX ad cI cZ c g hid code ans dbt opn ply hps wr) H := by rw [eH]; exact hP
  replace hS : va_S A s.heap H locs := by rw [eH, eL]; exact hS
  rw [show W p l e _ s m _ below meth c9 s.heap [] = W p l e _ s m _ below meth c9 H locs from by rw [eH, eL]]
  clear eH eL
  obtain ⟨hc, hg, hco, hhid, hop⟩ := id hI
  have hq := qq_in hc
  have hop2 := op_lt hop
  refine lv_aload_n hx hb dX1_pins_0 rfl (lv_at hl 0 rfl) ?_
  refine lv_iload_n hx hb dX1_pins_1 rfl (lv_at hl 1 rfl) ?_
  refine vx_callv (vx_runV (As := [.int (a)]) (rest := []) ⟨hx, hb, hml, hown, hts⟩ (c_X1_needCode l hfl D cI cZ cG cJ A ad wr hpal c g hid code ans dbt opn ply hps a (hc)) (cwV 1 hts gX1_pins_X1_needCode rfl rfl rfl (by decide +kernel) ⟨Nat.le_of_ble_eq_true rfl, Nat.le_of_ble_eq_true rfl⟩) (preV (ci := 1) (q0 := 0) hB hS hP hD rfl rfl) rfl rfl hl.1 rfl (lv_room (Nat.le_of_ble_eq_true rfl)) dX1_pins_2 ⟨Nat.le_of_ble_eq_true rfl, Nat.le_of_ble_eq_true rfl⟩) hS (fun q _ h => h) (fun q h => h) (fun q _ h => h) (fun E ce q9 u9 t9 H1 locs1 ht9 hvm9 hpx8 hBx hz9 hk9 hS hq9 hv9 hcl9 => ?_) (fun u_2 t9 H1 locs1 ht9 hvm9 hw_2 hBw hz9 hk9 hS => ?_)
  · obtain ⟨hpx9, hP1, hD1⟩ := hBx
    rw [ht9] at hP1
    exact vx_out (fun x hx9 => (hnt x hx9).elim) hlocks hq9 hv9 hcl9 (fun t ht hvm => ⟨(), trivial, ⟨(by
        exact ⟨hpx9.1, Or.inl hpx9.2⟩), by rw [ht]; exact hP1, hD1⟩, hS.F ht⟩) hS.2.2 (by omega) (by omega)
  obtain ⟨hP, hD⟩ := hBw
  rw [ht9] at hP
  generalize H1 = H at hP hS ⊢
  generalize locs1 = locs at hS ⊢
  replace hP : va_P D vwCl (WX ad cI cZ c g hid code ans dbt opn ply hps wr) H := hP
  replace hD : va_D A (WX ad cI cZ c g hid code ans dbt opn ply hps wr) := hD
  obtain ⟨k, hk, rfl⟩ := hasC_of hc hw_2
  refine lv_aload_n hx hb dX1_pins_5 rfl (lv_at hl 0 rfl) ?_
  refine lv_iload_n hx hb dX1_pins_6 rfl (lv_at hl 2 rfl) ?_
  refine vx_callv (vx_runV (As := [.int (b)]) (rest := []) ⟨hx, hb, hml, hown, hts⟩ (c_X1_needCode l hfl D cI cZ cG cJ A ad wr hpal c g hid code ans dbt opn ply hps b (hc)) (cwV 1 hts gX1_pins_X1_needCode rfl rfl rfl (by decide +kernel) ⟨Nat.le_of_ble_eq_true rfl, Nat.le_of_ble_eq_true rfl⟩) (preV (ci := 1) (q0 := 0) hB hS hP hD rfl rfl) rfl rfl hl.1 rfl (lv_room (Nat.le_of_ble_eq_true rfl)) dX1_pins_7 ⟨Nat.le_of_ble_eq_true rfl, Nat.le_of_ble_eq_true rfl⟩) hS (fun q _ h => h) (fun q h => h) (fun q _ h => h) (fun E ce q9 u9 t9 H1 locs1 ht9 hvm9 hpx8 hBx hz9 hk9 hS hq9 hv9 hcl9 => ?_) (fun u_7 t9 H1 locs1 ht9 hvm9 hw_7 hBw hz9 hk9 hS => ?_)
  · obtain ⟨hpx9, hP1, hD1⟩ := hBx
    rw [ht9] at hP1
    exact vx_out (fun x hx9 => (hnt x hx9).elim) hlocks hq9 hv9 hcl9 (fun t ht hvm => ⟨(), trivial, ⟨(by
        exact ⟨hpx9.1, Or.inr hpx9.2⟩), by rw [ht]; exact hP1, hD1⟩, hS.F ht⟩) hS.2.2 (by omega) (by omega)
  obtain ⟨hP, hD⟩ := hBw
  rw [ht9] at hP
  generalize H1 = H at hP hS ⊢
  generalize locs1 = locs at hS ⊢
  replace hP : va_P D vwCl (WX ad cI cZ c g hid code ans dbt opn ply hps wr) H := hP
  replace hD : va_D A (WX ad cI cZ c g hid code ans dbt opn ply hps wr) := hD
  obtain ⟨k2, hk2, rfl⟩ := hasC_of hc hw_7
  refine lv_aload_n hx hb dX1_pins_10 rfl (lv_at hl 0 rfl) ?_
  refine va_get (D := D) (ci := 1) (v := .ref (pal ad c)) (C := RX1) (T := TX1) (N := 11) hx hb hts hinX1 hown hK hP 0 rfl rfl 2 (by decide) lk21 (fun _ h9 => h9) rfl dX1_pins_11 ?_
  refine lv_iload_n hx hb dX1_pins_14 rfl (lv_at hl 1 rfl) ?_
  refine lv_iload_n hx hb dX1_pins_15 rfl (lv_at hl 2 rfl) ?_
  refine x_csi (va_runVN (As := [.int (nI (k)), .int (nI (k2))]) (rest := []) ⟨hx, hb, hml, hown, hts⟩ (c_X0_answerTo l D cI cZ cG cJ A (WX ad cI cZ c g hid code ans dbt opn ply hps wr) (pal ad c) c k k2 (palX hpal hc) (hc) (hk) (hk2)) ⟨va_cnB (host := RX1) 2 hts gX1_pins_X0_answerTo_n77 rfl rfl rfl (hB.2.2.2.2.1 _ (by simp [Nws])) (hts _ (by decide +kernel)) (by decide +kernel) ⟨Nat.le_of_ble_eq_true rfl, Nat.le_of_ble_eq_true rfl⟩, hts _ (by decide +kernel), hts _ (by decide +kernel)⟩ (prePal hB hS hP hD (palX hpal hc)) rfl rfl hl.1 rfl (lv_room (Nat.le_of_ble_eq_true rfl)) dX1_pins_16 ⟨Nat.le_of_ble_eq_true rfl, Nat.le_of_ble_eq_true rfl⟩) ?_
  have hpi := pins_le hc (hk) (hk2)
  refine W.widen (k := 2) (n := 12) (Nat.le_of_ble_eq_true rfl) (Nat.le_of_ble_eq_true rfl) ?_
  exact vx_ret (W.iret (v := nI (pins c k k2)) hx hb hr (fun t ht hW => ⟨⟨_, (k, k2), rfl, (by
      exact ⟨rfl, hk, rfl, hk2, rfl⟩), ⟨by rw [ht]; exact hP, hD⟩⟩, hS.F ht⟩) hS.2.2 dX1_pins_19)

set_option maxHeartbeats 4000000 in
set_option maxRecDepth 100000 in
theorem c_X1_told (l : Launch) (hfl : l.flags = flags0) (D : va_G) (cI cZ cG cJ : ClassId) (A : Nat → Prop) (ad : Nat → Nat) (wr : va_W) (hpal : Pals cI cG ad wr) (c : Nat) (g : Nat) (hid : Int32) (code : Nat → Nat) (ans : Nat → Nat) (dbt : Nat → Bool) (opn : Nat → Bool) (ply : Nat → Bool) (hps : Nat → Nat) (v : Int32) (w : Int32) (hI : XI c g hid code ans dbt opn) : vx_Met l yX1_told wsX1_told ({ frames := 6, cells := 1, slots := 6, locals := 89 }) (va_Pc [.ref (ad 0), .int (v), .int (w)] (Iv D (TY cI cZ cG cJ) A (WX ad cI cZ c g hid code ans dbt opn ply hps wr))) (va_Qi (fun r (u : Nat × Nat) => r = nI (tldV c code ans dbt u.1 u.2) ∧ u.1 < g ∧ v = nI u.1 ∧ u.2 < 6 ∧ w = nI u.2) (fun u => Wd D A (WX ad cI cZ c g hid code ans dbt opn ply hps wr)) A) (Xw D A (WX ad cI cZ c g hid code ans dbt opn ply hps wr) (fun E => E = "java/lang/IndexOutOfBoundsException" ∧ (gsC g v = false ∨ rgC 6 w = false))) 1 6 A := by
  refine vx_ofW (cc := cX1_told) (maxL := 3) (ret := (some .int)) (by decide) rfl ?_
  intro p e s m args below meth c9 s₁ B hml hnt hv
  obtain ⟨rfl, hP, hD, hB⟩ := hv
  have hK := hB.1
  have hA := hB.2.1
  have hx := B.exec
  have hb := B.bytes
  have hr := B.returns
  have hts := atoms_spec (ws := wsX1_told) B.pre
  have hown : s.vm.findClass RX1 = some m.cls := findClass_of_methodNamed B.named
  have hlocks := B.notSynchronized
  have hS : va_S A s.heap s.heap [] := va_S.rf
  have hflag : l.stackTraces = false := by rw [Launch.stackTraces, hfl]; decide
  have hinX1 : ∀ w ∈ wsX10, w ∈ wsX1_told := by decide +kernel
  have lk31 := hts (.fieldLink RX1 31 "HiddenCandles" "guessed" "[I") (by decide +kernel)
  have lk35 := hts (.fieldLink RX1 35 "HiddenCandles" "answers" "[I") (by decide +kernel)
  have lk38 := hts (.fieldLink RX1 38 "HiddenCandles" "doubted" "[Z") (by decide +kernel)
  have hl := lv_entry ([.ref (ad 0), .int (v), .int (w)]) (n := 3) (Nat.le_of_ble_eq_true rfl)
  rw [lg_entry_eq]
  generalize (lg_sl ([.ref (ad 0), .int (v), .int (w)]) ++ List.replicate (3 - (lg_sl ([.ref (ad 0), .int (v), .int (w)])).length) Slot.unset).toArray = ls at hl ⊢
  have hl : lv_has ls 3 [(0, .ref (ad 0)), (1, .int (v)), (2, .int (w))] := hl
  obtain ⟨H, eH⟩ : ∃ q, q = s.heap := ⟨_, rfl⟩
  obtain ⟨locs, eL⟩ : ∃ q : List Loc, q = [] := ⟨_, rfl⟩
  replace hP : va_P D vwCl (WX ad cI cZ c g hid code ans dbt opn ply hps wr) H := by rw [eH]; exact hP
  replace hS : va_S A s.heap H locs := by rw [eH, eL]; exact hS
  rw [show W p l e _ s m _ below meth c9 s.heap [] = W p l e _ s m _ below meth c9 H locs from by rw [eH, eL]]
  clear eH eL
  obtain ⟨hc, hg, hco, hhid, hop⟩ := id hI
  have hq := qq_in hc
  have hop2 := op_lt hop
  refine lv_aload_n hx hb dX1_told_0 rfl (lv_at hl 0 rfl) ?_
  refine lv_iload_n hx hb dX1_told_1 rfl (lv_at hl 1 rfl) ?_
  refine x_csi (va_runV (As := [.int (v)]) (rest := []) ⟨hx, hb, hml, hown, hts⟩ (c_X1_hasGuess l D cI cZ cG cJ A ad wr hpal c g hid code ans dbt opn ply hps v (hg)) (cwV 1 hts gX1_told_X1_hasGuess rfl rfl rfl (by decide +kernel) ⟨Nat.le_of_ble_eq_true rfl, Nat.le_of_ble_eq_true rfl⟩) (preV (ci := 1) (q0 := 0) hB hS hP hD rfl rfl) rfl rfl hl.1 rfl (lv_room (Nat.le_of_ble_eq_true rfl)) dX1_told_2 ⟨Nat.le_of_ble_eq_true rfl, Nat.le_of_ble_eq_true rfl⟩) ?_
  refine x_zne (tgt := 18) hx hb dX1_told_5 (by decide) (fun c5 => ?_) (fun c5 => ?_)
  · skip
    obtain ⟨i, hi, rfl⟩ := gsC_of hg c5
    refine lv_iload_n hx hb dX1_told_18 rfl (lv_at hl 2 rfl) ?_
    rcases sw_cases (w) 6 5 (by decide) (by decide) with hsw | ⟨j9, hj9, hwj⟩
    · refine lv_tableOut (tgt := 121) hx hb dX1_told_19 hsw (by decide) ?_
      obtain ⟨sa9, hsa9⟩ := hB.2.2.2.2.2.1 (112, "what is told of a guess is 0 to 5") (by decide)
      have hat9 : ∀ w ∈ (vx_atS RX1 99 "java/lang/IndexOutOfBoundsException" ["java/lang/RuntimeException", "java/lang/Exception"]), w.before _ s = true := vx_hat (B := [.castable "java/lang/IndexOutOfBoundsException" "java/lang/IndexOutOfBoundsException", .declares (Bundle.initS "java/lang/RuntimeException"), .declares (Bundle.initS "java/lang/Exception"), .declares (Bundle.initS Bundle.tN)]) (fun w hw => hts w (by first | exact List.mem_cons_of_mem _ (List.mem_append_right _ hw) | exact List.mem_cons_of_mem _ (List.mem_append_left _ (List.mem_append_right _ hw)) | exact List.mem_cons_of_mem _ (List.mem_append_left _ (List.mem_append_left _ (List.mem_append_right _ hw))))) (by decide +kernel) (vx_c (va_Nw.use rfl (hB.2.2.2.2.1 _ (by simp [Nws]))) (vx_c (va_Nw.use rfl (hB.2.2.2.2.1 _ (by simp [Nws]))) (vx_c (va_Nw.use rfl (hB.2.2.2.2.1 _ (by simp [Nws]))) (vx_c (va_Nw.use rfl (hB.2.2.2.2.1 _ (by simp [Nws]))) vx_n))))
      exact vx_throwS (A := A) (names := ["java/lang/RuntimeException", "java/lang/Exception"]) (cls := "java/lang/IndexOutOfBoundsException") hx hb hflag hown (by decide +kernel) (by decide +kernel) (hts _ (by decide +kernel)) (hts _ (by decide +kernel)) hsa9 hat9 (by decide +kernel) hB.2.2.1 hB.2.2.2.1 hS (hl.1.trans hml.symm) dX1_told_121 dX1_told_124 dX1_told_125 dX1_told_127 dX1_told_130 (fun x hx9 => (hnt x hx9).elim) (Nat.le_of_ble_eq_true rfl) (Nat.le_of_ble_eq_true rfl) (Nat.le_of_ble_eq_true rfl) (Nat.le_of_ble_eq_true rfl) hlocks (fun t hvm hsz hk => ⟨(), trivial, ⟨(by
          exact ⟨rfl, Or.inr (rgC_f (by decide) hsw)⟩), ⟨va_P.kept hP (fun k q hk9 => hk _ (hP k q hk9).lt), hD⟩⟩, ⟨Nat.le_trans hS.1 hsz, fun q h1 h2 => (hk q (Nat.lt_of_lt_of_le h1 hS.1)).trans (hS.2.1 q h1 h2)⟩⟩) hS.2.2 (Nat.le_of_ble_eq_true rfl) (Nat.le_of_ble_eq_true rfl)
    · obtain rfl | rfl | rfl | rfl | rfl | rfl : j9 = 0 ∨ j9 = 1 ∨ j9 = 2 ∨ j9 = 3 ∨ j9 = 4 ∨ j9 = 5 := by omega
      · refine x_ti (y := nI 0) hwj ?_
        refine lv_tableIn (tgt := 56) (off := 37) hx hb dX1_told_19 (by decide) (by decide) rfl (by decide) ?_
        refine lv_aload_n hx hb dX1_told_56 rfl (lv_at hl 0 rfl) ?_
        refine va_get (D := D) (ci := 1) (v := .ref (ad 1)) (C := RX1) (T := TX1) (N := 11) hx hb hts hinX1 hown hK hP 0 rfl rfl 5 (by decide) lk31 (fun _ h9 => h9) rfl dX1_told_57 ?_
        refine lv_iload_n hx hb dX1_told_60 rfl (lv_at hl 1 rfl) ?_
        refine x_iald hx hb hK hP 1 0 rfl rfl (i := i) (by omega) (by omega) dX1_told_61 ?_
        refine W.widen (k := 1) (n := 6) (Nat.le_of_ble_eq_true rfl) (Nat.le_of_ble_eq_true rfl) ?_
        exact vx_ret (W.iret (v := nI (code i)) hx hb hr (fun t ht hW => ⟨⟨_, (i, 0), rfl, (by
            exact ⟨rfl, hi, rfl, Nat.le_of_ble_eq_true rfl, hwj⟩), ⟨by rw [ht]; exact hP, hD⟩⟩, hS.F ht⟩) hS.2.2 dX1_told_62)
      · refine x_ti (y := nI 1) hwj ?_
        refine lv_tableIn (tgt := 63) (off := 44) hx hb dX1_told_19 (by decide) (by decide) rfl (by decide) ?_
        refine lv_aload_n hx hb dX1_told_63 rfl (lv_at hl 0 rfl) ?_
        refine va_get (D := D) (ci := 1) (v := .ref (ad 2)) (C := RX1) (T := TX1) (N := 11) hx hb hts hinX1 hown hK hP 0 rfl rfl 6 (by decide) lk35 (fun _ h9 => h9) rfl dX1_told_64 ?_
        refine lv_iload_n hx hb dX1_told_67 rfl (lv_at hl 1 rfl) ?_
        refine x_iald hx hb hK hP 2 0 rfl rfl (i := i) (by omega) (by omega) dX1_told_68 ?_
        have hai := (hco i hi).2
        refine lv_iconst (v := nI (5)) hx hb dX1_told_69 (by decide) ?_
        refine lv_idiv hx hb dX1_told_70 (nI_ne0 (by omega) (by omega)) ?_
        refine x_ti (pk_div (by omega) (by omega) (by omega)) ?_
        refine W.widen (k := 1) (n := 6) (Nat.le_of_ble_eq_true rfl) (Nat.le_of_ble_eq_true rfl) ?_
        exact vx_ret (W.iret (v := nI ((ans i) / 5)) hx hb hr (fun t ht hW => ⟨⟨_, (i, 1), rfl, (by
            exact ⟨rfl, hi, rfl, Nat.le_of_ble_eq_true rfl, hwj⟩), ⟨by rw [ht]; exact hP, hD⟩⟩, hS.F ht⟩) hS.2.2 dX1_told_71)
      · refine x_ti (y := nI 2) hwj ?_
        refine lv_tableIn (tgt := 72) (off := 53) hx hb dX1_told_19 (by decide) (by decide) rfl (by decide) ?_
        refine lv_aload_n hx hb dX1_told_72 rfl (lv_at hl 0 rfl) ?_
        refine va_get (D := D) (ci := 1) (v := .ref (ad 2)) (C := RX1) (T := TX1) (N := 11) hx hb hts hinX1 hown hK hP 0 rfl rfl 6 (by decide) lk35 (fun _ h9 => h9) rfl dX1_told_73 ?_
        refine lv_iload_n hx hb dX1_told_76 rfl (lv_at hl 1 rfl) ?_
        refine x_iald hx hb hK hP 2 0 rfl rfl (i := i) (by omega) (by omega) dX1_told_77 ?_
        have hai := (hco i hi).2
        refine lv_iconst (v := nI (5)) hx hb dX1_told_78 (by decide) ?_
        refine lv_irem hx hb dX1_told_79 (nI_ne0 (by omega) (by omega)) ?_
        refine x_ti (pk_rem (by omega) (by omega) (by omega)) ?_
        refine W.widen (k := 1) (n := 6) (Nat.le_of_ble_eq_true rfl) (Nat.le_of_ble_eq_true rfl) ?_
        exact vx_ret (W.iret (v := nI ((ans i) % 5)) hx hb hr (fun t ht hW => ⟨⟨_, (i, 2), rfl, (by
            exact ⟨rfl, hi, rfl, Nat.le_of_ble_eq_true rfl, hwj⟩), ⟨by rw [ht]; exact hP, hD⟩⟩, hS.F ht⟩) hS.2.2 dX1_told_80)
      · refine x_ti (y := nI 3) hwj ?_
        refine lv_tableIn (tgt := 81) (off := 62) hx hb dX1_told_19 (by decide) (by decide) rfl (by decide) ?_
        refine lv_aload_n hx hb dX1_told_81 rfl (lv_at hl 0 rfl) ?_
        refine va_get (D := D) (ci := 1) (v := .ref (ad 3)) (C := RX1) (T := TX1) (N := 11) hx hb hts hinX1 hown hK hP 0 rfl rfl 7 (by decide) lk38 (fun _ h9 => h9) rfl dX1_told_82 ?_
        refine lv_iload_n hx hb dX1_told_85 rfl (lv_at hl 1 rfl) ?_
        refine x_zald hx hb hK hP 3 1 rfl rfl (i := i) (by omega) (by omega) dX1_told_86 ?_
        refine x_zeq (tgt := 94) hx hb dX1_told_87 (by decide) (fun c87 => ?_) (fun c87 => ?_)
        · skip
          refine lv_iconst (v := nI (0)) hx hb dX1_told_94 (by decide) ?_
          refine W.widen (k := 1) (n := 6) (Nat.le_of_ble_eq_true rfl) (Nat.le_of_ble_eq_true rfl) ?_
          exact vx_ret (W.iret (v := nI (0)) hx hb hr (fun t ht hW => ⟨⟨_, (i, 3), rfl, (by
              exact ⟨by simp only [tldV, c87]; rfl, hi, rfl, Nat.le_of_ble_eq_true rfl, hwj⟩), ⟨by rw [ht]; exact hP, hD⟩⟩, hS.F ht⟩) hS.2.2 dX1_told_95)
        · skip
          refine lv_iconst (v := nI (1)) hx hb dX1_told_90 (by decide) ?_
          refine lv_goto (tgt := 95) hx hb dX1_told_91 (by decide) ?_
          refine W.widen (k := 1) (n := 6) (Nat.le_of_ble_eq_true rfl) (Nat.le_of_ble_eq_true rfl) ?_
          exact vx_ret (W.iret (v := nI (1)) hx hb hr (fun t ht hW => ⟨⟨_, (i, 3), rfl, (by
              exact ⟨by simp only [tldV, c87]; rfl, hi, rfl, Nat.le_of_ble_eq_true rfl, hwj⟩), ⟨by rw [ht]; exact hP, hD⟩⟩, hS.F ht⟩) hS.2.2 dX1_told_95)
      · refine x_ti (y := nI 4) hwj ?_
        refine lv_tableIn (tgt := 96) (off := 77) hx hb dX1_told_19 (by decide) (by decide) rfl (by decide) ?_
        refine lv_aload_n hx hb dX1_told_96 rfl (lv_at hl 0 rfl) ?_
        refine lv_iload_n hx hb dX1_told_97 rfl (lv_at hl 1 rfl) ?_
        refine lv_iconst (v := nI (1)) hx hb dX1_told_98 (by decide) ?_
        refine lv_iadd hx hb dX1_told_99 ?_
        refine x_ti (nI_add _ _) ?_
        refine x_csi (va_runV (As := [.int (nI (i + 1))]) (rest := []) ⟨hx, hb, hml, hown, hts⟩ (c_X1_countFitting l D cI cZ cG cJ A ad wr hpal c g hid code ans dbt opn ply hps (i + 1) (hc) (by omega) (code_le hco (by omega))) (cwV 1 hts gX1_told_X1_countFitting rfl rfl rfl (by decide +kernel) ⟨Nat.le_of_ble_eq_true rfl, Nat.le_of_ble_eq_true rfl⟩) (preV (ci := 1) (q0 := 0) hB hS hP hD rfl rfl) rfl rfl hl.1 rfl (lv_room (Nat.le_of_ble_eq_true rfl)) dX1_told_100 ⟨Nat.le_of_ble_eq_true rfl, Nat.le_of_ble_eq_true rfl⟩) ?_
        refine W.widen (k := 1) (n := 6) (Nat.le_of_ble_eq_true rfl) (Nat.le_of_ble_eq_true rfl) ?_
        exact vx_ret (W.iret (v := nI (cN (fit c code ans dbt (i + 1)) (qq c))) hx hb hr (fun t ht hW => ⟨⟨_, (i, 4), rfl, (by
            exact ⟨rfl, hi, rfl, Nat.le_of_ble_eq_true rfl, hwj⟩), ⟨by rw [ht]; exact hP, hD⟩⟩, hS.F ht⟩) hS.2.2 dX1_told_103)
      · refine x_ti (y := nI 5) hwj ?_
        refine lv_tableIn (tgt := 104) (off := 85) hx hb dX1_told_19 (by decide) (by decide) rfl (by decide) ?_
        refine lv_aload_n hx hb dX1_told_104 rfl (lv_at hl 0 rfl) ?_
        refine lv_aload_n hx hb dX1_told_105 rfl (lv_at hl 0 rfl) ?_
        refine va_get (D := D) (ci := 1) (v := .ref (ad 1)) (C := RX1) (T := TX1) (N := 11) hx hb hts hinX1 hown hK hP 0 rfl rfl 5 (by decide) lk31 (fun _ h9 => h9) rfl dX1_told_106 ?_
        refine lv_iload_n hx hb dX1_told_109 rfl (lv_at hl 1 rfl) ?_
        refine x_iald hx hb hK hP 1 0 rfl rfl (i := i) (by omega) (by omega) dX1_told_110 ?_
        refine lv_aload_n hx hb dX1_told_111 rfl (lv_at hl 0 rfl) ?_
        refine va_get (D := D) (ci := 1) (v := .ref (ad 2)) (C := RX1) (T := TX1) (N := 11) hx hb hts hinX1 hown hK hP 0 rfl rfl 6 (by decide) lk35 (fun _ h9 => h9) rfl dX1_told_112 ?_
        refine lv_iload_n hx hb dX1_told_115 rfl (lv_at hl 1 rfl) ?_
        refine x_iald hx hb hK hP 2 0 rfl rfl (i := i) (by omega) (by omega) dX1_told_116 ?_
        have hai := (hco i hi).2
        refine x_csi (va_runV (As := [.int (nI (code i)), .int (nI (ans i))]) (rest := []) ⟨hx, hb, hml, hown, hts⟩ (c_X1_countAnswering l D cI cZ cG cJ A ad wr hpal c g hid code ans dbt opn ply hps (code i) (ans i) (hc) ((hco i hi).1) (hai)) (cwV 2 hts gX1_told_X1_countAnswering rfl rfl rfl (by decide +kernel) ⟨Nat.le_of_ble_eq_true rfl, Nat.le_of_ble_eq_true rfl⟩) (preV (ci := 1) (q0 := 0) hB hS hP hD rfl rfl) rfl rfl hl.1 rfl (lv_room (Nat.le_of_ble_eq_true rfl)) dX1_told_117 ⟨Nat.le_of_ble_eq_true rfl, Nat.le_of_ble_eq_true rfl⟩) ?_
        refine W.widen (k := 1) (n := 6) (Nat.le_of_ble_eq_true rfl) (Nat.le_of_ble_eq_true rfl) ?_
        exact vx_ret (W.iret (v := nI (cN (fun k => decide (pins c (code i) k = (ans i))) (qq c))) hx hb hr (fun t ht hW => ⟨⟨_, (i, 5), rfl, (by
            exact ⟨rfl, hi, rfl, Nat.le_of_ble_eq_true rfl, hwj⟩), ⟨by rw [ht]; exact hP, hD⟩⟩, hS.F ht⟩) hS.2.2 dX1_told_120)
  · skip
    obtain ⟨sa9, hsa9⟩ := hB.2.2.2.2.2.1 (97, "no such guess") (by decide)
    have hat9 : ∀ w ∈ (vx_atS RX1 99 "java/lang/IndexOutOfBoundsException" ["java/lang/RuntimeException", "java/lang/Exception"]), w.before _ s = true := vx_hat (B := [.castable "java/lang/IndexOutOfBoundsException" "java/lang/IndexOutOfBoundsException", .declares (Bundle.initS "java/lang/RuntimeException"), .declares (Bundle.initS "java/lang/Exception"), .declares (Bundle.initS Bundle.tN)]) (fun w hw => hts w (by first | exact List.mem_cons_of_mem _ (List.mem_append_right _ hw) | exact List.mem_cons_of_mem _ (List.mem_append_left _ (List.mem_append_right _ hw)) | exact List.mem_cons_of_mem _ (List.mem_append_left _ (List.mem_append_left _ (List.mem_append_right _ hw))))) (by decide +kernel) (vx_c (va_Nw.use rfl (hB.2.2.2.2.1 _ (by simp [Nws]))) (vx_c (va_Nw.use rfl (hB.2.2.2.2.1 _ (by simp [Nws]))) (vx_c (va_Nw.use rfl (hB.2.2.2.2.1 _ (by simp [Nws]))) (vx_c (va_Nw.use rfl (hB.2.2.2.2.1 _ (by simp [Nws]))) vx_n))))
    exact vx_throwS (A := A) (names := ["java/lang/RuntimeException", "java/lang/Exception"]) (cls := "java/lang/IndexOutOfBoundsException") hx hb hflag hown (by decide +kernel) (by decide +kernel) (hts _ (by decide +kernel)) (hts _ (by decide +kernel)) hsa9 hat9 (by decide +kernel) hB.2.2.1 hB.2.2.2.1 hS (hl.1.trans hml.symm) dX1_told_8 dX1_told_11 dX1_told_12 dX1_told_14 dX1_told_17 (fun x hx9 => (hnt x hx9).elim) (Nat.le_of_ble_eq_true rfl) (Nat.le_of_ble_eq_true rfl) (Nat.le_of_ble_eq_true rfl) (Nat.le_of_ble_eq_true rfl) hlocks (fun t hvm hsz hk => ⟨(), trivial, ⟨(by
        exact ⟨rfl, Or.inl c5⟩), ⟨va_P.kept hP (fun k q hk9 => hk _ (hP k q hk9).lt), hD⟩⟩, ⟨Nat.le_trans hS.1 hsz, fun q h1 h2 => (hk q (Nat.lt_of_lt_of_le h1 hS.1)).trans (hS.2.1 q h1 h2)⟩⟩) hS.2.2 (Nat.le_of_ble_eq_true rfl) (Nat.le_of_ble_eq_true rfl)

set_option maxHeartbeats 4000000 in
set_option maxRecDepth 100000 in
theorem c_X1_toldP (l : Launch) (D : va_G) (cI cZ cG cJ : ClassId) (A : Nat → Prop) (ad : Nat → Nat) (wr : va_W) (hpal : Pals cI cG ad wr) (c : Nat) (g : Nat) (hid : Int32) (code : Nat → Nat) (ans : Nat → Nat) (dbt : Nat → Bool) (opn : Nat → Bool) (ply : Nat → Bool) (hps : Nat → Nat) (i : Nat) (j : Nat) (hI : XI c g hid code ans dbt opn) (hi : i < g) (hj : j < 6) : Met l yX1_told wsX1_told ({ frames := 4, cells := 0, slots := 0, locals := 89 }) (va_Pc [.ref (ad 0), .int (nI (i)), .int (nI (j))] (Iv D (TY cI cZ cG cJ) A (WX ad cI cZ c g hid code ans dbt opn ply hps wr))) (vp_Si (fun r => r = nI (tldV c code ans dbt i j))) 0 0 (fun _ => False) := by
  refine Met.ofW (cc := cX1_told) (maxL := 3) (ret := (some .int)) (by decide) rfl ?_
  intro p e s m args below meth c9 s₁ B hml hv
  obtain ⟨rfl, hP, hD, hB⟩ := hv
  have hK := hB.1
  have hA := hB.2.1
  have hx := B.exec
  have hb := B.bytes
  have hr := B.returns
  have hts := atoms_spec (ws := wsX1_told) B.pre
  have hown : s.vm.findClass RX1 = some m.cls := findClass_of_methodNamed B.named
  have hlocks := B.notSynchronized
  have hS : va_S A s.heap s.heap [] := va_S.rf
  have hinX1 : ∀ w ∈ wsX10, w ∈ wsX1_told := by decide +kernel
  have lk31 := hts (.fieldLink RX1 31 "HiddenCandles" "guessed" "[I") (by decide +kernel)
  have lk35 := hts (.fieldLink RX1 35 "HiddenCandles" "answers" "[I") (by decide +kernel)
  have lk38 := hts (.fieldLink RX1 38 "HiddenCandles" "doubted" "[Z") (by decide +kernel)
  have hl := lv_entry ([.ref (ad 0), .int (nI (i)), .int (nI (j))]) (n := 3) (Nat.le_of_ble_eq_true rfl)
  rw [lg_entry_eq]
  generalize (lg_sl ([.ref (ad 0), .int (nI (i)), .int (nI (j))]) ++ List.replicate (3 - (lg_sl ([.ref (ad 0), .int (nI (i)), .int (nI (j))])).length) Slot.unset).toArray = ls at hl ⊢
  have hl : lv_has ls 3 [(0, .ref (ad 0)), (1, .int (nI (i))), (2, .int (nI (j)))] := hl
  obtain ⟨hc, hg, hco, hhid, hop⟩ := id hI
  have hq := qq_in hc
  have hop2 := op_lt hop
  refine lv_aload_n hx hb dX1_told_0 rfl (lv_at hl 0 rfl) ?_
  refine lv_iload_n hx hb dX1_told_1 rfl (lv_at hl 1 rfl) ?_
  refine x_csi (va_runV (As := [.int (nI (i))]) (rest := []) ⟨hx, hb, hml, hown, hts⟩ (c_X1_hasGuess l D cI cZ cG cJ A ad wr hpal c g hid code ans dbt opn ply hps (nI i) (hg)) (cwV 1 hts gX1_told_X1_hasGuess rfl rfl rfl (by decide +kernel) ⟨Nat.le_of_ble_eq_true rfl, Nat.le_of_ble_eq_true rfl⟩) (preV (ci := 1) (q0 := 0) hB va_S.rf hP hD rfl rfl) rfl rfl hl.1 rfl (lv_room (Nat.le_of_ble_eq_true rfl)) dX1_told_2 ⟨Nat.le_of_ble_eq_true rfl, Nat.le_of_ble_eq_true rfl⟩) ?_
  refine x_ti (y := bI (true)) (by rw [gsC_nI hi hg]) ?_
  refine x_zne (tgt := 18) hx hb dX1_told_5 (by decide) (fun c5 => ?_) (fun c5 => absurd c5 (by decide))
  refine lv_iload_n hx hb dX1_told_18 rfl (lv_at hl 2 rfl) ?_
  obtain hj9 | hj9 | hj9 | hj9 | hj9 | hj9 : j = 0 ∨ j = 1 ∨ j = 2 ∨ j = 3 ∨ j = 4 ∨ j = 5 := by omega
  · refine x_ti (y := nI 0) (by rw [hj9]) ?_
    refine lv_tableIn (tgt := 56) (off := 37) hx hb dX1_told_19 (by decide) (by decide) rfl (by decide) ?_
    refine lv_aload_n hx hb dX1_told_56 rfl (lv_at hl 0 rfl) ?_
    refine va_get (D := D) (ci := 1) (v := .ref (ad 1)) (C := RX1) (T := TX1) (N := 11) hx hb hts hinX1 hown hK hP 0 rfl rfl 5 (by decide) lk31 (fun _ h9 => h9) rfl dX1_told_57 ?_
    refine lv_iload_n hx hb dX1_told_60 rfl (lv_at hl 1 rfl) ?_
    refine x_iald hx hb hK hP 1 0 rfl rfl (i := i) (by omega) (by omega) dX1_told_61 ?_
    exact W.iret (v := nI (code i)) hx hb hr (fun t ht hW => ⟨_, rfl, (by
        subst hj9; rfl), ht⟩) (fun _ h => nomatch h) dX1_told_62
  · refine x_ti (y := nI 1) (by rw [hj9]) ?_
    refine lv_tableIn (tgt := 63) (off := 44) hx hb dX1_told_19 (by decide) (by decide) rfl (by decide) ?_
    refine lv_aload_n hx hb dX1_told_63 rfl (lv_at hl 0 rfl) ?_
    refine va_get (D := D) (ci := 1) (v := .ref (ad 2)) (C := RX1) (T := TX1) (N := 11) hx hb hts hinX1 hown hK hP 0 rfl rfl 6 (by decide) lk35 (fun _ h9 => h9) rfl dX1_told_64 ?_
    refine lv_iload_n hx hb dX1_told_67 rfl (lv_at hl 1 rfl) ?_
    refine x_iald hx hb hK hP 2 0 rfl rfl (i := i) (by omega) (by omega) dX1_told_68 ?_
    have hai := (hco i hi).2
    refine lv_iconst (v := nI (5)) hx hb dX1_told_69 (by decide) ?_
    refine lv_idiv hx hb dX1_told_70 (nI_ne0 (by omega) (by omega)) ?_
    refine x_ti (pk_div (by omega) (by omega) (by omega)) ?_
    exact W.iret (v := nI ((ans i) / 5)) hx hb hr (fun t ht hW => ⟨_, rfl, (by
        subst hj9; rfl), ht⟩) (fun _ h => nomatch h) dX1_told_71
  · refine x_ti (y := nI 2) (by rw [hj9]) ?_
    refine lv_tableIn (tgt := 72) (off := 53) hx hb dX1_told_19 (by decide) (by decide) rfl (by decide) ?_
    refine lv_aload_n hx hb dX1_told_72 rfl (lv_at hl 0 rfl) ?_
    refine va_get (D := D) (ci := 1) (v := .ref (ad 2)) (C := RX1) (T := TX1) (N := 11) hx hb hts hinX1 hown hK hP 0 rfl rfl 6 (by decide) lk35 (fun _ h9 => h9) rfl dX1_told_73 ?_
    refine lv_iload_n hx hb dX1_told_76 rfl (lv_at hl 1 rfl) ?_
    refine x_iald hx hb hK hP 2 0 rfl rfl (i := i) (by omega) (by omega) dX1_told_77 ?_
    have hai := (hco i hi).2
    refine lv_iconst (v := nI (5)) hx hb dX1_told_78 (by decide) ?_
    refine lv_irem hx hb dX1_told_79 (nI_ne0 (by omega) (by omega)) ?_
    refine x_ti (pk_rem (by omega) (by omega) (by omega)) ?_
    exact W.iret (v := nI ((ans i) % 5)) hx hb hr (fun t ht hW => ⟨_, rfl, (by
        subst hj9; rfl), ht⟩) (fun _ h => nomatch h) dX1_told_80
  · refine x_ti (y := nI 3) (by rw [hj9]) ?_
    refine lv_tableIn (tgt := 81) (off := 62) hx hb dX1_told_19 (by decide) (by decide) rfl (by decide) ?_
    refine lv_aload_n hx hb dX1_told_81 rfl (lv_at hl 0 rfl) ?_
    refine va_get (D := D) (ci := 1) (v := .ref (ad 3)) (C := RX1) (T := TX1) (N := 11) hx hb hts hinX1 hown hK hP 0 rfl rfl 7 (by decide) lk38 (fun _ h9 => h9) rfl dX1_told_82 ?_
    refine lv_iload_n hx hb dX1_told_85 rfl (lv_at hl 1 rfl) ?_
    refine x_zald hx hb hK hP 3 1 rfl rfl (i := i) (by omega) (by omega) dX1_told_86 ?_
    refine x_zeq (tgt := 94) hx hb dX1_told_87 (by decide) (fun c87 => ?_) (fun c87 => ?_)
    · skip
      refine lv_iconst (v := nI (0)) hx hb dX1_told_94 (by decide) ?_
      exact W.iret (v := nI (0)) hx hb hr (fun t ht hW => ⟨_, rfl, (by
          subst hj9; simp only [tldV, c87]; rfl), ht⟩) (fun _ h => nomatch h) dX1_told_95
    · skip
      refine lv_iconst (v := nI (1)) hx hb dX1_told_90 (by decide) ?_
      refine lv_goto (tgt := 95) hx hb dX1_told_91 (by decide) ?_
      exact W.iret (v := nI (1)) hx hb hr (fun t ht hW => ⟨_, rfl, (by
          subst hj9; simp only [tldV, c87]; rfl), ht⟩) (fun _ h => nomatch h) dX1_told_95
  · refine x_ti (y := nI 4) (by rw [hj9]) ?_
    refine lv_tableIn (tgt := 96) (off := 77) hx hb dX1_told_19 (by decide) (by decide) rfl (by decide) ?_
    refine lv_aload_n hx hb dX1_told_96 rfl (lv_at hl 0 rfl) ?_
    refine lv_iload_n hx hb dX1_told_97 rfl (lv_at hl 1 rfl) ?_
    refine lv_iconst (v := nI (1)) hx hb dX1_told_98 (by decide) ?_
    refine lv_iadd hx hb dX1_told_99 ?_
    refine x_ti (nI_add _ _) ?_
    refine x_csi (va_runV (As := [.int (nI (i + 1))]) (rest := []) ⟨hx, hb, hml, hown, hts⟩ (c_X1_countFitting l D cI cZ cG cJ A ad wr hpal c g hid code ans dbt opn ply hps (i + 1) (hc) (by omega) (code_le hco (by omega))) (cwV 1 hts gX1_told_X1_countFitting rfl rfl rfl (by decide +kernel) ⟨Nat.le_of_ble_eq_true rfl, Nat.le_of_ble_eq_true rfl⟩) (preV (ci := 1) (q0 := 0) hB va_S.rf hP hD rfl rfl) rfl rfl hl.1 rfl (lv_room (Nat.le_of_ble_eq_true rfl)) dX1_told_100 ⟨Nat.le_of_ble_eq_true rfl, Nat.le_of_ble_eq_true rfl⟩) ?_
    exact W.iret (v := nI (cN (fit c code ans dbt (i + 1)) (qq c))) hx hb hr (fun t ht hW => ⟨_, rfl, (by
        subst hj9; rfl), ht⟩) (fun _ h => nomatch h) dX1_told_103
  · refine x_ti (y := nI 5) (by rw [hj9]) ?_
    refine lv_tableIn (tgt := 104) (off := 85) hx hb dX1_told_19 (by decide) (by decide) rfl (by decide) ?_
    refine lv_aload_n hx hb dX1_told_104 rfl (lv_at hl 0 rfl) ?_
    refine lv_aload_n hx hb dX1_told_105 rfl (lv_at hl 0 rfl) ?_
    refine va_get (D := D) (ci := 1) (v := .ref (ad 1)) (C := RX1) (T := TX1) (N := 11) hx hb hts hinX1 hown hK hP 0 rfl rfl 5 (by decide) lk31 (fun _ h9 => h9) rfl dX1_told_106 ?_
    refine lv_iload_n hx hb dX1_told_109 rfl (lv_at hl 1 rfl) ?_
    refine x_iald hx hb hK hP 1 0 rfl rfl (i := i) (by omega) (by omega) dX1_told_110 ?_
    refine lv_aload_n hx hb dX1_told_111 rfl (lv_at hl 0 rfl) ?_
    refine va_get (D := D) (ci := 1) (v := .ref (ad 2)) (C := RX1) (T := TX1) (N := 11) hx hb hts hinX1 hown hK hP 0 rfl rfl 6 (by decide) lk35 (fun _ h9 => h9) rfl dX1_told_112 ?_
    refine lv_iload_n hx hb dX1_told_115 rfl (lv_at hl 1 rfl) ?_
    refine x_iald hx hb hK hP 2 0 rfl rfl (i := i) (by omega) (by omega) dX1_told_116 ?_
    have hai := (hco i hi).2
    refine x_csi (va_runV (As := [.int (nI (code i)), .int (nI (ans i))]) (rest := []) ⟨hx, hb, hml, hown, hts⟩ (c_X1_countAnswering l D cI cZ cG cJ A ad wr hpal c g hid code ans dbt opn ply hps (code i) (ans i) (hc) ((hco i hi).1) (hai)) (cwV 2 hts gX1_told_X1_countAnswering rfl rfl rfl (by decide +kernel) ⟨Nat.le_of_ble_eq_true rfl, Nat.le_of_ble_eq_true rfl⟩) (preV (ci := 1) (q0 := 0) hB va_S.rf hP hD rfl rfl) rfl rfl hl.1 rfl (lv_room (Nat.le_of_ble_eq_true rfl)) dX1_told_117 ⟨Nat.le_of_ble_eq_true rfl, Nat.le_of_ble_eq_true rfl⟩) ?_
    exact W.iret (v := nI (cN (fun k => decide (pins c (code i) k = (ans i))) (qq c))) hx hb hr (fun t ht hW => ⟨_, rfl, (by
        subst hj9; rfl), ht⟩) (fun _ h => nomatch h) dX1_told_120

set_option maxHeartbeats 4000000 in
set_option maxRecDepth 100000 in
theorem c_X1_count (l : Launch) (hfl : l.flags = flags0) (D : va_G) (cI cZ cG cJ : ClassId) (A : Nat → Prop) (ad : Nat → Nat) (wr : va_W) (hpal : Pals cI cG ad wr) (c : Nat) (g : Nat) (hid : Int32) (code : Nat → Nat) (ans : Nat → Nat) (dbt : Nat → Bool) (opn : Nat → Bool) (ply : Nat → Bool) (hps : Nat → Nat) (w : Int32) (hI : XI c g hid code ans dbt opn) : vx_Met l yX1_count wsX1_count ({ frames := 6, cells := 1, slots := 6, locals := 82 }) (va_Pc [.ref (ad 0), .int (w)] (Iv D (TY cI cZ cG cJ) A (WX ad cI cZ c g hid code ans dbt opn ply hps wr))) (va_Qi (fun r (u : Nat) => r = nI (cntV c g hid code ans dbt u) ∧ u < 7 ∧ w = nI u) (fun u => Wd D A (WX ad cI cZ c g hid code ans dbt opn ply hps wr)) A) (Xw D A (WX ad cI cZ c g hid code ans dbt opn ply hps wr) (fun E => E = "java/lang/IndexOutOfBoundsException" ∧ rgC 7 w = false)) 1 6 A := by
  refine vx_ofW (cc := cX1_count) (maxL := 2) (ret := (some .int)) (by decide) rfl ?_
  intro p e s m args below meth c9 s₁ B hml hnt hv
  obtain ⟨rfl, hP, hD, hB⟩ := hv
  have hK := hB.1
  have hA := hB.2.1
  have hx := B.exec
  have hb := B.bytes
  have hr := B.returns
  have hts := atoms_spec (ws := wsX1_count) B.pre
  have hown : s.vm.findClass RX1 = some m.cls := findClass_of_methodNamed B.named
  have hlocks := B.notSynchronized
  have hS : va_S A s.heap s.heap [] := va_S.rf
  have hflag : l.stackTraces = false := by rw [Launch.stackTraces, hfl]; decide
  have hinX0 : ∀ w ∈ wsX00, w ∈ wsX1_count := by decide +kernel
  have hinX1 : ∀ w ∈ wsX10, w ∈ wsX1_count := by decide +kernel
  have lk21 := hts (.fieldLink RX1 21 "HiddenCandles" "palette" "LHiddenCandles$Palette;") (by decide +kernel)
  have lk24 := hts (.fieldLink RX1 24 "HiddenCandles" "hidden" "I") (by decide +kernel)
  have lk28 := hts (.fieldLink RX1 28 "HiddenCandles" "guesses" "I") (by decide +kernel)
  have lk42 := hts (.fieldLink RX1 42 "HiddenCandles" "open" "[Z") (by decide +kernel)
  have hl := lv_entry ([.ref (ad 0), .int (w)]) (n := 2) (Nat.le_of_ble_eq_true rfl)
  rw [lg_entry_eq]
  generalize (lg_sl ([.ref (ad 0), .int (w)]) ++ List.replicate (2 - (lg_sl ([.ref (ad 0), .int (w)])).length) Slot.unset).toArray = ls at hl ⊢
  have hl : lv_has ls 2 [(0, .ref (ad 0)), (1, .int (w))] := hl
  obtain ⟨H, eH⟩ : ∃ q, q = s.heap := ⟨_, rfl⟩
  obtain ⟨locs, eL⟩ : ∃ q : List Loc, q = [] := ⟨_, rfl⟩
  replace hP : va_P D vwCl (WX ad cI cZ c g hid code ans dbt opn ply hps wr) H := by rw [eH]; exact hP
  replace hS : va_S A s.heap H locs := by rw [eH, eL]; exact hS
  rw [show W p l e _ s m _ below meth c9 s.heap [] = W p l e _ s m _ below meth c9 H locs from by rw [eH, eL]]
  clear eH eL
  obtain ⟨hc, hg, hco, hhid, hop⟩ := id hI
  have hq := qq_in hc
  have hop2 := op_lt hop
  refine lv_iload_n hx hb dX1_count_0 rfl (lv_at hl 1 rfl) ?_
  rcases sw_cases (w) 7 6 (by decide) (by decide) with hsw | ⟨j9, hj9, hwj⟩
  · refine lv_tableOut (tgt := 97) hx hb dX1_count_1 hsw (by decide) ?_
    obtain ⟨sa9, hsa9⟩ := hB.2.2.2.2.2.1 (124, "what is counted is 0 to 6") (by decide)
    have hat9 : ∀ w ∈ (vx_atS RX1 99 "java/lang/IndexOutOfBoundsException" ["java/lang/RuntimeException", "java/lang/Exception"]), w.before _ s = true := vx_hat (B := [.castable "java/lang/IndexOutOfBoundsException" "java/lang/IndexOutOfBoundsException", .declares (Bundle.initS "java/lang/RuntimeException"), .declares (Bundle.initS "java/lang/Exception"), .declares (Bundle.initS Bundle.tN)]) (fun w hw => hts w (by first | exact List.mem_cons_of_mem _ (List.mem_append_right _ hw) | exact List.mem_cons_of_mem _ (List.mem_append_left _ (List.mem_append_right _ hw)) | exact List.mem_cons_of_mem _ (List.mem_append_left _ (List.mem_append_left _ (List.mem_append_right _ hw))))) (by decide +kernel) (vx_c (va_Nw.use rfl (hB.2.2.2.2.1 _ (by simp [Nws]))) (vx_c (va_Nw.use rfl (hB.2.2.2.2.1 _ (by simp [Nws]))) (vx_c (va_Nw.use rfl (hB.2.2.2.2.1 _ (by simp [Nws]))) (vx_c (va_Nw.use rfl (hB.2.2.2.2.1 _ (by simp [Nws]))) vx_n))))
    exact vx_throwS (A := A) (names := ["java/lang/RuntimeException", "java/lang/Exception"]) (cls := "java/lang/IndexOutOfBoundsException") hx hb hflag hown (by decide +kernel) (by decide +kernel) (hts _ (by decide +kernel)) (hts _ (by decide +kernel)) hsa9 hat9 (by decide +kernel) hB.2.2.1 hB.2.2.2.1 hS (hl.1.trans hml.symm) dX1_count_97 dX1_count_100 dX1_count_101 dX1_count_103 dX1_count_106 (fun x hx9 => (hnt x hx9).elim) (Nat.le_of_ble_eq_true rfl) (Nat.le_of_ble_eq_true rfl) (Nat.le_of_ble_eq_true rfl) (Nat.le_of_ble_eq_true rfl) hlocks (fun t hvm hsz hk => ⟨(), trivial, ⟨(by
        exact ⟨rfl, rgC_f (by decide) hsw⟩), ⟨va_P.kept hP (fun k q hk9 => hk _ (hP k q hk9).lt), hD⟩⟩, ⟨Nat.le_trans hS.1 hsz, fun q h1 h2 => (hk q (Nat.lt_of_lt_of_le h1 hS.1)).trans (hS.2.1 q h1 h2)⟩⟩) hS.2.2 (Nat.le_of_ble_eq_true rfl) (Nat.le_of_ble_eq_true rfl)
  · obtain rfl | rfl | rfl | rfl | rfl | rfl | rfl : j9 = 0 ∨ j9 = 1 ∨ j9 = 2 ∨ j9 = 3 ∨ j9 = 4 ∨ j9 = 5 ∨ j9 = 6 := by omega
    · refine x_ti (y := nI 0) hwj ?_
      refine lv_tableIn (tgt := 44) (off := 43) hx hb dX1_count_1 (by decide) (by decide) rfl (by decide) ?_
      refine lv_aload_n hx hb dX1_count_44 rfl (lv_at hl 0 rfl) ?_
      refine va_get (D := D) (ci := 1) (v := .ref (pal ad c)) (C := RX1) (T := TX1) (N := 11) hx hb hts hinX1 hown hK hP 0 rfl rfl 2 (by decide) lk21 (fun _ h9 => h9) rfl dX1_count_45 ?_
      refine x_colours hx hb hts hinX0 hown hK hP (palX hpal hc) (hB.2.2.2.2.1 _ (by simp [Nws])) dX1_count_48 ?_
      refine W.widen (k := 1) (n := 6) (Nat.le_of_ble_eq_true rfl) (Nat.le_of_ble_eq_true rfl) ?_
      exact vx_ret (W.iret (v := nI (c)) hx hb hr (fun t ht hW => ⟨⟨_, 0, rfl, (by
          exact ⟨rfl, by decide, hwj⟩), ⟨by rw [ht]; exact hP, hD⟩⟩, hS.F ht⟩) hS.2.2 dX1_count_51)
    · refine x_ti (y := nI 1) hwj ?_
      refine lv_tableIn (tgt := 52) (off := 51) hx hb dX1_count_1 (by decide) (by decide) rfl (by decide) ?_
      refine lv_aload_n hx hb dX1_count_52 rfl (lv_at hl 0 rfl) ?_
      refine va_get (D := D) (ci := 1) (v := .ref (pal ad c)) (C := RX1) (T := TX1) (N := 11) hx hb hts hinX1 hown hK hP 0 rfl rfl 2 (by decide) lk21 (fun _ h9 => h9) rfl dX1_count_53 ?_
      refine x_codes hx hb hts hinX0 hown hK hP (palX hpal hc) (hB.2.2.2.2.1 _ (by simp [Nws])) dX1_count_56 ?_
      refine W.widen (k := 1) (n := 6) (Nat.le_of_ble_eq_true rfl) (Nat.le_of_ble_eq_true rfl) ?_
      exact vx_ret (W.iret (v := nI (qq c)) hx hb hr (fun t ht hW => ⟨⟨_, 1, rfl, (by
          exact ⟨rfl, by decide, hwj⟩), ⟨by rw [ht]; exact hP, hD⟩⟩, hS.F ht⟩) hS.2.2 dX1_count_59)
    · refine x_ti (y := nI 2) hwj ?_
      refine lv_tableIn (tgt := 60) (off := 59) hx hb dX1_count_1 (by decide) (by decide) rfl (by decide) ?_
      refine lv_aload_n hx hb dX1_count_60 rfl (lv_at hl 0 rfl) ?_
      refine va_get (D := D) (ci := 1) (v := .int (nI (g))) (C := RX1) (T := TX1) (N := 11) hx hb hts hinX1 hown hK hP 0 rfl rfl 4 (by decide) lk28 (fun _ h9 => h9) rfl dX1_count_61 ?_
      refine W.widen (k := 1) (n := 6) (Nat.le_of_ble_eq_true rfl) (Nat.le_of_ble_eq_true rfl) ?_
      exact vx_ret (W.iret (v := nI (g)) hx hb hr (fun t ht hW => ⟨⟨_, 2, rfl, (by
          exact ⟨rfl, by decide, hwj⟩), ⟨by rw [ht]; exact hP, hD⟩⟩, hS.F ht⟩) hS.2.2 dX1_count_64)
    · refine x_ti (y := nI 3) hwj ?_
      refine lv_tableIn (tgt := 65) (off := 64) hx hb dX1_count_1 (by decide) (by decide) rfl (by decide) ?_
      refine lv_aload_n hx hb dX1_count_65 rfl (lv_at hl 0 rfl) ?_
      refine va_get (D := D) (ci := 1) (v := .ref (ad 4)) (C := RX1) (T := TX1) (N := 11) hx hb hts hinX1 hown hK hP 0 rfl rfl 8 (by decide) lk42 (fun _ h9 => h9) rfl dX1_count_66 ?_
      refine x_csi (va_runS (As := [.ref (ad 4)]) (rest := []) ⟨hx, hb, hml, hown, hts⟩ (c_X1_size l D cI cZ cG cJ A (WX ad cI cZ c g hid code ans dbt opn ply hps wr) (ad 4) 4 opn (rfl)) (va_cwS 1 hts gX1_count_X1_size rfl rfl rfl (by decide +kernel) ⟨Nat.le_of_ble_eq_true rfl, Nat.le_of_ble_eq_true rfl⟩) (preS hB hS hP hD) rfl rfl hl.1 rfl (lv_room (Nat.le_of_ble_eq_true rfl)) dX1_count_69 ⟨Nat.le_of_ble_eq_true rfl, Nat.le_of_ble_eq_true rfl⟩) ?_
      refine W.widen (k := 1) (n := 6) (Nat.le_of_ble_eq_true rfl) (Nat.le_of_ble_eq_true rfl) ?_
      exact vx_ret (W.iret (v := nI (cN opn 81)) hx hb hr (fun t ht hW => ⟨⟨_, 3, rfl, (by
          exact ⟨by rw [cN_congr 81 hop]; rfl, by decide, hwj⟩), ⟨by rw [ht]; exact hP, hD⟩⟩, hS.F ht⟩) hS.2.2 dX1_count_72)
    · refine x_ti (y := nI 4) hwj ?_
      refine lv_tableIn (tgt := 73) (off := 72) hx hb dX1_count_1 (by decide) (by decide) rfl (by decide) ?_
      refine lv_aload_n hx hb dX1_count_73 rfl (lv_at hl 0 rfl) ?_
      refine va_get (D := D) (ci := 1) (v := .int (hid)) (C := RX1) (T := TX1) (N := 11) hx hb hts hinX1 hown hK hP 0 rfl rfl 3 (by decide) lk24 (fun _ h9 => h9) rfl dX1_count_74 ?_
      refine lv_iconst (v := (-1)) hx hb dX1_count_77 (by decide) ?_
      refine lv_icmp_ne (tgt := 85) hx hb dX1_count_78 (by decide) (fun c78 => ?_) (fun c78 => ?_)
      · skip
        refine lv_iconst (v := nI (1)) hx hb dX1_count_85 (by decide) ?_
        refine W.widen (k := 1) (n := 6) (Nat.le_of_ble_eq_true rfl) (Nat.le_of_ble_eq_true rfl) ?_
        exact vx_ret (W.iret (v := nI (1)) hx hb hr (fun t ht hW => ⟨⟨_, 4, rfl, (by
            refine ⟨?_, by decide, hwj⟩
            first | (simp only [cntV, if_pos c78]; done) | (simp only [cntV, if_neg c78]; done)), ⟨by rw [ht]; exact hP, hD⟩⟩, hS.F ht⟩) hS.2.2 dX1_count_86)
      · skip
        refine lv_iconst (v := nI (0)) hx hb dX1_count_81 (by decide) ?_
        refine lv_goto (tgt := 86) hx hb dX1_count_82 (by decide) ?_
        refine W.widen (k := 1) (n := 6) (Nat.le_of_ble_eq_true rfl) (Nat.le_of_ble_eq_true rfl) ?_
        exact vx_ret (W.iret (v := nI (0)) hx hb hr (fun t ht hW => ⟨⟨_, 4, rfl, (by
            refine ⟨?_, by decide, hwj⟩
            first | (simp only [cntV, if_pos c78]; done) | (simp only [cntV, if_neg c78]; done)), ⟨by rw [ht]; exact hP, hD⟩⟩, hS.F ht⟩) hS.2.2 dX1_count_86)
    · refine x_ti (y := nI 5) hwj ?_
      refine lv_tableIn (tgt := 87) (off := 86) hx hb dX1_count_1 (by decide) (by decide) rfl (by decide) ?_
      refine lv_aload_n hx hb dX1_count_87 rfl (lv_at hl 0 rfl) ?_
      refine x_csi (va_runV (As := []) (rest := []) ⟨hx, hb, hml, hown, hts⟩ (c_X1_countAllBlack l D cI cZ cG cJ A ad wr hpal c g hid code ans dbt opn ply hps (hg) (hc) (hco)) (cwV 0 hts gX1_count_X1_countAllBlack rfl rfl rfl (by decide +kernel) ⟨Nat.le_of_ble_eq_true rfl, Nat.le_of_ble_eq_true rfl⟩) (preV (ci := 1) (q0 := 0) hB hS hP hD rfl rfl) rfl rfl hl.1 rfl (lv_room (Nat.le_of_ble_eq_true rfl)) dX1_count_88 ⟨Nat.le_of_ble_eq_true rfl, Nat.le_of_ble_eq_true rfl⟩) ?_
      refine W.widen (k := 1) (n := 6) (Nat.le_of_ble_eq_true rfl) (Nat.le_of_ble_eq_true rfl) ?_
      exact vx_ret (W.iret (v := nI (cN (fun z => decide (ans z = 20)) g)) hx hb hr (fun t ht hW => ⟨⟨_, 5, rfl, (by
          exact ⟨rfl, by decide, hwj⟩), ⟨by rw [ht]; exact hP, hD⟩⟩, hS.F ht⟩) hS.2.2 dX1_count_91)
    · refine x_ti (y := nI 6) hwj ?_
      refine lv_tableIn (tgt := 92) (off := 91) hx hb dX1_count_1 (by decide) (by decide) rfl (by decide) ?_
      refine lv_aload_n hx hb dX1_count_92 rfl (lv_at hl 0 rfl) ?_
      refine x_csi (va_runV (As := []) (rest := []) ⟨hx, hb, hml, hown, hts⟩ (c_X1_countDoubted l D cI cZ cG cJ A ad wr hpal c g hid code ans dbt opn ply hps (hg)) (cwV 0 hts gX1_count_X1_countDoubted rfl rfl rfl (by decide +kernel) ⟨Nat.le_of_ble_eq_true rfl, Nat.le_of_ble_eq_true rfl⟩) (preV (ci := 1) (q0 := 0) hB hS hP hD rfl rfl) rfl rfl hl.1 rfl (lv_room (Nat.le_of_ble_eq_true rfl)) dX1_count_93 ⟨Nat.le_of_ble_eq_true rfl, Nat.le_of_ble_eq_true rfl⟩) ?_
      refine W.widen (k := 1) (n := 6) (Nat.le_of_ble_eq_true rfl) (Nat.le_of_ble_eq_true rfl) ?_
      exact vx_ret (W.iret (v := nI (cN dbt g)) hx hb hr (fun t ht hW => ⟨⟨_, 6, rfl, (by
          exact ⟨rfl, by decide, hwj⟩), ⟨by rw [ht]; exact hP, hD⟩⟩, hS.F ht⟩) hS.2.2 dX1_count_96)

set_option maxHeartbeats 4000000 in
set_option maxRecDepth 100000 in
theorem c_X1_countP (l : Launch) (D : va_G) (cI cZ cG cJ : ClassId) (A : Nat → Prop) (ad : Nat → Nat) (wr : va_W) (hpal : Pals cI cG ad wr) (c : Nat) (g : Nat) (hid : Int32) (code : Nat → Nat) (ans : Nat → Nat) (dbt : Nat → Bool) (opn : Nat → Bool) (ply : Nat → Bool) (hps : Nat → Nat) (j : Nat) (hI : XI c g hid code ans dbt opn) (hj : j < 7) : Met l yX1_count wsX1_count ({ frames := 1, cells := 0, slots := 0, locals := 22 }) (va_Pc [.ref (ad 0), .int (nI (j))] (Iv D (TY cI cZ cG cJ) A (WX ad cI cZ c g hid code ans dbt opn ply hps wr))) (vp_Si (fun r => r = nI (cntV c g hid code ans dbt j))) 0 0 (fun _ => False) := by
  refine Met.ofW (cc := cX1_count) (maxL := 2) (ret := (some .int)) (by decide) rfl ?_
  intro p e s m args below meth c9 s₁ B hml hv
  obtain ⟨rfl, hP, hD, hB⟩ := hv
  have hK := hB.1
  have hA := hB.2.1
  have hx := B.exec
  have hb := B.bytes
  have hr := B.returns
  have hts := atoms_spec (ws := wsX1_count) B.pre
  have hown : s.vm.findClass RX1 = some m.cls := findClass_of_methodNamed B.named
  have hlocks := B.notSynchronized
  have hS : va_S A s.heap s.heap [] := va_S.rf
  have hinX0 : ∀ w ∈ wsX00, w ∈ wsX1_count := by decide +kernel
  have hinX1 : ∀ w ∈ wsX10, w ∈ wsX1_count := by decide +kernel
  have lk21 := hts (.fieldLink RX1 21 "HiddenCandles" "palette" "LHiddenCandles$Palette;") (by decide +kernel)
  have lk24 := hts (.fieldLink RX1 24 "HiddenCandles" "hidden" "I") (by decide +kernel)
  have lk28 := hts (.fieldLink RX1 28 "HiddenCandles" "guesses" "I") (by decide +kernel)
  have lk42 := hts (.fieldLink RX1 42 "HiddenCandles" "open" "[Z") (by decide +kernel)
  have hl := lv_entry ([.ref (ad 0), .int (nI (j))]) (n := 2) (Nat.le_of_ble_eq_true rfl)
  rw [lg_entry_eq]
  generalize (lg_sl ([.ref (ad 0), .int (nI (j))]) ++ List.replicate (2 - (lg_sl ([.ref (ad 0), .int (nI (j))])).length) Slot.unset).toArray = ls at hl ⊢
  have hl : lv_has ls 2 [(0, .ref (ad 0)), (1, .int (nI (j)))] := hl
  obtain ⟨hc, hg, hco, hhid, hop⟩ := id hI
  have hq := qq_in hc
  have hop2 := op_lt hop
  refine lv_iload_n hx hb dX1_count_0 rfl (lv_at hl 1 rfl) ?_
  obtain hj9 | hj9 | hj9 | hj9 | hj9 | hj9 | hj9 : j = 0 ∨ j = 1 ∨ j = 2 ∨ j = 3 ∨ j = 4 ∨ j = 5 ∨ j = 6 := by omega
  · refine x_ti (y := nI 0) (by rw [hj9]) ?_
    refine lv_tableIn (tgt := 44) (off := 43) hx hb dX1_count_1 (by decide) (by decide) rfl (by decide) ?_
    refine lv_aload_n hx hb dX1_count_44 rfl (lv_at hl 0 rfl) ?_
    refine va_get (D := D) (ci := 1) (v := .ref (pal ad c)) (C := RX1) (T := TX1) (N := 11) hx hb hts hinX1 hown hK hP 0 rfl rfl 2 (by decide) lk21 (fun _ h9 => h9) rfl dX1_count_45 ?_
    refine x_colours hx hb hts hinX0 hown hK hP (palX hpal hc) (hB.2.2.2.2.1 _ (by simp [Nws])) dX1_count_48 ?_
    exact W.iret (v := nI (c)) hx hb hr (fun t ht hW => ⟨_, rfl, (by
        subst hj9; rfl), ht⟩) (fun _ h => nomatch h) dX1_count_51
  · refine x_ti (y := nI 1) (by rw [hj9]) ?_
    refine lv_tableIn (tgt := 52) (off := 51) hx hb dX1_count_1 (by decide) (by decide) rfl (by decide) ?_
    refine lv_aload_n hx hb dX1_count_52 rfl (lv_at hl 0 rfl) ?_
    refine va_get (D := D) (ci := 1) (v := .ref (pal ad c)) (C := RX1) (T := TX1) (N := 11) hx hb hts hinX1 hown hK hP 0 rfl rfl 2 (by decide) lk21 (fun _ h9 => h9) rfl dX1_count_53 ?_
    refine x_codes hx hb hts hinX0 hown hK hP (palX hpal hc) (hB.2.2.2.2.1 _ (by simp [Nws])) dX1_count_56 ?_
    exact W.iret (v := nI (qq c)) hx hb hr (fun t ht hW => ⟨_, rfl, (by
        subst hj9; rfl), ht⟩) (fun _ h => nomatch h) dX1_count_59
  · refine x_ti (y := nI 2) (by rw [hj9]) ?_
    refine lv_tableIn (tgt := 60) (off := 59) hx hb dX1_count_1 (by decide) (by decide) rfl (by decide) ?_
    refine lv_aload_n hx hb dX1_count_60 rfl (lv_at hl 0 rfl) ?_
    refine va_get (D := D) (ci := 1) (v := .int (nI (g))) (C := RX1) (T := TX1) (N := 11) hx hb hts hinX1 hown hK hP 0 rfl rfl 4 (by decide) lk28 (fun _ h9 => h9) rfl dX1_count_61 ?_
    exact W.iret (v := nI (g)) hx hb hr (fun t ht hW => ⟨_, rfl, (by
        subst hj9; rfl), ht⟩) (fun _ h => nomatch h) dX1_count_64
  · refine x_ti (y := nI 3) (by rw [hj9]) ?_
    refine lv_tableIn (tgt := 65) (off := 64) hx hb dX1_count_1 (by decide) (by decide) rfl (by decide) ?_
    refine lv_aload_n hx hb dX1_count_65 rfl (lv_at hl 0 rfl) ?_
    refine va_get (D := D) (ci := 1) (v := .ref (ad 4)) (C := RX1) (T := TX1) (N := 11) hx hb hts hinX1 hown hK hP 0 rfl rfl 8 (by decide) lk42 (fun _ h9 => h9) rfl dX1_count_66 ?_
    refine x_csi (va_runS (As := [.ref (ad 4)]) (rest := []) ⟨hx, hb, hml, hown, hts⟩ (c_X1_size l D cI cZ cG cJ A (WX ad cI cZ c g hid code ans dbt opn ply hps wr) (ad 4) 4 opn (rfl)) (va_cwS 1 hts gX1_count_X1_size rfl rfl rfl (by decide +kernel) ⟨Nat.le_of_ble_eq_true rfl, Nat.le_of_ble_eq_true rfl⟩) (preS hB va_S.rf hP hD) rfl rfl hl.1 rfl (lv_room (Nat.le_of_ble_eq_true rfl)) dX1_count_69 ⟨Nat.le_of_ble_eq_true rfl, Nat.le_of_ble_eq_true rfl⟩) ?_
    exact W.iret (v := nI (cN opn 81)) hx hb hr (fun t ht hW => ⟨_, rfl, (by
        subst hj9; rw [cN_congr 81 hop]; rfl), ht⟩) (fun _ h => nomatch h) dX1_count_72
  · refine x_ti (y := nI 4) (by rw [hj9]) ?_
    refine lv_tableIn (tgt := 73) (off := 72) hx hb dX1_count_1 (by decide) (by decide) rfl (by decide) ?_
    refine lv_aload_n hx hb dX1_count_73 rfl (lv_at hl 0 rfl) ?_
    refine va_get (D := D) (ci := 1) (v := .int (hid)) (C := RX1) (T := TX1) (N := 11) hx hb hts hinX1 hown hK hP 0 rfl rfl 3 (by decide) lk24 (fun _ h9 => h9) rfl dX1_count_74 ?_
    refine lv_iconst (v := (-1)) hx hb dX1_count_77 (by decide) ?_
    refine lv_icmp_ne (tgt := 85) hx hb dX1_count_78 (by decide) (fun c78 => ?_) (fun c78 => ?_)
    · skip
      refine lv_iconst (v := nI (1)) hx hb dX1_count_85 (by decide) ?_
      exact W.iret (v := nI (1)) hx hb hr (fun t ht hW => ⟨_, rfl, (by
          subst hj9; first | (simp only [cntV, if_pos c78]; done) | (simp only [cntV, if_neg c78]; done)), ht⟩) (fun _ h => nomatch h) dX1_count_86
    · skip
      refine lv_iconst (v := nI (0)) hx hb dX1_count_81 (by decide) ?_
      refine lv_goto (tgt := 86) hx hb dX1_count_82 (by decide) ?_
      exact W.iret (v := nI (0)) hx hb hr (fun t ht hW => ⟨_, rfl, (by
          subst hj9; first | (simp only [cntV, if_pos c78]; done) | (simp only [cntV, if_neg c78]; done)), ht⟩) (fun _ h => nomatch h) dX1_count_86
  · refine x_ti (y := nI 5) (by rw [hj9]) ?_
    refine lv_tableIn (tgt := 87) (off := 86) hx hb dX1_count_1 (by decide) (by decide) rfl (by decide) ?_
    refine lv_aload_n hx hb dX1_count_87 rfl (lv_at hl 0 rfl) ?_
    refine x_csi (va_runV (As := []) (rest := []) ⟨hx, hb, hml, hown, hts⟩ (c_X1_countAllBlack l D cI cZ cG cJ A ad wr hpal c g hid code ans dbt opn ply hps (hg) (hc) (hco)) (cwV 0 hts gX1_count_X1_countAllBlack rfl rfl rfl (by decide +kernel) ⟨Nat.le_of_ble_eq_true rfl, Nat.le_of_ble_eq_true rfl⟩) (preV (ci := 1) (q0 := 0) hB va_S.rf hP hD rfl rfl) rfl rfl hl.1 rfl (lv_room (Nat.le_of_ble_eq_true rfl)) dX1_count_88 ⟨Nat.le_of_ble_eq_true rfl, Nat.le_of_ble_eq_true rfl⟩) ?_
    exact W.iret (v := nI (cN (fun z => decide (ans z = 20)) g)) hx hb hr (fun t ht hW => ⟨_, rfl, (by
        subst hj9; rfl), ht⟩) (fun _ h => nomatch h) dX1_count_91
  · refine x_ti (y := nI 6) (by rw [hj9]) ?_
    refine lv_tableIn (tgt := 92) (off := 91) hx hb dX1_count_1 (by decide) (by decide) rfl (by decide) ?_
    refine lv_aload_n hx hb dX1_count_92 rfl (lv_at hl 0 rfl) ?_
    refine x_csi (va_runV (As := []) (rest := []) ⟨hx, hb, hml, hown, hts⟩ (c_X1_countDoubted l D cI cZ cG cJ A ad wr hpal c g hid code ans dbt opn ply hps (hg)) (cwV 0 hts gX1_count_X1_countDoubted rfl rfl rfl (by decide +kernel) ⟨Nat.le_of_ble_eq_true rfl, Nat.le_of_ble_eq_true rfl⟩) (preV (ci := 1) (q0 := 0) hB va_S.rf hP hD rfl rfl) rfl rfl hl.1 rfl (lv_room (Nat.le_of_ble_eq_true rfl)) dX1_count_93 ⟨Nat.le_of_ble_eq_true rfl, Nat.le_of_ble_eq_true rfl⟩) ?_
    exact W.iret (v := nI (cN dbt g)) hx hb hr (fun t ht hW => ⟨_, rfl, (by
        subst hj9; rfl), ht⟩) (fun _ h => nomatch h) dX1_count_96

set_option maxHeartbeats 4000000 in
set_option maxRecDepth 100000 in
theorem c_X1_isPossible (l : Launch) (hfl : l.flags = flags0) (D : va_G) (cI cZ cG cJ : ClassId) (A : Nat → Prop) (ad : Nat → Nat) (wr : va_W) (hpal : Pals cI cG ad wr) (c : Nat) (g : Nat) (hid : Int32) (code : Nat → Nat) (ans : Nat → Nat) (dbt : Nat → Bool) (opn : Nat → Bool) (ply : Nat → Bool) (hps : Nat → Nat) (v : Int32) (hI : XI c g hid code ans dbt opn) : vx_Met l yX1_isPossible wsX1_isPossible ({ frames := 7, cells := 1, slots := 6, locals := 103 }) (va_Pc [.ref (ad 0), .int (v)] (Iv D (TY cI cZ cG cJ) A (WX ad cI cZ c g hid code ans dbt opn ply hps wr))) (va_Qi (fun r (u : Nat) => r = bI (opS c g code ans dbt u) ∧ u < qq c ∧ v = nI u) (fun u => Wd D A (WX ad cI cZ c g hid code ans dbt opn ply hps wr)) A) (Xw D A (WX ad cI cZ c g hid code ans dbt opn ply hps wr) (fun E => E = "java/lang/IndexOutOfBoundsException" ∧ hasC c v = false)) 1 6 A := by
  refine vx_ofW (cc := cX1_isPossible) (maxL := 2) (ret := (some .boolean)) (by decide) rfl ?_
  intro p e s m args below meth c9 s₁ B hml hnt hv
  obtain ⟨rfl, hP, hD, hB⟩ := hv
  have hK := hB.1
  have hA := hB.2.1
  have hx := B.exec
  have hb := B.bytes
  have hr := B.returns
  have hts := atoms_spec (ws := wsX1_isPossible) B.pre
  have hown : s.vm.findClass RX1 = some m.cls := findClass_of_methodNamed B.named
  have hlocks := B.notSynchronized
  have hS : va_S A s.heap s.heap [] := va_S.rf
  have hflag : l.stackTraces = false := by rw [Launch.stackTraces, hfl]; decide
  have hinX1 : ∀ w ∈ wsX10, w ∈ wsX1_isPossible := by decide +kernel
  have lk42 := hts (.fieldLink RX1 42 "HiddenCandles" "open" "[Z") (by decide +kernel)
  have hl := lv_entry ([.ref (ad 0), .int (v)]) (n := 2) (Nat.le_of_ble_eq_true rfl)
  rw [lg_entry_eq]
  generalize (lg_sl ([.ref (ad 0), .int (v)]) ++ List.replicate (2 - (lg_sl ([.ref (ad 0), .int (v)])).length) Slot.unset).toArray = ls at hl ⊢
  have hl : lv_has ls 2 [(0, .ref (ad 0)), (1, .int (v))] := hl
  obtain ⟨H, eH⟩ : ∃ q, q = s.heap := ⟨_, rfl⟩
  obtain ⟨locs, eL⟩ : ∃ q : List Loc, q = [] := ⟨_, rfl⟩
  replace hP : va_P D vwCl (WX ad cI cZ c g hid code ans dbt opn ply hps wr) H := by rw [eH]; exact hP
  replace hS : va_S A s.heap H locs := by rw [eH, eL]; exact hS
  rw [show W p l e _ s m _ below meth c9 s.heap [] = W p l e _ s m _ below meth c9 H locs from by rw [eH, eL]]
  clear eH eL
  obtain ⟨hc, hg, hco, hhid, hop⟩ := id hI
  have hq := qq_in hc
  have hop2 := op_lt hop
  refine lv_aload_n hx hb dX1_isPossible_0 rfl (lv_at hl 0 rfl) ?_
  refine lv_iload_n hx hb dX1_isPossible_1 rfl (lv_at hl 1 rfl) ?_
  refine vx_callv (vx_runV (As := [.int (v)]) (rest := []) ⟨hx, hb, hml, hown, hts⟩ (c_X1_needCode l hfl D cI cZ cG cJ A ad wr hpal c g hid code ans dbt opn ply hps v (hc)) (cwV 1 hts gX1_isPossible_X1_needCode rfl rfl rfl (by decide +kernel) ⟨Nat.le_of_ble_eq_true rfl, Nat.le_of_ble_eq_true rfl⟩) (preV (ci := 1) (q0 := 0) hB hS hP hD rfl rfl) rfl rfl hl.1 rfl (lv_room (Nat.le_of_ble_eq_true rfl)) dX1_isPossible_2 ⟨Nat.le_of_ble_eq_true rfl, Nat.le_of_ble_eq_true rfl⟩) hS (fun q _ h => h) (fun q h => h) (fun q _ h => h) (fun E ce q9 u9 t9 H1 locs1 ht9 hvm9 hpx8 hBx hz9 hk9 hS hq9 hv9 hcl9 => ?_) (fun u_2 t9 H1 locs1 ht9 hvm9 hw_2 hBw hz9 hk9 hS => ?_)
  · obtain ⟨hpx9, hP1, hD1⟩ := hBx
    rw [ht9] at hP1
    exact vx_out (fun x hx9 => (hnt x hx9).elim) hlocks hq9 hv9 hcl9 (fun t ht hvm => ⟨(), trivial, ⟨(by
        exact hpx9), by rw [ht]; exact hP1, hD1⟩, hS.F ht⟩) hS.2.2 (by omega) (by omega)
  obtain ⟨hP, hD⟩ := hBw
  rw [ht9] at hP
  generalize H1 = H at hP hS ⊢
  generalize locs1 = locs at hS ⊢
  replace hP : va_P D vwCl (WX ad cI cZ c g hid code ans dbt opn ply hps wr) H := hP
  replace hD : va_D A (WX ad cI cZ c g hid code ans dbt opn ply hps wr) := hD
  obtain ⟨k, hk, rfl⟩ := hasC_of hc hw_2
  refine lv_aload_n hx hb dX1_isPossible_5 rfl (lv_at hl 0 rfl) ?_
  refine va_get (D := D) (ci := 1) (v := .ref (ad 4)) (C := RX1) (T := TX1) (N := 11) hx hb hts hinX1 hown hK hP 0 rfl rfl 8 (by decide) lk42 (fun _ h9 => h9) rfl dX1_isPossible_6 ?_
  refine lv_iload_n hx hb dX1_isPossible_9 rfl (lv_at hl 1 rfl) ?_
  refine x_csi (va_runS (As := [.ref (ad 4), .int (nI (k))]) (rest := []) ⟨hx, hb, hml, hown, hts⟩ (c_X1_isIn l D cI cZ cG cJ A (WX ad cI cZ c g hid code ans dbt opn ply hps wr) (ad 4) 4 opn k (rfl) (by omega)) (va_cwS 2 hts gX1_isPossible_X1_isIn rfl rfl rfl (by decide +kernel) ⟨Nat.le_of_ble_eq_true rfl, Nat.le_of_ble_eq_true rfl⟩) (preS hB hS hP hD) rfl rfl hl.1 rfl (lv_room (Nat.le_of_ble_eq_true rfl)) dX1_isPossible_10 ⟨Nat.le_of_ble_eq_true rfl, Nat.le_of_ble_eq_true rfl⟩) ?_
  refine W.widen (k := 1) (n := 6) (Nat.le_of_ble_eq_true rfl) (Nat.le_of_ble_eq_true rfl) ?_
  exact vx_ret (W.zret (v := bI (opn k)) hx hb hr (bI_narrow _) (fun t ht hW => ⟨⟨_, k, rfl, (by
      exact ⟨by rw [hop k (by omega)], hk, rfl⟩), ⟨by rw [ht]; exact hP, hD⟩⟩, hS.F ht⟩) hS.2.2 dX1_isPossible_13)

set_option maxHeartbeats 4000000 in
set_option maxRecDepth 100000 in
theorem c_X1_possible (l : Launch) (hfl : l.flags = flags0) (D : va_G) (cI cZ cG cJ : ClassId) (A : Nat → Prop) (ad : Nat → Nat) (wr : va_W) (hpal : Pals cI cG ad wr) (c : Nat) (g : Nat) (hid : Int32) (code : Nat → Nat) (ans : Nat → Nat) (dbt : Nat → Bool) (opn : Nat → Bool) (ply : Nat → Bool) (hps : Nat → Nat) (v : Int32) (hI : XI c g hid code ans dbt opn) : vx_Met l yX1_possible wsX1_possible ({ frames := 6, cells := 1, slots := 6, locals := 82 }) (va_Pc [.ref (ad 0), .int (v)] (Iv D (TY cI cZ cG cJ) A (WX ad cI cZ c g hid code ans dbt opn ply hps wr))) (va_Qi (fun r (u : Unit) => r = memA (opS c g code ans dbt) v 81 ∧ ¬ memA (opS c g code ans dbt) v 81 = -1) (fun u => Wd D A (WX ad cI cZ c g hid code ans dbt opn ply hps wr)) A) (Xw D A (WX ad cI cZ c g hid code ans dbt opn ply hps wr) (fun E => E = "java/lang/IndexOutOfBoundsException" ∧ memA (opS c g code ans dbt) v 81 = -1)) 1 6 A := by
  refine vx_ofW (cc := cX1_possible) (maxL := 3) (ret := (some .int)) (by decide) rfl ?_
  intro p e s m args below meth c9 s₁ B hml hnt hv
  obtain ⟨rfl, hP, hD, hB⟩ := hv
  have hK := hB.1
  have hA := hB.2.1
  have hx := B.exec
  have hb := B.bytes
  have hr := B.returns
  have hts := atoms_spec (ws := wsX1_possible) B.pre
  have hown : s.vm.findClass RX1 = some m.cls := findClass_of_methodNamed B.named
  have hlocks := B.notSynchronized
  have hS : va_S A s.heap s.heap [] := va_S.rf
  have hflag : l.stackTraces = false := by rw [Launch.stackTraces, hfl]; decide
  have hinX1 : ∀ w ∈ wsX10, w ∈ wsX1_possible := by decide +kernel
  have lk42 := hts (.fieldLink RX1 42 "HiddenCandles" "open" "[Z") (by decide +kernel)
  have hl := lv_entry ([.ref (ad 0), .int (v)]) (n := 3) (Nat.le_of_ble_eq_true rfl)
  rw [lg_entry_eq]
  generalize (lg_sl ([.ref (ad 0), .int (v)]) ++ List.replicate (3 - (lg_sl ([.ref (ad 0), .int (v)])).length) Slot.unset).toArray = ls at hl ⊢
  have hl : lv_has ls 3 [(0, .ref (ad 0)), (1, .int (v))] := hl
  obtain ⟨H, eH⟩ : ∃ q, q = s.heap := ⟨_, rfl⟩
  obtain ⟨locs, eL⟩ : ∃ q : List Loc, q = [] := ⟨_, rfl⟩
  replace hP : va_P D vwCl (WX ad cI cZ c g hid code ans dbt opn ply hps wr) H := by rw [eH]; exact hP
  replace hS : va_S A s.heap H locs := by rw [eH, eL]; exact hS
  rw [show W p l e _ s m _ below meth c9 s.heap [] = W p l e _ s m _ below meth c9 H locs from by rw [eH, eL]]
  clear eH eL
  obtain ⟨hc, hg, hco, hhid, hop⟩ := id hI
  have hq := qq_in hc
  have hop2 := op_lt hop
  refine lv_aload_n hx hb dX1_possible_0 rfl (lv_at hl 0 rfl) ?_
  refine va_get (D := D) (ci := 1) (v := .ref (ad 4)) (C := RX1) (T := TX1) (N := 11) hx hb hts hinX1 hown hK hP 0 rfl rfl 8 (by decide) lk42 (fun _ h9 => h9) rfl dX1_possible_1 ?_
  refine lv_iload_n hx hb dX1_possible_4 rfl (lv_at hl 1 rfl) ?_
  refine x_csi (va_runS (As := [.ref (ad 4), .int (v)]) (rest := []) ⟨hx, hb, hml, hown, hts⟩ (c_X1_memberAt l D cI cZ cG cJ A (WX ad cI cZ c g hid code ans dbt opn ply hps wr) (ad 4) 4 opn v (rfl)) (va_cwS 2 hts gX1_possible_X1_memberAt rfl rfl rfl (by decide +kernel) ⟨Nat.le_of_ble_eq_true rfl, Nat.le_of_ble_eq_true rfl⟩) (preS hB hS hP hD) rfl rfl hl.1 rfl (lv_room (Nat.le_of_ble_eq_true rfl)) dX1_possible_5 ⟨Nat.le_of_ble_eq_true rfl, Nat.le_of_ble_eq_true rfl⟩) ?_
  refine x_ti (y := memA (opS c g code ans dbt) v 81) (by rw [memA_congr hop]) ?_
  refine lv_istore_n (lv' := [(2, .int (memA (opS c g code ans dbt) v 81)), (0, .ref (ad 0)), (1, .int (v))]) hx hb dX1_possible_8 rfl hl (by decide) rfl (fun ls hl => ?_)
  refine lv_iload_n hx hb dX1_possible_9 rfl (lv_at hl 0 rfl) ?_
  refine lv_iconst (v := (-1)) hx hb dX1_possible_10 (by decide) ?_
  refine lv_icmp_ne (tgt := 24) hx hb dX1_possible_11 (by decide) (fun c11 => ?_) (fun c11 => ?_)
  · skip
    refine lv_iload_n hx hb dX1_possible_24 rfl (lv_at hl 0 rfl) ?_
    refine W.widen (k := 1) (n := 6) (Nat.le_of_ble_eq_true rfl) (Nat.le_of_ble_eq_true rfl) ?_
    exact vx_ret (W.iret (v := memA (opS c g code ans dbt) v 81) hx hb hr (fun t ht hW => ⟨⟨_, (), rfl, (by
        exact ⟨rfl, c11⟩), ⟨by rw [ht]; exact hP, hD⟩⟩, hS.F ht⟩) hS.2.2 dX1_possible_25)
  · skip
    obtain ⟨sa9, hsa9⟩ := hB.2.2.2.2.2.1 (134, "no such place among the possible codes") (by decide)
    have hat9 : ∀ w ∈ (vx_atS RX1 99 "java/lang/IndexOutOfBoundsException" ["java/lang/RuntimeException", "java/lang/Exception"]), w.before _ s = true := vx_hat (B := [.castable "java/lang/IndexOutOfBoundsException" "java/lang/IndexOutOfBoundsException", .declares (Bundle.initS "java/lang/RuntimeException"), .declares (Bundle.initS "java/lang/Exception"), .declares (Bundle.initS Bundle.tN)]) (fun w hw => hts w (by first | exact List.mem_cons_of_mem _ (List.mem_append_right _ hw) | exact List.mem_cons_of_mem _ (List.mem_append_left _ (List.mem_append_right _ hw)) | exact List.mem_cons_of_mem _ (List.mem_append_left _ (List.mem_append_left _ (List.mem_append_right _ hw))))) (by decide +kernel) (vx_c (va_Nw.use rfl (hB.2.2.2.2.1 _ (by simp [Nws]))) (vx_c (va_Nw.use rfl (hB.2.2.2.2.1 _ (by simp [Nws]))) (vx_c (va_Nw.use rfl (hB.2.2.2.2.1 _ (by simp [Nws]))) (vx_c (va_Nw.use rfl (hB.2.2.2.2.1 _ (by simp [Nws]))) vx_n))))
    exact vx_throwS (A := A) (names := ["java/lang/RuntimeException", "java/lang/Exception"]) (cls := "java/lang/IndexOutOfBoundsException") hx hb hflag hown (by decide +kernel) (by decide +kernel) (hts _ (by decide +kernel)) (hts _ (by decide +kernel)) hsa9 hat9 (by decide +kernel) hB.2.2.1 hB.2.2.2.1 hS (hl.1.trans hml.symm) dX1_possible_14 dX1_possible_17 dX1_possible_18 dX1_possible_20 dX1_possible_23 (fun x hx9 => (hnt x hx9).elim) (Nat.le_of_ble_eq_true rfl) (Nat.le_of_ble_eq_true rfl) (Nat.le_of_ble_eq_true rfl) (Nat.le_of_ble_eq_true rfl) hlocks (fun t hvm hsz hk => ⟨(), trivial, ⟨(by
        exact ⟨rfl, c11⟩), ⟨va_P.kept hP (fun k q hk9 => hk _ (hP k q hk9).lt), hD⟩⟩, ⟨Nat.le_trans hS.1 hsz, fun q h1 h2 => (hk q (Nat.lt_of_lt_of_le h1 hS.1)).trans (hS.2.1 q h1 h2)⟩⟩) hS.2.2 (Nat.le_of_ble_eq_true rfl) (Nat.le_of_ble_eq_true rfl)

set_option maxHeartbeats 4000000 in
set_option maxRecDepth 100000 in
theorem c_X1_have (l : Launch) (hfl : l.flags = flags0) (D : va_G) (cI cZ cG cJ : ClassId) (A : Nat → Prop) (ad : Nat → Nat) (wr : va_W) (hpal : Pals cI cG ad wr) (c : Nat) (g : Nat) (hid : Int32) (code : Nat → Nat) (ans : Nat → Nat) (dbt : Nat → Bool) (opn : Nat → Bool) (ply : Nat → Bool) (hps : Nat → Nat) (pl : Int32) (x : Int32) (hI : XI c g hid code ans dbt opn) : vx_Met l yX1_have wsX1_have ({ frames := 7, cells := 2, slots := 12, locals := 102 }) (va_Pc [.ref (ad 0), .int (pl), .int (x)] (Iv D (TY cI cZ cG cJ) A (WX ad cI cZ c g hid code ans dbt opn ply hps wr))) (va_Qi (fun r (u : Nat × Nat) => r = nI (hvN c (opS c g code ans dbt) u.1 u.2) ∧ u.1 < 4 ∧ pl = nI u.1 ∧ u.2 < c ∧ x = nI u.2) (fun u => Wd D A (WX ad cI cZ c g hid code ans dbt opn ply hps wr)) A) (Xw D A (WX ad cI cZ c g hid code ans dbt opn ply hps wr) (fun E => E = "java/lang/IndexOutOfBoundsException" ∧ (plC pl = false ∨ rgC c x = false))) 2 12 A := by
  refine vx_ofW (cc := cX1_have) (maxL := 3) (ret := (some .int)) (by decide) rfl ?_
  intro p e s m args below meth c9 s₁ B hml hnt hv
  obtain ⟨rfl, hP, hD, hB⟩ := hv
  have hK := hB.1
  have hA := hB.2.1
  have hx := B.exec
  have hb := B.bytes
  have hr := B.returns
  have hts := atoms_spec (ws := wsX1_have) B.pre
  have hown : s.vm.findClass RX1 = some m.cls := findClass_of_methodNamed B.named
  have hlocks := B.notSynchronized
  have hS : va_S A s.heap s.heap [] := va_S.rf
  have hflag : l.stackTraces = false := by rw [Launch.stackTraces, hfl]; decide
  have hinX0 : ∀ w ∈ wsX00, w ∈ wsX1_have := by decide +kernel
  have hinX1 : ∀ w ∈ wsX10, w ∈ wsX1_have := by decide +kernel
  have lk21 := hts (.fieldLink RX1 21 "HiddenCandles" "palette" "LHiddenCandles$Palette;") (by decide +kernel)
  have hl := lv_entry ([.ref (ad 0), .int (pl), .int (x)]) (n := 3) (Nat.le_of_ble_eq_true rfl)
  rw [lg_entry_eq]
  generalize (lg_sl ([.ref (ad 0), .int (pl), .int (x)]) ++ List.replicate (3 - (lg_sl ([.ref (ad 0), .int (pl), .int (x)])).length) Slot.unset).toArray = ls at hl ⊢
  have hl : lv_has ls 3 [(0, .ref (ad 0)), (1, .int (pl)), (2, .int (x))] := hl
  obtain ⟨H, eH⟩ : ∃ q, q = s.heap := ⟨_, rfl⟩
  obtain ⟨locs, eL⟩ : ∃ q : List Loc, q = [] := ⟨_, rfl⟩
  replace hP : va_P D vwCl (WX ad cI cZ c g hid code ans dbt opn ply hps wr) H := by rw [eH]; exact hP
  replace hS : va_S A s.heap H locs := by rw [eH, eL]; exact hS
  rw [show W p l e _ s m _ below meth c9 s.heap [] = W p l e _ s m _ below meth c9 H locs from by rw [eH, eL]]
  clear eH eL
  obtain ⟨hc, hg, hco, hhid, hop⟩ := id hI
  have hq := qq_in hc
  have hop2 := op_lt hop
  refine lv_iload_n hx hb dX1_have_0 rfl (lv_at hl 1 rfl) ?_
  refine vx_callv (vx_runS (As := [.int (pl)]) (rest := []) ⟨hx, hb, hml, hown, hts⟩ (c_X1_needPlace l hfl D cI cZ cG cJ A (WX ad cI cZ c g hid code ans dbt opn ply hps wr) pl ) (va_cwS 1 hts gX1_have_X1_needPlace rfl rfl rfl (by decide +kernel) ⟨Nat.le_of_ble_eq_true rfl, Nat.le_of_ble_eq_true rfl⟩) (preS hB hS hP hD) rfl rfl hl.1 rfl (lv_room (Nat.le_of_ble_eq_true rfl)) dX1_have_1 ⟨Nat.le_of_ble_eq_true rfl, Nat.le_of_ble_eq_true rfl⟩) hS (fun q _ h => h) (fun q h => h) (fun q _ h => h) (fun E ce q9 u9 t9 H1 locs1 ht9 hvm9 hpx8 hBx hz9 hk9 hS hq9 hv9 hcl9 => ?_) (fun u_1 t9 H1 locs1 ht9 hvm9 hw_1 hBw hz9 hk9 hS => ?_)
  · obtain ⟨hpx9, hP1, hD1⟩ := hBx
    rw [ht9] at hP1
    exact vx_out (fun x hx9 => (hnt x hx9).elim) hlocks hq9 hv9 hcl9 (fun t ht hvm => ⟨(), trivial, ⟨(by
        exact ⟨hpx9.1, Or.inl hpx9.2⟩), by rw [ht]; exact hP1, hD1⟩, hS.F ht⟩) hS.2.2 (by omega) (by omega)
  obtain ⟨hP, hD⟩ := hBw
  rw [ht9] at hP
  generalize H1 = H at hP hS ⊢
  generalize locs1 = locs at hS ⊢
  replace hP : va_P D vwCl (WX ad cI cZ c g hid code ans dbt opn ply hps wr) H := hP
  replace hD : va_D A (WX ad cI cZ c g hid code ans dbt opn ply hps wr) := hD
  obtain ⟨p0, hp, rfl⟩ := plC_of hw_1
  refine lv_iload_n hx hb dX1_have_4 rfl (lv_at hl 2 rfl) ?_
  refine lv_if_lt (tgt := 19) hx hb dX1_have_5 (by decide) (fun c5 => ?_) (fun c5 => ?_)
  · skip
    obtain ⟨sa9, hsa9⟩ := hB.2.2.2.2.2.1 (136, "no such colour") (by decide)
    have hat9 : ∀ w ∈ (vx_atS RX1 99 "java/lang/IndexOutOfBoundsException" ["java/lang/RuntimeException", "java/lang/Exception"]), w.before _ s = true := vx_hat (B := [.castable "java/lang/IndexOutOfBoundsException" "java/lang/IndexOutOfBoundsException", .declares (Bundle.initS "java/lang/RuntimeException"), .declares (Bundle.initS "java/lang/Exception"), .declares (Bundle.initS Bundle.tN)]) (fun w hw => hts w (by first | exact List.mem_cons_of_mem _ (List.mem_append_right _ hw) | exact List.mem_cons_of_mem _ (List.mem_append_left _ (List.mem_append_right _ hw)) | exact List.mem_cons_of_mem _ (List.mem_append_left _ (List.mem_append_left _ (List.mem_append_right _ hw))))) (by decide +kernel) (vx_c (va_Nw.use rfl (hB.2.2.2.2.1 _ (by simp [Nws]))) (vx_c (va_Nw.use rfl (hB.2.2.2.2.1 _ (by simp [Nws]))) (vx_c (va_Nw.use rfl (hB.2.2.2.2.1 _ (by simp [Nws]))) (vx_c (va_Nw.use rfl (hB.2.2.2.2.1 _ (by simp [Nws]))) vx_n))))
    exact vx_throwS (A := A) (names := ["java/lang/RuntimeException", "java/lang/Exception"]) (cls := "java/lang/IndexOutOfBoundsException") hx hb hflag hown (by decide +kernel) (by decide +kernel) (hts _ (by decide +kernel)) (hts _ (by decide +kernel)) hsa9 hat9 (by decide +kernel) hB.2.2.1 hB.2.2.2.1 hS (hl.1.trans hml.symm) dX1_have_19 dX1_have_22 dX1_have_23 dX1_have_25 dX1_have_28 (fun x hx9 => (hnt x hx9).elim) (Nat.le_of_ble_eq_true rfl) (Nat.le_of_ble_eq_true rfl) (Nat.le_of_ble_eq_true rfl) (Nat.le_of_ble_eq_true rfl) hlocks (fun t hvm hsz hk => ⟨(), trivial, ⟨(by
        first | exact ⟨rfl, Or.inr (rgC_f1 c5)⟩ | exact ⟨rfl, Or.inr (rgC_f2 c16)⟩), ⟨va_P.kept hP (fun k q hk9 => hk _ (hP k q hk9).lt), hD⟩⟩, ⟨Nat.le_trans hS.1 hsz, fun q h1 h2 => (hk q (Nat.lt_of_lt_of_le h1 hS.1)).trans (hS.2.1 q h1 h2)⟩⟩) hS.2.2 (Nat.le_of_ble_eq_true rfl) (Nat.le_of_ble_eq_true rfl)
  · skip
    refine lv_iload_n hx hb dX1_have_8 rfl (lv_at hl 2 rfl) ?_
    refine lv_aload_n hx hb dX1_have_9 rfl (lv_at hl 0 rfl) ?_
    refine va_get (D := D) (ci := 1) (v := .ref (pal ad c)) (C := RX1) (T := TX1) (N := 11) hx hb hts hinX1 hown hK hP 0 rfl rfl 2 (by decide) lk21 (fun _ h9 => h9) rfl dX1_have_10 ?_
    refine x_colours hx hb hts hinX0 hown hK hP (palX hpal hc) (hB.2.2.2.2.1 _ (by simp [Nws])) dX1_have_13 ?_
    refine lv_icmp_lt (tgt := 29) hx hb dX1_have_16 (by decide) (fun c16 => ?_) (fun c16 => ?_)
    · skip
      obtain ⟨x0, hx0, rfl⟩ := rgC_of (rgC_t c5 c16) (by omega)
      refine lv_aload_n hx hb dX1_have_29 rfl (lv_at hl 0 rfl) ?_
      refine lv_iload_n hx hb dX1_have_30 rfl (lv_at hl 1 rfl) ?_
      refine lv_iload_n hx hb dX1_have_31 rfl (lv_at hl 2 rfl) ?_
      refine x_csi (va_runV (As := [.int (nI (p0)), .int (nI (x0))]) (rest := []) ⟨hx, hb, hml, hown, hts⟩ (c_X1_countHaving l D cI cZ cG cJ A ad wr hpal c g hid code ans dbt opn ply hps p0 x0 (hc) (hp) (hx0) (hop2)) (cwV 2 hts gX1_have_X1_countHaving rfl rfl rfl (by decide +kernel) ⟨Nat.le_of_ble_eq_true rfl, Nat.le_of_ble_eq_true rfl⟩) (preV (ci := 1) (q0 := 0) hB hS hP hD rfl rfl) rfl rfl hl.1 rfl (lv_room (Nat.le_of_ble_eq_true rfl)) dX1_have_32 ⟨Nat.le_of_ble_eq_true rfl, Nat.le_of_ble_eq_true rfl⟩) ?_
      refine x_ti (y := nI (hvN c (opS c g code ans dbt) p0 x0)) (by rw [hvN, hv_congr hop]) ?_
      refine W.widen (k := 2) (n := 12) (Nat.le_of_ble_eq_true rfl) (Nat.le_of_ble_eq_true rfl) ?_
      exact vx_ret (W.iret (v := nI (hvN c (opS c g code ans dbt) p0 x0)) hx hb hr (fun t ht hW => ⟨⟨_, (p0, x0), rfl, (by
          exact ⟨rfl, hp, rfl, hx0, rfl⟩), ⟨by rw [ht]; exact hP, hD⟩⟩, hS.F ht⟩) hS.2.2 dX1_have_35)
    · skip
      obtain ⟨sa9, hsa9⟩ := hB.2.2.2.2.2.1 (136, "no such colour") (by decide)
      have hat9 : ∀ w ∈ (vx_atS RX1 99 "java/lang/IndexOutOfBoundsException" ["java/lang/RuntimeException", "java/lang/Exception"]), w.before _ s = true := vx_hat (B := [.castable "java/lang/IndexOutOfBoundsException" "java/lang/IndexOutOfBoundsException", .declares (Bundle.initS "java/lang/RuntimeException"), .declares (Bundle.initS "java/lang/Exception"), .declares (Bundle.initS Bundle.tN)]) (fun w hw => hts w (by first | exact List.mem_cons_of_mem _ (List.mem_append_right _ hw) | exact List.mem_cons_of_mem _ (List.mem_append_left _ (List.mem_append_right _ hw)) | exact List.mem_cons_of_mem _ (List.mem_append_left _ (List.mem_append_left _ (List.mem_append_right _ hw))))) (by decide +kernel) (vx_c (va_Nw.use rfl (hB.2.2.2.2.1 _ (by simp [Nws]))) (vx_c (va_Nw.use rfl (hB.2.2.2.2.1 _ (by simp [Nws]))) (vx_c (va_Nw.use rfl (hB.2.2.2.2.1 _ (by simp [Nws]))) (vx_c (va_Nw.use rfl (hB.2.2.2.2.1 _ (by simp [Nws]))) vx_n))))
      exact vx_throwS (A := A) (names := ["java/lang/RuntimeException", "java/lang/Exception"]) (cls := "java/lang/IndexOutOfBoundsException") hx hb hflag hown (by decide +kernel) (by decide +kernel) (hts _ (by decide +kernel)) (hts _ (by decide +kernel)) hsa9 hat9 (by decide +kernel) hB.2.2.1 hB.2.2.2.1 hS (hl.1.trans hml.symm) dX1_have_19 dX1_have_22 dX1_have_23 dX1_have_25 dX1_have_28 (fun x hx9 => (hnt x hx9).elim) (Nat.le_of_ble_eq_true rfl) (Nat.le_of_ble_eq_true rfl) (Nat.le_of_ble_eq_true rfl) (Nat.le_of_ble_eq_true rfl) hlocks (fun t hvm hsz hk => ⟨(), trivial, ⟨(by
          first | exact ⟨rfl, Or.inr (rgC_f1 c5)⟩ | exact ⟨rfl, Or.inr (rgC_f2 c16)⟩), ⟨va_P.kept hP (fun k q hk9 => hk _ (hP k q hk9).lt), hD⟩⟩, ⟨Nat.le_trans hS.1 hsz, fun q h1 h2 => (hk q (Nat.lt_of_lt_of_le h1 hS.1)).trans (hS.2.1 q h1 h2)⟩⟩) hS.2.2 (Nat.le_of_ble_eq_true rfl) (Nat.le_of_ble_eq_true rfl)

set_option maxHeartbeats 4000000 in
set_option maxRecDepth 100000 in
theorem c_X1_haveP (l : Launch) (D : va_G) (cI cZ cG cJ : ClassId) (A : Nat → Prop) (ad : Nat → Nat) (wr : va_W) (hpal : Pals cI cG ad wr) (c : Nat) (g : Nat) (hid : Int32) (code : Nat → Nat) (ans : Nat → Nat) (dbt : Nat → Bool) (opn : Nat → Bool) (ply : Nat → Bool) (hps : Nat → Nat) (p0 : Nat) (x0 : Nat) (hI : XI c g hid code ans dbt opn) (hp : p0 < 4) (hx0 : x0 < c) : Met l yX1_have wsX1_have ({ frames := 3, cells := 0, slots := 0, locals := 67 }) (va_Pc [.ref (ad 0), .int (nI (p0)), .int (nI (x0))] (Iv D (TY cI cZ cG cJ) A (WX ad cI cZ c g hid code ans dbt opn ply hps wr))) (vp_Si (fun r => r = nI (hvN c (opS c g code ans dbt) p0 x0))) 0 0 (fun _ => False) := by
  refine Met.ofW (cc := cX1_have) (maxL := 3) (ret := (some .int)) (by decide) rfl ?_
  intro p e s m args below meth c9 s₁ B hml hv
  obtain ⟨rfl, hP, hD, hB⟩ := hv
  have hK := hB.1
  have hA := hB.2.1
  have hx := B.exec
  have hb := B.bytes
  have hr := B.returns
  have hts := atoms_spec (ws := wsX1_have) B.pre
  have hown : s.vm.findClass RX1 = some m.cls := findClass_of_methodNamed B.named
  have hlocks := B.notSynchronized
  have hS : va_S A s.heap s.heap [] := va_S.rf
  have hinX0 : ∀ w ∈ wsX00, w ∈ wsX1_have := by decide +kernel
  have hinX1 : ∀ w ∈ wsX10, w ∈ wsX1_have := by decide +kernel
  have lk21 := hts (.fieldLink RX1 21 "HiddenCandles" "palette" "LHiddenCandles$Palette;") (by decide +kernel)
  have hl := lv_entry ([.ref (ad 0), .int (nI (p0)), .int (nI (x0))]) (n := 3) (Nat.le_of_ble_eq_true rfl)
  rw [lg_entry_eq]
  generalize (lg_sl ([.ref (ad 0), .int (nI (p0)), .int (nI (x0))]) ++ List.replicate (3 - (lg_sl ([.ref (ad 0), .int (nI (p0)), .int (nI (x0))])).length) Slot.unset).toArray = ls at hl ⊢
  have hl : lv_has ls 3 [(0, .ref (ad 0)), (1, .int (nI (p0))), (2, .int (nI (x0)))] := hl
  obtain ⟨hc, hg, hco, hhid, hop⟩ := id hI
  have hq := qq_in hc
  have hop2 := op_lt hop
  refine lv_iload_n hx hb dX1_have_0 rfl (lv_at hl 1 rfl) ?_
  refine va_csv (va_Run.run (va_runS (As := [.int (nI (p0))]) (rest := []) ⟨hx, hb, hml, hown, hts⟩ (c_X1_needPlaceP l D cI cZ cG cJ A (WX ad cI cZ c g hid code ans dbt opn ply hps wr) p0 (hp)) (va_cwS 1 hts gX1_have_X1_needPlace rfl rfl rfl (by decide +kernel) ⟨Nat.le_of_ble_eq_true rfl, Nat.le_of_ble_eq_true rfl⟩) (preS hB va_S.rf hP hD) rfl rfl hl.1 rfl (lv_room (Nat.le_of_ble_eq_true rfl)) dX1_have_1 ⟨Nat.le_of_ble_eq_true rfl, Nat.le_of_ble_eq_true rfl⟩)) (fun _ => ?_)
  refine lv_iload_n hx hb dX1_have_4 rfl (lv_at hl 2 rfl) ?_
  refine x_lt0 (tgt := 19) hx hb dX1_have_5 (by decide) (by omega) ?_
  refine lv_iload_n hx hb dX1_have_8 rfl (lv_at hl 2 rfl) ?_
  refine lv_aload_n hx hb dX1_have_9 rfl (lv_at hl 0 rfl) ?_
  refine va_get (D := D) (ci := 1) (v := .ref (pal ad c)) (C := RX1) (T := TX1) (N := 11) hx hb hts hinX1 hown hK hP 0 rfl rfl 2 (by decide) lk21 (fun _ h9 => h9) rfl dX1_have_10 ?_
  refine x_colours hx hb hts hinX0 hown hK hP (palX hpal hc) (hB.2.2.2.2.1 _ (by simp [Nws])) dX1_have_13 ?_
  refine x_lt (tgt := 29) hx hb dX1_have_16 (by decide) (by omega) (by omega) (fun c16 => ?_) (fun c16 => absurd c16 (by omega))
  refine lv_aload_n hx hb dX1_have_29 rfl (lv_at hl 0 rfl) ?_
  refine lv_iload_n hx hb dX1_have_30 rfl (lv_at hl 1 rfl) ?_
  refine lv_iload_n hx hb dX1_have_31 rfl (lv_at hl 2 rfl) ?_
  refine x_csi (va_runV (As := [.int (nI (p0)), .int (nI (x0))]) (rest := []) ⟨hx, hb, hml, hown, hts⟩ (c_X1_countHaving l D cI cZ cG cJ A ad wr hpal c g hid code ans dbt opn ply hps p0 x0 (hc) (hp) (hx0) (hop2)) (cwV 2 hts gX1_have_X1_countHaving rfl rfl rfl (by decide +kernel) ⟨Nat.le_of_ble_eq_true rfl, Nat.le_of_ble_eq_true rfl⟩) (preV (ci := 1) (q0 := 0) hB va_S.rf hP hD rfl rfl) rfl rfl hl.1 rfl (lv_room (Nat.le_of_ble_eq_true rfl)) dX1_have_32 ⟨Nat.le_of_ble_eq_true rfl, Nat.le_of_ble_eq_true rfl⟩) ?_
  refine x_ti (y := nI (hvN c (opS c g code ans dbt) p0 x0)) (by rw [hvN, hv_congr hop]) ?_
  exact W.iret (v := nI (hvN c (opS c g code ans dbt) p0 x0)) hx hb hr (fun t ht hW => ⟨_, rfl, (by
      rfl), ht⟩) (fun _ h => nomatch h) dX1_have_35

set_option maxHeartbeats 4000000 in
set_option maxRecDepth 100000 in
theorem c_X1_sure (l : Launch) (hfl : l.flags = flags0) (D : va_G) (cI cZ cG cJ : ClassId) (A : Nat → Prop) (ad : Nat → Nat) (wr : va_W) (hpal : Pals cI cG ad wr) (c : Nat) (g : Nat) (hid : Int32) (code : Nat → Nat) (ans : Nat → Nat) (dbt : Nat → Bool) (opn : Nat → Bool) (ply : Nat → Bool) (hps : Nat → Nat) (pl : Int32) (hI : XI c g hid code ans dbt opn) : vx_Met l yX1_sure wsX1_sure ({ frames := 7, cells := 1, slots := 6, locals := 102 }) (va_Pc [.ref (ad 0), .int (pl)] (Iv D (TY cI cZ cG cJ) A (WX ad cI cZ c g hid code ans dbt opn ply hps wr))) (va_Qi (fun r (u : Nat) => r = sureV c (opS c g code ans dbt) u c ∧ u < 4 ∧ pl = nI u) (fun u => Wd D A (WX ad cI cZ c g hid code ans dbt opn ply hps wr)) A) (Xw D A (WX ad cI cZ c g hid code ans dbt opn ply hps wr) (fun E => E = "java/lang/IndexOutOfBoundsException" ∧ plC pl = false)) 1 6 A := by
  refine vx_ofW (cc := cX1_sure) (maxL := 4) (ret := (some .int)) (by decide) rfl ?_
  intro p e s m args below meth c9 s₁ B hml hnt hv
  obtain ⟨rfl, hP, hD, hB⟩ := hv
  have hK := hB.1
  have hA := hB.2.1
  have hx := B.exec
  have hb := B.bytes
  have hr := B.returns
  have hts := atoms_spec (ws := wsX1_sure) B.pre
  have hown : s.vm.findClass RX1 = some m.cls := findClass_of_methodNamed B.named
  have hlocks := B.notSynchronized
  have hS : va_S A s.heap s.heap [] := va_S.rf
  have hflag : l.stackTraces = false := by rw [Launch.stackTraces, hfl]; decide
  have hinX1 : ∀ w ∈ wsX10, w ∈ wsX1_sure := by decide +kernel
  have lk21 := hts (.fieldLink RX1 21 "HiddenCandles" "palette" "LHiddenCandles$Palette;") (by decide +kernel)
  have lk42 := hts (.fieldLink RX1 42 "HiddenCandles" "open" "[Z") (by decide +kernel)
  have hl := lv_entry ([.ref (ad 0), .int (pl)]) (n := 4) (Nat.le_of_ble_eq_true rfl)
  rw [lg_entry_eq]
  generalize (lg_sl ([.ref (ad 0), .int (pl)]) ++ List.replicate (4 - (lg_sl ([.ref (ad 0), .int (pl)])).length) Slot.unset).toArray = ls at hl ⊢
  have hl : lv_has ls 4 [(0, .ref (ad 0)), (1, .int (pl))] := hl
  obtain ⟨H, eH⟩ : ∃ q, q = s.heap := ⟨_, rfl⟩
  obtain ⟨locs, eL⟩ : ∃ q : List Loc, q = [] := ⟨_, rfl⟩
  replace hP : va_P D vwCl (WX ad cI cZ c g hid code ans dbt opn ply hps wr) H := by rw [eH]; exact hP
  replace hS : va_S A s.heap H locs := by rw [eH, eL]; exact hS
  rw [show W p l e _ s m _ below meth c9 s.heap [] = W p l e _ s m _ below meth c9 H locs from by rw [eH, eL]]
  clear eH eL
  obtain ⟨hc, hg, hco, hhid, hop⟩ := id hI
  have hq := qq_in hc
  have hop2 := op_lt hop
  refine lv_iload_n hx hb dX1_sure_0 rfl (lv_at hl 1 rfl) ?_
  refine vx_callv (vx_runS (As := [.int (pl)]) (rest := []) ⟨hx, hb, hml, hown, hts⟩ (c_X1_needPlace l hfl D cI cZ cG cJ A (WX ad cI cZ c g hid code ans dbt opn ply hps wr) pl ) (va_cwS 1 hts gX1_sure_X1_needPlace rfl rfl rfl (by decide +kernel) ⟨Nat.le_of_ble_eq_true rfl, Nat.le_of_ble_eq_true rfl⟩) (preS hB hS hP hD) rfl rfl hl.1 rfl (lv_room (Nat.le_of_ble_eq_true rfl)) dX1_sure_1 ⟨Nat.le_of_ble_eq_true rfl, Nat.le_of_ble_eq_true rfl⟩) hS (fun q _ h => h) (fun q h => h) (fun q _ h => h) (fun E ce q9 u9 t9 H1 locs1 ht9 hvm9 hpx8 hBx hz9 hk9 hS hq9 hv9 hcl9 => ?_) (fun u_1 t9 H1 locs1 ht9 hvm9 hw_1 hBw hz9 hk9 hS => ?_)
  · obtain ⟨hpx9, hP1, hD1⟩ := hBx
    rw [ht9] at hP1
    exact vx_out (fun x hx9 => (hnt x hx9).elim) hlocks hq9 hv9 hcl9 (fun t ht hvm => ⟨(), trivial, ⟨(by
        exact hpx9), by rw [ht]; exact hP1, hD1⟩, hS.F ht⟩) hS.2.2 (by omega) (by omega)
  obtain ⟨hP, hD⟩ := hBw
  rw [ht9] at hP
  generalize H1 = H at hP hS ⊢
  generalize locs1 = locs at hS ⊢
  replace hP : va_P D vwCl (WX ad cI cZ c g hid code ans dbt opn ply hps wr) H := hP
  replace hD : va_D A (WX ad cI cZ c g hid code ans dbt opn ply hps wr) := hD
  obtain ⟨p0, hp, rfl⟩ := plC_of hw_1
  refine lv_aload_n hx hb dX1_sure_4 rfl (lv_at hl 0 rfl) ?_
  refine va_get (D := D) (ci := 1) (v := .ref (ad 4)) (C := RX1) (T := TX1) (N := 11) hx hb hts hinX1 hown hK hP 0 rfl rfl 8 (by decide) lk42 (fun _ h9 => h9) rfl dX1_sure_5 ?_
  refine lv_iconst (v := 0) hx hb dX1_sure_8 (by decide) ?_
  refine x_csi (va_runS (As := [.ref (ad 4), .int (0)]) (rest := []) ⟨hx, hb, hml, hown, hts⟩ (c_X1_memberAt l D cI cZ cG cJ A (WX ad cI cZ c g hid code ans dbt opn ply hps wr) (ad 4) 4 opn 0 (rfl)) (va_cwS 2 hts gX1_sure_X1_memberAt rfl rfl rfl (by decide +kernel) ⟨Nat.le_of_ble_eq_true rfl, Nat.le_of_ble_eq_true rfl⟩) (preS hB hS hP hD) rfl rfl hl.1 rfl (lv_room (Nat.le_of_ble_eq_true rfl)) dX1_sure_9 ⟨Nat.le_of_ble_eq_true rfl, Nat.le_of_ble_eq_true rfl⟩) ?_
  refine x_ti (y := memA (opS c g code ans dbt) 0 81) (by rw [memA_congr hop]) ?_
  refine lv_istore_n (lv' := [(2, .int (memA (opS c g code ans dbt) 0 81)), (0, .ref (ad 0)), (1, .int (nI (p0)))]) hx hb dX1_sure_12 rfl hl (by decide) rfl (fun ls hl => ?_)
  refine lv_iload_n hx hb dX1_sure_13 rfl (lv_at hl 0 rfl) ?_
  refine lv_iconst (v := (-1)) hx hb dX1_sure_14 (by decide) ?_
  refine lv_icmp_ne (tgt := 20) hx hb dX1_sure_15 (by decide) (fun c15 => ?_) (fun c15 => ?_)
  · skip
    obtain ⟨k, hk81, hsk, hmk⟩ := memA_of c15
    have hk := op_lt2 hsk
    rw [hmk] at hl
    refine lv_aload_n hx hb dX1_sure_20 rfl (lv_at hl 1 rfl) ?_
    refine va_get (D := D) (ci := 1) (v := .ref (pal ad c)) (C := RX1) (T := TX1) (N := 11) hx hb hts hinX1 hown hK hP 0 rfl rfl 2 (by decide) lk21 (fun _ h9 => h9) rfl dX1_sure_21 ?_
    refine lv_iload_n hx hb dX1_sure_24 rfl (lv_at hl 0 rfl) ?_
    refine lv_iload_n hx hb dX1_sure_25 rfl (lv_at hl 2 rfl) ?_
    refine x_csi (va_runVN (As := [.int (nI (k)), .int (nI (p0))]) (rest := []) ⟨hx, hb, hml, hown, hts⟩ (c_X0_colourOf l D cI cZ cG cJ A (WX ad cI cZ c g hid code ans dbt opn ply hps wr) (pal ad c) c k p0 (palX hpal hc) (hc) (hk) (hp)) ⟨va_cnB (host := RX1) 2 hts gX1_sure_X0_colourOf_n73 rfl rfl rfl (hB.2.2.2.2.1 _ (by simp [Nws])) (hts _ (by decide +kernel)) (by decide +kernel) ⟨Nat.le_of_ble_eq_true rfl, Nat.le_of_ble_eq_true rfl⟩, hts _ (by decide +kernel), hts _ (by decide +kernel)⟩ (prePal hB hS hP hD (palX hpal hc)) rfl rfl hl.1 rfl (lv_room (Nat.le_of_ble_eq_true rfl)) dX1_sure_26 ⟨Nat.le_of_ble_eq_true rfl, Nat.le_of_ble_eq_true rfl⟩) ?_
    have hcl := col_lt hc (k) (p0)
    refine lv_istore_n (lv' := [(3, .int (nI (col c k p0))), (2, .int (nI (k))), (0, .ref (ad 0)), (1, .int (nI (p0)))]) hx hb dX1_sure_29 rfl hl (by decide) rfl (fun ls hl => ?_)
    refine lv_aload_n hx hb dX1_sure_30 rfl (lv_at hl 2 rfl) ?_
    refine lv_iload_n hx hb dX1_sure_31 rfl (lv_at hl 3 rfl) ?_
    refine lv_iload_n hx hb dX1_sure_32 rfl (lv_at hl 0 rfl) ?_
    refine x_csi (va_runV (As := [.int (nI (p0)), .int (nI (col c k p0))]) (rest := []) ⟨hx, hb, hml, hown, hts⟩ (c_X1_countHaving l D cI cZ cG cJ A ad wr hpal c g hid code ans dbt opn ply hps p0 (col c k p0) (hc) (hp) (hcl) (hop2)) (cwV 2 hts gX1_sure_X1_countHaving rfl rfl rfl (by decide +kernel) ⟨Nat.le_of_ble_eq_true rfl, Nat.le_of_ble_eq_true rfl⟩) (preV (ci := 1) (q0 := 0) hB hS hP hD rfl rfl) rfl rfl hl.1 rfl (lv_room (Nat.le_of_ble_eq_true rfl)) dX1_sure_33 ⟨Nat.le_of_ble_eq_true rfl, Nat.le_of_ble_eq_true rfl⟩) ?_
    refine x_ti (y := nI (hvN c (opS c g code ans dbt) p0 (col c k p0))) (by rw [hvN, hv_congr hop]) ?_
    refine lv_aload_n hx hb dX1_sure_36 rfl (lv_at hl 2 rfl) ?_
    refine va_get (D := D) (ci := 1) (v := .ref (ad 4)) (C := RX1) (T := TX1) (N := 11) hx hb hts hinX1 hown hK hP 0 rfl rfl 8 (by decide) lk42 (fun _ h9 => h9) rfl dX1_sure_37 ?_
    refine x_csi (va_runS (As := [.ref (ad 4)]) (rest := [.int (nI (hvN c (opS c g code ans dbt) p0 (col c k p0)))]) ⟨hx, hb, hml, hown, hts⟩ (c_X1_size l D cI cZ cG cJ A (WX ad cI cZ c g hid code ans dbt opn ply hps wr) (ad 4) 4 opn (rfl)) (va_cwS 1 hts gX1_sure_X1_size rfl rfl rfl (by decide +kernel) ⟨Nat.le_of_ble_eq_true rfl, Nat.le_of_ble_eq_true rfl⟩) (preS hB hS hP hD) rfl rfl hl.1 rfl (lv_room (Nat.le_of_ble_eq_true rfl)) dX1_sure_40 ⟨Nat.le_of_ble_eq_true rfl, Nat.le_of_ble_eq_true rfl⟩) ?_
    have hz1 := cN_le (opS c g code ans dbt) 81
    have hz2 := hvN_le c (opS c g code ans dbt) p0 (col c k p0)
    refine x_ti (y := nI (cN (opS c g code ans dbt) 81)) (by rw [cN_congr 81 hop]) ?_
    refine x_ne (tgt := 50) hx hb dX1_sure_43 (by decide) (by omega) (by omega) (fun c43 => ?_) (fun c43 => ?_)
    · skip
      refine lv_iconst (v := (-1)) hx hb dX1_sure_50 (by decide) ?_
      refine W.widen (k := 1) (n := 6) (Nat.le_of_ble_eq_true rfl) (Nat.le_of_ble_eq_true rfl) ?_
      exact vx_ret (W.iret (v := (-1)) hx hb hr (fun t ht hW => ⟨⟨_, p0, rfl, (by
          refine ⟨?_, hp, rfl⟩
          first | exact (sure_1 hc hk81 hsk c43 hcl).symm | exact (sure_2 hc hk81 hsk c43).symm), ⟨by rw [ht]; exact hP, hD⟩⟩, hS.F ht⟩) hS.2.2 dX1_sure_51)
    · skip
      refine lv_iload_n hx hb dX1_sure_46 rfl (lv_at hl 0 rfl) ?_
      refine lv_goto (tgt := 51) hx hb dX1_sure_47 (by decide) ?_
      refine W.widen (k := 1) (n := 6) (Nat.le_of_ble_eq_true rfl) (Nat.le_of_ble_eq_true rfl) ?_
      exact vx_ret (W.iret (v := nI (col c k p0)) hx hb hr (fun t ht hW => ⟨⟨_, p0, rfl, (by
          refine ⟨?_, hp, rfl⟩
          first | exact (sure_1 hc hk81 hsk c43 hcl).symm | exact (sure_2 hc hk81 hsk c43).symm), ⟨by rw [ht]; exact hP, hD⟩⟩, hS.F ht⟩) hS.2.2 dX1_sure_51)
  · skip
    refine lv_iconst (v := (-1)) hx hb dX1_sure_18 (by decide) ?_
    refine W.widen (k := 1) (n := 6) (Nat.le_of_ble_eq_true rfl) (Nat.le_of_ble_eq_true rfl) ?_
    exact vx_ret (W.iret (v := (-1)) hx hb hr (fun t ht hW => ⟨⟨_, p0, rfl, (by
        exact ⟨(sure_0 c15 p0).symm, hp, rfl⟩), ⟨by rw [ht]; exact hP, hD⟩⟩, hS.F ht⟩) hS.2.2 dX1_sure_19)

set_option maxHeartbeats 4000000 in
set_option maxRecDepth 100000 in
theorem c_X1_sureP (l : Launch) (D : va_G) (cI cZ cG cJ : ClassId) (A : Nat → Prop) (ad : Nat → Nat) (wr : va_W) (hpal : Pals cI cG ad wr) (c : Nat) (g : Nat) (hid : Int32) (code : Nat → Nat) (ans : Nat → Nat) (dbt : Nat → Bool) (opn : Nat → Bool) (ply : Nat → Bool) (hps : Nat → Nat) (p0 : Nat) (hI : XI c g hid code ans dbt opn) (hp : p0 < 4) : Met l yX1_sure wsX1_sure ({ frames := 3, cells := 0, slots := 0, locals := 67 }) (va_Pc [.ref (ad 0), .int (nI (p0))] (Iv D (TY cI cZ cG cJ) A (WX ad cI cZ c g hid code ans dbt opn ply hps wr))) (vp_Si (fun r => r = sureV c (opS c g code ans dbt) p0 c)) 0 0 (fun _ => False) := by
  refine Met.ofW (cc := cX1_sure) (maxL := 4) (ret := (some .int)) (by decide) rfl ?_
  intro p e s m args below meth c9 s₁ B hml hv
  obtain ⟨rfl, hP, hD, hB⟩ := hv
  have hK := hB.1
  have hA := hB.2.1
  have hx := B.exec
  have hb := B.bytes
  have hr := B.returns
  have hts := atoms_spec (ws := wsX1_sure) B.pre
  have hown : s.vm.findClass RX1 = some m.cls := findClass_of_methodNamed B.named
  have hlocks := B.notSynchronized
  have hS : va_S A s.heap s.heap [] := va_S.rf
  have hinX1 : ∀ w ∈ wsX10, w ∈ wsX1_sure := by decide +kernel
  have lk21 := hts (.fieldLink RX1 21 "HiddenCandles" "palette" "LHiddenCandles$Palette;") (by decide +kernel)
  have lk42 := hts (.fieldLink RX1 42 "HiddenCandles" "open" "[Z") (by decide +kernel)
  have hl := lv_entry ([.ref (ad 0), .int (nI (p0))]) (n := 4) (Nat.le_of_ble_eq_true rfl)
  rw [lg_entry_eq]
  generalize (lg_sl ([.ref (ad 0), .int (nI (p0))]) ++ List.replicate (4 - (lg_sl ([.ref (ad 0), .int (nI (p0))])).length) Slot.unset).toArray = ls at hl ⊢
  have hl : lv_has ls 4 [(0, .ref (ad 0)), (1, .int (nI (p0)))] := hl
  obtain ⟨hc, hg, hco, hhid, hop⟩ := id hI
  have hq := qq_in hc
  have hop2 := op_lt hop
  refine lv_iload_n hx hb dX1_sure_0 rfl (lv_at hl 1 rfl) ?_
  refine va_csv (va_Run.run (va_runS (As := [.int (nI (p0))]) (rest := []) ⟨hx, hb, hml, hown, hts⟩ (c_X1_needPlaceP l D cI cZ cG cJ A (WX ad cI cZ c g hid code ans dbt opn ply hps wr) p0 (hp)) (va_cwS 1 hts gX1_sure_X1_needPlace rfl rfl rfl (by decide +kernel) ⟨Nat.le_of_ble_eq_true rfl, Nat.le_of_ble_eq_true rfl⟩) (preS hB va_S.rf hP hD) rfl rfl hl.1 rfl (lv_room (Nat.le_of_ble_eq_true rfl)) dX1_sure_1 ⟨Nat.le_of_ble_eq_true rfl, Nat.le_of_ble_eq_true rfl⟩)) (fun _ => ?_)
  refine lv_aload_n hx hb dX1_sure_4 rfl (lv_at hl 0 rfl) ?_
  refine va_get (D := D) (ci := 1) (v := .ref (ad 4)) (C := RX1) (T := TX1) (N := 11) hx hb hts hinX1 hown hK hP 0 rfl rfl 8 (by decide) lk42 (fun _ h9 => h9) rfl dX1_sure_5 ?_
  refine lv_iconst (v := 0) hx hb dX1_sure_8 (by decide) ?_
  refine x_csi (va_runS (As := [.ref (ad 4), .int (0)]) (rest := []) ⟨hx, hb, hml, hown, hts⟩ (c_X1_memberAt l D cI cZ cG cJ A (WX ad cI cZ c g hid code ans dbt opn ply hps wr) (ad 4) 4 opn 0 (rfl)) (va_cwS 2 hts gX1_sure_X1_memberAt rfl rfl rfl (by decide +kernel) ⟨Nat.le_of_ble_eq_true rfl, Nat.le_of_ble_eq_true rfl⟩) (preS hB va_S.rf hP hD) rfl rfl hl.1 rfl (lv_room (Nat.le_of_ble_eq_true rfl)) dX1_sure_9 ⟨Nat.le_of_ble_eq_true rfl, Nat.le_of_ble_eq_true rfl⟩) ?_
  refine x_ti (y := memA (opS c g code ans dbt) 0 81) (by rw [memA_congr hop]) ?_
  refine lv_istore_n (lv' := [(2, .int (memA (opS c g code ans dbt) 0 81)), (0, .ref (ad 0)), (1, .int (nI (p0)))]) hx hb dX1_sure_12 rfl hl (by decide) rfl (fun ls hl => ?_)
  refine lv_iload_n hx hb dX1_sure_13 rfl (lv_at hl 0 rfl) ?_
  refine lv_iconst (v := (-1)) hx hb dX1_sure_14 (by decide) ?_
  refine lv_icmp_ne (tgt := 20) hx hb dX1_sure_15 (by decide) (fun c15 => ?_) (fun c15 => ?_)
  · skip
    obtain ⟨k, hk81, hsk, hmk⟩ := memA_of c15
    have hk := op_lt2 hsk
    rw [hmk] at hl
    refine lv_aload_n hx hb dX1_sure_20 rfl (lv_at hl 1 rfl) ?_
    refine va_get (D := D) (ci := 1) (v := .ref (pal ad c)) (C := RX1) (T := TX1) (N := 11) hx hb hts hinX1 hown hK hP 0 rfl rfl 2 (by decide) lk21 (fun _ h9 => h9) rfl dX1_sure_21 ?_
    refine lv_iload_n hx hb dX1_sure_24 rfl (lv_at hl 0 rfl) ?_
    refine lv_iload_n hx hb dX1_sure_25 rfl (lv_at hl 2 rfl) ?_
    refine x_csi (va_runVN (As := [.int (nI (k)), .int (nI (p0))]) (rest := []) ⟨hx, hb, hml, hown, hts⟩ (c_X0_colourOf l D cI cZ cG cJ A (WX ad cI cZ c g hid code ans dbt opn ply hps wr) (pal ad c) c k p0 (palX hpal hc) (hc) (hk) (hp)) ⟨va_cnB (host := RX1) 2 hts gX1_sure_X0_colourOf_n73 rfl rfl rfl (hB.2.2.2.2.1 _ (by simp [Nws])) (hts _ (by decide +kernel)) (by decide +kernel) ⟨Nat.le_of_ble_eq_true rfl, Nat.le_of_ble_eq_true rfl⟩, hts _ (by decide +kernel), hts _ (by decide +kernel)⟩ (prePal hB va_S.rf hP hD (palX hpal hc)) rfl rfl hl.1 rfl (lv_room (Nat.le_of_ble_eq_true rfl)) dX1_sure_26 ⟨Nat.le_of_ble_eq_true rfl, Nat.le_of_ble_eq_true rfl⟩) ?_
    have hcl := col_lt hc (k) (p0)
    refine lv_istore_n (lv' := [(3, .int (nI (col c k p0))), (2, .int (nI (k))), (0, .ref (ad 0)), (1, .int (nI (p0)))]) hx hb dX1_sure_29 rfl hl (by decide) rfl (fun ls hl => ?_)
    refine lv_aload_n hx hb dX1_sure_30 rfl (lv_at hl 2 rfl) ?_
    refine lv_iload_n hx hb dX1_sure_31 rfl (lv_at hl 3 rfl) ?_
    refine lv_iload_n hx hb dX1_sure_32 rfl (lv_at hl 0 rfl) ?_
    refine x_csi (va_runV (As := [.int (nI (p0)), .int (nI (col c k p0))]) (rest := []) ⟨hx, hb, hml, hown, hts⟩ (c_X1_countHaving l D cI cZ cG cJ A ad wr hpal c g hid code ans dbt opn ply hps p0 (col c k p0) (hc) (hp) (hcl) (hop2)) (cwV 2 hts gX1_sure_X1_countHaving rfl rfl rfl (by decide +kernel) ⟨Nat.le_of_ble_eq_true rfl, Nat.le_of_ble_eq_true rfl⟩) (preV (ci := 1) (q0 := 0) hB va_S.rf hP hD rfl rfl) rfl rfl hl.1 rfl (lv_room (Nat.le_of_ble_eq_true rfl)) dX1_sure_33 ⟨Nat.le_of_ble_eq_true rfl, Nat.le_of_ble_eq_true rfl⟩) ?_
    refine x_ti (y := nI (hvN c (opS c g code ans dbt) p0 (col c k p0))) (by rw [hvN, hv_congr hop]) ?_
    refine lv_aload_n hx hb dX1_sure_36 rfl (lv_at hl 2 rfl) ?_
    refine va_get (D := D) (ci := 1) (v := .ref (ad 4)) (C := RX1) (T := TX1) (N := 11) hx hb hts hinX1 hown hK hP 0 rfl rfl 8 (by decide) lk42 (fun _ h9 => h9) rfl dX1_sure_37 ?_
    refine x_csi (va_runS (As := [.ref (ad 4)]) (rest := [.int (nI (hvN c (opS c g code ans dbt) p0 (col c k p0)))]) ⟨hx, hb, hml, hown, hts⟩ (c_X1_size l D cI cZ cG cJ A (WX ad cI cZ c g hid code ans dbt opn ply hps wr) (ad 4) 4 opn (rfl)) (va_cwS 1 hts gX1_sure_X1_size rfl rfl rfl (by decide +kernel) ⟨Nat.le_of_ble_eq_true rfl, Nat.le_of_ble_eq_true rfl⟩) (preS hB va_S.rf hP hD) rfl rfl hl.1 rfl (lv_room (Nat.le_of_ble_eq_true rfl)) dX1_sure_40 ⟨Nat.le_of_ble_eq_true rfl, Nat.le_of_ble_eq_true rfl⟩) ?_
    have hz1 := cN_le (opS c g code ans dbt) 81
    have hz2 := hvN_le c (opS c g code ans dbt) p0 (col c k p0)
    refine x_ti (y := nI (cN (opS c g code ans dbt) 81)) (by rw [cN_congr 81 hop]) ?_
    refine x_ne (tgt := 50) hx hb dX1_sure_43 (by decide) (by omega) (by omega) (fun c43 => ?_) (fun c43 => ?_)
    · skip
      refine lv_iconst (v := (-1)) hx hb dX1_sure_50 (by decide) ?_
      exact W.iret (v := (-1)) hx hb hr (fun t ht hW => ⟨_, rfl, (by
          first | exact (sure_1 hc hk81 hsk c43 hcl).symm | exact (sure_2 hc hk81 hsk c43).symm), ht⟩) (fun _ h => nomatch h) dX1_sure_51
    · skip
      refine lv_iload_n hx hb dX1_sure_46 rfl (lv_at hl 0 rfl) ?_
      refine lv_goto (tgt := 51) hx hb dX1_sure_47 (by decide) ?_
      exact W.iret (v := nI (col c k p0)) hx hb hr (fun t ht hW => ⟨_, rfl, (by
          first | exact (sure_1 hc hk81 hsk c43 hcl).symm | exact (sure_2 hc hk81 hsk c43).symm), ht⟩) (fun _ h => nomatch h) dX1_sure_51
  · skip
    refine lv_iconst (v := (-1)) hx hb dX1_sure_18 (by decide) ?_
    exact W.iret (v := (-1)) hx hb hr (fun t ht hW => ⟨_, rfl, (by
        exact (sure_0 c15 p0).symm), ht⟩) (fun _ h => nomatch h) dX1_sure_19

set_option maxHeartbeats 4000000 in
set_option maxRecDepth 100000 in
theorem c_X1_worst (l : Launch) (hfl : l.flags = flags0) (D : va_G) (cI cZ cG cJ : ClassId) (A : Nat → Prop) (ad : Nat → Nat) (wr : va_W) (hpal : Pals cI cG ad wr) (c : Nat) (g : Nat) (hid : Int32) (code : Nat → Nat) (ans : Nat → Nat) (dbt : Nat → Bool) (opn : Nat → Bool) (ply : Nat → Bool) (hps : Nat → Nat) (v : Int32) (hI : XI c g hid code ans dbt opn) : vx_Met l yX1_worst wsX1_worst ({ frames := 7, cells := 1, slots := 6, locals := 103 }) (va_Pc [.ref (ad 0), .int (v)] (Iv D (TY cI cZ cG cJ) A (WX ad cI cZ c g hid code ans dbt opn ply hps wr))) (va_Qi (fun r (u : Nat × (Nat → Nat)) => r = nI (gh c u.1 (opS c g code ans dbt)) ∧ u.1 < qq c ∧ v = nI u.1) (fun u => Wd D A (WX ad cI cZ c g hid code ans dbt opn ply u.2 wr)) A) (Xw D A (WX ad cI cZ c g hid code ans dbt opn ply hps wr) (fun E => E = "java/lang/IndexOutOfBoundsException" ∧ hasC c v = false)) 1 6 A := by
  refine vx_ofW (cc := cX1_worst) (maxL := 2) (ret := (some .int)) (by decide) rfl ?_
  intro p e s m args below meth c9 s₁ B hml hnt hv
  obtain ⟨rfl, hP, hD, hB⟩ := hv
  have hK := hB.1
  have hA := hB.2.1
  have hx := B.exec
  have hb := B.bytes
  have hr := B.returns
  have hts := atoms_spec (ws := wsX1_worst) B.pre
  have hown : s.vm.findClass RX1 = some m.cls := findClass_of_methodNamed B.named
  have hlocks := B.notSynchronized
  have hS : va_S A s.heap s.heap [] := va_S.rf
  have hflag : l.stackTraces = false := by rw [Launch.stackTraces, hfl]; decide
  have hinX1 : ∀ w ∈ wsX10, w ∈ wsX1_worst := by decide +kernel
  have lk42 := hts (.fieldLink RX1 42 "HiddenCandles" "open" "[Z") (by decide +kernel)
  have hl := lv_entry ([.ref (ad 0), .int (v)]) (n := 2) (Nat.le_of_ble_eq_true rfl)
  rw [lg_entry_eq]
  generalize (lg_sl ([.ref (ad 0), .int (v)]) ++ List.replicate (2 - (lg_sl ([.ref (ad 0), .int (v)])).length) Slot.unset).toArray = ls at hl ⊢
  have hl : lv_has ls 2 [(0, .ref (ad 0)), (1, .int (v))] := hl
  obtain ⟨H, eH⟩ : ∃ q, q = s.heap := ⟨_, rfl⟩
  obtain ⟨locs, eL⟩ : ∃ q : List Loc, q = [] := ⟨_, rfl⟩
  replace hP : va_P D vwCl (WX ad cI cZ c g hid code ans dbt opn ply hps wr) H := by rw [eH]; exact hP
  replace hS : va_S A s.heap H locs := by rw [eH, eL]; exact hS
  rw [show W p l e _ s m _ below meth c9 s.heap [] = W p l e _ s m _ below meth c9 H locs from by rw [eH, eL]]
  clear eH eL
  obtain ⟨hc, hg, hco, hhid, hop⟩ := id hI
  have hq := qq_in hc
  have hop2 := op_lt hop
  refine lv_aload_n hx hb dX1_worst_0 rfl (lv_at hl 0 rfl) ?_
  refine lv_iload_n hx hb dX1_worst_1 rfl (lv_at hl 1 rfl) ?_
  refine vx_callv (vx_runV (As := [.int (v)]) (rest := []) ⟨hx, hb, hml, hown, hts⟩ (c_X1_needCode l hfl D cI cZ cG cJ A ad wr hpal c g hid code ans dbt opn ply hps v (hc)) (cwV 1 hts gX1_worst_X1_needCode rfl rfl rfl (by decide +kernel) ⟨Nat.le_of_ble_eq_true rfl, Nat.le_of_ble_eq_true rfl⟩) (preV (ci := 1) (q0 := 0) hB hS hP hD rfl rfl) rfl rfl hl.1 rfl (lv_room (Nat.le_of_ble_eq_true rfl)) dX1_worst_2 ⟨Nat.le_of_ble_eq_true rfl, Nat.le_of_ble_eq_true rfl⟩) hS (fun q _ h => h) (fun q h => h) (fun q _ h => h) (fun E ce q9 u9 t9 H1 locs1 ht9 hvm9 hpx8 hBx hz9 hk9 hS hq9 hv9 hcl9 => ?_) (fun u_2 t9 H1 locs1 ht9 hvm9 hw_2 hBw hz9 hk9 hS => ?_)
  · obtain ⟨hpx9, hP1, hD1⟩ := hBx
    rw [ht9] at hP1
    exact vx_out (fun x hx9 => (hnt x hx9).elim) hlocks hq9 hv9 hcl9 (fun t ht hvm => ⟨(), trivial, ⟨(by
        exact hpx9), by rw [ht]; exact hP1, hD1⟩, hS.F ht⟩) hS.2.2 (by omega) (by omega)
  obtain ⟨hP, hD⟩ := hBw
  rw [ht9] at hP
  generalize H1 = H at hP hS ⊢
  generalize locs1 = locs at hS ⊢
  replace hP : va_P D vwCl (WX ad cI cZ c g hid code ans dbt opn ply hps wr) H := hP
  replace hD : va_D A (WX ad cI cZ c g hid code ans dbt opn ply hps wr) := hD
  obtain ⟨k, hk, rfl⟩ := hasC_of hc hw_2
  refine lv_aload_n hx hb dX1_worst_5 rfl (lv_at hl 0 rfl) ?_
  refine lv_iload_n hx hb dX1_worst_6 rfl (lv_at hl 1 rfl) ?_
  refine lv_aload_n hx hb dX1_worst_7 rfl (lv_at hl 0 rfl) ?_
  refine va_get (D := D) (ci := 1) (v := .ref (ad 4)) (C := RX1) (T := TX1) (N := 11) hx hb hts hinX1 hown hK hP 0 rfl rfl 8 (by decide) lk42 (fun _ h9 => h9) rfl dX1_worst_8 ?_
  refine va_calli (va_runV (As := [.int (nI (k)), .ref (ad 4)]) (rest := []) ⟨hx, hb, hml, hown, hts⟩ (c_X1_greatestHeap l D cI cZ cG cJ A ad wr hpal c g hid code ans dbt opn ply hps k (ad 4) 4 opn (hc) (hk) (Or.inl ⟨rfl, rfl, rfl⟩) (hop2)) (cwV 2 hts gX1_worst_X1_greatestHeap rfl rfl rfl (by decide +kernel) ⟨Nat.le_of_ble_eq_true rfl, Nat.le_of_ble_eq_true rfl⟩) (preV (ci := 1) (q0 := 0) hB hS hP hD rfl rfl) rfl rfl hl.1 rfl (lv_room (Nat.le_of_ble_eq_true rfl)) dX1_worst_11 ⟨Nat.le_of_ble_eq_true rfl, Nat.le_of_ble_eq_true rfl⟩) hS (fun q _ h => h) (fun q h => h) (fun r_11 u_11 t9 H1 locs1 ht9 hvm9 hw_11 hBw hz9 hk9 hS => ?_)
  obtain ⟨hP, hD⟩ := hBw
  rw [ht9] at hP
  generalize H1 = H at hP hS ⊢
  generalize locs1 = locs at hS ⊢
  replace hP : va_P D vwCl (WX ad cI cZ c g hid code ans dbt opn ply u_11 wr) H := hP
  replace hD : va_D A (WX ad cI cZ c g hid code ans dbt opn ply u_11 wr) := hD
  refine x_ti (y := nI (gh c k opn)) (hw_11.1) ?_
  refine W.widen (k := 1) (n := 6) (Nat.le_of_ble_eq_true rfl) (Nat.le_of_ble_eq_true rfl) ?_
  exact vx_ret (W.iret (v := nI (gh c k opn)) hx hb hr (fun t ht hW => ⟨⟨_, (k, u_11), rfl, (by
      exact ⟨by rw [gh_congr hop], hk, rfl⟩), ⟨by rw [ht]; exact hP, hD⟩⟩, hS.F ht⟩) hS.2.2 dX1_worst_14)

set_option maxHeartbeats 4000000 in
set_option maxRecDepth 100000 in
theorem c_X1_parts (l : Launch) (hfl : l.flags = flags0) (D : va_G) (cI cZ cG cJ : ClassId) (A : Nat → Prop) (ad : Nat → Nat) (wr : va_W) (hpal : Pals cI cG ad wr) (c : Nat) (g : Nat) (hid : Int32) (code : Nat → Nat) (ans : Nat → Nat) (dbt : Nat → Bool) (opn : Nat → Bool) (ply : Nat → Bool) (hps : Nat → Nat) (v : Int32) (hI : XI c g hid code ans dbt opn) : vx_Met l yX1_parts wsX1_parts ({ frames := 7, cells := 1, slots := 6, locals := 103 }) (va_Pc [.ref (ad 0), .int (v)] (Iv D (TY cI cZ cG cJ) A (WX ad cI cZ c g hid code ans dbt opn ply hps wr))) (va_Qi (fun r (u : Nat × (Nat → Nat)) => r = nI (cN (fun x => decide (0 < hpN c u.1 (opS c g code ans dbt) x)) 21) ∧ u.1 < qq c ∧ v = nI u.1) (fun u => Wd D A (WX ad cI cZ c g hid code ans dbt opn ply u.2 wr)) A) (Xw D A (WX ad cI cZ c g hid code ans dbt opn ply hps wr) (fun E => E = "java/lang/IndexOutOfBoundsException" ∧ hasC c v = false)) 1 6 A := by
  refine vx_ofW (cc := cX1_parts) (maxL := 4) (ret := (some .int)) (by decide) rfl ?_
  intro p e s m args below meth c9 s₁ B hml hnt hv
  obtain ⟨rfl, hP, hD, hB⟩ := hv
  have hK := hB.1
  have hA := hB.2.1
  have hx := B.exec
  have hb := B.bytes
  have hr := B.returns
  have hts := atoms_spec (ws := wsX1_parts) B.pre
  have hown : s.vm.findClass RX1 = some m.cls := findClass_of_methodNamed B.named
  have hlocks := B.notSynchronized
  have hS : va_S A s.heap s.heap [] := va_S.rf
  have hflag : l.stackTraces = false := by rw [Launch.stackTraces, hfl]; decide
  have hinX1 : ∀ w ∈ wsX10, w ∈ wsX1_parts := by decide +kernel
  have lk42 := hts (.fieldLink RX1 42 "HiddenCandles" "open" "[Z") (by decide +kernel)
  have lk48 := hts (.fieldLink RX1 48 "HiddenCandles" "heaps" "[I") (by decide +kernel)
  have hl := lv_entry ([.ref (ad 0), .int (v)]) (n := 4) (Nat.le_of_ble_eq_true rfl)
  rw [lg_entry_eq]
  generalize (lg_sl ([.ref (ad 0), .int (v)]) ++ List.replicate (4 - (lg_sl ([.ref (ad 0), .int (v)])).length) Slot.unset).toArray = ls at hl ⊢
  have hl : lv_has ls 4 [(0, .ref (ad 0)), (1, .int (v))] := hl
  obtain ⟨H, eH⟩ : ∃ q, q = s.heap := ⟨_, rfl⟩
  obtain ⟨locs, eL⟩ : ∃ q : List Loc, q = [] := ⟨_, rfl⟩
  replace hP : va_P D vwCl (WX ad cI cZ c g hid code ans dbt opn ply hps wr) H := by rw [eH]; exact hP
  replace hS : va_S A s.heap H locs := by rw [eH, eL]; exact hS
  rw [show W p l e _ s m _ below meth c9 s.heap [] = W p l e _ s m _ below meth c9 H locs from by rw [eH, eL]]
  clear eH eL
  obtain ⟨hc, hg, hco, hhid, hop⟩ := id hI
  have hq := qq_in hc
  have hop2 := op_lt hop
  refine lv_aload_n hx hb dX1_parts_0 rfl (lv_at hl 0 rfl) ?_
  refine lv_iload_n hx hb dX1_parts_1 rfl (lv_at hl 1 rfl) ?_
  refine vx_callv (vx_runV (As := [.int (v)]) (rest := []) ⟨hx, hb, hml, hown, hts⟩ (c_X1_needCode l hfl D cI cZ cG cJ A ad wr hpal c g hid code ans dbt opn ply hps v (hc)) (cwV 1 hts gX1_parts_X1_needCode rfl rfl rfl (by decide +kernel) ⟨Nat.le_of_ble_eq_true rfl, Nat.le_of_ble_eq_true rfl⟩) (preV (ci := 1) (q0 := 0) hB hS hP hD rfl rfl) rfl rfl hl.1 rfl (lv_room (Nat.le_of_ble_eq_true rfl)) dX1_parts_2 ⟨Nat.le_of_ble_eq_true rfl, Nat.le_of_ble_eq_true rfl⟩) hS (fun q _ h => h) (fun q h => h) (fun q _ h => h) (fun E ce q9 u9 t9 H1 locs1 ht9 hvm9 hpx8 hBx hz9 hk9 hS hq9 hv9 hcl9 => ?_) (fun u_2 t9 H1 locs1 ht9 hvm9 hw_2 hBw hz9 hk9 hS => ?_)
  · obtain ⟨hpx9, hP1, hD1⟩ := hBx
    rw [ht9] at hP1
    exact vx_out (fun x hx9 => (hnt x hx9).elim) hlocks hq9 hv9 hcl9 (fun t ht hvm => ⟨(), trivial, ⟨(by
        exact hpx9), by rw [ht]; exact hP1, hD1⟩, hS.F ht⟩) hS.2.2 (by omega) (by omega)
  obtain ⟨hP, hD⟩ := hBw
  rw [ht9] at hP
  generalize H1 = H at hP hS ⊢
  generalize locs1 = locs at hS ⊢
  replace hP : va_P D vwCl (WX ad cI cZ c g hid code ans dbt opn ply hps wr) H := hP
  replace hD : va_D A (WX ad cI cZ c g hid code ans dbt opn ply hps wr) := hD
  obtain ⟨k, hk, rfl⟩ := hasC_of hc hw_2
  refine lv_aload_n hx hb dX1_parts_5 rfl (lv_at hl 0 rfl) ?_
  refine lv_iload_n hx hb dX1_parts_6 rfl (lv_at hl 1 rfl) ?_
  refine lv_aload_n hx hb dX1_parts_7 rfl (lv_at hl 0 rfl) ?_
  refine va_get (D := D) (ci := 1) (v := .ref (ad 4)) (C := RX1) (T := TX1) (N := 11) hx hb hts hinX1 hown hK hP 0 rfl rfl 8 (by decide) lk42 (fun _ h9 => h9) rfl dX1_parts_8 ?_
  refine va_callv (va_runV (As := [.int (nI (k)), .ref (ad 4)]) (rest := []) ⟨hx, hb, hml, hown, hts⟩ (c_X1_heapUp l D cI cZ cG cJ A ad wr hpal c g hid code ans dbt opn ply hps k (ad 4) 4 opn (hc) (hk) (Or.inl ⟨rfl, rfl, rfl⟩) (hop2)) (cwV 2 hts gX1_parts_X1_heapUp rfl rfl rfl (by decide +kernel) ⟨Nat.le_of_ble_eq_true rfl, Nat.le_of_ble_eq_true rfl⟩) (preV (ci := 1) (q0 := 0) hB hS hP hD rfl rfl) rfl rfl hl.1 rfl (lv_room (Nat.le_of_ble_eq_true rfl)) dX1_parts_11 ⟨Nat.le_of_ble_eq_true rfl, Nat.le_of_ble_eq_true rfl⟩) hS (fun q _ h => h) (fun q h => h) (fun u_11 t9 H1 locs1 ht9 hvm9 hw_11 hBw hz9 hk9 hS => ?_)
  obtain ⟨hP, hD⟩ := hBw
  rw [ht9] at hP
  generalize H1 = H at hP hS ⊢
  generalize locs1 = locs at hS ⊢
  replace hP : va_P D vwCl (WX ad cI cZ c g hid code ans dbt opn ply u_11 wr) H := hP
  replace hD : va_D A (WX ad cI cZ c g hid code ans dbt opn ply u_11 wr) := hD
  refine lv_iconst (v := nI (0)) hx hb dX1_parts_14 (by decide) ?_
  refine lv_istore_n (lv' := [(2, .int (nI (0))), (0, .ref (ad 0)), (1, .int (nI (k)))]) hx hb dX1_parts_15 rfl hl (by decide) rfl (fun ls hl => ?_)
  refine lv_iconst (v := nI (0)) hx hb dX1_parts_16 (by decide) ?_
  refine lv_istore_n (lv' := [(3, .int (nI (0))), (2, .int (nI (0))), (0, .ref (ad 0)), (1, .int (nI (k)))]) hx hb dX1_parts_17 rfl hl (by decide) rfl (fun ls hl => ?_)
  -- loop at 18
  have hinv : 0 ≤ 21 ∧ 0 = cN (fun x => decide (0 < hpN c k (opS c g code ans dbt) x)) 0 := by
    exact ⟨Nat.zero_le _, rfl⟩
  obtain ⟨j, r, hq9⟩ : ∃ (j : Nat) (r : Nat), lv_has ls 4 [(0, .ref (ad 0)), (1, .int (nI (k))), (2, .int (nI (r))), (3, .int (nI (j)))] ∧ (j ≤ 21 ∧ r = cN (fun x => decide (0 < hpN c k (opS c g code ans dbt) x)) j) ∧ va_P D vwCl (WX ad cI cZ c g hid code ans dbt opn ply u_11 wr) H ∧ va_D A (WX ad cI cZ c g hid code ans dbt opn ply u_11 wr) := ⟨0, 0, lv_sub hl [2, 3, 1, 0] rfl, hinv, hP, hD⟩
  clear hl hinv hP hD
  obtain ⟨hl, hinv, hP, hD⟩ := hq9
  obtain ⟨n9_18, hn9⟩ : ∃ q : Nat, 21 - j < q := ⟨_, Nat.lt_succ_self _⟩
  induction n9_18 generalizing ls H locs j r with
  | zero => exact absurd hn9 (Nat.not_lt_zero _)
  | succ n9_18 ih18 =>
    obtain ⟨h1, h2⟩ := hinv; have hle := cN_le (fun x => decide (0 < hpN c k (opS c g code ans dbt) x)) j
    refine lv_iload_n hx hb dX1_parts_18 rfl (lv_at hl 3 rfl) ?_
    refine lv_aload_n hx hb dX1_parts_19 rfl (lv_at hl 0 rfl) ?_
    refine va_get (D := D) (ci := 1) (v := .ref (ad 6)) (C := RX1) (T := TX1) (N := 11) hx hb hts hinX1 hown hK hP 0 rfl rfl 10 (by decide) lk48 (fun _ h9 => h9) rfl dX1_parts_20 ?_
    refine x_alen hx hb hK hP 6 0 rfl rfl (n := 21) rfl dX1_parts_23 ?_
    refine x_ge (tgt := 45) hx hb dX1_parts_24 (by decide) (by omega) (by omega) (fun c24 => ?_) (fun c24 => ?_)
    · skip
      refine lv_iload_n hx hb dX1_parts_45 rfl (lv_at hl 2 rfl) ?_
      refine W.widen (k := 1) (n := 6) (Nat.le_of_ble_eq_true rfl) (Nat.le_of_ble_eq_true rfl) ?_
      exact vx_ret (W.iret (v := nI (r)) hx hb hr (fun t ht hW => ⟨⟨_, (k, u_11), rfl, (by
          have e9 : j = 21 := by omega
          subst e9
          exact ⟨by rw [h2], hk, rfl⟩), ⟨by rw [ht]; exact hP, hD⟩⟩, hS.F ht⟩) hS.2.2 dX1_parts_46)
    · skip
      refine lv_aload_n hx hb dX1_parts_27 rfl (lv_at hl 0 rfl) ?_
      refine va_get (D := D) (ci := 1) (v := .ref (ad 6)) (C := RX1) (T := TX1) (N := 11) hx hb hts hinX1 hown hK hP 0 rfl rfl 10 (by decide) lk48 (fun _ h9 => h9) rfl dX1_parts_28 ?_
      refine lv_iload_n hx hb dX1_parts_31 rfl (lv_at hl 3 rfl) ?_
      refine x_iald hx hb hK hP 6 0 rfl rfl (i := j) (by omega) (by omega) dX1_parts_32 ?_
      have h6 : u_11 j ≤ 81 := by rw [hw_11 j (by omega)]; exact cN_le _ _
      refine x_le0 (tgt := 39) hx hb dX1_parts_33 (by decide) (by omega) (fun c33 => ?_) (fun c33 => ?_)
      · skip
        refine lv_iinc (v := nI (j + 1)) (lv' := [(3, .int (nI (j + 1))), (0, .ref (ad 0)), (1, .int (nI (k))), (2, .int (nI (r)))]) hx hb dX1_parts_39 hl (k := 3) rfl (nI_add _ _) (by decide) rfl (fun ls hl => ?_)
        refine lv_goto (tgt := 18) hx hb dX1_parts_42 (by decide) ?_
        exact ih18 (j := j + 1) (r := r) (ls := ls) (hl := lv_sub hl [1, 2, 3, 0] rfl) (H := H) (locs := locs) (hP := hP) (hS := hS) (hinv := by
            refine ⟨by omega, ?_⟩
            have h5 := hw_11 j (by omega)
            rw [hpN_congr hop] at h5
            rw [h5] at c33
            first | exact (congrArg (· + 1) h2).trans (cN_s (p := fun x => decide (0 < hpN c k (opS c g code ans dbt) x)) (decide_eq_true c33)).symm | exact h2.trans (cN_n (p := fun x => decide (0 < hpN c k (opS c g code ans dbt) x)) (decide_eq_false (by omega))).symm
          ) (hn9 := by
            omega
          )
      · skip
        refine lv_iinc (v := nI (r + 1)) (lv' := [(2, .int (nI (r + 1))), (0, .ref (ad 0)), (1, .int (nI (k))), (3, .int (nI (j)))]) hx hb dX1_parts_36 hl (k := 2) rfl (nI_add _ _) (by decide) rfl (fun ls hl => ?_)
        refine lv_iinc (v := nI (j + 1)) (lv' := [(3, .int (nI (j + 1))), (2, .int (nI (r + 1))), (0, .ref (ad 0)), (1, .int (nI (k)))]) hx hb dX1_parts_39 hl (k := 3) rfl (nI_add _ _) (by decide) rfl (fun ls hl => ?_)
        refine lv_goto (tgt := 18) hx hb dX1_parts_42 (by decide) ?_
        exact ih18 (j := j + 1) (r := r + 1) (ls := ls) (hl := lv_sub hl [2, 3, 1, 0] rfl) (H := H) (locs := locs) (hP := hP) (hS := hS) (hinv := by
            refine ⟨by omega, ?_⟩
            have h5 := hw_11 j (by omega)
            rw [hpN_congr hop] at h5
            rw [h5] at c33
            first | exact (congrArg (· + 1) h2).trans (cN_s (p := fun x => decide (0 < hpN c k (opS c g code ans dbt) x)) (decide_eq_true c33)).symm | exact h2.trans (cN_n (p := fun x => decide (0 < hpN c k (opS c g code ans dbt) x)) (decide_eq_false (by omega))).symm
          ) (hn9 := by
            omega
          )

set_option maxHeartbeats 4000000 in
set_option maxRecDepth 100000 in
theorem c_X1_best (l : Launch) (D : va_G) (cI cZ cG cJ : ClassId) (A : Nat → Prop) (ad : Nat → Nat) (wr : va_W) (hpal : Pals cI cG ad wr) (c : Nat) (g : Nat) (hid : Int32) (code : Nat → Nat) (ans : Nat → Nat) (dbt : Nat → Bool) (opn : Nat → Bool) (ply : Nat → Bool) (hps : Nat → Nat) (hI : XI c g hid code ans dbt opn) : Met l yX1_best wsX1_best ({ frames := 5, cells := 0, slots := 0, locals := 119 }) (va_Pc [.ref (ad 0)] (Iv D (TY cI cZ cG cJ) A (WX ad cI cZ c g hid code ans dbt opn ply hps wr))) (va_Qi (fun r (u : Nat → Nat) => r = lbR c (opS c g code ans dbt) false ∧ True) (fun u => Wd D A (WX ad cI cZ c g hid code ans dbt opn ply u wr)) A) 0 0 A := by
  refine Met.ofW (cc := cX1_best) (maxL := 1) (ret := (some .int)) (by decide) rfl ?_
  intro p e s m args below meth c9 s₁ B hml hv
  obtain ⟨rfl, hP, hD, hB⟩ := hv
  have hK := hB.1
  have hA := hB.2.1
  have hx := B.exec
  have hb := B.bytes
  have hr := B.returns
  have hts := atoms_spec (ws := wsX1_best) B.pre
  have hown : s.vm.findClass RX1 = some m.cls := findClass_of_methodNamed B.named
  have hlocks := B.notSynchronized
  have hS : va_S A s.heap s.heap [] := va_S.rf
  have hinX1 : ∀ w ∈ wsX10, w ∈ wsX1_best := by decide +kernel
  have lk42 := hts (.fieldLink RX1 42 "HiddenCandles" "open" "[Z") (by decide +kernel)
  have hl := lv_entry ([.ref (ad 0)]) (n := 1) (Nat.le_of_ble_eq_true rfl)
  rw [lg_entry_eq]
  generalize (lg_sl ([.ref (ad 0)]) ++ List.replicate (1 - (lg_sl ([.ref (ad 0)])).length) Slot.unset).toArray = ls at hl ⊢
  have hl : lv_has ls 1 [(0, .ref (ad 0))] := hl
  obtain ⟨H, eH⟩ : ∃ q, q = s.heap := ⟨_, rfl⟩
  obtain ⟨locs, eL⟩ : ∃ q : List Loc, q = [] := ⟨_, rfl⟩
  replace hP : va_P D vwCl (WX ad cI cZ c g hid code ans dbt opn ply hps wr) H := by rw [eH]; exact hP
  replace hS : va_S A s.heap H locs := by rw [eH, eL]; exact hS
  rw [show W p l e _ s m _ below meth c9 s.heap [] = W p l e _ s m _ below meth c9 H locs from by rw [eH, eL]]
  clear eH eL
  obtain ⟨hc, hg, hco, hhid, hop⟩ := id hI
  have hq := qq_in hc
  have hop2 := op_lt hop
  refine lv_aload_n hx hb dX1_best_0 rfl (lv_at hl 0 rfl) ?_
  refine lv_aload_n hx hb dX1_best_1 rfl (lv_at hl 0 rfl) ?_
  refine va_get (D := D) (ci := 1) (v := .ref (ad 4)) (C := RX1) (T := TX1) (N := 11) hx hb hts hinX1 hown hK hP 0 rfl rfl 8 (by decide) lk42 (fun _ h9 => h9) rfl dX1_best_2 ?_
  refine lv_iconst (v := bI (false)) hx hb dX1_best_5 (by decide) ?_
  refine va_calli (va_runV (As := [.ref (ad 4), .int (bI (false))]) (rest := []) ⟨hx, hb, hml, hown, hts⟩ (c_X1_leastBad l D cI cZ cG cJ A ad wr hpal c g hid code ans dbt opn ply hps (ad 4) 4 opn false (hc) (Or.inl ⟨rfl, rfl, rfl⟩) (hop2)) (cwV 2 hts gX1_best_X1_leastBad rfl rfl rfl (by decide +kernel) ⟨Nat.le_of_ble_eq_true rfl, Nat.le_of_ble_eq_true rfl⟩) (preV (ci := 1) (q0 := 0) hB hS hP hD rfl rfl) rfl rfl hl.1 rfl (lv_room (Nat.le_of_ble_eq_true rfl)) dX1_best_6 ⟨Nat.le_of_ble_eq_true rfl, Nat.le_of_ble_eq_true rfl⟩) hS (fun q _ h => h) (fun q h => h) (fun r_6 u_6 t9 H1 locs1 ht9 hvm9 hw_6 hBw hz9 hk9 hS => ?_)
  obtain ⟨hP, hD⟩ := hBw
  rw [ht9] at hP
  generalize H1 = H at hP hS ⊢
  generalize locs1 = locs at hS ⊢
  replace hP : va_P D vwCl (WX ad cI cZ c g hid code ans dbt opn ply u_6 wr) H := hP
  replace hD : va_D A (WX ad cI cZ c g hid code ans dbt opn ply u_6 wr) := hD
  refine x_ti (y := lbR c opn false) (hw_6.1) ?_
  exact W.iret (v := lbR c opn false) hx hb hr (fun t ht hW => ⟨⟨_, u_6, rfl, (by
      exact ⟨by rw [lbR_congr hop], trivial⟩), ⟨by rw [ht]; exact hP, hD⟩⟩, hS.F ht⟩) hS.2.2 dX1_best_9
