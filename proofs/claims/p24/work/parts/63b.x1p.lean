set_option maxHeartbeats 4000000 in
set_option maxRecDepth 100000 in
theorem c_X1_needCodeP (l : Launch) (D : va_G) (cI cZ cG cJ : ClassId) (A : Nat → Prop) (ad : Nat → Nat) (wr : va_W) (hpal : Pals cI cG ad wr) (c : Nat) (g : Nat) (hid : Int32) (code : Nat → Nat) (ans : Nat → Nat) (dbt : Nat → Bool) (opn : Nat → Bool) (ply : Nat → Bool) (hps : Nat → Nat) (k : Nat) (hc : c = 2 ∨ c = 3) (hk : k < qq c) : Met l yX1_needCode wsX1_needCode ({ frames := 1, cells := 0, slots := 0, locals := 21 }) (va_Pc [.ref (ad 0), .int (nI (k))] (Iv D (TY cI cZ cG cJ) A (WX ad cI cZ c g hid code ans dbt opn ply hps wr))) (va_Sv (fun _ => True)) 0 0 (fun _ => False) := by
  refine Met.ofW (cc := cX1_needCode) (maxL := 2) (ret := none) (by decide) rfl ?_
  intro p e s m args below meth c9 s₁ B hml hv
  obtain ⟨rfl, hP, hD, hB⟩ := hv
  have hK := hB.1
  have hA := hB.2.1
  have hx := B.exec
  have hb := B.bytes
  have hr := B.returns
  have hts := atoms_spec (ws := wsX1_needCode) B.pre
  have hown : s.vm.findClass RX1 = some m.cls := findClass_of_methodNamed B.named
  have hlocks := B.notSynchronized
  have hS : va_S A s.heap s.heap [] := va_S.rf
  have hinX1 : ∀ w ∈ wsX10, w ∈ wsX1_needCode := by decide +kernel
  have lk21 := hts (.fieldLink RX1 21 "HiddenCandles" "palette" "LHiddenCandles$Palette;") (by decide +kernel)
  have hl := lv_entry ([.ref (ad 0), .int (nI (k))]) (n := 2) (Nat.le_of_ble_eq_true rfl)
  rw [lg_entry_eq]
  generalize (lg_sl ([.ref (ad 0), .int (nI (k))]) ++ List.replicate (2 - (lg_sl ([.ref (ad 0), .int (nI (k))])).length) Slot.unset).toArray = ls at hl ⊢
  have hl : lv_has ls 2 [(0, .ref (ad 0)), (1, .int (nI (k)))] := hl
  have hq := qq_in hc
  refine lv_aload_n hx hb dX1_needCode_0 rfl (lv_at hl 0 rfl) ?_
  refine va_get (D := D) (ci := 1) (v := .ref (pal ad c)) (C := RX1) (T := TX1) (N := 11) hx hb hts hinX1 hown hK hP 0 rfl rfl 2 (by decide) lk21 (fun _ h9 => h9) rfl dX1_needCode_1 ?_
  refine lv_iload_n hx hb dX1_needCode_4 rfl (lv_at hl 1 rfl) ?_
  refine x_csi (va_runVN (As := [.int (nI (k))]) (rest := []) ⟨hx, hb, hml, hown, hts⟩ (c_X0_hasCode l D cI cZ cG cJ A (WX ad cI cZ c g hid code ans dbt opn ply hps wr) (pal ad c) c (nI k) (palX hpal hc) (hc)) ⟨va_cnB (host := RX1) 1 hts gX1_needCode_X0_hasCode_n153 rfl rfl rfl (hB.2.2.2.2.1 _ (by simp [Nws])) (hts _ (by decide +kernel)) (by decide +kernel) ⟨Nat.le_of_ble_eq_true rfl, Nat.le_of_ble_eq_true rfl⟩, hts _ (by decide +kernel), hts _ (by decide +kernel)⟩ (prePal hB va_S.rf hP hD (palX hpal hc)) rfl rfl hl.1 rfl (lv_room (Nat.le_of_ble_eq_true rfl)) dX1_needCode_5 ⟨Nat.le_of_ble_eq_true rfl, Nat.le_of_ble_eq_true rfl⟩) ?_
  refine x_ti (y := bI (true)) (by rw [hasC_lt hc hk]) ?_
  refine x_zne (tgt := 21) hx hb dX1_needCode_8 (by decide) (fun c8 => ?_) (fun c8 => absurd c8 (by decide))
  exact W.vret hx hb hr (fun t ht hW => ⟨rfl, (by
      trivial), ht⟩) (fun _ h => nomatch h) dX1_needCode_21

set_option maxHeartbeats 4000000 in
set_option maxRecDepth 100000 in
theorem c_X1_needHiddenP (l : Launch) (D : va_G) (cI cZ cG cJ : ClassId) (A : Nat → Prop) (ad : Nat → Nat) (wr : va_W) (hpal : Pals cI cG ad wr) (c : Nat) (g : Nat) (hid : Int32) (code : Nat → Nat) (ans : Nat → Nat) (dbt : Nat → Bool) (opn : Nat → Bool) (ply : Nat → Bool) (hps : Nat → Nat) (h : Nat) (hh : h < 81) (he : hid = nI h) : Met l yX1_needHidden wsX1_needHidden ({ frames := 0, cells := 0, slots := 0, locals := 0 }) (va_Pc [.ref (ad 0)] (Iv D (TY cI cZ cG cJ) A (WX ad cI cZ c g hid code ans dbt opn ply hps wr))) (va_Sv (fun _ => True)) 0 0 (fun _ => False) := by
  refine Met.ofW (cc := cX1_needHidden) (maxL := 1) (ret := none) (by decide) rfl ?_
  intro p e s m args below meth c9 s₁ B hml hv
  obtain ⟨rfl, hP, hD, hB⟩ := hv
  have hK := hB.1
  have hA := hB.2.1
  have hx := B.exec
  have hb := B.bytes
  have hr := B.returns
  have hts := atoms_spec (ws := wsX1_needHidden) B.pre
  have hown : s.vm.findClass RX1 = some m.cls := findClass_of_methodNamed B.named
  have hlocks := B.notSynchronized
  have hS : va_S A s.heap s.heap [] := va_S.rf
  have hinX1 : ∀ w ∈ wsX10, w ∈ wsX1_needHidden := by decide +kernel
  have lk24 := hts (.fieldLink RX1 24 "HiddenCandles" "hidden" "I") (by decide +kernel)
  have hl := lv_entry ([.ref (ad 0)]) (n := 1) (Nat.le_of_ble_eq_true rfl)
  rw [lg_entry_eq]
  generalize (lg_sl ([.ref (ad 0)]) ++ List.replicate (1 - (lg_sl ([.ref (ad 0)])).length) Slot.unset).toArray = ls at hl ⊢
  have hl : lv_has ls 1 [(0, .ref (ad 0))] := hl
  refine lv_aload_n hx hb dX1_needHidden_0 rfl (lv_at hl 0 rfl) ?_
  refine va_get (D := D) (ci := 1) (v := .int (hid)) (C := RX1) (T := TX1) (N := 11) hx hb hts hinX1 hown hK hP 0 rfl rfl 3 (by decide) lk24 (fun _ h9 => h9) rfl dX1_needHidden_1 ?_
  refine lv_iconst (v := (-1)) hx hb dX1_needHidden_4 (by decide) ?_
  refine lv_icmp_ne (tgt := 18) hx hb dX1_needHidden_5 (by decide) (fun c5 => ?_) (fun c5 => absurd c5 (by rw [he]; exact nI_ne_m1 (by omega)))
  exact W.vret hx hb hr (fun t ht hW => ⟨rfl, (by
      trivial), ht⟩) (fun _ h => nomatch h) dX1_needHidden_18

set_option maxHeartbeats 4000000 in
set_option maxRecDepth 100000 in
theorem c_X1_needPinsP (l : Launch) (D : va_G) (cI cZ cG cJ : ClassId) (A : Nat → Prop) (w : va_W) (nb : Nat) (nw : Nat) (hn : nb + nw ≤ 4) (h31 : ¬ (nb = 3 ∧ nw = 1)) : Met l yX1_needPins wsX1_needPins ({ frames := 0, cells := 0, slots := 0, locals := 0 }) (va_Pc [.int (nI (nb)), .int (nI (nw))] (Iv D (TY cI cZ cG cJ) A (w))) (va_Sv (fun _ => True)) 0 0 (fun _ => False) := by
  refine Met.ofW (cc := cX1_needPins) (maxL := 2) (ret := none) (by decide) rfl ?_
  intro p e s m args below meth c9 s₁ B hml hv
  obtain ⟨rfl, hP, hD, hB⟩ := hv
  have hK := hB.1
  have hA := hB.2.1
  have hx := B.exec
  have hb := B.bytes
  have hr := B.returns
  have hts := atoms_spec (ws := wsX1_needPins) B.pre
  have hown : s.vm.findClass RX1 = some m.cls := findClass_of_methodNamed B.named
  have hlocks := B.notSynchronized
  have hS : va_S A s.heap s.heap [] := va_S.rf
  have hl := lv_entry ([.int (nI (nb)), .int (nI (nw))]) (n := 2) (Nat.le_of_ble_eq_true rfl)
  rw [lg_entry_eq]
  generalize (lg_sl ([.int (nI (nb)), .int (nI (nw))]) ++ List.replicate (2 - (lg_sl ([.int (nI (nb)), .int (nI (nw))])).length) Slot.unset).toArray = ls at hl ⊢
  have hl : lv_has ls 2 [(0, .int (nI (nb))), (1, .int (nI (nw)))] := hl
  refine lv_iload_n hx hb dX1_needPins_0 rfl (lv_at hl 0 rfl) ?_
  refine x_lt0 (tgt := 15) hx hb dX1_needPins_1 (by decide) (by omega) ?_
  refine lv_iload_n hx hb dX1_needPins_4 rfl (lv_at hl 1 rfl) ?_
  refine x_lt0 (tgt := 15) hx hb dX1_needPins_5 (by decide) (by omega) ?_
  refine lv_iload_n hx hb dX1_needPins_8 rfl (lv_at hl 1 rfl) ?_
  refine lv_iconst (v := nI (4)) hx hb dX1_needPins_9 (by decide) ?_
  refine lv_iload_n hx hb dX1_needPins_10 rfl (lv_at hl 0 rfl) ?_
  refine lv_isub hx hb dX1_needPins_11 ?_
  refine x_ti (pk_sub (by omega)) ?_
  refine x_le (tgt := 25) hx hb dX1_needPins_12 (by decide) (by omega) (by omega) (fun c12 => ?_) (fun c12 => absurd c12 (by omega))
  refine lv_iload_n hx hb dX1_needPins_25 rfl (lv_at hl 0 rfl) ?_
  refine lv_iconst (v := nI (3)) hx hb dX1_needPins_26 (by decide) ?_
  refine x_ne (tgt := 45) hx hb dX1_needPins_27 (by decide) (by omega) (by omega) (fun c27 => ?_) (fun c27 => ?_)
  · skip
    exact W.vret hx hb hr (fun t ht hW => ⟨rfl, (by
        trivial), ht⟩) (fun _ h => nomatch h) dX1_needPins_45
  · skip
    refine lv_iload_n hx hb dX1_needPins_30 rfl (lv_at hl 1 rfl) ?_
    refine lv_iconst (v := nI (1)) hx hb dX1_needPins_31 (by decide) ?_
    refine x_ne (tgt := 45) hx hb dX1_needPins_32 (by decide) (by omega) (by omega) (fun c32 => ?_) (fun c32 => absurd c32 (fun q => h31 ⟨c27, q⟩))
    exact W.vret hx hb hr (fun t ht hW => ⟨rfl, (by
        trivial), ht⟩) (fun _ h => nomatch h) dX1_needPins_45

set_option maxHeartbeats 4000000 in
set_option maxRecDepth 100000 in
theorem c_X1_isPossibleP (l : Launch) (D : va_G) (cI cZ cG cJ : ClassId) (A : Nat → Prop) (ad : Nat → Nat) (wr : va_W) (hpal : Pals cI cG ad wr) (c : Nat) (g : Nat) (hid : Int32) (code : Nat → Nat) (ans : Nat → Nat) (dbt : Nat → Bool) (opn : Nat → Bool) (ply : Nat → Bool) (hps : Nat → Nat) (k : Nat) (hI : XI c g hid code ans dbt opn) (hk : k < qq c) : Met l yX1_isPossible wsX1_isPossible ({ frames := 2, cells := 0, slots := 0, locals := 42 }) (va_Pc [.ref (ad 0), .int (nI (k))] (Iv D (TY cI cZ cG cJ) A (WX ad cI cZ c g hid code ans dbt opn ply hps wr))) (vp_Si (fun r => r = bI (opS c g code ans dbt k))) 0 0 (fun _ => False) := by
  refine Met.ofW (cc := cX1_isPossible) (maxL := 2) (ret := (some .boolean)) (by decide) rfl ?_
  intro p e s m args below meth c9 s₁ B hml hv
  obtain ⟨rfl, hP, hD, hB⟩ := hv
  have hK := hB.1
  have hA := hB.2.1
  have hx := B.exec
  have hb := B.bytes
  have hr := B.returns
  have hts := atoms_spec (ws := wsX1_isPossible) B.pre
  have hown : s.vm.findClass RX1 = some m.cls := findClass_of_methodNamed B.named
  have hlocks := B.notSynchronized
  have hS : va_S A s.heap s.heap [] := va_S.rf
  have hinX1 : ∀ w ∈ wsX10, w ∈ wsX1_isPossible := by decide +kernel
  have lk42 := hts (.fieldLink RX1 42 "HiddenCandles" "open" "[Z") (by decide +kernel)
  have hl := lv_entry ([.ref (ad 0), .int (nI (k))]) (n := 2) (Nat.le_of_ble_eq_true rfl)
  rw [lg_entry_eq]
  generalize (lg_sl ([.ref (ad 0), .int (nI (k))]) ++ List.replicate (2 - (lg_sl ([.ref (ad 0), .int (nI (k))])).length) Slot.unset).toArray = ls at hl ⊢
  have hl : lv_has ls 2 [(0, .ref (ad 0)), (1, .int (nI (k)))] := hl
  obtain ⟨hc, hg, hco, hhid, hop⟩ := id hI
  have hq := qq_in hc
  have hop2 := op_lt hop
  refine lv_aload_n hx hb dX1_isPossible_0 rfl (lv_at hl 0 rfl) ?_
  refine lv_iload_n hx hb dX1_isPossible_1 rfl (lv_at hl 1 rfl) ?_
  refine va_csv (va_Run.run (va_runV (As := [.int (nI (k))]) (rest := []) ⟨hx, hb, hml, hown, hts⟩ (c_X1_needCodeP l D cI cZ cG cJ A ad wr hpal c g hid code ans dbt opn ply hps k (hc) (hk)) (cwV 1 hts gX1_isPossible_X1_needCode rfl rfl rfl (by decide +kernel) ⟨Nat.le_of_ble_eq_true rfl, Nat.le_of_ble_eq_true rfl⟩) (preV (ci := 1) (q0 := 0) hB va_S.rf hP hD rfl rfl) rfl rfl hl.1 rfl (lv_room (Nat.le_of_ble_eq_true rfl)) dX1_isPossible_2 ⟨Nat.le_of_ble_eq_true rfl, Nat.le_of_ble_eq_true rfl⟩)) (fun _ => ?_)
  refine lv_aload_n hx hb dX1_isPossible_5 rfl (lv_at hl 0 rfl) ?_
  refine va_get (D := D) (ci := 1) (v := .ref (ad 4)) (C := RX1) (T := TX1) (N := 11) hx hb hts hinX1 hown hK hP 0 rfl rfl 8 (by decide) lk42 (fun _ h9 => h9) rfl dX1_isPossible_6 ?_
  refine lv_iload_n hx hb dX1_isPossible_9 rfl (lv_at hl 1 rfl) ?_
  refine x_csi (va_runS (As := [.ref (ad 4), .int (nI (k))]) (rest := []) ⟨hx, hb, hml, hown, hts⟩ (c_X1_isIn l D cI cZ cG cJ A (WX ad cI cZ c g hid code ans dbt opn ply hps wr) (ad 4) 4 opn k (rfl) (by omega)) (va_cwS 2 hts gX1_isPossible_X1_isIn rfl rfl rfl (by decide +kernel) ⟨Nat.le_of_ble_eq_true rfl, Nat.le_of_ble_eq_true rfl⟩) (preS hB va_S.rf hP hD) rfl rfl hl.1 rfl (lv_room (Nat.le_of_ble_eq_true rfl)) dX1_isPossible_10 ⟨Nat.le_of_ble_eq_true rfl, Nat.le_of_ble_eq_true rfl⟩) ?_
  exact W.zret (v := bI (opn k)) hx hb hr (bI_narrow _) (fun t ht hW => ⟨_, rfl, (by
      rw [hop k (by omega)]), ht⟩) (fun _ h => nomatch h) dX1_isPossible_13

set_option maxHeartbeats 4000000 in
set_option maxRecDepth 100000 in
theorem c_X1_possibleP (l : Launch) (D : va_G) (cI cZ cG cJ : ClassId) (A : Nat → Prop) (ad : Nat → Nat) (wr : va_W) (hpal : Pals cI cG ad wr) (c : Nat) (g : Nat) (hid : Int32) (code : Nat → Nat) (ans : Nat → Nat) (dbt : Nat → Bool) (opn : Nat → Bool) (ply : Nat → Bool) (hps : Nat → Nat) (j : Nat) (k : Nat) (hI : XI c g hid code ans dbt opn) (hk : k < 81) (hs : opS c g code ans dbt k = true) (hj : cN (opS c g code ans dbt) k = j) : Met l yX1_possible wsX1_possible ({ frames := 1, cells := 0, slots := 0, locals := 23 }) (va_Pc [.ref (ad 0), .int (nI (j))] (Iv D (TY cI cZ cG cJ) A (WX ad cI cZ c g hid code ans dbt opn ply hps wr))) (vp_Si (fun r => r = nI (k))) 0 0 (fun _ => False) := by
  refine Met.ofW (cc := cX1_possible) (maxL := 3) (ret := (some .int)) (by decide) rfl ?_
  intro p e s m args below meth c9 s₁ B hml hv
  obtain ⟨rfl, hP, hD, hB⟩ := hv
  have hK := hB.1
  have hA := hB.2.1
  have hx := B.exec
  have hb := B.bytes
  have hr := B.returns
  have hts := atoms_spec (ws := wsX1_possible) B.pre
  have hown : s.vm.findClass RX1 = some m.cls := findClass_of_methodNamed B.named
  have hlocks := B.notSynchronized
  have hS : va_S A s.heap s.heap [] := va_S.rf
  have hinX1 : ∀ w ∈ wsX10, w ∈ wsX1_possible := by decide +kernel
  have lk42 := hts (.fieldLink RX1 42 "HiddenCandles" "open" "[Z") (by decide +kernel)
  have hl := lv_entry ([.ref (ad 0), .int (nI (j))]) (n := 3) (Nat.le_of_ble_eq_true rfl)
  rw [lg_entry_eq]
  generalize (lg_sl ([.ref (ad 0), .int (nI (j))]) ++ List.replicate (3 - (lg_sl ([.ref (ad 0), .int (nI (j))])).length) Slot.unset).toArray = ls at hl ⊢
  have hl : lv_has ls 3 [(0, .ref (ad 0)), (1, .int (nI (j)))] := hl
  obtain ⟨hc, hg, hco, hhid, hop⟩ := id hI
  have hq := qq_in hc
  have hop2 := op_lt hop
  refine lv_aload_n hx hb dX1_possible_0 rfl (lv_at hl 0 rfl) ?_
  refine va_get (D := D) (ci := 1) (v := .ref (ad 4)) (C := RX1) (T := TX1) (N := 11) hx hb hts hinX1 hown hK hP 0 rfl rfl 8 (by decide) lk42 (fun _ h9 => h9) rfl dX1_possible_1 ?_
  refine lv_iload_n hx hb dX1_possible_4 rfl (lv_at hl 1 rfl) ?_
  refine x_csi (va_runS (As := [.ref (ad 4), .int (nI (j))]) (rest := []) ⟨hx, hb, hml, hown, hts⟩ (c_X1_memberAt l D cI cZ cG cJ A (WX ad cI cZ c g hid code ans dbt opn ply hps wr) (ad 4) 4 opn (nI j) (rfl)) (va_cwS 2 hts gX1_possible_X1_memberAt rfl rfl rfl (by decide +kernel) ⟨Nat.le_of_ble_eq_true rfl, Nat.le_of_ble_eq_true rfl⟩) (preS hB va_S.rf hP hD) rfl rfl hl.1 rfl (lv_room (Nat.le_of_ble_eq_true rfl)) dX1_possible_5 ⟨Nat.le_of_ble_eq_true rfl, Nat.le_of_ble_eq_true rfl⟩) ?_
  refine x_ti (y := nI (k)) (by rw [memA_congr hop]; exact memA_at hk hs hj) ?_
  refine lv_istore_n (lv' := [(2, .int (nI (k))), (0, .ref (ad 0)), (1, .int (nI (j)))]) hx hb dX1_possible_8 rfl hl (by decide) rfl (fun ls hl => ?_)
  refine lv_iload_n hx hb dX1_possible_9 rfl (lv_at hl 0 rfl) ?_
  refine lv_iconst (v := (-1)) hx hb dX1_possible_10 (by decide) ?_
  refine lv_icmp_ne (tgt := 24) hx hb dX1_possible_11 (by decide) (fun c11 => ?_) (fun c11 => absurd c11 (nI_ne_m1 (by omega)))
  refine lv_iload_n hx hb dX1_possible_24 rfl (lv_at hl 0 rfl) ?_
  exact W.iret (v := nI (k)) hx hb hr (fun t ht hW => ⟨_, rfl, (by
      rfl), ht⟩) (fun _ h => nomatch h) dX1_possible_25

set_option maxHeartbeats 4000000 in
set_option maxRecDepth 100000 in
theorem c_X1_colourP (l : Launch) (D : va_G) (cI cZ cG cJ : ClassId) (A : Nat → Prop) (ad : Nat → Nat) (wr : va_W) (hpal : Pals cI cG ad wr) (c : Nat) (g : Nat) (hid : Int32) (code : Nat → Nat) (ans : Nat → Nat) (dbt : Nat → Bool) (opn : Nat → Bool) (ply : Nat → Bool) (hps : Nat → Nat) (k : Nat) (pl : Nat) (hI : XI c g hid code ans dbt opn) (hk : k < qq c) (hp : pl < 4) : Met l yX1_colour wsX1_colour ({ frames := 2, cells := 0, slots := 0, locals := 43 }) (va_Pc [.ref (ad 0), .int (nI (k)), .int (nI (pl))] (Iv D (TY cI cZ cG cJ) A (WX ad cI cZ c g hid code ans dbt opn ply hps wr))) (vp_Si (fun r => r = nI (col c k pl))) 0 0 (fun _ => False) := by
  refine Met.ofW (cc := cX1_colour) (maxL := 3) (ret := (some .int)) (by decide) rfl ?_
  intro p e s m args below meth c9 s₁ B hml hv
  obtain ⟨rfl, hP, hD, hB⟩ := hv
  have hK := hB.1
  have hA := hB.2.1
  have hx := B.exec
  have hb := B.bytes
  have hr := B.returns
  have hts := atoms_spec (ws := wsX1_colour) B.pre
  have hown : s.vm.findClass RX1 = some m.cls := findClass_of_methodNamed B.named
  have hlocks := B.notSynchronized
  have hS : va_S A s.heap s.heap [] := va_S.rf
  have hinX1 : ∀ w ∈ wsX10, w ∈ wsX1_colour := by decide +kernel
  have lk21 := hts (.fieldLink RX1 21 "HiddenCandles" "palette" "LHiddenCandles$Palette;") (by decide +kernel)
  have hl := lv_entry ([.ref (ad 0), .int (nI (k)), .int (nI (pl))]) (n := 3) (Nat.le_of_ble_eq_true rfl)
  rw [lg_entry_eq]
  generalize (lg_sl ([.ref (ad 0), .int (nI (k)), .int (nI (pl))]) ++ List.replicate (3 - (lg_sl ([.ref (ad 0), .int (nI (k)), .int (nI (pl))])).length) Slot.unset).toArray = ls at hl ⊢
  have hl : lv_has ls 3 [(0, .ref (ad 0)), (1, .int (nI (k))), (2, .int (nI (pl)))] := hl
  obtain ⟨hc, hg, hco, hhid, hop⟩ := id hI
  have hq := qq_in hc
  have hop2 := op_lt hop
  refine lv_aload_n hx hb dX1_colour_0 rfl (lv_at hl 0 rfl) ?_
  refine lv_iload_n hx hb dX1_colour_1 rfl (lv_at hl 1 rfl) ?_
  refine va_csv (va_Run.run (va_runV (As := [.int (nI (k))]) (rest := []) ⟨hx, hb, hml, hown, hts⟩ (c_X1_needCodeP l D cI cZ cG cJ A ad wr hpal c g hid code ans dbt opn ply hps k (hc) (hk)) (cwV 1 hts gX1_colour_X1_needCode rfl rfl rfl (by decide +kernel) ⟨Nat.le_of_ble_eq_true rfl, Nat.le_of_ble_eq_true rfl⟩) (preV (ci := 1) (q0 := 0) hB va_S.rf hP hD rfl rfl) rfl rfl hl.1 rfl (lv_room (Nat.le_of_ble_eq_true rfl)) dX1_colour_2 ⟨Nat.le_of_ble_eq_true rfl, Nat.le_of_ble_eq_true rfl⟩)) (fun _ => ?_)
  refine lv_iload_n hx hb dX1_colour_5 rfl (lv_at hl 2 rfl) ?_
  refine va_csv (va_Run.run (va_runS (As := [.int (nI (pl))]) (rest := []) ⟨hx, hb, hml, hown, hts⟩ (c_X1_needPlaceP l D cI cZ cG cJ A (WX ad cI cZ c g hid code ans dbt opn ply hps wr) pl (hp)) (va_cwS 1 hts gX1_colour_X1_needPlace rfl rfl rfl (by decide +kernel) ⟨Nat.le_of_ble_eq_true rfl, Nat.le_of_ble_eq_true rfl⟩) (preS hB va_S.rf hP hD) rfl rfl hl.1 rfl (lv_room (Nat.le_of_ble_eq_true rfl)) dX1_colour_6 ⟨Nat.le_of_ble_eq_true rfl, Nat.le_of_ble_eq_true rfl⟩)) (fun _ => ?_)
  refine lv_aload_n hx hb dX1_colour_9 rfl (lv_at hl 0 rfl) ?_
  refine va_get (D := D) (ci := 1) (v := .ref (pal ad c)) (C := RX1) (T := TX1) (N := 11) hx hb hts hinX1 hown hK hP 0 rfl rfl 2 (by decide) lk21 (fun _ h9 => h9) rfl dX1_colour_10 ?_
  refine lv_iload_n hx hb dX1_colour_13 rfl (lv_at hl 1 rfl) ?_
  refine lv_iload_n hx hb dX1_colour_14 rfl (lv_at hl 2 rfl) ?_
  refine x_csi (va_runVN (As := [.int (nI (k)), .int (nI (pl))]) (rest := []) ⟨hx, hb, hml, hown, hts⟩ (c_X0_colourOf l D cI cZ cG cJ A (WX ad cI cZ c g hid code ans dbt opn ply hps wr) (pal ad c) c k pl (palX hpal hc) (hc) (hk) (hp)) ⟨va_cnB (host := RX1) 2 hts gX1_colour_X0_colourOf_n73 rfl rfl rfl (hB.2.2.2.2.1 _ (by simp [Nws])) (hts _ (by decide +kernel)) (by decide +kernel) ⟨Nat.le_of_ble_eq_true rfl, Nat.le_of_ble_eq_true rfl⟩, hts _ (by decide +kernel), hts _ (by decide +kernel)⟩ (prePal hB va_S.rf hP hD (palX hpal hc)) rfl rfl hl.1 rfl (lv_room (Nat.le_of_ble_eq_true rfl)) dX1_colour_15 ⟨Nat.le_of_ble_eq_true rfl, Nat.le_of_ble_eq_true rfl⟩) ?_
  have hcl := col_lt hc (k) (pl)
  exact W.iret (v := nI (col c k pl)) hx hb hr (fun t ht hW => ⟨_, rfl, (by
      rfl), ht⟩) (fun _ h => nomatch h) dX1_colour_18

set_option maxHeartbeats 4000000 in
set_option maxRecDepth 100000 in
theorem c_X1_pinsP (l : Launch) (D : va_G) (cI cZ cG cJ : ClassId) (A : Nat → Prop) (ad : Nat → Nat) (wr : va_W) (hpal : Pals cI cG ad wr) (c : Nat) (g : Nat) (hid : Int32) (code : Nat → Nat) (ans : Nat → Nat) (dbt : Nat → Bool) (opn : Nat → Bool) (ply : Nat → Bool) (hps : Nat → Nat) (k : Nat) (k2 : Nat) (hI : XI c g hid code ans dbt opn) (hk : k < qq c) (hk2 : k2 < qq c) : Met l yX1_pins wsX1_pins ({ frames := 2, cells := 0, slots := 0, locals := 43 }) (va_Pc [.ref (ad 0), .int (nI (k)), .int (nI (k2))] (Iv D (TY cI cZ cG cJ) A (WX ad cI cZ c g hid code ans dbt opn ply hps wr))) (vp_Si (fun r => r = nI (pins c k k2))) 0 0 (fun _ => False) := by
  refine Met.ofW (cc := cX1_pins) (maxL := 3) (ret := (some .int)) (by decide) rfl ?_
  intro p e s m args below meth c9 s₁ B hml hv
  obtain ⟨rfl, hP, hD, hB⟩ := hv
  have hK := hB.1
  have hA := hB.2.1
  have hx := B.exec
  have hb := B.bytes
  have hr := B.returns
  have hts := atoms_spec (ws := wsX1_pins) B.pre
  have hown : s.vm.findClass RX1 = some m.cls := findClass_of_methodNamed B.named
  have hlocks := B.notSynchronized
  have hS : va_S A s.heap s.heap [] := va_S.rf
  have hinX1 : ∀ w ∈ wsX10, w ∈ wsX1_pins := by decide +kernel
  have lk21 := hts (.fieldLink RX1 21 "HiddenCandles" "palette" "LHiddenCandles$Palette;") (by decide +kernel)
  have hl := lv_entry ([.ref (ad 0), .int (nI (k)), .int (nI (k2))]) (n := 3) (Nat.le_of_ble_eq_true rfl)
  rw [lg_entry_eq]
  generalize (lg_sl ([.ref (ad 0), .int (nI (k)), .int (nI (k2))]) ++ List.replicate (3 - (lg_sl ([.ref (ad 0), .int (nI (k)), .int (nI (k2))])).length) Slot.unset).toArray = ls at hl ⊢
  have hl : lv_has ls 3 [(0, .ref (ad 0)), (1, .int (nI (k))), (2, .int (nI (k2)))] := hl
  obtain ⟨hc, hg, hco, hhid, hop⟩ := id hI
  have hq := qq_in hc
  have hop2 := op_lt hop
  refine lv_aload_n hx hb dX1_pins_0 rfl (lv_at hl 0 rfl) ?_
  refine lv_iload_n hx hb dX1_pins_1 rfl (lv_at hl 1 rfl) ?_
  refine va_csv (va_Run.run (va_runV (As := [.int (nI (k))]) (rest := []) ⟨hx, hb, hml, hown, hts⟩ (c_X1_needCodeP l D cI cZ cG cJ A ad wr hpal c g hid code ans dbt opn ply hps k (hc) (hk)) (cwV 1 hts gX1_pins_X1_needCode rfl rfl rfl (by decide +kernel) ⟨Nat.le_of_ble_eq_true rfl, Nat.le_of_ble_eq_true rfl⟩) (preV (ci := 1) (q0 := 0) hB va_S.rf hP hD rfl rfl) rfl rfl hl.1 rfl (lv_room (Nat.le_of_ble_eq_true rfl)) dX1_pins_2 ⟨Nat.le_of_ble_eq_true rfl, Nat.le_of_ble_eq_true rfl⟩)) (fun _ => ?_)
  refine lv_aload_n hx hb dX1_pins_5 rfl (lv_at hl 0 rfl) ?_
  refine lv_iload_n hx hb dX1_pins_6 rfl (lv_at hl 2 rfl) ?_
  refine va_csv (va_Run.run (va_runV (As := [.int (nI (k2))]) (rest := []) ⟨hx, hb, hml, hown, hts⟩ (c_X1_needCodeP l D cI cZ cG cJ A ad wr hpal c g hid code ans dbt opn ply hps k2 (hc) (hk2)) (cwV 1 hts gX1_pins_X1_needCode rfl rfl rfl (by decide +kernel) ⟨Nat.le_of_ble_eq_true rfl, Nat.le_of_ble_eq_true rfl⟩) (preV (ci := 1) (q0 := 0) hB va_S.rf hP hD rfl rfl) rfl rfl hl.1 rfl (lv_room (Nat.le_of_ble_eq_true rfl)) dX1_pins_7 ⟨Nat.le_of_ble_eq_true rfl, Nat.le_of_ble_eq_true rfl⟩)) (fun _ => ?_)
  refine lv_aload_n hx hb dX1_pins_10 rfl (lv_at hl 0 rfl) ?_
  refine va_get (D := D) (ci := 1) (v := .ref (pal ad c)) (C := RX1) (T := TX1) (N := 11) hx hb hts hinX1 hown hK hP 0 rfl rfl 2 (by decide) lk21 (fun _ h9 => h9) rfl dX1_pins_11 ?_
  refine lv_iload_n hx hb dX1_pins_14 rfl (lv_at hl 1 rfl) ?_
  refine lv_iload_n hx hb dX1_pins_15 rfl (lv_at hl 2 rfl) ?_
  refine x_csi (va_runVN (As := [.int (nI (k)), .int (nI (k2))]) (rest := []) ⟨hx, hb, hml, hown, hts⟩ (c_X0_answerTo l D cI cZ cG cJ A (WX ad cI cZ c g hid code ans dbt opn ply hps wr) (pal ad c) c k k2 (palX hpal hc) (hc) (hk) (hk2)) ⟨va_cnB (host := RX1) 2 hts gX1_pins_X0_answerTo_n77 rfl rfl rfl (hB.2.2.2.2.1 _ (by simp [Nws])) (hts _ (by decide +kernel)) (by decide +kernel) ⟨Nat.le_of_ble_eq_true rfl, Nat.le_of_ble_eq_true rfl⟩, hts _ (by decide +kernel), hts _ (by decide +kernel)⟩ (prePal hB va_S.rf hP hD (palX hpal hc)) rfl rfl hl.1 rfl (lv_room (Nat.le_of_ble_eq_true rfl)) dX1_pins_16 ⟨Nat.le_of_ble_eq_true rfl, Nat.le_of_ble_eq_true rfl⟩) ?_
  have hpi := pins_le hc (hk) (hk2)
  exact W.iret (v := nI (pins c k k2)) hx hb hr (fun t ht hW => ⟨_, rfl, (by
      rfl), ht⟩) (fun _ h => nomatch h) dX1_pins_19

set_option maxHeartbeats 4000000 in
set_option maxRecDepth 100000 in
theorem c_X1_worstP (l : Launch) (D : va_G) (cI cZ cG cJ : ClassId) (A : Nat → Prop) (ad : Nat → Nat) (wr : va_W) (hpal : Pals cI cG ad wr) (c : Nat) (g : Nat) (hid : Int32) (code : Nat → Nat) (ans : Nat → Nat) (dbt : Nat → Bool) (opn : Nat → Bool) (ply : Nat → Bool) (hps : Nat → Nat) (k : Nat) (hI : XI c g hid code ans dbt opn) (hk : k < qq c) : Met l yX1_worst wsX1_worst ({ frames := 4, cells := 0, slots := 0, locals := 91 }) (va_Pc [.ref (ad 0), .int (nI (k))] (Iv D (TY cI cZ cG cJ) A (WX ad cI cZ c g hid code ans dbt opn ply hps wr))) (va_Qi (fun r (u : Nat → Nat) => r = nI (gh c k (opS c g code ans dbt)) ∧ True) (fun u => Wd D A (WX ad cI cZ c g hid code ans dbt opn ply u wr)) A) 0 0 A := by
  refine Met.ofW (cc := cX1_worst) (maxL := 2) (ret := (some .int)) (by decide) rfl ?_
  intro p e s m args below meth c9 s₁ B hml hv
  obtain ⟨rfl, hP, hD, hB⟩ := hv
  have hK := hB.1
  have hA := hB.2.1
  have hx := B.exec
  have hb := B.bytes
  have hr := B.returns
  have hts := atoms_spec (ws := wsX1_worst) B.pre
  have hown : s.vm.findClass RX1 = some m.cls := findClass_of_methodNamed B.named
  have hlocks := B.notSynchronized
  have hS : va_S A s.heap s.heap [] := va_S.rf
  have hinX1 : ∀ w ∈ wsX10, w ∈ wsX1_worst := by decide +kernel
  have lk42 := hts (.fieldLink RX1 42 "HiddenCandles" "open" "[Z") (by decide +kernel)
  have hl := lv_entry ([.ref (ad 0), .int (nI (k))]) (n := 2) (Nat.le_of_ble_eq_true rfl)
  rw [lg_entry_eq]
  generalize (lg_sl ([.ref (ad 0), .int (nI (k))]) ++ List.replicate (2 - (lg_sl ([.ref (ad 0), .int (nI (k))])).length) Slot.unset).toArray = ls at hl ⊢
  have hl : lv_has ls 2 [(0, .ref (ad 0)), (1, .int (nI (k)))] := hl
  obtain ⟨H, eH⟩ : ∃ q, q = s.heap := ⟨_, rfl⟩
  obtain ⟨locs, eL⟩ : ∃ q : List Loc, q = [] := ⟨_, rfl⟩
  replace hP : va_P D vwCl (WX ad cI cZ c g hid code ans dbt opn ply hps wr) H := by rw [eH]; exact hP
  replace hS : va_S A s.heap H locs := by rw [eH, eL]; exact hS
  rw [show W p l e _ s m _ below meth c9 s.heap [] = W p l e _ s m _ below meth c9 H locs from by rw [eH, eL]]
  clear eH eL
  obtain ⟨hc, hg, hco, hhid, hop⟩ := id hI
  have hq := qq_in hc
  have hop2 := op_lt hop
  refine lv_aload_n hx hb dX1_worst_0 rfl (lv_at hl 0 rfl) ?_
  refine lv_iload_n hx hb dX1_worst_1 rfl (lv_at hl 1 rfl) ?_
  refine va_csv (va_Run.run (va_runV (As := [.int (nI (k))]) (rest := []) ⟨hx, hb, hml, hown, hts⟩ (c_X1_needCodeP l D cI cZ cG cJ A ad wr hpal c g hid code ans dbt opn ply hps k (hc) (hk)) (cwV 1 hts gX1_worst_X1_needCode rfl rfl rfl (by decide +kernel) ⟨Nat.le_of_ble_eq_true rfl, Nat.le_of_ble_eq_true rfl⟩) (preV (ci := 1) (q0 := 0) hB hS hP hD rfl rfl) rfl rfl hl.1 rfl (lv_room (Nat.le_of_ble_eq_true rfl)) dX1_worst_2 ⟨Nat.le_of_ble_eq_true rfl, Nat.le_of_ble_eq_true rfl⟩)) (fun _ => ?_)
  refine lv_aload_n hx hb dX1_worst_5 rfl (lv_at hl 0 rfl) ?_
  refine lv_iload_n hx hb dX1_worst_6 rfl (lv_at hl 1 rfl) ?_
  refine lv_aload_n hx hb dX1_worst_7 rfl (lv_at hl 0 rfl) ?_
  refine va_get (D := D) (ci := 1) (v := .ref (ad 4)) (C := RX1) (T := TX1) (N := 11) hx hb hts hinX1 hown hK hP 0 rfl rfl 8 (by decide) lk42 (fun _ h9 => h9) rfl dX1_worst_8 ?_
  refine va_calli (va_runV (As := [.int (nI (k)), .ref (ad 4)]) (rest := []) ⟨hx, hb, hml, hown, hts⟩ (c_X1_greatestHeap l D cI cZ cG cJ A ad wr hpal c g hid code ans dbt opn ply hps k (ad 4) 4 opn (hc) (hk) (Or.inl ⟨rfl, rfl, rfl⟩) (hop2)) (cwV 2 hts gX1_worst_X1_greatestHeap rfl rfl rfl (by decide +kernel) ⟨Nat.le_of_ble_eq_true rfl, Nat.le_of_ble_eq_true rfl⟩) (preV (ci := 1) (q0 := 0) hB hS hP hD rfl rfl) rfl rfl hl.1 rfl (lv_room (Nat.le_of_ble_eq_true rfl)) dX1_worst_11 ⟨Nat.le_of_ble_eq_true rfl, Nat.le_of_ble_eq_true rfl⟩) hS (fun q _ h => h) (fun q h => h) (fun r_11 u_11 t9 H1 locs1 ht9 hvm9 hw_11 hBw hz9 hk9 hS => ?_)
  obtain ⟨hP, hD⟩ := hBw
  rw [ht9] at hP
  generalize H1 = H at hP hS ⊢
  generalize locs1 = locs at hS ⊢
  replace hP : va_P D vwCl (WX ad cI cZ c g hid code ans dbt opn ply u_11 wr) H := hP
  replace hD : va_D A (WX ad cI cZ c g hid code ans dbt opn ply u_11 wr) := hD
  refine x_ti (y := nI (gh c k opn)) (hw_11.1) ?_
  exact W.iret (v := nI (gh c k opn)) hx hb hr (fun t ht hW => ⟨⟨_, u_11, rfl, (by
      exact ⟨by rw [gh_congr hop], trivial⟩), ⟨by rw [ht]; exact hP, hD⟩⟩, hS.F ht⟩) hS.2.2 dX1_worst_14

set_option maxHeartbeats 4000000 in
set_option maxRecDepth 100000 in
theorem c_X1_partsP (l : Launch) (D : va_G) (cI cZ cG cJ : ClassId) (A : Nat → Prop) (ad : Nat → Nat) (wr : va_W) (hpal : Pals cI cG ad wr) (c : Nat) (g : Nat) (hid : Int32) (code : Nat → Nat) (ans : Nat → Nat) (dbt : Nat → Bool) (opn : Nat → Bool) (ply : Nat → Bool) (hps : Nat → Nat) (k : Nat) (hI : XI c g hid code ans dbt opn) (hk : k < qq c) : Met l yX1_parts wsX1_parts ({ frames := 3, cells := 0, slots := 0, locals := 67 }) (va_Pc [.ref (ad 0), .int (nI (k))] (Iv D (TY cI cZ cG cJ) A (WX ad cI cZ c g hid code ans dbt opn ply hps wr))) (va_Qi (fun r (u : Nat → Nat) => r = nI (cN (fun x => decide (0 < hpN c k (opS c g code ans dbt) x)) 21) ∧ True) (fun u => Wd D A (WX ad cI cZ c g hid code ans dbt opn ply u wr)) A) 0 0 A := by
  refine Met.ofW (cc := cX1_parts) (maxL := 4) (ret := (some .int)) (by decide) rfl ?_
  intro p e s m args below meth c9 s₁ B hml hv
  obtain ⟨rfl, hP, hD, hB⟩ := hv
  have hK := hB.1
  have hA := hB.2.1
  have hx := B.exec
  have hb := B.bytes
  have hr := B.returns
  have hts := atoms_spec (ws := wsX1_parts) B.pre
  have hown : s.vm.findClass RX1 = some m.cls := findClass_of_methodNamed B.named
  have hlocks := B.notSynchronized
  have hS : va_S A s.heap s.heap [] := va_S.rf
  have hinX1 : ∀ w ∈ wsX10, w ∈ wsX1_parts := by decide +kernel
  have lk42 := hts (.fieldLink RX1 42 "HiddenCandles" "open" "[Z") (by decide +kernel)
  have lk48 := hts (.fieldLink RX1 48 "HiddenCandles" "heaps" "[I") (by decide +kernel)
  have hl := lv_entry ([.ref (ad 0), .int (nI (k))]) (n := 4) (Nat.le_of_ble_eq_true rfl)
  rw [lg_entry_eq]
  generalize (lg_sl ([.ref (ad 0), .int (nI (k))]) ++ List.replicate (4 - (lg_sl ([.ref (ad 0), .int (nI (k))])).length) Slot.unset).toArray = ls at hl ⊢
  have hl : lv_has ls 4 [(0, .ref (ad 0)), (1, .int (nI (k)))] := hl
  obtain ⟨H, eH⟩ : ∃ q, q = s.heap := ⟨_, rfl⟩
  obtain ⟨locs, eL⟩ : ∃ q : List Loc, q = [] := ⟨_, rfl⟩
  replace hP : va_P D vwCl (WX ad cI cZ c g hid code ans dbt opn ply hps wr) H := by rw [eH]; exact hP
  replace hS : va_S A s.heap H locs := by rw [eH, eL]; exact hS
  rw [show W p l e _ s m _ below meth c9 s.heap [] = W p l e _ s m _ below meth c9 H locs from by rw [eH, eL]]
  clear eH eL
  obtain ⟨hc, hg, hco, hhid, hop⟩ := id hI
  have hq := qq_in hc
  have hop2 := op_lt hop
  refine lv_aload_n hx hb dX1_parts_0 rfl (lv_at hl 0 rfl) ?_
  refine lv_iload_n hx hb dX1_parts_1 rfl (lv_at hl 1 rfl) ?_
  refine va_csv (va_Run.run (va_runV (As := [.int (nI (k))]) (rest := []) ⟨hx, hb, hml, hown, hts⟩ (c_X1_needCodeP l D cI cZ cG cJ A ad wr hpal c g hid code ans dbt opn ply hps k (hc) (hk)) (cwV 1 hts gX1_parts_X1_needCode rfl rfl rfl (by decide +kernel) ⟨Nat.le_of_ble_eq_true rfl, Nat.le_of_ble_eq_true rfl⟩) (preV (ci := 1) (q0 := 0) hB hS hP hD rfl rfl) rfl rfl hl.1 rfl (lv_room (Nat.le_of_ble_eq_true rfl)) dX1_parts_2 ⟨Nat.le_of_ble_eq_true rfl, Nat.le_of_ble_eq_true rfl⟩)) (fun _ => ?_)
  refine lv_aload_n hx hb dX1_parts_5 rfl (lv_at hl 0 rfl) ?_
  refine lv_iload_n hx hb dX1_parts_6 rfl (lv_at hl 1 rfl) ?_
  refine lv_aload_n hx hb dX1_parts_7 rfl (lv_at hl 0 rfl) ?_
  refine va_get (D := D) (ci := 1) (v := .ref (ad 4)) (C := RX1) (T := TX1) (N := 11) hx hb hts hinX1 hown hK hP 0 rfl rfl 8 (by decide) lk42 (fun _ h9 => h9) rfl dX1_parts_8 ?_
  refine va_callv (va_runV (As := [.int (nI (k)), .ref (ad 4)]) (rest := []) ⟨hx, hb, hml, hown, hts⟩ (c_X1_heapUp l D cI cZ cG cJ A ad wr hpal c g hid code ans dbt opn ply hps k (ad 4) 4 opn (hc) (hk) (Or.inl ⟨rfl, rfl, rfl⟩) (hop2)) (cwV 2 hts gX1_parts_X1_heapUp rfl rfl rfl (by decide +kernel) ⟨Nat.le_of_ble_eq_true rfl, Nat.le_of_ble_eq_true rfl⟩) (preV (ci := 1) (q0 := 0) hB hS hP hD rfl rfl) rfl rfl hl.1 rfl (lv_room (Nat.le_of_ble_eq_true rfl)) dX1_parts_11 ⟨Nat.le_of_ble_eq_true rfl, Nat.le_of_ble_eq_true rfl⟩) hS (fun q _ h => h) (fun q h => h) (fun u_11 t9 H1 locs1 ht9 hvm9 hw_11 hBw hz9 hk9 hS => ?_)
  obtain ⟨hP, hD⟩ := hBw
  rw [ht9] at hP
  generalize H1 = H at hP hS ⊢
  generalize locs1 = locs at hS ⊢
  replace hP : va_P D vwCl (WX ad cI cZ c g hid code ans dbt opn ply u_11 wr) H := hP
  replace hD : va_D A (WX ad cI cZ c g hid code ans dbt opn ply u_11 wr) := hD
  refine lv_iconst (v := nI (0)) hx hb dX1_parts_14 (by decide) ?_
  refine lv_istore_n (lv' := [(2, .int (nI (0))), (0, .ref (ad 0)), (1, .int (nI (k)))]) hx hb dX1_parts_15 rfl hl (by decide) rfl (fun ls hl => ?_)
  refine lv_iconst (v := nI (0)) hx hb dX1_parts_16 (by decide) ?_
  refine lv_istore_n (lv' := [(3, .int (nI (0))), (2, .int (nI (0))), (0, .ref (ad 0)), (1, .int (nI (k)))]) hx hb dX1_parts_17 rfl hl (by decide) rfl (fun ls hl => ?_)
  -- loop at 18
  have hinv : 0 ≤ 21 ∧ 0 = cN (fun x => decide (0 < hpN c k (opS c g code ans dbt) x)) 0 := by
    exact ⟨Nat.zero_le _, rfl⟩
  obtain ⟨j, r, hq9⟩ : ∃ (j : Nat) (r : Nat), lv_has ls 4 [(0, .ref (ad 0)), (1, .int (nI (k))), (2, .int (nI (r))), (3, .int (nI (j)))] ∧ (j ≤ 21 ∧ r = cN (fun x => decide (0 < hpN c k (opS c g code ans dbt) x)) j) ∧ va_P D vwCl (WX ad cI cZ c g hid code ans dbt opn ply u_11 wr) H ∧ va_D A (WX ad cI cZ c g hid code ans dbt opn ply u_11 wr) := ⟨0, 0, lv_sub hl [2, 3, 1, 0] rfl, hinv, hP, hD⟩
  clear hl hinv hP hD
  obtain ⟨hl, hinv, hP, hD⟩ := hq9
  obtain ⟨n9_18, hn9⟩ : ∃ q : Nat, 21 - j < q := ⟨_, Nat.lt_succ_self _⟩
  induction n9_18 generalizing ls H locs j r with
  | zero => exact absurd hn9 (Nat.not_lt_zero _)
  | succ n9_18 ih18 =>
    obtain ⟨h1, h2⟩ := hinv; have hle := cN_le (fun x => decide (0 < hpN c k (opS c g code ans dbt) x)) j
    refine lv_iload_n hx hb dX1_parts_18 rfl (lv_at hl 3 rfl) ?_
    refine lv_aload_n hx hb dX1_parts_19 rfl (lv_at hl 0 rfl) ?_
    refine va_get (D := D) (ci := 1) (v := .ref (ad 6)) (C := RX1) (T := TX1) (N := 11) hx hb hts hinX1 hown hK hP 0 rfl rfl 10 (by decide) lk48 (fun _ h9 => h9) rfl dX1_parts_20 ?_
    refine x_alen hx hb hK hP 6 0 rfl rfl (n := 21) rfl dX1_parts_23 ?_
    refine x_ge (tgt := 45) hx hb dX1_parts_24 (by decide) (by omega) (by omega) (fun c24 => ?_) (fun c24 => ?_)
    · skip
      refine lv_iload_n hx hb dX1_parts_45 rfl (lv_at hl 2 rfl) ?_
      exact W.iret (v := nI (r)) hx hb hr (fun t ht hW => ⟨⟨_, u_11, rfl, (by
          have e9 : j = 21 := by omega
          subst e9
          exact ⟨by rw [h2], trivial⟩), ⟨by rw [ht]; exact hP, hD⟩⟩, hS.F ht⟩) hS.2.2 dX1_parts_46
    · skip
      refine lv_aload_n hx hb dX1_parts_27 rfl (lv_at hl 0 rfl) ?_
      refine va_get (D := D) (ci := 1) (v := .ref (ad 6)) (C := RX1) (T := TX1) (N := 11) hx hb hts hinX1 hown hK hP 0 rfl rfl 10 (by decide) lk48 (fun _ h9 => h9) rfl dX1_parts_28 ?_
      refine lv_iload_n hx hb dX1_parts_31 rfl (lv_at hl 3 rfl) ?_
      refine x_iald hx hb hK hP 6 0 rfl rfl (i := j) (by omega) (by omega) dX1_parts_32 ?_
      have h6 : u_11 j ≤ 81 := by rw [hw_11 j (by omega)]; exact cN_le _ _
      refine x_le0 (tgt := 39) hx hb dX1_parts_33 (by decide) (by omega) (fun c33 => ?_) (fun c33 => ?_)
      · skip
        refine lv_iinc (v := nI (j + 1)) (lv' := [(3, .int (nI (j + 1))), (0, .ref (ad 0)), (1, .int (nI (k))), (2, .int (nI (r)))]) hx hb dX1_parts_39 hl (k := 3) rfl (nI_add _ _) (by decide) rfl (fun ls hl => ?_)
        refine lv_goto (tgt := 18) hx hb dX1_parts_42 (by decide) ?_
        exact ih18 (j := j + 1) (r := r) (ls := ls) (hl := lv_sub hl [1, 2, 3, 0] rfl) (H := H) (locs := locs) (hP := hP) (hS := hS) (hinv := by
            refine ⟨by omega, ?_⟩
            have h5 := hw_11 j (by omega)
            rw [hpN_congr hop] at h5
            rw [h5] at c33
            first | exact (congrArg (· + 1) h2).trans (cN_s (p := fun x => decide (0 < hpN c k (opS c g code ans dbt) x)) (decide_eq_true c33)).symm | exact h2.trans (cN_n (p := fun x => decide (0 < hpN c k (opS c g code ans dbt) x)) (decide_eq_false (by omega))).symm
          ) (hn9 := by
            omega
          )
      · skip
        refine lv_iinc (v := nI (r + 1)) (lv' := [(2, .int (nI (r + 1))), (0, .ref (ad 0)), (1, .int (nI (k))), (3, .int (nI (j)))]) hx hb dX1_parts_36 hl (k := 2) rfl (nI_add _ _) (by decide) rfl (fun ls hl => ?_)
        refine lv_iinc (v := nI (j + 1)) (lv' := [(3, .int (nI (j + 1))), (2, .int (nI (r + 1))), (0, .ref (ad 0)), (1, .int (nI (k)))]) hx hb dX1_parts_39 hl (k := 3) rfl (nI_add _ _) (by decide) rfl (fun ls hl => ?_)
        refine lv_goto (tgt := 18) hx hb dX1_parts_42 (by decide) ?_
        exact ih18 (j := j + 1) (r := r + 1) (ls := ls) (hl := lv_sub hl [2, 3, 1, 0] rfl) (H := H) (locs := locs) (hP := hP) (hS := hS) (hinv := by
            refine ⟨by omega, ?_⟩
            have h5 := hw_11 j (by omega)
            rw [hpN_congr hop] at h5
            rw [h5] at c33
            first | exact (congrArg (· + 1) h2).trans (cN_s (p := fun x => decide (0 < hpN c k (opS c g code ans dbt) x)) (decide_eq_true c33)).symm | exact h2.trans (cN_n (p := fun x => decide (0 < hpN c k (opS c g code ans dbt) x)) (decide_eq_false (by omega))).symm
          ) (hn9 := by
            omega
          )

set_option maxHeartbeats 4000000 in
set_option maxRecDepth 100000 in
theorem c_X1_takesP (l : Launch) (D : va_G) (cI cZ cG cJ : ClassId) (A : Nat → Prop) (ad : Nat → Nat) (wr : va_W) (hpal : Pals cI cG ad wr) (c : Nat) (g : Nat) (hid : Int32) (code : Nat → Nat) (ans : Nat → Nat) (dbt : Nat → Bool) (opn : Nat → Bool) (ply : Nat → Bool) (hps : Nat → Nat) (k : Nat) (k2 : Nat) (hI : XI c g hid code ans dbt opn) (hk : k < qq c) (hk2 : k2 < qq c) : Met l yX1_takes wsX1_takes ({ frames := 5, cells := 0, slots := 0, locals := 119 }) (va_Pc [.ref (ad 0), .int (nI (k)), .int (nI (k2))] (Iv D (TY cI cZ cG cJ) A (WX ad cI cZ c g hid code ans dbt opn ply hps wr))) (va_Qi (fun r (u : (Nat → Bool) × (Nat → Nat)) => tkR c k k2 r ∧ True) (fun u => Wd D A (WX ad cI cZ c g hid code ans dbt opn u.1 u.2 wr)) A) 0 0 A := by
  refine Met.ofW (cc := cX1_takes) (maxL := 5) (ret := (some .int)) (by decide) rfl ?_
  intro p e s m args below meth c9 s₁ B hml hv
  obtain ⟨rfl, hP, hD, hB⟩ := hv
  have hK := hB.1
  have hA := hB.2.1
  have hx := B.exec
  have hb := B.bytes
  have hr := B.returns
  have hts := atoms_spec (ws := wsX1_takes) B.pre
  have hown : s.vm.findClass RX1 = some m.cls := findClass_of_methodNamed B.named
  have hlocks := B.notSynchronized
  have hS : va_S A s.heap s.heap [] := va_S.rf
  have hinX1 : ∀ w ∈ wsX10, w ∈ wsX1_takes := by decide +kernel
  have lk21 := hts (.fieldLink RX1 21 "HiddenCandles" "palette" "LHiddenCandles$Palette;") (by decide +kernel)
  have lk45 := hts (.fieldLink RX1 45 "HiddenCandles" "play" "[Z") (by decide +kernel)
  have hl := lv_entry ([.ref (ad 0), .int (nI (k)), .int (nI (k2))]) (n := 5) (Nat.le_of_ble_eq_true rfl)
  rw [lg_entry_eq]
  generalize (lg_sl ([.ref (ad 0), .int (nI (k)), .int (nI (k2))]) ++ List.replicate (5 - (lg_sl ([.ref (ad 0), .int (nI (k)), .int (nI (k2))])).length) Slot.unset).toArray = ls at hl ⊢
  have hl : lv_has ls 5 [(0, .ref (ad 0)), (1, .int (nI (k))), (2, .int (nI (k2)))] := hl
  obtain ⟨H, eH⟩ : ∃ q, q = s.heap := ⟨_, rfl⟩
  obtain ⟨locs, eL⟩ : ∃ q : List Loc, q = [] := ⟨_, rfl⟩
  replace hP : va_P D vwCl (WX ad cI cZ c g hid code ans dbt opn ply hps wr) H := by rw [eH]; exact hP
  replace hS : va_S A s.heap H locs := by rw [eH, eL]; exact hS
  rw [show W p l e _ s m _ below meth c9 s.heap [] = W p l e _ s m _ below meth c9 H locs from by rw [eH, eL]]
  clear eH eL
  obtain ⟨hc, hg, hco, hhid, hop⟩ := id hI
  have hq := qq_in hc
  have hop2 := op_lt hop
  refine lv_aload_n hx hb dX1_takes_0 rfl (lv_at hl 0 rfl) ?_
  refine lv_iload_n hx hb dX1_takes_1 rfl (lv_at hl 1 rfl) ?_
  refine va_csv (va_Run.run (va_runV (As := [.int (nI (k))]) (rest := []) ⟨hx, hb, hml, hown, hts⟩ (c_X1_needCodeP l D cI cZ cG cJ A ad wr hpal c g hid code ans dbt opn ply hps k (hc) (hk)) (cwV 1 hts gX1_takes_X1_needCode rfl rfl rfl (by decide +kernel) ⟨Nat.le_of_ble_eq_true rfl, Nat.le_of_ble_eq_true rfl⟩) (preV (ci := 1) (q0 := 0) hB hS hP hD rfl rfl) rfl rfl hl.1 rfl (lv_room (Nat.le_of_ble_eq_true rfl)) dX1_takes_2 ⟨Nat.le_of_ble_eq_true rfl, Nat.le_of_ble_eq_true rfl⟩)) (fun _ => ?_)
  refine lv_aload_n hx hb dX1_takes_5 rfl (lv_at hl 0 rfl) ?_
  refine lv_iload_n hx hb dX1_takes_6 rfl (lv_at hl 2 rfl) ?_
  refine va_csv (va_Run.run (va_runV (As := [.int (nI (k2))]) (rest := []) ⟨hx, hb, hml, hown, hts⟩ (c_X1_needCodeP l D cI cZ cG cJ A ad wr hpal c g hid code ans dbt opn ply hps k2 (hc) (hk2)) (cwV 1 hts gX1_takes_X1_needCode rfl rfl rfl (by decide +kernel) ⟨Nat.le_of_ble_eq_true rfl, Nat.le_of_ble_eq_true rfl⟩) (preV (ci := 1) (q0 := 0) hB hS hP hD rfl rfl) rfl rfl hl.1 rfl (lv_room (Nat.le_of_ble_eq_true rfl)) dX1_takes_7 ⟨Nat.le_of_ble_eq_true rfl, Nat.le_of_ble_eq_true rfl⟩)) (fun _ => ?_)
  refine lv_iconst (v := nI (0)) hx hb dX1_takes_10 (by decide) ?_
  refine lv_istore_n (lv' := [(3, .int (nI (0))), (0, .ref (ad 0)), (1, .int (nI (k))), (2, .int (nI (k2)))]) hx hb dX1_takes_11 rfl hl (by decide) rfl (fun ls hl => ?_)
  -- loop at 12
  have hinv : 0 ≤ 81 ∧ ∀ z, z < 0 → ply z = decide (z < qq c) := by
    exact ⟨Nat.zero_le _, fun k hk => absurd hk (Nat.not_lt_zero _)⟩
  obtain ⟨i, p2, hq9⟩ : ∃ (i : Nat) (p2 : Nat → Bool), lv_has ls 5 [(0, .ref (ad 0)), (1, .int (nI (k))), (2, .int (nI (k2))), (3, .int (nI (i)))] ∧ (i ≤ 81 ∧ ∀ z, z < i → p2 z = decide (z < qq c)) ∧ va_P D vwCl (WX ad cI cZ c g hid code ans dbt opn p2 hps wr) H ∧ va_D A (WX ad cI cZ c g hid code ans dbt opn p2 hps wr) := ⟨0, ply, lv_sub hl [1, 2, 3, 0] rfl, hinv, hP, hD⟩
  clear hl hinv hP hD
  obtain ⟨hl, hinv, hP, hD⟩ := hq9
  obtain ⟨n9_12, hn9⟩ : ∃ q : Nat, 81 - i < q := ⟨_, Nat.lt_succ_self _⟩
  induction n9_12 generalizing ls H locs i p2 with
  | zero => exact absurd hn9 (Nat.not_lt_zero _)
  | succ n9_12 ih12 =>
    obtain ⟨h1, h2⟩ := hinv
    refine lv_iload_n hx hb dX1_takes_12 rfl (lv_at hl 3 rfl) ?_
    refine lv_aload_n hx hb dX1_takes_13 rfl (lv_at hl 0 rfl) ?_
    refine va_get (D := D) (ci := 1) (v := .ref (ad 5)) (C := RX1) (T := TX1) (N := 11) hx hb hts hinX1 hown hK hP 0 rfl rfl 9 (by decide) lk45 (fun _ h9 => h9) rfl dX1_takes_14 ?_
    refine x_alen hx hb hK hP 5 1 rfl rfl (n := 81) rfl dX1_takes_17 ?_
    refine x_ge (tgt := 41) hx hb dX1_takes_18 (by decide) (by omega) (by omega) (fun c18 => ?_) (fun c18 => ?_)
    · skip
      refine lv_iconst (v := nI (1)) hx hb dX1_takes_41 (by decide) ?_
      refine lv_istore_n (lv' := [(3, .int (nI (1))), (0, .ref (ad 0)), (1, .int (nI (k))), (2, .int (nI (k2)))]) hx hb dX1_takes_42 rfl hl (by decide) rfl (fun ls hl => ?_)
      refine lv_iload_n hx hb dX1_takes_43 rfl (lv_at hl 3 rfl) ?_
      refine lv_istore (lv' := [(4, .int (nI (k2))), (3, .int (nI (1))), (0, .ref (ad 0)), (1, .int (nI (k))), (2, .int (nI (k2)))]) hx hb dX1_takes_44 hl (by decide) rfl (fun ls hl => ?_)
      -- loop at 46
      have hinv : 1 = 0 + 1 ∧ k2 = (tkP c k k2 0).2 ∧ (∀ z, z < 81 → p2 z = (tkP c k k2 0).1 z) ∧ ∀ m, m < 0 → ¬ (tkP c k k2 m).2 = k := by
        have e9 : i = 81 := by omega
        subst e9
        exact ⟨rfl, rfl, h2, fun m hm => absurd hm (Nat.not_lt_zero _)⟩
      obtain ⟨n, tt9, xx, p3, h3, hq9⟩ : ∃ (n : Nat) (tt9 : Nat) (xx : Nat) (p3 : Nat → Bool) (h3 : Nat → Nat), lv_has ls 5 [(0, .ref (ad 0)), (1, .int (nI (k))), (2, .int (nI (k2))), (3, .int (nI (tt9))), (4, .int (nI (xx)))] ∧ (tt9 = n + 1 ∧ xx = (tkP c k k2 n).2 ∧ (∀ z, z < 81 → p3 z = (tkP c k k2 n).1 z) ∧ ∀ m, m < n → ¬ (tkP c k k2 m).2 = k) ∧ va_P D vwCl (WX ad cI cZ c g hid code ans dbt opn p3 h3 wr) H ∧ va_D A (WX ad cI cZ c g hid code ans dbt opn p3 h3 wr) := ⟨0, 1, k2, p2, hps, lv_sub hl [2, 3, 4, 1, 0] rfl, hinv, hP, hD⟩
      clear hl hinv hP hD
      obtain ⟨hl, hinv, hP, hD⟩ := hq9
      obtain ⟨n9_46, hn9⟩ : ∃ q : Nat, 81 - n < q := ⟨_, Nat.lt_succ_self _⟩
      induction n9_46 generalizing ls H locs n tt9 xx p3 h3 with
      | zero => exact absurd hn9 (Nat.not_lt_zero _)
      | succ n9_46 ih46 =>
        obtain ⟨ht9, hxx, hp3, hno⟩ := hinv; have hnb := tk_bound hc hk hk2 n hno; have hti := tk_inv hc hk hk2 n hno; have hxq : xx < qq c := by rw [hxx]; exact hti.2.1
        refine lv_iload hx hb dX1_takes_46 (lv_at hl 4 rfl) ?_
        refine lv_iload_n hx hb dX1_takes_48 rfl (lv_at hl 1 rfl) ?_
        refine x_eq (tgt := 95) hx hb dX1_takes_49 (by decide) (by omega) (by omega) (fun c49 => ?_) (fun c49 => ?_)
        · skip
          refine lv_iload_n hx hb dX1_takes_95 rfl (lv_at hl 3 rfl) ?_
          exact W.iret (v := nI (tt9)) hx hb hr (fun t ht hW => ⟨⟨_, (p3, h3), rfl, (by
              exact ⟨⟨n, by omega, hno, by rw [← hxx]; exact c49, by rw [ht9]⟩, trivial⟩), ⟨by rw [ht]; exact hP, hD⟩⟩, hS.F ht⟩) hS.2.2 dX1_takes_96
        · skip
          refine lv_iload_n hx hb dX1_takes_52 rfl (lv_at hl 3 rfl) ?_
          refine lv_bipush (v := nI (81)) hx hb dX1_takes_53 (by decide) ?_
          refine x_gt (tgt := 95) hx hb dX1_takes_55 (by decide) (by omega) (by omega) (fun c55 => absurd c55 (by omega)) (fun c55 => ?_)
          refine lv_aload_n hx hb dX1_takes_58 rfl (lv_at hl 0 rfl) ?_
          refine lv_aload_n hx hb dX1_takes_59 rfl (lv_at hl 0 rfl) ?_
          refine va_get (D := D) (ci := 1) (v := .ref (ad 5)) (C := RX1) (T := TX1) (N := 11) hx hb hts hinX1 hown hK hP 0 rfl rfl 9 (by decide) lk45 (fun _ h9 => h9) rfl dX1_takes_60 ?_
          refine lv_iload hx hb dX1_takes_63 (lv_at hl 4 rfl) ?_
          refine lv_aload_n hx hb dX1_takes_65 rfl (lv_at hl 0 rfl) ?_
          refine va_get (D := D) (ci := 1) (v := .ref (pal ad c)) (C := RX1) (T := TX1) (N := 11) hx hb hts hinX1 hown hK hP 0 rfl rfl 2 (by decide) lk21 (fun _ h9 => h9) rfl dX1_takes_66 ?_
          refine lv_iload hx hb dX1_takes_69 (lv_at hl 4 rfl) ?_
          refine lv_iload_n hx hb dX1_takes_71 rfl (lv_at hl 1 rfl) ?_
          refine x_csi (va_runVN (As := [.int (nI (xx)), .int (nI (k))]) (rest := [.int (nI (xx)), .ref (ad 5), .ref (ad 0)]) ⟨hx, hb, hml, hown, hts⟩ (c_X0_answerTo l D cI cZ cG cJ A (WX ad cI cZ c g hid code ans dbt opn p3 h3 wr) (pal ad c) c xx k (palX hpal hc) (hc) (hxq) (hk)) ⟨va_cnB (host := RX1) 2 hts gX1_takes_X0_answerTo_n77 rfl rfl rfl (hB.2.2.2.2.1 _ (by simp [Nws])) (hts _ (by decide +kernel)) (by decide +kernel) ⟨Nat.le_of_ble_eq_true rfl, Nat.le_of_ble_eq_true rfl⟩, hts _ (by decide +kernel), hts _ (by decide +kernel)⟩ (prePal hB hS hP hD (palX hpal hc)) rfl rfl hl.1 rfl (lv_room (Nat.le_of_ble_eq_true rfl)) dX1_takes_72 ⟨Nat.le_of_ble_eq_true rfl, Nat.le_of_ble_eq_true rfl⟩) ?_
          have hpi := pins_le hc (hxq) (hk)
          refine va_callv (va_runV (As := [.ref (ad 5), .int (nI (xx)), .int (nI (pins c xx k))]) (rest := []) ⟨hx, hb, hml, hown, hts⟩ (c_X1_keepAnswering l D cI cZ cG cJ A ad wr hpal c g hid code ans dbt opn p3 h3 xx (pins c xx k) (hc) (hxq) (by omega) (fun z hz q => hti.2.2.2.2 z ((hp3 z hz).symm.trans q))) (cwV 3 hts gX1_takes_X1_keepAnswering rfl rfl rfl (by decide +kernel) ⟨Nat.le_of_ble_eq_true rfl, Nat.le_of_ble_eq_true rfl⟩) (preV (ci := 1) (q0 := 0) hB hS hP hD rfl rfl) rfl rfl hl.1 rfl (lv_room (Nat.le_of_ble_eq_true rfl)) dX1_takes_75 ⟨Nat.le_of_ble_eq_true rfl, Nat.le_of_ble_eq_true rfl⟩) hS (fun q _ h => h) (fun q h => h) (fun u_75 t9 H1 locs1 ht9 hvm9 hw_75 hBw hz9 hk9 hS => ?_)
          obtain ⟨hP, hD⟩ := hBw
          rw [ht9] at hP
          generalize H1 = H at hP hS ⊢
          generalize locs1 = locs at hS ⊢
          replace hP : va_P D vwCl (WX ad cI cZ c g hid code ans dbt opn u_75 h3 wr) H := hP
          replace hD : va_D A (WX ad cI cZ c g hid code ans dbt opn u_75 h3 wr) := hD
          have hs7 : ∀ z, z < 81 → u_75 z = (tkP c k k2 (n + 1)).1 z := fun z hz => by rw [hw_75 z hz, hp3 z hz, hxx]; rfl
          have hti2 := tk_inv hc hk hk2 (n + 1) (tk_no hno (by rw [← hxx]; exact c49))
          refine lv_aload_n hx hb dX1_takes_78 rfl (lv_at hl 0 rfl) ?_
          refine lv_aload_n hx hb dX1_takes_79 rfl (lv_at hl 0 rfl) ?_
          refine va_get (D := D) (ci := 1) (v := .ref (ad 5)) (C := RX1) (T := TX1) (N := 11) hx hb hts hinX1 hown hK hP 0 rfl rfl 9 (by decide) lk45 (fun _ h9 => h9) rfl dX1_takes_80 ?_
          refine lv_iconst (v := bI (true)) hx hb dX1_takes_83 (by decide) ?_
          refine va_calli (va_runV (As := [.ref (ad 5), .int (bI (true))]) (rest := []) ⟨hx, hb, hml, hown, hts⟩ (c_X1_leastBad l D cI cZ cG cJ A ad wr hpal c g hid code ans dbt opn u_75 h3 (ad 5) 5 u_75 true (hc) (Or.inr ⟨rfl, rfl, rfl⟩) (fun z hz q => hti2.2.2.2.2 z ((hs7 z hz).symm.trans q))) (cwV 2 hts gX1_takes_X1_leastBad rfl rfl rfl (by decide +kernel) ⟨Nat.le_of_ble_eq_true rfl, Nat.le_of_ble_eq_true rfl⟩) (preV (ci := 1) (q0 := 0) hB hS hP hD rfl rfl) rfl rfl hl.1 rfl (lv_room (Nat.le_of_ble_eq_true rfl)) dX1_takes_84 ⟨Nat.le_of_ble_eq_true rfl, Nat.le_of_ble_eq_true rfl⟩) hS (fun q _ h => h) (fun q h => h) (fun r_84 u_84 t9 H1 locs1 ht9 hvm9 hw_84 hBw hz9 hk9 hS => ?_)
          obtain ⟨hP, hD⟩ := hBw
          rw [ht9] at hP
          generalize H1 = H at hP hS ⊢
          generalize locs1 = locs at hS ⊢
          replace hP : va_P D vwCl (WX ad cI cZ c g hid code ans dbt opn u_75 u_84 wr) H := hP
          replace hD : va_D A (WX ad cI cZ c g hid code ans dbt opn u_75 u_84 wr) := hD
          refine x_ti (y := lbR c u_75 true) (hw_84.1) ?_
          have hx7 : (tkP c k k2 (n + 1)).2 = (tkP c k k2 (n + 1)).2 := rfl
          refine x_ti (y := nI ((tkP c k k2 (n + 1)).2)) (by rw [lbR_congr hs7]; exact (lbI_ok hq.2 (fun z _ q => hti2.2.2.2.2 z q) ⟨k, hk, hti2.1⟩).1) ?_
          refine lv_istore (lv' := [(4, .int (nI ((tkP c k k2 (n + 1)).2))), (0, .ref (ad 0)), (1, .int (nI (k))), (2, .int (nI (k2))), (3, .int (nI (tt9)))]) hx hb dX1_takes_87 hl (by decide) rfl (fun ls hl => ?_)
          refine lv_iinc (v := nI (tt9 + 1)) (lv' := [(3, .int (nI (tt9 + 1))), (4, .int (nI ((tkP c k k2 (n + 1)).2))), (0, .ref (ad 0)), (1, .int (nI (k))), (2, .int (nI (k2)))]) hx hb dX1_takes_89 hl (k := 4) rfl (nI_add _ _) (by decide) rfl (fun ls hl => ?_)
          refine lv_goto (tgt := 46) hx hb dX1_takes_92 (by decide) ?_
          exact ih46 (n := n + 1) (tt9 := tt9 + 1) (xx := (tkP c k k2 (n + 1)).2) (p3 := u_75) (h3 := u_84) (ls := ls) (hl := lv_sub hl [2, 3, 4, 0, 1] rfl) (H := H) (locs := locs) (hP := hP) (hD := hD) (hS := hS) (hinv := by
              exact ⟨by omega, hx7, hs7, tk_no hno (by rw [← hxx]; exact c49)⟩
            ) (hn9 := by
              have := tk_bound hc hk hk2 (n + 1) (tk_no hno (by rw [← hxx]; exact c49))
              omega
            )
    · skip
      refine lv_aload_n hx hb dX1_takes_21 rfl (lv_at hl 0 rfl) ?_
      refine va_get (D := D) (ci := 1) (v := .ref (ad 5)) (C := RX1) (T := TX1) (N := 11) hx hb hts hinX1 hown hK hP 0 rfl rfl 9 (by decide) lk45 (fun _ h9 => h9) rfl dX1_takes_22 ?_
      refine lv_iload_n hx hb dX1_takes_25 rfl (lv_at hl 3 rfl) ?_
      refine lv_aload_n hx hb dX1_takes_26 rfl (lv_at hl 0 rfl) ?_
      refine va_get (D := D) (ci := 1) (v := .ref (pal ad c)) (C := RX1) (T := TX1) (N := 11) hx hb hts hinX1 hown hK hP 0 rfl rfl 2 (by decide) lk21 (fun _ h9 => h9) rfl dX1_takes_27 ?_
      refine lv_iload_n hx hb dX1_takes_30 rfl (lv_at hl 3 rfl) ?_
      refine x_csi (va_runVN (As := [.int (nI (i))]) (rest := [.int (nI (i)), .ref (ad 5)]) ⟨hx, hb, hml, hown, hts⟩ (c_X0_hasCode l D cI cZ cG cJ A (WX ad cI cZ c g hid code ans dbt opn p2 hps wr) (pal ad c) c (nI i) (palX hpal hc) (hc)) ⟨va_cnB (host := RX1) 1 hts gX1_takes_X0_hasCode_n153 rfl rfl rfl (hB.2.2.2.2.1 _ (by simp [Nws])) (hts _ (by decide +kernel)) (by decide +kernel) ⟨Nat.le_of_ble_eq_true rfl, Nat.le_of_ble_eq_true rfl⟩, hts _ (by decide +kernel), hts _ (by decide +kernel)⟩ (prePal hB hS hP hD (palX hpal hc)) rfl rfl hl.1 rfl (lv_room (Nat.le_of_ble_eq_true rfl)) dX1_takes_31 ⟨Nat.le_of_ble_eq_true rfl, Nat.le_of_ble_eq_true rfl⟩) ?_
      refine x_ti (y := bI (decide (i < qq c))) (by rw [hasC_nI hc (by omega)]) ?_
      refine x_zast hx hb hK hP hD hS 5 1 rfl rfl (i := i) (v := decide (i < qq c)) (by omega) (by omega) dX1_takes_34 (fun H locs hP hD hS => ?_)
      replace hP : va_P D vwCl (WX ad cI cZ c g hid code ans dbt opn (va_up p2 i (decide (i < qq c))) hps wr) H := hP
      replace hD : va_D A (WX ad cI cZ c g hid code ans dbt opn (va_up p2 i (decide (i < qq c))) hps wr) := hD
      refine lv_iinc (v := nI (i + 1)) (lv' := [(3, .int (nI (i + 1))), (0, .ref (ad 0)), (1, .int (nI (k))), (2, .int (nI (k2)))]) hx hb dX1_takes_35 hl (k := 3) rfl (nI_add _ _) (by decide) rfl (fun ls hl => ?_)
      refine lv_goto (tgt := 12) hx hb dX1_takes_38 (by decide) ?_
      exact ih12 (i := i + 1) (p2 := (va_up p2 i (decide (i < qq c)))) (ls := ls) (hl := lv_sub hl [1, 2, 3, 0] rfl) (H := H) (locs := locs) (hP := hP) (hD := hD) (hS := hS) (hinv := by
          exact ⟨by omega, up_le (q := fun z => decide (z < qq c)) h2 rfl⟩
        ) (hn9 := by
          omega
        )

set_option maxHeartbeats 4000000 in
set_option maxRecDepth 100000 in
theorem c_X1_hideP (l : Launch) (D : va_G) (cI cZ cG cJ : ClassId) (A : Nat → Prop) (ad : Nat → Nat) (wr : va_W) (hpal : Pals cI cG ad wr) (c : Nat) (g : Nat) (hid : Int32) (code : Nat → Nat) (ans : Nat → Nat) (dbt : Nat → Bool) (opn : Nat → Bool) (ply : Nat → Bool) (hps : Nat → Nat) (k : Nat) (hI : XI c g hid code ans dbt opn) (hk : k < qq c) : Met l yX1_hide wsX1_hide ({ frames := 2, cells := 0, slots := 0, locals := 42 }) (va_Pc [.ref (ad 0), .int (nI (k))] (Iv D (TY cI cZ cG cJ) A (WX ad cI cZ c g hid code ans dbt opn ply hps wr))) (va_Qi (fun r (u : Unit) => r = hid ∧ True) (fun u => Wd D A (WX ad cI cZ c g (nI k) code ans dbt opn ply hps wr)) A) 0 0 A := by
  refine Met.ofW (cc := cX1_hide) (maxL := 3) (ret := (some .int)) (by decide) rfl ?_
  intro p e s m args below meth c9 s₁ B hml hv
  obtain ⟨rfl, hP, hD, hB⟩ := hv
  have hK := hB.1
  have hA := hB.2.1
  have hx := B.exec
  have hb := B.bytes
  have hr := B.returns
  have hts := atoms_spec (ws := wsX1_hide) B.pre
  have hown : s.vm.findClass RX1 = some m.cls := findClass_of_methodNamed B.named
  have hlocks := B.notSynchronized
  have hS : va_S A s.heap s.heap [] := va_S.rf
  have hinX1 : ∀ w ∈ wsX10, w ∈ wsX1_hide := by decide +kernel
  have lk24 := hts (.fieldLink RX1 24 "HiddenCandles" "hidden" "I") (by decide +kernel)
  have hl := lv_entry ([.ref (ad 0), .int (nI (k))]) (n := 3) (Nat.le_of_ble_eq_true rfl)
  rw [lg_entry_eq]
  generalize (lg_sl ([.ref (ad 0), .int (nI (k))]) ++ List.replicate (3 - (lg_sl ([.ref (ad 0), .int (nI (k))])).length) Slot.unset).toArray = ls at hl ⊢
  have hl : lv_has ls 3 [(0, .ref (ad 0)), (1, .int (nI (k)))] := hl
  obtain ⟨H, eH⟩ : ∃ q, q = s.heap := ⟨_, rfl⟩
  obtain ⟨locs, eL⟩ : ∃ q : List Loc, q = [] := ⟨_, rfl⟩
  replace hP : va_P D vwCl (WX ad cI cZ c g hid code ans dbt opn ply hps wr) H := by rw [eH]; exact hP
  replace hS : va_S A s.heap H locs := by rw [eH, eL]; exact hS
  rw [show W p l e _ s m _ below meth c9 s.heap [] = W p l e _ s m _ below meth c9 H locs from by rw [eH, eL]]
  clear eH eL
  obtain ⟨hc, hg, hco, hhid, hop⟩ := id hI
  have hq := qq_in hc
  have hop2 := op_lt hop
  refine lv_aload_n hx hb dX1_hide_0 rfl (lv_at hl 0 rfl) ?_
  refine lv_iload_n hx hb dX1_hide_1 rfl (lv_at hl 1 rfl) ?_
  refine va_csv (va_Run.run (va_runV (As := [.int (nI (k))]) (rest := []) ⟨hx, hb, hml, hown, hts⟩ (c_X1_needCodeP l D cI cZ cG cJ A ad wr hpal c g hid code ans dbt opn ply hps k (hc) (hk)) (cwV 1 hts gX1_hide_X1_needCode rfl rfl rfl (by decide +kernel) ⟨Nat.le_of_ble_eq_true rfl, Nat.le_of_ble_eq_true rfl⟩) (preV (ci := 1) (q0 := 0) hB hS hP hD rfl rfl) rfl rfl hl.1 rfl (lv_room (Nat.le_of_ble_eq_true rfl)) dX1_hide_2 ⟨Nat.le_of_ble_eq_true rfl, Nat.le_of_ble_eq_true rfl⟩)) (fun _ => ?_)
  refine lv_aload_n hx hb dX1_hide_5 rfl (lv_at hl 0 rfl) ?_
  refine va_get (D := D) (ci := 1) (v := .int (hid)) (C := RX1) (T := TX1) (N := 11) hx hb hts hinX1 hown hK hP 0 rfl rfl 3 (by decide) lk24 (fun _ h9 => h9) rfl dX1_hide_6 ?_
  refine lv_istore_n (lv' := [(2, .int (hid)), (0, .ref (ad 0)), (1, .int (nI (k)))]) hx hb dX1_hide_9 rfl hl (by decide) rfl (fun ls hl => ?_)
  refine lv_aload_n hx hb dX1_hide_10 rfl (lv_at hl 1 rfl) ?_
  refine lv_iload_n hx hb dX1_hide_11 rfl (lv_at hl 2 rfl) ?_
  refine va_put (D := D) (ci := 1) (v := .int (nI (k))) (ty := .int) (C := RX1) (T := TX1) (N := 11) hx hb hts hinX1 tyX1 tyX1_ok nmX1 hown hK hP hD hS 0 rfl rfl 3 (by decide) lk24 (fun _ h9 => h9) rfl (by decide +kernel) rfl rfl (Nat.le_of_ble_eq_true rfl) dX1_hide_12 (fun H locs hP hD hS => ?_)
  replace hP : va_P D vwCl (WX ad cI cZ c g (nI (k)) code ans dbt opn ply hps wr) H := hP
  replace hD : va_D A (WX ad cI cZ c g (nI (k)) code ans dbt opn ply hps wr) := hD
  refine lv_iload_n hx hb dX1_hide_15 rfl (lv_at hl 0 rfl) ?_
  exact W.iret (v := hid) hx hb hr (fun t ht hW => ⟨⟨_, (), rfl, (by
      exact ⟨rfl, trivial⟩), ⟨by rw [ht]; exact hP, hD⟩⟩, hS.F ht⟩) hS.2.2 dX1_hide_16

set_option maxHeartbeats 4000000 in
set_option maxRecDepth 100000 in
theorem c_X1_setColoursP (l : Launch) (D : va_G) (cI cZ cG cJ : ClassId) (A : Nat → Prop) (ad : Nat → Nat) (wr : va_W) (hpal : Pals cI cG ad wr) (c : Nat) (g : Nat) (hid : Int32) (code : Nat → Nat) (ans : Nat → Nat) (dbt : Nat → Bool) (opn : Nat → Bool) (ply : Nat → Bool) (hps : Nat → Nat) (cq : Nat) (hI : XI c g hid code ans dbt opn) (hc2 : cq = 2 ∨ cq = 3) : Met l yX1_setColours wsX1_setColours ({ frames := 4, cells := 0, slots := 0, locals := 87 }) (va_Pc [.ref (ad 0), .int (nI (cq))] (Iv D (TY cI cZ cG cJ) A (WX ad cI cZ c g hid code ans dbt opn ply hps wr))) (va_Qi (fun r (u : Nat → Bool) => r = nI c ∧ ∀ k, k < 81 → u k = opS cq 0 code ans dbt k) (fun u => Wd D A (WX ad cI cZ cq 0 (-1) code ans dbt u ply hps wr)) A) 0 0 A := by
  refine Met.ofW (cc := cX1_setColours) (maxL := 3) (ret := (some .int)) (by decide) rfl ?_
  intro p e s m args below meth c9 s₁ B hml hv
  obtain ⟨rfl, hP, hD, hB⟩ := hv
  have hK := hB.1
  have hA := hB.2.1
  have hx := B.exec
  have hb := B.bytes
  have hr := B.returns
  have hts := atoms_spec (ws := wsX1_setColours) B.pre
  have hown : s.vm.findClass RX1 = some m.cls := findClass_of_methodNamed B.named
  have hlocks := B.notSynchronized
  have hS : va_S A s.heap s.heap [] := va_S.rf
  have hinX0 : ∀ w ∈ wsX00, w ∈ wsX1_setColours := by decide +kernel
  have hinX1 : ∀ w ∈ wsX10, w ∈ wsX1_setColours := by decide +kernel
  have lk14 := hts (.fieldLink RX1 14 "HiddenCandles" "fewColours" "LHiddenCandles$Palette;") (by decide +kernel)
  have lk18 := hts (.fieldLink RX1 18 "HiddenCandles" "manyColours" "LHiddenCandles$Palette;") (by decide +kernel)
  have lk21 := hts (.fieldLink RX1 21 "HiddenCandles" "palette" "LHiddenCandles$Palette;") (by decide +kernel)
  have lk24 := hts (.fieldLink RX1 24 "HiddenCandles" "hidden" "I") (by decide +kernel)
  have lk28 := hts (.fieldLink RX1 28 "HiddenCandles" "guesses" "I") (by decide +kernel)
  have hl := lv_entry ([.ref (ad 0), .int (nI (cq))]) (n := 3) (Nat.le_of_ble_eq_true rfl)
  rw [lg_entry_eq]
  generalize (lg_sl ([.ref (ad 0), .int (nI (cq))]) ++ List.replicate (3 - (lg_sl ([.ref (ad 0), .int (nI (cq))])).length) Slot.unset).toArray = ls at hl ⊢
  have hl : lv_has ls 3 [(0, .ref (ad 0)), (1, .int (nI (cq)))] := hl
  obtain ⟨H, eH⟩ : ∃ q, q = s.heap := ⟨_, rfl⟩
  obtain ⟨locs, eL⟩ : ∃ q : List Loc, q = [] := ⟨_, rfl⟩
  replace hP : va_P D vwCl (WX ad cI cZ c g hid code ans dbt opn ply hps wr) H := by rw [eH]; exact hP
  replace hS : va_S A s.heap H locs := by rw [eH, eL]; exact hS
  rw [show W p l e _ s m _ below meth c9 s.heap [] = W p l e _ s m _ below meth c9 H locs from by rw [eH, eL]]
  clear eH eL
  obtain ⟨hc, hg, hco, hhid, hop⟩ := id hI
  have hq := qq_in hc
  have hop2 := op_lt hop
  refine lv_iload_n hx hb dX1_setColours_0 rfl (lv_at hl 1 rfl) ?_
  refine lv_iconst (v := nI (2)) hx hb dX1_setColours_1 (by decide) ?_
  refine x_eq (tgt := 20) hx hb dX1_setColours_2 (by decide) (by omega) (by omega) (fun c2 => ?_) (fun c2 => ?_)
  · skip
    refine lv_aload_n hx hb dX1_setColours_20 rfl (lv_at hl 0 rfl) ?_
    refine va_get (D := D) (ci := 1) (v := .ref (pal ad c)) (C := RX1) (T := TX1) (N := 11) hx hb hts hinX1 hown hK hP 0 rfl rfl 2 (by decide) lk21 (fun _ h9 => h9) rfl dX1_setColours_21 ?_
    refine x_colours hx hb hts hinX0 hown hK hP (palX hpal hc) (hB.2.2.2.2.1 _ (by simp [Nws])) dX1_setColours_24 ?_
    refine lv_istore_n (lv' := [(2, .int (nI (c))), (0, .ref (ad 0)), (1, .int (nI (cq)))]) hx hb dX1_setColours_27 rfl hl (by decide) rfl (fun ls hl => ?_)
    refine lv_aload_n hx hb dX1_setColours_28 rfl (lv_at hl 1 rfl) ?_
    refine lv_iload_n hx hb dX1_setColours_29 rfl (lv_at hl 2 rfl) ?_
    refine lv_iconst (v := nI (2)) hx hb dX1_setColours_30 (by decide) ?_
    refine x_ne (tgt := 41) hx hb dX1_setColours_31 (by decide) (by omega) (by omega) (fun c31 => ?_) (fun c31 => ?_)
    · skip
      refine lv_aload_n hx hb dX1_setColours_41 rfl (lv_at hl 1 rfl) ?_
      refine va_get (D := D) (ci := 1) (v := .ref (ad 8)) (C := RX1) (T := TX1) (N := 11) hx hb hts hinX1 hown hK hP 0 rfl rfl 1 (by decide) lk18 (fun _ h9 => h9) rfl dX1_setColours_42 ?_
      refine va_put (D := D) (ci := 1) (v := .ref (ad 8)) (ty := (.object "HiddenCandles$Palette")) (C := RX1) (T := TX1) (N := 11) hx hb hts hinX1 tyX1 tyX1_ok nmX1 hown hK hP hD hS 0 rfl rfl 2 (by decide) lk21 (fun _ h9 => h9) rfl (by decide +kernel) rfl rfl (Nat.le_of_ble_eq_true rfl) dX1_setColours_45 (fun H locs hP hD hS => ?_)
      replace hP : va_P D vwCl (WX ad cI cZ 3 g hid code ans dbt opn ply hps wr) H := hP
      replace hD : va_D A (WX ad cI cZ 3 g hid code ans dbt opn ply hps wr) := hD
      refine lv_aload_n hx hb dX1_setColours_48 rfl (lv_at hl 1 rfl) ?_
      refine lv_iconst (v := (-1)) hx hb dX1_setColours_49 (by decide) ?_
      refine va_put (D := D) (ci := 1) (v := .int ((-1))) (ty := .int) (C := RX1) (T := TX1) (N := 11) hx hb hts hinX1 tyX1 tyX1_ok nmX1 hown hK hP hD hS 0 rfl rfl 3 (by decide) lk24 (fun _ h9 => h9) rfl (by decide +kernel) rfl rfl (Nat.le_of_ble_eq_true rfl) dX1_setColours_50 (fun H locs hP hD hS => ?_)
      replace hP : va_P D vwCl (WX ad cI cZ 3 g (-1) code ans dbt opn ply hps wr) H := hP
      replace hD : va_D A (WX ad cI cZ 3 g (-1) code ans dbt opn ply hps wr) := hD
      refine lv_aload_n hx hb dX1_setColours_53 rfl (lv_at hl 1 rfl) ?_
      refine lv_iconst (v := nI (0)) hx hb dX1_setColours_54 (by decide) ?_
      refine va_put (D := D) (ci := 1) (v := .int (nI (0))) (ty := .int) (C := RX1) (T := TX1) (N := 11) hx hb hts hinX1 tyX1 tyX1_ok nmX1 hown hK hP hD hS 0 rfl rfl 4 (by decide) lk28 (fun _ h9 => h9) rfl (by decide +kernel) rfl rfl (Nat.le_of_ble_eq_true rfl) dX1_setColours_55 (fun H locs hP hD hS => ?_)
      replace hP : va_P D vwCl (WX ad cI cZ 3 0 (-1) code ans dbt opn ply hps wr) H := hP
      replace hD : va_D A (WX ad cI cZ 3 0 (-1) code ans dbt opn ply hps wr) := hD
      refine lv_aload_n hx hb dX1_setColours_58 rfl (lv_at hl 1 rfl) ?_
      refine va_callv (va_runV (As := []) (rest := []) ⟨hx, hb, hml, hown, hts⟩ (c_X1_sieve l D cI cZ cG cJ A ad wr hpal 3 0 (-1) code ans dbt opn ply hps (by decide) (Nat.zero_le _) (fun i hi => absurd hi (Nat.not_lt_zero i))) (cwV 0 hts gX1_setColours_X1_sieve rfl rfl rfl (by decide +kernel) ⟨Nat.le_of_ble_eq_true rfl, Nat.le_of_ble_eq_true rfl⟩) (preV (ci := 1) (q0 := 0) hB hS hP hD rfl rfl) rfl rfl hl.1 rfl (lv_room (Nat.le_of_ble_eq_true rfl)) dX1_setColours_59 ⟨Nat.le_of_ble_eq_true rfl, Nat.le_of_ble_eq_true rfl⟩) hS (fun q _ h => h) (fun q h => h) (fun u_59 t9 H1 locs1 ht9 hvm9 hw_59 hBw hz9 hk9 hS => ?_)
      obtain ⟨hP, hD⟩ := hBw
      rw [ht9] at hP
      generalize H1 = H at hP hS ⊢
      generalize locs1 = locs at hS ⊢
      replace hP : va_P D vwCl (WX ad cI cZ 3 0 (-1) code ans dbt u_59 ply hps wr) H := hP
      replace hD : va_D A (WX ad cI cZ 3 0 (-1) code ans dbt u_59 ply hps wr) := hD
      refine lv_iload_n hx hb dX1_setColours_62 rfl (lv_at hl 0 rfl) ?_
      first | subst c31 | (have e7 := hc2.resolve_left c31; subst e7)
      exact W.iret (v := nI (c)) hx hb hr (fun t ht hW => ⟨⟨_, u_59, rfl, (by
          exact ⟨rfl, hw_59⟩), ⟨by rw [ht]; exact hP, hD⟩⟩, hS.F ht⟩) hS.2.2 dX1_setColours_63
    · skip
      refine lv_aload_n hx hb dX1_setColours_34 rfl (lv_at hl 1 rfl) ?_
      refine va_get (D := D) (ci := 1) (v := .ref (ad 7)) (C := RX1) (T := TX1) (N := 11) hx hb hts hinX1 hown hK hP 0 rfl rfl 0 (by decide) lk14 (fun _ h9 => h9) rfl dX1_setColours_35 ?_
      refine lv_goto (tgt := 45) hx hb dX1_setColours_38 (by decide) ?_
      refine va_put (D := D) (ci := 1) (v := .ref (ad 7)) (ty := (.object "HiddenCandles$Palette")) (C := RX1) (T := TX1) (N := 11) hx hb hts hinX1 tyX1 tyX1_ok nmX1 hown hK hP hD hS 0 rfl rfl 2 (by decide) lk21 (fun _ h9 => h9) rfl (by decide +kernel) rfl rfl (Nat.le_of_ble_eq_true rfl) dX1_setColours_45 (fun H locs hP hD hS => ?_)
      replace hP : va_P D vwCl (WX ad cI cZ 2 g hid code ans dbt opn ply hps wr) H := hP
      replace hD : va_D A (WX ad cI cZ 2 g hid code ans dbt opn ply hps wr) := hD
      refine lv_aload_n hx hb dX1_setColours_48 rfl (lv_at hl 1 rfl) ?_
      refine lv_iconst (v := (-1)) hx hb dX1_setColours_49 (by decide) ?_
      refine va_put (D := D) (ci := 1) (v := .int ((-1))) (ty := .int) (C := RX1) (T := TX1) (N := 11) hx hb hts hinX1 tyX1 tyX1_ok nmX1 hown hK hP hD hS 0 rfl rfl 3 (by decide) lk24 (fun _ h9 => h9) rfl (by decide +kernel) rfl rfl (Nat.le_of_ble_eq_true rfl) dX1_setColours_50 (fun H locs hP hD hS => ?_)
      replace hP : va_P D vwCl (WX ad cI cZ 2 g (-1) code ans dbt opn ply hps wr) H := hP
      replace hD : va_D A (WX ad cI cZ 2 g (-1) code ans dbt opn ply hps wr) := hD
      refine lv_aload_n hx hb dX1_setColours_53 rfl (lv_at hl 1 rfl) ?_
      refine lv_iconst (v := nI (0)) hx hb dX1_setColours_54 (by decide) ?_
      refine va_put (D := D) (ci := 1) (v := .int (nI (0))) (ty := .int) (C := RX1) (T := TX1) (N := 11) hx hb hts hinX1 tyX1 tyX1_ok nmX1 hown hK hP hD hS 0 rfl rfl 4 (by decide) lk28 (fun _ h9 => h9) rfl (by decide +kernel) rfl rfl (Nat.le_of_ble_eq_true rfl) dX1_setColours_55 (fun H locs hP hD hS => ?_)
      replace hP : va_P D vwCl (WX ad cI cZ 2 0 (-1) code ans dbt opn ply hps wr) H := hP
      replace hD : va_D A (WX ad cI cZ 2 0 (-1) code ans dbt opn ply hps wr) := hD
      refine lv_aload_n hx hb dX1_setColours_58 rfl (lv_at hl 1 rfl) ?_
      refine va_callv (va_runV (As := []) (rest := []) ⟨hx, hb, hml, hown, hts⟩ (c_X1_sieve l D cI cZ cG cJ A ad wr hpal 2 0 (-1) code ans dbt opn ply hps (by decide) (Nat.zero_le _) (fun i hi => absurd hi (Nat.not_lt_zero i))) (cwV 0 hts gX1_setColours_X1_sieve rfl rfl rfl (by decide +kernel) ⟨Nat.le_of_ble_eq_true rfl, Nat.le_of_ble_eq_true rfl⟩) (preV (ci := 1) (q0 := 0) hB hS hP hD rfl rfl) rfl rfl hl.1 rfl (lv_room (Nat.le_of_ble_eq_true rfl)) dX1_setColours_59 ⟨Nat.le_of_ble_eq_true rfl, Nat.le_of_ble_eq_true rfl⟩) hS (fun q _ h => h) (fun q h => h) (fun u_59 t9 H1 locs1 ht9 hvm9 hw_59 hBw hz9 hk9 hS => ?_)
      obtain ⟨hP, hD⟩ := hBw
      rw [ht9] at hP
      generalize H1 = H at hP hS ⊢
      generalize locs1 = locs at hS ⊢
      replace hP : va_P D vwCl (WX ad cI cZ 2 0 (-1) code ans dbt u_59 ply hps wr) H := hP
      replace hD : va_D A (WX ad cI cZ 2 0 (-1) code ans dbt u_59 ply hps wr) := hD
      refine lv_iload_n hx hb dX1_setColours_62 rfl (lv_at hl 0 rfl) ?_
      first | subst c31 | (have e7 := hc2.resolve_left c31; subst e7)
      exact W.iret (v := nI (c)) hx hb hr (fun t ht hW => ⟨⟨_, u_59, rfl, (by
          exact ⟨rfl, hw_59⟩), ⟨by rw [ht]; exact hP, hD⟩⟩, hS.F ht⟩) hS.2.2 dX1_setColours_63
  · skip
    refine lv_iload_n hx hb dX1_setColours_5 rfl (lv_at hl 1 rfl) ?_
    refine lv_iconst (v := nI (3)) hx hb dX1_setColours_6 (by decide) ?_
    refine x_eq (tgt := 20) hx hb dX1_setColours_7 (by decide) (by omega) (by omega) (fun c7 => ?_) (fun c7 => ?_)
    · skip
      refine lv_aload_n hx hb dX1_setColours_20 rfl (lv_at hl 0 rfl) ?_
      refine va_get (D := D) (ci := 1) (v := .ref (pal ad c)) (C := RX1) (T := TX1) (N := 11) hx hb hts hinX1 hown hK hP 0 rfl rfl 2 (by decide) lk21 (fun _ h9 => h9) rfl dX1_setColours_21 ?_
      refine x_colours hx hb hts hinX0 hown hK hP (palX hpal hc) (hB.2.2.2.2.1 _ (by simp [Nws])) dX1_setColours_24 ?_
      refine lv_istore_n (lv' := [(2, .int (nI (c))), (0, .ref (ad 0)), (1, .int (nI (cq)))]) hx hb dX1_setColours_27 rfl hl (by decide) rfl (fun ls hl => ?_)
      refine lv_aload_n hx hb dX1_setColours_28 rfl (lv_at hl 1 rfl) ?_
      refine lv_iload_n hx hb dX1_setColours_29 rfl (lv_at hl 2 rfl) ?_
      refine lv_iconst (v := nI (2)) hx hb dX1_setColours_30 (by decide) ?_
      refine x_ne (tgt := 41) hx hb dX1_setColours_31 (by decide) (by omega) (by omega) (fun c31 => ?_) (fun c31 => ?_)
      · skip
        refine lv_aload_n hx hb dX1_setColours_41 rfl (lv_at hl 1 rfl) ?_
        refine va_get (D := D) (ci := 1) (v := .ref (ad 8)) (C := RX1) (T := TX1) (N := 11) hx hb hts hinX1 hown hK hP 0 rfl rfl 1 (by decide) lk18 (fun _ h9 => h9) rfl dX1_setColours_42 ?_
        refine va_put (D := D) (ci := 1) (v := .ref (ad 8)) (ty := (.object "HiddenCandles$Palette")) (C := RX1) (T := TX1) (N := 11) hx hb hts hinX1 tyX1 tyX1_ok nmX1 hown hK hP hD hS 0 rfl rfl 2 (by decide) lk21 (fun _ h9 => h9) rfl (by decide +kernel) rfl rfl (Nat.le_of_ble_eq_true rfl) dX1_setColours_45 (fun H locs hP hD hS => ?_)
        replace hP : va_P D vwCl (WX ad cI cZ 3 g hid code ans dbt opn ply hps wr) H := hP
        replace hD : va_D A (WX ad cI cZ 3 g hid code ans dbt opn ply hps wr) := hD
        refine lv_aload_n hx hb dX1_setColours_48 rfl (lv_at hl 1 rfl) ?_
        refine lv_iconst (v := (-1)) hx hb dX1_setColours_49 (by decide) ?_
        refine va_put (D := D) (ci := 1) (v := .int ((-1))) (ty := .int) (C := RX1) (T := TX1) (N := 11) hx hb hts hinX1 tyX1 tyX1_ok nmX1 hown hK hP hD hS 0 rfl rfl 3 (by decide) lk24 (fun _ h9 => h9) rfl (by decide +kernel) rfl rfl (Nat.le_of_ble_eq_true rfl) dX1_setColours_50 (fun H locs hP hD hS => ?_)
        replace hP : va_P D vwCl (WX ad cI cZ 3 g (-1) code ans dbt opn ply hps wr) H := hP
        replace hD : va_D A (WX ad cI cZ 3 g (-1) code ans dbt opn ply hps wr) := hD
        refine lv_aload_n hx hb dX1_setColours_53 rfl (lv_at hl 1 rfl) ?_
        refine lv_iconst (v := nI (0)) hx hb dX1_setColours_54 (by decide) ?_
        refine va_put (D := D) (ci := 1) (v := .int (nI (0))) (ty := .int) (C := RX1) (T := TX1) (N := 11) hx hb hts hinX1 tyX1 tyX1_ok nmX1 hown hK hP hD hS 0 rfl rfl 4 (by decide) lk28 (fun _ h9 => h9) rfl (by decide +kernel) rfl rfl (Nat.le_of_ble_eq_true rfl) dX1_setColours_55 (fun H locs hP hD hS => ?_)
        replace hP : va_P D vwCl (WX ad cI cZ 3 0 (-1) code ans dbt opn ply hps wr) H := hP
        replace hD : va_D A (WX ad cI cZ 3 0 (-1) code ans dbt opn ply hps wr) := hD
        refine lv_aload_n hx hb dX1_setColours_58 rfl (lv_at hl 1 rfl) ?_
        refine va_callv (va_runV (As := []) (rest := []) ⟨hx, hb, hml, hown, hts⟩ (c_X1_sieve l D cI cZ cG cJ A ad wr hpal 3 0 (-1) code ans dbt opn ply hps (by decide) (Nat.zero_le _) (fun i hi => absurd hi (Nat.not_lt_zero i))) (cwV 0 hts gX1_setColours_X1_sieve rfl rfl rfl (by decide +kernel) ⟨Nat.le_of_ble_eq_true rfl, Nat.le_of_ble_eq_true rfl⟩) (preV (ci := 1) (q0 := 0) hB hS hP hD rfl rfl) rfl rfl hl.1 rfl (lv_room (Nat.le_of_ble_eq_true rfl)) dX1_setColours_59 ⟨Nat.le_of_ble_eq_true rfl, Nat.le_of_ble_eq_true rfl⟩) hS (fun q _ h => h) (fun q h => h) (fun u_59 t9 H1 locs1 ht9 hvm9 hw_59 hBw hz9 hk9 hS => ?_)
        obtain ⟨hP, hD⟩ := hBw
        rw [ht9] at hP
        generalize H1 = H at hP hS ⊢
        generalize locs1 = locs at hS ⊢
        replace hP : va_P D vwCl (WX ad cI cZ 3 0 (-1) code ans dbt u_59 ply hps wr) H := hP
        replace hD : va_D A (WX ad cI cZ 3 0 (-1) code ans dbt u_59 ply hps wr) := hD
        refine lv_iload_n hx hb dX1_setColours_62 rfl (lv_at hl 0 rfl) ?_
        first | subst c31 | (have e7 := hc2.resolve_left c31; subst e7)
        exact W.iret (v := nI (c)) hx hb hr (fun t ht hW => ⟨⟨_, u_59, rfl, (by
            exact ⟨rfl, hw_59⟩), ⟨by rw [ht]; exact hP, hD⟩⟩, hS.F ht⟩) hS.2.2 dX1_setColours_63
      · skip
        refine lv_aload_n hx hb dX1_setColours_34 rfl (lv_at hl 1 rfl) ?_
        refine va_get (D := D) (ci := 1) (v := .ref (ad 7)) (C := RX1) (T := TX1) (N := 11) hx hb hts hinX1 hown hK hP 0 rfl rfl 0 (by decide) lk14 (fun _ h9 => h9) rfl dX1_setColours_35 ?_
        refine lv_goto (tgt := 45) hx hb dX1_setColours_38 (by decide) ?_
        refine va_put (D := D) (ci := 1) (v := .ref (ad 7)) (ty := (.object "HiddenCandles$Palette")) (C := RX1) (T := TX1) (N := 11) hx hb hts hinX1 tyX1 tyX1_ok nmX1 hown hK hP hD hS 0 rfl rfl 2 (by decide) lk21 (fun _ h9 => h9) rfl (by decide +kernel) rfl rfl (Nat.le_of_ble_eq_true rfl) dX1_setColours_45 (fun H locs hP hD hS => ?_)
        replace hP : va_P D vwCl (WX ad cI cZ 2 g hid code ans dbt opn ply hps wr) H := hP
        replace hD : va_D A (WX ad cI cZ 2 g hid code ans dbt opn ply hps wr) := hD
        refine lv_aload_n hx hb dX1_setColours_48 rfl (lv_at hl 1 rfl) ?_
        refine lv_iconst (v := (-1)) hx hb dX1_setColours_49 (by decide) ?_
        refine va_put (D := D) (ci := 1) (v := .int ((-1))) (ty := .int) (C := RX1) (T := TX1) (N := 11) hx hb hts hinX1 tyX1 tyX1_ok nmX1 hown hK hP hD hS 0 rfl rfl 3 (by decide) lk24 (fun _ h9 => h9) rfl (by decide +kernel) rfl rfl (Nat.le_of_ble_eq_true rfl) dX1_setColours_50 (fun H locs hP hD hS => ?_)
        replace hP : va_P D vwCl (WX ad cI cZ 2 g (-1) code ans dbt opn ply hps wr) H := hP
        replace hD : va_D A (WX ad cI cZ 2 g (-1) code ans dbt opn ply hps wr) := hD
        refine lv_aload_n hx hb dX1_setColours_53 rfl (lv_at hl 1 rfl) ?_
        refine lv_iconst (v := nI (0)) hx hb dX1_setColours_54 (by decide) ?_
        refine va_put (D := D) (ci := 1) (v := .int (nI (0))) (ty := .int) (C := RX1) (T := TX1) (N := 11) hx hb hts hinX1 tyX1 tyX1_ok nmX1 hown hK hP hD hS 0 rfl rfl 4 (by decide) lk28 (fun _ h9 => h9) rfl (by decide +kernel) rfl rfl (Nat.le_of_ble_eq_true rfl) dX1_setColours_55 (fun H locs hP hD hS => ?_)
        replace hP : va_P D vwCl (WX ad cI cZ 2 0 (-1) code ans dbt opn ply hps wr) H := hP
        replace hD : va_D A (WX ad cI cZ 2 0 (-1) code ans dbt opn ply hps wr) := hD
        refine lv_aload_n hx hb dX1_setColours_58 rfl (lv_at hl 1 rfl) ?_
        refine va_callv (va_runV (As := []) (rest := []) ⟨hx, hb, hml, hown, hts⟩ (c_X1_sieve l D cI cZ cG cJ A ad wr hpal 2 0 (-1) code ans dbt opn ply hps (by decide) (Nat.zero_le _) (fun i hi => absurd hi (Nat.not_lt_zero i))) (cwV 0 hts gX1_setColours_X1_sieve rfl rfl rfl (by decide +kernel) ⟨Nat.le_of_ble_eq_true rfl, Nat.le_of_ble_eq_true rfl⟩) (preV (ci := 1) (q0 := 0) hB hS hP hD rfl rfl) rfl rfl hl.1 rfl (lv_room (Nat.le_of_ble_eq_true rfl)) dX1_setColours_59 ⟨Nat.le_of_ble_eq_true rfl, Nat.le_of_ble_eq_true rfl⟩) hS (fun q _ h => h) (fun q h => h) (fun u_59 t9 H1 locs1 ht9 hvm9 hw_59 hBw hz9 hk9 hS => ?_)
        obtain ⟨hP, hD⟩ := hBw
        rw [ht9] at hP
        generalize H1 = H at hP hS ⊢
        generalize locs1 = locs at hS ⊢
        replace hP : va_P D vwCl (WX ad cI cZ 2 0 (-1) code ans dbt u_59 ply hps wr) H := hP
        replace hD : va_D A (WX ad cI cZ 2 0 (-1) code ans dbt u_59 ply hps wr) := hD
        refine lv_iload_n hx hb dX1_setColours_62 rfl (lv_at hl 0 rfl) ?_
        first | subst c31 | (have e7 := hc2.resolve_left c31; subst e7)
        exact W.iret (v := nI (c)) hx hb hr (fun t ht hW => ⟨⟨_, u_59, rfl, (by
            exact ⟨rfl, hw_59⟩), ⟨by rw [ht]; exact hP, hD⟩⟩, hS.F ht⟩) hS.2.2 dX1_setColours_63
    · skip
      exact absurd hc2 (by omega)

set_option maxHeartbeats 4000000 in
set_option maxRecDepth 100000 in
theorem c_X1_appendP (l : Launch) (D : va_G) (cI cZ cG cJ : ClassId) (A : Nat → Prop) (ad : Nat → Nat) (wr : va_W) (hpal : Pals cI cG ad wr) (c : Nat) (g : Nat) (hid : Int32) (code : Nat → Nat) (ans : Nat → Nat) (dbt : Nat → Bool) (opn : Nat → Bool) (ply : Nat → Bool) (hps : Nat → Nat) (cd : Nat) (an : Nat) (hc : c = 2 ∨ c = 3) (hg : g < 12) (hco : CodeOK c g code ans) (hcd : cd < qq c) (han : an < 32) : Met l yX1_append wsX1_append ({ frames := 4, cells := 0, slots := 0, locals := 87 }) (va_Pc [.ref (ad 0), .int (nI (cd)), .int (nI (an))] (Iv D (TY cI cZ cG cJ) A (WX ad cI cZ c g hid code ans dbt opn ply hps wr))) (va_Qv (fun (u : Nat → Bool) => ∀ k, k < 81 → u k = opS c (g + 1) (va_up code g cd) (va_up ans g an) (va_up dbt g false) k) (fun u => Wd D A (WX ad cI cZ c (g + 1) hid (va_up code g cd) (va_up ans g an) (va_up dbt g false) u ply hps wr)) A) 0 0 A := by
  refine Met.ofW (cc := cX1_append) (maxL := 4) (ret := none) (by decide) rfl ?_
  intro p e s m args below meth c9 s₁ B hml hv
  obtain ⟨rfl, hP, hD, hB⟩ := hv
  have hK := hB.1
  have hA := hB.2.1
  have hx := B.exec
  have hb := B.bytes
  have hr := B.returns
  have hts := atoms_spec (ws := wsX1_append) B.pre
  have hown : s.vm.findClass RX1 = some m.cls := findClass_of_methodNamed B.named
  have hlocks := B.notSynchronized
  have hS : va_S A s.heap s.heap [] := va_S.rf
  have hinX1 : ∀ w ∈ wsX10, w ∈ wsX1_append := by decide +kernel
  have lk28 := hts (.fieldLink RX1 28 "HiddenCandles" "guesses" "I") (by decide +kernel)
  have lk31 := hts (.fieldLink RX1 31 "HiddenCandles" "guessed" "[I") (by decide +kernel)
  have lk35 := hts (.fieldLink RX1 35 "HiddenCandles" "answers" "[I") (by decide +kernel)
  have lk38 := hts (.fieldLink RX1 38 "HiddenCandles" "doubted" "[Z") (by decide +kernel)
  have hl := lv_entry ([.ref (ad 0), .int (nI (cd)), .int (nI (an))]) (n := 4) (Nat.le_of_ble_eq_true rfl)
  rw [lg_entry_eq]
  generalize (lg_sl ([.ref (ad 0), .int (nI (cd)), .int (nI (an))]) ++ List.replicate (4 - (lg_sl ([.ref (ad 0), .int (nI (cd)), .int (nI (an))])).length) Slot.unset).toArray = ls at hl ⊢
  have hl : lv_has ls 4 [(0, .ref (ad 0)), (1, .int (nI (cd))), (2, .int (nI (an)))] := hl
  obtain ⟨H, eH⟩ : ∃ q, q = s.heap := ⟨_, rfl⟩
  obtain ⟨locs, eL⟩ : ∃ q : List Loc, q = [] := ⟨_, rfl⟩
  replace hP : va_P D vwCl (WX ad cI cZ c g hid code ans dbt opn ply hps wr) H := by rw [eH]; exact hP
  replace hS : va_S A s.heap H locs := by rw [eH, eL]; exact hS
  rw [show W p l e _ s m _ below meth c9 s.heap [] = W p l e _ s m _ below meth c9 H locs from by rw [eH, eL]]
  clear eH eL
  have hq := qq_in hc
  refine lv_aload_n hx hb dX1_append_0 rfl (lv_at hl 0 rfl) ?_
  refine va_get (D := D) (ci := 1) (v := .int (nI (g))) (C := RX1) (T := TX1) (N := 11) hx hb hts hinX1 hown hK hP 0 rfl rfl 4 (by decide) lk28 (fun _ h9 => h9) rfl dX1_append_1 ?_
  refine lv_istore_n (lv' := [(3, .int (nI (g))), (0, .ref (ad 0)), (1, .int (nI (cd))), (2, .int (nI (an)))]) hx hb dX1_append_4 rfl hl (by decide) rfl (fun ls hl => ?_)
  refine lv_iload_n hx hb dX1_append_5 rfl (lv_at hl 0 rfl) ?_
  refine x_lt0 (tgt := 15) hx hb dX1_append_6 (by decide) (by omega) ?_
  refine lv_iload_n hx hb dX1_append_9 rfl (lv_at hl 0 rfl) ?_
  refine lv_bipush (v := nI (12)) hx hb dX1_append_10 (by decide) ?_
  refine x_lt (tgt := 25) hx hb dX1_append_12 (by decide) (by omega) (by omega) (fun c12 => ?_) (fun c12 => absurd c12 (by omega))
  refine lv_aload_n hx hb dX1_append_25 rfl (lv_at hl 1 rfl) ?_
  refine va_get (D := D) (ci := 1) (v := .ref (ad 1)) (C := RX1) (T := TX1) (N := 11) hx hb hts hinX1 hown hK hP 0 rfl rfl 5 (by decide) lk31 (fun _ h9 => h9) rfl dX1_append_26 ?_
  refine lv_iload_n hx hb dX1_append_29 rfl (lv_at hl 0 rfl) ?_
  refine lv_iload_n hx hb dX1_append_30 rfl (lv_at hl 2 rfl) ?_
  refine x_iast hx hb hK hP hD hS 1 0 rfl rfl (i := g) (v := cd) (by omega) (by omega) dX1_append_31 (fun H locs hP hD hS => ?_)
  replace hP : va_P D vwCl (WX ad cI cZ c g hid (va_up code g cd) ans dbt opn ply hps wr) H := hP
  replace hD : va_D A (WX ad cI cZ c g hid (va_up code g cd) ans dbt opn ply hps wr) := hD
  refine lv_aload_n hx hb dX1_append_32 rfl (lv_at hl 1 rfl) ?_
  refine va_get (D := D) (ci := 1) (v := .ref (ad 2)) (C := RX1) (T := TX1) (N := 11) hx hb hts hinX1 hown hK hP 0 rfl rfl 6 (by decide) lk35 (fun _ h9 => h9) rfl dX1_append_33 ?_
  refine lv_iload_n hx hb dX1_append_36 rfl (lv_at hl 0 rfl) ?_
  refine lv_iload_n hx hb dX1_append_37 rfl (lv_at hl 3 rfl) ?_
  refine x_iast hx hb hK hP hD hS 2 0 rfl rfl (i := g) (v := an) (by omega) (by omega) dX1_append_38 (fun H locs hP hD hS => ?_)
  replace hP : va_P D vwCl (WX ad cI cZ c g hid (va_up code g cd) (va_up ans g an) dbt opn ply hps wr) H := hP
  replace hD : va_D A (WX ad cI cZ c g hid (va_up code g cd) (va_up ans g an) dbt opn ply hps wr) := hD
  refine lv_aload_n hx hb dX1_append_39 rfl (lv_at hl 1 rfl) ?_
  refine va_get (D := D) (ci := 1) (v := .ref (ad 3)) (C := RX1) (T := TX1) (N := 11) hx hb hts hinX1 hown hK hP 0 rfl rfl 7 (by decide) lk38 (fun _ h9 => h9) rfl dX1_append_40 ?_
  refine lv_iload_n hx hb dX1_append_43 rfl (lv_at hl 0 rfl) ?_
  refine lv_iconst (v := bI (false)) hx hb dX1_append_44 (by decide) ?_
  refine x_zast hx hb hK hP hD hS 3 1 rfl rfl (i := g) (v := false) (by omega) (by omega) dX1_append_45 (fun H locs hP hD hS => ?_)
  replace hP : va_P D vwCl (WX ad cI cZ c g hid (va_up code g cd) (va_up ans g an) (va_up dbt g false) opn ply hps wr) H := hP
  replace hD : va_D A (WX ad cI cZ c g hid (va_up code g cd) (va_up ans g an) (va_up dbt g false) opn ply hps wr) := hD
  refine lv_aload_n hx hb dX1_append_46 rfl (lv_at hl 1 rfl) ?_
  refine lv_iload_n hx hb dX1_append_47 rfl (lv_at hl 0 rfl) ?_
  refine lv_iconst (v := nI (1)) hx hb dX1_append_48 (by decide) ?_
  refine lv_iadd hx hb dX1_append_49 ?_
  refine x_ti (nI_add _ _) ?_
  refine va_put (D := D) (ci := 1) (v := .int (nI (g + 1))) (ty := .int) (C := RX1) (T := TX1) (N := 11) hx hb hts hinX1 tyX1 tyX1_ok nmX1 hown hK hP hD hS 0 rfl rfl 4 (by decide) lk28 (fun _ h9 => h9) rfl (by decide +kernel) rfl rfl (Nat.le_of_ble_eq_true rfl) dX1_append_50 (fun H locs hP hD hS => ?_)
  replace hP : va_P D vwCl (WX ad cI cZ c (g + 1) hid (va_up code g cd) (va_up ans g an) (va_up dbt g false) opn ply hps wr) H := hP
  replace hD : va_D A (WX ad cI cZ c (g + 1) hid (va_up code g cd) (va_up ans g an) (va_up dbt g false) opn ply hps wr) := hD
  refine lv_aload_n hx hb dX1_append_53 rfl (lv_at hl 1 rfl) ?_
  refine va_callv (va_runV (As := []) (rest := []) ⟨hx, hb, hml, hown, hts⟩ (c_X1_sieve l D cI cZ cG cJ A ad wr hpal c (g + 1) hid (va_up code g cd) (va_up ans g an) (va_up dbt g false) opn ply hps (hc) (by omega) (code_up hco hcd han)) (cwV 0 hts gX1_append_X1_sieve rfl rfl rfl (by decide +kernel) ⟨Nat.le_of_ble_eq_true rfl, Nat.le_of_ble_eq_true rfl⟩) (preV (ci := 1) (q0 := 0) hB hS hP hD rfl rfl) rfl rfl hl.1 rfl (lv_room (Nat.le_of_ble_eq_true rfl)) dX1_append_54 ⟨Nat.le_of_ble_eq_true rfl, Nat.le_of_ble_eq_true rfl⟩) hS (fun q _ h => h) (fun q h => h) (fun u_54 t9 H1 locs1 ht9 hvm9 hw_54 hBw hz9 hk9 hS => ?_)
  obtain ⟨hP, hD⟩ := hBw
  rw [ht9] at hP
  generalize H1 = H at hP hS ⊢
  generalize locs1 = locs at hS ⊢
  replace hP : va_P D vwCl (WX ad cI cZ c (g + 1) hid (va_up code g cd) (va_up ans g an) (va_up dbt g false) u_54 ply hps wr) H := hP
  replace hD : va_D A (WX ad cI cZ c (g + 1) hid (va_up code g cd) (va_up ans g an) (va_up dbt g false) u_54 ply hps wr) := hD
  exact W.vret hx hb hr (fun t ht hW => ⟨⟨u_54, rfl, (by
      exact hw_54), ⟨by rw [ht]; exact hP, hD⟩⟩, hS.F ht⟩) hS.2.2 dX1_append_57

set_option maxHeartbeats 4000000 in
set_option maxRecDepth 100000 in
theorem c_X1_tellP (l : Launch) (D : va_G) (cI cZ cG cJ : ClassId) (A : Nat → Prop) (ad : Nat → Nat) (wr : va_W) (hpal : Pals cI cG ad wr) (c : Nat) (g : Nat) (hid : Int32) (code : Nat → Nat) (ans : Nat → Nat) (dbt : Nat → Bool) (opn : Nat → Bool) (ply : Nat → Bool) (hps : Nat → Nat) (k : Nat) (nb : Nat) (nw : Nat) (hI : XI c g hid code ans dbt opn) (hk : k < qq c) (hn : nb + nw ≤ 4) (h31 : ¬ (nb = 3 ∧ nw = 1)) (hg2 : g < 12) : Met l yX1_tell wsX1_tell ({ frames := 5, cells := 0, slots := 0, locals := 110 }) (va_Pc [.ref (ad 0), .int (nI (k)), .int (nI (nb)), .int (nI (nw))] (Iv D (TY cI cZ cG cJ) A (WX ad cI cZ c g hid code ans dbt opn ply hps wr))) (va_Qi (fun r (u : Nat → Bool) => r = nI (cN (opS c (g + 1) (va_up code g k) (va_up ans g (5 * nb + nw)) (va_up dbt g false)) 81) ∧ ∀ z, z < 81 → u z = opS c (g + 1) (va_up code g k) (va_up ans g (5 * nb + nw)) (va_up dbt g false) z) (fun u => Wd D A (WX ad cI cZ c (g + 1) hid (va_up code g k) (va_up ans g (5 * nb + nw)) (va_up dbt g false) u ply hps wr)) A) 0 0 A := by
  refine Met.ofW (cc := cX1_tell) (maxL := 4) (ret := (some .int)) (by decide) rfl ?_
  intro p e s m args below meth c9 s₁ B hml hv
  obtain ⟨rfl, hP, hD, hB⟩ := hv
  have hK := hB.1
  have hA := hB.2.1
  have hx := B.exec
  have hb := B.bytes
  have hr := B.returns
  have hts := atoms_spec (ws := wsX1_tell) B.pre
  have hown : s.vm.findClass RX1 = some m.cls := findClass_of_methodNamed B.named
  have hlocks := B.notSynchronized
  have hS : va_S A s.heap s.heap [] := va_S.rf
  have hinX1 : ∀ w ∈ wsX10, w ∈ wsX1_tell := by decide +kernel
  have lk42 := hts (.fieldLink RX1 42 "HiddenCandles" "open" "[Z") (by decide +kernel)
  have hl := lv_entry ([.ref (ad 0), .int (nI (k)), .int (nI (nb)), .int (nI (nw))]) (n := 4) (Nat.le_of_ble_eq_true rfl)
  rw [lg_entry_eq]
  generalize (lg_sl ([.ref (ad 0), .int (nI (k)), .int (nI (nb)), .int (nI (nw))]) ++ List.replicate (4 - (lg_sl ([.ref (ad 0), .int (nI (k)), .int (nI (nb)), .int (nI (nw))])).length) Slot.unset).toArray = ls at hl ⊢
  have hl : lv_has ls 4 [(0, .ref (ad 0)), (1, .int (nI (k))), (2, .int (nI (nb))), (3, .int (nI (nw)))] := hl
  obtain ⟨H, eH⟩ : ∃ q, q = s.heap := ⟨_, rfl⟩
  obtain ⟨locs, eL⟩ : ∃ q : List Loc, q = [] := ⟨_, rfl⟩
  replace hP : va_P D vwCl (WX ad cI cZ c g hid code ans dbt opn ply hps wr) H := by rw [eH]; exact hP
  replace hS : va_S A s.heap H locs := by rw [eH, eL]; exact hS
  rw [show W p l e _ s m _ below meth c9 s.heap [] = W p l e _ s m _ below meth c9 H locs from by rw [eH, eL]]
  clear eH eL
  obtain ⟨hc, hg, hco, hhid, hop⟩ := id hI
  have hq := qq_in hc
  have hop2 := op_lt hop
  refine lv_aload_n hx hb dX1_tell_0 rfl (lv_at hl 0 rfl) ?_
  refine lv_iload_n hx hb dX1_tell_1 rfl (lv_at hl 1 rfl) ?_
  refine va_csv (va_Run.run (va_runV (As := [.int (nI (k))]) (rest := []) ⟨hx, hb, hml, hown, hts⟩ (c_X1_needCodeP l D cI cZ cG cJ A ad wr hpal c g hid code ans dbt opn ply hps k (hc) (hk)) (cwV 1 hts gX1_tell_X1_needCode rfl rfl rfl (by decide +kernel) ⟨Nat.le_of_ble_eq_true rfl, Nat.le_of_ble_eq_true rfl⟩) (preV (ci := 1) (q0 := 0) hB hS hP hD rfl rfl) rfl rfl hl.1 rfl (lv_room (Nat.le_of_ble_eq_true rfl)) dX1_tell_2 ⟨Nat.le_of_ble_eq_true rfl, Nat.le_of_ble_eq_true rfl⟩)) (fun _ => ?_)
  refine lv_iload_n hx hb dX1_tell_5 rfl (lv_at hl 2 rfl) ?_
  refine lv_iload_n hx hb dX1_tell_6 rfl (lv_at hl 3 rfl) ?_
  refine va_csv (va_Run.run (va_runS (As := [.int (nI (nb)), .int (nI (nw))]) (rest := []) ⟨hx, hb, hml, hown, hts⟩ (c_X1_needPinsP l D cI cZ cG cJ A (WX ad cI cZ c g hid code ans dbt opn ply hps wr) nb nw (hn) (h31)) (va_cwS 2 hts gX1_tell_X1_needPins rfl rfl rfl (by decide +kernel) ⟨Nat.le_of_ble_eq_true rfl, Nat.le_of_ble_eq_true rfl⟩) (preS hB hS hP hD) rfl rfl hl.1 rfl (lv_room (Nat.le_of_ble_eq_true rfl)) dX1_tell_7 ⟨Nat.le_of_ble_eq_true rfl, Nat.le_of_ble_eq_true rfl⟩)) (fun _ => ?_)
  refine lv_aload_n hx hb dX1_tell_10 rfl (lv_at hl 0 rfl) ?_
  refine lv_iload_n hx hb dX1_tell_11 rfl (lv_at hl 1 rfl) ?_
  refine lv_iconst (v := nI (5)) hx hb dX1_tell_12 (by decide) ?_
  refine lv_iload_n hx hb dX1_tell_13 rfl (lv_at hl 2 rfl) ?_
  refine lv_imul hx hb dX1_tell_14 ?_
  refine x_ti (pk_mul _ _) ?_
  refine lv_iload_n hx hb dX1_tell_15 rfl (lv_at hl 3 rfl) ?_
  refine lv_iadd hx hb dX1_tell_16 ?_
  refine x_ti (nI_add _ _) ?_
  refine va_callv (va_runV (As := [.int (nI (k)), .int (nI ((5 * nb) + nw))]) (rest := []) ⟨hx, hb, hml, hown, hts⟩ (c_X1_appendP l D cI cZ cG cJ A ad wr hpal c g hid code ans dbt opn ply hps k ((5 * nb) + nw) (hc) (hg2) (hco) (hk) (by omega)) (cwV 2 hts gX1_tell_X1_append rfl rfl rfl (by decide +kernel) ⟨Nat.le_of_ble_eq_true rfl, Nat.le_of_ble_eq_true rfl⟩) (preV (ci := 1) (q0 := 0) hB hS hP hD rfl rfl) rfl rfl hl.1 rfl (lv_room (Nat.le_of_ble_eq_true rfl)) dX1_tell_17 ⟨Nat.le_of_ble_eq_true rfl, Nat.le_of_ble_eq_true rfl⟩) hS (fun q _ h => h) (fun q h => h) (fun u_17 t9 H1 locs1 ht9 hvm9 hw_17 hBw hz9 hk9 hS => ?_)
  obtain ⟨hP, hD⟩ := hBw
  rw [ht9] at hP
  generalize H1 = H at hP hS ⊢
  generalize locs1 = locs at hS ⊢
  replace hP : va_P D vwCl (WX ad cI cZ c (g + 1) hid (va_up code g k) (va_up ans g ((5 * nb) + nw)) (va_up dbt g false) u_17 ply hps wr) H := hP
  replace hD : va_D A (WX ad cI cZ c (g + 1) hid (va_up code g k) (va_up ans g ((5 * nb) + nw)) (va_up dbt g false) u_17 ply hps wr) := hD
  refine lv_aload_n hx hb dX1_tell_20 rfl (lv_at hl 0 rfl) ?_
  refine va_get (D := D) (ci := 1) (v := .ref (ad 4)) (C := RX1) (T := TX1) (N := 11) hx hb hts hinX1 hown hK hP 0 rfl rfl 8 (by decide) lk42 (fun _ h9 => h9) rfl dX1_tell_21 ?_
  refine x_csi (va_runS (As := [.ref (ad 4)]) (rest := []) ⟨hx, hb, hml, hown, hts⟩ (c_X1_size l D cI cZ cG cJ A (WX ad cI cZ c (g + 1) hid (va_up code g k) (va_up ans g ((5 * nb) + nw)) (va_up dbt g false) u_17 ply hps wr) (ad 4) 4 u_17 (rfl)) (va_cwS 1 hts gX1_tell_X1_size rfl rfl rfl (by decide +kernel) ⟨Nat.le_of_ble_eq_true rfl, Nat.le_of_ble_eq_true rfl⟩) (preS hB hS hP hD) rfl rfl hl.1 rfl (lv_room (Nat.le_of_ble_eq_true rfl)) dX1_tell_24 ⟨Nat.le_of_ble_eq_true rfl, Nat.le_of_ble_eq_true rfl⟩) ?_
  exact W.iret (v := nI (cN u_17 81)) hx hb hr (fun t ht hW => ⟨⟨_, u_17, rfl, (by
      exact ⟨by rw [cN_congr 81 hw_17], hw_17⟩), ⟨by rw [ht]; exact hP, hD⟩⟩, hS.F ht⟩) hS.2.2 dX1_tell_27

set_option maxHeartbeats 4000000 in
set_option maxRecDepth 100000 in
theorem c_X1_guessP (l : Launch) (D : va_G) (cI cZ cG cJ : ClassId) (A : Nat → Prop) (ad : Nat → Nat) (wr : va_W) (hpal : Pals cI cG ad wr) (c : Nat) (g : Nat) (hid : Int32) (code : Nat → Nat) (ans : Nat → Nat) (dbt : Nat → Bool) (opn : Nat → Bool) (ply : Nat → Bool) (hps : Nat → Nat) (k : Nat) (h : Nat) (hI : XI c g hid code ans dbt opn) (hk : k < qq c) (hh : h < qq c) (he : hid = nI h) (hg2 : g < 12) : Met l yX1_guess wsX1_guess ({ frames := 5, cells := 0, slots := 0, locals := 110 }) (va_Pc [.ref (ad 0), .int (nI (k))] (Iv D (TY cI cZ cG cJ) A (WX ad cI cZ c g hid code ans dbt opn ply hps wr))) (va_Qi (fun r (u : Nat → Bool) => r = nI (pins c k h) ∧ ∀ z, z < 81 → u z = opS c (g + 1) (va_up code g k) (va_up ans g (pins c k h)) (va_up dbt g false) z) (fun u => Wd D A (WX ad cI cZ c (g + 1) hid (va_up code g k) (va_up ans g (pins c k h)) (va_up dbt g false) u ply hps wr)) A) 0 0 A := by
  refine Met.ofW (cc := cX1_guess) (maxL := 3) (ret := (some .int)) (by decide) rfl ?_
  intro p e s m args below meth c9 s₁ B hml hv
  obtain ⟨rfl, hP, hD, hB⟩ := hv
  have hK := hB.1
  have hA := hB.2.1
  have hx := B.exec
  have hb := B.bytes
  have hr := B.returns
  have hts := atoms_spec (ws := wsX1_guess) B.pre
  have hown : s.vm.findClass RX1 = some m.cls := findClass_of_methodNamed B.named
  have hlocks := B.notSynchronized
  have hS : va_S A s.heap s.heap [] := va_S.rf
  have hinX1 : ∀ w ∈ wsX10, w ∈ wsX1_guess := by decide +kernel
  have lk21 := hts (.fieldLink RX1 21 "HiddenCandles" "palette" "LHiddenCandles$Palette;") (by decide +kernel)
  have lk24 := hts (.fieldLink RX1 24 "HiddenCandles" "hidden" "I") (by decide +kernel)
  have hl := lv_entry ([.ref (ad 0), .int (nI (k))]) (n := 3) (Nat.le_of_ble_eq_true rfl)
  rw [lg_entry_eq]
  generalize (lg_sl ([.ref (ad 0), .int (nI (k))]) ++ List.replicate (3 - (lg_sl ([.ref (ad 0), .int (nI (k))])).length) Slot.unset).toArray = ls at hl ⊢
  have hl : lv_has ls 3 [(0, .ref (ad 0)), (1, .int (nI (k)))] := hl
  obtain ⟨H, eH⟩ : ∃ q, q = s.heap := ⟨_, rfl⟩
  obtain ⟨locs, eL⟩ : ∃ q : List Loc, q = [] := ⟨_, rfl⟩
  replace hP : va_P D vwCl (WX ad cI cZ c g hid code ans dbt opn ply hps wr) H := by rw [eH]; exact hP
  replace hS : va_S A s.heap H locs := by rw [eH, eL]; exact hS
  rw [show W p l e _ s m _ below meth c9 s.heap [] = W p l e _ s m _ below meth c9 H locs from by rw [eH, eL]]
  clear eH eL
  obtain ⟨hc, hg, hco, hhid, hop⟩ := id hI
  have hq := qq_in hc
  have hop2 := op_lt hop
  refine lv_aload_n hx hb dX1_guess_0 rfl (lv_at hl 0 rfl) ?_
  refine lv_iload_n hx hb dX1_guess_1 rfl (lv_at hl 1 rfl) ?_
  refine va_csv (va_Run.run (va_runV (As := [.int (nI (k))]) (rest := []) ⟨hx, hb, hml, hown, hts⟩ (c_X1_needCodeP l D cI cZ cG cJ A ad wr hpal c g hid code ans dbt opn ply hps k (hc) (hk)) (cwV 1 hts gX1_guess_X1_needCode rfl rfl rfl (by decide +kernel) ⟨Nat.le_of_ble_eq_true rfl, Nat.le_of_ble_eq_true rfl⟩) (preV (ci := 1) (q0 := 0) hB hS hP hD rfl rfl) rfl rfl hl.1 rfl (lv_room (Nat.le_of_ble_eq_true rfl)) dX1_guess_2 ⟨Nat.le_of_ble_eq_true rfl, Nat.le_of_ble_eq_true rfl⟩)) (fun _ => ?_)
  refine lv_aload_n hx hb dX1_guess_5 rfl (lv_at hl 0 rfl) ?_
  refine va_csv (va_Run.run (va_runV (As := []) (rest := []) ⟨hx, hb, hml, hown, hts⟩ (c_X1_needHiddenP l D cI cZ cG cJ A ad wr hpal c g hid code ans dbt opn ply hps h (by omega) (he)) (cwV 0 hts gX1_guess_X1_needHidden rfl rfl rfl (by decide +kernel) ⟨Nat.le_of_ble_eq_true rfl, Nat.le_of_ble_eq_true rfl⟩) (preV (ci := 1) (q0 := 0) hB hS hP hD rfl rfl) rfl rfl hl.1 rfl (lv_room (Nat.le_of_ble_eq_true rfl)) dX1_guess_6 ⟨Nat.le_of_ble_eq_true rfl, Nat.le_of_ble_eq_true rfl⟩)) (fun _ => ?_)
  subst he
  refine lv_aload_n hx hb dX1_guess_9 rfl (lv_at hl 0 rfl) ?_
  refine va_get (D := D) (ci := 1) (v := .ref (pal ad c)) (C := RX1) (T := TX1) (N := 11) hx hb hts hinX1 hown hK hP 0 rfl rfl 2 (by decide) lk21 (fun _ h9 => h9) rfl dX1_guess_10 ?_
  refine lv_iload_n hx hb dX1_guess_13 rfl (lv_at hl 1 rfl) ?_
  refine lv_aload_n hx hb dX1_guess_14 rfl (lv_at hl 0 rfl) ?_
  refine va_get (D := D) (ci := 1) (v := .int ((nI h))) (C := RX1) (T := TX1) (N := 11) hx hb hts hinX1 hown hK hP 0 rfl rfl 3 (by decide) lk24 (fun _ h9 => h9) rfl dX1_guess_15 ?_
  refine x_csi (va_runVN (As := [.int (nI (k)), .int (nI (h))]) (rest := []) ⟨hx, hb, hml, hown, hts⟩ (c_X0_answerTo l D cI cZ cG cJ A (WX ad cI cZ c g (nI h) code ans dbt opn ply hps wr) (pal ad c) c k h (palX hpal hc) (hc) (hk) (hh)) ⟨va_cnB (host := RX1) 2 hts gX1_guess_X0_answerTo_n77 rfl rfl rfl (hB.2.2.2.2.1 _ (by simp [Nws])) (hts _ (by decide +kernel)) (by decide +kernel) ⟨Nat.le_of_ble_eq_true rfl, Nat.le_of_ble_eq_true rfl⟩, hts _ (by decide +kernel), hts _ (by decide +kernel)⟩ (prePal hB hS hP hD (palX hpal hc)) rfl rfl hl.1 rfl (lv_room (Nat.le_of_ble_eq_true rfl)) dX1_guess_18 ⟨Nat.le_of_ble_eq_true rfl, Nat.le_of_ble_eq_true rfl⟩) ?_
  have hpi := pins_le hc (hk) (hh)
  refine lv_istore_n (lv' := [(2, .int (nI (pins c k h))), (0, .ref (ad 0)), (1, .int (nI (k)))]) hx hb dX1_guess_21 rfl hl (by decide) rfl (fun ls hl => ?_)
  refine lv_aload_n hx hb dX1_guess_22 rfl (lv_at hl 1 rfl) ?_
  refine lv_iload_n hx hb dX1_guess_23 rfl (lv_at hl 2 rfl) ?_
  refine lv_iload_n hx hb dX1_guess_24 rfl (lv_at hl 0 rfl) ?_
  refine va_callv (va_runV (As := [.int (nI (k)), .int (nI (pins c k h))]) (rest := []) ⟨hx, hb, hml, hown, hts⟩ (c_X1_appendP l D cI cZ cG cJ A ad wr hpal c g (nI h) code ans dbt opn ply hps k (pins c k h) (hc) (hg2) (hco) (hk) (by omega)) (cwV 2 hts gX1_guess_X1_append rfl rfl rfl (by decide +kernel) ⟨Nat.le_of_ble_eq_true rfl, Nat.le_of_ble_eq_true rfl⟩) (preV (ci := 1) (q0 := 0) hB hS hP hD rfl rfl) rfl rfl hl.1 rfl (lv_room (Nat.le_of_ble_eq_true rfl)) dX1_guess_25 ⟨Nat.le_of_ble_eq_true rfl, Nat.le_of_ble_eq_true rfl⟩) hS (fun q _ h => h) (fun q h => h) (fun u_25 t9 H1 locs1 ht9 hvm9 hw_25 hBw hz9 hk9 hS => ?_)
  obtain ⟨hP, hD⟩ := hBw
  rw [ht9] at hP
  generalize H1 = H at hP hS ⊢
  generalize locs1 = locs at hS ⊢
  replace hP : va_P D vwCl (WX ad cI cZ c (g + 1) (nI h) (va_up code g k) (va_up ans g (pins c k h)) (va_up dbt g false) u_25 ply hps wr) H := hP
  replace hD : va_D A (WX ad cI cZ c (g + 1) (nI h) (va_up code g k) (va_up ans g (pins c k h)) (va_up dbt g false) u_25 ply hps wr) := hD
  refine lv_iload_n hx hb dX1_guess_28 rfl (lv_at hl 0 rfl) ?_
  exact W.iret (v := nI (pins c k h)) hx hb hr (fun t ht hW => ⟨⟨_, u_25, rfl, (by
      exact ⟨rfl, hw_25⟩), ⟨by rw [ht]; exact hP, hD⟩⟩, hS.F ht⟩) hS.2.2 dX1_guess_29

set_option maxHeartbeats 4000000 in
set_option maxRecDepth 100000 in
theorem c_X1_swapP (l : Launch) (D : va_G) (cI cZ cG cJ : ClassId) (A : Nat → Prop) (ad : Nat → Nat) (wr : va_W) (hpal : Pals cI cG ad wr) (c : Nat) (g : Nat) (hid : Int32) (code : Nat → Nat) (ans : Nat → Nat) (dbt : Nat → Bool) (opn : Nat → Bool) (ply : Nat → Bool) (hps : Nat → Nat) (pa : Nat) (pb : Nat) (h : Nat) (hI : XI c g hid code ans dbt opn) (hpa : pa < 4) (hpb : pb < 4) (hh : h < qq c) (he : hid = nI h) : Met l yX1_swap wsX1_swap ({ frames := 2, cells := 0, slots := 0, locals := 43 }) (va_Pc [.ref (ad 0), .int (nI (pa)), .int (nI (pb))] (Iv D (TY cI cZ cG cJ) A (WX ad cI cZ c g hid code ans dbt opn ply hps wr))) (va_Qi (fun r (u : Int32) => r = nI (swF c h pa pb 4) ∧ u = nI (swF c h pa pb 4)) (fun u => Wd D A (WX ad cI cZ c g u code ans dbt opn ply hps wr)) A) 0 0 A := by
  refine Met.ofW (cc := cX1_swap) (maxL := 6) (ret := (some .int)) (by decide) rfl ?_
  intro p e s m args below meth c9 s₁ B hml hv
  obtain ⟨rfl, hP, hD, hB⟩ := hv
  have hK := hB.1
  have hA := hB.2.1
  have hx := B.exec
  have hb := B.bytes
  have hr := B.returns
  have hts := atoms_spec (ws := wsX1_swap) B.pre
  have hown : s.vm.findClass RX1 = some m.cls := findClass_of_methodNamed B.named
  have hlocks := B.notSynchronized
  have hS : va_S A s.heap s.heap [] := va_S.rf
  have hinX0 : ∀ w ∈ wsX00, w ∈ wsX1_swap := by decide +kernel
  have hinX1 : ∀ w ∈ wsX10, w ∈ wsX1_swap := by decide +kernel
  have lk21 := hts (.fieldLink RX1 21 "HiddenCandles" "palette" "LHiddenCandles$Palette;") (by decide +kernel)
  have lk24 := hts (.fieldLink RX1 24 "HiddenCandles" "hidden" "I") (by decide +kernel)
  have hl := lv_entry ([.ref (ad 0), .int (nI (pa)), .int (nI (pb))]) (n := 6) (Nat.le_of_ble_eq_true rfl)
  rw [lg_entry_eq]
  generalize (lg_sl ([.ref (ad 0), .int (nI (pa)), .int (nI (pb))]) ++ List.replicate (6 - (lg_sl ([.ref (ad 0), .int (nI (pa)), .int (nI (pb))])).length) Slot.unset).toArray = ls at hl ⊢
  have hl : lv_has ls 6 [(0, .ref (ad 0)), (1, .int (nI (pa))), (2, .int (nI (pb)))] := hl
  obtain ⟨H, eH⟩ : ∃ q, q = s.heap := ⟨_, rfl⟩
  obtain ⟨locs, eL⟩ : ∃ q : List Loc, q = [] := ⟨_, rfl⟩
  replace hP : va_P D vwCl (WX ad cI cZ c g hid code ans dbt opn ply hps wr) H := by rw [eH]; exact hP
  replace hS : va_S A s.heap H locs := by rw [eH, eL]; exact hS
  rw [show W p l e _ s m _ below meth c9 s.heap [] = W p l e _ s m _ below meth c9 H locs from by rw [eH, eL]]
  clear eH eL
  obtain ⟨hc, hg, hco, hhid, hop⟩ := id hI
  have hq := qq_in hc
  have hop2 := op_lt hop
  refine lv_iload_n hx hb dX1_swap_0 rfl (lv_at hl 1 rfl) ?_
  refine va_csv (va_Run.run (va_runS (As := [.int (nI (pa))]) (rest := []) ⟨hx, hb, hml, hown, hts⟩ (c_X1_needPlaceP l D cI cZ cG cJ A (WX ad cI cZ c g hid code ans dbt opn ply hps wr) pa (hpa)) (va_cwS 1 hts gX1_swap_X1_needPlace rfl rfl rfl (by decide +kernel) ⟨Nat.le_of_ble_eq_true rfl, Nat.le_of_ble_eq_true rfl⟩) (preS hB hS hP hD) rfl rfl hl.1 rfl (lv_room (Nat.le_of_ble_eq_true rfl)) dX1_swap_1 ⟨Nat.le_of_ble_eq_true rfl, Nat.le_of_ble_eq_true rfl⟩)) (fun _ => ?_)
  refine lv_iload_n hx hb dX1_swap_4 rfl (lv_at hl 2 rfl) ?_
  refine va_csv (va_Run.run (va_runS (As := [.int (nI (pb))]) (rest := []) ⟨hx, hb, hml, hown, hts⟩ (c_X1_needPlaceP l D cI cZ cG cJ A (WX ad cI cZ c g hid code ans dbt opn ply hps wr) pb (hpb)) (va_cwS 1 hts gX1_swap_X1_needPlace rfl rfl rfl (by decide +kernel) ⟨Nat.le_of_ble_eq_true rfl, Nat.le_of_ble_eq_true rfl⟩) (preS hB hS hP hD) rfl rfl hl.1 rfl (lv_room (Nat.le_of_ble_eq_true rfl)) dX1_swap_5 ⟨Nat.le_of_ble_eq_true rfl, Nat.le_of_ble_eq_true rfl⟩)) (fun _ => ?_)
  refine lv_aload_n hx hb dX1_swap_8 rfl (lv_at hl 0 rfl) ?_
  refine va_csv (va_Run.run (va_runV (As := []) (rest := []) ⟨hx, hb, hml, hown, hts⟩ (c_X1_needHiddenP l D cI cZ cG cJ A ad wr hpal c g hid code ans dbt opn ply hps h (by omega) (he)) (cwV 0 hts gX1_swap_X1_needHidden rfl rfl rfl (by decide +kernel) ⟨Nat.le_of_ble_eq_true rfl, Nat.le_of_ble_eq_true rfl⟩) (preV (ci := 1) (q0 := 0) hB hS hP hD rfl rfl) rfl rfl hl.1 rfl (lv_room (Nat.le_of_ble_eq_true rfl)) dX1_swap_9 ⟨Nat.le_of_ble_eq_true rfl, Nat.le_of_ble_eq_true rfl⟩)) (fun _ => ?_)
  subst he
  refine lv_iconst (v := nI (0)) hx hb dX1_swap_12 (by decide) ?_
  refine lv_istore_n (lv' := [(3, .int (nI (0))), (0, .ref (ad 0)), (1, .int (nI (pa))), (2, .int (nI (pb)))]) hx hb dX1_swap_13 rfl hl (by decide) rfl (fun ls hl => ?_)
  refine lv_iconst (v := nI (0)) hx hb dX1_swap_14 (by decide) ?_
  refine lv_istore (lv' := [(4, .int (nI (0))), (3, .int (nI (0))), (0, .ref (ad 0)), (1, .int (nI (pa))), (2, .int (nI (pb)))]) hx hb dX1_swap_15 hl (by decide) rfl (fun ls hl => ?_)
  -- loop at 17
  have hinv : 0 ≤ 4 ∧ 0 = swF c h pa pb 0 := by
    exact ⟨Nat.zero_le _, rfl⟩
  obtain ⟨i, r, hq9⟩ : ∃ (i : Nat) (r : Nat), lv_has ls 6 [(0, .ref (ad 0)), (1, .int (nI (pa))), (2, .int (nI (pb))), (3, .int (nI (r))), (4, .int (nI (i)))] ∧ (i ≤ 4 ∧ r = swF c h pa pb i) ∧ va_P D vwCl (WX ad cI cZ c g (nI h) code ans dbt opn ply hps wr) H ∧ va_D A (WX ad cI cZ c g (nI h) code ans dbt opn ply hps wr) := ⟨0, 0, lv_sub hl [2, 3, 4, 1, 0] rfl, hinv, hP, hD⟩
  clear hl hinv hP hD
  obtain ⟨hl, hinv, hP, hD⟩ := hq9
  obtain ⟨n9_17, hn9⟩ : ∃ q : Nat, 4 - i < q := ⟨_, Nat.lt_succ_self _⟩
  induction n9_17 generalizing ls H locs i r with
  | zero => exact absurd hn9 (Nat.not_lt_zero _)
  | succ n9_17 ih17 =>
    obtain ⟨h1, h2⟩ := hinv
    refine lv_iload hx hb dX1_swap_17 (lv_at hl 4 rfl) ?_
    refine lv_iconst (v := nI (4)) hx hb dX1_swap_19 (by decide) ?_
    refine x_ge (tgt := 77) hx hb dX1_swap_20 (by decide) (by omega) (by omega) (fun c20 => ?_) (fun c20 => ?_)
    · skip
      refine lv_aload_n hx hb dX1_swap_77 rfl (lv_at hl 0 rfl) ?_
      refine lv_iload_n hx hb dX1_swap_78 rfl (lv_at hl 3 rfl) ?_
      refine va_put (D := D) (ci := 1) (v := .int (nI (r))) (ty := .int) (C := RX1) (T := TX1) (N := 11) hx hb hts hinX1 tyX1 tyX1_ok nmX1 hown hK hP hD hS 0 rfl rfl 3 (by decide) lk24 (fun _ h9 => h9) rfl (by decide +kernel) rfl rfl (Nat.le_of_ble_eq_true rfl) dX1_swap_79 (fun H locs hP hD hS => ?_)
      replace hP : va_P D vwCl (WX ad cI cZ c g (nI (r)) code ans dbt opn ply hps wr) H := hP
      replace hD : va_D A (WX ad cI cZ c g (nI (r)) code ans dbt opn ply hps wr) := hD
      refine lv_aload_n hx hb dX1_swap_82 rfl (lv_at hl 0 rfl) ?_
      refine va_get (D := D) (ci := 1) (v := .int ((nI (r)))) (C := RX1) (T := TX1) (N := 11) hx hb hts hinX1 hown hK hP 0 rfl rfl 3 (by decide) lk24 (fun _ h9 => h9) rfl dX1_swap_83 ?_
      exact W.iret (v := (nI (r))) hx hb hr (fun t ht hW => ⟨⟨_, (nI r), rfl, (by
          have e9 : i = 4 := by omega
          subst e9
          exact ⟨by rw [h2], by rw [h2]⟩), ⟨by rw [ht]; exact hP, hD⟩⟩, hS.F ht⟩) hS.2.2 dX1_swap_86
    · skip
      refine lv_iload hx hb dX1_swap_23 (lv_at hl 4 rfl) ?_
      refine lv_iload_n hx hb dX1_swap_25 rfl (lv_at hl 1 rfl) ?_
      refine x_ne (tgt := 33) hx hb dX1_swap_26 (by decide) (by omega) (by omega) (fun c26 => ?_) (fun c26 => ?_)
      · skip
        refine lv_iload hx hb dX1_swap_33 (lv_at hl 4 rfl) ?_
        refine lv_iload_n hx hb dX1_swap_35 rfl (lv_at hl 2 rfl) ?_
        refine x_ne (tgt := 43) hx hb dX1_swap_36 (by decide) (by omega) (by omega) (fun c36 => ?_) (fun c36 => ?_)
        · skip
          refine lv_iload hx hb dX1_swap_43 (lv_at hl 4 rfl) ?_
          refine lv_istore (lv' := [(5, .int (nI (i))), (0, .ref (ad 0)), (1, .int (nI (pa))), (2, .int (nI (pb))), (3, .int (nI (r))), (4, .int (nI (i)))]) hx hb dX1_swap_45 hl (by decide) rfl (fun ls hl => ?_)
          refine lv_iload_n hx hb dX1_swap_47 rfl (lv_at hl 4 rfl) ?_
          refine lv_aload_n hx hb dX1_swap_48 rfl (lv_at hl 1 rfl) ?_
          refine va_get (D := D) (ci := 1) (v := .ref (pal ad c)) (C := RX1) (T := TX1) (N := 11) hx hb hts hinX1 hown hK hP 0 rfl rfl 2 (by decide) lk21 (fun _ h9 => h9) rfl dX1_swap_49 ?_
          refine x_colours hx hb hts hinX0 hown hK hP (palX hpal hc) (hB.2.2.2.2.1 _ (by simp [Nws])) dX1_swap_52 ?_
          refine lv_imul hx hb dX1_swap_55 ?_
          refine x_ti (pk_mul _ _) ?_
          refine lv_aload_n hx hb dX1_swap_56 rfl (lv_at hl 1 rfl) ?_
          refine va_get (D := D) (ci := 1) (v := .ref (pal ad c)) (C := RX1) (T := TX1) (N := 11) hx hb hts hinX1 hown hK hP 0 rfl rfl 2 (by decide) lk21 (fun _ h9 => h9) rfl dX1_swap_57 ?_
          refine lv_aload_n hx hb dX1_swap_60 rfl (lv_at hl 1 rfl) ?_
          refine va_get (D := D) (ci := 1) (v := .int ((nI h))) (C := RX1) (T := TX1) (N := 11) hx hb hts hinX1 hown hK hP 0 rfl rfl 3 (by decide) lk24 (fun _ h9 => h9) rfl dX1_swap_61 ?_
          refine lv_iload hx hb dX1_swap_64 (lv_at hl 0 rfl) ?_
          refine x_csi (va_runVN (As := [.int ((nI h)), .int (nI (i))]) (rest := [.int (nI (r * c))]) ⟨hx, hb, hml, hown, hts⟩ (c_X0_colourOf l D cI cZ cG cJ A (WX ad cI cZ c g (nI h) code ans dbt opn ply hps wr) (pal ad c) c h i (palX hpal hc) (hc) (hh) (by omega)) ⟨va_cnB (host := RX1) 2 hts gX1_swap_X0_colourOf_n73 rfl rfl rfl (hB.2.2.2.2.1 _ (by simp [Nws])) (hts _ (by decide +kernel)) (by decide +kernel) ⟨Nat.le_of_ble_eq_true rfl, Nat.le_of_ble_eq_true rfl⟩, hts _ (by decide +kernel), hts _ (by decide +kernel)⟩ (prePal hB hS hP hD (palX hpal hc)) rfl rfl hl.1 rfl (lv_room (Nat.le_of_ble_eq_true rfl)) dX1_swap_66 ⟨Nat.le_of_ble_eq_true rfl, Nat.le_of_ble_eq_true rfl⟩) ?_
          refine lv_iadd hx hb dX1_swap_69 ?_
          refine x_ti (nI_add _ _) ?_
          refine lv_istore_n (lv' := [(3, .int (nI ((r * c) + (col c h i)))), (5, .int (nI (i))), (0, .ref (ad 0)), (1, .int (nI (pa))), (2, .int (nI (pb))), (4, .int (nI (i)))]) hx hb dX1_swap_70 rfl hl (by decide) rfl (fun ls hl => ?_)
          refine lv_iinc (v := nI (i + 1)) (lv' := [(4, .int (nI (i + 1))), (3, .int (nI ((r * c) + (col c h i)))), (5, .int (nI (i))), (0, .ref (ad 0)), (1, .int (nI (pa))), (2, .int (nI (pb)))]) hx hb dX1_swap_71 hl (k := 5) rfl (nI_add _ _) (by decide) rfl (fun ls hl => ?_)
          refine lv_goto (tgt := 17) hx hb dX1_swap_74 (by decide) ?_
          exact ih17 (i := i + 1) (r := (r * c) + (col c h i)) (ls := ls) (hl := lv_sub hl [3, 4, 5, 1, 0] rfl) (H := H) (locs := locs) (hP := hP) (hS := hS) (hinv := by
              refine ⟨by omega, ?_⟩
              simp only [swF]; rw [← h2]
              first | rw [if_pos c26] | rw [if_neg c26, if_pos c36] | rw [if_neg c26, if_neg c36]
            ) (hn9 := by
              omega
            )
        · skip
          refine lv_iload_n hx hb dX1_swap_39 rfl (lv_at hl 1 rfl) ?_
          refine lv_goto (tgt := 45) hx hb dX1_swap_40 (by decide) ?_
          refine lv_istore (lv' := [(5, .int (nI (pa))), (0, .ref (ad 0)), (1, .int (nI (pa))), (2, .int (nI (pb))), (3, .int (nI (r))), (4, .int (nI (i)))]) hx hb dX1_swap_45 hl (by decide) rfl (fun ls hl => ?_)
          refine lv_iload_n hx hb dX1_swap_47 rfl (lv_at hl 4 rfl) ?_
          refine lv_aload_n hx hb dX1_swap_48 rfl (lv_at hl 1 rfl) ?_
          refine va_get (D := D) (ci := 1) (v := .ref (pal ad c)) (C := RX1) (T := TX1) (N := 11) hx hb hts hinX1 hown hK hP 0 rfl rfl 2 (by decide) lk21 (fun _ h9 => h9) rfl dX1_swap_49 ?_
          refine x_colours hx hb hts hinX0 hown hK hP (palX hpal hc) (hB.2.2.2.2.1 _ (by simp [Nws])) dX1_swap_52 ?_
          refine lv_imul hx hb dX1_swap_55 ?_
          refine x_ti (pk_mul _ _) ?_
          refine lv_aload_n hx hb dX1_swap_56 rfl (lv_at hl 1 rfl) ?_
          refine va_get (D := D) (ci := 1) (v := .ref (pal ad c)) (C := RX1) (T := TX1) (N := 11) hx hb hts hinX1 hown hK hP 0 rfl rfl 2 (by decide) lk21 (fun _ h9 => h9) rfl dX1_swap_57 ?_
          refine lv_aload_n hx hb dX1_swap_60 rfl (lv_at hl 1 rfl) ?_
          refine va_get (D := D) (ci := 1) (v := .int ((nI h))) (C := RX1) (T := TX1) (N := 11) hx hb hts hinX1 hown hK hP 0 rfl rfl 3 (by decide) lk24 (fun _ h9 => h9) rfl dX1_swap_61 ?_
          refine lv_iload hx hb dX1_swap_64 (lv_at hl 0 rfl) ?_
          refine x_csi (va_runVN (As := [.int ((nI h)), .int (nI (pa))]) (rest := [.int (nI (r * c))]) ⟨hx, hb, hml, hown, hts⟩ (c_X0_colourOf l D cI cZ cG cJ A (WX ad cI cZ c g (nI h) code ans dbt opn ply hps wr) (pal ad c) c h pa (palX hpal hc) (hc) (hh) (by omega)) ⟨va_cnB (host := RX1) 2 hts gX1_swap_X0_colourOf_n73 rfl rfl rfl (hB.2.2.2.2.1 _ (by simp [Nws])) (hts _ (by decide +kernel)) (by decide +kernel) ⟨Nat.le_of_ble_eq_true rfl, Nat.le_of_ble_eq_true rfl⟩, hts _ (by decide +kernel), hts _ (by decide +kernel)⟩ (prePal hB hS hP hD (palX hpal hc)) rfl rfl hl.1 rfl (lv_room (Nat.le_of_ble_eq_true rfl)) dX1_swap_66 ⟨Nat.le_of_ble_eq_true rfl, Nat.le_of_ble_eq_true rfl⟩) ?_
          refine lv_iadd hx hb dX1_swap_69 ?_
          refine x_ti (nI_add _ _) ?_
          refine lv_istore_n (lv' := [(3, .int (nI ((r * c) + (col c h pa)))), (5, .int (nI (pa))), (0, .ref (ad 0)), (1, .int (nI (pa))), (2, .int (nI (pb))), (4, .int (nI (i)))]) hx hb dX1_swap_70 rfl hl (by decide) rfl (fun ls hl => ?_)
          refine lv_iinc (v := nI (i + 1)) (lv' := [(4, .int (nI (i + 1))), (3, .int (nI ((r * c) + (col c h pa)))), (5, .int (nI (pa))), (0, .ref (ad 0)), (1, .int (nI (pa))), (2, .int (nI (pb)))]) hx hb dX1_swap_71 hl (k := 5) rfl (nI_add _ _) (by decide) rfl (fun ls hl => ?_)
          refine lv_goto (tgt := 17) hx hb dX1_swap_74 (by decide) ?_
          exact ih17 (i := i + 1) (r := (r * c) + (col c h pa)) (ls := ls) (hl := lv_sub hl [3, 4, 5, 1, 0] rfl) (H := H) (locs := locs) (hP := hP) (hS := hS) (hinv := by
              refine ⟨by omega, ?_⟩
              simp only [swF]; rw [← h2]
              first | rw [if_pos c26] | rw [if_neg c26, if_pos c36] | rw [if_neg c26, if_neg c36]
            ) (hn9 := by
              omega
            )
      · skip
        refine lv_iload_n hx hb dX1_swap_29 rfl (lv_at hl 2 rfl) ?_
        refine lv_goto (tgt := 45) hx hb dX1_swap_30 (by decide) ?_
        refine lv_istore (lv' := [(5, .int (nI (pb))), (0, .ref (ad 0)), (1, .int (nI (pa))), (2, .int (nI (pb))), (3, .int (nI (r))), (4, .int (nI (i)))]) hx hb dX1_swap_45 hl (by decide) rfl (fun ls hl => ?_)
        refine lv_iload_n hx hb dX1_swap_47 rfl (lv_at hl 4 rfl) ?_
        refine lv_aload_n hx hb dX1_swap_48 rfl (lv_at hl 1 rfl) ?_
        refine va_get (D := D) (ci := 1) (v := .ref (pal ad c)) (C := RX1) (T := TX1) (N := 11) hx hb hts hinX1 hown hK hP 0 rfl rfl 2 (by decide) lk21 (fun _ h9 => h9) rfl dX1_swap_49 ?_
        refine x_colours hx hb hts hinX0 hown hK hP (palX hpal hc) (hB.2.2.2.2.1 _ (by simp [Nws])) dX1_swap_52 ?_
        refine lv_imul hx hb dX1_swap_55 ?_
        refine x_ti (pk_mul _ _) ?_
        refine lv_aload_n hx hb dX1_swap_56 rfl (lv_at hl 1 rfl) ?_
        refine va_get (D := D) (ci := 1) (v := .ref (pal ad c)) (C := RX1) (T := TX1) (N := 11) hx hb hts hinX1 hown hK hP 0 rfl rfl 2 (by decide) lk21 (fun _ h9 => h9) rfl dX1_swap_57 ?_
        refine lv_aload_n hx hb dX1_swap_60 rfl (lv_at hl 1 rfl) ?_
        refine va_get (D := D) (ci := 1) (v := .int ((nI h))) (C := RX1) (T := TX1) (N := 11) hx hb hts hinX1 hown hK hP 0 rfl rfl 3 (by decide) lk24 (fun _ h9 => h9) rfl dX1_swap_61 ?_
        refine lv_iload hx hb dX1_swap_64 (lv_at hl 0 rfl) ?_
        refine x_csi (va_runVN (As := [.int ((nI h)), .int (nI (pb))]) (rest := [.int (nI (r * c))]) ⟨hx, hb, hml, hown, hts⟩ (c_X0_colourOf l D cI cZ cG cJ A (WX ad cI cZ c g (nI h) code ans dbt opn ply hps wr) (pal ad c) c h pb (palX hpal hc) (hc) (hh) (by omega)) ⟨va_cnB (host := RX1) 2 hts gX1_swap_X0_colourOf_n73 rfl rfl rfl (hB.2.2.2.2.1 _ (by simp [Nws])) (hts _ (by decide +kernel)) (by decide +kernel) ⟨Nat.le_of_ble_eq_true rfl, Nat.le_of_ble_eq_true rfl⟩, hts _ (by decide +kernel), hts _ (by decide +kernel)⟩ (prePal hB hS hP hD (palX hpal hc)) rfl rfl hl.1 rfl (lv_room (Nat.le_of_ble_eq_true rfl)) dX1_swap_66 ⟨Nat.le_of_ble_eq_true rfl, Nat.le_of_ble_eq_true rfl⟩) ?_
        refine lv_iadd hx hb dX1_swap_69 ?_
        refine x_ti (nI_add _ _) ?_
        refine lv_istore_n (lv' := [(3, .int (nI ((r * c) + (col c h pb)))), (5, .int (nI (pb))), (0, .ref (ad 0)), (1, .int (nI (pa))), (2, .int (nI (pb))), (4, .int (nI (i)))]) hx hb dX1_swap_70 rfl hl (by decide) rfl (fun ls hl => ?_)
        refine lv_iinc (v := nI (i + 1)) (lv' := [(4, .int (nI (i + 1))), (3, .int (nI ((r * c) + (col c h pb)))), (5, .int (nI (pb))), (0, .ref (ad 0)), (1, .int (nI (pa))), (2, .int (nI (pb)))]) hx hb dX1_swap_71 hl (k := 5) rfl (nI_add _ _) (by decide) rfl (fun ls hl => ?_)
        refine lv_goto (tgt := 17) hx hb dX1_swap_74 (by decide) ?_
        exact ih17 (i := i + 1) (r := (r * c) + (col c h pb)) (ls := ls) (hl := lv_sub hl [3, 4, 5, 1, 0] rfl) (H := H) (locs := locs) (hP := hP) (hS := hS) (hinv := by
            refine ⟨by omega, ?_⟩
            simp only [swF]; rw [← h2]
            first | rw [if_pos c26] | rw [if_neg c26, if_pos c36] | rw [if_neg c26, if_neg c36]
          ) (hn9 := by
            omega
          )

set_option maxHeartbeats 4000000 in
set_option maxRecDepth 100000 in
theorem c_X1_doubtP (l : Launch) (D : va_G) (cI cZ cG cJ : ClassId) (A : Nat → Prop) (ad : Nat → Nat) (wr : va_W) (hpal : Pals cI cG ad wr) (c : Nat) (g : Nat) (hid : Int32) (code : Nat → Nat) (ans : Nat → Nat) (dbt : Nat → Bool) (opn : Nat → Bool) (ply : Nat → Bool) (hps : Nat → Nat) (i : Nat) (is : Bool) (hI : XI c g hid code ans dbt opn) (hi : i < g) : Met l yX1_doubt wsX1_doubt ({ frames := 4, cells := 0, slots := 0, locals := 87 }) (va_Pc [.ref (ad 0), .int (nI (i)), .int (bI (is))] (Iv D (TY cI cZ cG cJ) A (WX ad cI cZ c g hid code ans dbt opn ply hps wr))) (va_Qi (fun r (u : Nat → Bool) => r = bI (dbt i) ∧ ∀ k, k < 81 → u k = opS c g code ans (va_up dbt i is) k) (fun u => Wd D A (WX ad cI cZ c g hid code ans (va_up dbt i is) u ply hps wr)) A) 0 0 A := by
  refine Met.ofW (cc := cX1_doubt) (maxL := 4) (ret := (some .boolean)) (by decide) rfl ?_
  intro p e s m args below meth c9 s₁ B hml hv
  obtain ⟨rfl, hP, hD, hB⟩ := hv
  have hK := hB.1
  have hA := hB.2.1
  have hx := B.exec
  have hb := B.bytes
  have hr := B.returns
  have hts := atoms_spec (ws := wsX1_doubt) B.pre
  have hown : s.vm.findClass RX1 = some m.cls := findClass_of_methodNamed B.named
  have hlocks := B.notSynchronized
  have hS : va_S A s.heap s.heap [] := va_S.rf
  have hinX1 : ∀ w ∈ wsX10, w ∈ wsX1_doubt := by decide +kernel
  have lk38 := hts (.fieldLink RX1 38 "HiddenCandles" "doubted" "[Z") (by decide +kernel)
  have hl := lv_entry ([.ref (ad 0), .int (nI (i)), .int (bI (is))]) (n := 4) (Nat.le_of_ble_eq_true rfl)
  rw [lg_entry_eq]
  generalize (lg_sl ([.ref (ad 0), .int (nI (i)), .int (bI (is))]) ++ List.replicate (4 - (lg_sl ([.ref (ad 0), .int (nI (i)), .int (bI (is))])).length) Slot.unset).toArray = ls at hl ⊢
  have hl : lv_has ls 4 [(0, .ref (ad 0)), (1, .int (nI (i))), (2, .int (bI (is)))] := hl
  obtain ⟨H, eH⟩ : ∃ q, q = s.heap := ⟨_, rfl⟩
  obtain ⟨locs, eL⟩ : ∃ q : List Loc, q = [] := ⟨_, rfl⟩
  replace hP : va_P D vwCl (WX ad cI cZ c g hid code ans dbt opn ply hps wr) H := by rw [eH]; exact hP
  replace hS : va_S A s.heap H locs := by rw [eH, eL]; exact hS
  rw [show W p l e _ s m _ below meth c9 s.heap [] = W p l e _ s m _ below meth c9 H locs from by rw [eH, eL]]
  clear eH eL
  obtain ⟨hc, hg, hco, hhid, hop⟩ := id hI
  have hq := qq_in hc
  have hop2 := op_lt hop
  refine lv_aload_n hx hb dX1_doubt_0 rfl (lv_at hl 0 rfl) ?_
  refine lv_iload_n hx hb dX1_doubt_1 rfl (lv_at hl 1 rfl) ?_
  refine x_csi (va_runV (As := [.int (nI (i))]) (rest := []) ⟨hx, hb, hml, hown, hts⟩ (c_X1_hasGuess l D cI cZ cG cJ A ad wr hpal c g hid code ans dbt opn ply hps (nI i) (hg)) (cwV 1 hts gX1_doubt_X1_hasGuess rfl rfl rfl (by decide +kernel) ⟨Nat.le_of_ble_eq_true rfl, Nat.le_of_ble_eq_true rfl⟩) (preV (ci := 1) (q0 := 0) hB hS hP hD rfl rfl) rfl rfl hl.1 rfl (lv_room (Nat.le_of_ble_eq_true rfl)) dX1_doubt_2 ⟨Nat.le_of_ble_eq_true rfl, Nat.le_of_ble_eq_true rfl⟩) ?_
  refine x_ti (y := bI (true)) (by rw [gsC_nI hi hg]) ?_
  refine x_zne (tgt := 18) hx hb dX1_doubt_5 (by decide) (fun c5 => ?_) (fun c5 => absurd c5 (by decide))
  refine lv_aload_n hx hb dX1_doubt_18 rfl (lv_at hl 0 rfl) ?_
  refine va_get (D := D) (ci := 1) (v := .ref (ad 3)) (C := RX1) (T := TX1) (N := 11) hx hb hts hinX1 hown hK hP 0 rfl rfl 7 (by decide) lk38 (fun _ h9 => h9) rfl dX1_doubt_19 ?_
  refine lv_iload_n hx hb dX1_doubt_22 rfl (lv_at hl 1 rfl) ?_
  refine x_zald hx hb hK hP 3 1 rfl rfl (i := i) (by omega) (by omega) dX1_doubt_23 ?_
  refine lv_istore_n (lv' := [(3, .int (bI (dbt i))), (0, .ref (ad 0)), (1, .int (nI (i))), (2, .int (bI (is)))]) hx hb dX1_doubt_24 rfl hl (by decide) rfl (fun ls hl => ?_)
  refine lv_aload_n hx hb dX1_doubt_25 rfl (lv_at hl 1 rfl) ?_
  refine va_get (D := D) (ci := 1) (v := .ref (ad 3)) (C := RX1) (T := TX1) (N := 11) hx hb hts hinX1 hown hK hP 0 rfl rfl 7 (by decide) lk38 (fun _ h9 => h9) rfl dX1_doubt_26 ?_
  refine lv_iload_n hx hb dX1_doubt_29 rfl (lv_at hl 2 rfl) ?_
  refine lv_iload_n hx hb dX1_doubt_30 rfl (lv_at hl 3 rfl) ?_
  refine x_zast hx hb hK hP hD hS 3 1 rfl rfl (i := i) (v := is) (by omega) (by omega) dX1_doubt_31 (fun H locs hP hD hS => ?_)
  replace hP : va_P D vwCl (WX ad cI cZ c g hid code ans (va_up dbt i is) opn ply hps wr) H := hP
  replace hD : va_D A (WX ad cI cZ c g hid code ans (va_up dbt i is) opn ply hps wr) := hD
  refine lv_aload_n hx hb dX1_doubt_32 rfl (lv_at hl 1 rfl) ?_
  refine va_callv (va_runV (As := []) (rest := []) ⟨hx, hb, hml, hown, hts⟩ (c_X1_sieve l D cI cZ cG cJ A ad wr hpal c g hid code ans (va_up dbt i is) opn ply hps (hc) (hg) (hco)) (cwV 0 hts gX1_doubt_X1_sieve rfl rfl rfl (by decide +kernel) ⟨Nat.le_of_ble_eq_true rfl, Nat.le_of_ble_eq_true rfl⟩) (preV (ci := 1) (q0 := 0) hB hS hP hD rfl rfl) rfl rfl hl.1 rfl (lv_room (Nat.le_of_ble_eq_true rfl)) dX1_doubt_33 ⟨Nat.le_of_ble_eq_true rfl, Nat.le_of_ble_eq_true rfl⟩) hS (fun q _ h => h) (fun q h => h) (fun u_33 t9 H1 locs1 ht9 hvm9 hw_33 hBw hz9 hk9 hS => ?_)
  obtain ⟨hP, hD⟩ := hBw
  rw [ht9] at hP
  generalize H1 = H at hP hS ⊢
  generalize locs1 = locs at hS ⊢
  replace hP : va_P D vwCl (WX ad cI cZ c g hid code ans (va_up dbt i is) u_33 ply hps wr) H := hP
  replace hD : va_D A (WX ad cI cZ c g hid code ans (va_up dbt i is) u_33 ply hps wr) := hD
  refine lv_iload_n hx hb dX1_doubt_36 rfl (lv_at hl 0 rfl) ?_
  exact W.zret (v := bI (dbt i)) hx hb hr (bI_narrow _) (fun t ht hW => ⟨⟨_, u_33, rfl, (by
      exact ⟨rfl, hw_33⟩), ⟨by rw [ht]; exact hP, hD⟩⟩, hS.F ht⟩) hS.2.2 dX1_doubt_37

set_option maxHeartbeats 4000000 in
set_option maxRecDepth 100000 in
theorem c_X1_forgetP (l : Launch) (D : va_G) (cI cZ cG cJ : ClassId) (A : Nat → Prop) (ad : Nat → Nat) (wr : va_W) (hpal : Pals cI cG ad wr) (c : Nat) (g : Nat) (hid : Int32) (code : Nat → Nat) (ans : Nat → Nat) (dbt : Nat → Bool) (opn : Nat → Bool) (ply : Nat → Bool) (hps : Nat → Nat) (hI : XI c g hid code ans dbt opn) (h0 : 0 < g) : Met l yX1_forget wsX1_forget ({ frames := 4, cells := 0, slots := 0, locals := 87 }) (va_Pc [.ref (ad 0)] (Iv D (TY cI cZ cG cJ) A (WX ad cI cZ c g hid code ans dbt opn ply hps wr))) (va_Qi (fun r (u : Nat → Bool) => r = nI (code (g - 1)) ∧ ∀ k, k < 81 → u k = opS c (g - 1) code ans dbt k) (fun u => Wd D A (WX ad cI cZ c (g - 1) hid code ans dbt u ply hps wr)) A) 0 0 A := by
  refine Met.ofW (cc := cX1_forget) (maxL := 2) (ret := (some .int)) (by decide) rfl ?_
  intro p e s m args below meth c9 s₁ B hml hv
  obtain ⟨rfl, hP, hD, hB⟩ := hv
  have hK := hB.1
  have hA := hB.2.1
  have hx := B.exec
  have hb := B.bytes
  have hr := B.returns
  have hts := atoms_spec (ws := wsX1_forget) B.pre
  have hown : s.vm.findClass RX1 = some m.cls := findClass_of_methodNamed B.named
  have hlocks := B.notSynchronized
  have hS : va_S A s.heap s.heap [] := va_S.rf
  have hinX1 : ∀ w ∈ wsX10, w ∈ wsX1_forget := by decide +kernel
  have lk28 := hts (.fieldLink RX1 28 "HiddenCandles" "guesses" "I") (by decide +kernel)
  have lk31 := hts (.fieldLink RX1 31 "HiddenCandles" "guessed" "[I") (by decide +kernel)
  have hl := lv_entry ([.ref (ad 0)]) (n := 2) (Nat.le_of_ble_eq_true rfl)
  rw [lg_entry_eq]
  generalize (lg_sl ([.ref (ad 0)]) ++ List.replicate (2 - (lg_sl ([.ref (ad 0)])).length) Slot.unset).toArray = ls at hl ⊢
  have hl : lv_has ls 2 [(0, .ref (ad 0))] := hl
  obtain ⟨H, eH⟩ : ∃ q, q = s.heap := ⟨_, rfl⟩
  obtain ⟨locs, eL⟩ : ∃ q : List Loc, q = [] := ⟨_, rfl⟩
  replace hP : va_P D vwCl (WX ad cI cZ c g hid code ans dbt opn ply hps wr) H := by rw [eH]; exact hP
  replace hS : va_S A s.heap H locs := by rw [eH, eL]; exact hS
  rw [show W p l e _ s m _ below meth c9 s.heap [] = W p l e _ s m _ below meth c9 H locs from by rw [eH, eL]]
  clear eH eL
  obtain ⟨hc, hg, hco, hhid, hop⟩ := id hI
  have hq := qq_in hc
  have hop2 := op_lt hop
  refine lv_aload_n hx hb dX1_forget_0 rfl (lv_at hl 0 rfl) ?_
  refine va_get (D := D) (ci := 1) (v := .int (nI (g))) (C := RX1) (T := TX1) (N := 11) hx hb hts hinX1 hown hK hP 0 rfl rfl 4 (by decide) lk28 (fun _ h9 => h9) rfl dX1_forget_1 ?_
  refine lv_iconst (v := nI (1)) hx hb dX1_forget_4 (by decide) ?_
  refine lv_isub hx hb dX1_forget_5 ?_
  refine x_ti (pk_sub (by omega)) ?_
  refine lv_istore_n (lv' := [(1, .int (nI (g - 1))), (0, .ref (ad 0))]) hx hb dX1_forget_6 rfl hl (by decide) rfl (fun ls hl => ?_)
  refine lv_aload_n hx hb dX1_forget_7 rfl (lv_at hl 1 rfl) ?_
  refine lv_iload_n hx hb dX1_forget_8 rfl (lv_at hl 0 rfl) ?_
  refine x_csi (va_runV (As := [.int (nI (g - 1))]) (rest := []) ⟨hx, hb, hml, hown, hts⟩ (c_X1_hasGuess l D cI cZ cG cJ A ad wr hpal c g hid code ans dbt opn ply hps (nI (g - 1)) (hg)) (cwV 1 hts gX1_forget_X1_hasGuess rfl rfl rfl (by decide +kernel) ⟨Nat.le_of_ble_eq_true rfl, Nat.le_of_ble_eq_true rfl⟩) (preV (ci := 1) (q0 := 0) hB hS hP hD rfl rfl) rfl rfl hl.1 rfl (lv_room (Nat.le_of_ble_eq_true rfl)) dX1_forget_9 ⟨Nat.le_of_ble_eq_true rfl, Nat.le_of_ble_eq_true rfl⟩) ?_
  refine x_ti (y := bI (true)) (by rw [gsC_nI (by omega) hg]) ?_
  refine x_zne (tgt := 25) hx hb dX1_forget_12 (by decide) (fun c12 => ?_) (fun c12 => absurd c12 (by decide))
  refine lv_aload_n hx hb dX1_forget_25 rfl (lv_at hl 1 rfl) ?_
  refine lv_iload_n hx hb dX1_forget_26 rfl (lv_at hl 0 rfl) ?_
  refine va_put (D := D) (ci := 1) (v := .int (nI (g - 1))) (ty := .int) (C := RX1) (T := TX1) (N := 11) hx hb hts hinX1 tyX1 tyX1_ok nmX1 hown hK hP hD hS 0 rfl rfl 4 (by decide) lk28 (fun _ h9 => h9) rfl (by decide +kernel) rfl rfl (Nat.le_of_ble_eq_true rfl) dX1_forget_27 (fun H locs hP hD hS => ?_)
  replace hP : va_P D vwCl (WX ad cI cZ c (g - 1) hid code ans dbt opn ply hps wr) H := hP
  replace hD : va_D A (WX ad cI cZ c (g - 1) hid code ans dbt opn ply hps wr) := hD
  refine lv_aload_n hx hb dX1_forget_30 rfl (lv_at hl 1 rfl) ?_
  refine va_callv (va_runV (As := []) (rest := []) ⟨hx, hb, hml, hown, hts⟩ (c_X1_sieve l D cI cZ cG cJ A ad wr hpal c (g - 1) hid code ans dbt opn ply hps (hc) (by omega) (code_dn hco)) (cwV 0 hts gX1_forget_X1_sieve rfl rfl rfl (by decide +kernel) ⟨Nat.le_of_ble_eq_true rfl, Nat.le_of_ble_eq_true rfl⟩) (preV (ci := 1) (q0 := 0) hB hS hP hD rfl rfl) rfl rfl hl.1 rfl (lv_room (Nat.le_of_ble_eq_true rfl)) dX1_forget_31 ⟨Nat.le_of_ble_eq_true rfl, Nat.le_of_ble_eq_true rfl⟩) hS (fun q _ h => h) (fun q h => h) (fun u_31 t9 H1 locs1 ht9 hvm9 hw_31 hBw hz9 hk9 hS => ?_)
  obtain ⟨hP, hD⟩ := hBw
  rw [ht9] at hP
  generalize H1 = H at hP hS ⊢
  generalize locs1 = locs at hS ⊢
  replace hP : va_P D vwCl (WX ad cI cZ c (g - 1) hid code ans dbt u_31 ply hps wr) H := hP
  replace hD : va_D A (WX ad cI cZ c (g - 1) hid code ans dbt u_31 ply hps wr) := hD
  refine lv_aload_n hx hb dX1_forget_34 rfl (lv_at hl 1 rfl) ?_
  refine va_get (D := D) (ci := 1) (v := .ref (ad 1)) (C := RX1) (T := TX1) (N := 11) hx hb hts hinX1 hown hK hP 0 rfl rfl 5 (by decide) lk31 (fun _ h9 => h9) rfl dX1_forget_35 ?_
  refine lv_iload_n hx hb dX1_forget_38 rfl (lv_at hl 0 rfl) ?_
  refine x_iald hx hb hK hP 1 0 rfl rfl (i := g - 1) (by omega) (by omega) dX1_forget_39 ?_
  exact W.iret (v := nI (code (g - 1))) hx hb hr (fun t ht hW => ⟨⟨_, u_31, rfl, (by
      exact ⟨rfl, hw_31⟩), ⟨by rw [ht]; exact hP, hD⟩⟩, hS.F ht⟩) hS.2.2 dX1_forget_40
