set_option maxHeartbeats 4000000 in
set_option maxRecDepth 100000 in
theorem c_X0_hasCode (l : Launch) (D : va_G) (cI cZ cG cJ : ClassId) (A : Nat → Prop) (w : va_W) (q : Nat) (c : Nat) (v : Int32) (hpal : PalOK cI cG w q c) (hc : c = 2 ∨ c = 3) : Met l yX0_hasCode wsX0_hasCode ({ frames := 0, cells := 0, slots := 0, locals := 0 }) (va_Pc [.ref (q), .int (v)] (Iv D (TY cI cZ cG cJ) A (w))) (vp_Si (fun r => r = bI (hasC c v))) 0 0 (fun _ => False) := by
  refine Met.ofW (cc := cX0_hasCode) (maxL := 2) (ret := (some .boolean)) (by decide) rfl ?_
  intro p e s m args below meth c9 s₁ B hml hv
  obtain ⟨rfl, hP, hD, hB⟩ := hv
  have hK := hB.1
  have hA := hB.2.1
  have hx := B.exec
  have hb := B.bytes
  have hr := B.returns
  have hts := atoms_spec (ws := wsX0_hasCode) B.pre
  have hown : s.vm.findClass RX0 = some m.cls := findClass_of_methodNamed B.named
  have hlocks := B.notSynchronized
  have hS : va_S A s.heap s.heap [] := va_S.rf
  have hinX0 : ∀ w ∈ wsX00, w ∈ wsX0_hasCode := by decide +kernel
  have lk15 := hts (.fieldLink RX0 15 "HiddenCandles$Palette" "codes" "I") (by decide +kernel)
  have hl := lv_entry ([.ref (q), .int (v)]) (n := 2) (Nat.le_of_ble_eq_true rfl)
  rw [lg_entry_eq]
  generalize (lg_sl ([.ref (q), .int (v)]) ++ List.replicate (2 - (lg_sl ([.ref (q), .int (v)])).length) Slot.unset).toArray = ls at hl ⊢
  have hl : lv_has ls 2 [(0, .ref (q)), (1, .int (v))] := hl
  have hq := qq_in hc
  obtain ⟨cd, tb, kq, kc, kt, fc, ft, e1, e2, e3, e4, e5⟩ := id hpal
  refine lv_iload_n hx hb dX0_hasCode_0 rfl (lv_at hl 1 rfl) ?_
  refine lv_if_lt (tgt := 16) hx hb dX0_hasCode_1 (by decide) (fun c1 => ?_) (fun c1 => ?_)
  · skip
    refine lv_iconst (v := bI (false)) hx hb dX0_hasCode_16 (by decide) ?_
    exact W.zret (v := bI (false)) hx hb hr (bI_narrow _) (fun t ht hW => ⟨_, rfl, (by
        first | rw [hasC_f1 c1] | rw [hasC_f2 c9] | rw [hasC_t c1 c9]), ht⟩) (fun _ h => nomatch h) dX0_hasCode_17
  · skip
    refine lv_iload_n hx hb dX0_hasCode_4 rfl (lv_at hl 1 rfl) ?_
    refine lv_aload_n hx hb dX0_hasCode_5 rfl (lv_at hl 0 rfl) ?_
    refine va_get (D := D) (ci := 0) (v := .int (nI (qq c))) (C := RX0) (T := TX0) (N := 4) hx hb hts hinX0 hown hK hP kq e1 rfl 1 (by decide) lk15 (fun _ h9 => h9) rfl dX0_hasCode_6 ?_
    refine lv_icmp_ge (tgt := 16) hx hb dX0_hasCode_9 (by decide) (fun c9 => ?_) (fun c9 => ?_)
    · skip
      refine lv_iconst (v := bI (false)) hx hb dX0_hasCode_16 (by decide) ?_
      exact W.zret (v := bI (false)) hx hb hr (bI_narrow _) (fun t ht hW => ⟨_, rfl, (by
          first | rw [hasC_f1 c1] | rw [hasC_f2 c9] | rw [hasC_t c1 c9]), ht⟩) (fun _ h => nomatch h) dX0_hasCode_17
    · skip
      refine lv_iconst (v := bI (true)) hx hb dX0_hasCode_12 (by decide) ?_
      refine lv_goto (tgt := 17) hx hb dX0_hasCode_13 (by decide) ?_
      exact W.zret (v := bI (true)) hx hb hr (bI_narrow _) (fun t ht hW => ⟨_, rfl, (by
          first | rw [hasC_f1 c1] | rw [hasC_f2 c9] | rw [hasC_t c1 c9]), ht⟩) (fun _ h => nomatch h) dX0_hasCode_17

set_option maxHeartbeats 4000000 in
set_option maxRecDepth 100000 in
theorem c_X0_colourOf (l : Launch) (D : va_G) (cI cZ cG cJ : ClassId) (A : Nat → Prop) (w : va_W) (q : Nat) (c : Nat) (k : Nat) (pl : Nat) (hpal : PalOK cI cG w q c) (hc : c = 2 ∨ c = 3) (hk : k < qq c) (hp : pl < 4) : Met l yX0_colourOf wsX0_colourOf ({ frames := 1, cells := 0, slots := 0, locals := 21 }) (va_Pc [.ref (q), .int (nI (k)), .int (nI (pl))] (Iv D (TY cI cZ cG cJ) A (w))) (vp_Si (fun r => r = nI (col c k pl))) 0 0 (fun _ => False) := by
  refine Met.ofW (cc := cX0_colourOf) (maxL := 3) (ret := (some .int)) (by decide) rfl ?_
  intro p e s m args below meth c9 s₁ B hml hv
  obtain ⟨rfl, hP, hD, hB⟩ := hv
  have hK := hB.1
  have hA := hB.2.1
  have hx := B.exec
  have hb := B.bytes
  have hr := B.returns
  have hts := atoms_spec (ws := wsX0_colourOf) B.pre
  have hown : s.vm.findClass RX0 = some m.cls := findClass_of_methodNamed B.named
  have hlocks := B.notSynchronized
  have hS : va_S A s.heap s.heap [] := va_S.rf
  have hinX0 : ∀ w ∈ wsX00, w ∈ wsX0_colourOf := by decide +kernel
  have lk20 := hts (.fieldLink RX0 20 "HiddenCandles$Palette" "candles" "[[I") (by decide +kernel)
  have hl := lv_entry ([.ref (q), .int (nI (k)), .int (nI (pl))]) (n := 3) (Nat.le_of_ble_eq_true rfl)
  rw [lg_entry_eq]
  generalize (lg_sl ([.ref (q), .int (nI (k)), .int (nI (pl))]) ++ List.replicate (3 - (lg_sl ([.ref (q), .int (nI (k)), .int (nI (pl))])).length) Slot.unset).toArray = ls at hl ⊢
  have hl : lv_has ls 3 [(0, .ref (q)), (1, .int (nI (k))), (2, .int (nI (pl)))] := hl
  have hq := qq_in hc
  obtain ⟨cd, tb, kq, kc, kt, fc, ft, e1, e2, e3, e4, e5⟩ := id hpal
  refine lv_aload_n hx hb dX0_colourOf_0 rfl (lv_at hl 0 rfl) ?_
  refine lv_iload_n hx hb dX0_colourOf_1 rfl (lv_at hl 1 rfl) ?_
  refine x_csi (va_runV (As := [.int (nI (k))]) (rest := []) ⟨hx, hb, hml, hown, hts⟩ (c_X0_hasCode l D cI cZ cG cJ A w q c (nI k) (hpal) (hc)) (cwV 1 hts gX0_colourOf_X0_hasCode rfl rfl rfl (by decide +kernel) ⟨Nat.le_of_ble_eq_true rfl, Nat.le_of_ble_eq_true rfl⟩) (prePal hB va_S.rf hP hD (hpal)) rfl rfl hl.1 rfl (lv_room (Nat.le_of_ble_eq_true rfl)) dX0_colourOf_2 ⟨Nat.le_of_ble_eq_true rfl, Nat.le_of_ble_eq_true rfl⟩) ?_
  refine x_ti (y := bI (true)) (by rw [hasC_lt hc hk]) ?_
  refine x_zeq (tgt := 28) hx hb dX0_colourOf_5 (by decide) (fun c5 => absurd c5 (by decide)) (fun c5 => ?_)
  refine lv_iload_n hx hb dX0_colourOf_8 rfl (lv_at hl 2 rfl) ?_
  refine x_lt0 (tgt := 28) hx hb dX0_colourOf_9 (by decide) (by omega) ?_
  refine lv_iload_n hx hb dX0_colourOf_12 rfl (lv_at hl 2 rfl) ?_
  refine lv_iconst (v := nI (4)) hx hb dX0_colourOf_13 (by decide) ?_
  refine x_ge (tgt := 28) hx hb dX0_colourOf_14 (by decide) (by omega) (by omega) (fun c14 => absurd c14 (by omega)) (fun c14 => ?_)
  refine lv_aload_n hx hb dX0_colourOf_17 rfl (lv_at hl 0 rfl) ?_
  refine va_get (D := D) (ci := 0) (v := .ref (cd)) (C := RX0) (T := TX0) (N := 4) hx hb hts hinX0 hown hK hP kq e1 rfl 2 (by decide) lk20 (fun _ h9 => h9) rfl dX0_colourOf_18 ?_
  refine lv_iload_n hx hb dX0_colourOf_21 rfl (lv_at hl 1 rfl) ?_
  obtain ⟨r22, k22, f22, ga22, gb22, gc22⟩ := e4 k hk
  refine x_gald hx hb hK hP kc 2 e2 rfl (i := k) (by omega) (by omega) ga22 dX0_colourOf_22 ?_
  refine lv_iload_n hx hb dX0_colourOf_23 rfl (lv_at hl 2 rfl) ?_
  refine x_iald hx hb hK hP k22 0 gb22 rfl (i := pl) (hp) (by omega) dX0_colourOf_24 ?_
  refine x_ti (y := nI (col c k pl)) (gc22 pl hp) ?_
  refine lv_goto (tgt := 29) hx hb dX0_colourOf_25 (by decide) ?_
  exact W.iret (v := nI (col c k pl)) hx hb hr (fun t ht hW => ⟨_, rfl, (by
      rfl), ht⟩) (fun _ h => nomatch h) dX0_colourOf_29

set_option maxHeartbeats 4000000 in
set_option maxRecDepth 100000 in
theorem c_X0_answerTo (l : Launch) (D : va_G) (cI cZ cG cJ : ClassId) (A : Nat → Prop) (w : va_W) (q : Nat) (c : Nat) (a : Nat) (k : Nat) (hpal : PalOK cI cG w q c) (hc : c = 2 ∨ c = 3) (ha : a < qq c) (hk : k < qq c) : Met l yX0_answerTo wsX0_answerTo ({ frames := 1, cells := 0, slots := 0, locals := 21 }) (va_Pc [.ref (q), .int (nI (a)), .int (nI (k))] (Iv D (TY cI cZ cG cJ) A (w))) (vp_Si (fun r => r = nI (pins c a k))) 0 0 (fun _ => False) := by
  refine Met.ofW (cc := cX0_answerTo) (maxL := 3) (ret := (some .int)) (by decide) rfl ?_
  intro p e s m args below meth c9 s₁ B hml hv
  obtain ⟨rfl, hP, hD, hB⟩ := hv
  have hK := hB.1
  have hA := hB.2.1
  have hx := B.exec
  have hb := B.bytes
  have hr := B.returns
  have hts := atoms_spec (ws := wsX0_answerTo) B.pre
  have hown : s.vm.findClass RX0 = some m.cls := findClass_of_methodNamed B.named
  have hlocks := B.notSynchronized
  have hS : va_S A s.heap s.heap [] := va_S.rf
  have hinX0 : ∀ w ∈ wsX00, w ∈ wsX0_answerTo := by decide +kernel
  have lk23 := hts (.fieldLink RX0 23 "HiddenCandles$Palette" "table" "[[I") (by decide +kernel)
  have hl := lv_entry ([.ref (q), .int (nI (a)), .int (nI (k))]) (n := 3) (Nat.le_of_ble_eq_true rfl)
  rw [lg_entry_eq]
  generalize (lg_sl ([.ref (q), .int (nI (a)), .int (nI (k))]) ++ List.replicate (3 - (lg_sl ([.ref (q), .int (nI (a)), .int (nI (k))])).length) Slot.unset).toArray = ls at hl ⊢
  have hl : lv_has ls 3 [(0, .ref (q)), (1, .int (nI (a))), (2, .int (nI (k)))] := hl
  have hq := qq_in hc
  obtain ⟨cd, tb, kq, kc, kt, fc, ft, e1, e2, e3, e4, e5⟩ := id hpal
  refine lv_aload_n hx hb dX0_answerTo_0 rfl (lv_at hl 0 rfl) ?_
  refine lv_iload_n hx hb dX0_answerTo_1 rfl (lv_at hl 1 rfl) ?_
  refine x_csi (va_runV (As := [.int (nI (a))]) (rest := []) ⟨hx, hb, hml, hown, hts⟩ (c_X0_hasCode l D cI cZ cG cJ A w q c (nI a) (hpal) (hc)) (cwV 1 hts gX0_answerTo_X0_hasCode rfl rfl rfl (by decide +kernel) ⟨Nat.le_of_ble_eq_true rfl, Nat.le_of_ble_eq_true rfl⟩) (prePal hB va_S.rf hP hD (hpal)) rfl rfl hl.1 rfl (lv_room (Nat.le_of_ble_eq_true rfl)) dX0_answerTo_2 ⟨Nat.le_of_ble_eq_true rfl, Nat.le_of_ble_eq_true rfl⟩) ?_
  refine x_ti (y := bI (true)) (by rw [hasC_lt hc ha]) ?_
  refine x_zeq (tgt := 27) hx hb dX0_answerTo_5 (by decide) (fun c5 => absurd c5 (by decide)) (fun c5 => ?_)
  refine lv_aload_n hx hb dX0_answerTo_8 rfl (lv_at hl 0 rfl) ?_
  refine lv_iload_n hx hb dX0_answerTo_9 rfl (lv_at hl 2 rfl) ?_
  refine x_csi (va_runV (As := [.int (nI (k))]) (rest := []) ⟨hx, hb, hml, hown, hts⟩ (c_X0_hasCode l D cI cZ cG cJ A w q c (nI k) (hpal) (hc)) (cwV 1 hts gX0_answerTo_X0_hasCode rfl rfl rfl (by decide +kernel) ⟨Nat.le_of_ble_eq_true rfl, Nat.le_of_ble_eq_true rfl⟩) (prePal hB va_S.rf hP hD (hpal)) rfl rfl hl.1 rfl (lv_room (Nat.le_of_ble_eq_true rfl)) dX0_answerTo_10 ⟨Nat.le_of_ble_eq_true rfl, Nat.le_of_ble_eq_true rfl⟩) ?_
  refine x_ti (y := bI (true)) (by rw [hasC_lt hc hk]) ?_
  refine x_zeq (tgt := 27) hx hb dX0_answerTo_13 (by decide) (fun c13 => absurd c13 (by decide)) (fun c13 => ?_)
  refine lv_aload_n hx hb dX0_answerTo_16 rfl (lv_at hl 0 rfl) ?_
  refine va_get (D := D) (ci := 0) (v := .ref (tb)) (C := RX0) (T := TX0) (N := 4) hx hb hts hinX0 hown hK hP kq e1 rfl 3 (by decide) lk23 (fun _ h9 => h9) rfl dX0_answerTo_17 ?_
  refine lv_iload_n hx hb dX0_answerTo_20 rfl (lv_at hl 1 rfl) ?_
  obtain ⟨r21, k21, f21, ga21, gb21, gc21⟩ := e5 a ha
  refine x_gald hx hb hK hP kt 2 e3 rfl (i := a) (by omega) (by omega) ga21 dX0_answerTo_21 ?_
  refine lv_iload_n hx hb dX0_answerTo_22 rfl (lv_at hl 2 rfl) ?_
  refine x_iald hx hb hK hP k21 0 gb21 rfl (i := k) (hk) (by omega) dX0_answerTo_23 ?_
  refine x_ti (y := nI (pins c a k)) (gc21 k hk) ?_
  refine lv_goto (tgt := 28) hx hb dX0_answerTo_24 (by decide) ?_
  exact W.iret (v := nI (pins c a k)) hx hb hr (fun t ht hW => ⟨_, rfl, (by
      rfl), ht⟩) (fun _ h => nomatch h) dX0_answerTo_28

set_option maxHeartbeats 4000000 in
set_option maxRecDepth 100000 in
theorem c_X1_isIn (l : Launch) (D : va_G) (cI cZ cG cJ : ClassId) (A : Nat → Prop) (w : va_W) (sa : Nat) (k0 : Nat) (sb : Nat → Bool) (k : Nat) (hset : w[k0]? = some (sa, .inl (cZ, 81, .inl (fun j => bI (sb j))))) (hk : k < 81) : Met l yX1_isIn wsX1_isIn ({ frames := 0, cells := 0, slots := 0, locals := 0 }) (va_Pc [.ref (sa), .int (nI (k))] (Iv D (TY cI cZ cG cJ) A (w))) (vp_Si (fun r => r = bI (sb k))) 0 0 (fun _ => False) := by
  refine Met.ofW (cc := cX1_isIn) (maxL := 2) (ret := (some .boolean)) (by decide) rfl ?_
  intro p e s m args below meth c9 s₁ B hml hv
  obtain ⟨rfl, hP, hD, hB⟩ := hv
  have hK := hB.1
  have hA := hB.2.1
  have hx := B.exec
  have hb := B.bytes
  have hr := B.returns
  have hts := atoms_spec (ws := wsX1_isIn) B.pre
  have hown : s.vm.findClass RX1 = some m.cls := findClass_of_methodNamed B.named
  have hlocks := B.notSynchronized
  have hS : va_S A s.heap s.heap [] := va_S.rf
  have hl := lv_entry ([.ref (sa), .int (nI (k))]) (n := 2) (Nat.le_of_ble_eq_true rfl)
  rw [lg_entry_eq]
  generalize (lg_sl ([.ref (sa), .int (nI (k))]) ++ List.replicate (2 - (lg_sl ([.ref (sa), .int (nI (k))])).length) Slot.unset).toArray = ls at hl ⊢
  have hl : lv_has ls 2 [(0, .ref (sa)), (1, .int (nI (k)))] := hl
  refine lv_iload_n hx hb dX1_isIn_0 rfl (lv_at hl 1 rfl) ?_
  refine x_lt0 (tgt := 20) hx hb dX1_isIn_1 (by decide) (by omega) ?_
  refine lv_iload_n hx hb dX1_isIn_4 rfl (lv_at hl 1 rfl) ?_
  refine lv_aload_n hx hb dX1_isIn_5 rfl (lv_at hl 0 rfl) ?_
  refine x_alen hx hb hK hP k0 1 hset rfl (n := 81) rfl dX1_isIn_6 ?_
  refine x_ge (tgt := 20) hx hb dX1_isIn_7 (by decide) (by omega) (by omega) (fun c7 => absurd c7 (by omega)) (fun c7 => ?_)
  refine lv_aload_n hx hb dX1_isIn_10 rfl (lv_at hl 0 rfl) ?_
  refine lv_iload_n hx hb dX1_isIn_11 rfl (lv_at hl 1 rfl) ?_
  refine x_zald hx hb hK hP k0 1 hset rfl (i := k) (by omega) (by omega) dX1_isIn_12 ?_
  refine x_zeq (tgt := 20) hx hb dX1_isIn_13 (by decide) (fun c13 => ?_) (fun c13 => ?_)
  · skip
    refine lv_iconst (v := bI (false)) hx hb dX1_isIn_20 (by decide) ?_
    exact W.zret (v := bI (false)) hx hb hr (bI_narrow _) (fun t ht hW => ⟨_, rfl, (by
        rw [c13]), ht⟩) (fun _ h => nomatch h) dX1_isIn_21
  · skip
    refine lv_iconst (v := bI (true)) hx hb dX1_isIn_16 (by decide) ?_
    refine lv_goto (tgt := 21) hx hb dX1_isIn_17 (by decide) ?_
    exact W.zret (v := bI (true)) hx hb hr (bI_narrow _) (fun t ht hW => ⟨_, rfl, (by
        rw [c13]), ht⟩) (fun _ h => nomatch h) dX1_isIn_21

set_option maxHeartbeats 4000000 in
set_option maxRecDepth 100000 in
theorem c_X1_size (l : Launch) (D : va_G) (cI cZ cG cJ : ClassId) (A : Nat → Prop) (w : va_W) (sa : Nat) (k0 : Nat) (sb : Nat → Bool) (hset : w[k0]? = some (sa, .inl (cZ, 81, .inl (fun j => bI (sb j))))) : Met l yX1_size wsX1_size ({ frames := 0, cells := 0, slots := 0, locals := 0 }) (va_Pc [.ref (sa)] (Iv D (TY cI cZ cG cJ) A (w))) (vp_Si (fun r => r = nI (cN sb 81))) 0 0 (fun _ => False) := by
  refine Met.ofW (cc := cX1_size) (maxL := 3) (ret := (some .int)) (by decide) rfl ?_
  intro p e s m args below meth c9 s₁ B hml hv
  obtain ⟨rfl, hP, hD, hB⟩ := hv
  have hK := hB.1
  have hA := hB.2.1
  have hx := B.exec
  have hb := B.bytes
  have hr := B.returns
  have hts := atoms_spec (ws := wsX1_size) B.pre
  have hown : s.vm.findClass RX1 = some m.cls := findClass_of_methodNamed B.named
  have hlocks := B.notSynchronized
  have hS : va_S A s.heap s.heap [] := va_S.rf
  have hl := lv_entry ([.ref (sa)]) (n := 3) (Nat.le_of_ble_eq_true rfl)
  rw [lg_entry_eq]
  generalize (lg_sl ([.ref (sa)]) ++ List.replicate (3 - (lg_sl ([.ref (sa)])).length) Slot.unset).toArray = ls at hl ⊢
  have hl : lv_has ls 3 [(0, .ref (sa))] := hl
  refine lv_iconst (v := nI (0)) hx hb dX1_size_0 (by decide) ?_
  refine lv_istore_n (lv' := [(1, .int (nI (0))), (0, .ref (sa))]) hx hb dX1_size_1 rfl hl (by decide) rfl (fun ls hl => ?_)
  refine lv_iconst (v := nI (0)) hx hb dX1_size_2 (by decide) ?_
  refine lv_istore_n (lv' := [(2, .int (nI (0))), (1, .int (nI (0))), (0, .ref (sa))]) hx hb dX1_size_3 rfl hl (by decide) rfl (fun ls hl => ?_)
  -- loop at 4
  have hinv : 0 ≤ 81 ∧ 0 = cN sb 0 := by
    exact ⟨by omega, rfl⟩
  obtain ⟨i, r, hq9⟩ : ∃ (i : Nat) (r : Nat), lv_has ls 3 [(0, .ref (sa)), (1, .int (nI (r))), (2, .int (nI (i)))] ∧ (i ≤ 81 ∧ r = cN sb i) := ⟨0, 0, lv_sub hl [2, 1, 0] rfl, hinv⟩
  clear hl hinv
  obtain ⟨hl, hinv⟩ := hq9
  obtain ⟨n9_4, hn9⟩ : ∃ q : Nat, 81 - i < q := ⟨_, Nat.lt_succ_self _⟩
  induction n9_4 generalizing ls i r with
  | zero => exact absurd hn9 (Nat.not_lt_zero _)
  | succ n9_4 ih4 =>
    obtain ⟨h1, h2⟩ := hinv; have hle := cN_le sb i
    refine lv_iload_n hx hb dX1_size_4 rfl (lv_at hl 2 rfl) ?_
    refine lv_aload_n hx hb dX1_size_5 rfl (lv_at hl 0 rfl) ?_
    refine x_alen hx hb hK hP k0 1 hset rfl (n := 81) rfl dX1_size_6 ?_
    refine x_ge (tgt := 25) hx hb dX1_size_7 (by decide) (by omega) (by omega) (fun c7 => ?_) (fun c7 => ?_)
    · skip
      refine lv_iload_n hx hb dX1_size_25 rfl (lv_at hl 1 rfl) ?_
      exact W.iret (v := nI (r)) hx hb hr (fun t ht hW => ⟨_, rfl, (by
          have : i = 81 := by omega
          subst this
          rw [h2]), ht⟩) (fun _ h => nomatch h) dX1_size_26
    · skip
      refine lv_aload_n hx hb dX1_size_10 rfl (lv_at hl 0 rfl) ?_
      refine lv_iload_n hx hb dX1_size_11 rfl (lv_at hl 2 rfl) ?_
      refine x_zald hx hb hK hP k0 1 hset rfl (i := i) (by omega) (by omega) dX1_size_12 ?_
      refine x_zeq (tgt := 19) hx hb dX1_size_13 (by decide) (fun c13 => ?_) (fun c13 => ?_)
      · skip
        refine lv_iinc (v := nI (i + 1)) (lv' := [(2, .int (nI (i + 1))), (0, .ref (sa)), (1, .int (nI (r)))]) hx hb dX1_size_19 hl (k := 2) rfl (nI_add _ _) (by decide) rfl (fun ls hl => ?_)
        refine lv_goto (tgt := 4) hx hb dX1_size_22 (by decide) ?_
        exact ih4 (i := i + 1) (r := r) (ls := ls) (hl := lv_sub hl [1, 2, 0] rfl) (hinv := by
            exact ⟨by omega, by simp [cN, h2, c13]⟩
          ) (hn9 := by
            omega
          )
      · skip
        refine lv_iinc (v := nI (r + 1)) (lv' := [(1, .int (nI (r + 1))), (0, .ref (sa)), (2, .int (nI (i)))]) hx hb dX1_size_16 hl (k := 1) rfl (nI_add _ _) (by decide) rfl (fun ls hl => ?_)
        refine lv_iinc (v := nI (i + 1)) (lv' := [(2, .int (nI (i + 1))), (1, .int (nI (r + 1))), (0, .ref (sa))]) hx hb dX1_size_19 hl (k := 2) rfl (nI_add _ _) (by decide) rfl (fun ls hl => ?_)
        refine lv_goto (tgt := 4) hx hb dX1_size_22 (by decide) ?_
        exact ih4 (i := i + 1) (r := r + 1) (ls := ls) (hl := lv_sub hl [2, 1, 0] rfl) (hinv := by
            exact ⟨by omega, by simp [cN, h2, c13]⟩
          ) (hn9 := by
            omega
          )

set_option maxHeartbeats 4000000 in
set_option maxRecDepth 100000 in
theorem c_X1_memberAt (l : Launch) (D : va_G) (cI cZ cG cJ : ClassId) (A : Nat → Prop) (w : va_W) (sa : Nat) (k0 : Nat) (sb : Nat → Bool) (v : Int32) (hset : w[k0]? = some (sa, .inl (cZ, 81, .inl (fun j => bI (sb j))))) : Met l yX1_memberAt wsX1_memberAt ({ frames := 0, cells := 0, slots := 0, locals := 0 }) (va_Pc [.ref (sa), .int (v)] (Iv D (TY cI cZ cG cJ) A (w))) (vp_Si (fun r => r = memA sb v 81)) 0 0 (fun _ => False) := by
  refine Met.ofW (cc := cX1_memberAt) (maxL := 4) (ret := (some .int)) (by decide) rfl ?_
  intro p e s m args below meth c9 s₁ B hml hv
  obtain ⟨rfl, hP, hD, hB⟩ := hv
  have hK := hB.1
  have hA := hB.2.1
  have hx := B.exec
  have hb := B.bytes
  have hr := B.returns
  have hts := atoms_spec (ws := wsX1_memberAt) B.pre
  have hown : s.vm.findClass RX1 = some m.cls := findClass_of_methodNamed B.named
  have hlocks := B.notSynchronized
  have hS : va_S A s.heap s.heap [] := va_S.rf
  have hl := lv_entry ([.ref (sa), .int (v)]) (n := 4) (Nat.le_of_ble_eq_true rfl)
  rw [lg_entry_eq]
  generalize (lg_sl ([.ref (sa), .int (v)]) ++ List.replicate (4 - (lg_sl ([.ref (sa), .int (v)])).length) Slot.unset).toArray = ls at hl ⊢
  have hl : lv_has ls 4 [(0, .ref (sa)), (1, .int (v))] := hl
  refine lv_iconst (v := nI (0)) hx hb dX1_memberAt_0 (by decide) ?_
  refine lv_istore_n (lv' := [(2, .int (nI (0))), (0, .ref (sa)), (1, .int (v))]) hx hb dX1_memberAt_1 rfl hl (by decide) rfl (fun ls hl => ?_)
  refine lv_iconst (v := nI (0)) hx hb dX1_memberAt_2 (by decide) ?_
  refine lv_istore_n (lv' := [(3, .int (nI (0))), (2, .int (nI (0))), (0, .ref (sa)), (1, .int (v))]) hx hb dX1_memberAt_3 rfl hl (by decide) rfl (fun ls hl => ?_)
  -- loop at 4
  have hinv : 0 ≤ 81 ∧ 0 = cN sb 0 ∧ memA sb v 0 = -1 := by
    exact ⟨by omega, rfl, rfl⟩
  obtain ⟨i, r, hq9⟩ : ∃ (i : Nat) (r : Nat), lv_has ls 4 [(0, .ref (sa)), (1, .int (v)), (2, .int (nI (r))), (3, .int (nI (i)))] ∧ (i ≤ 81 ∧ r = cN sb i ∧ memA sb v i = -1) := ⟨0, 0, lv_sub hl [2, 3, 1, 0] rfl, hinv⟩
  clear hl hinv
  obtain ⟨hl, hinv⟩ := hq9
  obtain ⟨n9_4, hn9⟩ : ∃ q : Nat, 81 - i < q := ⟨_, Nat.lt_succ_self _⟩
  induction n9_4 generalizing ls i r with
  | zero => exact absurd hn9 (Nat.not_lt_zero _)
  | succ n9_4 ih4 =>
    obtain ⟨h1, h2, h3⟩ := hinv; have hle := cN_le sb i
    refine lv_iload_n hx hb dX1_memberAt_4 rfl (lv_at hl 3 rfl) ?_
    refine lv_aload_n hx hb dX1_memberAt_5 rfl (lv_at hl 0 rfl) ?_
    refine x_alen hx hb hK hP k0 1 hset rfl (n := 81) rfl dX1_memberAt_6 ?_
    refine x_ge (tgt := 32) hx hb dX1_memberAt_7 (by decide) (by omega) (by omega) (fun c7 => ?_) (fun c7 => ?_)
    · skip
      refine lv_iconst (v := (-1)) hx hb dX1_memberAt_32 (by decide) ?_
      exact W.iret (v := (-1)) hx hb hr (fun t ht hW => ⟨_, rfl, (by
          have : i = 81 := by omega
          subst this
          rw [h3]), ht⟩) (fun _ h => nomatch h) dX1_memberAt_33
    · skip
      refine lv_aload_n hx hb dX1_memberAt_10 rfl (lv_at hl 0 rfl) ?_
      refine lv_iload_n hx hb dX1_memberAt_11 rfl (lv_at hl 3 rfl) ?_
      refine x_zald hx hb hK hP k0 1 hset rfl (i := i) (by omega) (by omega) dX1_memberAt_12 ?_
      refine x_zeq (tgt := 26) hx hb dX1_memberAt_13 (by decide) (fun c13 => ?_) (fun c13 => ?_)
      · skip
        refine lv_iinc (v := nI (i + 1)) (lv' := [(3, .int (nI (i + 1))), (0, .ref (sa)), (1, .int (v)), (2, .int (nI (r)))]) hx hb dX1_memberAt_26 hl (k := 3) rfl (nI_add _ _) (by decide) rfl (fun ls hl => ?_)
        refine lv_goto (tgt := 4) hx hb dX1_memberAt_29 (by decide) ?_
        exact ih4 (i := i + 1) (r := r) (ls := ls) (hl := lv_sub hl [1, 2, 3, 0] rfl) (hinv := by
            exact ⟨by omega, by simp [cN, h2, c13], memA_no h3 (by first | (intro q; rw [c13] at q; cases q; done) | (rw [h2] at c18; exact fun _ => c18))⟩
          ) (hn9 := by
            omega
          )
      · skip
        refine lv_iload_n hx hb dX1_memberAt_16 rfl (lv_at hl 2 rfl) ?_
        refine lv_iload_n hx hb dX1_memberAt_17 rfl (lv_at hl 1 rfl) ?_
        refine lv_icmp_ne (tgt := 23) hx hb dX1_memberAt_18 (by decide) (fun c18 => ?_) (fun c18 => ?_)
        · skip
          refine lv_iinc (v := nI (r + 1)) (lv' := [(2, .int (nI (r + 1))), (0, .ref (sa)), (1, .int (v)), (3, .int (nI (i)))]) hx hb dX1_memberAt_23 hl (k := 2) rfl (nI_add _ _) (by decide) rfl (fun ls hl => ?_)
          refine lv_iinc (v := nI (i + 1)) (lv' := [(3, .int (nI (i + 1))), (2, .int (nI (r + 1))), (0, .ref (sa)), (1, .int (v))]) hx hb dX1_memberAt_26 hl (k := 3) rfl (nI_add _ _) (by decide) rfl (fun ls hl => ?_)
          refine lv_goto (tgt := 4) hx hb dX1_memberAt_29 (by decide) ?_
          exact ih4 (i := i + 1) (r := r + 1) (ls := ls) (hl := lv_sub hl [2, 3, 1, 0] rfl) (hinv := by
              exact ⟨by omega, by simp [cN, h2, c13], memA_no h3 (by first | (intro q; rw [c13] at q; cases q; done) | (rw [h2] at c18; exact fun _ => c18))⟩
            ) (hn9 := by
              omega
            )
        · skip
          refine lv_iload_n hx hb dX1_memberAt_21 rfl (lv_at hl 3 rfl) ?_
          exact W.iret (v := nI (i)) hx hb hr (fun t ht hW => ⟨_, rfl, (by
              rw [h2] at c18
              exact (memA_hit (by omega) h3 c13 c18).symm), ht⟩) (fun _ h => nomatch h) dX1_memberAt_22
