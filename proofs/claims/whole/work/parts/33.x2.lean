set_option maxHeartbeats 4000000 in
set_option maxRecDepth 100000 in
theorem c_X2_thrown (l : Launch) (D : va_G) (cI cZ cG cJ : ClassId) (A : Nat → Prop) (bd : Nat → Nat) (wr : va_W) (th : Nat) (c : Nat) (hid : Int32) (g : Nat) (code : Nat → Nat) (ans : Nat → Nat) (dbt : Nat → Bool) (many : Nat) (row : Nat → Nat) (heap : Nat → Nat) (our : Nat → Nat) (the : Nat → Nat)  : Met l yX2_thrown wsX2_thrown ({ frames := 0, cells := 0, slots := 0, locals := 0 }) (va_Pc [.ref (bd 0)] (Iv D (TY cI cZ cG cJ) A (WM bd cI th c hid g code ans dbt many row heap our the wr))) (vp_Si (fun r => r = nI (th))) 0 0 (fun _ => False) := by
  refine Met.ofW (cc := cX2_thrown) (maxL := 1) (ret := (some .int)) (by decide) rfl ?_
  intro p e s m args below meth c9 s₁ B hml hv
  obtain ⟨rfl, hP, hD, hB⟩ := hv
  have hK := hB.1
  have hA := hB.2.1
  have hx := B.exec
  have hb := B.bytes
  have hr := B.returns
  have hts := atoms_spec (ws := wsX2_thrown) B.pre
  have hown : s.vm.findClass RX2 = some m.cls := findClass_of_methodNamed B.named
  have hlocks := B.notSynchronized
  have hS : va_S A s.heap s.heap [] := va_S.rf
  have hinX2 : ∀ w ∈ wsX20, w ∈ wsX2_thrown := by decide +kernel
  have lk38 := hts (.fieldLink RX2 38 "HiddenCandlesModel" "thrown" "I") (by decide +kernel)
  have hl := lv_entry ([.ref (bd 0)]) (n := 1) (Nat.le_of_ble_eq_true rfl)
  rw [lg_entry_eq]
  generalize (lg_sl ([.ref (bd 0)]) ++ List.replicate (1 - (lg_sl ([.ref (bd 0)])).length) Slot.unset).toArray = ls at hl ⊢
  have hl : lv_has ls 1 [(0, .ref (bd 0))] := hl
  refine lv_aload_n hx hb dX2_thrown_0 rfl (lv_at hl 0 rfl) ?_
  refine va_get (D := D) (ci := 2) (v := .int (nI (th))) (C := RX2) (T := TX2) (N := 12) hx hb hts hinX2 hown hK hP 0 rfl rfl 0 (by decide) lk38 (fun _ h9 => h9) rfl dX2_thrown_1 ?_
  exact W.iret (v := nI (th)) hx hb hr (fun t ht hW => ⟨_, rfl, (by
      rfl), ht⟩) (fun _ h => nomatch h) dX2_thrown_4

set_option maxHeartbeats 4000000 in
set_option maxRecDepth 100000 in
theorem c_X2_no (l : Launch) (D : va_G) (cI cZ cG cJ : ClassId) (A : Nat → Prop) (bd : Nat → Nat) (wr : va_W) (th : Nat) (c : Nat) (hid : Int32) (g : Nat) (code : Nat → Nat) (ans : Nat → Nat) (dbt : Nat → Bool) (many : Nat) (row : Nat → Nat) (heap : Nat → Nat) (our : Nat → Nat) (the : Nat → Nat) (n : Nat)  : Met l yX2_no wsX2_no ({ frames := 0, cells := 0, slots := 0, locals := 0 }) (va_Pc [.ref (bd 0), .int (nI (n))] (Iv D (TY cI cZ cG cJ) A (WM bd cI th c hid g code ans dbt many row heap our the wr))) (va_Qi (fun r (u : Unit) => r = nI 0 ∧ True) (fun u => Wd D A (WM bd cI n c hid g code ans dbt many row heap our the wr)) A) 0 0 A := by
  refine Met.ofW (cc := cX2_no) (maxL := 2) (ret := (some .int)) (by decide) rfl ?_
  intro p e s m args below meth c9 s₁ B hml hv
  obtain ⟨rfl, hP, hD, hB⟩ := hv
  have hK := hB.1
  have hA := hB.2.1
  have hx := B.exec
  have hb := B.bytes
  have hr := B.returns
  have hts := atoms_spec (ws := wsX2_no) B.pre
  have hown : s.vm.findClass RX2 = some m.cls := findClass_of_methodNamed B.named
  have hlocks := B.notSynchronized
  have hS : va_S A s.heap s.heap [] := va_S.rf
  have hinX2 : ∀ w ∈ wsX20, w ∈ wsX2_no := by decide +kernel
  have lk38 := hts (.fieldLink RX2 38 "HiddenCandlesModel" "thrown" "I") (by decide +kernel)
  have hl := lv_entry ([.ref (bd 0), .int (nI (n))]) (n := 2) (Nat.le_of_ble_eq_true rfl)
  rw [lg_entry_eq]
  generalize (lg_sl ([.ref (bd 0), .int (nI (n))]) ++ List.replicate (2 - (lg_sl ([.ref (bd 0), .int (nI (n))])).length) Slot.unset).toArray = ls at hl ⊢
  have hl : lv_has ls 2 [(0, .ref (bd 0)), (1, .int (nI (n)))] := hl
  obtain ⟨H, eH⟩ : ∃ q, q = s.heap := ⟨_, rfl⟩
  obtain ⟨locs, eL⟩ : ∃ q : List Loc, q = [] := ⟨_, rfl⟩
  replace hP : va_P D vwCl (WM bd cI th c hid g code ans dbt many row heap our the wr) H := by rw [eH]; exact hP
  replace hS : va_S A s.heap H locs := by rw [eH, eL]; exact hS
  rw [show W p l e _ s m _ below meth c9 s.heap [] = W p l e _ s m _ below meth c9 H locs from by rw [eH, eL]]
  clear eH eL
  refine lv_aload_n hx hb dX2_no_0 rfl (lv_at hl 0 rfl) ?_
  refine lv_iload_n hx hb dX2_no_1 rfl (lv_at hl 1 rfl) ?_
  refine va_put (D := D) (ci := 2) (v := .int (nI (n))) (ty := .int) (C := RX2) (T := TX2) (N := 12) hx hb hts hinX2 tyX2 tyX2_ok nmX2 hown hK hP hD hS 0 rfl rfl 0 (by decide) lk38 (fun _ h9 => h9) rfl (by decide +kernel) rfl rfl (Nat.le_of_ble_eq_true rfl) dX2_no_2 (fun H locs hP hD hS => ?_)
  replace hP : va_P D vwCl (WM bd cI n c hid g code ans dbt many row heap our the wr) H := hP
  replace hD : va_D A (WM bd cI n c hid g code ans dbt many row heap our the wr) := hD
  refine lv_iconst (v := nI (0)) hx hb dX2_no_5 (by decide) ?_
  exact W.iret (v := nI (0)) hx hb hr (fun t ht hW => ⟨⟨_, (), rfl, (by
      exact ⟨rfl, trivial⟩), ⟨by rw [ht]; exact hP, hD⟩⟩, hS.F ht⟩) hS.2.2 dX2_no_6

set_option maxHeartbeats 4000000 in
set_option maxRecDepth 100000 in
theorem c_X2_isIn (l : Launch) (D : va_G) (cI cZ cG cJ : ClassId) (A : Nat → Prop) (w : va_W) (v : Int32) (lo : Int32) (hi : Int32)  : Met l yX2_isIn wsX2_isIn ({ frames := 0, cells := 0, slots := 0, locals := 0 }) (va_Pc [.int (v), .int (lo), .int (hi)] (Iv D (TY cI cZ cG cJ) A (w))) (vp_Si (fun r => r = bI (inC v lo hi))) 0 0 (fun _ => False) := by
  refine Met.ofW (cc := cX2_isIn) (maxL := 3) (ret := (some .boolean)) (by decide) rfl ?_
  intro p e s m args below meth c9 s₁ B hml hv
  obtain ⟨rfl, hP, hD, hB⟩ := hv
  have hK := hB.1
  have hA := hB.2.1
  have hx := B.exec
  have hb := B.bytes
  have hr := B.returns
  have hts := atoms_spec (ws := wsX2_isIn) B.pre
  have hown : s.vm.findClass RX2 = some m.cls := findClass_of_methodNamed B.named
  have hlocks := B.notSynchronized
  have hS : va_S A s.heap s.heap [] := va_S.rf
  have hl := lv_entry ([.int (v), .int (lo), .int (hi)]) (n := 3) (Nat.le_of_ble_eq_true rfl)
  rw [lg_entry_eq]
  generalize (lg_sl ([.int (v), .int (lo), .int (hi)]) ++ List.replicate (3 - (lg_sl ([.int (v), .int (lo), .int (hi)])).length) Slot.unset).toArray = ls at hl ⊢
  have hl : lv_has ls 3 [(0, .int (v)), (1, .int (lo)), (2, .int (hi))] := hl
  refine lv_iload_n hx hb dX2_isIn_0 rfl (lv_at hl 0 rfl) ?_
  refine lv_iload_n hx hb dX2_isIn_1 rfl (lv_at hl 1 rfl) ?_
  refine lv_icmp_lt (tgt := 14) hx hb dX2_isIn_2 (by decide) (fun c2 => ?_) (fun c2 => ?_)
  · skip
    refine lv_iconst (v := bI (false)) hx hb dX2_isIn_14 (by decide) ?_
    exact W.zret (v := bI (false)) hx hb hr (bI_narrow _) (fun t ht hW => ⟨_, rfl, (by
        first | rw [inC_f1 c2] | rw [inC_f2 c7] | rw [inC_t c2 c7]), ht⟩) (fun _ h => nomatch h) dX2_isIn_15
  · skip
    refine lv_iload_n hx hb dX2_isIn_5 rfl (lv_at hl 0 rfl) ?_
    refine lv_iload_n hx hb dX2_isIn_6 rfl (lv_at hl 2 rfl) ?_
    refine lv_icmp_gt (tgt := 14) hx hb dX2_isIn_7 (by decide) (fun c7 => ?_) (fun c7 => ?_)
    · skip
      refine lv_iconst (v := bI (false)) hx hb dX2_isIn_14 (by decide) ?_
      exact W.zret (v := bI (false)) hx hb hr (bI_narrow _) (fun t ht hW => ⟨_, rfl, (by
          first | rw [inC_f1 c2] | rw [inC_f2 c7] | rw [inC_t c2 c7]), ht⟩) (fun _ h => nomatch h) dX2_isIn_15
    · skip
      refine lv_iconst (v := bI (true)) hx hb dX2_isIn_10 (by decide) ?_
      refine lv_goto (tgt := 15) hx hb dX2_isIn_11 (by decide) ?_
      exact W.zret (v := bI (true)) hx hb hr (bI_narrow _) (fun t ht hW => ⟨_, rfl, (by
          first | rw [inC_f1 c2] | rw [inC_f2 c7] | rw [inC_t c2 c7]), ht⟩) (fun _ h => nomatch h) dX2_isIn_15

set_option maxHeartbeats 4000000 in
set_option maxRecDepth 100000 in
theorem c_X2_codes (l : Launch) (D : va_G) (cI cZ cG cJ : ClassId) (A : Nat → Prop) (bd : Nat → Nat) (wr : va_W) (th : Nat) (c : Nat) (hid : Int32) (g : Nat) (code : Nat → Nat) (ans : Nat → Nat) (dbt : Nat → Bool) (many : Nat) (row : Nat → Nat) (heap : Nat → Nat) (our : Nat → Nat) (the : Nat → Nat)  : Met l yX2_codes wsX2_codes ({ frames := 0, cells := 0, slots := 0, locals := 0 }) (va_Pc [.ref (bd 0)] (Iv D (TY cI cZ cG cJ) A (WM bd cI th c hid g code ans dbt many row heap our the wr))) (vp_Si (fun r => r = nI (qq c))) 0 0 (fun _ => False) := by
  refine Met.ofW (cc := cX2_codes) (maxL := 1) (ret := (some .int)) (by decide) rfl ?_
  intro p e s m args below meth c9 s₁ B hml hv
  obtain ⟨rfl, hP, hD, hB⟩ := hv
  have hK := hB.1
  have hA := hB.2.1
  have hx := B.exec
  have hb := B.bytes
  have hr := B.returns
  have hts := atoms_spec (ws := wsX2_codes) B.pre
  have hown : s.vm.findClass RX2 = some m.cls := findClass_of_methodNamed B.named
  have hlocks := B.notSynchronized
  have hS : va_S A s.heap s.heap [] := va_S.rf
  have hinX2 : ∀ w ∈ wsX20, w ∈ wsX2_codes := by decide +kernel
  have lk9 := hts (.fieldLink RX2 9 "HiddenCandlesModel" "colours" "I") (by decide +kernel)
  have hl := lv_entry ([.ref (bd 0)]) (n := 1) (Nat.le_of_ble_eq_true rfl)
  rw [lg_entry_eq]
  generalize (lg_sl ([.ref (bd 0)]) ++ List.replicate (1 - (lg_sl ([.ref (bd 0)])).length) Slot.unset).toArray = ls at hl ⊢
  have hl : lv_has ls 1 [(0, .ref (bd 0))] := hl
  refine lv_aload_n hx hb dX2_codes_0 rfl (lv_at hl 0 rfl) ?_
  refine va_get (D := D) (ci := 2) (v := .int (nI (c))) (C := RX2) (T := TX2) (N := 12) hx hb hts hinX2 hown hK hP 0 rfl rfl 1 (by decide) lk9 (fun _ h9 => h9) rfl dX2_codes_1 ?_
  refine lv_aload_n hx hb dX2_codes_4 rfl (lv_at hl 0 rfl) ?_
  refine va_get (D := D) (ci := 2) (v := .int (nI (c))) (C := RX2) (T := TX2) (N := 12) hx hb hts hinX2 hown hK hP 0 rfl rfl 1 (by decide) lk9 (fun _ h9 => h9) rfl dX2_codes_5 ?_
  refine lv_imul hx hb dX2_codes_8 ?_
  refine x_ti (pk_mul _ _) ?_
  refine lv_aload_n hx hb dX2_codes_9 rfl (lv_at hl 0 rfl) ?_
  refine va_get (D := D) (ci := 2) (v := .int (nI (c))) (C := RX2) (T := TX2) (N := 12) hx hb hts hinX2 hown hK hP 0 rfl rfl 1 (by decide) lk9 (fun _ h9 => h9) rfl dX2_codes_10 ?_
  refine lv_imul hx hb dX2_codes_13 ?_
  refine x_ti (pk_mul _ _) ?_
  refine lv_aload_n hx hb dX2_codes_14 rfl (lv_at hl 0 rfl) ?_
  refine va_get (D := D) (ci := 2) (v := .int (nI (c))) (C := RX2) (T := TX2) (N := 12) hx hb hts hinX2 hown hK hP 0 rfl rfl 1 (by decide) lk9 (fun _ h9 => h9) rfl dX2_codes_15 ?_
  refine lv_imul hx hb dX2_codes_18 ?_
  refine x_ti (pk_mul _ _) ?_
  exact W.iret (v := nI (((c * c) * c) * c)) hx hb hr (fun t ht hW => ⟨_, rfl, (by
      rfl), ht⟩) (fun _ h => nomatch h) dX2_codes_19

set_option maxHeartbeats 4000000 in
set_option maxRecDepth 100000 in
theorem c_X2_isCode (l : Launch) (D : va_G) (cI cZ cG cJ : ClassId) (A : Nat → Prop) (bd : Nat → Nat) (wr : va_W) (th : Nat) (c : Nat) (hid : Int32) (g : Nat) (code : Nat → Nat) (ans : Nat → Nat) (dbt : Nat → Bool) (many : Nat) (row : Nat → Nat) (heap : Nat → Nat) (our : Nat → Nat) (the : Nat → Nat) (v : Int32) (hc : c = 2 ∨ c = 3) : Met l yX2_isCode wsX2_isCode ({ frames := 1, cells := 0, slots := 0, locals := 22 }) (va_Pc [.ref (bd 0), .int (v)] (Iv D (TY cI cZ cG cJ) A (WM bd cI th c hid g code ans dbt many row heap our the wr))) (vp_Si (fun r => r = bI (hasC c v))) 0 0 (fun _ => False) := by
  refine Met.ofW (cc := cX2_isCode) (maxL := 2) (ret := (some .boolean)) (by decide) rfl ?_
  intro p e s m args below meth c9 s₁ B hml hv
  obtain ⟨rfl, hP, hD, hB⟩ := hv
  have hK := hB.1
  have hA := hB.2.1
  have hx := B.exec
  have hb := B.bytes
  have hr := B.returns
  have hts := atoms_spec (ws := wsX2_isCode) B.pre
  have hown : s.vm.findClass RX2 = some m.cls := findClass_of_methodNamed B.named
  have hlocks := B.notSynchronized
  have hS : va_S A s.heap s.heap [] := va_S.rf
  have hl := lv_entry ([.ref (bd 0), .int (v)]) (n := 2) (Nat.le_of_ble_eq_true rfl)
  rw [lg_entry_eq]
  generalize (lg_sl ([.ref (bd 0), .int (v)]) ++ List.replicate (2 - (lg_sl ([.ref (bd 0), .int (v)])).length) Slot.unset).toArray = ls at hl ⊢
  have hl : lv_has ls 2 [(0, .ref (bd 0)), (1, .int (v))] := hl
  have hq := qq_in hc
  refine lv_iload_n hx hb dX2_isCode_0 rfl (lv_at hl 1 rfl) ?_
  refine lv_iconst (v := nI (0)) hx hb dX2_isCode_1 (by decide) ?_
  refine lv_aload_n hx hb dX2_isCode_2 rfl (lv_at hl 0 rfl) ?_
  refine x_csi (va_runV (As := []) (rest := [.int (nI (0)), .int (v)]) ⟨hx, hb, hml, hown, hts⟩ (c_X2_codes l D cI cZ cG cJ A bd wr th c hid g code ans dbt many row heap our the ) (cwV 0 hts gX2_isCode_X2_codes rfl rfl rfl (by decide +kernel) ⟨Nat.le_of_ble_eq_true rfl, Nat.le_of_ble_eq_true rfl⟩) (preV (ci := 2) (q0 := 0) hB va_S.rf hP hD rfl rfl) rfl rfl hl.1 rfl (lv_room (Nat.le_of_ble_eq_true rfl)) dX2_isCode_3 ⟨Nat.le_of_ble_eq_true rfl, Nat.le_of_ble_eq_true rfl⟩) ?_
  refine lv_iconst (v := nI (1)) hx hb dX2_isCode_6 (by decide) ?_
  refine lv_isub hx hb dX2_isCode_7 ?_
  refine x_ti (pk_sub (by omega)) ?_
  refine x_csi (va_runS (As := [.int (v), .int (nI (0)), .int (nI ((qq c) - 1))]) (rest := []) ⟨hx, hb, hml, hown, hts⟩ (c_X2_isIn l D cI cZ cG cJ A (WM bd cI th c hid g code ans dbt many row heap our the wr) v (nI (0)) (nI ((qq c) - 1)) ) (va_cwS 3 hts gX2_isCode_X2_isIn rfl rfl rfl (by decide +kernel) ⟨Nat.le_of_ble_eq_true rfl, Nat.le_of_ble_eq_true rfl⟩) (preS hB va_S.rf hP hD) rfl rfl hl.1 rfl (lv_room (Nat.le_of_ble_eq_true rfl)) dX2_isCode_8 ⟨Nat.le_of_ble_eq_true rfl, Nat.le_of_ble_eq_true rfl⟩) ?_
  refine x_ti (y := bI (hasC c v)) (by rw [in_rg (n := qq c) (by omega) (by omega)]; rfl) ?_
  exact W.zret (v := bI (hasC c v)) hx hb hr (bI_narrow _) (fun t ht hW => ⟨_, rfl, (by
      rfl), ht⟩) (fun _ h => nomatch h) dX2_isCode_11

set_option maxHeartbeats 4000000 in
set_option maxRecDepth 100000 in
theorem c_X2_isGuess (l : Launch) (D : va_G) (cI cZ cG cJ : ClassId) (A : Nat → Prop) (bd : Nat → Nat) (wr : va_W) (th : Nat) (c : Nat) (hid : Int32) (g : Nat) (code : Nat → Nat) (ans : Nat → Nat) (dbt : Nat → Bool) (many : Nat) (row : Nat → Nat) (heap : Nat → Nat) (our : Nat → Nat) (the : Nat → Nat) (v : Int32) (hg : g ≤ 12) : Met l yX2_isGuess wsX2_isGuess ({ frames := 1, cells := 0, slots := 0, locals := 22 }) (va_Pc [.ref (bd 0), .int (v)] (Iv D (TY cI cZ cG cJ) A (WM bd cI th c hid g code ans dbt many row heap our the wr))) (vp_Si (fun r => r = bI (gsC g v))) 0 0 (fun _ => False) := by
  refine Met.ofW (cc := cX2_isGuess) (maxL := 2) (ret := (some .boolean)) (by decide) rfl ?_
  intro p e s m args below meth c9 s₁ B hml hv
  obtain ⟨rfl, hP, hD, hB⟩ := hv
  have hK := hB.1
  have hA := hB.2.1
  have hx := B.exec
  have hb := B.bytes
  have hr := B.returns
  have hts := atoms_spec (ws := wsX2_isGuess) B.pre
  have hown : s.vm.findClass RX2 = some m.cls := findClass_of_methodNamed B.named
  have hlocks := B.notSynchronized
  have hS : va_S A s.heap s.heap [] := va_S.rf
  have hinX2 : ∀ w ∈ wsX20, w ∈ wsX2_isGuess := by decide +kernel
  have lk49 := hts (.fieldLink RX2 49 "HiddenCandlesModel" "guesses" "I") (by decide +kernel)
  have hl := lv_entry ([.ref (bd 0), .int (v)]) (n := 2) (Nat.le_of_ble_eq_true rfl)
  rw [lg_entry_eq]
  generalize (lg_sl ([.ref (bd 0), .int (v)]) ++ List.replicate (2 - (lg_sl ([.ref (bd 0), .int (v)])).length) Slot.unset).toArray = ls at hl ⊢
  have hl : lv_has ls 2 [(0, .ref (bd 0)), (1, .int (v))] := hl
  refine lv_iload_n hx hb dX2_isGuess_0 rfl (lv_at hl 1 rfl) ?_
  refine lv_iconst (v := nI (0)) hx hb dX2_isGuess_1 (by decide) ?_
  refine lv_aload_n hx hb dX2_isGuess_2 rfl (lv_at hl 0 rfl) ?_
  refine va_get (D := D) (ci := 2) (v := .int (nI (g))) (C := RX2) (T := TX2) (N := 12) hx hb hts hinX2 hown hK hP 0 rfl rfl 3 (by decide) lk49 (fun _ h9 => h9) rfl dX2_isGuess_3 ?_
  refine lv_iconst (v := 1) hx hb dX2_isGuess_6 (by decide) ?_
  refine lv_isub hx hb dX2_isGuess_7  ?_
  refine x_ti (y := nI g - 1) (rfl) ?_
  refine x_csi (va_runS (As := [.int (v), .int (nI (0)), .int (nI g - 1)]) (rest := []) ⟨hx, hb, hml, hown, hts⟩ (c_X2_isIn l D cI cZ cG cJ A (WM bd cI th c hid g code ans dbt many row heap our the wr) v (nI (0)) (nI g - 1) ) (va_cwS 3 hts gX2_isGuess_X2_isIn rfl rfl rfl (by decide +kernel) ⟨Nat.le_of_ble_eq_true rfl, Nat.le_of_ble_eq_true rfl⟩) (preS hB va_S.rf hP hD) rfl rfl hl.1 rfl (lv_room (Nat.le_of_ble_eq_true rfl)) dX2_isGuess_8 ⟨Nat.le_of_ble_eq_true rfl, Nat.le_of_ble_eq_true rfl⟩) ?_
  refine x_ti (y := bI (gsC g v)) (by rw [in_gs (by omega)]) ?_
  exact W.zret (v := bI (gsC g v)) hx hb hr (bI_narrow _) (fun t ht hW => ⟨_, rfl, (by
      rfl), ht⟩) (fun _ h => nomatch h) dX2_isGuess_11

set_option maxHeartbeats 4000000 in
set_option maxRecDepth 100000 in
theorem c_X2_isPlace (l : Launch) (D : va_G) (cI cZ cG cJ : ClassId) (A : Nat → Prop) (w : va_W) (v : Int32)  : Met l yX2_isPlace wsX2_isPlace ({ frames := 1, cells := 0, slots := 0, locals := 22 }) (va_Pc [.int (v)] (Iv D (TY cI cZ cG cJ) A (w))) (vp_Si (fun r => r = bI (plC v))) 0 0 (fun _ => False) := by
  refine Met.ofW (cc := cX2_isPlace) (maxL := 1) (ret := (some .boolean)) (by decide) rfl ?_
  intro p e s m args below meth c9 s₁ B hml hv
  obtain ⟨rfl, hP, hD, hB⟩ := hv
  have hK := hB.1
  have hA := hB.2.1
  have hx := B.exec
  have hb := B.bytes
  have hr := B.returns
  have hts := atoms_spec (ws := wsX2_isPlace) B.pre
  have hown : s.vm.findClass RX2 = some m.cls := findClass_of_methodNamed B.named
  have hlocks := B.notSynchronized
  have hS : va_S A s.heap s.heap [] := va_S.rf
  have hl := lv_entry ([.int (v)]) (n := 1) (Nat.le_of_ble_eq_true rfl)
  rw [lg_entry_eq]
  generalize (lg_sl ([.int (v)]) ++ List.replicate (1 - (lg_sl ([.int (v)])).length) Slot.unset).toArray = ls at hl ⊢
  have hl : lv_has ls 1 [(0, .int (v))] := hl
  refine lv_iload_n hx hb dX2_isPlace_0 rfl (lv_at hl 0 rfl) ?_
  refine lv_iconst (v := nI (0)) hx hb dX2_isPlace_1 (by decide) ?_
  refine lv_iconst (v := nI (3)) hx hb dX2_isPlace_2 (by decide) ?_
  refine x_csi (va_runS (As := [.int (v), .int (nI (0)), .int (nI (3))]) (rest := []) ⟨hx, hb, hml, hown, hts⟩ (c_X2_isIn l D cI cZ cG cJ A w v (nI (0)) (nI (3)) ) (va_cwS 3 hts gX2_isPlace_X2_isIn rfl rfl rfl (by decide +kernel) ⟨Nat.le_of_ble_eq_true rfl, Nat.le_of_ble_eq_true rfl⟩) (preS hB va_S.rf hP hD) rfl rfl hl.1 rfl (lv_room (Nat.le_of_ble_eq_true rfl)) dX2_isPlace_3 ⟨Nat.le_of_ble_eq_true rfl, Nat.le_of_ble_eq_true rfl⟩) ?_
  refine x_ti (y := bI (plC v)) (by rw [in_rg (n := 4) (by omega) (by omega)]) ?_
  exact W.zret (v := bI (plC v)) hx hb hr (bI_narrow _) (fun t ht hW => ⟨_, rfl, (by
      rfl), ht⟩) (fun _ h => nomatch h) dX2_isPlace_6

set_option maxHeartbeats 4000000 in
set_option maxRecDepth 100000 in
theorem c_X2_weight (l : Launch) (D : va_G) (cI cZ cG cJ : ClassId) (A : Nat → Prop) (bd : Nat → Nat) (wr : va_W) (th : Nat) (c : Nat) (hid : Int32) (g : Nat) (code : Nat → Nat) (ans : Nat → Nat) (dbt : Nat → Bool) (many : Nat) (row : Nat → Nat) (heap : Nat → Nat) (our : Nat → Nat) (the : Nat → Nat) (p0 : Nat) (hc : c = 2 ∨ c = 3) (hp : p0 < 4) : Met l yX2_weight wsX2_weight ({ frames := 0, cells := 0, slots := 0, locals := 0 }) (va_Pc [.ref (bd 0), .int (nI (p0))] (Iv D (TY cI cZ cG cJ) A (WM bd cI th c hid g code ans dbt many row heap our the wr))) (vp_Si (fun r => r = nI (c ^ (3 - p0)))) 0 0 (fun _ => False) := by
  refine Met.ofW (cc := cX2_weight) (maxL := 4) (ret := (some .int)) (by decide) rfl ?_
  intro p e s m args below meth c9 s₁ B hml hv
  obtain ⟨rfl, hP, hD, hB⟩ := hv
  have hK := hB.1
  have hA := hB.2.1
  have hx := B.exec
  have hb := B.bytes
  have hr := B.returns
  have hts := atoms_spec (ws := wsX2_weight) B.pre
  have hown : s.vm.findClass RX2 = some m.cls := findClass_of_methodNamed B.named
  have hlocks := B.notSynchronized
  have hS : va_S A s.heap s.heap [] := va_S.rf
  have hinX2 : ∀ w ∈ wsX20, w ∈ wsX2_weight := by decide +kernel
  have lk9 := hts (.fieldLink RX2 9 "HiddenCandlesModel" "colours" "I") (by decide +kernel)
  have hl := lv_entry ([.ref (bd 0), .int (nI (p0))]) (n := 4) (Nat.le_of_ble_eq_true rfl)
  rw [lg_entry_eq]
  generalize (lg_sl ([.ref (bd 0), .int (nI (p0))]) ++ List.replicate (4 - (lg_sl ([.ref (bd 0), .int (nI (p0))])).length) Slot.unset).toArray = ls at hl ⊢
  have hl : lv_has ls 4 [(0, .ref (bd 0)), (1, .int (nI (p0)))] := hl
  have hq := qq_in hc
  refine lv_iconst (v := nI (1)) hx hb dX2_weight_0 (by decide) ?_
  refine lv_istore_n (lv' := [(2, .int (nI (1))), (0, .ref (bd 0)), (1, .int (nI (p0)))]) hx hb dX2_weight_1 rfl hl (by decide) rfl (fun ls hl => ?_)
  refine lv_iload_n hx hb dX2_weight_2 rfl (lv_at hl 2 rfl) ?_
  refine lv_iconst (v := nI (1)) hx hb dX2_weight_3 (by decide) ?_
  refine lv_iadd hx hb dX2_weight_4 ?_
  refine x_ti (nI_add _ _) ?_
  refine lv_istore_n (lv' := [(3, .int (nI (p0 + 1))), (2, .int (nI (1))), (0, .ref (bd 0)), (1, .int (nI (p0)))]) hx hb dX2_weight_5 rfl hl (by decide) rfl (fun ls hl => ?_)
  -- loop at 6
  have hinv : (p0 + 1) ≤ 4 ∧ p0 + 1 ≤ (p0 + 1) ∧ 1 = c ^ ((p0 + 1) - p0 - 1) := by
    exact ⟨by omega, Nat.le_refl _, by rw [show p0 + 1 - p0 - 1 = 0 by omega]; rfl⟩
  obtain ⟨i, r, hq9⟩ : ∃ (i : Nat) (r : Nat), lv_has ls 4 [(0, .ref (bd 0)), (1, .int (nI (p0))), (2, .int (nI (r))), (3, .int (nI (i)))] ∧ (i ≤ 4 ∧ p0 + 1 ≤ i ∧ r = c ^ (i - p0 - 1)) := ⟨(p0 + 1), 1, lv_sub hl [2, 3, 1, 0] rfl, hinv⟩
  clear hl hinv
  obtain ⟨hl, hinv⟩ := hq9
  obtain ⟨n9_6, hn9⟩ : ∃ q : Nat, 4 - i < q := ⟨_, Nat.lt_succ_self _⟩
  induction n9_6 generalizing ls i r with
  | zero => exact absurd hn9 (Nat.not_lt_zero _)
  | succ n9_6 ih6 =>
    obtain ⟨h1, h2, h3⟩ := hinv
    refine lv_iload_n hx hb dX2_weight_6 rfl (lv_at hl 3 rfl) ?_
    refine lv_iconst (v := nI (4)) hx hb dX2_weight_7 (by decide) ?_
    refine x_ge (tgt := 24) hx hb dX2_weight_8 (by decide) (by omega) (by omega) (fun c8 => ?_) (fun c8 => ?_)
    · skip
      refine lv_iload_n hx hb dX2_weight_24 rfl (lv_at hl 2 rfl) ?_
      exact W.iret (v := nI (r)) hx hb hr (fun t ht hW => ⟨_, rfl, (by
          rw [h3]; congr 2; omega), ht⟩) (fun _ h => nomatch h) dX2_weight_25
    · skip
      refine lv_iload_n hx hb dX2_weight_11 rfl (lv_at hl 2 rfl) ?_
      refine lv_aload_n hx hb dX2_weight_12 rfl (lv_at hl 0 rfl) ?_
      refine va_get (D := D) (ci := 2) (v := .int (nI (c))) (C := RX2) (T := TX2) (N := 12) hx hb hts hinX2 hown hK hP 0 rfl rfl 1 (by decide) lk9 (fun _ h9 => h9) rfl dX2_weight_13 ?_
      refine lv_imul hx hb dX2_weight_16 ?_
      refine x_ti (pk_mul _ _) ?_
      refine lv_istore_n (lv' := [(2, .int (nI (r * c))), (0, .ref (bd 0)), (1, .int (nI (p0))), (3, .int (nI (i)))]) hx hb dX2_weight_17 rfl hl (by decide) rfl (fun ls hl => ?_)
      refine lv_iinc (v := nI (i + 1)) (lv' := [(3, .int (nI (i + 1))), (2, .int (nI (r * c))), (0, .ref (bd 0)), (1, .int (nI (p0)))]) hx hb dX2_weight_18 hl (k := 3) rfl (nI_add _ _) (by decide) rfl (fun ls hl => ?_)
      refine lv_goto (tgt := 6) hx hb dX2_weight_21 (by decide) ?_
      exact ih6 (i := i + 1) (r := r * c) (ls := ls) (hl := lv_sub hl [2, 3, 1, 0] rfl) (hinv := by
          exact ⟨by omega, by omega, by rw [h3, ← Nat.pow_succ]; congr 1; omega⟩
        ) (hn9 := by
          omega
        )

set_option maxHeartbeats 4000000 in
set_option maxRecDepth 100000 in
theorem c_X2_at (l : Launch) (D : va_G) (cI cZ cG cJ : ClassId) (A : Nat → Prop) (bd : Nat → Nat) (wr : va_W) (th : Nat) (c : Nat) (hid : Int32) (g : Nat) (code : Nat → Nat) (ans : Nat → Nat) (dbt : Nat → Bool) (many : Nat) (row : Nat → Nat) (heap : Nat → Nat) (our : Nat → Nat) (the : Nat → Nat) (k : Nat) (p0 : Nat) (hc : c = 2 ∨ c = 3) (hk : k < qq c) (hp : p0 < 4) : Met l yX2_at wsX2_at ({ frames := 1, cells := 0, slots := 0, locals := 23 }) (va_Pc [.ref (bd 0), .int (nI (k)), .int (nI (p0))] (Iv D (TY cI cZ cG cJ) A (WM bd cI th c hid g code ans dbt many row heap our the wr))) (vp_Si (fun r => r = nI (col c k p0))) 0 0 (fun _ => False) := by
  refine Met.ofW (cc := cX2_at) (maxL := 3) (ret := (some .int)) (by decide) rfl ?_
  intro p e s m args below meth c9 s₁ B hml hv
  obtain ⟨rfl, hP, hD, hB⟩ := hv
  have hK := hB.1
  have hA := hB.2.1
  have hx := B.exec
  have hb := B.bytes
  have hr := B.returns
  have hts := atoms_spec (ws := wsX2_at) B.pre
  have hown : s.vm.findClass RX2 = some m.cls := findClass_of_methodNamed B.named
  have hlocks := B.notSynchronized
  have hS : va_S A s.heap s.heap [] := va_S.rf
  have hinX2 : ∀ w ∈ wsX20, w ∈ wsX2_at := by decide +kernel
  have lk9 := hts (.fieldLink RX2 9 "HiddenCandlesModel" "colours" "I") (by decide +kernel)
  have hl := lv_entry ([.ref (bd 0), .int (nI (k)), .int (nI (p0))]) (n := 3) (Nat.le_of_ble_eq_true rfl)
  rw [lg_entry_eq]
  generalize (lg_sl ([.ref (bd 0), .int (nI (k)), .int (nI (p0))]) ++ List.replicate (3 - (lg_sl ([.ref (bd 0), .int (nI (k)), .int (nI (p0))])).length) Slot.unset).toArray = ls at hl ⊢
  have hl : lv_has ls 3 [(0, .ref (bd 0)), (1, .int (nI (k))), (2, .int (nI (p0)))] := hl
  have hq := qq_in hc
  refine lv_iload_n hx hb dX2_at_0 rfl (lv_at hl 1 rfl) ?_
  refine lv_aload_n hx hb dX2_at_1 rfl (lv_at hl 0 rfl) ?_
  refine lv_iload_n hx hb dX2_at_2 rfl (lv_at hl 2 rfl) ?_
  refine x_csi (va_runV (As := [.int (nI (p0))]) (rest := [.int (nI (k))]) ⟨hx, hb, hml, hown, hts⟩ (c_X2_weight l D cI cZ cG cJ A bd wr th c hid g code ans dbt many row heap our the p0 (hc) (hp)) (cwV 1 hts gX2_at_X2_weight rfl rfl rfl (by decide +kernel) ⟨Nat.le_of_ble_eq_true rfl, Nat.le_of_ble_eq_true rfl⟩) (preV (ci := 2) (q0 := 0) hB va_S.rf hP hD rfl rfl) rfl rfl hl.1 rfl (lv_room (Nat.le_of_ble_eq_true rfl)) dX2_at_3 ⟨Nat.le_of_ble_eq_true rfl, Nat.le_of_ble_eq_true rfl⟩) ?_
  have hw1 := pw_pos hc p0
  have hw2 := pw_le hc p0
  refine lv_idiv hx hb dX2_at_6 (nI_ne0 (by omega) (by omega)) ?_
  refine x_ti (pk_div (by omega) (by omega) (by omega)) ?_
  refine lv_aload_n hx hb dX2_at_7 rfl (lv_at hl 0 rfl) ?_
  refine va_get (D := D) (ci := 2) (v := .int (nI (c))) (C := RX2) (T := TX2) (N := 12) hx hb hts hinX2 hown hK hP 0 rfl rfl 1 (by decide) lk9 (fun _ h9 => h9) rfl dX2_at_8 ?_
  refine lv_irem hx hb dX2_at_11 (nI_ne0 (by omega) (by omega)) ?_
  refine x_ti (pk_rem (Nat.lt_of_le_of_lt (Nat.div_le_self _ _) (by omega)) (by omega) (by omega)) ?_
  exact W.iret (v := nI ((k / (c ^ (3 - p0))) % c)) hx hb hr (fun t ht hW => ⟨_, rfl, (by
      rfl), ht⟩) (fun _ h => nomatch h) dX2_at_12

set_option maxHeartbeats 4000000 in
set_option maxRecDepth 100000 in
theorem c_X2_answerTo (l : Launch) (D : va_G) (cI cZ cG cJ : ClassId) (A : Nat → Prop) (bd : Nat → Nat) (wr : va_W) (th : Nat) (c : Nat) (hid : Int32) (g : Nat) (code : Nat → Nat) (ans : Nat → Nat) (dbt : Nat → Bool) (many : Nat) (row : Nat → Nat) (heap : Nat → Nat) (our : Nat → Nat) (the : Nat → Nat) (a : Nat) (b : Nat) (hc : c = 2 ∨ c = 3) (ha : a < qq c) (hb9 : b < qq c) : Met l yX2_answerTo wsX2_answerTo ({ frames := 2, cells := 0, slots := 0, locals := 45 }) (va_Pc [.ref (bd 0), .int (nI (a)), .int (nI (b))] (Iv D (TY cI cZ cG cJ) A (WM bd cI th c hid g code ans dbt many row heap our the wr))) (va_Qi (fun r (u : (Nat → Nat) × (Nat → Nat)) => r = nI (pins c a b) ∧ True) (fun u => Wd D A (WM bd cI th c hid g code ans dbt many row heap u.1 u.2 wr)) A) 0 0 A := by
  refine Met.ofW (cc := cX2_answerTo) (maxL := 6) (ret := (some .int)) (by decide) rfl ?_
  intro p e s m args below meth c9 s₁ B hml hv
  obtain ⟨rfl, hP, hD, hB⟩ := hv
  have hK := hB.1
  have hA := hB.2.1
  have hx := B.exec
  have hb := B.bytes
  have hr := B.returns
  have hts := atoms_spec (ws := wsX2_answerTo) B.pre
  have hown : s.vm.findClass RX2 = some m.cls := findClass_of_methodNamed B.named
  have hlocks := B.notSynchronized
  have hS : va_S A s.heap s.heap [] := va_S.rf
  have hinX2 : ∀ w ∈ wsX20, w ∈ wsX2_answerTo := by decide +kernel
  have lk9 := hts (.fieldLink RX2 9 "HiddenCandlesModel" "colours" "I") (by decide +kernel)
  have lk32 := hts (.fieldLink RX2 32 "HiddenCandlesModel" "ours" "[I") (by decide +kernel)
  have lk35 := hts (.fieldLink RX2 35 "HiddenCandlesModel" "theirs" "[I") (by decide +kernel)
  have hl := lv_entry ([.ref (bd 0), .int (nI (a)), .int (nI (b))]) (n := 6) (Nat.le_of_ble_eq_true rfl)
  rw [lg_entry_eq]
  generalize (lg_sl ([.ref (bd 0), .int (nI (a)), .int (nI (b))]) ++ List.replicate (6 - (lg_sl ([.ref (bd 0), .int (nI (a)), .int (nI (b))])).length) Slot.unset).toArray = ls at hl ⊢
  have hl : lv_has ls 6 [(0, .ref (bd 0)), (1, .int (nI (a))), (2, .int (nI (b)))] := hl
  obtain ⟨H, eH⟩ : ∃ q, q = s.heap := ⟨_, rfl⟩
  obtain ⟨locs, eL⟩ : ∃ q : List Loc, q = [] := ⟨_, rfl⟩
  replace hP : va_P D vwCl (WM bd cI th c hid g code ans dbt many row heap our the wr) H := by rw [eH]; exact hP
  replace hS : va_S A s.heap H locs := by rw [eH, eL]; exact hS
  rw [show W p l e _ s m _ below meth c9 s.heap [] = W p l e _ s m _ below meth c9 H locs from by rw [eH, eL]]
  clear eH eL
  have hq := qq_in hc
  refine lv_iconst (v := nI (0)) hx hb dX2_answerTo_0 (by decide) ?_
  refine lv_istore_n (lv' := [(3, .int (nI (0))), (0, .ref (bd 0)), (1, .int (nI (a))), (2, .int (nI (b)))]) hx hb dX2_answerTo_1 rfl hl (by decide) rfl (fun ls hl => ?_)
  refine lv_iconst (v := nI (0)) hx hb dX2_answerTo_2 (by decide) ?_
  refine lv_istore (lv' := [(4, .int (nI (0))), (3, .int (nI (0))), (0, .ref (bd 0)), (1, .int (nI (a))), (2, .int (nI (b)))]) hx hb dX2_answerTo_3 hl (by decide) rfl (fun ls hl => ?_)
  refine lv_iconst (v := nI (0)) hx hb dX2_answerTo_5 (by decide) ?_
  refine lv_istore (lv' := [(5, .int (nI (0))), (4, .int (nI (0))), (3, .int (nI (0))), (0, .ref (bd 0)), (1, .int (nI (a))), (2, .int (nI (b)))]) hx hb dX2_answerTo_6 hl (by decide) rfl (fun ls hl => ?_)
  -- loop at 8
  have hinv : 0 ≤ c ∧ (∀ z, z < 0 → our z = 0) ∧ ∀ z, z < 0 → the z = 0 := by
    exact ⟨Nat.zero_le _, fun z hz => absurd hz (Nat.not_lt_zero _), fun z hz => absurd hz (Nat.not_lt_zero _)⟩
  obtain ⟨i, o1, t1, hq9⟩ : ∃ (i : Nat) (o1 : Nat → Nat) (t1 : Nat → Nat), lv_has ls 6 [(0, .ref (bd 0)), (1, .int (nI (a))), (2, .int (nI (b))), (3, .int (nI (0))), (4, .int (nI (0))), (5, .int (nI (i)))] ∧ (i ≤ c ∧ (∀ z, z < i → o1 z = 0) ∧ ∀ z, z < i → t1 z = 0) ∧ va_P D vwCl (WM bd cI th c hid g code ans dbt many row heap o1 t1 wr) H ∧ va_D A (WM bd cI th c hid g code ans dbt many row heap o1 t1 wr) := ⟨0, our, the, lv_sub hl [3, 4, 5, 2, 1, 0] rfl, hinv, hP, hD⟩
  clear hl hinv hP hD
  obtain ⟨hl, hinv, hP, hD⟩ := hq9
  obtain ⟨n9_8, hn9⟩ : ∃ q : Nat, c - i < q := ⟨_, Nat.lt_succ_self _⟩
  induction n9_8 generalizing ls H locs i o1 t1 with
  | zero => exact absurd hn9 (Nat.not_lt_zero _)
  | succ n9_8 ih8 =>
    obtain ⟨h1, h2, h3⟩ := hinv
    refine lv_iload hx hb dX2_answerTo_8 (lv_at hl 5 rfl) ?_
    refine lv_aload_n hx hb dX2_answerTo_10 rfl (lv_at hl 0 rfl) ?_
    refine va_get (D := D) (ci := 2) (v := .int (nI (c))) (C := RX2) (T := TX2) (N := 12) hx hb hts hinX2 hown hK hP 0 rfl rfl 1 (by decide) lk9 (fun _ h9 => h9) rfl dX2_answerTo_11 ?_
    refine x_ge (tgt := 39) hx hb dX2_answerTo_14 (by decide) (by omega) (by omega) (fun c14 => ?_) (fun c14 => ?_)
    · skip
      refine lv_iconst (v := nI (0)) hx hb dX2_answerTo_39 (by decide) ?_
      refine lv_istore (lv' := [(5, .int (nI (0))), (0, .ref (bd 0)), (1, .int (nI (a))), (2, .int (nI (b))), (3, .int (nI (0))), (4, .int (nI (0)))]) hx hb dX2_answerTo_40 hl (by decide) rfl (fun ls hl => ?_)
      -- loop at 42
      have hinv : 0 ≤ 4 ∧ 0 = cN (fun p => decide (col c a p = col c b p)) 0 ∧ (∀ z, z < c → o1 z = cN (fun p => decide (col c a p = z)) 0) ∧ ∀ z, z < c → t1 z = cN (fun p => decide (col c b p = z)) 0 := by
        have e9 : i = c := by omega
        subst e9
        exact ⟨Nat.zero_le _, rfl, h2, h3⟩
      obtain ⟨j, bl, o2, t2, hq9⟩ : ∃ (j : Nat) (bl : Nat) (o2 : Nat → Nat) (t2 : Nat → Nat), lv_has ls 6 [(0, .ref (bd 0)), (1, .int (nI (a))), (2, .int (nI (b))), (3, .int (nI (bl))), (4, .int (nI (0))), (5, .int (nI (j)))] ∧ (j ≤ 4 ∧ bl = cN (fun p => decide (col c a p = col c b p)) j ∧ (∀ z, z < c → o2 z = cN (fun p => decide (col c a p = z)) j) ∧ ∀ z, z < c → t2 z = cN (fun p => decide (col c b p = z)) j) ∧ va_P D vwCl (WM bd cI th c hid g code ans dbt many row heap o2 t2 wr) H ∧ va_D A (WM bd cI th c hid g code ans dbt many row heap o2 t2 wr) := ⟨0, 0, o1, t1, lv_sub hl [1, 2, 3, 4, 5, 0] rfl, hinv, hP, hD⟩
      clear hl hinv hP hD
      obtain ⟨hl, hinv, hP, hD⟩ := hq9
      obtain ⟨n9_42, hn9⟩ : ∃ q : Nat, 4 - j < q := ⟨_, Nat.lt_succ_self _⟩
      induction n9_42 generalizing ls H locs j bl o2 t2 with
      | zero => exact absurd hn9 (Nat.not_lt_zero _)
      | succ n9_42 ih42 =>
        obtain ⟨k1, k2, k3, k4⟩ := hinv; have hble := cN_le (fun p => decide (col c a p = col c b p)) j
        refine lv_iload hx hb dX2_answerTo_42 (lv_at hl 5 rfl) ?_
        refine lv_iconst (v := nI (4)) hx hb dX2_answerTo_44 (by decide) ?_
        refine x_ge (tgt := 111) hx hb dX2_answerTo_45 (by decide) (by omega) (by omega) (fun c45 => ?_) (fun c45 => ?_)
        · skip
          refine lv_iconst (v := nI (0)) hx hb dX2_answerTo_111 (by decide) ?_
          refine lv_istore (lv' := [(5, .int (nI (0))), (0, .ref (bd 0)), (1, .int (nI (a))), (2, .int (nI (b))), (3, .int (nI (bl))), (4, .int (nI (0)))]) hx hb dX2_answerTo_112 hl (by decide) rfl (fun ls hl => ?_)
          -- loop at 114
          have hinv : 0 ≤ c ∧ 0 = sN (fun z => min (o2 z) (t2 z)) 0 := by
            exact ⟨Nat.zero_le _, rfl⟩
          obtain ⟨x, sm, hq9⟩ : ∃ (x : Nat) (sm : Nat), lv_has ls 6 [(0, .ref (bd 0)), (1, .int (nI (a))), (2, .int (nI (b))), (3, .int (nI (bl))), (4, .int (nI (sm))), (5, .int (nI (x)))] ∧ (x ≤ c ∧ sm = sN (fun z => min (o2 z) (t2 z)) x) ∧ va_P D vwCl (WM bd cI th c hid g code ans dbt many row heap o2 t2 wr) H ∧ va_D A (WM bd cI th c hid g code ans dbt many row heap o2 t2 wr) := ⟨0, 0, lv_sub hl [1, 2, 3, 4, 5, 0] rfl, hinv, hP, hD⟩
          clear hl hinv hP hD
          obtain ⟨hl, hinv, hP, hD⟩ := hq9
          obtain ⟨n9_114, hn9⟩ : ∃ q : Nat, c - x < q := ⟨_, Nat.lt_succ_self _⟩
          induction n9_114 generalizing ls H locs x sm with
          | zero => exact absurd hn9 (Nat.not_lt_zero _)
          | succ n9_114 ih114 =>
            obtain ⟨m1, m2⟩ := hinv; have e9 : j = 4 := by omega
            refine lv_iload hx hb dX2_answerTo_114 (lv_at hl 5 rfl) ?_
            refine lv_aload_n hx hb dX2_answerTo_116 rfl (lv_at hl 0 rfl) ?_
            refine va_get (D := D) (ci := 2) (v := .int (nI (c))) (C := RX2) (T := TX2) (N := 12) hx hb hts hinX2 hown hK hP 0 rfl rfl 1 (by decide) lk9 (fun _ h9 => h9) rfl dX2_answerTo_117 ?_
            refine x_ge (tgt := 151) hx hb dX2_answerTo_120 (by decide) (by omega) (by omega) (fun c120 => ?_) (fun c120 => ?_)
            · skip
              refine lv_iconst (v := nI (5)) hx hb dX2_answerTo_151 (by decide) ?_
              refine lv_iload_n hx hb dX2_answerTo_152 rfl (lv_at hl 3 rfl) ?_
              refine lv_imul hx hb dX2_answerTo_153 ?_
              refine x_ti (pk_mul _ _) ?_
              refine lv_iload hx hb dX2_answerTo_154 (lv_at hl 4 rfl) ?_
              refine lv_iadd hx hb dX2_answerTo_156 ?_
              refine x_ti (nI_add _ _) ?_
              refine lv_iload_n hx hb dX2_answerTo_157 rfl (lv_at hl 3 rfl) ?_
              refine lv_isub hx hb dX2_answerTo_158 ?_
              refine x_ti (pk_sub (by omega)) ?_
              exact W.iret (v := nI (((5 * bl) + sm) - bl)) hx hb hr (fun t ht hW => ⟨⟨_, (o2, t2), rfl, (by
                  have e8 : x = c := by omega
                  subst e8
                  exact ⟨by rw [pins_eq, k2, m2, pinsD_of e9 k3 k4], trivial⟩), ⟨by rw [ht]; exact hP, hD⟩⟩, hS.F ht⟩) hS.2.2 dX2_answerTo_159
            · skip
              refine lv_iload hx hb dX2_answerTo_123 (lv_at hl 4 rfl) ?_
              refine lv_aload_n hx hb dX2_answerTo_125 rfl (lv_at hl 0 rfl) ?_
              refine va_get (D := D) (ci := 2) (v := .ref (bd 6)) (C := RX2) (T := TX2) (N := 12) hx hb hts hinX2 hown hK hP 0 rfl rfl 10 (by decide) lk32 (fun _ h9 => h9) rfl dX2_answerTo_126 ?_
              refine lv_iload hx hb dX2_answerTo_129 (lv_at hl 5 rfl) ?_
              refine x_iald hx hb hK hP 6 0 rfl rfl (i := x) (by omega) (by omega) dX2_answerTo_131 ?_
              refine lv_aload_n hx hb dX2_answerTo_132 rfl (lv_at hl 0 rfl) ?_
              refine va_get (D := D) (ci := 2) (v := .ref (bd 7)) (C := RX2) (T := TX2) (N := 12) hx hb hts hinX2 hown hK hP 0 rfl rfl 11 (by decide) lk35 (fun _ h9 => h9) rfl dX2_answerTo_133 ?_
              refine lv_iload hx hb dX2_answerTo_136 (lv_at hl 5 rfl) ?_
              refine x_iald hx hb hK hP 7 0 rfl rfl (i := x) (by omega) (by omega) dX2_answerTo_138 ?_
              refine va_mmin hx hb (hml.trans hl.1.symm) hown (hts (.methodLink RX2 60 Lib.Math.min.name) (by decide +kernel)) (hts _ (by decide +kernel)) (hts _ (by decide +kernel)) (hts _ (by decide +kernel)) (Nat.le_of_ble_eq_true rfl) (Nat.le_of_ble_eq_true rfl) (Nat.le_of_ble_eq_true rfl) (Nat.le_of_ble_eq_true rfl) dX2_answerTo_139 ?_
              refine x_ti (nI_min (by rw [k3 x (by omega)]; have := cN_le (fun p => decide (col c a p = x)) j; omega) (by rw [k4 x (by omega)]; have := cN_le (fun p => decide (col c b p = x)) j; omega)) ?_
              refine lv_iadd hx hb dX2_answerTo_142 ?_
              refine x_ti (nI_add _ _) ?_
              refine lv_istore (lv' := [(4, .int (nI (sm + (min (o2 x) (t2 x))))), (0, .ref (bd 0)), (1, .int (nI (a))), (2, .int (nI (b))), (3, .int (nI (bl))), (5, .int (nI (x)))]) hx hb dX2_answerTo_143 hl (by decide) rfl (fun ls hl => ?_)
              refine lv_iinc (v := nI (x + 1)) (lv' := [(5, .int (nI (x + 1))), (4, .int (nI (sm + (min (o2 x) (t2 x))))), (0, .ref (bd 0)), (1, .int (nI (a))), (2, .int (nI (b))), (3, .int (nI (bl)))]) hx hb dX2_answerTo_145 hl (k := 5) rfl (nI_add _ _) (by decide) rfl (fun ls hl => ?_)
              refine lv_goto (tgt := 114) hx hb dX2_answerTo_148 (by decide) ?_
              exact ih114 (x := x + 1) (sm := sm + (min (o2 x) (t2 x))) (ls := ls) (hl := lv_sub hl [2, 3, 4, 5, 1, 0] rfl) (H := H) (locs := locs) (hP := hP) (hS := hS) (hinv := by
                  exact ⟨by omega, by rw [m2]; rfl⟩
                ) (hn9 := by
                  omega
                )
        · skip
          refine lv_aload_n hx hb dX2_answerTo_48 rfl (lv_at hl 0 rfl) ?_
          refine va_get (D := D) (ci := 2) (v := .ref (bd 6)) (C := RX2) (T := TX2) (N := 12) hx hb hts hinX2 hown hK hP 0 rfl rfl 10 (by decide) lk32 (fun _ h9 => h9) rfl dX2_answerTo_49 ?_
          refine lv_aload_n hx hb dX2_answerTo_52 rfl (lv_at hl 0 rfl) ?_
          refine lv_iload_n hx hb dX2_answerTo_53 rfl (lv_at hl 1 rfl) ?_
          refine lv_iload hx hb dX2_answerTo_54 (lv_at hl 5 rfl) ?_
          refine x_csi (va_runV (As := [.int (nI (a)), .int (nI (j))]) (rest := [.ref (bd 6)]) ⟨hx, hb, hml, hown, hts⟩ (c_X2_at l D cI cZ cG cJ A bd wr th c hid g code ans dbt many row heap o2 t2 a j (hc) (ha) ((by omega))) (cwV 2 hts gX2_answerTo_X2_at rfl rfl rfl (by decide +kernel) ⟨Nat.le_of_ble_eq_true rfl, Nat.le_of_ble_eq_true rfl⟩) (preV (ci := 2) (q0 := 0) hB hS hP hD rfl rfl) rfl rfl hl.1 rfl (lv_room (Nat.le_of_ble_eq_true rfl)) dX2_answerTo_56 ⟨Nat.le_of_ble_eq_true rfl, Nat.le_of_ble_eq_true rfl⟩) ?_
          have hcl := col_lt hc (a) (j)
          refine lv_dup2_11 hx hb dX2_answerTo_59 rfl rfl ?_
          refine x_iald hx hb hK hP 6 0 rfl rfl (i := col c a j) (by omega) (by omega) dX2_answerTo_60 ?_
          refine lv_iconst (v := nI (1)) hx hb dX2_answerTo_61 (by decide) ?_
          refine lv_iadd hx hb dX2_answerTo_62 ?_
          refine x_ti (nI_add _ _) ?_
          refine x_iast hx hb hK hP hD hS 6 0 rfl rfl (i := col c a j) (v := (o2 (col c a j)) + 1) (by omega) (by omega) dX2_answerTo_63 (fun H locs hP hD hS => ?_)
          replace hP : va_P D vwCl (WM bd cI th c hid g code ans dbt many row heap (va_up o2 (col c a j) ((o2 (col c a j)) + 1)) t2 wr) H := hP
          replace hD : va_D A (WM bd cI th c hid g code ans dbt many row heap (va_up o2 (col c a j) ((o2 (col c a j)) + 1)) t2 wr) := hD
          refine lv_aload_n hx hb dX2_answerTo_64 rfl (lv_at hl 0 rfl) ?_
          refine va_get (D := D) (ci := 2) (v := .ref (bd 7)) (C := RX2) (T := TX2) (N := 12) hx hb hts hinX2 hown hK hP 0 rfl rfl 11 (by decide) lk35 (fun _ h9 => h9) rfl dX2_answerTo_65 ?_
          refine lv_aload_n hx hb dX2_answerTo_68 rfl (lv_at hl 0 rfl) ?_
          refine lv_iload_n hx hb dX2_answerTo_69 rfl (lv_at hl 2 rfl) ?_
          refine lv_iload hx hb dX2_answerTo_70 (lv_at hl 5 rfl) ?_
          refine x_csi (va_runV (As := [.int (nI (b)), .int (nI (j))]) (rest := [.ref (bd 7)]) ⟨hx, hb, hml, hown, hts⟩ (c_X2_at l D cI cZ cG cJ A bd wr th c hid g code ans dbt many row heap (va_up o2 (col c a j) ((o2 (col c a j)) + 1)) t2 b j (hc) (hb9) ((by omega))) (cwV 2 hts gX2_answerTo_X2_at rfl rfl rfl (by decide +kernel) ⟨Nat.le_of_ble_eq_true rfl, Nat.le_of_ble_eq_true rfl⟩) (preV (ci := 2) (q0 := 0) hB hS hP hD rfl rfl) rfl rfl hl.1 rfl (lv_room (Nat.le_of_ble_eq_true rfl)) dX2_answerTo_72 ⟨Nat.le_of_ble_eq_true rfl, Nat.le_of_ble_eq_true rfl⟩) ?_
          have hcl := col_lt hc (b) (j)
          refine lv_dup2_11 hx hb dX2_answerTo_75 rfl rfl ?_
          refine x_iald hx hb hK hP 7 0 rfl rfl (i := col c b j) (by omega) (by omega) dX2_answerTo_76 ?_
          refine lv_iconst (v := nI (1)) hx hb dX2_answerTo_77 (by decide) ?_
          refine lv_iadd hx hb dX2_answerTo_78 ?_
          refine x_ti (nI_add _ _) ?_
          refine x_iast hx hb hK hP hD hS 7 0 rfl rfl (i := col c b j) (v := (t2 (col c b j)) + 1) (by omega) (by omega) dX2_answerTo_79 (fun H locs hP hD hS => ?_)
          replace hP : va_P D vwCl (WM bd cI th c hid g code ans dbt many row heap (va_up o2 (col c a j) ((o2 (col c a j)) + 1)) (va_up t2 (col c b j) ((t2 (col c b j)) + 1)) wr) H := hP
          replace hD : va_D A (WM bd cI th c hid g code ans dbt many row heap (va_up o2 (col c a j) ((o2 (col c a j)) + 1)) (va_up t2 (col c b j) ((t2 (col c b j)) + 1)) wr) := hD
          refine lv_iload_n hx hb dX2_answerTo_80 rfl (lv_at hl 3 rfl) ?_
          refine lv_aload_n hx hb dX2_answerTo_81 rfl (lv_at hl 0 rfl) ?_
          refine lv_iload_n hx hb dX2_answerTo_82 rfl (lv_at hl 1 rfl) ?_
          refine lv_iload hx hb dX2_answerTo_83 (lv_at hl 5 rfl) ?_
          refine x_csi (va_runV (As := [.int (nI (a)), .int (nI (j))]) (rest := [.int (nI (bl))]) ⟨hx, hb, hml, hown, hts⟩ (c_X2_at l D cI cZ cG cJ A bd wr th c hid g code ans dbt many row heap (va_up o2 (col c a j) ((o2 (col c a j)) + 1)) (va_up t2 (col c b j) ((t2 (col c b j)) + 1)) a j (hc) (ha) ((by omega))) (cwV 2 hts gX2_answerTo_X2_at rfl rfl rfl (by decide +kernel) ⟨Nat.le_of_ble_eq_true rfl, Nat.le_of_ble_eq_true rfl⟩) (preV (ci := 2) (q0 := 0) hB hS hP hD rfl rfl) rfl rfl hl.1 rfl (lv_room (Nat.le_of_ble_eq_true rfl)) dX2_answerTo_85 ⟨Nat.le_of_ble_eq_true rfl, Nat.le_of_ble_eq_true rfl⟩) ?_
          have hcl := col_lt hc (a) (j)
          refine lv_aload_n hx hb dX2_answerTo_88 rfl (lv_at hl 0 rfl) ?_
          refine lv_iload_n hx hb dX2_answerTo_89 rfl (lv_at hl 2 rfl) ?_
          refine lv_iload hx hb dX2_answerTo_90 (lv_at hl 5 rfl) ?_
          refine x_csi (va_runV (As := [.int (nI (b)), .int (nI (j))]) (rest := [.int (nI (col c a j)), .int (nI (bl))]) ⟨hx, hb, hml, hown, hts⟩ (c_X2_at l D cI cZ cG cJ A bd wr th c hid g code ans dbt many row heap (va_up o2 (col c a j) ((o2 (col c a j)) + 1)) (va_up t2 (col c b j) ((t2 (col c b j)) + 1)) b j (hc) (hb9) ((by omega))) (cwV 2 hts gX2_answerTo_X2_at rfl rfl rfl (by decide +kernel) ⟨Nat.le_of_ble_eq_true rfl, Nat.le_of_ble_eq_true rfl⟩) (preV (ci := 2) (q0 := 0) hB hS hP hD rfl rfl) rfl rfl hl.1 rfl (lv_room (Nat.le_of_ble_eq_true rfl)) dX2_answerTo_92 ⟨Nat.le_of_ble_eq_true rfl, Nat.le_of_ble_eq_true rfl⟩) ?_
          have hcl := col_lt hc (b) (j)
          refine x_ne (tgt := 102) hx hb dX2_answerTo_95 (by decide) (by omega) (by omega) (fun c95 => ?_) (fun c95 => ?_)
          · skip
            refine lv_iconst (v := nI (0)) hx hb dX2_answerTo_102 (by decide) ?_
            refine lv_iadd hx hb dX2_answerTo_103 ?_
            refine x_ti (nI_add _ _) ?_
            refine lv_istore_n (lv' := [(3, .int (nI (bl + 0))), (0, .ref (bd 0)), (1, .int (nI (a))), (2, .int (nI (b))), (4, .int (nI (0))), (5, .int (nI (j)))]) hx hb dX2_answerTo_104 rfl hl (by decide) rfl (fun ls hl => ?_)
            refine lv_iinc (v := nI (j + 1)) (lv' := [(5, .int (nI (j + 1))), (3, .int (nI (bl + 0))), (0, .ref (bd 0)), (1, .int (nI (a))), (2, .int (nI (b))), (4, .int (nI (0)))]) hx hb dX2_answerTo_105 hl (k := 5) rfl (nI_add _ _) (by decide) rfl (fun ls hl => ?_)
            refine lv_goto (tgt := 42) hx hb dX2_answerTo_108 (by decide) ?_
            exact ih42 (j := j + 1) (bl := bl + 0) (o2 := (va_up o2 (col c a j) ((o2 (col c a j)) + 1))) (t2 := (va_up t2 (col c b j) ((t2 (col c b j)) + 1))) (ls := ls) (hl := lv_sub hl [2, 3, 4, 1, 5, 0] rfl) (H := H) (locs := locs) (hP := hP) (hD := hD) (hS := hS) (hinv := by
                refine ⟨by omega, ?_, cnt_up k3, cnt_up k4⟩
                first | exact (congrArg (· + 1) k2).trans (cN_s (p := fun p => decide (col c a p = col c b p)) (decide_eq_true c95)).symm | exact k2.trans (cN_n (p := fun p => decide (col c a p = col c b p)) (decide_eq_false c95)).symm
              ) (hn9 := by
                omega
              )
          · skip
            refine lv_iconst (v := nI (1)) hx hb dX2_answerTo_98 (by decide) ?_
            refine lv_goto (tgt := 103) hx hb dX2_answerTo_99 (by decide) ?_
            refine lv_iadd hx hb dX2_answerTo_103 ?_
            refine x_ti (nI_add _ _) ?_
            refine lv_istore_n (lv' := [(3, .int (nI (bl + 1))), (0, .ref (bd 0)), (1, .int (nI (a))), (2, .int (nI (b))), (4, .int (nI (0))), (5, .int (nI (j)))]) hx hb dX2_answerTo_104 rfl hl (by decide) rfl (fun ls hl => ?_)
            refine lv_iinc (v := nI (j + 1)) (lv' := [(5, .int (nI (j + 1))), (3, .int (nI (bl + 1))), (0, .ref (bd 0)), (1, .int (nI (a))), (2, .int (nI (b))), (4, .int (nI (0)))]) hx hb dX2_answerTo_105 hl (k := 5) rfl (nI_add _ _) (by decide) rfl (fun ls hl => ?_)
            refine lv_goto (tgt := 42) hx hb dX2_answerTo_108 (by decide) ?_
            exact ih42 (j := j + 1) (bl := bl + 1) (o2 := (va_up o2 (col c a j) ((o2 (col c a j)) + 1))) (t2 := (va_up t2 (col c b j) ((t2 (col c b j)) + 1))) (ls := ls) (hl := lv_sub hl [2, 3, 4, 1, 5, 0] rfl) (H := H) (locs := locs) (hP := hP) (hD := hD) (hS := hS) (hinv := by
                refine ⟨by omega, ?_, cnt_up k3, cnt_up k4⟩
                first | exact (congrArg (· + 1) k2).trans (cN_s (p := fun p => decide (col c a p = col c b p)) (decide_eq_true c95)).symm | exact k2.trans (cN_n (p := fun p => decide (col c a p = col c b p)) (decide_eq_false c95)).symm
              ) (hn9 := by
                omega
              )
    · skip
      refine lv_aload_n hx hb dX2_answerTo_17 rfl (lv_at hl 0 rfl) ?_
      refine va_get (D := D) (ci := 2) (v := .ref (bd 6)) (C := RX2) (T := TX2) (N := 12) hx hb hts hinX2 hown hK hP 0 rfl rfl 10 (by decide) lk32 (fun _ h9 => h9) rfl dX2_answerTo_18 ?_
      refine lv_iload hx hb dX2_answerTo_21 (lv_at hl 5 rfl) ?_
      refine lv_iconst (v := nI (0)) hx hb dX2_answerTo_23 (by decide) ?_
      refine x_iast hx hb hK hP hD hS 6 0 rfl rfl (i := i) (v := 0) (by omega) (by omega) dX2_answerTo_24 (fun H locs hP hD hS => ?_)
      replace hP : va_P D vwCl (WM bd cI th c hid g code ans dbt many row heap (va_up o1 i 0) t1 wr) H := hP
      replace hD : va_D A (WM bd cI th c hid g code ans dbt many row heap (va_up o1 i 0) t1 wr) := hD
      refine lv_aload_n hx hb dX2_answerTo_25 rfl (lv_at hl 0 rfl) ?_
      refine va_get (D := D) (ci := 2) (v := .ref (bd 7)) (C := RX2) (T := TX2) (N := 12) hx hb hts hinX2 hown hK hP 0 rfl rfl 11 (by decide) lk35 (fun _ h9 => h9) rfl dX2_answerTo_26 ?_
      refine lv_iload hx hb dX2_answerTo_29 (lv_at hl 5 rfl) ?_
      refine lv_iconst (v := nI (0)) hx hb dX2_answerTo_31 (by decide) ?_
      refine x_iast hx hb hK hP hD hS 7 0 rfl rfl (i := i) (v := 0) (by omega) (by omega) dX2_answerTo_32 (fun H locs hP hD hS => ?_)
      replace hP : va_P D vwCl (WM bd cI th c hid g code ans dbt many row heap (va_up o1 i 0) (va_up t1 i 0) wr) H := hP
      replace hD : va_D A (WM bd cI th c hid g code ans dbt many row heap (va_up o1 i 0) (va_up t1 i 0) wr) := hD
      refine lv_iinc (v := nI (i + 1)) (lv' := [(5, .int (nI (i + 1))), (0, .ref (bd 0)), (1, .int (nI (a))), (2, .int (nI (b))), (3, .int (nI (0))), (4, .int (nI (0)))]) hx hb dX2_answerTo_33 hl (k := 5) rfl (nI_add _ _) (by decide) rfl (fun ls hl => ?_)
      refine lv_goto (tgt := 8) hx hb dX2_answerTo_36 (by decide) ?_
      exact ih8 (i := i + 1) (o1 := (va_up o1 i 0)) (t1 := (va_up t1 i 0)) (ls := ls) (hl := lv_sub hl [1, 2, 3, 4, 5, 0] rfl) (H := H) (locs := locs) (hP := hP) (hD := hD) (hS := hS) (hinv := by
          exact ⟨by omega, up_le (q := fun _ => 0) h2 rfl, up_le (q := fun _ => 0) h3 rfl⟩
        ) (hn9 := by
          omega
        )

set_option maxHeartbeats 4000000 in
set_option maxRecDepth 100000 in
theorem c_X2_fits (l : Launch) (D : va_G) (cI cZ cG cJ : ClassId) (A : Nat → Prop) (bd : Nat → Nat) (wr : va_W) (th : Nat) (c : Nat) (hid : Int32) (g : Nat) (code : Nat → Nat) (ans : Nat → Nat) (dbt : Nat → Bool) (many : Nat) (row : Nat → Nat) (heap : Nat → Nat) (our : Nat → Nat) (the : Nat → Nat) (k : Nat) (n : Nat) (hc : c = 2 ∨ c = 3) (hk : k < qq c) (hn : n ≤ 12) (hco : CodeOK c n code ans) : Met l yX2_fits wsX2_fits ({ frames := 3, cells := 0, slots := 0, locals := 70 }) (va_Pc [.ref (bd 0), .int (nI (k)), .int (nI (n))] (Iv D (TY cI cZ cG cJ) A (WM bd cI th c hid g code ans dbt many row heap our the wr))) (va_Qi (fun r (u : (Nat → Nat) × (Nat → Nat)) => r = bI (fit c code ans dbt n k) ∧ True) (fun u => Wd D A (WM bd cI th c hid g code ans dbt many row heap u.1 u.2 wr)) A) 0 0 A := by
  refine Met.ofW (cc := cX2_fits) (maxL := 4) (ret := (some .boolean)) (by decide) rfl ?_
  intro p e s m args below meth c9 s₁ B hml hv
  obtain ⟨rfl, hP, hD, hB⟩ := hv
  have hK := hB.1
  have hA := hB.2.1
  have hx := B.exec
  have hb := B.bytes
  have hr := B.returns
  have hts := atoms_spec (ws := wsX2_fits) B.pre
  have hown : s.vm.findClass RX2 = some m.cls := findClass_of_methodNamed B.named
  have hlocks := B.notSynchronized
  have hS : va_S A s.heap s.heap [] := va_S.rf
  have hinX2 : ∀ w ∈ wsX20, w ∈ wsX2_fits := by decide +kernel
  have lk16 := hts (.fieldLink RX2 16 "HiddenCandlesModel" "code" "[I") (by decide +kernel)
  have lk20 := hts (.fieldLink RX2 20 "HiddenCandlesModel" "answer" "[I") (by decide +kernel)
  have lk23 := hts (.fieldLink RX2 23 "HiddenCandlesModel" "doubted" "[I") (by decide +kernel)
  have hl := lv_entry ([.ref (bd 0), .int (nI (k)), .int (nI (n))]) (n := 4) (Nat.le_of_ble_eq_true rfl)
  rw [lg_entry_eq]
  generalize (lg_sl ([.ref (bd 0), .int (nI (k)), .int (nI (n))]) ++ List.replicate (4 - (lg_sl ([.ref (bd 0), .int (nI (k)), .int (nI (n))])).length) Slot.unset).toArray = ls at hl ⊢
  have hl : lv_has ls 4 [(0, .ref (bd 0)), (1, .int (nI (k))), (2, .int (nI (n)))] := hl
  obtain ⟨H, eH⟩ : ∃ q, q = s.heap := ⟨_, rfl⟩
  obtain ⟨locs, eL⟩ : ∃ q : List Loc, q = [] := ⟨_, rfl⟩
  replace hP : va_P D vwCl (WM bd cI th c hid g code ans dbt many row heap our the wr) H := by rw [eH]; exact hP
  replace hS : va_S A s.heap H locs := by rw [eH, eL]; exact hS
  rw [show W p l e _ s m _ below meth c9 s.heap [] = W p l e _ s m _ below meth c9 H locs from by rw [eH, eL]]
  clear eH eL
  have hq := qq_in hc
  refine lv_iconst (v := nI (0)) hx hb dX2_fits_0 (by decide) ?_
  refine lv_istore_n (lv' := [(3, .int (nI (0))), (0, .ref (bd 0)), (1, .int (nI (k))), (2, .int (nI (n)))]) hx hb dX2_fits_1 rfl hl (by decide) rfl (fun ls hl => ?_)
  -- loop at 2
  have hinv : 0 ≤ n ∧ fit c code ans dbt 0 k = true := by
    exact ⟨Nat.zero_le _, rfl⟩
  obtain ⟨i, o1, t1, hq9⟩ : ∃ (i : Nat) (o1 : Nat → Nat) (t1 : Nat → Nat), lv_has ls 4 [(0, .ref (bd 0)), (1, .int (nI (k))), (2, .int (nI (n))), (3, .int (nI (i)))] ∧ (i ≤ n ∧ fit c code ans dbt i k = true) ∧ va_P D vwCl (WM bd cI th c hid g code ans dbt many row heap o1 t1 wr) H ∧ va_D A (WM bd cI th c hid g code ans dbt many row heap o1 t1 wr) := ⟨0, our, the, lv_sub hl [1, 2, 3, 0] rfl, hinv, hP, hD⟩
  clear hl hinv hP hD
  obtain ⟨hl, hinv, hP, hD⟩ := hq9
  obtain ⟨n9_2, hn9⟩ : ∃ q : Nat, n - i < q := ⟨_, Nat.lt_succ_self _⟩
  induction n9_2 generalizing ls H locs i o1 t1 with
  | zero => exact absurd hn9 (Nat.not_lt_zero _)
  | succ n9_2 ih2 =>
    obtain ⟨h1, h2⟩ := hinv
    refine lv_iload_n hx hb dX2_fits_2 rfl (lv_at hl 3 rfl) ?_
    refine lv_iload_n hx hb dX2_fits_3 rfl (lv_at hl 2 rfl) ?_
    refine x_ge (tgt := 44) hx hb dX2_fits_4 (by decide) (by omega) (by omega) (fun c4 => ?_) (fun c4 => ?_)
    · skip
      refine lv_iconst (v := bI (true)) hx hb dX2_fits_44 (by decide) ?_
      exact W.zret (v := bI (true)) hx hb hr (bI_narrow _) (fun t ht hW => ⟨⟨_, (o1, t1), rfl, (by
          have e9 : i = n := by omega
          subst e9
          exact ⟨by rw [h2], trivial⟩), ⟨by rw [ht]; exact hP, hD⟩⟩, hS.F ht⟩) hS.2.2 dX2_fits_45
    · skip
      refine lv_aload_n hx hb dX2_fits_7 rfl (lv_at hl 0 rfl) ?_
      refine va_get (D := D) (ci := 2) (v := .ref (bd 3)) (C := RX2) (T := TX2) (N := 12) hx hb hts hinX2 hown hK hP 0 rfl rfl 6 (by decide) lk23 (fun _ h9 => h9) rfl dX2_fits_8 ?_
      refine lv_iload_n hx hb dX2_fits_11 rfl (lv_at hl 3 rfl) ?_
      refine x_iald hx hb hK hP 3 0 rfl rfl (i := i) (by omega) (by omega) dX2_fits_12 ?_
      refine x_zne (tgt := 38) hx hb dX2_fits_13 (by decide) (fun c13 => ?_) (fun c13 => ?_)
      · skip
        refine lv_iinc (v := nI (i + 1)) (lv' := [(3, .int (nI (i + 1))), (0, .ref (bd 0)), (1, .int (nI (k))), (2, .int (nI (n)))]) hx hb dX2_fits_38 hl (k := 3) rfl (nI_add _ _) (by decide) rfl (fun ls hl => ?_)
        refine lv_goto (tgt := 2) hx hb dX2_fits_41 (by decide) ?_
        exact ih2 (i := i + 1) (o1 := o1) (t1 := t1) (ls := ls) (hl := lv_sub hl [1, 2, 3, 0] rfl) (H := H) (locs := locs) (hP := hP) (hD := hD) (hS := hS) (hinv := by
            refine ⟨by omega, ?_⟩
            first | (simp [fit, h2, c13]; done) | (simp [fit, h2, c33]; done)
          ) (hn9 := by
            omega
          )
      · skip
        refine lv_aload_n hx hb dX2_fits_16 rfl (lv_at hl 0 rfl) ?_
        refine lv_aload_n hx hb dX2_fits_17 rfl (lv_at hl 0 rfl) ?_
        refine va_get (D := D) (ci := 2) (v := .ref (bd 1)) (C := RX2) (T := TX2) (N := 12) hx hb hts hinX2 hown hK hP 0 rfl rfl 4 (by decide) lk16 (fun _ h9 => h9) rfl dX2_fits_18 ?_
        refine lv_iload_n hx hb dX2_fits_21 rfl (lv_at hl 3 rfl) ?_
        refine x_iald hx hb hK hP 1 0 rfl rfl (i := i) (by omega) (by omega) dX2_fits_22 ?_
        refine lv_iload_n hx hb dX2_fits_23 rfl (lv_at hl 1 rfl) ?_
        refine va_calli (va_runV (As := [.int (nI (code i)), .int (nI (k))]) (rest := []) ⟨hx, hb, hml, hown, hts⟩ (c_X2_answerTo l D cI cZ cG cJ A bd wr th c hid g code ans dbt many row heap o1 t1 (code i) k (hc) ((hco i c4).1) (hk)) (cwV 2 hts gX2_fits_X2_answerTo rfl rfl rfl (by decide +kernel) ⟨Nat.le_of_ble_eq_true rfl, Nat.le_of_ble_eq_true rfl⟩) (preV (ci := 2) (q0 := 0) hB hS hP hD rfl rfl) rfl rfl hl.1 rfl (lv_room (Nat.le_of_ble_eq_true rfl)) dX2_fits_24 ⟨Nat.le_of_ble_eq_true rfl, Nat.le_of_ble_eq_true rfl⟩) hS (fun q _ h => h) (fun q h => h) (fun r_24 u_24 t9 H1 locs1 ht9 hvm9 hw_24 hBw hz9 hk9 hS => ?_)
        obtain ⟨hP, hD⟩ := hBw
        rw [ht9] at hP
        generalize H1 = H at hP hS ⊢
        generalize locs1 = locs at hS ⊢
        replace hP : va_P D vwCl (WM bd cI th c hid g code ans dbt many row heap u_24.1 u_24.2 wr) H := hP
        replace hD : va_D A (WM bd cI th c hid g code ans dbt many row heap u_24.1 u_24.2 wr) := hD
        refine x_ti (y := nI (pins c (code i) k)) (hw_24.1) ?_
        have hpi := pins_le hc ((hco i c4).1) (hk)
        refine lv_aload_n hx hb dX2_fits_27 rfl (lv_at hl 0 rfl) ?_
        refine va_get (D := D) (ci := 2) (v := .ref (bd 2)) (C := RX2) (T := TX2) (N := 12) hx hb hts hinX2 hown hK hP 0 rfl rfl 5 (by decide) lk20 (fun _ h9 => h9) rfl dX2_fits_28 ?_
        refine lv_iload_n hx hb dX2_fits_31 rfl (lv_at hl 3 rfl) ?_
        refine x_iald hx hb hK hP 2 0 rfl rfl (i := i) (by omega) (by omega) dX2_fits_32 ?_
        have hai := (hco i c4).2
        refine x_eq (tgt := 38) hx hb dX2_fits_33 (by decide) (by omega) (by omega) (fun c33 => ?_) (fun c33 => ?_)
        · skip
          refine lv_iinc (v := nI (i + 1)) (lv' := [(3, .int (nI (i + 1))), (0, .ref (bd 0)), (1, .int (nI (k))), (2, .int (nI (n)))]) hx hb dX2_fits_38 hl (k := 3) rfl (nI_add _ _) (by decide) rfl (fun ls hl => ?_)
          refine lv_goto (tgt := 2) hx hb dX2_fits_41 (by decide) ?_
          exact ih2 (i := i + 1) (o1 := u_24.1) (t1 := u_24.2) (ls := ls) (hl := lv_sub hl [1, 2, 3, 0] rfl) (H := H) (locs := locs) (hP := hP) (hD := hD) (hS := hS) (hinv := by
              refine ⟨by omega, ?_⟩
              first | (simp [fit, h2, c13]; done) | (simp [fit, h2, c33]; done)
            ) (hn9 := by
              omega
            )
        · skip
          refine lv_iconst (v := bI (false)) hx hb dX2_fits_36 (by decide) ?_
          exact W.zret (v := bI (false)) hx hb hr (bI_narrow _) (fun t ht hW => ⟨⟨_, (u_24.1, u_24.2), rfl, (by
              exact ⟨by rw [fit_false c4 c13 c33], trivial⟩), ⟨by rw [ht]; exact hP, hD⟩⟩, hS.F ht⟩) hS.2.2 dX2_fits_37

set_option maxHeartbeats 4000000 in
set_option maxRecDepth 100000 in
theorem c_X2_look (l : Launch) (D : va_G) (cI cZ cG cJ : ClassId) (A : Nat → Prop) (bd : Nat → Nat) (wr : va_W) (th : Nat) (c : Nat) (hid : Int32) (g : Nat) (code : Nat → Nat) (ans : Nat → Nat) (dbt : Nat → Bool) (many : Nat) (row : Nat → Nat) (heap : Nat → Nat) (our : Nat → Nat) (the : Nat → Nat) (n : Nat) (hc : c = 2 ∨ c = 3) (hn : n ≤ 12) (hco : CodeOK c n code ans) : Met l yX2_look wsX2_look ({ frames := 4, cells := 0, slots := 0, locals := 93 }) (va_Pc [.ref (bd 0), .int (nI (n))] (Iv D (TY cI cZ cG cJ) A (WM bd cI th c hid g code ans dbt many row heap our the wr))) (va_Qi (fun r (u : Nat × (Nat → Nat) × (Nat → Nat) × (Nat → Nat)) => r = nI (cN (opS c n code ans dbt) 81) ∧ RowS u.2.1 u.1 (opS c n code ans dbt)) (fun u => Wd D A (WM bd cI th c hid g code ans dbt u.1 u.2.1 heap u.2.2.1 u.2.2.2 wr)) A) 0 0 A := by
  refine Met.ofW (cc := cX2_look) (maxL := 3) (ret := (some .int)) (by decide) rfl ?_
  intro p e s m args below meth c9 s₁ B hml hv
  obtain ⟨rfl, hP, hD, hB⟩ := hv
  have hK := hB.1
  have hA := hB.2.1
  have hx := B.exec
  have hb := B.bytes
  have hr := B.returns
  have hts := atoms_spec (ws := wsX2_look) B.pre
  have hown : s.vm.findClass RX2 = some m.cls := findClass_of_methodNamed B.named
  have hlocks := B.notSynchronized
  have hS : va_S A s.heap s.heap [] := va_S.rf
  have hinX2 : ∀ w ∈ wsX20, w ∈ wsX2_look := by decide +kernel
  have lk26 := hts (.fieldLink RX2 26 "HiddenCandlesModel" "row" "[I") (by decide +kernel)
  have lk68 := hts (.fieldLink RX2 68 "HiddenCandlesModel" "many" "I") (by decide +kernel)
  have hl := lv_entry ([.ref (bd 0), .int (nI (n))]) (n := 3) (Nat.le_of_ble_eq_true rfl)
  rw [lg_entry_eq]
  generalize (lg_sl ([.ref (bd 0), .int (nI (n))]) ++ List.replicate (3 - (lg_sl ([.ref (bd 0), .int (nI (n))])).length) Slot.unset).toArray = ls at hl ⊢
  have hl : lv_has ls 3 [(0, .ref (bd 0)), (1, .int (nI (n)))] := hl
  obtain ⟨H, eH⟩ : ∃ q, q = s.heap := ⟨_, rfl⟩
  obtain ⟨locs, eL⟩ : ∃ q : List Loc, q = [] := ⟨_, rfl⟩
  replace hP : va_P D vwCl (WM bd cI th c hid g code ans dbt many row heap our the wr) H := by rw [eH]; exact hP
  replace hS : va_S A s.heap H locs := by rw [eH, eL]; exact hS
  rw [show W p l e _ s m _ below meth c9 s.heap [] = W p l e _ s m _ below meth c9 H locs from by rw [eH, eL]]
  clear eH eL
  have hq := qq_in hc
  refine lv_aload_n hx hb dX2_look_0 rfl (lv_at hl 0 rfl) ?_
  refine lv_iconst (v := nI (0)) hx hb dX2_look_1 (by decide) ?_
  refine va_put (D := D) (ci := 2) (v := .int (nI (0))) (ty := .int) (C := RX2) (T := TX2) (N := 12) hx hb hts hinX2 tyX2 tyX2_ok nmX2 hown hK hP hD hS 0 rfl rfl 7 (by decide) lk68 (fun _ h9 => h9) rfl (by decide +kernel) rfl rfl (Nat.le_of_ble_eq_true rfl) dX2_look_2 (fun H locs hP hD hS => ?_)
  replace hP : va_P D vwCl (WM bd cI th c hid g code ans dbt 0 row heap our the wr) H := hP
  replace hD : va_D A (WM bd cI th c hid g code ans dbt 0 row heap our the wr) := hD
  refine lv_iconst (v := nI (0)) hx hb dX2_look_5 (by decide) ?_
  refine lv_istore_n (lv' := [(2, .int (nI (0))), (0, .ref (bd 0)), (1, .int (nI (n)))]) hx hb dX2_look_6 rfl hl (by decide) rfl (fun ls hl => ?_)
  -- loop at 7
  have hinv : 0 ≤ qq c ∧ RowOK row 0 (fit c code ans dbt n) 0 := by
    exact ⟨Nat.zero_le _, row_0⟩
  obtain ⟨i, m2, r2, o1, t1, hq9⟩ : ∃ (i : Nat) (m2 : Nat) (r2 : Nat → Nat) (o1 : Nat → Nat) (t1 : Nat → Nat), lv_has ls 3 [(0, .ref (bd 0)), (1, .int (nI (n))), (2, .int (nI (i)))] ∧ (i ≤ qq c ∧ RowOK r2 m2 (fit c code ans dbt n) i) ∧ va_P D vwCl (WM bd cI th c hid g code ans dbt m2 r2 heap o1 t1 wr) H ∧ va_D A (WM bd cI th c hid g code ans dbt m2 r2 heap o1 t1 wr) := ⟨0, 0, row, our, the, lv_sub hl [1, 2, 0] rfl, hinv, hP, hD⟩
  clear hl hinv hP hD
  obtain ⟨hl, hinv, hP, hD⟩ := hq9
  obtain ⟨n9_7, hn9⟩ : ∃ q : Nat, qq c - i < q := ⟨_, Nat.lt_succ_self _⟩
  induction n9_7 generalizing ls H locs i m2 r2 o1 t1 with
  | zero => exact absurd hn9 (Nat.not_lt_zero _)
  | succ n9_7 ih7 =>
    obtain ⟨h1, h2⟩ := hinv; have hle := cN_le (fit c code ans dbt n) i; have h3 := h2.1
    refine lv_iload_n hx hb dX2_look_7 rfl (lv_at hl 2 rfl) ?_
    refine lv_aload_n hx hb dX2_look_8 rfl (lv_at hl 0 rfl) ?_
    refine x_csi (va_runV (As := []) (rest := [.int (nI (i))]) ⟨hx, hb, hml, hown, hts⟩ (c_X2_codes l D cI cZ cG cJ A bd wr th c hid g code ans dbt m2 r2 heap o1 t1 ) (cwV 0 hts gX2_look_X2_codes rfl rfl rfl (by decide +kernel) ⟨Nat.le_of_ble_eq_true rfl, Nat.le_of_ble_eq_true rfl⟩) (preV (ci := 2) (q0 := 0) hB hS hP hD rfl rfl) rfl rfl hl.1 rfl (lv_room (Nat.le_of_ble_eq_true rfl)) dX2_look_9 ⟨Nat.le_of_ble_eq_true rfl, Nat.le_of_ble_eq_true rfl⟩) ?_
    refine x_ge (tgt := 53) hx hb dX2_look_12 (by decide) (by omega) (by omega) (fun c12 => ?_) (fun c12 => ?_)
    · skip
      refine lv_aload_n hx hb dX2_look_53 rfl (lv_at hl 0 rfl) ?_
      refine va_get (D := D) (ci := 2) (v := .int (nI (m2))) (C := RX2) (T := TX2) (N := 12) hx hb hts hinX2 hown hK hP 0 rfl rfl 7 (by decide) lk68 (fun _ h9 => h9) rfl dX2_look_54 ?_
      exact W.iret (v := nI (m2)) hx hb hr (fun t ht hW => ⟨⟨_, (m2, r2, o1, t1), rfl, (by
          have e9 : i = qq c := by omega
          subst e9
          have h5 := row_op (n := n) hq.2 h2
          exact ⟨by rw [h5.1], h5⟩), ⟨by rw [ht]; exact hP, hD⟩⟩, hS.F ht⟩) hS.2.2 dX2_look_57
    · skip
      refine lv_aload_n hx hb dX2_look_15 rfl (lv_at hl 0 rfl) ?_
      refine lv_iload_n hx hb dX2_look_16 rfl (lv_at hl 2 rfl) ?_
      refine lv_iload_n hx hb dX2_look_17 rfl (lv_at hl 1 rfl) ?_
      refine va_calli (va_runV (As := [.int (nI (i)), .int (nI (n))]) (rest := []) ⟨hx, hb, hml, hown, hts⟩ (c_X2_fits l D cI cZ cG cJ A bd wr th c hid g code ans dbt m2 r2 heap o1 t1 i n (hc) (by omega) (hn) (hco)) (cwV 2 hts gX2_look_X2_fits rfl rfl rfl (by decide +kernel) ⟨Nat.le_of_ble_eq_true rfl, Nat.le_of_ble_eq_true rfl⟩) (preV (ci := 2) (q0 := 0) hB hS hP hD rfl rfl) rfl rfl hl.1 rfl (lv_room (Nat.le_of_ble_eq_true rfl)) dX2_look_18 ⟨Nat.le_of_ble_eq_true rfl, Nat.le_of_ble_eq_true rfl⟩) hS (fun q _ h => h) (fun q h => h) (fun r_18 u_18 t9 H1 locs1 ht9 hvm9 hw_18 hBw hz9 hk9 hS => ?_)
      obtain ⟨hP, hD⟩ := hBw
      rw [ht9] at hP
      generalize H1 = H at hP hS ⊢
      generalize locs1 = locs at hS ⊢
      replace hP : va_P D vwCl (WM bd cI th c hid g code ans dbt m2 r2 heap u_18.1 u_18.2 wr) H := hP
      replace hD : va_D A (WM bd cI th c hid g code ans dbt m2 r2 heap u_18.1 u_18.2 wr) := hD
      refine x_ti (y := bI (fit c code ans dbt n i)) (hw_18.1) ?_
      refine x_zne (tgt := 27) hx hb dX2_look_21 (by decide) (fun c21 => ?_) (fun c21 => ?_)
      · skip
        refine lv_aload_n hx hb dX2_look_27 rfl (lv_at hl 0 rfl) ?_
        refine va_get (D := D) (ci := 2) (v := .ref (bd 4)) (C := RX2) (T := TX2) (N := 12) hx hb hts hinX2 hown hK hP 0 rfl rfl 8 (by decide) lk26 (fun _ h9 => h9) rfl dX2_look_28 ?_
        refine lv_aload_n hx hb dX2_look_31 rfl (lv_at hl 0 rfl) ?_
        refine va_get (D := D) (ci := 2) (v := .int (nI (m2))) (C := RX2) (T := TX2) (N := 12) hx hb hts hinX2 hown hK hP 0 rfl rfl 7 (by decide) lk68 (fun _ h9 => h9) rfl dX2_look_32 ?_
        refine lv_iload_n hx hb dX2_look_35 rfl (lv_at hl 2 rfl) ?_
        refine x_iast hx hb hK hP hD hS 4 0 rfl rfl (i := m2) (v := i) (by omega) (by omega) dX2_look_36 (fun H locs hP hD hS => ?_)
        replace hP : va_P D vwCl (WM bd cI th c hid g code ans dbt m2 (va_up r2 m2 i) heap u_18.1 u_18.2 wr) H := hP
        replace hD : va_D A (WM bd cI th c hid g code ans dbt m2 (va_up r2 m2 i) heap u_18.1 u_18.2 wr) := hD
        refine lv_aload_n hx hb dX2_look_37 rfl (lv_at hl 0 rfl) ?_
        refine lv_dup hx hb dX2_look_38 rfl ?_
        refine va_get (D := D) (ci := 2) (v := .int (nI (m2))) (C := RX2) (T := TX2) (N := 12) hx hb hts hinX2 hown hK hP 0 rfl rfl 7 (by decide) lk68 (fun _ h9 => h9) rfl dX2_look_39 ?_
        refine lv_iconst (v := nI (1)) hx hb dX2_look_42 (by decide) ?_
        refine lv_iadd hx hb dX2_look_43 ?_
        refine x_ti (nI_add _ _) ?_
        refine va_put (D := D) (ci := 2) (v := .int (nI (m2 + 1))) (ty := .int) (C := RX2) (T := TX2) (N := 12) hx hb hts hinX2 tyX2 tyX2_ok nmX2 hown hK hP hD hS 0 rfl rfl 7 (by decide) lk68 (fun _ h9 => h9) rfl (by decide +kernel) rfl rfl (Nat.le_of_ble_eq_true rfl) dX2_look_44 (fun H locs hP hD hS => ?_)
        replace hP : va_P D vwCl (WM bd cI th c hid g code ans dbt (m2 + 1) (va_up r2 m2 i) heap u_18.1 u_18.2 wr) H := hP
        replace hD : va_D A (WM bd cI th c hid g code ans dbt (m2 + 1) (va_up r2 m2 i) heap u_18.1 u_18.2 wr) := hD
        refine lv_iinc (v := nI (i + 1)) (lv' := [(2, .int (nI (i + 1))), (0, .ref (bd 0)), (1, .int (nI (n)))]) hx hb dX2_look_47 hl (k := 2) rfl (nI_add _ _) (by decide) rfl (fun ls hl => ?_)
        refine lv_goto (tgt := 7) hx hb dX2_look_50 (by decide) ?_
        exact ih7 (i := i + 1) (m2 := (m2 + 1)) (r2 := (va_up r2 m2 i)) (o1 := u_18.1) (t1 := u_18.2) (ls := ls) (hl := lv_sub hl [1, 2, 0] rfl) (H := H) (locs := locs) (hP := hP) (hD := hD) (hS := hS) (hinv := by
            refine ⟨by omega, ?_⟩
            first | exact row_s h2 c21 | exact row_n h2 c21
          ) (hn9 := by
            omega
          )
      · skip
        refine lv_goto (tgt := 47) hx hb dX2_look_24 (by decide) ?_
        refine lv_iinc (v := nI (i + 1)) (lv' := [(2, .int (nI (i + 1))), (0, .ref (bd 0)), (1, .int (nI (n)))]) hx hb dX2_look_47 hl (k := 2) rfl (nI_add _ _) (by decide) rfl (fun ls hl => ?_)
        refine lv_goto (tgt := 7) hx hb dX2_look_50 (by decide) ?_
        exact ih7 (i := i + 1) (m2 := m2) (r2 := r2) (o1 := u_18.1) (t1 := u_18.2) (ls := ls) (hl := lv_sub hl [1, 2, 0] rfl) (H := H) (locs := locs) (hP := hP) (hD := hD) (hS := hS) (hinv := by
            refine ⟨by omega, ?_⟩
            first | exact row_s h2 c21 | exact row_n h2 c21
          ) (hn9 := by
            omega
          )

set_option maxHeartbeats 4000000 in
set_option maxRecDepth 100000 in
theorem c_X2_pile (l : Launch) (D : va_G) (cI cZ cG cJ : ClassId) (A : Nat → Prop) (bd : Nat → Nat) (wr : va_W) (th : Nat) (c : Nat) (hid : Int32) (g : Nat) (code : Nat → Nat) (ans : Nat → Nat) (dbt : Nat → Bool) (many : Nat) (row : Nat → Nat) (heap : Nat → Nat) (our : Nat → Nat) (the : Nat → Nat) (a : Nat) (sb : Nat → Bool) (hc : c = 2 ∨ c = 3) (ha : a < qq c) (hR : RowS row many sb) (hsb : ∀ k, k < 81 → sb k = true → k < qq c) : Met l yX2_pile wsX2_pile ({ frames := 3, cells := 0, slots := 0, locals := 70 }) (va_Pc [.ref (bd 0), .int (nI (a))] (Iv D (TY cI cZ cG cJ) A (WM bd cI th c hid g code ans dbt many row heap our the wr))) (va_Qv (fun (u : (Nat → Nat) × (Nat → Nat) × (Nat → Nat)) => ∀ x, x < 21 → u.1 x = hpN c a sb x) (fun u => Wd D A (WM bd cI th c hid g code ans dbt many row u.1 u.2.1 u.2.2 wr)) A) 0 0 A := by
  refine Met.ofW (cc := cX2_pile) (maxL := 3) (ret := none) (by decide) rfl ?_
  intro p e s m args below meth c9 s₁ B hml hv
  obtain ⟨rfl, hP, hD, hB⟩ := hv
  have hK := hB.1
  have hA := hB.2.1
  have hx := B.exec
  have hb := B.bytes
  have hr := B.returns
  have hts := atoms_spec (ws := wsX2_pile) B.pre
  have hown : s.vm.findClass RX2 = some m.cls := findClass_of_methodNamed B.named
  have hlocks := B.notSynchronized
  have hS : va_S A s.heap s.heap [] := va_S.rf
  have hinX2 : ∀ w ∈ wsX20, w ∈ wsX2_pile := by decide +kernel
  have lk26 := hts (.fieldLink RX2 26 "HiddenCandlesModel" "row" "[I") (by decide +kernel)
  have lk29 := hts (.fieldLink RX2 29 "HiddenCandlesModel" "heap" "[I") (by decide +kernel)
  have lk68 := hts (.fieldLink RX2 68 "HiddenCandlesModel" "many" "I") (by decide +kernel)
  have hl := lv_entry ([.ref (bd 0), .int (nI (a))]) (n := 3) (Nat.le_of_ble_eq_true rfl)
  rw [lg_entry_eq]
  generalize (lg_sl ([.ref (bd 0), .int (nI (a))]) ++ List.replicate (3 - (lg_sl ([.ref (bd 0), .int (nI (a))])).length) Slot.unset).toArray = ls at hl ⊢
  have hl : lv_has ls 3 [(0, .ref (bd 0)), (1, .int (nI (a)))] := hl
  obtain ⟨H, eH⟩ : ∃ q, q = s.heap := ⟨_, rfl⟩
  obtain ⟨locs, eL⟩ : ∃ q : List Loc, q = [] := ⟨_, rfl⟩
  replace hP : va_P D vwCl (WM bd cI th c hid g code ans dbt many row heap our the wr) H := by rw [eH]; exact hP
  replace hS : va_S A s.heap H locs := by rw [eH, eL]; exact hS
  rw [show W p l e _ s m _ below meth c9 s.heap [] = W p l e _ s m _ below meth c9 H locs from by rw [eH, eL]]
  clear eH eL
  have hq := qq_in hc
  have hm81 : many ≤ 81 := by rw [hR.1]; exact cN_le _ _
  have hrw : ∀ j, j < many → row j < qq c := fun j hj => by obtain ⟨k, a1, a2, a3, a4⟩ := row_in hR j hj; rw [a4]; exact hsb k a1 a2
  refine lv_iconst (v := nI (0)) hx hb dX2_pile_0 (by decide) ?_
  refine lv_istore_n (lv' := [(2, .int (nI (0))), (0, .ref (bd 0)), (1, .int (nI (a)))]) hx hb dX2_pile_1 rfl hl (by decide) rfl (fun ls hl => ?_)
  -- loop at 2
  have hinv : 0 ≤ 21 ∧ ∀ z, z < 0 → heap z = 0 := by
    exact ⟨Nat.zero_le _, fun z hz => absurd hz (Nat.not_lt_zero _)⟩
  obtain ⟨i, h2, hq9⟩ : ∃ (i : Nat) (h2 : Nat → Nat), lv_has ls 3 [(0, .ref (bd 0)), (1, .int (nI (a))), (2, .int (nI (i)))] ∧ (i ≤ 21 ∧ ∀ z, z < i → h2 z = 0) ∧ va_P D vwCl (WM bd cI th c hid g code ans dbt many row h2 our the wr) H ∧ va_D A (WM bd cI th c hid g code ans dbt many row h2 our the wr) := ⟨0, heap, lv_sub hl [1, 2, 0] rfl, hinv, hP, hD⟩
  clear hl hinv hP hD
  obtain ⟨hl, hinv, hP, hD⟩ := hq9
  obtain ⟨n9_2, hn9⟩ : ∃ q : Nat, 21 - i < q := ⟨_, Nat.lt_succ_self _⟩
  induction n9_2 generalizing ls H locs i h2 with
  | zero => exact absurd hn9 (Nat.not_lt_zero _)
  | succ n9_2 ih2 =>
    obtain ⟨h1, h3⟩ := hinv
    refine lv_iload_n hx hb dX2_pile_2 rfl (lv_at hl 2 rfl) ?_
    refine lv_bipush (v := nI (21)) hx hb dX2_pile_3 (by decide) ?_
    refine x_ge (tgt := 21) hx hb dX2_pile_5 (by decide) (by omega) (by omega) (fun c5 => ?_) (fun c5 => ?_)
    · skip
      refine lv_iconst (v := nI (0)) hx hb dX2_pile_21 (by decide) ?_
      refine lv_istore_n (lv' := [(2, .int (nI (0))), (0, .ref (bd 0)), (1, .int (nI (a)))]) hx hb dX2_pile_22 rfl hl (by decide) rfl (fun ls hl => ?_)
      -- loop at 23
      have hinv : 0 ≤ many ∧ ∀ x, x < 21 → h2 x = cN (fun z => decide (pins c a (row z) = x)) 0 := by
        have e9 : i = 21 := by omega
        subst e9
        exact ⟨Nat.zero_le _, h3⟩
      obtain ⟨j, h4, o1, t1, hq9⟩ : ∃ (j : Nat) (h4 : Nat → Nat) (o1 : Nat → Nat) (t1 : Nat → Nat), lv_has ls 3 [(0, .ref (bd 0)), (1, .int (nI (a))), (2, .int (nI (j)))] ∧ (j ≤ many ∧ ∀ x, x < 21 → h4 x = cN (fun z => decide (pins c a (row z) = x)) j) ∧ va_P D vwCl (WM bd cI th c hid g code ans dbt many row h4 o1 t1 wr) H ∧ va_D A (WM bd cI th c hid g code ans dbt many row h4 o1 t1 wr) := ⟨0, h2, our, the, lv_sub hl [1, 2, 0] rfl, hinv, hP, hD⟩
      clear hl hinv hP hD
      obtain ⟨hl, hinv, hP, hD⟩ := hq9
      obtain ⟨n9_23, hn9⟩ : ∃ q : Nat, many - j < q := ⟨_, Nat.lt_succ_self _⟩
      induction n9_23 generalizing ls H locs j h4 o1 t1 with
      | zero => exact absurd hn9 (Nat.not_lt_zero _)
      | succ n9_23 ih23 =>
        obtain ⟨k1, k2⟩ := hinv
        refine lv_iload_n hx hb dX2_pile_23 rfl (lv_at hl 2 rfl) ?_
        refine lv_aload_n hx hb dX2_pile_24 rfl (lv_at hl 0 rfl) ?_
        refine va_get (D := D) (ci := 2) (v := .int (nI (many))) (C := RX2) (T := TX2) (N := 12) hx hb hts hinX2 hown hK hP 0 rfl rfl 7 (by decide) lk68 (fun _ h9 => h9) rfl dX2_pile_25 ?_
        refine x_ge (tgt := 57) hx hb dX2_pile_28 (by decide) (by omega) (by omega) (fun c28 => ?_) (fun c28 => ?_)
        · skip
          exact W.vret hx hb hr (fun t ht hW => ⟨⟨(h4, o1, t1), rfl, (by
              have e9 : j = many := by omega
              intro x hx
              show h4 x = hpN c a sb x
              rw [k2 x hx, e9]
              exact row_cN hR (fun z => decide (pins c a z = x))), ⟨by rw [ht]; exact hP, hD⟩⟩, hS.F ht⟩) hS.2.2 dX2_pile_57
        · skip
          refine lv_aload_n hx hb dX2_pile_31 rfl (lv_at hl 0 rfl) ?_
          refine va_get (D := D) (ci := 2) (v := .ref (bd 5)) (C := RX2) (T := TX2) (N := 12) hx hb hts hinX2 hown hK hP 0 rfl rfl 9 (by decide) lk29 (fun _ h9 => h9) rfl dX2_pile_32 ?_
          refine lv_aload_n hx hb dX2_pile_35 rfl (lv_at hl 0 rfl) ?_
          refine lv_iload_n hx hb dX2_pile_36 rfl (lv_at hl 1 rfl) ?_
          refine lv_aload_n hx hb dX2_pile_37 rfl (lv_at hl 0 rfl) ?_
          refine va_get (D := D) (ci := 2) (v := .ref (bd 4)) (C := RX2) (T := TX2) (N := 12) hx hb hts hinX2 hown hK hP 0 rfl rfl 8 (by decide) lk26 (fun _ h9 => h9) rfl dX2_pile_38 ?_
          refine lv_iload_n hx hb dX2_pile_41 rfl (lv_at hl 2 rfl) ?_
          refine x_iald hx hb hK hP 4 0 rfl rfl (i := j) (by omega) (by omega) dX2_pile_42 ?_
          refine va_calli (va_runV (As := [.int (nI (a)), .int (nI (row j))]) (rest := [.ref (bd 5)]) ⟨hx, hb, hml, hown, hts⟩ (c_X2_answerTo l D cI cZ cG cJ A bd wr th c hid g code ans dbt many row h4 o1 t1 a (row j) (hc) (ha) (hrw j c28)) (cwV 2 hts gX2_pile_X2_answerTo rfl rfl rfl (by decide +kernel) ⟨Nat.le_of_ble_eq_true rfl, Nat.le_of_ble_eq_true rfl⟩) (preV (ci := 2) (q0 := 0) hB hS hP hD rfl rfl) rfl rfl hl.1 rfl (lv_room (Nat.le_of_ble_eq_true rfl)) dX2_pile_43 ⟨Nat.le_of_ble_eq_true rfl, Nat.le_of_ble_eq_true rfl⟩) hS (fun q _ h => h) (fun q h => h) (fun r_43 u_43 t9 H1 locs1 ht9 hvm9 hw_43 hBw hz9 hk9 hS => ?_)
          obtain ⟨hP, hD⟩ := hBw
          rw [ht9] at hP
          generalize H1 = H at hP hS ⊢
          generalize locs1 = locs at hS ⊢
          replace hP : va_P D vwCl (WM bd cI th c hid g code ans dbt many row h4 u_43.1 u_43.2 wr) H := hP
          replace hD : va_D A (WM bd cI th c hid g code ans dbt many row h4 u_43.1 u_43.2 wr) := hD
          refine x_ti (y := nI (pins c a (row j))) (hw_43.1) ?_
          have hpi := pins_le hc (ha) (hrw j c28)
          refine lv_dup2_11 hx hb dX2_pile_46 rfl rfl ?_
          refine x_iald hx hb hK hP 5 0 rfl rfl (i := pins c a (row j)) (by omega) (by omega) dX2_pile_47 ?_
          refine lv_iconst (v := nI (1)) hx hb dX2_pile_48 (by decide) ?_
          refine lv_iadd hx hb dX2_pile_49 ?_
          refine x_ti (nI_add _ _) ?_
          refine x_iast hx hb hK hP hD hS 5 0 rfl rfl (i := pins c a (row j)) (v := (h4 (pins c a (row j))) + 1) (by omega) (by omega) dX2_pile_50 (fun H locs hP hD hS => ?_)
          replace hP : va_P D vwCl (WM bd cI th c hid g code ans dbt many row (va_up h4 (pins c a (row j)) ((h4 (pins c a (row j))) + 1)) u_43.1 u_43.2 wr) H := hP
          replace hD : va_D A (WM bd cI th c hid g code ans dbt many row (va_up h4 (pins c a (row j)) ((h4 (pins c a (row j))) + 1)) u_43.1 u_43.2 wr) := hD
          refine lv_iinc (v := nI (j + 1)) (lv' := [(2, .int (nI (j + 1))), (0, .ref (bd 0)), (1, .int (nI (a)))]) hx hb dX2_pile_51 hl (k := 2) rfl (nI_add _ _) (by decide) rfl (fun ls hl => ?_)
          refine lv_goto (tgt := 23) hx hb dX2_pile_54 (by decide) ?_
          exact ih23 (j := j + 1) (h4 := (va_up h4 (pins c a (row j)) ((h4 (pins c a (row j))) + 1))) (o1 := u_43.1) (t1 := u_43.2) (ls := ls) (hl := lv_sub hl [1, 2, 0] rfl) (H := H) (locs := locs) (hP := hP) (hD := hD) (hS := hS) (hinv := by
              exact ⟨by omega, pile_up k2⟩
            ) (hn9 := by
              omega
            )
    · skip
      refine lv_aload_n hx hb dX2_pile_8 rfl (lv_at hl 0 rfl) ?_
      refine va_get (D := D) (ci := 2) (v := .ref (bd 5)) (C := RX2) (T := TX2) (N := 12) hx hb hts hinX2 hown hK hP 0 rfl rfl 9 (by decide) lk29 (fun _ h9 => h9) rfl dX2_pile_9 ?_
      refine lv_iload_n hx hb dX2_pile_12 rfl (lv_at hl 2 rfl) ?_
      refine lv_iconst (v := nI (0)) hx hb dX2_pile_13 (by decide) ?_
      refine x_iast hx hb hK hP hD hS 5 0 rfl rfl (i := i) (v := 0) (by omega) (by omega) dX2_pile_14 (fun H locs hP hD hS => ?_)
      replace hP : va_P D vwCl (WM bd cI th c hid g code ans dbt many row (va_up h2 i 0) our the wr) H := hP
      replace hD : va_D A (WM bd cI th c hid g code ans dbt many row (va_up h2 i 0) our the wr) := hD
      refine lv_iinc (v := nI (i + 1)) (lv' := [(2, .int (nI (i + 1))), (0, .ref (bd 0)), (1, .int (nI (a)))]) hx hb dX2_pile_15 hl (k := 2) rfl (nI_add _ _) (by decide) rfl (fun ls hl => ?_)
      refine lv_goto (tgt := 2) hx hb dX2_pile_18 (by decide) ?_
      exact ih2 (i := i + 1) (h2 := (va_up h2 i 0)) (ls := ls) (hl := lv_sub hl [1, 2, 0] rfl) (H := H) (locs := locs) (hP := hP) (hD := hD) (hS := hS) (hinv := by
          exact ⟨by omega, up_le (q := fun _ => 0) h3 rfl⟩
        ) (hn9 := by
          omega
        )

set_option maxHeartbeats 4000000 in
set_option maxRecDepth 100000 in
theorem c_X2_greatest (l : Launch) (D : va_G) (cI cZ cG cJ : ClassId) (A : Nat → Prop) (bd : Nat → Nat) (wr : va_W) (th : Nat) (c : Nat) (hid : Int32) (g : Nat) (code : Nat → Nat) (ans : Nat → Nat) (dbt : Nat → Bool) (many : Nat) (row : Nat → Nat) (heap : Nat → Nat) (our : Nat → Nat) (the : Nat → Nat) (a : Nat) (sb : Nat → Bool) (hc : c = 2 ∨ c = 3) (ha : a < qq c) (hR : RowS row many sb) (hsb : ∀ k, k < 81 → sb k = true → k < qq c) : Met l yX2_greatest wsX2_greatest ({ frames := 4, cells := 0, slots := 0, locals := 92 }) (va_Pc [.ref (bd 0), .int (nI (a))] (Iv D (TY cI cZ cG cJ) A (WM bd cI th c hid g code ans dbt many row heap our the wr))) (va_Qi (fun r (u : (Nat → Nat) × (Nat → Nat) × (Nat → Nat)) => r = nI (gh c a sb) ∧ True) (fun u => Wd D A (WM bd cI th c hid g code ans dbt many row u.1 u.2.1 u.2.2 wr)) A) 0 0 A := by
  refine Met.ofW (cc := cX2_greatest) (maxL := 7) (ret := (some .int)) (by decide) rfl ?_
  intro p e s m args below meth c9 s₁ B hml hv
  obtain ⟨rfl, hP, hD, hB⟩ := hv
  have hK := hB.1
  have hA := hB.2.1
  have hx := B.exec
  have hb := B.bytes
  have hr := B.returns
  have hts := atoms_spec (ws := wsX2_greatest) B.pre
  have hown : s.vm.findClass RX2 = some m.cls := findClass_of_methodNamed B.named
  have hlocks := B.notSynchronized
  have hS : va_S A s.heap s.heap [] := va_S.rf
  have hinX2 : ∀ w ∈ wsX20, w ∈ wsX2_greatest := by decide +kernel
  have lk29 := hts (.fieldLink RX2 29 "HiddenCandlesModel" "heap" "[I") (by decide +kernel)
  have hl := lv_entry ([.ref (bd 0), .int (nI (a))]) (n := 7) (Nat.le_of_ble_eq_true rfl)
  rw [lg_entry_eq]
  generalize (lg_sl ([.ref (bd 0), .int (nI (a))]) ++ List.replicate (7 - (lg_sl ([.ref (bd 0), .int (nI (a))])).length) Slot.unset).toArray = ls at hl ⊢
  have hl : lv_has ls 7 [(0, .ref (bd 0)), (1, .int (nI (a)))] := hl
  obtain ⟨H, eH⟩ : ∃ q, q = s.heap := ⟨_, rfl⟩
  obtain ⟨locs, eL⟩ : ∃ q : List Loc, q = [] := ⟨_, rfl⟩
  replace hP : va_P D vwCl (WM bd cI th c hid g code ans dbt many row heap our the wr) H := by rw [eH]; exact hP
  replace hS : va_S A s.heap H locs := by rw [eH, eL]; exact hS
  rw [show W p l e _ s m _ below meth c9 s.heap [] = W p l e _ s m _ below meth c9 H locs from by rw [eH, eL]]
  clear eH eL
  have hq := qq_in hc
  have hm81 : many ≤ 81 := by rw [hR.1]; exact cN_le _ _
  have hrw : ∀ j, j < many → row j < qq c := fun j hj => by obtain ⟨k, a1, a2, a3, a4⟩ := row_in hR j hj; rw [a4]; exact hsb k a1 a2
  refine lv_aload_n hx hb dX2_greatest_0 rfl (lv_at hl 0 rfl) ?_
  refine lv_iload_n hx hb dX2_greatest_1 rfl (lv_at hl 1 rfl) ?_
  refine va_callv (va_runV (As := [.int (nI (a))]) (rest := []) ⟨hx, hb, hml, hown, hts⟩ (c_X2_pile l D cI cZ cG cJ A bd wr th c hid g code ans dbt many row heap our the a sb (hc) (ha) (hR) (hsb)) (cwV 1 hts gX2_greatest_X2_pile rfl rfl rfl (by decide +kernel) ⟨Nat.le_of_ble_eq_true rfl, Nat.le_of_ble_eq_true rfl⟩) (preV (ci := 2) (q0 := 0) hB hS hP hD rfl rfl) rfl rfl hl.1 rfl (lv_room (Nat.le_of_ble_eq_true rfl)) dX2_greatest_2 ⟨Nat.le_of_ble_eq_true rfl, Nat.le_of_ble_eq_true rfl⟩) hS (fun q _ h => h) (fun q h => h) (fun u_2 t9 H1 locs1 ht9 hvm9 hw_2 hBw hz9 hk9 hS => ?_)
  obtain ⟨hP, hD⟩ := hBw
  rw [ht9] at hP
  generalize H1 = H at hP hS ⊢
  generalize locs1 = locs at hS ⊢
  replace hP : va_P D vwCl (WM bd cI th c hid g code ans dbt many row u_2.1 u_2.2.1 u_2.2.2 wr) H := hP
  replace hD : va_D A (WM bd cI th c hid g code ans dbt many row u_2.1 u_2.2.1 u_2.2.2 wr) := hD
  refine lv_iconst (v := nI (0)) hx hb dX2_greatest_5 (by decide) ?_
  refine lv_istore_n (lv' := [(2, .int (nI (0))), (0, .ref (bd 0)), (1, .int (nI (a)))]) hx hb dX2_greatest_6 rfl hl (by decide) rfl (fun ls hl => ?_)
  refine lv_aload_n hx hb dX2_greatest_7 rfl (lv_at hl 1 rfl) ?_
  refine va_get (D := D) (ci := 2) (v := .ref (bd 5)) (C := RX2) (T := TX2) (N := 12) hx hb hts hinX2 hown hK hP 0 rfl rfl 9 (by decide) lk29 (fun _ h9 => h9) rfl dX2_greatest_8 ?_
  refine lv_astore_n (lv' := [(3, .ref (bd 5)), (2, .int (nI (0))), (0, .ref (bd 0)), (1, .int (nI (a)))]) hx hb dX2_greatest_11 rfl hl (by decide) rfl (fun ls hl => ?_)
  refine lv_aload_n hx hb dX2_greatest_12 rfl (lv_at hl 0 rfl) ?_
  refine x_alen hx hb hK hP 5 0 rfl rfl (n := 21) rfl dX2_greatest_13 ?_
  refine lv_istore (lv' := [(4, .int (nI (21))), (3, .ref (bd 5)), (2, .int (nI (0))), (0, .ref (bd 0)), (1, .int (nI (a)))]) hx hb dX2_greatest_14 hl (by decide) rfl (fun ls hl => ?_)
  refine lv_iconst (v := nI (0)) hx hb dX2_greatest_16 (by decide) ?_
  refine lv_istore (lv' := [(5, .int (nI (0))), (4, .int (nI (21))), (3, .ref (bd 5)), (2, .int (nI (0))), (0, .ref (bd 0)), (1, .int (nI (a)))]) hx hb dX2_greatest_17 hl (by decide) rfl (fun ls hl => ?_)
  -- loop at 19
  have hinv : 0 ≤ 21 ∧ 0 = mxN (hpN c a sb) 0 := by
    exact ⟨Nat.zero_le _, rfl⟩
  obtain ⟨j, r, hq9⟩ : ∃ (j : Nat) (r : Nat), lv_has ls 7 [(0, .ref (bd 0)), (1, .int (nI (a))), (2, .int (nI (r))), (3, .ref (bd 5)), (4, .int (nI (21))), (5, .int (nI (j)))] ∧ (j ≤ 21 ∧ r = mxN (hpN c a sb) j) ∧ va_P D vwCl (WM bd cI th c hid g code ans dbt many row u_2.1 u_2.2.1 u_2.2.2 wr) H ∧ va_D A (WM bd cI th c hid g code ans dbt many row u_2.1 u_2.2.1 u_2.2.2 wr) := ⟨0, 0, lv_sub hl [4, 5, 3, 2, 1, 0] rfl, hinv, hP, hD⟩
  clear hl hinv hP hD
  obtain ⟨hl, hinv, hP, hD⟩ := hq9
  obtain ⟨n9_19, hn9⟩ : ∃ q : Nat, 21 - j < q := ⟨_, Nat.lt_succ_self _⟩
  induction n9_19 generalizing ls H locs j r with
  | zero => exact absurd hn9 (Nat.not_lt_zero _)
  | succ n9_19 ih19 =>
    obtain ⟨h1, h3⟩ := hinv; have hm := gh_le c a sb j; have h5 : ∀ x, x < 21 → u_2.1 x ≤ 81 := fun x hx21 => by rw [hw_2 x hx21]; exact cN_le _ _
    refine lv_iload hx hb dX2_greatest_19 (lv_at hl 5 rfl) ?_
    refine lv_iload hx hb dX2_greatest_21 (lv_at hl 4 rfl) ?_
    refine x_ge (tgt := 45) hx hb dX2_greatest_23 (by decide) (by omega) (by omega) (fun c23 => ?_) (fun c23 => ?_)
    · skip
      refine lv_iload_n hx hb dX2_greatest_45 rfl (lv_at hl 2 rfl) ?_
      exact W.iret (v := nI (r)) hx hb hr (fun t ht hW => ⟨⟨_, u_2, rfl, (by
          have e9 : j = 21 := by omega
          subst e9
          exact ⟨by rw [h3, gh_eq], trivial⟩), ⟨by rw [ht]; exact hP, hD⟩⟩, hS.F ht⟩) hS.2.2 dX2_greatest_46
    · skip
      refine lv_aload_n hx hb dX2_greatest_26 rfl (lv_at hl 3 rfl) ?_
      refine lv_iload hx hb dX2_greatest_27 (lv_at hl 5 rfl) ?_
      refine x_iald hx hb hK hP 5 0 rfl rfl (i := j) (by omega) (by omega) dX2_greatest_29 ?_
      refine lv_istore (lv' := [(6, .int (nI (u_2.1 j))), (0, .ref (bd 0)), (1, .int (nI (a))), (2, .int (nI (r))), (3, .ref (bd 5)), (4, .int (nI (21))), (5, .int (nI (j)))]) hx hb dX2_greatest_30 hl (by decide) rfl (fun ls hl => ?_)
      refine lv_iload_n hx hb dX2_greatest_32 rfl (lv_at hl 3 rfl) ?_
      refine lv_iload hx hb dX2_greatest_33 (lv_at hl 0 rfl) ?_
      refine va_mmax hx hb (hml.trans hl.1.symm) hown (hts (.methodLink RX2 79 Lib.Math.max.name) (by decide +kernel)) (hts _ (by decide +kernel)) (hts _ (by decide +kernel)) (hts _ (by decide +kernel)) (Nat.le_of_ble_eq_true rfl) (Nat.le_of_ble_eq_true rfl) (Nat.le_of_ble_eq_true rfl) (Nat.le_of_ble_eq_true rfl) dX2_greatest_35 ?_
      refine x_ti (nI_max (by omega) (by have := h5 j (by omega); omega)) ?_
      refine lv_istore_n (lv' := [(2, .int (nI (max r (u_2.1 j)))), (6, .int (nI (u_2.1 j))), (0, .ref (bd 0)), (1, .int (nI (a))), (3, .ref (bd 5)), (4, .int (nI (21))), (5, .int (nI (j)))]) hx hb dX2_greatest_38 rfl hl (by decide) rfl (fun ls hl => ?_)
      refine lv_iinc (v := nI (j + 1)) (lv' := [(5, .int (nI (j + 1))), (2, .int (nI (max r (u_2.1 j)))), (6, .int (nI (u_2.1 j))), (0, .ref (bd 0)), (1, .int (nI (a))), (3, .ref (bd 5)), (4, .int (nI (21)))]) hx hb dX2_greatest_39 hl (k := 6) rfl (nI_add _ _) (by decide) rfl (fun ls hl => ?_)
      refine lv_goto (tgt := 19) hx hb dX2_greatest_42 (by decide) ?_
      exact ih19 (j := j + 1) (r := max r (u_2.1 j)) (ls := ls) (hl := lv_sub hl [3, 4, 1, 5, 6, 0] rfl) (H := H) (locs := locs) (hP := hP) (hS := hS) (hinv := by
          exact ⟨by omega, by simp only [mxN, h3, hw_2 j (by omega)]⟩
        ) (hn9 := by
          omega
        )

set_option maxHeartbeats 4000000 in
set_option maxRecDepth 100000 in
theorem c_X2_heaps (l : Launch) (D : va_G) (cI cZ cG cJ : ClassId) (A : Nat → Prop) (bd : Nat → Nat) (wr : va_W) (th : Nat) (c : Nat) (hid : Int32) (g : Nat) (code : Nat → Nat) (ans : Nat → Nat) (dbt : Nat → Bool) (many : Nat) (row : Nat → Nat) (heap : Nat → Nat) (our : Nat → Nat) (the : Nat → Nat) (a : Nat) (sb : Nat → Bool) (hc : c = 2 ∨ c = 3) (ha : a < qq c) (hR : RowS row many sb) (hsb : ∀ k, k < 81 → sb k = true → k < qq c) : Met l yX2_heaps wsX2_heaps ({ frames := 4, cells := 0, slots := 0, locals := 92 }) (va_Pc [.ref (bd 0), .int (nI (a))] (Iv D (TY cI cZ cG cJ) A (WM bd cI th c hid g code ans dbt many row heap our the wr))) (va_Qi (fun r (u : (Nat → Nat) × (Nat → Nat) × (Nat → Nat)) => r = nI (cN (fun x => decide (0 < hpN c a sb x)) 21) ∧ True) (fun u => Wd D A (WM bd cI th c hid g code ans dbt many row u.1 u.2.1 u.2.2 wr)) A) 0 0 A := by
  refine Met.ofW (cc := cX2_heaps) (maxL := 7) (ret := (some .int)) (by decide) rfl ?_
  intro p e s m args below meth c9 s₁ B hml hv
  obtain ⟨rfl, hP, hD, hB⟩ := hv
  have hK := hB.1
  have hA := hB.2.1
  have hx := B.exec
  have hb := B.bytes
  have hr := B.returns
  have hts := atoms_spec (ws := wsX2_heaps) B.pre
  have hown : s.vm.findClass RX2 = some m.cls := findClass_of_methodNamed B.named
  have hlocks := B.notSynchronized
  have hS : va_S A s.heap s.heap [] := va_S.rf
  have hinX2 : ∀ w ∈ wsX20, w ∈ wsX2_heaps := by decide +kernel
  have lk29 := hts (.fieldLink RX2 29 "HiddenCandlesModel" "heap" "[I") (by decide +kernel)
  have hl := lv_entry ([.ref (bd 0), .int (nI (a))]) (n := 7) (Nat.le_of_ble_eq_true rfl)
  rw [lg_entry_eq]
  generalize (lg_sl ([.ref (bd 0), .int (nI (a))]) ++ List.replicate (7 - (lg_sl ([.ref (bd 0), .int (nI (a))])).length) Slot.unset).toArray = ls at hl ⊢
  have hl : lv_has ls 7 [(0, .ref (bd 0)), (1, .int (nI (a)))] := hl
  obtain ⟨H, eH⟩ : ∃ q, q = s.heap := ⟨_, rfl⟩
  obtain ⟨locs, eL⟩ : ∃ q : List Loc, q = [] := ⟨_, rfl⟩
  replace hP : va_P D vwCl (WM bd cI th c hid g code ans dbt many row heap our the wr) H := by rw [eH]; exact hP
  replace hS : va_S A s.heap H locs := by rw [eH, eL]; exact hS
  rw [show W p l e _ s m _ below meth c9 s.heap [] = W p l e _ s m _ below meth c9 H locs from by rw [eH, eL]]
  clear eH eL
  have hq := qq_in hc
  have hm81 : many ≤ 81 := by rw [hR.1]; exact cN_le _ _
  have hrw : ∀ j, j < many → row j < qq c := fun j hj => by obtain ⟨k, a1, a2, a3, a4⟩ := row_in hR j hj; rw [a4]; exact hsb k a1 a2
  refine lv_aload_n hx hb dX2_heaps_0 rfl (lv_at hl 0 rfl) ?_
  refine lv_iload_n hx hb dX2_heaps_1 rfl (lv_at hl 1 rfl) ?_
  refine va_callv (va_runV (As := [.int (nI (a))]) (rest := []) ⟨hx, hb, hml, hown, hts⟩ (c_X2_pile l D cI cZ cG cJ A bd wr th c hid g code ans dbt many row heap our the a sb (hc) (ha) (hR) (hsb)) (cwV 1 hts gX2_heaps_X2_pile rfl rfl rfl (by decide +kernel) ⟨Nat.le_of_ble_eq_true rfl, Nat.le_of_ble_eq_true rfl⟩) (preV (ci := 2) (q0 := 0) hB hS hP hD rfl rfl) rfl rfl hl.1 rfl (lv_room (Nat.le_of_ble_eq_true rfl)) dX2_heaps_2 ⟨Nat.le_of_ble_eq_true rfl, Nat.le_of_ble_eq_true rfl⟩) hS (fun q _ h => h) (fun q h => h) (fun u_2 t9 H1 locs1 ht9 hvm9 hw_2 hBw hz9 hk9 hS => ?_)
  obtain ⟨hP, hD⟩ := hBw
  rw [ht9] at hP
  generalize H1 = H at hP hS ⊢
  generalize locs1 = locs at hS ⊢
  replace hP : va_P D vwCl (WM bd cI th c hid g code ans dbt many row u_2.1 u_2.2.1 u_2.2.2 wr) H := hP
  replace hD : va_D A (WM bd cI th c hid g code ans dbt many row u_2.1 u_2.2.1 u_2.2.2 wr) := hD
  refine lv_iconst (v := nI (0)) hx hb dX2_heaps_5 (by decide) ?_
  refine lv_istore_n (lv' := [(2, .int (nI (0))), (0, .ref (bd 0)), (1, .int (nI (a)))]) hx hb dX2_heaps_6 rfl hl (by decide) rfl (fun ls hl => ?_)
  refine lv_aload_n hx hb dX2_heaps_7 rfl (lv_at hl 1 rfl) ?_
  refine va_get (D := D) (ci := 2) (v := .ref (bd 5)) (C := RX2) (T := TX2) (N := 12) hx hb hts hinX2 hown hK hP 0 rfl rfl 9 (by decide) lk29 (fun _ h9 => h9) rfl dX2_heaps_8 ?_
  refine lv_astore_n (lv' := [(3, .ref (bd 5)), (2, .int (nI (0))), (0, .ref (bd 0)), (1, .int (nI (a)))]) hx hb dX2_heaps_11 rfl hl (by decide) rfl (fun ls hl => ?_)
  refine lv_aload_n hx hb dX2_heaps_12 rfl (lv_at hl 0 rfl) ?_
  refine x_alen hx hb hK hP 5 0 rfl rfl (n := 21) rfl dX2_heaps_13 ?_
  refine lv_istore (lv' := [(4, .int (nI (21))), (3, .ref (bd 5)), (2, .int (nI (0))), (0, .ref (bd 0)), (1, .int (nI (a)))]) hx hb dX2_heaps_14 hl (by decide) rfl (fun ls hl => ?_)
  refine lv_iconst (v := nI (0)) hx hb dX2_heaps_16 (by decide) ?_
  refine lv_istore (lv' := [(5, .int (nI (0))), (4, .int (nI (21))), (3, .ref (bd 5)), (2, .int (nI (0))), (0, .ref (bd 0)), (1, .int (nI (a)))]) hx hb dX2_heaps_17 hl (by decide) rfl (fun ls hl => ?_)
  -- loop at 19
  have hinv : 0 ≤ 21 ∧ 0 = cN (fun x => decide (0 < hpN c a sb x)) 0 := by
    exact ⟨Nat.zero_le _, rfl⟩
  obtain ⟨j, r, hq9⟩ : ∃ (j : Nat) (r : Nat), lv_has ls 7 [(0, .ref (bd 0)), (1, .int (nI (a))), (2, .int (nI (r))), (3, .ref (bd 5)), (4, .int (nI (21))), (5, .int (nI (j)))] ∧ (j ≤ 21 ∧ r = cN (fun x => decide (0 < hpN c a sb x)) j) ∧ va_P D vwCl (WM bd cI th c hid g code ans dbt many row u_2.1 u_2.2.1 u_2.2.2 wr) H ∧ va_D A (WM bd cI th c hid g code ans dbt many row u_2.1 u_2.2.1 u_2.2.2 wr) := ⟨0, 0, lv_sub hl [4, 5, 3, 2, 1, 0] rfl, hinv, hP, hD⟩
  clear hl hinv hP hD
  obtain ⟨hl, hinv, hP, hD⟩ := hq9
  obtain ⟨n9_19, hn9⟩ : ∃ q : Nat, 21 - j < q := ⟨_, Nat.lt_succ_self _⟩
  induction n9_19 generalizing ls H locs j r with
  | zero => exact absurd hn9 (Nat.not_lt_zero _)
  | succ n9_19 ih19 =>
    obtain ⟨h1, h2⟩ := hinv; have hle := cN_le (fun x => decide (0 < hpN c a sb x)) j
    refine lv_iload hx hb dX2_heaps_19 (lv_at hl 5 rfl) ?_
    refine lv_iload hx hb dX2_heaps_21 (lv_at hl 4 rfl) ?_
    refine x_ge (tgt := 51) hx hb dX2_heaps_23 (by decide) (by omega) (by omega) (fun c23 => ?_) (fun c23 => ?_)
    · skip
      refine lv_iload_n hx hb dX2_heaps_51 rfl (lv_at hl 2 rfl) ?_
      exact W.iret (v := nI (r)) hx hb hr (fun t ht hW => ⟨⟨_, u_2, rfl, (by
          have e9 : j = 21 := by omega
          subst e9
          exact ⟨by rw [h2], trivial⟩), ⟨by rw [ht]; exact hP, hD⟩⟩, hS.F ht⟩) hS.2.2 dX2_heaps_52
    · skip
      refine lv_aload_n hx hb dX2_heaps_26 rfl (lv_at hl 3 rfl) ?_
      refine lv_iload hx hb dX2_heaps_27 (lv_at hl 5 rfl) ?_
      refine x_iald hx hb hK hP 5 0 rfl rfl (i := j) (by omega) (by omega) dX2_heaps_29 ?_
      have h6 : u_2.1 j ≤ 81 := by rw [hw_2 j (by omega)]; exact cN_le _ _
      refine lv_istore (lv' := [(6, .int (nI (u_2.1 j))), (0, .ref (bd 0)), (1, .int (nI (a))), (2, .int (nI (r))), (3, .ref (bd 5)), (4, .int (nI (21))), (5, .int (nI (j)))]) hx hb dX2_heaps_30 hl (by decide) rfl (fun ls hl => ?_)
      refine lv_iload_n hx hb dX2_heaps_32 rfl (lv_at hl 3 rfl) ?_
      refine lv_iload hx hb dX2_heaps_33 (lv_at hl 0 rfl) ?_
      refine x_le0 (tgt := 42) hx hb dX2_heaps_35 (by decide) (by omega) (fun c35 => ?_) (fun c35 => ?_)
      · skip
        refine lv_iconst (v := nI (0)) hx hb dX2_heaps_42 (by decide) ?_
        refine lv_iadd hx hb dX2_heaps_43 ?_
        refine x_ti (nI_add _ _) ?_
        refine lv_istore_n (lv' := [(2, .int (nI (r + 0))), (6, .int (nI (u_2.1 j))), (0, .ref (bd 0)), (1, .int (nI (a))), (3, .ref (bd 5)), (4, .int (nI (21))), (5, .int (nI (j)))]) hx hb dX2_heaps_44 rfl hl (by decide) rfl (fun ls hl => ?_)
        refine lv_iinc (v := nI (j + 1)) (lv' := [(5, .int (nI (j + 1))), (2, .int (nI (r + 0))), (6, .int (nI (u_2.1 j))), (0, .ref (bd 0)), (1, .int (nI (a))), (3, .ref (bd 5)), (4, .int (nI (21)))]) hx hb dX2_heaps_45 hl (k := 6) rfl (nI_add _ _) (by decide) rfl (fun ls hl => ?_)
        refine lv_goto (tgt := 19) hx hb dX2_heaps_48 (by decide) ?_
        exact ih19 (j := j + 1) (r := r + 0) (ls := ls) (hl := lv_sub hl [3, 4, 1, 5, 6, 0] rfl) (H := H) (locs := locs) (hP := hP) (hS := hS) (hinv := by
            refine ⟨by omega, ?_⟩
            rw [hw_2 j (by omega)] at c35
            first | exact (congrArg (· + 1) h2).trans (cN_s (p := fun x => decide (0 < hpN c a sb x)) (decide_eq_true c35)).symm | exact h2.trans (cN_n (p := fun x => decide (0 < hpN c a sb x)) (decide_eq_false (by omega))).symm
          ) (hn9 := by
            omega
          )
      · skip
        refine lv_iconst (v := nI (1)) hx hb dX2_heaps_38 (by decide) ?_
        refine lv_goto (tgt := 43) hx hb dX2_heaps_39 (by decide) ?_
        refine lv_iadd hx hb dX2_heaps_43 ?_
        refine x_ti (nI_add _ _) ?_
        refine lv_istore_n (lv' := [(2, .int (nI (r + 1))), (6, .int (nI (u_2.1 j))), (0, .ref (bd 0)), (1, .int (nI (a))), (3, .ref (bd 5)), (4, .int (nI (21))), (5, .int (nI (j)))]) hx hb dX2_heaps_44 rfl hl (by decide) rfl (fun ls hl => ?_)
        refine lv_iinc (v := nI (j + 1)) (lv' := [(5, .int (nI (j + 1))), (2, .int (nI (r + 1))), (6, .int (nI (u_2.1 j))), (0, .ref (bd 0)), (1, .int (nI (a))), (3, .ref (bd 5)), (4, .int (nI (21)))]) hx hb dX2_heaps_45 hl (k := 6) rfl (nI_add _ _) (by decide) rfl (fun ls hl => ?_)
        refine lv_goto (tgt := 19) hx hb dX2_heaps_48 (by decide) ?_
        exact ih19 (j := j + 1) (r := r + 1) (ls := ls) (hl := lv_sub hl [3, 4, 1, 5, 6, 0] rfl) (H := H) (locs := locs) (hP := hP) (hS := hS) (hinv := by
            refine ⟨by omega, ?_⟩
            rw [hw_2 j (by omega)] at c35
            first | exact (congrArg (· + 1) h2).trans (cN_s (p := fun x => decide (0 < hpN c a sb x)) (decide_eq_true c35)).symm | exact h2.trans (cN_n (p := fun x => decide (0 < hpN c a sb x)) (decide_eq_false (by omega))).symm
          ) (hn9 := by
            omega
          )

set_option maxHeartbeats 4000000 in
set_option maxRecDepth 100000 in
theorem c_X2_place (l : Launch) (D : va_G) (cI cZ cG cJ : ClassId) (A : Nat → Prop) (bd : Nat → Nat) (wr : va_W) (th : Nat) (c : Nat) (hid : Int32) (g : Nat) (code : Nat → Nat) (ans : Nat → Nat) (dbt : Nat → Bool) (many : Nat) (row : Nat → Nat) (heap : Nat → Nat) (our : Nat → Nat) (the : Nat → Nat) (k : Nat) (sb : Nat → Bool) (hc : c = 2 ∨ c = 3) (hk : k < 81) (hR : RowS row many sb) (hsb : ∀ k, k < 81 → sb k = true → k < qq c) : Met l yX2_place wsX2_place ({ frames := 0, cells := 0, slots := 0, locals := 0 }) (va_Pc [.ref (bd 0), .int (nI (k))] (Iv D (TY cI cZ cG cJ) A (WM bd cI th c hid g code ans dbt many row heap our the wr))) (vp_Si (fun r => r = plR sb k)) 0 0 (fun _ => False) := by
  refine Met.ofW (cc := cX2_place) (maxL := 3) (ret := (some .int)) (by decide) rfl ?_
  intro p e s m args below meth c9 s₁ B hml hv
  obtain ⟨rfl, hP, hD, hB⟩ := hv
  have hK := hB.1
  have hA := hB.2.1
  have hx := B.exec
  have hb := B.bytes
  have hr := B.returns
  have hts := atoms_spec (ws := wsX2_place) B.pre
  have hown : s.vm.findClass RX2 = some m.cls := findClass_of_methodNamed B.named
  have hlocks := B.notSynchronized
  have hS : va_S A s.heap s.heap [] := va_S.rf
  have hinX2 : ∀ w ∈ wsX20, w ∈ wsX2_place := by decide +kernel
  have lk26 := hts (.fieldLink RX2 26 "HiddenCandlesModel" "row" "[I") (by decide +kernel)
  have lk68 := hts (.fieldLink RX2 68 "HiddenCandlesModel" "many" "I") (by decide +kernel)
  have hl := lv_entry ([.ref (bd 0), .int (nI (k))]) (n := 3) (Nat.le_of_ble_eq_true rfl)
  rw [lg_entry_eq]
  generalize (lg_sl ([.ref (bd 0), .int (nI (k))]) ++ List.replicate (3 - (lg_sl ([.ref (bd 0), .int (nI (k))])).length) Slot.unset).toArray = ls at hl ⊢
  have hl : lv_has ls 3 [(0, .ref (bd 0)), (1, .int (nI (k)))] := hl
  have hq := qq_in hc
  have hm81 : many ≤ 81 := by rw [hR.1]; exact cN_le _ _
  have hrw : ∀ j, j < many → row j < qq c := fun j hj => by obtain ⟨k, a1, a2, a3, a4⟩ := row_in hR j hj; rw [a4]; exact hsb k a1 a2
  refine lv_iconst (v := nI (0)) hx hb dX2_place_0 (by decide) ?_
  refine lv_istore_n (lv' := [(2, .int (nI (0))), (0, .ref (bd 0)), (1, .int (nI (k)))]) hx hb dX2_place_1 rfl hl (by decide) rfl (fun ls hl => ?_)
  -- loop at 2
  have hinv : 0 ≤ many ∧ ∀ j, j < 0 → ¬ row j = k := by
    exact ⟨Nat.zero_le _, fun j hj => absurd hj (Nat.not_lt_zero _)⟩
  obtain ⟨i, hq9⟩ : ∃ (i : Nat), lv_has ls 3 [(0, .ref (bd 0)), (1, .int (nI (k))), (2, .int (nI (i)))] ∧ (i ≤ many ∧ ∀ j, j < i → ¬ row j = k) := ⟨0, lv_sub hl [1, 2, 0] rfl, hinv⟩
  clear hl hinv
  obtain ⟨hl, hinv⟩ := hq9
  obtain ⟨n9_2, hn9⟩ : ∃ q : Nat, many - i < q := ⟨_, Nat.lt_succ_self _⟩
  induction n9_2 generalizing ls i with
  | zero => exact absurd hn9 (Nat.not_lt_zero _)
  | succ n9_2 ih2 =>
    obtain ⟨h1, h2⟩ := hinv
    refine lv_iload_n hx hb dX2_place_2 rfl (lv_at hl 2 rfl) ?_
    refine lv_aload_n hx hb dX2_place_3 rfl (lv_at hl 0 rfl) ?_
    refine va_get (D := D) (ci := 2) (v := .int (nI (many))) (C := RX2) (T := TX2) (N := 12) hx hb hts hinX2 hown hK hP 0 rfl rfl 7 (by decide) lk68 (fun _ h9 => h9) rfl dX2_place_4 ?_
    refine x_ge (tgt := 28) hx hb dX2_place_7 (by decide) (by omega) (by omega) (fun c7 => ?_) (fun c7 => ?_)
    · skip
      refine lv_iconst (v := (-1)) hx hb dX2_place_28 (by decide) ?_
      exact W.iret (v := (-1)) hx hb hr (fun t ht hW => ⟨_, rfl, (by
          exact (plR_no hR hk (fun j hj => h2 j (by omega))).symm), ht⟩) (fun _ h => nomatch h) dX2_place_29
    · skip
      refine lv_aload_n hx hb dX2_place_10 rfl (lv_at hl 0 rfl) ?_
      refine va_get (D := D) (ci := 2) (v := .ref (bd 4)) (C := RX2) (T := TX2) (N := 12) hx hb hts hinX2 hown hK hP 0 rfl rfl 8 (by decide) lk26 (fun _ h9 => h9) rfl dX2_place_11 ?_
      refine lv_iload_n hx hb dX2_place_14 rfl (lv_at hl 2 rfl) ?_
      refine x_iald hx hb hK hP 4 0 rfl rfl (i := i) (by omega) (by omega) dX2_place_15 ?_
      have hrk := hrw i c7
      refine lv_iload_n hx hb dX2_place_16 rfl (lv_at hl 1 rfl) ?_
      refine x_ne (tgt := 22) hx hb dX2_place_17 (by decide) (by omega) (by omega) (fun c17 => ?_) (fun c17 => ?_)
      · skip
        refine lv_iinc (v := nI (i + 1)) (lv' := [(2, .int (nI (i + 1))), (0, .ref (bd 0)), (1, .int (nI (k)))]) hx hb dX2_place_22 hl (k := 2) rfl (nI_add _ _) (by decide) rfl (fun ls hl => ?_)
        refine lv_goto (tgt := 2) hx hb dX2_place_25 (by decide) ?_
        exact ih2 (i := i + 1) (ls := ls) (hl := lv_sub hl [1, 2, 0] rfl) (hinv := by
            exact ⟨by omega, no_up h2 c17⟩
          ) (hn9 := by
            omega
          )
      · skip
        refine lv_iload_n hx hb dX2_place_20 rfl (lv_at hl 2 rfl) ?_
        exact W.iret (v := nI (i)) hx hb hr (fun t ht hW => ⟨_, rfl, (by
            exact (plR_hit hR c7 c17).symm), ht⟩) (fun _ h => nomatch h) dX2_place_21

set_option maxHeartbeats 4000000 in
set_option maxRecDepth 100000 in
theorem c_X2_setColours (l : Launch) (D : va_G) (cI cZ cG cJ : ClassId) (A : Nat → Prop) (bd : Nat → Nat) (wr : va_W) (th : Nat) (c : Nat) (hid : Int32) (g : Nat) (code : Nat → Nat) (ans : Nat → Nat) (dbt : Nat → Bool) (many : Nat) (row : Nat → Nat) (heap : Nat → Nat) (our : Nat → Nat) (the : Nat → Nat) (v : Int32)  : Met l yX2_setColours wsX2_setColours ({ frames := 1, cells := 0, slots := 0, locals := 22 }) (va_Pc [.ref (bd 0), .int (v)] (Iv D (TY cI cZ cG cJ) A (WM bd cI th c hid g code ans dbt many row heap our the wr))) (va_Qi (fun r (u : Nat × Nat × Nat × Int32) => (u.1 = 0 ∧ (u.2.1 = 2 ∨ u.2.1 = 3) ∧ v = nI u.2.1 ∧ u.2.2.1 = 0 ∧ u.2.2.2 = -1 ∧ r = nI c) ∨ (u.1 = 1 ∧ ¬ v = 2 ∧ ¬ v = 3 ∧ u.2.1 = c ∧ u.2.2.1 = g ∧ u.2.2.2 = hid)) (fun u => Wd D A (WM bd cI u.1 u.2.1 u.2.2.2 u.2.2.1 code ans dbt many row heap our the wr)) A) 0 0 A := by
  refine Met.ofW (cc := cX2_setColours) (maxL := 3) (ret := (some .int)) (by decide) rfl ?_
  intro p e s m args below meth c9 s₁ B hml hv
  obtain ⟨rfl, hP, hD, hB⟩ := hv
  have hK := hB.1
  have hA := hB.2.1
  have hx := B.exec
  have hb := B.bytes
  have hr := B.returns
  have hts := atoms_spec (ws := wsX2_setColours) B.pre
  have hown : s.vm.findClass RX2 = some m.cls := findClass_of_methodNamed B.named
  have hlocks := B.notSynchronized
  have hS : va_S A s.heap s.heap [] := va_S.rf
  have hinX2 : ∀ w ∈ wsX20, w ∈ wsX2_setColours := by decide +kernel
  have lk9 := hts (.fieldLink RX2 9 "HiddenCandlesModel" "colours" "I") (by decide +kernel)
  have lk13 := hts (.fieldLink RX2 13 "HiddenCandlesModel" "hidden" "I") (by decide +kernel)
  have lk38 := hts (.fieldLink RX2 38 "HiddenCandlesModel" "thrown" "I") (by decide +kernel)
  have lk49 := hts (.fieldLink RX2 49 "HiddenCandlesModel" "guesses" "I") (by decide +kernel)
  have hl := lv_entry ([.ref (bd 0), .int (v)]) (n := 3) (Nat.le_of_ble_eq_true rfl)
  rw [lg_entry_eq]
  generalize (lg_sl ([.ref (bd 0), .int (v)]) ++ List.replicate (3 - (lg_sl ([.ref (bd 0), .int (v)])).length) Slot.unset).toArray = ls at hl ⊢
  have hl : lv_has ls 3 [(0, .ref (bd 0)), (1, .int (v))] := hl
  obtain ⟨H, eH⟩ : ∃ q, q = s.heap := ⟨_, rfl⟩
  obtain ⟨locs, eL⟩ : ∃ q : List Loc, q = [] := ⟨_, rfl⟩
  replace hP : va_P D vwCl (WM bd cI th c hid g code ans dbt many row heap our the wr) H := by rw [eH]; exact hP
  replace hS : va_S A s.heap H locs := by rw [eH, eL]; exact hS
  rw [show W p l e _ s m _ below meth c9 s.heap [] = W p l e _ s m _ below meth c9 H locs from by rw [eH, eL]]
  clear eH eL
  refine lv_aload_n hx hb dX2_setColours_0 rfl (lv_at hl 0 rfl) ?_
  refine lv_iconst (v := nI (0)) hx hb dX2_setColours_1 (by decide) ?_
  refine va_put (D := D) (ci := 2) (v := .int (nI (0))) (ty := .int) (C := RX2) (T := TX2) (N := 12) hx hb hts hinX2 tyX2 tyX2_ok nmX2 hown hK hP hD hS 0 rfl rfl 0 (by decide) lk38 (fun _ h9 => h9) rfl (by decide +kernel) rfl rfl (Nat.le_of_ble_eq_true rfl) dX2_setColours_2 (fun H locs hP hD hS => ?_)
  replace hP : va_P D vwCl (WM bd cI 0 c hid g code ans dbt many row heap our the wr) H := hP
  replace hD : va_D A (WM bd cI 0 c hid g code ans dbt many row heap our the wr) := hD
  refine lv_iload_n hx hb dX2_setColours_5 rfl (lv_at hl 1 rfl) ?_
  refine lv_iconst (v := nI (2)) hx hb dX2_setColours_6 (by decide) ?_
  refine lv_iconst (v := nI (3)) hx hb dX2_setColours_7 (by decide) ?_
  refine x_csi (va_runS (As := [.int (v), .int (nI (2)), .int (nI (3))]) (rest := []) ⟨hx, hb, hml, hown, hts⟩ (c_X2_isIn l D cI cZ cG cJ A (WM bd cI 0 c hid g code ans dbt many row heap our the wr) v (nI (2)) (nI (3)) ) (va_cwS 3 hts gX2_setColours_X2_isIn rfl rfl rfl (by decide +kernel) ⟨Nat.le_of_ble_eq_true rfl, Nat.le_of_ble_eq_true rfl⟩) (preS hB hS hP hD) rfl rfl hl.1 rfl (lv_room (Nat.le_of_ble_eq_true rfl)) dX2_setColours_8 ⟨Nat.le_of_ble_eq_true rfl, Nat.le_of_ble_eq_true rfl⟩) ?_
  refine x_zne (tgt := 20) hx hb dX2_setColours_11 (by decide) (fun c11 => ?_) (fun c11 => ?_)
  · skip
    obtain ⟨c2, hc2, rfl⟩ := in23 c11
    refine lv_aload_n hx hb dX2_setColours_20 rfl (lv_at hl 0 rfl) ?_
    refine va_get (D := D) (ci := 2) (v := .int (nI (c))) (C := RX2) (T := TX2) (N := 12) hx hb hts hinX2 hown hK hP 0 rfl rfl 1 (by decide) lk9 (fun _ h9 => h9) rfl dX2_setColours_21 ?_
    refine lv_istore_n (lv' := [(2, .int (nI (c))), (0, .ref (bd 0)), (1, .int (nI (c2)))]) hx hb dX2_setColours_24 rfl hl (by decide) rfl (fun ls hl => ?_)
    refine lv_aload_n hx hb dX2_setColours_25 rfl (lv_at hl 1 rfl) ?_
    refine lv_iload_n hx hb dX2_setColours_26 rfl (lv_at hl 2 rfl) ?_
    refine va_put (D := D) (ci := 2) (v := .int (nI (c2))) (ty := .int) (C := RX2) (T := TX2) (N := 12) hx hb hts hinX2 tyX2 tyX2_ok nmX2 hown hK hP hD hS 0 rfl rfl 1 (by decide) lk9 (fun _ h9 => h9) rfl (by decide +kernel) rfl rfl (Nat.le_of_ble_eq_true rfl) dX2_setColours_27 (fun H locs hP hD hS => ?_)
    replace hP : va_P D vwCl (WM bd cI 0 c2 hid g code ans dbt many row heap our the wr) H := hP
    replace hD : va_D A (WM bd cI 0 c2 hid g code ans dbt many row heap our the wr) := hD
    refine lv_aload_n hx hb dX2_setColours_30 rfl (lv_at hl 1 rfl) ?_
    refine lv_iconst (v := (-1)) hx hb dX2_setColours_31 (by decide) ?_
    refine va_put (D := D) (ci := 2) (v := .int ((-1))) (ty := .int) (C := RX2) (T := TX2) (N := 12) hx hb hts hinX2 tyX2 tyX2_ok nmX2 hown hK hP hD hS 0 rfl rfl 2 (by decide) lk13 (fun _ h9 => h9) rfl (by decide +kernel) rfl rfl (Nat.le_of_ble_eq_true rfl) dX2_setColours_32 (fun H locs hP hD hS => ?_)
    replace hP : va_P D vwCl (WM bd cI 0 c2 (-1) g code ans dbt many row heap our the wr) H := hP
    replace hD : va_D A (WM bd cI 0 c2 (-1) g code ans dbt many row heap our the wr) := hD
    refine lv_aload_n hx hb dX2_setColours_35 rfl (lv_at hl 1 rfl) ?_
    refine lv_iconst (v := nI (0)) hx hb dX2_setColours_36 (by decide) ?_
    refine va_put (D := D) (ci := 2) (v := .int (nI (0))) (ty := .int) (C := RX2) (T := TX2) (N := 12) hx hb hts hinX2 tyX2 tyX2_ok nmX2 hown hK hP hD hS 0 rfl rfl 3 (by decide) lk49 (fun _ h9 => h9) rfl (by decide +kernel) rfl rfl (Nat.le_of_ble_eq_true rfl) dX2_setColours_37 (fun H locs hP hD hS => ?_)
    replace hP : va_P D vwCl (WM bd cI 0 c2 (-1) 0 code ans dbt many row heap our the wr) H := hP
    replace hD : va_D A (WM bd cI 0 c2 (-1) 0 code ans dbt many row heap our the wr) := hD
    refine lv_iload_n hx hb dX2_setColours_40 rfl (lv_at hl 0 rfl) ?_
    exact W.iret (v := nI (c)) hx hb hr (fun t ht hW => ⟨⟨_, (0, c2, 0, -1), rfl, (by
        exact Or.inl ⟨rfl, hc2, rfl, rfl, rfl, rfl⟩), ⟨by rw [ht]; exact hP, hD⟩⟩, hS.F ht⟩) hS.2.2 dX2_setColours_41
  · skip
    refine lv_aload_n hx hb dX2_setColours_14 rfl (lv_at hl 0 rfl) ?_
    refine lv_iconst (v := nI (1)) hx hb dX2_setColours_15 (by decide) ?_
    refine va_calli (va_runV (As := [.int (nI (1))]) (rest := []) ⟨hx, hb, hml, hown, hts⟩ (c_X2_no l D cI cZ cG cJ A bd wr 0 c hid g code ans dbt many row heap our the 1 ) (cwV 1 hts gX2_setColours_X2_no rfl rfl rfl (by decide +kernel) ⟨Nat.le_of_ble_eq_true rfl, Nat.le_of_ble_eq_true rfl⟩) (preV (ci := 2) (q0 := 0) hB hS hP hD rfl rfl) rfl rfl hl.1 rfl (lv_room (Nat.le_of_ble_eq_true rfl)) dX2_setColours_16 ⟨Nat.le_of_ble_eq_true rfl, Nat.le_of_ble_eq_true rfl⟩) hS (fun q _ h => h) (fun q h => h) (fun r_16 u_16 t9 H1 locs1 ht9 hvm9 hw_16 hBw hz9 hk9 hS => ?_)
    obtain ⟨hP, hD⟩ := hBw
    rw [ht9] at hP
    generalize H1 = H at hP hS ⊢
    generalize locs1 = locs at hS ⊢
    replace hP : va_P D vwCl (WM bd cI 1 c hid g code ans dbt many row heap our the wr) H := hP
    replace hD : va_D A (WM bd cI 1 c hid g code ans dbt many row heap our the wr) := hD
    refine x_ti (y := nI (0)) (hw_16.1) ?_
    exact W.iret (v := nI (0)) hx hb hr (fun t ht hW => ⟨⟨_, (1, c, g, hid), rfl, (by
        exact Or.inr ⟨rfl, (in23_f c11).1, (in23_f c11).2, rfl, rfl, rfl⟩), ⟨by rw [ht]; exact hP, hD⟩⟩, hS.F ht⟩) hS.2.2 dX2_setColours_19

set_option maxHeartbeats 4000000 in
set_option maxRecDepth 100000 in
theorem c_X2_hide (l : Launch) (D : va_G) (cI cZ cG cJ : ClassId) (A : Nat → Prop) (bd : Nat → Nat) (wr : va_W) (th : Nat) (c : Nat) (hid : Int32) (g : Nat) (code : Nat → Nat) (ans : Nat → Nat) (dbt : Nat → Bool) (many : Nat) (row : Nat → Nat) (heap : Nat → Nat) (our : Nat → Nat) (the : Nat → Nat) (v : Int32) (hc : c = 2 ∨ c = 3) : Met l yX2_hide wsX2_hide ({ frames := 2, cells := 0, slots := 0, locals := 43 }) (va_Pc [.ref (bd 0), .int (v)] (Iv D (TY cI cZ cG cJ) A (WM bd cI th c hid g code ans dbt many row heap our the wr))) (va_Qi (fun r (u : Nat × Int32) => (u.1 = 0 ∧ hasC c v = true ∧ r = hid ∧ u.2 = v) ∨ (u.1 = 1 ∧ hasC c v = false ∧ u.2 = hid)) (fun u => Wd D A (WM bd cI u.1 c u.2 g code ans dbt many row heap our the wr)) A) 0 0 A := by
  refine Met.ofW (cc := cX2_hide) (maxL := 3) (ret := (some .int)) (by decide) rfl ?_
  intro p e s m args below meth c9 s₁ B hml hv
  obtain ⟨rfl, hP, hD, hB⟩ := hv
  have hK := hB.1
  have hA := hB.2.1
  have hx := B.exec
  have hb := B.bytes
  have hr := B.returns
  have hts := atoms_spec (ws := wsX2_hide) B.pre
  have hown : s.vm.findClass RX2 = some m.cls := findClass_of_methodNamed B.named
  have hlocks := B.notSynchronized
  have hS : va_S A s.heap s.heap [] := va_S.rf
  have hinX2 : ∀ w ∈ wsX20, w ∈ wsX2_hide := by decide +kernel
  have lk13 := hts (.fieldLink RX2 13 "HiddenCandlesModel" "hidden" "I") (by decide +kernel)
  have lk38 := hts (.fieldLink RX2 38 "HiddenCandlesModel" "thrown" "I") (by decide +kernel)
  have hl := lv_entry ([.ref (bd 0), .int (v)]) (n := 3) (Nat.le_of_ble_eq_true rfl)
  rw [lg_entry_eq]
  generalize (lg_sl ([.ref (bd 0), .int (v)]) ++ List.replicate (3 - (lg_sl ([.ref (bd 0), .int (v)])).length) Slot.unset).toArray = ls at hl ⊢
  have hl : lv_has ls 3 [(0, .ref (bd 0)), (1, .int (v))] := hl
  obtain ⟨H, eH⟩ : ∃ q, q = s.heap := ⟨_, rfl⟩
  obtain ⟨locs, eL⟩ : ∃ q : List Loc, q = [] := ⟨_, rfl⟩
  replace hP : va_P D vwCl (WM bd cI th c hid g code ans dbt many row heap our the wr) H := by rw [eH]; exact hP
  replace hS : va_S A s.heap H locs := by rw [eH, eL]; exact hS
  rw [show W p l e _ s m _ below meth c9 s.heap [] = W p l e _ s m _ below meth c9 H locs from by rw [eH, eL]]
  clear eH eL
  have hq := qq_in hc
  refine lv_aload_n hx hb dX2_hide_0 rfl (lv_at hl 0 rfl) ?_
  refine lv_iconst (v := nI (0)) hx hb dX2_hide_1 (by decide) ?_
  refine va_put (D := D) (ci := 2) (v := .int (nI (0))) (ty := .int) (C := RX2) (T := TX2) (N := 12) hx hb hts hinX2 tyX2 tyX2_ok nmX2 hown hK hP hD hS 0 rfl rfl 0 (by decide) lk38 (fun _ h9 => h9) rfl (by decide +kernel) rfl rfl (Nat.le_of_ble_eq_true rfl) dX2_hide_2 (fun H locs hP hD hS => ?_)
  replace hP : va_P D vwCl (WM bd cI 0 c hid g code ans dbt many row heap our the wr) H := hP
  replace hD : va_D A (WM bd cI 0 c hid g code ans dbt many row heap our the wr) := hD
  refine lv_aload_n hx hb dX2_hide_5 rfl (lv_at hl 0 rfl) ?_
  refine lv_iload_n hx hb dX2_hide_6 rfl (lv_at hl 1 rfl) ?_
  refine x_csi (va_runV (As := [.int (v)]) (rest := []) ⟨hx, hb, hml, hown, hts⟩ (c_X2_isCode l D cI cZ cG cJ A bd wr 0 c hid g code ans dbt many row heap our the v (hc)) (cwV 1 hts gX2_hide_X2_isCode rfl rfl rfl (by decide +kernel) ⟨Nat.le_of_ble_eq_true rfl, Nat.le_of_ble_eq_true rfl⟩) (preV (ci := 2) (q0 := 0) hB hS hP hD rfl rfl) rfl rfl hl.1 rfl (lv_room (Nat.le_of_ble_eq_true rfl)) dX2_hide_7 ⟨Nat.le_of_ble_eq_true rfl, Nat.le_of_ble_eq_true rfl⟩) ?_
  refine x_zne (tgt := 19) hx hb dX2_hide_10 (by decide) (fun c10 => ?_) (fun c10 => ?_)
  · skip
    refine lv_aload_n hx hb dX2_hide_19 rfl (lv_at hl 0 rfl) ?_
    refine va_get (D := D) (ci := 2) (v := .int (hid)) (C := RX2) (T := TX2) (N := 12) hx hb hts hinX2 hown hK hP 0 rfl rfl 2 (by decide) lk13 (fun _ h9 => h9) rfl dX2_hide_20 ?_
    refine lv_istore_n (lv' := [(2, .int (hid)), (0, .ref (bd 0)), (1, .int (v))]) hx hb dX2_hide_23 rfl hl (by decide) rfl (fun ls hl => ?_)
    refine lv_aload_n hx hb dX2_hide_24 rfl (lv_at hl 1 rfl) ?_
    refine lv_iload_n hx hb dX2_hide_25 rfl (lv_at hl 2 rfl) ?_
    refine va_put (D := D) (ci := 2) (v := .int (v)) (ty := .int) (C := RX2) (T := TX2) (N := 12) hx hb hts hinX2 tyX2 tyX2_ok nmX2 hown hK hP hD hS 0 rfl rfl 2 (by decide) lk13 (fun _ h9 => h9) rfl (by decide +kernel) rfl rfl (Nat.le_of_ble_eq_true rfl) dX2_hide_26 (fun H locs hP hD hS => ?_)
    replace hP : va_P D vwCl (WM bd cI 0 c v g code ans dbt many row heap our the wr) H := hP
    replace hD : va_D A (WM bd cI 0 c v g code ans dbt many row heap our the wr) := hD
    refine lv_iload_n hx hb dX2_hide_29 rfl (lv_at hl 0 rfl) ?_
    exact W.iret (v := hid) hx hb hr (fun t ht hW => ⟨⟨_, (0, v), rfl, (by
        exact Or.inl ⟨rfl, c10, rfl, rfl⟩), ⟨by rw [ht]; exact hP, hD⟩⟩, hS.F ht⟩) hS.2.2 dX2_hide_30
  · skip
    refine lv_aload_n hx hb dX2_hide_13 rfl (lv_at hl 0 rfl) ?_
    refine lv_iconst (v := nI (1)) hx hb dX2_hide_14 (by decide) ?_
    refine va_calli (va_runV (As := [.int (nI (1))]) (rest := []) ⟨hx, hb, hml, hown, hts⟩ (c_X2_no l D cI cZ cG cJ A bd wr 0 c hid g code ans dbt many row heap our the 1 ) (cwV 1 hts gX2_hide_X2_no rfl rfl rfl (by decide +kernel) ⟨Nat.le_of_ble_eq_true rfl, Nat.le_of_ble_eq_true rfl⟩) (preV (ci := 2) (q0 := 0) hB hS hP hD rfl rfl) rfl rfl hl.1 rfl (lv_room (Nat.le_of_ble_eq_true rfl)) dX2_hide_15 ⟨Nat.le_of_ble_eq_true rfl, Nat.le_of_ble_eq_true rfl⟩) hS (fun q _ h => h) (fun q h => h) (fun r_15 u_15 t9 H1 locs1 ht9 hvm9 hw_15 hBw hz9 hk9 hS => ?_)
    obtain ⟨hP, hD⟩ := hBw
    rw [ht9] at hP
    generalize H1 = H at hP hS ⊢
    generalize locs1 = locs at hS ⊢
    replace hP : va_P D vwCl (WM bd cI 1 c hid g code ans dbt many row heap our the wr) H := hP
    replace hD : va_D A (WM bd cI 1 c hid g code ans dbt many row heap our the wr) := hD
    refine x_ti (y := nI (0)) (hw_15.1) ?_
    exact W.iret (v := nI (0)) hx hb hr (fun t ht hW => ⟨⟨_, (1, hid), rfl, (by
        exact Or.inr ⟨rfl, c10, rfl⟩), ⟨by rw [ht]; exact hP, hD⟩⟩, hS.F ht⟩) hS.2.2 dX2_hide_18

set_option maxHeartbeats 4000000 in
set_option maxRecDepth 100000 in
theorem c_X2_swap (l : Launch) (D : va_G) (cI cZ cG cJ : ClassId) (A : Nat → Prop) (bd : Nat → Nat) (wr : va_W) (th : Nat) (c : Nat) (hid : Int32) (g : Nat) (code : Nat → Nat) (ans : Nat → Nat) (dbt : Nat → Bool) (many : Nat) (row : Nat → Nat) (heap : Nat → Nat) (our : Nat → Nat) (the : Nat → Nat) (a : Int32) (b : Int32) (hc : c = 2 ∨ c = 3) (hhid : hid = -1 ∨ ∃ h, h < qq c ∧ hid = nI h) : Met l yX2_swap wsX2_swap ({ frames := 2, cells := 0, slots := 0, locals := 45 }) (va_Pc [.ref (bd 0), .int (a), .int (b)] (Iv D (TY cI cZ cG cJ) A (WM bd cI th c hid g code ans dbt many row heap our the wr))) (va_Qi (fun r (u : Nat × Int32) => (u.1 = 0 ∧ ∃ h pa pb : Nat, h < qq c ∧ pa < 4 ∧ pb < 4 ∧ hid = nI h ∧ a = nI pa ∧ b = nI pb ∧ r = nI (swF c h pa pb 4) ∧ u.2 = nI (swF c h pa pb 4)) ∨ (u.1 = 1 ∧ (plC a = false ∨ plC b = false) ∧ u.2 = hid) ∨ (u.1 = 2 ∧ plC a = true ∧ plC b = true ∧ hid = -1 ∧ u.2 = hid)) (fun u => Wd D A (WM bd cI u.1 c u.2 g code ans dbt many row heap our the wr)) A) 0 0 A := by
  refine Met.ofW (cc := cX2_swap) (maxL := 5) (ret := (some .int)) (by decide) rfl ?_
  intro p e s m args below meth c9 s₁ B hml hv
  obtain ⟨rfl, hP, hD, hB⟩ := hv
  have hK := hB.1
  have hA := hB.2.1
  have hx := B.exec
  have hb := B.bytes
  have hr := B.returns
  have hts := atoms_spec (ws := wsX2_swap) B.pre
  have hown : s.vm.findClass RX2 = some m.cls := findClass_of_methodNamed B.named
  have hlocks := B.notSynchronized
  have hS : va_S A s.heap s.heap [] := va_S.rf
  have hinX2 : ∀ w ∈ wsX20, w ∈ wsX2_swap := by decide +kernel
  have lk13 := hts (.fieldLink RX2 13 "HiddenCandlesModel" "hidden" "I") (by decide +kernel)
  have lk38 := hts (.fieldLink RX2 38 "HiddenCandlesModel" "thrown" "I") (by decide +kernel)
  have hl := lv_entry ([.ref (bd 0), .int (a), .int (b)]) (n := 5) (Nat.le_of_ble_eq_true rfl)
  rw [lg_entry_eq]
  generalize (lg_sl ([.ref (bd 0), .int (a), .int (b)]) ++ List.replicate (5 - (lg_sl ([.ref (bd 0), .int (a), .int (b)])).length) Slot.unset).toArray = ls at hl ⊢
  have hl : lv_has ls 5 [(0, .ref (bd 0)), (1, .int (a)), (2, .int (b))] := hl
  obtain ⟨H, eH⟩ : ∃ q, q = s.heap := ⟨_, rfl⟩
  obtain ⟨locs, eL⟩ : ∃ q : List Loc, q = [] := ⟨_, rfl⟩
  replace hP : va_P D vwCl (WM bd cI th c hid g code ans dbt many row heap our the wr) H := by rw [eH]; exact hP
  replace hS : va_S A s.heap H locs := by rw [eH, eL]; exact hS
  rw [show W p l e _ s m _ below meth c9 s.heap [] = W p l e _ s m _ below meth c9 H locs from by rw [eH, eL]]
  clear eH eL
  have hq := qq_in hc
  refine lv_aload_n hx hb dX2_swap_0 rfl (lv_at hl 0 rfl) ?_
  refine lv_iconst (v := nI (0)) hx hb dX2_swap_1 (by decide) ?_
  refine va_put (D := D) (ci := 2) (v := .int (nI (0))) (ty := .int) (C := RX2) (T := TX2) (N := 12) hx hb hts hinX2 tyX2 tyX2_ok nmX2 hown hK hP hD hS 0 rfl rfl 0 (by decide) lk38 (fun _ h9 => h9) rfl (by decide +kernel) rfl rfl (Nat.le_of_ble_eq_true rfl) dX2_swap_2 (fun H locs hP hD hS => ?_)
  replace hP : va_P D vwCl (WM bd cI 0 c hid g code ans dbt many row heap our the wr) H := hP
  replace hD : va_D A (WM bd cI 0 c hid g code ans dbt many row heap our the wr) := hD
  refine lv_iload_n hx hb dX2_swap_5 rfl (lv_at hl 1 rfl) ?_
  refine x_csi (va_runS (As := [.int (a)]) (rest := []) ⟨hx, hb, hml, hown, hts⟩ (c_X2_isPlace l D cI cZ cG cJ A (WM bd cI 0 c hid g code ans dbt many row heap our the wr) a ) (va_cwS 1 hts gX2_swap_X2_isPlace rfl rfl rfl (by decide +kernel) ⟨Nat.le_of_ble_eq_true rfl, Nat.le_of_ble_eq_true rfl⟩) (preS hB hS hP hD) rfl rfl hl.1 rfl (lv_room (Nat.le_of_ble_eq_true rfl)) dX2_swap_6 ⟨Nat.le_of_ble_eq_true rfl, Nat.le_of_ble_eq_true rfl⟩) ?_
  refine x_zeq (tgt := 19) hx hb dX2_swap_9 (by decide) (fun c9 => ?_) (fun c9 => ?_)
  · skip
    refine lv_aload_n hx hb dX2_swap_19 rfl (lv_at hl 0 rfl) ?_
    refine lv_iconst (v := nI (1)) hx hb dX2_swap_20 (by decide) ?_
    refine va_calli (va_runV (As := [.int (nI (1))]) (rest := []) ⟨hx, hb, hml, hown, hts⟩ (c_X2_no l D cI cZ cG cJ A bd wr 0 c hid g code ans dbt many row heap our the 1 ) (cwV 1 hts gX2_swap_X2_no rfl rfl rfl (by decide +kernel) ⟨Nat.le_of_ble_eq_true rfl, Nat.le_of_ble_eq_true rfl⟩) (preV (ci := 2) (q0 := 0) hB hS hP hD rfl rfl) rfl rfl hl.1 rfl (lv_room (Nat.le_of_ble_eq_true rfl)) dX2_swap_21 ⟨Nat.le_of_ble_eq_true rfl, Nat.le_of_ble_eq_true rfl⟩) hS (fun q _ h => h) (fun q h => h) (fun r_21 u_21 t9 H1 locs1 ht9 hvm9 hw_21 hBw hz9 hk9 hS => ?_)
    obtain ⟨hP, hD⟩ := hBw
    rw [ht9] at hP
    generalize H1 = H at hP hS ⊢
    generalize locs1 = locs at hS ⊢
    replace hP : va_P D vwCl (WM bd cI 1 c hid g code ans dbt many row heap our the wr) H := hP
    replace hD : va_D A (WM bd cI 1 c hid g code ans dbt many row heap our the wr) := hD
    refine x_ti (y := nI (0)) (hw_21.1) ?_
    exact W.iret (v := nI (0)) hx hb hr (fun t ht hW => ⟨⟨_, (1, hid), rfl, (by
        exact Or.inr (Or.inl ⟨rfl, by first | exact Or.inl c9 | exact Or.inr c16, rfl⟩)), ⟨by rw [ht]; exact hP, hD⟩⟩, hS.F ht⟩) hS.2.2 dX2_swap_24
  · skip
    refine lv_iload_n hx hb dX2_swap_12 rfl (lv_at hl 2 rfl) ?_
    refine x_csi (va_runS (As := [.int (b)]) (rest := []) ⟨hx, hb, hml, hown, hts⟩ (c_X2_isPlace l D cI cZ cG cJ A (WM bd cI 0 c hid g code ans dbt many row heap our the wr) b ) (va_cwS 1 hts gX2_swap_X2_isPlace rfl rfl rfl (by decide +kernel) ⟨Nat.le_of_ble_eq_true rfl, Nat.le_of_ble_eq_true rfl⟩) (preS hB hS hP hD) rfl rfl hl.1 rfl (lv_room (Nat.le_of_ble_eq_true rfl)) dX2_swap_13 ⟨Nat.le_of_ble_eq_true rfl, Nat.le_of_ble_eq_true rfl⟩) ?_
    refine x_zne (tgt := 25) hx hb dX2_swap_16 (by decide) (fun c16 => ?_) (fun c16 => ?_)
    · skip
      refine lv_aload_n hx hb dX2_swap_25 rfl (lv_at hl 0 rfl) ?_
      refine va_get (D := D) (ci := 2) (v := .int (hid)) (C := RX2) (T := TX2) (N := 12) hx hb hts hinX2 hown hK hP 0 rfl rfl 2 (by decide) lk13 (fun _ h9 => h9) rfl dX2_swap_26 ?_
      refine lv_iconst (v := (-1)) hx hb dX2_swap_29 (by decide) ?_
      refine lv_icmp_ne (tgt := 39) hx hb dX2_swap_30 (by decide) (fun c30 => ?_) (fun c30 => ?_)
      · skip
        obtain ⟨h, hh, rfl⟩ := hhid.resolve_left c30
        obtain ⟨pa, hpa, rfl⟩ := plC_of c9
        obtain ⟨pb, hpb, rfl⟩ := plC_of c16
        refine lv_aload_n hx hb dX2_swap_39 rfl (lv_at hl 0 rfl) ?_
        refine lv_aload_n hx hb dX2_swap_40 rfl (lv_at hl 0 rfl) ?_
        refine va_get (D := D) (ci := 2) (v := .int ((nI h))) (C := RX2) (T := TX2) (N := 12) hx hb hts hinX2 hown hK hP 0 rfl rfl 2 (by decide) lk13 (fun _ h9 => h9) rfl dX2_swap_41 ?_
        refine lv_iload_n hx hb dX2_swap_44 rfl (lv_at hl 1 rfl) ?_
        refine x_csi (va_runV (As := [.int (nI (h)), .int (nI (pa))]) (rest := []) ⟨hx, hb, hml, hown, hts⟩ (c_X2_at l D cI cZ cG cJ A bd wr 0 c (nI h) g code ans dbt many row heap our the h pa (hc) (hh) (hpa)) (cwV 2 hts gX2_swap_X2_at rfl rfl rfl (by decide +kernel) ⟨Nat.le_of_ble_eq_true rfl, Nat.le_of_ble_eq_true rfl⟩) (preV (ci := 2) (q0 := 0) hB hS hP hD rfl rfl) rfl rfl hl.1 rfl (lv_room (Nat.le_of_ble_eq_true rfl)) dX2_swap_45 ⟨Nat.le_of_ble_eq_true rfl, Nat.le_of_ble_eq_true rfl⟩) ?_
        have hcl := col_lt hc (h) (pa)
        refine lv_istore_n (lv' := [(3, .int (nI (col c h pa))), (0, .ref (bd 0)), (1, .int (nI (pa))), (2, .int (nI (pb)))]) hx hb dX2_swap_48 rfl hl (by decide) rfl (fun ls hl => ?_)
        refine lv_aload_n hx hb dX2_swap_49 rfl (lv_at hl 1 rfl) ?_
        refine lv_aload_n hx hb dX2_swap_50 rfl (lv_at hl 1 rfl) ?_
        refine va_get (D := D) (ci := 2) (v := .int ((nI h))) (C := RX2) (T := TX2) (N := 12) hx hb hts hinX2 hown hK hP 0 rfl rfl 2 (by decide) lk13 (fun _ h9 => h9) rfl dX2_swap_51 ?_
        refine lv_iload_n hx hb dX2_swap_54 rfl (lv_at hl 3 rfl) ?_
        refine x_csi (va_runV (As := [.int (nI (h)), .int (nI (pb))]) (rest := []) ⟨hx, hb, hml, hown, hts⟩ (c_X2_at l D cI cZ cG cJ A bd wr 0 c (nI h) g code ans dbt many row heap our the h pb (hc) (hh) (hpb)) (cwV 2 hts gX2_swap_X2_at rfl rfl rfl (by decide +kernel) ⟨Nat.le_of_ble_eq_true rfl, Nat.le_of_ble_eq_true rfl⟩) (preV (ci := 2) (q0 := 0) hB hS hP hD rfl rfl) rfl rfl hl.1 rfl (lv_room (Nat.le_of_ble_eq_true rfl)) dX2_swap_55 ⟨Nat.le_of_ble_eq_true rfl, Nat.le_of_ble_eq_true rfl⟩) ?_
        have hcl := col_lt hc (h) (pb)
        refine lv_istore (lv' := [(4, .int (nI (col c h pb))), (3, .int (nI (col c h pa))), (0, .ref (bd 0)), (1, .int (nI (pa))), (2, .int (nI (pb)))]) hx hb dX2_swap_58 hl (by decide) rfl (fun ls hl => ?_)
        refine lv_aload_n hx hb dX2_swap_60 rfl (lv_at hl 2 rfl) ?_
        refine lv_dup hx hb dX2_swap_61 rfl ?_
        refine va_get (D := D) (ci := 2) (v := .int ((nI h))) (C := RX2) (T := TX2) (N := 12) hx hb hts hinX2 hown hK hP 0 rfl rfl 2 (by decide) lk13 (fun _ h9 => h9) rfl dX2_swap_62 ?_
        refine lv_iload hx hb dX2_swap_65 (lv_at hl 0 rfl) ?_
        refine lv_iload_n hx hb dX2_swap_67 rfl (lv_at hl 1 rfl) ?_
        refine lv_isub hx hb dX2_swap_68  ?_
        refine x_ti (y := nI (col c h pb) - nI (col c h pa)) (rfl) ?_
        refine lv_aload_n hx hb dX2_swap_69 rfl (lv_at hl 2 rfl) ?_
        refine lv_iload_n hx hb dX2_swap_70 rfl (lv_at hl 3 rfl) ?_
        refine x_csi (va_runV (As := [.int (nI (pa))]) (rest := [.int (nI (col c h pb) - nI (col c h pa)), .int ((nI h)), .ref (bd 0)]) ⟨hx, hb, hml, hown, hts⟩ (c_X2_weight l D cI cZ cG cJ A bd wr 0 c (nI h) g code ans dbt many row heap our the pa (hc) (hpa)) (cwV 1 hts gX2_swap_X2_weight rfl rfl rfl (by decide +kernel) ⟨Nat.le_of_ble_eq_true rfl, Nat.le_of_ble_eq_true rfl⟩) (preV (ci := 2) (q0 := 0) hB hS hP hD rfl rfl) rfl rfl hl.1 rfl (lv_room (Nat.le_of_ble_eq_true rfl)) dX2_swap_71 ⟨Nat.le_of_ble_eq_true rfl, Nat.le_of_ble_eq_true rfl⟩) ?_
        refine lv_imul hx hb dX2_swap_74  ?_
        refine x_ti (y := (nI (col c h pb) - nI (col c h pa)) * nI (c ^ (3 - pa))) (rfl) ?_
        refine lv_iload_n hx hb dX2_swap_75 rfl (lv_at hl 1 rfl) ?_
        refine lv_iload hx hb dX2_swap_76 (lv_at hl 0 rfl) ?_
        refine lv_isub hx hb dX2_swap_78  ?_
        refine x_ti (y := nI (col c h pa) - nI (col c h pb)) (rfl) ?_
        refine lv_aload_n hx hb dX2_swap_79 rfl (lv_at hl 2 rfl) ?_
        refine lv_iload_n hx hb dX2_swap_80 rfl (lv_at hl 4 rfl) ?_
        refine x_csi (va_runV (As := [.int (nI (pb))]) (rest := [.int (nI (col c h pa) - nI (col c h pb)), .int ((nI (col c h pb) - nI (col c h pa)) * nI (c ^ (3 - pa))), .int ((nI h)), .ref (bd 0)]) ⟨hx, hb, hml, hown, hts⟩ (c_X2_weight l D cI cZ cG cJ A bd wr 0 c (nI h) g code ans dbt many row heap our the pb (hc) (hpb)) (cwV 1 hts gX2_swap_X2_weight rfl rfl rfl (by decide +kernel) ⟨Nat.le_of_ble_eq_true rfl, Nat.le_of_ble_eq_true rfl⟩) (preV (ci := 2) (q0 := 0) hB hS hP hD rfl rfl) rfl rfl hl.1 rfl (lv_room (Nat.le_of_ble_eq_true rfl)) dX2_swap_81 ⟨Nat.le_of_ble_eq_true rfl, Nat.le_of_ble_eq_true rfl⟩) ?_
        refine lv_imul hx hb dX2_swap_84  ?_
        refine x_ti (y := (nI (col c h pa) - nI (col c h pb)) * nI (c ^ (3 - pb))) (rfl) ?_
        refine lv_iadd hx hb dX2_swap_85  ?_
        refine x_ti (y := (nI (col c h pb) - nI (col c h pa)) * nI (c ^ (3 - pa)) + (nI (col c h pa) - nI (col c h pb)) * nI (c ^ (3 - pb))) (rfl) ?_
        refine lv_iadd hx hb dX2_swap_86  ?_
        refine x_ti (y := nI (swF c h pa pb 4)) (sw_tab hc hh hpa hpb) ?_
        refine va_put (D := D) (ci := 2) (v := .int (nI (swF c h pa pb 4))) (ty := .int) (C := RX2) (T := TX2) (N := 12) hx hb hts hinX2 tyX2 tyX2_ok nmX2 hown hK hP hD hS 0 rfl rfl 2 (by decide) lk13 (fun _ h9 => h9) rfl (by decide +kernel) rfl rfl (Nat.le_of_ble_eq_true rfl) dX2_swap_87 (fun H locs hP hD hS => ?_)
        replace hP : va_P D vwCl (WM bd cI 0 c (nI (swF c h pa pb 4)) g code ans dbt many row heap our the wr) H := hP
        replace hD : va_D A (WM bd cI 0 c (nI (swF c h pa pb 4)) g code ans dbt many row heap our the wr) := hD
        refine lv_aload_n hx hb dX2_swap_90 rfl (lv_at hl 2 rfl) ?_
        refine va_get (D := D) (ci := 2) (v := .int ((nI (swF c h pa pb 4)))) (C := RX2) (T := TX2) (N := 12) hx hb hts hinX2 hown hK hP 0 rfl rfl 2 (by decide) lk13 (fun _ h9 => h9) rfl dX2_swap_91 ?_
        exact W.iret (v := (nI (swF c h pa pb 4))) hx hb hr (fun t ht hW => ⟨⟨_, (0, nI (swF c h pa pb 4)), rfl, (by
            exact Or.inl ⟨rfl, h, pa, pb, hh, hpa, hpb, rfl, rfl, rfl, rfl, rfl⟩), ⟨by rw [ht]; exact hP, hD⟩⟩, hS.F ht⟩) hS.2.2 dX2_swap_94
      · skip
        refine lv_aload_n hx hb dX2_swap_33 rfl (lv_at hl 0 rfl) ?_
        refine lv_iconst (v := nI (2)) hx hb dX2_swap_34 (by decide) ?_
        refine va_calli (va_runV (As := [.int (nI (2))]) (rest := []) ⟨hx, hb, hml, hown, hts⟩ (c_X2_no l D cI cZ cG cJ A bd wr 0 c hid g code ans dbt many row heap our the 2 ) (cwV 1 hts gX2_swap_X2_no rfl rfl rfl (by decide +kernel) ⟨Nat.le_of_ble_eq_true rfl, Nat.le_of_ble_eq_true rfl⟩) (preV (ci := 2) (q0 := 0) hB hS hP hD rfl rfl) rfl rfl hl.1 rfl (lv_room (Nat.le_of_ble_eq_true rfl)) dX2_swap_35 ⟨Nat.le_of_ble_eq_true rfl, Nat.le_of_ble_eq_true rfl⟩) hS (fun q _ h => h) (fun q h => h) (fun r_35 u_35 t9 H1 locs1 ht9 hvm9 hw_35 hBw hz9 hk9 hS => ?_)
        obtain ⟨hP, hD⟩ := hBw
        rw [ht9] at hP
        generalize H1 = H at hP hS ⊢
        generalize locs1 = locs at hS ⊢
        replace hP : va_P D vwCl (WM bd cI 2 c hid g code ans dbt many row heap our the wr) H := hP
        replace hD : va_D A (WM bd cI 2 c hid g code ans dbt many row heap our the wr) := hD
        refine x_ti (y := nI (0)) (hw_35.1) ?_
        exact W.iret (v := nI (0)) hx hb hr (fun t ht hW => ⟨⟨_, (2, hid), rfl, (by
            exact Or.inr (Or.inr ⟨rfl, c9, c16, c30, rfl⟩)), ⟨by rw [ht]; exact hP, hD⟩⟩, hS.F ht⟩) hS.2.2 dX2_swap_38
    · skip
      refine lv_aload_n hx hb dX2_swap_19 rfl (lv_at hl 0 rfl) ?_
      refine lv_iconst (v := nI (1)) hx hb dX2_swap_20 (by decide) ?_
      refine va_calli (va_runV (As := [.int (nI (1))]) (rest := []) ⟨hx, hb, hml, hown, hts⟩ (c_X2_no l D cI cZ cG cJ A bd wr 0 c hid g code ans dbt many row heap our the 1 ) (cwV 1 hts gX2_swap_X2_no rfl rfl rfl (by decide +kernel) ⟨Nat.le_of_ble_eq_true rfl, Nat.le_of_ble_eq_true rfl⟩) (preV (ci := 2) (q0 := 0) hB hS hP hD rfl rfl) rfl rfl hl.1 rfl (lv_room (Nat.le_of_ble_eq_true rfl)) dX2_swap_21 ⟨Nat.le_of_ble_eq_true rfl, Nat.le_of_ble_eq_true rfl⟩) hS (fun q _ h => h) (fun q h => h) (fun r_21 u_21 t9 H1 locs1 ht9 hvm9 hw_21 hBw hz9 hk9 hS => ?_)
      obtain ⟨hP, hD⟩ := hBw
      rw [ht9] at hP
      generalize H1 = H at hP hS ⊢
      generalize locs1 = locs at hS ⊢
      replace hP : va_P D vwCl (WM bd cI 1 c hid g code ans dbt many row heap our the wr) H := hP
      replace hD : va_D A (WM bd cI 1 c hid g code ans dbt many row heap our the wr) := hD
      refine x_ti (y := nI (0)) (hw_21.1) ?_
      exact W.iret (v := nI (0)) hx hb hr (fun t ht hW => ⟨⟨_, (1, hid), rfl, (by
          exact Or.inr (Or.inl ⟨rfl, by first | exact Or.inl c9 | exact Or.inr c16, rfl⟩)), ⟨by rw [ht]; exact hP, hD⟩⟩, hS.F ht⟩) hS.2.2 dX2_swap_24

set_option maxHeartbeats 4000000 in
set_option maxRecDepth 100000 in
theorem c_X2_note (l : Launch) (D : va_G) (cI cZ cG cJ : ClassId) (A : Nat → Prop) (bd : Nat → Nat) (wr : va_W) (th : Nat) (c : Nat) (hid : Int32) (g : Nat) (code : Nat → Nat) (ans : Nat → Nat) (dbt : Nat → Bool) (many : Nat) (row : Nat → Nat) (heap : Nat → Nat) (our : Nat → Nat) (the : Nat → Nat) (k : Nat) (an : Nat) (hg12 : g < 12) : Met l yX2_note wsX2_note ({ frames := 0, cells := 0, slots := 0, locals := 0 }) (va_Pc [.ref (bd 0), .int (nI (k)), .int (nI (an))] (Iv D (TY cI cZ cG cJ) A (WM bd cI th c hid g code ans dbt many row heap our the wr))) (va_Qv (fun (u : Unit) => True) (fun u => Wd D A (WM bd cI th c hid (g + 1) (va_up code g k) (va_up ans g an) (va_up dbt g false) many row heap our the wr)) A) 0 0 A := by
  refine Met.ofW (cc := cX2_note) (maxL := 3) (ret := none) (by decide) rfl ?_
  intro p e s m args below meth c9 s₁ B hml hv
  obtain ⟨rfl, hP, hD, hB⟩ := hv
  have hK := hB.1
  have hA := hB.2.1
  have hx := B.exec
  have hb := B.bytes
  have hr := B.returns
  have hts := atoms_spec (ws := wsX2_note) B.pre
  have hown : s.vm.findClass RX2 = some m.cls := findClass_of_methodNamed B.named
  have hlocks := B.notSynchronized
  have hS : va_S A s.heap s.heap [] := va_S.rf
  have hinX2 : ∀ w ∈ wsX20, w ∈ wsX2_note := by decide +kernel
  have lk16 := hts (.fieldLink RX2 16 "HiddenCandlesModel" "code" "[I") (by decide +kernel)
  have lk20 := hts (.fieldLink RX2 20 "HiddenCandlesModel" "answer" "[I") (by decide +kernel)
  have lk23 := hts (.fieldLink RX2 23 "HiddenCandlesModel" "doubted" "[I") (by decide +kernel)
  have lk49 := hts (.fieldLink RX2 49 "HiddenCandlesModel" "guesses" "I") (by decide +kernel)
  have hl := lv_entry ([.ref (bd 0), .int (nI (k)), .int (nI (an))]) (n := 3) (Nat.le_of_ble_eq_true rfl)
  rw [lg_entry_eq]
  generalize (lg_sl ([.ref (bd 0), .int (nI (k)), .int (nI (an))]) ++ List.replicate (3 - (lg_sl ([.ref (bd 0), .int (nI (k)), .int (nI (an))])).length) Slot.unset).toArray = ls at hl ⊢
  have hl : lv_has ls 3 [(0, .ref (bd 0)), (1, .int (nI (k))), (2, .int (nI (an)))] := hl
  obtain ⟨H, eH⟩ : ∃ q, q = s.heap := ⟨_, rfl⟩
  obtain ⟨locs, eL⟩ : ∃ q : List Loc, q = [] := ⟨_, rfl⟩
  replace hP : va_P D vwCl (WM bd cI th c hid g code ans dbt many row heap our the wr) H := by rw [eH]; exact hP
  replace hS : va_S A s.heap H locs := by rw [eH, eL]; exact hS
  rw [show W p l e _ s m _ below meth c9 s.heap [] = W p l e _ s m _ below meth c9 H locs from by rw [eH, eL]]
  clear eH eL
  refine lv_aload_n hx hb dX2_note_0 rfl (lv_at hl 0 rfl) ?_
  refine va_get (D := D) (ci := 2) (v := .ref (bd 1)) (C := RX2) (T := TX2) (N := 12) hx hb hts hinX2 hown hK hP 0 rfl rfl 4 (by decide) lk16 (fun _ h9 => h9) rfl dX2_note_1 ?_
  refine lv_aload_n hx hb dX2_note_4 rfl (lv_at hl 0 rfl) ?_
  refine va_get (D := D) (ci := 2) (v := .int (nI (g))) (C := RX2) (T := TX2) (N := 12) hx hb hts hinX2 hown hK hP 0 rfl rfl 3 (by decide) lk49 (fun _ h9 => h9) rfl dX2_note_5 ?_
  refine lv_iload_n hx hb dX2_note_8 rfl (lv_at hl 1 rfl) ?_
  refine x_iast hx hb hK hP hD hS 1 0 rfl rfl (i := g) (v := k) (by omega) (by omega) dX2_note_9 (fun H locs hP hD hS => ?_)
  replace hP : va_P D vwCl (WM bd cI th c hid g (va_up code g k) ans dbt many row heap our the wr) H := hP
  replace hD : va_D A (WM bd cI th c hid g (va_up code g k) ans dbt many row heap our the wr) := hD
  refine lv_aload_n hx hb dX2_note_10 rfl (lv_at hl 0 rfl) ?_
  refine va_get (D := D) (ci := 2) (v := .ref (bd 2)) (C := RX2) (T := TX2) (N := 12) hx hb hts hinX2 hown hK hP 0 rfl rfl 5 (by decide) lk20 (fun _ h9 => h9) rfl dX2_note_11 ?_
  refine lv_aload_n hx hb dX2_note_14 rfl (lv_at hl 0 rfl) ?_
  refine va_get (D := D) (ci := 2) (v := .int (nI (g))) (C := RX2) (T := TX2) (N := 12) hx hb hts hinX2 hown hK hP 0 rfl rfl 3 (by decide) lk49 (fun _ h9 => h9) rfl dX2_note_15 ?_
  refine lv_iload_n hx hb dX2_note_18 rfl (lv_at hl 2 rfl) ?_
  refine x_iast hx hb hK hP hD hS 2 0 rfl rfl (i := g) (v := an) (by omega) (by omega) dX2_note_19 (fun H locs hP hD hS => ?_)
  replace hP : va_P D vwCl (WM bd cI th c hid g (va_up code g k) (va_up ans g an) dbt many row heap our the wr) H := hP
  replace hD : va_D A (WM bd cI th c hid g (va_up code g k) (va_up ans g an) dbt many row heap our the wr) := hD
  refine lv_aload_n hx hb dX2_note_20 rfl (lv_at hl 0 rfl) ?_
  refine va_get (D := D) (ci := 2) (v := .ref (bd 3)) (C := RX2) (T := TX2) (N := 12) hx hb hts hinX2 hown hK hP 0 rfl rfl 6 (by decide) lk23 (fun _ h9 => h9) rfl dX2_note_21 ?_
  refine lv_aload_n hx hb dX2_note_24 rfl (lv_at hl 0 rfl) ?_
  refine va_get (D := D) (ci := 2) (v := .int (nI (g))) (C := RX2) (T := TX2) (N := 12) hx hb hts hinX2 hown hK hP 0 rfl rfl 3 (by decide) lk49 (fun _ h9 => h9) rfl dX2_note_25 ?_
  refine lv_iconst (v := bI (false)) hx hb dX2_note_28 (by decide) ?_
  refine x_iastB hx hb hK hP hD hS 3 0 rfl rfl (i := g) (v := false) (by omega) (by omega) dX2_note_29 (fun H locs hP hD hS => ?_)
  replace hP : va_P D vwCl (WM bd cI th c hid g (va_up code g k) (va_up ans g an) (va_up dbt g false) many row heap our the wr) H := hP
  replace hD : va_D A (WM bd cI th c hid g (va_up code g k) (va_up ans g an) (va_up dbt g false) many row heap our the wr) := hD
  refine lv_aload_n hx hb dX2_note_30 rfl (lv_at hl 0 rfl) ?_
  refine lv_dup hx hb dX2_note_31 rfl ?_
  refine va_get (D := D) (ci := 2) (v := .int (nI (g))) (C := RX2) (T := TX2) (N := 12) hx hb hts hinX2 hown hK hP 0 rfl rfl 3 (by decide) lk49 (fun _ h9 => h9) rfl dX2_note_32 ?_
  refine lv_iconst (v := nI (1)) hx hb dX2_note_35 (by decide) ?_
  refine lv_iadd hx hb dX2_note_36 ?_
  refine x_ti (nI_add _ _) ?_
  refine va_put (D := D) (ci := 2) (v := .int (nI (g + 1))) (ty := .int) (C := RX2) (T := TX2) (N := 12) hx hb hts hinX2 tyX2 tyX2_ok nmX2 hown hK hP hD hS 0 rfl rfl 3 (by decide) lk49 (fun _ h9 => h9) rfl (by decide +kernel) rfl rfl (Nat.le_of_ble_eq_true rfl) dX2_note_37 (fun H locs hP hD hS => ?_)
  replace hP : va_P D vwCl (WM bd cI th c hid (g + 1) (va_up code g k) (va_up ans g an) (va_up dbt g false) many row heap our the wr) H := hP
  replace hD : va_D A (WM bd cI th c hid (g + 1) (va_up code g k) (va_up ans g an) (va_up dbt g false) many row heap our the wr) := hD
  exact W.vret hx hb hr (fun t ht hW => ⟨⟨(), rfl, (by
      trivial), ⟨by rw [ht]; exact hP, hD⟩⟩, hS.F ht⟩) hS.2.2 dX2_note_40

set_option maxHeartbeats 4000000 in
set_option maxRecDepth 100000 in
theorem c_X2_guess (l : Launch) (D : va_G) (cI cZ cG cJ : ClassId) (A : Nat → Prop) (bd : Nat → Nat) (wr : va_W) (th : Nat) (c : Nat) (hid : Int32) (g : Nat) (code : Nat → Nat) (ans : Nat → Nat) (dbt : Nat → Bool) (many : Nat) (row : Nat → Nat) (heap : Nat → Nat) (our : Nat → Nat) (the : Nat → Nat) (v : Int32) (hc : c = 2 ∨ c = 3) (hg : g ≤ 12) (hco : CodeOK c g code ans) (hhid : hid = -1 ∨ ∃ h, h < qq c ∧ hid = nI h) : Met l yX2_guess wsX2_guess ({ frames := 3, cells := 0, slots := 0, locals := 70 }) (va_Pc [.ref (bd 0), .int (v)] (Iv D (TY cI cZ cG cJ) A (WM bd cI th c hid g code ans dbt many row heap our the wr))) (va_Qi (fun r (u : (Nat × Nat × (Nat → Nat) × (Nat → Nat) × (Nat → Bool)) × (Nat → Nat) × (Nat → Nat)) => (u.1.1 = 0 ∧ ∃ k h : Nat, k < qq c ∧ v = nI k ∧ h < qq c ∧ hid = nI h ∧ g < 12 ∧ r = nI (pins c k h) ∧ u.1.2.1 = g + 1 ∧ u.1.2.2.1 = va_up code g k ∧ u.1.2.2.2.1 = va_up ans g (pins c k h) ∧ u.1.2.2.2.2 = va_up dbt g false) ∨ (u.1.1 = 1 ∧ hasC c v = false ∧ u.1.2.1 = g ∧ u.1.2.2.1 = code ∧ u.1.2.2.2.1 = ans ∧ u.1.2.2.2.2 = dbt) ∨ (u.1.1 = 2 ∧ hasC c v = true ∧ (hid = -1 ∨ 12 ≤ g) ∧ u.1.2.1 = g ∧ u.1.2.2.1 = code ∧ u.1.2.2.2.1 = ans ∧ u.1.2.2.2.2 = dbt)) (fun u => Wd D A (WM bd cI u.1.1 c hid u.1.2.1 u.1.2.2.1 u.1.2.2.2.1 u.1.2.2.2.2 many row heap u.2.1 u.2.2 wr)) A) 0 0 A := by
  refine Met.ofW (cc := cX2_guess) (maxL := 2) (ret := (some .int)) (by decide) rfl ?_
  intro p e s m args below meth c9 s₁ B hml hv
  obtain ⟨rfl, hP, hD, hB⟩ := hv
  have hK := hB.1
  have hA := hB.2.1
  have hx := B.exec
  have hb := B.bytes
  have hr := B.returns
  have hts := atoms_spec (ws := wsX2_guess) B.pre
  have hown : s.vm.findClass RX2 = some m.cls := findClass_of_methodNamed B.named
  have hlocks := B.notSynchronized
  have hS : va_S A s.heap s.heap [] := va_S.rf
  have hinX2 : ∀ w ∈ wsX20, w ∈ wsX2_guess := by decide +kernel
  have lk13 := hts (.fieldLink RX2 13 "HiddenCandlesModel" "hidden" "I") (by decide +kernel)
  have lk20 := hts (.fieldLink RX2 20 "HiddenCandlesModel" "answer" "[I") (by decide +kernel)
  have lk38 := hts (.fieldLink RX2 38 "HiddenCandlesModel" "thrown" "I") (by decide +kernel)
  have lk49 := hts (.fieldLink RX2 49 "HiddenCandlesModel" "guesses" "I") (by decide +kernel)
  have hl := lv_entry ([.ref (bd 0), .int (v)]) (n := 2) (Nat.le_of_ble_eq_true rfl)
  rw [lg_entry_eq]
  generalize (lg_sl ([.ref (bd 0), .int (v)]) ++ List.replicate (2 - (lg_sl ([.ref (bd 0), .int (v)])).length) Slot.unset).toArray = ls at hl ⊢
  have hl : lv_has ls 2 [(0, .ref (bd 0)), (1, .int (v))] := hl
  obtain ⟨H, eH⟩ : ∃ q, q = s.heap := ⟨_, rfl⟩
  obtain ⟨locs, eL⟩ : ∃ q : List Loc, q = [] := ⟨_, rfl⟩
  replace hP : va_P D vwCl (WM bd cI th c hid g code ans dbt many row heap our the wr) H := by rw [eH]; exact hP
  replace hS : va_S A s.heap H locs := by rw [eH, eL]; exact hS
  rw [show W p l e _ s m _ below meth c9 s.heap [] = W p l e _ s m _ below meth c9 H locs from by rw [eH, eL]]
  clear eH eL
  have hq := qq_in hc
  refine lv_aload_n hx hb dX2_guess_0 rfl (lv_at hl 0 rfl) ?_
  refine lv_iconst (v := nI (0)) hx hb dX2_guess_1 (by decide) ?_
  refine va_put (D := D) (ci := 2) (v := .int (nI (0))) (ty := .int) (C := RX2) (T := TX2) (N := 12) hx hb hts hinX2 tyX2 tyX2_ok nmX2 hown hK hP hD hS 0 rfl rfl 0 (by decide) lk38 (fun _ h9 => h9) rfl (by decide +kernel) rfl rfl (Nat.le_of_ble_eq_true rfl) dX2_guess_2 (fun H locs hP hD hS => ?_)
  replace hP : va_P D vwCl (WM bd cI 0 c hid g code ans dbt many row heap our the wr) H := hP
  replace hD : va_D A (WM bd cI 0 c hid g code ans dbt many row heap our the wr) := hD
  refine lv_aload_n hx hb dX2_guess_5 rfl (lv_at hl 0 rfl) ?_
  refine lv_iload_n hx hb dX2_guess_6 rfl (lv_at hl 1 rfl) ?_
  refine x_csi (va_runV (As := [.int (v)]) (rest := []) ⟨hx, hb, hml, hown, hts⟩ (c_X2_isCode l D cI cZ cG cJ A bd wr 0 c hid g code ans dbt many row heap our the v (hc)) (cwV 1 hts gX2_guess_X2_isCode rfl rfl rfl (by decide +kernel) ⟨Nat.le_of_ble_eq_true rfl, Nat.le_of_ble_eq_true rfl⟩) (preV (ci := 2) (q0 := 0) hB hS hP hD rfl rfl) rfl rfl hl.1 rfl (lv_room (Nat.le_of_ble_eq_true rfl)) dX2_guess_7 ⟨Nat.le_of_ble_eq_true rfl, Nat.le_of_ble_eq_true rfl⟩) ?_
  refine x_zne (tgt := 19) hx hb dX2_guess_10 (by decide) (fun c10 => ?_) (fun c10 => ?_)
  · skip
    refine lv_aload_n hx hb dX2_guess_19 rfl (lv_at hl 0 rfl) ?_
    refine va_get (D := D) (ci := 2) (v := .int (hid)) (C := RX2) (T := TX2) (N := 12) hx hb hts hinX2 hown hK hP 0 rfl rfl 2 (by decide) lk13 (fun _ h9 => h9) rfl dX2_guess_20 ?_
    refine lv_iconst (v := (-1)) hx hb dX2_guess_23 (by decide) ?_
    refine lv_icmp_eq (tgt := 36) hx hb dX2_guess_24 (by decide) (fun c24 => ?_) (fun c24 => ?_)
    · skip
      refine lv_aload_n hx hb dX2_guess_36 rfl (lv_at hl 0 rfl) ?_
      refine lv_iconst (v := nI (2)) hx hb dX2_guess_37 (by decide) ?_
      refine va_calli (va_runV (As := [.int (nI (2))]) (rest := []) ⟨hx, hb, hml, hown, hts⟩ (c_X2_no l D cI cZ cG cJ A bd wr 0 c hid g code ans dbt many row heap our the 2 ) (cwV 1 hts gX2_guess_X2_no rfl rfl rfl (by decide +kernel) ⟨Nat.le_of_ble_eq_true rfl, Nat.le_of_ble_eq_true rfl⟩) (preV (ci := 2) (q0 := 0) hB hS hP hD rfl rfl) rfl rfl hl.1 rfl (lv_room (Nat.le_of_ble_eq_true rfl)) dX2_guess_38 ⟨Nat.le_of_ble_eq_true rfl, Nat.le_of_ble_eq_true rfl⟩) hS (fun q _ h => h) (fun q h => h) (fun r_38 u_38 t9 H1 locs1 ht9 hvm9 hw_38 hBw hz9 hk9 hS => ?_)
      obtain ⟨hP, hD⟩ := hBw
      rw [ht9] at hP
      generalize H1 = H at hP hS ⊢
      generalize locs1 = locs at hS ⊢
      replace hP : va_P D vwCl (WM bd cI 2 c hid g code ans dbt many row heap our the wr) H := hP
      replace hD : va_D A (WM bd cI 2 c hid g code ans dbt many row heap our the wr) := hD
      refine x_ti (y := nI (0)) (hw_38.1) ?_
      exact W.iret (v := nI (0)) hx hb hr (fun t ht hW => ⟨⟨_, ((2, g, code, ans, dbt), our, the), rfl, (by
          exact Or.inr (Or.inr ⟨rfl, c10, by first | exact Or.inl c24 | exact Or.inr (by omega), rfl, rfl, rfl, rfl⟩)), ⟨by rw [ht]; exact hP, hD⟩⟩, hS.F ht⟩) hS.2.2 dX2_guess_41
    · skip
      refine lv_aload_n hx hb dX2_guess_27 rfl (lv_at hl 0 rfl) ?_
      refine va_get (D := D) (ci := 2) (v := .int (nI (g))) (C := RX2) (T := TX2) (N := 12) hx hb hts hinX2 hown hK hP 0 rfl rfl 3 (by decide) lk49 (fun _ h9 => h9) rfl dX2_guess_28 ?_
      refine lv_bipush (v := nI (12)) hx hb dX2_guess_31 (by decide) ?_
      refine x_ne (tgt := 42) hx hb dX2_guess_33 (by decide) (by omega) (by omega) (fun c33 => ?_) (fun c33 => ?_)
      · skip
        obtain ⟨h, hh, rfl⟩ := hhid.resolve_left c24
        obtain ⟨k, hk, rfl⟩ := hasC_of hc c10
        have hg12 : g < 12 := by omega
        refine lv_aload_n hx hb dX2_guess_42 rfl (lv_at hl 0 rfl) ?_
        refine lv_iload_n hx hb dX2_guess_43 rfl (lv_at hl 1 rfl) ?_
        refine lv_aload_n hx hb dX2_guess_44 rfl (lv_at hl 0 rfl) ?_
        refine lv_iload_n hx hb dX2_guess_45 rfl (lv_at hl 1 rfl) ?_
        refine lv_aload_n hx hb dX2_guess_46 rfl (lv_at hl 0 rfl) ?_
        refine va_get (D := D) (ci := 2) (v := .int ((nI h))) (C := RX2) (T := TX2) (N := 12) hx hb hts hinX2 hown hK hP 0 rfl rfl 2 (by decide) lk13 (fun _ h9 => h9) rfl dX2_guess_47 ?_
        refine va_calli (va_runV (As := [.int (nI (k)), .int (nI (h))]) (rest := [.int (nI (k)), .ref (bd 0)]) ⟨hx, hb, hml, hown, hts⟩ (c_X2_answerTo l D cI cZ cG cJ A bd wr 0 c (nI h) g code ans dbt many row heap our the k h (hc) (hk) (hh)) (cwV 2 hts gX2_guess_X2_answerTo rfl rfl rfl (by decide +kernel) ⟨Nat.le_of_ble_eq_true rfl, Nat.le_of_ble_eq_true rfl⟩) (preV (ci := 2) (q0 := 0) hB hS hP hD rfl rfl) rfl rfl hl.1 rfl (lv_room (Nat.le_of_ble_eq_true rfl)) dX2_guess_50 ⟨Nat.le_of_ble_eq_true rfl, Nat.le_of_ble_eq_true rfl⟩) hS (fun q _ h => h) (fun q h => h) (fun r_50 u_50 t9 H1 locs1 ht9 hvm9 hw_50 hBw hz9 hk9 hS => ?_)
        obtain ⟨hP, hD⟩ := hBw
        rw [ht9] at hP
        generalize H1 = H at hP hS ⊢
        generalize locs1 = locs at hS ⊢
        replace hP : va_P D vwCl (WM bd cI 0 c (nI h) g code ans dbt many row heap u_50.1 u_50.2 wr) H := hP
        replace hD : va_D A (WM bd cI 0 c (nI h) g code ans dbt many row heap u_50.1 u_50.2 wr) := hD
        refine x_ti (y := nI (pins c k h)) (hw_50.1) ?_
        have hpi := pins_le hc (hk) (hh)
        refine va_callv (va_runV (As := [.int (nI (k)), .int (nI (pins c k h))]) (rest := []) ⟨hx, hb, hml, hown, hts⟩ (c_X2_note l D cI cZ cG cJ A bd wr 0 c (nI h) g code ans dbt many row heap u_50.1 u_50.2 k (pins c k h) (hg12)) (cwV 2 hts gX2_guess_X2_note rfl rfl rfl (by decide +kernel) ⟨Nat.le_of_ble_eq_true rfl, Nat.le_of_ble_eq_true rfl⟩) (preV (ci := 2) (q0 := 0) hB hS hP hD rfl rfl) rfl rfl hl.1 rfl (lv_room (Nat.le_of_ble_eq_true rfl)) dX2_guess_53 ⟨Nat.le_of_ble_eq_true rfl, Nat.le_of_ble_eq_true rfl⟩) hS (fun q _ h => h) (fun q h => h) (fun u_53 t9 H1 locs1 ht9 hvm9 hw_53 hBw hz9 hk9 hS => ?_)
        obtain ⟨hP, hD⟩ := hBw
        rw [ht9] at hP
        generalize H1 = H at hP hS ⊢
        generalize locs1 = locs at hS ⊢
        replace hP : va_P D vwCl (WM bd cI 0 c (nI h) (g + 1) (va_up code g k) (va_up ans g (pins c k h)) (va_up dbt g false) many row heap u_50.1 u_50.2 wr) H := hP
        replace hD : va_D A (WM bd cI 0 c (nI h) (g + 1) (va_up code g k) (va_up ans g (pins c k h)) (va_up dbt g false) many row heap u_50.1 u_50.2 wr) := hD
        refine lv_aload_n hx hb dX2_guess_56 rfl (lv_at hl 0 rfl) ?_
        refine va_get (D := D) (ci := 2) (v := .ref (bd 2)) (C := RX2) (T := TX2) (N := 12) hx hb hts hinX2 hown hK hP 0 rfl rfl 5 (by decide) lk20 (fun _ h9 => h9) rfl dX2_guess_57 ?_
        refine lv_aload_n hx hb dX2_guess_60 rfl (lv_at hl 0 rfl) ?_
        refine va_get (D := D) (ci := 2) (v := .int (nI ((g + 1)))) (C := RX2) (T := TX2) (N := 12) hx hb hts hinX2 hown hK hP 0 rfl rfl 3 (by decide) lk49 (fun _ h9 => h9) rfl dX2_guess_61 ?_
        refine lv_iconst (v := nI (1)) hx hb dX2_guess_64 (by decide) ?_
        refine lv_isub hx hb dX2_guess_65 ?_
        refine x_ti (pk_sub (by omega)) ?_
        refine x_iald hx hb hK hP 2 0 rfl rfl (i := (g + 1) - 1) (by omega) (by omega) dX2_guess_66 ?_
        refine x_ti (y := nI (pins c k h)) (by rw [Nat.add_sub_cancel, va_up_self]) ?_
        exact W.iret (v := nI (pins c k h)) hx hb hr (fun t ht hW => ⟨⟨_, ((0, g + 1, va_up code g k, va_up ans g (pins c k h), va_up dbt g false), u_50.1, u_50.2), rfl, (by
            exact Or.inl ⟨rfl, k, h, hk, rfl, hh, rfl, hg12, rfl, rfl, rfl, rfl, rfl⟩), ⟨by rw [ht]; exact hP, hD⟩⟩, hS.F ht⟩) hS.2.2 dX2_guess_67
      · skip
        refine lv_aload_n hx hb dX2_guess_36 rfl (lv_at hl 0 rfl) ?_
        refine lv_iconst (v := nI (2)) hx hb dX2_guess_37 (by decide) ?_
        refine va_calli (va_runV (As := [.int (nI (2))]) (rest := []) ⟨hx, hb, hml, hown, hts⟩ (c_X2_no l D cI cZ cG cJ A bd wr 0 c hid g code ans dbt many row heap our the 2 ) (cwV 1 hts gX2_guess_X2_no rfl rfl rfl (by decide +kernel) ⟨Nat.le_of_ble_eq_true rfl, Nat.le_of_ble_eq_true rfl⟩) (preV (ci := 2) (q0 := 0) hB hS hP hD rfl rfl) rfl rfl hl.1 rfl (lv_room (Nat.le_of_ble_eq_true rfl)) dX2_guess_38 ⟨Nat.le_of_ble_eq_true rfl, Nat.le_of_ble_eq_true rfl⟩) hS (fun q _ h => h) (fun q h => h) (fun r_38 u_38 t9 H1 locs1 ht9 hvm9 hw_38 hBw hz9 hk9 hS => ?_)
        obtain ⟨hP, hD⟩ := hBw
        rw [ht9] at hP
        generalize H1 = H at hP hS ⊢
        generalize locs1 = locs at hS ⊢
        replace hP : va_P D vwCl (WM bd cI 2 c hid g code ans dbt many row heap our the wr) H := hP
        replace hD : va_D A (WM bd cI 2 c hid g code ans dbt many row heap our the wr) := hD
        refine x_ti (y := nI (0)) (hw_38.1) ?_
        exact W.iret (v := nI (0)) hx hb hr (fun t ht hW => ⟨⟨_, ((2, g, code, ans, dbt), our, the), rfl, (by
            exact Or.inr (Or.inr ⟨rfl, c10, by first | exact Or.inl c24 | exact Or.inr (by omega), rfl, rfl, rfl, rfl⟩)), ⟨by rw [ht]; exact hP, hD⟩⟩, hS.F ht⟩) hS.2.2 dX2_guess_41
  · skip
    refine lv_aload_n hx hb dX2_guess_13 rfl (lv_at hl 0 rfl) ?_
    refine lv_iconst (v := nI (1)) hx hb dX2_guess_14 (by decide) ?_
    refine va_calli (va_runV (As := [.int (nI (1))]) (rest := []) ⟨hx, hb, hml, hown, hts⟩ (c_X2_no l D cI cZ cG cJ A bd wr 0 c hid g code ans dbt many row heap our the 1 ) (cwV 1 hts gX2_guess_X2_no rfl rfl rfl (by decide +kernel) ⟨Nat.le_of_ble_eq_true rfl, Nat.le_of_ble_eq_true rfl⟩) (preV (ci := 2) (q0 := 0) hB hS hP hD rfl rfl) rfl rfl hl.1 rfl (lv_room (Nat.le_of_ble_eq_true rfl)) dX2_guess_15 ⟨Nat.le_of_ble_eq_true rfl, Nat.le_of_ble_eq_true rfl⟩) hS (fun q _ h => h) (fun q h => h) (fun r_15 u_15 t9 H1 locs1 ht9 hvm9 hw_15 hBw hz9 hk9 hS => ?_)
    obtain ⟨hP, hD⟩ := hBw
    rw [ht9] at hP
    generalize H1 = H at hP hS ⊢
    generalize locs1 = locs at hS ⊢
    replace hP : va_P D vwCl (WM bd cI 1 c hid g code ans dbt many row heap our the wr) H := hP
    replace hD : va_D A (WM bd cI 1 c hid g code ans dbt many row heap our the wr) := hD
    refine x_ti (y := nI (0)) (hw_15.1) ?_
    exact W.iret (v := nI (0)) hx hb hr (fun t ht hW => ⟨⟨_, ((1, g, code, ans, dbt), our, the), rfl, (by
        exact Or.inr (Or.inl ⟨rfl, c10, rfl, rfl, rfl, rfl⟩)), ⟨by rw [ht]; exact hP, hD⟩⟩, hS.F ht⟩) hS.2.2 dX2_guess_18

set_option maxHeartbeats 4000000 in
set_option maxRecDepth 100000 in
theorem c_X2_tell (l : Launch) (D : va_G) (cI cZ cG cJ : ClassId) (A : Nat → Prop) (bd : Nat → Nat) (wr : va_W) (th : Nat) (c : Nat) (hid : Int32) (g : Nat) (code : Nat → Nat) (ans : Nat → Nat) (dbt : Nat → Bool) (many : Nat) (row : Nat → Nat) (heap : Nat → Nat) (our : Nat → Nat) (the : Nat → Nat) (v : Int32) (b : Int32) (wt : Int32) (hc : c = 2 ∨ c = 3) (hg : g ≤ 12) (hco : CodeOK c g code ans) : Met l yX2_tell wsX2_tell ({ frames := 5, cells := 0, slots := 0, locals := 115 }) (va_Pc [.ref (bd 0), .int (v), .int (b), .int (wt)] (Iv D (TY cI cZ cG cJ) A (WM bd cI th c hid g code ans dbt many row heap our the wr))) (va_Qi (fun r (u : (Nat × Nat × (Nat → Nat) × (Nat → Nat) × (Nat → Bool)) × Nat × (Nat → Nat) × (Nat → Nat) × (Nat → Nat)) => (u.1.1 = 0 ∧ ∃ k nb nw : Nat, k < qq c ∧ v = nI k ∧ nb + nw ≤ 4 ∧ b = nI nb ∧ wt = nI nw ∧ g < 12 ∧ r = nI (cN (opS c (g + 1) (va_up code g k) (va_up ans g (5 * nb + nw)) (va_up dbt g false)) 81) ∧ u.1.2.1 = g + 1 ∧ u.1.2.2.1 = va_up code g k ∧ u.1.2.2.2.1 = va_up ans g (5 * nb + nw) ∧ u.1.2.2.2.2 = va_up dbt g false ∧ pinC b wt = true) ∨ (u.1.1 = 1 ∧ hasC c v = false ∧ u.1.2.1 = g ∧ u.1.2.2.1 = code ∧ u.1.2.2.2.1 = ans ∧ u.1.2.2.2.2 = dbt) ∨ (u.1.1 = 2 ∧ hasC c v = true ∧ pinC b wt = false ∧ u.1.2.1 = g ∧ u.1.2.2.1 = code ∧ u.1.2.2.2.1 = ans ∧ u.1.2.2.2.2 = dbt) ∨ (u.1.1 = 3 ∧ hasC c v = true ∧ pinC b wt = true ∧ 12 ≤ g ∧ u.1.2.1 = g ∧ u.1.2.2.1 = code ∧ u.1.2.2.2.1 = ans ∧ u.1.2.2.2.2 = dbt)) (fun u => Wd D A (WM bd cI u.1.1 c hid u.1.2.1 u.1.2.2.1 u.1.2.2.2.1 u.1.2.2.2.2 u.2.1 u.2.2.1 heap u.2.2.2.1 u.2.2.2.2 wr)) A) 0 0 A := by
  refine Met.ofW (cc := cX2_tell) (maxL := 4) (ret := (some .int)) (by decide) rfl ?_
  intro p e s m args below meth c9 s₁ B hml hv
  obtain ⟨rfl, hP, hD, hB⟩ := hv
  have hK := hB.1
  have hA := hB.2.1
  have hx := B.exec
  have hb := B.bytes
  have hr := B.returns
  have hts := atoms_spec (ws := wsX2_tell) B.pre
  have hown : s.vm.findClass RX2 = some m.cls := findClass_of_methodNamed B.named
  have hlocks := B.notSynchronized
  have hS : va_S A s.heap s.heap [] := va_S.rf
  have hinX2 : ∀ w ∈ wsX20, w ∈ wsX2_tell := by decide +kernel
  have lk38 := hts (.fieldLink RX2 38 "HiddenCandlesModel" "thrown" "I") (by decide +kernel)
  have lk49 := hts (.fieldLink RX2 49 "HiddenCandlesModel" "guesses" "I") (by decide +kernel)
  have hl := lv_entry ([.ref (bd 0), .int (v), .int (b), .int (wt)]) (n := 4) (Nat.le_of_ble_eq_true rfl)
  rw [lg_entry_eq]
  generalize (lg_sl ([.ref (bd 0), .int (v), .int (b), .int (wt)]) ++ List.replicate (4 - (lg_sl ([.ref (bd 0), .int (v), .int (b), .int (wt)])).length) Slot.unset).toArray = ls at hl ⊢
  have hl : lv_has ls 4 [(0, .ref (bd 0)), (1, .int (v)), (2, .int (b)), (3, .int (wt))] := hl
  obtain ⟨H, eH⟩ : ∃ q, q = s.heap := ⟨_, rfl⟩
  obtain ⟨locs, eL⟩ : ∃ q : List Loc, q = [] := ⟨_, rfl⟩
  replace hP : va_P D vwCl (WM bd cI th c hid g code ans dbt many row heap our the wr) H := by rw [eH]; exact hP
  replace hS : va_S A s.heap H locs := by rw [eH, eL]; exact hS
  rw [show W p l e _ s m _ below meth c9 s.heap [] = W p l e _ s m _ below meth c9 H locs from by rw [eH, eL]]
  clear eH eL
  have hq := qq_in hc
  refine lv_aload_n hx hb dX2_tell_0 rfl (lv_at hl 0 rfl) ?_
  refine lv_iconst (v := nI (0)) hx hb dX2_tell_1 (by decide) ?_
  refine va_put (D := D) (ci := 2) (v := .int (nI (0))) (ty := .int) (C := RX2) (T := TX2) (N := 12) hx hb hts hinX2 tyX2 tyX2_ok nmX2 hown hK hP hD hS 0 rfl rfl 0 (by decide) lk38 (fun _ h9 => h9) rfl (by decide +kernel) rfl rfl (Nat.le_of_ble_eq_true rfl) dX2_tell_2 (fun H locs hP hD hS => ?_)
  replace hP : va_P D vwCl (WM bd cI 0 c hid g code ans dbt many row heap our the wr) H := hP
  replace hD : va_D A (WM bd cI 0 c hid g code ans dbt many row heap our the wr) := hD
  refine lv_aload_n hx hb dX2_tell_5 rfl (lv_at hl 0 rfl) ?_
  refine lv_iload_n hx hb dX2_tell_6 rfl (lv_at hl 1 rfl) ?_
  refine x_csi (va_runV (As := [.int (v)]) (rest := []) ⟨hx, hb, hml, hown, hts⟩ (c_X2_isCode l D cI cZ cG cJ A bd wr 0 c hid g code ans dbt many row heap our the v (hc)) (cwV 1 hts gX2_tell_X2_isCode rfl rfl rfl (by decide +kernel) ⟨Nat.le_of_ble_eq_true rfl, Nat.le_of_ble_eq_true rfl⟩) (preV (ci := 2) (q0 := 0) hB hS hP hD rfl rfl) rfl rfl hl.1 rfl (lv_room (Nat.le_of_ble_eq_true rfl)) dX2_tell_7 ⟨Nat.le_of_ble_eq_true rfl, Nat.le_of_ble_eq_true rfl⟩) ?_
  refine x_zne (tgt := 19) hx hb dX2_tell_10 (by decide) (fun c10 => ?_) (fun c10 => ?_)
  · skip
    refine lv_iload_n hx hb dX2_tell_19 rfl (lv_at hl 2 rfl) ?_
    refine lv_iconst (v := nI (0)) hx hb dX2_tell_20 (by decide) ?_
    refine lv_iconst (v := nI (4)) hx hb dX2_tell_21 (by decide) ?_
    refine x_csi (va_runS (As := [.int (b), .int (nI (0)), .int (nI (4))]) (rest := []) ⟨hx, hb, hml, hown, hts⟩ (c_X2_isIn l D cI cZ cG cJ A (WM bd cI 0 c hid g code ans dbt many row heap our the wr) b (nI (0)) (nI (4)) ) (va_cwS 3 hts gX2_tell_X2_isIn rfl rfl rfl (by decide +kernel) ⟨Nat.le_of_ble_eq_true rfl, Nat.le_of_ble_eq_true rfl⟩) (preS hB hS hP hD) rfl rfl hl.1 rfl (lv_room (Nat.le_of_ble_eq_true rfl)) dX2_tell_22 ⟨Nat.le_of_ble_eq_true rfl, Nat.le_of_ble_eq_true rfl⟩) ?_
    refine x_ti (y := bI (rgC 5 b)) (by rw [in_rg (n := 5) (by omega) (by omega)]) ?_
    refine x_zeq (tgt := 49) hx hb dX2_tell_25 (by decide) (fun c25 => ?_) (fun c25 => ?_)
    · skip
      refine lv_aload_n hx hb dX2_tell_49 rfl (lv_at hl 0 rfl) ?_
      refine lv_iconst (v := nI (2)) hx hb dX2_tell_50 (by decide) ?_
      refine va_calli (va_runV (As := [.int (nI (2))]) (rest := []) ⟨hx, hb, hml, hown, hts⟩ (c_X2_no l D cI cZ cG cJ A bd wr 0 c hid g code ans dbt many row heap our the 2 ) (cwV 1 hts gX2_tell_X2_no rfl rfl rfl (by decide +kernel) ⟨Nat.le_of_ble_eq_true rfl, Nat.le_of_ble_eq_true rfl⟩) (preV (ci := 2) (q0 := 0) hB hS hP hD rfl rfl) rfl rfl hl.1 rfl (lv_room (Nat.le_of_ble_eq_true rfl)) dX2_tell_51 ⟨Nat.le_of_ble_eq_true rfl, Nat.le_of_ble_eq_true rfl⟩) hS (fun q _ h => h) (fun q h => h) (fun r_51 u_51 t9 H1 locs1 ht9 hvm9 hw_51 hBw hz9 hk9 hS => ?_)
      obtain ⟨hP, hD⟩ := hBw
      rw [ht9] at hP
      generalize H1 = H at hP hS ⊢
      generalize locs1 = locs at hS ⊢
      replace hP : va_P D vwCl (WM bd cI 2 c hid g code ans dbt many row heap our the wr) H := hP
      replace hD : va_D A (WM bd cI 2 c hid g code ans dbt many row heap our the wr) := hD
      refine x_ti (y := nI (0)) (hw_51.1) ?_
      exact W.iret (v := nI (0)) hx hb hr (fun t ht hW => ⟨⟨_, ((2, g, code, ans, dbt), many, row, our, the), rfl, (by
          exact Or.inr (Or.inr (Or.inl ⟨rfl, c10, (by first | exact pin_f1 c25 | exact pin_f2 c36 | exact pinC_f4 c41 c46), rfl, rfl, rfl, rfl⟩))), ⟨by rw [ht]; exact hP, hD⟩⟩, hS.F ht⟩) hS.2.2 dX2_tell_54
    · skip
      refine lv_iload_n hx hb dX2_tell_28 rfl (lv_at hl 3 rfl) ?_
      refine lv_iconst (v := nI (0)) hx hb dX2_tell_29 (by decide) ?_
      refine lv_iconst (v := 4) hx hb dX2_tell_30 (by decide) ?_
      refine lv_iload_n hx hb dX2_tell_31 rfl (lv_at hl 2 rfl) ?_
      refine lv_isub hx hb dX2_tell_32  ?_
      refine x_ti (y := 4 - b) (rfl) ?_
      refine x_csi (va_runS (As := [.int (wt), .int (nI (0)), .int (4 - b)]) (rest := []) ⟨hx, hb, hml, hown, hts⟩ (c_X2_isIn l D cI cZ cG cJ A (WM bd cI 0 c hid g code ans dbt many row heap our the wr) wt (nI (0)) (4 - b) ) (va_cwS 3 hts gX2_tell_X2_isIn rfl rfl rfl (by decide +kernel) ⟨Nat.le_of_ble_eq_true rfl, Nat.le_of_ble_eq_true rfl⟩) (preS hB hS hP hD) rfl rfl hl.1 rfl (lv_room (Nat.le_of_ble_eq_true rfl)) dX2_tell_33 ⟨Nat.le_of_ble_eq_true rfl, Nat.le_of_ble_eq_true rfl⟩) ?_
      refine x_zeq (tgt := 49) hx hb dX2_tell_36 (by decide) (fun c36 => ?_) (fun c36 => ?_)
      · skip
        refine lv_aload_n hx hb dX2_tell_49 rfl (lv_at hl 0 rfl) ?_
        refine lv_iconst (v := nI (2)) hx hb dX2_tell_50 (by decide) ?_
        refine va_calli (va_runV (As := [.int (nI (2))]) (rest := []) ⟨hx, hb, hml, hown, hts⟩ (c_X2_no l D cI cZ cG cJ A bd wr 0 c hid g code ans dbt many row heap our the 2 ) (cwV 1 hts gX2_tell_X2_no rfl rfl rfl (by decide +kernel) ⟨Nat.le_of_ble_eq_true rfl, Nat.le_of_ble_eq_true rfl⟩) (preV (ci := 2) (q0 := 0) hB hS hP hD rfl rfl) rfl rfl hl.1 rfl (lv_room (Nat.le_of_ble_eq_true rfl)) dX2_tell_51 ⟨Nat.le_of_ble_eq_true rfl, Nat.le_of_ble_eq_true rfl⟩) hS (fun q _ h => h) (fun q h => h) (fun r_51 u_51 t9 H1 locs1 ht9 hvm9 hw_51 hBw hz9 hk9 hS => ?_)
        obtain ⟨hP, hD⟩ := hBw
        rw [ht9] at hP
        generalize H1 = H at hP hS ⊢
        generalize locs1 = locs at hS ⊢
        replace hP : va_P D vwCl (WM bd cI 2 c hid g code ans dbt many row heap our the wr) H := hP
        replace hD : va_D A (WM bd cI 2 c hid g code ans dbt many row heap our the wr) := hD
        refine x_ti (y := nI (0)) (hw_51.1) ?_
        exact W.iret (v := nI (0)) hx hb hr (fun t ht hW => ⟨⟨_, ((2, g, code, ans, dbt), many, row, our, the), rfl, (by
            exact Or.inr (Or.inr (Or.inl ⟨rfl, c10, (by first | exact pin_f1 c25 | exact pin_f2 c36 | exact pinC_f4 c41 c46), rfl, rfl, rfl, rfl⟩))), ⟨by rw [ht]; exact hP, hD⟩⟩, hS.F ht⟩) hS.2.2 dX2_tell_54
      · skip
        refine lv_iload_n hx hb dX2_tell_39 rfl (lv_at hl 2 rfl) ?_
        refine lv_iconst (v := 3) hx hb dX2_tell_40 (by decide) ?_
        refine lv_icmp_ne (tgt := 55) hx hb dX2_tell_41 (by decide) (fun c41 => ?_) (fun c41 => ?_)
        · skip
          have hpin : pinC b wt = true := (by first | exact pin_t c25 c36 (fun q => c41 q.1) | exact pin_t c25 c36 (fun q => c46 q.2))
          refine lv_aload_n hx hb dX2_tell_55 rfl (lv_at hl 0 rfl) ?_
          refine va_get (D := D) (ci := 2) (v := .int (nI (g))) (C := RX2) (T := TX2) (N := 12) hx hb hts hinX2 hown hK hP 0 rfl rfl 3 (by decide) lk49 (fun _ h9 => h9) rfl dX2_tell_56 ?_
          refine lv_bipush (v := nI (12)) hx hb dX2_tell_59 (by decide) ?_
          refine x_ne (tgt := 70) hx hb dX2_tell_61 (by decide) (by omega) (by omega) (fun c61 => ?_) (fun c61 => ?_)
          · skip
            obtain ⟨nb, nw, hnb, rfl, rfl⟩ := pinC_of hpin
            obtain ⟨k, hk, rfl⟩ := hasC_of hc c10
            have hg12 : g < 12 := by omega
            refine lv_aload_n hx hb dX2_tell_70 rfl (lv_at hl 0 rfl) ?_
            refine lv_iload_n hx hb dX2_tell_71 rfl (lv_at hl 1 rfl) ?_
            refine lv_iconst (v := nI (5)) hx hb dX2_tell_72 (by decide) ?_
            refine lv_iload_n hx hb dX2_tell_73 rfl (lv_at hl 2 rfl) ?_
            refine lv_imul hx hb dX2_tell_74 ?_
            refine x_ti (pk_mul _ _) ?_
            refine lv_iload_n hx hb dX2_tell_75 rfl (lv_at hl 3 rfl) ?_
            refine lv_iadd hx hb dX2_tell_76 ?_
            refine x_ti (nI_add _ _) ?_
            refine va_callv (va_runV (As := [.int (nI (k)), .int (nI ((5 * nb) + nw))]) (rest := []) ⟨hx, hb, hml, hown, hts⟩ (c_X2_note l D cI cZ cG cJ A bd wr 0 c hid g code ans dbt many row heap our the k ((5 * nb) + nw) (hg12)) (cwV 2 hts gX2_tell_X2_note rfl rfl rfl (by decide +kernel) ⟨Nat.le_of_ble_eq_true rfl, Nat.le_of_ble_eq_true rfl⟩) (preV (ci := 2) (q0 := 0) hB hS hP hD rfl rfl) rfl rfl hl.1 rfl (lv_room (Nat.le_of_ble_eq_true rfl)) dX2_tell_77 ⟨Nat.le_of_ble_eq_true rfl, Nat.le_of_ble_eq_true rfl⟩) hS (fun q _ h => h) (fun q h => h) (fun u_77 t9 H1 locs1 ht9 hvm9 hw_77 hBw hz9 hk9 hS => ?_)
            obtain ⟨hP, hD⟩ := hBw
            rw [ht9] at hP
            generalize H1 = H at hP hS ⊢
            generalize locs1 = locs at hS ⊢
            replace hP : va_P D vwCl (WM bd cI 0 c hid (g + 1) (va_up code g k) (va_up ans g ((5 * nb) + nw)) (va_up dbt g false) many row heap our the wr) H := hP
            replace hD : va_D A (WM bd cI 0 c hid (g + 1) (va_up code g k) (va_up ans g ((5 * nb) + nw)) (va_up dbt g false) many row heap our the wr) := hD
            refine lv_aload_n hx hb dX2_tell_80 rfl (lv_at hl 0 rfl) ?_
            refine lv_aload_n hx hb dX2_tell_81 rfl (lv_at hl 0 rfl) ?_
            refine va_get (D := D) (ci := 2) (v := .int (nI ((g + 1)))) (C := RX2) (T := TX2) (N := 12) hx hb hts hinX2 hown hK hP 0 rfl rfl 3 (by decide) lk49 (fun _ h9 => h9) rfl dX2_tell_82 ?_
            refine va_calli (va_runV (As := [.int (nI ((g + 1)))]) (rest := []) ⟨hx, hb, hml, hown, hts⟩ (c_X2_look l D cI cZ cG cJ A bd wr 0 c hid (g + 1) (va_up code g k) (va_up ans g ((5 * nb) + nw)) (va_up dbt g false) many row heap our the (g + 1) (hc) (by omega) (code_up hco hk (by omega))) (cwV 1 hts gX2_tell_X2_look rfl rfl rfl (by decide +kernel) ⟨Nat.le_of_ble_eq_true rfl, Nat.le_of_ble_eq_true rfl⟩) (preV (ci := 2) (q0 := 0) hB hS hP hD rfl rfl) rfl rfl hl.1 rfl (lv_room (Nat.le_of_ble_eq_true rfl)) dX2_tell_85 ⟨Nat.le_of_ble_eq_true rfl, Nat.le_of_ble_eq_true rfl⟩) hS (fun q _ h => h) (fun q h => h) (fun r_85 u_85 t9 H1 locs1 ht9 hvm9 hw_85 hBw hz9 hk9 hS => ?_)
            obtain ⟨hP, hD⟩ := hBw
            rw [ht9] at hP
            generalize H1 = H at hP hS ⊢
            generalize locs1 = locs at hS ⊢
            replace hP : va_P D vwCl (WM bd cI 0 c hid (g + 1) (va_up code g k) (va_up ans g ((5 * nb) + nw)) (va_up dbt g false) u_85.1 u_85.2.1 heap u_85.2.2.1 u_85.2.2.2 wr) H := hP
            replace hD : va_D A (WM bd cI 0 c hid (g + 1) (va_up code g k) (va_up ans g ((5 * nb) + nw)) (va_up dbt g false) u_85.1 u_85.2.1 heap u_85.2.2.1 u_85.2.2.2 wr) := hD
            refine x_ti (y := nI (cN (opS c (g + 1) (va_up code g k) (va_up ans g ((5 * nb) + nw)) (va_up dbt g false)) 81)) (hw_85.1) ?_
            exact W.iret (v := nI (cN (opS c (g + 1) (va_up code g k) (va_up ans g ((5 * nb) + nw)) (va_up dbt g false)) 81)) hx hb hr (fun t ht hW => ⟨⟨_, ((0, g + 1, va_up code g k, va_up ans g (5 * nb + nw), va_up dbt g false), u_85.1, u_85.2.1, u_85.2.2.1, u_85.2.2.2), rfl, (by
                exact Or.inl ⟨rfl, k, nb, nw, hk, rfl, hnb, rfl, rfl, hg12, rfl, rfl, rfl, rfl, rfl, hpin⟩), ⟨by rw [ht]; exact hP, hD⟩⟩, hS.F ht⟩) hS.2.2 dX2_tell_88
          · skip
            refine lv_aload_n hx hb dX2_tell_64 rfl (lv_at hl 0 rfl) ?_
            refine lv_iconst (v := nI (3)) hx hb dX2_tell_65 (by decide) ?_
            refine va_calli (va_runV (As := [.int (nI (3))]) (rest := []) ⟨hx, hb, hml, hown, hts⟩ (c_X2_no l D cI cZ cG cJ A bd wr 0 c hid g code ans dbt many row heap our the 3 ) (cwV 1 hts gX2_tell_X2_no rfl rfl rfl (by decide +kernel) ⟨Nat.le_of_ble_eq_true rfl, Nat.le_of_ble_eq_true rfl⟩) (preV (ci := 2) (q0 := 0) hB hS hP hD rfl rfl) rfl rfl hl.1 rfl (lv_room (Nat.le_of_ble_eq_true rfl)) dX2_tell_66 ⟨Nat.le_of_ble_eq_true rfl, Nat.le_of_ble_eq_true rfl⟩) hS (fun q _ h => h) (fun q h => h) (fun r_66 u_66 t9 H1 locs1 ht9 hvm9 hw_66 hBw hz9 hk9 hS => ?_)
            obtain ⟨hP, hD⟩ := hBw
            rw [ht9] at hP
            generalize H1 = H at hP hS ⊢
            generalize locs1 = locs at hS ⊢
            replace hP : va_P D vwCl (WM bd cI 3 c hid g code ans dbt many row heap our the wr) H := hP
            replace hD : va_D A (WM bd cI 3 c hid g code ans dbt many row heap our the wr) := hD
            refine x_ti (y := nI (0)) (hw_66.1) ?_
            exact W.iret (v := nI (0)) hx hb hr (fun t ht hW => ⟨⟨_, ((3, g, code, ans, dbt), many, row, our, the), rfl, (by
                exact Or.inr (Or.inr (Or.inr ⟨rfl, c10, hpin, by omega, rfl, rfl, rfl, rfl⟩))), ⟨by rw [ht]; exact hP, hD⟩⟩, hS.F ht⟩) hS.2.2 dX2_tell_69
        · skip
          refine lv_iload_n hx hb dX2_tell_44 rfl (lv_at hl 3 rfl) ?_
          refine lv_iconst (v := 1) hx hb dX2_tell_45 (by decide) ?_
          refine lv_icmp_ne (tgt := 55) hx hb dX2_tell_46 (by decide) (fun c46 => ?_) (fun c46 => ?_)
          · skip
            have hpin : pinC b wt = true := (by first | exact pin_t c25 c36 (fun q => c41 q.1) | exact pin_t c25 c36 (fun q => c46 q.2))
            refine lv_aload_n hx hb dX2_tell_55 rfl (lv_at hl 0 rfl) ?_
            refine va_get (D := D) (ci := 2) (v := .int (nI (g))) (C := RX2) (T := TX2) (N := 12) hx hb hts hinX2 hown hK hP 0 rfl rfl 3 (by decide) lk49 (fun _ h9 => h9) rfl dX2_tell_56 ?_
            refine lv_bipush (v := nI (12)) hx hb dX2_tell_59 (by decide) ?_
            refine x_ne (tgt := 70) hx hb dX2_tell_61 (by decide) (by omega) (by omega) (fun c61 => ?_) (fun c61 => ?_)
            · skip
              obtain ⟨nb, nw, hnb, rfl, rfl⟩ := pinC_of hpin
              obtain ⟨k, hk, rfl⟩ := hasC_of hc c10
              have hg12 : g < 12 := by omega
              refine lv_aload_n hx hb dX2_tell_70 rfl (lv_at hl 0 rfl) ?_
              refine lv_iload_n hx hb dX2_tell_71 rfl (lv_at hl 1 rfl) ?_
              refine lv_iconst (v := nI (5)) hx hb dX2_tell_72 (by decide) ?_
              refine lv_iload_n hx hb dX2_tell_73 rfl (lv_at hl 2 rfl) ?_
              refine lv_imul hx hb dX2_tell_74 ?_
              refine x_ti (pk_mul _ _) ?_
              refine lv_iload_n hx hb dX2_tell_75 rfl (lv_at hl 3 rfl) ?_
              refine lv_iadd hx hb dX2_tell_76 ?_
              refine x_ti (nI_add _ _) ?_
              refine va_callv (va_runV (As := [.int (nI (k)), .int (nI ((5 * nb) + nw))]) (rest := []) ⟨hx, hb, hml, hown, hts⟩ (c_X2_note l D cI cZ cG cJ A bd wr 0 c hid g code ans dbt many row heap our the k ((5 * nb) + nw) (hg12)) (cwV 2 hts gX2_tell_X2_note rfl rfl rfl (by decide +kernel) ⟨Nat.le_of_ble_eq_true rfl, Nat.le_of_ble_eq_true rfl⟩) (preV (ci := 2) (q0 := 0) hB hS hP hD rfl rfl) rfl rfl hl.1 rfl (lv_room (Nat.le_of_ble_eq_true rfl)) dX2_tell_77 ⟨Nat.le_of_ble_eq_true rfl, Nat.le_of_ble_eq_true rfl⟩) hS (fun q _ h => h) (fun q h => h) (fun u_77 t9 H1 locs1 ht9 hvm9 hw_77 hBw hz9 hk9 hS => ?_)
              obtain ⟨hP, hD⟩ := hBw
              rw [ht9] at hP
              generalize H1 = H at hP hS ⊢
              generalize locs1 = locs at hS ⊢
              replace hP : va_P D vwCl (WM bd cI 0 c hid (g + 1) (va_up code g k) (va_up ans g ((5 * nb) + nw)) (va_up dbt g false) many row heap our the wr) H := hP
              replace hD : va_D A (WM bd cI 0 c hid (g + 1) (va_up code g k) (va_up ans g ((5 * nb) + nw)) (va_up dbt g false) many row heap our the wr) := hD
              refine lv_aload_n hx hb dX2_tell_80 rfl (lv_at hl 0 rfl) ?_
              refine lv_aload_n hx hb dX2_tell_81 rfl (lv_at hl 0 rfl) ?_
              refine va_get (D := D) (ci := 2) (v := .int (nI ((g + 1)))) (C := RX2) (T := TX2) (N := 12) hx hb hts hinX2 hown hK hP 0 rfl rfl 3 (by decide) lk49 (fun _ h9 => h9) rfl dX2_tell_82 ?_
              refine va_calli (va_runV (As := [.int (nI ((g + 1)))]) (rest := []) ⟨hx, hb, hml, hown, hts⟩ (c_X2_look l D cI cZ cG cJ A bd wr 0 c hid (g + 1) (va_up code g k) (va_up ans g ((5 * nb) + nw)) (va_up dbt g false) many row heap our the (g + 1) (hc) (by omega) (code_up hco hk (by omega))) (cwV 1 hts gX2_tell_X2_look rfl rfl rfl (by decide +kernel) ⟨Nat.le_of_ble_eq_true rfl, Nat.le_of_ble_eq_true rfl⟩) (preV (ci := 2) (q0 := 0) hB hS hP hD rfl rfl) rfl rfl hl.1 rfl (lv_room (Nat.le_of_ble_eq_true rfl)) dX2_tell_85 ⟨Nat.le_of_ble_eq_true rfl, Nat.le_of_ble_eq_true rfl⟩) hS (fun q _ h => h) (fun q h => h) (fun r_85 u_85 t9 H1 locs1 ht9 hvm9 hw_85 hBw hz9 hk9 hS => ?_)
              obtain ⟨hP, hD⟩ := hBw
              rw [ht9] at hP
              generalize H1 = H at hP hS ⊢
              generalize locs1 = locs at hS ⊢
              replace hP : va_P D vwCl (WM bd cI 0 c hid (g + 1) (va_up code g k) (va_up ans g ((5 * nb) + nw)) (va_up dbt g false) u_85.1 u_85.2.1 heap u_85.2.2.1 u_85.2.2.2 wr) H := hP
              replace hD : va_D A (WM bd cI 0 c hid (g + 1) (va_up code g k) (va_up ans g ((5 * nb) + nw)) (va_up dbt g false) u_85.1 u_85.2.1 heap u_85.2.2.1 u_85.2.2.2 wr) := hD
              refine x_ti (y := nI (cN (opS c (g + 1) (va_up code g k) (va_up ans g ((5 * nb) + nw)) (va_up dbt g false)) 81)) (hw_85.1) ?_
              exact W.iret (v := nI (cN (opS c (g + 1) (va_up code g k) (va_up ans g ((5 * nb) + nw)) (va_up dbt g false)) 81)) hx hb hr (fun t ht hW => ⟨⟨_, ((0, g + 1, va_up code g k, va_up ans g (5 * nb + nw), va_up dbt g false), u_85.1, u_85.2.1, u_85.2.2.1, u_85.2.2.2), rfl, (by
                  exact Or.inl ⟨rfl, k, nb, nw, hk, rfl, hnb, rfl, rfl, hg12, rfl, rfl, rfl, rfl, rfl, hpin⟩), ⟨by rw [ht]; exact hP, hD⟩⟩, hS.F ht⟩) hS.2.2 dX2_tell_88
            · skip
              refine lv_aload_n hx hb dX2_tell_64 rfl (lv_at hl 0 rfl) ?_
              refine lv_iconst (v := nI (3)) hx hb dX2_tell_65 (by decide) ?_
              refine va_calli (va_runV (As := [.int (nI (3))]) (rest := []) ⟨hx, hb, hml, hown, hts⟩ (c_X2_no l D cI cZ cG cJ A bd wr 0 c hid g code ans dbt many row heap our the 3 ) (cwV 1 hts gX2_tell_X2_no rfl rfl rfl (by decide +kernel) ⟨Nat.le_of_ble_eq_true rfl, Nat.le_of_ble_eq_true rfl⟩) (preV (ci := 2) (q0 := 0) hB hS hP hD rfl rfl) rfl rfl hl.1 rfl (lv_room (Nat.le_of_ble_eq_true rfl)) dX2_tell_66 ⟨Nat.le_of_ble_eq_true rfl, Nat.le_of_ble_eq_true rfl⟩) hS (fun q _ h => h) (fun q h => h) (fun r_66 u_66 t9 H1 locs1 ht9 hvm9 hw_66 hBw hz9 hk9 hS => ?_)
              obtain ⟨hP, hD⟩ := hBw
              rw [ht9] at hP
              generalize H1 = H at hP hS ⊢
              generalize locs1 = locs at hS ⊢
              replace hP : va_P D vwCl (WM bd cI 3 c hid g code ans dbt many row heap our the wr) H := hP
              replace hD : va_D A (WM bd cI 3 c hid g code ans dbt many row heap our the wr) := hD
              refine x_ti (y := nI (0)) (hw_66.1) ?_
              exact W.iret (v := nI (0)) hx hb hr (fun t ht hW => ⟨⟨_, ((3, g, code, ans, dbt), many, row, our, the), rfl, (by
                  exact Or.inr (Or.inr (Or.inr ⟨rfl, c10, hpin, by omega, rfl, rfl, rfl, rfl⟩))), ⟨by rw [ht]; exact hP, hD⟩⟩, hS.F ht⟩) hS.2.2 dX2_tell_69
          · skip
            refine lv_aload_n hx hb dX2_tell_49 rfl (lv_at hl 0 rfl) ?_
            refine lv_iconst (v := nI (2)) hx hb dX2_tell_50 (by decide) ?_
            refine va_calli (va_runV (As := [.int (nI (2))]) (rest := []) ⟨hx, hb, hml, hown, hts⟩ (c_X2_no l D cI cZ cG cJ A bd wr 0 c hid g code ans dbt many row heap our the 2 ) (cwV 1 hts gX2_tell_X2_no rfl rfl rfl (by decide +kernel) ⟨Nat.le_of_ble_eq_true rfl, Nat.le_of_ble_eq_true rfl⟩) (preV (ci := 2) (q0 := 0) hB hS hP hD rfl rfl) rfl rfl hl.1 rfl (lv_room (Nat.le_of_ble_eq_true rfl)) dX2_tell_51 ⟨Nat.le_of_ble_eq_true rfl, Nat.le_of_ble_eq_true rfl⟩) hS (fun q _ h => h) (fun q h => h) (fun r_51 u_51 t9 H1 locs1 ht9 hvm9 hw_51 hBw hz9 hk9 hS => ?_)
            obtain ⟨hP, hD⟩ := hBw
            rw [ht9] at hP
            generalize H1 = H at hP hS ⊢
            generalize locs1 = locs at hS ⊢
            replace hP : va_P D vwCl (WM bd cI 2 c hid g code ans dbt many row heap our the wr) H := hP
            replace hD : va_D A (WM bd cI 2 c hid g code ans dbt many row heap our the wr) := hD
            refine x_ti (y := nI (0)) (hw_51.1) ?_
            exact W.iret (v := nI (0)) hx hb hr (fun t ht hW => ⟨⟨_, ((2, g, code, ans, dbt), many, row, our, the), rfl, (by
                exact Or.inr (Or.inr (Or.inl ⟨rfl, c10, (by first | exact pin_f1 c25 | exact pin_f2 c36 | exact pinC_f4 c41 c46), rfl, rfl, rfl, rfl⟩))), ⟨by rw [ht]; exact hP, hD⟩⟩, hS.F ht⟩) hS.2.2 dX2_tell_54
  · skip
    refine lv_aload_n hx hb dX2_tell_13 rfl (lv_at hl 0 rfl) ?_
    refine lv_iconst (v := nI (1)) hx hb dX2_tell_14 (by decide) ?_
    refine va_calli (va_runV (As := [.int (nI (1))]) (rest := []) ⟨hx, hb, hml, hown, hts⟩ (c_X2_no l D cI cZ cG cJ A bd wr 0 c hid g code ans dbt many row heap our the 1 ) (cwV 1 hts gX2_tell_X2_no rfl rfl rfl (by decide +kernel) ⟨Nat.le_of_ble_eq_true rfl, Nat.le_of_ble_eq_true rfl⟩) (preV (ci := 2) (q0 := 0) hB hS hP hD rfl rfl) rfl rfl hl.1 rfl (lv_room (Nat.le_of_ble_eq_true rfl)) dX2_tell_15 ⟨Nat.le_of_ble_eq_true rfl, Nat.le_of_ble_eq_true rfl⟩) hS (fun q _ h => h) (fun q h => h) (fun r_15 u_15 t9 H1 locs1 ht9 hvm9 hw_15 hBw hz9 hk9 hS => ?_)
    obtain ⟨hP, hD⟩ := hBw
    rw [ht9] at hP
    generalize H1 = H at hP hS ⊢
    generalize locs1 = locs at hS ⊢
    replace hP : va_P D vwCl (WM bd cI 1 c hid g code ans dbt many row heap our the wr) H := hP
    replace hD : va_D A (WM bd cI 1 c hid g code ans dbt many row heap our the wr) := hD
    refine x_ti (y := nI (0)) (hw_15.1) ?_
    exact W.iret (v := nI (0)) hx hb hr (fun t ht hW => ⟨⟨_, ((1, g, code, ans, dbt), many, row, our, the), rfl, (by
        exact Or.inr (Or.inl ⟨rfl, c10, rfl, rfl, rfl, rfl⟩)), ⟨by rw [ht]; exact hP, hD⟩⟩, hS.F ht⟩) hS.2.2 dX2_tell_18

set_option maxHeartbeats 4000000 in
set_option maxRecDepth 100000 in
theorem c_X2_doubt (l : Launch) (D : va_G) (cI cZ cG cJ : ClassId) (A : Nat → Prop) (bd : Nat → Nat) (wr : va_W) (th : Nat) (c : Nat) (hid : Int32) (g : Nat) (code : Nat → Nat) (ans : Nat → Nat) (dbt : Nat → Bool) (many : Nat) (row : Nat → Nat) (heap : Nat → Nat) (our : Nat → Nat) (the : Nat → Nat) (v : Int32) (is : Bool) (hg : g ≤ 12) : Met l yX2_doubt wsX2_doubt ({ frames := 2, cells := 0, slots := 0, locals := 43 }) (va_Pc [.ref (bd 0), .int (v), .int (bI (is))] (Iv D (TY cI cZ cG cJ) A (WM bd cI th c hid g code ans dbt many row heap our the wr))) (va_Qi (fun r (u : Nat × (Nat → Bool)) => (u.1 = 0 ∧ ∃ i : Nat, i < g ∧ v = nI i ∧ r = bI (dbt i) ∧ u.2 = va_up dbt i is) ∨ (u.1 = 1 ∧ gsC g v = false ∧ u.2 = dbt)) (fun u => Wd D A (WM bd cI u.1 c hid g code ans u.2 many row heap our the wr)) A) 0 0 A := by
  refine Met.ofW (cc := cX2_doubt) (maxL := 4) (ret := (some .boolean)) (by decide) rfl ?_
  intro p e s m args below meth c9 s₁ B hml hv
  obtain ⟨rfl, hP, hD, hB⟩ := hv
  have hK := hB.1
  have hA := hB.2.1
  have hx := B.exec
  have hb := B.bytes
  have hr := B.returns
  have hts := atoms_spec (ws := wsX2_doubt) B.pre
  have hown : s.vm.findClass RX2 = some m.cls := findClass_of_methodNamed B.named
  have hlocks := B.notSynchronized
  have hS : va_S A s.heap s.heap [] := va_S.rf
  have hinX2 : ∀ w ∈ wsX20, w ∈ wsX2_doubt := by decide +kernel
  have lk23 := hts (.fieldLink RX2 23 "HiddenCandlesModel" "doubted" "[I") (by decide +kernel)
  have lk38 := hts (.fieldLink RX2 38 "HiddenCandlesModel" "thrown" "I") (by decide +kernel)
  have hl := lv_entry ([.ref (bd 0), .int (v), .int (bI (is))]) (n := 4) (Nat.le_of_ble_eq_true rfl)
  rw [lg_entry_eq]
  generalize (lg_sl ([.ref (bd 0), .int (v), .int (bI (is))]) ++ List.replicate (4 - (lg_sl ([.ref (bd 0), .int (v), .int (bI (is))])).length) Slot.unset).toArray = ls at hl ⊢
  have hl : lv_has ls 4 [(0, .ref (bd 0)), (1, .int (v)), (2, .int (bI (is)))] := hl
  obtain ⟨H, eH⟩ : ∃ q, q = s.heap := ⟨_, rfl⟩
  obtain ⟨locs, eL⟩ : ∃ q : List Loc, q = [] := ⟨_, rfl⟩
  replace hP : va_P D vwCl (WM bd cI th c hid g code ans dbt many row heap our the wr) H := by rw [eH]; exact hP
  replace hS : va_S A s.heap H locs := by rw [eH, eL]; exact hS
  rw [show W p l e _ s m _ below meth c9 s.heap [] = W p l e _ s m _ below meth c9 H locs from by rw [eH, eL]]
  clear eH eL
  refine lv_aload_n hx hb dX2_doubt_0 rfl (lv_at hl 0 rfl) ?_
  refine lv_aload_n hx hb dX2_doubt_1 rfl (lv_at hl 0 rfl) ?_
  refine lv_iload_n hx hb dX2_doubt_2 rfl (lv_at hl 1 rfl) ?_
  refine x_csi (va_runV (As := [.int (v)]) (rest := [.ref (bd 0)]) ⟨hx, hb, hml, hown, hts⟩ (c_X2_isGuess l D cI cZ cG cJ A bd wr th c hid g code ans dbt many row heap our the v (hg)) (cwV 1 hts gX2_doubt_X2_isGuess rfl rfl rfl (by decide +kernel) ⟨Nat.le_of_ble_eq_true rfl, Nat.le_of_ble_eq_true rfl⟩) (preV (ci := 2) (q0 := 0) hB hS hP hD rfl rfl) rfl rfl hl.1 rfl (lv_room (Nat.le_of_ble_eq_true rfl)) dX2_doubt_3 ⟨Nat.le_of_ble_eq_true rfl, Nat.le_of_ble_eq_true rfl⟩) ?_
  refine x_zeq (tgt := 13) hx hb dX2_doubt_6 (by decide) (fun c6 => ?_) (fun c6 => ?_)
  · skip
    refine lv_iconst (v := nI (1)) hx hb dX2_doubt_13 (by decide) ?_
    refine va_put (D := D) (ci := 2) (v := .int (nI (1))) (ty := .int) (C := RX2) (T := TX2) (N := 12) hx hb hts hinX2 tyX2 tyX2_ok nmX2 hown hK hP hD hS 0 rfl rfl 0 (by decide) lk38 (fun _ h9 => h9) rfl (by decide +kernel) rfl rfl (Nat.le_of_ble_eq_true rfl) dX2_doubt_14 (fun H locs hP hD hS => ?_)
    replace hP : va_P D vwCl (WM bd cI 1 c hid g code ans dbt many row heap our the wr) H := hP
    replace hD : va_D A (WM bd cI 1 c hid g code ans dbt many row heap our the wr) := hD
    refine lv_aload_n hx hb dX2_doubt_17 rfl (lv_at hl 0 rfl) ?_
    refine va_get (D := D) (ci := 2) (v := .int (nI (1))) (C := RX2) (T := TX2) (N := 12) hx hb hts hinX2 hown hK hP 0 rfl rfl 0 (by decide) lk38 (fun _ h9 => h9) rfl dX2_doubt_18 ?_
    refine x_eq0 (tgt := 26) hx hb dX2_doubt_21 (by decide) (by omega) (fun c21 => absurd c21 (by decide)) (fun c21 => ?_)
    refine lv_iconst (v := bI (false)) hx hb dX2_doubt_24 (by decide) ?_
    exact W.zret (v := bI (false)) hx hb hr (bI_narrow _) (fun t ht hW => ⟨⟨_, (1, dbt), rfl, (by
        exact Or.inr ⟨rfl, c6, rfl⟩), ⟨by rw [ht]; exact hP, hD⟩⟩, hS.F ht⟩) hS.2.2 dX2_doubt_25
  · skip
    refine lv_iconst (v := nI (0)) hx hb dX2_doubt_9 (by decide) ?_
    refine lv_goto (tgt := 14) hx hb dX2_doubt_10 (by decide) ?_
    refine va_put (D := D) (ci := 2) (v := .int (nI (0))) (ty := .int) (C := RX2) (T := TX2) (N := 12) hx hb hts hinX2 tyX2 tyX2_ok nmX2 hown hK hP hD hS 0 rfl rfl 0 (by decide) lk38 (fun _ h9 => h9) rfl (by decide +kernel) rfl rfl (Nat.le_of_ble_eq_true rfl) dX2_doubt_14 (fun H locs hP hD hS => ?_)
    replace hP : va_P D vwCl (WM bd cI 0 c hid g code ans dbt many row heap our the wr) H := hP
    replace hD : va_D A (WM bd cI 0 c hid g code ans dbt many row heap our the wr) := hD
    refine lv_aload_n hx hb dX2_doubt_17 rfl (lv_at hl 0 rfl) ?_
    refine va_get (D := D) (ci := 2) (v := .int (nI (0))) (C := RX2) (T := TX2) (N := 12) hx hb hts hinX2 hown hK hP 0 rfl rfl 0 (by decide) lk38 (fun _ h9 => h9) rfl dX2_doubt_18 ?_
    refine x_eq0 (tgt := 26) hx hb dX2_doubt_21 (by decide) (by omega) (fun c21 => ?_) (fun c21 => absurd c21 (by decide))
    obtain ⟨i, hi, rfl⟩ := gsC_of hg c6
    refine lv_aload_n hx hb dX2_doubt_26 rfl (lv_at hl 0 rfl) ?_
    refine va_get (D := D) (ci := 2) (v := .ref (bd 3)) (C := RX2) (T := TX2) (N := 12) hx hb hts hinX2 hown hK hP 0 rfl rfl 6 (by decide) lk23 (fun _ h9 => h9) rfl dX2_doubt_27 ?_
    refine lv_iload_n hx hb dX2_doubt_30 rfl (lv_at hl 1 rfl) ?_
    refine x_iald hx hb hK hP 3 0 rfl rfl (i := i) (by omega) (by omega) dX2_doubt_31 ?_
    refine lv_iconst (v := bI (true)) hx hb dX2_doubt_32 (by decide) ?_
    refine lv_icmp_ne (tgt := 40) hx hb dX2_doubt_33 (by decide) (fun c33 => ?_) (fun c33 => ?_)
    · skip
      refine lv_iconst (v := bI (false)) hx hb dX2_doubt_40 (by decide) ?_
      refine lv_istore_n (lv' := [(3, .int (bI (false))), (0, .ref (bd 0)), (1, .int (nI (i))), (2, .int (bI (is)))]) hx hb dX2_doubt_41 rfl hl (by decide) rfl (fun ls hl => ?_)
      refine lv_aload_n hx hb dX2_doubt_42 rfl (lv_at hl 1 rfl) ?_
      refine va_get (D := D) (ci := 2) (v := .ref (bd 3)) (C := RX2) (T := TX2) (N := 12) hx hb hts hinX2 hown hK hP 0 rfl rfl 6 (by decide) lk23 (fun _ h9 => h9) rfl dX2_doubt_43 ?_
      refine lv_iload_n hx hb dX2_doubt_46 rfl (lv_at hl 2 rfl) ?_
      refine lv_iload_n hx hb dX2_doubt_47 rfl (lv_at hl 3 rfl) ?_
      refine x_zeq (tgt := 55) hx hb dX2_doubt_48 (by decide) (fun c48 => ?_) (fun c48 => ?_)
      · skip
        refine lv_iconst (v := bI (false)) hx hb dX2_doubt_55 (by decide) ?_
        refine x_iastB hx hb hK hP hD hS 3 0 rfl rfl (i := i) (v := false) (by omega) (by omega) dX2_doubt_56 (fun H locs hP hD hS => ?_)
        replace hP : va_P D vwCl (WM bd cI 0 c hid g code ans (va_up dbt i false) many row heap our the wr) H := hP
        replace hD : va_D A (WM bd cI 0 c hid g code ans (va_up dbt i false) many row heap our the wr) := hD
        refine lv_iload_n hx hb dX2_doubt_57 rfl (lv_at hl 0 rfl) ?_
        exact W.zret (v := bI (false)) hx hb hr (bI_narrow _) (fun t ht hW => ⟨⟨_, (0, (va_up dbt i false)), rfl, (by
            refine Or.inl ⟨rfl, i, hi, rfl, ?_, ?_⟩
            · first | exact c33.symm | (cases hd : dbt i with | false => rfl | true => exact absurd (by rw [hd]) c33)
            · show va_up dbt i _ = va_up dbt i is; rw [c48]), ⟨by rw [ht]; exact hP, hD⟩⟩, hS.F ht⟩) hS.2.2 dX2_doubt_58
      · skip
        refine lv_iconst (v := bI (true)) hx hb dX2_doubt_51 (by decide) ?_
        refine lv_goto (tgt := 56) hx hb dX2_doubt_52 (by decide) ?_
        refine x_iastB hx hb hK hP hD hS 3 0 rfl rfl (i := i) (v := true) (by omega) (by omega) dX2_doubt_56 (fun H locs hP hD hS => ?_)
        replace hP : va_P D vwCl (WM bd cI 0 c hid g code ans (va_up dbt i true) many row heap our the wr) H := hP
        replace hD : va_D A (WM bd cI 0 c hid g code ans (va_up dbt i true) many row heap our the wr) := hD
        refine lv_iload_n hx hb dX2_doubt_57 rfl (lv_at hl 0 rfl) ?_
        exact W.zret (v := bI (false)) hx hb hr (bI_narrow _) (fun t ht hW => ⟨⟨_, (0, (va_up dbt i true)), rfl, (by
            refine Or.inl ⟨rfl, i, hi, rfl, ?_, ?_⟩
            · first | exact c33.symm | (cases hd : dbt i with | false => rfl | true => exact absurd (by rw [hd]) c33)
            · show va_up dbt i _ = va_up dbt i is; rw [c48]), ⟨by rw [ht]; exact hP, hD⟩⟩, hS.F ht⟩) hS.2.2 dX2_doubt_58
    · skip
      refine lv_iconst (v := bI (true)) hx hb dX2_doubt_36 (by decide) ?_
      refine lv_goto (tgt := 41) hx hb dX2_doubt_37 (by decide) ?_
      refine lv_istore_n (lv' := [(3, .int (bI (true))), (0, .ref (bd 0)), (1, .int (nI (i))), (2, .int (bI (is)))]) hx hb dX2_doubt_41 rfl hl (by decide) rfl (fun ls hl => ?_)
      refine lv_aload_n hx hb dX2_doubt_42 rfl (lv_at hl 1 rfl) ?_
      refine va_get (D := D) (ci := 2) (v := .ref (bd 3)) (C := RX2) (T := TX2) (N := 12) hx hb hts hinX2 hown hK hP 0 rfl rfl 6 (by decide) lk23 (fun _ h9 => h9) rfl dX2_doubt_43 ?_
      refine lv_iload_n hx hb dX2_doubt_46 rfl (lv_at hl 2 rfl) ?_
      refine lv_iload_n hx hb dX2_doubt_47 rfl (lv_at hl 3 rfl) ?_
      refine x_zeq (tgt := 55) hx hb dX2_doubt_48 (by decide) (fun c48 => ?_) (fun c48 => ?_)
      · skip
        refine lv_iconst (v := bI (false)) hx hb dX2_doubt_55 (by decide) ?_
        refine x_iastB hx hb hK hP hD hS 3 0 rfl rfl (i := i) (v := false) (by omega) (by omega) dX2_doubt_56 (fun H locs hP hD hS => ?_)
        replace hP : va_P D vwCl (WM bd cI 0 c hid g code ans (va_up dbt i false) many row heap our the wr) H := hP
        replace hD : va_D A (WM bd cI 0 c hid g code ans (va_up dbt i false) many row heap our the wr) := hD
        refine lv_iload_n hx hb dX2_doubt_57 rfl (lv_at hl 0 rfl) ?_
        exact W.zret (v := bI (true)) hx hb hr (bI_narrow _) (fun t ht hW => ⟨⟨_, (0, (va_up dbt i false)), rfl, (by
            refine Or.inl ⟨rfl, i, hi, rfl, ?_, ?_⟩
            · first | exact c33.symm | (cases hd : dbt i with | false => rfl | true => exact absurd (by rw [hd]) c33)
            · show va_up dbt i _ = va_up dbt i is; rw [c48]), ⟨by rw [ht]; exact hP, hD⟩⟩, hS.F ht⟩) hS.2.2 dX2_doubt_58
      · skip
        refine lv_iconst (v := bI (true)) hx hb dX2_doubt_51 (by decide) ?_
        refine lv_goto (tgt := 56) hx hb dX2_doubt_52 (by decide) ?_
        refine x_iastB hx hb hK hP hD hS 3 0 rfl rfl (i := i) (v := true) (by omega) (by omega) dX2_doubt_56 (fun H locs hP hD hS => ?_)
        replace hP : va_P D vwCl (WM bd cI 0 c hid g code ans (va_up dbt i true) many row heap our the wr) H := hP
        replace hD : va_D A (WM bd cI 0 c hid g code ans (va_up dbt i true) many row heap our the wr) := hD
        refine lv_iload_n hx hb dX2_doubt_57 rfl (lv_at hl 0 rfl) ?_
        exact W.zret (v := bI (true)) hx hb hr (bI_narrow _) (fun t ht hW => ⟨⟨_, (0, (va_up dbt i true)), rfl, (by
            refine Or.inl ⟨rfl, i, hi, rfl, ?_, ?_⟩
            · first | exact c33.symm | (cases hd : dbt i with | false => rfl | true => exact absurd (by rw [hd]) c33)
            · show va_up dbt i _ = va_up dbt i is; rw [c48]), ⟨by rw [ht]; exact hP, hD⟩⟩, hS.F ht⟩) hS.2.2 dX2_doubt_58

set_option maxHeartbeats 4000000 in
set_option maxRecDepth 100000 in
theorem c_X2_forget (l : Launch) (D : va_G) (cI cZ cG cJ : ClassId) (A : Nat → Prop) (bd : Nat → Nat) (wr : va_W) (th : Nat) (c : Nat) (hid : Int32) (g : Nat) (code : Nat → Nat) (ans : Nat → Nat) (dbt : Nat → Bool) (many : Nat) (row : Nat → Nat) (heap : Nat → Nat) (our : Nat → Nat) (the : Nat → Nat) (hg : g ≤ 12) : Met l yX2_forget wsX2_forget ({ frames := 1, cells := 0, slots := 0, locals := 21 }) (va_Pc [.ref (bd 0)] (Iv D (TY cI cZ cG cJ) A (WM bd cI th c hid g code ans dbt many row heap our the wr))) (va_Qi (fun r (u : Nat × Nat) => (u.1 = 0 ∧ 0 < g ∧ u.2 = g - 1 ∧ r = nI (code (g - 1))) ∨ (u.1 = 1 ∧ g = 0 ∧ u.2 = g)) (fun u => Wd D A (WM bd cI u.1 c hid u.2 code ans dbt many row heap our the wr)) A) 0 0 A := by
  refine Met.ofW (cc := cX2_forget) (maxL := 1) (ret := (some .int)) (by decide) rfl ?_
  intro p e s m args below meth c9 s₁ B hml hv
  obtain ⟨rfl, hP, hD, hB⟩ := hv
  have hK := hB.1
  have hA := hB.2.1
  have hx := B.exec
  have hb := B.bytes
  have hr := B.returns
  have hts := atoms_spec (ws := wsX2_forget) B.pre
  have hown : s.vm.findClass RX2 = some m.cls := findClass_of_methodNamed B.named
  have hlocks := B.notSynchronized
  have hS : va_S A s.heap s.heap [] := va_S.rf
  have hinX2 : ∀ w ∈ wsX20, w ∈ wsX2_forget := by decide +kernel
  have lk16 := hts (.fieldLink RX2 16 "HiddenCandlesModel" "code" "[I") (by decide +kernel)
  have lk38 := hts (.fieldLink RX2 38 "HiddenCandlesModel" "thrown" "I") (by decide +kernel)
  have lk49 := hts (.fieldLink RX2 49 "HiddenCandlesModel" "guesses" "I") (by decide +kernel)
  have hl := lv_entry ([.ref (bd 0)]) (n := 1) (Nat.le_of_ble_eq_true rfl)
  rw [lg_entry_eq]
  generalize (lg_sl ([.ref (bd 0)]) ++ List.replicate (1 - (lg_sl ([.ref (bd 0)])).length) Slot.unset).toArray = ls at hl ⊢
  have hl : lv_has ls 1 [(0, .ref (bd 0))] := hl
  obtain ⟨H, eH⟩ : ∃ q, q = s.heap := ⟨_, rfl⟩
  obtain ⟨locs, eL⟩ : ∃ q : List Loc, q = [] := ⟨_, rfl⟩
  replace hP : va_P D vwCl (WM bd cI th c hid g code ans dbt many row heap our the wr) H := by rw [eH]; exact hP
  replace hS : va_S A s.heap H locs := by rw [eH, eL]; exact hS
  rw [show W p l e _ s m _ below meth c9 s.heap [] = W p l e _ s m _ below meth c9 H locs from by rw [eH, eL]]
  clear eH eL
  refine lv_aload_n hx hb dX2_forget_0 rfl (lv_at hl 0 rfl) ?_
  refine lv_iconst (v := nI (0)) hx hb dX2_forget_1 (by decide) ?_
  refine va_put (D := D) (ci := 2) (v := .int (nI (0))) (ty := .int) (C := RX2) (T := TX2) (N := 12) hx hb hts hinX2 tyX2 tyX2_ok nmX2 hown hK hP hD hS 0 rfl rfl 0 (by decide) lk38 (fun _ h9 => h9) rfl (by decide +kernel) rfl rfl (Nat.le_of_ble_eq_true rfl) dX2_forget_2 (fun H locs hP hD hS => ?_)
  replace hP : va_P D vwCl (WM bd cI 0 c hid g code ans dbt many row heap our the wr) H := hP
  replace hD : va_D A (WM bd cI 0 c hid g code ans dbt many row heap our the wr) := hD
  refine lv_aload_n hx hb dX2_forget_5 rfl (lv_at hl 0 rfl) ?_
  refine va_get (D := D) (ci := 2) (v := .int (nI (g))) (C := RX2) (T := TX2) (N := 12) hx hb hts hinX2 hown hK hP 0 rfl rfl 3 (by decide) lk49 (fun _ h9 => h9) rfl dX2_forget_6 ?_
  refine x_ne0 (tgt := 18) hx hb dX2_forget_9 (by decide) (by omega) (fun c9 => ?_) (fun c9 => ?_)
  · skip
    refine lv_aload_n hx hb dX2_forget_18 rfl (lv_at hl 0 rfl) ?_
    refine lv_dup hx hb dX2_forget_19 rfl ?_
    refine va_get (D := D) (ci := 2) (v := .int (nI (g))) (C := RX2) (T := TX2) (N := 12) hx hb hts hinX2 hown hK hP 0 rfl rfl 3 (by decide) lk49 (fun _ h9 => h9) rfl dX2_forget_20 ?_
    refine lv_iconst (v := nI (1)) hx hb dX2_forget_23 (by decide) ?_
    refine lv_isub hx hb dX2_forget_24 ?_
    refine x_ti (pk_sub (by omega)) ?_
    refine va_put (D := D) (ci := 2) (v := .int (nI (g - 1))) (ty := .int) (C := RX2) (T := TX2) (N := 12) hx hb hts hinX2 tyX2 tyX2_ok nmX2 hown hK hP hD hS 0 rfl rfl 3 (by decide) lk49 (fun _ h9 => h9) rfl (by decide +kernel) rfl rfl (Nat.le_of_ble_eq_true rfl) dX2_forget_25 (fun H locs hP hD hS => ?_)
    replace hP : va_P D vwCl (WM bd cI 0 c hid (g - 1) code ans dbt many row heap our the wr) H := hP
    replace hD : va_D A (WM bd cI 0 c hid (g - 1) code ans dbt many row heap our the wr) := hD
    refine lv_aload_n hx hb dX2_forget_28 rfl (lv_at hl 0 rfl) ?_
    refine va_get (D := D) (ci := 2) (v := .ref (bd 1)) (C := RX2) (T := TX2) (N := 12) hx hb hts hinX2 hown hK hP 0 rfl rfl 4 (by decide) lk16 (fun _ h9 => h9) rfl dX2_forget_29 ?_
    refine lv_aload_n hx hb dX2_forget_32 rfl (lv_at hl 0 rfl) ?_
    refine va_get (D := D) (ci := 2) (v := .int (nI ((g - 1)))) (C := RX2) (T := TX2) (N := 12) hx hb hts hinX2 hown hK hP 0 rfl rfl 3 (by decide) lk49 (fun _ h9 => h9) rfl dX2_forget_33 ?_
    refine x_iald hx hb hK hP 1 0 rfl rfl (i := (g - 1)) (by omega) (by omega) dX2_forget_36 ?_
    exact W.iret (v := nI (code (g - 1))) hx hb hr (fun t ht hW => ⟨⟨_, (0, g - 1), rfl, (by
        exact Or.inl ⟨rfl, c9, rfl, rfl⟩), ⟨by rw [ht]; exact hP, hD⟩⟩, hS.F ht⟩) hS.2.2 dX2_forget_37
  · skip
    refine lv_aload_n hx hb dX2_forget_12 rfl (lv_at hl 0 rfl) ?_
    refine lv_iconst (v := nI (1)) hx hb dX2_forget_13 (by decide) ?_
    refine va_calli (va_runV (As := [.int (nI (1))]) (rest := []) ⟨hx, hb, hml, hown, hts⟩ (c_X2_no l D cI cZ cG cJ A bd wr 0 c hid g code ans dbt many row heap our the 1 ) (cwV 1 hts gX2_forget_X2_no rfl rfl rfl (by decide +kernel) ⟨Nat.le_of_ble_eq_true rfl, Nat.le_of_ble_eq_true rfl⟩) (preV (ci := 2) (q0 := 0) hB hS hP hD rfl rfl) rfl rfl hl.1 rfl (lv_room (Nat.le_of_ble_eq_true rfl)) dX2_forget_14 ⟨Nat.le_of_ble_eq_true rfl, Nat.le_of_ble_eq_true rfl⟩) hS (fun q _ h => h) (fun q h => h) (fun r_14 u_14 t9 H1 locs1 ht9 hvm9 hw_14 hBw hz9 hk9 hS => ?_)
    obtain ⟨hP, hD⟩ := hBw
    rw [ht9] at hP
    generalize H1 = H at hP hS ⊢
    generalize locs1 = locs at hS ⊢
    replace hP : va_P D vwCl (WM bd cI 1 c hid g code ans dbt many row heap our the wr) H := hP
    replace hD : va_D A (WM bd cI 1 c hid g code ans dbt many row heap our the wr) := hD
    refine x_ti (y := nI (0)) (hw_14.1) ?_
    exact W.iret (v := nI (0)) hx hb hr (fun t ht hW => ⟨⟨_, (1, g), rfl, (by
        exact Or.inr ⟨rfl, c9, rfl⟩), ⟨by rw [ht]; exact hP, hD⟩⟩, hS.F ht⟩) hS.2.2 dX2_forget_17

set_option maxHeartbeats 4000000 in
set_option maxRecDepth 100000 in
theorem c_X2_colour (l : Launch) (D : va_G) (cI cZ cG cJ : ClassId) (A : Nat → Prop) (bd : Nat → Nat) (wr : va_W) (th : Nat) (c : Nat) (hid : Int32) (g : Nat) (code : Nat → Nat) (ans : Nat → Nat) (dbt : Nat → Bool) (many : Nat) (row : Nat → Nat) (heap : Nat → Nat) (our : Nat → Nat) (the : Nat → Nat) (v : Int32) (pl : Int32) (hc : c = 2 ∨ c = 3) : Met l yX2_colour wsX2_colour ({ frames := 2, cells := 0, slots := 0, locals := 45 }) (va_Pc [.ref (bd 0), .int (v), .int (pl)] (Iv D (TY cI cZ cG cJ) A (WM bd cI th c hid g code ans dbt many row heap our the wr))) (va_Qi (fun r (u : Nat) => (u = 0 ∧ ∃ k p0 : Nat, k < qq c ∧ v = nI k ∧ p0 < 4 ∧ pl = nI p0 ∧ r = nI (col c k p0)) ∨ (u = 1 ∧ (hasC c v = false ∨ plC pl = false))) (fun u => Wd D A (WM bd cI u c hid g code ans dbt many row heap our the wr)) A) 0 0 A := by
  refine Met.ofW (cc := cX2_colour) (maxL := 3) (ret := (some .int)) (by decide) rfl ?_
  intro p e s m args below meth c9 s₁ B hml hv
  obtain ⟨rfl, hP, hD, hB⟩ := hv
  have hK := hB.1
  have hA := hB.2.1
  have hx := B.exec
  have hb := B.bytes
  have hr := B.returns
  have hts := atoms_spec (ws := wsX2_colour) B.pre
  have hown : s.vm.findClass RX2 = some m.cls := findClass_of_methodNamed B.named
  have hlocks := B.notSynchronized
  have hS : va_S A s.heap s.heap [] := va_S.rf
  have hinX2 : ∀ w ∈ wsX20, w ∈ wsX2_colour := by decide +kernel
  have lk38 := hts (.fieldLink RX2 38 "HiddenCandlesModel" "thrown" "I") (by decide +kernel)
  have hl := lv_entry ([.ref (bd 0), .int (v), .int (pl)]) (n := 3) (Nat.le_of_ble_eq_true rfl)
  rw [lg_entry_eq]
  generalize (lg_sl ([.ref (bd 0), .int (v), .int (pl)]) ++ List.replicate (3 - (lg_sl ([.ref (bd 0), .int (v), .int (pl)])).length) Slot.unset).toArray = ls at hl ⊢
  have hl : lv_has ls 3 [(0, .ref (bd 0)), (1, .int (v)), (2, .int (pl))] := hl
  obtain ⟨H, eH⟩ : ∃ q, q = s.heap := ⟨_, rfl⟩
  obtain ⟨locs, eL⟩ : ∃ q : List Loc, q = [] := ⟨_, rfl⟩
  replace hP : va_P D vwCl (WM bd cI th c hid g code ans dbt many row heap our the wr) H := by rw [eH]; exact hP
  replace hS : va_S A s.heap H locs := by rw [eH, eL]; exact hS
  rw [show W p l e _ s m _ below meth c9 s.heap [] = W p l e _ s m _ below meth c9 H locs from by rw [eH, eL]]
  clear eH eL
  have hq := qq_in hc
  refine lv_aload_n hx hb dX2_colour_0 rfl (lv_at hl 0 rfl) ?_
  refine lv_iconst (v := nI (0)) hx hb dX2_colour_1 (by decide) ?_
  refine va_put (D := D) (ci := 2) (v := .int (nI (0))) (ty := .int) (C := RX2) (T := TX2) (N := 12) hx hb hts hinX2 tyX2 tyX2_ok nmX2 hown hK hP hD hS 0 rfl rfl 0 (by decide) lk38 (fun _ h9 => h9) rfl (by decide +kernel) rfl rfl (Nat.le_of_ble_eq_true rfl) dX2_colour_2 (fun H locs hP hD hS => ?_)
  replace hP : va_P D vwCl (WM bd cI 0 c hid g code ans dbt many row heap our the wr) H := hP
  replace hD : va_D A (WM bd cI 0 c hid g code ans dbt many row heap our the wr) := hD
  refine lv_aload_n hx hb dX2_colour_5 rfl (lv_at hl 0 rfl) ?_
  refine lv_iload_n hx hb dX2_colour_6 rfl (lv_at hl 1 rfl) ?_
  refine x_csi (va_runV (As := [.int (v)]) (rest := []) ⟨hx, hb, hml, hown, hts⟩ (c_X2_isCode l D cI cZ cG cJ A bd wr 0 c hid g code ans dbt many row heap our the v (hc)) (cwV 1 hts gX2_colour_X2_isCode rfl rfl rfl (by decide +kernel) ⟨Nat.le_of_ble_eq_true rfl, Nat.le_of_ble_eq_true rfl⟩) (preV (ci := 2) (q0 := 0) hB hS hP hD rfl rfl) rfl rfl hl.1 rfl (lv_room (Nat.le_of_ble_eq_true rfl)) dX2_colour_7 ⟨Nat.le_of_ble_eq_true rfl, Nat.le_of_ble_eq_true rfl⟩) ?_
  refine x_zeq (tgt := 29) hx hb dX2_colour_10 (by decide) (fun c10 => ?_) (fun c10 => ?_)
  · skip
    refine lv_aload_n hx hb dX2_colour_29 rfl (lv_at hl 0 rfl) ?_
    refine lv_iconst (v := nI (1)) hx hb dX2_colour_30 (by decide) ?_
    refine va_calli (va_runV (As := [.int (nI (1))]) (rest := []) ⟨hx, hb, hml, hown, hts⟩ (c_X2_no l D cI cZ cG cJ A bd wr 0 c hid g code ans dbt many row heap our the 1 ) (cwV 1 hts gX2_colour_X2_no rfl rfl rfl (by decide +kernel) ⟨Nat.le_of_ble_eq_true rfl, Nat.le_of_ble_eq_true rfl⟩) (preV (ci := 2) (q0 := 0) hB hS hP hD rfl rfl) rfl rfl hl.1 rfl (lv_room (Nat.le_of_ble_eq_true rfl)) dX2_colour_31 ⟨Nat.le_of_ble_eq_true rfl, Nat.le_of_ble_eq_true rfl⟩) hS (fun q _ h => h) (fun q h => h) (fun r_31 u_31 t9 H1 locs1 ht9 hvm9 hw_31 hBw hz9 hk9 hS => ?_)
    obtain ⟨hP, hD⟩ := hBw
    rw [ht9] at hP
    generalize H1 = H at hP hS ⊢
    generalize locs1 = locs at hS ⊢
    replace hP : va_P D vwCl (WM bd cI 1 c hid g code ans dbt many row heap our the wr) H := hP
    replace hD : va_D A (WM bd cI 1 c hid g code ans dbt many row heap our the wr) := hD
    refine x_ti (y := nI (0)) (hw_31.1) ?_
    exact W.iret (v := nI (0)) hx hb hr (fun t ht hW => ⟨⟨_, 1, rfl, (by
        exact Or.inr ⟨rfl, by first | exact Or.inl c10 | exact Or.inr c17⟩), ⟨by rw [ht]; exact hP, hD⟩⟩, hS.F ht⟩) hS.2.2 dX2_colour_34
  · skip
    refine lv_iload_n hx hb dX2_colour_13 rfl (lv_at hl 2 rfl) ?_
    refine x_csi (va_runS (As := [.int (pl)]) (rest := []) ⟨hx, hb, hml, hown, hts⟩ (c_X2_isPlace l D cI cZ cG cJ A (WM bd cI 0 c hid g code ans dbt many row heap our the wr) pl ) (va_cwS 1 hts gX2_colour_X2_isPlace rfl rfl rfl (by decide +kernel) ⟨Nat.le_of_ble_eq_true rfl, Nat.le_of_ble_eq_true rfl⟩) (preS hB hS hP hD) rfl rfl hl.1 rfl (lv_room (Nat.le_of_ble_eq_true rfl)) dX2_colour_14 ⟨Nat.le_of_ble_eq_true rfl, Nat.le_of_ble_eq_true rfl⟩) ?_
    refine x_zeq (tgt := 29) hx hb dX2_colour_17 (by decide) (fun c17 => ?_) (fun c17 => ?_)
    · skip
      refine lv_aload_n hx hb dX2_colour_29 rfl (lv_at hl 0 rfl) ?_
      refine lv_iconst (v := nI (1)) hx hb dX2_colour_30 (by decide) ?_
      refine va_calli (va_runV (As := [.int (nI (1))]) (rest := []) ⟨hx, hb, hml, hown, hts⟩ (c_X2_no l D cI cZ cG cJ A bd wr 0 c hid g code ans dbt many row heap our the 1 ) (cwV 1 hts gX2_colour_X2_no rfl rfl rfl (by decide +kernel) ⟨Nat.le_of_ble_eq_true rfl, Nat.le_of_ble_eq_true rfl⟩) (preV (ci := 2) (q0 := 0) hB hS hP hD rfl rfl) rfl rfl hl.1 rfl (lv_room (Nat.le_of_ble_eq_true rfl)) dX2_colour_31 ⟨Nat.le_of_ble_eq_true rfl, Nat.le_of_ble_eq_true rfl⟩) hS (fun q _ h => h) (fun q h => h) (fun r_31 u_31 t9 H1 locs1 ht9 hvm9 hw_31 hBw hz9 hk9 hS => ?_)
      obtain ⟨hP, hD⟩ := hBw
      rw [ht9] at hP
      generalize H1 = H at hP hS ⊢
      generalize locs1 = locs at hS ⊢
      replace hP : va_P D vwCl (WM bd cI 1 c hid g code ans dbt many row heap our the wr) H := hP
      replace hD : va_D A (WM bd cI 1 c hid g code ans dbt many row heap our the wr) := hD
      refine x_ti (y := nI (0)) (hw_31.1) ?_
      exact W.iret (v := nI (0)) hx hb hr (fun t ht hW => ⟨⟨_, 1, rfl, (by
          exact Or.inr ⟨rfl, by first | exact Or.inl c10 | exact Or.inr c17⟩), ⟨by rw [ht]; exact hP, hD⟩⟩, hS.F ht⟩) hS.2.2 dX2_colour_34
    · skip
      obtain ⟨k, hk, rfl⟩ := hasC_of hc c10
      obtain ⟨p0, hp, rfl⟩ := plC_of c17
      refine lv_aload_n hx hb dX2_colour_20 rfl (lv_at hl 0 rfl) ?_
      refine lv_iload_n hx hb dX2_colour_21 rfl (lv_at hl 1 rfl) ?_
      refine lv_iload_n hx hb dX2_colour_22 rfl (lv_at hl 2 rfl) ?_
      refine x_csi (va_runV (As := [.int (nI (k)), .int (nI (p0))]) (rest := []) ⟨hx, hb, hml, hown, hts⟩ (c_X2_at l D cI cZ cG cJ A bd wr 0 c hid g code ans dbt many row heap our the k p0 (hc) (hk) (hp)) (cwV 2 hts gX2_colour_X2_at rfl rfl rfl (by decide +kernel) ⟨Nat.le_of_ble_eq_true rfl, Nat.le_of_ble_eq_true rfl⟩) (preV (ci := 2) (q0 := 0) hB hS hP hD rfl rfl) rfl rfl hl.1 rfl (lv_room (Nat.le_of_ble_eq_true rfl)) dX2_colour_23 ⟨Nat.le_of_ble_eq_true rfl, Nat.le_of_ble_eq_true rfl⟩) ?_
      have hcl := col_lt hc (k) (p0)
      refine lv_goto (tgt := 34) hx hb dX2_colour_26 (by decide) ?_
      exact W.iret (v := nI (col c k p0)) hx hb hr (fun t ht hW => ⟨⟨_, 0, rfl, (by
          exact Or.inl ⟨rfl, k, p0, hk, rfl, hp, rfl, rfl⟩), ⟨by rw [ht]; exact hP, hD⟩⟩, hS.F ht⟩) hS.2.2 dX2_colour_34

set_option maxHeartbeats 4000000 in
set_option maxRecDepth 100000 in
theorem c_X2_pins (l : Launch) (D : va_G) (cI cZ cG cJ : ClassId) (A : Nat → Prop) (bd : Nat → Nat) (wr : va_W) (th : Nat) (c : Nat) (hid : Int32) (g : Nat) (code : Nat → Nat) (ans : Nat → Nat) (dbt : Nat → Bool) (many : Nat) (row : Nat → Nat) (heap : Nat → Nat) (our : Nat → Nat) (the : Nat → Nat) (a : Int32) (b : Int32) (hc : c = 2 ∨ c = 3) : Met l yX2_pins wsX2_pins ({ frames := 3, cells := 0, slots := 0, locals := 70 }) (va_Pc [.ref (bd 0), .int (a), .int (b)] (Iv D (TY cI cZ cG cJ) A (WM bd cI th c hid g code ans dbt many row heap our the wr))) (va_Qi (fun r (u : Nat × (Nat → Nat) × (Nat → Nat)) => (u.1 = 0 ∧ ∃ k k2 : Nat, k < qq c ∧ a = nI k ∧ k2 < qq c ∧ b = nI k2 ∧ r = nI (pins c k k2)) ∨ (u.1 = 1 ∧ (hasC c a = false ∨ hasC c b = false))) (fun u => Wd D A (WM bd cI u.1 c hid g code ans dbt many row heap u.2.1 u.2.2 wr)) A) 0 0 A := by
  refine Met.ofW (cc := cX2_pins) (maxL := 3) (ret := (some .int)) (by decide) rfl ?_
  intro p e s m args below meth c9 s₁ B hml hv
  obtain ⟨rfl, hP, hD, hB⟩ := hv
  have hK := hB.1
  have hA := hB.2.1
  have hx := B.exec
  have hb := B.bytes
  have hr := B.returns
  have hts := atoms_spec (ws := wsX2_pins) B.pre
  have hown : s.vm.findClass RX2 = some m.cls := findClass_of_methodNamed B.named
  have hlocks := B.notSynchronized
  have hS : va_S A s.heap s.heap [] := va_S.rf
  have hinX2 : ∀ w ∈ wsX20, w ∈ wsX2_pins := by decide +kernel
  have lk38 := hts (.fieldLink RX2 38 "HiddenCandlesModel" "thrown" "I") (by decide +kernel)
  have hl := lv_entry ([.ref (bd 0), .int (a), .int (b)]) (n := 3) (Nat.le_of_ble_eq_true rfl)
  rw [lg_entry_eq]
  generalize (lg_sl ([.ref (bd 0), .int (a), .int (b)]) ++ List.replicate (3 - (lg_sl ([.ref (bd 0), .int (a), .int (b)])).length) Slot.unset).toArray = ls at hl ⊢
  have hl : lv_has ls 3 [(0, .ref (bd 0)), (1, .int (a)), (2, .int (b))] := hl
  obtain ⟨H, eH⟩ : ∃ q, q = s.heap := ⟨_, rfl⟩
  obtain ⟨locs, eL⟩ : ∃ q : List Loc, q = [] := ⟨_, rfl⟩
  replace hP : va_P D vwCl (WM bd cI th c hid g code ans dbt many row heap our the wr) H := by rw [eH]; exact hP
  replace hS : va_S A s.heap H locs := by rw [eH, eL]; exact hS
  rw [show W p l e _ s m _ below meth c9 s.heap [] = W p l e _ s m _ below meth c9 H locs from by rw [eH, eL]]
  clear eH eL
  have hq := qq_in hc
  refine lv_aload_n hx hb dX2_pins_0 rfl (lv_at hl 0 rfl) ?_
  refine lv_iconst (v := nI (0)) hx hb dX2_pins_1 (by decide) ?_
  refine va_put (D := D) (ci := 2) (v := .int (nI (0))) (ty := .int) (C := RX2) (T := TX2) (N := 12) hx hb hts hinX2 tyX2 tyX2_ok nmX2 hown hK hP hD hS 0 rfl rfl 0 (by decide) lk38 (fun _ h9 => h9) rfl (by decide +kernel) rfl rfl (Nat.le_of_ble_eq_true rfl) dX2_pins_2 (fun H locs hP hD hS => ?_)
  replace hP : va_P D vwCl (WM bd cI 0 c hid g code ans dbt many row heap our the wr) H := hP
  replace hD : va_D A (WM bd cI 0 c hid g code ans dbt many row heap our the wr) := hD
  refine lv_aload_n hx hb dX2_pins_5 rfl (lv_at hl 0 rfl) ?_
  refine lv_iload_n hx hb dX2_pins_6 rfl (lv_at hl 1 rfl) ?_
  refine x_csi (va_runV (As := [.int (a)]) (rest := []) ⟨hx, hb, hml, hown, hts⟩ (c_X2_isCode l D cI cZ cG cJ A bd wr 0 c hid g code ans dbt many row heap our the a (hc)) (cwV 1 hts gX2_pins_X2_isCode rfl rfl rfl (by decide +kernel) ⟨Nat.le_of_ble_eq_true rfl, Nat.le_of_ble_eq_true rfl⟩) (preV (ci := 2) (q0 := 0) hB hS hP hD rfl rfl) rfl rfl hl.1 rfl (lv_room (Nat.le_of_ble_eq_true rfl)) dX2_pins_7 ⟨Nat.le_of_ble_eq_true rfl, Nat.le_of_ble_eq_true rfl⟩) ?_
  refine x_zeq (tgt := 30) hx hb dX2_pins_10 (by decide) (fun c10 => ?_) (fun c10 => ?_)
  · skip
    refine lv_aload_n hx hb dX2_pins_30 rfl (lv_at hl 0 rfl) ?_
    refine lv_iconst (v := nI (1)) hx hb dX2_pins_31 (by decide) ?_
    refine va_calli (va_runV (As := [.int (nI (1))]) (rest := []) ⟨hx, hb, hml, hown, hts⟩ (c_X2_no l D cI cZ cG cJ A bd wr 0 c hid g code ans dbt many row heap our the 1 ) (cwV 1 hts gX2_pins_X2_no rfl rfl rfl (by decide +kernel) ⟨Nat.le_of_ble_eq_true rfl, Nat.le_of_ble_eq_true rfl⟩) (preV (ci := 2) (q0 := 0) hB hS hP hD rfl rfl) rfl rfl hl.1 rfl (lv_room (Nat.le_of_ble_eq_true rfl)) dX2_pins_32 ⟨Nat.le_of_ble_eq_true rfl, Nat.le_of_ble_eq_true rfl⟩) hS (fun q _ h => h) (fun q h => h) (fun r_32 u_32 t9 H1 locs1 ht9 hvm9 hw_32 hBw hz9 hk9 hS => ?_)
    obtain ⟨hP, hD⟩ := hBw
    rw [ht9] at hP
    generalize H1 = H at hP hS ⊢
    generalize locs1 = locs at hS ⊢
    replace hP : va_P D vwCl (WM bd cI 1 c hid g code ans dbt many row heap our the wr) H := hP
    replace hD : va_D A (WM bd cI 1 c hid g code ans dbt many row heap our the wr) := hD
    refine x_ti (y := nI (0)) (hw_32.1) ?_
    exact W.iret (v := nI (0)) hx hb hr (fun t ht hW => ⟨⟨_, (1, our, the), rfl, (by
        exact Or.inr ⟨rfl, by first | exact Or.inl c10 | exact Or.inr c18⟩), ⟨by rw [ht]; exact hP, hD⟩⟩, hS.F ht⟩) hS.2.2 dX2_pins_35
  · skip
    refine lv_aload_n hx hb dX2_pins_13 rfl (lv_at hl 0 rfl) ?_
    refine lv_iload_n hx hb dX2_pins_14 rfl (lv_at hl 2 rfl) ?_
    refine x_csi (va_runV (As := [.int (b)]) (rest := []) ⟨hx, hb, hml, hown, hts⟩ (c_X2_isCode l D cI cZ cG cJ A bd wr 0 c hid g code ans dbt many row heap our the b (hc)) (cwV 1 hts gX2_pins_X2_isCode rfl rfl rfl (by decide +kernel) ⟨Nat.le_of_ble_eq_true rfl, Nat.le_of_ble_eq_true rfl⟩) (preV (ci := 2) (q0 := 0) hB hS hP hD rfl rfl) rfl rfl hl.1 rfl (lv_room (Nat.le_of_ble_eq_true rfl)) dX2_pins_15 ⟨Nat.le_of_ble_eq_true rfl, Nat.le_of_ble_eq_true rfl⟩) ?_
    refine x_zeq (tgt := 30) hx hb dX2_pins_18 (by decide) (fun c18 => ?_) (fun c18 => ?_)
    · skip
      refine lv_aload_n hx hb dX2_pins_30 rfl (lv_at hl 0 rfl) ?_
      refine lv_iconst (v := nI (1)) hx hb dX2_pins_31 (by decide) ?_
      refine va_calli (va_runV (As := [.int (nI (1))]) (rest := []) ⟨hx, hb, hml, hown, hts⟩ (c_X2_no l D cI cZ cG cJ A bd wr 0 c hid g code ans dbt many row heap our the 1 ) (cwV 1 hts gX2_pins_X2_no rfl rfl rfl (by decide +kernel) ⟨Nat.le_of_ble_eq_true rfl, Nat.le_of_ble_eq_true rfl⟩) (preV (ci := 2) (q0 := 0) hB hS hP hD rfl rfl) rfl rfl hl.1 rfl (lv_room (Nat.le_of_ble_eq_true rfl)) dX2_pins_32 ⟨Nat.le_of_ble_eq_true rfl, Nat.le_of_ble_eq_true rfl⟩) hS (fun q _ h => h) (fun q h => h) (fun r_32 u_32 t9 H1 locs1 ht9 hvm9 hw_32 hBw hz9 hk9 hS => ?_)
      obtain ⟨hP, hD⟩ := hBw
      rw [ht9] at hP
      generalize H1 = H at hP hS ⊢
      generalize locs1 = locs at hS ⊢
      replace hP : va_P D vwCl (WM bd cI 1 c hid g code ans dbt many row heap our the wr) H := hP
      replace hD : va_D A (WM bd cI 1 c hid g code ans dbt many row heap our the wr) := hD
      refine x_ti (y := nI (0)) (hw_32.1) ?_
      exact W.iret (v := nI (0)) hx hb hr (fun t ht hW => ⟨⟨_, (1, our, the), rfl, (by
          exact Or.inr ⟨rfl, by first | exact Or.inl c10 | exact Or.inr c18⟩), ⟨by rw [ht]; exact hP, hD⟩⟩, hS.F ht⟩) hS.2.2 dX2_pins_35
    · skip
      obtain ⟨k, hk, rfl⟩ := hasC_of hc c10
      obtain ⟨k2, hk2, rfl⟩ := hasC_of hc c18
      refine lv_aload_n hx hb dX2_pins_21 rfl (lv_at hl 0 rfl) ?_
      refine lv_iload_n hx hb dX2_pins_22 rfl (lv_at hl 1 rfl) ?_
      refine lv_iload_n hx hb dX2_pins_23 rfl (lv_at hl 2 rfl) ?_
      refine va_calli (va_runV (As := [.int (nI (k)), .int (nI (k2))]) (rest := []) ⟨hx, hb, hml, hown, hts⟩ (c_X2_answerTo l D cI cZ cG cJ A bd wr 0 c hid g code ans dbt many row heap our the k k2 (hc) (hk) (hk2)) (cwV 2 hts gX2_pins_X2_answerTo rfl rfl rfl (by decide +kernel) ⟨Nat.le_of_ble_eq_true rfl, Nat.le_of_ble_eq_true rfl⟩) (preV (ci := 2) (q0 := 0) hB hS hP hD rfl rfl) rfl rfl hl.1 rfl (lv_room (Nat.le_of_ble_eq_true rfl)) dX2_pins_24 ⟨Nat.le_of_ble_eq_true rfl, Nat.le_of_ble_eq_true rfl⟩) hS (fun q _ h => h) (fun q h => h) (fun r_24 u_24 t9 H1 locs1 ht9 hvm9 hw_24 hBw hz9 hk9 hS => ?_)
      obtain ⟨hP, hD⟩ := hBw
      rw [ht9] at hP
      generalize H1 = H at hP hS ⊢
      generalize locs1 = locs at hS ⊢
      replace hP : va_P D vwCl (WM bd cI 0 c hid g code ans dbt many row heap u_24.1 u_24.2 wr) H := hP
      replace hD : va_D A (WM bd cI 0 c hid g code ans dbt many row heap u_24.1 u_24.2 wr) := hD
      refine x_ti (y := nI (pins c k k2)) (hw_24.1) ?_
      have hpi := pins_le hc (hk) (hk2)
      refine lv_goto (tgt := 35) hx hb dX2_pins_27 (by decide) ?_
      exact W.iret (v := nI (pins c k k2)) hx hb hr (fun t ht hW => ⟨⟨_, (0, u_24.1, u_24.2), rfl, (by
          exact Or.inl ⟨rfl, k, k2, hk, rfl, hk2, rfl, rfl⟩), ⟨by rw [ht]; exact hP, hD⟩⟩, hS.F ht⟩) hS.2.2 dX2_pins_35

set_option maxHeartbeats 4000000 in
set_option maxRecDepth 100000 in
theorem c_X2_alike (l : Launch) (D : va_G) (cI cZ cG cJ : ClassId) (A : Nat → Prop) (bd : Nat → Nat) (wr : va_W) (th : Nat) (c : Nat) (hid : Int32) (g : Nat) (code : Nat → Nat) (ans : Nat → Nat) (dbt : Nat → Bool) (many : Nat) (row : Nat → Nat) (heap : Nat → Nat) (our : Nat → Nat) (the : Nat → Nat) (i : Nat) (hc : c = 2 ∨ c = 3) (hg : g ≤ 12) (hco : CodeOK c g code ans) (hi : i < g) : Met l yX2_alike wsX2_alike ({ frames := 3, cells := 0, slots := 0, locals := 70 }) (va_Pc [.ref (bd 0), .int (nI (i))] (Iv D (TY cI cZ cG cJ) A (WM bd cI th c hid g code ans dbt many row heap our the wr))) (va_Qi (fun r (u : (Nat → Nat) × (Nat → Nat)) => r = nI (cN (fun k => decide (pins c (code i) k = ans i)) (qq c)) ∧ True) (fun u => Wd D A (WM bd cI th c hid g code ans dbt many row heap u.1 u.2 wr)) A) 0 0 A := by
  refine Met.ofW (cc := cX2_alike) (maxL := 4) (ret := (some .int)) (by decide) rfl ?_
  intro p e s m args below meth c9 s₁ B hml hv
  obtain ⟨rfl, hP, hD, hB⟩ := hv
  have hK := hB.1
  have hA := hB.2.1
  have hx := B.exec
  have hb := B.bytes
  have hr := B.returns
  have hts := atoms_spec (ws := wsX2_alike) B.pre
  have hown : s.vm.findClass RX2 = some m.cls := findClass_of_methodNamed B.named
  have hlocks := B.notSynchronized
  have hS : va_S A s.heap s.heap [] := va_S.rf
  have hinX2 : ∀ w ∈ wsX20, w ∈ wsX2_alike := by decide +kernel
  have lk16 := hts (.fieldLink RX2 16 "HiddenCandlesModel" "code" "[I") (by decide +kernel)
  have lk20 := hts (.fieldLink RX2 20 "HiddenCandlesModel" "answer" "[I") (by decide +kernel)
  have hl := lv_entry ([.ref (bd 0), .int (nI (i))]) (n := 4) (Nat.le_of_ble_eq_true rfl)
  rw [lg_entry_eq]
  generalize (lg_sl ([.ref (bd 0), .int (nI (i))]) ++ List.replicate (4 - (lg_sl ([.ref (bd 0), .int (nI (i))])).length) Slot.unset).toArray = ls at hl ⊢
  have hl : lv_has ls 4 [(0, .ref (bd 0)), (1, .int (nI (i)))] := hl
  obtain ⟨H, eH⟩ : ∃ q, q = s.heap := ⟨_, rfl⟩
  obtain ⟨locs, eL⟩ : ∃ q : List Loc, q = [] := ⟨_, rfl⟩
  replace hP : va_P D vwCl (WM bd cI th c hid g code ans dbt many row heap our the wr) H := by rw [eH]; exact hP
  replace hS : va_S A s.heap H locs := by rw [eH, eL]; exact hS
  rw [show W p l e _ s m _ below meth c9 s.heap [] = W p l e _ s m _ below meth c9 H locs from by rw [eH, eL]]
  clear eH eL
  have hq := qq_in hc
  refine lv_iconst (v := nI (0)) hx hb dX2_alike_0 (by decide) ?_
  refine lv_istore_n (lv' := [(2, .int (nI (0))), (0, .ref (bd 0)), (1, .int (nI (i)))]) hx hb dX2_alike_1 rfl hl (by decide) rfl (fun ls hl => ?_)
  refine lv_iconst (v := nI (0)) hx hb dX2_alike_2 (by decide) ?_
  refine lv_istore_n (lv' := [(3, .int (nI (0))), (2, .int (nI (0))), (0, .ref (bd 0)), (1, .int (nI (i)))]) hx hb dX2_alike_3 rfl hl (by decide) rfl (fun ls hl => ?_)
  -- loop at 4
  have hinv : 0 ≤ qq c ∧ 0 = cN (fun z => decide (pins c (code i) z = ans i)) 0 := by
    exact ⟨Nat.zero_le _, rfl⟩
  obtain ⟨k, r, o1, t1, hq9⟩ : ∃ (k : Nat) (r : Nat) (o1 : Nat → Nat) (t1 : Nat → Nat), lv_has ls 4 [(0, .ref (bd 0)), (1, .int (nI (i))), (2, .int (nI (r))), (3, .int (nI (k)))] ∧ (k ≤ qq c ∧ r = cN (fun z => decide (pins c (code i) z = ans i)) k) ∧ va_P D vwCl (WM bd cI th c hid g code ans dbt many row heap o1 t1 wr) H ∧ va_D A (WM bd cI th c hid g code ans dbt many row heap o1 t1 wr) := ⟨0, 0, our, the, lv_sub hl [2, 3, 1, 0] rfl, hinv, hP, hD⟩
  clear hl hinv hP hD
  obtain ⟨hl, hinv, hP, hD⟩ := hq9
  obtain ⟨n9_4, hn9⟩ : ∃ q : Nat, qq c - k < q := ⟨_, Nat.lt_succ_self _⟩
  induction n9_4 generalizing ls H locs k r o1 t1 with
  | zero => exact absurd hn9 (Nat.not_lt_zero _)
  | succ n9_4 ih4 =>
    obtain ⟨h1, h2⟩ := hinv
    refine lv_iload_n hx hb dX2_alike_4 rfl (lv_at hl 3 rfl) ?_
    refine lv_aload_n hx hb dX2_alike_5 rfl (lv_at hl 0 rfl) ?_
    refine x_csi (va_runV (As := []) (rest := [.int (nI (k))]) ⟨hx, hb, hml, hown, hts⟩ (c_X2_codes l D cI cZ cG cJ A bd wr th c hid g code ans dbt many row heap o1 t1 ) (cwV 0 hts gX2_alike_X2_codes rfl rfl rfl (by decide +kernel) ⟨Nat.le_of_ble_eq_true rfl, Nat.le_of_ble_eq_true rfl⟩) (preV (ci := 2) (q0 := 0) hB hS hP hD rfl rfl) rfl rfl hl.1 rfl (lv_room (Nat.le_of_ble_eq_true rfl)) dX2_alike_6 ⟨Nat.le_of_ble_eq_true rfl, Nat.le_of_ble_eq_true rfl⟩) ?_
    refine x_ge (tgt := 46) hx hb dX2_alike_9 (by decide) (by omega) (by omega) (fun c9 => ?_) (fun c9 => ?_)
    · skip
      refine lv_iload_n hx hb dX2_alike_46 rfl (lv_at hl 2 rfl) ?_
      exact W.iret (v := nI (r)) hx hb hr (fun t ht hW => ⟨⟨_, (o1, t1), rfl, (by
          have e9 : k = qq c := by omega
          exact ⟨by rw [h2, e9], trivial⟩), ⟨by rw [ht]; exact hP, hD⟩⟩, hS.F ht⟩) hS.2.2 dX2_alike_47
    · skip
      refine lv_iload_n hx hb dX2_alike_12 rfl (lv_at hl 2 rfl) ?_
      refine lv_aload_n hx hb dX2_alike_13 rfl (lv_at hl 0 rfl) ?_
      refine lv_aload_n hx hb dX2_alike_14 rfl (lv_at hl 0 rfl) ?_
      refine va_get (D := D) (ci := 2) (v := .ref (bd 1)) (C := RX2) (T := TX2) (N := 12) hx hb hts hinX2 hown hK hP 0 rfl rfl 4 (by decide) lk16 (fun _ h9 => h9) rfl dX2_alike_15 ?_
      refine lv_iload_n hx hb dX2_alike_18 rfl (lv_at hl 1 rfl) ?_
      refine x_iald hx hb hK hP 1 0 rfl rfl (i := i) (by omega) (by omega) dX2_alike_19 ?_
      refine lv_iload_n hx hb dX2_alike_20 rfl (lv_at hl 3 rfl) ?_
      refine va_calli (va_runV (As := [.int (nI (code i)), .int (nI (k))]) (rest := [.int (nI (r))]) ⟨hx, hb, hml, hown, hts⟩ (c_X2_answerTo l D cI cZ cG cJ A bd wr th c hid g code ans dbt many row heap o1 t1 (code i) k (hc) ((hco i hi).1) ((by omega))) (cwV 2 hts gX2_alike_X2_answerTo rfl rfl rfl (by decide +kernel) ⟨Nat.le_of_ble_eq_true rfl, Nat.le_of_ble_eq_true rfl⟩) (preV (ci := 2) (q0 := 0) hB hS hP hD rfl rfl) rfl rfl hl.1 rfl (lv_room (Nat.le_of_ble_eq_true rfl)) dX2_alike_21 ⟨Nat.le_of_ble_eq_true rfl, Nat.le_of_ble_eq_true rfl⟩) hS (fun q _ h => h) (fun q h => h) (fun r_21 u_21 t9 H1 locs1 ht9 hvm9 hw_21 hBw hz9 hk9 hS => ?_)
      obtain ⟨hP, hD⟩ := hBw
      rw [ht9] at hP
      generalize H1 = H at hP hS ⊢
      generalize locs1 = locs at hS ⊢
      replace hP : va_P D vwCl (WM bd cI th c hid g code ans dbt many row heap u_21.1 u_21.2 wr) H := hP
      replace hD : va_D A (WM bd cI th c hid g code ans dbt many row heap u_21.1 u_21.2 wr) := hD
      refine x_ti (y := nI (pins c (code i) k)) (hw_21.1) ?_
      have hpi := pins_le hc ((hco i hi).1) ((by omega))
      refine lv_aload_n hx hb dX2_alike_24 rfl (lv_at hl 0 rfl) ?_
      refine va_get (D := D) (ci := 2) (v := .ref (bd 2)) (C := RX2) (T := TX2) (N := 12) hx hb hts hinX2 hown hK hP 0 rfl rfl 5 (by decide) lk20 (fun _ h9 => h9) rfl dX2_alike_25 ?_
      refine lv_iload_n hx hb dX2_alike_28 rfl (lv_at hl 1 rfl) ?_
      refine x_iald hx hb hK hP 2 0 rfl rfl (i := i) (by omega) (by omega) dX2_alike_29 ?_
      have hai := (hco i hi).2
      refine x_ne (tgt := 37) hx hb dX2_alike_30 (by decide) (by omega) (by omega) (fun c30 => ?_) (fun c30 => ?_)
      · skip
        refine lv_iconst (v := nI (0)) hx hb dX2_alike_37 (by decide) ?_
        refine lv_iadd hx hb dX2_alike_38 ?_
        refine x_ti (nI_add _ _) ?_
        refine lv_istore_n (lv' := [(2, .int (nI (r + 0))), (0, .ref (bd 0)), (1, .int (nI (i))), (3, .int (nI (k)))]) hx hb dX2_alike_39 rfl hl (by decide) rfl (fun ls hl => ?_)
        refine lv_iinc (v := nI (k + 1)) (lv' := [(3, .int (nI (k + 1))), (2, .int (nI (r + 0))), (0, .ref (bd 0)), (1, .int (nI (i)))]) hx hb dX2_alike_40 hl (k := 3) rfl (nI_add _ _) (by decide) rfl (fun ls hl => ?_)
        refine lv_goto (tgt := 4) hx hb dX2_alike_43 (by decide) ?_
        exact ih4 (k := k + 1) (r := r + 0) (o1 := u_21.1) (t1 := u_21.2) (ls := ls) (hl := lv_sub hl [2, 3, 1, 0] rfl) (H := H) (locs := locs) (hP := hP) (hD := hD) (hS := hS) (hinv := by
            refine ⟨by omega, ?_⟩
            first | exact (congrArg (· + 1) h2).trans (cN_s (p := fun z => decide (pins c (code i) z = ans i)) (decide_eq_true c30)).symm | exact h2.trans (cN_n (p := fun z => decide (pins c (code i) z = ans i)) (decide_eq_false c30)).symm
          ) (hn9 := by
            omega
          )
      · skip
        refine lv_iconst (v := nI (1)) hx hb dX2_alike_33 (by decide) ?_
        refine lv_goto (tgt := 38) hx hb dX2_alike_34 (by decide) ?_
        refine lv_iadd hx hb dX2_alike_38 ?_
        refine x_ti (nI_add _ _) ?_
        refine lv_istore_n (lv' := [(2, .int (nI (r + 1))), (0, .ref (bd 0)), (1, .int (nI (i))), (3, .int (nI (k)))]) hx hb dX2_alike_39 rfl hl (by decide) rfl (fun ls hl => ?_)
        refine lv_iinc (v := nI (k + 1)) (lv' := [(3, .int (nI (k + 1))), (2, .int (nI (r + 1))), (0, .ref (bd 0)), (1, .int (nI (i)))]) hx hb dX2_alike_40 hl (k := 3) rfl (nI_add _ _) (by decide) rfl (fun ls hl => ?_)
        refine lv_goto (tgt := 4) hx hb dX2_alike_43 (by decide) ?_
        exact ih4 (k := k + 1) (r := r + 1) (o1 := u_21.1) (t1 := u_21.2) (ls := ls) (hl := lv_sub hl [2, 3, 1, 0] rfl) (H := H) (locs := locs) (hP := hP) (hD := hD) (hS := hS) (hinv := by
            refine ⟨by omega, ?_⟩
            first | exact (congrArg (· + 1) h2).trans (cN_s (p := fun z => decide (pins c (code i) z = ans i)) (decide_eq_true c30)).symm | exact h2.trans (cN_n (p := fun z => decide (pins c (code i) z = ans i)) (decide_eq_false c30)).symm
          ) (hn9 := by
            omega
          )

set_option maxHeartbeats 4000000 in
set_option maxRecDepth 100000 in
theorem c_X2_guessTold (l : Launch) (D : va_G) (cI cZ cG cJ : ClassId) (A : Nat → Prop) (bd : Nat → Nat) (wr : va_W) (th : Nat) (c : Nat) (hid : Int32) (g : Nat) (code : Nat → Nat) (ans : Nat → Nat) (dbt : Nat → Bool) (many : Nat) (row : Nat → Nat) (heap : Nat → Nat) (our : Nat → Nat) (the : Nat → Nat) (i : Nat) (j : Nat) (hc : c = 2 ∨ c = 3) (hg : g ≤ 12) (hco : CodeOK c g code ans) (hi : i < g) (hj : j < 6) : Met l yX2_guessTold wsX2_guessTold ({ frames := 5, cells := 0, slots := 0, locals := 115 }) (va_Pc [.ref (bd 0), .int (nI (i)), .int (nI (j))] (Iv D (TY cI cZ cG cJ) A (WM bd cI th c hid g code ans dbt many row heap our the wr))) (va_Qi (fun r (u : MSt) => r = nI (tldV c code ans dbt i j) ∧ True) (fun u => Wd D A (WM bd cI th c hid g code ans dbt u.1 u.2.1 u.2.2.1 u.2.2.2.1 u.2.2.2.2 wr)) A) 0 0 A := by
  refine Met.ofW (cc := cX2_guessTold) (maxL := 3) (ret := (some .int)) (by decide) rfl ?_
  intro p e s m args below meth c9 s₁ B hml hv
  obtain ⟨rfl, hP, hD, hB⟩ := hv
  have hK := hB.1
  have hA := hB.2.1
  have hx := B.exec
  have hb := B.bytes
  have hr := B.returns
  have hts := atoms_spec (ws := wsX2_guessTold) B.pre
  have hown : s.vm.findClass RX2 = some m.cls := findClass_of_methodNamed B.named
  have hlocks := B.notSynchronized
  have hS : va_S A s.heap s.heap [] := va_S.rf
  have hinX2 : ∀ w ∈ wsX20, w ∈ wsX2_guessTold := by decide +kernel
  have lk16 := hts (.fieldLink RX2 16 "HiddenCandlesModel" "code" "[I") (by decide +kernel)
  have lk20 := hts (.fieldLink RX2 20 "HiddenCandlesModel" "answer" "[I") (by decide +kernel)
  have lk23 := hts (.fieldLink RX2 23 "HiddenCandlesModel" "doubted" "[I") (by decide +kernel)
  have hl := lv_entry ([.ref (bd 0), .int (nI (i)), .int (nI (j))]) (n := 3) (Nat.le_of_ble_eq_true rfl)
  rw [lg_entry_eq]
  generalize (lg_sl ([.ref (bd 0), .int (nI (i)), .int (nI (j))]) ++ List.replicate (3 - (lg_sl ([.ref (bd 0), .int (nI (i)), .int (nI (j))])).length) Slot.unset).toArray = ls at hl ⊢
  have hl : lv_has ls 3 [(0, .ref (bd 0)), (1, .int (nI (i))), (2, .int (nI (j)))] := hl
  obtain ⟨H, eH⟩ : ∃ q, q = s.heap := ⟨_, rfl⟩
  obtain ⟨locs, eL⟩ : ∃ q : List Loc, q = [] := ⟨_, rfl⟩
  replace hP : va_P D vwCl (WM bd cI th c hid g code ans dbt many row heap our the wr) H := by rw [eH]; exact hP
  replace hS : va_S A s.heap H locs := by rw [eH, eL]; exact hS
  rw [show W p l e _ s m _ below meth c9 s.heap [] = W p l e _ s m _ below meth c9 H locs from by rw [eH, eL]]
  clear eH eL
  have hq := qq_in hc
  refine lv_iload_n hx hb dX2_guessTold_0 rfl (lv_at hl 2 rfl) ?_
  obtain hj9 | hj9 | hj9 | hj9 | hj9 | hj9 : j = 0 ∨ j = 1 ∨ j = 2 ∨ j = 3 ∨ j = 4 ∨ j = 5 := by omega
  · refine x_ti (y := nI 0) (by rw [hj9]) ?_
    refine lv_tableIn (tgt := 36) (off := 35) hx hb dX2_guessTold_1 (by decide) (by decide) rfl (by decide) ?_
    refine lv_aload_n hx hb dX2_guessTold_36 rfl (lv_at hl 0 rfl) ?_
    refine va_get (D := D) (ci := 2) (v := .ref (bd 1)) (C := RX2) (T := TX2) (N := 12) hx hb hts hinX2 hown hK hP 0 rfl rfl 4 (by decide) lk16 (fun _ h9 => h9) rfl dX2_guessTold_37 ?_
    refine lv_iload_n hx hb dX2_guessTold_40 rfl (lv_at hl 1 rfl) ?_
    refine x_iald hx hb hK hP 1 0 rfl rfl (i := i) (by omega) (by omega) dX2_guessTold_41 ?_
    exact W.iret (v := nI (code i)) hx hb hr (fun t ht hW => ⟨⟨_, (many, row, heap, our, the), rfl, (by
        subst hj9; exact ⟨rfl, trivial⟩), ⟨by rw [ht]; exact hP, hD⟩⟩, hS.F ht⟩) hS.2.2 dX2_guessTold_42
  · refine x_ti (y := nI 1) (by rw [hj9]) ?_
    refine lv_tableIn (tgt := 43) (off := 42) hx hb dX2_guessTold_1 (by decide) (by decide) rfl (by decide) ?_
    refine lv_aload_n hx hb dX2_guessTold_43 rfl (lv_at hl 0 rfl) ?_
    refine va_get (D := D) (ci := 2) (v := .ref (bd 2)) (C := RX2) (T := TX2) (N := 12) hx hb hts hinX2 hown hK hP 0 rfl rfl 5 (by decide) lk20 (fun _ h9 => h9) rfl dX2_guessTold_44 ?_
    refine lv_iload_n hx hb dX2_guessTold_47 rfl (lv_at hl 1 rfl) ?_
    refine x_iald hx hb hK hP 2 0 rfl rfl (i := i) (by omega) (by omega) dX2_guessTold_48 ?_
    have hai := (hco i hi).2
    refine lv_iconst (v := nI (5)) hx hb dX2_guessTold_49 (by decide) ?_
    refine lv_idiv hx hb dX2_guessTold_50 (nI_ne0 (by omega) (by omega)) ?_
    refine x_ti (pk_div (by omega) (by omega) (by omega)) ?_
    exact W.iret (v := nI ((ans i) / 5)) hx hb hr (fun t ht hW => ⟨⟨_, (many, row, heap, our, the), rfl, (by
        subst hj9; exact ⟨rfl, trivial⟩), ⟨by rw [ht]; exact hP, hD⟩⟩, hS.F ht⟩) hS.2.2 dX2_guessTold_51
  · refine x_ti (y := nI 2) (by rw [hj9]) ?_
    refine lv_tableIn (tgt := 52) (off := 51) hx hb dX2_guessTold_1 (by decide) (by decide) rfl (by decide) ?_
    refine lv_aload_n hx hb dX2_guessTold_52 rfl (lv_at hl 0 rfl) ?_
    refine va_get (D := D) (ci := 2) (v := .ref (bd 2)) (C := RX2) (T := TX2) (N := 12) hx hb hts hinX2 hown hK hP 0 rfl rfl 5 (by decide) lk20 (fun _ h9 => h9) rfl dX2_guessTold_53 ?_
    refine lv_iload_n hx hb dX2_guessTold_56 rfl (lv_at hl 1 rfl) ?_
    refine x_iald hx hb hK hP 2 0 rfl rfl (i := i) (by omega) (by omega) dX2_guessTold_57 ?_
    have hai := (hco i hi).2
    refine lv_iconst (v := nI (5)) hx hb dX2_guessTold_58 (by decide) ?_
    refine lv_irem hx hb dX2_guessTold_59 (nI_ne0 (by omega) (by omega)) ?_
    refine x_ti (pk_rem (by omega) (by omega) (by omega)) ?_
    exact W.iret (v := nI ((ans i) % 5)) hx hb hr (fun t ht hW => ⟨⟨_, (many, row, heap, our, the), rfl, (by
        subst hj9; exact ⟨rfl, trivial⟩), ⟨by rw [ht]; exact hP, hD⟩⟩, hS.F ht⟩) hS.2.2 dX2_guessTold_60
  · refine x_ti (y := nI 3) (by rw [hj9]) ?_
    refine lv_tableIn (tgt := 61) (off := 60) hx hb dX2_guessTold_1 (by decide) (by decide) rfl (by decide) ?_
    refine lv_aload_n hx hb dX2_guessTold_61 rfl (lv_at hl 0 rfl) ?_
    refine va_get (D := D) (ci := 2) (v := .ref (bd 3)) (C := RX2) (T := TX2) (N := 12) hx hb hts hinX2 hown hK hP 0 rfl rfl 6 (by decide) lk23 (fun _ h9 => h9) rfl dX2_guessTold_62 ?_
    refine lv_iload_n hx hb dX2_guessTold_65 rfl (lv_at hl 1 rfl) ?_
    refine x_iald hx hb hK hP 3 0 rfl rfl (i := i) (by omega) (by omega) dX2_guessTold_66 ?_
    exact W.iret (v := bI (dbt i)) hx hb hr (fun t ht hW => ⟨⟨_, (many, row, heap, our, the), rfl, (by
        subst hj9; refine ⟨?_, trivial⟩
        simp only [tldV]; cases dbt i <;> rfl), ⟨by rw [ht]; exact hP, hD⟩⟩, hS.F ht⟩) hS.2.2 dX2_guessTold_67
  · refine x_ti (y := nI 4) (by rw [hj9]) ?_
    refine lv_tableIn (tgt := 68) (off := 67) hx hb dX2_guessTold_1 (by decide) (by decide) rfl (by decide) ?_
    refine lv_aload_n hx hb dX2_guessTold_68 rfl (lv_at hl 0 rfl) ?_
    refine lv_iload_n hx hb dX2_guessTold_69 rfl (lv_at hl 1 rfl) ?_
    refine lv_iconst (v := nI (1)) hx hb dX2_guessTold_70 (by decide) ?_
    refine lv_iadd hx hb dX2_guessTold_71 ?_
    refine x_ti (nI_add _ _) ?_
    refine va_calli (va_runV (As := [.int (nI (i + 1))]) (rest := []) ⟨hx, hb, hml, hown, hts⟩ (c_X2_look l D cI cZ cG cJ A bd wr th c hid g code ans dbt many row heap our the (i + 1) (hc) ((by omega)) ((code_le hco (by omega)))) (cwV 1 hts gX2_guessTold_X2_look rfl rfl rfl (by decide +kernel) ⟨Nat.le_of_ble_eq_true rfl, Nat.le_of_ble_eq_true rfl⟩) (preV (ci := 2) (q0 := 0) hB hS hP hD rfl rfl) rfl rfl hl.1 rfl (lv_room (Nat.le_of_ble_eq_true rfl)) dX2_guessTold_72 ⟨Nat.le_of_ble_eq_true rfl, Nat.le_of_ble_eq_true rfl⟩) hS (fun q _ h => h) (fun q h => h) (fun r_72 u_72 t9 H1 locs1 ht9 hvm9 hw_72 hBw hz9 hk9 hS => ?_)
    obtain ⟨hP, hD⟩ := hBw
    rw [ht9] at hP
    generalize H1 = H at hP hS ⊢
    generalize locs1 = locs at hS ⊢
    replace hP : va_P D vwCl (WM bd cI th c hid g code ans dbt u_72.1 u_72.2.1 heap u_72.2.2.1 u_72.2.2.2 wr) H := hP
    replace hD : va_D A (WM bd cI th c hid g code ans dbt u_72.1 u_72.2.1 heap u_72.2.2.1 u_72.2.2.2 wr) := hD
    refine x_ti (y := nI (cN (opS c (i + 1) code ans dbt) 81)) (hw_72.1) ?_
    exact W.iret (v := nI (cN (opS c (i + 1) code ans dbt) 81)) hx hb hr (fun t ht hW => ⟨⟨_, (u_72.1, u_72.2.1, heap, u_72.2.2.1, u_72.2.2.2), rfl, (by
        subst hj9; exact ⟨by rw [op_cN hq.2]; rfl, trivial⟩), ⟨by rw [ht]; exact hP, hD⟩⟩, hS.F ht⟩) hS.2.2 dX2_guessTold_75
  · refine x_ti (y := nI 5) (by rw [hj9]) ?_
    refine lv_tableOut (tgt := 76) hx hb dX2_guessTold_1 (Or.inr (by decide)) (by decide) ?_
    refine lv_aload_n hx hb dX2_guessTold_76 rfl (lv_at hl 0 rfl) ?_
    refine lv_iload_n hx hb dX2_guessTold_77 rfl (lv_at hl 1 rfl) ?_
    refine va_calli (va_runV (As := [.int (nI (i))]) (rest := []) ⟨hx, hb, hml, hown, hts⟩ (c_X2_alike l D cI cZ cG cJ A bd wr th c hid g code ans dbt many row heap our the i (hc) (hg) (hco) (hi)) (cwV 1 hts gX2_guessTold_X2_alike rfl rfl rfl (by decide +kernel) ⟨Nat.le_of_ble_eq_true rfl, Nat.le_of_ble_eq_true rfl⟩) (preV (ci := 2) (q0 := 0) hB hS hP hD rfl rfl) rfl rfl hl.1 rfl (lv_room (Nat.le_of_ble_eq_true rfl)) dX2_guessTold_78 ⟨Nat.le_of_ble_eq_true rfl, Nat.le_of_ble_eq_true rfl⟩) hS (fun q _ h => h) (fun q h => h) (fun r_78 u_78 t9 H1 locs1 ht9 hvm9 hw_78 hBw hz9 hk9 hS => ?_)
    obtain ⟨hP, hD⟩ := hBw
    rw [ht9] at hP
    generalize H1 = H at hP hS ⊢
    generalize locs1 = locs at hS ⊢
    replace hP : va_P D vwCl (WM bd cI th c hid g code ans dbt many row heap u_78.1 u_78.2 wr) H := hP
    replace hD : va_D A (WM bd cI th c hid g code ans dbt many row heap u_78.1 u_78.2 wr) := hD
    refine x_ti (y := nI (cN (fun k => decide (pins c (code i) k = ans i)) (qq c))) (hw_78.1) ?_
    exact W.iret (v := nI (cN (fun k => decide (pins c (code i) k = ans i)) (qq c))) hx hb hr (fun t ht hW => ⟨⟨_, (many, row, heap, u_78.1, u_78.2), rfl, (by
        subst hj9; exact ⟨rfl, trivial⟩), ⟨by rw [ht]; exact hP, hD⟩⟩, hS.F ht⟩) hS.2.2 dX2_guessTold_81

set_option maxHeartbeats 4000000 in
set_option maxRecDepth 100000 in
theorem c_X2_told (l : Launch) (D : va_G) (cI cZ cG cJ : ClassId) (A : Nat → Prop) (bd : Nat → Nat) (wr : va_W) (th : Nat) (c : Nat) (hid : Int32) (g : Nat) (code : Nat → Nat) (ans : Nat → Nat) (dbt : Nat → Bool) (many : Nat) (row : Nat → Nat) (heap : Nat → Nat) (our : Nat → Nat) (the : Nat → Nat) (v : Int32) (w : Int32) (hc : c = 2 ∨ c = 3) (hg : g ≤ 12) (hco : CodeOK c g code ans) : Met l yX2_told wsX2_told ({ frames := 6, cells := 0, slots := 0, locals := 137 }) (va_Pc [.ref (bd 0), .int (v), .int (w)] (Iv D (TY cI cZ cG cJ) A (WM bd cI th c hid g code ans dbt many row heap our the wr))) (va_Qi (fun r (u : Nat × MSt) => (u.1 = 0 ∧ ∃ i j : Nat, i < g ∧ v = nI i ∧ j < 6 ∧ w = nI j ∧ r = nI (tldV c code ans dbt i j)) ∨ (u.1 = 1 ∧ (gsC g v = false ∨ rgC 6 w = false))) (fun u => Wd D A (WM bd cI u.1 c hid g code ans dbt u.2.1 u.2.2.1 u.2.2.2.1 u.2.2.2.2.1 u.2.2.2.2.2 wr)) A) 0 0 A := by
  refine Met.ofW (cc := cX2_told) (maxL := 3) (ret := (some .int)) (by decide) rfl ?_
  intro p e s m args below meth c9 s₁ B hml hv
  obtain ⟨rfl, hP, hD, hB⟩ := hv
  have hK := hB.1
  have hA := hB.2.1
  have hx := B.exec
  have hb := B.bytes
  have hr := B.returns
  have hts := atoms_spec (ws := wsX2_told) B.pre
  have hown : s.vm.findClass RX2 = some m.cls := findClass_of_methodNamed B.named
  have hlocks := B.notSynchronized
  have hS : va_S A s.heap s.heap [] := va_S.rf
  have hinX2 : ∀ w ∈ wsX20, w ∈ wsX2_told := by decide +kernel
  have lk38 := hts (.fieldLink RX2 38 "HiddenCandlesModel" "thrown" "I") (by decide +kernel)
  have hl := lv_entry ([.ref (bd 0), .int (v), .int (w)]) (n := 3) (Nat.le_of_ble_eq_true rfl)
  rw [lg_entry_eq]
  generalize (lg_sl ([.ref (bd 0), .int (v), .int (w)]) ++ List.replicate (3 - (lg_sl ([.ref (bd 0), .int (v), .int (w)])).length) Slot.unset).toArray = ls at hl ⊢
  have hl : lv_has ls 3 [(0, .ref (bd 0)), (1, .int (v)), (2, .int (w))] := hl
  obtain ⟨H, eH⟩ : ∃ q, q = s.heap := ⟨_, rfl⟩
  obtain ⟨locs, eL⟩ : ∃ q : List Loc, q = [] := ⟨_, rfl⟩
  replace hP : va_P D vwCl (WM bd cI th c hid g code ans dbt many row heap our the wr) H := by rw [eH]; exact hP
  replace hS : va_S A s.heap H locs := by rw [eH, eL]; exact hS
  rw [show W p l e _ s m _ below meth c9 s.heap [] = W p l e _ s m _ below meth c9 H locs from by rw [eH, eL]]
  clear eH eL
  have hq := qq_in hc
  refine lv_aload_n hx hb dX2_told_0 rfl (lv_at hl 0 rfl) ?_
  refine lv_iconst (v := nI (0)) hx hb dX2_told_1 (by decide) ?_
  refine va_put (D := D) (ci := 2) (v := .int (nI (0))) (ty := .int) (C := RX2) (T := TX2) (N := 12) hx hb hts hinX2 tyX2 tyX2_ok nmX2 hown hK hP hD hS 0 rfl rfl 0 (by decide) lk38 (fun _ h9 => h9) rfl (by decide +kernel) rfl rfl (Nat.le_of_ble_eq_true rfl) dX2_told_2 (fun H locs hP hD hS => ?_)
  replace hP : va_P D vwCl (WM bd cI 0 c hid g code ans dbt many row heap our the wr) H := hP
  replace hD : va_D A (WM bd cI 0 c hid g code ans dbt many row heap our the wr) := hD
  refine lv_aload_n hx hb dX2_told_5 rfl (lv_at hl 0 rfl) ?_
  refine lv_iload_n hx hb dX2_told_6 rfl (lv_at hl 1 rfl) ?_
  refine x_csi (va_runV (As := [.int (v)]) (rest := []) ⟨hx, hb, hml, hown, hts⟩ (c_X2_isGuess l D cI cZ cG cJ A bd wr 0 c hid g code ans dbt many row heap our the v (hg)) (cwV 1 hts gX2_told_X2_isGuess rfl rfl rfl (by decide +kernel) ⟨Nat.le_of_ble_eq_true rfl, Nat.le_of_ble_eq_true rfl⟩) (preV (ci := 2) (q0 := 0) hB hS hP hD rfl rfl) rfl rfl hl.1 rfl (lv_room (Nat.le_of_ble_eq_true rfl)) dX2_told_7 ⟨Nat.le_of_ble_eq_true rfl, Nat.le_of_ble_eq_true rfl⟩) ?_
  refine x_zeq (tgt := 31) hx hb dX2_told_10 (by decide) (fun c10 => ?_) (fun c10 => ?_)
  · skip
    refine lv_aload_n hx hb dX2_told_31 rfl (lv_at hl 0 rfl) ?_
    refine lv_iconst (v := nI (1)) hx hb dX2_told_32 (by decide) ?_
    refine va_calli (va_runV (As := [.int (nI (1))]) (rest := []) ⟨hx, hb, hml, hown, hts⟩ (c_X2_no l D cI cZ cG cJ A bd wr 0 c hid g code ans dbt many row heap our the 1 ) (cwV 1 hts gX2_told_X2_no rfl rfl rfl (by decide +kernel) ⟨Nat.le_of_ble_eq_true rfl, Nat.le_of_ble_eq_true rfl⟩) (preV (ci := 2) (q0 := 0) hB hS hP hD rfl rfl) rfl rfl hl.1 rfl (lv_room (Nat.le_of_ble_eq_true rfl)) dX2_told_33 ⟨Nat.le_of_ble_eq_true rfl, Nat.le_of_ble_eq_true rfl⟩) hS (fun q _ h => h) (fun q h => h) (fun r_33 u_33 t9 H1 locs1 ht9 hvm9 hw_33 hBw hz9 hk9 hS => ?_)
    obtain ⟨hP, hD⟩ := hBw
    rw [ht9] at hP
    generalize H1 = H at hP hS ⊢
    generalize locs1 = locs at hS ⊢
    replace hP : va_P D vwCl (WM bd cI 1 c hid g code ans dbt many row heap our the wr) H := hP
    replace hD : va_D A (WM bd cI 1 c hid g code ans dbt many row heap our the wr) := hD
    refine x_ti (y := nI (0)) (hw_33.1) ?_
    exact W.iret (v := nI (0)) hx hb hr (fun t ht hW => ⟨⟨_, (1, (many, row, heap, our, the)), rfl, (by
        exact Or.inr ⟨rfl, by first | exact Or.inl c10 | exact Or.inr c19⟩), ⟨by rw [ht]; exact hP, hD⟩⟩, hS.F ht⟩) hS.2.2 dX2_told_36
  · skip
    refine lv_iload_n hx hb dX2_told_13 rfl (lv_at hl 2 rfl) ?_
    refine lv_iconst (v := nI (0)) hx hb dX2_told_14 (by decide) ?_
    refine lv_iconst (v := nI (5)) hx hb dX2_told_15 (by decide) ?_
    refine x_csi (va_runS (As := [.int (w), .int (nI (0)), .int (nI (5))]) (rest := []) ⟨hx, hb, hml, hown, hts⟩ (c_X2_isIn l D cI cZ cG cJ A (WM bd cI 0 c hid g code ans dbt many row heap our the wr) w (nI (0)) (nI (5)) ) (va_cwS 3 hts gX2_told_X2_isIn rfl rfl rfl (by decide +kernel) ⟨Nat.le_of_ble_eq_true rfl, Nat.le_of_ble_eq_true rfl⟩) (preS hB hS hP hD) rfl rfl hl.1 rfl (lv_room (Nat.le_of_ble_eq_true rfl)) dX2_told_16 ⟨Nat.le_of_ble_eq_true rfl, Nat.le_of_ble_eq_true rfl⟩) ?_
    refine x_ti (y := bI (rgC 6 w)) (by rw [in_rg (n := 6) (by omega) (by omega)]) ?_
    refine x_zeq (tgt := 31) hx hb dX2_told_19 (by decide) (fun c19 => ?_) (fun c19 => ?_)
    · skip
      refine lv_aload_n hx hb dX2_told_31 rfl (lv_at hl 0 rfl) ?_
      refine lv_iconst (v := nI (1)) hx hb dX2_told_32 (by decide) ?_
      refine va_calli (va_runV (As := [.int (nI (1))]) (rest := []) ⟨hx, hb, hml, hown, hts⟩ (c_X2_no l D cI cZ cG cJ A bd wr 0 c hid g code ans dbt many row heap our the 1 ) (cwV 1 hts gX2_told_X2_no rfl rfl rfl (by decide +kernel) ⟨Nat.le_of_ble_eq_true rfl, Nat.le_of_ble_eq_true rfl⟩) (preV (ci := 2) (q0 := 0) hB hS hP hD rfl rfl) rfl rfl hl.1 rfl (lv_room (Nat.le_of_ble_eq_true rfl)) dX2_told_33 ⟨Nat.le_of_ble_eq_true rfl, Nat.le_of_ble_eq_true rfl⟩) hS (fun q _ h => h) (fun q h => h) (fun r_33 u_33 t9 H1 locs1 ht9 hvm9 hw_33 hBw hz9 hk9 hS => ?_)
      obtain ⟨hP, hD⟩ := hBw
      rw [ht9] at hP
      generalize H1 = H at hP hS ⊢
      generalize locs1 = locs at hS ⊢
      replace hP : va_P D vwCl (WM bd cI 1 c hid g code ans dbt many row heap our the wr) H := hP
      replace hD : va_D A (WM bd cI 1 c hid g code ans dbt many row heap our the wr) := hD
      refine x_ti (y := nI (0)) (hw_33.1) ?_
      exact W.iret (v := nI (0)) hx hb hr (fun t ht hW => ⟨⟨_, (1, (many, row, heap, our, the)), rfl, (by
          exact Or.inr ⟨rfl, by first | exact Or.inl c10 | exact Or.inr c19⟩), ⟨by rw [ht]; exact hP, hD⟩⟩, hS.F ht⟩) hS.2.2 dX2_told_36
    · skip
      obtain ⟨i, hi, rfl⟩ := gsC_of hg c10
      obtain ⟨j, hj, rfl⟩ := rgC_of c19 (by decide)
      refine lv_aload_n hx hb dX2_told_22 rfl (lv_at hl 0 rfl) ?_
      refine lv_iload_n hx hb dX2_told_23 rfl (lv_at hl 1 rfl) ?_
      refine lv_iload_n hx hb dX2_told_24 rfl (lv_at hl 2 rfl) ?_
      refine va_calli (va_runV (As := [.int (nI (i)), .int (nI (j))]) (rest := []) ⟨hx, hb, hml, hown, hts⟩ (c_X2_guessTold l D cI cZ cG cJ A bd wr 0 c hid g code ans dbt many row heap our the i j (hc) (hg) (hco) (hi) (hj)) (cwV 2 hts gX2_told_X2_guessTold rfl rfl rfl (by decide +kernel) ⟨Nat.le_of_ble_eq_true rfl, Nat.le_of_ble_eq_true rfl⟩) (preV (ci := 2) (q0 := 0) hB hS hP hD rfl rfl) rfl rfl hl.1 rfl (lv_room (Nat.le_of_ble_eq_true rfl)) dX2_told_25 ⟨Nat.le_of_ble_eq_true rfl, Nat.le_of_ble_eq_true rfl⟩) hS (fun q _ h => h) (fun q h => h) (fun r_25 u_25 t9 H1 locs1 ht9 hvm9 hw_25 hBw hz9 hk9 hS => ?_)
      obtain ⟨hP, hD⟩ := hBw
      rw [ht9] at hP
      generalize H1 = H at hP hS ⊢
      generalize locs1 = locs at hS ⊢
      replace hP : va_P D vwCl (WM bd cI 0 c hid g code ans dbt u_25.1 u_25.2.1 u_25.2.2.1 u_25.2.2.2.1 u_25.2.2.2.2 wr) H := hP
      replace hD : va_D A (WM bd cI 0 c hid g code ans dbt u_25.1 u_25.2.1 u_25.2.2.1 u_25.2.2.2.1 u_25.2.2.2.2 wr) := hD
      refine x_ti (y := nI (tldV c code ans dbt i j)) (hw_25.1) ?_
      refine lv_goto (tgt := 36) hx hb dX2_told_28 (by decide) ?_
      exact W.iret (v := nI (tldV c code ans dbt i j)) hx hb hr (fun t ht hW => ⟨⟨_, (0, (u_25.1, u_25.2.1, u_25.2.2.1, u_25.2.2.2.1, u_25.2.2.2.2)), rfl, (by
          exact Or.inl ⟨rfl, i, j, hi, rfl, hj, rfl, rfl⟩), ⟨by rw [ht]; exact hP, hD⟩⟩, hS.F ht⟩) hS.2.2 dX2_told_36

set_option maxHeartbeats 4000000 in
set_option maxRecDepth 100000 in
theorem c_X2_counted (l : Launch) (D : va_G) (cI cZ cG cJ : ClassId) (A : Nat → Prop) (bd : Nat → Nat) (wr : va_W) (th : Nat) (c : Nat) (hid : Int32) (g : Nat) (code : Nat → Nat) (ans : Nat → Nat) (dbt : Nat → Bool) (many : Nat) (row : Nat → Nat) (heap : Nat → Nat) (our : Nat → Nat) (the : Nat → Nat) (j : Nat) (hc : c = 2 ∨ c = 3) (hg : g ≤ 12) (hco : CodeOK c g code ans) (hj : j < 7) : Met l yX2_counted wsX2_counted ({ frames := 5, cells := 0, slots := 0, locals := 115 }) (va_Pc [.ref (bd 0), .int (nI (j))] (Iv D (TY cI cZ cG cJ) A (WM bd cI th c hid g code ans dbt many row heap our the wr))) (va_Qi (fun r (u : MSt) => r = nI (cntV c g hid code ans dbt j) ∧ True) (fun u => Wd D A (WM bd cI th c hid g code ans dbt u.1 u.2.1 u.2.2.1 u.2.2.2.1 u.2.2.2.2 wr)) A) 0 0 A := by
  refine Met.ofW (cc := cX2_counted) (maxL := 4) (ret := (some .int)) (by decide) rfl ?_
  intro p e s m args below meth c9 s₁ B hml hv
  obtain ⟨rfl, hP, hD, hB⟩ := hv
  have hK := hB.1
  have hA := hB.2.1
  have hx := B.exec
  have hb := B.bytes
  have hr := B.returns
  have hts := atoms_spec (ws := wsX2_counted) B.pre
  have hown : s.vm.findClass RX2 = some m.cls := findClass_of_methodNamed B.named
  have hlocks := B.notSynchronized
  have hS : va_S A s.heap s.heap [] := va_S.rf
  have hinX2 : ∀ w ∈ wsX20, w ∈ wsX2_counted := by decide +kernel
  have lk9 := hts (.fieldLink RX2 9 "HiddenCandlesModel" "colours" "I") (by decide +kernel)
  have lk13 := hts (.fieldLink RX2 13 "HiddenCandlesModel" "hidden" "I") (by decide +kernel)
  have lk20 := hts (.fieldLink RX2 20 "HiddenCandlesModel" "answer" "[I") (by decide +kernel)
  have lk23 := hts (.fieldLink RX2 23 "HiddenCandlesModel" "doubted" "[I") (by decide +kernel)
  have lk49 := hts (.fieldLink RX2 49 "HiddenCandlesModel" "guesses" "I") (by decide +kernel)
  have hl := lv_entry ([.ref (bd 0), .int (nI (j))]) (n := 4) (Nat.le_of_ble_eq_true rfl)
  rw [lg_entry_eq]
  generalize (lg_sl ([.ref (bd 0), .int (nI (j))]) ++ List.replicate (4 - (lg_sl ([.ref (bd 0), .int (nI (j))])).length) Slot.unset).toArray = ls at hl ⊢
  have hl : lv_has ls 4 [(0, .ref (bd 0)), (1, .int (nI (j)))] := hl
  obtain ⟨H, eH⟩ : ∃ q, q = s.heap := ⟨_, rfl⟩
  obtain ⟨locs, eL⟩ : ∃ q : List Loc, q = [] := ⟨_, rfl⟩
  replace hP : va_P D vwCl (WM bd cI th c hid g code ans dbt many row heap our the wr) H := by rw [eH]; exact hP
  replace hS : va_S A s.heap H locs := by rw [eH, eL]; exact hS
  rw [show W p l e _ s m _ below meth c9 s.heap [] = W p l e _ s m _ below meth c9 H locs from by rw [eH, eL]]
  clear eH eL
  have hq := qq_in hc
  refine lv_iconst (v := nI (0)) hx hb dX2_counted_0 (by decide) ?_
  refine lv_istore_n (lv' := [(2, .int (nI (0))), (0, .ref (bd 0)), (1, .int (nI (j)))]) hx hb dX2_counted_1 rfl hl (by decide) rfl (fun ls hl => ?_)
  refine lv_iload_n hx hb dX2_counted_2 rfl (lv_at hl 2 rfl) ?_
  obtain hj9 | hj9 | hj9 | hj9 | hj9 | hj9 | hj9 : j = 0 ∨ j = 1 ∨ j = 2 ∨ j = 3 ∨ j = 4 ∨ j = 5 ∨ j = 6 := by omega
  · refine x_ti (y := nI 0) (by rw [hj9]) ?_
    refine lv_tableIn (tgt := 40) (off := 37) hx hb dX2_counted_3 (by decide) (by decide) rfl (by decide) ?_
    refine lv_aload_n hx hb dX2_counted_40 rfl (lv_at hl 1 rfl) ?_
    refine va_get (D := D) (ci := 2) (v := .int (nI (c))) (C := RX2) (T := TX2) (N := 12) hx hb hts hinX2 hown hK hP 0 rfl rfl 1 (by decide) lk9 (fun _ h9 => h9) rfl dX2_counted_41 ?_
    exact W.iret (v := nI (c)) hx hb hr (fun t ht hW => ⟨⟨_, (many, row, heap, our, the), rfl, (by
        subst hj9; exact ⟨rfl, trivial⟩), ⟨by rw [ht]; exact hP, hD⟩⟩, hS.F ht⟩) hS.2.2 dX2_counted_44
  · refine x_ti (y := nI 1) (by rw [hj9]) ?_
    refine lv_tableIn (tgt := 45) (off := 42) hx hb dX2_counted_3 (by decide) (by decide) rfl (by decide) ?_
    refine lv_aload_n hx hb dX2_counted_45 rfl (lv_at hl 1 rfl) ?_
    refine x_csi (va_runV (As := []) (rest := []) ⟨hx, hb, hml, hown, hts⟩ (c_X2_codes l D cI cZ cG cJ A bd wr th c hid g code ans dbt many row heap our the ) (cwV 0 hts gX2_counted_X2_codes rfl rfl rfl (by decide +kernel) ⟨Nat.le_of_ble_eq_true rfl, Nat.le_of_ble_eq_true rfl⟩) (preV (ci := 2) (q0 := 0) hB hS hP hD rfl rfl) rfl rfl hl.1 rfl (lv_room (Nat.le_of_ble_eq_true rfl)) dX2_counted_46 ⟨Nat.le_of_ble_eq_true rfl, Nat.le_of_ble_eq_true rfl⟩) ?_
    exact W.iret (v := nI (qq c)) hx hb hr (fun t ht hW => ⟨⟨_, (many, row, heap, our, the), rfl, (by
        subst hj9; exact ⟨rfl, trivial⟩), ⟨by rw [ht]; exact hP, hD⟩⟩, hS.F ht⟩) hS.2.2 dX2_counted_49
  · refine x_ti (y := nI 2) (by rw [hj9]) ?_
    refine lv_tableIn (tgt := 50) (off := 47) hx hb dX2_counted_3 (by decide) (by decide) rfl (by decide) ?_
    refine lv_aload_n hx hb dX2_counted_50 rfl (lv_at hl 1 rfl) ?_
    refine va_get (D := D) (ci := 2) (v := .int (nI (g))) (C := RX2) (T := TX2) (N := 12) hx hb hts hinX2 hown hK hP 0 rfl rfl 3 (by decide) lk49 (fun _ h9 => h9) rfl dX2_counted_51 ?_
    exact W.iret (v := nI (g)) hx hb hr (fun t ht hW => ⟨⟨_, (many, row, heap, our, the), rfl, (by
        subst hj9; exact ⟨rfl, trivial⟩), ⟨by rw [ht]; exact hP, hD⟩⟩, hS.F ht⟩) hS.2.2 dX2_counted_54
  · refine x_ti (y := nI 3) (by rw [hj9]) ?_
    refine lv_tableIn (tgt := 55) (off := 52) hx hb dX2_counted_3 (by decide) (by decide) rfl (by decide) ?_
    refine lv_aload_n hx hb dX2_counted_55 rfl (lv_at hl 1 rfl) ?_
    refine lv_aload_n hx hb dX2_counted_56 rfl (lv_at hl 1 rfl) ?_
    refine va_get (D := D) (ci := 2) (v := .int (nI (g))) (C := RX2) (T := TX2) (N := 12) hx hb hts hinX2 hown hK hP 0 rfl rfl 3 (by decide) lk49 (fun _ h9 => h9) rfl dX2_counted_57 ?_
    refine va_calli (va_runV (As := [.int (nI (g))]) (rest := []) ⟨hx, hb, hml, hown, hts⟩ (c_X2_look l D cI cZ cG cJ A bd wr th c hid g code ans dbt many row heap our the g (hc) (hg) (hco)) (cwV 1 hts gX2_counted_X2_look rfl rfl rfl (by decide +kernel) ⟨Nat.le_of_ble_eq_true rfl, Nat.le_of_ble_eq_true rfl⟩) (preV (ci := 2) (q0 := 0) hB hS hP hD rfl rfl) rfl rfl hl.1 rfl (lv_room (Nat.le_of_ble_eq_true rfl)) dX2_counted_60 ⟨Nat.le_of_ble_eq_true rfl, Nat.le_of_ble_eq_true rfl⟩) hS (fun q _ h => h) (fun q h => h) (fun r_60 u_60 t9 H1 locs1 ht9 hvm9 hw_60 hBw hz9 hk9 hS => ?_)
    obtain ⟨hP, hD⟩ := hBw
    rw [ht9] at hP
    generalize H1 = H at hP hS ⊢
    generalize locs1 = locs at hS ⊢
    replace hP : va_P D vwCl (WM bd cI th c hid g code ans dbt u_60.1 u_60.2.1 heap u_60.2.2.1 u_60.2.2.2 wr) H := hP
    replace hD : va_D A (WM bd cI th c hid g code ans dbt u_60.1 u_60.2.1 heap u_60.2.2.1 u_60.2.2.2 wr) := hD
    refine x_ti (y := nI (cN (opS c g code ans dbt) 81)) (hw_60.1) ?_
    exact W.iret (v := nI (cN (opS c g code ans dbt) 81)) hx hb hr (fun t ht hW => ⟨⟨_, (u_60.1, u_60.2.1, heap, u_60.2.2.1, u_60.2.2.2), rfl, (by
        subst hj9; exact ⟨rfl, trivial⟩), ⟨by rw [ht]; exact hP, hD⟩⟩, hS.F ht⟩) hS.2.2 dX2_counted_63
  · refine x_ti (y := nI 4) (by rw [hj9]) ?_
    refine lv_tableIn (tgt := 64) (off := 61) hx hb dX2_counted_3 (by decide) (by decide) rfl (by decide) ?_
    refine lv_aload_n hx hb dX2_counted_64 rfl (lv_at hl 1 rfl) ?_
    refine va_get (D := D) (ci := 2) (v := .int (hid)) (C := RX2) (T := TX2) (N := 12) hx hb hts hinX2 hown hK hP 0 rfl rfl 2 (by decide) lk13 (fun _ h9 => h9) rfl dX2_counted_65 ?_
    refine lv_iconst (v := (-1)) hx hb dX2_counted_68 (by decide) ?_
    refine lv_icmp_ne (tgt := 76) hx hb dX2_counted_69 (by decide) (fun c69 => ?_) (fun c69 => ?_)
    · skip
      refine lv_iconst (v := nI (1)) hx hb dX2_counted_76 (by decide) ?_
      exact W.iret (v := nI (1)) hx hb hr (fun t ht hW => ⟨⟨_, (many, row, heap, our, the), rfl, (by
          subst hj9; refine ⟨?_, trivial⟩
          first | (simp only [cntV, if_pos c69]; done) | (simp only [cntV, if_neg c69]; done)), ⟨by rw [ht]; exact hP, hD⟩⟩, hS.F ht⟩) hS.2.2 dX2_counted_77
    · skip
      refine lv_iconst (v := nI (0)) hx hb dX2_counted_72 (by decide) ?_
      refine lv_goto (tgt := 77) hx hb dX2_counted_73 (by decide) ?_
      exact W.iret (v := nI (0)) hx hb hr (fun t ht hW => ⟨⟨_, (many, row, heap, our, the), rfl, (by
          subst hj9; refine ⟨?_, trivial⟩
          first | (simp only [cntV, if_pos c69]; done) | (simp only [cntV, if_neg c69]; done)), ⟨by rw [ht]; exact hP, hD⟩⟩, hS.F ht⟩) hS.2.2 dX2_counted_77
  · refine x_ti (y := nI 5) (by rw [hj9]) ?_
    refine lv_tableIn (tgt := 78) (off := 75) hx hb dX2_counted_3 (by decide) (by decide) rfl (by decide) ?_
    refine lv_iconst (v := nI (0)) hx hb dX2_counted_78 (by decide) ?_
    refine lv_istore_n (lv' := [(3, .int (nI (0))), (2, .int (nI (0))), (0, .ref (bd 0)), (1, .int (nI (j)))]) hx hb dX2_counted_79 rfl hl (by decide) rfl (fun ls hl => ?_)
    -- loop at 80
    have hinv : 0 ≤ g ∧ 0 = cN (fun z => decide (ans z = 20)) 0 := by
      exact ⟨Nat.zero_le _, rfl⟩
    obtain ⟨i, r, hq9⟩ : ∃ (i : Nat) (r : Nat), lv_has ls 4 [(0, .ref (bd 0)), (1, .int (nI (j))), (2, .int (nI (r))), (3, .int (nI (i)))] ∧ (i ≤ g ∧ r = cN (fun z => decide (ans z = 20)) i) ∧ va_P D vwCl (WM bd cI th c hid g code ans dbt many row heap our the wr) H ∧ va_D A (WM bd cI th c hid g code ans dbt many row heap our the wr) := ⟨0, 0, lv_sub hl [2, 3, 1, 0] rfl, hinv, hP, hD⟩
    clear hl hinv hP hD
    obtain ⟨hl, hinv, hP, hD⟩ := hq9
    obtain ⟨n9_80, hn9⟩ : ∃ q : Nat, g - i < q := ⟨_, Nat.lt_succ_self _⟩
    induction n9_80 generalizing ls H locs i r with
    | zero => exact absurd hn9 (Nat.not_lt_zero _)
    | succ n9_80 ih80 =>
      obtain ⟨h1, h2⟩ := hinv
      refine lv_iload_n hx hb dX2_counted_80 rfl (lv_at hl 3 rfl) ?_
      refine lv_aload_n hx hb dX2_counted_81 rfl (lv_at hl 0 rfl) ?_
      refine va_get (D := D) (ci := 2) (v := .int (nI (g))) (C := RX2) (T := TX2) (N := 12) hx hb hts hinX2 hown hK hP 0 rfl rfl 3 (by decide) lk49 (fun _ h9 => h9) rfl dX2_counted_82 ?_
      refine x_ge (tgt := 113) hx hb dX2_counted_85 (by decide) (by omega) (by omega) (fun c85 => ?_) (fun c85 => ?_)
      · skip
        refine lv_iload_n hx hb dX2_counted_113 rfl (lv_at hl 2 rfl) ?_
        exact W.iret (v := nI (r)) hx hb hr (fun t ht hW => ⟨⟨_, (many, row, heap, our, the), rfl, (by
            have e9 : i = g := by omega
            subst hj9; exact ⟨by rw [h2, e9]; rfl, trivial⟩), ⟨by rw [ht]; exact hP, hD⟩⟩, hS.F ht⟩) hS.2.2 dX2_counted_114
      · skip
        refine lv_iload_n hx hb dX2_counted_88 rfl (lv_at hl 2 rfl) ?_
        refine lv_aload_n hx hb dX2_counted_89 rfl (lv_at hl 0 rfl) ?_
        refine va_get (D := D) (ci := 2) (v := .ref (bd 2)) (C := RX2) (T := TX2) (N := 12) hx hb hts hinX2 hown hK hP 0 rfl rfl 5 (by decide) lk20 (fun _ h9 => h9) rfl dX2_counted_90 ?_
        refine lv_iload_n hx hb dX2_counted_93 rfl (lv_at hl 3 rfl) ?_
        refine x_iald hx hb hK hP 2 0 rfl rfl (i := i) (by omega) (by omega) dX2_counted_94 ?_
        have hai := (hco i c85).2
        refine lv_bipush (v := nI (20)) hx hb dX2_counted_95 (by decide) ?_
        refine x_ne (tgt := 104) hx hb dX2_counted_97 (by decide) (by omega) (by omega) (fun c97 => ?_) (fun c97 => ?_)
        · skip
          refine lv_iconst (v := nI (0)) hx hb dX2_counted_104 (by decide) ?_
          refine lv_iadd hx hb dX2_counted_105 ?_
          refine x_ti (nI_add _ _) ?_
          refine lv_istore_n (lv' := [(2, .int (nI (r + 0))), (0, .ref (bd 0)), (1, .int (nI (j))), (3, .int (nI (i)))]) hx hb dX2_counted_106 rfl hl (by decide) rfl (fun ls hl => ?_)
          refine lv_iinc (v := nI (i + 1)) (lv' := [(3, .int (nI (i + 1))), (2, .int (nI (r + 0))), (0, .ref (bd 0)), (1, .int (nI (j)))]) hx hb dX2_counted_107 hl (k := 3) rfl (nI_add _ _) (by decide) rfl (fun ls hl => ?_)
          refine lv_goto (tgt := 80) hx hb dX2_counted_110 (by decide) ?_
          exact ih80 (i := i + 1) (r := r + 0) (ls := ls) (hl := lv_sub hl [2, 3, 1, 0] rfl) (H := H) (locs := locs) (hP := hP) (hS := hS) (hinv := by
              refine ⟨by omega, ?_⟩
              first | exact (congrArg (· + 1) h2).trans (cN_s (p := fun z => decide (ans z = 20)) (decide_eq_true c97)).symm | exact h2.trans (cN_n (p := fun z => decide (ans z = 20)) (decide_eq_false c97)).symm
            ) (hn9 := by
              omega
            )
        · skip
          refine lv_iconst (v := nI (1)) hx hb dX2_counted_100 (by decide) ?_
          refine lv_goto (tgt := 105) hx hb dX2_counted_101 (by decide) ?_
          refine lv_iadd hx hb dX2_counted_105 ?_
          refine x_ti (nI_add _ _) ?_
          refine lv_istore_n (lv' := [(2, .int (nI (r + 1))), (0, .ref (bd 0)), (1, .int (nI (j))), (3, .int (nI (i)))]) hx hb dX2_counted_106 rfl hl (by decide) rfl (fun ls hl => ?_)
          refine lv_iinc (v := nI (i + 1)) (lv' := [(3, .int (nI (i + 1))), (2, .int (nI (r + 1))), (0, .ref (bd 0)), (1, .int (nI (j)))]) hx hb dX2_counted_107 hl (k := 3) rfl (nI_add _ _) (by decide) rfl (fun ls hl => ?_)
          refine lv_goto (tgt := 80) hx hb dX2_counted_110 (by decide) ?_
          exact ih80 (i := i + 1) (r := r + 1) (ls := ls) (hl := lv_sub hl [2, 3, 1, 0] rfl) (H := H) (locs := locs) (hP := hP) (hS := hS) (hinv := by
              refine ⟨by omega, ?_⟩
              first | exact (congrArg (· + 1) h2).trans (cN_s (p := fun z => decide (ans z = 20)) (decide_eq_true c97)).symm | exact h2.trans (cN_n (p := fun z => decide (ans z = 20)) (decide_eq_false c97)).symm
            ) (hn9 := by
              omega
            )
  · refine x_ti (y := nI 6) (by rw [hj9]) ?_
    refine lv_tableOut (tgt := 115) hx hb dX2_counted_3 (Or.inr (by decide)) (by decide) ?_
    refine lv_iconst (v := nI (0)) hx hb dX2_counted_115 (by decide) ?_
    refine lv_istore_n (lv' := [(3, .int (nI (0))), (2, .int (nI (0))), (0, .ref (bd 0)), (1, .int (nI (j)))]) hx hb dX2_counted_116 rfl hl (by decide) rfl (fun ls hl => ?_)
    -- loop at 117
    have hinv : 0 ≤ g ∧ 0 = cN dbt 0 := by
      exact ⟨Nat.zero_le _, rfl⟩
    obtain ⟨i, r, hq9⟩ : ∃ (i : Nat) (r : Nat), lv_has ls 4 [(0, .ref (bd 0)), (1, .int (nI (j))), (2, .int (nI (r))), (3, .int (nI (i)))] ∧ (i ≤ g ∧ r = cN dbt i) ∧ va_P D vwCl (WM bd cI th c hid g code ans dbt many row heap our the wr) H ∧ va_D A (WM bd cI th c hid g code ans dbt many row heap our the wr) := ⟨0, 0, lv_sub hl [2, 3, 1, 0] rfl, hinv, hP, hD⟩
    clear hl hinv hP hD
    obtain ⟨hl, hinv, hP, hD⟩ := hq9
    obtain ⟨n9_117, hn9⟩ : ∃ q : Nat, g - i < q := ⟨_, Nat.lt_succ_self _⟩
    induction n9_117 generalizing ls H locs i r with
    | zero => exact absurd hn9 (Nat.not_lt_zero _)
    | succ n9_117 ih117 =>
      obtain ⟨h1, h2⟩ := hinv
      refine lv_iload_n hx hb dX2_counted_117 rfl (lv_at hl 3 rfl) ?_
      refine lv_aload_n hx hb dX2_counted_118 rfl (lv_at hl 0 rfl) ?_
      refine va_get (D := D) (ci := 2) (v := .int (nI (g))) (C := RX2) (T := TX2) (N := 12) hx hb hts hinX2 hown hK hP 0 rfl rfl 3 (by decide) lk49 (fun _ h9 => h9) rfl dX2_counted_119 ?_
      refine x_ge (tgt := 140) hx hb dX2_counted_122 (by decide) (by omega) (by omega) (fun c122 => ?_) (fun c122 => ?_)
      · skip
        refine lv_iload_n hx hb dX2_counted_140 rfl (lv_at hl 2 rfl) ?_
        exact W.iret (v := nI (r)) hx hb hr (fun t ht hW => ⟨⟨_, (many, row, heap, our, the), rfl, (by
            have e9 : i = g := by omega
            subst hj9; exact ⟨by rw [h2, e9]; rfl, trivial⟩), ⟨by rw [ht]; exact hP, hD⟩⟩, hS.F ht⟩) hS.2.2 dX2_counted_141
      · skip
        refine lv_iload_n hx hb dX2_counted_125 rfl (lv_at hl 2 rfl) ?_
        refine lv_aload_n hx hb dX2_counted_126 rfl (lv_at hl 0 rfl) ?_
        refine va_get (D := D) (ci := 2) (v := .ref (bd 3)) (C := RX2) (T := TX2) (N := 12) hx hb hts hinX2 hown hK hP 0 rfl rfl 6 (by decide) lk23 (fun _ h9 => h9) rfl dX2_counted_127 ?_
        refine lv_iload_n hx hb dX2_counted_130 rfl (lv_at hl 3 rfl) ?_
        refine x_iald hx hb hK hP 3 0 rfl rfl (i := i) (by omega) (by omega) dX2_counted_131 ?_
        refine lv_iadd hx hb dX2_counted_132  ?_
        refine x_ti (y := nI (r + (if dbt i = true then 1 else 0))) (by cases dbt i <;> first | exact nI_add r 0 | exact nI_add r 1) ?_
        refine lv_istore_n (lv' := [(2, .int (nI (r + (if dbt i = true then 1 else 0)))), (0, .ref (bd 0)), (1, .int (nI (j))), (3, .int (nI (i)))]) hx hb dX2_counted_133 rfl hl (by decide) rfl (fun ls hl => ?_)
        refine lv_iinc (v := nI (i + 1)) (lv' := [(3, .int (nI (i + 1))), (2, .int (nI (r + (if dbt i = true then 1 else 0)))), (0, .ref (bd 0)), (1, .int (nI (j)))]) hx hb dX2_counted_134 hl (k := 3) rfl (nI_add _ _) (by decide) rfl (fun ls hl => ?_)
        refine lv_goto (tgt := 117) hx hb dX2_counted_137 (by decide) ?_
        exact ih117 (i := i + 1) (r := r + (if dbt i = true then 1 else 0)) (ls := ls) (hl := lv_sub hl [2, 3, 1, 0] rfl) (H := H) (locs := locs) (hP := hP) (hS := hS) (hinv := by
            exact ⟨by omega, by rw [h2]; rfl⟩
          ) (hn9 := by
            omega
          )

set_option maxHeartbeats 4000000 in
set_option maxRecDepth 100000 in
theorem c_X2_count (l : Launch) (D : va_G) (cI cZ cG cJ : ClassId) (A : Nat → Prop) (bd : Nat → Nat) (wr : va_W) (th : Nat) (c : Nat) (hid : Int32) (g : Nat) (code : Nat → Nat) (ans : Nat → Nat) (dbt : Nat → Bool) (many : Nat) (row : Nat → Nat) (heap : Nat → Nat) (our : Nat → Nat) (the : Nat → Nat) (w : Int32) (hc : c = 2 ∨ c = 3) (hg : g ≤ 12) (hco : CodeOK c g code ans) : Met l yX2_count wsX2_count ({ frames := 6, cells := 0, slots := 0, locals := 138 }) (va_Pc [.ref (bd 0), .int (w)] (Iv D (TY cI cZ cG cJ) A (WM bd cI th c hid g code ans dbt many row heap our the wr))) (va_Qi (fun r (u : Nat × MSt) => (u.1 = 0 ∧ ∃ j : Nat, j < 7 ∧ w = nI j ∧ r = nI (cntV c g hid code ans dbt j)) ∨ (u.1 = 1 ∧ rgC 7 w = false)) (fun u => Wd D A (WM bd cI u.1 c hid g code ans dbt u.2.1 u.2.2.1 u.2.2.2.1 u.2.2.2.2.1 u.2.2.2.2.2 wr)) A) 0 0 A := by
  refine Met.ofW (cc := cX2_count) (maxL := 2) (ret := (some .int)) (by decide) rfl ?_
  intro p e s m args below meth c9 s₁ B hml hv
  obtain ⟨rfl, hP, hD, hB⟩ := hv
  have hK := hB.1
  have hA := hB.2.1
  have hx := B.exec
  have hb := B.bytes
  have hr := B.returns
  have hts := atoms_spec (ws := wsX2_count) B.pre
  have hown : s.vm.findClass RX2 = some m.cls := findClass_of_methodNamed B.named
  have hlocks := B.notSynchronized
  have hS : va_S A s.heap s.heap [] := va_S.rf
  have hinX2 : ∀ w ∈ wsX20, w ∈ wsX2_count := by decide +kernel
  have lk38 := hts (.fieldLink RX2 38 "HiddenCandlesModel" "thrown" "I") (by decide +kernel)
  have hl := lv_entry ([.ref (bd 0), .int (w)]) (n := 2) (Nat.le_of_ble_eq_true rfl)
  rw [lg_entry_eq]
  generalize (lg_sl ([.ref (bd 0), .int (w)]) ++ List.replicate (2 - (lg_sl ([.ref (bd 0), .int (w)])).length) Slot.unset).toArray = ls at hl ⊢
  have hl : lv_has ls 2 [(0, .ref (bd 0)), (1, .int (w))] := hl
  obtain ⟨H, eH⟩ : ∃ q, q = s.heap := ⟨_, rfl⟩
  obtain ⟨locs, eL⟩ : ∃ q : List Loc, q = [] := ⟨_, rfl⟩
  replace hP : va_P D vwCl (WM bd cI th c hid g code ans dbt many row heap our the wr) H := by rw [eH]; exact hP
  replace hS : va_S A s.heap H locs := by rw [eH, eL]; exact hS
  rw [show W p l e _ s m _ below meth c9 s.heap [] = W p l e _ s m _ below meth c9 H locs from by rw [eH, eL]]
  clear eH eL
  have hq := qq_in hc
  refine lv_aload_n hx hb dX2_count_0 rfl (lv_at hl 0 rfl) ?_
  refine lv_iconst (v := nI (0)) hx hb dX2_count_1 (by decide) ?_
  refine va_put (D := D) (ci := 2) (v := .int (nI (0))) (ty := .int) (C := RX2) (T := TX2) (N := 12) hx hb hts hinX2 tyX2 tyX2_ok nmX2 hown hK hP hD hS 0 rfl rfl 0 (by decide) lk38 (fun _ h9 => h9) rfl (by decide +kernel) rfl rfl (Nat.le_of_ble_eq_true rfl) dX2_count_2 (fun H locs hP hD hS => ?_)
  replace hP : va_P D vwCl (WM bd cI 0 c hid g code ans dbt many row heap our the wr) H := hP
  replace hD : va_D A (WM bd cI 0 c hid g code ans dbt many row heap our the wr) := hD
  refine lv_iload_n hx hb dX2_count_5 rfl (lv_at hl 1 rfl) ?_
  refine lv_iconst (v := nI (0)) hx hb dX2_count_6 (by decide) ?_
  refine lv_bipush (v := nI (6)) hx hb dX2_count_7 (by decide) ?_
  refine x_csi (va_runS (As := [.int (w), .int (nI (0)), .int (nI (6))]) (rest := []) ⟨hx, hb, hml, hown, hts⟩ (c_X2_isIn l D cI cZ cG cJ A (WM bd cI 0 c hid g code ans dbt many row heap our the wr) w (nI (0)) (nI (6)) ) (va_cwS 3 hts gX2_count_X2_isIn rfl rfl rfl (by decide +kernel) ⟨Nat.le_of_ble_eq_true rfl, Nat.le_of_ble_eq_true rfl⟩) (preS hB hS hP hD) rfl rfl hl.1 rfl (lv_room (Nat.le_of_ble_eq_true rfl)) dX2_count_9 ⟨Nat.le_of_ble_eq_true rfl, Nat.le_of_ble_eq_true rfl⟩) ?_
  refine x_ti (y := bI (rgC 7 w)) (by rw [in_rg (n := 7) (by omega) (by omega)]) ?_
  refine x_zeq (tgt := 23) hx hb dX2_count_12 (by decide) (fun c12 => ?_) (fun c12 => ?_)
  · skip
    refine lv_aload_n hx hb dX2_count_23 rfl (lv_at hl 0 rfl) ?_
    refine lv_iconst (v := nI (1)) hx hb dX2_count_24 (by decide) ?_
    refine va_calli (va_runV (As := [.int (nI (1))]) (rest := []) ⟨hx, hb, hml, hown, hts⟩ (c_X2_no l D cI cZ cG cJ A bd wr 0 c hid g code ans dbt many row heap our the 1 ) (cwV 1 hts gX2_count_X2_no rfl rfl rfl (by decide +kernel) ⟨Nat.le_of_ble_eq_true rfl, Nat.le_of_ble_eq_true rfl⟩) (preV (ci := 2) (q0 := 0) hB hS hP hD rfl rfl) rfl rfl hl.1 rfl (lv_room (Nat.le_of_ble_eq_true rfl)) dX2_count_25 ⟨Nat.le_of_ble_eq_true rfl, Nat.le_of_ble_eq_true rfl⟩) hS (fun q _ h => h) (fun q h => h) (fun r_25 u_25 t9 H1 locs1 ht9 hvm9 hw_25 hBw hz9 hk9 hS => ?_)
    obtain ⟨hP, hD⟩ := hBw
    rw [ht9] at hP
    generalize H1 = H at hP hS ⊢
    generalize locs1 = locs at hS ⊢
    replace hP : va_P D vwCl (WM bd cI 1 c hid g code ans dbt many row heap our the wr) H := hP
    replace hD : va_D A (WM bd cI 1 c hid g code ans dbt many row heap our the wr) := hD
    refine x_ti (y := nI (0)) (hw_25.1) ?_
    exact W.iret (v := nI (0)) hx hb hr (fun t ht hW => ⟨⟨_, (1, (many, row, heap, our, the)), rfl, (by
        exact Or.inr ⟨rfl, c12⟩), ⟨by rw [ht]; exact hP, hD⟩⟩, hS.F ht⟩) hS.2.2 dX2_count_28
  · skip
    obtain ⟨j, hj, rfl⟩ := rgC_of c12 (by decide)
    refine lv_aload_n hx hb dX2_count_15 rfl (lv_at hl 0 rfl) ?_
    refine lv_iload_n hx hb dX2_count_16 rfl (lv_at hl 1 rfl) ?_
    refine va_calli (va_runV (As := [.int (nI (j))]) (rest := []) ⟨hx, hb, hml, hown, hts⟩ (c_X2_counted l D cI cZ cG cJ A bd wr 0 c hid g code ans dbt many row heap our the j (hc) (hg) (hco) (hj)) (cwV 1 hts gX2_count_X2_counted rfl rfl rfl (by decide +kernel) ⟨Nat.le_of_ble_eq_true rfl, Nat.le_of_ble_eq_true rfl⟩) (preV (ci := 2) (q0 := 0) hB hS hP hD rfl rfl) rfl rfl hl.1 rfl (lv_room (Nat.le_of_ble_eq_true rfl)) dX2_count_17 ⟨Nat.le_of_ble_eq_true rfl, Nat.le_of_ble_eq_true rfl⟩) hS (fun q _ h => h) (fun q h => h) (fun r_17 u_17 t9 H1 locs1 ht9 hvm9 hw_17 hBw hz9 hk9 hS => ?_)
    obtain ⟨hP, hD⟩ := hBw
    rw [ht9] at hP
    generalize H1 = H at hP hS ⊢
    generalize locs1 = locs at hS ⊢
    replace hP : va_P D vwCl (WM bd cI 0 c hid g code ans dbt u_17.1 u_17.2.1 u_17.2.2.1 u_17.2.2.2.1 u_17.2.2.2.2 wr) H := hP
    replace hD : va_D A (WM bd cI 0 c hid g code ans dbt u_17.1 u_17.2.1 u_17.2.2.1 u_17.2.2.2.1 u_17.2.2.2.2 wr) := hD
    refine x_ti (y := nI (cntV c g hid code ans dbt j)) (hw_17.1) ?_
    refine lv_goto (tgt := 28) hx hb dX2_count_20 (by decide) ?_
    exact W.iret (v := nI (cntV c g hid code ans dbt j)) hx hb hr (fun t ht hW => ⟨⟨_, (0, (u_17.1, u_17.2.1, u_17.2.2.1, u_17.2.2.2.1, u_17.2.2.2.2)), rfl, (by
        exact Or.inl ⟨rfl, j, hj, rfl, rfl⟩), ⟨by rw [ht]; exact hP, hD⟩⟩, hS.F ht⟩) hS.2.2 dX2_count_28

set_option maxHeartbeats 4000000 in
set_option maxRecDepth 100000 in
theorem c_X2_isPossible (l : Launch) (D : va_G) (cI cZ cG cJ : ClassId) (A : Nat → Prop) (bd : Nat → Nat) (wr : va_W) (th : Nat) (c : Nat) (hid : Int32) (g : Nat) (code : Nat → Nat) (ans : Nat → Nat) (dbt : Nat → Bool) (many : Nat) (row : Nat → Nat) (heap : Nat → Nat) (our : Nat → Nat) (the : Nat → Nat) (v : Int32) (hc : c = 2 ∨ c = 3) (hg : g ≤ 12) (hco : CodeOK c g code ans) : Met l yX2_isPossible wsX2_isPossible ({ frames := 4, cells := 0, slots := 0, locals := 93 }) (va_Pc [.ref (bd 0), .int (v)] (Iv D (TY cI cZ cG cJ) A (WM bd cI th c hid g code ans dbt many row heap our the wr))) (va_Qi (fun r (u : Nat × (Nat → Nat) × (Nat → Nat)) => (u.1 = 0 ∧ ∃ k : Nat, k < qq c ∧ v = nI k ∧ r = bI (opS c g code ans dbt k)) ∨ (u.1 = 1 ∧ hasC c v = false)) (fun u => Wd D A (WM bd cI u.1 c hid g code ans dbt many row heap u.2.1 u.2.2 wr)) A) 0 0 A := by
  refine Met.ofW (cc := cX2_isPossible) (maxL := 2) (ret := (some .boolean)) (by decide) rfl ?_
  intro p e s m args below meth c9 s₁ B hml hv
  obtain ⟨rfl, hP, hD, hB⟩ := hv
  have hK := hB.1
  have hA := hB.2.1
  have hx := B.exec
  have hb := B.bytes
  have hr := B.returns
  have hts := atoms_spec (ws := wsX2_isPossible) B.pre
  have hown : s.vm.findClass RX2 = some m.cls := findClass_of_methodNamed B.named
  have hlocks := B.notSynchronized
  have hS : va_S A s.heap s.heap [] := va_S.rf
  have hinX2 : ∀ w ∈ wsX20, w ∈ wsX2_isPossible := by decide +kernel
  have lk38 := hts (.fieldLink RX2 38 "HiddenCandlesModel" "thrown" "I") (by decide +kernel)
  have lk49 := hts (.fieldLink RX2 49 "HiddenCandlesModel" "guesses" "I") (by decide +kernel)
  have hl := lv_entry ([.ref (bd 0), .int (v)]) (n := 2) (Nat.le_of_ble_eq_true rfl)
  rw [lg_entry_eq]
  generalize (lg_sl ([.ref (bd 0), .int (v)]) ++ List.replicate (2 - (lg_sl ([.ref (bd 0), .int (v)])).length) Slot.unset).toArray = ls at hl ⊢
  have hl : lv_has ls 2 [(0, .ref (bd 0)), (1, .int (v))] := hl
  obtain ⟨H, eH⟩ : ∃ q, q = s.heap := ⟨_, rfl⟩
  obtain ⟨locs, eL⟩ : ∃ q : List Loc, q = [] := ⟨_, rfl⟩
  replace hP : va_P D vwCl (WM bd cI th c hid g code ans dbt many row heap our the wr) H := by rw [eH]; exact hP
  replace hS : va_S A s.heap H locs := by rw [eH, eL]; exact hS
  rw [show W p l e _ s m _ below meth c9 s.heap [] = W p l e _ s m _ below meth c9 H locs from by rw [eH, eL]]
  clear eH eL
  have hq := qq_in hc
  refine lv_aload_n hx hb dX2_isPossible_0 rfl (lv_at hl 0 rfl) ?_
  refine lv_aload_n hx hb dX2_isPossible_1 rfl (lv_at hl 0 rfl) ?_
  refine lv_iload_n hx hb dX2_isPossible_2 rfl (lv_at hl 1 rfl) ?_
  refine x_csi (va_runV (As := [.int (v)]) (rest := [.ref (bd 0)]) ⟨hx, hb, hml, hown, hts⟩ (c_X2_isCode l D cI cZ cG cJ A bd wr th c hid g code ans dbt many row heap our the v (hc)) (cwV 1 hts gX2_isPossible_X2_isCode rfl rfl rfl (by decide +kernel) ⟨Nat.le_of_ble_eq_true rfl, Nat.le_of_ble_eq_true rfl⟩) (preV (ci := 2) (q0 := 0) hB hS hP hD rfl rfl) rfl rfl hl.1 rfl (lv_room (Nat.le_of_ble_eq_true rfl)) dX2_isPossible_3 ⟨Nat.le_of_ble_eq_true rfl, Nat.le_of_ble_eq_true rfl⟩) ?_
  refine x_zeq (tgt := 13) hx hb dX2_isPossible_6 (by decide) (fun c6 => ?_) (fun c6 => ?_)
  · skip
    refine lv_iconst (v := nI (1)) hx hb dX2_isPossible_13 (by decide) ?_
    refine va_put (D := D) (ci := 2) (v := .int (nI (1))) (ty := .int) (C := RX2) (T := TX2) (N := 12) hx hb hts hinX2 tyX2 tyX2_ok nmX2 hown hK hP hD hS 0 rfl rfl 0 (by decide) lk38 (fun _ h9 => h9) rfl (by decide +kernel) rfl rfl (Nat.le_of_ble_eq_true rfl) dX2_isPossible_14 (fun H locs hP hD hS => ?_)
    replace hP : va_P D vwCl (WM bd cI 1 c hid g code ans dbt many row heap our the wr) H := hP
    replace hD : va_D A (WM bd cI 1 c hid g code ans dbt many row heap our the wr) := hD
    refine lv_aload_n hx hb dX2_isPossible_17 rfl (lv_at hl 0 rfl) ?_
    refine va_get (D := D) (ci := 2) (v := .int (nI (1))) (C := RX2) (T := TX2) (N := 12) hx hb hts hinX2 hown hK hP 0 rfl rfl 0 (by decide) lk38 (fun _ h9 => h9) rfl dX2_isPossible_18 ?_
    refine x_ne0 (tgt := 40) hx hb dX2_isPossible_21 (by decide) (by omega) (fun c21 => ?_) (fun c21 => absurd c21 (by decide))
    refine lv_iconst (v := bI (false)) hx hb dX2_isPossible_40 (by decide) ?_
    exact W.zret (v := bI (false)) hx hb hr (bI_narrow _) (fun t ht hW => ⟨⟨_, (1, our, the), rfl, (by
        exact Or.inr ⟨rfl, c6⟩), ⟨by rw [ht]; exact hP, hD⟩⟩, hS.F ht⟩) hS.2.2 dX2_isPossible_41
  · skip
    refine lv_iconst (v := nI (0)) hx hb dX2_isPossible_9 (by decide) ?_
    refine lv_goto (tgt := 14) hx hb dX2_isPossible_10 (by decide) ?_
    refine va_put (D := D) (ci := 2) (v := .int (nI (0))) (ty := .int) (C := RX2) (T := TX2) (N := 12) hx hb hts hinX2 tyX2 tyX2_ok nmX2 hown hK hP hD hS 0 rfl rfl 0 (by decide) lk38 (fun _ h9 => h9) rfl (by decide +kernel) rfl rfl (Nat.le_of_ble_eq_true rfl) dX2_isPossible_14 (fun H locs hP hD hS => ?_)
    replace hP : va_P D vwCl (WM bd cI 0 c hid g code ans dbt many row heap our the wr) H := hP
    replace hD : va_D A (WM bd cI 0 c hid g code ans dbt many row heap our the wr) := hD
    refine lv_aload_n hx hb dX2_isPossible_17 rfl (lv_at hl 0 rfl) ?_
    refine va_get (D := D) (ci := 2) (v := .int (nI (0))) (C := RX2) (T := TX2) (N := 12) hx hb hts hinX2 hown hK hP 0 rfl rfl 0 (by decide) lk38 (fun _ h9 => h9) rfl dX2_isPossible_18 ?_
    refine x_ne0 (tgt := 40) hx hb dX2_isPossible_21 (by decide) (by omega) (fun c21 => absurd c21 (by decide)) (fun c21 => ?_)
    obtain ⟨k, hk, rfl⟩ := hasC_of hc c6
    refine lv_aload_n hx hb dX2_isPossible_24 rfl (lv_at hl 0 rfl) ?_
    refine lv_iload_n hx hb dX2_isPossible_25 rfl (lv_at hl 1 rfl) ?_
    refine lv_aload_n hx hb dX2_isPossible_26 rfl (lv_at hl 0 rfl) ?_
    refine va_get (D := D) (ci := 2) (v := .int (nI (g))) (C := RX2) (T := TX2) (N := 12) hx hb hts hinX2 hown hK hP 0 rfl rfl 3 (by decide) lk49 (fun _ h9 => h9) rfl dX2_isPossible_27 ?_
    refine va_calli (va_runV (As := [.int (nI (k)), .int (nI (g))]) (rest := []) ⟨hx, hb, hml, hown, hts⟩ (c_X2_fits l D cI cZ cG cJ A bd wr 0 c hid g code ans dbt many row heap our the k g (hc) (hk) (hg) (hco)) (cwV 2 hts gX2_isPossible_X2_fits rfl rfl rfl (by decide +kernel) ⟨Nat.le_of_ble_eq_true rfl, Nat.le_of_ble_eq_true rfl⟩) (preV (ci := 2) (q0 := 0) hB hS hP hD rfl rfl) rfl rfl hl.1 rfl (lv_room (Nat.le_of_ble_eq_true rfl)) dX2_isPossible_30 ⟨Nat.le_of_ble_eq_true rfl, Nat.le_of_ble_eq_true rfl⟩) hS (fun q _ h => h) (fun q h => h) (fun r_30 u_30 t9 H1 locs1 ht9 hvm9 hw_30 hBw hz9 hk9 hS => ?_)
    obtain ⟨hP, hD⟩ := hBw
    rw [ht9] at hP
    generalize H1 = H at hP hS ⊢
    generalize locs1 = locs at hS ⊢
    replace hP : va_P D vwCl (WM bd cI 0 c hid g code ans dbt many row heap u_30.1 u_30.2 wr) H := hP
    replace hD : va_D A (WM bd cI 0 c hid g code ans dbt many row heap u_30.1 u_30.2 wr) := hD
    refine x_ti (y := bI (fit c code ans dbt g k)) (hw_30.1) ?_
    refine x_zeq (tgt := 40) hx hb dX2_isPossible_33 (by decide) (fun c33 => ?_) (fun c33 => ?_)
    · skip
      refine lv_iconst (v := bI (false)) hx hb dX2_isPossible_40 (by decide) ?_
      exact W.zret (v := bI (false)) hx hb hr (bI_narrow _) (fun t ht hW => ⟨⟨_, (0, u_30.1, u_30.2), rfl, (by
          exact Or.inl ⟨rfl, k, hk, rfl, by rw [opS, decide_eq_true hk, c33]; rfl⟩), ⟨by rw [ht]; exact hP, hD⟩⟩, hS.F ht⟩) hS.2.2 dX2_isPossible_41
    · skip
      refine lv_iconst (v := bI (true)) hx hb dX2_isPossible_36 (by decide) ?_
      refine lv_goto (tgt := 41) hx hb dX2_isPossible_37 (by decide) ?_
      exact W.zret (v := bI (true)) hx hb hr (bI_narrow _) (fun t ht hW => ⟨⟨_, (0, u_30.1, u_30.2), rfl, (by
          exact Or.inl ⟨rfl, k, hk, rfl, by rw [opS, decide_eq_true hk, c33]; rfl⟩), ⟨by rw [ht]; exact hP, hD⟩⟩, hS.F ht⟩) hS.2.2 dX2_isPossible_41

set_option maxHeartbeats 4000000 in
set_option maxRecDepth 100000 in
theorem c_X2_possible (l : Launch) (D : va_G) (cI cZ cG cJ : ClassId) (A : Nat → Prop) (bd : Nat → Nat) (wr : va_W) (th : Nat) (c : Nat) (hid : Int32) (g : Nat) (code : Nat → Nat) (ans : Nat → Nat) (dbt : Nat → Bool) (many : Nat) (row : Nat → Nat) (heap : Nat → Nat) (our : Nat → Nat) (the : Nat → Nat) (v : Int32) (hc : c = 2 ∨ c = 3) (hg : g ≤ 12) (hco : CodeOK c g code ans) : Met l yX2_possible wsX2_possible ({ frames := 5, cells := 0, slots := 0, locals := 115 }) (va_Pc [.ref (bd 0), .int (v)] (Iv D (TY cI cZ cG cJ) A (WM bd cI th c hid g code ans dbt many row heap our the wr))) (va_Qi (fun r (u : Nat × MSt) => (u.1 = 0 ∧ ¬ memA (opS c g code ans dbt) v 81 = -1 ∧ r = memA (opS c g code ans dbt) v 81) ∨ (u.1 = 1 ∧ memA (opS c g code ans dbt) v 81 = -1)) (fun u => Wd D A (WM bd cI u.1 c hid g code ans dbt u.2.1 u.2.2.1 u.2.2.2.1 u.2.2.2.2.1 u.2.2.2.2.2 wr)) A) 0 0 A := by
  refine Met.ofW (cc := cX2_possible) (maxL := 2) (ret := (some .int)) (by decide) rfl ?_
  intro p e s m args below meth c9 s₁ B hml hv
  obtain ⟨rfl, hP, hD, hB⟩ := hv
  have hK := hB.1
  have hA := hB.2.1
  have hx := B.exec
  have hb := B.bytes
  have hr := B.returns
  have hts := atoms_spec (ws := wsX2_possible) B.pre
  have hown : s.vm.findClass RX2 = some m.cls := findClass_of_methodNamed B.named
  have hlocks := B.notSynchronized
  have hS : va_S A s.heap s.heap [] := va_S.rf
  have hinX2 : ∀ w ∈ wsX20, w ∈ wsX2_possible := by decide +kernel
  have lk26 := hts (.fieldLink RX2 26 "HiddenCandlesModel" "row" "[I") (by decide +kernel)
  have lk38 := hts (.fieldLink RX2 38 "HiddenCandlesModel" "thrown" "I") (by decide +kernel)
  have lk49 := hts (.fieldLink RX2 49 "HiddenCandlesModel" "guesses" "I") (by decide +kernel)
  have hl := lv_entry ([.ref (bd 0), .int (v)]) (n := 2) (Nat.le_of_ble_eq_true rfl)
  rw [lg_entry_eq]
  generalize (lg_sl ([.ref (bd 0), .int (v)]) ++ List.replicate (2 - (lg_sl ([.ref (bd 0), .int (v)])).length) Slot.unset).toArray = ls at hl ⊢
  have hl : lv_has ls 2 [(0, .ref (bd 0)), (1, .int (v))] := hl
  obtain ⟨H, eH⟩ : ∃ q, q = s.heap := ⟨_, rfl⟩
  obtain ⟨locs, eL⟩ : ∃ q : List Loc, q = [] := ⟨_, rfl⟩
  replace hP : va_P D vwCl (WM bd cI th c hid g code ans dbt many row heap our the wr) H := by rw [eH]; exact hP
  replace hS : va_S A s.heap H locs := by rw [eH, eL]; exact hS
  rw [show W p l e _ s m _ below meth c9 s.heap [] = W p l e _ s m _ below meth c9 H locs from by rw [eH, eL]]
  clear eH eL
  have hq := qq_in hc
  refine lv_aload_n hx hb dX2_possible_0 rfl (lv_at hl 0 rfl) ?_
  refine lv_iconst (v := nI (0)) hx hb dX2_possible_1 (by decide) ?_
  refine va_put (D := D) (ci := 2) (v := .int (nI (0))) (ty := .int) (C := RX2) (T := TX2) (N := 12) hx hb hts hinX2 tyX2 tyX2_ok nmX2 hown hK hP hD hS 0 rfl rfl 0 (by decide) lk38 (fun _ h9 => h9) rfl (by decide +kernel) rfl rfl (Nat.le_of_ble_eq_true rfl) dX2_possible_2 (fun H locs hP hD hS => ?_)
  replace hP : va_P D vwCl (WM bd cI 0 c hid g code ans dbt many row heap our the wr) H := hP
  replace hD : va_D A (WM bd cI 0 c hid g code ans dbt many row heap our the wr) := hD
  refine lv_iload_n hx hb dX2_possible_5 rfl (lv_at hl 1 rfl) ?_
  refine lv_iconst (v := nI (0)) hx hb dX2_possible_6 (by decide) ?_
  refine lv_aload_n hx hb dX2_possible_7 rfl (lv_at hl 0 rfl) ?_
  refine lv_aload_n hx hb dX2_possible_8 rfl (lv_at hl 0 rfl) ?_
  refine va_get (D := D) (ci := 2) (v := .int (nI (g))) (C := RX2) (T := TX2) (N := 12) hx hb hts hinX2 hown hK hP 0 rfl rfl 3 (by decide) lk49 (fun _ h9 => h9) rfl dX2_possible_9 ?_
  refine va_calli (va_runV (As := [.int (nI (g))]) (rest := [.int (nI (0)), .int (v)]) ⟨hx, hb, hml, hown, hts⟩ (c_X2_look l D cI cZ cG cJ A bd wr 0 c hid g code ans dbt many row heap our the g (hc) (hg) (hco)) (cwV 1 hts gX2_possible_X2_look rfl rfl rfl (by decide +kernel) ⟨Nat.le_of_ble_eq_true rfl, Nat.le_of_ble_eq_true rfl⟩) (preV (ci := 2) (q0 := 0) hB hS hP hD rfl rfl) rfl rfl hl.1 rfl (lv_room (Nat.le_of_ble_eq_true rfl)) dX2_possible_12 ⟨Nat.le_of_ble_eq_true rfl, Nat.le_of_ble_eq_true rfl⟩) hS (fun q _ h => h) (fun q h => h) (fun r_12 u_12 t9 H1 locs1 ht9 hvm9 hw_12 hBw hz9 hk9 hS => ?_)
  obtain ⟨hP, hD⟩ := hBw
  rw [ht9] at hP
  generalize H1 = H at hP hS ⊢
  generalize locs1 = locs at hS ⊢
  replace hP : va_P D vwCl (WM bd cI 0 c hid g code ans dbt u_12.1 u_12.2.1 heap u_12.2.2.1 u_12.2.2.2 wr) H := hP
  replace hD : va_D A (WM bd cI 0 c hid g code ans dbt u_12.1 u_12.2.1 heap u_12.2.2.1 u_12.2.2.2 wr) := hD
  refine x_ti (y := nI (cN (opS c g code ans dbt) 81)) (hw_12.1) ?_
  refine lv_iconst (v := 1) hx hb dX2_possible_15 (by decide) ?_
  refine lv_isub hx hb dX2_possible_16  ?_
  refine x_ti (y := nI (cN (opS c g code ans dbt) 81) - 1) (rfl) ?_
  refine x_csi (va_runS (As := [.int (v), .int (nI (0)), .int (nI (cN (opS c g code ans dbt) 81) - 1)]) (rest := []) ⟨hx, hb, hml, hown, hts⟩ (c_X2_isIn l D cI cZ cG cJ A (WM bd cI 0 c hid g code ans dbt u_12.1 u_12.2.1 heap u_12.2.2.1 u_12.2.2.2 wr) v (nI (0)) (nI (cN (opS c g code ans dbt) 81) - 1) ) (va_cwS 3 hts gX2_possible_X2_isIn rfl rfl rfl (by decide +kernel) ⟨Nat.le_of_ble_eq_true rfl, Nat.le_of_ble_eq_true rfl⟩) (preS hB hS hP hD) rfl rfl hl.1 rfl (lv_room (Nat.le_of_ble_eq_true rfl)) dX2_possible_17 ⟨Nat.le_of_ble_eq_true rfl, Nat.le_of_ble_eq_true rfl⟩) ?_
  refine x_ti (y := bI (rgC (cN (opS c g code ans dbt) 81) v)) (by have := cN_le (opS c g code ans dbt) 81; rw [in_gs (by omega)]) ?_
  refine x_zeq (tgt := 32) hx hb dX2_possible_20 (by decide) (fun c20 => ?_) (fun c20 => ?_)
  · skip
    refine lv_aload_n hx hb dX2_possible_32 rfl (lv_at hl 0 rfl) ?_
    refine lv_iconst (v := nI (1)) hx hb dX2_possible_33 (by decide) ?_
    refine va_calli (va_runV (As := [.int (nI (1))]) (rest := []) ⟨hx, hb, hml, hown, hts⟩ (c_X2_no l D cI cZ cG cJ A bd wr 0 c hid g code ans dbt u_12.1 u_12.2.1 heap u_12.2.2.1 u_12.2.2.2 1 ) (cwV 1 hts gX2_possible_X2_no rfl rfl rfl (by decide +kernel) ⟨Nat.le_of_ble_eq_true rfl, Nat.le_of_ble_eq_true rfl⟩) (preV (ci := 2) (q0 := 0) hB hS hP hD rfl rfl) rfl rfl hl.1 rfl (lv_room (Nat.le_of_ble_eq_true rfl)) dX2_possible_34 ⟨Nat.le_of_ble_eq_true rfl, Nat.le_of_ble_eq_true rfl⟩) hS (fun q _ h => h) (fun q h => h) (fun r_34 u_34 t9 H1 locs1 ht9 hvm9 hw_34 hBw hz9 hk9 hS => ?_)
    obtain ⟨hP, hD⟩ := hBw
    rw [ht9] at hP
    generalize H1 = H at hP hS ⊢
    generalize locs1 = locs at hS ⊢
    replace hP : va_P D vwCl (WM bd cI 1 c hid g code ans dbt u_12.1 u_12.2.1 heap u_12.2.2.1 u_12.2.2.2 wr) H := hP
    replace hD : va_D A (WM bd cI 1 c hid g code ans dbt u_12.1 u_12.2.1 heap u_12.2.2.1 u_12.2.2.2 wr) := hD
    refine x_ti (y := nI (0)) (hw_34.1) ?_
    exact W.iret (v := nI (0)) hx hb hr (fun t ht hW => ⟨⟨_, (1, (u_12.1, u_12.2.1, heap, u_12.2.2.1, u_12.2.2.2)), rfl, (by
        exact Or.inr ⟨rfl, memA_out c20⟩), ⟨by rw [ht]; exact hP, hD⟩⟩, hS.F ht⟩) hS.2.2 dX2_possible_37
  · skip
    obtain ⟨j, hj, rfl⟩ := rgC_of c20 (by have := cN_le (opS c g code ans dbt) 81; omega)
    have hj9 := cN_le (opS c g code ans dbt) 81
    obtain ⟨k, a1, a2, a3, a4⟩ := row_in hw_12.2 j (by rw [hw_12.2.1]; exact hj)
    refine lv_aload_n hx hb dX2_possible_23 rfl (lv_at hl 0 rfl) ?_
    refine va_get (D := D) (ci := 2) (v := .ref (bd 4)) (C := RX2) (T := TX2) (N := 12) hx hb hts hinX2 hown hK hP 0 rfl rfl 8 (by decide) lk26 (fun _ h9 => h9) rfl dX2_possible_24 ?_
    refine lv_iload_n hx hb dX2_possible_27 rfl (lv_at hl 1 rfl) ?_
    refine x_iald hx hb hK hP 4 0 rfl rfl (i := j) (by omega) (by omega) dX2_possible_28 ?_
    refine x_ti (y := nI (k)) (by rw [a4]) ?_
    refine lv_goto (tgt := 37) hx hb dX2_possible_29 (by decide) ?_
    exact W.iret (v := nI (k)) hx hb hr (fun t ht hW => ⟨⟨_, (0, (u_12.1, u_12.2.1, heap, u_12.2.2.1, u_12.2.2.2)), rfl, (by
        exact Or.inl ⟨rfl, by rw [memA_at a1 a2 a3]; exact nI_ne_m1 (by omega), by rw [memA_at a1 a2 a3]⟩), ⟨by rw [ht]; exact hP, hD⟩⟩, hS.F ht⟩) hS.2.2 dX2_possible_37

set_option maxHeartbeats 4000000 in
set_option maxRecDepth 100000 in
theorem c_X2_have (l : Launch) (D : va_G) (cI cZ cG cJ : ClassId) (A : Nat → Prop) (bd : Nat → Nat) (wr : va_W) (th : Nat) (c : Nat) (hid : Int32) (g : Nat) (code : Nat → Nat) (ans : Nat → Nat) (dbt : Nat → Bool) (many : Nat) (row : Nat → Nat) (heap : Nat → Nat) (our : Nat → Nat) (the : Nat → Nat) (p0 : Nat) (x0 : Nat) (sb : Nat → Bool) (hc : c = 2 ∨ c = 3) (hp : p0 < 4) (hx0 : x0 < c) (hR : RowS row many sb) (hsb : ∀ k, k < 81 → sb k = true → k < qq c) : Met l yX2_have wsX2_have ({ frames := 2, cells := 0, slots := 0, locals := 45 }) (va_Pc [.ref (bd 0), .int (nI (p0)), .int (nI (x0)), .int (nI (many))] (Iv D (TY cI cZ cG cJ) A (WM bd cI th c hid g code ans dbt many row heap our the wr))) (vp_Si (fun r => r = nI (hvN c sb p0 x0))) 0 0 (fun _ => False) := by
  refine Met.ofW (cc := cX2_have) (maxL := 6) (ret := (some .int)) (by decide) rfl ?_
  intro p e s m args below meth c9 s₁ B hml hv
  obtain ⟨rfl, hP, hD, hB⟩ := hv
  have hK := hB.1
  have hA := hB.2.1
  have hx := B.exec
  have hb := B.bytes
  have hr := B.returns
  have hts := atoms_spec (ws := wsX2_have) B.pre
  have hown : s.vm.findClass RX2 = some m.cls := findClass_of_methodNamed B.named
  have hlocks := B.notSynchronized
  have hS : va_S A s.heap s.heap [] := va_S.rf
  have hinX2 : ∀ w ∈ wsX20, w ∈ wsX2_have := by decide +kernel
  have lk26 := hts (.fieldLink RX2 26 "HiddenCandlesModel" "row" "[I") (by decide +kernel)
  have hl := lv_entry ([.ref (bd 0), .int (nI (p0)), .int (nI (x0)), .int (nI (many))]) (n := 6) (Nat.le_of_ble_eq_true rfl)
  rw [lg_entry_eq]
  generalize (lg_sl ([.ref (bd 0), .int (nI (p0)), .int (nI (x0)), .int (nI (many))]) ++ List.replicate (6 - (lg_sl ([.ref (bd 0), .int (nI (p0)), .int (nI (x0)), .int (nI (many))])).length) Slot.unset).toArray = ls at hl ⊢
  have hl : lv_has ls 6 [(0, .ref (bd 0)), (1, .int (nI (p0))), (2, .int (nI (x0))), (3, .int (nI (many)))] := hl
  have hq := qq_in hc
  have hm81 : many ≤ 81 := by rw [hR.1]; exact cN_le _ _
  have hrw : ∀ j, j < many → row j < qq c := fun j hj => by obtain ⟨k, a1, a2, a3, a4⟩ := row_in hR j hj; rw [a4]; exact hsb k a1 a2
  refine lv_iconst (v := nI (0)) hx hb dX2_have_0 (by decide) ?_
  refine lv_istore (lv' := [(4, .int (nI (0))), (0, .ref (bd 0)), (1, .int (nI (p0))), (2, .int (nI (x0))), (3, .int (nI (many)))]) hx hb dX2_have_1 hl (by decide) rfl (fun ls hl => ?_)
  refine lv_iconst (v := nI (0)) hx hb dX2_have_3 (by decide) ?_
  refine lv_istore (lv' := [(5, .int (nI (0))), (4, .int (nI (0))), (0, .ref (bd 0)), (1, .int (nI (p0))), (2, .int (nI (x0))), (3, .int (nI (many)))]) hx hb dX2_have_4 hl (by decide) rfl (fun ls hl => ?_)
  -- loop at 6
  have hinv : 0 ≤ many ∧ 0 = cN (fun z => decide (col c (row z) p0 = x0)) 0 := by
    exact ⟨Nat.zero_le _, rfl⟩
  obtain ⟨j, r, hq9⟩ : ∃ (j : Nat) (r : Nat), lv_has ls 6 [(0, .ref (bd 0)), (1, .int (nI (p0))), (2, .int (nI (x0))), (3, .int (nI (many))), (4, .int (nI (r))), (5, .int (nI (j)))] ∧ (j ≤ many ∧ r = cN (fun z => decide (col c (row z) p0 = x0)) j) := ⟨0, 0, lv_sub hl [2, 3, 4, 5, 1, 0] rfl, hinv⟩
  clear hl hinv
  obtain ⟨hl, hinv⟩ := hq9
  obtain ⟨n9_6, hn9⟩ : ∃ q : Nat, many - j < q := ⟨_, Nat.lt_succ_self _⟩
  induction n9_6 generalizing ls j r with
  | zero => exact absurd hn9 (Nat.not_lt_zero _)
  | succ n9_6 ih6 =>
    obtain ⟨h1, h2⟩ := hinv
    refine lv_iload hx hb dX2_have_6 (lv_at hl 5 rfl) ?_
    refine lv_iload_n hx hb dX2_have_8 rfl (lv_at hl 3 rfl) ?_
    refine x_ge (tgt := 44) hx hb dX2_have_9 (by decide) (by omega) (by omega) (fun c9 => ?_) (fun c9 => ?_)
    · skip
      refine lv_iload hx hb dX2_have_44 (lv_at hl 4 rfl) ?_
      exact W.iret (v := nI (r)) hx hb hr (fun t ht hW => ⟨_, rfl, (by
          have e9 : j = many := by omega
          rw [h2, e9, row_cN hR (fun z => decide (col c z p0 = x0))]; rfl), ht⟩) (fun _ h => nomatch h) dX2_have_46
    · skip
      refine lv_iload hx hb dX2_have_12 (lv_at hl 4 rfl) ?_
      refine lv_aload_n hx hb dX2_have_14 rfl (lv_at hl 0 rfl) ?_
      refine lv_aload_n hx hb dX2_have_15 rfl (lv_at hl 0 rfl) ?_
      refine va_get (D := D) (ci := 2) (v := .ref (bd 4)) (C := RX2) (T := TX2) (N := 12) hx hb hts hinX2 hown hK hP 0 rfl rfl 8 (by decide) lk26 (fun _ h9 => h9) rfl dX2_have_16 ?_
      refine lv_iload hx hb dX2_have_19 (lv_at hl 5 rfl) ?_
      refine x_iald hx hb hK hP 4 0 rfl rfl (i := j) (by omega) (by omega) dX2_have_21 ?_
      refine lv_iload_n hx hb dX2_have_22 rfl (lv_at hl 1 rfl) ?_
      refine x_csi (va_runV (As := [.int (nI (row j)), .int (nI (p0))]) (rest := [.int (nI (r))]) ⟨hx, hb, hml, hown, hts⟩ (c_X2_at l D cI cZ cG cJ A bd wr th c hid g code ans dbt many row heap our the (row j) p0 (hc) (hrw j c9) (hp)) (cwV 2 hts gX2_have_X2_at rfl rfl rfl (by decide +kernel) ⟨Nat.le_of_ble_eq_true rfl, Nat.le_of_ble_eq_true rfl⟩) (preV (ci := 2) (q0 := 0) hB va_S.rf hP hD rfl rfl) rfl rfl hl.1 rfl (lv_room (Nat.le_of_ble_eq_true rfl)) dX2_have_23 ⟨Nat.le_of_ble_eq_true rfl, Nat.le_of_ble_eq_true rfl⟩) ?_
      have hcl := col_lt hc (row j) (p0)
      refine lv_iload_n hx hb dX2_have_26 rfl (lv_at hl 2 rfl) ?_
      refine x_ne (tgt := 34) hx hb dX2_have_27 (by decide) (by omega) (by omega) (fun c27 => ?_) (fun c27 => ?_)
      · skip
        refine lv_iconst (v := nI (0)) hx hb dX2_have_34 (by decide) ?_
        refine lv_iadd hx hb dX2_have_35 ?_
        refine x_ti (nI_add _ _) ?_
        refine lv_istore (lv' := [(4, .int (nI (r + 0))), (0, .ref (bd 0)), (1, .int (nI (p0))), (2, .int (nI (x0))), (3, .int (nI (many))), (5, .int (nI (j)))]) hx hb dX2_have_36 hl (by decide) rfl (fun ls hl => ?_)
        refine lv_iinc (v := nI (j + 1)) (lv' := [(5, .int (nI (j + 1))), (4, .int (nI (r + 0))), (0, .ref (bd 0)), (1, .int (nI (p0))), (2, .int (nI (x0))), (3, .int (nI (many)))]) hx hb dX2_have_38 hl (k := 5) rfl (nI_add _ _) (by decide) rfl (fun ls hl => ?_)
        refine lv_goto (tgt := 6) hx hb dX2_have_41 (by decide) ?_
        exact ih6 (j := j + 1) (r := r + 0) (ls := ls) (hl := lv_sub hl [2, 3, 4, 5, 1, 0] rfl) (hinv := by
            refine ⟨by omega, ?_⟩
            first | exact (congrArg (· + 1) h2).trans (cN_s (p := fun z => decide (col c (row z) p0 = x0)) (decide_eq_true c27)).symm | exact h2.trans (cN_n (p := fun z => decide (col c (row z) p0 = x0)) (decide_eq_false c27)).symm
          ) (hn9 := by
            omega
          )
      · skip
        refine lv_iconst (v := nI (1)) hx hb dX2_have_30 (by decide) ?_
        refine lv_goto (tgt := 35) hx hb dX2_have_31 (by decide) ?_
        refine lv_iadd hx hb dX2_have_35 ?_
        refine x_ti (nI_add _ _) ?_
        refine lv_istore (lv' := [(4, .int (nI (r + 1))), (0, .ref (bd 0)), (1, .int (nI (p0))), (2, .int (nI (x0))), (3, .int (nI (many))), (5, .int (nI (j)))]) hx hb dX2_have_36 hl (by decide) rfl (fun ls hl => ?_)
        refine lv_iinc (v := nI (j + 1)) (lv' := [(5, .int (nI (j + 1))), (4, .int (nI (r + 1))), (0, .ref (bd 0)), (1, .int (nI (p0))), (2, .int (nI (x0))), (3, .int (nI (many)))]) hx hb dX2_have_38 hl (k := 5) rfl (nI_add _ _) (by decide) rfl (fun ls hl => ?_)
        refine lv_goto (tgt := 6) hx hb dX2_have_41 (by decide) ?_
        exact ih6 (j := j + 1) (r := r + 1) (ls := ls) (hl := lv_sub hl [2, 3, 4, 5, 1, 0] rfl) (hinv := by
            refine ⟨by omega, ?_⟩
            first | exact (congrArg (· + 1) h2).trans (cN_s (p := fun z => decide (col c (row z) p0 = x0)) (decide_eq_true c27)).symm | exact h2.trans (cN_n (p := fun z => decide (col c (row z) p0 = x0)) (decide_eq_false c27)).symm
          ) (hn9 := by
            omega
          )

set_option maxHeartbeats 4000000 in
set_option maxRecDepth 100000 in
theorem c_X2_have_ (l : Launch) (D : va_G) (cI cZ cG cJ : ClassId) (A : Nat → Prop) (bd : Nat → Nat) (wr : va_W) (th : Nat) (c : Nat) (hid : Int32) (g : Nat) (code : Nat → Nat) (ans : Nat → Nat) (dbt : Nat → Bool) (many : Nat) (row : Nat → Nat) (heap : Nat → Nat) (our : Nat → Nat) (the : Nat → Nat) (pl : Int32) (x : Int32) (hc : c = 2 ∨ c = 3) (hg : g ≤ 12) (hco : CodeOK c g code ans) : Met l yX2_have_ wsX2_have_ ({ frames := 5, cells := 0, slots := 0, locals := 115 }) (va_Pc [.ref (bd 0), .int (pl), .int (x)] (Iv D (TY cI cZ cG cJ) A (WM bd cI th c hid g code ans dbt many row heap our the wr))) (va_Qi (fun r (u : Nat × MSt) => (u.1 = 0 ∧ ∃ p0 x0 : Nat, p0 < 4 ∧ pl = nI p0 ∧ x0 < c ∧ x = nI x0 ∧ r = nI (hvN c (opS c g code ans dbt) p0 x0)) ∨ (u.1 = 1 ∧ (plC pl = false ∨ rgC c x = false))) (fun u => Wd D A (WM bd cI u.1 c hid g code ans dbt u.2.1 u.2.2.1 u.2.2.2.1 u.2.2.2.2.1 u.2.2.2.2.2 wr)) A) 0 0 A := by
  refine Met.ofW (cc := cX2_have_) (maxL := 3) (ret := (some .int)) (by decide) rfl ?_
  intro p e s m args below meth c9 s₁ B hml hv
  obtain ⟨rfl, hP, hD, hB⟩ := hv
  have hK := hB.1
  have hA := hB.2.1
  have hx := B.exec
  have hb := B.bytes
  have hr := B.returns
  have hts := atoms_spec (ws := wsX2_have_) B.pre
  have hown : s.vm.findClass RX2 = some m.cls := findClass_of_methodNamed B.named
  have hlocks := B.notSynchronized
  have hS : va_S A s.heap s.heap [] := va_S.rf
  have hinX2 : ∀ w ∈ wsX20, w ∈ wsX2_have_ := by decide +kernel
  have lk9 := hts (.fieldLink RX2 9 "HiddenCandlesModel" "colours" "I") (by decide +kernel)
  have lk38 := hts (.fieldLink RX2 38 "HiddenCandlesModel" "thrown" "I") (by decide +kernel)
  have lk49 := hts (.fieldLink RX2 49 "HiddenCandlesModel" "guesses" "I") (by decide +kernel)
  have hl := lv_entry ([.ref (bd 0), .int (pl), .int (x)]) (n := 3) (Nat.le_of_ble_eq_true rfl)
  rw [lg_entry_eq]
  generalize (lg_sl ([.ref (bd 0), .int (pl), .int (x)]) ++ List.replicate (3 - (lg_sl ([.ref (bd 0), .int (pl), .int (x)])).length) Slot.unset).toArray = ls at hl ⊢
  have hl : lv_has ls 3 [(0, .ref (bd 0)), (1, .int (pl)), (2, .int (x))] := hl
  obtain ⟨H, eH⟩ : ∃ q, q = s.heap := ⟨_, rfl⟩
  obtain ⟨locs, eL⟩ : ∃ q : List Loc, q = [] := ⟨_, rfl⟩
  replace hP : va_P D vwCl (WM bd cI th c hid g code ans dbt many row heap our the wr) H := by rw [eH]; exact hP
  replace hS : va_S A s.heap H locs := by rw [eH, eL]; exact hS
  rw [show W p l e _ s m _ below meth c9 s.heap [] = W p l e _ s m _ below meth c9 H locs from by rw [eH, eL]]
  clear eH eL
  have hq := qq_in hc
  refine lv_aload_n hx hb dX2_have__0 rfl (lv_at hl 0 rfl) ?_
  refine lv_iconst (v := nI (0)) hx hb dX2_have__1 (by decide) ?_
  refine va_put (D := D) (ci := 2) (v := .int (nI (0))) (ty := .int) (C := RX2) (T := TX2) (N := 12) hx hb hts hinX2 tyX2 tyX2_ok nmX2 hown hK hP hD hS 0 rfl rfl 0 (by decide) lk38 (fun _ h9 => h9) rfl (by decide +kernel) rfl rfl (Nat.le_of_ble_eq_true rfl) dX2_have__2 (fun H locs hP hD hS => ?_)
  replace hP : va_P D vwCl (WM bd cI 0 c hid g code ans dbt many row heap our the wr) H := hP
  replace hD : va_D A (WM bd cI 0 c hid g code ans dbt many row heap our the wr) := hD
  refine lv_iload_n hx hb dX2_have__5 rfl (lv_at hl 1 rfl) ?_
  refine x_csi (va_runS (As := [.int (pl)]) (rest := []) ⟨hx, hb, hml, hown, hts⟩ (c_X2_isPlace l D cI cZ cG cJ A (WM bd cI 0 c hid g code ans dbt many row heap our the wr) pl ) (va_cwS 1 hts gX2_have__X2_isPlace rfl rfl rfl (by decide +kernel) ⟨Nat.le_of_ble_eq_true rfl, Nat.le_of_ble_eq_true rfl⟩) (preS hB hS hP hD) rfl rfl hl.1 rfl (lv_room (Nat.le_of_ble_eq_true rfl)) dX2_have__6 ⟨Nat.le_of_ble_eq_true rfl, Nat.le_of_ble_eq_true rfl⟩) ?_
  refine x_zeq (tgt := 43) hx hb dX2_have__9 (by decide) (fun c9 => ?_) (fun c9 => ?_)
  · skip
    refine lv_aload_n hx hb dX2_have__43 rfl (lv_at hl 0 rfl) ?_
    refine lv_iconst (v := nI (1)) hx hb dX2_have__44 (by decide) ?_
    refine va_calli (va_runV (As := [.int (nI (1))]) (rest := []) ⟨hx, hb, hml, hown, hts⟩ (c_X2_no l D cI cZ cG cJ A bd wr 0 c hid g code ans dbt many row heap our the 1 ) (cwV 1 hts gX2_have__X2_no rfl rfl rfl (by decide +kernel) ⟨Nat.le_of_ble_eq_true rfl, Nat.le_of_ble_eq_true rfl⟩) (preV (ci := 2) (q0 := 0) hB hS hP hD rfl rfl) rfl rfl hl.1 rfl (lv_room (Nat.le_of_ble_eq_true rfl)) dX2_have__45 ⟨Nat.le_of_ble_eq_true rfl, Nat.le_of_ble_eq_true rfl⟩) hS (fun q _ h => h) (fun q h => h) (fun r_45 u_45 t9 H1 locs1 ht9 hvm9 hw_45 hBw hz9 hk9 hS => ?_)
    obtain ⟨hP, hD⟩ := hBw
    rw [ht9] at hP
    generalize H1 = H at hP hS ⊢
    generalize locs1 = locs at hS ⊢
    replace hP : va_P D vwCl (WM bd cI 1 c hid g code ans dbt many row heap our the wr) H := hP
    replace hD : va_D A (WM bd cI 1 c hid g code ans dbt many row heap our the wr) := hD
    refine x_ti (y := nI (0)) (hw_45.1) ?_
    exact W.iret (v := nI (0)) hx hb hr (fun t ht hW => ⟨⟨_, (1, (many, row, heap, our, the)), rfl, (by
        exact Or.inr ⟨rfl, by first | exact Or.inl c9 | exact Or.inr c23⟩), ⟨by rw [ht]; exact hP, hD⟩⟩, hS.F ht⟩) hS.2.2 dX2_have__48
  · skip
    refine lv_iload_n hx hb dX2_have__12 rfl (lv_at hl 2 rfl) ?_
    refine lv_iconst (v := nI (0)) hx hb dX2_have__13 (by decide) ?_
    refine lv_aload_n hx hb dX2_have__14 rfl (lv_at hl 0 rfl) ?_
    refine va_get (D := D) (ci := 2) (v := .int (nI (c))) (C := RX2) (T := TX2) (N := 12) hx hb hts hinX2 hown hK hP 0 rfl rfl 1 (by decide) lk9 (fun _ h9 => h9) rfl dX2_have__15 ?_
    refine lv_iconst (v := nI (1)) hx hb dX2_have__18 (by decide) ?_
    refine lv_isub hx hb dX2_have__19 ?_
    refine x_ti (pk_sub (by omega)) ?_
    refine x_csi (va_runS (As := [.int (x), .int (nI (0)), .int (nI (c - 1))]) (rest := []) ⟨hx, hb, hml, hown, hts⟩ (c_X2_isIn l D cI cZ cG cJ A (WM bd cI 0 c hid g code ans dbt many row heap our the wr) x (nI (0)) (nI (c - 1)) ) (va_cwS 3 hts gX2_have__X2_isIn rfl rfl rfl (by decide +kernel) ⟨Nat.le_of_ble_eq_true rfl, Nat.le_of_ble_eq_true rfl⟩) (preS hB hS hP hD) rfl rfl hl.1 rfl (lv_room (Nat.le_of_ble_eq_true rfl)) dX2_have__20 ⟨Nat.le_of_ble_eq_true rfl, Nat.le_of_ble_eq_true rfl⟩) ?_
    refine x_ti (y := bI (rgC c x)) (by rw [in_rg (n := c) (by omega) (by omega)]) ?_
    refine x_zeq (tgt := 43) hx hb dX2_have__23 (by decide) (fun c23 => ?_) (fun c23 => ?_)
    · skip
      refine lv_aload_n hx hb dX2_have__43 rfl (lv_at hl 0 rfl) ?_
      refine lv_iconst (v := nI (1)) hx hb dX2_have__44 (by decide) ?_
      refine va_calli (va_runV (As := [.int (nI (1))]) (rest := []) ⟨hx, hb, hml, hown, hts⟩ (c_X2_no l D cI cZ cG cJ A bd wr 0 c hid g code ans dbt many row heap our the 1 ) (cwV 1 hts gX2_have__X2_no rfl rfl rfl (by decide +kernel) ⟨Nat.le_of_ble_eq_true rfl, Nat.le_of_ble_eq_true rfl⟩) (preV (ci := 2) (q0 := 0) hB hS hP hD rfl rfl) rfl rfl hl.1 rfl (lv_room (Nat.le_of_ble_eq_true rfl)) dX2_have__45 ⟨Nat.le_of_ble_eq_true rfl, Nat.le_of_ble_eq_true rfl⟩) hS (fun q _ h => h) (fun q h => h) (fun r_45 u_45 t9 H1 locs1 ht9 hvm9 hw_45 hBw hz9 hk9 hS => ?_)
      obtain ⟨hP, hD⟩ := hBw
      rw [ht9] at hP
      generalize H1 = H at hP hS ⊢
      generalize locs1 = locs at hS ⊢
      replace hP : va_P D vwCl (WM bd cI 1 c hid g code ans dbt many row heap our the wr) H := hP
      replace hD : va_D A (WM bd cI 1 c hid g code ans dbt many row heap our the wr) := hD
      refine x_ti (y := nI (0)) (hw_45.1) ?_
      exact W.iret (v := nI (0)) hx hb hr (fun t ht hW => ⟨⟨_, (1, (many, row, heap, our, the)), rfl, (by
          exact Or.inr ⟨rfl, by first | exact Or.inl c9 | exact Or.inr c23⟩), ⟨by rw [ht]; exact hP, hD⟩⟩, hS.F ht⟩) hS.2.2 dX2_have__48
    · skip
      obtain ⟨p0, hp, rfl⟩ := plC_of c9
      obtain ⟨x0, hx0, rfl⟩ := rgC_of c23 (by omega)
      refine lv_aload_n hx hb dX2_have__26 rfl (lv_at hl 0 rfl) ?_
      refine lv_iload_n hx hb dX2_have__27 rfl (lv_at hl 1 rfl) ?_
      refine lv_iload_n hx hb dX2_have__28 rfl (lv_at hl 2 rfl) ?_
      refine lv_aload_n hx hb dX2_have__29 rfl (lv_at hl 0 rfl) ?_
      refine lv_aload_n hx hb dX2_have__30 rfl (lv_at hl 0 rfl) ?_
      refine va_get (D := D) (ci := 2) (v := .int (nI (g))) (C := RX2) (T := TX2) (N := 12) hx hb hts hinX2 hown hK hP 0 rfl rfl 3 (by decide) lk49 (fun _ h9 => h9) rfl dX2_have__31 ?_
      refine va_calli (va_runV (As := [.int (nI (g))]) (rest := [.int (nI (x0)), .int (nI (p0)), .ref (bd 0)]) ⟨hx, hb, hml, hown, hts⟩ (c_X2_look l D cI cZ cG cJ A bd wr 0 c hid g code ans dbt many row heap our the g (hc) (hg) (hco)) (cwV 1 hts gX2_have__X2_look rfl rfl rfl (by decide +kernel) ⟨Nat.le_of_ble_eq_true rfl, Nat.le_of_ble_eq_true rfl⟩) (preV (ci := 2) (q0 := 0) hB hS hP hD rfl rfl) rfl rfl hl.1 rfl (lv_room (Nat.le_of_ble_eq_true rfl)) dX2_have__34 ⟨Nat.le_of_ble_eq_true rfl, Nat.le_of_ble_eq_true rfl⟩) hS (fun q _ h => h) (fun q h => h) (fun r_34 u_34 t9 H1 locs1 ht9 hvm9 hw_34 hBw hz9 hk9 hS => ?_)
      obtain ⟨hP, hD⟩ := hBw
      rw [ht9] at hP
      generalize H1 = H at hP hS ⊢
      generalize locs1 = locs at hS ⊢
      replace hP : va_P D vwCl (WM bd cI 0 c hid g code ans dbt u_34.1 u_34.2.1 heap u_34.2.2.1 u_34.2.2.2 wr) H := hP
      replace hD : va_D A (WM bd cI 0 c hid g code ans dbt u_34.1 u_34.2.1 heap u_34.2.2.1 u_34.2.2.2 wr) := hD
      refine x_ti (y := nI (cN (opS c g code ans dbt) 81)) (hw_34.1) ?_
      refine x_ti (y := nI (u_34.1)) (by rw [hw_34.2.1]) ?_
      refine x_csi (va_runV (As := [.int (nI (p0)), .int (nI (x0)), .int (nI (u_34.1))]) (rest := []) ⟨hx, hb, hml, hown, hts⟩ (c_X2_have l D cI cZ cG cJ A bd wr 0 c hid g code ans dbt u_34.1 u_34.2.1 heap u_34.2.2.1 u_34.2.2.2 p0 x0 (opS c g code ans dbt) (hc) (hp) (hx0) (hw_34.2) (op_lt (fun _ _ => rfl))) (cwV 3 hts gX2_have__X2_have rfl rfl rfl (by decide +kernel) ⟨Nat.le_of_ble_eq_true rfl, Nat.le_of_ble_eq_true rfl⟩) (preV (ci := 2) (q0 := 0) hB hS hP hD rfl rfl) rfl rfl hl.1 rfl (lv_room (Nat.le_of_ble_eq_true rfl)) dX2_have__37 ⟨Nat.le_of_ble_eq_true rfl, Nat.le_of_ble_eq_true rfl⟩) ?_
      refine lv_goto (tgt := 48) hx hb dX2_have__40 (by decide) ?_
      exact W.iret (v := nI (hvN c (opS c g code ans dbt) p0 x0)) hx hb hr (fun t ht hW => ⟨⟨_, (0, (u_34.1, u_34.2.1, heap, u_34.2.2.1, u_34.2.2.2)), rfl, (by
          exact Or.inl ⟨rfl, p0, x0, hp, rfl, hx0, rfl, rfl⟩), ⟨by rw [ht]; exact hP, hD⟩⟩, hS.F ht⟩) hS.2.2 dX2_have__48

set_option maxHeartbeats 4000000 in
set_option maxRecDepth 100000 in
theorem c_X2_sureAt (l : Launch) (D : va_G) (cI cZ cG cJ : ClassId) (A : Nat → Prop) (bd : Nat → Nat) (wr : va_W) (th : Nat) (c : Nat) (hid : Int32) (g : Nat) (code : Nat → Nat) (ans : Nat → Nat) (dbt : Nat → Bool) (many : Nat) (row : Nat → Nat) (heap : Nat → Nat) (our : Nat → Nat) (the : Nat → Nat) (p0 : Nat) (hc : c = 2 ∨ c = 3) (hg : g ≤ 12) (hco : CodeOK c g code ans) (hp : p0 < 4) : Met l yX2_sureAt wsX2_sureAt ({ frames := 5, cells := 0, slots := 0, locals := 115 }) (va_Pc [.ref (bd 0), .int (nI (p0))] (Iv D (TY cI cZ cG cJ) A (WM bd cI th c hid g code ans dbt many row heap our the wr))) (va_Qi (fun r (u : MSt) => r = sureV c (opS c g code ans dbt) p0 c ∧ True) (fun u => Wd D A (WM bd cI th c hid g code ans dbt u.1 u.2.1 u.2.2.1 u.2.2.2.1 u.2.2.2.2 wr)) A) 0 0 A := by
  refine Met.ofW (cc := cX2_sureAt) (maxL := 3) (ret := (some .int)) (by decide) rfl ?_
  intro p e s m args below meth c9 s₁ B hml hv
  obtain ⟨rfl, hP, hD, hB⟩ := hv
  have hK := hB.1
  have hA := hB.2.1
  have hx := B.exec
  have hb := B.bytes
  have hr := B.returns
  have hts := atoms_spec (ws := wsX2_sureAt) B.pre
  have hown : s.vm.findClass RX2 = some m.cls := findClass_of_methodNamed B.named
  have hlocks := B.notSynchronized
  have hS : va_S A s.heap s.heap [] := va_S.rf
  have hinX2 : ∀ w ∈ wsX20, w ∈ wsX2_sureAt := by decide +kernel
  have lk9 := hts (.fieldLink RX2 9 "HiddenCandlesModel" "colours" "I") (by decide +kernel)
  have lk49 := hts (.fieldLink RX2 49 "HiddenCandlesModel" "guesses" "I") (by decide +kernel)
  have lk68 := hts (.fieldLink RX2 68 "HiddenCandlesModel" "many" "I") (by decide +kernel)
  have hl := lv_entry ([.ref (bd 0), .int (nI (p0))]) (n := 3) (Nat.le_of_ble_eq_true rfl)
  rw [lg_entry_eq]
  generalize (lg_sl ([.ref (bd 0), .int (nI (p0))]) ++ List.replicate (3 - (lg_sl ([.ref (bd 0), .int (nI (p0))])).length) Slot.unset).toArray = ls at hl ⊢
  have hl : lv_has ls 3 [(0, .ref (bd 0)), (1, .int (nI (p0)))] := hl
  obtain ⟨H, eH⟩ : ∃ q, q = s.heap := ⟨_, rfl⟩
  obtain ⟨locs, eL⟩ : ∃ q : List Loc, q = [] := ⟨_, rfl⟩
  replace hP : va_P D vwCl (WM bd cI th c hid g code ans dbt many row heap our the wr) H := by rw [eH]; exact hP
  replace hS : va_S A s.heap H locs := by rw [eH, eL]; exact hS
  rw [show W p l e _ s m _ below meth c9 s.heap [] = W p l e _ s m _ below meth c9 H locs from by rw [eH, eL]]
  clear eH eL
  have hq := qq_in hc
  refine lv_aload_n hx hb dX2_sureAt_0 rfl (lv_at hl 0 rfl) ?_
  refine lv_aload_n hx hb dX2_sureAt_1 rfl (lv_at hl 0 rfl) ?_
  refine va_get (D := D) (ci := 2) (v := .int (nI (g))) (C := RX2) (T := TX2) (N := 12) hx hb hts hinX2 hown hK hP 0 rfl rfl 3 (by decide) lk49 (fun _ h9 => h9) rfl dX2_sureAt_2 ?_
  refine va_calli (va_runV (As := [.int (nI (g))]) (rest := []) ⟨hx, hb, hml, hown, hts⟩ (c_X2_look l D cI cZ cG cJ A bd wr th c hid g code ans dbt many row heap our the g (hc) (hg) (hco)) (cwV 1 hts gX2_sureAt_X2_look rfl rfl rfl (by decide +kernel) ⟨Nat.le_of_ble_eq_true rfl, Nat.le_of_ble_eq_true rfl⟩) (preV (ci := 2) (q0 := 0) hB hS hP hD rfl rfl) rfl rfl hl.1 rfl (lv_room (Nat.le_of_ble_eq_true rfl)) dX2_sureAt_5 ⟨Nat.le_of_ble_eq_true rfl, Nat.le_of_ble_eq_true rfl⟩) hS (fun q _ h => h) (fun q h => h) (fun r_5 u_5 t9 H1 locs1 ht9 hvm9 hw_5 hBw hz9 hk9 hS => ?_)
  obtain ⟨hP, hD⟩ := hBw
  rw [ht9] at hP
  generalize H1 = H at hP hS ⊢
  generalize locs1 = locs at hS ⊢
  replace hP : va_P D vwCl (WM bd cI th c hid g code ans dbt u_5.1 u_5.2.1 heap u_5.2.2.1 u_5.2.2.2 wr) H := hP
  replace hD : va_D A (WM bd cI th c hid g code ans dbt u_5.1 u_5.2.1 heap u_5.2.2.1 u_5.2.2.2 wr) := hD
  refine x_ti (y := nI (cN (opS c g code ans dbt) 81)) (hw_5.1) ?_
  refine lv_pop hx hb dX2_sureAt_8 rfl ?_
  have hz := hw_5.2.1; have hz81 := cN_le (opS c g code ans dbt) 81
  refine lv_iconst (v := nI (0)) hx hb dX2_sureAt_9 (by decide) ?_
  refine lv_istore_n (lv' := [(2, .int (nI (0))), (0, .ref (bd 0)), (1, .int (nI (p0)))]) hx hb dX2_sureAt_10 rfl hl (by decide) rfl (fun ls hl => ?_)
  -- loop at 11
  have hinv : 0 ≤ c ∧ ∀ y, y < 0 → ¬ (0 < cN (opS c g code ans dbt) 81 ∧ hvN c (opS c g code ans dbt) p0 y = cN (opS c g code ans dbt) 81) := by
    exact ⟨Nat.zero_le _, fun y hy => absurd hy (Nat.not_lt_zero _)⟩
  obtain ⟨x, hq9⟩ : ∃ (x : Nat), lv_has ls 3 [(0, .ref (bd 0)), (1, .int (nI (p0))), (2, .int (nI (x)))] ∧ (x ≤ c ∧ ∀ y, y < x → ¬ (0 < cN (opS c g code ans dbt) 81 ∧ hvN c (opS c g code ans dbt) p0 y = cN (opS c g code ans dbt) 81)) ∧ va_P D vwCl (WM bd cI th c hid g code ans dbt u_5.1 u_5.2.1 heap u_5.2.2.1 u_5.2.2.2 wr) H ∧ va_D A (WM bd cI th c hid g code ans dbt u_5.1 u_5.2.1 heap u_5.2.2.1 u_5.2.2.2 wr) := ⟨0, lv_sub hl [1, 2, 0] rfl, hinv, hP, hD⟩
  clear hl hinv hP hD
  obtain ⟨hl, hinv, hP, hD⟩ := hq9
  obtain ⟨n9_11, hn9⟩ : ∃ q : Nat, c - x < q := ⟨_, Nat.lt_succ_self _⟩
  induction n9_11 generalizing ls H locs x with
  | zero => exact absurd hn9 (Nat.not_lt_zero _)
  | succ n9_11 ih11 =>
    obtain ⟨h1, h2⟩ := hinv
    refine lv_iload_n hx hb dX2_sureAt_11 rfl (lv_at hl 2 rfl) ?_
    refine lv_aload_n hx hb dX2_sureAt_12 rfl (lv_at hl 0 rfl) ?_
    refine va_get (D := D) (ci := 2) (v := .int (nI (c))) (C := RX2) (T := TX2) (N := 12) hx hb hts hinX2 hown hK hP 0 rfl rfl 1 (by decide) lk9 (fun _ h9 => h9) rfl dX2_sureAt_13 ?_
    refine x_ge (tgt := 51) hx hb dX2_sureAt_16 (by decide) (by omega) (by omega) (fun c16 => ?_) (fun c16 => ?_)
    · skip
      refine lv_iconst (v := (-1)) hx hb dX2_sureAt_51 (by decide) ?_
      exact W.iret (v := (-1)) hx hb hr (fun t ht hW => ⟨⟨_, (u_5.1, u_5.2.1, heap, u_5.2.2.1, u_5.2.2.2), rfl, (by
          have e9 : x = c := by omega
          subst e9
          exact ⟨(sure_none _ h2).symm, trivial⟩), ⟨by rw [ht]; exact hP, hD⟩⟩, hS.F ht⟩) hS.2.2 dX2_sureAt_52
    · skip
      refine lv_aload_n hx hb dX2_sureAt_19 rfl (lv_at hl 0 rfl) ?_
      refine va_get (D := D) (ci := 2) (v := .int (nI (u_5.1))) (C := RX2) (T := TX2) (N := 12) hx hb hts hinX2 hown hK hP 0 rfl rfl 7 (by decide) lk68 (fun _ h9 => h9) rfl dX2_sureAt_20 ?_
      refine x_le0 (tgt := 45) hx hb dX2_sureAt_23 (by decide) (by omega) (fun c23 => ?_) (fun c23 => ?_)
      · skip
        refine lv_iinc (v := nI (x + 1)) (lv' := [(2, .int (nI (x + 1))), (0, .ref (bd 0)), (1, .int (nI (p0)))]) hx hb dX2_sureAt_45 hl (k := 2) rfl (nI_add _ _) (by decide) rfl (fun ls hl => ?_)
        refine lv_goto (tgt := 11) hx hb dX2_sureAt_48 (by decide) ?_
        exact ih11 (x := x + 1) (ls := ls) (hl := lv_sub hl [1, 2, 0] rfl) (H := H) (locs := locs) (hP := hP) (hS := hS) (hinv := by
            refine ⟨by omega, no_up2 h2 ?_⟩
            rw [← hz]
            first | exact fun q => c40 q.2 | exact fun q => by omega
          ) (hn9 := by
            omega
          )
      · skip
        refine lv_aload_n hx hb dX2_sureAt_26 rfl (lv_at hl 0 rfl) ?_
        refine lv_iload_n hx hb dX2_sureAt_27 rfl (lv_at hl 1 rfl) ?_
        refine lv_iload_n hx hb dX2_sureAt_28 rfl (lv_at hl 2 rfl) ?_
        refine lv_aload_n hx hb dX2_sureAt_29 rfl (lv_at hl 0 rfl) ?_
        refine va_get (D := D) (ci := 2) (v := .int (nI (u_5.1))) (C := RX2) (T := TX2) (N := 12) hx hb hts hinX2 hown hK hP 0 rfl rfl 7 (by decide) lk68 (fun _ h9 => h9) rfl dX2_sureAt_30 ?_
        refine x_csi (va_runV (As := [.int (nI (p0)), .int (nI (x)), .int (nI (u_5.1))]) (rest := []) ⟨hx, hb, hml, hown, hts⟩ (c_X2_have l D cI cZ cG cJ A bd wr th c hid g code ans dbt u_5.1 u_5.2.1 heap u_5.2.2.1 u_5.2.2.2 p0 x (opS c g code ans dbt) (hc) (hp) ((by omega)) (hw_5.2) (op_lt (fun _ _ => rfl))) (cwV 3 hts gX2_sureAt_X2_have rfl rfl rfl (by decide +kernel) ⟨Nat.le_of_ble_eq_true rfl, Nat.le_of_ble_eq_true rfl⟩) (preV (ci := 2) (q0 := 0) hB hS hP hD rfl rfl) rfl rfl hl.1 rfl (lv_room (Nat.le_of_ble_eq_true rfl)) dX2_sureAt_33 ⟨Nat.le_of_ble_eq_true rfl, Nat.le_of_ble_eq_true rfl⟩) ?_
        have hhv := hvN_le c (opS c g code ans dbt) p0 x
        refine lv_aload_n hx hb dX2_sureAt_36 rfl (lv_at hl 0 rfl) ?_
        refine va_get (D := D) (ci := 2) (v := .int (nI (u_5.1))) (C := RX2) (T := TX2) (N := 12) hx hb hts hinX2 hown hK hP 0 rfl rfl 7 (by decide) lk68 (fun _ h9 => h9) rfl dX2_sureAt_37 ?_
        refine x_ne (tgt := 45) hx hb dX2_sureAt_40 (by decide) (by omega) (by omega) (fun c40 => ?_) (fun c40 => ?_)
        · skip
          refine lv_iinc (v := nI (x + 1)) (lv' := [(2, .int (nI (x + 1))), (0, .ref (bd 0)), (1, .int (nI (p0)))]) hx hb dX2_sureAt_45 hl (k := 2) rfl (nI_add _ _) (by decide) rfl (fun ls hl => ?_)
          refine lv_goto (tgt := 11) hx hb dX2_sureAt_48 (by decide) ?_
          exact ih11 (x := x + 1) (ls := ls) (hl := lv_sub hl [1, 2, 0] rfl) (H := H) (locs := locs) (hP := hP) (hS := hS) (hinv := by
              refine ⟨by omega, no_up2 h2 ?_⟩
              rw [← hz]
              first | exact fun q => c40 q.2 | exact fun q => by omega
            ) (hn9 := by
              omega
            )
        · skip
          refine lv_iload_n hx hb dX2_sureAt_43 rfl (lv_at hl 2 rfl) ?_
          exact W.iret (v := nI (x)) hx hb hr (fun t ht hW => ⟨⟨_, (u_5.1, u_5.2.1, heap, u_5.2.2.1, u_5.2.2.2), rfl, (by
              exact ⟨(sure_some c c16 (by omega) (by rw [← hz]; exact c40) (fun y hy q => h2 y hy ⟨by omega, q⟩) (by omega)).symm, trivial⟩), ⟨by rw [ht]; exact hP, hD⟩⟩, hS.F ht⟩) hS.2.2 dX2_sureAt_44

set_option maxHeartbeats 4000000 in
set_option maxRecDepth 100000 in
theorem c_X2_sure (l : Launch) (D : va_G) (cI cZ cG cJ : ClassId) (A : Nat → Prop) (bd : Nat → Nat) (wr : va_W) (th : Nat) (c : Nat) (hid : Int32) (g : Nat) (code : Nat → Nat) (ans : Nat → Nat) (dbt : Nat → Bool) (many : Nat) (row : Nat → Nat) (heap : Nat → Nat) (our : Nat → Nat) (the : Nat → Nat) (pl : Int32) (hc : c = 2 ∨ c = 3) (hg : g ≤ 12) (hco : CodeOK c g code ans) : Met l yX2_sure wsX2_sure ({ frames := 6, cells := 0, slots := 0, locals := 137 }) (va_Pc [.ref (bd 0), .int (pl)] (Iv D (TY cI cZ cG cJ) A (WM bd cI th c hid g code ans dbt many row heap our the wr))) (va_Qi (fun r (u : Nat × MSt) => (u.1 = 0 ∧ ∃ p0 : Nat, p0 < 4 ∧ pl = nI p0 ∧ r = sureV c (opS c g code ans dbt) p0 c) ∨ (u.1 = 1 ∧ plC pl = false)) (fun u => Wd D A (WM bd cI u.1 c hid g code ans dbt u.2.1 u.2.2.1 u.2.2.2.1 u.2.2.2.2.1 u.2.2.2.2.2 wr)) A) 0 0 A := by
  refine Met.ofW (cc := cX2_sure) (maxL := 2) (ret := (some .int)) (by decide) rfl ?_
  intro p e s m args below meth c9 s₁ B hml hv
  obtain ⟨rfl, hP, hD, hB⟩ := hv
  have hK := hB.1
  have hA := hB.2.1
  have hx := B.exec
  have hb := B.bytes
  have hr := B.returns
  have hts := atoms_spec (ws := wsX2_sure) B.pre
  have hown : s.vm.findClass RX2 = some m.cls := findClass_of_methodNamed B.named
  have hlocks := B.notSynchronized
  have hS : va_S A s.heap s.heap [] := va_S.rf
  have hinX2 : ∀ w ∈ wsX20, w ∈ wsX2_sure := by decide +kernel
  have lk38 := hts (.fieldLink RX2 38 "HiddenCandlesModel" "thrown" "I") (by decide +kernel)
  have hl := lv_entry ([.ref (bd 0), .int (pl)]) (n := 2) (Nat.le_of_ble_eq_true rfl)
  rw [lg_entry_eq]
  generalize (lg_sl ([.ref (bd 0), .int (pl)]) ++ List.replicate (2 - (lg_sl ([.ref (bd 0), .int (pl)])).length) Slot.unset).toArray = ls at hl ⊢
  have hl : lv_has ls 2 [(0, .ref (bd 0)), (1, .int (pl))] := hl
  obtain ⟨H, eH⟩ : ∃ q, q = s.heap := ⟨_, rfl⟩
  obtain ⟨locs, eL⟩ : ∃ q : List Loc, q = [] := ⟨_, rfl⟩
  replace hP : va_P D vwCl (WM bd cI th c hid g code ans dbt many row heap our the wr) H := by rw [eH]; exact hP
  replace hS : va_S A s.heap H locs := by rw [eH, eL]; exact hS
  rw [show W p l e _ s m _ below meth c9 s.heap [] = W p l e _ s m _ below meth c9 H locs from by rw [eH, eL]]
  clear eH eL
  have hq := qq_in hc
  refine lv_aload_n hx hb dX2_sure_0 rfl (lv_at hl 0 rfl) ?_
  refine lv_iconst (v := nI (0)) hx hb dX2_sure_1 (by decide) ?_
  refine va_put (D := D) (ci := 2) (v := .int (nI (0))) (ty := .int) (C := RX2) (T := TX2) (N := 12) hx hb hts hinX2 tyX2 tyX2_ok nmX2 hown hK hP hD hS 0 rfl rfl 0 (by decide) lk38 (fun _ h9 => h9) rfl (by decide +kernel) rfl rfl (Nat.le_of_ble_eq_true rfl) dX2_sure_2 (fun H locs hP hD hS => ?_)
  replace hP : va_P D vwCl (WM bd cI 0 c hid g code ans dbt many row heap our the wr) H := hP
  replace hD : va_D A (WM bd cI 0 c hid g code ans dbt many row heap our the wr) := hD
  refine lv_iload_n hx hb dX2_sure_5 rfl (lv_at hl 1 rfl) ?_
  refine x_csi (va_runS (As := [.int (pl)]) (rest := []) ⟨hx, hb, hml, hown, hts⟩ (c_X2_isPlace l D cI cZ cG cJ A (WM bd cI 0 c hid g code ans dbt many row heap our the wr) pl ) (va_cwS 1 hts gX2_sure_X2_isPlace rfl rfl rfl (by decide +kernel) ⟨Nat.le_of_ble_eq_true rfl, Nat.le_of_ble_eq_true rfl⟩) (preS hB hS hP hD) rfl rfl hl.1 rfl (lv_room (Nat.le_of_ble_eq_true rfl)) dX2_sure_6 ⟨Nat.le_of_ble_eq_true rfl, Nat.le_of_ble_eq_true rfl⟩) ?_
  refine x_zeq (tgt := 20) hx hb dX2_sure_9 (by decide) (fun c9 => ?_) (fun c9 => ?_)
  · skip
    refine lv_aload_n hx hb dX2_sure_20 rfl (lv_at hl 0 rfl) ?_
    refine lv_iconst (v := nI (1)) hx hb dX2_sure_21 (by decide) ?_
    refine va_calli (va_runV (As := [.int (nI (1))]) (rest := []) ⟨hx, hb, hml, hown, hts⟩ (c_X2_no l D cI cZ cG cJ A bd wr 0 c hid g code ans dbt many row heap our the 1 ) (cwV 1 hts gX2_sure_X2_no rfl rfl rfl (by decide +kernel) ⟨Nat.le_of_ble_eq_true rfl, Nat.le_of_ble_eq_true rfl⟩) (preV (ci := 2) (q0 := 0) hB hS hP hD rfl rfl) rfl rfl hl.1 rfl (lv_room (Nat.le_of_ble_eq_true rfl)) dX2_sure_22 ⟨Nat.le_of_ble_eq_true rfl, Nat.le_of_ble_eq_true rfl⟩) hS (fun q _ h => h) (fun q h => h) (fun r_22 u_22 t9 H1 locs1 ht9 hvm9 hw_22 hBw hz9 hk9 hS => ?_)
    obtain ⟨hP, hD⟩ := hBw
    rw [ht9] at hP
    generalize H1 = H at hP hS ⊢
    generalize locs1 = locs at hS ⊢
    replace hP : va_P D vwCl (WM bd cI 1 c hid g code ans dbt many row heap our the wr) H := hP
    replace hD : va_D A (WM bd cI 1 c hid g code ans dbt many row heap our the wr) := hD
    refine x_ti (y := nI (0)) (hw_22.1) ?_
    exact W.iret (v := nI (0)) hx hb hr (fun t ht hW => ⟨⟨_, (1, (many, row, heap, our, the)), rfl, (by
        exact Or.inr ⟨rfl, c9⟩), ⟨by rw [ht]; exact hP, hD⟩⟩, hS.F ht⟩) hS.2.2 dX2_sure_25
  · skip
    obtain ⟨p0, hp, rfl⟩ := plC_of c9
    refine lv_aload_n hx hb dX2_sure_12 rfl (lv_at hl 0 rfl) ?_
    refine lv_iload_n hx hb dX2_sure_13 rfl (lv_at hl 1 rfl) ?_
    refine va_calli (va_runV (As := [.int (nI (p0))]) (rest := []) ⟨hx, hb, hml, hown, hts⟩ (c_X2_sureAt l D cI cZ cG cJ A bd wr 0 c hid g code ans dbt many row heap our the p0 (hc) (hg) (hco) (hp)) (cwV 1 hts gX2_sure_X2_sureAt rfl rfl rfl (by decide +kernel) ⟨Nat.le_of_ble_eq_true rfl, Nat.le_of_ble_eq_true rfl⟩) (preV (ci := 2) (q0 := 0) hB hS hP hD rfl rfl) rfl rfl hl.1 rfl (lv_room (Nat.le_of_ble_eq_true rfl)) dX2_sure_14 ⟨Nat.le_of_ble_eq_true rfl, Nat.le_of_ble_eq_true rfl⟩) hS (fun q _ h => h) (fun q h => h) (fun r_14 u_14 t9 H1 locs1 ht9 hvm9 hw_14 hBw hz9 hk9 hS => ?_)
    obtain ⟨hP, hD⟩ := hBw
    rw [ht9] at hP
    generalize H1 = H at hP hS ⊢
    generalize locs1 = locs at hS ⊢
    replace hP : va_P D vwCl (WM bd cI 0 c hid g code ans dbt u_14.1 u_14.2.1 u_14.2.2.1 u_14.2.2.2.1 u_14.2.2.2.2 wr) H := hP
    replace hD : va_D A (WM bd cI 0 c hid g code ans dbt u_14.1 u_14.2.1 u_14.2.2.1 u_14.2.2.2.1 u_14.2.2.2.2 wr) := hD
    refine x_ti (y := sureV c (opS c g code ans dbt) p0 c) (hw_14.1) ?_
    refine lv_goto (tgt := 25) hx hb dX2_sure_17 (by decide) ?_
    exact W.iret (v := sureV c (opS c g code ans dbt) p0 c) hx hb hr (fun t ht hW => ⟨⟨_, (0, (u_14.1, u_14.2.1, u_14.2.2.1, u_14.2.2.2.1, u_14.2.2.2.2)), rfl, (by
        exact Or.inl ⟨rfl, p0, hp, rfl, rfl⟩), ⟨by rw [ht]; exact hP, hD⟩⟩, hS.F ht⟩) hS.2.2 dX2_sure_25

set_option maxHeartbeats 4000000 in
set_option maxRecDepth 100000 in
theorem c_X2_worst (l : Launch) (D : va_G) (cI cZ cG cJ : ClassId) (A : Nat → Prop) (bd : Nat → Nat) (wr : va_W) (th : Nat) (c : Nat) (hid : Int32) (g : Nat) (code : Nat → Nat) (ans : Nat → Nat) (dbt : Nat → Bool) (many : Nat) (row : Nat → Nat) (heap : Nat → Nat) (our : Nat → Nat) (the : Nat → Nat) (v : Int32) (hc : c = 2 ∨ c = 3) (hg : g ≤ 12) (hco : CodeOK c g code ans) : Met l yX2_worst wsX2_worst ({ frames := 5, cells := 0, slots := 0, locals := 118 }) (va_Pc [.ref (bd 0), .int (v)] (Iv D (TY cI cZ cG cJ) A (WM bd cI th c hid g code ans dbt many row heap our the wr))) (va_Qi (fun r (u : Nat × MSt) => (u.1 = 0 ∧ ∃ k : Nat, k < qq c ∧ v = nI k ∧ r = nI (gh c k (opS c g code ans dbt))) ∨ (u.1 = 1 ∧ hasC c v = false)) (fun u => Wd D A (WM bd cI u.1 c hid g code ans dbt u.2.1 u.2.2.1 u.2.2.2.1 u.2.2.2.2.1 u.2.2.2.2.2 wr)) A) 0 0 A := by
  refine Met.ofW (cc := cX2_worst) (maxL := 2) (ret := (some .int)) (by decide) rfl ?_
  intro p e s m args below meth c9 s₁ B hml hv
  obtain ⟨rfl, hP, hD, hB⟩ := hv
  have hK := hB.1
  have hA := hB.2.1
  have hx := B.exec
  have hb := B.bytes
  have hr := B.returns
  have hts := atoms_spec (ws := wsX2_worst) B.pre
  have hown : s.vm.findClass RX2 = some m.cls := findClass_of_methodNamed B.named
  have hlocks := B.notSynchronized
  have hS : va_S A s.heap s.heap [] := va_S.rf
  have hinX2 : ∀ w ∈ wsX20, w ∈ wsX2_worst := by decide +kernel
  have lk38 := hts (.fieldLink RX2 38 "HiddenCandlesModel" "thrown" "I") (by decide +kernel)
  have lk49 := hts (.fieldLink RX2 49 "HiddenCandlesModel" "guesses" "I") (by decide +kernel)
  have hl := lv_entry ([.ref (bd 0), .int (v)]) (n := 2) (Nat.le_of_ble_eq_true rfl)
  rw [lg_entry_eq]
  generalize (lg_sl ([.ref (bd 0), .int (v)]) ++ List.replicate (2 - (lg_sl ([.ref (bd 0), .int (v)])).length) Slot.unset).toArray = ls at hl ⊢
  have hl : lv_has ls 2 [(0, .ref (bd 0)), (1, .int (v))] := hl
  obtain ⟨H, eH⟩ : ∃ q, q = s.heap := ⟨_, rfl⟩
  obtain ⟨locs, eL⟩ : ∃ q : List Loc, q = [] := ⟨_, rfl⟩
  replace hP : va_P D vwCl (WM bd cI th c hid g code ans dbt many row heap our the wr) H := by rw [eH]; exact hP
  replace hS : va_S A s.heap H locs := by rw [eH, eL]; exact hS
  rw [show W p l e _ s m _ below meth c9 s.heap [] = W p l e _ s m _ below meth c9 H locs from by rw [eH, eL]]
  clear eH eL
  have hq := qq_in hc
  refine lv_aload_n hx hb dX2_worst_0 rfl (lv_at hl 0 rfl) ?_
  refine lv_iconst (v := nI (0)) hx hb dX2_worst_1 (by decide) ?_
  refine va_put (D := D) (ci := 2) (v := .int (nI (0))) (ty := .int) (C := RX2) (T := TX2) (N := 12) hx hb hts hinX2 tyX2 tyX2_ok nmX2 hown hK hP hD hS 0 rfl rfl 0 (by decide) lk38 (fun _ h9 => h9) rfl (by decide +kernel) rfl rfl (Nat.le_of_ble_eq_true rfl) dX2_worst_2 (fun H locs hP hD hS => ?_)
  replace hP : va_P D vwCl (WM bd cI 0 c hid g code ans dbt many row heap our the wr) H := hP
  replace hD : va_D A (WM bd cI 0 c hid g code ans dbt many row heap our the wr) := hD
  refine lv_aload_n hx hb dX2_worst_5 rfl (lv_at hl 0 rfl) ?_
  refine lv_iload_n hx hb dX2_worst_6 rfl (lv_at hl 1 rfl) ?_
  refine x_csi (va_runV (As := [.int (v)]) (rest := []) ⟨hx, hb, hml, hown, hts⟩ (c_X2_isCode l D cI cZ cG cJ A bd wr 0 c hid g code ans dbt many row heap our the v (hc)) (cwV 1 hts gX2_worst_X2_isCode rfl rfl rfl (by decide +kernel) ⟨Nat.le_of_ble_eq_true rfl, Nat.le_of_ble_eq_true rfl⟩) (preV (ci := 2) (q0 := 0) hB hS hP hD rfl rfl) rfl rfl hl.1 rfl (lv_room (Nat.le_of_ble_eq_true rfl)) dX2_worst_7 ⟨Nat.le_of_ble_eq_true rfl, Nat.le_of_ble_eq_true rfl⟩) ?_
  refine x_zne (tgt := 19) hx hb dX2_worst_10 (by decide) (fun c10 => ?_) (fun c10 => ?_)
  · skip
    refine lv_aload_n hx hb dX2_worst_19 rfl (lv_at hl 0 rfl) ?_
    refine lv_aload_n hx hb dX2_worst_20 rfl (lv_at hl 0 rfl) ?_
    refine va_get (D := D) (ci := 2) (v := .int (nI (g))) (C := RX2) (T := TX2) (N := 12) hx hb hts hinX2 hown hK hP 0 rfl rfl 3 (by decide) lk49 (fun _ h9 => h9) rfl dX2_worst_21 ?_
    refine va_calli (va_runV (As := [.int (nI (g))]) (rest := []) ⟨hx, hb, hml, hown, hts⟩ (c_X2_look l D cI cZ cG cJ A bd wr 0 c hid g code ans dbt many row heap our the g (hc) (hg) (hco)) (cwV 1 hts gX2_worst_X2_look rfl rfl rfl (by decide +kernel) ⟨Nat.le_of_ble_eq_true rfl, Nat.le_of_ble_eq_true rfl⟩) (preV (ci := 2) (q0 := 0) hB hS hP hD rfl rfl) rfl rfl hl.1 rfl (lv_room (Nat.le_of_ble_eq_true rfl)) dX2_worst_24 ⟨Nat.le_of_ble_eq_true rfl, Nat.le_of_ble_eq_true rfl⟩) hS (fun q _ h => h) (fun q h => h) (fun r_24 u_24 t9 H1 locs1 ht9 hvm9 hw_24 hBw hz9 hk9 hS => ?_)
    obtain ⟨hP, hD⟩ := hBw
    rw [ht9] at hP
    generalize H1 = H at hP hS ⊢
    generalize locs1 = locs at hS ⊢
    replace hP : va_P D vwCl (WM bd cI 0 c hid g code ans dbt u_24.1 u_24.2.1 heap u_24.2.2.1 u_24.2.2.2 wr) H := hP
    replace hD : va_D A (WM bd cI 0 c hid g code ans dbt u_24.1 u_24.2.1 heap u_24.2.2.1 u_24.2.2.2 wr) := hD
    refine x_ti (y := nI (cN (opS c g code ans dbt) 81)) (hw_24.1) ?_
    refine lv_pop hx hb dX2_worst_27 rfl ?_
    obtain ⟨k, hk, rfl⟩ := hasC_of hc c10
    refine lv_aload_n hx hb dX2_worst_28 rfl (lv_at hl 0 rfl) ?_
    refine lv_iload_n hx hb dX2_worst_29 rfl (lv_at hl 1 rfl) ?_
    refine va_calli (va_runV (As := [.int (nI (k))]) (rest := []) ⟨hx, hb, hml, hown, hts⟩ (c_X2_greatest l D cI cZ cG cJ A bd wr 0 c hid g code ans dbt u_24.1 u_24.2.1 heap u_24.2.2.1 u_24.2.2.2 k (opS c g code ans dbt) (hc) (hk) (hw_24.2) (op_lt (fun _ _ => rfl))) (cwV 1 hts gX2_worst_X2_greatest rfl rfl rfl (by decide +kernel) ⟨Nat.le_of_ble_eq_true rfl, Nat.le_of_ble_eq_true rfl⟩) (preV (ci := 2) (q0 := 0) hB hS hP hD rfl rfl) rfl rfl hl.1 rfl (lv_room (Nat.le_of_ble_eq_true rfl)) dX2_worst_30 ⟨Nat.le_of_ble_eq_true rfl, Nat.le_of_ble_eq_true rfl⟩) hS (fun q _ h => h) (fun q h => h) (fun r_30 u_30 t9 H1 locs1 ht9 hvm9 hw_30 hBw hz9 hk9 hS => ?_)
    obtain ⟨hP, hD⟩ := hBw
    rw [ht9] at hP
    generalize H1 = H at hP hS ⊢
    generalize locs1 = locs at hS ⊢
    replace hP : va_P D vwCl (WM bd cI 0 c hid g code ans dbt u_24.1 u_24.2.1 u_30.1 u_30.2.1 u_30.2.2 wr) H := hP
    replace hD : va_D A (WM bd cI 0 c hid g code ans dbt u_24.1 u_24.2.1 u_30.1 u_30.2.1 u_30.2.2 wr) := hD
    refine x_ti (y := nI (gh c k (opS c g code ans dbt))) (hw_30.1) ?_
    exact W.iret (v := nI (gh c k (opS c g code ans dbt))) hx hb hr (fun t ht hW => ⟨⟨_, (0, (u_24.1, u_24.2.1, u_30.1, u_30.2.1, u_30.2.2)), rfl, (by
        exact Or.inl ⟨rfl, k, hk, rfl, rfl⟩), ⟨by rw [ht]; exact hP, hD⟩⟩, hS.F ht⟩) hS.2.2 dX2_worst_33
  · skip
    refine lv_aload_n hx hb dX2_worst_13 rfl (lv_at hl 0 rfl) ?_
    refine lv_iconst (v := nI (1)) hx hb dX2_worst_14 (by decide) ?_
    refine va_calli (va_runV (As := [.int (nI (1))]) (rest := []) ⟨hx, hb, hml, hown, hts⟩ (c_X2_no l D cI cZ cG cJ A bd wr 0 c hid g code ans dbt many row heap our the 1 ) (cwV 1 hts gX2_worst_X2_no rfl rfl rfl (by decide +kernel) ⟨Nat.le_of_ble_eq_true rfl, Nat.le_of_ble_eq_true rfl⟩) (preV (ci := 2) (q0 := 0) hB hS hP hD rfl rfl) rfl rfl hl.1 rfl (lv_room (Nat.le_of_ble_eq_true rfl)) dX2_worst_15 ⟨Nat.le_of_ble_eq_true rfl, Nat.le_of_ble_eq_true rfl⟩) hS (fun q _ h => h) (fun q h => h) (fun r_15 u_15 t9 H1 locs1 ht9 hvm9 hw_15 hBw hz9 hk9 hS => ?_)
    obtain ⟨hP, hD⟩ := hBw
    rw [ht9] at hP
    generalize H1 = H at hP hS ⊢
    generalize locs1 = locs at hS ⊢
    replace hP : va_P D vwCl (WM bd cI 1 c hid g code ans dbt many row heap our the wr) H := hP
    replace hD : va_D A (WM bd cI 1 c hid g code ans dbt many row heap our the wr) := hD
    refine x_ti (y := nI (0)) (hw_15.1) ?_
    exact W.iret (v := nI (0)) hx hb hr (fun t ht hW => ⟨⟨_, (1, (many, row, heap, our, the)), rfl, (by
        exact Or.inr ⟨rfl, c10⟩), ⟨by rw [ht]; exact hP, hD⟩⟩, hS.F ht⟩) hS.2.2 dX2_worst_18

set_option maxHeartbeats 4000000 in
set_option maxRecDepth 100000 in
theorem c_X2_parts (l : Launch) (D : va_G) (cI cZ cG cJ : ClassId) (A : Nat → Prop) (bd : Nat → Nat) (wr : va_W) (th : Nat) (c : Nat) (hid : Int32) (g : Nat) (code : Nat → Nat) (ans : Nat → Nat) (dbt : Nat → Bool) (many : Nat) (row : Nat → Nat) (heap : Nat → Nat) (our : Nat → Nat) (the : Nat → Nat) (v : Int32) (hc : c = 2 ∨ c = 3) (hg : g ≤ 12) (hco : CodeOK c g code ans) : Met l yX2_parts wsX2_parts ({ frames := 5, cells := 0, slots := 0, locals := 118 }) (va_Pc [.ref (bd 0), .int (v)] (Iv D (TY cI cZ cG cJ) A (WM bd cI th c hid g code ans dbt many row heap our the wr))) (va_Qi (fun r (u : Nat × MSt) => (u.1 = 0 ∧ ∃ k : Nat, k < qq c ∧ v = nI k ∧ r = nI (cN (fun x => decide (0 < hpN c k (opS c g code ans dbt) x)) 21)) ∨ (u.1 = 1 ∧ hasC c v = false)) (fun u => Wd D A (WM bd cI u.1 c hid g code ans dbt u.2.1 u.2.2.1 u.2.2.2.1 u.2.2.2.2.1 u.2.2.2.2.2 wr)) A) 0 0 A := by
  refine Met.ofW (cc := cX2_parts) (maxL := 2) (ret := (some .int)) (by decide) rfl ?_
  intro p e s m args below meth c9 s₁ B hml hv
  obtain ⟨rfl, hP, hD, hB⟩ := hv
  have hK := hB.1
  have hA := hB.2.1
  have hx := B.exec
  have hb := B.bytes
  have hr := B.returns
  have hts := atoms_spec (ws := wsX2_parts) B.pre
  have hown : s.vm.findClass RX2 = some m.cls := findClass_of_methodNamed B.named
  have hlocks := B.notSynchronized
  have hS : va_S A s.heap s.heap [] := va_S.rf
  have hinX2 : ∀ w ∈ wsX20, w ∈ wsX2_parts := by decide +kernel
  have lk38 := hts (.fieldLink RX2 38 "HiddenCandlesModel" "thrown" "I") (by decide +kernel)
  have lk49 := hts (.fieldLink RX2 49 "HiddenCandlesModel" "guesses" "I") (by decide +kernel)
  have hl := lv_entry ([.ref (bd 0), .int (v)]) (n := 2) (Nat.le_of_ble_eq_true rfl)
  rw [lg_entry_eq]
  generalize (lg_sl ([.ref (bd 0), .int (v)]) ++ List.replicate (2 - (lg_sl ([.ref (bd 0), .int (v)])).length) Slot.unset).toArray = ls at hl ⊢
  have hl : lv_has ls 2 [(0, .ref (bd 0)), (1, .int (v))] := hl
  obtain ⟨H, eH⟩ : ∃ q, q = s.heap := ⟨_, rfl⟩
  obtain ⟨locs, eL⟩ : ∃ q : List Loc, q = [] := ⟨_, rfl⟩
  replace hP : va_P D vwCl (WM bd cI th c hid g code ans dbt many row heap our the wr) H := by rw [eH]; exact hP
  replace hS : va_S A s.heap H locs := by rw [eH, eL]; exact hS
  rw [show W p l e _ s m _ below meth c9 s.heap [] = W p l e _ s m _ below meth c9 H locs from by rw [eH, eL]]
  clear eH eL
  have hq := qq_in hc
  refine lv_aload_n hx hb dX2_parts_0 rfl (lv_at hl 0 rfl) ?_
  refine lv_iconst (v := nI (0)) hx hb dX2_parts_1 (by decide) ?_
  refine va_put (D := D) (ci := 2) (v := .int (nI (0))) (ty := .int) (C := RX2) (T := TX2) (N := 12) hx hb hts hinX2 tyX2 tyX2_ok nmX2 hown hK hP hD hS 0 rfl rfl 0 (by decide) lk38 (fun _ h9 => h9) rfl (by decide +kernel) rfl rfl (Nat.le_of_ble_eq_true rfl) dX2_parts_2 (fun H locs hP hD hS => ?_)
  replace hP : va_P D vwCl (WM bd cI 0 c hid g code ans dbt many row heap our the wr) H := hP
  replace hD : va_D A (WM bd cI 0 c hid g code ans dbt many row heap our the wr) := hD
  refine lv_aload_n hx hb dX2_parts_5 rfl (lv_at hl 0 rfl) ?_
  refine lv_iload_n hx hb dX2_parts_6 rfl (lv_at hl 1 rfl) ?_
  refine x_csi (va_runV (As := [.int (v)]) (rest := []) ⟨hx, hb, hml, hown, hts⟩ (c_X2_isCode l D cI cZ cG cJ A bd wr 0 c hid g code ans dbt many row heap our the v (hc)) (cwV 1 hts gX2_parts_X2_isCode rfl rfl rfl (by decide +kernel) ⟨Nat.le_of_ble_eq_true rfl, Nat.le_of_ble_eq_true rfl⟩) (preV (ci := 2) (q0 := 0) hB hS hP hD rfl rfl) rfl rfl hl.1 rfl (lv_room (Nat.le_of_ble_eq_true rfl)) dX2_parts_7 ⟨Nat.le_of_ble_eq_true rfl, Nat.le_of_ble_eq_true rfl⟩) ?_
  refine x_zne (tgt := 19) hx hb dX2_parts_10 (by decide) (fun c10 => ?_) (fun c10 => ?_)
  · skip
    refine lv_aload_n hx hb dX2_parts_19 rfl (lv_at hl 0 rfl) ?_
    refine lv_aload_n hx hb dX2_parts_20 rfl (lv_at hl 0 rfl) ?_
    refine va_get (D := D) (ci := 2) (v := .int (nI (g))) (C := RX2) (T := TX2) (N := 12) hx hb hts hinX2 hown hK hP 0 rfl rfl 3 (by decide) lk49 (fun _ h9 => h9) rfl dX2_parts_21 ?_
    refine va_calli (va_runV (As := [.int (nI (g))]) (rest := []) ⟨hx, hb, hml, hown, hts⟩ (c_X2_look l D cI cZ cG cJ A bd wr 0 c hid g code ans dbt many row heap our the g (hc) (hg) (hco)) (cwV 1 hts gX2_parts_X2_look rfl rfl rfl (by decide +kernel) ⟨Nat.le_of_ble_eq_true rfl, Nat.le_of_ble_eq_true rfl⟩) (preV (ci := 2) (q0 := 0) hB hS hP hD rfl rfl) rfl rfl hl.1 rfl (lv_room (Nat.le_of_ble_eq_true rfl)) dX2_parts_24 ⟨Nat.le_of_ble_eq_true rfl, Nat.le_of_ble_eq_true rfl⟩) hS (fun q _ h => h) (fun q h => h) (fun r_24 u_24 t9 H1 locs1 ht9 hvm9 hw_24 hBw hz9 hk9 hS => ?_)
    obtain ⟨hP, hD⟩ := hBw
    rw [ht9] at hP
    generalize H1 = H at hP hS ⊢
    generalize locs1 = locs at hS ⊢
    replace hP : va_P D vwCl (WM bd cI 0 c hid g code ans dbt u_24.1 u_24.2.1 heap u_24.2.2.1 u_24.2.2.2 wr) H := hP
    replace hD : va_D A (WM bd cI 0 c hid g code ans dbt u_24.1 u_24.2.1 heap u_24.2.2.1 u_24.2.2.2 wr) := hD
    refine x_ti (y := nI (cN (opS c g code ans dbt) 81)) (hw_24.1) ?_
    refine lv_pop hx hb dX2_parts_27 rfl ?_
    obtain ⟨k, hk, rfl⟩ := hasC_of hc c10
    refine lv_aload_n hx hb dX2_parts_28 rfl (lv_at hl 0 rfl) ?_
    refine lv_iload_n hx hb dX2_parts_29 rfl (lv_at hl 1 rfl) ?_
    refine va_calli (va_runV (As := [.int (nI (k))]) (rest := []) ⟨hx, hb, hml, hown, hts⟩ (c_X2_heaps l D cI cZ cG cJ A bd wr 0 c hid g code ans dbt u_24.1 u_24.2.1 heap u_24.2.2.1 u_24.2.2.2 k (opS c g code ans dbt) (hc) (hk) (hw_24.2) (op_lt (fun _ _ => rfl))) (cwV 1 hts gX2_parts_X2_heaps rfl rfl rfl (by decide +kernel) ⟨Nat.le_of_ble_eq_true rfl, Nat.le_of_ble_eq_true rfl⟩) (preV (ci := 2) (q0 := 0) hB hS hP hD rfl rfl) rfl rfl hl.1 rfl (lv_room (Nat.le_of_ble_eq_true rfl)) dX2_parts_30 ⟨Nat.le_of_ble_eq_true rfl, Nat.le_of_ble_eq_true rfl⟩) hS (fun q _ h => h) (fun q h => h) (fun r_30 u_30 t9 H1 locs1 ht9 hvm9 hw_30 hBw hz9 hk9 hS => ?_)
    obtain ⟨hP, hD⟩ := hBw
    rw [ht9] at hP
    generalize H1 = H at hP hS ⊢
    generalize locs1 = locs at hS ⊢
    replace hP : va_P D vwCl (WM bd cI 0 c hid g code ans dbt u_24.1 u_24.2.1 u_30.1 u_30.2.1 u_30.2.2 wr) H := hP
    replace hD : va_D A (WM bd cI 0 c hid g code ans dbt u_24.1 u_24.2.1 u_30.1 u_30.2.1 u_30.2.2 wr) := hD
    refine x_ti (y := nI (cN (fun x => decide (0 < hpN c k (opS c g code ans dbt) x)) 21)) (hw_30.1) ?_
    exact W.iret (v := nI (cN (fun x => decide (0 < hpN c k (opS c g code ans dbt) x)) 21)) hx hb hr (fun t ht hW => ⟨⟨_, (0, (u_24.1, u_24.2.1, u_30.1, u_30.2.1, u_30.2.2)), rfl, (by
        exact Or.inl ⟨rfl, k, hk, rfl, rfl⟩), ⟨by rw [ht]; exact hP, hD⟩⟩, hS.F ht⟩) hS.2.2 dX2_parts_33
  · skip
    refine lv_aload_n hx hb dX2_parts_13 rfl (lv_at hl 0 rfl) ?_
    refine lv_iconst (v := nI (1)) hx hb dX2_parts_14 (by decide) ?_
    refine va_calli (va_runV (As := [.int (nI (1))]) (rest := []) ⟨hx, hb, hml, hown, hts⟩ (c_X2_no l D cI cZ cG cJ A bd wr 0 c hid g code ans dbt many row heap our the 1 ) (cwV 1 hts gX2_parts_X2_no rfl rfl rfl (by decide +kernel) ⟨Nat.le_of_ble_eq_true rfl, Nat.le_of_ble_eq_true rfl⟩) (preV (ci := 2) (q0 := 0) hB hS hP hD rfl rfl) rfl rfl hl.1 rfl (lv_room (Nat.le_of_ble_eq_true rfl)) dX2_parts_15 ⟨Nat.le_of_ble_eq_true rfl, Nat.le_of_ble_eq_true rfl⟩) hS (fun q _ h => h) (fun q h => h) (fun r_15 u_15 t9 H1 locs1 ht9 hvm9 hw_15 hBw hz9 hk9 hS => ?_)
    obtain ⟨hP, hD⟩ := hBw
    rw [ht9] at hP
    generalize H1 = H at hP hS ⊢
    generalize locs1 = locs at hS ⊢
    replace hP : va_P D vwCl (WM bd cI 1 c hid g code ans dbt many row heap our the wr) H := hP
    replace hD : va_D A (WM bd cI 1 c hid g code ans dbt many row heap our the wr) := hD
    refine x_ti (y := nI (0)) (hw_15.1) ?_
    exact W.iret (v := nI (0)) hx hb hr (fun t ht hW => ⟨⟨_, (1, (many, row, heap, our, the)), rfl, (by
        exact Or.inr ⟨rfl, c10⟩), ⟨by rw [ht]; exact hP, hD⟩⟩, hS.F ht⟩) hS.2.2 dX2_parts_18

set_option maxHeartbeats 4000000 in
set_option maxRecDepth 100000 in
theorem c_X2_best (l : Launch) (D : va_G) (cI cZ cG cJ : ClassId) (A : Nat → Prop) (bd : Nat → Nat) (wr : va_W) (th : Nat) (c : Nat) (hid : Int32) (g : Nat) (code : Nat → Nat) (ans : Nat → Nat) (dbt : Nat → Bool) (many : Nat) (row : Nat → Nat) (heap : Nat → Nat) (our : Nat → Nat) (the : Nat → Nat) (hc : c = 2 ∨ c = 3) (hg : g ≤ 12) (hco : CodeOK c g code ans) : Met l yX2_best wsX2_best ({ frames := 5, cells := 0, slots := 0, locals := 118 }) (va_Pc [.ref (bd 0)] (Iv D (TY cI cZ cG cJ) A (WM bd cI th c hid g code ans dbt many row heap our the wr))) (va_Qi (fun r (u : MSt) => r = lbR c (opS c g code ans dbt) false ∧ True) (fun u => Wd D A (WM bd cI 0 c hid g code ans dbt u.1 u.2.1 u.2.2.1 u.2.2.2.1 u.2.2.2.2 wr)) A) 0 0 A := by
  refine Met.ofW (cc := cX2_best) (maxL := 5) (ret := (some .int)) (by decide) rfl ?_
  intro p e s m args below meth c9 s₁ B hml hv
  obtain ⟨rfl, hP, hD, hB⟩ := hv
  have hK := hB.1
  have hA := hB.2.1
  have hx := B.exec
  have hb := B.bytes
  have hr := B.returns
  have hts := atoms_spec (ws := wsX2_best) B.pre
  have hown : s.vm.findClass RX2 = some m.cls := findClass_of_methodNamed B.named
  have hlocks := B.notSynchronized
  have hS : va_S A s.heap s.heap [] := va_S.rf
  have hinX2 : ∀ w ∈ wsX20, w ∈ wsX2_best := by decide +kernel
  have lk38 := hts (.fieldLink RX2 38 "HiddenCandlesModel" "thrown" "I") (by decide +kernel)
  have lk49 := hts (.fieldLink RX2 49 "HiddenCandlesModel" "guesses" "I") (by decide +kernel)
  have hl := lv_entry ([.ref (bd 0)]) (n := 5) (Nat.le_of_ble_eq_true rfl)
  rw [lg_entry_eq]
  generalize (lg_sl ([.ref (bd 0)]) ++ List.replicate (5 - (lg_sl ([.ref (bd 0)])).length) Slot.unset).toArray = ls at hl ⊢
  have hl : lv_has ls 5 [(0, .ref (bd 0))] := hl
  obtain ⟨H, eH⟩ : ∃ q, q = s.heap := ⟨_, rfl⟩
  obtain ⟨locs, eL⟩ : ∃ q : List Loc, q = [] := ⟨_, rfl⟩
  replace hP : va_P D vwCl (WM bd cI th c hid g code ans dbt many row heap our the wr) H := by rw [eH]; exact hP
  replace hS : va_S A s.heap H locs := by rw [eH, eL]; exact hS
  rw [show W p l e _ s m _ below meth c9 s.heap [] = W p l e _ s m _ below meth c9 H locs from by rw [eH, eL]]
  clear eH eL
  have hq := qq_in hc
  refine lv_aload_n hx hb dX2_best_0 rfl (lv_at hl 0 rfl) ?_
  refine lv_iconst (v := nI (0)) hx hb dX2_best_1 (by decide) ?_
  refine va_put (D := D) (ci := 2) (v := .int (nI (0))) (ty := .int) (C := RX2) (T := TX2) (N := 12) hx hb hts hinX2 tyX2 tyX2_ok nmX2 hown hK hP hD hS 0 rfl rfl 0 (by decide) lk38 (fun _ h9 => h9) rfl (by decide +kernel) rfl rfl (Nat.le_of_ble_eq_true rfl) dX2_best_2 (fun H locs hP hD hS => ?_)
  replace hP : va_P D vwCl (WM bd cI 0 c hid g code ans dbt many row heap our the wr) H := hP
  replace hD : va_D A (WM bd cI 0 c hid g code ans dbt many row heap our the wr) := hD
  refine lv_aload_n hx hb dX2_best_5 rfl (lv_at hl 0 rfl) ?_
  refine lv_aload_n hx hb dX2_best_6 rfl (lv_at hl 0 rfl) ?_
  refine va_get (D := D) (ci := 2) (v := .int (nI (g))) (C := RX2) (T := TX2) (N := 12) hx hb hts hinX2 hown hK hP 0 rfl rfl 3 (by decide) lk49 (fun _ h9 => h9) rfl dX2_best_7 ?_
  refine va_calli (va_runV (As := [.int (nI (g))]) (rest := []) ⟨hx, hb, hml, hown, hts⟩ (c_X2_look l D cI cZ cG cJ A bd wr 0 c hid g code ans dbt many row heap our the g (hc) (hg) (hco)) (cwV 1 hts gX2_best_X2_look rfl rfl rfl (by decide +kernel) ⟨Nat.le_of_ble_eq_true rfl, Nat.le_of_ble_eq_true rfl⟩) (preV (ci := 2) (q0 := 0) hB hS hP hD rfl rfl) rfl rfl hl.1 rfl (lv_room (Nat.le_of_ble_eq_true rfl)) dX2_best_10 ⟨Nat.le_of_ble_eq_true rfl, Nat.le_of_ble_eq_true rfl⟩) hS (fun q _ h => h) (fun q h => h) (fun r_10 u_10 t9 H1 locs1 ht9 hvm9 hw_10 hBw hz9 hk9 hS => ?_)
  obtain ⟨hP, hD⟩ := hBw
  rw [ht9] at hP
  generalize H1 = H at hP hS ⊢
  generalize locs1 = locs at hS ⊢
  replace hP : va_P D vwCl (WM bd cI 0 c hid g code ans dbt u_10.1 u_10.2.1 heap u_10.2.2.1 u_10.2.2.2 wr) H := hP
  replace hD : va_D A (WM bd cI 0 c hid g code ans dbt u_10.1 u_10.2.1 heap u_10.2.2.1 u_10.2.2.2 wr) := hD
  refine x_ti (y := nI (cN (opS c g code ans dbt) 81)) (hw_10.1) ?_
  refine x_ne0 (tgt := 18) hx hb dX2_best_13 (by decide) (by have := cN_le (opS c g code ans dbt) 81; omega) (fun c13 => ?_) (fun c13 => ?_)
  · skip
    refine lv_iconst (v := nI (0)) hx hb dX2_best_18 (by decide) ?_
    refine lv_istore_n (lv' := [(1, .int (nI (0))), (0, .ref (bd 0))]) hx hb dX2_best_19 rfl hl (by decide) rfl (fun ls hl => ?_)
    refine lv_aload_n hx hb dX2_best_20 rfl (lv_at hl 1 rfl) ?_
    refine lv_iconst (v := nI (0)) hx hb dX2_best_21 (by decide) ?_
    refine va_calli (va_runV (As := [.int (nI (0))]) (rest := []) ⟨hx, hb, hml, hown, hts⟩ (c_X2_greatest l D cI cZ cG cJ A bd wr 0 c hid g code ans dbt u_10.1 u_10.2.1 heap u_10.2.2.1 u_10.2.2.2 0 (opS c g code ans dbt) (hc) ((by omega)) (hw_10.2) (op_lt (fun _ _ => rfl))) (cwV 1 hts gX2_best_X2_greatest rfl rfl rfl (by decide +kernel) ⟨Nat.le_of_ble_eq_true rfl, Nat.le_of_ble_eq_true rfl⟩) (preV (ci := 2) (q0 := 0) hB hS hP hD rfl rfl) rfl rfl hl.1 rfl (lv_room (Nat.le_of_ble_eq_true rfl)) dX2_best_22 ⟨Nat.le_of_ble_eq_true rfl, Nat.le_of_ble_eq_true rfl⟩) hS (fun q _ h => h) (fun q h => h) (fun r_22 u_22 t9 H1 locs1 ht9 hvm9 hw_22 hBw hz9 hk9 hS => ?_)
    obtain ⟨hP, hD⟩ := hBw
    rw [ht9] at hP
    generalize H1 = H at hP hS ⊢
    generalize locs1 = locs at hS ⊢
    replace hP : va_P D vwCl (WM bd cI 0 c hid g code ans dbt u_10.1 u_10.2.1 u_22.1 u_22.2.1 u_22.2.2 wr) H := hP
    replace hD : va_D A (WM bd cI 0 c hid g code ans dbt u_10.1 u_10.2.1 u_22.1 u_22.2.1 u_22.2.2 wr) := hD
    refine x_ti (y := nI (gh c 0 (opS c g code ans dbt))) (hw_22.1) ?_
    have hgl := gh_le81 c (0) (opS c g code ans dbt)
    refine lv_istore_n (lv' := [(2, .int (nI (gh c 0 (opS c g code ans dbt)))), (1, .int (nI (0))), (0, .ref (bd 0))]) hx hb dX2_best_25 rfl hl (by decide) rfl (fun ls hl => ?_)
    refine lv_iconst (v := nI (1)) hx hb dX2_best_26 (by decide) ?_
    refine lv_istore_n (lv' := [(3, .int (nI (1))), (2, .int (nI (gh c 0 (opS c g code ans dbt)))), (1, .int (nI (0))), (0, .ref (bd 0))]) hx hb dX2_best_27 rfl hl (by decide) rfl (fun ls hl => ?_)
    -- loop at 28
    have hinv : 1 ≤ qq c ∧ 1 ≤ 1 ∧ lbS c (opS c g code ans dbt) false 1 = (nI 0, (opS c g code ans dbt) 0, (gh c 0 (opS c g code ans dbt))) ∧ 0 < qq c ∧ (gh c 0 (opS c g code ans dbt)) ≤ 81 := by
      exact ⟨by omega, Nat.le_refl _, lb_first _ _, by omega, hgl⟩
    obtain ⟨i, be, le, h3, o1, t1, hq9⟩ : ∃ (i : Nat) (be : Nat) (le : Nat) (h3 : Nat → Nat) (o1 : Nat → Nat) (t1 : Nat → Nat), lv_has ls 5 [(0, .ref (bd 0)), (1, .int (nI (be))), (2, .int (nI (le))), (3, .int (nI (i)))] ∧ (i ≤ qq c ∧ 1 ≤ i ∧ lbS c (opS c g code ans dbt) false i = (nI be, (opS c g code ans dbt) be, le) ∧ be < qq c ∧ le ≤ 81) ∧ va_P D vwCl (WM bd cI 0 c hid g code ans dbt u_10.1 u_10.2.1 h3 o1 t1 wr) H ∧ va_D A (WM bd cI 0 c hid g code ans dbt u_10.1 u_10.2.1 h3 o1 t1 wr) := ⟨1, 0, (gh c 0 (opS c g code ans dbt)), u_22.1, u_22.2.1, u_22.2.2, lv_sub hl [3, 2, 1, 0] rfl, hinv, hP, hD⟩
    clear hl hinv hP hD
    obtain ⟨hl, hinv, hP, hD⟩ := hq9
    obtain ⟨n9_28, hn9⟩ : ∃ q : Nat, qq c - i < q := ⟨_, Nat.lt_succ_self _⟩
    induction n9_28 generalizing ls H locs i be le h3 o1 t1 with
    | zero => exact absurd hn9 (Nat.not_lt_zero _)
    | succ n9_28 ih28 =>
      obtain ⟨h1, h2, h3l, h4, h5⟩ := hinv
      refine lv_iload_n hx hb dX2_best_28 rfl (lv_at hl 3 rfl) ?_
      refine lv_aload_n hx hb dX2_best_29 rfl (lv_at hl 0 rfl) ?_
      refine x_csi (va_runV (As := []) (rest := [.int (nI (i))]) ⟨hx, hb, hml, hown, hts⟩ (c_X2_codes l D cI cZ cG cJ A bd wr 0 c hid g code ans dbt u_10.1 u_10.2.1 h3 o1 t1 ) (cwV 0 hts gX2_best_X2_codes rfl rfl rfl (by decide +kernel) ⟨Nat.le_of_ble_eq_true rfl, Nat.le_of_ble_eq_true rfl⟩) (preV (ci := 2) (q0 := 0) hB hS hP hD rfl rfl) rfl rfl hl.1 rfl (lv_room (Nat.le_of_ble_eq_true rfl)) dX2_best_30 ⟨Nat.le_of_ble_eq_true rfl, Nat.le_of_ble_eq_true rfl⟩) ?_
      refine x_ge (tgt := 87) hx hb dX2_best_33 (by decide) (by omega) (by omega) (fun c33 => ?_) (fun c33 => ?_)
      · skip
        refine lv_iload_n hx hb dX2_best_87 rfl (lv_at hl 1 rfl) ?_
        exact W.iret (v := nI (be)) hx hb hr (fun t ht hW => ⟨⟨_, (u_10.1, u_10.2.1, h3, o1, t1), rfl, (by
            have e9 : i = qq c := by omega
            exact ⟨by rw [lbR, if_neg (by omega), ← e9, h3l], trivial⟩), ⟨by rw [ht]; exact hP, hD⟩⟩, hS.F ht⟩) hS.2.2 dX2_best_88
      · skip
        refine lv_aload_n hx hb dX2_best_36 rfl (lv_at hl 0 rfl) ?_
        refine lv_iload_n hx hb dX2_best_37 rfl (lv_at hl 3 rfl) ?_
        refine va_calli (va_runV (As := [.int (nI (i))]) (rest := []) ⟨hx, hb, hml, hown, hts⟩ (c_X2_greatest l D cI cZ cG cJ A bd wr 0 c hid g code ans dbt u_10.1 u_10.2.1 h3 o1 t1 i (opS c g code ans dbt) (hc) ((by omega)) (hw_10.2) (op_lt (fun _ _ => rfl))) (cwV 1 hts gX2_best_X2_greatest rfl rfl rfl (by decide +kernel) ⟨Nat.le_of_ble_eq_true rfl, Nat.le_of_ble_eq_true rfl⟩) (preV (ci := 2) (q0 := 0) hB hS hP hD rfl rfl) rfl rfl hl.1 rfl (lv_room (Nat.le_of_ble_eq_true rfl)) dX2_best_38 ⟨Nat.le_of_ble_eq_true rfl, Nat.le_of_ble_eq_true rfl⟩) hS (fun q _ h => h) (fun q h => h) (fun r_38 u_38 t9 H1 locs1 ht9 hvm9 hw_38 hBw hz9 hk9 hS => ?_)
        obtain ⟨hP, hD⟩ := hBw
        rw [ht9] at hP
        generalize H1 = H at hP hS ⊢
        generalize locs1 = locs at hS ⊢
        replace hP : va_P D vwCl (WM bd cI 0 c hid g code ans dbt u_10.1 u_10.2.1 u_38.1 u_38.2.1 u_38.2.2 wr) H := hP
        replace hD : va_D A (WM bd cI 0 c hid g code ans dbt u_10.1 u_10.2.1 u_38.1 u_38.2.1 u_38.2.2 wr) := hD
        refine x_ti (y := nI (gh c i (opS c g code ans dbt))) (hw_38.1) ?_
        have hgl := gh_le81 c (i) (opS c g code ans dbt)
        refine lv_istore (lv' := [(4, .int (nI (gh c i (opS c g code ans dbt)))), (0, .ref (bd 0)), (1, .int (nI (be))), (2, .int (nI (le))), (3, .int (nI (i)))]) hx hb dX2_best_41 hl (by decide) rfl (fun ls hl => ?_)
        refine lv_iload hx hb dX2_best_43 (lv_at hl 0 rfl) ?_
        refine lv_iload_n hx hb dX2_best_45 rfl (lv_at hl 3 rfl) ?_
        refine x_gt (tgt := 81) hx hb dX2_best_46 (by decide) (by omega) (by omega) (fun c46 => ?_) (fun c46 => ?_)
        · skip
          refine lv_iinc (v := nI (i + 1)) (lv' := [(3, .int (nI (i + 1))), (4, .int (nI (gh c i (opS c g code ans dbt)))), (0, .ref (bd 0)), (1, .int (nI (be))), (2, .int (nI (le)))]) hx hb dX2_best_81 hl (k := 4) rfl (nI_add _ _) (by decide) rfl (fun ls hl => ?_)
          refine lv_goto (tgt := 28) hx hb dX2_best_84 (by decide) ?_
          exact ih28 (i := i + 1) (be := be) (le := le) (h3 := u_38.1) (o1 := u_38.2.1) (t1 := u_38.2.2) (ls := ls) (hl := lv_sub hl [2, 3, 4, 0] rfl) (H := H) (locs := locs) (hP := hP) (hD := hD) (hS := hS) (hinv := by
              first | exact ⟨by omega, by omega, lbm_no1 h3l c46, h4, h5⟩ | exact ⟨by omega, by omega, lbm_up1 h3l (by omega), by omega, by omega⟩ | exact ⟨by omega, by omega, lbm_no2 h3l c52 (plR_m1 (by omega) c61), h4, h5⟩ | exact ⟨by omega, by omega, lbm_up2 h3l c52 (plR_n1 c61) (plR_m1 (by omega) c70), by omega, by omega⟩ | exact ⟨by omega, by omega, lbm_no3 h3l c52 (plR_n1 c70), h4, h5⟩
            ) (hn9 := by
              omega
            )
        · skip
          refine lv_iload hx hb dX2_best_49 (lv_at hl 0 rfl) ?_
          refine lv_iload_n hx hb dX2_best_51 rfl (lv_at hl 3 rfl) ?_
          refine x_ne (tgt := 76) hx hb dX2_best_52 (by decide) (by omega) (by omega) (fun c52 => ?_) (fun c52 => ?_)
          · skip
            refine lv_iload_n hx hb dX2_best_76 rfl (lv_at hl 4 rfl) ?_
            refine lv_istore_n (lv' := [(1, .int (nI (i))), (4, .int (nI (gh c i (opS c g code ans dbt)))), (0, .ref (bd 0)), (2, .int (nI (le))), (3, .int (nI (i)))]) hx hb dX2_best_77 rfl hl (by decide) rfl (fun ls hl => ?_)
            refine lv_iload hx hb dX2_best_78 (lv_at hl 1 rfl) ?_
            refine lv_istore_n (lv' := [(2, .int (nI (gh c i (opS c g code ans dbt)))), (1, .int (nI (i))), (4, .int (nI (gh c i (opS c g code ans dbt)))), (0, .ref (bd 0)), (3, .int (nI (i)))]) hx hb dX2_best_80 rfl hl (by decide) rfl (fun ls hl => ?_)
            refine lv_iinc (v := nI (i + 1)) (lv' := [(3, .int (nI (i + 1))), (2, .int (nI (gh c i (opS c g code ans dbt)))), (1, .int (nI (i))), (4, .int (nI (gh c i (opS c g code ans dbt)))), (0, .ref (bd 0))]) hx hb dX2_best_81 hl (k := 4) rfl (nI_add _ _) (by decide) rfl (fun ls hl => ?_)
            refine lv_goto (tgt := 28) hx hb dX2_best_84 (by decide) ?_
            exact ih28 (i := i + 1) (be := i) (le := gh c i (opS c g code ans dbt)) (h3 := u_38.1) (o1 := u_38.2.1) (t1 := u_38.2.2) (ls := ls) (hl := lv_sub hl [4, 2, 1, 0] rfl) (H := H) (locs := locs) (hP := hP) (hD := hD) (hS := hS) (hinv := by
                first | exact ⟨by omega, by omega, lbm_no1 h3l c46, h4, h5⟩ | exact ⟨by omega, by omega, lbm_up1 h3l (by omega), by omega, by omega⟩ | exact ⟨by omega, by omega, lbm_no2 h3l c52 (plR_m1 (by omega) c61), h4, h5⟩ | exact ⟨by omega, by omega, lbm_up2 h3l c52 (plR_n1 c61) (plR_m1 (by omega) c70), by omega, by omega⟩ | exact ⟨by omega, by omega, lbm_no3 h3l c52 (plR_n1 c70), h4, h5⟩
              ) (hn9 := by
                omega
              )
          · skip
            refine lv_aload_n hx hb dX2_best_55 rfl (lv_at hl 1 rfl) ?_
            refine lv_iload_n hx hb dX2_best_56 rfl (lv_at hl 4 rfl) ?_
            refine x_csi (va_runV (As := [.int (nI (i))]) (rest := []) ⟨hx, hb, hml, hown, hts⟩ (c_X2_place l D cI cZ cG cJ A bd wr 0 c hid g code ans dbt u_10.1 u_10.2.1 u_38.1 u_38.2.1 u_38.2.2 i (opS c g code ans dbt) (hc) (by omega) (hw_10.2) (op_lt (fun _ _ => rfl))) (cwV 1 hts gX2_best_X2_place rfl rfl rfl (by decide +kernel) ⟨Nat.le_of_ble_eq_true rfl, Nat.le_of_ble_eq_true rfl⟩) (preV (ci := 2) (q0 := 0) hB hS hP hD rfl rfl) rfl rfl hl.1 rfl (lv_room (Nat.le_of_ble_eq_true rfl)) dX2_best_57 ⟨Nat.le_of_ble_eq_true rfl, Nat.le_of_ble_eq_true rfl⟩) ?_
            refine lv_iconst (v := (-1)) hx hb dX2_best_60 (by decide) ?_
            refine lv_icmp_eq (tgt := 81) hx hb dX2_best_61 (by decide) (fun c61 => ?_) (fun c61 => ?_)
            · skip
              refine lv_iinc (v := nI (i + 1)) (lv' := [(3, .int (nI (i + 1))), (4, .int (nI (gh c i (opS c g code ans dbt)))), (0, .ref (bd 0)), (1, .int (nI (be))), (2, .int (nI (le)))]) hx hb dX2_best_81 hl (k := 4) rfl (nI_add _ _) (by decide) rfl (fun ls hl => ?_)
              refine lv_goto (tgt := 28) hx hb dX2_best_84 (by decide) ?_
              exact ih28 (i := i + 1) (be := be) (le := le) (h3 := u_38.1) (o1 := u_38.2.1) (t1 := u_38.2.2) (ls := ls) (hl := lv_sub hl [2, 3, 4, 0] rfl) (H := H) (locs := locs) (hP := hP) (hD := hD) (hS := hS) (hinv := by
                  first | exact ⟨by omega, by omega, lbm_no1 h3l c46, h4, h5⟩ | exact ⟨by omega, by omega, lbm_up1 h3l (by omega), by omega, by omega⟩ | exact ⟨by omega, by omega, lbm_no2 h3l c52 (plR_m1 (by omega) c61), h4, h5⟩ | exact ⟨by omega, by omega, lbm_up2 h3l c52 (plR_n1 c61) (plR_m1 (by omega) c70), by omega, by omega⟩ | exact ⟨by omega, by omega, lbm_no3 h3l c52 (plR_n1 c70), h4, h5⟩
                ) (hn9 := by
                  omega
                )
            · skip
              refine lv_aload_n hx hb dX2_best_64 rfl (lv_at hl 1 rfl) ?_
              refine lv_iload_n hx hb dX2_best_65 rfl (lv_at hl 2 rfl) ?_
              refine x_csi (va_runV (As := [.int (nI (be))]) (rest := []) ⟨hx, hb, hml, hown, hts⟩ (c_X2_place l D cI cZ cG cJ A bd wr 0 c hid g code ans dbt u_10.1 u_10.2.1 u_38.1 u_38.2.1 u_38.2.2 be (opS c g code ans dbt) (hc) (by omega) (hw_10.2) (op_lt (fun _ _ => rfl))) (cwV 1 hts gX2_best_X2_place rfl rfl rfl (by decide +kernel) ⟨Nat.le_of_ble_eq_true rfl, Nat.le_of_ble_eq_true rfl⟩) (preV (ci := 2) (q0 := 0) hB hS hP hD rfl rfl) rfl rfl hl.1 rfl (lv_room (Nat.le_of_ble_eq_true rfl)) dX2_best_66 ⟨Nat.le_of_ble_eq_true rfl, Nat.le_of_ble_eq_true rfl⟩) ?_
              refine lv_iconst (v := (-1)) hx hb dX2_best_69 (by decide) ?_
              refine lv_icmp_eq (tgt := 76) hx hb dX2_best_70 (by decide) (fun c70 => ?_) (fun c70 => ?_)
              · skip
                refine lv_iload_n hx hb dX2_best_76 rfl (lv_at hl 4 rfl) ?_
                refine lv_istore_n (lv' := [(1, .int (nI (i))), (4, .int (nI (gh c i (opS c g code ans dbt)))), (0, .ref (bd 0)), (2, .int (nI (le))), (3, .int (nI (i)))]) hx hb dX2_best_77 rfl hl (by decide) rfl (fun ls hl => ?_)
                refine lv_iload hx hb dX2_best_78 (lv_at hl 1 rfl) ?_
                refine lv_istore_n (lv' := [(2, .int (nI (gh c i (opS c g code ans dbt)))), (1, .int (nI (i))), (4, .int (nI (gh c i (opS c g code ans dbt)))), (0, .ref (bd 0)), (3, .int (nI (i)))]) hx hb dX2_best_80 rfl hl (by decide) rfl (fun ls hl => ?_)
                refine lv_iinc (v := nI (i + 1)) (lv' := [(3, .int (nI (i + 1))), (2, .int (nI (gh c i (opS c g code ans dbt)))), (1, .int (nI (i))), (4, .int (nI (gh c i (opS c g code ans dbt)))), (0, .ref (bd 0))]) hx hb dX2_best_81 hl (k := 4) rfl (nI_add _ _) (by decide) rfl (fun ls hl => ?_)
                refine lv_goto (tgt := 28) hx hb dX2_best_84 (by decide) ?_
                exact ih28 (i := i + 1) (be := i) (le := gh c i (opS c g code ans dbt)) (h3 := u_38.1) (o1 := u_38.2.1) (t1 := u_38.2.2) (ls := ls) (hl := lv_sub hl [4, 2, 1, 0] rfl) (H := H) (locs := locs) (hP := hP) (hD := hD) (hS := hS) (hinv := by
                    first | exact ⟨by omega, by omega, lbm_no1 h3l c46, h4, h5⟩ | exact ⟨by omega, by omega, lbm_up1 h3l (by omega), by omega, by omega⟩ | exact ⟨by omega, by omega, lbm_no2 h3l c52 (plR_m1 (by omega) c61), h4, h5⟩ | exact ⟨by omega, by omega, lbm_up2 h3l c52 (plR_n1 c61) (plR_m1 (by omega) c70), by omega, by omega⟩ | exact ⟨by omega, by omega, lbm_no3 h3l c52 (plR_n1 c70), h4, h5⟩
                  ) (hn9 := by
                    omega
                  )
              · skip
                refine lv_goto (tgt := 81) hx hb dX2_best_73 (by decide) ?_
                refine lv_iinc (v := nI (i + 1)) (lv' := [(3, .int (nI (i + 1))), (4, .int (nI (gh c i (opS c g code ans dbt)))), (0, .ref (bd 0)), (1, .int (nI (be))), (2, .int (nI (le)))]) hx hb dX2_best_81 hl (k := 4) rfl (nI_add _ _) (by decide) rfl (fun ls hl => ?_)
                refine lv_goto (tgt := 28) hx hb dX2_best_84 (by decide) ?_
                exact ih28 (i := i + 1) (be := be) (le := le) (h3 := u_38.1) (o1 := u_38.2.1) (t1 := u_38.2.2) (ls := ls) (hl := lv_sub hl [2, 3, 4, 0] rfl) (H := H) (locs := locs) (hP := hP) (hD := hD) (hS := hS) (hinv := by
                    first | exact ⟨by omega, by omega, lbm_no1 h3l c46, h4, h5⟩ | exact ⟨by omega, by omega, lbm_up1 h3l (by omega), by omega, by omega⟩ | exact ⟨by omega, by omega, lbm_no2 h3l c52 (plR_m1 (by omega) c61), h4, h5⟩ | exact ⟨by omega, by omega, lbm_up2 h3l c52 (plR_n1 c61) (plR_m1 (by omega) c70), by omega, by omega⟩ | exact ⟨by omega, by omega, lbm_no3 h3l c52 (plR_n1 c70), h4, h5⟩
                  ) (hn9 := by
                    omega
                  )
  · skip
    refine lv_iconst (v := (-1)) hx hb dX2_best_16 (by decide) ?_
    exact W.iret (v := (-1)) hx hb hr (fun t ht hW => ⟨⟨_, (u_10.1, u_10.2.1, heap, u_10.2.2.1, u_10.2.2.2), rfl, (by
        exact ⟨by rw [lbR, if_pos c13], trivial⟩), ⟨by rw [ht]; exact hP, hD⟩⟩, hS.F ht⟩) hS.2.2 dX2_best_17

set_option maxHeartbeats 4000000 in
set_option maxRecDepth 100000 in
theorem c_X2_keep (l : Launch) (D : va_G) (cI cZ cG cJ : ClassId) (A : Nat → Prop) (bd : Nat → Nat) (wr : va_W) (th : Nat) (c : Nat) (hid : Int32) (g : Nat) (code : Nat → Nat) (ans : Nat → Nat) (dbt : Nat → Bool) (many : Nat) (row : Nat → Nat) (heap : Nat → Nat) (our : Nat → Nat) (the : Nat → Nat) (a : Nat) (v : Nat) (sb : Nat → Bool) (hc : c = 2 ∨ c = 3) (ha : a < qq c) (hv : v < 32) (hR : RowS row many sb) (hsb : ∀ k, k < 81 → sb k = true → k < qq c) : Met l yX2_keep wsX2_keep ({ frames := 3, cells := 0, slots := 0, locals := 70 }) (va_Pc [.ref (bd 0), .int (nI (a)), .int (nI (v))] (Iv D (TY cI cZ cG cJ) A (WM bd cI th c hid g code ans dbt many row heap our the wr))) (va_Qv (fun (u : Nat × (Nat → Nat) × (Nat → Nat) × (Nat → Nat)) => RowS u.2.1 u.1 (fun z => sb z && decide (pins c a z = v))) (fun u => Wd D A (WM bd cI th c hid g code ans dbt u.1 u.2.1 heap u.2.2.1 u.2.2.2 wr)) A) 0 0 A := by
  refine Met.ofW (cc := cX2_keep) (maxL := 5) (ret := none) (by decide) rfl ?_
  intro p e s m args below meth c9 s₁ B hml hv
  obtain ⟨rfl, hP, hD, hB⟩ := hv
  have hK := hB.1
  have hA := hB.2.1
  have hx := B.exec
  have hb := B.bytes
  have hr := B.returns
  have hts := atoms_spec (ws := wsX2_keep) B.pre
  have hown : s.vm.findClass RX2 = some m.cls := findClass_of_methodNamed B.named
  have hlocks := B.notSynchronized
  have hS : va_S A s.heap s.heap [] := va_S.rf
  have hinX2 : ∀ w ∈ wsX20, w ∈ wsX2_keep := by decide +kernel
  have lk26 := hts (.fieldLink RX2 26 "HiddenCandlesModel" "row" "[I") (by decide +kernel)
  have lk68 := hts (.fieldLink RX2 68 "HiddenCandlesModel" "many" "I") (by decide +kernel)
  have hl := lv_entry ([.ref (bd 0), .int (nI (a)), .int (nI (v))]) (n := 5) (Nat.le_of_ble_eq_true rfl)
  rw [lg_entry_eq]
  generalize (lg_sl ([.ref (bd 0), .int (nI (a)), .int (nI (v))]) ++ List.replicate (5 - (lg_sl ([.ref (bd 0), .int (nI (a)), .int (nI (v))])).length) Slot.unset).toArray = ls at hl ⊢
  have hl : lv_has ls 5 [(0, .ref (bd 0)), (1, .int (nI (a))), (2, .int (nI (v)))] := hl
  obtain ⟨H, eH⟩ : ∃ q, q = s.heap := ⟨_, rfl⟩
  obtain ⟨locs, eL⟩ : ∃ q : List Loc, q = [] := ⟨_, rfl⟩
  replace hP : va_P D vwCl (WM bd cI th c hid g code ans dbt many row heap our the wr) H := by rw [eH]; exact hP
  replace hS : va_S A s.heap H locs := by rw [eH, eL]; exact hS
  rw [show W p l e _ s m _ below meth c9 s.heap [] = W p l e _ s m _ below meth c9 H locs from by rw [eH, eL]]
  clear eH eL
  have hq := qq_in hc
  have hm81 : many ≤ 81 := by rw [hR.1]; exact cN_le _ _
  have hrw : ∀ j, j < many → row j < qq c := fun j hj => by obtain ⟨k, a1, a2, a3, a4⟩ := row_in hR j hj; rw [a4]; exact hsb k a1 a2
  refine lv_iconst (v := nI (0)) hx hb dX2_keep_0 (by decide) ?_
  refine lv_istore_n (lv' := [(3, .int (nI (0))), (0, .ref (bd 0)), (1, .int (nI (a))), (2, .int (nI (v)))]) hx hb dX2_keep_1 rfl hl (by decide) rfl (fun ls hl => ?_)
  refine lv_iconst (v := nI (0)) hx hb dX2_keep_2 (by decide) ?_
  refine lv_istore (lv' := [(4, .int (nI (0))), (3, .int (nI (0))), (0, .ref (bd 0)), (1, .int (nI (a))), (2, .int (nI (v)))]) hx hb dX2_keep_3 hl (by decide) rfl (fun ls hl => ?_)
  -- loop at 5
  have hinv : 0 ≤ many ∧ KeepOK row row 0 (fun z => decide (pins c a z = v)) 0 := by
    exact ⟨Nat.zero_le _, keep_0⟩
  obtain ⟨i, kp, r2, o1, t1, hq9⟩ : ∃ (i : Nat) (kp : Nat) (r2 : Nat → Nat) (o1 : Nat → Nat) (t1 : Nat → Nat), lv_has ls 5 [(0, .ref (bd 0)), (1, .int (nI (a))), (2, .int (nI (v))), (3, .int (nI (kp))), (4, .int (nI (i)))] ∧ (i ≤ many ∧ KeepOK row r2 kp (fun z => decide (pins c a z = v)) i) ∧ va_P D vwCl (WM bd cI th c hid g code ans dbt many r2 heap o1 t1 wr) H ∧ va_D A (WM bd cI th c hid g code ans dbt many r2 heap o1 t1 wr) := ⟨0, 0, row, our, the, lv_sub hl [2, 3, 4, 1, 0] rfl, hinv, hP, hD⟩
  clear hl hinv hP hD
  obtain ⟨hl, hinv, hP, hD⟩ := hq9
  obtain ⟨n9_5, hn9⟩ : ∃ q : Nat, many - i < q := ⟨_, Nat.lt_succ_self _⟩
  induction n9_5 generalizing ls H locs i kp r2 o1 t1 with
  | zero => exact absurd hn9 (Nat.not_lt_zero _)
  | succ n9_5 ih5 =>
    obtain ⟨h1, h2⟩ := hinv; have hki := keep_le h2; have hri : r2 i = row i := h2.2.2 i (Nat.le_refl _); have hrx : i < many → r2 i < qq c := fun q => by rw [hri]; exact hrw i q
    refine lv_iload hx hb dX2_keep_5 (lv_at hl 4 rfl) ?_
    refine lv_aload_n hx hb dX2_keep_7 rfl (lv_at hl 0 rfl) ?_
    refine va_get (D := D) (ci := 2) (v := .int (nI (many))) (C := RX2) (T := TX2) (N := 12) hx hb hts hinX2 hown hK hP 0 rfl rfl 7 (by decide) lk68 (fun _ h9 => h9) rfl dX2_keep_8 ?_
    refine x_ge (tgt := 55) hx hb dX2_keep_11 (by decide) (by omega) (by omega) (fun c11 => ?_) (fun c11 => ?_)
    · skip
      refine lv_aload_n hx hb dX2_keep_55 rfl (lv_at hl 0 rfl) ?_
      refine lv_iload_n hx hb dX2_keep_56 rfl (lv_at hl 3 rfl) ?_
      refine va_put (D := D) (ci := 2) (v := .int (nI (kp))) (ty := .int) (C := RX2) (T := TX2) (N := 12) hx hb hts hinX2 tyX2 tyX2_ok nmX2 hown hK hP hD hS 0 rfl rfl 7 (by decide) lk68 (fun _ h9 => h9) rfl (by decide +kernel) rfl rfl (Nat.le_of_ble_eq_true rfl) dX2_keep_57 (fun H locs hP hD hS => ?_)
      replace hP : va_P D vwCl (WM bd cI th c hid g code ans dbt kp r2 heap o1 t1 wr) H := hP
      replace hD : va_D A (WM bd cI th c hid g code ans dbt kp r2 heap o1 t1 wr) := hD
      exact W.vret hx hb hr (fun t ht hW => ⟨⟨(kp, r2, o1, t1), rfl, (by
          have e9 : i = many := by omega
          rw [e9] at h2
          exact keep_row hR h2), ⟨by rw [ht]; exact hP, hD⟩⟩, hS.F ht⟩) hS.2.2 dX2_keep_60
    · skip
      refine lv_aload_n hx hb dX2_keep_14 rfl (lv_at hl 0 rfl) ?_
      refine lv_iload_n hx hb dX2_keep_15 rfl (lv_at hl 1 rfl) ?_
      refine lv_aload_n hx hb dX2_keep_16 rfl (lv_at hl 0 rfl) ?_
      refine va_get (D := D) (ci := 2) (v := .ref (bd 4)) (C := RX2) (T := TX2) (N := 12) hx hb hts hinX2 hown hK hP 0 rfl rfl 8 (by decide) lk26 (fun _ h9 => h9) rfl dX2_keep_17 ?_
      refine lv_iload hx hb dX2_keep_20 (lv_at hl 4 rfl) ?_
      refine x_iald hx hb hK hP 4 0 rfl rfl (i := i) (by omega) (by omega) dX2_keep_22 ?_
      refine va_calli (va_runV (As := [.int (nI (a)), .int (nI (r2 i))]) (rest := []) ⟨hx, hb, hml, hown, hts⟩ (c_X2_answerTo l D cI cZ cG cJ A bd wr th c hid g code ans dbt many r2 heap o1 t1 a (r2 i) (hc) (ha) ((hrx c11))) (cwV 2 hts gX2_keep_X2_answerTo rfl rfl rfl (by decide +kernel) ⟨Nat.le_of_ble_eq_true rfl, Nat.le_of_ble_eq_true rfl⟩) (preV (ci := 2) (q0 := 0) hB hS hP hD rfl rfl) rfl rfl hl.1 rfl (lv_room (Nat.le_of_ble_eq_true rfl)) dX2_keep_23 ⟨Nat.le_of_ble_eq_true rfl, Nat.le_of_ble_eq_true rfl⟩) hS (fun q _ h => h) (fun q h => h) (fun r_23 u_23 t9 H1 locs1 ht9 hvm9 hw_23 hBw hz9 hk9 hS => ?_)
      obtain ⟨hP, hD⟩ := hBw
      rw [ht9] at hP
      generalize H1 = H at hP hS ⊢
      generalize locs1 = locs at hS ⊢
      replace hP : va_P D vwCl (WM bd cI th c hid g code ans dbt many r2 heap u_23.1 u_23.2 wr) H := hP
      replace hD : va_D A (WM bd cI th c hid g code ans dbt many r2 heap u_23.1 u_23.2 wr) := hD
      refine x_ti (y := nI (pins c a (r2 i))) (hw_23.1) ?_
      have hpi := pins_le hc (ha) ((hrx c11))
      refine lv_iload_n hx hb dX2_keep_26 rfl (lv_at hl 2 rfl) ?_
      refine x_eq (tgt := 33) hx hb dX2_keep_27 (by decide) (by omega) (by omega) (fun c27 => ?_) (fun c27 => ?_)
      · skip
        refine lv_aload_n hx hb dX2_keep_33 rfl (lv_at hl 0 rfl) ?_
        refine va_get (D := D) (ci := 2) (v := .ref (bd 4)) (C := RX2) (T := TX2) (N := 12) hx hb hts hinX2 hown hK hP 0 rfl rfl 8 (by decide) lk26 (fun _ h9 => h9) rfl dX2_keep_34 ?_
        refine lv_iload_n hx hb dX2_keep_37 rfl (lv_at hl 3 rfl) ?_
        refine lv_aload_n hx hb dX2_keep_38 rfl (lv_at hl 0 rfl) ?_
        refine va_get (D := D) (ci := 2) (v := .ref (bd 4)) (C := RX2) (T := TX2) (N := 12) hx hb hts hinX2 hown hK hP 0 rfl rfl 8 (by decide) lk26 (fun _ h9 => h9) rfl dX2_keep_39 ?_
        refine lv_iload hx hb dX2_keep_42 (lv_at hl 4 rfl) ?_
        refine x_iald hx hb hK hP 4 0 rfl rfl (i := i) (by omega) (by omega) dX2_keep_44 ?_
        refine x_iast hx hb hK hP hD hS 4 0 rfl rfl (i := kp) (v := r2 i) (by omega) (by omega) dX2_keep_45 (fun H locs hP hD hS => ?_)
        replace hP : va_P D vwCl (WM bd cI th c hid g code ans dbt many (va_up r2 kp (r2 i)) heap u_23.1 u_23.2 wr) H := hP
        replace hD : va_D A (WM bd cI th c hid g code ans dbt many (va_up r2 kp (r2 i)) heap u_23.1 u_23.2 wr) := hD
        refine lv_iinc (v := nI (kp + 1)) (lv' := [(3, .int (nI (kp + 1))), (0, .ref (bd 0)), (1, .int (nI (a))), (2, .int (nI (v))), (4, .int (nI (i)))]) hx hb dX2_keep_46 hl (k := 3) rfl (nI_add _ _) (by decide) rfl (fun ls hl => ?_)
        refine lv_iinc (v := nI (i + 1)) (lv' := [(4, .int (nI (i + 1))), (3, .int (nI (kp + 1))), (0, .ref (bd 0)), (1, .int (nI (a))), (2, .int (nI (v)))]) hx hb dX2_keep_49 hl (k := 4) rfl (nI_add _ _) (by decide) rfl (fun ls hl => ?_)
        refine lv_goto (tgt := 5) hx hb dX2_keep_52 (by decide) ?_
        exact ih5 (i := i + 1) (kp := kp + 1) (r2 := (va_up r2 kp (r2 i))) (o1 := u_23.1) (t1 := u_23.2) (ls := ls) (hl := lv_sub hl [2, 3, 4, 1, 0] rfl) (H := H) (locs := locs) (hP := hP) (hD := hD) (hS := hS) (hinv := by
            refine ⟨by omega, ?_⟩
            rw [hri] at c27
            first | (rw [hri]; exact keep_s h2 (decide_eq_true c27)) | exact keep_n h2 (decide_eq_false c27)
          ) (hn9 := by
            omega
          )
      · skip
        refine lv_goto (tgt := 49) hx hb dX2_keep_30 (by decide) ?_
        refine lv_iinc (v := nI (i + 1)) (lv' := [(4, .int (nI (i + 1))), (0, .ref (bd 0)), (1, .int (nI (a))), (2, .int (nI (v))), (3, .int (nI (kp)))]) hx hb dX2_keep_49 hl (k := 4) rfl (nI_add _ _) (by decide) rfl (fun ls hl => ?_)
        refine lv_goto (tgt := 5) hx hb dX2_keep_52 (by decide) ?_
        exact ih5 (i := i + 1) (kp := kp) (r2 := r2) (o1 := u_23.1) (t1 := u_23.2) (ls := ls) (hl := lv_sub hl [1, 2, 3, 4, 0] rfl) (H := H) (locs := locs) (hP := hP) (hD := hD) (hS := hS) (hinv := by
            refine ⟨by omega, ?_⟩
            rw [hri] at c27
            first | (rw [hri]; exact keep_s h2 (decide_eq_true c27)) | exact keep_n h2 (decide_eq_false c27)
          ) (hn9 := by
            omega
          )

set_option maxHeartbeats 4000000 in
set_option maxRecDepth 100000 in
theorem c_X2_ofRow (l : Launch) (D : va_G) (cI cZ cG cJ : ClassId) (A : Nat → Prop) (bd : Nat → Nat) (wr : va_W) (th : Nat) (c : Nat) (hid : Int32) (g : Nat) (code : Nat → Nat) (ans : Nat → Nat) (dbt : Nat → Bool) (many : Nat) (row : Nat → Nat) (heap : Nat → Nat) (our : Nat → Nat) (the : Nat → Nat) (sb : Nat → Bool) (hc : c = 2 ∨ c = 3) (hR : RowS row many sb) (hsb : ∀ k, k < 81 → sb k = true → k < qq c) (hne : 0 < many) : Met l yX2_ofRow wsX2_ofRow ({ frames := 5, cells := 0, slots := 0, locals := 118 }) (va_Pc [.ref (bd 0)] (Iv D (TY cI cZ cG cJ) A (WM bd cI th c hid g code ans dbt many row heap our the wr))) (va_Qi (fun r (u : (Nat → Nat) × (Nat → Nat) × (Nat → Nat)) => r = lbR c sb true ∧ True) (fun u => Wd D A (WM bd cI th c hid g code ans dbt many row u.1 u.2.1 u.2.2 wr)) A) 0 0 A := by
  refine Met.ofW (cc := cX2_ofRow) (maxL := 5) (ret := (some .int)) (by decide) rfl ?_
  intro p e s m args below meth c9 s₁ B hml hv
  obtain ⟨rfl, hP, hD, hB⟩ := hv
  have hK := hB.1
  have hA := hB.2.1
  have hx := B.exec
  have hb := B.bytes
  have hr := B.returns
  have hts := atoms_spec (ws := wsX2_ofRow) B.pre
  have hown : s.vm.findClass RX2 = some m.cls := findClass_of_methodNamed B.named
  have hlocks := B.notSynchronized
  have hS : va_S A s.heap s.heap [] := va_S.rf
  have hinX2 : ∀ w ∈ wsX20, w ∈ wsX2_ofRow := by decide +kernel
  have lk26 := hts (.fieldLink RX2 26 "HiddenCandlesModel" "row" "[I") (by decide +kernel)
  have lk68 := hts (.fieldLink RX2 68 "HiddenCandlesModel" "many" "I") (by decide +kernel)
  have hl := lv_entry ([.ref (bd 0)]) (n := 5) (Nat.le_of_ble_eq_true rfl)
  rw [lg_entry_eq]
  generalize (lg_sl ([.ref (bd 0)]) ++ List.replicate (5 - (lg_sl ([.ref (bd 0)])).length) Slot.unset).toArray = ls at hl ⊢
  have hl : lv_has ls 5 [(0, .ref (bd 0))] := hl
  obtain ⟨H, eH⟩ : ∃ q, q = s.heap := ⟨_, rfl⟩
  obtain ⟨locs, eL⟩ : ∃ q : List Loc, q = [] := ⟨_, rfl⟩
  replace hP : va_P D vwCl (WM bd cI th c hid g code ans dbt many row heap our the wr) H := by rw [eH]; exact hP
  replace hS : va_S A s.heap H locs := by rw [eH, eL]; exact hS
  rw [show W p l e _ s m _ below meth c9 s.heap [] = W p l e _ s m _ below meth c9 H locs from by rw [eH, eL]]
  clear eH eL
  have hq := qq_in hc
  have hm81 : many ≤ 81 := by rw [hR.1]; exact cN_le _ _
  have hrw : ∀ j, j < many → row j < qq c := fun j hj => by obtain ⟨k, a1, a2, a3, a4⟩ := row_in hR j hj; rw [a4]; exact hsb k a1 a2
  refine lv_iconst (v := (-1)) hx hb dX2_ofRow_0 (by decide) ?_
  refine lv_istore_n (lv' := [(1, .int ((-1))), (0, .ref (bd 0))]) hx hb dX2_ofRow_1 rfl hl (by decide) rfl (fun ls hl => ?_)
  refine lv_iconst (v := nI (0)) hx hb dX2_ofRow_2 (by decide) ?_
  refine lv_istore_n (lv' := [(2, .int (nI (0))), (1, .int ((-1))), (0, .ref (bd 0))]) hx hb dX2_ofRow_3 rfl hl (by decide) rfl (fun ls hl => ?_)
  refine lv_iconst (v := nI (0)) hx hb dX2_ofRow_4 (by decide) ?_
  refine lv_istore_n (lv' := [(3, .int (nI (0))), (2, .int (nI (0))), (1, .int ((-1))), (0, .ref (bd 0))]) hx hb dX2_ofRow_5 rfl hl (by decide) rfl (fun ls hl => ?_)
  -- loop at 6
  have hinv : 0 ≤ many ∧ (-1) = (lrS c sb row 0).1 ∧ (0 < 0 → 0 = (lrS c sb row 0).2.2 ∧ ¬ ((-1) : Int32) = -1) ∧ 0 ≤ 82 := by
    exact ⟨Nat.zero_le _, rfl, fun q => absurd q (Nat.lt_irrefl 0), by omega⟩
  obtain ⟨i, be, le, h3, o1, t1, hq9⟩ : ∃ (i : Nat) (be : Int32) (le : Nat) (h3 : Nat → Nat) (o1 : Nat → Nat) (t1 : Nat → Nat), lv_has ls 5 [(0, .ref (bd 0)), (1, .int (be)), (2, .int (nI (le))), (3, .int (nI (i)))] ∧ (i ≤ many ∧ be = (lrS c sb row i).1 ∧ (0 < i → le = (lrS c sb row i).2.2 ∧ ¬ (be : Int32) = -1) ∧ le ≤ 82) ∧ va_P D vwCl (WM bd cI th c hid g code ans dbt many row h3 o1 t1 wr) H ∧ va_D A (WM bd cI th c hid g code ans dbt many row h3 o1 t1 wr) := ⟨0, (-1), 0, heap, our, the, lv_sub hl [3, 2, 1, 0] rfl, hinv, hP, hD⟩
  clear hl hinv hP hD
  obtain ⟨hl, hinv, hP, hD⟩ := hq9
  obtain ⟨n9_6, hn9⟩ : ∃ q : Nat, many - i < q := ⟨_, Nat.lt_succ_self _⟩
  induction n9_6 generalizing ls H locs i be le h3 o1 t1 with
  | zero => exact absurd hn9 (Nat.not_lt_zero _)
  | succ n9_6 ih6 =>
    obtain ⟨h1, h2, h3l, h4⟩ := hinv; have hrq := hrw
    refine lv_iload_n hx hb dX2_ofRow_6 rfl (lv_at hl 3 rfl) ?_
    refine lv_aload_n hx hb dX2_ofRow_7 rfl (lv_at hl 0 rfl) ?_
    refine va_get (D := D) (ci := 2) (v := .int (nI (many))) (C := RX2) (T := TX2) (N := 12) hx hb hts hinX2 hown hK hP 0 rfl rfl 7 (by decide) lk68 (fun _ h9 => h9) rfl dX2_ofRow_8 ?_
    refine x_ge (tgt := 56) hx hb dX2_ofRow_11 (by decide) (by omega) (by omega) (fun c11 => ?_) (fun c11 => ?_)
    · skip
      refine lv_iload_n hx hb dX2_ofRow_56 rfl (lv_at hl 1 rfl) ?_
      exact W.iret (v := be) hx hb hr (fun t ht hW => ⟨⟨_, (h3, o1, t1), rfl, (by
          have e9 : i = many := by omega
          exact ⟨by rw [h2, e9]; exact lrs_lb hq.2 hR hsb hne, trivial⟩), ⟨by rw [ht]; exact hP, hD⟩⟩, hS.F ht⟩) hS.2.2 dX2_ofRow_57
    · skip
      refine lv_aload_n hx hb dX2_ofRow_14 rfl (lv_at hl 0 rfl) ?_
      refine lv_aload_n hx hb dX2_ofRow_15 rfl (lv_at hl 0 rfl) ?_
      refine va_get (D := D) (ci := 2) (v := .ref (bd 4)) (C := RX2) (T := TX2) (N := 12) hx hb hts hinX2 hown hK hP 0 rfl rfl 8 (by decide) lk26 (fun _ h9 => h9) rfl dX2_ofRow_16 ?_
      refine lv_iload_n hx hb dX2_ofRow_19 rfl (lv_at hl 3 rfl) ?_
      refine x_iald hx hb hK hP 4 0 rfl rfl (i := i) (by omega) (by omega) dX2_ofRow_20 ?_
      refine va_calli (va_runV (As := [.int (nI (row i))]) (rest := []) ⟨hx, hb, hml, hown, hts⟩ (c_X2_greatest l D cI cZ cG cJ A bd wr th c hid g code ans dbt many row h3 o1 t1 (row i) sb (hc) ((hrw i c11)) (hR) (hsb)) (cwV 1 hts gX2_ofRow_X2_greatest rfl rfl rfl (by decide +kernel) ⟨Nat.le_of_ble_eq_true rfl, Nat.le_of_ble_eq_true rfl⟩) (preV (ci := 2) (q0 := 0) hB hS hP hD rfl rfl) rfl rfl hl.1 rfl (lv_room (Nat.le_of_ble_eq_true rfl)) dX2_ofRow_21 ⟨Nat.le_of_ble_eq_true rfl, Nat.le_of_ble_eq_true rfl⟩) hS (fun q _ h => h) (fun q h => h) (fun r_21 u_21 t9 H1 locs1 ht9 hvm9 hw_21 hBw hz9 hk9 hS => ?_)
      obtain ⟨hP, hD⟩ := hBw
      rw [ht9] at hP
      generalize H1 = H at hP hS ⊢
      generalize locs1 = locs at hS ⊢
      replace hP : va_P D vwCl (WM bd cI th c hid g code ans dbt many row u_21.1 u_21.2.1 u_21.2.2 wr) H := hP
      replace hD : va_D A (WM bd cI th c hid g code ans dbt many row u_21.1 u_21.2.1 u_21.2.2 wr) := hD
      refine x_ti (y := nI (gh c (row i) sb)) (hw_21.1) ?_
      have hgl := gh_le81 c (row i) sb
      refine lv_istore (lv' := [(4, .int (nI (gh c (row i) sb))), (0, .ref (bd 0)), (1, .int (be)), (2, .int (nI (le))), (3, .int (nI (i)))]) hx hb dX2_ofRow_24 hl (by decide) rfl (fun ls hl => ?_)
      refine lv_iload_n hx hb dX2_ofRow_26 rfl (lv_at hl 2 rfl) ?_
      refine lv_iconst (v := (-1)) hx hb dX2_ofRow_27 (by decide) ?_
      refine lv_icmp_eq (tgt := 40) hx hb dX2_ofRow_28 (by decide) (fun c28 => ?_) (fun c28 => ?_)
      · skip
        refine lv_aload_n hx hb dX2_ofRow_40 rfl (lv_at hl 1 rfl) ?_
        refine va_get (D := D) (ci := 2) (v := .ref (bd 4)) (C := RX2) (T := TX2) (N := 12) hx hb hts hinX2 hown hK hP 0 rfl rfl 8 (by decide) lk26 (fun _ h9 => h9) rfl dX2_ofRow_41 ?_
        refine lv_iload_n hx hb dX2_ofRow_44 rfl (lv_at hl 4 rfl) ?_
        refine x_iald hx hb hK hP 4 0 rfl rfl (i := i) (by omega) (by omega) dX2_ofRow_45 ?_
        refine lv_istore_n (lv' := [(1, .int (nI (row i))), (4, .int (nI (gh c (row i) sb))), (0, .ref (bd 0)), (2, .int (nI (le))), (3, .int (nI (i)))]) hx hb dX2_ofRow_46 rfl hl (by decide) rfl (fun ls hl => ?_)
        refine lv_iload hx hb dX2_ofRow_47 (lv_at hl 1 rfl) ?_
        refine lv_istore_n (lv' := [(2, .int (nI (gh c (row i) sb))), (1, .int (nI (row i))), (4, .int (nI (gh c (row i) sb))), (0, .ref (bd 0)), (3, .int (nI (i)))]) hx hb dX2_ofRow_49 rfl hl (by decide) rfl (fun ls hl => ?_)
        refine lv_iinc (v := nI (i + 1)) (lv' := [(3, .int (nI (i + 1))), (2, .int (nI (gh c (row i) sb))), (1, .int (nI (row i))), (4, .int (nI (gh c (row i) sb))), (0, .ref (bd 0))]) hx hb dX2_ofRow_50 hl (k := 4) rfl (nI_add _ _) (by decide) rfl (fun ls hl => ?_)
        refine lv_goto (tgt := 6) hx hb dX2_ofRow_53 (by decide) ?_
        exact ih6 (i := i + 1) (be := nI (row i)) (le := gh c (row i) sb) (h3 := u_21.1) (o1 := u_21.2.1) (t1 := u_21.2.2) (ls := ls) (hl := lv_sub hl [4, 2, 1, 0] rfl) (H := H) (locs := locs) (hP := hP) (hD := hD) (hS := hS) (hinv := by
            refine ⟨by omega, ?_⟩
            first | exact lrs_no h2 h3l c28 c34 h4 | exact lrs_up2 h2 h3l c28 c34 hgl (by have := hrw i c11; omega) | exact lrs_up1 h2 h3l c28 hgl (by have := hrw i c11; omega)
          ) (hn9 := by
            omega
          )
      · skip
        refine lv_iload hx hb dX2_ofRow_31 (lv_at hl 0 rfl) ?_
        refine lv_iload_n hx hb dX2_ofRow_33 rfl (lv_at hl 3 rfl) ?_
        refine x_lt (tgt := 40) hx hb dX2_ofRow_34 (by decide) (by omega) (by omega) (fun c34 => ?_) (fun c34 => ?_)
        · skip
          refine lv_aload_n hx hb dX2_ofRow_40 rfl (lv_at hl 1 rfl) ?_
          refine va_get (D := D) (ci := 2) (v := .ref (bd 4)) (C := RX2) (T := TX2) (N := 12) hx hb hts hinX2 hown hK hP 0 rfl rfl 8 (by decide) lk26 (fun _ h9 => h9) rfl dX2_ofRow_41 ?_
          refine lv_iload_n hx hb dX2_ofRow_44 rfl (lv_at hl 4 rfl) ?_
          refine x_iald hx hb hK hP 4 0 rfl rfl (i := i) (by omega) (by omega) dX2_ofRow_45 ?_
          refine lv_istore_n (lv' := [(1, .int (nI (row i))), (4, .int (nI (gh c (row i) sb))), (0, .ref (bd 0)), (2, .int (nI (le))), (3, .int (nI (i)))]) hx hb dX2_ofRow_46 rfl hl (by decide) rfl (fun ls hl => ?_)
          refine lv_iload hx hb dX2_ofRow_47 (lv_at hl 1 rfl) ?_
          refine lv_istore_n (lv' := [(2, .int (nI (gh c (row i) sb))), (1, .int (nI (row i))), (4, .int (nI (gh c (row i) sb))), (0, .ref (bd 0)), (3, .int (nI (i)))]) hx hb dX2_ofRow_49 rfl hl (by decide) rfl (fun ls hl => ?_)
          refine lv_iinc (v := nI (i + 1)) (lv' := [(3, .int (nI (i + 1))), (2, .int (nI (gh c (row i) sb))), (1, .int (nI (row i))), (4, .int (nI (gh c (row i) sb))), (0, .ref (bd 0))]) hx hb dX2_ofRow_50 hl (k := 4) rfl (nI_add _ _) (by decide) rfl (fun ls hl => ?_)
          refine lv_goto (tgt := 6) hx hb dX2_ofRow_53 (by decide) ?_
          exact ih6 (i := i + 1) (be := nI (row i)) (le := gh c (row i) sb) (h3 := u_21.1) (o1 := u_21.2.1) (t1 := u_21.2.2) (ls := ls) (hl := lv_sub hl [4, 2, 1, 0] rfl) (H := H) (locs := locs) (hP := hP) (hD := hD) (hS := hS) (hinv := by
              refine ⟨by omega, ?_⟩
              first | exact lrs_no h2 h3l c28 c34 h4 | exact lrs_up2 h2 h3l c28 c34 hgl (by have := hrw i c11; omega) | exact lrs_up1 h2 h3l c28 hgl (by have := hrw i c11; omega)
            ) (hn9 := by
              omega
            )
        · skip
          refine lv_goto (tgt := 50) hx hb dX2_ofRow_37 (by decide) ?_
          refine lv_iinc (v := nI (i + 1)) (lv' := [(3, .int (nI (i + 1))), (4, .int (nI (gh c (row i) sb))), (0, .ref (bd 0)), (1, .int (be)), (2, .int (nI (le)))]) hx hb dX2_ofRow_50 hl (k := 4) rfl (nI_add _ _) (by decide) rfl (fun ls hl => ?_)
          refine lv_goto (tgt := 6) hx hb dX2_ofRow_53 (by decide) ?_
          exact ih6 (i := i + 1) (be := be) (le := le) (h3 := u_21.1) (o1 := u_21.2.1) (t1 := u_21.2.2) (ls := ls) (hl := lv_sub hl [2, 3, 4, 0] rfl) (H := H) (locs := locs) (hP := hP) (hD := hD) (hS := hS) (hinv := by
              refine ⟨by omega, ?_⟩
              first | exact lrs_no h2 h3l c28 c34 h4 | exact lrs_up2 h2 h3l c28 c34 hgl (by have := hrw i c11; omega) | exact lrs_up1 h2 h3l c28 hgl (by have := hrw i c11; omega)
            ) (hn9 := by
              omega
            )

set_option maxHeartbeats 4000000 in
set_option maxRecDepth 100000 in
theorem c_X2_takes (l : Launch) (D : va_G) (cI cZ cG cJ : ClassId) (A : Nat → Prop) (bd : Nat → Nat) (wr : va_W) (th : Nat) (c : Nat) (hid : Int32) (g : Nat) (code : Nat → Nat) (ans : Nat → Nat) (dbt : Nat → Bool) (many : Nat) (row : Nat → Nat) (heap : Nat → Nat) (our : Nat → Nat) (the : Nat → Nat) (v : Int32) (f : Int32) (hc : c = 2 ∨ c = 3) : Met l yX2_takes wsX2_takes ({ frames := 6, cells := 0, slots := 0, locals := 142 }) (va_Pc [.ref (bd 0), .int (v), .int (f)] (Iv D (TY cI cZ cG cJ) A (WM bd cI th c hid g code ans dbt many row heap our the wr))) (va_Qi (fun r (u : Nat × MSt) => (u.1 = 0 ∧ ∃ k k2 : Nat, k < qq c ∧ v = nI k ∧ k2 < qq c ∧ f = nI k2 ∧ tkR c k k2 r) ∨ (u.1 = 1 ∧ (hasC c v = false ∨ hasC c f = false))) (fun u => Wd D A (WM bd cI u.1 c hid g code ans dbt u.2.1 u.2.2.1 u.2.2.2.1 u.2.2.2.2.1 u.2.2.2.2.2 wr)) A) 0 0 A := by
  refine Met.ofW (cc := cX2_takes) (maxL := 5) (ret := (some .int)) (by decide) rfl ?_
  intro p e s m args below meth c9 s₁ B hml hv
  obtain ⟨rfl, hP, hD, hB⟩ := hv
  have hK := hB.1
  have hA := hB.2.1
  have hx := B.exec
  have hb := B.bytes
  have hr := B.returns
  have hts := atoms_spec (ws := wsX2_takes) B.pre
  have hown : s.vm.findClass RX2 = some m.cls := findClass_of_methodNamed B.named
  have hlocks := B.notSynchronized
  have hS : va_S A s.heap s.heap [] := va_S.rf
  have hinX2 : ∀ w ∈ wsX20, w ∈ wsX2_takes := by decide +kernel
  have lk26 := hts (.fieldLink RX2 26 "HiddenCandlesModel" "row" "[I") (by decide +kernel)
  have lk38 := hts (.fieldLink RX2 38 "HiddenCandlesModel" "thrown" "I") (by decide +kernel)
  have lk68 := hts (.fieldLink RX2 68 "HiddenCandlesModel" "many" "I") (by decide +kernel)
  have hl := lv_entry ([.ref (bd 0), .int (v), .int (f)]) (n := 5) (Nat.le_of_ble_eq_true rfl)
  rw [lg_entry_eq]
  generalize (lg_sl ([.ref (bd 0), .int (v), .int (f)]) ++ List.replicate (5 - (lg_sl ([.ref (bd 0), .int (v), .int (f)])).length) Slot.unset).toArray = ls at hl ⊢
  have hl : lv_has ls 5 [(0, .ref (bd 0)), (1, .int (v)), (2, .int (f))] := hl
  obtain ⟨H, eH⟩ : ∃ q, q = s.heap := ⟨_, rfl⟩
  obtain ⟨locs, eL⟩ : ∃ q : List Loc, q = [] := ⟨_, rfl⟩
  replace hP : va_P D vwCl (WM bd cI th c hid g code ans dbt many row heap our the wr) H := by rw [eH]; exact hP
  replace hS : va_S A s.heap H locs := by rw [eH, eL]; exact hS
  rw [show W p l e _ s m _ below meth c9 s.heap [] = W p l e _ s m _ below meth c9 H locs from by rw [eH, eL]]
  clear eH eL
  have hq := qq_in hc
  refine lv_aload_n hx hb dX2_takes_0 rfl (lv_at hl 0 rfl) ?_
  refine lv_iconst (v := nI (0)) hx hb dX2_takes_1 (by decide) ?_
  refine va_put (D := D) (ci := 2) (v := .int (nI (0))) (ty := .int) (C := RX2) (T := TX2) (N := 12) hx hb hts hinX2 tyX2 tyX2_ok nmX2 hown hK hP hD hS 0 rfl rfl 0 (by decide) lk38 (fun _ h9 => h9) rfl (by decide +kernel) rfl rfl (Nat.le_of_ble_eq_true rfl) dX2_takes_2 (fun H locs hP hD hS => ?_)
  replace hP : va_P D vwCl (WM bd cI 0 c hid g code ans dbt many row heap our the wr) H := hP
  replace hD : va_D A (WM bd cI 0 c hid g code ans dbt many row heap our the wr) := hD
  refine lv_aload_n hx hb dX2_takes_5 rfl (lv_at hl 0 rfl) ?_
  refine lv_iload_n hx hb dX2_takes_6 rfl (lv_at hl 1 rfl) ?_
  refine x_csi (va_runV (As := [.int (v)]) (rest := []) ⟨hx, hb, hml, hown, hts⟩ (c_X2_isCode l D cI cZ cG cJ A bd wr 0 c hid g code ans dbt many row heap our the v (hc)) (cwV 1 hts gX2_takes_X2_isCode rfl rfl rfl (by decide +kernel) ⟨Nat.le_of_ble_eq_true rfl, Nat.le_of_ble_eq_true rfl⟩) (preV (ci := 2) (q0 := 0) hB hS hP hD rfl rfl) rfl rfl hl.1 rfl (lv_room (Nat.le_of_ble_eq_true rfl)) dX2_takes_7 ⟨Nat.le_of_ble_eq_true rfl, Nat.le_of_ble_eq_true rfl⟩) ?_
  refine x_zeq (tgt := 21) hx hb dX2_takes_10 (by decide) (fun c10 => ?_) (fun c10 => ?_)
  · skip
    refine lv_aload_n hx hb dX2_takes_21 rfl (lv_at hl 0 rfl) ?_
    refine lv_iconst (v := nI (1)) hx hb dX2_takes_22 (by decide) ?_
    refine va_calli (va_runV (As := [.int (nI (1))]) (rest := []) ⟨hx, hb, hml, hown, hts⟩ (c_X2_no l D cI cZ cG cJ A bd wr 0 c hid g code ans dbt many row heap our the 1 ) (cwV 1 hts gX2_takes_X2_no rfl rfl rfl (by decide +kernel) ⟨Nat.le_of_ble_eq_true rfl, Nat.le_of_ble_eq_true rfl⟩) (preV (ci := 2) (q0 := 0) hB hS hP hD rfl rfl) rfl rfl hl.1 rfl (lv_room (Nat.le_of_ble_eq_true rfl)) dX2_takes_23 ⟨Nat.le_of_ble_eq_true rfl, Nat.le_of_ble_eq_true rfl⟩) hS (fun q _ h => h) (fun q h => h) (fun r_23 u_23 t9 H1 locs1 ht9 hvm9 hw_23 hBw hz9 hk9 hS => ?_)
    obtain ⟨hP, hD⟩ := hBw
    rw [ht9] at hP
    generalize H1 = H at hP hS ⊢
    generalize locs1 = locs at hS ⊢
    replace hP : va_P D vwCl (WM bd cI 1 c hid g code ans dbt many row heap our the wr) H := hP
    replace hD : va_D A (WM bd cI 1 c hid g code ans dbt many row heap our the wr) := hD
    refine x_ti (y := nI (0)) (hw_23.1) ?_
    exact W.iret (v := nI (0)) hx hb hr (fun t ht hW => ⟨⟨_, (1, (many, row, heap, our, the)), rfl, (by
        exact Or.inr ⟨rfl, by first | exact Or.inl c10 | exact Or.inr c18⟩), ⟨by rw [ht]; exact hP, hD⟩⟩, hS.F ht⟩) hS.2.2 dX2_takes_26
  · skip
    refine lv_aload_n hx hb dX2_takes_13 rfl (lv_at hl 0 rfl) ?_
    refine lv_iload_n hx hb dX2_takes_14 rfl (lv_at hl 2 rfl) ?_
    refine x_csi (va_runV (As := [.int (f)]) (rest := []) ⟨hx, hb, hml, hown, hts⟩ (c_X2_isCode l D cI cZ cG cJ A bd wr 0 c hid g code ans dbt many row heap our the f (hc)) (cwV 1 hts gX2_takes_X2_isCode rfl rfl rfl (by decide +kernel) ⟨Nat.le_of_ble_eq_true rfl, Nat.le_of_ble_eq_true rfl⟩) (preV (ci := 2) (q0 := 0) hB hS hP hD rfl rfl) rfl rfl hl.1 rfl (lv_room (Nat.le_of_ble_eq_true rfl)) dX2_takes_15 ⟨Nat.le_of_ble_eq_true rfl, Nat.le_of_ble_eq_true rfl⟩) ?_
    refine x_zne (tgt := 27) hx hb dX2_takes_18 (by decide) (fun c18 => ?_) (fun c18 => ?_)
    · skip
      obtain ⟨k, hk, rfl⟩ := hasC_of hc c10
      obtain ⟨k2, hk2, rfl⟩ := hasC_of hc c18
      refine lv_aload_n hx hb dX2_takes_27 rfl (lv_at hl 0 rfl) ?_
      refine lv_iconst (v := nI (0)) hx hb dX2_takes_28 (by decide) ?_
      refine va_put (D := D) (ci := 2) (v := .int (nI (0))) (ty := .int) (C := RX2) (T := TX2) (N := 12) hx hb hts hinX2 tyX2 tyX2_ok nmX2 hown hK hP hD hS 0 rfl rfl 7 (by decide) lk68 (fun _ h9 => h9) rfl (by decide +kernel) rfl rfl (Nat.le_of_ble_eq_true rfl) dX2_takes_29 (fun H locs hP hD hS => ?_)
      replace hP : va_P D vwCl (WM bd cI 0 c hid g code ans dbt 0 row heap our the wr) H := hP
      replace hD : va_D A (WM bd cI 0 c hid g code ans dbt 0 row heap our the wr) := hD
      refine lv_iconst (v := nI (0)) hx hb dX2_takes_32 (by decide) ?_
      refine lv_istore_n (lv' := [(3, .int (nI (0))), (0, .ref (bd 0)), (1, .int (nI (k))), (2, .int (nI (k2)))]) hx hb dX2_takes_33 rfl hl (by decide) rfl (fun ls hl => ?_)
      -- loop at 34
      have hinv : 0 ≤ qq c ∧ 0 = 0 ∧ ∀ z, z < 0 → row z = z := by
        exact ⟨Nat.zero_le _, rfl, fun z hz => absurd hz (Nat.not_lt_zero _)⟩
      obtain ⟨i, m2, r2, hq9⟩ : ∃ (i : Nat) (m2 : Nat) (r2 : Nat → Nat), lv_has ls 5 [(0, .ref (bd 0)), (1, .int (nI (k))), (2, .int (nI (k2))), (3, .int (nI (i)))] ∧ (i ≤ qq c ∧ m2 = i ∧ ∀ z, z < i → r2 z = z) ∧ va_P D vwCl (WM bd cI 0 c hid g code ans dbt m2 r2 heap our the wr) H ∧ va_D A (WM bd cI 0 c hid g code ans dbt m2 r2 heap our the wr) := ⟨0, 0, row, lv_sub hl [1, 2, 3, 0] rfl, hinv, hP, hD⟩
      clear hl hinv hP hD
      obtain ⟨hl, hinv, hP, hD⟩ := hq9
      obtain ⟨n9_34, hn9⟩ : ∃ q : Nat, qq c - i < q := ⟨_, Nat.lt_succ_self _⟩
      induction n9_34 generalizing ls H locs i m2 r2 with
      | zero => exact absurd hn9 (Nat.not_lt_zero _)
      | succ n9_34 ih34 =>
        obtain ⟨h1, h2, h3⟩ := hinv
        refine lv_iload_n hx hb dX2_takes_34 rfl (lv_at hl 3 rfl) ?_
        refine lv_aload_n hx hb dX2_takes_35 rfl (lv_at hl 0 rfl) ?_
        refine x_csi (va_runV (As := []) (rest := [.int (nI (i))]) ⟨hx, hb, hml, hown, hts⟩ (c_X2_codes l D cI cZ cG cJ A bd wr 0 c hid g code ans dbt m2 r2 heap our the ) (cwV 0 hts gX2_takes_X2_codes rfl rfl rfl (by decide +kernel) ⟨Nat.le_of_ble_eq_true rfl, Nat.le_of_ble_eq_true rfl⟩) (preV (ci := 2) (q0 := 0) hB hS hP hD rfl rfl) rfl rfl hl.1 rfl (lv_room (Nat.le_of_ble_eq_true rfl)) dX2_takes_36 ⟨Nat.le_of_ble_eq_true rfl, Nat.le_of_ble_eq_true rfl⟩) ?_
        refine x_ge (tgt := 68) hx hb dX2_takes_39 (by decide) (by omega) (by omega) (fun c39 => ?_) (fun c39 => ?_)
        · skip
          refine lv_iload_n hx hb dX2_takes_68 rfl (lv_at hl 2 rfl) ?_
          refine lv_istore_n (lv' := [(3, .int (nI (k2))), (0, .ref (bd 0)), (1, .int (nI (k))), (2, .int (nI (k2)))]) hx hb dX2_takes_69 rfl hl (by decide) rfl (fun ls hl => ?_)
          refine lv_iconst (v := nI (1)) hx hb dX2_takes_70 (by decide) ?_
          refine lv_istore (lv' := [(4, .int (nI (1))), (3, .int (nI (k2))), (0, .ref (bd 0)), (1, .int (nI (k))), (2, .int (nI (k2)))]) hx hb dX2_takes_71 hl (by decide) rfl (fun ls hl => ?_)
          -- loop at 73
          have hinv : 1 = 0 + 1 ∧ k2 = (tkP c k k2 0).2 ∧ RowS r2 m2 (tkP c k k2 0).1 ∧ ∀ m, m < 0 → ¬ (tkP c k k2 m).2 = k := by
            have e9 : m2 = qq c := by omega
            exact ⟨rfl, rfl, row_all hq.2 e9 (fun z hz => h3 z (by omega)), fun m hm => absurd hm (Nat.not_lt_zero _)⟩
          obtain ⟨n, tt9, xx, m3, r3, h3, o1, t1, hq9⟩ : ∃ (n : Nat) (tt9 : Nat) (xx : Nat) (m3 : Nat) (r3 : Nat → Nat) (h3 : Nat → Nat) (o1 : Nat → Nat) (t1 : Nat → Nat), lv_has ls 5 [(0, .ref (bd 0)), (1, .int (nI (k))), (2, .int (nI (k2))), (3, .int (nI (xx))), (4, .int (nI (tt9)))] ∧ (tt9 = n + 1 ∧ xx = (tkP c k k2 n).2 ∧ RowS r3 m3 (tkP c k k2 n).1 ∧ ∀ m, m < n → ¬ (tkP c k k2 m).2 = k) ∧ va_P D vwCl (WM bd cI 0 c hid g code ans dbt m3 r3 h3 o1 t1 wr) H ∧ va_D A (WM bd cI 0 c hid g code ans dbt m3 r3 h3 o1 t1 wr) := ⟨0, 1, k2, m2, r2, heap, our, the, lv_sub hl [2, 3, 4, 1, 0] rfl, hinv, hP, hD⟩
          clear hl hinv hP hD
          obtain ⟨hl, hinv, hP, hD⟩ := hq9
          obtain ⟨n9_73, hn9⟩ : ∃ q : Nat, 81 - n < q := ⟨_, Nat.lt_succ_self _⟩
          induction n9_73 generalizing ls H locs n tt9 xx m3 r3 h3 o1 t1 with
          | zero => exact absurd hn9 (Nat.not_lt_zero _)
          | succ n9_73 ih73 =>
            obtain ⟨ht9, hxx, hR3, hno⟩ := hinv; have hnb := tk_bound hc hk hk2 n hno; have hti := tk_inv hc hk hk2 n hno; have hxq : xx < qq c := by rw [hxx]; exact hti.2.1
            refine lv_iload_n hx hb dX2_takes_73 rfl (lv_at hl 3 rfl) ?_
            refine lv_iload_n hx hb dX2_takes_74 rfl (lv_at hl 1 rfl) ?_
            refine x_eq (tgt := 100) hx hb dX2_takes_75 (by decide) (by omega) (by omega) (fun c75 => ?_) (fun c75 => ?_)
            · skip
              refine lv_iload hx hb dX2_takes_100 (lv_at hl 4 rfl) ?_
              exact W.iret (v := nI (tt9)) hx hb hr (fun t ht hW => ⟨⟨_, (0, (m3, r3, h3, o1, t1)), rfl, (by
                  exact Or.inl ⟨rfl, k, k2, hk, rfl, hk2, rfl, ⟨n, by omega, hno, by rw [← hxx]; exact c75, by rw [ht9]⟩⟩), ⟨by rw [ht]; exact hP, hD⟩⟩, hS.F ht⟩) hS.2.2 dX2_takes_102
            · skip
              refine lv_aload_n hx hb dX2_takes_78 rfl (lv_at hl 0 rfl) ?_
              refine lv_iload_n hx hb dX2_takes_79 rfl (lv_at hl 3 rfl) ?_
              refine lv_aload_n hx hb dX2_takes_80 rfl (lv_at hl 0 rfl) ?_
              refine lv_iload_n hx hb dX2_takes_81 rfl (lv_at hl 3 rfl) ?_
              refine lv_iload_n hx hb dX2_takes_82 rfl (lv_at hl 1 rfl) ?_
              refine va_calli (va_runV (As := [.int (nI (xx)), .int (nI (k))]) (rest := [.int (nI (xx)), .ref (bd 0)]) ⟨hx, hb, hml, hown, hts⟩ (c_X2_answerTo l D cI cZ cG cJ A bd wr 0 c hid g code ans dbt m3 r3 h3 o1 t1 xx k (hc) (hxq) (hk)) (cwV 2 hts gX2_takes_X2_answerTo rfl rfl rfl (by decide +kernel) ⟨Nat.le_of_ble_eq_true rfl, Nat.le_of_ble_eq_true rfl⟩) (preV (ci := 2) (q0 := 0) hB hS hP hD rfl rfl) rfl rfl hl.1 rfl (lv_room (Nat.le_of_ble_eq_true rfl)) dX2_takes_83 ⟨Nat.le_of_ble_eq_true rfl, Nat.le_of_ble_eq_true rfl⟩) hS (fun q _ h => h) (fun q h => h) (fun r_83 u_83 t9 H1 locs1 ht9 hvm9 hw_83 hBw hz9 hk9 hS => ?_)
              obtain ⟨hP, hD⟩ := hBw
              rw [ht9] at hP
              generalize H1 = H at hP hS ⊢
              generalize locs1 = locs at hS ⊢
              replace hP : va_P D vwCl (WM bd cI 0 c hid g code ans dbt m3 r3 h3 u_83.1 u_83.2 wr) H := hP
              replace hD : va_D A (WM bd cI 0 c hid g code ans dbt m3 r3 h3 u_83.1 u_83.2 wr) := hD
              refine x_ti (y := nI (pins c xx k)) (hw_83.1) ?_
              have hpi := pins_le hc (hxq) (hk)
              refine va_callv (va_runV (As := [.int (nI (xx)), .int (nI (pins c xx k))]) (rest := []) ⟨hx, hb, hml, hown, hts⟩ (c_X2_keep l D cI cZ cG cJ A bd wr 0 c hid g code ans dbt m3 r3 h3 u_83.1 u_83.2 xx (pins c xx k) ((tkP c k k2 n).1) (hc) (hxq) (by omega) (hR3) (fun z _ q => hti.2.2.2.2 z q)) (cwV 2 hts gX2_takes_X2_keep rfl rfl rfl (by decide +kernel) ⟨Nat.le_of_ble_eq_true rfl, Nat.le_of_ble_eq_true rfl⟩) (preV (ci := 2) (q0 := 0) hB hS hP hD rfl rfl) rfl rfl hl.1 rfl (lv_room (Nat.le_of_ble_eq_true rfl)) dX2_takes_86 ⟨Nat.le_of_ble_eq_true rfl, Nat.le_of_ble_eq_true rfl⟩) hS (fun q _ h => h) (fun q h => h) (fun u_86 t9 H1 locs1 ht9 hvm9 hw_86 hBw hz9 hk9 hS => ?_)
              obtain ⟨hP, hD⟩ := hBw
              rw [ht9] at hP
              generalize H1 = H at hP hS ⊢
              generalize locs1 = locs at hS ⊢
              replace hP : va_P D vwCl (WM bd cI 0 c hid g code ans dbt u_86.1 u_86.2.1 h3 u_86.2.2.1 u_86.2.2.2 wr) H := hP
              replace hD : va_D A (WM bd cI 0 c hid g code ans dbt u_86.1 u_86.2.1 h3 u_86.2.2.1 u_86.2.2.2 wr) := hD
              have hs7 : RowS u_86.2.1 u_86.1 (tkP c k k2 (n + 1)).1 := by have h := hw_86; rw [hxx] at h; exact h
              have hti2 := tk_inv hc hk hk2 (n + 1) (tk_no hno (by rw [← hxx]; exact c75))
              have hne : 0 < u_86.1 := by rw [hs7.1]; exact cN_pos (by omega : k < 81) hti2.1
              refine lv_aload_n hx hb dX2_takes_89 rfl (lv_at hl 0 rfl) ?_
              refine va_calli (va_runV (As := []) (rest := []) ⟨hx, hb, hml, hown, hts⟩ (c_X2_ofRow l D cI cZ cG cJ A bd wr 0 c hid g code ans dbt u_86.1 u_86.2.1 h3 u_86.2.2.1 u_86.2.2.2 ((tkP c k k2 (n + 1)).1) (hc) (hs7) (fun z _ q => hti2.2.2.2.2 z q) (hne)) (cwV 0 hts gX2_takes_X2_ofRow rfl rfl rfl (by decide +kernel) ⟨Nat.le_of_ble_eq_true rfl, Nat.le_of_ble_eq_true rfl⟩) (preV (ci := 2) (q0 := 0) hB hS hP hD rfl rfl) rfl rfl hl.1 rfl (lv_room (Nat.le_of_ble_eq_true rfl)) dX2_takes_90 ⟨Nat.le_of_ble_eq_true rfl, Nat.le_of_ble_eq_true rfl⟩) hS (fun q _ h => h) (fun q h => h) (fun r_90 u_90 t9 H1 locs1 ht9 hvm9 hw_90 hBw hz9 hk9 hS => ?_)
              obtain ⟨hP, hD⟩ := hBw
              rw [ht9] at hP
              generalize H1 = H at hP hS ⊢
              generalize locs1 = locs at hS ⊢
              replace hP : va_P D vwCl (WM bd cI 0 c hid g code ans dbt u_86.1 u_86.2.1 u_90.1 u_90.2.1 u_90.2.2 wr) H := hP
              replace hD : va_D A (WM bd cI 0 c hid g code ans dbt u_86.1 u_86.2.1 u_90.1 u_90.2.1 u_90.2.2 wr) := hD
              refine x_ti (y := lbR c ((tkP c k k2 (n + 1)).1) true) (hw_90.1) ?_
              refine x_ti (y := nI ((tkP c k k2 (n + 1)).2)) ((lbI_ok hq.2 (fun z _ q => hti2.2.2.2.2 z q) ⟨k, hk, hti2.1⟩).1) ?_
              refine lv_istore_n (lv' := [(3, .int (nI ((tkP c k k2 (n + 1)).2))), (0, .ref (bd 0)), (1, .int (nI (k))), (2, .int (nI (k2))), (4, .int (nI (tt9)))]) hx hb dX2_takes_93 rfl hl (by decide) rfl (fun ls hl => ?_)
              refine lv_iinc (v := nI (tt9 + 1)) (lv' := [(4, .int (nI (tt9 + 1))), (3, .int (nI ((tkP c k k2 (n + 1)).2))), (0, .ref (bd 0)), (1, .int (nI (k))), (2, .int (nI (k2)))]) hx hb dX2_takes_94 hl (k := 4) rfl (nI_add _ _) (by decide) rfl (fun ls hl => ?_)
              refine lv_goto (tgt := 73) hx hb dX2_takes_97 (by decide) ?_
              exact ih73 (n := n + 1) (tt9 := tt9 + 1) (xx := (tkP c k k2 (n + 1)).2) (m3 := u_86.1) (r3 := u_86.2.1) (h3 := u_90.1) (o1 := u_90.2.1) (t1 := u_90.2.2) (ls := ls) (hl := lv_sub hl [2, 3, 4, 1, 0] rfl) (H := H) (locs := locs) (hP := hP) (hD := hD) (hS := hS) (hinv := by
                  exact ⟨by omega, rfl, hs7, tk_no hno (by rw [← hxx]; exact c75)⟩
                ) (hn9 := by
                  have := tk_bound hc hk hk2 (n + 1) (tk_no hno (by rw [← hxx]; exact c75))
                  omega
                )
        · skip
          refine lv_aload_n hx hb dX2_takes_42 rfl (lv_at hl 0 rfl) ?_
          refine va_get (D := D) (ci := 2) (v := .ref (bd 4)) (C := RX2) (T := TX2) (N := 12) hx hb hts hinX2 hown hK hP 0 rfl rfl 8 (by decide) lk26 (fun _ h9 => h9) rfl dX2_takes_43 ?_
          refine lv_aload_n hx hb dX2_takes_46 rfl (lv_at hl 0 rfl) ?_
          refine va_get (D := D) (ci := 2) (v := .int (nI (m2))) (C := RX2) (T := TX2) (N := 12) hx hb hts hinX2 hown hK hP 0 rfl rfl 7 (by decide) lk68 (fun _ h9 => h9) rfl dX2_takes_47 ?_
          refine lv_iload_n hx hb dX2_takes_50 rfl (lv_at hl 3 rfl) ?_
          refine x_iast hx hb hK hP hD hS 4 0 rfl rfl (i := m2) (v := i) (by omega) (by omega) dX2_takes_51 (fun H locs hP hD hS => ?_)
          replace hP : va_P D vwCl (WM bd cI 0 c hid g code ans dbt m2 (va_up r2 m2 i) heap our the wr) H := hP
          replace hD : va_D A (WM bd cI 0 c hid g code ans dbt m2 (va_up r2 m2 i) heap our the wr) := hD
          refine lv_aload_n hx hb dX2_takes_52 rfl (lv_at hl 0 rfl) ?_
          refine lv_dup hx hb dX2_takes_53 rfl ?_
          refine va_get (D := D) (ci := 2) (v := .int (nI (m2))) (C := RX2) (T := TX2) (N := 12) hx hb hts hinX2 hown hK hP 0 rfl rfl 7 (by decide) lk68 (fun _ h9 => h9) rfl dX2_takes_54 ?_
          refine lv_iconst (v := nI (1)) hx hb dX2_takes_57 (by decide) ?_
          refine lv_iadd hx hb dX2_takes_58 ?_
          refine x_ti (nI_add _ _) ?_
          refine va_put (D := D) (ci := 2) (v := .int (nI (m2 + 1))) (ty := .int) (C := RX2) (T := TX2) (N := 12) hx hb hts hinX2 tyX2 tyX2_ok nmX2 hown hK hP hD hS 0 rfl rfl 7 (by decide) lk68 (fun _ h9 => h9) rfl (by decide +kernel) rfl rfl (Nat.le_of_ble_eq_true rfl) dX2_takes_59 (fun H locs hP hD hS => ?_)
          replace hP : va_P D vwCl (WM bd cI 0 c hid g code ans dbt (m2 + 1) (va_up r2 m2 i) heap our the wr) H := hP
          replace hD : va_D A (WM bd cI 0 c hid g code ans dbt (m2 + 1) (va_up r2 m2 i) heap our the wr) := hD
          refine lv_iinc (v := nI (i + 1)) (lv' := [(3, .int (nI (i + 1))), (0, .ref (bd 0)), (1, .int (nI (k))), (2, .int (nI (k2)))]) hx hb dX2_takes_62 hl (k := 3) rfl (nI_add _ _) (by decide) rfl (fun ls hl => ?_)
          refine lv_goto (tgt := 34) hx hb dX2_takes_65 (by decide) ?_
          exact ih34 (i := i + 1) (m2 := (m2 + 1)) (r2 := (va_up r2 m2 i)) (ls := ls) (hl := lv_sub hl [1, 2, 3, 0] rfl) (H := H) (locs := locs) (hP := hP) (hD := hD) (hS := hS) (hinv := by
              exact ⟨by omega, by omega, by rw [h2]; exact up_le (q := fun z => z) h3 rfl⟩
            ) (hn9 := by
              omega
            )
    · skip
      refine lv_aload_n hx hb dX2_takes_21 rfl (lv_at hl 0 rfl) ?_
      refine lv_iconst (v := nI (1)) hx hb dX2_takes_22 (by decide) ?_
      refine va_calli (va_runV (As := [.int (nI (1))]) (rest := []) ⟨hx, hb, hml, hown, hts⟩ (c_X2_no l D cI cZ cG cJ A bd wr 0 c hid g code ans dbt many row heap our the 1 ) (cwV 1 hts gX2_takes_X2_no rfl rfl rfl (by decide +kernel) ⟨Nat.le_of_ble_eq_true rfl, Nat.le_of_ble_eq_true rfl⟩) (preV (ci := 2) (q0 := 0) hB hS hP hD rfl rfl) rfl rfl hl.1 rfl (lv_room (Nat.le_of_ble_eq_true rfl)) dX2_takes_23 ⟨Nat.le_of_ble_eq_true rfl, Nat.le_of_ble_eq_true rfl⟩) hS (fun q _ h => h) (fun q h => h) (fun r_23 u_23 t9 H1 locs1 ht9 hvm9 hw_23 hBw hz9 hk9 hS => ?_)
      obtain ⟨hP, hD⟩ := hBw
      rw [ht9] at hP
      generalize H1 = H at hP hS ⊢
      generalize locs1 = locs at hS ⊢
      replace hP : va_P D vwCl (WM bd cI 1 c hid g code ans dbt many row heap our the wr) H := hP
      replace hD : va_D A (WM bd cI 1 c hid g code ans dbt many row heap our the wr) := hD
      refine x_ti (y := nI (0)) (hw_23.1) ?_
      exact W.iret (v := nI (0)) hx hb hr (fun t ht hW => ⟨⟨_, (1, (many, row, heap, our, the)), rfl, (by
          exact Or.inr ⟨rfl, by first | exact Or.inl c10 | exact Or.inr c18⟩), ⟨by rw [ht]; exact hP, hD⟩⟩, hS.F ht⟩) hS.2.2 dX2_takes_26

set_option maxHeartbeats 4000000 in
set_option maxRecDepth 100000 in
theorem c_X2_mean (l : Launch) (D : va_G) (cI cZ cG cJ : ClassId) (A : Nat → Prop) (bd : Nat → Nat) (wr : va_W) (th : Nat) (c : Nat) (hid : Int32) (g : Nat) (code : Nat → Nat) (ans : Nat → Nat) (dbt : Nat → Bool) (many : Nat) (row : Nat → Nat) (heap : Nat → Nat) (our : Nat → Nat) (the : Nat → Nat) (hc : c = 2 ∨ c = 3) (hg : g ≤ 12) (hco : CodeOK c g code ans) : Met l yX2_mean wsX2_mean ({ frames := 0, cells := 0, slots := 0, locals := 0 }) (va_Pc [.ref (bd 0)] (Iv D (TY cI cZ cG cJ) A (WM bd cI th c hid g code ans dbt many row heap our the wr))) (va_Qd (fun r (u : Unit) => r = meanV g ans ∧ True) (fun u => Wd D A (WM bd cI 0 c hid g code ans dbt many row heap our the wr)) A) 0 0 A := by
  refine Met.ofW (cc := cX2_mean) (maxL := 3) (ret := (some .double)) (by decide) rfl ?_
  intro p e s m args below meth c9 s₁ B hml hv
  obtain ⟨rfl, hP, hD, hB⟩ := hv
  have hK := hB.1
  have hA := hB.2.1
  have hx := B.exec
  have hb := B.bytes
  have hr := B.returns
  have hts := atoms_spec (ws := wsX2_mean) B.pre
  have hown : s.vm.findClass RX2 = some m.cls := findClass_of_methodNamed B.named
  have hlocks := B.notSynchronized
  have hS : va_S A s.heap s.heap [] := va_S.rf
  have hinX2 : ∀ w ∈ wsX20, w ∈ wsX2_mean := by decide +kernel
  have lk20 := hts (.fieldLink RX2 20 "HiddenCandlesModel" "answer" "[I") (by decide +kernel)
  have lk38 := hts (.fieldLink RX2 38 "HiddenCandlesModel" "thrown" "I") (by decide +kernel)
  have lk49 := hts (.fieldLink RX2 49 "HiddenCandlesModel" "guesses" "I") (by decide +kernel)
  have hl := lv_entry ([.ref (bd 0)]) (n := 3) (Nat.le_of_ble_eq_true rfl)
  rw [lg_entry_eq]
  generalize (lg_sl ([.ref (bd 0)]) ++ List.replicate (3 - (lg_sl ([.ref (bd 0)])).length) Slot.unset).toArray = ls at hl ⊢
  have hl : lv_has ls 3 [(0, .ref (bd 0))] := hl
  obtain ⟨H, eH⟩ : ∃ q, q = s.heap := ⟨_, rfl⟩
  obtain ⟨locs, eL⟩ : ∃ q : List Loc, q = [] := ⟨_, rfl⟩
  replace hP : va_P D vwCl (WM bd cI th c hid g code ans dbt many row heap our the wr) H := by rw [eH]; exact hP
  replace hS : va_S A s.heap H locs := by rw [eH, eL]; exact hS
  rw [show W p l e _ s m _ below meth c9 s.heap [] = W p l e _ s m _ below meth c9 H locs from by rw [eH, eL]]
  clear eH eL
  have hq := qq_in hc
  refine lv_aload_n hx hb dX2_mean_0 rfl (lv_at hl 0 rfl) ?_
  refine lv_iconst (v := nI (0)) hx hb dX2_mean_1 (by decide) ?_
  refine va_put (D := D) (ci := 2) (v := .int (nI (0))) (ty := .int) (C := RX2) (T := TX2) (N := 12) hx hb hts hinX2 tyX2 tyX2_ok nmX2 hown hK hP hD hS 0 rfl rfl 0 (by decide) lk38 (fun _ h9 => h9) rfl (by decide +kernel) rfl rfl (Nat.le_of_ble_eq_true rfl) dX2_mean_2 (fun H locs hP hD hS => ?_)
  replace hP : va_P D vwCl (WM bd cI 0 c hid g code ans dbt many row heap our the wr) H := hP
  replace hD : va_D A (WM bd cI 0 c hid g code ans dbt many row heap our the wr) := hD
  refine lv_iconst (v := nI (0)) hx hb dX2_mean_5 (by decide) ?_
  refine lv_istore_n (lv' := [(1, .int (nI (0))), (0, .ref (bd 0))]) hx hb dX2_mean_6 rfl hl (by decide) rfl (fun ls hl => ?_)
  refine lv_iconst (v := nI (0)) hx hb dX2_mean_7 (by decide) ?_
  refine lv_istore_n (lv' := [(2, .int (nI (0))), (1, .int (nI (0))), (0, .ref (bd 0))]) hx hb dX2_mean_8 rfl hl (by decide) rfl (fun ls hl => ?_)
  -- loop at 9
  have hinv : 0 ≤ g ∧ 0 = blkS ans 0 := by
    exact ⟨Nat.zero_le _, rfl⟩
  obtain ⟨i, r, hq9⟩ : ∃ (i : Nat) (r : Nat), lv_has ls 3 [(0, .ref (bd 0)), (1, .int (nI (r))), (2, .int (nI (i)))] ∧ (i ≤ g ∧ r = blkS ans i) ∧ va_P D vwCl (WM bd cI 0 c hid g code ans dbt many row heap our the wr) H ∧ va_D A (WM bd cI 0 c hid g code ans dbt many row heap our the wr) := ⟨0, 0, lv_sub hl [2, 1, 0] rfl, hinv, hP, hD⟩
  clear hl hinv hP hD
  obtain ⟨hl, hinv, hP, hD⟩ := hq9
  obtain ⟨n9_9, hn9⟩ : ∃ q : Nat, g - i < q := ⟨_, Nat.lt_succ_self _⟩
  induction n9_9 generalizing ls H locs i r with
  | zero => exact absurd hn9 (Nat.not_lt_zero _)
  | succ n9_9 ih9 =>
    obtain ⟨h1, h2⟩ := hinv
    refine lv_iload_n hx hb dX2_mean_9 rfl (lv_at hl 2 rfl) ?_
    refine lv_aload_n hx hb dX2_mean_10 rfl (lv_at hl 0 rfl) ?_
    refine va_get (D := D) (ci := 2) (v := .int (nI (g))) (C := RX2) (T := TX2) (N := 12) hx hb hts hinX2 hown hK hP 0 rfl rfl 3 (by decide) lk49 (fun _ h9 => h9) rfl dX2_mean_11 ?_
    refine x_ge (tgt := 34) hx hb dX2_mean_14 (by decide) (by omega) (by omega) (fun c14 => ?_) (fun c14 => ?_)
    · skip
      refine lv_aload_n hx hb dX2_mean_34 rfl (lv_at hl 0 rfl) ?_
      refine va_get (D := D) (ci := 2) (v := .int (nI (g))) (C := RX2) (T := TX2) (N := 12) hx hb hts hinX2 hown hK hP 0 rfl rfl 3 (by decide) lk49 (fun _ h9 => h9) rfl dX2_mean_35 ?_
      refine x_ne0 (tgt := 45) hx hb dX2_mean_38 (by decide) (by omega) (fun c38 => ?_) (fun c38 => ?_)
      · skip
        refine lv_iload_n hx hb dX2_mean_45 rfl (lv_at hl 1 rfl) ?_
        refine lv_i2d hx hb dX2_mean_46 ?_
        refine lv_aload_n hx hb dX2_mean_47 rfl (lv_at hl 0 rfl) ?_
        refine va_get (D := D) (ci := 2) (v := .int (nI (g))) (C := RX2) (T := TX2) (N := 12) hx hb hts hinX2 hown hK hP 0 rfl rfl 3 (by decide) lk49 (fun _ h9 => h9) rfl dX2_mean_48 ?_
        refine lv_i2d hx hb dX2_mean_51 ?_
        refine lv_ddiv hx hb dX2_mean_52 (mean_nan r (by rw [h2]; have := blkS_le hco i h1; omega) g (by omega) c38) ?_
        exact W.dret (v := FP.ddiv (FP.i2d (nI (r))) (FP.i2d (nI (g)))) hx hb hr (fun t ht hW => ⟨⟨_, (), rfl, (by
            have e9 : i = g := by omega
            first | exact ⟨by rw [meanV, if_pos c38], trivial⟩ | exact ⟨by rw [meanV, if_neg (by omega), h2, e9], trivial⟩), ⟨by rw [ht]; exact hP, hD⟩⟩, hS.F ht⟩) hS.2.2 dX2_mean_53
      · skip
        refine lv_dconst0 hx hb dX2_mean_41 ?_
        refine lv_goto (tgt := 53) hx hb dX2_mean_42 (by decide) ?_
        exact W.dret (v := FP.dconst0) hx hb hr (fun t ht hW => ⟨⟨_, (), rfl, (by
            have e9 : i = g := by omega
            first | exact ⟨by rw [meanV, if_pos c38], trivial⟩ | exact ⟨by rw [meanV, if_neg (by omega), h2, e9], trivial⟩), ⟨by rw [ht]; exact hP, hD⟩⟩, hS.F ht⟩) hS.2.2 dX2_mean_53
    · skip
      refine lv_iload_n hx hb dX2_mean_17 rfl (lv_at hl 1 rfl) ?_
      refine lv_aload_n hx hb dX2_mean_18 rfl (lv_at hl 0 rfl) ?_
      refine va_get (D := D) (ci := 2) (v := .ref (bd 2)) (C := RX2) (T := TX2) (N := 12) hx hb hts hinX2 hown hK hP 0 rfl rfl 5 (by decide) lk20 (fun _ h9 => h9) rfl dX2_mean_19 ?_
      refine lv_iload_n hx hb dX2_mean_22 rfl (lv_at hl 2 rfl) ?_
      refine x_iald hx hb hK hP 2 0 rfl rfl (i := i) (by omega) (by omega) dX2_mean_23 ?_
      have hai := (hco i c14).2
      refine lv_iconst (v := nI (5)) hx hb dX2_mean_24 (by decide) ?_
      refine lv_idiv hx hb dX2_mean_25 (nI_ne0 (by omega) (by omega)) ?_
      refine x_ti (pk_div (by omega) (by omega) (by omega)) ?_
      refine lv_iadd hx hb dX2_mean_26 ?_
      refine x_ti (nI_add _ _) ?_
      refine lv_istore_n (lv' := [(1, .int (nI (r + ((ans i) / 5)))), (0, .ref (bd 0)), (2, .int (nI (i)))]) hx hb dX2_mean_27 rfl hl (by decide) rfl (fun ls hl => ?_)
      refine lv_iinc (v := nI (i + 1)) (lv' := [(2, .int (nI (i + 1))), (1, .int (nI (r + ((ans i) / 5)))), (0, .ref (bd 0))]) hx hb dX2_mean_28 hl (k := 2) rfl (nI_add _ _) (by decide) rfl (fun ls hl => ?_)
      refine lv_goto (tgt := 9) hx hb dX2_mean_31 (by decide) ?_
      exact ih9 (i := i + 1) (r := r + ((ans i) / 5)) (ls := ls) (hl := lv_sub hl [2, 1, 0] rfl) (H := H) (locs := locs) (hP := hP) (hS := hS) (hinv := by
          exact ⟨by omega, by rw [h2]; rfl⟩
        ) (hn9 := by
          omega
        )

set_option maxHeartbeats 4000000 in
set_option maxRecDepth 100000 in
theorem c_X2_digest (l : Launch) (D : va_G) (cI cZ cG cJ : ClassId) (A : Nat → Prop) (bd : Nat → Nat) (wr : va_W) (th : Nat) (c : Nat) (hid : Int32) (g : Nat) (code : Nat → Nat) (ans : Nat → Nat) (dbt : Nat → Bool) (many : Nat) (row : Nat → Nat) (heap : Nat → Nat) (our : Nat → Nat) (the : Nat → Nat) (hc : c = 2 ∨ c = 3) (hg : g ≤ 12) (hco : CodeOK c g code ans) : Met l yX2_digest wsX2_digest ({ frames := 6, cells := 0, slots := 0, locals := 138 }) (va_Pc [.ref (bd 0)] (Iv D (TY cI cZ cG cJ) A (WM bd cI th c hid g code ans dbt many row heap our the wr))) (va_Ql (fun r (u : MSt) => r = digV c g hid code ans dbt ∧ True) (fun u => Wd D A (WM bd cI 0 c hid g code ans dbt u.1 u.2.1 u.2.2.1 u.2.2.2.1 u.2.2.2.2 wr)) A) 0 0 A := by
  refine Met.ofW (cc := cX2_digest) (maxL := 5) (ret := (some .long)) (by decide) rfl ?_
  intro p e s m args below meth c9 s₁ B hml hv
  obtain ⟨rfl, hP, hD, hB⟩ := hv
  have hK := hB.1
  have hA := hB.2.1
  have hx := B.exec
  have hb := B.bytes
  have hr := B.returns
  have hts := atoms_spec (ws := wsX2_digest) B.pre
  have hown : s.vm.findClass RX2 = some m.cls := findClass_of_methodNamed B.named
  have hlocks := B.notSynchronized
  have hS : va_S A s.heap s.heap [] := va_S.rf
  have hinX2 : ∀ w ∈ wsX20, w ∈ wsX2_digest := by decide +kernel
  have lk9 := hts (.fieldLink RX2 9 "HiddenCandlesModel" "colours" "I") (by decide +kernel)
  have lk13 := hts (.fieldLink RX2 13 "HiddenCandlesModel" "hidden" "I") (by decide +kernel)
  have lk26 := hts (.fieldLink RX2 26 "HiddenCandlesModel" "row" "[I") (by decide +kernel)
  have lk38 := hts (.fieldLink RX2 38 "HiddenCandlesModel" "thrown" "I") (by decide +kernel)
  have lk49 := hts (.fieldLink RX2 49 "HiddenCandlesModel" "guesses" "I") (by decide +kernel)
  have lk68 := hts (.fieldLink RX2 68 "HiddenCandlesModel" "many" "I") (by decide +kernel)
  have hl := lv_entry ([.ref (bd 0)]) (n := 5) (Nat.le_of_ble_eq_true rfl)
  rw [lg_entry_eq]
  generalize (lg_sl ([.ref (bd 0)]) ++ List.replicate (5 - (lg_sl ([.ref (bd 0)])).length) Slot.unset).toArray = ls at hl ⊢
  have hl : lv_has ls 5 [(0, .ref (bd 0))] := hl
  obtain ⟨H, eH⟩ : ∃ q, q = s.heap := ⟨_, rfl⟩
  obtain ⟨locs, eL⟩ : ∃ q : List Loc, q = [] := ⟨_, rfl⟩
  replace hP : va_P D vwCl (WM bd cI th c hid g code ans dbt many row heap our the wr) H := by rw [eH]; exact hP
  replace hS : va_S A s.heap H locs := by rw [eH, eL]; exact hS
  rw [show W p l e _ s m _ below meth c9 s.heap [] = W p l e _ s m _ below meth c9 H locs from by rw [eH, eL]]
  clear eH eL
  have hq := qq_in hc
  refine lv_aload_n hx hb dX2_digest_0 rfl (lv_at hl 0 rfl) ?_
  refine lv_iconst (v := nI (0)) hx hb dX2_digest_1 (by decide) ?_
  refine va_put (D := D) (ci := 2) (v := .int (nI (0))) (ty := .int) (C := RX2) (T := TX2) (N := 12) hx hb hts hinX2 tyX2 tyX2_ok nmX2 hown hK hP hD hS 0 rfl rfl 0 (by decide) lk38 (fun _ h9 => h9) rfl (by decide +kernel) rfl rfl (Nat.le_of_ble_eq_true rfl) dX2_digest_2 (fun H locs hP hD hS => ?_)
  replace hP : va_P D vwCl (WM bd cI 0 c hid g code ans dbt many row heap our the wr) H := hP
  replace hD : va_D A (WM bd cI 0 c hid g code ans dbt many row heap our the wr) := hD
  refine lv_ldc2 (v := 1583) hx hb hown (hts _ (by decide +kernel)) dX2_digest_5 ?_
  refine lv_lstore_n (lv' := [(1, .long (1583)), (0, .ref (bd 0))]) hx hb dX2_digest_8 rfl hl (by decide) rfl (fun ls hl => ?_)
  refine lv_iconst (v := nI (0)) hx hb dX2_digest_9 (by decide) ?_
  refine lv_istore_n (lv' := [(3, .int (nI (0))), (1, .long (1583)), (0, .ref (bd 0))]) hx hb dX2_digest_10 rfl hl (by decide) rfl (fun ls hl => ?_)
  -- loop at 11
  have hinv : 0 ≤ 7 ∧ 1583 = dgC c g hid code ans dbt 0 := by
    exact ⟨Nat.zero_le _, rfl⟩
  obtain ⟨i, dd, m3, r3, h3, o1, t1, hq9⟩ : ∃ (i : Nat) (dd : Int64) (m3 : Nat) (r3 : Nat → Nat) (h3 : Nat → Nat) (o1 : Nat → Nat) (t1 : Nat → Nat), lv_has ls 5 [(0, .ref (bd 0)), (1, .long (dd)), (3, .int (nI (i)))] ∧ (i ≤ 7 ∧ dd = dgC c g hid code ans dbt i) ∧ va_P D vwCl (WM bd cI 0 c hid g code ans dbt m3 r3 h3 o1 t1 wr) H ∧ va_D A (WM bd cI 0 c hid g code ans dbt m3 r3 h3 o1 t1 wr) := ⟨0, 1583, many, row, heap, our, the, lv_sub hl [2, 1, 0] rfl, hinv, hP, hD⟩
  clear hl hinv hP hD
  obtain ⟨hl, hinv, hP, hD⟩ := hq9
  obtain ⟨n9_11, hn9⟩ : ∃ q : Nat, 7 - i < q := ⟨_, Nat.lt_succ_self _⟩
  induction n9_11 generalizing ls H locs i dd m3 r3 h3 o1 t1 with
  | zero => exact absurd hn9 (Nat.not_lt_zero _)
  | succ n9_11 ih11 =>
    obtain ⟨h1, h2⟩ := hinv
    refine lv_iload_n hx hb dX2_digest_11 rfl (lv_at hl 2 rfl) ?_
    refine lv_bipush (v := nI (7)) hx hb dX2_digest_12 (by decide) ?_
    refine x_ge (tgt := 36) hx hb dX2_digest_14 (by decide) (by omega) (by omega) (fun c14 => ?_) (fun c14 => ?_)
    · skip
      refine lv_lload_n hx hb dX2_digest_36 rfl (lv_at hl 1 rfl) ?_
      refine lv_ldc2 (v := 31) hx hb hown (hts _ (by decide +kernel)) dX2_digest_37 ?_
      refine lv_lmul hx hb dX2_digest_40 ?_
      refine lv_aload_n hx hb dX2_digest_41 rfl (lv_at hl 0 rfl) ?_
      refine va_get (D := D) (ci := 2) (v := .int (hid)) (C := RX2) (T := TX2) (N := 12) hx hb hts hinX2 hown hK hP 0 rfl rfl 2 (by decide) lk13 (fun _ h9 => h9) rfl dX2_digest_42 ?_
      refine lv_i2l hx hb dX2_digest_45 rfl ?_
      refine lv_ladd hx hb dX2_digest_46 ?_
      refine lv_lstore_n (lv' := [(1, .long (((dd) * (31)) + ((hid).toInt64))), (0, .ref (bd 0)), (3, .int (nI (i)))]) hx hb dX2_digest_47 rfl hl (by decide) rfl (fun ls hl => ?_)
      refine lv_iconst (v := nI (0)) hx hb dX2_digest_48 (by decide) ?_
      refine lv_istore_n (lv' := [(3, .int (nI (0))), (1, .long (((dd) * (31)) + ((hid).toInt64))), (0, .ref (bd 0))]) hx hb dX2_digest_49 rfl hl (by decide) rfl (fun ls hl => ?_)
      -- loop at 50
      have hinv : 0 ≤ g ∧ (((dd) * (31)) + ((hid).toInt64)) = dgT c g hid code ans dbt 0 := by
        have e9 : i = 7 := by omega
        exact ⟨Nat.zero_le _, by rw [h2, e9]; rfl⟩
      obtain ⟨i2, d2, m3, r3, h3, o1, t1, hq9⟩ : ∃ (i2 : Nat) (d2 : Int64) (m3 : Nat) (r3 : Nat → Nat) (h3 : Nat → Nat) (o1 : Nat → Nat) (t1 : Nat → Nat), lv_has ls 5 [(0, .ref (bd 0)), (1, .long (d2)), (3, .int (nI (i2)))] ∧ (i2 ≤ g ∧ d2 = dgT c g hid code ans dbt i2) ∧ va_P D vwCl (WM bd cI 0 c hid g code ans dbt m3 r3 h3 o1 t1 wr) H ∧ va_D A (WM bd cI 0 c hid g code ans dbt m3 r3 h3 o1 t1 wr) := ⟨0, (((dd) * (31)) + ((hid).toInt64)), m3, r3, h3, o1, t1, lv_sub hl [2, 1, 0] rfl, hinv, hP, hD⟩
      clear hl hinv hP hD
      obtain ⟨hl, hinv, hP, hD⟩ := hq9
      obtain ⟨n9_50, hn9⟩ : ∃ q : Nat, g - i2 < q := ⟨_, Nat.lt_succ_self _⟩
      induction n9_50 generalizing ls H locs i2 d2 m3 r3 h3 o1 t1 with
      | zero => exact absurd hn9 (Nat.not_lt_zero _)
      | succ n9_50 ih50 =>
        obtain ⟨h1, h2⟩ := hinv
        refine lv_iload_n hx hb dX2_digest_50 rfl (lv_at hl 2 rfl) ?_
        refine lv_aload_n hx hb dX2_digest_51 rfl (lv_at hl 0 rfl) ?_
        refine va_get (D := D) (ci := 2) (v := .int (nI (g))) (C := RX2) (T := TX2) (N := 12) hx hb hts hinX2 hown hK hP 0 rfl rfl 3 (by decide) lk49 (fun _ h9 => h9) rfl dX2_digest_52 ?_
        refine x_ge (tgt := 95) hx hb dX2_digest_55 (by decide) (by omega) (by omega) (fun c55 => ?_) (fun c55 => ?_)
        · skip
          refine lv_iconst (v := nI (0)) hx hb dX2_digest_95 (by decide) ?_
          refine lv_istore_n (lv' := [(3, .int (nI (0))), (0, .ref (bd 0)), (1, .long (d2))]) hx hb dX2_digest_96 rfl hl (by decide) rfl (fun ls hl => ?_)
          -- loop at 97
          have hinv : 0 ≤ 4 ∧ d2 = dgP c g hid code ans dbt 0 := by
            have e9 : i2 = g := by omega
            exact ⟨Nat.zero_le _, by rw [h2, e9]; rfl⟩
          obtain ⟨p4, d4, m3, r3, h3, o1, t1, hq9⟩ : ∃ (p4 : Nat) (d4 : Int64) (m3 : Nat) (r3 : Nat → Nat) (h3 : Nat → Nat) (o1 : Nat → Nat) (t1 : Nat → Nat), lv_has ls 5 [(0, .ref (bd 0)), (1, .long (d4)), (3, .int (nI (p4)))] ∧ (p4 ≤ 4 ∧ d4 = dgP c g hid code ans dbt p4) ∧ va_P D vwCl (WM bd cI 0 c hid g code ans dbt m3 r3 h3 o1 t1 wr) H ∧ va_D A (WM bd cI 0 c hid g code ans dbt m3 r3 h3 o1 t1 wr) := ⟨0, d2, m3, r3, h3, o1, t1, lv_sub hl [1, 2, 0] rfl, hinv, hP, hD⟩
          clear hl hinv hP hD
          obtain ⟨hl, hinv, hP, hD⟩ := hq9
          obtain ⟨n9_97, hn9⟩ : ∃ q : Nat, 4 - p4 < q := ⟨_, Nat.lt_succ_self _⟩
          induction n9_97 generalizing ls H locs p4 d4 m3 r3 h3 o1 t1 with
          | zero => exact absurd hn9 (Nat.not_lt_zero _)
          | succ n9_97 ih97 =>
            obtain ⟨h1, h2⟩ := hinv
            refine lv_iload_n hx hb dX2_digest_97 rfl (lv_at hl 2 rfl) ?_
            refine lv_iconst (v := nI (4)) hx hb dX2_digest_98 (by decide) ?_
            refine x_ge (tgt := 162) hx hb dX2_digest_99 (by decide) (by omega) (by omega) (fun c99 => ?_) (fun c99 => ?_)
            · skip
              refine lv_aload_n hx hb dX2_digest_162 rfl (lv_at hl 0 rfl) ?_
              refine lv_aload_n hx hb dX2_digest_163 rfl (lv_at hl 0 rfl) ?_
              refine va_get (D := D) (ci := 2) (v := .int (nI (g))) (C := RX2) (T := TX2) (N := 12) hx hb hts hinX2 hown hK hP 0 rfl rfl 3 (by decide) lk49 (fun _ h9 => h9) rfl dX2_digest_164 ?_
              refine va_calli (va_runV (As := [.int (nI (g))]) (rest := []) ⟨hx, hb, hml, hown, hts⟩ (c_X2_look l D cI cZ cG cJ A bd wr 0 c hid g code ans dbt m3 r3 h3 o1 t1 g (hc) (hg) (hco)) (cwV 1 hts gX2_digest_X2_look rfl rfl rfl (by decide +kernel) ⟨Nat.le_of_ble_eq_true rfl, Nat.le_of_ble_eq_true rfl⟩) (preV (ci := 2) (q0 := 0) hB hS hP hD rfl rfl) rfl rfl hl.1 rfl (lv_room (Nat.le_of_ble_eq_true rfl)) dX2_digest_167 ⟨Nat.le_of_ble_eq_true rfl, Nat.le_of_ble_eq_true rfl⟩) hS (fun q _ h => h) (fun q h => h) (fun r_167 u_167 t9 H1 locs1 ht9 hvm9 hw_167 hBw hz9 hk9 hS => ?_)
              obtain ⟨hP, hD⟩ := hBw
              rw [ht9] at hP
              generalize H1 = H at hP hS ⊢
              generalize locs1 = locs at hS ⊢
              replace hP : va_P D vwCl (WM bd cI 0 c hid g code ans dbt u_167.1 u_167.2.1 h3 u_167.2.2.1 u_167.2.2.2 wr) H := hP
              replace hD : va_D A (WM bd cI 0 c hid g code ans dbt u_167.1 u_167.2.1 h3 u_167.2.2.1 u_167.2.2.2 wr) := hD
              refine x_ti (y := nI (cN (opS c g code ans dbt) 81)) (hw_167.1) ?_
              refine lv_pop hx hb dX2_digest_170 rfl ?_
              have hz := hw_167.2.1; have hz81 := cN_le (opS c g code ans dbt) 81
              have hR9 := hw_167.2
              have hrw : ∀ j, j < u_167.1 → u_167.2.1 j < qq c := fun j hj => by obtain ⟨k, a1, a2, a3, a4⟩ := row_in hR9 j hj; rw [a4]; exact op_lt2 a2
              refine lv_iconst (v := nI (0)) hx hb dX2_digest_171 (by decide) ?_
              refine lv_istore_n (lv' := [(3, .int (nI (0))), (0, .ref (bd 0)), (1, .long (d4))]) hx hb dX2_digest_172 rfl hl (by decide) rfl (fun ls hl => ?_)
              -- loop at 173
              have hinv : 0 ≤ u_167.1 ∧ d4 = dgR u_167.2.1 (dgP c g hid code ans dbt 4) 0 := by
                have e9 : p4 = 4 := by omega
                exact ⟨Nat.zero_le _, by rw [h2, e9]; rfl⟩
              obtain ⟨k6, d6, hq9⟩ : ∃ (k6 : Nat) (d6 : Int64), lv_has ls 5 [(0, .ref (bd 0)), (1, .long (d6)), (3, .int (nI (k6)))] ∧ (k6 ≤ u_167.1 ∧ d6 = dgR u_167.2.1 (dgP c g hid code ans dbt 4) k6) ∧ va_P D vwCl (WM bd cI 0 c hid g code ans dbt u_167.1 u_167.2.1 h3 u_167.2.2.1 u_167.2.2.2 wr) H ∧ va_D A (WM bd cI 0 c hid g code ans dbt u_167.1 u_167.2.1 h3 u_167.2.2.1 u_167.2.2.2 wr) := ⟨0, d4, lv_sub hl [1, 2, 0] rfl, hinv, hP, hD⟩
              clear hl hinv hP hD
              obtain ⟨hl, hinv, hP, hD⟩ := hq9
              obtain ⟨n9_173, hn9⟩ : ∃ q : Nat, u_167.1 - k6 < q := ⟨_, Nat.lt_succ_self _⟩
              induction n9_173 generalizing ls H locs k6 d6 with
              | zero => exact absurd hn9 (Nat.not_lt_zero _)
              | succ n9_173 ih173 =>
                obtain ⟨m1, m2⟩ := hinv
                refine lv_iload_n hx hb dX2_digest_173 rfl (lv_at hl 2 rfl) ?_
                refine lv_aload_n hx hb dX2_digest_174 rfl (lv_at hl 0 rfl) ?_
                refine va_get (D := D) (ci := 2) (v := .int (nI (u_167.1))) (C := RX2) (T := TX2) (N := 12) hx hb hts hinX2 hown hK hP 0 rfl rfl 7 (by decide) lk68 (fun _ h9 => h9) rfl dX2_digest_175 ?_
                refine x_ge (tgt := 201) hx hb dX2_digest_178 (by decide) (by omega) (by omega) (fun c178 => ?_) (fun c178 => ?_)
                · skip
                  refine lv_lload_n hx hb dX2_digest_201 rfl (lv_at hl 1 rfl) ?_
                  exact W.lret (v := d6) hx hb hr (fun t ht hW => ⟨⟨_, (u_167.1, u_167.2.1, h3, u_167.2.2.1, u_167.2.2.2), rfl, (by
                      have e9 : k6 = u_167.1 := by omega
                      exact ⟨by rw [m2, e9]; exact dgR_K hR9, trivial⟩), ⟨by rw [ht]; exact hP, hD⟩⟩, hS.F ht⟩) hS.2.2 dX2_digest_202
                · skip
                  refine lv_lload_n hx hb dX2_digest_181 rfl (lv_at hl 1 rfl) ?_
                  refine lv_ldc2 (v := 31) hx hb hown (hts _ (by decide +kernel)) dX2_digest_182 ?_
                  refine lv_lmul hx hb dX2_digest_185 ?_
                  refine lv_aload_n hx hb dX2_digest_186 rfl (lv_at hl 0 rfl) ?_
                  refine va_get (D := D) (ci := 2) (v := .ref (bd 4)) (C := RX2) (T := TX2) (N := 12) hx hb hts hinX2 hown hK hP 0 rfl rfl 8 (by decide) lk26 (fun _ h9 => h9) rfl dX2_digest_187 ?_
                  refine lv_iload_n hx hb dX2_digest_190 rfl (lv_at hl 2 rfl) ?_
                  refine x_iald hx hb hK hP 4 0 rfl rfl (i := k6) (by omega) (by omega) dX2_digest_191 ?_
                  refine lv_i2l hx hb dX2_digest_192 rfl ?_
                  refine lv_ladd hx hb dX2_digest_193 ?_
                  refine lv_lstore_n (lv' := [(1, .long (((d6) * (31)) + ((nI (u_167.2.1 k6)).toInt64))), (0, .ref (bd 0)), (3, .int (nI (k6)))]) hx hb dX2_digest_194 rfl hl (by decide) rfl (fun ls hl => ?_)
                  refine lv_iinc (v := nI (k6 + 1)) (lv' := [(3, .int (nI (k6 + 1))), (1, .long (((d6) * (31)) + ((nI (u_167.2.1 k6)).toInt64))), (0, .ref (bd 0))]) hx hb dX2_digest_195 hl (k := 2) rfl (nI_add _ _) (by decide) rfl (fun ls hl => ?_)
                  refine lv_goto (tgt := 173) hx hb dX2_digest_198 (by decide) ?_
                  exact ih173 (k6 := k6 + 1) (d6 := ((d6) * (31)) + ((nI (u_167.2.1 k6)).toInt64)) (ls := ls) (hl := lv_sub hl [2, 1, 0] rfl) (H := H) (locs := locs) (hP := hP) (hS := hS) (hinv := by
                      exact ⟨by omega, by rw [m2]; rfl⟩
                    ) (hn9 := by
                      omega
                    )
            · skip
              refine lv_lload_n hx hb dX2_digest_102 rfl (lv_at hl 1 rfl) ?_
              refine lv_ldc2 (v := 31) hx hb hown (hts _ (by decide +kernel)) dX2_digest_103 ?_
              refine lv_lmul hx hb dX2_digest_106 ?_
              refine lv_aload_n hx hb dX2_digest_107 rfl (lv_at hl 0 rfl) ?_
              refine lv_iload_n hx hb dX2_digest_108 rfl (lv_at hl 2 rfl) ?_
              refine va_calli (va_runV (As := [.int (nI (p4))]) (rest := [.long ((d4) * (31))]) ⟨hx, hb, hml, hown, hts⟩ (c_X2_sureAt l D cI cZ cG cJ A bd wr 0 c hid g code ans dbt m3 r3 h3 o1 t1 p4 (hc) (hg) (hco) (by omega)) (cwV 1 hts gX2_digest_X2_sureAt rfl rfl rfl (by decide +kernel) ⟨Nat.le_of_ble_eq_true rfl, Nat.le_of_ble_eq_true rfl⟩) (preV (ci := 2) (q0 := 0) hB hS hP hD rfl rfl) rfl rfl hl.1 rfl (lv_room (Nat.le_of_ble_eq_true rfl)) dX2_digest_109 ⟨Nat.le_of_ble_eq_true rfl, Nat.le_of_ble_eq_true rfl⟩) hS (fun q _ h => h) (fun q h => h) (fun r_109 u_109 t9 H1 locs1 ht9 hvm9 hw_109 hBw hz9 hk9 hS => ?_)
              obtain ⟨hP, hD⟩ := hBw
              rw [ht9] at hP
              generalize H1 = H at hP hS ⊢
              generalize locs1 = locs at hS ⊢
              replace hP : va_P D vwCl (WM bd cI 0 c hid g code ans dbt u_109.1 u_109.2.1 u_109.2.2.1 u_109.2.2.2.1 u_109.2.2.2.2 wr) H := hP
              replace hD : va_D A (WM bd cI 0 c hid g code ans dbt u_109.1 u_109.2.1 u_109.2.2.1 u_109.2.2.2.1 u_109.2.2.2.2 wr) := hD
              refine x_ti (y := sureV c (opS c g code ans dbt) p4 c) (hw_109.1) ?_
              refine lv_i2l hx hb dX2_digest_112 rfl ?_
              refine lv_ladd hx hb dX2_digest_113 ?_
              refine lv_lstore_n (lv' := [(1, .long (((d4) * (31)) + ((sureV c (opS c g code ans dbt) p4 c).toInt64))), (0, .ref (bd 0)), (3, .int (nI (p4)))]) hx hb dX2_digest_114 rfl hl (by decide) rfl (fun ls hl => ?_)
              refine lv_iconst (v := nI (0)) hx hb dX2_digest_115 (by decide) ?_
              refine lv_istore (lv' := [(4, .int (nI (0))), (1, .long (((d4) * (31)) + ((sureV c (opS c g code ans dbt) p4 c).toInt64))), (0, .ref (bd 0)), (3, .int (nI (p4)))]) hx hb dX2_digest_116 hl (by decide) rfl (fun ls hl => ?_)
              -- loop at 118
              have hinv : 0 ≤ c ∧ (((d4) * (31)) + ((sureV c (opS c g code ans dbt) p4 c).toInt64)) = dgH c (opS c g code ans dbt) (dgm d4 (sureV c (opS c g code ans dbt) p4 c)) p4 0 := by
                exact ⟨Nat.zero_le _, rfl⟩
              obtain ⟨x5, d5, m3, r3, h3, o1, t1, hq9⟩ : ∃ (x5 : Nat) (d5 : Int64) (m3 : Nat) (r3 : Nat → Nat) (h3 : Nat → Nat) (o1 : Nat → Nat) (t1 : Nat → Nat), lv_has ls 5 [(0, .ref (bd 0)), (1, .long (d5)), (3, .int (nI (p4))), (4, .int (nI (x5)))] ∧ (x5 ≤ c ∧ d5 = dgH c (opS c g code ans dbt) (dgm d4 (sureV c (opS c g code ans dbt) p4 c)) p4 x5) ∧ va_P D vwCl (WM bd cI 0 c hid g code ans dbt m3 r3 h3 o1 t1 wr) H ∧ va_D A (WM bd cI 0 c hid g code ans dbt m3 r3 h3 o1 t1 wr) := ⟨0, (((d4) * (31)) + ((sureV c (opS c g code ans dbt) p4 c).toInt64)), u_109.1, u_109.2.1, u_109.2.2.1, u_109.2.2.2.1, u_109.2.2.2.2, lv_sub hl [2, 1, 3, 0] rfl, hinv, hP, hD⟩
              clear hl hinv hP hD
              obtain ⟨hl, hinv, hP, hD⟩ := hq9
              obtain ⟨n9_118, hn9⟩ : ∃ q : Nat, c - x5 < q := ⟨_, Nat.lt_succ_self _⟩
              induction n9_118 generalizing ls H locs x5 d5 m3 r3 h3 o1 t1 with
              | zero => exact absurd hn9 (Nat.not_lt_zero _)
              | succ n9_118 ih118 =>
                obtain ⟨k1, k2⟩ := hinv
                refine lv_iload hx hb dX2_digest_118 (lv_at hl 3 rfl) ?_
                refine lv_aload_n hx hb dX2_digest_120 rfl (lv_at hl 0 rfl) ?_
                refine va_get (D := D) (ci := 2) (v := .int (nI (c))) (C := RX2) (T := TX2) (N := 12) hx hb hts hinX2 hown hK hP 0 rfl rfl 1 (by decide) lk9 (fun _ h9 => h9) rfl dX2_digest_121 ?_
                refine x_ge (tgt := 156) hx hb dX2_digest_124 (by decide) (by omega) (by omega) (fun c124 => ?_) (fun c124 => ?_)
                · skip
                  refine lv_iinc (v := nI (p4 + 1)) (lv' := [(3, .int (nI (p4 + 1))), (0, .ref (bd 0)), (1, .long (d5)), (4, .int (nI (x5)))]) hx hb dX2_digest_156 hl (k := 2) rfl (nI_add _ _) (by decide) rfl (fun ls hl => ?_)
                  refine lv_goto (tgt := 97) hx hb dX2_digest_159 (by decide) ?_
                  exact ih97 (p4 := p4 + 1) (d4 := d5) (m3 := m3) (r3 := r3) (h3 := h3) (o1 := o1) (t1 := t1) (ls := ls) (hl := lv_sub hl [1, 2, 0] rfl) (H := H) (locs := locs) (hP := hP) (hD := hD) (hS := hS) (hinv := by
                      have e9 : x5 = c := by omega
                      exact ⟨by omega, by rw [k2, e9, h2]; rfl⟩
                    ) (hn9 := by
                      omega
                    )
                · skip
                  refine lv_lload_n hx hb dX2_digest_127 rfl (lv_at hl 1 rfl) ?_
                  refine lv_ldc2 (v := 31) hx hb hown (hts _ (by decide +kernel)) dX2_digest_128 ?_
                  refine lv_lmul hx hb dX2_digest_131 ?_
                  refine lv_aload_n hx hb dX2_digest_132 rfl (lv_at hl 0 rfl) ?_
                  refine lv_iload_n hx hb dX2_digest_133 rfl (lv_at hl 2 rfl) ?_
                  refine lv_iload hx hb dX2_digest_134 (lv_at hl 3 rfl) ?_
                  refine lv_aload_n hx hb dX2_digest_136 rfl (lv_at hl 0 rfl) ?_
                  refine lv_aload_n hx hb dX2_digest_137 rfl (lv_at hl 0 rfl) ?_
                  refine va_get (D := D) (ci := 2) (v := .int (nI (g))) (C := RX2) (T := TX2) (N := 12) hx hb hts hinX2 hown hK hP 0 rfl rfl 3 (by decide) lk49 (fun _ h9 => h9) rfl dX2_digest_138 ?_
                  refine va_calli (va_runV (As := [.int (nI (g))]) (rest := [.int (nI (x5)), .int (nI (p4)), .ref (bd 0), .long ((d5) * (31))]) ⟨hx, hb, hml, hown, hts⟩ (c_X2_look l D cI cZ cG cJ A bd wr 0 c hid g code ans dbt m3 r3 h3 o1 t1 g (hc) (hg) (hco)) (cwV 1 hts gX2_digest_X2_look rfl rfl rfl (by decide +kernel) ⟨Nat.le_of_ble_eq_true rfl, Nat.le_of_ble_eq_true rfl⟩) (preV (ci := 2) (q0 := 0) hB hS hP hD rfl rfl) rfl rfl hl.1 rfl (lv_room (Nat.le_of_ble_eq_true rfl)) dX2_digest_141 ⟨Nat.le_of_ble_eq_true rfl, Nat.le_of_ble_eq_true rfl⟩) hS (fun q _ h => h) (fun q h => h) (fun r_141 u_141 t9 H1 locs1 ht9 hvm9 hw_141 hBw hz9 hk9 hS => ?_)
                  obtain ⟨hP, hD⟩ := hBw
                  rw [ht9] at hP
                  generalize H1 = H at hP hS ⊢
                  generalize locs1 = locs at hS ⊢
                  replace hP : va_P D vwCl (WM bd cI 0 c hid g code ans dbt u_141.1 u_141.2.1 h3 u_141.2.2.1 u_141.2.2.2 wr) H := hP
                  replace hD : va_D A (WM bd cI 0 c hid g code ans dbt u_141.1 u_141.2.1 h3 u_141.2.2.1 u_141.2.2.2 wr) := hD
                  refine x_ti (y := nI (cN (opS c g code ans dbt) 81)) (hw_141.1) ?_
                  refine x_ti (y := nI (u_141.1)) (by rw [hw_141.2.1]) ?_
                  refine x_csi (va_runV (As := [.int (nI (p4)), .int (nI (x5)), .int (nI (u_141.1))]) (rest := [.long ((d5) * (31))]) ⟨hx, hb, hml, hown, hts⟩ (c_X2_have l D cI cZ cG cJ A bd wr 0 c hid g code ans dbt u_141.1 u_141.2.1 h3 u_141.2.2.1 u_141.2.2.2 p4 x5 (opS c g code ans dbt) (hc) ((by omega)) ((by omega)) (hw_141.2) (op_lt (fun _ _ => rfl))) (cwV 3 hts gX2_digest_X2_have rfl rfl rfl (by decide +kernel) ⟨Nat.le_of_ble_eq_true rfl, Nat.le_of_ble_eq_true rfl⟩) (preV (ci := 2) (q0 := 0) hB hS hP hD rfl rfl) rfl rfl hl.1 rfl (lv_room (Nat.le_of_ble_eq_true rfl)) dX2_digest_144 ⟨Nat.le_of_ble_eq_true rfl, Nat.le_of_ble_eq_true rfl⟩) ?_
                  refine lv_i2l hx hb dX2_digest_147 rfl ?_
                  refine lv_ladd hx hb dX2_digest_148 ?_
                  refine lv_lstore_n (lv' := [(1, .long (((d5) * (31)) + ((nI (hvN c (opS c g code ans dbt) p4 x5)).toInt64))), (0, .ref (bd 0)), (3, .int (nI (p4))), (4, .int (nI (x5)))]) hx hb dX2_digest_149 rfl hl (by decide) rfl (fun ls hl => ?_)
                  refine lv_iinc (v := nI (x5 + 1)) (lv' := [(4, .int (nI (x5 + 1))), (1, .long (((d5) * (31)) + ((nI (hvN c (opS c g code ans dbt) p4 x5)).toInt64))), (0, .ref (bd 0)), (3, .int (nI (p4)))]) hx hb dX2_digest_150 hl (k := 3) rfl (nI_add _ _) (by decide) rfl (fun ls hl => ?_)
                  refine lv_goto (tgt := 118) hx hb dX2_digest_153 (by decide) ?_
                  exact ih118 (x5 := x5 + 1) (d5 := ((d5) * (31)) + ((nI (hvN c (opS c g code ans dbt) p4 x5)).toInt64)) (m3 := u_141.1) (r3 := u_141.2.1) (h3 := h3) (o1 := u_141.2.2.1) (t1 := u_141.2.2.2) (ls := ls) (hl := lv_sub hl [2, 1, 3, 0] rfl) (H := H) (locs := locs) (hP := hP) (hD := hD) (hS := hS) (hinv := by
                      exact ⟨by omega, by rw [k2]; rfl⟩
                    ) (hn9 := by
                      omega
                    )
        · skip
          refine lv_iconst (v := nI (0)) hx hb dX2_digest_58 (by decide) ?_
          refine lv_istore (lv' := [(4, .int (nI (0))), (0, .ref (bd 0)), (1, .long (d2)), (3, .int (nI (i2)))]) hx hb dX2_digest_59 hl (by decide) rfl (fun ls hl => ?_)
          -- loop at 61
          have hinv : 0 ≤ 6 ∧ d2 = dgI c code ans dbt d2 i2 0 := by
            exact ⟨Nat.zero_le _, rfl⟩
          obtain ⟨w3, d3, m3, r3, h3, o1, t1, hq9⟩ : ∃ (w3 : Nat) (d3 : Int64) (m3 : Nat) (r3 : Nat → Nat) (h3 : Nat → Nat) (o1 : Nat → Nat) (t1 : Nat → Nat), lv_has ls 5 [(0, .ref (bd 0)), (1, .long (d3)), (3, .int (nI (i2))), (4, .int (nI (w3)))] ∧ (w3 ≤ 6 ∧ d3 = dgI c code ans dbt d2 i2 w3) ∧ va_P D vwCl (WM bd cI 0 c hid g code ans dbt m3 r3 h3 o1 t1 wr) H ∧ va_D A (WM bd cI 0 c hid g code ans dbt m3 r3 h3 o1 t1 wr) := ⟨0, d2, m3, r3, h3, o1, t1, lv_sub hl [1, 2, 3, 0] rfl, hinv, hP, hD⟩
          clear hl hinv hP hD
          obtain ⟨hl, hinv, hP, hD⟩ := hq9
          obtain ⟨n9_61, hn9⟩ : ∃ q : Nat, 6 - w3 < q := ⟨_, Nat.lt_succ_self _⟩
          induction n9_61 generalizing ls H locs w3 d3 m3 r3 h3 o1 t1 with
          | zero => exact absurd hn9 (Nat.not_lt_zero _)
          | succ n9_61 ih61 =>
            obtain ⟨k1, k2⟩ := hinv
            refine lv_iload hx hb dX2_digest_61 (lv_at hl 3 rfl) ?_
            refine lv_bipush (v := nI (6)) hx hb dX2_digest_63 (by decide) ?_
            refine x_ge (tgt := 89) hx hb dX2_digest_65 (by decide) (by omega) (by omega) (fun c65 => ?_) (fun c65 => ?_)
            · skip
              refine lv_iinc (v := nI (i2 + 1)) (lv' := [(3, .int (nI (i2 + 1))), (0, .ref (bd 0)), (1, .long (d3)), (4, .int (nI (w3)))]) hx hb dX2_digest_89 hl (k := 2) rfl (nI_add _ _) (by decide) rfl (fun ls hl => ?_)
              refine lv_goto (tgt := 50) hx hb dX2_digest_92 (by decide) ?_
              exact ih50 (i2 := i2 + 1) (d2 := d3) (m3 := m3) (r3 := r3) (h3 := h3) (o1 := o1) (t1 := t1) (ls := ls) (hl := lv_sub hl [1, 2, 0] rfl) (H := H) (locs := locs) (hP := hP) (hD := hD) (hS := hS) (hinv := by
                  have e9 : w3 = 6 := by omega
                  exact ⟨by omega, by rw [k2, e9, h2]; rfl⟩
                ) (hn9 := by
                  omega
                )
            · skip
              refine lv_lload_n hx hb dX2_digest_68 rfl (lv_at hl 1 rfl) ?_
              refine lv_ldc2 (v := 31) hx hb hown (hts _ (by decide +kernel)) dX2_digest_69 ?_
              refine lv_lmul hx hb dX2_digest_72 ?_
              refine lv_aload_n hx hb dX2_digest_73 rfl (lv_at hl 0 rfl) ?_
              refine lv_iload_n hx hb dX2_digest_74 rfl (lv_at hl 2 rfl) ?_
              refine lv_iload hx hb dX2_digest_75 (lv_at hl 3 rfl) ?_
              refine va_calli (va_runV (As := [.int (nI (i2)), .int (nI (w3))]) (rest := [.long ((d3) * (31))]) ⟨hx, hb, hml, hown, hts⟩ (c_X2_guessTold l D cI cZ cG cJ A bd wr 0 c hid g code ans dbt m3 r3 h3 o1 t1 i2 w3 (hc) (hg) (hco) (by omega) (by omega)) (cwV 2 hts gX2_digest_X2_guessTold rfl rfl rfl (by decide +kernel) ⟨Nat.le_of_ble_eq_true rfl, Nat.le_of_ble_eq_true rfl⟩) (preV (ci := 2) (q0 := 0) hB hS hP hD rfl rfl) rfl rfl hl.1 rfl (lv_room (Nat.le_of_ble_eq_true rfl)) dX2_digest_77 ⟨Nat.le_of_ble_eq_true rfl, Nat.le_of_ble_eq_true rfl⟩) hS (fun q _ h => h) (fun q h => h) (fun r_77 u_77 t9 H1 locs1 ht9 hvm9 hw_77 hBw hz9 hk9 hS => ?_)
              obtain ⟨hP, hD⟩ := hBw
              rw [ht9] at hP
              generalize H1 = H at hP hS ⊢
              generalize locs1 = locs at hS ⊢
              replace hP : va_P D vwCl (WM bd cI 0 c hid g code ans dbt u_77.1 u_77.2.1 u_77.2.2.1 u_77.2.2.2.1 u_77.2.2.2.2 wr) H := hP
              replace hD : va_D A (WM bd cI 0 c hid g code ans dbt u_77.1 u_77.2.1 u_77.2.2.1 u_77.2.2.2.1 u_77.2.2.2.2 wr) := hD
              refine x_ti (y := nI (tldV c code ans dbt i2 w3)) (hw_77.1) ?_
              refine lv_i2l hx hb dX2_digest_80 rfl ?_
              refine lv_ladd hx hb dX2_digest_81 ?_
              refine lv_lstore_n (lv' := [(1, .long (((d3) * (31)) + ((nI (tldV c code ans dbt i2 w3)).toInt64))), (0, .ref (bd 0)), (3, .int (nI (i2))), (4, .int (nI (w3)))]) hx hb dX2_digest_82 rfl hl (by decide) rfl (fun ls hl => ?_)
              refine lv_iinc (v := nI (w3 + 1)) (lv' := [(4, .int (nI (w3 + 1))), (1, .long (((d3) * (31)) + ((nI (tldV c code ans dbt i2 w3)).toInt64))), (0, .ref (bd 0)), (3, .int (nI (i2)))]) hx hb dX2_digest_83 hl (k := 3) rfl (nI_add _ _) (by decide) rfl (fun ls hl => ?_)
              refine lv_goto (tgt := 61) hx hb dX2_digest_86 (by decide) ?_
              exact ih61 (w3 := w3 + 1) (d3 := ((d3) * (31)) + ((nI (tldV c code ans dbt i2 w3)).toInt64)) (m3 := u_77.1) (r3 := u_77.2.1) (h3 := u_77.2.2.1) (o1 := u_77.2.2.2.1) (t1 := u_77.2.2.2.2) (ls := ls) (hl := lv_sub hl [2, 1, 3, 0] rfl) (H := H) (locs := locs) (hP := hP) (hD := hD) (hS := hS) (hinv := by
                  exact ⟨by omega, by rw [k2]; rfl⟩
                ) (hn9 := by
                  omega
                )
    · skip
      refine lv_lload_n hx hb dX2_digest_17 rfl (lv_at hl 1 rfl) ?_
      refine lv_ldc2 (v := 31) hx hb hown (hts _ (by decide +kernel)) dX2_digest_18 ?_
      refine lv_lmul hx hb dX2_digest_21 ?_
      refine lv_aload_n hx hb dX2_digest_22 rfl (lv_at hl 0 rfl) ?_
      refine lv_iload_n hx hb dX2_digest_23 rfl (lv_at hl 2 rfl) ?_
      refine va_calli (va_runV (As := [.int (nI (i))]) (rest := [.long ((dd) * (31))]) ⟨hx, hb, hml, hown, hts⟩ (c_X2_counted l D cI cZ cG cJ A bd wr 0 c hid g code ans dbt m3 r3 h3 o1 t1 i (hc) (hg) (hco) (by omega)) (cwV 1 hts gX2_digest_X2_counted rfl rfl rfl (by decide +kernel) ⟨Nat.le_of_ble_eq_true rfl, Nat.le_of_ble_eq_true rfl⟩) (preV (ci := 2) (q0 := 0) hB hS hP hD rfl rfl) rfl rfl hl.1 rfl (lv_room (Nat.le_of_ble_eq_true rfl)) dX2_digest_24 ⟨Nat.le_of_ble_eq_true rfl, Nat.le_of_ble_eq_true rfl⟩) hS (fun q _ h => h) (fun q h => h) (fun r_24 u_24 t9 H1 locs1 ht9 hvm9 hw_24 hBw hz9 hk9 hS => ?_)
      obtain ⟨hP, hD⟩ := hBw
      rw [ht9] at hP
      generalize H1 = H at hP hS ⊢
      generalize locs1 = locs at hS ⊢
      replace hP : va_P D vwCl (WM bd cI 0 c hid g code ans dbt u_24.1 u_24.2.1 u_24.2.2.1 u_24.2.2.2.1 u_24.2.2.2.2 wr) H := hP
      replace hD : va_D A (WM bd cI 0 c hid g code ans dbt u_24.1 u_24.2.1 u_24.2.2.1 u_24.2.2.2.1 u_24.2.2.2.2 wr) := hD
      refine x_ti (y := nI (cntV c g hid code ans dbt i)) (hw_24.1) ?_
      refine lv_i2l hx hb dX2_digest_27 rfl ?_
      refine lv_ladd hx hb dX2_digest_28 ?_
      refine lv_lstore_n (lv' := [(1, .long (((dd) * (31)) + ((nI (cntV c g hid code ans dbt i)).toInt64))), (0, .ref (bd 0)), (3, .int (nI (i)))]) hx hb dX2_digest_29 rfl hl (by decide) rfl (fun ls hl => ?_)
      refine lv_iinc (v := nI (i + 1)) (lv' := [(3, .int (nI (i + 1))), (1, .long (((dd) * (31)) + ((nI (cntV c g hid code ans dbt i)).toInt64))), (0, .ref (bd 0))]) hx hb dX2_digest_30 hl (k := 2) rfl (nI_add _ _) (by decide) rfl (fun ls hl => ?_)
      refine lv_goto (tgt := 11) hx hb dX2_digest_33 (by decide) ?_
      exact ih11 (i := i + 1) (dd := ((dd) * (31)) + ((nI (cntV c g hid code ans dbt i)).toInt64)) (m3 := u_24.1) (r3 := u_24.2.1) (h3 := u_24.2.2.1) (o1 := u_24.2.2.2.1) (t1 := u_24.2.2.2.2) (ls := ls) (hl := lv_sub hl [2, 1, 0] rfl) (H := H) (locs := locs) (hP := hP) (hD := hD) (hS := hS) (hinv := by
          exact ⟨by omega, by rw [h2]; rfl⟩
        ) (hn9 := by
          omega
        )
