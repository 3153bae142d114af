set_option maxHeartbeats 4000000 in
set_option maxRecDepth 100000 in
theorem c_X2_codes (l : Launch) (D : va_G) (cI cZ cG cJ : ClassId) (A : Nat → Prop) (w : va_W) (so : Nat) (c : Nat) (hid : Int32) (n : Nat) (code : Nat → Nat) (ans : Nat → Nat) (dbt : Nat → Bool) (hc : c = 2 ∨ c = 3) (hS0 : SimAt cI cG w so c hid n code ans dbt) : Met l yX2_codes wsX2_codes ({ frames := 0, cells := 0, slots := 0, locals := 0 }) (va_Pc [.ref (so)] (Iv D (TY cI cZ cG cJ) A (w))) (vp_Si (fun r => r = nI (qq c))) 0 0 (fun _ => False) := by
  refine Met.ofW (cc := cX2_codes) (maxL := 1) (ret := (some .int)) (by decide) rfl ?_
  intro p e s m args below meth c9 s₁ B hml hv
  obtain ⟨rfl, hP, hD, hB⟩ := hv
  have hK := hB.1
  have hA := hB.2.1
  have hx := B.exec
  have hb := B.bytes
  have hr := B.returns
  have hts := atoms_spec (ws := wsX2_codes) B.pre
  have hown : s.vm.findClass RX2 = some m.cls := findClass_of_methodNamed B.named
  have hlocks := B.notSynchronized
  have hS : va_S A s.heap s.heap [] := va_S.rf
  have hinX2 : ∀ w ∈ wsX20, w ∈ wsX2_codes := by decide +kernel
  have lk7 := hts (.fieldLink RX2 7 "HiddenCandlesLaw$Sim" "colours" "I") (by decide +kernel)
  have hl := lv_entry ([.ref (so)]) (n := 1) (Nat.le_of_ble_eq_true rfl)
  rw [lg_entry_eq]
  generalize (lg_sl ([.ref (so)]) ++ List.replicate (1 - (lg_sl ([.ref (so)])).length) Slot.unset).toArray = ls at hl ⊢
  have hl : lv_has ls 1 [(0, .ref (so))] := hl
  obtain ⟨ga, ks, kg, ra, kr, M, f1, f2, f3, f4, f5⟩ := id hS0
  have hq := qq_in hc
  refine lv_aload_n hx hb dX2_codes_0 rfl (lv_at hl 0 rfl) ?_
  refine va_get (D := D) (ci := 2) (v := .int (nI (c))) (C := RX2) (T := TX2) (N := 3) hx hb hts hinX2 hown hK hP ks f1 rfl 0 (by decide) lk7 (fun _ h9 => h9) rfl dX2_codes_1 ?_
  refine lv_iconst (v := nI (2)) hx hb dX2_codes_4 (by decide) ?_
  refine x_ne (tgt := 13) hx hb dX2_codes_5 (by decide) (by omega) (by omega) (fun c5 => ?_) (fun c5 => ?_)
  · skip
    refine lv_bipush (v := nI (81)) hx hb dX2_codes_13 (by decide) ?_
    exact W.iret (v := nI (81)) hx hb hr (fun t ht hW => ⟨_, rfl, (by
        first | (rw [c5]; rfl) | (rw [hc.resolve_left c5]; rfl)), ht⟩) (fun _ h => nomatch h) dX2_codes_15
  · skip
    refine lv_bipush (v := nI (16)) hx hb dX2_codes_8 (by decide) ?_
    refine lv_goto (tgt := 15) hx hb dX2_codes_10 (by decide) ?_
    exact W.iret (v := nI (16)) hx hb hr (fun t ht hW => ⟨_, rfl, (by
        first | (rw [c5]; rfl) | (rw [hc.resolve_left c5]; rfl)), ht⟩) (fun _ h => nomatch h) dX2_codes_15

set_option maxHeartbeats 4000000 in
set_option maxRecDepth 100000 in
theorem c_X2_candles (l : Launch) (D : va_G) (cI cZ cG cJ : ClassId) (A : Nat → Prop) (w : va_W) (so : Nat) (c : Nat) (hid : Int32) (n : Nat) (code : Nat → Nat) (ans : Nat → Nat) (dbt : Nat → Bool) (k : Nat) (hc : c = 2 ∨ c = 3) (hS0 : SimAt cI cG w so c hid n code ans dbt) (hk : k < qq c) : Met l yX2_candles wsX2_candles ({ frames := 0, cells := 1, slots := 4, locals := 0 }) (va_Pc [.ref (so), .int (nI (k))] (Iv D (TY cI cZ cG cJ) A (w))) (va_Qr (fun (u : (Nat → Nat) × Nat) => ∀ j, j < 4 → u.1 j = col c k j) (fun u a9 t9 => a9 = u.2 ∧ Wd D A (((u.2, .inl (cI, 4, .inl (fun j => nI (u.1 j)))) :: w)) t9) A) 1 4 A := by
  refine Met.ofW (cc := cX2_candles) (maxL := 5) (ret := (some (.array .int))) (by decide) rfl ?_
  intro p e s m args below meth c9 s₁ B hml hv
  obtain ⟨rfl, hP, hD, hB⟩ := hv
  have hK := hB.1
  have hA := hB.2.1
  have hx := B.exec
  have hb := B.bytes
  have hr := B.returns
  have hts := atoms_spec (ws := wsX2_candles) B.pre
  have hown : s.vm.findClass RX2 = some m.cls := findClass_of_methodNamed B.named
  have hlocks := B.notSynchronized
  have hS : va_S A s.heap s.heap [] := va_S.rf
  have hinX2 : ∀ w ∈ wsX20, w ∈ wsX2_candles := by decide +kernel
  have lk7 := hts (.fieldLink RX2 7 "HiddenCandlesLaw$Sim" "colours" "I") (by decide +kernel)
  have hl := lv_entry ([.ref (so), .int (nI (k))]) (n := 5) (Nat.le_of_ble_eq_true rfl)
  rw [lg_entry_eq]
  generalize (lg_sl ([.ref (so), .int (nI (k))]) ++ List.replicate (5 - (lg_sl ([.ref (so), .int (nI (k))])).length) Slot.unset).toArray = ls at hl ⊢
  have hl : lv_has ls 5 [(0, .ref (so)), (1, .int (nI (k)))] := hl
  obtain ⟨H, eH⟩ : ∃ q, q = s.heap := ⟨_, rfl⟩
  obtain ⟨locs, eL⟩ : ∃ q : List Loc, q = [] := ⟨_, rfl⟩
  replace hP : va_P D vwCl (w) H := by rw [eH]; exact hP
  replace hS : va_S A s.heap H locs := by rw [eH, eL]; exact hS
  rw [show W p l e _ s m _ below meth c9 s.heap [] = W p l e _ s m _ below meth c9 H locs from by rw [eH, eL]]
  clear eH eL
  obtain ⟨ga, ks, kg, ra, kr, M, f1, f2, f3, f4, f5⟩ := id hS0
  have hq := qq_in hc
  refine lv_iconst (v := nI (4)) hx hb dX2_candles_0 (by decide) ?_
  refine x_newiC hx hb (hts _ (by decide +kernel)) hB hP hD hS (n := 4) (by omega) (by show _ ≤ 1; omega) (by show _ ≤ 4; omega) dX2_candles_1 (fun cn H2 hP2 hD2 hS2 => ?_)
  clear hP hD hS
  generalize H2 = H at hP2 hS2 ⊢
  have hP := hP2; have hD := hD2; have hS := hS2
  clear hP2 hD2 hS2
  replace hP : va_P D vwCl (((cn, .inl (cI, 4, .inl (fun j => nI ((fun _ => 0) j)))) :: w)) H := hP
  replace hD : va_D A (((cn, .inl (cI, 4, .inl (fun j => nI ((fun _ => 0) j)))) :: w)) := hD
  refine lv_astore_n (lv' := [(2, .ref (cn)), (0, .ref (so)), (1, .int (nI (k)))]) hx hb dX2_candles_3 rfl hl (by decide) rfl (fun ls hl => ?_)
  refine lv_iload_n hx hb dX2_candles_4 rfl (lv_at hl 2 rfl) ?_
  refine lv_istore_n (lv' := [(3, .int (nI (k))), (2, .ref (cn)), (0, .ref (so)), (1, .int (nI (k)))]) hx hb dX2_candles_5 rfl hl (by decide) rfl (fun ls hl => ?_)
  refine lv_iconst (v := 3) hx hb dX2_candles_6 (by decide) ?_
  refine lv_istore (lv' := [(4, .int (3)), (3, .int (nI (k))), (2, .ref (cn)), (0, .ref (so)), (1, .int (nI (k)))]) hx hb dX2_candles_7 hl (by decide) rfl (fun ls hl => ?_)
  -- loop at 9
  have hinv : 4 ≤ 4 ∧ 3 = nI 4 - 1 ∧ k = k / c ^ (4 - 4) ∧ ∀ j, 4 ≤ j → j < 4 → (fun _ => 0) j = col c k j := by
    exact ⟨Nat.le_refl _, by decide, by rw [Nat.sub_self, Nat.pow_zero, Nat.div_one], fun j a b => absurd b (by omega)⟩
  obtain ⟨t, tv, rest, f, hq9⟩ : ∃ (t : Nat) (tv : Int32) (rest : Nat) (f : Nat → Nat), lv_has ls 5 [(0, .ref (so)), (1, .int (nI (k))), (2, .ref (cn)), (3, .int (nI (rest))), (4, .int (tv))] ∧ (t ≤ 4 ∧ tv = nI t - 1 ∧ rest = k / c ^ (4 - t) ∧ ∀ j, t ≤ j → j < 4 → f j = col c k j) ∧ va_P D vwCl (((cn, .inl (cI, 4, .inl (fun j => nI (f j)))) :: w)) H ∧ va_D A (((cn, .inl (cI, 4, .inl (fun j => nI (f j)))) :: w)) := ⟨4, 3, k, (fun _ => 0), lv_sub hl [3, 4, 2, 1, 0] rfl, hinv, hP, hD⟩
  clear hl hinv hP hD
  obtain ⟨hl, hinv, hP, hD⟩ := hq9
  obtain ⟨n9_9, hn9⟩ : ∃ q : Nat, t < q := ⟨_, Nat.lt_succ_self _⟩
  induction n9_9 generalizing ls H locs t tv rest f with
  | zero => exact absurd hn9 (Nat.not_lt_zero _)
  | succ n9_9 ih9 =>
    obtain ⟨k1, k2, k3, k7⟩ := hinv
    refine lv_iload hx hb dX2_candles_9 (lv_at hl 4 rfl) ?_
    refine lv_if_lt (tgt := 37) hx hb dX2_candles_11 (by decide) (fun c11 => ?_) (fun c11 => ?_)
    · skip
      refine lv_aload_n hx hb dX2_candles_37 rfl (lv_at hl 2 rfl) ?_
      have ht0 : t = 0 := by
        rcases Nat.eq_zero_or_pos t with q9 | q9
        · exact q9
        · exact absurd c11 (by rw [k2, pk_sub1 q9]; exact nI_pos (by omega))
      refine W.widen (k := 1) (n := 4) (by omega) (by omega) ?_
      exact W.aret (v := .ref cn) hx hb hr (Or.inr ⟨_, rfl⟩) (Or.inr ⟨_, rfl⟩) (fun t ht hW => ⟨⟨(f, cn), cn, rfl, (by
          exact fun j hj => k7 j (by omega) hj), rfl, ⟨by rw [ht]; exact hP, hD⟩⟩, hS.F ht⟩) hS.2.2 dX2_candles_38
    · skip
      have htp : 0 < t := by
        rcases Nat.eq_zero_or_pos t with q9 | q9
        · exact absurd (show tv < 0 by rw [k2, q9]; decide) c11
        · exact q9
      have htv : tv = nI (t - 1) := by rw [k2, pk_sub1 htp]
      refine lv_aload_n hx hb dX2_candles_14 rfl (lv_at hl 2 rfl) ?_
      refine lv_iload hx hb dX2_candles_15 (lv_at hl 4 rfl) ?_
      refine x_ti (y := nI (t - 1)) (htv) ?_
      refine lv_iload_n hx hb dX2_candles_17 rfl (lv_at hl 3 rfl) ?_
      refine lv_aload_n hx hb dX2_candles_18 rfl (lv_at hl 0 rfl) ?_
      refine va_get (D := D) (ci := 2) (v := .int (nI (c))) (C := RX2) (T := TX2) (N := 3) hx hb hts hinX2 hown hK hP (ks + 1) f1 rfl 0 (by decide) lk7 (fun _ h9 => h9) rfl dX2_candles_19 ?_
      refine lv_irem hx hb dX2_candles_22 (nI_ne0 (by omega) (by omega)) ?_
      refine x_ti (pk_rem (by rw [k3]; exact Nat.lt_of_le_of_lt (Nat.div_le_self _ _) (by omega)) (by omega) (by omega)) ?_
      refine x_iast hx hb hK hP hD hS 0 0 rfl rfl (i := t - 1) (v := rest % c) (by omega) (by omega) dX2_candles_23 (fun H locs hP hD hS => ?_)
      replace hP : va_P D vwCl (((cn, .inl (cI, 4, .inl (fun j => nI ((va_up f (t - 1) (rest % c)) j)))) :: w)) H := hP
      replace hD : va_D A (((cn, .inl (cI, 4, .inl (fun j => nI ((va_up f (t - 1) (rest % c)) j)))) :: w)) := hD
      refine lv_iload_n hx hb dX2_candles_24 rfl (lv_at hl 3 rfl) ?_
      refine lv_aload_n hx hb dX2_candles_25 rfl (lv_at hl 0 rfl) ?_
      refine va_get (D := D) (ci := 2) (v := .int (nI (c))) (C := RX2) (T := TX2) (N := 3) hx hb hts hinX2 hown hK hP (ks + 1) f1 rfl 0 (by decide) lk7 (fun _ h9 => h9) rfl dX2_candles_26 ?_
      refine lv_idiv hx hb dX2_candles_29 (nI_ne0 (by omega) (by omega)) ?_
      refine x_ti (pk_div (by rw [k3]; exact Nat.lt_of_le_of_lt (Nat.div_le_self _ _) (by omega)) (by omega) (by omega)) ?_
      refine lv_istore_n (lv' := [(3, .int (nI (rest / c))), (0, .ref (so)), (1, .int (nI (k))), (2, .ref (cn)), (4, .int (tv))]) hx hb dX2_candles_30 rfl hl (by decide) rfl (fun ls hl => ?_)
      refine lv_iinc (v := nI (t - 1) - 1) (lv' := [(4, .int (nI (t - 1) - 1)), (3, .int (nI (rest / c))), (0, .ref (so)), (1, .int (nI (k))), (2, .ref (cn))]) hx hb dX2_candles_31 hl (k := 4) rfl (by rw [htv, Int32.sub_eq_add_neg]; rfl) (by decide) rfl (fun ls hl => ?_)
      refine lv_goto (tgt := 9) hx hb dX2_candles_34 (by decide) ?_
      exact ih9 (t := t - 1) (tv := nI (t - 1) - 1) (rest := rest / c) (f := (va_up f (t - 1) (rest % c))) (ls := ls) (hl := lv_sub hl [2, 3, 4, 1, 0] rfl) (H := H) (locs := locs) (hP := hP) (hD := hD) (hS := hS) (hinv := by
          refine ⟨by omega, rfl, ?_, ?_⟩
          · rw [k3, Nat.div_div_eq_div_mul, ← Nat.pow_succ]; congr 2; omega
          · intro j ha hb9; simp only [va_up]; by_cases e9 : j = t - 1
            · rw [if_pos e9, e9, k3, col, show 3 - (t - 1) = 4 - t by omega]
            · rw [if_neg e9]; exact k7 j (by omega) hb9
        ) (hn9 := by
          omega
        )

set_option maxHeartbeats 4000000 in
set_option maxRecDepth 100000 in
theorem c_X2_pins (l : Launch) (D : va_G) (cI cZ cG cJ : ClassId) (A : Nat → Prop) (w : va_W) (so : Nat) (c : Nat) (hid : Int32) (n : Nat) (code : Nat → Nat) (ans : Nat → Nat) (dbt : Nat → Bool) (a : Nat) (b : Nat) (hc : c = 2 ∨ c = 3) (hS0 : SimAt cI cG w so c hid n code ans dbt) (ha : a < qq c) (hb9 : b < qq c) : Met l yX2_pins wsX2_pins ({ frames := 1, cells := 2, slots := 8, locals := 24 }) (va_Pc [.ref (so), .int (nI (a)), .int (nI (b))] (Iv D (TY cI cZ cG cJ) A (w))) (va_Qi (fun r (u : Unit) => r = nI (pins c a b) ∧ True) (fun u => Wd D A (w)) A) 2 8 A := by
  refine Met.ofW (cc := cX2_pins) (maxL := 9) (ret := (some .int)) (by decide) rfl ?_
  intro p e s m args below meth c9 s₁ B hml hv
  obtain ⟨rfl, hP, hD, hB⟩ := hv
  have hK := hB.1
  have hA := hB.2.1
  have hx := B.exec
  have hb := B.bytes
  have hr := B.returns
  have hts := atoms_spec (ws := wsX2_pins) B.pre
  have hown : s.vm.findClass RX2 = some m.cls := findClass_of_methodNamed B.named
  have hlocks := B.notSynchronized
  have hS : va_S A s.heap s.heap [] := va_S.rf
  have hl := lv_entry ([.ref (so), .int (nI (a)), .int (nI (b))]) (n := 9) (Nat.le_of_ble_eq_true rfl)
  rw [lg_entry_eq]
  generalize (lg_sl ([.ref (so), .int (nI (a)), .int (nI (b))]) ++ List.replicate (9 - (lg_sl ([.ref (so), .int (nI (a)), .int (nI (b))])).length) Slot.unset).toArray = ls at hl ⊢
  have hl : lv_has ls 9 [(0, .ref (so)), (1, .int (nI (a))), (2, .int (nI (b)))] := hl
  obtain ⟨H, eH⟩ : ∃ q, q = s.heap := ⟨_, rfl⟩
  obtain ⟨locs, eL⟩ : ∃ q : List Loc, q = [] := ⟨_, rfl⟩
  replace hP : va_P D vwCl (w) H := by rw [eH]; exact hP
  replace hS : va_S A s.heap H locs := by rw [eH, eL]; exact hS
  rw [show W p l e _ s m _ below meth c9 s.heap [] = W p l e _ s m _ below meth c9 H locs from by rw [eH, eL]]
  clear eH eL
  obtain ⟨ga, ks, kg, ra, kr, M, f1, f2, f3, f4, f5⟩ := id hS0
  have hq := qq_in hc
  refine lv_aload_n hx hb dX2_pins_0 rfl (lv_at hl 0 rfl) ?_
  refine lv_iload_n hx hb dX2_pins_1 rfl (lv_at hl 1 rfl) ?_
  refine va_callr (va_runV (As := [.int (nI (a))]) (rest := []) ⟨hx, hb, hml, hown, hts⟩ (c_X2_candles l D cI cZ cG cJ A w so c hid n code ans dbt a (hc) (hS0) (ha)) (cwV 1 hts gX2_pins_X2_candles rfl rfl rfl (by decide +kernel) ⟨Nat.le_of_ble_eq_true rfl, Nat.le_of_ble_eq_true rfl⟩) (preV (ci := 2) (q0 := ks) hB hS hP hD f1 rfl) rfl rfl hl.1 rfl (lv_room (Nat.le_of_ble_eq_true rfl)) dX2_pins_2 ⟨Nat.le_of_ble_eq_true rfl, Nat.le_of_ble_eq_true rfl⟩) hS (fun q _ h => h) (fun q h => h) (fun u_2 a9 t9 H1 locs1 ht9 hvm9 hw_2 hBw hz9 hk9 hS => ?_)
  obtain ⟨rfl, hP, hD⟩ := hBw
  rw [ht9] at hP
  generalize H1 = H at hP hS ⊢
  generalize locs1 = locs at hS ⊢
  replace hP : va_P D vwCl (((u_2.2, .inl (cI, 4, .inl (fun j => nI (u_2.1 j)))) :: w)) H := hP
  replace hD : va_D A (((u_2.2, .inl (cI, 4, .inl (fun j => nI (u_2.1 j)))) :: w)) := hD
  refine lv_astore_n (lv' := [(3, .ref (u_2.2)), (0, .ref (so)), (1, .int (nI (a))), (2, .int (nI (b)))]) hx hb dX2_pins_5 rfl hl (by decide) rfl (fun ls hl => ?_)
  refine lv_aload_n hx hb dX2_pins_6 rfl (lv_at hl 1 rfl) ?_
  refine lv_iload_n hx hb dX2_pins_7 rfl (lv_at hl 3 rfl) ?_
  refine va_callr (va_runV (As := [.int (nI (b))]) (rest := []) ⟨hx, hb, hml, hown, hts⟩ (c_X2_candles l D cI cZ cG cJ A ((u_2.2, .inl (cI, 4, .inl (fun j => nI (u_2.1 j)))) :: w) so c hid n code ans dbt b (hc) ((hS0.cons _)) (hb9)) (cwV 1 hts gX2_pins_X2_candles rfl rfl rfl (by decide +kernel) ⟨Nat.le_of_ble_eq_true rfl, Nat.le_of_ble_eq_true rfl⟩) (preV (ci := 2) (q0 := ks + 1) hB hS hP hD f1 rfl) rfl rfl hl.1 rfl (lv_room (Nat.le_of_ble_eq_true rfl)) dX2_pins_8 ⟨Nat.le_of_ble_eq_true rfl, Nat.le_of_ble_eq_true rfl⟩) hS (fun q _ h => h) (fun q h => h) (fun u_8 a9 t9 H1 locs1 ht9 hvm9 hw_8 hBw hz9 hk9 hS => ?_)
  obtain ⟨rfl, hP, hD⟩ := hBw
  rw [ht9] at hP
  generalize H1 = H at hP hS ⊢
  generalize locs1 = locs at hS ⊢
  replace hP : va_P D vwCl (((u_8.2, .inl (cI, 4, .inl (fun j => nI (u_8.1 j)))) :: ((u_2.2, .inl (cI, 4, .inl (fun j => nI (u_2.1 j)))) :: w))) H := hP
  replace hD : va_D A (((u_8.2, .inl (cI, 4, .inl (fun j => nI (u_8.1 j)))) :: ((u_2.2, .inl (cI, 4, .inl (fun j => nI (u_2.1 j)))) :: w))) := hD
  refine lv_astore (lv' := [(4, .ref (u_8.2)), (3, .ref (u_2.2)), (0, .ref (so)), (1, .int (nI (a))), (2, .int (nI (b)))]) hx hb dX2_pins_11 hl (by decide) rfl (fun ls hl => ?_)
  replace hP : va_P D vwCl (((u_8.2, .inl (cI, 4, .inl (fun j => nI (u_8.1 j)))) :: (u_2.2, .inl (cI, 4, .inl (fun j => nI (u_2.1 j)))) :: w)) H := hP
  replace hD : va_D A (((u_8.2, .inl (cI, 4, .inl (fun j => nI (u_8.1 j)))) :: (u_2.2, .inl (cI, 4, .inl (fun j => nI (u_2.1 j)))) :: w)) := hD
  refine lv_iconst (v := nI (0)) hx hb dX2_pins_13 (by decide) ?_
  refine lv_istore (lv' := [(5, .int (nI (0))), (4, .ref (u_8.2)), (3, .ref (u_2.2)), (0, .ref (so)), (1, .int (nI (a))), (2, .int (nI (b)))]) hx hb dX2_pins_14 hl (by decide) rfl (fun ls hl => ?_)
  refine lv_iconst (v := nI (0)) hx hb dX2_pins_16 (by decide) ?_
  refine lv_istore (lv' := [(6, .int (nI (0))), (5, .int (nI (0))), (4, .ref (u_8.2)), (3, .ref (u_2.2)), (0, .ref (so)), (1, .int (nI (a))), (2, .int (nI (b)))]) hx hb dX2_pins_17 hl (by decide) rfl (fun ls hl => ?_)
  refine lv_iconst (v := nI (0)) hx hb dX2_pins_19 (by decide) ?_
  refine lv_istore (lv' := [(7, .int (nI (0))), (6, .int (nI (0))), (5, .int (nI (0))), (4, .ref (u_8.2)), (3, .ref (u_2.2)), (0, .ref (so)), (1, .int (nI (a))), (2, .int (nI (b)))]) hx hb dX2_pins_20 hl (by decide) rfl (fun ls hl => ?_)
  -- loop at 22
  have hinv : 0 ≤ 4 ∧ 0 = (dg c a b 0).2.2 ∧ RS (dg c a b 0) (fun j => nI (u_2.1 j)) (fun j => nI (u_8.1 j)) := by
    exact ⟨Nat.zero_le _, rfl, RS_col hc hw_2 hw_8⟩
  obtain ⟨j, bl, fa, fb, hq9⟩ : ∃ (j : Nat) (bl : Nat) (fa : Nat → Int32) (fb : Nat → Int32), lv_has ls 9 [(0, .ref (so)), (1, .int (nI (a))), (2, .int (nI (b))), (3, .ref (u_2.2)), (4, .ref (u_8.2)), (5, .int (nI (bl))), (6, .int (nI (0))), (7, .int (nI (j)))] ∧ (j ≤ 4 ∧ bl = (dg c a b j).2.2 ∧ RS (dg c a b j) fa fb) ∧ va_P D vwCl (((u_8.2, .inl (cI, 4, .inl fb)) :: (u_2.2, .inl (cI, 4, .inl fa)) :: w)) H ∧ va_D A (((u_8.2, .inl (cI, 4, .inl fb)) :: (u_2.2, .inl (cI, 4, .inl fa)) :: w)) := ⟨0, 0, (fun j => nI (u_2.1 j)), (fun j => nI (u_8.1 j)), lv_sub hl [5, 6, 7, 4, 3, 2, 1, 0] rfl, hinv, hP, hD⟩
  clear hl hinv hP hD
  obtain ⟨hl, hinv, hP, hD⟩ := hq9
  obtain ⟨n9_22, hn9⟩ : ∃ q : Nat, 4 - j < q := ⟨_, Nat.lt_succ_self _⟩
  induction n9_22 generalizing ls H locs j bl fa fb with
  | zero => exact absurd hn9 (Nat.not_lt_zero _)
  | succ n9_22 ih22 =>
    obtain ⟨h1, h2, h3⟩ := hinv
    refine lv_iload hx hb dX2_pins_22 (lv_at hl 7 rfl) ?_
    refine lv_iconst (v := nI (4)) hx hb dX2_pins_24 (by decide) ?_
    refine x_ge (tgt := 64) hx hb dX2_pins_25 (by decide) (by omega) (by omega) (fun c25 => ?_) (fun c25 => ?_)
    · skip
      refine lv_iconst (v := nI (0)) hx hb dX2_pins_64 (by decide) ?_
      refine lv_istore (lv' := [(7, .int (nI (0))), (0, .ref (so)), (1, .int (nI (a))), (2, .int (nI (b))), (3, .ref (u_2.2)), (4, .ref (u_8.2)), (5, .int (nI (bl))), (6, .int (nI (0)))]) hx hb dX2_pins_65 hl (by decide) rfl (fun ls hl => ?_)
      -- loop at 67
      have hinv : 0 ≤ 4 ∧ 0 = (ou (dg0 c a b) 0).2.2 ∧ RS (ou (dg0 c a b) 0) fa fb := by
        have e9 : j = 4 := by omega
        subst e9
        exact ⟨Nat.zero_le _, rfl, h3⟩
      obtain ⟨k9, wh, fa, fb, hq9⟩ : ∃ (k9 : Nat) (wh : Nat) (fa : Nat → Int32) (fb : Nat → Int32), lv_has ls 9 [(0, .ref (so)), (1, .int (nI (a))), (2, .int (nI (b))), (3, .ref (u_2.2)), (4, .ref (u_8.2)), (5, .int (nI (bl))), (6, .int (nI (wh))), (7, .int (nI (k9)))] ∧ (k9 ≤ 4 ∧ wh = (ou (dg0 c a b) k9).2.2 ∧ RS (ou (dg0 c a b) k9) fa fb) ∧ va_P D vwCl (((u_8.2, .inl (cI, 4, .inl fb)) :: (u_2.2, .inl (cI, 4, .inl fa)) :: w)) H ∧ va_D A (((u_8.2, .inl (cI, 4, .inl fb)) :: (u_2.2, .inl (cI, 4, .inl fa)) :: w)) := ⟨0, 0, fa, fb, lv_sub hl [1, 2, 3, 4, 5, 6, 7, 0] rfl, hinv, hP, hD⟩
      clear hl hinv hP hD
      obtain ⟨hl, hinv, hP, hD⟩ := hq9
      obtain ⟨n9_67, hn9⟩ : ∃ q : Nat, 4 - k9 < q := ⟨_, Nat.lt_succ_self _⟩
      induction n9_67 generalizing ls H locs k9 wh fa fb with
      | zero => exact absurd hn9 (Nat.not_lt_zero _)
      | succ n9_67 ih67 =>
        obtain ⟨g1, g2, g3⟩ := hinv
        refine lv_iload hx hb dX2_pins_67 (lv_at hl 7 rfl) ?_
        refine lv_iconst (v := nI (4)) hx hb dX2_pins_69 (by decide) ?_
        refine x_ge (tgt := 124) hx hb dX2_pins_70 (by decide) (by omega) (by omega) (fun c70 => ?_) (fun c70 => ?_)
        · skip
          refine lv_iconst (v := nI (5)) hx hb dX2_pins_124 (by decide) ?_
          refine lv_iload hx hb dX2_pins_125 (lv_at hl 5 rfl) ?_
          refine lv_imul hx hb dX2_pins_127 ?_
          refine x_ti (pk_mul _ _) ?_
          refine lv_iload hx hb dX2_pins_128 (lv_at hl 6 rfl) ?_
          refine lv_iadd hx hb dX2_pins_130 ?_
          refine x_ti (nI_add _ _) ?_
          refine x_ti (y := nI (pins c a b)) (by rw [← sim_pins hc ha hb9, h2, g2, show j = 4 by omega, show k9 = 4 by omega]) ?_
          replace hP := P_tail (P_tail hP)
          replace hD := D_tail (D_tail hD)
          refine W.widen (k := 2) (n := 8) (by omega) (by omega) ?_
          exact W.iret (v := nI (pins c a b)) hx hb hr (fun t ht hW => ⟨⟨_, (), rfl, (by
              exact ⟨rfl, trivial⟩), ⟨by rw [ht]; exact hP, hD⟩⟩, hS.F ht⟩) hS.2.2 dX2_pins_131
        · skip
          refine lv_iconst (v := nI (0)) hx hb dX2_pins_73 (by decide) ?_
          refine lv_istore (lv' := [(8, .int (nI (0))), (0, .ref (so)), (1, .int (nI (a))), (2, .int (nI (b))), (3, .ref (u_2.2)), (4, .ref (u_8.2)), (5, .int (nI (bl))), (6, .int (nI (wh))), (7, .int (nI (k9)))]) hx hb dX2_pins_74 hl (by decide) rfl (fun ls hl => ?_)
          -- loop at 76
          have hinv : 0 ≤ 4 ∧ wh = (inn (ou (dg0 c a b) k9) k9 0).2.2 ∧ RS (inn (ou (dg0 c a b) k9) k9 0) fa fb := by
            exact ⟨Nat.zero_le _, g2, g3⟩
          obtain ⟨i, wh, fa, fb, hq9⟩ : ∃ (i : Nat) (wh : Nat) (fa : Nat → Int32) (fb : Nat → Int32), lv_has ls 9 [(0, .ref (so)), (1, .int (nI (a))), (2, .int (nI (b))), (3, .ref (u_2.2)), (4, .ref (u_8.2)), (5, .int (nI (bl))), (6, .int (nI (wh))), (7, .int (nI (k9))), (8, .int (nI (i)))] ∧ (i ≤ 4 ∧ wh = (inn (ou (dg0 c a b) k9) k9 i).2.2 ∧ RS (inn (ou (dg0 c a b) k9) k9 i) fa fb) ∧ va_P D vwCl (((u_8.2, .inl (cI, 4, .inl fb)) :: (u_2.2, .inl (cI, 4, .inl fa)) :: w)) H ∧ va_D A (((u_8.2, .inl (cI, 4, .inl fb)) :: (u_2.2, .inl (cI, 4, .inl fa)) :: w)) := ⟨0, wh, fa, fb, lv_sub hl [1, 2, 3, 4, 5, 6, 7, 8, 0] rfl, hinv, hP, hD⟩
          clear hl hinv hP hD
          obtain ⟨hl, hinv, hP, hD⟩ := hq9
          clear g2 g3
          obtain ⟨n9_76, hn9⟩ : ∃ q : Nat, 4 - i < q := ⟨_, Nat.lt_succ_self _⟩
          induction n9_76 generalizing ls H locs i wh fa fb with
          | zero => exact absurd hn9 (Nat.not_lt_zero _)
          | succ n9_76 ih76 =>
            obtain ⟨d1, d2, d3⟩ := hinv
            refine lv_iload hx hb dX2_pins_76 (lv_at hl 8 rfl) ?_
            refine lv_iconst (v := nI (4)) hx hb dX2_pins_78 (by decide) ?_
            refine x_ge (tgt := 118) hx hb dX2_pins_79 (by decide) (by omega) (by omega) (fun c79 => ?_) (fun c79 => ?_)
            · skip
              refine lv_iinc (v := nI (k9 + 1)) (lv' := [(7, .int (nI (k9 + 1))), (0, .ref (so)), (1, .int (nI (a))), (2, .int (nI (b))), (3, .ref (u_2.2)), (4, .ref (u_8.2)), (5, .int (nI (bl))), (6, .int (nI (wh))), (8, .int (nI (i)))]) hx hb dX2_pins_118 hl (k := 7) rfl (nI_add _ _) (by decide) rfl (fun ls hl => ?_)
              refine lv_goto (tgt := 67) hx hb dX2_pins_121 (by decide) ?_
              exact ih67 (k9 := k9 + 1) (wh := wh) (fa := fa) (fb := fb) (ls := ls) (hl := lv_sub hl [1, 2, 3, 4, 5, 6, 7, 0] rfl) (H := H) (locs := locs) (hP := hP) (hD := hD) (hS := hS) (hinv := by
                  have e8 : i = 4 := by omega
                  subst e8
                  exact ⟨by omega, d2, d3⟩
                ) (hn9 := by
                  omega
                )
            · skip
              refine lv_aload_n hx hb dX2_pins_82 rfl (lv_at hl 3 rfl) ?_
              refine lv_iload hx hb dX2_pins_83 (lv_at hl 7 rfl) ?_
              refine x_iald hx hb hK hP 1 0 rfl rfl (i := k9) (by omega) (by omega) dX2_pins_85 ?_
              refine lv_aload hx hb dX2_pins_86 (lv_at hl 4 rfl) ?_
              refine lv_iload hx hb dX2_pins_88 (lv_at hl 8 rfl) ?_
              refine x_iald hx hb hK hP 0 0 rfl rfl (i := i) (by omega) (by omega) dX2_pins_90 ?_
              refine lv_icmp_eq (tgt := 97) hx hb dX2_pins_91 (by decide) (fun c91 => ?_) (fun c91 => ?_)
              · skip
                refine lv_iinc (v := nI (wh + 1)) (lv' := [(6, .int (nI (wh + 1))), (0, .ref (so)), (1, .int (nI (a))), (2, .int (nI (b))), (3, .ref (u_2.2)), (4, .ref (u_8.2)), (5, .int (nI (bl))), (7, .int (nI (k9))), (8, .int (nI (i)))]) hx hb dX2_pins_97 hl (k := 6) rfl (nI_add _ _) (by decide) rfl (fun ls hl => ?_)
                refine lv_aload_n hx hb dX2_pins_100 rfl (lv_at hl 4 rfl) ?_
                refine lv_iload hx hb dX2_pins_101 (lv_at hl 7 rfl) ?_
                refine lv_iconst (v := (-1)) hx hb dX2_pins_103 (by decide) ?_
                refine x_iastI hx hb hK hP hD hS 1 0 rfl rfl (i := k9) (v := (-1)) (by omega) (by omega) dX2_pins_104 (fun H locs hP hD hS => ?_)
                replace hP : va_P D vwCl (((u_8.2, .inl (cI, 4, .inl fb)) :: (u_2.2, .inl (cI, 4, .inl (va_up fa k9 (-1)))) :: w)) H := hP
                replace hD : va_D A (((u_8.2, .inl (cI, 4, .inl fb)) :: (u_2.2, .inl (cI, 4, .inl (va_up fa k9 (-1)))) :: w)) := hD
                refine lv_aload hx hb dX2_pins_105 (lv_at hl 5 rfl) ?_
                refine lv_iload hx hb dX2_pins_107 (lv_at hl 8 rfl) ?_
                refine lv_bipush (v := (-2)) hx hb dX2_pins_109 (by decide) ?_
                refine x_iastI hx hb hK hP hD hS 0 0 rfl rfl (i := i) (v := (-2)) (by omega) (by omega) dX2_pins_111 (fun H locs hP hD hS => ?_)
                replace hP : va_P D vwCl (((u_8.2, .inl (cI, 4, .inl (va_up fb i (-2)))) :: (u_2.2, .inl (cI, 4, .inl (va_up fa k9 (-1)))) :: w)) H := hP
                replace hD : va_D A (((u_8.2, .inl (cI, 4, .inl (va_up fb i (-2)))) :: (u_2.2, .inl (cI, 4, .inl (va_up fa k9 (-1)))) :: w)) := hD
                refine lv_iinc (v := nI (i + 1)) (lv' := [(8, .int (nI (i + 1))), (6, .int (nI (wh + 1))), (0, .ref (so)), (1, .int (nI (a))), (2, .int (nI (b))), (3, .ref (u_2.2)), (4, .ref (u_8.2)), (5, .int (nI (bl))), (7, .int (nI (k9)))]) hx hb dX2_pins_112 hl (k := 8) rfl (nI_add _ _) (by decide) rfl (fun ls hl => ?_)
                refine lv_goto (tgt := 76) hx hb dX2_pins_115 (by decide) ?_
                exact ih76 (i := i + 1) (wh := wh + 1) (fa := (va_up fa k9 (-1))) (fb := (va_up fb i (-2))) (ls := ls) (hl := lv_sub hl [2, 3, 4, 5, 6, 7, 1, 8, 0] rfl) (H := H) (locs := locs) (hP := hP) (hD := hD) (hS := hS) (hinv := by
                    first | exact ⟨by omega, by rw [d2]; exact ((d3.eq (by omega) (by omega) c91).1).symm, (d3.eq (by omega) (by omega) c91).2⟩ | exact ⟨by omega, by rw [d2]; exact (congrArg (fun q => q.2.2) (d3.ne (by omega) (by omega) c91)).symm, by rw [show inn (ou (dg0 c a b) k9) k9 (i + 1) = stp (inn (ou (dg0 c a b) k9) k9 i) k9 i from rfl, d3.ne (by omega) (by omega) c91]; exact d3⟩
                  ) (hn9 := by
                    omega
                  )
              · skip
                refine lv_goto (tgt := 112) hx hb dX2_pins_94 (by decide) ?_
                refine lv_iinc (v := nI (i + 1)) (lv' := [(8, .int (nI (i + 1))), (0, .ref (so)), (1, .int (nI (a))), (2, .int (nI (b))), (3, .ref (u_2.2)), (4, .ref (u_8.2)), (5, .int (nI (bl))), (6, .int (nI (wh))), (7, .int (nI (k9)))]) hx hb dX2_pins_112 hl (k := 8) rfl (nI_add _ _) (by decide) rfl (fun ls hl => ?_)
                refine lv_goto (tgt := 76) hx hb dX2_pins_115 (by decide) ?_
                exact ih76 (i := i + 1) (wh := wh) (fa := fa) (fb := fb) (ls := ls) (hl := lv_sub hl [1, 2, 3, 4, 5, 6, 7, 8, 0] rfl) (H := H) (locs := locs) (hP := hP) (hD := hD) (hS := hS) (hinv := by
                    first | exact ⟨by omega, by rw [d2]; exact ((d3.eq (by omega) (by omega) c91).1).symm, (d3.eq (by omega) (by omega) c91).2⟩ | exact ⟨by omega, by rw [d2]; exact (congrArg (fun q => q.2.2) (d3.ne (by omega) (by omega) c91)).symm, by rw [show inn (ou (dg0 c a b) k9) k9 (i + 1) = stp (inn (ou (dg0 c a b) k9) k9 i) k9 i from rfl, d3.ne (by omega) (by omega) c91]; exact d3⟩
                  ) (hn9 := by
                    omega
                  )
    · skip
      refine lv_aload_n hx hb dX2_pins_28 rfl (lv_at hl 3 rfl) ?_
      refine lv_iload hx hb dX2_pins_29 (lv_at hl 7 rfl) ?_
      refine x_iald hx hb hK hP 1 0 rfl rfl (i := j) (by omega) (by omega) dX2_pins_31 ?_
      refine lv_aload hx hb dX2_pins_32 (lv_at hl 4 rfl) ?_
      refine lv_iload hx hb dX2_pins_34 (lv_at hl 7 rfl) ?_
      refine x_iald hx hb hK hP 0 0 rfl rfl (i := j) (by omega) (by omega) dX2_pins_36 ?_
      refine lv_icmp_eq (tgt := 43) hx hb dX2_pins_37 (by decide) (fun c37 => ?_) (fun c37 => ?_)
      · skip
        refine lv_iinc (v := nI (bl + 1)) (lv' := [(5, .int (nI (bl + 1))), (0, .ref (so)), (1, .int (nI (a))), (2, .int (nI (b))), (3, .ref (u_2.2)), (4, .ref (u_8.2)), (6, .int (nI (0))), (7, .int (nI (j)))]) hx hb dX2_pins_43 hl (k := 5) rfl (nI_add _ _) (by decide) rfl (fun ls hl => ?_)
        refine lv_aload_n hx hb dX2_pins_46 rfl (lv_at hl 4 rfl) ?_
        refine lv_iload hx hb dX2_pins_47 (lv_at hl 7 rfl) ?_
        refine lv_iconst (v := (-1)) hx hb dX2_pins_49 (by decide) ?_
        refine x_iastI hx hb hK hP hD hS 1 0 rfl rfl (i := j) (v := (-1)) (by omega) (by omega) dX2_pins_50 (fun H locs hP hD hS => ?_)
        replace hP : va_P D vwCl (((u_8.2, .inl (cI, 4, .inl fb)) :: (u_2.2, .inl (cI, 4, .inl (va_up fa j (-1)))) :: w)) H := hP
        replace hD : va_D A (((u_8.2, .inl (cI, 4, .inl fb)) :: (u_2.2, .inl (cI, 4, .inl (va_up fa j (-1)))) :: w)) := hD
        refine lv_aload hx hb dX2_pins_51 (lv_at hl 5 rfl) ?_
        refine lv_iload hx hb dX2_pins_53 (lv_at hl 7 rfl) ?_
        refine lv_bipush (v := (-2)) hx hb dX2_pins_55 (by decide) ?_
        refine x_iastI hx hb hK hP hD hS 0 0 rfl rfl (i := j) (v := (-2)) (by omega) (by omega) dX2_pins_57 (fun H locs hP hD hS => ?_)
        replace hP : va_P D vwCl (((u_8.2, .inl (cI, 4, .inl (va_up fb j (-2)))) :: (u_2.2, .inl (cI, 4, .inl (va_up fa j (-1)))) :: w)) H := hP
        replace hD : va_D A (((u_8.2, .inl (cI, 4, .inl (va_up fb j (-2)))) :: (u_2.2, .inl (cI, 4, .inl (va_up fa j (-1)))) :: w)) := hD
        refine lv_iinc (v := nI (j + 1)) (lv' := [(7, .int (nI (j + 1))), (5, .int (nI (bl + 1))), (0, .ref (so)), (1, .int (nI (a))), (2, .int (nI (b))), (3, .ref (u_2.2)), (4, .ref (u_8.2)), (6, .int (nI (0)))]) hx hb dX2_pins_58 hl (k := 7) rfl (nI_add _ _) (by decide) rfl (fun ls hl => ?_)
        refine lv_goto (tgt := 22) hx hb dX2_pins_61 (by decide) ?_
        exact ih22 (j := j + 1) (bl := bl + 1) (fa := (va_up fa j (-1))) (fb := (va_up fb j (-2))) (ls := ls) (hl := lv_sub hl [2, 3, 4, 5, 6, 1, 7, 0] rfl) (H := H) (locs := locs) (hP := hP) (hD := hD) (hS := hS) (hinv := by
            first | exact ⟨by omega, by rw [h2]; exact ((h3.eq (by omega) (by omega) c37).1).symm, (h3.eq (by omega) (by omega) c37).2⟩ | exact ⟨by omega, by rw [h2]; exact (congrArg (fun q => q.2.2) (h3.ne (by omega) (by omega) c37)).symm, by rw [show dg c a b (j + 1) = stp (dg c a b j) j j from rfl, h3.ne (by omega) (by omega) c37]; exact h3⟩
          ) (hn9 := by
            omega
          )
      · skip
        refine lv_goto (tgt := 58) hx hb dX2_pins_40 (by decide) ?_
        refine lv_iinc (v := nI (j + 1)) (lv' := [(7, .int (nI (j + 1))), (0, .ref (so)), (1, .int (nI (a))), (2, .int (nI (b))), (3, .ref (u_2.2)), (4, .ref (u_8.2)), (5, .int (nI (bl))), (6, .int (nI (0)))]) hx hb dX2_pins_58 hl (k := 7) rfl (nI_add _ _) (by decide) rfl (fun ls hl => ?_)
        refine lv_goto (tgt := 22) hx hb dX2_pins_61 (by decide) ?_
        exact ih22 (j := j + 1) (bl := bl) (fa := fa) (fb := fb) (ls := ls) (hl := lv_sub hl [1, 2, 3, 4, 5, 6, 7, 0] rfl) (H := H) (locs := locs) (hP := hP) (hD := hD) (hS := hS) (hinv := by
            first | exact ⟨by omega, by rw [h2]; exact ((h3.eq (by omega) (by omega) c37).1).symm, (h3.eq (by omega) (by omega) c37).2⟩ | exact ⟨by omega, by rw [h2]; exact (congrArg (fun q => q.2.2) (h3.ne (by omega) (by omega) c37)).symm, by rw [show dg c a b (j + 1) = stp (dg c a b j) j j from rfl, h3.ne (by omega) (by omega) c37]; exact h3⟩
          ) (hn9 := by
            omega
          )

set_option maxHeartbeats 4000000 in
set_option maxRecDepth 100000 in
theorem c_X2_number (l : Launch) (D : va_G) (cI cZ cG cJ : ClassId) (A : Nat → Prop) (w : va_W) (so : Nat) (c : Nat) (hid : Int32) (n : Nat) (code : Nat → Nat) (ans : Nat → Nat) (dbt : Nat → Bool) (cn : Nat) (kn : Nat) (f : Nat → Nat) (hc : c = 2 ∨ c = 3) (hS0 : SimAt cI cG w so c hid n code ans dbt) (e9 : w[kn]? = some (cn, .inl (cI, 4, .inl (fun j => nI (f j))))) : Met l yX2_number wsX2_number ({ frames := 0, cells := 0, slots := 0, locals := 0 }) (va_Pc [.ref (so), .ref (cn)] (Iv D (TY cI cZ cG cJ) A (w))) (vp_Si (fun r => r = nI (((f 0 * c + f 1) * c + f 2) * c + f 3))) 0 0 (fun _ => False) := by
  refine Met.ofW (cc := cX2_number) (maxL := 2) (ret := (some .int)) (by decide) rfl ?_
  intro p e s m args below meth c9 s₁ B hml hv
  obtain ⟨rfl, hP, hD, hB⟩ := hv
  have hK := hB.1
  have hA := hB.2.1
  have hx := B.exec
  have hb := B.bytes
  have hr := B.returns
  have hts := atoms_spec (ws := wsX2_number) B.pre
  have hown : s.vm.findClass RX2 = some m.cls := findClass_of_methodNamed B.named
  have hlocks := B.notSynchronized
  have hS : va_S A s.heap s.heap [] := va_S.rf
  have hinX2 : ∀ w ∈ wsX20, w ∈ wsX2_number := by decide +kernel
  have lk7 := hts (.fieldLink RX2 7 "HiddenCandlesLaw$Sim" "colours" "I") (by decide +kernel)
  have hl := lv_entry ([.ref (so), .ref (cn)]) (n := 2) (Nat.le_of_ble_eq_true rfl)
  rw [lg_entry_eq]
  generalize (lg_sl ([.ref (so), .ref (cn)]) ++ List.replicate (2 - (lg_sl ([.ref (so), .ref (cn)])).length) Slot.unset).toArray = ls at hl ⊢
  have hl : lv_has ls 2 [(0, .ref (so)), (1, .ref (cn))] := hl
  obtain ⟨ga, ks, kg, ra, kr, M, f1, f2, f3, f4, f5⟩ := id hS0
  have hq := qq_in hc
  refine lv_aload_n hx hb dX2_number_0 rfl (lv_at hl 1 rfl) ?_
  refine lv_iconst (v := nI (0)) hx hb dX2_number_1 (by decide) ?_
  refine x_iald hx hb hK hP kn 0 e9 rfl (i := 0) (by omega) (by omega) dX2_number_2 ?_
  refine lv_aload_n hx hb dX2_number_3 rfl (lv_at hl 0 rfl) ?_
  refine va_get (D := D) (ci := 2) (v := .int (nI (c))) (C := RX2) (T := TX2) (N := 3) hx hb hts hinX2 hown hK hP ks f1 rfl 0 (by decide) lk7 (fun _ h9 => h9) rfl dX2_number_4 ?_
  refine lv_imul hx hb dX2_number_7 ?_
  refine x_ti (pk_mul _ _) ?_
  refine lv_aload_n hx hb dX2_number_8 rfl (lv_at hl 1 rfl) ?_
  refine lv_iconst (v := nI (1)) hx hb dX2_number_9 (by decide) ?_
  refine x_iald hx hb hK hP kn 0 e9 rfl (i := 1) (by omega) (by omega) dX2_number_10 ?_
  refine lv_iadd hx hb dX2_number_11 ?_
  refine x_ti (nI_add _ _) ?_
  refine lv_aload_n hx hb dX2_number_12 rfl (lv_at hl 0 rfl) ?_
  refine va_get (D := D) (ci := 2) (v := .int (nI (c))) (C := RX2) (T := TX2) (N := 3) hx hb hts hinX2 hown hK hP ks f1 rfl 0 (by decide) lk7 (fun _ h9 => h9) rfl dX2_number_13 ?_
  refine lv_imul hx hb dX2_number_16 ?_
  refine x_ti (pk_mul _ _) ?_
  refine lv_aload_n hx hb dX2_number_17 rfl (lv_at hl 1 rfl) ?_
  refine lv_iconst (v := nI (2)) hx hb dX2_number_18 (by decide) ?_
  refine x_iald hx hb hK hP kn 0 e9 rfl (i := 2) (by omega) (by omega) dX2_number_19 ?_
  refine lv_iadd hx hb dX2_number_20 ?_
  refine x_ti (nI_add _ _) ?_
  refine lv_aload_n hx hb dX2_number_21 rfl (lv_at hl 0 rfl) ?_
  refine va_get (D := D) (ci := 2) (v := .int (nI (c))) (C := RX2) (T := TX2) (N := 3) hx hb hts hinX2 hown hK hP ks f1 rfl 0 (by decide) lk7 (fun _ h9 => h9) rfl dX2_number_22 ?_
  refine lv_imul hx hb dX2_number_25 ?_
  refine x_ti (pk_mul _ _) ?_
  refine lv_aload_n hx hb dX2_number_26 rfl (lv_at hl 1 rfl) ?_
  refine lv_iconst (v := nI (3)) hx hb dX2_number_27 (by decide) ?_
  refine x_iald hx hb hK hP kn 0 e9 rfl (i := 3) (by omega) (by omega) dX2_number_28 ?_
  refine lv_iadd hx hb dX2_number_29 ?_
  refine x_ti (nI_add _ _) ?_
  exact W.iret (v := nI (((((((f 0) * c) + (f 1)) * c) + (f 2)) * c) + (f 3))) hx hb hr (fun t ht hW => ⟨_, rfl, (by
      rfl), ht⟩) (fun _ h => nomatch h) dX2_number_30

set_option maxHeartbeats 4000000 in
set_option maxRecDepth 100000 in
theorem c_X2_possible (l : Launch) (D : va_G) (cI cZ cG cJ : ClassId) (A : Nat → Prop) (w : va_W) (so : Nat) (c : Nat) (hid : Int32) (n : Nat) (code : Nat → Nat) (ans : Nat → Nat) (dbt : Nat → Bool) (up : Nat) (hc : c = 2 ∨ c = 3) (hS0 : SimAt cI cG w so c hid n code ans dbt) (hup : up ≤ n) (hn13 : n ≤ 13) (hco : CodeOK c n code ans) : Met l yX2_possible wsX2_possible ({ frames := 2, cells := 2107, slots := 8505, locals := 52 }) (va_Pc [.ref (so), .int (nI (up))] (Iv D (TY cI cZ cG cJ) A (w))) (va_Qr (fun (u : (Nat → Bool) × Nat) => ∀ z, z < qq c → u.1 z = fit c code ans dbt up z) (fun u a9 t9 => a9 = u.2 ∧ Wd D A (((u.2, .inl (cZ, qq c, .inl (fun j => bI (u.1 j)))) :: w)) t9) A) 2107 8505 A := by
  refine Met.ofW (cc := cX2_possible) (maxL := 5) (ret := (some (.array .boolean))) (by decide) rfl ?_
  intro p e s m args below meth c9 s₁ B hml hv
  obtain ⟨rfl, hP, hD, hB⟩ := hv
  have hK := hB.1
  have hA := hB.2.1
  have hx := B.exec
  have hb := B.bytes
  have hr := B.returns
  have hts := atoms_spec (ws := wsX2_possible) B.pre
  have hown : s.vm.findClass RX2 = some m.cls := findClass_of_methodNamed B.named
  have hlocks := B.notSynchronized
  have hS : va_S A s.heap s.heap [] := va_S.rf
  have hinX2 : ∀ w ∈ wsX20, w ∈ wsX2_possible := by decide +kernel
  have lk18 := hts (.fieldLink RX2 18 "HiddenCandlesLaw$Sim" "guesses" "[[I") (by decide +kernel)
  have hl := lv_entry ([.ref (so), .int (nI (up))]) (n := 5) (Nat.le_of_ble_eq_true rfl)
  rw [lg_entry_eq]
  generalize (lg_sl ([.ref (so), .int (nI (up))]) ++ List.replicate (5 - (lg_sl ([.ref (so), .int (nI (up))])).length) Slot.unset).toArray = ls at hl ⊢
  have hl : lv_has ls 5 [(0, .ref (so)), (1, .int (nI (up)))] := hl
  obtain ⟨H, eH⟩ : ∃ q, q = s.heap := ⟨_, rfl⟩
  obtain ⟨locs, eL⟩ : ∃ q : List Loc, q = [] := ⟨_, rfl⟩
  replace hP : va_P D vwCl (w) H := by rw [eH]; exact hP
  replace hS : va_S A s.heap H locs := by rw [eH, eL]; exact hS
  rw [show W p l e _ s m _ below meth c9 s.heap [] = W p l e _ s m _ below meth c9 H locs from by rw [eH, eL]]
  clear eH eL
  obtain ⟨ga, ks, kg, ra, kr, M, f1, f2, f3, f4, f5⟩ := id hS0
  have hq := qq_in hc
  refine lv_aload_n hx hb dX2_possible_0 rfl (lv_at hl 0 rfl) ?_
  refine x_csi (va_runV (As := []) (rest := []) ⟨hx, hb, hml, hown, hts⟩ (c_X2_codes l D cI cZ cG cJ A w so c hid n code ans dbt (hc) (hS0)) (cwV 0 hts gX2_possible_X2_codes rfl rfl rfl (by decide +kernel) ⟨Nat.le_of_ble_eq_true rfl, Nat.le_of_ble_eq_true rfl⟩) (preV (ci := 2) (q0 := ks) hB hS hP hD f1 rfl) rfl rfl hl.1 rfl (lv_room (Nat.le_of_ble_eq_true rfl)) dX2_possible_1 ⟨by show _ ≤ 2107; omega, by show _ ≤ 8505; omega⟩) ?_
  refine x_newzC hx hb (hts _ (by decide +kernel)) hB hP hD hS (n := qq c) (by omega) (by show _ ≤ 2107; omega) (by show _ ≤ 8505; omega) dX2_possible_4 (fun pn H2 hP2 hD2 hS2 => ?_)
  clear hP hD hS
  generalize H2 = H at hP2 hS2 ⊢
  have hP := hP2; have hD := hD2; have hS := hS2
  clear hP2 hD2 hS2
  replace hP : va_P D vwCl (((pn, .inl (cZ, qq c, .inl (fun j => bI ((fun _ => false) j)))) :: w)) H := hP
  replace hD : va_D A (((pn, .inl (cZ, qq c, .inl (fun j => bI ((fun _ => false) j)))) :: w)) := hD
  obtain ⟨nc, hnc⟩ : ∃ q : Nat, q = 1 := ⟨_, rfl⟩
  obtain ⟨ns, hns⟩ : ∃ q : Nat, q = 81 := ⟨_, rfl⟩
  refine W.widen (k := nc) (n := ns) (by omega) (by omega) ?_
  refine lv_astore_n (lv' := [(2, .ref (pn)), (0, .ref (so)), (1, .int (nI (up)))]) hx hb dX2_possible_6 rfl hl (by decide) rfl (fun ls hl => ?_)
  refine lv_iconst (v := nI (0)) hx hb dX2_possible_7 (by decide) ?_
  refine lv_istore_n (lv' := [(3, .int (nI (0))), (2, .ref (pn)), (0, .ref (so)), (1, .int (nI (up)))]) hx hb dX2_possible_8 rfl hl (by decide) rfl (fun ls hl => ?_)
  -- loop at 9
  have hinv : 0 ≤ qq c ∧ nc ≤ 1 + 26 * 0 ∧ ns ≤ 81 + 104 * 0 ∧ ∀ z, z < 0 → (fun _ => false) z = fit c code ans dbt up z := by
    exact ⟨Nat.zero_le _, by omega, by omega, fun z hz => absurd hz (Nat.not_lt_zero _)⟩
  obtain ⟨i, f, hq9⟩ : ∃ (i : Nat) (f : Nat → Bool), lv_has ls 5 [(0, .ref (so)), (1, .int (nI (up))), (2, .ref (pn)), (3, .int (nI (i)))] ∧ (i ≤ qq c ∧ nc ≤ 1 + 26 * i ∧ ns ≤ 81 + 104 * i ∧ ∀ z, z < i → f z = fit c code ans dbt up z) ∧ va_P D vwCl (((pn, .inl (cZ, qq c, .inl (fun j => bI (f j)))) :: w)) H ∧ va_D A (((pn, .inl (cZ, qq c, .inl (fun j => bI (f j)))) :: w)) := ⟨0, (fun _ => false), lv_sub hl [2, 3, 1, 0] rfl, hinv, hP, hD⟩
  clear hl hinv hP hD
  obtain ⟨hl, hinv, hP, hD⟩ := hq9
  clear hnc hns
  obtain ⟨n9_9, hn9⟩ : ∃ q : Nat, qq c - i < q := ⟨_, Nat.lt_succ_self _⟩
  induction n9_9 generalizing ls H locs nc ns i f with
  | zero => exact absurd hn9 (Nat.not_lt_zero _)
  | succ n9_9 ih9 =>
    obtain ⟨h1, h2, h3, h4⟩ := hinv
    refine lv_iload_n hx hb dX2_possible_9 rfl (lv_at hl 3 rfl) ?_
    refine lv_aload_n hx hb dX2_possible_10 rfl (lv_at hl 2 rfl) ?_
    refine x_alen hx hb hK hP 0 1 rfl rfl (n := qq c) rfl dX2_possible_11 ?_
    refine x_ge (tgt := 90) hx hb dX2_possible_12 (by decide) (by omega) (by omega) (fun c12 => ?_) (fun c12 => ?_)
    · skip
      refine lv_aload_n hx hb dX2_possible_90 rfl (lv_at hl 2 rfl) ?_
      have e9 : i = qq c := by omega
      subst e9
      refine W.widen (k := 2107) (n := 8505) (by omega) (by omega) ?_
      exact W.aret (v := .ref pn) hx hb hr (Or.inr ⟨_, rfl⟩) (Or.inr ⟨_, rfl⟩) (fun t ht hW => ⟨⟨(f, pn), pn, rfl, (by
          exact h4), rfl, ⟨by rw [ht]; exact hP, hD⟩⟩, hS.F ht⟩) hS.2.2 dX2_possible_91
    · skip
      refine lv_aload_n hx hb dX2_possible_15 rfl (lv_at hl 2 rfl) ?_
      refine lv_iload_n hx hb dX2_possible_16 rfl (lv_at hl 3 rfl) ?_
      refine lv_iconst (v := bI (true)) hx hb dX2_possible_17 (by decide) ?_
      refine x_zast hx hb hK hP hD hS 0 1 rfl rfl (i := i) (v := true) (by omega) (by omega) dX2_possible_18 (fun H locs hP hD hS => ?_)
      replace hP : va_P D vwCl (((pn, .inl (cZ, qq c, .inl (fun j => bI ((va_up f i true) j)))) :: w)) H := hP
      replace hD : va_D A (((pn, .inl (cZ, qq c, .inl (fun j => bI ((va_up f i true) j)))) :: w)) := hD
      refine lv_iconst (v := nI (0)) hx hb dX2_possible_19 (by decide) ?_
      refine lv_istore (lv' := [(4, .int (nI (0))), (0, .ref (so)), (1, .int (nI (up))), (2, .ref (pn)), (3, .int (nI (i)))]) hx hb dX2_possible_20 hl (by decide) rfl (fun ls hl => ?_)
      -- loop at 22
      have hinv : 0 ≤ up ∧ nc ≤ 1 + 26 * i + 2 * 0 ∧ ns ≤ 81 + 104 * i + 8 * 0 ∧ (∀ z, z < i → (va_up f i true) z = fit c code ans dbt up z) ∧ (va_up f i true) i = fit c code ans dbt 0 i := by
        exact ⟨Nat.zero_le _, by omega, by omega, fun z hz => by simp only [va_up, if_neg (show ¬ z = i by omega)]; exact h4 z hz, by simp [va_up, fit]⟩
      obtain ⟨j, fb9, hq9⟩ : ∃ (j : Nat) (fb9 : Nat → Bool), lv_has ls 5 [(0, .ref (so)), (1, .int (nI (up))), (2, .ref (pn)), (3, .int (nI (i))), (4, .int (nI (j)))] ∧ (j ≤ up ∧ nc ≤ 1 + 26 * i + 2 * j ∧ ns ≤ 81 + 104 * i + 8 * j ∧ (∀ z, z < i → fb9 z = fit c code ans dbt up z) ∧ fb9 i = fit c code ans dbt j i) ∧ va_P D vwCl (((pn, .inl (cZ, qq c, .inl (fun j => bI (fb9 j)))) :: w)) H ∧ va_D A (((pn, .inl (cZ, qq c, .inl (fun j => bI (fb9 j)))) :: w)) := ⟨0, (va_up f i true), lv_sub hl [1, 2, 3, 4, 0] rfl, hinv, hP, hD⟩
      clear hl hinv hP hD
      obtain ⟨hl, hinv, hP, hD⟩ := hq9
      clear h2 h3
      obtain ⟨n9_22, hn9⟩ : ∃ q : Nat, up - j < q := ⟨_, Nat.lt_succ_self _⟩
      induction n9_22 generalizing ls H locs nc ns j fb9 with
      | zero => exact absurd hn9 (Nat.not_lt_zero _)
      | succ n9_22 ih22 =>
        obtain ⟨d1, d2, d3, d4, d5⟩ := hinv
        refine lv_iload hx hb dX2_possible_22 (lv_at hl 4 rfl) ?_
        refine lv_iload_n hx hb dX2_possible_24 rfl (lv_at hl 1 rfl) ?_
        refine x_ge (tgt := 84) hx hb dX2_possible_25 (by decide) (by omega) (by omega) (fun c25 => ?_) (fun c25 => ?_)
        · skip
          refine lv_iinc (v := nI (i + 1)) (lv' := [(3, .int (nI (i + 1))), (0, .ref (so)), (1, .int (nI (up))), (2, .ref (pn)), (4, .int (nI (j)))]) hx hb dX2_possible_84 hl (k := 3) rfl (nI_add _ _) (by decide) rfl (fun ls hl => ?_)
          refine lv_goto (tgt := 9) hx hb dX2_possible_87 (by decide) ?_
          exact ih9 (i := i + 1) (f := fb9) (nc := _) (ns := _) (ls := ls) (hl := lv_sub hl [1, 2, 3, 0] rfl) (H := H) (locs := locs) (hP := hP) (hD := hD) (hS := hS) (hinv := by
              have e9 : j = up := by omega
              subst e9
              exact ⟨by omega, by omega, by omega, rows_up d4 d5⟩
            ) (hn9 := by
              omega
            )
        · skip
          refine lv_aload_n hx hb dX2_possible_28 rfl (lv_at hl 2 rfl) ?_
          refine lv_iload_n hx hb dX2_possible_29 rfl (lv_at hl 3 rfl) ?_
          refine lv_dup2_11 hx hb dX2_possible_30 rfl rfl ?_
          refine x_zald hx hb hK hP 0 1 rfl rfl (i := i) (by omega) (by omega) dX2_possible_31 ?_
          refine lv_aload_n hx hb dX2_possible_32 rfl (lv_at hl 0 rfl) ?_
          refine va_get (D := D) (ci := 2) (v := .ref (ga)) (C := RX2) (T := TX2) (N := 3) hx hb hts hinX2 hown hK hP (ks + 1) f1 rfl 2 (by decide) lk18 (fun _ h9 => h9) rfl dX2_possible_33 ?_
          refine lv_iload hx hb dX2_possible_36 (lv_at hl 4 rfl) ?_
          refine x_gald hx hb hK hP (kg + 1) 2 f2 rfl (i := j) (by omega) (by omega) (r := ra j) (if_pos (by omega)) dX2_possible_38 ?_
          refine lv_iconst (v := nI (2)) hx hb dX2_possible_39 (by decide) ?_
          refine x_iald hx hb hK hP (kr j + 1) 0 (f3 j (by omega)) rfl (i := 2) (by omega) (by omega) dX2_possible_40 ?_
          refine x_ti (y := nI (bN (dbt j))) (by rw [(f5 j (by omega)).2.2]) ?_
          refine lv_iconst (v := nI (1)) hx hb dX2_possible_41 (by decide) ?_
          refine x_eq (tgt := 71) hx hb dX2_possible_42 (by decide) (by have := bN_le (dbt j); omega) (by omega) (fun c42 => ?_) (fun c42 => ?_)
          · skip
            refine lv_iconst (v := bI (true)) hx hb dX2_possible_71 (by decide) ?_
            refine lv_goto (tgt := 76) hx hb dX2_possible_72 (by decide) ?_
            refine lv_iand hx hb dX2_possible_76 ?_
            refine x_ti (y := bI ((fb9 i) && true)) (bI_and _ _) ?_
            refine x_zast hx hb hK hP hD hS 0 1 rfl rfl (i := i) (v := (fb9 i) && true) (by omega) (by omega) dX2_possible_77 (fun H locs hP hD hS => ?_)
            replace hP : va_P D vwCl (((pn, .inl (cZ, qq c, .inl (fun j => bI ((va_up fb9 i ((fb9 i) && true)) j)))) :: w)) H := hP
            replace hD : va_D A (((pn, .inl (cZ, qq c, .inl (fun j => bI ((va_up fb9 i ((fb9 i) && true)) j)))) :: w)) := hD
            refine lv_iinc (v := nI (j + 1)) (lv' := [(4, .int (nI (j + 1))), (0, .ref (so)), (1, .int (nI (up))), (2, .ref (pn)), (3, .int (nI (i)))]) hx hb dX2_possible_78 hl (k := 4) rfl (nI_add _ _) (by decide) rfl (fun ls hl => ?_)
            refine lv_goto (tgt := 22) hx hb dX2_possible_81 (by decide) ?_
            exact ih22 (j := j + 1) (fb9 := (va_up fb9 i ((fb9 i) && true))) (nc := _) (ns := _) (ls := ls) (hl := lv_sub hl [1, 2, 3, 4, 0] rfl) (H := H) (locs := locs) (hP := hP) (hD := hD) (hS := hS) (hinv := by
                refine ⟨by omega, by omega, by omega, fun z hz => by simp only [va_up, if_neg (show ¬ z = i by omega)]; exact d4 z hz, ?_⟩
                simp only [va_up, if_true, fit, d5]
                first | (rw [bN_1.mp c42]; simp; done) | (rw [decide_eq_true c68]; simp; done) | (rw [decide_eq_false c68, show dbt j = false by cases h9 : dbt j; rfl; exact absurd (bN_1.mpr h9) c42]; simp; done)
              ) (hn9 := by
                omega
              )
          · skip
            refine lv_aload_n hx hb dX2_possible_45 rfl (lv_at hl 0 rfl) ?_
            refine lv_aload_n hx hb dX2_possible_46 rfl (lv_at hl 0 rfl) ?_
            refine va_get (D := D) (ci := 2) (v := .ref (ga)) (C := RX2) (T := TX2) (N := 3) hx hb hts hinX2 hown hK hP (ks + 1) f1 rfl 2 (by decide) lk18 (fun _ h9 => h9) rfl dX2_possible_47 ?_
            refine lv_iload hx hb dX2_possible_50 (lv_at hl 4 rfl) ?_
            refine x_gald hx hb hK hP (kg + 1) 2 f2 rfl (i := j) (by omega) (by omega) (r := ra j) (if_pos (by omega)) dX2_possible_52 ?_
            refine lv_iconst (v := nI (0)) hx hb dX2_possible_53 (by decide) ?_
            refine x_iald hx hb hK hP (kr j + 1) 0 (f3 j (by omega)) rfl (i := 0) (by omega) (by omega) dX2_possible_54 ?_
            refine x_ti (y := nI (code j)) (by rw [(f5 j (by omega)).1]) ?_
            refine lv_iload_n hx hb dX2_possible_55 rfl (lv_at hl 3 rfl) ?_
            refine va_calli (va_runV (As := [.int (nI (code j)), .int (nI (i))]) (rest := [.int (bI (fb9 i)), .int (nI (i)), .ref (pn)]) ⟨hx, hb, hml, hown, hts⟩ (c_X2_pins l D cI cZ cG cJ A ((pn, .inl (cZ, qq c, .inl (fun j => bI (fb9 j)))) :: w) so c hid n code ans dbt (code j) i (hc) ((hS0.cons _)) ((hco j (by omega)).1) (by omega)) (cwV 2 hts gX2_possible_X2_pins rfl rfl rfl (by decide +kernel) ⟨Nat.le_of_ble_eq_true rfl, Nat.le_of_ble_eq_true rfl⟩) (preV (ci := 2) (q0 := ks + 1) hB hS hP hD f1 rfl) rfl rfl hl.1 rfl (lv_room (Nat.le_of_ble_eq_true rfl)) dX2_possible_56 ⟨by show _ ≤ 2107; omega, by show _ ≤ 8505; omega⟩) hS (fun q _ h => h) (fun q h => h) (fun r_56 u_56 t9 H1 locs1 ht9 hvm9 hw_56 hBw hz9 hk9 hS => ?_)
            obtain ⟨hP, hD⟩ := hBw
            rw [ht9] at hP
            generalize H1 = H at hP hS ⊢
            generalize locs1 = locs at hS ⊢
            replace hP : va_P D vwCl (((pn, .inl (cZ, qq c, .inl (fun j => bI (fb9 j)))) :: w)) H := hP
            replace hD : va_D A (((pn, .inl (cZ, qq c, .inl (fun j => bI (fb9 j)))) :: w)) := hD
            refine x_ti (y := nI (pins c (code j) i)) (hw_56.1) ?_
            have hpi := pins_le hc (hco j (by omega)).1 (show i < qq c by omega)
            have hai := (hco j (by omega)).2
            refine lv_aload_n hx hb dX2_possible_59 rfl (lv_at hl 0 rfl) ?_
            refine va_get (D := D) (ci := 2) (v := .ref (ga)) (C := RX2) (T := TX2) (N := 3) hx hb hts hinX2 hown hK hP (ks + 1) f1 rfl 2 (by decide) lk18 (fun _ h9 => h9) rfl dX2_possible_60 ?_
            refine lv_iload hx hb dX2_possible_63 (lv_at hl 4 rfl) ?_
            refine x_gald hx hb hK hP (kg + 1) 2 f2 rfl (i := j) (by omega) (by omega) (r := ra j) (if_pos (by omega)) dX2_possible_65 ?_
            refine lv_iconst (v := nI (1)) hx hb dX2_possible_66 (by decide) ?_
            refine x_iald hx hb hK hP (kr j + 1) 0 (f3 j (by omega)) rfl (i := 1) (by omega) (by omega) dX2_possible_67 ?_
            refine x_ti (y := nI (ans j)) (by rw [(f5 j (by omega)).2.1]) ?_
            refine x_ne (tgt := 75) hx hb dX2_possible_68 (by decide) (by omega) (by omega) (fun c68 => ?_) (fun c68 => ?_)
            · skip
              refine lv_iconst (v := bI (false)) hx hb dX2_possible_75 (by decide) ?_
              refine lv_iand hx hb dX2_possible_76 ?_
              refine x_ti (y := bI ((fb9 i) && false)) (bI_and _ _) ?_
              refine x_zast hx hb hK hP hD hS 0 1 rfl rfl (i := i) (v := (fb9 i) && false) (by omega) (by omega) dX2_possible_77 (fun H locs hP hD hS => ?_)
              replace hP : va_P D vwCl (((pn, .inl (cZ, qq c, .inl (fun j => bI ((va_up fb9 i ((fb9 i) && false)) j)))) :: w)) H := hP
              replace hD : va_D A (((pn, .inl (cZ, qq c, .inl (fun j => bI ((va_up fb9 i ((fb9 i) && false)) j)))) :: w)) := hD
              refine lv_iinc (v := nI (j + 1)) (lv' := [(4, .int (nI (j + 1))), (0, .ref (so)), (1, .int (nI (up))), (2, .ref (pn)), (3, .int (nI (i)))]) hx hb dX2_possible_78 hl (k := 4) rfl (nI_add _ _) (by decide) rfl (fun ls hl => ?_)
              refine lv_goto (tgt := 22) hx hb dX2_possible_81 (by decide) ?_
              exact ih22 (j := j + 1) (fb9 := (va_up fb9 i ((fb9 i) && false))) (nc := _) (ns := _) (ls := ls) (hl := lv_sub hl [1, 2, 3, 4, 0] rfl) (H := H) (locs := locs) (hP := hP) (hD := hD) (hS := hS) (hinv := by
                  refine ⟨by omega, by omega, by omega, fun z hz => by simp only [va_up, if_neg (show ¬ z = i by omega)]; exact d4 z hz, ?_⟩
                  simp only [va_up, if_true, fit, d5]
                  first | (rw [bN_1.mp c42]; simp; done) | (rw [decide_eq_true c68]; simp; done) | (rw [decide_eq_false c68, show dbt j = false by cases h9 : dbt j; rfl; exact absurd (bN_1.mpr h9) c42]; simp; done)
                ) (hn9 := by
                  omega
                )
            · skip
              refine lv_iconst (v := bI (true)) hx hb dX2_possible_71 (by decide) ?_
              refine lv_goto (tgt := 76) hx hb dX2_possible_72 (by decide) ?_
              refine lv_iand hx hb dX2_possible_76 ?_
              refine x_ti (y := bI ((fb9 i) && true)) (bI_and _ _) ?_
              refine x_zast hx hb hK hP hD hS 0 1 rfl rfl (i := i) (v := (fb9 i) && true) (by omega) (by omega) dX2_possible_77 (fun H locs hP hD hS => ?_)
              replace hP : va_P D vwCl (((pn, .inl (cZ, qq c, .inl (fun j => bI ((va_up fb9 i ((fb9 i) && true)) j)))) :: w)) H := hP
              replace hD : va_D A (((pn, .inl (cZ, qq c, .inl (fun j => bI ((va_up fb9 i ((fb9 i) && true)) j)))) :: w)) := hD
              refine lv_iinc (v := nI (j + 1)) (lv' := [(4, .int (nI (j + 1))), (0, .ref (so)), (1, .int (nI (up))), (2, .ref (pn)), (3, .int (nI (i)))]) hx hb dX2_possible_78 hl (k := 4) rfl (nI_add _ _) (by decide) rfl (fun ls hl => ?_)
              refine lv_goto (tgt := 22) hx hb dX2_possible_81 (by decide) ?_
              exact ih22 (j := j + 1) (fb9 := (va_up fb9 i ((fb9 i) && true))) (nc := _) (ns := _) (ls := ls) (hl := lv_sub hl [1, 2, 3, 4, 0] rfl) (H := H) (locs := locs) (hP := hP) (hD := hD) (hS := hS) (hinv := by
                  refine ⟨by omega, by omega, by omega, fun z hz => by simp only [va_up, if_neg (show ¬ z = i by omega)]; exact d4 z hz, ?_⟩
                  simp only [va_up, if_true, fit, d5]
                  first | (rw [bN_1.mp c42]; simp; done) | (rw [decide_eq_true c68]; simp; done) | (rw [decide_eq_false c68, show dbt j = false by cases h9 : dbt j; rfl; exact absurd (bN_1.mpr h9) c42]; simp; done)
                ) (hn9 := by
                  omega
                )

set_option maxHeartbeats 4000000 in
set_option maxRecDepth 100000 in
theorem c_X2_many (l : Launch) (D : va_G) (cI cZ cG cJ : ClassId) (A : Nat → Prop) (w : va_W) (sa : Nat) (k0 : Nat) (n9 : Nat) (sb : Nat → Bool) (hset : w[k0]? = some (sa, .inl (cZ, n9, .inl (fun j => bI (sb j))))) (hn9 : n9 ≤ 81) : Met l yX2_many wsX2_many ({ frames := 0, cells := 0, slots := 0, locals := 0 }) (va_Pc [.ref (sa)] (Iv D (TY cI cZ cG cJ) A (w))) (vp_Si (fun r => r = nI (cN sb n9))) 0 0 (fun _ => False) := by
  refine Met.ofW (cc := cX2_many) (maxL := 6) (ret := (some .int)) (by decide) rfl ?_
  intro p e s m args below meth c9 s₁ B hml hv
  obtain ⟨rfl, hP, hD, hB⟩ := hv
  have hK := hB.1
  have hA := hB.2.1
  have hx := B.exec
  have hb := B.bytes
  have hr := B.returns
  have hts := atoms_spec (ws := wsX2_many) B.pre
  have hown : s.vm.findClass RX2 = some m.cls := findClass_of_methodNamed B.named
  have hlocks := B.notSynchronized
  have hS : va_S A s.heap s.heap [] := va_S.rf
  have hl := lv_entry ([.ref (sa)]) (n := 6) (Nat.le_of_ble_eq_true rfl)
  rw [lg_entry_eq]
  generalize (lg_sl ([.ref (sa)]) ++ List.replicate (6 - (lg_sl ([.ref (sa)])).length) Slot.unset).toArray = ls at hl ⊢
  have hl : lv_has ls 6 [(0, .ref (sa))] := hl
  refine lv_iconst (v := nI (0)) hx hb dX2_many_0 (by decide) ?_
  refine lv_istore_n (lv' := [(1, .int (nI (0))), (0, .ref (sa))]) hx hb dX2_many_1 rfl hl (by decide) rfl (fun ls hl => ?_)
  refine lv_aload_n hx hb dX2_many_2 rfl (lv_at hl 1 rfl) ?_
  refine lv_astore_n (lv' := [(2, .ref (sa)), (1, .int (nI (0))), (0, .ref (sa))]) hx hb dX2_many_3 rfl hl (by decide) rfl (fun ls hl => ?_)
  refine lv_aload_n hx hb dX2_many_4 rfl (lv_at hl 0 rfl) ?_
  refine x_alen hx hb hK hP k0 1 hset rfl (n := n9) rfl dX2_many_5 ?_
  refine lv_istore_n (lv' := [(3, .int (nI (n9))), (2, .ref (sa)), (1, .int (nI (0))), (0, .ref (sa))]) hx hb dX2_many_6 rfl hl (by decide) rfl (fun ls hl => ?_)
  refine lv_iconst (v := nI (0)) hx hb dX2_many_7 (by decide) ?_
  refine lv_istore (lv' := [(4, .int (nI (0))), (3, .int (nI (n9))), (2, .ref (sa)), (1, .int (nI (0))), (0, .ref (sa))]) hx hb dX2_many_8 hl (by decide) rfl (fun ls hl => ?_)
  -- loop at 10
  have hinv : 0 ≤ n9 ∧ 0 = cN sb 0 := by
    exact ⟨Nat.zero_le _, rfl⟩
  obtain ⟨i, r, hq9⟩ : ∃ (i : Nat) (r : Nat), lv_has ls 6 [(0, .ref (sa)), (1, .int (nI (r))), (2, .ref (sa)), (3, .int (nI (n9))), (4, .int (nI (i)))] ∧ (i ≤ n9 ∧ r = cN sb i) := ⟨0, 0, lv_sub hl [4, 3, 2, 1, 0] rfl, hinv⟩
  clear hl hinv
  obtain ⟨hl, hinv⟩ := hq9
  obtain ⟨n9_10, hn9⟩ : ∃ q : Nat, n9 - i < q := ⟨_, Nat.lt_succ_self _⟩
  induction n9_10 generalizing ls i r with
  | zero => exact absurd hn9 (Nat.not_lt_zero _)
  | succ n9_10 ih10 =>
    obtain ⟨h1, h2⟩ := hinv; have hle := cN_le sb i
    refine lv_iload hx hb dX2_many_10 (lv_at hl 4 rfl) ?_
    refine lv_iload_n hx hb dX2_many_12 rfl (lv_at hl 3 rfl) ?_
    refine x_ge (tgt := 41) hx hb dX2_many_13 (by decide) (by omega) (by omega) (fun c13 => ?_) (fun c13 => ?_)
    · skip
      refine lv_iload_n hx hb dX2_many_41 rfl (lv_at hl 1 rfl) ?_
      exact W.iret (v := nI (r)) hx hb hr (fun t ht hW => ⟨_, rfl, (by
          have e9 : i = n9 := by omega
          rw [h2, e9]), ht⟩) (fun _ h => nomatch h) dX2_many_42
    · skip
      refine lv_aload_n hx hb dX2_many_16 rfl (lv_at hl 2 rfl) ?_
      refine lv_iload hx hb dX2_many_17 (lv_at hl 4 rfl) ?_
      refine x_zald hx hb hK hP k0 1 hset rfl (i := i) (by omega) (by omega) dX2_many_19 ?_
      refine lv_istore (lv' := [(5, .int (bI (sb i))), (0, .ref (sa)), (1, .int (nI (r))), (2, .ref (sa)), (3, .int (nI (n9))), (4, .int (nI (i)))]) hx hb dX2_many_20 hl (by decide) rfl (fun ls hl => ?_)
      refine lv_iload_n hx hb dX2_many_22 rfl (lv_at hl 2 rfl) ?_
      refine lv_iload hx hb dX2_many_23 (lv_at hl 0 rfl) ?_
      refine x_zeq (tgt := 32) hx hb dX2_many_25 (by decide) (fun c25 => ?_) (fun c25 => ?_)
      · skip
        refine lv_iconst (v := nI (0)) hx hb dX2_many_32 (by decide) ?_
        refine lv_iadd hx hb dX2_many_33 ?_
        refine x_ti (nI_add _ _) ?_
        refine lv_istore_n (lv' := [(1, .int (nI (r + 0))), (5, .int (bI (sb i))), (0, .ref (sa)), (2, .ref (sa)), (3, .int (nI (n9))), (4, .int (nI (i)))]) hx hb dX2_many_34 rfl hl (by decide) rfl (fun ls hl => ?_)
        refine lv_iinc (v := nI (i + 1)) (lv' := [(4, .int (nI (i + 1))), (1, .int (nI (r + 0))), (5, .int (bI (sb i))), (0, .ref (sa)), (2, .ref (sa)), (3, .int (nI (n9)))]) hx hb dX2_many_35 hl (k := 5) rfl (nI_add _ _) (by decide) rfl (fun ls hl => ?_)
        refine lv_goto (tgt := 10) hx hb dX2_many_38 (by decide) ?_
        exact ih10 (i := i + 1) (r := r + 0) (ls := ls) (hl := lv_sub hl [3, 1, 4, 5, 0] rfl) (hinv := by
            refine ⟨by omega, ?_⟩
            first | (rw [cN_s c25, h2]; done) | (rw [cN_n c25, h2]; done) | (rw [cN_n c25, h2, Nat.add_zero]; done)
          ) (hn9 := by
            omega
          )
      · skip
        refine lv_iconst (v := nI (1)) hx hb dX2_many_28 (by decide) ?_
        refine lv_goto (tgt := 33) hx hb dX2_many_29 (by decide) ?_
        refine lv_iadd hx hb dX2_many_33 ?_
        refine x_ti (nI_add _ _) ?_
        refine lv_istore_n (lv' := [(1, .int (nI (r + 1))), (5, .int (bI (sb i))), (0, .ref (sa)), (2, .ref (sa)), (3, .int (nI (n9))), (4, .int (nI (i)))]) hx hb dX2_many_34 rfl hl (by decide) rfl (fun ls hl => ?_)
        refine lv_iinc (v := nI (i + 1)) (lv' := [(4, .int (nI (i + 1))), (1, .int (nI (r + 1))), (5, .int (bI (sb i))), (0, .ref (sa)), (2, .ref (sa)), (3, .int (nI (n9)))]) hx hb dX2_many_35 hl (k := 5) rfl (nI_add _ _) (by decide) rfl (fun ls hl => ?_)
        refine lv_goto (tgt := 10) hx hb dX2_many_38 (by decide) ?_
        exact ih10 (i := i + 1) (r := r + 1) (ls := ls) (hl := lv_sub hl [3, 1, 4, 5, 0] rfl) (hinv := by
            refine ⟨by omega, ?_⟩
            first | (rw [cN_s c25, h2]; done) | (rw [cN_n c25, h2]; done) | (rw [cN_n c25, h2, Nat.add_zero]; done)
          ) (hn9 := by
            omega
          )

set_option maxHeartbeats 4000000 in
set_option maxRecDepth 100000 in
theorem c_X2_init (l : Launch) (D : va_G) (cI cZ cG cJ : ClassId) (A : Nat → Prop) (x : Nat) (w0 : va_W)  : Met l yX2_init wsX2_init ({ frames := 1, cells := 1, slots := 0, locals := 12 }) (va_Pc [.ref (x)] (Iv D (TY cI cZ cG cJ) A (((x, .inr (2, [.int 0, .int 0, .null])) :: w0)))) (va_Qv (fun (u : Nat) => True) (fun u => Wd D A (((u, PartC cG 0 0 (fun _ => 0)) :: (x, .inr (2, [.int (nI 3), .int (-1), .ref u])) :: w0))) A) 1 0 A := by
  refine Met.ofW (cc := cX2_init) (maxL := 1) (ret := none) (by decide) rfl ?_
  intro p e s m args below meth c9 s₁ B hml hv
  obtain ⟨rfl, hP, hD, hB⟩ := hv
  have hK := hB.1
  have hA := hB.2.1
  have hx := B.exec
  have hb := B.bytes
  have hr := B.returns
  have hts := atoms_spec (ws := wsX2_init) B.pre
  have hown : s.vm.findClass RX2 = some m.cls := findClass_of_methodNamed B.named
  have hlocks := B.notSynchronized
  have hS : va_S A s.heap s.heap [] := va_S.rf
  have hinit : meth.name = "<init>" := (name_of_methodNamed B.named B.method).1
  have hinX2 : ∀ w ∈ wsX20, w ∈ wsX2_init := by decide +kernel
  have lk7 := hts (.fieldLink RX2 7 "HiddenCandlesLaw$Sim" "colours" "I") (by decide +kernel)
  have lk13 := hts (.fieldLink RX2 13 "HiddenCandlesLaw$Sim" "hidden" "I") (by decide +kernel)
  have lk18 := hts (.fieldLink RX2 18 "HiddenCandlesLaw$Sim" "guesses" "[[I") (by decide +kernel)
  have hl := lv_entry ([.ref (x)]) (n := 1) (Nat.le_of_ble_eq_true rfl)
  rw [lg_entry_eq]
  generalize (lg_sl ([.ref (x)]) ++ List.replicate (1 - (lg_sl ([.ref (x)])).length) Slot.unset).toArray = ls at hl ⊢
  have hl : lv_has ls 1 [(0, .ref (x))] := hl
  obtain ⟨H, eH⟩ : ∃ q, q = s.heap := ⟨_, rfl⟩
  obtain ⟨locs, eL⟩ : ∃ q : List Loc, q = [] := ⟨_, rfl⟩
  replace hP : va_P D vwCl (((x, .inr (2, [.int 0, .int 0, .null])) :: w0)) H := by rw [eH]; exact hP
  replace hS : va_S A s.heap H locs := by rw [eH, eL]; exact hS
  rw [show W p l e _ s m _ below meth c9 s.heap [] = W p l e _ s m _ below meth c9 H locs from by rw [eH, eL]]
  clear eH eL
  refine lv_aload_n hx hb dX2_init_0 rfl (lv_at hl 0 rfl) ?_
  refine W.objInit hx hb hown (hts (.methodLink RX2 1 objectInit) (by decide +kernel)) (hts (.instanceMethod objectInit) (by decide +kernel)) (hts (.code objectInit ⟨#[0xb1]⟩ 1 none) (by decide +kernel)) rfl (by rw [hml]; exact hl.1) rfl dX2_init_1 (Nat.le_of_ble_eq_true rfl) (Nat.le_of_ble_eq_true rfl) ?_
  refine W.eq (g2 := F0 m 4 ls []) rfl ?_
  refine lv_aload_n hx hb dX2_init_4 rfl (lv_at hl 0 rfl) ?_
  refine lv_iconst (v := nI (3)) hx hb dX2_init_5 (by decide) ?_
  refine va_put (D := D) (ci := 2) (v := .int (nI (3))) (ty := .int) (C := RX2) (T := TX2) (N := 3) hx hb hts hinX2 tyX2 tyX2_ok nmX2 hown hK hP hD hS 0 rfl rfl 0 (by decide) lk7 (fun _ h9 => h9) rfl (by decide +kernel) rfl rfl (Nat.le_of_ble_eq_true rfl) dX2_init_6 (fun H locs hP hD hS => ?_)
  replace hP : va_P D vwCl (((x, .inr (2, [(.int (nI (3))), .int 0, .null])) :: w0)) H := hP
  replace hD : va_D A (((x, .inr (2, [(.int (nI (3))), .int 0, .null])) :: w0)) := hD
  refine lv_aload_n hx hb dX2_init_9 rfl (lv_at hl 0 rfl) ?_
  refine lv_iconst (v := (-1)) hx hb dX2_init_10 (by decide) ?_
  refine va_put (D := D) (ci := 2) (v := .int ((-1))) (ty := .int) (C := RX2) (T := TX2) (N := 3) hx hb hts hinX2 tyX2 tyX2_ok nmX2 hown hK hP hD hS 0 rfl rfl 1 (by decide) lk13 (fun _ h9 => h9) rfl (by decide +kernel) rfl rfl (Nat.le_of_ble_eq_true rfl) dX2_init_11 (fun H locs hP hD hS => ?_)
  replace hP : va_P D vwCl (((x, .inr (2, [(.int (nI (3))), (.int ((-1))), .null])) :: w0)) H := hP
  replace hD : va_D A (((x, .inr (2, [(.int (nI (3))), (.int ((-1))), .null])) :: w0)) := hD
  refine lv_aload_n hx hb dX2_init_14 rfl (lv_at hl 0 rfl) ?_
  refine lv_iconst (v := nI (0)) hx hb dX2_init_15 (by decide) ?_
  refine x_newg (rc := (fun _ => 0)) hx hb hown (hts _ (by decide +kernel)) hB hP hD hS (n := 0) (by decide) (by show _ ≤ 1; omega) (by show _ ≤ 0; omega) dX2_init_16 (fun gn H2 hP2 hD2 hS2 => ?_)
  clear hP hD hS
  generalize H2 = H at hP2 hS2 ⊢
  have hP := hP2; have hD := hD2; have hS := hS2
  clear hP2 hD2 hS2
  replace hP : va_P D vwCl (((gn, PartC cG 0 0 (fun _ => 0)) :: (x, .inr (2, [(.int (nI (3))), (.int ((-1))), .null])) :: w0)) H := hP
  replace hD : va_D A (((gn, PartC cG 0 0 (fun _ => 0)) :: (x, .inr (2, [(.int (nI (3))), (.int ((-1))), .null])) :: w0)) := hD
  refine va_put (D := D) (ci := 2) (v := .ref (gn)) (ty := (.array (.array .int))) (C := RX2) (T := TX2) (N := 3) hx hb hts hinX2 tyX2 tyX2_ok nmX2 hown hK hP hD hS 1 rfl rfl 2 (by decide) lk18 (fun _ h9 => h9) rfl (by decide +kernel) rfl rfl (Nat.le_of_ble_eq_true rfl) dX2_init_19 (fun H locs hP hD hS => ?_)
  replace hP : va_P D vwCl (((gn, PartC cG 0 0 (fun _ => 0)) :: (x, .inr (2, [(.int (nI (3))), (.int ((-1))), (.ref (gn))])) :: w0)) H := hP
  replace hD : va_D A (((gn, PartC cG 0 0 (fun _ => 0)) :: (x, .inr (2, [(.int (nI (3))), (.int ((-1))), (.ref (gn))])) :: w0)) := hD
  refine W.widen (k := 1) (n := 0) (by omega) (by omega) ?_
  exact W.vret hx hb hr (fun t ht hW => ⟨⟨gn, rfl, (by
      trivial), ⟨by rw [ht]; exact hP, hD⟩⟩, hS.F ht⟩) hS.2.2 dX2_init_22
