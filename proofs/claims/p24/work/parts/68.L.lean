set_option maxHeartbeats 4000000 in
set_option maxRecDepth 100000 in
theorem c_L_below (l : Launch) (D : va_G) (cI cZ cG cJ : ClassId) (A : Nat → Prop) (w : va_W) (v : Int32) (n : Nat) (h0 : 0 < n) (hn : n < 2 ^ 31) : Met l yL_below wsL_below ({ frames := 0, cells := 0, slots := 0, locals := 0 }) (va_Pc [.int (v), .int (nI (n))] (Iv D (TY cI cZ cG cJ) A (w))) (vp_Si (fun r => r = nI (bw v n))) 0 0 (fun _ => False) := by
  refine Met.ofW (cc := cL_below) (maxL := 2) (ret := (some .int)) (by decide) rfl ?_
  intro p e s m args below meth c9 s₁ B hml hv
  obtain ⟨rfl, hP, hD, hB⟩ := hv
  have hK := hB.1
  have hA := hB.2.1
  have hx := B.exec
  have hb := B.bytes
  have hr := B.returns
  have hts := atoms_spec (ws := wsL_below) B.pre
  have hown : s.vm.findClass RL = some m.cls := findClass_of_methodNamed B.named
  have hlocks := B.notSynchronized
  have hS : va_S A s.heap s.heap [] := va_S.rf
  have hl := lv_entry ([.int (v), .int (nI (n))]) (n := 2) (Nat.le_of_ble_eq_true rfl)
  rw [lg_entry_eq]
  generalize (lg_sl ([.int (v), .int (nI (n))]) ++ List.replicate (2 - (lg_sl ([.int (v), .int (nI (n))])).length) Slot.unset).toArray = ls at hl ⊢
  have hl : lv_has ls 2 [(0, .int (v)), (1, .int (nI (n)))] := hl
  refine lv_iload_n hx hb dL_below_0 rfl (lv_at hl 0 rfl) ?_
  refine lv_ldc (v := 2147483647) hx hb hown (hts _ (by decide +kernel)) dL_below_1 ?_
  refine lv_iand hx hb dL_below_3 ?_
  refine lv_iload_n hx hb dL_below_4 rfl (lv_at hl 1 rfl) ?_
  refine lv_irem hx hb dL_below_5 (nI_ne0 h0 hn) ?_
  refine x_ti (y := nI (bw v n)) (bw_rem v h0 hn) ?_
  exact W.iret (v := nI (bw v n)) hx hb hr (fun t ht hW => ⟨_, rfl, (by
      rfl), ht⟩) (fun _ h => nomatch h) dL_below_6

set_option maxHeartbeats 4000000 in
set_option maxRecDepth 100000 in
theorem c_L_cell (l : Launch) (D : va_G) (cI cZ cG cJ : ClassId) (A : Nat → Prop) (w : va_W) (b : Nat) (L : Nat) (xs : Nat → Int32) (k : Nat) (hL : L ≤ 260) (hk : k < 2 ^ 30) : Met l yL_cell wsL_cell ({ frames := 0, cells := 0, slots := 0, locals := 0 }) (va_Pc [.ref (b), .int (nI (k))] (IvX D (TY cI cZ cG cJ) A (w) b L xs)) (vp_Si (fun r => r = cel xs L k)) 0 0 (fun _ => False) := by
  refine Met.ofW (cc := cL_cell) (maxL := 2) (ret := (some .int)) (by decide) rfl ?_
  intro p e s m args below meth c9 s₁ B hml hv
  obtain ⟨rfl, ⟨hP, hD, hB⟩, hX, hbl, hbA⟩ := hv
  have hK := hB.1
  have hA := hB.2.1
  have hx := B.exec
  have hb := B.bytes
  have hr := B.returns
  have hts := atoms_spec (ws := wsL_cell) B.pre
  have hown : s.vm.findClass RL = some m.cls := findClass_of_methodNamed B.named
  have hlocks := B.notSynchronized
  have hS : va_S A s.heap s.heap [] := va_S.rf
  have hl := lv_entry ([.ref (b), .int (nI (k))]) (n := 2) (Nat.le_of_ble_eq_true rfl)
  rw [lg_entry_eq]
  generalize (lg_sl ([.ref (b), .int (nI (k))]) ++ List.replicate (2 - (lg_sl ([.ref (b), .int (nI (k))])).length) Slot.unset).toArray = ls at hl ⊢
  have hl : lv_has ls 2 [(0, .ref (b)), (1, .int (nI (k)))] := hl
  have hL31 : L < 2 ^ 31 := by omega
  refine lv_iload_n hx hb dL_cell_0 rfl (lv_at hl 1 rfl) ?_
  refine lv_aload_n hx hb dL_cell_1 rfl (lv_at hl 0 rfl) ?_
  refine va_slen hx hb hX hbl hbA hS dL_cell_2 ?_
  refine x_ge (tgt := 12) hx hb dL_cell_3 (by decide) (by omega) (by omega) (fun c3 => ?_) (fun c3 => ?_)
  · skip
    refine lv_ldc (v := 790386105) hx hb hown (hts _ (by decide +kernel)) dL_cell_12 ?_
    refine lv_iload_n hx hb dL_cell_14 rfl (lv_at hl 1 rfl) ?_
    refine lv_iconst (v := nI (3)) hx hb dL_cell_15 (by decide) ?_
    refine lv_iadd hx hb dL_cell_16 ?_
    refine x_ti (nI_add _ _) ?_
    refine lv_imul hx hb dL_cell_17 ?_
    exact W.iret (v := (790386105) * (nI (k + 3))) hx hb hr (fun t ht hW => ⟨_, rfl, (by
        first | (rw [cel, if_pos c3]; done) | (rw [cel, if_neg (by omega)]; done)), ht⟩) (fun _ h => nomatch h) dL_cell_18
  · skip
    refine lv_aload_n hx hb dL_cell_6 rfl (lv_at hl 0 rfl) ?_
    refine lv_iload_n hx hb dL_cell_7 rfl (lv_at hl 1 rfl) ?_
    refine x_sld hx hb hX hbl hbA hS (i := k) (by omega) hL31 dL_cell_8 ?_
    refine lv_goto (tgt := 18) hx hb dL_cell_9 (by decide) ?_
    exact W.iret (v := xs k) hx hb hr (fun t ht hW => ⟨_, rfl, (by
        first | (rw [cel, if_pos c3]; done) | (rw [cel, if_neg (by omega)]; done)), ht⟩) (fun _ h => nomatch h) dL_cell_18

set_option maxHeartbeats 4000000 in
set_option maxRecDepth 100000 in
theorem c_L_add (l : Launch) (D : va_G) (cI cZ cG cJ : ClassId) (A : Nat → Prop) (ad : Nat → Nat) (so : Nat) (c : Nat) (g : Nat) (hid : Int32) (code : Nat → Nat) (ans : Nat → Nat) (dbt : Nat → Bool) (opn : Nat → Bool) (ply : Nat → Bool) (hps : Nat → Nat) (wr : va_W) (sc : Nat) (shid : Int32) (sn : Nat) (scode : Nat → Nat) (sans : Nat → Nat) (sdbt : Nat → Bool) (k : Nat) (an : Nat) (hpal : Pals cI cG ad wr) (hS0 : SimAt cI cG wr so sc shid sn scode sans sdbt) (hn : sn ≤ 12) : Met l yL_add wsL_add ({ frames := 0, cells := 2, slots := 16, locals := 0 }) (va_Pc [.ref (so), .int (nI (k)), .int (nI (an))] (Iv D (TY cI cZ cG cJ) A (WX ad cI cZ c g hid code ans dbt opn ply hps wr))) (va_Qv (fun (u : va_W) => Pals cI cG ad u ∧ SimAt cI cG u so sc shid (sn + 1) (va_up scode sn k) (va_up sans sn an) (va_up sdbt sn false)) (fun u => Wd D A (WX ad cI cZ c g hid code ans dbt opn ply hps u)) A) 2 16 A := by
  refine Met.ofW (cc := cL_add) (maxL := 5) (ret := none) (by decide) rfl ?_
  intro p e s m args below meth c9 s₁ B hml hv
  obtain ⟨rfl, hP, hD, hB⟩ := hv
  have hK := hB.1
  have hA := hB.2.1
  have hx := B.exec
  have hb := B.bytes
  have hr := B.returns
  have hts := atoms_spec (ws := wsL_add) B.pre
  have hown : s.vm.findClass RL = some m.cls := findClass_of_methodNamed B.named
  have hlocks := B.notSynchronized
  have hS : va_S A s.heap s.heap [] := va_S.rf
  have hinX2 : ∀ w ∈ wsX20, w ∈ wsL_add := by decide +kernel
  have lk21 := hts (.fieldLink RL 21 "HiddenCandlesLaw$Sim" "guesses" "[[I") (by decide +kernel)
  have hl := lv_entry ([.ref (so), .int (nI (k)), .int (nI (an))]) (n := 5) (Nat.le_of_ble_eq_true rfl)
  rw [lg_entry_eq]
  generalize (lg_sl ([.ref (so), .int (nI (k)), .int (nI (an))]) ++ List.replicate (5 - (lg_sl ([.ref (so), .int (nI (k)), .int (nI (an))])).length) Slot.unset).toArray = ls at hl ⊢
  have hl : lv_has ls 5 [(0, .ref (so)), (1, .int (nI (k))), (2, .int (nI (an)))] := hl
  obtain ⟨H, eH⟩ : ∃ q, q = s.heap := ⟨_, rfl⟩
  obtain ⟨locs, eL⟩ : ∃ q : List Loc, q = [] := ⟨_, rfl⟩
  replace hP : va_P D vwCl (WX ad cI cZ c g hid code ans dbt opn ply hps wr) H := by rw [eH]; exact hP
  replace hS : va_S A s.heap H locs := by rw [eH, eL]; exact hS
  rw [show W p l e _ s m _ below meth c9 s.heap [] = W p l e _ s m _ below meth c9 H locs from by rw [eH, eL]]
  clear eH eL
  obtain ⟨ga, ks, kg, ra, kr, M, hF⟩ := id hS0
  refine lv_aload_n hx hb dL_add_0 rfl (lv_at hl 0 rfl) ?_
  refine va_get (D := D) (ci := 2) (v := .ref (ga)) (C := RX2) (T := TX2) (N := 3) hx hb hts hinX2 hown hK hP (ks + 7) (atWX hF.1) rfl 2 (by decide) lk21 (fun _ h9 => h9) rfl dL_add_1 ?_
  refine x_alen hx hb hK hP (kg + 7) 2 (atWX hF.2.1) rfl (n := sn) rfl dL_add_4 ?_
  refine lv_iconst (v := nI (1)) hx hb dL_add_5 (by decide) ?_
  refine lv_iadd hx hb dL_add_6 ?_
  refine x_ti (nI_add _ _) ?_
  refine x_newg (rc := ra) hx hb hown (hts _ (by decide +kernel)) hB hP hD hS (n := sn + 1) (by omega) (by show _ ≤ 2; omega) (by show _ ≤ 16; omega) dL_add_7 (fun gn H2 hP2 hD2 hS2 => ?_)
  clear hP hD hS
  generalize H2 = H at hP2 hS2 ⊢
  have hP := hP2; have hD := hD2; have hS := hS2
  clear hP2 hD2 hS2
  replace hP : va_P D vwCl (((gn, PartC cG (sn + 1) 0 ra) :: WX ad cI cZ c g hid code ans dbt opn ply hps wr)) H := hP
  replace hD : va_D A (((gn, PartC cG (sn + 1) 0 ra) :: WX ad cI cZ c g hid code ans dbt opn ply hps wr)) := hD
  refine lv_astore_n (lv' := [(3, .ref (gn)), (0, .ref (so)), (1, .int (nI (k))), (2, .int (nI (an)))]) hx hb dL_add_10 rfl hl (by decide) rfl (fun ls hl => ?_)
  refine lv_iconst (v := nI (0)) hx hb dL_add_11 (by decide) ?_
  refine lv_istore (lv' := [(4, .int (nI (0))), (3, .ref (gn)), (0, .ref (so)), (1, .int (nI (k))), (2, .int (nI (an)))]) hx hb dL_add_12 hl (by decide) rfl (fun ls hl => ?_)
  -- loop at 14
  have hinv : 0 ≤ sn := by
    exact Nat.zero_le _
  obtain ⟨i, hq9⟩ : ∃ (i : Nat), lv_has ls 5 [(0, .ref (so)), (1, .int (nI (k))), (2, .int (nI (an))), (3, .ref (gn)), (4, .int (nI (i)))] ∧ (i ≤ sn) ∧ va_P D vwCl (((gn, PartC cG (sn + 1) i ra) :: WX ad cI cZ c g hid code ans dbt opn ply hps wr)) H ∧ va_D A (((gn, PartC cG (sn + 1) i ra) :: WX ad cI cZ c g hid code ans dbt opn ply hps wr)) := ⟨0, lv_sub hl [2, 3, 4, 1, 0] rfl, hinv, hP, hD⟩
  clear hl hinv hP hD
  obtain ⟨hl, hinv, hP, hD⟩ := hq9
  obtain ⟨n9_14, hn9⟩ : ∃ q : Nat, sn - i < q := ⟨_, Nat.lt_succ_self _⟩
  induction n9_14 generalizing ls H locs i with
  | zero => exact absurd hn9 (Nat.not_lt_zero _)
  | succ n9_14 ih14 =>
    refine lv_iload hx hb dL_add_14 (lv_at hl 4 rfl) ?_
    refine lv_aload_n hx hb dL_add_16 rfl (lv_at hl 0 rfl) ?_
    refine va_get (D := D) (ci := 2) (v := .ref (ga)) (C := RX2) (T := TX2) (N := 3) hx hb hts hinX2 hown hK hP (ks + 8) (atWX3 hF.1) rfl 2 (by decide) lk21 (fun _ h9 => h9) rfl dL_add_17 ?_
    refine x_alen hx hb hK hP (kg + 8) 2 (atWX3 hF.2.1) rfl (n := sn) rfl dL_add_20 ?_
    refine x_ge (tgt := 41) hx hb dL_add_21 (by decide) (by omega) (by omega) (fun c21 => ?_) (fun c21 => ?_)
    · skip
      have e9 : sn = i := by omega
      subst e9
      refine lv_aload_n hx hb dL_add_41 rfl (lv_at hl 3 rfl) ?_
      refine lv_aload_n hx hb dL_add_42 rfl (lv_at hl 0 rfl) ?_
      refine va_get (D := D) (ci := 2) (v := .ref (ga)) (C := RX2) (T := TX2) (N := 3) hx hb hts hinX2 hown hK hP (ks + 8) (atWX3 hF.1) rfl 2 (by decide) lk21 (fun _ h9 => h9) rfl dL_add_43 ?_
      refine x_alen hx hb hK hP (kg + 8) 2 (atWX3 hF.2.1) rfl (n := sn) rfl dL_add_46 ?_
      refine lv_iconst (v := nI (3)) hx hb dL_add_47 (by decide) ?_
      refine x_newiC hx hb (hts _ (by decide +kernel)) hB hP hD hS (n := 3) (by omega) (by show _ ≤ 2; omega) (by show _ ≤ 16; omega) dL_add_48 (fun rn H2 hP2 hD2 hS2 => ?_)
      clear hP hD hS
      generalize H2 = H at hP2 hS2 ⊢
      have hP := hP2; have hD := hD2; have hS := hS2
      clear hP2 hD2 hS2
      replace hP : va_P D vwCl (((rn, .inl (cI, 3, .inl (fun j => nI ((fun _ => 0) j)))) :: (gn, PartC cG (sn + 1) sn ra) :: WX ad cI cZ c g hid code ans dbt opn ply hps wr)) H := hP
      replace hD : va_D A (((rn, .inl (cI, 3, .inl (fun j => nI ((fun _ => 0) j)))) :: (gn, PartC cG (sn + 1) sn ra) :: WX ad cI cZ c g hid code ans dbt opn ply hps wr)) := hD
      refine lv_dup hx hb dL_add_50 rfl ?_
      refine lv_iconst (v := nI (0)) hx hb dL_add_51 (by decide) ?_
      refine lv_iload_n hx hb dL_add_52 rfl (lv_at hl 1 rfl) ?_
      refine x_iast hx hb hK hP hD hS 0 0 rfl rfl (i := 0) (v := k) (by omega) (by omega) dL_add_53 (fun H locs hP hD hS => ?_)
      replace hP : va_P D vwCl (((rn, .inl (cI, 3, .inl (fun j => nI ((va_up (fun _ => 0) 0 k) j)))) :: (gn, PartC cG (sn + 1) sn ra) :: WX ad cI cZ c g hid code ans dbt opn ply hps wr)) H := hP
      replace hD : va_D A (((rn, .inl (cI, 3, .inl (fun j => nI ((va_up (fun _ => 0) 0 k) j)))) :: (gn, PartC cG (sn + 1) sn ra) :: WX ad cI cZ c g hid code ans dbt opn ply hps wr)) := hD
      refine lv_dup hx hb dL_add_54 rfl ?_
      refine lv_iconst (v := nI (1)) hx hb dL_add_55 (by decide) ?_
      refine lv_iload_n hx hb dL_add_56 rfl (lv_at hl 2 rfl) ?_
      refine x_iast hx hb hK hP hD hS 0 0 rfl rfl (i := 1) (v := an) (by omega) (by omega) dL_add_57 (fun H locs hP hD hS => ?_)
      replace hP : va_P D vwCl (((rn, .inl (cI, 3, .inl (fun j => nI ((va_up (va_up (fun _ => 0) 0 k) 1 an) j)))) :: (gn, PartC cG (sn + 1) sn ra) :: WX ad cI cZ c g hid code ans dbt opn ply hps wr)) H := hP
      replace hD : va_D A (((rn, .inl (cI, 3, .inl (fun j => nI ((va_up (va_up (fun _ => 0) 0 k) 1 an) j)))) :: (gn, PartC cG (sn + 1) sn ra) :: WX ad cI cZ c g hid code ans dbt opn ply hps wr)) := hD
      refine lv_dup hx hb dL_add_58 rfl ?_
      refine lv_iconst (v := nI (2)) hx hb dL_add_59 (by decide) ?_
      refine lv_iconst (v := nI (0)) hx hb dL_add_60 (by decide) ?_
      refine x_iast hx hb hK hP hD hS 0 0 rfl rfl (i := 2) (v := 0) (by omega) (by omega) dL_add_61 (fun H locs hP hD hS => ?_)
      replace hP : va_P D vwCl (((rn, .inl (cI, 3, .inl (fun j => nI ((va_up (va_up (va_up (fun _ => 0) 0 k) 1 an) 2 0) j)))) :: (gn, PartC cG (sn + 1) sn ra) :: WX ad cI cZ c g hid code ans dbt opn ply hps wr)) H := hP
      replace hD : va_D A (((rn, .inl (cI, 3, .inl (fun j => nI ((va_up (va_up (va_up (fun _ => 0) 0 k) 1 an) 2 0) j)))) :: (gn, PartC cG (sn + 1) sn ra) :: WX ad cI cZ c g hid code ans dbt opn ply hps wr)) := hD
      rw [part_congr (rc2 := va_up ra sn rn) (fun i hi => by simp only [va_up, if_neg (show ¬ i = sn by omega)])] at hP hD
      replace hP : va_P D vwCl (((rn, .inl (cI, 3, .inl (fun j => nI ((va_up (va_up (va_up (fun _ => 0) 0 k) 1 an) 2 0) j)))) :: (gn, PartC cG (sn + 1) sn (va_up ra sn rn)) :: WX ad cI cZ c g hid code ans dbt opn ply hps wr)) H := hP
      replace hD : va_D A (((rn, .inl (cI, 3, .inl (fun j => nI ((va_up (va_up (va_up (fun _ => 0) 0 k) 1 an) 2 0) j)))) :: (gn, PartC cG (sn + 1) sn (va_up ra sn rn)) :: WX ad cI cZ c g hid code ans dbt opn ply hps wr)) := hD
      refine x_gast hx hb hB hP hD hS 1 0 (k := sn) rfl (rfl) (by simp [va_up]) (by omega) (by omega) dL_add_62 (fun H locs hP hD hS => ?_)
      replace hP : va_P D vwCl (((rn, .inl (cI, 3, .inl (fun j => nI ((va_up (va_up (va_up (fun _ => 0) 0 k) 1 an) 2 0) j)))) :: (gn, PartC cG (sn + 1) (sn + 1) (va_up ra sn rn)) :: WX ad cI cZ c g hid code ans dbt opn ply hps wr)) H := hP
      replace hD : va_D A (((rn, .inl (cI, 3, .inl (fun j => nI ((va_up (va_up (va_up (fun _ => 0) 0 k) 1 an) 2 0) j)))) :: (gn, PartC cG (sn + 1) (sn + 1) (va_up ra sn rn)) :: WX ad cI cZ c g hid code ans dbt opn ply hps wr)) := hD
      refine lv_aload_n hx hb dL_add_63 rfl (lv_at hl 0 rfl) ?_
      refine lv_aload_n hx hb dL_add_64 rfl (lv_at hl 3 rfl) ?_
      refine va_put (D := D) (ci := 2) (v := .ref (gn)) (ty := (.array (.array .int))) (C := RX2) (T := TX2) (N := 3) hx hb hts hinX2 tyX2 tyX2_ok nmX2 hown hK hP hD hS (ks + 9) (atWX4 hF.1) rfl 2 (by decide) lk21 (fun _ h9 => h9) rfl (by decide +kernel) rfl rfl (Nat.le_of_ble_eq_true rfl) dL_add_65 (fun H locs hP hD hS => ?_)
      replace hP : va_P D vwCl (((rn, .inl (cI, 3, .inl (fun j => nI ((va_up (va_up (va_up (fun _ => 0) 0 k) 1 an) 2 0) j)))) :: (gn, PartC cG (sn + 1) (sn + 1) (va_up ra sn rn)) :: WX ad cI cZ c g hid code ans dbt opn ply hps (wr.set ks (so, .inr (2, [.int (nI sc), .int shid, .ref gn]))))) H := hP
      replace hD : va_D A (((rn, .inl (cI, 3, .inl (fun j => nI ((va_up (va_up (va_up (fun _ => 0) 0 k) 1 an) 2 0) j)))) :: (gn, PartC cG (sn + 1) (sn + 1) (va_up ra sn rn)) :: WX ad cI cZ c g hid code ans dbt opn ply hps (wr.set ks (so, .inr (2, [.int (nI sc), .int shid, .ref gn]))))) := hD
      replace hP := P_perm permWX2 hP
      replace hD := D_perm permWX2 hD
      replace hP : va_P D vwCl (WX ad cI cZ c g hid code ans dbt opn ply hps ((rn, .inl (cI, 3, .inl (fun j => nI ((va_up (va_up (va_up (fun _ => 0) 0 k) 1 an) 2 0) j)))) :: (gn, PartC cG (sn + 1) (sn + 1) (va_up ra sn rn)) :: (wr.set ks (so, .inr (2, [.int (nI sc), .int shid, .ref gn]))))) H := hP
      replace hD : va_D A (WX ad cI cZ c g hid code ans dbt opn ply hps ((rn, .inl (cI, 3, .inl (fun j => nI ((va_up (va_up (va_up (fun _ => 0) 0 k) 1 an) 2 0) j)))) :: (gn, PartC cG (sn + 1) (sn + 1) (va_up ra sn rn)) :: (wr.set ks (so, .inr (2, [.int (nI sc), .int shid, .ref gn]))))) := hD
      refine W.widen (k := 2) (n := 16) (by omega) (by omega) ?_
      exact W.vret hx hb hr (fun t ht hW => ⟨⟨((rn, .inl (cI, 3, .inl (fun j => nI ((va_up (va_up (va_up (fun _ => 0) 0 k) 1 an) 2 0) j)))) :: (gn, PartC cG (sn + 1) (sn + 1) (va_up ra sn rn)) :: (wr.set ks (so, .inr (2, [.int (nI sc), .int shid, .ref gn])))), rfl, (by
          exact ⟨((hpal.set hF.1 noPal_sim).cons _).cons _, hF.add (by simp [va_up]) (by simp [va_up]) (by simp [va_up])⟩), ⟨by rw [ht]; exact hP, hD⟩⟩, hS.F ht⟩) hS.2.2 dL_add_68
    · skip
      refine lv_aload_n hx hb dL_add_24 rfl (lv_at hl 3 rfl) ?_
      refine lv_iload hx hb dL_add_25 (lv_at hl 4 rfl) ?_
      refine lv_aload_n hx hb dL_add_27 rfl (lv_at hl 0 rfl) ?_
      refine va_get (D := D) (ci := 2) (v := .ref (ga)) (C := RX2) (T := TX2) (N := 3) hx hb hts hinX2 hown hK hP (ks + 8) (atWX3 hF.1) rfl 2 (by decide) lk21 (fun _ h9 => h9) rfl dL_add_28 ?_
      refine lv_iload hx hb dL_add_31 (lv_at hl 4 rfl) ?_
      refine x_gald hx hb hK hP (kg + 8) 2 (atWX3 hF.2.1) rfl (i := i) (by omega) (by omega) (r := ra i) (if_pos (by omega)) dL_add_33 ?_
      refine x_gast hx hb hB hP hD hS 0 (kr i + 8) (k := i) rfl (atWX3 (hF.2.2.1 i (by omega))) (rfl) (by omega) (by omega) dL_add_34 (fun H locs hP hD hS => ?_)
      replace hP : va_P D vwCl (((gn, PartC cG (sn + 1) (i + 1) ra) :: WX ad cI cZ c g hid code ans dbt opn ply hps wr)) H := hP
      replace hD : va_D A (((gn, PartC cG (sn + 1) (i + 1) ra) :: WX ad cI cZ c g hid code ans dbt opn ply hps wr)) := hD
      refine lv_iinc (v := nI (i + 1)) (lv' := [(4, .int (nI (i + 1))), (0, .ref (so)), (1, .int (nI (k))), (2, .int (nI (an))), (3, .ref (gn))]) hx hb dL_add_35 hl (k := 4) rfl (nI_add _ _) (by decide) rfl (fun ls hl => ?_)
      refine lv_goto (tgt := 14) hx hb dL_add_38 (by decide) ?_
      exact ih14 (i := (i + 1)) (ls := ls) (hl := lv_sub hl [1, 2, 3, 4, 0] rfl) (H := H) (locs := locs) (hP := hP) (hD := hD) (hS := hS) (hinv := by
          omega
        ) (hn9 := by
          omega
        )

set_option maxHeartbeats 4000000 in
set_option maxRecDepth 100000 in
theorem c_L_act (l : Launch) (hfl : l.flags = flags0) (D : va_G) (cI cZ cG cJ : ClassId) (A : Nat → Prop) (ad : Nat → Nat) (so : Nat) (c : Nat) (g : Nat) (hid : Int32) (code : Nat → Nat) (ans : Nat → Nat) (dbt : Nat → Bool) (opn : Nat → Bool) (ply : Nat → Bool) (hps : Nat → Nat) (wr : va_W) (x : Int32) (hG : LG cI cG ad so (c, g, hid, code, ans, dbt, opn, ply, hps, wr)) : Met l yL_act wsL_act ({ frames := 8, cells := 2120, slots := 8600, locals := 133 }) (va_Pc [.ref (ad 0), .ref (so), .int (x)] (Iv D (TY cI cZ cG cJ) A (WX ad cI cZ c g hid code ans dbt opn ply hps wr))) (va_Qi (fun r (u : LSt) => r = bI true ∧ LG cI cG ad so u) (fun u => Wd D A (WL ad cI cZ u)) A) 2120 8600 A := by
  refine va_MetW (cc := cL_act) (maxL := 9) (ret := (some .boolean)) (by decide) rfl ?_
  intro p e s m args below meth c9 s₁ B hml hv
  obtain ⟨rfl, hP, hD, hB⟩ := hv
  have hK := hB.1
  have hA := hB.2.1
  have hx := B.exec
  have hb := B.bytes
  have hr := B.returns
  have hts := atoms_spec (ws := wsL_act) B.pre
  have hown : s.vm.findClass RL = some m.cls := findClass_of_methodNamed B.named
  have hlocks := B.notSynchronized
  have hS : va_S A s.heap s.heap [] := va_S.rf
  have htab := vx_table (x := yL_act) B (hts _ List.mem_cons_self)
  have hinX2 : ∀ w ∈ wsX20, w ∈ wsL_act := by decide +kernel
  have lk21 := hts (.fieldLink RL 21 "HiddenCandlesLaw$Sim" "guesses" "[[I") (by decide +kernel)
  have lk25 := hts (.fieldLink RL 25 "HiddenCandlesLaw$Sim" "colours" "I") (by decide +kernel)
  have lk29 := hts (.fieldLink RL 29 "HiddenCandlesLaw$Sim" "hidden" "I") (by decide +kernel)
  have hl := lv_entry ([.ref (ad 0), .ref (so), .int (x)]) (n := 9) (Nat.le_of_ble_eq_true rfl)
  rw [lg_entry_eq]
  generalize (lg_sl ([.ref (ad 0), .ref (so), .int (x)]) ++ List.replicate (9 - (lg_sl ([.ref (ad 0), .ref (so), .int (x)])).length) Slot.unset).toArray = ls at hl ⊢
  have hl : lv_has ls 9 [(0, .ref (ad 0)), (1, .ref (so)), (2, .int (x))] := hl
  obtain ⟨H, eH⟩ : ∃ q, q = s.heap := ⟨_, rfl⟩
  obtain ⟨locs, eL⟩ : ∃ q : List Loc, q = [] := ⟨_, rfl⟩
  replace hP : va_P D vwCl (WX ad cI cZ c g hid code ans dbt opn ply hps wr) H := by rw [eH]; exact hP
  replace hS : va_S A s.heap H locs := by rw [eH, eL]; exact hS
  rw [show W p l e _ s m _ below meth c9 s.heap [] = W p l e _ s m _ below meth c9 H locs from by rw [eH, eL]]
  clear eH eL
  obtain ⟨hpal, hI, hS0, hA5⟩ := id hG
  replace hpal : Pals cI cG ad wr := hpal
  replace hI : XI c g hid code ans dbt opn := hI
  replace hS0 : SimAt cI cG wr so c hid g code ans dbt := hS0
  replace hA5 : AnsOK g ans := hA5
  obtain ⟨hc, hg, hco, hhid, hop⟩ := id hI
  have hq := qq_in hc
  obtain ⟨ga, ks, kg, ra, kr, M, hF⟩ := id hS0
  refine lv_iload_n hx hb dL_act_0 rfl (lv_at hl 2 rfl) ?_
  refine lv_iconst (v := nI (4)) hx hb dL_act_1 (by decide) ?_
  refine lv_ishr hx hb dL_act_2 ?_
  refine lv_aload_n hx hb dL_act_3 rfl (lv_at hl 1 rfl) ?_
  refine x_csi (va_runV (As := []) (rest := [.int ((x) >>> ((nI (4)) &&& 31))]) ⟨hx, hb, hml, hown, hts⟩ (c_X2_codes l D cI cZ cG cJ A (WX ad cI cZ c g hid code ans dbt opn ply hps wr) so c hid g code ans dbt (hc) ((SimAt.WX ⟨_, _, _, _, _, _, hF⟩))) (cwV 0 hts gL_act_X2_codes rfl rfl rfl (by decide +kernel) ⟨Nat.le_of_ble_eq_true rfl, Nat.le_of_ble_eq_true rfl⟩) (preV (ci := 2) (q0 := ks + 7) hB hS hP hD (atWX hF.1) rfl) rfl rfl hl.1 rfl (lv_room (Nat.le_of_ble_eq_true rfl)) dL_act_4 ⟨by show _ ≤ 2120; omega, by show _ ≤ 8600; omega⟩) ?_
  refine x_csi (va_runS (As := [.int ((x) >>> ((nI (4)) &&& 31)), .int (nI (qq c))]) (rest := []) ⟨hx, hb, hml, hown, hts⟩ (c_L_below l D cI cZ cG cJ A (WX ad cI cZ c g hid code ans dbt opn ply hps wr) ((x) >>> ((nI (4)) &&& 31)) (qq c) (by omega) (by omega)) (va_cwS 2 hts gL_act_L_below rfl rfl rfl (by decide +kernel) ⟨Nat.le_of_ble_eq_true rfl, Nat.le_of_ble_eq_true rfl⟩) (preS hB hS hP hD) rfl rfl hl.1 rfl (lv_room (Nat.le_of_ble_eq_true rfl)) dL_act_7 ⟨by show _ ≤ 2120; omega, by show _ ≤ 8600; omega⟩) ?_
  obtain ⟨cd, e_cd⟩ : ∃ q : Nat, q = bw ((x) >>> ((nI (4)) &&& 31)) (qq c) := ⟨_, rfl⟩
  have h_cd : cd < qq c := by rw [e_cd]; exact bw_lt _ (by omega)
  refine x_ti (y := nI (cd)) (by rw [e_cd]) ?_
  refine lv_istore_n (lv' := [(3, .int (nI (cd))), (0, .ref (ad 0)), (1, .ref (so)), (2, .int (x))]) hx hb dL_act_10 rfl hl (by decide) rfl (fun ls hl => ?_)
  refine lv_aload_n hx hb dL_act_11 rfl (lv_at hl 2 rfl) ?_
  refine va_get (D := D) (ci := 2) (v := .ref (ga)) (C := RX2) (T := TX2) (N := 3) hx hb hts hinX2 hown hK hP (ks + 7) (atWX hF.1) rfl 2 (by decide) lk21 (fun _ h9 => h9) rfl dL_act_12 ?_
  refine x_alen hx hb hK hP (kg + 7) 2 (atWX hF.2.1) rfl (n := g) rfl dL_act_15 ?_
  refine lv_istore (lv' := [(4, .int (nI (g))), (3, .int (nI (cd))), (0, .ref (ad 0)), (1, .ref (so)), (2, .int (x))]) hx hb dL_act_16 hl (by decide) rfl (fun ls hl => ?_)
  refine lv_iload_n hx hb dL_act_18 rfl (lv_at hl 4 rfl) ?_
  refine lv_bipush (v := nI (14)) hx hb dL_act_19 (by decide) ?_
  refine x_csi (va_runS (As := [.int (x), .int (nI (14))]) (rest := []) ⟨hx, hb, hml, hown, hts⟩ (c_L_below l D cI cZ cG cJ A (WX ad cI cZ c g hid code ans dbt opn ply hps wr) x 14 (by omega) (by omega)) (va_cwS 2 hts gL_act_L_below rfl rfl rfl (by decide +kernel) ⟨Nat.le_of_ble_eq_true rfl, Nat.le_of_ble_eq_true rfl⟩) (preS hB hS hP hD) rfl rfl hl.1 rfl (lv_room (Nat.le_of_ble_eq_true rfl)) dL_act_21 ⟨by show _ ≤ 2120; omega, by show _ ≤ 8600; omega⟩) ?_
  obtain ⟨q14, e_q14⟩ : ∃ q : Nat, q = bw x 14 := ⟨_, rfl⟩
  have h_q14 : q14 < 14 := by rw [e_q14]; exact bw_lt _ (by omega)
  refine x_ti (y := nI (q14)) (by rw [e_q14]) ?_
  refine x_join (g2 := F0 m 149 ls []) ?_ (fun hj149 => ?_)
  · skip
    refine lv_aload_n hx hb dL_act_149 rfl (lv_at hl 3 rfl) ?_
    refine va_get (D := D) (ci := 2) (v := .int (hid)) (C := RX2) (T := TX2) (N := 3) hx hb hts hinX2 hown hK hP (ks + 7) (atWX hF.1) rfl 1 (by decide) lk29 (fun _ h9 => h9) rfl dL_act_150 ?_
    refine lv_istore (lv' := [(5, .int (hid)), (4, .int (nI (g))), (3, .int (nI (cd))), (0, .ref (ad 0)), (1, .ref (so)), (2, .int (x))]) hx hb dL_act_153 hl (by decide) rfl (fun ls hl => ?_)
    refine lv_aload_n hx hb dL_act_155 rfl (lv_at hl 4 rfl) ?_
    refine lv_iload_n hx hb dL_act_156 rfl (lv_at hl 2 rfl) ?_
    refine va_put (D := D) (ci := 2) (v := .int (nI (cd))) (ty := .int) (C := RX2) (T := TX2) (N := 3) hx hb hts hinX2 tyX2 tyX2_ok nmX2 hown hK hP hD hS (ks + 7) (atWX hF.1) rfl 1 (by decide) lk29 (fun _ h9 => h9) rfl (by decide +kernel) rfl rfl (Nat.le_of_ble_eq_true rfl) dL_act_157 (fun H locs hP hD hS => ?_)
    replace hP : va_P D vwCl (WX ad cI cZ c g hid code ans dbt opn ply hps (wr.set ks (so, .inr (2, [.int (nI c), .int (nI (cd)), .ref ga])))) H := hP
    replace hD : va_D A (WX ad cI cZ c g hid code ans dbt opn ply hps (wr.set ks (so, .inr (2, [.int (nI c), .int (nI (cd)), .ref ga])))) := hD
    replace hpal : Pals cI cG ad (wr.set ks (so, .inr (2, [.int (nI c), .int (nI (cd)), .ref ga]))) := hpal.set hF.1 noPal_sim
    replace hF := hF.obj c (nI cd)
    refine lv_aload_n hx hb dL_act_160 rfl (lv_at hl 3 rfl) ?_
    refine lv_iload_n hx hb dL_act_161 rfl (lv_at hl 2 rfl) ?_
    refine va_calli (va_runV (As := [.int (nI (cd))]) (rest := []) ⟨hx, hb, hml, hown, hts⟩ (c_X1_hideP l D cI cZ cG cJ A ad (wr.set ks (so, .inr (2, [.int (nI c), .int (nI (cd)), .ref ga]))) hpal c g hid code ans dbt opn ply hps cd (hI) (h_cd)) (cwV 1 hts gL_act_X1_hide rfl rfl rfl (by decide +kernel) ⟨Nat.le_of_ble_eq_true rfl, Nat.le_of_ble_eq_true rfl⟩) (preV (ci := 1) (q0 := 0) hB hS hP hD rfl rfl) rfl rfl hl.1 rfl (lv_room (Nat.le_of_ble_eq_true rfl)) dL_act_162 ⟨by show _ ≤ 2120; omega, by show _ ≤ 8600; omega⟩) hS (fun q _ h => h) (fun q h => h) (fun r_162 u_162 t9 H1 locs1 ht9 hvm9 hw_162 hBw hz9 hk9 hS => ?_)
    obtain ⟨hP, hD⟩ := hBw
    rw [ht9] at hP
    generalize H1 = H at hP hS ⊢
    generalize locs1 = locs at hS ⊢
    replace hP : va_P D vwCl (WX ad cI cZ c g (nI cd) code ans dbt opn ply hps (wr.set ks (so, .inr (2, [.int (nI c), .int (nI (cd)), .ref ga])))) H := hP
    replace hD : va_D A (WX ad cI cZ c g (nI cd) code ans dbt opn ply hps (wr.set ks (so, .inr (2, [.int (nI c), .int (nI (cd)), .ref ga])))) := hD
    refine x_ti (y := hid) (hw_162.1) ?_
    refine lv_iload hx hb dL_act_165 (lv_at hl 0 rfl) ?_
    refine lv_icmp_ne (tgt := 174) hx hb dL_act_167 (by decide) (fun c167 => absurd c167 (fun q => q rfl)) (fun c167 => ?_)
    refine lv_iconst (v := bI (true)) hx hb dL_act_170 (by decide) ?_
    refine lv_goto (tgt := 175) hx hb dL_act_171 (by decide) ?_
    refine W.widen (k := 2120) (n := 8600) (by omega) (by omega) ?_
    exact W.zret (v := bI (true)) hx hb hr (bI_narrow _) (fun t ht hW => ⟨⟨_, (c, g, (nI cd), code, ans, dbt, opn, ply, hps, (wr.set ks (so, .inr (2, [.int (nI c), .int (nI (cd)), .ref ga])))), rfl, (by
        exact ⟨rfl, hpal, ⟨hc, hg, hco, Or.inr ⟨cd, h_cd, rfl⟩, hop⟩, ⟨_, _, _, _, _, _, hF⟩, hA5⟩), ⟨by rw [ht]; exact hP, hD⟩⟩, hS.F ht⟩) hS.2.2 dL_act_175
  · skip
    refine x_join (g2 := F0 m 289 ls []) ?_ (fun hj289 => ?_)
    · skip
      refine lv_aload_n hx hb dL_act_289 rfl (lv_at hl 3 rfl) ?_
      refine va_get (D := D) (ci := 2) (v := .int (hid)) (C := RX2) (T := TX2) (N := 3) hx hb hts hinX2 hown hK hP (ks + 7) (atWX hF.1) rfl 1 (by decide) lk29 (fun _ h9 => h9) rfl dL_act_290 ?_
      refine lv_if_lt (tgt := 307) hx hb dL_act_293 (by decide) (fun c293 => ?_) (fun c293 => ?_)
      · skip
        have hm1 := hid_neg (by omega) hhid c293
        have hno : hid = -1 ∨ 12 ≤ g := Or.inl hm1
        refine lv_iconst (v := bI (false)) hx hb dL_act_307 (by decide) ?_
        refine lv_istore (lv' := [(5, .int (bI (false))), (4, .int (nI (g))), (3, .int (nI (cd))), (0, .ref (ad 0)), (1, .ref (so)), (2, .int (x))]) hx hb dL_act_308 hl (by decide) rfl (fun ls hl => ?_)
        refine lv_iload hx hb dL_act_310 (lv_at hl 0 rfl) ?_
        refine x_zeq (tgt := 329) hx hb dL_act_312 (by decide) (fun c312 => ?_) (fun c312 => absurd c312 (by decide))
        refine lv_aload_n hx hb dL_act_329 rfl (lv_at hl 3 rfl) ?_
        refine lv_iload_n hx hb dL_act_330 rfl (lv_at hl 2 rfl) ?_
        refine vx_calli (vx_runV (As := [.int (nI (cd))]) (rest := []) ⟨hx, hb, hml, hown, hts⟩ (c_X1_guess l hfl D cI cZ cG cJ A ad wr hpal c g hid code ans dbt opn ply hps (nI (cd)) (hI)) (cwV 1 hts gL_act_X1_guess rfl rfl rfl (by decide +kernel) ⟨Nat.le_of_ble_eq_true rfl, Nat.le_of_ble_eq_true rfl⟩) (preV (ci := 1) (q0 := 0) hB hS hP hD rfl rfl) rfl rfl hl.1 rfl (lv_room (Nat.le_of_ble_eq_true rfl)) dL_act_331 ⟨by show _ ≤ 2120; omega, by show _ ≤ 8600; omega⟩) hS (fun q _ h => h) (fun q h => h) (fun q _ h => h) (fun E ce q9 u9 t9 H1 locs1 ht9 hvm9 hpx8 hBx hz9 hk9 hS hq9 hv9 hcl9 => ?_) (fun r_331 u_331 t9 H1 locs1 ht9 hvm9 hw_331 hBw hz9 hk9 hS => ?_)
        · obtain ⟨hpx9, hP1, hD1⟩ := hBx
          rw [ht9] at hP1
          rcases hpx9 with ⟨rfl, hz⟩ | ⟨rfl, -, -⟩
          · exact absurd hz (by rw [hasC_lt hc h_cd]; simp)
          · refine L_catch1r hown htab (by decide) (by decide) (by decide) (hts _ (by decide +kernel)) (va_Nw.use rfl (hB.2.2.2.2.1 _ (by simp [Nws]))) hq9 hv9 hcl9 ?_
            replace hP := hP1; replace hD := hD1
            clear hP1 hD1
            generalize H1 = H at hP hS ⊢
            generalize locs1 = locs at hS ⊢
            refine lv_astore (lv' := [(6, .ref (q9)), (5, .int (bI (false))), (4, .int (nI (g))), (3, .int (nI (cd))), (0, .ref (ad 0)), (1, .ref (so)), (2, .int (x))]) hx hb dL_act_361 hl (by decide) rfl (fun ls hl => ?_)
            refine lv_iload hx hb dL_act_363 (lv_at hl 1 rfl) ?_
            refine x_zne (tgt := 372) hx hb dL_act_365 (by decide) (fun c365 => absurd c365 (by decide)) (fun c365 => ?_)
            refine lv_iconst (v := bI (true)) hx hb dL_act_368 (by decide) ?_
            refine lv_goto (tgt := 373) hx hb dL_act_369 (by decide) ?_
            refine W.widen (k := 2120) (n := 8600) (by omega) (by omega) ?_
            exact W.zret (v := bI (true)) hx hb hr (bI_narrow _) (fun t ht hW => ⟨⟨_, (c, g, hid, code, ans, dbt, opn, ply, hps, wr), rfl, (by
                exact ⟨rfl, hpal, hI, hS0, hA5⟩), ⟨by rw [ht]; exact hP, hD⟩⟩, hS.F ht⟩) hS.2.2 dL_act_373
        obtain ⟨hP, hD⟩ := hBw
        rw [ht9] at hP
        generalize H1 = H at hP hS ⊢
        generalize locs1 = locs at hS ⊢
        replace hP : va_P D vwCl (WX ad cI cZ c (g + 1) hid (va_up code g u_331.1) (va_up ans g (pins c u_331.1 u_331.2.1)) (va_up dbt g false) u_331.2.2 ply hps wr) H := hP
        replace hD : va_D A (WX ad cI cZ c (g + 1) hid (va_up code g u_331.1) (va_up ans g (pins c u_331.1 u_331.2.1)) (va_up dbt g false) u_331.2.2 ply hps wr) := hD
        obtain ⟨-, -, -, h9, e9, g9, -⟩ := hw_331; rcases hno with hno | hno <;> first | exact absurd (e9.symm.trans hno) (nI_ne_m1 (by omega)) | exact absurd hno (by omega)
      · skip
        obtain ⟨h, hh, eh⟩ := hid_pos hhid c293
        refine lv_iload hx hb dL_act_296 (lv_at hl 0 rfl) ?_
        refine lv_bipush (v := nI (12)) hx hb dL_act_298 (by decide) ?_
        refine x_ge (tgt := 307) hx hb dL_act_300 (by decide) (by omega) (by omega) (fun c300 => ?_) (fun c300 => ?_)
        · skip
          have hno : hid = -1 ∨ 12 ≤ g := Or.inr (by omega)
          refine lv_iconst (v := bI (false)) hx hb dL_act_307 (by decide) ?_
          refine lv_istore (lv' := [(5, .int (bI (false))), (4, .int (nI (g))), (3, .int (nI (cd))), (0, .ref (ad 0)), (1, .ref (so)), (2, .int (x))]) hx hb dL_act_308 hl (by decide) rfl (fun ls hl => ?_)
          refine lv_iload hx hb dL_act_310 (lv_at hl 0 rfl) ?_
          refine x_zeq (tgt := 329) hx hb dL_act_312 (by decide) (fun c312 => ?_) (fun c312 => absurd c312 (by decide))
          refine lv_aload_n hx hb dL_act_329 rfl (lv_at hl 3 rfl) ?_
          refine lv_iload_n hx hb dL_act_330 rfl (lv_at hl 2 rfl) ?_
          refine vx_calli (vx_runV (As := [.int (nI (cd))]) (rest := []) ⟨hx, hb, hml, hown, hts⟩ (c_X1_guess l hfl D cI cZ cG cJ A ad wr hpal c g hid code ans dbt opn ply hps (nI (cd)) (hI)) (cwV 1 hts gL_act_X1_guess rfl rfl rfl (by decide +kernel) ⟨Nat.le_of_ble_eq_true rfl, Nat.le_of_ble_eq_true rfl⟩) (preV (ci := 1) (q0 := 0) hB hS hP hD rfl rfl) rfl rfl hl.1 rfl (lv_room (Nat.le_of_ble_eq_true rfl)) dL_act_331 ⟨by show _ ≤ 2120; omega, by show _ ≤ 8600; omega⟩) hS (fun q _ h => h) (fun q h => h) (fun q _ h => h) (fun E ce q9 u9 t9 H1 locs1 ht9 hvm9 hpx8 hBx hz9 hk9 hS hq9 hv9 hcl9 => ?_) (fun r_331 u_331 t9 H1 locs1 ht9 hvm9 hw_331 hBw hz9 hk9 hS => ?_)
          · obtain ⟨hpx9, hP1, hD1⟩ := hBx
            rw [ht9] at hP1
            rcases hpx9 with ⟨rfl, hz⟩ | ⟨rfl, -, -⟩
            · exact absurd hz (by rw [hasC_lt hc h_cd]; simp)
            · refine L_catch1r hown htab (by decide) (by decide) (by decide) (hts _ (by decide +kernel)) (va_Nw.use rfl (hB.2.2.2.2.1 _ (by simp [Nws]))) hq9 hv9 hcl9 ?_
              replace hP := hP1; replace hD := hD1
              clear hP1 hD1
              generalize H1 = H at hP hS ⊢
              generalize locs1 = locs at hS ⊢
              refine lv_astore (lv' := [(6, .ref (q9)), (5, .int (bI (false))), (4, .int (nI (g))), (3, .int (nI (cd))), (0, .ref (ad 0)), (1, .ref (so)), (2, .int (x))]) hx hb dL_act_361 hl (by decide) rfl (fun ls hl => ?_)
              refine lv_iload hx hb dL_act_363 (lv_at hl 1 rfl) ?_
              refine x_zne (tgt := 372) hx hb dL_act_365 (by decide) (fun c365 => absurd c365 (by decide)) (fun c365 => ?_)
              refine lv_iconst (v := bI (true)) hx hb dL_act_368 (by decide) ?_
              refine lv_goto (tgt := 373) hx hb dL_act_369 (by decide) ?_
              refine W.widen (k := 2120) (n := 8600) (by omega) (by omega) ?_
              exact W.zret (v := bI (true)) hx hb hr (bI_narrow _) (fun t ht hW => ⟨⟨_, (c, g, hid, code, ans, dbt, opn, ply, hps, wr), rfl, (by
                  exact ⟨rfl, hpal, hI, hS0, hA5⟩), ⟨by rw [ht]; exact hP, hD⟩⟩, hS.F ht⟩) hS.2.2 dL_act_373
          obtain ⟨hP, hD⟩ := hBw
          rw [ht9] at hP
          generalize H1 = H at hP hS ⊢
          generalize locs1 = locs at hS ⊢
          replace hP : va_P D vwCl (WX ad cI cZ c (g + 1) hid (va_up code g u_331.1) (va_up ans g (pins c u_331.1 u_331.2.1)) (va_up dbt g false) u_331.2.2 ply hps wr) H := hP
          replace hD : va_D A (WX ad cI cZ c (g + 1) hid (va_up code g u_331.1) (va_up ans g (pins c u_331.1 u_331.2.1)) (va_up dbt g false) u_331.2.2 ply hps wr) := hD
          obtain ⟨-, -, -, h9, e9, g9, -⟩ := hw_331; rcases hno with hno | hno <;> first | exact absurd (e9.symm.trans hno) (nI_ne_m1 (by omega)) | exact absurd hno (by omega)
        · skip
          refine lv_iconst (v := bI (true)) hx hb dL_act_303 (by decide) ?_
          refine lv_goto (tgt := 308) hx hb dL_act_304 (by decide) ?_
          refine lv_istore (lv' := [(5, .int (bI (true))), (4, .int (nI (g))), (3, .int (nI (cd))), (0, .ref (ad 0)), (1, .ref (so)), (2, .int (x))]) hx hb dL_act_308 hl (by decide) rfl (fun ls hl => ?_)
          refine lv_iload hx hb dL_act_310 (lv_at hl 0 rfl) ?_
          refine x_zeq (tgt := 329) hx hb dL_act_312 (by decide) (fun c312 => absurd c312 (by decide)) (fun c312 => ?_)
          refine lv_aload_n hx hb dL_act_315 rfl (lv_at hl 4 rfl) ?_
          refine lv_iload_n hx hb dL_act_316 rfl (lv_at hl 2 rfl) ?_
          refine lv_aload_n hx hb dL_act_317 rfl (lv_at hl 4 rfl) ?_
          refine lv_iload_n hx hb dL_act_318 rfl (lv_at hl 2 rfl) ?_
          refine lv_aload_n hx hb dL_act_319 rfl (lv_at hl 4 rfl) ?_
          refine va_get (D := D) (ci := 2) (v := .int (hid)) (C := RX2) (T := TX2) (N := 3) hx hb hts hinX2 hown hK hP (ks + 7) (atWX hF.1) rfl 1 (by decide) lk29 (fun _ h9 => h9) rfl dL_act_320 ?_
          refine x_ti (y := nI (h)) (by rw [eh]) ?_
          refine va_calli (va_runV (As := [.int (nI (cd)), .int (nI (h))]) (rest := [.int (nI (cd)), .ref (so)]) ⟨hx, hb, hml, hown, hts⟩ (c_X2_pins l D cI cZ cG cJ A (WX ad cI cZ c g hid code ans dbt opn ply hps wr) so c hid g code ans dbt cd h (hc) ((SimAt.WX ⟨_, _, _, _, _, _, hF⟩)) (h_cd) (hh)) (cwV 2 hts gL_act_X2_pins rfl rfl rfl (by decide +kernel) ⟨Nat.le_of_ble_eq_true rfl, Nat.le_of_ble_eq_true rfl⟩) (preV (ci := 2) (q0 := ks + 7) hB hS hP hD (atWX hF.1) rfl) rfl rfl hl.1 rfl (lv_room (Nat.le_of_ble_eq_true rfl)) dL_act_323 ⟨by show _ ≤ 2120; omega, by show _ ≤ 8600; omega⟩) hS (fun q _ h => h) (fun q h => h) (fun r_323 u_323 t9 H1 locs1 ht9 hvm9 hw_323 hBw hz9 hk9 hS => ?_)
          obtain ⟨hP, hD⟩ := hBw
          rw [ht9] at hP
          generalize H1 = H at hP hS ⊢
          generalize locs1 = locs at hS ⊢
          replace hP : va_P D vwCl (WX ad cI cZ c g hid code ans dbt opn ply hps wr) H := hP
          replace hD : va_D A (WX ad cI cZ c g hid code ans dbt opn ply hps wr) := hD
          refine x_ti (y := nI (pins c cd h)) (hw_323.1) ?_
          have hpi := pins_le hc h_cd hh
          have hpt := pin_tab hc h_cd hh
          refine va_callv (va_runS (As := [.ref (so), .int (nI (cd)), .int (nI (pins c cd h))]) (rest := []) ⟨hx, hb, hml, hown, hts⟩ (c_L_add l D cI cZ cG cJ A ad so c g hid code ans dbt opn ply hps wr c hid g code ans dbt cd (pins c cd h) (hpal) (⟨_, _, _, _, _, _, hF⟩) (by omega)) (va_cwS 3 hts gL_act_L_add rfl rfl rfl (by decide +kernel) ⟨Nat.le_of_ble_eq_true rfl, Nat.le_of_ble_eq_true rfl⟩) (preS hB hS hP hD) rfl rfl hl.1 rfl (lv_room (Nat.le_of_ble_eq_true rfl)) dL_act_326 ⟨by show _ ≤ 2120; omega, by show _ ≤ 8600; omega⟩) hS (fun q _ h => h) (fun q h => h) (fun u_326 t9 H1 locs1 ht9 hvm9 hw_326 hBw hz9 hk9 hS => ?_)
          obtain ⟨hP, hD⟩ := hBw
          rw [ht9] at hP
          generalize H1 = H at hP hS ⊢
          generalize locs1 = locs at hS ⊢
          replace hP : va_P D vwCl (WX ad cI cZ c g hid code ans dbt opn ply hps u_326) H := hP
          replace hD : va_D A (WX ad cI cZ c g hid code ans dbt opn ply hps u_326) := hD
          obtain ⟨hpal, ga326, ks326, kg326, ra326, kr326, M326, hF⟩ := hw_326
          refine lv_aload_n hx hb dL_act_329 rfl (lv_at hl 3 rfl) ?_
          refine lv_iload_n hx hb dL_act_330 rfl (lv_at hl 2 rfl) ?_
          refine va_calli (va_runV (As := [.int (nI (cd))]) (rest := []) ⟨hx, hb, hml, hown, hts⟩ (c_X1_guessP l D cI cZ cG cJ A ad u_326 hpal c g hid code ans dbt opn ply hps cd h (hI) (h_cd) (hh) (eh) (by omega)) (cwV 1 hts gL_act_X1_guess rfl rfl rfl (by decide +kernel) ⟨Nat.le_of_ble_eq_true rfl, Nat.le_of_ble_eq_true rfl⟩) (preV (ci := 1) (q0 := 0) hB hS hP hD rfl rfl) rfl rfl hl.1 rfl (lv_room (Nat.le_of_ble_eq_true rfl)) dL_act_331 ⟨by show _ ≤ 2120; omega, by show _ ≤ 8600; omega⟩) hS (fun q _ h => h) (fun q h => h) (fun r_331 u_331 t9 H1 locs1 ht9 hvm9 hw_331 hBw hz9 hk9 hS => ?_)
          obtain ⟨hP, hD⟩ := hBw
          rw [ht9] at hP
          generalize H1 = H at hP hS ⊢
          generalize locs1 = locs at hS ⊢
          replace hP : va_P D vwCl (WX ad cI cZ c (g + 1) hid (va_up code g cd) (va_up ans g (pins c cd h)) (va_up dbt g false) u_331 ply hps u_326) H := hP
          replace hD : va_D A (WX ad cI cZ c (g + 1) hid (va_up code g cd) (va_up ans g (pins c cd h)) (va_up dbt g false) u_331 ply hps u_326) := hD
          refine x_ti (y := nI (pins c cd h)) (hw_331.1) ?_
          refine lv_istore (lv' := [(6, .int (nI (pins c cd h))), (5, .int (bI (true))), (4, .int (nI (g))), (3, .int (nI (cd))), (0, .ref (ad 0)), (1, .ref (so)), (2, .int (x))]) hx hb dL_act_334 hl (by decide) rfl (fun ls hl => ?_)
          refine lv_iload hx hb dL_act_336 (lv_at hl 1 rfl) ?_
          refine x_zeq (tgt := 359) hx hb dL_act_338 (by decide) (fun c338 => absurd c338 (by decide)) (fun c338 => ?_)
          refine lv_iload hx hb dL_act_341 (lv_at hl 0 rfl) ?_
          refine lv_aload_n hx hb dL_act_343 rfl (lv_at hl 5 rfl) ?_
          refine va_get (D := D) (ci := 2) (v := .ref (ga326)) (C := RX2) (T := TX2) (N := 3) hx hb hts hinX2 hown hK hP (ks326 + 7) (atWX hF.1) rfl 2 (by decide) lk21 (fun _ h9 => h9) rfl dL_act_344 ?_
          refine lv_iload hx hb dL_act_347 (lv_at hl 2 rfl) ?_
          refine x_gald hx hb hK hP (kg326 + 7) 2 (atWX hF.2.1) rfl (i := g) (by omega) (by omega) (r := ra326 g) (if_pos (by omega)) dL_act_349 ?_
          refine lv_iconst (v := nI (1)) hx hb dL_act_350 (by decide) ?_
          refine x_iald hx hb hK hP (kr326 g + 7) 0 ((fun i hi => atWX (hF.2.2.1 i hi)) g (by omega)) rfl (i := 1) (by omega) (by omega) dL_act_351 ?_
          refine x_ti (y := nI (pins c cd h)) (by rw [(hF.2.2.2.2 g (by omega)).2.1]; simp [va_up]) ?_
          refine x_ne (tgt := 359) hx hb dL_act_352 (by decide) (by omega) (by omega) (fun c352 => absurd c352 (fun q => q rfl)) (fun c352 => ?_)
          refine lv_iconst (v := bI (true)) hx hb dL_act_355 (by decide) ?_
          refine lv_goto (tgt := 360) hx hb dL_act_356 (by decide) ?_
          refine W.widen (k := 2120) (n := 8600) (by omega) (by omega) ?_
          exact W.zret (v := bI (true)) hx hb hr (bI_narrow _) (fun t ht hW => ⟨⟨_, (c, (g + 1), hid, (va_up code g cd), (va_up ans g (pins c cd h)), (va_up dbt g false), u_331, ply, hps, u_326), rfl, (by
              exact ⟨rfl, hpal, ⟨hc, (show g + 1 ≤ 12 by omega), code_up hco h_cd (by omega), hhid, hw_331.2⟩, ⟨_, _, _, _, _, _, hF⟩, hA5.up hpt.1⟩), ⟨by rw [ht]; exact hP, hD⟩⟩, hS.F ht⟩) hS.2.2 dL_act_360
    · skip
      refine x_join (g2 := F0 m 540 ls []) ?_ (fun hj540 => ?_)
      · skip
        refine lv_iload hx hb dL_act_540 (lv_at hl 0 rfl) ?_
        refine x_ne0 (tgt := 547) hx hb dL_act_542 (by decide) (by omega) (fun c542 => ?_) (fun c542 => ?_)
        · skip
          refine lv_aload_n hx hb dL_act_547 rfl (lv_at hl 3 rfl) ?_
          refine va_get (D := D) (ci := 2) (v := .ref (ga)) (C := RX2) (T := TX2) (N := 3) hx hb hts hinX2 hown hK hP (ks + 7) (atWX hF.1) rfl 2 (by decide) lk21 (fun _ h9 => h9) rfl dL_act_548 ?_
          refine lv_iload_n hx hb dL_act_551 rfl (lv_at hl 4 rfl) ?_
          refine lv_iconst (v := nI (5)) hx hb dL_act_552 (by decide) ?_
          refine lv_ishr hx hb dL_act_553 ?_
          refine lv_iload hx hb dL_act_554 (lv_at hl 0 rfl) ?_
          refine x_csi (va_runS (As := [.int ((x) >>> ((nI (5)) &&& 31)), .int (nI (g))]) (rest := [.ref (ga)]) ⟨hx, hb, hml, hown, hts⟩ (c_L_below l D cI cZ cG cJ A (WX ad cI cZ c g hid code ans dbt opn ply hps wr) ((x) >>> ((nI (5)) &&& 31)) g (by omega) (by omega)) (va_cwS 2 hts gL_act_L_below rfl rfl rfl (by decide +kernel) ⟨Nat.le_of_ble_eq_true rfl, Nat.le_of_ble_eq_true rfl⟩) (preS hB hS hP hD) rfl rfl hl.1 rfl (lv_room (Nat.le_of_ble_eq_true rfl)) dL_act_556 ⟨by show _ ≤ 2120; omega, by show _ ≤ 8600; omega⟩) ?_
          obtain ⟨ii, e_ii⟩ : ∃ q : Nat, q = bw ((x) >>> ((nI (5)) &&& 31)) g := ⟨_, rfl⟩
          have h_ii : ii < g := by rw [e_ii]; exact bw_lt _ (by omega)
          refine x_ti (y := nI (ii)) (by rw [e_ii]) ?_
          refine x_gald hx hb hK hP (kg + 7) 2 (atWX hF.2.1) rfl (i := ii) (by omega) (by omega) (r := ra ii) (if_pos (by omega)) dL_act_559 ?_
          refine lv_astore (lv' := [(5, .ref (ra ii)), (4, .int (nI (g))), (3, .int (nI (cd))), (0, .ref (ad 0)), (1, .ref (so)), (2, .int (x))]) hx hb dL_act_560 hl (by decide) rfl (fun ls hl => ?_)
          refine lv_aload hx hb dL_act_562 (lv_at hl 0 rfl) ?_
          refine lv_iconst (v := nI (2)) hx hb dL_act_564 (by decide) ?_
          refine x_iald hx hb hK hP (kr ii + 7) 0 ((fun i hi => atWX (hF.2.2.1 i hi)) ii (by omega)) rfl (i := 2) (by omega) (by omega) dL_act_565 ?_
          have hbn := bN_le (dbt ii)
          refine x_ti (y := nI (bN (dbt ii))) (by rw [(hF.2.2.2.2 ii (by omega)).2.2]) ?_
          refine lv_iconst (v := nI (1)) hx hb dL_act_566 (by decide) ?_
          refine x_join (g2 := F0 m 575 ls [.int (bI (dbt ii))]) ?_ (fun hj575 => ?_)
          · skip
            refine lv_istore (lv' := [(6, .int (bI (dbt ii))), (5, .ref (ra ii)), (4, .int (nI (g))), (3, .int (nI (cd))), (0, .ref (ad 0)), (1, .ref (so)), (2, .int (x))]) hx hb dL_act_575 hl (by decide) rfl (fun ls hl => ?_)
            refine lv_aload hx hb dL_act_577 (lv_at hl 1 rfl) ?_
            refine lv_iconst (v := nI (2)) hx hb dL_act_579 (by decide) ?_
            refine lv_iload_n hx hb dL_act_580 rfl (lv_at hl 6 rfl) ?_
            refine lv_bipush (v := nI (8)) hx hb dL_act_581 (by decide) ?_
            refine lv_ishr hx hb dL_act_583 ?_
            refine lv_iconst (v := nI (3)) hx hb dL_act_584 (by decide) ?_
            refine x_csi (va_runS (As := [.int ((x) >>> ((nI (8)) &&& 31)), .int (nI (3))]) (rest := [.int (nI (2)), .ref (ra ii)]) ⟨hx, hb, hml, hown, hts⟩ (c_L_below l D cI cZ cG cJ A (WX ad cI cZ c g hid code ans dbt opn ply hps wr) ((x) >>> ((nI (8)) &&& 31)) 3 (by omega) (by omega)) (va_cwS 2 hts gL_act_L_below rfl rfl rfl (by decide +kernel) ⟨Nat.le_of_ble_eq_true rfl, Nat.le_of_ble_eq_true rfl⟩) (preS hB hS hP hD) rfl rfl hl.1 rfl (lv_room (Nat.le_of_ble_eq_true rfl)) dL_act_585 ⟨by show _ ≤ 2120; omega, by show _ ≤ 8600; omega⟩) ?_
            obtain ⟨q3, e_q3⟩ : ∃ q : Nat, q = bw ((x) >>> ((nI (8)) &&& 31)) 3 := ⟨_, rfl⟩
            have h_q3 : q3 < 3 := by rw [e_q3]; exact bw_lt _ (by omega)
            refine x_ti (y := nI (q3)) (by rw [e_q3]) ?_
            obtain ⟨is, eis⟩ : ∃ q : Bool, q = decide (0 < q3) := ⟨_, rfl⟩
            refine x_join (g2 := F0 m 596 ls [.int (nI (bN is)), .int (nI (2)), .ref (ra ii)]) ?_ (fun hj596 => ?_)
            · skip
              refine x_iast hx hb hK hP hD hS (kr ii + 7) 0 ((fun i hi => atWX (hF.2.2.1 i hi)) ii (by omega)) rfl (i := 2) (v := bN is) (by omega) (by omega) dL_act_596 (fun H locs hP hD hS => ?_)
              replace hP : va_P D vwCl (WX ad cI cZ c g hid code ans dbt opn ply hps (wr.set (kr ii) (ra ii, .inl (cI, 3, .inl (fun z => nI (va_up (M ii) 2 (bN is) z)))))) H := hP
              replace hD : va_D A (WX ad cI cZ c g hid code ans dbt opn ply hps (wr.set (kr ii) (ra ii, .inl (cI, 3, .inl (fun z => nI (va_up (M ii) 2 (bN is) z)))))) := hD
              replace hpal : Pals cI cG ad (wr.set (kr ii) (ra ii, .inl (cI, 3, .inl (fun z => nI (va_up (M ii) 2 (bN is) z))))) := hpal.set (hF.2.2.1 ii (by omega)) (noPal_row (Or.inr rfl))
              replace hF := hF.row (show ii < g by omega) is
              refine lv_aload_n hx hb dL_act_597 rfl (lv_at hl 4 rfl) ?_
              refine lv_iload_n hx hb dL_act_598 rfl (lv_at hl 6 rfl) ?_
              refine lv_iconst (v := nI (5)) hx hb dL_act_599 (by decide) ?_
              refine lv_ishr hx hb dL_act_600 ?_
              refine lv_iload hx hb dL_act_601 (lv_at hl 2 rfl) ?_
              refine x_csi (va_runS (As := [.int ((x) >>> ((nI (5)) &&& 31)), .int (nI (g))]) (rest := [.ref (ad 0)]) ⟨hx, hb, hml, hown, hts⟩ (c_L_below l D cI cZ cG cJ A (WX ad cI cZ c g hid code ans dbt opn ply hps (wr.set (kr ii) (ra ii, .inl (cI, 3, .inl (fun z => nI (va_up (M ii) 2 (bN is) z)))))) ((x) >>> ((nI (5)) &&& 31)) g (by omega) (by omega)) (va_cwS 2 hts gL_act_L_below rfl rfl rfl (by decide +kernel) ⟨Nat.le_of_ble_eq_true rfl, Nat.le_of_ble_eq_true rfl⟩) (preS hB hS hP hD) rfl rfl hl.1 rfl (lv_room (Nat.le_of_ble_eq_true rfl)) dL_act_603 ⟨by show _ ≤ 2120; omega, by show _ ≤ 8600; omega⟩) ?_
              refine x_ti (y := nI (ii)) (by rw [e_ii]) ?_
              refine lv_aload hx hb dL_act_606 (lv_at hl 1 rfl) ?_
              refine lv_iconst (v := nI (2)) hx hb dL_act_608 (by decide) ?_
              refine x_iald hx hb hK hP (kr ii + 7) 0 (atWX (hF.2.2.1 ii (by omega))) rfl (i := 2) (by omega) (by omega) dL_act_609 ?_
              have hbs := bN_le is
              refine x_ti (y := nI (bN is)) (by simp [up2, va_up]) ?_
              refine lv_iconst (v := nI (1)) hx hb dL_act_610 (by decide) ?_
              refine x_join (g2 := F0 m 619 ls [.int (bI (is)), .int (nI (ii)), .ref (ad 0)]) ?_ (fun hj619 => ?_)
              · skip
                refine va_calli (va_runV (As := [.int (nI (ii)), .int (bI (is))]) (rest := []) ⟨hx, hb, hml, hown, hts⟩ (c_X1_doubtP l D cI cZ cG cJ A ad (wr.set (kr ii) (ra ii, .inl (cI, 3, .inl (fun z => nI (va_up (M ii) 2 (bN is) z))))) hpal c g hid code ans dbt opn ply hps ii is (hI) (by omega)) (cwV 2 hts gL_act_X1_doubt rfl rfl rfl (by decide +kernel) ⟨Nat.le_of_ble_eq_true rfl, Nat.le_of_ble_eq_true rfl⟩) (preV (ci := 1) (q0 := 0) hB hS hP hD rfl rfl) rfl rfl hl.1 rfl (lv_room (Nat.le_of_ble_eq_true rfl)) dL_act_619 ⟨by show _ ≤ 2120; omega, by show _ ≤ 8600; omega⟩) hS (fun q _ h => h) (fun q h => h) (fun r_619 u_619 t9 H1 locs1 ht9 hvm9 hw_619 hBw hz9 hk9 hS => ?_)
                obtain ⟨hP, hD⟩ := hBw
                rw [ht9] at hP
                generalize H1 = H at hP hS ⊢
                generalize locs1 = locs at hS ⊢
                replace hP : va_P D vwCl (WX ad cI cZ c g hid code ans (va_up dbt ii is) u_619 ply hps (wr.set (kr ii) (ra ii, .inl (cI, 3, .inl (fun z => nI (va_up (M ii) 2 (bN is) z)))))) H := hP
                replace hD : va_D A (WX ad cI cZ c g hid code ans (va_up dbt ii is) u_619 ply hps (wr.set (kr ii) (ra ii, .inl (cI, 3, .inl (fun z => nI (va_up (M ii) 2 (bN is) z)))))) := hD
                refine x_ti (y := bI (dbt ii)) (hw_619.1) ?_
                refine lv_iload hx hb dL_act_622 (lv_at hl 0 rfl) ?_
                refine lv_icmp_ne (tgt := 631) hx hb dL_act_624 (by decide) (fun c624 => absurd c624 (fun q => q rfl)) (fun c624 => ?_)
                refine lv_iconst (v := bI (true)) hx hb dL_act_627 (by decide) ?_
                refine lv_goto (tgt := 632) hx hb dL_act_628 (by decide) ?_
                refine W.widen (k := 2120) (n := 8600) (by omega) (by omega) ?_
                exact W.zret (v := bI (true)) hx hb hr (bI_narrow _) (fun t ht hW => ⟨⟨_, (c, g, hid, code, ans, (va_up dbt ii is), u_619, ply, hps, (wr.set (kr ii) (ra ii, .inl (cI, 3, .inl (fun z => nI (va_up (M ii) 2 (bN is) z)))))), rfl, (by
                    exact ⟨rfl, hpal, ⟨hc, hg, hco, hhid, hw_619.2⟩, ⟨_, _, _, _, _, _, hF⟩, hA5⟩), ⟨by rw [ht]; exact hP, hD⟩⟩, hS.F ht⟩) hS.2.2 dL_act_632
              · skip
                refine x_ne (tgt := 618) hx hb dL_act_611 (by decide) (by omega) (by omega) (fun c611 => ?_) (fun c611 => ?_)
                · skip
                  refine lv_iconst (v := nI (0)) hx hb dL_act_618 (by decide) ?_
                  refine x_ti (y := bI (is)) (by first | (rw [bN_1.mp c611]; rfl) | (rw [bN_0 c611]; rfl)) ?_
                  exact hj619
                · skip
                  refine lv_iconst (v := nI (1)) hx hb dL_act_614 (by decide) ?_
                  refine lv_goto (tgt := 619) hx hb dL_act_615 (by decide) ?_
                  refine x_ti (y := bI (is)) (by first | (rw [bN_1.mp c611]; rfl) | (rw [bN_0 c611]; rfl)) ?_
                  exact hj619
            · skip
              refine x_le0 (tgt := 595) hx hb dL_act_588 (by decide) (by omega) (fun c588 => ?_) (fun c588 => ?_)
              · skip
                refine lv_iconst (v := nI (0)) hx hb dL_act_595 (by decide) ?_
                refine x_ti (y := nI (bN is)) (by first | (rw [eis, decide_eq_true c588]; rfl) | (rw [eis, c588]; rfl)) ?_
                exact hj596
              · skip
                refine lv_iconst (v := nI (1)) hx hb dL_act_591 (by decide) ?_
                refine lv_goto (tgt := 596) hx hb dL_act_592 (by decide) ?_
                refine x_ti (y := nI (bN is)) (by first | (rw [eis, decide_eq_true c588]; rfl) | (rw [eis, c588]; rfl)) ?_
                exact hj596
          · skip
            refine x_ne (tgt := 574) hx hb dL_act_567 (by decide) (by omega) (by omega) (fun c567 => ?_) (fun c567 => ?_)
            · skip
              refine lv_iconst (v := nI (0)) hx hb dL_act_574 (by decide) ?_
              refine x_ti (y := bI (dbt ii)) (by first | (rw [bN_1.mp c567]; rfl) | (rw [bN_0 c567]; rfl)) ?_
              exact hj575
            · skip
              refine lv_iconst (v := nI (1)) hx hb dL_act_570 (by decide) ?_
              refine lv_goto (tgt := 575) hx hb dL_act_571 (by decide) ?_
              refine x_ti (y := bI (dbt ii)) (by first | (rw [bN_1.mp c567]; rfl) | (rw [bN_0 c567]; rfl)) ?_
              exact hj575
        · skip
          refine lv_iconst (v := bI (true)) hx hb dL_act_545 (by decide) ?_
          refine W.widen (k := 2120) (n := 8600) (by omega) (by omega) ?_
          exact W.zret (v := bI (true)) hx hb hr (bI_narrow _) (fun t ht hW => ⟨⟨_, (c, g, hid, code, ans, dbt, opn, ply, hps, wr), rfl, (by
              exact ⟨rfl, hpal, hI, hS0, hA5⟩), ⟨by rw [ht]; exact hP, hD⟩⟩, hS.F ht⟩) hS.2.2 dL_act_546
      · skip
        rcases sw_cases (nI (q14)) 11 10 (by decide) (by decide) with hsw | ⟨j9, hj9, hwj⟩
        · refine lv_tableOut (tgt := 633) hx hb dL_act_24 hsw (by decide) ?_
          clear hj149 hj289 hj540
          refine lv_iload hx hb dL_act_633 (lv_at hl 0 rfl) ?_
          refine x_eq0 (tgt := 649) hx hb dL_act_635 (by decide) (by omega) (fun c635 => ?_) (fun c635 => ?_)
          · skip
            refine lv_iconst (v := bI (true)) hx hb dL_act_649 (by decide) ?_
            refine W.widen (k := 2120) (n := 8600) (by omega) (by omega) ?_
            exact W.zret (v := bI (true)) hx hb hr (bI_narrow _) (fun t ht hW => ⟨⟨_, (c, g, hid, code, ans, dbt, opn, ply, hps, wr), rfl, (by
                exact ⟨rfl, hpal, hI, hS0, hA5⟩), ⟨by rw [ht]; exact hP, hD⟩⟩, hS.F ht⟩) hS.2.2 dL_act_650
          · skip
            refine lv_iload_n hx hb dL_act_638 rfl (lv_at hl 4 rfl) ?_
            refine lv_bipush (v := nI (6)) hx hb dL_act_639 (by decide) ?_
            refine lv_ishr hx hb dL_act_641 ?_
            refine lv_iconst (v := nI (2)) hx hb dL_act_642 (by decide) ?_
            refine x_csi (va_runS (As := [.int ((x) >>> ((nI (6)) &&& 31)), .int (nI (2))]) (rest := []) ⟨hx, hb, hml, hown, hts⟩ (c_L_below l D cI cZ cG cJ A (WX ad cI cZ c g hid code ans dbt opn ply hps wr) ((x) >>> ((nI (6)) &&& 31)) 2 (by omega) (by omega)) (va_cwS 2 hts gL_act_L_below rfl rfl rfl (by decide +kernel) ⟨Nat.le_of_ble_eq_true rfl, Nat.le_of_ble_eq_true rfl⟩) (preS hB hS hP hD) rfl rfl hl.1 rfl (lv_room (Nat.le_of_ble_eq_true rfl)) dL_act_643 ⟨by show _ ≤ 2120; omega, by show _ ≤ 8600; omega⟩) ?_
            obtain ⟨q7, e_q7⟩ : ∃ q : Nat, q = bw ((x) >>> ((nI (6)) &&& 31)) 2 := ⟨_, rfl⟩
            have h_q7 : q7 < 2 := by rw [e_q7]; exact bw_lt _ (by omega)
            refine x_ti (y := nI (q7)) (by rw [e_q7]) ?_
            refine x_ne0 (tgt := 651) hx hb dL_act_646 (by decide) (by omega) (fun c646 => ?_) (fun c646 => ?_)
            · skip
              refine lv_iload hx hb dL_act_651 (lv_at hl 0 rfl) ?_
              refine lv_iconst (v := nI (1)) hx hb dL_act_653 (by decide) ?_
              refine lv_isub hx hb dL_act_654 ?_
              refine x_ti (pk_sub (by omega)) ?_
              refine x_newg (rc := ra) hx hb hown (hts _ (by decide +kernel)) hB hP hD hS (n := g - 1) (by omega) (by show _ ≤ 2120; omega) (by show _ ≤ 8600; omega) dL_act_655 (fun gn H2 hP2 hD2 hS2 => ?_)
              clear hP hD hS
              generalize H2 = H at hP2 hS2 ⊢
              have hP := hP2; have hD := hD2; have hS := hS2
              clear hP2 hD2 hS2
              replace hP := P_perm permWX hP
              replace hD := D_perm permWX hD
              replace hP : va_P D vwCl (WX ad cI cZ c g hid code ans dbt opn ply hps ((gn, PartC cG (g - 1) 0 ra) :: wr)) H := hP
              replace hD : va_D A (WX ad cI cZ c g hid code ans dbt opn ply hps ((gn, PartC cG (g - 1) 0 ra) :: wr)) := hD
              refine lv_astore (lv' := [(5, .ref (gn)), (4, .int (nI (g))), (3, .int (nI (cd))), (0, .ref (ad 0)), (1, .ref (so)), (2, .int (x))]) hx hb dL_act_658 hl (by decide) rfl (fun ls hl => ?_)
              refine lv_iconst (v := nI (0)) hx hb dL_act_660 (by decide) ?_
              refine lv_istore (lv' := [(6, .int (nI (0))), (5, .ref (gn)), (4, .int (nI (g))), (3, .int (nI (cd))), (0, .ref (ad 0)), (1, .ref (so)), (2, .int (x))]) hx hb dL_act_661 hl (by decide) rfl (fun ls hl => ?_)
              -- loop at 663
              have hinv : 0 + 1 ≤ g := by
                omega
              obtain ⟨i, hq9⟩ : ∃ (i : Nat), lv_has ls 9 [(0, .ref (ad 0)), (1, .ref (so)), (2, .int (x)), (3, .int (nI (cd))), (4, .int (nI (g))), (5, .ref (gn)), (6, .int (nI (i)))] ∧ (i + 1 ≤ g) ∧ va_P D vwCl (WX ad cI cZ c g hid code ans dbt opn ply hps ((gn, PartC cG (g - 1) i ra) :: wr)) H ∧ va_D A (WX ad cI cZ c g hid code ans dbt opn ply hps ((gn, PartC cG (g - 1) i ra) :: wr)) := ⟨0, lv_sub hl [4, 5, 6, 3, 2, 1, 0] rfl, hinv, hP, hD⟩
              clear hl hinv hP hD
              obtain ⟨hl, hinv, hP, hD⟩ := hq9
              obtain ⟨n9_663, hn9⟩ : ∃ q : Nat, g - i < q := ⟨_, Nat.lt_succ_self _⟩
              induction n9_663 generalizing ls H locs i with
              | zero => exact absurd hn9 (Nat.not_lt_zero _)
              | succ n9_663 ih663 =>
                refine lv_iload hx hb dL_act_663 (lv_at hl 6 rfl) ?_
                refine lv_iconst (v := nI (1)) hx hb dL_act_665 (by decide) ?_
                refine lv_iadd hx hb dL_act_666 ?_
                refine x_ti (nI_add _ _) ?_
                refine lv_iload hx hb dL_act_667 (lv_at hl 4 rfl) ?_
                refine x_ge (tgt := 690) hx hb dL_act_669 (by decide) (by omega) (by omega) (fun c669 => ?_) (fun c669 => ?_)
                · skip
                  have e9 : i = g - 1 := by omega
                  subst e9
                  replace hpal : Pals cI cG ad ((gn, PartC cG (g - 1) (g - 1) ra) :: wr) := hpal.cons _
                  replace hF : SimF cI cG ((gn, PartC cG (g - 1) (g - 1) ra) :: wr) so c hid g code ans dbt ga (ks + 1) (kg + 1) ra (fun i => kr i + 1) M := hF.emb (Emb.cons _ _)
                  refine lv_aload_n hx hb dL_act_690 rfl (lv_at hl 1 rfl) ?_
                  refine va_get (D := D) (ci := 2) (v := .ref (ga)) (C := RX2) (T := TX2) (N := 3) hx hb hts hinX2 hown hK hP (ks + 1 + 7) (atWX hF.1) rfl 2 (by decide) lk21 (fun _ h9 => h9) rfl dL_act_691 ?_
                  refine lv_iload hx hb dL_act_694 (lv_at hl 4 rfl) ?_
                  refine lv_iconst (v := nI (1)) hx hb dL_act_696 (by decide) ?_
                  refine lv_isub hx hb dL_act_697 ?_
                  refine x_ti (pk_sub (by omega)) ?_
                  refine x_gald hx hb hK hP (kg + 1 + 7) 2 (atWX hF.2.1) rfl (i := g - 1) (by omega) (by omega) (r := ra (g - 1)) (if_pos (by omega)) dL_act_698 ?_
                  refine lv_iconst (v := nI (0)) hx hb dL_act_699 (by decide) ?_
                  refine x_iald hx hb hK hP (kr (g - 1) + 1 + 7) 0 ((fun i hi => atWX (hF.2.2.1 i hi)) (g - 1) (by omega)) rfl (i := 0) (by omega) (by omega) dL_act_700 ?_
                  refine x_ti (y := nI (code (g - 1))) (by rw [(hF.2.2.2.2 (g - 1) (by omega)).1]) ?_
                  refine lv_istore (lv' := [(6, .int (nI (code (g - 1)))), (0, .ref (ad 0)), (1, .ref (so)), (2, .int (x)), (3, .int (nI (cd))), (4, .int (nI (g))), (5, .ref (gn))]) hx hb dL_act_701 hl (by decide) rfl (fun ls hl => ?_)
                  refine lv_aload_n hx hb dL_act_703 rfl (lv_at hl 2 rfl) ?_
                  refine lv_aload hx hb dL_act_704 (lv_at hl 6 rfl) ?_
                  refine va_put (D := D) (ci := 2) (v := .ref (gn)) (ty := (.array (.array .int))) (C := RX2) (T := TX2) (N := 3) hx hb hts hinX2 tyX2 tyX2_ok nmX2 hown hK hP hD hS (ks + 1 + 7) (atWX hF.1) rfl 2 (by decide) lk21 (fun _ h9 => h9) rfl (by decide +kernel) rfl rfl (Nat.le_of_ble_eq_true rfl) dL_act_706 (fun H locs hP hD hS => ?_)
                  replace hP : va_P D vwCl (WX ad cI cZ c g hid code ans dbt opn ply hps (((gn, PartC cG (g - 1) (g - 1) ra) :: wr).set (ks + 1) (so, .inr (2, [.int (nI c), .int hid, .ref gn])))) H := hP
                  replace hD : va_D A (WX ad cI cZ c g hid code ans dbt opn ply hps (((gn, PartC cG (g - 1) (g - 1) ra) :: wr).set (ks + 1) (so, .inr (2, [.int (nI c), .int hid, .ref gn])))) := hD
                  have hF9 := hF
                  replace hpal : Pals cI cG ad (((gn, PartC cG (g - 1) (g - 1) ra) :: wr).set (ks + 1) (so, .inr (2, [.int (nI c), .int hid, .ref gn]))) := hpal.set hF.1 noPal_sim
                  replace hF : SimF cI cG (((gn, PartC cG (g - 1) (g - 1) ra) :: wr).set (ks + 1) (so, .inr (2, [.int (nI c), .int hid, .ref gn]))) so c hid (g - 1) code ans dbt gn (ks + 1) 0 ra (fun i => kr i + 1) M := hF.newg (gn := gn) (kn := 0) (n2 := g - 1) rfl (fun i hi => hF9.2.2.1 i (by omega)) (fun i j hi hj => hF9.2.2.2.1 i j (by omega) (by omega)) (fun i hi => hF9.2.2.2.2 i (by omega))
                  refine lv_aload_n hx hb dL_act_709 rfl (lv_at hl 1 rfl) ?_
                  refine va_calli (va_runV (As := []) (rest := []) ⟨hx, hb, hml, hown, hts⟩ (c_X1_forgetP l D cI cZ cG cJ A ad (((gn, PartC cG (g - 1) (g - 1) ra) :: wr).set (ks + 1) (so, .inr (2, [.int (nI c), .int hid, .ref gn]))) hpal c g hid code ans dbt opn ply hps (hI) (by omega)) (cwV 0 hts gL_act_X1_forget rfl rfl rfl (by decide +kernel) ⟨Nat.le_of_ble_eq_true rfl, Nat.le_of_ble_eq_true rfl⟩) (preV (ci := 1) (q0 := 0) hB hS hP hD rfl rfl) rfl rfl hl.1 rfl (lv_room (Nat.le_of_ble_eq_true rfl)) dL_act_710 ⟨by show _ ≤ 2120; omega, by show _ ≤ 8600; omega⟩) hS (fun q _ h => h) (fun q h => h) (fun r_710 u_710 t9 H1 locs1 ht9 hvm9 hw_710 hBw hz9 hk9 hS => ?_)
                  obtain ⟨hP, hD⟩ := hBw
                  rw [ht9] at hP
                  generalize H1 = H at hP hS ⊢
                  generalize locs1 = locs at hS ⊢
                  replace hP : va_P D vwCl (WX ad cI cZ c (g - 1) hid code ans dbt u_710 ply hps (((gn, PartC cG (g - 1) (g - 1) ra) :: wr).set (ks + 1) (so, .inr (2, [.int (nI c), .int hid, .ref gn])))) H := hP
                  replace hD : va_D A (WX ad cI cZ c (g - 1) hid code ans dbt u_710 ply hps (((gn, PartC cG (g - 1) (g - 1) ra) :: wr).set (ks + 1) (so, .inr (2, [.int (nI c), .int hid, .ref gn])))) := hD
                  refine x_ti (y := nI (code (g - 1))) (hw_710.1) ?_
                  refine lv_iload hx hb dL_act_713 (lv_at hl 0 rfl) ?_
                  refine x_ne (tgt := 722) hx hb dL_act_715 (by decide) (by have := (hco (g - 1) (by omega)).1; omega) (by have := (hco (g - 1) (by omega)).1; omega) (fun c715 => absurd c715 (fun q => q rfl)) (fun c715 => ?_)
                  refine lv_iconst (v := bI (true)) hx hb dL_act_718 (by decide) ?_
                  refine lv_goto (tgt := 723) hx hb dL_act_719 (by decide) ?_
                  refine W.widen (k := 2120) (n := 8600) (by omega) (by omega) ?_
                  exact W.zret (v := bI (true)) hx hb hr (bI_narrow _) (fun t ht hW => ⟨⟨_, (c, (g - 1), hid, code, ans, dbt, u_710, ply, hps, (((gn, PartC cG (g - 1) (g - 1) ra) :: wr).set (ks + 1) (so, .inr (2, [.int (nI c), .int hid, .ref gn])))), rfl, (by
                      exact ⟨rfl, hpal, ⟨hc, (show g - 1 ≤ 12 by omega), code_dn hco, hhid, hw_710.2⟩, ⟨_, _, _, _, _, _, hF⟩, hA5.dn⟩), ⟨by rw [ht]; exact hP, hD⟩⟩, hS.F ht⟩) hS.2.2 dL_act_723
                · skip
                  refine lv_aload hx hb dL_act_672 (lv_at hl 5 rfl) ?_
                  refine lv_iload hx hb dL_act_674 (lv_at hl 6 rfl) ?_
                  refine lv_aload_n hx hb dL_act_676 rfl (lv_at hl 1 rfl) ?_
                  refine va_get (D := D) (ci := 2) (v := .ref (ga)) (C := RX2) (T := TX2) (N := 3) hx hb hts hinX2 hown hK hP (ks + 8) (atWX2 hF.1) rfl 2 (by decide) lk21 (fun _ h9 => h9) rfl dL_act_677 ?_
                  refine lv_iload hx hb dL_act_680 (lv_at hl 6 rfl) ?_
                  refine x_gald hx hb hK hP (kg + 8) 2 (atWX2 hF.2.1) rfl (i := i) (by omega) (by omega) (r := ra i) (if_pos (by omega)) dL_act_682 ?_
                  refine x_gast hx hb hB hP hD hS 7 (kr i + 8) (k := i) rfl (atWX2 (hF.2.2.1 i (by omega))) (rfl) (by omega) (by omega) dL_act_683 (fun H locs hP hD hS => ?_)
                  replace hP : va_P D vwCl (WX ad cI cZ c g hid code ans dbt opn ply hps ((gn, PartC cG (g - 1) (i + 1) ra) :: wr)) H := hP
                  replace hD : va_D A (WX ad cI cZ c g hid code ans dbt opn ply hps ((gn, PartC cG (g - 1) (i + 1) ra) :: wr)) := hD
                  refine lv_iinc (v := nI (i + 1)) (lv' := [(6, .int (nI (i + 1))), (0, .ref (ad 0)), (1, .ref (so)), (2, .int (x)), (3, .int (nI (cd))), (4, .int (nI (g))), (5, .ref (gn))]) hx hb dL_act_684 hl (k := 6) rfl (nI_add _ _) (by decide) rfl (fun ls hl => ?_)
                  refine lv_goto (tgt := 663) hx hb dL_act_687 (by decide) ?_
                  exact ih663 (i := (i + 1)) (ls := ls) (hl := lv_sub hl [1, 2, 3, 4, 5, 6, 0] rfl) (H := H) (locs := locs) (hP := hP) (hD := hD) (hS := hS) (hinv := by
                      omega
                    ) (hn9 := by
                      omega
                    )
            · skip
              refine lv_iconst (v := bI (true)) hx hb dL_act_649 (by decide) ?_
              refine W.widen (k := 2120) (n := 8600) (by omega) (by omega) ?_
              exact W.zret (v := bI (true)) hx hb hr (bI_narrow _) (fun t ht hW => ⟨⟨_, (c, g, hid, code, ans, dbt, opn, ply, hps, wr), rfl, (by
                  exact ⟨rfl, hpal, hI, hS0, hA5⟩), ⟨by rw [ht]; exact hP, hD⟩⟩, hS.F ht⟩) hS.2.2 dL_act_650
        · obtain rfl | rfl | rfl | rfl | rfl | rfl | rfl | rfl | rfl | rfl | rfl : j9 = 0 ∨ j9 = 1 ∨ j9 = 2 ∨ j9 = 3 ∨ j9 = 4 ∨ j9 = 5 ∨ j9 = 6 ∨ j9 = 7 ∨ j9 = 8 ∨ j9 = 9 ∨ j9 = 10 := by omega
          · refine x_ti (y := nI 0) hwj ?_
            refine lv_tableIn (tgt := 84) (off := 60) hx hb dL_act_24 (by decide) (by decide) rfl (by decide) ?_
            refine lv_iload_n hx hb dL_act_84 rfl (lv_at hl 4 rfl) ?_
            refine lv_bipush (v := nI (9)) hx hb dL_act_85 (by decide) ?_
            refine lv_ishr hx hb dL_act_87 ?_
            refine lv_bipush (v := nI (6)) hx hb dL_act_88 (by decide) ?_
            refine x_csi (va_runS (As := [.int ((x) >>> ((nI (9)) &&& 31)), .int (nI (6))]) (rest := []) ⟨hx, hb, hml, hown, hts⟩ (c_L_below l D cI cZ cG cJ A (WX ad cI cZ c g hid code ans dbt opn ply hps wr) ((x) >>> ((nI (9)) &&& 31)) 6 (by omega) (by omega)) (va_cwS 2 hts gL_act_L_below rfl rfl rfl (by decide +kernel) ⟨Nat.le_of_ble_eq_true rfl, Nat.le_of_ble_eq_true rfl⟩) (preS hB hS hP hD) rfl rfl hl.1 rfl (lv_room (Nat.le_of_ble_eq_true rfl)) dL_act_90 ⟨by show _ ≤ 2120; omega, by show _ ≤ 8600; omega⟩) ?_
            obtain ⟨q6, e_q6⟩ : ∃ q : Nat, q = bw ((x) >>> ((nI (9)) &&& 31)) 6 := ⟨_, rfl⟩
            have h_q6 : q6 < 6 := by rw [e_q6]; exact bw_lt _ (by omega)
            refine x_ti (y := nI (q6)) (by rw [e_q6]) ?_
            refine x_le0 (tgt := 98) hx hb dL_act_93 (by decide) (by omega) (fun c93 => ?_) (fun c93 => ?_)
            · skip
              refine lv_aload_n hx hb dL_act_98 rfl (lv_at hl 3 rfl) ?_
              refine va_get (D := D) (ci := 2) (v := .int (nI (c))) (C := RX2) (T := TX2) (N := 3) hx hb hts hinX2 hown hK hP (ks + 7) (atWX hF.1) rfl 0 (by decide) lk25 (fun _ h9 => h9) rfl dL_act_99 ?_
              refine lv_istore (lv' := [(5, .int (nI (c))), (4, .int (nI (g))), (3, .int (nI (cd))), (0, .ref (ad 0)), (1, .ref (so)), (2, .int (x))]) hx hb dL_act_102 hl (by decide) rfl (fun ls hl => ?_)
              refine lv_aload_n hx hb dL_act_104 rfl (lv_at hl 4 rfl) ?_
              refine lv_iconst (v := nI (2)) hx hb dL_act_105 (by decide) ?_
              refine lv_iload_n hx hb dL_act_106 rfl (lv_at hl 5 rfl) ?_
              refine lv_iconst (v := nI (4)) hx hb dL_act_107 (by decide) ?_
              refine lv_ishr hx hb dL_act_108 ?_
              refine lv_iconst (v := nI (2)) hx hb dL_act_109 (by decide) ?_
              refine x_csi (va_runS (As := [.int ((x) >>> ((nI (4)) &&& 31)), .int (nI (2))]) (rest := [.int (nI (2)), .ref (so)]) ⟨hx, hb, hml, hown, hts⟩ (c_L_below l D cI cZ cG cJ A (WX ad cI cZ c g hid code ans dbt opn ply hps wr) ((x) >>> ((nI (4)) &&& 31)) 2 (by omega) (by omega)) (va_cwS 2 hts gL_act_L_below rfl rfl rfl (by decide +kernel) ⟨Nat.le_of_ble_eq_true rfl, Nat.le_of_ble_eq_true rfl⟩) (preS hB hS hP hD) rfl rfl hl.1 rfl (lv_room (Nat.le_of_ble_eq_true rfl)) dL_act_110 ⟨by show _ ≤ 2120; omega, by show _ ≤ 8600; omega⟩) ?_
              obtain ⟨q2, e_q2⟩ : ∃ q : Nat, q = bw ((x) >>> ((nI (4)) &&& 31)) 2 := ⟨_, rfl⟩
              have h_q2 : q2 < 2 := by rw [e_q2]; exact bw_lt _ (by omega)
              refine x_ti (y := nI (q2)) (by rw [e_q2]) ?_
              refine lv_iadd hx hb dL_act_113 ?_
              refine x_ti (nI_add _ _) ?_
              obtain ⟨c2, ec2⟩ : ∃ q : Nat, q = 2 + q2 := ⟨_, rfl⟩
              have hc2 : c2 = 2 ∨ c2 = 3 := by omega
              refine x_ti (y := nI (c2)) (by rw [ec2]) ?_
              refine va_put (D := D) (ci := 2) (v := .int (nI (c2))) (ty := .int) (C := RX2) (T := TX2) (N := 3) hx hb hts hinX2 tyX2 tyX2_ok nmX2 hown hK hP hD hS (ks + 7) (atWX hF.1) rfl 0 (by decide) lk25 (fun _ h9 => h9) rfl (by decide +kernel) rfl rfl (Nat.le_of_ble_eq_true rfl) dL_act_114 (fun H locs hP hD hS => ?_)
              replace hP : va_P D vwCl (WX ad cI cZ c g hid code ans dbt opn ply hps (wr.set ks (so, .inr (2, [.int (nI c2), .int hid, .ref ga])))) H := hP
              replace hD : va_D A (WX ad cI cZ c g hid code ans dbt opn ply hps (wr.set ks (so, .inr (2, [.int (nI c2), .int hid, .ref ga])))) := hD
              replace hpal : Pals cI cG ad (wr.set ks (so, .inr (2, [.int (nI c2), .int hid, .ref ga]))) := hpal.set hF.1 noPal_sim
              replace hF := hF.obj c2 hid
              refine lv_aload_n hx hb dL_act_117 rfl (lv_at hl 4 rfl) ?_
              refine lv_iconst (v := (-1)) hx hb dL_act_118 (by decide) ?_
              refine va_put (D := D) (ci := 2) (v := .int ((-1))) (ty := .int) (C := RX2) (T := TX2) (N := 3) hx hb hts hinX2 tyX2 tyX2_ok nmX2 hown hK hP hD hS (ks + 7) (atWX hF.1) rfl 1 (by decide) lk29 (fun _ h9 => h9) rfl (by decide +kernel) rfl rfl (Nat.le_of_ble_eq_true rfl) dL_act_119 (fun H locs hP hD hS => ?_)
              replace hP : va_P D vwCl (WX ad cI cZ c g hid code ans dbt opn ply hps ((wr.set ks (so, .inr (2, [.int (nI c2), .int hid, .ref ga]))).set ks (so, .inr (2, [.int (nI c2), .int (-1), .ref ga])))) H := hP
              replace hD : va_D A (WX ad cI cZ c g hid code ans dbt opn ply hps ((wr.set ks (so, .inr (2, [.int (nI c2), .int hid, .ref ga]))).set ks (so, .inr (2, [.int (nI c2), .int (-1), .ref ga])))) := hD
              replace hpal : Pals cI cG ad ((wr.set ks (so, .inr (2, [.int (nI c2), .int hid, .ref ga]))).set ks (so, .inr (2, [.int (nI c2), .int (-1), .ref ga]))) := hpal.set hF.1 noPal_sim
              replace hF := hF.obj c2 (-1)
              refine lv_aload_n hx hb dL_act_122 rfl (lv_at hl 4 rfl) ?_
              refine lv_iconst (v := nI (0)) hx hb dL_act_123 (by decide) ?_
              refine x_newg (rc := ra) hx hb hown (hts _ (by decide +kernel)) hB hP hD hS (n := 0) (by decide) (by show _ ≤ 2120; omega) (by show _ ≤ 8600; omega) dL_act_124 (fun gn H2 hP2 hD2 hS2 => ?_)
              clear hP hD hS
              generalize H2 = H at hP2 hS2 ⊢
              have hP := hP2; have hD := hD2; have hS := hS2
              clear hP2 hD2 hS2
              replace hP := P_perm permWX hP
              replace hD := D_perm permWX hD
              replace hP : va_P D vwCl (WX ad cI cZ c g hid code ans dbt opn ply hps ((gn, PartC cG 0 0 ra) :: ((wr.set ks (so, .inr (2, [.int (nI c2), .int hid, .ref ga]))).set ks (so, .inr (2, [.int (nI c2), .int (-1), .ref ga]))))) H := hP
              replace hD : va_D A (WX ad cI cZ c g hid code ans dbt opn ply hps ((gn, PartC cG 0 0 ra) :: ((wr.set ks (so, .inr (2, [.int (nI c2), .int hid, .ref ga]))).set ks (so, .inr (2, [.int (nI c2), .int (-1), .ref ga]))))) := hD
              replace hpal : Pals cI cG ad ((gn, PartC cG 0 0 ra) :: ((wr.set ks (so, .inr (2, [.int (nI c2), .int hid, .ref ga]))).set ks (so, .inr (2, [.int (nI c2), .int (-1), .ref ga])))) := hpal.cons _
              replace hF : SimF cI cG ((gn, PartC cG 0 0 ra) :: ((wr.set ks (so, .inr (2, [.int (nI c2), .int hid, .ref ga]))).set ks (so, .inr (2, [.int (nI c2), .int (-1), .ref ga])))) so c2 (-1) g code ans dbt ga (ks + 1) (kg + 1) ra (fun i => kr i + 1) M := hF.emb (Emb.cons _ _)
              refine va_put (D := D) (ci := 2) (v := .ref (gn)) (ty := (.array (.array .int))) (C := RX2) (T := TX2) (N := 3) hx hb hts hinX2 tyX2 tyX2_ok nmX2 hown hK hP hD hS (ks + 1 + 7) (atWX hF.1) rfl 2 (by decide) lk21 (fun _ h9 => h9) rfl (by decide +kernel) rfl rfl (Nat.le_of_ble_eq_true rfl) dL_act_127 (fun H locs hP hD hS => ?_)
              replace hP : va_P D vwCl (WX ad cI cZ c g hid code ans dbt opn ply hps (((gn, PartC cG 0 0 ra) :: ((wr.set ks (so, .inr (2, [.int (nI c2), .int hid, .ref ga]))).set ks (so, .inr (2, [.int (nI c2), .int (-1), .ref ga])))).set (ks + 1) (so, .inr (2, [.int (nI c2), .int (-1), .ref gn])))) H := hP
              replace hD : va_D A (WX ad cI cZ c g hid code ans dbt opn ply hps (((gn, PartC cG 0 0 ra) :: ((wr.set ks (so, .inr (2, [.int (nI c2), .int hid, .ref ga]))).set ks (so, .inr (2, [.int (nI c2), .int (-1), .ref ga])))).set (ks + 1) (so, .inr (2, [.int (nI c2), .int (-1), .ref gn])))) := hD
              replace hpal : Pals cI cG ad (((gn, PartC cG 0 0 ra) :: ((wr.set ks (so, .inr (2, [.int (nI c2), .int hid, .ref ga]))).set ks (so, .inr (2, [.int (nI c2), .int (-1), .ref ga])))).set (ks + 1) (so, .inr (2, [.int (nI c2), .int (-1), .ref gn]))) := hpal.set hF.1 noPal_sim
              replace hF : SimF cI cG (((gn, PartC cG 0 0 ra) :: ((wr.set ks (so, .inr (2, [.int (nI c2), .int hid, .ref ga]))).set ks (so, .inr (2, [.int (nI c2), .int (-1), .ref ga])))).set (ks + 1) (so, .inr (2, [.int (nI c2), .int (-1), .ref gn]))) so c2 (-1) 0 code ans dbt gn (ks + 1) 0 ra (fun _ => 0) M := hF.newg (gn := gn) (kn := 0) (n2 := 0) rfl (fun i hi => absurd hi (Nat.not_lt_zero _)) (fun i j hi => absurd hi (Nat.not_lt_zero _)) (fun i hi => absurd hi (Nat.not_lt_zero _))
              refine lv_aload_n hx hb dL_act_130 rfl (lv_at hl 3 rfl) ?_
              refine lv_aload_n hx hb dL_act_131 rfl (lv_at hl 4 rfl) ?_
              refine va_get (D := D) (ci := 2) (v := .int (nI (c2))) (C := RX2) (T := TX2) (N := 3) hx hb hts hinX2 hown hK hP (ks + 1 + 7) (atWX hF.1) rfl 0 (by decide) lk25 (fun _ h9 => h9) rfl dL_act_132 ?_
              refine va_calli (va_runV (As := [.int (nI (c2))]) (rest := []) ⟨hx, hb, hml, hown, hts⟩ (c_X1_setColoursP l D cI cZ cG cJ A ad (((gn, PartC cG 0 0 ra) :: ((wr.set ks (so, .inr (2, [.int (nI c2), .int hid, .ref ga]))).set ks (so, .inr (2, [.int (nI c2), .int (-1), .ref ga])))).set (ks + 1) (so, .inr (2, [.int (nI c2), .int (-1), .ref gn]))) hpal c g hid code ans dbt opn ply hps c2 (hI) (hc2)) (cwV 1 hts gL_act_X1_setColours rfl rfl rfl (by decide +kernel) ⟨Nat.le_of_ble_eq_true rfl, Nat.le_of_ble_eq_true rfl⟩) (preV (ci := 1) (q0 := 0) hB hS hP hD rfl rfl) rfl rfl hl.1 rfl (lv_room (Nat.le_of_ble_eq_true rfl)) dL_act_135 ⟨by show _ ≤ 2120; omega, by show _ ≤ 8600; omega⟩) hS (fun q _ h => h) (fun q h => h) (fun r_135 u_135 t9 H1 locs1 ht9 hvm9 hw_135 hBw hz9 hk9 hS => ?_)
              obtain ⟨hP, hD⟩ := hBw
              rw [ht9] at hP
              generalize H1 = H at hP hS ⊢
              generalize locs1 = locs at hS ⊢
              replace hP : va_P D vwCl (WX ad cI cZ c2 0 (-1) code ans dbt u_135 ply hps (((gn, PartC cG 0 0 ra) :: ((wr.set ks (so, .inr (2, [.int (nI c2), .int hid, .ref ga]))).set ks (so, .inr (2, [.int (nI c2), .int (-1), .ref ga])))).set (ks + 1) (so, .inr (2, [.int (nI c2), .int (-1), .ref gn])))) H := hP
              replace hD : va_D A (WX ad cI cZ c2 0 (-1) code ans dbt u_135 ply hps (((gn, PartC cG 0 0 ra) :: ((wr.set ks (so, .inr (2, [.int (nI c2), .int hid, .ref ga]))).set ks (so, .inr (2, [.int (nI c2), .int (-1), .ref ga])))).set (ks + 1) (so, .inr (2, [.int (nI c2), .int (-1), .ref gn])))) := hD
              refine x_ti (y := nI (c)) (hw_135.1) ?_
              refine lv_iload hx hb dL_act_138 (lv_at hl 0 rfl) ?_
              refine x_ne (tgt := 147) hx hb dL_act_140 (by decide) (by omega) (by omega) (fun c140 => absurd c140 (fun q => q rfl)) (fun c140 => ?_)
              refine lv_iconst (v := bI (true)) hx hb dL_act_143 (by decide) ?_
              refine lv_goto (tgt := 148) hx hb dL_act_144 (by decide) ?_
              refine W.widen (k := 2120) (n := 8600) (by omega) (by omega) ?_
              exact W.zret (v := bI (true)) hx hb hr (bI_narrow _) (fun t ht hW => ⟨⟨_, (c2, 0, (-1), code, ans, dbt, u_135, ply, hps, (((gn, PartC cG 0 0 ra) :: ((wr.set ks (so, .inr (2, [.int (nI c2), .int hid, .ref ga]))).set ks (so, .inr (2, [.int (nI c2), .int (-1), .ref ga])))).set (ks + 1) (so, .inr (2, [.int (nI c2), .int (-1), .ref gn])))), rfl, (by
                  exact ⟨rfl, hpal, ⟨hc2, Nat.zero_le _, fun i hi => absurd hi (Nat.not_lt_zero _), Or.inl rfl, hw_135.2⟩, ⟨_, _, _, _, _, _, hF⟩, fun i hi => absurd hi (Nat.not_lt_zero _)⟩), ⟨by rw [ht]; exact hP, hD⟩⟩, hS.F ht⟩) hS.2.2 dL_act_148
            · skip
              refine lv_iconst (v := bI (true)) hx hb dL_act_96 (by decide) ?_
              refine W.widen (k := 2120) (n := 8600) (by omega) (by omega) ?_
              exact W.zret (v := bI (true)) hx hb hr (bI_narrow _) (fun t ht hW => ⟨⟨_, (c, g, hid, code, ans, dbt, opn, ply, hps, wr), rfl, (by
                  exact ⟨rfl, hpal, hI, hS0, hA5⟩), ⟨by rw [ht]; exact hP, hD⟩⟩, hS.F ht⟩) hS.2.2 dL_act_97
          · refine x_ti (y := nI 1) hwj ?_
            refine lv_tableIn (tgt := 149) (off := 125) hx hb dL_act_24 (by decide) (by decide) rfl (by decide) ?_
            exact hj149
          · refine x_ti (y := nI 2) hwj ?_
            refine lv_tableIn (tgt := 149) (off := 125) hx hb dL_act_24 (by decide) (by decide) rfl (by decide) ?_
            exact hj149
          · refine x_ti (y := nI 3) hwj ?_
            refine lv_tableIn (tgt := 176) (off := 152) hx hb dL_act_24 (by decide) (by decide) rfl (by decide) ?_
            refine lv_iload_n hx hb dL_act_176 rfl (lv_at hl 4 rfl) ?_
            refine lv_iconst (v := nI (4)) hx hb dL_act_177 (by decide) ?_
            refine lv_ishr hx hb dL_act_178 ?_
            refine lv_iconst (v := nI (4)) hx hb dL_act_179 (by decide) ?_
            refine x_csi (va_runS (As := [.int ((x) >>> ((nI (4)) &&& 31)), .int (nI (4))]) (rest := []) ⟨hx, hb, hml, hown, hts⟩ (c_L_below l D cI cZ cG cJ A (WX ad cI cZ c g hid code ans dbt opn ply hps wr) ((x) >>> ((nI (4)) &&& 31)) 4 (by omega) (by omega)) (va_cwS 2 hts gL_act_L_below rfl rfl rfl (by decide +kernel) ⟨Nat.le_of_ble_eq_true rfl, Nat.le_of_ble_eq_true rfl⟩) (preS hB hS hP hD) rfl rfl hl.1 rfl (lv_room (Nat.le_of_ble_eq_true rfl)) dL_act_180 ⟨by show _ ≤ 2120; omega, by show _ ≤ 8600; omega⟩) ?_
            obtain ⟨pa, e_pa⟩ : ∃ q : Nat, q = bw ((x) >>> ((nI (4)) &&& 31)) 4 := ⟨_, rfl⟩
            have h_pa : pa < 4 := by rw [e_pa]; exact bw_lt _ (by omega)
            refine x_ti (y := nI (pa)) (by rw [e_pa]) ?_
            refine lv_istore (lv' := [(5, .int (nI (pa))), (4, .int (nI (g))), (3, .int (nI (cd))), (0, .ref (ad 0)), (1, .ref (so)), (2, .int (x))]) hx hb dL_act_183 hl (by decide) rfl (fun ls hl => ?_)
            refine lv_iload_n hx hb dL_act_185 rfl (lv_at hl 5 rfl) ?_
            refine lv_bipush (v := nI (6)) hx hb dL_act_186 (by decide) ?_
            refine lv_ishr hx hb dL_act_188 ?_
            refine lv_iconst (v := nI (4)) hx hb dL_act_189 (by decide) ?_
            refine x_csi (va_runS (As := [.int ((x) >>> ((nI (6)) &&& 31)), .int (nI (4))]) (rest := []) ⟨hx, hb, hml, hown, hts⟩ (c_L_below l D cI cZ cG cJ A (WX ad cI cZ c g hid code ans dbt opn ply hps wr) ((x) >>> ((nI (6)) &&& 31)) 4 (by omega) (by omega)) (va_cwS 2 hts gL_act_L_below rfl rfl rfl (by decide +kernel) ⟨Nat.le_of_ble_eq_true rfl, Nat.le_of_ble_eq_true rfl⟩) (preS hB hS hP hD) rfl rfl hl.1 rfl (lv_room (Nat.le_of_ble_eq_true rfl)) dL_act_190 ⟨by show _ ≤ 2120; omega, by show _ ≤ 8600; omega⟩) ?_
            obtain ⟨pb, e_pb⟩ : ∃ q : Nat, q = bw ((x) >>> ((nI (6)) &&& 31)) 4 := ⟨_, rfl⟩
            have h_pb : pb < 4 := by rw [e_pb]; exact bw_lt _ (by omega)
            refine x_ti (y := nI (pb)) (by rw [e_pb]) ?_
            refine lv_istore (lv' := [(6, .int (nI (pb))), (5, .int (nI (pa))), (4, .int (nI (g))), (3, .int (nI (cd))), (0, .ref (ad 0)), (1, .ref (so)), (2, .int (x))]) hx hb dL_act_193 hl (by decide) rfl (fun ls hl => ?_)
            refine lv_aload_n hx hb dL_act_195 rfl (lv_at hl 5 rfl) ?_
            refine va_get (D := D) (ci := 2) (v := .int (hid)) (C := RX2) (T := TX2) (N := 3) hx hb hts hinX2 hown hK hP (ks + 7) (atWX hF.1) rfl 1 (by decide) lk29 (fun _ h9 => h9) rfl dL_act_196 ?_
            refine lv_if_lt (tgt := 246) hx hb dL_act_199 (by decide) (fun c199 => ?_) (fun c199 => ?_)
            · skip
              have hm1 := hid_neg (by omega) hhid c199
              refine lv_aload_n hx hb dL_act_246 rfl (lv_at hl 4 rfl) ?_
              refine lv_iload hx hb dL_act_247 (lv_at hl 1 rfl) ?_
              refine lv_iload hx hb dL_act_249 (lv_at hl 0 rfl) ?_
              refine vx_calli (vx_runV (As := [.int (nI (pa)), .int (nI (pb))]) (rest := []) ⟨hx, hb, hml, hown, hts⟩ (c_X1_swap l hfl D cI cZ cG cJ A ad wr hpal c g hid code ans dbt opn ply hps (nI (pa)) (nI (pb)) (hI)) (cwV 2 hts gL_act_X1_swap rfl rfl rfl (by decide +kernel) ⟨Nat.le_of_ble_eq_true rfl, Nat.le_of_ble_eq_true rfl⟩) (preV (ci := 1) (q0 := 0) hB hS hP hD rfl rfl) rfl rfl hl.1 rfl (lv_room (Nat.le_of_ble_eq_true rfl)) dL_act_251 ⟨by show _ ≤ 2120; omega, by show _ ≤ 8600; omega⟩) hS (fun q _ h => h) (fun q h => h) (fun q _ h => h) (fun E ce q9 u9 t9 H1 locs1 ht9 hvm9 hpx8 hBx hz9 hk9 hS hq9 hv9 hcl9 => ?_) (fun r_251 u_251 t9 H1 locs1 ht9 hvm9 hw_251 hBw hz9 hk9 hS => ?_)
              · obtain ⟨hpx9, hP1, hD1⟩ := hBx
                rw [ht9] at hP1
                rcases hpx9 with ⟨rfl, hz⟩ | ⟨rfl, -, -, -⟩
                · exact absurd hz (by rw [plC_nI h_pa, plC_nI h_pb]; simp)
                · refine L_catch0 hown htab (by decide) (by decide) (hts _ (by decide +kernel)) (va_Nw.use rfl (hB.2.2.2.2.1 _ (by simp [Nws]))) hq9 hv9 hcl9 ?_
                  replace hP := hP1; replace hD := hD1
                  clear hP1 hD1
                  generalize H1 = H at hP hS ⊢
                  generalize locs1 = locs at hS ⊢
                  refine lv_astore (lv' := [(7, .ref (q9)), (6, .int (nI (pb))), (5, .int (nI (pa))), (4, .int (nI (g))), (3, .int (nI (cd))), (0, .ref (ad 0)), (1, .ref (so)), (2, .int (x))]) hx hb dL_act_274 hl (by decide) rfl (fun ls hl => ?_)
                  refine lv_aload_n hx hb dL_act_276 rfl (lv_at hl 6 rfl) ?_
                  refine va_get (D := D) (ci := 2) (v := .int (hid)) (C := RX2) (T := TX2) (N := 3) hx hb hts hinX2 hown hK hP (ks + 7) (atWX hF.1) rfl 1 (by decide) lk29 (fun _ h9 => h9) rfl dL_act_277 ?_
                  refine lv_if_ge (tgt := 287) hx hb dL_act_280 (by decide) (fun c280 => absurd c280 (by rw [hm1]; decide)) (fun c280 => ?_)
                  refine lv_iconst (v := bI (true)) hx hb dL_act_283 (by decide) ?_
                  refine lv_goto (tgt := 288) hx hb dL_act_284 (by decide) ?_
                  refine W.widen (k := 2120) (n := 8600) (by omega) (by omega) ?_
                  exact W.zret (v := bI (true)) hx hb hr (bI_narrow _) (fun t ht hW => ⟨⟨_, (c, g, hid, code, ans, dbt, opn, ply, hps, wr), rfl, (by
                      exact ⟨rfl, hpal, hI, hS0, hA5⟩), ⟨by rw [ht]; exact hP, hD⟩⟩, hS.F ht⟩) hS.2.2 dL_act_288
              obtain ⟨hP, hD⟩ := hBw
              rw [ht9] at hP
              generalize H1 = H at hP hS ⊢
              generalize locs1 = locs at hS ⊢
              replace hP : va_P D vwCl (WX ad cI cZ c g u_251 code ans dbt opn ply hps wr) H := hP
              replace hD : va_D A (WX ad cI cZ c g u_251 code ans dbt opn ply hps wr) := hD
              obtain ⟨-, h9, pa9, pb9, hh9, -, -, e9, -⟩ := hw_251; exact absurd (e9.symm.trans hm1) (nI_ne_m1 (by omega))
            · skip
              obtain ⟨h, hh, eh⟩ := hid_pos hhid c199
              refine lv_aload_n hx hb dL_act_202 rfl (lv_at hl 5 rfl) ?_
              refine lv_aload_n hx hb dL_act_203 rfl (lv_at hl 5 rfl) ?_
              refine va_get (D := D) (ci := 2) (v := .int (hid)) (C := RX2) (T := TX2) (N := 3) hx hb hts hinX2 hown hK hP (ks + 7) (atWX hF.1) rfl 1 (by decide) lk29 (fun _ h9 => h9) rfl dL_act_204 ?_
              refine x_ti (y := nI (h)) (by rw [eh]) ?_
              refine va_callr (va_runV (As := [.int (nI (h))]) (rest := []) ⟨hx, hb, hml, hown, hts⟩ (c_X2_candles l D cI cZ cG cJ A (WX ad cI cZ c g hid code ans dbt opn ply hps wr) so c hid g code ans dbt h (hc) ((SimAt.WX ⟨_, _, _, _, _, _, hF⟩)) (hh)) (cwV 1 hts gL_act_X2_candles rfl rfl rfl (by decide +kernel) ⟨Nat.le_of_ble_eq_true rfl, Nat.le_of_ble_eq_true rfl⟩) (preV (ci := 2) (q0 := ks + 7) hB hS hP hD (atWX hF.1) rfl) rfl rfl hl.1 rfl (lv_room (Nat.le_of_ble_eq_true rfl)) dL_act_207 ⟨by show _ ≤ 2120; omega, by show _ ≤ 8600; omega⟩) hS (fun q _ h => h) (fun q h => h) (fun u_207 a9 t9 H1 locs1 ht9 hvm9 hw_207 hBw hz9 hk9 hS => ?_)
              obtain ⟨rfl, hP, hD⟩ := hBw
              rw [ht9] at hP
              generalize H1 = H at hP hS ⊢
              generalize locs1 = locs at hS ⊢
              replace hP := P_perm permWX hP
              replace hD := D_perm permWX hD
              replace hP : va_P D vwCl (WX ad cI cZ c g hid code ans dbt opn ply hps ((u_207.2, .inl (cI, 4, .inl (fun j => nI (u_207.1 j)))) :: wr)) H := hP
              replace hD : va_D A (WX ad cI cZ c g hid code ans dbt opn ply hps ((u_207.2, .inl (cI, 4, .inl (fun j => nI (u_207.1 j)))) :: wr)) := hD
              replace hP : va_P D vwCl (WX ad cI cZ c g hid code ans dbt opn ply hps ((u_207.2, .inl (cI, 4, .inl (fun j => nI (u_207.1 j)))) :: wr)) H := hP
              replace hD : va_D A (WX ad cI cZ c g hid code ans dbt opn ply hps ((u_207.2, .inl (cI, 4, .inl (fun j => nI (u_207.1 j)))) :: wr)) := hD
              refine lv_astore (lv' := [(7, .ref (u_207.2)), (6, .int (nI (pb))), (5, .int (nI (pa))), (4, .int (nI (g))), (3, .int (nI (cd))), (0, .ref (ad 0)), (1, .ref (so)), (2, .int (x))]) hx hb dL_act_210 hl (by decide) rfl (fun ls hl => ?_)
              refine lv_aload hx hb dL_act_212 (lv_at hl 0 rfl) ?_
              refine lv_iload hx hb dL_act_214 (lv_at hl 2 rfl) ?_
              refine x_iald hx hb hK hP 7 0 rfl rfl (i := pa) (by omega) (by omega) dL_act_216 ?_
              refine lv_istore (lv' := [(8, .int (nI (u_207.1 pa))), (7, .ref (u_207.2)), (6, .int (nI (pb))), (5, .int (nI (pa))), (4, .int (nI (g))), (3, .int (nI (cd))), (0, .ref (ad 0)), (1, .ref (so)), (2, .int (x))]) hx hb dL_act_217 hl (by decide) rfl (fun ls hl => ?_)
              refine lv_aload hx hb dL_act_219 (lv_at hl 1 rfl) ?_
              refine lv_iload hx hb dL_act_221 (lv_at hl 3 rfl) ?_
              refine lv_aload hx hb dL_act_223 (lv_at hl 1 rfl) ?_
              refine lv_iload hx hb dL_act_225 (lv_at hl 2 rfl) ?_
              refine x_iald hx hb hK hP 7 0 rfl rfl (i := pb) (by omega) (by omega) dL_act_227 ?_
              refine x_iast hx hb hK hP hD hS 7 0 rfl rfl (i := pa) (v := u_207.1 pb) (by omega) (by omega) dL_act_228 (fun H locs hP hD hS => ?_)
              replace hP : va_P D vwCl (WX ad cI cZ c g hid code ans dbt opn ply hps ((u_207.2, .inl (cI, 4, .inl (fun j => nI ((va_up u_207.1 pa (u_207.1 pb)) j)))) :: wr)) H := hP
              replace hD : va_D A (WX ad cI cZ c g hid code ans dbt opn ply hps ((u_207.2, .inl (cI, 4, .inl (fun j => nI ((va_up u_207.1 pa (u_207.1 pb)) j)))) :: wr)) := hD
              refine lv_aload hx hb dL_act_229 (lv_at hl 1 rfl) ?_
              refine lv_iload hx hb dL_act_231 (lv_at hl 2 rfl) ?_
              refine lv_iload hx hb dL_act_233 (lv_at hl 0 rfl) ?_
              refine x_iast hx hb hK hP hD hS 7 0 rfl rfl (i := pb) (v := u_207.1 pa) (by omega) (by omega) dL_act_235 (fun H locs hP hD hS => ?_)
              replace hP : va_P D vwCl (WX ad cI cZ c g hid code ans dbt opn ply hps ((u_207.2, .inl (cI, 4, .inl (fun j => nI ((va_up (va_up u_207.1 pa (u_207.1 pb)) pb (u_207.1 pa)) j)))) :: wr)) H := hP
              replace hD : va_D A (WX ad cI cZ c g hid code ans dbt opn ply hps ((u_207.2, .inl (cI, 4, .inl (fun j => nI ((va_up (va_up u_207.1 pa (u_207.1 pb)) pb (u_207.1 pa)) j)))) :: wr)) := hD
              refine lv_aload_n hx hb dL_act_236 rfl (lv_at hl 7 rfl) ?_
              refine lv_aload_n hx hb dL_act_237 rfl (lv_at hl 7 rfl) ?_
              refine lv_aload hx hb dL_act_238 (lv_at hl 1 rfl) ?_
              refine x_csi (va_runV (As := [.ref (u_207.2)]) (rest := [.ref (so)]) ⟨hx, hb, hml, hown, hts⟩ (c_X2_number l D cI cZ cG cJ A (WX ad cI cZ c g hid code ans dbt opn ply hps ((u_207.2, .inl (cI, 4, .inl (fun j => nI ((va_up (va_up u_207.1 pa (u_207.1 pb)) pb (u_207.1 pa)) j)))) :: wr)) so c hid g code ans dbt u_207.2 7 (va_up (va_up u_207.1 pa (u_207.1 pb)) pb (u_207.1 pa)) (hc) (((SimAt.cons _ ⟨_, _, _, _, _, _, hF⟩).WX)) (rfl)) (cwV 1 hts gL_act_X2_number rfl rfl rfl (by decide +kernel) ⟨Nat.le_of_ble_eq_true rfl, Nat.le_of_ble_eq_true rfl⟩) (preV (ci := 2) (q0 := ks + 8) hB hS hP hD (atWX2 hF.1) rfl) rfl rfl hl.1 rfl (lv_room (Nat.le_of_ble_eq_true rfl)) dL_act_240 ⟨by show _ ≤ 2120; omega, by show _ ≤ 8600; omega⟩) ?_
              have hsw4 := sw_lt hc hh h_pa h_pb
              refine x_ti (y := nI (swF c h pa pb 4)) (by rw [sw_num hc hh h_pa h_pb hw_207]) ?_
              refine va_put (D := D) (ci := 2) (v := .int (nI (swF c h pa pb 4))) (ty := .int) (C := RX2) (T := TX2) (N := 3) hx hb hts hinX2 tyX2 tyX2_ok nmX2 hown hK hP hD hS (ks + 8) (atWX2 hF.1) rfl 1 (by decide) lk29 (fun _ h9 => h9) rfl (by decide +kernel) rfl rfl (Nat.le_of_ble_eq_true rfl) dL_act_243 (fun H locs hP hD hS => ?_)
              replace hP : va_P D vwCl (WX ad cI cZ c g hid code ans dbt opn ply hps ((u_207.2, .inl (cI, 4, .inl (fun j => nI ((va_up (va_up u_207.1 pa (u_207.1 pb)) pb (u_207.1 pa)) j)))) :: (wr.set ks (so, .inr (2, [.int (nI c), .int (nI (swF c h pa pb 4)), .ref ga]))))) H := hP
              replace hD : va_D A (WX ad cI cZ c g hid code ans dbt opn ply hps ((u_207.2, .inl (cI, 4, .inl (fun j => nI ((va_up (va_up u_207.1 pa (u_207.1 pb)) pb (u_207.1 pa)) j)))) :: (wr.set ks (so, .inr (2, [.int (nI c), .int (nI (swF c h pa pb 4)), .ref ga]))))) := hD
              replace hpal : Pals cI cG ad ((u_207.2, .inl (cI, 4, .inl (fun j => nI ((va_up (va_up u_207.1 pa (u_207.1 pb)) pb (u_207.1 pa)) j)))) :: (wr.set ks (so, .inr (2, [.int (nI c), .int (nI (swF c h pa pb 4)), .ref ga])))) := (hpal.set hF.1 noPal_sim).cons _
              replace hF : SimF cI cG ((u_207.2, .inl (cI, 4, .inl (fun j => nI ((va_up (va_up u_207.1 pa (u_207.1 pb)) pb (u_207.1 pa)) j)))) :: (wr.set ks (so, .inr (2, [.int (nI c), .int (nI (swF c h pa pb 4)), .ref ga])))) so c (nI (swF c h pa pb 4)) g code ans dbt ga (ks + 1) (kg + 1) ra (fun i => kr i + 1) M := (hF.obj c (nI (swF c h pa pb 4))).emb (Emb.cons _ _)
              replace hP : va_P D vwCl (WX ad cI cZ c g hid code ans dbt opn ply hps ((u_207.2, .inl (cI, 4, .inl (fun j => nI ((va_up (va_up u_207.1 pa (u_207.1 pb)) pb (u_207.1 pa)) j)))) :: (wr.set ks (so, .inr (2, [.int (nI c), .int (nI (swF c h pa pb 4)), .ref ga]))))) H := hP
              replace hD : va_D A (WX ad cI cZ c g hid code ans dbt opn ply hps ((u_207.2, .inl (cI, 4, .inl (fun j => nI ((va_up (va_up u_207.1 pa (u_207.1 pb)) pb (u_207.1 pa)) j)))) :: (wr.set ks (so, .inr (2, [.int (nI c), .int (nI (swF c h pa pb 4)), .ref ga]))))) := hD
              refine lv_aload_n hx hb dL_act_246 rfl (lv_at hl 6 rfl) ?_
              refine lv_iload hx hb dL_act_247 (lv_at hl 3 rfl) ?_
              refine lv_iload hx hb dL_act_249 (lv_at hl 2 rfl) ?_
              refine va_calli (va_runV (As := [.int (nI (pa)), .int (nI (pb))]) (rest := []) ⟨hx, hb, hml, hown, hts⟩ (c_X1_swapP l D cI cZ cG cJ A ad ((u_207.2, .inl (cI, 4, .inl (fun j => nI ((va_up (va_up u_207.1 pa (u_207.1 pb)) pb (u_207.1 pa)) j)))) :: (wr.set ks (so, .inr (2, [.int (nI c), .int (nI (swF c h pa pb 4)), .ref ga])))) hpal c g hid code ans dbt opn ply hps pa pb h (hI) (h_pa) (h_pb) (hh) (eh)) (cwV 2 hts gL_act_X1_swap rfl rfl rfl (by decide +kernel) ⟨Nat.le_of_ble_eq_true rfl, Nat.le_of_ble_eq_true rfl⟩) (preV (ci := 1) (q0 := 0) hB hS hP hD rfl rfl) rfl rfl hl.1 rfl (lv_room (Nat.le_of_ble_eq_true rfl)) dL_act_251 ⟨by show _ ≤ 2120; omega, by show _ ≤ 8600; omega⟩) hS (fun q _ h => h) (fun q h => h) (fun r_251 u_251 t9 H1 locs1 ht9 hvm9 hw_251 hBw hz9 hk9 hS => ?_)
              obtain ⟨hP, hD⟩ := hBw
              rw [ht9] at hP
              generalize H1 = H at hP hS ⊢
              generalize locs1 = locs at hS ⊢
              have e251 := hw_251.2
              rw [e251] at hP hD
              replace hP : va_P D vwCl (WX ad cI cZ c g (nI (swF c h pa pb 4)) code ans dbt opn ply hps ((u_207.2, .inl (cI, 4, .inl (fun j => nI ((va_up (va_up u_207.1 pa (u_207.1 pb)) pb (u_207.1 pa)) j)))) :: (wr.set ks (so, .inr (2, [.int (nI c), .int (nI (swF c h pa pb 4)), .ref ga]))))) H := hP
              replace hD : va_D A (WX ad cI cZ c g (nI (swF c h pa pb 4)) code ans dbt opn ply hps ((u_207.2, .inl (cI, 4, .inl (fun j => nI ((va_up (va_up u_207.1 pa (u_207.1 pb)) pb (u_207.1 pa)) j)))) :: (wr.set ks (so, .inr (2, [.int (nI c), .int (nI (swF c h pa pb 4)), .ref ga]))))) := hD
              refine x_ti (y := nI (swF c h pa pb 4)) (hw_251.1) ?_
              refine lv_aload_n hx hb dL_act_254 rfl (lv_at hl 7 rfl) ?_
              refine va_get (D := D) (ci := 2) (v := .int ((nI (swF c h pa pb 4)))) (C := RX2) (T := TX2) (N := 3) hx hb hts hinX2 hown hK hP (ks + 1 + 7) (atWX hF.1) rfl 1 (by decide) lk29 (fun _ h9 => h9) rfl dL_act_255 ?_
              refine x_ti (y := nI (swF c h pa pb 4)) (rfl) ?_
              refine x_ne (tgt := 272) hx hb dL_act_258 (by decide) (by omega) (by omega) (fun c258 => absurd c258 (fun q => q rfl)) (fun c258 => ?_)
              refine lv_aload_n hx hb dL_act_261 rfl (lv_at hl 7 rfl) ?_
              refine va_get (D := D) (ci := 2) (v := .int ((nI (swF c h pa pb 4)))) (C := RX2) (T := TX2) (N := 3) hx hb hts hinX2 hown hK hP (ks + 1 + 7) (atWX hF.1) rfl 1 (by decide) lk29 (fun _ h9 => h9) rfl dL_act_262 ?_
              refine x_ti (y := nI (swF c h pa pb 4)) (rfl) ?_
              refine x_lt0 (tgt := 272) hx hb dL_act_265 (by decide) (by omega) ?_
              refine lv_iconst (v := bI (true)) hx hb dL_act_268 (by decide) ?_
              refine lv_goto (tgt := 273) hx hb dL_act_269 (by decide) ?_
              refine W.widen (k := 2120) (n := 8600) (by omega) (by omega) ?_
              exact W.zret (v := bI (true)) hx hb hr (bI_narrow _) (fun t ht hW => ⟨⟨_, (c, g, (nI (swF c h pa pb 4)), code, ans, dbt, opn, ply, hps, ((u_207.2, .inl (cI, 4, .inl (fun j => nI ((va_up (va_up u_207.1 pa (u_207.1 pb)) pb (u_207.1 pa)) j)))) :: (wr.set ks (so, .inr (2, [.int (nI c), .int (nI (swF c h pa pb 4)), .ref ga]))))), rfl, (by
                  exact ⟨rfl, hpal, ⟨hc, hg, hco, Or.inr ⟨_, hsw4, rfl⟩, hop⟩, ⟨_, _, _, _, _, _, hF⟩, hA5⟩), ⟨by rw [ht]; exact hP, hD⟩⟩, hS.F ht⟩) hS.2.2 dL_act_273
          · refine x_ti (y := nI 4) hwj ?_
            refine lv_tableIn (tgt := 289) (off := 265) hx hb dL_act_24 (by decide) (by decide) rfl (by decide) ?_
            exact hj289
          · refine x_ti (y := nI 5) hwj ?_
            refine lv_tableIn (tgt := 289) (off := 265) hx hb dL_act_24 (by decide) (by decide) rfl (by decide) ?_
            exact hj289
          · refine x_ti (y := nI 6) hwj ?_
            refine lv_tableIn (tgt := 289) (off := 265) hx hb dL_act_24 (by decide) (by decide) rfl (by decide) ?_
            exact hj289
          · refine x_ti (y := nI 7) hwj ?_
            refine lv_tableIn (tgt := 374) (off := 350) hx hb dL_act_24 (by decide) (by decide) rfl (by decide) ?_
            refine lv_iload_n hx hb dL_act_374 rfl (lv_at hl 4 rfl) ?_
            refine lv_iconst (v := nI (5)) hx hb dL_act_375 (by decide) ?_
            refine lv_ishr hx hb dL_act_376 ?_
            refine lv_iconst (v := nI (5)) hx hb dL_act_377 (by decide) ?_
            refine x_csi (va_runS (As := [.int ((x) >>> ((nI (5)) &&& 31)), .int (nI (5))]) (rest := []) ⟨hx, hb, hml, hown, hts⟩ (c_L_below l D cI cZ cG cJ A (WX ad cI cZ c g hid code ans dbt opn ply hps wr) ((x) >>> ((nI (5)) &&& 31)) 5 (by omega) (by omega)) (va_cwS 2 hts gL_act_L_below rfl rfl rfl (by decide +kernel) ⟨Nat.le_of_ble_eq_true rfl, Nat.le_of_ble_eq_true rfl⟩) (preS hB hS hP hD) rfl rfl hl.1 rfl (lv_room (Nat.le_of_ble_eq_true rfl)) dL_act_378 ⟨by show _ ≤ 2120; omega, by show _ ≤ 8600; omega⟩) ?_
            obtain ⟨bl, e_bl⟩ : ∃ q : Nat, q = bw ((x) >>> ((nI (5)) &&& 31)) 5 := ⟨_, rfl⟩
            have h_bl : bl < 5 := by rw [e_bl]; exact bw_lt _ (by omega)
            refine x_ti (y := nI (bl)) (by rw [e_bl]) ?_
            refine lv_istore (lv' := [(5, .int (nI (bl))), (4, .int (nI (g))), (3, .int (nI (cd))), (0, .ref (ad 0)), (1, .ref (so)), (2, .int (x))]) hx hb dL_act_381 hl (by decide) rfl (fun ls hl => ?_)
            refine lv_iload hx hb dL_act_383 (lv_at hl 0 rfl) ?_
            refine lv_iconst (v := nI (3)) hx hb dL_act_385 (by decide) ?_
            obtain ⟨wt, hwt1, hwt2, hwt3⟩ : ∃ q : Nat, (bl = 3 → q = 0) ∧ (¬ bl = 3 → q = bw ((x) >>> ((nI (8)) &&& 31)) (5 - bl)) ∧ (bl + q ≤ 4 ∧ ¬ (bl = 3 ∧ q = 1)) := by
              by_cases e9 : bl = 3
              · exact ⟨0, fun _ => rfl, fun q => absurd e9 q, by omega, by omega⟩
              · have := bw_lt ((x) >>> ((nI (8)) &&& 31)) (n := 5 - bl) (by omega)
                exact ⟨_, fun q => absurd q e9, fun _ => rfl, by omega, fun q => e9 q.1⟩
            refine x_join (g2 := F0 m 404 ls [.int (nI (wt))]) ?_ (fun hj404 => ?_)
            · skip
              refine lv_istore (lv' := [(6, .int (nI (wt))), (5, .int (nI (bl))), (4, .int (nI (g))), (3, .int (nI (cd))), (0, .ref (ad 0)), (1, .ref (so)), (2, .int (x))]) hx hb dL_act_404 hl (by decide) rfl (fun ls hl => ?_)
              refine lv_iload hx hb dL_act_406 (lv_at hl 2 rfl) ?_
              refine lv_bipush (v := nI (12)) hx hb dL_act_408 (by decide) ?_
              refine x_ne (tgt := 415) hx hb dL_act_410 (by decide) (by omega) (by omega) (fun c410 => ?_) (fun c410 => ?_)
              · skip
                refine lv_aload_n hx hb dL_act_415 rfl (lv_at hl 5 rfl) ?_
                refine lv_iload_n hx hb dL_act_416 rfl (lv_at hl 3 rfl) ?_
                refine lv_iconst (v := nI (5)) hx hb dL_act_417 (by decide) ?_
                refine lv_iload hx hb dL_act_418 (lv_at hl 1 rfl) ?_
                refine lv_imul hx hb dL_act_420 ?_
                refine x_ti (pk_mul _ _) ?_
                refine lv_iload hx hb dL_act_421 (lv_at hl 0 rfl) ?_
                refine lv_iadd hx hb dL_act_423 ?_
                refine x_ti (nI_add _ _) ?_
                refine va_callv (va_runS (As := [.ref (so), .int (nI (cd)), .int (nI ((5 * bl) + wt))]) (rest := []) ⟨hx, hb, hml, hown, hts⟩ (c_L_add l D cI cZ cG cJ A ad so c g hid code ans dbt opn ply hps wr c hid g code ans dbt cd ((5 * bl) + wt) (hpal) (⟨_, _, _, _, _, _, hF⟩) (by omega)) (va_cwS 3 hts gL_act_L_add rfl rfl rfl (by decide +kernel) ⟨Nat.le_of_ble_eq_true rfl, Nat.le_of_ble_eq_true rfl⟩) (preS hB hS hP hD) rfl rfl hl.1 rfl (lv_room (Nat.le_of_ble_eq_true rfl)) dL_act_424 ⟨by show _ ≤ 2120; omega, by show _ ≤ 8600; omega⟩) hS (fun q _ h => h) (fun q h => h) (fun u_424 t9 H1 locs1 ht9 hvm9 hw_424 hBw hz9 hk9 hS => ?_)
                obtain ⟨hP, hD⟩ := hBw
                rw [ht9] at hP
                generalize H1 = H at hP hS ⊢
                generalize locs1 = locs at hS ⊢
                replace hP : va_P D vwCl (WX ad cI cZ c g hid code ans dbt opn ply hps u_424) H := hP
                replace hD : va_D A (WX ad cI cZ c g hid code ans dbt opn ply hps u_424) := hD
                obtain ⟨hpal, ga424, ks424, kg424, ra424, kr424, M424, hF⟩ := hw_424
                refine lv_aload_n hx hb dL_act_427 rfl (lv_at hl 4 rfl) ?_
                refine lv_iload_n hx hb dL_act_428 rfl (lv_at hl 3 rfl) ?_
                refine lv_iload hx hb dL_act_429 (lv_at hl 1 rfl) ?_
                refine lv_iload hx hb dL_act_431 (lv_at hl 0 rfl) ?_
                refine va_calli (va_runV (As := [.int (nI (cd)), .int (nI (bl)), .int (nI (wt))]) (rest := []) ⟨hx, hb, hml, hown, hts⟩ (c_X1_tellP l D cI cZ cG cJ A ad u_424 hpal c g hid code ans dbt opn ply hps cd bl wt (hI) (h_cd) (hwt3.1) (hwt3.2) (by omega)) (cwV 3 hts gL_act_X1_tell rfl rfl rfl (by decide +kernel) ⟨Nat.le_of_ble_eq_true rfl, Nat.le_of_ble_eq_true rfl⟩) (preV (ci := 1) (q0 := 0) hB hS hP hD rfl rfl) rfl rfl hl.1 rfl (lv_room (Nat.le_of_ble_eq_true rfl)) dL_act_433 ⟨by show _ ≤ 2120; omega, by show _ ≤ 8600; omega⟩) hS (fun q _ h => h) (fun q h => h) (fun r_433 u_433 t9 H1 locs1 ht9 hvm9 hw_433 hBw hz9 hk9 hS => ?_)
                obtain ⟨hP, hD⟩ := hBw
                rw [ht9] at hP
                generalize H1 = H at hP hS ⊢
                generalize locs1 = locs at hS ⊢
                replace hP : va_P D vwCl (WX ad cI cZ c (g + 1) hid (va_up code g cd) (va_up ans g (5 * bl + wt)) (va_up dbt g false) u_433 ply hps u_424) H := hP
                replace hD : va_D A (WX ad cI cZ c (g + 1) hid (va_up code g cd) (va_up ans g (5 * bl + wt)) (va_up dbt g false) u_433 ply hps u_424) := hD
                refine x_ti (y := nI (cN (opS c (g + 1) (va_up code g cd) (va_up ans g (5 * bl + wt)) (va_up dbt g false)) 81)) (hw_433.1) ?_
                refine lv_aload_n hx hb dL_act_436 rfl (lv_at hl 5 rfl) ?_
                refine lv_iload hx hb dL_act_437 (lv_at hl 2 rfl) ?_
                refine lv_iconst (v := nI (1)) hx hb dL_act_439 (by decide) ?_
                refine lv_iadd hx hb dL_act_440 ?_
                refine x_ti (nI_add _ _) ?_
                refine va_callr (va_runV (As := [.int (nI (g + 1))]) (rest := [.int (nI (cN (opS c (g + 1) (va_up code g cd) (va_up ans g (5 * bl + wt)) (va_up dbt g false)) 81))]) ⟨hx, hb, hml, hown, hts⟩ (c_X2_possible l D cI cZ cG cJ A (WX ad cI cZ c (g + 1) hid (va_up code g cd) (va_up ans g (5 * bl + wt)) (va_up dbt g false) u_433 ply hps u_424) so c hid (g + 1) (va_up code g cd) (va_up ans g ((5 * bl) + wt)) (va_up dbt g false) (g + 1) (hc) ((SimAt.WX ⟨_, _, _, _, _, _, hF⟩)) (by omega) (by omega) (code_up hco h_cd (by omega))) (cwV 1 hts gL_act_X2_possible rfl rfl rfl (by decide +kernel) ⟨Nat.le_of_ble_eq_true rfl, Nat.le_of_ble_eq_true rfl⟩) (preV (ci := 2) (q0 := ks424 + 7) hB hS hP hD (atWX hF.1) rfl) rfl rfl hl.1 rfl (lv_room (Nat.le_of_ble_eq_true rfl)) dL_act_441 ⟨by show _ ≤ 2120; omega, by show _ ≤ 8600; omega⟩) hS (fun q _ h => h) (fun q h => h) (fun u_441 a9 t9 H1 locs1 ht9 hvm9 hw_441 hBw hz9 hk9 hS => ?_)
                obtain ⟨rfl, hP, hD⟩ := hBw
                rw [ht9] at hP
                generalize H1 = H at hP hS ⊢
                generalize locs1 = locs at hS ⊢
                replace hP := P_perm permWX hP
                replace hD := D_perm permWX hD
                replace hpal := hpal.cons (u_441.2, .inl (cZ, qq c, .inl (fun j => bI (u_441.1 j))))
                replace hF := hF.emb (Emb.cons (u_441.2, .inl (cZ, qq c, .inl (fun j => bI (u_441.1 j)))) _)
                replace hP : va_P D vwCl (WX ad cI cZ c (g + 1) hid (va_up code g cd) (va_up ans g (5 * bl + wt)) (va_up dbt g false) u_433 ply hps ((u_441.2, .inl (cZ, qq c, .inl (fun j => bI (u_441.1 j)))) :: u_424)) H := hP
                replace hD : va_D A (WX ad cI cZ c (g + 1) hid (va_up code g cd) (va_up ans g (5 * bl + wt)) (va_up dbt g false) u_433 ply hps ((u_441.2, .inl (cZ, qq c, .inl (fun j => bI (u_441.1 j)))) :: u_424)) := hD
                refine x_csi (va_runS (As := [.ref (u_441.2)]) (rest := [.int (nI (cN (opS c (g + 1) (va_up code g cd) (va_up ans g (5 * bl + wt)) (va_up dbt g false)) 81))]) ⟨hx, hb, hml, hown, hts⟩ (c_X2_many l D cI cZ cG cJ A (WX ad cI cZ c (g + 1) hid (va_up code g cd) (va_up ans g (5 * bl + wt)) (va_up dbt g false) u_433 ply hps ((u_441.2, .inl (cZ, qq c, .inl (fun j => bI (u_441.1 j)))) :: u_424)) u_441.2 7 (qq c) u_441.1 (rfl) (by omega)) (va_cwS 1 hts gL_act_X2_many rfl rfl rfl (by decide +kernel) ⟨Nat.le_of_ble_eq_true rfl, Nat.le_of_ble_eq_true rfl⟩) (preS hB hS hP hD) rfl rfl hl.1 rfl (lv_room (Nat.le_of_ble_eq_true rfl)) dL_act_444 ⟨by show _ ≤ 2120; omega, by show _ ≤ 8600; omega⟩) ?_
                refine x_ti (y := nI (cN (opS c (g + 1) (va_up code g cd) (va_up ans g ((5 * bl) + wt)) (va_up dbt g false)) 81)) (by rw [many_op (by omega) hw_441]) ?_
                refine x_ne (tgt := 454) hx hb dL_act_447 (by decide) (Nat.lt_of_le_of_lt (cN_le _ _) (by decide)) (Nat.lt_of_le_of_lt (cN_le _ _) (by decide)) (fun c447 => absurd c447 (fun q => q rfl)) (fun c447 => ?_)
                refine lv_iconst (v := bI (true)) hx hb dL_act_450 (by decide) ?_
                refine lv_goto (tgt := 455) hx hb dL_act_451 (by decide) ?_
                refine W.widen (k := 2120) (n := 8600) (by omega) (by omega) ?_
                exact W.zret (v := bI (true)) hx hb hr (bI_narrow _) (fun t ht hW => ⟨⟨_, (c, (g + 1), hid, (va_up code g cd), (va_up ans g (5 * bl + wt)), (va_up dbt g false), u_433, ply, hps, ((u_441.2, .inl (cZ, qq c, .inl (fun j => bI (u_441.1 j)))) :: u_424)), rfl, (by
                    exact ⟨rfl, hpal, ⟨hc, (show g + 1 ≤ 12 by omega), code_up hco h_cd (by omega), hhid, hw_433.2⟩, ⟨_, _, _, _, _, _, hF⟩, hA5.up (by omega)⟩), ⟨by rw [ht]; exact hP, hD⟩⟩, hS.F ht⟩) hS.2.2 dL_act_455
              · skip
                refine lv_iconst (v := bI (true)) hx hb dL_act_413 (by decide) ?_
                refine W.widen (k := 2120) (n := 8600) (by omega) (by omega) ?_
                exact W.zret (v := bI (true)) hx hb hr (bI_narrow _) (fun t ht hW => ⟨⟨_, (c, g, hid, code, ans, dbt, opn, ply, hps, wr), rfl, (by
                    exact ⟨rfl, hpal, hI, hS0, hA5⟩), ⟨by rw [ht]; exact hP, hD⟩⟩, hS.F ht⟩) hS.2.2 dL_act_414
            · skip
              refine x_ne (tgt := 393) hx hb dL_act_386 (by decide) (by omega) (by omega) (fun c386 => ?_) (fun c386 => ?_)
              · skip
                refine lv_iload_n hx hb dL_act_393 rfl (lv_at hl 5 rfl) ?_
                refine lv_bipush (v := nI (8)) hx hb dL_act_394 (by decide) ?_
                refine lv_ishr hx hb dL_act_396 ?_
                refine lv_iconst (v := nI (5)) hx hb dL_act_397 (by decide) ?_
                refine lv_iload hx hb dL_act_398 (lv_at hl 0 rfl) ?_
                refine lv_isub hx hb dL_act_400 ?_
                refine x_ti (pk_sub (by omega)) ?_
                refine x_csi (va_runS (As := [.int ((x) >>> ((nI (8)) &&& 31)), .int (nI (5 - bl))]) (rest := []) ⟨hx, hb, hml, hown, hts⟩ (c_L_below l D cI cZ cG cJ A (WX ad cI cZ c g hid code ans dbt opn ply hps wr) ((x) >>> ((nI (8)) &&& 31)) (5 - bl) (by omega) (by omega)) (va_cwS 2 hts gL_act_L_below rfl rfl rfl (by decide +kernel) ⟨Nat.le_of_ble_eq_true rfl, Nat.le_of_ble_eq_true rfl⟩) (preS hB hS hP hD) rfl rfl hl.1 rfl (lv_room (Nat.le_of_ble_eq_true rfl)) dL_act_401 ⟨by show _ ≤ 2120; omega, by show _ ≤ 8600; omega⟩) ?_
                obtain ⟨wq, e_wq⟩ : ∃ q : Nat, q = bw ((x) >>> ((nI (8)) &&& 31)) (5 - bl) := ⟨_, rfl⟩
                have h_wq : wq < 5 - bl := by rw [e_wq]; exact bw_lt _ (by omega)
                refine x_ti (y := nI (wq)) (by rw [e_wq]) ?_
                refine x_ti (y := nI (wt)) (by first | rw [hwt1 c386] | rw [hwt2 c386, e_wq]) ?_
                exact hj404
              · skip
                refine lv_iconst (v := nI (0)) hx hb dL_act_389 (by decide) ?_
                refine lv_goto (tgt := 404) hx hb dL_act_390 (by decide) ?_
                refine x_ti (y := nI (wt)) (by first | rw [hwt1 c386] | rw [hwt2 c386, e_wq]) ?_
                exact hj404
          · refine x_ti (y := nI 8) hwj ?_
            refine lv_tableIn (tgt := 456) (off := 432) hx hb dL_act_24 (by decide) (by decide) rfl (by decide) ?_
            refine lv_iload hx hb dL_act_456 (lv_at hl 0 rfl) ?_
            refine lv_bipush (v := nI (12)) hx hb dL_act_458 (by decide) ?_
            refine x_eq (tgt := 471) hx hb dL_act_460 (by decide) (by omega) (by omega) (fun c460 => ?_) (fun c460 => ?_)
            · skip
              refine lv_iconst (v := bI (true)) hx hb dL_act_471 (by decide) ?_
              refine W.widen (k := 2120) (n := 8600) (by omega) (by omega) ?_
              exact W.zret (v := bI (true)) hx hb hr (bI_narrow _) (fun t ht hW => ⟨⟨_, (c, g, hid, code, ans, dbt, opn, ply, hps, wr), rfl, (by
                  exact ⟨rfl, hpal, hI, hS0, hA5⟩), ⟨by rw [ht]; exact hP, hD⟩⟩, hS.F ht⟩) hS.2.2 dL_act_472
            · skip
              refine lv_aload_n hx hb dL_act_463 rfl (lv_at hl 2 rfl) ?_
              refine lv_iconst (v := nI (3)) hx hb dL_act_464 (by decide) ?_
              refine x_csi (va_runV (As := [.int (nI (3))]) (rest := []) ⟨hx, hb, hml, hown, hts⟩ (c_X1_countP l D cI cZ cG cJ A ad wr hpal c g hid code ans dbt opn ply hps 3 (hI) (by decide)) (cwV 1 hts gL_act_X1_count rfl rfl rfl (by decide +kernel) ⟨Nat.le_of_ble_eq_true rfl, Nat.le_of_ble_eq_true rfl⟩) (preV (ci := 1) (q0 := 0) hB hS hP hD rfl rfl) rfl rfl hl.1 rfl (lv_room (Nat.le_of_ble_eq_true rfl)) dL_act_465 ⟨by show _ ≤ 2120; omega, by show _ ≤ 8600; omega⟩) ?_
              refine x_ti (y := nI (cN (opS c g code ans dbt) 81)) (rfl) ?_
              refine x_ne0 (tgt := 473) hx hb dL_act_468 (by decide) (Nat.lt_of_le_of_lt (cN_le _ _) (by decide)) (fun c468 => ?_) (fun c468 => ?_)
              · skip
                refine lv_aload_n hx hb dL_act_473 rfl (lv_at hl 2 rfl) ?_
                refine lv_iload_n hx hb dL_act_474 rfl (lv_at hl 4 rfl) ?_
                refine lv_bipush (v := nI (8)) hx hb dL_act_475 (by decide) ?_
                refine lv_ishr hx hb dL_act_477 ?_
                refine lv_aload_n hx hb dL_act_478 rfl (lv_at hl 2 rfl) ?_
                refine lv_iconst (v := nI (3)) hx hb dL_act_479 (by decide) ?_
                refine x_csi (va_runV (As := [.int (nI (3))]) (rest := [.int ((x) >>> ((nI (8)) &&& 31)), .ref (ad 0)]) ⟨hx, hb, hml, hown, hts⟩ (c_X1_countP l D cI cZ cG cJ A ad wr hpal c g hid code ans dbt opn ply hps 3 (hI) (by decide)) (cwV 1 hts gL_act_X1_count rfl rfl rfl (by decide +kernel) ⟨Nat.le_of_ble_eq_true rfl, Nat.le_of_ble_eq_true rfl⟩) (preV (ci := 1) (q0 := 0) hB hS hP hD rfl rfl) rfl rfl hl.1 rfl (lv_room (Nat.le_of_ble_eq_true rfl)) dL_act_480 ⟨by show _ ≤ 2120; omega, by show _ ≤ 8600; omega⟩) ?_
                refine x_ti (y := nI (cN (opS c g code ans dbt) 81)) (rfl) ?_
                refine x_csi (va_runS (As := [.int ((x) >>> ((nI (8)) &&& 31)), .int (nI (cN (opS c g code ans dbt) 81))]) (rest := [.ref (ad 0)]) ⟨hx, hb, hml, hown, hts⟩ (c_L_below l D cI cZ cG cJ A (WX ad cI cZ c g hid code ans dbt opn ply hps wr) ((x) >>> ((nI (8)) &&& 31)) (cN (opS c g code ans dbt) 81) (by exact c468) (Nat.lt_of_le_of_lt (cN_le _ _) (by decide))) (va_cwS 2 hts gL_act_L_below rfl rfl rfl (by decide +kernel) ⟨Nat.le_of_ble_eq_true rfl, Nat.le_of_ble_eq_true rfl⟩) (preS hB hS hP hD) rfl rfl hl.1 rfl (lv_room (Nat.le_of_ble_eq_true rfl)) dL_act_483 ⟨by show _ ≤ 2120; omega, by show _ ≤ 8600; omega⟩) ?_
                obtain ⟨jj, e_jj⟩ : ∃ q : Nat, q = bw ((x) >>> ((nI (8)) &&& 31)) (cN (opS c g code ans dbt) 81) := ⟨_, rfl⟩
                have h_jj : jj < cN (opS c g code ans dbt) 81 := by rw [e_jj]; exact bw_lt _ (by exact c468)
                obtain ⟨kk, hk81, hks, hkj⟩ := cN_nth h_jj
                have hkq := op_lt2 hks
                refine x_ti (y := nI (jj)) (by rw [e_jj]) ?_
                refine x_csi (va_runV (As := [.int (nI (jj))]) (rest := []) ⟨hx, hb, hml, hown, hts⟩ (c_X1_possibleP l D cI cZ cG cJ A ad wr hpal c g hid code ans dbt opn ply hps jj kk (hI) (hk81) (hks) (hkj)) (cwV 1 hts gL_act_X1_possible rfl rfl rfl (by decide +kernel) ⟨Nat.le_of_ble_eq_true rfl, Nat.le_of_ble_eq_true rfl⟩) (preV (ci := 1) (q0 := 0) hB hS hP hD rfl rfl) rfl rfl hl.1 rfl (lv_room (Nat.le_of_ble_eq_true rfl)) dL_act_486 ⟨by show _ ≤ 2120; omega, by show _ ≤ 8600; omega⟩) ?_
                refine lv_istore (lv' := [(5, .int (nI (kk))), (4, .int (nI (g))), (3, .int (nI (cd))), (0, .ref (ad 0)), (1, .ref (so)), (2, .int (x))]) hx hb dL_act_489 hl (by decide) rfl (fun ls hl => ?_)
                refine lv_aload_n hx hb dL_act_491 rfl (lv_at hl 4 rfl) ?_
                refine lv_iload_n hx hb dL_act_492 rfl (lv_at hl 2 rfl) ?_
                refine lv_iload hx hb dL_act_493 (lv_at hl 0 rfl) ?_
                refine va_calli (va_runV (As := [.int (nI (cd)), .int (nI (kk))]) (rest := []) ⟨hx, hb, hml, hown, hts⟩ (c_X2_pins l D cI cZ cG cJ A (WX ad cI cZ c g hid code ans dbt opn ply hps wr) so c hid g code ans dbt cd kk (hc) ((SimAt.WX ⟨_, _, _, _, _, _, hF⟩)) (h_cd) (hkq)) (cwV 2 hts gL_act_X2_pins rfl rfl rfl (by decide +kernel) ⟨Nat.le_of_ble_eq_true rfl, Nat.le_of_ble_eq_true rfl⟩) (preV (ci := 2) (q0 := ks + 7) hB hS hP hD (atWX hF.1) rfl) rfl rfl hl.1 rfl (lv_room (Nat.le_of_ble_eq_true rfl)) dL_act_495 ⟨by show _ ≤ 2120; omega, by show _ ≤ 8600; omega⟩) hS (fun q _ h => h) (fun q h => h) (fun r_495 u_495 t9 H1 locs1 ht9 hvm9 hw_495 hBw hz9 hk9 hS => ?_)
                obtain ⟨hP, hD⟩ := hBw
                rw [ht9] at hP
                generalize H1 = H at hP hS ⊢
                generalize locs1 = locs at hS ⊢
                replace hP : va_P D vwCl (WX ad cI cZ c g hid code ans dbt opn ply hps wr) H := hP
                replace hD : va_D A (WX ad cI cZ c g hid code ans dbt opn ply hps wr) := hD
                refine x_ti (y := nI (pins c cd kk)) (hw_495.1) ?_
                have hpi := pins_le hc h_cd hkq
                have hpt := pin_tab hc h_cd hkq
                refine lv_istore (lv' := [(6, .int (nI (pins c cd kk))), (5, .int (nI (kk))), (4, .int (nI (g))), (3, .int (nI (cd))), (0, .ref (ad 0)), (1, .ref (so)), (2, .int (x))]) hx hb dL_act_498 hl (by decide) rfl (fun ls hl => ?_)
                refine lv_aload_n hx hb dL_act_500 rfl (lv_at hl 5 rfl) ?_
                refine lv_iload_n hx hb dL_act_501 rfl (lv_at hl 3 rfl) ?_
                refine lv_iload hx hb dL_act_502 (lv_at hl 0 rfl) ?_
                refine va_callv (va_runS (As := [.ref (so), .int (nI (cd)), .int (nI (pins c cd kk))]) (rest := []) ⟨hx, hb, hml, hown, hts⟩ (c_L_add l D cI cZ cG cJ A ad so c g hid code ans dbt opn ply hps wr c hid g code ans dbt cd (pins c cd kk) (hpal) (⟨_, _, _, _, _, _, hF⟩) (by omega)) (va_cwS 3 hts gL_act_L_add rfl rfl rfl (by decide +kernel) ⟨Nat.le_of_ble_eq_true rfl, Nat.le_of_ble_eq_true rfl⟩) (preS hB hS hP hD) rfl rfl hl.1 rfl (lv_room (Nat.le_of_ble_eq_true rfl)) dL_act_504 ⟨by show _ ≤ 2120; omega, by show _ ≤ 8600; omega⟩) hS (fun q _ h => h) (fun q h => h) (fun u_504 t9 H1 locs1 ht9 hvm9 hw_504 hBw hz9 hk9 hS => ?_)
                obtain ⟨hP, hD⟩ := hBw
                rw [ht9] at hP
                generalize H1 = H at hP hS ⊢
                generalize locs1 = locs at hS ⊢
                replace hP : va_P D vwCl (WX ad cI cZ c g hid code ans dbt opn ply hps u_504) H := hP
                replace hD : va_D A (WX ad cI cZ c g hid code ans dbt opn ply hps u_504) := hD
                obtain ⟨hpal, ga504, ks504, kg504, ra504, kr504, M504, hF⟩ := hw_504
                refine lv_aload_n hx hb dL_act_507 rfl (lv_at hl 4 rfl) ?_
                refine lv_iload_n hx hb dL_act_508 rfl (lv_at hl 3 rfl) ?_
                refine lv_iload hx hb dL_act_509 (lv_at hl 0 rfl) ?_
                refine lv_iconst (v := nI (5)) hx hb dL_act_511 (by decide) ?_
                refine lv_idiv hx hb dL_act_512 (nI_ne0 (by omega) (by omega)) ?_
                refine x_ti (pk_div (by omega) (by omega) (by omega)) ?_
                refine lv_iload hx hb dL_act_513 (lv_at hl 0 rfl) ?_
                refine lv_iconst (v := nI (5)) hx hb dL_act_515 (by decide) ?_
                refine lv_irem hx hb dL_act_516 (nI_ne0 (by omega) (by omega)) ?_
                refine x_ti (pk_rem (by omega) (by omega) (by omega)) ?_
                refine va_calli (va_runV (As := [.int (nI (cd)), .int (nI ((pins c cd kk) / 5)), .int (nI ((pins c cd kk) % 5))]) (rest := []) ⟨hx, hb, hml, hown, hts⟩ (c_X1_tellP l D cI cZ cG cJ A ad u_504 hpal c g hid code ans dbt opn ply hps cd ((pins c cd kk) / 5) ((pins c cd kk) % 5) (hI) (h_cd) (hpt.1) (hpt.2) (by omega)) (cwV 3 hts gL_act_X1_tell rfl rfl rfl (by decide +kernel) ⟨Nat.le_of_ble_eq_true rfl, Nat.le_of_ble_eq_true rfl⟩) (preV (ci := 1) (q0 := 0) hB hS hP hD rfl rfl) rfl rfl hl.1 rfl (lv_room (Nat.le_of_ble_eq_true rfl)) dL_act_517 ⟨by show _ ≤ 2120; omega, by show _ ≤ 8600; omega⟩) hS (fun q _ h => h) (fun q h => h) (fun r_517 u_517 t9 H1 locs1 ht9 hvm9 hw_517 hBw hz9 hk9 hS => ?_)
                obtain ⟨hP, hD⟩ := hBw
                rw [ht9] at hP
                generalize H1 = H at hP hS ⊢
                generalize locs1 = locs at hS ⊢
                have h517 := hw_517
                rw [Nat.div_add_mod] at hP hD h517
                replace hP : va_P D vwCl (WX ad cI cZ c (g + 1) hid (va_up code g cd) (va_up ans g (pins c cd kk)) (va_up dbt g false) u_517 ply hps u_504) H := hP
                replace hD : va_D A (WX ad cI cZ c (g + 1) hid (va_up code g cd) (va_up ans g (pins c cd kk)) (va_up dbt g false) u_517 ply hps u_504) := hD
                refine x_ti (y := nI (cN (opS c (g + 1) (va_up code g cd) (va_up ans g (5 * ((pins c cd kk) / 5) + ((pins c cd kk) % 5))) (va_up dbt g false)) 81)) (hw_517.1) ?_
                refine x_ti (y := nI (cN (opS c (g + 1) (va_up code g cd) (va_up ans g (pins c cd kk)) (va_up dbt g false)) 81)) (by rw [Nat.div_add_mod]) ?_
                refine lv_aload_n hx hb dL_act_520 rfl (lv_at hl 5 rfl) ?_
                refine lv_iload hx hb dL_act_521 (lv_at hl 2 rfl) ?_
                refine lv_iconst (v := nI (1)) hx hb dL_act_523 (by decide) ?_
                refine lv_iadd hx hb dL_act_524 ?_
                refine x_ti (nI_add _ _) ?_
                refine va_callr (va_runV (As := [.int (nI (g + 1))]) (rest := [.int (nI (cN (opS c (g + 1) (va_up code g cd) (va_up ans g (pins c cd kk)) (va_up dbt g false)) 81))]) ⟨hx, hb, hml, hown, hts⟩ (c_X2_possible l D cI cZ cG cJ A (WX ad cI cZ c (g + 1) hid (va_up code g cd) (va_up ans g (pins c cd kk)) (va_up dbt g false) u_517 ply hps u_504) so c hid (g + 1) (va_up code g cd) (va_up ans g (pins c cd kk)) (va_up dbt g false) (g + 1) (hc) ((SimAt.WX ⟨_, _, _, _, _, _, hF⟩)) (by omega) (by omega) (code_up hco h_cd (by omega))) (cwV 1 hts gL_act_X2_possible rfl rfl rfl (by decide +kernel) ⟨Nat.le_of_ble_eq_true rfl, Nat.le_of_ble_eq_true rfl⟩) (preV (ci := 2) (q0 := ks504 + 7) hB hS hP hD (atWX hF.1) rfl) rfl rfl hl.1 rfl (lv_room (Nat.le_of_ble_eq_true rfl)) dL_act_525 ⟨by show _ ≤ 2120; omega, by show _ ≤ 8600; omega⟩) hS (fun q _ h => h) (fun q h => h) (fun u_525 a9 t9 H1 locs1 ht9 hvm9 hw_525 hBw hz9 hk9 hS => ?_)
                obtain ⟨rfl, hP, hD⟩ := hBw
                rw [ht9] at hP
                generalize H1 = H at hP hS ⊢
                generalize locs1 = locs at hS ⊢
                replace hP := P_perm permWX hP
                replace hD := D_perm permWX hD
                replace hpal := hpal.cons (u_525.2, .inl (cZ, qq c, .inl (fun j => bI (u_525.1 j))))
                replace hF := hF.emb (Emb.cons (u_525.2, .inl (cZ, qq c, .inl (fun j => bI (u_525.1 j)))) _)
                replace hP : va_P D vwCl (WX ad cI cZ c (g + 1) hid (va_up code g cd) (va_up ans g (pins c cd kk)) (va_up dbt g false) u_517 ply hps ((u_525.2, .inl (cZ, qq c, .inl (fun j => bI (u_525.1 j)))) :: u_504)) H := hP
                replace hD : va_D A (WX ad cI cZ c (g + 1) hid (va_up code g cd) (va_up ans g (pins c cd kk)) (va_up dbt g false) u_517 ply hps ((u_525.2, .inl (cZ, qq c, .inl (fun j => bI (u_525.1 j)))) :: u_504)) := hD
                refine x_csi (va_runS (As := [.ref (u_525.2)]) (rest := [.int (nI (cN (opS c (g + 1) (va_up code g cd) (va_up ans g (pins c cd kk)) (va_up dbt g false)) 81))]) ⟨hx, hb, hml, hown, hts⟩ (c_X2_many l D cI cZ cG cJ A (WX ad cI cZ c (g + 1) hid (va_up code g cd) (va_up ans g (pins c cd kk)) (va_up dbt g false) u_517 ply hps ((u_525.2, .inl (cZ, qq c, .inl (fun j => bI (u_525.1 j)))) :: u_504)) u_525.2 7 (qq c) u_525.1 (rfl) (by omega)) (va_cwS 1 hts gL_act_X2_many rfl rfl rfl (by decide +kernel) ⟨Nat.le_of_ble_eq_true rfl, Nat.le_of_ble_eq_true rfl⟩) (preS hB hS hP hD) rfl rfl hl.1 rfl (lv_room (Nat.le_of_ble_eq_true rfl)) dL_act_528 ⟨by show _ ≤ 2120; omega, by show _ ≤ 8600; omega⟩) ?_
                refine x_ti (y := nI (cN (opS c (g + 1) (va_up code g cd) (va_up ans g (pins c cd kk)) (va_up dbt g false)) 81)) (by rw [many_op (by omega) hw_525]) ?_
                refine x_ne (tgt := 538) hx hb dL_act_531 (by decide) (Nat.lt_of_le_of_lt (cN_le _ _) (by decide)) (Nat.lt_of_le_of_lt (cN_le _ _) (by decide)) (fun c531 => absurd c531 (fun q => q rfl)) (fun c531 => ?_)
                refine lv_iconst (v := bI (true)) hx hb dL_act_534 (by decide) ?_
                refine lv_goto (tgt := 539) hx hb dL_act_535 (by decide) ?_
                refine W.widen (k := 2120) (n := 8600) (by omega) (by omega) ?_
                exact W.zret (v := bI (true)) hx hb hr (bI_narrow _) (fun t ht hW => ⟨⟨_, (c, (g + 1), hid, (va_up code g cd), (va_up ans g (pins c cd kk)), (va_up dbt g false), u_517, ply, hps, ((u_525.2, .inl (cZ, qq c, .inl (fun j => bI (u_525.1 j)))) :: u_504)), rfl, (by
                    exact ⟨rfl, hpal, ⟨hc, (show g + 1 ≤ 12 by omega), code_up hco h_cd (by omega), hhid, h517.2⟩, ⟨_, _, _, _, _, _, hF⟩, hA5.up hpt.1⟩), ⟨by rw [ht]; exact hP, hD⟩⟩, hS.F ht⟩) hS.2.2 dL_act_539
              · skip
                refine lv_iconst (v := bI (true)) hx hb dL_act_471 (by decide) ?_
                refine W.widen (k := 2120) (n := 8600) (by omega) (by omega) ?_
                exact W.zret (v := bI (true)) hx hb hr (bI_narrow _) (fun t ht hW => ⟨⟨_, (c, g, hid, code, ans, dbt, opn, ply, hps, wr), rfl, (by
                    exact ⟨rfl, hpal, hI, hS0, hA5⟩), ⟨by rw [ht]; exact hP, hD⟩⟩, hS.F ht⟩) hS.2.2 dL_act_472
          · refine x_ti (y := nI 9) hwj ?_
            refine lv_tableIn (tgt := 540) (off := 516) hx hb dL_act_24 (by decide) (by decide) rfl (by decide) ?_
            exact hj540
          · refine x_ti (y := nI 10) hwj ?_
            refine lv_tableIn (tgt := 540) (off := 516) hx hb dL_act_24 (by decide) (by decide) rfl (by decide) ?_
            exact hj540

set_option maxHeartbeats 4000000 in
set_option maxRecDepth 100000 in
theorem c_L_build (l : Launch) (hfl : l.flags = flags0) (D : va_G) (cI cZ cG cJ : ClassId) (A : Nat → Prop) (ad : Nat → Nat) (code : Nat → Nat) (ans : Nat → Nat) (dbt : Nat → Bool) (opn : Nat → Bool) (ply : Nat → Bool) (hps : Nat → Nat) (wr : va_W) (b : Nat) (L : Nat) (xs : Nat → Int32) (hpal : Pals cI cG ad wr) (hI : XI 3 0 (-1) code ans dbt opn) (hL : L ≤ 260) : Met l yL_build wsL_build ({ frames := 9, cells := 29684, slots := 120410, locals := 161 }) (va_Pc [.ref (ad 0), .ref (b)] (IvX D (TY cI cZ cG cJ) A (WX ad cI cZ 3 0 (-1) code ans dbt opn ply hps wr) b L xs)) (va_Qr (fun (u : LSt × Nat) => LG cI cG ad u.2 u.1) (fun u a9 t9 => a9 = u.2 ∧ Wd D A (WL ad cI cZ u.1) t9) A) 29684 120410 A := by
  refine Met.ofW (cc := cL_build) (maxL := 4) (ret := (some (.object "HiddenCandlesLaw$Sim"))) (by decide) rfl ?_
  intro p e s m args below meth c9 s₁ B hml hv
  obtain ⟨rfl, ⟨hP, hD, hB⟩, hX, hbl, hbA⟩ := hv
  have hK := hB.1
  have hA := hB.2.1
  have hx := B.exec
  have hb := B.bytes
  have hr := B.returns
  have hts := atoms_spec (ws := wsL_build) B.pre
  have hown : s.vm.findClass RL = some m.cls := findClass_of_methodNamed B.named
  have hlocks := B.notSynchronized
  have hS : va_S A s.heap s.heap [] := va_S.rf
  have hinX2 : ∀ w ∈ wsX20, w ∈ wsL_build := by decide +kernel
  have hl := lv_entry ([.ref (ad 0), .ref (b)]) (n := 4) (Nat.le_of_ble_eq_true rfl)
  rw [lg_entry_eq]
  generalize (lg_sl ([.ref (ad 0), .ref (b)]) ++ List.replicate (4 - (lg_sl ([.ref (ad 0), .ref (b)])).length) Slot.unset).toArray = ls at hl ⊢
  have hl : lv_has ls 4 [(0, .ref (ad 0)), (1, .ref (b))] := hl
  obtain ⟨H, eH⟩ : ∃ q, q = s.heap := ⟨_, rfl⟩
  obtain ⟨locs, eL⟩ : ∃ q : List Loc, q = [] := ⟨_, rfl⟩
  replace hP : va_P D vwCl (WX ad cI cZ 3 0 (-1) code ans dbt opn ply hps wr) H := by rw [eH]; exact hP
  replace hS : va_S A s.heap H locs := by rw [eH, eL]; exact hS
  rw [show W p l e _ s m _ below meth c9 s.heap [] = W p l e _ s m _ below meth c9 H locs from by rw [eH, eL]]
  clear eH eL
  refine va_new (D := D) (ci := 2) (fs := [.int 0, .int 0, .null]) (C := RX2) (T := TX2) (N := 3) hx hb hts hinX2 tyX2 tyX2_ok hown (hts (.classLink RL 10 RX2) (by decide +kernel)) (hts (.instantiable RX2 3) (by decide +kernel)) (hts (.initialized RX2) (by decide +kernel)) hK hP hD hS hA rfl (fun j hj => by rcases (show j = 0 ∨ j = 1 ∨ j = 2 by omega) with rfl | rfl | rfl <;> rfl) (by show _ ≤ 29684; omega) (by show _ ≤ 120410; omega) dL_build_0 (fun so H2 hP2 hD2 hS2 => ?_)
  clear hP hD hS
  generalize H2 = H at hP2 hS2 ⊢
  have hP := hP2; have hD := hD2; have hS := hS2
  clear hP2 hD2 hS2
  replace hP := P_perm List.perm_append_comm hP
  replace hD := D_perm List.perm_append_comm hD
  replace hP : va_P D vwCl (((so, .inr (2, [.int 0, .int 0, .null])) :: WX ad cI cZ 3 0 (-1) code ans dbt opn ply hps wr)) H := hP
  replace hD : va_D A (((so, .inr (2, [.int 0, .int 0, .null])) :: WX ad cI cZ 3 0 (-1) code ans dbt opn ply hps wr)) := hD
  refine lv_dup hx hb dL_build_3 rfl ?_
  refine va_callv (va_runIN (As := []) (rest := [.ref (so)]) ⟨hx, hb, hml, hown, hts⟩ (c_X2_init l D cI cZ cG cJ A so (WX ad cI cZ 3 0 (-1) code ans dbt opn ply hps wr) ) ⟨va_cnB (host := RL) 0 hts gL_build_X2_init_n90 rfl rfl rfl (hB.2.2.2.2.1 _ (by simp [Nws])) (hts _ (by decide +kernel)) (by decide +kernel) ⟨Nat.le_of_ble_eq_true rfl, Nat.le_of_ble_eq_true rfl⟩, rfl, hts _ (by decide +kernel)⟩ (preS hB hS hP hD) rfl rfl hl.1 rfl (lv_room (Nat.le_of_ble_eq_true rfl)) dL_build_4 ⟨by show _ ≤ 29684; omega, by show _ ≤ 120410; omega⟩) hS (fun q _ h => h) (fun q h => h) (fun u_4 t9 H1 locs1 ht9 hvm9 hw_4 hBw hz9 hk9 hS => ?_)
  obtain ⟨hP, hD⟩ := hBw
  rw [ht9] at hP
  generalize H1 = H at hP hS ⊢
  generalize locs1 = locs at hS ⊢
  replace hP := P_perm permWX2 hP
  replace hD := D_perm permWX2 hD
  replace hP : va_P D vwCl (WX ad cI cZ 3 0 (-1) code ans dbt opn ply hps ((u_4, PartC cG 0 0 (fun _ => 0)) :: (so, .inr (2, [.int (nI 3), .int (-1), .ref u_4])) :: wr)) H := hP
  replace hD : va_D A (WX ad cI cZ 3 0 (-1) code ans dbt opn ply hps ((u_4, PartC cG 0 0 (fun _ => 0)) :: (so, .inr (2, [.int (nI 3), .int (-1), .ref u_4])) :: wr)) := hD
  refine lv_astore_n (lv' := [(2, .ref (so)), (0, .ref (ad 0)), (1, .ref (b))]) hx hb dL_build_7 rfl hl (by decide) rfl (fun ls hl => ?_)
  refine lv_iconst (v := nI (0)) hx hb dL_build_8 (by decide) ?_
  refine lv_istore_n (lv' := [(3, .int (nI (0))), (2, .ref (so)), (0, .ref (ad 0)), (1, .ref (b))]) hx hb dL_build_9 rfl hl (by decide) rfl (fun ls hl => ?_)
  obtain ⟨nc, hnc⟩ : ∃ q : Nat, q = 2 := ⟨_, rfl⟩
  obtain ⟨ns, hns⟩ : ∃ q : Nat, q = 3 := ⟨_, rfl⟩
  refine W.widen (k := nc) (n := ns) (by omega) (by omega) ?_
  -- loop at 10
  have hinv : 0 ≤ 14 ∧ LG cI cG ad so (3, 0, (-1), code, ans, dbt, opn, ply, hps, ((u_4, PartC cG 0 0 (fun _ => 0)) :: (so, .inr (2, [.int (nI 3), .int (-1), .ref u_4])) :: wr)) ∧ nc ≤ 2 + 2120 * 0 ∧ ns ≤ 3 + 8600 * 0 := by
    exact ⟨Nat.zero_le _, ⟨(hpal.cons _).cons _, hI, ⟨u_4, 1, 0, fun _ => 0, fun _ => 0, fun _ _ => 0, rfl, rfl, fun i hi => absurd hi (Nat.not_lt_zero _), fun i j hi => absurd hi (Nat.not_lt_zero _), fun i hi => absurd hi (Nat.not_lt_zero _)⟩, fun i hi => absurd hi (Nat.not_lt_zero _)⟩, by omega, by omega⟩
  obtain ⟨k, c, g, hid, code, ans, dbt, opn, ply, hps, wr, hq9⟩ : ∃ (k : Nat) (c : Nat) (g : Nat) (hid : Int32) (code : Nat → Nat) (ans : Nat → Nat) (dbt : Nat → Bool) (opn : Nat → Bool) (ply : Nat → Bool) (hps : Nat → Nat) (wr : va_W), lv_has ls 4 [(0, .ref (ad 0)), (1, .ref (b)), (2, .ref (so)), (3, .int (nI (k)))] ∧ (k ≤ 14 ∧ LG cI cG ad so (c, g, hid, code, ans, dbt, opn, ply, hps, wr) ∧ nc ≤ 2 + 2120 * k ∧ ns ≤ 3 + 8600 * k) ∧ va_P D vwCl (WX ad cI cZ c g hid code ans dbt opn ply hps wr) H ∧ va_D A (WX ad cI cZ c g hid code ans dbt opn ply hps wr) := ⟨0, 3, 0, (-1), code, ans, dbt, opn, ply, hps, ((u_4, PartC cG 0 0 (fun _ => 0)) :: (so, .inr (2, [.int (nI 3), .int (-1), .ref u_4])) :: wr), lv_sub hl [2, 3, 1, 0] rfl, hinv, hP, hD⟩
  clear hl hinv hP hD
  obtain ⟨hl, hinv, hP, hD⟩ := hq9
  clear hnc hns hpal hI hw_4
  obtain ⟨n9_10, hn9⟩ : ∃ q : Nat, 14 - k < q := ⟨_, Nat.lt_succ_self _⟩
  induction n9_10 generalizing ls H locs nc ns k c g hid code ans dbt opn ply hps wr with
  | zero => exact absurd hn9 (Nat.not_lt_zero _)
  | succ n9_10 ih10 =>
    obtain ⟨h1, hG, h2, h3⟩ := hinv
    refine lv_iload_n hx hb dL_build_10 rfl (lv_at hl 3 rfl) ?_
    refine lv_bipush (v := nI (14)) hx hb dL_build_11 (by decide) ?_
    refine x_ge (tgt := 53) hx hb dL_build_13 (by decide) (by omega) (by omega) (fun c13 => ?_) (fun c13 => ?_)
    · skip
      refine lv_aload_n hx hb dL_build_53 rfl (lv_at hl 2 rfl) ?_
      refine W.widen (k := 29684) (n := 120410) (by omega) (by omega) ?_
      exact W.aret (v := .ref so) hx hb hr (by first | exact Or.inr ⟨_, rfl⟩ | exact Or.inl ⟨_, rfl⟩) (by first | exact Or.inr ⟨_, rfl⟩ | exact Or.inl ⟨_, rfl⟩) (fun t ht hW => ⟨⟨((c, g, hid, code, ans, dbt, opn, ply, hps, wr), so), so, rfl, (by
          exact hG), rfl, ⟨by rw [ht]; exact hP, hD⟩⟩, hS.F ht⟩) hS.2.2 dL_build_54
    · skip
      refine lv_aload_n hx hb dL_build_16 rfl (lv_at hl 0 rfl) ?_
      refine lv_aload_n hx hb dL_build_17 rfl (lv_at hl 2 rfl) ?_
      refine lv_aload_n hx hb dL_build_18 rfl (lv_at hl 1 rfl) ?_
      refine lv_iload_n hx hb dL_build_19 rfl (lv_at hl 3 rfl) ?_
      refine lv_bipush (v := nI (16)) hx hb dL_build_20 (by decide) ?_
      refine lv_irem hx hb dL_build_22 (nI_ne0 (by omega) (by omega)) ?_
      refine x_ti (pk_rem (by omega) (by omega) (by omega)) ?_
      refine x_csi (va_runS (As := [.ref (b), .int (nI (k % 16))]) (rest := [.ref (so), .ref (ad 0)]) ⟨hx, hb, hml, hown, hts⟩ (c_L_cell l D cI cZ cG cJ A (WX ad cI cZ c g hid code ans dbt opn ply hps wr) b L xs (k % 16) (hL) (by omega)) (va_cwS 2 hts gL_build_L_cell rfl rfl rfl (by decide +kernel) ⟨Nat.le_of_ble_eq_true rfl, Nat.le_of_ble_eq_true rfl⟩) (preSX hB hS hP hD hX hbl hbA) rfl rfl hl.1 rfl (lv_room (Nat.le_of_ble_eq_true rfl)) dL_build_23 ⟨by show _ ≤ 29684; omega, by show _ ≤ 120410; omega⟩) ?_
      refine lv_iload_n hx hb dL_build_26 rfl (lv_at hl 3 rfl) ?_
      refine lv_bipush (v := nI (16)) hx hb dL_build_27 (by decide) ?_
      refine lv_idiv hx hb dL_build_29 (nI_ne0 (by omega) (by omega)) ?_
      refine x_ti (pk_div (by omega) (by omega) (by omega)) ?_
      refine lv_iconst (v := nI (5)) hx hb dL_build_30 (by decide) ?_
      refine lv_imul hx hb dL_build_31 ?_
      refine x_ti (pk_mul _ _) ?_
      refine lv_ishr hx hb dL_build_32 ?_
      refine lv_sipush (v := nI (263)) hx hb dL_build_33 (by decide) ?_
      refine lv_iload_n hx hb dL_build_36 rfl (lv_at hl 3 rfl) ?_
      refine lv_imul hx hb dL_build_37 ?_
      refine x_ti (pk_mul _ _) ?_
      refine lv_iadd hx hb dL_build_38 ?_
      refine va_calli (vx_runSW (As := [.ref (ad 0), .ref (so), .int (((cel xs L (k % 16)) >>> ((nI ((k / 16) * 5)) &&& 31)) + (nI (263 * k)))]) (rest := []) ⟨hx, hb, hml, hown, hts⟩ (c_L_act l hfl D cI cZ cG cJ A ad so c g hid code ans dbt opn ply hps wr (((cel xs L (k % 16)) >>> ((nI ((k / 16) * 5)) &&& 31)) + (nI (263 * k))) (hG)) (vx_cwSW 3 hts gL_build_L_act rfl rfl rfl (by decide +kernel) ⟨Nat.le_of_ble_eq_true rfl, Nat.le_of_ble_eq_true rfl⟩) (preS hB hS hP hD) rfl rfl hl.1 rfl (lv_room (Nat.le_of_ble_eq_true rfl)) dL_build_39 ⟨by show _ ≤ 29684; omega, by show _ ≤ 120410; omega⟩) hS (fun q _ h => h) (fun q h => h) (fun r_39 u_39 t9 H1 locs1 ht9 hvm9 hw_39 hBw hz9 hk9 hS => ?_)
      obtain ⟨hP, hD⟩ := hBw
      rw [ht9] at hP
      generalize H1 = H at hP hS ⊢
      generalize locs1 = locs at hS ⊢
      obtain ⟨c2, g2, hid2, code2, ans2, dbt2, opn2, ply2, hps2, wr2⟩ := u_39
      have hG9 := hw_39.2
      replace hP : va_P D vwCl (WX ad cI cZ c2 g2 hid2 code2 ans2 dbt2 opn2 ply2 hps2 wr2) H := hP
      replace hD : va_D A (WX ad cI cZ c2 g2 hid2 code2 ans2 dbt2 opn2 ply2 hps2 wr2) := hD
      refine x_ti (y := bI (true)) (hw_39.1) ?_
      refine x_zne (tgt := 47) hx hb dL_build_42 (by decide) (fun c42 => ?_) (fun c42 => absurd c42 (by decide))
      refine lv_iinc (v := nI (k + 1)) (lv' := [(3, .int (nI (k + 1))), (0, .ref (ad 0)), (1, .ref (b)), (2, .ref (so))]) hx hb dL_build_47 hl (k := 3) rfl (nI_add _ _) (by decide) rfl (fun ls hl => ?_)
      refine lv_goto (tgt := 10) hx hb dL_build_50 (by decide) ?_
      exact ih10 (k := k + 1) (c := c2) (g := g2) (hid := hid2) (code := code2) (ans := ans2) (dbt := dbt2) (opn := opn2) (ply := ply2) (hps := hps2) (wr := wr2) (nc := _) (ns := _) (ls := ls) (hl := lv_sub hl [1, 2, 3, 0] rfl) (H := H) (locs := locs) (hP := hP) (hD := hD) (hS := hS) (hinv := by
          exact ⟨by omega, hG9, by omega, by omega⟩
        ) (hn9 := by
          omega
        )
