set_option maxHeartbeats 4000000 in
set_option maxRecDepth 100000 in
theorem c_X2_isSame (l : Launch) (D : va_G) (cI cZ cG cJ : ClassId) (A : Nat → Prop) (ad : Nat → Nat) (so : Nat) (c : Nat) (g : Nat) (hid : Int32) (code : Nat → Nat) (ans : Nat → Nat) (dbt : Nat → Bool) (opn : Nat → Bool) (ply : Nat → Bool) (hps : Nat → Nat) (wr : va_W) (hG : LG cI cG ad so (c, g, hid, code, ans, dbt, opn, ply, hps, wr)) : Met l yX2_isSame wsX2_isSame ({ frames := 5, cells := 32000, slots := 126000, locals := 111 }) (va_Pc [.ref (so), .ref (ad 0)] (Iv D (TY cI cZ cG cJ) A (WX ad cI cZ c g hid code ans dbt opn ply hps wr))) (va_Qi (fun r (u : Unit) => r = bI true ∧ True) (fun u => Wd D A (([] : va_W))) A) 32000 126000 A := by
  refine Met.ofW (cc := cX2_isSame) (maxL := 13) (ret := (some .boolean)) (by decide) rfl ?_
  intro p e s m args below meth c9 s₁ B hml hv
  obtain ⟨rfl, hP, hD, hB⟩ := hv
  have hK := hB.1
  have hA := hB.2.1
  have hx := B.exec
  have hb := B.bytes
  have hr := B.returns
  have hts := atoms_spec (ws := wsX2_isSame) B.pre
  have hown : s.vm.findClass RX2 = some m.cls := findClass_of_methodNamed B.named
  have hlocks := B.notSynchronized
  have hS : va_S A s.heap s.heap [] := va_S.rf
  have hinX2 : ∀ w ∈ wsX20, w ∈ wsX2_isSame := by decide +kernel
  have lk7 := hts (.fieldLink RX2 7 "HiddenCandlesLaw$Sim" "colours" "I") (by decide +kernel)
  have lk13 := hts (.fieldLink RX2 13 "HiddenCandlesLaw$Sim" "hidden" "I") (by decide +kernel)
  have lk18 := hts (.fieldLink RX2 18 "HiddenCandlesLaw$Sim" "guesses" "[[I") (by decide +kernel)
  have hl := lv_entry ([.ref (so), .ref (ad 0)]) (n := 13) (Nat.le_of_ble_eq_true rfl)
  rw [lg_entry_eq]
  generalize (lg_sl ([.ref (so), .ref (ad 0)]) ++ List.replicate (13 - (lg_sl ([.ref (so), .ref (ad 0)])).length) Slot.unset).toArray = ls at hl ⊢
  have hl : lv_has ls 13 [(0, .ref (so)), (1, .ref (ad 0))] := hl
  obtain ⟨H, eH⟩ : ∃ q, q = s.heap := ⟨_, rfl⟩
  obtain ⟨locs, eL⟩ : ∃ q : List Loc, q = [] := ⟨_, rfl⟩
  replace hP : va_P D vwCl (WX ad cI cZ c g hid code ans dbt opn ply hps wr) H := by rw [eH]; exact hP
  replace hS : va_S A s.heap H locs := by rw [eH, eL]; exact hS
  rw [show W p l e _ s m _ below meth c9 s.heap [] = W p l e _ s m _ below meth c9 H locs from by rw [eH, eL]]
  clear eH eL
  obtain ⟨hpal, hI, hS0, hA5⟩ := id hG
  replace hpal : Pals cI cG ad wr := hpal
  replace hI : XI c g hid code ans dbt opn := hI
  replace hS0 : SimAt cI cG wr so c hid g code ans dbt := hS0
  replace hA5 : AnsOK g ans := hA5
  obtain ⟨hc, hg, hco, hhid, hop⟩ := id hI
  have hq := qq_in hc
  obtain ⟨ga, ks, kg, ra, kr, M, hF⟩ := id hS0
  refine lv_aload_n hx hb dX2_isSame_0 rfl (lv_at hl 0 rfl) ?_
  refine lv_aload_n hx hb dX2_isSame_1 rfl (lv_at hl 0 rfl) ?_
  refine va_get (D := D) (ci := 2) (v := .ref (ga)) (C := RX2) (T := TX2) (N := 3) hx hb hts hinX2 hown hK hP (ks + 7) (atWX hF.1) rfl 2 (by decide) lk18 (fun _ h9 => h9) rfl dX2_isSame_2 ?_
  refine x_alen hx hb hK hP (kg + 7) 2 (atWX hF.2.1) rfl (n := g) rfl dX2_isSame_5 ?_
  refine va_callr (va_runV (As := [.int (nI (g))]) (rest := []) ⟨hx, hb, hml, hown, hts⟩ (c_X2_possible l D cI cZ cG cJ A (WX ad cI cZ c g hid code ans dbt opn ply hps wr) so c hid g code ans dbt g (hc) ((SimAt.WX ⟨_, _, _, _, _, _, hF⟩)) (Nat.le_refl _) (by omega) (hco)) (cwV 1 hts gX2_isSame_X2_possible rfl rfl rfl (by decide +kernel) ⟨Nat.le_of_ble_eq_true rfl, Nat.le_of_ble_eq_true rfl⟩) (preV (ci := 2) (q0 := ks + 7) hB hS hP hD (atWX hF.1) rfl) rfl rfl hl.1 rfl (lv_room (Nat.le_of_ble_eq_true rfl)) dX2_isSame_6 ⟨by show _ ≤ 32000; omega, by show _ ≤ 126000; omega⟩) hS (fun q _ h => h) (fun q h => h) (fun u_6 a9 t9 H1 locs1 ht9 hvm9 hw_6 hBw hz9 hk9 hS => ?_)
  obtain ⟨rfl, hP, hD⟩ := hBw
  rw [ht9] at hP
  generalize H1 = H at hP hS ⊢
  generalize locs1 = locs at hS ⊢
  replace hP := P_perm permWX hP
  replace hD := D_perm permWX hD
  replace hP : va_P D vwCl (WX ad cI cZ c g hid code ans dbt opn ply hps ((u_6.2, .inl (cZ, qq c, .inl (fun j => bI (u_6.1 j)))) :: wr)) H := hP
  replace hD : va_D A (WX ad cI cZ c g hid code ans dbt opn ply hps ((u_6.2, .inl (cZ, qq c, .inl (fun j => bI (u_6.1 j)))) :: wr)) := hD
  obtain ⟨wb, ewb⟩ : ∃ q : va_W, q = (u_6.2, .inl (cZ, qq c, .inl (fun j => bI (u_6.1 j)))) :: wr := ⟨_, rfl⟩
  rw [← ewb] at hP hD
  have hthose : wb[0]? = some (u_6.2, .inl (cZ, qq c, .inl (fun j => bI (u_6.1 j)))) := by rw [ewb]; rfl
  have hpal0 : Pals cI cG ad wb := by rw [ewb]; exact hpal.cons _
  have hF0 : SimF cI cG wb so c hid g code ans dbt ga (ks + 1) (kg + 1) ra (fun i => kr i + 1) M := by rw [ewb]; exact hF.emb (Emb.cons _ _)
  clear hF hpal
  have hF := hF0
  have hpal := hpal0
  obtain ⟨nc, hnc⟩ : ∃ q : Nat, q = 2200 := ⟨_, rfl⟩
  obtain ⟨ns, hns⟩ : ∃ q : Nat, q = 9000 := ⟨_, rfl⟩
  refine W.widen (k := nc) (n := ns) (by omega) (by omega) ?_
  refine lv_astore_n (lv' := [(2, .ref (u_6.2)), (0, .ref (so)), (1, .ref (ad 0))]) hx hb dX2_isSame_9 rfl hl (by decide) rfl (fun ls hl => ?_)
  refine lv_aload_n hx hb dX2_isSame_10 rfl (lv_at hl 0 rfl) ?_
  refine x_csi (va_runS (As := [.ref (u_6.2)]) (rest := []) ⟨hx, hb, hml, hown, hts⟩ (c_X2_many l D cI cZ cG cJ A (WX ad cI cZ c g hid code ans dbt opn ply hps wb) u_6.2 (0 + 7) (qq c) u_6.1 ((atWX hthose)) (by omega)) (va_cwS 1 hts gX2_isSame_X2_many rfl rfl rfl (by decide +kernel) ⟨Nat.le_of_ble_eq_true rfl, Nat.le_of_ble_eq_true rfl⟩) (preS hB hS hP hD) rfl rfl hl.1 rfl (lv_room (Nat.le_of_ble_eq_true rfl)) dX2_isSame_11 ⟨by show _ ≤ 32000; omega, by show _ ≤ 126000; omega⟩) ?_
  refine x_ti (y := nI (cN (opS c g code ans dbt) 81)) (by rw [many_op (by omega) hw_6]) ?_
  refine lv_istore_n (lv' := [(3, .int (nI (cN (opS c g code ans dbt) 81))), (2, .ref (u_6.2)), (0, .ref (so)), (1, .ref (ad 0))]) hx hb dX2_isSame_14 rfl hl (by decide) rfl (fun ls hl => ?_)
  refine lv_iconst (v := nI (0)) hx hb dX2_isSame_15 (by decide) ?_
  refine lv_istore (lv' := [(4, .int (nI (0))), (3, .int (nI (cN (opS c g code ans dbt) 81))), (2, .ref (u_6.2)), (0, .ref (so)), (1, .ref (ad 0))]) hx hb dX2_isSame_16 hl (by decide) rfl (fun ls hl => ?_)
  refine lv_iconst (v := nI (0)) hx hb dX2_isSame_18 (by decide) ?_
  refine lv_istore (lv' := [(5, .int (nI (0))), (4, .int (nI (0))), (3, .int (nI (cN (opS c g code ans dbt) 81))), (2, .ref (u_6.2)), (0, .ref (so)), (1, .ref (ad 0))]) hx hb dX2_isSame_19 hl (by decide) rfl (fun ls hl => ?_)
  refine lv_iconst (v := nI (0)) hx hb dX2_isSame_21 (by decide) ?_
  refine lv_istore (lv' := [(6, .int (nI (0))), (5, .int (nI (0))), (4, .int (nI (0))), (3, .int (nI (cN (opS c g code ans dbt) 81))), (2, .ref (u_6.2)), (0, .ref (so)), (1, .ref (ad 0))]) hx hb dX2_isSame_22 hl (by decide) rfl (fun ls hl => ?_)
  refine lv_iconst (v := nI (0)) hx hb dX2_isSame_24 (by decide) ?_
  refine lv_istore (lv' := [(7, .int (nI (0))), (6, .int (nI (0))), (5, .int (nI (0))), (4, .int (nI (0))), (3, .int (nI (cN (opS c g code ans dbt) 81))), (2, .ref (u_6.2)), (0, .ref (so)), (1, .ref (ad 0))]) hx hb dX2_isSame_25 hl (by decide) rfl (fun ls hl => ?_)
  -- loop at 27
  have hinv : 0 ≤ g ∧ 0 = cN (fun z => decide (ans z = 20)) 0 ∧ 0 = cN dbt 0 ∧ 0 = blkS ans 0 ∧ nc ≤ 2200 + 2300 * 0 ∧ ns ≤ 9000 + 9500 * 0 := by
    exact ⟨Nat.zero_le _, rfl, rfl, rfl, by omega, by omega⟩
  obtain ⟨gi, fo, db, bk, hq9⟩ : ∃ (gi : Nat) (fo : Nat) (db : Nat) (bk : Nat), lv_has ls 13 [(0, .ref (so)), (1, .ref (ad 0)), (2, .ref (u_6.2)), (3, .int (nI (cN (opS c g code ans dbt) 81))), (4, .int (nI (fo))), (5, .int (nI (db))), (6, .int (nI (bk))), (7, .int (nI (gi)))] ∧ (gi ≤ g ∧ fo = cN (fun z => decide (ans z = 20)) gi ∧ db = cN dbt gi ∧ bk = blkS ans gi ∧ nc ≤ 2200 + 2300 * gi ∧ ns ≤ 9000 + 9500 * gi) ∧ va_P D vwCl (WX ad cI cZ c g hid code ans dbt opn ply hps wb) H ∧ va_D A (WX ad cI cZ c g hid code ans dbt opn ply hps wb) := ⟨0, 0, 0, 0, lv_sub hl [6, 7, 5, 4, 3, 2, 1, 0] rfl, hinv, hP, hD⟩
  clear hl hinv hP hD
  obtain ⟨hl, hinv, hP, hD⟩ := hq9
  clear hnc hns
  obtain ⟨n9_27, hn9⟩ : ∃ q : Nat, g - gi < q := ⟨_, Nat.lt_succ_self _⟩
  induction n9_27 generalizing ls H locs nc ns gi fo db bk with
  | zero => exact absurd hn9 (Nat.not_lt_zero _)
  | succ n9_27 ih27 =>
    obtain ⟨h1, h2, h3, h4, h5, h6⟩ := hinv; have hle1 := cN_le (fun z => decide (ans z = 20)) gi; have hle2 := cN_le dbt gi; have hle3 := blkS_le hco gi h1
    refine lv_iload hx hb dX2_isSame_27 (lv_at hl 7 rfl) ?_
    refine lv_aload_n hx hb dX2_isSame_29 rfl (lv_at hl 0 rfl) ?_
    refine va_get (D := D) (ci := 2) (v := .ref (ga)) (C := RX2) (T := TX2) (N := 3) hx hb hts hinX2 hown hK hP (ks + 1 + 7) (atWX hF.1) rfl 2 (by decide) lk18 (fun _ h9 => h9) rfl dX2_isSame_30 ?_
    refine x_alen hx hb hK hP (kg + 1 + 7) 2 (atWX hF.2.1) rfl (n := g) rfl dX2_isSame_33 ?_
    refine x_ge (tgt := 230) hx hb dX2_isSame_34 (by decide) (by omega) (by omega) (fun c34 => ?_) (fun c34 => ?_)
    · skip
      have eg : gi = g := by omega
      refine lv_bipush (v := nI (7)) hx hb dX2_isSame_230 (by decide) ?_
      refine x_newiC hx hb (hts _ (by decide +kernel)) hB hP hD hS (n := 7) (by decide) (by show _ ≤ 32000; omega) (by show _ ≤ 126000; omega) dX2_isSame_232 (fun t7 H2 hP2 hD2 hS2 => ?_)
      clear hP hD hS
      generalize H2 = H at hP2 hS2 ⊢
      have hP := hP2; have hD := hD2; have hS := hS2
      clear hP2 hD2 hS2
      replace hP := P_perm permWX hP
      replace hD := D_perm permWX hD
      replace hP : va_P D vwCl (WX ad cI cZ c g hid code ans dbt opn ply hps ((t7, .inl (cI, 7, .inl (fun j => nI ((fun _ => 0) j)))) :: wb)) H := hP
      replace hD : va_D A (WX ad cI cZ c g hid code ans dbt opn ply hps ((t7, .inl (cI, 7, .inl (fun j => nI ((fun _ => 0) j)))) :: wb)) := hD
      refine lv_dup hx hb dX2_isSame_234 rfl ?_
      refine lv_iconst (v := nI (0)) hx hb dX2_isSame_235 (by decide) ?_
      refine lv_aload_n hx hb dX2_isSame_236 rfl (lv_at hl 0 rfl) ?_
      refine va_get (D := D) (ci := 2) (v := .int (nI (c))) (C := RX2) (T := TX2) (N := 3) hx hb hts hinX2 hown hK hP (ks + 1 + 8) (atWX2 hF.1) rfl 0 (by decide) lk7 (fun _ h9 => h9) rfl dX2_isSame_237 ?_
      refine x_iast hx hb hK hP hD hS 7 0 rfl rfl (i := 0) (v := c) (by omega) (by omega) dX2_isSame_240 (fun H locs hP hD hS => ?_)
      replace hP : va_P D vwCl (WX ad cI cZ c g hid code ans dbt opn ply hps ((t7, .inl (cI, 7, .inl (fun j => nI ((va_up (fun _ => 0) 0 c) j)))) :: wb)) H := hP
      replace hD : va_D A (WX ad cI cZ c g hid code ans dbt opn ply hps ((t7, .inl (cI, 7, .inl (fun j => nI ((va_up (fun _ => 0) 0 c) j)))) :: wb)) := hD
      refine lv_dup hx hb dX2_isSame_241 rfl ?_
      refine lv_iconst (v := nI (1)) hx hb dX2_isSame_242 (by decide) ?_
      refine lv_aload_n hx hb dX2_isSame_243 rfl (lv_at hl 0 rfl) ?_
      refine x_csi (va_runV (As := []) (rest := [.int (nI (1)), .ref (t7), .ref (t7)]) ⟨hx, hb, hml, hown, hts⟩ (c_X2_codes l D cI cZ cG cJ A (WX ad cI cZ c g hid code ans dbt opn ply hps ((t7, .inl (cI, 7, .inl (fun j => nI ((va_up (fun _ => 0) 0 c) j)))) :: wb)) so c hid g code ans dbt (hc) (((SimAt.cons _ ⟨_, _, _, _, _, _, hF⟩).WX))) (cwV 0 hts gX2_isSame_X2_codes rfl rfl rfl (by decide +kernel) ⟨Nat.le_of_ble_eq_true rfl, Nat.le_of_ble_eq_true rfl⟩) (preV (ci := 2) (q0 := ks + 1 + 8) hB hS hP hD (atWX2 hF.1) rfl) rfl rfl hl.1 rfl (lv_room (Nat.le_of_ble_eq_true rfl)) dX2_isSame_244 ⟨by show _ ≤ 32000; omega, by show _ ≤ 126000; omega⟩) ?_
      refine x_iast hx hb hK hP hD hS 7 0 rfl rfl (i := 1) (v := qq c) (by omega) (by omega) dX2_isSame_247 (fun H locs hP hD hS => ?_)
      replace hP : va_P D vwCl (WX ad cI cZ c g hid code ans dbt opn ply hps ((t7, .inl (cI, 7, .inl (fun j => nI ((va_up (va_up (fun _ => 0) 0 c) 1 (qq c)) j)))) :: wb)) H := hP
      replace hD : va_D A (WX ad cI cZ c g hid code ans dbt opn ply hps ((t7, .inl (cI, 7, .inl (fun j => nI ((va_up (va_up (fun _ => 0) 0 c) 1 (qq c)) j)))) :: wb)) := hD
      refine lv_dup hx hb dX2_isSame_248 rfl ?_
      refine lv_iconst (v := nI (2)) hx hb dX2_isSame_249 (by decide) ?_
      refine lv_aload_n hx hb dX2_isSame_250 rfl (lv_at hl 0 rfl) ?_
      refine va_get (D := D) (ci := 2) (v := .ref (ga)) (C := RX2) (T := TX2) (N := 3) hx hb hts hinX2 hown hK hP (ks + 1 + 8) (atWX2 hF.1) rfl 2 (by decide) lk18 (fun _ h9 => h9) rfl dX2_isSame_251 ?_
      refine x_alen hx hb hK hP (kg + 1 + 8) 2 (atWX2 hF.2.1) rfl (n := g) rfl dX2_isSame_254 ?_
      refine x_iast hx hb hK hP hD hS 7 0 rfl rfl (i := 2) (v := g) (by omega) (by omega) dX2_isSame_255 (fun H locs hP hD hS => ?_)
      replace hP : va_P D vwCl (WX ad cI cZ c g hid code ans dbt opn ply hps ((t7, .inl (cI, 7, .inl (fun j => nI ((va_up (va_up (va_up (fun _ => 0) 0 c) 1 (qq c)) 2 g) j)))) :: wb)) H := hP
      replace hD : va_D A (WX ad cI cZ c g hid code ans dbt opn ply hps ((t7, .inl (cI, 7, .inl (fun j => nI ((va_up (va_up (va_up (fun _ => 0) 0 c) 1 (qq c)) 2 g) j)))) :: wb)) := hD
      refine lv_dup hx hb dX2_isSame_256 rfl ?_
      refine lv_iconst (v := nI (3)) hx hb dX2_isSame_257 (by decide) ?_
      refine lv_iload_n hx hb dX2_isSame_258 rfl (lv_at hl 3 rfl) ?_
      refine x_iast hx hb hK hP hD hS 7 0 rfl rfl (i := 3) (v := cN (opS c g code ans dbt) 81) (by omega) (by omega) dX2_isSame_259 (fun H locs hP hD hS => ?_)
      replace hP : va_P D vwCl (WX ad cI cZ c g hid code ans dbt opn ply hps ((t7, .inl (cI, 7, .inl (fun j => nI ((va_up (va_up (va_up (va_up (fun _ => 0) 0 c) 1 (qq c)) 2 g) 3 (cN (opS c g code ans dbt) 81)) j)))) :: wb)) H := hP
      replace hD : va_D A (WX ad cI cZ c g hid code ans dbt opn ply hps ((t7, .inl (cI, 7, .inl (fun j => nI ((va_up (va_up (va_up (va_up (fun _ => 0) 0 c) 1 (qq c)) 2 g) 3 (cN (opS c g code ans dbt) 81)) j)))) :: wb)) := hD
      refine lv_dup hx hb dX2_isSame_260 rfl ?_
      refine lv_iconst (v := nI (4)) hx hb dX2_isSame_261 (by decide) ?_
      refine lv_aload_n hx hb dX2_isSame_262 rfl (lv_at hl 0 rfl) ?_
      refine va_get (D := D) (ci := 2) (v := .int (hid)) (C := RX2) (T := TX2) (N := 3) hx hb hts hinX2 hown hK hP (ks + 1 + 8) (atWX2 hF.1) rfl 1 (by decide) lk13 (fun _ h9 => h9) rfl dX2_isSame_263 ?_
      obtain ⟨hb9, ehb⟩ : ∃ q : Nat, q = (if hid = -1 then 0 else 1) := ⟨_, rfl⟩
      refine x_join (g2 := F0 m 274 ls [.int (nI (hb9)), .int (nI (4)), .ref (t7), .ref (t7)]) ?_ (fun hj274 => ?_)
      · skip
        refine x_iast hx hb hK hP hD hS 7 0 rfl rfl (i := 4) (v := hb9) (by omega) (by omega) dX2_isSame_274 (fun H locs hP hD hS => ?_)
        replace hP : va_P D vwCl (WX ad cI cZ c g hid code ans dbt opn ply hps ((t7, .inl (cI, 7, .inl (fun j => nI ((va_up (va_up (va_up (va_up (va_up (fun _ => 0) 0 c) 1 (qq c)) 2 g) 3 (cN (opS c g code ans dbt) 81)) 4 hb9) j)))) :: wb)) H := hP
        replace hD : va_D A (WX ad cI cZ c g hid code ans dbt opn ply hps ((t7, .inl (cI, 7, .inl (fun j => nI ((va_up (va_up (va_up (va_up (va_up (fun _ => 0) 0 c) 1 (qq c)) 2 g) 3 (cN (opS c g code ans dbt) 81)) 4 hb9) j)))) :: wb)) := hD
        refine lv_dup hx hb dX2_isSame_275 rfl ?_
        refine lv_iconst (v := nI (5)) hx hb dX2_isSame_276 (by decide) ?_
        refine lv_iload hx hb dX2_isSame_277 (lv_at hl 4 rfl) ?_
        refine x_iast hx hb hK hP hD hS 7 0 rfl rfl (i := 5) (v := fo) (by omega) (by omega) dX2_isSame_279 (fun H locs hP hD hS => ?_)
        replace hP : va_P D vwCl (WX ad cI cZ c g hid code ans dbt opn ply hps ((t7, .inl (cI, 7, .inl (fun j => nI ((va_up (va_up (va_up (va_up (va_up (va_up (fun _ => 0) 0 c) 1 (qq c)) 2 g) 3 (cN (opS c g code ans dbt) 81)) 4 hb9) 5 fo) j)))) :: wb)) H := hP
        replace hD : va_D A (WX ad cI cZ c g hid code ans dbt opn ply hps ((t7, .inl (cI, 7, .inl (fun j => nI ((va_up (va_up (va_up (va_up (va_up (va_up (fun _ => 0) 0 c) 1 (qq c)) 2 g) 3 (cN (opS c g code ans dbt) 81)) 4 hb9) 5 fo) j)))) :: wb)) := hD
        refine lv_dup hx hb dX2_isSame_280 rfl ?_
        refine lv_bipush (v := nI (6)) hx hb dX2_isSame_281 (by decide) ?_
        refine lv_iload hx hb dX2_isSame_283 (lv_at hl 5 rfl) ?_
        refine x_iast hx hb hK hP hD hS 7 0 rfl rfl (i := 6) (v := db) (by omega) (by omega) dX2_isSame_285 (fun H locs hP hD hS => ?_)
        replace hP : va_P D vwCl (WX ad cI cZ c g hid code ans dbt opn ply hps ((t7, .inl (cI, 7, .inl (fun j => nI ((va_up (va_up (va_up (va_up (va_up (va_up (va_up (fun _ => 0) 0 c) 1 (qq c)) 2 g) 3 (cN (opS c g code ans dbt) 81)) 4 hb9) 5 fo) 6 db) j)))) :: wb)) H := hP
        replace hD : va_D A (WX ad cI cZ c g hid code ans dbt opn ply hps ((t7, .inl (cI, 7, .inl (fun j => nI ((va_up (va_up (va_up (va_up (va_up (va_up (va_up (fun _ => 0) 0 c) 1 (qq c)) 2 g) 3 (cN (opS c g code ans dbt) 81)) 4 hb9) 5 fo) 6 db) j)))) :: wb)) := hD
        refine lv_astore (lv' := [(7, .ref (t7)), (0, .ref (so)), (1, .ref (ad 0)), (2, .ref (u_6.2)), (3, .int (nI (cN (opS c g code ans dbt) 81))), (4, .int (nI (fo))), (5, .int (nI (db))), (6, .int (nI (bk)))]) hx hb dX2_isSame_286 hl (by decide) rfl (fun ls hl => ?_)
        refine lv_iconst (v := nI (0)) hx hb dX2_isSame_288 (by decide) ?_
        have hfc : ∀ w, w < 7 → (va_up (va_up (va_up (va_up (va_up (va_up (va_up (fun _ => 0) 0 c) 1 (qq c)) 2 g) 3 (cN (opS c g code ans dbt) 81)) 4 hb9) 5 fo) 6 db) w = cntV c g hid code ans dbt w := by
          intro w hw9
          obtain rfl | rfl | rfl | rfl | rfl | rfl | rfl : w = 0 ∨ w = 1 ∨ w = 2 ∨ w = 3 ∨ w = 4 ∨ w = 5 ∨ w = 6 := by omega
          · simp [va_up, cntV]
          · simp [va_up, cntV]
          · simp [va_up, cntV]
          · simp [va_up, cntV]
          · simp [va_up, cntV, ehb]
          · simp [va_up, cntV, h2, eg]
          · simp [va_up, cntV, h3, eg]
        refine lv_istore (lv' := [(8, .int (nI (0))), (7, .ref (t7)), (0, .ref (so)), (1, .ref (ad 0)), (2, .ref (u_6.2)), (3, .int (nI (cN (opS c g code ans dbt) 81))), (4, .int (nI (fo))), (5, .int (nI (db))), (6, .int (nI (bk)))]) hx hb dX2_isSame_289 hl (by decide) rfl (fun ls hl => ?_)
        -- loop at 291
        have hinv : 0 ≤ 7 := by
          exact Nat.zero_le _
        obtain ⟨w7, hq9⟩ : ∃ (w7 : Nat), lv_has ls 13 [(0, .ref (so)), (1, .ref (ad 0)), (2, .ref (u_6.2)), (3, .int (nI (cN (opS c g code ans dbt) 81))), (4, .int (nI (fo))), (5, .int (nI (db))), (6, .int (nI (bk))), (7, .ref (t7)), (8, .int (nI (w7)))] ∧ (w7 ≤ 7) ∧ va_P D vwCl (WX ad cI cZ c g hid code ans dbt opn ply hps ((t7, .inl (cI, 7, .inl (fun j => nI ((va_up (va_up (va_up (va_up (va_up (va_up (va_up (fun _ => 0) 0 c) 1 (qq c)) 2 g) 3 (cN (opS c g code ans dbt) 81)) 4 hb9) 5 fo) 6 db) j)))) :: wb)) H ∧ va_D A (WX ad cI cZ c g hid code ans dbt opn ply hps ((t7, .inl (cI, 7, .inl (fun j => nI ((va_up (va_up (va_up (va_up (va_up (va_up (va_up (fun _ => 0) 0 c) 1 (qq c)) 2 g) 3 (cN (opS c g code ans dbt) 81)) 4 hb9) 5 fo) 6 db) j)))) :: wb)) := ⟨0, lv_sub hl [2, 3, 4, 5, 6, 7, 8, 1, 0] rfl, hinv, hP, hD⟩
        clear hl hinv hP hD
        obtain ⟨hl, hinv, hP, hD⟩ := hq9
        obtain ⟨n9_291, hn9⟩ : ∃ q : Nat, 7 - w7 < q := ⟨_, Nat.lt_succ_self _⟩
        induction n9_291 generalizing ls H locs w7 with
        | zero => exact absurd hn9 (Nat.not_lt_zero _)
        | succ n9_291 ih291 =>
          refine lv_iload hx hb dX2_isSame_291 (lv_at hl 8 rfl) ?_
          refine lv_bipush (v := nI (7)) hx hb dX2_isSame_293 (by decide) ?_
          refine x_ge (tgt := 320) hx hb dX2_isSame_295 (by decide) (by omega) (by omega) (fun c295 => ?_) (fun c295 => ?_)
          · skip
            replace hP := P_drop hP
            replace hD := D_drop hD
            replace hP : va_P D vwCl (WX ad cI cZ c g hid code ans dbt opn ply hps wb) H := hP
            replace hD : va_D A (WX ad cI cZ c g hid code ans dbt opn ply hps wb) := hD
            refine lv_iconst (v := nI (4)) hx hb dX2_isSame_320 (by decide) ?_
            refine lv_aload_n hx hb dX2_isSame_321 rfl (lv_at hl 0 rfl) ?_
            refine va_get (D := D) (ci := 2) (v := .int (nI (c))) (C := RX2) (T := TX2) (N := 3) hx hb hts hinX2 hown hK hP (ks + 1 + 7) (atWX hF.1) rfl 0 (by decide) lk7 (fun _ h9 => h9) rfl dX2_isSame_322 ?_
            refine x_mnaX hx hb hown (hts _ (by decide +kernel)) (hts _ (by decide +kernel)) hB hP hD hS (k := c) (by omega) (by show _ ≤ 32000; omega) (by show _ ≤ 126000; omega) dX2_isSame_325 (fun hv r wr2 H2 hV hP2 hD2 hS2 => ?_)
            clear hP hD hS
            generalize H2 = H at hP2 hS2 ⊢
            have hP := hP2; have hD := hD2; have hS := hS2
            clear hP2 hD2 hS2
            refine lv_astore (lv' := [(8, .ref (hv)), (0, .ref (so)), (1, .ref (ad 0)), (2, .ref (u_6.2)), (3, .int (nI (cN (opS c g code ans dbt) 81))), (4, .int (nI (fo))), (5, .int (nI (db))), (6, .int (nI (bk))), (7, .ref (t7))]) hx hb dX2_isSame_329 hl (by decide) rfl (fun ls hl => ?_)
            refine lv_iconst (v := nI (0)) hx hb dX2_isSame_331 (by decide) ?_
            refine lv_istore (lv' := [(9, .int (nI (0))), (8, .ref (hv)), (0, .ref (so)), (1, .ref (ad 0)), (2, .ref (u_6.2)), (3, .int (nI (cN (opS c g code ans dbt) 81))), (4, .int (nI (fo))), (5, .int (nI (db))), (6, .int (nI (bk))), (7, .ref (t7))]) hx hb dX2_isSame_332 hl (by decide) rfl (fun ls hl => ?_)
            refine lv_iconst (v := nI (0)) hx hb dX2_isSame_334 (by decide) ?_
            refine lv_istore (lv' := [(10, .int (nI (0))), (9, .int (nI (0))), (8, .ref (hv)), (0, .ref (so)), (1, .ref (ad 0)), (2, .ref (u_6.2)), (3, .int (nI (cN (opS c g code ans dbt) 81))), (4, .int (nI (fo))), (5, .int (nI (db))), (6, .int (nI (bk))), (7, .ref (t7))]) hx hb dX2_isSame_335 hl (by decide) rfl (fun ls hl => ?_)
            obtain ⟨nc9, hnc9⟩ : ∃ q : Nat, q = 29810 := ⟨_, rfl⟩
            obtain ⟨ns9, hns9⟩ : ∃ q : Nat, q = 123040 := ⟨_, rfl⟩
            refine W.widen (k := nc9) (n := ns9) (by omega) (by omega) ?_
            -- loop at 337
            have hinv : 0 ≤ qq c ∧ 0 = cN (opS c g code ans dbt) 0 ∧ nc9 ≤ 29810 + 0 ∧ ns9 ≤ 123040 + 4 * 0 ∧ ∃ M1 : Nat → Nat → Nat, HV cI cG wb wr2 hv r c M1 ∧ ∀ k, k < 4 → ∀ x, x < c → M1 k x = cN (fun z => (opS c g code ans dbt) z && decide (col c z k = x)) 0 := by
              exact ⟨Nat.zero_le _, rfl, by omega, by omega, _, hV, fun _ _ _ _ => rfl⟩
            obtain ⟨kk, at9, wr2, hq9⟩ : ∃ (kk : Nat) (at9 : Nat) (wr2 : va_W), lv_has ls 13 [(0, .ref (so)), (1, .ref (ad 0)), (2, .ref (u_6.2)), (3, .int (nI (cN (opS c g code ans dbt) 81))), (4, .int (nI (fo))), (5, .int (nI (db))), (6, .int (nI (bk))), (7, .ref (t7)), (8, .ref (hv)), (9, .int (nI (at9))), (10, .int (nI (kk)))] ∧ (kk ≤ qq c ∧ at9 = cN (opS c g code ans dbt) kk ∧ nc9 ≤ 29810 + kk ∧ ns9 ≤ 123040 + 4 * kk ∧ ∃ M1 : Nat → Nat → Nat, HV cI cG wb wr2 hv r c M1 ∧ ∀ k, k < 4 → ∀ x, x < c → M1 k x = cN (fun z => (opS c g code ans dbt) z && decide (col c z k = x)) kk) ∧ va_P D vwCl (WX ad cI cZ c g hid code ans dbt opn ply hps wr2) H ∧ va_D A (WX ad cI cZ c g hid code ans dbt opn ply hps wr2) := ⟨0, 0, wr2, lv_sub hl [3, 4, 5, 6, 7, 8, 9, 10, 2, 1, 0] rfl, hinv, hP, hD⟩
            clear hl hinv hP hD
            obtain ⟨hl, hinv, hP, hD⟩ := hq9
            clear hnc9 hns9 hV
            obtain ⟨n9_337, hn9⟩ : ∃ q : Nat, qq c - kk < q := ⟨_, Nat.lt_succ_self _⟩
            induction n9_337 generalizing ls H locs nc9 ns9 kk at9 wr2 with
            | zero => exact absurd hn9 (Nat.not_lt_zero _)
            | succ n9_337 ih337 =>
              obtain ⟨e1, e2, e3, e4, M1, hV, hM⟩ := hinv; have hpal := hpal0.emb (f := id) hV.2.1; have hF : SimF cI cG wr2 so c hid g code ans dbt ga (ks + 1) (kg + 1) ra (fun i => kr i + 1) M := hF0.emb (f := id) ⟨fun _ _ h => h, hV.2.1⟩; have hthose2 := hV.2.1 _ _ hthose; have hle9 := cN_le (opS c g code ans dbt) kk
              refine lv_iload hx hb dX2_isSame_337 (lv_at hl 10 rfl) ?_
              refine lv_aload_n hx hb dX2_isSame_339 rfl (lv_at hl 0 rfl) ?_
              refine x_csi (va_runV (As := []) (rest := [.int (nI (kk))]) ⟨hx, hb, hml, hown, hts⟩ (c_X2_codes l D cI cZ cG cJ A (WX ad cI cZ c g hid code ans dbt opn ply hps wr2) so c hid g code ans dbt (hc) ((SimAt.WX ⟨_, _, _, _, _, _, hF⟩))) (cwV 0 hts gX2_isSame_X2_codes rfl rfl rfl (by decide +kernel) ⟨Nat.le_of_ble_eq_true rfl, Nat.le_of_ble_eq_true rfl⟩) (preV (ci := 2) (q0 := ks + 1 + 7) hB hS hP hD (atWX hF.1) rfl) rfl rfl hl.1 rfl (lv_room (Nat.le_of_ble_eq_true rfl)) dX2_isSame_340 ⟨by show _ ≤ 32000; omega, by show _ ≤ 126000; omega⟩) ?_
              refine x_ge (tgt := 431) hx hb dX2_isSame_343 (by decide) (by omega) (by omega) (fun c343 => ?_) (fun c343 => ?_)
              · skip
                have ekk : kk = qq c := by omega
                have hMM : ∀ k, k < 4 → ∀ x, x < c → M1 k x = hvN c (opS c g code ans dbt) k x := fun k hk x hx9 => by rw [hM k hk x hx9, ekk, hvN]; exact (hv_qq hq.2 k x).symm
                refine lv_iconst (v := nI (0)) hx hb dX2_isSame_431 (by decide) ?_
                refine lv_istore (lv' := [(10, .int (nI (0))), (0, .ref (so)), (1, .ref (ad 0)), (2, .ref (u_6.2)), (3, .int (nI (cN (opS c g code ans dbt) 81))), (4, .int (nI (fo))), (5, .int (nI (db))), (6, .int (nI (bk))), (7, .ref (t7)), (8, .ref (hv)), (9, .int (nI (at9)))]) hx hb dX2_isSame_432 hl (by decide) rfl (fun ls hl => ?_)
                -- loop at 434
                have hinv : 0 ≤ 4 := by
                  exact Nat.zero_le _
                obtain ⟨pl, hq9⟩ : ∃ (pl : Nat), lv_has ls 13 [(0, .ref (so)), (1, .ref (ad 0)), (2, .ref (u_6.2)), (3, .int (nI (cN (opS c g code ans dbt) 81))), (4, .int (nI (fo))), (5, .int (nI (db))), (6, .int (nI (bk))), (7, .ref (t7)), (8, .ref (hv)), (9, .int (nI (at9))), (10, .int (nI (pl)))] ∧ (pl ≤ 4) ∧ va_P D vwCl (WX ad cI cZ c g hid code ans dbt opn ply hps wr2) H ∧ va_D A (WX ad cI cZ c g hid code ans dbt opn ply hps wr2) := ⟨0, lv_sub hl [1, 2, 3, 4, 5, 6, 7, 8, 9, 10, 0] rfl, hinv, hP, hD⟩
                clear hl hinv hP hD
                obtain ⟨hl, hinv, hP, hD⟩ := hq9
                obtain ⟨n9_434, hn9⟩ : ∃ q : Nat, 4 - pl < q := ⟨_, Nat.lt_succ_self _⟩
                induction n9_434 generalizing ls H locs pl with
                | zero => exact absurd hn9 (Nat.not_lt_zero _)
                | succ n9_434 ih434 =>
                  refine lv_iload hx hb dX2_isSame_434 (lv_at hl 10 rfl) ?_
                  refine lv_iconst (v := nI (4)) hx hb dX2_isSame_436 (by decide) ?_
                  refine x_ge (tgt := 521) hx hb dX2_isSame_437 (by decide) (by omega) (by omega) (fun c437 => ?_) (fun c437 => ?_)
                  · skip
                    refine lv_aload_n hx hb dX2_isSame_521 rfl (lv_at hl 1 rfl) ?_
                    refine x_csd (va_runV (As := []) (rest := []) ⟨hx, hb, hml, hown, hts⟩ (c_X1_mean l D cI cZ cG cJ A ad wr2 hpal c g hid code ans dbt opn ply hps (hI)) (cwV 0 hts gX2_isSame_X1_mean rfl rfl rfl (by decide +kernel) ⟨Nat.le_of_ble_eq_true rfl, Nat.le_of_ble_eq_true rfl⟩) (preV (ci := 1) (q0 := 0) hB hS hP hD rfl rfl) rfl rfl hl.1 rfl (lv_room (Nat.le_of_ble_eq_true rfl)) dX2_isSame_522 ⟨by show _ ≤ 32000; omega, by show _ ≤ 126000; omega⟩) ?_
                    refine lv_aload_n hx hb dX2_isSame_525 rfl (lv_at hl 0 rfl) ?_
                    refine va_get (D := D) (ci := 2) (v := .ref (ga)) (C := RX2) (T := TX2) (N := 3) hx hb hts hinX2 hown hK hP (ks + 1 + 7) (atWX hF.1) rfl 2 (by decide) lk18 (fun _ h9 => h9) rfl dX2_isSame_526 ?_
                    refine x_alen hx hb hK hP (kg + 1 + 7) 2 (atWX hF.2.1) rfl (n := g) rfl dX2_isSame_529 ?_
                    refine x_ne0 (tgt := 537) hx hb dX2_isSame_530 (by decide) (by omega) (fun c530 => ?_) (fun c530 => ?_)
                    · skip
                      refine lv_iload hx hb dX2_isSame_537 (lv_at hl 6 rfl) ?_
                      refine lv_i2d hx hb dX2_isSame_539 ?_
                      refine lv_aload_n hx hb dX2_isSame_540 rfl (lv_at hl 0 rfl) ?_
                      refine va_get (D := D) (ci := 2) (v := .ref (ga)) (C := RX2) (T := TX2) (N := 3) hx hb hts hinX2 hown hK hP (ks + 1 + 7) (atWX hF.1) rfl 2 (by decide) lk18 (fun _ h9 => h9) rfl dX2_isSame_541 ?_
                      refine x_alen hx hb hK hP (kg + 1 + 7) 2 (atWX hF.2.1) rfl (n := g) rfl dX2_isSame_544 ?_
                      refine lv_i2d hx hb dX2_isSame_545 ?_
                      refine lv_ddiv hx hb dX2_isSame_546 (mean_nan bk (by rw [h4]; omega) g (by omega) c530) ?_
                      refine lv_dcmp hx hb dX2_isSame_547 ?_
                      refine x_ti (y := 0) (by rw [show FP.ddiv (FP.i2d (nI (bk))) (FP.i2d (nI (g))) = meanV g ans from by first | (rw [meanV, if_pos c530]; done) | (rw [meanV, if_neg (by omega), h4, eg]; done)]; exact mean_cmp hg hco) ?_
                      refine lv_if_ne (tgt := 555) hx hb dX2_isSame_548 (by decide) (fun c548 => absurd c548 (fun q => q rfl)) (fun c548 => ?_)
                      refine lv_iconst (v := bI (true)) hx hb dX2_isSame_551 (by decide) ?_
                      refine lv_goto (tgt := 556) hx hb dX2_isSame_552 (by decide) ?_
                      replace hP : va_P D vwCl ([] : va_W) H := fun k q h => by simp at h
                      replace hD : va_D A ([] : va_W) := ⟨fun i j p q h => by simp at h, fun k q h => by simp at h⟩
                      refine W.widen (k := 32000) (n := 126000) (by omega) (by omega) ?_
                      exact W.zret (v := bI (true)) hx hb hr (bI_narrow _) (fun t ht hW => ⟨⟨_, (), rfl, (by
                          exact ⟨rfl, trivial⟩), ⟨by rw [ht]; exact hP, hD⟩⟩, hS.F ht⟩) hS.2.2 dX2_isSame_556
                    · skip
                      refine lv_dconst0 hx hb dX2_isSame_533 ?_
                      refine lv_goto (tgt := 547) hx hb dX2_isSame_534 (by decide) ?_
                      refine lv_dcmp hx hb dX2_isSame_547 ?_
                      refine x_ti (y := 0) (by rw [show FP.dconst0 = meanV g ans from by first | (rw [meanV, if_pos c530]; done) | (rw [meanV, if_neg (by omega), h4, eg]; done)]; exact mean_cmp hg hco) ?_
                      refine lv_if_ne (tgt := 555) hx hb dX2_isSame_548 (by decide) (fun c548 => absurd c548 (fun q => q rfl)) (fun c548 => ?_)
                      refine lv_iconst (v := bI (true)) hx hb dX2_isSame_551 (by decide) ?_
                      refine lv_goto (tgt := 556) hx hb dX2_isSame_552 (by decide) ?_
                      replace hP : va_P D vwCl ([] : va_W) H := fun k q h => by simp at h
                      replace hD : va_D A ([] : va_W) := ⟨fun i j p q h => by simp at h, fun k q h => by simp at h⟩
                      refine W.widen (k := 32000) (n := 126000) (by omega) (by omega) ?_
                      exact W.zret (v := bI (true)) hx hb hr (bI_narrow _) (fun t ht hW => ⟨⟨_, (), rfl, (by
                          exact ⟨rfl, trivial⟩), ⟨by rw [ht]; exact hP, hD⟩⟩, hS.F ht⟩) hS.2.2 dX2_isSame_556
                  · skip
                    refine lv_iconst (v := (-1)) hx hb dX2_isSame_440 (by decide) ?_
                    refine lv_istore (lv' := [(11, .int ((-1))), (0, .ref (so)), (1, .ref (ad 0)), (2, .ref (u_6.2)), (3, .int (nI (cN (opS c g code ans dbt) 81))), (4, .int (nI (fo))), (5, .int (nI (db))), (6, .int (nI (bk))), (7, .ref (t7)), (8, .ref (hv)), (9, .int (nI (at9))), (10, .int (nI (pl)))]) hx hb dX2_isSame_441 hl (by decide) rfl (fun ls hl => ?_)
                    refine lv_iconst (v := nI (0)) hx hb dX2_isSame_443 (by decide) ?_
                    refine lv_istore (lv' := [(12, .int (nI (0))), (11, .int ((-1))), (0, .ref (so)), (1, .ref (ad 0)), (2, .ref (u_6.2)), (3, .int (nI (cN (opS c g code ans dbt) 81))), (4, .int (nI (fo))), (5, .int (nI (db))), (6, .int (nI (bk))), (7, .ref (t7)), (8, .ref (hv)), (9, .int (nI (at9))), (10, .int (nI (pl)))]) hx hb dX2_isSame_444 hl (by decide) rfl (fun ls hl => ?_)
                    -- loop at 446
                    have hinv : 0 ≤ c ∧ (-1) = lastV c (opS c g code ans dbt) pl 0 := by
                      exact ⟨Nat.zero_le _, rfl⟩
                    obtain ⟨x4, su, hq9⟩ : ∃ (x4 : Nat) (su : Int32), lv_has ls 13 [(0, .ref (so)), (1, .ref (ad 0)), (2, .ref (u_6.2)), (3, .int (nI (cN (opS c g code ans dbt) 81))), (4, .int (nI (fo))), (5, .int (nI (db))), (6, .int (nI (bk))), (7, .ref (t7)), (8, .ref (hv)), (9, .int (nI (at9))), (10, .int (nI (pl))), (11, .int (su)), (12, .int (nI (x4)))] ∧ (x4 ≤ c ∧ su = lastV c (opS c g code ans dbt) pl x4) ∧ va_P D vwCl (WX ad cI cZ c g hid code ans dbt opn ply hps wr2) H ∧ va_D A (WX ad cI cZ c g hid code ans dbt opn ply hps wr2) := ⟨0, (-1), lv_sub hl [2, 3, 4, 5, 6, 7, 8, 9, 10, 11, 12, 1, 0] rfl, hinv, hP, hD⟩
                    clear hl hinv hP hD
                    obtain ⟨hl, hinv, hP, hD⟩ := hq9
                    obtain ⟨n9_446, hn9⟩ : ∃ q : Nat, c - x4 < q := ⟨_, Nat.lt_succ_self _⟩
                    induction n9_446 generalizing ls H locs x4 su with
                    | zero => exact absurd hn9 (Nat.not_lt_zero _)
                    | succ n9_446 ih446 =>
                      obtain ⟨i1, i2⟩ := hinv; have hhl := hvN_le c (opS c g code ans dbt) pl x4; have hcl9 := cN_le (opS c g code ans dbt) 81
                      refine lv_iload hx hb dX2_isSame_446 (lv_at hl 12 rfl) ?_
                      refine lv_aload_n hx hb dX2_isSame_448 rfl (lv_at hl 0 rfl) ?_
                      refine va_get (D := D) (ci := 2) (v := .int (nI (c))) (C := RX2) (T := TX2) (N := 3) hx hb hts hinX2 hown hK hP (ks + 1 + 7) (atWX hF.1) rfl 0 (by decide) lk7 (fun _ h9 => h9) rfl dX2_isSame_449 ?_
                      refine x_ge (tgt := 502) hx hb dX2_isSame_452 (by decide) (by omega) (by omega) (fun c452 => ?_) (fun c452 => ?_)
                      · skip
                        refine lv_aload_n hx hb dX2_isSame_502 rfl (lv_at hl 1 rfl) ?_
                        refine lv_iload hx hb dX2_isSame_503 (lv_at hl 10 rfl) ?_
                        refine x_csi (va_runV (As := [.int (nI (pl))]) (rest := []) ⟨hx, hb, hml, hown, hts⟩ (c_X1_sureP l D cI cZ cG cJ A ad wr2 hpal c g hid code ans dbt opn ply hps pl (hI) (by omega)) (cwV 1 hts gX2_isSame_X1_sure rfl rfl rfl (by decide +kernel) ⟨Nat.le_of_ble_eq_true rfl, Nat.le_of_ble_eq_true rfl⟩) (preV (ci := 1) (q0 := 0) hB hS hP hD rfl rfl) rfl rfl hl.1 rfl (lv_room (Nat.le_of_ble_eq_true rfl)) dX2_isSame_505 ⟨by show _ ≤ 32000; omega, by show _ ≤ 126000; omega⟩) ?_
                        refine lv_iload hx hb dX2_isSame_508 (lv_at hl 11 rfl) ?_
                        refine lv_icmp_eq (tgt := 515) hx hb dX2_isSame_510 (by decide) (fun c510 => ?_) (fun c510 => absurd c510 (fun q => q (by rw [i2, show x4 = c by omega, last_sure c (by omega)])))
                        refine lv_iinc (v := nI (pl + 1)) (lv' := [(10, .int (nI (pl + 1))), (0, .ref (so)), (1, .ref (ad 0)), (2, .ref (u_6.2)), (3, .int (nI (cN (opS c g code ans dbt) 81))), (4, .int (nI (fo))), (5, .int (nI (db))), (6, .int (nI (bk))), (7, .ref (t7)), (8, .ref (hv)), (9, .int (nI (at9))), (11, .int (su)), (12, .int (nI (x4)))]) hx hb dX2_isSame_515 hl (k := 10) rfl (nI_add _ _) (by decide) rfl (fun ls hl => ?_)
                        refine lv_goto (tgt := 434) hx hb dX2_isSame_518 (by decide) ?_
                        exact ih434 (pl := pl + 1) (ls := ls) (hl := lv_sub hl [1, 2, 3, 4, 5, 6, 7, 8, 9, 10, 0] rfl) (H := H) (locs := locs) (hP := hP) (hS := hS) (hinv := by
                            omega
                          ) (hn9 := by
                            omega
                          )
                      · skip
                        refine lv_aload_n hx hb dX2_isSame_455 rfl (lv_at hl 1 rfl) ?_
                        refine lv_iload hx hb dX2_isSame_456 (lv_at hl 10 rfl) ?_
                        refine lv_iload hx hb dX2_isSame_458 (lv_at hl 12 rfl) ?_
                        refine x_csi (va_runV (As := [.int (nI (pl)), .int (nI (x4))]) (rest := []) ⟨hx, hb, hml, hown, hts⟩ (c_X1_haveP l D cI cZ cG cJ A ad wr2 hpal c g hid code ans dbt opn ply hps pl x4 (hI) (by omega) (by omega)) (cwV 2 hts gX2_isSame_X1_have rfl rfl rfl (by decide +kernel) ⟨Nat.le_of_ble_eq_true rfl, Nat.le_of_ble_eq_true rfl⟩) (preV (ci := 1) (q0 := 0) hB hS hP hD rfl rfl) rfl rfl hl.1 rfl (lv_room (Nat.le_of_ble_eq_true rfl)) dX2_isSame_460 ⟨by show _ ≤ 32000; omega, by show _ ≤ 126000; omega⟩) ?_
                        refine lv_aload hx hb dX2_isSame_463 (lv_at hl 8 rfl) ?_
                        refine lv_iload hx hb dX2_isSame_465 (lv_at hl 10 rfl) ?_
                        refine x_gald hx hb hK hP (wb.length + 7) 2 (atWX hV.2.2.1) rfl (i := pl) (by omega) (by omega) (r := r pl) (if_pos (by omega)) dX2_isSame_467 ?_
                        refine lv_iload hx hb dX2_isSame_468 (lv_at hl 12 rfl) ?_
                        refine x_iald hx hb hK hP (wb.length + 1 + pl + 7) 0 ((fun i hi => atWX (hV.2.2.2 i hi)) pl (by omega)) rfl (i := x4) (by omega) (by omega) dX2_isSame_470 ?_
                        refine x_ti (y := nI (hvN c (opS c g code ans dbt) pl x4)) (by rw [hMM pl (by omega) x4 (by omega)]) ?_
                        refine x_eq (tgt := 476) hx hb dX2_isSame_471 (by decide) (by omega) (by omega) (fun c471 => ?_) (fun c471 => absurd c471 (fun q => q rfl))
                        refine lv_iload_n hx hb dX2_isSame_476 rfl (lv_at hl 3 rfl) ?_
                        refine x_le0 (tgt := 496) hx hb dX2_isSame_477 (by decide) (by omega) (fun c477 => ?_) (fun c477 => ?_)
                        · skip
                          refine lv_iinc (v := nI (x4 + 1)) (lv' := [(12, .int (nI (x4 + 1))), (0, .ref (so)), (1, .ref (ad 0)), (2, .ref (u_6.2)), (3, .int (nI (cN (opS c g code ans dbt) 81))), (4, .int (nI (fo))), (5, .int (nI (db))), (6, .int (nI (bk))), (7, .ref (t7)), (8, .ref (hv)), (9, .int (nI (at9))), (10, .int (nI (pl))), (11, .int (su))]) hx hb dX2_isSame_496 hl (k := 12) rfl (nI_add _ _) (by decide) rfl (fun ls hl => ?_)
                          refine lv_goto (tgt := 446) hx hb dX2_isSame_499 (by decide) ?_
                          exact ih446 (x4 := x4 + 1) (su := su) (ls := ls) (hl := lv_sub hl [1, 2, 3, 4, 5, 6, 7, 8, 9, 10, 11, 12, 0] rfl) (H := H) (locs := locs) (hP := hP) (hS := hS) (hinv := by
                              refine ⟨by omega, ?_⟩
                              first | (rw [lastV, if_pos ⟨c477, c489⟩]; done) | (rw [lastV, if_neg (fun q => c489 q.2)]; exact i2) | (rw [lastV, if_neg (fun q => by omega)]; exact i2)
                            ) (hn9 := by
                              omega
                            )
                        · skip
                          refine lv_aload hx hb dX2_isSame_480 (lv_at hl 8 rfl) ?_
                          refine lv_iload hx hb dX2_isSame_482 (lv_at hl 10 rfl) ?_
                          refine x_gald hx hb hK hP (wb.length + 7) 2 (atWX hV.2.2.1) rfl (i := pl) (by omega) (by omega) (r := r pl) (if_pos (by omega)) dX2_isSame_484 ?_
                          refine lv_iload hx hb dX2_isSame_485 (lv_at hl 12 rfl) ?_
                          refine x_iald hx hb hK hP (wb.length + 1 + pl + 7) 0 ((fun i hi => atWX (hV.2.2.2 i hi)) pl (by omega)) rfl (i := x4) (by omega) (by omega) dX2_isSame_487 ?_
                          refine x_ti (y := nI (hvN c (opS c g code ans dbt) pl x4)) (by rw [hMM pl (by omega) x4 (by omega)]) ?_
                          refine lv_iload_n hx hb dX2_isSame_488 rfl (lv_at hl 3 rfl) ?_
                          refine x_ne (tgt := 496) hx hb dX2_isSame_489 (by decide) (by omega) (by omega) (fun c489 => ?_) (fun c489 => ?_)
                          · skip
                            refine lv_iinc (v := nI (x4 + 1)) (lv' := [(12, .int (nI (x4 + 1))), (0, .ref (so)), (1, .ref (ad 0)), (2, .ref (u_6.2)), (3, .int (nI (cN (opS c g code ans dbt) 81))), (4, .int (nI (fo))), (5, .int (nI (db))), (6, .int (nI (bk))), (7, .ref (t7)), (8, .ref (hv)), (9, .int (nI (at9))), (10, .int (nI (pl))), (11, .int (su))]) hx hb dX2_isSame_496 hl (k := 12) rfl (nI_add _ _) (by decide) rfl (fun ls hl => ?_)
                            refine lv_goto (tgt := 446) hx hb dX2_isSame_499 (by decide) ?_
                            exact ih446 (x4 := x4 + 1) (su := su) (ls := ls) (hl := lv_sub hl [1, 2, 3, 4, 5, 6, 7, 8, 9, 10, 11, 12, 0] rfl) (H := H) (locs := locs) (hP := hP) (hS := hS) (hinv := by
                                refine ⟨by omega, ?_⟩
                                first | (rw [lastV, if_pos ⟨c477, c489⟩]; done) | (rw [lastV, if_neg (fun q => c489 q.2)]; exact i2) | (rw [lastV, if_neg (fun q => by omega)]; exact i2)
                              ) (hn9 := by
                                omega
                              )
                          · skip
                            refine lv_iload hx hb dX2_isSame_492 (lv_at hl 12 rfl) ?_
                            refine lv_istore (lv' := [(11, .int (nI (x4))), (0, .ref (so)), (1, .ref (ad 0)), (2, .ref (u_6.2)), (3, .int (nI (cN (opS c g code ans dbt) 81))), (4, .int (nI (fo))), (5, .int (nI (db))), (6, .int (nI (bk))), (7, .ref (t7)), (8, .ref (hv)), (9, .int (nI (at9))), (10, .int (nI (pl))), (12, .int (nI (x4)))]) hx hb dX2_isSame_494 hl (by decide) rfl (fun ls hl => ?_)
                            refine lv_iinc (v := nI (x4 + 1)) (lv' := [(12, .int (nI (x4 + 1))), (11, .int (nI (x4))), (0, .ref (so)), (1, .ref (ad 0)), (2, .ref (u_6.2)), (3, .int (nI (cN (opS c g code ans dbt) 81))), (4, .int (nI (fo))), (5, .int (nI (db))), (6, .int (nI (bk))), (7, .ref (t7)), (8, .ref (hv)), (9, .int (nI (at9))), (10, .int (nI (pl)))]) hx hb dX2_isSame_496 hl (k := 12) rfl (nI_add _ _) (by decide) rfl (fun ls hl => ?_)
                            refine lv_goto (tgt := 446) hx hb dX2_isSame_499 (by decide) ?_
                            exact ih446 (x4 := x4 + 1) (su := nI (x4)) (ls := ls) (hl := lv_sub hl [2, 3, 4, 5, 6, 7, 8, 9, 10, 11, 12, 1, 0] rfl) (H := H) (locs := locs) (hP := hP) (hS := hS) (hinv := by
                                refine ⟨by omega, ?_⟩
                                first | (rw [lastV, if_pos ⟨c477, c489⟩]; done) | (rw [lastV, if_neg (fun q => c489 q.2)]; exact i2) | (rw [lastV, if_neg (fun q => by omega)]; exact i2)
                              ) (hn9 := by
                                omega
                              )
              · skip
                refine lv_aload_n hx hb dX2_isSame_346 rfl (lv_at hl 1 rfl) ?_
                refine lv_iload hx hb dX2_isSame_347 (lv_at hl 10 rfl) ?_
                refine x_csi (va_runV (As := [.int (nI (kk))]) (rest := []) ⟨hx, hb, hml, hown, hts⟩ (c_X1_isPossibleP l D cI cZ cG cJ A ad wr2 hpal c g hid code ans dbt opn ply hps kk (hI) (by omega)) (cwV 1 hts gX2_isSame_X1_isPossible rfl rfl rfl (by decide +kernel) ⟨Nat.le_of_ble_eq_true rfl, Nat.le_of_ble_eq_true rfl⟩) (preV (ci := 1) (q0 := 0) hB hS hP hD rfl rfl) rfl rfl hl.1 rfl (lv_room (Nat.le_of_ble_eq_true rfl)) dX2_isSame_349 ⟨by show _ ≤ 32000; omega, by show _ ≤ 126000; omega⟩) ?_
                refine lv_aload_n hx hb dX2_isSame_352 rfl (lv_at hl 2 rfl) ?_
                refine lv_iload hx hb dX2_isSame_353 (lv_at hl 10 rfl) ?_
                refine x_zald hx hb hK hP (0 + 7) 1 (atWX hthose2) rfl (i := kk) (by omega) (by omega) dX2_isSame_355 ?_
                refine x_ti (y := bI (opS c g code ans dbt kk)) (by rw [hw_6 kk (by omega), opS, decide_eq_true (show kk < qq c by omega), Bool.true_and]) ?_
                refine lv_icmp_eq (tgt := 361) hx hb dX2_isSame_356 (by decide) (fun c356 => ?_) (fun c356 => absurd c356 (fun q => q rfl))
                refine lv_aload_n hx hb dX2_isSame_361 rfl (lv_at hl 2 rfl) ?_
                refine lv_iload hx hb dX2_isSame_362 (lv_at hl 10 rfl) ?_
                refine x_zald hx hb hK hP (0 + 7) 1 (atWX hthose2) rfl (i := kk) (by omega) (by omega) dX2_isSame_364 ?_
                refine x_ti (y := bI (opS c g code ans dbt kk)) (by rw [hw_6 kk (by omega), opS, decide_eq_true (show kk < qq c by omega), Bool.true_and]) ?_
                refine x_zne (tgt := 371) hx hb dX2_isSame_365 (by decide) (fun c365 => ?_) (fun c365 => ?_)
                · skip
                  have hopk : opS c g code ans dbt kk = true := c365
                  refine lv_aload_n hx hb dX2_isSame_371 rfl (lv_at hl 1 rfl) ?_
                  refine lv_iload hx hb dX2_isSame_372 (lv_at hl 9 rfl) ?_
                  refine x_csi (va_runV (As := [.int (nI (at9))]) (rest := []) ⟨hx, hb, hml, hown, hts⟩ (c_X1_possibleP l D cI cZ cG cJ A ad wr2 hpal c g hid code ans dbt opn ply hps at9 kk (hI) (by omega) (hopk) (e2.symm)) (cwV 1 hts gX2_isSame_X1_possible rfl rfl rfl (by decide +kernel) ⟨Nat.le_of_ble_eq_true rfl, Nat.le_of_ble_eq_true rfl⟩) (preV (ci := 1) (q0 := 0) hB hS hP hD rfl rfl) rfl rfl hl.1 rfl (lv_room (Nat.le_of_ble_eq_true rfl)) dX2_isSame_374 ⟨by show _ ≤ 32000; omega, by show _ ≤ 126000; omega⟩) ?_
                  refine lv_iload hx hb dX2_isSame_377 (lv_at hl 10 rfl) ?_
                  refine x_eq (tgt := 384) hx hb dX2_isSame_379 (by decide) (by omega) (by omega) (fun c379 => ?_) (fun c379 => absurd c379 (fun q => q rfl))
                  refine lv_iinc (v := nI (at9 + 1)) (lv' := [(9, .int (nI (at9 + 1))), (0, .ref (so)), (1, .ref (ad 0)), (2, .ref (u_6.2)), (3, .int (nI (cN (opS c g code ans dbt) 81))), (4, .int (nI (fo))), (5, .int (nI (db))), (6, .int (nI (bk))), (7, .ref (t7)), (8, .ref (hv)), (10, .int (nI (kk)))]) hx hb dX2_isSame_384 hl (k := 9) rfl (nI_add _ _) (by decide) rfl (fun ls hl => ?_)
                  refine lv_aload_n hx hb dX2_isSame_387 rfl (lv_at hl 1 rfl) ?_
                  refine lv_iload hx hb dX2_isSame_388 (lv_at hl 10 rfl) ?_
                  refine va_callr (va_runV (As := [.int (nI (kk))]) (rest := []) ⟨hx, hb, hml, hown, hts⟩ (c_X2_candles l D cI cZ cG cJ A (WX ad cI cZ c g hid code ans dbt opn ply hps wr2) so c hid g code ans dbt kk (hc) ((SimAt.WX ⟨_, _, _, _, _, _, hF⟩)) (by omega)) (cwV 1 hts gX2_isSame_X2_candles rfl rfl rfl (by decide +kernel) ⟨Nat.le_of_ble_eq_true rfl, Nat.le_of_ble_eq_true rfl⟩) (preV (ci := 2) (q0 := ks + 1 + 7) hB hS hP hD (atWX hF.1) rfl) rfl rfl hl.1 rfl (lv_room (Nat.le_of_ble_eq_true rfl)) dX2_isSame_390 ⟨by show _ ≤ 32000; omega, by show _ ≤ 126000; omega⟩) hS (fun q _ h => h) (fun q h => h) (fun u_390 a9 t9 H1 locs1 ht9 hvm9 hw_390 hBw hz9 hk9 hS => ?_)
                  obtain ⟨rfl, hP, hD⟩ := hBw
                  rw [ht9] at hP
                  generalize H1 = H at hP hS ⊢
                  generalize locs1 = locs at hS ⊢
                  replace hP := P_perm permWX hP
                  replace hD := D_perm permWX hD
                  replace hP : va_P D vwCl (WX ad cI cZ c g hid code ans dbt opn ply hps ((u_390.2, .inl (cI, 4, .inl (fun j => nI (u_390.1 j)))) :: wr2)) H := hP
                  replace hD : va_D A (WX ad cI cZ c g hid code ans dbt opn ply hps ((u_390.2, .inl (cI, 4, .inl (fun j => nI (u_390.1 j)))) :: wr2)) := hD
                  refine lv_astore (lv' := [(11, .ref (u_390.2)), (9, .int (nI (at9 + 1))), (0, .ref (so)), (1, .ref (ad 0)), (2, .ref (u_6.2)), (3, .int (nI (cN (opS c g code ans dbt) 81))), (4, .int (nI (fo))), (5, .int (nI (db))), (6, .int (nI (bk))), (7, .ref (t7)), (8, .ref (hv)), (10, .int (nI (kk)))]) hx hb dX2_isSame_393 hl (by decide) rfl (fun ls hl => ?_)
                  refine lv_iconst (v := nI (0)) hx hb dX2_isSame_395 (by decide) ?_
                  refine lv_istore (lv' := [(12, .int (nI (0))), (11, .ref (u_390.2)), (9, .int (nI (at9 + 1))), (0, .ref (so)), (1, .ref (ad 0)), (2, .ref (u_6.2)), (3, .int (nI (cN (opS c g code ans dbt) 81))), (4, .int (nI (fo))), (5, .int (nI (db))), (6, .int (nI (bk))), (7, .ref (t7)), (8, .ref (hv)), (10, .int (nI (kk)))]) hx hb dX2_isSame_396 hl (by decide) rfl (fun ls hl => ?_)
                  -- loop at 398
                  have hinv : 0 ≤ 4 ∧ ∃ M2 : Nat → Nat → Nat, HV cI cG wb wr2 hv r c M2 ∧ ∀ k, k < 4 → ∀ x, x < c → (k < 0 → M2 k x = cN (fun z => (opS c g code ans dbt) z && decide (col c z k = x)) (kk + 1)) ∧ (0 ≤ k → M2 k x = cN (fun z => (opS c g code ans dbt) z && decide (col c z k = x)) kk) := by
                    exact ⟨Nat.zero_le _, M1, hV, fun k hk x hx9 => ⟨fun h => absurd h (Nat.not_lt_zero _), fun _ => hM k hk x hx9⟩⟩
                  obtain ⟨j4, wr3, hq9⟩ : ∃ (j4 : Nat) (wr3 : va_W), lv_has ls 13 [(0, .ref (so)), (1, .ref (ad 0)), (2, .ref (u_6.2)), (3, .int (nI (cN (opS c g code ans dbt) 81))), (4, .int (nI (fo))), (5, .int (nI (db))), (6, .int (nI (bk))), (7, .ref (t7)), (8, .ref (hv)), (9, .int (nI (at9 + 1))), (10, .int (nI (kk))), (11, .ref (u_390.2)), (12, .int (nI (j4)))] ∧ (j4 ≤ 4 ∧ ∃ M2 : Nat → Nat → Nat, HV cI cG wb wr3 hv r c M2 ∧ ∀ k, k < 4 → ∀ x, x < c → (k < j4 → M2 k x = cN (fun z => (opS c g code ans dbt) z && decide (col c z k = x)) (kk + 1)) ∧ (j4 ≤ k → M2 k x = cN (fun z => (opS c g code ans dbt) z && decide (col c z k = x)) kk)) ∧ va_P D vwCl (WX ad cI cZ c g hid code ans dbt opn ply hps ((u_390.2, .inl (cI, 4, .inl (fun j => nI (u_390.1 j)))) :: wr3)) H ∧ va_D A (WX ad cI cZ c g hid code ans dbt opn ply hps ((u_390.2, .inl (cI, 4, .inl (fun j => nI (u_390.1 j)))) :: wr3)) := ⟨0, wr2, lv_sub hl [3, 4, 5, 6, 7, 8, 9, 10, 11, 2, 12, 1, 0] rfl, hinv, hP, hD⟩
                  clear hl hinv hP hD
                  obtain ⟨hl, hinv, hP, hD⟩ := hq9
                  obtain ⟨n9_398, hn9⟩ : ∃ q : Nat, 4 - j4 < q := ⟨_, Nat.lt_succ_self _⟩
                  induction n9_398 generalizing ls H locs j4 wr3 with
                  | zero => exact absurd hn9 (Nat.not_lt_zero _)
                  | succ n9_398 ih398 =>
                    obtain ⟨g1, M2, hV2, hM2⟩ := hinv; have hcl := col_lt hc kk j4
                    refine lv_iload hx hb dX2_isSame_398 (lv_at hl 12 rfl) ?_
                    refine lv_iconst (v := nI (4)) hx hb dX2_isSame_400 (by decide) ?_
                    refine x_ge (tgt := 425) hx hb dX2_isSame_401 (by decide) (by omega) (by omega) (fun c401 => ?_) (fun c401 => ?_)
                    · skip
                      replace hP := P_drop hP
                      replace hD := D_drop hD
                      replace hP : va_P D vwCl (WX ad cI cZ c g hid code ans dbt opn ply hps wr3) H := hP
                      replace hD : va_D A (WX ad cI cZ c g hid code ans dbt opn ply hps wr3) := hD
                      refine lv_iinc (v := nI (kk + 1)) (lv' := [(10, .int (nI (kk + 1))), (0, .ref (so)), (1, .ref (ad 0)), (2, .ref (u_6.2)), (3, .int (nI (cN (opS c g code ans dbt) 81))), (4, .int (nI (fo))), (5, .int (nI (db))), (6, .int (nI (bk))), (7, .ref (t7)), (8, .ref (hv)), (9, .int (nI (at9 + 1))), (11, .ref (u_390.2)), (12, .int (nI (j4)))]) hx hb dX2_isSame_425 hl (k := 10) rfl (nI_add _ _) (by decide) rfl (fun ls hl => ?_)
                      refine lv_goto (tgt := 337) hx hb dX2_isSame_428 (by decide) ?_
                      exact ih337 (kk := kk + 1) (at9 := at9 + 1) (wr2 := wr3) (nc9 := _) (ns9 := _) (ls := ls) (hl := lv_sub hl [1, 2, 3, 4, 5, 6, 7, 8, 9, 10, 0] rfl) (H := H) (locs := locs) (hP := hP) (hD := hD) (hS := hS) (hinv := by
                          first | exact ⟨by omega, by rw [cN_n hopk]; exact e2, by omega, by omega, M1, hV, fun k hk x hx9 => by rw [hM k hk x hx9, cN_n (p := fun z => (opS c g code ans dbt) z && decide (col c z k = x)) (by simp [hopk])]⟩ | (have ej : j4 = 4 := (by omega); subst ej; exact ⟨by omega, by rw [cN_s hopk, e2], by omega, by omega, M2, hV2, fun k hk x hx9 => (hM2 k hk x hx9).1 hk⟩)
                        ) (hn9 := by
                          omega
                        )
                    · skip
                      refine lv_aload hx hb dX2_isSame_404 (lv_at hl 8 rfl) ?_
                      refine lv_iload hx hb dX2_isSame_406 (lv_at hl 12 rfl) ?_
                      refine x_gald hx hb hK hP (wb.length + 8) 2 (atWX2 hV2.2.2.1) rfl (i := j4) (by omega) (by omega) (r := r j4) (if_pos (by omega)) dX2_isSame_408 ?_
                      refine lv_aload hx hb dX2_isSame_409 (lv_at hl 11 rfl) ?_
                      refine lv_iload hx hb dX2_isSame_411 (lv_at hl 12 rfl) ?_
                      refine x_iald hx hb hK hP 7 0 rfl rfl (i := j4) (by omega) (by omega) dX2_isSame_413 ?_
                      refine x_ti (y := nI (col c kk j4)) (by rw [hw_390 j4 (by omega)]) ?_
                      refine lv_dup2_11 hx hb dX2_isSame_414 rfl rfl ?_
                      refine x_iald hx hb hK hP (wb.length + 1 + j4 + 8) 0 ((fun i hi => atWX2 (hV2.2.2.2 i hi)) j4 (by omega)) rfl (i := col c kk j4) (by omega) (by omega) dX2_isSame_415 ?_
                      have hmle : M2 j4 (col c kk j4) ≤ 81 := by rw [(hM2 j4 (by omega) _ hcl).2 (Nat.le_refl _)]; exact Nat.le_trans (cN_le _ _) (by omega)
                      refine lv_iconst (v := nI (1)) hx hb dX2_isSame_416 (by decide) ?_
                      refine lv_iadd hx hb dX2_isSame_417 ?_
                      refine x_ti (nI_add _ _) ?_
                      refine x_iast hx hb hK hP hD hS (wb.length + 1 + j4 + 8) 0 ((fun i hi => atWX2 (hV2.2.2.2 i hi)) j4 (by omega)) rfl (i := col c kk j4) (v := (M2 j4 (col c kk j4)) + 1) (by omega) (by omega) dX2_isSame_418 (fun H locs hP hD hS => ?_)
                      replace hP : va_P D vwCl (WX ad cI cZ c g hid code ans dbt opn ply hps ((u_390.2, .inl (cI, 4, .inl (fun j => nI (u_390.1 j)))) :: (wr3.set (wb.length + 1 + j4) (r j4, .inl (cI, c, .inl (fun z => nI (va_up (M2 j4) (col c kk j4) (M2 j4 (col c kk j4) + 1) z))))))) H := hP
                      replace hD : va_D A (WX ad cI cZ c g hid code ans dbt opn ply hps ((u_390.2, .inl (cI, 4, .inl (fun j => nI (u_390.1 j)))) :: (wr3.set (wb.length + 1 + j4) (r j4, .inl (cI, c, .inl (fun z => nI (va_up (M2 j4) (col c kk j4) (M2 j4 (col c kk j4) + 1) z))))))) := hD
                      refine lv_iinc (v := nI (j4 + 1)) (lv' := [(12, .int (nI (j4 + 1))), (0, .ref (so)), (1, .ref (ad 0)), (2, .ref (u_6.2)), (3, .int (nI (cN (opS c g code ans dbt) 81))), (4, .int (nI (fo))), (5, .int (nI (db))), (6, .int (nI (bk))), (7, .ref (t7)), (8, .ref (hv)), (9, .int (nI (at9 + 1))), (10, .int (nI (kk))), (11, .ref (u_390.2))]) hx hb dX2_isSame_419 hl (k := 12) rfl (nI_add _ _) (by decide) rfl (fun ls hl => ?_)
                      refine lv_goto (tgt := 398) hx hb dX2_isSame_422 (by decide) ?_
                      exact ih398 (j4 := j4 + 1) (wr3 := (wr3.set (wb.length + 1 + j4) (r j4, .inl (cI, c, .inl (fun z => nI (va_up (M2 j4) (col c kk j4) (M2 j4 (col c kk j4) + 1) z)))))) (ls := ls) (hl := lv_sub hl [1, 2, 3, 4, 5, 6, 7, 8, 9, 10, 11, 12, 0] rfl) (H := H) (locs := locs) (hP := hP) (hD := hD) (hS := hS) (hinv := by
                          exact ⟨by omega, _, hV2.put (by omega), have_up hopk hM2 (by omega)⟩
                        ) (hn9 := by
                          omega
                        )
                · skip
                  have hopk : opS c g code ans dbt kk = false := c365
                  refine lv_goto (tgt := 425) hx hb dX2_isSame_368 (by decide) ?_
                  refine lv_iinc (v := nI (kk + 1)) (lv' := [(10, .int (nI (kk + 1))), (0, .ref (so)), (1, .ref (ad 0)), (2, .ref (u_6.2)), (3, .int (nI (cN (opS c g code ans dbt) 81))), (4, .int (nI (fo))), (5, .int (nI (db))), (6, .int (nI (bk))), (7, .ref (t7)), (8, .ref (hv)), (9, .int (nI (at9)))]) hx hb dX2_isSame_425 hl (k := 10) rfl (nI_add _ _) (by decide) rfl (fun ls hl => ?_)
                  refine lv_goto (tgt := 337) hx hb dX2_isSame_428 (by decide) ?_
                  exact ih337 (kk := kk + 1) (at9 := at9) (wr2 := wr2) (nc9 := _) (ns9 := _) (ls := ls) (hl := lv_sub hl [1, 2, 3, 4, 5, 6, 7, 8, 9, 10, 0] rfl) (H := H) (locs := locs) (hP := hP) (hD := hD) (hS := hS) (hinv := by
                      first | exact ⟨by omega, by rw [cN_n hopk]; exact e2, by omega, by omega, M1, hV, fun k hk x hx9 => by rw [hM k hk x hx9, cN_n (p := fun z => (opS c g code ans dbt) z && decide (col c z k = x)) (by simp [hopk])]⟩ | (have ej : j4 = 4 := (by omega); subst ej; exact ⟨by omega, by rw [cN_s hopk, e2], by omega, by omega, M2, hV2, fun k hk x hx9 => (hM2 k hk x hx9).1 hk⟩)
                    ) (hn9 := by
                      omega
                    )
          · skip
            refine lv_aload_n hx hb dX2_isSame_298 rfl (lv_at hl 1 rfl) ?_
            refine lv_iload hx hb dX2_isSame_299 (lv_at hl 8 rfl) ?_
            refine x_csi (va_runV (As := [.int (nI (w7))]) (rest := []) ⟨hx, hb, hml, hown, hts⟩ (c_X1_countP l D cI cZ cG cJ A ad ((t7, .inl (cI, 7, .inl (fun j => nI ((va_up (va_up (va_up (va_up (va_up (va_up (va_up (fun _ => 0) 0 c) 1 (qq c)) 2 g) 3 (cN (opS c g code ans dbt) 81)) 4 hb9) 5 fo) 6 db) j)))) :: wb) (hpal.cons _) c g hid code ans dbt opn ply hps w7 (hI) (by omega)) (cwV 1 hts gX2_isSame_X1_count rfl rfl rfl (by decide +kernel) ⟨Nat.le_of_ble_eq_true rfl, Nat.le_of_ble_eq_true rfl⟩) (preV (ci := 1) (q0 := 0) hB hS hP hD rfl rfl) rfl rfl hl.1 rfl (lv_room (Nat.le_of_ble_eq_true rfl)) dX2_isSame_301 ⟨by show _ ≤ 32000; omega, by show _ ≤ 126000; omega⟩) ?_
            have hcl7 := cnt_lt (hid := hid) (code := code) (ans := ans) (dbt := dbt) hc hg (show w7 < 7 by omega)
            refine lv_aload hx hb dX2_isSame_304 (lv_at hl 7 rfl) ?_
            refine lv_iload hx hb dX2_isSame_306 (lv_at hl 8 rfl) ?_
            refine x_iald hx hb hK hP 7 0 rfl rfl (i := w7) (by omega) (by omega) dX2_isSame_308 ?_
            refine x_ti (y := nI (cntV c g hid code ans dbt w7)) (by rw [hfc w7 (by omega)]) ?_
            refine x_eq (tgt := 314) hx hb dX2_isSame_309 (by decide) (hcl7) (hcl7) (fun c309 => ?_) (fun c309 => absurd c309 (fun q => q rfl))
            refine lv_iinc (v := nI (w7 + 1)) (lv' := [(8, .int (nI (w7 + 1))), (0, .ref (so)), (1, .ref (ad 0)), (2, .ref (u_6.2)), (3, .int (nI (cN (opS c g code ans dbt) 81))), (4, .int (nI (fo))), (5, .int (nI (db))), (6, .int (nI (bk))), (7, .ref (t7))]) hx hb dX2_isSame_314 hl (k := 8) rfl (nI_add _ _) (by decide) rfl (fun ls hl => ?_)
            refine lv_goto (tgt := 291) hx hb dX2_isSame_317 (by decide) ?_
            exact ih291 (w7 := w7 + 1) (ls := ls) (hl := lv_sub hl [1, 2, 3, 4, 5, 6, 7, 8, 0] rfl) (H := H) (locs := locs) (hP := hP) (hS := hS) (hinv := by
                omega
              ) (hn9 := by
                omega
              )
      · skip
        refine lv_if_ge (tgt := 273) hx hb dX2_isSame_266 (by decide) (fun c266 => ?_) (fun c266 => ?_)
        · skip
          refine lv_iconst (v := nI (1)) hx hb dX2_isSame_273 (by decide) ?_
          refine x_ti (y := nI (hb9)) (by first | (rw [ehb, if_neg (fun q => absurd c266 (by rw [q]; decide))]; done) | (rw [ehb, if_pos (hid_neg (by omega) hhid (Int32.not_le.mp c266))]; done)) ?_
          exact hj274
        · skip
          refine lv_iconst (v := nI (0)) hx hb dX2_isSame_269 (by decide) ?_
          refine lv_goto (tgt := 274) hx hb dX2_isSame_270 (by decide) ?_
          refine x_ti (y := nI (hb9)) (by first | (rw [ehb, if_neg (fun q => absurd c266 (by rw [q]; decide))]; done) | (rw [ehb, if_pos (hid_neg (by omega) hhid (Int32.not_le.mp c266))]; done)) ?_
          exact hj274
    · skip
      refine lv_aload_n hx hb dX2_isSame_37 rfl (lv_at hl 0 rfl) ?_
      refine va_get (D := D) (ci := 2) (v := .ref (ga)) (C := RX2) (T := TX2) (N := 3) hx hb hts hinX2 hown hK hP (ks + 1 + 7) (atWX hF.1) rfl 2 (by decide) lk18 (fun _ h9 => h9) rfl dX2_isSame_38 ?_
      refine lv_iload hx hb dX2_isSame_41 (lv_at hl 7 rfl) ?_
      refine x_gald hx hb hK hP (kg + 1 + 7) 2 (atWX hF.2.1) rfl (i := gi) (by omega) (by omega) (r := ra gi) (if_pos (by omega)) dX2_isSame_43 ?_
      refine lv_astore (lv' := [(8, .ref (ra gi)), (0, .ref (so)), (1, .ref (ad 0)), (2, .ref (u_6.2)), (3, .int (nI (cN (opS c g code ans dbt) 81))), (4, .int (nI (fo))), (5, .int (nI (db))), (6, .int (nI (bk))), (7, .int (nI (gi)))]) hx hb dX2_isSame_44 hl (by decide) rfl (fun ls hl => ?_)
      refine lv_iconst (v := nI (0)) hx hb dX2_isSame_46 (by decide) ?_
      refine lv_istore (lv' := [(9, .int (nI (0))), (8, .ref (ra gi)), (0, .ref (so)), (1, .ref (ad 0)), (2, .ref (u_6.2)), (3, .int (nI (cN (opS c g code ans dbt) 81))), (4, .int (nI (fo))), (5, .int (nI (db))), (6, .int (nI (bk))), (7, .int (nI (gi)))]) hx hb dX2_isSame_47 hl (by decide) rfl (fun ls hl => ?_)
      refine lv_iconst (v := nI (0)) hx hb dX2_isSame_49 (by decide) ?_
      refine lv_istore (lv' := [(10, .int (nI (0))), (9, .int (nI (0))), (8, .ref (ra gi)), (0, .ref (so)), (1, .ref (ad 0)), (2, .ref (u_6.2)), (3, .int (nI (cN (opS c g code ans dbt) 81))), (4, .int (nI (fo))), (5, .int (nI (db))), (6, .int (nI (bk))), (7, .int (nI (gi)))]) hx hb dX2_isSame_50 hl (by decide) rfl (fun ls hl => ?_)
      -- loop at 52
      have hinv : 0 ≤ qq c ∧ 0 = cN (fun z => decide (pins c (code gi) z = ans gi)) 0 ∧ nc ≤ 2200 + 2300 * gi + 2 * 0 ∧ ns ≤ 9000 + 9500 * gi + 8 * 0 := by
        exact ⟨Nat.zero_le _, rfl, by omega, by omega⟩
      obtain ⟨k2, al, hq9⟩ : ∃ (k2 : Nat) (al : Nat), lv_has ls 13 [(0, .ref (so)), (1, .ref (ad 0)), (2, .ref (u_6.2)), (3, .int (nI (cN (opS c g code ans dbt) 81))), (4, .int (nI (fo))), (5, .int (nI (db))), (6, .int (nI (bk))), (7, .int (nI (gi))), (8, .ref (ra gi)), (9, .int (nI (al))), (10, .int (nI (k2)))] ∧ (k2 ≤ qq c ∧ al = cN (fun z => decide (pins c (code gi) z = ans gi)) k2 ∧ nc ≤ 2200 + 2300 * gi + 2 * k2 ∧ ns ≤ 9000 + 9500 * gi + 8 * k2) ∧ va_P D vwCl (WX ad cI cZ c g hid code ans dbt opn ply hps wb) H ∧ va_D A (WX ad cI cZ c g hid code ans dbt opn ply hps wb) := ⟨0, 0, lv_sub hl [3, 4, 5, 6, 7, 8, 9, 10, 2, 1, 0] rfl, hinv, hP, hD⟩
      clear hl hinv hP hD
      obtain ⟨hl, hinv, hP, hD⟩ := hq9
      clear h5 h6
      obtain ⟨n9_52, hn9⟩ : ∃ q : Nat, qq c - k2 < q := ⟨_, Nat.lt_succ_self _⟩
      induction n9_52 generalizing ls H locs nc ns k2 al with
      | zero => exact absurd hn9 (Nat.not_lt_zero _)
      | succ n9_52 ih52 =>
        obtain ⟨d1, d2, d3, d4⟩ := hinv; have hle4 := cN_le (fun z => decide (pins c (code gi) z = ans gi)) k2
        refine lv_iload hx hb dX2_isSame_52 (lv_at hl 10 rfl) ?_
        refine lv_aload_n hx hb dX2_isSame_54 rfl (lv_at hl 0 rfl) ?_
        refine x_csi (va_runV (As := []) (rest := [.int (nI (k2))]) ⟨hx, hb, hml, hown, hts⟩ (c_X2_codes l D cI cZ cG cJ A (WX ad cI cZ c g hid code ans dbt opn ply hps wb) so c hid g code ans dbt (hc) ((SimAt.WX ⟨_, _, _, _, _, _, hF⟩))) (cwV 0 hts gX2_isSame_X2_codes rfl rfl rfl (by decide +kernel) ⟨Nat.le_of_ble_eq_true rfl, Nat.le_of_ble_eq_true rfl⟩) (preV (ci := 2) (q0 := ks + 1 + 7) hB hS hP hD (atWX hF.1) rfl) rfl rfl hl.1 rfl (lv_room (Nat.le_of_ble_eq_true rfl)) dX2_isSame_55 ⟨by show _ ≤ 32000; omega, by show _ ≤ 126000; omega⟩) ?_
        refine x_ge (tgt := 94) hx hb dX2_isSame_58 (by decide) (by omega) (by omega) (fun c58 => ?_) (fun c58 => ?_)
        · skip
          refine lv_bipush (v := nI (6)) hx hb dX2_isSame_94 (by decide) ?_
          refine x_newiC hx hb (hts _ (by decide +kernel)) hB hP hD hS (n := 6) (by decide) (by show _ ≤ 32000; omega) (by show _ ≤ 126000; omega) dX2_isSame_96 (fun tn H2 hP2 hD2 hS2 => ?_)
          clear hP hD hS
          generalize H2 = H at hP2 hS2 ⊢
          have hP := hP2; have hD := hD2; have hS := hS2
          clear hP2 hD2 hS2
          replace hP := P_perm permWX hP
          replace hD := D_perm permWX hD
          replace hP : va_P D vwCl (WX ad cI cZ c g hid code ans dbt opn ply hps ((tn, .inl (cI, 6, .inl (fun j => nI ((fun _ => 0) j)))) :: wb)) H := hP
          replace hD : va_D A (WX ad cI cZ c g hid code ans dbt opn ply hps ((tn, .inl (cI, 6, .inl (fun j => nI ((fun _ => 0) j)))) :: wb)) := hD
          have hai := (hco gi (by omega)).2
          have hci := (hco gi (by omega)).1
          refine lv_dup hx hb dX2_isSame_98 rfl ?_
          refine lv_iconst (v := nI (0)) hx hb dX2_isSame_99 (by decide) ?_
          refine lv_aload hx hb dX2_isSame_100 (lv_at hl 8 rfl) ?_
          refine lv_iconst (v := nI (0)) hx hb dX2_isSame_102 (by decide) ?_
          refine x_iald hx hb hK hP (kr gi + 1 + 8) 0 (atWX2 (hF.2.2.1 gi (by omega))) rfl (i := 0) (by omega) (by omega) dX2_isSame_103 ?_
          refine x_ti (y := nI (code gi)) (by rw [(hF.2.2.2.2 gi (by omega)).1]) ?_
          refine x_iast hx hb hK hP hD hS 7 0 rfl rfl (i := 0) (v := code gi) (by omega) (by omega) dX2_isSame_104 (fun H locs hP hD hS => ?_)
          replace hP : va_P D vwCl (WX ad cI cZ c g hid code ans dbt opn ply hps ((tn, .inl (cI, 6, .inl (fun j => nI ((va_up (fun _ => 0) 0 (code gi)) j)))) :: wb)) H := hP
          replace hD : va_D A (WX ad cI cZ c g hid code ans dbt opn ply hps ((tn, .inl (cI, 6, .inl (fun j => nI ((va_up (fun _ => 0) 0 (code gi)) j)))) :: wb)) := hD
          refine lv_dup hx hb dX2_isSame_105 rfl ?_
          refine lv_iconst (v := nI (1)) hx hb dX2_isSame_106 (by decide) ?_
          refine lv_aload hx hb dX2_isSame_107 (lv_at hl 8 rfl) ?_
          refine lv_iconst (v := nI (1)) hx hb dX2_isSame_109 (by decide) ?_
          refine x_iald hx hb hK hP (kr gi + 1 + 8) 0 (atWX2 (hF.2.2.1 gi (by omega))) rfl (i := 1) (by omega) (by omega) dX2_isSame_110 ?_
          refine x_ti (y := nI (ans gi)) (by rw [(hF.2.2.2.2 gi (by omega)).2.1]) ?_
          refine lv_iconst (v := nI (5)) hx hb dX2_isSame_111 (by decide) ?_
          refine lv_idiv hx hb dX2_isSame_112 (nI_ne0 (by omega) (by omega)) ?_
          refine x_ti (pk_div (by omega) (by omega) (by omega)) ?_
          refine x_iast hx hb hK hP hD hS 7 0 rfl rfl (i := 1) (v := (ans gi) / 5) (by omega) (by omega) dX2_isSame_113 (fun H locs hP hD hS => ?_)
          replace hP : va_P D vwCl (WX ad cI cZ c g hid code ans dbt opn ply hps ((tn, .inl (cI, 6, .inl (fun j => nI ((va_up (va_up (fun _ => 0) 0 (code gi)) 1 ((ans gi) / 5)) j)))) :: wb)) H := hP
          replace hD : va_D A (WX ad cI cZ c g hid code ans dbt opn ply hps ((tn, .inl (cI, 6, .inl (fun j => nI ((va_up (va_up (fun _ => 0) 0 (code gi)) 1 ((ans gi) / 5)) j)))) :: wb)) := hD
          refine lv_dup hx hb dX2_isSame_114 rfl ?_
          refine lv_iconst (v := nI (2)) hx hb dX2_isSame_115 (by decide) ?_
          refine lv_aload hx hb dX2_isSame_116 (lv_at hl 8 rfl) ?_
          refine lv_iconst (v := nI (1)) hx hb dX2_isSame_118 (by decide) ?_
          refine x_iald hx hb hK hP (kr gi + 1 + 8) 0 (atWX2 (hF.2.2.1 gi (by omega))) rfl (i := 1) (by omega) (by omega) dX2_isSame_119 ?_
          refine x_ti (y := nI (ans gi)) (by rw [(hF.2.2.2.2 gi (by omega)).2.1]) ?_
          refine lv_iconst (v := nI (5)) hx hb dX2_isSame_120 (by decide) ?_
          refine lv_irem hx hb dX2_isSame_121 (nI_ne0 (by omega) (by omega)) ?_
          refine x_ti (pk_rem (by omega) (by omega) (by omega)) ?_
          refine x_iast hx hb hK hP hD hS 7 0 rfl rfl (i := 2) (v := (ans gi) % 5) (by omega) (by omega) dX2_isSame_122 (fun H locs hP hD hS => ?_)
          replace hP : va_P D vwCl (WX ad cI cZ c g hid code ans dbt opn ply hps ((tn, .inl (cI, 6, .inl (fun j => nI ((va_up (va_up (va_up (fun _ => 0) 0 (code gi)) 1 ((ans gi) / 5)) 2 ((ans gi) % 5)) j)))) :: wb)) H := hP
          replace hD : va_D A (WX ad cI cZ c g hid code ans dbt opn ply hps ((tn, .inl (cI, 6, .inl (fun j => nI ((va_up (va_up (va_up (fun _ => 0) 0 (code gi)) 1 ((ans gi) / 5)) 2 ((ans gi) % 5)) j)))) :: wb)) := hD
          refine lv_dup hx hb dX2_isSame_123 rfl ?_
          refine lv_iconst (v := nI (3)) hx hb dX2_isSame_124 (by decide) ?_
          refine lv_aload hx hb dX2_isSame_125 (lv_at hl 8 rfl) ?_
          refine lv_iconst (v := nI (2)) hx hb dX2_isSame_127 (by decide) ?_
          refine x_iald hx hb hK hP (kr gi + 1 + 8) 0 (atWX2 (hF.2.2.1 gi (by omega))) rfl (i := 2) (by omega) (by omega) dX2_isSame_128 ?_
          have hbn := bN_le (dbt gi)
          refine x_ti (y := nI (bN (dbt gi))) (by rw [(hF.2.2.2.2 gi (by omega)).2.2]) ?_
          refine x_iast hx hb hK hP hD hS 7 0 rfl rfl (i := 3) (v := bN (dbt gi)) (by omega) (by omega) dX2_isSame_129 (fun H locs hP hD hS => ?_)
          replace hP : va_P D vwCl (WX ad cI cZ c g hid code ans dbt opn ply hps ((tn, .inl (cI, 6, .inl (fun j => nI ((va_up (va_up (va_up (va_up (fun _ => 0) 0 (code gi)) 1 ((ans gi) / 5)) 2 ((ans gi) % 5)) 3 (bN (dbt gi))) j)))) :: wb)) H := hP
          replace hD : va_D A (WX ad cI cZ c g hid code ans dbt opn ply hps ((tn, .inl (cI, 6, .inl (fun j => nI ((va_up (va_up (va_up (va_up (fun _ => 0) 0 (code gi)) 1 ((ans gi) / 5)) 2 ((ans gi) % 5)) 3 (bN (dbt gi))) j)))) :: wb)) := hD
          refine lv_dup hx hb dX2_isSame_130 rfl ?_
          refine lv_iconst (v := nI (4)) hx hb dX2_isSame_131 (by decide) ?_
          refine lv_aload_n hx hb dX2_isSame_132 rfl (lv_at hl 0 rfl) ?_
          refine lv_iload hx hb dX2_isSame_133 (lv_at hl 7 rfl) ?_
          refine lv_iconst (v := nI (1)) hx hb dX2_isSame_135 (by decide) ?_
          refine lv_iadd hx hb dX2_isSame_136 ?_
          refine x_ti (nI_add _ _) ?_
          refine va_callr (va_runV (As := [.int (nI (gi + 1))]) (rest := [.int (nI (4)), .ref (tn), .ref (tn)]) ⟨hx, hb, hml, hown, hts⟩ (c_X2_possible l D cI cZ cG cJ A (WX ad cI cZ c g hid code ans dbt opn ply hps ((tn, .inl (cI, 6, .inl (fun j => nI ((va_up (va_up (va_up (va_up (fun _ => 0) 0 (code gi)) 1 ((ans gi) / 5)) 2 ((ans gi) % 5)) 3 (bN (dbt gi))) j)))) :: wb)) so c hid g code ans dbt (gi + 1) (hc) (((SimAt.cons _ ⟨_, _, _, _, _, _, hF⟩).WX)) (by omega) (by omega) (hco)) (cwV 1 hts gX2_isSame_X2_possible rfl rfl rfl (by decide +kernel) ⟨Nat.le_of_ble_eq_true rfl, Nat.le_of_ble_eq_true rfl⟩) (preV (ci := 2) (q0 := ks + 1 + 8) hB hS hP hD (atWX2 hF.1) rfl) rfl rfl hl.1 rfl (lv_room (Nat.le_of_ble_eq_true rfl)) dX2_isSame_137 ⟨by show _ ≤ 32000; omega, by show _ ≤ 126000; omega⟩) hS (fun q _ h => h) (fun q h => h) (fun u_137 a9 t9 H1 locs1 ht9 hvm9 hw_137 hBw hz9 hk9 hS => ?_)
          obtain ⟨rfl, hP, hD⟩ := hBw
          rw [ht9] at hP
          generalize H1 = H at hP hS ⊢
          generalize locs1 = locs at hS ⊢
          replace hP := P_perm permWX hP
          replace hD := D_perm permWX hD
          replace hP : va_P D vwCl (WX ad cI cZ c g hid code ans dbt opn ply hps ((u_137.2, .inl (cZ, qq c, .inl (fun j => bI (u_137.1 j)))) :: (tn, .inl (cI, 6, .inl (fun j => nI ((va_up (va_up (va_up (va_up (fun _ => 0) 0 (code gi)) 1 ((ans gi) / 5)) 2 ((ans gi) % 5)) 3 (bN (dbt gi))) j)))) :: wb)) H := hP
          replace hD : va_D A (WX ad cI cZ c g hid code ans dbt opn ply hps ((u_137.2, .inl (cZ, qq c, .inl (fun j => bI (u_137.1 j)))) :: (tn, .inl (cI, 6, .inl (fun j => nI ((va_up (va_up (va_up (va_up (fun _ => 0) 0 (code gi)) 1 ((ans gi) / 5)) 2 ((ans gi) % 5)) 3 (bN (dbt gi))) j)))) :: wb)) := hD
          refine x_csi (va_runS (As := [.ref (u_137.2)]) (rest := [.int (nI (4)), .ref (tn), .ref (tn)]) ⟨hx, hb, hml, hown, hts⟩ (c_X2_many l D cI cZ cG cJ A (WX ad cI cZ c g hid code ans dbt opn ply hps ((u_137.2, .inl (cZ, qq c, .inl (fun j => bI (u_137.1 j)))) :: (tn, .inl (cI, 6, .inl (fun j => nI ((va_up (va_up (va_up (va_up (fun _ => 0) 0 (code gi)) 1 ((ans gi) / 5)) 2 ((ans gi) % 5)) 3 (bN (dbt gi))) j)))) :: wb)) u_137.2 7 (qq c) u_137.1 (rfl) (by omega)) (va_cwS 1 hts gX2_isSame_X2_many rfl rfl rfl (by decide +kernel) ⟨Nat.le_of_ble_eq_true rfl, Nat.le_of_ble_eq_true rfl⟩) (preS hB hS hP hD) rfl rfl hl.1 rfl (lv_room (Nat.le_of_ble_eq_true rfl)) dX2_isSame_140 ⟨by show _ ≤ 32000; omega, by show _ ≤ 126000; omega⟩) ?_
          refine x_ti (y := nI (cN (fit c code ans dbt (gi + 1)) (qq c))) (by rw [cN_congr _ hw_137]) ?_
          refine x_iast hx hb hK hP hD hS 8 0 rfl rfl (i := 4) (v := cN (fit c code ans dbt (gi + 1)) (qq c)) (by omega) (by omega) dX2_isSame_143 (fun H locs hP hD hS => ?_)
          replace hP : va_P D vwCl (WX ad cI cZ c g hid code ans dbt opn ply hps ((u_137.2, .inl (cZ, qq c, .inl (fun j => bI (u_137.1 j)))) :: (tn, .inl (cI, 6, .inl (fun j => nI ((va_up (va_up (va_up (va_up (va_up (fun _ => 0) 0 (code gi)) 1 ((ans gi) / 5)) 2 ((ans gi) % 5)) 3 (bN (dbt gi))) 4 (cN (fit c code ans dbt (gi + 1)) (qq c))) j)))) :: wb)) H := hP
          replace hD : va_D A (WX ad cI cZ c g hid code ans dbt opn ply hps ((u_137.2, .inl (cZ, qq c, .inl (fun j => bI (u_137.1 j)))) :: (tn, .inl (cI, 6, .inl (fun j => nI ((va_up (va_up (va_up (va_up (va_up (fun _ => 0) 0 (code gi)) 1 ((ans gi) / 5)) 2 ((ans gi) % 5)) 3 (bN (dbt gi))) 4 (cN (fit c code ans dbt (gi + 1)) (qq c))) j)))) :: wb)) := hD
          refine lv_dup hx hb dX2_isSame_144 rfl ?_
          refine lv_iconst (v := nI (5)) hx hb dX2_isSame_145 (by decide) ?_
          refine lv_iload hx hb dX2_isSame_146 (lv_at hl 9 rfl) ?_
          refine x_iast hx hb hK hP hD hS 8 0 rfl rfl (i := 5) (v := al) (by omega) (by omega) dX2_isSame_148 (fun H locs hP hD hS => ?_)
          replace hP : va_P D vwCl (WX ad cI cZ c g hid code ans dbt opn ply hps ((u_137.2, .inl (cZ, qq c, .inl (fun j => bI (u_137.1 j)))) :: (tn, .inl (cI, 6, .inl (fun j => nI ((va_up (va_up (va_up (va_up (va_up (va_up (fun _ => 0) 0 (code gi)) 1 ((ans gi) / 5)) 2 ((ans gi) % 5)) 3 (bN (dbt gi))) 4 (cN (fit c code ans dbt (gi + 1)) (qq c))) 5 al) j)))) :: wb)) H := hP
          replace hD : va_D A (WX ad cI cZ c g hid code ans dbt opn ply hps ((u_137.2, .inl (cZ, qq c, .inl (fun j => bI (u_137.1 j)))) :: (tn, .inl (cI, 6, .inl (fun j => nI ((va_up (va_up (va_up (va_up (va_up (va_up (fun _ => 0) 0 (code gi)) 1 ((ans gi) / 5)) 2 ((ans gi) % 5)) 3 (bN (dbt gi))) 4 (cN (fit c code ans dbt (gi + 1)) (qq c))) 5 al) j)))) :: wb)) := hD
          have ek2 : k2 = qq c := by omega
          refine lv_astore (lv' := [(10, .ref (tn)), (0, .ref (so)), (1, .ref (ad 0)), (2, .ref (u_6.2)), (3, .int (nI (cN (opS c g code ans dbt) 81))), (4, .int (nI (fo))), (5, .int (nI (db))), (6, .int (nI (bk))), (7, .int (nI (gi))), (8, .ref (ra gi)), (9, .int (nI (al)))]) hx hb dX2_isSame_149 hl (by decide) rfl (fun ls hl => ?_)
          refine lv_iconst (v := nI (0)) hx hb dX2_isSame_151 (by decide) ?_
          have hfv : ∀ w, w < 6 → (va_up (va_up (va_up (va_up (va_up (va_up (fun _ => 0) 0 (code gi)) 1 ((ans gi) / 5)) 2 ((ans gi) % 5)) 3 (bN (dbt gi))) 4 (cN (fit c code ans dbt (gi + 1)) (qq c))) 5 al) w = tldV c code ans dbt gi w := by
            intro w hw9
            obtain rfl | rfl | rfl | rfl | rfl | rfl : w = 0 ∨ w = 1 ∨ w = 2 ∨ w = 3 ∨ w = 4 ∨ w = 5 := by omega
            · simp [va_up, tldV]
            · simp [va_up, tldV]
            · simp [va_up, tldV]
            · simp [va_up, tldV, bN]
            · simp [va_up, tldV]
            · simp [va_up, tldV, d2, ek2]
          refine lv_istore (lv' := [(11, .int (nI (0))), (10, .ref (tn)), (0, .ref (so)), (1, .ref (ad 0)), (2, .ref (u_6.2)), (3, .int (nI (cN (opS c g code ans dbt) 81))), (4, .int (nI (fo))), (5, .int (nI (db))), (6, .int (nI (bk))), (7, .int (nI (gi))), (8, .ref (ra gi)), (9, .int (nI (al)))]) hx hb dX2_isSame_152 hl (by decide) rfl (fun ls hl => ?_)
          -- loop at 154
          have hinv : 0 ≤ 6 := by
            exact Nat.zero_le _
          obtain ⟨w5, hq9⟩ : ∃ (w5 : Nat), lv_has ls 13 [(0, .ref (so)), (1, .ref (ad 0)), (2, .ref (u_6.2)), (3, .int (nI (cN (opS c g code ans dbt) 81))), (4, .int (nI (fo))), (5, .int (nI (db))), (6, .int (nI (bk))), (7, .int (nI (gi))), (8, .ref (ra gi)), (9, .int (nI (al))), (10, .ref (tn)), (11, .int (nI (w5)))] ∧ (w5 ≤ 6) ∧ va_P D vwCl (WX ad cI cZ c g hid code ans dbt opn ply hps ((u_137.2, .inl (cZ, qq c, .inl (fun j => bI (u_137.1 j)))) :: (tn, .inl (cI, 6, .inl (fun j => nI ((va_up (va_up (va_up (va_up (va_up (va_up (fun _ => 0) 0 (code gi)) 1 ((ans gi) / 5)) 2 ((ans gi) % 5)) 3 (bN (dbt gi))) 4 (cN (fit c code ans dbt (gi + 1)) (qq c))) 5 al) j)))) :: wb)) H ∧ va_D A (WX ad cI cZ c g hid code ans dbt opn ply hps ((u_137.2, .inl (cZ, qq c, .inl (fun j => bI (u_137.1 j)))) :: (tn, .inl (cI, 6, .inl (fun j => nI ((va_up (va_up (va_up (va_up (va_up (va_up (fun _ => 0) 0 (code gi)) 1 ((ans gi) / 5)) 2 ((ans gi) % 5)) 3 (bN (dbt gi))) 4 (cN (fit c code ans dbt (gi + 1)) (qq c))) 5 al) j)))) :: wb)) := ⟨0, lv_sub hl [2, 3, 4, 5, 6, 7, 8, 9, 10, 11, 1, 0] rfl, hinv, hP, hD⟩
          clear hl hinv hP hD
          obtain ⟨hl, hinv, hP, hD⟩ := hq9
          obtain ⟨n9_154, hn9⟩ : ∃ q : Nat, 6 - w5 < q := ⟨_, Nat.lt_succ_self _⟩
          induction n9_154 generalizing ls H locs w5 with
          | zero => exact absurd hn9 (Nat.not_lt_zero _)
          | succ n9_154 ih154 =>
            refine lv_iload hx hb dX2_isSame_154 (lv_at hl 11 rfl) ?_
            refine lv_bipush (v := nI (6)) hx hb dX2_isSame_156 (by decide) ?_
            refine x_ge (tgt := 185) hx hb dX2_isSame_158 (by decide) (by omega) (by omega) (fun c158 => ?_) (fun c158 => ?_)
            · skip
              refine lv_iload hx hb dX2_isSame_185 (lv_at hl 4 rfl) ?_
              refine lv_aload hx hb dX2_isSame_187 (lv_at hl 8 rfl) ?_
              refine lv_iconst (v := nI (1)) hx hb dX2_isSame_189 (by decide) ?_
              refine x_iald hx hb hK hP (kr gi + 1 + 9) 0 (atWXa3 (hF.2.2.1 gi (by omega))) rfl (i := 1) (by omega) (by omega) dX2_isSame_190 ?_
              refine x_ti (y := nI (ans gi)) (by rw [(hF.2.2.2.2 gi (by omega)).2.1]) ?_
              refine lv_bipush (v := nI (20)) hx hb dX2_isSame_191 (by decide) ?_
              refine x_ne (tgt := 200) hx hb dX2_isSame_193 (by decide) (by have := (hco gi (by omega)).2; omega) (by omega) (fun c193 => ?_) (fun c193 => ?_)
              · skip
                refine lv_iconst (v := nI (0)) hx hb dX2_isSame_200 (by decide) ?_
                refine lv_iadd hx hb dX2_isSame_201 ?_
                refine x_ti (nI_add _ _) ?_
                refine lv_istore (lv' := [(4, .int (nI (fo + 0))), (0, .ref (so)), (1, .ref (ad 0)), (2, .ref (u_6.2)), (3, .int (nI (cN (opS c g code ans dbt) 81))), (5, .int (nI (db))), (6, .int (nI (bk))), (7, .int (nI (gi))), (8, .ref (ra gi)), (9, .int (nI (al))), (10, .ref (tn)), (11, .int (nI (w5)))]) hx hb dX2_isSame_202 hl (by decide) rfl (fun ls hl => ?_)
                refine lv_iload hx hb dX2_isSame_204 (lv_at hl 5 rfl) ?_
                refine lv_aload hx hb dX2_isSame_206 (lv_at hl 8 rfl) ?_
                refine lv_iconst (v := nI (2)) hx hb dX2_isSame_208 (by decide) ?_
                refine x_iald hx hb hK hP (kr gi + 1 + 9) 0 (atWXa3 (hF.2.2.1 gi (by omega))) rfl (i := 2) (by omega) (by omega) dX2_isSame_209 ?_
                have hbn := bN_le (dbt gi)
                refine x_ti (y := nI (bN (dbt gi))) (by rw [(hF.2.2.2.2 gi (by omega)).2.2]) ?_
                refine lv_iadd hx hb dX2_isSame_210 ?_
                refine x_ti (nI_add _ _) ?_
                refine lv_istore (lv' := [(5, .int (nI (db + (bN (dbt gi))))), (4, .int (nI (fo + 0))), (0, .ref (so)), (1, .ref (ad 0)), (2, .ref (u_6.2)), (3, .int (nI (cN (opS c g code ans dbt) 81))), (6, .int (nI (bk))), (7, .int (nI (gi))), (8, .ref (ra gi)), (9, .int (nI (al))), (10, .ref (tn)), (11, .int (nI (w5)))]) hx hb dX2_isSame_211 hl (by decide) rfl (fun ls hl => ?_)
                refine lv_iload hx hb dX2_isSame_213 (lv_at hl 6 rfl) ?_
                refine lv_aload hx hb dX2_isSame_215 (lv_at hl 8 rfl) ?_
                refine lv_iconst (v := nI (1)) hx hb dX2_isSame_217 (by decide) ?_
                refine x_iald hx hb hK hP (kr gi + 1 + 9) 0 (atWXa3 (hF.2.2.1 gi (by omega))) rfl (i := 1) (by omega) (by omega) dX2_isSame_218 ?_
                refine x_ti (y := nI (ans gi)) (by rw [(hF.2.2.2.2 gi (by omega)).2.1]) ?_
                refine lv_iconst (v := nI (5)) hx hb dX2_isSame_219 (by decide) ?_
                refine lv_idiv hx hb dX2_isSame_220 (nI_ne0 (by omega) (by omega)) ?_
                refine x_ti (pk_div (by have := (hco gi (by omega)).2; omega) (by omega) (by omega)) ?_
                refine lv_iadd hx hb dX2_isSame_221 ?_
                refine x_ti (nI_add _ _) ?_
                refine lv_istore (lv' := [(6, .int (nI (bk + ((ans gi) / 5)))), (5, .int (nI (db + (bN (dbt gi))))), (4, .int (nI (fo + 0))), (0, .ref (so)), (1, .ref (ad 0)), (2, .ref (u_6.2)), (3, .int (nI (cN (opS c g code ans dbt) 81))), (7, .int (nI (gi))), (8, .ref (ra gi)), (9, .int (nI (al))), (10, .ref (tn)), (11, .int (nI (w5)))]) hx hb dX2_isSame_222 hl (by decide) rfl (fun ls hl => ?_)
                replace hP := P_drop (P_drop hP)
                replace hD := D_drop (D_drop hD)
                replace hP : va_P D vwCl (WX ad cI cZ c g hid code ans dbt opn ply hps wb) H := hP
                replace hD : va_D A (WX ad cI cZ c g hid code ans dbt opn ply hps wb) := hD
                refine lv_iinc (v := nI (gi + 1)) (lv' := [(7, .int (nI (gi + 1))), (6, .int (nI (bk + ((ans gi) / 5)))), (5, .int (nI (db + (bN (dbt gi))))), (4, .int (nI (fo + 0))), (0, .ref (so)), (1, .ref (ad 0)), (2, .ref (u_6.2)), (3, .int (nI (cN (opS c g code ans dbt) 81))), (8, .ref (ra gi)), (9, .int (nI (al))), (10, .ref (tn)), (11, .int (nI (w5)))]) hx hb dX2_isSame_224 hl (k := 7) rfl (nI_add _ _) (by decide) rfl (fun ls hl => ?_)
                refine lv_goto (tgt := 27) hx hb dX2_isSame_227 (by decide) ?_
                exact ih27 (gi := gi + 1) (fo := fo + 0) (db := db + (bN (dbt gi))) (bk := bk + ((ans gi) / 5)) (nc := _) (ns := _) (ls := ls) (hl := lv_sub hl [4, 5, 6, 7, 3, 2, 1, 0] rfl) (H := H) (locs := locs) (hP := hP) (hS := hS) (hinv := by
                    have ek2 : k2 = qq c := by omega
                    refine ⟨by omega, ?_, ?_, by rw [h4]; rfl, by omega, by omega⟩
                    · first | exact (congrArg (· + 1) h2).trans (cN_s (p := fun z => decide (ans z = 20)) (decide_eq_true c193)).symm | exact h2.trans (cN_n (p := fun z => decide (ans z = 20)) (decide_eq_false c193)).symm
                    · rw [h3]; cases hd9 : dbt gi with
                      | true => rw [cN_s hd9]; rfl
                      | false => rw [cN_n hd9]; rfl
                  ) (hn9 := by
                    omega
                  )
              · skip
                refine lv_iconst (v := nI (1)) hx hb dX2_isSame_196 (by decide) ?_
                refine lv_goto (tgt := 201) hx hb dX2_isSame_197 (by decide) ?_
                refine lv_iadd hx hb dX2_isSame_201 ?_
                refine x_ti (nI_add _ _) ?_
                refine lv_istore (lv' := [(4, .int (nI (fo + 1))), (0, .ref (so)), (1, .ref (ad 0)), (2, .ref (u_6.2)), (3, .int (nI (cN (opS c g code ans dbt) 81))), (5, .int (nI (db))), (6, .int (nI (bk))), (7, .int (nI (gi))), (8, .ref (ra gi)), (9, .int (nI (al))), (10, .ref (tn)), (11, .int (nI (w5)))]) hx hb dX2_isSame_202 hl (by decide) rfl (fun ls hl => ?_)
                refine lv_iload hx hb dX2_isSame_204 (lv_at hl 5 rfl) ?_
                refine lv_aload hx hb dX2_isSame_206 (lv_at hl 8 rfl) ?_
                refine lv_iconst (v := nI (2)) hx hb dX2_isSame_208 (by decide) ?_
                refine x_iald hx hb hK hP (kr gi + 1 + 9) 0 (atWXa3 (hF.2.2.1 gi (by omega))) rfl (i := 2) (by omega) (by omega) dX2_isSame_209 ?_
                have hbn := bN_le (dbt gi)
                refine x_ti (y := nI (bN (dbt gi))) (by rw [(hF.2.2.2.2 gi (by omega)).2.2]) ?_
                refine lv_iadd hx hb dX2_isSame_210 ?_
                refine x_ti (nI_add _ _) ?_
                refine lv_istore (lv' := [(5, .int (nI (db + (bN (dbt gi))))), (4, .int (nI (fo + 1))), (0, .ref (so)), (1, .ref (ad 0)), (2, .ref (u_6.2)), (3, .int (nI (cN (opS c g code ans dbt) 81))), (6, .int (nI (bk))), (7, .int (nI (gi))), (8, .ref (ra gi)), (9, .int (nI (al))), (10, .ref (tn)), (11, .int (nI (w5)))]) hx hb dX2_isSame_211 hl (by decide) rfl (fun ls hl => ?_)
                refine lv_iload hx hb dX2_isSame_213 (lv_at hl 6 rfl) ?_
                refine lv_aload hx hb dX2_isSame_215 (lv_at hl 8 rfl) ?_
                refine lv_iconst (v := nI (1)) hx hb dX2_isSame_217 (by decide) ?_
                refine x_iald hx hb hK hP (kr gi + 1 + 9) 0 (atWXa3 (hF.2.2.1 gi (by omega))) rfl (i := 1) (by omega) (by omega) dX2_isSame_218 ?_
                refine x_ti (y := nI (ans gi)) (by rw [(hF.2.2.2.2 gi (by omega)).2.1]) ?_
                refine lv_iconst (v := nI (5)) hx hb dX2_isSame_219 (by decide) ?_
                refine lv_idiv hx hb dX2_isSame_220 (nI_ne0 (by omega) (by omega)) ?_
                refine x_ti (pk_div (by have := (hco gi (by omega)).2; omega) (by omega) (by omega)) ?_
                refine lv_iadd hx hb dX2_isSame_221 ?_
                refine x_ti (nI_add _ _) ?_
                refine lv_istore (lv' := [(6, .int (nI (bk + ((ans gi) / 5)))), (5, .int (nI (db + (bN (dbt gi))))), (4, .int (nI (fo + 1))), (0, .ref (so)), (1, .ref (ad 0)), (2, .ref (u_6.2)), (3, .int (nI (cN (opS c g code ans dbt) 81))), (7, .int (nI (gi))), (8, .ref (ra gi)), (9, .int (nI (al))), (10, .ref (tn)), (11, .int (nI (w5)))]) hx hb dX2_isSame_222 hl (by decide) rfl (fun ls hl => ?_)
                replace hP := P_drop (P_drop hP)
                replace hD := D_drop (D_drop hD)
                replace hP : va_P D vwCl (WX ad cI cZ c g hid code ans dbt opn ply hps wb) H := hP
                replace hD : va_D A (WX ad cI cZ c g hid code ans dbt opn ply hps wb) := hD
                refine lv_iinc (v := nI (gi + 1)) (lv' := [(7, .int (nI (gi + 1))), (6, .int (nI (bk + ((ans gi) / 5)))), (5, .int (nI (db + (bN (dbt gi))))), (4, .int (nI (fo + 1))), (0, .ref (so)), (1, .ref (ad 0)), (2, .ref (u_6.2)), (3, .int (nI (cN (opS c g code ans dbt) 81))), (8, .ref (ra gi)), (9, .int (nI (al))), (10, .ref (tn)), (11, .int (nI (w5)))]) hx hb dX2_isSame_224 hl (k := 7) rfl (nI_add _ _) (by decide) rfl (fun ls hl => ?_)
                refine lv_goto (tgt := 27) hx hb dX2_isSame_227 (by decide) ?_
                exact ih27 (gi := gi + 1) (fo := fo + 1) (db := db + (bN (dbt gi))) (bk := bk + ((ans gi) / 5)) (nc := _) (ns := _) (ls := ls) (hl := lv_sub hl [4, 5, 6, 7, 3, 2, 1, 0] rfl) (H := H) (locs := locs) (hP := hP) (hS := hS) (hinv := by
                    have ek2 : k2 = qq c := by omega
                    refine ⟨by omega, ?_, ?_, by rw [h4]; rfl, by omega, by omega⟩
                    · first | exact (congrArg (· + 1) h2).trans (cN_s (p := fun z => decide (ans z = 20)) (decide_eq_true c193)).symm | exact h2.trans (cN_n (p := fun z => decide (ans z = 20)) (decide_eq_false c193)).symm
                    · rw [h3]; cases hd9 : dbt gi with
                      | true => rw [cN_s hd9]; rfl
                      | false => rw [cN_n hd9]; rfl
                  ) (hn9 := by
                    omega
                  )
            · skip
              refine lv_aload_n hx hb dX2_isSame_161 rfl (lv_at hl 1 rfl) ?_
              refine lv_iload hx hb dX2_isSame_162 (lv_at hl 7 rfl) ?_
              refine lv_iload hx hb dX2_isSame_164 (lv_at hl 11 rfl) ?_
              refine x_csi (va_runV (As := [.int (nI (gi)), .int (nI (w5))]) (rest := []) ⟨hx, hb, hml, hown, hts⟩ (c_X1_toldP l D cI cZ cG cJ A ad ((u_137.2, .inl (cZ, qq c, .inl (fun j => bI (u_137.1 j)))) :: (tn, .inl (cI, 6, .inl (fun j => nI ((va_up (va_up (va_up (va_up (va_up (va_up (fun _ => 0) 0 (code gi)) 1 ((ans gi) / 5)) 2 ((ans gi) % 5)) 3 (bN (dbt gi))) 4 (cN (fit c code ans dbt (gi + 1)) (qq c))) 5 al) j)))) :: wb) ((hpal.cons _).cons _) c g hid code ans dbt opn ply hps gi w5 (hI) (by omega) (by omega)) (cwV 2 hts gX2_isSame_X1_told rfl rfl rfl (by decide +kernel) ⟨Nat.le_of_ble_eq_true rfl, Nat.le_of_ble_eq_true rfl⟩) (preV (ci := 1) (q0 := 0) hB hS hP hD rfl rfl) rfl rfl hl.1 rfl (lv_room (Nat.le_of_ble_eq_true rfl)) dX2_isSame_166 ⟨by show _ ≤ 32000; omega, by show _ ≤ 126000; omega⟩) ?_
              have htl := tld_lt (g := g) (dbt := dbt) hc hco (show gi < g by omega) (show w5 < 6 by omega)
              refine lv_aload hx hb dX2_isSame_169 (lv_at hl 10 rfl) ?_
              refine lv_iload hx hb dX2_isSame_171 (lv_at hl 11 rfl) ?_
              refine x_iald hx hb hK hP 8 0 rfl rfl (i := w5) (by omega) (by omega) dX2_isSame_173 ?_
              refine x_ti (y := nI (tldV c code ans dbt gi w5)) (by rw [hfv w5 (by omega)]) ?_
              refine x_eq (tgt := 179) hx hb dX2_isSame_174 (by decide) (htl) (htl) (fun c174 => ?_) (fun c174 => absurd c174 (fun q => q rfl))
              refine lv_iinc (v := nI (w5 + 1)) (lv' := [(11, .int (nI (w5 + 1))), (0, .ref (so)), (1, .ref (ad 0)), (2, .ref (u_6.2)), (3, .int (nI (cN (opS c g code ans dbt) 81))), (4, .int (nI (fo))), (5, .int (nI (db))), (6, .int (nI (bk))), (7, .int (nI (gi))), (8, .ref (ra gi)), (9, .int (nI (al))), (10, .ref (tn))]) hx hb dX2_isSame_179 hl (k := 11) rfl (nI_add _ _) (by decide) rfl (fun ls hl => ?_)
              refine lv_goto (tgt := 154) hx hb dX2_isSame_182 (by decide) ?_
              exact ih154 (w5 := w5 + 1) (ls := ls) (hl := lv_sub hl [1, 2, 3, 4, 5, 6, 7, 8, 9, 10, 11, 0] rfl) (H := H) (locs := locs) (hP := hP) (hS := hS) (hinv := by
                  omega
                ) (hn9 := by
                  omega
                )
        · skip
          refine lv_iload hx hb dX2_isSame_61 (lv_at hl 9 rfl) ?_
          refine lv_aload_n hx hb dX2_isSame_63 rfl (lv_at hl 0 rfl) ?_
          refine lv_aload hx hb dX2_isSame_64 (lv_at hl 8 rfl) ?_
          refine lv_iconst (v := nI (0)) hx hb dX2_isSame_66 (by decide) ?_
          refine x_iald hx hb hK hP (kr gi + 1 + 7) 0 ((fun i hi => atWX (hF.2.2.1 i hi)) gi (by omega)) rfl (i := 0) (by omega) (by omega) dX2_isSame_67 ?_
          refine x_ti (y := nI (code gi)) (by rw [(hF.2.2.2.2 gi (by omega)).1]) ?_
          refine lv_iload hx hb dX2_isSame_68 (lv_at hl 10 rfl) ?_
          refine va_calli (va_runV (As := [.int (nI (code gi)), .int (nI (k2))]) (rest := [.int (nI (al))]) ⟨hx, hb, hml, hown, hts⟩ (c_X2_pins l D cI cZ cG cJ A (WX ad cI cZ c g hid code ans dbt opn ply hps wb) so c hid g code ans dbt (code gi) k2 (hc) ((SimAt.WX ⟨_, _, _, _, _, _, hF⟩)) ((hco gi (by omega)).1) (by omega)) (cwV 2 hts gX2_isSame_X2_pins rfl rfl rfl (by decide +kernel) ⟨Nat.le_of_ble_eq_true rfl, Nat.le_of_ble_eq_true rfl⟩) (preV (ci := 2) (q0 := ks + 1 + 7) hB hS hP hD (atWX hF.1) rfl) rfl rfl hl.1 rfl (lv_room (Nat.le_of_ble_eq_true rfl)) dX2_isSame_70 ⟨by show _ ≤ 32000; omega, by show _ ≤ 126000; omega⟩) hS (fun q _ h => h) (fun q h => h) (fun r_70 u_70 t9 H1 locs1 ht9 hvm9 hw_70 hBw hz9 hk9 hS => ?_)
          obtain ⟨hP, hD⟩ := hBw
          rw [ht9] at hP
          generalize H1 = H at hP hS ⊢
          generalize locs1 = locs at hS ⊢
          replace hP : va_P D vwCl (WX ad cI cZ c g hid code ans dbt opn ply hps wb) H := hP
          replace hD : va_D A (WX ad cI cZ c g hid code ans dbt opn ply hps wb) := hD
          refine x_ti (y := nI (pins c (code gi) k2)) (hw_70.1) ?_
          have hpi := pins_le hc (hco gi (by omega)).1 (show k2 < qq c by omega)
          have hai := (hco gi (by omega)).2
          refine lv_aload hx hb dX2_isSame_73 (lv_at hl 8 rfl) ?_
          refine lv_iconst (v := nI (1)) hx hb dX2_isSame_75 (by decide) ?_
          refine x_iald hx hb hK hP (kr gi + 1 + 7) 0 ((fun i hi => atWX (hF.2.2.1 i hi)) gi (by omega)) rfl (i := 1) (by omega) (by omega) dX2_isSame_76 ?_
          refine x_ti (y := nI (ans gi)) (by rw [(hF.2.2.2.2 gi (by omega)).2.1]) ?_
          refine x_ne (tgt := 84) hx hb dX2_isSame_77 (by decide) (by omega) (by omega) (fun c77 => ?_) (fun c77 => ?_)
          · skip
            refine lv_iconst (v := nI (0)) hx hb dX2_isSame_84 (by decide) ?_
            refine lv_iadd hx hb dX2_isSame_85 ?_
            refine x_ti (nI_add _ _) ?_
            refine lv_istore (lv' := [(9, .int (nI (al + 0))), (0, .ref (so)), (1, .ref (ad 0)), (2, .ref (u_6.2)), (3, .int (nI (cN (opS c g code ans dbt) 81))), (4, .int (nI (fo))), (5, .int (nI (db))), (6, .int (nI (bk))), (7, .int (nI (gi))), (8, .ref (ra gi)), (10, .int (nI (k2)))]) hx hb dX2_isSame_86 hl (by decide) rfl (fun ls hl => ?_)
            refine lv_iinc (v := nI (k2 + 1)) (lv' := [(10, .int (nI (k2 + 1))), (9, .int (nI (al + 0))), (0, .ref (so)), (1, .ref (ad 0)), (2, .ref (u_6.2)), (3, .int (nI (cN (opS c g code ans dbt) 81))), (4, .int (nI (fo))), (5, .int (nI (db))), (6, .int (nI (bk))), (7, .int (nI (gi))), (8, .ref (ra gi))]) hx hb dX2_isSame_88 hl (k := 10) rfl (nI_add _ _) (by decide) rfl (fun ls hl => ?_)
            refine lv_goto (tgt := 52) hx hb dX2_isSame_91 (by decide) ?_
            exact ih52 (k2 := k2 + 1) (al := al + 0) (nc := _) (ns := _) (ls := ls) (hl := lv_sub hl [2, 3, 4, 5, 6, 7, 8, 9, 10, 1, 0] rfl) (H := H) (locs := locs) (hP := hP) (hS := hS) (hinv := by
                refine ⟨by omega, ?_, by omega, by omega⟩
                first | exact (congrArg (· + 1) d2).trans (cN_s (p := fun z => decide (pins c (code gi) z = ans gi)) (decide_eq_true c77)).symm | exact d2.trans (cN_n (p := fun z => decide (pins c (code gi) z = ans gi)) (decide_eq_false c77)).symm
              ) (hn9 := by
                omega
              )
          · skip
            refine lv_iconst (v := nI (1)) hx hb dX2_isSame_80 (by decide) ?_
            refine lv_goto (tgt := 85) hx hb dX2_isSame_81 (by decide) ?_
            refine lv_iadd hx hb dX2_isSame_85 ?_
            refine x_ti (nI_add _ _) ?_
            refine lv_istore (lv' := [(9, .int (nI (al + 1))), (0, .ref (so)), (1, .ref (ad 0)), (2, .ref (u_6.2)), (3, .int (nI (cN (opS c g code ans dbt) 81))), (4, .int (nI (fo))), (5, .int (nI (db))), (6, .int (nI (bk))), (7, .int (nI (gi))), (8, .ref (ra gi)), (10, .int (nI (k2)))]) hx hb dX2_isSame_86 hl (by decide) rfl (fun ls hl => ?_)
            refine lv_iinc (v := nI (k2 + 1)) (lv' := [(10, .int (nI (k2 + 1))), (9, .int (nI (al + 1))), (0, .ref (so)), (1, .ref (ad 0)), (2, .ref (u_6.2)), (3, .int (nI (cN (opS c g code ans dbt) 81))), (4, .int (nI (fo))), (5, .int (nI (db))), (6, .int (nI (bk))), (7, .int (nI (gi))), (8, .ref (ra gi))]) hx hb dX2_isSame_88 hl (k := 10) rfl (nI_add _ _) (by decide) rfl (fun ls hl => ?_)
            refine lv_goto (tgt := 52) hx hb dX2_isSame_91 (by decide) ?_
            exact ih52 (k2 := k2 + 1) (al := al + 1) (nc := _) (ns := _) (ls := ls) (hl := lv_sub hl [2, 3, 4, 5, 6, 7, 8, 9, 10, 1, 0] rfl) (H := H) (locs := locs) (hP := hP) (hS := hS) (hinv := by
                refine ⟨by omega, ?_, by omega, by omega⟩
                first | exact (congrArg (· + 1) d2).trans (cN_s (p := fun z => decide (pins c (code gi) z = ans gi)) (decide_eq_true c77)).symm | exact d2.trans (cN_n (p := fun z => decide (pins c (code gi) z = ans gi)) (decide_eq_false c77)).symm
              ) (hn9 := by
                omega
              )
