set_option maxHeartbeats 40000000 in
set_option maxRecDepth 100000 in
theorem law_S2 {p : Program} {l : Launch} {e : Env} {s : State} {m : MethodId} {below : List Frame} {meth : Method} {c9 : Code} (hfl : l.flags = flags0) {D : va_G} {cI cZ cG cJ : ClassId} {A : Nat → Prop} {ad : Nat → Nat} {so : Nat} {b L : Nat} {xs : Nat → Int32} (hL : L ≤ 260) (C0 : lw_At p s m meth c9 b L xs) (hB : Bs D (TY cI cZ cG cJ) A s) (hAf : ∀ q, A q → s.heap.size ≤ q) {c g : Nat} {hid : Int32} {code ans : Nat → Nat} {dbt opn ply : Nat → Bool} {hps : Nat → Nat} {wr : va_W} (hG : LG cI cG ad so (c, g, hid, code, ans, dbt, opn, ply, hps, wr))  {t : Nat} {v : Int32} {dd : Int64} {wr2 : va_W} {hv : Nat} {r : Nat → Nat} {M1 : Nat → Nat → Nat} (hV : HV cI cG wr wr2 hv r c M1) (hMM : ∀ k, k < 4 → ∀ x, x < c → M1 k x = hvN c (opS c g code ans dbt) k x) {H : Heap} {locs : List Loc} (hP : va_P D vwCl (WX ad cI cZ c g hid code ans dbt opn ply hps wr2) H) (hD : va_D A (WX ad cI cZ c g hid code ans dbt opn ply hps wr2)) (hS : va_S A s.heap H locs) {ls : Array Slot} (hl : lv_has ls 25 [(0, .ref (b)), (1, .ref (ad 0)), (2, .ref (so)), (3, .int (nI (t))), (4, .int (v)), (5, .int (nI (qq c))), (6, .int (nI (g))), (7, .int (nI (cN (opS c g code ans dbt) 81))), (8, .long (dd)), (11, .ref (hv))]) {nc ns : Nat} (hnc : nc ≤ 90000) (hns : ns ≤ 900000) (K : ∀  (H : Heap) (locs : List Loc) (ls : Array Slot),  va_P D vwCl (WX ad cI cZ c g hid code ans dbt opn ply hps wr) H → va_D A (WX ad cI cZ c g hid code ans dbt opn ply hps wr) → va_S A s.heap H locs → lv_has ls 25 [(0, .ref (b)), (1, .ref (ad 0)), (2, .ref (so)), (3, .int (nI (t))), (4, .int (v)), (5, .int (nI (qq c))), (6, .int (nI (g))), (7, .int (nI (cN (opS c g code ans dbt) 81))), (8, .long (dd))] → W p l e room_1 s m #[Value.ref b] below meth c9 H locs nc ns (lw_Z below #[Value.ref b] s) (F0 m 383 ls [])) : W p l e room_1 s m #[Value.ref b] below meth c9 H locs nc ns (lw_Z below #[Value.ref b] s) (F0 m 267 ls []) := by
  obtain ⟨hx, hb, hr, hml, hown, hts0, hX, hbl, hlocks, hgv⟩ := id C0
  have hown : s.vm.findClass RL = some m.cls := hown
  have hb : c9.code = cL_law := hb
  have hts : ∀ w ∈ wsL_law, w.before #[Value.ref b] s = true := fun w h => hts0 w (wsL_law_in w h)
  have hK := hB.1
  have hbA : ¬ A b := fun q => absurd (hAf b q) (Nat.not_le.mpr hbl)
  obtain ⟨hpal, hI, hS0, hA5⟩ := id hG
  replace hpal : Pals cI cG ad wr := hpal
  replace hI : XI c g hid code ans dbt opn := hI
  replace hS0 : SimAt cI cG wr so c hid g code ans dbt := hS0
  replace hA5 : AnsOK g ans := hA5
  obtain ⟨hc, hg, hco, hhid, hop⟩ := id hI
  have hq := qq_in hc
  have hcl81 := cN_le (opS c g code ans dbt) 81
  have hpal0 := hpal
  clear hpal
  have hpal := hpal0.emb (f := id) hV.2.1
  refine lv_iconst (v := nI (0)) hx hb dL_law_267 (by decide) ?_
  refine lv_istore (lv' := [(12, .int (nI (0))), (0, .ref (b)), (1, .ref (ad 0)), (2, .ref (so)), (3, .int (nI (t))), (4, .int (v)), (5, .int (nI (qq c))), (6, .int (nI (g))), (7, .int (nI (cN (opS c g code ans dbt) 81))), (8, .long (dd)), (11, .ref (hv))]) hx hb dL_law_268 hl (by decide) rfl (fun ls hl => ?_)
  -- loop at 270
  have hinv : 0 ≤ 4 := by
    exact Nat.zero_le _
  obtain ⟨pl, hq9⟩ : ∃ (pl : Nat), lv_has ls 25 [(0, .ref (b)), (1, .ref (ad 0)), (2, .ref (so)), (3, .int (nI (t))), (4, .int (v)), (5, .int (nI (qq c))), (6, .int (nI (g))), (7, .int (nI (cN (opS c g code ans dbt) 81))), (8, .long (dd)), (11, .ref (hv)), (12, .int (nI (pl)))] ∧ (pl ≤ 4) ∧ va_P D vwCl (WX ad cI cZ c g hid code ans dbt opn ply hps wr2) H ∧ va_D A (WX ad cI cZ c g hid code ans dbt opn ply hps wr2) := ⟨0, lv_sub hl [1, 2, 3, 4, 5, 6, 7, 8, 9, 10, 0] rfl, hinv, hP, hD⟩
  clear hl hinv hP hD
  obtain ⟨hl, hinv, hP, hD⟩ := hq9
  obtain ⟨n9_270, hn9⟩ : ∃ q : Nat, 4 - pl < q := ⟨_, Nat.lt_succ_self _⟩
  induction n9_270 generalizing ls H locs pl with
  | zero => exact absurd hn9 (Nat.not_lt_zero _)
  | succ n9_270 ih270 =>
    refine lv_iload hx hb dL_law_270 (lv_at hl 10 rfl) ?_
    refine lv_iconst (v := nI (4)) hx hb dL_law_272 (by decide) ?_
    refine x_ge (tgt := 383) hx hb dL_law_273 (by decide) (by omega) (by omega) (fun c273 => ?_) (fun c273 => ?_)
    · skip
      exact K H locs ls (P_emb (embWW hV.2.1) hP) (D_emb (embWW hV.2.1) hD) hS (lv_sub hl [0, 1, 2, 3, 4, 5, 6, 7, 8] rfl)
    · skip
      refine lv_iconst (v := nI (0)) hx hb dL_law_276 (by decide) ?_
      refine lv_istore (lv' := [(13, .int (nI (0))), (0, .ref (b)), (1, .ref (ad 0)), (2, .ref (so)), (3, .int (nI (t))), (4, .int (v)), (5, .int (nI (qq c))), (6, .int (nI (g))), (7, .int (nI (cN (opS c g code ans dbt) 81))), (8, .long (dd)), (11, .ref (hv)), (12, .int (nI (pl)))]) hx hb dL_law_277 hl (by decide) rfl (fun ls hl => ?_)
      refine lv_iconst (v := (-1)) hx hb dL_law_279 (by decide) ?_
      refine lv_istore (lv' := [(14, .int ((-1))), (13, .int (nI (0))), (0, .ref (b)), (1, .ref (ad 0)), (2, .ref (so)), (3, .int (nI (t))), (4, .int (v)), (5, .int (nI (qq c))), (6, .int (nI (g))), (7, .int (nI (cN (opS c g code ans dbt) 81))), (8, .long (dd)), (11, .ref (hv)), (12, .int (nI (pl)))]) hx hb dL_law_280 hl (by decide) rfl (fun ls hl => ?_)
      refine lv_iconst (v := nI (0)) hx hb dL_law_282 (by decide) ?_
      refine lv_istore (lv' := [(15, .int (nI (0))), (14, .int ((-1))), (13, .int (nI (0))), (0, .ref (b)), (1, .ref (ad 0)), (2, .ref (so)), (3, .int (nI (t))), (4, .int (v)), (5, .int (nI (qq c))), (6, .int (nI (g))), (7, .int (nI (cN (opS c g code ans dbt) 81))), (8, .long (dd)), (11, .ref (hv)), (12, .int (nI (pl)))]) hx hb dL_law_283 hl (by decide) rfl (fun ls hl => ?_)
      -- loop at 285
      have hinv : 0 ≤ c ∧ (-1) = lastV c (opS c g code ans dbt) pl 0 ∧ 0 = sN (fun x => hvN c (opS c g code ans dbt) pl x) 0 := by
        exact ⟨Nat.zero_le _, rfl, rfl⟩
      obtain ⟨x4, su, sm, hq9⟩ : ∃ (x4 : Nat) (su : Int32) (sm : Nat), lv_has ls 25 [(0, .ref (b)), (1, .ref (ad 0)), (2, .ref (so)), (3, .int (nI (t))), (4, .int (v)), (5, .int (nI (qq c))), (6, .int (nI (g))), (7, .int (nI (cN (opS c g code ans dbt) 81))), (8, .long (dd)), (11, .ref (hv)), (12, .int (nI (pl))), (13, .int (nI (sm))), (14, .int (su)), (15, .int (nI (x4)))] ∧ (x4 ≤ c ∧ su = lastV c (opS c g code ans dbt) pl x4 ∧ sm = sN (fun x => hvN c (opS c g code ans dbt) pl x) x4) ∧ va_P D vwCl (WX ad cI cZ c g hid code ans dbt opn ply hps wr2) H ∧ va_D A (WX ad cI cZ c g hid code ans dbt opn ply hps wr2) := ⟨0, (-1), 0, lv_sub hl [3, 4, 5, 6, 7, 8, 9, 10, 11, 12, 13, 2, 1, 0] rfl, hinv, hP, hD⟩
      clear hl hinv hP hD
      obtain ⟨hl, hinv, hP, hD⟩ := hq9
      obtain ⟨n9_285, hn9⟩ : ∃ q : Nat, c - x4 < q := ⟨_, Nat.lt_succ_self _⟩
      induction n9_285 generalizing ls H locs x4 su sm with
      | zero => exact absurd hn9 (Nat.not_lt_zero _)
      | succ n9_285 ih285 =>
        obtain ⟨i1, i2, i3⟩ := hinv; have hhl := hvN_le c (opS c g code ans dbt) pl x4
        refine lv_iload hx hb dL_law_285 (lv_at hl 13 rfl) ?_
        refine lv_aload_n hx hb dL_law_287 rfl (lv_at hl 1 rfl) ?_
        refine lv_iconst (v := nI (0)) hx hb dL_law_288 (by decide) ?_
        refine x_csi (va_runV (As := [.int (nI (0))]) (rest := [.int (nI (x4))]) ⟨hx, hb, hml, hown, hts⟩ (c_X1_countP l D cI cZ cG cJ A ad wr2 hpal c g hid code ans dbt opn ply hps 0 (hI) (by decide)) (cwV 1 hts gL_law_X1_count rfl rfl rfl (by decide +kernel) ⟨Nat.le_of_ble_eq_true rfl, Nat.le_of_ble_eq_true rfl⟩) (preV (ci := 1) (q0 := 0) hB hS hP hD rfl rfl) rfl rfl hl.1 rfl (lv_room (Nat.le_of_ble_eq_true rfl)) dL_law_289 ⟨by show _ ≤ 600130; omega, by show _ ≤ 7301080; omega⟩) ?_
        refine x_ti (y := nI (c)) (rfl) ?_
        refine x_ge (tgt := 357) hx hb dL_law_292 (by decide) (by omega) (by omega) (fun c292 => ?_) (fun c292 => ?_)
        · skip
          have hsm : sm = cN (opS c g code ans dbt) 81 := by rw [i3, show x4 = c by omega]; exact have_sum hc pl
          refine lv_iload hx hb dL_law_357 (lv_at hl 11 rfl) ?_
          refine lv_iload hx hb dL_law_359 (lv_at hl 7 rfl) ?_
          refine x_ne (tgt := 375) hx hb dL_law_361 (by decide) (by omega) (by omega) (fun c361 => absurd c361 (fun q => q hsm)) (fun c361 => ?_)
          refine lv_aload_n hx hb dL_law_364 rfl (lv_at hl 1 rfl) ?_
          refine lv_iload hx hb dL_law_365 (lv_at hl 10 rfl) ?_
          refine x_csi (va_runV (As := [.int (nI (pl))]) (rest := []) ⟨hx, hb, hml, hown, hts⟩ (c_X1_sureP l D cI cZ cG cJ A ad wr2 hpal c g hid code ans dbt opn ply hps pl (hI) (by omega)) (cwV 1 hts gL_law_X1_sure rfl rfl rfl (by decide +kernel) ⟨Nat.le_of_ble_eq_true rfl, Nat.le_of_ble_eq_true rfl⟩) (preV (ci := 1) (q0 := 0) hB hS hP hD rfl rfl) rfl rfl hl.1 rfl (lv_room (Nat.le_of_ble_eq_true rfl)) dL_law_367 ⟨by show _ ≤ 600130; omega, by show _ ≤ 7301080; omega⟩) ?_
          refine lv_iload hx hb dL_law_370 (lv_at hl 12 rfl) ?_
          refine lv_icmp_eq (tgt := 377) hx hb dL_law_372 (by decide) (fun c372 => ?_) (fun c372 => absurd c372 (fun q => q (by rw [i2, show x4 = c by omega, last_sure c (by omega)])))
          refine lv_iinc (v := nI (pl + 1)) (lv' := [(12, .int (nI (pl + 1))), (0, .ref (b)), (1, .ref (ad 0)), (2, .ref (so)), (3, .int (nI (t))), (4, .int (v)), (5, .int (nI (qq c))), (6, .int (nI (g))), (7, .int (nI (cN (opS c g code ans dbt) 81))), (8, .long (dd)), (11, .ref (hv)), (13, .int (nI (sm))), (14, .int (su)), (15, .int (nI (x4)))]) hx hb dL_law_377 hl (k := 10) rfl (nI_add _ _) (by decide) rfl (fun ls hl => ?_)
          refine lv_goto (tgt := 270) hx hb dL_law_380 (by decide) ?_
          exact ih270 (pl := pl + 1) (ls := ls) (hl := lv_sub hl [1, 2, 3, 4, 5, 6, 7, 8, 9, 10, 0] rfl) (H := H) (locs := locs) (hP := hP) (hS := hS) (hinv := by
              omega
            ) (hn9 := by
              omega
            )
        · skip
          refine lv_aload_n hx hb dL_law_295 rfl (lv_at hl 1 rfl) ?_
          refine lv_iload hx hb dL_law_296 (lv_at hl 10 rfl) ?_
          refine lv_iload hx hb dL_law_298 (lv_at hl 13 rfl) ?_
          refine x_csi (va_runV (As := [.int (nI (pl)), .int (nI (x4))]) (rest := []) ⟨hx, hb, hml, hown, hts⟩ (c_X1_haveP l D cI cZ cG cJ A ad wr2 hpal c g hid code ans dbt opn ply hps pl x4 (hI) (by omega) (by omega)) (cwV 2 hts gL_law_X1_have rfl rfl rfl (by decide +kernel) ⟨Nat.le_of_ble_eq_true rfl, Nat.le_of_ble_eq_true rfl⟩) (preV (ci := 1) (q0 := 0) hB hS hP hD rfl rfl) rfl rfl hl.1 rfl (lv_room (Nat.le_of_ble_eq_true rfl)) dL_law_300 ⟨by show _ ≤ 600130; omega, by show _ ≤ 7301080; omega⟩) ?_
          refine lv_aload hx hb dL_law_303 (lv_at hl 9 rfl) ?_
          refine lv_iload hx hb dL_law_305 (lv_at hl 10 rfl) ?_
          refine x_gald hx hb hK hP (wr.length + 7) 2 (atWX hV.2.2.1) rfl (i := pl) (by omega) (by omega) (r := r pl) (if_pos (by omega)) dL_law_307 ?_
          refine lv_iload hx hb dL_law_308 (lv_at hl 13 rfl) ?_
          refine x_iald hx hb hK hP (wr.length + 1 + pl + 7) 0 ((fun i hi => atWX (hV.2.2.2 i hi)) pl (by omega)) rfl (i := x4) (by omega) (by omega) dL_law_310 ?_
          refine x_ti (y := nI (hvN c (opS c g code ans dbt) pl x4)) (by rw [hMM pl (by omega) x4 (by omega)]) ?_
          refine x_eq (tgt := 316) hx hb dL_law_311 (by decide) (by omega) (by omega) (fun c311 => ?_) (fun c311 => absurd c311 (fun q => q rfl))
          refine lv_iload hx hb dL_law_316 (lv_at hl 11 rfl) ?_
          refine lv_aload hx hb dL_law_318 (lv_at hl 9 rfl) ?_
          refine lv_iload hx hb dL_law_320 (lv_at hl 10 rfl) ?_
          refine x_gald hx hb hK hP (wr.length + 7) 2 (atWX hV.2.2.1) rfl (i := pl) (by omega) (by omega) (r := r pl) (if_pos (by omega)) dL_law_322 ?_
          refine lv_iload hx hb dL_law_323 (lv_at hl 13 rfl) ?_
          refine x_iald hx hb hK hP (wr.length + 1 + pl + 7) 0 ((fun i hi => atWX (hV.2.2.2 i hi)) pl (by omega)) rfl (i := x4) (by omega) (by omega) dL_law_325 ?_
          refine x_ti (y := nI (hvN c (opS c g code ans dbt) pl x4)) (by rw [hMM pl (by omega) x4 (by omega)]) ?_
          refine lv_iadd hx hb dL_law_326 ?_
          refine x_ti (nI_add _ _) ?_
          refine lv_istore (lv' := [(13, .int (nI (sm + (hvN c (opS c g code ans dbt) pl x4)))), (0, .ref (b)), (1, .ref (ad 0)), (2, .ref (so)), (3, .int (nI (t))), (4, .int (v)), (5, .int (nI (qq c))), (6, .int (nI (g))), (7, .int (nI (cN (opS c g code ans dbt) 81))), (8, .long (dd)), (11, .ref (hv)), (12, .int (nI (pl))), (14, .int (su)), (15, .int (nI (x4)))]) hx hb dL_law_327 hl (by decide) rfl (fun ls hl => ?_)
          refine lv_iload hx hb dL_law_329 (lv_at hl 8 rfl) ?_
          refine x_le0 (tgt := 351) hx hb dL_law_331 (by decide) (by omega) (fun c331 => ?_) (fun c331 => ?_)
          · skip
            refine lv_iinc (v := nI (x4 + 1)) (lv' := [(15, .int (nI (x4 + 1))), (13, .int (nI (sm + (hvN c (opS c g code ans dbt) pl x4)))), (0, .ref (b)), (1, .ref (ad 0)), (2, .ref (so)), (3, .int (nI (t))), (4, .int (v)), (5, .int (nI (qq c))), (6, .int (nI (g))), (7, .int (nI (cN (opS c g code ans dbt) 81))), (8, .long (dd)), (11, .ref (hv)), (12, .int (nI (pl))), (14, .int (su))]) hx hb dL_law_351 hl (k := 13) rfl (nI_add _ _) (by decide) rfl (fun ls hl => ?_)
            refine lv_goto (tgt := 285) hx hb dL_law_354 (by decide) ?_
            exact ih285 (x4 := x4 + 1) (su := su) (sm := sm + (hvN c (opS c g code ans dbt) pl x4)) (ls := ls) (hl := lv_sub hl [2, 3, 4, 5, 6, 7, 8, 9, 10, 11, 12, 1, 13, 0] rfl) (H := H) (locs := locs) (hP := hP) (hS := hS) (hinv := by
                refine ⟨by omega, ?_, by rw [i3]; rfl⟩
                first | (rw [lastV, if_pos ⟨c331, c344⟩]; done) | (rw [lastV, if_neg (fun q => c344 q.2)]; exact i2) | (rw [lastV, if_neg (fun q => by omega)]; exact i2)
              ) (hn9 := by
                omega
              )
          · skip
            refine lv_aload hx hb dL_law_334 (lv_at hl 10 rfl) ?_
            refine lv_iload hx hb dL_law_336 (lv_at hl 11 rfl) ?_
            refine x_gald hx hb hK hP (wr.length + 7) 2 (atWX hV.2.2.1) rfl (i := pl) (by omega) (by omega) (r := r pl) (if_pos (by omega)) dL_law_338 ?_
            refine lv_iload hx hb dL_law_339 (lv_at hl 13 rfl) ?_
            refine x_iald hx hb hK hP (wr.length + 1 + pl + 7) 0 ((fun i hi => atWX (hV.2.2.2 i hi)) pl (by omega)) rfl (i := x4) (by omega) (by omega) dL_law_341 ?_
            refine x_ti (y := nI (hvN c (opS c g code ans dbt) pl x4)) (by rw [hMM pl (by omega) x4 (by omega)]) ?_
            refine lv_iload hx hb dL_law_342 (lv_at hl 8 rfl) ?_
            refine x_ne (tgt := 351) hx hb dL_law_344 (by decide) (by omega) (by omega) (fun c344 => ?_) (fun c344 => ?_)
            · skip
              refine lv_iinc (v := nI (x4 + 1)) (lv' := [(15, .int (nI (x4 + 1))), (13, .int (nI (sm + (hvN c (opS c g code ans dbt) pl x4)))), (0, .ref (b)), (1, .ref (ad 0)), (2, .ref (so)), (3, .int (nI (t))), (4, .int (v)), (5, .int (nI (qq c))), (6, .int (nI (g))), (7, .int (nI (cN (opS c g code ans dbt) 81))), (8, .long (dd)), (11, .ref (hv)), (12, .int (nI (pl))), (14, .int (su))]) hx hb dL_law_351 hl (k := 13) rfl (nI_add _ _) (by decide) rfl (fun ls hl => ?_)
              refine lv_goto (tgt := 285) hx hb dL_law_354 (by decide) ?_
              exact ih285 (x4 := x4 + 1) (su := su) (sm := sm + (hvN c (opS c g code ans dbt) pl x4)) (ls := ls) (hl := lv_sub hl [2, 3, 4, 5, 6, 7, 8, 9, 10, 11, 12, 1, 13, 0] rfl) (H := H) (locs := locs) (hP := hP) (hS := hS) (hinv := by
                  refine ⟨by omega, ?_, by rw [i3]; rfl⟩
                  first | (rw [lastV, if_pos ⟨c331, c344⟩]; done) | (rw [lastV, if_neg (fun q => c344 q.2)]; exact i2) | (rw [lastV, if_neg (fun q => by omega)]; exact i2)
                ) (hn9 := by
                  omega
                )
            · skip
              refine lv_iload hx hb dL_law_347 (lv_at hl 13 rfl) ?_
              refine lv_istore (lv' := [(14, .int (nI (x4))), (13, .int (nI (sm + (hvN c (opS c g code ans dbt) pl x4)))), (0, .ref (b)), (1, .ref (ad 0)), (2, .ref (so)), (3, .int (nI (t))), (4, .int (v)), (5, .int (nI (qq c))), (6, .int (nI (g))), (7, .int (nI (cN (opS c g code ans dbt) 81))), (8, .long (dd)), (11, .ref (hv)), (12, .int (nI (pl))), (15, .int (nI (x4)))]) hx hb dL_law_349 hl (by decide) rfl (fun ls hl => ?_)
              refine lv_iinc (v := nI (x4 + 1)) (lv' := [(15, .int (nI (x4 + 1))), (14, .int (nI (x4))), (13, .int (nI (sm + (hvN c (opS c g code ans dbt) pl x4)))), (0, .ref (b)), (1, .ref (ad 0)), (2, .ref (so)), (3, .int (nI (t))), (4, .int (v)), (5, .int (nI (qq c))), (6, .int (nI (g))), (7, .int (nI (cN (opS c g code ans dbt) 81))), (8, .long (dd)), (11, .ref (hv)), (12, .int (nI (pl)))]) hx hb dL_law_351 hl (k := 13) rfl (nI_add _ _) (by decide) rfl (fun ls hl => ?_)
              refine lv_goto (tgt := 285) hx hb dL_law_354 (by decide) ?_
              exact ih285 (x4 := x4 + 1) (su := nI (x4)) (sm := sm + (hvN c (opS c g code ans dbt) pl x4)) (ls := ls) (hl := lv_sub hl [3, 4, 5, 6, 7, 8, 9, 10, 11, 12, 13, 2, 1, 0] rfl) (H := H) (locs := locs) (hP := hP) (hS := hS) (hinv := by
                  refine ⟨by omega, ?_, by rw [i3]; rfl⟩
                  first | (rw [lastV, if_pos ⟨c331, c344⟩]; done) | (rw [lastV, if_neg (fun q => c344 q.2)]; exact i2) | (rw [lastV, if_neg (fun q => by omega)]; exact i2)
                ) (hn9 := by
                  omega
                )
