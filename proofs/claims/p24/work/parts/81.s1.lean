set_option maxHeartbeats 40000000 in
set_option maxRecDepth 100000 in
theorem law_S1 {p : Program} {l : Launch} {e : Env} {s : State} {m : MethodId} {below : List Frame} {meth : Method} {c9 : Code} (hfl : l.flags = flags0) {D : va_G} {cI cZ cG cJ : ClassId} {A : Nat → Prop} {ad : Nat → Nat} {so : Nat} {b L : Nat} {xs : Nat → Int32} (hL : L ≤ 260) (C0 : lw_At p s m meth c9 b L xs) (hB : Bs D (TY cI cZ cG cJ) A s) (hAf : ∀ q, A q → s.heap.size ≤ q) {c g : Nat} {hid : Int32} {code ans : Nat → Nat} {dbt opn ply : Nat → Bool} {hps : Nat → Nat} {wr : va_W} (hG : LG cI cG ad so (c, g, hid, code, ans, dbt, opn, ply, hps, wr))  {t : Nat} {v : Int32}  {H : Heap} {locs : List Loc} (hP : va_P D vwCl (WX ad cI cZ c g hid code ans dbt opn ply hps wr) H) (hD : va_D A (WX ad cI cZ c g hid code ans dbt opn ply hps wr)) (hS : va_S A s.heap H locs) {ls : Array Slot} (hl : lv_has ls 25 [(0, .ref (b)), (1, .ref (ad 0)), (2, .ref (so)), (3, .int (nI (t))), (4, .int (v))]) {nc ns : Nat} (hnc : nc ≤ 90000) (hns : ns ≤ 900000) (K : ∀ (wr2 : va_W) (hv : Nat) (r : Nat → Nat) (M1 : Nat → Nat → Nat) (H : Heap) (locs : List Loc) (ls : Array Slot), HV cI cG wr wr2 hv r c M1 → (∀ k, k < 4 → ∀ x, x < c → M1 k x = hvN c (opS c g code ans dbt) k x) →  va_P D vwCl (WX ad cI cZ c g hid code ans dbt opn ply hps wr2) H → va_D A (WX ad cI cZ c g hid code ans dbt opn ply hps wr2) → va_S A s.heap H locs → lv_has ls 25 [(0, .ref (b)), (1, .ref (ad 0)), (2, .ref (so)), (3, .int (nI (t))), (4, .int (v)), (5, .int (nI (qq c))), (6, .int (nI (g))), (7, .int (nI (cN (opS c g code ans dbt) 81))), (8, .long (digV c g hid code ans dbt)), (11, .ref (hv))] → W p l e room_1 s m #[Value.ref b] below meth c9 H locs (nc + 1 + 4) (ns + 4 + 4 * c) (lw_Z below #[Value.ref b] s) (F0 m 267 ls [])) : W p l e room_1 s m #[Value.ref b] below meth c9 H locs nc ns (lw_Z below #[Value.ref b] s) (F0 m 57 ls []) := by
  obtain ⟨hx, hb, hr, hml, hown, hts0, hX, hbl, hlocks, hgv⟩ := id C0
  have hown : s.vm.findClass RL = some m.cls := hown
  have hb : c9.code = cL_law := hb
  have hts : ∀ w ∈ wsL_law, w.before #[Value.ref b] s = true := fun w h => hts0 w (wsL_law_in w h)
  have hK := hB.1
  have hbA : ¬ A b := fun q => absurd (hAf b q) (Nat.not_le.mpr hbl)
  obtain ⟨hpal, hI, hS0, hA5⟩ := id hG
  replace hpal : Pals cI cG ad wr := hpal
  replace hI : XI c g hid code ans dbt opn := hI
  replace hS0 : SimAt cI cG wr so c hid g code ans dbt := hS0
  replace hA5 : AnsOK g ans := hA5
  obtain ⟨hc, hg, hco, hhid, hop⟩ := id hI
  have hq := qq_in hc
  have hcl81 := cN_le (opS c g code ans dbt) 81
  refine lv_aload_n hx hb dL_law_57 rfl (lv_at hl 1 rfl) ?_
  refine lv_iconst (v := nI (1)) hx hb dL_law_58 (by decide) ?_
  refine x_csi (va_runV (As := [.int (nI (1))]) (rest := []) ⟨hx, hb, hml, hown, hts⟩ (c_X1_countP l D cI cZ cG cJ A ad wr hpal c g hid code ans dbt opn ply hps 1 (hI) (by decide)) (cwV 1 hts gL_law_X1_count rfl rfl rfl (by decide +kernel) ⟨Nat.le_of_ble_eq_true rfl, Nat.le_of_ble_eq_true rfl⟩) (preV (ci := 1) (q0 := 0) hB hS hP hD rfl rfl) rfl rfl hl.1 rfl (lv_room (Nat.le_of_ble_eq_true rfl)) dL_law_59 ⟨by show _ ≤ 600130; omega, by show _ ≤ 7301080; omega⟩) ?_
  refine x_ti (y := nI (qq c)) (rfl) ?_
  refine lv_istore (lv' := [(5, .int (nI (qq c))), (0, .ref (b)), (1, .ref (ad 0)), (2, .ref (so)), (3, .int (nI (t))), (4, .int (v))]) hx hb dL_law_62 hl (by decide) rfl (fun ls hl => ?_)
  refine lv_aload_n hx hb dL_law_64 rfl (lv_at hl 2 rfl) ?_
  refine lv_iconst (v := nI (2)) hx hb dL_law_65 (by decide) ?_
  refine x_csi (va_runV (As := [.int (nI (2))]) (rest := []) ⟨hx, hb, hml, hown, hts⟩ (c_X1_countP l D cI cZ cG cJ A ad wr hpal c g hid code ans dbt opn ply hps 2 (hI) (by decide)) (cwV 1 hts gL_law_X1_count rfl rfl rfl (by decide +kernel) ⟨Nat.le_of_ble_eq_true rfl, Nat.le_of_ble_eq_true rfl⟩) (preV (ci := 1) (q0 := 0) hB hS hP hD rfl rfl) rfl rfl hl.1 rfl (lv_room (Nat.le_of_ble_eq_true rfl)) dL_law_66 ⟨by show _ ≤ 600130; omega, by show _ ≤ 7301080; omega⟩) ?_
  refine x_ti (y := nI (g)) (rfl) ?_
  refine lv_istore (lv' := [(6, .int (nI (g))), (5, .int (nI (qq c))), (0, .ref (b)), (1, .ref (ad 0)), (2, .ref (so)), (3, .int (nI (t))), (4, .int (v))]) hx hb dL_law_69 hl (by decide) rfl (fun ls hl => ?_)
  refine lv_aload_n hx hb dL_law_71 rfl (lv_at hl 3 rfl) ?_
  refine lv_iconst (v := nI (3)) hx hb dL_law_72 (by decide) ?_
  refine x_csi (va_runV (As := [.int (nI (3))]) (rest := []) ⟨hx, hb, hml, hown, hts⟩ (c_X1_countP l D cI cZ cG cJ A ad wr hpal c g hid code ans dbt opn ply hps 3 (hI) (by decide)) (cwV 1 hts gL_law_X1_count rfl rfl rfl (by decide +kernel) ⟨Nat.le_of_ble_eq_true rfl, Nat.le_of_ble_eq_true rfl⟩) (preV (ci := 1) (q0 := 0) hB hS hP hD rfl rfl) rfl rfl hl.1 rfl (lv_room (Nat.le_of_ble_eq_true rfl)) dL_law_73 ⟨by show _ ≤ 600130; omega, by show _ ≤ 7301080; omega⟩) ?_
  refine x_ti (y := nI (cN (opS c g code ans dbt) 81)) (rfl) ?_
  refine lv_istore (lv' := [(7, .int (nI (cN (opS c g code ans dbt) 81))), (6, .int (nI (g))), (5, .int (nI (qq c))), (0, .ref (b)), (1, .ref (ad 0)), (2, .ref (so)), (3, .int (nI (t))), (4, .int (v))]) hx hb dL_law_76 hl (by decide) rfl (fun ls hl => ?_)
  refine lv_aload_n hx hb dL_law_78 rfl (lv_at hl 4 rfl) ?_
  refine x_csl (va_runV (As := []) (rest := []) ⟨hx, hb, hml, hown, hts⟩ (c_X1_digest l D cI cZ cG cJ A ad wr hpal c g hid code ans dbt opn ply hps (hI)) (cwV 0 hts gL_law_X1_digest rfl rfl rfl (by decide +kernel) ⟨Nat.le_of_ble_eq_true rfl, Nat.le_of_ble_eq_true rfl⟩) (preV (ci := 1) (q0 := 0) hB hS hP hD rfl rfl) rfl rfl hl.1 rfl (lv_room (Nat.le_of_ble_eq_true rfl)) dL_law_79 ⟨by show _ ≤ 600130; omega, by show _ ≤ 7301080; omega⟩) ?_
  refine lv_lstore (lv' := [(8, .long (digV c g hid code ans dbt)), (7, .int (nI (cN (opS c g code ans dbt) 81))), (6, .int (nI (g))), (5, .int (nI (qq c))), (0, .ref (b)), (1, .ref (ad 0)), (2, .ref (so)), (3, .int (nI (t))), (4, .int (v))]) hx hb dL_law_82 hl (by decide) rfl (fun ls hl => ?_)
  refine lv_iconst (v := nI (0)) hx hb dL_law_84 (by decide) ?_
  refine lv_istore (lv' := [(10, .int (nI (0))), (8, .long (digV c g hid code ans dbt)), (7, .int (nI (cN (opS c g code ans dbt) 81))), (6, .int (nI (g))), (5, .int (nI (qq c))), (0, .ref (b)), (1, .ref (ad 0)), (2, .ref (so)), (3, .int (nI (t))), (4, .int (v))]) hx hb dL_law_85 hl (by decide) rfl (fun ls hl => ?_)
  refine lv_iconst (v := nI (4)) hx hb dL_law_87 (by decide) ?_
  refine lv_aload_n hx hb dL_law_88 rfl (lv_at hl 6 rfl) ?_
  refine lv_iconst (v := nI (0)) hx hb dL_law_89 (by decide) ?_
  refine x_csi (va_runV (As := [.int (nI (0))]) (rest := [.int (nI (4))]) ⟨hx, hb, hml, hown, hts⟩ (c_X1_countP l D cI cZ cG cJ A ad wr hpal c g hid code ans dbt opn ply hps 0 (hI) (by decide)) (cwV 1 hts gL_law_X1_count rfl rfl rfl (by decide +kernel) ⟨Nat.le_of_ble_eq_true rfl, Nat.le_of_ble_eq_true rfl⟩) (preV (ci := 1) (q0 := 0) hB hS hP hD rfl rfl) rfl rfl hl.1 rfl (lv_room (Nat.le_of_ble_eq_true rfl)) dL_law_90 ⟨by show _ ≤ 600130; omega, by show _ ≤ 7301080; omega⟩) ?_
  refine x_ti (y := nI (c)) (rfl) ?_
  refine x_mnaX hx hb hown (hts _ (by decide +kernel)) (hts _ (by decide +kernel)) hB hP hD hS (k := c) (by omega) (by show _ ≤ 600130; omega) (by show _ ≤ 7301080; omega) dL_law_93 (fun hv r wr2 H2 hV hP2 hD2 hS2 => ?_)
  clear hP hD hS
  generalize H2 = H at hP2 hS2 ⊢
  have hP := hP2; have hD := hD2; have hS := hS2
  clear hP2 hD2 hS2
  have hpal0 := hpal
  clear hpal
  refine lv_astore (lv' := [(11, .ref (hv)), (10, .int (nI (0))), (8, .long (digV c g hid code ans dbt)), (7, .int (nI (cN (opS c g code ans dbt) 81))), (6, .int (nI (g))), (5, .int (nI (qq c))), (0, .ref (b)), (1, .ref (ad 0)), (2, .ref (so)), (3, .int (nI (t))), (4, .int (v))]) hx hb dL_law_97 hl (by decide) rfl (fun ls hl => ?_)
  refine lv_iconst (v := nI (0)) hx hb dL_law_99 (by decide) ?_
  refine lv_istore (lv' := [(12, .int (nI (0))), (11, .ref (hv)), (10, .int (nI (0))), (8, .long (digV c g hid code ans dbt)), (7, .int (nI (cN (opS c g code ans dbt) 81))), (6, .int (nI (g))), (5, .int (nI (qq c))), (0, .ref (b)), (1, .ref (ad 0)), (2, .ref (so)), (3, .int (nI (t))), (4, .int (v))]) hx hb dL_law_100 hl (by decide) rfl (fun ls hl => ?_)
  -- loop at 102
  have hinv : 0 ≤ qq c ∧ 0 = cN (opS c g code ans dbt) 0 ∧ ∃ M1 : Nat → Nat → Nat, HV cI cG wr wr2 hv r c M1 ∧ ∀ k, k < 4 → ∀ x, x < c → M1 k x = cN (fun z => (opS c g code ans dbt) z && decide (col c z k = x)) 0 := by
    exact ⟨Nat.zero_le _, rfl, _, hV, fun _ _ _ _ => rfl⟩
  obtain ⟨kk, sn9, wr2, hq9⟩ : ∃ (kk : Nat) (sn9 : Nat) (wr2 : va_W), lv_has ls 25 [(0, .ref (b)), (1, .ref (ad 0)), (2, .ref (so)), (3, .int (nI (t))), (4, .int (v)), (5, .int (nI (qq c))), (6, .int (nI (g))), (7, .int (nI (cN (opS c g code ans dbt) 81))), (8, .long (digV c g hid code ans dbt)), (10, .int (nI (sn9))), (11, .ref (hv)), (12, .int (nI (kk)))] ∧ (kk ≤ qq c ∧ sn9 = cN (opS c g code ans dbt) kk ∧ ∃ M1 : Nat → Nat → Nat, HV cI cG wr wr2 hv r c M1 ∧ ∀ k, k < 4 → ∀ x, x < c → M1 k x = cN (fun z => (opS c g code ans dbt) z && decide (col c z k = x)) kk) ∧ va_P D vwCl (WX ad cI cZ c g hid code ans dbt opn ply hps wr2) H ∧ va_D A (WX ad cI cZ c g hid code ans dbt opn ply hps wr2) := ⟨0, 0, wr2, lv_sub hl [7, 8, 9, 10, 11, 6, 5, 4, 3, 2, 1, 0] rfl, hinv, hP, hD⟩
  clear hl hinv hP hD
  obtain ⟨hl, hinv, hP, hD⟩ := hq9
  clear hV
  obtain ⟨n9_102, hn9⟩ : ∃ q : Nat, qq c - kk < q := ⟨_, Nat.lt_succ_self _⟩
  induction n9_102 generalizing ls H locs kk sn9 wr2 with
  | zero => exact absurd hn9 (Nat.not_lt_zero _)
  | succ n9_102 ih102 =>
    obtain ⟨e1, e2, M1, hV, hM⟩ := hinv; have hpal := hpal0.emb (f := id) hV.2.1; have hle9 := cN_le (opS c g code ans dbt) kk
    refine lv_iload hx hb dL_law_102 (lv_at hl 11 rfl) ?_
    refine lv_iload hx hb dL_law_104 (lv_at hl 5 rfl) ?_
    refine x_ge (tgt := 258) hx hb dL_law_106 (by decide) (by omega) (by omega) (fun c106 => ?_) (fun c106 => ?_)
    · skip
      have ekk : kk = qq c := by omega
      have hsn : sn9 = cN (opS c g code ans dbt) 81 := by rw [e2, ekk]; exact (cN_tail 81 (fun z hz => by rw [opS, decide_eq_false (show ¬ z < qq c by omega)]; rfl) hq.2).symm
      have hMM : ∀ k, k < 4 → ∀ x, x < c → M1 k x = hvN c (opS c g code ans dbt) k x := fun k hk x hx9 => by rw [hM k hk x hx9, ekk, hvN]; exact (hv_qq hq.2 k x).symm
      refine lv_iload hx hb dL_law_258 (lv_at hl 9 rfl) ?_
      refine lv_iload hx hb dL_law_260 (lv_at hl 7 rfl) ?_
      refine x_eq (tgt := 267) hx hb dL_law_262 (by decide) (by omega) (by omega) (fun c262 => ?_) (fun c262 => absurd c262 (fun q => q hsn))
      exact K wr2 hv r M1 H locs ls hV hMM hP hD hS (lv_sub hl [0, 1, 2, 3, 4, 5, 6, 7, 8, 10] rfl)
    · skip
      refine lv_iconst (v := bI (true)) hx hb dL_law_109 (by decide) ?_
      refine lv_istore (lv' := [(13, .int (bI (true))), (0, .ref (b)), (1, .ref (ad 0)), (2, .ref (so)), (3, .int (nI (t))), (4, .int (v)), (5, .int (nI (qq c))), (6, .int (nI (g))), (7, .int (nI (cN (opS c g code ans dbt) 81))), (8, .long (digV c g hid code ans dbt)), (10, .int (nI (sn9))), (11, .ref (hv)), (12, .int (nI (kk)))]) hx hb dL_law_110 hl (by decide) rfl (fun ls hl => ?_)
      refine lv_iconst (v := nI (0)) hx hb dL_law_112 (by decide) ?_
      refine lv_istore (lv' := [(14, .int (nI (0))), (13, .int (bI (true))), (0, .ref (b)), (1, .ref (ad 0)), (2, .ref (so)), (3, .int (nI (t))), (4, .int (v)), (5, .int (nI (qq c))), (6, .int (nI (g))), (7, .int (nI (cN (opS c g code ans dbt) 81))), (8, .long (digV c g hid code ans dbt)), (10, .int (nI (sn9))), (11, .ref (hv)), (12, .int (nI (kk)))]) hx hb dL_law_113 hl (by decide) rfl (fun ls hl => ?_)
      -- loop at 115
      have hinv : 0 ≤ g ∧ true = fit c code ans dbt 0 kk := by
        exact ⟨Nat.zero_le _, rfl⟩
      obtain ⟨j9, is9, hq9⟩ : ∃ (j9 : Nat) (is9 : Bool), lv_has ls 25 [(0, .ref (b)), (1, .ref (ad 0)), (2, .ref (so)), (3, .int (nI (t))), (4, .int (v)), (5, .int (nI (qq c))), (6, .int (nI (g))), (7, .int (nI (cN (opS c g code ans dbt) 81))), (8, .long (digV c g hid code ans dbt)), (10, .int (nI (sn9))), (11, .ref (hv)), (12, .int (nI (kk))), (13, .int (bI (is9))), (14, .int (nI (j9)))] ∧ (j9 ≤ g ∧ is9 = fit c code ans dbt j9 kk) ∧ va_P D vwCl (WX ad cI cZ c g hid code ans dbt opn ply hps wr2) H ∧ va_D A (WX ad cI cZ c g hid code ans dbt opn ply hps wr2) := ⟨0, true, lv_sub hl [2, 3, 4, 5, 6, 7, 8, 9, 10, 11, 12, 13, 1, 0] rfl, hinv, hP, hD⟩
      clear hl hinv hP hD
      obtain ⟨hl, hinv, hP, hD⟩ := hq9
      obtain ⟨n9_115, hn9⟩ : ∃ q : Nat, g - j9 < q := ⟨_, Nat.lt_succ_self _⟩
      induction n9_115 generalizing ls H locs j9 is9 with
      | zero => exact absurd hn9 (Nat.not_lt_zero _)
      | succ n9_115 ih115 =>
        obtain ⟨i1, i2⟩ := hinv
        refine lv_iload hx hb dL_law_115 (lv_at hl 13 rfl) ?_
        refine lv_iload hx hb dL_law_117 (lv_at hl 6 rfl) ?_
        refine x_ge (tgt := 182) hx hb dL_law_119 (by decide) (by omega) (by omega) (fun c119 => ?_) (fun c119 => ?_)
        · skip
          have hie : is9 = opS c g code ans dbt kk := by rw [i2, show j9 = g by omega, opS, decide_eq_true (show kk < qq c by omega), Bool.true_and]
          refine lv_aload_n hx hb dL_law_182 rfl (lv_at hl 1 rfl) ?_
          refine lv_iload hx hb dL_law_183 (lv_at hl 11 rfl) ?_
          refine x_csi (va_runV (As := [.int (nI (kk))]) (rest := []) ⟨hx, hb, hml, hown, hts⟩ (c_X1_isPossibleP l D cI cZ cG cJ A ad wr2 hpal c g hid code ans dbt opn ply hps kk (hI) (by omega)) (cwV 1 hts gL_law_X1_isPossible rfl rfl rfl (by decide +kernel) ⟨Nat.le_of_ble_eq_true rfl, Nat.le_of_ble_eq_true rfl⟩) (preV (ci := 1) (q0 := 0) hB hS hP hD rfl rfl) rfl rfl hl.1 rfl (lv_room (Nat.le_of_ble_eq_true rfl)) dL_law_185 ⟨by show _ ≤ 600130; omega, by show _ ≤ 7301080; omega⟩) ?_
          refine lv_iload hx hb dL_law_188 (lv_at hl 12 rfl) ?_
          refine lv_icmp_eq (tgt := 195) hx hb dL_law_190 (by decide) (fun c190 => ?_) (fun c190 => absurd c190 (fun q => q (by rw [hie])))
          refine lv_iload hx hb dL_law_195 (lv_at hl 12 rfl) ?_
          refine x_zne (tgt := 203) hx hb dL_law_197 (by decide) (fun c197 => ?_) (fun c197 => ?_)
          · skip
            have hopk : opS c g code ans dbt kk = true := hie.symm.trans c197
            refine lv_aload_n hx hb dL_law_203 rfl (lv_at hl 1 rfl) ?_
            refine lv_iload hx hb dL_law_204 (lv_at hl 9 rfl) ?_
            refine x_csi (va_runV (As := [.int (nI (sn9))]) (rest := []) ⟨hx, hb, hml, hown, hts⟩ (c_X1_possibleP l D cI cZ cG cJ A ad wr2 hpal c g hid code ans dbt opn ply hps sn9 kk (hI) (by omega) (hopk) (e2.symm)) (cwV 1 hts gL_law_X1_possible rfl rfl rfl (by decide +kernel) ⟨Nat.le_of_ble_eq_true rfl, Nat.le_of_ble_eq_true rfl⟩) (preV (ci := 1) (q0 := 0) hB hS hP hD rfl rfl) rfl rfl hl.1 rfl (lv_room (Nat.le_of_ble_eq_true rfl)) dL_law_206 ⟨by show _ ≤ 600130; omega, by show _ ≤ 7301080; omega⟩) ?_
            refine lv_iload hx hb dL_law_209 (lv_at hl 11 rfl) ?_
            refine x_eq (tgt := 216) hx hb dL_law_211 (by decide) (by omega) (by omega) (fun c211 => ?_) (fun c211 => absurd c211 (fun q => q rfl))
            refine lv_iinc (v := nI (sn9 + 1)) (lv' := [(10, .int (nI (sn9 + 1))), (0, .ref (b)), (1, .ref (ad 0)), (2, .ref (so)), (3, .int (nI (t))), (4, .int (v)), (5, .int (nI (qq c))), (6, .int (nI (g))), (7, .int (nI (cN (opS c g code ans dbt) 81))), (8, .long (digV c g hid code ans dbt)), (11, .ref (hv)), (12, .int (nI (kk))), (13, .int (bI (is9))), (14, .int (nI (j9)))]) hx hb dL_law_216 hl (k := 9) rfl (nI_add _ _) (by decide) rfl (fun ls hl => ?_)
            refine lv_iconst (v := nI (0)) hx hb dL_law_219 (by decide) ?_
            refine lv_istore (lv' := [(14, .int (nI (0))), (10, .int (nI (sn9 + 1))), (0, .ref (b)), (1, .ref (ad 0)), (2, .ref (so)), (3, .int (nI (t))), (4, .int (v)), (5, .int (nI (qq c))), (6, .int (nI (g))), (7, .int (nI (cN (opS c g code ans dbt) 81))), (8, .long (digV c g hid code ans dbt)), (11, .ref (hv)), (12, .int (nI (kk))), (13, .int (bI (is9)))]) hx hb dL_law_220 hl (by decide) rfl (fun ls hl => ?_)
            -- loop at 222
            have hinv : 0 ≤ 4 ∧ ∃ M2 : Nat → Nat → Nat, HV cI cG wr wr2 hv r c M2 ∧ ∀ k, k < 4 → ∀ x, x < c → (k < 0 → M2 k x = cN (fun z => (opS c g code ans dbt) z && decide (col c z k = x)) (kk + 1)) ∧ (0 ≤ k → M2 k x = cN (fun z => (opS c g code ans dbt) z && decide (col c z k = x)) kk) := by
              exact ⟨Nat.zero_le _, M1, hV, fun k hk x hx9 => ⟨fun h => absurd h (Nat.not_lt_zero _), fun _ => hM k hk x hx9⟩⟩
            obtain ⟨j4, wr3, hq9⟩ : ∃ (j4 : Nat) (wr3 : va_W), lv_has ls 25 [(0, .ref (b)), (1, .ref (ad 0)), (2, .ref (so)), (3, .int (nI (t))), (4, .int (v)), (5, .int (nI (qq c))), (6, .int (nI (g))), (7, .int (nI (cN (opS c g code ans dbt) 81))), (8, .long (digV c g hid code ans dbt)), (10, .int (nI (sn9 + 1))), (11, .ref (hv)), (12, .int (nI (kk))), (13, .int (bI (is9))), (14, .int (nI (j4)))] ∧ (j4 ≤ 4 ∧ ∃ M2 : Nat → Nat → Nat, HV cI cG wr wr3 hv r c M2 ∧ ∀ k, k < 4 → ∀ x, x < c → (k < j4 → M2 k x = cN (fun z => (opS c g code ans dbt) z && decide (col c z k = x)) (kk + 1)) ∧ (j4 ≤ k → M2 k x = cN (fun z => (opS c g code ans dbt) z && decide (col c z k = x)) kk)) ∧ va_P D vwCl (WX ad cI cZ c g hid code ans dbt opn ply hps wr3) H ∧ va_D A (WX ad cI cZ c g hid code ans dbt opn ply hps wr3) := ⟨0, wr2, lv_sub hl [2, 3, 4, 5, 6, 7, 8, 9, 10, 1, 11, 12, 13, 0] rfl, hinv, hP, hD⟩
            clear hl hinv hP hD
            obtain ⟨hl, hinv, hP, hD⟩ := hq9
            obtain ⟨n9_222, hn9⟩ : ∃ q : Nat, 4 - j4 < q := ⟨_, Nat.lt_succ_self _⟩
            induction n9_222 generalizing ls H locs j4 wr3 with
            | zero => exact absurd hn9 (Nat.not_lt_zero _)
            | succ n9_222 ih222 =>
              obtain ⟨g1, M2, hV2, hM2⟩ := hinv; have hpal := hpal0.emb (f := id) hV2.2.1; have hcl := col_lt hc kk j4
              refine lv_iload hx hb dL_law_222 (lv_at hl 13 rfl) ?_
              refine lv_iconst (v := nI (4)) hx hb dL_law_224 (by decide) ?_
              refine x_ge (tgt := 252) hx hb dL_law_225 (by decide) (by omega) (by omega) (fun c225 => ?_) (fun c225 => ?_)
              · skip
                refine lv_iinc (v := nI (kk + 1)) (lv' := [(12, .int (nI (kk + 1))), (0, .ref (b)), (1, .ref (ad 0)), (2, .ref (so)), (3, .int (nI (t))), (4, .int (v)), (5, .int (nI (qq c))), (6, .int (nI (g))), (7, .int (nI (cN (opS c g code ans dbt) 81))), (8, .long (digV c g hid code ans dbt)), (10, .int (nI (sn9 + 1))), (11, .ref (hv)), (13, .int (bI (is9))), (14, .int (nI (j4)))]) hx hb dL_law_252 hl (k := 11) rfl (nI_add _ _) (by decide) rfl (fun ls hl => ?_)
                refine lv_goto (tgt := 102) hx hb dL_law_255 (by decide) ?_
                exact ih102 (kk := kk + 1) (sn9 := sn9 + 1) (wr2 := wr3) (ls := ls) (hl := lv_sub hl [1, 2, 3, 4, 5, 6, 7, 8, 9, 10, 11, 0] rfl) (H := H) (locs := locs) (hP := hP) (hD := hD) (hS := hS) (hinv := by
                    first | (have hopk : opS c g code ans dbt kk = false := hie.symm.trans c197; exact ⟨by omega, by rw [cN_n hopk]; exact e2, M1, hV, fun k hk x hx9 => by rw [hM k hk x hx9, cN_n (p := fun z => (opS c g code ans dbt) z && decide (col c z k = x)) (by simp [hopk])]⟩) | (have ej : j4 = 4 := (by omega); subst ej; exact ⟨by omega, by rw [cN_s hopk, e2], M2, hV2, fun k hk x hx9 => (hM2 k hk x hx9).1 hk⟩)
                  ) (hn9 := by
                    omega
                  )
              · skip
                refine lv_aload hx hb dL_law_228 (lv_at hl 10 rfl) ?_
                refine lv_iload hx hb dL_law_230 (lv_at hl 13 rfl) ?_
                refine x_gald hx hb hK hP (wr.length + 7) 2 (atWX hV2.2.2.1) rfl (i := j4) (by omega) (by omega) (r := r j4) (if_pos (by omega)) dL_law_232 ?_
                refine lv_aload_n hx hb dL_law_233 rfl (lv_at hl 1 rfl) ?_
                refine lv_iload hx hb dL_law_234 (lv_at hl 11 rfl) ?_
                refine lv_iload hx hb dL_law_236 (lv_at hl 13 rfl) ?_
                refine x_csi (va_runV (As := [.int (nI (kk)), .int (nI (j4))]) (rest := [.ref (r j4)]) ⟨hx, hb, hml, hown, hts⟩ (c_X1_colourP l D cI cZ cG cJ A ad wr3 hpal c g hid code ans dbt opn ply hps kk j4 (hI) (by omega) (by omega)) (cwV 2 hts gL_law_X1_colour rfl rfl rfl (by decide +kernel) ⟨Nat.le_of_ble_eq_true rfl, Nat.le_of_ble_eq_true rfl⟩) (preV (ci := 1) (q0 := 0) hB hS hP hD rfl rfl) rfl rfl hl.1 rfl (lv_room (Nat.le_of_ble_eq_true rfl)) dL_law_238 ⟨by show _ ≤ 600130; omega, by show _ ≤ 7301080; omega⟩) ?_
                refine lv_dup2_11 hx hb dL_law_241 rfl rfl ?_
                refine x_iald hx hb hK hP (wr.length + 1 + j4 + 7) 0 ((fun i hi => atWX (hV2.2.2.2 i hi)) j4 (by omega)) rfl (i := col c kk j4) (by omega) (by omega) dL_law_242 ?_
                have hmle : M2 j4 (col c kk j4) ≤ 81 := by rw [(hM2 j4 (by omega) _ hcl).2 (Nat.le_refl _)]; exact Nat.le_trans (cN_le _ _) (by omega)
                refine lv_iconst (v := nI (1)) hx hb dL_law_243 (by decide) ?_
                refine lv_iadd hx hb dL_law_244 ?_
                refine x_ti (nI_add _ _) ?_
                refine x_iast hx hb hK hP hD hS (wr.length + 1 + j4 + 7) 0 ((fun i hi => atWX (hV2.2.2.2 i hi)) j4 (by omega)) rfl (i := col c kk j4) (v := (M2 j4 (col c kk j4)) + 1) (by omega) (by omega) dL_law_245 (fun H locs hP hD hS => ?_)
                replace hP : va_P D vwCl (WX ad cI cZ c g hid code ans dbt opn ply hps (wr3.set (wr.length + 1 + j4) (r j4, .inl (cI, c, .inl (fun z => nI (va_up (M2 j4) (col c kk j4) (M2 j4 (col c kk j4) + 1) z)))))) H := hP
                replace hD : va_D A (WX ad cI cZ c g hid code ans dbt opn ply hps (wr3.set (wr.length + 1 + j4) (r j4, .inl (cI, c, .inl (fun z => nI (va_up (M2 j4) (col c kk j4) (M2 j4 (col c kk j4) + 1) z)))))) := hD
                refine lv_iinc (v := nI (j4 + 1)) (lv' := [(14, .int (nI (j4 + 1))), (0, .ref (b)), (1, .ref (ad 0)), (2, .ref (so)), (3, .int (nI (t))), (4, .int (v)), (5, .int (nI (qq c))), (6, .int (nI (g))), (7, .int (nI (cN (opS c g code ans dbt) 81))), (8, .long (digV c g hid code ans dbt)), (10, .int (nI (sn9 + 1))), (11, .ref (hv)), (12, .int (nI (kk))), (13, .int (bI (is9)))]) hx hb dL_law_246 hl (k := 13) rfl (nI_add _ _) (by decide) rfl (fun ls hl => ?_)
                refine lv_goto (tgt := 222) hx hb dL_law_249 (by decide) ?_
                exact ih222 (j4 := j4 + 1) (wr3 := (wr3.set (wr.length + 1 + j4) (r j4, .inl (cI, c, .inl (fun z => nI (va_up (M2 j4) (col c kk j4) (M2 j4 (col c kk j4) + 1) z)))))) (ls := ls) (hl := lv_sub hl [1, 2, 3, 4, 5, 6, 7, 8, 9, 10, 11, 12, 13, 0] rfl) (H := H) (locs := locs) (hP := hP) (hD := hD) (hS := hS) (hinv := by
                    exact ⟨by omega, _, hV2.put (by omega), have_up hopk hM2 (by omega)⟩
                  ) (hn9 := by
                    omega
                  )
          · skip
            refine lv_goto (tgt := 252) hx hb dL_law_200 (by decide) ?_
            refine lv_iinc (v := nI (kk + 1)) (lv' := [(12, .int (nI (kk + 1))), (0, .ref (b)), (1, .ref (ad 0)), (2, .ref (so)), (3, .int (nI (t))), (4, .int (v)), (5, .int (nI (qq c))), (6, .int (nI (g))), (7, .int (nI (cN (opS c g code ans dbt) 81))), (8, .long (digV c g hid code ans dbt)), (10, .int (nI (sn9))), (11, .ref (hv)), (13, .int (bI (is9))), (14, .int (nI (j9)))]) hx hb dL_law_252 hl (k := 11) rfl (nI_add _ _) (by decide) rfl (fun ls hl => ?_)
            refine lv_goto (tgt := 102) hx hb dL_law_255 (by decide) ?_
            exact ih102 (kk := kk + 1) (sn9 := sn9) (wr2 := wr2) (ls := ls) (hl := lv_sub hl [1, 2, 3, 4, 5, 6, 7, 8, 9, 10, 11, 0] rfl) (H := H) (locs := locs) (hP := hP) (hD := hD) (hS := hS) (hinv := by
                first | (have hopk : opS c g code ans dbt kk = false := hie.symm.trans c197; exact ⟨by omega, by rw [cN_n hopk]; exact e2, M1, hV, fun k hk x hx9 => by rw [hM k hk x hx9, cN_n (p := fun z => (opS c g code ans dbt) z && decide (col c z k = x)) (by simp [hopk])]⟩) | (have ej : j4 = 4 := (by omega); subst ej; exact ⟨by omega, by rw [cN_s hopk, e2], M2, hV2, fun k hk x hx9 => (hM2 k hk x hx9).1 hk⟩)
              ) (hn9 := by
                omega
              )
        · skip
          refine lv_iload hx hb dL_law_122 (lv_at hl 12 rfl) ?_
          refine lv_aload_n hx hb dL_law_124 rfl (lv_at hl 1 rfl) ?_
          refine lv_iload hx hb dL_law_125 (lv_at hl 13 rfl) ?_
          refine lv_iconst (v := nI (3)) hx hb dL_law_127 (by decide) ?_
          refine x_csi (va_runV (As := [.int (nI (j9)), .int (nI (3))]) (rest := [.int (bI (is9))]) ⟨hx, hb, hml, hown, hts⟩ (c_X1_toldP l D cI cZ cG cJ A ad wr2 hpal c g hid code ans dbt opn ply hps j9 3 (hI) (by omega) (by decide)) (cwV 2 hts gL_law_X1_told rfl rfl rfl (by decide +kernel) ⟨Nat.le_of_ble_eq_true rfl, Nat.le_of_ble_eq_true rfl⟩) (preV (ci := 1) (q0 := 0) hB hS hP hD rfl rfl) rfl rfl hl.1 rfl (lv_room (Nat.le_of_ble_eq_true rfl)) dL_law_128 ⟨by show _ ≤ 600130; omega, by show _ ≤ 7301080; omega⟩) ?_
          refine x_ti (y := nI (bN (dbt j9))) (rfl) ?_
          refine lv_iconst (v := nI (1)) hx hb dL_law_131 (by decide) ?_
          refine x_join (g2 := F0 m 173 ls [.int (bI (dbt j9 || decide (pins c (code j9) kk = ans j9))), .int (bI (is9))]) ?_ (fun hj173 => ?_)
          · skip
            refine lv_iand hx hb dL_law_173 ?_
            refine x_ti (y := bI (is9 && (dbt j9 || decide (pins c (code j9) kk = ans j9)))) (bI_and _ _) ?_
            refine lv_istore (lv' := [(13, .int (bI (is9 && (dbt j9 || decide (pins c (code j9) kk = ans j9))))), (0, .ref (b)), (1, .ref (ad 0)), (2, .ref (so)), (3, .int (nI (t))), (4, .int (v)), (5, .int (nI (qq c))), (6, .int (nI (g))), (7, .int (nI (cN (opS c g code ans dbt) 81))), (8, .long (digV c g hid code ans dbt)), (10, .int (nI (sn9))), (11, .ref (hv)), (12, .int (nI (kk))), (14, .int (nI (j9)))]) hx hb dL_law_174 hl (by decide) rfl (fun ls hl => ?_)
            refine lv_iinc (v := nI (j9 + 1)) (lv' := [(14, .int (nI (j9 + 1))), (13, .int (bI (is9 && (dbt j9 || decide (pins c (code j9) kk = ans j9))))), (0, .ref (b)), (1, .ref (ad 0)), (2, .ref (so)), (3, .int (nI (t))), (4, .int (v)), (5, .int (nI (qq c))), (6, .int (nI (g))), (7, .int (nI (cN (opS c g code ans dbt) 81))), (8, .long (digV c g hid code ans dbt)), (10, .int (nI (sn9))), (11, .ref (hv)), (12, .int (nI (kk)))]) hx hb dL_law_176 hl (k := 13) rfl (nI_add _ _) (by decide) rfl (fun ls hl => ?_)
            refine lv_goto (tgt := 115) hx hb dL_law_179 (by decide) ?_
            exact ih115 (j9 := j9 + 1) (is9 := is9 && (dbt j9 || decide (pins c (code j9) kk = ans j9))) (ls := ls) (hl := lv_sub hl [2, 3, 4, 5, 6, 7, 8, 9, 10, 11, 12, 13, 1, 0] rfl) (H := H) (locs := locs) (hP := hP) (hS := hS) (hinv := by
                exact ⟨by omega, by rw [fit, ← i2]⟩
              ) (hn9 := by
                omega
              )
          · skip
            refine x_eq (tgt := 168) hx hb dL_law_132 (by decide) (by have := bN_le (dbt j9); omega) (by omega) (fun c132 => ?_) (fun c132 => ?_)
            · skip
              refine lv_iconst (v := nI (1)) hx hb dL_law_168 (by decide) ?_
              refine lv_goto (tgt := 173) hx hb dL_law_169 (by decide) ?_
              refine x_ti (y := bI (dbt j9 || decide (pins c (code j9) kk = ans j9))) (by first | (rw [bN_1.mp c132]; rfl) | (rw [decide_eq_true c165, Bool.or_true]; rfl) | (rw [bN_0 c132, decide_eq_false c165]; rfl)) ?_
              exact hj173
            · skip
              refine lv_aload_n hx hb dL_law_135 rfl (lv_at hl 1 rfl) ?_
              refine lv_aload_n hx hb dL_law_136 rfl (lv_at hl 1 rfl) ?_
              refine lv_iload hx hb dL_law_137 (lv_at hl 13 rfl) ?_
              refine lv_iconst (v := nI (0)) hx hb dL_law_139 (by decide) ?_
              refine x_csi (va_runV (As := [.int (nI (j9)), .int (nI (0))]) (rest := [.ref (ad 0), .int (bI (is9))]) ⟨hx, hb, hml, hown, hts⟩ (c_X1_toldP l D cI cZ cG cJ A ad wr2 hpal c g hid code ans dbt opn ply hps j9 0 (hI) (by omega) (by decide)) (cwV 2 hts gL_law_X1_told rfl rfl rfl (by decide +kernel) ⟨Nat.le_of_ble_eq_true rfl, Nat.le_of_ble_eq_true rfl⟩) (preV (ci := 1) (q0 := 0) hB hS hP hD rfl rfl) rfl rfl hl.1 rfl (lv_room (Nat.le_of_ble_eq_true rfl)) dL_law_140 ⟨by show _ ≤ 600130; omega, by show _ ≤ 7301080; omega⟩) ?_
              refine x_ti (y := nI (code j9)) (rfl) ?_
              refine lv_iload hx hb dL_law_143 (lv_at hl 11 rfl) ?_
              refine x_csi (va_runV (As := [.int (nI (code j9)), .int (nI (kk))]) (rest := [.int (bI (is9))]) ⟨hx, hb, hml, hown, hts⟩ (c_X1_pinsP l D cI cZ cG cJ A ad wr2 hpal c g hid code ans dbt opn ply hps (code j9) kk (hI) ((hco j9 (by omega)).1) (by omega)) (cwV 2 hts gL_law_X1_pins rfl rfl rfl (by decide +kernel) ⟨Nat.le_of_ble_eq_true rfl, Nat.le_of_ble_eq_true rfl⟩) (preV (ci := 1) (q0 := 0) hB hS hP hD rfl rfl) rfl rfl hl.1 rfl (lv_room (Nat.le_of_ble_eq_true rfl)) dL_law_145 ⟨by show _ ≤ 600130; omega, by show _ ≤ 7301080; omega⟩) ?_
              have hpi := pins_le hc (hco j9 (by omega)).1 (show kk < qq c by omega)
              have hai := (hco j9 (by omega)).2
              refine lv_iconst (v := nI (5)) hx hb dL_law_148 (by decide) ?_
              refine lv_aload_n hx hb dL_law_149 rfl (lv_at hl 1 rfl) ?_
              refine lv_iload hx hb dL_law_150 (lv_at hl 13 rfl) ?_
              refine lv_iconst (v := nI (1)) hx hb dL_law_152 (by decide) ?_
              refine x_csi (va_runV (As := [.int (nI (j9)), .int (nI (1))]) (rest := [.int (nI (5)), .int (nI (pins c (code j9) kk)), .int (bI (is9))]) ⟨hx, hb, hml, hown, hts⟩ (c_X1_toldP l D cI cZ cG cJ A ad wr2 hpal c g hid code ans dbt opn ply hps j9 1 (hI) (by omega) (by decide)) (cwV 2 hts gL_law_X1_told rfl rfl rfl (by decide +kernel) ⟨Nat.le_of_ble_eq_true rfl, Nat.le_of_ble_eq_true rfl⟩) (preV (ci := 1) (q0 := 0) hB hS hP hD rfl rfl) rfl rfl hl.1 rfl (lv_room (Nat.le_of_ble_eq_true rfl)) dL_law_153 ⟨by show _ ≤ 600130; omega, by show _ ≤ 7301080; omega⟩) ?_
              refine x_ti (y := nI (ans j9 / 5)) (rfl) ?_
              refine lv_imul hx hb dL_law_156 ?_
              refine x_ti (pk_mul _ _) ?_
              refine lv_aload_n hx hb dL_law_157 rfl (lv_at hl 1 rfl) ?_
              refine lv_iload hx hb dL_law_158 (lv_at hl 13 rfl) ?_
              refine lv_iconst (v := nI (2)) hx hb dL_law_160 (by decide) ?_
              refine x_csi (va_runV (As := [.int (nI (j9)), .int (nI (2))]) (rest := [.int (nI (5 * (ans j9 / 5))), .int (nI (pins c (code j9) kk)), .int (bI (is9))]) ⟨hx, hb, hml, hown, hts⟩ (c_X1_toldP l D cI cZ cG cJ A ad wr2 hpal c g hid code ans dbt opn ply hps j9 2 (hI) (by omega) (by decide)) (cwV 2 hts gL_law_X1_told rfl rfl rfl (by decide +kernel) ⟨Nat.le_of_ble_eq_true rfl, Nat.le_of_ble_eq_true rfl⟩) (preV (ci := 1) (q0 := 0) hB hS hP hD rfl rfl) rfl rfl hl.1 rfl (lv_room (Nat.le_of_ble_eq_true rfl)) dL_law_161 ⟨by show _ ≤ 600130; omega, by show _ ≤ 7301080; omega⟩) ?_
              refine x_ti (y := nI (ans j9 % 5)) (rfl) ?_
              refine lv_iadd hx hb dL_law_164 ?_
              refine x_ti (nI_add _ _) ?_
              refine x_ti (y := nI (ans j9)) (by rw [Nat.div_add_mod]) ?_
              refine x_ne (tgt := 172) hx hb dL_law_165 (by decide) (by omega) (by omega) (fun c165 => ?_) (fun c165 => ?_)
              · skip
                refine lv_iconst (v := nI (0)) hx hb dL_law_172 (by decide) ?_
                refine x_ti (y := bI (dbt j9 || decide (pins c (code j9) kk = ans j9))) (by first | (rw [bN_1.mp c132]; rfl) | (rw [decide_eq_true c165, Bool.or_true]; rfl) | (rw [bN_0 c132, decide_eq_false c165]; rfl)) ?_
                exact hj173
              · skip
                refine lv_iconst (v := nI (1)) hx hb dL_law_168 (by decide) ?_
                refine lv_goto (tgt := 173) hx hb dL_law_169 (by decide) ?_
                refine x_ti (y := bI (dbt j9 || decide (pins c (code j9) kk = ans j9))) (by first | (rw [bN_1.mp c132]; rfl) | (rw [decide_eq_true c165, Bool.or_true]; rfl) | (rw [bN_0 c132, decide_eq_false c165]; rfl)) ?_
                exact hj173
