theorem room_n {n k k2 M a : Nat} (h : k + a * (512 - n) ≤ M) (hn : n + 1 ≤ 512) (hk : k2 ≤ k + a) : k2 + a * (512 - (n + 1)) ≤ M := by
  rw [show 512 - n = 512 - (n + 1) + 1 by omega, Nat.mul_add, Nat.mul_one] at h
  omega
theorem mu_n {n m : Nat} (h : 513 - n < m + 1) (hn : n + 1 ≤ 512) : 513 - (n + 1) < m := by omega
set_option maxHeartbeats 40000000 in
set_option maxRecDepth 100000 in
theorem law_loop {p : Program} {l : Launch} {e : Env} {s : State} {m : MethodId} {below : List Frame} {meth : Method} {c9 : Code} (hfl : l.flags = flags0) {D : va_G} {cI cZ cG cJ : ClassId} {ad bd : Nat → Nat} {ao : Nat} {wr3 : va_W} {b L : Nat} {xs : Nat → Int32} (hL : L ≤ 2048) (C0 : lw_At p s m meth c9 b L xs) (hB : Bs D (TY cI cZ cG cJ) (fun q : Nat => s.heap.size ≤ q) s) (hpal : Pals cI cG ad wr3) {c0 : Nat} {g0 : Nat} {hid0 : Int32} {code0 : Nat → Nat} {ans0 : Nat → Nat} {dbt0 : Nat → Bool} {opn0 : Nat → Bool} {ply0 : Nat → Bool} {hps0 : Nat → Nat} {ov0 : Nat → Int64} {th0 : Nat} {many0 : Nat} {row0 : Nat → Nat} {heap0 : Nat → Nat} {our0 : Nat → Nat} {the0 : Nat → Nat} (hI0 : XI c0 g0 hid0 code0 ans0 dbt0 opn0) {H : Heap} {locs : List Loc} (hP : va_P D vwCl (WX ad cI cZ c0 g0 hid0 code0 ans0 dbt0 opn0 ply0 hps0 (OL ao cJ ov0 :: WM bd cI th0 c0 hid0 g0 code0 ans0 dbt0 many0 row0 heap0 our0 the0 wr3)) H) (hD : va_D (fun q : Nat => s.heap.size ≤ q) (WX ad cI cZ c0 g0 hid0 code0 ans0 dbt0 opn0 ply0 hps0 (OL ao cJ ov0 :: WM bd cI th0 c0 hid0 g0 code0 ans0 dbt0 many0 row0 heap0 our0 the0 wr3))) (hS : va_S (fun q : Nat => s.heap.size ≤ q) s.heap H locs) {ls : Array Slot} (hl : lv_has ls 9 [(0, .ref b), (1, .ref (ad 0)), (2, .ref (bd 0)), (3, .ref ao), (4, .int (nI 0))]) {kc ks : Nat} (hkc : kc + 1536 ≤ 601024) (hks : ks + 9216 ≤ 7293034) : W p l e room_1 s m #[Value.ref b] below meth c9 H locs kc ks (lw_Z below #[Value.ref b] s) (F0 m 23 ls []) := by
  obtain ⟨hx, hb, hr, hml, hown, hts0, hX, hbl, hlocks, hgv⟩ := id C0
  have hown : s.vm.findClass RL = some m.cls := hown
  have hb : c9.code = cL_law := hb
  have hts : ∀ w ∈ wsL_law, w.before #[Value.ref b] s = true := fun w h => hts0 w (wsL_law_in w h)
  have hK := hB.1
  have hbA : ¬ (fun q : Nat => s.heap.size ≤ q) b := Nat.not_le.mpr hbl
  -- loop at 23
  have hinv : 0 ≤ 512 ∧ 0 = 4 * 0 ∧ 0 ≤ L + 3 ∧ XI c0 g0 hid0 code0 ans0 dbt0 opn0 ∧ kc + 3 * (512 - 0) ≤ 601024 ∧ ks + 18 * (512 - 0) ≤ 7293034 := by
    exact ⟨Nat.zero_le _, rfl, Nat.zero_le _, hI0, by omega, by omega⟩
  obtain ⟨n, i, c, g, hid, code, ans, dbt, opn, ply, hps, ov, th, many, row, heap, our, the, hq9⟩ : ∃ (n : Nat) (i : Nat) (c : Nat) (g : Nat) (hid : Int32) (code : Nat → Nat) (ans : Nat → Nat) (dbt : Nat → Bool) (opn : Nat → Bool) (ply : Nat → Bool) (hps : Nat → Nat) (ov : Nat → Int64) (th : Nat) (many : Nat) (row : Nat → Nat) (heap : Nat → Nat) (our : Nat → Nat) (the : Nat → Nat), lv_has ls 9 [(0, .ref (b)), (1, .ref (ad 0)), (2, .ref (bd 0)), (3, .ref (ao)), (4, .int (nI (i)))] ∧ (n ≤ 512 ∧ i = 4 * n ∧ i ≤ L + 3 ∧ XI c g hid code ans dbt opn ∧ kc + 3 * (512 - n) ≤ 601024 ∧ ks + 18 * (512 - n) ≤ 7293034) ∧ va_P D vwCl (WX ad cI cZ c g hid code ans dbt opn ply hps (OL ao cJ ov :: WM bd cI th c hid g code ans dbt many row heap our the wr3)) H ∧ va_D (fun q : Nat => s.heap.size ≤ q) (WX ad cI cZ c g hid code ans dbt opn ply hps (OL ao cJ ov :: WM bd cI th c hid g code ans dbt many row heap our the wr3)) := ⟨0, 0, c0, g0, hid0, code0, ans0, dbt0, opn0, ply0, hps0, ov0, th0, many0, row0, heap0, our0, the0, lv_sub hl [0, 1, 2, 3, 4] rfl, hinv, hP, hD⟩
  clear hl hinv hP hD
  obtain ⟨hl, hinv, hP, hD⟩ := hq9
  clear hkc hks hI0
  obtain ⟨n9_23, hn9⟩ : ∃ q : Nat, 513 - n < q := ⟨_, Nat.lt_succ_self _⟩
  induction n9_23 generalizing ls H locs kc ks n i c g hid code ans dbt opn ply hps ov th many row heap our the with
  | zero => exact absurd hn9 (Nat.not_lt_zero _)
  | succ n9_23 ih23 =>
    obtain ⟨h1, h2, h3, hI, h5, h6⟩ := hinv; have hIx := hI; obtain ⟨hc, hg, hco, hhid, hop⟩ := hIx
    refine lv_iload hx hb dL_law_23 (lv_at hl 4 rfl) ?_
    refine lv_aload_n hx hb dL_law_25 rfl (lv_at hl 0 rfl) ?_
    refine va_slen hx hb hX hbl hbA hS dL_law_26 ?_
    refine lv_iconst (v := 4) hx hb dL_law_27 (by decide) ?_
    refine lv_isub hx hb dL_law_28  ?_
    refine x_ti (y := nI L - 4) (rfl) ?_
    refine lv_icmp_gt (tgt := 1344) hx hb dL_law_29 (by decide) (fun c29 => ?_) (fun c29 => ?_)
    · skip
      refine lv_iconst (v := nI (1)) hx hb dL_law_1344 (by decide) ?_
      refine va_forget (fun q hq => hS.2.2 q hq) (W.widen (k := 601024) (n := 7293034) (by omega) (by omega) (lw_ret (d0 := s.drawn) (Drawn.sameBut.refl s.drawn lw_cs) hx hb hr hlocks dL_law_1345))
    · skip
      have hlim := lim_f hL (by omega) c29
      have hn5 : n + 1 ≤ 512 := by omega
      have hi2 : i + 4 = 4 * (n + 1) := by omega
      have hi4 : i + 4 ≤ L + 3 := by omega
      have hk3 : kc + 3 ≤ 601024 := by omega
      have hs3 : ks + 18 ≤ 7293034 := by omega
      have hj0 : i < L := by omega
      have hj1 : i + 1 < L := by omega
      have hj2 : i + 2 < L := by omega
      have hj3 : i + 3 < L := by omega
      have hL31 : L < 2 ^ 31 := by omega
      refine lv_aload_n hx hb dL_law_32 rfl (lv_at hl 0 rfl) ?_
      refine lv_iload hx hb dL_law_33 (lv_at hl 4 rfl) ?_
      refine x_sld hx hb hX hbl hbA hS (i := i) (by first | exact hj0 | exact hj1 | exact hj2 | exact hj3) hL31 dL_law_35 ?_
      refine lv_bipush (v := 31) hx hb dL_law_36 (by decide) ?_
      refine lv_iand hx hb dL_law_38 ?_
      rcases sw_cases ((xs i) &&& (31)) 21 20 (by decide) (by decide) with hsw | ⟨j9, hj9, hwj⟩
      · refine lv_tableOut (tgt := 1338) hx hb dL_law_39 hsw (by decide) ?_
        refine lv_iinc (v := nI (i + 4)) (lv' := [(4, .int (nI (i + 4))), (0, .ref (b)), (1, .ref (ad 0)), (2, .ref (bd 0)), (3, .ref (ao))]) hx hb dL_law_1338 hl (k := 4) rfl (nI_add _ _) (by decide) rfl (fun ls hl => ?_)
        refine lv_goto (tgt := 23) hx hb dL_law_1341 (by decide) ?_
        exact ih23 (n := n + 1) (i := i + 4) (c := c) (g := g) (hid := hid) (code := code) (ans := ans) (dbt := dbt) (opn := opn) (ply := ply) (hps := hps) (ov := ov) (th := th) (many := many) (row := row) (heap := heap) (our := our) (the := the) (kc := _) (ks := _) (ls := ls) (hl := lv_sub hl [1, 2, 3, 4, 0] rfl) (H := H) (locs := locs) (hP := hP) (hD := hD) (hS := hS) (hinv := by
            exact ⟨hn5, hi2, hi4, hI, room_n h5 hn5 (by first | exact Nat.le_add_right _ _ | exact Nat.add_le_add_left (by decide) _ | (simp only [Nat.add_assoc]; exact Nat.add_le_add_left (by decide) _)), room_n h6 hn5 (by first | exact Nat.le_add_right _ _ | exact Nat.add_le_add_left (by decide) _ | (simp only [Nat.add_assoc]; exact Nat.add_le_add_left (by decide) _))⟩
          ) (hn9 := by
            exact mu_n hn9 hn5
          )
      · obtain rfl | rfl | rfl | rfl | rfl | rfl | rfl | rfl | rfl | rfl | rfl | rfl | rfl | rfl | rfl | rfl | rfl | rfl | rfl | rfl | rfl : j9 = 0 ∨ j9 = 1 ∨ j9 = 2 ∨ j9 = 3 ∨ j9 = 4 ∨ j9 = 5 ∨ j9 = 6 ∨ j9 = 7 ∨ j9 = 8 ∨ j9 = 9 ∨ j9 = 10 ∨ j9 = 11 ∨ j9 = 12 ∨ j9 = 13 ∨ j9 = 14 ∨ j9 = 15 ∨ j9 = 16 ∨ j9 = 17 ∨ j9 = 18 ∨ j9 = 19 ∨ j9 = 20 := by omega
        · refine x_ti (y := nI 0) hwj ?_
          refine lv_tableIn (tgt := 136) (off := 97) hx hb dL_law_39 (by decide) (by decide) rfl (by decide) ?_
          refine lv_aload_n hx hb dL_law_136 rfl (lv_at hl 1 rfl) ?_
          refine lv_aload_n hx hb dL_law_137 rfl (lv_at hl 0 rfl) ?_
          refine lv_iload hx hb dL_law_138 (lv_at hl 4 rfl) ?_
          refine lv_iconst (v := nI (1)) hx hb dL_law_140 (by decide) ?_
          refine lv_iadd hx hb dL_law_141 ?_
          refine x_ti (nI_add _ _) ?_
          refine x_sld hx hb hX hbl hbA hS (i := i + 1) (by first | exact hj0 | exact hj1 | exact hj2 | exact hj3) hL31 dL_law_142 ?_
          refine lv_aload_n hx hb dL_law_143 rfl (lv_at hl 3 rfl) ?_
          refine va_calli (vx_runSW (As := [.ref (ad 0), .int (xs (i + 1)), .ref (ao)]) (rest := []) ⟨hx, hb, hml, hown, hts⟩ (c_L_setColours l hfl D cI cZ cG cJ (fun q : Nat => s.heap.size ≤ q) ad ao (WM bd cI th c hid g code ans dbt many row heap our the wr3) (pal_m hpal) c g hid code ans dbt opn ply hps ov (xs (i + 1)) (hI)) (vx_cwSW 3 hts gL_law_L_setColours rfl rfl rfl (by decide +kernel) ⟨Nat.le_of_ble_eq_true rfl, Nat.le_of_ble_eq_true rfl⟩) (preS hB hS hP hD) rfl rfl hl.1 rfl (lv_room (Nat.le_of_ble_eq_true rfl)) dL_law_144 ⟨Nat.le_trans (by first | exact Nat.le_add_right _ _ | exact Nat.add_le_add_left (by decide) _ | (simp only [Nat.add_assoc]; exact Nat.add_le_add_left (by decide) _)) hk3, Nat.le_trans (by first | exact Nat.le_add_right _ _ | exact Nat.add_le_add_left (by decide) _ | (simp only [Nat.add_assoc]; exact Nat.add_le_add_left (by decide) _)) hs3⟩) hS (fun q _ h => h) (fun q h => h) (fun r_144 u_144 t9 H1 locs1 ht9 hvm9 hw_144 hBw hz9 hk9 hS => ?_)
          obtain ⟨hP, hD⟩ := hBw
          rw [ht9] at hP
          generalize H1 = H at hP hS ⊢
          generalize locs1 = locs at hS ⊢
          replace hP : va_P D vwCl (WX ad cI cZ u_144.1.1 u_144.1.2.1 u_144.1.2.2.1 u_144.1.2.2.2.1 u_144.1.2.2.2.2.1 u_144.1.2.2.2.2.2.1 u_144.1.2.2.2.2.2.2.1 u_144.1.2.2.2.2.2.2.2.1 u_144.1.2.2.2.2.2.2.2.2 (OL ao cJ u_144.2 :: WM bd cI th c hid g code ans dbt many row heap our the wr3)) H := hP
          replace hD : va_D (fun q : Nat => s.heap.size ≤ q) (WX ad cI cZ u_144.1.1 u_144.1.2.1 u_144.1.2.2.1 u_144.1.2.2.2.1 u_144.1.2.2.2.2.1 u_144.1.2.2.2.2.2.1 u_144.1.2.2.2.2.2.2.1 u_144.1.2.2.2.2.2.2.2.1 u_144.1.2.2.2.2.2.2.2.2 (OL ao cJ u_144.2 :: WM bd cI th c hid g code ans dbt many row heap our the wr3)) := hD
          refine lv_istore (lv' := [(5, .int (r_144)), (0, .ref (b)), (1, .ref (ad 0)), (2, .ref (bd 0)), (3, .ref (ao)), (4, .int (nI (i)))]) hx hb dL_law_147 hl (by decide) rfl (fun ls hl => ?_)
          refine lv_aload_n hx hb dL_law_149 rfl (lv_at hl 3 rfl) ?_
          refine lv_aload_n hx hb dL_law_150 rfl (lv_at hl 1 rfl) ?_
          refine lv_iload hx hb dL_law_151 (lv_at hl 5 rfl) ?_
          refine lv_iconst (v := nI (1)) hx hb dL_law_153 (by decide) ?_
          refine lv_iadd hx hb dL_law_154 ?_
          refine x_ti (nI_add _ _) ?_
          refine x_sld hx hb hX hbl hbA hS (i := i + 1) (by first | exact hj0 | exact hj1 | exact hj2 | exact hj3) hL31 dL_law_155 ?_
          have hP9 := xm_P hP
          have hD9 := xm_D hD
          refine va_calli (va_runV (As := [.int (xs (i + 1))]) (rest := []) ⟨hx, hb, hml, hown, hts⟩ (c_X2_setColours l D cI cZ cG cJ (fun q : Nat => s.heap.size ≤ q) bd (WX ad cI cZ u_144.1.1 u_144.1.2.1 u_144.1.2.2.1 u_144.1.2.2.2.1 u_144.1.2.2.2.2.1 u_144.1.2.2.2.2.2.1 u_144.1.2.2.2.2.2.2.1 u_144.1.2.2.2.2.2.2.2.1 u_144.1.2.2.2.2.2.2.2.2 (OL ao cJ u_144.2 :: wr3)) th c hid g code ans dbt many row heap our the (xs (i + 1)) ) (cwV 1 hts gL_law_X2_setColours rfl rfl rfl (by decide +kernel) ⟨Nat.le_of_ble_eq_true rfl, Nat.le_of_ble_eq_true rfl⟩) (preV (ci := 2) (q0 := 0) hB hS hP9 hD9 rfl rfl) rfl rfl hl.1 rfl (lv_room (Nat.le_of_ble_eq_true rfl)) dL_law_156 ⟨Nat.le_trans (by first | exact Nat.le_add_right _ _ | exact Nat.add_le_add_left (by decide) _ | (simp only [Nat.add_assoc]; exact Nat.add_le_add_left (by decide) _)) hk3, Nat.le_trans (by first | exact Nat.le_add_right _ _ | exact Nat.add_le_add_left (by decide) _ | (simp only [Nat.add_assoc]; exact Nat.add_le_add_left (by decide) _)) hs3⟩) hS (fun q _ h => h) (fun q h => h) (fun r_156 u_156 t9 H1 locs1 ht9 hvm9 hw_156 hBw hz9 hk9 hS => ?_)
          obtain ⟨hP, hD⟩ := hBw
          rw [ht9] at hP
          generalize H1 = H at hP hS ⊢
          generalize locs1 = locs at hS ⊢
          replace hP := mx_P hP
          replace hD := mx_D hD
          replace hP : va_P D vwCl (WX ad cI cZ u_144.1.1 u_144.1.2.1 u_144.1.2.2.1 u_144.1.2.2.2.1 u_144.1.2.2.2.2.1 u_144.1.2.2.2.2.2.1 u_144.1.2.2.2.2.2.2.1 u_144.1.2.2.2.2.2.2.2.1 u_144.1.2.2.2.2.2.2.2.2 (OL ao cJ u_144.2 :: WM bd cI u_156.1 u_156.2.1 u_156.2.2.2 u_156.2.2.1 code ans dbt many row heap our the wr3)) H := hP
          replace hD : va_D (fun q : Nat => s.heap.size ≤ q) (WX ad cI cZ u_144.1.1 u_144.1.2.1 u_144.1.2.2.1 u_144.1.2.2.2.1 u_144.1.2.2.2.2.1 u_144.1.2.2.2.2.2.1 u_144.1.2.2.2.2.2.2.1 u_144.1.2.2.2.2.2.2.2.1 u_144.1.2.2.2.2.2.2.2.2 (OL ao cJ u_144.2 :: WM bd cI u_156.1 u_156.2.1 u_156.2.2.2 u_156.2.2.1 code ans dbt many row heap our the wr3)) := hD
          have hkey := key_setColours hI hw_144 hw_156
          obtain ⟨⟨c2, g2, hid2, code2, ans2, dbt2, opn2, ply2, hps2⟩, ov2⟩ := u_144
          obtain ⟨ek, eo, q1, q2, q3, q4, q5, q6, hI2⟩ := hkey
          change c2 = _ at q1
          change g2 = _ at q2
          change hid2 = _ at q3
          change code2 = _ at q4
          change ans2 = _ at q5
          change dbt2 = _ at q6
          replace q1 := Eq.symm q1; replace q2 := Eq.symm q2; replace q3 := Eq.symm q3; replace q4 := Eq.symm q4; replace q5 := Eq.symm q5; replace q6 := Eq.symm q6
          subst q1; subst q2; subst q3; subst q4; subst q5; subst q6
          replace hP : va_P D vwCl (WX ad cI cZ u_156.2.1 u_156.2.2.1 u_156.2.2.2 code ans dbt opn2 ply2 hps2 (OL ao cJ ov2 :: WM bd cI u_156.1 u_156.2.1 u_156.2.2.2 u_156.2.2.1 code ans dbt many row heap our the wr3)) H := hP
          replace hD : va_D (fun q : Nat => s.heap.size ≤ q) (WX ad cI cZ u_156.2.1 u_156.2.2.1 u_156.2.2.2 code ans dbt opn2 ply2 hps2 (OL ao cJ ov2 :: WM bd cI u_156.1 u_156.2.1 u_156.2.2.2 u_156.2.2.1 code ans dbt many row heap our the wr3)) := hD
          replace hI : XI (u_156.2.1) (u_156.2.2.1) (u_156.2.2.2) (code) (ans) (dbt) opn2 := hI2
          replace eo : r_144 = nI 0 → ov2 0 = _ := eo
          refine lv_istore (lv' := [(6, .int (r_156)), (5, .int (r_144)), (0, .ref (b)), (1, .ref (ad 0)), (2, .ref (bd 0)), (3, .ref (ao)), (4, .int (nI (i)))]) hx hb dL_law_159 hl (by decide) rfl (fun ls hl => ?_)
          refine lv_aload_n hx hb dL_law_161 rfl (lv_at hl 4 rfl) ?_
          have hP9 := xm_P hP
          have hD9 := xm_D hD
          refine x_csi (va_runV (As := []) (rest := []) ⟨hx, hb, hml, hown, hts⟩ (c_X2_thrown l D cI cZ cG cJ (fun q : Nat => s.heap.size ≤ q) bd (WX ad cI cZ u_156.2.1 u_156.2.2.1 u_156.2.2.2 code ans dbt opn2 ply2 hps2 (OL ao cJ ov2 :: wr3)) u_156.1 u_156.2.1 u_156.2.2.2 u_156.2.2.1 code ans dbt many row heap our the ) (cwV 0 hts gL_law_X2_thrown rfl rfl rfl (by decide +kernel) ⟨Nat.le_of_ble_eq_true rfl, Nat.le_of_ble_eq_true rfl⟩) (preV (ci := 2) (q0 := 0) hB hS hP9 hD9 rfl rfl) rfl rfl hl.1 rfl (lv_room (Nat.le_of_ble_eq_true rfl)) dL_law_162 ⟨Nat.le_trans (by first | exact Nat.le_add_right _ _ | exact Nat.add_le_add_left (by decide) _ | (simp only [Nat.add_assoc]; exact Nat.add_le_add_left (by decide) _)) hk3, Nat.le_trans (by first | exact Nat.le_add_right _ _ | exact Nat.add_le_add_left (by decide) _ | (simp only [Nat.add_assoc]; exact Nat.add_le_add_left (by decide) _)) hs3⟩) ?_
          refine lv_iload hx hb dL_law_165 (lv_at hl 1 rfl) ?_
          refine lv_icmp_eq (tgt := 172) hx hb dL_law_167 (by decide) (fun c167 => ?_) (fun c167 => absurd c167 (fun q => q ek.symm))
          refine lv_iload hx hb dL_law_172 (lv_at hl 1 rfl) ?_
          refine lv_if_ne (tgt := 189) hx hb dL_law_174 (by decide) (fun c174 => ?_) (fun c174 => ?_)
          · skip
            refine lv_goto (tgt := 1338) hx hb dL_law_189 (by decide) ?_
            refine lv_iinc (v := nI (i + 4)) (lv' := [(4, .int (nI (i + 4))), (6, .int (r_156)), (5, .int (r_144)), (0, .ref (b)), (1, .ref (ad 0)), (2, .ref (bd 0)), (3, .ref (ao))]) hx hb dL_law_1338 hl (k := 6) rfl (nI_add _ _) (by decide) rfl (fun ls hl => ?_)
            refine lv_goto (tgt := 23) hx hb dL_law_1341 (by decide) ?_
            exact ih23 (n := n + 1) (i := i + 4) (c := u_156.2.1) (g := u_156.2.2.1) (hid := u_156.2.2.2) (code := code) (ans := ans) (dbt := dbt) (opn := opn2) (ply := ply2) (hps := hps2) (ov := ov2) (th := u_156.1) (many := many) (row := row) (heap := heap) (our := our) (the := the) (kc := _) (ks := _) (ls := ls) (hl := lv_sub hl [3, 4, 5, 6, 0] rfl) (H := H) (locs := locs) (hP := hP) (hD := hD) (hS := hS) (hinv := by
                exact ⟨hn5, hi2, hi4, hI, room_n h5 hn5 (by first | exact Nat.le_add_right _ _ | exact Nat.add_le_add_left (by decide) _ | (simp only [Nat.add_assoc]; exact Nat.add_le_add_left (by decide) _)), room_n h6 hn5 (by first | exact Nat.le_add_right _ _ | exact Nat.add_le_add_left (by decide) _ | (simp only [Nat.add_assoc]; exact Nat.add_le_add_left (by decide) _))⟩
              ) (hn9 := by
                exact mu_n hn9 hn5
              )
          · skip
            refine lv_aload_n hx hb dL_law_177 rfl (lv_at hl 5 rfl) ?_
            refine lv_iconst (v := nI (0)) hx hb dL_law_178 (by decide) ?_
            refine va_lald hx hb hK hP 7 3 rfl rfl (vp_in_nI (n := 0) (N := 1) (by decide) (by decide)) dL_law_179 ?_
            refine x_tl (y := (r_156).toInt64) (by rw [nI_clamp (by decide)]; exact eo c174) ?_
            refine lv_iload hx hb dL_law_180 (lv_at hl 0 rfl) ?_
            refine lv_i2l hx hb dL_law_182 rfl ?_
            refine W.lcmp hx hb dL_law_183 ?_
            refine x_ti (y := 0) (lg_cmp_self _) ?_
            refine lv_if_eq (tgt := 189) hx hb dL_law_184 (by decide) (fun c184 => ?_) (fun c184 => absurd c184 (fun q => q rfl))
            refine lv_goto (tgt := 1338) hx hb dL_law_189 (by decide) ?_
            refine lv_iinc (v := nI (i + 4)) (lv' := [(4, .int (nI (i + 4))), (6, .int (r_156)), (5, .int (r_144)), (0, .ref (b)), (1, .ref (ad 0)), (2, .ref (bd 0)), (3, .ref (ao))]) hx hb dL_law_1338 hl (k := 6) rfl (nI_add _ _) (by decide) rfl (fun ls hl => ?_)
            refine lv_goto (tgt := 23) hx hb dL_law_1341 (by decide) ?_
            exact ih23 (n := n + 1) (i := i + 4) (c := u_156.2.1) (g := u_156.2.2.1) (hid := u_156.2.2.2) (code := code) (ans := ans) (dbt := dbt) (opn := opn2) (ply := ply2) (hps := hps2) (ov := ov2) (th := u_156.1) (many := many) (row := row) (heap := heap) (our := our) (the := the) (kc := _) (ks := _) (ls := ls) (hl := lv_sub hl [3, 4, 5, 6, 0] rfl) (H := H) (locs := locs) (hP := hP) (hD := hD) (hS := hS) (hinv := by
                exact ⟨hn5, hi2, hi4, hI, room_n h5 hn5 (by first | exact Nat.le_add_right _ _ | exact Nat.add_le_add_left (by decide) _ | (simp only [Nat.add_assoc]; exact Nat.add_le_add_left (by decide) _)), room_n h6 hn5 (by first | exact Nat.le_add_right _ _ | exact Nat.add_le_add_left (by decide) _ | (simp only [Nat.add_assoc]; exact Nat.add_le_add_left (by decide) _))⟩
              ) (hn9 := by
                exact mu_n hn9 hn5
              )
        · refine x_ti (y := nI 1) hwj ?_
          refine lv_tableIn (tgt := 192) (off := 153) hx hb dL_law_39 (by decide) (by decide) rfl (by decide) ?_
          refine lv_aload_n hx hb dL_law_192 rfl (lv_at hl 1 rfl) ?_
          refine lv_aload_n hx hb dL_law_193 rfl (lv_at hl 0 rfl) ?_
          refine lv_iload hx hb dL_law_194 (lv_at hl 4 rfl) ?_
          refine lv_iconst (v := nI (1)) hx hb dL_law_196 (by decide) ?_
          refine lv_iadd hx hb dL_law_197 ?_
          refine x_ti (nI_add _ _) ?_
          refine x_sld hx hb hX hbl hbA hS (i := i + 1) (by first | exact hj0 | exact hj1 | exact hj2 | exact hj3) hL31 dL_law_198 ?_
          refine lv_aload_n hx hb dL_law_199 rfl (lv_at hl 3 rfl) ?_
          refine va_calli (vx_runSW (As := [.ref (ad 0), .int (xs (i + 1)), .ref (ao)]) (rest := []) ⟨hx, hb, hml, hown, hts⟩ (c_L_hide l hfl D cI cZ cG cJ (fun q : Nat => s.heap.size ≤ q) ad ao (WM bd cI th c hid g code ans dbt many row heap our the wr3) (pal_m hpal) c g hid code ans dbt opn ply hps ov (xs (i + 1)) (hI)) (vx_cwSW 3 hts gL_law_L_hide rfl rfl rfl (by decide +kernel) ⟨Nat.le_of_ble_eq_true rfl, Nat.le_of_ble_eq_true rfl⟩) (preS hB hS hP hD) rfl rfl hl.1 rfl (lv_room (Nat.le_of_ble_eq_true rfl)) dL_law_200 ⟨Nat.le_trans (by first | exact Nat.le_add_right _ _ | exact Nat.add_le_add_left (by decide) _ | (simp only [Nat.add_assoc]; exact Nat.add_le_add_left (by decide) _)) hk3, Nat.le_trans (by first | exact Nat.le_add_right _ _ | exact Nat.add_le_add_left (by decide) _ | (simp only [Nat.add_assoc]; exact Nat.add_le_add_left (by decide) _)) hs3⟩) hS (fun q _ h => h) (fun q h => h) (fun r_200 u_200 t9 H1 locs1 ht9 hvm9 hw_200 hBw hz9 hk9 hS => ?_)
          obtain ⟨hP, hD⟩ := hBw
          rw [ht9] at hP
          generalize H1 = H at hP hS ⊢
          generalize locs1 = locs at hS ⊢
          replace hP : va_P D vwCl (WX ad cI cZ u_200.1.1 u_200.1.2.1 u_200.1.2.2.1 u_200.1.2.2.2.1 u_200.1.2.2.2.2.1 u_200.1.2.2.2.2.2.1 u_200.1.2.2.2.2.2.2.1 u_200.1.2.2.2.2.2.2.2.1 u_200.1.2.2.2.2.2.2.2.2 (OL ao cJ u_200.2 :: WM bd cI th c hid g code ans dbt many row heap our the wr3)) H := hP
          replace hD : va_D (fun q : Nat => s.heap.size ≤ q) (WX ad cI cZ u_200.1.1 u_200.1.2.1 u_200.1.2.2.1 u_200.1.2.2.2.1 u_200.1.2.2.2.2.1 u_200.1.2.2.2.2.2.1 u_200.1.2.2.2.2.2.2.1 u_200.1.2.2.2.2.2.2.2.1 u_200.1.2.2.2.2.2.2.2.2 (OL ao cJ u_200.2 :: WM bd cI th c hid g code ans dbt many row heap our the wr3)) := hD
          refine lv_istore (lv' := [(5, .int (r_200)), (0, .ref (b)), (1, .ref (ad 0)), (2, .ref (bd 0)), (3, .ref (ao)), (4, .int (nI (i)))]) hx hb dL_law_203 hl (by decide) rfl (fun ls hl => ?_)
          refine lv_aload_n hx hb dL_law_205 rfl (lv_at hl 3 rfl) ?_
          refine lv_aload_n hx hb dL_law_206 rfl (lv_at hl 1 rfl) ?_
          refine lv_iload hx hb dL_law_207 (lv_at hl 5 rfl) ?_
          refine lv_iconst (v := nI (1)) hx hb dL_law_209 (by decide) ?_
          refine lv_iadd hx hb dL_law_210 ?_
          refine x_ti (nI_add _ _) ?_
          refine x_sld hx hb hX hbl hbA hS (i := i + 1) (by first | exact hj0 | exact hj1 | exact hj2 | exact hj3) hL31 dL_law_211 ?_
          have hP9 := xm_P hP
          have hD9 := xm_D hD
          refine va_calli (va_runV (As := [.int (xs (i + 1))]) (rest := []) ⟨hx, hb, hml, hown, hts⟩ (c_X2_hide l D cI cZ cG cJ (fun q : Nat => s.heap.size ≤ q) bd (WX ad cI cZ u_200.1.1 u_200.1.2.1 u_200.1.2.2.1 u_200.1.2.2.2.1 u_200.1.2.2.2.2.1 u_200.1.2.2.2.2.2.1 u_200.1.2.2.2.2.2.2.1 u_200.1.2.2.2.2.2.2.2.1 u_200.1.2.2.2.2.2.2.2.2 (OL ao cJ u_200.2 :: wr3)) th c hid g code ans dbt many row heap our the (xs (i + 1)) (hc)) (cwV 1 hts gL_law_X2_hide rfl rfl rfl (by decide +kernel) ⟨Nat.le_of_ble_eq_true rfl, Nat.le_of_ble_eq_true rfl⟩) (preV (ci := 2) (q0 := 0) hB hS hP9 hD9 rfl rfl) rfl rfl hl.1 rfl (lv_room (Nat.le_of_ble_eq_true rfl)) dL_law_212 ⟨Nat.le_trans (by first | exact Nat.le_add_right _ _ | exact Nat.add_le_add_left (by decide) _ | (simp only [Nat.add_assoc]; exact Nat.add_le_add_left (by decide) _)) hk3, Nat.le_trans (by first | exact Nat.le_add_right _ _ | exact Nat.add_le_add_left (by decide) _ | (simp only [Nat.add_assoc]; exact Nat.add_le_add_left (by decide) _)) hs3⟩) hS (fun q _ h => h) (fun q h => h) (fun r_212 u_212 t9 H1 locs1 ht9 hvm9 hw_212 hBw hz9 hk9 hS => ?_)
          obtain ⟨hP, hD⟩ := hBw
          rw [ht9] at hP
          generalize H1 = H at hP hS ⊢
          generalize locs1 = locs at hS ⊢
          replace hP := mx_P hP
          replace hD := mx_D hD
          replace hP : va_P D vwCl (WX ad cI cZ u_200.1.1 u_200.1.2.1 u_200.1.2.2.1 u_200.1.2.2.2.1 u_200.1.2.2.2.2.1 u_200.1.2.2.2.2.2.1 u_200.1.2.2.2.2.2.2.1 u_200.1.2.2.2.2.2.2.2.1 u_200.1.2.2.2.2.2.2.2.2 (OL ao cJ u_200.2 :: WM bd cI u_212.1 c u_212.2 g code ans dbt many row heap our the wr3)) H := hP
          replace hD : va_D (fun q : Nat => s.heap.size ≤ q) (WX ad cI cZ u_200.1.1 u_200.1.2.1 u_200.1.2.2.1 u_200.1.2.2.2.1 u_200.1.2.2.2.2.1 u_200.1.2.2.2.2.2.1 u_200.1.2.2.2.2.2.2.1 u_200.1.2.2.2.2.2.2.2.1 u_200.1.2.2.2.2.2.2.2.2 (OL ao cJ u_200.2 :: WM bd cI u_212.1 c u_212.2 g code ans dbt many row heap our the wr3)) := hD
          have hkey := key_hide hI hw_200 hw_212
          obtain ⟨⟨c2, g2, hid2, code2, ans2, dbt2, opn2, ply2, hps2⟩, ov2⟩ := u_200
          obtain ⟨ek, eo, q1, q2, q3, q4, q5, q6, hI2⟩ := hkey
          change c2 = _ at q1
          change g2 = _ at q2
          change hid2 = _ at q3
          change code2 = _ at q4
          change ans2 = _ at q5
          change dbt2 = _ at q6
          replace q1 := Eq.symm q1; replace q2 := Eq.symm q2; replace q3 := Eq.symm q3; replace q4 := Eq.symm q4; replace q5 := Eq.symm q5; replace q6 := Eq.symm q6
          subst q1; subst q2; subst q3; subst q4; subst q5; subst q6
          replace hP : va_P D vwCl (WX ad cI cZ c g u_212.2 code ans dbt opn2 ply2 hps2 (OL ao cJ ov2 :: WM bd cI u_212.1 c u_212.2 g code ans dbt many row heap our the wr3)) H := hP
          replace hD : va_D (fun q : Nat => s.heap.size ≤ q) (WX ad cI cZ c g u_212.2 code ans dbt opn2 ply2 hps2 (OL ao cJ ov2 :: WM bd cI u_212.1 c u_212.2 g code ans dbt many row heap our the wr3)) := hD
          replace hI : XI (c) (g) (u_212.2) (code) (ans) (dbt) opn2 := hI2
          replace eo : r_200 = nI 0 → ov2 0 = _ := eo
          refine lv_istore (lv' := [(6, .int (r_212)), (5, .int (r_200)), (0, .ref (b)), (1, .ref (ad 0)), (2, .ref (bd 0)), (3, .ref (ao)), (4, .int (nI (i)))]) hx hb dL_law_215 hl (by decide) rfl (fun ls hl => ?_)
          refine lv_aload_n hx hb dL_law_217 rfl (lv_at hl 4 rfl) ?_
          have hP9 := xm_P hP
          have hD9 := xm_D hD
          refine x_csi (va_runV (As := []) (rest := []) ⟨hx, hb, hml, hown, hts⟩ (c_X2_thrown l D cI cZ cG cJ (fun q : Nat => s.heap.size ≤ q) bd (WX ad cI cZ c g u_212.2 code ans dbt opn2 ply2 hps2 (OL ao cJ ov2 :: wr3)) u_212.1 c u_212.2 g code ans dbt many row heap our the ) (cwV 0 hts gL_law_X2_thrown rfl rfl rfl (by decide +kernel) ⟨Nat.le_of_ble_eq_true rfl, Nat.le_of_ble_eq_true rfl⟩) (preV (ci := 2) (q0 := 0) hB hS hP9 hD9 rfl rfl) rfl rfl hl.1 rfl (lv_room (Nat.le_of_ble_eq_true rfl)) dL_law_218 ⟨Nat.le_trans (by first | exact Nat.le_add_right _ _ | exact Nat.add_le_add_left (by decide) _ | (simp only [Nat.add_assoc]; exact Nat.add_le_add_left (by decide) _)) hk3, Nat.le_trans (by first | exact Nat.le_add_right _ _ | exact Nat.add_le_add_left (by decide) _ | (simp only [Nat.add_assoc]; exact Nat.add_le_add_left (by decide) _)) hs3⟩) ?_
          refine lv_iload hx hb dL_law_221 (lv_at hl 1 rfl) ?_
          refine lv_icmp_eq (tgt := 228) hx hb dL_law_223 (by decide) (fun c223 => ?_) (fun c223 => absurd c223 (fun q => q ek.symm))
          refine lv_iload hx hb dL_law_228 (lv_at hl 1 rfl) ?_
          refine lv_if_ne (tgt := 245) hx hb dL_law_230 (by decide) (fun c230 => ?_) (fun c230 => ?_)
          · skip
            refine lv_goto (tgt := 1338) hx hb dL_law_245 (by decide) ?_
            refine lv_iinc (v := nI (i + 4)) (lv' := [(4, .int (nI (i + 4))), (6, .int (r_212)), (5, .int (r_200)), (0, .ref (b)), (1, .ref (ad 0)), (2, .ref (bd 0)), (3, .ref (ao))]) hx hb dL_law_1338 hl (k := 6) rfl (nI_add _ _) (by decide) rfl (fun ls hl => ?_)
            refine lv_goto (tgt := 23) hx hb dL_law_1341 (by decide) ?_
            exact ih23 (n := n + 1) (i := i + 4) (c := c) (g := g) (hid := u_212.2) (code := code) (ans := ans) (dbt := dbt) (opn := opn2) (ply := ply2) (hps := hps2) (ov := ov2) (th := u_212.1) (many := many) (row := row) (heap := heap) (our := our) (the := the) (kc := _) (ks := _) (ls := ls) (hl := lv_sub hl [3, 4, 5, 6, 0] rfl) (H := H) (locs := locs) (hP := hP) (hD := hD) (hS := hS) (hinv := by
                exact ⟨hn5, hi2, hi4, hI, room_n h5 hn5 (by first | exact Nat.le_add_right _ _ | exact Nat.add_le_add_left (by decide) _ | (simp only [Nat.add_assoc]; exact Nat.add_le_add_left (by decide) _)), room_n h6 hn5 (by first | exact Nat.le_add_right _ _ | exact Nat.add_le_add_left (by decide) _ | (simp only [Nat.add_assoc]; exact Nat.add_le_add_left (by decide) _))⟩
              ) (hn9 := by
                exact mu_n hn9 hn5
              )
          · skip
            refine lv_aload_n hx hb dL_law_233 rfl (lv_at hl 5 rfl) ?_
            refine lv_iconst (v := nI (0)) hx hb dL_law_234 (by decide) ?_
            refine va_lald hx hb hK hP 7 3 rfl rfl (vp_in_nI (n := 0) (N := 1) (by decide) (by decide)) dL_law_235 ?_
            refine x_tl (y := (r_212).toInt64) (by rw [nI_clamp (by decide)]; exact eo c230) ?_
            refine lv_iload hx hb dL_law_236 (lv_at hl 0 rfl) ?_
            refine lv_i2l hx hb dL_law_238 rfl ?_
            refine W.lcmp hx hb dL_law_239 ?_
            refine x_ti (y := 0) (lg_cmp_self _) ?_
            refine lv_if_eq (tgt := 245) hx hb dL_law_240 (by decide) (fun c240 => ?_) (fun c240 => absurd c240 (fun q => q rfl))
            refine lv_goto (tgt := 1338) hx hb dL_law_245 (by decide) ?_
            refine lv_iinc (v := nI (i + 4)) (lv' := [(4, .int (nI (i + 4))), (6, .int (r_212)), (5, .int (r_200)), (0, .ref (b)), (1, .ref (ad 0)), (2, .ref (bd 0)), (3, .ref (ao))]) hx hb dL_law_1338 hl (k := 6) rfl (nI_add _ _) (by decide) rfl (fun ls hl => ?_)
            refine lv_goto (tgt := 23) hx hb dL_law_1341 (by decide) ?_
            exact ih23 (n := n + 1) (i := i + 4) (c := c) (g := g) (hid := u_212.2) (code := code) (ans := ans) (dbt := dbt) (opn := opn2) (ply := ply2) (hps := hps2) (ov := ov2) (th := u_212.1) (many := many) (row := row) (heap := heap) (our := our) (the := the) (kc := _) (ks := _) (ls := ls) (hl := lv_sub hl [3, 4, 5, 6, 0] rfl) (H := H) (locs := locs) (hP := hP) (hD := hD) (hS := hS) (hinv := by
                exact ⟨hn5, hi2, hi4, hI, room_n h5 hn5 (by first | exact Nat.le_add_right _ _ | exact Nat.add_le_add_left (by decide) _ | (simp only [Nat.add_assoc]; exact Nat.add_le_add_left (by decide) _)), room_n h6 hn5 (by first | exact Nat.le_add_right _ _ | exact Nat.add_le_add_left (by decide) _ | (simp only [Nat.add_assoc]; exact Nat.add_le_add_left (by decide) _))⟩
              ) (hn9 := by
                exact mu_n hn9 hn5
              )
        · refine x_ti (y := nI 2) hwj ?_
          refine lv_tableIn (tgt := 248) (off := 209) hx hb dL_law_39 (by decide) (by decide) rfl (by decide) ?_
          refine lv_aload_n hx hb dL_law_248 rfl (lv_at hl 1 rfl) ?_
          refine lv_aload_n hx hb dL_law_249 rfl (lv_at hl 0 rfl) ?_
          refine lv_iload hx hb dL_law_250 (lv_at hl 4 rfl) ?_
          refine lv_iconst (v := nI (1)) hx hb dL_law_252 (by decide) ?_
          refine lv_iadd hx hb dL_law_253 ?_
          refine x_ti (nI_add _ _) ?_
          refine x_sld hx hb hX hbl hbA hS (i := i + 1) (by first | exact hj0 | exact hj1 | exact hj2 | exact hj3) hL31 dL_law_254 ?_
          refine lv_aload_n hx hb dL_law_255 rfl (lv_at hl 0 rfl) ?_
          refine lv_iload hx hb dL_law_256 (lv_at hl 4 rfl) ?_
          refine lv_iconst (v := nI (2)) hx hb dL_law_258 (by decide) ?_
          refine lv_iadd hx hb dL_law_259 ?_
          refine x_ti (nI_add _ _) ?_
          refine x_sld hx hb hX hbl hbA hS (i := i + 2) (by first | exact hj0 | exact hj1 | exact hj2 | exact hj3) hL31 dL_law_260 ?_
          refine lv_aload_n hx hb dL_law_261 rfl (lv_at hl 3 rfl) ?_
          refine va_calli (vx_runSW (As := [.ref (ad 0), .int (xs (i + 1)), .int (xs (i + 2)), .ref (ao)]) (rest := []) ⟨hx, hb, hml, hown, hts⟩ (c_L_swap l hfl D cI cZ cG cJ (fun q : Nat => s.heap.size ≤ q) ad ao (WM bd cI th c hid g code ans dbt many row heap our the wr3) (pal_m hpal) c g hid code ans dbt opn ply hps ov (xs (i + 1)) (xs (i + 2)) (hI)) (vx_cwSW 4 hts gL_law_L_swap rfl rfl rfl (by decide +kernel) ⟨Nat.le_of_ble_eq_true rfl, Nat.le_of_ble_eq_true rfl⟩) (preS hB hS hP hD) rfl rfl hl.1 rfl (lv_room (Nat.le_of_ble_eq_true rfl)) dL_law_262 ⟨Nat.le_trans (by first | exact Nat.le_add_right _ _ | exact Nat.add_le_add_left (by decide) _ | (simp only [Nat.add_assoc]; exact Nat.add_le_add_left (by decide) _)) hk3, Nat.le_trans (by first | exact Nat.le_add_right _ _ | exact Nat.add_le_add_left (by decide) _ | (simp only [Nat.add_assoc]; exact Nat.add_le_add_left (by decide) _)) hs3⟩) hS (fun q _ h => h) (fun q h => h) (fun r_262 u_262 t9 H1 locs1 ht9 hvm9 hw_262 hBw hz9 hk9 hS => ?_)
          obtain ⟨hP, hD⟩ := hBw
          rw [ht9] at hP
          generalize H1 = H at hP hS ⊢
          generalize locs1 = locs at hS ⊢
          replace hP : va_P D vwCl (WX ad cI cZ u_262.1.1 u_262.1.2.1 u_262.1.2.2.1 u_262.1.2.2.2.1 u_262.1.2.2.2.2.1 u_262.1.2.2.2.2.2.1 u_262.1.2.2.2.2.2.2.1 u_262.1.2.2.2.2.2.2.2.1 u_262.1.2.2.2.2.2.2.2.2 (OL ao cJ u_262.2 :: WM bd cI th c hid g code ans dbt many row heap our the wr3)) H := hP
          replace hD : va_D (fun q : Nat => s.heap.size ≤ q) (WX ad cI cZ u_262.1.1 u_262.1.2.1 u_262.1.2.2.1 u_262.1.2.2.2.1 u_262.1.2.2.2.2.1 u_262.1.2.2.2.2.2.1 u_262.1.2.2.2.2.2.2.1 u_262.1.2.2.2.2.2.2.2.1 u_262.1.2.2.2.2.2.2.2.2 (OL ao cJ u_262.2 :: WM bd cI th c hid g code ans dbt many row heap our the wr3)) := hD
          refine lv_istore (lv' := [(5, .int (r_262)), (0, .ref (b)), (1, .ref (ad 0)), (2, .ref (bd 0)), (3, .ref (ao)), (4, .int (nI (i)))]) hx hb dL_law_265 hl (by decide) rfl (fun ls hl => ?_)
          refine lv_aload_n hx hb dL_law_267 rfl (lv_at hl 3 rfl) ?_
          refine lv_aload_n hx hb dL_law_268 rfl (lv_at hl 1 rfl) ?_
          refine lv_iload hx hb dL_law_269 (lv_at hl 5 rfl) ?_
          refine lv_iconst (v := nI (1)) hx hb dL_law_271 (by decide) ?_
          refine lv_iadd hx hb dL_law_272 ?_
          refine x_ti (nI_add _ _) ?_
          refine x_sld hx hb hX hbl hbA hS (i := i + 1) (by first | exact hj0 | exact hj1 | exact hj2 | exact hj3) hL31 dL_law_273 ?_
          refine lv_aload_n hx hb dL_law_274 rfl (lv_at hl 1 rfl) ?_
          refine lv_iload hx hb dL_law_275 (lv_at hl 5 rfl) ?_
          refine lv_iconst (v := nI (2)) hx hb dL_law_277 (by decide) ?_
          refine lv_iadd hx hb dL_law_278 ?_
          refine x_ti (nI_add _ _) ?_
          refine x_sld hx hb hX hbl hbA hS (i := i + 2) (by first | exact hj0 | exact hj1 | exact hj2 | exact hj3) hL31 dL_law_279 ?_
          have hP9 := xm_P hP
          have hD9 := xm_D hD
          refine va_calli (va_runV (As := [.int (xs (i + 1)), .int (xs (i + 2))]) (rest := []) ⟨hx, hb, hml, hown, hts⟩ (c_X2_swap l D cI cZ cG cJ (fun q : Nat => s.heap.size ≤ q) bd (WX ad cI cZ u_262.1.1 u_262.1.2.1 u_262.1.2.2.1 u_262.1.2.2.2.1 u_262.1.2.2.2.2.1 u_262.1.2.2.2.2.2.1 u_262.1.2.2.2.2.2.2.1 u_262.1.2.2.2.2.2.2.2.1 u_262.1.2.2.2.2.2.2.2.2 (OL ao cJ u_262.2 :: wr3)) th c hid g code ans dbt many row heap our the (xs (i + 1)) (xs (i + 2)) (hc) (hhid)) (cwV 2 hts gL_law_X2_swap rfl rfl rfl (by decide +kernel) ⟨Nat.le_of_ble_eq_true rfl, Nat.le_of_ble_eq_true rfl⟩) (preV (ci := 2) (q0 := 0) hB hS hP9 hD9 rfl rfl) rfl rfl hl.1 rfl (lv_room (Nat.le_of_ble_eq_true rfl)) dL_law_280 ⟨Nat.le_trans (by first | exact Nat.le_add_right _ _ | exact Nat.add_le_add_left (by decide) _ | (simp only [Nat.add_assoc]; exact Nat.add_le_add_left (by decide) _)) hk3, Nat.le_trans (by first | exact Nat.le_add_right _ _ | exact Nat.add_le_add_left (by decide) _ | (simp only [Nat.add_assoc]; exact Nat.add_le_add_left (by decide) _)) hs3⟩) hS (fun q _ h => h) (fun q h => h) (fun r_280 u_280 t9 H1 locs1 ht9 hvm9 hw_280 hBw hz9 hk9 hS => ?_)
          obtain ⟨hP, hD⟩ := hBw
          rw [ht9] at hP
          generalize H1 = H at hP hS ⊢
          generalize locs1 = locs at hS ⊢
          replace hP := mx_P hP
          replace hD := mx_D hD
          replace hP : va_P D vwCl (WX ad cI cZ u_262.1.1 u_262.1.2.1 u_262.1.2.2.1 u_262.1.2.2.2.1 u_262.1.2.2.2.2.1 u_262.1.2.2.2.2.2.1 u_262.1.2.2.2.2.2.2.1 u_262.1.2.2.2.2.2.2.2.1 u_262.1.2.2.2.2.2.2.2.2 (OL ao cJ u_262.2 :: WM bd cI u_280.1 c u_280.2 g code ans dbt many row heap our the wr3)) H := hP
          replace hD : va_D (fun q : Nat => s.heap.size ≤ q) (WX ad cI cZ u_262.1.1 u_262.1.2.1 u_262.1.2.2.1 u_262.1.2.2.2.1 u_262.1.2.2.2.2.1 u_262.1.2.2.2.2.2.1 u_262.1.2.2.2.2.2.2.1 u_262.1.2.2.2.2.2.2.2.1 u_262.1.2.2.2.2.2.2.2.2 (OL ao cJ u_262.2 :: WM bd cI u_280.1 c u_280.2 g code ans dbt many row heap our the wr3)) := hD
          have hkey := key_swap hI hw_262 hw_280
          obtain ⟨⟨c2, g2, hid2, code2, ans2, dbt2, opn2, ply2, hps2⟩, ov2⟩ := u_262
          obtain ⟨ek, eo, q1, q2, q3, q4, q5, q6, hI2⟩ := hkey
          change c2 = _ at q1
          change g2 = _ at q2
          change hid2 = _ at q3
          change code2 = _ at q4
          change ans2 = _ at q5
          change dbt2 = _ at q6
          replace q1 := Eq.symm q1; replace q2 := Eq.symm q2; replace q3 := Eq.symm q3; replace q4 := Eq.symm q4; replace q5 := Eq.symm q5; replace q6 := Eq.symm q6
          subst q1; subst q2; subst q3; subst q4; subst q5; subst q6
          replace hP : va_P D vwCl (WX ad cI cZ c g u_280.2 code ans dbt opn2 ply2 hps2 (OL ao cJ ov2 :: WM bd cI u_280.1 c u_280.2 g code ans dbt many row heap our the wr3)) H := hP
          replace hD : va_D (fun q : Nat => s.heap.size ≤ q) (WX ad cI cZ c g u_280.2 code ans dbt opn2 ply2 hps2 (OL ao cJ ov2 :: WM bd cI u_280.1 c u_280.2 g code ans dbt many row heap our the wr3)) := hD
          replace hI : XI (c) (g) (u_280.2) (code) (ans) (dbt) opn2 := hI2
          replace eo : r_262 = nI 0 → ov2 0 = _ := eo
          refine lv_istore (lv' := [(6, .int (r_280)), (5, .int (r_262)), (0, .ref (b)), (1, .ref (ad 0)), (2, .ref (bd 0)), (3, .ref (ao)), (4, .int (nI (i)))]) hx hb dL_law_283 hl (by decide) rfl (fun ls hl => ?_)
          refine lv_aload_n hx hb dL_law_285 rfl (lv_at hl 4 rfl) ?_
          have hP9 := xm_P hP
          have hD9 := xm_D hD
          refine x_csi (va_runV (As := []) (rest := []) ⟨hx, hb, hml, hown, hts⟩ (c_X2_thrown l D cI cZ cG cJ (fun q : Nat => s.heap.size ≤ q) bd (WX ad cI cZ c g u_280.2 code ans dbt opn2 ply2 hps2 (OL ao cJ ov2 :: wr3)) u_280.1 c u_280.2 g code ans dbt many row heap our the ) (cwV 0 hts gL_law_X2_thrown rfl rfl rfl (by decide +kernel) ⟨Nat.le_of_ble_eq_true rfl, Nat.le_of_ble_eq_true rfl⟩) (preV (ci := 2) (q0 := 0) hB hS hP9 hD9 rfl rfl) rfl rfl hl.1 rfl (lv_room (Nat.le_of_ble_eq_true rfl)) dL_law_286 ⟨Nat.le_trans (by first | exact Nat.le_add_right _ _ | exact Nat.add_le_add_left (by decide) _ | (simp only [Nat.add_assoc]; exact Nat.add_le_add_left (by decide) _)) hk3, Nat.le_trans (by first | exact Nat.le_add_right _ _ | exact Nat.add_le_add_left (by decide) _ | (simp only [Nat.add_assoc]; exact Nat.add_le_add_left (by decide) _)) hs3⟩) ?_
          refine lv_iload hx hb dL_law_289 (lv_at hl 1 rfl) ?_
          refine lv_icmp_eq (tgt := 296) hx hb dL_law_291 (by decide) (fun c291 => ?_) (fun c291 => absurd c291 (fun q => q ek.symm))
          refine lv_iload hx hb dL_law_296 (lv_at hl 1 rfl) ?_
          refine lv_if_ne (tgt := 313) hx hb dL_law_298 (by decide) (fun c298 => ?_) (fun c298 => ?_)
          · skip
            refine lv_goto (tgt := 1338) hx hb dL_law_313 (by decide) ?_
            refine lv_iinc (v := nI (i + 4)) (lv' := [(4, .int (nI (i + 4))), (6, .int (r_280)), (5, .int (r_262)), (0, .ref (b)), (1, .ref (ad 0)), (2, .ref (bd 0)), (3, .ref (ao))]) hx hb dL_law_1338 hl (k := 6) rfl (nI_add _ _) (by decide) rfl (fun ls hl => ?_)
            refine lv_goto (tgt := 23) hx hb dL_law_1341 (by decide) ?_
            exact ih23 (n := n + 1) (i := i + 4) (c := c) (g := g) (hid := u_280.2) (code := code) (ans := ans) (dbt := dbt) (opn := opn2) (ply := ply2) (hps := hps2) (ov := ov2) (th := u_280.1) (many := many) (row := row) (heap := heap) (our := our) (the := the) (kc := _) (ks := _) (ls := ls) (hl := lv_sub hl [3, 4, 5, 6, 0] rfl) (H := H) (locs := locs) (hP := hP) (hD := hD) (hS := hS) (hinv := by
                exact ⟨hn5, hi2, hi4, hI, room_n h5 hn5 (by first | exact Nat.le_add_right _ _ | exact Nat.add_le_add_left (by decide) _ | (simp only [Nat.add_assoc]; exact Nat.add_le_add_left (by decide) _)), room_n h6 hn5 (by first | exact Nat.le_add_right _ _ | exact Nat.add_le_add_left (by decide) _ | (simp only [Nat.add_assoc]; exact Nat.add_le_add_left (by decide) _))⟩
              ) (hn9 := by
                exact mu_n hn9 hn5
              )
          · skip
            refine lv_aload_n hx hb dL_law_301 rfl (lv_at hl 5 rfl) ?_
            refine lv_iconst (v := nI (0)) hx hb dL_law_302 (by decide) ?_
            refine va_lald hx hb hK hP 7 3 rfl rfl (vp_in_nI (n := 0) (N := 1) (by decide) (by decide)) dL_law_303 ?_
            refine x_tl (y := (r_280).toInt64) (by rw [nI_clamp (by decide)]; exact eo c298) ?_
            refine lv_iload hx hb dL_law_304 (lv_at hl 0 rfl) ?_
            refine lv_i2l hx hb dL_law_306 rfl ?_
            refine W.lcmp hx hb dL_law_307 ?_
            refine x_ti (y := 0) (lg_cmp_self _) ?_
            refine lv_if_eq (tgt := 313) hx hb dL_law_308 (by decide) (fun c308 => ?_) (fun c308 => absurd c308 (fun q => q rfl))
            refine lv_goto (tgt := 1338) hx hb dL_law_313 (by decide) ?_
            refine lv_iinc (v := nI (i + 4)) (lv' := [(4, .int (nI (i + 4))), (6, .int (r_280)), (5, .int (r_262)), (0, .ref (b)), (1, .ref (ad 0)), (2, .ref (bd 0)), (3, .ref (ao))]) hx hb dL_law_1338 hl (k := 6) rfl (nI_add _ _) (by decide) rfl (fun ls hl => ?_)
            refine lv_goto (tgt := 23) hx hb dL_law_1341 (by decide) ?_
            exact ih23 (n := n + 1) (i := i + 4) (c := c) (g := g) (hid := u_280.2) (code := code) (ans := ans) (dbt := dbt) (opn := opn2) (ply := ply2) (hps := hps2) (ov := ov2) (th := u_280.1) (many := many) (row := row) (heap := heap) (our := our) (the := the) (kc := _) (ks := _) (ls := ls) (hl := lv_sub hl [3, 4, 5, 6, 0] rfl) (H := H) (locs := locs) (hP := hP) (hD := hD) (hS := hS) (hinv := by
                exact ⟨hn5, hi2, hi4, hI, room_n h5 hn5 (by first | exact Nat.le_add_right _ _ | exact Nat.add_le_add_left (by decide) _ | (simp only [Nat.add_assoc]; exact Nat.add_le_add_left (by decide) _)), room_n h6 hn5 (by first | exact Nat.le_add_right _ _ | exact Nat.add_le_add_left (by decide) _ | (simp only [Nat.add_assoc]; exact Nat.add_le_add_left (by decide) _))⟩
              ) (hn9 := by
                exact mu_n hn9 hn5
              )
        · refine x_ti (y := nI 3) hwj ?_
          refine lv_tableIn (tgt := 316) (off := 277) hx hb dL_law_39 (by decide) (by decide) rfl (by decide) ?_
          refine lv_aload_n hx hb dL_law_316 rfl (lv_at hl 1 rfl) ?_
          refine lv_aload_n hx hb dL_law_317 rfl (lv_at hl 0 rfl) ?_
          refine lv_iload hx hb dL_law_318 (lv_at hl 4 rfl) ?_
          refine lv_iconst (v := nI (1)) hx hb dL_law_320 (by decide) ?_
          refine lv_iadd hx hb dL_law_321 ?_
          refine x_ti (nI_add _ _) ?_
          refine x_sld hx hb hX hbl hbA hS (i := i + 1) (by first | exact hj0 | exact hj1 | exact hj2 | exact hj3) hL31 dL_law_322 ?_
          refine lv_aload_n hx hb dL_law_323 rfl (lv_at hl 3 rfl) ?_
          refine va_calli (vx_runSW (As := [.ref (ad 0), .int (xs (i + 1)), .ref (ao)]) (rest := []) ⟨hx, hb, hml, hown, hts⟩ (c_L_guess l hfl D cI cZ cG cJ (fun q : Nat => s.heap.size ≤ q) ad ao (WM bd cI th c hid g code ans dbt many row heap our the wr3) (pal_m hpal) c g hid code ans dbt opn ply hps ov (xs (i + 1)) (hI)) (vx_cwSW 3 hts gL_law_L_guess rfl rfl rfl (by decide +kernel) ⟨Nat.le_of_ble_eq_true rfl, Nat.le_of_ble_eq_true rfl⟩) (preS hB hS hP hD) rfl rfl hl.1 rfl (lv_room (Nat.le_of_ble_eq_true rfl)) dL_law_324 ⟨Nat.le_trans (by first | exact Nat.le_add_right _ _ | exact Nat.add_le_add_left (by decide) _ | (simp only [Nat.add_assoc]; exact Nat.add_le_add_left (by decide) _)) hk3, Nat.le_trans (by first | exact Nat.le_add_right _ _ | exact Nat.add_le_add_left (by decide) _ | (simp only [Nat.add_assoc]; exact Nat.add_le_add_left (by decide) _)) hs3⟩) hS (fun q _ h => h) (fun q h => h) (fun r_324 u_324 t9 H1 locs1 ht9 hvm9 hw_324 hBw hz9 hk9 hS => ?_)
          obtain ⟨hP, hD⟩ := hBw
          rw [ht9] at hP
          generalize H1 = H at hP hS ⊢
          generalize locs1 = locs at hS ⊢
          replace hP : va_P D vwCl (WX ad cI cZ u_324.1.1 u_324.1.2.1 u_324.1.2.2.1 u_324.1.2.2.2.1 u_324.1.2.2.2.2.1 u_324.1.2.2.2.2.2.1 u_324.1.2.2.2.2.2.2.1 u_324.1.2.2.2.2.2.2.2.1 u_324.1.2.2.2.2.2.2.2.2 (OL ao cJ u_324.2 :: WM bd cI th c hid g code ans dbt many row heap our the wr3)) H := hP
          replace hD : va_D (fun q : Nat => s.heap.size ≤ q) (WX ad cI cZ u_324.1.1 u_324.1.2.1 u_324.1.2.2.1 u_324.1.2.2.2.1 u_324.1.2.2.2.2.1 u_324.1.2.2.2.2.2.1 u_324.1.2.2.2.2.2.2.1 u_324.1.2.2.2.2.2.2.2.1 u_324.1.2.2.2.2.2.2.2.2 (OL ao cJ u_324.2 :: WM bd cI th c hid g code ans dbt many row heap our the wr3)) := hD
          refine lv_istore (lv' := [(5, .int (r_324)), (0, .ref (b)), (1, .ref (ad 0)), (2, .ref (bd 0)), (3, .ref (ao)), (4, .int (nI (i)))]) hx hb dL_law_327 hl (by decide) rfl (fun ls hl => ?_)
          refine lv_aload_n hx hb dL_law_329 rfl (lv_at hl 3 rfl) ?_
          refine lv_aload_n hx hb dL_law_330 rfl (lv_at hl 1 rfl) ?_
          refine lv_iload hx hb dL_law_331 (lv_at hl 5 rfl) ?_
          refine lv_iconst (v := nI (1)) hx hb dL_law_333 (by decide) ?_
          refine lv_iadd hx hb dL_law_334 ?_
          refine x_ti (nI_add _ _) ?_
          refine x_sld hx hb hX hbl hbA hS (i := i + 1) (by first | exact hj0 | exact hj1 | exact hj2 | exact hj3) hL31 dL_law_335 ?_
          have hP9 := xm_P hP
          have hD9 := xm_D hD
          refine va_calli (va_runV (As := [.int (xs (i + 1))]) (rest := []) ⟨hx, hb, hml, hown, hts⟩ (c_X2_guess l D cI cZ cG cJ (fun q : Nat => s.heap.size ≤ q) bd (WX ad cI cZ u_324.1.1 u_324.1.2.1 u_324.1.2.2.1 u_324.1.2.2.2.1 u_324.1.2.2.2.2.1 u_324.1.2.2.2.2.2.1 u_324.1.2.2.2.2.2.2.1 u_324.1.2.2.2.2.2.2.2.1 u_324.1.2.2.2.2.2.2.2.2 (OL ao cJ u_324.2 :: wr3)) th c hid g code ans dbt many row heap our the (xs (i + 1)) (hc) (hg) (hco) (hhid)) (cwV 1 hts gL_law_X2_guess rfl rfl rfl (by decide +kernel) ⟨Nat.le_of_ble_eq_true rfl, Nat.le_of_ble_eq_true rfl⟩) (preV (ci := 2) (q0 := 0) hB hS hP9 hD9 rfl rfl) rfl rfl hl.1 rfl (lv_room (Nat.le_of_ble_eq_true rfl)) dL_law_336 ⟨Nat.le_trans (by first | exact Nat.le_add_right _ _ | exact Nat.add_le_add_left (by decide) _ | (simp only [Nat.add_assoc]; exact Nat.add_le_add_left (by decide) _)) hk3, Nat.le_trans (by first | exact Nat.le_add_right _ _ | exact Nat.add_le_add_left (by decide) _ | (simp only [Nat.add_assoc]; exact Nat.add_le_add_left (by decide) _)) hs3⟩) hS (fun q _ h => h) (fun q h => h) (fun r_336 u_336 t9 H1 locs1 ht9 hvm9 hw_336 hBw hz9 hk9 hS => ?_)
          obtain ⟨hP, hD⟩ := hBw
          rw [ht9] at hP
          generalize H1 = H at hP hS ⊢
          generalize locs1 = locs at hS ⊢
          replace hP := mx_P hP
          replace hD := mx_D hD
          replace hP : va_P D vwCl (WX ad cI cZ u_324.1.1 u_324.1.2.1 u_324.1.2.2.1 u_324.1.2.2.2.1 u_324.1.2.2.2.2.1 u_324.1.2.2.2.2.2.1 u_324.1.2.2.2.2.2.2.1 u_324.1.2.2.2.2.2.2.2.1 u_324.1.2.2.2.2.2.2.2.2 (OL ao cJ u_324.2 :: WM bd cI u_336.1.1 c hid u_336.1.2.1 u_336.1.2.2.1 u_336.1.2.2.2.1 u_336.1.2.2.2.2 many row heap u_336.2.1 u_336.2.2 wr3)) H := hP
          replace hD : va_D (fun q : Nat => s.heap.size ≤ q) (WX ad cI cZ u_324.1.1 u_324.1.2.1 u_324.1.2.2.1 u_324.1.2.2.2.1 u_324.1.2.2.2.2.1 u_324.1.2.2.2.2.2.1 u_324.1.2.2.2.2.2.2.1 u_324.1.2.2.2.2.2.2.2.1 u_324.1.2.2.2.2.2.2.2.2 (OL ao cJ u_324.2 :: WM bd cI u_336.1.1 c hid u_336.1.2.1 u_336.1.2.2.1 u_336.1.2.2.2.1 u_336.1.2.2.2.2 many row heap u_336.2.1 u_336.2.2 wr3)) := hD
          have hkey := key_guess hI hw_324 hw_336
          obtain ⟨⟨c2, g2, hid2, code2, ans2, dbt2, opn2, ply2, hps2⟩, ov2⟩ := u_324
          obtain ⟨ek, eo, q1, q2, q3, q4, q5, q6, hI2⟩ := hkey
          change c2 = _ at q1
          change g2 = _ at q2
          change hid2 = _ at q3
          change code2 = _ at q4
          change ans2 = _ at q5
          change dbt2 = _ at q6
          replace q1 := Eq.symm q1; replace q2 := Eq.symm q2; replace q3 := Eq.symm q3; replace q4 := Eq.symm q4; replace q5 := Eq.symm q5; replace q6 := Eq.symm q6
          subst q1; subst q2; subst q3; subst q4; subst q5; subst q6
          replace hP : va_P D vwCl (WX ad cI cZ c u_336.1.2.1 hid u_336.1.2.2.1 u_336.1.2.2.2.1 u_336.1.2.2.2.2 opn2 ply2 hps2 (OL ao cJ ov2 :: WM bd cI u_336.1.1 c hid u_336.1.2.1 u_336.1.2.2.1 u_336.1.2.2.2.1 u_336.1.2.2.2.2 many row heap u_336.2.1 u_336.2.2 wr3)) H := hP
          replace hD : va_D (fun q : Nat => s.heap.size ≤ q) (WX ad cI cZ c u_336.1.2.1 hid u_336.1.2.2.1 u_336.1.2.2.2.1 u_336.1.2.2.2.2 opn2 ply2 hps2 (OL ao cJ ov2 :: WM bd cI u_336.1.1 c hid u_336.1.2.1 u_336.1.2.2.1 u_336.1.2.2.2.1 u_336.1.2.2.2.2 many row heap u_336.2.1 u_336.2.2 wr3)) := hD
          replace hI : XI (c) (u_336.1.2.1) (hid) (u_336.1.2.2.1) (u_336.1.2.2.2.1) (u_336.1.2.2.2.2) opn2 := hI2
          replace eo : r_324 = nI 0 → ov2 0 = _ := eo
          refine lv_istore (lv' := [(6, .int (r_336)), (5, .int (r_324)), (0, .ref (b)), (1, .ref (ad 0)), (2, .ref (bd 0)), (3, .ref (ao)), (4, .int (nI (i)))]) hx hb dL_law_339 hl (by decide) rfl (fun ls hl => ?_)
          refine lv_aload_n hx hb dL_law_341 rfl (lv_at hl 4 rfl) ?_
          have hP9 := xm_P hP
          have hD9 := xm_D hD
          refine x_csi (va_runV (As := []) (rest := []) ⟨hx, hb, hml, hown, hts⟩ (c_X2_thrown l D cI cZ cG cJ (fun q : Nat => s.heap.size ≤ q) bd (WX ad cI cZ c u_336.1.2.1 hid u_336.1.2.2.1 u_336.1.2.2.2.1 u_336.1.2.2.2.2 opn2 ply2 hps2 (OL ao cJ ov2 :: wr3)) u_336.1.1 c hid u_336.1.2.1 u_336.1.2.2.1 u_336.1.2.2.2.1 u_336.1.2.2.2.2 many row heap u_336.2.1 u_336.2.2 ) (cwV 0 hts gL_law_X2_thrown rfl rfl rfl (by decide +kernel) ⟨Nat.le_of_ble_eq_true rfl, Nat.le_of_ble_eq_true rfl⟩) (preV (ci := 2) (q0 := 0) hB hS hP9 hD9 rfl rfl) rfl rfl hl.1 rfl (lv_room (Nat.le_of_ble_eq_true rfl)) dL_law_342 ⟨Nat.le_trans (by first | exact Nat.le_add_right _ _ | exact Nat.add_le_add_left (by decide) _ | (simp only [Nat.add_assoc]; exact Nat.add_le_add_left (by decide) _)) hk3, Nat.le_trans (by first | exact Nat.le_add_right _ _ | exact Nat.add_le_add_left (by decide) _ | (simp only [Nat.add_assoc]; exact Nat.add_le_add_left (by decide) _)) hs3⟩) ?_
          refine lv_iload hx hb dL_law_345 (lv_at hl 1 rfl) ?_
          refine lv_icmp_eq (tgt := 352) hx hb dL_law_347 (by decide) (fun c347 => ?_) (fun c347 => absurd c347 (fun q => q ek.symm))
          refine lv_iload hx hb dL_law_352 (lv_at hl 1 rfl) ?_
          refine lv_if_ne (tgt := 369) hx hb dL_law_354 (by decide) (fun c354 => ?_) (fun c354 => ?_)
          · skip
            refine lv_goto (tgt := 1338) hx hb dL_law_369 (by decide) ?_
            refine lv_iinc (v := nI (i + 4)) (lv' := [(4, .int (nI (i + 4))), (6, .int (r_336)), (5, .int (r_324)), (0, .ref (b)), (1, .ref (ad 0)), (2, .ref (bd 0)), (3, .ref (ao))]) hx hb dL_law_1338 hl (k := 6) rfl (nI_add _ _) (by decide) rfl (fun ls hl => ?_)
            refine lv_goto (tgt := 23) hx hb dL_law_1341 (by decide) ?_
            exact ih23 (n := n + 1) (i := i + 4) (c := c) (g := u_336.1.2.1) (hid := hid) (code := u_336.1.2.2.1) (ans := u_336.1.2.2.2.1) (dbt := u_336.1.2.2.2.2) (opn := opn2) (ply := ply2) (hps := hps2) (ov := ov2) (th := u_336.1.1) (many := many) (row := row) (heap := heap) (our := u_336.2.1) (the := u_336.2.2) (kc := _) (ks := _) (ls := ls) (hl := lv_sub hl [3, 4, 5, 6, 0] rfl) (H := H) (locs := locs) (hP := hP) (hD := hD) (hS := hS) (hinv := by
                exact ⟨hn5, hi2, hi4, hI, room_n h5 hn5 (by first | exact Nat.le_add_right _ _ | exact Nat.add_le_add_left (by decide) _ | (simp only [Nat.add_assoc]; exact Nat.add_le_add_left (by decide) _)), room_n h6 hn5 (by first | exact Nat.le_add_right _ _ | exact Nat.add_le_add_left (by decide) _ | (simp only [Nat.add_assoc]; exact Nat.add_le_add_left (by decide) _))⟩
              ) (hn9 := by
                exact mu_n hn9 hn5
              )
          · skip
            refine lv_aload_n hx hb dL_law_357 rfl (lv_at hl 5 rfl) ?_
            refine lv_iconst (v := nI (0)) hx hb dL_law_358 (by decide) ?_
            refine va_lald hx hb hK hP 7 3 rfl rfl (vp_in_nI (n := 0) (N := 1) (by decide) (by decide)) dL_law_359 ?_
            refine x_tl (y := (r_336).toInt64) (by rw [nI_clamp (by decide)]; exact eo c354) ?_
            refine lv_iload hx hb dL_law_360 (lv_at hl 0 rfl) ?_
            refine lv_i2l hx hb dL_law_362 rfl ?_
            refine W.lcmp hx hb dL_law_363 ?_
            refine x_ti (y := 0) (lg_cmp_self _) ?_
            refine lv_if_eq (tgt := 369) hx hb dL_law_364 (by decide) (fun c364 => ?_) (fun c364 => absurd c364 (fun q => q rfl))
            refine lv_goto (tgt := 1338) hx hb dL_law_369 (by decide) ?_
            refine lv_iinc (v := nI (i + 4)) (lv' := [(4, .int (nI (i + 4))), (6, .int (r_336)), (5, .int (r_324)), (0, .ref (b)), (1, .ref (ad 0)), (2, .ref (bd 0)), (3, .ref (ao))]) hx hb dL_law_1338 hl (k := 6) rfl (nI_add _ _) (by decide) rfl (fun ls hl => ?_)
            refine lv_goto (tgt := 23) hx hb dL_law_1341 (by decide) ?_
            exact ih23 (n := n + 1) (i := i + 4) (c := c) (g := u_336.1.2.1) (hid := hid) (code := u_336.1.2.2.1) (ans := u_336.1.2.2.2.1) (dbt := u_336.1.2.2.2.2) (opn := opn2) (ply := ply2) (hps := hps2) (ov := ov2) (th := u_336.1.1) (many := many) (row := row) (heap := heap) (our := u_336.2.1) (the := u_336.2.2) (kc := _) (ks := _) (ls := ls) (hl := lv_sub hl [3, 4, 5, 6, 0] rfl) (H := H) (locs := locs) (hP := hP) (hD := hD) (hS := hS) (hinv := by
                exact ⟨hn5, hi2, hi4, hI, room_n h5 hn5 (by first | exact Nat.le_add_right _ _ | exact Nat.add_le_add_left (by decide) _ | (simp only [Nat.add_assoc]; exact Nat.add_le_add_left (by decide) _)), room_n h6 hn5 (by first | exact Nat.le_add_right _ _ | exact Nat.add_le_add_left (by decide) _ | (simp only [Nat.add_assoc]; exact Nat.add_le_add_left (by decide) _))⟩
              ) (hn9 := by
                exact mu_n hn9 hn5
              )
        · refine x_ti (y := nI 4) hwj ?_
          refine lv_tableIn (tgt := 372) (off := 333) hx hb dL_law_39 (by decide) (by decide) rfl (by decide) ?_
          refine lv_aload_n hx hb dL_law_372 rfl (lv_at hl 1 rfl) ?_
          refine lv_aload_n hx hb dL_law_373 rfl (lv_at hl 0 rfl) ?_
          refine lv_iload hx hb dL_law_374 (lv_at hl 4 rfl) ?_
          refine lv_iconst (v := nI (1)) hx hb dL_law_376 (by decide) ?_
          refine lv_iadd hx hb dL_law_377 ?_
          refine x_ti (nI_add _ _) ?_
          refine x_sld hx hb hX hbl hbA hS (i := i + 1) (by first | exact hj0 | exact hj1 | exact hj2 | exact hj3) hL31 dL_law_378 ?_
          refine lv_aload_n hx hb dL_law_379 rfl (lv_at hl 0 rfl) ?_
          refine lv_iload hx hb dL_law_380 (lv_at hl 4 rfl) ?_
          refine lv_iconst (v := nI (2)) hx hb dL_law_382 (by decide) ?_
          refine lv_iadd hx hb dL_law_383 ?_
          refine x_ti (nI_add _ _) ?_
          refine x_sld hx hb hX hbl hbA hS (i := i + 2) (by first | exact hj0 | exact hj1 | exact hj2 | exact hj3) hL31 dL_law_384 ?_
          refine lv_aload_n hx hb dL_law_385 rfl (lv_at hl 0 rfl) ?_
          refine lv_iload hx hb dL_law_386 (lv_at hl 4 rfl) ?_
          refine lv_iconst (v := nI (3)) hx hb dL_law_388 (by decide) ?_
          refine lv_iadd hx hb dL_law_389 ?_
          refine x_ti (nI_add _ _) ?_
          refine x_sld hx hb hX hbl hbA hS (i := i + 3) (by first | exact hj0 | exact hj1 | exact hj2 | exact hj3) hL31 dL_law_390 ?_
          refine lv_aload_n hx hb dL_law_391 rfl (lv_at hl 3 rfl) ?_
          refine va_calli (vx_runSW (As := [.ref (ad 0), .int (xs (i + 1)), .int (xs (i + 2)), .int (xs (i + 3)), .ref (ao)]) (rest := []) ⟨hx, hb, hml, hown, hts⟩ (c_L_tell l hfl D cI cZ cG cJ (fun q : Nat => s.heap.size ≤ q) ad ao (WM bd cI th c hid g code ans dbt many row heap our the wr3) (pal_m hpal) c g hid code ans dbt opn ply hps ov (xs (i + 1)) (xs (i + 2)) (xs (i + 3)) (hI)) (vx_cwSW 5 hts gL_law_L_tell rfl rfl rfl (by decide +kernel) ⟨Nat.le_of_ble_eq_true rfl, Nat.le_of_ble_eq_true rfl⟩) (preS hB hS hP hD) rfl rfl hl.1 rfl (lv_room (Nat.le_of_ble_eq_true rfl)) dL_law_392 ⟨Nat.le_trans (by first | exact Nat.le_add_right _ _ | exact Nat.add_le_add_left (by decide) _ | (simp only [Nat.add_assoc]; exact Nat.add_le_add_left (by decide) _)) hk3, Nat.le_trans (by first | exact Nat.le_add_right _ _ | exact Nat.add_le_add_left (by decide) _ | (simp only [Nat.add_assoc]; exact Nat.add_le_add_left (by decide) _)) hs3⟩) hS (fun q _ h => h) (fun q h => h) (fun r_392 u_392 t9 H1 locs1 ht9 hvm9 hw_392 hBw hz9 hk9 hS => ?_)
          obtain ⟨hP, hD⟩ := hBw
          rw [ht9] at hP
          generalize H1 = H at hP hS ⊢
          generalize locs1 = locs at hS ⊢
          replace hP : va_P D vwCl (WX ad cI cZ u_392.1.1 u_392.1.2.1 u_392.1.2.2.1 u_392.1.2.2.2.1 u_392.1.2.2.2.2.1 u_392.1.2.2.2.2.2.1 u_392.1.2.2.2.2.2.2.1 u_392.1.2.2.2.2.2.2.2.1 u_392.1.2.2.2.2.2.2.2.2 (OL ao cJ u_392.2 :: WM bd cI th c hid g code ans dbt many row heap our the wr3)) H := hP
          replace hD : va_D (fun q : Nat => s.heap.size ≤ q) (WX ad cI cZ u_392.1.1 u_392.1.2.1 u_392.1.2.2.1 u_392.1.2.2.2.1 u_392.1.2.2.2.2.1 u_392.1.2.2.2.2.2.1 u_392.1.2.2.2.2.2.2.1 u_392.1.2.2.2.2.2.2.2.1 u_392.1.2.2.2.2.2.2.2.2 (OL ao cJ u_392.2 :: WM bd cI th c hid g code ans dbt many row heap our the wr3)) := hD
          refine lv_istore (lv' := [(5, .int (r_392)), (0, .ref (b)), (1, .ref (ad 0)), (2, .ref (bd 0)), (3, .ref (ao)), (4, .int (nI (i)))]) hx hb dL_law_395 hl (by decide) rfl (fun ls hl => ?_)
          refine lv_aload_n hx hb dL_law_397 rfl (lv_at hl 3 rfl) ?_
          refine lv_aload_n hx hb dL_law_398 rfl (lv_at hl 1 rfl) ?_
          refine lv_iload hx hb dL_law_399 (lv_at hl 5 rfl) ?_
          refine lv_iconst (v := nI (1)) hx hb dL_law_401 (by decide) ?_
          refine lv_iadd hx hb dL_law_402 ?_
          refine x_ti (nI_add _ _) ?_
          refine x_sld hx hb hX hbl hbA hS (i := i + 1) (by first | exact hj0 | exact hj1 | exact hj2 | exact hj3) hL31 dL_law_403 ?_
          refine lv_aload_n hx hb dL_law_404 rfl (lv_at hl 1 rfl) ?_
          refine lv_iload hx hb dL_law_405 (lv_at hl 5 rfl) ?_
          refine lv_iconst (v := nI (2)) hx hb dL_law_407 (by decide) ?_
          refine lv_iadd hx hb dL_law_408 ?_
          refine x_ti (nI_add _ _) ?_
          refine x_sld hx hb hX hbl hbA hS (i := i + 2) (by first | exact hj0 | exact hj1 | exact hj2 | exact hj3) hL31 dL_law_409 ?_
          refine lv_aload_n hx hb dL_law_410 rfl (lv_at hl 1 rfl) ?_
          refine lv_iload hx hb dL_law_411 (lv_at hl 5 rfl) ?_
          refine lv_iconst (v := nI (3)) hx hb dL_law_413 (by decide) ?_
          refine lv_iadd hx hb dL_law_414 ?_
          refine x_ti (nI_add _ _) ?_
          refine x_sld hx hb hX hbl hbA hS (i := i + 3) (by first | exact hj0 | exact hj1 | exact hj2 | exact hj3) hL31 dL_law_415 ?_
          have hP9 := xm_P hP
          have hD9 := xm_D hD
          refine va_calli (va_runV (As := [.int (xs (i + 1)), .int (xs (i + 2)), .int (xs (i + 3))]) (rest := []) ⟨hx, hb, hml, hown, hts⟩ (c_X2_tell l D cI cZ cG cJ (fun q : Nat => s.heap.size ≤ q) bd (WX ad cI cZ u_392.1.1 u_392.1.2.1 u_392.1.2.2.1 u_392.1.2.2.2.1 u_392.1.2.2.2.2.1 u_392.1.2.2.2.2.2.1 u_392.1.2.2.2.2.2.2.1 u_392.1.2.2.2.2.2.2.2.1 u_392.1.2.2.2.2.2.2.2.2 (OL ao cJ u_392.2 :: wr3)) th c hid g code ans dbt many row heap our the (xs (i + 1)) (xs (i + 2)) (xs (i + 3)) (hc) (hg) (hco)) (cwV 3 hts gL_law_X2_tell rfl rfl rfl (by decide +kernel) ⟨Nat.le_of_ble_eq_true rfl, Nat.le_of_ble_eq_true rfl⟩) (preV (ci := 2) (q0 := 0) hB hS hP9 hD9 rfl rfl) rfl rfl hl.1 rfl (lv_room (Nat.le_of_ble_eq_true rfl)) dL_law_416 ⟨Nat.le_trans (by first | exact Nat.le_add_right _ _ | exact Nat.add_le_add_left (by decide) _ | (simp only [Nat.add_assoc]; exact Nat.add_le_add_left (by decide) _)) hk3, Nat.le_trans (by first | exact Nat.le_add_right _ _ | exact Nat.add_le_add_left (by decide) _ | (simp only [Nat.add_assoc]; exact Nat.add_le_add_left (by decide) _)) hs3⟩) hS (fun q _ h => h) (fun q h => h) (fun r_416 u_416 t9 H1 locs1 ht9 hvm9 hw_416 hBw hz9 hk9 hS => ?_)
          obtain ⟨hP, hD⟩ := hBw
          rw [ht9] at hP
          generalize H1 = H at hP hS ⊢
          generalize locs1 = locs at hS ⊢
          replace hP := mx_P hP
          replace hD := mx_D hD
          replace hP : va_P D vwCl (WX ad cI cZ u_392.1.1 u_392.1.2.1 u_392.1.2.2.1 u_392.1.2.2.2.1 u_392.1.2.2.2.2.1 u_392.1.2.2.2.2.2.1 u_392.1.2.2.2.2.2.2.1 u_392.1.2.2.2.2.2.2.2.1 u_392.1.2.2.2.2.2.2.2.2 (OL ao cJ u_392.2 :: WM bd cI u_416.1.1 c hid u_416.1.2.1 u_416.1.2.2.1 u_416.1.2.2.2.1 u_416.1.2.2.2.2 u_416.2.1 u_416.2.2.1 heap u_416.2.2.2.1 u_416.2.2.2.2 wr3)) H := hP
          replace hD : va_D (fun q : Nat => s.heap.size ≤ q) (WX ad cI cZ u_392.1.1 u_392.1.2.1 u_392.1.2.2.1 u_392.1.2.2.2.1 u_392.1.2.2.2.2.1 u_392.1.2.2.2.2.2.1 u_392.1.2.2.2.2.2.2.1 u_392.1.2.2.2.2.2.2.2.1 u_392.1.2.2.2.2.2.2.2.2 (OL ao cJ u_392.2 :: WM bd cI u_416.1.1 c hid u_416.1.2.1 u_416.1.2.2.1 u_416.1.2.2.2.1 u_416.1.2.2.2.2 u_416.2.1 u_416.2.2.1 heap u_416.2.2.2.1 u_416.2.2.2.2 wr3)) := hD
          have hkey := key_tell hI hw_392 hw_416
          obtain ⟨⟨c2, g2, hid2, code2, ans2, dbt2, opn2, ply2, hps2⟩, ov2⟩ := u_392
          obtain ⟨ek, eo, q1, q2, q3, q4, q5, q6, hI2⟩ := hkey
          change c2 = _ at q1
          change g2 = _ at q2
          change hid2 = _ at q3
          change code2 = _ at q4
          change ans2 = _ at q5
          change dbt2 = _ at q6
          replace q1 := Eq.symm q1; replace q2 := Eq.symm q2; replace q3 := Eq.symm q3; replace q4 := Eq.symm q4; replace q5 := Eq.symm q5; replace q6 := Eq.symm q6
          subst q1; subst q2; subst q3; subst q4; subst q5; subst q6
          replace hP : va_P D vwCl (WX ad cI cZ c u_416.1.2.1 hid u_416.1.2.2.1 u_416.1.2.2.2.1 u_416.1.2.2.2.2 opn2 ply2 hps2 (OL ao cJ ov2 :: WM bd cI u_416.1.1 c hid u_416.1.2.1 u_416.1.2.2.1 u_416.1.2.2.2.1 u_416.1.2.2.2.2 u_416.2.1 u_416.2.2.1 heap u_416.2.2.2.1 u_416.2.2.2.2 wr3)) H := hP
          replace hD : va_D (fun q : Nat => s.heap.size ≤ q) (WX ad cI cZ c u_416.1.2.1 hid u_416.1.2.2.1 u_416.1.2.2.2.1 u_416.1.2.2.2.2 opn2 ply2 hps2 (OL ao cJ ov2 :: WM bd cI u_416.1.1 c hid u_416.1.2.1 u_416.1.2.2.1 u_416.1.2.2.2.1 u_416.1.2.2.2.2 u_416.2.1 u_416.2.2.1 heap u_416.2.2.2.1 u_416.2.2.2.2 wr3)) := hD
          replace hI : XI (c) (u_416.1.2.1) (hid) (u_416.1.2.2.1) (u_416.1.2.2.2.1) (u_416.1.2.2.2.2) opn2 := hI2
          replace eo : r_392 = nI 0 → ov2 0 = _ := eo
          refine lv_istore (lv' := [(6, .int (r_416)), (5, .int (r_392)), (0, .ref (b)), (1, .ref (ad 0)), (2, .ref (bd 0)), (3, .ref (ao)), (4, .int (nI (i)))]) hx hb dL_law_419 hl (by decide) rfl (fun ls hl => ?_)
          refine lv_aload_n hx hb dL_law_421 rfl (lv_at hl 4 rfl) ?_
          have hP9 := xm_P hP
          have hD9 := xm_D hD
          refine x_csi (va_runV (As := []) (rest := []) ⟨hx, hb, hml, hown, hts⟩ (c_X2_thrown l D cI cZ cG cJ (fun q : Nat => s.heap.size ≤ q) bd (WX ad cI cZ c u_416.1.2.1 hid u_416.1.2.2.1 u_416.1.2.2.2.1 u_416.1.2.2.2.2 opn2 ply2 hps2 (OL ao cJ ov2 :: wr3)) u_416.1.1 c hid u_416.1.2.1 u_416.1.2.2.1 u_416.1.2.2.2.1 u_416.1.2.2.2.2 u_416.2.1 u_416.2.2.1 heap u_416.2.2.2.1 u_416.2.2.2.2 ) (cwV 0 hts gL_law_X2_thrown rfl rfl rfl (by decide +kernel) ⟨Nat.le_of_ble_eq_true rfl, Nat.le_of_ble_eq_true rfl⟩) (preV (ci := 2) (q0 := 0) hB hS hP9 hD9 rfl rfl) rfl rfl hl.1 rfl (lv_room (Nat.le_of_ble_eq_true rfl)) dL_law_422 ⟨Nat.le_trans (by first | exact Nat.le_add_right _ _ | exact Nat.add_le_add_left (by decide) _ | (simp only [Nat.add_assoc]; exact Nat.add_le_add_left (by decide) _)) hk3, Nat.le_trans (by first | exact Nat.le_add_right _ _ | exact Nat.add_le_add_left (by decide) _ | (simp only [Nat.add_assoc]; exact Nat.add_le_add_left (by decide) _)) hs3⟩) ?_
          refine lv_iload hx hb dL_law_425 (lv_at hl 1 rfl) ?_
          refine lv_icmp_eq (tgt := 432) hx hb dL_law_427 (by decide) (fun c427 => ?_) (fun c427 => absurd c427 (fun q => q ek.symm))
          refine lv_iload hx hb dL_law_432 (lv_at hl 1 rfl) ?_
          refine lv_if_ne (tgt := 449) hx hb dL_law_434 (by decide) (fun c434 => ?_) (fun c434 => ?_)
          · skip
            refine lv_goto (tgt := 1338) hx hb dL_law_449 (by decide) ?_
            refine lv_iinc (v := nI (i + 4)) (lv' := [(4, .int (nI (i + 4))), (6, .int (r_416)), (5, .int (r_392)), (0, .ref (b)), (1, .ref (ad 0)), (2, .ref (bd 0)), (3, .ref (ao))]) hx hb dL_law_1338 hl (k := 6) rfl (nI_add _ _) (by decide) rfl (fun ls hl => ?_)
            refine lv_goto (tgt := 23) hx hb dL_law_1341 (by decide) ?_
            exact ih23 (n := n + 1) (i := i + 4) (c := c) (g := u_416.1.2.1) (hid := hid) (code := u_416.1.2.2.1) (ans := u_416.1.2.2.2.1) (dbt := u_416.1.2.2.2.2) (opn := opn2) (ply := ply2) (hps := hps2) (ov := ov2) (th := u_416.1.1) (many := u_416.2.1) (row := u_416.2.2.1) (heap := heap) (our := u_416.2.2.2.1) (the := u_416.2.2.2.2) (kc := _) (ks := _) (ls := ls) (hl := lv_sub hl [3, 4, 5, 6, 0] rfl) (H := H) (locs := locs) (hP := hP) (hD := hD) (hS := hS) (hinv := by
                exact ⟨hn5, hi2, hi4, hI, room_n h5 hn5 (by first | exact Nat.le_add_right _ _ | exact Nat.add_le_add_left (by decide) _ | (simp only [Nat.add_assoc]; exact Nat.add_le_add_left (by decide) _)), room_n h6 hn5 (by first | exact Nat.le_add_right _ _ | exact Nat.add_le_add_left (by decide) _ | (simp only [Nat.add_assoc]; exact Nat.add_le_add_left (by decide) _))⟩
              ) (hn9 := by
                exact mu_n hn9 hn5
              )
          · skip
            refine lv_aload_n hx hb dL_law_437 rfl (lv_at hl 5 rfl) ?_
            refine lv_iconst (v := nI (0)) hx hb dL_law_438 (by decide) ?_
            refine va_lald hx hb hK hP 7 3 rfl rfl (vp_in_nI (n := 0) (N := 1) (by decide) (by decide)) dL_law_439 ?_
            refine x_tl (y := (r_416).toInt64) (by rw [nI_clamp (by decide)]; exact eo c434) ?_
            refine lv_iload hx hb dL_law_440 (lv_at hl 0 rfl) ?_
            refine lv_i2l hx hb dL_law_442 rfl ?_
            refine W.lcmp hx hb dL_law_443 ?_
            refine x_ti (y := 0) (lg_cmp_self _) ?_
            refine lv_if_eq (tgt := 449) hx hb dL_law_444 (by decide) (fun c444 => ?_) (fun c444 => absurd c444 (fun q => q rfl))
            refine lv_goto (tgt := 1338) hx hb dL_law_449 (by decide) ?_
            refine lv_iinc (v := nI (i + 4)) (lv' := [(4, .int (nI (i + 4))), (6, .int (r_416)), (5, .int (r_392)), (0, .ref (b)), (1, .ref (ad 0)), (2, .ref (bd 0)), (3, .ref (ao))]) hx hb dL_law_1338 hl (k := 6) rfl (nI_add _ _) (by decide) rfl (fun ls hl => ?_)
            refine lv_goto (tgt := 23) hx hb dL_law_1341 (by decide) ?_
            exact ih23 (n := n + 1) (i := i + 4) (c := c) (g := u_416.1.2.1) (hid := hid) (code := u_416.1.2.2.1) (ans := u_416.1.2.2.2.1) (dbt := u_416.1.2.2.2.2) (opn := opn2) (ply := ply2) (hps := hps2) (ov := ov2) (th := u_416.1.1) (many := u_416.2.1) (row := u_416.2.2.1) (heap := heap) (our := u_416.2.2.2.1) (the := u_416.2.2.2.2) (kc := _) (ks := _) (ls := ls) (hl := lv_sub hl [3, 4, 5, 6, 0] rfl) (H := H) (locs := locs) (hP := hP) (hD := hD) (hS := hS) (hinv := by
                exact ⟨hn5, hi2, hi4, hI, room_n h5 hn5 (by first | exact Nat.le_add_right _ _ | exact Nat.add_le_add_left (by decide) _ | (simp only [Nat.add_assoc]; exact Nat.add_le_add_left (by decide) _)), room_n h6 hn5 (by first | exact Nat.le_add_right _ _ | exact Nat.add_le_add_left (by decide) _ | (simp only [Nat.add_assoc]; exact Nat.add_le_add_left (by decide) _))⟩
              ) (hn9 := by
                exact mu_n hn9 hn5
              )
        · refine x_ti (y := nI 5) hwj ?_
          refine lv_tableIn (tgt := 452) (off := 413) hx hb dL_law_39 (by decide) (by decide) rfl (by decide) ?_
          refine lv_aload_n hx hb dL_law_452 rfl (lv_at hl 1 rfl) ?_
          refine lv_aload_n hx hb dL_law_453 rfl (lv_at hl 0 rfl) ?_
          refine lv_iload hx hb dL_law_454 (lv_at hl 4 rfl) ?_
          refine lv_iconst (v := nI (1)) hx hb dL_law_456 (by decide) ?_
          refine lv_iadd hx hb dL_law_457 ?_
          refine x_ti (nI_add _ _) ?_
          refine x_sld hx hb hX hbl hbA hS (i := i + 1) (by first | exact hj0 | exact hj1 | exact hj2 | exact hj3) hL31 dL_law_458 ?_
          refine lv_aload_n hx hb dL_law_459 rfl (lv_at hl 0 rfl) ?_
          refine lv_iload hx hb dL_law_460 (lv_at hl 4 rfl) ?_
          refine lv_iconst (v := nI (2)) hx hb dL_law_462 (by decide) ?_
          refine lv_iadd hx hb dL_law_463 ?_
          refine x_ti (nI_add _ _) ?_
          refine x_sld hx hb hX hbl hbA hS (i := i + 2) (by first | exact hj0 | exact hj1 | exact hj2 | exact hj3) hL31 dL_law_464 ?_
          refine lv_if_eq (tgt := 472) hx hb dL_law_465 (by decide) (fun c465 => ?_) (fun c465 => ?_)
          · skip
            refine lv_iconst (v := nI (0)) hx hb dL_law_472 (by decide) ?_
            refine x_ti (y := bI (!decide (xs (i + 2) = 0))) (by rw [decide_eq_true c465]; rfl) ?_
            refine lv_aload_n hx hb dL_law_473 rfl (lv_at hl 3 rfl) ?_
            refine va_calli (vx_runSW (As := [.ref (ad 0), .int (xs (i + 1)), .int (bI (!decide (xs (i + 2) = 0))), .ref (ao)]) (rest := []) ⟨hx, hb, hml, hown, hts⟩ (c_L_doubt l hfl D cI cZ cG cJ (fun q : Nat => s.heap.size ≤ q) ad ao (WM bd cI th c hid g code ans dbt many row heap our the wr3) (pal_m hpal) c g hid code ans dbt opn ply hps ov (xs (i + 1)) (!decide (xs (i + 2) = 0)) (hI)) (vx_cwSW 4 hts gL_law_L_doubt rfl rfl rfl (by decide +kernel) ⟨Nat.le_of_ble_eq_true rfl, Nat.le_of_ble_eq_true rfl⟩) (preS hB hS hP hD) rfl rfl hl.1 rfl (lv_room (Nat.le_of_ble_eq_true rfl)) dL_law_474 ⟨Nat.le_trans (by first | exact Nat.le_add_right _ _ | exact Nat.add_le_add_left (by decide) _ | (simp only [Nat.add_assoc]; exact Nat.add_le_add_left (by decide) _)) hk3, Nat.le_trans (by first | exact Nat.le_add_right _ _ | exact Nat.add_le_add_left (by decide) _ | (simp only [Nat.add_assoc]; exact Nat.add_le_add_left (by decide) _)) hs3⟩) hS (fun q _ h => h) (fun q h => h) (fun r_474 u_474 t9 H1 locs1 ht9 hvm9 hw_474 hBw hz9 hk9 hS => ?_)
            obtain ⟨hP, hD⟩ := hBw
            rw [ht9] at hP
            generalize H1 = H at hP hS ⊢
            generalize locs1 = locs at hS ⊢
            replace hP : va_P D vwCl (WX ad cI cZ u_474.1.1 u_474.1.2.1 u_474.1.2.2.1 u_474.1.2.2.2.1 u_474.1.2.2.2.2.1 u_474.1.2.2.2.2.2.1 u_474.1.2.2.2.2.2.2.1 u_474.1.2.2.2.2.2.2.2.1 u_474.1.2.2.2.2.2.2.2.2 (OL ao cJ u_474.2 :: WM bd cI th c hid g code ans dbt many row heap our the wr3)) H := hP
            replace hD : va_D (fun q : Nat => s.heap.size ≤ q) (WX ad cI cZ u_474.1.1 u_474.1.2.1 u_474.1.2.2.1 u_474.1.2.2.2.1 u_474.1.2.2.2.2.1 u_474.1.2.2.2.2.2.1 u_474.1.2.2.2.2.2.2.1 u_474.1.2.2.2.2.2.2.2.1 u_474.1.2.2.2.2.2.2.2.2 (OL ao cJ u_474.2 :: WM bd cI th c hid g code ans dbt many row heap our the wr3)) := hD
            refine lv_istore (lv' := [(5, .int (r_474)), (0, .ref (b)), (1, .ref (ad 0)), (2, .ref (bd 0)), (3, .ref (ao)), (4, .int (nI (i)))]) hx hb dL_law_477 hl (by decide) rfl (fun ls hl => ?_)
            refine lv_aload_n hx hb dL_law_479 rfl (lv_at hl 3 rfl) ?_
            refine lv_aload_n hx hb dL_law_480 rfl (lv_at hl 1 rfl) ?_
            refine lv_iload hx hb dL_law_481 (lv_at hl 5 rfl) ?_
            refine lv_iconst (v := nI (1)) hx hb dL_law_483 (by decide) ?_
            refine lv_iadd hx hb dL_law_484 ?_
            refine x_ti (nI_add _ _) ?_
            refine x_sld hx hb hX hbl hbA hS (i := i + 1) (by first | exact hj0 | exact hj1 | exact hj2 | exact hj3) hL31 dL_law_485 ?_
            refine lv_aload_n hx hb dL_law_486 rfl (lv_at hl 1 rfl) ?_
            refine lv_iload hx hb dL_law_487 (lv_at hl 5 rfl) ?_
            refine lv_iconst (v := nI (2)) hx hb dL_law_489 (by decide) ?_
            refine lv_iadd hx hb dL_law_490 ?_
            refine x_ti (nI_add _ _) ?_
            refine x_sld hx hb hX hbl hbA hS (i := i + 2) (by first | exact hj0 | exact hj1 | exact hj2 | exact hj3) hL31 dL_law_491 ?_
            refine lv_if_eq (tgt := 499) hx hb dL_law_492 (by decide) (fun c492 => ?_) (fun c492 => ?_)
            · skip
              refine lv_iconst (v := nI (0)) hx hb dL_law_499 (by decide) ?_
              refine x_ti (y := bI (!decide (xs (i + 2) = 0))) (by rw [decide_eq_true c492]; rfl) ?_
              have hP9 := xm_P hP
              have hD9 := xm_D hD
              refine va_calli (va_runV (As := [.int (xs (i + 1)), .int (bI (!decide (xs (i + 2) = 0)))]) (rest := []) ⟨hx, hb, hml, hown, hts⟩ (c_X2_doubt l D cI cZ cG cJ (fun q : Nat => s.heap.size ≤ q) bd (WX ad cI cZ u_474.1.1 u_474.1.2.1 u_474.1.2.2.1 u_474.1.2.2.2.1 u_474.1.2.2.2.2.1 u_474.1.2.2.2.2.2.1 u_474.1.2.2.2.2.2.2.1 u_474.1.2.2.2.2.2.2.2.1 u_474.1.2.2.2.2.2.2.2.2 (OL ao cJ u_474.2 :: wr3)) th c hid g code ans dbt many row heap our the (xs (i + 1)) (!decide (xs (i + 2) = 0)) (hg)) (cwV 2 hts gL_law_X2_doubt rfl rfl rfl (by decide +kernel) ⟨Nat.le_of_ble_eq_true rfl, Nat.le_of_ble_eq_true rfl⟩) (preV (ci := 2) (q0 := 0) hB hS hP9 hD9 rfl rfl) rfl rfl hl.1 rfl (lv_room (Nat.le_of_ble_eq_true rfl)) dL_law_500 ⟨Nat.le_trans (by first | exact Nat.le_add_right _ _ | exact Nat.add_le_add_left (by decide) _ | (simp only [Nat.add_assoc]; exact Nat.add_le_add_left (by decide) _)) hk3, Nat.le_trans (by first | exact Nat.le_add_right _ _ | exact Nat.add_le_add_left (by decide) _ | (simp only [Nat.add_assoc]; exact Nat.add_le_add_left (by decide) _)) hs3⟩) hS (fun q _ h => h) (fun q h => h) (fun r_500 u_500 t9 H1 locs1 ht9 hvm9 hw_500 hBw hz9 hk9 hS => ?_)
              obtain ⟨hP, hD⟩ := hBw
              rw [ht9] at hP
              generalize H1 = H at hP hS ⊢
              generalize locs1 = locs at hS ⊢
              replace hP := mx_P hP
              replace hD := mx_D hD
              replace hP : va_P D vwCl (WX ad cI cZ u_474.1.1 u_474.1.2.1 u_474.1.2.2.1 u_474.1.2.2.2.1 u_474.1.2.2.2.2.1 u_474.1.2.2.2.2.2.1 u_474.1.2.2.2.2.2.2.1 u_474.1.2.2.2.2.2.2.2.1 u_474.1.2.2.2.2.2.2.2.2 (OL ao cJ u_474.2 :: WM bd cI u_500.1 c hid g code ans u_500.2 many row heap our the wr3)) H := hP
              replace hD : va_D (fun q : Nat => s.heap.size ≤ q) (WX ad cI cZ u_474.1.1 u_474.1.2.1 u_474.1.2.2.1 u_474.1.2.2.2.1 u_474.1.2.2.2.2.1 u_474.1.2.2.2.2.2.1 u_474.1.2.2.2.2.2.2.1 u_474.1.2.2.2.2.2.2.2.1 u_474.1.2.2.2.2.2.2.2.2 (OL ao cJ u_474.2 :: WM bd cI u_500.1 c hid g code ans u_500.2 many row heap our the wr3)) := hD
              have hkey := key_doubt hI hw_474 hw_500
              obtain ⟨⟨c2, g2, hid2, code2, ans2, dbt2, opn2, ply2, hps2⟩, ov2⟩ := u_474
              obtain ⟨ek, eo, q1, q2, q3, q4, q5, q6, hI2⟩ := hkey
              change c2 = _ at q1
              change g2 = _ at q2
              change hid2 = _ at q3
              change code2 = _ at q4
              change ans2 = _ at q5
              change dbt2 = _ at q6
              replace q1 := Eq.symm q1; replace q2 := Eq.symm q2; replace q3 := Eq.symm q3; replace q4 := Eq.symm q4; replace q5 := Eq.symm q5; replace q6 := Eq.symm q6
              subst q1; subst q2; subst q3; subst q4; subst q5; subst q6
              replace hP : va_P D vwCl (WX ad cI cZ c g hid code ans u_500.2 opn2 ply2 hps2 (OL ao cJ ov2 :: WM bd cI u_500.1 c hid g code ans u_500.2 many row heap our the wr3)) H := hP
              replace hD : va_D (fun q : Nat => s.heap.size ≤ q) (WX ad cI cZ c g hid code ans u_500.2 opn2 ply2 hps2 (OL ao cJ ov2 :: WM bd cI u_500.1 c hid g code ans u_500.2 many row heap our the wr3)) := hD
              replace hI : XI (c) (g) (hid) (code) (ans) (u_500.2) opn2 := hI2
              replace eo : r_474 = nI 0 → ov2 0 = _ := eo
              refine lv_istore (lv' := [(6, .int (r_500)), (5, .int (r_474)), (0, .ref (b)), (1, .ref (ad 0)), (2, .ref (bd 0)), (3, .ref (ao)), (4, .int (nI (i)))]) hx hb dL_law_503 hl (by decide) rfl (fun ls hl => ?_)
              refine lv_aload_n hx hb dL_law_505 rfl (lv_at hl 4 rfl) ?_
              have hP9 := xm_P hP
              have hD9 := xm_D hD
              refine x_csi (va_runV (As := []) (rest := []) ⟨hx, hb, hml, hown, hts⟩ (c_X2_thrown l D cI cZ cG cJ (fun q : Nat => s.heap.size ≤ q) bd (WX ad cI cZ c g hid code ans u_500.2 opn2 ply2 hps2 (OL ao cJ ov2 :: wr3)) u_500.1 c hid g code ans u_500.2 many row heap our the ) (cwV 0 hts gL_law_X2_thrown rfl rfl rfl (by decide +kernel) ⟨Nat.le_of_ble_eq_true rfl, Nat.le_of_ble_eq_true rfl⟩) (preV (ci := 2) (q0 := 0) hB hS hP9 hD9 rfl rfl) rfl rfl hl.1 rfl (lv_room (Nat.le_of_ble_eq_true rfl)) dL_law_506 ⟨Nat.le_trans (by first | exact Nat.le_add_right _ _ | exact Nat.add_le_add_left (by decide) _ | (simp only [Nat.add_assoc]; exact Nat.add_le_add_left (by decide) _)) hk3, Nat.le_trans (by first | exact Nat.le_add_right _ _ | exact Nat.add_le_add_left (by decide) _ | (simp only [Nat.add_assoc]; exact Nat.add_le_add_left (by decide) _)) hs3⟩) ?_
              refine lv_iload hx hb dL_law_509 (lv_at hl 1 rfl) ?_
              refine lv_icmp_eq (tgt := 516) hx hb dL_law_511 (by decide) (fun c511 => ?_) (fun c511 => absurd c511 (fun q => q ek.symm))
              refine lv_iload hx hb dL_law_516 (lv_at hl 1 rfl) ?_
              refine lv_if_ne (tgt := 540) hx hb dL_law_518 (by decide) (fun c518 => ?_) (fun c518 => ?_)
              · skip
                refine lv_goto (tgt := 1338) hx hb dL_law_540 (by decide) ?_
                refine lv_iinc (v := nI (i + 4)) (lv' := [(4, .int (nI (i + 4))), (6, .int (r_500)), (5, .int (r_474)), (0, .ref (b)), (1, .ref (ad 0)), (2, .ref (bd 0)), (3, .ref (ao))]) hx hb dL_law_1338 hl (k := 6) rfl (nI_add _ _) (by decide) rfl (fun ls hl => ?_)
                refine lv_goto (tgt := 23) hx hb dL_law_1341 (by decide) ?_
                exact ih23 (n := n + 1) (i := i + 4) (c := c) (g := g) (hid := hid) (code := code) (ans := ans) (dbt := u_500.2) (opn := opn2) (ply := ply2) (hps := hps2) (ov := ov2) (th := u_500.1) (many := many) (row := row) (heap := heap) (our := our) (the := the) (kc := _) (ks := _) (ls := ls) (hl := lv_sub hl [3, 4, 5, 6, 0] rfl) (H := H) (locs := locs) (hP := hP) (hD := hD) (hS := hS) (hinv := by
                    exact ⟨hn5, hi2, hi4, hI, room_n h5 hn5 (by first | exact Nat.le_add_right _ _ | exact Nat.add_le_add_left (by decide) _ | (simp only [Nat.add_assoc]; exact Nat.add_le_add_left (by decide) _)), room_n h6 hn5 (by first | exact Nat.le_add_right _ _ | exact Nat.add_le_add_left (by decide) _ | (simp only [Nat.add_assoc]; exact Nat.add_le_add_left (by decide) _))⟩
                  ) (hn9 := by
                    exact mu_n hn9 hn5
                  )
              · skip
                refine lv_aload_n hx hb dL_law_521 rfl (lv_at hl 5 rfl) ?_
                refine lv_iconst (v := nI (0)) hx hb dL_law_522 (by decide) ?_
                refine va_lald hx hb hK hP 7 3 rfl rfl (vp_in_nI (n := 0) (N := 1) (by decide) (by decide)) dL_law_523 ?_
                refine lv_iload hx hb dL_law_524 (lv_at hl 0 rfl) ?_
                refine lv_if_eq (tgt := 533) hx hb dL_law_526 (by decide) (fun c526 => ?_) (fun c526 => ?_)
                · skip
                  refine lv_lconst (v := 0) hx hb dL_law_533 (by decide) ?_
                  refine W.lcmp hx hb dL_law_534 ?_
                  refine x_ti (y := 0) (by rw [nI_clamp (by decide), eo c518]; first | (rw [if_pos c526]; exact lg_cmp_self _) | (rw [if_neg c526]; exact lg_cmp_self _)) ?_
                  refine lv_if_eq (tgt := 540) hx hb dL_law_535 (by decide) (fun c535 => ?_) (fun c535 => absurd c535 (fun q => q rfl))
                  refine lv_goto (tgt := 1338) hx hb dL_law_540 (by decide) ?_
                  refine lv_iinc (v := nI (i + 4)) (lv' := [(4, .int (nI (i + 4))), (6, .int (r_500)), (5, .int (r_474)), (0, .ref (b)), (1, .ref (ad 0)), (2, .ref (bd 0)), (3, .ref (ao))]) hx hb dL_law_1338 hl (k := 6) rfl (nI_add _ _) (by decide) rfl (fun ls hl => ?_)
                  refine lv_goto (tgt := 23) hx hb dL_law_1341 (by decide) ?_
                  exact ih23 (n := n + 1) (i := i + 4) (c := c) (g := g) (hid := hid) (code := code) (ans := ans) (dbt := u_500.2) (opn := opn2) (ply := ply2) (hps := hps2) (ov := ov2) (th := u_500.1) (many := many) (row := row) (heap := heap) (our := our) (the := the) (kc := _) (ks := _) (ls := ls) (hl := lv_sub hl [3, 4, 5, 6, 0] rfl) (H := H) (locs := locs) (hP := hP) (hD := hD) (hS := hS) (hinv := by
                      exact ⟨hn5, hi2, hi4, hI, room_n h5 hn5 (by first | exact Nat.le_add_right _ _ | exact Nat.add_le_add_left (by decide) _ | (simp only [Nat.add_assoc]; exact Nat.add_le_add_left (by decide) _)), room_n h6 hn5 (by first | exact Nat.le_add_right _ _ | exact Nat.add_le_add_left (by decide) _ | (simp only [Nat.add_assoc]; exact Nat.add_le_add_left (by decide) _))⟩
                    ) (hn9 := by
                      exact mu_n hn9 hn5
                    )
                · skip
                  refine lv_lconst (v := 1) hx hb dL_law_529 (by decide) ?_
                  refine lv_goto (tgt := 534) hx hb dL_law_530 (by decide) ?_
                  refine W.lcmp hx hb dL_law_534 ?_
                  refine x_ti (y := 0) (by rw [nI_clamp (by decide), eo c518]; first | (rw [if_pos c526]; exact lg_cmp_self _) | (rw [if_neg c526]; exact lg_cmp_self _)) ?_
                  refine lv_if_eq (tgt := 540) hx hb dL_law_535 (by decide) (fun c535 => ?_) (fun c535 => absurd c535 (fun q => q rfl))
                  refine lv_goto (tgt := 1338) hx hb dL_law_540 (by decide) ?_
                  refine lv_iinc (v := nI (i + 4)) (lv' := [(4, .int (nI (i + 4))), (6, .int (r_500)), (5, .int (r_474)), (0, .ref (b)), (1, .ref (ad 0)), (2, .ref (bd 0)), (3, .ref (ao))]) hx hb dL_law_1338 hl (k := 6) rfl (nI_add _ _) (by decide) rfl (fun ls hl => ?_)
                  refine lv_goto (tgt := 23) hx hb dL_law_1341 (by decide) ?_
                  exact ih23 (n := n + 1) (i := i + 4) (c := c) (g := g) (hid := hid) (code := code) (ans := ans) (dbt := u_500.2) (opn := opn2) (ply := ply2) (hps := hps2) (ov := ov2) (th := u_500.1) (many := many) (row := row) (heap := heap) (our := our) (the := the) (kc := _) (ks := _) (ls := ls) (hl := lv_sub hl [3, 4, 5, 6, 0] rfl) (H := H) (locs := locs) (hP := hP) (hD := hD) (hS := hS) (hinv := by
                      exact ⟨hn5, hi2, hi4, hI, room_n h5 hn5 (by first | exact Nat.le_add_right _ _ | exact Nat.add_le_add_left (by decide) _ | (simp only [Nat.add_assoc]; exact Nat.add_le_add_left (by decide) _)), room_n h6 hn5 (by first | exact Nat.le_add_right _ _ | exact Nat.add_le_add_left (by decide) _ | (simp only [Nat.add_assoc]; exact Nat.add_le_add_left (by decide) _))⟩
                    ) (hn9 := by
                      exact mu_n hn9 hn5
                    )
            · skip
              refine lv_iconst (v := nI (1)) hx hb dL_law_495 (by decide) ?_
              refine x_ti (y := bI (!decide (xs (i + 2) = 0))) (by rw [decide_eq_false c492]; rfl) ?_
              refine lv_goto (tgt := 500) hx hb dL_law_496 (by decide) ?_
              have hP9 := xm_P hP
              have hD9 := xm_D hD
              refine va_calli (va_runV (As := [.int (xs (i + 1)), .int (bI (!decide (xs (i + 2) = 0)))]) (rest := []) ⟨hx, hb, hml, hown, hts⟩ (c_X2_doubt l D cI cZ cG cJ (fun q : Nat => s.heap.size ≤ q) bd (WX ad cI cZ u_474.1.1 u_474.1.2.1 u_474.1.2.2.1 u_474.1.2.2.2.1 u_474.1.2.2.2.2.1 u_474.1.2.2.2.2.2.1 u_474.1.2.2.2.2.2.2.1 u_474.1.2.2.2.2.2.2.2.1 u_474.1.2.2.2.2.2.2.2.2 (OL ao cJ u_474.2 :: wr3)) th c hid g code ans dbt many row heap our the (xs (i + 1)) (!decide (xs (i + 2) = 0)) (hg)) (cwV 2 hts gL_law_X2_doubt rfl rfl rfl (by decide +kernel) ⟨Nat.le_of_ble_eq_true rfl, Nat.le_of_ble_eq_true rfl⟩) (preV (ci := 2) (q0 := 0) hB hS hP9 hD9 rfl rfl) rfl rfl hl.1 rfl (lv_room (Nat.le_of_ble_eq_true rfl)) dL_law_500 ⟨Nat.le_trans (by first | exact Nat.le_add_right _ _ | exact Nat.add_le_add_left (by decide) _ | (simp only [Nat.add_assoc]; exact Nat.add_le_add_left (by decide) _)) hk3, Nat.le_trans (by first | exact Nat.le_add_right _ _ | exact Nat.add_le_add_left (by decide) _ | (simp only [Nat.add_assoc]; exact Nat.add_le_add_left (by decide) _)) hs3⟩) hS (fun q _ h => h) (fun q h => h) (fun r_500 u_500 t9 H1 locs1 ht9 hvm9 hw_500 hBw hz9 hk9 hS => ?_)
              obtain ⟨hP, hD⟩ := hBw
              rw [ht9] at hP
              generalize H1 = H at hP hS ⊢
              generalize locs1 = locs at hS ⊢
              replace hP := mx_P hP
              replace hD := mx_D hD
              replace hP : va_P D vwCl (WX ad cI cZ u_474.1.1 u_474.1.2.1 u_474.1.2.2.1 u_474.1.2.2.2.1 u_474.1.2.2.2.2.1 u_474.1.2.2.2.2.2.1 u_474.1.2.2.2.2.2.2.1 u_474.1.2.2.2.2.2.2.2.1 u_474.1.2.2.2.2.2.2.2.2 (OL ao cJ u_474.2 :: WM bd cI u_500.1 c hid g code ans u_500.2 many row heap our the wr3)) H := hP
              replace hD : va_D (fun q : Nat => s.heap.size ≤ q) (WX ad cI cZ u_474.1.1 u_474.1.2.1 u_474.1.2.2.1 u_474.1.2.2.2.1 u_474.1.2.2.2.2.1 u_474.1.2.2.2.2.2.1 u_474.1.2.2.2.2.2.2.1 u_474.1.2.2.2.2.2.2.2.1 u_474.1.2.2.2.2.2.2.2.2 (OL ao cJ u_474.2 :: WM bd cI u_500.1 c hid g code ans u_500.2 many row heap our the wr3)) := hD
              have hkey := key_doubt hI hw_474 hw_500
              obtain ⟨⟨c2, g2, hid2, code2, ans2, dbt2, opn2, ply2, hps2⟩, ov2⟩ := u_474
              obtain ⟨ek, eo, q1, q2, q3, q4, q5, q6, hI2⟩ := hkey
              change c2 = _ at q1
              change g2 = _ at q2
              change hid2 = _ at q3
              change code2 = _ at q4
              change ans2 = _ at q5
              change dbt2 = _ at q6
              replace q1 := Eq.symm q1; replace q2 := Eq.symm q2; replace q3 := Eq.symm q3; replace q4 := Eq.symm q4; replace q5 := Eq.symm q5; replace q6 := Eq.symm q6
              subst q1; subst q2; subst q3; subst q4; subst q5; subst q6
              replace hP : va_P D vwCl (WX ad cI cZ c g hid code ans u_500.2 opn2 ply2 hps2 (OL ao cJ ov2 :: WM bd cI u_500.1 c hid g code ans u_500.2 many row heap our the wr3)) H := hP
              replace hD : va_D (fun q : Nat => s.heap.size ≤ q) (WX ad cI cZ c g hid code ans u_500.2 opn2 ply2 hps2 (OL ao cJ ov2 :: WM bd cI u_500.1 c hid g code ans u_500.2 many row heap our the wr3)) := hD
              replace hI : XI (c) (g) (hid) (code) (ans) (u_500.2) opn2 := hI2
              replace eo : r_474 = nI 0 → ov2 0 = _ := eo
              refine lv_istore (lv' := [(6, .int (r_500)), (5, .int (r_474)), (0, .ref (b)), (1, .ref (ad 0)), (2, .ref (bd 0)), (3, .ref (ao)), (4, .int (nI (i)))]) hx hb dL_law_503 hl (by decide) rfl (fun ls hl => ?_)
              refine lv_aload_n hx hb dL_law_505 rfl (lv_at hl 4 rfl) ?_
              have hP9 := xm_P hP
              have hD9 := xm_D hD
              refine x_csi (va_runV (As := []) (rest := []) ⟨hx, hb, hml, hown, hts⟩ (c_X2_thrown l D cI cZ cG cJ (fun q : Nat => s.heap.size ≤ q) bd (WX ad cI cZ c g hid code ans u_500.2 opn2 ply2 hps2 (OL ao cJ ov2 :: wr3)) u_500.1 c hid g code ans u_500.2 many row heap our the ) (cwV 0 hts gL_law_X2_thrown rfl rfl rfl (by decide +kernel) ⟨Nat.le_of_ble_eq_true rfl, Nat.le_of_ble_eq_true rfl⟩) (preV (ci := 2) (q0 := 0) hB hS hP9 hD9 rfl rfl) rfl rfl hl.1 rfl (lv_room (Nat.le_of_ble_eq_true rfl)) dL_law_506 ⟨Nat.le_trans (by first | exact Nat.le_add_right _ _ | exact Nat.add_le_add_left (by decide) _ | (simp only [Nat.add_assoc]; exact Nat.add_le_add_left (by decide) _)) hk3, Nat.le_trans (by first | exact Nat.le_add_right _ _ | exact Nat.add_le_add_left (by decide) _ | (simp only [Nat.add_assoc]; exact Nat.add_le_add_left (by decide) _)) hs3⟩) ?_
              refine lv_iload hx hb dL_law_509 (lv_at hl 1 rfl) ?_
              refine lv_icmp_eq (tgt := 516) hx hb dL_law_511 (by decide) (fun c511 => ?_) (fun c511 => absurd c511 (fun q => q ek.symm))
              refine lv_iload hx hb dL_law_516 (lv_at hl 1 rfl) ?_
              refine lv_if_ne (tgt := 540) hx hb dL_law_518 (by decide) (fun c518 => ?_) (fun c518 => ?_)
              · skip
                refine lv_goto (tgt := 1338) hx hb dL_law_540 (by decide) ?_
                refine lv_iinc (v := nI (i + 4)) (lv' := [(4, .int (nI (i + 4))), (6, .int (r_500)), (5, .int (r_474)), (0, .ref (b)), (1, .ref (ad 0)), (2, .ref (bd 0)), (3, .ref (ao))]) hx hb dL_law_1338 hl (k := 6) rfl (nI_add _ _) (by decide) rfl (fun ls hl => ?_)
                refine lv_goto (tgt := 23) hx hb dL_law_1341 (by decide) ?_
                exact ih23 (n := n + 1) (i := i + 4) (c := c) (g := g) (hid := hid) (code := code) (ans := ans) (dbt := u_500.2) (opn := opn2) (ply := ply2) (hps := hps2) (ov := ov2) (th := u_500.1) (many := many) (row := row) (heap := heap) (our := our) (the := the) (kc := _) (ks := _) (ls := ls) (hl := lv_sub hl [3, 4, 5, 6, 0] rfl) (H := H) (locs := locs) (hP := hP) (hD := hD) (hS := hS) (hinv := by
                    exact ⟨hn5, hi2, hi4, hI, room_n h5 hn5 (by first | exact Nat.le_add_right _ _ | exact Nat.add_le_add_left (by decide) _ | (simp only [Nat.add_assoc]; exact Nat.add_le_add_left (by decide) _)), room_n h6 hn5 (by first | exact Nat.le_add_right _ _ | exact Nat.add_le_add_left (by decide) _ | (simp only [Nat.add_assoc]; exact Nat.add_le_add_left (by decide) _))⟩
                  ) (hn9 := by
                    exact mu_n hn9 hn5
                  )
              · skip
                refine lv_aload_n hx hb dL_law_521 rfl (lv_at hl 5 rfl) ?_
                refine lv_iconst (v := nI (0)) hx hb dL_law_522 (by decide) ?_
                refine va_lald hx hb hK hP 7 3 rfl rfl (vp_in_nI (n := 0) (N := 1) (by decide) (by decide)) dL_law_523 ?_
                refine lv_iload hx hb dL_law_524 (lv_at hl 0 rfl) ?_
                refine lv_if_eq (tgt := 533) hx hb dL_law_526 (by decide) (fun c526 => ?_) (fun c526 => ?_)
                · skip
                  refine lv_lconst (v := 0) hx hb dL_law_533 (by decide) ?_
                  refine W.lcmp hx hb dL_law_534 ?_
                  refine x_ti (y := 0) (by rw [nI_clamp (by decide), eo c518]; first | (rw [if_pos c526]; exact lg_cmp_self _) | (rw [if_neg c526]; exact lg_cmp_self _)) ?_
                  refine lv_if_eq (tgt := 540) hx hb dL_law_535 (by decide) (fun c535 => ?_) (fun c535 => absurd c535 (fun q => q rfl))
                  refine lv_goto (tgt := 1338) hx hb dL_law_540 (by decide) ?_
                  refine lv_iinc (v := nI (i + 4)) (lv' := [(4, .int (nI (i + 4))), (6, .int (r_500)), (5, .int (r_474)), (0, .ref (b)), (1, .ref (ad 0)), (2, .ref (bd 0)), (3, .ref (ao))]) hx hb dL_law_1338 hl (k := 6) rfl (nI_add _ _) (by decide) rfl (fun ls hl => ?_)
                  refine lv_goto (tgt := 23) hx hb dL_law_1341 (by decide) ?_
                  exact ih23 (n := n + 1) (i := i + 4) (c := c) (g := g) (hid := hid) (code := code) (ans := ans) (dbt := u_500.2) (opn := opn2) (ply := ply2) (hps := hps2) (ov := ov2) (th := u_500.1) (many := many) (row := row) (heap := heap) (our := our) (the := the) (kc := _) (ks := _) (ls := ls) (hl := lv_sub hl [3, 4, 5, 6, 0] rfl) (H := H) (locs := locs) (hP := hP) (hD := hD) (hS := hS) (hinv := by
                      exact ⟨hn5, hi2, hi4, hI, room_n h5 hn5 (by first | exact Nat.le_add_right _ _ | exact Nat.add_le_add_left (by decide) _ | (simp only [Nat.add_assoc]; exact Nat.add_le_add_left (by decide) _)), room_n h6 hn5 (by first | exact Nat.le_add_right _ _ | exact Nat.add_le_add_left (by decide) _ | (simp only [Nat.add_assoc]; exact Nat.add_le_add_left (by decide) _))⟩
                    ) (hn9 := by
                      exact mu_n hn9 hn5
                    )
                · skip
                  refine lv_lconst (v := 1) hx hb dL_law_529 (by decide) ?_
                  refine lv_goto (tgt := 534) hx hb dL_law_530 (by decide) ?_
                  refine W.lcmp hx hb dL_law_534 ?_
                  refine x_ti (y := 0) (by rw [nI_clamp (by decide), eo c518]; first | (rw [if_pos c526]; exact lg_cmp_self _) | (rw [if_neg c526]; exact lg_cmp_self _)) ?_
                  refine lv_if_eq (tgt := 540) hx hb dL_law_535 (by decide) (fun c535 => ?_) (fun c535 => absurd c535 (fun q => q rfl))
                  refine lv_goto (tgt := 1338) hx hb dL_law_540 (by decide) ?_
                  refine lv_iinc (v := nI (i + 4)) (lv' := [(4, .int (nI (i + 4))), (6, .int (r_500)), (5, .int (r_474)), (0, .ref (b)), (1, .ref (ad 0)), (2, .ref (bd 0)), (3, .ref (ao))]) hx hb dL_law_1338 hl (k := 6) rfl (nI_add _ _) (by decide) rfl (fun ls hl => ?_)
                  refine lv_goto (tgt := 23) hx hb dL_law_1341 (by decide) ?_
                  exact ih23 (n := n + 1) (i := i + 4) (c := c) (g := g) (hid := hid) (code := code) (ans := ans) (dbt := u_500.2) (opn := opn2) (ply := ply2) (hps := hps2) (ov := ov2) (th := u_500.1) (many := many) (row := row) (heap := heap) (our := our) (the := the) (kc := _) (ks := _) (ls := ls) (hl := lv_sub hl [3, 4, 5, 6, 0] rfl) (H := H) (locs := locs) (hP := hP) (hD := hD) (hS := hS) (hinv := by
                      exact ⟨hn5, hi2, hi4, hI, room_n h5 hn5 (by first | exact Nat.le_add_right _ _ | exact Nat.add_le_add_left (by decide) _ | (simp only [Nat.add_assoc]; exact Nat.add_le_add_left (by decide) _)), room_n h6 hn5 (by first | exact Nat.le_add_right _ _ | exact Nat.add_le_add_left (by decide) _ | (simp only [Nat.add_assoc]; exact Nat.add_le_add_left (by decide) _))⟩
                    ) (hn9 := by
                      exact mu_n hn9 hn5
                    )
          · skip
            refine lv_iconst (v := nI (1)) hx hb dL_law_468 (by decide) ?_
            refine x_ti (y := bI (!decide (xs (i + 2) = 0))) (by rw [decide_eq_false c465]; rfl) ?_
            refine lv_goto (tgt := 473) hx hb dL_law_469 (by decide) ?_
            refine lv_aload_n hx hb dL_law_473 rfl (lv_at hl 3 rfl) ?_
            refine va_calli (vx_runSW (As := [.ref (ad 0), .int (xs (i + 1)), .int (bI (!decide (xs (i + 2) = 0))), .ref (ao)]) (rest := []) ⟨hx, hb, hml, hown, hts⟩ (c_L_doubt l hfl D cI cZ cG cJ (fun q : Nat => s.heap.size ≤ q) ad ao (WM bd cI th c hid g code ans dbt many row heap our the wr3) (pal_m hpal) c g hid code ans dbt opn ply hps ov (xs (i + 1)) (!decide (xs (i + 2) = 0)) (hI)) (vx_cwSW 4 hts gL_law_L_doubt rfl rfl rfl (by decide +kernel) ⟨Nat.le_of_ble_eq_true rfl, Nat.le_of_ble_eq_true rfl⟩) (preS hB hS hP hD) rfl rfl hl.1 rfl (lv_room (Nat.le_of_ble_eq_true rfl)) dL_law_474 ⟨Nat.le_trans (by first | exact Nat.le_add_right _ _ | exact Nat.add_le_add_left (by decide) _ | (simp only [Nat.add_assoc]; exact Nat.add_le_add_left (by decide) _)) hk3, Nat.le_trans (by first | exact Nat.le_add_right _ _ | exact Nat.add_le_add_left (by decide) _ | (simp only [Nat.add_assoc]; exact Nat.add_le_add_left (by decide) _)) hs3⟩) hS (fun q _ h => h) (fun q h => h) (fun r_474 u_474 t9 H1 locs1 ht9 hvm9 hw_474 hBw hz9 hk9 hS => ?_)
            obtain ⟨hP, hD⟩ := hBw
            rw [ht9] at hP
            generalize H1 = H at hP hS ⊢
            generalize locs1 = locs at hS ⊢
            replace hP : va_P D vwCl (WX ad cI cZ u_474.1.1 u_474.1.2.1 u_474.1.2.2.1 u_474.1.2.2.2.1 u_474.1.2.2.2.2.1 u_474.1.2.2.2.2.2.1 u_474.1.2.2.2.2.2.2.1 u_474.1.2.2.2.2.2.2.2.1 u_474.1.2.2.2.2.2.2.2.2 (OL ao cJ u_474.2 :: WM bd cI th c hid g code ans dbt many row heap our the wr3)) H := hP
            replace hD : va_D (fun q : Nat => s.heap.size ≤ q) (WX ad cI cZ u_474.1.1 u_474.1.2.1 u_474.1.2.2.1 u_474.1.2.2.2.1 u_474.1.2.2.2.2.1 u_474.1.2.2.2.2.2.1 u_474.1.2.2.2.2.2.2.1 u_474.1.2.2.2.2.2.2.2.1 u_474.1.2.2.2.2.2.2.2.2 (OL ao cJ u_474.2 :: WM bd cI th c hid g code ans dbt many row heap our the wr3)) := hD
            refine lv_istore (lv' := [(5, .int (r_474)), (0, .ref (b)), (1, .ref (ad 0)), (2, .ref (bd 0)), (3, .ref (ao)), (4, .int (nI (i)))]) hx hb dL_law_477 hl (by decide) rfl (fun ls hl => ?_)
            refine lv_aload_n hx hb dL_law_479 rfl (lv_at hl 3 rfl) ?_
            refine lv_aload_n hx hb dL_law_480 rfl (lv_at hl 1 rfl) ?_
            refine lv_iload hx hb dL_law_481 (lv_at hl 5 rfl) ?_
            refine lv_iconst (v := nI (1)) hx hb dL_law_483 (by decide) ?_
            refine lv_iadd hx hb dL_law_484 ?_
            refine x_ti (nI_add _ _) ?_
            refine x_sld hx hb hX hbl hbA hS (i := i + 1) (by first | exact hj0 | exact hj1 | exact hj2 | exact hj3) hL31 dL_law_485 ?_
            refine lv_aload_n hx hb dL_law_486 rfl (lv_at hl 1 rfl) ?_
            refine lv_iload hx hb dL_law_487 (lv_at hl 5 rfl) ?_
            refine lv_iconst (v := nI (2)) hx hb dL_law_489 (by decide) ?_
            refine lv_iadd hx hb dL_law_490 ?_
            refine x_ti (nI_add _ _) ?_
            refine x_sld hx hb hX hbl hbA hS (i := i + 2) (by first | exact hj0 | exact hj1 | exact hj2 | exact hj3) hL31 dL_law_491 ?_
            refine lv_if_eq (tgt := 499) hx hb dL_law_492 (by decide) (fun c492 => ?_) (fun c492 => ?_)
            · skip
              refine lv_iconst (v := nI (0)) hx hb dL_law_499 (by decide) ?_
              refine x_ti (y := bI (!decide (xs (i + 2) = 0))) (by rw [decide_eq_true c492]; rfl) ?_
              have hP9 := xm_P hP
              have hD9 := xm_D hD
              refine va_calli (va_runV (As := [.int (xs (i + 1)), .int (bI (!decide (xs (i + 2) = 0)))]) (rest := []) ⟨hx, hb, hml, hown, hts⟩ (c_X2_doubt l D cI cZ cG cJ (fun q : Nat => s.heap.size ≤ q) bd (WX ad cI cZ u_474.1.1 u_474.1.2.1 u_474.1.2.2.1 u_474.1.2.2.2.1 u_474.1.2.2.2.2.1 u_474.1.2.2.2.2.2.1 u_474.1.2.2.2.2.2.2.1 u_474.1.2.2.2.2.2.2.2.1 u_474.1.2.2.2.2.2.2.2.2 (OL ao cJ u_474.2 :: wr3)) th c hid g code ans dbt many row heap our the (xs (i + 1)) (!decide (xs (i + 2) = 0)) (hg)) (cwV 2 hts gL_law_X2_doubt rfl rfl rfl (by decide +kernel) ⟨Nat.le_of_ble_eq_true rfl, Nat.le_of_ble_eq_true rfl⟩) (preV (ci := 2) (q0 := 0) hB hS hP9 hD9 rfl rfl) rfl rfl hl.1 rfl (lv_room (Nat.le_of_ble_eq_true rfl)) dL_law_500 ⟨Nat.le_trans (by first | exact Nat.le_add_right _ _ | exact Nat.add_le_add_left (by decide) _ | (simp only [Nat.add_assoc]; exact Nat.add_le_add_left (by decide) _)) hk3, Nat.le_trans (by first | exact Nat.le_add_right _ _ | exact Nat.add_le_add_left (by decide) _ | (simp only [Nat.add_assoc]; exact Nat.add_le_add_left (by decide) _)) hs3⟩) hS (fun q _ h => h) (fun q h => h) (fun r_500 u_500 t9 H1 locs1 ht9 hvm9 hw_500 hBw hz9 hk9 hS => ?_)
              obtain ⟨hP, hD⟩ := hBw
              rw [ht9] at hP
              generalize H1 = H at hP hS ⊢
              generalize locs1 = locs at hS ⊢
              replace hP := mx_P hP
              replace hD := mx_D hD
              replace hP : va_P D vwCl (WX ad cI cZ u_474.1.1 u_474.1.2.1 u_474.1.2.2.1 u_474.1.2.2.2.1 u_474.1.2.2.2.2.1 u_474.1.2.2.2.2.2.1 u_474.1.2.2.2.2.2.2.1 u_474.1.2.2.2.2.2.2.2.1 u_474.1.2.2.2.2.2.2.2.2 (OL ao cJ u_474.2 :: WM bd cI u_500.1 c hid g code ans u_500.2 many row heap our the wr3)) H := hP
              replace hD : va_D (fun q : Nat => s.heap.size ≤ q) (WX ad cI cZ u_474.1.1 u_474.1.2.1 u_474.1.2.2.1 u_474.1.2.2.2.1 u_474.1.2.2.2.2.1 u_474.1.2.2.2.2.2.1 u_474.1.2.2.2.2.2.2.1 u_474.1.2.2.2.2.2.2.2.1 u_474.1.2.2.2.2.2.2.2.2 (OL ao cJ u_474.2 :: WM bd cI u_500.1 c hid g code ans u_500.2 many row heap our the wr3)) := hD
              have hkey := key_doubt hI hw_474 hw_500
              obtain ⟨⟨c2, g2, hid2, code2, ans2, dbt2, opn2, ply2, hps2⟩, ov2⟩ := u_474
              obtain ⟨ek, eo, q1, q2, q3, q4, q5, q6, hI2⟩ := hkey
              change c2 = _ at q1
              change g2 = _ at q2
              change hid2 = _ at q3
              change code2 = _ at q4
              change ans2 = _ at q5
              change dbt2 = _ at q6
              replace q1 := Eq.symm q1; replace q2 := Eq.symm q2; replace q3 := Eq.symm q3; replace q4 := Eq.symm q4; replace q5 := Eq.symm q5; replace q6 := Eq.symm q6
              subst q1; subst q2; subst q3; subst q4; subst q5; subst q6
              replace hP : va_P D vwCl (WX ad cI cZ c g hid code ans u_500.2 opn2 ply2 hps2 (OL ao cJ ov2 :: WM bd cI u_500.1 c hid g code ans u_500.2 many row heap our the wr3)) H := hP
              replace hD : va_D (fun q : Nat => s.heap.size ≤ q) (WX ad cI cZ c g hid code ans u_500.2 opn2 ply2 hps2 (OL ao cJ ov2 :: WM bd cI u_500.1 c hid g code ans u_500.2 many row heap our the wr3)) := hD
              replace hI : XI (c) (g) (hid) (code) (ans) (u_500.2) opn2 := hI2
              replace eo : r_474 = nI 0 → ov2 0 = _ := eo
              refine lv_istore (lv' := [(6, .int (r_500)), (5, .int (r_474)), (0, .ref (b)), (1, .ref (ad 0)), (2, .ref (bd 0)), (3, .ref (ao)), (4, .int (nI (i)))]) hx hb dL_law_503 hl (by decide) rfl (fun ls hl => ?_)
              refine lv_aload_n hx hb dL_law_505 rfl (lv_at hl 4 rfl) ?_
              have hP9 := xm_P hP
              have hD9 := xm_D hD
              refine x_csi (va_runV (As := []) (rest := []) ⟨hx, hb, hml, hown, hts⟩ (c_X2_thrown l D cI cZ cG cJ (fun q : Nat => s.heap.size ≤ q) bd (WX ad cI cZ c g hid code ans u_500.2 opn2 ply2 hps2 (OL ao cJ ov2 :: wr3)) u_500.1 c hid g code ans u_500.2 many row heap our the ) (cwV 0 hts gL_law_X2_thrown rfl rfl rfl (by decide +kernel) ⟨Nat.le_of_ble_eq_true rfl, Nat.le_of_ble_eq_true rfl⟩) (preV (ci := 2) (q0 := 0) hB hS hP9 hD9 rfl rfl) rfl rfl hl.1 rfl (lv_room (Nat.le_of_ble_eq_true rfl)) dL_law_506 ⟨Nat.le_trans (by first | exact Nat.le_add_right _ _ | exact Nat.add_le_add_left (by decide) _ | (simp only [Nat.add_assoc]; exact Nat.add_le_add_left (by decide) _)) hk3, Nat.le_trans (by first | exact Nat.le_add_right _ _ | exact Nat.add_le_add_left (by decide) _ | (simp only [Nat.add_assoc]; exact Nat.add_le_add_left (by decide) _)) hs3⟩) ?_
              refine lv_iload hx hb dL_law_509 (lv_at hl 1 rfl) ?_
              refine lv_icmp_eq (tgt := 516) hx hb dL_law_511 (by decide) (fun c511 => ?_) (fun c511 => absurd c511 (fun q => q ek.symm))
              refine lv_iload hx hb dL_law_516 (lv_at hl 1 rfl) ?_
              refine lv_if_ne (tgt := 540) hx hb dL_law_518 (by decide) (fun c518 => ?_) (fun c518 => ?_)
              · skip
                refine lv_goto (tgt := 1338) hx hb dL_law_540 (by decide) ?_
                refine lv_iinc (v := nI (i + 4)) (lv' := [(4, .int (nI (i + 4))), (6, .int (r_500)), (5, .int (r_474)), (0, .ref (b)), (1, .ref (ad 0)), (2, .ref (bd 0)), (3, .ref (ao))]) hx hb dL_law_1338 hl (k := 6) rfl (nI_add _ _) (by decide) rfl (fun ls hl => ?_)
                refine lv_goto (tgt := 23) hx hb dL_law_1341 (by decide) ?_
                exact ih23 (n := n + 1) (i := i + 4) (c := c) (g := g) (hid := hid) (code := code) (ans := ans) (dbt := u_500.2) (opn := opn2) (ply := ply2) (hps := hps2) (ov := ov2) (th := u_500.1) (many := many) (row := row) (heap := heap) (our := our) (the := the) (kc := _) (ks := _) (ls := ls) (hl := lv_sub hl [3, 4, 5, 6, 0] rfl) (H := H) (locs := locs) (hP := hP) (hD := hD) (hS := hS) (hinv := by
                    exact ⟨hn5, hi2, hi4, hI, room_n h5 hn5 (by first | exact Nat.le_add_right _ _ | exact Nat.add_le_add_left (by decide) _ | (simp only [Nat.add_assoc]; exact Nat.add_le_add_left (by decide) _)), room_n h6 hn5 (by first | exact Nat.le_add_right _ _ | exact Nat.add_le_add_left (by decide) _ | (simp only [Nat.add_assoc]; exact Nat.add_le_add_left (by decide) _))⟩
                  ) (hn9 := by
                    exact mu_n hn9 hn5
                  )
              · skip
                refine lv_aload_n hx hb dL_law_521 rfl (lv_at hl 5 rfl) ?_
                refine lv_iconst (v := nI (0)) hx hb dL_law_522 (by decide) ?_
                refine va_lald hx hb hK hP 7 3 rfl rfl (vp_in_nI (n := 0) (N := 1) (by decide) (by decide)) dL_law_523 ?_
                refine lv_iload hx hb dL_law_524 (lv_at hl 0 rfl) ?_
                refine lv_if_eq (tgt := 533) hx hb dL_law_526 (by decide) (fun c526 => ?_) (fun c526 => ?_)
                · skip
                  refine lv_lconst (v := 0) hx hb dL_law_533 (by decide) ?_
                  refine W.lcmp hx hb dL_law_534 ?_
                  refine x_ti (y := 0) (by rw [nI_clamp (by decide), eo c518]; first | (rw [if_pos c526]; exact lg_cmp_self _) | (rw [if_neg c526]; exact lg_cmp_self _)) ?_
                  refine lv_if_eq (tgt := 540) hx hb dL_law_535 (by decide) (fun c535 => ?_) (fun c535 => absurd c535 (fun q => q rfl))
                  refine lv_goto (tgt := 1338) hx hb dL_law_540 (by decide) ?_
                  refine lv_iinc (v := nI (i + 4)) (lv' := [(4, .int (nI (i + 4))), (6, .int (r_500)), (5, .int (r_474)), (0, .ref (b)), (1, .ref (ad 0)), (2, .ref (bd 0)), (3, .ref (ao))]) hx hb dL_law_1338 hl (k := 6) rfl (nI_add _ _) (by decide) rfl (fun ls hl => ?_)
                  refine lv_goto (tgt := 23) hx hb dL_law_1341 (by decide) ?_
                  exact ih23 (n := n + 1) (i := i + 4) (c := c) (g := g) (hid := hid) (code := code) (ans := ans) (dbt := u_500.2) (opn := opn2) (ply := ply2) (hps := hps2) (ov := ov2) (th := u_500.1) (many := many) (row := row) (heap := heap) (our := our) (the := the) (kc := _) (ks := _) (ls := ls) (hl := lv_sub hl [3, 4, 5, 6, 0] rfl) (H := H) (locs := locs) (hP := hP) (hD := hD) (hS := hS) (hinv := by
                      exact ⟨hn5, hi2, hi4, hI, room_n h5 hn5 (by first | exact Nat.le_add_right _ _ | exact Nat.add_le_add_left (by decide) _ | (simp only [Nat.add_assoc]; exact Nat.add_le_add_left (by decide) _)), room_n h6 hn5 (by first | exact Nat.le_add_right _ _ | exact Nat.add_le_add_left (by decide) _ | (simp only [Nat.add_assoc]; exact Nat.add_le_add_left (by decide) _))⟩
                    ) (hn9 := by
                      exact mu_n hn9 hn5
                    )
                · skip
                  refine lv_lconst (v := 1) hx hb dL_law_529 (by decide) ?_
                  refine lv_goto (tgt := 534) hx hb dL_law_530 (by decide) ?_
                  refine W.lcmp hx hb dL_law_534 ?_
                  refine x_ti (y := 0) (by rw [nI_clamp (by decide), eo c518]; first | (rw [if_pos c526]; exact lg_cmp_self _) | (rw [if_neg c526]; exact lg_cmp_self _)) ?_
                  refine lv_if_eq (tgt := 540) hx hb dL_law_535 (by decide) (fun c535 => ?_) (fun c535 => absurd c535 (fun q => q rfl))
                  refine lv_goto (tgt := 1338) hx hb dL_law_540 (by decide) ?_
                  refine lv_iinc (v := nI (i + 4)) (lv' := [(4, .int (nI (i + 4))), (6, .int (r_500)), (5, .int (r_474)), (0, .ref (b)), (1, .ref (ad 0)), (2, .ref (bd 0)), (3, .ref (ao))]) hx hb dL_law_1338 hl (k := 6) rfl (nI_add _ _) (by decide) rfl (fun ls hl => ?_)
                  refine lv_goto (tgt := 23) hx hb dL_law_1341 (by decide) ?_
                  exact ih23 (n := n + 1) (i := i + 4) (c := c) (g := g) (hid := hid) (code := code) (ans := ans) (dbt := u_500.2) (opn := opn2) (ply := ply2) (hps := hps2) (ov := ov2) (th := u_500.1) (many := many) (row := row) (heap := heap) (our := our) (the := the) (kc := _) (ks := _) (ls := ls) (hl := lv_sub hl [3, 4, 5, 6, 0] rfl) (H := H) (locs := locs) (hP := hP) (hD := hD) (hS := hS) (hinv := by
                      exact ⟨hn5, hi2, hi4, hI, room_n h5 hn5 (by first | exact Nat.le_add_right _ _ | exact Nat.add_le_add_left (by decide) _ | (simp only [Nat.add_assoc]; exact Nat.add_le_add_left (by decide) _)), room_n h6 hn5 (by first | exact Nat.le_add_right _ _ | exact Nat.add_le_add_left (by decide) _ | (simp only [Nat.add_assoc]; exact Nat.add_le_add_left (by decide) _))⟩
                    ) (hn9 := by
                      exact mu_n hn9 hn5
                    )
            · skip
              refine lv_iconst (v := nI (1)) hx hb dL_law_495 (by decide) ?_
              refine x_ti (y := bI (!decide (xs (i + 2) = 0))) (by rw [decide_eq_false c492]; rfl) ?_
              refine lv_goto (tgt := 500) hx hb dL_law_496 (by decide) ?_
              have hP9 := xm_P hP
              have hD9 := xm_D hD
              refine va_calli (va_runV (As := [.int (xs (i + 1)), .int (bI (!decide (xs (i + 2) = 0)))]) (rest := []) ⟨hx, hb, hml, hown, hts⟩ (c_X2_doubt l D cI cZ cG cJ (fun q : Nat => s.heap.size ≤ q) bd (WX ad cI cZ u_474.1.1 u_474.1.2.1 u_474.1.2.2.1 u_474.1.2.2.2.1 u_474.1.2.2.2.2.1 u_474.1.2.2.2.2.2.1 u_474.1.2.2.2.2.2.2.1 u_474.1.2.2.2.2.2.2.2.1 u_474.1.2.2.2.2.2.2.2.2 (OL ao cJ u_474.2 :: wr3)) th c hid g code ans dbt many row heap our the (xs (i + 1)) (!decide (xs (i + 2) = 0)) (hg)) (cwV 2 hts gL_law_X2_doubt rfl rfl rfl (by decide +kernel) ⟨Nat.le_of_ble_eq_true rfl, Nat.le_of_ble_eq_true rfl⟩) (preV (ci := 2) (q0 := 0) hB hS hP9 hD9 rfl rfl) rfl rfl hl.1 rfl (lv_room (Nat.le_of_ble_eq_true rfl)) dL_law_500 ⟨Nat.le_trans (by first | exact Nat.le_add_right _ _ | exact Nat.add_le_add_left (by decide) _ | (simp only [Nat.add_assoc]; exact Nat.add_le_add_left (by decide) _)) hk3, Nat.le_trans (by first | exact Nat.le_add_right _ _ | exact Nat.add_le_add_left (by decide) _ | (simp only [Nat.add_assoc]; exact Nat.add_le_add_left (by decide) _)) hs3⟩) hS (fun q _ h => h) (fun q h => h) (fun r_500 u_500 t9 H1 locs1 ht9 hvm9 hw_500 hBw hz9 hk9 hS => ?_)
              obtain ⟨hP, hD⟩ := hBw
              rw [ht9] at hP
              generalize H1 = H at hP hS ⊢
              generalize locs1 = locs at hS ⊢
              replace hP := mx_P hP
              replace hD := mx_D hD
              replace hP : va_P D vwCl (WX ad cI cZ u_474.1.1 u_474.1.2.1 u_474.1.2.2.1 u_474.1.2.2.2.1 u_474.1.2.2.2.2.1 u_474.1.2.2.2.2.2.1 u_474.1.2.2.2.2.2.2.1 u_474.1.2.2.2.2.2.2.2.1 u_474.1.2.2.2.2.2.2.2.2 (OL ao cJ u_474.2 :: WM bd cI u_500.1 c hid g code ans u_500.2 many row heap our the wr3)) H := hP
              replace hD : va_D (fun q : Nat => s.heap.size ≤ q) (WX ad cI cZ u_474.1.1 u_474.1.2.1 u_474.1.2.2.1 u_474.1.2.2.2.1 u_474.1.2.2.2.2.1 u_474.1.2.2.2.2.2.1 u_474.1.2.2.2.2.2.2.1 u_474.1.2.2.2.2.2.2.2.1 u_474.1.2.2.2.2.2.2.2.2 (OL ao cJ u_474.2 :: WM bd cI u_500.1 c hid g code ans u_500.2 many row heap our the wr3)) := hD
              have hkey := key_doubt hI hw_474 hw_500
              obtain ⟨⟨c2, g2, hid2, code2, ans2, dbt2, opn2, ply2, hps2⟩, ov2⟩ := u_474
              obtain ⟨ek, eo, q1, q2, q3, q4, q5, q6, hI2⟩ := hkey
              change c2 = _ at q1
              change g2 = _ at q2
              change hid2 = _ at q3
              change code2 = _ at q4
              change ans2 = _ at q5
              change dbt2 = _ at q6
              replace q1 := Eq.symm q1; replace q2 := Eq.symm q2; replace q3 := Eq.symm q3; replace q4 := Eq.symm q4; replace q5 := Eq.symm q5; replace q6 := Eq.symm q6
              subst q1; subst q2; subst q3; subst q4; subst q5; subst q6
              replace hP : va_P D vwCl (WX ad cI cZ c g hid code ans u_500.2 opn2 ply2 hps2 (OL ao cJ ov2 :: WM bd cI u_500.1 c hid g code ans u_500.2 many row heap our the wr3)) H := hP
              replace hD : va_D (fun q : Nat => s.heap.size ≤ q) (WX ad cI cZ c g hid code ans u_500.2 opn2 ply2 hps2 (OL ao cJ ov2 :: WM bd cI u_500.1 c hid g code ans u_500.2 many row heap our the wr3)) := hD
              replace hI : XI (c) (g) (hid) (code) (ans) (u_500.2) opn2 := hI2
              replace eo : r_474 = nI 0 → ov2 0 = _ := eo
              refine lv_istore (lv' := [(6, .int (r_500)), (5, .int (r_474)), (0, .ref (b)), (1, .ref (ad 0)), (2, .ref (bd 0)), (3, .ref (ao)), (4, .int (nI (i)))]) hx hb dL_law_503 hl (by decide) rfl (fun ls hl => ?_)
              refine lv_aload_n hx hb dL_law_505 rfl (lv_at hl 4 rfl) ?_
              have hP9 := xm_P hP
              have hD9 := xm_D hD
              refine x_csi (va_runV (As := []) (rest := []) ⟨hx, hb, hml, hown, hts⟩ (c_X2_thrown l D cI cZ cG cJ (fun q : Nat => s.heap.size ≤ q) bd (WX ad cI cZ c g hid code ans u_500.2 opn2 ply2 hps2 (OL ao cJ ov2 :: wr3)) u_500.1 c hid g code ans u_500.2 many row heap our the ) (cwV 0 hts gL_law_X2_thrown rfl rfl rfl (by decide +kernel) ⟨Nat.le_of_ble_eq_true rfl, Nat.le_of_ble_eq_true rfl⟩) (preV (ci := 2) (q0 := 0) hB hS hP9 hD9 rfl rfl) rfl rfl hl.1 rfl (lv_room (Nat.le_of_ble_eq_true rfl)) dL_law_506 ⟨Nat.le_trans (by first | exact Nat.le_add_right _ _ | exact Nat.add_le_add_left (by decide) _ | (simp only [Nat.add_assoc]; exact Nat.add_le_add_left (by decide) _)) hk3, Nat.le_trans (by first | exact Nat.le_add_right _ _ | exact Nat.add_le_add_left (by decide) _ | (simp only [Nat.add_assoc]; exact Nat.add_le_add_left (by decide) _)) hs3⟩) ?_
              refine lv_iload hx hb dL_law_509 (lv_at hl 1 rfl) ?_
              refine lv_icmp_eq (tgt := 516) hx hb dL_law_511 (by decide) (fun c511 => ?_) (fun c511 => absurd c511 (fun q => q ek.symm))
              refine lv_iload hx hb dL_law_516 (lv_at hl 1 rfl) ?_
              refine lv_if_ne (tgt := 540) hx hb dL_law_518 (by decide) (fun c518 => ?_) (fun c518 => ?_)
              · skip
                refine lv_goto (tgt := 1338) hx hb dL_law_540 (by decide) ?_
                refine lv_iinc (v := nI (i + 4)) (lv' := [(4, .int (nI (i + 4))), (6, .int (r_500)), (5, .int (r_474)), (0, .ref (b)), (1, .ref (ad 0)), (2, .ref (bd 0)), (3, .ref (ao))]) hx hb dL_law_1338 hl (k := 6) rfl (nI_add _ _) (by decide) rfl (fun ls hl => ?_)
                refine lv_goto (tgt := 23) hx hb dL_law_1341 (by decide) ?_
                exact ih23 (n := n + 1) (i := i + 4) (c := c) (g := g) (hid := hid) (code := code) (ans := ans) (dbt := u_500.2) (opn := opn2) (ply := ply2) (hps := hps2) (ov := ov2) (th := u_500.1) (many := many) (row := row) (heap := heap) (our := our) (the := the) (kc := _) (ks := _) (ls := ls) (hl := lv_sub hl [3, 4, 5, 6, 0] rfl) (H := H) (locs := locs) (hP := hP) (hD := hD) (hS := hS) (hinv := by
                    exact ⟨hn5, hi2, hi4, hI, room_n h5 hn5 (by first | exact Nat.le_add_right _ _ | exact Nat.add_le_add_left (by decide) _ | (simp only [Nat.add_assoc]; exact Nat.add_le_add_left (by decide) _)), room_n h6 hn5 (by first | exact Nat.le_add_right _ _ | exact Nat.add_le_add_left (by decide) _ | (simp only [Nat.add_assoc]; exact Nat.add_le_add_left (by decide) _))⟩
                  ) (hn9 := by
                    exact mu_n hn9 hn5
                  )
              · skip
                refine lv_aload_n hx hb dL_law_521 rfl (lv_at hl 5 rfl) ?_
                refine lv_iconst (v := nI (0)) hx hb dL_law_522 (by decide) ?_
                refine va_lald hx hb hK hP 7 3 rfl rfl (vp_in_nI (n := 0) (N := 1) (by decide) (by decide)) dL_law_523 ?_
                refine lv_iload hx hb dL_law_524 (lv_at hl 0 rfl) ?_
                refine lv_if_eq (tgt := 533) hx hb dL_law_526 (by decide) (fun c526 => ?_) (fun c526 => ?_)
                · skip
                  refine lv_lconst (v := 0) hx hb dL_law_533 (by decide) ?_
                  refine W.lcmp hx hb dL_law_534 ?_
                  refine x_ti (y := 0) (by rw [nI_clamp (by decide), eo c518]; first | (rw [if_pos c526]; exact lg_cmp_self _) | (rw [if_neg c526]; exact lg_cmp_self _)) ?_
                  refine lv_if_eq (tgt := 540) hx hb dL_law_535 (by decide) (fun c535 => ?_) (fun c535 => absurd c535 (fun q => q rfl))
                  refine lv_goto (tgt := 1338) hx hb dL_law_540 (by decide) ?_
                  refine lv_iinc (v := nI (i + 4)) (lv' := [(4, .int (nI (i + 4))), (6, .int (r_500)), (5, .int (r_474)), (0, .ref (b)), (1, .ref (ad 0)), (2, .ref (bd 0)), (3, .ref (ao))]) hx hb dL_law_1338 hl (k := 6) rfl (nI_add _ _) (by decide) rfl (fun ls hl => ?_)
                  refine lv_goto (tgt := 23) hx hb dL_law_1341 (by decide) ?_
                  exact ih23 (n := n + 1) (i := i + 4) (c := c) (g := g) (hid := hid) (code := code) (ans := ans) (dbt := u_500.2) (opn := opn2) (ply := ply2) (hps := hps2) (ov := ov2) (th := u_500.1) (many := many) (row := row) (heap := heap) (our := our) (the := the) (kc := _) (ks := _) (ls := ls) (hl := lv_sub hl [3, 4, 5, 6, 0] rfl) (H := H) (locs := locs) (hP := hP) (hD := hD) (hS := hS) (hinv := by
                      exact ⟨hn5, hi2, hi4, hI, room_n h5 hn5 (by first | exact Nat.le_add_right _ _ | exact Nat.add_le_add_left (by decide) _ | (simp only [Nat.add_assoc]; exact Nat.add_le_add_left (by decide) _)), room_n h6 hn5 (by first | exact Nat.le_add_right _ _ | exact Nat.add_le_add_left (by decide) _ | (simp only [Nat.add_assoc]; exact Nat.add_le_add_left (by decide) _))⟩
                    ) (hn9 := by
                      exact mu_n hn9 hn5
                    )
                · skip
                  refine lv_lconst (v := 1) hx hb dL_law_529 (by decide) ?_
                  refine lv_goto (tgt := 534) hx hb dL_law_530 (by decide) ?_
                  refine W.lcmp hx hb dL_law_534 ?_
                  refine x_ti (y := 0) (by rw [nI_clamp (by decide), eo c518]; first | (rw [if_pos c526]; exact lg_cmp_self _) | (rw [if_neg c526]; exact lg_cmp_self _)) ?_
                  refine lv_if_eq (tgt := 540) hx hb dL_law_535 (by decide) (fun c535 => ?_) (fun c535 => absurd c535 (fun q => q rfl))
                  refine lv_goto (tgt := 1338) hx hb dL_law_540 (by decide) ?_
                  refine lv_iinc (v := nI (i + 4)) (lv' := [(4, .int (nI (i + 4))), (6, .int (r_500)), (5, .int (r_474)), (0, .ref (b)), (1, .ref (ad 0)), (2, .ref (bd 0)), (3, .ref (ao))]) hx hb dL_law_1338 hl (k := 6) rfl (nI_add _ _) (by decide) rfl (fun ls hl => ?_)
                  refine lv_goto (tgt := 23) hx hb dL_law_1341 (by decide) ?_
                  exact ih23 (n := n + 1) (i := i + 4) (c := c) (g := g) (hid := hid) (code := code) (ans := ans) (dbt := u_500.2) (opn := opn2) (ply := ply2) (hps := hps2) (ov := ov2) (th := u_500.1) (many := many) (row := row) (heap := heap) (our := our) (the := the) (kc := _) (ks := _) (ls := ls) (hl := lv_sub hl [3, 4, 5, 6, 0] rfl) (H := H) (locs := locs) (hP := hP) (hD := hD) (hS := hS) (hinv := by
                      exact ⟨hn5, hi2, hi4, hI, room_n h5 hn5 (by first | exact Nat.le_add_right _ _ | exact Nat.add_le_add_left (by decide) _ | (simp only [Nat.add_assoc]; exact Nat.add_le_add_left (by decide) _)), room_n h6 hn5 (by first | exact Nat.le_add_right _ _ | exact Nat.add_le_add_left (by decide) _ | (simp only [Nat.add_assoc]; exact Nat.add_le_add_left (by decide) _))⟩
                    ) (hn9 := by
                      exact mu_n hn9 hn5
                    )
        · refine x_ti (y := nI 6) hwj ?_
          refine lv_tableIn (tgt := 543) (off := 504) hx hb dL_law_39 (by decide) (by decide) rfl (by decide) ?_
          refine lv_aload_n hx hb dL_law_543 rfl (lv_at hl 1 rfl) ?_
          refine lv_aload_n hx hb dL_law_544 rfl (lv_at hl 3 rfl) ?_
          refine va_calli (vx_runSW (As := [.ref (ad 0), .ref (ao)]) (rest := []) ⟨hx, hb, hml, hown, hts⟩ (c_L_forget l hfl D cI cZ cG cJ (fun q : Nat => s.heap.size ≤ q) ad ao (WM bd cI th c hid g code ans dbt many row heap our the wr3) (pal_m hpal) c g hid code ans dbt opn ply hps ov (hI)) (vx_cwSW 2 hts gL_law_L_forget rfl rfl rfl (by decide +kernel) ⟨Nat.le_of_ble_eq_true rfl, Nat.le_of_ble_eq_true rfl⟩) (preS hB hS hP hD) rfl rfl hl.1 rfl (lv_room (Nat.le_of_ble_eq_true rfl)) dL_law_545 ⟨Nat.le_trans (by first | exact Nat.le_add_right _ _ | exact Nat.add_le_add_left (by decide) _ | (simp only [Nat.add_assoc]; exact Nat.add_le_add_left (by decide) _)) hk3, Nat.le_trans (by first | exact Nat.le_add_right _ _ | exact Nat.add_le_add_left (by decide) _ | (simp only [Nat.add_assoc]; exact Nat.add_le_add_left (by decide) _)) hs3⟩) hS (fun q _ h => h) (fun q h => h) (fun r_545 u_545 t9 H1 locs1 ht9 hvm9 hw_545 hBw hz9 hk9 hS => ?_)
          obtain ⟨hP, hD⟩ := hBw
          rw [ht9] at hP
          generalize H1 = H at hP hS ⊢
          generalize locs1 = locs at hS ⊢
          replace hP : va_P D vwCl (WX ad cI cZ u_545.1.1 u_545.1.2.1 u_545.1.2.2.1 u_545.1.2.2.2.1 u_545.1.2.2.2.2.1 u_545.1.2.2.2.2.2.1 u_545.1.2.2.2.2.2.2.1 u_545.1.2.2.2.2.2.2.2.1 u_545.1.2.2.2.2.2.2.2.2 (OL ao cJ u_545.2 :: WM bd cI th c hid g code ans dbt many row heap our the wr3)) H := hP
          replace hD : va_D (fun q : Nat => s.heap.size ≤ q) (WX ad cI cZ u_545.1.1 u_545.1.2.1 u_545.1.2.2.1 u_545.1.2.2.2.1 u_545.1.2.2.2.2.1 u_545.1.2.2.2.2.2.1 u_545.1.2.2.2.2.2.2.1 u_545.1.2.2.2.2.2.2.2.1 u_545.1.2.2.2.2.2.2.2.2 (OL ao cJ u_545.2 :: WM bd cI th c hid g code ans dbt many row heap our the wr3)) := hD
          refine lv_istore (lv' := [(5, .int (r_545)), (0, .ref (b)), (1, .ref (ad 0)), (2, .ref (bd 0)), (3, .ref (ao)), (4, .int (nI (i)))]) hx hb dL_law_548 hl (by decide) rfl (fun ls hl => ?_)
          refine lv_aload_n hx hb dL_law_550 rfl (lv_at hl 3 rfl) ?_
          have hP9 := xm_P hP
          have hD9 := xm_D hD
          refine va_calli (va_runV (As := []) (rest := []) ⟨hx, hb, hml, hown, hts⟩ (c_X2_forget l D cI cZ cG cJ (fun q : Nat => s.heap.size ≤ q) bd (WX ad cI cZ u_545.1.1 u_545.1.2.1 u_545.1.2.2.1 u_545.1.2.2.2.1 u_545.1.2.2.2.2.1 u_545.1.2.2.2.2.2.1 u_545.1.2.2.2.2.2.2.1 u_545.1.2.2.2.2.2.2.2.1 u_545.1.2.2.2.2.2.2.2.2 (OL ao cJ u_545.2 :: wr3)) th c hid g code ans dbt many row heap our the (hg)) (cwV 0 hts gL_law_X2_forget rfl rfl rfl (by decide +kernel) ⟨Nat.le_of_ble_eq_true rfl, Nat.le_of_ble_eq_true rfl⟩) (preV (ci := 2) (q0 := 0) hB hS hP9 hD9 rfl rfl) rfl rfl hl.1 rfl (lv_room (Nat.le_of_ble_eq_true rfl)) dL_law_551 ⟨Nat.le_trans (by first | exact Nat.le_add_right _ _ | exact Nat.add_le_add_left (by decide) _ | (simp only [Nat.add_assoc]; exact Nat.add_le_add_left (by decide) _)) hk3, Nat.le_trans (by first | exact Nat.le_add_right _ _ | exact Nat.add_le_add_left (by decide) _ | (simp only [Nat.add_assoc]; exact Nat.add_le_add_left (by decide) _)) hs3⟩) hS (fun q _ h => h) (fun q h => h) (fun r_551 u_551 t9 H1 locs1 ht9 hvm9 hw_551 hBw hz9 hk9 hS => ?_)
          obtain ⟨hP, hD⟩ := hBw
          rw [ht9] at hP
          generalize H1 = H at hP hS ⊢
          generalize locs1 = locs at hS ⊢
          replace hP := mx_P hP
          replace hD := mx_D hD
          replace hP : va_P D vwCl (WX ad cI cZ u_545.1.1 u_545.1.2.1 u_545.1.2.2.1 u_545.1.2.2.2.1 u_545.1.2.2.2.2.1 u_545.1.2.2.2.2.2.1 u_545.1.2.2.2.2.2.2.1 u_545.1.2.2.2.2.2.2.2.1 u_545.1.2.2.2.2.2.2.2.2 (OL ao cJ u_545.2 :: WM bd cI u_551.1 c hid u_551.2 code ans dbt many row heap our the wr3)) H := hP
          replace hD : va_D (fun q : Nat => s.heap.size ≤ q) (WX ad cI cZ u_545.1.1 u_545.1.2.1 u_545.1.2.2.1 u_545.1.2.2.2.1 u_545.1.2.2.2.2.1 u_545.1.2.2.2.2.2.1 u_545.1.2.2.2.2.2.2.1 u_545.1.2.2.2.2.2.2.2.1 u_545.1.2.2.2.2.2.2.2.2 (OL ao cJ u_545.2 :: WM bd cI u_551.1 c hid u_551.2 code ans dbt many row heap our the wr3)) := hD
          have hkey := key_forget hI hw_545 hw_551
          obtain ⟨⟨c2, g2, hid2, code2, ans2, dbt2, opn2, ply2, hps2⟩, ov2⟩ := u_545
          obtain ⟨ek, eo, q1, q2, q3, q4, q5, q6, hI2⟩ := hkey
          change c2 = _ at q1
          change g2 = _ at q2
          change hid2 = _ at q3
          change code2 = _ at q4
          change ans2 = _ at q5
          change dbt2 = _ at q6
          replace q1 := Eq.symm q1; replace q2 := Eq.symm q2; replace q3 := Eq.symm q3; replace q4 := Eq.symm q4; replace q5 := Eq.symm q5; replace q6 := Eq.symm q6
          subst q1; subst q2; subst q3; subst q4; subst q5; subst q6
          replace hP : va_P D vwCl (WX ad cI cZ c u_551.2 hid code ans dbt opn2 ply2 hps2 (OL ao cJ ov2 :: WM bd cI u_551.1 c hid u_551.2 code ans dbt many row heap our the wr3)) H := hP
          replace hD : va_D (fun q : Nat => s.heap.size ≤ q) (WX ad cI cZ c u_551.2 hid code ans dbt opn2 ply2 hps2 (OL ao cJ ov2 :: WM bd cI u_551.1 c hid u_551.2 code ans dbt many row heap our the wr3)) := hD
          replace hI : XI (c) (u_551.2) (hid) (code) (ans) (dbt) opn2 := hI2
          replace eo : r_545 = nI 0 → ov2 0 = _ := eo
          refine lv_istore (lv' := [(6, .int (r_551)), (5, .int (r_545)), (0, .ref (b)), (1, .ref (ad 0)), (2, .ref (bd 0)), (3, .ref (ao)), (4, .int (nI (i)))]) hx hb dL_law_554 hl (by decide) rfl (fun ls hl => ?_)
          refine lv_aload_n hx hb dL_law_556 rfl (lv_at hl 4 rfl) ?_
          have hP9 := xm_P hP
          have hD9 := xm_D hD
          refine x_csi (va_runV (As := []) (rest := []) ⟨hx, hb, hml, hown, hts⟩ (c_X2_thrown l D cI cZ cG cJ (fun q : Nat => s.heap.size ≤ q) bd (WX ad cI cZ c u_551.2 hid code ans dbt opn2 ply2 hps2 (OL ao cJ ov2 :: wr3)) u_551.1 c hid u_551.2 code ans dbt many row heap our the ) (cwV 0 hts gL_law_X2_thrown rfl rfl rfl (by decide +kernel) ⟨Nat.le_of_ble_eq_true rfl, Nat.le_of_ble_eq_true rfl⟩) (preV (ci := 2) (q0 := 0) hB hS hP9 hD9 rfl rfl) rfl rfl hl.1 rfl (lv_room (Nat.le_of_ble_eq_true rfl)) dL_law_557 ⟨Nat.le_trans (by first | exact Nat.le_add_right _ _ | exact Nat.add_le_add_left (by decide) _ | (simp only [Nat.add_assoc]; exact Nat.add_le_add_left (by decide) _)) hk3, Nat.le_trans (by first | exact Nat.le_add_right _ _ | exact Nat.add_le_add_left (by decide) _ | (simp only [Nat.add_assoc]; exact Nat.add_le_add_left (by decide) _)) hs3⟩) ?_
          refine lv_iload hx hb dL_law_560 (lv_at hl 1 rfl) ?_
          refine lv_icmp_eq (tgt := 567) hx hb dL_law_562 (by decide) (fun c562 => ?_) (fun c562 => absurd c562 (fun q => q ek.symm))
          refine lv_iload hx hb dL_law_567 (lv_at hl 1 rfl) ?_
          refine lv_if_ne (tgt := 584) hx hb dL_law_569 (by decide) (fun c569 => ?_) (fun c569 => ?_)
          · skip
            refine lv_goto (tgt := 1338) hx hb dL_law_584 (by decide) ?_
            refine lv_iinc (v := nI (i + 4)) (lv' := [(4, .int (nI (i + 4))), (6, .int (r_551)), (5, .int (r_545)), (0, .ref (b)), (1, .ref (ad 0)), (2, .ref (bd 0)), (3, .ref (ao))]) hx hb dL_law_1338 hl (k := 6) rfl (nI_add _ _) (by decide) rfl (fun ls hl => ?_)
            refine lv_goto (tgt := 23) hx hb dL_law_1341 (by decide) ?_
            exact ih23 (n := n + 1) (i := i + 4) (c := c) (g := u_551.2) (hid := hid) (code := code) (ans := ans) (dbt := dbt) (opn := opn2) (ply := ply2) (hps := hps2) (ov := ov2) (th := u_551.1) (many := many) (row := row) (heap := heap) (our := our) (the := the) (kc := _) (ks := _) (ls := ls) (hl := lv_sub hl [3, 4, 5, 6, 0] rfl) (H := H) (locs := locs) (hP := hP) (hD := hD) (hS := hS) (hinv := by
                exact ⟨hn5, hi2, hi4, hI, room_n h5 hn5 (by first | exact Nat.le_add_right _ _ | exact Nat.add_le_add_left (by decide) _ | (simp only [Nat.add_assoc]; exact Nat.add_le_add_left (by decide) _)), room_n h6 hn5 (by first | exact Nat.le_add_right _ _ | exact Nat.add_le_add_left (by decide) _ | (simp only [Nat.add_assoc]; exact Nat.add_le_add_left (by decide) _))⟩
              ) (hn9 := by
                exact mu_n hn9 hn5
              )
          · skip
            refine lv_aload_n hx hb dL_law_572 rfl (lv_at hl 5 rfl) ?_
            refine lv_iconst (v := nI (0)) hx hb dL_law_573 (by decide) ?_
            refine va_lald hx hb hK hP 7 3 rfl rfl (vp_in_nI (n := 0) (N := 1) (by decide) (by decide)) dL_law_574 ?_
            refine x_tl (y := (r_551).toInt64) (by rw [nI_clamp (by decide)]; exact eo c569) ?_
            refine lv_iload hx hb dL_law_575 (lv_at hl 0 rfl) ?_
            refine lv_i2l hx hb dL_law_577 rfl ?_
            refine W.lcmp hx hb dL_law_578 ?_
            refine x_ti (y := 0) (lg_cmp_self _) ?_
            refine lv_if_eq (tgt := 584) hx hb dL_law_579 (by decide) (fun c579 => ?_) (fun c579 => absurd c579 (fun q => q rfl))
            refine lv_goto (tgt := 1338) hx hb dL_law_584 (by decide) ?_
            refine lv_iinc (v := nI (i + 4)) (lv' := [(4, .int (nI (i + 4))), (6, .int (r_551)), (5, .int (r_545)), (0, .ref (b)), (1, .ref (ad 0)), (2, .ref (bd 0)), (3, .ref (ao))]) hx hb dL_law_1338 hl (k := 6) rfl (nI_add _ _) (by decide) rfl (fun ls hl => ?_)
            refine lv_goto (tgt := 23) hx hb dL_law_1341 (by decide) ?_
            exact ih23 (n := n + 1) (i := i + 4) (c := c) (g := u_551.2) (hid := hid) (code := code) (ans := ans) (dbt := dbt) (opn := opn2) (ply := ply2) (hps := hps2) (ov := ov2) (th := u_551.1) (many := many) (row := row) (heap := heap) (our := our) (the := the) (kc := _) (ks := _) (ls := ls) (hl := lv_sub hl [3, 4, 5, 6, 0] rfl) (H := H) (locs := locs) (hP := hP) (hD := hD) (hS := hS) (hinv := by
                exact ⟨hn5, hi2, hi4, hI, room_n h5 hn5 (by first | exact Nat.le_add_right _ _ | exact Nat.add_le_add_left (by decide) _ | (simp only [Nat.add_assoc]; exact Nat.add_le_add_left (by decide) _)), room_n h6 hn5 (by first | exact Nat.le_add_right _ _ | exact Nat.add_le_add_left (by decide) _ | (simp only [Nat.add_assoc]; exact Nat.add_le_add_left (by decide) _))⟩
              ) (hn9 := by
                exact mu_n hn9 hn5
              )
        · refine x_ti (y := nI 7) hwj ?_
          refine lv_tableIn (tgt := 587) (off := 548) hx hb dL_law_39 (by decide) (by decide) rfl (by decide) ?_
          refine lv_aload_n hx hb dL_law_587 rfl (lv_at hl 1 rfl) ?_
          refine lv_aload_n hx hb dL_law_588 rfl (lv_at hl 0 rfl) ?_
          refine lv_iload hx hb dL_law_589 (lv_at hl 4 rfl) ?_
          refine lv_iconst (v := nI (1)) hx hb dL_law_591 (by decide) ?_
          refine lv_iadd hx hb dL_law_592 ?_
          refine x_ti (nI_add _ _) ?_
          refine x_sld hx hb hX hbl hbA hS (i := i + 1) (by first | exact hj0 | exact hj1 | exact hj2 | exact hj3) hL31 dL_law_593 ?_
          refine lv_aload_n hx hb dL_law_594 rfl (lv_at hl 0 rfl) ?_
          refine lv_iload hx hb dL_law_595 (lv_at hl 4 rfl) ?_
          refine lv_iconst (v := nI (2)) hx hb dL_law_597 (by decide) ?_
          refine lv_iadd hx hb dL_law_598 ?_
          refine x_ti (nI_add _ _) ?_
          refine x_sld hx hb hX hbl hbA hS (i := i + 2) (by first | exact hj0 | exact hj1 | exact hj2 | exact hj3) hL31 dL_law_599 ?_
          refine lv_aload_n hx hb dL_law_600 rfl (lv_at hl 3 rfl) ?_
          refine va_calli (vx_runSW (As := [.ref (ad 0), .int (xs (i + 1)), .int (xs (i + 2)), .ref (ao)]) (rest := []) ⟨hx, hb, hml, hown, hts⟩ (c_L_colour l hfl D cI cZ cG cJ (fun q : Nat => s.heap.size ≤ q) ad ao (WM bd cI th c hid g code ans dbt many row heap our the wr3) (pal_m hpal) c g hid code ans dbt opn ply hps ov (xs (i + 1)) (xs (i + 2)) (hI)) (vx_cwSW 4 hts gL_law_L_colour rfl rfl rfl (by decide +kernel) ⟨Nat.le_of_ble_eq_true rfl, Nat.le_of_ble_eq_true rfl⟩) (preS hB hS hP hD) rfl rfl hl.1 rfl (lv_room (Nat.le_of_ble_eq_true rfl)) dL_law_601 ⟨Nat.le_trans (by first | exact Nat.le_add_right _ _ | exact Nat.add_le_add_left (by decide) _ | (simp only [Nat.add_assoc]; exact Nat.add_le_add_left (by decide) _)) hk3, Nat.le_trans (by first | exact Nat.le_add_right _ _ | exact Nat.add_le_add_left (by decide) _ | (simp only [Nat.add_assoc]; exact Nat.add_le_add_left (by decide) _)) hs3⟩) hS (fun q _ h => h) (fun q h => h) (fun r_601 u_601 t9 H1 locs1 ht9 hvm9 hw_601 hBw hz9 hk9 hS => ?_)
          obtain ⟨hP, hD⟩ := hBw
          rw [ht9] at hP
          generalize H1 = H at hP hS ⊢
          generalize locs1 = locs at hS ⊢
          replace hP : va_P D vwCl (WX ad cI cZ u_601.1.1 u_601.1.2.1 u_601.1.2.2.1 u_601.1.2.2.2.1 u_601.1.2.2.2.2.1 u_601.1.2.2.2.2.2.1 u_601.1.2.2.2.2.2.2.1 u_601.1.2.2.2.2.2.2.2.1 u_601.1.2.2.2.2.2.2.2.2 (OL ao cJ u_601.2 :: WM bd cI th c hid g code ans dbt many row heap our the wr3)) H := hP
          replace hD : va_D (fun q : Nat => s.heap.size ≤ q) (WX ad cI cZ u_601.1.1 u_601.1.2.1 u_601.1.2.2.1 u_601.1.2.2.2.1 u_601.1.2.2.2.2.1 u_601.1.2.2.2.2.2.1 u_601.1.2.2.2.2.2.2.1 u_601.1.2.2.2.2.2.2.2.1 u_601.1.2.2.2.2.2.2.2.2 (OL ao cJ u_601.2 :: WM bd cI th c hid g code ans dbt many row heap our the wr3)) := hD
          refine lv_istore (lv' := [(5, .int (r_601)), (0, .ref (b)), (1, .ref (ad 0)), (2, .ref (bd 0)), (3, .ref (ao)), (4, .int (nI (i)))]) hx hb dL_law_604 hl (by decide) rfl (fun ls hl => ?_)
          refine lv_aload_n hx hb dL_law_606 rfl (lv_at hl 3 rfl) ?_
          refine lv_aload_n hx hb dL_law_607 rfl (lv_at hl 1 rfl) ?_
          refine lv_iload hx hb dL_law_608 (lv_at hl 5 rfl) ?_
          refine lv_iconst (v := nI (1)) hx hb dL_law_610 (by decide) ?_
          refine lv_iadd hx hb dL_law_611 ?_
          refine x_ti (nI_add _ _) ?_
          refine x_sld hx hb hX hbl hbA hS (i := i + 1) (by first | exact hj0 | exact hj1 | exact hj2 | exact hj3) hL31 dL_law_612 ?_
          refine lv_aload_n hx hb dL_law_613 rfl (lv_at hl 1 rfl) ?_
          refine lv_iload hx hb dL_law_614 (lv_at hl 5 rfl) ?_
          refine lv_iconst (v := nI (2)) hx hb dL_law_616 (by decide) ?_
          refine lv_iadd hx hb dL_law_617 ?_
          refine x_ti (nI_add _ _) ?_
          refine x_sld hx hb hX hbl hbA hS (i := i + 2) (by first | exact hj0 | exact hj1 | exact hj2 | exact hj3) hL31 dL_law_618 ?_
          have hP9 := xm_P hP
          have hD9 := xm_D hD
          refine va_calli (va_runV (As := [.int (xs (i + 1)), .int (xs (i + 2))]) (rest := []) ⟨hx, hb, hml, hown, hts⟩ (c_X2_colour l D cI cZ cG cJ (fun q : Nat => s.heap.size ≤ q) bd (WX ad cI cZ u_601.1.1 u_601.1.2.1 u_601.1.2.2.1 u_601.1.2.2.2.1 u_601.1.2.2.2.2.1 u_601.1.2.2.2.2.2.1 u_601.1.2.2.2.2.2.2.1 u_601.1.2.2.2.2.2.2.2.1 u_601.1.2.2.2.2.2.2.2.2 (OL ao cJ u_601.2 :: wr3)) th c hid g code ans dbt many row heap our the (xs (i + 1)) (xs (i + 2)) (hc)) (cwV 2 hts gL_law_X2_colour rfl rfl rfl (by decide +kernel) ⟨Nat.le_of_ble_eq_true rfl, Nat.le_of_ble_eq_true rfl⟩) (preV (ci := 2) (q0 := 0) hB hS hP9 hD9 rfl rfl) rfl rfl hl.1 rfl (lv_room (Nat.le_of_ble_eq_true rfl)) dL_law_619 ⟨Nat.le_trans (by first | exact Nat.le_add_right _ _ | exact Nat.add_le_add_left (by decide) _ | (simp only [Nat.add_assoc]; exact Nat.add_le_add_left (by decide) _)) hk3, Nat.le_trans (by first | exact Nat.le_add_right _ _ | exact Nat.add_le_add_left (by decide) _ | (simp only [Nat.add_assoc]; exact Nat.add_le_add_left (by decide) _)) hs3⟩) hS (fun q _ h => h) (fun q h => h) (fun r_619 u_619 t9 H1 locs1 ht9 hvm9 hw_619 hBw hz9 hk9 hS => ?_)
          obtain ⟨hP, hD⟩ := hBw
          rw [ht9] at hP
          generalize H1 = H at hP hS ⊢
          generalize locs1 = locs at hS ⊢
          replace hP := mx_P hP
          replace hD := mx_D hD
          replace hP : va_P D vwCl (WX ad cI cZ u_601.1.1 u_601.1.2.1 u_601.1.2.2.1 u_601.1.2.2.2.1 u_601.1.2.2.2.2.1 u_601.1.2.2.2.2.2.1 u_601.1.2.2.2.2.2.2.1 u_601.1.2.2.2.2.2.2.2.1 u_601.1.2.2.2.2.2.2.2.2 (OL ao cJ u_601.2 :: WM bd cI u_619 c hid g code ans dbt many row heap our the wr3)) H := hP
          replace hD : va_D (fun q : Nat => s.heap.size ≤ q) (WX ad cI cZ u_601.1.1 u_601.1.2.1 u_601.1.2.2.1 u_601.1.2.2.2.1 u_601.1.2.2.2.2.1 u_601.1.2.2.2.2.2.1 u_601.1.2.2.2.2.2.2.1 u_601.1.2.2.2.2.2.2.2.1 u_601.1.2.2.2.2.2.2.2.2 (OL ao cJ u_601.2 :: WM bd cI u_619 c hid g code ans dbt many row heap our the wr3)) := hD
          have hkey := key_colour hI hw_601 hw_619
          obtain ⟨⟨c2, g2, hid2, code2, ans2, dbt2, opn2, ply2, hps2⟩, ov2⟩ := u_601
          obtain ⟨ek, eo, q1, q2, q3, q4, q5, q6, hI2⟩ := hkey
          change c2 = _ at q1
          change g2 = _ at q2
          change hid2 = _ at q3
          change code2 = _ at q4
          change ans2 = _ at q5
          change dbt2 = _ at q6
          replace q1 := Eq.symm q1; replace q2 := Eq.symm q2; replace q3 := Eq.symm q3; replace q4 := Eq.symm q4; replace q5 := Eq.symm q5; replace q6 := Eq.symm q6
          subst q1; subst q2; subst q3; subst q4; subst q5; subst q6
          replace hP : va_P D vwCl (WX ad cI cZ c g hid code ans dbt opn2 ply2 hps2 (OL ao cJ ov2 :: WM bd cI u_619 c hid g code ans dbt many row heap our the wr3)) H := hP
          replace hD : va_D (fun q : Nat => s.heap.size ≤ q) (WX ad cI cZ c g hid code ans dbt opn2 ply2 hps2 (OL ao cJ ov2 :: WM bd cI u_619 c hid g code ans dbt many row heap our the wr3)) := hD
          replace hI : XI (c) (g) (hid) (code) (ans) (dbt) opn2 := hI2
          replace eo : r_601 = nI 0 → ov2 0 = _ := eo
          refine lv_istore (lv' := [(6, .int (r_619)), (5, .int (r_601)), (0, .ref (b)), (1, .ref (ad 0)), (2, .ref (bd 0)), (3, .ref (ao)), (4, .int (nI (i)))]) hx hb dL_law_622 hl (by decide) rfl (fun ls hl => ?_)
          refine lv_aload_n hx hb dL_law_624 rfl (lv_at hl 4 rfl) ?_
          have hP9 := xm_P hP
          have hD9 := xm_D hD
          refine x_csi (va_runV (As := []) (rest := []) ⟨hx, hb, hml, hown, hts⟩ (c_X2_thrown l D cI cZ cG cJ (fun q : Nat => s.heap.size ≤ q) bd (WX ad cI cZ c g hid code ans dbt opn2 ply2 hps2 (OL ao cJ ov2 :: wr3)) u_619 c hid g code ans dbt many row heap our the ) (cwV 0 hts gL_law_X2_thrown rfl rfl rfl (by decide +kernel) ⟨Nat.le_of_ble_eq_true rfl, Nat.le_of_ble_eq_true rfl⟩) (preV (ci := 2) (q0 := 0) hB hS hP9 hD9 rfl rfl) rfl rfl hl.1 rfl (lv_room (Nat.le_of_ble_eq_true rfl)) dL_law_625 ⟨Nat.le_trans (by first | exact Nat.le_add_right _ _ | exact Nat.add_le_add_left (by decide) _ | (simp only [Nat.add_assoc]; exact Nat.add_le_add_left (by decide) _)) hk3, Nat.le_trans (by first | exact Nat.le_add_right _ _ | exact Nat.add_le_add_left (by decide) _ | (simp only [Nat.add_assoc]; exact Nat.add_le_add_left (by decide) _)) hs3⟩) ?_
          refine lv_iload hx hb dL_law_628 (lv_at hl 1 rfl) ?_
          refine lv_icmp_eq (tgt := 635) hx hb dL_law_630 (by decide) (fun c630 => ?_) (fun c630 => absurd c630 (fun q => q ek.symm))
          refine lv_iload hx hb dL_law_635 (lv_at hl 1 rfl) ?_
          refine lv_if_ne (tgt := 652) hx hb dL_law_637 (by decide) (fun c637 => ?_) (fun c637 => ?_)
          · skip
            refine lv_goto (tgt := 1338) hx hb dL_law_652 (by decide) ?_
            refine lv_iinc (v := nI (i + 4)) (lv' := [(4, .int (nI (i + 4))), (6, .int (r_619)), (5, .int (r_601)), (0, .ref (b)), (1, .ref (ad 0)), (2, .ref (bd 0)), (3, .ref (ao))]) hx hb dL_law_1338 hl (k := 6) rfl (nI_add _ _) (by decide) rfl (fun ls hl => ?_)
            refine lv_goto (tgt := 23) hx hb dL_law_1341 (by decide) ?_
            exact ih23 (n := n + 1) (i := i + 4) (c := c) (g := g) (hid := hid) (code := code) (ans := ans) (dbt := dbt) (opn := opn2) (ply := ply2) (hps := hps2) (ov := ov2) (th := u_619) (many := many) (row := row) (heap := heap) (our := our) (the := the) (kc := _) (ks := _) (ls := ls) (hl := lv_sub hl [3, 4, 5, 6, 0] rfl) (H := H) (locs := locs) (hP := hP) (hD := hD) (hS := hS) (hinv := by
                exact ⟨hn5, hi2, hi4, hI, room_n h5 hn5 (by first | exact Nat.le_add_right _ _ | exact Nat.add_le_add_left (by decide) _ | (simp only [Nat.add_assoc]; exact Nat.add_le_add_left (by decide) _)), room_n h6 hn5 (by first | exact Nat.le_add_right _ _ | exact Nat.add_le_add_left (by decide) _ | (simp only [Nat.add_assoc]; exact Nat.add_le_add_left (by decide) _))⟩
              ) (hn9 := by
                exact mu_n hn9 hn5
              )
          · skip
            refine lv_aload_n hx hb dL_law_640 rfl (lv_at hl 5 rfl) ?_
            refine lv_iconst (v := nI (0)) hx hb dL_law_641 (by decide) ?_
            refine va_lald hx hb hK hP 7 3 rfl rfl (vp_in_nI (n := 0) (N := 1) (by decide) (by decide)) dL_law_642 ?_
            refine x_tl (y := (r_619).toInt64) (by rw [nI_clamp (by decide)]; exact eo c637) ?_
            refine lv_iload hx hb dL_law_643 (lv_at hl 0 rfl) ?_
            refine lv_i2l hx hb dL_law_645 rfl ?_
            refine W.lcmp hx hb dL_law_646 ?_
            refine x_ti (y := 0) (lg_cmp_self _) ?_
            refine lv_if_eq (tgt := 652) hx hb dL_law_647 (by decide) (fun c647 => ?_) (fun c647 => absurd c647 (fun q => q rfl))
            refine lv_goto (tgt := 1338) hx hb dL_law_652 (by decide) ?_
            refine lv_iinc (v := nI (i + 4)) (lv' := [(4, .int (nI (i + 4))), (6, .int (r_619)), (5, .int (r_601)), (0, .ref (b)), (1, .ref (ad 0)), (2, .ref (bd 0)), (3, .ref (ao))]) hx hb dL_law_1338 hl (k := 6) rfl (nI_add _ _) (by decide) rfl (fun ls hl => ?_)
            refine lv_goto (tgt := 23) hx hb dL_law_1341 (by decide) ?_
            exact ih23 (n := n + 1) (i := i + 4) (c := c) (g := g) (hid := hid) (code := code) (ans := ans) (dbt := dbt) (opn := opn2) (ply := ply2) (hps := hps2) (ov := ov2) (th := u_619) (many := many) (row := row) (heap := heap) (our := our) (the := the) (kc := _) (ks := _) (ls := ls) (hl := lv_sub hl [3, 4, 5, 6, 0] rfl) (H := H) (locs := locs) (hP := hP) (hD := hD) (hS := hS) (hinv := by
                exact ⟨hn5, hi2, hi4, hI, room_n h5 hn5 (by first | exact Nat.le_add_right _ _ | exact Nat.add_le_add_left (by decide) _ | (simp only [Nat.add_assoc]; exact Nat.add_le_add_left (by decide) _)), room_n h6 hn5 (by first | exact Nat.le_add_right _ _ | exact Nat.add_le_add_left (by decide) _ | (simp only [Nat.add_assoc]; exact Nat.add_le_add_left (by decide) _))⟩
              ) (hn9 := by
                exact mu_n hn9 hn5
              )
        · refine x_ti (y := nI 8) hwj ?_
          refine lv_tableIn (tgt := 655) (off := 616) hx hb dL_law_39 (by decide) (by decide) rfl (by decide) ?_
          refine lv_aload_n hx hb dL_law_655 rfl (lv_at hl 1 rfl) ?_
          refine lv_aload_n hx hb dL_law_656 rfl (lv_at hl 0 rfl) ?_
          refine lv_iload hx hb dL_law_657 (lv_at hl 4 rfl) ?_
          refine lv_iconst (v := nI (1)) hx hb dL_law_659 (by decide) ?_
          refine lv_iadd hx hb dL_law_660 ?_
          refine x_ti (nI_add _ _) ?_
          refine x_sld hx hb hX hbl hbA hS (i := i + 1) (by first | exact hj0 | exact hj1 | exact hj2 | exact hj3) hL31 dL_law_661 ?_
          refine lv_aload_n hx hb dL_law_662 rfl (lv_at hl 0 rfl) ?_
          refine lv_iload hx hb dL_law_663 (lv_at hl 4 rfl) ?_
          refine lv_iconst (v := nI (2)) hx hb dL_law_665 (by decide) ?_
          refine lv_iadd hx hb dL_law_666 ?_
          refine x_ti (nI_add _ _) ?_
          refine x_sld hx hb hX hbl hbA hS (i := i + 2) (by first | exact hj0 | exact hj1 | exact hj2 | exact hj3) hL31 dL_law_667 ?_
          refine lv_aload_n hx hb dL_law_668 rfl (lv_at hl 3 rfl) ?_
          refine va_calli (vx_runSW (As := [.ref (ad 0), .int (xs (i + 1)), .int (xs (i + 2)), .ref (ao)]) (rest := []) ⟨hx, hb, hml, hown, hts⟩ (c_L_pins l hfl D cI cZ cG cJ (fun q : Nat => s.heap.size ≤ q) ad ao (WM bd cI th c hid g code ans dbt many row heap our the wr3) (pal_m hpal) c g hid code ans dbt opn ply hps ov (xs (i + 1)) (xs (i + 2)) (hI)) (vx_cwSW 4 hts gL_law_L_pins rfl rfl rfl (by decide +kernel) ⟨Nat.le_of_ble_eq_true rfl, Nat.le_of_ble_eq_true rfl⟩) (preS hB hS hP hD) rfl rfl hl.1 rfl (lv_room (Nat.le_of_ble_eq_true rfl)) dL_law_669 ⟨Nat.le_trans (by first | exact Nat.le_add_right _ _ | exact Nat.add_le_add_left (by decide) _ | (simp only [Nat.add_assoc]; exact Nat.add_le_add_left (by decide) _)) hk3, Nat.le_trans (by first | exact Nat.le_add_right _ _ | exact Nat.add_le_add_left (by decide) _ | (simp only [Nat.add_assoc]; exact Nat.add_le_add_left (by decide) _)) hs3⟩) hS (fun q _ h => h) (fun q h => h) (fun r_669 u_669 t9 H1 locs1 ht9 hvm9 hw_669 hBw hz9 hk9 hS => ?_)
          obtain ⟨hP, hD⟩ := hBw
          rw [ht9] at hP
          generalize H1 = H at hP hS ⊢
          generalize locs1 = locs at hS ⊢
          replace hP : va_P D vwCl (WX ad cI cZ u_669.1.1 u_669.1.2.1 u_669.1.2.2.1 u_669.1.2.2.2.1 u_669.1.2.2.2.2.1 u_669.1.2.2.2.2.2.1 u_669.1.2.2.2.2.2.2.1 u_669.1.2.2.2.2.2.2.2.1 u_669.1.2.2.2.2.2.2.2.2 (OL ao cJ u_669.2 :: WM bd cI th c hid g code ans dbt many row heap our the wr3)) H := hP
          replace hD : va_D (fun q : Nat => s.heap.size ≤ q) (WX ad cI cZ u_669.1.1 u_669.1.2.1 u_669.1.2.2.1 u_669.1.2.2.2.1 u_669.1.2.2.2.2.1 u_669.1.2.2.2.2.2.1 u_669.1.2.2.2.2.2.2.1 u_669.1.2.2.2.2.2.2.2.1 u_669.1.2.2.2.2.2.2.2.2 (OL ao cJ u_669.2 :: WM bd cI th c hid g code ans dbt many row heap our the wr3)) := hD
          refine lv_istore (lv' := [(5, .int (r_669)), (0, .ref (b)), (1, .ref (ad 0)), (2, .ref (bd 0)), (3, .ref (ao)), (4, .int (nI (i)))]) hx hb dL_law_672 hl (by decide) rfl (fun ls hl => ?_)
          refine lv_aload_n hx hb dL_law_674 rfl (lv_at hl 3 rfl) ?_
          refine lv_aload_n hx hb dL_law_675 rfl (lv_at hl 1 rfl) ?_
          refine lv_iload hx hb dL_law_676 (lv_at hl 5 rfl) ?_
          refine lv_iconst (v := nI (1)) hx hb dL_law_678 (by decide) ?_
          refine lv_iadd hx hb dL_law_679 ?_
          refine x_ti (nI_add _ _) ?_
          refine x_sld hx hb hX hbl hbA hS (i := i + 1) (by first | exact hj0 | exact hj1 | exact hj2 | exact hj3) hL31 dL_law_680 ?_
          refine lv_aload_n hx hb dL_law_681 rfl (lv_at hl 1 rfl) ?_
          refine lv_iload hx hb dL_law_682 (lv_at hl 5 rfl) ?_
          refine lv_iconst (v := nI (2)) hx hb dL_law_684 (by decide) ?_
          refine lv_iadd hx hb dL_law_685 ?_
          refine x_ti (nI_add _ _) ?_
          refine x_sld hx hb hX hbl hbA hS (i := i + 2) (by first | exact hj0 | exact hj1 | exact hj2 | exact hj3) hL31 dL_law_686 ?_
          have hP9 := xm_P hP
          have hD9 := xm_D hD
          refine va_calli (va_runV (As := [.int (xs (i + 1)), .int (xs (i + 2))]) (rest := []) ⟨hx, hb, hml, hown, hts⟩ (c_X2_pins l D cI cZ cG cJ (fun q : Nat => s.heap.size ≤ q) bd (WX ad cI cZ u_669.1.1 u_669.1.2.1 u_669.1.2.2.1 u_669.1.2.2.2.1 u_669.1.2.2.2.2.1 u_669.1.2.2.2.2.2.1 u_669.1.2.2.2.2.2.2.1 u_669.1.2.2.2.2.2.2.2.1 u_669.1.2.2.2.2.2.2.2.2 (OL ao cJ u_669.2 :: wr3)) th c hid g code ans dbt many row heap our the (xs (i + 1)) (xs (i + 2)) (hc)) (cwV 2 hts gL_law_X2_pins rfl rfl rfl (by decide +kernel) ⟨Nat.le_of_ble_eq_true rfl, Nat.le_of_ble_eq_true rfl⟩) (preV (ci := 2) (q0 := 0) hB hS hP9 hD9 rfl rfl) rfl rfl hl.1 rfl (lv_room (Nat.le_of_ble_eq_true rfl)) dL_law_687 ⟨Nat.le_trans (by first | exact Nat.le_add_right _ _ | exact Nat.add_le_add_left (by decide) _ | (simp only [Nat.add_assoc]; exact Nat.add_le_add_left (by decide) _)) hk3, Nat.le_trans (by first | exact Nat.le_add_right _ _ | exact Nat.add_le_add_left (by decide) _ | (simp only [Nat.add_assoc]; exact Nat.add_le_add_left (by decide) _)) hs3⟩) hS (fun q _ h => h) (fun q h => h) (fun r_687 u_687 t9 H1 locs1 ht9 hvm9 hw_687 hBw hz9 hk9 hS => ?_)
          obtain ⟨hP, hD⟩ := hBw
          rw [ht9] at hP
          generalize H1 = H at hP hS ⊢
          generalize locs1 = locs at hS ⊢
          replace hP := mx_P hP
          replace hD := mx_D hD
          replace hP : va_P D vwCl (WX ad cI cZ u_669.1.1 u_669.1.2.1 u_669.1.2.2.1 u_669.1.2.2.2.1 u_669.1.2.2.2.2.1 u_669.1.2.2.2.2.2.1 u_669.1.2.2.2.2.2.2.1 u_669.1.2.2.2.2.2.2.2.1 u_669.1.2.2.2.2.2.2.2.2 (OL ao cJ u_669.2 :: WM bd cI u_687.1 c hid g code ans dbt many row heap u_687.2.1 u_687.2.2 wr3)) H := hP
          replace hD : va_D (fun q : Nat => s.heap.size ≤ q) (WX ad cI cZ u_669.1.1 u_669.1.2.1 u_669.1.2.2.1 u_669.1.2.2.2.1 u_669.1.2.2.2.2.1 u_669.1.2.2.2.2.2.1 u_669.1.2.2.2.2.2.2.1 u_669.1.2.2.2.2.2.2.2.1 u_669.1.2.2.2.2.2.2.2.2 (OL ao cJ u_669.2 :: WM bd cI u_687.1 c hid g code ans dbt many row heap u_687.2.1 u_687.2.2 wr3)) := hD
          have hkey := key_pins hI hw_669 hw_687
          obtain ⟨⟨c2, g2, hid2, code2, ans2, dbt2, opn2, ply2, hps2⟩, ov2⟩ := u_669
          obtain ⟨ek, eo, q1, q2, q3, q4, q5, q6, hI2⟩ := hkey
          change c2 = _ at q1
          change g2 = _ at q2
          change hid2 = _ at q3
          change code2 = _ at q4
          change ans2 = _ at q5
          change dbt2 = _ at q6
          replace q1 := Eq.symm q1; replace q2 := Eq.symm q2; replace q3 := Eq.symm q3; replace q4 := Eq.symm q4; replace q5 := Eq.symm q5; replace q6 := Eq.symm q6
          subst q1; subst q2; subst q3; subst q4; subst q5; subst q6
          replace hP : va_P D vwCl (WX ad cI cZ c g hid code ans dbt opn2 ply2 hps2 (OL ao cJ ov2 :: WM bd cI u_687.1 c hid g code ans dbt many row heap u_687.2.1 u_687.2.2 wr3)) H := hP
          replace hD : va_D (fun q : Nat => s.heap.size ≤ q) (WX ad cI cZ c g hid code ans dbt opn2 ply2 hps2 (OL ao cJ ov2 :: WM bd cI u_687.1 c hid g code ans dbt many row heap u_687.2.1 u_687.2.2 wr3)) := hD
          replace hI : XI (c) (g) (hid) (code) (ans) (dbt) opn2 := hI2
          replace eo : r_669 = nI 0 → ov2 0 = _ := eo
          refine lv_istore (lv' := [(6, .int (r_687)), (5, .int (r_669)), (0, .ref (b)), (1, .ref (ad 0)), (2, .ref (bd 0)), (3, .ref (ao)), (4, .int (nI (i)))]) hx hb dL_law_690 hl (by decide) rfl (fun ls hl => ?_)
          refine lv_aload_n hx hb dL_law_692 rfl (lv_at hl 4 rfl) ?_
          have hP9 := xm_P hP
          have hD9 := xm_D hD
          refine x_csi (va_runV (As := []) (rest := []) ⟨hx, hb, hml, hown, hts⟩ (c_X2_thrown l D cI cZ cG cJ (fun q : Nat => s.heap.size ≤ q) bd (WX ad cI cZ c g hid code ans dbt opn2 ply2 hps2 (OL ao cJ ov2 :: wr3)) u_687.1 c hid g code ans dbt many row heap u_687.2.1 u_687.2.2 ) (cwV 0 hts gL_law_X2_thrown rfl rfl rfl (by decide +kernel) ⟨Nat.le_of_ble_eq_true rfl, Nat.le_of_ble_eq_true rfl⟩) (preV (ci := 2) (q0 := 0) hB hS hP9 hD9 rfl rfl) rfl rfl hl.1 rfl (lv_room (Nat.le_of_ble_eq_true rfl)) dL_law_693 ⟨Nat.le_trans (by first | exact Nat.le_add_right _ _ | exact Nat.add_le_add_left (by decide) _ | (simp only [Nat.add_assoc]; exact Nat.add_le_add_left (by decide) _)) hk3, Nat.le_trans (by first | exact Nat.le_add_right _ _ | exact Nat.add_le_add_left (by decide) _ | (simp only [Nat.add_assoc]; exact Nat.add_le_add_left (by decide) _)) hs3⟩) ?_
          refine lv_iload hx hb dL_law_696 (lv_at hl 1 rfl) ?_
          refine lv_icmp_eq (tgt := 703) hx hb dL_law_698 (by decide) (fun c698 => ?_) (fun c698 => absurd c698 (fun q => q ek.symm))
          refine lv_iload hx hb dL_law_703 (lv_at hl 1 rfl) ?_
          refine lv_if_ne (tgt := 720) hx hb dL_law_705 (by decide) (fun c705 => ?_) (fun c705 => ?_)
          · skip
            refine lv_goto (tgt := 1338) hx hb dL_law_720 (by decide) ?_
            refine lv_iinc (v := nI (i + 4)) (lv' := [(4, .int (nI (i + 4))), (6, .int (r_687)), (5, .int (r_669)), (0, .ref (b)), (1, .ref (ad 0)), (2, .ref (bd 0)), (3, .ref (ao))]) hx hb dL_law_1338 hl (k := 6) rfl (nI_add _ _) (by decide) rfl (fun ls hl => ?_)
            refine lv_goto (tgt := 23) hx hb dL_law_1341 (by decide) ?_
            exact ih23 (n := n + 1) (i := i + 4) (c := c) (g := g) (hid := hid) (code := code) (ans := ans) (dbt := dbt) (opn := opn2) (ply := ply2) (hps := hps2) (ov := ov2) (th := u_687.1) (many := many) (row := row) (heap := heap) (our := u_687.2.1) (the := u_687.2.2) (kc := _) (ks := _) (ls := ls) (hl := lv_sub hl [3, 4, 5, 6, 0] rfl) (H := H) (locs := locs) (hP := hP) (hD := hD) (hS := hS) (hinv := by
                exact ⟨hn5, hi2, hi4, hI, room_n h5 hn5 (by first | exact Nat.le_add_right _ _ | exact Nat.add_le_add_left (by decide) _ | (simp only [Nat.add_assoc]; exact Nat.add_le_add_left (by decide) _)), room_n h6 hn5 (by first | exact Nat.le_add_right _ _ | exact Nat.add_le_add_left (by decide) _ | (simp only [Nat.add_assoc]; exact Nat.add_le_add_left (by decide) _))⟩
              ) (hn9 := by
                exact mu_n hn9 hn5
              )
          · skip
            refine lv_aload_n hx hb dL_law_708 rfl (lv_at hl 5 rfl) ?_
            refine lv_iconst (v := nI (0)) hx hb dL_law_709 (by decide) ?_
            refine va_lald hx hb hK hP 7 3 rfl rfl (vp_in_nI (n := 0) (N := 1) (by decide) (by decide)) dL_law_710 ?_
            refine x_tl (y := (r_687).toInt64) (by rw [nI_clamp (by decide)]; exact eo c705) ?_
            refine lv_iload hx hb dL_law_711 (lv_at hl 0 rfl) ?_
            refine lv_i2l hx hb dL_law_713 rfl ?_
            refine W.lcmp hx hb dL_law_714 ?_
            refine x_ti (y := 0) (lg_cmp_self _) ?_
            refine lv_if_eq (tgt := 720) hx hb dL_law_715 (by decide) (fun c715 => ?_) (fun c715 => absurd c715 (fun q => q rfl))
            refine lv_goto (tgt := 1338) hx hb dL_law_720 (by decide) ?_
            refine lv_iinc (v := nI (i + 4)) (lv' := [(4, .int (nI (i + 4))), (6, .int (r_687)), (5, .int (r_669)), (0, .ref (b)), (1, .ref (ad 0)), (2, .ref (bd 0)), (3, .ref (ao))]) hx hb dL_law_1338 hl (k := 6) rfl (nI_add _ _) (by decide) rfl (fun ls hl => ?_)
            refine lv_goto (tgt := 23) hx hb dL_law_1341 (by decide) ?_
            exact ih23 (n := n + 1) (i := i + 4) (c := c) (g := g) (hid := hid) (code := code) (ans := ans) (dbt := dbt) (opn := opn2) (ply := ply2) (hps := hps2) (ov := ov2) (th := u_687.1) (many := many) (row := row) (heap := heap) (our := u_687.2.1) (the := u_687.2.2) (kc := _) (ks := _) (ls := ls) (hl := lv_sub hl [3, 4, 5, 6, 0] rfl) (H := H) (locs := locs) (hP := hP) (hD := hD) (hS := hS) (hinv := by
                exact ⟨hn5, hi2, hi4, hI, room_n h5 hn5 (by first | exact Nat.le_add_right _ _ | exact Nat.add_le_add_left (by decide) _ | (simp only [Nat.add_assoc]; exact Nat.add_le_add_left (by decide) _)), room_n h6 hn5 (by first | exact Nat.le_add_right _ _ | exact Nat.add_le_add_left (by decide) _ | (simp only [Nat.add_assoc]; exact Nat.add_le_add_left (by decide) _))⟩
              ) (hn9 := by
                exact mu_n hn9 hn5
              )
        · refine x_ti (y := nI 9) hwj ?_
          refine lv_tableIn (tgt := 723) (off := 684) hx hb dL_law_39 (by decide) (by decide) rfl (by decide) ?_
          refine lv_aload_n hx hb dL_law_723 rfl (lv_at hl 1 rfl) ?_
          refine lv_aload_n hx hb dL_law_724 rfl (lv_at hl 0 rfl) ?_
          refine lv_iload hx hb dL_law_725 (lv_at hl 4 rfl) ?_
          refine lv_iconst (v := nI (1)) hx hb dL_law_727 (by decide) ?_
          refine lv_iadd hx hb dL_law_728 ?_
          refine x_ti (nI_add _ _) ?_
          refine x_sld hx hb hX hbl hbA hS (i := i + 1) (by first | exact hj0 | exact hj1 | exact hj2 | exact hj3) hL31 dL_law_729 ?_
          refine lv_aload_n hx hb dL_law_730 rfl (lv_at hl 0 rfl) ?_
          refine lv_iload hx hb dL_law_731 (lv_at hl 4 rfl) ?_
          refine lv_iconst (v := nI (2)) hx hb dL_law_733 (by decide) ?_
          refine lv_iadd hx hb dL_law_734 ?_
          refine x_ti (nI_add _ _) ?_
          refine x_sld hx hb hX hbl hbA hS (i := i + 2) (by first | exact hj0 | exact hj1 | exact hj2 | exact hj3) hL31 dL_law_735 ?_
          refine lv_aload_n hx hb dL_law_736 rfl (lv_at hl 3 rfl) ?_
          refine va_calli (vx_runSW (As := [.ref (ad 0), .int (xs (i + 1)), .int (xs (i + 2)), .ref (ao)]) (rest := []) ⟨hx, hb, hml, hown, hts⟩ (c_L_told l hfl D cI cZ cG cJ (fun q : Nat => s.heap.size ≤ q) ad ao (WM bd cI th c hid g code ans dbt many row heap our the wr3) (pal_m hpal) c g hid code ans dbt opn ply hps ov (xs (i + 1)) (xs (i + 2)) (hI)) (vx_cwSW 4 hts gL_law_L_told rfl rfl rfl (by decide +kernel) ⟨Nat.le_of_ble_eq_true rfl, Nat.le_of_ble_eq_true rfl⟩) (preS hB hS hP hD) rfl rfl hl.1 rfl (lv_room (Nat.le_of_ble_eq_true rfl)) dL_law_737 ⟨Nat.le_trans (by first | exact Nat.le_add_right _ _ | exact Nat.add_le_add_left (by decide) _ | (simp only [Nat.add_assoc]; exact Nat.add_le_add_left (by decide) _)) hk3, Nat.le_trans (by first | exact Nat.le_add_right _ _ | exact Nat.add_le_add_left (by decide) _ | (simp only [Nat.add_assoc]; exact Nat.add_le_add_left (by decide) _)) hs3⟩) hS (fun q _ h => h) (fun q h => h) (fun r_737 u_737 t9 H1 locs1 ht9 hvm9 hw_737 hBw hz9 hk9 hS => ?_)
          obtain ⟨hP, hD⟩ := hBw
          rw [ht9] at hP
          generalize H1 = H at hP hS ⊢
          generalize locs1 = locs at hS ⊢
          replace hP : va_P D vwCl (WX ad cI cZ u_737.1.1 u_737.1.2.1 u_737.1.2.2.1 u_737.1.2.2.2.1 u_737.1.2.2.2.2.1 u_737.1.2.2.2.2.2.1 u_737.1.2.2.2.2.2.2.1 u_737.1.2.2.2.2.2.2.2.1 u_737.1.2.2.2.2.2.2.2.2 (OL ao cJ u_737.2 :: WM bd cI th c hid g code ans dbt many row heap our the wr3)) H := hP
          replace hD : va_D (fun q : Nat => s.heap.size ≤ q) (WX ad cI cZ u_737.1.1 u_737.1.2.1 u_737.1.2.2.1 u_737.1.2.2.2.1 u_737.1.2.2.2.2.1 u_737.1.2.2.2.2.2.1 u_737.1.2.2.2.2.2.2.1 u_737.1.2.2.2.2.2.2.2.1 u_737.1.2.2.2.2.2.2.2.2 (OL ao cJ u_737.2 :: WM bd cI th c hid g code ans dbt many row heap our the wr3)) := hD
          refine lv_istore (lv' := [(5, .int (r_737)), (0, .ref (b)), (1, .ref (ad 0)), (2, .ref (bd 0)), (3, .ref (ao)), (4, .int (nI (i)))]) hx hb dL_law_740 hl (by decide) rfl (fun ls hl => ?_)
          refine lv_aload_n hx hb dL_law_742 rfl (lv_at hl 3 rfl) ?_
          refine lv_aload_n hx hb dL_law_743 rfl (lv_at hl 1 rfl) ?_
          refine lv_iload hx hb dL_law_744 (lv_at hl 5 rfl) ?_
          refine lv_iconst (v := nI (1)) hx hb dL_law_746 (by decide) ?_
          refine lv_iadd hx hb dL_law_747 ?_
          refine x_ti (nI_add _ _) ?_
          refine x_sld hx hb hX hbl hbA hS (i := i + 1) (by first | exact hj0 | exact hj1 | exact hj2 | exact hj3) hL31 dL_law_748 ?_
          refine lv_aload_n hx hb dL_law_749 rfl (lv_at hl 1 rfl) ?_
          refine lv_iload hx hb dL_law_750 (lv_at hl 5 rfl) ?_
          refine lv_iconst (v := nI (2)) hx hb dL_law_752 (by decide) ?_
          refine lv_iadd hx hb dL_law_753 ?_
          refine x_ti (nI_add _ _) ?_
          refine x_sld hx hb hX hbl hbA hS (i := i + 2) (by first | exact hj0 | exact hj1 | exact hj2 | exact hj3) hL31 dL_law_754 ?_
          have hP9 := xm_P hP
          have hD9 := xm_D hD
          refine va_calli (va_runV (As := [.int (xs (i + 1)), .int (xs (i + 2))]) (rest := []) ⟨hx, hb, hml, hown, hts⟩ (c_X2_told l D cI cZ cG cJ (fun q : Nat => s.heap.size ≤ q) bd (WX ad cI cZ u_737.1.1 u_737.1.2.1 u_737.1.2.2.1 u_737.1.2.2.2.1 u_737.1.2.2.2.2.1 u_737.1.2.2.2.2.2.1 u_737.1.2.2.2.2.2.2.1 u_737.1.2.2.2.2.2.2.2.1 u_737.1.2.2.2.2.2.2.2.2 (OL ao cJ u_737.2 :: wr3)) th c hid g code ans dbt many row heap our the (xs (i + 1)) (xs (i + 2)) (hc) (hg) (hco)) (cwV 2 hts gL_law_X2_told rfl rfl rfl (by decide +kernel) ⟨Nat.le_of_ble_eq_true rfl, Nat.le_of_ble_eq_true rfl⟩) (preV (ci := 2) (q0 := 0) hB hS hP9 hD9 rfl rfl) rfl rfl hl.1 rfl (lv_room (Nat.le_of_ble_eq_true rfl)) dL_law_755 ⟨Nat.le_trans (by first | exact Nat.le_add_right _ _ | exact Nat.add_le_add_left (by decide) _ | (simp only [Nat.add_assoc]; exact Nat.add_le_add_left (by decide) _)) hk3, Nat.le_trans (by first | exact Nat.le_add_right _ _ | exact Nat.add_le_add_left (by decide) _ | (simp only [Nat.add_assoc]; exact Nat.add_le_add_left (by decide) _)) hs3⟩) hS (fun q _ h => h) (fun q h => h) (fun r_755 u_755 t9 H1 locs1 ht9 hvm9 hw_755 hBw hz9 hk9 hS => ?_)
          obtain ⟨hP, hD⟩ := hBw
          rw [ht9] at hP
          generalize H1 = H at hP hS ⊢
          generalize locs1 = locs at hS ⊢
          replace hP := mx_P hP
          replace hD := mx_D hD
          replace hP : va_P D vwCl (WX ad cI cZ u_737.1.1 u_737.1.2.1 u_737.1.2.2.1 u_737.1.2.2.2.1 u_737.1.2.2.2.2.1 u_737.1.2.2.2.2.2.1 u_737.1.2.2.2.2.2.2.1 u_737.1.2.2.2.2.2.2.2.1 u_737.1.2.2.2.2.2.2.2.2 (OL ao cJ u_737.2 :: WM bd cI u_755.1 c hid g code ans dbt u_755.2.1 u_755.2.2.1 u_755.2.2.2.1 u_755.2.2.2.2.1 u_755.2.2.2.2.2 wr3)) H := hP
          replace hD : va_D (fun q : Nat => s.heap.size ≤ q) (WX ad cI cZ u_737.1.1 u_737.1.2.1 u_737.1.2.2.1 u_737.1.2.2.2.1 u_737.1.2.2.2.2.1 u_737.1.2.2.2.2.2.1 u_737.1.2.2.2.2.2.2.1 u_737.1.2.2.2.2.2.2.2.1 u_737.1.2.2.2.2.2.2.2.2 (OL ao cJ u_737.2 :: WM bd cI u_755.1 c hid g code ans dbt u_755.2.1 u_755.2.2.1 u_755.2.2.2.1 u_755.2.2.2.2.1 u_755.2.2.2.2.2 wr3)) := hD
          have hkey := key_told hI hw_737 hw_755
          obtain ⟨⟨c2, g2, hid2, code2, ans2, dbt2, opn2, ply2, hps2⟩, ov2⟩ := u_737
          obtain ⟨ek, eo, q1, q2, q3, q4, q5, q6, hI2⟩ := hkey
          change c2 = _ at q1
          change g2 = _ at q2
          change hid2 = _ at q3
          change code2 = _ at q4
          change ans2 = _ at q5
          change dbt2 = _ at q6
          replace q1 := Eq.symm q1; replace q2 := Eq.symm q2; replace q3 := Eq.symm q3; replace q4 := Eq.symm q4; replace q5 := Eq.symm q5; replace q6 := Eq.symm q6
          subst q1; subst q2; subst q3; subst q4; subst q5; subst q6
          replace hP : va_P D vwCl (WX ad cI cZ c g hid code ans dbt opn2 ply2 hps2 (OL ao cJ ov2 :: WM bd cI u_755.1 c hid g code ans dbt u_755.2.1 u_755.2.2.1 u_755.2.2.2.1 u_755.2.2.2.2.1 u_755.2.2.2.2.2 wr3)) H := hP
          replace hD : va_D (fun q : Nat => s.heap.size ≤ q) (WX ad cI cZ c g hid code ans dbt opn2 ply2 hps2 (OL ao cJ ov2 :: WM bd cI u_755.1 c hid g code ans dbt u_755.2.1 u_755.2.2.1 u_755.2.2.2.1 u_755.2.2.2.2.1 u_755.2.2.2.2.2 wr3)) := hD
          replace hI : XI (c) (g) (hid) (code) (ans) (dbt) opn2 := hI2
          replace eo : r_737 = nI 0 → ov2 0 = _ := eo
          refine lv_istore (lv' := [(6, .int (r_755)), (5, .int (r_737)), (0, .ref (b)), (1, .ref (ad 0)), (2, .ref (bd 0)), (3, .ref (ao)), (4, .int (nI (i)))]) hx hb dL_law_758 hl (by decide) rfl (fun ls hl => ?_)
          refine lv_aload_n hx hb dL_law_760 rfl (lv_at hl 4 rfl) ?_
          have hP9 := xm_P hP
          have hD9 := xm_D hD
          refine x_csi (va_runV (As := []) (rest := []) ⟨hx, hb, hml, hown, hts⟩ (c_X2_thrown l D cI cZ cG cJ (fun q : Nat => s.heap.size ≤ q) bd (WX ad cI cZ c g hid code ans dbt opn2 ply2 hps2 (OL ao cJ ov2 :: wr3)) u_755.1 c hid g code ans dbt u_755.2.1 u_755.2.2.1 u_755.2.2.2.1 u_755.2.2.2.2.1 u_755.2.2.2.2.2 ) (cwV 0 hts gL_law_X2_thrown rfl rfl rfl (by decide +kernel) ⟨Nat.le_of_ble_eq_true rfl, Nat.le_of_ble_eq_true rfl⟩) (preV (ci := 2) (q0 := 0) hB hS hP9 hD9 rfl rfl) rfl rfl hl.1 rfl (lv_room (Nat.le_of_ble_eq_true rfl)) dL_law_761 ⟨Nat.le_trans (by first | exact Nat.le_add_right _ _ | exact Nat.add_le_add_left (by decide) _ | (simp only [Nat.add_assoc]; exact Nat.add_le_add_left (by decide) _)) hk3, Nat.le_trans (by first | exact Nat.le_add_right _ _ | exact Nat.add_le_add_left (by decide) _ | (simp only [Nat.add_assoc]; exact Nat.add_le_add_left (by decide) _)) hs3⟩) ?_
          refine lv_iload hx hb dL_law_764 (lv_at hl 1 rfl) ?_
          refine lv_icmp_eq (tgt := 771) hx hb dL_law_766 (by decide) (fun c766 => ?_) (fun c766 => absurd c766 (fun q => q ek.symm))
          refine lv_iload hx hb dL_law_771 (lv_at hl 1 rfl) ?_
          refine lv_if_ne (tgt := 788) hx hb dL_law_773 (by decide) (fun c773 => ?_) (fun c773 => ?_)
          · skip
            refine lv_goto (tgt := 1338) hx hb dL_law_788 (by decide) ?_
            refine lv_iinc (v := nI (i + 4)) (lv' := [(4, .int (nI (i + 4))), (6, .int (r_755)), (5, .int (r_737)), (0, .ref (b)), (1, .ref (ad 0)), (2, .ref (bd 0)), (3, .ref (ao))]) hx hb dL_law_1338 hl (k := 6) rfl (nI_add _ _) (by decide) rfl (fun ls hl => ?_)
            refine lv_goto (tgt := 23) hx hb dL_law_1341 (by decide) ?_
            exact ih23 (n := n + 1) (i := i + 4) (c := c) (g := g) (hid := hid) (code := code) (ans := ans) (dbt := dbt) (opn := opn2) (ply := ply2) (hps := hps2) (ov := ov2) (th := u_755.1) (many := u_755.2.1) (row := u_755.2.2.1) (heap := u_755.2.2.2.1) (our := u_755.2.2.2.2.1) (the := u_755.2.2.2.2.2) (kc := _) (ks := _) (ls := ls) (hl := lv_sub hl [3, 4, 5, 6, 0] rfl) (H := H) (locs := locs) (hP := hP) (hD := hD) (hS := hS) (hinv := by
                exact ⟨hn5, hi2, hi4, hI, room_n h5 hn5 (by first | exact Nat.le_add_right _ _ | exact Nat.add_le_add_left (by decide) _ | (simp only [Nat.add_assoc]; exact Nat.add_le_add_left (by decide) _)), room_n h6 hn5 (by first | exact Nat.le_add_right _ _ | exact Nat.add_le_add_left (by decide) _ | (simp only [Nat.add_assoc]; exact Nat.add_le_add_left (by decide) _))⟩
              ) (hn9 := by
                exact mu_n hn9 hn5
              )
          · skip
            refine lv_aload_n hx hb dL_law_776 rfl (lv_at hl 5 rfl) ?_
            refine lv_iconst (v := nI (0)) hx hb dL_law_777 (by decide) ?_
            refine va_lald hx hb hK hP 7 3 rfl rfl (vp_in_nI (n := 0) (N := 1) (by decide) (by decide)) dL_law_778 ?_
            refine x_tl (y := (r_755).toInt64) (by rw [nI_clamp (by decide)]; exact eo c773) ?_
            refine lv_iload hx hb dL_law_779 (lv_at hl 0 rfl) ?_
            refine lv_i2l hx hb dL_law_781 rfl ?_
            refine W.lcmp hx hb dL_law_782 ?_
            refine x_ti (y := 0) (lg_cmp_self _) ?_
            refine lv_if_eq (tgt := 788) hx hb dL_law_783 (by decide) (fun c783 => ?_) (fun c783 => absurd c783 (fun q => q rfl))
            refine lv_goto (tgt := 1338) hx hb dL_law_788 (by decide) ?_
            refine lv_iinc (v := nI (i + 4)) (lv' := [(4, .int (nI (i + 4))), (6, .int (r_755)), (5, .int (r_737)), (0, .ref (b)), (1, .ref (ad 0)), (2, .ref (bd 0)), (3, .ref (ao))]) hx hb dL_law_1338 hl (k := 6) rfl (nI_add _ _) (by decide) rfl (fun ls hl => ?_)
            refine lv_goto (tgt := 23) hx hb dL_law_1341 (by decide) ?_
            exact ih23 (n := n + 1) (i := i + 4) (c := c) (g := g) (hid := hid) (code := code) (ans := ans) (dbt := dbt) (opn := opn2) (ply := ply2) (hps := hps2) (ov := ov2) (th := u_755.1) (many := u_755.2.1) (row := u_755.2.2.1) (heap := u_755.2.2.2.1) (our := u_755.2.2.2.2.1) (the := u_755.2.2.2.2.2) (kc := _) (ks := _) (ls := ls) (hl := lv_sub hl [3, 4, 5, 6, 0] rfl) (H := H) (locs := locs) (hP := hP) (hD := hD) (hS := hS) (hinv := by
                exact ⟨hn5, hi2, hi4, hI, room_n h5 hn5 (by first | exact Nat.le_add_right _ _ | exact Nat.add_le_add_left (by decide) _ | (simp only [Nat.add_assoc]; exact Nat.add_le_add_left (by decide) _)), room_n h6 hn5 (by first | exact Nat.le_add_right _ _ | exact Nat.add_le_add_left (by decide) _ | (simp only [Nat.add_assoc]; exact Nat.add_le_add_left (by decide) _))⟩
              ) (hn9 := by
                exact mu_n hn9 hn5
              )
        · refine x_ti (y := nI 10) hwj ?_
          refine lv_tableIn (tgt := 791) (off := 752) hx hb dL_law_39 (by decide) (by decide) rfl (by decide) ?_
          refine lv_aload_n hx hb dL_law_791 rfl (lv_at hl 1 rfl) ?_
          refine lv_aload_n hx hb dL_law_792 rfl (lv_at hl 0 rfl) ?_
          refine lv_iload hx hb dL_law_793 (lv_at hl 4 rfl) ?_
          refine lv_iconst (v := nI (1)) hx hb dL_law_795 (by decide) ?_
          refine lv_iadd hx hb dL_law_796 ?_
          refine x_ti (nI_add _ _) ?_
          refine x_sld hx hb hX hbl hbA hS (i := i + 1) (by first | exact hj0 | exact hj1 | exact hj2 | exact hj3) hL31 dL_law_797 ?_
          refine lv_aload_n hx hb dL_law_798 rfl (lv_at hl 3 rfl) ?_
          refine va_calli (vx_runSW (As := [.ref (ad 0), .int (xs (i + 1)), .ref (ao)]) (rest := []) ⟨hx, hb, hml, hown, hts⟩ (c_L_count l hfl D cI cZ cG cJ (fun q : Nat => s.heap.size ≤ q) ad ao (WM bd cI th c hid g code ans dbt many row heap our the wr3) (pal_m hpal) c g hid code ans dbt opn ply hps ov (xs (i + 1)) (hI)) (vx_cwSW 3 hts gL_law_L_count rfl rfl rfl (by decide +kernel) ⟨Nat.le_of_ble_eq_true rfl, Nat.le_of_ble_eq_true rfl⟩) (preS hB hS hP hD) rfl rfl hl.1 rfl (lv_room (Nat.le_of_ble_eq_true rfl)) dL_law_799 ⟨Nat.le_trans (by first | exact Nat.le_add_right _ _ | exact Nat.add_le_add_left (by decide) _ | (simp only [Nat.add_assoc]; exact Nat.add_le_add_left (by decide) _)) hk3, Nat.le_trans (by first | exact Nat.le_add_right _ _ | exact Nat.add_le_add_left (by decide) _ | (simp only [Nat.add_assoc]; exact Nat.add_le_add_left (by decide) _)) hs3⟩) hS (fun q _ h => h) (fun q h => h) (fun r_799 u_799 t9 H1 locs1 ht9 hvm9 hw_799 hBw hz9 hk9 hS => ?_)
          obtain ⟨hP, hD⟩ := hBw
          rw [ht9] at hP
          generalize H1 = H at hP hS ⊢
          generalize locs1 = locs at hS ⊢
          replace hP : va_P D vwCl (WX ad cI cZ u_799.1.1 u_799.1.2.1 u_799.1.2.2.1 u_799.1.2.2.2.1 u_799.1.2.2.2.2.1 u_799.1.2.2.2.2.2.1 u_799.1.2.2.2.2.2.2.1 u_799.1.2.2.2.2.2.2.2.1 u_799.1.2.2.2.2.2.2.2.2 (OL ao cJ u_799.2 :: WM bd cI th c hid g code ans dbt many row heap our the wr3)) H := hP
          replace hD : va_D (fun q : Nat => s.heap.size ≤ q) (WX ad cI cZ u_799.1.1 u_799.1.2.1 u_799.1.2.2.1 u_799.1.2.2.2.1 u_799.1.2.2.2.2.1 u_799.1.2.2.2.2.2.1 u_799.1.2.2.2.2.2.2.1 u_799.1.2.2.2.2.2.2.2.1 u_799.1.2.2.2.2.2.2.2.2 (OL ao cJ u_799.2 :: WM bd cI th c hid g code ans dbt many row heap our the wr3)) := hD
          refine lv_istore (lv' := [(5, .int (r_799)), (0, .ref (b)), (1, .ref (ad 0)), (2, .ref (bd 0)), (3, .ref (ao)), (4, .int (nI (i)))]) hx hb dL_law_802 hl (by decide) rfl (fun ls hl => ?_)
          refine lv_aload_n hx hb dL_law_804 rfl (lv_at hl 3 rfl) ?_
          refine lv_aload_n hx hb dL_law_805 rfl (lv_at hl 1 rfl) ?_
          refine lv_iload hx hb dL_law_806 (lv_at hl 5 rfl) ?_
          refine lv_iconst (v := nI (1)) hx hb dL_law_808 (by decide) ?_
          refine lv_iadd hx hb dL_law_809 ?_
          refine x_ti (nI_add _ _) ?_
          refine x_sld hx hb hX hbl hbA hS (i := i + 1) (by first | exact hj0 | exact hj1 | exact hj2 | exact hj3) hL31 dL_law_810 ?_
          have hP9 := xm_P hP
          have hD9 := xm_D hD
          refine va_calli (va_runV (As := [.int (xs (i + 1))]) (rest := []) ⟨hx, hb, hml, hown, hts⟩ (c_X2_count l D cI cZ cG cJ (fun q : Nat => s.heap.size ≤ q) bd (WX ad cI cZ u_799.1.1 u_799.1.2.1 u_799.1.2.2.1 u_799.1.2.2.2.1 u_799.1.2.2.2.2.1 u_799.1.2.2.2.2.2.1 u_799.1.2.2.2.2.2.2.1 u_799.1.2.2.2.2.2.2.2.1 u_799.1.2.2.2.2.2.2.2.2 (OL ao cJ u_799.2 :: wr3)) th c hid g code ans dbt many row heap our the (xs (i + 1)) (hc) (hg) (hco)) (cwV 1 hts gL_law_X2_count rfl rfl rfl (by decide +kernel) ⟨Nat.le_of_ble_eq_true rfl, Nat.le_of_ble_eq_true rfl⟩) (preV (ci := 2) (q0 := 0) hB hS hP9 hD9 rfl rfl) rfl rfl hl.1 rfl (lv_room (Nat.le_of_ble_eq_true rfl)) dL_law_811 ⟨Nat.le_trans (by first | exact Nat.le_add_right _ _ | exact Nat.add_le_add_left (by decide) _ | (simp only [Nat.add_assoc]; exact Nat.add_le_add_left (by decide) _)) hk3, Nat.le_trans (by first | exact Nat.le_add_right _ _ | exact Nat.add_le_add_left (by decide) _ | (simp only [Nat.add_assoc]; exact Nat.add_le_add_left (by decide) _)) hs3⟩) hS (fun q _ h => h) (fun q h => h) (fun r_811 u_811 t9 H1 locs1 ht9 hvm9 hw_811 hBw hz9 hk9 hS => ?_)
          obtain ⟨hP, hD⟩ := hBw
          rw [ht9] at hP
          generalize H1 = H at hP hS ⊢
          generalize locs1 = locs at hS ⊢
          replace hP := mx_P hP
          replace hD := mx_D hD
          replace hP : va_P D vwCl (WX ad cI cZ u_799.1.1 u_799.1.2.1 u_799.1.2.2.1 u_799.1.2.2.2.1 u_799.1.2.2.2.2.1 u_799.1.2.2.2.2.2.1 u_799.1.2.2.2.2.2.2.1 u_799.1.2.2.2.2.2.2.2.1 u_799.1.2.2.2.2.2.2.2.2 (OL ao cJ u_799.2 :: WM bd cI u_811.1 c hid g code ans dbt u_811.2.1 u_811.2.2.1 u_811.2.2.2.1 u_811.2.2.2.2.1 u_811.2.2.2.2.2 wr3)) H := hP
          replace hD : va_D (fun q : Nat => s.heap.size ≤ q) (WX ad cI cZ u_799.1.1 u_799.1.2.1 u_799.1.2.2.1 u_799.1.2.2.2.1 u_799.1.2.2.2.2.1 u_799.1.2.2.2.2.2.1 u_799.1.2.2.2.2.2.2.1 u_799.1.2.2.2.2.2.2.2.1 u_799.1.2.2.2.2.2.2.2.2 (OL ao cJ u_799.2 :: WM bd cI u_811.1 c hid g code ans dbt u_811.2.1 u_811.2.2.1 u_811.2.2.2.1 u_811.2.2.2.2.1 u_811.2.2.2.2.2 wr3)) := hD
          have hkey := key_count hI hw_799 hw_811
          obtain ⟨⟨c2, g2, hid2, code2, ans2, dbt2, opn2, ply2, hps2⟩, ov2⟩ := u_799
          obtain ⟨ek, eo, q1, q2, q3, q4, q5, q6, hI2⟩ := hkey
          change c2 = _ at q1
          change g2 = _ at q2
          change hid2 = _ at q3
          change code2 = _ at q4
          change ans2 = _ at q5
          change dbt2 = _ at q6
          replace q1 := Eq.symm q1; replace q2 := Eq.symm q2; replace q3 := Eq.symm q3; replace q4 := Eq.symm q4; replace q5 := Eq.symm q5; replace q6 := Eq.symm q6
          subst q1; subst q2; subst q3; subst q4; subst q5; subst q6
          replace hP : va_P D vwCl (WX ad cI cZ c g hid code ans dbt opn2 ply2 hps2 (OL ao cJ ov2 :: WM bd cI u_811.1 c hid g code ans dbt u_811.2.1 u_811.2.2.1 u_811.2.2.2.1 u_811.2.2.2.2.1 u_811.2.2.2.2.2 wr3)) H := hP
          replace hD : va_D (fun q : Nat => s.heap.size ≤ q) (WX ad cI cZ c g hid code ans dbt opn2 ply2 hps2 (OL ao cJ ov2 :: WM bd cI u_811.1 c hid g code ans dbt u_811.2.1 u_811.2.2.1 u_811.2.2.2.1 u_811.2.2.2.2.1 u_811.2.2.2.2.2 wr3)) := hD
          replace hI : XI (c) (g) (hid) (code) (ans) (dbt) opn2 := hI2
          replace eo : r_799 = nI 0 → ov2 0 = _ := eo
          refine lv_istore (lv' := [(6, .int (r_811)), (5, .int (r_799)), (0, .ref (b)), (1, .ref (ad 0)), (2, .ref (bd 0)), (3, .ref (ao)), (4, .int (nI (i)))]) hx hb dL_law_814 hl (by decide) rfl (fun ls hl => ?_)
          refine lv_aload_n hx hb dL_law_816 rfl (lv_at hl 4 rfl) ?_
          have hP9 := xm_P hP
          have hD9 := xm_D hD
          refine x_csi (va_runV (As := []) (rest := []) ⟨hx, hb, hml, hown, hts⟩ (c_X2_thrown l D cI cZ cG cJ (fun q : Nat => s.heap.size ≤ q) bd (WX ad cI cZ c g hid code ans dbt opn2 ply2 hps2 (OL ao cJ ov2 :: wr3)) u_811.1 c hid g code ans dbt u_811.2.1 u_811.2.2.1 u_811.2.2.2.1 u_811.2.2.2.2.1 u_811.2.2.2.2.2 ) (cwV 0 hts gL_law_X2_thrown rfl rfl rfl (by decide +kernel) ⟨Nat.le_of_ble_eq_true rfl, Nat.le_of_ble_eq_true rfl⟩) (preV (ci := 2) (q0 := 0) hB hS hP9 hD9 rfl rfl) rfl rfl hl.1 rfl (lv_room (Nat.le_of_ble_eq_true rfl)) dL_law_817 ⟨Nat.le_trans (by first | exact Nat.le_add_right _ _ | exact Nat.add_le_add_left (by decide) _ | (simp only [Nat.add_assoc]; exact Nat.add_le_add_left (by decide) _)) hk3, Nat.le_trans (by first | exact Nat.le_add_right _ _ | exact Nat.add_le_add_left (by decide) _ | (simp only [Nat.add_assoc]; exact Nat.add_le_add_left (by decide) _)) hs3⟩) ?_
          refine lv_iload hx hb dL_law_820 (lv_at hl 1 rfl) ?_
          refine lv_icmp_eq (tgt := 827) hx hb dL_law_822 (by decide) (fun c822 => ?_) (fun c822 => absurd c822 (fun q => q ek.symm))
          refine lv_iload hx hb dL_law_827 (lv_at hl 1 rfl) ?_
          refine lv_if_ne (tgt := 844) hx hb dL_law_829 (by decide) (fun c829 => ?_) (fun c829 => ?_)
          · skip
            refine lv_goto (tgt := 1338) hx hb dL_law_844 (by decide) ?_
            refine lv_iinc (v := nI (i + 4)) (lv' := [(4, .int (nI (i + 4))), (6, .int (r_811)), (5, .int (r_799)), (0, .ref (b)), (1, .ref (ad 0)), (2, .ref (bd 0)), (3, .ref (ao))]) hx hb dL_law_1338 hl (k := 6) rfl (nI_add _ _) (by decide) rfl (fun ls hl => ?_)
            refine lv_goto (tgt := 23) hx hb dL_law_1341 (by decide) ?_
            exact ih23 (n := n + 1) (i := i + 4) (c := c) (g := g) (hid := hid) (code := code) (ans := ans) (dbt := dbt) (opn := opn2) (ply := ply2) (hps := hps2) (ov := ov2) (th := u_811.1) (many := u_811.2.1) (row := u_811.2.2.1) (heap := u_811.2.2.2.1) (our := u_811.2.2.2.2.1) (the := u_811.2.2.2.2.2) (kc := _) (ks := _) (ls := ls) (hl := lv_sub hl [3, 4, 5, 6, 0] rfl) (H := H) (locs := locs) (hP := hP) (hD := hD) (hS := hS) (hinv := by
                exact ⟨hn5, hi2, hi4, hI, room_n h5 hn5 (by first | exact Nat.le_add_right _ _ | exact Nat.add_le_add_left (by decide) _ | (simp only [Nat.add_assoc]; exact Nat.add_le_add_left (by decide) _)), room_n h6 hn5 (by first | exact Nat.le_add_right _ _ | exact Nat.add_le_add_left (by decide) _ | (simp only [Nat.add_assoc]; exact Nat.add_le_add_left (by decide) _))⟩
              ) (hn9 := by
                exact mu_n hn9 hn5
              )
          · skip
            refine lv_aload_n hx hb dL_law_832 rfl (lv_at hl 5 rfl) ?_
            refine lv_iconst (v := nI (0)) hx hb dL_law_833 (by decide) ?_
            refine va_lald hx hb hK hP 7 3 rfl rfl (vp_in_nI (n := 0) (N := 1) (by decide) (by decide)) dL_law_834 ?_
            refine x_tl (y := (r_811).toInt64) (by rw [nI_clamp (by decide)]; exact eo c829) ?_
            refine lv_iload hx hb dL_law_835 (lv_at hl 0 rfl) ?_
            refine lv_i2l hx hb dL_law_837 rfl ?_
            refine W.lcmp hx hb dL_law_838 ?_
            refine x_ti (y := 0) (lg_cmp_self _) ?_
            refine lv_if_eq (tgt := 844) hx hb dL_law_839 (by decide) (fun c839 => ?_) (fun c839 => absurd c839 (fun q => q rfl))
            refine lv_goto (tgt := 1338) hx hb dL_law_844 (by decide) ?_
            refine lv_iinc (v := nI (i + 4)) (lv' := [(4, .int (nI (i + 4))), (6, .int (r_811)), (5, .int (r_799)), (0, .ref (b)), (1, .ref (ad 0)), (2, .ref (bd 0)), (3, .ref (ao))]) hx hb dL_law_1338 hl (k := 6) rfl (nI_add _ _) (by decide) rfl (fun ls hl => ?_)
            refine lv_goto (tgt := 23) hx hb dL_law_1341 (by decide) ?_
            exact ih23 (n := n + 1) (i := i + 4) (c := c) (g := g) (hid := hid) (code := code) (ans := ans) (dbt := dbt) (opn := opn2) (ply := ply2) (hps := hps2) (ov := ov2) (th := u_811.1) (many := u_811.2.1) (row := u_811.2.2.1) (heap := u_811.2.2.2.1) (our := u_811.2.2.2.2.1) (the := u_811.2.2.2.2.2) (kc := _) (ks := _) (ls := ls) (hl := lv_sub hl [3, 4, 5, 6, 0] rfl) (H := H) (locs := locs) (hP := hP) (hD := hD) (hS := hS) (hinv := by
                exact ⟨hn5, hi2, hi4, hI, room_n h5 hn5 (by first | exact Nat.le_add_right _ _ | exact Nat.add_le_add_left (by decide) _ | (simp only [Nat.add_assoc]; exact Nat.add_le_add_left (by decide) _)), room_n h6 hn5 (by first | exact Nat.le_add_right _ _ | exact Nat.add_le_add_left (by decide) _ | (simp only [Nat.add_assoc]; exact Nat.add_le_add_left (by decide) _))⟩
              ) (hn9 := by
                exact mu_n hn9 hn5
              )
        · refine x_ti (y := nI 11) hwj ?_
          refine lv_tableIn (tgt := 847) (off := 808) hx hb dL_law_39 (by decide) (by decide) rfl (by decide) ?_
          refine lv_aload_n hx hb dL_law_847 rfl (lv_at hl 1 rfl) ?_
          refine lv_aload_n hx hb dL_law_848 rfl (lv_at hl 0 rfl) ?_
          refine lv_iload hx hb dL_law_849 (lv_at hl 4 rfl) ?_
          refine lv_iconst (v := nI (1)) hx hb dL_law_851 (by decide) ?_
          refine lv_iadd hx hb dL_law_852 ?_
          refine x_ti (nI_add _ _) ?_
          refine x_sld hx hb hX hbl hbA hS (i := i + 1) (by first | exact hj0 | exact hj1 | exact hj2 | exact hj3) hL31 dL_law_853 ?_
          refine lv_aload_n hx hb dL_law_854 rfl (lv_at hl 3 rfl) ?_
          refine va_calli (vx_runSW (As := [.ref (ad 0), .int (xs (i + 1)), .ref (ao)]) (rest := []) ⟨hx, hb, hml, hown, hts⟩ (c_L_isPossible l hfl D cI cZ cG cJ (fun q : Nat => s.heap.size ≤ q) ad ao (WM bd cI th c hid g code ans dbt many row heap our the wr3) (pal_m hpal) c g hid code ans dbt opn ply hps ov (xs (i + 1)) (hI)) (vx_cwSW 3 hts gL_law_L_isPossible rfl rfl rfl (by decide +kernel) ⟨Nat.le_of_ble_eq_true rfl, Nat.le_of_ble_eq_true rfl⟩) (preS hB hS hP hD) rfl rfl hl.1 rfl (lv_room (Nat.le_of_ble_eq_true rfl)) dL_law_855 ⟨Nat.le_trans (by first | exact Nat.le_add_right _ _ | exact Nat.add_le_add_left (by decide) _ | (simp only [Nat.add_assoc]; exact Nat.add_le_add_left (by decide) _)) hk3, Nat.le_trans (by first | exact Nat.le_add_right _ _ | exact Nat.add_le_add_left (by decide) _ | (simp only [Nat.add_assoc]; exact Nat.add_le_add_left (by decide) _)) hs3⟩) hS (fun q _ h => h) (fun q h => h) (fun r_855 u_855 t9 H1 locs1 ht9 hvm9 hw_855 hBw hz9 hk9 hS => ?_)
          obtain ⟨hP, hD⟩ := hBw
          rw [ht9] at hP
          generalize H1 = H at hP hS ⊢
          generalize locs1 = locs at hS ⊢
          replace hP : va_P D vwCl (WX ad cI cZ u_855.1.1 u_855.1.2.1 u_855.1.2.2.1 u_855.1.2.2.2.1 u_855.1.2.2.2.2.1 u_855.1.2.2.2.2.2.1 u_855.1.2.2.2.2.2.2.1 u_855.1.2.2.2.2.2.2.2.1 u_855.1.2.2.2.2.2.2.2.2 (OL ao cJ u_855.2 :: WM bd cI th c hid g code ans dbt many row heap our the wr3)) H := hP
          replace hD : va_D (fun q : Nat => s.heap.size ≤ q) (WX ad cI cZ u_855.1.1 u_855.1.2.1 u_855.1.2.2.1 u_855.1.2.2.2.1 u_855.1.2.2.2.2.1 u_855.1.2.2.2.2.2.1 u_855.1.2.2.2.2.2.2.1 u_855.1.2.2.2.2.2.2.2.1 u_855.1.2.2.2.2.2.2.2.2 (OL ao cJ u_855.2 :: WM bd cI th c hid g code ans dbt many row heap our the wr3)) := hD
          refine lv_istore (lv' := [(5, .int (r_855)), (0, .ref (b)), (1, .ref (ad 0)), (2, .ref (bd 0)), (3, .ref (ao)), (4, .int (nI (i)))]) hx hb dL_law_858 hl (by decide) rfl (fun ls hl => ?_)
          refine lv_aload_n hx hb dL_law_860 rfl (lv_at hl 3 rfl) ?_
          refine lv_aload_n hx hb dL_law_861 rfl (lv_at hl 1 rfl) ?_
          refine lv_iload hx hb dL_law_862 (lv_at hl 5 rfl) ?_
          refine lv_iconst (v := nI (1)) hx hb dL_law_864 (by decide) ?_
          refine lv_iadd hx hb dL_law_865 ?_
          refine x_ti (nI_add _ _) ?_
          refine x_sld hx hb hX hbl hbA hS (i := i + 1) (by first | exact hj0 | exact hj1 | exact hj2 | exact hj3) hL31 dL_law_866 ?_
          have hP9 := xm_P hP
          have hD9 := xm_D hD
          refine va_calli (va_runV (As := [.int (xs (i + 1))]) (rest := []) ⟨hx, hb, hml, hown, hts⟩ (c_X2_isPossible l D cI cZ cG cJ (fun q : Nat => s.heap.size ≤ q) bd (WX ad cI cZ u_855.1.1 u_855.1.2.1 u_855.1.2.2.1 u_855.1.2.2.2.1 u_855.1.2.2.2.2.1 u_855.1.2.2.2.2.2.1 u_855.1.2.2.2.2.2.2.1 u_855.1.2.2.2.2.2.2.2.1 u_855.1.2.2.2.2.2.2.2.2 (OL ao cJ u_855.2 :: wr3)) th c hid g code ans dbt many row heap our the (xs (i + 1)) (hc) (hg) (hco)) (cwV 1 hts gL_law_X2_isPossible rfl rfl rfl (by decide +kernel) ⟨Nat.le_of_ble_eq_true rfl, Nat.le_of_ble_eq_true rfl⟩) (preV (ci := 2) (q0 := 0) hB hS hP9 hD9 rfl rfl) rfl rfl hl.1 rfl (lv_room (Nat.le_of_ble_eq_true rfl)) dL_law_867 ⟨Nat.le_trans (by first | exact Nat.le_add_right _ _ | exact Nat.add_le_add_left (by decide) _ | (simp only [Nat.add_assoc]; exact Nat.add_le_add_left (by decide) _)) hk3, Nat.le_trans (by first | exact Nat.le_add_right _ _ | exact Nat.add_le_add_left (by decide) _ | (simp only [Nat.add_assoc]; exact Nat.add_le_add_left (by decide) _)) hs3⟩) hS (fun q _ h => h) (fun q h => h) (fun r_867 u_867 t9 H1 locs1 ht9 hvm9 hw_867 hBw hz9 hk9 hS => ?_)
          obtain ⟨hP, hD⟩ := hBw
          rw [ht9] at hP
          generalize H1 = H at hP hS ⊢
          generalize locs1 = locs at hS ⊢
          replace hP := mx_P hP
          replace hD := mx_D hD
          replace hP : va_P D vwCl (WX ad cI cZ u_855.1.1 u_855.1.2.1 u_855.1.2.2.1 u_855.1.2.2.2.1 u_855.1.2.2.2.2.1 u_855.1.2.2.2.2.2.1 u_855.1.2.2.2.2.2.2.1 u_855.1.2.2.2.2.2.2.2.1 u_855.1.2.2.2.2.2.2.2.2 (OL ao cJ u_855.2 :: WM bd cI u_867.1 c hid g code ans dbt many row heap u_867.2.1 u_867.2.2 wr3)) H := hP
          replace hD : va_D (fun q : Nat => s.heap.size ≤ q) (WX ad cI cZ u_855.1.1 u_855.1.2.1 u_855.1.2.2.1 u_855.1.2.2.2.1 u_855.1.2.2.2.2.1 u_855.1.2.2.2.2.2.1 u_855.1.2.2.2.2.2.2.1 u_855.1.2.2.2.2.2.2.2.1 u_855.1.2.2.2.2.2.2.2.2 (OL ao cJ u_855.2 :: WM bd cI u_867.1 c hid g code ans dbt many row heap u_867.2.1 u_867.2.2 wr3)) := hD
          have hkey := key_isPossible hI hw_855 hw_867
          obtain ⟨⟨c2, g2, hid2, code2, ans2, dbt2, opn2, ply2, hps2⟩, ov2⟩ := u_855
          obtain ⟨ek, eo, q1, q2, q3, q4, q5, q6, hI2⟩ := hkey
          change c2 = _ at q1
          change g2 = _ at q2
          change hid2 = _ at q3
          change code2 = _ at q4
          change ans2 = _ at q5
          change dbt2 = _ at q6
          replace q1 := Eq.symm q1; replace q2 := Eq.symm q2; replace q3 := Eq.symm q3; replace q4 := Eq.symm q4; replace q5 := Eq.symm q5; replace q6 := Eq.symm q6
          subst q1; subst q2; subst q3; subst q4; subst q5; subst q6
          replace hP : va_P D vwCl (WX ad cI cZ c g hid code ans dbt opn2 ply2 hps2 (OL ao cJ ov2 :: WM bd cI u_867.1 c hid g code ans dbt many row heap u_867.2.1 u_867.2.2 wr3)) H := hP
          replace hD : va_D (fun q : Nat => s.heap.size ≤ q) (WX ad cI cZ c g hid code ans dbt opn2 ply2 hps2 (OL ao cJ ov2 :: WM bd cI u_867.1 c hid g code ans dbt many row heap u_867.2.1 u_867.2.2 wr3)) := hD
          replace hI : XI (c) (g) (hid) (code) (ans) (dbt) opn2 := hI2
          replace eo : r_855 = nI 0 → ov2 0 = _ := eo
          refine lv_istore (lv' := [(6, .int (r_867)), (5, .int (r_855)), (0, .ref (b)), (1, .ref (ad 0)), (2, .ref (bd 0)), (3, .ref (ao)), (4, .int (nI (i)))]) hx hb dL_law_870 hl (by decide) rfl (fun ls hl => ?_)
          refine lv_aload_n hx hb dL_law_872 rfl (lv_at hl 4 rfl) ?_
          have hP9 := xm_P hP
          have hD9 := xm_D hD
          refine x_csi (va_runV (As := []) (rest := []) ⟨hx, hb, hml, hown, hts⟩ (c_X2_thrown l D cI cZ cG cJ (fun q : Nat => s.heap.size ≤ q) bd (WX ad cI cZ c g hid code ans dbt opn2 ply2 hps2 (OL ao cJ ov2 :: wr3)) u_867.1 c hid g code ans dbt many row heap u_867.2.1 u_867.2.2 ) (cwV 0 hts gL_law_X2_thrown rfl rfl rfl (by decide +kernel) ⟨Nat.le_of_ble_eq_true rfl, Nat.le_of_ble_eq_true rfl⟩) (preV (ci := 2) (q0 := 0) hB hS hP9 hD9 rfl rfl) rfl rfl hl.1 rfl (lv_room (Nat.le_of_ble_eq_true rfl)) dL_law_873 ⟨Nat.le_trans (by first | exact Nat.le_add_right _ _ | exact Nat.add_le_add_left (by decide) _ | (simp only [Nat.add_assoc]; exact Nat.add_le_add_left (by decide) _)) hk3, Nat.le_trans (by first | exact Nat.le_add_right _ _ | exact Nat.add_le_add_left (by decide) _ | (simp only [Nat.add_assoc]; exact Nat.add_le_add_left (by decide) _)) hs3⟩) ?_
          refine lv_iload hx hb dL_law_876 (lv_at hl 1 rfl) ?_
          refine lv_icmp_eq (tgt := 883) hx hb dL_law_878 (by decide) (fun c878 => ?_) (fun c878 => absurd c878 (fun q => q ek.symm))
          refine lv_iload hx hb dL_law_883 (lv_at hl 1 rfl) ?_
          refine lv_if_ne (tgt := 907) hx hb dL_law_885 (by decide) (fun c885 => ?_) (fun c885 => ?_)
          · skip
            refine lv_goto (tgt := 1338) hx hb dL_law_907 (by decide) ?_
            refine lv_iinc (v := nI (i + 4)) (lv' := [(4, .int (nI (i + 4))), (6, .int (r_867)), (5, .int (r_855)), (0, .ref (b)), (1, .ref (ad 0)), (2, .ref (bd 0)), (3, .ref (ao))]) hx hb dL_law_1338 hl (k := 6) rfl (nI_add _ _) (by decide) rfl (fun ls hl => ?_)
            refine lv_goto (tgt := 23) hx hb dL_law_1341 (by decide) ?_
            exact ih23 (n := n + 1) (i := i + 4) (c := c) (g := g) (hid := hid) (code := code) (ans := ans) (dbt := dbt) (opn := opn2) (ply := ply2) (hps := hps2) (ov := ov2) (th := u_867.1) (many := many) (row := row) (heap := heap) (our := u_867.2.1) (the := u_867.2.2) (kc := _) (ks := _) (ls := ls) (hl := lv_sub hl [3, 4, 5, 6, 0] rfl) (H := H) (locs := locs) (hP := hP) (hD := hD) (hS := hS) (hinv := by
                exact ⟨hn5, hi2, hi4, hI, room_n h5 hn5 (by first | exact Nat.le_add_right _ _ | exact Nat.add_le_add_left (by decide) _ | (simp only [Nat.add_assoc]; exact Nat.add_le_add_left (by decide) _)), room_n h6 hn5 (by first | exact Nat.le_add_right _ _ | exact Nat.add_le_add_left (by decide) _ | (simp only [Nat.add_assoc]; exact Nat.add_le_add_left (by decide) _))⟩
              ) (hn9 := by
                exact mu_n hn9 hn5
              )
          · skip
            refine lv_aload_n hx hb dL_law_888 rfl (lv_at hl 5 rfl) ?_
            refine lv_iconst (v := nI (0)) hx hb dL_law_889 (by decide) ?_
            refine va_lald hx hb hK hP 7 3 rfl rfl (vp_in_nI (n := 0) (N := 1) (by decide) (by decide)) dL_law_890 ?_
            refine lv_iload hx hb dL_law_891 (lv_at hl 0 rfl) ?_
            refine lv_if_eq (tgt := 900) hx hb dL_law_893 (by decide) (fun c893 => ?_) (fun c893 => ?_)
            · skip
              refine lv_lconst (v := 0) hx hb dL_law_900 (by decide) ?_
              refine W.lcmp hx hb dL_law_901 ?_
              refine x_ti (y := 0) (by rw [nI_clamp (by decide), eo c885]; first | (rw [if_pos c893]; exact lg_cmp_self _) | (rw [if_neg c893]; exact lg_cmp_self _)) ?_
              refine lv_if_eq (tgt := 907) hx hb dL_law_902 (by decide) (fun c902 => ?_) (fun c902 => absurd c902 (fun q => q rfl))
              refine lv_goto (tgt := 1338) hx hb dL_law_907 (by decide) ?_
              refine lv_iinc (v := nI (i + 4)) (lv' := [(4, .int (nI (i + 4))), (6, .int (r_867)), (5, .int (r_855)), (0, .ref (b)), (1, .ref (ad 0)), (2, .ref (bd 0)), (3, .ref (ao))]) hx hb dL_law_1338 hl (k := 6) rfl (nI_add _ _) (by decide) rfl (fun ls hl => ?_)
              refine lv_goto (tgt := 23) hx hb dL_law_1341 (by decide) ?_
              exact ih23 (n := n + 1) (i := i + 4) (c := c) (g := g) (hid := hid) (code := code) (ans := ans) (dbt := dbt) (opn := opn2) (ply := ply2) (hps := hps2) (ov := ov2) (th := u_867.1) (many := many) (row := row) (heap := heap) (our := u_867.2.1) (the := u_867.2.2) (kc := _) (ks := _) (ls := ls) (hl := lv_sub hl [3, 4, 5, 6, 0] rfl) (H := H) (locs := locs) (hP := hP) (hD := hD) (hS := hS) (hinv := by
                  exact ⟨hn5, hi2, hi4, hI, room_n h5 hn5 (by first | exact Nat.le_add_right _ _ | exact Nat.add_le_add_left (by decide) _ | (simp only [Nat.add_assoc]; exact Nat.add_le_add_left (by decide) _)), room_n h6 hn5 (by first | exact Nat.le_add_right _ _ | exact Nat.add_le_add_left (by decide) _ | (simp only [Nat.add_assoc]; exact Nat.add_le_add_left (by decide) _))⟩
                ) (hn9 := by
                  exact mu_n hn9 hn5
                )
            · skip
              refine lv_lconst (v := 1) hx hb dL_law_896 (by decide) ?_
              refine lv_goto (tgt := 901) hx hb dL_law_897 (by decide) ?_
              refine W.lcmp hx hb dL_law_901 ?_
              refine x_ti (y := 0) (by rw [nI_clamp (by decide), eo c885]; first | (rw [if_pos c893]; exact lg_cmp_self _) | (rw [if_neg c893]; exact lg_cmp_self _)) ?_
              refine lv_if_eq (tgt := 907) hx hb dL_law_902 (by decide) (fun c902 => ?_) (fun c902 => absurd c902 (fun q => q rfl))
              refine lv_goto (tgt := 1338) hx hb dL_law_907 (by decide) ?_
              refine lv_iinc (v := nI (i + 4)) (lv' := [(4, .int (nI (i + 4))), (6, .int (r_867)), (5, .int (r_855)), (0, .ref (b)), (1, .ref (ad 0)), (2, .ref (bd 0)), (3, .ref (ao))]) hx hb dL_law_1338 hl (k := 6) rfl (nI_add _ _) (by decide) rfl (fun ls hl => ?_)
              refine lv_goto (tgt := 23) hx hb dL_law_1341 (by decide) ?_
              exact ih23 (n := n + 1) (i := i + 4) (c := c) (g := g) (hid := hid) (code := code) (ans := ans) (dbt := dbt) (opn := opn2) (ply := ply2) (hps := hps2) (ov := ov2) (th := u_867.1) (many := many) (row := row) (heap := heap) (our := u_867.2.1) (the := u_867.2.2) (kc := _) (ks := _) (ls := ls) (hl := lv_sub hl [3, 4, 5, 6, 0] rfl) (H := H) (locs := locs) (hP := hP) (hD := hD) (hS := hS) (hinv := by
                  exact ⟨hn5, hi2, hi4, hI, room_n h5 hn5 (by first | exact Nat.le_add_right _ _ | exact Nat.add_le_add_left (by decide) _ | (simp only [Nat.add_assoc]; exact Nat.add_le_add_left (by decide) _)), room_n h6 hn5 (by first | exact Nat.le_add_right _ _ | exact Nat.add_le_add_left (by decide) _ | (simp only [Nat.add_assoc]; exact Nat.add_le_add_left (by decide) _))⟩
                ) (hn9 := by
                  exact mu_n hn9 hn5
                )
        · refine x_ti (y := nI 12) hwj ?_
          refine lv_tableIn (tgt := 910) (off := 871) hx hb dL_law_39 (by decide) (by decide) rfl (by decide) ?_
          refine lv_aload_n hx hb dL_law_910 rfl (lv_at hl 1 rfl) ?_
          refine lv_aload_n hx hb dL_law_911 rfl (lv_at hl 0 rfl) ?_
          refine lv_iload hx hb dL_law_912 (lv_at hl 4 rfl) ?_
          refine lv_iconst (v := nI (1)) hx hb dL_law_914 (by decide) ?_
          refine lv_iadd hx hb dL_law_915 ?_
          refine x_ti (nI_add _ _) ?_
          refine x_sld hx hb hX hbl hbA hS (i := i + 1) (by first | exact hj0 | exact hj1 | exact hj2 | exact hj3) hL31 dL_law_916 ?_
          refine lv_aload_n hx hb dL_law_917 rfl (lv_at hl 3 rfl) ?_
          refine va_calli (vx_runSW (As := [.ref (ad 0), .int (xs (i + 1)), .ref (ao)]) (rest := []) ⟨hx, hb, hml, hown, hts⟩ (c_L_possible l hfl D cI cZ cG cJ (fun q : Nat => s.heap.size ≤ q) ad ao (WM bd cI th c hid g code ans dbt many row heap our the wr3) (pal_m hpal) c g hid code ans dbt opn ply hps ov (xs (i + 1)) (hI)) (vx_cwSW 3 hts gL_law_L_possible rfl rfl rfl (by decide +kernel) ⟨Nat.le_of_ble_eq_true rfl, Nat.le_of_ble_eq_true rfl⟩) (preS hB hS hP hD) rfl rfl hl.1 rfl (lv_room (Nat.le_of_ble_eq_true rfl)) dL_law_918 ⟨Nat.le_trans (by first | exact Nat.le_add_right _ _ | exact Nat.add_le_add_left (by decide) _ | (simp only [Nat.add_assoc]; exact Nat.add_le_add_left (by decide) _)) hk3, Nat.le_trans (by first | exact Nat.le_add_right _ _ | exact Nat.add_le_add_left (by decide) _ | (simp only [Nat.add_assoc]; exact Nat.add_le_add_left (by decide) _)) hs3⟩) hS (fun q _ h => h) (fun q h => h) (fun r_918 u_918 t9 H1 locs1 ht9 hvm9 hw_918 hBw hz9 hk9 hS => ?_)
          obtain ⟨hP, hD⟩ := hBw
          rw [ht9] at hP
          generalize H1 = H at hP hS ⊢
          generalize locs1 = locs at hS ⊢
          replace hP : va_P D vwCl (WX ad cI cZ u_918.1.1 u_918.1.2.1 u_918.1.2.2.1 u_918.1.2.2.2.1 u_918.1.2.2.2.2.1 u_918.1.2.2.2.2.2.1 u_918.1.2.2.2.2.2.2.1 u_918.1.2.2.2.2.2.2.2.1 u_918.1.2.2.2.2.2.2.2.2 (OL ao cJ u_918.2 :: WM bd cI th c hid g code ans dbt many row heap our the wr3)) H := hP
          replace hD : va_D (fun q : Nat => s.heap.size ≤ q) (WX ad cI cZ u_918.1.1 u_918.1.2.1 u_918.1.2.2.1 u_918.1.2.2.2.1 u_918.1.2.2.2.2.1 u_918.1.2.2.2.2.2.1 u_918.1.2.2.2.2.2.2.1 u_918.1.2.2.2.2.2.2.2.1 u_918.1.2.2.2.2.2.2.2.2 (OL ao cJ u_918.2 :: WM bd cI th c hid g code ans dbt many row heap our the wr3)) := hD
          refine lv_istore (lv' := [(5, .int (r_918)), (0, .ref (b)), (1, .ref (ad 0)), (2, .ref (bd 0)), (3, .ref (ao)), (4, .int (nI (i)))]) hx hb dL_law_921 hl (by decide) rfl (fun ls hl => ?_)
          refine lv_aload_n hx hb dL_law_923 rfl (lv_at hl 3 rfl) ?_
          refine lv_aload_n hx hb dL_law_924 rfl (lv_at hl 1 rfl) ?_
          refine lv_iload hx hb dL_law_925 (lv_at hl 5 rfl) ?_
          refine lv_iconst (v := nI (1)) hx hb dL_law_927 (by decide) ?_
          refine lv_iadd hx hb dL_law_928 ?_
          refine x_ti (nI_add _ _) ?_
          refine x_sld hx hb hX hbl hbA hS (i := i + 1) (by first | exact hj0 | exact hj1 | exact hj2 | exact hj3) hL31 dL_law_929 ?_
          have hP9 := xm_P hP
          have hD9 := xm_D hD
          refine va_calli (va_runV (As := [.int (xs (i + 1))]) (rest := []) ⟨hx, hb, hml, hown, hts⟩ (c_X2_possible l D cI cZ cG cJ (fun q : Nat => s.heap.size ≤ q) bd (WX ad cI cZ u_918.1.1 u_918.1.2.1 u_918.1.2.2.1 u_918.1.2.2.2.1 u_918.1.2.2.2.2.1 u_918.1.2.2.2.2.2.1 u_918.1.2.2.2.2.2.2.1 u_918.1.2.2.2.2.2.2.2.1 u_918.1.2.2.2.2.2.2.2.2 (OL ao cJ u_918.2 :: wr3)) th c hid g code ans dbt many row heap our the (xs (i + 1)) (hc) (hg) (hco)) (cwV 1 hts gL_law_X2_possible rfl rfl rfl (by decide +kernel) ⟨Nat.le_of_ble_eq_true rfl, Nat.le_of_ble_eq_true rfl⟩) (preV (ci := 2) (q0 := 0) hB hS hP9 hD9 rfl rfl) rfl rfl hl.1 rfl (lv_room (Nat.le_of_ble_eq_true rfl)) dL_law_930 ⟨Nat.le_trans (by first | exact Nat.le_add_right _ _ | exact Nat.add_le_add_left (by decide) _ | (simp only [Nat.add_assoc]; exact Nat.add_le_add_left (by decide) _)) hk3, Nat.le_trans (by first | exact Nat.le_add_right _ _ | exact Nat.add_le_add_left (by decide) _ | (simp only [Nat.add_assoc]; exact Nat.add_le_add_left (by decide) _)) hs3⟩) hS (fun q _ h => h) (fun q h => h) (fun r_930 u_930 t9 H1 locs1 ht9 hvm9 hw_930 hBw hz9 hk9 hS => ?_)
          obtain ⟨hP, hD⟩ := hBw
          rw [ht9] at hP
          generalize H1 = H at hP hS ⊢
          generalize locs1 = locs at hS ⊢
          replace hP := mx_P hP
          replace hD := mx_D hD
          replace hP : va_P D vwCl (WX ad cI cZ u_918.1.1 u_918.1.2.1 u_918.1.2.2.1 u_918.1.2.2.2.1 u_918.1.2.2.2.2.1 u_918.1.2.2.2.2.2.1 u_918.1.2.2.2.2.2.2.1 u_918.1.2.2.2.2.2.2.2.1 u_918.1.2.2.2.2.2.2.2.2 (OL ao cJ u_918.2 :: WM bd cI u_930.1 c hid g code ans dbt u_930.2.1 u_930.2.2.1 u_930.2.2.2.1 u_930.2.2.2.2.1 u_930.2.2.2.2.2 wr3)) H := hP
          replace hD : va_D (fun q : Nat => s.heap.size ≤ q) (WX ad cI cZ u_918.1.1 u_918.1.2.1 u_918.1.2.2.1 u_918.1.2.2.2.1 u_918.1.2.2.2.2.1 u_918.1.2.2.2.2.2.1 u_918.1.2.2.2.2.2.2.1 u_918.1.2.2.2.2.2.2.2.1 u_918.1.2.2.2.2.2.2.2.2 (OL ao cJ u_918.2 :: WM bd cI u_930.1 c hid g code ans dbt u_930.2.1 u_930.2.2.1 u_930.2.2.2.1 u_930.2.2.2.2.1 u_930.2.2.2.2.2 wr3)) := hD
          have hkey := key_possible hI hw_918 hw_930
          obtain ⟨⟨c2, g2, hid2, code2, ans2, dbt2, opn2, ply2, hps2⟩, ov2⟩ := u_918
          obtain ⟨ek, eo, q1, q2, q3, q4, q5, q6, hI2⟩ := hkey
          change c2 = _ at q1
          change g2 = _ at q2
          change hid2 = _ at q3
          change code2 = _ at q4
          change ans2 = _ at q5
          change dbt2 = _ at q6
          replace q1 := Eq.symm q1; replace q2 := Eq.symm q2; replace q3 := Eq.symm q3; replace q4 := Eq.symm q4; replace q5 := Eq.symm q5; replace q6 := Eq.symm q6
          subst q1; subst q2; subst q3; subst q4; subst q5; subst q6
          replace hP : va_P D vwCl (WX ad cI cZ c g hid code ans dbt opn2 ply2 hps2 (OL ao cJ ov2 :: WM bd cI u_930.1 c hid g code ans dbt u_930.2.1 u_930.2.2.1 u_930.2.2.2.1 u_930.2.2.2.2.1 u_930.2.2.2.2.2 wr3)) H := hP
          replace hD : va_D (fun q : Nat => s.heap.size ≤ q) (WX ad cI cZ c g hid code ans dbt opn2 ply2 hps2 (OL ao cJ ov2 :: WM bd cI u_930.1 c hid g code ans dbt u_930.2.1 u_930.2.2.1 u_930.2.2.2.1 u_930.2.2.2.2.1 u_930.2.2.2.2.2 wr3)) := hD
          replace hI : XI (c) (g) (hid) (code) (ans) (dbt) opn2 := hI2
          replace eo : r_918 = nI 0 → ov2 0 = _ := eo
          refine lv_istore (lv' := [(6, .int (r_930)), (5, .int (r_918)), (0, .ref (b)), (1, .ref (ad 0)), (2, .ref (bd 0)), (3, .ref (ao)), (4, .int (nI (i)))]) hx hb dL_law_933 hl (by decide) rfl (fun ls hl => ?_)
          refine lv_aload_n hx hb dL_law_935 rfl (lv_at hl 4 rfl) ?_
          have hP9 := xm_P hP
          have hD9 := xm_D hD
          refine x_csi (va_runV (As := []) (rest := []) ⟨hx, hb, hml, hown, hts⟩ (c_X2_thrown l D cI cZ cG cJ (fun q : Nat => s.heap.size ≤ q) bd (WX ad cI cZ c g hid code ans dbt opn2 ply2 hps2 (OL ao cJ ov2 :: wr3)) u_930.1 c hid g code ans dbt u_930.2.1 u_930.2.2.1 u_930.2.2.2.1 u_930.2.2.2.2.1 u_930.2.2.2.2.2 ) (cwV 0 hts gL_law_X2_thrown rfl rfl rfl (by decide +kernel) ⟨Nat.le_of_ble_eq_true rfl, Nat.le_of_ble_eq_true rfl⟩) (preV (ci := 2) (q0 := 0) hB hS hP9 hD9 rfl rfl) rfl rfl hl.1 rfl (lv_room (Nat.le_of_ble_eq_true rfl)) dL_law_936 ⟨Nat.le_trans (by first | exact Nat.le_add_right _ _ | exact Nat.add_le_add_left (by decide) _ | (simp only [Nat.add_assoc]; exact Nat.add_le_add_left (by decide) _)) hk3, Nat.le_trans (by first | exact Nat.le_add_right _ _ | exact Nat.add_le_add_left (by decide) _ | (simp only [Nat.add_assoc]; exact Nat.add_le_add_left (by decide) _)) hs3⟩) ?_
          refine lv_iload hx hb dL_law_939 (lv_at hl 1 rfl) ?_
          refine lv_icmp_eq (tgt := 946) hx hb dL_law_941 (by decide) (fun c941 => ?_) (fun c941 => absurd c941 (fun q => q ek.symm))
          refine lv_iload hx hb dL_law_946 (lv_at hl 1 rfl) ?_
          refine lv_if_ne (tgt := 963) hx hb dL_law_948 (by decide) (fun c948 => ?_) (fun c948 => ?_)
          · skip
            refine lv_goto (tgt := 1338) hx hb dL_law_963 (by decide) ?_
            refine lv_iinc (v := nI (i + 4)) (lv' := [(4, .int (nI (i + 4))), (6, .int (r_930)), (5, .int (r_918)), (0, .ref (b)), (1, .ref (ad 0)), (2, .ref (bd 0)), (3, .ref (ao))]) hx hb dL_law_1338 hl (k := 6) rfl (nI_add _ _) (by decide) rfl (fun ls hl => ?_)
            refine lv_goto (tgt := 23) hx hb dL_law_1341 (by decide) ?_
            exact ih23 (n := n + 1) (i := i + 4) (c := c) (g := g) (hid := hid) (code := code) (ans := ans) (dbt := dbt) (opn := opn2) (ply := ply2) (hps := hps2) (ov := ov2) (th := u_930.1) (many := u_930.2.1) (row := u_930.2.2.1) (heap := u_930.2.2.2.1) (our := u_930.2.2.2.2.1) (the := u_930.2.2.2.2.2) (kc := _) (ks := _) (ls := ls) (hl := lv_sub hl [3, 4, 5, 6, 0] rfl) (H := H) (locs := locs) (hP := hP) (hD := hD) (hS := hS) (hinv := by
                exact ⟨hn5, hi2, hi4, hI, room_n h5 hn5 (by first | exact Nat.le_add_right _ _ | exact Nat.add_le_add_left (by decide) _ | (simp only [Nat.add_assoc]; exact Nat.add_le_add_left (by decide) _)), room_n h6 hn5 (by first | exact Nat.le_add_right _ _ | exact Nat.add_le_add_left (by decide) _ | (simp only [Nat.add_assoc]; exact Nat.add_le_add_left (by decide) _))⟩
              ) (hn9 := by
                exact mu_n hn9 hn5
              )
          · skip
            refine lv_aload_n hx hb dL_law_951 rfl (lv_at hl 5 rfl) ?_
            refine lv_iconst (v := nI (0)) hx hb dL_law_952 (by decide) ?_
            refine va_lald hx hb hK hP 7 3 rfl rfl (vp_in_nI (n := 0) (N := 1) (by decide) (by decide)) dL_law_953 ?_
            refine x_tl (y := (r_930).toInt64) (by rw [nI_clamp (by decide)]; exact eo c948) ?_
            refine lv_iload hx hb dL_law_954 (lv_at hl 0 rfl) ?_
            refine lv_i2l hx hb dL_law_956 rfl ?_
            refine W.lcmp hx hb dL_law_957 ?_
            refine x_ti (y := 0) (lg_cmp_self _) ?_
            refine lv_if_eq (tgt := 963) hx hb dL_law_958 (by decide) (fun c958 => ?_) (fun c958 => absurd c958 (fun q => q rfl))
            refine lv_goto (tgt := 1338) hx hb dL_law_963 (by decide) ?_
            refine lv_iinc (v := nI (i + 4)) (lv' := [(4, .int (nI (i + 4))), (6, .int (r_930)), (5, .int (r_918)), (0, .ref (b)), (1, .ref (ad 0)), (2, .ref (bd 0)), (3, .ref (ao))]) hx hb dL_law_1338 hl (k := 6) rfl (nI_add _ _) (by decide) rfl (fun ls hl => ?_)
            refine lv_goto (tgt := 23) hx hb dL_law_1341 (by decide) ?_
            exact ih23 (n := n + 1) (i := i + 4) (c := c) (g := g) (hid := hid) (code := code) (ans := ans) (dbt := dbt) (opn := opn2) (ply := ply2) (hps := hps2) (ov := ov2) (th := u_930.1) (many := u_930.2.1) (row := u_930.2.2.1) (heap := u_930.2.2.2.1) (our := u_930.2.2.2.2.1) (the := u_930.2.2.2.2.2) (kc := _) (ks := _) (ls := ls) (hl := lv_sub hl [3, 4, 5, 6, 0] rfl) (H := H) (locs := locs) (hP := hP) (hD := hD) (hS := hS) (hinv := by
                exact ⟨hn5, hi2, hi4, hI, room_n h5 hn5 (by first | exact Nat.le_add_right _ _ | exact Nat.add_le_add_left (by decide) _ | (simp only [Nat.add_assoc]; exact Nat.add_le_add_left (by decide) _)), room_n h6 hn5 (by first | exact Nat.le_add_right _ _ | exact Nat.add_le_add_left (by decide) _ | (simp only [Nat.add_assoc]; exact Nat.add_le_add_left (by decide) _))⟩
              ) (hn9 := by
                exact mu_n hn9 hn5
              )
        · refine x_ti (y := nI 13) hwj ?_
          refine lv_tableIn (tgt := 966) (off := 927) hx hb dL_law_39 (by decide) (by decide) rfl (by decide) ?_
          refine lv_aload_n hx hb dL_law_966 rfl (lv_at hl 1 rfl) ?_
          refine lv_aload_n hx hb dL_law_967 rfl (lv_at hl 0 rfl) ?_
          refine lv_iload hx hb dL_law_968 (lv_at hl 4 rfl) ?_
          refine lv_iconst (v := nI (1)) hx hb dL_law_970 (by decide) ?_
          refine lv_iadd hx hb dL_law_971 ?_
          refine x_ti (nI_add _ _) ?_
          refine x_sld hx hb hX hbl hbA hS (i := i + 1) (by first | exact hj0 | exact hj1 | exact hj2 | exact hj3) hL31 dL_law_972 ?_
          refine lv_aload_n hx hb dL_law_973 rfl (lv_at hl 0 rfl) ?_
          refine lv_iload hx hb dL_law_974 (lv_at hl 4 rfl) ?_
          refine lv_iconst (v := nI (2)) hx hb dL_law_976 (by decide) ?_
          refine lv_iadd hx hb dL_law_977 ?_
          refine x_ti (nI_add _ _) ?_
          refine x_sld hx hb hX hbl hbA hS (i := i + 2) (by first | exact hj0 | exact hj1 | exact hj2 | exact hj3) hL31 dL_law_978 ?_
          refine lv_aload_n hx hb dL_law_979 rfl (lv_at hl 3 rfl) ?_
          refine va_calli (vx_runSW (As := [.ref (ad 0), .int (xs (i + 1)), .int (xs (i + 2)), .ref (ao)]) (rest := []) ⟨hx, hb, hml, hown, hts⟩ (c_L_have l hfl D cI cZ cG cJ (fun q : Nat => s.heap.size ≤ q) ad ao (WM bd cI th c hid g code ans dbt many row heap our the wr3) (pal_m hpal) c g hid code ans dbt opn ply hps ov (xs (i + 1)) (xs (i + 2)) (hI)) (vx_cwSW 4 hts gL_law_L_have rfl rfl rfl (by decide +kernel) ⟨Nat.le_of_ble_eq_true rfl, Nat.le_of_ble_eq_true rfl⟩) (preS hB hS hP hD) rfl rfl hl.1 rfl (lv_room (Nat.le_of_ble_eq_true rfl)) dL_law_980 ⟨Nat.le_trans (by first | exact Nat.le_add_right _ _ | exact Nat.add_le_add_left (by decide) _ | (simp only [Nat.add_assoc]; exact Nat.add_le_add_left (by decide) _)) hk3, Nat.le_trans (by first | exact Nat.le_add_right _ _ | exact Nat.add_le_add_left (by decide) _ | (simp only [Nat.add_assoc]; exact Nat.add_le_add_left (by decide) _)) hs3⟩) hS (fun q _ h => h) (fun q h => h) (fun r_980 u_980 t9 H1 locs1 ht9 hvm9 hw_980 hBw hz9 hk9 hS => ?_)
          obtain ⟨hP, hD⟩ := hBw
          rw [ht9] at hP
          generalize H1 = H at hP hS ⊢
          generalize locs1 = locs at hS ⊢
          replace hP : va_P D vwCl (WX ad cI cZ u_980.1.1 u_980.1.2.1 u_980.1.2.2.1 u_980.1.2.2.2.1 u_980.1.2.2.2.2.1 u_980.1.2.2.2.2.2.1 u_980.1.2.2.2.2.2.2.1 u_980.1.2.2.2.2.2.2.2.1 u_980.1.2.2.2.2.2.2.2.2 (OL ao cJ u_980.2 :: WM bd cI th c hid g code ans dbt many row heap our the wr3)) H := hP
          replace hD : va_D (fun q : Nat => s.heap.size ≤ q) (WX ad cI cZ u_980.1.1 u_980.1.2.1 u_980.1.2.2.1 u_980.1.2.2.2.1 u_980.1.2.2.2.2.1 u_980.1.2.2.2.2.2.1 u_980.1.2.2.2.2.2.2.1 u_980.1.2.2.2.2.2.2.2.1 u_980.1.2.2.2.2.2.2.2.2 (OL ao cJ u_980.2 :: WM bd cI th c hid g code ans dbt many row heap our the wr3)) := hD
          refine lv_istore (lv' := [(5, .int (r_980)), (0, .ref (b)), (1, .ref (ad 0)), (2, .ref (bd 0)), (3, .ref (ao)), (4, .int (nI (i)))]) hx hb dL_law_983 hl (by decide) rfl (fun ls hl => ?_)
          refine lv_aload_n hx hb dL_law_985 rfl (lv_at hl 3 rfl) ?_
          refine lv_aload_n hx hb dL_law_986 rfl (lv_at hl 1 rfl) ?_
          refine lv_iload hx hb dL_law_987 (lv_at hl 5 rfl) ?_
          refine lv_iconst (v := nI (1)) hx hb dL_law_989 (by decide) ?_
          refine lv_iadd hx hb dL_law_990 ?_
          refine x_ti (nI_add _ _) ?_
          refine x_sld hx hb hX hbl hbA hS (i := i + 1) (by first | exact hj0 | exact hj1 | exact hj2 | exact hj3) hL31 dL_law_991 ?_
          refine lv_aload_n hx hb dL_law_992 rfl (lv_at hl 1 rfl) ?_
          refine lv_iload hx hb dL_law_993 (lv_at hl 5 rfl) ?_
          refine lv_iconst (v := nI (2)) hx hb dL_law_995 (by decide) ?_
          refine lv_iadd hx hb dL_law_996 ?_
          refine x_ti (nI_add _ _) ?_
          refine x_sld hx hb hX hbl hbA hS (i := i + 2) (by first | exact hj0 | exact hj1 | exact hj2 | exact hj3) hL31 dL_law_997 ?_
          have hP9 := xm_P hP
          have hD9 := xm_D hD
          refine va_calli (va_runV (As := [.int (xs (i + 1)), .int (xs (i + 2))]) (rest := []) ⟨hx, hb, hml, hown, hts⟩ (c_X2_have_ l D cI cZ cG cJ (fun q : Nat => s.heap.size ≤ q) bd (WX ad cI cZ u_980.1.1 u_980.1.2.1 u_980.1.2.2.1 u_980.1.2.2.2.1 u_980.1.2.2.2.2.1 u_980.1.2.2.2.2.2.1 u_980.1.2.2.2.2.2.2.1 u_980.1.2.2.2.2.2.2.2.1 u_980.1.2.2.2.2.2.2.2.2 (OL ao cJ u_980.2 :: wr3)) th c hid g code ans dbt many row heap our the (xs (i + 1)) (xs (i + 2)) (hc) (hg) (hco)) (cwV 2 hts gL_law_X2_have_ rfl rfl rfl (by decide +kernel) ⟨Nat.le_of_ble_eq_true rfl, Nat.le_of_ble_eq_true rfl⟩) (preV (ci := 2) (q0 := 0) hB hS hP9 hD9 rfl rfl) rfl rfl hl.1 rfl (lv_room (Nat.le_of_ble_eq_true rfl)) dL_law_998 ⟨Nat.le_trans (by first | exact Nat.le_add_right _ _ | exact Nat.add_le_add_left (by decide) _ | (simp only [Nat.add_assoc]; exact Nat.add_le_add_left (by decide) _)) hk3, Nat.le_trans (by first | exact Nat.le_add_right _ _ | exact Nat.add_le_add_left (by decide) _ | (simp only [Nat.add_assoc]; exact Nat.add_le_add_left (by decide) _)) hs3⟩) hS (fun q _ h => h) (fun q h => h) (fun r_998 u_998 t9 H1 locs1 ht9 hvm9 hw_998 hBw hz9 hk9 hS => ?_)
          obtain ⟨hP, hD⟩ := hBw
          rw [ht9] at hP
          generalize H1 = H at hP hS ⊢
          generalize locs1 = locs at hS ⊢
          replace hP := mx_P hP
          replace hD := mx_D hD
          replace hP : va_P D vwCl (WX ad cI cZ u_980.1.1 u_980.1.2.1 u_980.1.2.2.1 u_980.1.2.2.2.1 u_980.1.2.2.2.2.1 u_980.1.2.2.2.2.2.1 u_980.1.2.2.2.2.2.2.1 u_980.1.2.2.2.2.2.2.2.1 u_980.1.2.2.2.2.2.2.2.2 (OL ao cJ u_980.2 :: WM bd cI u_998.1 c hid g code ans dbt u_998.2.1 u_998.2.2.1 u_998.2.2.2.1 u_998.2.2.2.2.1 u_998.2.2.2.2.2 wr3)) H := hP
          replace hD : va_D (fun q : Nat => s.heap.size ≤ q) (WX ad cI cZ u_980.1.1 u_980.1.2.1 u_980.1.2.2.1 u_980.1.2.2.2.1 u_980.1.2.2.2.2.1 u_980.1.2.2.2.2.2.1 u_980.1.2.2.2.2.2.2.1 u_980.1.2.2.2.2.2.2.2.1 u_980.1.2.2.2.2.2.2.2.2 (OL ao cJ u_980.2 :: WM bd cI u_998.1 c hid g code ans dbt u_998.2.1 u_998.2.2.1 u_998.2.2.2.1 u_998.2.2.2.2.1 u_998.2.2.2.2.2 wr3)) := hD
          have hkey := key_have hI hw_980 hw_998
          obtain ⟨⟨c2, g2, hid2, code2, ans2, dbt2, opn2, ply2, hps2⟩, ov2⟩ := u_980
          obtain ⟨ek, eo, q1, q2, q3, q4, q5, q6, hI2⟩ := hkey
          change c2 = _ at q1
          change g2 = _ at q2
          change hid2 = _ at q3
          change code2 = _ at q4
          change ans2 = _ at q5
          change dbt2 = _ at q6
          replace q1 := Eq.symm q1; replace q2 := Eq.symm q2; replace q3 := Eq.symm q3; replace q4 := Eq.symm q4; replace q5 := Eq.symm q5; replace q6 := Eq.symm q6
          subst q1; subst q2; subst q3; subst q4; subst q5; subst q6
          replace hP : va_P D vwCl (WX ad cI cZ c g hid code ans dbt opn2 ply2 hps2 (OL ao cJ ov2 :: WM bd cI u_998.1 c hid g code ans dbt u_998.2.1 u_998.2.2.1 u_998.2.2.2.1 u_998.2.2.2.2.1 u_998.2.2.2.2.2 wr3)) H := hP
          replace hD : va_D (fun q : Nat => s.heap.size ≤ q) (WX ad cI cZ c g hid code ans dbt opn2 ply2 hps2 (OL ao cJ ov2 :: WM bd cI u_998.1 c hid g code ans dbt u_998.2.1 u_998.2.2.1 u_998.2.2.2.1 u_998.2.2.2.2.1 u_998.2.2.2.2.2 wr3)) := hD
          replace hI : XI (c) (g) (hid) (code) (ans) (dbt) opn2 := hI2
          replace eo : r_980 = nI 0 → ov2 0 = _ := eo
          refine lv_istore (lv' := [(6, .int (r_998)), (5, .int (r_980)), (0, .ref (b)), (1, .ref (ad 0)), (2, .ref (bd 0)), (3, .ref (ao)), (4, .int (nI (i)))]) hx hb dL_law_1001 hl (by decide) rfl (fun ls hl => ?_)
          refine lv_aload_n hx hb dL_law_1003 rfl (lv_at hl 4 rfl) ?_
          have hP9 := xm_P hP
          have hD9 := xm_D hD
          refine x_csi (va_runV (As := []) (rest := []) ⟨hx, hb, hml, hown, hts⟩ (c_X2_thrown l D cI cZ cG cJ (fun q : Nat => s.heap.size ≤ q) bd (WX ad cI cZ c g hid code ans dbt opn2 ply2 hps2 (OL ao cJ ov2 :: wr3)) u_998.1 c hid g code ans dbt u_998.2.1 u_998.2.2.1 u_998.2.2.2.1 u_998.2.2.2.2.1 u_998.2.2.2.2.2 ) (cwV 0 hts gL_law_X2_thrown rfl rfl rfl (by decide +kernel) ⟨Nat.le_of_ble_eq_true rfl, Nat.le_of_ble_eq_true rfl⟩) (preV (ci := 2) (q0 := 0) hB hS hP9 hD9 rfl rfl) rfl rfl hl.1 rfl (lv_room (Nat.le_of_ble_eq_true rfl)) dL_law_1004 ⟨Nat.le_trans (by first | exact Nat.le_add_right _ _ | exact Nat.add_le_add_left (by decide) _ | (simp only [Nat.add_assoc]; exact Nat.add_le_add_left (by decide) _)) hk3, Nat.le_trans (by first | exact Nat.le_add_right _ _ | exact Nat.add_le_add_left (by decide) _ | (simp only [Nat.add_assoc]; exact Nat.add_le_add_left (by decide) _)) hs3⟩) ?_
          refine lv_iload hx hb dL_law_1007 (lv_at hl 1 rfl) ?_
          refine lv_icmp_eq (tgt := 1014) hx hb dL_law_1009 (by decide) (fun c1009 => ?_) (fun c1009 => absurd c1009 (fun q => q ek.symm))
          refine lv_iload hx hb dL_law_1014 (lv_at hl 1 rfl) ?_
          refine lv_if_ne (tgt := 1031) hx hb dL_law_1016 (by decide) (fun c1016 => ?_) (fun c1016 => ?_)
          · skip
            refine lv_goto (tgt := 1338) hx hb dL_law_1031 (by decide) ?_
            refine lv_iinc (v := nI (i + 4)) (lv' := [(4, .int (nI (i + 4))), (6, .int (r_998)), (5, .int (r_980)), (0, .ref (b)), (1, .ref (ad 0)), (2, .ref (bd 0)), (3, .ref (ao))]) hx hb dL_law_1338 hl (k := 6) rfl (nI_add _ _) (by decide) rfl (fun ls hl => ?_)
            refine lv_goto (tgt := 23) hx hb dL_law_1341 (by decide) ?_
            exact ih23 (n := n + 1) (i := i + 4) (c := c) (g := g) (hid := hid) (code := code) (ans := ans) (dbt := dbt) (opn := opn2) (ply := ply2) (hps := hps2) (ov := ov2) (th := u_998.1) (many := u_998.2.1) (row := u_998.2.2.1) (heap := u_998.2.2.2.1) (our := u_998.2.2.2.2.1) (the := u_998.2.2.2.2.2) (kc := _) (ks := _) (ls := ls) (hl := lv_sub hl [3, 4, 5, 6, 0] rfl) (H := H) (locs := locs) (hP := hP) (hD := hD) (hS := hS) (hinv := by
                exact ⟨hn5, hi2, hi4, hI, room_n h5 hn5 (by first | exact Nat.le_add_right _ _ | exact Nat.add_le_add_left (by decide) _ | (simp only [Nat.add_assoc]; exact Nat.add_le_add_left (by decide) _)), room_n h6 hn5 (by first | exact Nat.le_add_right _ _ | exact Nat.add_le_add_left (by decide) _ | (simp only [Nat.add_assoc]; exact Nat.add_le_add_left (by decide) _))⟩
              ) (hn9 := by
                exact mu_n hn9 hn5
              )
          · skip
            refine lv_aload_n hx hb dL_law_1019 rfl (lv_at hl 5 rfl) ?_
            refine lv_iconst (v := nI (0)) hx hb dL_law_1020 (by decide) ?_
            refine va_lald hx hb hK hP 7 3 rfl rfl (vp_in_nI (n := 0) (N := 1) (by decide) (by decide)) dL_law_1021 ?_
            refine x_tl (y := (r_998).toInt64) (by rw [nI_clamp (by decide)]; exact eo c1016) ?_
            refine lv_iload hx hb dL_law_1022 (lv_at hl 0 rfl) ?_
            refine lv_i2l hx hb dL_law_1024 rfl ?_
            refine W.lcmp hx hb dL_law_1025 ?_
            refine x_ti (y := 0) (lg_cmp_self _) ?_
            refine lv_if_eq (tgt := 1031) hx hb dL_law_1026 (by decide) (fun c1026 => ?_) (fun c1026 => absurd c1026 (fun q => q rfl))
            refine lv_goto (tgt := 1338) hx hb dL_law_1031 (by decide) ?_
            refine lv_iinc (v := nI (i + 4)) (lv' := [(4, .int (nI (i + 4))), (6, .int (r_998)), (5, .int (r_980)), (0, .ref (b)), (1, .ref (ad 0)), (2, .ref (bd 0)), (3, .ref (ao))]) hx hb dL_law_1338 hl (k := 6) rfl (nI_add _ _) (by decide) rfl (fun ls hl => ?_)
            refine lv_goto (tgt := 23) hx hb dL_law_1341 (by decide) ?_
            exact ih23 (n := n + 1) (i := i + 4) (c := c) (g := g) (hid := hid) (code := code) (ans := ans) (dbt := dbt) (opn := opn2) (ply := ply2) (hps := hps2) (ov := ov2) (th := u_998.1) (many := u_998.2.1) (row := u_998.2.2.1) (heap := u_998.2.2.2.1) (our := u_998.2.2.2.2.1) (the := u_998.2.2.2.2.2) (kc := _) (ks := _) (ls := ls) (hl := lv_sub hl [3, 4, 5, 6, 0] rfl) (H := H) (locs := locs) (hP := hP) (hD := hD) (hS := hS) (hinv := by
                exact ⟨hn5, hi2, hi4, hI, room_n h5 hn5 (by first | exact Nat.le_add_right _ _ | exact Nat.add_le_add_left (by decide) _ | (simp only [Nat.add_assoc]; exact Nat.add_le_add_left (by decide) _)), room_n h6 hn5 (by first | exact Nat.le_add_right _ _ | exact Nat.add_le_add_left (by decide) _ | (simp only [Nat.add_assoc]; exact Nat.add_le_add_left (by decide) _))⟩
              ) (hn9 := by
                exact mu_n hn9 hn5
              )
        · refine x_ti (y := nI 14) hwj ?_
          refine lv_tableIn (tgt := 1034) (off := 995) hx hb dL_law_39 (by decide) (by decide) rfl (by decide) ?_
          refine lv_aload_n hx hb dL_law_1034 rfl (lv_at hl 1 rfl) ?_
          refine lv_aload_n hx hb dL_law_1035 rfl (lv_at hl 0 rfl) ?_
          refine lv_iload hx hb dL_law_1036 (lv_at hl 4 rfl) ?_
          refine lv_iconst (v := nI (1)) hx hb dL_law_1038 (by decide) ?_
          refine lv_iadd hx hb dL_law_1039 ?_
          refine x_ti (nI_add _ _) ?_
          refine x_sld hx hb hX hbl hbA hS (i := i + 1) (by first | exact hj0 | exact hj1 | exact hj2 | exact hj3) hL31 dL_law_1040 ?_
          refine lv_aload_n hx hb dL_law_1041 rfl (lv_at hl 3 rfl) ?_
          refine va_calli (vx_runSW (As := [.ref (ad 0), .int (xs (i + 1)), .ref (ao)]) (rest := []) ⟨hx, hb, hml, hown, hts⟩ (c_L_sure l hfl D cI cZ cG cJ (fun q : Nat => s.heap.size ≤ q) ad ao (WM bd cI th c hid g code ans dbt many row heap our the wr3) (pal_m hpal) c g hid code ans dbt opn ply hps ov (xs (i + 1)) (hI)) (vx_cwSW 3 hts gL_law_L_sure rfl rfl rfl (by decide +kernel) ⟨Nat.le_of_ble_eq_true rfl, Nat.le_of_ble_eq_true rfl⟩) (preS hB hS hP hD) rfl rfl hl.1 rfl (lv_room (Nat.le_of_ble_eq_true rfl)) dL_law_1042 ⟨Nat.le_trans (by first | exact Nat.le_add_right _ _ | exact Nat.add_le_add_left (by decide) _ | (simp only [Nat.add_assoc]; exact Nat.add_le_add_left (by decide) _)) hk3, Nat.le_trans (by first | exact Nat.le_add_right _ _ | exact Nat.add_le_add_left (by decide) _ | (simp only [Nat.add_assoc]; exact Nat.add_le_add_left (by decide) _)) hs3⟩) hS (fun q _ h => h) (fun q h => h) (fun r_1042 u_1042 t9 H1 locs1 ht9 hvm9 hw_1042 hBw hz9 hk9 hS => ?_)
          obtain ⟨hP, hD⟩ := hBw
          rw [ht9] at hP
          generalize H1 = H at hP hS ⊢
          generalize locs1 = locs at hS ⊢
          replace hP : va_P D vwCl (WX ad cI cZ u_1042.1.1 u_1042.1.2.1 u_1042.1.2.2.1 u_1042.1.2.2.2.1 u_1042.1.2.2.2.2.1 u_1042.1.2.2.2.2.2.1 u_1042.1.2.2.2.2.2.2.1 u_1042.1.2.2.2.2.2.2.2.1 u_1042.1.2.2.2.2.2.2.2.2 (OL ao cJ u_1042.2 :: WM bd cI th c hid g code ans dbt many row heap our the wr3)) H := hP
          replace hD : va_D (fun q : Nat => s.heap.size ≤ q) (WX ad cI cZ u_1042.1.1 u_1042.1.2.1 u_1042.1.2.2.1 u_1042.1.2.2.2.1 u_1042.1.2.2.2.2.1 u_1042.1.2.2.2.2.2.1 u_1042.1.2.2.2.2.2.2.1 u_1042.1.2.2.2.2.2.2.2.1 u_1042.1.2.2.2.2.2.2.2.2 (OL ao cJ u_1042.2 :: WM bd cI th c hid g code ans dbt many row heap our the wr3)) := hD
          refine lv_istore (lv' := [(5, .int (r_1042)), (0, .ref (b)), (1, .ref (ad 0)), (2, .ref (bd 0)), (3, .ref (ao)), (4, .int (nI (i)))]) hx hb dL_law_1045 hl (by decide) rfl (fun ls hl => ?_)
          refine lv_aload_n hx hb dL_law_1047 rfl (lv_at hl 3 rfl) ?_
          refine lv_aload_n hx hb dL_law_1048 rfl (lv_at hl 1 rfl) ?_
          refine lv_iload hx hb dL_law_1049 (lv_at hl 5 rfl) ?_
          refine lv_iconst (v := nI (1)) hx hb dL_law_1051 (by decide) ?_
          refine lv_iadd hx hb dL_law_1052 ?_
          refine x_ti (nI_add _ _) ?_
          refine x_sld hx hb hX hbl hbA hS (i := i + 1) (by first | exact hj0 | exact hj1 | exact hj2 | exact hj3) hL31 dL_law_1053 ?_
          have hP9 := xm_P hP
          have hD9 := xm_D hD
          refine va_calli (va_runV (As := [.int (xs (i + 1))]) (rest := []) ⟨hx, hb, hml, hown, hts⟩ (c_X2_sure l D cI cZ cG cJ (fun q : Nat => s.heap.size ≤ q) bd (WX ad cI cZ u_1042.1.1 u_1042.1.2.1 u_1042.1.2.2.1 u_1042.1.2.2.2.1 u_1042.1.2.2.2.2.1 u_1042.1.2.2.2.2.2.1 u_1042.1.2.2.2.2.2.2.1 u_1042.1.2.2.2.2.2.2.2.1 u_1042.1.2.2.2.2.2.2.2.2 (OL ao cJ u_1042.2 :: wr3)) th c hid g code ans dbt many row heap our the (xs (i + 1)) (hc) (hg) (hco)) (cwV 1 hts gL_law_X2_sure rfl rfl rfl (by decide +kernel) ⟨Nat.le_of_ble_eq_true rfl, Nat.le_of_ble_eq_true rfl⟩) (preV (ci := 2) (q0 := 0) hB hS hP9 hD9 rfl rfl) rfl rfl hl.1 rfl (lv_room (Nat.le_of_ble_eq_true rfl)) dL_law_1054 ⟨Nat.le_trans (by first | exact Nat.le_add_right _ _ | exact Nat.add_le_add_left (by decide) _ | (simp only [Nat.add_assoc]; exact Nat.add_le_add_left (by decide) _)) hk3, Nat.le_trans (by first | exact Nat.le_add_right _ _ | exact Nat.add_le_add_left (by decide) _ | (simp only [Nat.add_assoc]; exact Nat.add_le_add_left (by decide) _)) hs3⟩) hS (fun q _ h => h) (fun q h => h) (fun r_1054 u_1054 t9 H1 locs1 ht9 hvm9 hw_1054 hBw hz9 hk9 hS => ?_)
          obtain ⟨hP, hD⟩ := hBw
          rw [ht9] at hP
          generalize H1 = H at hP hS ⊢
          generalize locs1 = locs at hS ⊢
          replace hP := mx_P hP
          replace hD := mx_D hD
          replace hP : va_P D vwCl (WX ad cI cZ u_1042.1.1 u_1042.1.2.1 u_1042.1.2.2.1 u_1042.1.2.2.2.1 u_1042.1.2.2.2.2.1 u_1042.1.2.2.2.2.2.1 u_1042.1.2.2.2.2.2.2.1 u_1042.1.2.2.2.2.2.2.2.1 u_1042.1.2.2.2.2.2.2.2.2 (OL ao cJ u_1042.2 :: WM bd cI u_1054.1 c hid g code ans dbt u_1054.2.1 u_1054.2.2.1 u_1054.2.2.2.1 u_1054.2.2.2.2.1 u_1054.2.2.2.2.2 wr3)) H := hP
          replace hD : va_D (fun q : Nat => s.heap.size ≤ q) (WX ad cI cZ u_1042.1.1 u_1042.1.2.1 u_1042.1.2.2.1 u_1042.1.2.2.2.1 u_1042.1.2.2.2.2.1 u_1042.1.2.2.2.2.2.1 u_1042.1.2.2.2.2.2.2.1 u_1042.1.2.2.2.2.2.2.2.1 u_1042.1.2.2.2.2.2.2.2.2 (OL ao cJ u_1042.2 :: WM bd cI u_1054.1 c hid g code ans dbt u_1054.2.1 u_1054.2.2.1 u_1054.2.2.2.1 u_1054.2.2.2.2.1 u_1054.2.2.2.2.2 wr3)) := hD
          have hkey := key_sure hI hw_1042 hw_1054
          obtain ⟨⟨c2, g2, hid2, code2, ans2, dbt2, opn2, ply2, hps2⟩, ov2⟩ := u_1042
          obtain ⟨ek, eo, q1, q2, q3, q4, q5, q6, hI2⟩ := hkey
          change c2 = _ at q1
          change g2 = _ at q2
          change hid2 = _ at q3
          change code2 = _ at q4
          change ans2 = _ at q5
          change dbt2 = _ at q6
          replace q1 := Eq.symm q1; replace q2 := Eq.symm q2; replace q3 := Eq.symm q3; replace q4 := Eq.symm q4; replace q5 := Eq.symm q5; replace q6 := Eq.symm q6
          subst q1; subst q2; subst q3; subst q4; subst q5; subst q6
          replace hP : va_P D vwCl (WX ad cI cZ c g hid code ans dbt opn2 ply2 hps2 (OL ao cJ ov2 :: WM bd cI u_1054.1 c hid g code ans dbt u_1054.2.1 u_1054.2.2.1 u_1054.2.2.2.1 u_1054.2.2.2.2.1 u_1054.2.2.2.2.2 wr3)) H := hP
          replace hD : va_D (fun q : Nat => s.heap.size ≤ q) (WX ad cI cZ c g hid code ans dbt opn2 ply2 hps2 (OL ao cJ ov2 :: WM bd cI u_1054.1 c hid g code ans dbt u_1054.2.1 u_1054.2.2.1 u_1054.2.2.2.1 u_1054.2.2.2.2.1 u_1054.2.2.2.2.2 wr3)) := hD
          replace hI : XI (c) (g) (hid) (code) (ans) (dbt) opn2 := hI2
          replace eo : r_1042 = nI 0 → ov2 0 = _ := eo
          refine lv_istore (lv' := [(6, .int (r_1054)), (5, .int (r_1042)), (0, .ref (b)), (1, .ref (ad 0)), (2, .ref (bd 0)), (3, .ref (ao)), (4, .int (nI (i)))]) hx hb dL_law_1057 hl (by decide) rfl (fun ls hl => ?_)
          refine lv_aload_n hx hb dL_law_1059 rfl (lv_at hl 4 rfl) ?_
          have hP9 := xm_P hP
          have hD9 := xm_D hD
          refine x_csi (va_runV (As := []) (rest := []) ⟨hx, hb, hml, hown, hts⟩ (c_X2_thrown l D cI cZ cG cJ (fun q : Nat => s.heap.size ≤ q) bd (WX ad cI cZ c g hid code ans dbt opn2 ply2 hps2 (OL ao cJ ov2 :: wr3)) u_1054.1 c hid g code ans dbt u_1054.2.1 u_1054.2.2.1 u_1054.2.2.2.1 u_1054.2.2.2.2.1 u_1054.2.2.2.2.2 ) (cwV 0 hts gL_law_X2_thrown rfl rfl rfl (by decide +kernel) ⟨Nat.le_of_ble_eq_true rfl, Nat.le_of_ble_eq_true rfl⟩) (preV (ci := 2) (q0 := 0) hB hS hP9 hD9 rfl rfl) rfl rfl hl.1 rfl (lv_room (Nat.le_of_ble_eq_true rfl)) dL_law_1060 ⟨Nat.le_trans (by first | exact Nat.le_add_right _ _ | exact Nat.add_le_add_left (by decide) _ | (simp only [Nat.add_assoc]; exact Nat.add_le_add_left (by decide) _)) hk3, Nat.le_trans (by first | exact Nat.le_add_right _ _ | exact Nat.add_le_add_left (by decide) _ | (simp only [Nat.add_assoc]; exact Nat.add_le_add_left (by decide) _)) hs3⟩) ?_
          refine lv_iload hx hb dL_law_1063 (lv_at hl 1 rfl) ?_
          refine lv_icmp_eq (tgt := 1070) hx hb dL_law_1065 (by decide) (fun c1065 => ?_) (fun c1065 => absurd c1065 (fun q => q ek.symm))
          refine lv_iload hx hb dL_law_1070 (lv_at hl 1 rfl) ?_
          refine lv_if_ne (tgt := 1087) hx hb dL_law_1072 (by decide) (fun c1072 => ?_) (fun c1072 => ?_)
          · skip
            refine lv_goto (tgt := 1338) hx hb dL_law_1087 (by decide) ?_
            refine lv_iinc (v := nI (i + 4)) (lv' := [(4, .int (nI (i + 4))), (6, .int (r_1054)), (5, .int (r_1042)), (0, .ref (b)), (1, .ref (ad 0)), (2, .ref (bd 0)), (3, .ref (ao))]) hx hb dL_law_1338 hl (k := 6) rfl (nI_add _ _) (by decide) rfl (fun ls hl => ?_)
            refine lv_goto (tgt := 23) hx hb dL_law_1341 (by decide) ?_
            exact ih23 (n := n + 1) (i := i + 4) (c := c) (g := g) (hid := hid) (code := code) (ans := ans) (dbt := dbt) (opn := opn2) (ply := ply2) (hps := hps2) (ov := ov2) (th := u_1054.1) (many := u_1054.2.1) (row := u_1054.2.2.1) (heap := u_1054.2.2.2.1) (our := u_1054.2.2.2.2.1) (the := u_1054.2.2.2.2.2) (kc := _) (ks := _) (ls := ls) (hl := lv_sub hl [3, 4, 5, 6, 0] rfl) (H := H) (locs := locs) (hP := hP) (hD := hD) (hS := hS) (hinv := by
                exact ⟨hn5, hi2, hi4, hI, room_n h5 hn5 (by first | exact Nat.le_add_right _ _ | exact Nat.add_le_add_left (by decide) _ | (simp only [Nat.add_assoc]; exact Nat.add_le_add_left (by decide) _)), room_n h6 hn5 (by first | exact Nat.le_add_right _ _ | exact Nat.add_le_add_left (by decide) _ | (simp only [Nat.add_assoc]; exact Nat.add_le_add_left (by decide) _))⟩
              ) (hn9 := by
                exact mu_n hn9 hn5
              )
          · skip
            refine lv_aload_n hx hb dL_law_1075 rfl (lv_at hl 5 rfl) ?_
            refine lv_iconst (v := nI (0)) hx hb dL_law_1076 (by decide) ?_
            refine va_lald hx hb hK hP 7 3 rfl rfl (vp_in_nI (n := 0) (N := 1) (by decide) (by decide)) dL_law_1077 ?_
            refine x_tl (y := (r_1054).toInt64) (by rw [nI_clamp (by decide)]; exact eo c1072) ?_
            refine lv_iload hx hb dL_law_1078 (lv_at hl 0 rfl) ?_
            refine lv_i2l hx hb dL_law_1080 rfl ?_
            refine W.lcmp hx hb dL_law_1081 ?_
            refine x_ti (y := 0) (lg_cmp_self _) ?_
            refine lv_if_eq (tgt := 1087) hx hb dL_law_1082 (by decide) (fun c1082 => ?_) (fun c1082 => absurd c1082 (fun q => q rfl))
            refine lv_goto (tgt := 1338) hx hb dL_law_1087 (by decide) ?_
            refine lv_iinc (v := nI (i + 4)) (lv' := [(4, .int (nI (i + 4))), (6, .int (r_1054)), (5, .int (r_1042)), (0, .ref (b)), (1, .ref (ad 0)), (2, .ref (bd 0)), (3, .ref (ao))]) hx hb dL_law_1338 hl (k := 6) rfl (nI_add _ _) (by decide) rfl (fun ls hl => ?_)
            refine lv_goto (tgt := 23) hx hb dL_law_1341 (by decide) ?_
            exact ih23 (n := n + 1) (i := i + 4) (c := c) (g := g) (hid := hid) (code := code) (ans := ans) (dbt := dbt) (opn := opn2) (ply := ply2) (hps := hps2) (ov := ov2) (th := u_1054.1) (many := u_1054.2.1) (row := u_1054.2.2.1) (heap := u_1054.2.2.2.1) (our := u_1054.2.2.2.2.1) (the := u_1054.2.2.2.2.2) (kc := _) (ks := _) (ls := ls) (hl := lv_sub hl [3, 4, 5, 6, 0] rfl) (H := H) (locs := locs) (hP := hP) (hD := hD) (hS := hS) (hinv := by
                exact ⟨hn5, hi2, hi4, hI, room_n h5 hn5 (by first | exact Nat.le_add_right _ _ | exact Nat.add_le_add_left (by decide) _ | (simp only [Nat.add_assoc]; exact Nat.add_le_add_left (by decide) _)), room_n h6 hn5 (by first | exact Nat.le_add_right _ _ | exact Nat.add_le_add_left (by decide) _ | (simp only [Nat.add_assoc]; exact Nat.add_le_add_left (by decide) _))⟩
              ) (hn9 := by
                exact mu_n hn9 hn5
              )
        · refine x_ti (y := nI 15) hwj ?_
          refine lv_tableIn (tgt := 1090) (off := 1051) hx hb dL_law_39 (by decide) (by decide) rfl (by decide) ?_
          refine lv_aload_n hx hb dL_law_1090 rfl (lv_at hl 1 rfl) ?_
          refine lv_aload_n hx hb dL_law_1091 rfl (lv_at hl 0 rfl) ?_
          refine lv_iload hx hb dL_law_1092 (lv_at hl 4 rfl) ?_
          refine lv_iconst (v := nI (1)) hx hb dL_law_1094 (by decide) ?_
          refine lv_iadd hx hb dL_law_1095 ?_
          refine x_ti (nI_add _ _) ?_
          refine x_sld hx hb hX hbl hbA hS (i := i + 1) (by first | exact hj0 | exact hj1 | exact hj2 | exact hj3) hL31 dL_law_1096 ?_
          refine lv_aload_n hx hb dL_law_1097 rfl (lv_at hl 3 rfl) ?_
          refine va_calli (vx_runSW (As := [.ref (ad 0), .int (xs (i + 1)), .ref (ao)]) (rest := []) ⟨hx, hb, hml, hown, hts⟩ (c_L_worst l hfl D cI cZ cG cJ (fun q : Nat => s.heap.size ≤ q) ad ao (WM bd cI th c hid g code ans dbt many row heap our the wr3) (pal_m hpal) c g hid code ans dbt opn ply hps ov (xs (i + 1)) (hI)) (vx_cwSW 3 hts gL_law_L_worst rfl rfl rfl (by decide +kernel) ⟨Nat.le_of_ble_eq_true rfl, Nat.le_of_ble_eq_true rfl⟩) (preS hB hS hP hD) rfl rfl hl.1 rfl (lv_room (Nat.le_of_ble_eq_true rfl)) dL_law_1098 ⟨Nat.le_trans (by first | exact Nat.le_add_right _ _ | exact Nat.add_le_add_left (by decide) _ | (simp only [Nat.add_assoc]; exact Nat.add_le_add_left (by decide) _)) hk3, Nat.le_trans (by first | exact Nat.le_add_right _ _ | exact Nat.add_le_add_left (by decide) _ | (simp only [Nat.add_assoc]; exact Nat.add_le_add_left (by decide) _)) hs3⟩) hS (fun q _ h => h) (fun q h => h) (fun r_1098 u_1098 t9 H1 locs1 ht9 hvm9 hw_1098 hBw hz9 hk9 hS => ?_)
          obtain ⟨hP, hD⟩ := hBw
          rw [ht9] at hP
          generalize H1 = H at hP hS ⊢
          generalize locs1 = locs at hS ⊢
          replace hP : va_P D vwCl (WX ad cI cZ u_1098.1.1 u_1098.1.2.1 u_1098.1.2.2.1 u_1098.1.2.2.2.1 u_1098.1.2.2.2.2.1 u_1098.1.2.2.2.2.2.1 u_1098.1.2.2.2.2.2.2.1 u_1098.1.2.2.2.2.2.2.2.1 u_1098.1.2.2.2.2.2.2.2.2 (OL ao cJ u_1098.2 :: WM bd cI th c hid g code ans dbt many row heap our the wr3)) H := hP
          replace hD : va_D (fun q : Nat => s.heap.size ≤ q) (WX ad cI cZ u_1098.1.1 u_1098.1.2.1 u_1098.1.2.2.1 u_1098.1.2.2.2.1 u_1098.1.2.2.2.2.1 u_1098.1.2.2.2.2.2.1 u_1098.1.2.2.2.2.2.2.1 u_1098.1.2.2.2.2.2.2.2.1 u_1098.1.2.2.2.2.2.2.2.2 (OL ao cJ u_1098.2 :: WM bd cI th c hid g code ans dbt many row heap our the wr3)) := hD
          refine lv_istore (lv' := [(5, .int (r_1098)), (0, .ref (b)), (1, .ref (ad 0)), (2, .ref (bd 0)), (3, .ref (ao)), (4, .int (nI (i)))]) hx hb dL_law_1101 hl (by decide) rfl (fun ls hl => ?_)
          refine lv_aload_n hx hb dL_law_1103 rfl (lv_at hl 3 rfl) ?_
          refine lv_aload_n hx hb dL_law_1104 rfl (lv_at hl 1 rfl) ?_
          refine lv_iload hx hb dL_law_1105 (lv_at hl 5 rfl) ?_
          refine lv_iconst (v := nI (1)) hx hb dL_law_1107 (by decide) ?_
          refine lv_iadd hx hb dL_law_1108 ?_
          refine x_ti (nI_add _ _) ?_
          refine x_sld hx hb hX hbl hbA hS (i := i + 1) (by first | exact hj0 | exact hj1 | exact hj2 | exact hj3) hL31 dL_law_1109 ?_
          have hP9 := xm_P hP
          have hD9 := xm_D hD
          refine va_calli (va_runV (As := [.int (xs (i + 1))]) (rest := []) ⟨hx, hb, hml, hown, hts⟩ (c_X2_worst l D cI cZ cG cJ (fun q : Nat => s.heap.size ≤ q) bd (WX ad cI cZ u_1098.1.1 u_1098.1.2.1 u_1098.1.2.2.1 u_1098.1.2.2.2.1 u_1098.1.2.2.2.2.1 u_1098.1.2.2.2.2.2.1 u_1098.1.2.2.2.2.2.2.1 u_1098.1.2.2.2.2.2.2.2.1 u_1098.1.2.2.2.2.2.2.2.2 (OL ao cJ u_1098.2 :: wr3)) th c hid g code ans dbt many row heap our the (xs (i + 1)) (hc) (hg) (hco)) (cwV 1 hts gL_law_X2_worst rfl rfl rfl (by decide +kernel) ⟨Nat.le_of_ble_eq_true rfl, Nat.le_of_ble_eq_true rfl⟩) (preV (ci := 2) (q0 := 0) hB hS hP9 hD9 rfl rfl) rfl rfl hl.1 rfl (lv_room (Nat.le_of_ble_eq_true rfl)) dL_law_1110 ⟨Nat.le_trans (by first | exact Nat.le_add_right _ _ | exact Nat.add_le_add_left (by decide) _ | (simp only [Nat.add_assoc]; exact Nat.add_le_add_left (by decide) _)) hk3, Nat.le_trans (by first | exact Nat.le_add_right _ _ | exact Nat.add_le_add_left (by decide) _ | (simp only [Nat.add_assoc]; exact Nat.add_le_add_left (by decide) _)) hs3⟩) hS (fun q _ h => h) (fun q h => h) (fun r_1110 u_1110 t9 H1 locs1 ht9 hvm9 hw_1110 hBw hz9 hk9 hS => ?_)
          obtain ⟨hP, hD⟩ := hBw
          rw [ht9] at hP
          generalize H1 = H at hP hS ⊢
          generalize locs1 = locs at hS ⊢
          replace hP := mx_P hP
          replace hD := mx_D hD
          replace hP : va_P D vwCl (WX ad cI cZ u_1098.1.1 u_1098.1.2.1 u_1098.1.2.2.1 u_1098.1.2.2.2.1 u_1098.1.2.2.2.2.1 u_1098.1.2.2.2.2.2.1 u_1098.1.2.2.2.2.2.2.1 u_1098.1.2.2.2.2.2.2.2.1 u_1098.1.2.2.2.2.2.2.2.2 (OL ao cJ u_1098.2 :: WM bd cI u_1110.1 c hid g code ans dbt u_1110.2.1 u_1110.2.2.1 u_1110.2.2.2.1 u_1110.2.2.2.2.1 u_1110.2.2.2.2.2 wr3)) H := hP
          replace hD : va_D (fun q : Nat => s.heap.size ≤ q) (WX ad cI cZ u_1098.1.1 u_1098.1.2.1 u_1098.1.2.2.1 u_1098.1.2.2.2.1 u_1098.1.2.2.2.2.1 u_1098.1.2.2.2.2.2.1 u_1098.1.2.2.2.2.2.2.1 u_1098.1.2.2.2.2.2.2.2.1 u_1098.1.2.2.2.2.2.2.2.2 (OL ao cJ u_1098.2 :: WM bd cI u_1110.1 c hid g code ans dbt u_1110.2.1 u_1110.2.2.1 u_1110.2.2.2.1 u_1110.2.2.2.2.1 u_1110.2.2.2.2.2 wr3)) := hD
          have hkey := key_worst hI hw_1098 hw_1110
          obtain ⟨⟨c2, g2, hid2, code2, ans2, dbt2, opn2, ply2, hps2⟩, ov2⟩ := u_1098
          obtain ⟨ek, eo, q1, q2, q3, q4, q5, q6, hI2⟩ := hkey
          change c2 = _ at q1
          change g2 = _ at q2
          change hid2 = _ at q3
          change code2 = _ at q4
          change ans2 = _ at q5
          change dbt2 = _ at q6
          replace q1 := Eq.symm q1; replace q2 := Eq.symm q2; replace q3 := Eq.symm q3; replace q4 := Eq.symm q4; replace q5 := Eq.symm q5; replace q6 := Eq.symm q6
          subst q1; subst q2; subst q3; subst q4; subst q5; subst q6
          replace hP : va_P D vwCl (WX ad cI cZ c g hid code ans dbt opn2 ply2 hps2 (OL ao cJ ov2 :: WM bd cI u_1110.1 c hid g code ans dbt u_1110.2.1 u_1110.2.2.1 u_1110.2.2.2.1 u_1110.2.2.2.2.1 u_1110.2.2.2.2.2 wr3)) H := hP
          replace hD : va_D (fun q : Nat => s.heap.size ≤ q) (WX ad cI cZ c g hid code ans dbt opn2 ply2 hps2 (OL ao cJ ov2 :: WM bd cI u_1110.1 c hid g code ans dbt u_1110.2.1 u_1110.2.2.1 u_1110.2.2.2.1 u_1110.2.2.2.2.1 u_1110.2.2.2.2.2 wr3)) := hD
          replace hI : XI (c) (g) (hid) (code) (ans) (dbt) opn2 := hI2
          replace eo : r_1098 = nI 0 → ov2 0 = _ := eo
          refine lv_istore (lv' := [(6, .int (r_1110)), (5, .int (r_1098)), (0, .ref (b)), (1, .ref (ad 0)), (2, .ref (bd 0)), (3, .ref (ao)), (4, .int (nI (i)))]) hx hb dL_law_1113 hl (by decide) rfl (fun ls hl => ?_)
          refine lv_aload_n hx hb dL_law_1115 rfl (lv_at hl 4 rfl) ?_
          have hP9 := xm_P hP
          have hD9 := xm_D hD
          refine x_csi (va_runV (As := []) (rest := []) ⟨hx, hb, hml, hown, hts⟩ (c_X2_thrown l D cI cZ cG cJ (fun q : Nat => s.heap.size ≤ q) bd (WX ad cI cZ c g hid code ans dbt opn2 ply2 hps2 (OL ao cJ ov2 :: wr3)) u_1110.1 c hid g code ans dbt u_1110.2.1 u_1110.2.2.1 u_1110.2.2.2.1 u_1110.2.2.2.2.1 u_1110.2.2.2.2.2 ) (cwV 0 hts gL_law_X2_thrown rfl rfl rfl (by decide +kernel) ⟨Nat.le_of_ble_eq_true rfl, Nat.le_of_ble_eq_true rfl⟩) (preV (ci := 2) (q0 := 0) hB hS hP9 hD9 rfl rfl) rfl rfl hl.1 rfl (lv_room (Nat.le_of_ble_eq_true rfl)) dL_law_1116 ⟨Nat.le_trans (by first | exact Nat.le_add_right _ _ | exact Nat.add_le_add_left (by decide) _ | (simp only [Nat.add_assoc]; exact Nat.add_le_add_left (by decide) _)) hk3, Nat.le_trans (by first | exact Nat.le_add_right _ _ | exact Nat.add_le_add_left (by decide) _ | (simp only [Nat.add_assoc]; exact Nat.add_le_add_left (by decide) _)) hs3⟩) ?_
          refine lv_iload hx hb dL_law_1119 (lv_at hl 1 rfl) ?_
          refine lv_icmp_eq (tgt := 1126) hx hb dL_law_1121 (by decide) (fun c1121 => ?_) (fun c1121 => absurd c1121 (fun q => q ek.symm))
          refine lv_iload hx hb dL_law_1126 (lv_at hl 1 rfl) ?_
          refine lv_if_ne (tgt := 1143) hx hb dL_law_1128 (by decide) (fun c1128 => ?_) (fun c1128 => ?_)
          · skip
            refine lv_goto (tgt := 1338) hx hb dL_law_1143 (by decide) ?_
            refine lv_iinc (v := nI (i + 4)) (lv' := [(4, .int (nI (i + 4))), (6, .int (r_1110)), (5, .int (r_1098)), (0, .ref (b)), (1, .ref (ad 0)), (2, .ref (bd 0)), (3, .ref (ao))]) hx hb dL_law_1338 hl (k := 6) rfl (nI_add _ _) (by decide) rfl (fun ls hl => ?_)
            refine lv_goto (tgt := 23) hx hb dL_law_1341 (by decide) ?_
            exact ih23 (n := n + 1) (i := i + 4) (c := c) (g := g) (hid := hid) (code := code) (ans := ans) (dbt := dbt) (opn := opn2) (ply := ply2) (hps := hps2) (ov := ov2) (th := u_1110.1) (many := u_1110.2.1) (row := u_1110.2.2.1) (heap := u_1110.2.2.2.1) (our := u_1110.2.2.2.2.1) (the := u_1110.2.2.2.2.2) (kc := _) (ks := _) (ls := ls) (hl := lv_sub hl [3, 4, 5, 6, 0] rfl) (H := H) (locs := locs) (hP := hP) (hD := hD) (hS := hS) (hinv := by
                exact ⟨hn5, hi2, hi4, hI, room_n h5 hn5 (by first | exact Nat.le_add_right _ _ | exact Nat.add_le_add_left (by decide) _ | (simp only [Nat.add_assoc]; exact Nat.add_le_add_left (by decide) _)), room_n h6 hn5 (by first | exact Nat.le_add_right _ _ | exact Nat.add_le_add_left (by decide) _ | (simp only [Nat.add_assoc]; exact Nat.add_le_add_left (by decide) _))⟩
              ) (hn9 := by
                exact mu_n hn9 hn5
              )
          · skip
            refine lv_aload_n hx hb dL_law_1131 rfl (lv_at hl 5 rfl) ?_
            refine lv_iconst (v := nI (0)) hx hb dL_law_1132 (by decide) ?_
            refine va_lald hx hb hK hP 7 3 rfl rfl (vp_in_nI (n := 0) (N := 1) (by decide) (by decide)) dL_law_1133 ?_
            refine x_tl (y := (r_1110).toInt64) (by rw [nI_clamp (by decide)]; exact eo c1128) ?_
            refine lv_iload hx hb dL_law_1134 (lv_at hl 0 rfl) ?_
            refine lv_i2l hx hb dL_law_1136 rfl ?_
            refine W.lcmp hx hb dL_law_1137 ?_
            refine x_ti (y := 0) (lg_cmp_self _) ?_
            refine lv_if_eq (tgt := 1143) hx hb dL_law_1138 (by decide) (fun c1138 => ?_) (fun c1138 => absurd c1138 (fun q => q rfl))
            refine lv_goto (tgt := 1338) hx hb dL_law_1143 (by decide) ?_
            refine lv_iinc (v := nI (i + 4)) (lv' := [(4, .int (nI (i + 4))), (6, .int (r_1110)), (5, .int (r_1098)), (0, .ref (b)), (1, .ref (ad 0)), (2, .ref (bd 0)), (3, .ref (ao))]) hx hb dL_law_1338 hl (k := 6) rfl (nI_add _ _) (by decide) rfl (fun ls hl => ?_)
            refine lv_goto (tgt := 23) hx hb dL_law_1341 (by decide) ?_
            exact ih23 (n := n + 1) (i := i + 4) (c := c) (g := g) (hid := hid) (code := code) (ans := ans) (dbt := dbt) (opn := opn2) (ply := ply2) (hps := hps2) (ov := ov2) (th := u_1110.1) (many := u_1110.2.1) (row := u_1110.2.2.1) (heap := u_1110.2.2.2.1) (our := u_1110.2.2.2.2.1) (the := u_1110.2.2.2.2.2) (kc := _) (ks := _) (ls := ls) (hl := lv_sub hl [3, 4, 5, 6, 0] rfl) (H := H) (locs := locs) (hP := hP) (hD := hD) (hS := hS) (hinv := by
                exact ⟨hn5, hi2, hi4, hI, room_n h5 hn5 (by first | exact Nat.le_add_right _ _ | exact Nat.add_le_add_left (by decide) _ | (simp only [Nat.add_assoc]; exact Nat.add_le_add_left (by decide) _)), room_n h6 hn5 (by first | exact Nat.le_add_right _ _ | exact Nat.add_le_add_left (by decide) _ | (simp only [Nat.add_assoc]; exact Nat.add_le_add_left (by decide) _))⟩
              ) (hn9 := by
                exact mu_n hn9 hn5
              )
        · refine x_ti (y := nI 16) hwj ?_
          refine lv_tableIn (tgt := 1146) (off := 1107) hx hb dL_law_39 (by decide) (by decide) rfl (by decide) ?_
          refine lv_aload_n hx hb dL_law_1146 rfl (lv_at hl 1 rfl) ?_
          refine lv_aload_n hx hb dL_law_1147 rfl (lv_at hl 0 rfl) ?_
          refine lv_iload hx hb dL_law_1148 (lv_at hl 4 rfl) ?_
          refine lv_iconst (v := nI (1)) hx hb dL_law_1150 (by decide) ?_
          refine lv_iadd hx hb dL_law_1151 ?_
          refine x_ti (nI_add _ _) ?_
          refine x_sld hx hb hX hbl hbA hS (i := i + 1) (by first | exact hj0 | exact hj1 | exact hj2 | exact hj3) hL31 dL_law_1152 ?_
          refine lv_aload_n hx hb dL_law_1153 rfl (lv_at hl 3 rfl) ?_
          refine va_calli (vx_runSW (As := [.ref (ad 0), .int (xs (i + 1)), .ref (ao)]) (rest := []) ⟨hx, hb, hml, hown, hts⟩ (c_L_parts l hfl D cI cZ cG cJ (fun q : Nat => s.heap.size ≤ q) ad ao (WM bd cI th c hid g code ans dbt many row heap our the wr3) (pal_m hpal) c g hid code ans dbt opn ply hps ov (xs (i + 1)) (hI)) (vx_cwSW 3 hts gL_law_L_parts rfl rfl rfl (by decide +kernel) ⟨Nat.le_of_ble_eq_true rfl, Nat.le_of_ble_eq_true rfl⟩) (preS hB hS hP hD) rfl rfl hl.1 rfl (lv_room (Nat.le_of_ble_eq_true rfl)) dL_law_1154 ⟨Nat.le_trans (by first | exact Nat.le_add_right _ _ | exact Nat.add_le_add_left (by decide) _ | (simp only [Nat.add_assoc]; exact Nat.add_le_add_left (by decide) _)) hk3, Nat.le_trans (by first | exact Nat.le_add_right _ _ | exact Nat.add_le_add_left (by decide) _ | (simp only [Nat.add_assoc]; exact Nat.add_le_add_left (by decide) _)) hs3⟩) hS (fun q _ h => h) (fun q h => h) (fun r_1154 u_1154 t9 H1 locs1 ht9 hvm9 hw_1154 hBw hz9 hk9 hS => ?_)
          obtain ⟨hP, hD⟩ := hBw
          rw [ht9] at hP
          generalize H1 = H at hP hS ⊢
          generalize locs1 = locs at hS ⊢
          replace hP : va_P D vwCl (WX ad cI cZ u_1154.1.1 u_1154.1.2.1 u_1154.1.2.2.1 u_1154.1.2.2.2.1 u_1154.1.2.2.2.2.1 u_1154.1.2.2.2.2.2.1 u_1154.1.2.2.2.2.2.2.1 u_1154.1.2.2.2.2.2.2.2.1 u_1154.1.2.2.2.2.2.2.2.2 (OL ao cJ u_1154.2 :: WM bd cI th c hid g code ans dbt many row heap our the wr3)) H := hP
          replace hD : va_D (fun q : Nat => s.heap.size ≤ q) (WX ad cI cZ u_1154.1.1 u_1154.1.2.1 u_1154.1.2.2.1 u_1154.1.2.2.2.1 u_1154.1.2.2.2.2.1 u_1154.1.2.2.2.2.2.1 u_1154.1.2.2.2.2.2.2.1 u_1154.1.2.2.2.2.2.2.2.1 u_1154.1.2.2.2.2.2.2.2.2 (OL ao cJ u_1154.2 :: WM bd cI th c hid g code ans dbt many row heap our the wr3)) := hD
          refine lv_istore (lv' := [(5, .int (r_1154)), (0, .ref (b)), (1, .ref (ad 0)), (2, .ref (bd 0)), (3, .ref (ao)), (4, .int (nI (i)))]) hx hb dL_law_1157 hl (by decide) rfl (fun ls hl => ?_)
          refine lv_aload_n hx hb dL_law_1159 rfl (lv_at hl 3 rfl) ?_
          refine lv_aload_n hx hb dL_law_1160 rfl (lv_at hl 1 rfl) ?_
          refine lv_iload hx hb dL_law_1161 (lv_at hl 5 rfl) ?_
          refine lv_iconst (v := nI (1)) hx hb dL_law_1163 (by decide) ?_
          refine lv_iadd hx hb dL_law_1164 ?_
          refine x_ti (nI_add _ _) ?_
          refine x_sld hx hb hX hbl hbA hS (i := i + 1) (by first | exact hj0 | exact hj1 | exact hj2 | exact hj3) hL31 dL_law_1165 ?_
          have hP9 := xm_P hP
          have hD9 := xm_D hD
          refine va_calli (va_runV (As := [.int (xs (i + 1))]) (rest := []) ⟨hx, hb, hml, hown, hts⟩ (c_X2_parts l D cI cZ cG cJ (fun q : Nat => s.heap.size ≤ q) bd (WX ad cI cZ u_1154.1.1 u_1154.1.2.1 u_1154.1.2.2.1 u_1154.1.2.2.2.1 u_1154.1.2.2.2.2.1 u_1154.1.2.2.2.2.2.1 u_1154.1.2.2.2.2.2.2.1 u_1154.1.2.2.2.2.2.2.2.1 u_1154.1.2.2.2.2.2.2.2.2 (OL ao cJ u_1154.2 :: wr3)) th c hid g code ans dbt many row heap our the (xs (i + 1)) (hc) (hg) (hco)) (cwV 1 hts gL_law_X2_parts rfl rfl rfl (by decide +kernel) ⟨Nat.le_of_ble_eq_true rfl, Nat.le_of_ble_eq_true rfl⟩) (preV (ci := 2) (q0 := 0) hB hS hP9 hD9 rfl rfl) rfl rfl hl.1 rfl (lv_room (Nat.le_of_ble_eq_true rfl)) dL_law_1166 ⟨Nat.le_trans (by first | exact Nat.le_add_right _ _ | exact Nat.add_le_add_left (by decide) _ | (simp only [Nat.add_assoc]; exact Nat.add_le_add_left (by decide) _)) hk3, Nat.le_trans (by first | exact Nat.le_add_right _ _ | exact Nat.add_le_add_left (by decide) _ | (simp only [Nat.add_assoc]; exact Nat.add_le_add_left (by decide) _)) hs3⟩) hS (fun q _ h => h) (fun q h => h) (fun r_1166 u_1166 t9 H1 locs1 ht9 hvm9 hw_1166 hBw hz9 hk9 hS => ?_)
          obtain ⟨hP, hD⟩ := hBw
          rw [ht9] at hP
          generalize H1 = H at hP hS ⊢
          generalize locs1 = locs at hS ⊢
          replace hP := mx_P hP
          replace hD := mx_D hD
          replace hP : va_P D vwCl (WX ad cI cZ u_1154.1.1 u_1154.1.2.1 u_1154.1.2.2.1 u_1154.1.2.2.2.1 u_1154.1.2.2.2.2.1 u_1154.1.2.2.2.2.2.1 u_1154.1.2.2.2.2.2.2.1 u_1154.1.2.2.2.2.2.2.2.1 u_1154.1.2.2.2.2.2.2.2.2 (OL ao cJ u_1154.2 :: WM bd cI u_1166.1 c hid g code ans dbt u_1166.2.1 u_1166.2.2.1 u_1166.2.2.2.1 u_1166.2.2.2.2.1 u_1166.2.2.2.2.2 wr3)) H := hP
          replace hD : va_D (fun q : Nat => s.heap.size ≤ q) (WX ad cI cZ u_1154.1.1 u_1154.1.2.1 u_1154.1.2.2.1 u_1154.1.2.2.2.1 u_1154.1.2.2.2.2.1 u_1154.1.2.2.2.2.2.1 u_1154.1.2.2.2.2.2.2.1 u_1154.1.2.2.2.2.2.2.2.1 u_1154.1.2.2.2.2.2.2.2.2 (OL ao cJ u_1154.2 :: WM bd cI u_1166.1 c hid g code ans dbt u_1166.2.1 u_1166.2.2.1 u_1166.2.2.2.1 u_1166.2.2.2.2.1 u_1166.2.2.2.2.2 wr3)) := hD
          have hkey := key_parts hI hw_1154 hw_1166
          obtain ⟨⟨c2, g2, hid2, code2, ans2, dbt2, opn2, ply2, hps2⟩, ov2⟩ := u_1154
          obtain ⟨ek, eo, q1, q2, q3, q4, q5, q6, hI2⟩ := hkey
          change c2 = _ at q1
          change g2 = _ at q2
          change hid2 = _ at q3
          change code2 = _ at q4
          change ans2 = _ at q5
          change dbt2 = _ at q6
          replace q1 := Eq.symm q1; replace q2 := Eq.symm q2; replace q3 := Eq.symm q3; replace q4 := Eq.symm q4; replace q5 := Eq.symm q5; replace q6 := Eq.symm q6
          subst q1; subst q2; subst q3; subst q4; subst q5; subst q6
          replace hP : va_P D vwCl (WX ad cI cZ c g hid code ans dbt opn2 ply2 hps2 (OL ao cJ ov2 :: WM bd cI u_1166.1 c hid g code ans dbt u_1166.2.1 u_1166.2.2.1 u_1166.2.2.2.1 u_1166.2.2.2.2.1 u_1166.2.2.2.2.2 wr3)) H := hP
          replace hD : va_D (fun q : Nat => s.heap.size ≤ q) (WX ad cI cZ c g hid code ans dbt opn2 ply2 hps2 (OL ao cJ ov2 :: WM bd cI u_1166.1 c hid g code ans dbt u_1166.2.1 u_1166.2.2.1 u_1166.2.2.2.1 u_1166.2.2.2.2.1 u_1166.2.2.2.2.2 wr3)) := hD
          replace hI : XI (c) (g) (hid) (code) (ans) (dbt) opn2 := hI2
          replace eo : r_1154 = nI 0 → ov2 0 = _ := eo
          refine lv_istore (lv' := [(6, .int (r_1166)), (5, .int (r_1154)), (0, .ref (b)), (1, .ref (ad 0)), (2, .ref (bd 0)), (3, .ref (ao)), (4, .int (nI (i)))]) hx hb dL_law_1169 hl (by decide) rfl (fun ls hl => ?_)
          refine lv_aload_n hx hb dL_law_1171 rfl (lv_at hl 4 rfl) ?_
          have hP9 := xm_P hP
          have hD9 := xm_D hD
          refine x_csi (va_runV (As := []) (rest := []) ⟨hx, hb, hml, hown, hts⟩ (c_X2_thrown l D cI cZ cG cJ (fun q : Nat => s.heap.size ≤ q) bd (WX ad cI cZ c g hid code ans dbt opn2 ply2 hps2 (OL ao cJ ov2 :: wr3)) u_1166.1 c hid g code ans dbt u_1166.2.1 u_1166.2.2.1 u_1166.2.2.2.1 u_1166.2.2.2.2.1 u_1166.2.2.2.2.2 ) (cwV 0 hts gL_law_X2_thrown rfl rfl rfl (by decide +kernel) ⟨Nat.le_of_ble_eq_true rfl, Nat.le_of_ble_eq_true rfl⟩) (preV (ci := 2) (q0 := 0) hB hS hP9 hD9 rfl rfl) rfl rfl hl.1 rfl (lv_room (Nat.le_of_ble_eq_true rfl)) dL_law_1172 ⟨Nat.le_trans (by first | exact Nat.le_add_right _ _ | exact Nat.add_le_add_left (by decide) _ | (simp only [Nat.add_assoc]; exact Nat.add_le_add_left (by decide) _)) hk3, Nat.le_trans (by first | exact Nat.le_add_right _ _ | exact Nat.add_le_add_left (by decide) _ | (simp only [Nat.add_assoc]; exact Nat.add_le_add_left (by decide) _)) hs3⟩) ?_
          refine lv_iload hx hb dL_law_1175 (lv_at hl 1 rfl) ?_
          refine lv_icmp_eq (tgt := 1182) hx hb dL_law_1177 (by decide) (fun c1177 => ?_) (fun c1177 => absurd c1177 (fun q => q ek.symm))
          refine lv_iload hx hb dL_law_1182 (lv_at hl 1 rfl) ?_
          refine lv_if_ne (tgt := 1199) hx hb dL_law_1184 (by decide) (fun c1184 => ?_) (fun c1184 => ?_)
          · skip
            refine lv_goto (tgt := 1338) hx hb dL_law_1199 (by decide) ?_
            refine lv_iinc (v := nI (i + 4)) (lv' := [(4, .int (nI (i + 4))), (6, .int (r_1166)), (5, .int (r_1154)), (0, .ref (b)), (1, .ref (ad 0)), (2, .ref (bd 0)), (3, .ref (ao))]) hx hb dL_law_1338 hl (k := 6) rfl (nI_add _ _) (by decide) rfl (fun ls hl => ?_)
            refine lv_goto (tgt := 23) hx hb dL_law_1341 (by decide) ?_
            exact ih23 (n := n + 1) (i := i + 4) (c := c) (g := g) (hid := hid) (code := code) (ans := ans) (dbt := dbt) (opn := opn2) (ply := ply2) (hps := hps2) (ov := ov2) (th := u_1166.1) (many := u_1166.2.1) (row := u_1166.2.2.1) (heap := u_1166.2.2.2.1) (our := u_1166.2.2.2.2.1) (the := u_1166.2.2.2.2.2) (kc := _) (ks := _) (ls := ls) (hl := lv_sub hl [3, 4, 5, 6, 0] rfl) (H := H) (locs := locs) (hP := hP) (hD := hD) (hS := hS) (hinv := by
                exact ⟨hn5, hi2, hi4, hI, room_n h5 hn5 (by first | exact Nat.le_add_right _ _ | exact Nat.add_le_add_left (by decide) _ | (simp only [Nat.add_assoc]; exact Nat.add_le_add_left (by decide) _)), room_n h6 hn5 (by first | exact Nat.le_add_right _ _ | exact Nat.add_le_add_left (by decide) _ | (simp only [Nat.add_assoc]; exact Nat.add_le_add_left (by decide) _))⟩
              ) (hn9 := by
                exact mu_n hn9 hn5
              )
          · skip
            refine lv_aload_n hx hb dL_law_1187 rfl (lv_at hl 5 rfl) ?_
            refine lv_iconst (v := nI (0)) hx hb dL_law_1188 (by decide) ?_
            refine va_lald hx hb hK hP 7 3 rfl rfl (vp_in_nI (n := 0) (N := 1) (by decide) (by decide)) dL_law_1189 ?_
            refine x_tl (y := (r_1166).toInt64) (by rw [nI_clamp (by decide)]; exact eo c1184) ?_
            refine lv_iload hx hb dL_law_1190 (lv_at hl 0 rfl) ?_
            refine lv_i2l hx hb dL_law_1192 rfl ?_
            refine W.lcmp hx hb dL_law_1193 ?_
            refine x_ti (y := 0) (lg_cmp_self _) ?_
            refine lv_if_eq (tgt := 1199) hx hb dL_law_1194 (by decide) (fun c1194 => ?_) (fun c1194 => absurd c1194 (fun q => q rfl))
            refine lv_goto (tgt := 1338) hx hb dL_law_1199 (by decide) ?_
            refine lv_iinc (v := nI (i + 4)) (lv' := [(4, .int (nI (i + 4))), (6, .int (r_1166)), (5, .int (r_1154)), (0, .ref (b)), (1, .ref (ad 0)), (2, .ref (bd 0)), (3, .ref (ao))]) hx hb dL_law_1338 hl (k := 6) rfl (nI_add _ _) (by decide) rfl (fun ls hl => ?_)
            refine lv_goto (tgt := 23) hx hb dL_law_1341 (by decide) ?_
            exact ih23 (n := n + 1) (i := i + 4) (c := c) (g := g) (hid := hid) (code := code) (ans := ans) (dbt := dbt) (opn := opn2) (ply := ply2) (hps := hps2) (ov := ov2) (th := u_1166.1) (many := u_1166.2.1) (row := u_1166.2.2.1) (heap := u_1166.2.2.2.1) (our := u_1166.2.2.2.2.1) (the := u_1166.2.2.2.2.2) (kc := _) (ks := _) (ls := ls) (hl := lv_sub hl [3, 4, 5, 6, 0] rfl) (H := H) (locs := locs) (hP := hP) (hD := hD) (hS := hS) (hinv := by
                exact ⟨hn5, hi2, hi4, hI, room_n h5 hn5 (by first | exact Nat.le_add_right _ _ | exact Nat.add_le_add_left (by decide) _ | (simp only [Nat.add_assoc]; exact Nat.add_le_add_left (by decide) _)), room_n h6 hn5 (by first | exact Nat.le_add_right _ _ | exact Nat.add_le_add_left (by decide) _ | (simp only [Nat.add_assoc]; exact Nat.add_le_add_left (by decide) _))⟩
              ) (hn9 := by
                exact mu_n hn9 hn5
              )
        · refine x_ti (y := nI 17) hwj ?_
          refine lv_tableIn (tgt := 1202) (off := 1163) hx hb dL_law_39 (by decide) (by decide) rfl (by decide) ?_
          refine lv_aload_n hx hb dL_law_1202 rfl (lv_at hl 1 rfl) ?_
          refine va_calli (va_runV (As := []) (rest := []) ⟨hx, hb, hml, hown, hts⟩ (c_X1_best l D cI cZ cG cJ (fun q : Nat => s.heap.size ≤ q) ad (OL ao cJ ov :: (WM bd cI th c hid g code ans dbt many row heap our the wr3)) (pal_up (pal_m hpal)) c g hid code ans dbt opn ply hps (hI)) (cwV 0 hts gL_law_X1_best rfl rfl rfl (by decide +kernel) ⟨Nat.le_of_ble_eq_true rfl, Nat.le_of_ble_eq_true rfl⟩) (preV (ci := 1) (q0 := 0) hB hS hP hD rfl rfl) rfl rfl hl.1 rfl (lv_room (Nat.le_of_ble_eq_true rfl)) dL_law_1203 ⟨Nat.le_trans (by first | exact Nat.le_add_right _ _ | exact Nat.add_le_add_left (by decide) _ | (simp only [Nat.add_assoc]; exact Nat.add_le_add_left (by decide) _)) hk3, Nat.le_trans (by first | exact Nat.le_add_right _ _ | exact Nat.add_le_add_left (by decide) _ | (simp only [Nat.add_assoc]; exact Nat.add_le_add_left (by decide) _)) hs3⟩) hS (fun q _ h => h) (fun q h => h) (fun r_1203 u_1203 t9 H1 locs1 ht9 hvm9 hw_1203 hBw hz9 hk9 hS => ?_)
          obtain ⟨hP, hD⟩ := hBw
          rw [ht9] at hP
          generalize H1 = H at hP hS ⊢
          generalize locs1 = locs at hS ⊢
          replace hP : va_P D vwCl (WX ad cI cZ c g hid code ans dbt opn ply u_1203 (OL ao cJ ov :: WM bd cI th c hid g code ans dbt many row heap our the wr3)) H := hP
          replace hD : va_D (fun q : Nat => s.heap.size ≤ q) (WX ad cI cZ c g hid code ans dbt opn ply u_1203 (OL ao cJ ov :: WM bd cI th c hid g code ans dbt many row heap our the wr3)) := hD
          refine x_ti (y := lbR c (opS c g code ans dbt) false) (hw_1203.1) ?_
          refine lv_aload_n hx hb dL_law_1206 rfl (lv_at hl 2 rfl) ?_
          have hP9 := xm_P hP
          have hD9 := xm_D hD
          refine va_calli (va_runV (As := []) (rest := [.int (lbR c (opS c g code ans dbt) false)]) ⟨hx, hb, hml, hown, hts⟩ (c_X2_best l D cI cZ cG cJ (fun q : Nat => s.heap.size ≤ q) bd (WX ad cI cZ c g hid code ans dbt opn ply u_1203 (OL ao cJ ov :: wr3)) th c hid g code ans dbt many row heap our the (hc) (hg) (hco)) (cwV 0 hts gL_law_X2_best rfl rfl rfl (by decide +kernel) ⟨Nat.le_of_ble_eq_true rfl, Nat.le_of_ble_eq_true rfl⟩) (preV (ci := 2) (q0 := 0) hB hS hP9 hD9 rfl rfl) rfl rfl hl.1 rfl (lv_room (Nat.le_of_ble_eq_true rfl)) dL_law_1207 ⟨Nat.le_trans (by first | exact Nat.le_add_right _ _ | exact Nat.add_le_add_left (by decide) _ | (simp only [Nat.add_assoc]; exact Nat.add_le_add_left (by decide) _)) hk3, Nat.le_trans (by first | exact Nat.le_add_right _ _ | exact Nat.add_le_add_left (by decide) _ | (simp only [Nat.add_assoc]; exact Nat.add_le_add_left (by decide) _)) hs3⟩) hS (fun q _ h => h) (fun q h => h) (fun r_1207 u_1207 t9 H1 locs1 ht9 hvm9 hw_1207 hBw hz9 hk9 hS => ?_)
          obtain ⟨hP, hD⟩ := hBw
          rw [ht9] at hP
          generalize H1 = H at hP hS ⊢
          generalize locs1 = locs at hS ⊢
          replace hP := mx_P hP
          replace hD := mx_D hD
          replace hP : va_P D vwCl (WX ad cI cZ c g hid code ans dbt opn ply u_1203 (OL ao cJ ov :: WM bd cI 0 c hid g code ans dbt u_1207.1 u_1207.2.1 u_1207.2.2.1 u_1207.2.2.2.1 u_1207.2.2.2.2 wr3)) H := hP
          replace hD : va_D (fun q : Nat => s.heap.size ≤ q) (WX ad cI cZ c g hid code ans dbt opn ply u_1203 (OL ao cJ ov :: WM bd cI 0 c hid g code ans dbt u_1207.1 u_1207.2.1 u_1207.2.2.1 u_1207.2.2.2.1 u_1207.2.2.2.2 wr3)) := hD
          refine x_ti (y := lbR c (opS c g code ans dbt) false) (hw_1207.1) ?_
          refine lv_icmp_eq (tgt := 1338) hx hb dL_law_1210 (by decide) (fun c1210 => ?_) (fun c1210 => absurd c1210 (fun q => q rfl))
          refine lv_iinc (v := nI (i + 4)) (lv' := [(4, .int (nI (i + 4))), (0, .ref (b)), (1, .ref (ad 0)), (2, .ref (bd 0)), (3, .ref (ao))]) hx hb dL_law_1338 hl (k := 4) rfl (nI_add _ _) (by decide) rfl (fun ls hl => ?_)
          refine lv_goto (tgt := 23) hx hb dL_law_1341 (by decide) ?_
          exact ih23 (n := n + 1) (i := i + 4) (c := c) (g := g) (hid := hid) (code := code) (ans := ans) (dbt := dbt) (opn := opn) (ply := ply) (hps := u_1203) (ov := ov) (th := 0) (many := u_1207.1) (row := u_1207.2.1) (heap := u_1207.2.2.1) (our := u_1207.2.2.2.1) (the := u_1207.2.2.2.2) (kc := _) (ks := _) (ls := ls) (hl := lv_sub hl [1, 2, 3, 4, 0] rfl) (H := H) (locs := locs) (hP := hP) (hD := hD) (hS := hS) (hinv := by
              exact ⟨hn5, hi2, hi4, hI, room_n h5 hn5 (by first | exact Nat.le_add_right _ _ | exact Nat.add_le_add_left (by decide) _ | (simp only [Nat.add_assoc]; exact Nat.add_le_add_left (by decide) _)), room_n h6 hn5 (by first | exact Nat.le_add_right _ _ | exact Nat.add_le_add_left (by decide) _ | (simp only [Nat.add_assoc]; exact Nat.add_le_add_left (by decide) _))⟩
            ) (hn9 := by
              exact mu_n hn9 hn5
            )
        · refine x_ti (y := nI 18) hwj ?_
          refine lv_tableIn (tgt := 1215) (off := 1176) hx hb dL_law_39 (by decide) (by decide) rfl (by decide) ?_
          refine lv_aload_n hx hb dL_law_1215 rfl (lv_at hl 1 rfl) ?_
          refine lv_aload_n hx hb dL_law_1216 rfl (lv_at hl 0 rfl) ?_
          refine lv_iload hx hb dL_law_1217 (lv_at hl 4 rfl) ?_
          refine lv_iconst (v := nI (1)) hx hb dL_law_1219 (by decide) ?_
          refine lv_iadd hx hb dL_law_1220 ?_
          refine x_ti (nI_add _ _) ?_
          refine x_sld hx hb hX hbl hbA hS (i := i + 1) (by first | exact hj0 | exact hj1 | exact hj2 | exact hj3) hL31 dL_law_1221 ?_
          refine lv_aload_n hx hb dL_law_1222 rfl (lv_at hl 0 rfl) ?_
          refine lv_iload hx hb dL_law_1223 (lv_at hl 4 rfl) ?_
          refine lv_iconst (v := nI (2)) hx hb dL_law_1225 (by decide) ?_
          refine lv_iadd hx hb dL_law_1226 ?_
          refine x_ti (nI_add _ _) ?_
          refine x_sld hx hb hX hbl hbA hS (i := i + 2) (by first | exact hj0 | exact hj1 | exact hj2 | exact hj3) hL31 dL_law_1227 ?_
          refine lv_aload_n hx hb dL_law_1228 rfl (lv_at hl 3 rfl) ?_
          refine va_calli (vx_runSW (As := [.ref (ad 0), .int (xs (i + 1)), .int (xs (i + 2)), .ref (ao)]) (rest := []) ⟨hx, hb, hml, hown, hts⟩ (c_L_takes l hfl D cI cZ cG cJ (fun q : Nat => s.heap.size ≤ q) ad ao (WM bd cI th c hid g code ans dbt many row heap our the wr3) (pal_m hpal) c g hid code ans dbt opn ply hps ov (xs (i + 1)) (xs (i + 2)) (hI)) (vx_cwSW 4 hts gL_law_L_takes rfl rfl rfl (by decide +kernel) ⟨Nat.le_of_ble_eq_true rfl, Nat.le_of_ble_eq_true rfl⟩) (preS hB hS hP hD) rfl rfl hl.1 rfl (lv_room (Nat.le_of_ble_eq_true rfl)) dL_law_1229 ⟨Nat.le_trans (by first | exact Nat.le_add_right _ _ | exact Nat.add_le_add_left (by decide) _ | (simp only [Nat.add_assoc]; exact Nat.add_le_add_left (by decide) _)) hk3, Nat.le_trans (by first | exact Nat.le_add_right _ _ | exact Nat.add_le_add_left (by decide) _ | (simp only [Nat.add_assoc]; exact Nat.add_le_add_left (by decide) _)) hs3⟩) hS (fun q _ h => h) (fun q h => h) (fun r_1229 u_1229 t9 H1 locs1 ht9 hvm9 hw_1229 hBw hz9 hk9 hS => ?_)
          obtain ⟨hP, hD⟩ := hBw
          rw [ht9] at hP
          generalize H1 = H at hP hS ⊢
          generalize locs1 = locs at hS ⊢
          replace hP : va_P D vwCl (WX ad cI cZ u_1229.1.1 u_1229.1.2.1 u_1229.1.2.2.1 u_1229.1.2.2.2.1 u_1229.1.2.2.2.2.1 u_1229.1.2.2.2.2.2.1 u_1229.1.2.2.2.2.2.2.1 u_1229.1.2.2.2.2.2.2.2.1 u_1229.1.2.2.2.2.2.2.2.2 (OL ao cJ u_1229.2 :: WM bd cI th c hid g code ans dbt many row heap our the wr3)) H := hP
          replace hD : va_D (fun q : Nat => s.heap.size ≤ q) (WX ad cI cZ u_1229.1.1 u_1229.1.2.1 u_1229.1.2.2.1 u_1229.1.2.2.2.1 u_1229.1.2.2.2.2.1 u_1229.1.2.2.2.2.2.1 u_1229.1.2.2.2.2.2.2.1 u_1229.1.2.2.2.2.2.2.2.1 u_1229.1.2.2.2.2.2.2.2.2 (OL ao cJ u_1229.2 :: WM bd cI th c hid g code ans dbt many row heap our the wr3)) := hD
          refine lv_istore (lv' := [(5, .int (r_1229)), (0, .ref (b)), (1, .ref (ad 0)), (2, .ref (bd 0)), (3, .ref (ao)), (4, .int (nI (i)))]) hx hb dL_law_1232 hl (by decide) rfl (fun ls hl => ?_)
          refine lv_aload_n hx hb dL_law_1234 rfl (lv_at hl 3 rfl) ?_
          refine lv_aload_n hx hb dL_law_1235 rfl (lv_at hl 1 rfl) ?_
          refine lv_iload hx hb dL_law_1236 (lv_at hl 5 rfl) ?_
          refine lv_iconst (v := nI (1)) hx hb dL_law_1238 (by decide) ?_
          refine lv_iadd hx hb dL_law_1239 ?_
          refine x_ti (nI_add _ _) ?_
          refine x_sld hx hb hX hbl hbA hS (i := i + 1) (by first | exact hj0 | exact hj1 | exact hj2 | exact hj3) hL31 dL_law_1240 ?_
          refine lv_aload_n hx hb dL_law_1241 rfl (lv_at hl 1 rfl) ?_
          refine lv_iload hx hb dL_law_1242 (lv_at hl 5 rfl) ?_
          refine lv_iconst (v := nI (2)) hx hb dL_law_1244 (by decide) ?_
          refine lv_iadd hx hb dL_law_1245 ?_
          refine x_ti (nI_add _ _) ?_
          refine x_sld hx hb hX hbl hbA hS (i := i + 2) (by first | exact hj0 | exact hj1 | exact hj2 | exact hj3) hL31 dL_law_1246 ?_
          have hP9 := xm_P hP
          have hD9 := xm_D hD
          refine va_calli (va_runV (As := [.int (xs (i + 1)), .int (xs (i + 2))]) (rest := []) ⟨hx, hb, hml, hown, hts⟩ (c_X2_takes l D cI cZ cG cJ (fun q : Nat => s.heap.size ≤ q) bd (WX ad cI cZ u_1229.1.1 u_1229.1.2.1 u_1229.1.2.2.1 u_1229.1.2.2.2.1 u_1229.1.2.2.2.2.1 u_1229.1.2.2.2.2.2.1 u_1229.1.2.2.2.2.2.2.1 u_1229.1.2.2.2.2.2.2.2.1 u_1229.1.2.2.2.2.2.2.2.2 (OL ao cJ u_1229.2 :: wr3)) th c hid g code ans dbt many row heap our the (xs (i + 1)) (xs (i + 2)) (hc)) (cwV 2 hts gL_law_X2_takes rfl rfl rfl (by decide +kernel) ⟨Nat.le_of_ble_eq_true rfl, Nat.le_of_ble_eq_true rfl⟩) (preV (ci := 2) (q0 := 0) hB hS hP9 hD9 rfl rfl) rfl rfl hl.1 rfl (lv_room (Nat.le_of_ble_eq_true rfl)) dL_law_1247 ⟨Nat.le_trans (by first | exact Nat.le_add_right _ _ | exact Nat.add_le_add_left (by decide) _ | (simp only [Nat.add_assoc]; exact Nat.add_le_add_left (by decide) _)) hk3, Nat.le_trans (by first | exact Nat.le_add_right _ _ | exact Nat.add_le_add_left (by decide) _ | (simp only [Nat.add_assoc]; exact Nat.add_le_add_left (by decide) _)) hs3⟩) hS (fun q _ h => h) (fun q h => h) (fun r_1247 u_1247 t9 H1 locs1 ht9 hvm9 hw_1247 hBw hz9 hk9 hS => ?_)
          obtain ⟨hP, hD⟩ := hBw
          rw [ht9] at hP
          generalize H1 = H at hP hS ⊢
          generalize locs1 = locs at hS ⊢
          replace hP := mx_P hP
          replace hD := mx_D hD
          replace hP : va_P D vwCl (WX ad cI cZ u_1229.1.1 u_1229.1.2.1 u_1229.1.2.2.1 u_1229.1.2.2.2.1 u_1229.1.2.2.2.2.1 u_1229.1.2.2.2.2.2.1 u_1229.1.2.2.2.2.2.2.1 u_1229.1.2.2.2.2.2.2.2.1 u_1229.1.2.2.2.2.2.2.2.2 (OL ao cJ u_1229.2 :: WM bd cI u_1247.1 c hid g code ans dbt u_1247.2.1 u_1247.2.2.1 u_1247.2.2.2.1 u_1247.2.2.2.2.1 u_1247.2.2.2.2.2 wr3)) H := hP
          replace hD : va_D (fun q : Nat => s.heap.size ≤ q) (WX ad cI cZ u_1229.1.1 u_1229.1.2.1 u_1229.1.2.2.1 u_1229.1.2.2.2.1 u_1229.1.2.2.2.2.1 u_1229.1.2.2.2.2.2.1 u_1229.1.2.2.2.2.2.2.1 u_1229.1.2.2.2.2.2.2.2.1 u_1229.1.2.2.2.2.2.2.2.2 (OL ao cJ u_1229.2 :: WM bd cI u_1247.1 c hid g code ans dbt u_1247.2.1 u_1247.2.2.1 u_1247.2.2.2.1 u_1247.2.2.2.2.1 u_1247.2.2.2.2.2 wr3)) := hD
          have hkey := key_takes hI hw_1229 hw_1247
          obtain ⟨⟨c2, g2, hid2, code2, ans2, dbt2, opn2, ply2, hps2⟩, ov2⟩ := u_1229
          obtain ⟨ek, eo, q1, q2, q3, q4, q5, q6, hI2⟩ := hkey
          change c2 = _ at q1
          change g2 = _ at q2
          change hid2 = _ at q3
          change code2 = _ at q4
          change ans2 = _ at q5
          change dbt2 = _ at q6
          replace q1 := Eq.symm q1; replace q2 := Eq.symm q2; replace q3 := Eq.symm q3; replace q4 := Eq.symm q4; replace q5 := Eq.symm q5; replace q6 := Eq.symm q6
          subst q1; subst q2; subst q3; subst q4; subst q5; subst q6
          replace hP : va_P D vwCl (WX ad cI cZ c g hid code ans dbt opn2 ply2 hps2 (OL ao cJ ov2 :: WM bd cI u_1247.1 c hid g code ans dbt u_1247.2.1 u_1247.2.2.1 u_1247.2.2.2.1 u_1247.2.2.2.2.1 u_1247.2.2.2.2.2 wr3)) H := hP
          replace hD : va_D (fun q : Nat => s.heap.size ≤ q) (WX ad cI cZ c g hid code ans dbt opn2 ply2 hps2 (OL ao cJ ov2 :: WM bd cI u_1247.1 c hid g code ans dbt u_1247.2.1 u_1247.2.2.1 u_1247.2.2.2.1 u_1247.2.2.2.2.1 u_1247.2.2.2.2.2 wr3)) := hD
          replace hI : XI (c) (g) (hid) (code) (ans) (dbt) opn2 := hI2
          replace eo : r_1229 = nI 0 → ov2 0 = _ := eo
          refine lv_istore (lv' := [(6, .int (r_1247)), (5, .int (r_1229)), (0, .ref (b)), (1, .ref (ad 0)), (2, .ref (bd 0)), (3, .ref (ao)), (4, .int (nI (i)))]) hx hb dL_law_1250 hl (by decide) rfl (fun ls hl => ?_)
          refine lv_aload_n hx hb dL_law_1252 rfl (lv_at hl 4 rfl) ?_
          have hP9 := xm_P hP
          have hD9 := xm_D hD
          refine x_csi (va_runV (As := []) (rest := []) ⟨hx, hb, hml, hown, hts⟩ (c_X2_thrown l D cI cZ cG cJ (fun q : Nat => s.heap.size ≤ q) bd (WX ad cI cZ c g hid code ans dbt opn2 ply2 hps2 (OL ao cJ ov2 :: wr3)) u_1247.1 c hid g code ans dbt u_1247.2.1 u_1247.2.2.1 u_1247.2.2.2.1 u_1247.2.2.2.2.1 u_1247.2.2.2.2.2 ) (cwV 0 hts gL_law_X2_thrown rfl rfl rfl (by decide +kernel) ⟨Nat.le_of_ble_eq_true rfl, Nat.le_of_ble_eq_true rfl⟩) (preV (ci := 2) (q0 := 0) hB hS hP9 hD9 rfl rfl) rfl rfl hl.1 rfl (lv_room (Nat.le_of_ble_eq_true rfl)) dL_law_1253 ⟨Nat.le_trans (by first | exact Nat.le_add_right _ _ | exact Nat.add_le_add_left (by decide) _ | (simp only [Nat.add_assoc]; exact Nat.add_le_add_left (by decide) _)) hk3, Nat.le_trans (by first | exact Nat.le_add_right _ _ | exact Nat.add_le_add_left (by decide) _ | (simp only [Nat.add_assoc]; exact Nat.add_le_add_left (by decide) _)) hs3⟩) ?_
          refine lv_iload hx hb dL_law_1256 (lv_at hl 1 rfl) ?_
          refine lv_icmp_eq (tgt := 1263) hx hb dL_law_1258 (by decide) (fun c1258 => ?_) (fun c1258 => absurd c1258 (fun q => q ek.symm))
          refine lv_iload hx hb dL_law_1263 (lv_at hl 1 rfl) ?_
          refine lv_if_ne (tgt := 1280) hx hb dL_law_1265 (by decide) (fun c1265 => ?_) (fun c1265 => ?_)
          · skip
            refine lv_goto (tgt := 1338) hx hb dL_law_1280 (by decide) ?_
            refine lv_iinc (v := nI (i + 4)) (lv' := [(4, .int (nI (i + 4))), (6, .int (r_1247)), (5, .int (r_1229)), (0, .ref (b)), (1, .ref (ad 0)), (2, .ref (bd 0)), (3, .ref (ao))]) hx hb dL_law_1338 hl (k := 6) rfl (nI_add _ _) (by decide) rfl (fun ls hl => ?_)
            refine lv_goto (tgt := 23) hx hb dL_law_1341 (by decide) ?_
            exact ih23 (n := n + 1) (i := i + 4) (c := c) (g := g) (hid := hid) (code := code) (ans := ans) (dbt := dbt) (opn := opn2) (ply := ply2) (hps := hps2) (ov := ov2) (th := u_1247.1) (many := u_1247.2.1) (row := u_1247.2.2.1) (heap := u_1247.2.2.2.1) (our := u_1247.2.2.2.2.1) (the := u_1247.2.2.2.2.2) (kc := _) (ks := _) (ls := ls) (hl := lv_sub hl [3, 4, 5, 6, 0] rfl) (H := H) (locs := locs) (hP := hP) (hD := hD) (hS := hS) (hinv := by
                exact ⟨hn5, hi2, hi4, hI, room_n h5 hn5 (by first | exact Nat.le_add_right _ _ | exact Nat.add_le_add_left (by decide) _ | (simp only [Nat.add_assoc]; exact Nat.add_le_add_left (by decide) _)), room_n h6 hn5 (by first | exact Nat.le_add_right _ _ | exact Nat.add_le_add_left (by decide) _ | (simp only [Nat.add_assoc]; exact Nat.add_le_add_left (by decide) _))⟩
              ) (hn9 := by
                exact mu_n hn9 hn5
              )
          · skip
            refine lv_aload_n hx hb dL_law_1268 rfl (lv_at hl 5 rfl) ?_
            refine lv_iconst (v := nI (0)) hx hb dL_law_1269 (by decide) ?_
            refine va_lald hx hb hK hP 7 3 rfl rfl (vp_in_nI (n := 0) (N := 1) (by decide) (by decide)) dL_law_1270 ?_
            refine x_tl (y := (r_1247).toInt64) (by rw [nI_clamp (by decide)]; exact eo c1265) ?_
            refine lv_iload hx hb dL_law_1271 (lv_at hl 0 rfl) ?_
            refine lv_i2l hx hb dL_law_1273 rfl ?_
            refine W.lcmp hx hb dL_law_1274 ?_
            refine x_ti (y := 0) (lg_cmp_self _) ?_
            refine lv_if_eq (tgt := 1280) hx hb dL_law_1275 (by decide) (fun c1275 => ?_) (fun c1275 => absurd c1275 (fun q => q rfl))
            refine lv_goto (tgt := 1338) hx hb dL_law_1280 (by decide) ?_
            refine lv_iinc (v := nI (i + 4)) (lv' := [(4, .int (nI (i + 4))), (6, .int (r_1247)), (5, .int (r_1229)), (0, .ref (b)), (1, .ref (ad 0)), (2, .ref (bd 0)), (3, .ref (ao))]) hx hb dL_law_1338 hl (k := 6) rfl (nI_add _ _) (by decide) rfl (fun ls hl => ?_)
            refine lv_goto (tgt := 23) hx hb dL_law_1341 (by decide) ?_
            exact ih23 (n := n + 1) (i := i + 4) (c := c) (g := g) (hid := hid) (code := code) (ans := ans) (dbt := dbt) (opn := opn2) (ply := ply2) (hps := hps2) (ov := ov2) (th := u_1247.1) (many := u_1247.2.1) (row := u_1247.2.2.1) (heap := u_1247.2.2.2.1) (our := u_1247.2.2.2.2.1) (the := u_1247.2.2.2.2.2) (kc := _) (ks := _) (ls := ls) (hl := lv_sub hl [3, 4, 5, 6, 0] rfl) (H := H) (locs := locs) (hP := hP) (hD := hD) (hS := hS) (hinv := by
                exact ⟨hn5, hi2, hi4, hI, room_n h5 hn5 (by first | exact Nat.le_add_right _ _ | exact Nat.add_le_add_left (by decide) _ | (simp only [Nat.add_assoc]; exact Nat.add_le_add_left (by decide) _)), room_n h6 hn5 (by first | exact Nat.le_add_right _ _ | exact Nat.add_le_add_left (by decide) _ | (simp only [Nat.add_assoc]; exact Nat.add_le_add_left (by decide) _))⟩
              ) (hn9 := by
                exact mu_n hn9 hn5
              )
        · refine x_ti (y := nI 19) hwj ?_
          refine lv_tableIn (tgt := 1283) (off := 1244) hx hb dL_law_39 (by decide) (by decide) rfl (by decide) ?_
          refine lv_aload_n hx hb dL_law_1283 rfl (lv_at hl 1 rfl) ?_
          refine x_csd (va_runV (As := []) (rest := []) ⟨hx, hb, hml, hown, hts⟩ (c_X1_mean l D cI cZ cG cJ (fun q : Nat => s.heap.size ≤ q) ad (OL ao cJ ov :: (WM bd cI th c hid g code ans dbt many row heap our the wr3)) (pal_up (pal_m hpal)) c g hid code ans dbt opn ply hps (hI)) (cwV 0 hts gL_law_X1_mean rfl rfl rfl (by decide +kernel) ⟨Nat.le_of_ble_eq_true rfl, Nat.le_of_ble_eq_true rfl⟩) (preV (ci := 1) (q0 := 0) hB hS hP hD rfl rfl) rfl rfl hl.1 rfl (lv_room (Nat.le_of_ble_eq_true rfl)) dL_law_1284 ⟨Nat.le_trans (by first | exact Nat.le_add_right _ _ | exact Nat.add_le_add_left (by decide) _ | (simp only [Nat.add_assoc]; exact Nat.add_le_add_left (by decide) _)) hk3, Nat.le_trans (by first | exact Nat.le_add_right _ _ | exact Nat.add_le_add_left (by decide) _ | (simp only [Nat.add_assoc]; exact Nat.add_le_add_left (by decide) _)) hs3⟩) ?_
          refine lv_dstore (lv' := [(5, .double (meanV g ans)), (0, .ref (b)), (1, .ref (ad 0)), (2, .ref (bd 0)), (3, .ref (ao)), (4, .int (nI (i)))]) hx hb dL_law_1287 hl (by decide) rfl (fun ls hl => ?_)
          refine lv_aload_n hx hb dL_law_1289 rfl (lv_at hl 3 rfl) ?_
          have hP9 := xm_P hP
          have hD9 := xm_D hD
          refine va_calld (va_runV (As := []) (rest := []) ⟨hx, hb, hml, hown, hts⟩ (c_X2_mean l D cI cZ cG cJ (fun q : Nat => s.heap.size ≤ q) bd (WX ad cI cZ c g hid code ans dbt opn ply hps (OL ao cJ ov :: wr3)) th c hid g code ans dbt many row heap our the (hc) (hg) (hco)) (cwV 0 hts gL_law_X2_mean rfl rfl rfl (by decide +kernel) ⟨Nat.le_of_ble_eq_true rfl, Nat.le_of_ble_eq_true rfl⟩) (preV (ci := 2) (q0 := 0) hB hS hP9 hD9 rfl rfl) rfl rfl hl.1 rfl (lv_room (Nat.le_of_ble_eq_true rfl)) dL_law_1290 ⟨Nat.le_trans (by first | exact Nat.le_add_right _ _ | exact Nat.add_le_add_left (by decide) _ | (simp only [Nat.add_assoc]; exact Nat.add_le_add_left (by decide) _)) hk3, Nat.le_trans (by first | exact Nat.le_add_right _ _ | exact Nat.add_le_add_left (by decide) _ | (simp only [Nat.add_assoc]; exact Nat.add_le_add_left (by decide) _)) hs3⟩) hS (fun q _ h => h) (fun q h => h) (fun r_1290 u_1290 t9 H1 locs1 ht9 hvm9 hw_1290 hBw hz9 hk9 hS => ?_)
          obtain ⟨hP, hD⟩ := hBw
          rw [ht9] at hP
          generalize H1 = H at hP hS ⊢
          generalize locs1 = locs at hS ⊢
          replace hP := mx_P hP
          replace hD := mx_D hD
          replace hP : va_P D vwCl (WX ad cI cZ c g hid code ans dbt opn ply hps (OL ao cJ ov :: WM bd cI 0 c hid g code ans dbt many row heap our the wr3)) H := hP
          replace hD : va_D (fun q : Nat => s.heap.size ≤ q) (WX ad cI cZ c g hid code ans dbt opn ply hps (OL ao cJ ov :: WM bd cI 0 c hid g code ans dbt many row heap our the wr3)) := hD
          refine x_td (y := meanV g ans) (hw_1290.1) ?_
          refine lv_dstore (lv' := [(7, .double (meanV g ans)), (5, .double (meanV g ans)), (0, .ref (b)), (1, .ref (ad 0)), (2, .ref (bd 0)), (3, .ref (ao)), (4, .int (nI (i)))]) hx hb dL_law_1293 hl (by decide) rfl (fun ls hl => ?_)
          refine lv_dload hx hb dL_law_1295 (lv_at hl 1 rfl) ?_
          refine lv_dload hx hb dL_law_1297 (lv_at hl 0 rfl) ?_
          refine lv_dcmp hx hb dL_law_1299 ?_
          refine x_ti (y := 0) (mean_cmp hg hco) ?_
          refine lv_if_eq (tgt := 1321) hx hb dL_law_1300 (by decide) (fun c1300 => ?_) (fun c1300 => absurd c1300 (fun q => q rfl))
          refine lv_goto (tgt := 1338) hx hb dL_law_1321 (by decide) ?_
          refine lv_iinc (v := nI (i + 4)) (lv' := [(4, .int (nI (i + 4))), (7, .double (meanV g ans)), (5, .double (meanV g ans)), (0, .ref (b)), (1, .ref (ad 0)), (2, .ref (bd 0)), (3, .ref (ao))]) hx hb dL_law_1338 hl (k := 6) rfl (nI_add _ _) (by decide) rfl (fun ls hl => ?_)
          refine lv_goto (tgt := 23) hx hb dL_law_1341 (by decide) ?_
          exact ih23 (n := n + 1) (i := i + 4) (c := c) (g := g) (hid := hid) (code := code) (ans := ans) (dbt := dbt) (opn := opn) (ply := ply) (hps := hps) (ov := ov) (th := 0) (many := many) (row := row) (heap := heap) (our := our) (the := the) (kc := _) (ks := _) (ls := ls) (hl := lv_sub hl [3, 4, 5, 6, 0] rfl) (H := H) (locs := locs) (hP := hP) (hD := hD) (hS := hS) (hinv := by
              exact ⟨hn5, hi2, hi4, hI, room_n h5 hn5 (by first | exact Nat.le_add_right _ _ | exact Nat.add_le_add_left (by decide) _ | (simp only [Nat.add_assoc]; exact Nat.add_le_add_left (by decide) _)), room_n h6 hn5 (by first | exact Nat.le_add_right _ _ | exact Nat.add_le_add_left (by decide) _ | (simp only [Nat.add_assoc]; exact Nat.add_le_add_left (by decide) _))⟩
            ) (hn9 := by
              exact mu_n hn9 hn5
            )
        · refine x_ti (y := nI 20) hwj ?_
          refine lv_tableIn (tgt := 1324) (off := 1285) hx hb dL_law_39 (by decide) (by decide) rfl (by decide) ?_
          refine lv_aload_n hx hb dL_law_1324 rfl (lv_at hl 1 rfl) ?_
          refine x_csl (va_runV (As := []) (rest := []) ⟨hx, hb, hml, hown, hts⟩ (c_X1_digest l D cI cZ cG cJ (fun q : Nat => s.heap.size ≤ q) ad (OL ao cJ ov :: (WM bd cI th c hid g code ans dbt many row heap our the wr3)) (pal_up (pal_m hpal)) c g hid code ans dbt opn ply hps (hI)) (cwV 0 hts gL_law_X1_digest rfl rfl rfl (by decide +kernel) ⟨Nat.le_of_ble_eq_true rfl, Nat.le_of_ble_eq_true rfl⟩) (preV (ci := 1) (q0 := 0) hB hS hP hD rfl rfl) rfl rfl hl.1 rfl (lv_room (Nat.le_of_ble_eq_true rfl)) dL_law_1325 ⟨Nat.le_trans (by first | exact Nat.le_add_right _ _ | exact Nat.add_le_add_left (by decide) _ | (simp only [Nat.add_assoc]; exact Nat.add_le_add_left (by decide) _)) hk3, Nat.le_trans (by first | exact Nat.le_add_right _ _ | exact Nat.add_le_add_left (by decide) _ | (simp only [Nat.add_assoc]; exact Nat.add_le_add_left (by decide) _)) hs3⟩) ?_
          refine lv_aload_n hx hb dL_law_1328 rfl (lv_at hl 2 rfl) ?_
          have hP9 := xm_P hP
          have hD9 := xm_D hD
          refine va_calll (va_runV (As := []) (rest := [.long (digV c g hid code ans dbt)]) ⟨hx, hb, hml, hown, hts⟩ (c_X2_digest l D cI cZ cG cJ (fun q : Nat => s.heap.size ≤ q) bd (WX ad cI cZ c g hid code ans dbt opn ply hps (OL ao cJ ov :: wr3)) th c hid g code ans dbt many row heap our the (hc) (hg) (hco)) (cwV 0 hts gL_law_X2_digest rfl rfl rfl (by decide +kernel) ⟨Nat.le_of_ble_eq_true rfl, Nat.le_of_ble_eq_true rfl⟩) (preV (ci := 2) (q0 := 0) hB hS hP9 hD9 rfl rfl) rfl rfl hl.1 rfl (lv_room (Nat.le_of_ble_eq_true rfl)) dL_law_1329 ⟨Nat.le_trans (by first | exact Nat.le_add_right _ _ | exact Nat.add_le_add_left (by decide) _ | (simp only [Nat.add_assoc]; exact Nat.add_le_add_left (by decide) _)) hk3, Nat.le_trans (by first | exact Nat.le_add_right _ _ | exact Nat.add_le_add_left (by decide) _ | (simp only [Nat.add_assoc]; exact Nat.add_le_add_left (by decide) _)) hs3⟩) hS (fun q _ h => h) (fun q h => h) (fun r_1329 u_1329 t9 H1 locs1 ht9 hvm9 hw_1329 hBw hz9 hk9 hS => ?_)
          obtain ⟨hP, hD⟩ := hBw
          rw [ht9] at hP
          generalize H1 = H at hP hS ⊢
          generalize locs1 = locs at hS ⊢
          replace hP := mx_P hP
          replace hD := mx_D hD
          replace hP : va_P D vwCl (WX ad cI cZ c g hid code ans dbt opn ply hps (OL ao cJ ov :: WM bd cI 0 c hid g code ans dbt u_1329.1 u_1329.2.1 u_1329.2.2.1 u_1329.2.2.2.1 u_1329.2.2.2.2 wr3)) H := hP
          replace hD : va_D (fun q : Nat => s.heap.size ≤ q) (WX ad cI cZ c g hid code ans dbt opn ply hps (OL ao cJ ov :: WM bd cI 0 c hid g code ans dbt u_1329.1 u_1329.2.1 u_1329.2.2.1 u_1329.2.2.2.1 u_1329.2.2.2.2 wr3)) := hD
          refine x_tl (y := digV c g hid code ans dbt) (hw_1329.1) ?_
          refine W.lcmp hx hb dL_law_1332 ?_
          refine x_ti (y := 0) (lg_cmp_self _) ?_
          refine lv_if_eq (tgt := 1338) hx hb dL_law_1333 (by decide) (fun c1333 => ?_) (fun c1333 => absurd c1333 (fun q => q rfl))
          refine lv_iinc (v := nI (i + 4)) (lv' := [(4, .int (nI (i + 4))), (0, .ref (b)), (1, .ref (ad 0)), (2, .ref (bd 0)), (3, .ref (ao))]) hx hb dL_law_1338 hl (k := 4) rfl (nI_add _ _) (by decide) rfl (fun ls hl => ?_)
          refine lv_goto (tgt := 23) hx hb dL_law_1341 (by decide) ?_
          exact ih23 (n := n + 1) (i := i + 4) (c := c) (g := g) (hid := hid) (code := code) (ans := ans) (dbt := dbt) (opn := opn) (ply := ply) (hps := hps) (ov := ov) (th := 0) (many := u_1329.1) (row := u_1329.2.1) (heap := u_1329.2.2.1) (our := u_1329.2.2.2.1) (the := u_1329.2.2.2.2) (kc := _) (ks := _) (ls := ls) (hl := lv_sub hl [1, 2, 3, 4, 0] rfl) (H := H) (locs := locs) (hP := hP) (hD := hD) (hS := hS) (hinv := by
              exact ⟨hn5, hi2, hi4, hI, room_n h5 hn5 (by first | exact Nat.le_add_right _ _ | exact Nat.add_le_add_left (by decide) _ | (simp only [Nat.add_assoc]; exact Nat.add_le_add_left (by decide) _)), room_n h6 hn5 (by first | exact Nat.le_add_right _ _ | exact Nat.add_le_add_left (by decide) _ | (simp only [Nat.add_assoc]; exact Nat.add_le_add_left (by decide) _))⟩
            ) (hn9 := by
              exact mu_n hn9 hn5
            )
