set_option maxHeartbeats 40000000 in
set_option maxRecDepth 100000 in
theorem law_S5 {p : Program} {l : Launch} {e : Env} {s : State} {m : MethodId} {below : List Frame} {meth : Method} {c9 : Code} (hfl : l.flags = flags0) {D : va_G} {cI cZ cG cJ : ClassId} {A : Nat → Prop} {ad : Nat → Nat} {so : Nat} {b L : Nat} {xs : Nat → Int32} (hL : L ≤ 260) (C0 : lw_At p s m meth c9 b L xs) (hB : Bs D (TY cI cZ cG cJ) A s) (hAf : ∀ q, A q → s.heap.size ≤ q) {c g : Nat} {hid : Int32} {code ans : Nat → Nat} {dbt opn ply : Nat → Bool} {hps : Nat → Nat} {wr : va_W} (hG : LG cI cG ad so (c, g, hid, code, ans, dbt, opn, ply, hps, wr))  {t : Nat} {v : Int32}  {H : Heap} {locs : List Loc} (hP : va_P D vwCl (WX ad cI cZ c g hid code ans dbt opn ply hps wr) H) (hD : va_D A (WX ad cI cZ c g hid code ans dbt opn ply hps wr)) (hS : va_S A s.heap H locs) {ls : Array Slot} (hl : lv_has ls 25 [(0, .ref (b)), (1, .ref (ad 0)), (2, .ref (so)), (3, .int (nI (t))), (4, .int (v)), (5, .int (nI (qq c))), (6, .int (nI (g))), (7, .int (nI (cN (opS c g code ans dbt) 81))), (8, .long (digV c g hid code ans dbt))]) {nc ns : Nat} (hnc : nc ≤ 90000) (hns : ns ≤ 900000) (K : ∀ (code2 ans2 : Nat → Nat) (dbt2 opn2 ply2 : Nat → Bool) (hps2 : Nat → Nat) (H : Heap) (locs : List Loc) (ls : Array Slot), LG cI cG ad so (c, g, hid, code2, ans2, dbt2, opn2, ply2, hps2, wr) → va_P D vwCl (WX ad cI cZ c g hid code2 ans2 dbt2 opn2 ply2 hps2 wr) H → va_D A (WX ad cI cZ c g hid code2 ans2 dbt2 opn2 ply2 hps2 wr) → va_S A s.heap H locs → lv_has ls 25 [(0, .ref (b)), (1, .ref (ad 0)), (2, .ref (so)), (3, .int (nI (t))), (4, .int (v))] → W p l e room_1 s m #[Value.ref b] below meth c9 H locs nc ns (lw_Z below #[Value.ref b] s) (F0 m 1047 ls [])) : W p l e room_1 s m #[Value.ref b] below meth c9 H locs nc ns (lw_Z below #[Value.ref b] s) (F0 m 819 ls []) := by
  obtain ⟨hx, hb, hr, hml, hown, hts0, hX, hbl, hlocks, hgv⟩ := id C0
  have hown : s.vm.findClass RL = some m.cls := hown
  have hb : c9.code = cL_law := hb
  have hts : ∀ w ∈ wsL_law, w.before #[Value.ref b] s = true := fun w h => hts0 w (wsL_law_in w h)
  have hK := hB.1
  have hbA : ¬ A b := fun q => absurd (hAf b q) (Nat.not_le.mpr hbl)
  obtain ⟨hpal, hI, hS0, hA5⟩ := id hG
  replace hpal : Pals cI cG ad wr := hpal
  replace hI : XI c g hid code ans dbt opn := hI
  replace hS0 : SimAt cI cG wr so c hid g code ans dbt := hS0
  replace hA5 : AnsOK g ans := hA5
  obtain ⟨hc, hg, hco, hhid, hop⟩ := id hI
  have hq := qq_in hc
  have hcl81 := cN_le (opS c g code ans dbt) 81
  have hG9 : ∀ {ply2 : Nat → Bool} {hps2 : Nat → Nat}, LG cI cG ad so (c, g, hid, code, ans, dbt, opn, ply2, hps2, wr) := hG
  refine lv_iload hx hb dL_law_819 (lv_at hl 4 rfl) ?_
  refine lv_iconst (v := nI (3)) hx hb dL_law_821 (by decide) ?_
  refine lv_ishr hx hb dL_law_822 ?_
  refine lv_iload hx hb dL_law_823 (lv_at hl 5 rfl) ?_
  refine x_csi (va_runS (As := [.int ((v) >>> ((nI (3)) &&& 31)), .int (nI (qq c))]) (rest := []) ⟨hx, hb, hml, hown, hts⟩ (c_L_below l D cI cZ cG cJ A (WX ad cI cZ c g hid code ans dbt opn ply hps wr) ((v) >>> ((nI (3)) &&& 31)) (qq c) (by omega) (by omega)) (va_cwS 2 hts gL_law_L_below rfl rfl rfl (by decide +kernel) ⟨Nat.le_of_ble_eq_true rfl, Nat.le_of_ble_eq_true rfl⟩) (preS hB hS hP hD) rfl rfl hl.1 rfl (lv_room (Nat.le_of_ble_eq_true rfl)) dL_law_825 ⟨by show _ ≤ 600130; omega, by show _ ≤ 7301080; omega⟩) ?_
  obtain ⟨cd, e_cd⟩ : ∃ q : Nat, q = bw ((v) >>> ((nI (3)) &&& 31)) (qq c) := ⟨_, rfl⟩
  have h_cd : cd < qq c := by rw [e_cd]; exact bw_lt _ (by omega)
  refine x_ti (y := nI (cd)) (by rw [e_cd]) ?_
  refine lv_istore (lv' := [(18, .int (nI (cd))), (0, .ref (b)), (1, .ref (ad 0)), (2, .ref (so)), (3, .int (nI (t))), (4, .int (v)), (5, .int (nI (qq c))), (6, .int (nI (g))), (7, .int (nI (cN (opS c g code ans dbt) 81))), (8, .long (digV c g hid code ans dbt))]) hx hb dL_law_828 hl (by decide) rfl (fun ls hl => ?_)
  refine lv_iload hx hb dL_law_830 (lv_at hl 5 rfl) ?_
  refine lv_iconst (v := nI (5)) hx hb dL_law_832 (by decide) ?_
  refine lv_ishr hx hb dL_law_833 ?_
  refine lv_iload hx hb dL_law_834 (lv_at hl 6 rfl) ?_
  refine x_csi (va_runS (As := [.int ((v) >>> ((nI (5)) &&& 31)), .int (nI (qq c))]) (rest := []) ⟨hx, hb, hml, hown, hts⟩ (c_L_below l D cI cZ cG cJ A (WX ad cI cZ c g hid code ans dbt opn ply hps wr) ((v) >>> ((nI (5)) &&& 31)) (qq c) (by omega) (by omega)) (va_cwS 2 hts gL_law_L_below rfl rfl rfl (by decide +kernel) ⟨Nat.le_of_ble_eq_true rfl, Nat.le_of_ble_eq_true rfl⟩) (preS hB hS hP hD) rfl rfl hl.1 rfl (lv_room (Nat.le_of_ble_eq_true rfl)) dL_law_836 ⟨by show _ ≤ 600130; omega, by show _ ≤ 7301080; omega⟩) ?_
  obtain ⟨fi, e_fi⟩ : ∃ q : Nat, q = bw ((v) >>> ((nI (5)) &&& 31)) (qq c) := ⟨_, rfl⟩
  have h_fi : fi < qq c := by rw [e_fi]; exact bw_lt _ (by omega)
  refine x_ti (y := nI (fi)) (by rw [e_fi]) ?_
  refine lv_istore (lv' := [(19, .int (nI (fi))), (18, .int (nI (cd))), (0, .ref (b)), (1, .ref (ad 0)), (2, .ref (so)), (3, .int (nI (t))), (4, .int (v)), (5, .int (nI (qq c))), (6, .int (nI (g))), (7, .int (nI (cN (opS c g code ans dbt) 81))), (8, .long (digV c g hid code ans dbt))]) hx hb dL_law_839 hl (by decide) rfl (fun ls hl => ?_)
  refine lv_aload_n hx hb dL_law_841 rfl (lv_at hl 3 rfl) ?_
  refine lv_iload hx hb dL_law_842 (lv_at hl 1 rfl) ?_
  refine lv_iload hx hb dL_law_844 (lv_at hl 0 rfl) ?_
  refine va_calli (va_runV (As := [.int (nI (cd)), .int (nI (fi))]) (rest := []) ⟨hx, hb, hml, hown, hts⟩ (c_X1_takesP l D cI cZ cG cJ A ad wr hpal c g hid code ans dbt opn ply hps cd fi (hI) (h_cd) (h_fi)) (cwV 2 hts gL_law_X1_takes rfl rfl rfl (by decide +kernel) ⟨Nat.le_of_ble_eq_true rfl, Nat.le_of_ble_eq_true rfl⟩) (preV (ci := 1) (q0 := 0) hB hS hP hD rfl rfl) rfl rfl hl.1 rfl (lv_room (Nat.le_of_ble_eq_true rfl)) dL_law_846 ⟨by show _ ≤ 600130; omega, by show _ ≤ 7301080; omega⟩) hS (fun q _ h => h) (fun q h => h) (fun r_846 u_846 t9 H1 locs1 ht9 hvm9 hw_846 hBw hz9 hk9 hS => ?_)
  obtain ⟨hP, hD⟩ := hBw
  rw [ht9] at hP
  generalize H1 = H at hP hS ⊢
  generalize locs1 = locs at hS ⊢
  replace hP : va_P D vwCl (WX ad cI cZ c g hid code ans dbt opn u_846.1 u_846.2 wr) H := hP
  replace hD : va_D A (WX ad cI cZ c g hid code ans dbt opn u_846.1 u_846.2 wr) := hD
  obtain ⟨tk, htk1, htk2, htk3, htk4⟩ := takes_facts hc h_cd h_fi hw_846.1
  refine x_ti (y := nI (tk)) (htk3) ?_
  refine lv_istore (lv' := [(20, .int (nI (tk))), (19, .int (nI (fi))), (18, .int (nI (cd))), (0, .ref (b)), (1, .ref (ad 0)), (2, .ref (so)), (3, .int (nI (t))), (4, .int (v)), (5, .int (nI (qq c))), (6, .int (nI (g))), (7, .int (nI (cN (opS c g code ans dbt) 81))), (8, .long (digV c g hid code ans dbt))]) hx hb dL_law_849 hl (by decide) rfl (fun ls hl => ?_)
  refine lv_iload hx hb dL_law_851 (lv_at hl 0 rfl) ?_
  refine lv_iconst (v := nI (1)) hx hb dL_law_853 (by decide) ?_
  refine x_lt (tgt := 902) hx hb dL_law_854 (by decide) (by omega) (by omega) (fun c854 => absurd c854 (by omega)) (fun c854 => ?_)
  refine lv_iload hx hb dL_law_857 (lv_at hl 0 rfl) ?_
  refine lv_iload hx hb dL_law_859 (lv_at hl 8 rfl) ?_
  refine lv_iconst (v := nI (1)) hx hb dL_law_861 (by decide) ?_
  refine lv_iadd hx hb dL_law_862 ?_
  refine x_ti (nI_add _ _) ?_
  refine x_gt (tgt := 902) hx hb dL_law_863 (by decide) (by omega) (by omega) (fun c863 => absurd c863 (by omega)) (fun c863 => ?_)
  refine lv_iload hx hb dL_law_866 (lv_at hl 0 rfl) ?_
  refine lv_iconst (v := nI (1)) hx hb dL_law_868 (by decide) ?_
  refine x_join (g2 := F0 m 892 ls []) ?_ (fun hj892 => ?_)
  · skip
    refine lv_aload_n hx hb dL_law_892 rfl (lv_at hl 4 rfl) ?_
    refine x_csl (va_runV (As := []) (rest := []) ⟨hx, hb, hml, hown, hts⟩ (c_X1_digest l D cI cZ cG cJ A ad wr hpal c g hid code ans dbt opn u_846.1 u_846.2 (hI)) (cwV 0 hts gL_law_X1_digest rfl rfl rfl (by decide +kernel) ⟨Nat.le_of_ble_eq_true rfl, Nat.le_of_ble_eq_true rfl⟩) (preV (ci := 1) (q0 := 0) hB hS hP hD rfl rfl) rfl rfl hl.1 rfl (lv_room (Nat.le_of_ble_eq_true rfl)) dL_law_893 ⟨by show _ ≤ 600130; omega, by show _ ≤ 7301080; omega⟩) ?_
    refine lv_lload hx hb dL_law_896 (lv_at hl 11 rfl) ?_
    refine W.lcmp hx hb dL_law_898 ?_
    refine x_ti (y := 0) (lg_cmp_self _) ?_
    refine lv_if_eq (tgt := 904) hx hb dL_law_899 (by decide) (fun c899 => ?_) (fun c899 => absurd c899 (fun q => q rfl))
    refine lv_iload hx hb dL_law_904 (lv_at hl 9 rfl) ?_
    refine lv_bipush (v := nI (12)) hx hb dL_law_906 (by decide) ?_
    refine x_eq (tgt := 1047) hx hb dL_law_908 (by decide) (by omega) (by omega) (fun c908 => ?_) (fun c908 => ?_)
    · skip
      exact K code ans dbt opn u_846.1 u_846.2 H locs ls hG9 hP hD hS (lv_sub hl [3, 4, 5, 6, 7] rfl)
    · skip
      refine lv_iload hx hb dL_law_911 (lv_at hl 10 rfl) ?_
      refine x_ne0 (tgt := 919) hx hb dL_law_913 (by decide) (by omega) (fun c913 => ?_) (fun c913 => ?_)
      · skip
        refine lv_aload_n hx hb dL_law_919 rfl (lv_at hl 4 rfl) ?_
        refine lv_iload hx hb dL_law_920 (lv_at hl 7 rfl) ?_
        refine lv_iconst (v := nI (4)) hx hb dL_law_922 (by decide) ?_
        refine lv_ishr hx hb dL_law_923 ?_
        refine lv_iload hx hb dL_law_924 (lv_at hl 10 rfl) ?_
        refine x_csi (va_runS (As := [.int ((v) >>> ((nI (4)) &&& 31)), .int (nI (cN (opS c g code ans dbt) 81))]) (rest := [.ref (ad 0)]) ⟨hx, hb, hml, hown, hts⟩ (c_L_below l D cI cZ cG cJ A (WX ad cI cZ c g hid code ans dbt opn u_846.1 u_846.2 wr) ((v) >>> ((nI (4)) &&& 31)) (cN (opS c g code ans dbt) 81) (by exact c913) (by omega)) (va_cwS 2 hts gL_law_L_below rfl rfl rfl (by decide +kernel) ⟨Nat.le_of_ble_eq_true rfl, Nat.le_of_ble_eq_true rfl⟩) (preS hB hS hP hD) rfl rfl hl.1 rfl (lv_room (Nat.le_of_ble_eq_true rfl)) dL_law_926 ⟨by show _ ≤ 600130; omega, by show _ ≤ 7301080; omega⟩) ?_
        obtain ⟨jj, e_jj⟩ : ∃ q : Nat, q = bw ((v) >>> ((nI (4)) &&& 31)) (cN (opS c g code ans dbt) 81) := ⟨_, rfl⟩
        have h_jj : jj < cN (opS c g code ans dbt) 81 := by rw [e_jj]; exact bw_lt _ (by exact c913)
        obtain ⟨kk, hk81, hks, hkj⟩ := cN_nth h_jj
        have hkq := op_lt2 hks
        refine x_ti (y := nI (jj)) (by rw [e_jj]) ?_
        refine x_csi (va_runV (As := [.int (nI (jj))]) (rest := []) ⟨hx, hb, hml, hown, hts⟩ (c_X1_possibleP l D cI cZ cG cJ A ad wr hpal c g hid code ans dbt opn u_846.1 u_846.2 jj kk (hI) (hk81) (hks) (hkj)) (cwV 1 hts gL_law_X1_possible rfl rfl rfl (by decide +kernel) ⟨Nat.le_of_ble_eq_true rfl, Nat.le_of_ble_eq_true rfl⟩) (preV (ci := 1) (q0 := 0) hB hS hP hD rfl rfl) rfl rfl hl.1 rfl (lv_room (Nat.le_of_ble_eq_true rfl)) dL_law_929 ⟨by show _ ≤ 600130; omega, by show _ ≤ 7301080; omega⟩) ?_
        refine lv_istore (lv' := [(21, .int (nI (kk))), (20, .int (nI (tk))), (19, .int (nI (fi))), (18, .int (nI (cd))), (0, .ref (b)), (1, .ref (ad 0)), (2, .ref (so)), (3, .int (nI (t))), (4, .int (v)), (5, .int (nI (qq c))), (6, .int (nI (g))), (7, .int (nI (cN (opS c g code ans dbt) 81))), (8, .long (digV c g hid code ans dbt))]) hx hb dL_law_932 hl (by decide) rfl (fun ls hl => ?_)
        refine lv_iload hx hb dL_law_934 (lv_at hl 8 rfl) ?_
        refine lv_bipush (v := nI (6)) hx hb dL_law_936 (by decide) ?_
        refine lv_ishr hx hb dL_law_938 ?_
        refine lv_iload hx hb dL_law_939 (lv_at hl 9 rfl) ?_
        refine x_csi (va_runS (As := [.int ((v) >>> ((nI (6)) &&& 31)), .int (nI (qq c))]) (rest := []) ⟨hx, hb, hml, hown, hts⟩ (c_L_below l D cI cZ cG cJ A (WX ad cI cZ c g hid code ans dbt opn u_846.1 u_846.2 wr) ((v) >>> ((nI (6)) &&& 31)) (qq c) (by omega) (by omega)) (va_cwS 2 hts gL_law_L_below rfl rfl rfl (by decide +kernel) ⟨Nat.le_of_ble_eq_true rfl, Nat.le_of_ble_eq_true rfl⟩) (preS hB hS hP hD) rfl rfl hl.1 rfl (lv_room (Nat.le_of_ble_eq_true rfl)) dL_law_941 ⟨by show _ ≤ 600130; omega, by show _ ≤ 7301080; omega⟩) ?_
        obtain ⟨gu, e_gu⟩ : ∃ q : Nat, q = bw ((v) >>> ((nI (6)) &&& 31)) (qq c) := ⟨_, rfl⟩
        have h_gu : gu < qq c := by rw [e_gu]; exact bw_lt _ (by omega)
        refine x_ti (y := nI (gu)) (by rw [e_gu]) ?_
        refine lv_istore (lv' := [(22, .int (nI (gu))), (21, .int (nI (kk))), (20, .int (nI (tk))), (19, .int (nI (fi))), (18, .int (nI (cd))), (0, .ref (b)), (1, .ref (ad 0)), (2, .ref (so)), (3, .int (nI (t))), (4, .int (v)), (5, .int (nI (qq c))), (6, .int (nI (g))), (7, .int (nI (cN (opS c g code ans dbt) 81))), (8, .long (digV c g hid code ans dbt))]) hx hb dL_law_944 hl (by decide) rfl (fun ls hl => ?_)
        refine lv_aload_n hx hb dL_law_946 rfl (lv_at hl 6 rfl) ?_
        refine lv_iload hx hb dL_law_947 (lv_at hl 0 rfl) ?_
        refine lv_iload hx hb dL_law_949 (lv_at hl 1 rfl) ?_
        refine x_csi (va_runV (As := [.int (nI (gu)), .int (nI (kk))]) (rest := []) ⟨hx, hb, hml, hown, hts⟩ (c_X1_pinsP l D cI cZ cG cJ A ad wr hpal c g hid code ans dbt opn u_846.1 u_846.2 gu kk (hI) (h_gu) (hkq)) (cwV 2 hts gL_law_X1_pins rfl rfl rfl (by decide +kernel) ⟨Nat.le_of_ble_eq_true rfl, Nat.le_of_ble_eq_true rfl⟩) (preV (ci := 1) (q0 := 0) hB hS hP hD rfl rfl) rfl rfl hl.1 rfl (lv_room (Nat.le_of_ble_eq_true rfl)) dL_law_951 ⟨by show _ ≤ 600130; omega, by show _ ≤ 7301080; omega⟩) ?_
        have hpi := pins_le hc h_gu hkq
        have hpt := pin_tab hc h_gu hkq
        have htf := tell_facts (gu := gu) hc hks
        refine lv_istore (lv' := [(23, .int (nI (pins c gu kk))), (22, .int (nI (gu))), (21, .int (nI (kk))), (20, .int (nI (tk))), (19, .int (nI (fi))), (18, .int (nI (cd))), (0, .ref (b)), (1, .ref (ad 0)), (2, .ref (so)), (3, .int (nI (t))), (4, .int (v)), (5, .int (nI (qq c))), (6, .int (nI (g))), (7, .int (nI (cN (opS c g code ans dbt) 81))), (8, .long (digV c g hid code ans dbt))]) hx hb dL_law_954 hl (by decide) rfl (fun ls hl => ?_)
        refine lv_aload_n hx hb dL_law_956 rfl (lv_at hl 7 rfl) ?_
        refine lv_iload hx hb dL_law_957 (lv_at hl 1 rfl) ?_
        refine lv_iload hx hb dL_law_959 (lv_at hl 0 rfl) ?_
        refine lv_iconst (v := nI (5)) hx hb dL_law_961 (by decide) ?_
        refine lv_idiv hx hb dL_law_962 (nI_ne0 (by omega) (by omega)) ?_
        refine x_ti (pk_div (by omega) (by omega) (by omega)) ?_
        refine lv_iload hx hb dL_law_963 (lv_at hl 0 rfl) ?_
        refine lv_iconst (v := nI (5)) hx hb dL_law_965 (by decide) ?_
        refine lv_irem hx hb dL_law_966 (nI_ne0 (by omega) (by omega)) ?_
        refine x_ti (pk_rem (by omega) (by omega) (by omega)) ?_
        refine va_calli (va_runV (As := [.int (nI (gu)), .int (nI ((pins c gu kk) / 5)), .int (nI ((pins c gu kk) % 5))]) (rest := []) ⟨hx, hb, hml, hown, hts⟩ (c_X1_tellP l D cI cZ cG cJ A ad wr hpal c g hid code ans dbt opn u_846.1 u_846.2 gu ((pins c gu kk) / 5) ((pins c gu kk) % 5) (hI) (h_gu) (hpt.1) (hpt.2) (by omega)) (cwV 3 hts gL_law_X1_tell rfl rfl rfl (by decide +kernel) ⟨Nat.le_of_ble_eq_true rfl, Nat.le_of_ble_eq_true rfl⟩) (preV (ci := 1) (q0 := 0) hB hS hP hD rfl rfl) rfl rfl hl.1 rfl (lv_room (Nat.le_of_ble_eq_true rfl)) dL_law_967 ⟨by show _ ≤ 600130; omega, by show _ ≤ 7301080; omega⟩) hS (fun q _ h => h) (fun q h => h) (fun r_967 u_967 t9 H1 locs1 ht9 hvm9 hw_967 hBw hz9 hk9 hS => ?_)
        obtain ⟨hP, hD⟩ := hBw
        rw [ht9] at hP
        generalize H1 = H at hP hS ⊢
        generalize locs1 = locs at hS ⊢
        have h967 := hw_967
        rw [Nat.div_add_mod] at hP hD h967
        have hI2 : XI c (g + 1) hid (va_up code g gu) (va_up ans g (pins c gu kk)) (va_up dbt g false) u_967 := ⟨hc, by omega, code_up hco h_gu (by omega), hhid, h967.2⟩
        have hth := cN_le (opS c (g + 1) (va_up code g gu) (va_up ans g (pins c gu kk)) (va_up dbt g false)) 81
        have ht5 := cN_le (fun k => decide (pins c gu k = pins c gu kk)) (qq c)
        replace hP : va_P D vwCl (WX ad cI cZ c (g + 1) hid (va_up code g gu) (va_up ans g (pins c gu kk)) (va_up dbt g false) u_967 u_846.1 u_846.2 wr) H := hP
        replace hD : va_D A (WX ad cI cZ c (g + 1) hid (va_up code g gu) (va_up ans g (pins c gu kk)) (va_up dbt g false) u_967 u_846.1 u_846.2 wr) := hD
        refine x_ti (y := nI (cN (opS c (g + 1) (va_up code g gu) (va_up ans g (5 * ((pins c gu kk) / 5) + ((pins c gu kk) % 5))) (va_up dbt g false)) 81)) (hw_967.1) ?_
        refine x_ti (y := nI (cN (opS c (g + 1) (va_up code g gu) (va_up ans g (pins c gu kk)) (va_up dbt g false)) 81)) (by rw [Nat.div_add_mod]) ?_
        refine lv_istore (lv' := [(24, .int (nI (cN (opS c (g + 1) (va_up code g gu) (va_up ans g (pins c gu kk)) (va_up dbt g false)) 81))), (23, .int (nI (pins c gu kk))), (22, .int (nI (gu))), (21, .int (nI (kk))), (20, .int (nI (tk))), (19, .int (nI (fi))), (18, .int (nI (cd))), (0, .ref (b)), (1, .ref (ad 0)), (2, .ref (so)), (3, .int (nI (t))), (4, .int (v)), (5, .int (nI (qq c))), (6, .int (nI (g))), (7, .int (nI (cN (opS c g code ans dbt) 81))), (8, .long (digV c g hid code ans dbt))]) hx hb dL_law_970 hl (by decide) rfl (fun ls hl => ?_)
        refine lv_iload hx hb dL_law_972 (lv_at hl 0 rfl) ?_
        refine lv_iconst (v := nI (1)) hx hb dL_law_974 (by decide) ?_
        refine x_lt (tgt := 1045) hx hb dL_law_975 (by decide) (by omega) (by omega) (fun c975 => absurd c975 (Nat.not_lt.mpr htf.2.1)) (fun c975 => ?_)
        refine lv_iload hx hb dL_law_978 (lv_at hl 0 rfl) ?_
        refine lv_aload_n hx hb dL_law_980 rfl (lv_at hl 8 rfl) ?_
        refine lv_iload hx hb dL_law_981 (lv_at hl 13 rfl) ?_
        refine lv_iconst (v := nI (5)) hx hb dL_law_983 (by decide) ?_
        refine x_csi (va_runV (As := [.int (nI (g)), .int (nI (5))]) (rest := [.int (nI (cN (opS c (g + 1) (va_up code g gu) (va_up ans g (pins c gu kk)) (va_up dbt g false)) 81))]) ⟨hx, hb, hml, hown, hts⟩ (c_X1_toldP l D cI cZ cG cJ A ad wr hpal c (g + 1) hid (va_up code g gu) (va_up ans g (pins c gu kk)) (va_up dbt g false) u_967 u_846.1 u_846.2 g 5 (hI2) (by omega) (by decide)) (cwV 2 hts gL_law_X1_told rfl rfl rfl (by decide +kernel) ⟨Nat.le_of_ble_eq_true rfl, Nat.le_of_ble_eq_true rfl⟩) (preV (ci := 1) (q0 := 0) hB hS hP hD rfl rfl) rfl rfl hl.1 rfl (lv_room (Nat.le_of_ble_eq_true rfl)) dL_law_984 ⟨by show _ ≤ 600130; omega, by show _ ≤ 7301080; omega⟩) ?_
        refine x_ti (y := nI (cN (fun k => decide (pins c gu k = pins c gu kk)) (qq c))) (by simp [tldV, va_up]) ?_
        refine x_gt (tgt := 1045) hx hb dL_law_987 (by decide) (by omega) (by omega) (fun c987 => absurd c987 (Nat.not_lt.mpr htf.2.2.2)) (fun c987 => ?_)
        refine lv_aload_n hx hb dL_law_990 rfl (lv_at hl 8 rfl) ?_
        refine lv_iload hx hb dL_law_991 (lv_at hl 3 rfl) ?_
        refine x_csi (va_runV (As := [.int (nI (kk))]) (rest := []) ⟨hx, hb, hml, hown, hts⟩ (c_X1_isPossibleP l D cI cZ cG cJ A ad wr hpal c (g + 1) hid (va_up code g gu) (va_up ans g (pins c gu kk)) (va_up dbt g false) u_967 u_846.1 u_846.2 kk (hI2) (hkq)) (cwV 1 hts gL_law_X1_isPossible rfl rfl rfl (by decide +kernel) ⟨Nat.le_of_ble_eq_true rfl, Nat.le_of_ble_eq_true rfl⟩) (preV (ci := 1) (q0 := 0) hB hS hP hD rfl rfl) rfl rfl hl.1 rfl (lv_room (Nat.le_of_ble_eq_true rfl)) dL_law_993 ⟨by show _ ≤ 600130; omega, by show _ ≤ 7301080; omega⟩) ?_
        refine x_zeq (tgt := 1045) hx hb dL_law_996 (by decide) (fun c996 => absurd c996 (by rw [htf.1]; decide)) (fun c996 => ?_)
        refine lv_iload hx hb dL_law_999 (lv_at hl 0 rfl) ?_
        refine lv_iload hx hb dL_law_1001 (lv_at hl 14 rfl) ?_
        refine x_gt (tgt := 1045) hx hb dL_law_1003 (by decide) (by omega) (by omega) (fun c1003 => absurd c1003 (Nat.not_lt.mpr htf.2.2.1)) (fun c1003 => ?_)
        refine lv_aload_n hx hb dL_law_1006 rfl (lv_at hl 8 rfl) ?_
        refine lv_iload hx hb dL_law_1007 (lv_at hl 13 rfl) ?_
        refine lv_iconst (v := bI (true)) hx hb dL_law_1009 (by decide) ?_
        refine va_calli (va_runV (As := [.int (nI (g)), .int (bI (true))]) (rest := []) ⟨hx, hb, hml, hown, hts⟩ (c_X1_doubtP l D cI cZ cG cJ A ad wr hpal c (g + 1) hid (va_up code g gu) (va_up ans g (pins c gu kk)) (va_up dbt g false) u_967 u_846.1 u_846.2 g true (hI2) (by omega)) (cwV 2 hts gL_law_X1_doubt rfl rfl rfl (by decide +kernel) ⟨Nat.le_of_ble_eq_true rfl, Nat.le_of_ble_eq_true rfl⟩) (preV (ci := 1) (q0 := 0) hB hS hP hD rfl rfl) rfl rfl hl.1 rfl (lv_room (Nat.le_of_ble_eq_true rfl)) dL_law_1010 ⟨by show _ ≤ 600130; omega, by show _ ≤ 7301080; omega⟩) hS (fun q _ h => h) (fun q h => h) (fun r_1010 u_1010 t9 H1 locs1 ht9 hvm9 hw_1010 hBw hz9 hk9 hS => ?_)
        obtain ⟨hP, hD⟩ := hBw
        rw [ht9] at hP
        generalize H1 = H at hP hS ⊢
        generalize locs1 = locs at hS ⊢
        replace hP : va_P D vwCl (WX ad cI cZ c (g + 1) hid (va_up code g gu) (va_up ans g (pins c gu kk)) (va_up (va_up dbt g false) g true) u_1010 u_846.1 u_846.2 wr) H := hP
        replace hD : va_D A (WX ad cI cZ c (g + 1) hid (va_up code g gu) (va_up ans g (pins c gu kk)) (va_up (va_up dbt g false) g true) u_1010 u_846.1 u_846.2 wr) := hD
        have hI3 : XI c (g + 1) hid (va_up code g gu) (va_up ans g (pins c gu kk)) (va_up (va_up dbt g false) g true) u_1010 := ⟨hc, by omega, code_up hco h_gu (by omega), hhid, hw_1010.2⟩
        refine x_ti (y := bI ((va_up dbt g false) g)) (hw_1010.1) ?_
        refine x_ti (y := bI (false)) (by simp [va_up]) ?_
        refine x_zne (tgt := 1045) hx hb dL_law_1013 (by decide) (fun c1013 => absurd c1013 (by decide)) (fun c1013 => ?_)
        refine lv_aload_n hx hb dL_law_1016 rfl (lv_at hl 8 rfl) ?_
        refine lv_iconst (v := nI (3)) hx hb dL_law_1017 (by decide) ?_
        refine x_csi (va_runV (As := [.int (nI (3))]) (rest := []) ⟨hx, hb, hml, hown, hts⟩ (c_X1_countP l D cI cZ cG cJ A ad wr hpal c (g + 1) hid (va_up code g gu) (va_up ans g (pins c gu kk)) (va_up (va_up dbt g false) g true) u_1010 u_846.1 u_846.2 3 (hI3) (by decide)) (cwV 1 hts gL_law_X1_count rfl rfl rfl (by decide +kernel) ⟨Nat.le_of_ble_eq_true rfl, Nat.le_of_ble_eq_true rfl⟩) (preV (ci := 1) (q0 := 0) hB hS hP hD rfl rfl) rfl rfl hl.1 rfl (lv_room (Nat.le_of_ble_eq_true rfl)) dL_law_1018 ⟨by show _ ≤ 600130; omega, by show _ ≤ 7301080; omega⟩) ?_
        refine x_ti (y := nI (cN (opS c g code ans dbt) 81)) (congrArg nI (cN_congr 81 (fun z _ => op_dbt))) ?_
        refine lv_iload hx hb dL_law_1021 (lv_at hl 14 rfl) ?_
        refine x_ne (tgt := 1045) hx hb dL_law_1023 (by decide) (by omega) (by omega) (fun c1023 => absurd c1023 (fun q => q rfl)) (fun c1023 => ?_)
        refine lv_aload_n hx hb dL_law_1026 rfl (lv_at hl 8 rfl) ?_
        refine va_calli (va_runV (As := []) (rest := []) ⟨hx, hb, hml, hown, hts⟩ (c_X1_forgetP l D cI cZ cG cJ A ad wr hpal c (g + 1) hid (va_up code g gu) (va_up ans g (pins c gu kk)) (va_up (va_up dbt g false) g true) u_1010 u_846.1 u_846.2 (hI3) (by omega)) (cwV 0 hts gL_law_X1_forget rfl rfl rfl (by decide +kernel) ⟨Nat.le_of_ble_eq_true rfl, Nat.le_of_ble_eq_true rfl⟩) (preV (ci := 1) (q0 := 0) hB hS hP hD rfl rfl) rfl rfl hl.1 rfl (lv_room (Nat.le_of_ble_eq_true rfl)) dL_law_1027 ⟨by show _ ≤ 600130; omega, by show _ ≤ 7301080; omega⟩) hS (fun q _ h => h) (fun q h => h) (fun r_1027 u_1027 t9 H1 locs1 ht9 hvm9 hw_1027 hBw hz9 hk9 hS => ?_)
        obtain ⟨hP, hD⟩ := hBw
        rw [ht9] at hP
        generalize H1 = H at hP hS ⊢
        generalize locs1 = locs at hS ⊢
        have h1027 := hw_1027
        rw [Nat.add_sub_cancel] at hP hD h1027
        have hI4 : XI c g hid (va_up code g gu) (va_up ans g (pins c gu kk)) (va_up (va_up dbt g false) g true) u_1027 := ⟨hc, hg, fun i hi => code_up hco h_gu (by omega) i (by omega), hhid, h1027.2⟩
        replace hP : va_P D vwCl (WX ad cI cZ c g hid (va_up code g gu) (va_up ans g (pins c gu kk)) (va_up (va_up dbt g false) g true) u_1027 u_846.1 u_846.2 wr) H := hP
        replace hD : va_D A (WX ad cI cZ c g hid (va_up code g gu) (va_up ans g (pins c gu kk)) (va_up (va_up dbt g false) g true) u_1027 u_846.1 u_846.2 wr) := hD
        refine x_ti (y := nI ((va_up code g gu) ((g + 1) - 1))) (hw_1027.1) ?_
        refine x_ti (y := nI (gu)) (by simp [va_up]) ?_
        refine lv_iload hx hb dL_law_1030 (lv_at hl 2 rfl) ?_
        refine x_ne (tgt := 1045) hx hb dL_law_1032 (by decide) (by omega) (by omega) (fun c1032 => absurd c1032 (fun q => q rfl)) (fun c1032 => ?_)
        refine lv_aload_n hx hb dL_law_1035 rfl (lv_at hl 8 rfl) ?_
        refine x_csl (va_runV (As := []) (rest := []) ⟨hx, hb, hml, hown, hts⟩ (c_X1_digest l D cI cZ cG cJ A ad wr hpal c g hid (va_up code g gu) (va_up ans g (pins c gu kk)) (va_up (va_up dbt g false) g true) u_1027 u_846.1 u_846.2 (hI4)) (cwV 0 hts gL_law_X1_digest rfl rfl rfl (by decide +kernel) ⟨Nat.le_of_ble_eq_true rfl, Nat.le_of_ble_eq_true rfl⟩) (preV (ci := 1) (q0 := 0) hB hS hP hD rfl rfl) rfl rfl hl.1 rfl (lv_room (Nat.le_of_ble_eq_true rfl)) dL_law_1036 ⟨by show _ ≤ 600130; omega, by show _ ≤ 7301080; omega⟩) ?_
        refine x_tl (y := digV c g hid code ans dbt) (dig_congr same_up) ?_
        refine lv_lload hx hb dL_law_1039 (lv_at hl 15 rfl) ?_
        refine W.lcmp hx hb dL_law_1041 ?_
        refine x_ti (y := 0) (lg_cmp_self _) ?_
        refine lv_if_eq (tgt := 1047) hx hb dL_law_1042 (by decide) (fun c1042 => ?_) (fun c1042 => absurd c1042 (fun q => q rfl))
        exact K (va_up code g gu) (va_up ans g (pins c gu kk)) (va_up (va_up dbt g false) g true) u_1027 u_846.1 u_846.2 H locs ls ⟨hpal, hI4, hS0.congr same_up, fun i hi => by simp only [va_up, if_neg (show ¬ i = g from fun q => absurd hi (by rw [q]; exact Nat.lt_irrefl g))]; exact hA5 i hi⟩ hP hD hS (lv_sub hl [7, 8, 9, 10, 11] rfl)
      · skip
        refine lv_goto (tgt := 1047) hx hb dL_law_916 (by decide) ?_
        exact K code ans dbt opn u_846.1 u_846.2 H locs ls hG9 hP hD hS (lv_sub hl [3, 4, 5, 6, 7] rfl)
  · skip
    refine x_ne (tgt := 876) hx hb dL_law_869 (by decide) (by omega) (by omega) (fun c869 => ?_) (fun c869 => ?_)
    · skip
      refine lv_iconst (v := nI (0)) hx hb dL_law_876 (by decide) ?_
      refine lv_iload hx hb dL_law_877 (lv_at hl 2 rfl) ?_
      refine lv_iload hx hb dL_law_879 (lv_at hl 1 rfl) ?_
      refine x_ne (tgt := 888) hx hb dL_law_881 (by decide) (by omega) (by omega) (fun c881 => ?_) (fun c881 => absurd c881 (fun q => c869 (htk4.mpr q)))
      refine lv_iconst (v := nI (0)) hx hb dL_law_888 (by decide) ?_
      refine x_ne (tgt := 902) hx hb dL_law_889 (by decide) (by omega) (by omega) (fun c889 => absurd c889 (fun q => q rfl)) (fun c889 => ?_)
      exact hj892
    · skip
      refine lv_iconst (v := nI (1)) hx hb dL_law_872 (by decide) ?_
      refine lv_goto (tgt := 877) hx hb dL_law_873 (by decide) ?_
      refine lv_iload hx hb dL_law_877 (lv_at hl 2 rfl) ?_
      refine lv_iload hx hb dL_law_879 (lv_at hl 1 rfl) ?_
      refine x_ne (tgt := 888) hx hb dL_law_881 (by decide) (by omega) (by omega) (fun c881 => absurd c881 (fun q => q (htk4.mp c869))) (fun c881 => ?_)
      refine lv_iconst (v := nI (1)) hx hb dL_law_884 (by decide) ?_
      refine lv_goto (tgt := 889) hx hb dL_law_885 (by decide) ?_
      refine x_ne (tgt := 902) hx hb dL_law_889 (by decide) (by omega) (by omega) (fun c889 => absurd c889 (fun q => q rfl)) (fun c889 => ?_)
      exact hj892
