set_option maxHeartbeats 40000000 in
set_option maxRecDepth 100000 in
theorem law_go {p : Program} {l : Launch} {e : Env} {s : State} {m : MethodId} {below : List Frame} {meth : Method} {c9 : Code} (hfl : l.flags = flags0) {D : va_G} {cI cZ cG cJ : ClassId} {A : Nat → Prop} {ad : Nat → Nat} {b L : Nat} {xs : Nat → Int32} (hL : L ≤ 260) (C0 : lw_At p s m meth c9 b L xs) (hB : Bs D (TY cI cZ cG cJ) A s) (hAf : ∀ q, A q → s.heap.size ≤ q) {opn : Nat → Bool} {wr : va_W} (hpal : Pals cI cG ad wr) (hI : XI 3 0 (-1) (fun _ => 0) (fun _ => 0) (fun _ => false) opn) {H : Heap} {locs : List Loc} (hP : va_P D vwCl (WX ad cI cZ 3 0 (-1) (fun _ => 0) (fun _ => 0) (fun _ => false) opn (fun _ => false) (fun _ => 0) wr) H) (hD : va_D A (WX ad cI cZ 3 0 (-1) (fun _ => 0) (fun _ => 0) (fun _ => false) opn (fun _ => false) (fun _ => 0) wr)) (hS : va_S A s.heap H locs) {ls : Array Slot} (hl : lv_has ls 25 [(0, .ref (b)), (1, .ref (ad 0))]) {nc ns : Nat} (hnc : nc ≤ 600) (hns : ns ≤ 15100) : W p l e room_1 s m #[Value.ref b] below meth c9 H locs nc ns (lw_Z below #[Value.ref b] s) (F0 m 8 ls []) := by
  obtain ⟨hx, hb, hr, hml, hown, hts0, hX, hbl, hlocks, hgv⟩ := id C0
  have hown : s.vm.findClass RL = some m.cls := hown
  have hb : c9.code = cL_law := hb
  have hts : ∀ w ∈ wsL_law, w.before #[Value.ref b] s = true := fun w h => hts0 w (wsL_law_in w h)
  have hK := hB.1
  have hbA : ¬ A b := fun q => absurd (hAf b q) (Nat.not_le.mpr hbl)
  refine lv_aload_n hx hb dL_law_8 rfl (lv_at hl 1 rfl) ?_
  refine lv_aload_n hx hb dL_law_9 rfl (lv_at hl 0 rfl) ?_
  refine va_callr (va_runS (As := [.ref (ad 0), .ref (b)]) (rest := []) ⟨hx, hb, hml, hown, hts⟩ (c_L_build l hfl D cI cZ cG cJ A ad (fun _ => 0) (fun _ => 0) (fun _ => false) opn (fun _ => false) (fun _ => 0) wr b L xs (hpal) (hI) (hL)) (va_cwS 2 hts gL_law_L_build rfl rfl rfl (by decide +kernel) ⟨Nat.le_of_ble_eq_true rfl, Nat.le_of_ble_eq_true rfl⟩) (preSX hB hS hP hD hX hbl hbA) rfl rfl hl.1 rfl (lv_room (Nat.le_of_ble_eq_true rfl)) dL_law_10 ⟨by show _ ≤ 600130; omega, by show _ ≤ 7301080; omega⟩) hS (fun q _ h => h) (fun q h => h) (fun u_10 a9 t9 H1 locs1 ht9 hvm9 hw_10 hBw hz9 hk9 hS => ?_)
  obtain ⟨rfl, hP, hD⟩ := hBw
  rw [ht9] at hP
  generalize H1 = H at hP hS ⊢
  generalize locs1 = locs at hS ⊢
  obtain ⟨⟨c2, g2, hid2, code2, ans2, dbt2, opn2, ply2, hps2, wr2⟩, so⟩ := u_10
  replace hP : va_P D vwCl (WX ad cI cZ c2 g2 hid2 code2 ans2 dbt2 opn2 ply2 hps2 wr2) H := hP
  replace hD : va_D A (WX ad cI cZ c2 g2 hid2 code2 ans2 dbt2 opn2 ply2 hps2 wr2) := hD
  refine lv_astore_n (lv' := [(2, .ref (so)), (0, .ref (b)), (1, .ref (ad 0))]) hx hb dL_law_13 rfl hl (by decide) rfl (fun ls hl => ?_)
  refine lv_aload_n hx hb dL_law_14 rfl (lv_at hl 0 rfl) ?_
  refine lv_ifnonnull (tgt := 20) hx hb dL_law_15 (by decide) ?_
  refine lv_iconst (v := nI (0)) hx hb dL_law_20 (by decide) ?_
  refine lv_istore_n (lv' := [(3, .int (nI (0))), (2, .ref (so)), (0, .ref (b)), (1, .ref (ad 0))]) hx hb dL_law_21 rfl hl (by decide) rfl (fun ls hl => ?_)
  exact law_loop hfl hL C0 hB hAf hw_10 hP hD hS (lv_sub hl [2, 3, 1, 0] rfl) (by omega) (by omega)
