theorem tb_at {s : State} {A : Array Value} (h : ∀ w ∈ lw_tbl, w.before A s = true) (i : Nat) {w : Cond} (hi : tables_1[i]? = some w) : w.before A s = true := h w (List.mem_append_right _ (List.mem_of_getElem? hi))
theorem str_at {s : State} {A : Array Value} {own tx : String} {k : Nat} {cur : ClassId} (hc : s.vm.findClass own = some cur) (h : (Cond.stringRef own k tx).before A s = true) : ∃ a, vk_R own k tx a s := by
  obtain ⟨_, _, _, a, -, -, -, -, -, hev⟩ := Cond.stringRef_spec hc h
  exact ⟨a, vk_R.of h hev⟩
theorem ar_at {s : State} {A : Array Value} {ty : FieldType} (h : (Cond.arrayClass ty).before A s = true) : ∃ cA, ArrOfT s cA ty ∧ s.vm.findClass ("[" ++ ty.toString) = some cA := by
  obtain ⟨c, k, comp, h1, h2, h3⟩ := Cond.arrayClass_spec h
  exact ⟨c, fun n z => ⟨fun k h => (by cases h), k, h2, comp, h3⟩, h1⟩
theorem ag_at {s : State} {A : Array Value} {ty : FieldType} (h : (Cond.arrayOver (.array ty)).before A s = true) : ∃ cA, ArrOfT s cA (.array ty) ∧ s.vm.findClass ("[" ++ (FieldType.array ty).toString) = some cA := by
  obtain ⟨comp, c, k, h0, h2, h3, h1⟩ := Cond.arrayOver_specA h
  exact ⟨c, fun n z => ⟨fun k h => (by cases h), k, h2, comp, h3⟩, h1⟩
theorem start_N {s : State} {A : Array Value} (h : ∀ w ∈ lw_tbl, w.before A s = true) : ∀ w ∈ Nws, va_Nw w s := by
  intro w hw
  simp only [Nws, List.mem_cons, List.not_mem_nil, or_false] at hw
  rcases hw with rfl | rfl | rfl | rfl | rfl | rfl | rfl | rfl | rfl | rfl | rfl | rfl | rfl
  · exact va_Nw.of (by first | rfl | decide +kernel) (tb_at h 258 (by decide +kernel))
  · exact va_Nw.of (by first | rfl | decide +kernel) (tb_at h 77 (by decide +kernel))
  · exact va_Nw.of (by first | rfl | decide +kernel) (tb_at h 69 (by decide +kernel))
  · exact va_Nw.of (by first | rfl | decide +kernel) (tb_at h 22 (by decide +kernel))
  · exact va_Nw.of (by first | rfl | decide +kernel) (tb_at h 458 (by decide +kernel))
  · exact va_Nw.of (by first | rfl | decide +kernel) (tb_at h 50 (by decide +kernel))
  · exact va_Nw.of (by first | rfl | decide +kernel) (tb_at h 52 (by decide +kernel))
  · exact va_Nw.of (by first | rfl | decide +kernel) (tb_at h 127 (by decide +kernel))
  · exact va_Nw.of (by first | rfl | decide +kernel) (tb_at h 219 (by decide +kernel))
  · exact va_Nw.of (by first | rfl | decide +kernel) (tb_at h 198 (by decide +kernel))
  · exact va_Nw.of (by first | rfl | decide +kernel) (tb_at h 129 (by decide +kernel))
  · exact va_Nw.of (by first | rfl | decide +kernel) (tb_at h 131 (by decide +kernel))
  · exact va_Nw.of (by first | rfl | decide +kernel) (tb_at h 133 (by decide +kernel))
theorem start_S {s : State} {A : Array Value} (h : ∀ w ∈ lw_tbl, w.before A s = true) {cur : ClassId} (hc : s.vm.findClass RX1 = some cur) : ∀ q ∈ Strs, ∃ a, vk_R RX1 q.1 q.2 a s := by
  intro q hq
  simp only [Strs, List.mem_cons, List.not_mem_nil, or_false] at hq
  rcases hq with rfl | rfl | rfl | rfl | rfl | rfl | rfl | rfl | rfl | rfl | rfl | rfl | rfl
  · exact str_at hc (tb_at h 424 (by decide +kernel))
  · exact str_at hc (tb_at h 244 (by decide +kernel))
  · exact str_at hc (tb_at h 249 (by decide +kernel))
  · exact str_at hc (tb_at h 278 (by decide +kernel))
  · exact str_at hc (tb_at h 291 (by decide +kernel))
  · exact str_at hc (tb_at h 306 (by decide +kernel))
  · exact str_at hc (tb_at h 311 (by decide +kernel))
  · exact str_at hc (tb_at h 166 (by decide +kernel))
  · exact str_at hc (tb_at h 257 (by decide +kernel))
  · exact str_at hc (tb_at h 442 (by decide +kernel))
  · exact str_at hc (tb_at h 205 (by decide +kernel))
  · exact str_at hc (tb_at h 212 (by decide +kernel))
  · exact str_at hc (tb_at h 226 (by decide +kernel))
theorem start_Bs {p : Program} {s : State} {m : MethodId} {meth : Method} {c : Code} {b L : Nat} {xs : Nat → Int32} (C0 : lw_At p s m meth c b L xs) : ∃ (D : va_G) (cI cZ cG cJ : ClassId), Bs D (TY cI cZ cG cJ) (fun q : Nat => s.heap.size ≤ q) s := by
  obtain ⟨hx, hb, hr, hml, hown, hts0, hX, hbl, hlocks, hgv⟩ := C0
  have hts : ∀ w ∈ wsL_law, w.before #[Value.ref b] s = true := fun w h => hts0 w (wsL_law_in w h)
  obtain ⟨c0, iS0, hK0⟩ := u_known (C := RX0) (T := TX0) (N := 4) (n := 4) hts inlX0 (tb_at hts0 21 (by decide +kernel))
  obtain ⟨c1, iS1, hK1⟩ := u_known (C := RX1) (T := TX1) (N := 11) (n := 11) hts inlX1 (tb_at hts0 13 (by decide +kernel))
  obtain ⟨c2, iS2, hK2⟩ := u_known (C := RX2) (T := TX2) (N := 3) (n := 3) hts inlX2 (tb_at hts0 457 (by decide +kernel))
  obtain ⟨dC, dI, hKc⟩ : ∃ (dC : Nat → ClassId) (dI : Nat → Nat → Nat), ∀ (k : Nat) (q : vw_C), vwCl[k]? = some q → u_Kn s q.1 q.2.1 q.2.2 (dC k) (dI k) := by
    refine ⟨fun k => if k = 0 then c0 else if k = 1 then c1 else c2, fun k => if k = 0 then iS0 else if k = 1 then iS1 else iS2, ?_⟩
    intro k q hq
    match k, hq with
    | 0, hq => cases hq; exact hK0
    | 1, hq => cases hq; exact hK1
    | 2, hq => cases hq; exact hK2
    | k + 3, hq => simp [vwCl] at hq
  obtain ⟨cI, aI, nI9⟩ := ar_at (ty := .int) (tb_at hts0 64 (by decide +kernel))
  obtain ⟨cZ, aZ, nZ9⟩ := ar_at (ty := .boolean) (tb_at hts0 116 (by decide +kernel))
  obtain ⟨cG, aG, nG9⟩ := ag_at (ty := .int) (tb_at hts0 27 (by decide +kernel))
  have hs := flat_of_before _ hgv
  refine ⟨(dC, dI), cI, cZ, cG, cI, ⟨hKc, ?_⟩, fun q h => h, ?_⟩
  · intro k q hq
    match k, hq with
    | 0, hq => cases hq; exact ⟨aI, nI9⟩
    | 1, hq => cases hq; exact ⟨aZ, nZ9⟩
    | 2, hq => cases hq; exact ⟨aG, nG9⟩
    | k + 3, hq => simp [TY] at hq
  · exact ⟨vx_Zqof (tb_at hts0 152 (by decide +kernel)) (tb_at hts0 5 (by decide +kernel)) (hs _ (by decide +kernel)) (fun a h => Nat.not_le.mpr h), vx_Zqof (tb_at hts0 154 (by decide +kernel)) (tb_at hts0 5 (by decide +kernel)) (hs _ (by decide +kernel)) (fun a h => Nat.not_le.mpr h), start_N hts0, start_S hts0 hK1.2.1, trivial, trivial, trivial, va_AOA.of (tb_at hts0 27 (by decide +kernel))⟩
set_option maxHeartbeats 4000000 in
set_option maxRecDepth 100000 in
theorem whole_start {p : Program} {e : Env} {s : State} {m : MethodId} {below : List Frame} {meth : Method} {c : Code} (l : Launch) (hflags : l.flags = flags0) {b L : Nat} {xs : Nat → Int32} (hL : L ≤ 260) (C0 : lw_At p s m meth c b L xs) : W p l e room_1 s m #[Value.ref b] below meth c s.heap [] 0 0 (lw_Z below #[Value.ref b] s) (entryFrame m ([Value.ref b] : List Value).toArray 25) := by
  obtain ⟨D, cI, cZ, cG, cJ, hB⟩ := start_Bs C0
  obtain ⟨hx, hb, hr, hml, hown, hts0, hX, hbl, hlocks, hgv⟩ := id C0
  have hown : s.vm.findClass RL = some m.cls := hown
  have hb : c.code = cL_law := hb
  have hts : ∀ w ∈ wsL_law, w.before #[Value.ref b] s = true := fun w h => hts0 w (wsL_law_in w h)
  have hK := hB.1
  have hA : ∀ q : Nat, s.heap.size ≤ q → (fun q : Nat => s.heap.size ≤ q) q := fun _ h => h
  have hS : va_S (fun q : Nat => s.heap.size ≤ q) s.heap s.heap [] := va_S.rf
  have hP : va_P D vwCl [] s.heap := fun k q h => by simp at h
  have hD : va_D (fun q : Nat => s.heap.size ≤ q) [] := ⟨fun i j p q h => by simp at h, fun k q h => by simp at h⟩
  have hl := lv_entry ([.ref b]) (n := 25) (Nat.le_of_ble_eq_true rfl)
  rw [lg_entry_eq]
  generalize (lg_sl ([.ref b]) ++ List.replicate (25 - (lg_sl ([.ref b])).length) Slot.unset).toArray = ls at hl ⊢
  have hl : lv_has ls 25 [(0, .ref b)] := hl
  refine va_new (D := D) (ci := 1) (fs := [.null, .null, .null, .int 0, .int 0, .null, .null, .null, .null, .null, .null]) (C := RX1) (T := TX1) (N := 11) hx hb hts inlX1 tyX1 tyX1_ok hown (hts (.classLink RL 35 RX1) (by decide +kernel)) (hts (.instantiable RX1 11) (by decide +kernel)) (hts (.initialized RX1) (by decide +kernel)) hK hP hD hS hA rfl (fun j hj => by rcases (show j = 0 ∨ j = 1 ∨ j = 2 ∨ j = 3 ∨ j = 4 ∨ j = 5 ∨ j = 6 ∨ j = 7 ∨ j = 8 ∨ j = 9 ∨ j = 10 by omega) with rfl | rfl | rfl | rfl | rfl | rfl | rfl | rfl | rfl | rfl | rfl <;> rfl) (by show _ ≤ 600130; omega) (by show _ ≤ 7301080; omega) dL_law_0 (fun x H hP hD hS => ?_)
  refine lv_dup hx hb dL_law_3 rfl ?_
  refine va_callv (va_runI (As := []) (rest := [.ref x]) ⟨hx, hb, hml, hown, hts⟩ (c_X1_init l D cI cZ cG cJ (fun q : Nat => s.heap.size ≤ q) x) (cwI 0 hts gL_law_X1_init rfl rfl rfl (hts (.initialized RX1) (by decide +kernel)) (hts (.methodLink RL 99 yX1_init) (by decide +kernel)) (hts (.instanceMethod yX1_init) (by decide +kernel)) rfl (by decide +kernel) ⟨(Nat.le_of_ble_eq_true rfl), (Nat.le_of_ble_eq_true rfl)⟩) (preS hB hS hP hD) rfl rfl hl.1 rfl (lv_room (Nat.le_of_ble_eq_true rfl)) dL_law_4 ⟨by show _ ≤ 600130; omega, by show _ ≤ 7301080; omega⟩) hS (fun q _ h => h) (fun q h => h) (fun u1 t9 H1 locs1 ht9 hvm9 hw9 hBw hz9 hk9 hS => ?_)
  obtain ⟨hP, hD⟩ := hBw
  rw [ht9] at hP
  obtain ⟨ad, opn, wr⟩ := u1
  obtain ⟨ea, hpal, hop⟩ := hw9
  generalize H1 = H at hP hS ⊢
  replace hP : va_P D vwCl (WX ad cI cZ 3 0 (-1) (fun _ => 0) (fun _ => 0) (fun _ => false) opn (fun _ => false) (fun _ => 0) wr) H := hP
  replace hD : va_D (fun q : Nat => s.heap.size ≤ q) (WX ad cI cZ 3 0 (-1) (fun _ => 0) (fun _ => 0) (fun _ => false) opn (fun _ => false) (fun _ => 0) wr) := hD
  change ad 0 = x at ea
  rw [← ea]
  refine lv_astore_n (lv' := [(1, .ref (ad 0)), (0, .ref b)]) hx hb dL_law_7 rfl hl (by decide) rfl (fun ls hl => ?_)
  exact law_go hflags hL C0 hB (fun q h => h) hpal ⟨Or.inr rfl, by decide, fun i hi => absurd hi (Nat.not_lt_zero _), Or.inl rfl, hop⟩ hP hD hS (lv_sub hl [1, 0] rfl) (by decide) (by decide)
