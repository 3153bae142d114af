theorem P_perm {D : va_G} {cl : List vw_C} {ws ws' : va_W} {H : Heap} (h : ws.Perm ws') (hP : va_P D cl ws H) : va_P D cl ws' H := by
  intro k q hk
  have h1 : q ∈ ws := h.symm.subset (List.mem_of_getElem? hk)
  obtain ⟨k', hk'⟩ := List.getElem?_of_mem h1
  exact hP k' q hk'
theorem D_iff {A : Nat → Prop} {ws : va_W} : va_D A ws ↔ (ws.map (·.1)).Nodup ∧ ∀ q ∈ ws, A q.1 := by
  constructor
  · intro h
    refine ⟨?_, fun q hq => ?_⟩
    · rw [List.Nodup, List.pairwise_iff_getElem]
      intro i j hi hj hij e
      rw [List.length_map] at hi hj
      rw [List.getElem_map, List.getElem_map] at e
      have := h.1 i j ws[i] ws[j] (List.getElem?_eq_getElem hi) (List.getElem?_eq_getElem hj) e
      omega
    · obtain ⟨k, hk⟩ := List.getElem?_of_mem hq
      exact h.2 k q hk
  · intro h
    refine ⟨fun i j p q hi hj e => ?_, fun k q hk => h.2 q (List.mem_of_getElem? hk)⟩
    obtain ⟨hi1, hi2⟩ := List.getElem?_eq_some_iff.mp hi
    obtain ⟨hj1, hj2⟩ := List.getElem?_eq_some_iff.mp hj
    have hp := List.pairwise_iff_getElem.mp h.1
    rcases Nat.lt_trichotomy i j with q1 | q1 | q1
    · have := hp i j (by rw [List.length_map]; exact hi1) (by rw [List.length_map]; exact hj1) q1
      rw [List.getElem_map, List.getElem_map, hi2, hj2] at this
      exact absurd e this
    · exact q1
    · have := hp j i (by rw [List.length_map]; exact hj1) (by rw [List.length_map]; exact hi1) q1
      rw [List.getElem_map, List.getElem_map, hi2, hj2] at this
      exact absurd e.symm this
theorem D_perm {A : Nat → Prop} {ws ws' : va_W} (h : ws.Perm ws') (hD : va_D A ws) : va_D A ws' := by
  rw [D_iff] at hD ⊢
  exact ⟨(h.map (·.1)).nodup_iff.mp hD.1, fun q hq => hD.2 q (h.symm.subset hq)⟩
section XM
variable {ad bd : Nat → Nat} {cI cZ : ClassId} {c g : Nat} {hid : Int32} {code ans : Nat → Nat} {dbt opn ply : Nat → Bool} {hps : Nat → Nat} {q : Nat × va_E} {th mc : Nat} {mhid : Int32} {mg : Nat} {mcode mans : Nat → Nat} {mdbt : Nat → Bool} {many : Nat} {row heap our the : Nat → Nat} {wr : va_W} {D : va_G} {cl : List vw_C} {H : Heap} {A : Nat → Prop}
theorem xm_perm : (WX ad cI cZ c g hid code ans dbt opn ply hps (q :: WM bd cI th mc mhid mg mcode mans mdbt many row heap our the wr)).Perm (WM bd cI th mc mhid mg mcode mans mdbt many row heap our the (WX ad cI cZ c g hid code ans dbt opn ply hps (q :: wr))) :=
  show (WX ad cI cZ c g hid code ans dbt opn ply hps [q] ++ (WM bd cI th mc mhid mg mcode mans mdbt many row heap our the [] ++ wr)).Perm (WM bd cI th mc mhid mg mcode mans mdbt many row heap our the [] ++ (WX ad cI cZ c g hid code ans dbt opn ply hps [q] ++ wr)) from by
    rw [← List.append_assoc, ← List.append_assoc]
    exact List.Perm.append_right _ List.perm_append_comm
theorem xm_P (h : va_P D cl (WX ad cI cZ c g hid code ans dbt opn ply hps (q :: WM bd cI th mc mhid mg mcode mans mdbt many row heap our the wr)) H) : va_P D cl (WM bd cI th mc mhid mg mcode mans mdbt many row heap our the (WX ad cI cZ c g hid code ans dbt opn ply hps (q :: wr))) H := P_perm xm_perm h
theorem xm_D (h : va_D A (WX ad cI cZ c g hid code ans dbt opn ply hps (q :: WM bd cI th mc mhid mg mcode mans mdbt many row heap our the wr))) : va_D A (WM bd cI th mc mhid mg mcode mans mdbt many row heap our the (WX ad cI cZ c g hid code ans dbt opn ply hps (q :: wr))) := D_perm xm_perm h
theorem mx_P (h : va_P D cl (WM bd cI th mc mhid mg mcode mans mdbt many row heap our the (WX ad cI cZ c g hid code ans dbt opn ply hps (q :: wr))) H) : va_P D cl (WX ad cI cZ c g hid code ans dbt opn ply hps (q :: WM bd cI th mc mhid mg mcode mans mdbt many row heap our the wr)) H := P_perm xm_perm.symm h
theorem mx_D (h : va_D A (WM bd cI th mc mhid mg mcode mans mdbt many row heap our the (WX ad cI cZ c g hid code ans dbt opn ply hps (q :: wr)))) : va_D A (WX ad cI cZ c g hid code ans dbt opn ply hps (q :: WM bd cI th mc mhid mg mcode mans mdbt many row heap our the wr)) := D_perm xm_perm.symm h
theorem pal_m {cG : ClassId} (h : Pals cI cG ad wr) : Pals cI cG ad (WM bd cI th mc mhid mg mcode mans mdbt many row heap our the wr) := ⟨h.1.up _ 8 (fun _ => rfl), h.2.up _ 8 (fun _ => rfl)⟩
end XM
theorem lg_cmp_self (x : Int64) : lg_cmp x x = 0 := by simp [lg_cmp]
theorem mean_cmp_tab : ∀ a, a < 73 → ∀ g, g < 13 → 0 < g → Op.cmpValue (FP.dcmp (FP.ddiv (FP.i2d (nI a)) (FP.i2d (nI g))) (FP.ddiv (FP.i2d (nI a)) (FP.i2d (nI g)))) .l = 0 := by decide +kernel
theorem mean_cmp {c g : Nat} {code ans : Nat → Nat} (hg : g ≤ 12) (h : CodeOK c g code ans) : Op.cmpValue (FP.dcmp (meanV g ans) (meanV g ans)) .l = 0 := by
  by_cases h0 : g = 0
  · rw [meanV, if_pos h0]; decide +kernel
  · have := blkS_le h g (Nat.le_refl _)
    rw [meanV, if_neg h0]
    exact mean_cmp_tab _ (by omega) g (by omega) (by omega)
theorem lim_f {L i : Nat} (hL : L ≤ 2048) (hi : i ≤ 2048) (h : ¬ nI L - 4 < nI i) : i + 3 < L := by
  rcases Nat.lt_or_ge L 4 with q | q
  · exfalso
    apply h
    have e : (nI L - 4 : Int32).toInt = (L : Int) - 4 := pk_sub_toInt (a := L) (b := 4) (by omega) (by omega)
    rw [Int32.lt_iff_toInt_lt, e, nI_toInt (by omega)]
    omega
  · have e : nI L - 4 = nI (L - 4) := pk_sub (a := L) (b := 4) q
    rw [e, nI_ltI (by omega) (by omega)] at h
    omega
section SLD
variable {p : Program} {l : Launch} {e : Env} {R : Room} {s : State} {m : MethodId} {args : Array Value} {below : List Frame} {meth : Method} {c : Code} {H : Heap} {locs : List Loc} {cells slots : Nat} {Q : State → Prop}
variable {cc : ByteArray} {pc : Nat} {ls : Array Slot} {rest : List Value} {A : Nat → Prop} {H0 : Heap}
theorem x_sld (hx : p.tables.exec = Jvm.exec) (hb : c.code = cc) {b L : Nat} {xs : Nat → Int32} (hX : va_X b L xs s H0) (hbl : b < H0.size) (hbA : ¬ A b) (hS : va_S A H0 H locs) {i : Nat} (hi : i < L) (hL : L < 2 ^ 31) (hdg : decode cc pc = .ok (.iaload, 1))
    (kk : W p l e R s m args below meth c H locs cells slots Q (F0 m (pc + 1) ls (.int (xs i) :: rest))) : W p l e R s m args below meth c H locs cells slots Q (F0 m pc ls (.int (nI i) :: .ref b :: rest)) :=
  va_sld hx hb hX hbl hbA hS (vp_in_nI hi hL) hdg (by rw [nI_clamp (Nat.lt_trans hi hL)]; exact kk)
end SLD
section TD
variable {p : Program} {l : Launch} {e : Env} {R : Room} {s : State} {m : MethodId} {args : Array Value} {below : List Frame} {meth : Method} {c : Code} {H : Heap} {locs : List Loc} {cells slots : Nat} {Q : State → Prop}
variable {pc : Nat} {ls : Array Slot} {rest : List Value}
theorem x_td {x y : UInt64} (h : x = y) (k : W p l e R s m args below meth c H locs cells slots Q (F0 m pc ls (.double y :: rest))) : W p l e R s m args below meth c H locs cells slots Q (F0 m pc ls (.double x :: rest)) := h ▸ k
theorem x_csd {v : UInt64} {st0 : List Value} {a : Array Value} (hr : va_Run p l e R s m args below meth c H locs cells slots 0 0 (F0 m pc ls st0) rest (vp_Sd (fun r => r = v) a) (fun _ => False)) (kk : W p l e R s m args below meth c H locs cells slots Q (F0 m (pc + 3) ls (.double v :: rest))) : W p l e R s m args below meth c H locs cells slots Q (F0 m pc ls st0) := vp_callSd (va_Run.run hr) (fun _ h => h ▸ kk)
end TD
