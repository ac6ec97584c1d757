set_option maxRecDepth 100000 in
theorem kNs_in : ∀ w ∈ kNs, w ∈ lw_tbl := List.forall_mem_cons.mpr ⟨List.mem_append_right _ (List.mem_of_getElem? (i := 70) (by decide +kernel)), List.forall_mem_cons.mpr ⟨List.mem_append_right _ (List.mem_of_getElem? (i := 72) (by decide +kernel)), List.forall_mem_cons.mpr ⟨List.mem_append_right _ (List.mem_of_getElem? (i := 74) (by decide +kernel)), List.forall_mem_cons.mpr ⟨List.mem_append_right _ (List.mem_of_getElem? (i := 76) (by decide +kernel)), List.forall_mem_cons.mpr ⟨List.mem_append_right _ (List.mem_of_getElem? (i := 78) (by decide +kernel)), List.forall_mem_cons.mpr ⟨List.mem_append_right _ (List.mem_of_getElem? (i := 80) (by decide +kernel)), List.forall_mem_cons.mpr ⟨List.mem_append_right _ (List.mem_of_getElem? (i := 82) (by decide +kernel)), List.forall_mem_cons.mpr ⟨List.mem_append_right _ (List.mem_of_getElem? (i := 64) (by decide +kernel)), List.forall_mem_cons.mpr ⟨List.mem_append_right _ (List.mem_of_getElem? (i := 108) (by decide +kernel)), List.forall_mem_cons.mpr ⟨List.mem_append_right _ (List.mem_of_getElem? (i := 116) (by decide +kernel)), List.forall_mem_cons.mpr ⟨List.mem_append_right _ (List.mem_of_getElem? (i := 120) (by decide +kernel)), List.forall_mem_cons.mpr ⟨List.mem_append_right _ (List.mem_of_getElem? (i := 147) (by decide +kernel)), List.forall_mem_cons.mpr ⟨List.mem_append_right _ (List.mem_of_getElem? (i := 179) (by decide +kernel)), List.forall_mem_cons.mpr ⟨List.mem_append_right _ (List.mem_of_getElem? (i := 187) (by decide +kernel)), List.forall_mem_cons.mpr ⟨List.mem_append_right _ (List.mem_of_getElem? (i := 195) (by decide +kernel)), List.forall_mem_cons.mpr ⟨List.mem_append_right _ (List.mem_of_getElem? (i := 199) (by decide +kernel)), List.forall_mem_cons.mpr ⟨List.mem_append_right _ (List.mem_of_getElem? (i := 207) (by decide +kernel)), List.forall_mem_cons.mpr ⟨List.mem_append_right _ (List.mem_of_getElem? (i := 220) (by decide +kernel)), fun _ h => absurd h List.not_mem_nil⟩⟩⟩⟩⟩⟩⟩⟩⟩⟩⟩⟩⟩⟩⟩⟩⟩⟩
set_option maxRecDepth 100000 in
theorem kAO_in : Cond.arrayOver (.object "GracefulRestart$Peer") ∈ lw_tbl := List.mem_append_right _ (List.mem_of_getElem? (i := 13) (by decide +kernel))
theorem kc_A {args : Array Value} {s : State} {ty : FieldType} (h : (Cond.arrayClass ty).before args s = true) : ∃ cA : ClassId, ArrOfT s cA ty ∧ s.vm.findClass ("[" ++ ty.toString) = some cA := by
  obtain ⟨cA, kA, comp, h1, h2, h3⟩ := Cond.arrayClass_spec h
  exact ⟨cA, fun n z => ⟨fun k h => (by cases h), kA, h2, comp, h3⟩, h1⟩
theorem kc_P {s : State} {C : String} (h : va_AO C s) : ∃ cA : ClassId, ArrOfT s cA (.object C) ∧ va_RA s cA (.object C) := by
  obtain ⟨comp, cA, kA, h1, h2, h3, h4, h5⟩ := Cond.arrayOver_spec h
  exact ⟨cA, fun n z => ⟨fun k h => (by cases h), kA, h3, comp, h4⟩, kA, comp, h3, h4, h1, h5⟩
theorem law_more {L j : Nat} (hL : L ≤ 2560) (hj : j ≤ 512) (h : ¬ nI L - 5 < nI (5 * j)) : 5 * j + 5 ≤ L := by
  rw [Int32.lt_iff_toInt_lt, show (5 : Int32) = nI 5 from rfl, pk_sub_toInt (by omega) (by omega), nI_toInt (by omega)] at h
  omega

set_option maxRecDepth 100000 in
set_option maxHeartbeats 4000000 in
/-- the law at its loop's head, j calls done -/
theorem law_loop {p : Program} {l : Launch} {e : Env} {s : State} {m : MethodId} {below : List Frame} {meth : Method} {c : Code} {b L : Nat} {xs : Nat → Int32} (C0 : lw_At p s m meth c b L xs) (hL : L ≤ 2560) {D : va_G} {cI cZ cP : ClassId} {ad md : Nat → Nat} (hK : va_K D vwCl (kTy cI cZ cP) s) (hN : kN s) :
    ∀ (n j : Nat), j + n = 513 → j ≤ 512 → ∀ (pd : Nat → Nat → Nat) (S : ST) (H : Heap) (locs : List Loc) (ls : Array Slot), Inv S ∧ Fx S → va_P D vwCl (xW cI cZ cP ad pd S ++ mW cI cZ md S) H → va_D (fun q : Nat => s.heap.size ≤ q) (xW cI cZ cP ad pd S ++ mW cI cZ md S) → va_S (fun q : Nat => s.heap.size ≤ q) s.heap H locs → lv_has ls 4 [(0, .ref b), (1, .ref (ad 0)), (2, .ref (md 0)), (3, .int (nI (5 * j)))] → W p l e room_1 s m #[Value.ref b] below meth c H locs (15 + 4 * j) (364 + 56 * j) (lw_Z below #[Value.ref b] s) (F0 m 18 ls []) := by
  obtain ⟨hx, hb, hr, hml, hown, hts0, hX, hbl, hlocks, hgv⟩ := id C0
  have hbA : ¬ (fun q : Nat => s.heap.size ≤ q) b := Nat.not_le.mpr hbl
  intro n
  induction n with
  | zero =>
    intro j hj hj2
    exact absurd hj (by omega)
  | succ n ih =>
    intro j hj hj2 pd S H locs ls hI hP hD hS hl
    have hcs : 15 + 4 * j + 4 ≤ 600000 ∧ 364 + 56 * j + 56 ≤ 7302250 := ⟨by omega, by omega⟩
    refine lv_iload_n hx hb dL_law_18 rfl (lv_at hl 3 rfl) ?_
    refine lv_aload_n hx hb dL_law_19 rfl (lv_at hl 0 rfl) ?_
    refine va_slen hx hb hX hbl hbA hS dL_law_20 ?_
    refine lv_iconst (v := 5) hx hb dL_law_21 (by decide) ?_
    refine lv_isub hx hb dL_law_22 ?_
    refine lv_icmp_gt (tgt := 834) hx hb dL_law_23 (by decide) (fun c_23 => ?_) (fun c_23 => ?_)
    · refine lv_iconst (v := 1) hx hb dL_law_834 (by decide) ?_
      refine va_forget (fun q hq => hS.2.2 q hq) ?_
      refine W.widen (k := 600000) (n := 7302250) (by omega) (by omega) ?_
      exact lw_ret hx hb hr hlocks dL_law_835
    · have h5 : 5 * j + 5 ≤ L := law_more hL hj2 c_23
      have go : ∀ (S1 : ST) (pd1 : Nat → Nat → Nat) (H1 : Heap) (locs1 : List Loc), Inv S1 ∧ Fx S1 → va_P D vwCl (xW cI cZ cP ad pd1 S1 ++ mW cI cZ md S1) H1 → va_D (fun q : Nat => s.heap.size ≤ q) (xW cI cZ cP ad pd1 S1 ++ mW cI cZ md S1) → va_S (fun q : Nat => s.heap.size ≤ q) s.heap H1 locs1 → W p l e room_1 s m #[Value.ref b] below meth c H1 locs1 (15 + 4 * j + 4) (364 + 56 * j + 56) (lw_Z below #[Value.ref b] s) (F0 m 828 ls []) := by
        intro S1 pd1 H1 locs1 hI1 hP1 hD1 hS1
        refine lv_iinc (v := nI (5 * j + 5)) (lv' := [(3, .int (nI (5 * j + 5))), (0, .ref b), (1, .ref (ad 0)), (2, .ref (md 0))]) hx hb dL_law_828 hl (k := 3) rfl (nI_add (5 * j) 5) (by decide) rfl (fun ls hl => ?_)
        refine lv_goto (tgt := 18) hx hb dL_law_831 (by decide) ?_
        refine W.widen (k := 15 + 4 * (j + 1)) (n := 364 + 56 * (j + 1)) (by omega) (by omega) ?_
        exact ih (j + 1) (by omega) (by omega) pd1 S1 H1 locs1 ls hI1 hP1 hD1 hS1 (lv_sub hl [1, 2, 3, 0] rfl)
      refine lv_aload_n hx hb dL_law_26 rfl (lv_at hl 0 rfl) ?_
      refine lv_iload_n hx hb dL_law_27 rfl (lv_at hl 3 rfl) ?_
      refine k_sld (k := 5 * j) hx hb hX hbl hbA hS rfl (by omega) (by omega) dL_law_28 ?_
      refine lv_bipush (v := 31) hx hb dL_law_29 (by decide) ?_
      refine lv_iand hx hb dL_law_31 ?_
      obtain ⟨k, hk, ek⟩ := pk_andE (xs (5 * j)) (m := 31) 5 (by decide)
      refine k_top ek ?_
      rcases (show k = 0 ∨ k = 1 ∨ k = 2 ∨ k = 3 ∨ k = 4 ∨ k = 5 ∨ k = 6 ∨ k = 7 ∨ k = 8 ∨ k = 9 ∨ k = 10 ∨ k = 11 ∨ k = 12 ∨ k = 13 ∨ k = 14 ∨ k = 15 ∨ k = 16 ∨ k = 17 ∨ k = 18 ∨ k = 19 ∨ k = 20 ∨ k = 21 ∨ k = 22 ∨ k = 23 ∨ 24 ≤ k by omega) with rfl | rfl | rfl | rfl | rfl | rfl | rfl | rfl | rfl | rfl | rfl | rfl | rfl | rfl | rfl | rfl | rfl | rfl | rfl | rfl | rfl | rfl | rfl | rfl | h24
      · refine lv_tableIn (tgt := 144) (off := 112) hx hb dL_law_32 (by decide) (by decide) rfl (by decide) ?_
        exact law_0 C0 hL hK hN hI hcs hP hD hS h5 hl go
      · refine lv_tableIn (tgt := 167) (off := 135) hx hb dL_law_32 (by decide) (by decide) rfl (by decide) ?_
        exact law_1 C0 hL hK hN hI hcs hP hD hS h5 hl go
      · refine lv_tableIn (tgt := 190) (off := 158) hx hb dL_law_32 (by decide) (by decide) rfl (by decide) ?_
        exact law_2 C0 hL hK hN hI hcs hP hD hS h5 hl go
      · refine lv_tableIn (tgt := 213) (off := 181) hx hb dL_law_32 (by decide) (by decide) rfl (by decide) ?_
        exact law_3 C0 hL hK hN hI hcs hP hD hS h5 hl go
      · refine lv_tableIn (tgt := 252) (off := 220) hx hb dL_law_32 (by decide) (by decide) rfl (by decide) ?_
        exact law_4 C0 hL hK hN hI hcs hP hD hS h5 hl go
      · refine lv_tableIn (tgt := 305) (off := 273) hx hb dL_law_32 (by decide) (by decide) rfl (by decide) ?_
        exact law_5 C0 hL hK hN hI hcs hP hD hS h5 hl go
      · refine lv_tableIn (tgt := 348) (off := 316) hx hb dL_law_32 (by decide) (by decide) rfl (by decide) ?_
        exact law_6 C0 hL hK hN hI hcs hP hD hS h5 hl go
      · refine lv_tableIn (tgt := 387) (off := 355) hx hb dL_law_32 (by decide) (by decide) rfl (by decide) ?_
        exact law_7 C0 hL hK hN hI hcs hP hD hS h5 hl go
      · refine lv_tableIn (tgt := 410) (off := 378) hx hb dL_law_32 (by decide) (by decide) rfl (by decide) ?_
        exact law_8 C0 hL hK hN hI hcs hP hD hS h5 hl go
      · refine lv_tableIn (tgt := 433) (off := 401) hx hb dL_law_32 (by decide) (by decide) rfl (by decide) ?_
        exact law_9 C0 hL hK hN hI hcs hP hD hS h5 hl go
      · refine lv_tableIn (tgt := 466) (off := 434) hx hb dL_law_32 (by decide) (by decide) rfl (by decide) ?_
        exact law_10 C0 hL hK hN hI hcs hP hD hS h5 hl go
      · refine lv_tableIn (tgt := 489) (off := 457) hx hb dL_law_32 (by decide) (by decide) rfl (by decide) ?_
        exact law_11 C0 hL hK hN hI hcs hP hD hS h5 hl go
      · refine lv_tableIn (tgt := 502) (off := 470) hx hb dL_law_32 (by decide) (by decide) rfl (by decide) ?_
        exact law_12 C0 hL hK hN hI hcs hP hD hS h5 hl go
      · refine lv_tableIn (tgt := 515) (off := 483) hx hb dL_law_32 (by decide) (by decide) rfl (by decide) ?_
        exact law_13 C0 hL hK hN hI hcs hP hD hS h5 hl go
      · refine lv_tableIn (tgt := 528) (off := 496) hx hb dL_law_32 (by decide) (by decide) rfl (by decide) ?_
        exact law_14 C0 hL hK hN hI hcs hP hD hS h5 hl go
      · refine lv_tableIn (tgt := 561) (off := 529) hx hb dL_law_32 (by decide) (by decide) rfl (by decide) ?_
        exact law_15 C0 hL hK hN hI hcs hP hD hS h5 hl go
      · refine lv_tableIn (tgt := 594) (off := 562) hx hb dL_law_32 (by decide) (by decide) rfl (by decide) ?_
        exact law_16 C0 hL hK hN hI hcs hP hD hS h5 hl go
      · refine lv_tableIn (tgt := 617) (off := 585) hx hb dL_law_32 (by decide) (by decide) rfl (by decide) ?_
        exact law_17 C0 hL hK hN hI hcs hP hD hS h5 hl go
      · refine lv_tableIn (tgt := 640) (off := 608) hx hb dL_law_32 (by decide) (by decide) rfl (by decide) ?_
        exact law_18 C0 hL hK hN hI hcs hP hD hS h5 hl go
      · refine lv_tableIn (tgt := 663) (off := 631) hx hb dL_law_32 (by decide) (by decide) rfl (by decide) ?_
        exact law_19 C0 hL hK hN hI hcs hP hD hS h5 hl go
      · refine lv_tableIn (tgt := 706) (off := 674) hx hb dL_law_32 (by decide) (by decide) rfl (by decide) ?_
        exact law_20 C0 hL hK hN hI hcs hP hD hS h5 hl go
      · refine lv_tableIn (tgt := 749) (off := 717) hx hb dL_law_32 (by decide) (by decide) rfl (by decide) ?_
        exact law_21 C0 hL hK hN hI hcs hP hD hS h5 hl go
      · refine lv_tableIn (tgt := 792) (off := 760) hx hb dL_law_32 (by decide) (by decide) rfl (by decide) ?_
        exact law_22 C0 hL hK hN hI hcs hP hD hS h5 hl go
      · refine lv_tableIn (tgt := 815) (off := 783) hx hb dL_law_32 (by decide) (by decide) rfl (by decide) ?_
        exact law_23 C0 hL hK hN hI hcs hP hD hS h5 hl go
      · refine lv_tableOut (tgt := 828) hx hb dL_law_32 (Or.inr (by rw [nI_toInt (by omega)]; omega)) (by decide) ?_
        refine W.widen (k := 15 + 4 * j + 4) (n := 364 + 56 * j + 56) (by omega) (by omega) ?_
        exact go S pd H locs hI hP hD hS
set_option maxRecDepth 100000 in
set_option maxHeartbeats 4000000 in
/-- the law, from its entry -/
theorem whole_start {p : Program} {e : Env} {s : State} {m : MethodId} {below : List Frame} {meth : Method} {c : Code} (l : Launch) (hflags : l.flags = flags0) {b L : Nat} {xs : Nat → Int32} (hL : L ≤ 2560) (C0 : lw_At p s m meth c b L xs) : W p l e room_1 s m #[Value.ref b] below meth c s.heap [] 0 0 (lw_Z below #[Value.ref b] s) (entryFrame m ([Value.ref b] : List Value).toArray 4) := by
  obtain ⟨hx, hb, hr, hml, hown, hts0, hX, hbl, hlocks, hgv⟩ := id C0
  have hts : ∀ w ∈ wsL_law, w.before #[Value.ref b] s = true := fun w h => hts0 w (wsL_law_in w h)
  have hown : s.vm.findClass RL = some m.cls := hown
  have hA : ∀ q : Nat, s.heap.size ≤ q → (fun q : Nat => s.heap.size ≤ q) q := fun _ h => h
  have hN : kN s := fun w hw => by
    have h1 := hts0 w (kNs_in w hw)
    simp only [kNs, List.mem_cons, List.not_mem_nil, or_false] at hw
    rcases hw with rfl | rfl | rfl | rfl | rfl | rfl | rfl | rfl | rfl | rfl | rfl | rfl | rfl | rfl | rfl | rfl | rfl | rfl <;> exact va_Nw.of rfl h1
  have hAO : va_AO "GracefulRestart$Peer" s := va_AO.of (hts0 _ kAO_in)
  obtain ⟨c0, iS0, hKn0⟩ := u_known (C := RX0) (T := TX0) (N := 8) (n := 8) hts inlX0 (hts (.instantiable RX0 8) (List.mem_of_getElem? (i := 75) rfl))
  obtain ⟨c1, iS1, hKn1⟩ := u_known (C := RX1) (T := TX1) (N := 9) (n := 9) hts inlX1 (hts (.instantiable RX1 9) (List.mem_of_getElem? (i := 1) rfl))
  obtain ⟨c2, iS2, hKn2⟩ := u_known (C := RX2) (T := TX2) (N := 16) (n := 16) hts inlX2 (hts (.instantiable RX2 16) (List.mem_of_getElem? (i := 4) rfl))
  obtain ⟨dC, dI, hKc⟩ : ∃ (dC : Nat → ClassId) (dI : Nat → Nat → Nat), ∀ (k : Nat) (q : vw_C), vwCl[k]? = some q → u_Kn s q.1 q.2.1 q.2.2 (dC k) (dI k) := by
    refine ⟨fun k => if k = 0 then c0 else if k = 1 then c1 else c2, fun k => if k = 0 then iS0 else if k = 1 then iS1 else iS2, ?_⟩
    intro k q hq
    match k, hq with
    | 0, hq => cases hq; exact hKn0
    | 1, hq => cases hq; exact hKn1
    | 2, hq => cases hq; exact hKn2
    | k + 3, hq => simp [vwCl] at hq
  obtain ⟨cI, hI1, hI2⟩ := kc_A (hts (.arrayClass .int) (List.mem_of_getElem? (i := 14) rfl))
  obtain ⟨cZ, hZ1, hZ2⟩ := kc_A (hts (.arrayClass .boolean) (List.mem_of_getElem? (i := 16) rfl))
  obtain ⟨cP, hP1, hP2⟩ := kc_P hAO
  have hS : va_S (fun q : Nat => s.heap.size ≤ q) s.heap s.heap [] := va_S.rf
  have hK : va_K (dC, dI) vwCl (kTy cI cZ cP) s := by
    refine ⟨hKc, fun k q h => ?_⟩
    match k, h with
    | 0, h => cases h; exact ⟨hI1, hI2⟩
    | 1, h => cases h; exact ⟨hZ1, hZ2⟩
    | 2, h => cases h; exact ⟨hP1, hP2⟩
    | k + 3, h => simp [kTy] at h
  have hP : va_P (dC, dI) vwCl [] s.heap := fun k q h => by simp at h
  have hD : va_D (fun q : Nat => s.heap.size ≤ q) [] := ⟨fun i j p q h => by simp at h, fun k q h => by simp at h⟩
  have hl := lv_entry ([.ref b]) (n := 4) (Nat.le_of_ble_eq_true rfl)
  rw [lg_entry_eq]
  generalize (lg_sl ([.ref b]) ++ List.replicate (4 - (lg_sl ([.ref b])).length) Slot.unset).toArray = ls at hl ⊢
  have hl : lv_has ls 4 [(0, .ref b)] := hl
  refine va_new (ci := 1) (fs := [.null, .null, .null, .int 0, .int 0, .int 0, .int 0, .int 0, .int 0]) (C := RX1) (T := TX1) (N := 9) hx hb hts inlX1 tyX1 tyX1_ok hown (hts (.classLink RL 7 RX1) (List.mem_of_getElem? (i := 0) rfl)) (hts (.instantiable RX1 9) (List.mem_of_getElem? (i := 1) rfl)) (hts (.initialized RX1) (List.mem_of_getElem? (i := 2) rfl)) hK hP hD hS hA rfl (fun j hj => by rcases (show j = 0 ∨ j = 1 ∨ j = 2 ∨ j = 3 ∨ j = 4 ∨ j = 5 ∨ j = 6 ∨ j = 7 ∨ j = 8 by omega) with rfl | rfl | rfl | rfl | rfl | rfl | rfl | rfl | rfl <;> rfl) (Nat.le_of_ble_eq_true rfl) (Nat.le_of_ble_eq_true rfl) dL_law_0 (fun q0 H hP hD hS => ?_)
  refine lv_dup hx hb dL_law_3 rfl ?_
  have hFc := end_F (X := []) hD hA hS.1
  refine va_callv (va_runI (As := []) (rest := [.ref q0]) ⟨hx, hb, hml, hown, hts⟩ (c_X1_init l (dC, dI) cI cZ cP q0 H.size) (cwI 0 hts gL_law_X1_init rfl rfl rfl (hts (.initialized RX1) (List.mem_of_getElem? (i := 2) rfl)) (hts (.methodLink RL 9 yX1_init) (List.mem_of_getElem? (i := 6) rfl)) (hts (.instanceMethod yX1_init) (List.mem_of_getElem? (i := 7) rfl)) rfl (by decide +kernel) ⟨Nat.le_of_ble_eq_true rfl, Nat.le_of_ble_eq_true rfl⟩) ⟨fun a U g mk q => by obtain ⟨q0, q1, qP, qK, qA, qD⟩ := q; exact ⟨q0, q1, qP, va_K.moved (u := U) (U := U.calling g mk a) (Vm.Alike.refl U.vm) qK, va_AO.moved (u := U) (U := U.calling g mk a) (Vm.Alike.refl U.vm) qA, qD⟩, fun U hU hW => ⟨rfl, by rw [hU], by rw [hU]; exact end_P (X := []) hP, va_K.moved hW.alike hK, va_AO.moved hW.alike hAO, one_D _⟩⟩ rfl rfl hl.1 rfl (lv_room (Nat.le_of_ble_eq_true rfl)) dL_law_4 ⟨Nat.le_of_ble_eq_true rfl, Nat.le_of_ble_eq_true rfl⟩) hS (fun q _ h => hFc q h) hFc (fun u t H1 locs ht hvm hw hB hz1 hk1 hS => ?_)
  obtain ⟨hP1, hD1⟩ := hB
  rw [ht] at hP1
  obtain ⟨hP, hD⟩ := end_join (X := []) hP hD hk1 hFc hP1 hD1
  generalize H1 = H at hP hS ⊢
  generalize ead : (fun k => if k = 0 then q0 else if k = 1 then u.1 else if k = 2 then u.2.1 else u.2.2) = ad at hP hD
  have ea0 : ad 0 = q0 := by rw [← ead]; rfl
  refine lv_astore_n (lv' := [(1, .ref q0), (0, .ref b)]) hx hb dL_law_7 rfl hl (by decide) rfl (fun ls hl => ?_)
  refine va_new (ci := 2) (fs := [.int 0, .int 0, .int 0, .int 0, .null, .null, .null, .null, .null, .null, .null, .null, .null, .null, .int 0, .int 0]) (C := RX2) (T := TX2) (N := 16) hx hb hts inlX2 tyX2 tyX2_ok hown (hts (.classLink RL 10 RX2) (List.mem_of_getElem? (i := 3) rfl)) (hts (.instantiable RX2 16) (List.mem_of_getElem? (i := 4) rfl)) (hts (.initialized RX2) (List.mem_of_getElem? (i := 5) rfl)) hK hP hD hS hA rfl (fun j hj => by rcases (show j = 0 ∨ j = 1 ∨ j = 2 ∨ j = 3 ∨ j = 4 ∨ j = 5 ∨ j = 6 ∨ j = 7 ∨ j = 8 ∨ j = 9 ∨ j = 10 ∨ j = 11 ∨ j = 12 ∨ j = 13 ∨ j = 14 ∨ j = 15 by omega) with rfl | rfl | rfl | rfl | rfl | rfl | rfl | rfl | rfl | rfl | rfl | rfl | rfl | rfl | rfl | rfl <;> rfl) (Nat.le_of_ble_eq_true rfl) (Nat.le_of_ble_eq_true rfl) dL_law_8 (fun q8 H hP hD hS => ?_)
  refine lv_dup hx hb dL_law_11 rfl ?_
  have hFc := end_F hD hA hS.1
  refine va_callv (va_runI (As := []) (rest := [.ref q8]) ⟨hx, hb, hml, hown, hts⟩ (c_X2_init l (dC, dI) cI cZ cP q8 H.size) (cwI 0 hts gL_law_X2_init rfl rfl rfl (hts (.initialized RX2) (List.mem_of_getElem? (i := 5) rfl)) (hts (.methodLink RL 12 yX2_init) (List.mem_of_getElem? (i := 24) rfl)) (hts (.instanceMethod yX2_init) (List.mem_of_getElem? (i := 25) rfl)) rfl (by decide +kernel) ⟨Nat.le_of_ble_eq_true rfl, Nat.le_of_ble_eq_true rfl⟩) ⟨fun a U g mk q => by obtain ⟨q0, q1, qP, qK, qD⟩ := q; exact ⟨q0, q1, qP, va_K.moved (u := U) (U := U.calling g mk a) (Vm.Alike.refl U.vm) qK, qD⟩, fun U hU hW => ⟨rfl, by rw [hU], by rw [hU]; exact end_P hP, va_K.moved hW.alike hK, one_D _⟩⟩ rfl rfl hl.1 rfl (lv_room (Nat.le_of_ble_eq_true rfl)) dL_law_12 ⟨Nat.le_of_ble_eq_true rfl, Nat.le_of_ble_eq_true rfl⟩) hS (fun q _ h => hFc q h) hFc (fun v t H1 locs ht hvm hw hB hz1 hk1 hS => ?_)
  obtain ⟨hP1, hD1⟩ := hB
  rw [ht] at hP1
  obtain ⟨hP, hD⟩ := end_join hP hD hk1 hFc hP1 hD1
  generalize H1 = H at hP hS ⊢
  generalize emd : (fun k => if k = 0 then q8 else if k = 1 then v.1 else if k = 2 then v.2.1 else if k = 3 then v.2.2.1 else if k = 4 then v.2.2.2.1 else if k = 5 then v.2.2.2.2.1 else if k = 6 then v.2.2.2.2.2.1 else if k = 7 then v.2.2.2.2.2.2.1 else if k = 8 then v.2.2.2.2.2.2.2.1 else if k = 9 then v.2.2.2.2.2.2.2.2.1 else v.2.2.2.2.2.2.2.2.2) = md at hP hD
  have em0 : md 0 = q8 := by rw [← emd]; rfl
  refine lv_astore_n (lv' := [(2, .ref q8), (1, .ref q0), (0, .ref b)]) hx hb dL_law_15 rfl hl (by decide) rfl (fun ls hl => ?_)
  refine lv_iconst (v := 0) hx hb dL_law_16 (by decide) ?_
  refine lv_istore_n (lv' := [(3, .int 0), (2, .ref q8), (1, .ref q0), (0, .ref b)]) hx hb dL_law_17 rfl hl (by decide) rfl (fun ls hl => ?_)
  rw [← ea0, ← em0] at hl
  refine W.widen (k := 15 + 4 * 0) (n := 364 + 56 * 0) (Nat.le_of_ble_eq_true rfl) (Nat.le_of_ble_eq_true rfl) ?_
  exact law_loop C0 hL hK hN 513 0 rfl (by omega) (fun _ _ => 0) s_0 H locs ls ⟨inv_0, Fx_0⟩ hP hD hS (lv_sub hl [3, 2, 1, 0] rfl)
