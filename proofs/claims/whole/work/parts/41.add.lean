theorem end_P {D : va_G} {cl : List vw_C} {X : va_W} {c : Nat × va_E} {H : Heap} (h : va_P D cl (X ++ [c]) H) : va_P D cl [c] H := by
  intro k q hk
  refine h (X.length + k) q ?_
  rw [List.getElem?_append_right (by omega), Nat.add_sub_cancel_left]
  exact hk
theorem one_D (c : Nat × va_E) : va_D (fun _ => True) [c] := by
  refine ⟨fun i j x y hi hj _ => ?_, fun _ _ _ => trivial⟩
  have h1 := (List.getElem?_eq_some_iff.mp hi).1
  have h2 := (List.getElem?_eq_some_iff.mp hj).1
  simp at h1 h2
  omega
theorem end_F {A : Nat → Prop} {X : va_W} {c : Nat × va_E} {H0 H : Heap} (hD : va_D A (X ++ [c])) (hA : ∀ q, H0.size ≤ q → A q) (hs : H0.size ≤ H.size) : ∀ q, va_A [c] H.size q → A q := by
  intro q h
  rcases h with ⟨k, e, h⟩ | h
  · have hk := (List.getElem?_eq_some_iff.mp h).1
    have hk0 : k = 0 := by simp at hk; exact hk
    subst hk0
    have hc : c = (q, e) := by simpa using h
    have h2 : (X ++ [c])[X.length]? = some (q, e) := by
      rw [List.getElem?_append_right (Nat.le_refl _), Nat.sub_self, hc]
      rfl
    exact hD.2 _ _ h2
  · exact hA q (Nat.le_trans hs h)
theorem end_join {A : Nat → Prop} {D : va_G} {cl : List vw_C} {X w1 : va_W} {c : Nat × va_E} {H H1 : Heap} (hP : va_P D cl (X ++ [c]) H) (hD : va_D A (X ++ [c])) (hk : ∀ q : Nat, q < H.size → ¬ va_A [c] H.size q → H1[q]? = H[q]?) (hF : ∀ q, va_A [c] H.size q → A q) (hP1 : va_P D cl w1 H1) (hD1 : va_D (va_A [c] H.size) w1) : va_P D cl (X ++ w1) H1 ∧ va_D A (X ++ w1) := by
  have inX : ∀ (k : Nat) (q : Nat × va_E), X[k]? = some q → (X ++ [c])[k]? = some q := fun k q h => by
    rw [List.getElem?_append_left (List.getElem?_eq_some_iff.mp h).1]; exact h
  have hcc : (X ++ [c])[X.length]? = some c := by
    rw [List.getElem?_append_right (Nat.le_refl _), Nat.sub_self]; rfl
  have apart : ∀ (k : Nat) (q : Nat × va_E), X[k]? = some q → q.1 < H.size ∧ ¬ va_A [c] H.size q.1 := by
    intro k q hq
    have hl := (hP k q (inX k q hq)).lt
    refine ⟨hl, fun h => ?_⟩
    rcases h with ⟨k2, e, h⟩ | h
    · have hk2 : k2 = 0 := by
        have := (List.getElem?_eq_some_iff.mp h).1
        simp at this; exact this
      subst hk2
      have hc : c = (q.1, e) := by simpa using h
      have := hD.1 k X.length q c (inX k q hq) hcc (by rw [hc])
      have h3 := (List.getElem?_eq_some_iff.mp hq).1
      omega
    · omega
  refine ⟨va_P.app (fun k q hq => (hP k q (inX k q hq)).kept (hk q.1 (apart k q hq).1 (apart k q hq).2)) hP1, va_D.app ⟨fun i j x y hi hj hxy => hD.1 i j x y (inX i x hi) (inX j y hj) hxy, fun k q hq => hD.2 k q (inX k q hq)⟩ (hD1.weaken (fun k q _ h => hF q.1 h)) (fun i j x y hx hy hxy => (apart i x hx).2 (by rw [hxy]; exact hD1.2 j y hy))⟩
theorem new_world (cI cZ cP : ClassId) (ad : Nat → Nat) (pd : Nat → Nat → Nat) {S : ST} (hI : Inv S) (g : Int32) (q28 : Nat) (u : Nat × Nat × Nat) : (((xW cI cZ cP ad pd S ++ pW cI cZ q28 u.1 u.2.1 u.2.2 g z9 z9 z9 0 0 0 0).set 1 (ad 1, .inl (cP, 5, .inr (.inr (.inr (.inr (va_up (xR pd (g_N S)) (g_N S) (some q28)))))))).set 0 (ad 0, .inr (1, (xF ad S).set 3 (.int (nI (g_N S + 1)))))) = xW cI cZ cP ad (va_up pd (g_N S) (fun j => if j = 0 then q28 else if j = 1 then u.1 else if j = 2 then u.2.1 else u.2.2)) (u_New S g) := by
  obtain ⟨z1, z2, z3, z4⟩ := hI.2.2.2.2.2.2.1 (g_N S) (Nat.le_refl _)
  have eR : va_up (xR pd (g_N S)) (g_N S) (some q28) = xR (va_up pd (g_N S) (fun j => if j = 0 then q28 else if j = 1 then u.1 else if j = 2 then u.2.1 else u.2.2)) (g_N S + 1) := by
    funext k
    by_cases hk : k = g_N S
    · subst hk
      rw [va_up_self, xR, if_pos (Nat.lt_succ_self _), va_up_self]
      rfl
    · rw [va_up_ne _ _ hk, xR, xR, va_up_ne _ _ hk]
      by_cases h2 : k < g_N S
      · rw [if_pos h2, if_pos (by omega)]
      · rw [if_neg h2, if_neg (by omega)]
  have eN : xB cI cZ (va_up pd (g_N S) (fun j => if j = 0 then q28 else if j = 1 then u.1 else if j = 2 then u.2.1 else u.2.2)) (u_New S g) (g_N S) = pW cI cZ q28 u.1 u.2.1 u.2.2 g z9 z9 z9 0 0 0 0 := by
    have f1 : g_Of S (g_N S) = z9 := funext fun r => (z1 r).1
    have f2 : g_Le S (g_N S) = z9 := funext fun r => (z1 r).2.1
    have f3 : g_Ss S (g_N S) = z9 := funext fun r => (z1 r).2.2
    have f4 : mkI (g_Hm S (g_N S)) = 0 := by simp [mkI, z4]
    show pW cI cZ ((va_up pd (g_N S) (fun j => if j = 0 then q28 else if j = 1 then u.1 else if j = 2 then u.2.1 else u.2.2)) (g_N S) 0) ((va_up pd (g_N S) (fun j => if j = 0 then q28 else if j = 1 then u.1 else if j = 2 then u.2.1 else u.2.2)) (g_N S) 1) ((va_up pd (g_N S) (fun j => if j = 0 then q28 else if j = 1 then u.1 else if j = 2 then u.2.1 else u.2.2)) (g_N S) 2) ((va_up pd (g_N S) (fun j => if j = 0 then q28 else if j = 1 then u.1 else if j = 2 then u.2.1 else u.2.2)) (g_N S) 3) (upd (g_Gr S) (g_N S) g (g_N S)) (g_Of S (g_N S)) (g_Le S (g_N S)) (g_Ss S (g_N S)) (upd (g_St S) (g_N S) 0 (g_N S)) (g_Rt S (g_N S)) (g_Sl S (g_N S)) (mkI (g_Hm S (g_N S))) = _
    rw [f1, f2, f3, f4, z2, z3, upd_s, upd_s, va_up_self]
    rfl
  have eB : ∀ k, k < g_N S → xB cI cZ (va_up pd (g_N S) (fun j => if j = 0 then q28 else if j = 1 then u.1 else if j = 2 then u.2.1 else u.2.2)) (u_New S g) k = xB cI cZ pd S k := by
    intro k hk
    have hne : k ≠ g_N S := by omega
    show pW cI cZ ((va_up pd (g_N S) (fun j => if j = 0 then q28 else if j = 1 then u.1 else if j = 2 then u.2.1 else u.2.2)) k 0) ((va_up pd (g_N S) (fun j => if j = 0 then q28 else if j = 1 then u.1 else if j = 2 then u.2.1 else u.2.2)) k 1) ((va_up pd (g_N S) (fun j => if j = 0 then q28 else if j = 1 then u.1 else if j = 2 then u.2.1 else u.2.2)) k 2) ((va_up pd (g_N S) (fun j => if j = 0 then q28 else if j = 1 then u.1 else if j = 2 then u.2.1 else u.2.2)) k 3) (upd (g_Gr S) (g_N S) g k) (g_Of S k) (g_Le S k) (g_Ss S k) (upd (g_St S) (g_N S) 0 k) (g_Rt S k) (g_Sl S k) (mkI (g_Hm S k)) = _
    rw [va_up_ne _ _ hne, upd_n _ _ hne, upd_n _ _ hne]
    rfl
  have eF : (List.range (g_N S)).flatMap (xB cI cZ (va_up pd (g_N S) (fun j => if j = 0 then q28 else if j = 1 then u.1 else if j = 2 then u.2.1 else u.2.2)) (u_New S g)) = (List.range (g_N S)).flatMap (xB cI cZ pd S) := by
    apply List.ext_getElem?
    intro i
    by_cases hi : i < 4 * g_N S
    · have e4 : i = 4 * (i / 4) + i % 4 := (Nat.div_add_mod i 4).symm
      rw [e4, fm_get (xB4 cI cZ _ _) (by omega) (by omega), fm_get (xB4 cI cZ _ _) (by omega) (by omega), eB _ (by omega)]
    · rw [List.getElem?_eq_none_iff.mpr (by rw [fm_len (xB4 cI cZ _ _)]; omega), List.getElem?_eq_none_iff.mpr (by rw [fm_len (xB4 cI cZ _ _)]; omega)]
  have eL : (List.range (g_N S + 1)).flatMap (xB cI cZ (va_up pd (g_N S) (fun j => if j = 0 then q28 else if j = 1 then u.1 else if j = 2 then u.2.1 else u.2.2)) (u_New S g)) = (List.range (g_N S)).flatMap (xB cI cZ pd S) ++ pW cI cZ q28 u.1 u.2.1 u.2.2 g z9 z9 z9 0 0 0 0 := by
    rw [List.range_succ, List.flatMap_append, eF, ← eN]
    simp
  rw [eR]
  show [(ad 0, _), (ad 1, _), (ad 2, _), (ad 3, _)] ++ ((List.range (g_N S)).flatMap (xB cI cZ pd S) ++ pW cI cZ q28 u.1 u.2.1 u.2.2 g z9 z9 z9 0 0 0 0) = [(ad 0, _), (ad 1, _), (ad 2, _), (ad 3, _)] ++ (List.range (g_N S + 1)).flatMap (xB cI cZ (va_up pd (g_N S) (fun j => if j = 0 then q28 else if j = 1 then u.1 else if j = 2 then u.2.1 else u.2.2)) (u_New S g))
  rw [eL]
  rfl

set_option maxRecDepth 100000 in
set_option maxHeartbeats 4000000 in
/-- addPeer(g): four cells may come -/
theorem c_X1_addPeer (l : Launch) (D : va_G) (cI cZ cP : ClassId) (ad : Nat → Nat) (pd : Nat → Nat → Nat) (S : ST) (g : Int32) (sz : Nat) (hI : Inv S) (hg : g = 0 ∨ g = 1) : Met l yX1_addPeer wsX1_addPeer ({ frames := 4, cells := 4, slots := 56, locals := 94 }) (va_Pc [.ref (ad 0), .int g] (fun U => U.heap.size = sz ∧ va_P D vwCl (xW cI cZ cP ad pd S) U.heap ∧ va_K D vwCl (kTy cI cZ cP) U ∧ kN U ∧ va_D (fun _ => True) (xW cI cZ cP ad pd S))) (va_Qi (fun r _ => r = (u_Add S g).1) (fun (u : Nat → Nat → Nat) t => va_P D vwCl (xW cI cZ cP ad u (u_Add S g).2) t.heap ∧ va_D (va_A (xW cI cZ cP ad pd S) sz) (xW cI cZ cP ad u (u_Add S g).2)) (va_A (xW cI cZ cP ad pd S) sz)) 4 56 (va_A (xW cI cZ cP ad pd S) sz) := by
  refine Met.ofW (cc := cX1_addPeer) (maxL := 3) (ret := (some .int)) (by decide) rfl ?_
  intro p e s m args below meth c s₁ B hml hv
  obtain ⟨rfl, hsz, hP, hK, hN, hD0⟩ := hv
  have hn : g_N S ≤ 5 := hI.1
  have hx := B.exec
  have hb := B.bytes
  have hr := B.returns
  have hts := atoms_spec (ws := wsX1_addPeer) B.pre
  have hown : s.vm.findClass RX1 = some m.cls := findClass_of_methodNamed B.named
  have hlocks := B.notSynchronized
  subst hsz
  have hD := hD0.self (sz := s.heap.size)
  generalize hAe : va_A (xW cI cZ cP ad pd S) s.heap.size = A at hD ⊢
  have hA : ∀ q : Nat, s.heap.size ≤ q → A q := fun q h => by rw [← hAe]; exact Or.inr h
  have hS : va_S A s.heap s.heap [] := va_S.rf
  have hl := lv_entry ([.ref (ad 0), .int g]) (n := 3) (Nat.le_of_ble_eq_true rfl)
  rw [lg_entry_eq]
  generalize (lg_sl ([.ref (ad 0), .int g]) ++ List.replicate (3 - (lg_sl ([.ref (ad 0), .int g])).length) Slot.unset).toArray = ls at hl ⊢
  have hl : lv_has ls 3 [(0, .ref (ad 0)), (1, .int g)] := hl
  have hi1 : ∀ w ∈ wsX10, w ∈ wsX1_addPeer := fun w h => List.mem_cons_of_mem _ (List.mem_append_left _ (List.mem_append_right _ h))
  have hi0 : ∀ w ∈ wsX00, w ∈ wsX1_addPeer := fun w h => List.mem_cons_of_mem _ (List.mem_append_right _ h)
  by_cases h5 : g_N S = 5
  · refine lv_aload_n hx hb dX1_addPeer_0 rfl (lv_at hl 0 rfl) ?_
    refine va_get (D := D) (ci := 1) (v := .int (nI (g_N S))) (C := RX1) (T := TX1) (N := 9) hx hb hts hi1 hown hK hP 0 (xO _ _ _ _ _ _) rfl 3 (by decide) (hts (.fieldLink RX1 23 "GracefulRestart" "peerCount" "I") (List.mem_of_getElem? (i := 1) rfl)) (fun _ h9 => h9) (xV_N _ _) dX1_addPeer_1 ?_
    refine lv_if_lt (tgt := 15) hx hb dX1_addPeer_4 (by decide) (fun c_ => absurd c_ (nI_pos (by omega))) (fun _ => ?_)
    refine lv_aload_n hx hb dX1_addPeer_7 rfl (lv_at hl 0 rfl) ?_
    refine va_get (D := D) (ci := 1) (v := .int (nI (g_N S))) (C := RX1) (T := TX1) (N := 9) hx hb hts hi1 hown hK hP 0 (xO _ _ _ _ _ _) rfl 3 (by decide) (hts (.fieldLink RX1 23 "GracefulRestart" "peerCount" "I") (List.mem_of_getElem? (i := 1) rfl)) (fun _ h9 => h9) (xV_N _ _) dX1_addPeer_8 ?_
    refine lv_iconst (v := 5) hx hb dX1_addPeer_11 (by decide) ?_
    refine lv_icmp_lt (tgt := 18) hx hb dX1_addPeer_12 (by decide) (fun c_ => absurd c_ (nI_nlt (a := g_N S) (b := 5) (by omega) (by omega))) (fun _ => ?_)
    refine lv_bipush (v := -5) hx hb dX1_addPeer_15 (by decide) ?_
    have ew : (xW cI cZ cP ad pd S) = xW cI cZ cP ad pd (u_Add S g).2 := by rw [u_Add, if_pos h5]
    rw [ew] at hP hD
    refine W.widen (k := 4) (n := 56) (Nat.le_of_ble_eq_true rfl) (Nat.le_of_ble_eq_true rfl) ?_
    exact W.iret hx hb hr (fun t ht hW => ⟨⟨(-5), pd, rfl, by rw [u_Add, if_pos h5], by rw [ht]; exact hP, hD⟩, hS.F ht⟩) hS.2.2 dX1_addPeer_17
  · have hn5 : g_N S < 5 := by omega
    refine lv_aload_n hx hb dX1_addPeer_0 rfl (lv_at hl 0 rfl) ?_
    refine va_get (D := D) (ci := 1) (v := .int (nI (g_N S))) (C := RX1) (T := TX1) (N := 9) hx hb hts hi1 hown hK hP 0 (xO _ _ _ _ _ _) rfl 3 (by decide) (hts (.fieldLink RX1 23 "GracefulRestart" "peerCount" "I") (List.mem_of_getElem? (i := 1) rfl)) (fun _ h9 => h9) (xV_N _ _) dX1_addPeer_1 ?_
    refine lv_if_lt (tgt := 15) hx hb dX1_addPeer_4 (by decide) (fun c_ => absurd c_ (nI_pos (by omega))) (fun _ => ?_)
    refine lv_aload_n hx hb dX1_addPeer_7 rfl (lv_at hl 0 rfl) ?_
    refine va_get (D := D) (ci := 1) (v := .int (nI (g_N S))) (C := RX1) (T := TX1) (N := 9) hx hb hts hi1 hown hK hP 0 (xO _ _ _ _ _ _) rfl 3 (by decide) (hts (.fieldLink RX1 23 "GracefulRestart" "peerCount" "I") (List.mem_of_getElem? (i := 1) rfl)) (fun _ h9 => h9) (xV_N _ _) dX1_addPeer_8 ?_
    refine lv_iconst (v := 5) hx hb dX1_addPeer_11 (by decide) ?_
    refine lv_icmp_lt (tgt := 18) hx hb dX1_addPeer_12 (by decide) (fun _ => ?_) (fun c_ => absurd (nI_lt (a := g_N S) (b := 5) hn5 (by decide)) c_)
    refine lv_aload_n hx hb dX1_addPeer_18 rfl (lv_at hl 0 rfl) ?_
    refine va_get (D := D) (ci := 1) (v := .int (nI (g_N S))) (C := RX1) (T := TX1) (N := 9) hx hb hts hi1 hown hK hP 0 (xO _ _ _ _ _ _) rfl 3 (by decide) (hts (.fieldLink RX1 23 "GracefulRestart" "peerCount" "I") (List.mem_of_getElem? (i := 1) rfl)) (fun _ h9 => h9) (xV_N _ _) dX1_addPeer_19 ?_
    refine lv_istore_n (lv' := [(2, .int (nI (g_N S))), (0, .ref (ad 0)), (1, .int g)]) hx hb dX1_addPeer_22 rfl hl (by decide) rfl (fun ls hl => ?_)
    refine lv_aload_n hx hb dX1_addPeer_23 rfl (lv_at hl 1 rfl) ?_
    refine va_get (D := D) (ci := 1) (v := .ref (ad 1)) (C := RX1) (T := TX1) (N := 9) hx hb hts hi1 hown hK hP 0 (xO _ _ _ _ _ _) rfl 0 (by decide) (hts (.fieldLink RX1 11 "GracefulRestart" "peers" "[LGracefulRestart$Peer;") (List.mem_of_getElem? (i := 2) rfl)) (fun _ h9 => h9) (xV_0 _ _) dX1_addPeer_24 ?_
    refine lv_iload_n hx hb dX1_addPeer_27 rfl (lv_at hl 0 rfl) ?_
    refine va_new (ci := 0) (fs := [.int 0, .null, .null, .null, .int 0, .int 0, .int 0, .int 0]) (C := RX0) (T := TX0) (N := 8) hx hb hts hi0 tyX0 tyX0_ok hown (hts (.classLink RX1 9 RX0) (List.mem_of_getElem? (i := 3) rfl)) (hts (.instantiable RX0 8) (List.mem_of_getElem? (i := 4) rfl)) (hts (.initialized RX0) (List.mem_of_getElem? (i := 5) rfl)) hK hP hD hS hA rfl (fun j hj => by rcases (show j = 0 ∨ j = 1 ∨ j = 2 ∨ j = 3 ∨ j = 4 ∨ j = 5 ∨ j = 6 ∨ j = 7 by omega) with rfl | rfl | rfl | rfl | rfl | rfl | rfl | rfl <;> rfl) (Nat.le_of_ble_eq_true rfl) (Nat.le_of_ble_eq_true rfl) dX1_addPeer_28 (fun q28 H hP hD hS => ?_)
    refine lv_dup hx hb dX1_addPeer_31 rfl ?_
    refine lv_iload_n hx hb dX1_addPeer_32 rfl (lv_at hl 2 rfl) ?_
    have hFc := end_F hD hA hS.1
    refine va_callv (va_runIN (As := [.int g]) (rest := [.ref q28, .int (nI (g_N S)), .ref (ad 1)]) ⟨hx, hb, hml, hown, hts⟩ (c_X0_init l D cI cZ cP q28 g H.size hg) ⟨va_cnB 1 hts gX1_addPeer_X0_init_n47 rfl rfl rfl (hN (.methodLinkNest RX1 47 yX0_init RX1) (List.mem_of_getElem? (i := 7) rfl)) (hts (.initialized RX0) (List.mem_of_getElem? (i := 5) rfl)) (by decide +kernel) ⟨Nat.le_of_ble_eq_true rfl, Nat.le_of_ble_eq_true rfl⟩, rfl, (hts (.instanceMethod yX0_init) (List.mem_of_getElem? (i := 7) rfl))⟩ ⟨fun a U g mk q => by obtain ⟨q0, q1, qP, qK, qD⟩ := q; exact ⟨q0, q1, qP, va_K.moved (u := U) (U := U.calling g mk a) (Vm.Alike.refl U.vm) qK, qD⟩, fun U hU hW => ⟨rfl, by rw [hU], by rw [hU]; exact end_P hP, va_K.moved hW.alike hK, one_D _⟩⟩ rfl rfl hl.1 rfl (lv_room (Nat.le_of_ble_eq_true rfl)) dX1_addPeer_33 ⟨Nat.le_of_ble_eq_true rfl, Nat.le_of_ble_eq_true rfl⟩) hS (fun q _ h => hFc q h) hFc (fun u t H1 locs ht hvm hw hB hz1 hk1 hS => ?_)
    obtain ⟨hP1, hD1⟩ := hB
    rw [ht] at hP1
    obtain ⟨hP, hD⟩ := end_join hP hD hk1 hFc hP1 hD1
    generalize H1 = H at hP hS ⊢
    refine va_astq (r := (RX0, TX0, 8)) hx hb hK hP hD hS 1 2 (xW cI cZ cP ad pd S).length 0 (show ((xW cI cZ cP ad pd S ++ pW cI cZ q28 u.1 u.2.1 u.2.2 g z9 z9 z9 0 0 0 0))[1]? = some (ad 1, .inl (cP, 5, .inr (.inr (.inr (.inr (xR pd (g_N S))))))) from rfl) rfl (show ((xW cI cZ cP ad pd S ++ pW cI cZ q28 u.1 u.2.1 u.2.2 g z9 z9 z9 0 0 0 0))[(xW cI cZ cP ad pd S).length]? = some (q28, .inr (0, [.int g, .ref u.1, .ref u.2.1, .ref u.2.2, .int 0, .int 0, .int 0, .int 0])) by rw [List.getElem?_append_right (Nat.le_refl _), Nat.sub_self]; rfl) rfl (vp_in_nI hn5 (by decide)) dX1_addPeer_36 (fun H locs hP hD hS => ?_)
    rw [nI_clamp (by omega)] at hP hD
    refine lv_aload_n hx hb dX1_addPeer_37 rfl (lv_at hl 1 rfl) ?_
    refine lv_iload_n hx hb dX1_addPeer_38 rfl (lv_at hl 0 rfl) ?_
    refine lv_iconst (v := 1) hx hb dX1_addPeer_39 (by decide) ?_
    refine lv_iadd hx hb dX1_addPeer_40 ?_
    refine k_top (nI_1 (g_N S)) ?_
    refine k_put (D := D) (ci := 1) (v := .int (nI (g_N S + 1))) (ty := .int) (C := RX1) (T := TX1) (N := 9) hx hb hts hi1 tyX1 tyX1_ok nmX1 hown hK hP hD hS 0 (show (((xW cI cZ cP ad pd S ++ pW cI cZ q28 u.1 u.2.1 u.2.2 g z9 z9 z9 0 0 0 0)).set 1 (ad 1, .inl (cP, 5, .inr (.inr (.inr (.inr (va_up (xR pd (g_N S)) (g_N S) (some q28))))))))[0]? = some (ad 0, .inr (1, xF ad S)) from rfl) rfl 3 (by decide) (hts (.fieldLink RX1 23 "GracefulRestart" "peerCount" "I") (List.mem_of_getElem? (i := 1) rfl)) (fun _ h9 => h9) rfl (by decide +kernel) rfl rfl (Nat.le_of_ble_eq_true rfl) (W1 := (xW cI cZ cP ad (va_up pd (g_N S) (fun j => if j = 0 then q28 else if j = 1 then u.1 else if j = 2 then u.2.1 else u.2.2)) (u_New S g))) (new_world cI cZ cP ad pd hI g q28 u) dX1_addPeer_41 (fun H locs hP hD hS => ?_)
    refine lv_aload_n hx hb dX1_addPeer_44 rfl (lv_at hl 1 rfl) ?_
    refine va_get (D := D) (ci := 1) (v := .int (g_Df (u_New S g))) (C := RX1) (T := TX1) (N := 9) hx hb hts hi1 hown hK hP 0 (xO _ _ _ _ _ _) rfl 7 (by decide) (hts (.fieldLink RX1 36 "GracefulRestart" "deferring" "Z") (List.mem_of_getElem? (i := 6) rfl)) (fun _ h9 => h9) (xV_Df _ _) dX1_addPeer_45 ?_
    refine k_top (y := g_Df S) rfl ?_
    refine lv_if_ne (tgt := 55) hx hb dX1_addPeer_48 (by decide) (fun c_48 => ?_) (fun c_48 => ?_)
    · refine lv_iload_n hx hb dX1_addPeer_55 rfl (lv_at hl 0 rfl) ?_
      have ew : (xW cI cZ cP ad (va_up pd (g_N S) (fun j => if j = 0 then q28 else if j = 1 then u.1 else if j = 2 then u.2.1 else u.2.2)) (u_New S g)) = xW cI cZ cP ad (va_up pd (g_N S) (fun j => if j = 0 then q28 else if j = 1 then u.1 else if j = 2 then u.2.1 else u.2.2)) (u_Add S g).2 := by rw [u_Add, if_neg h5, if_neg c_48]
      rw [ew] at hP hD
      refine W.widen (k := 4) (n := 56) (Nat.le_of_ble_eq_true rfl) (Nat.le_of_ble_eq_true rfl) ?_
      exact W.iret hx hb hr (fun t ht hW => ⟨⟨nI (g_N S), (va_up pd (g_N S) (fun j => if j = 0 then q28 else if j = 1 then u.1 else if j = 2 then u.2.1 else u.2.2)), rfl, by rw [u_Add, if_neg h5, if_neg c_48], by rw [ht]; exact hP, hD⟩, hS.F ht⟩) hS.2.2 dX1_addPeer_56
    · refine lv_aload_n hx hb dX1_addPeer_51 rfl (lv_at hl 1 rfl) ?_
      refine kV (As := []) (rest := []) (Wc := (xW cI cZ cP ad (va_up pd (g_N S) (fun j => if j = 0 then q28 else if j = 1 then u.1 else if j = 2 then u.2.1 else u.2.2)) (u_New S g))) (Wc1 := (xW cI cZ cP ad (va_up pd (g_N S) (fun j => if j = 0 then q28 else if j = 1 then u.1 else if j = 2 then u.2.1 else u.2.2)) (o_SA (u_New S g) 16))) (Wd1 := (xW cI cZ cP ad (va_up pd (g_N S) (fun j => if j = 0 then q28 else if j = 1 then u.1 else if j = 2 then u.2.1 else u.2.2)) (o_SA (u_New S g) 16))) (o := none) ⟨hx, hb, hml, hown, hts⟩ (c_X1_selectAll l D cI cZ cP ad (va_up pd (g_N S) (fun j => if j = 0 then q28 else if j = 1 then u.1 else if j = 2 then u.2.1 else u.2.2)) (u_New S g) (show g_N S + 1 ≤ 5 by omega)) (cwV 0 hts gX1_addPeer_X1_selectAll rfl rfl rfl (by decide +kernel) ⟨Nat.le_of_ble_eq_true rfl, Nat.le_of_ble_eq_true rfl⟩) hK hN hP hD hS (fun j => j) (fun _ _ h => h) (fun _ _ _ _ h => h) (xW_adr (o_SA_N _ _)) (fun k q h => Or.inl ⟨k, h⟩) 0 1 rfl rfl (xO _ _ _ _ _ _) rfl hl.1 rfl (Nat.le_of_ble_eq_true rfl) ⟨Nat.le_of_ble_eq_true rfl, Nat.le_of_ble_eq_true rfl⟩ dX1_addPeer_52 (fun H locs hP hD hS => ?_)
      refine lv_iload_n hx hb dX1_addPeer_55 rfl (lv_at hl 0 rfl) ?_
      have ew : (xW cI cZ cP ad (va_up pd (g_N S) (fun j => if j = 0 then q28 else if j = 1 then u.1 else if j = 2 then u.2.1 else u.2.2)) (o_SA (u_New S g) 16)) = xW cI cZ cP ad (va_up pd (g_N S) (fun j => if j = 0 then q28 else if j = 1 then u.1 else if j = 2 then u.2.1 else u.2.2)) (u_Add S g).2 := by rw [u_Add, if_neg h5, if_pos c_48]
      rw [ew] at hP hD
      refine W.widen (k := 4) (n := 56) (Nat.le_of_ble_eq_true rfl) (Nat.le_of_ble_eq_true rfl) ?_
      exact W.iret hx hb hr (fun t ht hW => ⟨⟨nI (g_N S), (va_up pd (g_N S) (fun j => if j = 0 then q28 else if j = 1 then u.1 else if j = 2 then u.2.1 else u.2.2)), rfl, by rw [u_Add, if_neg h5, if_pos c_48], by rw [ht]; exact hP, hD⟩, hS.F ht⟩) hS.2.2 dX1_addPeer_56
