theorem lv_cv {ls : Array Slot} {nL : Nat} {q1 q2 : List (Nat × Value)} (h : lv_has ls nL q1) (e : q1 = q2) : lv_has ls nL q2 := e ▸ h

set_option maxRecDepth 100000 in
set_option maxHeartbeats 4000000 in
theorem c_X1_isTime (l : Launch) (D : va_G) (cI cZ cP : ClassId) (x : Int32) : MM l yX1_isTime wsX1_isTime ({ frames := 0, cells := 0, slots := 0, locals := 0 }) D (kTy cI cZ cP) [.int x] [] (some (.int (if okT x then 1 else 0))) [] := by
  refine MM.ofW (cc := cX1_isTime) (maxL := 1) (ret := (some .boolean)) (by decide) rfl (Nat.le_of_ble_eq_true rfl) ?_
  intro p e s m below meth c ls A hx hb hr hlk hml hts hown hK hN hP hD hS hAe hl
  have hown : s.vm.findClass RX1 = some m.cls := hown
  have hl : lv_has ls 1 [(0, .int x)] := hl
  refine lv_iload_n hx hb dX1_isTime_0 rfl (lv_at hl 0 rfl) ?_
  refine lv_iconst (v := 1) hx hb dX1_isTime_1 (by decide) ?_
  refine lv_icmp_lt (tgt := 15) hx hb dX1_isTime_2 (by decide) (fun c_2 => ?_) (fun c_2 => ?_)
  · refine lv_iconst (v := 0) hx hb dX1_isTime_15 (by decide) ?_
    exact k_zret hx hb hr hlk hP hS hAe rfl (by rw [if_neg (fun z => z.1 c_2)]) rfl dX1_isTime_16
  · refine lv_iload_n hx hb dX1_isTime_5 rfl (lv_at hl 0 rfl) ?_
    refine lv_bipush (v := 50) hx hb dX1_isTime_6 (by decide) ?_
    refine lv_icmp_gt (tgt := 15) hx hb dX1_isTime_8 (by decide) (fun c_8 => ?_) (fun c_8 => ?_)
    · refine lv_iconst (v := 0) hx hb dX1_isTime_15 (by decide) ?_
      exact k_zret hx hb hr hlk hP hS hAe rfl (by rw [if_neg (fun z => z.2 c_8)]) rfl dX1_isTime_16
    · refine lv_iconst (v := 1) hx hb dX1_isTime_11 (by decide) ?_
      refine lv_goto (tgt := 16) hx hb dX1_isTime_12 (by decide) ?_
      exact k_zret hx hb hr hlk hP hS hAe rfl (by rw [if_pos ⟨c_2, c_8⟩]) rfl dX1_isTime_16

set_option maxRecDepth 100000 in
set_option maxHeartbeats 4000000 in
theorem c_X1_routeOf (l : Launch) (D : va_G) (cI cZ cP : ClassId) (t f : Int32) : MM l yX1_routeOf wsX1_routeOf ({ frames := 0, cells := 0, slots := 0, locals := 0 }) D (kTy cI cZ cP) [.int t, .int f] [] (some (.int (if okR t f then nI (rx t f) else -1))) [] := by
  refine MM.ofW (cc := cX1_routeOf) (maxL := 2) (ret := (some .int)) (by decide) rfl (Nat.le_of_ble_eq_true rfl) ?_
  intro p e s m below meth c ls A hx hb hr hlk hml hts hown hK hN hP hD hS hAe hl
  have hown : s.vm.findClass RX1 = some m.cls := hown
  have hl : lv_has ls 2 [(0, .int t), (1, .int f)] := hl
  by_cases hr9 : okR t f
  · obtain ⟨a9, b9, ha9, hb9, rfl, rfl⟩ := okR_nat hr9
    have rxe : rx (nI a9) (nI b9) = 8 * a9 + b9 := rx_n (by omega) (by omega)
    have hr16 : 8 * a9 + b9 < 16 := by omega
    refine lv_iload_n hx hb dX1_routeOf_0 rfl (lv_at hl 0 rfl) ?_
    refine lv_if_lt (tgt := 19) hx hb dX1_routeOf_1 (by decide) (fun c_ => absurd c_ (nI_pos (by omega))) (fun _ => ?_)
    refine lv_iload_n hx hb dX1_routeOf_4 rfl (lv_at hl 0 rfl) ?_
    refine lv_iconst (v := 2) hx hb dX1_routeOf_5 (by decide) ?_
    refine lv_icmp_ge (tgt := 19) hx hb dX1_routeOf_6 (by decide) (fun c_ => absurd c_ (nI_ge (a := a9) (b := 2) ha9 (by decide))) (fun _ => ?_)
    refine lv_iload_n hx hb dX1_routeOf_9 rfl (lv_at hl 1 rfl) ?_
    refine lv_if_lt (tgt := 19) hx hb dX1_routeOf_10 (by decide) (fun c_ => absurd c_ (nI_pos (by omega))) (fun _ => ?_)
    refine lv_iload_n hx hb dX1_routeOf_13 rfl (lv_at hl 1 rfl) ?_
    refine lv_bipush (v := 8) hx hb dX1_routeOf_14 (by decide) ?_
    refine lv_icmp_lt (tgt := 21) hx hb dX1_routeOf_16 (by decide) (fun _ => ?_) (fun c_ => absurd (nI_lt (a := b9) (b := 8) hb9 (by decide)) c_)
    refine lv_iload_n hx hb dX1_routeOf_21 rfl (lv_at hl 0 rfl) ?_
    refine lv_bipush (v := 8) hx hb dX1_routeOf_22 (by decide) ?_
    refine lv_imul hx hb dX1_routeOf_24 ?_
    refine k_top (nx8r a9) ?_
    refine lv_iload_n hx hb dX1_routeOf_25 rfl (lv_at hl 1 rfl) ?_
    refine lv_iadd hx hb dX1_routeOf_26 ?_
    refine k_top (nI_add (8 * a9) b9) ?_
    exact k_iret hx hb hr hlk hP hS hAe (by rw [if_pos hr9, rxe]) rfl dX1_routeOf_27
  · refine lv_iload_n hx hb dX1_routeOf_0 rfl (lv_at hl 0 rfl) ?_
    refine lv_if_lt (tgt := 19) hx hb dX1_routeOf_1 (by decide) (fun c_1 => ?_) (fun c_1 => ?_)
    · refine lv_iconst (v := -1) hx hb dX1_routeOf_19 (by decide) ?_
      exact k_iret hx hb hr hlk hP hS hAe (by rw [if_neg hr9]) rfl dX1_routeOf_20
    · refine lv_iload_n hx hb dX1_routeOf_4 rfl (lv_at hl 0 rfl) ?_
      refine lv_iconst (v := 2) hx hb dX1_routeOf_5 (by decide) ?_
      refine lv_icmp_ge (tgt := 19) hx hb dX1_routeOf_6 (by decide) (fun c_6 => ?_) (fun c_6 => ?_)
      · refine lv_iconst (v := -1) hx hb dX1_routeOf_19 (by decide) ?_
        exact k_iret hx hb hr hlk hP hS hAe (by rw [if_neg hr9]) rfl dX1_routeOf_20
      · refine lv_iload_n hx hb dX1_routeOf_9 rfl (lv_at hl 1 rfl) ?_
        refine lv_if_lt (tgt := 19) hx hb dX1_routeOf_10 (by decide) (fun c_10 => ?_) (fun c_10 => ?_)
        · refine lv_iconst (v := -1) hx hb dX1_routeOf_19 (by decide) ?_
          exact k_iret hx hb hr hlk hP hS hAe (by rw [if_neg hr9]) rfl dX1_routeOf_20
        · refine lv_iload_n hx hb dX1_routeOf_13 rfl (lv_at hl 1 rfl) ?_
          refine lv_bipush (v := 8) hx hb dX1_routeOf_14 (by decide) ?_
          refine lv_icmp_lt (tgt := 21) hx hb dX1_routeOf_16 (by decide) (fun c_16 => ?_) (fun c_16 => ?_)
          · exact absurd ⟨⟨Int32.not_lt.mp c_1, Int32.not_le.mp c_6⟩, Int32.not_lt.mp c_10, c_16⟩ hr9
          · refine lv_iconst (v := -1) hx hb dX1_routeOf_19 (by decide) ?_
            exact k_iret hx hb hr hlk hP hS hAe (by rw [if_neg hr9]) rfl dX1_routeOf_20

set_option maxRecDepth 100000 in
set_option maxHeartbeats 4000000 in
theorem c_X1_findPeer_ok (l : Launch) (D : va_G) (cI cZ cP : ClassId) (ad : Nat → Nat) (pd : Nat → Nat → Nat) (S : ST) (k : Nat) (hn : g_N S ≤ 5) (hk : k < g_N S) : MM l yX1_findPeer wsX1_findPeer ({ frames := 0, cells := 0, slots := 0, locals := 0 }) D (kTy cI cZ cP) [.ref (ad 0), .int (nI k)] (xW cI cZ cP ad pd S) (some (.ref (pd k 0))) (xW cI cZ cP ad pd S) := by
  refine MM.ofW (cc := cX1_findPeer) (maxL := 2) (ret := (some (.object "GracefulRestart$Peer"))) (by decide) rfl (Nat.le_of_ble_eq_true rfl) ?_
  intro p e s m below meth c ls A hx hb hr hlk hml hts hown hK hN hP hD hS hAe hl
  have hown : s.vm.findClass RX1 = some m.cls := hown
  have hi1 : ∀ w ∈ wsX10, w ∈ wsX1_findPeer := fun w h => List.mem_cons_of_mem _ (List.mem_append_right _ h)
  have hl : lv_has ls 2 [(0, .ref (ad 0)), (1, .int (nI k))] := hl
  refine lv_iload_n hx hb dX1_findPeer_0 rfl (lv_at hl 1 rfl) ?_
  refine lv_if_lt (tgt := 13) hx hb dX1_findPeer_1 (by decide) (fun c_ => absurd c_ (nI_pos (by omega))) (fun _ => ?_)
  refine lv_iload_n hx hb dX1_findPeer_4 rfl (lv_at hl 1 rfl) ?_
  refine lv_aload_n hx hb dX1_findPeer_5 rfl (lv_at hl 0 rfl) ?_
  refine va_get (D := D) (ci := 1) (v := .ref (ad 1)) (C := RX1) (T := TX1) (N := 9) hx hb hts hi1 hown hK hP 0 (xO _ _ _ _ _ _) rfl 0 (by decide) (hts (.fieldLink RX1 11 "GracefulRestart" "peers" "[LGracefulRestart$Peer;") (List.mem_of_getElem? (i := 1) rfl)) (fun _ h9 => h9) (xV_0 _ _) dX1_findPeer_6 ?_
  refine va_alen (v := 5) hx hb hK hP 1 2 (xG_P _ _ _ _ _ _) rfl rfl dX1_findPeer_9 ?_
  refine lv_icmp_lt (tgt := 15) hx hb dX1_findPeer_10 (by decide) (fun _ => ?_) (fun c_ => absurd (nI_lt (a := k) (b := 5) (by omega) (by decide)) c_)
  refine lv_aload_n hx hb dX1_findPeer_15 rfl (lv_at hl 0 rfl) ?_
  refine va_get (D := D) (ci := 1) (v := .ref (ad 1)) (C := RX1) (T := TX1) (N := 9) hx hb hts hi1 hown hK hP 0 (xO _ _ _ _ _ _) rfl 0 (by decide) (hts (.fieldLink RX1 11 "GracefulRestart" "peers" "[LGracefulRestart$Peer;") (List.mem_of_getElem? (i := 1) rfl)) (fun _ h9 => h9) (xV_0 _ _) dX1_findPeer_16 ?_
  refine lv_iload_n hx hb dX1_findPeer_19 rfl (lv_at hl 1 rfl) ?_
  refine k_aald (k := k) (v := .ref (pd k 0)) hx hb hK hP 1 2 (xG_P _ _ _ _ _ _) rfl rfl (by omega) (by decide) (xR_in (by omega)) dX1_findPeer_20 ?_
  exact k_aret (r := some (pd k 0)) (r' := some (pd k 0)) hx hb hr hlk hP hS hAe rfl rfl dX1_findPeer_21

set_option maxRecDepth 100000 in
set_option maxHeartbeats 4000000 in
theorem c_X1_findPeer_no (l : Launch) (D : va_G) (cI cZ cP : ClassId) (ad : Nat → Nat) (pd : Nat → Nat → Nat) (S : ST) (x : Int32) (hn : g_N S ≤ 5) (hp : ¬ okP (g_N S) x) : MM l yX1_findPeer wsX1_findPeer ({ frames := 0, cells := 0, slots := 0, locals := 0 }) D (kTy cI cZ cP) [.ref (ad 0), .int x] (xW cI cZ cP ad pd S) (some .null) (xW cI cZ cP ad pd S) := by
  refine MM.ofW (cc := cX1_findPeer) (maxL := 2) (ret := (some (.object "GracefulRestart$Peer"))) (by decide) rfl (Nat.le_of_ble_eq_true rfl) ?_
  intro p e s m below meth c ls A hx hb hr hlk hml hts hown hK hN hP hD hS hAe hl
  have hown : s.vm.findClass RX1 = some m.cls := hown
  have hi1 : ∀ w ∈ wsX10, w ∈ wsX1_findPeer := fun w h => List.mem_cons_of_mem _ (List.mem_append_right _ h)
  have hl : lv_has ls 2 [(0, .ref (ad 0)), (1, .int x)] := hl
  refine lv_iload_n hx hb dX1_findPeer_0 rfl (lv_at hl 1 rfl) ?_
  refine lv_if_lt (tgt := 13) hx hb dX1_findPeer_1 (by decide) (fun c_1 => ?_) (fun c_1 => ?_)
  · refine lv_null hx hb dX1_findPeer_13 ?_
    exact k_aret (r := none) (r' := none) hx hb hr hlk hP hS hAe rfl rfl dX1_findPeer_14
  · refine lv_iload_n hx hb dX1_findPeer_4 rfl (lv_at hl 1 rfl) ?_
    refine lv_aload_n hx hb dX1_findPeer_5 rfl (lv_at hl 0 rfl) ?_
    refine va_get (D := D) (ci := 1) (v := .ref (ad 1)) (C := RX1) (T := TX1) (N := 9) hx hb hts hi1 hown hK hP 0 (xO _ _ _ _ _ _) rfl 0 (by decide) (hts (.fieldLink RX1 11 "GracefulRestart" "peers" "[LGracefulRestart$Peer;") (List.mem_of_getElem? (i := 1) rfl)) (fun _ h9 => h9) (xV_0 _ _) dX1_findPeer_6 ?_
    refine va_alen (v := 5) hx hb hK hP 1 2 (xG_P _ _ _ _ _ _) rfl rfl dX1_findPeer_9 ?_
    refine lv_icmp_lt (tgt := 15) hx hb dX1_findPeer_10 (by decide) (fun c_10 => ?_) (fun c_10 => ?_)
    · obtain ⟨k, hk, rfl⟩ := rng_nat (M := 5) (by decide) ⟨Int32.not_lt.mp c_1, c_10⟩
      have hnk : ¬ k < g_N S := fun z => hp (okP_of hn z)
      refine lv_aload_n hx hb dX1_findPeer_15 rfl (lv_at hl 0 rfl) ?_
      refine va_get (D := D) (ci := 1) (v := .ref (ad 1)) (C := RX1) (T := TX1) (N := 9) hx hb hts hi1 hown hK hP 0 (xO _ _ _ _ _ _) rfl 0 (by decide) (hts (.fieldLink RX1 11 "GracefulRestart" "peers" "[LGracefulRestart$Peer;") (List.mem_of_getElem? (i := 1) rfl)) (fun _ h9 => h9) (xV_0 _ _) dX1_findPeer_16 ?_
      refine lv_iload_n hx hb dX1_findPeer_19 rfl (lv_at hl 1 rfl) ?_
      refine k_aald (k := k) (v := .null) hx hb hK hP 1 2 (xG_P _ _ _ _ _ _) rfl rfl (by omega) (by decide) (xR_out (by omega)) dX1_findPeer_20 ?_
      exact k_aret (r := none) (r' := none) hx hb hr hlk hP hS hAe rfl rfl dX1_findPeer_21
    · refine lv_null hx hb dX1_findPeer_13 ?_
      exact k_aret (r := none) (r' := none) hx hb hr hlk hP hS hAe rfl rfl dX1_findPeer_14

set_option maxRecDepth 100000 in
set_option maxHeartbeats 4000000 in
theorem c_X1_setRestartTime (l : Launch) (D : va_G) (cI cZ cP : ClassId) (ad : Nat → Nat) (pd : Nat → Nat → Nat) (S : ST) (x : Int32) : MM l yX1_setRestartTime wsX1_setRestartTime ({ frames := 1, cells := 0, slots := 0, locals := 20 }) D (kTy cI cZ cP) [.ref (ad 0), .int x] (xW cI cZ cP ad pd S) (some (.int (if okT x then g_T1 S else -3))) (xW cI cZ cP ad pd (if okT x then s_T1 S x else S)) := by
  refine MM.ofW (cc := cX1_setRestartTime) (maxL := 3) (ret := (some .int)) (by decide) rfl (Nat.le_of_ble_eq_true rfl) ?_
  intro p e s m below meth c ls A hx hb hr hlk hml hts hown hK hN hP hD hS hAe hl
  have hown : s.vm.findClass RX1 = some m.cls := hown
  have hi1 : ∀ w ∈ wsX10, w ∈ wsX1_setRestartTime := fun w h => List.mem_cons_of_mem _ (List.mem_append_right _ h)
  have hl : lv_has ls 3 [(0, .ref (ad 0)), (1, .int x)] := hl
  refine lv_iload_n hx hb dX1_setRestartTime_0 rfl (lv_at hl 1 rfl) ?_
  refine kS0 (As := [.int x]) (rest := []) (o := some (.int (if okT x then 1 else 0))) ⟨hx, hb, hml, hown, hts⟩ (c_X1_isTime l D cI cZ cP x) (va_cwS 1 hts gX1_setRestartTime_X1_isTime rfl rfl rfl (by decide +kernel) ⟨Nat.le_of_ble_eq_true rfl, Nat.le_of_ble_eq_true rfl⟩) hK hN hP hD hS rfl hl.1 rfl (Nat.le_of_ble_eq_true rfl) ⟨Nat.zero_le _, Nat.zero_le _⟩ dX1_setRestartTime_1 (fun H locs hP hD hS => ?_)
  by_cases ht : okT x
  · refine k_top (if_pos ht) ?_
    refine lv_if_ne (tgt := 10) hx hb dX1_setRestartTime_4 (by decide) (fun _ => ?_) (fun c_ => absurd c_ (by decide))
    refine lv_aload_n hx hb dX1_setRestartTime_10 rfl (lv_at hl 0 rfl) ?_
    refine va_get (D := D) (ci := 1) (v := .int (g_T1 S)) (C := RX1) (T := TX1) (N := 9) hx hb hts hi1 hown hK hP 0 (xO _ _ _ _ _ _) rfl 4 (by decide) (hts (.fieldLink RX1 27 "GracefulRestart" "restartTime" "I") (List.mem_of_getElem? (i := 1) rfl)) (fun _ h9 => h9) (xV_T1 _ _) dX1_setRestartTime_11 ?_
    refine lv_istore_n (lv' := [(2, .int (g_T1 S)), (0, .ref (ad 0)), (1, .int x)]) hx hb dX1_setRestartTime_14 rfl hl (by decide) rfl (fun ls hl => ?_)
    refine lv_aload_n hx hb dX1_setRestartTime_15 rfl (lv_at hl 1 rfl) ?_
    refine lv_iload_n hx hb dX1_setRestartTime_16 rfl (lv_at hl 2 rfl) ?_
    refine k_put (D := D) (ci := 1) (v := .int x) (ty := .int) (C := RX1) (T := TX1) (N := 9) hx hb hts hi1 tyX1 tyX1_ok nmX1 hown hK hP hD hS 0 (xO _ _ _ _ _ _) rfl 4 (by decide) (hts (.fieldLink RX1 27 "GracefulRestart" "restartTime" "I") (List.mem_of_getElem? (i := 1) rfl)) (fun _ h9 => h9) rfl (by decide +kernel) rfl rfl (Nat.le_of_ble_eq_true rfl) (W1 := (xW cI cZ cP ad pd (s_T1 S x))) (xP_T1 _ _ _ _ _ _ _) dX1_setRestartTime_17 (fun H locs hP hD hS => ?_)
    refine lv_iload_n hx hb dX1_setRestartTime_20 rfl (lv_at hl 0 rfl) ?_
    exact k_iret hx hb hr hlk hP hS hAe ((if_pos ht).symm) (by rw [if_pos ht]) dX1_setRestartTime_21
  · refine k_top (if_neg ht) ?_
    refine lv_if_ne (tgt := 10) hx hb dX1_setRestartTime_4 (by decide) (fun c_ => absurd (by decide) c_) (fun _ => ?_)
    refine lv_bipush (v := -3) hx hb dX1_setRestartTime_7 (by decide) ?_
    exact k_iret hx hb hr hlk hP hS hAe ((if_neg ht).symm) (by rw [if_neg ht]) dX1_setRestartTime_9

set_option maxRecDepth 100000 in
set_option maxHeartbeats 4000000 in
theorem c_X1_setStaleTime (l : Launch) (D : va_G) (cI cZ cP : ClassId) (ad : Nat → Nat) (pd : Nat → Nat → Nat) (S : ST) (x : Int32) : MM l yX1_setStaleTime wsX1_setStaleTime ({ frames := 1, cells := 0, slots := 0, locals := 20 }) D (kTy cI cZ cP) [.ref (ad 0), .int x] (xW cI cZ cP ad pd S) (some (.int (if okT x then g_T2 S else -3))) (xW cI cZ cP ad pd (if okT x then s_T2 S x else S)) := by
  refine MM.ofW (cc := cX1_setStaleTime) (maxL := 3) (ret := (some .int)) (by decide) rfl (Nat.le_of_ble_eq_true rfl) ?_
  intro p e s m below meth c ls A hx hb hr hlk hml hts hown hK hN hP hD hS hAe hl
  have hown : s.vm.findClass RX1 = some m.cls := hown
  have hi1 : ∀ w ∈ wsX10, w ∈ wsX1_setStaleTime := fun w h => List.mem_cons_of_mem _ (List.mem_append_right _ h)
  have hl : lv_has ls 3 [(0, .ref (ad 0)), (1, .int x)] := hl
  refine lv_iload_n hx hb dX1_setStaleTime_0 rfl (lv_at hl 1 rfl) ?_
  refine kS0 (As := [.int x]) (rest := []) (o := some (.int (if okT x then 1 else 0))) ⟨hx, hb, hml, hown, hts⟩ (c_X1_isTime l D cI cZ cP x) (va_cwS 1 hts gX1_setStaleTime_X1_isTime rfl rfl rfl (by decide +kernel) ⟨Nat.le_of_ble_eq_true rfl, Nat.le_of_ble_eq_true rfl⟩) hK hN hP hD hS rfl hl.1 rfl (Nat.le_of_ble_eq_true rfl) ⟨Nat.zero_le _, Nat.zero_le _⟩ dX1_setStaleTime_1 (fun H locs hP hD hS => ?_)
  by_cases ht : okT x
  · refine k_top (if_pos ht) ?_
    refine lv_if_ne (tgt := 10) hx hb dX1_setStaleTime_4 (by decide) (fun _ => ?_) (fun c_ => absurd c_ (by decide))
    refine lv_aload_n hx hb dX1_setStaleTime_10 rfl (lv_at hl 0 rfl) ?_
    refine va_get (D := D) (ci := 1) (v := .int (g_T2 S)) (C := RX1) (T := TX1) (N := 9) hx hb hts hi1 hown hK hP 0 (xO _ _ _ _ _ _) rfl 5 (by decide) (hts (.fieldLink RX1 30 "GracefulRestart" "staleTime" "I") (List.mem_of_getElem? (i := 1) rfl)) (fun _ h9 => h9) (xV_T2 _ _) dX1_setStaleTime_11 ?_
    refine lv_istore_n (lv' := [(2, .int (g_T2 S)), (0, .ref (ad 0)), (1, .int x)]) hx hb dX1_setStaleTime_14 rfl hl (by decide) rfl (fun ls hl => ?_)
    refine lv_aload_n hx hb dX1_setStaleTime_15 rfl (lv_at hl 1 rfl) ?_
    refine lv_iload_n hx hb dX1_setStaleTime_16 rfl (lv_at hl 2 rfl) ?_
    refine k_put (D := D) (ci := 1) (v := .int x) (ty := .int) (C := RX1) (T := TX1) (N := 9) hx hb hts hi1 tyX1 tyX1_ok nmX1 hown hK hP hD hS 0 (xO _ _ _ _ _ _) rfl 5 (by decide) (hts (.fieldLink RX1 30 "GracefulRestart" "staleTime" "I") (List.mem_of_getElem? (i := 1) rfl)) (fun _ h9 => h9) rfl (by decide +kernel) rfl rfl (Nat.le_of_ble_eq_true rfl) (W1 := (xW cI cZ cP ad pd (s_T2 S x))) (xP_T2 _ _ _ _ _ _ _) dX1_setStaleTime_17 (fun H locs hP hD hS => ?_)
    refine lv_iload_n hx hb dX1_setStaleTime_20 rfl (lv_at hl 0 rfl) ?_
    exact k_iret hx hb hr hlk hP hS hAe ((if_pos ht).symm) (by rw [if_pos ht]) dX1_setStaleTime_21
  · refine k_top (if_neg ht) ?_
    refine lv_if_ne (tgt := 10) hx hb dX1_setStaleTime_4 (by decide) (fun c_ => absurd (by decide) c_) (fun _ => ?_)
    refine lv_bipush (v := -3) hx hb dX1_setStaleTime_7 (by decide) ?_
    exact k_iret hx hb hr hlk hP hS hAe ((if_neg ht).symm) (by rw [if_neg ht]) dX1_setStaleTime_9

set_option maxRecDepth 100000 in
set_option maxHeartbeats 4000000 in
theorem c_X1_setDeferralTime (l : Launch) (D : va_G) (cI cZ cP : ClassId) (ad : Nat → Nat) (pd : Nat → Nat → Nat) (S : ST) (x : Int32) : MM l yX1_setDeferralTime wsX1_setDeferralTime ({ frames := 1, cells := 0, slots := 0, locals := 20 }) D (kTy cI cZ cP) [.ref (ad 0), .int x] (xW cI cZ cP ad pd S) (some (.int (if okT x then g_T3 S else -3))) (xW cI cZ cP ad pd (if okT x then s_T3 S x else S)) := by
  refine MM.ofW (cc := cX1_setDeferralTime) (maxL := 3) (ret := (some .int)) (by decide) rfl (Nat.le_of_ble_eq_true rfl) ?_
  intro p e s m below meth c ls A hx hb hr hlk hml hts hown hK hN hP hD hS hAe hl
  have hown : s.vm.findClass RX1 = some m.cls := hown
  have hi1 : ∀ w ∈ wsX10, w ∈ wsX1_setDeferralTime := fun w h => List.mem_cons_of_mem _ (List.mem_append_right _ h)
  have hl : lv_has ls 3 [(0, .ref (ad 0)), (1, .int x)] := hl
  refine lv_iload_n hx hb dX1_setDeferralTime_0 rfl (lv_at hl 1 rfl) ?_
  refine kS0 (As := [.int x]) (rest := []) (o := some (.int (if okT x then 1 else 0))) ⟨hx, hb, hml, hown, hts⟩ (c_X1_isTime l D cI cZ cP x) (va_cwS 1 hts gX1_setDeferralTime_X1_isTime rfl rfl rfl (by decide +kernel) ⟨Nat.le_of_ble_eq_true rfl, Nat.le_of_ble_eq_true rfl⟩) hK hN hP hD hS rfl hl.1 rfl (Nat.le_of_ble_eq_true rfl) ⟨Nat.zero_le _, Nat.zero_le _⟩ dX1_setDeferralTime_1 (fun H locs hP hD hS => ?_)
  by_cases ht : okT x
  · refine k_top (if_pos ht) ?_
    refine lv_if_ne (tgt := 10) hx hb dX1_setDeferralTime_4 (by decide) (fun _ => ?_) (fun c_ => absurd c_ (by decide))
    refine lv_aload_n hx hb dX1_setDeferralTime_10 rfl (lv_at hl 0 rfl) ?_
    refine va_get (D := D) (ci := 1) (v := .int (g_T3 S)) (C := RX1) (T := TX1) (N := 9) hx hb hts hi1 hown hK hP 0 (xO _ _ _ _ _ _) rfl 6 (by decide) (hts (.fieldLink RX1 33 "GracefulRestart" "deferralTime" "I") (List.mem_of_getElem? (i := 1) rfl)) (fun _ h9 => h9) (xV_T3 _ _) dX1_setDeferralTime_11 ?_
    refine lv_istore_n (lv' := [(2, .int (g_T3 S)), (0, .ref (ad 0)), (1, .int x)]) hx hb dX1_setDeferralTime_14 rfl hl (by decide) rfl (fun ls hl => ?_)
    refine lv_aload_n hx hb dX1_setDeferralTime_15 rfl (lv_at hl 1 rfl) ?_
    refine lv_iload_n hx hb dX1_setDeferralTime_16 rfl (lv_at hl 2 rfl) ?_
    refine k_put (D := D) (ci := 1) (v := .int x) (ty := .int) (C := RX1) (T := TX1) (N := 9) hx hb hts hi1 tyX1 tyX1_ok nmX1 hown hK hP hD hS 0 (xO _ _ _ _ _ _) rfl 6 (by decide) (hts (.fieldLink RX1 33 "GracefulRestart" "deferralTime" "I") (List.mem_of_getElem? (i := 1) rfl)) (fun _ h9 => h9) rfl (by decide +kernel) rfl rfl (Nat.le_of_ble_eq_true rfl) (W1 := (xW cI cZ cP ad pd (s_T3 S x))) (xP_T3 _ _ _ _ _ _ _) dX1_setDeferralTime_17 (fun H locs hP hD hS => ?_)
    refine lv_iload_n hx hb dX1_setDeferralTime_20 rfl (lv_at hl 0 rfl) ?_
    exact k_iret hx hb hr hlk hP hS hAe ((if_pos ht).symm) (by rw [if_pos ht]) dX1_setDeferralTime_21
  · refine k_top (if_neg ht) ?_
    refine lv_if_ne (tgt := 10) hx hb dX1_setDeferralTime_4 (by decide) (fun c_ => absurd (by decide) c_) (fun _ => ?_)
    refine lv_bipush (v := -3) hx hb dX1_setDeferralTime_7 (by decide) ?_
    exact k_iret hx hb hr hlk hP hS hAe ((if_neg ht).symm) (by rw [if_neg ht]) dX1_setDeferralTime_9

set_option maxRecDepth 100000 in
set_option maxHeartbeats 4000000 in
theorem c_X1_isDeferring (l : Launch) (D : va_G) (cI cZ cP : ClassId) (ad : Nat → Nat) (pd : Nat → Nat → Nat) (S : ST)  : MM l yX1_isDeferring wsX1_isDeferring ({ frames := 0, cells := 0, slots := 0, locals := 0 }) D (kTy cI cZ cP) [.ref (ad 0)] (xW cI cZ cP ad pd S) (some (.int (if g_Df S = 0 then 0 else 1))) (xW cI cZ cP ad pd S) := by
  refine MM.ofW (cc := cX1_isDeferring) (maxL := 1) (ret := (some .int)) (by decide) rfl (Nat.le_of_ble_eq_true rfl) ?_
  intro p e s m below meth c ls A hx hb hr hlk hml hts hown hK hN hP hD hS hAe hl
  have hown : s.vm.findClass RX1 = some m.cls := hown
  have hi1 : ∀ w ∈ wsX10, w ∈ wsX1_isDeferring := fun w h => List.mem_cons_of_mem _ (List.mem_append_right _ h)
  have hl : lv_has ls 1 [(0, .ref (ad 0))] := hl
  refine lv_aload_n hx hb dX1_isDeferring_0 rfl (lv_at hl 0 rfl) ?_
  refine va_get (D := D) (ci := 1) (v := .int (g_Df S)) (C := RX1) (T := TX1) (N := 9) hx hb hts hi1 hown hK hP 0 (xO _ _ _ _ _ _) rfl 7 (by decide) (hts (.fieldLink RX1 36 "GracefulRestart" "deferring" "Z") (List.mem_of_getElem? (i := 1) rfl)) (fun _ h9 => h9) (xV_Df _ _) dX1_isDeferring_1 ?_
  refine lv_if_eq (tgt := 11) hx hb dX1_isDeferring_4 (by decide) (fun c_4 => ?_) (fun c_4 => ?_)
  · refine lv_iconst (v := 0) hx hb dX1_isDeferring_11 (by decide) ?_
    exact k_iret hx hb hr hlk hP hS hAe (by simp [c_4]) rfl dX1_isDeferring_12
  · refine lv_iconst (v := 1) hx hb dX1_isDeferring_7 (by decide) ?_
    refine lv_goto (tgt := 12) hx hb dX1_isDeferring_8 (by decide) ?_
    exact k_iret hx hb hr hlk hP hS hAe (by simp [c_4]) rfl dX1_isDeferring_12

set_option maxRecDepth 100000 in
set_option maxHeartbeats 4000000 in
theorem c_X1_deferralTimer (l : Launch) (D : va_G) (cI cZ cP : ClassId) (ad : Nat → Nat) (pd : Nat → Nat → Nat) (S : ST)  : MM l yX1_deferralTimer wsX1_deferralTimer ({ frames := 0, cells := 0, slots := 0, locals := 0 }) D (kTy cI cZ cP) [.ref (ad 0)] (xW cI cZ cP ad pd S) (some (.int (g_Dl S))) (xW cI cZ cP ad pd S) := by
  refine MM.ofW (cc := cX1_deferralTimer) (maxL := 1) (ret := (some .int)) (by decide) rfl (Nat.le_of_ble_eq_true rfl) ?_
  intro p e s m below meth c ls A hx hb hr hlk hml hts hown hK hN hP hD hS hAe hl
  have hown : s.vm.findClass RX1 = some m.cls := hown
  have hi1 : ∀ w ∈ wsX10, w ∈ wsX1_deferralTimer := fun w h => List.mem_cons_of_mem _ (List.mem_append_right _ h)
  have hl : lv_has ls 1 [(0, .ref (ad 0))] := hl
  refine lv_aload_n hx hb dX1_deferralTimer_0 rfl (lv_at hl 0 rfl) ?_
  refine va_get (D := D) (ci := 1) (v := .int (g_Dl S)) (C := RX1) (T := TX1) (N := 9) hx hb hts hi1 hown hK hP 0 (xO _ _ _ _ _ _) rfl 8 (by decide) (hts (.fieldLink RX1 40 "GracefulRestart" "deferralLeft" "I") (List.mem_of_getElem? (i := 1) rfl)) (fun _ h9 => h9) (xV_Dl _ _) dX1_deferralTimer_1 ?_
  exact k_iret hx hb hr hlk hP hS hAe rfl rfl dX1_deferralTimer_4

set_option maxRecDepth 100000 in
set_option maxHeartbeats 4000000 in
theorem c_X1_nextHop (l : Launch) (D : va_G) (cI cZ cP : ClassId) (ad : Nat → Nat) (pd : Nat → Nat → Nat) (S : ST) (t f : Int32) : MM l yX1_nextHop wsX1_nextHop ({ frames := 1, cells := 0, slots := 0, locals := 21 }) D (kTy cI cZ cP) [.ref (ad 0), .int t, .int f] (xW cI cZ cP ad pd S) (some (.int (if okR t f then g_Ho S (rx t f) else -2))) (xW cI cZ cP ad pd S) := by
  refine MM.ofW (cc := cX1_nextHop) (maxL := 4) (ret := (some .int)) (by decide) rfl (Nat.le_of_ble_eq_true rfl) ?_
  intro p e s m below meth c ls A hx hb hr hlk hml hts hown hK hN hP hD hS hAe hl
  have hown : s.vm.findClass RX1 = some m.cls := hown
  have hi1 : ∀ w ∈ wsX10, w ∈ wsX1_nextHop := fun w h => List.mem_cons_of_mem _ (List.mem_append_right _ h)
  have hl : lv_has ls 4 [(0, .ref (ad 0)), (1, .int t), (2, .int f)] := hl
  refine lv_iload_n hx hb dX1_nextHop_0 rfl (lv_at hl 1 rfl) ?_
  refine lv_iload_n hx hb dX1_nextHop_1 rfl (lv_at hl 2 rfl) ?_
  by_cases hr9 : okR t f
  · obtain ⟨a9, b9, ha9, hb9, rfl, rfl⟩ := okR_nat hr9
    have rxe : rx (nI a9) (nI b9) = 8 * a9 + b9 := rx_n (by omega) (by omega)
    have hr16 : 8 * a9 + b9 < 16 := by omega
    refine kS0 (As := [.int (nI a9), .int (nI b9)]) (rest := []) (o := some (.int (if okR (nI a9) (nI b9) then nI (rx (nI a9) (nI b9)) else -1))) ⟨hx, hb, hml, hown, hts⟩ (c_X1_routeOf l D cI cZ cP (nI a9) (nI b9)) (va_cwS 2 hts gX1_nextHop_X1_routeOf rfl rfl rfl (by decide +kernel) ⟨Nat.le_of_ble_eq_true rfl, Nat.le_of_ble_eq_true rfl⟩) hK hN hP hD hS rfl hl.1 rfl (Nat.le_of_ble_eq_true rfl) ⟨Nat.zero_le _, Nat.zero_le _⟩ dX1_nextHop_2 (fun H locs hP hD hS => ?_)
    refine k_top (y := nI (8 * a9 + b9)) (by rw [if_pos hr9, rxe]) ?_
    refine lv_istore_n (lv' := [(3, .int (nI (8 * a9 + b9))), (0, .ref (ad 0)), (1, .int (nI a9)), (2, .int (nI b9))]) hx hb dX1_nextHop_5 rfl hl (by decide) rfl (fun ls hl => ?_)
    refine lv_iload_n hx hb dX1_nextHop_6 rfl (lv_at hl 0 rfl) ?_
    refine lv_if_ge (tgt := 13) hx hb dX1_nextHop_7 (by decide) (fun _ => ?_) (fun c_ => absurd (nI_pos' (by omega)) c_)
    refine lv_aload_n hx hb dX1_nextHop_13 rfl (lv_at hl 1 rfl) ?_
    refine va_get (D := D) (ci := 1) (v := .ref (ad 2)) (C := RX1) (T := TX1) (N := 9) hx hb hts hi1 hown hK hP 0 (xO _ _ _ _ _ _) rfl 1 (by decide) (hts (.fieldLink RX1 15 "GracefulRestart" "hops" "[I") (List.mem_of_getElem? (i := 1) rfl)) (fun _ h9 => h9) (xV_1 _ _) dX1_nextHop_14 ?_
    refine lv_iload_n hx hb dX1_nextHop_17 rfl (lv_at hl 0 rfl) ?_
    refine k_iald (k := 8 * a9 + b9) hx hb hK hP 2 0 (xG_Ho _ _ _ _ _ _) rfl rfl (by omega) (by decide) dX1_nextHop_18 ?_
    exact k_iret hx hb hr hlk hP hS hAe (by rw [if_pos hr9, rxe]) rfl dX1_nextHop_19
  · refine kS0 (As := [.int t, .int f]) (rest := []) (o := some (.int (if okR t f then nI (rx t f) else -1))) ⟨hx, hb, hml, hown, hts⟩ (c_X1_routeOf l D cI cZ cP t f) (va_cwS 2 hts gX1_nextHop_X1_routeOf rfl rfl rfl (by decide +kernel) ⟨Nat.le_of_ble_eq_true rfl, Nat.le_of_ble_eq_true rfl⟩) hK hN hP hD hS rfl hl.1 rfl (Nat.le_of_ble_eq_true rfl) ⟨Nat.zero_le _, Nat.zero_le _⟩ dX1_nextHop_2 (fun H locs hP hD hS => ?_)
    refine k_top (y := -1) (if_neg hr9) ?_
    refine lv_istore_n (lv' := [(3, .int (-1)), (0, .ref (ad 0)), (1, .int t), (2, .int f)]) hx hb dX1_nextHop_5 rfl hl (by decide) rfl (fun ls hl => ?_)
    refine lv_iload_n hx hb dX1_nextHop_6 rfl (lv_at hl 0 rfl) ?_
    refine lv_if_ge (tgt := 13) hx hb dX1_nextHop_7 (by decide) (fun c_ => absurd c_ (by decide)) (fun _ => ?_)
    refine lv_bipush (v := -2) hx hb dX1_nextHop_10 (by decide) ?_
    exact k_iret hx hb hr hlk hP hS hAe (by rw [if_neg hr9]) rfl dX1_nextHop_12

set_option maxRecDepth 100000 in
set_option maxHeartbeats 4000000 in
theorem c_X1_isEntryStale (l : Launch) (D : va_G) (cI cZ cP : ClassId) (ad : Nat → Nat) (pd : Nat → Nat → Nat) (S : ST) (t f : Int32) : MM l yX1_isEntryStale wsX1_isEntryStale ({ frames := 1, cells := 0, slots := 0, locals := 21 }) D (kTy cI cZ cP) [.ref (ad 0), .int t, .int f] (xW cI cZ cP ad pd S) (some (.int (if okR t f then (if g_Ho S (rx t f) = -6 then -6 else if g_Hs S (rx t f) = 0 then 0 else 1) else -2))) (xW cI cZ cP ad pd S) := by
  refine MM.ofW (cc := cX1_isEntryStale) (maxL := 4) (ret := (some .int)) (by decide) rfl (Nat.le_of_ble_eq_true rfl) ?_
  intro p e s m below meth c ls A hx hb hr hlk hml hts hown hK hN hP hD hS hAe hl
  have hown : s.vm.findClass RX1 = some m.cls := hown
  have hi1 : ∀ w ∈ wsX10, w ∈ wsX1_isEntryStale := fun w h => List.mem_cons_of_mem _ (List.mem_append_right _ h)
  have hl : lv_has ls 4 [(0, .ref (ad 0)), (1, .int t), (2, .int f)] := hl
  refine lv_iload_n hx hb dX1_isEntryStale_0 rfl (lv_at hl 1 rfl) ?_
  refine lv_iload_n hx hb dX1_isEntryStale_1 rfl (lv_at hl 2 rfl) ?_
  by_cases hr9 : okR t f
  · obtain ⟨a9, b9, ha9, hb9, rfl, rfl⟩ := okR_nat hr9
    have rxe : rx (nI a9) (nI b9) = 8 * a9 + b9 := rx_n (by omega) (by omega)
    have hr16 : 8 * a9 + b9 < 16 := by omega
    refine kS0 (As := [.int (nI a9), .int (nI b9)]) (rest := []) (o := some (.int (if okR (nI a9) (nI b9) then nI (rx (nI a9) (nI b9)) else -1))) ⟨hx, hb, hml, hown, hts⟩ (c_X1_routeOf l D cI cZ cP (nI a9) (nI b9)) (va_cwS 2 hts gX1_isEntryStale_X1_routeOf rfl rfl rfl (by decide +kernel) ⟨Nat.le_of_ble_eq_true rfl, Nat.le_of_ble_eq_true rfl⟩) hK hN hP hD hS rfl hl.1 rfl (Nat.le_of_ble_eq_true rfl) ⟨Nat.zero_le _, Nat.zero_le _⟩ dX1_isEntryStale_2 (fun H locs hP hD hS => ?_)
    refine k_top (y := nI (8 * a9 + b9)) (by rw [if_pos hr9, rxe]) ?_
    refine lv_istore_n (lv' := [(3, .int (nI (8 * a9 + b9))), (0, .ref (ad 0)), (1, .int (nI a9)), (2, .int (nI b9))]) hx hb dX1_isEntryStale_5 rfl hl (by decide) rfl (fun ls hl => ?_)
    refine lv_iload_n hx hb dX1_isEntryStale_6 rfl (lv_at hl 0 rfl) ?_
    refine lv_if_ge (tgt := 13) hx hb dX1_isEntryStale_7 (by decide) (fun _ => ?_) (fun c_ => absurd (nI_pos' (by omega)) c_)
    refine lv_aload_n hx hb dX1_isEntryStale_13 rfl (lv_at hl 1 rfl) ?_
    refine va_get (D := D) (ci := 1) (v := .ref (ad 2)) (C := RX1) (T := TX1) (N := 9) hx hb hts hi1 hown hK hP 0 (xO _ _ _ _ _ _) rfl 1 (by decide) (hts (.fieldLink RX1 15 "GracefulRestart" "hops" "[I") (List.mem_of_getElem? (i := 1) rfl)) (fun _ h9 => h9) (xV_1 _ _) dX1_isEntryStale_14 ?_
    refine lv_iload_n hx hb dX1_isEntryStale_17 rfl (lv_at hl 0 rfl) ?_
    refine k_iald (k := 8 * a9 + b9) hx hb hK hP 2 0 (xG_Ho _ _ _ _ _ _) rfl rfl (by omega) (by decide) dX1_isEntryStale_18 ?_
    refine lv_bipush (v := -6) hx hb dX1_isEntryStale_19 (by decide) ?_
    refine lv_icmp_ne (tgt := 27) hx hb dX1_isEntryStale_21 (by decide) (fun c_21 => ?_) (fun c_21 => ?_)
    · refine lv_aload_n hx hb dX1_isEntryStale_27 rfl (lv_at hl 1 rfl) ?_
      refine va_get (D := D) (ci := 1) (v := .ref (ad 3)) (C := RX1) (T := TX1) (N := 9) hx hb hts hi1 hown hK hP 0 (xO _ _ _ _ _ _) rfl 2 (by decide) (hts (.fieldLink RX1 19 "GracefulRestart" "staleHops" "[Z") (List.mem_of_getElem? (i := 2) rfl)) (fun _ h9 => h9) (xV_2 _ _) dX1_isEntryStale_28 ?_
      refine lv_iload_n hx hb dX1_isEntryStale_31 rfl (lv_at hl 0 rfl) ?_
      refine k_zald (k := 8 * a9 + b9) hx hb hK hP 3 1 (xG_Hs _ _ _ _ _ _) rfl rfl (by omega) (by decide) dX1_isEntryStale_32 ?_
      refine lv_if_eq (tgt := 40) hx hb dX1_isEntryStale_33 (by decide) (fun c_33 => ?_) (fun c_33 => ?_)
      · refine lv_iconst (v := 0) hx hb dX1_isEntryStale_40 (by decide) ?_
        exact k_iret hx hb hr hlk hP hS hAe (by rw [if_pos hr9, rxe]; simp [c_21, c_33]) rfl dX1_isEntryStale_41
      · refine lv_iconst (v := 1) hx hb dX1_isEntryStale_36 (by decide) ?_
        refine lv_goto (tgt := 41) hx hb dX1_isEntryStale_37 (by decide) ?_
        exact k_iret hx hb hr hlk hP hS hAe (by rw [if_pos hr9, rxe]; simp [c_21, c_33]) rfl dX1_isEntryStale_41
    · refine lv_bipush (v := -6) hx hb dX1_isEntryStale_24 (by decide) ?_
      exact k_iret hx hb hr hlk hP hS hAe (by rw [if_pos hr9, rxe]; simp [c_21]) rfl dX1_isEntryStale_26
  · refine kS0 (As := [.int t, .int f]) (rest := []) (o := some (.int (if okR t f then nI (rx t f) else -1))) ⟨hx, hb, hml, hown, hts⟩ (c_X1_routeOf l D cI cZ cP t f) (va_cwS 2 hts gX1_isEntryStale_X1_routeOf rfl rfl rfl (by decide +kernel) ⟨Nat.le_of_ble_eq_true rfl, Nat.le_of_ble_eq_true rfl⟩) hK hN hP hD hS rfl hl.1 rfl (Nat.le_of_ble_eq_true rfl) ⟨Nat.zero_le _, Nat.zero_le _⟩ dX1_isEntryStale_2 (fun H locs hP hD hS => ?_)
    refine k_top (y := -1) (if_neg hr9) ?_
    refine lv_istore_n (lv' := [(3, .int (-1)), (0, .ref (ad 0)), (1, .int t), (2, .int f)]) hx hb dX1_isEntryStale_5 rfl hl (by decide) rfl (fun ls hl => ?_)
    refine lv_iload_n hx hb dX1_isEntryStale_6 rfl (lv_at hl 0 rfl) ?_
    refine lv_if_ge (tgt := 13) hx hb dX1_isEntryStale_7 (by decide) (fun c_ => absurd c_ (by decide)) (fun _ => ?_)
    refine lv_bipush (v := -2) hx hb dX1_isEntryStale_10 (by decide) ?_
    exact k_iret hx hb hr hlk hP hS hAe (by rw [if_neg hr9]) rfl dX1_isEntryStale_12

set_option maxRecDepth 100000 in
set_option maxHeartbeats 4000000 in
theorem c_X1_sessionState (l : Launch) (D : va_G) (cI cZ cP : ClassId) (ad : Nat → Nat) (pd : Nat → Nat → Nat) (S : ST) (x : Int32) (hn : g_N S ≤ 5) : MM l yX1_sessionState wsX1_sessionState ({ frames := 1, cells := 0, slots := 0, locals := 21 }) D (kTy cI cZ cP) [.ref (ad 0), .int x] (xW cI cZ cP ad pd S) (some (.int (if okP (g_N S) x then g_St S (kx x) else -1))) (xW cI cZ cP ad pd S) := by
  refine MM.ofW (cc := cX1_sessionState) (maxL := 3) (ret := (some .int)) (by decide) rfl (Nat.le_of_ble_eq_true rfl) ?_
  intro p e s m below meth c ls A hx hb hr hlk hml hts hown hK hN hP hD hS hAe hl
  have hown : s.vm.findClass RX1 = some m.cls := hown
  have hi0 : ∀ w ∈ wsX00, w ∈ wsX1_sessionState := fun w h => List.mem_cons_of_mem _ (List.mem_append_left _ (List.mem_append_right _ h))
  have hi1 : ∀ w ∈ wsX10, w ∈ wsX1_sessionState := fun w h => List.mem_cons_of_mem _ (List.mem_append_right _ h)
  have hl : lv_has ls 3 [(0, .ref (ad 0)), (1, .int x)] := hl
  refine lv_aload_n hx hb dX1_sessionState_0 rfl (lv_at hl 0 rfl) ?_
  refine lv_iload_n hx hb dX1_sessionState_1 rfl (lv_at hl 1 rfl) ?_
  by_cases hp : okP (g_N S) x
  · obtain ⟨k, hk, rfl⟩ := okP_nat hn hp
    have hk5 : k < 5 := by omega
    have kxe : kx (nI k) = k := kx_n (by omega)
    refine kV (As := [.int (nI k)]) (rest := []) (Wc := (xW cI cZ cP ad pd S)) (Wc1 := (xW cI cZ cP ad pd S)) (Wd1 := (xW cI cZ cP ad pd S)) (o := some (.ref (pd k 0))) ⟨hx, hb, hml, hown, hts⟩ (c_X1_findPeer_ok l D cI cZ cP ad pd S k hn hk) (cwV 1 hts gX1_sessionState_X1_findPeer rfl rfl rfl (by decide +kernel) ⟨Nat.le_of_ble_eq_true rfl, Nat.le_of_ble_eq_true rfl⟩) hK hN hP hD hS (fun j => j) (fun _ _ h => h) (fun _ _ _ _ h => h) (xW_adr rfl) (fun k q h => Or.inl ⟨k, h⟩) 0 1 rfl rfl (xO _ _ _ _ _ _) rfl hl.1 rfl (Nat.le_of_ble_eq_true rfl) ⟨Nat.zero_le _, Nat.zero_le _⟩ dX1_sessionState_2 (fun H locs hP hD hS => ?_)
    refine lv_astore_n (lv' := [(2, .ref (pd k 0)), (0, .ref (ad 0)), (1, .int (nI k))]) hx hb dX1_sessionState_5 rfl hl (by decide) rfl (fun ls hl => ?_)
    refine lv_aload_n hx hb dX1_sessionState_6 rfl (lv_at hl 0 rfl) ?_
    refine lv_ifnonnull (tgt := 14) hx hb dX1_sessionState_7 (by decide) ?_
    refine lv_aload_n hx hb dX1_sessionState_14 rfl (lv_at hl 0 rfl) ?_
    refine va_getN (D := D) (ci := 0) (v := .int ((g_St S) k)) (C := RX0) (T := TX0) (N := 8) hx hb hts hi0 hown hK hP (4 + (4 * k + 0)) (yO _ _ _ _ _ _ (by omega)) rfl 4 (by decide) (va_Nw.use rfl (hN (.fieldLinkNest RX1 71 RX0 "state" "I" RX1) (List.mem_of_getElem? (i := 3) rfl))) (fun _ h9 => h9) (yV_4 _ _ _) dX1_sessionState_15 ?_
    exact k_iret hx hb hr hlk hP hS hAe (by rw [if_pos hp, kxe]) rfl dX1_sessionState_18
  · refine kV (As := [.int x]) (rest := []) (Wc := (xW cI cZ cP ad pd S)) (Wc1 := (xW cI cZ cP ad pd S)) (Wd1 := (xW cI cZ cP ad pd S)) (o := some (.null)) ⟨hx, hb, hml, hown, hts⟩ (c_X1_findPeer_no l D cI cZ cP ad pd S x hn hp) (cwV 1 hts gX1_sessionState_X1_findPeer rfl rfl rfl (by decide +kernel) ⟨Nat.le_of_ble_eq_true rfl, Nat.le_of_ble_eq_true rfl⟩) hK hN hP hD hS (fun j => j) (fun _ _ h => h) (fun _ _ _ _ h => h) (xW_adr rfl) (fun k q h => Or.inl ⟨k, h⟩) 0 1 rfl rfl (xO _ _ _ _ _ _) rfl hl.1 rfl (Nat.le_of_ble_eq_true rfl) ⟨Nat.zero_le _, Nat.zero_le _⟩ dX1_sessionState_2 (fun H locs hP hD hS => ?_)
    refine lv_astore_nN (lv' := [(2, .null), (0, .ref (ad 0)), (1, .int x)]) hx hb dX1_sessionState_5 rfl hl (by decide) rfl (fun ls hl => ?_)
    refine lv_aload_nN hx hb dX1_sessionState_6 rfl (lv_at hl 0 rfl) ?_
    refine lv_ifnonnullN hx hb dX1_sessionState_7 ?_
    refine lv_iconst (v := -1) hx hb dX1_sessionState_10 (by decide) ?_
    refine lv_goto (tgt := 18) hx hb dX1_sessionState_11 (by decide) ?_
    exact k_iret hx hb hr hlk hP hS hAe (by rw [if_neg hp]) rfl dX1_sessionState_18

set_option maxRecDepth 100000 in
set_option maxHeartbeats 4000000 in
theorem c_X1_restartTimer (l : Launch) (D : va_G) (cI cZ cP : ClassId) (ad : Nat → Nat) (pd : Nat → Nat → Nat) (S : ST) (x : Int32) (hn : g_N S ≤ 5) : MM l yX1_restartTimer wsX1_restartTimer ({ frames := 1, cells := 0, slots := 0, locals := 21 }) D (kTy cI cZ cP) [.ref (ad 0), .int x] (xW cI cZ cP ad pd S) (some (.int (if okP (g_N S) x then g_Rt S (kx x) else -1))) (xW cI cZ cP ad pd S) := by
  refine MM.ofW (cc := cX1_restartTimer) (maxL := 3) (ret := (some .int)) (by decide) rfl (Nat.le_of_ble_eq_true rfl) ?_
  intro p e s m below meth c ls A hx hb hr hlk hml hts hown hK hN hP hD hS hAe hl
  have hown : s.vm.findClass RX1 = some m.cls := hown
  have hi0 : ∀ w ∈ wsX00, w ∈ wsX1_restartTimer := fun w h => List.mem_cons_of_mem _ (List.mem_append_left _ (List.mem_append_right _ h))
  have hi1 : ∀ w ∈ wsX10, w ∈ wsX1_restartTimer := fun w h => List.mem_cons_of_mem _ (List.mem_append_right _ h)
  have hl : lv_has ls 3 [(0, .ref (ad 0)), (1, .int x)] := hl
  refine lv_aload_n hx hb dX1_restartTimer_0 rfl (lv_at hl 0 rfl) ?_
  refine lv_iload_n hx hb dX1_restartTimer_1 rfl (lv_at hl 1 rfl) ?_
  by_cases hp : okP (g_N S) x
  · obtain ⟨k, hk, rfl⟩ := okP_nat hn hp
    have hk5 : k < 5 := by omega
    have kxe : kx (nI k) = k := kx_n (by omega)
    refine kV (As := [.int (nI k)]) (rest := []) (Wc := (xW cI cZ cP ad pd S)) (Wc1 := (xW cI cZ cP ad pd S)) (Wd1 := (xW cI cZ cP ad pd S)) (o := some (.ref (pd k 0))) ⟨hx, hb, hml, hown, hts⟩ (c_X1_findPeer_ok l D cI cZ cP ad pd S k hn hk) (cwV 1 hts gX1_restartTimer_X1_findPeer rfl rfl rfl (by decide +kernel) ⟨Nat.le_of_ble_eq_true rfl, Nat.le_of_ble_eq_true rfl⟩) hK hN hP hD hS (fun j => j) (fun _ _ h => h) (fun _ _ _ _ h => h) (xW_adr rfl) (fun k q h => Or.inl ⟨k, h⟩) 0 1 rfl rfl (xO _ _ _ _ _ _) rfl hl.1 rfl (Nat.le_of_ble_eq_true rfl) ⟨Nat.zero_le _, Nat.zero_le _⟩ dX1_restartTimer_2 (fun H locs hP hD hS => ?_)
    refine lv_astore_n (lv' := [(2, .ref (pd k 0)), (0, .ref (ad 0)), (1, .int (nI k))]) hx hb dX1_restartTimer_5 rfl hl (by decide) rfl (fun ls hl => ?_)
    refine lv_aload_n hx hb dX1_restartTimer_6 rfl (lv_at hl 0 rfl) ?_
    refine lv_ifnonnull (tgt := 14) hx hb dX1_restartTimer_7 (by decide) ?_
    refine lv_aload_n hx hb dX1_restartTimer_14 rfl (lv_at hl 0 rfl) ?_
    refine va_getN (D := D) (ci := 0) (v := .int ((g_Rt S) k)) (C := RX0) (T := TX0) (N := 8) hx hb hts hi0 hown hK hP (4 + (4 * k + 0)) (yO _ _ _ _ _ _ (by omega)) rfl 5 (by decide) (va_Nw.use rfl (hN (.fieldLinkNest RX1 107 RX0 "restartLeft" "I" RX1) (List.mem_of_getElem? (i := 4) rfl))) (fun _ h9 => h9) (yV_5 _ _ _) dX1_restartTimer_15 ?_
    exact k_iret hx hb hr hlk hP hS hAe (by rw [if_pos hp, kxe]) rfl dX1_restartTimer_18
  · refine kV (As := [.int x]) (rest := []) (Wc := (xW cI cZ cP ad pd S)) (Wc1 := (xW cI cZ cP ad pd S)) (Wd1 := (xW cI cZ cP ad pd S)) (o := some (.null)) ⟨hx, hb, hml, hown, hts⟩ (c_X1_findPeer_no l D cI cZ cP ad pd S x hn hp) (cwV 1 hts gX1_restartTimer_X1_findPeer rfl rfl rfl (by decide +kernel) ⟨Nat.le_of_ble_eq_true rfl, Nat.le_of_ble_eq_true rfl⟩) hK hN hP hD hS (fun j => j) (fun _ _ h => h) (fun _ _ _ _ h => h) (xW_adr rfl) (fun k q h => Or.inl ⟨k, h⟩) 0 1 rfl rfl (xO _ _ _ _ _ _) rfl hl.1 rfl (Nat.le_of_ble_eq_true rfl) ⟨Nat.zero_le _, Nat.zero_le _⟩ dX1_restartTimer_2 (fun H locs hP hD hS => ?_)
    refine lv_astore_nN (lv' := [(2, .null), (0, .ref (ad 0)), (1, .int x)]) hx hb dX1_restartTimer_5 rfl hl (by decide) rfl (fun ls hl => ?_)
    refine lv_aload_nN hx hb dX1_restartTimer_6 rfl (lv_at hl 0 rfl) ?_
    refine lv_ifnonnullN hx hb dX1_restartTimer_7 ?_
    refine lv_iconst (v := -1) hx hb dX1_restartTimer_10 (by decide) ?_
    refine lv_goto (tgt := 18) hx hb dX1_restartTimer_11 (by decide) ?_
    exact k_iret hx hb hr hlk hP hS hAe (by rw [if_neg hp]) rfl dX1_restartTimer_18

set_option maxRecDepth 100000 in
set_option maxHeartbeats 4000000 in
theorem c_X1_staleTimer (l : Launch) (D : va_G) (cI cZ cP : ClassId) (ad : Nat → Nat) (pd : Nat → Nat → Nat) (S : ST) (x : Int32) (hn : g_N S ≤ 5) : MM l yX1_staleTimer wsX1_staleTimer ({ frames := 1, cells := 0, slots := 0, locals := 21 }) D (kTy cI cZ cP) [.ref (ad 0), .int x] (xW cI cZ cP ad pd S) (some (.int (if okP (g_N S) x then g_Sl S (kx x) else -1))) (xW cI cZ cP ad pd S) := by
  refine MM.ofW (cc := cX1_staleTimer) (maxL := 3) (ret := (some .int)) (by decide) rfl (Nat.le_of_ble_eq_true rfl) ?_
  intro p e s m below meth c ls A hx hb hr hlk hml hts hown hK hN hP hD hS hAe hl
  have hown : s.vm.findClass RX1 = some m.cls := hown
  have hi0 : ∀ w ∈ wsX00, w ∈ wsX1_staleTimer := fun w h => List.mem_cons_of_mem _ (List.mem_append_left _ (List.mem_append_right _ h))
  have hi1 : ∀ w ∈ wsX10, w ∈ wsX1_staleTimer := fun w h => List.mem_cons_of_mem _ (List.mem_append_right _ h)
  have hl : lv_has ls 3 [(0, .ref (ad 0)), (1, .int x)] := hl
  refine lv_aload_n hx hb dX1_staleTimer_0 rfl (lv_at hl 0 rfl) ?_
  refine lv_iload_n hx hb dX1_staleTimer_1 rfl (lv_at hl 1 rfl) ?_
  by_cases hp : okP (g_N S) x
  · obtain ⟨k, hk, rfl⟩ := okP_nat hn hp
    have hk5 : k < 5 := by omega
    have kxe : kx (nI k) = k := kx_n (by omega)
    refine kV (As := [.int (nI k)]) (rest := []) (Wc := (xW cI cZ cP ad pd S)) (Wc1 := (xW cI cZ cP ad pd S)) (Wd1 := (xW cI cZ cP ad pd S)) (o := some (.ref (pd k 0))) ⟨hx, hb, hml, hown, hts⟩ (c_X1_findPeer_ok l D cI cZ cP ad pd S k hn hk) (cwV 1 hts gX1_staleTimer_X1_findPeer rfl rfl rfl (by decide +kernel) ⟨Nat.le_of_ble_eq_true rfl, Nat.le_of_ble_eq_true rfl⟩) hK hN hP hD hS (fun j => j) (fun _ _ h => h) (fun _ _ _ _ h => h) (xW_adr rfl) (fun k q h => Or.inl ⟨k, h⟩) 0 1 rfl rfl (xO _ _ _ _ _ _) rfl hl.1 rfl (Nat.le_of_ble_eq_true rfl) ⟨Nat.zero_le _, Nat.zero_le _⟩ dX1_staleTimer_2 (fun H locs hP hD hS => ?_)
    refine lv_astore_n (lv' := [(2, .ref (pd k 0)), (0, .ref (ad 0)), (1, .int (nI k))]) hx hb dX1_staleTimer_5 rfl hl (by decide) rfl (fun ls hl => ?_)
    refine lv_aload_n hx hb dX1_staleTimer_6 rfl (lv_at hl 0 rfl) ?_
    refine lv_ifnonnull (tgt := 14) hx hb dX1_staleTimer_7 (by decide) ?_
    refine lv_aload_n hx hb dX1_staleTimer_14 rfl (lv_at hl 0 rfl) ?_
    refine va_getN (D := D) (ci := 0) (v := .int ((g_Sl S) k)) (C := RX0) (T := TX0) (N := 8) hx hb hts hi0 hown hK hP (4 + (4 * k + 0)) (yO _ _ _ _ _ _ (by omega)) rfl 6 (by decide) (va_Nw.use rfl (hN (.fieldLinkNest RX1 110 RX0 "staleLeft" "I" RX1) (List.mem_of_getElem? (i := 5) rfl))) (fun _ h9 => h9) (yV_6 _ _ _) dX1_staleTimer_15 ?_
    exact k_iret hx hb hr hlk hP hS hAe (by rw [if_pos hp, kxe]) rfl dX1_staleTimer_18
  · refine kV (As := [.int x]) (rest := []) (Wc := (xW cI cZ cP ad pd S)) (Wc1 := (xW cI cZ cP ad pd S)) (Wd1 := (xW cI cZ cP ad pd S)) (o := some (.null)) ⟨hx, hb, hml, hown, hts⟩ (c_X1_findPeer_no l D cI cZ cP ad pd S x hn hp) (cwV 1 hts gX1_staleTimer_X1_findPeer rfl rfl rfl (by decide +kernel) ⟨Nat.le_of_ble_eq_true rfl, Nat.le_of_ble_eq_true rfl⟩) hK hN hP hD hS (fun j => j) (fun _ _ h => h) (fun _ _ _ _ h => h) (xW_adr rfl) (fun k q h => Or.inl ⟨k, h⟩) 0 1 rfl rfl (xO _ _ _ _ _ _) rfl hl.1 rfl (Nat.le_of_ble_eq_true rfl) ⟨Nat.zero_le _, Nat.zero_le _⟩ dX1_staleTimer_2 (fun H locs hP hD hS => ?_)
    refine lv_astore_nN (lv' := [(2, .null), (0, .ref (ad 0)), (1, .int x)]) hx hb dX1_staleTimer_5 rfl hl (by decide) rfl (fun ls hl => ?_)
    refine lv_aload_nN hx hb dX1_staleTimer_6 rfl (lv_at hl 0 rfl) ?_
    refine lv_ifnonnullN hx hb dX1_staleTimer_7 ?_
    refine lv_iconst (v := -1) hx hb dX1_staleTimer_10 (by decide) ?_
    refine lv_goto (tgt := 18) hx hb dX1_staleTimer_11 (by decide) ?_
    exact k_iret hx hb hr hlk hP hS hAe (by rw [if_neg hp]) rfl dX1_staleTimer_18

set_option maxRecDepth 100000 in
set_option maxHeartbeats 4000000 in
theorem c_X1_learnedLength (l : Launch) (D : va_G) (cI cZ cP : ClassId) (ad : Nat → Nat) (pd : Nat → Nat → Nat) (S : ST) (x t f : Int32) (hn : g_N S ≤ 5) : MM l yX1_learnedLength wsX1_learnedLength ({ frames := 1, cells := 0, slots := 0, locals := 21 }) D (kTy cI cZ cP) [.ref (ad 0), .int x, .int t, .int f] (xW cI cZ cP ad pd S) (some (.int (q_LL S x t f))) (xW cI cZ cP ad pd S) := by
  refine MM.ofW (cc := cX1_learnedLength) (maxL := 7) (ret := (some .int)) (by decide) rfl (Nat.le_of_ble_eq_true rfl) ?_
  intro p e s m below meth c ls A hx hb hr hlk hml hts hown hK hN hP hD hS hAe hl
  have hown : s.vm.findClass RX1 = some m.cls := hown
  have hi0 : ∀ w ∈ wsX00, w ∈ wsX1_learnedLength := fun w h => List.mem_cons_of_mem _ (List.mem_append_left _ (List.mem_append_right _ h))
  have hi1 : ∀ w ∈ wsX10, w ∈ wsX1_learnedLength := fun w h => List.mem_cons_of_mem _ (List.mem_append_right _ h)
  have hl : lv_has ls 7 [(0, .ref (ad 0)), (1, .int x), (2, .int t), (3, .int f)] := hl
  refine lv_aload_n hx hb dX1_learnedLength_0 rfl (lv_at hl 0 rfl) ?_
  refine lv_iload_n hx hb dX1_learnedLength_1 rfl (lv_at hl 1 rfl) ?_
  by_cases hp : okP (g_N S) x
  · obtain ⟨k, hk, rfl⟩ := okP_nat hn hp
    have hk5 : k < 5 := by omega
    have kxe : kx (nI k) = k := kx_n (by omega)
    refine kV (As := [.int (nI k)]) (rest := []) (Wc := (xW cI cZ cP ad pd S)) (Wc1 := (xW cI cZ cP ad pd S)) (Wd1 := (xW cI cZ cP ad pd S)) (o := some (.ref (pd k 0))) ⟨hx, hb, hml, hown, hts⟩ (c_X1_findPeer_ok l D cI cZ cP ad pd S k hn hk) (cwV 1 hts gX1_learnedLength_X1_findPeer rfl rfl rfl (by decide +kernel) ⟨Nat.le_of_ble_eq_true rfl, Nat.le_of_ble_eq_true rfl⟩) hK hN hP hD hS (fun j => j) (fun _ _ h => h) (fun _ _ _ _ h => h) (xW_adr rfl) (fun k q h => Or.inl ⟨k, h⟩) 0 1 rfl rfl (xO _ _ _ _ _ _) rfl hl.1 rfl (Nat.le_of_ble_eq_true rfl) ⟨Nat.zero_le _, Nat.zero_le _⟩ dX1_learnedLength_2 (fun H locs hP hD hS => ?_)
    refine lv_astore (lv' := [(4, .ref (pd k 0)), (0, .ref (ad 0)), (1, .int (nI k)), (2, .int t), (3, .int f)]) hx hb dX1_learnedLength_5 hl (by decide) rfl (fun ls hl => ?_)
    refine lv_aload hx hb dX1_learnedLength_7 (lv_at hl 0 rfl) ?_
    refine lv_ifnonnull (tgt := 14) hx hb dX1_learnedLength_9 (by decide) ?_
    refine lv_iload_n hx hb dX1_learnedLength_14 rfl (lv_at hl 3 rfl) ?_
    refine lv_iload_n hx hb dX1_learnedLength_15 rfl (lv_at hl 4 rfl) ?_
    by_cases hr9 : okR t f
    · obtain ⟨a9, b9, ha9, hb9, rfl, rfl⟩ := okR_nat hr9
      have rxe : rx (nI a9) (nI b9) = 8 * a9 + b9 := rx_n (by omega) (by omega)
      have hr16 : 8 * a9 + b9 < 16 := by omega
      refine kS0 (As := [.int (nI a9), .int (nI b9)]) (rest := []) (o := some (.int (if okR (nI a9) (nI b9) then nI (rx (nI a9) (nI b9)) else -1))) ⟨hx, hb, hml, hown, hts⟩ (c_X1_routeOf l D cI cZ cP (nI a9) (nI b9)) (va_cwS 2 hts gX1_learnedLength_X1_routeOf rfl rfl rfl (by decide +kernel) ⟨Nat.le_of_ble_eq_true rfl, Nat.le_of_ble_eq_true rfl⟩) hK hN hP hD hS rfl hl.1 rfl (Nat.le_of_ble_eq_true rfl) ⟨Nat.zero_le _, Nat.zero_le _⟩ dX1_learnedLength_16 (fun H locs hP hD hS => ?_)
      refine k_top (y := nI (8 * a9 + b9)) (by rw [if_pos hr9, rxe]) ?_
      refine lv_istore (lv' := [(5, .int (nI (8 * a9 + b9))), (4, .ref (pd k 0)), (0, .ref (ad 0)), (1, .int (nI k)), (2, .int (nI a9)), (3, .int (nI b9))]) hx hb dX1_learnedLength_19 hl (by decide) rfl (fun ls hl => ?_)
      refine lv_iload hx hb dX1_learnedLength_21 (lv_at hl 0 rfl) ?_
      refine lv_if_ge (tgt := 29) hx hb dX1_learnedLength_23 (by decide) (fun _ => ?_) (fun c_ => absurd (nI_pos' (by omega)) c_)
      refine lv_aload hx hb dX1_learnedLength_29 (lv_at hl 1 rfl) ?_
      refine va_getN (D := D) (ci := 0) (v := .ref (pd k 2)) (C := RX0) (T := TX0) (N := 8) hx hb hts hi0 hown hK hP (4 + (4 * k + 0)) (yO _ _ _ _ _ _ (by omega)) rfl 2 (by decide) (va_Nw.use rfl (hN (.fieldLinkNest RX1 113 RX0 "learned" "[I" RX1) (List.mem_of_getElem? (i := 1) rfl))) (fun _ h9 => h9) (yV_2 _ _ _) dX1_learnedLength_31 ?_
      refine lv_iload hx hb dX1_learnedLength_34 (lv_at hl 0 rfl) ?_
      refine k_iald (k := 8 * a9 + b9) hx hb hK hP (4 + (4 * k + 2)) 0 (yG_Le _ _ _ _ _ _ (by omega)) rfl rfl (by omega) (by decide) dX1_learnedLength_36 ?_
      refine lv_istore (lv' := [(6, .int ((g_Le S) k (8 * a9 + b9))), (5, .int (nI (8 * a9 + b9))), (4, .ref (pd k 0)), (0, .ref (ad 0)), (1, .int (nI k)), (2, .int (nI a9)), (3, .int (nI b9))]) hx hb dX1_learnedLength_37 hl (by decide) rfl (fun ls hl => ?_)
      refine lv_iload hx hb dX1_learnedLength_39 (lv_at hl 0 rfl) ?_
      refine lv_if_ne (tgt := 49) hx hb dX1_learnedLength_41 (by decide) (fun c_41 => ?_) (fun c_41 => ?_)
      · refine lv_iload hx hb dX1_learnedLength_49 (lv_at hl 0 rfl) ?_
        exact k_iret hx hb hr hlk hP hS hAe (by rw [q_LL, if_pos hp, if_pos hr9, kxe, rxe]; simp [c_41]) rfl dX1_learnedLength_51
      · refine lv_bipush (v := -6) hx hb dX1_learnedLength_44 (by decide) ?_
        refine lv_goto (tgt := 51) hx hb dX1_learnedLength_46 (by decide) ?_
        exact k_iret hx hb hr hlk hP hS hAe (by rw [q_LL, if_pos hp, if_pos hr9, kxe, rxe]; simp [c_41]) rfl dX1_learnedLength_51
    · refine kS0 (As := [.int t, .int f]) (rest := []) (o := some (.int (if okR t f then nI (rx t f) else -1))) ⟨hx, hb, hml, hown, hts⟩ (c_X1_routeOf l D cI cZ cP t f) (va_cwS 2 hts gX1_learnedLength_X1_routeOf rfl rfl rfl (by decide +kernel) ⟨Nat.le_of_ble_eq_true rfl, Nat.le_of_ble_eq_true rfl⟩) hK hN hP hD hS rfl hl.1 rfl (Nat.le_of_ble_eq_true rfl) ⟨Nat.zero_le _, Nat.zero_le _⟩ dX1_learnedLength_16 (fun H locs hP hD hS => ?_)
      refine k_top (y := -1) (if_neg hr9) ?_
      refine lv_istore (lv' := [(5, .int (-1)), (4, .ref (pd k 0)), (0, .ref (ad 0)), (1, .int (nI k)), (2, .int t), (3, .int f)]) hx hb dX1_learnedLength_19 hl (by decide) rfl (fun ls hl => ?_)
      refine lv_iload hx hb dX1_learnedLength_21 (lv_at hl 0 rfl) ?_
      refine lv_if_ge (tgt := 29) hx hb dX1_learnedLength_23 (by decide) (fun c_ => absurd c_ (by decide)) (fun _ => ?_)
      refine lv_bipush (v := -2) hx hb dX1_learnedLength_26 (by decide) ?_
      exact k_iret hx hb hr hlk hP hS hAe (by rw [q_LL, if_pos hp, if_neg hr9]) rfl dX1_learnedLength_28
  · refine kV (As := [.int x]) (rest := []) (Wc := (xW cI cZ cP ad pd S)) (Wc1 := (xW cI cZ cP ad pd S)) (Wd1 := (xW cI cZ cP ad pd S)) (o := some (.null)) ⟨hx, hb, hml, hown, hts⟩ (c_X1_findPeer_no l D cI cZ cP ad pd S x hn hp) (cwV 1 hts gX1_learnedLength_X1_findPeer rfl rfl rfl (by decide +kernel) ⟨Nat.le_of_ble_eq_true rfl, Nat.le_of_ble_eq_true rfl⟩) hK hN hP hD hS (fun j => j) (fun _ _ h => h) (fun _ _ _ _ h => h) (xW_adr rfl) (fun k q h => Or.inl ⟨k, h⟩) 0 1 rfl rfl (xO _ _ _ _ _ _) rfl hl.1 rfl (Nat.le_of_ble_eq_true rfl) ⟨Nat.zero_le _, Nat.zero_le _⟩ dX1_learnedLength_2 (fun H locs hP hD hS => ?_)
    refine lv_astoreN (lv' := [(4, .null), (0, .ref (ad 0)), (1, .int x), (2, .int t), (3, .int f)]) hx hb dX1_learnedLength_5 hl (by decide) rfl (fun ls hl => ?_)
    refine lv_aloadN hx hb dX1_learnedLength_7 (lv_at hl 0 rfl) ?_
    refine lv_ifnonnullN hx hb dX1_learnedLength_9 ?_
    refine lv_iconst (v := -1) hx hb dX1_learnedLength_12 (by decide) ?_
    exact k_iret hx hb hr hlk hP hS hAe (by rw [q_LL, if_neg hp]) rfl dX1_learnedLength_13

set_option maxRecDepth 100000 in
set_option maxHeartbeats 4000000 in
theorem c_X1_isLearnedStale (l : Launch) (D : va_G) (cI cZ cP : ClassId) (ad : Nat → Nat) (pd : Nat → Nat → Nat) (S : ST) (x t f : Int32) (hn : g_N S ≤ 5) : MM l yX1_isLearnedStale wsX1_isLearnedStale ({ frames := 1, cells := 0, slots := 0, locals := 21 }) D (kTy cI cZ cP) [.ref (ad 0), .int x, .int t, .int f] (xW cI cZ cP ad pd S) (some (.int (q_LS S x t f))) (xW cI cZ cP ad pd S) := by
  refine MM.ofW (cc := cX1_isLearnedStale) (maxL := 6) (ret := (some .int)) (by decide) rfl (Nat.le_of_ble_eq_true rfl) ?_
  intro p e s m below meth c ls A hx hb hr hlk hml hts hown hK hN hP hD hS hAe hl
  have hown : s.vm.findClass RX1 = some m.cls := hown
  have hi0 : ∀ w ∈ wsX00, w ∈ wsX1_isLearnedStale := fun w h => List.mem_cons_of_mem _ (List.mem_append_left _ (List.mem_append_right _ h))
  have hi1 : ∀ w ∈ wsX10, w ∈ wsX1_isLearnedStale := fun w h => List.mem_cons_of_mem _ (List.mem_append_right _ h)
  have hl : lv_has ls 6 [(0, .ref (ad 0)), (1, .int x), (2, .int t), (3, .int f)] := hl
  refine lv_aload_n hx hb dX1_isLearnedStale_0 rfl (lv_at hl 0 rfl) ?_
  refine lv_iload_n hx hb dX1_isLearnedStale_1 rfl (lv_at hl 1 rfl) ?_
  by_cases hp : okP (g_N S) x
  · obtain ⟨k, hk, rfl⟩ := okP_nat hn hp
    have hk5 : k < 5 := by omega
    have kxe : kx (nI k) = k := kx_n (by omega)
    refine kV (As := [.int (nI k)]) (rest := []) (Wc := (xW cI cZ cP ad pd S)) (Wc1 := (xW cI cZ cP ad pd S)) (Wd1 := (xW cI cZ cP ad pd S)) (o := some (.ref (pd k 0))) ⟨hx, hb, hml, hown, hts⟩ (c_X1_findPeer_ok l D cI cZ cP ad pd S k hn hk) (cwV 1 hts gX1_isLearnedStale_X1_findPeer rfl rfl rfl (by decide +kernel) ⟨Nat.le_of_ble_eq_true rfl, Nat.le_of_ble_eq_true rfl⟩) hK hN hP hD hS (fun j => j) (fun _ _ h => h) (fun _ _ _ _ h => h) (xW_adr rfl) (fun k q h => Or.inl ⟨k, h⟩) 0 1 rfl rfl (xO _ _ _ _ _ _) rfl hl.1 rfl (Nat.le_of_ble_eq_true rfl) ⟨Nat.zero_le _, Nat.zero_le _⟩ dX1_isLearnedStale_2 (fun H locs hP hD hS => ?_)
    refine lv_astore (lv' := [(4, .ref (pd k 0)), (0, .ref (ad 0)), (1, .int (nI k)), (2, .int t), (3, .int f)]) hx hb dX1_isLearnedStale_5 hl (by decide) rfl (fun ls hl => ?_)
    refine lv_aload hx hb dX1_isLearnedStale_7 (lv_at hl 0 rfl) ?_
    refine lv_ifnonnull (tgt := 14) hx hb dX1_isLearnedStale_9 (by decide) ?_
    refine lv_iload_n hx hb dX1_isLearnedStale_14 rfl (lv_at hl 3 rfl) ?_
    refine lv_iload_n hx hb dX1_isLearnedStale_15 rfl (lv_at hl 4 rfl) ?_
    by_cases hr9 : okR t f
    · obtain ⟨a9, b9, ha9, hb9, rfl, rfl⟩ := okR_nat hr9
      have rxe : rx (nI a9) (nI b9) = 8 * a9 + b9 := rx_n (by omega) (by omega)
      have hr16 : 8 * a9 + b9 < 16 := by omega
      refine kS0 (As := [.int (nI a9), .int (nI b9)]) (rest := []) (o := some (.int (if okR (nI a9) (nI b9) then nI (rx (nI a9) (nI b9)) else -1))) ⟨hx, hb, hml, hown, hts⟩ (c_X1_routeOf l D cI cZ cP (nI a9) (nI b9)) (va_cwS 2 hts gX1_isLearnedStale_X1_routeOf rfl rfl rfl (by decide +kernel) ⟨Nat.le_of_ble_eq_true rfl, Nat.le_of_ble_eq_true rfl⟩) hK hN hP hD hS rfl hl.1 rfl (Nat.le_of_ble_eq_true rfl) ⟨Nat.zero_le _, Nat.zero_le _⟩ dX1_isLearnedStale_16 (fun H locs hP hD hS => ?_)
      refine k_top (y := nI (8 * a9 + b9)) (by rw [if_pos hr9, rxe]) ?_
      refine lv_istore (lv' := [(5, .int (nI (8 * a9 + b9))), (4, .ref (pd k 0)), (0, .ref (ad 0)), (1, .int (nI k)), (2, .int (nI a9)), (3, .int (nI b9))]) hx hb dX1_isLearnedStale_19 hl (by decide) rfl (fun ls hl => ?_)
      refine lv_iload hx hb dX1_isLearnedStale_21 (lv_at hl 0 rfl) ?_
      refine lv_if_ge (tgt := 29) hx hb dX1_isLearnedStale_23 (by decide) (fun _ => ?_) (fun c_ => absurd (nI_pos' (by omega)) c_)
      refine lv_aload hx hb dX1_isLearnedStale_29 (lv_at hl 1 rfl) ?_
      refine va_getN (D := D) (ci := 0) (v := .ref (pd k 2)) (C := RX0) (T := TX0) (N := 8) hx hb hts hi0 hown hK hP (4 + (4 * k + 0)) (yO _ _ _ _ _ _ (by omega)) rfl 2 (by decide) (va_Nw.use rfl (hN (.fieldLinkNest RX1 113 RX0 "learned" "[I" RX1) (List.mem_of_getElem? (i := 1) rfl))) (fun _ h9 => h9) (yV_2 _ _ _) dX1_isLearnedStale_31 ?_
      refine lv_iload hx hb dX1_isLearnedStale_34 (lv_at hl 0 rfl) ?_
      refine k_iald (k := 8 * a9 + b9) hx hb hK hP (4 + (4 * k + 2)) 0 (yG_Le _ _ _ _ _ _ (by omega)) rfl rfl (by omega) (by decide) dX1_isLearnedStale_36 ?_
      refine lv_if_ne (tgt := 43) hx hb dX1_isLearnedStale_37 (by decide) (fun c_37 => ?_) (fun c_37 => ?_)
      · refine lv_aload hx hb dX1_isLearnedStale_43 (lv_at hl 1 rfl) ?_
        refine va_getN (D := D) (ci := 0) (v := .ref (pd k 3)) (C := RX0) (T := TX0) (N := 8) hx hb hts hi0 hown hK hP (4 + (4 * k + 0)) (yO _ _ _ _ _ _ (by omega)) rfl 3 (by decide) (va_Nw.use rfl (hN (.fieldLinkNest RX1 116 RX0 "staleLearned" "[Z" RX1) (List.mem_of_getElem? (i := 2) rfl))) (fun _ h9 => h9) (yV_3 _ _ _) dX1_isLearnedStale_45 ?_
        refine lv_iload hx hb dX1_isLearnedStale_48 (lv_at hl 0 rfl) ?_
        refine k_zald (k := 8 * a9 + b9) hx hb hK hP (4 + (4 * k + 3)) 1 (yG_Ss _ _ _ _ _ _ (by omega)) rfl rfl (by omega) (by decide) dX1_isLearnedStale_50 ?_
        refine lv_if_eq (tgt := 58) hx hb dX1_isLearnedStale_51 (by decide) (fun c_51 => ?_) (fun c_51 => ?_)
        · refine lv_iconst (v := 0) hx hb dX1_isLearnedStale_58 (by decide) ?_
          exact k_iret hx hb hr hlk hP hS hAe (by rw [q_LS, if_pos hp, if_pos hr9, kxe, rxe]; simp [c_37, c_51]) rfl dX1_isLearnedStale_59
        · refine lv_iconst (v := 1) hx hb dX1_isLearnedStale_54 (by decide) ?_
          refine lv_goto (tgt := 59) hx hb dX1_isLearnedStale_55 (by decide) ?_
          exact k_iret hx hb hr hlk hP hS hAe (by rw [q_LS, if_pos hp, if_pos hr9, kxe, rxe]; simp [c_37, c_51]) rfl dX1_isLearnedStale_59
      · refine lv_bipush (v := -6) hx hb dX1_isLearnedStale_40 (by decide) ?_
        exact k_iret hx hb hr hlk hP hS hAe (by rw [q_LS, if_pos hp, if_pos hr9, kxe, rxe]; simp [c_37]) rfl dX1_isLearnedStale_42
    · refine kS0 (As := [.int t, .int f]) (rest := []) (o := some (.int (if okR t f then nI (rx t f) else -1))) ⟨hx, hb, hml, hown, hts⟩ (c_X1_routeOf l D cI cZ cP t f) (va_cwS 2 hts gX1_isLearnedStale_X1_routeOf rfl rfl rfl (by decide +kernel) ⟨Nat.le_of_ble_eq_true rfl, Nat.le_of_ble_eq_true rfl⟩) hK hN hP hD hS rfl hl.1 rfl (Nat.le_of_ble_eq_true rfl) ⟨Nat.zero_le _, Nat.zero_le _⟩ dX1_isLearnedStale_16 (fun H locs hP hD hS => ?_)
      refine k_top (y := -1) (if_neg hr9) ?_
      refine lv_istore (lv' := [(5, .int (-1)), (4, .ref (pd k 0)), (0, .ref (ad 0)), (1, .int (nI k)), (2, .int t), (3, .int f)]) hx hb dX1_isLearnedStale_19 hl (by decide) rfl (fun ls hl => ?_)
      refine lv_iload hx hb dX1_isLearnedStale_21 (lv_at hl 0 rfl) ?_
      refine lv_if_ge (tgt := 29) hx hb dX1_isLearnedStale_23 (by decide) (fun c_ => absurd c_ (by decide)) (fun _ => ?_)
      refine lv_bipush (v := -2) hx hb dX1_isLearnedStale_26 (by decide) ?_
      exact k_iret hx hb hr hlk hP hS hAe (by rw [q_LS, if_pos hp, if_neg hr9]) rfl dX1_isLearnedStale_28
  · refine kV (As := [.int x]) (rest := []) (Wc := (xW cI cZ cP ad pd S)) (Wc1 := (xW cI cZ cP ad pd S)) (Wd1 := (xW cI cZ cP ad pd S)) (o := some (.null)) ⟨hx, hb, hml, hown, hts⟩ (c_X1_findPeer_no l D cI cZ cP ad pd S x hn hp) (cwV 1 hts gX1_isLearnedStale_X1_findPeer rfl rfl rfl (by decide +kernel) ⟨Nat.le_of_ble_eq_true rfl, Nat.le_of_ble_eq_true rfl⟩) hK hN hP hD hS (fun j => j) (fun _ _ h => h) (fun _ _ _ _ h => h) (xW_adr rfl) (fun k q h => Or.inl ⟨k, h⟩) 0 1 rfl rfl (xO _ _ _ _ _ _) rfl hl.1 rfl (Nat.le_of_ble_eq_true rfl) ⟨Nat.zero_le _, Nat.zero_le _⟩ dX1_isLearnedStale_2 (fun H locs hP hD hS => ?_)
    refine lv_astoreN (lv' := [(4, .null), (0, .ref (ad 0)), (1, .int x), (2, .int t), (3, .int f)]) hx hb dX1_isLearnedStale_5 hl (by decide) rfl (fun ls hl => ?_)
    refine lv_aloadN hx hb dX1_isLearnedStale_7 (lv_at hl 0 rfl) ?_
    refine lv_ifnonnullN hx hb dX1_isLearnedStale_9 ?_
    refine lv_iconst (v := -1) hx hb dX1_isLearnedStale_12 (by decide) ?_
    exact k_iret hx hb hr hlk hP hS hAe (by rw [q_LS, if_neg hp]) rfl dX1_isLearnedStale_13

set_option maxRecDepth 100000 in
set_option maxHeartbeats 4000000 in
theorem c_X1_followPacket (l : Launch) (D : va_G) (cI cZ cP : ClassId) (ad : Nat → Nat) (pd : Nat → Nat → Nat) (S : ST) (k r9 : Nat) (hk : k < g_N S) (hr9 : r9 < 16) : MM l yX1_followPacket wsX1_followPacket ({ frames := 0, cells := 0, slots := 0, locals := 0 }) D (kTy cI cZ cP) [.ref (ad 0), .ref (pd k 0), .int (nI k), .int (nI r9)] (xW cI cZ cP ad pd S) (some (.int (o_Fw S k r9))) (xW cI cZ cP ad pd S) := by
  refine MM.ofW (cc := cX1_followPacket) (maxL := 5) (ret := (some .int)) (by decide) rfl (Nat.le_of_ble_eq_true rfl) ?_
  intro p e s m below meth c ls A hx hb hr hlk hml hts hown hK hN hP hD hS hAe hl
  have hown : s.vm.findClass RX1 = some m.cls := hown
  have hi0 : ∀ w ∈ wsX00, w ∈ wsX1_followPacket := fun w h => List.mem_cons_of_mem _ (List.mem_append_left _ (List.mem_append_right _ h))
  have hi1 : ∀ w ∈ wsX10, w ∈ wsX1_followPacket := fun w h => List.mem_cons_of_mem _ (List.mem_append_right _ h)
  have hl : lv_has ls 5 [(0, .ref (ad 0)), (1, .ref (pd k 0)), (2, .int (nI k)), (3, .int (nI r9))] := hl
  refine lv_aload_n hx hb dX1_followPacket_0 rfl (lv_at hl 1 rfl) ?_
  refine va_getN (D := D) (ci := 0) (v := .ref (pd k 2)) (C := RX0) (T := TX0) (N := 8) hx hb hts hi0 hown hK hP (4 + (4 * k + 0)) (yO _ _ _ _ _ _ (by omega)) rfl 2 (by decide) (va_Nw.use rfl (hN (.fieldLinkNest RX1 113 RX0 "learned" "[I" RX1) (List.mem_of_getElem? (i := 1) rfl))) (fun _ h9 => h9) (yV_2 _ _ _) dX1_followPacket_1 ?_
  refine lv_iload_n hx hb dX1_followPacket_4 rfl (lv_at hl 3 rfl) ?_
  refine k_iald (k := r9) hx hb hK hP (4 + (4 * k + 2)) 0 (yG_Le _ _ _ _ _ _ (by omega)) rfl rfl (by omega) (by decide) dX1_followPacket_5 ?_
  refine lv_if_ne (tgt := 12) hx hb dX1_followPacket_6 (by decide) (fun c_6 => ?_) (fun c_6 => ?_)
  · refine lv_aload_n hx hb dX1_followPacket_12 rfl (lv_at hl 0 rfl) ?_
    refine va_get (D := D) (ci := 1) (v := .ref (ad 2)) (C := RX1) (T := TX1) (N := 9) hx hb hts hi1 hown hK hP 0 (xO _ _ _ _ _ _) rfl 1 (by decide) (hts (.fieldLink RX1 15 "GracefulRestart" "hops" "[I") (List.mem_of_getElem? (i := 1) rfl)) (fun _ h9 => h9) (xV_1 _ _) dX1_followPacket_13 ?_
    refine lv_iload_n hx hb dX1_followPacket_16 rfl (lv_at hl 3 rfl) ?_
    refine k_iald (k := r9) hx hb hK hP 2 0 (xG_Ho _ _ _ _ _ _) rfl rfl (by omega) (by decide) dX1_followPacket_17 ?_
    refine lv_istore (lv' := [(4, .int ((g_Ho S) r9)), (0, .ref (ad 0)), (1, .ref (pd k 0)), (2, .int (nI k)), (3, .int (nI r9))]) hx hb dX1_followPacket_18 hl (by decide) rfl (fun ls hl => ?_)
    refine lv_iload hx hb dX1_followPacket_20 (lv_at hl 0 rfl) ?_
    refine lv_bipush (v := -6) hx hb dX1_followPacket_22 (by decide) ?_
    refine lv_icmp_ne (tgt := 30) hx hb dX1_followPacket_24 (by decide) (fun c_24 => ?_) (fun c_24 => ?_)
    · refine lv_iload hx hb dX1_followPacket_30 (lv_at hl 0 rfl) ?_
      refine lv_iload_n hx hb dX1_followPacket_32 rfl (lv_at hl 3 rfl) ?_
      refine lv_icmp_ne (tgt := 41) hx hb dX1_followPacket_33 (by decide) (fun c_33 => ?_) (fun c_33 => ?_)
      · refine lv_iload hx hb dX1_followPacket_41 (lv_at hl 0 rfl) ?_
        exact k_iret hx hb hr hlk hP hS hAe (by rw [o_Fw, if_neg c_6, if_neg c_24, if_neg c_33]) rfl dX1_followPacket_43
      · refine lv_bipush (v := -8) hx hb dX1_followPacket_36 (by decide) ?_
        refine lv_goto (tgt := 43) hx hb dX1_followPacket_38 (by decide) ?_
        exact k_iret hx hb hr hlk hP hS hAe (by rw [o_Fw, if_neg c_6, if_neg c_24, if_pos c_33]) rfl dX1_followPacket_43
    · refine lv_bipush (v := -7) hx hb dX1_followPacket_27 (by decide) ?_
      exact k_iret hx hb hr hlk hP hS hAe (by rw [o_Fw, if_neg c_6, if_pos c_24]) rfl dX1_followPacket_29
  · refine lv_bipush (v := -6) hx hb dX1_followPacket_9 (by decide) ?_
    exact k_iret hx hb hr hlk hP hS hAe (by rw [o_Fw, if_pos c_6]) rfl dX1_followPacket_11

set_option maxRecDepth 100000 in
set_option maxHeartbeats 4000000 in
theorem c_X1_forward (l : Launch) (D : va_G) (cI cZ cP : ClassId) (ad : Nat → Nat) (pd : Nat → Nat → Nat) (S : ST) (x t f : Int32) (hn : g_N S ≤ 5) : MM l yX1_forward wsX1_forward ({ frames := 1, cells := 0, slots := 0, locals := 24 }) D (kTy cI cZ cP) [.ref (ad 0), .int x, .int t, .int f] (xW cI cZ cP ad pd S) (some (.int (q_Fw S x t f))) (xW cI cZ cP ad pd S) := by
  refine MM.ofW (cc := cX1_forward) (maxL := 6) (ret := (some .int)) (by decide) rfl (Nat.le_of_ble_eq_true rfl) ?_
  intro p e s m below meth c ls A hx hb hr hlk hml hts hown hK hN hP hD hS hAe hl
  have hown : s.vm.findClass RX1 = some m.cls := hown
  have hi1 : ∀ w ∈ wsX10, w ∈ wsX1_forward := fun w h => List.mem_cons_of_mem _ (List.mem_append_left _ (List.mem_append_right _ h))
  have hi0 : ∀ w ∈ wsX00, w ∈ wsX1_forward := fun w h => List.mem_cons_of_mem _ (List.mem_append_right _ h)
  have hl : lv_has ls 6 [(0, .ref (ad 0)), (1, .int x), (2, .int t), (3, .int f)] := hl
  refine lv_aload_n hx hb dX1_forward_0 rfl (lv_at hl 0 rfl) ?_
  refine lv_iload_n hx hb dX1_forward_1 rfl (lv_at hl 1 rfl) ?_
  by_cases hp : okP (g_N S) x
  · obtain ⟨k, hk, rfl⟩ := okP_nat hn hp
    have hk5 : k < 5 := by omega
    have kxe : kx (nI k) = k := kx_n (by omega)
    refine kV (As := [.int (nI k)]) (rest := []) (Wc := (xW cI cZ cP ad pd S)) (Wc1 := (xW cI cZ cP ad pd S)) (Wd1 := (xW cI cZ cP ad pd S)) (o := some (.ref (pd k 0))) ⟨hx, hb, hml, hown, hts⟩ (c_X1_findPeer_ok l D cI cZ cP ad pd S k hn hk) (cwV 1 hts gX1_forward_X1_findPeer rfl rfl rfl (by decide +kernel) ⟨Nat.le_of_ble_eq_true rfl, Nat.le_of_ble_eq_true rfl⟩) hK hN hP hD hS (fun j => j) (fun _ _ h => h) (fun _ _ _ _ h => h) (xW_adr rfl) (fun k q h => Or.inl ⟨k, h⟩) 0 1 rfl rfl (xO _ _ _ _ _ _) rfl hl.1 rfl (Nat.le_of_ble_eq_true rfl) ⟨Nat.zero_le _, Nat.zero_le _⟩ dX1_forward_2 (fun H locs hP hD hS => ?_)
    refine lv_astore (lv' := [(4, .ref (pd k 0)), (0, .ref (ad 0)), (1, .int (nI k)), (2, .int t), (3, .int f)]) hx hb dX1_forward_5 hl (by decide) rfl (fun ls hl => ?_)
    refine lv_aload hx hb dX1_forward_7 (lv_at hl 0 rfl) ?_
    refine lv_ifnonnull (tgt := 14) hx hb dX1_forward_9 (by decide) ?_
    refine lv_iload_n hx hb dX1_forward_14 rfl (lv_at hl 3 rfl) ?_
    refine lv_iload_n hx hb dX1_forward_15 rfl (lv_at hl 4 rfl) ?_
    by_cases hr9 : okR t f
    · obtain ⟨a9, b9, ha9, hb9, rfl, rfl⟩ := okR_nat hr9
      have rxe : rx (nI a9) (nI b9) = 8 * a9 + b9 := rx_n (by omega) (by omega)
      have hr16 : 8 * a9 + b9 < 16 := by omega
      refine kS0 (As := [.int (nI a9), .int (nI b9)]) (rest := []) (o := some (.int (if okR (nI a9) (nI b9) then nI (rx (nI a9) (nI b9)) else -1))) ⟨hx, hb, hml, hown, hts⟩ (c_X1_routeOf l D cI cZ cP (nI a9) (nI b9)) (va_cwS 2 hts gX1_forward_X1_routeOf rfl rfl rfl (by decide +kernel) ⟨Nat.le_of_ble_eq_true rfl, Nat.le_of_ble_eq_true rfl⟩) hK hN hP hD hS rfl hl.1 rfl (Nat.le_of_ble_eq_true rfl) ⟨Nat.zero_le _, Nat.zero_le _⟩ dX1_forward_16 (fun H locs hP hD hS => ?_)
      refine k_top (y := nI (8 * a9 + b9)) (by rw [if_pos hr9, rxe]) ?_
      refine lv_istore (lv' := [(5, .int (nI (8 * a9 + b9))), (4, .ref (pd k 0)), (0, .ref (ad 0)), (1, .int (nI k)), (2, .int (nI a9)), (3, .int (nI b9))]) hx hb dX1_forward_19 hl (by decide) rfl (fun ls hl => ?_)
      refine lv_iload hx hb dX1_forward_21 (lv_at hl 0 rfl) ?_
      refine lv_if_ge (tgt := 29) hx hb dX1_forward_23 (by decide) (fun _ => ?_) (fun c_ => absurd (nI_pos' (by omega)) c_)
      refine lv_aload_n hx hb dX1_forward_29 rfl (lv_at hl 2 rfl) ?_
      refine lv_aload hx hb dX1_forward_30 (lv_at hl 1 rfl) ?_
      refine lv_iload_n hx hb dX1_forward_32 rfl (lv_at hl 3 rfl) ?_
      refine lv_iload hx hb dX1_forward_33 (lv_at hl 0 rfl) ?_
      refine kV (As := [.ref (pd k 0), .int (nI k), .int (nI (8 * a9 + b9))]) (rest := []) (Wc := (xW cI cZ cP ad pd S)) (Wc1 := (xW cI cZ cP ad pd S)) (Wd1 := (xW cI cZ cP ad pd S)) (o := some (.int (o_Fw S k (8 * a9 + b9)))) ⟨hx, hb, hml, hown, hts⟩ (c_X1_followPacket l D cI cZ cP ad pd S k (8 * a9 + b9) (by omega) (by omega)) (cwV 3 hts gX1_forward_X1_followPacket rfl rfl rfl (by decide +kernel) ⟨Nat.le_of_ble_eq_true rfl, Nat.le_of_ble_eq_true rfl⟩) hK hN hP hD hS (fun j => j) (fun _ _ h => h) (fun _ _ _ _ h => h) (xW_adr rfl) (fun k q h => Or.inl ⟨k, h⟩) 0 1 rfl rfl (xO _ _ _ _ _ _) rfl hl.1 rfl (Nat.le_of_ble_eq_true rfl) ⟨Nat.zero_le _, Nat.zero_le _⟩ dX1_forward_35 (fun H locs hP hD hS => ?_)
      exact k_iret hx hb hr hlk hP hS hAe (by rw [q_Fw, if_pos hp, if_pos hr9, kxe, rxe]) rfl dX1_forward_38
    · refine kS0 (As := [.int t, .int f]) (rest := []) (o := some (.int (if okR t f then nI (rx t f) else -1))) ⟨hx, hb, hml, hown, hts⟩ (c_X1_routeOf l D cI cZ cP t f) (va_cwS 2 hts gX1_forward_X1_routeOf rfl rfl rfl (by decide +kernel) ⟨Nat.le_of_ble_eq_true rfl, Nat.le_of_ble_eq_true rfl⟩) hK hN hP hD hS rfl hl.1 rfl (Nat.le_of_ble_eq_true rfl) ⟨Nat.zero_le _, Nat.zero_le _⟩ dX1_forward_16 (fun H locs hP hD hS => ?_)
      refine k_top (y := -1) (if_neg hr9) ?_
      refine lv_istore (lv' := [(5, .int (-1)), (4, .ref (pd k 0)), (0, .ref (ad 0)), (1, .int (nI k)), (2, .int t), (3, .int f)]) hx hb dX1_forward_19 hl (by decide) rfl (fun ls hl => ?_)
      refine lv_iload hx hb dX1_forward_21 (lv_at hl 0 rfl) ?_
      refine lv_if_ge (tgt := 29) hx hb dX1_forward_23 (by decide) (fun c_ => absurd c_ (by decide)) (fun _ => ?_)
      refine lv_bipush (v := -2) hx hb dX1_forward_26 (by decide) ?_
      exact k_iret hx hb hr hlk hP hS hAe (by rw [q_Fw, if_pos hp, if_neg hr9]) rfl dX1_forward_28
  · refine kV (As := [.int x]) (rest := []) (Wc := (xW cI cZ cP ad pd S)) (Wc1 := (xW cI cZ cP ad pd S)) (Wd1 := (xW cI cZ cP ad pd S)) (o := some (.null)) ⟨hx, hb, hml, hown, hts⟩ (c_X1_findPeer_no l D cI cZ cP ad pd S x hn hp) (cwV 1 hts gX1_forward_X1_findPeer rfl rfl rfl (by decide +kernel) ⟨Nat.le_of_ble_eq_true rfl, Nat.le_of_ble_eq_true rfl⟩) hK hN hP hD hS (fun j => j) (fun _ _ h => h) (fun _ _ _ _ h => h) (xW_adr rfl) (fun k q h => Or.inl ⟨k, h⟩) 0 1 rfl rfl (xO _ _ _ _ _ _) rfl hl.1 rfl (Nat.le_of_ble_eq_true rfl) ⟨Nat.zero_le _, Nat.zero_le _⟩ dX1_forward_2 (fun H locs hP hD hS => ?_)
    refine lv_astoreN (lv' := [(4, .null), (0, .ref (ad 0)), (1, .int x), (2, .int t), (3, .int f)]) hx hb dX1_forward_5 hl (by decide) rfl (fun ls hl => ?_)
    refine lv_aloadN hx hb dX1_forward_7 (lv_at hl 0 rfl) ?_
    refine lv_ifnonnullN hx hb dX1_forward_9 ?_
    refine lv_iconst (v := -1) hx hb dX1_forward_12 (by decide) ?_
    exact k_iret hx hb hr hlk hP hS hAe (by rw [q_Fw, if_neg hp]) rfl dX1_forward_13

set_option maxRecDepth 100000 in
set_option maxHeartbeats 4000000 in
theorem c_X1_reachableCount (l : Launch) (D : va_G) (cI cZ cP : ClassId) (ad : Nat → Nat) (pd : Nat → Nat → Nat) (S : ST) (x : Int32) (hn : g_N S ≤ 5) : MM l yX1_reachableCount wsX1_reachableCount ({ frames := 1, cells := 0, slots := 0, locals := 24 }) D (kTy cI cZ cP) [.ref (ad 0), .int x] (xW cI cZ cP ad pd S) (some (.int (if okP (g_N S) x then kCnt (p_Fw S (kx x)) 16 else -1))) (xW cI cZ cP ad pd S) := by
  refine MM.ofW (cc := cX1_reachableCount) (maxL := 5) (ret := (some .int)) (by decide) rfl (Nat.le_of_ble_eq_true rfl) ?_
  intro p e s m below meth c ls A hx hb hr hlk hml hts hown hK hN hP hD hS hAe hl
  have hown : s.vm.findClass RX1 = some m.cls := hown
  have hi1 : ∀ w ∈ wsX10, w ∈ wsX1_reachableCount := fun w h => List.mem_cons_of_mem _ (List.mem_append_left _ (List.mem_append_right _ h))
  have hi0 : ∀ w ∈ wsX00, w ∈ wsX1_reachableCount := fun w h => List.mem_cons_of_mem _ (List.mem_append_right _ h)
  have hl : lv_has ls 5 [(0, .ref (ad 0)), (1, .int x)] := hl
  refine lv_aload_n hx hb dX1_reachableCount_0 rfl (lv_at hl 0 rfl) ?_
  refine lv_iload_n hx hb dX1_reachableCount_1 rfl (lv_at hl 1 rfl) ?_
  by_cases hp : okP (g_N S) x
  · obtain ⟨k, hk, rfl⟩ := okP_nat hn hp
    have hk5 : k < 5 := by omega
    have kxe : kx (nI k) = k := kx_n (by omega)
    refine kV (As := [.int (nI k)]) (rest := []) (Wc := (xW cI cZ cP ad pd S)) (Wc1 := (xW cI cZ cP ad pd S)) (Wd1 := (xW cI cZ cP ad pd S)) (o := some (.ref (pd k 0))) ⟨hx, hb, hml, hown, hts⟩ (c_X1_findPeer_ok l D cI cZ cP ad pd S k hn hk) (cwV 1 hts gX1_reachableCount_X1_findPeer rfl rfl rfl (by decide +kernel) ⟨Nat.le_of_ble_eq_true rfl, Nat.le_of_ble_eq_true rfl⟩) hK hN hP hD hS (fun j => j) (fun _ _ h => h) (fun _ _ _ _ h => h) (xW_adr rfl) (fun k q h => Or.inl ⟨k, h⟩) 0 1 rfl rfl (xO _ _ _ _ _ _) rfl hl.1 rfl (Nat.le_of_ble_eq_true rfl) ⟨Nat.zero_le _, Nat.zero_le _⟩ dX1_reachableCount_2 (fun H locs hP hD hS => ?_)
    refine lv_astore_n (lv' := [(2, .ref (pd k 0)), (0, .ref (ad 0)), (1, .int (nI k))]) hx hb dX1_reachableCount_5 rfl hl (by decide) rfl (fun ls hl => ?_)
    refine lv_aload_n hx hb dX1_reachableCount_6 rfl (lv_at hl 0 rfl) ?_
    refine lv_ifnonnull (tgt := 12) hx hb dX1_reachableCount_7 (by decide) ?_
    refine lv_iconst (v := 0) hx hb dX1_reachableCount_12 (by decide) ?_
    refine lv_istore_n (lv' := [(3, .int 0), (2, .ref (pd k 0)), (0, .ref (ad 0)), (1, .int (nI k))]) hx hb dX1_reachableCount_13 rfl hl (by decide) rfl (fun ls hl => ?_)
    refine lv_iconst (v := 0) hx hb dX1_reachableCount_14 (by decide) ?_
    refine lv_istore (lv' := [(4, .int 0), (3, .int 0), (2, .ref (pd k 0)), (0, .ref (ad 0)), (1, .int (nI k))]) hx hb dX1_reachableCount_15 hl (by decide) rfl (fun ls hl => ?_)
    have lp17 : ∀ (n9 i : Nat), i + n9 = 16 → ∀ (H : Heap) (locs : List Loc) (ls : Array Slot), va_P D vwCl (xW cI cZ cP ad pd S) H → va_D A (xW cI cZ cP ad pd S) → va_S A s.heap H locs → lv_has ls 5 [(0, .ref (ad 0)), (1, .int (nI k)), (2, .ref (pd k 0)), (3, .int (kCnt (p_Fw S k) i)), (4, .int (nI i))] → W p l e (headSpec wsX1_reachableCount ({ frames := 1, cells := 0, slots := 0, locals := 24 })).room s m ([.ref (ad 0), .int (nI k)] : List Value).toArray below meth c H locs 0 0 (MQ below (kPost D (xW cI cZ cP ad pd S) (xW cI cZ cP ad pd S) (some (.int (if okP (g_N S) (nI k) then kCnt (p_Fw S (kx (nI k))) 16 else -1)))) ([.ref (ad 0), .int (nI k)] : List Value).toArray s 0 0 (kA (xW cI cZ cP ad pd S))) (F0 m 17 ls []) := by
      intro n9
      induction n9 with
      | zero =>
        intro i hi9 H locs ls hP hD hS hl
        have hi8 : i = 16 := by omega
        subst hi8
        refine lv_iload hx hb dX1_reachableCount_17 (lv_at hl 4 rfl) ?_
        refine lv_bipush (v := 16) hx hb dX1_reachableCount_19 (by decide) ?_
        refine lv_icmp_ge (tgt := 44) hx hb dX1_reachableCount_21 (by decide) (fun _ => ?_) (fun c_ => absurd (by decide) c_)
        refine lv_iload_n hx hb dX1_reachableCount_44 rfl (lv_at hl 3 rfl) ?_
        exact k_iret hx hb hr hlk hP hS hAe (by rw [if_pos hp, kxe]) rfl dX1_reachableCount_45
      | succ n9 ih =>
        intro i hi9 H locs ls hP hD hS hl
        have hlt : i < 16 := by omega
        refine lv_iload hx hb dX1_reachableCount_17 (lv_at hl 4 rfl) ?_
        refine lv_bipush (v := 16) hx hb dX1_reachableCount_19 (by decide) ?_
        refine lv_icmp_ge (tgt := 44) hx hb dX1_reachableCount_21 (by decide) (fun c_ => absurd c_ (nI_ge (a := i) (b := 16) hlt (by decide))) (fun _ => ?_)
        refine lv_aload_n hx hb dX1_reachableCount_24 rfl (lv_at hl 0 rfl) ?_
        refine lv_aload_n hx hb dX1_reachableCount_25 rfl (lv_at hl 2 rfl) ?_
        refine lv_iload_n hx hb dX1_reachableCount_26 rfl (lv_at hl 1 rfl) ?_
        refine lv_iload hx hb dX1_reachableCount_27 (lv_at hl 4 rfl) ?_
        refine kV (As := [.ref (pd k 0), .int (nI k), .int (nI i)]) (rest := []) (Wc := (xW cI cZ cP ad pd S)) (Wc1 := (xW cI cZ cP ad pd S)) (Wd1 := (xW cI cZ cP ad pd S)) (o := some (.int (o_Fw S k i))) ⟨hx, hb, hml, hown, hts⟩ (c_X1_followPacket l D cI cZ cP ad pd S k i (by omega) (by omega)) (cwV 3 hts gX1_reachableCount_X1_followPacket rfl rfl rfl (by decide +kernel) ⟨Nat.le_of_ble_eq_true rfl, Nat.le_of_ble_eq_true rfl⟩) hK hN hP hD hS (fun j => j) (fun _ _ h => h) (fun _ _ _ _ h => h) (xW_adr rfl) (fun k q h => Or.inl ⟨k, h⟩) 0 1 rfl rfl (xO _ _ _ _ _ _) rfl hl.1 rfl (Nat.le_of_ble_eq_true rfl) ⟨Nat.zero_le _, Nat.zero_le _⟩ dX1_reachableCount_29 (fun H locs hP hD hS => ?_)
        refine lv_if_lt (tgt := 38) hx hb dX1_reachableCount_32 (by decide) (fun c_32 => ?_) (fun c_32 => ?_)
        · refine lv_iinc (v := nI (i + 1)) (lv' := [(4, .int (nI (i + 1))), (0, .ref (ad 0)), (1, .int (nI k)), (2, .ref (pd k 0)), (3, .int (kCnt (p_Fw S k) i))]) hx hb dX1_reachableCount_38 hl (k := 4) rfl (nI_1 i) (by decide) rfl (fun ls hl => ?_)
          refine lv_goto (tgt := 17) hx hb dX1_reachableCount_41 (by decide) ?_
          rw [kCnt_f (P := p_Fw S k) (by simp [p_Fw, c_32])] at hl
          exact ih (i + 1) (by omega) _ _ ls hP hD hS (lv_sub hl [1, 2, 3, 4, 0] rfl)
        · refine lv_iinc (v := kCnt (p_Fw S k) (i + 1)) (lv' := [(3, .int (kCnt (p_Fw S k) (i + 1))), (0, .ref (ad 0)), (1, .int (nI k)), (2, .ref (pd k 0)), (4, .int (nI i))]) hx hb dX1_reachableCount_35 hl (k := 3) rfl (kCnt_t (by simp [p_Fw, Int32.not_lt.mp c_32])) (by decide) rfl (fun ls hl => ?_)
          refine lv_iinc (v := nI (i + 1)) (lv' := [(4, .int (nI (i + 1))), (3, .int (kCnt (p_Fw S k) (i + 1))), (0, .ref (ad 0)), (1, .int (nI k)), (2, .ref (pd k 0))]) hx hb dX1_reachableCount_38 hl (k := 4) rfl (nI_1 i) (by decide) rfl (fun ls hl => ?_)
          refine lv_goto (tgt := 17) hx hb dX1_reachableCount_41 (by decide) ?_
          exact ih (i + 1) (by omega) _ _ ls hP hD hS (lv_sub hl [2, 3, 4, 1, 0] rfl)
    exact lp17 16 0 (by omega) _ _ ls hP hD hS (lv_sub hl [3, 4, 2, 1, 0] rfl)
  · refine kV (As := [.int x]) (rest := []) (Wc := (xW cI cZ cP ad pd S)) (Wc1 := (xW cI cZ cP ad pd S)) (Wd1 := (xW cI cZ cP ad pd S)) (o := some (.null)) ⟨hx, hb, hml, hown, hts⟩ (c_X1_findPeer_no l D cI cZ cP ad pd S x hn hp) (cwV 1 hts gX1_reachableCount_X1_findPeer rfl rfl rfl (by decide +kernel) ⟨Nat.le_of_ble_eq_true rfl, Nat.le_of_ble_eq_true rfl⟩) hK hN hP hD hS (fun j => j) (fun _ _ h => h) (fun _ _ _ _ h => h) (xW_adr rfl) (fun k q h => Or.inl ⟨k, h⟩) 0 1 rfl rfl (xO _ _ _ _ _ _) rfl hl.1 rfl (Nat.le_of_ble_eq_true rfl) ⟨Nat.zero_le _, Nat.zero_le _⟩ dX1_reachableCount_2 (fun H locs hP hD hS => ?_)
    refine lv_astore_nN (lv' := [(2, .null), (0, .ref (ad 0)), (1, .int x)]) hx hb dX1_reachableCount_5 rfl hl (by decide) rfl (fun ls hl => ?_)
    refine lv_aload_nN hx hb dX1_reachableCount_6 rfl (lv_at hl 0 rfl) ?_
    refine lv_ifnonnullN hx hb dX1_reachableCount_7 ?_
    refine lv_iconst (v := -1) hx hb dX1_reachableCount_10 (by decide) ?_
    exact k_iret hx hb hr hlk hP hS hAe (by rw [if_neg hp]) rfl dX1_reachableCount_11

set_option maxRecDepth 100000 in
set_option maxHeartbeats 4000000 in
theorem c_X1_countLoops (l : Launch) (D : va_G) (cI cZ cP : ClassId) (ad : Nat → Nat) (pd : Nat → Nat → Nat) (S : ST) (k : Nat) (hk : k < g_N S) : MM l yX1_countLoops wsX1_countLoops ({ frames := 1, cells := 0, slots := 0, locals := 24 }) D (kTy cI cZ cP) [.ref (ad 0), .ref (pd k 0), .int (nI k)] (xW cI cZ cP ad pd S) (some (.int (kCnt (p_Lp S k) 16))) (xW cI cZ cP ad pd S) := by
  refine MM.ofW (cc := cX1_countLoops) (maxL := 5) (ret := (some .int)) (by decide) rfl (Nat.le_of_ble_eq_true rfl) ?_
  intro p e s m below meth c ls A hx hb hr hlk hml hts hown hK hN hP hD hS hAe hl
  have hown : s.vm.findClass RX1 = some m.cls := hown
  have hi0 : ∀ w ∈ wsX00, w ∈ wsX1_countLoops := fun w h => List.mem_cons_of_mem _ (List.mem_append_left _ (List.mem_append_right _ h))
  have hi1 : ∀ w ∈ wsX10, w ∈ wsX1_countLoops := fun w h => List.mem_cons_of_mem _ (List.mem_append_right _ h)
  have hl : lv_has ls 5 [(0, .ref (ad 0)), (1, .ref (pd k 0)), (2, .int (nI k))] := hl
  refine lv_iconst (v := 0) hx hb dX1_countLoops_0 (by decide) ?_
  refine lv_istore_n (lv' := [(3, .int 0), (0, .ref (ad 0)), (1, .ref (pd k 0)), (2, .int (nI k))]) hx hb dX1_countLoops_1 rfl hl (by decide) rfl (fun ls hl => ?_)
  refine lv_iconst (v := 0) hx hb dX1_countLoops_2 (by decide) ?_
  refine lv_istore (lv' := [(4, .int 0), (3, .int 0), (0, .ref (ad 0)), (1, .ref (pd k 0)), (2, .int (nI k))]) hx hb dX1_countLoops_3 hl (by decide) rfl (fun ls hl => ?_)
  have lp5 : ∀ (n9 i : Nat), i + n9 = 16 → ∀ (H : Heap) (locs : List Loc) (ls : Array Slot), va_P D vwCl (xW cI cZ cP ad pd S) H → va_D A (xW cI cZ cP ad pd S) → va_S A s.heap H locs → lv_has ls 5 [(0, .ref (ad 0)), (1, .ref (pd k 0)), (2, .int (nI k)), (3, .int (kCnt (p_Lp S k) i)), (4, .int (nI i))] → W p l e (headSpec wsX1_countLoops ({ frames := 1, cells := 0, slots := 0, locals := 24 })).room s m ([.ref (ad 0), .ref (pd k 0), .int (nI k)] : List Value).toArray below meth c H locs 0 0 (MQ below (kPost D (xW cI cZ cP ad pd S) (xW cI cZ cP ad pd S) (some (.int (kCnt (p_Lp S k) 16)))) ([.ref (ad 0), .ref (pd k 0), .int (nI k)] : List Value).toArray s 0 0 (kA (xW cI cZ cP ad pd S))) (F0 m 5 ls []) := by
    intro n9
    induction n9 with
    | zero =>
      intro i hi9 H locs ls hP hD hS hl
      have hi8 : i = 16 := by omega
      subst hi8
      refine lv_iload hx hb dX1_countLoops_5 (lv_at hl 4 rfl) ?_
      refine lv_bipush (v := 16) hx hb dX1_countLoops_7 (by decide) ?_
      refine lv_icmp_ge (tgt := 34) hx hb dX1_countLoops_9 (by decide) (fun _ => ?_) (fun c_ => absurd (by decide) c_)
      refine lv_iload_n hx hb dX1_countLoops_34 rfl (lv_at hl 3 rfl) ?_
      exact k_iret hx hb hr hlk hP hS hAe rfl rfl dX1_countLoops_35
    | succ n9 ih =>
      intro i hi9 H locs ls hP hD hS hl
      have hlt : i < 16 := by omega
      refine lv_iload hx hb dX1_countLoops_5 (lv_at hl 4 rfl) ?_
      refine lv_bipush (v := 16) hx hb dX1_countLoops_7 (by decide) ?_
      refine lv_icmp_ge (tgt := 34) hx hb dX1_countLoops_9 (by decide) (fun c_ => absurd c_ (nI_ge (a := i) (b := 16) hlt (by decide))) (fun _ => ?_)
      refine lv_aload_n hx hb dX1_countLoops_12 rfl (lv_at hl 0 rfl) ?_
      refine lv_aload_n hx hb dX1_countLoops_13 rfl (lv_at hl 1 rfl) ?_
      refine lv_iload_n hx hb dX1_countLoops_14 rfl (lv_at hl 2 rfl) ?_
      refine lv_iload hx hb dX1_countLoops_15 (lv_at hl 4 rfl) ?_
      refine kV (As := [.ref (pd k 0), .int (nI k), .int (nI i)]) (rest := []) (Wc := (xW cI cZ cP ad pd S)) (Wc1 := (xW cI cZ cP ad pd S)) (Wd1 := (xW cI cZ cP ad pd S)) (o := some (.int (o_Fw S k i))) ⟨hx, hb, hml, hown, hts⟩ (c_X1_followPacket l D cI cZ cP ad pd S k i (by omega) (by omega)) (cwV 3 hts gX1_countLoops_X1_followPacket rfl rfl rfl (by decide +kernel) ⟨Nat.le_of_ble_eq_true rfl, Nat.le_of_ble_eq_true rfl⟩) hK hN hP hD hS (fun j => j) (fun _ _ h => h) (fun _ _ _ _ h => h) (xW_adr rfl) (fun k q h => Or.inl ⟨k, h⟩) 0 1 rfl rfl (xO _ _ _ _ _ _) rfl hl.1 rfl (Nat.le_of_ble_eq_true rfl) ⟨Nat.zero_le _, Nat.zero_le _⟩ dX1_countLoops_17 (fun H locs hP hD hS => ?_)
      refine lv_bipush (v := -8) hx hb dX1_countLoops_20 (by decide) ?_
      refine lv_icmp_ne (tgt := 28) hx hb dX1_countLoops_22 (by decide) (fun c_22 => ?_) (fun c_22 => ?_)
      · refine lv_iinc (v := nI (i + 1)) (lv' := [(4, .int (nI (i + 1))), (0, .ref (ad 0)), (1, .ref (pd k 0)), (2, .int (nI k)), (3, .int (kCnt (p_Lp S k) i))]) hx hb dX1_countLoops_28 hl (k := 4) rfl (nI_1 i) (by decide) rfl (fun ls hl => ?_)
        refine lv_goto (tgt := 5) hx hb dX1_countLoops_31 (by decide) ?_
        rw [kCnt_f (P := p_Lp S k) (by simp [p_Lp, c_22])] at hl
        exact ih (i + 1) (by omega) _ _ ls hP hD hS (lv_sub hl [1, 2, 3, 4, 0] rfl)
      · refine lv_iinc (v := kCnt (p_Lp S k) (i + 1)) (lv' := [(3, .int (kCnt (p_Lp S k) (i + 1))), (0, .ref (ad 0)), (1, .ref (pd k 0)), (2, .int (nI k)), (4, .int (nI i))]) hx hb dX1_countLoops_25 hl (k := 3) rfl (kCnt_t (by simp [p_Lp, c_22])) (by decide) rfl (fun ls hl => ?_)
        refine lv_iinc (v := nI (i + 1)) (lv' := [(4, .int (nI (i + 1))), (3, .int (kCnt (p_Lp S k) (i + 1))), (0, .ref (ad 0)), (1, .ref (pd k 0)), (2, .int (nI k))]) hx hb dX1_countLoops_28 hl (k := 4) rfl (nI_1 i) (by decide) rfl (fun ls hl => ?_)
        refine lv_goto (tgt := 5) hx hb dX1_countLoops_31 (by decide) ?_
        exact ih (i + 1) (by omega) _ _ ls hP hD hS (lv_sub hl [2, 3, 4, 1, 0] rfl)
  exact lp5 16 0 (by omega) _ _ ls hP hD hS (lv_sub hl [2, 3, 4, 1, 0] rfl)

set_option maxRecDepth 100000 in
set_option maxHeartbeats 4000000 in
theorem c_X1_loopCount (l : Launch) (D : va_G) (cI cZ cP : ClassId) (ad : Nat → Nat) (pd : Nat → Nat → Nat) (S : ST)  (hn : g_N S ≤ 5) : MM l yX1_loopCount wsX1_loopCount ({ frames := 2, cells := 0, slots := 0, locals := 48 }) D (kTy cI cZ cP) [.ref (ad 0)] (xW cI cZ cP ad pd S) (some (.int (o_Lp S (g_N S)))) (xW cI cZ cP ad pd S) := by
  refine MM.ofW (cc := cX1_loopCount) (maxL := 4) (ret := (some .int)) (by decide) rfl (Nat.le_of_ble_eq_true rfl) ?_
  intro p e s m below meth c ls A hx hb hr hlk hml hts hown hK hN hP hD hS hAe hl
  have hown : s.vm.findClass RX1 = some m.cls := hown
  have hi1 : ∀ w ∈ wsX10, w ∈ wsX1_loopCount := fun w h => List.mem_cons_of_mem _ (List.mem_append_left _ (List.mem_append_right _ h))
  have hi0 : ∀ w ∈ wsX00, w ∈ wsX1_loopCount := fun w h => List.mem_cons_of_mem _ (List.mem_append_right _ h)
  have hl : lv_has ls 4 [(0, .ref (ad 0))] := hl
  refine lv_iconst (v := 0) hx hb dX1_loopCount_0 (by decide) ?_
  refine lv_istore_n (lv' := [(1, .int 0), (0, .ref (ad 0))]) hx hb dX1_loopCount_1 rfl hl (by decide) rfl (fun ls hl => ?_)
  refine lv_iconst (v := 0) hx hb dX1_loopCount_2 (by decide) ?_
  refine lv_istore_n (lv' := [(2, .int 0), (1, .int 0), (0, .ref (ad 0))]) hx hb dX1_loopCount_3 rfl hl (by decide) rfl (fun ls hl => ?_)
  have lp4 : ∀ (n9 i : Nat), i + n9 = 5 → ∀ (H : Heap) (locs : List Loc) (ls : Array Slot), va_P D vwCl (xW cI cZ cP ad pd S) H → va_D A (xW cI cZ cP ad pd S) → va_S A s.heap H locs → lv_has ls 4 [(0, .ref (ad 0)), (1, .int (o_Lp S (min i (g_N S)))), (2, .int (nI i))] → W p l e (headSpec wsX1_loopCount ({ frames := 2, cells := 0, slots := 0, locals := 48 })).room s m ([.ref (ad 0)] : List Value).toArray below meth c H locs 0 0 (MQ below (kPost D (xW cI cZ cP ad pd S) (xW cI cZ cP ad pd S) (some (.int (o_Lp S (g_N S))))) ([.ref (ad 0)] : List Value).toArray s 0 0 (kA (xW cI cZ cP ad pd S))) (F0 m 4 ls []) := by
    intro n9
    induction n9 with
    | zero =>
      intro i hi9 H locs ls hP hD hS hl
      have hi8 : i = 5 := by omega
      subst hi8
      refine lv_iload_n hx hb dX1_loopCount_4 rfl (lv_at hl 2 rfl) ?_
      refine lv_aload_n hx hb dX1_loopCount_5 rfl (lv_at hl 0 rfl) ?_
      refine va_get (D := D) (ci := 1) (v := .ref (ad 1)) (C := RX1) (T := TX1) (N := 9) hx hb hts hi1 hown hK hP 0 (xO _ _ _ _ _ _) rfl 0 (by decide) (hts (.fieldLink RX1 11 "GracefulRestart" "peers" "[LGracefulRestart$Peer;") (List.mem_of_getElem? (i := 1) rfl)) (fun _ h9 => h9) (xV_0 _ _) dX1_loopCount_6 ?_
      refine va_alen (v := 5) hx hb hK hP 1 2 (xG_P _ _ _ _ _ _) rfl rfl dX1_loopCount_9 ?_
      refine lv_icmp_ge (tgt := 39) hx hb dX1_loopCount_10 (by decide) (fun _ => ?_) (fun c_ => absurd (by decide) c_)
      refine lv_iload_n hx hb dX1_loopCount_39 rfl (lv_at hl 1 rfl) ?_
      exact k_iret hx hb hr hlk hP hS hAe (by rw [show min 5 (g_N S) = g_N S by omega]) rfl dX1_loopCount_40
    | succ n9 ih =>
      intro i hi9 H locs ls hP hD hS hl
      have hlt : i < 5 := by omega
      refine lv_iload_n hx hb dX1_loopCount_4 rfl (lv_at hl 2 rfl) ?_
      refine lv_aload_n hx hb dX1_loopCount_5 rfl (lv_at hl 0 rfl) ?_
      refine va_get (D := D) (ci := 1) (v := .ref (ad 1)) (C := RX1) (T := TX1) (N := 9) hx hb hts hi1 hown hK hP 0 (xO _ _ _ _ _ _) rfl 0 (by decide) (hts (.fieldLink RX1 11 "GracefulRestart" "peers" "[LGracefulRestart$Peer;") (List.mem_of_getElem? (i := 1) rfl)) (fun _ h9 => h9) (xV_0 _ _) dX1_loopCount_6 ?_
      refine va_alen (v := 5) hx hb hK hP 1 2 (xG_P _ _ _ _ _ _) rfl rfl dX1_loopCount_9 ?_
      refine lv_icmp_ge (tgt := 39) hx hb dX1_loopCount_10 (by decide) (fun c_ => absurd c_ (nI_ge (a := i) (b := 5) hlt (by decide))) (fun _ => ?_)
      refine lv_aload_n hx hb dX1_loopCount_13 rfl (lv_at hl 0 rfl) ?_
      refine va_get (D := D) (ci := 1) (v := .ref (ad 1)) (C := RX1) (T := TX1) (N := 9) hx hb hts hi1 hown hK hP 0 (xO _ _ _ _ _ _) rfl 0 (by decide) (hts (.fieldLink RX1 11 "GracefulRestart" "peers" "[LGracefulRestart$Peer;") (List.mem_of_getElem? (i := 1) rfl)) (fun _ h9 => h9) (xV_0 _ _) dX1_loopCount_14 ?_
      by_cases hin : i < g_N S
      · have hmi : min i (g_N S) = i := by omega
        rw [hmi] at hl
        refine lv_iload_n hx hb dX1_loopCount_17 rfl (lv_at hl 2 rfl) ?_
        refine k_aald (k := i) (v := .ref (pd i 0)) hx hb hK hP 1 2 (xG_P _ _ _ _ _ _) rfl rfl (by omega) (by decide) (xR_in (by omega)) dX1_loopCount_18 ?_
        refine lv_astore_n (lv' := [(3, .ref (pd i 0)), (0, .ref (ad 0)), (1, .int (o_Lp S i)), (2, .int (nI i))]) hx hb dX1_loopCount_19 rfl hl (by decide) rfl (fun ls hl => ?_)
        refine lv_aload_n hx hb dX1_loopCount_20 rfl (lv_at hl 0 rfl) ?_
        refine lv_ifnull hx hb dX1_loopCount_21 ?_
        refine lv_iload_n hx hb dX1_loopCount_24 rfl (lv_at hl 2 rfl) ?_
        refine lv_aload_n hx hb dX1_loopCount_25 rfl (lv_at hl 1 rfl) ?_
        refine lv_aload_n hx hb dX1_loopCount_26 rfl (lv_at hl 0 rfl) ?_
        refine lv_iload_n hx hb dX1_loopCount_27 rfl (lv_at hl 3 rfl) ?_
        refine kV (As := [.ref (pd i 0), .int (nI i)]) (rest := [.int (o_Lp S i)]) (Wc := (xW cI cZ cP ad pd S)) (Wc1 := (xW cI cZ cP ad pd S)) (Wd1 := (xW cI cZ cP ad pd S)) (o := some (.int (kCnt (p_Lp S i) 16))) ⟨hx, hb, hml, hown, hts⟩ (c_X1_countLoops l D cI cZ cP ad pd S i hin) (cwV 2 hts gX1_loopCount_X1_countLoops rfl rfl rfl (by decide +kernel) ⟨Nat.le_of_ble_eq_true rfl, Nat.le_of_ble_eq_true rfl⟩) hK hN hP hD hS (fun j => j) (fun _ _ h => h) (fun _ _ _ _ h => h) (xW_adr rfl) (fun k q h => Or.inl ⟨k, h⟩) 0 1 rfl rfl (xO _ _ _ _ _ _) rfl hl.1 rfl (Nat.le_of_ble_eq_true rfl) ⟨Nat.zero_le _, Nat.zero_le _⟩ dX1_loopCount_28 (fun H locs hP hD hS => ?_)
        refine lv_iadd hx hb dX1_loopCount_31 ?_
        refine lv_istore_n (lv' := [(1, .int ((o_Lp S i) + (kCnt (p_Lp S i) 16))), (3, .ref (pd i 0)), (0, .ref (ad 0)), (2, .int (nI i))]) hx hb dX1_loopCount_32 rfl hl (by decide) rfl (fun ls hl => ?_)
        refine lv_iinc (v := nI (i + 1)) (lv' := [(2, .int (nI (i + 1))), (1, .int ((o_Lp S i) + (kCnt (p_Lp S i) 16))), (3, .ref (pd i 0)), (0, .ref (ad 0))]) hx hb dX1_loopCount_33 hl (k := 3) rfl (nI_1 i) (by decide) rfl (fun ls hl => ?_)
        refine lv_goto (tgt := 4) hx hb dX1_loopCount_36 (by decide) ?_
        have hl := hl
        rw [show o_Lp S i + kCnt (p_Lp S i) 16 = o_Lp S (min (i + 1) (g_N S)) by rw [show min (i + 1) (g_N S) = i + 1 by omega]; rfl] at hl
        exact ih (i + 1) (by omega) _ _ ls hP hD hS (lv_sub hl [3, 1, 0] rfl)
      · refine lv_iload_n hx hb dX1_loopCount_17 rfl (lv_at hl 2 rfl) ?_
        refine k_aald (k := i) (v := .null) hx hb hK hP 1 2 (xG_P _ _ _ _ _ _) rfl rfl (by omega) (by decide) (xR_out (by omega)) dX1_loopCount_18 ?_
        refine lv_astore_nN (lv' := [(3, .null), (0, .ref (ad 0)), (1, .int (o_Lp S (min i (g_N S)))), (2, .int (nI i))]) hx hb dX1_loopCount_19 rfl hl (by decide) rfl (fun ls hl => ?_)
        refine lv_aload_nN hx hb dX1_loopCount_20 rfl (lv_at hl 0 rfl) ?_
        refine lv_ifnullN (tgt := 33) hx hb dX1_loopCount_21 (by decide) ?_
        refine lv_iinc (v := nI (i + 1)) (lv' := [(2, .int (nI (i + 1))), (3, .null), (0, .ref (ad 0)), (1, .int (o_Lp S (min i (g_N S))))]) hx hb dX1_loopCount_33 hl (k := 3) rfl (nI_1 i) (by decide) rfl (fun ls hl => ?_)
        refine lv_goto (tgt := 4) hx hb dX1_loopCount_36 (by decide) ?_
        rw [show min i (g_N S) = min (i + 1) (g_N S) by omega] at hl
        exact ih (i + 1) (by omega) _ _ ls hP hD hS (lv_sub hl [2, 3, 0] rfl)
  exact lp4 5 0 (by omega) _ _ ls hP hD hS (lv_cv (lv_sub hl [2, 1, 0] rfl) (by rw [Nat.zero_min]; rfl))
