set_option maxRecDepth 100000 in
set_option maxHeartbeats 4000000 in
theorem c_X2_within (l : Launch) (D : va_G) (cI cZ cP : ClassId) (x lo hi : Int32) : MM l yX2_within wsX2_within ({ frames := 0, cells := 0, slots := 0, locals := 0 }) D (kTy cI cZ cP) [.int x, .int lo, .int hi] [] (some (.int (if x < lo then 0 else if hi < x then 0 else 1))) [] := by
  refine MM.ofW (cc := cX2_within) (maxL := 3) (ret := (some .boolean)) (by decide) rfl (Nat.le_of_ble_eq_true rfl) ?_
  intro p e s m below meth c ls A hx hb hr hlk hml hts hown hK hN hP hD hS hAe hl
  have hown : s.vm.findClass RX2 = some m.cls := hown
  have hl : lv_has ls 3 [(0, .int x), (1, .int lo), (2, .int hi)] := hl
  refine lv_iload_n hx hb dX2_within_0 rfl (lv_at hl 0 rfl) ?_
  refine lv_iload_n hx hb dX2_within_1 rfl (lv_at hl 1 rfl) ?_
  refine lv_icmp_lt (tgt := 14) hx hb dX2_within_2 (by decide) (fun c_2 => ?_) (fun c_2 => ?_)
  · refine lv_iconst (v := 0) hx hb dX2_within_14 (by decide) ?_
    exact k_zret hx hb hr hlk hP hS hAe rfl (by simp [c_2]) rfl dX2_within_15
  · refine lv_iload_n hx hb dX2_within_5 rfl (lv_at hl 0 rfl) ?_
    refine lv_iload_n hx hb dX2_within_6 rfl (lv_at hl 2 rfl) ?_
    refine lv_icmp_gt (tgt := 14) hx hb dX2_within_7 (by decide) (fun c_7 => ?_) (fun c_7 => ?_)
    · refine lv_iconst (v := 0) hx hb dX2_within_14 (by decide) ?_
      exact k_zret hx hb hr hlk hP hS hAe rfl (by simp [c_2, c_7]) rfl dX2_within_15
    · refine lv_iconst (v := 1) hx hb dX2_within_10 (by decide) ?_
      refine lv_goto (tgt := 15) hx hb dX2_within_11 (by decide) ?_
      exact k_zret hx hb hr hlk hP hS hAe rfl (by simp [c_2, c_7]) rfl dX2_within_15

set_option maxRecDepth 100000 in
set_option maxHeartbeats 4000000 in
theorem c_X2_isRoute (l : Launch) (D : va_G) (cI cZ cP : ClassId) (t f : Int32) : MM l yX2_isRoute wsX2_isRoute ({ frames := 1, cells := 0, slots := 0, locals := 22 }) D (kTy cI cZ cP) [.int t, .int f] [] (some (.int (if okR t f then 1 else 0))) [] := by
  refine MM.ofW (cc := cX2_isRoute) (maxL := 2) (ret := (some .boolean)) (by decide) rfl (Nat.le_of_ble_eq_true rfl) ?_
  intro p e s m below meth c ls A hx hb hr hlk hml hts hown hK hN hP hD hS hAe hl
  have hown : s.vm.findClass RX2 = some m.cls := hown
  have hl : lv_has ls 2 [(0, .int t), (1, .int f)] := hl
  refine lv_iload_n hx hb dX2_isRoute_0 rfl (lv_at hl 0 rfl) ?_
  refine lv_iconst (v := 0) hx hb dX2_isRoute_1 (by decide) ?_
  refine lv_iconst (v := 1) hx hb dX2_isRoute_2 (by decide) ?_
  refine kS0 (As := [.int t, .int 0, .int 1]) (rest := []) (o := some (.int (if t < 0 then 0 else if 1 < t then 0 else 1))) ⟨hx, hb, hml, hown, hts⟩ (c_X2_within l D cI cZ cP t 0 1) (va_cwS 3 hts gX2_isRoute_X2_within rfl rfl rfl (by decide +kernel) ⟨Nat.le_of_ble_eq_true rfl, Nat.le_of_ble_eq_true rfl⟩) hK hN hP hD hS rfl hl.1 rfl (Nat.le_of_ble_eq_true rfl) ⟨Nat.zero_le _, Nat.zero_le _⟩ dX2_isRoute_3 (fun H locs hP hD hS => ?_)
  refine k_top (y := if 0 ≤ t ∧ t < 2 then 1 else 0) (wi_R t (by decide)) ?_
  by_cases ha : 0 ≤ t ∧ t < 2
  · refine k_top (if_pos ha) ?_
    refine lv_if_eq (tgt := 23) hx hb dX2_isRoute_6 (by decide) (fun c_ => absurd c_ (by decide)) (fun _ => ?_)
    refine lv_iload_n hx hb dX2_isRoute_9 rfl (lv_at hl 1 rfl) ?_
    refine lv_iconst (v := 0) hx hb dX2_isRoute_10 (by decide) ?_
    refine lv_bipush (v := 7) hx hb dX2_isRoute_11 (by decide) ?_
    refine kS0 (As := [.int f, .int 0, .int 7]) (rest := []) (o := some (.int (if f < 0 then 0 else if 7 < f then 0 else 1))) ⟨hx, hb, hml, hown, hts⟩ (c_X2_within l D cI cZ cP f 0 7) (va_cwS 3 hts gX2_isRoute_X2_within rfl rfl rfl (by decide +kernel) ⟨Nat.le_of_ble_eq_true rfl, Nat.le_of_ble_eq_true rfl⟩) hK hN hP hD hS rfl hl.1 rfl (Nat.le_of_ble_eq_true rfl) ⟨Nat.zero_le _, Nat.zero_le _⟩ dX2_isRoute_13 (fun H locs hP hD hS => ?_)
    refine k_top (y := if 0 ≤ f ∧ f < 8 then 1 else 0) (wi_R f (by decide)) ?_
    by_cases hb9 : 0 ≤ f ∧ f < 8
    · refine k_top (if_pos hb9) ?_
      refine lv_if_eq (tgt := 23) hx hb dX2_isRoute_16 (by decide) (fun c_ => absurd c_ (by decide)) (fun _ => ?_)
      refine lv_iconst (v := 1) hx hb dX2_isRoute_19 (by decide) ?_
      refine lv_goto (tgt := 24) hx hb dX2_isRoute_20 (by decide) ?_
      exact k_zret hx hb hr hlk hP hS hAe rfl (by simp [okR, ha, hb9]) rfl dX2_isRoute_24
    · refine k_top (if_neg hb9) ?_
      refine lv_if_eq (tgt := 23) hx hb dX2_isRoute_16 (by decide) (fun _ => ?_) (fun c_ => absurd (by decide) c_)
      refine lv_iconst (v := 0) hx hb dX2_isRoute_23 (by decide) ?_
      exact k_zret hx hb hr hlk hP hS hAe rfl (by simp [okR, ha, hb9]) rfl dX2_isRoute_24
  · refine k_top (if_neg ha) ?_
    refine lv_if_eq (tgt := 23) hx hb dX2_isRoute_6 (by decide) (fun _ => ?_) (fun c_ => absurd (by decide) c_)
    refine lv_iconst (v := 0) hx hb dX2_isRoute_23 (by decide) ?_
    exact k_zret hx hb hr hlk hP hS hAe rfl (by simp [okR, ha]) rfl dX2_isRoute_24

set_option maxRecDepth 100000 in
set_option maxHeartbeats 4000000 in
theorem c_X2_setRestartTime (l : Launch) (D : va_G) (cI cZ cP : ClassId) (md : Nat → Nat) (S : ST) (x : Int32) : MM l yX2_setRestartTime wsX2_setRestartTime ({ frames := 1, cells := 0, slots := 0, locals := 22 }) D (kTy cI cZ cP) [.ref (md 0), .int x] (mW cI cZ md S) (some (.int (if okT x then g_T1 S else -3))) (mW cI cZ md (if okT x then s_T1 S x else S)) := by
  refine MM.ofW (cc := cX2_setRestartTime) (maxL := 3) (ret := (some .int)) (by decide) rfl (Nat.le_of_ble_eq_true rfl) ?_
  intro p e s m below meth c ls A hx hb hr hlk hml hts hown hK hN hP hD hS hAe hl
  have hown : s.vm.findClass RX2 = some m.cls := hown
  have hi2 : ∀ w ∈ wsX20, w ∈ wsX2_setRestartTime := fun w h => List.mem_cons_of_mem _ (List.mem_append_right _ h)
  have hl : lv_has ls 3 [(0, .ref (md 0)), (1, .int x)] := hl
  refine lv_iload_n hx hb dX2_setRestartTime_0 rfl (lv_at hl 1 rfl) ?_
  refine lv_iconst (v := 1) hx hb dX2_setRestartTime_1 (by decide) ?_
  refine lv_bipush (v := 50) hx hb dX2_setRestartTime_2 (by decide) ?_
  refine kS0 (As := [.int x, .int 1, .int 50]) (rest := []) (o := some (.int (if x < 1 then 0 else if 50 < x then 0 else 1))) ⟨hx, hb, hml, hown, hts⟩ (c_X2_within l D cI cZ cP x 1 50) (va_cwS 3 hts gX2_setRestartTime_X2_within rfl rfl rfl (by decide +kernel) ⟨Nat.le_of_ble_eq_true rfl, Nat.le_of_ble_eq_true rfl⟩) hK hN hP hD hS rfl hl.1 rfl (Nat.le_of_ble_eq_true rfl) ⟨Nat.zero_le _, Nat.zero_le _⟩ dX2_setRestartTime_4 (fun H locs hP hD hS => ?_)
  refine k_top (y := if okT x then 1 else 0) (wi_g x 1 50) ?_
  by_cases ht : okT x
  · refine k_top (if_pos ht) ?_
    refine lv_if_ne (tgt := 13) hx hb dX2_setRestartTime_7 (by decide) (fun _ => ?_) (fun c_ => absurd c_ (by decide))
    refine lv_aload_n hx hb dX2_setRestartTime_13 rfl (lv_at hl 0 rfl) ?_
    refine va_get (D := D) (ci := 2) (v := .int (g_T1 S)) (C := RX2) (T := TX2) (N := 16) hx hb hts hi2 hown hK hP 0 (mO _ _ _ _) rfl 0 (by decide) (hts (.fieldLink RX2 7 "GracefulRestartModel" "restartTime" "I") (List.mem_of_getElem? (i := 1) rfl)) (fun _ h9 => h9) (mV_T1 _ _) dX2_setRestartTime_14 ?_
    refine lv_istore_n (lv' := [(2, .int (g_T1 S)), (0, .ref (md 0)), (1, .int x)]) hx hb dX2_setRestartTime_17 rfl hl (by decide) rfl (fun ls hl => ?_)
    refine lv_aload_n hx hb dX2_setRestartTime_18 rfl (lv_at hl 1 rfl) ?_
    refine lv_iload_n hx hb dX2_setRestartTime_19 rfl (lv_at hl 2 rfl) ?_
    refine k_put (D := D) (ci := 2) (v := .int x) (ty := .int) (C := RX2) (T := TX2) (N := 16) hx hb hts hi2 tyX2 tyX2_ok nmX2 hown hK hP hD hS 0 (mO _ _ _ _) rfl 0 (by decide) (hts (.fieldLink RX2 7 "GracefulRestartModel" "restartTime" "I") (List.mem_of_getElem? (i := 1) rfl)) (fun _ h9 => h9) rfl (by decide +kernel) rfl rfl (Nat.le_of_ble_eq_true rfl) (W1 := (mW cI cZ md (s_T1 S x))) (mP_T1 _ _ _ _ _) dX2_setRestartTime_20 (fun H locs hP hD hS => ?_)
    refine lv_iload_n hx hb dX2_setRestartTime_23 rfl (lv_at hl 0 rfl) ?_
    exact k_iret hx hb hr hlk hP hS hAe ((if_pos ht).symm) (by rw [if_pos ht]) dX2_setRestartTime_24
  · refine k_top (if_neg ht) ?_
    refine lv_if_ne (tgt := 13) hx hb dX2_setRestartTime_7 (by decide) (fun c_ => absurd (by decide) c_) (fun _ => ?_)
    refine lv_bipush (v := -3) hx hb dX2_setRestartTime_10 (by decide) ?_
    exact k_iret hx hb hr hlk hP hS hAe ((if_neg ht).symm) (by rw [if_neg ht]) dX2_setRestartTime_12

set_option maxRecDepth 100000 in
set_option maxHeartbeats 4000000 in
theorem c_X2_setStaleTime (l : Launch) (D : va_G) (cI cZ cP : ClassId) (md : Nat → Nat) (S : ST) (x : Int32) : MM l yX2_setStaleTime wsX2_setStaleTime ({ frames := 1, cells := 0, slots := 0, locals := 22 }) D (kTy cI cZ cP) [.ref (md 0), .int x] (mW cI cZ md S) (some (.int (if okT x then g_T2 S else -3))) (mW cI cZ md (if okT x then s_T2 S x else S)) := by
  refine MM.ofW (cc := cX2_setStaleTime) (maxL := 3) (ret := (some .int)) (by decide) rfl (Nat.le_of_ble_eq_true rfl) ?_
  intro p e s m below meth c ls A hx hb hr hlk hml hts hown hK hN hP hD hS hAe hl
  have hown : s.vm.findClass RX2 = some m.cls := hown
  have hi2 : ∀ w ∈ wsX20, w ∈ wsX2_setStaleTime := fun w h => List.mem_cons_of_mem _ (List.mem_append_right _ h)
  have hl : lv_has ls 3 [(0, .ref (md 0)), (1, .int x)] := hl
  refine lv_iload_n hx hb dX2_setStaleTime_0 rfl (lv_at hl 1 rfl) ?_
  refine lv_iconst (v := 1) hx hb dX2_setStaleTime_1 (by decide) ?_
  refine lv_bipush (v := 50) hx hb dX2_setStaleTime_2 (by decide) ?_
  refine kS0 (As := [.int x, .int 1, .int 50]) (rest := []) (o := some (.int (if x < 1 then 0 else if 50 < x then 0 else 1))) ⟨hx, hb, hml, hown, hts⟩ (c_X2_within l D cI cZ cP x 1 50) (va_cwS 3 hts gX2_setStaleTime_X2_within rfl rfl rfl (by decide +kernel) ⟨Nat.le_of_ble_eq_true rfl, Nat.le_of_ble_eq_true rfl⟩) hK hN hP hD hS rfl hl.1 rfl (Nat.le_of_ble_eq_true rfl) ⟨Nat.zero_le _, Nat.zero_le _⟩ dX2_setStaleTime_4 (fun H locs hP hD hS => ?_)
  refine k_top (y := if okT x then 1 else 0) (wi_g x 1 50) ?_
  by_cases ht : okT x
  · refine k_top (if_pos ht) ?_
    refine lv_if_ne (tgt := 13) hx hb dX2_setStaleTime_7 (by decide) (fun _ => ?_) (fun c_ => absurd c_ (by decide))
    refine lv_aload_n hx hb dX2_setStaleTime_13 rfl (lv_at hl 0 rfl) ?_
    refine va_get (D := D) (ci := 2) (v := .int (g_T2 S)) (C := RX2) (T := TX2) (N := 16) hx hb hts hi2 hown hK hP 0 (mO _ _ _ _) rfl 1 (by decide) (hts (.fieldLink RX2 13 "GracefulRestartModel" "staleTime" "I") (List.mem_of_getElem? (i := 1) rfl)) (fun _ h9 => h9) (mV_T2 _ _) dX2_setStaleTime_14 ?_
    refine lv_istore_n (lv' := [(2, .int (g_T2 S)), (0, .ref (md 0)), (1, .int x)]) hx hb dX2_setStaleTime_17 rfl hl (by decide) rfl (fun ls hl => ?_)
    refine lv_aload_n hx hb dX2_setStaleTime_18 rfl (lv_at hl 1 rfl) ?_
    refine lv_iload_n hx hb dX2_setStaleTime_19 rfl (lv_at hl 2 rfl) ?_
    refine k_put (D := D) (ci := 2) (v := .int x) (ty := .int) (C := RX2) (T := TX2) (N := 16) hx hb hts hi2 tyX2 tyX2_ok nmX2 hown hK hP hD hS 0 (mO _ _ _ _) rfl 1 (by decide) (hts (.fieldLink RX2 13 "GracefulRestartModel" "staleTime" "I") (List.mem_of_getElem? (i := 1) rfl)) (fun _ h9 => h9) rfl (by decide +kernel) rfl rfl (Nat.le_of_ble_eq_true rfl) (W1 := (mW cI cZ md (s_T2 S x))) (mP_T2 _ _ _ _ _) dX2_setStaleTime_20 (fun H locs hP hD hS => ?_)
    refine lv_iload_n hx hb dX2_setStaleTime_23 rfl (lv_at hl 0 rfl) ?_
    exact k_iret hx hb hr hlk hP hS hAe ((if_pos ht).symm) (by rw [if_pos ht]) dX2_setStaleTime_24
  · refine k_top (if_neg ht) ?_
    refine lv_if_ne (tgt := 13) hx hb dX2_setStaleTime_7 (by decide) (fun c_ => absurd (by decide) c_) (fun _ => ?_)
    refine lv_bipush (v := -3) hx hb dX2_setStaleTime_10 (by decide) ?_
    exact k_iret hx hb hr hlk hP hS hAe ((if_neg ht).symm) (by rw [if_neg ht]) dX2_setStaleTime_12

set_option maxRecDepth 100000 in
set_option maxHeartbeats 4000000 in
theorem c_X2_setDeferralTime (l : Launch) (D : va_G) (cI cZ cP : ClassId) (md : Nat → Nat) (S : ST) (x : Int32) : MM l yX2_setDeferralTime wsX2_setDeferralTime ({ frames := 1, cells := 0, slots := 0, locals := 22 }) D (kTy cI cZ cP) [.ref (md 0), .int x] (mW cI cZ md S) (some (.int (if okT x then g_T3 S else -3))) (mW cI cZ md (if okT x then s_T3 S x else S)) := by
  refine MM.ofW (cc := cX2_setDeferralTime) (maxL := 3) (ret := (some .int)) (by decide) rfl (Nat.le_of_ble_eq_true rfl) ?_
  intro p e s m below meth c ls A hx hb hr hlk hml hts hown hK hN hP hD hS hAe hl
  have hown : s.vm.findClass RX2 = some m.cls := hown
  have hi2 : ∀ w ∈ wsX20, w ∈ wsX2_setDeferralTime := fun w h => List.mem_cons_of_mem _ (List.mem_append_right _ h)
  have hl : lv_has ls 3 [(0, .ref (md 0)), (1, .int x)] := hl
  refine lv_iload_n hx hb dX2_setDeferralTime_0 rfl (lv_at hl 1 rfl) ?_
  refine lv_iconst (v := 1) hx hb dX2_setDeferralTime_1 (by decide) ?_
  refine lv_bipush (v := 50) hx hb dX2_setDeferralTime_2 (by decide) ?_
  refine kS0 (As := [.int x, .int 1, .int 50]) (rest := []) (o := some (.int (if x < 1 then 0 else if 50 < x then 0 else 1))) ⟨hx, hb, hml, hown, hts⟩ (c_X2_within l D cI cZ cP x 1 50) (va_cwS 3 hts gX2_setDeferralTime_X2_within rfl rfl rfl (by decide +kernel) ⟨Nat.le_of_ble_eq_true rfl, Nat.le_of_ble_eq_true rfl⟩) hK hN hP hD hS rfl hl.1 rfl (Nat.le_of_ble_eq_true rfl) ⟨Nat.zero_le _, Nat.zero_le _⟩ dX2_setDeferralTime_4 (fun H locs hP hD hS => ?_)
  refine k_top (y := if okT x then 1 else 0) (wi_g x 1 50) ?_
  by_cases ht : okT x
  · refine k_top (if_pos ht) ?_
    refine lv_if_ne (tgt := 13) hx hb dX2_setDeferralTime_7 (by decide) (fun _ => ?_) (fun c_ => absurd c_ (by decide))
    refine lv_aload_n hx hb dX2_setDeferralTime_13 rfl (lv_at hl 0 rfl) ?_
    refine va_get (D := D) (ci := 2) (v := .int (g_T3 S)) (C := RX2) (T := TX2) (N := 16) hx hb hts hi2 hown hK hP 0 (mO _ _ _ _) rfl 2 (by decide) (hts (.fieldLink RX2 16 "GracefulRestartModel" "deferralTime" "I") (List.mem_of_getElem? (i := 1) rfl)) (fun _ h9 => h9) (mV_T3 _ _) dX2_setDeferralTime_14 ?_
    refine lv_istore_n (lv' := [(2, .int (g_T3 S)), (0, .ref (md 0)), (1, .int x)]) hx hb dX2_setDeferralTime_17 rfl hl (by decide) rfl (fun ls hl => ?_)
    refine lv_aload_n hx hb dX2_setDeferralTime_18 rfl (lv_at hl 1 rfl) ?_
    refine lv_iload_n hx hb dX2_setDeferralTime_19 rfl (lv_at hl 2 rfl) ?_
    refine k_put (D := D) (ci := 2) (v := .int x) (ty := .int) (C := RX2) (T := TX2) (N := 16) hx hb hts hi2 tyX2 tyX2_ok nmX2 hown hK hP hD hS 0 (mO _ _ _ _) rfl 2 (by decide) (hts (.fieldLink RX2 16 "GracefulRestartModel" "deferralTime" "I") (List.mem_of_getElem? (i := 1) rfl)) (fun _ h9 => h9) rfl (by decide +kernel) rfl rfl (Nat.le_of_ble_eq_true rfl) (W1 := (mW cI cZ md (s_T3 S x))) (mP_T3 _ _ _ _ _) dX2_setDeferralTime_20 (fun H locs hP hD hS => ?_)
    refine lv_iload_n hx hb dX2_setDeferralTime_23 rfl (lv_at hl 0 rfl) ?_
    exact k_iret hx hb hr hlk hP hS hAe ((if_pos ht).symm) (by rw [if_pos ht]) dX2_setDeferralTime_24
  · refine k_top (if_neg ht) ?_
    refine lv_if_ne (tgt := 13) hx hb dX2_setDeferralTime_7 (by decide) (fun c_ => absurd (by decide) c_) (fun _ => ?_)
    refine lv_bipush (v := -3) hx hb dX2_setDeferralTime_10 (by decide) ?_
    exact k_iret hx hb hr hlk hP hS hAe ((if_neg ht).symm) (by rw [if_neg ht]) dX2_setDeferralTime_12

set_option maxRecDepth 100000 in
set_option maxHeartbeats 4000000 in
theorem c_X2_isPeer (l : Launch) (D : va_G) (cI cZ cP : ClassId) (md : Nat → Nat) (S : ST) (x : Int32) (hn : g_N S ≤ 5) : MM l yX2_isPeer wsX2_isPeer ({ frames := 1, cells := 0, slots := 0, locals := 22 }) D (kTy cI cZ cP) [.ref (md 0), .int x] (mW cI cZ md S) (some (.int (if okP (g_N S) x then 1 else 0))) (mW cI cZ md S) := by
  refine MM.ofW (cc := cX2_isPeer) (maxL := 2) (ret := (some .boolean)) (by decide) rfl (Nat.le_of_ble_eq_true rfl) ?_
  intro p e s m below meth c ls A hx hb hr hlk hml hts hown hK hN hP hD hS hAe hl
  have hown : s.vm.findClass RX2 = some m.cls := hown
  have hi2 : ∀ w ∈ wsX20, w ∈ wsX2_isPeer := fun w h => List.mem_cons_of_mem _ (List.mem_append_right _ h)
  have hl : lv_has ls 2 [(0, .ref (md 0)), (1, .int x)] := hl
  refine lv_iload_n hx hb dX2_isPeer_0 rfl (lv_at hl 1 rfl) ?_
  refine lv_iconst (v := 0) hx hb dX2_isPeer_1 (by decide) ?_
  refine lv_aload_n hx hb dX2_isPeer_2 rfl (lv_at hl 0 rfl) ?_
  refine va_get (D := D) (ci := 2) (v := .int (nI (g_N S))) (C := RX2) (T := TX2) (N := 16) hx hb hts hi2 hown hK hP 0 (mO _ _ _ _) rfl 3 (by decide) (hts (.fieldLink RX2 55 "GracefulRestartModel" "peers" "I") (List.mem_of_getElem? (i := 1) rfl)) (fun _ h9 => h9) (mV_N _ _) dX2_isPeer_3 ?_
  refine lv_iconst (v := 1) hx hb dX2_isPeer_6 (by decide) ?_
  refine lv_isub hx hb dX2_isPeer_7 ?_
  refine kS0 (As := [.int x, .int 0, .int ((nI (g_N S)) - 1)]) (rest := []) (o := some (.int (if x < 0 then 0 else if ((nI (g_N S)) - 1) < x then 0 else 1))) ⟨hx, hb, hml, hown, hts⟩ (c_X2_within l D cI cZ cP x 0 ((nI (g_N S)) - 1)) (va_cwS 3 hts gX2_isPeer_X2_within rfl rfl rfl (by decide +kernel) ⟨Nat.le_of_ble_eq_true rfl, Nat.le_of_ble_eq_true rfl⟩) hK hN hP hD hS rfl hl.1 rfl (Nat.le_of_ble_eq_true rfl) ⟨Nat.zero_le _, Nat.zero_le _⟩ dX2_isPeer_8 (fun H locs hP hD hS => ?_)
  exact k_zret hx hb hr hlk hP hS hAe (by split <;> (try split) <;> rfl) (wi_P hn x) rfl dX2_isPeer_11

set_option maxRecDepth 100000 in
set_option maxHeartbeats 4000000 in
theorem c_X2_refused (l : Launch) (D : va_G) (cI cZ cP : ClassId) (md : Nat → Nat) (S : ST) (x t f : Int32) (hn : g_N S ≤ 5) : MM l yX2_refused wsX2_refused ({ frames := 2, cells := 0, slots := 0, locals := 43 }) D (kTy cI cZ cP) [.ref (md 0), .int x, .int t, .int f] (mW cI cZ md S) (some (.int (q_Rf (g_N S) x t f))) (mW cI cZ md S) := by
  refine MM.ofW (cc := cX2_refused) (maxL := 4) (ret := (some .int)) (by decide) rfl (Nat.le_of_ble_eq_true rfl) ?_
  intro p e s m below meth c ls A hx hb hr hlk hml hts hown hK hN hP hD hS hAe hl
  have hown : s.vm.findClass RX2 = some m.cls := hown
  have hi2 : ∀ w ∈ wsX20, w ∈ wsX2_refused := fun w h => List.mem_cons_of_mem _ (List.mem_append_right _ h)
  have hl : lv_has ls 4 [(0, .ref (md 0)), (1, .int x), (2, .int t), (3, .int f)] := hl
  refine lv_aload_n hx hb dX2_refused_0 rfl (lv_at hl 0 rfl) ?_
  refine lv_iload_n hx hb dX2_refused_1 rfl (lv_at hl 1 rfl) ?_
  refine kV (As := [.int x]) (rest := []) (Wc := (mW cI cZ md S)) (Wc1 := (mW cI cZ md S)) (Wd1 := (mW cI cZ md S)) (o := some (.int (if okP (g_N S) x then 1 else 0))) ⟨hx, hb, hml, hown, hts⟩ (c_X2_isPeer l D cI cZ cP md S x hn) (cwV 1 hts gX2_refused_X2_isPeer rfl rfl rfl (by decide +kernel) ⟨Nat.le_of_ble_eq_true rfl, Nat.le_of_ble_eq_true rfl⟩) hK hN hP hD hS (fun j => j) (fun _ _ h => h) (fun _ _ _ _ h => h) (mAdr _ _ _ _ _) (fun k q h => Or.inl ⟨k, h⟩) 0 2 rfl rfl (mO _ _ _ _) rfl hl.1 rfl (Nat.le_of_ble_eq_true rfl) ⟨Nat.zero_le _, Nat.zero_le _⟩ dX2_refused_2 (fun H locs hP hD hS => ?_)
  by_cases hp : okP (g_N S) x
  · refine k_top (if_pos hp) ?_
    refine lv_if_ne (tgt := 12) hx hb dX2_refused_5 (by decide) (fun _ => ?_) (fun c_ => absurd c_ (by decide))
    refine lv_iload_n hx hb dX2_refused_12 rfl (lv_at hl 2 rfl) ?_
    refine lv_iload_n hx hb dX2_refused_13 rfl (lv_at hl 3 rfl) ?_
    refine kS0 (As := [.int t, .int f]) (rest := []) (o := some (.int (if okR t f then 1 else 0))) ⟨hx, hb, hml, hown, hts⟩ (c_X2_isRoute l D cI cZ cP t f) (va_cwS 2 hts gX2_refused_X2_isRoute rfl rfl rfl (by decide +kernel) ⟨Nat.le_of_ble_eq_true rfl, Nat.le_of_ble_eq_true rfl⟩) hK hN hP hD hS rfl hl.1 rfl (Nat.le_of_ble_eq_true rfl) ⟨Nat.zero_le _, Nat.zero_le _⟩ dX2_refused_14 (fun H locs hP hD hS => ?_)
    by_cases hr9 : okR t f
    · refine k_top (if_pos hr9) ?_
      refine lv_if_ne (tgt := 25) hx hb dX2_refused_17 (by decide) (fun _ => ?_) (fun c_ => absurd c_ (by decide))
      refine lv_iconst (v := 0) hx hb dX2_refused_25 (by decide) ?_
      exact k_iret hx hb hr hlk hP hS hAe (by rw [q_Rf, if_pos hp, if_pos hr9]) rfl dX2_refused_26
    · refine k_top (if_neg hr9) ?_
      refine lv_if_ne (tgt := 25) hx hb dX2_refused_17 (by decide) (fun c_ => absurd (by decide) c_) (fun _ => ?_)
      refine lv_bipush (v := -2) hx hb dX2_refused_20 (by decide) ?_
      refine lv_goto (tgt := 26) hx hb dX2_refused_22 (by decide) ?_
      exact k_iret hx hb hr hlk hP hS hAe (by rw [q_Rf, if_pos hp, if_neg hr9]) rfl dX2_refused_26
  · refine k_top (if_neg hp) ?_
    refine lv_if_ne (tgt := 12) hx hb dX2_refused_5 (by decide) (fun c_ => absurd (by decide) c_) (fun _ => ?_)
    refine lv_iconst (v := -1) hx hb dX2_refused_8 (by decide) ?_
    refine lv_goto (tgt := 26) hx hb dX2_refused_9 (by decide) ?_
    exact k_iret hx hb hr hlk hP hS hAe (by rw [q_Rf, if_neg hp]) rfl dX2_refused_26

set_option maxRecDepth 100000 in
set_option maxHeartbeats 4000000 in
theorem c_X2_isDeferring (l : Launch) (D : va_G) (cI cZ cP : ClassId) (md : Nat → Nat) (S : ST)  : MM l yX2_isDeferring wsX2_isDeferring ({ frames := 0, cells := 0, slots := 0, locals := 0 }) D (kTy cI cZ cP) [.ref (md 0)] (mW cI cZ md S) (some (.int (if g_Df S = 0 then 0 else 1))) (mW cI cZ md S) := by
  refine MM.ofW (cc := cX2_isDeferring) (maxL := 1) (ret := (some .int)) (by decide) rfl (Nat.le_of_ble_eq_true rfl) ?_
  intro p e s m below meth c ls A hx hb hr hlk hml hts hown hK hN hP hD hS hAe hl
  have hown : s.vm.findClass RX2 = some m.cls := hown
  have hi2 : ∀ w ∈ wsX20, w ∈ wsX2_isDeferring := fun w h => List.mem_cons_of_mem _ (List.mem_append_right _ h)
  have hl : lv_has ls 1 [(0, .ref (md 0))] := hl
  refine lv_aload_n hx hb dX2_isDeferring_0 rfl (lv_at hl 0 rfl) ?_
  refine va_get (D := D) (ci := 2) (v := .int (g_Df S)) (C := RX2) (T := TX2) (N := 16) hx hb hts hi2 hown hK hP 0 (mO _ _ _ _) rfl 14 (by decide) (hts (.fieldLink RX2 70 "GracefulRestartModel" "isDeferringNow" "Z") (List.mem_of_getElem? (i := 1) rfl)) (fun _ h9 => h9) (mV_Df _ _) dX2_isDeferring_1 ?_
  refine lv_if_eq (tgt := 11) hx hb dX2_isDeferring_4 (by decide) (fun c_4 => ?_) (fun c_4 => ?_)
  · refine lv_iconst (v := 0) hx hb dX2_isDeferring_11 (by decide) ?_
    exact k_iret hx hb hr hlk hP hS hAe (by simp [c_4]) rfl dX2_isDeferring_12
  · refine lv_iconst (v := 1) hx hb dX2_isDeferring_7 (by decide) ?_
    refine lv_goto (tgt := 12) hx hb dX2_isDeferring_8 (by decide) ?_
    exact k_iret hx hb hr hlk hP hS hAe (by simp [c_4]) rfl dX2_isDeferring_12

set_option maxRecDepth 100000 in
set_option maxHeartbeats 4000000 in
theorem c_X2_deferralTimer (l : Launch) (D : va_G) (cI cZ cP : ClassId) (md : Nat → Nat) (S : ST)  : MM l yX2_deferralTimer wsX2_deferralTimer ({ frames := 0, cells := 0, slots := 0, locals := 0 }) D (kTy cI cZ cP) [.ref (md 0)] (mW cI cZ md S) (some (.int (g_Dl S))) (mW cI cZ md S) := by
  refine MM.ofW (cc := cX2_deferralTimer) (maxL := 1) (ret := (some .int)) (by decide) rfl (Nat.le_of_ble_eq_true rfl) ?_
  intro p e s m below meth c ls A hx hb hr hlk hml hts hown hK hN hP hD hS hAe hl
  have hown : s.vm.findClass RX2 = some m.cls := hown
  have hi2 : ∀ w ∈ wsX20, w ∈ wsX2_deferralTimer := fun w h => List.mem_cons_of_mem _ (List.mem_append_right _ h)
  have hl : lv_has ls 1 [(0, .ref (md 0))] := hl
  refine lv_aload_n hx hb dX2_deferralTimer_0 rfl (lv_at hl 0 rfl) ?_
  refine va_get (D := D) (ci := 2) (v := .int (g_Dl S)) (C := RX2) (T := TX2) (N := 16) hx hb hts hi2 hown hK hP 0 (mO _ _ _ _) rfl 15 (by decide) (hts (.fieldLink RX2 78 "GracefulRestartModel" "deferralTimerNow" "I") (List.mem_of_getElem? (i := 1) rfl)) (fun _ h9 => h9) (mV_Dl _ _) dX2_deferralTimer_1 ?_
  exact k_iret hx hb hr hlk hP hS hAe rfl rfl dX2_deferralTimer_4

set_option maxRecDepth 100000 in
set_option maxHeartbeats 4000000 in
theorem c_X2_sessionState (l : Launch) (D : va_G) (cI cZ cP : ClassId) (md : Nat → Nat) (S : ST) (x : Int32) (hn : g_N S ≤ 5) : MM l yX2_sessionState wsX2_sessionState ({ frames := 2, cells := 0, slots := 0, locals := 43 }) D (kTy cI cZ cP) [.ref (md 0), .int x] (mW cI cZ md S) (some (.int (if okP (g_N S) x then g_St S (kx x) else -1))) (mW cI cZ md S) := by
  refine MM.ofW (cc := cX2_sessionState) (maxL := 2) (ret := (some .int)) (by decide) rfl (Nat.le_of_ble_eq_true rfl) ?_
  intro p e s m below meth c ls A hx hb hr hlk hml hts hown hK hN hP hD hS hAe hl
  have hown : s.vm.findClass RX2 = some m.cls := hown
  have hi2 : ∀ w ∈ wsX20, w ∈ wsX2_sessionState := fun w h => List.mem_cons_of_mem _ (List.mem_append_right _ h)
  have hl : lv_has ls 2 [(0, .ref (md 0)), (1, .int x)] := hl
  refine lv_aload_n hx hb dX2_sessionState_0 rfl (lv_at hl 0 rfl) ?_
  refine lv_iload_n hx hb dX2_sessionState_1 rfl (lv_at hl 1 rfl) ?_
  refine kV (As := [.int x]) (rest := []) (Wc := (mW cI cZ md S)) (Wc1 := (mW cI cZ md S)) (Wd1 := (mW cI cZ md S)) (o := some (.int (if okP (g_N S) x then 1 else 0))) ⟨hx, hb, hml, hown, hts⟩ (c_X2_isPeer l D cI cZ cP md S x hn) (cwV 1 hts gX2_sessionState_X2_isPeer rfl rfl rfl (by decide +kernel) ⟨Nat.le_of_ble_eq_true rfl, Nat.le_of_ble_eq_true rfl⟩) hK hN hP hD hS (fun j => j) (fun _ _ h => h) (fun _ _ _ _ h => h) (mAdr _ _ _ _ _) (fun k q h => Or.inl ⟨k, h⟩) 0 2 rfl rfl (mO _ _ _ _) rfl hl.1 rfl (Nat.le_of_ble_eq_true rfl) ⟨Nat.zero_le _, Nat.zero_le _⟩ dX2_sessionState_2 (fun H locs hP hD hS => ?_)
  by_cases hp : okP (g_N S) x
  · refine k_top (if_pos hp) ?_
    obtain ⟨k, hk, rfl⟩ := okP_nat hn hp
    have hk5 : k < 5 := by omega
    have kxe : kx (nI k) = k := kx_n (by omega)
    refine lv_if_eq (tgt := 17) hx hb dX2_sessionState_5 (by decide) (fun c_ => absurd c_ (by decide)) (fun _ => ?_)
    refine lv_aload_n hx hb dX2_sessionState_8 rfl (lv_at hl 0 rfl) ?_
    refine va_get (D := D) (ci := 2) (v := .ref (md 2)) (C := RX2) (T := TX2) (N := 16) hx hb hts hi2 hown hK hP 0 (mO _ _ _ _) rfl 5 (by decide) (hts (.fieldLink RX2 23 "GracefulRestartModel" "stateOf" "[I") (List.mem_of_getElem? (i := 1) rfl)) (fun _ h9 => h9) (mV_5 _ _) dX2_sessionState_9 ?_
    refine lv_iload_n hx hb dX2_sessionState_12 rfl (lv_at hl 1 rfl) ?_
    refine k_iald (k := k) hx hb hK hP 2 0 (mG_St _ _ _ _) rfl rfl (by omega) (by decide) dX2_sessionState_13 ?_
    refine lv_goto (tgt := 18) hx hb dX2_sessionState_14 (by decide) ?_
    exact k_iret hx hb hr hlk hP hS hAe (by rw [if_pos hp, kxe]) rfl dX2_sessionState_18
  · refine k_top (if_neg hp) ?_
    refine lv_if_eq (tgt := 17) hx hb dX2_sessionState_5 (by decide) (fun _ => ?_) (fun c_ => absurd (by decide) c_)
    refine lv_iconst (v := -1) hx hb dX2_sessionState_17 (by decide) ?_
    exact k_iret hx hb hr hlk hP hS hAe (by rw [if_neg hp]) rfl dX2_sessionState_18

set_option maxRecDepth 100000 in
set_option maxHeartbeats 4000000 in
theorem c_X2_restartTimer (l : Launch) (D : va_G) (cI cZ cP : ClassId) (md : Nat → Nat) (S : ST) (x : Int32) (hn : g_N S ≤ 5) : MM l yX2_restartTimer wsX2_restartTimer ({ frames := 2, cells := 0, slots := 0, locals := 43 }) D (kTy cI cZ cP) [.ref (md 0), .int x] (mW cI cZ md S) (some (.int (if okP (g_N S) x then g_Rt S (kx x) else -1))) (mW cI cZ md S) := by
  refine MM.ofW (cc := cX2_restartTimer) (maxL := 2) (ret := (some .int)) (by decide) rfl (Nat.le_of_ble_eq_true rfl) ?_
  intro p e s m below meth c ls A hx hb hr hlk hml hts hown hK hN hP hD hS hAe hl
  have hown : s.vm.findClass RX2 = some m.cls := hown
  have hi2 : ∀ w ∈ wsX20, w ∈ wsX2_restartTimer := fun w h => List.mem_cons_of_mem _ (List.mem_append_right _ h)
  have hl : lv_has ls 2 [(0, .ref (md 0)), (1, .int x)] := hl
  refine lv_aload_n hx hb dX2_restartTimer_0 rfl (lv_at hl 0 rfl) ?_
  refine lv_iload_n hx hb dX2_restartTimer_1 rfl (lv_at hl 1 rfl) ?_
  refine kV (As := [.int x]) (rest := []) (Wc := (mW cI cZ md S)) (Wc1 := (mW cI cZ md S)) (Wd1 := (mW cI cZ md S)) (o := some (.int (if okP (g_N S) x then 1 else 0))) ⟨hx, hb, hml, hown, hts⟩ (c_X2_isPeer l D cI cZ cP md S x hn) (cwV 1 hts gX2_restartTimer_X2_isPeer rfl rfl rfl (by decide +kernel) ⟨Nat.le_of_ble_eq_true rfl, Nat.le_of_ble_eq_true rfl⟩) hK hN hP hD hS (fun j => j) (fun _ _ h => h) (fun _ _ _ _ h => h) (mAdr _ _ _ _ _) (fun k q h => Or.inl ⟨k, h⟩) 0 2 rfl rfl (mO _ _ _ _) rfl hl.1 rfl (Nat.le_of_ble_eq_true rfl) ⟨Nat.zero_le _, Nat.zero_le _⟩ dX2_restartTimer_2 (fun H locs hP hD hS => ?_)
  by_cases hp : okP (g_N S) x
  · refine k_top (if_pos hp) ?_
    obtain ⟨k, hk, rfl⟩ := okP_nat hn hp
    have hk5 : k < 5 := by omega
    have kxe : kx (nI k) = k := kx_n (by omega)
    refine lv_if_eq (tgt := 17) hx hb dX2_restartTimer_5 (by decide) (fun c_ => absurd c_ (by decide)) (fun _ => ?_)
    refine lv_aload_n hx hb dX2_restartTimer_8 rfl (lv_at hl 0 rfl) ?_
    refine va_get (D := D) (ci := 2) (v := .ref (md 3)) (C := RX2) (T := TX2) (N := 16) hx hb hts hi2 hown hK hP 0 (mO _ _ _ _) rfl 6 (by decide) (hts (.fieldLink RX2 27 "GracefulRestartModel" "restartTimerOf" "[I") (List.mem_of_getElem? (i := 1) rfl)) (fun _ h9 => h9) (mV_6 _ _) dX2_restartTimer_9 ?_
    refine lv_iload_n hx hb dX2_restartTimer_12 rfl (lv_at hl 1 rfl) ?_
    refine k_iald (k := k) hx hb hK hP 3 0 (mG_Rt _ _ _ _) rfl rfl (by omega) (by decide) dX2_restartTimer_13 ?_
    refine lv_goto (tgt := 18) hx hb dX2_restartTimer_14 (by decide) ?_
    exact k_iret hx hb hr hlk hP hS hAe (by rw [if_pos hp, kxe]) rfl dX2_restartTimer_18
  · refine k_top (if_neg hp) ?_
    refine lv_if_eq (tgt := 17) hx hb dX2_restartTimer_5 (by decide) (fun _ => ?_) (fun c_ => absurd (by decide) c_)
    refine lv_iconst (v := -1) hx hb dX2_restartTimer_17 (by decide) ?_
    exact k_iret hx hb hr hlk hP hS hAe (by rw [if_neg hp]) rfl dX2_restartTimer_18

set_option maxRecDepth 100000 in
set_option maxHeartbeats 4000000 in
theorem c_X2_staleTimer (l : Launch) (D : va_G) (cI cZ cP : ClassId) (md : Nat → Nat) (S : ST) (x : Int32) (hn : g_N S ≤ 5) : MM l yX2_staleTimer wsX2_staleTimer ({ frames := 2, cells := 0, slots := 0, locals := 43 }) D (kTy cI cZ cP) [.ref (md 0), .int x] (mW cI cZ md S) (some (.int (if okP (g_N S) x then g_Sl S (kx x) else -1))) (mW cI cZ md S) := by
  refine MM.ofW (cc := cX2_staleTimer) (maxL := 2) (ret := (some .int)) (by decide) rfl (Nat.le_of_ble_eq_true rfl) ?_
  intro p e s m below meth c ls A hx hb hr hlk hml hts hown hK hN hP hD hS hAe hl
  have hown : s.vm.findClass RX2 = some m.cls := hown
  have hi2 : ∀ w ∈ wsX20, w ∈ wsX2_staleTimer := fun w h => List.mem_cons_of_mem _ (List.mem_append_right _ h)
  have hl : lv_has ls 2 [(0, .ref (md 0)), (1, .int x)] := hl
  refine lv_aload_n hx hb dX2_staleTimer_0 rfl (lv_at hl 0 rfl) ?_
  refine lv_iload_n hx hb dX2_staleTimer_1 rfl (lv_at hl 1 rfl) ?_
  refine kV (As := [.int x]) (rest := []) (Wc := (mW cI cZ md S)) (Wc1 := (mW cI cZ md S)) (Wd1 := (mW cI cZ md S)) (o := some (.int (if okP (g_N S) x then 1 else 0))) ⟨hx, hb, hml, hown, hts⟩ (c_X2_isPeer l D cI cZ cP md S x hn) (cwV 1 hts gX2_staleTimer_X2_isPeer rfl rfl rfl (by decide +kernel) ⟨Nat.le_of_ble_eq_true rfl, Nat.le_of_ble_eq_true rfl⟩) hK hN hP hD hS (fun j => j) (fun _ _ h => h) (fun _ _ _ _ h => h) (mAdr _ _ _ _ _) (fun k q h => Or.inl ⟨k, h⟩) 0 2 rfl rfl (mO _ _ _ _) rfl hl.1 rfl (Nat.le_of_ble_eq_true rfl) ⟨Nat.zero_le _, Nat.zero_le _⟩ dX2_staleTimer_2 (fun H locs hP hD hS => ?_)
  by_cases hp : okP (g_N S) x
  · refine k_top (if_pos hp) ?_
    obtain ⟨k, hk, rfl⟩ := okP_nat hn hp
    have hk5 : k < 5 := by omega
    have kxe : kx (nI k) = k := kx_n (by omega)
    refine lv_if_eq (tgt := 17) hx hb dX2_staleTimer_5 (by decide) (fun c_ => absurd c_ (by decide)) (fun _ => ?_)
    refine lv_aload_n hx hb dX2_staleTimer_8 rfl (lv_at hl 0 rfl) ?_
    refine va_get (D := D) (ci := 2) (v := .ref (md 4)) (C := RX2) (T := TX2) (N := 16) hx hb hts hi2 hown hK hP 0 (mO _ _ _ _) rfl 7 (by decide) (hts (.fieldLink RX2 30 "GracefulRestartModel" "staleTimerOf" "[I") (List.mem_of_getElem? (i := 1) rfl)) (fun _ h9 => h9) (mV_7 _ _) dX2_staleTimer_9 ?_
    refine lv_iload_n hx hb dX2_staleTimer_12 rfl (lv_at hl 1 rfl) ?_
    refine k_iald (k := k) hx hb hK hP 4 0 (mG_Sl _ _ _ _) rfl rfl (by omega) (by decide) dX2_staleTimer_13 ?_
    refine lv_goto (tgt := 18) hx hb dX2_staleTimer_14 (by decide) ?_
    exact k_iret hx hb hr hlk hP hS hAe (by rw [if_pos hp, kxe]) rfl dX2_staleTimer_18
  · refine k_top (if_neg hp) ?_
    refine lv_if_eq (tgt := 17) hx hb dX2_staleTimer_5 (by decide) (fun _ => ?_) (fun c_ => absurd (by decide) c_)
    refine lv_iconst (v := -1) hx hb dX2_staleTimer_17 (by decide) ?_
    exact k_iret hx hb hr hlk hP hS hAe (by rw [if_neg hp]) rfl dX2_staleTimer_18

set_option maxRecDepth 100000 in
set_option maxHeartbeats 4000000 in
theorem c_X2_nextHop (l : Launch) (D : va_G) (cI cZ cP : ClassId) (md : Nat → Nat) (S : ST) (t f : Int32) : MM l yX2_nextHop wsX2_nextHop ({ frames := 2, cells := 0, slots := 0, locals := 43 }) D (kTy cI cZ cP) [.ref (md 0), .int t, .int f] (mW cI cZ md S) (some (.int (if okR t f then g_Ho S (rx t f) else -2))) (mW cI cZ md S) := by
  refine MM.ofW (cc := cX2_nextHop) (maxL := 3) (ret := (some .int)) (by decide) rfl (Nat.le_of_ble_eq_true rfl) ?_
  intro p e s m below meth c ls A hx hb hr hlk hml hts hown hK hN hP hD hS hAe hl
  have hown : s.vm.findClass RX2 = some m.cls := hown
  have hi2 : ∀ w ∈ wsX20, w ∈ wsX2_nextHop := fun w h => List.mem_cons_of_mem _ (List.mem_append_right _ h)
  have hl : lv_has ls 3 [(0, .ref (md 0)), (1, .int t), (2, .int f)] := hl
  refine lv_iload_n hx hb dX2_nextHop_0 rfl (lv_at hl 1 rfl) ?_
  refine lv_iload_n hx hb dX2_nextHop_1 rfl (lv_at hl 2 rfl) ?_
  refine kS0 (As := [.int t, .int f]) (rest := []) (o := some (.int (if okR t f then 1 else 0))) ⟨hx, hb, hml, hown, hts⟩ (c_X2_isRoute l D cI cZ cP t f) (va_cwS 2 hts gX2_nextHop_X2_isRoute rfl rfl rfl (by decide +kernel) ⟨Nat.le_of_ble_eq_true rfl, Nat.le_of_ble_eq_true rfl⟩) hK hN hP hD hS rfl hl.1 rfl (Nat.le_of_ble_eq_true rfl) ⟨Nat.zero_le _, Nat.zero_le _⟩ dX2_nextHop_2 (fun H locs hP hD hS => ?_)
  by_cases hr9 : okR t f
  · refine k_top (if_pos hr9) ?_
    obtain ⟨a9, b9, ha9, hb9, rfl, rfl⟩ := okR_nat hr9
    have rxe : rx (nI a9) (nI b9) = 8 * a9 + b9 := rx_n (by omega) (by omega)
    have hr16 : 8 * a9 + b9 < 16 := by omega
    refine lv_if_eq (tgt := 22) hx hb dX2_nextHop_5 (by decide) (fun c_ => absurd c_ (by decide)) (fun _ => ?_)
    refine lv_aload_n hx hb dX2_nextHop_8 rfl (lv_at hl 0 rfl) ?_
    refine va_get (D := D) (ci := 2) (v := .ref (md 9)) (C := RX2) (T := TX2) (N := 16) hx hb hts hi2 hown hK hP 0 (mO _ _ _ _) rfl 12 (by decide) (hts (.fieldLink RX2 45 "GracefulRestartModel" "hopOf" "[I") (List.mem_of_getElem? (i := 1) rfl)) (fun _ h9 => h9) (mV_12 _ _) dX2_nextHop_9 ?_
    refine lv_bipush (v := 8) hx hb dX2_nextHop_12 (by decide) ?_
    refine lv_iload_n hx hb dX2_nextHop_14 rfl (lv_at hl 1 rfl) ?_
    refine lv_imul hx hb dX2_nextHop_15 ?_
    refine k_top (nx8 a9) ?_
    refine lv_iload_n hx hb dX2_nextHop_16 rfl (lv_at hl 2 rfl) ?_
    refine lv_iadd hx hb dX2_nextHop_17 ?_
    refine k_top (nI_add (8 * a9) b9) ?_
    refine k_iald (k := 8 * a9 + b9) hx hb hK hP 9 0 (mG_Ho _ _ _ _) rfl rfl (by omega) (by decide) dX2_nextHop_18 ?_
    refine lv_goto (tgt := 24) hx hb dX2_nextHop_19 (by decide) ?_
    exact k_iret hx hb hr hlk hP hS hAe (by rw [if_pos hr9, rxe]) rfl dX2_nextHop_24
  · refine k_top (if_neg hr9) ?_
    refine lv_if_eq (tgt := 22) hx hb dX2_nextHop_5 (by decide) (fun _ => ?_) (fun c_ => absurd (by decide) c_)
    refine lv_bipush (v := -2) hx hb dX2_nextHop_22 (by decide) ?_
    exact k_iret hx hb hr hlk hP hS hAe (by rw [if_neg hr9]) rfl dX2_nextHop_24

set_option maxRecDepth 100000 in
set_option maxHeartbeats 4000000 in
theorem c_X2_isEntryStale (l : Launch) (D : va_G) (cI cZ cP : ClassId) (md : Nat → Nat) (S : ST) (t f : Int32) : MM l yX2_isEntryStale wsX2_isEntryStale ({ frames := 2, cells := 0, slots := 0, locals := 43 }) D (kTy cI cZ cP) [.ref (md 0), .int t, .int f] (mW cI cZ md S) (some (.int (if okR t f then (if g_Ho S (rx t f) = -6 then -6 else if g_Hz S (rx t f) = 0 then 0 else 1) else -2))) (mW cI cZ md S) := by
  refine MM.ofW (cc := cX2_isEntryStale) (maxL := 4) (ret := (some .int)) (by decide) rfl (Nat.le_of_ble_eq_true rfl) ?_
  intro p e s m below meth c ls A hx hb hr hlk hml hts hown hK hN hP hD hS hAe hl
  have hown : s.vm.findClass RX2 = some m.cls := hown
  have hi2 : ∀ w ∈ wsX20, w ∈ wsX2_isEntryStale := fun w h => List.mem_cons_of_mem _ (List.mem_append_right _ h)
  have hl : lv_has ls 4 [(0, .ref (md 0)), (1, .int t), (2, .int f)] := hl
  refine lv_iload_n hx hb dX2_isEntryStale_0 rfl (lv_at hl 1 rfl) ?_
  refine lv_iload_n hx hb dX2_isEntryStale_1 rfl (lv_at hl 2 rfl) ?_
  refine kS0 (As := [.int t, .int f]) (rest := []) (o := some (.int (if okR t f then 1 else 0))) ⟨hx, hb, hml, hown, hts⟩ (c_X2_isRoute l D cI cZ cP t f) (va_cwS 2 hts gX2_isEntryStale_X2_isRoute rfl rfl rfl (by decide +kernel) ⟨Nat.le_of_ble_eq_true rfl, Nat.le_of_ble_eq_true rfl⟩) hK hN hP hD hS rfl hl.1 rfl (Nat.le_of_ble_eq_true rfl) ⟨Nat.zero_le _, Nat.zero_le _⟩ dX2_isEntryStale_2 (fun H locs hP hD hS => ?_)
  by_cases hr9 : okR t f
  · refine k_top (if_pos hr9) ?_
    obtain ⟨a9, b9, ha9, hb9, rfl, rfl⟩ := okR_nat hr9
    have rxe : rx (nI a9) (nI b9) = 8 * a9 + b9 := rx_n (by omega) (by omega)
    have hr16 : 8 * a9 + b9 < 16 := by omega
    refine lv_if_ne (tgt := 11) hx hb dX2_isEntryStale_5 (by decide) (fun _ => ?_) (fun c_ => absurd c_ (by decide))
    refine lv_bipush (v := 8) hx hb dX2_isEntryStale_11 (by decide) ?_
    refine lv_iload_n hx hb dX2_isEntryStale_13 rfl (lv_at hl 1 rfl) ?_
    refine lv_imul hx hb dX2_isEntryStale_14 ?_
    refine k_top (nx8 a9) ?_
    refine lv_iload_n hx hb dX2_isEntryStale_15 rfl (lv_at hl 2 rfl) ?_
    refine lv_iadd hx hb dX2_isEntryStale_16 ?_
    refine k_top (nI_add (8 * a9) b9) ?_
    refine lv_istore_n (lv' := [(3, .int (nI (8 * a9 + b9))), (0, .ref (md 0)), (1, .int (nI a9)), (2, .int (nI b9))]) hx hb dX2_isEntryStale_17 rfl hl (by decide) rfl (fun ls hl => ?_)
    refine lv_aload_n hx hb dX2_isEntryStale_18 rfl (lv_at hl 1 rfl) ?_
    refine va_get (D := D) (ci := 2) (v := .ref (md 9)) (C := RX2) (T := TX2) (N := 16) hx hb hts hi2 hown hK hP 0 (mO _ _ _ _) rfl 12 (by decide) (hts (.fieldLink RX2 45 "GracefulRestartModel" "hopOf" "[I") (List.mem_of_getElem? (i := 1) rfl)) (fun _ h9 => h9) (mV_12 _ _) dX2_isEntryStale_19 ?_
    refine lv_iload_n hx hb dX2_isEntryStale_22 rfl (lv_at hl 0 rfl) ?_
    refine k_iald (k := 8 * a9 + b9) hx hb hK hP 9 0 (mG_Ho _ _ _ _) rfl rfl (by omega) (by decide) dX2_isEntryStale_23 ?_
    refine lv_bipush (v := -6) hx hb dX2_isEntryStale_24 (by decide) ?_
    refine lv_icmp_ne (tgt := 34) hx hb dX2_isEntryStale_26 (by decide) (fun c_26 => ?_) (fun c_26 => ?_)
    · refine lv_aload_n hx hb dX2_isEntryStale_34 rfl (lv_at hl 1 rfl) ?_
      refine va_get (D := D) (ci := 2) (v := .ref (md 10)) (C := RX2) (T := TX2) (N := 16) hx hb hts hi2 hown hK hP 0 (mO _ _ _ _) rfl 13 (by decide) (hts (.fieldLink RX2 48 "GracefulRestartModel" "isStaleHop" "[Z") (List.mem_of_getElem? (i := 2) rfl)) (fun _ h9 => h9) (mV_13 _ _) dX2_isEntryStale_35 ?_
      refine lv_iload_n hx hb dX2_isEntryStale_38 rfl (lv_at hl 0 rfl) ?_
      refine k_zald (k := 8 * a9 + b9) hx hb hK hP 10 1 (mG_Hz _ _ _ _) rfl rfl (by omega) (by decide) dX2_isEntryStale_39 ?_
      refine lv_if_eq (tgt := 47) hx hb dX2_isEntryStale_40 (by decide) (fun c_40 => ?_) (fun c_40 => ?_)
      · refine lv_iconst (v := 0) hx hb dX2_isEntryStale_47 (by decide) ?_
        exact k_iret hx hb hr hlk hP hS hAe (by rw [if_pos hr9, rxe]; simp [c_26, c_40]) rfl dX2_isEntryStale_48
      · refine lv_iconst (v := 1) hx hb dX2_isEntryStale_43 (by decide) ?_
        refine lv_goto (tgt := 48) hx hb dX2_isEntryStale_44 (by decide) ?_
        exact k_iret hx hb hr hlk hP hS hAe (by rw [if_pos hr9, rxe]; simp [c_26, c_40]) rfl dX2_isEntryStale_48
    · refine lv_bipush (v := -6) hx hb dX2_isEntryStale_29 (by decide) ?_
      refine lv_goto (tgt := 48) hx hb dX2_isEntryStale_31 (by decide) ?_
      exact k_iret hx hb hr hlk hP hS hAe (by rw [if_pos hr9, rxe]; simp [c_26]) rfl dX2_isEntryStale_48
  · refine k_top (if_neg hr9) ?_
    refine lv_if_ne (tgt := 11) hx hb dX2_isEntryStale_5 (by decide) (fun c_ => absurd (by decide) c_) (fun _ => ?_)
    refine lv_bipush (v := -2) hx hb dX2_isEntryStale_8 (by decide) ?_
    exact k_iret hx hb hr hlk hP hS hAe (by rw [if_neg hr9]) rfl dX2_isEntryStale_10

set_option maxRecDepth 100000 in
set_option maxHeartbeats 4000000 in
theorem c_X2_learnedLength (l : Launch) (D : va_G) (cI cZ cP : ClassId) (md : Nat → Nat) (S : ST) (x t f : Int32) (hn : g_N S ≤ 5) : MM l yX2_learnedLength wsX2_learnedLength ({ frames := 3, cells := 0, slots := 0, locals := 66 }) D (kTy cI cZ cP) [.ref (md 0), .int x, .int t, .int f] (mW cI cZ md S) (some (.int (q_LL S x t f))) (mW cI cZ md S) := by
  refine MM.ofW (cc := cX2_learnedLength) (maxL := 6) (ret := (some .int)) (by decide) rfl (Nat.le_of_ble_eq_true rfl) ?_
  intro p e s m below meth c ls A hx hb hr hlk hml hts hown hK hN hP hD hS hAe hl
  have hown : s.vm.findClass RX2 = some m.cls := hown
  have hi2 : ∀ w ∈ wsX20, w ∈ wsX2_learnedLength := fun w h => List.mem_cons_of_mem _ (List.mem_append_right _ h)
  have hl : lv_has ls 6 [(0, .ref (md 0)), (1, .int x), (2, .int t), (3, .int f)] := hl
  refine lv_aload_n hx hb dX2_learnedLength_0 rfl (lv_at hl 0 rfl) ?_
  refine lv_iload_n hx hb dX2_learnedLength_1 rfl (lv_at hl 1 rfl) ?_
  refine lv_iload_n hx hb dX2_learnedLength_2 rfl (lv_at hl 2 rfl) ?_
  refine lv_iload_n hx hb dX2_learnedLength_3 rfl (lv_at hl 3 rfl) ?_
  refine kV (As := [.int x, .int t, .int f]) (rest := []) (Wc := (mW cI cZ md S)) (Wc1 := (mW cI cZ md S)) (Wd1 := (mW cI cZ md S)) (o := some (.int (q_Rf (g_N S) x t f))) ⟨hx, hb, hml, hown, hts⟩ (c_X2_refused l D cI cZ cP md S x t f hn) (cwV 3 hts gX2_learnedLength_X2_refused rfl rfl rfl (by decide +kernel) ⟨Nat.le_of_ble_eq_true rfl, Nat.le_of_ble_eq_true rfl⟩) hK hN hP hD hS (fun j => j) (fun _ _ h => h) (fun _ _ _ _ h => h) (mAdr _ _ _ _ _) (fun k q h => Or.inl ⟨k, h⟩) 0 2 rfl rfl (mO _ _ _ _) rfl hl.1 rfl (Nat.le_of_ble_eq_true rfl) ⟨Nat.zero_le _, Nat.zero_le _⟩ dX2_learnedLength_4 (fun H locs hP hD hS => ?_)
  by_cases hp : okP (g_N S) x
  · by_cases hr9 : okR t f
    · refine k_top (y := 0) (by rw [q_Rf, if_pos hp, if_pos hr9]) ?_
      obtain ⟨k, hk, rfl⟩ := okP_nat hn hp
      have hk5 : k < 5 := by omega
      have kxe : kx (nI k) = k := kx_n (by omega)
      obtain ⟨a9, b9, ha9, hb9, rfl, rfl⟩ := okR_nat hr9
      have rxe : rx (nI a9) (nI b9) = 8 * a9 + b9 := rx_n (by omega) (by omega)
      have hr16 : 8 * a9 + b9 < 16 := by omega
      refine lv_istore (lv' := [(4, .int 0), (0, .ref (md 0)), (1, .int (nI k)), (2, .int (nI a9)), (3, .int (nI b9))]) hx hb dX2_learnedLength_7 hl (by decide) rfl (fun ls hl => ?_)
      refine lv_iload hx hb dX2_learnedLength_9 (lv_at hl 0 rfl) ?_
      refine lv_if_eq (tgt := 17) hx hb dX2_learnedLength_11 (by decide) (fun _ => ?_) (fun c_ => absurd (by decide) c_)
      refine lv_aload_n hx hb dX2_learnedLength_17 rfl (lv_at hl 1 rfl) ?_
      refine va_get (D := D) (ci := 2) (v := .ref (md 7)) (C := RX2) (T := TX2) (N := 16) hx hb hts hi2 hown hK hP 0 (mO _ _ _ _) rfl 10 (by decide) (hts (.fieldLink RX2 39 "GracefulRestartModel" "learned" "[I") (List.mem_of_getElem? (i := 1) rfl)) (fun _ h9 => h9) (mV_10 _ _) dX2_learnedLength_18 ?_
      refine lv_bipush (v := 16) hx hb dX2_learnedLength_21 (by decide) ?_
      refine lv_iload_n hx hb dX2_learnedLength_23 rfl (lv_at hl 2 rfl) ?_
      refine lv_imul hx hb dX2_learnedLength_24 ?_
      refine k_top (nx16 k) ?_
      refine lv_bipush (v := 8) hx hb dX2_learnedLength_25 (by decide) ?_
      refine lv_iload_n hx hb dX2_learnedLength_27 rfl (lv_at hl 3 rfl) ?_
      refine lv_imul hx hb dX2_learnedLength_28 ?_
      refine k_top (nx8 a9) ?_
      refine lv_iadd hx hb dX2_learnedLength_29 ?_
      refine k_top (nI_add (16 * k) (8 * a9)) ?_
      refine lv_iload_n hx hb dX2_learnedLength_30 rfl (lv_at hl 4 rfl) ?_
      refine lv_iadd hx hb dX2_learnedLength_31 ?_
      refine k_top (nI_add (16 * k + 8 * a9) b9) ?_
      refine k_iald (k := 16 * k + (8 * a9 + b9)) hx hb hK hP 7 0 (mG_Le _ _ _ _) rfl (congrArg nI (Nat.add_assoc _ _ _)) (by omega) (by decide) dX2_learnedLength_32 ?_
      refine k_top (y := (g_Le S) k (8 * a9 + b9)) (fl_at 16 _ (p := k) (r := (8 * a9 + b9)) (by omega)) ?_
      refine lv_istore (lv' := [(5, .int ((g_Le S) k (8 * a9 + b9))), (4, .int 0), (0, .ref (md 0)), (1, .int (nI k)), (2, .int (nI a9)), (3, .int (nI b9))]) hx hb dX2_learnedLength_33 hl (by decide) rfl (fun ls hl => ?_)
      refine lv_iload hx hb dX2_learnedLength_35 (lv_at hl 0 rfl) ?_
      refine lv_if_ne (tgt := 45) hx hb dX2_learnedLength_37 (by decide) (fun c_37 => ?_) (fun c_37 => ?_)
      · refine lv_iload hx hb dX2_learnedLength_45 (lv_at hl 0 rfl) ?_
        exact k_iret hx hb hr hlk hP hS hAe (by rw [q_LL, if_pos hp, if_pos hr9, kxe, rxe]; simp [c_37]) rfl dX2_learnedLength_47
      · refine lv_bipush (v := -6) hx hb dX2_learnedLength_40 (by decide) ?_
        refine lv_goto (tgt := 47) hx hb dX2_learnedLength_42 (by decide) ?_
        exact k_iret hx hb hr hlk hP hS hAe (by rw [q_LL, if_pos hp, if_pos hr9, kxe, rxe]; simp [c_37]) rfl dX2_learnedLength_47
    · refine k_top (y := -2) (by rw [q_Rf, if_pos hp, if_neg hr9]) ?_
      obtain ⟨k, hk, rfl⟩ := okP_nat hn hp
      have hk5 : k < 5 := by omega
      have kxe : kx (nI k) = k := kx_n (by omega)
      refine lv_istore (lv' := [(4, .int (-2)), (0, .ref (md 0)), (1, .int (nI k)), (2, .int t), (3, .int f)]) hx hb dX2_learnedLength_7 hl (by decide) rfl (fun ls hl => ?_)
      refine lv_iload hx hb dX2_learnedLength_9 (lv_at hl 0 rfl) ?_
      refine lv_if_eq (tgt := 17) hx hb dX2_learnedLength_11 (by decide) (fun c_ => absurd c_ (by decide)) (fun _ => ?_)
      refine lv_iload hx hb dX2_learnedLength_14 (lv_at hl 0 rfl) ?_
      exact k_iret hx hb hr hlk hP hS hAe (by rw [q_LL, if_pos hp, if_neg hr9]) rfl dX2_learnedLength_16
  · refine k_top (y := -1) (by rw [q_Rf, if_neg hp]) ?_
    refine lv_istore (lv' := [(4, .int (-1)), (0, .ref (md 0)), (1, .int x), (2, .int t), (3, .int f)]) hx hb dX2_learnedLength_7 hl (by decide) rfl (fun ls hl => ?_)
    refine lv_iload hx hb dX2_learnedLength_9 (lv_at hl 0 rfl) ?_
    refine lv_if_eq (tgt := 17) hx hb dX2_learnedLength_11 (by decide) (fun c_ => absurd c_ (by decide)) (fun _ => ?_)
    refine lv_iload hx hb dX2_learnedLength_14 (lv_at hl 0 rfl) ?_
    exact k_iret hx hb hr hlk hP hS hAe (by rw [q_LL, if_neg hp]) rfl dX2_learnedLength_16

set_option maxRecDepth 100000 in
set_option maxHeartbeats 4000000 in
theorem c_X2_isLearnedStale (l : Launch) (D : va_G) (cI cZ cP : ClassId) (md : Nat → Nat) (S : ST) (x t f : Int32) (hn : g_N S ≤ 5) : MM l yX2_isLearnedStale wsX2_isLearnedStale ({ frames := 3, cells := 0, slots := 0, locals := 66 }) D (kTy cI cZ cP) [.ref (md 0), .int x, .int t, .int f] (mW cI cZ md S) (some (.int (q_LS S x t f))) (mW cI cZ md S) := by
  refine MM.ofW (cc := cX2_isLearnedStale) (maxL := 6) (ret := (some .int)) (by decide) rfl (Nat.le_of_ble_eq_true rfl) ?_
  intro p e s m below meth c ls A hx hb hr hlk hml hts hown hK hN hP hD hS hAe hl
  have hown : s.vm.findClass RX2 = some m.cls := hown
  have hi2 : ∀ w ∈ wsX20, w ∈ wsX2_isLearnedStale := fun w h => List.mem_cons_of_mem _ (List.mem_append_right _ h)
  have hl : lv_has ls 6 [(0, .ref (md 0)), (1, .int x), (2, .int t), (3, .int f)] := hl
  refine lv_aload_n hx hb dX2_isLearnedStale_0 rfl (lv_at hl 0 rfl) ?_
  refine lv_iload_n hx hb dX2_isLearnedStale_1 rfl (lv_at hl 1 rfl) ?_
  refine lv_iload_n hx hb dX2_isLearnedStale_2 rfl (lv_at hl 2 rfl) ?_
  refine lv_iload_n hx hb dX2_isLearnedStale_3 rfl (lv_at hl 3 rfl) ?_
  refine kV (As := [.int x, .int t, .int f]) (rest := []) (Wc := (mW cI cZ md S)) (Wc1 := (mW cI cZ md S)) (Wd1 := (mW cI cZ md S)) (o := some (.int (q_Rf (g_N S) x t f))) ⟨hx, hb, hml, hown, hts⟩ (c_X2_refused l D cI cZ cP md S x t f hn) (cwV 3 hts gX2_isLearnedStale_X2_refused rfl rfl rfl (by decide +kernel) ⟨Nat.le_of_ble_eq_true rfl, Nat.le_of_ble_eq_true rfl⟩) hK hN hP hD hS (fun j => j) (fun _ _ h => h) (fun _ _ _ _ h => h) (mAdr _ _ _ _ _) (fun k q h => Or.inl ⟨k, h⟩) 0 2 rfl rfl (mO _ _ _ _) rfl hl.1 rfl (Nat.le_of_ble_eq_true rfl) ⟨Nat.zero_le _, Nat.zero_le _⟩ dX2_isLearnedStale_4 (fun H locs hP hD hS => ?_)
  by_cases hp : okP (g_N S) x
  · by_cases hr9 : okR t f
    · refine k_top (y := 0) (by rw [q_Rf, if_pos hp, if_pos hr9]) ?_
      obtain ⟨k, hk, rfl⟩ := okP_nat hn hp
      have hk5 : k < 5 := by omega
      have kxe : kx (nI k) = k := kx_n (by omega)
      obtain ⟨a9, b9, ha9, hb9, rfl, rfl⟩ := okR_nat hr9
      have rxe : rx (nI a9) (nI b9) = 8 * a9 + b9 := rx_n (by omega) (by omega)
      have hr16 : 8 * a9 + b9 < 16 := by omega
      refine lv_istore (lv' := [(4, .int 0), (0, .ref (md 0)), (1, .int (nI k)), (2, .int (nI a9)), (3, .int (nI b9))]) hx hb dX2_isLearnedStale_7 hl (by decide) rfl (fun ls hl => ?_)
      refine lv_iload hx hb dX2_isLearnedStale_9 (lv_at hl 0 rfl) ?_
      refine lv_if_eq (tgt := 17) hx hb dX2_isLearnedStale_11 (by decide) (fun _ => ?_) (fun c_ => absurd (by decide) c_)
      refine lv_bipush (v := 16) hx hb dX2_isLearnedStale_17 (by decide) ?_
      refine lv_iload_n hx hb dX2_isLearnedStale_19 rfl (lv_at hl 2 rfl) ?_
      refine lv_imul hx hb dX2_isLearnedStale_20 ?_
      refine k_top (nx16 k) ?_
      refine lv_bipush (v := 8) hx hb dX2_isLearnedStale_21 (by decide) ?_
      refine lv_iload_n hx hb dX2_isLearnedStale_23 rfl (lv_at hl 3 rfl) ?_
      refine lv_imul hx hb dX2_isLearnedStale_24 ?_
      refine k_top (nx8 a9) ?_
      refine lv_iadd hx hb dX2_isLearnedStale_25 ?_
      refine k_top (nI_add (16 * k) (8 * a9)) ?_
      refine lv_iload_n hx hb dX2_isLearnedStale_26 rfl (lv_at hl 4 rfl) ?_
      refine lv_iadd hx hb dX2_isLearnedStale_27 ?_
      refine k_top (nI_add (16 * k + 8 * a9) b9) ?_
      refine lv_istore (lv' := [(5, .int (nI (16 * k + 8 * a9 + b9))), (4, .int 0), (0, .ref (md 0)), (1, .int (nI k)), (2, .int (nI a9)), (3, .int (nI b9))]) hx hb dX2_isLearnedStale_28 hl (by decide) rfl (fun ls hl => ?_)
      refine lv_aload_n hx hb dX2_isLearnedStale_30 rfl (lv_at hl 2 rfl) ?_
      refine va_get (D := D) (ci := 2) (v := .ref (md 7)) (C := RX2) (T := TX2) (N := 16) hx hb hts hi2 hown hK hP 0 (mO _ _ _ _) rfl 10 (by decide) (hts (.fieldLink RX2 39 "GracefulRestartModel" "learned" "[I") (List.mem_of_getElem? (i := 1) rfl)) (fun _ h9 => h9) (mV_10 _ _) dX2_isLearnedStale_31 ?_
      refine lv_iload hx hb dX2_isLearnedStale_34 (lv_at hl 0 rfl) ?_
      refine k_iald (k := 16 * k + (8 * a9 + b9)) hx hb hK hP 7 0 (mG_Le _ _ _ _) rfl (congrArg nI (Nat.add_assoc _ _ _)) (by omega) (by decide) dX2_isLearnedStale_36 ?_
      refine k_top (y := (g_Le S) k (8 * a9 + b9)) (fl_at 16 _ (p := k) (r := (8 * a9 + b9)) (by omega)) ?_
      refine lv_if_ne (tgt := 45) hx hb dX2_isLearnedStale_37 (by decide) (fun c_37 => ?_) (fun c_37 => ?_)
      · refine lv_aload_n hx hb dX2_isLearnedStale_45 rfl (lv_at hl 2 rfl) ?_
        refine va_get (D := D) (ci := 2) (v := .ref (md 8)) (C := RX2) (T := TX2) (N := 16) hx hb hts hi2 hown hK hP 0 (mO _ _ _ _) rfl 11 (by decide) (hts (.fieldLink RX2 42 "GracefulRestartModel" "isStaleAt" "[Z") (List.mem_of_getElem? (i := 2) rfl)) (fun _ h9 => h9) (mV_11 _ _) dX2_isLearnedStale_46 ?_
        refine lv_iload hx hb dX2_isLearnedStale_49 (lv_at hl 0 rfl) ?_
        refine k_zald (k := 16 * k + (8 * a9 + b9)) hx hb hK hP 8 1 (mG_Ss _ _ _ _) rfl (congrArg nI (Nat.add_assoc _ _ _)) (by omega) (by decide) dX2_isLearnedStale_51 ?_
        refine k_top (y := (g_Ss S) k (8 * a9 + b9)) (fl_at 16 _ (p := k) (r := (8 * a9 + b9)) (by omega)) ?_
        refine lv_if_eq (tgt := 59) hx hb dX2_isLearnedStale_52 (by decide) (fun c_52 => ?_) (fun c_52 => ?_)
        · refine lv_iconst (v := 0) hx hb dX2_isLearnedStale_59 (by decide) ?_
          exact k_iret hx hb hr hlk hP hS hAe (by rw [q_LS, if_pos hp, if_pos hr9, kxe, rxe]; simp [c_37, c_52]) rfl dX2_isLearnedStale_60
        · refine lv_iconst (v := 1) hx hb dX2_isLearnedStale_55 (by decide) ?_
          refine lv_goto (tgt := 60) hx hb dX2_isLearnedStale_56 (by decide) ?_
          exact k_iret hx hb hr hlk hP hS hAe (by rw [q_LS, if_pos hp, if_pos hr9, kxe, rxe]; simp [c_37, c_52]) rfl dX2_isLearnedStale_60
      · refine lv_bipush (v := -6) hx hb dX2_isLearnedStale_40 (by decide) ?_
        refine lv_goto (tgt := 60) hx hb dX2_isLearnedStale_42 (by decide) ?_
        exact k_iret hx hb hr hlk hP hS hAe (by rw [q_LS, if_pos hp, if_pos hr9, kxe, rxe]; simp [c_37]) rfl dX2_isLearnedStale_60
    · refine k_top (y := -2) (by rw [q_Rf, if_pos hp, if_neg hr9]) ?_
      obtain ⟨k, hk, rfl⟩ := okP_nat hn hp
      have hk5 : k < 5 := by omega
      have kxe : kx (nI k) = k := kx_n (by omega)
      refine lv_istore (lv' := [(4, .int (-2)), (0, .ref (md 0)), (1, .int (nI k)), (2, .int t), (3, .int f)]) hx hb dX2_isLearnedStale_7 hl (by decide) rfl (fun ls hl => ?_)
      refine lv_iload hx hb dX2_isLearnedStale_9 (lv_at hl 0 rfl) ?_
      refine lv_if_eq (tgt := 17) hx hb dX2_isLearnedStale_11 (by decide) (fun c_ => absurd c_ (by decide)) (fun _ => ?_)
      refine lv_iload hx hb dX2_isLearnedStale_14 (lv_at hl 0 rfl) ?_
      exact k_iret hx hb hr hlk hP hS hAe (by rw [q_LS, if_pos hp, if_neg hr9]) rfl dX2_isLearnedStale_16
  · refine k_top (y := -1) (by rw [q_Rf, if_neg hp]) ?_
    refine lv_istore (lv' := [(4, .int (-1)), (0, .ref (md 0)), (1, .int x), (2, .int t), (3, .int f)]) hx hb dX2_isLearnedStale_7 hl (by decide) rfl (fun ls hl => ?_)
    refine lv_iload hx hb dX2_isLearnedStale_9 (lv_at hl 0 rfl) ?_
    refine lv_if_eq (tgt := 17) hx hb dX2_isLearnedStale_11 (by decide) (fun c_ => absurd c_ (by decide)) (fun _ => ?_)
    refine lv_iload hx hb dX2_isLearnedStale_14 (lv_at hl 0 rfl) ?_
    exact k_iret hx hb hr hlk hP hS hAe (by rw [q_LS, if_neg hp]) rfl dX2_isLearnedStale_16

set_option maxRecDepth 100000 in
set_option maxHeartbeats 4000000 in
theorem c_X2_forwards (l : Launch) (D : va_G) (cI cZ cP : ClassId) (md : Nat → Nat) (S : ST) (p9 r9 : Nat) (hp9 : p9 < 5) (hr9 : r9 < 16) : MM l yX2_forwards wsX2_forwards ({ frames := 0, cells := 0, slots := 0, locals := 0 }) D (kTy cI cZ cP) [.ref (md 0), .int (nI p9), .int (nI r9)] (mW cI cZ md S) (some (.int (o_Fw S p9 r9))) (mW cI cZ md S) := by
  refine MM.ofW (cc := cX2_forwards) (maxL := 3) (ret := (some .int)) (by decide) rfl (Nat.le_of_ble_eq_true rfl) ?_
  intro p e s m below meth c ls A hx hb hr hlk hml hts hown hK hN hP hD hS hAe hl
  have hown : s.vm.findClass RX2 = some m.cls := hown
  have hi2 : ∀ w ∈ wsX20, w ∈ wsX2_forwards := fun w h => List.mem_cons_of_mem _ (List.mem_append_right _ h)
  have hl : lv_has ls 3 [(0, .ref (md 0)), (1, .int (nI p9)), (2, .int (nI r9))] := hl
  refine lv_aload_n hx hb dX2_forwards_0 rfl (lv_at hl 0 rfl) ?_
  refine va_get (D := D) (ci := 2) (v := .ref (md 7)) (C := RX2) (T := TX2) (N := 16) hx hb hts hi2 hown hK hP 0 (mO _ _ _ _) rfl 10 (by decide) (hts (.fieldLink RX2 39 "GracefulRestartModel" "learned" "[I") (List.mem_of_getElem? (i := 1) rfl)) (fun _ h9 => h9) (mV_10 _ _) dX2_forwards_1 ?_
  refine lv_bipush (v := 16) hx hb dX2_forwards_4 (by decide) ?_
  refine lv_iload_n hx hb dX2_forwards_6 rfl (lv_at hl 1 rfl) ?_
  refine lv_imul hx hb dX2_forwards_7 ?_
  refine k_top (nx16 p9) ?_
  refine lv_iload_n hx hb dX2_forwards_8 rfl (lv_at hl 2 rfl) ?_
  refine lv_iadd hx hb dX2_forwards_9 ?_
  refine k_top (nI_add (16 * p9) r9) ?_
  refine k_iald (k := 16 * p9 + r9) hx hb hK hP 7 0 (mG_Le _ _ _ _) rfl rfl (by omega) (by decide) dX2_forwards_10 ?_
  refine k_top (y := (g_Le S) p9 r9) (fl_at 16 _ (p := p9) (r := r9) (by omega)) ?_
  refine lv_if_ne (tgt := 17) hx hb dX2_forwards_11 (by decide) (fun c_11 => ?_) (fun c_11 => ?_)
  · refine lv_aload_n hx hb dX2_forwards_17 rfl (lv_at hl 0 rfl) ?_
    refine va_get (D := D) (ci := 2) (v := .ref (md 9)) (C := RX2) (T := TX2) (N := 16) hx hb hts hi2 hown hK hP 0 (mO _ _ _ _) rfl 12 (by decide) (hts (.fieldLink RX2 45 "GracefulRestartModel" "hopOf" "[I") (List.mem_of_getElem? (i := 2) rfl)) (fun _ h9 => h9) (mV_12 _ _) dX2_forwards_18 ?_
    refine lv_iload_n hx hb dX2_forwards_21 rfl (lv_at hl 2 rfl) ?_
    refine k_iald (k := r9) hx hb hK hP 9 0 (mG_Ho _ _ _ _) rfl rfl (by omega) (by decide) dX2_forwards_22 ?_
    refine lv_bipush (v := -6) hx hb dX2_forwards_23 (by decide) ?_
    refine lv_icmp_ne (tgt := 33) hx hb dX2_forwards_25 (by decide) (fun c_25 => ?_) (fun c_25 => ?_)
    · refine lv_aload_n hx hb dX2_forwards_33 rfl (lv_at hl 0 rfl) ?_
      refine va_get (D := D) (ci := 2) (v := .ref (md 9)) (C := RX2) (T := TX2) (N := 16) hx hb hts hi2 hown hK hP 0 (mO _ _ _ _) rfl 12 (by decide) (hts (.fieldLink RX2 45 "GracefulRestartModel" "hopOf" "[I") (List.mem_of_getElem? (i := 2) rfl)) (fun _ h9 => h9) (mV_12 _ _) dX2_forwards_34 ?_
      refine lv_iload_n hx hb dX2_forwards_37 rfl (lv_at hl 2 rfl) ?_
      refine k_iald (k := r9) hx hb hK hP 9 0 (mG_Ho _ _ _ _) rfl rfl (by omega) (by decide) dX2_forwards_38 ?_
      refine lv_iload_n hx hb dX2_forwards_39 rfl (lv_at hl 1 rfl) ?_
      refine lv_icmp_ne (tgt := 48) hx hb dX2_forwards_40 (by decide) (fun c_40 => ?_) (fun c_40 => ?_)
      · refine lv_aload_n hx hb dX2_forwards_48 rfl (lv_at hl 0 rfl) ?_
        refine va_get (D := D) (ci := 2) (v := .ref (md 9)) (C := RX2) (T := TX2) (N := 16) hx hb hts hi2 hown hK hP 0 (mO _ _ _ _) rfl 12 (by decide) (hts (.fieldLink RX2 45 "GracefulRestartModel" "hopOf" "[I") (List.mem_of_getElem? (i := 2) rfl)) (fun _ h9 => h9) (mV_12 _ _) dX2_forwards_49 ?_
        refine lv_iload_n hx hb dX2_forwards_52 rfl (lv_at hl 2 rfl) ?_
        refine k_iald (k := r9) hx hb hK hP 9 0 (mG_Ho _ _ _ _) rfl rfl (by omega) (by decide) dX2_forwards_53 ?_
        exact k_iret hx hb hr hlk hP hS hAe (by rw [o_Fw, if_neg c_11, if_neg c_25, if_neg c_40]) rfl dX2_forwards_54
      · refine lv_bipush (v := -8) hx hb dX2_forwards_43 (by decide) ?_
        refine lv_goto (tgt := 54) hx hb dX2_forwards_45 (by decide) ?_
        exact k_iret hx hb hr hlk hP hS hAe (by rw [o_Fw, if_neg c_11, if_neg c_25, if_pos c_40]) rfl dX2_forwards_54
    · refine lv_bipush (v := -7) hx hb dX2_forwards_28 (by decide) ?_
      refine lv_goto (tgt := 54) hx hb dX2_forwards_30 (by decide) ?_
      exact k_iret hx hb hr hlk hP hS hAe (by rw [o_Fw, if_neg c_11, if_pos c_25]) rfl dX2_forwards_54
  · refine lv_bipush (v := -6) hx hb dX2_forwards_14 (by decide) ?_
    exact k_iret hx hb hr hlk hP hS hAe (by rw [o_Fw, if_pos c_11]) rfl dX2_forwards_16

set_option maxRecDepth 100000 in
set_option maxHeartbeats 4000000 in
theorem c_X2_forward (l : Launch) (D : va_G) (cI cZ cP : ClassId) (md : Nat → Nat) (S : ST) (x t f : Int32) (hn : g_N S ≤ 5) : MM l yX2_forward wsX2_forward ({ frames := 3, cells := 0, slots := 0, locals := 66 }) D (kTy cI cZ cP) [.ref (md 0), .int x, .int t, .int f] (mW cI cZ md S) (some (.int (q_Fw S x t f))) (mW cI cZ md S) := by
  refine MM.ofW (cc := cX2_forward) (maxL := 5) (ret := (some .int)) (by decide) rfl (Nat.le_of_ble_eq_true rfl) ?_
  intro p e s m below meth c ls A hx hb hr hlk hml hts hown hK hN hP hD hS hAe hl
  have hown : s.vm.findClass RX2 = some m.cls := hown
  have hi2 : ∀ w ∈ wsX20, w ∈ wsX2_forward := fun w h => List.mem_cons_of_mem _ (List.mem_append_right _ h)
  have hl : lv_has ls 5 [(0, .ref (md 0)), (1, .int x), (2, .int t), (3, .int f)] := hl
  refine lv_aload_n hx hb dX2_forward_0 rfl (lv_at hl 0 rfl) ?_
  refine lv_iload_n hx hb dX2_forward_1 rfl (lv_at hl 1 rfl) ?_
  refine lv_iload_n hx hb dX2_forward_2 rfl (lv_at hl 2 rfl) ?_
  refine lv_iload_n hx hb dX2_forward_3 rfl (lv_at hl 3 rfl) ?_
  refine kV (As := [.int x, .int t, .int f]) (rest := []) (Wc := (mW cI cZ md S)) (Wc1 := (mW cI cZ md S)) (Wd1 := (mW cI cZ md S)) (o := some (.int (q_Rf (g_N S) x t f))) ⟨hx, hb, hml, hown, hts⟩ (c_X2_refused l D cI cZ cP md S x t f hn) (cwV 3 hts gX2_forward_X2_refused rfl rfl rfl (by decide +kernel) ⟨Nat.le_of_ble_eq_true rfl, Nat.le_of_ble_eq_true rfl⟩) hK hN hP hD hS (fun j => j) (fun _ _ h => h) (fun _ _ _ _ h => h) (mAdr _ _ _ _ _) (fun k q h => Or.inl ⟨k, h⟩) 0 2 rfl rfl (mO _ _ _ _) rfl hl.1 rfl (Nat.le_of_ble_eq_true rfl) ⟨Nat.zero_le _, Nat.zero_le _⟩ dX2_forward_4 (fun H locs hP hD hS => ?_)
  by_cases hp : okP (g_N S) x
  · by_cases hr9 : okR t f
    · refine k_top (y := 0) (by rw [q_Rf, if_pos hp, if_pos hr9]) ?_
      obtain ⟨k, hk, rfl⟩ := okP_nat hn hp
      have hk5 : k < 5 := by omega
      have kxe : kx (nI k) = k := kx_n (by omega)
      obtain ⟨a9, b9, ha9, hb9, rfl, rfl⟩ := okR_nat hr9
      have rxe : rx (nI a9) (nI b9) = 8 * a9 + b9 := rx_n (by omega) (by omega)
      have hr16 : 8 * a9 + b9 < 16 := by omega
      refine lv_istore (lv' := [(4, .int 0), (0, .ref (md 0)), (1, .int (nI k)), (2, .int (nI a9)), (3, .int (nI b9))]) hx hb dX2_forward_7 hl (by decide) rfl (fun ls hl => ?_)
      refine lv_iload hx hb dX2_forward_9 (lv_at hl 0 rfl) ?_
      refine lv_if_eq (tgt := 19) hx hb dX2_forward_11 (by decide) (fun _ => ?_) (fun c_ => absurd (by decide) c_)
      refine lv_aload_n hx hb dX2_forward_19 rfl (lv_at hl 1 rfl) ?_
      refine lv_iload_n hx hb dX2_forward_20 rfl (lv_at hl 2 rfl) ?_
      refine lv_bipush (v := 8) hx hb dX2_forward_21 (by decide) ?_
      refine lv_iload_n hx hb dX2_forward_23 rfl (lv_at hl 3 rfl) ?_
      refine lv_imul hx hb dX2_forward_24 ?_
      refine k_top (nx8 a9) ?_
      refine lv_iload_n hx hb dX2_forward_25 rfl (lv_at hl 4 rfl) ?_
      refine lv_iadd hx hb dX2_forward_26 ?_
      refine k_top (nI_add (8 * a9) b9) ?_
      refine kV (As := [.int (nI k), .int (nI (8 * a9 + b9))]) (rest := []) (Wc := (mW cI cZ md S)) (Wc1 := (mW cI cZ md S)) (Wd1 := (mW cI cZ md S)) (o := some (.int (o_Fw S k (8 * a9 + b9)))) ⟨hx, hb, hml, hown, hts⟩ (c_X2_forwards l D cI cZ cP md S k (8 * a9 + b9) (by omega) (by omega)) (cwV 2 hts gX2_forward_X2_forwards rfl rfl rfl (by decide +kernel) ⟨Nat.le_of_ble_eq_true rfl, Nat.le_of_ble_eq_true rfl⟩) hK hN hP hD hS (fun j => j) (fun _ _ h => h) (fun _ _ _ _ h => h) (mAdr _ _ _ _ _) (fun k q h => Or.inl ⟨k, h⟩) 0 2 rfl rfl (mO _ _ _ _) rfl hl.1 rfl (Nat.le_of_ble_eq_true rfl) ⟨Nat.zero_le _, Nat.zero_le _⟩ dX2_forward_27 (fun H locs hP hD hS => ?_)
      exact k_iret hx hb hr hlk hP hS hAe (by rw [q_Fw, if_pos hp, if_pos hr9, kxe, rxe]) rfl dX2_forward_30
    · refine k_top (y := -2) (by rw [q_Rf, if_pos hp, if_neg hr9]) ?_
      obtain ⟨k, hk, rfl⟩ := okP_nat hn hp
      have hk5 : k < 5 := by omega
      have kxe : kx (nI k) = k := kx_n (by omega)
      refine lv_istore (lv' := [(4, .int (-2)), (0, .ref (md 0)), (1, .int (nI k)), (2, .int t), (3, .int f)]) hx hb dX2_forward_7 hl (by decide) rfl (fun ls hl => ?_)
      refine lv_iload hx hb dX2_forward_9 (lv_at hl 0 rfl) ?_
      refine lv_if_eq (tgt := 19) hx hb dX2_forward_11 (by decide) (fun c_ => absurd c_ (by decide)) (fun _ => ?_)
      refine lv_iload hx hb dX2_forward_14 (lv_at hl 0 rfl) ?_
      refine lv_goto (tgt := 30) hx hb dX2_forward_16 (by decide) ?_
      exact k_iret hx hb hr hlk hP hS hAe (by rw [q_Fw, if_pos hp, if_neg hr9]) rfl dX2_forward_30
  · refine k_top (y := -1) (by rw [q_Rf, if_neg hp]) ?_
    refine lv_istore (lv' := [(4, .int (-1)), (0, .ref (md 0)), (1, .int x), (2, .int t), (3, .int f)]) hx hb dX2_forward_7 hl (by decide) rfl (fun ls hl => ?_)
    refine lv_iload hx hb dX2_forward_9 (lv_at hl 0 rfl) ?_
    refine lv_if_eq (tgt := 19) hx hb dX2_forward_11 (by decide) (fun c_ => absurd c_ (by decide)) (fun _ => ?_)
    refine lv_iload hx hb dX2_forward_14 (lv_at hl 0 rfl) ?_
    refine lv_goto (tgt := 30) hx hb dX2_forward_16 (by decide) ?_
    exact k_iret hx hb hr hlk hP hS hAe (by rw [q_Fw, if_neg hp]) rfl dX2_forward_30

set_option maxRecDepth 100000 in
set_option maxHeartbeats 4000000 in
theorem c_X2_reachableCount (l : Launch) (D : va_G) (cI cZ cP : ClassId) (md : Nat → Nat) (S : ST) (x : Int32) (hn : g_N S ≤ 5) : MM l yX2_reachableCount wsX2_reachableCount ({ frames := 2, cells := 0, slots := 0, locals := 43 }) D (kTy cI cZ cP) [.ref (md 0), .int x] (mW cI cZ md S) (some (.int (if okP (g_N S) x then kCnt (p_Fw S (kx x)) 16 else -1))) (mW cI cZ md S) := by
  refine MM.ofW (cc := cX2_reachableCount) (maxL := 4) (ret := (some .int)) (by decide) rfl (Nat.le_of_ble_eq_true rfl) ?_
  intro p e s m below meth c ls A hx hb hr hlk hml hts hown hK hN hP hD hS hAe hl
  have hown : s.vm.findClass RX2 = some m.cls := hown
  have hi2 : ∀ w ∈ wsX20, w ∈ wsX2_reachableCount := fun w h => List.mem_cons_of_mem _ (List.mem_append_right _ h)
  have hl : lv_has ls 4 [(0, .ref (md 0)), (1, .int x)] := hl
  refine lv_aload_n hx hb dX2_reachableCount_0 rfl (lv_at hl 0 rfl) ?_
  refine lv_iload_n hx hb dX2_reachableCount_1 rfl (lv_at hl 1 rfl) ?_
  refine kV (As := [.int x]) (rest := []) (Wc := (mW cI cZ md S)) (Wc1 := (mW cI cZ md S)) (Wd1 := (mW cI cZ md S)) (o := some (.int (if okP (g_N S) x then 1 else 0))) ⟨hx, hb, hml, hown, hts⟩ (c_X2_isPeer l D cI cZ cP md S x hn) (cwV 1 hts gX2_reachableCount_X2_isPeer rfl rfl rfl (by decide +kernel) ⟨Nat.le_of_ble_eq_true rfl, Nat.le_of_ble_eq_true rfl⟩) hK hN hP hD hS (fun j => j) (fun _ _ h => h) (fun _ _ _ _ h => h) (mAdr _ _ _ _ _) (fun k q h => Or.inl ⟨k, h⟩) 0 2 rfl rfl (mO _ _ _ _) rfl hl.1 rfl (Nat.le_of_ble_eq_true rfl) ⟨Nat.zero_le _, Nat.zero_le _⟩ dX2_reachableCount_2 (fun H locs hP hD hS => ?_)
  by_cases hp : okP (g_N S) x
  · refine k_top (if_pos hp) ?_
    obtain ⟨k, hk, rfl⟩ := okP_nat hn hp
    have hk5 : k < 5 := by omega
    have kxe : kx (nI k) = k := kx_n (by omega)
    refine lv_if_ne (tgt := 10) hx hb dX2_reachableCount_5 (by decide) (fun _ => ?_) (fun c_ => absurd c_ (by decide))
    refine lv_iconst (v := 0) hx hb dX2_reachableCount_10 (by decide) ?_
    refine lv_istore_n (lv' := [(2, .int 0), (0, .ref (md 0)), (1, .int (nI k))]) hx hb dX2_reachableCount_11 rfl hl (by decide) rfl (fun ls hl => ?_)
    refine lv_iconst (v := 0) hx hb dX2_reachableCount_12 (by decide) ?_
    refine lv_istore_n (lv' := [(3, .int 0), (2, .int 0), (0, .ref (md 0)), (1, .int (nI k))]) hx hb dX2_reachableCount_13 rfl hl (by decide) rfl (fun ls hl => ?_)
    have lp14 : ∀ (n9 i : Nat), i + n9 = 16 → ∀ (H : Heap) (locs : List Loc) (ls : Array Slot), va_P D vwCl (mW cI cZ md S) H → va_D A (mW cI cZ md S) → va_S A s.heap H locs → lv_has ls 4 [(0, .ref (md 0)), (1, .int (nI k)), (2, .int (kCnt (p_Fw S k) i)), (3, .int (nI i))] → W p l e (headSpec wsX2_reachableCount ({ frames := 2, cells := 0, slots := 0, locals := 43 })).room s m ([.ref (md 0), .int (nI k)] : List Value).toArray below meth c H locs 0 0 (MQ below (kPost D (mW cI cZ md S) (mW cI cZ md S) (some (.int (if okP (g_N S) (nI k) then kCnt (p_Fw S (kx (nI k))) 16 else -1)))) ([.ref (md 0), .int (nI k)] : List Value).toArray s 0 0 (kA (mW cI cZ md S))) (F0 m 14 ls []) := by
      intro n9
      induction n9 with
      | zero =>
        intro i hi9 H locs ls hP hD hS hl
        have hi8 : i = 16 := by omega
        subst hi8
        refine lv_iload_n hx hb dX2_reachableCount_14 rfl (lv_at hl 3 rfl) ?_
        refine lv_bipush (v := 16) hx hb dX2_reachableCount_15 (by decide) ?_
        refine lv_icmp_ge (tgt := 43) hx hb dX2_reachableCount_17 (by decide) (fun _ => ?_) (fun c_ => absurd (by decide) c_)
        refine lv_iload_n hx hb dX2_reachableCount_43 rfl (lv_at hl 2 rfl) ?_
        exact k_iret hx hb hr hlk hP hS hAe (by rw [if_pos hp, kxe]) rfl dX2_reachableCount_44
      | succ n9 ih =>
        intro i hi9 H locs ls hP hD hS hl
        have hlt : i < 16 := by omega
        refine lv_iload_n hx hb dX2_reachableCount_14 rfl (lv_at hl 3 rfl) ?_
        refine lv_bipush (v := 16) hx hb dX2_reachableCount_15 (by decide) ?_
        refine lv_icmp_ge (tgt := 43) hx hb dX2_reachableCount_17 (by decide) (fun c_ => absurd c_ (nI_ge (a := i) (b := 16) hlt (by decide))) (fun _ => ?_)
        refine lv_iload_n hx hb dX2_reachableCount_20 rfl (lv_at hl 2 rfl) ?_
        refine lv_aload_n hx hb dX2_reachableCount_21 rfl (lv_at hl 0 rfl) ?_
        refine lv_iload_n hx hb dX2_reachableCount_22 rfl (lv_at hl 1 rfl) ?_
        refine lv_iload_n hx hb dX2_reachableCount_23 rfl (lv_at hl 3 rfl) ?_
        refine kV (As := [.int (nI k), .int (nI i)]) (rest := [.int (kCnt (p_Fw S k) i)]) (Wc := (mW cI cZ md S)) (Wc1 := (mW cI cZ md S)) (Wd1 := (mW cI cZ md S)) (o := some (.int (o_Fw S k i))) ⟨hx, hb, hml, hown, hts⟩ (c_X2_forwards l D cI cZ cP md S k i (by omega) (by omega)) (cwV 2 hts gX2_reachableCount_X2_forwards rfl rfl rfl (by decide +kernel) ⟨Nat.le_of_ble_eq_true rfl, Nat.le_of_ble_eq_true rfl⟩) hK hN hP hD hS (fun j => j) (fun _ _ h => h) (fun _ _ _ _ h => h) (mAdr _ _ _ _ _) (fun k q h => Or.inl ⟨k, h⟩) 0 2 rfl rfl (mO _ _ _ _) rfl hl.1 rfl (Nat.le_of_ble_eq_true rfl) ⟨Nat.zero_le _, Nat.zero_le _⟩ dX2_reachableCount_24 (fun H locs hP hD hS => ?_)
        refine lv_if_lt (tgt := 34) hx hb dX2_reachableCount_27 (by decide) (fun c_27 => ?_) (fun c_27 => ?_)
        · refine lv_iconst (v := 0) hx hb dX2_reachableCount_34 (by decide) ?_
          refine lv_iadd hx hb dX2_reachableCount_35 ?_
          refine k_top (y := kCnt (p_Fw S k) (i + 1)) ((Int32.add_zero _).trans (kCnt_f (by simp [p_Fw, c_27]))) ?_
          refine lv_istore_n (lv' := [(2, .int (kCnt (p_Fw S k) (i + 1))), (0, .ref (md 0)), (1, .int (nI k)), (3, .int (nI i))]) hx hb dX2_reachableCount_36 rfl hl (by decide) rfl (fun ls hl => ?_)
          refine lv_iinc (v := nI (i + 1)) (lv' := [(3, .int (nI (i + 1))), (2, .int (kCnt (p_Fw S k) (i + 1))), (0, .ref (md 0)), (1, .int (nI k))]) hx hb dX2_reachableCount_37 hl (k := 3) rfl (nI_1 i) (by decide) rfl (fun ls hl => ?_)
          refine lv_goto (tgt := 14) hx hb dX2_reachableCount_40 (by decide) ?_
          exact ih (i + 1) (by omega) _ _ ls hP hD hS (lv_sub hl [2, 3, 1, 0] rfl)
        · refine lv_iconst (v := 1) hx hb dX2_reachableCount_30 (by decide) ?_
          refine lv_goto (tgt := 35) hx hb dX2_reachableCount_31 (by decide) ?_
          refine lv_iadd hx hb dX2_reachableCount_35 ?_
          refine k_top (y := kCnt (p_Fw S k) (i + 1)) (kCnt_t (by simp [p_Fw, Int32.not_lt.mp c_27])) ?_
          refine lv_istore_n (lv' := [(2, .int (kCnt (p_Fw S k) (i + 1))), (0, .ref (md 0)), (1, .int (nI k)), (3, .int (nI i))]) hx hb dX2_reachableCount_36 rfl hl (by decide) rfl (fun ls hl => ?_)
          refine lv_iinc (v := nI (i + 1)) (lv' := [(3, .int (nI (i + 1))), (2, .int (kCnt (p_Fw S k) (i + 1))), (0, .ref (md 0)), (1, .int (nI k))]) hx hb dX2_reachableCount_37 hl (k := 3) rfl (nI_1 i) (by decide) rfl (fun ls hl => ?_)
          refine lv_goto (tgt := 14) hx hb dX2_reachableCount_40 (by decide) ?_
          exact ih (i + 1) (by omega) _ _ ls hP hD hS (lv_sub hl [2, 3, 1, 0] rfl)
    exact lp14 16 0 (by omega) _ _ ls hP hD hS (lv_sub hl [2, 3, 1, 0] rfl)
  · refine k_top (if_neg hp) ?_
    refine lv_if_ne (tgt := 10) hx hb dX2_reachableCount_5 (by decide) (fun c_ => absurd (by decide) c_) (fun _ => ?_)
    refine lv_iconst (v := -1) hx hb dX2_reachableCount_8 (by decide) ?_
    exact k_iret hx hb hr hlk hP hS hAe (by rw [if_neg hp]) rfl dX2_reachableCount_9

set_option maxRecDepth 100000 in
set_option maxHeartbeats 4000000 in
theorem c_X2_known (l : Launch) (D : va_G) (cI cZ cP : ClassId) (md : Nat → Nat) (S : ST) (p9 : Nat) (hp9 : p9 < 5) : MM l yX2_known wsX2_known ({ frames := 0, cells := 0, slots := 0, locals := 0 }) D (kTy cI cZ cP) [.ref (md 0), .int (nI p9)] (mW cI cZ md S) (some (.int (kCnt (pz (g_Of S p9)) 16))) (mW cI cZ md S) := by
  refine MM.ofW (cc := cX2_known) (maxL := 4) (ret := (some .int)) (by decide) rfl (Nat.le_of_ble_eq_true rfl) ?_
  intro p e s m below meth c ls A hx hb hr hlk hml hts hown hK hN hP hD hS hAe hl
  have hown : s.vm.findClass RX2 = some m.cls := hown
  have hi2 : ∀ w ∈ wsX20, w ∈ wsX2_known := fun w h => List.mem_cons_of_mem _ (List.mem_append_right _ h)
  have hl : lv_has ls 4 [(0, .ref (md 0)), (1, .int (nI p9))] := hl
  refine lv_iconst (v := 0) hx hb dX2_known_0 (by decide) ?_
  refine lv_istore_n (lv' := [(2, .int 0), (0, .ref (md 0)), (1, .int (nI p9))]) hx hb dX2_known_1 rfl hl (by decide) rfl (fun ls hl => ?_)
  refine lv_iconst (v := 0) hx hb dX2_known_2 (by decide) ?_
  refine lv_istore_n (lv' := [(3, .int 0), (2, .int 0), (0, .ref (md 0)), (1, .int (nI p9))]) hx hb dX2_known_3 rfl hl (by decide) rfl (fun ls hl => ?_)
  have lp4 : ∀ (n9 i : Nat), i + n9 = 16 → ∀ (H : Heap) (locs : List Loc) (ls : Array Slot), va_P D vwCl (mW cI cZ md S) H → va_D A (mW cI cZ md S) → va_S A s.heap H locs → lv_has ls 4 [(0, .ref (md 0)), (1, .int (nI p9)), (2, .int (kCnt (pz (g_Of S p9)) i)), (3, .int (nI i))] → W p l e (headSpec wsX2_known ({ frames := 0, cells := 0, slots := 0, locals := 0 })).room s m ([.ref (md 0), .int (nI p9)] : List Value).toArray below meth c H locs 0 0 (MQ below (kPost D (mW cI cZ md S) (mW cI cZ md S) (some (.int (kCnt (pz (g_Of S p9)) 16)))) ([.ref (md 0), .int (nI p9)] : List Value).toArray s 0 0 (kA (mW cI cZ md S))) (F0 m 4 ls []) := by
    intro n9
    induction n9 with
    | zero =>
      intro i hi9 H locs ls hP hD hS hl
      have hi8 : i = 16 := by omega
      subst hi8
      refine lv_iload_n hx hb dX2_known_4 rfl (lv_at hl 3 rfl) ?_
      refine lv_bipush (v := 16) hx hb dX2_known_5 (by decide) ?_
      refine lv_icmp_ge (tgt := 38) hx hb dX2_known_7 (by decide) (fun _ => ?_) (fun c_ => absurd (by decide) c_)
      refine lv_iload_n hx hb dX2_known_38 rfl (lv_at hl 2 rfl) ?_
      exact k_iret hx hb hr hlk hP hS hAe rfl rfl dX2_known_39
    | succ n9 ih =>
      intro i hi9 H locs ls hP hD hS hl
      have hlt : i < 16 := by omega
      refine lv_iload_n hx hb dX2_known_4 rfl (lv_at hl 3 rfl) ?_
      refine lv_bipush (v := 16) hx hb dX2_known_5 (by decide) ?_
      refine lv_icmp_ge (tgt := 38) hx hb dX2_known_7 (by decide) (fun c_ => absurd c_ (nI_ge (a := i) (b := 16) hlt (by decide))) (fun _ => ?_)
      refine lv_iload_n hx hb dX2_known_10 rfl (lv_at hl 2 rfl) ?_
      refine lv_aload_n hx hb dX2_known_11 rfl (lv_at hl 0 rfl) ?_
      refine va_get (D := D) (ci := 2) (v := .ref (md 6)) (C := RX2) (T := TX2) (N := 16) hx hb hts hi2 hown hK hP 0 (mO _ _ _ _) rfl 9 (by decide) (hts (.fieldLink RX2 36 "GracefulRestartModel" "offered" "[I") (List.mem_of_getElem? (i := 1) rfl)) (fun _ h9 => h9) (mV_9 _ _) dX2_known_12 ?_
      refine lv_bipush (v := 16) hx hb dX2_known_15 (by decide) ?_
      refine lv_iload_n hx hb dX2_known_17 rfl (lv_at hl 1 rfl) ?_
      refine lv_imul hx hb dX2_known_18 ?_
      refine k_top (nx16 p9) ?_
      refine lv_iload_n hx hb dX2_known_19 rfl (lv_at hl 3 rfl) ?_
      refine lv_iadd hx hb dX2_known_20 ?_
      refine k_top (nI_add (16 * p9) i) ?_
      refine k_iald (k := 16 * p9 + i) hx hb hK hP 6 0 (mG_Of _ _ _ _) rfl rfl (by omega) (by decide) dX2_known_21 ?_
      refine k_top (y := (g_Of S) p9 i) (fl_at 16 _ (p := p9) (r := i) (by omega)) ?_
      refine lv_if_le (tgt := 29) hx hb dX2_known_22 (by decide) (fun c_22 => ?_) (fun c_22 => ?_)
      · refine lv_iconst (v := 0) hx hb dX2_known_29 (by decide) ?_
        refine lv_iadd hx hb dX2_known_30 ?_
        refine k_top (y := kCnt (pz (g_Of S p9)) (i + 1)) ((Int32.add_zero _).trans (kCnt_f (pz_f (Int32.not_lt.mpr c_22)))) ?_
        refine lv_istore_n (lv' := [(2, .int (kCnt (pz (g_Of S p9)) (i + 1))), (0, .ref (md 0)), (1, .int (nI p9)), (3, .int (nI i))]) hx hb dX2_known_31 rfl hl (by decide) rfl (fun ls hl => ?_)
        refine lv_iinc (v := nI (i + 1)) (lv' := [(3, .int (nI (i + 1))), (2, .int (kCnt (pz (g_Of S p9)) (i + 1))), (0, .ref (md 0)), (1, .int (nI p9))]) hx hb dX2_known_32 hl (k := 3) rfl (nI_1 i) (by decide) rfl (fun ls hl => ?_)
        refine lv_goto (tgt := 4) hx hb dX2_known_35 (by decide) ?_
        exact ih (i + 1) (by omega) _ _ ls hP hD hS (lv_sub hl [2, 3, 1, 0] rfl)
      · refine lv_iconst (v := 1) hx hb dX2_known_25 (by decide) ?_
        refine lv_goto (tgt := 30) hx hb dX2_known_26 (by decide) ?_
        refine lv_iadd hx hb dX2_known_30 ?_
        refine k_top (y := kCnt (pz (g_Of S p9)) (i + 1)) (kCnt_t (pz_t (Int32.not_le.mp c_22))) ?_
        refine lv_istore_n (lv' := [(2, .int (kCnt (pz (g_Of S p9)) (i + 1))), (0, .ref (md 0)), (1, .int (nI p9)), (3, .int (nI i))]) hx hb dX2_known_31 rfl hl (by decide) rfl (fun ls hl => ?_)
        refine lv_iinc (v := nI (i + 1)) (lv' := [(3, .int (nI (i + 1))), (2, .int (kCnt (pz (g_Of S p9)) (i + 1))), (0, .ref (md 0)), (1, .int (nI p9))]) hx hb dX2_known_32 hl (k := 3) rfl (nI_1 i) (by decide) rfl (fun ls hl => ?_)
        refine lv_goto (tgt := 4) hx hb dX2_known_35 (by decide) ?_
        exact ih (i + 1) (by omega) _ _ ls hP hD hS (lv_sub hl [2, 3, 1, 0] rfl)
  exact lp4 16 0 (by omega) _ _ ls hP hD hS (lv_sub hl [2, 3, 1, 0] rfl)
