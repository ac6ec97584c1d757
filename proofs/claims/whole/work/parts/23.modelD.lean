set_option maxRecDepth 100000 in
set_option maxHeartbeats 4000000 in
theorem c_X2_offers (l : Launch) (D : va_G) (cI cZ cP : ClassId) (md : Nat → Nat) (S : ST) (p9 r9 : Nat) (len : Int32) (hn : g_N S ≤ 5) (hp9 : p9 < 5) (hr9 : r9 < 16) : MM l yX2_offers wsX2_offers ({ frames := 2, cells := 0, slots := 0, locals := 47 }) D (kTy cI cZ cP) [.ref (md 0), .int (nI p9), .int (nI r9), .int len] (mW cI cZ md S) (none) (mW cI cZ md (u_Ofr S p9 r9 len)) := by
  refine MM.ofW (cc := cX2_offers) (maxL := 4) (ret := none) (by decide) rfl (Nat.le_of_ble_eq_true rfl) ?_
  intro p e s m below meth c ls A hx hb hr hlk hml hts hown hK hN hP hD hS hAe hl
  have hown : s.vm.findClass RX2 = some m.cls := hown
  have hi2 : ∀ w ∈ wsX20, w ∈ wsX2_offers := fun w h => List.mem_cons_of_mem _ (List.mem_append_right _ h)
  have hl : lv_has ls 4 [(0, .ref (md 0)), (1, .int (nI p9)), (2, .int (nI r9)), (3, .int len)] := hl
  refine lv_aload_n hx hb dX2_offers_0 rfl (lv_at hl 0 rfl) ?_
  refine va_get (D := D) (ci := 2) (v := .ref (md 6)) (C := RX2) (T := TX2) (N := 16) hx hb hts hi2 hown hK hP 0 (mO _ _ _ _) rfl 9 (by decide) (hts (.fieldLink RX2 36 "GracefulRestartModel" "offered" "[I") (List.mem_of_getElem? (i := 1) rfl)) (fun _ h9 => h9) (mV_9 _ _) dX2_offers_1 ?_
  refine lv_bipush (v := 16) hx hb dX2_offers_4 (by decide) ?_
  refine lv_iload_n hx hb dX2_offers_6 rfl (lv_at hl 1 rfl) ?_
  refine lv_imul hx hb dX2_offers_7 ?_
  refine k_top (nx16 p9) ?_
  refine lv_iload_n hx hb dX2_offers_8 rfl (lv_at hl 2 rfl) ?_
  refine lv_iadd hx hb dX2_offers_9 ?_
  refine k_top (nI_add (16 * p9) r9) ?_
  refine lv_iload_n hx hb dX2_offers_10 rfl (lv_at hl 3 rfl) ?_
  refine k_iast (k := 16 * p9 + r9) hx hb hK hP hD hS 6 0 (mG_Of _ _ _ _) rfl rfl (by omega) (by decide) (W1 := (mW cI cZ md (s_Of S (va_up (g_Of S) p9 (upd ((g_Of S) p9) r9 len))))) (by rw [fl_up 16 _ (p := p9) (r := r9) (by omega) _]; exact mS_Of _ _ _ _ _) dX2_offers_11 (fun H locs hP hD hS => ?_)
  refine lv_aload_n hx hb dX2_offers_12 rfl (lv_at hl 0 rfl) ?_
  refine va_get (D := D) (ci := 2) (v := .int (g_Df (s_Of S (va_up (g_Of S) p9 (upd ((g_Of S) p9) r9 len))))) (C := RX2) (T := TX2) (N := 16) hx hb hts hi2 hown hK hP 0 (mO _ _ _ _) rfl 14 (by decide) (hts (.fieldLink RX2 70 "GracefulRestartModel" "isDeferringNow" "Z") (List.mem_of_getElem? (i := 2) rfl)) (fun _ h9 => h9) (mV_Df _ _) dX2_offers_13 ?_
  refine k_top (y := g_Df S) (gs_Df_Of _ _) ?_
  refine lv_if_ne (tgt := 33) hx hb dX2_offers_16 (by decide) (fun c_16 => ?_) (fun c_16 => ?_)
  · exact k_vret hx hb hr hlk hP hS hAe (by rw [u_Ofr, if_neg (fun z => c_16 z.1)]) dX2_offers_33
  · refine lv_aload_n hx hb dX2_offers_19 rfl (lv_at hl 0 rfl) ?_
    refine va_get (D := D) (ci := 2) (v := .ref (md 2)) (C := RX2) (T := TX2) (N := 16) hx hb hts hi2 hown hK hP 0 (mO _ _ _ _) rfl 5 (by decide) (hts (.fieldLink RX2 23 "GracefulRestartModel" "stateOf" "[I") (List.mem_of_getElem? (i := 3) rfl)) (fun _ h9 => h9) (mV_5 _ _) dX2_offers_20 ?_
    refine lv_iload_n hx hb dX2_offers_23 rfl (lv_at hl 1 rfl) ?_
    refine k_iald (k := p9) hx hb hK hP 2 0 (mG_St _ _ _ _) rfl rfl (by omega) (by decide) dX2_offers_24 ?_
    refine k_top (y := (g_St S) p9) (congrFun (gs_St_Of _ _) p9) ?_
    refine lv_if_ne (tgt := 33) hx hb dX2_offers_25 (by decide) (fun c_25 => ?_) (fun c_25 => ?_)
    · exact k_vret hx hb hr hlk hP hS hAe (by rw [u_Ofr, if_neg (fun z => c_25 z.2)]) dX2_offers_33
    · refine lv_aload_n hx hb dX2_offers_28 rfl (lv_at hl 0 rfl) ?_
      refine lv_iload_n hx hb dX2_offers_29 rfl (lv_at hl 2 rfl) ?_
      refine kV (As := [.int (nI r9)]) (rest := []) (Wc := (mW cI cZ md (s_Of S (va_up (g_Of S) p9 (upd ((g_Of S) p9) r9 len))))) (Wc1 := (mW cI cZ md (o_Sel (s_Of S (va_up (g_Of S) p9 (upd ((g_Of S) p9) r9 len))) r9))) (Wd1 := (mW cI cZ md (o_Sel (s_Of S (va_up (g_Of S) p9 (upd ((g_Of S) p9) r9 len))) r9))) (o := none) ⟨hx, hb, hml, hown, hts⟩ (c_X2_selects l D cI cZ cP md (s_Of S (va_up (g_Of S) p9 (upd ((g_Of S) p9) r9 len))) r9 (by omega) hn) (cwV 1 hts gX2_offers_X2_selects rfl rfl rfl (by decide +kernel) ⟨Nat.le_of_ble_eq_true rfl, Nat.le_of_ble_eq_true rfl⟩) hK hN hP hD hS (fun j => j) (fun _ _ h => h) (fun _ _ _ _ h => h) (mAdr _ _ _ _ _) (fun k q h => Or.inl ⟨k, h⟩) 0 2 rfl rfl (mO _ _ _ _) rfl hl.1 rfl (Nat.le_of_ble_eq_true rfl) ⟨Nat.zero_le _, Nat.zero_le _⟩ dX2_offers_30 (fun H locs hP hD hS => ?_)
      exact k_vret hx hb hr hlk hP hS hAe (by rw [u_Ofr, if_pos ⟨c_16, c_25⟩]) dX2_offers_33

set_option maxRecDepth 100000 in
set_option maxHeartbeats 4000000 in
theorem c_X2_announce (l : Launch) (D : va_G) (cI cZ cP : ClassId) (md : Nat → Nat) (S : ST) (x t f len : Int32) (hn : g_N S ≤ 5) : MM l yX2_announce wsX2_announce ({ frames := 3, cells := 0, slots := 0, locals := 70 }) D (kTy cI cZ cP) [.ref (md 0), .int x, .int t, .int f, .int len] (mW cI cZ md S) (some (.int (u_Ann S x t f len).1)) (mW cI cZ md (u_Ann S x t f len).2) := by
  refine MM.ofW (cc := cX2_announce) (maxL := 7) (ret := (some .int)) (by decide) rfl (Nat.le_of_ble_eq_true rfl) ?_
  intro p e s m below meth c ls A hx hb hr hlk hml hts hown hK hN hP hD hS hAe hl
  have hown : s.vm.findClass RX2 = some m.cls := hown
  have hi2 : ∀ w ∈ wsX20, w ∈ wsX2_announce := fun w h => List.mem_cons_of_mem _ (List.mem_append_right _ h)
  have hl : lv_has ls 7 [(0, .ref (md 0)), (1, .int x), (2, .int t), (3, .int f), (4, .int len)] := hl
  refine lv_aload_n hx hb dX2_announce_0 rfl (lv_at hl 0 rfl) ?_
  refine lv_iload_n hx hb dX2_announce_1 rfl (lv_at hl 1 rfl) ?_
  refine lv_iload_n hx hb dX2_announce_2 rfl (lv_at hl 2 rfl) ?_
  refine lv_iload_n hx hb dX2_announce_3 rfl (lv_at hl 3 rfl) ?_
  refine kV (As := [.int x, .int t, .int f]) (rest := []) (Wc := (mW cI cZ md S)) (Wc1 := (mW cI cZ md S)) (Wd1 := (mW cI cZ md S)) (o := some (.int (q_Rf (g_N S) x t f))) ⟨hx, hb, hml, hown, hts⟩ (c_X2_refused l D cI cZ cP md S x t f hn) (cwV 3 hts gX2_announce_X2_refused rfl rfl rfl (by decide +kernel) ⟨Nat.le_of_ble_eq_true rfl, Nat.le_of_ble_eq_true rfl⟩) hK hN hP hD hS (fun j => j) (fun _ _ h => h) (fun _ _ _ _ h => h) (mAdr _ _ _ _ _) (fun k q h => Or.inl ⟨k, h⟩) 0 2 rfl rfl (mO _ _ _ _) rfl hl.1 rfl (Nat.le_of_ble_eq_true rfl) ⟨Nat.zero_le _, Nat.zero_le _⟩ dX2_announce_4 (fun H locs hP hD hS => ?_)
  by_cases hp : okP (g_N S) x
  · by_cases hr9 : okR t f
    · refine k_top (y := 0) (by rw [q_Rf, if_pos hp, if_pos hr9]) ?_
      obtain ⟨k, hk, rfl⟩ := okP_nat hn hp
      have hk5 : k < 5 := by omega
      have kxe : kx (nI k) = k := kx_n (by omega)
      obtain ⟨a9, b9, ha9, hb9, rfl, rfl⟩ := okR_nat hr9
      have rxe : rx (nI a9) (nI b9) = 8 * a9 + b9 := rx_n (by omega) (by omega)
      have hr16 : 8 * a9 + b9 < 16 := by omega
      refine lv_istore (lv' := [(5, .int 0), (0, .ref (md 0)), (1, .int (nI k)), (2, .int (nI a9)), (3, .int (nI b9)), (4, .int len)]) hx hb dX2_announce_7 hl (by decide) rfl (fun ls hl => ?_)
      refine lv_iload hx hb dX2_announce_9 (lv_at hl 0 rfl) ?_
      refine lv_if_eq (tgt := 17) hx hb dX2_announce_11 (by decide) (fun _ => ?_) (fun c_ => absurd (by decide) c_)
      refine lv_iload hx hb dX2_announce_17 (lv_at hl 5 rfl) ?_
      refine lv_iconst (v := 1) hx hb dX2_announce_19 (by decide) ?_
      refine lv_bipush (v := 20) hx hb dX2_announce_20 (by decide) ?_
      refine kS0 (As := [.int len, .int 1, .int 20]) (rest := []) (o := some (.int (if len < 1 then 0 else if 20 < len then 0 else 1))) ⟨hx, hb, hml, hown, hts⟩ (c_X2_within l D cI cZ cP len 1 20) (va_cwS 3 hts gX2_announce_X2_within rfl rfl rfl (by decide +kernel) ⟨Nat.le_of_ble_eq_true rfl, Nat.le_of_ble_eq_true rfl⟩) hK hN hP hD hS rfl hl.1 rfl (Nat.le_of_ble_eq_true rfl) ⟨Nat.zero_le _, Nat.zero_le _⟩ dX2_announce_22 (fun H locs hP hD hS => ?_)
      refine k_top (y := if okL len then 1 else 0) (wi_g len 1 20) ?_
      by_cases hL : okL len
      · refine k_top (if_pos hL) ?_
        refine lv_if_ne (tgt := 31) hx hb dX2_announce_25 (by decide) (fun _ => ?_) (fun c_ => absurd c_ (by decide))
        refine lv_aload_n hx hb dX2_announce_31 rfl (lv_at hl 1 rfl) ?_
        refine va_get (D := D) (ci := 2) (v := .ref (md 6)) (C := RX2) (T := TX2) (N := 16) hx hb hts hi2 hown hK hP 0 (mO _ _ _ _) rfl 9 (by decide) (hts (.fieldLink RX2 36 "GracefulRestartModel" "offered" "[I") (List.mem_of_getElem? (i := 1) rfl)) (fun _ h9 => h9) (mV_9 _ _) dX2_announce_32 ?_
        refine lv_bipush (v := 16) hx hb dX2_announce_35 (by decide) ?_
        refine lv_iload_n hx hb dX2_announce_37 rfl (lv_at hl 2 rfl) ?_
        refine lv_imul hx hb dX2_announce_38 ?_
        refine k_top (nx16 k) ?_
        refine lv_bipush (v := 8) hx hb dX2_announce_39 (by decide) ?_
        refine lv_iload_n hx hb dX2_announce_41 rfl (lv_at hl 3 rfl) ?_
        refine lv_imul hx hb dX2_announce_42 ?_
        refine k_top (nx8 a9) ?_
        refine lv_iadd hx hb dX2_announce_43 ?_
        refine k_top (nI_add (16 * k) (8 * a9)) ?_
        refine lv_iload_n hx hb dX2_announce_44 rfl (lv_at hl 4 rfl) ?_
        refine lv_iadd hx hb dX2_announce_45 ?_
        refine k_top (nI_add (16 * k + 8 * a9) b9) ?_
        refine k_iald (k := 16 * k + (8 * a9 + b9)) hx hb hK hP 6 0 (mG_Of _ _ _ _) rfl (congrArg nI (Nat.add_assoc _ _ _)) (by omega) (by decide) dX2_announce_46 ?_
        refine k_top (y := (g_Of S) k (8 * a9 + b9)) (fl_at 16 _ (p := k) (r := (8 * a9 + b9)) (by omega)) ?_
        refine lv_istore (lv' := [(6, .int ((g_Of S) k (8 * a9 + b9))), (5, .int 0), (0, .ref (md 0)), (1, .int (nI k)), (2, .int (nI a9)), (3, .int (nI b9)), (4, .int len)]) hx hb dX2_announce_47 hl (by decide) rfl (fun ls hl => ?_)
        refine lv_aload_n hx hb dX2_announce_49 rfl (lv_at hl 2 rfl) ?_
        refine lv_iload_n hx hb dX2_announce_50 rfl (lv_at hl 3 rfl) ?_
        refine lv_bipush (v := 8) hx hb dX2_announce_51 (by decide) ?_
        refine lv_iload_n hx hb dX2_announce_53 rfl (lv_at hl 4 rfl) ?_
        refine lv_imul hx hb dX2_announce_54 ?_
        refine k_top (nx8 a9) ?_
        refine lv_iload_n hx hb dX2_announce_55 rfl (lv_at hl 5 rfl) ?_
        refine lv_iadd hx hb dX2_announce_56 ?_
        refine k_top (nI_add (8 * a9) b9) ?_
        refine lv_iload hx hb dX2_announce_57 (lv_at hl 6 rfl) ?_
        refine kV (As := [.int (nI k), .int (nI (8 * a9 + b9)), .int len]) (rest := []) (Wc := (mW cI cZ md S)) (Wc1 := (mW cI cZ md (u_Ofr S k (8 * a9 + b9) len))) (Wd1 := (mW cI cZ md (u_Ofr S k (8 * a9 + b9) len))) (o := none) ⟨hx, hb, hml, hown, hts⟩ (c_X2_offers l D cI cZ cP md S k (8 * a9 + b9) len hn (by omega) (by omega)) (cwV 3 hts gX2_announce_X2_offers rfl rfl rfl (by decide +kernel) ⟨Nat.le_of_ble_eq_true rfl, Nat.le_of_ble_eq_true rfl⟩) hK hN hP hD hS (fun j => j) (fun _ _ h => h) (fun _ _ _ _ h => h) (mAdr _ _ _ _ _) (fun k q h => Or.inl ⟨k, h⟩) 0 2 rfl rfl (mO _ _ _ _) rfl hl.1 rfl (Nat.le_of_ble_eq_true rfl) ⟨Nat.zero_le _, Nat.zero_le _⟩ dX2_announce_59 (fun H locs hP hD hS => ?_)
        refine lv_iload hx hb dX2_announce_62 (lv_at hl 0 rfl) ?_
        exact k_iret hx hb hr hlk hP hS hAe (by rw [u_Ann, if_pos hp, if_pos hr9, if_pos hL, kxe, rxe]) (by rw [u_Ann, if_pos hp, if_pos hr9, if_pos hL, kxe, rxe]) dX2_announce_64
      · refine k_top (if_neg hL) ?_
        refine lv_if_ne (tgt := 31) hx hb dX2_announce_25 (by decide) (fun c_ => absurd (by decide) c_) (fun _ => ?_)
        refine lv_bipush (v := -3) hx hb dX2_announce_28 (by decide) ?_
        exact k_iret hx hb hr hlk hP hS hAe (by rw [u_Ann, if_pos hp, if_pos hr9, if_neg hL]) (by rw [u_Ann, if_pos hp, if_pos hr9, if_neg hL]) dX2_announce_30
    · refine k_top (y := -2) (by rw [q_Rf, if_pos hp, if_neg hr9]) ?_
      obtain ⟨k, hk, rfl⟩ := okP_nat hn hp
      have hk5 : k < 5 := by omega
      have kxe : kx (nI k) = k := kx_n (by omega)
      refine lv_istore (lv' := [(5, .int (-2)), (0, .ref (md 0)), (1, .int (nI k)), (2, .int t), (3, .int f), (4, .int len)]) hx hb dX2_announce_7 hl (by decide) rfl (fun ls hl => ?_)
      refine lv_iload hx hb dX2_announce_9 (lv_at hl 0 rfl) ?_
      refine lv_if_eq (tgt := 17) hx hb dX2_announce_11 (by decide) (fun c_ => absurd c_ (by decide)) (fun _ => ?_)
      refine lv_iload hx hb dX2_announce_14 (lv_at hl 0 rfl) ?_
      exact k_iret hx hb hr hlk hP hS hAe (by rw [u_Ann, if_pos hp, if_neg hr9]) (by rw [u_Ann, if_pos hp, if_neg hr9]) dX2_announce_16
  · refine k_top (y := -1) (by rw [q_Rf, if_neg hp]) ?_
    refine lv_istore (lv' := [(5, .int (-1)), (0, .ref (md 0)), (1, .int x), (2, .int t), (3, .int f), (4, .int len)]) hx hb dX2_announce_7 hl (by decide) rfl (fun ls hl => ?_)
    refine lv_iload hx hb dX2_announce_9 (lv_at hl 0 rfl) ?_
    refine lv_if_eq (tgt := 17) hx hb dX2_announce_11 (by decide) (fun c_ => absurd c_ (by decide)) (fun _ => ?_)
    refine lv_iload hx hb dX2_announce_14 (lv_at hl 0 rfl) ?_
    exact k_iret hx hb hr hlk hP hS hAe (by rw [u_Ann, if_neg hp]) (by rw [u_Ann, if_neg hp]) dX2_announce_16

set_option maxRecDepth 100000 in
set_option maxHeartbeats 4000000 in
theorem c_X2_withdraw (l : Launch) (D : va_G) (cI cZ cP : ClassId) (md : Nat → Nat) (S : ST) (x t f : Int32) (hn : g_N S ≤ 5) : MM l yX2_withdraw wsX2_withdraw ({ frames := 3, cells := 0, slots := 0, locals := 70 }) D (kTy cI cZ cP) [.ref (md 0), .int x, .int t, .int f] (mW cI cZ md S) (some (.int (u_Wd S x t f).1)) (mW cI cZ md (u_Wd S x t f).2) := by
  refine MM.ofW (cc := cX2_withdraw) (maxL := 6) (ret := (some .int)) (by decide) rfl (Nat.le_of_ble_eq_true rfl) ?_
  intro p e s m below meth c ls A hx hb hr hlk hml hts hown hK hN hP hD hS hAe hl
  have hown : s.vm.findClass RX2 = some m.cls := hown
  have hi2 : ∀ w ∈ wsX20, w ∈ wsX2_withdraw := fun w h => List.mem_cons_of_mem _ (List.mem_append_right _ h)
  have hl : lv_has ls 6 [(0, .ref (md 0)), (1, .int x), (2, .int t), (3, .int f)] := hl
  refine lv_aload_n hx hb dX2_withdraw_0 rfl (lv_at hl 0 rfl) ?_
  refine lv_iload_n hx hb dX2_withdraw_1 rfl (lv_at hl 1 rfl) ?_
  refine lv_iload_n hx hb dX2_withdraw_2 rfl (lv_at hl 2 rfl) ?_
  refine lv_iload_n hx hb dX2_withdraw_3 rfl (lv_at hl 3 rfl) ?_
  refine kV (As := [.int x, .int t, .int f]) (rest := []) (Wc := (mW cI cZ md S)) (Wc1 := (mW cI cZ md S)) (Wd1 := (mW cI cZ md S)) (o := some (.int (q_Rf (g_N S) x t f))) ⟨hx, hb, hml, hown, hts⟩ (c_X2_refused l D cI cZ cP md S x t f hn) (cwV 3 hts gX2_withdraw_X2_refused rfl rfl rfl (by decide +kernel) ⟨Nat.le_of_ble_eq_true rfl, Nat.le_of_ble_eq_true rfl⟩) hK hN hP hD hS (fun j => j) (fun _ _ h => h) (fun _ _ _ _ h => h) (mAdr _ _ _ _ _) (fun k q h => Or.inl ⟨k, h⟩) 0 2 rfl rfl (mO _ _ _ _) rfl hl.1 rfl (Nat.le_of_ble_eq_true rfl) ⟨Nat.zero_le _, Nat.zero_le _⟩ dX2_withdraw_4 (fun H locs hP hD hS => ?_)
  by_cases hp : okP (g_N S) x
  · by_cases hr9 : okR t f
    · refine k_top (y := 0) (by rw [q_Rf, if_pos hp, if_pos hr9]) ?_
      obtain ⟨k, hk, rfl⟩ := okP_nat hn hp
      have hk5 : k < 5 := by omega
      have kxe : kx (nI k) = k := kx_n (by omega)
      obtain ⟨a9, b9, ha9, hb9, rfl, rfl⟩ := okR_nat hr9
      have rxe : rx (nI a9) (nI b9) = 8 * a9 + b9 := rx_n (by omega) (by omega)
      have hr16 : 8 * a9 + b9 < 16 := by omega
      refine lv_istore (lv' := [(4, .int 0), (0, .ref (md 0)), (1, .int (nI k)), (2, .int (nI a9)), (3, .int (nI b9))]) hx hb dX2_withdraw_7 hl (by decide) rfl (fun ls hl => ?_)
      refine lv_iload hx hb dX2_withdraw_9 (lv_at hl 0 rfl) ?_
      refine lv_if_eq (tgt := 17) hx hb dX2_withdraw_11 (by decide) (fun _ => ?_) (fun c_ => absurd (by decide) c_)
      refine lv_aload_n hx hb dX2_withdraw_17 rfl (lv_at hl 1 rfl) ?_
      refine va_get (D := D) (ci := 2) (v := .ref (md 6)) (C := RX2) (T := TX2) (N := 16) hx hb hts hi2 hown hK hP 0 (mO _ _ _ _) rfl 9 (by decide) (hts (.fieldLink RX2 36 "GracefulRestartModel" "offered" "[I") (List.mem_of_getElem? (i := 1) rfl)) (fun _ h9 => h9) (mV_9 _ _) dX2_withdraw_18 ?_
      refine lv_bipush (v := 16) hx hb dX2_withdraw_21 (by decide) ?_
      refine lv_iload_n hx hb dX2_withdraw_23 rfl (lv_at hl 2 rfl) ?_
      refine lv_imul hx hb dX2_withdraw_24 ?_
      refine k_top (nx16 k) ?_
      refine lv_bipush (v := 8) hx hb dX2_withdraw_25 (by decide) ?_
      refine lv_iload_n hx hb dX2_withdraw_27 rfl (lv_at hl 3 rfl) ?_
      refine lv_imul hx hb dX2_withdraw_28 ?_
      refine k_top (nx8 a9) ?_
      refine lv_iadd hx hb dX2_withdraw_29 ?_
      refine k_top (nI_add (16 * k) (8 * a9)) ?_
      refine lv_iload_n hx hb dX2_withdraw_30 rfl (lv_at hl 4 rfl) ?_
      refine lv_iadd hx hb dX2_withdraw_31 ?_
      refine k_top (nI_add (16 * k + 8 * a9) b9) ?_
      refine k_iald (k := 16 * k + (8 * a9 + b9)) hx hb hK hP 6 0 (mG_Of _ _ _ _) rfl (congrArg nI (Nat.add_assoc _ _ _)) (by omega) (by decide) dX2_withdraw_32 ?_
      refine k_top (y := (g_Of S) k (8 * a9 + b9)) (fl_at 16 _ (p := k) (r := (8 * a9 + b9)) (by omega)) ?_
      refine lv_istore (lv' := [(5, .int ((g_Of S) k (8 * a9 + b9))), (4, .int 0), (0, .ref (md 0)), (1, .int (nI k)), (2, .int (nI a9)), (3, .int (nI b9))]) hx hb dX2_withdraw_33 hl (by decide) rfl (fun ls hl => ?_)
      refine lv_iload hx hb dX2_withdraw_35 (lv_at hl 0 rfl) ?_
      refine lv_if_ne (tgt := 43) hx hb dX2_withdraw_37 (by decide) (fun c_37 => ?_) (fun c_37 => ?_)
      · refine lv_aload_n hx hb dX2_withdraw_43 rfl (lv_at hl 2 rfl) ?_
        refine lv_iload_n hx hb dX2_withdraw_44 rfl (lv_at hl 3 rfl) ?_
        refine lv_bipush (v := 8) hx hb dX2_withdraw_45 (by decide) ?_
        refine lv_iload_n hx hb dX2_withdraw_47 rfl (lv_at hl 4 rfl) ?_
        refine lv_imul hx hb dX2_withdraw_48 ?_
        refine k_top (nx8 a9) ?_
        refine lv_iload_n hx hb dX2_withdraw_49 rfl (lv_at hl 5 rfl) ?_
        refine lv_iadd hx hb dX2_withdraw_50 ?_
        refine k_top (nI_add (8 * a9) b9) ?_
        refine lv_iconst (v := 0) hx hb dX2_withdraw_51 (by decide) ?_
        refine kV (As := [.int (nI k), .int (nI (8 * a9 + b9)), .int 0]) (rest := []) (Wc := (mW cI cZ md S)) (Wc1 := (mW cI cZ md (u_Ofr S k (8 * a9 + b9) 0))) (Wd1 := (mW cI cZ md (u_Ofr S k (8 * a9 + b9) 0))) (o := none) ⟨hx, hb, hml, hown, hts⟩ (c_X2_offers l D cI cZ cP md S k (8 * a9 + b9) 0 hn (by omega) (by omega)) (cwV 3 hts gX2_withdraw_X2_offers rfl rfl rfl (by decide +kernel) ⟨Nat.le_of_ble_eq_true rfl, Nat.le_of_ble_eq_true rfl⟩) hK hN hP hD hS (fun j => j) (fun _ _ h => h) (fun _ _ _ _ h => h) (mAdr _ _ _ _ _) (fun k q h => Or.inl ⟨k, h⟩) 0 2 rfl rfl (mO _ _ _ _) rfl hl.1 rfl (Nat.le_of_ble_eq_true rfl) ⟨Nat.zero_le _, Nat.zero_le _⟩ dX2_withdraw_52 (fun H locs hP hD hS => ?_)
        refine lv_iload hx hb dX2_withdraw_55 (lv_at hl 0 rfl) ?_
        exact k_iret hx hb hr hlk hP hS hAe (by rw [u_Wd, if_pos hp, if_pos hr9, kxe, rxe, if_neg c_37]) (by rw [u_Wd, if_pos hp, if_pos hr9, kxe, rxe, if_neg c_37]) dX2_withdraw_57
      · refine lv_bipush (v := -6) hx hb dX2_withdraw_40 (by decide) ?_
        exact k_iret hx hb hr hlk hP hS hAe (by rw [u_Wd, if_pos hp, if_pos hr9, kxe, rxe, if_pos c_37]) (by rw [u_Wd, if_pos hp, if_pos hr9, kxe, rxe, if_pos c_37]) dX2_withdraw_42
    · refine k_top (y := -2) (by rw [q_Rf, if_pos hp, if_neg hr9]) ?_
      obtain ⟨k, hk, rfl⟩ := okP_nat hn hp
      have hk5 : k < 5 := by omega
      have kxe : kx (nI k) = k := kx_n (by omega)
      refine lv_istore (lv' := [(4, .int (-2)), (0, .ref (md 0)), (1, .int (nI k)), (2, .int t), (3, .int f)]) hx hb dX2_withdraw_7 hl (by decide) rfl (fun ls hl => ?_)
      refine lv_iload hx hb dX2_withdraw_9 (lv_at hl 0 rfl) ?_
      refine lv_if_eq (tgt := 17) hx hb dX2_withdraw_11 (by decide) (fun c_ => absurd c_ (by decide)) (fun _ => ?_)
      refine lv_iload hx hb dX2_withdraw_14 (lv_at hl 0 rfl) ?_
      exact k_iret hx hb hr hlk hP hS hAe (by rw [u_Wd, if_pos hp, if_neg hr9]) (by rw [u_Wd, if_pos hp, if_neg hr9]) dX2_withdraw_16
  · refine k_top (y := -1) (by rw [q_Rf, if_neg hp]) ?_
    refine lv_istore (lv' := [(4, .int (-1)), (0, .ref (md 0)), (1, .int x), (2, .int t), (3, .int f)]) hx hb dX2_withdraw_7 hl (by decide) rfl (fun ls hl => ?_)
    refine lv_iload hx hb dX2_withdraw_9 (lv_at hl 0 rfl) ?_
    refine lv_if_eq (tgt := 17) hx hb dX2_withdraw_11 (by decide) (fun c_ => absurd c_ (by decide)) (fun _ => ?_)
    refine lv_iload hx hb dX2_withdraw_14 (lv_at hl 0 rfl) ?_
    exact k_iret hx hb hr hlk hP hS hAe (by rw [u_Wd, if_neg hp]) (by rw [u_Wd, if_neg hp]) dX2_withdraw_16

set_option maxRecDepth 100000 in
set_option maxHeartbeats 4000000 in
theorem c_X2_reconnect (l : Launch) (D : va_G) (cI cZ cP : ClassId) (md : Nat → Nat) (S : ST) (x : Int32) (hI : Inv S) : MM l yX2_reconnect wsX2_reconnect ({ frames := 4, cells := 0, slots := 0, locals := 89 }) D (kTy cI cZ cP) [.ref (md 0), .int x] (mW cI cZ md S) (some (.int (u_Rec S x).1)) (mW cI cZ md (u_Rec S x).2) := by
  refine MM.ofW (cc := cX2_reconnect) (maxL := 2) (ret := (some .int)) (by decide) rfl (Nat.le_of_ble_eq_true rfl) ?_
  intro p e s m below meth c ls A hx hb hr hlk hml hts hown hK hN hP hD hS hAe hl
  have hown : s.vm.findClass RX2 = some m.cls := hown
  have hi2 : ∀ w ∈ wsX20, w ∈ wsX2_reconnect := fun w h => List.mem_cons_of_mem _ (List.mem_append_right _ h)
  have hl : lv_has ls 2 [(0, .ref (md 0)), (1, .int x)] := hl
  have hn : g_N S ≤ 5 := hI.1
  refine lv_aload_n hx hb dX2_reconnect_0 rfl (lv_at hl 0 rfl) ?_
  refine lv_iload_n hx hb dX2_reconnect_1 rfl (lv_at hl 1 rfl) ?_
  refine kV (As := [.int x]) (rest := []) (Wc := (mW cI cZ md S)) (Wc1 := (mW cI cZ md S)) (Wd1 := (mW cI cZ md S)) (o := some (.int (if okP (g_N S) x then 1 else 0))) ⟨hx, hb, hml, hown, hts⟩ (c_X2_isPeer l D cI cZ cP md S x hn) (cwV 1 hts gX2_reconnect_X2_isPeer rfl rfl rfl (by decide +kernel) ⟨Nat.le_of_ble_eq_true rfl, Nat.le_of_ble_eq_true rfl⟩) hK hN hP hD hS (fun j => j) (fun _ _ h => h) (fun _ _ _ _ h => h) (mAdr _ _ _ _ _) (fun k q h => Or.inl ⟨k, h⟩) 0 2 rfl rfl (mO _ _ _ _) rfl hl.1 rfl (Nat.le_of_ble_eq_true rfl) ⟨Nat.zero_le _, Nat.zero_le _⟩ dX2_reconnect_2 (fun H locs hP hD hS => ?_)
  by_cases hp : okP (g_N S) x
  · refine k_top (if_pos hp) ?_
    obtain ⟨k, hk, rfl⟩ := okP_nat hn hp
    have hk5 : k < 5 := by omega
    have kxe : kx (nI k) = k := kx_n (by omega)
    refine lv_if_ne (tgt := 10) hx hb dX2_reconnect_5 (by decide) (fun _ => ?_) (fun c_ => absurd c_ (by decide))
    refine lv_aload_n hx hb dX2_reconnect_10 rfl (lv_at hl 0 rfl) ?_
    refine va_get (D := D) (ci := 2) (v := .ref (md 2)) (C := RX2) (T := TX2) (N := 16) hx hb hts hi2 hown hK hP 0 (mO _ _ _ _) rfl 5 (by decide) (hts (.fieldLink RX2 23 "GracefulRestartModel" "stateOf" "[I") (List.mem_of_getElem? (i := 1) rfl)) (fun _ h9 => h9) (mV_5 _ _) dX2_reconnect_11 ?_
    refine lv_iload_n hx hb dX2_reconnect_14 rfl (lv_at hl 1 rfl) ?_
    refine k_iald (k := k) hx hb hK hP 2 0 (mG_St _ _ _ _) rfl rfl (by omega) (by decide) dX2_reconnect_15 ?_
    refine lv_if_ne (tgt := 22) hx hb dX2_reconnect_16 (by decide) (fun c_16 => ?_) (fun c_16 => ?_)
    · refine lv_aload_n hx hb dX2_reconnect_22 rfl (lv_at hl 0 rfl) ?_
      refine va_get (D := D) (ci := 2) (v := .ref (md 2)) (C := RX2) (T := TX2) (N := 16) hx hb hts hi2 hown hK hP 0 (mO _ _ _ _) rfl 5 (by decide) (hts (.fieldLink RX2 23 "GracefulRestartModel" "stateOf" "[I") (List.mem_of_getElem? (i := 1) rfl)) (fun _ h9 => h9) (mV_5 _ _) dX2_reconnect_23 ?_
      refine lv_iload_n hx hb dX2_reconnect_26 rfl (lv_at hl 1 rfl) ?_
      refine k_iald (k := k) hx hb hK hP 2 0 (mG_St _ _ _ _) rfl rfl (by omega) (by decide) dX2_reconnect_27 ?_
      refine lv_iconst (v := 1) hx hb dX2_reconnect_28 (by decide) ?_
      refine lv_icmp_ne (tgt := 49) hx hb dX2_reconnect_29 (by decide) (fun c_29 => ?_) (fun c_29 => ?_)
      · refine lv_aload_n hx hb dX2_reconnect_49 rfl (lv_at hl 0 rfl) ?_
        refine va_get (D := D) (ci := 2) (v := .ref (md 2)) (C := RX2) (T := TX2) (N := 16) hx hb hts hi2 hown hK hP 0 (mO _ _ _ _) rfl 5 (by decide) (hts (.fieldLink RX2 23 "GracefulRestartModel" "stateOf" "[I") (List.mem_of_getElem? (i := 1) rfl)) (fun _ h9 => h9) (mV_5 _ _) dX2_reconnect_50 ?_
        refine lv_iload_n hx hb dX2_reconnect_53 rfl (lv_at hl 1 rfl) ?_
        refine lv_iconst (v := 0) hx hb dX2_reconnect_54 (by decide) ?_
        refine k_iast (k := k) hx hb hK hP hD hS 2 0 (mG_St _ _ _ _) rfl rfl (by omega) (by decide) (W1 := (mW cI cZ md (s_St S (upd (g_St S) k 0)))) (mS_St _ _ _ _ _) dX2_reconnect_55 (fun H locs hP hD hS => ?_)
        rw [Meet_0 c_29] at hP hD
        refine lv_aload_n hx hb dX2_reconnect_56 rfl (lv_at hl 0 rfl) ?_
        refine va_get (D := D) (ci := 2) (v := .int (g_Df (o_Meet S k))) (C := RX2) (T := TX2) (N := 16) hx hb hts hi2 hown hK hP 0 (mO _ _ _ _) rfl 14 (by decide) (hts (.fieldLink RX2 70 "GracefulRestartModel" "isDeferringNow" "Z") (List.mem_of_getElem? (i := 5) rfl)) (fun _ h9 => h9) (mV_Df _ _) dX2_reconnect_57 ?_
        refine k_top (y := g_Df S) (o_Meet_Df _ _) ?_
        refine lv_if_ne (tgt := 81) hx hb dX2_reconnect_60 (by decide) (fun c_60 => ?_) (fun c_60 => ?_)
        · rw [Rc1_t c_60] at hP hD
          refine lv_aload_n hx hb dX2_reconnect_81 rfl (lv_at hl 0 rfl) ?_
          refine kV (As := []) (rest := []) (Wc := (mW cI cZ md (u_Rc1 S k))) (Wc1 := (mW cI cZ md (o_Chk (u_Rc1 S k)))) (Wd1 := (mW cI cZ md (o_Chk (u_Rc1 S k)))) (o := none) ⟨hx, hb, hml, hown, hts⟩ (c_X2_checksDeferral l D cI cZ cP md (u_Rc1 S k) (inv_Rc1 hI hk)) (cwV 0 hts gX2_reconnect_X2_checksDeferral rfl rfl rfl (by decide +kernel) ⟨Nat.le_of_ble_eq_true rfl, Nat.le_of_ble_eq_true rfl⟩) hK hN hP hD hS (fun j => j) (fun _ _ h => h) (fun _ _ _ _ h => h) (mAdr _ _ _ _ _) (fun k q h => Or.inl ⟨k, h⟩) 0 2 rfl rfl (mO _ _ _ _) rfl hl.1 rfl (Nat.le_of_ble_eq_true rfl) ⟨Nat.zero_le _, Nat.zero_le _⟩ dX2_reconnect_82 (fun H locs hP hD hS => ?_)
          refine lv_aload_n hx hb dX2_reconnect_85 rfl (lv_at hl 0 rfl) ?_
          refine lv_iload_n hx hb dX2_reconnect_86 rfl (lv_at hl 1 rfl) ?_
          refine kV (As := [.int (nI k)]) (rest := []) (Wc := (mW cI cZ md (o_Chk (u_Rc1 S k)))) (Wc1 := (mW cI cZ md (o_Chk (u_Rc1 S k)))) (Wd1 := (mW cI cZ md (o_Chk (u_Rc1 S k)))) (o := some (.int (kCnt (pz (g_Of (o_Chk (u_Rc1 S k)) k)) 16))) ⟨hx, hb, hml, hown, hts⟩ (c_X2_known l D cI cZ cP md (o_Chk (u_Rc1 S k)) k (by omega)) (cwV 1 hts gX2_reconnect_X2_known rfl rfl rfl (by decide +kernel) ⟨Nat.le_of_ble_eq_true rfl, Nat.le_of_ble_eq_true rfl⟩) hK hN hP hD hS (fun j => j) (fun _ _ h => h) (fun _ _ _ _ h => h) (mAdr _ _ _ _ _) (fun k q h => Or.inl ⟨k, h⟩) 0 2 rfl rfl (mO _ _ _ _) rfl hl.1 rfl (Nat.le_of_ble_eq_true rfl) ⟨Nat.zero_le _, Nat.zero_le _⟩ dX2_reconnect_87 (fun H locs hP hD hS => ?_)
          exact k_iret hx hb hr hlk hP hS hAe (by rw [u_Rec, if_pos hp, kxe, if_neg c_16]; rw [o_Chk_Of, Rc1_Of]) (by rw [u_Rec, if_pos hp, kxe, if_neg c_16]) dX2_reconnect_90
        · refine lv_aload_n hx hb dX2_reconnect_63 rfl (lv_at hl 0 rfl) ?_
          refine kV (As := []) (rest := []) (Wc := (mW cI cZ md (o_Meet S k))) (Wc1 := (mW cI cZ md (o_SA (o_Meet S k) 16))) (Wd1 := (mW cI cZ md (o_SA (o_Meet S k) 16))) (o := none) ⟨hx, hb, hml, hown, hts⟩ (c_X2_selectsAll l D cI cZ cP md (o_Meet S k) (by rw [o_Meet_N]; exact hn)) (cwV 0 hts gX2_reconnect_X2_selectsAll rfl rfl rfl (by decide +kernel) ⟨Nat.le_of_ble_eq_true rfl, Nat.le_of_ble_eq_true rfl⟩) hK hN hP hD hS (fun j => j) (fun _ _ h => h) (fun _ _ _ _ h => h) (mAdr _ _ _ _ _) (fun k q h => Or.inl ⟨k, h⟩) 0 2 rfl rfl (mO _ _ _ _) rfl hl.1 rfl (Nat.le_of_ble_eq_true rfl) ⟨Nat.zero_le _, Nat.zero_le _⟩ dX2_reconnect_64 (fun H locs hP hD hS => ?_)
          refine lv_aload_n hx hb dX2_reconnect_67 rfl (lv_at hl 0 rfl) ?_
          refine lv_iload_n hx hb dX2_reconnect_68 rfl (lv_at hl 1 rfl) ?_
          refine lv_iconst (v := 1) hx hb dX2_reconnect_69 (by decide) ?_
          refine kV (As := [.int (nI k), .int 1]) (rest := []) (Wc := (mW cI cZ md (o_SA (o_Meet S k) 16))) (Wc1 := (mW cI cZ md (o_RmS (o_SA (o_Meet S k) 16) k))) (Wd1 := (mW cI cZ md (o_RmS (o_SA (o_Meet S k) 16) k))) (o := some (.int (kCnt (nz (g_Ss (o_SA (o_Meet S k) 16) k)) 16))) ⟨hx, hb, hml, hown, hts⟩ (c_X2_forgets1 l D cI cZ cP md (o_SA (o_Meet S k) 16) k (by omega) ((inv_SA (inv_Meet hI hk) 16).2.1 k)) (cwV 2 hts gX2_reconnect_X2_forgets rfl rfl rfl (by decide +kernel) ⟨Nat.le_of_ble_eq_true rfl, Nat.le_of_ble_eq_true rfl⟩) hK hN hP hD hS (fun j => j) (fun _ _ h => h) (fun _ _ _ _ h => h) (mAdr _ _ _ _ _) (fun k q h => Or.inl ⟨k, h⟩) 0 2 rfl rfl (mO _ _ _ _) rfl hl.1 rfl (Nat.le_of_ble_eq_true rfl) ⟨Nat.zero_le _, Nat.zero_le _⟩ dX2_reconnect_70 (fun H locs hP hD hS => ?_)
          refine lv_pop hx hb dX2_reconnect_73 rfl ?_
          refine lv_aload_n hx hb dX2_reconnect_74 rfl (lv_at hl 0 rfl) ?_
          refine va_get (D := D) (ci := 2) (v := .ref (md 4)) (C := RX2) (T := TX2) (N := 16) hx hb hts hi2 hown hK hP 0 (mO _ _ _ _) rfl 7 (by decide) (hts (.fieldLink RX2 30 "GracefulRestartModel" "staleTimerOf" "[I") (List.mem_of_getElem? (i := 3) rfl)) (fun _ h9 => h9) (mV_7 _ _) dX2_reconnect_75 ?_
          refine lv_iload_n hx hb dX2_reconnect_78 rfl (lv_at hl 1 rfl) ?_
          refine lv_iconst (v := 0) hx hb dX2_reconnect_79 (by decide) ?_
          refine k_iast (k := k) hx hb hK hP hD hS 4 0 (mG_Sl _ _ _ _) rfl rfl (by omega) (by decide) (W1 := (mW cI cZ md (s_Sl (o_RmS (o_SA (o_Meet S k) 16) k) (upd (g_Sl (o_SA (o_Meet S k) 16)) k 0)))) (by rw [show g_Sl (o_RmS (o_SA (o_Meet S k) 16) k) = g_Sl (o_SA (o_Meet S k) 16) from (o_RmS_Sl _ _)]; exact mS_Sl _ _ _ _ _) dX2_reconnect_80 (fun H locs hP hD hS => ?_)
          rw [ERes_e] at hP hD
          rw [Rc1_f c_60] at hP hD
          refine lv_aload_n hx hb dX2_reconnect_81 rfl (lv_at hl 0 rfl) ?_
          refine kV (As := []) (rest := []) (Wc := (mW cI cZ md (u_Rc1 S k))) (Wc1 := (mW cI cZ md (o_Chk (u_Rc1 S k)))) (Wd1 := (mW cI cZ md (o_Chk (u_Rc1 S k)))) (o := none) ⟨hx, hb, hml, hown, hts⟩ (c_X2_checksDeferral l D cI cZ cP md (u_Rc1 S k) (inv_Rc1 hI hk)) (cwV 0 hts gX2_reconnect_X2_checksDeferral rfl rfl rfl (by decide +kernel) ⟨Nat.le_of_ble_eq_true rfl, Nat.le_of_ble_eq_true rfl⟩) hK hN hP hD hS (fun j => j) (fun _ _ h => h) (fun _ _ _ _ h => h) (mAdr _ _ _ _ _) (fun k q h => Or.inl ⟨k, h⟩) 0 2 rfl rfl (mO _ _ _ _) rfl hl.1 rfl (Nat.le_of_ble_eq_true rfl) ⟨Nat.zero_le _, Nat.zero_le _⟩ dX2_reconnect_82 (fun H locs hP hD hS => ?_)
          refine lv_aload_n hx hb dX2_reconnect_85 rfl (lv_at hl 0 rfl) ?_
          refine lv_iload_n hx hb dX2_reconnect_86 rfl (lv_at hl 1 rfl) ?_
          refine kV (As := [.int (nI k)]) (rest := []) (Wc := (mW cI cZ md (o_Chk (u_Rc1 S k)))) (Wc1 := (mW cI cZ md (o_Chk (u_Rc1 S k)))) (Wd1 := (mW cI cZ md (o_Chk (u_Rc1 S k)))) (o := some (.int (kCnt (pz (g_Of (o_Chk (u_Rc1 S k)) k)) 16))) ⟨hx, hb, hml, hown, hts⟩ (c_X2_known l D cI cZ cP md (o_Chk (u_Rc1 S k)) k (by omega)) (cwV 1 hts gX2_reconnect_X2_known rfl rfl rfl (by decide +kernel) ⟨Nat.le_of_ble_eq_true rfl, Nat.le_of_ble_eq_true rfl⟩) hK hN hP hD hS (fun j => j) (fun _ _ h => h) (fun _ _ _ _ h => h) (mAdr _ _ _ _ _) (fun k q h => Or.inl ⟨k, h⟩) 0 2 rfl rfl (mO _ _ _ _) rfl hl.1 rfl (Nat.le_of_ble_eq_true rfl) ⟨Nat.zero_le _, Nat.zero_le _⟩ dX2_reconnect_87 (fun H locs hP hD hS => ?_)
          exact k_iret hx hb hr hlk hP hS hAe (by rw [u_Rec, if_pos hp, kxe, if_neg c_16]; rw [o_Chk_Of, Rc1_Of]) (by rw [u_Rec, if_pos hp, kxe, if_neg c_16]) dX2_reconnect_90
      · refine lv_aload_n hx hb dX2_reconnect_32 rfl (lv_at hl 0 rfl) ?_
        refine va_get (D := D) (ci := 2) (v := .ref (md 3)) (C := RX2) (T := TX2) (N := 16) hx hb hts hi2 hown hK hP 0 (mO _ _ _ _) rfl 6 (by decide) (hts (.fieldLink RX2 27 "GracefulRestartModel" "restartTimerOf" "[I") (List.mem_of_getElem? (i := 2) rfl)) (fun _ h9 => h9) (mV_6 _ _) dX2_reconnect_33 ?_
        refine lv_iload_n hx hb dX2_reconnect_36 rfl (lv_at hl 1 rfl) ?_
        refine lv_iconst (v := 0) hx hb dX2_reconnect_37 (by decide) ?_
        refine k_iast (k := k) hx hb hK hP hD hS 3 0 (mG_Rt _ _ _ _) rfl rfl (by omega) (by decide) (W1 := (mW cI cZ md (s_Rt S (upd (g_Rt S) k 0)))) (mS_Rt _ _ _ _ _) dX2_reconnect_38 (fun H locs hP hD hS => ?_)
        refine lv_aload_n hx hb dX2_reconnect_39 rfl (lv_at hl 0 rfl) ?_
        refine va_get (D := D) (ci := 2) (v := .ref (md 4)) (C := RX2) (T := TX2) (N := 16) hx hb hts hi2 hown hK hP 0 (mO _ _ _ _) rfl 7 (by decide) (hts (.fieldLink RX2 30 "GracefulRestartModel" "staleTimerOf" "[I") (List.mem_of_getElem? (i := 3) rfl)) (fun _ h9 => h9) (mV_7 _ _) dX2_reconnect_40 ?_
        refine lv_iload_n hx hb dX2_reconnect_43 rfl (lv_at hl 1 rfl) ?_
        refine lv_aload_n hx hb dX2_reconnect_44 rfl (lv_at hl 0 rfl) ?_
        refine va_get (D := D) (ci := 2) (v := .int (g_T2 (s_Rt S (upd (g_Rt S) k 0)))) (C := RX2) (T := TX2) (N := 16) hx hb hts hi2 hown hK hP 0 (mO _ _ _ _) rfl 1 (by decide) (hts (.fieldLink RX2 13 "GracefulRestartModel" "staleTime" "I") (List.mem_of_getElem? (i := 4) rfl)) (fun _ h9 => h9) (mV_T2 _ _) dX2_reconnect_45 ?_
        refine k_top (y := g_T2 S) (gs_T2_Rt _ _) ?_
        refine k_iast (k := k) hx hb hK hP hD hS 4 0 (mG_Sl _ _ _ _) rfl rfl (by omega) (by decide) (W1 := (mW cI cZ md (s_Sl (s_Rt S (upd (g_Rt S) k 0)) (upd (g_Sl S) k (g_T2 S))))) (by rw [show g_Sl (s_Rt S (upd (g_Rt S) k 0)) = g_Sl S from (gs_Sl_Rt _ _)]; exact mS_Sl _ _ _ _ _) dX2_reconnect_48 (fun H locs hP hD hS => ?_)
        refine lv_aload_n hx hb dX2_reconnect_49 rfl (lv_at hl 0 rfl) ?_
        refine va_get (D := D) (ci := 2) (v := .ref (md 2)) (C := RX2) (T := TX2) (N := 16) hx hb hts hi2 hown hK hP 0 (mO _ _ _ _) rfl 5 (by decide) (hts (.fieldLink RX2 23 "GracefulRestartModel" "stateOf" "[I") (List.mem_of_getElem? (i := 1) rfl)) (fun _ h9 => h9) (mV_5 _ _) dX2_reconnect_50 ?_
        refine lv_iload_n hx hb dX2_reconnect_53 rfl (lv_at hl 1 rfl) ?_
        refine lv_iconst (v := 0) hx hb dX2_reconnect_54 (by decide) ?_
        refine k_iast (k := k) hx hb hK hP hD hS 2 0 (mG_St _ _ _ _) rfl rfl (by omega) (by decide) (W1 := (mW cI cZ md (s_St (s_Sl (s_Rt S (upd (g_Rt S) k 0)) (upd (g_Sl S) k (g_T2 S))) (upd (g_St S) k 0)))) (by rw [show g_St (s_Sl (s_Rt S (upd (g_Rt S) k 0)) (upd (g_Sl S) k (g_T2 S))) = g_St S from ((gs_St_Sl _ _).trans (gs_St_Rt _ _))]; exact mS_St _ _ _ _ _) dX2_reconnect_55 (fun H locs hP hD hS => ?_)
        rw [Meet_1 c_29] at hP hD
        refine lv_aload_n hx hb dX2_reconnect_56 rfl (lv_at hl 0 rfl) ?_
        refine va_get (D := D) (ci := 2) (v := .int (g_Df (o_Meet S k))) (C := RX2) (T := TX2) (N := 16) hx hb hts hi2 hown hK hP 0 (mO _ _ _ _) rfl 14 (by decide) (hts (.fieldLink RX2 70 "GracefulRestartModel" "isDeferringNow" "Z") (List.mem_of_getElem? (i := 5) rfl)) (fun _ h9 => h9) (mV_Df _ _) dX2_reconnect_57 ?_
        refine k_top (y := g_Df S) (o_Meet_Df _ _) ?_
        refine lv_if_ne (tgt := 81) hx hb dX2_reconnect_60 (by decide) (fun c_60 => ?_) (fun c_60 => ?_)
        · rw [Rc1_t c_60] at hP hD
          refine lv_aload_n hx hb dX2_reconnect_81 rfl (lv_at hl 0 rfl) ?_
          refine kV (As := []) (rest := []) (Wc := (mW cI cZ md (u_Rc1 S k))) (Wc1 := (mW cI cZ md (o_Chk (u_Rc1 S k)))) (Wd1 := (mW cI cZ md (o_Chk (u_Rc1 S k)))) (o := none) ⟨hx, hb, hml, hown, hts⟩ (c_X2_checksDeferral l D cI cZ cP md (u_Rc1 S k) (inv_Rc1 hI hk)) (cwV 0 hts gX2_reconnect_X2_checksDeferral rfl rfl rfl (by decide +kernel) ⟨Nat.le_of_ble_eq_true rfl, Nat.le_of_ble_eq_true rfl⟩) hK hN hP hD hS (fun j => j) (fun _ _ h => h) (fun _ _ _ _ h => h) (mAdr _ _ _ _ _) (fun k q h => Or.inl ⟨k, h⟩) 0 2 rfl rfl (mO _ _ _ _) rfl hl.1 rfl (Nat.le_of_ble_eq_true rfl) ⟨Nat.zero_le _, Nat.zero_le _⟩ dX2_reconnect_82 (fun H locs hP hD hS => ?_)
          refine lv_aload_n hx hb dX2_reconnect_85 rfl (lv_at hl 0 rfl) ?_
          refine lv_iload_n hx hb dX2_reconnect_86 rfl (lv_at hl 1 rfl) ?_
          refine kV (As := [.int (nI k)]) (rest := []) (Wc := (mW cI cZ md (o_Chk (u_Rc1 S k)))) (Wc1 := (mW cI cZ md (o_Chk (u_Rc1 S k)))) (Wd1 := (mW cI cZ md (o_Chk (u_Rc1 S k)))) (o := some (.int (kCnt (pz (g_Of (o_Chk (u_Rc1 S k)) k)) 16))) ⟨hx, hb, hml, hown, hts⟩ (c_X2_known l D cI cZ cP md (o_Chk (u_Rc1 S k)) k (by omega)) (cwV 1 hts gX2_reconnect_X2_known rfl rfl rfl (by decide +kernel) ⟨Nat.le_of_ble_eq_true rfl, Nat.le_of_ble_eq_true rfl⟩) hK hN hP hD hS (fun j => j) (fun _ _ h => h) (fun _ _ _ _ h => h) (mAdr _ _ _ _ _) (fun k q h => Or.inl ⟨k, h⟩) 0 2 rfl rfl (mO _ _ _ _) rfl hl.1 rfl (Nat.le_of_ble_eq_true rfl) ⟨Nat.zero_le _, Nat.zero_le _⟩ dX2_reconnect_87 (fun H locs hP hD hS => ?_)
          exact k_iret hx hb hr hlk hP hS hAe (by rw [u_Rec, if_pos hp, kxe, if_neg c_16]; rw [o_Chk_Of, Rc1_Of]) (by rw [u_Rec, if_pos hp, kxe, if_neg c_16]) dX2_reconnect_90
        · refine lv_aload_n hx hb dX2_reconnect_63 rfl (lv_at hl 0 rfl) ?_
          refine kV (As := []) (rest := []) (Wc := (mW cI cZ md (o_Meet S k))) (Wc1 := (mW cI cZ md (o_SA (o_Meet S k) 16))) (Wd1 := (mW cI cZ md (o_SA (o_Meet S k) 16))) (o := none) ⟨hx, hb, hml, hown, hts⟩ (c_X2_selectsAll l D cI cZ cP md (o_Meet S k) (by rw [o_Meet_N]; exact hn)) (cwV 0 hts gX2_reconnect_X2_selectsAll rfl rfl rfl (by decide +kernel) ⟨Nat.le_of_ble_eq_true rfl, Nat.le_of_ble_eq_true rfl⟩) hK hN hP hD hS (fun j => j) (fun _ _ h => h) (fun _ _ _ _ h => h) (mAdr _ _ _ _ _) (fun k q h => Or.inl ⟨k, h⟩) 0 2 rfl rfl (mO _ _ _ _) rfl hl.1 rfl (Nat.le_of_ble_eq_true rfl) ⟨Nat.zero_le _, Nat.zero_le _⟩ dX2_reconnect_64 (fun H locs hP hD hS => ?_)
          refine lv_aload_n hx hb dX2_reconnect_67 rfl (lv_at hl 0 rfl) ?_
          refine lv_iload_n hx hb dX2_reconnect_68 rfl (lv_at hl 1 rfl) ?_
          refine lv_iconst (v := 1) hx hb dX2_reconnect_69 (by decide) ?_
          refine kV (As := [.int (nI k), .int 1]) (rest := []) (Wc := (mW cI cZ md (o_SA (o_Meet S k) 16))) (Wc1 := (mW cI cZ md (o_RmS (o_SA (o_Meet S k) 16) k))) (Wd1 := (mW cI cZ md (o_RmS (o_SA (o_Meet S k) 16) k))) (o := some (.int (kCnt (nz (g_Ss (o_SA (o_Meet S k) 16) k)) 16))) ⟨hx, hb, hml, hown, hts⟩ (c_X2_forgets1 l D cI cZ cP md (o_SA (o_Meet S k) 16) k (by omega) ((inv_SA (inv_Meet hI hk) 16).2.1 k)) (cwV 2 hts gX2_reconnect_X2_forgets rfl rfl rfl (by decide +kernel) ⟨Nat.le_of_ble_eq_true rfl, Nat.le_of_ble_eq_true rfl⟩) hK hN hP hD hS (fun j => j) (fun _ _ h => h) (fun _ _ _ _ h => h) (mAdr _ _ _ _ _) (fun k q h => Or.inl ⟨k, h⟩) 0 2 rfl rfl (mO _ _ _ _) rfl hl.1 rfl (Nat.le_of_ble_eq_true rfl) ⟨Nat.zero_le _, Nat.zero_le _⟩ dX2_reconnect_70 (fun H locs hP hD hS => ?_)
          refine lv_pop hx hb dX2_reconnect_73 rfl ?_
          refine lv_aload_n hx hb dX2_reconnect_74 rfl (lv_at hl 0 rfl) ?_
          refine va_get (D := D) (ci := 2) (v := .ref (md 4)) (C := RX2) (T := TX2) (N := 16) hx hb hts hi2 hown hK hP 0 (mO _ _ _ _) rfl 7 (by decide) (hts (.fieldLink RX2 30 "GracefulRestartModel" "staleTimerOf" "[I") (List.mem_of_getElem? (i := 3) rfl)) (fun _ h9 => h9) (mV_7 _ _) dX2_reconnect_75 ?_
          refine lv_iload_n hx hb dX2_reconnect_78 rfl (lv_at hl 1 rfl) ?_
          refine lv_iconst (v := 0) hx hb dX2_reconnect_79 (by decide) ?_
          refine k_iast (k := k) hx hb hK hP hD hS 4 0 (mG_Sl _ _ _ _) rfl rfl (by omega) (by decide) (W1 := (mW cI cZ md (s_Sl (o_RmS (o_SA (o_Meet S k) 16) k) (upd (g_Sl (o_SA (o_Meet S k) 16)) k 0)))) (by rw [show g_Sl (o_RmS (o_SA (o_Meet S k) 16) k) = g_Sl (o_SA (o_Meet S k) 16) from (o_RmS_Sl _ _)]; exact mS_Sl _ _ _ _ _) dX2_reconnect_80 (fun H locs hP hD hS => ?_)
          rw [ERes_e] at hP hD
          rw [Rc1_f c_60] at hP hD
          refine lv_aload_n hx hb dX2_reconnect_81 rfl (lv_at hl 0 rfl) ?_
          refine kV (As := []) (rest := []) (Wc := (mW cI cZ md (u_Rc1 S k))) (Wc1 := (mW cI cZ md (o_Chk (u_Rc1 S k)))) (Wd1 := (mW cI cZ md (o_Chk (u_Rc1 S k)))) (o := none) ⟨hx, hb, hml, hown, hts⟩ (c_X2_checksDeferral l D cI cZ cP md (u_Rc1 S k) (inv_Rc1 hI hk)) (cwV 0 hts gX2_reconnect_X2_checksDeferral rfl rfl rfl (by decide +kernel) ⟨Nat.le_of_ble_eq_true rfl, Nat.le_of_ble_eq_true rfl⟩) hK hN hP hD hS (fun j => j) (fun _ _ h => h) (fun _ _ _ _ h => h) (mAdr _ _ _ _ _) (fun k q h => Or.inl ⟨k, h⟩) 0 2 rfl rfl (mO _ _ _ _) rfl hl.1 rfl (Nat.le_of_ble_eq_true rfl) ⟨Nat.zero_le _, Nat.zero_le _⟩ dX2_reconnect_82 (fun H locs hP hD hS => ?_)
          refine lv_aload_n hx hb dX2_reconnect_85 rfl (lv_at hl 0 rfl) ?_
          refine lv_iload_n hx hb dX2_reconnect_86 rfl (lv_at hl 1 rfl) ?_
          refine kV (As := [.int (nI k)]) (rest := []) (Wc := (mW cI cZ md (o_Chk (u_Rc1 S k)))) (Wc1 := (mW cI cZ md (o_Chk (u_Rc1 S k)))) (Wd1 := (mW cI cZ md (o_Chk (u_Rc1 S k)))) (o := some (.int (kCnt (pz (g_Of (o_Chk (u_Rc1 S k)) k)) 16))) ⟨hx, hb, hml, hown, hts⟩ (c_X2_known l D cI cZ cP md (o_Chk (u_Rc1 S k)) k (by omega)) (cwV 1 hts gX2_reconnect_X2_known rfl rfl rfl (by decide +kernel) ⟨Nat.le_of_ble_eq_true rfl, Nat.le_of_ble_eq_true rfl⟩) hK hN hP hD hS (fun j => j) (fun _ _ h => h) (fun _ _ _ _ h => h) (mAdr _ _ _ _ _) (fun k q h => Or.inl ⟨k, h⟩) 0 2 rfl rfl (mO _ _ _ _) rfl hl.1 rfl (Nat.le_of_ble_eq_true rfl) ⟨Nat.zero_le _, Nat.zero_le _⟩ dX2_reconnect_87 (fun H locs hP hD hS => ?_)
          exact k_iret hx hb hr hlk hP hS hAe (by rw [u_Rec, if_pos hp, kxe, if_neg c_16]; rw [o_Chk_Of, Rc1_Of]) (by rw [u_Rec, if_pos hp, kxe, if_neg c_16]) dX2_reconnect_90
    · refine lv_bipush (v := -4) hx hb dX2_reconnect_19 (by decide) ?_
      exact k_iret hx hb hr hlk hP hS hAe (by rw [u_Rec, if_pos hp, kxe, if_pos c_16]) (by rw [u_Rec, if_pos hp, kxe, if_pos c_16]) dX2_reconnect_21
  · refine k_top (if_neg hp) ?_
    refine lv_if_ne (tgt := 10) hx hb dX2_reconnect_5 (by decide) (fun c_ => absurd (by decide) c_) (fun _ => ?_)
    refine lv_iconst (v := -1) hx hb dX2_reconnect_8 (by decide) ?_
    exact k_iret hx hb hr hlk hP hS hAe (by rw [u_Rec, if_neg hp]) (by rw [u_Rec, if_neg hp]) dX2_reconnect_9

set_option maxRecDepth 100000 in
set_option maxHeartbeats 4000000 in
theorem c_X2_disconnect (l : Launch) (D : va_G) (cI cZ cP : ClassId) (md : Nat → Nat) (S : ST) (x : Int32) (hI : Inv S) : MM l yX2_disconnect wsX2_disconnect ({ frames := 4, cells := 0, slots := 0, locals := 89 }) D (kTy cI cZ cP) [.ref (md 0), .int x] (mW cI cZ md S) (some (.int (u_Dis S x).1)) (mW cI cZ md (u_Dis S x).2) := by
  refine MM.ofW (cc := cX2_disconnect) (maxL := 3) (ret := (some .int)) (by decide) rfl (Nat.le_of_ble_eq_true rfl) ?_
  intro p e s m below meth c ls A hx hb hr hlk hml hts hown hK hN hP hD hS hAe hl
  have hown : s.vm.findClass RX2 = some m.cls := hown
  have hi2 : ∀ w ∈ wsX20, w ∈ wsX2_disconnect := fun w h => List.mem_cons_of_mem _ (List.mem_append_right _ h)
  have hl : lv_has ls 3 [(0, .ref (md 0)), (1, .int x)] := hl
  have hn : g_N S ≤ 5 := hI.1
  refine lv_aload_n hx hb dX2_disconnect_0 rfl (lv_at hl 0 rfl) ?_
  refine lv_iload_n hx hb dX2_disconnect_1 rfl (lv_at hl 1 rfl) ?_
  refine kV (As := [.int x]) (rest := []) (Wc := (mW cI cZ md S)) (Wc1 := (mW cI cZ md S)) (Wd1 := (mW cI cZ md S)) (o := some (.int (if okP (g_N S) x then 1 else 0))) ⟨hx, hb, hml, hown, hts⟩ (c_X2_isPeer l D cI cZ cP md S x hn) (cwV 1 hts gX2_disconnect_X2_isPeer rfl rfl rfl (by decide +kernel) ⟨Nat.le_of_ble_eq_true rfl, Nat.le_of_ble_eq_true rfl⟩) hK hN hP hD hS (fun j => j) (fun _ _ h => h) (fun _ _ _ _ h => h) (mAdr _ _ _ _ _) (fun k q h => Or.inl ⟨k, h⟩) 0 2 rfl rfl (mO _ _ _ _) rfl hl.1 rfl (Nat.le_of_ble_eq_true rfl) ⟨Nat.zero_le _, Nat.zero_le _⟩ dX2_disconnect_2 (fun H locs hP hD hS => ?_)
  by_cases hp : okP (g_N S) x
  · refine k_top (if_pos hp) ?_
    obtain ⟨k, hk, rfl⟩ := okP_nat hn hp
    have hk5 : k < 5 := by omega
    have kxe : kx (nI k) = k := kx_n (by omega)
    refine lv_if_ne (tgt := 10) hx hb dX2_disconnect_5 (by decide) (fun _ => ?_) (fun c_ => absurd c_ (by decide))
    refine lv_aload_n hx hb dX2_disconnect_10 rfl (lv_at hl 0 rfl) ?_
    refine va_get (D := D) (ci := 2) (v := .ref (md 2)) (C := RX2) (T := TX2) (N := 16) hx hb hts hi2 hown hK hP 0 (mO _ _ _ _) rfl 5 (by decide) (hts (.fieldLink RX2 23 "GracefulRestartModel" "stateOf" "[I") (List.mem_of_getElem? (i := 1) rfl)) (fun _ h9 => h9) (mV_5 _ _) dX2_disconnect_11 ?_
    refine lv_iload_n hx hb dX2_disconnect_14 rfl (lv_at hl 1 rfl) ?_
    refine k_iald (k := k) hx hb hK hP 2 0 (mG_St _ _ _ _) rfl rfl (by omega) (by decide) dX2_disconnect_15 ?_
    refine lv_iconst (v := 2) hx hb dX2_disconnect_16 (by decide) ?_
    refine lv_icmp_ne (tgt := 23) hx hb dX2_disconnect_17 (by decide) (fun c_17 => ?_) (fun c_17 => ?_)
    · refine lv_aload_n hx hb dX2_disconnect_23 rfl (lv_at hl 0 rfl) ?_
      refine va_get (D := D) (ci := 2) (v := .ref (md 2)) (C := RX2) (T := TX2) (N := 16) hx hb hts hi2 hown hK hP 0 (mO _ _ _ _) rfl 5 (by decide) (hts (.fieldLink RX2 23 "GracefulRestartModel" "stateOf" "[I") (List.mem_of_getElem? (i := 1) rfl)) (fun _ h9 => h9) (mV_5 _ _) dX2_disconnect_24 ?_
      refine lv_iload_n hx hb dX2_disconnect_27 rfl (lv_at hl 1 rfl) ?_
      refine lv_iconst (v := 2) hx hb dX2_disconnect_28 (by decide) ?_
      refine k_iast (k := k) hx hb hK hP hD hS 2 0 (mG_St _ _ _ _) rfl rfl (by omega) (by decide) (W1 := (mW cI cZ md (s_St S (upd (g_St S) k 2)))) (mS_St _ _ _ _ _) dX2_disconnect_29 (fun H locs hP hD hS => ?_)
      refine lv_aload_n hx hb dX2_disconnect_30 rfl (lv_at hl 0 rfl) ?_
      refine va_get (D := D) (ci := 2) (v := .ref (md 3)) (C := RX2) (T := TX2) (N := 16) hx hb hts hi2 hown hK hP 0 (mO _ _ _ _) rfl 6 (by decide) (hts (.fieldLink RX2 27 "GracefulRestartModel" "restartTimerOf" "[I") (List.mem_of_getElem? (i := 2) rfl)) (fun _ h9 => h9) (mV_6 _ _) dX2_disconnect_31 ?_
      refine lv_iload_n hx hb dX2_disconnect_34 rfl (lv_at hl 1 rfl) ?_
      refine lv_iconst (v := 0) hx hb dX2_disconnect_35 (by decide) ?_
      refine k_iast (k := k) hx hb hK hP hD hS 3 0 (mG_Rt _ _ _ _) rfl rfl (by omega) (by decide) (W1 := (mW cI cZ md (s_Rt (s_St S (upd (g_St S) k 2)) (upd (g_Rt S) k 0)))) (by rw [show g_Rt (s_St S (upd (g_St S) k 2)) = g_Rt S from (gs_Rt_St _ _)]; exact mS_Rt _ _ _ _ _) dX2_disconnect_36 (fun H locs hP hD hS => ?_)
      refine lv_aload_n hx hb dX2_disconnect_37 rfl (lv_at hl 0 rfl) ?_
      refine va_get (D := D) (ci := 2) (v := .ref (md 4)) (C := RX2) (T := TX2) (N := 16) hx hb hts hi2 hown hK hP 0 (mO _ _ _ _) rfl 7 (by decide) (hts (.fieldLink RX2 30 "GracefulRestartModel" "staleTimerOf" "[I") (List.mem_of_getElem? (i := 3) rfl)) (fun _ h9 => h9) (mV_7 _ _) dX2_disconnect_38 ?_
      refine lv_iload_n hx hb dX2_disconnect_41 rfl (lv_at hl 1 rfl) ?_
      refine lv_iconst (v := 0) hx hb dX2_disconnect_42 (by decide) ?_
      refine k_iast (k := k) hx hb hK hP hD hS 4 0 (mG_Sl _ _ _ _) rfl rfl (by omega) (by decide) (W1 := (mW cI cZ md (s_Sl (s_Rt (s_St S (upd (g_St S) k 2)) (upd (g_Rt S) k 0)) (upd (g_Sl S) k 0)))) (by rw [show g_Sl (s_Rt (s_St S (upd (g_St S) k 2)) (upd (g_Rt S) k 0)) = g_Sl S from ((gs_Sl_Rt _ _).trans (gs_Sl_St _ _))]; exact mS_Sl _ _ _ _ _) dX2_disconnect_43 (fun H locs hP hD hS => ?_)
      refine lv_aload_n hx hb dX2_disconnect_44 rfl (lv_at hl 0 rfl) ?_
      refine lv_iload_n hx hb dX2_disconnect_45 rfl (lv_at hl 1 rfl) ?_
      refine lv_iconst (v := 0) hx hb dX2_disconnect_46 (by decide) ?_
      refine kV (As := [.int (nI k), .int 0]) (rest := []) (Wc := (mW cI cZ md (s_Sl (s_Rt (s_St S (upd (g_St S) k 2)) (upd (g_Rt S) k 0)) (upd (g_Sl S) k 0)))) (Wc1 := (mW cI cZ md (o_RmL (s_Sl (s_Rt (s_St S (upd (g_St S) k 2)) (upd (g_Rt S) k 0)) (upd (g_Sl S) k 0)) k))) (Wd1 := (mW cI cZ md (o_RmL (s_Sl (s_Rt (s_St S (upd (g_St S) k 2)) (upd (g_Rt S) k 0)) (upd (g_Sl S) k 0)) k))) (o := some (.int (kCnt (nz (g_Le (s_Sl (s_Rt (s_St S (upd (g_St S) k 2)) (upd (g_Rt S) k 0)) (upd (g_Sl S) k 0)) k)) 16))) ⟨hx, hb, hml, hown, hts⟩ (c_X2_forgets0 l D cI cZ cP md (s_Sl (s_Rt (s_St S (upd (g_St S) k 2)) (upd (g_Rt S) k 0)) (upd (g_Sl S) k 0)) k (by omega) (by rw [show g_Le (s_Sl (s_Rt (s_St S (upd (g_St S) k 2)) (upd (g_Rt S) k 0)) (upd (g_Sl S) k 0)) = g_Le S from ((gs_Le_Sl _ _).trans ((gs_Le_Rt _ _).trans (gs_Le_St _ _))), show g_Ss (s_Sl (s_Rt (s_St S (upd (g_St S) k 2)) (upd (g_Rt S) k 0)) (upd (g_Sl S) k 0)) = g_Ss S from ((gs_Ss_Sl _ _).trans ((gs_Ss_Rt _ _).trans (gs_Ss_St _ _)))]; exact hI.2.1 k)) (cwV 2 hts gX2_disconnect_X2_forgets rfl rfl rfl (by decide +kernel) ⟨Nat.le_of_ble_eq_true rfl, Nat.le_of_ble_eq_true rfl⟩) hK hN hP hD hS (fun j => j) (fun _ _ h => h) (fun _ _ _ _ h => h) (mAdr _ _ _ _ _) (fun k q h => Or.inl ⟨k, h⟩) 0 2 rfl rfl (mO _ _ _ _) rfl hl.1 rfl (Nat.le_of_ble_eq_true rfl) ⟨Nat.zero_le _, Nat.zero_le _⟩ dX2_disconnect_47 (fun H locs hP hD hS => ?_)
      refine lv_istore_n (lv' := [(2, .int (kCnt (nz (g_Le (s_Sl (s_Rt (s_St S (upd (g_St S) k 2)) (upd (g_Rt S) k 0)) (upd (g_Sl S) k 0)) k)) 16)), (0, .ref (md 0)), (1, .int (nI k))]) hx hb dX2_disconnect_50 rfl hl (by decide) rfl (fun ls hl => ?_)
      rw [Down_e] at hP hD
      refine lv_aload_n hx hb dX2_disconnect_51 rfl (lv_at hl 1 rfl) ?_
      refine va_get (D := D) (ci := 2) (v := .int (g_Df (o_Down S k))) (C := RX2) (T := TX2) (N := 16) hx hb hts hi2 hown hK hP 0 (mO _ _ _ _) rfl 14 (by decide) (hts (.fieldLink RX2 70 "GracefulRestartModel" "isDeferringNow" "Z") (List.mem_of_getElem? (i := 4) rfl)) (fun _ h9 => h9) (mV_Df _ _) dX2_disconnect_52 ?_
      refine k_top (y := g_Df S) (o_Down_Df _ _) ?_
      refine lv_if_ne (tgt := 62) hx hb dX2_disconnect_55 (by decide) (fun c_55 => ?_) (fun c_55 => ?_)
      · rw [Ds1_t c_55] at hP hD
        refine lv_aload_n hx hb dX2_disconnect_62 rfl (lv_at hl 1 rfl) ?_
        refine kV (As := []) (rest := []) (Wc := (mW cI cZ md (u_Ds1 S k))) (Wc1 := (mW cI cZ md (o_Chk (u_Ds1 S k)))) (Wd1 := (mW cI cZ md (o_Chk (u_Ds1 S k)))) (o := none) ⟨hx, hb, hml, hown, hts⟩ (c_X2_checksDeferral l D cI cZ cP md (u_Ds1 S k) (inv_Ds1 hI hk)) (cwV 0 hts gX2_disconnect_X2_checksDeferral rfl rfl rfl (by decide +kernel) ⟨Nat.le_of_ble_eq_true rfl, Nat.le_of_ble_eq_true rfl⟩) hK hN hP hD hS (fun j => j) (fun _ _ h => h) (fun _ _ _ _ h => h) (mAdr _ _ _ _ _) (fun k q h => Or.inl ⟨k, h⟩) 0 2 rfl rfl (mO _ _ _ _) rfl hl.1 rfl (Nat.le_of_ble_eq_true rfl) ⟨Nat.zero_le _, Nat.zero_le _⟩ dX2_disconnect_63 (fun H locs hP hD hS => ?_)
        refine lv_iload_n hx hb dX2_disconnect_66 rfl (lv_at hl 0 rfl) ?_
        exact k_iret hx hb hr hlk hP hS hAe (by rw [u_Dis, if_pos hp, kxe, if_neg c_17]; rw [gs_Le_Sl, gs_Le_Rt, gs_Le_St]) (by rw [u_Dis, if_pos hp, kxe, if_neg c_17]) dX2_disconnect_67
      · refine lv_aload_n hx hb dX2_disconnect_58 rfl (lv_at hl 1 rfl) ?_
        refine kV (As := []) (rest := []) (Wc := (mW cI cZ md (o_Down S k))) (Wc1 := (mW cI cZ md (o_SA (o_Down S k) 16))) (Wd1 := (mW cI cZ md (o_SA (o_Down S k) 16))) (o := none) ⟨hx, hb, hml, hown, hts⟩ (c_X2_selectsAll l D cI cZ cP md (o_Down S k) (by rw [o_Down_N]; exact hn)) (cwV 0 hts gX2_disconnect_X2_selectsAll rfl rfl rfl (by decide +kernel) ⟨Nat.le_of_ble_eq_true rfl, Nat.le_of_ble_eq_true rfl⟩) hK hN hP hD hS (fun j => j) (fun _ _ h => h) (fun _ _ _ _ h => h) (mAdr _ _ _ _ _) (fun k q h => Or.inl ⟨k, h⟩) 0 2 rfl rfl (mO _ _ _ _) rfl hl.1 rfl (Nat.le_of_ble_eq_true rfl) ⟨Nat.zero_le _, Nat.zero_le _⟩ dX2_disconnect_59 (fun H locs hP hD hS => ?_)
        rw [Ds1_f c_55] at hP hD
        refine lv_aload_n hx hb dX2_disconnect_62 rfl (lv_at hl 1 rfl) ?_
        refine kV (As := []) (rest := []) (Wc := (mW cI cZ md (u_Ds1 S k))) (Wc1 := (mW cI cZ md (o_Chk (u_Ds1 S k)))) (Wd1 := (mW cI cZ md (o_Chk (u_Ds1 S k)))) (o := none) ⟨hx, hb, hml, hown, hts⟩ (c_X2_checksDeferral l D cI cZ cP md (u_Ds1 S k) (inv_Ds1 hI hk)) (cwV 0 hts gX2_disconnect_X2_checksDeferral rfl rfl rfl (by decide +kernel) ⟨Nat.le_of_ble_eq_true rfl, Nat.le_of_ble_eq_true rfl⟩) hK hN hP hD hS (fun j => j) (fun _ _ h => h) (fun _ _ _ _ h => h) (mAdr _ _ _ _ _) (fun k q h => Or.inl ⟨k, h⟩) 0 2 rfl rfl (mO _ _ _ _) rfl hl.1 rfl (Nat.le_of_ble_eq_true rfl) ⟨Nat.zero_le _, Nat.zero_le _⟩ dX2_disconnect_63 (fun H locs hP hD hS => ?_)
        refine lv_iload_n hx hb dX2_disconnect_66 rfl (lv_at hl 0 rfl) ?_
        exact k_iret hx hb hr hlk hP hS hAe (by rw [u_Dis, if_pos hp, kxe, if_neg c_17]; rw [gs_Le_Sl, gs_Le_Rt, gs_Le_St]) (by rw [u_Dis, if_pos hp, kxe, if_neg c_17]) dX2_disconnect_67
    · refine lv_bipush (v := -4) hx hb dX2_disconnect_20 (by decide) ?_
      exact k_iret hx hb hr hlk hP hS hAe (by rw [u_Dis, if_pos hp, kxe, if_pos c_17]) (by rw [u_Dis, if_pos hp, kxe, if_pos c_17]) dX2_disconnect_22
  · refine k_top (if_neg hp) ?_
    refine lv_if_ne (tgt := 10) hx hb dX2_disconnect_5 (by decide) (fun c_ => absurd (by decide) c_) (fun _ => ?_)
    refine lv_iconst (v := -1) hx hb dX2_disconnect_8 (by decide) ?_
    exact k_iret hx hb hr hlk hP hS hAe (by rw [u_Dis, if_neg hp]) (by rw [u_Dis, if_neg hp]) dX2_disconnect_9

set_option maxRecDepth 100000 in
set_option maxHeartbeats 4000000 in
theorem c_X2_endOfTable (l : Launch) (D : va_G) (cI cZ cP : ClassId) (md : Nat → Nat) (S : ST) (x t : Int32) (hI : Inv S) : MM l yX2_endOfTable wsX2_endOfTable ({ frames := 4, cells := 0, slots := 0, locals := 89 }) D (kTy cI cZ cP) [.ref (md 0), .int x, .int t] (mW cI cZ md S) (some (.int (u_Eot S x t).1)) (mW cI cZ md (u_Eot S x t).2) := by
  refine MM.ofW (cc := cX2_endOfTable) (maxL := 3) (ret := (some .int)) (by decide) rfl (Nat.le_of_ble_eq_true rfl) ?_
  intro p e s m below meth c ls A hx hb hr hlk hml hts hown hK hN hP hD hS hAe hl
  have hown : s.vm.findClass RX2 = some m.cls := hown
  have hi2 : ∀ w ∈ wsX20, w ∈ wsX2_endOfTable := fun w h => List.mem_cons_of_mem _ (List.mem_append_right _ h)
  have hl : lv_has ls 3 [(0, .ref (md 0)), (1, .int x), (2, .int t)] := hl
  have hn : g_N S ≤ 5 := hI.1
  refine lv_aload_n hx hb dX2_endOfTable_0 rfl (lv_at hl 0 rfl) ?_
  refine lv_iload_n hx hb dX2_endOfTable_1 rfl (lv_at hl 1 rfl) ?_
  refine kV (As := [.int x]) (rest := []) (Wc := (mW cI cZ md S)) (Wc1 := (mW cI cZ md S)) (Wd1 := (mW cI cZ md S)) (o := some (.int (if okP (g_N S) x then 1 else 0))) ⟨hx, hb, hml, hown, hts⟩ (c_X2_isPeer l D cI cZ cP md S x hn) (cwV 1 hts gX2_endOfTable_X2_isPeer rfl rfl rfl (by decide +kernel) ⟨Nat.le_of_ble_eq_true rfl, Nat.le_of_ble_eq_true rfl⟩) hK hN hP hD hS (fun j => j) (fun _ _ h => h) (fun _ _ _ _ h => h) (mAdr _ _ _ _ _) (fun k q h => Or.inl ⟨k, h⟩) 0 2 rfl rfl (mO _ _ _ _) rfl hl.1 rfl (Nat.le_of_ble_eq_true rfl) ⟨Nat.zero_le _, Nat.zero_le _⟩ dX2_endOfTable_2 (fun H locs hP hD hS => ?_)
  by_cases hp : okP (g_N S) x
  · refine k_top (if_pos hp) ?_
    obtain ⟨k, hk, rfl⟩ := okP_nat hn hp
    have hk5 : k < 5 := by omega
    have kxe : kx (nI k) = k := kx_n (by omega)
    refine lv_if_ne (tgt := 10) hx hb dX2_endOfTable_5 (by decide) (fun _ => ?_) (fun c_ => absurd c_ (by decide))
    refine lv_iload_n hx hb dX2_endOfTable_10 rfl (lv_at hl 2 rfl) ?_
    refine lv_iconst (v := 0) hx hb dX2_endOfTable_11 (by decide) ?_
    refine lv_iconst (v := 1) hx hb dX2_endOfTable_12 (by decide) ?_
    refine kS0 (As := [.int t, .int 0, .int 1]) (rest := []) (o := some (.int (if t < 0 then 0 else if 1 < t then 0 else 1))) ⟨hx, hb, hml, hown, hts⟩ (c_X2_within l D cI cZ cP t 0 1) (va_cwS 3 hts gX2_endOfTable_X2_within rfl rfl rfl (by decide +kernel) ⟨Nat.le_of_ble_eq_true rfl, Nat.le_of_ble_eq_true rfl⟩) hK hN hP hD hS rfl hl.1 rfl (Nat.le_of_ble_eq_true rfl) ⟨Nat.zero_le _, Nat.zero_le _⟩ dX2_endOfTable_13 (fun H locs hP hD hS => ?_)
    refine k_top (y := if okB t then 1 else 0) (wi_R t (by decide)) ?_
    by_cases hB : okB t
    · refine k_top (if_pos hB) ?_
      obtain ⟨a9, ha9, rfl⟩ := rng_nat (M := 2) (by decide) hB
      have kte : kx (nI a9) = a9 := kx_n (by omega)
      refine lv_if_ne (tgt := 22) hx hb dX2_endOfTable_16 (by decide) (fun _ => ?_) (fun c_ => absurd c_ (by decide))
      refine lv_aload_n hx hb dX2_endOfTable_22 rfl (lv_at hl 0 rfl) ?_
      refine va_get (D := D) (ci := 2) (v := .ref (md 2)) (C := RX2) (T := TX2) (N := 16) hx hb hts hi2 hown hK hP 0 (mO _ _ _ _) rfl 5 (by decide) (hts (.fieldLink RX2 23 "GracefulRestartModel" "stateOf" "[I") (List.mem_of_getElem? (i := 1) rfl)) (fun _ h9 => h9) (mV_5 _ _) dX2_endOfTable_23 ?_
      refine lv_iload_n hx hb dX2_endOfTable_26 rfl (lv_at hl 1 rfl) ?_
      refine k_iald (k := k) hx hb hK hP 2 0 (mG_St _ _ _ _) rfl rfl (by omega) (by decide) dX2_endOfTable_27 ?_
      refine lv_if_eq (tgt := 34) hx hb dX2_endOfTable_28 (by decide) (fun c_28 => ?_) (fun c_28 => ?_)
      · refine lv_aload_n hx hb dX2_endOfTable_34 rfl (lv_at hl 0 rfl) ?_
        refine va_get (D := D) (ci := 2) (v := .ref (md 5)) (C := RX2) (T := TX2) (N := 16) hx hb hts hi2 hown hK hP 0 (mO _ _ _ _) rfl 8 (by decide) (hts (.fieldLink RX2 33 "GracefulRestartModel" "hasMarked" "[Z") (List.mem_of_getElem? (i := 2) rfl)) (fun _ h9 => h9) (mV_8 _ _) dX2_endOfTable_35 ?_
        refine lv_iconst (v := 2) hx hb dX2_endOfTable_38 (by decide) ?_
        refine lv_iload_n hx hb dX2_endOfTable_39 rfl (lv_at hl 1 rfl) ?_
        refine lv_imul hx hb dX2_endOfTable_40 ?_
        refine k_top (nx2 k) ?_
        refine lv_iload_n hx hb dX2_endOfTable_41 rfl (lv_at hl 2 rfl) ?_
        refine lv_iadd hx hb dX2_endOfTable_42 ?_
        refine k_top (nI_add (2 * k) a9) ?_
        refine k_zald (k := 2 * k + a9) hx hb hK hP 5 1 (mG_Hm _ _ _ _) rfl rfl (by omega) (by decide) dX2_endOfTable_43 ?_
        refine k_top (y := (g_Hm S) k a9) (fl_at 2 _ (p := k) (r := a9) (by omega)) ?_
        refine lv_if_eq (tgt := 49) hx hb dX2_endOfTable_44 (by decide) (fun c_44 => ?_) (fun c_44 => ?_)
        · refine lv_aload_n hx hb dX2_endOfTable_49 rfl (lv_at hl 0 rfl) ?_
          refine va_get (D := D) (ci := 2) (v := .ref (md 5)) (C := RX2) (T := TX2) (N := 16) hx hb hts hi2 hown hK hP 0 (mO _ _ _ _) rfl 8 (by decide) (hts (.fieldLink RX2 33 "GracefulRestartModel" "hasMarked" "[Z") (List.mem_of_getElem? (i := 2) rfl)) (fun _ h9 => h9) (mV_8 _ _) dX2_endOfTable_50 ?_
          refine lv_iconst (v := 2) hx hb dX2_endOfTable_53 (by decide) ?_
          refine lv_iload_n hx hb dX2_endOfTable_54 rfl (lv_at hl 1 rfl) ?_
          refine lv_imul hx hb dX2_endOfTable_55 ?_
          refine k_top (nx2 k) ?_
          refine lv_iload_n hx hb dX2_endOfTable_56 rfl (lv_at hl 2 rfl) ?_
          refine lv_iadd hx hb dX2_endOfTable_57 ?_
          refine k_top (nI_add (2 * k) a9) ?_
          refine lv_iconst (v := 1) hx hb dX2_endOfTable_58 (by decide) ?_
          refine k_zast (k := 2 * k + a9) hx hb hK hP hD hS 5 1 (mG_Hm _ _ _ _) rfl rfl (by omega) (by decide) (by decide) (W1 := (mW cI cZ md (u_Mk S k a9))) (by rw [fl_up 2 _ (p := k) (r := a9) (by omega) _, mS_Hm, Mk_e]) dX2_endOfTable_59 (fun H locs hP hD hS => ?_)
          refine lv_aload_n hx hb dX2_endOfTable_60 rfl (lv_at hl 0 rfl) ?_
          refine kV (As := []) (rest := []) (Wc := (mW cI cZ md (u_Mk S k a9))) (Wc1 := (mW cI cZ md (o_Chk (u_Mk S k a9)))) (Wd1 := (mW cI cZ md (o_Chk (u_Mk S k a9)))) (o := none) ⟨hx, hb, hml, hown, hts⟩ (c_X2_checksDeferral l D cI cZ cP md (u_Mk S k a9) (inv_hm hI hk _)) (cwV 0 hts gX2_endOfTable_X2_checksDeferral rfl rfl rfl (by decide +kernel) ⟨Nat.le_of_ble_eq_true rfl, Nat.le_of_ble_eq_true rfl⟩) hK hN hP hD hS (fun j => j) (fun _ _ h => h) (fun _ _ _ _ h => h) (mAdr _ _ _ _ _) (fun k q h => Or.inl ⟨k, h⟩) 0 2 rfl rfl (mO _ _ _ _) rfl hl.1 rfl (Nat.le_of_ble_eq_true rfl) ⟨Nat.zero_le _, Nat.zero_le _⟩ dX2_endOfTable_61 (fun H locs hP hD hS => ?_)
          refine lv_iconst (v := 1) hx hb dX2_endOfTable_64 (by decide) ?_
          exact k_iret hx hb hr hlk hP hS hAe (by rw [u_Eot, if_pos hp, if_pos hB, kxe, kte, if_pos c_28, if_pos c_44]) (by rw [u_Eot, if_pos hp, if_pos hB, kxe, kte, if_pos c_28, if_pos c_44]) dX2_endOfTable_65
        · refine lv_iconst (v := 0) hx hb dX2_endOfTable_47 (by decide) ?_
          exact k_iret hx hb hr hlk hP hS hAe (by rw [u_Eot, if_pos hp, if_pos hB, kxe, kte, if_pos c_28, if_neg c_44]) (by rw [u_Eot, if_pos hp, if_pos hB, kxe, kte, if_pos c_28, if_neg c_44]) dX2_endOfTable_48
      · refine lv_bipush (v := -4) hx hb dX2_endOfTable_31 (by decide) ?_
        exact k_iret hx hb hr hlk hP hS hAe (by rw [u_Eot, if_pos hp, if_pos hB, kxe, kte, if_neg c_28]) (by rw [u_Eot, if_pos hp, if_pos hB, kxe, kte, if_neg c_28]) dX2_endOfTable_33
    · refine k_top (if_neg hB) ?_
      refine lv_if_ne (tgt := 22) hx hb dX2_endOfTable_16 (by decide) (fun c_ => absurd (by decide) c_) (fun _ => ?_)
      refine lv_bipush (v := -2) hx hb dX2_endOfTable_19 (by decide) ?_
      exact k_iret hx hb hr hlk hP hS hAe (by rw [u_Eot, if_pos hp, if_neg hB]) (by rw [u_Eot, if_pos hp, if_neg hB]) dX2_endOfTable_21
  · refine k_top (if_neg hp) ?_
    refine lv_if_ne (tgt := 10) hx hb dX2_endOfTable_5 (by decide) (fun c_ => absurd (by decide) c_) (fun _ => ?_)
    refine lv_iconst (v := -1) hx hb dX2_endOfTable_8 (by decide) ?_
    exact k_iret hx hb hr hlk hP hS hAe (by rw [u_Eot, if_neg hp]) (by rw [u_Eot, if_neg hp]) dX2_endOfTable_9

set_option maxRecDepth 100000 in
set_option maxHeartbeats 4000000 in
theorem c_X2_ages (l : Launch) (D : va_G) (cI cZ cP : ClassId) (md : Nat → Nat) (S : ST) (p9 : Nat) (hI : Inv S) (hp9 : p9 < g_N S) : MM l yX2_ages wsX2_ages ({ frames := 1, cells := 0, slots := 0, locals := 24 }) D (kTy cI cZ cP) [.ref (md 0), .int (nI p9)] (mW cI cZ md S) (some (.int (o_CD S p9).1)) (mW cI cZ md (o_CD S p9).2) := by
  refine MM.ofW (cc := cX2_ages) (maxL := 3) (ret := (some .int)) (by decide) rfl (Nat.le_of_ble_eq_true rfl) ?_
  intro p e s m below meth c ls A hx hb hr hlk hml hts hown hK hN hP hD hS hAe hl
  have hown : s.vm.findClass RX2 = some m.cls := hown
  have hi2 : ∀ w ∈ wsX20, w ∈ wsX2_ages := fun w h => List.mem_cons_of_mem _ (List.mem_append_right _ h)
  have hl : lv_has ls 3 [(0, .ref (md 0)), (1, .int (nI p9))] := hl
  have hn : g_N S ≤ 5 := hI.1
  refine lv_iconst (v := 0) hx hb dX2_ages_0 (by decide) ?_
  refine lv_istore_n (lv' := [(2, .int 0), (0, .ref (md 0)), (1, .int (nI p9))]) hx hb dX2_ages_1 rfl hl (by decide) rfl (fun ls hl => ?_)
  refine lv_aload_n hx hb dX2_ages_2 rfl (lv_at hl 1 rfl) ?_
  refine va_get (D := D) (ci := 2) (v := .ref (md 3)) (C := RX2) (T := TX2) (N := 16) hx hb hts hi2 hown hK hP 0 (mO _ _ _ _) rfl 6 (by decide) (hts (.fieldLink RX2 27 "GracefulRestartModel" "restartTimerOf" "[I") (List.mem_of_getElem? (i := 1) rfl)) (fun _ h9 => h9) (mV_6 _ _) dX2_ages_3 ?_
  refine lv_iload_n hx hb dX2_ages_6 rfl (lv_at hl 2 rfl) ?_
  refine k_iald (k := p9) hx hb hK hP 3 0 (mG_Rt _ _ _ _) rfl rfl (by omega) (by decide) dX2_ages_7 ?_
  refine lv_if_le (tgt := 46) hx hb dX2_ages_8 (by decide) (fun c_8 => ?_) (fun c_8 => ?_)
  · have hz8 := Int32.not_lt.mpr c_8
    rw [show mW cI cZ md S = mW cI cZ md (o_CDa S p9).2 by rw [CDa_0 hz8]] at hP hD
    have hl : lv_has ls 3 [(2, .int 0), (0, .ref (md 0)), (1, .int (nI p9))] := lv_sub hl [0, 1, 2] rfl
    rw [(show (0 : Int32) = (o_CDa S p9).1 by rw [CDa_0 hz8])] at hl
    refine lv_aload_n hx hb dX2_ages_46 rfl (lv_at hl 1 rfl) ?_
    refine va_get (D := D) (ci := 2) (v := .ref (md 4)) (C := RX2) (T := TX2) (N := 16) hx hb hts hi2 hown hK hP 0 (mO _ _ _ _) rfl 7 (by decide) (hts (.fieldLink RX2 30 "GracefulRestartModel" "staleTimerOf" "[I") (List.mem_of_getElem? (i := 3) rfl)) (fun _ h9 => h9) (mV_7 _ _) dX2_ages_47 ?_
    refine lv_iload_n hx hb dX2_ages_50 rfl (lv_at hl 2 rfl) ?_
    refine k_iald (k := p9) hx hb hK hP 4 0 (mG_Sl _ _ _ _) rfl rfl (by omega) (by decide) dX2_ages_51 ?_
    refine lv_if_le (tgt := 87) hx hb dX2_ages_52 (by decide) (fun c_52 => ?_) (fun c_52 => ?_)
    · refine lv_iload_n hx hb dX2_ages_87 rfl (lv_at hl 0 rfl) ?_
      exact k_iret hx hb hr hlk hP hS hAe (by rw [← CD_1, CDb_0 (Int32.not_lt.mpr c_52), Int32.add_zero]) (by rw [← CD_2, CDb_0 (Int32.not_lt.mpr c_52)]) dX2_ages_88
    · refine lv_aload_n hx hb dX2_ages_55 rfl (lv_at hl 1 rfl) ?_
      refine va_get (D := D) (ci := 2) (v := .ref (md 4)) (C := RX2) (T := TX2) (N := 16) hx hb hts hi2 hown hK hP 0 (mO _ _ _ _) rfl 7 (by decide) (hts (.fieldLink RX2 30 "GracefulRestartModel" "staleTimerOf" "[I") (List.mem_of_getElem? (i := 3) rfl)) (fun _ h9 => h9) (mV_7 _ _) dX2_ages_56 ?_
      refine lv_iload_n hx hb dX2_ages_59 rfl (lv_at hl 2 rfl) ?_
      refine lv_dup2_11 hx hb dX2_ages_60 rfl rfl ?_
      refine k_iald (k := p9) hx hb hK hP 4 0 (mG_Sl _ _ _ _) rfl rfl (by omega) (by decide) dX2_ages_61 ?_
      refine lv_iconst (v := 1) hx hb dX2_ages_62 (by decide) ?_
      refine lv_isub hx hb dX2_ages_63 ?_
      refine k_iast (k := p9) hx hb hK hP hD hS 4 0 (mG_Sl _ _ _ _) rfl rfl (by omega) (by decide) (W1 := (mW cI cZ md (s_Sl ((o_CDa S p9).2) (upd (g_Sl ((o_CDa S p9).2)) p9 (((g_Sl ((o_CDa S p9).2)) p9) - 1))))) (mS_Sl _ _ _ _ _) dX2_ages_64 (fun H locs hP hD hS => ?_)
      refine lv_iload_n hx hb dX2_ages_65 rfl (lv_at hl 0 rfl) ?_
      refine lv_aload_n hx hb dX2_ages_66 rfl (lv_at hl 1 rfl) ?_
      refine va_get (D := D) (ci := 2) (v := .ref (md 4)) (C := RX2) (T := TX2) (N := 16) hx hb hts hi2 hown hK hP 0 (mO _ _ _ _) rfl 7 (by decide) (hts (.fieldLink RX2 30 "GracefulRestartModel" "staleTimerOf" "[I") (List.mem_of_getElem? (i := 3) rfl)) (fun _ h9 => h9) (mV_7 _ _) dX2_ages_67 ?_
      refine lv_iload_n hx hb dX2_ages_70 rfl (lv_at hl 2 rfl) ?_
      refine k_iald (k := p9) hx hb hK hP 4 0 (mG_Sl _ _ _ _) rfl rfl (by omega) (by decide) dX2_ages_71 ?_
      refine k_top (y := (upd (g_Sl ((o_CDa S p9).2)) p9 (((g_Sl ((o_CDa S p9).2)) p9) - 1)) p9) (congrFun (gs_Sl_Sl _ _) p9) ?_
      refine k_top (y := g_Sl (o_CDa S p9).2 p9 - 1) (upd_s _ _ _) ?_
      refine lv_if_ne (tgt := 84) hx hb dX2_ages_72 (by decide) (fun c_72 => ?_) (fun c_72 => ?_)
      · refine lv_iconst (v := 0) hx hb dX2_ages_84 (by decide) ?_
        refine lv_iadd hx hb dX2_ages_85 ?_
        refine lv_istore_n (lv' := [(2, .int (((o_CDa S p9).1) + 0)), (0, .ref (md 0)), (1, .int (nI p9))]) hx hb dX2_ages_86 rfl hl (by decide) rfl (fun ls hl => ?_)
        refine lv_iload_n hx hb dX2_ages_87 rfl (lv_at hl 0 rfl) ?_
        exact k_iret hx hb hr hlk hP hS hAe (by rw [← CD_1, CDb_1 (Int32.not_le.mp c_52) c_72]) (by rw [← CD_2, CDb_1 (Int32.not_le.mp c_52) c_72]) dX2_ages_88
      · refine lv_aload_n hx hb dX2_ages_75 rfl (lv_at hl 1 rfl) ?_
        refine lv_iload_n hx hb dX2_ages_76 rfl (lv_at hl 2 rfl) ?_
        refine lv_iconst (v := 1) hx hb dX2_ages_77 (by decide) ?_
        refine kV (As := [.int (nI p9), .int 1]) (rest := [.int ((o_CDa S p9).1)]) (Wc := (mW cI cZ md (s_Sl ((o_CDa S p9).2) (upd (g_Sl ((o_CDa S p9).2)) p9 (((g_Sl ((o_CDa S p9).2)) p9) - 1))))) (Wc1 := (mW cI cZ md (o_RmS (s_Sl ((o_CDa S p9).2) (upd (g_Sl ((o_CDa S p9).2)) p9 (((g_Sl ((o_CDa S p9).2)) p9) - 1))) p9))) (Wd1 := (mW cI cZ md (o_RmS (s_Sl ((o_CDa S p9).2) (upd (g_Sl ((o_CDa S p9).2)) p9 (((g_Sl ((o_CDa S p9).2)) p9) - 1))) p9))) (o := some (.int (kCnt (nz (g_Ss (s_Sl ((o_CDa S p9).2) (upd (g_Sl ((o_CDa S p9).2)) p9 (((g_Sl ((o_CDa S p9).2)) p9) - 1))) p9)) 16))) ⟨hx, hb, hml, hown, hts⟩ (c_X2_forgets1 l D cI cZ cP md (s_Sl ((o_CDa S p9).2) (upd (g_Sl ((o_CDa S p9).2)) p9 (((g_Sl ((o_CDa S p9).2)) p9) - 1))) p9 (by omega) (by rw [show g_Le (s_Sl ((o_CDa S p9).2) (upd (g_Sl ((o_CDa S p9).2)) p9 (((g_Sl ((o_CDa S p9).2)) p9) - 1))) = g_Le ((o_CDa S p9).2) from (gs_Le_Sl _ _), show g_Ss (s_Sl ((o_CDa S p9).2) (upd (g_Sl ((o_CDa S p9).2)) p9 (((g_Sl ((o_CDa S p9).2)) p9) - 1))) = g_Ss ((o_CDa S p9).2) from (gs_Ss_Sl _ _)]; exact (inv_CDa hI hp9).2.1 p9)) (cwV 2 hts gX2_ages_X2_forgets rfl rfl rfl (by decide +kernel) ⟨Nat.le_of_ble_eq_true rfl, Nat.le_of_ble_eq_true rfl⟩) hK hN hP hD hS (fun j => j) (fun _ _ h => h) (fun _ _ _ _ h => h) (mAdr _ _ _ _ _) (fun k q h => Or.inl ⟨k, h⟩) 0 2 rfl rfl (mO _ _ _ _) rfl hl.1 rfl (Nat.le_of_ble_eq_true rfl) ⟨Nat.zero_le _, Nat.zero_le _⟩ dX2_ages_78 (fun H locs hP hD hS => ?_)
        refine lv_goto (tgt := 85) hx hb dX2_ages_81 (by decide) ?_
        refine lv_iadd hx hb dX2_ages_85 ?_
        refine lv_istore_n (lv' := [(2, .int (((o_CDa S p9).1) + (kCnt (nz (g_Ss (s_Sl ((o_CDa S p9).2) (upd (g_Sl ((o_CDa S p9).2)) p9 (((g_Sl ((o_CDa S p9).2)) p9) - 1))) p9)) 16))), (0, .ref (md 0)), (1, .int (nI p9))]) hx hb dX2_ages_86 rfl hl (by decide) rfl (fun ls hl => ?_)
        refine lv_iload_n hx hb dX2_ages_87 rfl (lv_at hl 0 rfl) ?_
        exact k_iret hx hb hr hlk hP hS hAe (by rw [← CD_1, CDb_2 (Int32.not_le.mp c_52) c_72, gs_Ss_Sl]) (by rw [← CD_2, CDb_2 (Int32.not_le.mp c_52) c_72]) dX2_ages_88
  · refine lv_aload_n hx hb dX2_ages_11 rfl (lv_at hl 1 rfl) ?_
    refine va_get (D := D) (ci := 2) (v := .ref (md 3)) (C := RX2) (T := TX2) (N := 16) hx hb hts hi2 hown hK hP 0 (mO _ _ _ _) rfl 6 (by decide) (hts (.fieldLink RX2 27 "GracefulRestartModel" "restartTimerOf" "[I") (List.mem_of_getElem? (i := 1) rfl)) (fun _ h9 => h9) (mV_6 _ _) dX2_ages_12 ?_
    refine lv_iload_n hx hb dX2_ages_15 rfl (lv_at hl 2 rfl) ?_
    refine lv_dup2_11 hx hb dX2_ages_16 rfl rfl ?_
    refine k_iald (k := p9) hx hb hK hP 3 0 (mG_Rt _ _ _ _) rfl rfl (by omega) (by decide) dX2_ages_17 ?_
    refine lv_iconst (v := 1) hx hb dX2_ages_18 (by decide) ?_
    refine lv_isub hx hb dX2_ages_19 ?_
    refine k_iast (k := p9) hx hb hK hP hD hS 3 0 (mG_Rt _ _ _ _) rfl rfl (by omega) (by decide) (W1 := (mW cI cZ md (s_Rt S (upd (g_Rt S) p9 (((g_Rt S) p9) - 1))))) (mS_Rt _ _ _ _ _) dX2_ages_20 (fun H locs hP hD hS => ?_)
    refine lv_aload_n hx hb dX2_ages_21 rfl (lv_at hl 1 rfl) ?_
    refine va_get (D := D) (ci := 2) (v := .ref (md 3)) (C := RX2) (T := TX2) (N := 16) hx hb hts hi2 hown hK hP 0 (mO _ _ _ _) rfl 6 (by decide) (hts (.fieldLink RX2 27 "GracefulRestartModel" "restartTimerOf" "[I") (List.mem_of_getElem? (i := 1) rfl)) (fun _ h9 => h9) (mV_6 _ _) dX2_ages_22 ?_
    refine lv_iload_n hx hb dX2_ages_25 rfl (lv_at hl 2 rfl) ?_
    refine k_iald (k := p9) hx hb hK hP 3 0 (mG_Rt _ _ _ _) rfl rfl (by omega) (by decide) dX2_ages_26 ?_
    refine k_top (y := (upd (g_Rt S) p9 (((g_Rt S) p9) - 1)) p9) (congrFun (gs_Rt_Rt _ _) p9) ?_
    refine k_top (y := g_Rt S p9 - 1) (upd_s _ _ _) ?_
    refine lv_if_ne (tgt := 46) hx hb dX2_ages_27 (by decide) (fun c_27 => ?_) (fun c_27 => ?_)
    · have hz8 := Int32.not_le.mp c_8
      rw [show mW cI cZ md (s_Rt S (upd (g_Rt S) p9 (g_Rt S p9 - 1))) = mW cI cZ md (o_CDa S p9).2 by rw [CDa_1 hz8 c_27]] at hP hD
      have hl : lv_has ls 3 [(2, .int 0), (0, .ref (md 0)), (1, .int (nI p9))] := lv_sub hl [0, 1, 2] rfl
      rw [(show (0 : Int32) = (o_CDa S p9).1 by rw [CDa_1 hz8 c_27])] at hl
      refine lv_aload_n hx hb dX2_ages_46 rfl (lv_at hl 1 rfl) ?_
      refine va_get (D := D) (ci := 2) (v := .ref (md 4)) (C := RX2) (T := TX2) (N := 16) hx hb hts hi2 hown hK hP 0 (mO _ _ _ _) rfl 7 (by decide) (hts (.fieldLink RX2 30 "GracefulRestartModel" "staleTimerOf" "[I") (List.mem_of_getElem? (i := 3) rfl)) (fun _ h9 => h9) (mV_7 _ _) dX2_ages_47 ?_
      refine lv_iload_n hx hb dX2_ages_50 rfl (lv_at hl 2 rfl) ?_
      refine k_iald (k := p9) hx hb hK hP 4 0 (mG_Sl _ _ _ _) rfl rfl (by omega) (by decide) dX2_ages_51 ?_
      refine lv_if_le (tgt := 87) hx hb dX2_ages_52 (by decide) (fun c_52 => ?_) (fun c_52 => ?_)
      · refine lv_iload_n hx hb dX2_ages_87 rfl (lv_at hl 0 rfl) ?_
        exact k_iret hx hb hr hlk hP hS hAe (by rw [← CD_1, CDb_0 (Int32.not_lt.mpr c_52), Int32.add_zero]) (by rw [← CD_2, CDb_0 (Int32.not_lt.mpr c_52)]) dX2_ages_88
      · refine lv_aload_n hx hb dX2_ages_55 rfl (lv_at hl 1 rfl) ?_
        refine va_get (D := D) (ci := 2) (v := .ref (md 4)) (C := RX2) (T := TX2) (N := 16) hx hb hts hi2 hown hK hP 0 (mO _ _ _ _) rfl 7 (by decide) (hts (.fieldLink RX2 30 "GracefulRestartModel" "staleTimerOf" "[I") (List.mem_of_getElem? (i := 3) rfl)) (fun _ h9 => h9) (mV_7 _ _) dX2_ages_56 ?_
        refine lv_iload_n hx hb dX2_ages_59 rfl (lv_at hl 2 rfl) ?_
        refine lv_dup2_11 hx hb dX2_ages_60 rfl rfl ?_
        refine k_iald (k := p9) hx hb hK hP 4 0 (mG_Sl _ _ _ _) rfl rfl (by omega) (by decide) dX2_ages_61 ?_
        refine lv_iconst (v := 1) hx hb dX2_ages_62 (by decide) ?_
        refine lv_isub hx hb dX2_ages_63 ?_
        refine k_iast (k := p9) hx hb hK hP hD hS 4 0 (mG_Sl _ _ _ _) rfl rfl (by omega) (by decide) (W1 := (mW cI cZ md (s_Sl ((o_CDa S p9).2) (upd (g_Sl ((o_CDa S p9).2)) p9 (((g_Sl ((o_CDa S p9).2)) p9) - 1))))) (mS_Sl _ _ _ _ _) dX2_ages_64 (fun H locs hP hD hS => ?_)
        refine lv_iload_n hx hb dX2_ages_65 rfl (lv_at hl 0 rfl) ?_
        refine lv_aload_n hx hb dX2_ages_66 rfl (lv_at hl 1 rfl) ?_
        refine va_get (D := D) (ci := 2) (v := .ref (md 4)) (C := RX2) (T := TX2) (N := 16) hx hb hts hi2 hown hK hP 0 (mO _ _ _ _) rfl 7 (by decide) (hts (.fieldLink RX2 30 "GracefulRestartModel" "staleTimerOf" "[I") (List.mem_of_getElem? (i := 3) rfl)) (fun _ h9 => h9) (mV_7 _ _) dX2_ages_67 ?_
        refine lv_iload_n hx hb dX2_ages_70 rfl (lv_at hl 2 rfl) ?_
        refine k_iald (k := p9) hx hb hK hP 4 0 (mG_Sl _ _ _ _) rfl rfl (by omega) (by decide) dX2_ages_71 ?_
        refine k_top (y := (upd (g_Sl ((o_CDa S p9).2)) p9 (((g_Sl ((o_CDa S p9).2)) p9) - 1)) p9) (congrFun (gs_Sl_Sl _ _) p9) ?_
        refine k_top (y := g_Sl (o_CDa S p9).2 p9 - 1) (upd_s _ _ _) ?_
        refine lv_if_ne (tgt := 84) hx hb dX2_ages_72 (by decide) (fun c_72 => ?_) (fun c_72 => ?_)
        · refine lv_iconst (v := 0) hx hb dX2_ages_84 (by decide) ?_
          refine lv_iadd hx hb dX2_ages_85 ?_
          refine lv_istore_n (lv' := [(2, .int (((o_CDa S p9).1) + 0)), (0, .ref (md 0)), (1, .int (nI p9))]) hx hb dX2_ages_86 rfl hl (by decide) rfl (fun ls hl => ?_)
          refine lv_iload_n hx hb dX2_ages_87 rfl (lv_at hl 0 rfl) ?_
          exact k_iret hx hb hr hlk hP hS hAe (by rw [← CD_1, CDb_1 (Int32.not_le.mp c_52) c_72]) (by rw [← CD_2, CDb_1 (Int32.not_le.mp c_52) c_72]) dX2_ages_88
        · refine lv_aload_n hx hb dX2_ages_75 rfl (lv_at hl 1 rfl) ?_
          refine lv_iload_n hx hb dX2_ages_76 rfl (lv_at hl 2 rfl) ?_
          refine lv_iconst (v := 1) hx hb dX2_ages_77 (by decide) ?_
          refine kV (As := [.int (nI p9), .int 1]) (rest := [.int ((o_CDa S p9).1)]) (Wc := (mW cI cZ md (s_Sl ((o_CDa S p9).2) (upd (g_Sl ((o_CDa S p9).2)) p9 (((g_Sl ((o_CDa S p9).2)) p9) - 1))))) (Wc1 := (mW cI cZ md (o_RmS (s_Sl ((o_CDa S p9).2) (upd (g_Sl ((o_CDa S p9).2)) p9 (((g_Sl ((o_CDa S p9).2)) p9) - 1))) p9))) (Wd1 := (mW cI cZ md (o_RmS (s_Sl ((o_CDa S p9).2) (upd (g_Sl ((o_CDa S p9).2)) p9 (((g_Sl ((o_CDa S p9).2)) p9) - 1))) p9))) (o := some (.int (kCnt (nz (g_Ss (s_Sl ((o_CDa S p9).2) (upd (g_Sl ((o_CDa S p9).2)) p9 (((g_Sl ((o_CDa S p9).2)) p9) - 1))) p9)) 16))) ⟨hx, hb, hml, hown, hts⟩ (c_X2_forgets1 l D cI cZ cP md (s_Sl ((o_CDa S p9).2) (upd (g_Sl ((o_CDa S p9).2)) p9 (((g_Sl ((o_CDa S p9).2)) p9) - 1))) p9 (by omega) (by rw [show g_Le (s_Sl ((o_CDa S p9).2) (upd (g_Sl ((o_CDa S p9).2)) p9 (((g_Sl ((o_CDa S p9).2)) p9) - 1))) = g_Le ((o_CDa S p9).2) from (gs_Le_Sl _ _), show g_Ss (s_Sl ((o_CDa S p9).2) (upd (g_Sl ((o_CDa S p9).2)) p9 (((g_Sl ((o_CDa S p9).2)) p9) - 1))) = g_Ss ((o_CDa S p9).2) from (gs_Ss_Sl _ _)]; exact (inv_CDa hI hp9).2.1 p9)) (cwV 2 hts gX2_ages_X2_forgets rfl rfl rfl (by decide +kernel) ⟨Nat.le_of_ble_eq_true rfl, Nat.le_of_ble_eq_true rfl⟩) hK hN hP hD hS (fun j => j) (fun _ _ h => h) (fun _ _ _ _ h => h) (mAdr _ _ _ _ _) (fun k q h => Or.inl ⟨k, h⟩) 0 2 rfl rfl (mO _ _ _ _) rfl hl.1 rfl (Nat.le_of_ble_eq_true rfl) ⟨Nat.zero_le _, Nat.zero_le _⟩ dX2_ages_78 (fun H locs hP hD hS => ?_)
          refine lv_goto (tgt := 85) hx hb dX2_ages_81 (by decide) ?_
          refine lv_iadd hx hb dX2_ages_85 ?_
          refine lv_istore_n (lv' := [(2, .int (((o_CDa S p9).1) + (kCnt (nz (g_Ss (s_Sl ((o_CDa S p9).2) (upd (g_Sl ((o_CDa S p9).2)) p9 (((g_Sl ((o_CDa S p9).2)) p9) - 1))) p9)) 16))), (0, .ref (md 0)), (1, .int (nI p9))]) hx hb dX2_ages_86 rfl hl (by decide) rfl (fun ls hl => ?_)
          refine lv_iload_n hx hb dX2_ages_87 rfl (lv_at hl 0 rfl) ?_
          exact k_iret hx hb hr hlk hP hS hAe (by rw [← CD_1, CDb_2 (Int32.not_le.mp c_52) c_72, gs_Ss_Sl]) (by rw [← CD_2, CDb_2 (Int32.not_le.mp c_52) c_72]) dX2_ages_88
    · refine lv_aload_n hx hb dX2_ages_30 rfl (lv_at hl 1 rfl) ?_
      refine va_get (D := D) (ci := 2) (v := .ref (md 2)) (C := RX2) (T := TX2) (N := 16) hx hb hts hi2 hown hK hP 0 (mO _ _ _ _) rfl 5 (by decide) (hts (.fieldLink RX2 23 "GracefulRestartModel" "stateOf" "[I") (List.mem_of_getElem? (i := 2) rfl)) (fun _ h9 => h9) (mV_5 _ _) dX2_ages_31 ?_
      refine lv_iload_n hx hb dX2_ages_34 rfl (lv_at hl 2 rfl) ?_
      refine lv_iconst (v := 2) hx hb dX2_ages_35 (by decide) ?_
      refine k_iast (k := p9) hx hb hK hP hD hS 2 0 (mG_St _ _ _ _) rfl rfl (by omega) (by decide) (W1 := (mW cI cZ md (s_St (s_Rt S (upd (g_Rt S) p9 (((g_Rt S) p9) - 1))) (upd (g_St S) p9 2)))) (by rw [show g_St (s_Rt S (upd (g_Rt S) p9 (((g_Rt S) p9) - 1))) = g_St S from (gs_St_Rt _ _)]; exact mS_St _ _ _ _ _) dX2_ages_36 (fun H locs hP hD hS => ?_)
      refine lv_iload_n hx hb dX2_ages_37 rfl (lv_at hl 0 rfl) ?_
      refine lv_aload_n hx hb dX2_ages_38 rfl (lv_at hl 1 rfl) ?_
      refine lv_iload_n hx hb dX2_ages_39 rfl (lv_at hl 2 rfl) ?_
      refine lv_iconst (v := 0) hx hb dX2_ages_40 (by decide) ?_
      refine kV (As := [.int (nI p9), .int 0]) (rest := [.int 0]) (Wc := (mW cI cZ md (s_St (s_Rt S (upd (g_Rt S) p9 (((g_Rt S) p9) - 1))) (upd (g_St S) p9 2)))) (Wc1 := (mW cI cZ md (o_RmL (s_St (s_Rt S (upd (g_Rt S) p9 (((g_Rt S) p9) - 1))) (upd (g_St S) p9 2)) p9))) (Wd1 := (mW cI cZ md (o_RmL (s_St (s_Rt S (upd (g_Rt S) p9 (((g_Rt S) p9) - 1))) (upd (g_St S) p9 2)) p9))) (o := some (.int (kCnt (nz (g_Le (s_St (s_Rt S (upd (g_Rt S) p9 (((g_Rt S) p9) - 1))) (upd (g_St S) p9 2)) p9)) 16))) ⟨hx, hb, hml, hown, hts⟩ (c_X2_forgets0 l D cI cZ cP md (s_St (s_Rt S (upd (g_Rt S) p9 (((g_Rt S) p9) - 1))) (upd (g_St S) p9 2)) p9 (by omega) (by rw [show g_Le (s_St (s_Rt S (upd (g_Rt S) p9 (((g_Rt S) p9) - 1))) (upd (g_St S) p9 2)) = g_Le S from ((gs_Le_St _ _).trans (gs_Le_Rt _ _)), show g_Ss (s_St (s_Rt S (upd (g_Rt S) p9 (((g_Rt S) p9) - 1))) (upd (g_St S) p9 2)) = g_Ss S from ((gs_Ss_St _ _).trans (gs_Ss_Rt _ _))]; exact hI.2.1 p9)) (cwV 2 hts gX2_ages_X2_forgets rfl rfl rfl (by decide +kernel) ⟨Nat.le_of_ble_eq_true rfl, Nat.le_of_ble_eq_true rfl⟩) hK hN hP hD hS (fun j => j) (fun _ _ h => h) (fun _ _ _ _ h => h) (mAdr _ _ _ _ _) (fun k q h => Or.inl ⟨k, h⟩) 0 2 rfl rfl (mO _ _ _ _) rfl hl.1 rfl (Nat.le_of_ble_eq_true rfl) ⟨Nat.zero_le _, Nat.zero_le _⟩ dX2_ages_41 (fun H locs hP hD hS => ?_)
      refine lv_iadd hx hb dX2_ages_44 ?_
      refine lv_istore_n (lv' := [(2, .int (0 + (kCnt (nz (g_Le (s_St (s_Rt S (upd (g_Rt S) p9 (((g_Rt S) p9) - 1))) (upd (g_St S) p9 2)) p9)) 16))), (0, .ref (md 0)), (1, .int (nI p9))]) hx hb dX2_ages_45 rfl hl (by decide) rfl (fun ls hl => ?_)
      have hz8 := Int32.not_le.mp c_8
      rw [age_down c_27 (hI.2.2.2.2.1 p9 (i32_pos hz8)), show mW cI cZ md (o_Down S p9) = mW cI cZ md (o_CDa S p9).2 by rw [CDa_2 hz8 c_27]] at hP hD
      have hl : lv_has ls 3 [(2, .int (0 + (kCnt (nz (g_Le (s_St (s_Rt S (upd (g_Rt S) p9 (((g_Rt S) p9) - 1))) (upd (g_St S) p9 2)) p9)) 16))), (0, .ref (md 0)), (1, .int (nI p9))] := lv_sub hl [0, 1, 2] rfl
      rw [(show 0 + kCnt (nz (g_Le (s_St (s_Rt S (upd (g_Rt S) p9 (g_Rt S p9 - 1))) (upd (g_St S) p9 2)) p9)) 16 = (o_CDa S p9).1 by rw [CDa_2 hz8 c_27, gs_Le_St, gs_Le_Rt, Int32.zero_add])] at hl
      refine lv_aload_n hx hb dX2_ages_46 rfl (lv_at hl 1 rfl) ?_
      refine va_get (D := D) (ci := 2) (v := .ref (md 4)) (C := RX2) (T := TX2) (N := 16) hx hb hts hi2 hown hK hP 0 (mO _ _ _ _) rfl 7 (by decide) (hts (.fieldLink RX2 30 "GracefulRestartModel" "staleTimerOf" "[I") (List.mem_of_getElem? (i := 3) rfl)) (fun _ h9 => h9) (mV_7 _ _) dX2_ages_47 ?_
      refine lv_iload_n hx hb dX2_ages_50 rfl (lv_at hl 2 rfl) ?_
      refine k_iald (k := p9) hx hb hK hP 4 0 (mG_Sl _ _ _ _) rfl rfl (by omega) (by decide) dX2_ages_51 ?_
      refine lv_if_le (tgt := 87) hx hb dX2_ages_52 (by decide) (fun c_52 => ?_) (fun c_52 => ?_)
      · refine lv_iload_n hx hb dX2_ages_87 rfl (lv_at hl 0 rfl) ?_
        exact k_iret hx hb hr hlk hP hS hAe (by rw [← CD_1, CDb_0 (Int32.not_lt.mpr c_52), Int32.add_zero]) (by rw [← CD_2, CDb_0 (Int32.not_lt.mpr c_52)]) dX2_ages_88
      · refine lv_aload_n hx hb dX2_ages_55 rfl (lv_at hl 1 rfl) ?_
        refine va_get (D := D) (ci := 2) (v := .ref (md 4)) (C := RX2) (T := TX2) (N := 16) hx hb hts hi2 hown hK hP 0 (mO _ _ _ _) rfl 7 (by decide) (hts (.fieldLink RX2 30 "GracefulRestartModel" "staleTimerOf" "[I") (List.mem_of_getElem? (i := 3) rfl)) (fun _ h9 => h9) (mV_7 _ _) dX2_ages_56 ?_
        refine lv_iload_n hx hb dX2_ages_59 rfl (lv_at hl 2 rfl) ?_
        refine lv_dup2_11 hx hb dX2_ages_60 rfl rfl ?_
        refine k_iald (k := p9) hx hb hK hP 4 0 (mG_Sl _ _ _ _) rfl rfl (by omega) (by decide) dX2_ages_61 ?_
        refine lv_iconst (v := 1) hx hb dX2_ages_62 (by decide) ?_
        refine lv_isub hx hb dX2_ages_63 ?_
        refine k_iast (k := p9) hx hb hK hP hD hS 4 0 (mG_Sl _ _ _ _) rfl rfl (by omega) (by decide) (W1 := (mW cI cZ md (s_Sl ((o_CDa S p9).2) (upd (g_Sl ((o_CDa S p9).2)) p9 (((g_Sl ((o_CDa S p9).2)) p9) - 1))))) (mS_Sl _ _ _ _ _) dX2_ages_64 (fun H locs hP hD hS => ?_)
        refine lv_iload_n hx hb dX2_ages_65 rfl (lv_at hl 0 rfl) ?_
        refine lv_aload_n hx hb dX2_ages_66 rfl (lv_at hl 1 rfl) ?_
        refine va_get (D := D) (ci := 2) (v := .ref (md 4)) (C := RX2) (T := TX2) (N := 16) hx hb hts hi2 hown hK hP 0 (mO _ _ _ _) rfl 7 (by decide) (hts (.fieldLink RX2 30 "GracefulRestartModel" "staleTimerOf" "[I") (List.mem_of_getElem? (i := 3) rfl)) (fun _ h9 => h9) (mV_7 _ _) dX2_ages_67 ?_
        refine lv_iload_n hx hb dX2_ages_70 rfl (lv_at hl 2 rfl) ?_
        refine k_iald (k := p9) hx hb hK hP 4 0 (mG_Sl _ _ _ _) rfl rfl (by omega) (by decide) dX2_ages_71 ?_
        refine k_top (y := (upd (g_Sl ((o_CDa S p9).2)) p9 (((g_Sl ((o_CDa S p9).2)) p9) - 1)) p9) (congrFun (gs_Sl_Sl _ _) p9) ?_
        refine k_top (y := g_Sl (o_CDa S p9).2 p9 - 1) (upd_s _ _ _) ?_
        refine lv_if_ne (tgt := 84) hx hb dX2_ages_72 (by decide) (fun c_72 => ?_) (fun c_72 => ?_)
        · refine lv_iconst (v := 0) hx hb dX2_ages_84 (by decide) ?_
          refine lv_iadd hx hb dX2_ages_85 ?_
          refine lv_istore_n (lv' := [(2, .int (((o_CDa S p9).1) + 0)), (0, .ref (md 0)), (1, .int (nI p9))]) hx hb dX2_ages_86 rfl hl (by decide) rfl (fun ls hl => ?_)
          refine lv_iload_n hx hb dX2_ages_87 rfl (lv_at hl 0 rfl) ?_
          exact k_iret hx hb hr hlk hP hS hAe (by rw [← CD_1, CDb_1 (Int32.not_le.mp c_52) c_72]) (by rw [← CD_2, CDb_1 (Int32.not_le.mp c_52) c_72]) dX2_ages_88
        · refine lv_aload_n hx hb dX2_ages_75 rfl (lv_at hl 1 rfl) ?_
          refine lv_iload_n hx hb dX2_ages_76 rfl (lv_at hl 2 rfl) ?_
          refine lv_iconst (v := 1) hx hb dX2_ages_77 (by decide) ?_
          refine kV (As := [.int (nI p9), .int 1]) (rest := [.int ((o_CDa S p9).1)]) (Wc := (mW cI cZ md (s_Sl ((o_CDa S p9).2) (upd (g_Sl ((o_CDa S p9).2)) p9 (((g_Sl ((o_CDa S p9).2)) p9) - 1))))) (Wc1 := (mW cI cZ md (o_RmS (s_Sl ((o_CDa S p9).2) (upd (g_Sl ((o_CDa S p9).2)) p9 (((g_Sl ((o_CDa S p9).2)) p9) - 1))) p9))) (Wd1 := (mW cI cZ md (o_RmS (s_Sl ((o_CDa S p9).2) (upd (g_Sl ((o_CDa S p9).2)) p9 (((g_Sl ((o_CDa S p9).2)) p9) - 1))) p9))) (o := some (.int (kCnt (nz (g_Ss (s_Sl ((o_CDa S p9).2) (upd (g_Sl ((o_CDa S p9).2)) p9 (((g_Sl ((o_CDa S p9).2)) p9) - 1))) p9)) 16))) ⟨hx, hb, hml, hown, hts⟩ (c_X2_forgets1 l D cI cZ cP md (s_Sl ((o_CDa S p9).2) (upd (g_Sl ((o_CDa S p9).2)) p9 (((g_Sl ((o_CDa S p9).2)) p9) - 1))) p9 (by omega) (by rw [show g_Le (s_Sl ((o_CDa S p9).2) (upd (g_Sl ((o_CDa S p9).2)) p9 (((g_Sl ((o_CDa S p9).2)) p9) - 1))) = g_Le ((o_CDa S p9).2) from (gs_Le_Sl _ _), show g_Ss (s_Sl ((o_CDa S p9).2) (upd (g_Sl ((o_CDa S p9).2)) p9 (((g_Sl ((o_CDa S p9).2)) p9) - 1))) = g_Ss ((o_CDa S p9).2) from (gs_Ss_Sl _ _)]; exact (inv_CDa hI hp9).2.1 p9)) (cwV 2 hts gX2_ages_X2_forgets rfl rfl rfl (by decide +kernel) ⟨Nat.le_of_ble_eq_true rfl, Nat.le_of_ble_eq_true rfl⟩) hK hN hP hD hS (fun j => j) (fun _ _ h => h) (fun _ _ _ _ h => h) (mAdr _ _ _ _ _) (fun k q h => Or.inl ⟨k, h⟩) 0 2 rfl rfl (mO _ _ _ _) rfl hl.1 rfl (Nat.le_of_ble_eq_true rfl) ⟨Nat.zero_le _, Nat.zero_le _⟩ dX2_ages_78 (fun H locs hP hD hS => ?_)
          refine lv_goto (tgt := 85) hx hb dX2_ages_81 (by decide) ?_
          refine lv_iadd hx hb dX2_ages_85 ?_
          refine lv_istore_n (lv' := [(2, .int (((o_CDa S p9).1) + (kCnt (nz (g_Ss (s_Sl ((o_CDa S p9).2) (upd (g_Sl ((o_CDa S p9).2)) p9 (((g_Sl ((o_CDa S p9).2)) p9) - 1))) p9)) 16))), (0, .ref (md 0)), (1, .int (nI p9))]) hx hb dX2_ages_86 rfl hl (by decide) rfl (fun ls hl => ?_)
          refine lv_iload_n hx hb dX2_ages_87 rfl (lv_at hl 0 rfl) ?_
          exact k_iret hx hb hr hlk hP hS hAe (by rw [← CD_1, CDb_2 (Int32.not_le.mp c_52) c_72, gs_Ss_Sl]) (by rw [← CD_2, CDb_2 (Int32.not_le.mp c_52) c_72]) dX2_ages_88

set_option maxRecDepth 100000 in
set_option maxHeartbeats 4000000 in
theorem c_X2_addPeer (l : Launch) (D : va_G) (cI cZ cP : ClassId) (md : Nat → Nat) (S : ST) (g : Int32) (hn : g_N S ≤ 5) (hg : g = 0 ∨ g = 1) : MM l yX2_addPeer wsX2_addPeer ({ frames := 3, cells := 0, slots := 0, locals := 68 }) D (kTy cI cZ cP) [.ref (md 0), .int g] (mW cI cZ md S) (some (.int (u_Add S g).1)) (mW cI cZ md (u_Add S g).2) := by
  refine MM.ofW (cc := cX2_addPeer) (maxL := 2) (ret := (some .int)) (by decide) rfl (Nat.le_of_ble_eq_true rfl) ?_
  intro p e s m below meth c ls A hx hb hr hlk hml hts hown hK hN hP hD hS hAe hl
  have hown : s.vm.findClass RX2 = some m.cls := hown
  have hi2 : ∀ w ∈ wsX20, w ∈ wsX2_addPeer := fun w h => List.mem_cons_of_mem _ (List.mem_append_right _ h)
  have hl : lv_has ls 2 [(0, .ref (md 0)), (1, .int g)] := hl
  refine lv_aload_n hx hb dX2_addPeer_0 rfl (lv_at hl 0 rfl) ?_
  refine va_get (D := D) (ci := 2) (v := .int (nI (g_N S))) (C := RX2) (T := TX2) (N := 16) hx hb hts hi2 hown hK hP 0 (mO _ _ _ _) rfl 3 (by decide) (hts (.fieldLink RX2 55 "GracefulRestartModel" "peers" "I") (List.mem_of_getElem? (i := 1) rfl)) (fun _ h9 => h9) (mV_N _ _) dX2_addPeer_1 ?_
  refine lv_iconst (v := 5) hx hb dX2_addPeer_4 (by decide) ?_
  refine lv_icmp_ne (tgt := 11) hx hb dX2_addPeer_5 (by decide) (fun c_5 => ?_) (fun c_5 => ?_)
  · have h5 : ¬ g_N S = 5 := fun z => c_5 ((N5 hn).mpr z)
    refine lv_aload_n hx hb dX2_addPeer_11 rfl (lv_at hl 0 rfl) ?_
    refine va_get (D := D) (ci := 2) (v := .ref (md 1)) (C := RX2) (T := TX2) (N := 16) hx hb hts hi2 hown hK hP 0 (mO _ _ _ _) rfl 4 (by decide) (hts (.fieldLink RX2 19 "GracefulRestartModel" "isGraceful" "[Z") (List.mem_of_getElem? (i := 2) rfl)) (fun _ h9 => h9) (mV_4 _ _) dX2_addPeer_12 ?_
    refine lv_aload_n hx hb dX2_addPeer_15 rfl (lv_at hl 0 rfl) ?_
    refine va_get (D := D) (ci := 2) (v := .int (nI (g_N S))) (C := RX2) (T := TX2) (N := 16) hx hb hts hi2 hown hK hP 0 (mO _ _ _ _) rfl 3 (by decide) (hts (.fieldLink RX2 55 "GracefulRestartModel" "peers" "I") (List.mem_of_getElem? (i := 1) rfl)) (fun _ h9 => h9) (mV_N _ _) dX2_addPeer_16 ?_
    refine lv_iload_n hx hb dX2_addPeer_19 rfl (lv_at hl 1 rfl) ?_
    refine k_zast (k := g_N S) hx hb hK hP hD hS 1 1 (mG_Gr _ _ _ _) rfl rfl (by omega) (by decide) (nar_b hg) (W1 := (mW cI cZ md (s_Gr S (upd (g_Gr S) (g_N S) g)))) (mS_Gr _ _ _ _ _) dX2_addPeer_20 (fun H locs hP hD hS => ?_)
    refine lv_aload_n hx hb dX2_addPeer_21 rfl (lv_at hl 0 rfl) ?_
    refine va_get (D := D) (ci := 2) (v := .ref (md 2)) (C := RX2) (T := TX2) (N := 16) hx hb hts hi2 hown hK hP 0 (mO _ _ _ _) rfl 5 (by decide) (hts (.fieldLink RX2 23 "GracefulRestartModel" "stateOf" "[I") (List.mem_of_getElem? (i := 3) rfl)) (fun _ h9 => h9) (mV_5 _ _) dX2_addPeer_22 ?_
    refine lv_aload_n hx hb dX2_addPeer_25 rfl (lv_at hl 0 rfl) ?_
    refine va_get (D := D) (ci := 2) (v := .int (nI (g_N (s_Gr S (upd (g_Gr S) (g_N S) g))))) (C := RX2) (T := TX2) (N := 16) hx hb hts hi2 hown hK hP 0 (mO _ _ _ _) rfl 3 (by decide) (hts (.fieldLink RX2 55 "GracefulRestartModel" "peers" "I") (List.mem_of_getElem? (i := 1) rfl)) (fun _ h9 => h9) (mV_N _ _) dX2_addPeer_26 ?_
    refine k_top (y := nI (g_N S)) (congrArg nI (gs_N_Gr _ _)) ?_
    refine lv_iconst (v := 0) hx hb dX2_addPeer_29 (by decide) ?_
    refine k_iast (k := g_N S) hx hb hK hP hD hS 2 0 (mG_St _ _ _ _) rfl rfl (by omega) (by decide) (W1 := (mW cI cZ md (s_St (s_Gr S (upd (g_Gr S) (g_N S) g)) (upd (g_St S) (g_N S) 0)))) (by rw [show g_St (s_Gr S (upd (g_Gr S) (g_N S) g)) = g_St S from (gs_St_Gr _ _)]; exact mS_St _ _ _ _ _) dX2_addPeer_30 (fun H locs hP hD hS => ?_)
    refine lv_aload_n hx hb dX2_addPeer_31 rfl (lv_at hl 0 rfl) ?_
    refine lv_dup hx hb dX2_addPeer_32 rfl ?_
    refine va_get (D := D) (ci := 2) (v := .int (nI (g_N (s_St (s_Gr S (upd (g_Gr S) (g_N S) g)) (upd (g_St S) (g_N S) 0))))) (C := RX2) (T := TX2) (N := 16) hx hb hts hi2 hown hK hP 0 (mO _ _ _ _) rfl 3 (by decide) (hts (.fieldLink RX2 55 "GracefulRestartModel" "peers" "I") (List.mem_of_getElem? (i := 1) rfl)) (fun _ h9 => h9) (mV_N _ _) dX2_addPeer_33 ?_
    refine k_top (y := nI (g_N S)) (congrArg nI ((gs_N_St _ _).trans (gs_N_Gr _ _))) ?_
    refine lv_iconst (v := 1) hx hb dX2_addPeer_36 (by decide) ?_
    refine lv_iadd hx hb dX2_addPeer_37 ?_
    refine k_top (nI_1 (g_N S)) ?_
    refine k_put (D := D) (ci := 2) (v := .int (nI (g_N S + 1))) (ty := .int) (C := RX2) (T := TX2) (N := 16) hx hb hts hi2 tyX2 tyX2_ok nmX2 hown hK hP hD hS 0 (mO _ _ _ _) rfl 3 (by decide) (hts (.fieldLink RX2 55 "GracefulRestartModel" "peers" "I") (List.mem_of_getElem? (i := 1) rfl)) (fun _ h9 => h9) rfl (by decide +kernel) rfl rfl (Nat.le_of_ble_eq_true rfl) (W1 := (mW cI cZ md (s_N (s_St (s_Gr S (upd (g_Gr S) (g_N S) g)) (upd (g_St S) (g_N S) 0)) (g_N S + 1)))) (mP_N _ _ _ _ _) dX2_addPeer_38 (fun H locs hP hD hS => ?_)
    rw [New_e] at hP hD
    refine lv_aload_n hx hb dX2_addPeer_41 rfl (lv_at hl 0 rfl) ?_
    refine va_get (D := D) (ci := 2) (v := .int (g_Df (u_New S g))) (C := RX2) (T := TX2) (N := 16) hx hb hts hi2 hown hK hP 0 (mO _ _ _ _) rfl 14 (by decide) (hts (.fieldLink RX2 70 "GracefulRestartModel" "isDeferringNow" "Z") (List.mem_of_getElem? (i := 4) rfl)) (fun _ h9 => h9) (mV_Df _ _) dX2_addPeer_42 ?_
    refine k_top (y := g_Df S) rfl ?_
    refine lv_if_ne (tgt := 52) hx hb dX2_addPeer_45 (by decide) (fun c_45 => ?_) (fun c_45 => ?_)
    · refine lv_aload_n hx hb dX2_addPeer_52 rfl (lv_at hl 0 rfl) ?_
      refine va_get (D := D) (ci := 2) (v := .int (nI (g_N (u_New S g)))) (C := RX2) (T := TX2) (N := 16) hx hb hts hi2 hown hK hP 0 (mO _ _ _ _) rfl 3 (by decide) (hts (.fieldLink RX2 55 "GracefulRestartModel" "peers" "I") (List.mem_of_getElem? (i := 1) rfl)) (fun _ h9 => h9) (mV_N _ _) dX2_addPeer_53 ?_
      refine k_top (y := nI (g_N S + 1)) (congrArg nI rfl) ?_
      refine lv_iconst (v := 1) hx hb dX2_addPeer_56 (by decide) ?_
      refine lv_isub hx hb dX2_addPeer_57 ?_
      refine k_top (nI_pred (g_N S)) ?_
      exact k_iret hx hb hr hlk hP hS hAe (by rw [u_Add, if_neg h5, if_neg c_45]) (by rw [u_Add, if_neg h5, if_neg c_45]) dX2_addPeer_58
    · refine lv_aload_n hx hb dX2_addPeer_48 rfl (lv_at hl 0 rfl) ?_
      refine kV (As := []) (rest := []) (Wc := (mW cI cZ md (u_New S g))) (Wc1 := (mW cI cZ md (o_SA (u_New S g) 16))) (Wd1 := (mW cI cZ md (o_SA (u_New S g) 16))) (o := none) ⟨hx, hb, hml, hown, hts⟩ (c_X2_selectsAll l D cI cZ cP md (u_New S g) (by show g_N S + 1 ≤ 5; omega)) (cwV 0 hts gX2_addPeer_X2_selectsAll rfl rfl rfl (by decide +kernel) ⟨Nat.le_of_ble_eq_true rfl, Nat.le_of_ble_eq_true rfl⟩) hK hN hP hD hS (fun j => j) (fun _ _ h => h) (fun _ _ _ _ h => h) (mAdr _ _ _ _ _) (fun k q h => Or.inl ⟨k, h⟩) 0 2 rfl rfl (mO _ _ _ _) rfl hl.1 rfl (Nat.le_of_ble_eq_true rfl) ⟨Nat.zero_le _, Nat.zero_le _⟩ dX2_addPeer_49 (fun H locs hP hD hS => ?_)
      refine lv_aload_n hx hb dX2_addPeer_52 rfl (lv_at hl 0 rfl) ?_
      refine va_get (D := D) (ci := 2) (v := .int (nI (g_N (o_SA (u_New S g) 16)))) (C := RX2) (T := TX2) (N := 16) hx hb hts hi2 hown hK hP 0 (mO _ _ _ _) rfl 3 (by decide) (hts (.fieldLink RX2 55 "GracefulRestartModel" "peers" "I") (List.mem_of_getElem? (i := 1) rfl)) (fun _ h9 => h9) (mV_N _ _) dX2_addPeer_53 ?_
      refine k_top (y := nI (g_N S + 1)) (congrArg nI (o_SA_N _ _)) ?_
      refine lv_iconst (v := 1) hx hb dX2_addPeer_56 (by decide) ?_
      refine lv_isub hx hb dX2_addPeer_57 ?_
      refine k_top (nI_pred (g_N S)) ?_
      exact k_iret hx hb hr hlk hP hS hAe (by rw [u_Add, if_neg h5, if_pos c_45]) (by rw [u_Add, if_neg h5, if_pos c_45]) dX2_addPeer_58
  · refine lv_bipush (v := -5) hx hb dX2_addPeer_8 (by decide) ?_
    exact k_iret hx hb hr hlk hP hS hAe (by rw [u_Add, if_pos ((N5 hn).mp c_5)]) (by rw [u_Add, if_pos ((N5 hn).mp c_5)]) dX2_addPeer_10

set_option maxRecDepth 100000 in
set_option maxHeartbeats 4000000 in
theorem c_X2_loopCount (l : Launch) (D : va_G) (cI cZ cP : ClassId) (md : Nat → Nat) (S : ST)  (hn : g_N S ≤ 5) : MM l yX2_loopCount wsX2_loopCount ({ frames := 1, cells := 0, slots := 0, locals := 22 }) D (kTy cI cZ cP) [.ref (md 0)] (mW cI cZ md S) (some (.int (o_Lp S (g_N S)))) (mW cI cZ md S) := by
  refine MM.ofW (cc := cX2_loopCount) (maxL := 3) (ret := (some .int)) (by decide) rfl (Nat.le_of_ble_eq_true rfl) ?_
  intro p e s m below meth c ls A hx hb hr hlk hml hts hown hK hN hP hD hS hAe hl
  have hown : s.vm.findClass RX2 = some m.cls := hown
  have hi2 : ∀ w ∈ wsX20, w ∈ wsX2_loopCount := fun w h => List.mem_cons_of_mem _ (List.mem_append_right _ h)
  have hl : lv_has ls 3 [(0, .ref (md 0))] := hl
  refine lv_iconst (v := 0) hx hb dX2_loopCount_0 (by decide) ?_
  refine lv_istore_n (lv' := [(1, .int 0), (0, .ref (md 0))]) hx hb dX2_loopCount_1 rfl hl (by decide) rfl (fun ls hl => ?_)
  refine lv_iconst (v := 0) hx hb dX2_loopCount_2 (by decide) ?_
  refine lv_istore_n (lv' := [(2, .int 0), (1, .int 0), (0, .ref (md 0))]) hx hb dX2_loopCount_3 rfl hl (by decide) rfl (fun ls hl => ?_)
  have lp4 : ∀ (n9 i : Nat), i + n9 = 16 * g_N S → ∀ (H : Heap) (locs : List Loc) (ls : Array Slot), va_P D vwCl (mW cI cZ md S) H → va_D A (mW cI cZ md S) → va_S A s.heap H locs → lv_has ls 3 [(0, .ref (md 0)), (1, .int (lpf S i)), (2, .int (nI i))] → W p l e (headSpec wsX2_loopCount ({ frames := 1, cells := 0, slots := 0, locals := 22 })).room s m ([.ref (md 0)] : List Value).toArray below meth c H locs 0 0 (MQ below (kPost D (mW cI cZ md S) (mW cI cZ md S) (some (.int (o_Lp S (g_N S))))) ([.ref (md 0)] : List Value).toArray s 0 0 (kA (mW cI cZ md S))) (F0 m 4 ls []) := by
    intro n9
    induction n9 with
    | zero =>
      intro i hi9 H locs ls hP hD hS hl
      have hi8 : i = 16 * g_N S := by omega
      subst hi8
      refine lv_iload_n hx hb dX2_loopCount_4 rfl (lv_at hl 2 rfl) ?_
      refine lv_bipush (v := 16) hx hb dX2_loopCount_5 (by decide) ?_
      refine lv_aload_n hx hb dX2_loopCount_7 rfl (lv_at hl 0 rfl) ?_
      refine va_get (D := D) (ci := 2) (v := .int (nI (g_N S))) (C := RX2) (T := TX2) (N := 16) hx hb hts hi2 hown hK hP 0 (mO _ _ _ _) rfl 3 (by decide) (hts (.fieldLink RX2 55 "GracefulRestartModel" "peers" "I") (List.mem_of_getElem? (i := 1) rfl)) (fun _ h9 => h9) (mV_N _ _) dX2_loopCount_8 ?_
      refine lv_imul hx hb dX2_loopCount_11 ?_
      refine k_top (nx16 (g_N S)) ?_
      refine lv_icmp_ge (tgt := 46) hx hb dX2_loopCount_12 (by decide) (fun _ => ?_) (fun c_ => absurd (Int32.le_refl _) c_)
      refine lv_iload_n hx hb dX2_loopCount_46 rfl (lv_at hl 1 rfl) ?_
      exact k_iret hx hb hr hlk hP hS hAe (lpf_e S (g_N S)) rfl dX2_loopCount_47
    | succ n9 ih =>
      intro i hi9 H locs ls hP hD hS hl
      have hlt : i < 16 * g_N S := by omega
      refine lv_iload_n hx hb dX2_loopCount_4 rfl (lv_at hl 2 rfl) ?_
      refine lv_bipush (v := 16) hx hb dX2_loopCount_5 (by decide) ?_
      refine lv_aload_n hx hb dX2_loopCount_7 rfl (lv_at hl 0 rfl) ?_
      refine va_get (D := D) (ci := 2) (v := .int (nI (g_N S))) (C := RX2) (T := TX2) (N := 16) hx hb hts hi2 hown hK hP 0 (mO _ _ _ _) rfl 3 (by decide) (hts (.fieldLink RX2 55 "GracefulRestartModel" "peers" "I") (List.mem_of_getElem? (i := 1) rfl)) (fun _ h9 => h9) (mV_N _ _) dX2_loopCount_8 ?_
      refine lv_imul hx hb dX2_loopCount_11 ?_
      refine k_top (nx16 (g_N S)) ?_
      refine lv_icmp_ge (tgt := 46) hx hb dX2_loopCount_12 (by decide) (fun c_ => absurd c_ (nI_ge (a := i) (b := 16 * g_N S) hlt (by omega))) (fun _ => ?_)
      refine lv_iload_n hx hb dX2_loopCount_15 rfl (lv_at hl 1 rfl) ?_
      refine lv_aload_n hx hb dX2_loopCount_16 rfl (lv_at hl 0 rfl) ?_
      refine lv_iload_n hx hb dX2_loopCount_17 rfl (lv_at hl 2 rfl) ?_
      refine lv_bipush (v := 16) hx hb dX2_loopCount_18 (by decide) ?_
      refine lv_idiv hx hb dX2_loopCount_20 (by decide) ?_
      refine k_top (y := nI (i / 16)) (pk_div (a := i) (d := 16) (by omega) (by decide) (by decide)) ?_
      refine lv_iload_n hx hb dX2_loopCount_21 rfl (lv_at hl 2 rfl) ?_
      refine lv_bipush (v := 16) hx hb dX2_loopCount_22 (by decide) ?_
      refine lv_irem hx hb dX2_loopCount_24 (by decide) ?_
      refine k_top (y := nI (i % 16)) (pk_rem (a := i) (d := 16) (by omega) (by decide) (by decide)) ?_
      refine kV (As := [.int (nI (i / 16)), .int (nI (i % 16))]) (rest := [.int (lpf S i)]) (Wc := (mW cI cZ md S)) (Wc1 := (mW cI cZ md S)) (Wd1 := (mW cI cZ md S)) (o := some (.int (o_Fw S (i / 16) (i % 16)))) ⟨hx, hb, hml, hown, hts⟩ (c_X2_forwards l D cI cZ cP md S (i / 16) (i % 16) (by omega) (by omega)) (cwV 2 hts gX2_loopCount_X2_forwards rfl rfl rfl (by decide +kernel) ⟨Nat.le_of_ble_eq_true rfl, Nat.le_of_ble_eq_true rfl⟩) hK hN hP hD hS (fun j => j) (fun _ _ h => h) (fun _ _ _ _ h => h) (mAdr _ _ _ _ _) (fun k q h => Or.inl ⟨k, h⟩) 0 2 rfl rfl (mO _ _ _ _) rfl hl.1 rfl (Nat.le_of_ble_eq_true rfl) ⟨Nat.zero_le _, Nat.zero_le _⟩ dX2_loopCount_25 (fun H locs hP hD hS => ?_)
      refine lv_bipush (v := -8) hx hb dX2_loopCount_28 (by decide) ?_
      refine lv_icmp_ne (tgt := 37) hx hb dX2_loopCount_30 (by decide) (fun c_30 => ?_) (fun c_30 => ?_)
      · refine lv_iconst (v := 0) hx hb dX2_loopCount_37 (by decide) ?_
        refine lv_iadd hx hb dX2_loopCount_38 ?_
        refine k_top (y := lpf S (i + 1)) ((Int32.add_zero _).trans (by rw [lpf_s, if_neg (by simp [p_Lp, c_30]), Int32.add_zero])) ?_
        refine lv_istore_n (lv' := [(1, .int (lpf S (i + 1))), (0, .ref (md 0)), (2, .int (nI i))]) hx hb dX2_loopCount_39 rfl hl (by decide) rfl (fun ls hl => ?_)
        refine lv_iinc (v := nI (i + 1)) (lv' := [(2, .int (nI (i + 1))), (1, .int (lpf S (i + 1))), (0, .ref (md 0))]) hx hb dX2_loopCount_40 hl (k := 2) rfl (nI_1 i) (by decide) rfl (fun ls hl => ?_)
        refine lv_goto (tgt := 4) hx hb dX2_loopCount_43 (by decide) ?_
        exact ih (i + 1) (by omega) _ _ ls hP hD hS (lv_sub hl [2, 1, 0] rfl)
      · refine lv_iconst (v := 1) hx hb dX2_loopCount_33 (by decide) ?_
        refine lv_goto (tgt := 38) hx hb dX2_loopCount_34 (by decide) ?_
        refine lv_iadd hx hb dX2_loopCount_38 ?_
        refine k_top (y := lpf S (i + 1)) (by rw [lpf_s, if_pos (by simp [p_Lp, c_30])]) ?_
        refine lv_istore_n (lv' := [(1, .int (lpf S (i + 1))), (0, .ref (md 0)), (2, .int (nI i))]) hx hb dX2_loopCount_39 rfl hl (by decide) rfl (fun ls hl => ?_)
        refine lv_iinc (v := nI (i + 1)) (lv' := [(2, .int (nI (i + 1))), (1, .int (lpf S (i + 1))), (0, .ref (md 0))]) hx hb dX2_loopCount_40 hl (k := 2) rfl (nI_1 i) (by decide) rfl (fun ls hl => ?_)
        refine lv_goto (tgt := 4) hx hb dX2_loopCount_43 (by decide) ?_
        exact ih (i + 1) (by omega) _ _ ls hP hD hS (lv_sub hl [2, 1, 0] rfl)
  exact lp4 (16 * g_N S) 0 (by omega) _ _ ls hP hD hS (lv_sub hl [2, 1, 0] rfl)

set_option maxRecDepth 100000 in
set_option maxHeartbeats 4000000 in
theorem c_X2_tick (l : Launch) (D : va_G) (cI cZ cP : ClassId) (md : Nat → Nat) (S : ST) (x : Int32) (hI : Inv S) : MM l yX2_tick wsX2_tick ({ frames := 4, cells := 0, slots := 0, locals := 89 }) D (kTy cI cZ cP) [.ref (md 0), .int x] (mW cI cZ md S) (some (.int (u_Tick S x).1)) (mW cI cZ md (u_Tick S x).2) := by
  refine MM.ofW (cc := cX2_tick) (maxL := 5) (ret := (some .int)) (by decide) rfl (Nat.le_of_ble_eq_true rfl) ?_
  intro p e s m below meth c ls A hx hb hr hlk hml hts hown hK hN hP hD hS hAe hl
  have hown : s.vm.findClass RX2 = some m.cls := hown
  have hi2 : ∀ w ∈ wsX20, w ∈ wsX2_tick := fun w h => List.mem_cons_of_mem _ (List.mem_append_right _ h)
  have hl : lv_has ls 5 [(0, .ref (md 0)), (1, .int x)] := hl
  have hn : g_N S ≤ 5 := hI.1
  refine lv_iload_n hx hb dX2_tick_0 rfl (lv_at hl 1 rfl) ?_
  refine lv_iconst (v := 1) hx hb dX2_tick_1 (by decide) ?_
  refine lv_bipush (v := 100) hx hb dX2_tick_2 (by decide) ?_
  refine kS0 (As := [.int x, .int 1, .int 100]) (rest := []) (o := some (.int (if x < 1 then 0 else if 100 < x then 0 else 1))) ⟨hx, hb, hml, hown, hts⟩ (c_X2_within l D cI cZ cP x 1 100) (va_cwS 3 hts gX2_tick_X2_within rfl rfl rfl (by decide +kernel) ⟨Nat.le_of_ble_eq_true rfl, Nat.le_of_ble_eq_true rfl⟩) hK hN hP hD hS rfl hl.1 rfl (Nat.le_of_ble_eq_true rfl) ⟨Nat.zero_le _, Nat.zero_le _⟩ dX2_tick_4 (fun H locs hP hD hS => ?_)
  refine k_top (y := if okK x then 1 else 0) (wi_g x 1 100) ?_
  by_cases hK9 : okK x
  · refine k_top (if_pos hK9) ?_
    obtain ⟨m9, hm9, rfl⟩ := okK_nat hK9
    have kxe : kx (nI m9) = m9 := kx_n (by omega)
    refine lv_if_ne (tgt := 13) hx hb dX2_tick_7 (by decide) (fun _ => ?_) (fun c_ => absurd c_ (by decide))
    refine lv_iconst (v := 0) hx hb dX2_tick_13 (by decide) ?_
    refine lv_istore_n (lv' := [(2, .int 0), (0, .ref (md 0)), (1, .int (nI m9))]) hx hb dX2_tick_14 rfl hl (by decide) rfl (fun ls hl => ?_)
    refine lv_iconst (v := 0) hx hb dX2_tick_15 (by decide) ?_
    refine lv_istore_n (lv' := [(3, .int 0), (2, .int 0), (0, .ref (md 0)), (1, .int (nI m9))]) hx hb dX2_tick_16 rfl hl (by decide) rfl (fun ls hl => ?_)
    have lp17 : ∀ (n9 j : Nat), j + n9 = m9 → ∀ (H : Heap) (locs : List Loc) (ls : Array Slot), va_P D vwCl (mW cI cZ md ((o_Tk S j).2)) H → va_D A (mW cI cZ md ((o_Tk S j).2)) → va_S A s.heap H locs → lv_has ls 5 [(0, .ref (md 0)), (1, .int (nI m9)), (2, .int ((o_Tk S j).1)), (3, .int (nI j))] → W p l e (headSpec wsX2_tick ({ frames := 4, cells := 0, slots := 0, locals := 89 })).room s m ([.ref (md 0), .int (nI m9)] : List Value).toArray below meth c H locs 0 0 (MQ below (kPost D (mW cI cZ md S) (mW cI cZ md (u_Tick S (nI m9)).2) (some (.int (u_Tick S (nI m9)).1))) ([.ref (md 0), .int (nI m9)] : List Value).toArray s 0 0 (kA (mW cI cZ md S))) (F0 m 17 ls []) := by
      intro n9
      induction n9 with
      | zero =>
        intro j hi9 H locs ls hP hD hS hl
        have hi8 : j = m9 := by omega
        subst hi8
        refine lv_iload_n hx hb dX2_tick_17 rfl (lv_at hl 3 rfl) ?_
        refine lv_iload_n hx hb dX2_tick_18 rfl (lv_at hl 1 rfl) ?_
        refine lv_icmp_ge (tgt := 80) hx hb dX2_tick_19 (by decide) (fun _ => ?_) (fun c_ => absurd (Int32.le_refl _) c_)
        refine lv_iload_n hx hb dX2_tick_80 rfl (lv_at hl 2 rfl) ?_
        exact k_iret hx hb hr hlk hP hS hAe (by rw [u_Tick, if_pos hK9, kxe]) (by rw [u_Tick, if_pos hK9, kxe]) dX2_tick_81
      | succ n9 ih =>
        intro j hi9 H locs ls hP hD hS hl
        have hlt : j < m9 := by omega
        have hnT : g_N (o_Tk S j).2 ≤ 5 := by rw [o_Tk_N]; exact hn
        refine lv_iload_n hx hb dX2_tick_17 rfl (lv_at hl 3 rfl) ?_
        refine lv_iload_n hx hb dX2_tick_18 rfl (lv_at hl 1 rfl) ?_
        refine lv_icmp_ge (tgt := 80) hx hb dX2_tick_19 (by decide) (fun c_ => absurd c_ (nI_ge (a := j) (b := m9) hlt (by omega))) (fun _ => ?_)
        refine lv_iconst (v := 0) hx hb dX2_tick_22 (by decide) ?_
        refine lv_istore (lv' := [(4, .int 0), (0, .ref (md 0)), (1, .int (nI m9)), (2, .int ((o_Tk S j).1)), (3, .int (nI j))]) hx hb dX2_tick_23 hl (by decide) rfl (fun ls hl => ?_)
        have lp25 : ∀ (n9 i : Nat), i + n9 = g_N (o_Tk S j).2 → ∀ (H : Heap) (locs : List Loc) (ls : Array Slot), va_P D vwCl (mW cI cZ md ((o_CDs (o_Tk S j).2 i).2)) H → va_D A (mW cI cZ md ((o_CDs (o_Tk S j).2 i).2)) → va_S A s.heap H locs → lv_has ls 5 [(0, .ref (md 0)), (1, .int (nI m9)), (2, .int ((o_Tk S j).1 + (o_CDs (o_Tk S j).2 i).1)), (3, .int (nI j)), (4, .int (nI i))] → W p l e (headSpec wsX2_tick ({ frames := 4, cells := 0, slots := 0, locals := 89 })).room s m ([.ref (md 0), .int (nI m9)] : List Value).toArray below meth c H locs 0 0 (MQ below (kPost D (mW cI cZ md S) (mW cI cZ md (u_Tick S (nI m9)).2) (some (.int (u_Tick S (nI m9)).1))) ([.ref (md 0), .int (nI m9)] : List Value).toArray s 0 0 (kA (mW cI cZ md S))) (F0 m 25 ls []) := by
          intro n9
          induction n9 with
          | zero =>
            intro i hi9 H locs ls hP hD hS hl
            have hi8 : i = g_N (o_Tk S j).2 := by omega
            subst hi8
            refine lv_iload hx hb dX2_tick_25 (lv_at hl 4 rfl) ?_
            refine lv_aload_n hx hb dX2_tick_27 rfl (lv_at hl 0 rfl) ?_
            refine va_get (D := D) (ci := 2) (v := .int (nI (g_N ((o_CDs (o_Tk S j).2 (g_N (o_Tk S j).2)).2)))) (C := RX2) (T := TX2) (N := 16) hx hb hts hi2 hown hK hP 0 (mO _ _ _ _) rfl 3 (by decide) (hts (.fieldLink RX2 55 "GracefulRestartModel" "peers" "I") (List.mem_of_getElem? (i := 1) rfl)) (fun _ h9 => h9) (mV_N _ _) dX2_tick_28 ?_
            refine k_top (y := nI (g_N (o_Tk S j).2)) (congrArg nI (o_CDs_N _ _)) ?_
            refine lv_icmp_ge (tgt := 49) hx hb dX2_tick_31 (by decide) (fun _ => ?_) (fun c_ => absurd (Int32.le_refl _) c_)
            refine lv_aload_n hx hb dX2_tick_49 rfl (lv_at hl 0 rfl) ?_
            refine lv_dup hx hb dX2_tick_50 rfl ?_
            refine va_get (D := D) (ci := 2) (v := .int (g_Dl ((o_CDs (o_Tk S j).2 (g_N (o_Tk S j).2)).2))) (C := RX2) (T := TX2) (N := 16) hx hb hts hi2 hown hK hP 0 (mO _ _ _ _) rfl 15 (by decide) (hts (.fieldLink RX2 78 "GracefulRestartModel" "deferralTimerNow" "I") (List.mem_of_getElem? (i := 2) rfl)) (fun _ h9 => h9) (mV_Dl _ _) dX2_tick_51 ?_
            refine lv_aload_n hx hb dX2_tick_54 rfl (lv_at hl 0 rfl) ?_
            refine va_get (D := D) (ci := 2) (v := .int (g_Dl ((o_CDs (o_Tk S j).2 (g_N (o_Tk S j).2)).2))) (C := RX2) (T := TX2) (N := 16) hx hb hts hi2 hown hK hP 0 (mO _ _ _ _) rfl 15 (by decide) (hts (.fieldLink RX2 78 "GracefulRestartModel" "deferralTimerNow" "I") (List.mem_of_getElem? (i := 2) rfl)) (fun _ h9 => h9) (mV_Dl _ _) dX2_tick_55 ?_
            refine lv_if_le (tgt := 65) hx hb dX2_tick_58 (by decide) (fun c_58 => ?_) (fun c_58 => ?_)
            · refine lv_iconst (v := 0) hx hb dX2_tick_65 (by decide) ?_
              refine lv_isub hx hb dX2_tick_66 ?_
              refine k_top (y := g_Dl ((o_CDs (o_Tk S j).2 (g_N (o_Tk S j).2)).2)) (Int32.sub_zero _) ?_
              refine k_put (D := D) (ci := 2) (v := .int (g_Dl ((o_CDs (o_Tk S j).2 (g_N (o_Tk S j).2)).2))) (ty := .int) (C := RX2) (T := TX2) (N := 16) hx hb hts hi2 tyX2 tyX2_ok nmX2 hown hK hP hD hS 0 (mO _ _ _ _) rfl 15 (by decide) (hts (.fieldLink RX2 78 "GracefulRestartModel" "deferralTimerNow" "I") (List.mem_of_getElem? (i := 2) rfl)) (fun _ h9 => h9) rfl (by decide +kernel) rfl rfl (Nat.le_of_ble_eq_true rfl) (W1 := (mW cI cZ md (s_Dl ((o_CDs (o_Tk S j).2 (g_N (o_Tk S j).2)).2) (g_Dl ((o_CDs (o_Tk S j).2 (g_N (o_Tk S j).2)).2))))) (mP_Dl _ _ _ _ _) dX2_tick_67 (fun H locs hP hD hS => ?_)
              rw [Dl1_f (Int32.not_lt.mpr c_58)] at hP hD
              refine lv_aload_n hx hb dX2_tick_70 rfl (lv_at hl 0 rfl) ?_
              refine kV (As := []) (rest := []) (Wc := (mW cI cZ md (o_Dl1 (o_CDs (o_Tk S j).2 (g_N (o_Tk S j).2)).2))) (Wc1 := (mW cI cZ md (o_Chk (o_Dl1 (o_CDs (o_Tk S j).2 (g_N (o_Tk S j).2)).2)))) (Wd1 := (mW cI cZ md (o_Chk (o_Dl1 (o_CDs (o_Tk S j).2 (g_N (o_Tk S j).2)).2)))) (o := none) ⟨hx, hb, hml, hown, hts⟩ (c_X2_checksDeferral l D cI cZ cP md (o_Dl1 (o_CDs (o_Tk S j).2 (g_N (o_Tk S j).2)).2) (inv_Dl1 (inv_CDs (inv_Tk hI j) (Nat.le_refl _)))) (cwV 0 hts gX2_tick_X2_checksDeferral rfl rfl rfl (by decide +kernel) ⟨Nat.le_of_ble_eq_true rfl, Nat.le_of_ble_eq_true rfl⟩) hK hN hP hD hS (fun j => j) (fun _ _ h => h) (fun _ _ _ _ h => h) (mAdr _ _ _ _ _) (fun k q h => Or.inl ⟨k, h⟩) 0 2 rfl rfl (mO _ _ _ _) rfl hl.1 rfl (Nat.le_of_ble_eq_true rfl) ⟨Nat.zero_le _, Nat.zero_le _⟩ dX2_tick_71 (fun H locs hP hD hS => ?_)
              refine lv_iinc (v := nI (j + 1)) (lv' := [(3, .int (nI (j + 1))), (0, .ref (md 0)), (1, .int (nI m9)), (2, .int ((o_Tk S j).1 + (o_CDs (o_Tk S j).2 (g_N (o_Tk S j).2)).1)), (4, .int (nI (g_N (o_Tk S j).2)))]) hx hb dX2_tick_74 hl (k := 3) rfl (nI_1 j) (by decide) rfl (fun ls hl => ?_)
              refine lv_goto (tgt := 17) hx hb dX2_tick_77 (by decide) ?_
              rw [Tk1_2, Tk_s2] at hP hD
              rw [Tk1_1, Tk_s1] at hl
              exact ih (j + 1) (by omega) _ _ ls hP hD hS (lv_sub hl [1, 2, 3, 0] rfl)
            · refine lv_iconst (v := 1) hx hb dX2_tick_61 (by decide) ?_
              refine lv_goto (tgt := 66) hx hb dX2_tick_62 (by decide) ?_
              refine lv_isub hx hb dX2_tick_66 ?_
              refine k_put (D := D) (ci := 2) (v := .int ((g_Dl ((o_CDs (o_Tk S j).2 (g_N (o_Tk S j).2)).2)) - 1)) (ty := .int) (C := RX2) (T := TX2) (N := 16) hx hb hts hi2 tyX2 tyX2_ok nmX2 hown hK hP hD hS 0 (mO _ _ _ _) rfl 15 (by decide) (hts (.fieldLink RX2 78 "GracefulRestartModel" "deferralTimerNow" "I") (List.mem_of_getElem? (i := 2) rfl)) (fun _ h9 => h9) rfl (by decide +kernel) rfl rfl (Nat.le_of_ble_eq_true rfl) (W1 := (mW cI cZ md (s_Dl ((o_CDs (o_Tk S j).2 (g_N (o_Tk S j).2)).2) ((g_Dl ((o_CDs (o_Tk S j).2 (g_N (o_Tk S j).2)).2)) - 1)))) (mP_Dl _ _ _ _ _) dX2_tick_67 (fun H locs hP hD hS => ?_)
              rw [Dl1_t (Int32.not_le.mp c_58)] at hP hD
              refine lv_aload_n hx hb dX2_tick_70 rfl (lv_at hl 0 rfl) ?_
              refine kV (As := []) (rest := []) (Wc := (mW cI cZ md (o_Dl1 (o_CDs (o_Tk S j).2 (g_N (o_Tk S j).2)).2))) (Wc1 := (mW cI cZ md (o_Chk (o_Dl1 (o_CDs (o_Tk S j).2 (g_N (o_Tk S j).2)).2)))) (Wd1 := (mW cI cZ md (o_Chk (o_Dl1 (o_CDs (o_Tk S j).2 (g_N (o_Tk S j).2)).2)))) (o := none) ⟨hx, hb, hml, hown, hts⟩ (c_X2_checksDeferral l D cI cZ cP md (o_Dl1 (o_CDs (o_Tk S j).2 (g_N (o_Tk S j).2)).2) (inv_Dl1 (inv_CDs (inv_Tk hI j) (Nat.le_refl _)))) (cwV 0 hts gX2_tick_X2_checksDeferral rfl rfl rfl (by decide +kernel) ⟨Nat.le_of_ble_eq_true rfl, Nat.le_of_ble_eq_true rfl⟩) hK hN hP hD hS (fun j => j) (fun _ _ h => h) (fun _ _ _ _ h => h) (mAdr _ _ _ _ _) (fun k q h => Or.inl ⟨k, h⟩) 0 2 rfl rfl (mO _ _ _ _) rfl hl.1 rfl (Nat.le_of_ble_eq_true rfl) ⟨Nat.zero_le _, Nat.zero_le _⟩ dX2_tick_71 (fun H locs hP hD hS => ?_)
              refine lv_iinc (v := nI (j + 1)) (lv' := [(3, .int (nI (j + 1))), (0, .ref (md 0)), (1, .int (nI m9)), (2, .int ((o_Tk S j).1 + (o_CDs (o_Tk S j).2 (g_N (o_Tk S j).2)).1)), (4, .int (nI (g_N (o_Tk S j).2)))]) hx hb dX2_tick_74 hl (k := 3) rfl (nI_1 j) (by decide) rfl (fun ls hl => ?_)
              refine lv_goto (tgt := 17) hx hb dX2_tick_77 (by decide) ?_
              rw [Tk1_2, Tk_s2] at hP hD
              rw [Tk1_1, Tk_s1] at hl
              exact ih (j + 1) (by omega) _ _ ls hP hD hS (lv_sub hl [1, 2, 3, 0] rfl)
          | succ n9 ih =>
            intro i hi9 H locs ls hP hD hS hl
            have hlt : i < g_N (o_Tk S j).2 := by omega
            refine lv_iload hx hb dX2_tick_25 (lv_at hl 4 rfl) ?_
            refine lv_aload_n hx hb dX2_tick_27 rfl (lv_at hl 0 rfl) ?_
            refine va_get (D := D) (ci := 2) (v := .int (nI (g_N ((o_CDs (o_Tk S j).2 i).2)))) (C := RX2) (T := TX2) (N := 16) hx hb hts hi2 hown hK hP 0 (mO _ _ _ _) rfl 3 (by decide) (hts (.fieldLink RX2 55 "GracefulRestartModel" "peers" "I") (List.mem_of_getElem? (i := 1) rfl)) (fun _ h9 => h9) (mV_N _ _) dX2_tick_28 ?_
            refine k_top (y := nI (g_N (o_Tk S j).2)) (congrArg nI (o_CDs_N _ _)) ?_
            refine lv_icmp_ge (tgt := 49) hx hb dX2_tick_31 (by decide) (fun c_ => absurd c_ (nI_ge (a := i) (b := g_N (o_Tk S j).2) hlt (by omega))) (fun _ => ?_)
            refine lv_iload_n hx hb dX2_tick_34 rfl (lv_at hl 2 rfl) ?_
            refine lv_aload_n hx hb dX2_tick_35 rfl (lv_at hl 0 rfl) ?_
            refine lv_iload hx hb dX2_tick_36 (lv_at hl 4 rfl) ?_
            refine kV (As := [.int (nI i)]) (rest := [.int ((o_Tk S j).1 + (o_CDs (o_Tk S j).2 i).1)]) (Wc := (mW cI cZ md ((o_CDs (o_Tk S j).2 i).2))) (Wc1 := (mW cI cZ md ((o_CD ((o_CDs (o_Tk S j).2 i).2) i).2))) (Wd1 := (mW cI cZ md ((o_CD ((o_CDs (o_Tk S j).2 i).2) i).2))) (o := some (.int ((o_CD ((o_CDs (o_Tk S j).2 i).2) i).1))) ⟨hx, hb, hml, hown, hts⟩ (c_X2_ages l D cI cZ cP md ((o_CDs (o_Tk S j).2 i).2) i (inv_CDs (inv_Tk hI j) (by omega)) (by rw [o_CDs_N]; omega)) (cwV 1 hts gX2_tick_X2_ages rfl rfl rfl (by decide +kernel) ⟨Nat.le_of_ble_eq_true rfl, Nat.le_of_ble_eq_true rfl⟩) hK hN hP hD hS (fun j => j) (fun _ _ h => h) (fun _ _ _ _ h => h) (mAdr _ _ _ _ _) (fun k q h => Or.inl ⟨k, h⟩) 0 2 rfl rfl (mO _ _ _ _) rfl hl.1 rfl (Nat.le_of_ble_eq_true rfl) ⟨Nat.zero_le _, Nat.zero_le _⟩ dX2_tick_38 (fun H locs hP hD hS => ?_)
            refine lv_iadd hx hb dX2_tick_41 ?_
            refine k_top (y := (o_Tk S j).1 + (o_CDs (o_Tk S j).2 (i + 1)).1) (by rw [Int32.add_assoc, CDs_s1]) ?_
            refine lv_istore_n (lv' := [(2, .int ((o_Tk S j).1 + (o_CDs (o_Tk S j).2 (i + 1)).1)), (0, .ref (md 0)), (1, .int (nI m9)), (3, .int (nI j)), (4, .int (nI i))]) hx hb dX2_tick_42 rfl hl (by decide) rfl (fun ls hl => ?_)
            refine lv_iinc (v := nI (i + 1)) (lv' := [(4, .int (nI (i + 1))), (2, .int ((o_Tk S j).1 + (o_CDs (o_Tk S j).2 (i + 1)).1)), (0, .ref (md 0)), (1, .int (nI m9)), (3, .int (nI j))]) hx hb dX2_tick_43 hl (k := 4) rfl (nI_1 i) (by decide) rfl (fun ls hl => ?_)
            refine lv_goto (tgt := 25) hx hb dX2_tick_46 (by decide) ?_
            rw [CDs_s2] at hP hD
            exact ih (i + 1) (by omega) _ _ ls hP hD hS (lv_sub hl [2, 3, 1, 4, 0] rfl)
        rw [← Int32.add_zero (o_Tk S j).1] at hl
        exact lp25 (g_N (o_Tk S j).2) 0 (by omega) _ _ ls (by rw [CDs_0]; exact hP) (by rw [CDs_0]; exact hD) hS (lv_sub hl [1, 2, 3, 4, 0] rfl)
    exact lp17 m9 0 (by omega) _ _ ls (by rw [Tk_0]; exact hP) (by rw [Tk_0]; exact hD) hS (lv_sub hl [2, 3, 1, 0] rfl)
  · refine k_top (if_neg hK9) ?_
    refine lv_if_ne (tgt := 13) hx hb dX2_tick_7 (by decide) (fun c_ => absurd (by decide) c_) (fun _ => ?_)
    refine lv_bipush (v := -3) hx hb dX2_tick_10 (by decide) ?_
    exact k_iret hx hb hr hlk hP hS hAe (by rw [u_Tick, if_neg hK9]) (by rw [u_Tick, if_neg hK9]) dX2_tick_12
