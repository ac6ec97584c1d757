theorem yS_Of (cI cZ cP : ClassId) (ad : Nat → Nat) (pd : Nat → Nat → Nat) (S : ST) {k : Nat} (hk : k < g_N S) (L : FR) : (xW cI cZ cP ad pd S).set (4 + (4 * k + 1)) (pd k 1, .inl (cI, 16, .inl L)) = xW cI cZ cP ad pd (s_Of S (va_up (g_Of S) k L)) := by
  refine xW_set hk (by decide) (one_of S k L) ?_
  show pW cI cZ (pd k 0) (pd k 1) (pd k 2) (pd k 3) (g_Gr S k) L (g_Le S k) (g_Ss S k) (g_St S k) (g_Rt S k) (g_Sl S k) (mkI (g_Hm S k)) = pW cI cZ (pd k 0) (pd k 1) (pd k 2) (pd k 3) (g_Gr S k) (va_up (g_Of S) k L k) (g_Le S k) (g_Ss S k) (g_St S k) (g_Rt S k) (g_Sl S k) (mkI (g_Hm S k))
  rw [va_up_self]
theorem yP_Hm (cI cZ cP : ClassId) (ad : Nat → Nat) (pd : Nat → Nat → Nat) (S : ST) {k : Nat} (hk : k < g_N S) (row : FR) {v : Int32} (hv : mkI row = v) : (xW cI cZ cP ad pd S).set (4 + (4 * k + 0)) (pd k 0, .inr (0, (pF pd S k).set 7 (.int v))) = xW cI cZ cP ad pd (s_Hm S (va_up (g_Hm S) k row)) := by
  subst hv
  refine xW_set hk (by decide) (one_hm S k row) ?_
  show pW cI cZ (pd k 0) (pd k 1) (pd k 2) (pd k 3) (g_Gr S k) (g_Of S k) (g_Le S k) (g_Ss S k) (g_St S k) (g_Rt S k) (g_Sl S k) (mkI row) = pW cI cZ (pd k 0) (pd k 1) (pd k 2) (pd k 3) (g_Gr S k) (g_Of S k) (g_Le S k) (g_Ss S k) (g_St S k) (g_Rt S k) (g_Sl S k) (mkI (va_up (g_Hm S) k row k))
  rw [va_up_self]
theorem mk_00 (h : FR) : mkI (upd (upd h 0 0) 1 0) = 0 := by simp [mkI, upd]
theorem mk_and (h : FR) {a : Nat} (ha : a < 2) : mkI h &&& ((1 : Int32) <<< (nI a &&& 31)) = 0 ↔ h a = 0 := by
  have e0 : (1 : Int32) <<< (nI 0 &&& 31) = 1 := by decide
  have e1 : (1 : Int32) <<< (nI 1 &&& 31) = 2 := by decide
  rcases (show a = 0 ∨ a = 1 by omega) with rfl | rfl
  · rw [e0]
    by_cases h0 : h 0 = 0 <;> by_cases h1 : h 1 = 0 <;> simp only [mkI, h0, h1, if_true, if_false, iff_true, iff_false] <;> decide
  · rw [e1]
    by_cases h0 : h 0 = 0 <;> by_cases h1 : h 1 = 0 <;> simp only [mkI, h0, h1, if_true, if_false, iff_true, iff_false] <;> decide
theorem mk_or (h : FR) {a : Nat} (ha : a < 2) : mkI (upd h a 1) = mkI h ||| ((1 : Int32) <<< (nI a &&& 31)) := by
  have e0 : (1 : Int32) <<< (nI 0 &&& 31) = 1 := by decide
  have e1 : (1 : Int32) <<< (nI 1 &&& 31) = 2 := by decide
  rcases (show a = 0 ∨ a = 1 by omega) with rfl | rfl
  · rw [e0]
    have q0 : upd h 0 1 0 = 1 := upd_s h 0 1
    have q1 : upd h 0 1 1 = h 1 := upd_n h 1 (by decide)
    by_cases h0 : h 0 = 0 <;> by_cases h1 : h 1 = 0 <;> simp only [mkI, q0, q1, h0, h1, if_true, if_false] <;> decide
  · rw [e1]
    have q0 : upd h 1 1 0 = h 0 := upd_n h 1 (by decide)
    have q1 : upd h 1 1 1 = 1 := upd_s h 1 1
    by_cases h0 : h 0 = 0 <;> by_cases h1 : h 1 = 0 <;> simp only [mkI, q0, q1, h0, h1, if_true, if_false] <;> decide
theorem mk_id (h : FR) {a : Nat} (ha : a < 2) (hz : ¬ h a = 0) : mkI h = mkI h ||| ((1 : Int32) <<< (nI a &&& 31)) := by
  have e0 : (1 : Int32) <<< (nI 0 &&& 31) = 1 := by decide
  have e1 : (1 : Int32) <<< (nI 1 &&& 31) = 2 := by decide
  rcases (show a = 0 ∨ a = 1 by omega) with rfl | rfl
  · rw [e0]
    by_cases h1 : h 1 = 0 <;> simp only [mkI, hz, h1, if_true, if_false] <;> decide
  · rw [e1]
    by_cases h0 : h 0 = 0 <;> simp only [mkI, hz, h0, if_true, if_false] <;> decide
theorem Hm_id (S : ST) (k : Nat) : s_Hm S (va_up (g_Hm S) k (g_Hm S k)) = S := by
  rw [va_up_id]
  rfl
theorem Ofr_e (S : ST) (k r : Nat) (v : Int32) : (if g_Df (s_Of S (va_up (g_Of S) k (upd (g_Of S k) r v))) = 0 ∧ g_St (s_Of S (va_up (g_Of S) k (upd (g_Of S k) r v))) k = 0 then o_Sel (s_Of S (va_up (g_Of S) k (upd (g_Of S k) r v))) r else s_Of S (va_up (g_Of S) k (upd (g_Of S k) r v))) = u_Ofr S k r v := by
  rw [gs_Df_Of, gs_St_Of, u_Ofr]
theorem Ofr_N (S : ST) (k r : Nat) (v : Int32) : g_N (u_Ofr S k r v) = g_N S := by
  unfold u_Ofr
  split
  · exact (o_Sel_N _ r).trans (gs_N_Of _ _)
  · exact gs_N_Of _ _
theorem Rc1_N (S : ST) (p : Nat) : g_N (u_Rc1 S p) = g_N S := by
  unfold u_Rc1
  split
  · exact (o_ERes_N _ p).trans ((o_SA_N _ 16).trans (o_Meet_N S p))
  · exact o_Meet_N S p
theorem Ds1_N (S : ST) (p : Nat) : g_N (u_Ds1 S p) = g_N S := by
  unfold u_Ds1
  split
  · exact (o_SA_N _ 16).trans (o_Down_N S p)
  · exact o_Down_N S p
theorem Mk_N (S : ST) (p t : Nat) : g_N (u_Mk S p t) = g_N S := rfl
theorem xW_FT0 (cI cZ cP : ClassId) (ad : Nat → Nat) (pd : Nat → Nat → Nat) {S : ST} {pv : Int32} (h : pv = 0) : xW cI cZ cP ad pd (s_Ho S (kSet (-6) 16 (g_Ho S))) = xW cI cZ cP ad pd (o_FT S pv) := by
  rw [← FT_0 h, xW_Hz]
theorem xW_FT1 (cI cZ cP : ClassId) (ad : Nat → Nat) (pd : Nat → Nat → Nat) {S : ST} {pv : Int32} (h : ¬ pv = 0) : xW cI cZ cP ad pd (s_Hs S (kSet 1 16 (g_Hs S))) = xW cI cZ cP ad pd (o_FT S pv) := by
  rw [← FT_1 h, xW_Hz]
theorem Dl1_n {S : ST} (h : ¬ 0 < g_Dl S) : S = o_Dl1 S := by rw [o_Dl1, if_neg h]

set_option maxRecDepth 100000 in
set_option maxHeartbeats 4000000 in
theorem c_X1_announce (l : Launch) (D : va_G) (cI cZ cP : ClassId) (ad : Nat → Nat) (pd : Nat → Nat → Nat) (S : ST) (x t f len : Int32) (hn : g_N S ≤ 5) : MM l yX1_announce wsX1_announce ({ frames := 4, cells := 0, slots := 0, locals := 95 }) D (kTy cI cZ cP) [.ref (ad 0), .int x, .int t, .int f, .int len] (xW cI cZ cP ad pd S) (some (.int (u_Ann S x t f len).1)) (xW cI cZ cP ad pd ((u_Ann S x t f len).2)) := by
  refine MM.ofW (cc := cX1_announce) (maxL := 8) (ret := (some .int)) (by decide) rfl (Nat.le_of_ble_eq_true rfl) ?_
  intro p e s m below meth c ls A hx hb hr hlk hml hts hown hK hN hP hD hS hAe hl
  have hown : s.vm.findClass RX1 = some m.cls := hown
  have hi0 : ∀ w ∈ wsX00, w ∈ wsX1_announce := fun w h => List.mem_cons_of_mem _ (List.mem_append_left _ (List.mem_append_right _ h))
  have hi1 : ∀ w ∈ wsX10, w ∈ wsX1_announce := fun w h => List.mem_cons_of_mem _ (List.mem_append_right _ h)
  have hl : lv_has ls 8 [(0, .ref (ad 0)), (1, .int x), (2, .int t), (3, .int f), (4, .int len)] := hl
  refine lv_aload_n hx hb dX1_announce_0 rfl (lv_at hl 0 rfl) ?_
  refine lv_iload_n hx hb dX1_announce_1 rfl (lv_at hl 1 rfl) ?_
  by_cases hp : okP (g_N S) x
  · obtain ⟨k, hk, rfl⟩ := okP_nat hn hp
    have hk5 : k < 5 := by omega
    have kxe : kx (nI k) = k := kx_n (by omega)
    refine kV (As := [.int (nI k)]) (rest := []) (Wc := (xW cI cZ cP ad pd S)) (Wc1 := (xW cI cZ cP ad pd S)) (Wd1 := (xW cI cZ cP ad pd S)) (o := some (.ref (pd k 0))) ⟨hx, hb, hml, hown, hts⟩ (c_X1_findPeer_ok l D cI cZ cP ad pd S k hn hk) (cwV 1 hts gX1_announce_X1_findPeer rfl rfl rfl (by decide +kernel) ⟨Nat.le_of_ble_eq_true rfl, Nat.le_of_ble_eq_true rfl⟩) hK hN hP hD hS (fun j => j) (fun _ _ h => h) (fun _ _ _ _ h => h) (xW_adr rfl) (fun k q h => Or.inl ⟨k, h⟩) 0 1 rfl rfl (xO _ _ _ _ _ _) rfl hl.1 rfl (Nat.le_of_ble_eq_true rfl) ⟨Nat.zero_le _, Nat.zero_le _⟩ dX1_announce_2 (fun H locs hP hD hS => ?_)
    refine lv_astore (lv' := [(5, .ref (pd k 0)), (0, .ref (ad 0)), (1, .int (nI k)), (2, .int t), (3, .int f), (4, .int len)]) hx hb dX1_announce_5 hl (by decide) rfl (fun ls hl => ?_)
    refine lv_aload hx hb dX1_announce_7 (lv_at hl 0 rfl) ?_
    refine lv_ifnonnull (tgt := 14) hx hb dX1_announce_9 (by decide) ?_
    refine lv_iload_n hx hb dX1_announce_14 rfl (lv_at hl 3 rfl) ?_
    refine lv_iload_n hx hb dX1_announce_15 rfl (lv_at hl 4 rfl) ?_
    by_cases hr9 : okR t f
    · obtain ⟨a9, b9, ha9, hb9, rfl, rfl⟩ := okR_nat hr9
      have rxe : rx (nI a9) (nI b9) = 8 * a9 + b9 := rx_n (by omega) (by omega)
      have hr16 : 8 * a9 + b9 < 16 := by omega
      refine kS0 (As := [.int (nI a9), .int (nI b9)]) (rest := []) (o := some (.int (if okR (nI a9) (nI b9) then nI (rx (nI a9) (nI b9)) else -1))) ⟨hx, hb, hml, hown, hts⟩ (c_X1_routeOf l D cI cZ cP (nI a9) (nI b9)) (va_cwS 2 hts gX1_announce_X1_routeOf rfl rfl rfl (by decide +kernel) ⟨Nat.le_of_ble_eq_true rfl, Nat.le_of_ble_eq_true rfl⟩) hK hN hP hD hS rfl hl.1 rfl (Nat.le_of_ble_eq_true rfl) ⟨Nat.zero_le _, Nat.zero_le _⟩ dX1_announce_16 (fun H locs hP hD hS => ?_)
      refine k_top (y := nI (8 * a9 + b9)) (by rw [if_pos hr9, rxe]) ?_
      refine lv_istore (lv' := [(6, .int (nI (8 * a9 + b9))), (5, .ref (pd k 0)), (0, .ref (ad 0)), (1, .int (nI k)), (2, .int (nI a9)), (3, .int (nI b9)), (4, .int len)]) hx hb dX1_announce_19 hl (by decide) rfl (fun ls hl => ?_)
      refine lv_iload hx hb dX1_announce_21 (lv_at hl 0 rfl) ?_
      refine lv_if_ge (tgt := 29) hx hb dX1_announce_23 (by decide) (fun _ => ?_) (fun c_ => absurd (nI_pos' (by omega)) c_)
      refine lv_iload hx hb dX1_announce_29 (lv_at hl 6 rfl) ?_
      refine lv_iconst (v := 1) hx hb dX1_announce_31 (by decide) ?_
      refine lv_icmp_lt (tgt := 42) hx hb dX1_announce_32 (by decide) (fun c_32 => ?_) (fun c_32 => ?_)
      · refine lv_bipush (v := -3) hx hb dX1_announce_42 (by decide) ?_
        exact k_iret hx hb hr hlk hP hS hAe (by rw [u_Ann, if_pos hp, if_pos hr9, if_neg (fun z => z.1 c_32)]) (by rw [u_Ann, if_pos hp, if_pos hr9, if_neg (fun z => z.1 c_32)]) dX1_announce_44
      · refine lv_iload hx hb dX1_announce_35 (lv_at hl 6 rfl) ?_
        refine lv_bipush (v := 20) hx hb dX1_announce_37 (by decide) ?_
        refine lv_icmp_le (tgt := 45) hx hb dX1_announce_39 (by decide) (fun c_39 => ?_) (fun c_39 => ?_)
        · refine lv_aload hx hb dX1_announce_45 (lv_at hl 1 rfl) ?_
          refine va_getN (D := D) (ci := 0) (v := .ref (pd k 1)) (C := RX0) (T := TX0) (N := 8) hx hb hts hi0 hown hK hP (4 + (4 * k + 0)) (yO _ _ _ _ _ _ (by omega)) rfl 1 (by decide) (va_Nw.use rfl (hN (.fieldLinkNest RX1 61 RX0 "offers" "[I" RX1) (List.mem_of_getElem? (i := 0) rfl))) (fun _ h9 => h9) (yV_1 _ _ _) dX1_announce_47 ?_
          refine lv_iload hx hb dX1_announce_50 (lv_at hl 0 rfl) ?_
          refine k_iald (k := 8 * a9 + b9) hx hb hK hP (4 + (4 * k + 1)) 0 (yG_Of _ _ _ _ _ _ (by omega)) rfl rfl (by omega) (by decide) dX1_announce_52 ?_
          refine lv_istore (lv' := [(7, .int ((g_Of S) k (8 * a9 + b9))), (6, .int (nI (8 * a9 + b9))), (5, .ref (pd k 0)), (0, .ref (ad 0)), (1, .int (nI k)), (2, .int (nI a9)), (3, .int (nI b9)), (4, .int len)]) hx hb dX1_announce_53 hl (by decide) rfl (fun ls hl => ?_)
          refine lv_aload hx hb dX1_announce_55 (lv_at hl 2 rfl) ?_
          refine va_getN (D := D) (ci := 0) (v := .ref (pd k 1)) (C := RX0) (T := TX0) (N := 8) hx hb hts hi0 hown hK hP (4 + (4 * k + 0)) (yO _ _ _ _ _ _ (by omega)) rfl 1 (by decide) (va_Nw.use rfl (hN (.fieldLinkNest RX1 61 RX0 "offers" "[I" RX1) (List.mem_of_getElem? (i := 0) rfl))) (fun _ h9 => h9) (yV_1 _ _ _) dX1_announce_57 ?_
          refine lv_iload hx hb dX1_announce_60 (lv_at hl 1 rfl) ?_
          refine lv_iload hx hb dX1_announce_62 (lv_at hl 7 rfl) ?_
          refine k_iast (k := 8 * a9 + b9) hx hb hK hP hD hS (4 + (4 * k + 1)) 0 (yG_Of _ _ _ _ _ _ (by omega)) rfl rfl (by omega) (by decide) (W1 := (xW cI cZ cP ad pd (s_Of S (va_up (g_Of S) k (upd (g_Of S k) (8 * a9 + b9) len))))) (yS_Of _ _ _ _ _ _ (by omega) _) dX1_announce_64 (fun H locs hP hD hS => ?_)
          refine lv_aload_n hx hb dX1_announce_65 rfl (lv_at hl 3 rfl) ?_
          refine lv_aload hx hb dX1_announce_66 (lv_at hl 2 rfl) ?_
          refine lv_iload hx hb dX1_announce_68 (lv_at hl 1 rfl) ?_
          refine kV (As := [.ref (pd k 0), .int (nI (8 * a9 + b9))]) (rest := []) (Wc := (xW cI cZ cP ad pd (s_Of S (va_up (g_Of S) k (upd (g_Of S k) (8 * a9 + b9) len))))) (Wc1 := (xW cI cZ cP ad pd (u_Ofr S k (8 * a9 + b9) len))) (Wd1 := (xW cI cZ cP ad pd (u_Ofr S k (8 * a9 + b9) len))) (o := none) ⟨hx, hb, hml, hown, hts⟩ ((Ofr_e S k (8 * a9 + b9) len ▸ c_X1_selectAfterOffer l D cI cZ cP ad pd (s_Of S (va_up (g_Of S) k (upd (g_Of S k) (8 * a9 + b9) len))) k (8 * a9 + b9) (by rw [gs_N_Of]; exact hn) (by rw [gs_N_Of]; exact hk) (by omega))) (cwV 2 hts gX1_announce_X1_selectAfterOffer rfl rfl rfl (by decide +kernel) ⟨Nat.le_of_ble_eq_true rfl, Nat.le_of_ble_eq_true rfl⟩) hK hN hP hD hS (fun j => j) (fun _ _ h => h) (fun _ _ _ _ h => h) (xW_adr ((Ofr_N _ _ _ _).trans (gs_N_Of _ _).symm)) (fun k q h => Or.inl ⟨k, h⟩) 0 1 rfl rfl (xO _ _ _ _ _ _) rfl hl.1 rfl (Nat.le_of_ble_eq_true rfl) ⟨Nat.zero_le _, Nat.zero_le _⟩ dX1_announce_70 (fun H locs hP hD hS => ?_)
          refine lv_iload hx hb dX1_announce_73 (lv_at hl 0 rfl) ?_
          exact k_iret hx hb hr hlk hP hS hAe (by rw [u_Ann, if_pos hp, if_pos hr9, if_pos ⟨c_32, Int32.not_lt.mpr c_39⟩, kxe, rxe]) (by rw [u_Ann, if_pos hp, if_pos hr9, if_pos ⟨c_32, Int32.not_lt.mpr c_39⟩, kxe, rxe]) dX1_announce_75
        · refine lv_bipush (v := -3) hx hb dX1_announce_42 (by decide) ?_
          exact k_iret hx hb hr hlk hP hS hAe (by rw [u_Ann, if_pos hp, if_pos hr9, if_neg (fun z => z.2 (Int32.not_le.mp c_39))]) (by rw [u_Ann, if_pos hp, if_pos hr9, if_neg (fun z => z.2 (Int32.not_le.mp c_39))]) dX1_announce_44
    · refine kS0 (As := [.int t, .int f]) (rest := []) (o := some (.int (if okR t f then nI (rx t f) else -1))) ⟨hx, hb, hml, hown, hts⟩ (c_X1_routeOf l D cI cZ cP t f) (va_cwS 2 hts gX1_announce_X1_routeOf rfl rfl rfl (by decide +kernel) ⟨Nat.le_of_ble_eq_true rfl, Nat.le_of_ble_eq_true rfl⟩) hK hN hP hD hS rfl hl.1 rfl (Nat.le_of_ble_eq_true rfl) ⟨Nat.zero_le _, Nat.zero_le _⟩ dX1_announce_16 (fun H locs hP hD hS => ?_)
      refine k_top (y := -1) (if_neg hr9) ?_
      refine lv_istore (lv' := [(6, .int (-1)), (5, .ref (pd k 0)), (0, .ref (ad 0)), (1, .int (nI k)), (2, .int t), (3, .int f), (4, .int len)]) hx hb dX1_announce_19 hl (by decide) rfl (fun ls hl => ?_)
      refine lv_iload hx hb dX1_announce_21 (lv_at hl 0 rfl) ?_
      refine lv_if_ge (tgt := 29) hx hb dX1_announce_23 (by decide) (fun c_ => absurd c_ (by decide)) (fun _ => ?_)
      refine lv_bipush (v := -2) hx hb dX1_announce_26 (by decide) ?_
      exact k_iret hx hb hr hlk hP hS hAe (by rw [u_Ann, if_pos hp, if_neg hr9]) (by rw [u_Ann, if_pos hp, if_neg hr9]) dX1_announce_28
  · refine kV (As := [.int x]) (rest := []) (Wc := (xW cI cZ cP ad pd S)) (Wc1 := (xW cI cZ cP ad pd S)) (Wd1 := (xW cI cZ cP ad pd S)) (o := some (.null)) ⟨hx, hb, hml, hown, hts⟩ (c_X1_findPeer_no l D cI cZ cP ad pd S x hn hp) (cwV 1 hts gX1_announce_X1_findPeer rfl rfl rfl (by decide +kernel) ⟨Nat.le_of_ble_eq_true rfl, Nat.le_of_ble_eq_true rfl⟩) hK hN hP hD hS (fun j => j) (fun _ _ h => h) (fun _ _ _ _ h => h) (xW_adr rfl) (fun k q h => Or.inl ⟨k, h⟩) 0 1 rfl rfl (xO _ _ _ _ _ _) rfl hl.1 rfl (Nat.le_of_ble_eq_true rfl) ⟨Nat.zero_le _, Nat.zero_le _⟩ dX1_announce_2 (fun H locs hP hD hS => ?_)
    refine lv_astoreN (lv' := [(5, .null), (0, .ref (ad 0)), (1, .int x), (2, .int t), (3, .int f), (4, .int len)]) hx hb dX1_announce_5 hl (by decide) rfl (fun ls hl => ?_)
    refine lv_aloadN hx hb dX1_announce_7 (lv_at hl 0 rfl) ?_
    refine lv_ifnonnullN hx hb dX1_announce_9 ?_
    refine lv_iconst (v := -1) hx hb dX1_announce_12 (by decide) ?_
    exact k_iret hx hb hr hlk hP hS hAe (by rw [u_Ann, if_neg hp]) (by rw [u_Ann, if_neg hp]) dX1_announce_13

set_option maxRecDepth 100000 in
set_option maxHeartbeats 4000000 in
theorem c_X1_withdraw (l : Launch) (D : va_G) (cI cZ cP : ClassId) (ad : Nat → Nat) (pd : Nat → Nat → Nat) (S : ST) (x t f : Int32) (hn : g_N S ≤ 5) : MM l yX1_withdraw wsX1_withdraw ({ frames := 4, cells := 0, slots := 0, locals := 95 }) D (kTy cI cZ cP) [.ref (ad 0), .int x, .int t, .int f] (xW cI cZ cP ad pd S) (some (.int (u_Wd S x t f).1)) (xW cI cZ cP ad pd ((u_Wd S x t f).2)) := by
  refine MM.ofW (cc := cX1_withdraw) (maxL := 7) (ret := (some .int)) (by decide) rfl (Nat.le_of_ble_eq_true rfl) ?_
  intro p e s m below meth c ls A hx hb hr hlk hml hts hown hK hN hP hD hS hAe hl
  have hown : s.vm.findClass RX1 = some m.cls := hown
  have hi0 : ∀ w ∈ wsX00, w ∈ wsX1_withdraw := fun w h => List.mem_cons_of_mem _ (List.mem_append_left _ (List.mem_append_right _ h))
  have hi1 : ∀ w ∈ wsX10, w ∈ wsX1_withdraw := fun w h => List.mem_cons_of_mem _ (List.mem_append_right _ h)
  have hl : lv_has ls 7 [(0, .ref (ad 0)), (1, .int x), (2, .int t), (3, .int f)] := hl
  refine lv_aload_n hx hb dX1_withdraw_0 rfl (lv_at hl 0 rfl) ?_
  refine lv_iload_n hx hb dX1_withdraw_1 rfl (lv_at hl 1 rfl) ?_
  by_cases hp : okP (g_N S) x
  · obtain ⟨k, hk, rfl⟩ := okP_nat hn hp
    have hk5 : k < 5 := by omega
    have kxe : kx (nI k) = k := kx_n (by omega)
    refine kV (As := [.int (nI k)]) (rest := []) (Wc := (xW cI cZ cP ad pd S)) (Wc1 := (xW cI cZ cP ad pd S)) (Wd1 := (xW cI cZ cP ad pd S)) (o := some (.ref (pd k 0))) ⟨hx, hb, hml, hown, hts⟩ (c_X1_findPeer_ok l D cI cZ cP ad pd S k hn hk) (cwV 1 hts gX1_withdraw_X1_findPeer rfl rfl rfl (by decide +kernel) ⟨Nat.le_of_ble_eq_true rfl, Nat.le_of_ble_eq_true rfl⟩) hK hN hP hD hS (fun j => j) (fun _ _ h => h) (fun _ _ _ _ h => h) (xW_adr rfl) (fun k q h => Or.inl ⟨k, h⟩) 0 1 rfl rfl (xO _ _ _ _ _ _) rfl hl.1 rfl (Nat.le_of_ble_eq_true rfl) ⟨Nat.zero_le _, Nat.zero_le _⟩ dX1_withdraw_2 (fun H locs hP hD hS => ?_)
    refine lv_astore (lv' := [(4, .ref (pd k 0)), (0, .ref (ad 0)), (1, .int (nI k)), (2, .int t), (3, .int f)]) hx hb dX1_withdraw_5 hl (by decide) rfl (fun ls hl => ?_)
    refine lv_aload hx hb dX1_withdraw_7 (lv_at hl 0 rfl) ?_
    refine lv_ifnonnull (tgt := 14) hx hb dX1_withdraw_9 (by decide) ?_
    refine lv_iload_n hx hb dX1_withdraw_14 rfl (lv_at hl 3 rfl) ?_
    refine lv_iload_n hx hb dX1_withdraw_15 rfl (lv_at hl 4 rfl) ?_
    by_cases hr9 : okR t f
    · obtain ⟨a9, b9, ha9, hb9, rfl, rfl⟩ := okR_nat hr9
      have rxe : rx (nI a9) (nI b9) = 8 * a9 + b9 := rx_n (by omega) (by omega)
      have hr16 : 8 * a9 + b9 < 16 := by omega
      refine kS0 (As := [.int (nI a9), .int (nI b9)]) (rest := []) (o := some (.int (if okR (nI a9) (nI b9) then nI (rx (nI a9) (nI b9)) else -1))) ⟨hx, hb, hml, hown, hts⟩ (c_X1_routeOf l D cI cZ cP (nI a9) (nI b9)) (va_cwS 2 hts gX1_withdraw_X1_routeOf rfl rfl rfl (by decide +kernel) ⟨Nat.le_of_ble_eq_true rfl, Nat.le_of_ble_eq_true rfl⟩) hK hN hP hD hS rfl hl.1 rfl (Nat.le_of_ble_eq_true rfl) ⟨Nat.zero_le _, Nat.zero_le _⟩ dX1_withdraw_16 (fun H locs hP hD hS => ?_)
      refine k_top (y := nI (8 * a9 + b9)) (by rw [if_pos hr9, rxe]) ?_
      refine lv_istore (lv' := [(5, .int (nI (8 * a9 + b9))), (4, .ref (pd k 0)), (0, .ref (ad 0)), (1, .int (nI k)), (2, .int (nI a9)), (3, .int (nI b9))]) hx hb dX1_withdraw_19 hl (by decide) rfl (fun ls hl => ?_)
      refine lv_iload hx hb dX1_withdraw_21 (lv_at hl 0 rfl) ?_
      refine lv_if_ge (tgt := 29) hx hb dX1_withdraw_23 (by decide) (fun _ => ?_) (fun c_ => absurd (nI_pos' (by omega)) c_)
      refine lv_aload hx hb dX1_withdraw_29 (lv_at hl 1 rfl) ?_
      refine va_getN (D := D) (ci := 0) (v := .ref (pd k 1)) (C := RX0) (T := TX0) (N := 8) hx hb hts hi0 hown hK hP (4 + (4 * k + 0)) (yO _ _ _ _ _ _ (by omega)) rfl 1 (by decide) (va_Nw.use rfl (hN (.fieldLinkNest RX1 61 RX0 "offers" "[I" RX1) (List.mem_of_getElem? (i := 0) rfl))) (fun _ h9 => h9) (yV_1 _ _ _) dX1_withdraw_31 ?_
      refine lv_iload hx hb dX1_withdraw_34 (lv_at hl 0 rfl) ?_
      refine k_iald (k := 8 * a9 + b9) hx hb hK hP (4 + (4 * k + 1)) 0 (yG_Of _ _ _ _ _ _ (by omega)) rfl rfl (by omega) (by decide) dX1_withdraw_36 ?_
      refine lv_istore (lv' := [(6, .int ((g_Of S) k (8 * a9 + b9))), (5, .int (nI (8 * a9 + b9))), (4, .ref (pd k 0)), (0, .ref (ad 0)), (1, .int (nI k)), (2, .int (nI a9)), (3, .int (nI b9))]) hx hb dX1_withdraw_37 hl (by decide) rfl (fun ls hl => ?_)
      refine lv_iload hx hb dX1_withdraw_39 (lv_at hl 0 rfl) ?_
      refine lv_if_ne (tgt := 47) hx hb dX1_withdraw_41 (by decide) (fun c_41 => ?_) (fun c_41 => ?_)
      · refine lv_aload hx hb dX1_withdraw_47 (lv_at hl 2 rfl) ?_
        refine va_getN (D := D) (ci := 0) (v := .ref (pd k 1)) (C := RX0) (T := TX0) (N := 8) hx hb hts hi0 hown hK hP (4 + (4 * k + 0)) (yO _ _ _ _ _ _ (by omega)) rfl 1 (by decide) (va_Nw.use rfl (hN (.fieldLinkNest RX1 61 RX0 "offers" "[I" RX1) (List.mem_of_getElem? (i := 0) rfl))) (fun _ h9 => h9) (yV_1 _ _ _) dX1_withdraw_49 ?_
        refine lv_iload hx hb dX1_withdraw_52 (lv_at hl 1 rfl) ?_
        refine lv_iconst (v := 0) hx hb dX1_withdraw_54 (by decide) ?_
        refine k_iast (k := 8 * a9 + b9) hx hb hK hP hD hS (4 + (4 * k + 1)) 0 (yG_Of _ _ _ _ _ _ (by omega)) rfl rfl (by omega) (by decide) (W1 := (xW cI cZ cP ad pd (s_Of S (va_up (g_Of S) k (upd (g_Of S k) (8 * a9 + b9) 0))))) (yS_Of _ _ _ _ _ _ (by omega) _) dX1_withdraw_55 (fun H locs hP hD hS => ?_)
        refine lv_aload_n hx hb dX1_withdraw_56 rfl (lv_at hl 3 rfl) ?_
        refine lv_aload hx hb dX1_withdraw_57 (lv_at hl 2 rfl) ?_
        refine lv_iload hx hb dX1_withdraw_59 (lv_at hl 1 rfl) ?_
        refine kV (As := [.ref (pd k 0), .int (nI (8 * a9 + b9))]) (rest := []) (Wc := (xW cI cZ cP ad pd (s_Of S (va_up (g_Of S) k (upd (g_Of S k) (8 * a9 + b9) 0))))) (Wc1 := (xW cI cZ cP ad pd (u_Ofr S k (8 * a9 + b9) 0))) (Wd1 := (xW cI cZ cP ad pd (u_Ofr S k (8 * a9 + b9) 0))) (o := none) ⟨hx, hb, hml, hown, hts⟩ ((Ofr_e S k (8 * a9 + b9) 0 ▸ c_X1_selectAfterOffer l D cI cZ cP ad pd (s_Of S (va_up (g_Of S) k (upd (g_Of S k) (8 * a9 + b9) 0))) k (8 * a9 + b9) (by rw [gs_N_Of]; exact hn) (by rw [gs_N_Of]; exact hk) (by omega))) (cwV 2 hts gX1_withdraw_X1_selectAfterOffer rfl rfl rfl (by decide +kernel) ⟨Nat.le_of_ble_eq_true rfl, Nat.le_of_ble_eq_true rfl⟩) hK hN hP hD hS (fun j => j) (fun _ _ h => h) (fun _ _ _ _ h => h) (xW_adr ((Ofr_N _ _ _ _).trans (gs_N_Of _ _).symm)) (fun k q h => Or.inl ⟨k, h⟩) 0 1 rfl rfl (xO _ _ _ _ _ _) rfl hl.1 rfl (Nat.le_of_ble_eq_true rfl) ⟨Nat.zero_le _, Nat.zero_le _⟩ dX1_withdraw_61 (fun H locs hP hD hS => ?_)
        refine lv_iload hx hb dX1_withdraw_64 (lv_at hl 0 rfl) ?_
        exact k_iret hx hb hr hlk hP hS hAe (by rw [u_Wd, if_pos hp, if_pos hr9, kxe, rxe, if_neg c_41]) (by rw [u_Wd, if_pos hp, if_pos hr9, kxe, rxe, if_neg c_41]) dX1_withdraw_66
      · refine lv_bipush (v := -6) hx hb dX1_withdraw_44 (by decide) ?_
        exact k_iret hx hb hr hlk hP hS hAe (by rw [u_Wd, if_pos hp, if_pos hr9, kxe, rxe, if_pos c_41]) (by rw [u_Wd, if_pos hp, if_pos hr9, kxe, rxe, if_pos c_41]) dX1_withdraw_46
    · refine kS0 (As := [.int t, .int f]) (rest := []) (o := some (.int (if okR t f then nI (rx t f) else -1))) ⟨hx, hb, hml, hown, hts⟩ (c_X1_routeOf l D cI cZ cP t f) (va_cwS 2 hts gX1_withdraw_X1_routeOf rfl rfl rfl (by decide +kernel) ⟨Nat.le_of_ble_eq_true rfl, Nat.le_of_ble_eq_true rfl⟩) hK hN hP hD hS rfl hl.1 rfl (Nat.le_of_ble_eq_true rfl) ⟨Nat.zero_le _, Nat.zero_le _⟩ dX1_withdraw_16 (fun H locs hP hD hS => ?_)
      refine k_top (y := -1) (if_neg hr9) ?_
      refine lv_istore (lv' := [(5, .int (-1)), (4, .ref (pd k 0)), (0, .ref (ad 0)), (1, .int (nI k)), (2, .int t), (3, .int f)]) hx hb dX1_withdraw_19 hl (by decide) rfl (fun ls hl => ?_)
      refine lv_iload hx hb dX1_withdraw_21 (lv_at hl 0 rfl) ?_
      refine lv_if_ge (tgt := 29) hx hb dX1_withdraw_23 (by decide) (fun c_ => absurd c_ (by decide)) (fun _ => ?_)
      refine lv_bipush (v := -2) hx hb dX1_withdraw_26 (by decide) ?_
      exact k_iret hx hb hr hlk hP hS hAe (by rw [u_Wd, if_pos hp, if_neg hr9]) (by rw [u_Wd, if_pos hp, if_neg hr9]) dX1_withdraw_28
  · refine kV (As := [.int x]) (rest := []) (Wc := (xW cI cZ cP ad pd S)) (Wc1 := (xW cI cZ cP ad pd S)) (Wd1 := (xW cI cZ cP ad pd S)) (o := some (.null)) ⟨hx, hb, hml, hown, hts⟩ (c_X1_findPeer_no l D cI cZ cP ad pd S x hn hp) (cwV 1 hts gX1_withdraw_X1_findPeer rfl rfl rfl (by decide +kernel) ⟨Nat.le_of_ble_eq_true rfl, Nat.le_of_ble_eq_true rfl⟩) hK hN hP hD hS (fun j => j) (fun _ _ h => h) (fun _ _ _ _ h => h) (xW_adr rfl) (fun k q h => Or.inl ⟨k, h⟩) 0 1 rfl rfl (xO _ _ _ _ _ _) rfl hl.1 rfl (Nat.le_of_ble_eq_true rfl) ⟨Nat.zero_le _, Nat.zero_le _⟩ dX1_withdraw_2 (fun H locs hP hD hS => ?_)
    refine lv_astoreN (lv' := [(4, .null), (0, .ref (ad 0)), (1, .int x), (2, .int t), (3, .int f)]) hx hb dX1_withdraw_5 hl (by decide) rfl (fun ls hl => ?_)
    refine lv_aloadN hx hb dX1_withdraw_7 (lv_at hl 0 rfl) ?_
    refine lv_ifnonnullN hx hb dX1_withdraw_9 ?_
    refine lv_iconst (v := -1) hx hb dX1_withdraw_12 (by decide) ?_
    exact k_iret hx hb hr hlk hP hS hAe (by rw [u_Wd, if_neg hp]) (by rw [u_Wd, if_neg hp]) dX1_withdraw_13

set_option maxRecDepth 100000 in
set_option maxHeartbeats 4000000 in
theorem c_X1_restart (l : Launch) (D : va_G) (cI cZ cP : ClassId) (ad : Nat → Nat) (pd : Nat → Nat → Nat) (S : ST) (pv : Int32) (hn : g_N S ≤ 5) : MM l yX1_restart wsX1_restart ({ frames := 6, cells := 0, slots := 0, locals := 138 }) D (kTy cI cZ cP) [.ref (ad 0), .int pv] (xW cI cZ cP ad pd S) (some (.int (o_Rst S pv).1)) (xW cI cZ cP ad pd ((o_Rst S pv).2)) := by
  refine MM.ofW (cc := cX1_restart) (maxL := 7) (ret := (some .int)) (by decide) rfl (Nat.le_of_ble_eq_true rfl) ?_
  intro p e s m below meth c ls A hx hb hr hlk hml hts hown hK hN hP hD hS hAe hl
  have hown : s.vm.findClass RX1 = some m.cls := hown
  have hi1 : ∀ w ∈ wsX10, w ∈ wsX1_restart := fun w h => List.mem_cons_of_mem _ (List.mem_append_left _ (List.mem_append_right _ h))
  have hi0 : ∀ w ∈ wsX00, w ∈ wsX1_restart := fun w h => List.mem_cons_of_mem _ (List.mem_append_right _ h)
  have hl : lv_has ls 7 [(0, .ref (ad 0)), (1, .int pv)] := hl
  refine lv_iconst (v := 0) hx hb dX1_restart_0 (by decide) ?_
  refine lv_istore_n (lv' := [(2, .int 0), (0, .ref (ad 0)), (1, .int pv)]) hx hb dX1_restart_1 rfl hl (by decide) rfl (fun ls hl => ?_)
  refine lv_aload_n hx hb dX1_restart_2 rfl (lv_at hl 1 rfl) ?_
  refine va_get (D := D) (ci := 1) (v := .ref (ad 1)) (C := RX1) (T := TX1) (N := 9) hx hb hts hi1 hown hK hP 0 (xO _ _ _ _ _ _) rfl 0 (by decide) (hts (.fieldLink RX1 11 "GracefulRestart" "peers" "[LGracefulRestart$Peer;") (List.mem_of_getElem? (i := 1) rfl)) (fun _ h9 => h9) (xV_0 _ _) dX1_restart_3 ?_
  refine lv_astore_n (lv' := [(3, .ref (ad 1)), (2, .int 0), (0, .ref (ad 0)), (1, .int pv)]) hx hb dX1_restart_6 rfl hl (by decide) rfl (fun ls hl => ?_)
  refine lv_aload_n hx hb dX1_restart_7 rfl (lv_at hl 0 rfl) ?_
  refine va_alen (v := 5) hx hb hK hP 1 2 (xG_P _ _ _ _ _ _) rfl rfl dX1_restart_8 ?_
  refine lv_istore (lv' := [(4, .int 5), (3, .ref (ad 1)), (2, .int 0), (0, .ref (ad 0)), (1, .int pv)]) hx hb dX1_restart_9 hl (by decide) rfl (fun ls hl => ?_)
  refine lv_iconst (v := 0) hx hb dX1_restart_11 (by decide) ?_
  refine lv_istore (lv' := [(5, .int 0), (4, .int 5), (3, .ref (ad 1)), (2, .int 0), (0, .ref (ad 0)), (1, .int pv)]) hx hb dX1_restart_12 hl (by decide) rfl (fun ls hl => ?_)
  have lp14 : ∀ (n9 i : Nat), i + n9 = 5 → ∀ (H : Heap) (locs : List Loc) (ls : Array Slot), va_P D vwCl (xW cI cZ cP ad pd ((o_Rs S (min i (g_N S))).2)) H → va_D A (xW cI cZ cP ad pd ((o_Rs S (min i (g_N S))).2)) → va_S A s.heap H locs → lv_has ls 7 [(0, .ref (ad 0)), (1, .int pv), (2, .int ((o_Rs S (min i (g_N S))).1)), (3, .ref (ad 1)), (4, .int 5), (5, .int (nI i))] → W p l e (headSpec wsX1_restart ({ frames := 6, cells := 0, slots := 0, locals := 138 })).room s m ([.ref (ad 0), .int pv] : List Value).toArray below meth c H locs 0 0 (MQ below (kPost D (xW cI cZ cP ad pd S) (xW cI cZ cP ad pd ((o_Rst S pv).2)) (some (.int (o_Rst S pv).1))) ([.ref (ad 0), .int pv] : List Value).toArray s 0 0 (kA (xW cI cZ cP ad pd S))) (F0 m 14 ls []) := by
    intro n9
    induction n9 with
    | zero =>
      intro i hi9 H locs ls hP hD hS hl
      have hi8 : i = 5 := by omega
      subst hi8
      rw [show min 5 (g_N S) = g_N S by omega] at hl hP hD
      refine lv_iload hx hb dX1_restart_14 (lv_at hl 5 rfl) ?_
      refine lv_iload hx hb dX1_restart_16 (lv_at hl 4 rfl) ?_
      refine lv_icmp_ge (tgt := 64) hx hb dX1_restart_18 (by decide) (fun _ => ?_) (fun c_ => absurd (by decide) c_)
      refine lv_iload_n hx hb dX1_restart_64 rfl (lv_at hl 1 rfl) ?_
      refine lv_if_eq (tgt := 75) hx hb dX1_restart_65 (by decide) (fun c_65 => ?_) (fun c_65 => ?_)
      · refine lv_aload_n hx hb dX1_restart_75 rfl (lv_at hl 0 rfl) ?_
        refine kV (As := []) (rest := []) (Wc := (xW cI cZ cP ad pd ((o_Rs S (g_N S)).2))) (Wc1 := (xW cI cZ cP ad pd (s_Ho (o_Rs S (g_N S)).2 (kSet (-6) 16 (g_Ho (o_Rs S (g_N S)).2))))) (Wd1 := (xW cI cZ cP ad pd (s_Ho (o_Rs S (g_N S)).2 (kSet (-6) 16 (g_Ho (o_Rs S (g_N S)).2))))) (o := none) ⟨hx, hb, hml, hown, hts⟩ (c_X1_removeEntries l D cI cZ cP ad pd (o_Rs S (g_N S)).2) (cwV 0 hts gX1_restart_X1_removeEntries rfl rfl rfl (by decide +kernel) ⟨Nat.le_of_ble_eq_true rfl, Nat.le_of_ble_eq_true rfl⟩) hK hN hP hD hS (fun j => j) (fun _ _ h => h) (fun _ _ _ _ h => h) (xW_adr (gs_N_Ho _ _)) (fun k q h => Or.inl ⟨k, h⟩) 0 1 rfl rfl (xO _ _ _ _ _ _) rfl hl.1 rfl (Nat.le_of_ble_eq_true rfl) ⟨Nat.zero_le _, Nat.zero_le _⟩ dX1_restart_76 (fun H locs hP hD hS => ?_)
        rw [xW_FT0 cI cZ cP ad pd c_65] at hP hD
        refine lv_aload_n hx hb dX1_restart_79 rfl (lv_at hl 0 rfl) ?_
        refine lv_iconst (v := 1) hx hb dX1_restart_80 (by decide) ?_
        refine k_put (D := D) (ci := 1) (v := .int 1) (ty := .boolean) (C := RX1) (T := TX1) (N := 9) hx hb hts hi1 tyX1 tyX1_ok nmX1 hown hK hP hD hS 0 (xO _ _ _ _ _ _) rfl 7 (by decide) (hts (.fieldLink RX1 36 "GracefulRestart" "deferring" "Z") (List.mem_of_getElem? (i := 3) rfl)) (fun _ h9 => h9) rfl (by decide +kernel) rfl rfl (Nat.le_of_ble_eq_true rfl) (W1 := (xW cI cZ cP ad pd (s_Df (o_FT (o_Rs S (g_N S)).2 pv) 1))) (xP_Df _ _ _ _ _ _ _) dX1_restart_81 (fun H locs hP hD hS => ?_)
        refine lv_aload_n hx hb dX1_restart_84 rfl (lv_at hl 0 rfl) ?_
        refine lv_aload_n hx hb dX1_restart_85 rfl (lv_at hl 0 rfl) ?_
        refine va_get (D := D) (ci := 1) (v := .int (g_T3 (s_Df (o_FT (o_Rs S (g_N S)).2 pv) 1))) (C := RX1) (T := TX1) (N := 9) hx hb hts hi1 hown hK hP 0 (xO _ _ _ _ _ _) rfl 6 (by decide) (hts (.fieldLink RX1 33 "GracefulRestart" "deferralTime" "I") (List.mem_of_getElem? (i := 4) rfl)) (fun _ h9 => h9) (xV_T3 _ _) dX1_restart_86 ?_
        refine k_top (y := g_T3 S) ((gs_T3_Df _ _).trans ((o_FT_T3 _ _).trans (o_Rs_T3 _ _))) ?_
        refine k_put (D := D) (ci := 1) (v := .int (g_T3 S)) (ty := .int) (C := RX1) (T := TX1) (N := 9) hx hb hts hi1 tyX1 tyX1_ok nmX1 hown hK hP hD hS 0 (xO _ _ _ _ _ _) rfl 8 (by decide) (hts (.fieldLink RX1 40 "GracefulRestart" "deferralLeft" "I") (List.mem_of_getElem? (i := 5) rfl)) (fun _ h9 => h9) rfl (by decide +kernel) rfl rfl (Nat.le_of_ble_eq_true rfl) (W1 := (xW cI cZ cP ad pd (s_Dl (s_Df (o_FT (o_Rs S (g_N S)).2 pv) 1) (g_T3 S)))) (xP_Dl _ _ _ _ _ _ _) dX1_restart_89 (fun H locs hP hD hS => ?_)
        refine lv_aload_n hx hb dX1_restart_92 rfl (lv_at hl 0 rfl) ?_
        refine kV (As := []) (rest := []) (Wc := (xW cI cZ cP ad pd (s_Dl (s_Df (o_FT (o_Rs S (g_N S)).2 pv) 1) (g_T3 S)))) (Wc1 := (xW cI cZ cP ad pd (o_Chk (s_Dl (s_Df (o_FT (o_Rs S (g_N S)).2 pv) 1) (g_T3 S))))) (Wd1 := (xW cI cZ cP ad pd (o_Chk (s_Dl (s_Df (o_FT (o_Rs S (g_N S)).2 pv) 1) (g_T3 S))))) (o := none) ⟨hx, hb, hml, hown, hts⟩ (c_X1_checkDeferral l D cI cZ cP ad pd (s_Dl (s_Df (o_FT (o_Rs S (g_N S)).2 pv) 1) (g_T3 S)) (by rw [gs_N_Dl, gs_N_Df, o_FT_N, o_Rs_N]; exact hn)) (cwV 0 hts gX1_restart_X1_checkDeferral rfl rfl rfl (by decide +kernel) ⟨Nat.le_of_ble_eq_true rfl, Nat.le_of_ble_eq_true rfl⟩) hK hN hP hD hS (fun j => j) (fun _ _ h => h) (fun _ _ _ _ h => h) (xW_adr (o_Chk_N _)) (fun k q h => Or.inl ⟨k, h⟩) 0 1 rfl rfl (xO _ _ _ _ _ _) rfl hl.1 rfl (Nat.le_of_ble_eq_true rfl) ⟨Nat.zero_le _, Nat.zero_le _⟩ dX1_restart_93 (fun H locs hP hD hS => ?_)
        refine lv_iload_n hx hb dX1_restart_96 rfl (lv_at hl 2 rfl) ?_
        exact k_iret hx hb hr hlk hP hS hAe rfl (congrArg (xW cI cZ cP ad pd) (Rst_2 S pv)) dX1_restart_97
      · refine lv_aload_n hx hb dX1_restart_68 rfl (lv_at hl 0 rfl) ?_
        refine kV (As := []) (rest := []) (Wc := (xW cI cZ cP ad pd ((o_Rs S (g_N S)).2))) (Wc1 := (xW cI cZ cP ad pd (s_Hs (o_Rs S (g_N S)).2 (kSet 1 16 (g_Hs (o_Rs S (g_N S)).2))))) (Wd1 := (xW cI cZ cP ad pd (s_Hs (o_Rs S (g_N S)).2 (kSet 1 16 (g_Hs (o_Rs S (g_N S)).2))))) (o := none) ⟨hx, hb, hml, hown, hts⟩ (c_X1_makeEntriesStale l D cI cZ cP ad pd (o_Rs S (g_N S)).2) (cwV 0 hts gX1_restart_X1_makeEntriesStale rfl rfl rfl (by decide +kernel) ⟨Nat.le_of_ble_eq_true rfl, Nat.le_of_ble_eq_true rfl⟩) hK hN hP hD hS (fun j => j) (fun _ _ h => h) (fun _ _ _ _ h => h) (xW_adr (gs_N_Hs _ _)) (fun k q h => Or.inl ⟨k, h⟩) 0 1 rfl rfl (xO _ _ _ _ _ _) rfl hl.1 rfl (Nat.le_of_ble_eq_true rfl) ⟨Nat.zero_le _, Nat.zero_le _⟩ dX1_restart_69 (fun H locs hP hD hS => ?_)
        refine lv_goto (tgt := 79) hx hb dX1_restart_72 (by decide) ?_
        rw [xW_FT1 cI cZ cP ad pd c_65] at hP hD
        refine lv_aload_n hx hb dX1_restart_79 rfl (lv_at hl 0 rfl) ?_
        refine lv_iconst (v := 1) hx hb dX1_restart_80 (by decide) ?_
        refine k_put (D := D) (ci := 1) (v := .int 1) (ty := .boolean) (C := RX1) (T := TX1) (N := 9) hx hb hts hi1 tyX1 tyX1_ok nmX1 hown hK hP hD hS 0 (xO _ _ _ _ _ _) rfl 7 (by decide) (hts (.fieldLink RX1 36 "GracefulRestart" "deferring" "Z") (List.mem_of_getElem? (i := 3) rfl)) (fun _ h9 => h9) rfl (by decide +kernel) rfl rfl (Nat.le_of_ble_eq_true rfl) (W1 := (xW cI cZ cP ad pd (s_Df (o_FT (o_Rs S (g_N S)).2 pv) 1))) (xP_Df _ _ _ _ _ _ _) dX1_restart_81 (fun H locs hP hD hS => ?_)
        refine lv_aload_n hx hb dX1_restart_84 rfl (lv_at hl 0 rfl) ?_
        refine lv_aload_n hx hb dX1_restart_85 rfl (lv_at hl 0 rfl) ?_
        refine va_get (D := D) (ci := 1) (v := .int (g_T3 (s_Df (o_FT (o_Rs S (g_N S)).2 pv) 1))) (C := RX1) (T := TX1) (N := 9) hx hb hts hi1 hown hK hP 0 (xO _ _ _ _ _ _) rfl 6 (by decide) (hts (.fieldLink RX1 33 "GracefulRestart" "deferralTime" "I") (List.mem_of_getElem? (i := 4) rfl)) (fun _ h9 => h9) (xV_T3 _ _) dX1_restart_86 ?_
        refine k_top (y := g_T3 S) ((gs_T3_Df _ _).trans ((o_FT_T3 _ _).trans (o_Rs_T3 _ _))) ?_
        refine k_put (D := D) (ci := 1) (v := .int (g_T3 S)) (ty := .int) (C := RX1) (T := TX1) (N := 9) hx hb hts hi1 tyX1 tyX1_ok nmX1 hown hK hP hD hS 0 (xO _ _ _ _ _ _) rfl 8 (by decide) (hts (.fieldLink RX1 40 "GracefulRestart" "deferralLeft" "I") (List.mem_of_getElem? (i := 5) rfl)) (fun _ h9 => h9) rfl (by decide +kernel) rfl rfl (Nat.le_of_ble_eq_true rfl) (W1 := (xW cI cZ cP ad pd (s_Dl (s_Df (o_FT (o_Rs S (g_N S)).2 pv) 1) (g_T3 S)))) (xP_Dl _ _ _ _ _ _ _) dX1_restart_89 (fun H locs hP hD hS => ?_)
        refine lv_aload_n hx hb dX1_restart_92 rfl (lv_at hl 0 rfl) ?_
        refine kV (As := []) (rest := []) (Wc := (xW cI cZ cP ad pd (s_Dl (s_Df (o_FT (o_Rs S (g_N S)).2 pv) 1) (g_T3 S)))) (Wc1 := (xW cI cZ cP ad pd (o_Chk (s_Dl (s_Df (o_FT (o_Rs S (g_N S)).2 pv) 1) (g_T3 S))))) (Wd1 := (xW cI cZ cP ad pd (o_Chk (s_Dl (s_Df (o_FT (o_Rs S (g_N S)).2 pv) 1) (g_T3 S))))) (o := none) ⟨hx, hb, hml, hown, hts⟩ (c_X1_checkDeferral l D cI cZ cP ad pd (s_Dl (s_Df (o_FT (o_Rs S (g_N S)).2 pv) 1) (g_T3 S)) (by rw [gs_N_Dl, gs_N_Df, o_FT_N, o_Rs_N]; exact hn)) (cwV 0 hts gX1_restart_X1_checkDeferral rfl rfl rfl (by decide +kernel) ⟨Nat.le_of_ble_eq_true rfl, Nat.le_of_ble_eq_true rfl⟩) hK hN hP hD hS (fun j => j) (fun _ _ h => h) (fun _ _ _ _ h => h) (xW_adr (o_Chk_N _)) (fun k q h => Or.inl ⟨k, h⟩) 0 1 rfl rfl (xO _ _ _ _ _ _) rfl hl.1 rfl (Nat.le_of_ble_eq_true rfl) ⟨Nat.zero_le _, Nat.zero_le _⟩ dX1_restart_93 (fun H locs hP hD hS => ?_)
        refine lv_iload_n hx hb dX1_restart_96 rfl (lv_at hl 2 rfl) ?_
        exact k_iret hx hb hr hlk hP hS hAe rfl (congrArg (xW cI cZ cP ad pd) (Rst_2 S pv)) dX1_restart_97
    | succ n9 ih =>
      intro i hi9 H locs ls hP hD hS hl
      have hlt : i < 5 := by omega
      refine lv_iload hx hb dX1_restart_14 (lv_at hl 5 rfl) ?_
      refine lv_iload hx hb dX1_restart_16 (lv_at hl 4 rfl) ?_
      refine lv_icmp_ge (tgt := 64) hx hb dX1_restart_18 (by decide) (fun c_ => absurd c_ (nI_ge (a := i) (b := 5) hlt (by decide))) (fun _ => ?_)
      refine lv_aload_n hx hb dX1_restart_21 rfl (lv_at hl 3 rfl) ?_
      refine lv_iload hx hb dX1_restart_22 (lv_at hl 5 rfl) ?_
      by_cases hin : i < g_N S
      · have hmi : min i (g_N S) = i := by omega
        rw [hmi] at hP hD
        rw [hmi] at hl
        refine k_aald (k := i) (v := .ref (pd i 0)) hx hb hK hP 1 2 (xG_P _ _ _ _ _ _) rfl rfl (by omega) (by decide) (xR_in (by rw [show g_N ((o_Rs S i).2) = g_N S from (o_Rs_N _ _)]; omega)) dX1_restart_24 ?_
        refine lv_astore (lv' := [(6, .ref (pd i 0)), (0, .ref (ad 0)), (1, .int pv), (2, .int ((o_Rs S i).1)), (3, .ref (ad 1)), (4, .int 5), (5, .int (nI i))]) hx hb dX1_restart_25 hl (by decide) rfl (fun ls hl => ?_)
        refine lv_aload hx hb dX1_restart_27 (lv_at hl 0 rfl) ?_
        refine lv_ifnull hx hb dX1_restart_29 ?_
        refine lv_aload hx hb dX1_restart_32 (lv_at hl 0 rfl) ?_
        refine lv_iconst (v := 0) hx hb dX1_restart_34 (by decide) ?_
        refine k_putN (D := D) (ci := 0) (v := .int 0) (ty := .int) (C := RX0) (T := TX0) (N := 8) hx hb hts hi0 tyX0 tyX0_ok nmX0 hown hK hP hD hS (4 + (4 * i + 0)) (yO _ _ _ _ _ _ (by rw [show g_N ((o_Rs S i).2) = g_N S from (o_Rs_N _ _)]; omega)) rfl 7 (by decide) (va_Nw.use rfl (hN (.fieldLinkNest RX1 68 RX0 "marks" "I" RX1) (List.mem_of_getElem? (i := 6) rfl))) (fun _ h9 => h9) rfl (by decide +kernel) rfl rfl (Nat.le_of_ble_eq_true rfl) (W1 := (xW cI cZ cP ad pd (o_Hm0 (o_Rs S i).2 i))) ((yP_Hm _ _ _ _ _ _ (by rw [show g_N ((o_Rs S i).2) = g_N S from (o_Rs_N _ _)]; omega) _ (mk_00 _)).trans (congrArg (xW cI cZ cP ad pd) (Hm0_e _ _))) dX1_restart_35 (fun H locs hP hD hS => ?_)
        refine lv_aload hx hb dX1_restart_38 (lv_at hl 0 rfl) ?_
        refine va_getN (D := D) (ci := 0) (v := .int ((g_St (o_Hm0 (o_Rs S i).2 i)) i)) (C := RX0) (T := TX0) (N := 8) hx hb hts hi0 hown hK hP (4 + (4 * i + 0)) (yO _ _ _ _ _ _ (by rw [show g_N (o_Hm0 (o_Rs S i).2 i) = g_N S from ((o_Hm0_N _ _).trans (o_Rs_N _ _))]; omega)) rfl 4 (by decide) (va_Nw.use rfl (hN (.fieldLinkNest RX1 71 RX0 "state" "I" RX1) (List.mem_of_getElem? (i := 3) rfl))) (fun _ h9 => h9) (yV_4 _ _ _) dX1_restart_40 ?_
        refine k_top (y := (g_St (o_Rs S i).2) i) (congrFun (o_Hm0_St _ _) i) ?_
        refine lv_if_ne (tgt := 58) hx hb dX1_restart_43 (by decide) (fun c_43 => ?_) (fun c_43 => ?_)
        · refine lv_iinc (v := nI (i + 1)) (lv' := [(5, .int (nI (i + 1))), (6, .ref (pd i 0)), (0, .ref (ad 0)), (1, .int pv), (2, .int ((o_Rs S i).1)), (3, .ref (ad 1)), (4, .int 5)]) hx hb dX1_restart_58 hl (k := 6) rfl (nI_1 i) (by decide) rfl (fun ls hl => ?_)
          refine lv_goto (tgt := 14) hx hb dX1_restart_61 (by decide) ?_
          rw [Rs_f2 c_43] at hP hD
          exact ih (i + 1) (by omega) _ _ ls (by rw [show min (i + 1) (g_N S) = i + 1 by omega]; exact hP) (by rw [show min (i + 1) (g_N S) = i + 1 by omega]; exact hD) hS (lv_cv (lv_sub hl [2, 3, 4, 5, 6, 0] rfl) (by rw [show min (i + 1) (g_N S) = i + 1 by omega, ← Rs_f1 c_43]; rfl))
        · refine lv_aload hx hb dX1_restart_46 (lv_at hl 0 rfl) ?_
          refine lv_aload_n hx hb dX1_restart_48 rfl (lv_at hl 1 rfl) ?_
          refine va_get (D := D) (ci := 1) (v := .int (g_T1 (o_Hm0 (o_Rs S i).2 i))) (C := RX1) (T := TX1) (N := 9) hx hb hts hi1 hown hK hP 0 (xO _ _ _ _ _ _) rfl 4 (by decide) (hts (.fieldLink RX1 27 "GracefulRestart" "restartTime" "I") (List.mem_of_getElem? (i := 2) rfl)) (fun _ h9 => h9) (xV_T1 _ _) dX1_restart_49 ?_
          refine kVN (As := [.int (g_T1 (o_Hm0 (o_Rs S i).2 i))]) (rest := []) (Wc := (xB cI cZ pd (o_Hm0 (o_Rs S i).2 i) i)) (Wc1 := (xB cI cZ pd (o_Lose (o_Hm0 (o_Rs S i).2 i) i) i)) (Wd1 := (xW cI cZ cP ad pd (o_Lose (o_Hm0 (o_Rs S i).2 i) i))) (o := none) ⟨hx, hb, hml, hown, hts⟩ (s_X0_loseRouter l D cI cZ cP pd (o_Hm0 (o_Rs S i).2 i) i ) ⟨va_cnB 1 hts gX1_restart_X0_loseRouter_n74 rfl rfl rfl (hN (.methodLinkNest RX1 74 yX0_loseRouter RX1) (List.mem_of_getElem? (i := 11) rfl)) (hts (.initialized RX0) (List.mem_of_getElem? (i := 7) rfl)) (by decide +kernel) ⟨Nat.le_of_ble_eq_true rfl, Nat.le_of_ble_eq_true rfl⟩, (hts (.instanceMethod yX0_loseRouter) (List.mem_of_getElem? (i := 6) rfl)), (hts (.selects RX0 yX0_loseRouter yX0_loseRouter) (List.mem_of_getElem? (i := 8) rfl))⟩ hK hN hP hD hS (fun j => 4 + (4 * i + j)) (fun j7 q7 h7 => y_hf (by rw [show g_N (o_Hm0 (o_Rs S i).2 i) = g_N S from ((o_Hm0_N _ _).trans (o_Rs_N _ _))]; omega) j7 q7 h7) (y_inj i) (xW_adr (one_Lose (cI := cI) (cZ := cZ) (pd := pd) (o_Hm0 (o_Rs S i).2 i) i).1) (fun i7 q7 h7 => xW_new (one_Lose (cI := cI) (cZ := cZ) (pd := pd) (o_Hm0 (o_Rs S i).2 i) i) i7 q7 h7) (4 + (4 * i + 0)) 0 rfl rfl (yO _ _ _ _ _ _ (by rw [show g_N (o_Hm0 (o_Rs S i).2 i) = g_N S from ((o_Hm0_N _ _).trans (o_Rs_N _ _))]; omega)) rfl hl.1 rfl (Nat.le_of_ble_eq_true rfl) ⟨Nat.zero_le _, Nat.zero_le _⟩ dX1_restart_52 (fun H locs hP hD hS => ?_)
          refine lv_iinc (v := (o_Rs S (i + 1)).1) (lv' := [(2, .int ((o_Rs S (i + 1)).1)), (6, .ref (pd i 0)), (0, .ref (ad 0)), (1, .int pv), (3, .ref (ad 1)), (4, .int 5), (5, .int (nI i))]) hx hb dX1_restart_55 hl (k := 3) rfl (Rs_t1 c_43) (by decide) rfl (fun ls hl => ?_)
          refine lv_iinc (v := nI (i + 1)) (lv' := [(5, .int (nI (i + 1))), (2, .int ((o_Rs S (i + 1)).1)), (6, .ref (pd i 0)), (0, .ref (ad 0)), (1, .int pv), (3, .ref (ad 1)), (4, .int 5)]) hx hb dX1_restart_58 hl (k := 6) rfl (nI_1 i) (by decide) rfl (fun ls hl => ?_)
          refine lv_goto (tgt := 14) hx hb dX1_restart_61 (by decide) ?_
          rw [Rs_t2 c_43] at hP hD
          exact ih (i + 1) (by omega) _ _ ls (by rw [show min (i + 1) (g_N S) = i + 1 by omega]; exact hP) (by rw [show min (i + 1) (g_N S) = i + 1 by omega]; exact hD) hS (lv_cv (lv_sub hl [3, 4, 1, 5, 6, 0] rfl) (by rw [show min (i + 1) (g_N S) = i + 1 by omega]; rfl))
      · refine k_aald (k := i) (v := .null) hx hb hK hP 1 2 (xG_P _ _ _ _ _ _) rfl rfl (by omega) (by decide) (xR_out (by rw [show g_N ((o_Rs S (min i (g_N S))).2) = g_N S from (o_Rs_N _ _)]; omega)) dX1_restart_24 ?_
        refine lv_astoreN (lv' := [(6, .null), (0, .ref (ad 0)), (1, .int pv), (2, .int ((o_Rs S (min i (g_N S))).1)), (3, .ref (ad 1)), (4, .int 5), (5, .int (nI i))]) hx hb dX1_restart_25 hl (by decide) rfl (fun ls hl => ?_)
        refine lv_aloadN hx hb dX1_restart_27 (lv_at hl 0 rfl) ?_
        refine lv_ifnullN (tgt := 58) hx hb dX1_restart_29 (by decide) ?_
        refine lv_iinc (v := nI (i + 1)) (lv' := [(5, .int (nI (i + 1))), (6, .null), (0, .ref (ad 0)), (1, .int pv), (2, .int ((o_Rs S (min i (g_N S))).1)), (3, .ref (ad 1)), (4, .int 5)]) hx hb dX1_restart_58 hl (k := 6) rfl (nI_1 i) (by decide) rfl (fun ls hl => ?_)
        refine lv_goto (tgt := 14) hx hb dX1_restart_61 (by decide) ?_
        exact ih (i + 1) (by omega) _ _ ls (by rw [show min (i + 1) (g_N S) = min i (g_N S) by omega]; exact hP) (by rw [show min (i + 1) (g_N S) = min i (g_N S) by omega]; exact hD) hS (lv_cv (lv_sub hl [2, 3, 4, 5, 6, 0] rfl) (by rw [show min (i + 1) (g_N S) = min i (g_N S) by omega]; rfl))
  exact lp14 5 0 (by omega) _ _ ls (by rw [Nat.zero_min, Rs_0]; exact hP) (by rw [Nat.zero_min, Rs_0]; exact hD) hS (lv_cv (lv_sub hl [4, 5, 3, 2, 1, 0] rfl) (by rw [Nat.zero_min]; rfl))

set_option maxRecDepth 100000 in
set_option maxHeartbeats 4000000 in
theorem c_X1_reconnect (l : Launch) (D : va_G) (cI cZ cP : ClassId) (ad : Nat → Nat) (pd : Nat → Nat → Nat) (S : ST) (x : Int32) (hn : g_N S ≤ 5) : MM l yX1_reconnect wsX1_reconnect ({ frames := 6, cells := 0, slots := 0, locals := 138 }) D (kTy cI cZ cP) [.ref (ad 0), .int x] (xW cI cZ cP ad pd S) (some (.int (u_Rec S x).1)) (xW cI cZ cP ad pd ((u_Rec S x).2)) := by
  refine MM.ofW (cc := cX1_reconnect) (maxL := 3) (ret := (some .int)) (by decide) rfl (Nat.le_of_ble_eq_true rfl) ?_
  intro p e s m below meth c ls A hx hb hr hlk hml hts hown hK hN hP hD hS hAe hl
  have hown : s.vm.findClass RX1 = some m.cls := hown
  have hi0 : ∀ w ∈ wsX00, w ∈ wsX1_reconnect := fun w h => List.mem_cons_of_mem _ (List.mem_append_left _ (List.mem_append_right _ h))
  have hi1 : ∀ w ∈ wsX10, w ∈ wsX1_reconnect := fun w h => List.mem_cons_of_mem _ (List.mem_append_right _ h)
  have hl : lv_has ls 3 [(0, .ref (ad 0)), (1, .int x)] := hl
  refine lv_aload_n hx hb dX1_reconnect_0 rfl (lv_at hl 0 rfl) ?_
  refine lv_iload_n hx hb dX1_reconnect_1 rfl (lv_at hl 1 rfl) ?_
  by_cases hp : okP (g_N S) x
  · obtain ⟨k, hk, rfl⟩ := okP_nat hn hp
    have hk5 : k < 5 := by omega
    have kxe : kx (nI k) = k := kx_n (by omega)
    refine kV (As := [.int (nI k)]) (rest := []) (Wc := (xW cI cZ cP ad pd S)) (Wc1 := (xW cI cZ cP ad pd S)) (Wd1 := (xW cI cZ cP ad pd S)) (o := some (.ref (pd k 0))) ⟨hx, hb, hml, hown, hts⟩ (c_X1_findPeer_ok l D cI cZ cP ad pd S k hn hk) (cwV 1 hts gX1_reconnect_X1_findPeer rfl rfl rfl (by decide +kernel) ⟨Nat.le_of_ble_eq_true rfl, Nat.le_of_ble_eq_true rfl⟩) hK hN hP hD hS (fun j => j) (fun _ _ h => h) (fun _ _ _ _ h => h) (xW_adr rfl) (fun k q h => Or.inl ⟨k, h⟩) 0 1 rfl rfl (xO _ _ _ _ _ _) rfl hl.1 rfl (Nat.le_of_ble_eq_true rfl) ⟨Nat.zero_le _, Nat.zero_le _⟩ dX1_reconnect_2 (fun H locs hP hD hS => ?_)
    refine lv_astore_n (lv' := [(2, .ref (pd k 0)), (0, .ref (ad 0)), (1, .int (nI k))]) hx hb dX1_reconnect_5 rfl hl (by decide) rfl (fun ls hl => ?_)
    refine lv_aload_n hx hb dX1_reconnect_6 rfl (lv_at hl 0 rfl) ?_
    refine lv_ifnonnull (tgt := 12) hx hb dX1_reconnect_7 (by decide) ?_
    refine lv_aload_n hx hb dX1_reconnect_12 rfl (lv_at hl 0 rfl) ?_
    refine va_getN (D := D) (ci := 0) (v := .int ((g_St S) k)) (C := RX0) (T := TX0) (N := 8) hx hb hts hi0 hown hK hP (4 + (4 * k + 0)) (yO _ _ _ _ _ _ (by omega)) rfl 4 (by decide) (va_Nw.use rfl (hN (.fieldLinkNest RX1 71 RX0 "state" "I" RX1) (List.mem_of_getElem? (i := 3) rfl))) (fun _ h9 => h9) (yV_4 _ _ _) dX1_reconnect_13 ?_
    refine lv_if_ne (tgt := 22) hx hb dX1_reconnect_16 (by decide) (fun c_16 => ?_) (fun c_16 => ?_)
    · refine lv_aload_n hx hb dX1_reconnect_22 rfl (lv_at hl 0 rfl) ?_
      refine lv_aload_n hx hb dX1_reconnect_23 rfl (lv_at hl 1 rfl) ?_
      refine va_get (D := D) (ci := 1) (v := .int (g_T2 S)) (C := RX1) (T := TX1) (N := 9) hx hb hts hi1 hown hK hP 0 (xO _ _ _ _ _ _) rfl 5 (by decide) (hts (.fieldLink RX1 30 "GracefulRestart" "staleTime" "I") (List.mem_of_getElem? (i := 1) rfl)) (fun _ h9 => h9) (xV_T2 _ _) dX1_reconnect_24 ?_
      refine kVN (As := [.int (g_T2 S)]) (rest := []) (Wc := (xB cI cZ pd S k)) (Wc1 := (xB cI cZ pd (o_Meet S k) k)) (Wd1 := (xW cI cZ cP ad pd (o_Meet S k))) (o := none) ⟨hx, hb, hml, hown, hts⟩ (s_X0_meetRouter l D cI cZ cP pd S k ) ⟨va_cnB 1 hts gX1_reconnect_X0_meetRouter_n87 rfl rfl rfl (hN (.methodLinkNest RX1 87 yX0_meetRouter RX1) (List.mem_of_getElem? (i := 14) rfl)) (hts (.initialized RX0) (List.mem_of_getElem? (i := 10) rfl)) (by decide +kernel) ⟨Nat.le_of_ble_eq_true rfl, Nat.le_of_ble_eq_true rfl⟩, (hts (.instanceMethod yX0_meetRouter) (List.mem_of_getElem? (i := 9) rfl)), (hts (.selects RX0 yX0_meetRouter yX0_meetRouter) (List.mem_of_getElem? (i := 11) rfl))⟩ hK hN hP hD hS (fun j => 4 + (4 * k + j)) (fun j7 q7 h7 => y_hf (by omega) j7 q7 h7) (y_inj k) (xW_adr (one_Meet (cI := cI) (cZ := cZ) (pd := pd) S k).1) (fun i7 q7 h7 => xW_new (one_Meet (cI := cI) (cZ := cZ) (pd := pd) S k) i7 q7 h7) (4 + (4 * k + 0)) 0 rfl rfl (yO _ _ _ _ _ _ (by omega)) rfl hl.1 rfl (Nat.le_of_ble_eq_true rfl) ⟨Nat.zero_le _, Nat.zero_le _⟩ dX1_reconnect_27 (fun H locs hP hD hS => ?_)
      refine lv_aload_n hx hb dX1_reconnect_30 rfl (lv_at hl 1 rfl) ?_
      refine va_get (D := D) (ci := 1) (v := .int (g_Df (o_Meet S k))) (C := RX1) (T := TX1) (N := 9) hx hb hts hi1 hown hK hP 0 (xO _ _ _ _ _ _) rfl 7 (by decide) (hts (.fieldLink RX1 36 "GracefulRestart" "deferring" "Z") (List.mem_of_getElem? (i := 2) rfl)) (fun _ h9 => h9) (xV_Df _ _) dX1_reconnect_31 ?_
      refine k_top (y := g_Df S) (o_Meet_Df _ _) ?_
      refine lv_if_ne (tgt := 45) hx hb dX1_reconnect_34 (by decide) (fun c_34 => ?_) (fun c_34 => ?_)
      · rw [Rc1_t c_34] at hP hD
        refine lv_aload_n hx hb dX1_reconnect_45 rfl (lv_at hl 1 rfl) ?_
        refine kV (As := []) (rest := []) (Wc := (xW cI cZ cP ad pd (u_Rc1 S k))) (Wc1 := (xW cI cZ cP ad pd (o_Chk (u_Rc1 S k)))) (Wd1 := (xW cI cZ cP ad pd (o_Chk (u_Rc1 S k)))) (o := none) ⟨hx, hb, hml, hown, hts⟩ (c_X1_checkDeferral l D cI cZ cP ad pd (u_Rc1 S k) (by rw [Rc1_N]; exact hn)) (cwV 0 hts gX1_reconnect_X1_checkDeferral rfl rfl rfl (by decide +kernel) ⟨Nat.le_of_ble_eq_true rfl, Nat.le_of_ble_eq_true rfl⟩) hK hN hP hD hS (fun j => j) (fun _ _ h => h) (fun _ _ _ _ h => h) (xW_adr (o_Chk_N _)) (fun k q h => Or.inl ⟨k, h⟩) 0 1 rfl rfl (xO _ _ _ _ _ _) rfl hl.1 rfl (Nat.le_of_ble_eq_true rfl) ⟨Nat.zero_le _, Nat.zero_le _⟩ dX1_reconnect_46 (fun H locs hP hD hS => ?_)
        refine lv_aload_n hx hb dX1_reconnect_49 rfl (lv_at hl 0 rfl) ?_
        refine kVN (As := []) (rest := []) (Wc := (xB cI cZ pd (o_Chk (u_Rc1 S k)) k)) (Wc1 := (xB cI cZ pd (o_Chk (u_Rc1 S k)) k)) (Wd1 := (xW cI cZ cP ad pd (o_Chk (u_Rc1 S k)))) (o := some (.int (kCnt (pz (g_Of (o_Chk (u_Rc1 S k)) k)) 16))) ⟨hx, hb, hml, hown, hts⟩ (s_X0_countOffers l D cI cZ cP pd (o_Chk (u_Rc1 S k)) k ) ⟨va_cnB 0 hts gX1_reconnect_X0_countOffers_n93 rfl rfl rfl (hN (.methodLinkNest RX1 93 yX0_countOffers RX1) (List.mem_of_getElem? (i := 15) rfl)) (hts (.initialized RX0) (List.mem_of_getElem? (i := 10) rfl)) (by decide +kernel) ⟨Nat.le_of_ble_eq_true rfl, Nat.le_of_ble_eq_true rfl⟩, (hts (.instanceMethod yX0_countOffers) (List.mem_of_getElem? (i := 67) rfl)), (hts (.selects RX0 yX0_countOffers yX0_countOffers) (List.mem_of_getElem? (i := 68) rfl))⟩ hK hN hP hD hS (fun j => 4 + (4 * k + j)) (fun j7 q7 h7 => y_hf (by rw [show g_N (o_Chk (u_Rc1 S k)) = g_N S from ((o_Chk_N _).trans (Rc1_N _ _))]; omega) j7 q7 h7) (y_inj k) (xW_adr (one_rf (cI := cI) (cZ := cZ) (pd := pd) (o_Chk (u_Rc1 S k)) k).1) (fun i7 q7 h7 => xW_new (one_rf (cI := cI) (cZ := cZ) (pd := pd) (o_Chk (u_Rc1 S k)) k) i7 q7 h7) (4 + (4 * k + 0)) 0 rfl rfl (yO _ _ _ _ _ _ (by rw [show g_N (o_Chk (u_Rc1 S k)) = g_N S from ((o_Chk_N _).trans (Rc1_N _ _))]; omega)) rfl hl.1 rfl (Nat.le_of_ble_eq_true rfl) ⟨Nat.zero_le _, Nat.zero_le _⟩ dX1_reconnect_50 (fun H locs hP hD hS => ?_)
        exact k_iret hx hb hr hlk hP hS hAe (by rw [u_Rec, if_pos hp, kxe, if_neg c_16]; rw [o_Chk_Of, Rc1_Of]) (by rw [u_Rec, if_pos hp, kxe, if_neg c_16]) dX1_reconnect_53
      · refine lv_aload_n hx hb dX1_reconnect_37 rfl (lv_at hl 1 rfl) ?_
        refine kV (As := []) (rest := []) (Wc := (xW cI cZ cP ad pd (o_Meet S k))) (Wc1 := (xW cI cZ cP ad pd (o_SA (o_Meet S k) 16))) (Wd1 := (xW cI cZ cP ad pd (o_SA (o_Meet S k) 16))) (o := none) ⟨hx, hb, hml, hown, hts⟩ (c_X1_selectAll l D cI cZ cP ad pd (o_Meet S k) (by rw [o_Meet_N]; exact hn)) (cwV 0 hts gX1_reconnect_X1_selectAll rfl rfl rfl (by decide +kernel) ⟨Nat.le_of_ble_eq_true rfl, Nat.le_of_ble_eq_true rfl⟩) hK hN hP hD hS (fun j => j) (fun _ _ h => h) (fun _ _ _ _ h => h) (xW_adr (o_SA_N _ _)) (fun k q h => Or.inl ⟨k, h⟩) 0 1 rfl rfl (xO _ _ _ _ _ _) rfl hl.1 rfl (Nat.le_of_ble_eq_true rfl) ⟨Nat.zero_le _, Nat.zero_le _⟩ dX1_reconnect_38 (fun H locs hP hD hS => ?_)
        refine lv_aload_n hx hb dX1_reconnect_41 rfl (lv_at hl 0 rfl) ?_
        refine kVN (As := []) (rest := []) (Wc := (xB cI cZ pd (o_SA (o_Meet S k) 16) k)) (Wc1 := (xB cI cZ pd (o_ERes (o_SA (o_Meet S k) 16) k) k)) (Wd1 := (xW cI cZ cP ad pd (o_ERes (o_SA (o_Meet S k) 16) k))) (o := none) ⟨hx, hb, hml, hown, hts⟩ (s_X0_endResync l D cI cZ cP pd (o_SA (o_Meet S k) 16) k ) ⟨va_cnB 0 hts gX1_reconnect_X0_endResync_n90 rfl rfl rfl (hN (.methodLinkNest RX1 90 yX0_endResync RX1) (List.mem_of_getElem? (i := 13) rfl)) (hts (.initialized RX0) (List.mem_of_getElem? (i := 10) rfl)) (by decide +kernel) ⟨Nat.le_of_ble_eq_true rfl, Nat.le_of_ble_eq_true rfl⟩, (hts (.instanceMethod yX0_endResync) (List.mem_of_getElem? (i := 42) rfl)), (hts (.selects RX0 yX0_endResync yX0_endResync) (List.mem_of_getElem? (i := 43) rfl))⟩ hK hN hP hD hS (fun j => 4 + (4 * k + j)) (fun j7 q7 h7 => y_hf (by rw [show g_N (o_SA (o_Meet S k) 16) = g_N S from ((o_SA_N _ _).trans (o_Meet_N _ _))]; omega) j7 q7 h7) (y_inj k) (xW_adr (one_ERes (cI := cI) (cZ := cZ) (pd := pd) (o_SA (o_Meet S k) 16) k).1) (fun i7 q7 h7 => xW_new (one_ERes (cI := cI) (cZ := cZ) (pd := pd) (o_SA (o_Meet S k) 16) k) i7 q7 h7) (4 + (4 * k + 0)) 0 rfl rfl (yO _ _ _ _ _ _ (by rw [show g_N (o_SA (o_Meet S k) 16) = g_N S from ((o_SA_N _ _).trans (o_Meet_N _ _))]; omega)) rfl hl.1 rfl (Nat.le_of_ble_eq_true rfl) ⟨Nat.zero_le _, Nat.zero_le _⟩ dX1_reconnect_42 (fun H locs hP hD hS => ?_)
        rw [Rc1_f c_34] at hP hD
        refine lv_aload_n hx hb dX1_reconnect_45 rfl (lv_at hl 1 rfl) ?_
        refine kV (As := []) (rest := []) (Wc := (xW cI cZ cP ad pd (u_Rc1 S k))) (Wc1 := (xW cI cZ cP ad pd (o_Chk (u_Rc1 S k)))) (Wd1 := (xW cI cZ cP ad pd (o_Chk (u_Rc1 S k)))) (o := none) ⟨hx, hb, hml, hown, hts⟩ (c_X1_checkDeferral l D cI cZ cP ad pd (u_Rc1 S k) (by rw [Rc1_N]; exact hn)) (cwV 0 hts gX1_reconnect_X1_checkDeferral rfl rfl rfl (by decide +kernel) ⟨Nat.le_of_ble_eq_true rfl, Nat.le_of_ble_eq_true rfl⟩) hK hN hP hD hS (fun j => j) (fun _ _ h => h) (fun _ _ _ _ h => h) (xW_adr (o_Chk_N _)) (fun k q h => Or.inl ⟨k, h⟩) 0 1 rfl rfl (xO _ _ _ _ _ _) rfl hl.1 rfl (Nat.le_of_ble_eq_true rfl) ⟨Nat.zero_le _, Nat.zero_le _⟩ dX1_reconnect_46 (fun H locs hP hD hS => ?_)
        refine lv_aload_n hx hb dX1_reconnect_49 rfl (lv_at hl 0 rfl) ?_
        refine kVN (As := []) (rest := []) (Wc := (xB cI cZ pd (o_Chk (u_Rc1 S k)) k)) (Wc1 := (xB cI cZ pd (o_Chk (u_Rc1 S k)) k)) (Wd1 := (xW cI cZ cP ad pd (o_Chk (u_Rc1 S k)))) (o := some (.int (kCnt (pz (g_Of (o_Chk (u_Rc1 S k)) k)) 16))) ⟨hx, hb, hml, hown, hts⟩ (s_X0_countOffers l D cI cZ cP pd (o_Chk (u_Rc1 S k)) k ) ⟨va_cnB 0 hts gX1_reconnect_X0_countOffers_n93 rfl rfl rfl (hN (.methodLinkNest RX1 93 yX0_countOffers RX1) (List.mem_of_getElem? (i := 15) rfl)) (hts (.initialized RX0) (List.mem_of_getElem? (i := 10) rfl)) (by decide +kernel) ⟨Nat.le_of_ble_eq_true rfl, Nat.le_of_ble_eq_true rfl⟩, (hts (.instanceMethod yX0_countOffers) (List.mem_of_getElem? (i := 67) rfl)), (hts (.selects RX0 yX0_countOffers yX0_countOffers) (List.mem_of_getElem? (i := 68) rfl))⟩ hK hN hP hD hS (fun j => 4 + (4 * k + j)) (fun j7 q7 h7 => y_hf (by rw [show g_N (o_Chk (u_Rc1 S k)) = g_N S from ((o_Chk_N _).trans (Rc1_N _ _))]; omega) j7 q7 h7) (y_inj k) (xW_adr (one_rf (cI := cI) (cZ := cZ) (pd := pd) (o_Chk (u_Rc1 S k)) k).1) (fun i7 q7 h7 => xW_new (one_rf (cI := cI) (cZ := cZ) (pd := pd) (o_Chk (u_Rc1 S k)) k) i7 q7 h7) (4 + (4 * k + 0)) 0 rfl rfl (yO _ _ _ _ _ _ (by rw [show g_N (o_Chk (u_Rc1 S k)) = g_N S from ((o_Chk_N _).trans (Rc1_N _ _))]; omega)) rfl hl.1 rfl (Nat.le_of_ble_eq_true rfl) ⟨Nat.zero_le _, Nat.zero_le _⟩ dX1_reconnect_50 (fun H locs hP hD hS => ?_)
        exact k_iret hx hb hr hlk hP hS hAe (by rw [u_Rec, if_pos hp, kxe, if_neg c_16]; rw [o_Chk_Of, Rc1_Of]) (by rw [u_Rec, if_pos hp, kxe, if_neg c_16]) dX1_reconnect_53
    · refine lv_bipush (v := -4) hx hb dX1_reconnect_19 (by decide) ?_
      exact k_iret hx hb hr hlk hP hS hAe (by rw [u_Rec, if_pos hp, kxe, if_pos c_16]) (by rw [u_Rec, if_pos hp, kxe, if_pos c_16]) dX1_reconnect_21
  · refine kV (As := [.int x]) (rest := []) (Wc := (xW cI cZ cP ad pd S)) (Wc1 := (xW cI cZ cP ad pd S)) (Wd1 := (xW cI cZ cP ad pd S)) (o := some (.null)) ⟨hx, hb, hml, hown, hts⟩ (c_X1_findPeer_no l D cI cZ cP ad pd S x hn hp) (cwV 1 hts gX1_reconnect_X1_findPeer rfl rfl rfl (by decide +kernel) ⟨Nat.le_of_ble_eq_true rfl, Nat.le_of_ble_eq_true rfl⟩) hK hN hP hD hS (fun j => j) (fun _ _ h => h) (fun _ _ _ _ h => h) (xW_adr rfl) (fun k q h => Or.inl ⟨k, h⟩) 0 1 rfl rfl (xO _ _ _ _ _ _) rfl hl.1 rfl (Nat.le_of_ble_eq_true rfl) ⟨Nat.zero_le _, Nat.zero_le _⟩ dX1_reconnect_2 (fun H locs hP hD hS => ?_)
    refine lv_astore_nN (lv' := [(2, .null), (0, .ref (ad 0)), (1, .int x)]) hx hb dX1_reconnect_5 rfl hl (by decide) rfl (fun ls hl => ?_)
    refine lv_aload_nN hx hb dX1_reconnect_6 rfl (lv_at hl 0 rfl) ?_
    refine lv_ifnonnullN hx hb dX1_reconnect_7 ?_
    refine lv_iconst (v := -1) hx hb dX1_reconnect_10 (by decide) ?_
    exact k_iret hx hb hr hlk hP hS hAe (by rw [u_Rec, if_neg hp]) (by rw [u_Rec, if_neg hp]) dX1_reconnect_11

set_option maxRecDepth 100000 in
set_option maxHeartbeats 4000000 in
theorem c_X1_disconnect (l : Launch) (D : va_G) (cI cZ cP : ClassId) (ad : Nat → Nat) (pd : Nat → Nat → Nat) (S : ST) (x : Int32) (hn : g_N S ≤ 5) : MM l yX1_disconnect wsX1_disconnect ({ frames := 6, cells := 0, slots := 0, locals := 138 }) D (kTy cI cZ cP) [.ref (ad 0), .int x] (xW cI cZ cP ad pd S) (some (.int (u_Dis S x).1)) (xW cI cZ cP ad pd ((u_Dis S x).2)) := by
  refine MM.ofW (cc := cX1_disconnect) (maxL := 4) (ret := (some .int)) (by decide) rfl (Nat.le_of_ble_eq_true rfl) ?_
  intro p e s m below meth c ls A hx hb hr hlk hml hts hown hK hN hP hD hS hAe hl
  have hown : s.vm.findClass RX1 = some m.cls := hown
  have hi0 : ∀ w ∈ wsX00, w ∈ wsX1_disconnect := fun w h => List.mem_cons_of_mem _ (List.mem_append_left _ (List.mem_append_right _ h))
  have hi1 : ∀ w ∈ wsX10, w ∈ wsX1_disconnect := fun w h => List.mem_cons_of_mem _ (List.mem_append_right _ h)
  have hl : lv_has ls 4 [(0, .ref (ad 0)), (1, .int x)] := hl
  refine lv_aload_n hx hb dX1_disconnect_0 rfl (lv_at hl 0 rfl) ?_
  refine lv_iload_n hx hb dX1_disconnect_1 rfl (lv_at hl 1 rfl) ?_
  by_cases hp : okP (g_N S) x
  · obtain ⟨k, hk, rfl⟩ := okP_nat hn hp
    have hk5 : k < 5 := by omega
    have kxe : kx (nI k) = k := kx_n (by omega)
    refine kV (As := [.int (nI k)]) (rest := []) (Wc := (xW cI cZ cP ad pd S)) (Wc1 := (xW cI cZ cP ad pd S)) (Wd1 := (xW cI cZ cP ad pd S)) (o := some (.ref (pd k 0))) ⟨hx, hb, hml, hown, hts⟩ (c_X1_findPeer_ok l D cI cZ cP ad pd S k hn hk) (cwV 1 hts gX1_disconnect_X1_findPeer rfl rfl rfl (by decide +kernel) ⟨Nat.le_of_ble_eq_true rfl, Nat.le_of_ble_eq_true rfl⟩) hK hN hP hD hS (fun j => j) (fun _ _ h => h) (fun _ _ _ _ h => h) (xW_adr rfl) (fun k q h => Or.inl ⟨k, h⟩) 0 1 rfl rfl (xO _ _ _ _ _ _) rfl hl.1 rfl (Nat.le_of_ble_eq_true rfl) ⟨Nat.zero_le _, Nat.zero_le _⟩ dX1_disconnect_2 (fun H locs hP hD hS => ?_)
    refine lv_astore_n (lv' := [(2, .ref (pd k 0)), (0, .ref (ad 0)), (1, .int (nI k))]) hx hb dX1_disconnect_5 rfl hl (by decide) rfl (fun ls hl => ?_)
    refine lv_aload_n hx hb dX1_disconnect_6 rfl (lv_at hl 0 rfl) ?_
    refine lv_ifnonnull (tgt := 12) hx hb dX1_disconnect_7 (by decide) ?_
    refine lv_aload_n hx hb dX1_disconnect_12 rfl (lv_at hl 0 rfl) ?_
    refine va_getN (D := D) (ci := 0) (v := .int ((g_St S) k)) (C := RX0) (T := TX0) (N := 8) hx hb hts hi0 hown hK hP (4 + (4 * k + 0)) (yO _ _ _ _ _ _ (by omega)) rfl 4 (by decide) (va_Nw.use rfl (hN (.fieldLinkNest RX1 71 RX0 "state" "I" RX1) (List.mem_of_getElem? (i := 3) rfl))) (fun _ h9 => h9) (yV_4 _ _ _) dX1_disconnect_13 ?_
    refine lv_iconst (v := 2) hx hb dX1_disconnect_16 (by decide) ?_
    refine lv_icmp_ne (tgt := 23) hx hb dX1_disconnect_17 (by decide) (fun c_17 => ?_) (fun c_17 => ?_)
    · refine lv_aload_n hx hb dX1_disconnect_23 rfl (lv_at hl 0 rfl) ?_
      refine kVN (As := []) (rest := []) (Wc := (xB cI cZ pd S k)) (Wc1 := (xB cI cZ pd (o_Down S k) k)) (Wd1 := (xW cI cZ cP ad pd (o_Down S k))) (o := some (.int (kCnt (nz (g_Le S k)) 16))) ⟨hx, hb, hml, hown, hts⟩ (s_X0_goDown l D cI cZ cP pd S k ) ⟨va_cnB 0 hts gX1_disconnect_X0_goDown_n97 rfl rfl rfl (hN (.methodLinkNest RX1 97 yX0_goDown RX1) (List.mem_of_getElem? (i := 16) rfl)) (hts (.initialized RX0) (List.mem_of_getElem? (i := 9) rfl)) (by decide +kernel) ⟨Nat.le_of_ble_eq_true rfl, Nat.le_of_ble_eq_true rfl⟩, (hts (.instanceMethod yX0_goDown) (List.mem_of_getElem? (i := 8) rfl)), (hts (.selects RX0 yX0_goDown yX0_goDown) (List.mem_of_getElem? (i := 10) rfl))⟩ hK hN hP hD hS (fun j => 4 + (4 * k + j)) (fun j7 q7 h7 => y_hf (by omega) j7 q7 h7) (y_inj k) (xW_adr (one_Down (cI := cI) (cZ := cZ) (pd := pd) S k).1) (fun i7 q7 h7 => xW_new (one_Down (cI := cI) (cZ := cZ) (pd := pd) S k) i7 q7 h7) (4 + (4 * k + 0)) 0 rfl rfl (yO _ _ _ _ _ _ (by omega)) rfl hl.1 rfl (Nat.le_of_ble_eq_true rfl) ⟨Nat.zero_le _, Nat.zero_le _⟩ dX1_disconnect_24 (fun H locs hP hD hS => ?_)
      refine lv_istore_n (lv' := [(3, .int (kCnt (nz (g_Le S k)) 16)), (2, .ref (pd k 0)), (0, .ref (ad 0)), (1, .int (nI k))]) hx hb dX1_disconnect_27 rfl hl (by decide) rfl (fun ls hl => ?_)
      refine lv_aload_n hx hb dX1_disconnect_28 rfl (lv_at hl 2 rfl) ?_
      refine va_get (D := D) (ci := 1) (v := .int (g_Df (o_Down S k))) (C := RX1) (T := TX1) (N := 9) hx hb hts hi1 hown hK hP 0 (xO _ _ _ _ _ _) rfl 7 (by decide) (hts (.fieldLink RX1 36 "GracefulRestart" "deferring" "Z") (List.mem_of_getElem? (i := 1) rfl)) (fun _ h9 => h9) (xV_Df _ _) dX1_disconnect_29 ?_
      refine k_top (y := g_Df S) (o_Down_Df _ _) ?_
      refine lv_if_ne (tgt := 39) hx hb dX1_disconnect_32 (by decide) (fun c_32 => ?_) (fun c_32 => ?_)
      · rw [Ds1_t c_32] at hP hD
        refine lv_aload_n hx hb dX1_disconnect_39 rfl (lv_at hl 2 rfl) ?_
        refine kV (As := []) (rest := []) (Wc := (xW cI cZ cP ad pd (u_Ds1 S k))) (Wc1 := (xW cI cZ cP ad pd (o_Chk (u_Ds1 S k)))) (Wd1 := (xW cI cZ cP ad pd (o_Chk (u_Ds1 S k)))) (o := none) ⟨hx, hb, hml, hown, hts⟩ (c_X1_checkDeferral l D cI cZ cP ad pd (u_Ds1 S k) (by rw [Ds1_N]; exact hn)) (cwV 0 hts gX1_disconnect_X1_checkDeferral rfl rfl rfl (by decide +kernel) ⟨Nat.le_of_ble_eq_true rfl, Nat.le_of_ble_eq_true rfl⟩) hK hN hP hD hS (fun j => j) (fun _ _ h => h) (fun _ _ _ _ h => h) (xW_adr (o_Chk_N _)) (fun k q h => Or.inl ⟨k, h⟩) 0 1 rfl rfl (xO _ _ _ _ _ _) rfl hl.1 rfl (Nat.le_of_ble_eq_true rfl) ⟨Nat.zero_le _, Nat.zero_le _⟩ dX1_disconnect_40 (fun H locs hP hD hS => ?_)
        refine lv_iload_n hx hb dX1_disconnect_43 rfl (lv_at hl 0 rfl) ?_
        exact k_iret hx hb hr hlk hP hS hAe (by rw [u_Dis, if_pos hp, kxe, if_neg c_17]) (by rw [u_Dis, if_pos hp, kxe, if_neg c_17]) dX1_disconnect_44
      · refine lv_aload_n hx hb dX1_disconnect_35 rfl (lv_at hl 2 rfl) ?_
        refine kV (As := []) (rest := []) (Wc := (xW cI cZ cP ad pd (o_Down S k))) (Wc1 := (xW cI cZ cP ad pd (o_SA (o_Down S k) 16))) (Wd1 := (xW cI cZ cP ad pd (o_SA (o_Down S k) 16))) (o := none) ⟨hx, hb, hml, hown, hts⟩ (c_X1_selectAll l D cI cZ cP ad pd (o_Down S k) (by rw [o_Down_N]; exact hn)) (cwV 0 hts gX1_disconnect_X1_selectAll rfl rfl rfl (by decide +kernel) ⟨Nat.le_of_ble_eq_true rfl, Nat.le_of_ble_eq_true rfl⟩) hK hN hP hD hS (fun j => j) (fun _ _ h => h) (fun _ _ _ _ h => h) (xW_adr (o_SA_N _ _)) (fun k q h => Or.inl ⟨k, h⟩) 0 1 rfl rfl (xO _ _ _ _ _ _) rfl hl.1 rfl (Nat.le_of_ble_eq_true rfl) ⟨Nat.zero_le _, Nat.zero_le _⟩ dX1_disconnect_36 (fun H locs hP hD hS => ?_)
        rw [Ds1_f c_32] at hP hD
        refine lv_aload_n hx hb dX1_disconnect_39 rfl (lv_at hl 2 rfl) ?_
        refine kV (As := []) (rest := []) (Wc := (xW cI cZ cP ad pd (u_Ds1 S k))) (Wc1 := (xW cI cZ cP ad pd (o_Chk (u_Ds1 S k)))) (Wd1 := (xW cI cZ cP ad pd (o_Chk (u_Ds1 S k)))) (o := none) ⟨hx, hb, hml, hown, hts⟩ (c_X1_checkDeferral l D cI cZ cP ad pd (u_Ds1 S k) (by rw [Ds1_N]; exact hn)) (cwV 0 hts gX1_disconnect_X1_checkDeferral rfl rfl rfl (by decide +kernel) ⟨Nat.le_of_ble_eq_true rfl, Nat.le_of_ble_eq_true rfl⟩) hK hN hP hD hS (fun j => j) (fun _ _ h => h) (fun _ _ _ _ h => h) (xW_adr (o_Chk_N _)) (fun k q h => Or.inl ⟨k, h⟩) 0 1 rfl rfl (xO _ _ _ _ _ _) rfl hl.1 rfl (Nat.le_of_ble_eq_true rfl) ⟨Nat.zero_le _, Nat.zero_le _⟩ dX1_disconnect_40 (fun H locs hP hD hS => ?_)
        refine lv_iload_n hx hb dX1_disconnect_43 rfl (lv_at hl 0 rfl) ?_
        exact k_iret hx hb hr hlk hP hS hAe (by rw [u_Dis, if_pos hp, kxe, if_neg c_17]) (by rw [u_Dis, if_pos hp, kxe, if_neg c_17]) dX1_disconnect_44
    · refine lv_bipush (v := -4) hx hb dX1_disconnect_20 (by decide) ?_
      exact k_iret hx hb hr hlk hP hS hAe (by rw [u_Dis, if_pos hp, kxe, if_pos c_17]) (by rw [u_Dis, if_pos hp, kxe, if_pos c_17]) dX1_disconnect_22
  · refine kV (As := [.int x]) (rest := []) (Wc := (xW cI cZ cP ad pd S)) (Wc1 := (xW cI cZ cP ad pd S)) (Wd1 := (xW cI cZ cP ad pd S)) (o := some (.null)) ⟨hx, hb, hml, hown, hts⟩ (c_X1_findPeer_no l D cI cZ cP ad pd S x hn hp) (cwV 1 hts gX1_disconnect_X1_findPeer rfl rfl rfl (by decide +kernel) ⟨Nat.le_of_ble_eq_true rfl, Nat.le_of_ble_eq_true rfl⟩) hK hN hP hD hS (fun j => j) (fun _ _ h => h) (fun _ _ _ _ h => h) (xW_adr rfl) (fun k q h => Or.inl ⟨k, h⟩) 0 1 rfl rfl (xO _ _ _ _ _ _) rfl hl.1 rfl (Nat.le_of_ble_eq_true rfl) ⟨Nat.zero_le _, Nat.zero_le _⟩ dX1_disconnect_2 (fun H locs hP hD hS => ?_)
    refine lv_astore_nN (lv' := [(2, .null), (0, .ref (ad 0)), (1, .int x)]) hx hb dX1_disconnect_5 rfl hl (by decide) rfl (fun ls hl => ?_)
    refine lv_aload_nN hx hb dX1_disconnect_6 rfl (lv_at hl 0 rfl) ?_
    refine lv_ifnonnullN hx hb dX1_disconnect_7 ?_
    refine lv_iconst (v := -1) hx hb dX1_disconnect_10 (by decide) ?_
    exact k_iret hx hb hr hlk hP hS hAe (by rw [u_Dis, if_neg hp]) (by rw [u_Dis, if_neg hp]) dX1_disconnect_11

set_option maxRecDepth 100000 in
set_option maxHeartbeats 4000000 in
theorem c_X1_endOfTable (l : Launch) (D : va_G) (cI cZ cP : ClassId) (ad : Nat → Nat) (pd : Nat → Nat → Nat) (S : ST) (x t : Int32) (hn : g_N S ≤ 5) (hF : o_Chk S = S) : MM l yX1_endOfTable wsX1_endOfTable ({ frames := 6, cells := 0, slots := 0, locals := 138 }) D (kTy cI cZ cP) [.ref (ad 0), .int x, .int t] (xW cI cZ cP ad pd S) (some (.int (u_Eot S x t).1)) (xW cI cZ cP ad pd ((u_Eot S x t).2)) := by
  refine MM.ofW (cc := cX1_endOfTable) (maxL := 6) (ret := (some .int)) (by decide) rfl (Nat.le_of_ble_eq_true rfl) ?_
  intro p e s m below meth c ls A hx hb hr hlk hml hts hown hK hN hP hD hS hAe hl
  have hown : s.vm.findClass RX1 = some m.cls := hown
  have hi0 : ∀ w ∈ wsX00, w ∈ wsX1_endOfTable := fun w h => List.mem_cons_of_mem _ (List.mem_append_left _ (List.mem_append_right _ h))
  have hi1 : ∀ w ∈ wsX10, w ∈ wsX1_endOfTable := fun w h => List.mem_cons_of_mem _ (List.mem_append_right _ h)
  have hl : lv_has ls 6 [(0, .ref (ad 0)), (1, .int x), (2, .int t)] := hl
  refine lv_aload_n hx hb dX1_endOfTable_0 rfl (lv_at hl 0 rfl) ?_
  refine lv_iload_n hx hb dX1_endOfTable_1 rfl (lv_at hl 1 rfl) ?_
  by_cases hp : okP (g_N S) x
  · obtain ⟨k, hk, rfl⟩ := okP_nat hn hp
    have hk5 : k < 5 := by omega
    have kxe : kx (nI k) = k := kx_n (by omega)
    refine kV (As := [.int (nI k)]) (rest := []) (Wc := (xW cI cZ cP ad pd S)) (Wc1 := (xW cI cZ cP ad pd S)) (Wd1 := (xW cI cZ cP ad pd S)) (o := some (.ref (pd k 0))) ⟨hx, hb, hml, hown, hts⟩ (c_X1_findPeer_ok l D cI cZ cP ad pd S k hn hk) (cwV 1 hts gX1_endOfTable_X1_findPeer rfl rfl rfl (by decide +kernel) ⟨Nat.le_of_ble_eq_true rfl, Nat.le_of_ble_eq_true rfl⟩) hK hN hP hD hS (fun j => j) (fun _ _ h => h) (fun _ _ _ _ h => h) (xW_adr rfl) (fun k q h => Or.inl ⟨k, h⟩) 0 1 rfl rfl (xO _ _ _ _ _ _) rfl hl.1 rfl (Nat.le_of_ble_eq_true rfl) ⟨Nat.zero_le _, Nat.zero_le _⟩ dX1_endOfTable_2 (fun H locs hP hD hS => ?_)
    refine lv_astore_n (lv' := [(3, .ref (pd k 0)), (0, .ref (ad 0)), (1, .int (nI k)), (2, .int t)]) hx hb dX1_endOfTable_5 rfl hl (by decide) rfl (fun ls hl => ?_)
    refine lv_aload_n hx hb dX1_endOfTable_6 rfl (lv_at hl 0 rfl) ?_
    refine lv_ifnonnull (tgt := 12) hx hb dX1_endOfTable_7 (by decide) ?_
    by_cases hB : okB t
    · obtain ⟨a9, ha9, rfl⟩ := rng_nat (M := 2) (by decide) hB
      have kte : kx (nI a9) = a9 := kx_n (by omega)
      refine lv_iload_n hx hb dX1_endOfTable_12 rfl (lv_at hl 3 rfl) ?_
      refine lv_if_lt (tgt := 21) hx hb dX1_endOfTable_13 (by decide) (fun c_ => absurd c_ (nI_pos (by omega))) (fun _ => ?_)
      refine lv_iload_n hx hb dX1_endOfTable_16 rfl (lv_at hl 3 rfl) ?_
      refine lv_iconst (v := 2) hx hb dX1_endOfTable_17 (by decide) ?_
      refine lv_icmp_lt (tgt := 24) hx hb dX1_endOfTable_18 (by decide) (fun _ => ?_) (fun c_ => absurd (nI_lt (a := a9) (b := 2) ha9 (by decide)) c_)
      refine lv_aload_n hx hb dX1_endOfTable_24 rfl (lv_at hl 0 rfl) ?_
      refine va_getN (D := D) (ci := 0) (v := .int ((g_St S) k)) (C := RX0) (T := TX0) (N := 8) hx hb hts hi0 hown hK hP (4 + (4 * k + 0)) (yO _ _ _ _ _ _ (by omega)) rfl 4 (by decide) (va_Nw.use rfl (hN (.fieldLinkNest RX1 71 RX0 "state" "I" RX1) (List.mem_of_getElem? (i := 3) rfl))) (fun _ h9 => h9) (yV_4 _ _ _) dX1_endOfTable_25 ?_
      refine lv_if_eq (tgt := 34) hx hb dX1_endOfTable_28 (by decide) (fun c_28 => ?_) (fun c_28 => ?_)
      · refine lv_iconst (v := 1) hx hb dX1_endOfTable_34 (by decide) ?_
        refine lv_iload_n hx hb dX1_endOfTable_35 rfl (lv_at hl 3 rfl) ?_
        refine lv_ishl hx hb dX1_endOfTable_36 ?_
        refine lv_istore (lv' := [(4, .int (1 <<< ((nI a9) &&& 31))), (3, .ref (pd k 0)), (0, .ref (ad 0)), (1, .int (nI k)), (2, .int (nI a9))]) hx hb dX1_endOfTable_37 hl (by decide) rfl (fun ls hl => ?_)
        refine lv_aload_n hx hb dX1_endOfTable_39 rfl (lv_at hl 1 rfl) ?_
        refine va_getN (D := D) (ci := 0) (v := .int (mkI ((g_Hm S) k))) (C := RX0) (T := TX0) (N := 8) hx hb hts hi0 hown hK hP (4 + (4 * k + 0)) (yO _ _ _ _ _ _ (by omega)) rfl 7 (by decide) (va_Nw.use rfl (hN (.fieldLinkNest RX1 68 RX0 "marks" "I" RX1) (List.mem_of_getElem? (i := 6) rfl))) (fun _ h9 => h9) (yV_7 _ _ _) dX1_endOfTable_40 ?_
        refine lv_iload hx hb dX1_endOfTable_43 (lv_at hl 0 rfl) ?_
        refine lv_iand hx hb dX1_endOfTable_45 ?_
        refine lv_if_ne (tgt := 53) hx hb dX1_endOfTable_46 (by decide) (fun c_46 => ?_) (fun c_46 => ?_)
        · refine lv_iconst (v := 0) hx hb dX1_endOfTable_53 (by decide) ?_
          refine lv_istore (lv' := [(5, .int 0), (4, .int (1 <<< ((nI a9) &&& 31))), (3, .ref (pd k 0)), (0, .ref (ad 0)), (1, .int (nI k)), (2, .int (nI a9))]) hx hb dX1_endOfTable_54 hl (by decide) rfl (fun ls hl => ?_)
          refine lv_aload_n hx hb dX1_endOfTable_56 rfl (lv_at hl 2 rfl) ?_
          refine lv_dup hx hb dX1_endOfTable_57 rfl ?_
          refine va_getN (D := D) (ci := 0) (v := .int (mkI ((g_Hm S) k))) (C := RX0) (T := TX0) (N := 8) hx hb hts hi0 hown hK hP (4 + (4 * k + 0)) (yO _ _ _ _ _ _ (by omega)) rfl 7 (by decide) (va_Nw.use rfl (hN (.fieldLinkNest RX1 68 RX0 "marks" "I" RX1) (List.mem_of_getElem? (i := 6) rfl))) (fun _ h9 => h9) (yV_7 _ _ _) dX1_endOfTable_58 ?_
          refine lv_iload hx hb dX1_endOfTable_61 (lv_at hl 1 rfl) ?_
          refine lv_ior hx hb dX1_endOfTable_63 ?_
          refine k_putN (D := D) (ci := 0) (v := .int ((mkI ((g_Hm S) k)) ||| (1 <<< ((nI a9) &&& 31)))) (ty := .int) (C := RX0) (T := TX0) (N := 8) hx hb hts hi0 tyX0 tyX0_ok nmX0 hown hK hP hD hS (4 + (4 * k + 0)) (yO _ _ _ _ _ _ (by omega)) rfl 7 (by decide) (va_Nw.use rfl (hN (.fieldLinkNest RX1 68 RX0 "marks" "I" RX1) (List.mem_of_getElem? (i := 6) rfl))) (fun _ h9 => h9) rfl (by decide +kernel) rfl rfl (Nat.le_of_ble_eq_true rfl) (W1 := (xW cI cZ cP ad pd S)) ((yP_Hm _ _ _ _ _ _ (by omega) (g_Hm S k) (mk_id _ ha9 (fun z => c_46 ((mk_and _ ha9).mpr z)))).trans (congrArg (xW cI cZ cP ad pd) (Hm_id S k))) dX1_endOfTable_64 (fun H locs hP hD hS => ?_)
          refine lv_aload_n hx hb dX1_endOfTable_67 rfl (lv_at hl 3 rfl) ?_
          refine kV (As := []) (rest := []) (Wc := (xW cI cZ cP ad pd S)) (Wc1 := (xW cI cZ cP ad pd (o_Chk S))) (Wd1 := (xW cI cZ cP ad pd (o_Chk S))) (o := none) ⟨hx, hb, hml, hown, hts⟩ (c_X1_checkDeferral l D cI cZ cP ad pd S hn) (cwV 0 hts gX1_endOfTable_X1_checkDeferral rfl rfl rfl (by decide +kernel) ⟨Nat.le_of_ble_eq_true rfl, Nat.le_of_ble_eq_true rfl⟩) hK hN hP hD hS (fun j => j) (fun _ _ h => h) (fun _ _ _ _ h => h) (xW_adr (o_Chk_N _)) (fun k q h => Or.inl ⟨k, h⟩) 0 1 rfl rfl (xO _ _ _ _ _ _) rfl hl.1 rfl (Nat.le_of_ble_eq_true rfl) ⟨Nat.zero_le _, Nat.zero_le _⟩ dX1_endOfTable_68 (fun H locs hP hD hS => ?_)
          rw [hF] at hP hD
          refine lv_iload hx hb dX1_endOfTable_71 (lv_at hl 0 rfl) ?_
          exact k_iret hx hb hr hlk hP hS hAe (by rw [u_Eot, if_pos hp, if_pos hB, kxe, kte, if_pos c_28, if_neg (fun z => c_46 ((mk_and _ ha9).mpr z))]) (by rw [u_Eot, if_pos hp, if_pos hB, kxe, kte, if_pos c_28, if_neg (fun z => c_46 ((mk_and _ ha9).mpr z))]) dX1_endOfTable_73
        · refine lv_iconst (v := 1) hx hb dX1_endOfTable_49 (by decide) ?_
          refine lv_goto (tgt := 54) hx hb dX1_endOfTable_50 (by decide) ?_
          refine lv_istore (lv' := [(5, .int 1), (4, .int (1 <<< ((nI a9) &&& 31))), (3, .ref (pd k 0)), (0, .ref (ad 0)), (1, .int (nI k)), (2, .int (nI a9))]) hx hb dX1_endOfTable_54 hl (by decide) rfl (fun ls hl => ?_)
          refine lv_aload_n hx hb dX1_endOfTable_56 rfl (lv_at hl 2 rfl) ?_
          refine lv_dup hx hb dX1_endOfTable_57 rfl ?_
          refine va_getN (D := D) (ci := 0) (v := .int (mkI ((g_Hm S) k))) (C := RX0) (T := TX0) (N := 8) hx hb hts hi0 hown hK hP (4 + (4 * k + 0)) (yO _ _ _ _ _ _ (by omega)) rfl 7 (by decide) (va_Nw.use rfl (hN (.fieldLinkNest RX1 68 RX0 "marks" "I" RX1) (List.mem_of_getElem? (i := 6) rfl))) (fun _ h9 => h9) (yV_7 _ _ _) dX1_endOfTable_58 ?_
          refine lv_iload hx hb dX1_endOfTable_61 (lv_at hl 1 rfl) ?_
          refine lv_ior hx hb dX1_endOfTable_63 ?_
          refine k_putN (D := D) (ci := 0) (v := .int ((mkI ((g_Hm S) k)) ||| (1 <<< ((nI a9) &&& 31)))) (ty := .int) (C := RX0) (T := TX0) (N := 8) hx hb hts hi0 tyX0 tyX0_ok nmX0 hown hK hP hD hS (4 + (4 * k + 0)) (yO _ _ _ _ _ _ (by omega)) rfl 7 (by decide) (va_Nw.use rfl (hN (.fieldLinkNest RX1 68 RX0 "marks" "I" RX1) (List.mem_of_getElem? (i := 6) rfl))) (fun _ h9 => h9) rfl (by decide +kernel) rfl rfl (Nat.le_of_ble_eq_true rfl) (W1 := (xW cI cZ cP ad pd (u_Mk S k a9))) ((yP_Hm _ _ _ _ _ _ (by omega) _ (mk_or _ ha9)).trans (congrArg (xW cI cZ cP ad pd) (Mk_e _ _ _))) dX1_endOfTable_64 (fun H locs hP hD hS => ?_)
          refine lv_aload_n hx hb dX1_endOfTable_67 rfl (lv_at hl 3 rfl) ?_
          refine kV (As := []) (rest := []) (Wc := (xW cI cZ cP ad pd (u_Mk S k a9))) (Wc1 := (xW cI cZ cP ad pd (o_Chk (u_Mk S k a9)))) (Wd1 := (xW cI cZ cP ad pd (o_Chk (u_Mk S k a9)))) (o := none) ⟨hx, hb, hml, hown, hts⟩ (c_X1_checkDeferral l D cI cZ cP ad pd (u_Mk S k a9) (by rw [Mk_N]; exact hn)) (cwV 0 hts gX1_endOfTable_X1_checkDeferral rfl rfl rfl (by decide +kernel) ⟨Nat.le_of_ble_eq_true rfl, Nat.le_of_ble_eq_true rfl⟩) hK hN hP hD hS (fun j => j) (fun _ _ h => h) (fun _ _ _ _ h => h) (xW_adr (o_Chk_N _)) (fun k q h => Or.inl ⟨k, h⟩) 0 1 rfl rfl (xO _ _ _ _ _ _) rfl hl.1 rfl (Nat.le_of_ble_eq_true rfl) ⟨Nat.zero_le _, Nat.zero_le _⟩ dX1_endOfTable_68 (fun H locs hP hD hS => ?_)
          refine lv_iload hx hb dX1_endOfTable_71 (lv_at hl 0 rfl) ?_
          exact k_iret hx hb hr hlk hP hS hAe (by rw [u_Eot, if_pos hp, if_pos hB, kxe, kte, if_pos c_28, if_pos ((mk_and _ ha9).mp c_46)]) (by rw [u_Eot, if_pos hp, if_pos hB, kxe, kte, if_pos c_28, if_pos ((mk_and _ ha9).mp c_46)]) dX1_endOfTable_73
      · refine lv_bipush (v := -4) hx hb dX1_endOfTable_31 (by decide) ?_
        exact k_iret hx hb hr hlk hP hS hAe (by rw [u_Eot, if_pos hp, if_pos hB, kxe, kte, if_neg c_28]) (by rw [u_Eot, if_pos hp, if_pos hB, kxe, kte, if_neg c_28]) dX1_endOfTable_33
    · refine lv_iload_n hx hb dX1_endOfTable_12 rfl (lv_at hl 3 rfl) ?_
      refine lv_if_lt (tgt := 21) hx hb dX1_endOfTable_13 (by decide) (fun c_13 => ?_) (fun c_13 => ?_)
      · refine lv_bipush (v := -2) hx hb dX1_endOfTable_21 (by decide) ?_
        exact k_iret hx hb hr hlk hP hS hAe (by rw [u_Eot, if_pos hp, if_neg hB]) (by rw [u_Eot, if_pos hp, if_neg hB]) dX1_endOfTable_23
      · refine lv_iload_n hx hb dX1_endOfTable_16 rfl (lv_at hl 3 rfl) ?_
        refine lv_iconst (v := 2) hx hb dX1_endOfTable_17 (by decide) ?_
        refine lv_icmp_lt (tgt := 24) hx hb dX1_endOfTable_18 (by decide) (fun c_18 => ?_) (fun c_18 => ?_)
        · exact absurd ⟨Int32.not_lt.mp c_13, c_18⟩ hB
        · refine lv_bipush (v := -2) hx hb dX1_endOfTable_21 (by decide) ?_
          exact k_iret hx hb hr hlk hP hS hAe (by rw [u_Eot, if_pos hp, if_neg hB]) (by rw [u_Eot, if_pos hp, if_neg hB]) dX1_endOfTable_23
  · refine kV (As := [.int x]) (rest := []) (Wc := (xW cI cZ cP ad pd S)) (Wc1 := (xW cI cZ cP ad pd S)) (Wd1 := (xW cI cZ cP ad pd S)) (o := some (.null)) ⟨hx, hb, hml, hown, hts⟩ (c_X1_findPeer_no l D cI cZ cP ad pd S x hn hp) (cwV 1 hts gX1_endOfTable_X1_findPeer rfl rfl rfl (by decide +kernel) ⟨Nat.le_of_ble_eq_true rfl, Nat.le_of_ble_eq_true rfl⟩) hK hN hP hD hS (fun j => j) (fun _ _ h => h) (fun _ _ _ _ h => h) (xW_adr rfl) (fun k q h => Or.inl ⟨k, h⟩) 0 1 rfl rfl (xO _ _ _ _ _ _) rfl hl.1 rfl (Nat.le_of_ble_eq_true rfl) ⟨Nat.zero_le _, Nat.zero_le _⟩ dX1_endOfTable_2 (fun H locs hP hD hS => ?_)
    refine lv_astore_nN (lv' := [(3, .null), (0, .ref (ad 0)), (1, .int x), (2, .int t)]) hx hb dX1_endOfTable_5 rfl hl (by decide) rfl (fun ls hl => ?_)
    refine lv_aload_nN hx hb dX1_endOfTable_6 rfl (lv_at hl 0 rfl) ?_
    refine lv_ifnonnullN hx hb dX1_endOfTable_7 ?_
    refine lv_iconst (v := -1) hx hb dX1_endOfTable_10 (by decide) ?_
    exact k_iret hx hb hr hlk hP hS hAe (by rw [u_Eot, if_neg hp]) (by rw [u_Eot, if_neg hp]) dX1_endOfTable_11

set_option maxRecDepth 100000 in
set_option maxHeartbeats 4000000 in
theorem c_X1_tick (l : Launch) (D : va_G) (cI cZ cP : ClassId) (ad : Nat → Nat) (pd : Nat → Nat → Nat) (S : ST) (x : Int32) (hn : g_N S ≤ 5) : MM l yX1_tick wsX1_tick ({ frames := 6, cells := 0, slots := 0, locals := 138 }) D (kTy cI cZ cP) [.ref (ad 0), .int x] (xW cI cZ cP ad pd S) (some (.int (u_Tick S x).1)) (xW cI cZ cP ad pd ((u_Tick S x).2)) := by
  refine MM.ofW (cc := cX1_tick) (maxL := 4) (ret := (some .int)) (by decide) rfl (Nat.le_of_ble_eq_true rfl) ?_
  intro p e s m below meth c ls A hx hb hr hlk hml hts hown hK hN hP hD hS hAe hl
  have hown : s.vm.findClass RX1 = some m.cls := hown
  have hi1 : ∀ w ∈ wsX10, w ∈ wsX1_tick := fun w h => List.mem_cons_of_mem _ (List.mem_append_left _ (List.mem_append_right _ h))
  have hi0 : ∀ w ∈ wsX00, w ∈ wsX1_tick := fun w h => List.mem_cons_of_mem _ (List.mem_append_right _ h)
  have hl : lv_has ls 4 [(0, .ref (ad 0)), (1, .int x)] := hl
  by_cases hK9 : okK x
  · obtain ⟨m9, hm9, rfl⟩ := okK_nat hK9
    have kxe : kx (nI m9) = m9 := kx_n (by omega)
    refine lv_iload_n hx hb dX1_tick_0 rfl (lv_at hl 1 rfl) ?_
    refine lv_iconst (v := 1) hx hb dX1_tick_1 (by decide) ?_
    refine lv_icmp_lt (tgt := 11) hx hb dX1_tick_2 (by decide) (fun c_ => absurd c_ hK9.1) (fun _ => ?_)
    refine lv_iload_n hx hb dX1_tick_5 rfl (lv_at hl 1 rfl) ?_
    refine lv_bipush (v := 100) hx hb dX1_tick_6 (by decide) ?_
    refine lv_icmp_le (tgt := 14) hx hb dX1_tick_8 (by decide) (fun _ => ?_) (fun c_ => absurd (Int32.not_lt.mp hK9.2) c_)
    refine lv_iconst (v := 0) hx hb dX1_tick_14 (by decide) ?_
    refine lv_istore_n (lv' := [(2, .int 0), (0, .ref (ad 0)), (1, .int (nI m9))]) hx hb dX1_tick_15 rfl hl (by decide) rfl (fun ls hl => ?_)
    refine lv_iconst (v := 0) hx hb dX1_tick_16 (by decide) ?_
    refine lv_istore_n (lv' := [(3, .int 0), (2, .int 0), (0, .ref (ad 0)), (1, .int (nI m9))]) hx hb dX1_tick_17 rfl hl (by decide) rfl (fun ls hl => ?_)
    have lp18 : ∀ (n9 j : Nat), j + n9 = m9 → ∀ (H : Heap) (locs : List Loc) (ls : Array Slot), va_P D vwCl (xW cI cZ cP ad pd ((o_Tk S j).2)) H → va_D A (xW cI cZ cP ad pd ((o_Tk S j).2)) → va_S A s.heap H locs → lv_has ls 4 [(0, .ref (ad 0)), (1, .int (nI m9)), (2, .int ((o_Tk S j).1)), (3, .int (nI j))] → W p l e (headSpec wsX1_tick ({ frames := 6, cells := 0, slots := 0, locals := 138 })).room s m ([.ref (ad 0), .int (nI m9)] : List Value).toArray below meth c H locs 0 0 (MQ below (kPost D (xW cI cZ cP ad pd S) (xW cI cZ cP ad pd ((u_Tick S (nI m9)).2)) (some (.int (u_Tick S (nI m9)).1))) ([.ref (ad 0), .int (nI m9)] : List Value).toArray s 0 0 (kA (xW cI cZ cP ad pd S))) (F0 m 18 ls []) := by
      intro n9
      induction n9 with
      | zero =>
        intro j hi9 H locs ls hP hD hS hl
        have hi8 : j = m9 := by omega
        subst hi8
        refine lv_iload_n hx hb dX1_tick_18 rfl (lv_at hl 3 rfl) ?_
        refine lv_iload_n hx hb dX1_tick_19 rfl (lv_at hl 1 rfl) ?_
        refine lv_icmp_ge (tgt := 57) hx hb dX1_tick_20 (by decide) (fun _ => ?_) (fun c_ => absurd (Int32.le_refl _) c_)
        refine lv_iload_n hx hb dX1_tick_57 rfl (lv_at hl 2 rfl) ?_
        exact k_iret hx hb hr hlk hP hS hAe (by rw [u_Tick, if_pos hK9, kxe]) (by rw [u_Tick, if_pos hK9, kxe]) dX1_tick_58
      | succ n9 ih =>
        intro j hi9 H locs ls hP hD hS hl
        have hlt : j < m9 := by omega
        have hnT : g_N (o_Tk S j).2 ≤ 5 := by rw [o_Tk_N]; exact hn
        refine lv_iload_n hx hb dX1_tick_18 rfl (lv_at hl 3 rfl) ?_
        refine lv_iload_n hx hb dX1_tick_19 rfl (lv_at hl 1 rfl) ?_
        refine lv_icmp_ge (tgt := 57) hx hb dX1_tick_20 (by decide) (fun c_ => absurd c_ (nI_ge (a := j) (b := m9) hlt (by omega))) (fun _ => ?_)
        refine lv_iload_n hx hb dX1_tick_23 rfl (lv_at hl 2 rfl) ?_
        refine lv_aload_n hx hb dX1_tick_24 rfl (lv_at hl 0 rfl) ?_
        refine kV (As := []) (rest := [.int ((o_Tk S j).1)]) (Wc := (xW cI cZ cP ad pd ((o_Tk S j).2))) (Wc1 := (xW cI cZ cP ad pd ((o_CDs (o_Tk S j).2 (g_N (o_Tk S j).2)).2))) (Wd1 := (xW cI cZ cP ad pd ((o_CDs (o_Tk S j).2 (g_N (o_Tk S j).2)).2))) (o := some (.int ((o_CDs (o_Tk S j).2 (g_N (o_Tk S j).2)).1))) ⟨hx, hb, hml, hown, hts⟩ (c_X1_countDownPeers l D cI cZ cP ad pd (o_Tk S j).2 hnT) (cwV 0 hts gX1_tick_X1_countDownPeers rfl rfl rfl (by decide +kernel) ⟨Nat.le_of_ble_eq_true rfl, Nat.le_of_ble_eq_true rfl⟩) hK hN hP hD hS (fun j => j) (fun _ _ h => h) (fun _ _ _ _ h => h) (xW_adr (o_CDs_N _ _)) (fun k q h => Or.inl ⟨k, h⟩) 0 1 rfl rfl (xO _ _ _ _ _ _) rfl hl.1 rfl (Nat.le_of_ble_eq_true rfl) ⟨Nat.zero_le _, Nat.zero_le _⟩ dX1_tick_25 (fun H locs hP hD hS => ?_)
        refine lv_iadd hx hb dX1_tick_28 ?_
        refine lv_istore_n (lv' := [(2, .int (((o_Tk S j).1) + ((o_CDs (o_Tk S j).2 (g_N (o_Tk S j).2)).1))), (0, .ref (ad 0)), (1, .int (nI m9)), (3, .int (nI j))]) hx hb dX1_tick_29 rfl hl (by decide) rfl (fun ls hl => ?_)
        refine lv_aload_n hx hb dX1_tick_30 rfl (lv_at hl 1 rfl) ?_
        refine va_get (D := D) (ci := 1) (v := .int (g_Dl ((o_CDs (o_Tk S j).2 (g_N (o_Tk S j).2)).2))) (C := RX1) (T := TX1) (N := 9) hx hb hts hi1 hown hK hP 0 (xO _ _ _ _ _ _) rfl 8 (by decide) (hts (.fieldLink RX1 40 "GracefulRestart" "deferralLeft" "I") (List.mem_of_getElem? (i := 1) rfl)) (fun _ h9 => h9) (xV_Dl _ _) dX1_tick_31 ?_
        refine lv_if_le (tgt := 47) hx hb dX1_tick_34 (by decide) (fun c_34 => ?_) (fun c_34 => ?_)
        · rw [Dl1_n (S := (o_CDs (o_Tk S j).2 (g_N (o_Tk S j).2)).2) (Int32.not_lt.mpr c_34)] at hP hD
          refine lv_aload_n hx hb dX1_tick_47 rfl (lv_at hl 1 rfl) ?_
          refine kV (As := []) (rest := []) (Wc := (xW cI cZ cP ad pd (o_Dl1 (o_CDs (o_Tk S j).2 (g_N (o_Tk S j).2)).2))) (Wc1 := (xW cI cZ cP ad pd (o_Chk (o_Dl1 (o_CDs (o_Tk S j).2 (g_N (o_Tk S j).2)).2)))) (Wd1 := (xW cI cZ cP ad pd (o_Chk (o_Dl1 (o_CDs (o_Tk S j).2 (g_N (o_Tk S j).2)).2)))) (o := none) ⟨hx, hb, hml, hown, hts⟩ (c_X1_checkDeferral l D cI cZ cP ad pd (o_Dl1 (o_CDs (o_Tk S j).2 (g_N (o_Tk S j).2)).2) (by rw [o_Dl1_N, o_CDs_N]; exact hnT)) (cwV 0 hts gX1_tick_X1_checkDeferral rfl rfl rfl (by decide +kernel) ⟨Nat.le_of_ble_eq_true rfl, Nat.le_of_ble_eq_true rfl⟩) hK hN hP hD hS (fun j => j) (fun _ _ h => h) (fun _ _ _ _ h => h) (xW_adr (o_Chk_N _)) (fun k q h => Or.inl ⟨k, h⟩) 0 1 rfl rfl (xO _ _ _ _ _ _) rfl hl.1 rfl (Nat.le_of_ble_eq_true rfl) ⟨Nat.zero_le _, Nat.zero_le _⟩ dX1_tick_48 (fun H locs hP hD hS => ?_)
          refine lv_iinc (v := nI (j + 1)) (lv' := [(3, .int (nI (j + 1))), (2, .int (((o_Tk S j).1) + ((o_CDs (o_Tk S j).2 (g_N (o_Tk S j).2)).1))), (0, .ref (ad 0)), (1, .int (nI m9))]) hx hb dX1_tick_51 hl (k := 3) rfl (nI_1 j) (by decide) rfl (fun ls hl => ?_)
          refine lv_goto (tgt := 18) hx hb dX1_tick_54 (by decide) ?_
          rw [Tk1_2, Tk_s2] at hP hD
          rw [Tk1_1, Tk_s1] at hl
          exact ih (j + 1) (by omega) _ _ ls hP hD hS (lv_sub hl [2, 3, 1, 0] rfl)
        · refine lv_aload_n hx hb dX1_tick_37 rfl (lv_at hl 1 rfl) ?_
          refine lv_dup hx hb dX1_tick_38 rfl ?_
          refine va_get (D := D) (ci := 1) (v := .int (g_Dl ((o_CDs (o_Tk S j).2 (g_N (o_Tk S j).2)).2))) (C := RX1) (T := TX1) (N := 9) hx hb hts hi1 hown hK hP 0 (xO _ _ _ _ _ _) rfl 8 (by decide) (hts (.fieldLink RX1 40 "GracefulRestart" "deferralLeft" "I") (List.mem_of_getElem? (i := 1) rfl)) (fun _ h9 => h9) (xV_Dl _ _) dX1_tick_39 ?_
          refine lv_iconst (v := 1) hx hb dX1_tick_42 (by decide) ?_
          refine lv_isub hx hb dX1_tick_43 ?_
          refine k_put (D := D) (ci := 1) (v := .int ((g_Dl ((o_CDs (o_Tk S j).2 (g_N (o_Tk S j).2)).2)) - 1)) (ty := .int) (C := RX1) (T := TX1) (N := 9) hx hb hts hi1 tyX1 tyX1_ok nmX1 hown hK hP hD hS 0 (xO _ _ _ _ _ _) rfl 8 (by decide) (hts (.fieldLink RX1 40 "GracefulRestart" "deferralLeft" "I") (List.mem_of_getElem? (i := 1) rfl)) (fun _ h9 => h9) rfl (by decide +kernel) rfl rfl (Nat.le_of_ble_eq_true rfl) (W1 := (xW cI cZ cP ad pd (s_Dl ((o_CDs (o_Tk S j).2 (g_N (o_Tk S j).2)).2) ((g_Dl ((o_CDs (o_Tk S j).2 (g_N (o_Tk S j).2)).2)) - 1)))) (xP_Dl _ _ _ _ _ _ _) dX1_tick_44 (fun H locs hP hD hS => ?_)
          rw [Dl1_t (Int32.not_le.mp c_34)] at hP hD
          refine lv_aload_n hx hb dX1_tick_47 rfl (lv_at hl 1 rfl) ?_
          refine kV (As := []) (rest := []) (Wc := (xW cI cZ cP ad pd (o_Dl1 (o_CDs (o_Tk S j).2 (g_N (o_Tk S j).2)).2))) (Wc1 := (xW cI cZ cP ad pd (o_Chk (o_Dl1 (o_CDs (o_Tk S j).2 (g_N (o_Tk S j).2)).2)))) (Wd1 := (xW cI cZ cP ad pd (o_Chk (o_Dl1 (o_CDs (o_Tk S j).2 (g_N (o_Tk S j).2)).2)))) (o := none) ⟨hx, hb, hml, hown, hts⟩ (c_X1_checkDeferral l D cI cZ cP ad pd (o_Dl1 (o_CDs (o_Tk S j).2 (g_N (o_Tk S j).2)).2) (by rw [o_Dl1_N, o_CDs_N]; exact hnT)) (cwV 0 hts gX1_tick_X1_checkDeferral rfl rfl rfl (by decide +kernel) ⟨Nat.le_of_ble_eq_true rfl, Nat.le_of_ble_eq_true rfl⟩) hK hN hP hD hS (fun j => j) (fun _ _ h => h) (fun _ _ _ _ h => h) (xW_adr (o_Chk_N _)) (fun k q h => Or.inl ⟨k, h⟩) 0 1 rfl rfl (xO _ _ _ _ _ _) rfl hl.1 rfl (Nat.le_of_ble_eq_true rfl) ⟨Nat.zero_le _, Nat.zero_le _⟩ dX1_tick_48 (fun H locs hP hD hS => ?_)
          refine lv_iinc (v := nI (j + 1)) (lv' := [(3, .int (nI (j + 1))), (2, .int (((o_Tk S j).1) + ((o_CDs (o_Tk S j).2 (g_N (o_Tk S j).2)).1))), (0, .ref (ad 0)), (1, .int (nI m9))]) hx hb dX1_tick_51 hl (k := 3) rfl (nI_1 j) (by decide) rfl (fun ls hl => ?_)
          refine lv_goto (tgt := 18) hx hb dX1_tick_54 (by decide) ?_
          rw [Tk1_2, Tk_s2] at hP hD
          rw [Tk1_1, Tk_s1] at hl
          exact ih (j + 1) (by omega) _ _ ls hP hD hS (lv_sub hl [2, 3, 1, 0] rfl)
    exact lp18 m9 0 (by omega) _ _ ls (by rw [Tk_0]; exact hP) (by rw [Tk_0]; exact hD) hS (lv_sub hl [2, 3, 1, 0] rfl)
  · refine lv_iload_n hx hb dX1_tick_0 rfl (lv_at hl 1 rfl) ?_
    refine lv_iconst (v := 1) hx hb dX1_tick_1 (by decide) ?_
    refine lv_icmp_lt (tgt := 11) hx hb dX1_tick_2 (by decide) (fun c_2 => ?_) (fun c_2 => ?_)
    · refine lv_bipush (v := -3) hx hb dX1_tick_11 (by decide) ?_
      exact k_iret hx hb hr hlk hP hS hAe (by rw [u_Tick, if_neg hK9]) (by rw [u_Tick, if_neg hK9]) dX1_tick_13
    · refine lv_iload_n hx hb dX1_tick_5 rfl (lv_at hl 1 rfl) ?_
      refine lv_bipush (v := 100) hx hb dX1_tick_6 (by decide) ?_
      refine lv_icmp_le (tgt := 14) hx hb dX1_tick_8 (by decide) (fun c_8 => ?_) (fun c_8 => ?_)
      · exact absurd ⟨c_2, Int32.not_lt.mpr c_8⟩ hK9
      · refine lv_bipush (v := -3) hx hb dX1_tick_11 (by decide) ?_
        exact k_iret hx hb hr hlk hP hS hAe (by rw [u_Tick, if_neg hK9]) (by rw [u_Tick, if_neg hK9]) dX1_tick_13
