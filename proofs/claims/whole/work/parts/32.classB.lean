theorem Ent_N (S : ST) (r : Nat) (hop : Int32) : g_N (o_Ent S r hop) = g_N S := rfl
theorem aw_1 {S : ST} {k : Nat} (h : aw S k) : (if g_Gr S k = 0 then (0 : Int32) else if g_St S k = 2 then 0 else if mkI (g_Hm S k) = 3 then 0 else 1) = 1 := by
  rw [if_neg h.1, if_neg h.2.1]
  by_cases h0 : g_Hm S k 0 = 0
  · by_cases h1 : g_Hm S k 1 = 0
    · simp [mkI, h0, h1]
    · simp [mkI, h0, h1]
  · have h1 : g_Hm S k 1 = 0 := h.2.2.resolve_left h0
    simp [mkI, h0, h1]
theorem aw_0 {S : ST} {k : Nat} (h : ¬ aw S k) : (if g_Gr S k = 0 then (0 : Int32) else if g_St S k = 2 then 0 else if mkI (g_Hm S k) = 3 then 0 else 1) = 0 := by
  by_cases hg : g_Gr S k = 0
  · rw [if_pos hg]
  · rw [if_neg hg]
    by_cases hs : g_St S k = 2
    · rw [if_pos hs]
    · rw [if_neg hs]
      have h0 : ¬ g_Hm S k 0 = 0 := fun z => h ⟨hg, hs, Or.inl z⟩
      have h1 : ¬ g_Hm S k 1 = 0 := fun z => h ⟨hg, hs, Or.inr z⟩
      rw [if_pos]
      simp [mkI, h0, h1]
      try decide
theorem EnSt_N (S : ST) : g_N (s_Dl (s_Df S 0) 0) = g_N S := rfl
theorem one_Ln {cI cZ : ClassId} {pd : Nat → Nat → Nat} (S : ST) (k r : Nat) (x : Int32) : xOne cI cZ pd S (q_Ln S k r x) k := one_rows S k _ _
theorem one_Hr {cI cZ : ClassId} {pd : Nat → Nat → Nat} (S : ST) (k r : Nat) : xOne cI cZ pd S (q_Hr S k r) k := one_row S k _

set_option maxRecDepth 100000 in
set_option maxHeartbeats 4000000 in
theorem c_X1_advertise (l : Launch) (D : va_G) (cI cZ cP : ClassId) (ad : Nat → Nat) (pd : Nat → Nat → Nat) (S : ST) (r9 : Nat) (hop len : Int32) (hn : g_N S ≤ 5) (hr9 : r9 < 16) : MM l yX1_advertise wsX1_advertise ({ frames := 1, cells := 0, slots := 0, locals := 22 }) D (kTy cI cZ cP) [.ref (ad 0), .int (nI r9), .int hop, .int len] (xW cI cZ cP ad pd S) (none) (xW cI cZ cP ad pd (a_i S r9 hop len (g_N S))) := by
  refine MM.ofW (cc := cX1_advertise) (maxL := 6) (ret := none) (by decide) rfl (Nat.le_of_ble_eq_true rfl) ?_
  intro p e s m below meth c ls A hx hb hr hlk hml hts hown hK hN hP hD hS hAe hl
  have hown : s.vm.findClass RX1 = some m.cls := hown
  have hi1 : ∀ w ∈ wsX10, w ∈ wsX1_advertise := fun w h => List.mem_cons_of_mem _ (List.mem_append_left _ (List.mem_append_right _ h))
  have hi0 : ∀ w ∈ wsX00, w ∈ wsX1_advertise := fun w h => List.mem_cons_of_mem _ (List.mem_append_right _ h)
  have hl : lv_has ls 6 [(0, .ref (ad 0)), (1, .int (nI r9)), (2, .int hop), (3, .int len)] := hl
  refine lv_iconst (v := 0) hx hb dX1_advertise_0 (by decide) ?_
  refine lv_istore (lv' := [(4, .int 0), (0, .ref (ad 0)), (1, .int (nI r9)), (2, .int hop), (3, .int len)]) hx hb dX1_advertise_1 hl (by decide) rfl (fun ls hl => ?_)
  have lp3 : ∀ (n9 i : Nat), i + n9 = 5 → ∀ (H : Heap) (locs : List Loc) (ls : Array Slot), va_P D vwCl (xW cI cZ cP ad pd (a_i S r9 hop len (min i (g_N S)))) H → va_D A (xW cI cZ cP ad pd (a_i S r9 hop len (min i (g_N S)))) → va_S A s.heap H locs → lv_has ls 6 [(0, .ref (ad 0)), (1, .int (nI r9)), (2, .int hop), (3, .int len), (4, .int (nI i))] → W p l e (headSpec wsX1_advertise ({ frames := 1, cells := 0, slots := 0, locals := 22 })).room s m ([.ref (ad 0), .int (nI r9), .int hop, .int len] : List Value).toArray below meth c H locs 0 0 (MQ below (kPost D (xW cI cZ cP ad pd S) (xW cI cZ cP ad pd (a_i S r9 hop len (g_N S))) (none)) ([.ref (ad 0), .int (nI r9), .int hop, .int len] : List Value).toArray s 0 0 (kA (xW cI cZ cP ad pd S))) (F0 m 3 ls []) := by
    intro n9
    induction n9 with
    | zero =>
      intro i hi9 H locs ls hP hD hS hl
      have hi8 : i = 5 := by omega
      subst hi8
      refine lv_iload hx hb dX1_advertise_3 (lv_at hl 4 rfl) ?_
      refine lv_aload_n hx hb dX1_advertise_5 rfl (lv_at hl 0 rfl) ?_
      refine va_get (D := D) (ci := 1) (v := .ref (ad 1)) (C := RX1) (T := TX1) (N := 9) hx hb hts hi1 hown hK hP 0 (xO _ _ _ _ _ _) rfl 0 (by decide) (hts (.fieldLink RX1 11 "GracefulRestart" "peers" "[LGracefulRestart$Peer;") (List.mem_of_getElem? (i := 1) rfl)) (fun _ h9 => h9) (xV_0 _ _) dX1_advertise_6 ?_
      refine va_alen (v := 5) hx hb hK hP 1 2 (xG_P _ _ _ _ _ _) rfl rfl dX1_advertise_9 ?_
      refine lv_icmp_ge (tgt := 69) hx hb dX1_advertise_10 (by decide) (fun _ => ?_) (fun c_ => absurd (by decide) c_)
      exact k_vret hx hb hr hlk hP hS hAe (by rw [show min 5 (g_N S) = g_N S by omega]) dX1_advertise_69
    | succ n9 ih =>
      intro i hi9 H locs ls hP hD hS hl
      have hlt : i < 5 := by omega
      refine lv_iload hx hb dX1_advertise_3 (lv_at hl 4 rfl) ?_
      refine lv_aload_n hx hb dX1_advertise_5 rfl (lv_at hl 0 rfl) ?_
      refine va_get (D := D) (ci := 1) (v := .ref (ad 1)) (C := RX1) (T := TX1) (N := 9) hx hb hts hi1 hown hK hP 0 (xO _ _ _ _ _ _) rfl 0 (by decide) (hts (.fieldLink RX1 11 "GracefulRestart" "peers" "[LGracefulRestart$Peer;") (List.mem_of_getElem? (i := 1) rfl)) (fun _ h9 => h9) (xV_0 _ _) dX1_advertise_6 ?_
      refine va_alen (v := 5) hx hb hK hP 1 2 (xG_P _ _ _ _ _ _) rfl rfl dX1_advertise_9 ?_
      refine lv_icmp_ge (tgt := 69) hx hb dX1_advertise_10 (by decide) (fun c_ => absurd c_ (nI_ge (a := i) (b := 5) hlt (by decide))) (fun _ => ?_)
      refine lv_aload_n hx hb dX1_advertise_13 rfl (lv_at hl 0 rfl) ?_
      refine va_get (D := D) (ci := 1) (v := .ref (ad 1)) (C := RX1) (T := TX1) (N := 9) hx hb hts hi1 hown hK hP 0 (xO _ _ _ _ _ _) rfl 0 (by decide) (hts (.fieldLink RX1 11 "GracefulRestart" "peers" "[LGracefulRestart$Peer;") (List.mem_of_getElem? (i := 1) rfl)) (fun _ h9 => h9) (xV_0 _ _) dX1_advertise_14 ?_
      refine lv_iload hx hb dX1_advertise_17 (lv_at hl 4 rfl) ?_
      by_cases hin : i < g_N S
      · have hmi : min i (g_N S) = i := by omega
        rw [hmi] at hP hD
        refine k_aald (k := i) (v := .ref (pd i 0)) hx hb hK hP 1 2 (xG_P _ _ _ _ _ _) rfl rfl (by omega) (by decide) (xR_in (by rw [show g_N (a_i S r9 hop len i) = g_N S from (a_i_N _ _ _ _ _)]; omega)) dX1_advertise_19 ?_
        refine lv_astore (lv' := [(5, .ref (pd i 0)), (0, .ref (ad 0)), (1, .int (nI r9)), (2, .int hop), (3, .int len), (4, .int (nI i))]) hx hb dX1_advertise_20 hl (by decide) rfl (fun ls hl => ?_)
        refine lv_aload hx hb dX1_advertise_22 (lv_at hl 0 rfl) ?_
        refine lv_ifnull hx hb dX1_advertise_24 ?_
        refine lv_aload hx hb dX1_advertise_27 (lv_at hl 0 rfl) ?_
        refine va_getN (D := D) (ci := 0) (v := .int ((g_St (a_i S r9 hop len i)) i)) (C := RX0) (T := TX0) (N := 8) hx hb hts hi0 hown hK hP (4 + (4 * i + 0)) (yO _ _ _ _ _ _ (by rw [show g_N (a_i S r9 hop len i) = g_N S from (a_i_N _ _ _ _ _)]; omega)) rfl 4 (by decide) (va_Nw.use rfl (hN (.fieldLinkNest RX1 71 RX0 "state" "I" RX1) (List.mem_of_getElem? (i := 3) rfl))) (fun _ h9 => h9) (yV_4 _ _ _) dX1_advertise_29 ?_
        refine k_top (y := (g_St S) i) (congrFun (a_i_St _ _ _ _ _) i) ?_
        refine lv_if_ne (tgt := 63) hx hb dX1_advertise_32 (by decide) (fun c_32 => ?_) (fun c_32 => ?_)
        · refine lv_iinc (v := nI (i + 1)) (lv' := [(4, .int (nI (i + 1))), (5, .ref (pd i 0)), (0, .ref (ad 0)), (1, .int (nI r9)), (2, .int hop), (3, .int len)]) hx hb dX1_advertise_63 hl (k := 5) rfl (nI_1 i) (by decide) rfl (fun ls hl => ?_)
          refine lv_goto (tgt := 3) hx hb dX1_advertise_66 (by decide) ?_
          rw [a_skip c_32] at hP hD
          exact ih (i + 1) (by omega) _ _ ls (by rw [show min (i + 1) (g_N S) = i + 1 by omega]; exact hP) (by rw [show min (i + 1) (g_N S) = i + 1 by omega]; exact hD) hS (lv_sub hl [2, 3, 4, 5, 0] rfl)
        · refine lv_iload_n hx hb dX1_advertise_35 rfl (lv_at hl 3 rfl) ?_
          refine lv_bipush (v := -6) hx hb dX1_advertise_36 (by decide) ?_
          refine lv_icmp_eq (tgt := 47) hx hb dX1_advertise_38 (by decide) (fun c_38 => ?_) (fun c_38 => ?_)
          · refine lv_aload hx hb dX1_advertise_47 (lv_at hl 0 rfl) ?_
            refine lv_iload_n hx hb dX1_advertise_49 rfl (lv_at hl 2 rfl) ?_
            refine kVN (As := [.int (nI r9)]) (rest := []) (Wc := (xB cI cZ pd (a_i S r9 hop len i) i)) (Wc1 := (xB cI cZ pd (q_Hr (a_i S r9 hop len i) i r9) i)) (Wd1 := (xW cI cZ cP ad pd (q_Hr (a_i S r9 hop len i) i r9))) (o := none) ⟨hx, hb, hml, hown, hts⟩ (s_X0_hearNothing l D cI cZ cP pd (a_i S r9 hop len i) i r9 (by omega)) ⟨va_cnB 1 hts gX1_advertise_X0_hearNothing_n138 rfl rfl rfl (hN (.methodLinkNest RX1 138 yX0_hearNothing RX1) (List.mem_of_getElem? (i := 9) rfl)) (hts (.initialized RX0) (List.mem_of_getElem? (i := 3) rfl)) (by decide +kernel) ⟨Nat.le_of_ble_eq_true rfl, Nat.le_of_ble_eq_true rfl⟩, (hts (.instanceMethod yX0_hearNothing) (List.mem_of_getElem? (i := 2) rfl)), (hts (.selects RX0 yX0_hearNothing yX0_hearNothing) (List.mem_of_getElem? (i := 4) rfl))⟩ hK hN hP hD hS (fun j => 4 + (4 * i + j)) (fun j7 q7 h7 => y_hf (by rw [show g_N (a_i S r9 hop len i) = g_N S from (a_i_N _ _ _ _ _)]; omega) j7 q7 h7) (y_inj i) (xW_adr (one_Hr (cI := cI) (cZ := cZ) (pd := pd) (a_i S r9 hop len i) i r9).1) (fun i7 q7 h7 => xW_new (one_Hr (cI := cI) (cZ := cZ) (pd := pd) (a_i S r9 hop len i) i r9) i7 q7 h7) (4 + (4 * i + 0)) 0 rfl rfl (yO _ _ _ _ _ _ (by rw [show g_N (a_i S r9 hop len i) = g_N S from (a_i_N _ _ _ _ _)]; omega)) rfl hl.1 rfl (Nat.le_of_ble_eq_true rfl) ⟨Nat.zero_le _, Nat.zero_le _⟩ dX1_advertise_50 (fun H locs hP hD hS => ?_)
            refine lv_goto (tgt := 63) hx hb dX1_advertise_53 (by decide) ?_
            refine lv_iinc (v := nI (i + 1)) (lv' := [(4, .int (nI (i + 1))), (5, .ref (pd i 0)), (0, .ref (ad 0)), (1, .int (nI r9)), (2, .int hop), (3, .int len)]) hx hb dX1_advertise_63 hl (k := 5) rfl (nI_1 i) (by decide) rfl (fun ls hl => ?_)
            refine lv_goto (tgt := 3) hx hb dX1_advertise_66 (by decide) ?_
            rw [a1_hr (hop := hop) (len := len) ((congrFun (a_i_St _ _ _ _ _) i).trans c_32) (Or.inl c_38), ai_s] at hP hD
            exact ih (i + 1) (by omega) _ _ ls (by rw [show min (i + 1) (g_N S) = i + 1 by omega]; exact hP) (by rw [show min (i + 1) (g_N S) = i + 1 by omega]; exact hD) hS (lv_sub hl [2, 3, 4, 5, 0] rfl)
          · refine lv_iload_n hx hb dX1_advertise_41 rfl (lv_at hl 3 rfl) ?_
            refine lv_iload hx hb dX1_advertise_42 (lv_at hl 5 rfl) ?_
            refine lv_icmp_ne (tgt := 56) hx hb dX1_advertise_44 (by decide) (fun c_44 => ?_) (fun c_44 => ?_)
            · refine lv_aload hx hb dX1_advertise_56 (lv_at hl 0 rfl) ?_
              refine lv_iload_n hx hb dX1_advertise_58 rfl (lv_at hl 2 rfl) ?_
              refine lv_iload_n hx hb dX1_advertise_59 rfl (lv_at hl 4 rfl) ?_
              refine kVN (As := [.int (nI r9), .int len]) (rest := []) (Wc := (xB cI cZ pd (a_i S r9 hop len i) i)) (Wc1 := (xB cI cZ pd (q_Ln (a_i S r9 hop len i) i r9 len) i)) (Wd1 := (xW cI cZ cP ad pd (q_Ln (a_i S r9 hop len i) i r9 len))) (o := none) ⟨hx, hb, hml, hown, hts⟩ (s_X0_learn l D cI cZ cP pd (a_i S r9 hop len i) i r9 len (by omega)) ⟨va_cnB 2 hts gX1_advertise_X0_learn_n141 rfl rfl rfl (hN (.methodLinkNest RX1 141 yX0_learn RX1) (List.mem_of_getElem? (i := 10) rfl)) (hts (.initialized RX0) (List.mem_of_getElem? (i := 3) rfl)) (by decide +kernel) ⟨Nat.le_of_ble_eq_true rfl, Nat.le_of_ble_eq_true rfl⟩, (hts (.instanceMethod yX0_learn) (List.mem_of_getElem? (i := 8) rfl)), (hts (.selects RX0 yX0_learn yX0_learn) (List.mem_of_getElem? (i := 9) rfl))⟩ hK hN hP hD hS (fun j => 4 + (4 * i + j)) (fun j7 q7 h7 => y_hf (by rw [show g_N (a_i S r9 hop len i) = g_N S from (a_i_N _ _ _ _ _)]; omega) j7 q7 h7) (y_inj i) (xW_adr (one_Ln (cI := cI) (cZ := cZ) (pd := pd) (a_i S r9 hop len i) i r9 len).1) (fun i7 q7 h7 => xW_new (one_Ln (cI := cI) (cZ := cZ) (pd := pd) (a_i S r9 hop len i) i r9 len) i7 q7 h7) (4 + (4 * i + 0)) 0 rfl rfl (yO _ _ _ _ _ _ (by rw [show g_N (a_i S r9 hop len i) = g_N S from (a_i_N _ _ _ _ _)]; omega)) rfl hl.1 rfl (Nat.le_of_ble_eq_true rfl) ⟨Nat.zero_le _, Nat.zero_le _⟩ dX1_advertise_60 (fun H locs hP hD hS => ?_)
              refine lv_iinc (v := nI (i + 1)) (lv' := [(4, .int (nI (i + 1))), (5, .ref (pd i 0)), (0, .ref (ad 0)), (1, .int (nI r9)), (2, .int hop), (3, .int len)]) hx hb dX1_advertise_63 hl (k := 5) rfl (nI_1 i) (by decide) rfl (fun ls hl => ?_)
              refine lv_goto (tgt := 3) hx hb dX1_advertise_66 (by decide) ?_
              rw [a1_ln (hop := hop) (len := len) ((congrFun (a_i_St _ _ _ _ _) i).trans c_32) (fun z => z.elim c_38 c_44), ai_s] at hP hD
              exact ih (i + 1) (by omega) _ _ ls (by rw [show min (i + 1) (g_N S) = i + 1 by omega]; exact hP) (by rw [show min (i + 1) (g_N S) = i + 1 by omega]; exact hD) hS (lv_sub hl [2, 3, 4, 5, 0] rfl)
            · refine lv_aload hx hb dX1_advertise_47 (lv_at hl 0 rfl) ?_
              refine lv_iload_n hx hb dX1_advertise_49 rfl (lv_at hl 2 rfl) ?_
              refine kVN (As := [.int (nI r9)]) (rest := []) (Wc := (xB cI cZ pd (a_i S r9 hop len i) i)) (Wc1 := (xB cI cZ pd (q_Hr (a_i S r9 hop len i) i r9) i)) (Wd1 := (xW cI cZ cP ad pd (q_Hr (a_i S r9 hop len i) i r9))) (o := none) ⟨hx, hb, hml, hown, hts⟩ (s_X0_hearNothing l D cI cZ cP pd (a_i S r9 hop len i) i r9 (by omega)) ⟨va_cnB 1 hts gX1_advertise_X0_hearNothing_n138 rfl rfl rfl (hN (.methodLinkNest RX1 138 yX0_hearNothing RX1) (List.mem_of_getElem? (i := 9) rfl)) (hts (.initialized RX0) (List.mem_of_getElem? (i := 3) rfl)) (by decide +kernel) ⟨Nat.le_of_ble_eq_true rfl, Nat.le_of_ble_eq_true rfl⟩, (hts (.instanceMethod yX0_hearNothing) (List.mem_of_getElem? (i := 2) rfl)), (hts (.selects RX0 yX0_hearNothing yX0_hearNothing) (List.mem_of_getElem? (i := 4) rfl))⟩ hK hN hP hD hS (fun j => 4 + (4 * i + j)) (fun j7 q7 h7 => y_hf (by rw [show g_N (a_i S r9 hop len i) = g_N S from (a_i_N _ _ _ _ _)]; omega) j7 q7 h7) (y_inj i) (xW_adr (one_Hr (cI := cI) (cZ := cZ) (pd := pd) (a_i S r9 hop len i) i r9).1) (fun i7 q7 h7 => xW_new (one_Hr (cI := cI) (cZ := cZ) (pd := pd) (a_i S r9 hop len i) i r9) i7 q7 h7) (4 + (4 * i + 0)) 0 rfl rfl (yO _ _ _ _ _ _ (by rw [show g_N (a_i S r9 hop len i) = g_N S from (a_i_N _ _ _ _ _)]; omega)) rfl hl.1 rfl (Nat.le_of_ble_eq_true rfl) ⟨Nat.zero_le _, Nat.zero_le _⟩ dX1_advertise_50 (fun H locs hP hD hS => ?_)
              refine lv_goto (tgt := 63) hx hb dX1_advertise_53 (by decide) ?_
              refine lv_iinc (v := nI (i + 1)) (lv' := [(4, .int (nI (i + 1))), (5, .ref (pd i 0)), (0, .ref (ad 0)), (1, .int (nI r9)), (2, .int hop), (3, .int len)]) hx hb dX1_advertise_63 hl (k := 5) rfl (nI_1 i) (by decide) rfl (fun ls hl => ?_)
              refine lv_goto (tgt := 3) hx hb dX1_advertise_66 (by decide) ?_
              rw [a1_hr (hop := hop) (len := len) ((congrFun (a_i_St _ _ _ _ _) i).trans c_32) (Or.inr c_44), ai_s] at hP hD
              exact ih (i + 1) (by omega) _ _ ls (by rw [show min (i + 1) (g_N S) = i + 1 by omega]; exact hP) (by rw [show min (i + 1) (g_N S) = i + 1 by omega]; exact hD) hS (lv_sub hl [2, 3, 4, 5, 0] rfl)
      · refine k_aald (k := i) (v := .null) hx hb hK hP 1 2 (xG_P _ _ _ _ _ _) rfl rfl (by omega) (by decide) (xR_out (by rw [show g_N (a_i S r9 hop len (min i (g_N S))) = g_N S from (a_i_N _ _ _ _ _)]; omega)) dX1_advertise_19 ?_
        refine lv_astoreN (lv' := [(5, .null), (0, .ref (ad 0)), (1, .int (nI r9)), (2, .int hop), (3, .int len), (4, .int (nI i))]) hx hb dX1_advertise_20 hl (by decide) rfl (fun ls hl => ?_)
        refine lv_aloadN hx hb dX1_advertise_22 (lv_at hl 0 rfl) ?_
        refine lv_ifnullN (tgt := 63) hx hb dX1_advertise_24 (by decide) ?_
        refine lv_iinc (v := nI (i + 1)) (lv' := [(4, .int (nI (i + 1))), (5, .null), (0, .ref (ad 0)), (1, .int (nI r9)), (2, .int hop), (3, .int len)]) hx hb dX1_advertise_63 hl (k := 5) rfl (nI_1 i) (by decide) rfl (fun ls hl => ?_)
        refine lv_goto (tgt := 3) hx hb dX1_advertise_66 (by decide) ?_
        exact ih (i + 1) (by omega) _ _ ls (by rw [show min (i + 1) (g_N S) = min i (g_N S) by omega]; exact hP) (by rw [show min (i + 1) (g_N S) = min i (g_N S) by omega]; exact hD) hS (lv_sub hl [2, 3, 4, 5, 0] rfl)
  exact lp3 5 0 (by omega) _ _ ls (by rw [Nat.zero_min, ai_0]; exact hP) (by rw [Nat.zero_min, ai_0]; exact hD) hS (lv_sub hl [1, 2, 3, 4, 0] rfl)

set_option maxRecDepth 100000 in
set_option maxHeartbeats 4000000 in
theorem c_X1_select (l : Launch) (D : va_G) (cI cZ cP : ClassId) (ad : Nat → Nat) (pd : Nat → Nat → Nat) (S : ST) (r9 : Nat) (hn : g_N S ≤ 5) (hr9 : r9 < 16) : MM l yX1_select wsX1_select ({ frames := 2, cells := 0, slots := 0, locals := 47 }) D (kTy cI cZ cP) [.ref (ad 0), .int (nI r9)] (xW cI cZ cP ad pd S) (none) (xW cI cZ cP ad pd (o_Sel S r9)) := by
  refine MM.ofW (cc := cX1_select) (maxL := 7) (ret := none) (by decide) rfl (Nat.le_of_ble_eq_true rfl) ?_
  intro p e s m below meth c ls A hx hb hr hlk hml hts hown hK hN hP hD hS hAe hl
  have hown : s.vm.findClass RX1 = some m.cls := hown
  have hi1 : ∀ w ∈ wsX10, w ∈ wsX1_select := fun w h => List.mem_cons_of_mem _ (List.mem_append_left _ (List.mem_append_right _ h))
  have hi0 : ∀ w ∈ wsX00, w ∈ wsX1_select := fun w h => List.mem_cons_of_mem _ (List.mem_append_right _ h)
  have hl : lv_has ls 7 [(0, .ref (ad 0)), (1, .int (nI r9))] := hl
  refine lv_bipush (v := -6) hx hb dX1_select_0 (by decide) ?_
  refine lv_istore_n (lv' := [(2, .int (-6)), (0, .ref (ad 0)), (1, .int (nI r9))]) hx hb dX1_select_2 rfl hl (by decide) rfl (fun ls hl => ?_)
  refine lv_iconst (v := 0) hx hb dX1_select_3 (by decide) ?_
  refine lv_istore_n (lv' := [(3, .int 0), (2, .int (-6)), (0, .ref (ad 0)), (1, .int (nI r9))]) hx hb dX1_select_4 rfl hl (by decide) rfl (fun ls hl => ?_)
  refine lv_iconst (v := 0) hx hb dX1_select_5 (by decide) ?_
  refine lv_istore (lv' := [(4, .int 0), (3, .int 0), (2, .int (-6)), (0, .ref (ad 0)), (1, .int (nI r9))]) hx hb dX1_select_6 hl (by decide) rfl (fun ls hl => ?_)
  have lp8 : ∀ (n9 i : Nat), i + n9 = 5 → ∀ (H : Heap) (locs : List Loc) (ls : Array Slot), va_P D vwCl (xW cI cZ cP ad pd S) H → va_D A (xW cI cZ cP ad pd S) → va_S A s.heap H locs → lv_has ls 7 [(0, .ref (ad 0)), (1, .int (nI r9)), (2, .int ((b_at S r9 (min i (g_N S))).1)), (3, .int ((b_at S r9 (min i (g_N S))).2)), (4, .int (nI i))] → W p l e (headSpec wsX1_select ({ frames := 2, cells := 0, slots := 0, locals := 47 })).room s m ([.ref (ad 0), .int (nI r9)] : List Value).toArray below meth c H locs 0 0 (MQ below (kPost D (xW cI cZ cP ad pd S) (xW cI cZ cP ad pd (o_Sel S r9)) (none)) ([.ref (ad 0), .int (nI r9)] : List Value).toArray s 0 0 (kA (xW cI cZ cP ad pd S))) (F0 m 8 ls []) := by
    intro n9
    induction n9 with
    | zero =>
      intro i hi9 H locs ls hP hD hS hl
      have hi8 : i = 5 := by omega
      subst hi8
      rw [show min 5 (g_N S) = g_N S by omega] at hl
      refine lv_iload hx hb dX1_select_8 (lv_at hl 4 rfl) ?_
      refine lv_aload_n hx hb dX1_select_10 rfl (lv_at hl 0 rfl) ?_
      refine va_get (D := D) (ci := 1) (v := .ref (ad 1)) (C := RX1) (T := TX1) (N := 9) hx hb hts hi1 hown hK hP 0 (xO _ _ _ _ _ _) rfl 0 (by decide) (hts (.fieldLink RX1 11 "GracefulRestart" "peers" "[LGracefulRestart$Peer;") (List.mem_of_getElem? (i := 1) rfl)) (fun _ h9 => h9) (xV_0 _ _) dX1_select_11 ?_
      refine va_alen (v := 5) hx hb hK hP 1 2 (xG_P _ _ _ _ _ _) rfl rfl dX1_select_14 ?_
      refine lv_icmp_ge (tgt := 73) hx hb dX1_select_15 (by decide) (fun _ => ?_) (fun c_ => absurd (by decide) c_)
      refine lv_aload_n hx hb dX1_select_73 rfl (lv_at hl 0 rfl) ?_
      refine va_get (D := D) (ci := 1) (v := .ref (ad 2)) (C := RX1) (T := TX1) (N := 9) hx hb hts hi1 hown hK hP 0 (xO _ _ _ _ _ _) rfl 1 (by decide) (hts (.fieldLink RX1 15 "GracefulRestart" "hops" "[I") (List.mem_of_getElem? (i := 2) rfl)) (fun _ h9 => h9) (xV_1 _ _) dX1_select_74 ?_
      refine lv_iload_n hx hb dX1_select_77 rfl (lv_at hl 1 rfl) ?_
      refine lv_iload_n hx hb dX1_select_78 rfl (lv_at hl 2 rfl) ?_
      refine k_iast (k := r9) hx hb hK hP hD hS 2 0 (xG_Ho _ _ _ _ _ _) rfl rfl (by omega) (by decide) (W1 := (xW cI cZ cP ad pd (s_Ho S (upd (g_Ho S) r9 ((b_at S r9 (g_N S)).1))))) (xS_Ho _ _ _ _ _ _ _) dX1_select_79 (fun H locs hP hD hS => ?_)
      refine lv_aload_n hx hb dX1_select_80 rfl (lv_at hl 0 rfl) ?_
      refine va_get (D := D) (ci := 1) (v := .ref (ad 3)) (C := RX1) (T := TX1) (N := 9) hx hb hts hi1 hown hK hP 0 (xO _ _ _ _ _ _) rfl 2 (by decide) (hts (.fieldLink RX1 19 "GracefulRestart" "staleHops" "[Z") (List.mem_of_getElem? (i := 3) rfl)) (fun _ h9 => h9) (xV_2 _ _) dX1_select_81 ?_
      refine lv_iload_n hx hb dX1_select_84 rfl (lv_at hl 1 rfl) ?_
      refine lv_iconst (v := 0) hx hb dX1_select_85 (by decide) ?_
      refine k_zast (k := r9) hx hb hK hP hD hS 3 1 (xG_Hs _ _ _ _ _ _) rfl rfl (by omega) (by decide) (by decide) (W1 := (xW cI cZ cP ad pd (o_Ent S r9 (b_at S r9 (g_N S)).1))) (by rw [show g_Hs (s_Ho S (upd (g_Ho S) r9 ((b_at S r9 (g_N S)).1))) = g_Hs S from (gs_Hs_Ho _ _), xS_HsHz cI cZ cP ad pd _ (upd (g_Hz S) r9 0) _, Ent_e]) dX1_select_86 (fun H locs hP hD hS => ?_)
      refine lv_aload_n hx hb dX1_select_87 rfl (lv_at hl 0 rfl) ?_
      refine lv_iload_n hx hb dX1_select_88 rfl (lv_at hl 1 rfl) ?_
      refine lv_iload_n hx hb dX1_select_89 rfl (lv_at hl 2 rfl) ?_
      refine lv_iload_n hx hb dX1_select_90 rfl (lv_at hl 3 rfl) ?_
      refine lv_iconst (v := 1) hx hb dX1_select_91 (by decide) ?_
      refine lv_iadd hx hb dX1_select_92 ?_
      refine kV (As := [.int (nI r9), .int ((b_at S r9 (g_N S)).1), .int (((b_at S r9 (g_N S)).2) + 1)]) (rest := []) (Wc := (xW cI cZ cP ad pd (o_Ent S r9 (b_at S r9 (g_N S)).1))) (Wc1 := (xW cI cZ cP ad pd (a_i (o_Ent S r9 (b_at S r9 (g_N S)).1) r9 ((b_at S r9 (g_N S)).1) (((b_at S r9 (g_N S)).2) + 1) (g_N (o_Ent S r9 (b_at S r9 (g_N S)).1))))) (Wd1 := (xW cI cZ cP ad pd (a_i (o_Ent S r9 (b_at S r9 (g_N S)).1) r9 ((b_at S r9 (g_N S)).1) (((b_at S r9 (g_N S)).2) + 1) (g_N (o_Ent S r9 (b_at S r9 (g_N S)).1))))) (o := none) ⟨hx, hb, hml, hown, hts⟩ (c_X1_advertise l D cI cZ cP ad pd (o_Ent S r9 (b_at S r9 (g_N S)).1) r9 ((b_at S r9 (g_N S)).1) (((b_at S r9 (g_N S)).2) + 1) (by rw [Ent_N]; exact hn) hr9) (cwV 3 hts gX1_select_X1_advertise rfl rfl rfl (by decide +kernel) ⟨Nat.le_of_ble_eq_true rfl, Nat.le_of_ble_eq_true rfl⟩) hK hN hP hD hS (fun j => j) (fun _ _ h => h) (fun _ _ _ _ h => h) (xW_adr (a_i_N _ _ _ _ _)) (fun k q h => Or.inl ⟨k, h⟩) 0 1 rfl rfl (xO _ _ _ _ _ _) rfl hl.1 rfl (Nat.le_of_ble_eq_true rfl) ⟨Nat.zero_le _, Nat.zero_le _⟩ dX1_select_93 (fun H locs hP hD hS => ?_)
      exact k_vret hx hb hr hlk hP hS hAe (by rw [Ent_N, Sel_e]) dX1_select_96
    | succ n9 ih =>
      intro i hi9 H locs ls hP hD hS hl
      have hlt : i < 5 := by omega
      refine lv_iload hx hb dX1_select_8 (lv_at hl 4 rfl) ?_
      refine lv_aload_n hx hb dX1_select_10 rfl (lv_at hl 0 rfl) ?_
      refine va_get (D := D) (ci := 1) (v := .ref (ad 1)) (C := RX1) (T := TX1) (N := 9) hx hb hts hi1 hown hK hP 0 (xO _ _ _ _ _ _) rfl 0 (by decide) (hts (.fieldLink RX1 11 "GracefulRestart" "peers" "[LGracefulRestart$Peer;") (List.mem_of_getElem? (i := 1) rfl)) (fun _ h9 => h9) (xV_0 _ _) dX1_select_11 ?_
      refine va_alen (v := 5) hx hb hK hP 1 2 (xG_P _ _ _ _ _ _) rfl rfl dX1_select_14 ?_
      refine lv_icmp_ge (tgt := 73) hx hb dX1_select_15 (by decide) (fun c_ => absurd c_ (nI_ge (a := i) (b := 5) hlt (by decide))) (fun _ => ?_)
      refine lv_aload_n hx hb dX1_select_18 rfl (lv_at hl 0 rfl) ?_
      refine va_get (D := D) (ci := 1) (v := .ref (ad 1)) (C := RX1) (T := TX1) (N := 9) hx hb hts hi1 hown hK hP 0 (xO _ _ _ _ _ _) rfl 0 (by decide) (hts (.fieldLink RX1 11 "GracefulRestart" "peers" "[LGracefulRestart$Peer;") (List.mem_of_getElem? (i := 1) rfl)) (fun _ h9 => h9) (xV_0 _ _) dX1_select_19 ?_
      refine lv_iload hx hb dX1_select_22 (lv_at hl 4 rfl) ?_
      by_cases hin : i < g_N S
      · have hmi : min i (g_N S) = i := by omega
        rw [hmi] at hl
        refine k_aald (k := i) (v := .ref (pd i 0)) hx hb hK hP 1 2 (xG_P _ _ _ _ _ _) rfl rfl (by omega) (by decide) (xR_in (by omega)) dX1_select_24 ?_
        refine lv_astore (lv' := [(5, .ref (pd i 0)), (0, .ref (ad 0)), (1, .int (nI r9)), (2, .int ((b_at S r9 i).1)), (3, .int ((b_at S r9 i).2)), (4, .int (nI i))]) hx hb dX1_select_25 hl (by decide) rfl (fun ls hl => ?_)
        refine lv_aload hx hb dX1_select_27 (lv_at hl 0 rfl) ?_
        refine lv_ifnonnull (tgt := 36) hx hb dX1_select_29 (by decide) ?_
        refine lv_aload hx hb dX1_select_36 (lv_at hl 0 rfl) ?_
        refine lv_iload_n hx hb dX1_select_38 rfl (lv_at hl 2 rfl) ?_
        refine kVN (As := [.int (nI r9)]) (rest := []) (Wc := (xB cI cZ pd S i)) (Wc1 := (xB cI cZ pd S i)) (Wd1 := (xW cI cZ cP ad pd S)) (o := some (.int (b_len S r9 i))) ⟨hx, hb, hml, hown, hts⟩ (s_X0_knownOffer l D cI cZ cP pd S i r9 (by omega)) ⟨va_cnB 1 hts gX1_select_X0_knownOffer_n130 rfl rfl rfl (hN (.methodLinkNest RX1 130 yX0_knownOffer RX1) (List.mem_of_getElem? (i := 8) rfl)) (hts (.initialized RX0) (List.mem_of_getElem? (i := 5) rfl)) (by decide +kernel) ⟨Nat.le_of_ble_eq_true rfl, Nat.le_of_ble_eq_true rfl⟩, (hts (.instanceMethod yX0_knownOffer) (List.mem_of_getElem? (i := 4) rfl)), (hts (.selects RX0 yX0_knownOffer yX0_knownOffer) (List.mem_of_getElem? (i := 6) rfl))⟩ hK hN hP hD hS (fun j => 4 + (4 * i + j)) (fun j7 q7 h7 => y_hf (by omega) j7 q7 h7) (y_inj i) (xW_adr (one_rf (cI := cI) (cZ := cZ) (pd := pd) S i).1) (fun i7 q7 h7 => xW_new (one_rf (cI := cI) (cZ := cZ) (pd := pd) S i) i7 q7 h7) (4 + (4 * i + 0)) 0 rfl rfl (yO _ _ _ _ _ _ (by omega)) rfl hl.1 rfl (Nat.le_of_ble_eq_true rfl) ⟨Nat.zero_le _, Nat.zero_le _⟩ dX1_select_39 (fun H locs hP hD hS => ?_)
        refine lv_istore (lv' := [(6, .int (b_len S r9 i)), (5, .ref (pd i 0)), (0, .ref (ad 0)), (1, .int (nI r9)), (2, .int ((b_at S r9 i).1)), (3, .int ((b_at S r9 i).2)), (4, .int (nI i))]) hx hb dX1_select_42 hl (by decide) rfl (fun ls hl => ?_)
        refine lv_iload hx hb dX1_select_44 (lv_at hl 0 rfl) ?_
        refine lv_if_le (tgt := 67) hx hb dX1_select_46 (by decide) (fun c_46 => ?_) (fun c_46 => ?_)
        · refine lv_iinc (v := nI (i + 1)) (lv' := [(4, .int (nI (i + 1))), (6, .int (b_len S r9 i)), (5, .ref (pd i 0)), (0, .ref (ad 0)), (1, .int (nI r9)), (2, .int ((b_at S r9 i).1)), (3, .int ((b_at S r9 i).2))]) hx hb dX1_select_67 hl (k := 6) rfl (nI_1 i) (by decide) rfl (fun ls hl => ?_)
          refine lv_goto (tgt := 8) hx hb dX1_select_70 (by decide) ?_
          exact ih (i + 1) (by omega) _ _ ls hP hD hS (lv_cv (lv_sub hl [3, 4, 5, 6, 0] rfl) (by rw [show min (i + 1) (g_N S) = i + 1 by omega, ← b_keep (fun z => absurd z.1 (Int32.not_lt.mpr c_46))]; rfl))
        · refine lv_iload_n hx hb dX1_select_49 rfl (lv_at hl 4 rfl) ?_
          refine lv_bipush (v := -6) hx hb dX1_select_50 (by decide) ?_
          refine lv_icmp_eq (tgt := 61) hx hb dX1_select_52 (by decide) (fun c_52 => ?_) (fun c_52 => ?_)
          · refine lv_iload hx hb dX1_select_61 (lv_at hl 6 rfl) ?_
            refine lv_istore_n (lv' := [(2, .int (nI i)), (6, .int (b_len S r9 i)), (5, .ref (pd i 0)), (0, .ref (ad 0)), (1, .int (nI r9)), (3, .int ((b_at S r9 i).2)), (4, .int (nI i))]) hx hb dX1_select_63 rfl hl (by decide) rfl (fun ls hl => ?_)
            refine lv_iload hx hb dX1_select_64 (lv_at hl 1 rfl) ?_
            refine lv_istore_n (lv' := [(3, .int (b_len S r9 i)), (2, .int (nI i)), (6, .int (b_len S r9 i)), (5, .ref (pd i 0)), (0, .ref (ad 0)), (1, .int (nI r9)), (4, .int (nI i))]) hx hb dX1_select_66 rfl hl (by decide) rfl (fun ls hl => ?_)
            refine lv_iinc (v := nI (i + 1)) (lv' := [(4, .int (nI (i + 1))), (3, .int (b_len S r9 i)), (2, .int (nI i)), (6, .int (b_len S r9 i)), (5, .ref (pd i 0)), (0, .ref (ad 0)), (1, .int (nI r9))]) hx hb dX1_select_67 hl (k := 6) rfl (nI_1 i) (by decide) rfl (fun ls hl => ?_)
            refine lv_goto (tgt := 8) hx hb dX1_select_70 (by decide) ?_
            exact ih (i + 1) (by omega) _ _ ls hP hD hS (lv_cv (lv_sub hl [5, 6, 2, 1, 0] rfl) (by rw [show min (i + 1) (g_N S) = i + 1 by omega, b_take ⟨Int32.not_le.mp c_46, Or.inl c_52⟩]; rfl))
          · refine lv_iload hx hb dX1_select_55 (lv_at hl 0 rfl) ?_
            refine lv_iload_n hx hb dX1_select_57 rfl (lv_at hl 5 rfl) ?_
            refine lv_icmp_ge (tgt := 67) hx hb dX1_select_58 (by decide) (fun c_58 => ?_) (fun c_58 => ?_)
            · refine lv_iinc (v := nI (i + 1)) (lv' := [(4, .int (nI (i + 1))), (6, .int (b_len S r9 i)), (5, .ref (pd i 0)), (0, .ref (ad 0)), (1, .int (nI r9)), (2, .int ((b_at S r9 i).1)), (3, .int ((b_at S r9 i).2))]) hx hb dX1_select_67 hl (k := 6) rfl (nI_1 i) (by decide) rfl (fun ls hl => ?_)
              refine lv_goto (tgt := 8) hx hb dX1_select_70 (by decide) ?_
              exact ih (i + 1) (by omega) _ _ ls hP hD hS (lv_cv (lv_sub hl [3, 4, 5, 6, 0] rfl) (by rw [show min (i + 1) (g_N S) = i + 1 by omega, ← b_keep (fun z => z.2.elim c_52 (Int32.not_lt.mpr c_58))]; rfl))
            · refine lv_iload hx hb dX1_select_61 (lv_at hl 6 rfl) ?_
              refine lv_istore_n (lv' := [(2, .int (nI i)), (6, .int (b_len S r9 i)), (5, .ref (pd i 0)), (0, .ref (ad 0)), (1, .int (nI r9)), (3, .int ((b_at S r9 i).2)), (4, .int (nI i))]) hx hb dX1_select_63 rfl hl (by decide) rfl (fun ls hl => ?_)
              refine lv_iload hx hb dX1_select_64 (lv_at hl 1 rfl) ?_
              refine lv_istore_n (lv' := [(3, .int (b_len S r9 i)), (2, .int (nI i)), (6, .int (b_len S r9 i)), (5, .ref (pd i 0)), (0, .ref (ad 0)), (1, .int (nI r9)), (4, .int (nI i))]) hx hb dX1_select_66 rfl hl (by decide) rfl (fun ls hl => ?_)
              refine lv_iinc (v := nI (i + 1)) (lv' := [(4, .int (nI (i + 1))), (3, .int (b_len S r9 i)), (2, .int (nI i)), (6, .int (b_len S r9 i)), (5, .ref (pd i 0)), (0, .ref (ad 0)), (1, .int (nI r9))]) hx hb dX1_select_67 hl (k := 6) rfl (nI_1 i) (by decide) rfl (fun ls hl => ?_)
              refine lv_goto (tgt := 8) hx hb dX1_select_70 (by decide) ?_
              exact ih (i + 1) (by omega) _ _ ls hP hD hS (lv_cv (lv_sub hl [5, 6, 2, 1, 0] rfl) (by rw [show min (i + 1) (g_N S) = i + 1 by omega, b_take ⟨Int32.not_le.mp c_46, Or.inr (Int32.not_le.mp c_58)⟩]; rfl))
      · refine k_aald (k := i) (v := .null) hx hb hK hP 1 2 (xG_P _ _ _ _ _ _) rfl rfl (by omega) (by decide) (xR_out (by omega)) dX1_select_24 ?_
        refine lv_astoreN (lv' := [(5, .null), (0, .ref (ad 0)), (1, .int (nI r9)), (2, .int ((b_at S r9 (min i (g_N S))).1)), (3, .int ((b_at S r9 (min i (g_N S))).2)), (4, .int (nI i))]) hx hb dX1_select_25 hl (by decide) rfl (fun ls hl => ?_)
        refine lv_aloadN hx hb dX1_select_27 (lv_at hl 0 rfl) ?_
        refine lv_ifnonnullN hx hb dX1_select_29 ?_
        refine lv_iconst (v := 0) hx hb dX1_select_32 (by decide) ?_
        refine lv_goto (tgt := 42) hx hb dX1_select_33 (by decide) ?_
        refine lv_istore (lv' := [(6, .int 0), (5, .null), (0, .ref (ad 0)), (1, .int (nI r9)), (2, .int ((b_at S r9 (min i (g_N S))).1)), (3, .int ((b_at S r9 (min i (g_N S))).2)), (4, .int (nI i))]) hx hb dX1_select_42 hl (by decide) rfl (fun ls hl => ?_)
        refine lv_iload hx hb dX1_select_44 (lv_at hl 0 rfl) ?_
        refine lv_if_le (tgt := 67) hx hb dX1_select_46 (by decide) (fun _ => ?_) (fun c_ => absurd (by decide) c_)
        refine lv_iinc (v := nI (i + 1)) (lv' := [(4, .int (nI (i + 1))), (6, .int 0), (5, .null), (0, .ref (ad 0)), (1, .int (nI r9)), (2, .int ((b_at S r9 (min i (g_N S))).1)), (3, .int ((b_at S r9 (min i (g_N S))).2))]) hx hb dX1_select_67 hl (k := 6) rfl (nI_1 i) (by decide) rfl (fun ls hl => ?_)
        refine lv_goto (tgt := 8) hx hb dX1_select_70 (by decide) ?_
        exact ih (i + 1) (by omega) _ _ ls hP hD hS (lv_cv (lv_sub hl [3, 4, 5, 6, 0] rfl) (by rw [show min (i + 1) (g_N S) = min i (g_N S) by omega]; rfl))
  exact lp8 5 0 (by omega) _ _ ls hP hD hS (lv_cv (lv_sub hl [3, 4, 2, 1, 0] rfl) (by rw [Nat.zero_min]; rfl))

set_option maxRecDepth 100000 in
set_option maxHeartbeats 4000000 in
theorem c_X1_selectAll (l : Launch) (D : va_G) (cI cZ cP : ClassId) (ad : Nat → Nat) (pd : Nat → Nat → Nat) (S : ST)  (hn : g_N S ≤ 5) : MM l yX1_selectAll wsX1_selectAll ({ frames := 3, cells := 0, slots := 0, locals := 73 }) D (kTy cI cZ cP) [.ref (ad 0)] (xW cI cZ cP ad pd S) (none) (xW cI cZ cP ad pd (o_SA S 16)) := by
  refine MM.ofW (cc := cX1_selectAll) (maxL := 2) (ret := none) (by decide) rfl (Nat.le_of_ble_eq_true rfl) ?_
  intro p e s m below meth c ls A hx hb hr hlk hml hts hown hK hN hP hD hS hAe hl
  have hown : s.vm.findClass RX1 = some m.cls := hown
  have hi1 : ∀ w ∈ wsX10, w ∈ wsX1_selectAll := fun w h => List.mem_cons_of_mem _ (List.mem_append_left _ (List.mem_append_right _ h))
  have hi0 : ∀ w ∈ wsX00, w ∈ wsX1_selectAll := fun w h => List.mem_cons_of_mem _ (List.mem_append_right _ h)
  have hl : lv_has ls 2 [(0, .ref (ad 0))] := hl
  refine lv_iconst (v := 0) hx hb dX1_selectAll_0 (by decide) ?_
  refine lv_istore_n (lv' := [(1, .int 0), (0, .ref (ad 0))]) hx hb dX1_selectAll_1 rfl hl (by decide) rfl (fun ls hl => ?_)
  have lp2 : ∀ (n9 i : Nat), i + n9 = 16 → ∀ (H : Heap) (locs : List Loc) (ls : Array Slot), va_P D vwCl (xW cI cZ cP ad pd (o_SA S i)) H → va_D A (xW cI cZ cP ad pd (o_SA S i)) → va_S A s.heap H locs → lv_has ls 2 [(0, .ref (ad 0)), (1, .int (nI i))] → W p l e (headSpec wsX1_selectAll ({ frames := 3, cells := 0, slots := 0, locals := 73 })).room s m ([.ref (ad 0)] : List Value).toArray below meth c H locs 0 0 (MQ below (kPost D (xW cI cZ cP ad pd S) (xW cI cZ cP ad pd (o_SA S 16)) (none)) ([.ref (ad 0)] : List Value).toArray s 0 0 (kA (xW cI cZ cP ad pd S))) (F0 m 2 ls []) := by
    intro n9
    induction n9 with
    | zero =>
      intro i hi9 H locs ls hP hD hS hl
      have hi8 : i = 16 := by omega
      subst hi8
      refine lv_iload_n hx hb dX1_selectAll_2 rfl (lv_at hl 1 rfl) ?_
      refine lv_bipush (v := 16) hx hb dX1_selectAll_3 (by decide) ?_
      refine lv_icmp_ge (tgt := 19) hx hb dX1_selectAll_5 (by decide) (fun _ => ?_) (fun c_ => absurd (by decide) c_)
      exact k_vret hx hb hr hlk hP hS hAe rfl dX1_selectAll_19
    | succ n9 ih =>
      intro i hi9 H locs ls hP hD hS hl
      have hlt : i < 16 := by omega
      refine lv_iload_n hx hb dX1_selectAll_2 rfl (lv_at hl 1 rfl) ?_
      refine lv_bipush (v := 16) hx hb dX1_selectAll_3 (by decide) ?_
      refine lv_icmp_ge (tgt := 19) hx hb dX1_selectAll_5 (by decide) (fun c_ => absurd c_ (nI_ge (a := i) (b := 16) hlt (by decide))) (fun _ => ?_)
      refine lv_aload_n hx hb dX1_selectAll_8 rfl (lv_at hl 0 rfl) ?_
      refine lv_iload_n hx hb dX1_selectAll_9 rfl (lv_at hl 1 rfl) ?_
      refine kV (As := [.int (nI i)]) (rest := []) (Wc := (xW cI cZ cP ad pd (o_SA S i))) (Wc1 := (xW cI cZ cP ad pd (o_Sel (o_SA S i) i))) (Wd1 := (xW cI cZ cP ad pd (o_Sel (o_SA S i) i))) (o := none) ⟨hx, hb, hml, hown, hts⟩ (c_X1_select l D cI cZ cP ad pd (o_SA S i) i (by rw [o_SA_N]; exact hn) (by omega)) (cwV 1 hts gX1_selectAll_X1_select rfl rfl rfl (by decide +kernel) ⟨Nat.le_of_ble_eq_true rfl, Nat.le_of_ble_eq_true rfl⟩) hK hN hP hD hS (fun j => j) (fun _ _ h => h) (fun _ _ _ _ h => h) (xW_adr (o_Sel_N _ _)) (fun k q h => Or.inl ⟨k, h⟩) 0 1 rfl rfl (xO _ _ _ _ _ _) rfl hl.1 rfl (Nat.le_of_ble_eq_true rfl) ⟨Nat.zero_le _, Nat.zero_le _⟩ dX1_selectAll_10 (fun H locs hP hD hS => ?_)
      refine lv_iinc (v := nI (i + 1)) (lv' := [(1, .int (nI (i + 1))), (0, .ref (ad 0))]) hx hb dX1_selectAll_13 hl (k := 1) rfl (nI_1 i) (by decide) rfl (fun ls hl => ?_)
      refine lv_goto (tgt := 2) hx hb dX1_selectAll_16 (by decide) ?_
      rw [SA_s] at hP hD
      exact ih (i + 1) (by omega) _ _ ls hP hD hS (lv_sub hl [1, 0] rfl)
  exact lp2 16 0 (by omega) _ _ ls (by rw [SA_0]; exact hP) (by rw [SA_0]; exact hD) hS (lv_sub hl [1, 0] rfl)

set_option maxRecDepth 100000 in
set_option maxHeartbeats 4000000 in
theorem c_X1_selectAfterOffer (l : Launch) (D : va_G) (cI cZ cP : ClassId) (ad : Nat → Nat) (pd : Nat → Nat → Nat) (S : ST) (k r9 : Nat) (hn : g_N S ≤ 5) (hk : k < g_N S) (hr9 : r9 < 16) : MM l yX1_selectAfterOffer wsX1_selectAfterOffer ({ frames := 3, cells := 0, slots := 0, locals := 73 }) D (kTy cI cZ cP) [.ref (ad 0), .ref (pd k 0), .int (nI r9)] (xW cI cZ cP ad pd S) (none) (xW cI cZ cP ad pd (if g_Df S = 0 ∧ g_St S k = 0 then o_Sel S r9 else S)) := by
  refine MM.ofW (cc := cX1_selectAfterOffer) (maxL := 3) (ret := none) (by decide) rfl (Nat.le_of_ble_eq_true rfl) ?_
  intro p e s m below meth c ls A hx hb hr hlk hml hts hown hK hN hP hD hS hAe hl
  have hown : s.vm.findClass RX1 = some m.cls := hown
  have hi1 : ∀ w ∈ wsX10, w ∈ wsX1_selectAfterOffer := fun w h => List.mem_cons_of_mem _ (List.mem_append_left _ (List.mem_append_right _ h))
  have hi0 : ∀ w ∈ wsX00, w ∈ wsX1_selectAfterOffer := fun w h => List.mem_cons_of_mem _ (List.mem_append_right _ h)
  have hl : lv_has ls 3 [(0, .ref (ad 0)), (1, .ref (pd k 0)), (2, .int (nI r9))] := hl
  refine lv_aload_n hx hb dX1_selectAfterOffer_0 rfl (lv_at hl 0 rfl) ?_
  refine va_get (D := D) (ci := 1) (v := .int (g_Df S)) (C := RX1) (T := TX1) (N := 9) hx hb hts hi1 hown hK hP 0 (xO _ _ _ _ _ _) rfl 7 (by decide) (hts (.fieldLink RX1 36 "GracefulRestart" "deferring" "Z") (List.mem_of_getElem? (i := 1) rfl)) (fun _ h9 => h9) (xV_Df _ _) dX1_selectAfterOffer_1 ?_
  refine lv_if_ne (tgt := 19) hx hb dX1_selectAfterOffer_4 (by decide) (fun c_4 => ?_) (fun c_4 => ?_)
  · exact k_vret hx hb hr hlk hP hS hAe (by rw [if_neg (fun z => c_4 z.1)]) dX1_selectAfterOffer_19
  · refine lv_aload_n hx hb dX1_selectAfterOffer_7 rfl (lv_at hl 1 rfl) ?_
    refine va_getN (D := D) (ci := 0) (v := .int ((g_St S) k)) (C := RX0) (T := TX0) (N := 8) hx hb hts hi0 hown hK hP (4 + (4 * k + 0)) (yO _ _ _ _ _ _ (by omega)) rfl 4 (by decide) (va_Nw.use rfl (hN (.fieldLinkNest RX1 71 RX0 "state" "I" RX1) (List.mem_of_getElem? (i := 3) rfl))) (fun _ h9 => h9) (yV_4 _ _ _) dX1_selectAfterOffer_8 ?_
    refine lv_if_ne (tgt := 19) hx hb dX1_selectAfterOffer_11 (by decide) (fun c_11 => ?_) (fun c_11 => ?_)
    · exact k_vret hx hb hr hlk hP hS hAe (by rw [if_neg (fun z => c_11 z.2)]) dX1_selectAfterOffer_19
    · refine lv_aload_n hx hb dX1_selectAfterOffer_14 rfl (lv_at hl 0 rfl) ?_
      refine lv_iload_n hx hb dX1_selectAfterOffer_15 rfl (lv_at hl 2 rfl) ?_
      refine kV (As := [.int (nI r9)]) (rest := []) (Wc := (xW cI cZ cP ad pd S)) (Wc1 := (xW cI cZ cP ad pd (o_Sel S r9))) (Wd1 := (xW cI cZ cP ad pd (o_Sel S r9))) (o := none) ⟨hx, hb, hml, hown, hts⟩ (c_X1_select l D cI cZ cP ad pd S r9 hn (by omega)) (cwV 1 hts gX1_selectAfterOffer_X1_select rfl rfl rfl (by decide +kernel) ⟨Nat.le_of_ble_eq_true rfl, Nat.le_of_ble_eq_true rfl⟩) hK hN hP hD hS (fun j => j) (fun _ _ h => h) (fun _ _ _ _ h => h) (xW_adr (o_Sel_N _ _)) (fun k q h => Or.inl ⟨k, h⟩) 0 1 rfl rfl (xO _ _ _ _ _ _) rfl hl.1 rfl (Nat.le_of_ble_eq_true rfl) ⟨Nat.zero_le _, Nat.zero_le _⟩ dX1_selectAfterOffer_16 (fun H locs hP hD hS => ?_)
      exact k_vret hx hb hr hlk hP hS hAe (by rw [if_pos ⟨c_4, c_11⟩]) dX1_selectAfterOffer_19

set_option maxRecDepth 100000 in
set_option maxHeartbeats 4000000 in
theorem c_X1_makeEntriesStale (l : Launch) (D : va_G) (cI cZ cP : ClassId) (ad : Nat → Nat) (pd : Nat → Nat → Nat) (S : ST)  : MM l yX1_makeEntriesStale wsX1_makeEntriesStale ({ frames := 0, cells := 0, slots := 0, locals := 0 }) D (kTy cI cZ cP) [.ref (ad 0)] (xW cI cZ cP ad pd S) (none) (xW cI cZ cP ad pd (s_Hs S (kSet 1 16 (g_Hs S)))) := by
  refine MM.ofW (cc := cX1_makeEntriesStale) (maxL := 2) (ret := none) (by decide) rfl (Nat.le_of_ble_eq_true rfl) ?_
  intro p e s m below meth c ls A hx hb hr hlk hml hts hown hK hN hP hD hS hAe hl
  have hown : s.vm.findClass RX1 = some m.cls := hown
  have hi1 : ∀ w ∈ wsX10, w ∈ wsX1_makeEntriesStale := fun w h => List.mem_cons_of_mem _ (List.mem_append_right _ h)
  have hl : lv_has ls 2 [(0, .ref (ad 0))] := hl
  refine lv_iconst (v := 0) hx hb dX1_makeEntriesStale_0 (by decide) ?_
  refine lv_istore_n (lv' := [(1, .int 0), (0, .ref (ad 0))]) hx hb dX1_makeEntriesStale_1 rfl hl (by decide) rfl (fun ls hl => ?_)
  have lp2 : ∀ (n9 i : Nat), i + n9 = 16 → ∀ (H : Heap) (locs : List Loc) (ls : Array Slot), va_P D vwCl (xW cI cZ cP ad pd (s_Hs S (kSet 1 i (g_Hs S)))) H → va_D A (xW cI cZ cP ad pd (s_Hs S (kSet 1 i (g_Hs S)))) → va_S A s.heap H locs → lv_has ls 2 [(0, .ref (ad 0)), (1, .int (nI i))] → W p l e (headSpec wsX1_makeEntriesStale ({ frames := 0, cells := 0, slots := 0, locals := 0 })).room s m ([.ref (ad 0)] : List Value).toArray below meth c H locs 0 0 (MQ below (kPost D (xW cI cZ cP ad pd S) (xW cI cZ cP ad pd (s_Hs S (kSet 1 16 (g_Hs S)))) (none)) ([.ref (ad 0)] : List Value).toArray s 0 0 (kA (xW cI cZ cP ad pd S))) (F0 m 2 ls []) := by
    intro n9
    induction n9 with
    | zero =>
      intro i hi9 H locs ls hP hD hS hl
      have hi8 : i = 16 := by omega
      subst hi8
      refine lv_iload_n hx hb dX1_makeEntriesStale_2 rfl (lv_at hl 1 rfl) ?_
      refine lv_bipush (v := 16) hx hb dX1_makeEntriesStale_3 (by decide) ?_
      refine lv_icmp_ge (tgt := 21) hx hb dX1_makeEntriesStale_5 (by decide) (fun _ => ?_) (fun c_ => absurd (by decide) c_)
      exact k_vret hx hb hr hlk hP hS hAe rfl dX1_makeEntriesStale_21
    | succ n9 ih =>
      intro i hi9 H locs ls hP hD hS hl
      have hlt : i < 16 := by omega
      refine lv_iload_n hx hb dX1_makeEntriesStale_2 rfl (lv_at hl 1 rfl) ?_
      refine lv_bipush (v := 16) hx hb dX1_makeEntriesStale_3 (by decide) ?_
      refine lv_icmp_ge (tgt := 21) hx hb dX1_makeEntriesStale_5 (by decide) (fun c_ => absurd c_ (nI_ge (a := i) (b := 16) hlt (by decide))) (fun _ => ?_)
      refine lv_aload_n hx hb dX1_makeEntriesStale_8 rfl (lv_at hl 0 rfl) ?_
      refine va_get (D := D) (ci := 1) (v := .ref (ad 3)) (C := RX1) (T := TX1) (N := 9) hx hb hts hi1 hown hK hP 0 (xO _ _ _ _ _ _) rfl 2 (by decide) (hts (.fieldLink RX1 19 "GracefulRestart" "staleHops" "[Z") (List.mem_of_getElem? (i := 1) rfl)) (fun _ h9 => h9) (xV_2 _ _) dX1_makeEntriesStale_9 ?_
      refine lv_iload_n hx hb dX1_makeEntriesStale_12 rfl (lv_at hl 1 rfl) ?_
      refine lv_iconst (v := 1) hx hb dX1_makeEntriesStale_13 (by decide) ?_
      refine k_zast (k := i) hx hb hK hP hD hS 3 1 (xG_Hs _ _ _ _ _ _) rfl rfl (by omega) (by decide) (by decide) (W1 := (xW cI cZ cP ad pd (s_Hs S (kSet 1 (i + 1) (g_Hs S))))) (by rw [show g_Hs (s_Hs S (kSet 1 i (g_Hs S))) = kSet 1 i (g_Hs S) from (gs_Hs_Hs _ _), kSet_s, xS_Hs, ss_Hs_Hs]) dX1_makeEntriesStale_14 (fun H locs hP hD hS => ?_)
      refine lv_iinc (v := nI (i + 1)) (lv' := [(1, .int (nI (i + 1))), (0, .ref (ad 0))]) hx hb dX1_makeEntriesStale_15 hl (k := 1) rfl (nI_1 i) (by decide) rfl (fun ls hl => ?_)
      refine lv_goto (tgt := 2) hx hb dX1_makeEntriesStale_18 (by decide) ?_
      exact ih (i + 1) (by omega) _ _ ls hP hD hS (lv_sub hl [1, 0] rfl)
  exact lp2 16 0 (by omega) _ _ ls (by rw [kSet_0, sg_Hs]; exact hP) (by rw [kSet_0, sg_Hs]; exact hD) hS (lv_sub hl [1, 0] rfl)

set_option maxRecDepth 100000 in
set_option maxHeartbeats 4000000 in
theorem c_X1_removeEntries (l : Launch) (D : va_G) (cI cZ cP : ClassId) (ad : Nat → Nat) (pd : Nat → Nat → Nat) (S : ST)  : MM l yX1_removeEntries wsX1_removeEntries ({ frames := 0, cells := 0, slots := 0, locals := 0 }) D (kTy cI cZ cP) [.ref (ad 0)] (xW cI cZ cP ad pd S) (none) (xW cI cZ cP ad pd (s_Ho S (kSet (-6) 16 (g_Ho S)))) := by
  refine MM.ofW (cc := cX1_removeEntries) (maxL := 2) (ret := none) (by decide) rfl (Nat.le_of_ble_eq_true rfl) ?_
  intro p e s m below meth c ls A hx hb hr hlk hml hts hown hK hN hP hD hS hAe hl
  have hown : s.vm.findClass RX1 = some m.cls := hown
  have hi1 : ∀ w ∈ wsX10, w ∈ wsX1_removeEntries := fun w h => List.mem_cons_of_mem _ (List.mem_append_right _ h)
  have hl : lv_has ls 2 [(0, .ref (ad 0))] := hl
  refine lv_iconst (v := 0) hx hb dX1_removeEntries_0 (by decide) ?_
  refine lv_istore_n (lv' := [(1, .int 0), (0, .ref (ad 0))]) hx hb dX1_removeEntries_1 rfl hl (by decide) rfl (fun ls hl => ?_)
  have lp2 : ∀ (n9 i : Nat), i + n9 = 16 → ∀ (H : Heap) (locs : List Loc) (ls : Array Slot), va_P D vwCl (xW cI cZ cP ad pd (s_Ho S (kSet (-6) i (g_Ho S)))) H → va_D A (xW cI cZ cP ad pd (s_Ho S (kSet (-6) i (g_Ho S)))) → va_S A s.heap H locs → lv_has ls 2 [(0, .ref (ad 0)), (1, .int (nI i))] → W p l e (headSpec wsX1_removeEntries ({ frames := 0, cells := 0, slots := 0, locals := 0 })).room s m ([.ref (ad 0)] : List Value).toArray below meth c H locs 0 0 (MQ below (kPost D (xW cI cZ cP ad pd S) (xW cI cZ cP ad pd (s_Ho S (kSet (-6) 16 (g_Ho S)))) (none)) ([.ref (ad 0)] : List Value).toArray s 0 0 (kA (xW cI cZ cP ad pd S))) (F0 m 2 ls []) := by
    intro n9
    induction n9 with
    | zero =>
      intro i hi9 H locs ls hP hD hS hl
      have hi8 : i = 16 := by omega
      subst hi8
      refine lv_iload_n hx hb dX1_removeEntries_2 rfl (lv_at hl 1 rfl) ?_
      refine lv_bipush (v := 16) hx hb dX1_removeEntries_3 (by decide) ?_
      refine lv_icmp_ge (tgt := 22) hx hb dX1_removeEntries_5 (by decide) (fun _ => ?_) (fun c_ => absurd (by decide) c_)
      exact k_vret hx hb hr hlk hP hS hAe rfl dX1_removeEntries_22
    | succ n9 ih =>
      intro i hi9 H locs ls hP hD hS hl
      have hlt : i < 16 := by omega
      refine lv_iload_n hx hb dX1_removeEntries_2 rfl (lv_at hl 1 rfl) ?_
      refine lv_bipush (v := 16) hx hb dX1_removeEntries_3 (by decide) ?_
      refine lv_icmp_ge (tgt := 22) hx hb dX1_removeEntries_5 (by decide) (fun c_ => absurd c_ (nI_ge (a := i) (b := 16) hlt (by decide))) (fun _ => ?_)
      refine lv_aload_n hx hb dX1_removeEntries_8 rfl (lv_at hl 0 rfl) ?_
      refine va_get (D := D) (ci := 1) (v := .ref (ad 2)) (C := RX1) (T := TX1) (N := 9) hx hb hts hi1 hown hK hP 0 (xO _ _ _ _ _ _) rfl 1 (by decide) (hts (.fieldLink RX1 15 "GracefulRestart" "hops" "[I") (List.mem_of_getElem? (i := 1) rfl)) (fun _ h9 => h9) (xV_1 _ _) dX1_removeEntries_9 ?_
      refine lv_iload_n hx hb dX1_removeEntries_12 rfl (lv_at hl 1 rfl) ?_
      refine lv_bipush (v := -6) hx hb dX1_removeEntries_13 (by decide) ?_
      refine k_iast (k := i) hx hb hK hP hD hS 2 0 (xG_Ho _ _ _ _ _ _) rfl rfl (by omega) (by decide) (W1 := (xW cI cZ cP ad pd (s_Ho S (kSet (-6) (i + 1) (g_Ho S))))) (by rw [show g_Ho (s_Ho S (kSet (-6) i (g_Ho S))) = kSet (-6) i (g_Ho S) from (gs_Ho_Ho _ _), kSet_s, xS_Ho, ss_Ho_Ho]) dX1_removeEntries_15 (fun H locs hP hD hS => ?_)
      refine lv_iinc (v := nI (i + 1)) (lv' := [(1, .int (nI (i + 1))), (0, .ref (ad 0))]) hx hb dX1_removeEntries_16 hl (k := 1) rfl (nI_1 i) (by decide) rfl (fun ls hl => ?_)
      refine lv_goto (tgt := 2) hx hb dX1_removeEntries_19 (by decide) ?_
      exact ih (i + 1) (by omega) _ _ ls hP hD hS (lv_sub hl [1, 0] rfl)
  exact lp2 16 0 (by omega) _ _ ls (by rw [kSet_0, sg_Ho]; exact hP) (by rw [kSet_0, sg_Ho]; exact hD) hS (lv_sub hl [1, 0] rfl)

set_option maxRecDepth 100000 in
set_option maxHeartbeats 4000000 in
theorem c_X1_waitingPeers (l : Launch) (D : va_G) (cI cZ cP : ClassId) (ad : Nat → Nat) (pd : Nat → Nat → Nat) (S : ST)  (hn : g_N S ≤ 5) : MM l yX1_waitingPeers wsX1_waitingPeers ({ frames := 1, cells := 0, slots := 0, locals := 20 }) D (kTy cI cZ cP) [.ref (ad 0)] (xW cI cZ cP ad pd S) (some (.int (if g_Df S = 0 then 0 else o_Wt S (g_N S)))) (xW cI cZ cP ad pd S) := by
  refine MM.ofW (cc := cX1_waitingPeers) (maxL := 4) (ret := (some .int)) (by decide) rfl (Nat.le_of_ble_eq_true rfl) ?_
  intro p e s m below meth c ls A hx hb hr hlk hml hts hown hK hN hP hD hS hAe hl
  have hown : s.vm.findClass RX1 = some m.cls := hown
  have hi1 : ∀ w ∈ wsX10, w ∈ wsX1_waitingPeers := fun w h => List.mem_cons_of_mem _ (List.mem_append_left _ (List.mem_append_right _ h))
  have hi0 : ∀ w ∈ wsX00, w ∈ wsX1_waitingPeers := fun w h => List.mem_cons_of_mem _ (List.mem_append_right _ h)
  have hl : lv_has ls 4 [(0, .ref (ad 0))] := hl
  refine lv_aload_n hx hb dX1_waitingPeers_0 rfl (lv_at hl 0 rfl) ?_
  refine va_get (D := D) (ci := 1) (v := .int (g_Df S)) (C := RX1) (T := TX1) (N := 9) hx hb hts hi1 hown hK hP 0 (xO _ _ _ _ _ _) rfl 7 (by decide) (hts (.fieldLink RX1 36 "GracefulRestart" "deferring" "Z") (List.mem_of_getElem? (i := 1) rfl)) (fun _ h9 => h9) (xV_Df _ _) dX1_waitingPeers_1 ?_
  refine lv_if_ne (tgt := 9) hx hb dX1_waitingPeers_4 (by decide) (fun c_4 => ?_) (fun c_4 => ?_)
  · refine lv_iconst (v := 0) hx hb dX1_waitingPeers_9 (by decide) ?_
    refine lv_istore_n (lv' := [(1, .int 0), (0, .ref (ad 0))]) hx hb dX1_waitingPeers_10 rfl hl (by decide) rfl (fun ls hl => ?_)
    refine lv_iconst (v := 0) hx hb dX1_waitingPeers_11 (by decide) ?_
    refine lv_istore_n (lv' := [(2, .int 0), (1, .int 0), (0, .ref (ad 0))]) hx hb dX1_waitingPeers_12 rfl hl (by decide) rfl (fun ls hl => ?_)
    have lp13 : ∀ (n9 i : Nat), i + n9 = 5 → ∀ (H : Heap) (locs : List Loc) (ls : Array Slot), va_P D vwCl (xW cI cZ cP ad pd S) H → va_D A (xW cI cZ cP ad pd S) → va_S A s.heap H locs → lv_has ls 4 [(0, .ref (ad 0)), (1, .int (o_Wt S (min i (g_N S)))), (2, .int (nI i))] → W p l e (headSpec wsX1_waitingPeers ({ frames := 1, cells := 0, slots := 0, locals := 20 })).room s m ([.ref (ad 0)] : List Value).toArray below meth c H locs 0 0 (MQ below (kPost D (xW cI cZ cP ad pd S) (xW cI cZ cP ad pd S) (some (.int (if g_Df S = 0 then 0 else o_Wt S (g_N S))))) ([.ref (ad 0)] : List Value).toArray s 0 0 (kA (xW cI cZ cP ad pd S))) (F0 m 13 ls []) := by
      intro n9
      induction n9 with
      | zero =>
        intro i hi9 H locs ls hP hD hS hl
        have hi8 : i = 5 := by omega
        subst hi8
        rw [show min 5 (g_N S) = g_N S by omega] at hl
        refine lv_iload_n hx hb dX1_waitingPeers_13 rfl (lv_at hl 2 rfl) ?_
        refine lv_aload_n hx hb dX1_waitingPeers_14 rfl (lv_at hl 0 rfl) ?_
        refine va_get (D := D) (ci := 1) (v := .ref (ad 1)) (C := RX1) (T := TX1) (N := 9) hx hb hts hi1 hown hK hP 0 (xO _ _ _ _ _ _) rfl 0 (by decide) (hts (.fieldLink RX1 11 "GracefulRestart" "peers" "[LGracefulRestart$Peer;") (List.mem_of_getElem? (i := 2) rfl)) (fun _ h9 => h9) (xV_0 _ _) dX1_waitingPeers_15 ?_
        refine va_alen (v := 5) hx hb hK hP 1 2 (xG_P _ _ _ _ _ _) rfl rfl dX1_waitingPeers_18 ?_
        refine lv_icmp_ge (tgt := 52) hx hb dX1_waitingPeers_19 (by decide) (fun _ => ?_) (fun c_ => absurd (by decide) c_)
        refine lv_iload_n hx hb dX1_waitingPeers_52 rfl (lv_at hl 1 rfl) ?_
        exact k_iret hx hb hr hlk hP hS hAe (by rw [if_neg c_4]) rfl dX1_waitingPeers_53
      | succ n9 ih =>
        intro i hi9 H locs ls hP hD hS hl
        have hlt : i < 5 := by omega
        refine lv_iload_n hx hb dX1_waitingPeers_13 rfl (lv_at hl 2 rfl) ?_
        refine lv_aload_n hx hb dX1_waitingPeers_14 rfl (lv_at hl 0 rfl) ?_
        refine va_get (D := D) (ci := 1) (v := .ref (ad 1)) (C := RX1) (T := TX1) (N := 9) hx hb hts hi1 hown hK hP 0 (xO _ _ _ _ _ _) rfl 0 (by decide) (hts (.fieldLink RX1 11 "GracefulRestart" "peers" "[LGracefulRestart$Peer;") (List.mem_of_getElem? (i := 2) rfl)) (fun _ h9 => h9) (xV_0 _ _) dX1_waitingPeers_15 ?_
        refine va_alen (v := 5) hx hb hK hP 1 2 (xG_P _ _ _ _ _ _) rfl rfl dX1_waitingPeers_18 ?_
        refine lv_icmp_ge (tgt := 52) hx hb dX1_waitingPeers_19 (by decide) (fun c_ => absurd c_ (nI_ge (a := i) (b := 5) hlt (by decide))) (fun _ => ?_)
        refine lv_aload_n hx hb dX1_waitingPeers_22 rfl (lv_at hl 0 rfl) ?_
        refine va_get (D := D) (ci := 1) (v := .ref (ad 1)) (C := RX1) (T := TX1) (N := 9) hx hb hts hi1 hown hK hP 0 (xO _ _ _ _ _ _) rfl 0 (by decide) (hts (.fieldLink RX1 11 "GracefulRestart" "peers" "[LGracefulRestart$Peer;") (List.mem_of_getElem? (i := 2) rfl)) (fun _ h9 => h9) (xV_0 _ _) dX1_waitingPeers_23 ?_
        refine lv_iload_n hx hb dX1_waitingPeers_26 rfl (lv_at hl 2 rfl) ?_
        by_cases hin : i < g_N S
        · have hmi : min i (g_N S) = i := by omega
          rw [hmi] at hl
          refine k_aald (k := i) (v := .ref (pd i 0)) hx hb hK hP 1 2 (xG_P _ _ _ _ _ _) rfl rfl (by omega) (by decide) (xR_in (by omega)) dX1_waitingPeers_27 ?_
          refine lv_astore_n (lv' := [(3, .ref (pd i 0)), (0, .ref (ad 0)), (1, .int (o_Wt S i)), (2, .int (nI i))]) hx hb dX1_waitingPeers_28 rfl hl (by decide) rfl (fun ls hl => ?_)
          refine lv_aload_n hx hb dX1_waitingPeers_29 rfl (lv_at hl 0 rfl) ?_
          refine lv_ifnull hx hb dX1_waitingPeers_30 ?_
          refine lv_aload_n hx hb dX1_waitingPeers_33 rfl (lv_at hl 0 rfl) ?_
          refine kVN (As := []) (rest := []) (Wc := (xB cI cZ pd S i)) (Wc1 := (xB cI cZ pd S i)) (Wd1 := (xW cI cZ cP ad pd S)) (o := some (.int (if g_Gr S i = 0 then 0 else if g_St S i = 2 then 0 else if mkI (g_Hm S i) = 3 then 0 else 1))) ⟨hx, hb, hml, hown, hts⟩ (s_X0_isAwaited l D cI cZ cP pd S i ) ⟨va_cnB 0 hts gX1_waitingPeers_X0_isAwaited_n103 rfl rfl rfl (hN (.methodLinkNest RX1 103 yX0_isAwaited RX1) (List.mem_of_getElem? (i := 12) rfl)) (hts (.initialized RX0) (List.mem_of_getElem? (i := 4) rfl)) (by decide +kernel) ⟨Nat.le_of_ble_eq_true rfl, Nat.le_of_ble_eq_true rfl⟩, (hts (.instanceMethod yX0_isAwaited) (List.mem_of_getElem? (i := 3) rfl)), (hts (.selects RX0 yX0_isAwaited yX0_isAwaited) (List.mem_of_getElem? (i := 5) rfl))⟩ hK hN hP hD hS (fun j => 4 + (4 * i + j)) (fun j7 q7 h7 => y_hf (by omega) j7 q7 h7) (y_inj i) (xW_adr (one_rf (cI := cI) (cZ := cZ) (pd := pd) S i).1) (fun i7 q7 h7 => xW_new (one_rf (cI := cI) (cZ := cZ) (pd := pd) S i) i7 q7 h7) (4 + (4 * i + 0)) 0 rfl rfl (yO _ _ _ _ _ _ (by omega)) rfl hl.1 rfl (Nat.le_of_ble_eq_true rfl) ⟨Nat.zero_le _, Nat.zero_le _⟩ dX1_waitingPeers_34 (fun H locs hP hD hS => ?_)
          by_cases ha : aw S i
          · refine k_top (y := 1) (aw_1 ha) ?_
            refine lv_if_eq (tgt := 46) hx hb dX1_waitingPeers_37 (by decide) (fun c_ => absurd c_ (by decide)) (fun _ => ?_)
            refine lv_iload_n hx hb dX1_waitingPeers_40 rfl (lv_at hl 2 rfl) ?_
            refine lv_iconst (v := 1) hx hb dX1_waitingPeers_41 (by decide) ?_
            refine lv_iload_n hx hb dX1_waitingPeers_42 rfl (lv_at hl 3 rfl) ?_
            refine lv_ishl hx hb dX1_waitingPeers_43 ?_
            refine lv_ior hx hb dX1_waitingPeers_44 ?_
            refine lv_istore_n (lv' := [(1, .int ((o_Wt S i) ||| (1 <<< ((nI i) &&& 31)))), (3, .ref (pd i 0)), (0, .ref (ad 0)), (2, .int (nI i))]) hx hb dX1_waitingPeers_45 rfl hl (by decide) rfl (fun ls hl => ?_)
            refine lv_iinc (v := nI (i + 1)) (lv' := [(2, .int (nI (i + 1))), (1, .int ((o_Wt S i) ||| (1 <<< ((nI i) &&& 31)))), (3, .ref (pd i 0)), (0, .ref (ad 0))]) hx hb dX1_waitingPeers_46 hl (k := 3) rfl (nI_1 i) (by decide) rfl (fun ls hl => ?_)
            refine lv_goto (tgt := 13) hx hb dX1_waitingPeers_49 (by decide) ?_
            exact ih (i + 1) (by omega) _ _ ls hP hD hS (lv_cv (lv_sub hl [3, 1, 0] rfl) (by rw [show min (i + 1) (g_N S) = i + 1 by omega, ← wt_t ha]; rfl))
          · refine k_top (y := 0) (aw_0 ha) ?_
            refine lv_if_eq (tgt := 46) hx hb dX1_waitingPeers_37 (by decide) (fun _ => ?_) (fun c_ => absurd (by decide) c_)
            refine lv_iinc (v := nI (i + 1)) (lv' := [(2, .int (nI (i + 1))), (3, .ref (pd i 0)), (0, .ref (ad 0)), (1, .int (o_Wt S i))]) hx hb dX1_waitingPeers_46 hl (k := 3) rfl (nI_1 i) (by decide) rfl (fun ls hl => ?_)
            refine lv_goto (tgt := 13) hx hb dX1_waitingPeers_49 (by decide) ?_
            exact ih (i + 1) (by omega) _ _ ls hP hD hS (lv_cv (lv_sub hl [2, 3, 0] rfl) (by rw [show min (i + 1) (g_N S) = i + 1 by omega, ← wt_f ha]; rfl))
        · refine k_aald (k := i) (v := .null) hx hb hK hP 1 2 (xG_P _ _ _ _ _ _) rfl rfl (by omega) (by decide) (xR_out (by omega)) dX1_waitingPeers_27 ?_
          refine lv_astore_nN (lv' := [(3, .null), (0, .ref (ad 0)), (1, .int (o_Wt S (min i (g_N S)))), (2, .int (nI i))]) hx hb dX1_waitingPeers_28 rfl hl (by decide) rfl (fun ls hl => ?_)
          refine lv_aload_nN hx hb dX1_waitingPeers_29 rfl (lv_at hl 0 rfl) ?_
          refine lv_ifnullN (tgt := 46) hx hb dX1_waitingPeers_30 (by decide) ?_
          refine lv_iinc (v := nI (i + 1)) (lv' := [(2, .int (nI (i + 1))), (3, .null), (0, .ref (ad 0)), (1, .int (o_Wt S (min i (g_N S))))]) hx hb dX1_waitingPeers_46 hl (k := 3) rfl (nI_1 i) (by decide) rfl (fun ls hl => ?_)
          refine lv_goto (tgt := 13) hx hb dX1_waitingPeers_49 (by decide) ?_
          exact ih (i + 1) (by omega) _ _ ls hP hD hS (lv_cv (lv_sub hl [2, 3, 0] rfl) (by rw [show min (i + 1) (g_N S) = min i (g_N S) by omega]; rfl))
    exact lp13 5 0 (by omega) _ _ ls hP hD hS (lv_cv (lv_sub hl [2, 1, 0] rfl) (by rw [Nat.zero_min]; rfl))
  · refine lv_iconst (v := 0) hx hb dX1_waitingPeers_7 (by decide) ?_
    exact k_iret hx hb hr hlk hP hS hAe (by rw [if_pos c_4]) rfl dX1_waitingPeers_8

set_option maxRecDepth 100000 in
set_option maxHeartbeats 4000000 in
theorem c_X1_endDeferral (l : Launch) (D : va_G) (cI cZ cP : ClassId) (ad : Nat → Nat) (pd : Nat → Nat → Nat) (S : ST)  (hn : g_N S ≤ 5) : MM l yX1_endDeferral wsX1_endDeferral ({ frames := 4, cells := 0, slots := 0, locals := 94 }) D (kTy cI cZ cP) [.ref (ad 0)] (xW cI cZ cP ad pd S) (none) (xW cI cZ cP ad pd (o_End S)) := by
  refine MM.ofW (cc := cX1_endDeferral) (maxL := 5) (ret := none) (by decide) rfl (Nat.le_of_ble_eq_true rfl) ?_
  intro p e s m below meth c ls A hx hb hr hlk hml hts hown hK hN hP hD hS hAe hl
  have hown : s.vm.findClass RX1 = some m.cls := hown
  have hi1 : ∀ w ∈ wsX10, w ∈ wsX1_endDeferral := fun w h => List.mem_cons_of_mem _ (List.mem_append_left _ (List.mem_append_right _ h))
  have hi0 : ∀ w ∈ wsX00, w ∈ wsX1_endDeferral := fun w h => List.mem_cons_of_mem _ (List.mem_append_right _ h)
  have hl : lv_has ls 5 [(0, .ref (ad 0))] := hl
  refine lv_aload_n hx hb dX1_endDeferral_0 rfl (lv_at hl 0 rfl) ?_
  refine lv_iconst (v := 0) hx hb dX1_endDeferral_1 (by decide) ?_
  refine k_put (D := D) (ci := 1) (v := .int 0) (ty := .boolean) (C := RX1) (T := TX1) (N := 9) hx hb hts hi1 tyX1 tyX1_ok nmX1 hown hK hP hD hS 0 (xO _ _ _ _ _ _) rfl 7 (by decide) (hts (.fieldLink RX1 36 "GracefulRestart" "deferring" "Z") (List.mem_of_getElem? (i := 1) rfl)) (fun _ h9 => h9) rfl (by decide +kernel) rfl rfl (Nat.le_of_ble_eq_true rfl) (W1 := (xW cI cZ cP ad pd (s_Df S 0))) (xP_Df _ _ _ _ _ _ _) dX1_endDeferral_2 (fun H locs hP hD hS => ?_)
  refine lv_aload_n hx hb dX1_endDeferral_5 rfl (lv_at hl 0 rfl) ?_
  refine lv_iconst (v := 0) hx hb dX1_endDeferral_6 (by decide) ?_
  refine k_put (D := D) (ci := 1) (v := .int 0) (ty := .int) (C := RX1) (T := TX1) (N := 9) hx hb hts hi1 tyX1 tyX1_ok nmX1 hown hK hP hD hS 0 (xO _ _ _ _ _ _) rfl 8 (by decide) (hts (.fieldLink RX1 40 "GracefulRestart" "deferralLeft" "I") (List.mem_of_getElem? (i := 2) rfl)) (fun _ h9 => h9) rfl (by decide +kernel) rfl rfl (Nat.le_of_ble_eq_true rfl) (W1 := (xW cI cZ cP ad pd (s_Dl (s_Df S 0) 0))) (xP_Dl _ _ _ _ _ _ _) dX1_endDeferral_7 (fun H locs hP hD hS => ?_)
  refine lv_aload_n hx hb dX1_endDeferral_10 rfl (lv_at hl 0 rfl) ?_
  refine kV (As := []) (rest := []) (Wc := (xW cI cZ cP ad pd (s_Dl (s_Df S 0) 0))) (Wc1 := (xW cI cZ cP ad pd (o_SA (s_Dl (s_Df S 0) 0) 16))) (Wd1 := (xW cI cZ cP ad pd (o_SA (s_Dl (s_Df S 0) 0) 16))) (o := none) ⟨hx, hb, hml, hown, hts⟩ (c_X1_selectAll l D cI cZ cP ad pd (s_Dl (s_Df S 0) 0) (by rw [EnSt_N]; exact hn)) (cwV 0 hts gX1_endDeferral_X1_selectAll rfl rfl rfl (by decide +kernel) ⟨Nat.le_of_ble_eq_true rfl, Nat.le_of_ble_eq_true rfl⟩) hK hN hP hD hS (fun j => j) (fun _ _ h => h) (fun _ _ _ _ h => h) (xW_adr (o_SA_N _ _)) (fun k q h => Or.inl ⟨k, h⟩) 0 1 rfl rfl (xO _ _ _ _ _ _) rfl hl.1 rfl (Nat.le_of_ble_eq_true rfl) ⟨Nat.zero_le _, Nat.zero_le _⟩ dX1_endDeferral_11 (fun H locs hP hD hS => ?_)
  refine lv_aload_n hx hb dX1_endDeferral_14 rfl (lv_at hl 0 rfl) ?_
  refine va_get (D := D) (ci := 1) (v := .ref (ad 1)) (C := RX1) (T := TX1) (N := 9) hx hb hts hi1 hown hK hP 0 (xO _ _ _ _ _ _) rfl 0 (by decide) (hts (.fieldLink RX1 11 "GracefulRestart" "peers" "[LGracefulRestart$Peer;") (List.mem_of_getElem? (i := 3) rfl)) (fun _ h9 => h9) (xV_0 _ _) dX1_endDeferral_15 ?_
  refine lv_astore_n (lv' := [(1, .ref (ad 1)), (0, .ref (ad 0))]) hx hb dX1_endDeferral_18 rfl hl (by decide) rfl (fun ls hl => ?_)
  refine lv_aload_n hx hb dX1_endDeferral_19 rfl (lv_at hl 0 rfl) ?_
  refine va_alen (v := 5) hx hb hK hP 1 2 (xG_P _ _ _ _ _ _) rfl rfl dX1_endDeferral_20 ?_
  refine lv_istore_n (lv' := [(2, .int 5), (1, .ref (ad 1)), (0, .ref (ad 0))]) hx hb dX1_endDeferral_21 rfl hl (by decide) rfl (fun ls hl => ?_)
  refine lv_iconst (v := 0) hx hb dX1_endDeferral_22 (by decide) ?_
  refine lv_istore_n (lv' := [(3, .int 0), (2, .int 5), (1, .ref (ad 1)), (0, .ref (ad 0))]) hx hb dX1_endDeferral_23 rfl hl (by decide) rfl (fun ls hl => ?_)
  have lp24 : ∀ (n9 i : Nat), i + n9 = 5 → ∀ (H : Heap) (locs : List Loc) (ls : Array Slot), va_P D vwCl (xW cI cZ cP ad pd (o_ER (o_SA (s_Dl (s_Df S 0) 0) 16) (min i (g_N S)))) H → va_D A (xW cI cZ cP ad pd (o_ER (o_SA (s_Dl (s_Df S 0) 0) 16) (min i (g_N S)))) → va_S A s.heap H locs → lv_has ls 5 [(0, .ref (ad 0)), (1, .ref (ad 1)), (2, .int 5), (3, .int (nI i))] → W p l e (headSpec wsX1_endDeferral ({ frames := 4, cells := 0, slots := 0, locals := 94 })).room s m ([.ref (ad 0)] : List Value).toArray below meth c H locs 0 0 (MQ below (kPost D (xW cI cZ cP ad pd S) (xW cI cZ cP ad pd (o_End S)) (none)) ([.ref (ad 0)] : List Value).toArray s 0 0 (kA (xW cI cZ cP ad pd S))) (F0 m 24 ls []) := by
    intro n9
    induction n9 with
    | zero =>
      intro i hi9 H locs ls hP hD hS hl
      have hi8 : i = 5 := by omega
      subst hi8
      refine lv_iload_n hx hb dX1_endDeferral_24 rfl (lv_at hl 3 rfl) ?_
      refine lv_iload_n hx hb dX1_endDeferral_25 rfl (lv_at hl 2 rfl) ?_
      refine lv_icmp_ge (tgt := 58) hx hb dX1_endDeferral_26 (by decide) (fun _ => ?_) (fun c_ => absurd (by decide) c_)
      exact k_vret hx hb hr hlk hP hS hAe (by rw [show min 5 (g_N S) = g_N S by omega, End_e]) dX1_endDeferral_58
    | succ n9 ih =>
      intro i hi9 H locs ls hP hD hS hl
      have hlt : i < 5 := by omega
      refine lv_iload_n hx hb dX1_endDeferral_24 rfl (lv_at hl 3 rfl) ?_
      refine lv_iload_n hx hb dX1_endDeferral_25 rfl (lv_at hl 2 rfl) ?_
      refine lv_icmp_ge (tgt := 58) hx hb dX1_endDeferral_26 (by decide) (fun c_ => absurd c_ (nI_ge (a := i) (b := 5) hlt (by decide))) (fun _ => ?_)
      refine lv_aload_n hx hb dX1_endDeferral_29 rfl (lv_at hl 1 rfl) ?_
      refine lv_iload_n hx hb dX1_endDeferral_30 rfl (lv_at hl 3 rfl) ?_
      by_cases hin : i < g_N S
      · have hmi : min i (g_N S) = i := by omega
        rw [hmi] at hP hD
        refine k_aald (k := i) (v := .ref (pd i 0)) hx hb hK hP 1 2 (xG_P _ _ _ _ _ _) rfl rfl (by omega) (by decide) (xR_in (by rw [show g_N (o_ER (o_SA (s_Dl (s_Df S 0) 0) 16) i) = g_N S from ((o_ER_N _ _).trans (o_SA_N _ _))]; omega)) dX1_endDeferral_31 ?_
        refine lv_astore (lv' := [(4, .ref (pd i 0)), (0, .ref (ad 0)), (1, .ref (ad 1)), (2, .int 5), (3, .int (nI i))]) hx hb dX1_endDeferral_32 hl (by decide) rfl (fun ls hl => ?_)
        refine lv_aload hx hb dX1_endDeferral_34 (lv_at hl 0 rfl) ?_
        refine lv_ifnull hx hb dX1_endDeferral_36 ?_
        refine lv_aload hx hb dX1_endDeferral_39 (lv_at hl 0 rfl) ?_
        refine va_getN (D := D) (ci := 0) (v := .int ((g_St (o_ER (o_SA (s_Dl (s_Df S 0) 0) 16) i)) i)) (C := RX0) (T := TX0) (N := 8) hx hb hts hi0 hown hK hP (4 + (4 * i + 0)) (yO _ _ _ _ _ _ (by rw [show g_N (o_ER (o_SA (s_Dl (s_Df S 0) 0) 16) i) = g_N S from ((o_ER_N _ _).trans (o_SA_N _ _))]; omega)) rfl 4 (by decide) (va_Nw.use rfl (hN (.fieldLinkNest RX1 71 RX0 "state" "I" RX1) (List.mem_of_getElem? (i := 3) rfl))) (fun _ h9 => h9) (yV_4 _ _ _) dX1_endDeferral_41 ?_
        refine k_top (y := (g_St S) i) (congrFun ((o_ER_St _ _).trans (o_SA_St _ _)) i) ?_
        refine lv_if_ne (tgt := 52) hx hb dX1_endDeferral_44 (by decide) (fun c_44 => ?_) (fun c_44 => ?_)
        · refine lv_iinc (v := nI (i + 1)) (lv' := [(3, .int (nI (i + 1))), (4, .ref (pd i 0)), (0, .ref (ad 0)), (1, .ref (ad 1)), (2, .int 5)]) hx hb dX1_endDeferral_52 hl (k := 4) rfl (nI_1 i) (by decide) rfl (fun ls hl => ?_)
          refine lv_goto (tgt := 24) hx hb dX1_endDeferral_55 (by decide) ?_
          rw [ER_f (S := o_SA (s_Dl (s_Df S 0) 0) 16) (by rw [o_SA_St]; exact c_44)] at hP hD
          exact ih (i + 1) (by omega) _ _ ls (by rw [show min (i + 1) (g_N S) = i + 1 by omega]; exact hP) (by rw [show min (i + 1) (g_N S) = i + 1 by omega]; exact hD) hS (lv_sub hl [2, 3, 4, 0] rfl)
        · refine lv_aload hx hb dX1_endDeferral_47 (lv_at hl 0 rfl) ?_
          refine kVN (As := []) (rest := []) (Wc := (xB cI cZ pd (o_ER (o_SA (s_Dl (s_Df S 0) 0) 16) i) i)) (Wc1 := (xB cI cZ pd (o_ERes (o_ER (o_SA (s_Dl (s_Df S 0) 0) 16) i) i) i)) (Wd1 := (xW cI cZ cP ad pd (o_ERes (o_ER (o_SA (s_Dl (s_Df S 0) 0) 16) i) i))) (o := none) ⟨hx, hb, hml, hown, hts⟩ (s_X0_endResync l D cI cZ cP pd (o_ER (o_SA (s_Dl (s_Df S 0) 0) 16) i) i ) ⟨va_cnB 0 hts gX1_endDeferral_X0_endResync_n90 rfl rfl rfl (hN (.methodLinkNest RX1 90 yX0_endResync RX1) (List.mem_of_getElem? (i := 13) rfl)) (hts (.initialized RX0) (List.mem_of_getElem? (i := 16) rfl)) (by decide +kernel) ⟨Nat.le_of_ble_eq_true rfl, Nat.le_of_ble_eq_true rfl⟩, (hts (.instanceMethod yX0_endResync) (List.mem_of_getElem? (i := 33) rfl)), (hts (.selects RX0 yX0_endResync yX0_endResync) (List.mem_of_getElem? (i := 34) rfl))⟩ hK hN hP hD hS (fun j => 4 + (4 * i + j)) (fun j7 q7 h7 => y_hf (by rw [show g_N (o_ER (o_SA (s_Dl (s_Df S 0) 0) 16) i) = g_N S from ((o_ER_N _ _).trans (o_SA_N _ _))]; omega) j7 q7 h7) (y_inj i) (xW_adr (one_ERes (cI := cI) (cZ := cZ) (pd := pd) (o_ER (o_SA (s_Dl (s_Df S 0) 0) 16) i) i).1) (fun i7 q7 h7 => xW_new (one_ERes (cI := cI) (cZ := cZ) (pd := pd) (o_ER (o_SA (s_Dl (s_Df S 0) 0) 16) i) i) i7 q7 h7) (4 + (4 * i + 0)) 0 rfl rfl (yO _ _ _ _ _ _ (by rw [show g_N (o_ER (o_SA (s_Dl (s_Df S 0) 0) 16) i) = g_N S from ((o_ER_N _ _).trans (o_SA_N _ _))]; omega)) rfl hl.1 rfl (Nat.le_of_ble_eq_true rfl) ⟨Nat.zero_le _, Nat.zero_le _⟩ dX1_endDeferral_49 (fun H locs hP hD hS => ?_)
          refine lv_iinc (v := nI (i + 1)) (lv' := [(3, .int (nI (i + 1))), (4, .ref (pd i 0)), (0, .ref (ad 0)), (1, .ref (ad 1)), (2, .int 5)]) hx hb dX1_endDeferral_52 hl (k := 4) rfl (nI_1 i) (by decide) rfl (fun ls hl => ?_)
          refine lv_goto (tgt := 24) hx hb dX1_endDeferral_55 (by decide) ?_
          rw [ER_t (S := o_SA (s_Dl (s_Df S 0) 0) 16) (by rw [o_SA_St]; exact c_44)] at hP hD
          exact ih (i + 1) (by omega) _ _ ls (by rw [show min (i + 1) (g_N S) = i + 1 by omega]; exact hP) (by rw [show min (i + 1) (g_N S) = i + 1 by omega]; exact hD) hS (lv_sub hl [2, 3, 4, 0] rfl)
      · refine k_aald (k := i) (v := .null) hx hb hK hP 1 2 (xG_P _ _ _ _ _ _) rfl rfl (by omega) (by decide) (xR_out (by rw [show g_N (o_ER (o_SA (s_Dl (s_Df S 0) 0) 16) (min i (g_N S))) = g_N S from ((o_ER_N _ _).trans (o_SA_N _ _))]; omega)) dX1_endDeferral_31 ?_
        refine lv_astoreN (lv' := [(4, .null), (0, .ref (ad 0)), (1, .ref (ad 1)), (2, .int 5), (3, .int (nI i))]) hx hb dX1_endDeferral_32 hl (by decide) rfl (fun ls hl => ?_)
        refine lv_aloadN hx hb dX1_endDeferral_34 (lv_at hl 0 rfl) ?_
        refine lv_ifnullN (tgt := 52) hx hb dX1_endDeferral_36 (by decide) ?_
        refine lv_iinc (v := nI (i + 1)) (lv' := [(3, .int (nI (i + 1))), (4, .null), (0, .ref (ad 0)), (1, .ref (ad 1)), (2, .int 5)]) hx hb dX1_endDeferral_52 hl (k := 4) rfl (nI_1 i) (by decide) rfl (fun ls hl => ?_)
        refine lv_goto (tgt := 24) hx hb dX1_endDeferral_55 (by decide) ?_
        exact ih (i + 1) (by omega) _ _ ls (by rw [show min (i + 1) (g_N S) = min i (g_N S) by omega]; exact hP) (by rw [show min (i + 1) (g_N S) = min i (g_N S) by omega]; exact hD) hS (lv_sub hl [2, 3, 4, 0] rfl)
  exact lp24 5 0 (by omega) _ _ ls (by rw [Nat.zero_min, ER_0]; exact hP) (by rw [Nat.zero_min, ER_0]; exact hD) hS (lv_sub hl [3, 2, 1, 0] rfl)

set_option maxRecDepth 100000 in
set_option maxHeartbeats 4000000 in
theorem c_X1_checkDeferral (l : Launch) (D : va_G) (cI cZ cP : ClassId) (ad : Nat → Nat) (pd : Nat → Nat → Nat) (S : ST)  (hn : g_N S ≤ 5) : MM l yX1_checkDeferral wsX1_checkDeferral ({ frames := 5, cells := 0, slots := 0, locals := 118 }) D (kTy cI cZ cP) [.ref (ad 0)] (xW cI cZ cP ad pd S) (none) (xW cI cZ cP ad pd (o_Chk S)) := by
  refine MM.ofW (cc := cX1_checkDeferral) (maxL := 1) (ret := none) (by decide) rfl (Nat.le_of_ble_eq_true rfl) ?_
  intro p e s m below meth c ls A hx hb hr hlk hml hts hown hK hN hP hD hS hAe hl
  have hown : s.vm.findClass RX1 = some m.cls := hown
  have hi1 : ∀ w ∈ wsX10, w ∈ wsX1_checkDeferral := fun w h => List.mem_cons_of_mem _ (List.mem_append_left _ (List.mem_append_right _ h))
  have hi0 : ∀ w ∈ wsX00, w ∈ wsX1_checkDeferral := fun w h => List.mem_cons_of_mem _ (List.mem_append_right _ h)
  have hl : lv_has ls 1 [(0, .ref (ad 0))] := hl
  refine lv_aload_n hx hb dX1_checkDeferral_0 rfl (lv_at hl 0 rfl) ?_
  refine va_get (D := D) (ci := 1) (v := .int (g_Df S)) (C := RX1) (T := TX1) (N := 9) hx hb hts hi1 hown hK hP 0 (xO _ _ _ _ _ _) rfl 7 (by decide) (hts (.fieldLink RX1 36 "GracefulRestart" "deferring" "Z") (List.mem_of_getElem? (i := 1) rfl)) (fun _ h9 => h9) (xV_Df _ _) dX1_checkDeferral_1 ?_
  refine lv_if_eq (tgt := 25) hx hb dX1_checkDeferral_4 (by decide) (fun c_4 => ?_) (fun c_4 => ?_)
  · exact k_vret hx hb hr hlk hP hS hAe (by rw [← chk_no c_4]) dX1_checkDeferral_25
  · refine lv_aload_n hx hb dX1_checkDeferral_7 rfl (lv_at hl 0 rfl) ?_
    refine va_get (D := D) (ci := 1) (v := .int (g_Dl S)) (C := RX1) (T := TX1) (N := 9) hx hb hts hi1 hown hK hP 0 (xO _ _ _ _ _ _) rfl 8 (by decide) (hts (.fieldLink RX1 40 "GracefulRestart" "deferralLeft" "I") (List.mem_of_getElem? (i := 2) rfl)) (fun _ h9 => h9) (xV_Dl _ _) dX1_checkDeferral_8 ?_
    refine lv_if_eq (tgt := 21) hx hb dX1_checkDeferral_11 (by decide) (fun c_11 => ?_) (fun c_11 => ?_)
    · refine lv_aload_n hx hb dX1_checkDeferral_21 rfl (lv_at hl 0 rfl) ?_
      refine kV (As := []) (rest := []) (Wc := (xW cI cZ cP ad pd S)) (Wc1 := (xW cI cZ cP ad pd (o_End S))) (Wd1 := (xW cI cZ cP ad pd (o_End S))) (o := none) ⟨hx, hb, hml, hown, hts⟩ (c_X1_endDeferral l D cI cZ cP ad pd S hn) (cwV 0 hts gX1_checkDeferral_X1_endDeferral rfl rfl rfl (by decide +kernel) ⟨Nat.le_of_ble_eq_true rfl, Nat.le_of_ble_eq_true rfl⟩) hK hN hP hD hS (fun j => j) (fun _ _ h => h) (fun _ _ _ _ h => h) (xW_adr (o_End_N _)) (fun k q h => Or.inl ⟨k, h⟩) 0 1 rfl rfl (xO _ _ _ _ _ _) rfl hl.1 rfl (Nat.le_of_ble_eq_true rfl) ⟨Nat.zero_le _, Nat.zero_le _⟩ dX1_checkDeferral_22 (fun H locs hP hD hS => ?_)
      exact k_vret hx hb hr hlk hP hS hAe (by rw [chk_end c_4 (Or.inl c_11)]) dX1_checkDeferral_25
    · refine lv_aload_n hx hb dX1_checkDeferral_14 rfl (lv_at hl 0 rfl) ?_
      refine kV (As := []) (rest := []) (Wc := (xW cI cZ cP ad pd S)) (Wc1 := (xW cI cZ cP ad pd S)) (Wd1 := (xW cI cZ cP ad pd S)) (o := some (.int (if g_Df S = 0 then 0 else o_Wt S (g_N S)))) ⟨hx, hb, hml, hown, hts⟩ (c_X1_waitingPeers l D cI cZ cP ad pd S hn) (cwV 0 hts gX1_checkDeferral_X1_waitingPeers rfl rfl rfl (by decide +kernel) ⟨Nat.le_of_ble_eq_true rfl, Nat.le_of_ble_eq_true rfl⟩) hK hN hP hD hS (fun j => j) (fun _ _ h => h) (fun _ _ _ _ h => h) (xW_adr rfl) (fun k q h => Or.inl ⟨k, h⟩) 0 1 rfl rfl (xO _ _ _ _ _ _) rfl hl.1 rfl (Nat.le_of_ble_eq_true rfl) ⟨Nat.zero_le _, Nat.zero_le _⟩ dX1_checkDeferral_15 (fun H locs hP hD hS => ?_)
      refine k_top (if_neg c_4) ?_
      refine lv_if_ne (tgt := 25) hx hb dX1_checkDeferral_18 (by decide) (fun c_18 => ?_) (fun c_18 => ?_)
      · exact k_vret hx hb hr hlk hP hS hAe (by rw [← chk_wait c_4 c_11 c_18]) dX1_checkDeferral_25
      · refine lv_aload_n hx hb dX1_checkDeferral_21 rfl (lv_at hl 0 rfl) ?_
        refine kV (As := []) (rest := []) (Wc := (xW cI cZ cP ad pd S)) (Wc1 := (xW cI cZ cP ad pd (o_End S))) (Wd1 := (xW cI cZ cP ad pd (o_End S))) (o := none) ⟨hx, hb, hml, hown, hts⟩ (c_X1_endDeferral l D cI cZ cP ad pd S hn) (cwV 0 hts gX1_checkDeferral_X1_endDeferral rfl rfl rfl (by decide +kernel) ⟨Nat.le_of_ble_eq_true rfl, Nat.le_of_ble_eq_true rfl⟩) hK hN hP hD hS (fun j => j) (fun _ _ h => h) (fun _ _ _ _ h => h) (xW_adr (o_End_N _)) (fun k q h => Or.inl ⟨k, h⟩) 0 1 rfl rfl (xO _ _ _ _ _ _) rfl hl.1 rfl (Nat.le_of_ble_eq_true rfl) ⟨Nat.zero_le _, Nat.zero_le _⟩ dX1_checkDeferral_22 (fun H locs hP hD hS => ?_)
        exact k_vret hx hb hr hlk hP hS hAe (by rw [chk_end c_4 (Or.inr c_18)]) dX1_checkDeferral_25

set_option maxRecDepth 100000 in
set_option maxHeartbeats 4000000 in
theorem c_X1_countDownPeers (l : Launch) (D : va_G) (cI cZ cP : ClassId) (ad : Nat → Nat) (pd : Nat → Nat → Nat) (S : ST)  (hn : g_N S ≤ 5) : MM l yX1_countDownPeers wsX1_countDownPeers ({ frames := 3, cells := 0, slots := 0, locals := 63 }) D (kTy cI cZ cP) [.ref (ad 0)] (xW cI cZ cP ad pd S) (some (.int (o_CDs S (g_N S)).1)) (xW cI cZ cP ad pd ((o_CDs S (g_N S)).2)) := by
  refine MM.ofW (cc := cX1_countDownPeers) (maxL := 6) (ret := (some .int)) (by decide) rfl (Nat.le_of_ble_eq_true rfl) ?_
  intro p e s m below meth c ls A hx hb hr hlk hml hts hown hK hN hP hD hS hAe hl
  have hown : s.vm.findClass RX1 = some m.cls := hown
  have hi1 : ∀ w ∈ wsX10, w ∈ wsX1_countDownPeers := fun w h => List.mem_cons_of_mem _ (List.mem_append_left _ (List.mem_append_right _ h))
  have hi0 : ∀ w ∈ wsX00, w ∈ wsX1_countDownPeers := fun w h => List.mem_cons_of_mem _ (List.mem_append_right _ h)
  have hl : lv_has ls 6 [(0, .ref (ad 0))] := hl
  refine lv_iconst (v := 0) hx hb dX1_countDownPeers_0 (by decide) ?_
  refine lv_istore_n (lv' := [(1, .int 0), (0, .ref (ad 0))]) hx hb dX1_countDownPeers_1 rfl hl (by decide) rfl (fun ls hl => ?_)
  refine lv_aload_n hx hb dX1_countDownPeers_2 rfl (lv_at hl 1 rfl) ?_
  refine va_get (D := D) (ci := 1) (v := .ref (ad 1)) (C := RX1) (T := TX1) (N := 9) hx hb hts hi1 hown hK hP 0 (xO _ _ _ _ _ _) rfl 0 (by decide) (hts (.fieldLink RX1 11 "GracefulRestart" "peers" "[LGracefulRestart$Peer;") (List.mem_of_getElem? (i := 1) rfl)) (fun _ h9 => h9) (xV_0 _ _) dX1_countDownPeers_3 ?_
  refine lv_astore_n (lv' := [(2, .ref (ad 1)), (1, .int 0), (0, .ref (ad 0))]) hx hb dX1_countDownPeers_6 rfl hl (by decide) rfl (fun ls hl => ?_)
  refine lv_aload_n hx hb dX1_countDownPeers_7 rfl (lv_at hl 0 rfl) ?_
  refine va_alen (v := 5) hx hb hK hP 1 2 (xG_P _ _ _ _ _ _) rfl rfl dX1_countDownPeers_8 ?_
  refine lv_istore_n (lv' := [(3, .int 5), (2, .ref (ad 1)), (1, .int 0), (0, .ref (ad 0))]) hx hb dX1_countDownPeers_9 rfl hl (by decide) rfl (fun ls hl => ?_)
  refine lv_iconst (v := 0) hx hb dX1_countDownPeers_10 (by decide) ?_
  refine lv_istore (lv' := [(4, .int 0), (3, .int 5), (2, .ref (ad 1)), (1, .int 0), (0, .ref (ad 0))]) hx hb dX1_countDownPeers_11 hl (by decide) rfl (fun ls hl => ?_)
  have lp13 : ∀ (n9 i : Nat), i + n9 = 5 → ∀ (H : Heap) (locs : List Loc) (ls : Array Slot), va_P D vwCl (xW cI cZ cP ad pd ((o_CDs S (min i (g_N S))).2)) H → va_D A (xW cI cZ cP ad pd ((o_CDs S (min i (g_N S))).2)) → va_S A s.heap H locs → lv_has ls 6 [(0, .ref (ad 0)), (1, .int ((o_CDs S (min i (g_N S))).1)), (2, .ref (ad 1)), (3, .int 5), (4, .int (nI i))] → W p l e (headSpec wsX1_countDownPeers ({ frames := 3, cells := 0, slots := 0, locals := 63 })).room s m ([.ref (ad 0)] : List Value).toArray below meth c H locs 0 0 (MQ below (kPost D (xW cI cZ cP ad pd S) (xW cI cZ cP ad pd ((o_CDs S (g_N S)).2)) (some (.int (o_CDs S (g_N S)).1))) ([.ref (ad 0)] : List Value).toArray s 0 0 (kA (xW cI cZ cP ad pd S))) (F0 m 13 ls []) := by
    intro n9
    induction n9 with
    | zero =>
      intro i hi9 H locs ls hP hD hS hl
      have hi8 : i = 5 := by omega
      subst hi8
      refine lv_iload hx hb dX1_countDownPeers_13 (lv_at hl 4 rfl) ?_
      refine lv_iload_n hx hb dX1_countDownPeers_15 rfl (lv_at hl 3 rfl) ?_
      refine lv_icmp_ge (tgt := 44) hx hb dX1_countDownPeers_16 (by decide) (fun _ => ?_) (fun c_ => absurd (by decide) c_)
      refine lv_iload_n hx hb dX1_countDownPeers_44 rfl (lv_at hl 1 rfl) ?_
      exact k_iret hx hb hr hlk hP hS hAe (by rw [show min 5 (g_N S) = g_N S by omega]) (by rw [show min 5 (g_N S) = g_N S by omega]) dX1_countDownPeers_45
    | succ n9 ih =>
      intro i hi9 H locs ls hP hD hS hl
      have hlt : i < 5 := by omega
      refine lv_iload hx hb dX1_countDownPeers_13 (lv_at hl 4 rfl) ?_
      refine lv_iload_n hx hb dX1_countDownPeers_15 rfl (lv_at hl 3 rfl) ?_
      refine lv_icmp_ge (tgt := 44) hx hb dX1_countDownPeers_16 (by decide) (fun c_ => absurd c_ (nI_ge (a := i) (b := 5) hlt (by decide))) (fun _ => ?_)
      refine lv_aload_n hx hb dX1_countDownPeers_19 rfl (lv_at hl 2 rfl) ?_
      refine lv_iload hx hb dX1_countDownPeers_20 (lv_at hl 4 rfl) ?_
      by_cases hin : i < g_N S
      · have hmi : min i (g_N S) = i := by omega
        rw [hmi] at hP hD
        rw [hmi] at hl
        refine k_aald (k := i) (v := .ref (pd i 0)) hx hb hK hP 1 2 (xG_P _ _ _ _ _ _) rfl rfl (by omega) (by decide) (xR_in (by rw [show g_N ((o_CDs S i).2) = g_N S from (o_CDs_N _ _)]; omega)) dX1_countDownPeers_22 ?_
        refine lv_astore (lv' := [(5, .ref (pd i 0)), (0, .ref (ad 0)), (1, .int ((o_CDs S i).1)), (2, .ref (ad 1)), (3, .int 5), (4, .int (nI i))]) hx hb dX1_countDownPeers_23 hl (by decide) rfl (fun ls hl => ?_)
        refine lv_aload hx hb dX1_countDownPeers_25 (lv_at hl 0 rfl) ?_
        refine lv_ifnull hx hb dX1_countDownPeers_27 ?_
        refine lv_iload_n hx hb dX1_countDownPeers_30 rfl (lv_at hl 2 rfl) ?_
        refine lv_aload hx hb dX1_countDownPeers_31 (lv_at hl 0 rfl) ?_
        refine kVN (As := []) (rest := [.int ((o_CDs S i).1)]) (Wc := (xB cI cZ pd ((o_CDs S i).2) i)) (Wc1 := (xB cI cZ pd ((o_CD ((o_CDs S i).2) i).2) i)) (Wd1 := (xW cI cZ cP ad pd ((o_CD ((o_CDs S i).2) i).2))) (o := some (.int ((o_CD ((o_CDs S i).2) i).1))) ⟨hx, hb, hml, hown, hts⟩ (s_X0_countDown l D cI cZ cP pd ((o_CDs S i).2) i ) ⟨va_cnB 0 hts gX1_countDownPeers_X0_countDown_n151 rfl rfl rfl (hN (.methodLinkNest RX1 151 yX0_countDown RX1) (List.mem_of_getElem? (i := 17) rfl)) (hts (.initialized RX0) (List.mem_of_getElem? (i := 3) rfl)) (by decide +kernel) ⟨Nat.le_of_ble_eq_true rfl, Nat.le_of_ble_eq_true rfl⟩, (hts (.instanceMethod yX0_countDown) (List.mem_of_getElem? (i := 2) rfl)), (hts (.selects RX0 yX0_countDown yX0_countDown) (List.mem_of_getElem? (i := 4) rfl))⟩ hK hN hP hD hS (fun j => 4 + (4 * i + j)) (fun j7 q7 h7 => y_hf (by rw [show g_N ((o_CDs S i).2) = g_N S from (o_CDs_N _ _)]; omega) j7 q7 h7) (y_inj i) (xW_adr (one_CD (cI := cI) (cZ := cZ) (pd := pd) ((o_CDs S i).2) i).1) (fun i7 q7 h7 => xW_new (one_CD (cI := cI) (cZ := cZ) (pd := pd) ((o_CDs S i).2) i) i7 q7 h7) (4 + (4 * i + 0)) 0 rfl rfl (yO _ _ _ _ _ _ (by rw [show g_N ((o_CDs S i).2) = g_N S from (o_CDs_N _ _)]; omega)) rfl hl.1 rfl (Nat.le_of_ble_eq_true rfl) ⟨Nat.zero_le _, Nat.zero_le _⟩ dX1_countDownPeers_33 (fun H locs hP hD hS => ?_)
        refine lv_iadd hx hb dX1_countDownPeers_36 ?_
        refine lv_istore_n (lv' := [(1, .int (((o_CDs S i).1) + ((o_CD ((o_CDs S i).2) i).1))), (5, .ref (pd i 0)), (0, .ref (ad 0)), (2, .ref (ad 1)), (3, .int 5), (4, .int (nI i))]) hx hb dX1_countDownPeers_37 rfl hl (by decide) rfl (fun ls hl => ?_)
        refine lv_iinc (v := nI (i + 1)) (lv' := [(4, .int (nI (i + 1))), (1, .int (((o_CDs S i).1) + ((o_CD ((o_CDs S i).2) i).1))), (5, .ref (pd i 0)), (0, .ref (ad 0)), (2, .ref (ad 1)), (3, .int 5)]) hx hb dX1_countDownPeers_38 hl (k := 5) rfl (nI_1 i) (by decide) rfl (fun ls hl => ?_)
        refine lv_goto (tgt := 13) hx hb dX1_countDownPeers_41 (by decide) ?_
        rw [CDs_s2] at hP hD
        exact ih (i + 1) (by omega) _ _ ls (by rw [show min (i + 1) (g_N S) = i + 1 by omega]; exact hP) (by rw [show min (i + 1) (g_N S) = i + 1 by omega]; exact hD) hS (lv_cv (lv_sub hl [3, 1, 4, 5, 0] rfl) (by rw [show min (i + 1) (g_N S) = i + 1 by omega]; rfl))
      · refine k_aald (k := i) (v := .null) hx hb hK hP 1 2 (xG_P _ _ _ _ _ _) rfl rfl (by omega) (by decide) (xR_out (by rw [show g_N ((o_CDs S (min i (g_N S))).2) = g_N S from (o_CDs_N _ _)]; omega)) dX1_countDownPeers_22 ?_
        refine lv_astoreN (lv' := [(5, .null), (0, .ref (ad 0)), (1, .int ((o_CDs S (min i (g_N S))).1)), (2, .ref (ad 1)), (3, .int 5), (4, .int (nI i))]) hx hb dX1_countDownPeers_23 hl (by decide) rfl (fun ls hl => ?_)
        refine lv_aloadN hx hb dX1_countDownPeers_25 (lv_at hl 0 rfl) ?_
        refine lv_ifnullN (tgt := 38) hx hb dX1_countDownPeers_27 (by decide) ?_
        refine lv_iinc (v := nI (i + 1)) (lv' := [(4, .int (nI (i + 1))), (5, .null), (0, .ref (ad 0)), (1, .int ((o_CDs S (min i (g_N S))).1)), (2, .ref (ad 1)), (3, .int 5)]) hx hb dX1_countDownPeers_38 hl (k := 5) rfl (nI_1 i) (by decide) rfl (fun ls hl => ?_)
        refine lv_goto (tgt := 13) hx hb dX1_countDownPeers_41 (by decide) ?_
        exact ih (i + 1) (by omega) _ _ ls (by rw [show min (i + 1) (g_N S) = min i (g_N S) by omega]; exact hP) (by rw [show min (i + 1) (g_N S) = min i (g_N S) by omega]; exact hD) hS (lv_cv (lv_sub hl [2, 3, 4, 5, 0] rfl) (by rw [show min (i + 1) (g_N S) = min i (g_N S) by omega]; rfl))
  exact lp13 5 0 (by omega) _ _ ls (by rw [Nat.zero_min, CDs_0]; exact hP) (by rw [Nat.zero_min, CDs_0]; exact hD) hS (lv_cv (lv_sub hl [4, 3, 2, 1, 0] rfl) (by rw [Nat.zero_min]; rfl))
