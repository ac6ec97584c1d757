/-! steps of the loops -/
theorem b_len_up {S : ST} {r i : Nat} (h : g_St S i = 0) : b_len S r i = g_Of S i r := by simp [b_len, h]
theorem b_len_no {S : ST} {r i : Nat} (h : ¬ g_St S i = 0) : b_len S r i = 0 := by simp [b_len, h]
theorem b_keep {S : ST} {r i : Nat} (h : ¬ (0 < b_len S r i ∧ ((b_at S r i).1 = -6 ∨ b_len S r i < (b_at S r i).2))) : b_at S r i = b_at S r (i + 1) := by
  rw [show b_at S r (i + 1) = (if 0 < b_len S r i ∧ ((b_at S r i).1 = -6 ∨ b_len S r i < (b_at S r i).2) then (nI i, b_len S r i) else b_at S r i) from rfl, if_neg h]
theorem b_take {S : ST} {r i : Nat} (h : 0 < b_len S r i ∧ ((b_at S r i).1 = -6 ∨ b_len S r i < (b_at S r i).2)) : b_at S r (i + 1) = (nI i, b_len S r i) := by
  rw [show b_at S r (i + 1) = (if 0 < b_len S r i ∧ ((b_at S r i).1 = -6 ∨ b_len S r i < (b_at S r i).2) then (nI i, b_len S r i) else b_at S r i) from rfl, if_pos h]
theorem b_keep0 {S : ST} {r i : Nat} (h : ¬ 0 < b_len S r i) : (b_at S r i).1 = (b_at S r (i + 1)).1 := congrArg Prod.fst (b_keep (fun z => h z.1))
theorem b_keep1 {S : ST} {r i : Nat} (h6 : ¬ (b_at S r i).1 = -6) (h : ¬ b_len S r i < (b_at S r i).2) : (b_at S r i).1 = (b_at S r (i + 1)).1 := congrArg Prod.fst (b_keep (fun z => z.2.elim h6 h))
theorem b_take1 {S : ST} {r i : Nat} (h : 0 < b_len S r i ∧ ((b_at S r i).1 = -6 ∨ b_len S r i < (b_at S r i).2)) : nI i = (b_at S r (i + 1)).1 := by rw [b_take h]
theorem a_skip {S : ST} {r : Nat} {hop len : Int32} {i : Nat} (h : ¬ g_St S i = 0) : a_i S r hop len i = a_i S r hop len (i + 1) := by
  have h2 : ¬ g_St (a_i S r hop len i) i = 0 := by rw [a_i_St]; exact h
  rw [show a_i S r hop len (i + 1) = a_1 (a_i S r hop len i) r hop len i from rfl, a_1, if_neg h2]
theorem wt_t {S : ST} {i : Nat} (h : aw S i) : o_Wt S i ||| (1 <<< (nI i &&& 31)) = o_Wt S (i + 1) := by
  rw [show o_Wt S (i + 1) = @ite _ (aw S i) (Classical.propDecidable _) (o_Wt S i ||| (1 <<< (nI i &&& 31))) (o_Wt S i) from rfl, if_pos h]
theorem wt_f {S : ST} {i : Nat} (h : ¬ aw S i) : o_Wt S i = o_Wt S (i + 1) := by
  rw [show o_Wt S (i + 1) = @ite _ (aw S i) (Classical.propDecidable _) (o_Wt S i ||| (1 <<< (nI i &&& 31))) (o_Wt S i) from rfl, if_neg h]
theorem or_zero (x : Int32) : x ||| 0 = x := Int32.or_zero
theorem ER_t {S : ST} {i : Nat} (h : g_St S i = 0) : o_ERes (o_ER S i) i = o_ER S (i + 1) := by
  have h2 : g_St (o_ER S i) i = 0 := by rw [o_ER_St]; exact h
  rw [show o_ER S (i + 1) = (if g_St (o_ER S i) i = 0 then o_ERes (o_ER S i) i else o_ER S i) from rfl, if_pos h2]
theorem ER_f {S : ST} {i : Nat} (h : ¬ g_St S i = 0) : o_ER S i = o_ER S (i + 1) := by
  have h2 : ¬ g_St (o_ER S i) i = 0 := by rw [o_ER_St]; exact h
  rw [show o_ER S (i + 1) = (if g_St (o_ER S i) i = 0 then o_ERes (o_ER S i) i else o_ER S i) from rfl, if_neg h2]
theorem sel_hh (S : ST) (r n i : Nat) (hn : n ≤ 5) : (b_at S r n).1 = -6 ∨ ∃ j, j < 5 ∧ (b_at S r n).1 = nI j ∧ (b_at S r n).2 + 1 = g_Of (a_i (o_Ent S r (b_at S r n).1) r (b_at S r n).1 ((b_at S r n).2 + 1) i) j r + 1 := by
  rcases b_best S r n with e | ⟨j, e1, e2, e3, -, -⟩
  · exact Or.inl e
  · refine Or.inr ⟨j, by omega, e2, ?_⟩
    rw [e3, a_i_Of]
    rfl
theorem chk_no {S : ST} (h : g_Df S = 0) : S = o_Chk S := by rw [o_Chk, if_pos h]
theorem chk_wait {S : ST} (h : ¬ g_Df S = 0) (h1 : ¬ g_Dl S = 0) (h2 : ¬ o_Wt S (g_N S) = 0) : S = o_Chk S := by rw [o_Chk, if_neg h, if_neg (fun z => z.elim h1 h2)]
theorem chk_end {S : ST} (h : ¬ g_Df S = 0) (h1 : g_Dl S = 0 ∨ o_Wt S (g_N S) = 0) : o_End S = o_Chk S := by rw [o_Chk, if_neg h, if_pos h1]

set_option maxRecDepth 100000 in
set_option maxHeartbeats 4000000 in
theorem c_X2_bestPeer (l : Launch) (D : va_G) (cI cZ cP : ClassId) (md : Nat → Nat) (S : ST) (r9 : Nat) (hr9 : r9 < 16) (hn : g_N S ≤ 5) : MM l yX2_bestPeer wsX2_bestPeer ({ frames := 0, cells := 0, slots := 0, locals := 0 }) D (kTy cI cZ cP) [.ref (md 0), .int (nI r9)] (mW cI cZ md S) (some (.int (b_at S r9 (g_N S)).1)) (mW cI cZ md S) := by
  refine MM.ofW (cc := cX2_bestPeer) (maxL := 5) (ret := (some .int)) (by decide) rfl (Nat.le_of_ble_eq_true rfl) ?_
  intro p e s m below meth c ls A hx hb hr hlk hml hts hown hK hN hP hD hS hAe hl
  have hown : s.vm.findClass RX2 = some m.cls := hown
  have hi2 : ∀ w ∈ wsX20, w ∈ wsX2_bestPeer := fun w h => List.mem_cons_of_mem _ (List.mem_append_right _ h)
  have hl : lv_has ls 5 [(0, .ref (md 0)), (1, .int (nI r9))] := hl
  refine lv_bipush (v := -6) hx hb dX2_bestPeer_0 (by decide) ?_
  refine lv_istore_n (lv' := [(2, .int (-6)), (0, .ref (md 0)), (1, .int (nI r9))]) hx hb dX2_bestPeer_2 rfl hl (by decide) rfl (fun ls hl => ?_)
  refine lv_iconst (v := 0) hx hb dX2_bestPeer_3 (by decide) ?_
  refine lv_istore_n (lv' := [(3, .int 0), (2, .int (-6)), (0, .ref (md 0)), (1, .int (nI r9))]) hx hb dX2_bestPeer_4 rfl hl (by decide) rfl (fun ls hl => ?_)
  have lp5 : ∀ (n9 i : Nat), i + n9 = g_N S → ∀ (H : Heap) (locs : List Loc) (ls : Array Slot), va_P D vwCl (mW cI cZ md S) H → va_D A (mW cI cZ md S) → va_S A s.heap H locs → lv_has ls 5 [(0, .ref (md 0)), (1, .int (nI r9)), (2, .int ((b_at S r9 i).1)), (3, .int (nI i))] → W p l e (headSpec wsX2_bestPeer ({ frames := 0, cells := 0, slots := 0, locals := 0 })).room s m ([.ref (md 0), .int (nI r9)] : List Value).toArray below meth c H locs 0 0 (MQ below (kPost D (mW cI cZ md S) (mW cI cZ md S) (some (.int (b_at S r9 (g_N S)).1))) ([.ref (md 0), .int (nI r9)] : List Value).toArray s 0 0 (kA (mW cI cZ md S))) (F0 m 5 ls []) := by
    intro n9
    induction n9 with
    | zero =>
      intro i hi9 H locs ls hP hD hS hl
      have hi8 : i = g_N S := by omega
      subst hi8
      refine lv_iload_n hx hb dX2_bestPeer_5 rfl (lv_at hl 3 rfl) ?_
      refine lv_aload_n hx hb dX2_bestPeer_6 rfl (lv_at hl 0 rfl) ?_
      refine va_get (D := D) (ci := 2) (v := .int (nI (g_N S))) (C := RX2) (T := TX2) (N := 16) hx hb hts hi2 hown hK hP 0 (mO _ _ _ _) rfl 3 (by decide) (hts (.fieldLink RX2 55 "GracefulRestartModel" "peers" "I") (List.mem_of_getElem? (i := 1) rfl)) (fun _ h9 => h9) (mV_N _ _) dX2_bestPeer_7 ?_
      refine lv_icmp_ge (tgt := 91) hx hb dX2_bestPeer_10 (by decide) (fun _ => ?_) (fun c_ => absurd (Int32.le_refl _) c_)
      refine lv_iload_n hx hb dX2_bestPeer_91 rfl (lv_at hl 2 rfl) ?_
      exact k_iret hx hb hr hlk hP hS hAe rfl rfl dX2_bestPeer_92
    | succ n9 ih =>
      intro i hi9 H locs ls hP hD hS hl
      have hlt : i < g_N S := by omega
      refine lv_iload_n hx hb dX2_bestPeer_5 rfl (lv_at hl 3 rfl) ?_
      refine lv_aload_n hx hb dX2_bestPeer_6 rfl (lv_at hl 0 rfl) ?_
      refine va_get (D := D) (ci := 2) (v := .int (nI (g_N S))) (C := RX2) (T := TX2) (N := 16) hx hb hts hi2 hown hK hP 0 (mO _ _ _ _) rfl 3 (by decide) (hts (.fieldLink RX2 55 "GracefulRestartModel" "peers" "I") (List.mem_of_getElem? (i := 1) rfl)) (fun _ h9 => h9) (mV_N _ _) dX2_bestPeer_7 ?_
      refine lv_icmp_ge (tgt := 91) hx hb dX2_bestPeer_10 (by decide) (fun c_ => absurd c_ (nI_ge (a := i) (b := g_N S) hlt (by omega))) (fun _ => ?_)
      refine lv_aload_n hx hb dX2_bestPeer_13 rfl (lv_at hl 0 rfl) ?_
      refine va_get (D := D) (ci := 2) (v := .ref (md 2)) (C := RX2) (T := TX2) (N := 16) hx hb hts hi2 hown hK hP 0 (mO _ _ _ _) rfl 5 (by decide) (hts (.fieldLink RX2 23 "GracefulRestartModel" "stateOf" "[I") (List.mem_of_getElem? (i := 2) rfl)) (fun _ h9 => h9) (mV_5 _ _) dX2_bestPeer_14 ?_
      refine lv_iload_n hx hb dX2_bestPeer_17 rfl (lv_at hl 3 rfl) ?_
      refine k_iald (k := i) hx hb hK hP 2 0 (mG_St _ _ _ _) rfl rfl (by omega) (by decide) dX2_bestPeer_18 ?_
      refine lv_if_ne (tgt := 40) hx hb dX2_bestPeer_19 (by decide) (fun c_19 => ?_) (fun c_19 => ?_)
      · refine lv_iconst (v := 0) hx hb dX2_bestPeer_40 (by decide) ?_
        refine lv_istore (lv' := [(4, .int 0), (0, .ref (md 0)), (1, .int (nI r9)), (2, .int ((b_at S r9 i).1)), (3, .int (nI i))]) hx hb dX2_bestPeer_41 hl (by decide) rfl (fun ls hl => ?_)
        refine lv_iload hx hb dX2_bestPeer_43 (lv_at hl 0 rfl) ?_
        refine lv_if_eq (tgt := 83) hx hb dX2_bestPeer_45 (by decide) (fun _ => ?_) (fun c_ => absurd (by decide) c_)
        refine lv_iload_n hx hb dX2_bestPeer_83 rfl (lv_at hl 3 rfl) ?_
        refine lv_istore_n (lv' := [(2, .int ((b_at S r9 i).1)), (4, .int 0), (0, .ref (md 0)), (1, .int (nI r9)), (3, .int (nI i))]) hx hb dX2_bestPeer_84 rfl hl (by decide) rfl (fun ls hl => ?_)
        refine lv_iinc (v := nI (i + 1)) (lv' := [(3, .int (nI (i + 1))), (2, .int ((b_at S r9 i).1)), (4, .int 0), (0, .ref (md 0)), (1, .int (nI r9))]) hx hb dX2_bestPeer_85 hl (k := 4) rfl (nI_1 i) (by decide) rfl (fun ls hl => ?_)
        refine lv_goto (tgt := 5) hx hb dX2_bestPeer_88 (by decide) ?_
        rw [b_keep0 (by rw [b_len_no c_19]; decide)] at hl
        exact ih (i + 1) (by omega) _ _ ls hP hD hS (lv_sub hl [3, 4, 1, 0] rfl)
      · refine lv_aload_n hx hb dX2_bestPeer_22 rfl (lv_at hl 0 rfl) ?_
        refine va_get (D := D) (ci := 2) (v := .ref (md 6)) (C := RX2) (T := TX2) (N := 16) hx hb hts hi2 hown hK hP 0 (mO _ _ _ _) rfl 9 (by decide) (hts (.fieldLink RX2 36 "GracefulRestartModel" "offered" "[I") (List.mem_of_getElem? (i := 3) rfl)) (fun _ h9 => h9) (mV_9 _ _) dX2_bestPeer_23 ?_
        refine lv_bipush (v := 16) hx hb dX2_bestPeer_26 (by decide) ?_
        refine lv_iload_n hx hb dX2_bestPeer_28 rfl (lv_at hl 3 rfl) ?_
        refine lv_imul hx hb dX2_bestPeer_29 ?_
        refine k_top (nx16 i) ?_
        refine lv_iload_n hx hb dX2_bestPeer_30 rfl (lv_at hl 1 rfl) ?_
        refine lv_iadd hx hb dX2_bestPeer_31 ?_
        refine k_top (nI_add (16 * i) r9) ?_
        refine k_iald (k := 16 * i + r9) hx hb hK hP 6 0 (mG_Of _ _ _ _) rfl rfl (by omega) (by decide) dX2_bestPeer_32 ?_
        refine k_top (y := (g_Of S) i r9) (fl_at 16 _ (p := i) (r := r9) (by omega)) ?_
        refine lv_if_le (tgt := 40) hx hb dX2_bestPeer_33 (by decide) (fun c_33 => ?_) (fun c_33 => ?_)
        · refine lv_iconst (v := 0) hx hb dX2_bestPeer_40 (by decide) ?_
          refine lv_istore (lv' := [(4, .int 0), (0, .ref (md 0)), (1, .int (nI r9)), (2, .int ((b_at S r9 i).1)), (3, .int (nI i))]) hx hb dX2_bestPeer_41 hl (by decide) rfl (fun ls hl => ?_)
          refine lv_iload hx hb dX2_bestPeer_43 (lv_at hl 0 rfl) ?_
          refine lv_if_eq (tgt := 83) hx hb dX2_bestPeer_45 (by decide) (fun _ => ?_) (fun c_ => absurd (by decide) c_)
          refine lv_iload_n hx hb dX2_bestPeer_83 rfl (lv_at hl 3 rfl) ?_
          refine lv_istore_n (lv' := [(2, .int ((b_at S r9 i).1)), (4, .int 0), (0, .ref (md 0)), (1, .int (nI r9)), (3, .int (nI i))]) hx hb dX2_bestPeer_84 rfl hl (by decide) rfl (fun ls hl => ?_)
          refine lv_iinc (v := nI (i + 1)) (lv' := [(3, .int (nI (i + 1))), (2, .int ((b_at S r9 i).1)), (4, .int 0), (0, .ref (md 0)), (1, .int (nI r9))]) hx hb dX2_bestPeer_85 hl (k := 4) rfl (nI_1 i) (by decide) rfl (fun ls hl => ?_)
          refine lv_goto (tgt := 5) hx hb dX2_bestPeer_88 (by decide) ?_
          rw [b_keep0 (by rw [b_len_up c_19]; exact Int32.not_lt.mpr c_33)] at hl
          exact ih (i + 1) (by omega) _ _ ls hP hD hS (lv_sub hl [3, 4, 1, 0] rfl)
        · refine lv_iconst (v := 1) hx hb dX2_bestPeer_36 (by decide) ?_
          refine lv_goto (tgt := 41) hx hb dX2_bestPeer_37 (by decide) ?_
          refine lv_istore (lv' := [(4, .int 1), (0, .ref (md 0)), (1, .int (nI r9)), (2, .int ((b_at S r9 i).1)), (3, .int (nI i))]) hx hb dX2_bestPeer_41 hl (by decide) rfl (fun ls hl => ?_)
          refine lv_iload hx hb dX2_bestPeer_43 (lv_at hl 0 rfl) ?_
          refine lv_if_eq (tgt := 83) hx hb dX2_bestPeer_45 (by decide) (fun c_ => absurd c_ (by decide)) (fun _ => ?_)
          refine lv_iload_n hx hb dX2_bestPeer_48 rfl (lv_at hl 3 rfl) ?_
          refine lv_bipush (v := -6) hx hb dX2_bestPeer_49 (by decide) ?_
          refine lv_icmp_eq (tgt := 79) hx hb dX2_bestPeer_51 (by decide) (fun c_51 => ?_) (fun c_51 => ?_)
          · refine lv_iload_n hx hb dX2_bestPeer_79 rfl (lv_at hl 4 rfl) ?_
            refine lv_goto (tgt := 84) hx hb dX2_bestPeer_80 (by decide) ?_
            refine k_top (y := (b_at S r9 (i + 1)).1) (b_take1 ⟨by rw [b_len_up c_19]; exact Int32.not_le.mp c_33, Or.inl c_51⟩) ?_
            refine lv_istore_n (lv' := [(2, .int ((b_at S r9 (i + 1)).1)), (4, .int 1), (0, .ref (md 0)), (1, .int (nI r9)), (3, .int (nI i))]) hx hb dX2_bestPeer_84 rfl hl (by decide) rfl (fun ls hl => ?_)
            refine lv_iinc (v := nI (i + 1)) (lv' := [(3, .int (nI (i + 1))), (2, .int ((b_at S r9 (i + 1)).1)), (4, .int 1), (0, .ref (md 0)), (1, .int (nI r9))]) hx hb dX2_bestPeer_85 hl (k := 4) rfl (nI_1 i) (by decide) rfl (fun ls hl => ?_)
            refine lv_goto (tgt := 5) hx hb dX2_bestPeer_88 (by decide) ?_
            exact ih (i + 1) (by omega) _ _ ls hP hD hS (lv_sub hl [3, 4, 1, 0] rfl)
          · obtain ⟨j, hj, ej, eo, -, -⟩ := (b_best S r9 i).resolve_left c_51
            refine lv_aload_n hx hb dX2_bestPeer_54 rfl (lv_at hl 1 rfl) ?_
            refine va_get (D := D) (ci := 2) (v := .ref (md 6)) (C := RX2) (T := TX2) (N := 16) hx hb hts hi2 hown hK hP 0 (mO _ _ _ _) rfl 9 (by decide) (hts (.fieldLink RX2 36 "GracefulRestartModel" "offered" "[I") (List.mem_of_getElem? (i := 3) rfl)) (fun _ h9 => h9) (mV_9 _ _) dX2_bestPeer_55 ?_
            refine lv_bipush (v := 16) hx hb dX2_bestPeer_58 (by decide) ?_
            refine lv_iload_n hx hb dX2_bestPeer_60 rfl (lv_at hl 4 rfl) ?_
            refine lv_imul hx hb dX2_bestPeer_61 ?_
            refine k_top (nx16 i) ?_
            refine lv_iload_n hx hb dX2_bestPeer_62 rfl (lv_at hl 2 rfl) ?_
            refine lv_iadd hx hb dX2_bestPeer_63 ?_
            refine k_top (nI_add (16 * i) r9) ?_
            refine k_iald (k := 16 * i + r9) hx hb hK hP 6 0 (mG_Of _ _ _ _) rfl rfl (by omega) (by decide) dX2_bestPeer_64 ?_
            refine k_top (y := (g_Of S) i r9) (fl_at 16 _ (p := i) (r := r9) (by omega)) ?_
            refine lv_aload_n hx hb dX2_bestPeer_65 rfl (lv_at hl 1 rfl) ?_
            refine va_get (D := D) (ci := 2) (v := .ref (md 6)) (C := RX2) (T := TX2) (N := 16) hx hb hts hi2 hown hK hP 0 (mO _ _ _ _) rfl 9 (by decide) (hts (.fieldLink RX2 36 "GracefulRestartModel" "offered" "[I") (List.mem_of_getElem? (i := 3) rfl)) (fun _ h9 => h9) (mV_9 _ _) dX2_bestPeer_66 ?_
            refine lv_bipush (v := 16) hx hb dX2_bestPeer_69 (by decide) ?_
            refine lv_iload_n hx hb dX2_bestPeer_71 rfl (lv_at hl 3 rfl) ?_
            refine lv_imul hx hb dX2_bestPeer_72 ?_
            refine k_top (y := nI (16 * j)) (by rw [ej, nx16]) ?_
            refine lv_iload_n hx hb dX2_bestPeer_73 rfl (lv_at hl 2 rfl) ?_
            refine lv_iadd hx hb dX2_bestPeer_74 ?_
            refine k_top (nI_add (16 * j) r9) ?_
            refine k_iald (k := 16 * j + r9) hx hb hK hP 6 0 (mG_Of _ _ _ _) rfl rfl (by omega) (by decide) dX2_bestPeer_75 ?_
            refine k_top (y := (g_Of S) j r9) (fl_at 16 _ (p := j) (r := r9) (by omega)) ?_
            refine lv_icmp_ge (tgt := 83) hx hb dX2_bestPeer_76 (by decide) (fun c_76 => ?_) (fun c_76 => ?_)
            · refine lv_iload_n hx hb dX2_bestPeer_83 rfl (lv_at hl 3 rfl) ?_
              refine lv_istore_n (lv' := [(2, .int ((b_at S r9 i).1)), (4, .int 1), (0, .ref (md 0)), (1, .int (nI r9)), (3, .int (nI i))]) hx hb dX2_bestPeer_84 rfl hl (by decide) rfl (fun ls hl => ?_)
              refine lv_iinc (v := nI (i + 1)) (lv' := [(3, .int (nI (i + 1))), (2, .int ((b_at S r9 i).1)), (4, .int 1), (0, .ref (md 0)), (1, .int (nI r9))]) hx hb dX2_bestPeer_85 hl (k := 4) rfl (nI_1 i) (by decide) rfl (fun ls hl => ?_)
              refine lv_goto (tgt := 5) hx hb dX2_bestPeer_88 (by decide) ?_
              rw [b_keep1 c_51 (by rw [b_len_up c_19, eo]; exact Int32.not_lt.mpr c_76)] at hl
              exact ih (i + 1) (by omega) _ _ ls hP hD hS (lv_sub hl [3, 4, 1, 0] rfl)
            · refine lv_iload_n hx hb dX2_bestPeer_79 rfl (lv_at hl 4 rfl) ?_
              refine lv_goto (tgt := 84) hx hb dX2_bestPeer_80 (by decide) ?_
              refine k_top (y := (b_at S r9 (i + 1)).1) (b_take1 ⟨by rw [b_len_up c_19]; exact Int32.not_le.mp c_33, Or.inr (by rw [b_len_up c_19, eo]; exact Int32.not_le.mp c_76)⟩) ?_
              refine lv_istore_n (lv' := [(2, .int ((b_at S r9 (i + 1)).1)), (4, .int 1), (0, .ref (md 0)), (1, .int (nI r9)), (3, .int (nI i))]) hx hb dX2_bestPeer_84 rfl hl (by decide) rfl (fun ls hl => ?_)
              refine lv_iinc (v := nI (i + 1)) (lv' := [(3, .int (nI (i + 1))), (2, .int ((b_at S r9 (i + 1)).1)), (4, .int 1), (0, .ref (md 0)), (1, .int (nI r9))]) hx hb dX2_bestPeer_85 hl (k := 4) rfl (nI_1 i) (by decide) rfl (fun ls hl => ?_)
              refine lv_goto (tgt := 5) hx hb dX2_bestPeer_88 (by decide) ?_
              exact ih (i + 1) (by omega) _ _ ls hP hD hS (lv_sub hl [3, 4, 1, 0] rfl)
  exact lp5 (g_N S) 0 (by omega) _ _ ls hP hD hS (lv_sub hl [2, 3, 1, 0] rfl)

set_option maxRecDepth 100000 in
set_option maxHeartbeats 4000000 in
theorem c_X2_updates (l : Launch) (D : va_G) (cI cZ cP : ClassId) (md : Nat → Nat) (S : ST) (p9 r9 : Nat) (hop len : Int32) (hp9 : p9 < 5) (hr9 : r9 < 16) (hst : g_St S p9 = 0) (hh : hop = -6 ∨ ∃ j, j < 5 ∧ hop = nI j ∧ len = g_Of S j r9 + 1) : MM l yX2_updates wsX2_updates ({ frames := 0, cells := 0, slots := 0, locals := 0 }) D (kTy cI cZ cP) [.ref (md 0), .int (nI p9), .int (nI r9), .int hop] (mW cI cZ md S) (none) (mW cI cZ md (a_1 S r9 hop len p9)) := by
  refine MM.ofW (cc := cX2_updates) (maxL := 5) (ret := none) (by decide) rfl (Nat.le_of_ble_eq_true rfl) ?_
  intro p e s m below meth c ls A hx hb hr hlk hml hts hown hK hN hP hD hS hAe hl
  have hown : s.vm.findClass RX2 = some m.cls := hown
  have hi2 : ∀ w ∈ wsX20, w ∈ wsX2_updates := fun w h => List.mem_cons_of_mem _ (List.mem_append_right _ h)
  have hl : lv_has ls 5 [(0, .ref (md 0)), (1, .int (nI p9)), (2, .int (nI r9)), (3, .int hop)] := hl
  refine lv_bipush (v := 16) hx hb dX2_updates_0 (by decide) ?_
  refine lv_iload_n hx hb dX2_updates_2 rfl (lv_at hl 1 rfl) ?_
  refine lv_imul hx hb dX2_updates_3 ?_
  refine k_top (nx16 p9) ?_
  refine lv_iload_n hx hb dX2_updates_4 rfl (lv_at hl 2 rfl) ?_
  refine lv_iadd hx hb dX2_updates_5 ?_
  refine k_top (nI_add (16 * p9) r9) ?_
  refine lv_istore (lv' := [(4, .int (nI (16 * p9 + r9))), (0, .ref (md 0)), (1, .int (nI p9)), (2, .int (nI r9)), (3, .int hop)]) hx hb dX2_updates_6 hl (by decide) rfl (fun ls hl => ?_)
  refine lv_iload_n hx hb dX2_updates_8 rfl (lv_at hl 4 rfl) ?_
  refine lv_bipush (v := -6) hx hb dX2_updates_9 (by decide) ?_
  refine lv_icmp_eq (tgt := 50) hx hb dX2_updates_11 (by decide) (fun c_11 => ?_) (fun c_11 => ?_)
  · refine lv_aload_n hx hb dX2_updates_50 rfl (lv_at hl 1 rfl) ?_
    refine va_get (D := D) (ci := 2) (v := .ref (md 8)) (C := RX2) (T := TX2) (N := 16) hx hb hts hi2 hown hK hP 0 (mO _ _ _ _) rfl 11 (by decide) (hts (.fieldLink RX2 42 "GracefulRestartModel" "isStaleAt" "[Z") (List.mem_of_getElem? (i := 3) rfl)) (fun _ h9 => h9) (mV_11 _ _) dX2_updates_51 ?_
    refine lv_iload hx hb dX2_updates_54 (lv_at hl 0 rfl) ?_
    refine k_zald (k := 16 * p9 + r9) hx hb hK hP 8 1 (mG_Ss _ _ _ _) rfl rfl (by omega) (by decide) dX2_updates_56 ?_
    refine k_top (y := (g_Ss S) p9 r9) (fl_at 16 _ (p := p9) (r := r9) (by omega)) ?_
    refine lv_if_ne (tgt := 68) hx hb dX2_updates_57 (by decide) (fun c_57 => ?_) (fun c_57 => ?_)
    · exact k_vret hx hb hr hlk hP hS hAe (by rw [a_1, if_pos hst, if_pos (Or.inl c_11), if_neg c_57]) dX2_updates_68
    · refine lv_aload_n hx hb dX2_updates_60 rfl (lv_at hl 1 rfl) ?_
      refine va_get (D := D) (ci := 2) (v := .ref (md 7)) (C := RX2) (T := TX2) (N := 16) hx hb hts hi2 hown hK hP 0 (mO _ _ _ _) rfl 10 (by decide) (hts (.fieldLink RX2 39 "GracefulRestartModel" "learned" "[I") (List.mem_of_getElem? (i := 1) rfl)) (fun _ h9 => h9) (mV_10 _ _) dX2_updates_61 ?_
      refine lv_iload hx hb dX2_updates_64 (lv_at hl 0 rfl) ?_
      refine lv_iconst (v := 0) hx hb dX2_updates_66 (by decide) ?_
      refine k_iast (k := 16 * p9 + r9) hx hb hK hP hD hS 7 0 (mG_Le _ _ _ _) rfl rfl (by omega) (by decide) (W1 := (mW cI cZ md (s_Le S (va_up (g_Le S) p9 (upd ((g_Le S) p9) r9 0))))) (by rw [fl_up 16 _ (p := p9) (r := r9) (by omega) _]; exact mS_Le _ _ _ _ _) dX2_updates_67 (fun H locs hP hD hS => ?_)
      exact k_vret hx hb hr hlk hP hS hAe (by rw [a_1, if_pos hst, if_pos (Or.inl c_11), if_pos c_57]) dX2_updates_68
  · refine lv_iload_n hx hb dX2_updates_14 rfl (lv_at hl 4 rfl) ?_
    refine lv_iload_n hx hb dX2_updates_15 rfl (lv_at hl 2 rfl) ?_
    refine lv_icmp_eq (tgt := 50) hx hb dX2_updates_16 (by decide) (fun c_16 => ?_) (fun c_16 => ?_)
    · refine lv_aload_n hx hb dX2_updates_50 rfl (lv_at hl 1 rfl) ?_
      refine va_get (D := D) (ci := 2) (v := .ref (md 8)) (C := RX2) (T := TX2) (N := 16) hx hb hts hi2 hown hK hP 0 (mO _ _ _ _) rfl 11 (by decide) (hts (.fieldLink RX2 42 "GracefulRestartModel" "isStaleAt" "[Z") (List.mem_of_getElem? (i := 3) rfl)) (fun _ h9 => h9) (mV_11 _ _) dX2_updates_51 ?_
      refine lv_iload hx hb dX2_updates_54 (lv_at hl 0 rfl) ?_
      refine k_zald (k := 16 * p9 + r9) hx hb hK hP 8 1 (mG_Ss _ _ _ _) rfl rfl (by omega) (by decide) dX2_updates_56 ?_
      refine k_top (y := (g_Ss S) p9 r9) (fl_at 16 _ (p := p9) (r := r9) (by omega)) ?_
      refine lv_if_ne (tgt := 68) hx hb dX2_updates_57 (by decide) (fun c_57 => ?_) (fun c_57 => ?_)
      · exact k_vret hx hb hr hlk hP hS hAe (by rw [a_1, if_pos hst, if_pos (Or.inr c_16), if_neg c_57]) dX2_updates_68
      · refine lv_aload_n hx hb dX2_updates_60 rfl (lv_at hl 1 rfl) ?_
        refine va_get (D := D) (ci := 2) (v := .ref (md 7)) (C := RX2) (T := TX2) (N := 16) hx hb hts hi2 hown hK hP 0 (mO _ _ _ _) rfl 10 (by decide) (hts (.fieldLink RX2 39 "GracefulRestartModel" "learned" "[I") (List.mem_of_getElem? (i := 1) rfl)) (fun _ h9 => h9) (mV_10 _ _) dX2_updates_61 ?_
        refine lv_iload hx hb dX2_updates_64 (lv_at hl 0 rfl) ?_
        refine lv_iconst (v := 0) hx hb dX2_updates_66 (by decide) ?_
        refine k_iast (k := 16 * p9 + r9) hx hb hK hP hD hS 7 0 (mG_Le _ _ _ _) rfl rfl (by omega) (by decide) (W1 := (mW cI cZ md (s_Le S (va_up (g_Le S) p9 (upd ((g_Le S) p9) r9 0))))) (by rw [fl_up 16 _ (p := p9) (r := r9) (by omega) _]; exact mS_Le _ _ _ _ _) dX2_updates_67 (fun H locs hP hD hS => ?_)
        exact k_vret hx hb hr hlk hP hS hAe (by rw [a_1, if_pos hst, if_pos (Or.inr c_16), if_pos c_57]) dX2_updates_68
    · obtain ⟨j, hj, ej, el⟩ := hh.resolve_left c_11
      refine lv_aload_n hx hb dX2_updates_19 rfl (lv_at hl 1 rfl) ?_
      refine va_get (D := D) (ci := 2) (v := .ref (md 7)) (C := RX2) (T := TX2) (N := 16) hx hb hts hi2 hown hK hP 0 (mO _ _ _ _) rfl 10 (by decide) (hts (.fieldLink RX2 39 "GracefulRestartModel" "learned" "[I") (List.mem_of_getElem? (i := 1) rfl)) (fun _ h9 => h9) (mV_10 _ _) dX2_updates_20 ?_
      refine lv_iload hx hb dX2_updates_23 (lv_at hl 0 rfl) ?_
      refine lv_aload_n hx hb dX2_updates_25 rfl (lv_at hl 1 rfl) ?_
      refine va_get (D := D) (ci := 2) (v := .ref (md 6)) (C := RX2) (T := TX2) (N := 16) hx hb hts hi2 hown hK hP 0 (mO _ _ _ _) rfl 9 (by decide) (hts (.fieldLink RX2 36 "GracefulRestartModel" "offered" "[I") (List.mem_of_getElem? (i := 2) rfl)) (fun _ h9 => h9) (mV_9 _ _) dX2_updates_26 ?_
      refine lv_bipush (v := 16) hx hb dX2_updates_29 (by decide) ?_
      refine lv_iload_n hx hb dX2_updates_31 rfl (lv_at hl 4 rfl) ?_
      refine lv_imul hx hb dX2_updates_32 ?_
      refine k_top (y := nI (16 * j)) (by rw [ej, nx16]) ?_
      refine lv_iload_n hx hb dX2_updates_33 rfl (lv_at hl 3 rfl) ?_
      refine lv_iadd hx hb dX2_updates_34 ?_
      refine k_top (nI_add (16 * j) r9) ?_
      refine k_iald (k := 16 * j + r9) hx hb hK hP 6 0 (mG_Of _ _ _ _) rfl rfl (by omega) (by decide) dX2_updates_35 ?_
      refine k_top (y := (g_Of S) j r9) (fl_at 16 _ (p := j) (r := r9) (by omega)) ?_
      refine lv_iconst (v := 1) hx hb dX2_updates_36 (by decide) ?_
      refine lv_iadd hx hb dX2_updates_37 ?_
      refine k_top (y := len) el.symm ?_
      refine k_iast (k := 16 * p9 + r9) hx hb hK hP hD hS 7 0 (mG_Le _ _ _ _) rfl rfl (by omega) (by decide) (W1 := (mW cI cZ md (s_Le S (va_up (g_Le S) p9 (upd ((g_Le S) p9) r9 len))))) (by rw [fl_up 16 _ (p := p9) (r := r9) (by omega) _]; exact mS_Le _ _ _ _ _) dX2_updates_38 (fun H locs hP hD hS => ?_)
      refine lv_aload_n hx hb dX2_updates_39 rfl (lv_at hl 1 rfl) ?_
      refine va_get (D := D) (ci := 2) (v := .ref (md 8)) (C := RX2) (T := TX2) (N := 16) hx hb hts hi2 hown hK hP 0 (mO _ _ _ _) rfl 11 (by decide) (hts (.fieldLink RX2 42 "GracefulRestartModel" "isStaleAt" "[Z") (List.mem_of_getElem? (i := 3) rfl)) (fun _ h9 => h9) (mV_11 _ _) dX2_updates_40 ?_
      refine lv_iload hx hb dX2_updates_43 (lv_at hl 0 rfl) ?_
      refine lv_iconst (v := 0) hx hb dX2_updates_45 (by decide) ?_
      refine k_zast (k := 16 * p9 + r9) hx hb hK hP hD hS 8 1 (mG_Ss _ _ _ _) rfl rfl (by omega) (by decide) (by decide) (W1 := (mW cI cZ md (s_Ss (s_Le S (va_up (g_Le S) p9 (upd ((g_Le S) p9) r9 len))) (va_up (g_Ss S) p9 (upd ((g_Ss S) p9) r9 0))))) (by rw [show g_Ss (s_Le S (va_up (g_Le S) p9 (upd ((g_Le S) p9) r9 len))) = g_Ss S from (gs_Ss_Le _ _), fl_up 16 _ (p := p9) (r := r9) (by omega) _]; exact mS_Ss _ _ _ _ _) dX2_updates_46 (fun H locs hP hD hS => ?_)
      refine lv_goto (tgt := 68) hx hb dX2_updates_47 (by decide) ?_
      exact k_vret hx hb hr hlk hP hS hAe (by rw [a_1, if_pos hst, if_neg (fun z => z.elim c_11 c_16)]) dX2_updates_68

set_option maxRecDepth 100000 in
set_option maxHeartbeats 4000000 in
theorem c_X2_selects (l : Launch) (D : va_G) (cI cZ cP : ClassId) (md : Nat → Nat) (S : ST) (r9 : Nat) (hr9 : r9 < 16) (hn : g_N S ≤ 5) : MM l yX2_selects wsX2_selects ({ frames := 1, cells := 0, slots := 0, locals := 24 }) D (kTy cI cZ cP) [.ref (md 0), .int (nI r9)] (mW cI cZ md S) (none) (mW cI cZ md (o_Sel S r9)) := by
  refine MM.ofW (cc := cX2_selects) (maxL := 4) (ret := none) (by decide) rfl (Nat.le_of_ble_eq_true rfl) ?_
  intro p e s m below meth c ls A hx hb hr hlk hml hts hown hK hN hP hD hS hAe hl
  have hown : s.vm.findClass RX2 = some m.cls := hown
  have hi2 : ∀ w ∈ wsX20, w ∈ wsX2_selects := fun w h => List.mem_cons_of_mem _ (List.mem_append_right _ h)
  have hl : lv_has ls 4 [(0, .ref (md 0)), (1, .int (nI r9))] := hl
  refine lv_aload_n hx hb dX2_selects_0 rfl (lv_at hl 0 rfl) ?_
  refine lv_iload_n hx hb dX2_selects_1 rfl (lv_at hl 1 rfl) ?_
  refine kV (As := [.int (nI r9)]) (rest := []) (Wc := (mW cI cZ md S)) (Wc1 := (mW cI cZ md S)) (Wd1 := (mW cI cZ md S)) (o := some (.int ((b_at S r9 (g_N S)).1))) ⟨hx, hb, hml, hown, hts⟩ (c_X2_bestPeer l D cI cZ cP md S r9 (by omega) hn) (cwV 1 hts gX2_selects_X2_bestPeer rfl rfl rfl (by decide +kernel) ⟨Nat.le_of_ble_eq_true rfl, Nat.le_of_ble_eq_true rfl⟩) hK hN hP hD hS (fun j => j) (fun _ _ h => h) (fun _ _ _ _ h => h) (mAdr _ _ _ _ _) (fun k q h => Or.inl ⟨k, h⟩) 0 2 rfl rfl (mO _ _ _ _) rfl hl.1 rfl (Nat.le_of_ble_eq_true rfl) ⟨Nat.zero_le _, Nat.zero_le _⟩ dX2_selects_2 (fun H locs hP hD hS => ?_)
  refine lv_istore_n (lv' := [(2, .int ((b_at S r9 (g_N S)).1)), (0, .ref (md 0)), (1, .int (nI r9))]) hx hb dX2_selects_5 rfl hl (by decide) rfl (fun ls hl => ?_)
  refine lv_aload_n hx hb dX2_selects_6 rfl (lv_at hl 1 rfl) ?_
  refine va_get (D := D) (ci := 2) (v := .ref (md 9)) (C := RX2) (T := TX2) (N := 16) hx hb hts hi2 hown hK hP 0 (mO _ _ _ _) rfl 12 (by decide) (hts (.fieldLink RX2 45 "GracefulRestartModel" "hopOf" "[I") (List.mem_of_getElem? (i := 1) rfl)) (fun _ h9 => h9) (mV_12 _ _) dX2_selects_7 ?_
  refine lv_iload_n hx hb dX2_selects_10 rfl (lv_at hl 2 rfl) ?_
  refine lv_iload_n hx hb dX2_selects_11 rfl (lv_at hl 0 rfl) ?_
  refine k_iast (k := r9) hx hb hK hP hD hS 9 0 (mG_Ho _ _ _ _) rfl rfl (by omega) (by decide) (W1 := (mW cI cZ md (s_Ho S (upd (g_Ho S) r9 ((b_at S r9 (g_N S)).1))))) (mS_Ho _ _ _ _ _) dX2_selects_12 (fun H locs hP hD hS => ?_)
  refine lv_aload_n hx hb dX2_selects_13 rfl (lv_at hl 1 rfl) ?_
  refine va_get (D := D) (ci := 2) (v := .ref (md 10)) (C := RX2) (T := TX2) (N := 16) hx hb hts hi2 hown hK hP 0 (mO _ _ _ _) rfl 13 (by decide) (hts (.fieldLink RX2 48 "GracefulRestartModel" "isStaleHop" "[Z") (List.mem_of_getElem? (i := 2) rfl)) (fun _ h9 => h9) (mV_13 _ _) dX2_selects_14 ?_
  refine lv_iload_n hx hb dX2_selects_17 rfl (lv_at hl 2 rfl) ?_
  refine lv_iconst (v := 0) hx hb dX2_selects_18 (by decide) ?_
  refine k_zast (k := r9) hx hb hK hP hD hS 10 1 (mG_Hz _ _ _ _) rfl rfl (by omega) (by decide) (by decide) (W1 := (mW cI cZ md (o_Ent S r9 (b_at S r9 (g_N S)).1))) (by rw [show g_Hz (s_Ho S (upd (g_Ho S) r9 ((b_at S r9 (g_N S)).1))) = g_Hz S from (gs_Hz_Ho _ _)]; exact (mS_HzHs _ _ _ _ (upd (g_Hs S) r9 0) _).trans rfl) dX2_selects_19 (fun H locs hP hD hS => ?_)
  refine lv_iconst (v := 0) hx hb dX2_selects_20 (by decide) ?_
  refine lv_istore_n (lv' := [(3, .int 0), (2, .int ((b_at S r9 (g_N S)).1)), (0, .ref (md 0)), (1, .int (nI r9))]) hx hb dX2_selects_21 rfl hl (by decide) rfl (fun ls hl => ?_)
  have lp22 : ∀ (n9 i : Nat), i + n9 = g_N S → ∀ (H : Heap) (locs : List Loc) (ls : Array Slot), va_P D vwCl (mW cI cZ md (a_i (o_Ent S r9 (b_at S r9 (g_N S)).1) r9 (b_at S r9 (g_N S)).1 ((b_at S r9 (g_N S)).2 + 1) i)) H → va_D A (mW cI cZ md (a_i (o_Ent S r9 (b_at S r9 (g_N S)).1) r9 (b_at S r9 (g_N S)).1 ((b_at S r9 (g_N S)).2 + 1) i)) → va_S A s.heap H locs → lv_has ls 4 [(0, .ref (md 0)), (1, .int (nI r9)), (2, .int ((b_at S r9 (g_N S)).1)), (3, .int (nI i))] → W p l e (headSpec wsX2_selects ({ frames := 1, cells := 0, slots := 0, locals := 24 })).room s m ([.ref (md 0), .int (nI r9)] : List Value).toArray below meth c H locs 0 0 (MQ below (kPost D (mW cI cZ md S) (mW cI cZ md (o_Sel S r9)) (none)) ([.ref (md 0), .int (nI r9)] : List Value).toArray s 0 0 (kA (mW cI cZ md S))) (F0 m 22 ls []) := by
    intro n9
    induction n9 with
    | zero =>
      intro i hi9 H locs ls hP hD hS hl
      have hi8 : i = g_N S := by omega
      subst hi8
      refine lv_iload_n hx hb dX2_selects_22 rfl (lv_at hl 3 rfl) ?_
      refine lv_aload_n hx hb dX2_selects_23 rfl (lv_at hl 0 rfl) ?_
      refine va_get (D := D) (ci := 2) (v := .int (nI (g_N (a_i (o_Ent S r9 (b_at S r9 (g_N S)).1) r9 (b_at S r9 (g_N S)).1 ((b_at S r9 (g_N S)).2 + 1) (g_N S))))) (C := RX2) (T := TX2) (N := 16) hx hb hts hi2 hown hK hP 0 (mO _ _ _ _) rfl 3 (by decide) (hts (.fieldLink RX2 55 "GracefulRestartModel" "peers" "I") (List.mem_of_getElem? (i := 3) rfl)) (fun _ h9 => h9) (mV_N _ _) dX2_selects_24 ?_
      refine k_top (y := nI (g_N S)) (congrArg nI (a_i_N _ _ _ _ _)) ?_
      refine lv_icmp_ge (tgt := 52) hx hb dX2_selects_27 (by decide) (fun _ => ?_) (fun c_ => absurd (Int32.le_refl _) c_)
      exact k_vret hx hb hr hlk hP hS hAe (congrArg (mW cI cZ md) (Sel_e S r9)) dX2_selects_52
    | succ n9 ih =>
      intro i hi9 H locs ls hP hD hS hl
      have hlt : i < g_N S := by omega
      refine lv_iload_n hx hb dX2_selects_22 rfl (lv_at hl 3 rfl) ?_
      refine lv_aload_n hx hb dX2_selects_23 rfl (lv_at hl 0 rfl) ?_
      refine va_get (D := D) (ci := 2) (v := .int (nI (g_N (a_i (o_Ent S r9 (b_at S r9 (g_N S)).1) r9 (b_at S r9 (g_N S)).1 ((b_at S r9 (g_N S)).2 + 1) i)))) (C := RX2) (T := TX2) (N := 16) hx hb hts hi2 hown hK hP 0 (mO _ _ _ _) rfl 3 (by decide) (hts (.fieldLink RX2 55 "GracefulRestartModel" "peers" "I") (List.mem_of_getElem? (i := 3) rfl)) (fun _ h9 => h9) (mV_N _ _) dX2_selects_24 ?_
      refine k_top (y := nI (g_N S)) (congrArg nI (a_i_N _ _ _ _ _)) ?_
      refine lv_icmp_ge (tgt := 52) hx hb dX2_selects_27 (by decide) (fun c_ => absurd c_ (nI_ge (a := i) (b := g_N S) hlt (by omega))) (fun _ => ?_)
      refine lv_aload_n hx hb dX2_selects_30 rfl (lv_at hl 0 rfl) ?_
      refine va_get (D := D) (ci := 2) (v := .ref (md 2)) (C := RX2) (T := TX2) (N := 16) hx hb hts hi2 hown hK hP 0 (mO _ _ _ _) rfl 5 (by decide) (hts (.fieldLink RX2 23 "GracefulRestartModel" "stateOf" "[I") (List.mem_of_getElem? (i := 4) rfl)) (fun _ h9 => h9) (mV_5 _ _) dX2_selects_31 ?_
      refine lv_iload_n hx hb dX2_selects_34 rfl (lv_at hl 3 rfl) ?_
      refine k_iald (k := i) hx hb hK hP 2 0 (mG_St _ _ _ _) rfl rfl (by omega) (by decide) dX2_selects_35 ?_
      refine k_top (y := (g_St S) i) (congrFun (a_i_St _ _ _ _ _) i) ?_
      refine lv_if_ne (tgt := 46) hx hb dX2_selects_36 (by decide) (fun c_36 => ?_) (fun c_36 => ?_)
      · refine lv_iinc (v := nI (i + 1)) (lv' := [(3, .int (nI (i + 1))), (0, .ref (md 0)), (1, .int (nI r9)), (2, .int ((b_at S r9 (g_N S)).1))]) hx hb dX2_selects_46 hl (k := 3) rfl (nI_1 i) (by decide) rfl (fun ls hl => ?_)
        refine lv_goto (tgt := 22) hx hb dX2_selects_49 (by decide) ?_
        rw [a_skip (S := o_Ent S r9 (b_at S r9 (g_N S)).1) c_36] at hP hD
        exact ih (i + 1) (by omega) _ _ ls hP hD hS (lv_sub hl [1, 2, 3, 0] rfl)
      · refine lv_aload_n hx hb dX2_selects_39 rfl (lv_at hl 0 rfl) ?_
        refine lv_iload_n hx hb dX2_selects_40 rfl (lv_at hl 3 rfl) ?_
        refine lv_iload_n hx hb dX2_selects_41 rfl (lv_at hl 1 rfl) ?_
        refine lv_iload_n hx hb dX2_selects_42 rfl (lv_at hl 2 rfl) ?_
        refine kV (As := [.int (nI i), .int (nI r9), .int ((b_at S r9 (g_N S)).1)]) (rest := []) (Wc := (mW cI cZ md (a_i (o_Ent S r9 (b_at S r9 (g_N S)).1) r9 (b_at S r9 (g_N S)).1 ((b_at S r9 (g_N S)).2 + 1) i))) (Wc1 := (mW cI cZ md (a_1 (a_i (o_Ent S r9 (b_at S r9 (g_N S)).1) r9 (b_at S r9 (g_N S)).1 ((b_at S r9 (g_N S)).2 + 1) i) r9 (b_at S r9 (g_N S)).1 ((b_at S r9 (g_N S)).2 + 1) i))) (Wd1 := (mW cI cZ md (a_1 (a_i (o_Ent S r9 (b_at S r9 (g_N S)).1) r9 (b_at S r9 (g_N S)).1 ((b_at S r9 (g_N S)).2 + 1) i) r9 (b_at S r9 (g_N S)).1 ((b_at S r9 (g_N S)).2 + 1) i))) (o := none) ⟨hx, hb, hml, hown, hts⟩ (c_X2_updates l D cI cZ cP md (a_i (o_Ent S r9 (b_at S r9 (g_N S)).1) r9 (b_at S r9 (g_N S)).1 ((b_at S r9 (g_N S)).2 + 1) i) i r9 (b_at S r9 (g_N S)).1 ((b_at S r9 (g_N S)).2 + 1) (by omega) hr9 ((congrFun (a_i_St _ _ _ _ _) i).trans c_36) (sel_hh S r9 (g_N S) i hn)) (cwV 3 hts gX2_selects_X2_updates rfl rfl rfl (by decide +kernel) ⟨Nat.le_of_ble_eq_true rfl, Nat.le_of_ble_eq_true rfl⟩) hK hN hP hD hS (fun j => j) (fun _ _ h => h) (fun _ _ _ _ h => h) (mAdr _ _ _ _ _) (fun k q h => Or.inl ⟨k, h⟩) 0 2 rfl rfl (mO _ _ _ _) rfl hl.1 rfl (Nat.le_of_ble_eq_true rfl) ⟨Nat.zero_le _, Nat.zero_le _⟩ dX2_selects_43 (fun H locs hP hD hS => ?_)
        refine lv_iinc (v := nI (i + 1)) (lv' := [(3, .int (nI (i + 1))), (0, .ref (md 0)), (1, .int (nI r9)), (2, .int ((b_at S r9 (g_N S)).1))]) hx hb dX2_selects_46 hl (k := 3) rfl (nI_1 i) (by decide) rfl (fun ls hl => ?_)
        refine lv_goto (tgt := 22) hx hb dX2_selects_49 (by decide) ?_
        rw [ai_s] at hP hD
        exact ih (i + 1) (by omega) _ _ ls hP hD hS (lv_sub hl [1, 2, 3, 0] rfl)
  exact lp22 (g_N S) 0 (by omega) _ _ ls (by rw [ai_0]; exact hP) (by rw [ai_0]; exact hD) hS (lv_sub hl [2, 3, 1, 0] rfl)

set_option maxRecDepth 100000 in
set_option maxHeartbeats 4000000 in
theorem c_X2_selectsAll (l : Launch) (D : va_G) (cI cZ cP : ClassId) (md : Nat → Nat) (S : ST)  (hn : g_N S ≤ 5) : MM l yX2_selectsAll wsX2_selectsAll ({ frames := 2, cells := 0, slots := 0, locals := 47 }) D (kTy cI cZ cP) [.ref (md 0)] (mW cI cZ md S) (none) (mW cI cZ md (o_SA S 16)) := by
  refine MM.ofW (cc := cX2_selectsAll) (maxL := 2) (ret := none) (by decide) rfl (Nat.le_of_ble_eq_true rfl) ?_
  intro p e s m below meth c ls A hx hb hr hlk hml hts hown hK hN hP hD hS hAe hl
  have hown : s.vm.findClass RX2 = some m.cls := hown
  have hi2 : ∀ w ∈ wsX20, w ∈ wsX2_selectsAll := fun w h => List.mem_cons_of_mem _ (List.mem_append_right _ h)
  have hl : lv_has ls 2 [(0, .ref (md 0))] := hl
  refine lv_iconst (v := 0) hx hb dX2_selectsAll_0 (by decide) ?_
  refine lv_istore_n (lv' := [(1, .int 0), (0, .ref (md 0))]) hx hb dX2_selectsAll_1 rfl hl (by decide) rfl (fun ls hl => ?_)
  have lp2 : ∀ (n9 i : Nat), i + n9 = 16 → ∀ (H : Heap) (locs : List Loc) (ls : Array Slot), va_P D vwCl (mW cI cZ md (o_SA S i)) H → va_D A (mW cI cZ md (o_SA S i)) → va_S A s.heap H locs → lv_has ls 2 [(0, .ref (md 0)), (1, .int (nI i))] → W p l e (headSpec wsX2_selectsAll ({ frames := 2, cells := 0, slots := 0, locals := 47 })).room s m ([.ref (md 0)] : List Value).toArray below meth c H locs 0 0 (MQ below (kPost D (mW cI cZ md S) (mW cI cZ md (o_SA S 16)) (none)) ([.ref (md 0)] : List Value).toArray s 0 0 (kA (mW cI cZ md S))) (F0 m 2 ls []) := by
    intro n9
    induction n9 with
    | zero =>
      intro i hi9 H locs ls hP hD hS hl
      have hi8 : i = 16 := by omega
      subst hi8
      refine lv_iload_n hx hb dX2_selectsAll_2 rfl (lv_at hl 1 rfl) ?_
      refine lv_bipush (v := 16) hx hb dX2_selectsAll_3 (by decide) ?_
      refine lv_icmp_ge (tgt := 19) hx hb dX2_selectsAll_5 (by decide) (fun _ => ?_) (fun c_ => absurd (by decide) c_)
      exact k_vret hx hb hr hlk hP hS hAe rfl dX2_selectsAll_19
    | succ n9 ih =>
      intro i hi9 H locs ls hP hD hS hl
      have hlt : i < 16 := by omega
      refine lv_iload_n hx hb dX2_selectsAll_2 rfl (lv_at hl 1 rfl) ?_
      refine lv_bipush (v := 16) hx hb dX2_selectsAll_3 (by decide) ?_
      refine lv_icmp_ge (tgt := 19) hx hb dX2_selectsAll_5 (by decide) (fun c_ => absurd c_ (nI_ge (a := i) (b := 16) hlt (by decide))) (fun _ => ?_)
      refine lv_aload_n hx hb dX2_selectsAll_8 rfl (lv_at hl 0 rfl) ?_
      refine lv_iload_n hx hb dX2_selectsAll_9 rfl (lv_at hl 1 rfl) ?_
      refine kV (As := [.int (nI i)]) (rest := []) (Wc := (mW cI cZ md (o_SA S i))) (Wc1 := (mW cI cZ md (o_Sel (o_SA S i) i))) (Wd1 := (mW cI cZ md (o_Sel (o_SA S i) i))) (o := none) ⟨hx, hb, hml, hown, hts⟩ (c_X2_selects l D cI cZ cP md (o_SA S i) i (by omega) (by rw [o_SA_N]; exact hn)) (cwV 1 hts gX2_selectsAll_X2_selects rfl rfl rfl (by decide +kernel) ⟨Nat.le_of_ble_eq_true rfl, Nat.le_of_ble_eq_true rfl⟩) hK hN hP hD hS (fun j => j) (fun _ _ h => h) (fun _ _ _ _ h => h) (mAdr _ _ _ _ _) (fun k q h => Or.inl ⟨k, h⟩) 0 2 rfl rfl (mO _ _ _ _) rfl hl.1 rfl (Nat.le_of_ble_eq_true rfl) ⟨Nat.zero_le _, Nat.zero_le _⟩ dX2_selectsAll_10 (fun H locs hP hD hS => ?_)
      refine lv_iinc (v := nI (i + 1)) (lv' := [(1, .int (nI (i + 1))), (0, .ref (md 0))]) hx hb dX2_selectsAll_13 hl (k := 1) rfl (nI_1 i) (by decide) rfl (fun ls hl => ?_)
      refine lv_goto (tgt := 2) hx hb dX2_selectsAll_16 (by decide) ?_
      rw [SA_s] at hP hD
      exact ih (i + 1) (by omega) _ _ ls hP hD hS (lv_sub hl [1, 0] rfl)
  exact lp2 16 0 (by omega) _ _ ls (by rw [SA_0]; exact hP) (by rw [SA_0]; exact hD) hS (lv_sub hl [1, 0] rfl)

set_option maxRecDepth 100000 in
set_option maxHeartbeats 4000000 in
theorem c_X2_forgets0 (l : Launch) (D : va_G) (cI cZ cP : ClassId) (md : Nat → Nat) (S : ST) (p9 : Nat) (hp9 : p9 < 5) (hrow : rowOk (g_Le S p9) (g_Ss S p9)) : MM l yX2_forgets wsX2_forgets ({ frames := 0, cells := 0, slots := 0, locals := 0 }) D (kTy cI cZ cP) [.ref (md 0), .int (nI p9), .int 0] (mW cI cZ md S) (some (.int (kCnt (nz (g_Le S p9)) 16))) (mW cI cZ md (o_RmL S p9)) := by
  refine MM.ofW (cc := cX2_forgets) (maxL := 5) (ret := (some .int)) (by decide) rfl (Nat.le_of_ble_eq_true rfl) ?_
  intro p e s m below meth c ls A hx hb hr hlk hml hts hown hK hN hP hD hS hAe hl
  have hown : s.vm.findClass RX2 = some m.cls := hown
  have hi2 : ∀ w ∈ wsX20, w ∈ wsX2_forgets := fun w h => List.mem_cons_of_mem _ (List.mem_append_right _ h)
  have hl : lv_has ls 5 [(0, .ref (md 0)), (1, .int (nI p9)), (2, .int 0)] := hl
  refine lv_iconst (v := 0) hx hb dX2_forgets_0 (by decide) ?_
  refine lv_istore_n (lv' := [(3, .int 0), (0, .ref (md 0)), (1, .int (nI p9)), (2, .int 0)]) hx hb dX2_forgets_1 rfl hl (by decide) rfl (fun ls hl => ?_)
  refine lv_bipush (v := 16) hx hb dX2_forgets_2 (by decide) ?_
  refine lv_iload_n hx hb dX2_forgets_4 rfl (lv_at hl 2 rfl) ?_
  refine lv_imul hx hb dX2_forgets_5 ?_
  refine k_top (nx16 p9) ?_
  refine lv_istore (lv' := [(4, .int (nI (16 * p9))), (3, .int 0), (0, .ref (md 0)), (1, .int (nI p9)), (2, .int 0)]) hx hb dX2_forgets_6 hl (by decide) rfl (fun ls hl => ?_)
  have lp8 : ∀ (n9 i : Nat), i + n9 = 16 → ∀ (H : Heap) (locs : List Loc) (ls : Array Slot), va_P D vwCl (mW cI cZ md (s_Ss (s_Le S (va_up (g_Le S) p9 (kCut tt9 i (g_Le S p9)))) (va_up (g_Ss S) p9 (kCut tt9 i (g_Ss S p9))))) H → va_D A (mW cI cZ md (s_Ss (s_Le S (va_up (g_Le S) p9 (kCut tt9 i (g_Le S p9)))) (va_up (g_Ss S) p9 (kCut tt9 i (g_Ss S p9))))) → va_S A s.heap H locs → lv_has ls 5 [(0, .ref (md 0)), (1, .int (nI p9)), (2, .int 0), (3, .int (kCnt (nz (g_Le S p9)) i)), (4, .int (nI (16 * p9 + i)))] → W p l e (headSpec wsX2_forgets ({ frames := 0, cells := 0, slots := 0, locals := 0 })).room s m ([.ref (md 0), .int (nI p9), .int 0] : List Value).toArray below meth c H locs 0 0 (MQ below (kPost D (mW cI cZ md S) (mW cI cZ md (o_RmL S p9)) (some (.int (kCnt (nz (g_Le S p9)) 16)))) ([.ref (md 0), .int (nI p9), .int 0] : List Value).toArray s 0 0 (kA (mW cI cZ md S))) (F0 m 8 ls []) := by
    intro n9
    induction n9 with
    | zero =>
      intro i hi9 H locs ls hP hD hS hl
      have hi8 : i = 16 := by omega
      subst hi8
      refine lv_iload hx hb dX2_forgets_8 (lv_at hl 4 rfl) ?_
      refine lv_bipush (v := 16) hx hb dX2_forgets_10 (by decide) ?_
      refine lv_iload_n hx hb dX2_forgets_12 rfl (lv_at hl 1 rfl) ?_
      refine lv_iconst (v := 1) hx hb dX2_forgets_13 (by decide) ?_
      refine lv_iadd hx hb dX2_forgets_14 ?_
      refine k_top (nI_1 p9) ?_
      refine lv_imul hx hb dX2_forgets_15 ?_
      refine k_top (nx16 (p9 + 1)) ?_
      refine lv_icmp_ge (tgt := 68) hx hb dX2_forgets_16 (by decide) (fun _ => ?_) (fun c_ => absurd (nI_le (a := 16 * (p9 + 1)) (b := 16 * p9 + 16) (by omega) (by omega)) c_)
      refine lv_iload_n hx hb dX2_forgets_68 rfl (lv_at hl 3 rfl) ?_
      exact k_iret hx hb hr hlk hP hS hAe rfl (congrArg (mW cI cZ md) (RmL_e S p9)) dX2_forgets_69
    | succ n9 ih =>
      intro i hi9 H locs ls hP hD hS hl
      have hlt : i < 16 := by omega
      refine lv_iload hx hb dX2_forgets_8 (lv_at hl 4 rfl) ?_
      refine lv_bipush (v := 16) hx hb dX2_forgets_10 (by decide) ?_
      refine lv_iload_n hx hb dX2_forgets_12 rfl (lv_at hl 1 rfl) ?_
      refine lv_iconst (v := 1) hx hb dX2_forgets_13 (by decide) ?_
      refine lv_iadd hx hb dX2_forgets_14 ?_
      refine k_top (nI_1 p9) ?_
      refine lv_imul hx hb dX2_forgets_15 ?_
      refine k_top (nx16 (p9 + 1)) ?_
      refine lv_icmp_ge (tgt := 68) hx hb dX2_forgets_16 (by decide) (fun c_ => absurd c_ (nI_ge (a := 16 * p9 + i) (b := 16 * (p9 + 1)) (by omega) (by omega))) (fun _ => ?_)
      refine lv_aload_n hx hb dX2_forgets_19 rfl (lv_at hl 0 rfl) ?_
      refine va_get (D := D) (ci := 2) (v := .ref (md 7)) (C := RX2) (T := TX2) (N := 16) hx hb hts hi2 hown hK hP 0 (mO _ _ _ _) rfl 10 (by decide) (hts (.fieldLink RX2 39 "GracefulRestartModel" "learned" "[I") (List.mem_of_getElem? (i := 1) rfl)) (fun _ h9 => h9) (mV_10 _ _) dX2_forgets_20 ?_
      refine lv_iload hx hb dX2_forgets_23 (lv_at hl 4 rfl) ?_
      refine k_iald (k := 16 * p9 + i) hx hb hK hP 7 0 (mG_Le _ _ _ _) rfl rfl (by omega) (by decide) dX2_forgets_25 ?_
      refine k_top (y := (va_up (g_Le S) p9 (kCut tt9 i (g_Le S p9))) p9 i) ((fl_at 16 _ (p := p9) (r := i) (by omega)).trans (congrFun (congrFun ((gs_Le_Ss _ _).trans (gs_Le_Le _ _)) p9) i)) ?_
      refine k_top (y := g_Le S p9 i) (by rw [va_up_self, kCut_at]) ?_
      refine lv_if_le (tgt := 62) hx hb dX2_forgets_26 (by decide) (fun c_26 => ?_) (fun c_26 => ?_)
      · refine lv_iinc (v := nI (16 * p9 + i + 1)) (lv' := [(4, .int (nI (16 * p9 + i + 1))), (0, .ref (md 0)), (1, .int (nI p9)), (2, .int 0), (3, .int (kCnt (nz (g_Le S p9)) i))]) hx hb dX2_forgets_62 hl (k := 4) rfl (nI_1 (16 * p9 + i)) (by decide) rfl (fun ls hl => ?_)
        refine lv_goto (tgt := 8) hx hb dX2_forgets_65 (by decide) ?_
        have hz9 := hrow.zero (Int32.not_lt.mpr c_26)
        rw [kCut_z (P := tt9) (i := i) (g_Le S p9) hz9.1, kCut_z (P := tt9) (i := i) (g_Ss S p9) hz9.2] at hP hD
        rw [kCnt_f (nz_f hz9.1)] at hl
        exact ih (i + 1) (by omega) _ _ ls hP hD hS (lv_sub hl [1, 2, 3, 4, 0] rfl)
      · refine lv_iload_n hx hb dX2_forgets_29 rfl (lv_at hl 2 rfl) ?_
        refine lv_if_eq (tgt := 43) hx hb dX2_forgets_30 (by decide) (fun _ => ?_) (fun c_ => absurd (by decide) c_)
        refine lv_aload_n hx hb dX2_forgets_43 rfl (lv_at hl 0 rfl) ?_
        refine va_get (D := D) (ci := 2) (v := .ref (md 7)) (C := RX2) (T := TX2) (N := 16) hx hb hts hi2 hown hK hP 0 (mO _ _ _ _) rfl 10 (by decide) (hts (.fieldLink RX2 39 "GracefulRestartModel" "learned" "[I") (List.mem_of_getElem? (i := 1) rfl)) (fun _ h9 => h9) (mV_10 _ _) dX2_forgets_44 ?_
        refine lv_iload hx hb dX2_forgets_47 (lv_at hl 4 rfl) ?_
        refine lv_iconst (v := 0) hx hb dX2_forgets_49 (by decide) ?_
        refine k_iast (k := 16 * p9 + i) hx hb hK hP hD hS 7 0 (mG_Le _ _ _ _) rfl rfl (by omega) (by decide) (W1 := (mW cI cZ md (s_Ss (s_Le S (va_up (g_Le S) p9 (kCut tt9 (i + 1) (g_Le S p9)))) (va_up (g_Ss S) p9 (kCut tt9 i (g_Ss S p9)))))) (by rw [show g_Le (s_Ss (s_Le S (va_up (g_Le S) p9 (kCut tt9 i (g_Le S p9)))) (va_up (g_Ss S) p9 (kCut tt9 i (g_Ss S p9)))) = va_up (g_Le S) p9 (kCut tt9 i (g_Le S p9)) from ((gs_Le_Ss _ _).trans (gs_Le_Le _ _)), fl_row 16 _ (p := p9) (i := i) (by omega) (kCut_t (P := tt9) _ rfl), mS_Le, ss_Le_Ss, ss_Le_Le]) dX2_forgets_50 (fun H locs hP hD hS => ?_)
        refine lv_aload_n hx hb dX2_forgets_51 rfl (lv_at hl 0 rfl) ?_
        refine va_get (D := D) (ci := 2) (v := .ref (md 8)) (C := RX2) (T := TX2) (N := 16) hx hb hts hi2 hown hK hP 0 (mO _ _ _ _) rfl 11 (by decide) (hts (.fieldLink RX2 42 "GracefulRestartModel" "isStaleAt" "[Z") (List.mem_of_getElem? (i := 2) rfl)) (fun _ h9 => h9) (mV_11 _ _) dX2_forgets_52 ?_
        refine lv_iload hx hb dX2_forgets_55 (lv_at hl 4 rfl) ?_
        refine lv_iconst (v := 0) hx hb dX2_forgets_57 (by decide) ?_
        refine k_zast (k := 16 * p9 + i) hx hb hK hP hD hS 8 1 (mG_Ss _ _ _ _) rfl rfl (by omega) (by decide) (by decide) (W1 := (mW cI cZ md (s_Ss (s_Le S (va_up (g_Le S) p9 (kCut tt9 (i + 1) (g_Le S p9)))) (va_up (g_Ss S) p9 (kCut tt9 (i + 1) (g_Ss S p9)))))) (by rw [show g_Ss (s_Ss (s_Le S (va_up (g_Le S) p9 (kCut tt9 (i + 1) (g_Le S p9)))) (va_up (g_Ss S) p9 (kCut tt9 i (g_Ss S p9)))) = va_up (g_Ss S) p9 (kCut tt9 i (g_Ss S p9)) from (gs_Ss_Ss _ _), fl_row 16 _ (p := p9) (i := i) (by omega) (kCut_t (P := tt9) _ rfl), mS_Ss, ss_Ss_Ss]) dX2_forgets_58 (fun H locs hP hD hS => ?_)
        refine lv_iinc (v := kCnt (nz (g_Le S p9)) (i + 1)) (lv' := [(3, .int (kCnt (nz (g_Le S p9)) (i + 1))), (0, .ref (md 0)), (1, .int (nI p9)), (2, .int 0), (4, .int (nI (16 * p9 + i)))]) hx hb dX2_forgets_59 hl (k := 3) rfl (kCnt_t (nz_t (i32_pos (Int32.not_le.mp c_26)))) (by decide) rfl (fun ls hl => ?_)
        refine lv_iinc (v := nI (16 * p9 + i + 1)) (lv' := [(4, .int (nI (16 * p9 + i + 1))), (3, .int (kCnt (nz (g_Le S p9)) (i + 1))), (0, .ref (md 0)), (1, .int (nI p9)), (2, .int 0)]) hx hb dX2_forgets_62 hl (k := 4) rfl (nI_1 (16 * p9 + i)) (by decide) rfl (fun ls hl => ?_)
        refine lv_goto (tgt := 8) hx hb dX2_forgets_65 (by decide) ?_
        exact ih (i + 1) (by omega) _ _ ls hP hD hS (lv_sub hl [2, 3, 4, 1, 0] rfl)
  exact lp8 16 0 (by omega) _ _ ls (by rw [kCut_0, kCut_0, va_up_id, va_up_id, sg_Le, sg_Ss]; exact hP) (by rw [kCut_0, kCut_0, va_up_id, va_up_id, sg_Le, sg_Ss]; exact hD) hS (lv_sub hl [2, 3, 4, 1, 0] rfl)

set_option maxRecDepth 100000 in
set_option maxHeartbeats 4000000 in
theorem c_X2_forgets1 (l : Launch) (D : va_G) (cI cZ cP : ClassId) (md : Nat → Nat) (S : ST) (p9 : Nat) (hp9 : p9 < 5) (hrow : rowOk (g_Le S p9) (g_Ss S p9)) : MM l yX2_forgets wsX2_forgets ({ frames := 0, cells := 0, slots := 0, locals := 0 }) D (kTy cI cZ cP) [.ref (md 0), .int (nI p9), .int 1] (mW cI cZ md S) (some (.int (kCnt (nz (g_Ss S p9)) 16))) (mW cI cZ md (o_RmS S p9)) := by
  refine MM.ofW (cc := cX2_forgets) (maxL := 5) (ret := (some .int)) (by decide) rfl (Nat.le_of_ble_eq_true rfl) ?_
  intro p e s m below meth c ls A hx hb hr hlk hml hts hown hK hN hP hD hS hAe hl
  have hown : s.vm.findClass RX2 = some m.cls := hown
  have hi2 : ∀ w ∈ wsX20, w ∈ wsX2_forgets := fun w h => List.mem_cons_of_mem _ (List.mem_append_right _ h)
  have hl : lv_has ls 5 [(0, .ref (md 0)), (1, .int (nI p9)), (2, .int 1)] := hl
  refine lv_iconst (v := 0) hx hb dX2_forgets_0 (by decide) ?_
  refine lv_istore_n (lv' := [(3, .int 0), (0, .ref (md 0)), (1, .int (nI p9)), (2, .int 1)]) hx hb dX2_forgets_1 rfl hl (by decide) rfl (fun ls hl => ?_)
  refine lv_bipush (v := 16) hx hb dX2_forgets_2 (by decide) ?_
  refine lv_iload_n hx hb dX2_forgets_4 rfl (lv_at hl 2 rfl) ?_
  refine lv_imul hx hb dX2_forgets_5 ?_
  refine k_top (nx16 p9) ?_
  refine lv_istore (lv' := [(4, .int (nI (16 * p9))), (3, .int 0), (0, .ref (md 0)), (1, .int (nI p9)), (2, .int 1)]) hx hb dX2_forgets_6 hl (by decide) rfl (fun ls hl => ?_)
  have lp8 : ∀ (n9 i : Nat), i + n9 = 16 → ∀ (H : Heap) (locs : List Loc) (ls : Array Slot), va_P D vwCl (mW cI cZ md (s_Ss (s_Le S (va_up (g_Le S) p9 (kCut (nz (g_Ss S p9)) i (g_Le S p9)))) (va_up (g_Ss S) p9 (kCut (nz (g_Ss S p9)) i (g_Ss S p9))))) H → va_D A (mW cI cZ md (s_Ss (s_Le S (va_up (g_Le S) p9 (kCut (nz (g_Ss S p9)) i (g_Le S p9)))) (va_up (g_Ss S) p9 (kCut (nz (g_Ss S p9)) i (g_Ss S p9))))) → va_S A s.heap H locs → lv_has ls 5 [(0, .ref (md 0)), (1, .int (nI p9)), (2, .int 1), (3, .int (kCnt (nz (g_Ss S p9)) i)), (4, .int (nI (16 * p9 + i)))] → W p l e (headSpec wsX2_forgets ({ frames := 0, cells := 0, slots := 0, locals := 0 })).room s m ([.ref (md 0), .int (nI p9), .int 1] : List Value).toArray below meth c H locs 0 0 (MQ below (kPost D (mW cI cZ md S) (mW cI cZ md (o_RmS S p9)) (some (.int (kCnt (nz (g_Ss S p9)) 16)))) ([.ref (md 0), .int (nI p9), .int 1] : List Value).toArray s 0 0 (kA (mW cI cZ md S))) (F0 m 8 ls []) := by
    intro n9
    induction n9 with
    | zero =>
      intro i hi9 H locs ls hP hD hS hl
      have hi8 : i = 16 := by omega
      subst hi8
      refine lv_iload hx hb dX2_forgets_8 (lv_at hl 4 rfl) ?_
      refine lv_bipush (v := 16) hx hb dX2_forgets_10 (by decide) ?_
      refine lv_iload_n hx hb dX2_forgets_12 rfl (lv_at hl 1 rfl) ?_
      refine lv_iconst (v := 1) hx hb dX2_forgets_13 (by decide) ?_
      refine lv_iadd hx hb dX2_forgets_14 ?_
      refine k_top (nI_1 p9) ?_
      refine lv_imul hx hb dX2_forgets_15 ?_
      refine k_top (nx16 (p9 + 1)) ?_
      refine lv_icmp_ge (tgt := 68) hx hb dX2_forgets_16 (by decide) (fun _ => ?_) (fun c_ => absurd (nI_le (a := 16 * (p9 + 1)) (b := 16 * p9 + 16) (by omega) (by omega)) c_)
      refine lv_iload_n hx hb dX2_forgets_68 rfl (lv_at hl 3 rfl) ?_
      exact k_iret hx hb hr hlk hP hS hAe rfl (congrArg (mW cI cZ md) (RmS_e S p9)) dX2_forgets_69
    | succ n9 ih =>
      intro i hi9 H locs ls hP hD hS hl
      have hlt : i < 16 := by omega
      refine lv_iload hx hb dX2_forgets_8 (lv_at hl 4 rfl) ?_
      refine lv_bipush (v := 16) hx hb dX2_forgets_10 (by decide) ?_
      refine lv_iload_n hx hb dX2_forgets_12 rfl (lv_at hl 1 rfl) ?_
      refine lv_iconst (v := 1) hx hb dX2_forgets_13 (by decide) ?_
      refine lv_iadd hx hb dX2_forgets_14 ?_
      refine k_top (nI_1 p9) ?_
      refine lv_imul hx hb dX2_forgets_15 ?_
      refine k_top (nx16 (p9 + 1)) ?_
      refine lv_icmp_ge (tgt := 68) hx hb dX2_forgets_16 (by decide) (fun c_ => absurd c_ (nI_ge (a := 16 * p9 + i) (b := 16 * (p9 + 1)) (by omega) (by omega))) (fun _ => ?_)
      refine lv_aload_n hx hb dX2_forgets_19 rfl (lv_at hl 0 rfl) ?_
      refine va_get (D := D) (ci := 2) (v := .ref (md 7)) (C := RX2) (T := TX2) (N := 16) hx hb hts hi2 hown hK hP 0 (mO _ _ _ _) rfl 10 (by decide) (hts (.fieldLink RX2 39 "GracefulRestartModel" "learned" "[I") (List.mem_of_getElem? (i := 1) rfl)) (fun _ h9 => h9) (mV_10 _ _) dX2_forgets_20 ?_
      refine lv_iload hx hb dX2_forgets_23 (lv_at hl 4 rfl) ?_
      refine k_iald (k := 16 * p9 + i) hx hb hK hP 7 0 (mG_Le _ _ _ _) rfl rfl (by omega) (by decide) dX2_forgets_25 ?_
      refine k_top (y := (va_up (g_Le S) p9 (kCut (nz (g_Ss S p9)) i (g_Le S p9))) p9 i) ((fl_at 16 _ (p := p9) (r := i) (by omega)).trans (congrFun (congrFun ((gs_Le_Ss _ _).trans (gs_Le_Le _ _)) p9) i)) ?_
      refine k_top (y := g_Le S p9 i) (by rw [va_up_self, kCut_at]) ?_
      refine lv_if_le (tgt := 62) hx hb dX2_forgets_26 (by decide) (fun c_26 => ?_) (fun c_26 => ?_)
      · refine lv_iinc (v := nI (16 * p9 + i + 1)) (lv' := [(4, .int (nI (16 * p9 + i + 1))), (0, .ref (md 0)), (1, .int (nI p9)), (2, .int 1), (3, .int (kCnt (nz (g_Ss S p9)) i))]) hx hb dX2_forgets_62 hl (k := 4) rfl (nI_1 (16 * p9 + i)) (by decide) rfl (fun ls hl => ?_)
        refine lv_goto (tgt := 8) hx hb dX2_forgets_65 (by decide) ?_
        have hz9 := hrow.zero (Int32.not_lt.mpr c_26)
        rw [kCut_f (g_Le S p9) (nz_f hz9.2), kCut_f (g_Ss S p9) (nz_f hz9.2)] at hP hD
        rw [kCnt_f (nz_f hz9.2)] at hl
        exact ih (i + 1) (by omega) _ _ ls hP hD hS (lv_sub hl [1, 2, 3, 4, 0] rfl)
      · refine lv_iload_n hx hb dX2_forgets_29 rfl (lv_at hl 2 rfl) ?_
        refine lv_if_eq (tgt := 43) hx hb dX2_forgets_30 (by decide) (fun c_ => absurd c_ (by decide)) (fun _ => ?_)
        refine lv_aload_n hx hb dX2_forgets_33 rfl (lv_at hl 0 rfl) ?_
        refine va_get (D := D) (ci := 2) (v := .ref (md 8)) (C := RX2) (T := TX2) (N := 16) hx hb hts hi2 hown hK hP 0 (mO _ _ _ _) rfl 11 (by decide) (hts (.fieldLink RX2 42 "GracefulRestartModel" "isStaleAt" "[Z") (List.mem_of_getElem? (i := 2) rfl)) (fun _ h9 => h9) (mV_11 _ _) dX2_forgets_34 ?_
        refine lv_iload hx hb dX2_forgets_37 (lv_at hl 4 rfl) ?_
        refine k_zald (k := 16 * p9 + i) hx hb hK hP 8 1 (mG_Ss _ _ _ _) rfl rfl (by omega) (by decide) dX2_forgets_39 ?_
        refine k_top (y := (va_up (g_Ss S) p9 (kCut (nz (g_Ss S p9)) i (g_Ss S p9))) p9 i) ((fl_at 16 _ (p := p9) (r := i) (by omega)).trans (congrFun (congrFun (gs_Ss_Ss _ _) p9) i)) ?_
        refine k_top (y := g_Ss S p9 i) (by rw [va_up_self, kCut_at]) ?_
        refine lv_if_eq (tgt := 62) hx hb dX2_forgets_40 (by decide) (fun c_40 => ?_) (fun c_40 => ?_)
        · refine lv_iinc (v := nI (16 * p9 + i + 1)) (lv' := [(4, .int (nI (16 * p9 + i + 1))), (0, .ref (md 0)), (1, .int (nI p9)), (2, .int 1), (3, .int (kCnt (nz (g_Ss S p9)) i))]) hx hb dX2_forgets_62 hl (k := 4) rfl (nI_1 (16 * p9 + i)) (by decide) rfl (fun ls hl => ?_)
          refine lv_goto (tgt := 8) hx hb dX2_forgets_65 (by decide) ?_
          rw [kCut_f (g_Le S p9) (nz_f c_40), kCut_f (g_Ss S p9) (nz_f c_40)] at hP hD
          rw [kCnt_f (nz_f c_40)] at hl
          exact ih (i + 1) (by omega) _ _ ls hP hD hS (lv_sub hl [1, 2, 3, 4, 0] rfl)
        · refine lv_aload_n hx hb dX2_forgets_43 rfl (lv_at hl 0 rfl) ?_
          refine va_get (D := D) (ci := 2) (v := .ref (md 7)) (C := RX2) (T := TX2) (N := 16) hx hb hts hi2 hown hK hP 0 (mO _ _ _ _) rfl 10 (by decide) (hts (.fieldLink RX2 39 "GracefulRestartModel" "learned" "[I") (List.mem_of_getElem? (i := 1) rfl)) (fun _ h9 => h9) (mV_10 _ _) dX2_forgets_44 ?_
          refine lv_iload hx hb dX2_forgets_47 (lv_at hl 4 rfl) ?_
          refine lv_iconst (v := 0) hx hb dX2_forgets_49 (by decide) ?_
          refine k_iast (k := 16 * p9 + i) hx hb hK hP hD hS 7 0 (mG_Le _ _ _ _) rfl rfl (by omega) (by decide) (W1 := (mW cI cZ md (s_Ss (s_Le S (va_up (g_Le S) p9 (kCut (nz (g_Ss S p9)) (i + 1) (g_Le S p9)))) (va_up (g_Ss S) p9 (kCut (nz (g_Ss S p9)) i (g_Ss S p9)))))) (by rw [show g_Le (s_Ss (s_Le S (va_up (g_Le S) p9 (kCut (nz (g_Ss S p9)) i (g_Le S p9)))) (va_up (g_Ss S) p9 (kCut (nz (g_Ss S p9)) i (g_Ss S p9)))) = va_up (g_Le S) p9 (kCut (nz (g_Ss S p9)) i (g_Le S p9)) from ((gs_Le_Ss _ _).trans (gs_Le_Le _ _)), fl_row 16 _ (p := p9) (i := i) (by omega) (kCut_t (P := (nz (g_Ss S p9))) _ (nz_t c_40)), mS_Le, ss_Le_Ss, ss_Le_Le]) dX2_forgets_50 (fun H locs hP hD hS => ?_)
          refine lv_aload_n hx hb dX2_forgets_51 rfl (lv_at hl 0 rfl) ?_
          refine va_get (D := D) (ci := 2) (v := .ref (md 8)) (C := RX2) (T := TX2) (N := 16) hx hb hts hi2 hown hK hP 0 (mO _ _ _ _) rfl 11 (by decide) (hts (.fieldLink RX2 42 "GracefulRestartModel" "isStaleAt" "[Z") (List.mem_of_getElem? (i := 2) rfl)) (fun _ h9 => h9) (mV_11 _ _) dX2_forgets_52 ?_
          refine lv_iload hx hb dX2_forgets_55 (lv_at hl 4 rfl) ?_
          refine lv_iconst (v := 0) hx hb dX2_forgets_57 (by decide) ?_
          refine k_zast (k := 16 * p9 + i) hx hb hK hP hD hS 8 1 (mG_Ss _ _ _ _) rfl rfl (by omega) (by decide) (by decide) (W1 := (mW cI cZ md (s_Ss (s_Le S (va_up (g_Le S) p9 (kCut (nz (g_Ss S p9)) (i + 1) (g_Le S p9)))) (va_up (g_Ss S) p9 (kCut (nz (g_Ss S p9)) (i + 1) (g_Ss S p9)))))) (by rw [show g_Ss (s_Ss (s_Le S (va_up (g_Le S) p9 (kCut (nz (g_Ss S p9)) (i + 1) (g_Le S p9)))) (va_up (g_Ss S) p9 (kCut (nz (g_Ss S p9)) i (g_Ss S p9)))) = va_up (g_Ss S) p9 (kCut (nz (g_Ss S p9)) i (g_Ss S p9)) from (gs_Ss_Ss _ _), fl_row 16 _ (p := p9) (i := i) (by omega) (kCut_t (P := (nz (g_Ss S p9))) _ (nz_t c_40)), mS_Ss, ss_Ss_Ss]) dX2_forgets_58 (fun H locs hP hD hS => ?_)
          refine lv_iinc (v := kCnt (nz (g_Ss S p9)) (i + 1)) (lv' := [(3, .int (kCnt (nz (g_Ss S p9)) (i + 1))), (0, .ref (md 0)), (1, .int (nI p9)), (2, .int 1), (4, .int (nI (16 * p9 + i)))]) hx hb dX2_forgets_59 hl (k := 3) rfl (kCnt_t (nz_t c_40)) (by decide) rfl (fun ls hl => ?_)
          refine lv_iinc (v := nI (16 * p9 + i + 1)) (lv' := [(4, .int (nI (16 * p9 + i + 1))), (3, .int (kCnt (nz (g_Ss S p9)) (i + 1))), (0, .ref (md 0)), (1, .int (nI p9)), (2, .int 1)]) hx hb dX2_forgets_62 hl (k := 4) rfl (nI_1 (16 * p9 + i)) (by decide) rfl (fun ls hl => ?_)
          refine lv_goto (tgt := 8) hx hb dX2_forgets_65 (by decide) ?_
          exact ih (i + 1) (by omega) _ _ ls hP hD hS (lv_sub hl [2, 3, 4, 1, 0] rfl)
  exact lp8 16 0 (by omega) _ _ ls (by rw [kCut_0, kCut_0, va_up_id, va_up_id, sg_Le, sg_Ss]; exact hP) (by rw [kCut_0, kCut_0, va_up_id, va_up_id, sg_Le, sg_Ss]; exact hD) hS (lv_sub hl [2, 3, 4, 1, 0] rfl)

set_option maxRecDepth 100000 in
set_option maxHeartbeats 4000000 in
theorem c_X2_waiting (l : Launch) (D : va_G) (cI cZ cP : ClassId) (md : Nat → Nat) (S : ST)  (hn : g_N S ≤ 5) : MM l yX2_waiting wsX2_waiting ({ frames := 0, cells := 0, slots := 0, locals := 0 }) D (kTy cI cZ cP) [.ref (md 0)] (mW cI cZ md S) (some (.int (o_Wt S (g_N S)))) (mW cI cZ md S) := by
  refine MM.ofW (cc := cX2_waiting) (maxL := 4) (ret := (some .int)) (by decide) rfl (Nat.le_of_ble_eq_true rfl) ?_
  intro p e s m below meth c ls A hx hb hr hlk hml hts hown hK hN hP hD hS hAe hl
  have hown : s.vm.findClass RX2 = some m.cls := hown
  have hi2 : ∀ w ∈ wsX20, w ∈ wsX2_waiting := fun w h => List.mem_cons_of_mem _ (List.mem_append_right _ h)
  have hl : lv_has ls 4 [(0, .ref (md 0))] := hl
  refine lv_iconst (v := 0) hx hb dX2_waiting_0 (by decide) ?_
  refine lv_istore_n (lv' := [(1, .int 0), (0, .ref (md 0))]) hx hb dX2_waiting_1 rfl hl (by decide) rfl (fun ls hl => ?_)
  refine lv_iconst (v := 0) hx hb dX2_waiting_2 (by decide) ?_
  refine lv_istore_n (lv' := [(2, .int 0), (1, .int 0), (0, .ref (md 0))]) hx hb dX2_waiting_3 rfl hl (by decide) rfl (fun ls hl => ?_)
  have lp4 : ∀ (n9 i : Nat), i + n9 = g_N S → ∀ (H : Heap) (locs : List Loc) (ls : Array Slot), va_P D vwCl (mW cI cZ md S) H → va_D A (mW cI cZ md S) → va_S A s.heap H locs → lv_has ls 4 [(0, .ref (md 0)), (1, .int (o_Wt S i)), (2, .int (nI i))] → W p l e (headSpec wsX2_waiting ({ frames := 0, cells := 0, slots := 0, locals := 0 })).room s m ([.ref (md 0)] : List Value).toArray below meth c H locs 0 0 (MQ below (kPost D (mW cI cZ md S) (mW cI cZ md S) (some (.int (o_Wt S (g_N S))))) ([.ref (md 0)] : List Value).toArray s 0 0 (kA (mW cI cZ md S))) (F0 m 4 ls []) := by
    intro n9
    induction n9 with
    | zero =>
      intro i hi9 H locs ls hP hD hS hl
      have hi8 : i = g_N S := by omega
      subst hi8
      refine lv_iload_n hx hb dX2_waiting_4 rfl (lv_at hl 2 rfl) ?_
      refine lv_aload_n hx hb dX2_waiting_5 rfl (lv_at hl 0 rfl) ?_
      refine va_get (D := D) (ci := 2) (v := .int (nI (g_N S))) (C := RX2) (T := TX2) (N := 16) hx hb hts hi2 hown hK hP 0 (mO _ _ _ _) rfl 3 (by decide) (hts (.fieldLink RX2 55 "GracefulRestartModel" "peers" "I") (List.mem_of_getElem? (i := 1) rfl)) (fun _ h9 => h9) (mV_N _ _) dX2_waiting_6 ?_
      refine lv_icmp_ge (tgt := 81) hx hb dX2_waiting_9 (by decide) (fun _ => ?_) (fun c_ => absurd (Int32.le_refl _) c_)
      refine lv_iload_n hx hb dX2_waiting_81 rfl (lv_at hl 1 rfl) ?_
      exact k_iret hx hb hr hlk hP hS hAe rfl rfl dX2_waiting_82
    | succ n9 ih =>
      intro i hi9 H locs ls hP hD hS hl
      have hlt : i < g_N S := by omega
      refine lv_iload_n hx hb dX2_waiting_4 rfl (lv_at hl 2 rfl) ?_
      refine lv_aload_n hx hb dX2_waiting_5 rfl (lv_at hl 0 rfl) ?_
      refine va_get (D := D) (ci := 2) (v := .int (nI (g_N S))) (C := RX2) (T := TX2) (N := 16) hx hb hts hi2 hown hK hP 0 (mO _ _ _ _) rfl 3 (by decide) (hts (.fieldLink RX2 55 "GracefulRestartModel" "peers" "I") (List.mem_of_getElem? (i := 1) rfl)) (fun _ h9 => h9) (mV_N _ _) dX2_waiting_6 ?_
      refine lv_icmp_ge (tgt := 81) hx hb dX2_waiting_9 (by decide) (fun c_ => absurd c_ (nI_ge (a := i) (b := g_N S) hlt (by omega))) (fun _ => ?_)
      refine lv_aload_n hx hb dX2_waiting_12 rfl (lv_at hl 0 rfl) ?_
      refine va_get (D := D) (ci := 2) (v := .ref (md 1)) (C := RX2) (T := TX2) (N := 16) hx hb hts hi2 hown hK hP 0 (mO _ _ _ _) rfl 4 (by decide) (hts (.fieldLink RX2 19 "GracefulRestartModel" "isGraceful" "[Z") (List.mem_of_getElem? (i := 2) rfl)) (fun _ h9 => h9) (mV_4 _ _) dX2_waiting_13 ?_
      refine lv_iload_n hx hb dX2_waiting_16 rfl (lv_at hl 2 rfl) ?_
      refine k_zald (k := i) hx hb hK hP 1 1 (mG_Gr _ _ _ _) rfl rfl (by omega) (by decide) dX2_waiting_17 ?_
      refine lv_if_eq (tgt := 59) hx hb dX2_waiting_18 (by decide) (fun c_18 => ?_) (fun c_18 => ?_)
      · refine lv_iconst (v := 0) hx hb dX2_waiting_59 (by decide) ?_
        refine lv_istore_n (lv' := [(3, .int 0), (0, .ref (md 0)), (1, .int (o_Wt S i)), (2, .int (nI i))]) hx hb dX2_waiting_60 rfl hl (by decide) rfl (fun ls hl => ?_)
        refine lv_iload_n hx hb dX2_waiting_61 rfl (lv_at hl 2 rfl) ?_
        refine lv_iload_n hx hb dX2_waiting_62 rfl (lv_at hl 0 rfl) ?_
        refine lv_if_eq (tgt := 72) hx hb dX2_waiting_63 (by decide) (fun _ => ?_) (fun c_ => absurd (by decide) c_)
        refine lv_iconst (v := 0) hx hb dX2_waiting_72 (by decide) ?_
        refine lv_ior hx hb dX2_waiting_73 ?_
        refine k_top (y := o_Wt S (i + 1)) ((or_zero _).trans (wt_f (fun z => z.1 c_18))) ?_
        refine lv_istore_n (lv' := [(1, .int (o_Wt S (i + 1))), (3, .int 0), (0, .ref (md 0)), (2, .int (nI i))]) hx hb dX2_waiting_74 rfl hl (by decide) rfl (fun ls hl => ?_)
        refine lv_iinc (v := nI (i + 1)) (lv' := [(2, .int (nI (i + 1))), (1, .int (o_Wt S (i + 1))), (3, .int 0), (0, .ref (md 0))]) hx hb dX2_waiting_75 hl (k := 3) rfl (nI_1 i) (by decide) rfl (fun ls hl => ?_)
        refine lv_goto (tgt := 4) hx hb dX2_waiting_78 (by decide) ?_
        exact ih (i + 1) (by omega) _ _ ls hP hD hS (lv_sub hl [3, 1, 0] rfl)
      · refine lv_aload_n hx hb dX2_waiting_21 rfl (lv_at hl 0 rfl) ?_
        refine va_get (D := D) (ci := 2) (v := .ref (md 2)) (C := RX2) (T := TX2) (N := 16) hx hb hts hi2 hown hK hP 0 (mO _ _ _ _) rfl 5 (by decide) (hts (.fieldLink RX2 23 "GracefulRestartModel" "stateOf" "[I") (List.mem_of_getElem? (i := 3) rfl)) (fun _ h9 => h9) (mV_5 _ _) dX2_waiting_22 ?_
        refine lv_iload_n hx hb dX2_waiting_25 rfl (lv_at hl 2 rfl) ?_
        refine k_iald (k := i) hx hb hK hP 2 0 (mG_St _ _ _ _) rfl rfl (by omega) (by decide) dX2_waiting_26 ?_
        refine lv_iconst (v := 2) hx hb dX2_waiting_27 (by decide) ?_
        refine lv_icmp_eq (tgt := 59) hx hb dX2_waiting_28 (by decide) (fun c_28 => ?_) (fun c_28 => ?_)
        · refine lv_iconst (v := 0) hx hb dX2_waiting_59 (by decide) ?_
          refine lv_istore_n (lv' := [(3, .int 0), (0, .ref (md 0)), (1, .int (o_Wt S i)), (2, .int (nI i))]) hx hb dX2_waiting_60 rfl hl (by decide) rfl (fun ls hl => ?_)
          refine lv_iload_n hx hb dX2_waiting_61 rfl (lv_at hl 2 rfl) ?_
          refine lv_iload_n hx hb dX2_waiting_62 rfl (lv_at hl 0 rfl) ?_
          refine lv_if_eq (tgt := 72) hx hb dX2_waiting_63 (by decide) (fun _ => ?_) (fun c_ => absurd (by decide) c_)
          refine lv_iconst (v := 0) hx hb dX2_waiting_72 (by decide) ?_
          refine lv_ior hx hb dX2_waiting_73 ?_
          refine k_top (y := o_Wt S (i + 1)) ((or_zero _).trans (wt_f (fun z => z.2.1 c_28))) ?_
          refine lv_istore_n (lv' := [(1, .int (o_Wt S (i + 1))), (3, .int 0), (0, .ref (md 0)), (2, .int (nI i))]) hx hb dX2_waiting_74 rfl hl (by decide) rfl (fun ls hl => ?_)
          refine lv_iinc (v := nI (i + 1)) (lv' := [(2, .int (nI (i + 1))), (1, .int (o_Wt S (i + 1))), (3, .int 0), (0, .ref (md 0))]) hx hb dX2_waiting_75 hl (k := 3) rfl (nI_1 i) (by decide) rfl (fun ls hl => ?_)
          refine lv_goto (tgt := 4) hx hb dX2_waiting_78 (by decide) ?_
          exact ih (i + 1) (by omega) _ _ ls hP hD hS (lv_sub hl [3, 1, 0] rfl)
        · refine lv_aload_n hx hb dX2_waiting_31 rfl (lv_at hl 0 rfl) ?_
          refine va_get (D := D) (ci := 2) (v := .ref (md 5)) (C := RX2) (T := TX2) (N := 16) hx hb hts hi2 hown hK hP 0 (mO _ _ _ _) rfl 8 (by decide) (hts (.fieldLink RX2 33 "GracefulRestartModel" "hasMarked" "[Z") (List.mem_of_getElem? (i := 4) rfl)) (fun _ h9 => h9) (mV_8 _ _) dX2_waiting_32 ?_
          refine lv_iconst (v := 2) hx hb dX2_waiting_35 (by decide) ?_
          refine lv_iload_n hx hb dX2_waiting_36 rfl (lv_at hl 2 rfl) ?_
          refine lv_imul hx hb dX2_waiting_37 ?_
          refine k_top (nx2 i) ?_
          refine k_zald (k := 2 * i + 0) hx hb hK hP 5 1 (mG_Hm _ _ _ _) rfl rfl (by omega) (by decide) dX2_waiting_38 ?_
          refine k_top (y := (g_Hm S) i 0) (fl_at 2 _ (p := i) (r := 0) (by omega)) ?_
          refine lv_if_eq (tgt := 55) hx hb dX2_waiting_39 (by decide) (fun c_39 => ?_) (fun c_39 => ?_)
          · refine lv_iconst (v := 1) hx hb dX2_waiting_55 (by decide) ?_
            refine lv_goto (tgt := 60) hx hb dX2_waiting_56 (by decide) ?_
            refine lv_istore_n (lv' := [(3, .int 1), (0, .ref (md 0)), (1, .int (o_Wt S i)), (2, .int (nI i))]) hx hb dX2_waiting_60 rfl hl (by decide) rfl (fun ls hl => ?_)
            refine lv_iload_n hx hb dX2_waiting_61 rfl (lv_at hl 2 rfl) ?_
            refine lv_iload_n hx hb dX2_waiting_62 rfl (lv_at hl 0 rfl) ?_
            refine lv_if_eq (tgt := 72) hx hb dX2_waiting_63 (by decide) (fun c_ => absurd c_ (by decide)) (fun _ => ?_)
            refine lv_iconst (v := 1) hx hb dX2_waiting_66 (by decide) ?_
            refine lv_iload_n hx hb dX2_waiting_67 rfl (lv_at hl 3 rfl) ?_
            refine lv_ishl hx hb dX2_waiting_68 ?_
            refine lv_goto (tgt := 73) hx hb dX2_waiting_69 (by decide) ?_
            refine lv_ior hx hb dX2_waiting_73 ?_
            refine k_top (y := o_Wt S (i + 1)) (wt_t ⟨c_18, c_28, Or.inl c_39⟩) ?_
            refine lv_istore_n (lv' := [(1, .int (o_Wt S (i + 1))), (3, .int 1), (0, .ref (md 0)), (2, .int (nI i))]) hx hb dX2_waiting_74 rfl hl (by decide) rfl (fun ls hl => ?_)
            refine lv_iinc (v := nI (i + 1)) (lv' := [(2, .int (nI (i + 1))), (1, .int (o_Wt S (i + 1))), (3, .int 1), (0, .ref (md 0))]) hx hb dX2_waiting_75 hl (k := 3) rfl (nI_1 i) (by decide) rfl (fun ls hl => ?_)
            refine lv_goto (tgt := 4) hx hb dX2_waiting_78 (by decide) ?_
            exact ih (i + 1) (by omega) _ _ ls hP hD hS (lv_sub hl [3, 1, 0] rfl)
          · refine lv_aload_n hx hb dX2_waiting_42 rfl (lv_at hl 0 rfl) ?_
            refine va_get (D := D) (ci := 2) (v := .ref (md 5)) (C := RX2) (T := TX2) (N := 16) hx hb hts hi2 hown hK hP 0 (mO _ _ _ _) rfl 8 (by decide) (hts (.fieldLink RX2 33 "GracefulRestartModel" "hasMarked" "[Z") (List.mem_of_getElem? (i := 4) rfl)) (fun _ h9 => h9) (mV_8 _ _) dX2_waiting_43 ?_
            refine lv_iconst (v := 2) hx hb dX2_waiting_46 (by decide) ?_
            refine lv_iload_n hx hb dX2_waiting_47 rfl (lv_at hl 2 rfl) ?_
            refine lv_imul hx hb dX2_waiting_48 ?_
            refine k_top (nx2 i) ?_
            refine lv_iconst (v := 1) hx hb dX2_waiting_49 (by decide) ?_
            refine lv_iadd hx hb dX2_waiting_50 ?_
            refine k_top (nI_1 (2 * i)) ?_
            refine k_zald (k := 2 * i + 1) hx hb hK hP 5 1 (mG_Hm _ _ _ _) rfl rfl (by omega) (by decide) dX2_waiting_51 ?_
            refine k_top (y := (g_Hm S) i 1) (fl_at 2 _ (p := i) (r := 1) (by omega)) ?_
            refine lv_if_ne (tgt := 59) hx hb dX2_waiting_52 (by decide) (fun c_52 => ?_) (fun c_52 => ?_)
            · refine lv_iconst (v := 0) hx hb dX2_waiting_59 (by decide) ?_
              refine lv_istore_n (lv' := [(3, .int 0), (0, .ref (md 0)), (1, .int (o_Wt S i)), (2, .int (nI i))]) hx hb dX2_waiting_60 rfl hl (by decide) rfl (fun ls hl => ?_)
              refine lv_iload_n hx hb dX2_waiting_61 rfl (lv_at hl 2 rfl) ?_
              refine lv_iload_n hx hb dX2_waiting_62 rfl (lv_at hl 0 rfl) ?_
              refine lv_if_eq (tgt := 72) hx hb dX2_waiting_63 (by decide) (fun _ => ?_) (fun c_ => absurd (by decide) c_)
              refine lv_iconst (v := 0) hx hb dX2_waiting_72 (by decide) ?_
              refine lv_ior hx hb dX2_waiting_73 ?_
              refine k_top (y := o_Wt S (i + 1)) ((or_zero _).trans (wt_f (fun z => z.2.2.elim c_39 c_52))) ?_
              refine lv_istore_n (lv' := [(1, .int (o_Wt S (i + 1))), (3, .int 0), (0, .ref (md 0)), (2, .int (nI i))]) hx hb dX2_waiting_74 rfl hl (by decide) rfl (fun ls hl => ?_)
              refine lv_iinc (v := nI (i + 1)) (lv' := [(2, .int (nI (i + 1))), (1, .int (o_Wt S (i + 1))), (3, .int 0), (0, .ref (md 0))]) hx hb dX2_waiting_75 hl (k := 3) rfl (nI_1 i) (by decide) rfl (fun ls hl => ?_)
              refine lv_goto (tgt := 4) hx hb dX2_waiting_78 (by decide) ?_
              exact ih (i + 1) (by omega) _ _ ls hP hD hS (lv_sub hl [3, 1, 0] rfl)
            · refine lv_iconst (v := 1) hx hb dX2_waiting_55 (by decide) ?_
              refine lv_goto (tgt := 60) hx hb dX2_waiting_56 (by decide) ?_
              refine lv_istore_n (lv' := [(3, .int 1), (0, .ref (md 0)), (1, .int (o_Wt S i)), (2, .int (nI i))]) hx hb dX2_waiting_60 rfl hl (by decide) rfl (fun ls hl => ?_)
              refine lv_iload_n hx hb dX2_waiting_61 rfl (lv_at hl 2 rfl) ?_
              refine lv_iload_n hx hb dX2_waiting_62 rfl (lv_at hl 0 rfl) ?_
              refine lv_if_eq (tgt := 72) hx hb dX2_waiting_63 (by decide) (fun c_ => absurd c_ (by decide)) (fun _ => ?_)
              refine lv_iconst (v := 1) hx hb dX2_waiting_66 (by decide) ?_
              refine lv_iload_n hx hb dX2_waiting_67 rfl (lv_at hl 3 rfl) ?_
              refine lv_ishl hx hb dX2_waiting_68 ?_
              refine lv_goto (tgt := 73) hx hb dX2_waiting_69 (by decide) ?_
              refine lv_ior hx hb dX2_waiting_73 ?_
              refine k_top (y := o_Wt S (i + 1)) (wt_t ⟨c_18, c_28, Or.inr c_52⟩) ?_
              refine lv_istore_n (lv' := [(1, .int (o_Wt S (i + 1))), (3, .int 1), (0, .ref (md 0)), (2, .int (nI i))]) hx hb dX2_waiting_74 rfl hl (by decide) rfl (fun ls hl => ?_)
              refine lv_iinc (v := nI (i + 1)) (lv' := [(2, .int (nI (i + 1))), (1, .int (o_Wt S (i + 1))), (3, .int 1), (0, .ref (md 0))]) hx hb dX2_waiting_75 hl (k := 3) rfl (nI_1 i) (by decide) rfl (fun ls hl => ?_)
              refine lv_goto (tgt := 4) hx hb dX2_waiting_78 (by decide) ?_
              exact ih (i + 1) (by omega) _ _ ls hP hD hS (lv_sub hl [3, 1, 0] rfl)
  exact lp4 (g_N S) 0 (by omega) _ _ ls hP hD hS (lv_sub hl [2, 1, 0] rfl)

set_option maxRecDepth 100000 in
set_option maxHeartbeats 4000000 in
theorem c_X2_waitingPeers (l : Launch) (D : va_G) (cI cZ cP : ClassId) (md : Nat → Nat) (S : ST)  (hn : g_N S ≤ 5) : MM l yX2_waitingPeers wsX2_waitingPeers ({ frames := 1, cells := 0, slots := 0, locals := 23 }) D (kTy cI cZ cP) [.ref (md 0)] (mW cI cZ md S) (some (.int (if g_Df S = 0 then 0 else o_Wt S (g_N S)))) (mW cI cZ md S) := by
  refine MM.ofW (cc := cX2_waitingPeers) (maxL := 1) (ret := (some .int)) (by decide) rfl (Nat.le_of_ble_eq_true rfl) ?_
  intro p e s m below meth c ls A hx hb hr hlk hml hts hown hK hN hP hD hS hAe hl
  have hown : s.vm.findClass RX2 = some m.cls := hown
  have hi2 : ∀ w ∈ wsX20, w ∈ wsX2_waitingPeers := fun w h => List.mem_cons_of_mem _ (List.mem_append_right _ h)
  have hl : lv_has ls 1 [(0, .ref (md 0))] := hl
  refine lv_aload_n hx hb dX2_waitingPeers_0 rfl (lv_at hl 0 rfl) ?_
  refine va_get (D := D) (ci := 2) (v := .int (g_Df S)) (C := RX2) (T := TX2) (N := 16) hx hb hts hi2 hown hK hP 0 (mO _ _ _ _) rfl 14 (by decide) (hts (.fieldLink RX2 70 "GracefulRestartModel" "isDeferringNow" "Z") (List.mem_of_getElem? (i := 1) rfl)) (fun _ h9 => h9) (mV_Df _ _) dX2_waitingPeers_1 ?_
  refine lv_if_eq (tgt := 14) hx hb dX2_waitingPeers_4 (by decide) (fun c_4 => ?_) (fun c_4 => ?_)
  · refine lv_iconst (v := 0) hx hb dX2_waitingPeers_14 (by decide) ?_
    exact k_iret hx hb hr hlk hP hS hAe (by simp [c_4]) rfl dX2_waitingPeers_15
  · refine lv_aload_n hx hb dX2_waitingPeers_7 rfl (lv_at hl 0 rfl) ?_
    refine kV (As := []) (rest := []) (Wc := (mW cI cZ md S)) (Wc1 := (mW cI cZ md S)) (Wd1 := (mW cI cZ md S)) (o := some (.int (o_Wt S (g_N S)))) ⟨hx, hb, hml, hown, hts⟩ (c_X2_waiting l D cI cZ cP md S hn) (cwV 0 hts gX2_waitingPeers_X2_waiting rfl rfl rfl (by decide +kernel) ⟨Nat.le_of_ble_eq_true rfl, Nat.le_of_ble_eq_true rfl⟩) hK hN hP hD hS (fun j => j) (fun _ _ h => h) (fun _ _ _ _ h => h) (mAdr _ _ _ _ _) (fun k q h => Or.inl ⟨k, h⟩) 0 2 rfl rfl (mO _ _ _ _) rfl hl.1 rfl (Nat.le_of_ble_eq_true rfl) ⟨Nat.zero_le _, Nat.zero_le _⟩ dX2_waitingPeers_8 (fun H locs hP hD hS => ?_)
    refine lv_goto (tgt := 15) hx hb dX2_waitingPeers_11 (by decide) ?_
    exact k_iret hx hb hr hlk hP hS hAe (by simp [c_4]) rfl dX2_waitingPeers_15

set_option maxRecDepth 100000 in
set_option maxHeartbeats 4000000 in
theorem c_X2_checksDeferral (l : Launch) (D : va_G) (cI cZ cP : ClassId) (md : Nat → Nat) (S : ST)  (hI : Inv S) : MM l yX2_checksDeferral wsX2_checksDeferral ({ frames := 3, cells := 0, slots := 0, locals := 68 }) D (kTy cI cZ cP) [.ref (md 0)] (mW cI cZ md S) (none) (mW cI cZ md (o_Chk S)) := by
  refine MM.ofW (cc := cX2_checksDeferral) (maxL := 2) (ret := none) (by decide) rfl (Nat.le_of_ble_eq_true rfl) ?_
  intro p e s m below meth c ls A hx hb hr hlk hml hts hown hK hN hP hD hS hAe hl
  have hown : s.vm.findClass RX2 = some m.cls := hown
  have hi2 : ∀ w ∈ wsX20, w ∈ wsX2_checksDeferral := fun w h => List.mem_cons_of_mem _ (List.mem_append_right _ h)
  have hl : lv_has ls 2 [(0, .ref (md 0))] := hl
  have hn : g_N S ≤ 5 := hI.1
  refine lv_aload_n hx hb dX2_checksDeferral_0 rfl (lv_at hl 0 rfl) ?_
  refine va_get (D := D) (ci := 2) (v := .int (g_Df S)) (C := RX2) (T := TX2) (N := 16) hx hb hts hi2 hown hK hP 0 (mO _ _ _ _) rfl 14 (by decide) (hts (.fieldLink RX2 70 "GracefulRestartModel" "isDeferringNow" "Z") (List.mem_of_getElem? (i := 1) rfl)) (fun _ h9 => h9) (mV_Df _ _) dX2_checksDeferral_1 ?_
  refine lv_if_eq (tgt := 21) hx hb dX2_checksDeferral_4 (by decide) (fun c_4 => ?_) (fun c_4 => ?_)
  · exact k_vret hx hb hr hlk hP hS hAe (by rw [← chk_no c_4]) dX2_checksDeferral_21
  · refine lv_aload_n hx hb dX2_checksDeferral_7 rfl (lv_at hl 0 rfl) ?_
    refine kV (As := []) (rest := []) (Wc := (mW cI cZ md S)) (Wc1 := (mW cI cZ md S)) (Wd1 := (mW cI cZ md S)) (o := some (.int (o_Wt S (g_N S)))) ⟨hx, hb, hml, hown, hts⟩ (c_X2_waiting l D cI cZ cP md S hn) (cwV 0 hts gX2_checksDeferral_X2_waiting rfl rfl rfl (by decide +kernel) ⟨Nat.le_of_ble_eq_true rfl, Nat.le_of_ble_eq_true rfl⟩) hK hN hP hD hS (fun j => j) (fun _ _ h => h) (fun _ _ _ _ h => h) (mAdr _ _ _ _ _) (fun k q h => Or.inl ⟨k, h⟩) 0 2 rfl rfl (mO _ _ _ _) rfl hl.1 rfl (Nat.le_of_ble_eq_true rfl) ⟨Nat.zero_le _, Nat.zero_le _⟩ dX2_checksDeferral_8 (fun H locs hP hD hS => ?_)
    refine lv_if_eq (tgt := 22) hx hb dX2_checksDeferral_11 (by decide) (fun c_11 => ?_) (fun c_11 => ?_)
    · refine lv_aload_n hx hb dX2_checksDeferral_22 rfl (lv_at hl 0 rfl) ?_
      refine lv_iconst (v := 0) hx hb dX2_checksDeferral_23 (by decide) ?_
      refine k_put (D := D) (ci := 2) (v := .int 0) (ty := .boolean) (C := RX2) (T := TX2) (N := 16) hx hb hts hi2 tyX2 tyX2_ok nmX2 hown hK hP hD hS 0 (mO _ _ _ _) rfl 14 (by decide) (hts (.fieldLink RX2 70 "GracefulRestartModel" "isDeferringNow" "Z") (List.mem_of_getElem? (i := 1) rfl)) (fun _ h9 => h9) rfl (by decide +kernel) rfl rfl (Nat.le_of_ble_eq_true rfl) (W1 := (mW cI cZ md (s_Df S 0))) (mP_Df _ _ _ _ _) dX2_checksDeferral_24 (fun H locs hP hD hS => ?_)
      refine lv_aload_n hx hb dX2_checksDeferral_27 rfl (lv_at hl 0 rfl) ?_
      refine lv_iconst (v := 0) hx hb dX2_checksDeferral_28 (by decide) ?_
      refine k_put (D := D) (ci := 2) (v := .int 0) (ty := .int) (C := RX2) (T := TX2) (N := 16) hx hb hts hi2 tyX2 tyX2_ok nmX2 hown hK hP hD hS 0 (mO _ _ _ _) rfl 15 (by decide) (hts (.fieldLink RX2 78 "GracefulRestartModel" "deferralTimerNow" "I") (List.mem_of_getElem? (i := 2) rfl)) (fun _ h9 => h9) rfl (by decide +kernel) rfl rfl (Nat.le_of_ble_eq_true rfl) (W1 := (mW cI cZ md (s_Dl (s_Df S 0) 0))) (mP_Dl _ _ _ _ _) dX2_checksDeferral_29 (fun H locs hP hD hS => ?_)
      refine lv_aload_n hx hb dX2_checksDeferral_32 rfl (lv_at hl 0 rfl) ?_
      refine kV (As := []) (rest := []) (Wc := (mW cI cZ md (s_Dl (s_Df S 0) 0))) (Wc1 := (mW cI cZ md (o_SA (s_Dl (s_Df S 0) 0) 16))) (Wd1 := (mW cI cZ md (o_SA (s_Dl (s_Df S 0) 0) 16))) (o := none) ⟨hx, hb, hml, hown, hts⟩ (c_X2_selectsAll l D cI cZ cP md (s_Dl (s_Df S 0) 0) hn) (cwV 0 hts gX2_checksDeferral_X2_selectsAll rfl rfl rfl (by decide +kernel) ⟨Nat.le_of_ble_eq_true rfl, Nat.le_of_ble_eq_true rfl⟩) hK hN hP hD hS (fun j => j) (fun _ _ h => h) (fun _ _ _ _ h => h) (mAdr _ _ _ _ _) (fun k q h => Or.inl ⟨k, h⟩) 0 2 rfl rfl (mO _ _ _ _) rfl hl.1 rfl (Nat.le_of_ble_eq_true rfl) ⟨Nat.zero_le _, Nat.zero_le _⟩ dX2_checksDeferral_33 (fun H locs hP hD hS => ?_)
      refine lv_iconst (v := 0) hx hb dX2_checksDeferral_36 (by decide) ?_
      refine lv_istore_n (lv' := [(1, .int 0), (0, .ref (md 0))]) hx hb dX2_checksDeferral_37 rfl hl (by decide) rfl (fun ls hl => ?_)
      have lp38 : ∀ (n9 i : Nat), i + n9 = g_N S → ∀ (H : Heap) (locs : List Loc) (ls : Array Slot), va_P D vwCl (mW cI cZ md (o_ER (o_SA (s_Dl (s_Df S 0) 0) 16) i)) H → va_D A (mW cI cZ md (o_ER (o_SA (s_Dl (s_Df S 0) 0) 16) i)) → va_S A s.heap H locs → lv_has ls 2 [(0, .ref (md 0)), (1, .int (nI i))] → W p l e (headSpec wsX2_checksDeferral ({ frames := 3, cells := 0, slots := 0, locals := 68 })).room s m ([.ref (md 0)] : List Value).toArray below meth c H locs 0 0 (MQ below (kPost D (mW cI cZ md S) (mW cI cZ md (o_Chk S)) (none)) ([.ref (md 0)] : List Value).toArray s 0 0 (kA (mW cI cZ md S))) (F0 m 38 ls []) := by
        intro n9
        induction n9 with
        | zero =>
          intro i hi9 H locs ls hP hD hS hl
          have hi8 : i = g_N S := by omega
          subst hi8
          refine lv_iload_n hx hb dX2_checksDeferral_38 rfl (lv_at hl 1 rfl) ?_
          refine lv_aload_n hx hb dX2_checksDeferral_39 rfl (lv_at hl 0 rfl) ?_
          refine va_get (D := D) (ci := 2) (v := .int (nI (g_N (o_ER (o_SA (s_Dl (s_Df S 0) 0) 16) (g_N S))))) (C := RX2) (T := TX2) (N := 16) hx hb hts hi2 hown hK hP 0 (mO _ _ _ _) rfl 3 (by decide) (hts (.fieldLink RX2 55 "GracefulRestartModel" "peers" "I") (List.mem_of_getElem? (i := 3) rfl)) (fun _ h9 => h9) (mV_N _ _) dX2_checksDeferral_40 ?_
          refine k_top (y := nI (g_N S)) (congrArg nI ((o_ER_N _ _).trans (o_SA_N _ _))) ?_
          refine lv_icmp_ge (tgt := 75) hx hb dX2_checksDeferral_43 (by decide) (fun _ => ?_) (fun c_ => absurd (Int32.le_refl _) c_)
          exact k_vret hx hb hr hlk hP hS hAe (by rw [End_e, chk_end c_4 (Or.inr c_11)]) dX2_checksDeferral_75
        | succ n9 ih =>
          intro i hi9 H locs ls hP hD hS hl
          have hlt : i < g_N S := by omega
          refine lv_iload_n hx hb dX2_checksDeferral_38 rfl (lv_at hl 1 rfl) ?_
          refine lv_aload_n hx hb dX2_checksDeferral_39 rfl (lv_at hl 0 rfl) ?_
          refine va_get (D := D) (ci := 2) (v := .int (nI (g_N (o_ER (o_SA (s_Dl (s_Df S 0) 0) 16) i)))) (C := RX2) (T := TX2) (N := 16) hx hb hts hi2 hown hK hP 0 (mO _ _ _ _) rfl 3 (by decide) (hts (.fieldLink RX2 55 "GracefulRestartModel" "peers" "I") (List.mem_of_getElem? (i := 3) rfl)) (fun _ h9 => h9) (mV_N _ _) dX2_checksDeferral_40 ?_
          refine k_top (y := nI (g_N S)) (congrArg nI ((o_ER_N _ _).trans (o_SA_N _ _))) ?_
          refine lv_icmp_ge (tgt := 75) hx hb dX2_checksDeferral_43 (by decide) (fun c_ => absurd c_ (nI_ge (a := i) (b := g_N S) hlt (by omega))) (fun _ => ?_)
          refine lv_aload_n hx hb dX2_checksDeferral_46 rfl (lv_at hl 0 rfl) ?_
          refine va_get (D := D) (ci := 2) (v := .ref (md 2)) (C := RX2) (T := TX2) (N := 16) hx hb hts hi2 hown hK hP 0 (mO _ _ _ _) rfl 5 (by decide) (hts (.fieldLink RX2 23 "GracefulRestartModel" "stateOf" "[I") (List.mem_of_getElem? (i := 4) rfl)) (fun _ h9 => h9) (mV_5 _ _) dX2_checksDeferral_47 ?_
          refine lv_iload_n hx hb dX2_checksDeferral_50 rfl (lv_at hl 1 rfl) ?_
          refine k_iald (k := i) hx hb hK hP 2 0 (mG_St _ _ _ _) rfl rfl (by omega) (by decide) dX2_checksDeferral_51 ?_
          refine k_top (y := (g_St S) i) (congrFun ((o_ER_St _ _).trans (o_SA_St _ _)) i) ?_
          refine lv_if_ne (tgt := 69) hx hb dX2_checksDeferral_52 (by decide) (fun c_52 => ?_) (fun c_52 => ?_)
          · refine lv_iinc (v := nI (i + 1)) (lv' := [(1, .int (nI (i + 1))), (0, .ref (md 0))]) hx hb dX2_checksDeferral_69 hl (k := 1) rfl (nI_1 i) (by decide) rfl (fun ls hl => ?_)
            refine lv_goto (tgt := 38) hx hb dX2_checksDeferral_72 (by decide) ?_
            rw [ER_f (S := o_SA (s_Dl (s_Df S 0) 0) 16) (by rw [o_SA_St]; exact c_52)] at hP hD
            exact ih (i + 1) (by omega) _ _ ls hP hD hS (lv_sub hl [1, 0] rfl)
          · refine lv_aload_n hx hb dX2_checksDeferral_55 rfl (lv_at hl 0 rfl) ?_
            refine lv_iload_n hx hb dX2_checksDeferral_56 rfl (lv_at hl 1 rfl) ?_
            refine lv_iconst (v := 1) hx hb dX2_checksDeferral_57 (by decide) ?_
            refine kV (As := [.int (nI i), .int 1]) (rest := []) (Wc := (mW cI cZ md (o_ER (o_SA (s_Dl (s_Df S 0) 0) 16) i))) (Wc1 := (mW cI cZ md (o_RmS (o_ER (o_SA (s_Dl (s_Df S 0) 0) 16) i) i))) (Wd1 := (mW cI cZ md (o_RmS (o_ER (o_SA (s_Dl (s_Df S 0) 0) 16) i) i))) (o := some (.int (kCnt (nz (g_Ss (o_ER (o_SA (s_Dl (s_Df S 0) 0) 16) i) i)) 16))) ⟨hx, hb, hml, hown, hts⟩ (c_X2_forgets1 l D cI cZ cP md (o_ER (o_SA (s_Dl (s_Df S 0) 0) 16) i) i (by omega) ((inv_ER (inv_E2 hI) (by rw [E2_N]; omega)).2.1 i)) (cwV 2 hts gX2_checksDeferral_X2_forgets rfl rfl rfl (by decide +kernel) ⟨Nat.le_of_ble_eq_true rfl, Nat.le_of_ble_eq_true rfl⟩) hK hN hP hD hS (fun j => j) (fun _ _ h => h) (fun _ _ _ _ h => h) (mAdr _ _ _ _ _) (fun k q h => Or.inl ⟨k, h⟩) 0 2 rfl rfl (mO _ _ _ _) rfl hl.1 rfl (Nat.le_of_ble_eq_true rfl) ⟨Nat.zero_le _, Nat.zero_le _⟩ dX2_checksDeferral_58 (fun H locs hP hD hS => ?_)
            refine lv_pop hx hb dX2_checksDeferral_61 rfl ?_
            refine lv_aload_n hx hb dX2_checksDeferral_62 rfl (lv_at hl 0 rfl) ?_
            refine va_get (D := D) (ci := 2) (v := .ref (md 4)) (C := RX2) (T := TX2) (N := 16) hx hb hts hi2 hown hK hP 0 (mO _ _ _ _) rfl 7 (by decide) (hts (.fieldLink RX2 30 "GracefulRestartModel" "staleTimerOf" "[I") (List.mem_of_getElem? (i := 5) rfl)) (fun _ h9 => h9) (mV_7 _ _) dX2_checksDeferral_63 ?_
            refine lv_iload_n hx hb dX2_checksDeferral_66 rfl (lv_at hl 1 rfl) ?_
            refine lv_iconst (v := 0) hx hb dX2_checksDeferral_67 (by decide) ?_
            refine k_iast (k := i) hx hb hK hP hD hS 4 0 (mG_Sl _ _ _ _) rfl rfl (by omega) (by decide) (W1 := (mW cI cZ md (o_ER (o_SA (s_Dl (s_Df S 0) 0) 16) (i + 1)))) (by rw [show g_Sl (o_RmS (o_ER (o_SA (s_Dl (s_Df S 0) 0) 16) i) i) = g_Sl (o_ER (o_SA (s_Dl (s_Df S 0) 0) 16) i) from (o_RmS_Sl _ _), mS_Sl, ERes_e, ER_t (S := o_SA (s_Dl (s_Df S 0) 0) 16) (by rw [o_SA_St]; exact c_52)]) dX2_checksDeferral_68 (fun H locs hP hD hS => ?_)
            refine lv_iinc (v := nI (i + 1)) (lv' := [(1, .int (nI (i + 1))), (0, .ref (md 0))]) hx hb dX2_checksDeferral_69 hl (k := 1) rfl (nI_1 i) (by decide) rfl (fun ls hl => ?_)
            refine lv_goto (tgt := 38) hx hb dX2_checksDeferral_72 (by decide) ?_
            exact ih (i + 1) (by omega) _ _ ls hP hD hS (lv_sub hl [1, 0] rfl)
      exact lp38 (g_N S) 0 (by omega) _ _ ls (by rw [ER_0]; exact hP) (by rw [ER_0]; exact hD) hS (lv_sub hl [1, 0] rfl)
    · refine lv_aload_n hx hb dX2_checksDeferral_14 rfl (lv_at hl 0 rfl) ?_
      refine va_get (D := D) (ci := 2) (v := .int (g_Dl S)) (C := RX2) (T := TX2) (N := 16) hx hb hts hi2 hown hK hP 0 (mO _ _ _ _) rfl 15 (by decide) (hts (.fieldLink RX2 78 "GracefulRestartModel" "deferralTimerNow" "I") (List.mem_of_getElem? (i := 2) rfl)) (fun _ h9 => h9) (mV_Dl _ _) dX2_checksDeferral_15 ?_
      refine lv_if_le (tgt := 22) hx hb dX2_checksDeferral_18 (by decide) (fun c_18 => ?_) (fun c_18 => ?_)
      · refine lv_aload_n hx hb dX2_checksDeferral_22 rfl (lv_at hl 0 rfl) ?_
        refine lv_iconst (v := 0) hx hb dX2_checksDeferral_23 (by decide) ?_
        refine k_put (D := D) (ci := 2) (v := .int 0) (ty := .boolean) (C := RX2) (T := TX2) (N := 16) hx hb hts hi2 tyX2 tyX2_ok nmX2 hown hK hP hD hS 0 (mO _ _ _ _) rfl 14 (by decide) (hts (.fieldLink RX2 70 "GracefulRestartModel" "isDeferringNow" "Z") (List.mem_of_getElem? (i := 1) rfl)) (fun _ h9 => h9) rfl (by decide +kernel) rfl rfl (Nat.le_of_ble_eq_true rfl) (W1 := (mW cI cZ md (s_Df S 0))) (mP_Df _ _ _ _ _) dX2_checksDeferral_24 (fun H locs hP hD hS => ?_)
        refine lv_aload_n hx hb dX2_checksDeferral_27 rfl (lv_at hl 0 rfl) ?_
        refine lv_iconst (v := 0) hx hb dX2_checksDeferral_28 (by decide) ?_
        refine k_put (D := D) (ci := 2) (v := .int 0) (ty := .int) (C := RX2) (T := TX2) (N := 16) hx hb hts hi2 tyX2 tyX2_ok nmX2 hown hK hP hD hS 0 (mO _ _ _ _) rfl 15 (by decide) (hts (.fieldLink RX2 78 "GracefulRestartModel" "deferralTimerNow" "I") (List.mem_of_getElem? (i := 2) rfl)) (fun _ h9 => h9) rfl (by decide +kernel) rfl rfl (Nat.le_of_ble_eq_true rfl) (W1 := (mW cI cZ md (s_Dl (s_Df S 0) 0))) (mP_Dl _ _ _ _ _) dX2_checksDeferral_29 (fun H locs hP hD hS => ?_)
        refine lv_aload_n hx hb dX2_checksDeferral_32 rfl (lv_at hl 0 rfl) ?_
        refine kV (As := []) (rest := []) (Wc := (mW cI cZ md (s_Dl (s_Df S 0) 0))) (Wc1 := (mW cI cZ md (o_SA (s_Dl (s_Df S 0) 0) 16))) (Wd1 := (mW cI cZ md (o_SA (s_Dl (s_Df S 0) 0) 16))) (o := none) ⟨hx, hb, hml, hown, hts⟩ (c_X2_selectsAll l D cI cZ cP md (s_Dl (s_Df S 0) 0) hn) (cwV 0 hts gX2_checksDeferral_X2_selectsAll rfl rfl rfl (by decide +kernel) ⟨Nat.le_of_ble_eq_true rfl, Nat.le_of_ble_eq_true rfl⟩) hK hN hP hD hS (fun j => j) (fun _ _ h => h) (fun _ _ _ _ h => h) (mAdr _ _ _ _ _) (fun k q h => Or.inl ⟨k, h⟩) 0 2 rfl rfl (mO _ _ _ _) rfl hl.1 rfl (Nat.le_of_ble_eq_true rfl) ⟨Nat.zero_le _, Nat.zero_le _⟩ dX2_checksDeferral_33 (fun H locs hP hD hS => ?_)
        refine lv_iconst (v := 0) hx hb dX2_checksDeferral_36 (by decide) ?_
        refine lv_istore_n (lv' := [(1, .int 0), (0, .ref (md 0))]) hx hb dX2_checksDeferral_37 rfl hl (by decide) rfl (fun ls hl => ?_)
        have lp38 : ∀ (n9 i : Nat), i + n9 = g_N S → ∀ (H : Heap) (locs : List Loc) (ls : Array Slot), va_P D vwCl (mW cI cZ md (o_ER (o_SA (s_Dl (s_Df S 0) 0) 16) i)) H → va_D A (mW cI cZ md (o_ER (o_SA (s_Dl (s_Df S 0) 0) 16) i)) → va_S A s.heap H locs → lv_has ls 2 [(0, .ref (md 0)), (1, .int (nI i))] → W p l e (headSpec wsX2_checksDeferral ({ frames := 3, cells := 0, slots := 0, locals := 68 })).room s m ([.ref (md 0)] : List Value).toArray below meth c H locs 0 0 (MQ below (kPost D (mW cI cZ md S) (mW cI cZ md (o_Chk S)) (none)) ([.ref (md 0)] : List Value).toArray s 0 0 (kA (mW cI cZ md S))) (F0 m 38 ls []) := by
          intro n9
          induction n9 with
          | zero =>
            intro i hi9 H locs ls hP hD hS hl
            have hi8 : i = g_N S := by omega
            subst hi8
            refine lv_iload_n hx hb dX2_checksDeferral_38 rfl (lv_at hl 1 rfl) ?_
            refine lv_aload_n hx hb dX2_checksDeferral_39 rfl (lv_at hl 0 rfl) ?_
            refine va_get (D := D) (ci := 2) (v := .int (nI (g_N (o_ER (o_SA (s_Dl (s_Df S 0) 0) 16) (g_N S))))) (C := RX2) (T := TX2) (N := 16) hx hb hts hi2 hown hK hP 0 (mO _ _ _ _) rfl 3 (by decide) (hts (.fieldLink RX2 55 "GracefulRestartModel" "peers" "I") (List.mem_of_getElem? (i := 3) rfl)) (fun _ h9 => h9) (mV_N _ _) dX2_checksDeferral_40 ?_
            refine k_top (y := nI (g_N S)) (congrArg nI ((o_ER_N _ _).trans (o_SA_N _ _))) ?_
            refine lv_icmp_ge (tgt := 75) hx hb dX2_checksDeferral_43 (by decide) (fun _ => ?_) (fun c_ => absurd (Int32.le_refl _) c_)
            exact k_vret hx hb hr hlk hP hS hAe (by rw [End_e, chk_end c_4 (Or.inl (i32_zero hI.2.2.2.2.2.1.1 (Int32.not_lt.mpr c_18)))]) dX2_checksDeferral_75
          | succ n9 ih =>
            intro i hi9 H locs ls hP hD hS hl
            have hlt : i < g_N S := by omega
            refine lv_iload_n hx hb dX2_checksDeferral_38 rfl (lv_at hl 1 rfl) ?_
            refine lv_aload_n hx hb dX2_checksDeferral_39 rfl (lv_at hl 0 rfl) ?_
            refine va_get (D := D) (ci := 2) (v := .int (nI (g_N (o_ER (o_SA (s_Dl (s_Df S 0) 0) 16) i)))) (C := RX2) (T := TX2) (N := 16) hx hb hts hi2 hown hK hP 0 (mO _ _ _ _) rfl 3 (by decide) (hts (.fieldLink RX2 55 "GracefulRestartModel" "peers" "I") (List.mem_of_getElem? (i := 3) rfl)) (fun _ h9 => h9) (mV_N _ _) dX2_checksDeferral_40 ?_
            refine k_top (y := nI (g_N S)) (congrArg nI ((o_ER_N _ _).trans (o_SA_N _ _))) ?_
            refine lv_icmp_ge (tgt := 75) hx hb dX2_checksDeferral_43 (by decide) (fun c_ => absurd c_ (nI_ge (a := i) (b := g_N S) hlt (by omega))) (fun _ => ?_)
            refine lv_aload_n hx hb dX2_checksDeferral_46 rfl (lv_at hl 0 rfl) ?_
            refine va_get (D := D) (ci := 2) (v := .ref (md 2)) (C := RX2) (T := TX2) (N := 16) hx hb hts hi2 hown hK hP 0 (mO _ _ _ _) rfl 5 (by decide) (hts (.fieldLink RX2 23 "GracefulRestartModel" "stateOf" "[I") (List.mem_of_getElem? (i := 4) rfl)) (fun _ h9 => h9) (mV_5 _ _) dX2_checksDeferral_47 ?_
            refine lv_iload_n hx hb dX2_checksDeferral_50 rfl (lv_at hl 1 rfl) ?_
            refine k_iald (k := i) hx hb hK hP 2 0 (mG_St _ _ _ _) rfl rfl (by omega) (by decide) dX2_checksDeferral_51 ?_
            refine k_top (y := (g_St S) i) (congrFun ((o_ER_St _ _).trans (o_SA_St _ _)) i) ?_
            refine lv_if_ne (tgt := 69) hx hb dX2_checksDeferral_52 (by decide) (fun c_52 => ?_) (fun c_52 => ?_)
            · refine lv_iinc (v := nI (i + 1)) (lv' := [(1, .int (nI (i + 1))), (0, .ref (md 0))]) hx hb dX2_checksDeferral_69 hl (k := 1) rfl (nI_1 i) (by decide) rfl (fun ls hl => ?_)
              refine lv_goto (tgt := 38) hx hb dX2_checksDeferral_72 (by decide) ?_
              rw [ER_f (S := o_SA (s_Dl (s_Df S 0) 0) 16) (by rw [o_SA_St]; exact c_52)] at hP hD
              exact ih (i + 1) (by omega) _ _ ls hP hD hS (lv_sub hl [1, 0] rfl)
            · refine lv_aload_n hx hb dX2_checksDeferral_55 rfl (lv_at hl 0 rfl) ?_
              refine lv_iload_n hx hb dX2_checksDeferral_56 rfl (lv_at hl 1 rfl) ?_
              refine lv_iconst (v := 1) hx hb dX2_checksDeferral_57 (by decide) ?_
              refine kV (As := [.int (nI i), .int 1]) (rest := []) (Wc := (mW cI cZ md (o_ER (o_SA (s_Dl (s_Df S 0) 0) 16) i))) (Wc1 := (mW cI cZ md (o_RmS (o_ER (o_SA (s_Dl (s_Df S 0) 0) 16) i) i))) (Wd1 := (mW cI cZ md (o_RmS (o_ER (o_SA (s_Dl (s_Df S 0) 0) 16) i) i))) (o := some (.int (kCnt (nz (g_Ss (o_ER (o_SA (s_Dl (s_Df S 0) 0) 16) i) i)) 16))) ⟨hx, hb, hml, hown, hts⟩ (c_X2_forgets1 l D cI cZ cP md (o_ER (o_SA (s_Dl (s_Df S 0) 0) 16) i) i (by omega) ((inv_ER (inv_E2 hI) (by rw [E2_N]; omega)).2.1 i)) (cwV 2 hts gX2_checksDeferral_X2_forgets rfl rfl rfl (by decide +kernel) ⟨Nat.le_of_ble_eq_true rfl, Nat.le_of_ble_eq_true rfl⟩) hK hN hP hD hS (fun j => j) (fun _ _ h => h) (fun _ _ _ _ h => h) (mAdr _ _ _ _ _) (fun k q h => Or.inl ⟨k, h⟩) 0 2 rfl rfl (mO _ _ _ _) rfl hl.1 rfl (Nat.le_of_ble_eq_true rfl) ⟨Nat.zero_le _, Nat.zero_le _⟩ dX2_checksDeferral_58 (fun H locs hP hD hS => ?_)
              refine lv_pop hx hb dX2_checksDeferral_61 rfl ?_
              refine lv_aload_n hx hb dX2_checksDeferral_62 rfl (lv_at hl 0 rfl) ?_
              refine va_get (D := D) (ci := 2) (v := .ref (md 4)) (C := RX2) (T := TX2) (N := 16) hx hb hts hi2 hown hK hP 0 (mO _ _ _ _) rfl 7 (by decide) (hts (.fieldLink RX2 30 "GracefulRestartModel" "staleTimerOf" "[I") (List.mem_of_getElem? (i := 5) rfl)) (fun _ h9 => h9) (mV_7 _ _) dX2_checksDeferral_63 ?_
              refine lv_iload_n hx hb dX2_checksDeferral_66 rfl (lv_at hl 1 rfl) ?_
              refine lv_iconst (v := 0) hx hb dX2_checksDeferral_67 (by decide) ?_
              refine k_iast (k := i) hx hb hK hP hD hS 4 0 (mG_Sl _ _ _ _) rfl rfl (by omega) (by decide) (W1 := (mW cI cZ md (o_ER (o_SA (s_Dl (s_Df S 0) 0) 16) (i + 1)))) (by rw [show g_Sl (o_RmS (o_ER (o_SA (s_Dl (s_Df S 0) 0) 16) i) i) = g_Sl (o_ER (o_SA (s_Dl (s_Df S 0) 0) 16) i) from (o_RmS_Sl _ _), mS_Sl, ERes_e, ER_t (S := o_SA (s_Dl (s_Df S 0) 0) 16) (by rw [o_SA_St]; exact c_52)]) dX2_checksDeferral_68 (fun H locs hP hD hS => ?_)
              refine lv_iinc (v := nI (i + 1)) (lv' := [(1, .int (nI (i + 1))), (0, .ref (md 0))]) hx hb dX2_checksDeferral_69 hl (k := 1) rfl (nI_1 i) (by decide) rfl (fun ls hl => ?_)
              refine lv_goto (tgt := 38) hx hb dX2_checksDeferral_72 (by decide) ?_
              exact ih (i + 1) (by omega) _ _ ls hP hD hS (lv_sub hl [1, 0] rfl)
        exact lp38 (g_N S) 0 (by omega) _ _ ls (by rw [ER_0]; exact hP) (by rw [ER_0]; exact hD) hS (lv_sub hl [1, 0] rfl)
      · exact k_vret hx hb hr hlk hP hS hAe (by rw [← chk_wait c_4 (fun z => c_18 (by rw [z]; decide)) c_11]) dX2_checksDeferral_21
