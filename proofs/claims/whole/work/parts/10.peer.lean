set_option maxRecDepth 100000 in
set_option maxHeartbeats 4000000 in
theorem c_X0_knownOffer (l : Launch) (D : va_G) (cI cZ cP : ClassId) (ao af al az : Nat) (g : Int32) (F L Z : FR) (st rt sl mk : Int32) (k : Nat) (hk : k < 16) : MM l yX0_knownOffer wsX0_knownOffer ({ frames := 0, cells := 0, slots := 0, locals := 0 }) D (kTy cI cZ cP) [.ref ao, .int (nI k)] (pW cI cZ ao af al az g F L Z st rt sl mk) (some (.int (if st = 0 then F k else 0))) (pW cI cZ ao af al az g F L Z st rt sl mk) := by
  refine MM.ofW (cc := cX0_knownOffer) (maxL := 2) (ret := (some .int)) (by decide) rfl (Nat.le_of_ble_eq_true rfl) ?_
  intro p e s m below meth c ls A hx hb hr hlk hml hts hown hK hN hP hD hS hAe hl
  have hown : s.vm.findClass RX0 = some m.cls := hown
  have hi0 : ∀ w ∈ wsX00, w ∈ wsX0_knownOffer := fun w h => List.mem_cons_of_mem _ (List.mem_append_right _ h)
  have hl : lv_has ls 2 [(0, .ref ao), (1, .int (nI k))] := hl
  refine lv_aload_n hx hb dX0_knownOffer_0 rfl (lv_at hl 0 rfl) ?_
  refine va_get (D := D) (ci := 0) (v := .int st) (C := RX0) (T := TX0) (N := 8) hx hb hts hi0 hown hK hP 0 rfl rfl 4 (by decide) (hts (.fieldLink RX0 26 "GracefulRestart$Peer" "state" "I") (List.mem_of_getElem? (i := 1) rfl)) (fun _ h9 => h9) rfl dX0_knownOffer_1 ?_
  refine lv_if_ne (tgt := 16) hx hb dX0_knownOffer_4 (by decide) (fun c_4 => ?_) (fun c_4 => ?_)
  · refine lv_iconst (v := 0) hx hb dX0_knownOffer_16 (by decide) ?_
    exact k_iret hx hb hr hlk hP hS hAe (by simp [c_4]) rfl dX0_knownOffer_17
  · refine lv_aload_n hx hb dX0_knownOffer_7 rfl (lv_at hl 0 rfl) ?_
    refine va_get (D := D) (ci := 0) (v := .ref af) (C := RX0) (T := TX0) (N := 8) hx hb hts hi0 hown hK hP 0 rfl rfl 1 (by decide) (hts (.fieldLink RX0 15 "GracefulRestart$Peer" "offers" "[I") (List.mem_of_getElem? (i := 2) rfl)) (fun _ h9 => h9) rfl dX0_knownOffer_8 ?_
    refine lv_iload_n hx hb dX0_knownOffer_11 rfl (lv_at hl 1 rfl) ?_
    refine k_iald (k := k) hx hb hK hP 1 0 rfl rfl rfl (by omega) (by decide) dX0_knownOffer_12 ?_
    refine lv_goto (tgt := 17) hx hb dX0_knownOffer_13 (by decide) ?_
    exact k_iret hx hb hr hlk hP hS hAe (by simp [c_4]) rfl dX0_knownOffer_17

set_option maxRecDepth 100000 in
set_option maxHeartbeats 4000000 in
theorem c_X0_countOffers (l : Launch) (D : va_G) (cI cZ cP : ClassId) (ao af al az : Nat) (g : Int32) (F L Z : FR) (st rt sl mk : Int32) : MM l yX0_countOffers wsX0_countOffers ({ frames := 0, cells := 0, slots := 0, locals := 0 }) D (kTy cI cZ cP) [.ref ao] (pW cI cZ ao af al az g F L Z st rt sl mk) (some (.int (kCnt (pz F) 16))) (pW cI cZ ao af al az g F L Z st rt sl mk) := by
  refine MM.ofW (cc := cX0_countOffers) (maxL := 6) (ret := (some .int)) (by decide) rfl (Nat.le_of_ble_eq_true rfl) ?_
  intro p e s m below meth c ls A hx hb hr hlk hml hts hown hK hN hP hD hS hAe hl
  have hown : s.vm.findClass RX0 = some m.cls := hown
  have hi0 : ∀ w ∈ wsX00, w ∈ wsX0_countOffers := fun w h => List.mem_cons_of_mem _ (List.mem_append_right _ h)
  have hl : lv_has ls 6 [(0, .ref ao)] := hl
  refine lv_iconst (v := 0) hx hb dX0_countOffers_0 (by decide) ?_
  refine lv_istore_n (lv' := [(1, .int 0), (0, .ref ao)]) hx hb dX0_countOffers_1 rfl hl (by decide) rfl (fun ls hl => ?_)
  refine lv_aload_n hx hb dX0_countOffers_2 rfl (lv_at hl 1 rfl) ?_
  refine va_get (D := D) (ci := 0) (v := .ref af) (C := RX0) (T := TX0) (N := 8) hx hb hts hi0 hown hK hP 0 rfl rfl 1 (by decide) (hts (.fieldLink RX0 15 "GracefulRestart$Peer" "offers" "[I") (List.mem_of_getElem? (i := 1) rfl)) (fun _ h9 => h9) rfl dX0_countOffers_3 ?_
  refine lv_astore_n (lv' := [(2, .ref af), (1, .int 0), (0, .ref ao)]) hx hb dX0_countOffers_6 rfl hl (by decide) rfl (fun ls hl => ?_)
  refine lv_aload_n hx hb dX0_countOffers_7 rfl (lv_at hl 0 rfl) ?_
  refine va_alen (v := 16) hx hb hK hP 1 0 rfl rfl rfl dX0_countOffers_8 ?_
  refine lv_istore_n (lv' := [(3, .int 16), (2, .ref af), (1, .int 0), (0, .ref ao)]) hx hb dX0_countOffers_9 rfl hl (by decide) rfl (fun ls hl => ?_)
  refine lv_iconst (v := 0) hx hb dX0_countOffers_10 (by decide) ?_
  refine lv_istore (lv' := [(4, .int 0), (3, .int 16), (2, .ref af), (1, .int 0), (0, .ref ao)]) hx hb dX0_countOffers_11 hl (by decide) rfl (fun ls hl => ?_)
  have lp13 : ∀ (n9 i : Nat), i + n9 = 16 → ∀ (H : Heap) (locs : List Loc) (ls : Array Slot), va_P D vwCl (pW cI cZ ao af al az g F L Z st rt sl mk) H → va_D A (pW cI cZ ao af al az g F L Z st rt sl mk) → va_S A s.heap H locs → lv_has ls 6 [(0, .ref ao), (1, .int (kCnt (pz F) i)), (2, .ref af), (3, .int 16), (4, .int (nI i))] → W p l e (headSpec wsX0_countOffers ({ frames := 0, cells := 0, slots := 0, locals := 0 })).room s m ([.ref ao] : List Value).toArray below meth c H locs 0 0 (MQ below (kPost D (pW cI cZ ao af al az g F L Z st rt sl mk) (pW cI cZ ao af al az g F L Z st rt sl mk) (some (.int (kCnt (pz F) 16)))) ([.ref ao] : List Value).toArray s 0 0 (kA (pW cI cZ ao af al az g F L Z st rt sl mk))) (F0 m 13 ls []) := by
    intro n9
    induction n9 with
    | zero =>
      intro i hi9 H locs ls hP hD hS hl
      have hi8 : i = 16 := by omega
      subst hi8
      refine lv_iload hx hb dX0_countOffers_13 (lv_at hl 4 rfl) ?_
      refine lv_iload_n hx hb dX0_countOffers_15 rfl (lv_at hl 3 rfl) ?_
      refine lv_icmp_ge (tgt := 39) hx hb dX0_countOffers_16 (by decide) (fun _ => ?_) (fun c_ => absurd (by decide) c_)
      refine lv_iload_n hx hb dX0_countOffers_39 rfl (lv_at hl 1 rfl) ?_
      exact k_iret hx hb hr hlk hP hS hAe rfl rfl dX0_countOffers_40
    | succ n9 ih =>
      intro i hi9 H locs ls hP hD hS hl
      have hlt : i < 16 := by omega
      refine lv_iload hx hb dX0_countOffers_13 (lv_at hl 4 rfl) ?_
      refine lv_iload_n hx hb dX0_countOffers_15 rfl (lv_at hl 3 rfl) ?_
      refine lv_icmp_ge (tgt := 39) hx hb dX0_countOffers_16 (by decide) (fun c_ => absurd c_ (nI_ge (a := i) (b := 16) hlt (by decide))) (fun _ => ?_)
      refine lv_aload_n hx hb dX0_countOffers_19 rfl (lv_at hl 2 rfl) ?_
      refine lv_iload hx hb dX0_countOffers_20 (lv_at hl 4 rfl) ?_
      refine k_iald (k := i) hx hb hK hP 1 0 rfl rfl rfl (by omega) (by decide) dX0_countOffers_22 ?_
      refine lv_istore (lv' := [(5, .int (F i)), (0, .ref ao), (1, .int (kCnt (pz F) i)), (2, .ref af), (3, .int 16), (4, .int (nI i))]) hx hb dX0_countOffers_23 hl (by decide) rfl (fun ls hl => ?_)
      refine lv_iload hx hb dX0_countOffers_25 (lv_at hl 0 rfl) ?_
      refine lv_if_le (tgt := 33) hx hb dX0_countOffers_27 (by decide) (fun c_27 => ?_) (fun c_27 => ?_)
      · refine lv_iinc (v := nI (i + 1)) (lv' := [(4, .int (nI (i + 1))), (5, .int (F i)), (0, .ref ao), (1, .int (kCnt (pz F) i)), (2, .ref af), (3, .int 16)]) hx hb dX0_countOffers_33 hl (k := 5) rfl (nI_1 i) (by decide) rfl (fun ls hl => ?_)
        refine lv_goto (tgt := 13) hx hb dX0_countOffers_36 (by decide) ?_
        rw [kCnt_f (pz_f (by rw [Int32.not_lt]; exact c_27))] at hl
        exact ih (i + 1) (by omega) _ _ ls hP hD hS (lv_sub hl [2, 3, 4, 5, 0] rfl)
      · refine lv_iinc (v := kCnt (pz F) (i + 1)) (lv' := [(1, .int (kCnt (pz F) (i + 1))), (5, .int (F i)), (0, .ref ao), (2, .ref af), (3, .int 16), (4, .int (nI i))]) hx hb dX0_countOffers_30 hl (k := 2) rfl (kCnt_t (pz_t (Int32.not_le.mp c_27))) (by decide) rfl (fun ls hl => ?_)
        refine lv_iinc (v := nI (i + 1)) (lv' := [(4, .int (nI (i + 1))), (1, .int (kCnt (pz F) (i + 1))), (5, .int (F i)), (0, .ref ao), (2, .ref af), (3, .int 16)]) hx hb dX0_countOffers_33 hl (k := 5) rfl (nI_1 i) (by decide) rfl (fun ls hl => ?_)
        refine lv_goto (tgt := 13) hx hb dX0_countOffers_36 (by decide) ?_
        exact ih (i + 1) (by omega) _ _ ls hP hD hS (lv_sub hl [3, 1, 4, 5, 0] rfl)
  exact lp13 16 0 (by omega) _ _ ls hP hD hS (lv_sub hl [4, 3, 2, 1, 0] rfl)

set_option maxRecDepth 100000 in
set_option maxHeartbeats 4000000 in
theorem c_X0_isAwaited (l : Launch) (D : va_G) (cI cZ cP : ClassId) (ao af al az : Nat) (g : Int32) (F L Z : FR) (st rt sl mk : Int32) : MM l yX0_isAwaited wsX0_isAwaited ({ frames := 0, cells := 0, slots := 0, locals := 0 }) D (kTy cI cZ cP) [.ref ao] (pW cI cZ ao af al az g F L Z st rt sl mk) (some (.int (if g = 0 then 0 else if st = 2 then 0 else if mk = 3 then 0 else 1))) (pW cI cZ ao af al az g F L Z st rt sl mk) := by
  refine MM.ofW (cc := cX0_isAwaited) (maxL := 1) (ret := (some .boolean)) (by decide) rfl (Nat.le_of_ble_eq_true rfl) ?_
  intro p e s m below meth c ls A hx hb hr hlk hml hts hown hK hN hP hD hS hAe hl
  have hown : s.vm.findClass RX0 = some m.cls := hown
  have hi0 : ∀ w ∈ wsX00, w ∈ wsX0_isAwaited := fun w h => List.mem_cons_of_mem _ (List.mem_append_right _ h)
  have hl : lv_has ls 1 [(0, .ref ao)] := hl
  refine lv_aload_n hx hb dX0_isAwaited_0 rfl (lv_at hl 0 rfl) ?_
  refine va_get (D := D) (ci := 0) (v := .int g) (C := RX0) (T := TX0) (N := 8) hx hb hts hi0 hown hK hP 0 rfl rfl 0 (by decide) (hts (.fieldLink RX0 9 "GracefulRestart$Peer" "graceful" "Z") (List.mem_of_getElem? (i := 1) rfl)) (fun _ h9 => h9) rfl dX0_isAwaited_1 ?_
  refine lv_if_eq (tgt := 27) hx hb dX0_isAwaited_4 (by decide) (fun c_4 => ?_) (fun c_4 => ?_)
  · refine lv_iconst (v := 0) hx hb dX0_isAwaited_27 (by decide) ?_
    exact k_zret hx hb hr hlk hP hS hAe rfl (by simp [c_4]) rfl dX0_isAwaited_28
  · refine lv_aload_n hx hb dX0_isAwaited_7 rfl (lv_at hl 0 rfl) ?_
    refine va_get (D := D) (ci := 0) (v := .int st) (C := RX0) (T := TX0) (N := 8) hx hb hts hi0 hown hK hP 0 rfl rfl 4 (by decide) (hts (.fieldLink RX0 26 "GracefulRestart$Peer" "state" "I") (List.mem_of_getElem? (i := 2) rfl)) (fun _ h9 => h9) rfl dX0_isAwaited_8 ?_
    refine lv_iconst (v := 2) hx hb dX0_isAwaited_11 (by decide) ?_
    refine lv_icmp_eq (tgt := 27) hx hb dX0_isAwaited_12 (by decide) (fun c_12 => ?_) (fun c_12 => ?_)
    · refine lv_iconst (v := 0) hx hb dX0_isAwaited_27 (by decide) ?_
      exact k_zret hx hb hr hlk hP hS hAe rfl (by simp [c_4, c_12]) rfl dX0_isAwaited_28
    · refine lv_aload_n hx hb dX0_isAwaited_15 rfl (lv_at hl 0 rfl) ?_
      refine va_get (D := D) (ci := 0) (v := .int mk) (C := RX0) (T := TX0) (N := 8) hx hb hts hi0 hown hK hP 0 rfl rfl 7 (by decide) (hts (.fieldLink RX0 36 "GracefulRestart$Peer" "marks" "I") (List.mem_of_getElem? (i := 3) rfl)) (fun _ h9 => h9) rfl dX0_isAwaited_16 ?_
      refine lv_iconst (v := 3) hx hb dX0_isAwaited_19 (by decide) ?_
      refine lv_icmp_eq (tgt := 27) hx hb dX0_isAwaited_20 (by decide) (fun c_20 => ?_) (fun c_20 => ?_)
      · refine lv_iconst (v := 0) hx hb dX0_isAwaited_27 (by decide) ?_
        exact k_zret hx hb hr hlk hP hS hAe rfl (by simp [c_4, c_12, c_20]) rfl dX0_isAwaited_28
      · refine lv_iconst (v := 1) hx hb dX0_isAwaited_23 (by decide) ?_
        refine lv_goto (tgt := 28) hx hb dX0_isAwaited_24 (by decide) ?_
        exact k_zret hx hb hr hlk hP hS hAe rfl (by simp [c_4, c_12, c_20]) rfl dX0_isAwaited_28

set_option maxRecDepth 100000 in
set_option maxHeartbeats 4000000 in
theorem c_X0_learn (l : Launch) (D : va_G) (cI cZ cP : ClassId) (ao af al az : Nat) (g : Int32) (F L Z : FR) (st rt sl mk : Int32) (k : Nat) (x : Int32) (hk : k < 16) : MM l yX0_learn wsX0_learn ({ frames := 0, cells := 0, slots := 0, locals := 0 }) D (kTy cI cZ cP) [.ref ao, .int (nI k), .int x] (pW cI cZ ao af al az g F L Z st rt sl mk) (none) (pW cI cZ ao af al az g F (upd L k x) (upd Z k 0) st rt sl mk) := by
  refine MM.ofW (cc := cX0_learn) (maxL := 3) (ret := none) (by decide) rfl (Nat.le_of_ble_eq_true rfl) ?_
  intro p e s m below meth c ls A hx hb hr hlk hml hts hown hK hN hP hD hS hAe hl
  have hown : s.vm.findClass RX0 = some m.cls := hown
  have hi0 : ∀ w ∈ wsX00, w ∈ wsX0_learn := fun w h => List.mem_cons_of_mem _ (List.mem_append_right _ h)
  have hl : lv_has ls 3 [(0, .ref ao), (1, .int (nI k)), (2, .int x)] := hl
  refine lv_aload_n hx hb dX0_learn_0 rfl (lv_at hl 0 rfl) ?_
  refine va_get (D := D) (ci := 0) (v := .ref al) (C := RX0) (T := TX0) (N := 8) hx hb hts hi0 hown hK hP 0 rfl rfl 2 (by decide) (hts (.fieldLink RX0 19 "GracefulRestart$Peer" "learned" "[I") (List.mem_of_getElem? (i := 1) rfl)) (fun _ h9 => h9) rfl dX0_learn_1 ?_
  refine lv_iload_n hx hb dX0_learn_4 rfl (lv_at hl 1 rfl) ?_
  refine lv_iload_n hx hb dX0_learn_5 rfl (lv_at hl 2 rfl) ?_
  refine k_iast (k := k) hx hb hK hP hD hS 2 0 rfl rfl rfl (by omega) (by decide) (W1 := (pW cI cZ ao af al az g F (upd L k x) Z st rt sl mk)) rfl dX0_learn_6 (fun H locs hP hD hS => ?_)
  refine lv_aload_n hx hb dX0_learn_7 rfl (lv_at hl 0 rfl) ?_
  refine va_get (D := D) (ci := 0) (v := .ref az) (C := RX0) (T := TX0) (N := 8) hx hb hts hi0 hown hK hP 0 rfl rfl 3 (by decide) (hts (.fieldLink RX0 22 "GracefulRestart$Peer" "staleLearned" "[Z") (List.mem_of_getElem? (i := 2) rfl)) (fun _ h9 => h9) rfl dX0_learn_8 ?_
  refine lv_iload_n hx hb dX0_learn_11 rfl (lv_at hl 1 rfl) ?_
  refine lv_iconst (v := 0) hx hb dX0_learn_12 (by decide) ?_
  refine k_zast (k := k) hx hb hK hP hD hS 3 1 rfl rfl rfl (by omega) (by decide) (by decide) (W1 := (pW cI cZ ao af al az g F (upd L k x) (upd Z k 0) st rt sl mk)) rfl dX0_learn_13 (fun H locs hP hD hS => ?_)
  exact k_vret hx hb hr hlk hP hS hAe rfl dX0_learn_14

set_option maxRecDepth 100000 in
set_option maxHeartbeats 4000000 in
theorem c_X0_hearNothing (l : Launch) (D : va_G) (cI cZ cP : ClassId) (ao af al az : Nat) (g : Int32) (F L Z : FR) (st rt sl mk : Int32) (k : Nat) (hk : k < 16) : MM l yX0_hearNothing wsX0_hearNothing ({ frames := 0, cells := 0, slots := 0, locals := 0 }) D (kTy cI cZ cP) [.ref ao, .int (nI k)] (pW cI cZ ao af al az g F L Z st rt sl mk) (none) (pW cI cZ ao af al az g F (if Z k = 0 then upd L k 0 else L) Z st rt sl mk) := by
  refine MM.ofW (cc := cX0_hearNothing) (maxL := 2) (ret := none) (by decide) rfl (Nat.le_of_ble_eq_true rfl) ?_
  intro p e s m below meth c ls A hx hb hr hlk hml hts hown hK hN hP hD hS hAe hl
  have hown : s.vm.findClass RX0 = some m.cls := hown
  have hi0 : ∀ w ∈ wsX00, w ∈ wsX0_hearNothing := fun w h => List.mem_cons_of_mem _ (List.mem_append_right _ h)
  have hl : lv_has ls 2 [(0, .ref ao), (1, .int (nI k))] := hl
  refine lv_aload_n hx hb dX0_hearNothing_0 rfl (lv_at hl 0 rfl) ?_
  refine va_get (D := D) (ci := 0) (v := .ref az) (C := RX0) (T := TX0) (N := 8) hx hb hts hi0 hown hK hP 0 rfl rfl 3 (by decide) (hts (.fieldLink RX0 22 "GracefulRestart$Peer" "staleLearned" "[Z") (List.mem_of_getElem? (i := 1) rfl)) (fun _ h9 => h9) rfl dX0_hearNothing_1 ?_
  refine lv_iload_n hx hb dX0_hearNothing_4 rfl (lv_at hl 1 rfl) ?_
  refine k_zald (k := k) hx hb hK hP 3 1 rfl rfl rfl (by omega) (by decide) dX0_hearNothing_5 ?_
  refine lv_if_ne (tgt := 16) hx hb dX0_hearNothing_6 (by decide) (fun c_6 => ?_) (fun c_6 => ?_)
  · exact k_vret hx hb hr hlk hP hS hAe (by simp [c_6]) dX0_hearNothing_16
  · refine lv_aload_n hx hb dX0_hearNothing_9 rfl (lv_at hl 0 rfl) ?_
    refine va_get (D := D) (ci := 0) (v := .ref al) (C := RX0) (T := TX0) (N := 8) hx hb hts hi0 hown hK hP 0 rfl rfl 2 (by decide) (hts (.fieldLink RX0 19 "GracefulRestart$Peer" "learned" "[I") (List.mem_of_getElem? (i := 2) rfl)) (fun _ h9 => h9) rfl dX0_hearNothing_10 ?_
    refine lv_iload_n hx hb dX0_hearNothing_13 rfl (lv_at hl 1 rfl) ?_
    refine lv_iconst (v := 0) hx hb dX0_hearNothing_14 (by decide) ?_
    refine k_iast (k := k) hx hb hK hP hD hS 2 0 rfl rfl rfl (by omega) (by decide) (W1 := (pW cI cZ ao af al az g F (upd L k 0) Z st rt sl mk)) rfl dX0_hearNothing_15 (fun H locs hP hD hS => ?_)
    exact k_vret hx hb hr hlk hP hS hAe (by simp [c_6]) dX0_hearNothing_16

set_option maxRecDepth 100000 in
set_option maxHeartbeats 4000000 in
theorem c_X0_removeLearned (l : Launch) (D : va_G) (cI cZ cP : ClassId) (ao af al az : Nat) (g : Int32) (F L Z : FR) (st rt sl mk : Int32) : MM l yX0_removeLearned wsX0_removeLearned ({ frames := 0, cells := 0, slots := 0, locals := 0 }) D (kTy cI cZ cP) [.ref ao] (pW cI cZ ao af al az g F L Z st rt sl mk) (some (.int (kCnt (nz L) 16))) (pW cI cZ ao af al az g F (kCut tt9 16 L) (kCut tt9 16 Z) st rt sl mk) := by
  refine MM.ofW (cc := cX0_removeLearned) (maxL := 3) (ret := (some .int)) (by decide) rfl (Nat.le_of_ble_eq_true rfl) ?_
  intro p e s m below meth c ls A hx hb hr hlk hml hts hown hK hN hP hD hS hAe hl
  have hown : s.vm.findClass RX0 = some m.cls := hown
  have hi0 : ∀ w ∈ wsX00, w ∈ wsX0_removeLearned := fun w h => List.mem_cons_of_mem _ (List.mem_append_right _ h)
  have hl : lv_has ls 3 [(0, .ref ao)] := hl
  refine lv_iconst (v := 0) hx hb dX0_removeLearned_0 (by decide) ?_
  refine lv_istore_n (lv' := [(1, .int 0), (0, .ref ao)]) hx hb dX0_removeLearned_1 rfl hl (by decide) rfl (fun ls hl => ?_)
  refine lv_iconst (v := 0) hx hb dX0_removeLearned_2 (by decide) ?_
  refine lv_istore_n (lv' := [(2, .int 0), (1, .int 0), (0, .ref ao)]) hx hb dX0_removeLearned_3 rfl hl (by decide) rfl (fun ls hl => ?_)
  have lp4 : ∀ (n9 i : Nat), i + n9 = 16 → ∀ (H : Heap) (locs : List Loc) (ls : Array Slot), va_P D vwCl (pW cI cZ ao af al az g F (kCut tt9 i L) (kCut tt9 i Z) st rt sl mk) H → va_D A (pW cI cZ ao af al az g F (kCut tt9 i L) (kCut tt9 i Z) st rt sl mk) → va_S A s.heap H locs → lv_has ls 3 [(0, .ref ao), (1, .int (kCnt (nz L) i)), (2, .int (nI i))] → W p l e (headSpec wsX0_removeLearned ({ frames := 0, cells := 0, slots := 0, locals := 0 })).room s m ([.ref ao] : List Value).toArray below meth c H locs 0 0 (MQ below (kPost D (pW cI cZ ao af al az g F L Z st rt sl mk) (pW cI cZ ao af al az g F (kCut tt9 16 L) (kCut tt9 16 Z) st rt sl mk) (some (.int (kCnt (nz L) 16)))) ([.ref ao] : List Value).toArray s 0 0 (kA (pW cI cZ ao af al az g F L Z st rt sl mk))) (F0 m 4 ls []) := by
    intro n9
    induction n9 with
    | zero =>
      intro i hi9 H locs ls hP hD hS hl
      have hi8 : i = 16 := by omega
      subst hi8
      refine lv_iload_n hx hb dX0_removeLearned_4 rfl (lv_at hl 2 rfl) ?_
      refine lv_bipush (v := 16) hx hb dX0_removeLearned_5 (by decide) ?_
      refine lv_icmp_ge (tgt := 42) hx hb dX0_removeLearned_7 (by decide) (fun _ => ?_) (fun c_ => absurd (by decide) c_)
      refine lv_iload_n hx hb dX0_removeLearned_42 rfl (lv_at hl 1 rfl) ?_
      exact k_iret hx hb hr hlk hP hS hAe rfl rfl dX0_removeLearned_43
    | succ n9 ih =>
      intro i hi9 H locs ls hP hD hS hl
      have hlt : i < 16 := by omega
      refine lv_iload_n hx hb dX0_removeLearned_4 rfl (lv_at hl 2 rfl) ?_
      refine lv_bipush (v := 16) hx hb dX0_removeLearned_5 (by decide) ?_
      refine lv_icmp_ge (tgt := 42) hx hb dX0_removeLearned_7 (by decide) (fun c_ => absurd c_ (nI_ge (a := i) (b := 16) hlt (by decide))) (fun _ => ?_)
      refine lv_aload_n hx hb dX0_removeLearned_10 rfl (lv_at hl 0 rfl) ?_
      refine va_get (D := D) (ci := 0) (v := .ref al) (C := RX0) (T := TX0) (N := 8) hx hb hts hi0 hown hK hP 0 rfl rfl 2 (by decide) (hts (.fieldLink RX0 19 "GracefulRestart$Peer" "learned" "[I") (List.mem_of_getElem? (i := 1) rfl)) (fun _ h9 => h9) rfl dX0_removeLearned_11 ?_
      refine lv_iload_n hx hb dX0_removeLearned_14 rfl (lv_at hl 2 rfl) ?_
      refine k_iald (k := i) hx hb hK hP 2 0 rfl rfl rfl (by omega) (by decide) dX0_removeLearned_15 ?_
      refine k_top (y := L i) (kCut_at _ _ _) ?_
      refine lv_if_eq (tgt := 22) hx hb dX0_removeLearned_16 (by decide) (fun c_16 => ?_) (fun c_16 => ?_)
      · refine lv_aload_n hx hb dX0_removeLearned_22 rfl (lv_at hl 0 rfl) ?_
        refine va_get (D := D) (ci := 0) (v := .ref al) (C := RX0) (T := TX0) (N := 8) hx hb hts hi0 hown hK hP 0 rfl rfl 2 (by decide) (hts (.fieldLink RX0 19 "GracefulRestart$Peer" "learned" "[I") (List.mem_of_getElem? (i := 1) rfl)) (fun _ h9 => h9) rfl dX0_removeLearned_23 ?_
        refine lv_iload_n hx hb dX0_removeLearned_26 rfl (lv_at hl 2 rfl) ?_
        refine lv_iconst (v := 0) hx hb dX0_removeLearned_27 (by decide) ?_
        refine k_iast (k := i) hx hb hK hP hD hS 2 0 rfl rfl rfl (by omega) (by decide) (W1 := (pW cI cZ ao af al az g F (upd (kCut tt9 i L) i 0) (kCut tt9 i Z) st rt sl mk)) rfl dX0_removeLearned_28 (fun H locs hP hD hS => ?_)
        refine lv_aload_n hx hb dX0_removeLearned_29 rfl (lv_at hl 0 rfl) ?_
        refine va_get (D := D) (ci := 0) (v := .ref az) (C := RX0) (T := TX0) (N := 8) hx hb hts hi0 hown hK hP 0 rfl rfl 3 (by decide) (hts (.fieldLink RX0 22 "GracefulRestart$Peer" "staleLearned" "[Z") (List.mem_of_getElem? (i := 2) rfl)) (fun _ h9 => h9) rfl dX0_removeLearned_30 ?_
        refine lv_iload_n hx hb dX0_removeLearned_33 rfl (lv_at hl 2 rfl) ?_
        refine lv_iconst (v := 0) hx hb dX0_removeLearned_34 (by decide) ?_
        refine k_zast (k := i) hx hb hK hP hD hS 3 1 rfl rfl rfl (by omega) (by decide) (by decide) (W1 := (pW cI cZ ao af al az g F (upd (kCut tt9 i L) i 0) (upd (kCut tt9 i Z) i 0) st rt sl mk)) rfl dX0_removeLearned_35 (fun H locs hP hD hS => ?_)
        refine lv_iinc (v := nI (i + 1)) (lv' := [(2, .int (nI (i + 1))), (0, .ref ao), (1, .int (kCnt (nz L) i))]) hx hb dX0_removeLearned_36 hl (k := 2) rfl (nI_1 i) (by decide) rfl (fun ls hl => ?_)
        refine lv_goto (tgt := 4) hx hb dX0_removeLearned_39 (by decide) ?_
        rw [kCut_t (P := tt9) L rfl, kCut_t (P := tt9) Z rfl] at hP hD
        rw [kCnt_f (nz_f c_16)] at hl
        exact ih (i + 1) (by omega) _ _ ls hP hD hS (lv_sub hl [1, 2, 0] rfl)
      · refine lv_iinc (v := kCnt (nz L) (i + 1)) (lv' := [(1, .int (kCnt (nz L) (i + 1))), (0, .ref ao), (2, .int (nI i))]) hx hb dX0_removeLearned_19 hl (k := 1) rfl (kCnt_t (nz_t c_16)) (by decide) rfl (fun ls hl => ?_)
        refine lv_aload_n hx hb dX0_removeLearned_22 rfl (lv_at hl 1 rfl) ?_
        refine va_get (D := D) (ci := 0) (v := .ref al) (C := RX0) (T := TX0) (N := 8) hx hb hts hi0 hown hK hP 0 rfl rfl 2 (by decide) (hts (.fieldLink RX0 19 "GracefulRestart$Peer" "learned" "[I") (List.mem_of_getElem? (i := 1) rfl)) (fun _ h9 => h9) rfl dX0_removeLearned_23 ?_
        refine lv_iload_n hx hb dX0_removeLearned_26 rfl (lv_at hl 2 rfl) ?_
        refine lv_iconst (v := 0) hx hb dX0_removeLearned_27 (by decide) ?_
        refine k_iast (k := i) hx hb hK hP hD hS 2 0 rfl rfl rfl (by omega) (by decide) (W1 := (pW cI cZ ao af al az g F (upd (kCut tt9 i L) i 0) (kCut tt9 i Z) st rt sl mk)) rfl dX0_removeLearned_28 (fun H locs hP hD hS => ?_)
        refine lv_aload_n hx hb dX0_removeLearned_29 rfl (lv_at hl 1 rfl) ?_
        refine va_get (D := D) (ci := 0) (v := .ref az) (C := RX0) (T := TX0) (N := 8) hx hb hts hi0 hown hK hP 0 rfl rfl 3 (by decide) (hts (.fieldLink RX0 22 "GracefulRestart$Peer" "staleLearned" "[Z") (List.mem_of_getElem? (i := 2) rfl)) (fun _ h9 => h9) rfl dX0_removeLearned_30 ?_
        refine lv_iload_n hx hb dX0_removeLearned_33 rfl (lv_at hl 2 rfl) ?_
        refine lv_iconst (v := 0) hx hb dX0_removeLearned_34 (by decide) ?_
        refine k_zast (k := i) hx hb hK hP hD hS 3 1 rfl rfl rfl (by omega) (by decide) (by decide) (W1 := (pW cI cZ ao af al az g F (upd (kCut tt9 i L) i 0) (upd (kCut tt9 i Z) i 0) st rt sl mk)) rfl dX0_removeLearned_35 (fun H locs hP hD hS => ?_)
        refine lv_iinc (v := nI (i + 1)) (lv' := [(2, .int (nI (i + 1))), (1, .int (kCnt (nz L) (i + 1))), (0, .ref ao)]) hx hb dX0_removeLearned_36 hl (k := 2) rfl (nI_1 i) (by decide) rfl (fun ls hl => ?_)
        refine lv_goto (tgt := 4) hx hb dX0_removeLearned_39 (by decide) ?_
        rw [kCut_t (P := tt9) L rfl, kCut_t (P := tt9) Z rfl] at hP hD
        exact ih (i + 1) (by omega) _ _ ls hP hD hS (lv_sub hl [2, 1, 0] rfl)
  rw [← kCut_0 tt9 L, ← kCut_0 tt9 Z] at hP hD
  exact lp4 16 0 (by omega) _ _ ls hP hD hS (lv_sub hl [2, 1, 0] rfl)

set_option maxRecDepth 100000 in
set_option maxHeartbeats 4000000 in
theorem c_X0_removeStale (l : Launch) (D : va_G) (cI cZ cP : ClassId) (ao af al az : Nat) (g : Int32) (F L Z : FR) (st rt sl mk : Int32) : MM l yX0_removeStale wsX0_removeStale ({ frames := 0, cells := 0, slots := 0, locals := 0 }) D (kTy cI cZ cP) [.ref ao] (pW cI cZ ao af al az g F L Z st rt sl mk) (some (.int (kCnt (nz Z) 16))) (pW cI cZ ao af al az g F (kCut (nz Z) 16 L) (kCut (nz Z) 16 Z) st rt sl mk) := by
  refine MM.ofW (cc := cX0_removeStale) (maxL := 3) (ret := (some .int)) (by decide) rfl (Nat.le_of_ble_eq_true rfl) ?_
  intro p e s m below meth c ls A hx hb hr hlk hml hts hown hK hN hP hD hS hAe hl
  have hown : s.vm.findClass RX0 = some m.cls := hown
  have hi0 : ∀ w ∈ wsX00, w ∈ wsX0_removeStale := fun w h => List.mem_cons_of_mem _ (List.mem_append_right _ h)
  have hl : lv_has ls 3 [(0, .ref ao)] := hl
  refine lv_iconst (v := 0) hx hb dX0_removeStale_0 (by decide) ?_
  refine lv_istore_n (lv' := [(1, .int 0), (0, .ref ao)]) hx hb dX0_removeStale_1 rfl hl (by decide) rfl (fun ls hl => ?_)
  refine lv_iconst (v := 0) hx hb dX0_removeStale_2 (by decide) ?_
  refine lv_istore_n (lv' := [(2, .int 0), (1, .int 0), (0, .ref ao)]) hx hb dX0_removeStale_3 rfl hl (by decide) rfl (fun ls hl => ?_)
  have lp4 : ∀ (n9 i : Nat), i + n9 = 16 → ∀ (H : Heap) (locs : List Loc) (ls : Array Slot), va_P D vwCl (pW cI cZ ao af al az g F (kCut (nz Z) i L) (kCut (nz Z) i Z) st rt sl mk) H → va_D A (pW cI cZ ao af al az g F (kCut (nz Z) i L) (kCut (nz Z) i Z) st rt sl mk) → va_S A s.heap H locs → lv_has ls 3 [(0, .ref ao), (1, .int (kCnt (nz Z) i)), (2, .int (nI i))] → W p l e (headSpec wsX0_removeStale ({ frames := 0, cells := 0, slots := 0, locals := 0 })).room s m ([.ref ao] : List Value).toArray below meth c H locs 0 0 (MQ below (kPost D (pW cI cZ ao af al az g F L Z st rt sl mk) (pW cI cZ ao af al az g F (kCut (nz Z) 16 L) (kCut (nz Z) 16 Z) st rt sl mk) (some (.int (kCnt (nz Z) 16)))) ([.ref ao] : List Value).toArray s 0 0 (kA (pW cI cZ ao af al az g F L Z st rt sl mk))) (F0 m 4 ls []) := by
    intro n9
    induction n9 with
    | zero =>
      intro i hi9 H locs ls hP hD hS hl
      have hi8 : i = 16 := by omega
      subst hi8
      refine lv_iload_n hx hb dX0_removeStale_4 rfl (lv_at hl 2 rfl) ?_
      refine lv_bipush (v := 16) hx hb dX0_removeStale_5 (by decide) ?_
      refine lv_icmp_ge (tgt := 42) hx hb dX0_removeStale_7 (by decide) (fun _ => ?_) (fun c_ => absurd (by decide) c_)
      refine lv_iload_n hx hb dX0_removeStale_42 rfl (lv_at hl 1 rfl) ?_
      exact k_iret hx hb hr hlk hP hS hAe rfl rfl dX0_removeStale_43
    | succ n9 ih =>
      intro i hi9 H locs ls hP hD hS hl
      have hlt : i < 16 := by omega
      refine lv_iload_n hx hb dX0_removeStale_4 rfl (lv_at hl 2 rfl) ?_
      refine lv_bipush (v := 16) hx hb dX0_removeStale_5 (by decide) ?_
      refine lv_icmp_ge (tgt := 42) hx hb dX0_removeStale_7 (by decide) (fun c_ => absurd c_ (nI_ge (a := i) (b := 16) hlt (by decide))) (fun _ => ?_)
      refine lv_aload_n hx hb dX0_removeStale_10 rfl (lv_at hl 0 rfl) ?_
      refine va_get (D := D) (ci := 0) (v := .ref az) (C := RX0) (T := TX0) (N := 8) hx hb hts hi0 hown hK hP 0 rfl rfl 3 (by decide) (hts (.fieldLink RX0 22 "GracefulRestart$Peer" "staleLearned" "[Z") (List.mem_of_getElem? (i := 1) rfl)) (fun _ h9 => h9) rfl dX0_removeStale_11 ?_
      refine lv_iload_n hx hb dX0_removeStale_14 rfl (lv_at hl 2 rfl) ?_
      refine k_zald (k := i) hx hb hK hP 3 1 rfl rfl rfl (by omega) (by decide) dX0_removeStale_15 ?_
      refine k_top (y := Z i) (kCut_at _ _ _) ?_
      refine lv_if_eq (tgt := 36) hx hb dX0_removeStale_16 (by decide) (fun c_16 => ?_) (fun c_16 => ?_)
      · refine lv_iinc (v := nI (i + 1)) (lv' := [(2, .int (nI (i + 1))), (0, .ref ao), (1, .int (kCnt (nz Z) i))]) hx hb dX0_removeStale_36 hl (k := 2) rfl (nI_1 i) (by decide) rfl (fun ls hl => ?_)
        refine lv_goto (tgt := 4) hx hb dX0_removeStale_39 (by decide) ?_
        rw [kCut_f L (nz_f c_16), kCut_f Z (nz_f c_16)] at hP hD
        rw [kCnt_f (nz_f c_16)] at hl
        exact ih (i + 1) (by omega) _ _ ls hP hD hS (lv_sub hl [1, 2, 0] rfl)
      · refine lv_aload_n hx hb dX0_removeStale_19 rfl (lv_at hl 0 rfl) ?_
        refine va_get (D := D) (ci := 0) (v := .ref al) (C := RX0) (T := TX0) (N := 8) hx hb hts hi0 hown hK hP 0 rfl rfl 2 (by decide) (hts (.fieldLink RX0 19 "GracefulRestart$Peer" "learned" "[I") (List.mem_of_getElem? (i := 2) rfl)) (fun _ h9 => h9) rfl dX0_removeStale_20 ?_
        refine lv_iload_n hx hb dX0_removeStale_23 rfl (lv_at hl 2 rfl) ?_
        refine lv_iconst (v := 0) hx hb dX0_removeStale_24 (by decide) ?_
        refine k_iast (k := i) hx hb hK hP hD hS 2 0 rfl rfl rfl (by omega) (by decide) (W1 := (pW cI cZ ao af al az g F (upd (kCut (nz Z) i L) i 0) (kCut (nz Z) i Z) st rt sl mk)) rfl dX0_removeStale_25 (fun H locs hP hD hS => ?_)
        refine lv_aload_n hx hb dX0_removeStale_26 rfl (lv_at hl 0 rfl) ?_
        refine va_get (D := D) (ci := 0) (v := .ref az) (C := RX0) (T := TX0) (N := 8) hx hb hts hi0 hown hK hP 0 rfl rfl 3 (by decide) (hts (.fieldLink RX0 22 "GracefulRestart$Peer" "staleLearned" "[Z") (List.mem_of_getElem? (i := 1) rfl)) (fun _ h9 => h9) rfl dX0_removeStale_27 ?_
        refine lv_iload_n hx hb dX0_removeStale_30 rfl (lv_at hl 2 rfl) ?_
        refine lv_iconst (v := 0) hx hb dX0_removeStale_31 (by decide) ?_
        refine k_zast (k := i) hx hb hK hP hD hS 3 1 rfl rfl rfl (by omega) (by decide) (by decide) (W1 := (pW cI cZ ao af al az g F (upd (kCut (nz Z) i L) i 0) (upd (kCut (nz Z) i Z) i 0) st rt sl mk)) rfl dX0_removeStale_32 (fun H locs hP hD hS => ?_)
        refine lv_iinc (v := kCnt (nz Z) (i + 1)) (lv' := [(1, .int (kCnt (nz Z) (i + 1))), (0, .ref ao), (2, .int (nI i))]) hx hb dX0_removeStale_33 hl (k := 1) rfl (kCnt_t (nz_t c_16)) (by decide) rfl (fun ls hl => ?_)
        refine lv_iinc (v := nI (i + 1)) (lv' := [(2, .int (nI (i + 1))), (1, .int (kCnt (nz Z) (i + 1))), (0, .ref ao)]) hx hb dX0_removeStale_36 hl (k := 2) rfl (nI_1 i) (by decide) rfl (fun ls hl => ?_)
        refine lv_goto (tgt := 4) hx hb dX0_removeStale_39 (by decide) ?_
        rw [kCut_t L (nz_t c_16), kCut_t Z (nz_t c_16)] at hP hD
        exact ih (i + 1) (by omega) _ _ ls hP hD hS (lv_sub hl [2, 1, 0] rfl)
  rw [← kCut_0 (nz Z) L, ← kCut_0 (nz Z) Z] at hP hD
  exact lp4 16 0 (by omega) _ _ ls hP hD hS (lv_sub hl [2, 1, 0] rfl)

set_option maxRecDepth 100000 in
set_option maxHeartbeats 4000000 in
theorem c_X0_goDown (l : Launch) (D : va_G) (cI cZ cP : ClassId) (ao af al az : Nat) (g : Int32) (F L Z : FR) (st rt sl mk : Int32) : MM l yX0_goDown wsX0_goDown ({ frames := 1, cells := 0, slots := 0, locals := 22 }) D (kTy cI cZ cP) [.ref ao] (pW cI cZ ao af al az g F L Z st rt sl mk) (some (.int (kCnt (nz L) 16))) (pW cI cZ ao af al az g F (kCut tt9 16 L) (kCut tt9 16 Z) 2 0 0 mk) := by
  refine MM.ofW (cc := cX0_goDown) (maxL := 1) (ret := (some .int)) (by decide) rfl (Nat.le_of_ble_eq_true rfl) ?_
  intro p e s m below meth c ls A hx hb hr hlk hml hts hown hK hN hP hD hS hAe hl
  have hown : s.vm.findClass RX0 = some m.cls := hown
  have hi0 : ∀ w ∈ wsX00, w ∈ wsX0_goDown := fun w h => List.mem_cons_of_mem _ (List.mem_append_right _ h)
  have hl : lv_has ls 1 [(0, .ref ao)] := hl
  refine lv_aload_n hx hb dX0_goDown_0 rfl (lv_at hl 0 rfl) ?_
  refine lv_iconst (v := 2) hx hb dX0_goDown_1 (by decide) ?_
  refine k_put (D := D) (ci := 0) (v := .int 2) (ty := .int) (C := RX0) (T := TX0) (N := 8) hx hb hts hi0 tyX0 tyX0_ok nmX0 hown hK hP hD hS 0 rfl rfl 4 (by decide) (hts (.fieldLink RX0 26 "GracefulRestart$Peer" "state" "I") (List.mem_of_getElem? (i := 1) rfl)) (fun _ h9 => h9) rfl (by decide +kernel) rfl rfl (Nat.le_of_ble_eq_true rfl) (W1 := (pW cI cZ ao af al az g F L Z 2 rt sl mk)) rfl dX0_goDown_2 (fun H locs hP hD hS => ?_)
  refine lv_aload_n hx hb dX0_goDown_5 rfl (lv_at hl 0 rfl) ?_
  refine lv_iconst (v := 0) hx hb dX0_goDown_6 (by decide) ?_
  refine k_put (D := D) (ci := 0) (v := .int 0) (ty := .int) (C := RX0) (T := TX0) (N := 8) hx hb hts hi0 tyX0 tyX0_ok nmX0 hown hK hP hD hS 0 rfl rfl 5 (by decide) (hts (.fieldLink RX0 30 "GracefulRestart$Peer" "restartLeft" "I") (List.mem_of_getElem? (i := 2) rfl)) (fun _ h9 => h9) rfl (by decide +kernel) rfl rfl (Nat.le_of_ble_eq_true rfl) (W1 := (pW cI cZ ao af al az g F L Z 2 0 sl mk)) rfl dX0_goDown_7 (fun H locs hP hD hS => ?_)
  refine lv_aload_n hx hb dX0_goDown_10 rfl (lv_at hl 0 rfl) ?_
  refine lv_iconst (v := 0) hx hb dX0_goDown_11 (by decide) ?_
  refine k_put (D := D) (ci := 0) (v := .int 0) (ty := .int) (C := RX0) (T := TX0) (N := 8) hx hb hts hi0 tyX0 tyX0_ok nmX0 hown hK hP hD hS 0 rfl rfl 6 (by decide) (hts (.fieldLink RX0 33 "GracefulRestart$Peer" "staleLeft" "I") (List.mem_of_getElem? (i := 3) rfl)) (fun _ h9 => h9) rfl (by decide +kernel) rfl rfl (Nat.le_of_ble_eq_true rfl) (W1 := (pW cI cZ ao af al az g F L Z 2 0 0 mk)) rfl dX0_goDown_12 (fun H locs hP hD hS => ?_)
  refine lv_aload_n hx hb dX0_goDown_15 rfl (lv_at hl 0 rfl) ?_
  refine kV (As := []) (rest := []) (Wc := (pW cI cZ ao af al az g F L Z 2 0 0 mk)) (Wc1 := (pW cI cZ ao af al az g F (kCut tt9 16 L) (kCut tt9 16 Z) 2 0 0 mk)) (Wd1 := (pW cI cZ ao af al az g F (kCut tt9 16 L) (kCut tt9 16 Z) 2 0 0 mk)) (o := some (.int (kCnt (nz L) 16))) ⟨hx, hb, hml, hown, hts⟩ (c_X0_removeLearned l D cI cZ cP ao af al az g F L Z 2 0 0 mk) (cwV 0 hts gX0_goDown_X0_removeLearned rfl rfl rfl (by decide +kernel) ⟨Nat.le_of_ble_eq_true rfl, Nat.le_of_ble_eq_true rfl⟩) hK hN hP hD hS (fun j => j) (fun _ _ h => h) (fun _ _ _ _ h => h) rfl (fun k q h => Or.inl ⟨k, h⟩) 0 0 rfl rfl rfl rfl hl.1 rfl (Nat.le_of_ble_eq_true rfl) ⟨Nat.zero_le _, Nat.zero_le _⟩ dX0_goDown_16 (fun H locs hP hD hS => ?_)
  exact k_iret hx hb hr hlk hP hS hAe rfl rfl dX0_goDown_19

set_option maxRecDepth 100000 in
set_option maxHeartbeats 4000000 in
theorem c_X0_loseRouter (l : Launch) (D : va_G) (cI cZ cP : ClassId) (ao af al az : Nat) (g : Int32) (F L Z : FR) (st rt sl mk : Int32) (x : Int32) : MM l yX0_loseRouter wsX0_loseRouter ({ frames := 2, cells := 0, slots := 0, locals := 42 }) D (kTy cI cZ cP) [.ref ao, .int x] (pW cI cZ ao af al az g F L Z st rt sl mk) (none) (if g = 0 then (pW cI cZ ao af al az g F (kCut tt9 16 L) (kCut tt9 16 Z) 2 0 0 mk) else (pW cI cZ ao af al az g F (kCut (nz Z) 16 L) (kMrk 0 (kCut (nz Z) 16 L) 16 (kCut (nz Z) 16 Z)) 1 x 0 mk)) := by
  refine MM.ofW (cc := cX0_loseRouter) (maxL := 3) (ret := none) (by decide) rfl (Nat.le_of_ble_eq_true rfl) ?_
  intro p e s m below meth c ls A hx hb hr hlk hml hts hown hK hN hP hD hS hAe hl
  have hown : s.vm.findClass RX0 = some m.cls := hown
  have hi0 : ∀ w ∈ wsX00, w ∈ wsX0_loseRouter := fun w h => List.mem_cons_of_mem _ (List.mem_append_right _ h)
  have hl : lv_has ls 3 [(0, .ref ao), (1, .int x)] := hl
  refine lv_aload_n hx hb dX0_loseRouter_0 rfl (lv_at hl 0 rfl) ?_
  refine va_get (D := D) (ci := 0) (v := .int g) (C := RX0) (T := TX0) (N := 8) hx hb hts hi0 hown hK hP 0 rfl rfl 0 (by decide) (hts (.fieldLink RX0 9 "GracefulRestart$Peer" "graceful" "Z") (List.mem_of_getElem? (i := 1) rfl)) (fun _ h9 => h9) rfl dX0_loseRouter_1 ?_
  refine lv_if_ne (tgt := 13) hx hb dX0_loseRouter_4 (by decide) (fun c_4 => ?_) (fun c_4 => ?_)
  · refine lv_aload_n hx hb dX0_loseRouter_13 rfl (lv_at hl 0 rfl) ?_
    refine lv_iconst (v := 1) hx hb dX0_loseRouter_14 (by decide) ?_
    refine k_put (D := D) (ci := 0) (v := .int 1) (ty := .int) (C := RX0) (T := TX0) (N := 8) hx hb hts hi0 tyX0 tyX0_ok nmX0 hown hK hP hD hS 0 rfl rfl 4 (by decide) (hts (.fieldLink RX0 26 "GracefulRestart$Peer" "state" "I") (List.mem_of_getElem? (i := 2) rfl)) (fun _ h9 => h9) rfl (by decide +kernel) rfl rfl (Nat.le_of_ble_eq_true rfl) (W1 := (pW cI cZ ao af al az g F L Z 1 rt sl mk)) rfl dX0_loseRouter_15 (fun H locs hP hD hS => ?_)
    refine lv_aload_n hx hb dX0_loseRouter_18 rfl (lv_at hl 0 rfl) ?_
    refine kV (As := []) (rest := []) (Wc := (pW cI cZ ao af al az g F L Z 1 rt sl mk)) (Wc1 := (pW cI cZ ao af al az g F (kCut (nz Z) 16 L) (kCut (nz Z) 16 Z) 1 rt sl mk)) (Wd1 := (pW cI cZ ao af al az g F (kCut (nz Z) 16 L) (kCut (nz Z) 16 Z) 1 rt sl mk)) (o := some (.int (kCnt (nz Z) 16))) ⟨hx, hb, hml, hown, hts⟩ (c_X0_removeStale l D cI cZ cP ao af al az g F L Z 1 rt sl mk) (cwV 0 hts gX0_loseRouter_X0_removeStale rfl rfl rfl (by decide +kernel) ⟨Nat.le_of_ble_eq_true rfl, Nat.le_of_ble_eq_true rfl⟩) hK hN hP hD hS (fun j => j) (fun _ _ h => h) (fun _ _ _ _ h => h) rfl (fun k q h => Or.inl ⟨k, h⟩) 0 0 rfl rfl rfl rfl hl.1 rfl (Nat.le_of_ble_eq_true rfl) ⟨Nat.zero_le _, Nat.zero_le _⟩ dX0_loseRouter_19 (fun H locs hP hD hS => ?_)
    refine lv_pop hx hb dX0_loseRouter_22 rfl ?_
    refine lv_iconst (v := 0) hx hb dX0_loseRouter_23 (by decide) ?_
    refine lv_istore_n (lv' := [(2, .int 0), (0, .ref ao), (1, .int x)]) hx hb dX0_loseRouter_24 rfl hl (by decide) rfl (fun ls hl => ?_)
    have lp25 : ∀ (n9 i : Nat), i + n9 = 16 → ∀ (H : Heap) (locs : List Loc) (ls : Array Slot), va_P D vwCl (pW cI cZ ao af al az g F (kCut (nz Z) 16 L) (kMrk 0 (kCut (nz Z) 16 L) i (kCut (nz Z) 16 Z)) 1 rt sl mk) H → va_D A (pW cI cZ ao af al az g F (kCut (nz Z) 16 L) (kMrk 0 (kCut (nz Z) 16 L) i (kCut (nz Z) 16 Z)) 1 rt sl mk) → va_S A s.heap H locs → lv_has ls 3 [(0, .ref ao), (1, .int x), (2, .int (nI i))] → W p l e (headSpec wsX0_loseRouter ({ frames := 2, cells := 0, slots := 0, locals := 42 })).room s m ([.ref ao, .int x] : List Value).toArray below meth c H locs 0 0 (MQ below (kPost D (pW cI cZ ao af al az g F L Z st rt sl mk) (if g = 0 then (pW cI cZ ao af al az g F (kCut tt9 16 L) (kCut tt9 16 Z) 2 0 0 mk) else (pW cI cZ ao af al az g F (kCut (nz Z) 16 L) (kMrk 0 (kCut (nz Z) 16 L) 16 (kCut (nz Z) 16 Z)) 1 x 0 mk)) (none)) ([.ref ao, .int x] : List Value).toArray s 0 0 (kA (pW cI cZ ao af al az g F L Z st rt sl mk))) (F0 m 25 ls []) := by
      intro n9
      induction n9 with
      | zero =>
        intro i hi9 H locs ls hP hD hS hl
        have hi8 : i = 16 := by omega
        subst hi8
        refine lv_iload_n hx hb dX0_loseRouter_25 rfl (lv_at hl 2 rfl) ?_
        refine lv_bipush (v := 16) hx hb dX0_loseRouter_26 (by decide) ?_
        refine lv_icmp_ge (tgt := 57) hx hb dX0_loseRouter_28 (by decide) (fun _ => ?_) (fun c_ => absurd (by decide) c_)
        refine lv_aload_n hx hb dX0_loseRouter_57 rfl (lv_at hl 0 rfl) ?_
        refine lv_iconst (v := 0) hx hb dX0_loseRouter_58 (by decide) ?_
        refine k_put (D := D) (ci := 0) (v := .int 0) (ty := .int) (C := RX0) (T := TX0) (N := 8) hx hb hts hi0 tyX0 tyX0_ok nmX0 hown hK hP hD hS 0 rfl rfl 6 (by decide) (hts (.fieldLink RX0 33 "GracefulRestart$Peer" "staleLeft" "I") (List.mem_of_getElem? (i := 5) rfl)) (fun _ h9 => h9) rfl (by decide +kernel) rfl rfl (Nat.le_of_ble_eq_true rfl) (W1 := (pW cI cZ ao af al az g F (kCut (nz Z) 16 L) (kMrk 0 (kCut (nz Z) 16 L) 16 (kCut (nz Z) 16 Z)) 1 rt 0 mk)) rfl dX0_loseRouter_59 (fun H locs hP hD hS => ?_)
        refine lv_aload_n hx hb dX0_loseRouter_62 rfl (lv_at hl 0 rfl) ?_
        refine lv_iload_n hx hb dX0_loseRouter_63 rfl (lv_at hl 1 rfl) ?_
        refine k_put (D := D) (ci := 0) (v := .int x) (ty := .int) (C := RX0) (T := TX0) (N := 8) hx hb hts hi0 tyX0 tyX0_ok nmX0 hown hK hP hD hS 0 rfl rfl 5 (by decide) (hts (.fieldLink RX0 30 "GracefulRestart$Peer" "restartLeft" "I") (List.mem_of_getElem? (i := 6) rfl)) (fun _ h9 => h9) rfl (by decide +kernel) rfl rfl (Nat.le_of_ble_eq_true rfl) (W1 := (pW cI cZ ao af al az g F (kCut (nz Z) 16 L) (kMrk 0 (kCut (nz Z) 16 L) 16 (kCut (nz Z) 16 Z)) 1 x 0 mk)) rfl dX0_loseRouter_64 (fun H locs hP hD hS => ?_)
        exact k_vret hx hb hr hlk hP hS hAe (by simp [c_4]) dX0_loseRouter_67
      | succ n9 ih =>
        intro i hi9 H locs ls hP hD hS hl
        have hlt : i < 16 := by omega
        refine lv_iload_n hx hb dX0_loseRouter_25 rfl (lv_at hl 2 rfl) ?_
        refine lv_bipush (v := 16) hx hb dX0_loseRouter_26 (by decide) ?_
        refine lv_icmp_ge (tgt := 57) hx hb dX0_loseRouter_28 (by decide) (fun c_ => absurd c_ (nI_ge (a := i) (b := 16) hlt (by decide))) (fun _ => ?_)
        refine lv_aload_n hx hb dX0_loseRouter_31 rfl (lv_at hl 0 rfl) ?_
        refine va_get (D := D) (ci := 0) (v := .ref az) (C := RX0) (T := TX0) (N := 8) hx hb hts hi0 hown hK hP 0 rfl rfl 3 (by decide) (hts (.fieldLink RX0 22 "GracefulRestart$Peer" "staleLearned" "[Z") (List.mem_of_getElem? (i := 3) rfl)) (fun _ h9 => h9) rfl dX0_loseRouter_32 ?_
        refine lv_iload_n hx hb dX0_loseRouter_35 rfl (lv_at hl 2 rfl) ?_
        refine lv_aload_n hx hb dX0_loseRouter_36 rfl (lv_at hl 0 rfl) ?_
        refine va_get (D := D) (ci := 0) (v := .ref al) (C := RX0) (T := TX0) (N := 8) hx hb hts hi0 hown hK hP 0 rfl rfl 2 (by decide) (hts (.fieldLink RX0 19 "GracefulRestart$Peer" "learned" "[I") (List.mem_of_getElem? (i := 4) rfl)) (fun _ h9 => h9) rfl dX0_loseRouter_37 ?_
        refine lv_iload_n hx hb dX0_loseRouter_40 rfl (lv_at hl 2 rfl) ?_
        refine k_iald (k := i) hx hb hK hP 2 0 rfl rfl rfl (by omega) (by decide) dX0_loseRouter_41 ?_
        refine lv_if_eq (tgt := 49) hx hb dX0_loseRouter_42 (by decide) (fun c_42 => ?_) (fun c_42 => ?_)
        · refine lv_iconst (v := 0) hx hb dX0_loseRouter_49 (by decide) ?_
          refine k_zast (k := i) hx hb hK hP hD hS 3 1 rfl rfl rfl (by omega) (by decide) (by decide) (W1 := (pW cI cZ ao af al az g F (kCut (nz Z) 16 L) (upd (kMrk 0 (kCut (nz Z) 16 L) i (kCut (nz Z) 16 Z)) i 0) 1 rt sl mk)) rfl dX0_loseRouter_50 (fun H locs hP hD hS => ?_)
          refine lv_iinc (v := nI (i + 1)) (lv' := [(2, .int (nI (i + 1))), (0, .ref ao), (1, .int x)]) hx hb dX0_loseRouter_51 hl (k := 2) rfl (nI_1 i) (by decide) rfl (fun ls hl => ?_)
          refine lv_goto (tgt := 25) hx hb dX0_loseRouter_54 (by decide) ?_
          rw [kMrk_s 0 (kCut (nz Z) 16 L) i (kCut (nz Z) 16 Z) (by simp [c_42])] at hP hD
          exact ih (i + 1) (by omega) _ _ ls hP hD hS (lv_sub hl [1, 2, 0] rfl)
        · refine lv_iconst (v := 1) hx hb dX0_loseRouter_45 (by decide) ?_
          refine lv_goto (tgt := 50) hx hb dX0_loseRouter_46 (by decide) ?_
          refine k_zast (k := i) hx hb hK hP hD hS 3 1 rfl rfl rfl (by omega) (by decide) (by decide) (W1 := (pW cI cZ ao af al az g F (kCut (nz Z) 16 L) (upd (kMrk 0 (kCut (nz Z) 16 L) i (kCut (nz Z) 16 Z)) i 1) 1 rt sl mk)) rfl dX0_loseRouter_50 (fun H locs hP hD hS => ?_)
          refine lv_iinc (v := nI (i + 1)) (lv' := [(2, .int (nI (i + 1))), (0, .ref ao), (1, .int x)]) hx hb dX0_loseRouter_51 hl (k := 2) rfl (nI_1 i) (by decide) rfl (fun ls hl => ?_)
          refine lv_goto (tgt := 25) hx hb dX0_loseRouter_54 (by decide) ?_
          rw [kMrk_s 0 (kCut (nz Z) 16 L) i (kCut (nz Z) 16 Z) (by simp [c_42])] at hP hD
          exact ih (i + 1) (by omega) _ _ ls hP hD hS (lv_sub hl [1, 2, 0] rfl)
    rw [← kMrk_0 0 (kCut (nz Z) 16 L) (kCut (nz Z) 16 Z)] at hP hD
    exact lp25 16 0 (by omega) _ _ ls hP hD hS (lv_sub hl [1, 2, 0] rfl)
  · refine lv_aload_n hx hb dX0_loseRouter_7 rfl (lv_at hl 0 rfl) ?_
    refine kV (As := []) (rest := []) (Wc := (pW cI cZ ao af al az g F L Z st rt sl mk)) (Wc1 := (pW cI cZ ao af al az g F (kCut tt9 16 L) (kCut tt9 16 Z) 2 0 0 mk)) (Wd1 := (pW cI cZ ao af al az g F (kCut tt9 16 L) (kCut tt9 16 Z) 2 0 0 mk)) (o := some (.int (kCnt (nz L) 16))) ⟨hx, hb, hml, hown, hts⟩ (c_X0_goDown l D cI cZ cP ao af al az g F L Z st rt sl mk) (cwV 0 hts gX0_loseRouter_X0_goDown rfl rfl rfl (by decide +kernel) ⟨Nat.le_of_ble_eq_true rfl, Nat.le_of_ble_eq_true rfl⟩) hK hN hP hD hS (fun j => j) (fun _ _ h => h) (fun _ _ _ _ h => h) rfl (fun k q h => Or.inl ⟨k, h⟩) 0 0 rfl rfl rfl rfl hl.1 rfl (Nat.le_of_ble_eq_true rfl) ⟨Nat.zero_le _, Nat.zero_le _⟩ dX0_loseRouter_8 (fun H locs hP hD hS => ?_)
    refine lv_pop hx hb dX0_loseRouter_11 rfl ?_
    exact k_vret hx hb hr hlk hP hS hAe (by simp [c_4]) dX0_loseRouter_12

set_option maxRecDepth 100000 in
set_option maxHeartbeats 4000000 in
theorem c_X0_meetRouter (l : Launch) (D : va_G) (cI cZ cP : ClassId) (ao af al az : Nat) (g : Int32) (F L Z : FR) (st rt sl mk : Int32) (x : Int32) : MM l yX0_meetRouter wsX0_meetRouter ({ frames := 0, cells := 0, slots := 0, locals := 0 }) D (kTy cI cZ cP) [.ref ao, .int x] (pW cI cZ ao af al az g F L Z st rt sl mk) (none) (if st = 1 then (pW cI cZ ao af al az g F L Z 0 0 x mk) else (pW cI cZ ao af al az g F L Z 0 rt sl mk)) := by
  refine MM.ofW (cc := cX0_meetRouter) (maxL := 2) (ret := none) (by decide) rfl (Nat.le_of_ble_eq_true rfl) ?_
  intro p e s m below meth c ls A hx hb hr hlk hml hts hown hK hN hP hD hS hAe hl
  have hown : s.vm.findClass RX0 = some m.cls := hown
  have hi0 : ∀ w ∈ wsX00, w ∈ wsX0_meetRouter := fun w h => List.mem_cons_of_mem _ (List.mem_append_right _ h)
  have hl : lv_has ls 2 [(0, .ref ao), (1, .int x)] := hl
  refine lv_aload_n hx hb dX0_meetRouter_0 rfl (lv_at hl 0 rfl) ?_
  refine va_get (D := D) (ci := 0) (v := .int st) (C := RX0) (T := TX0) (N := 8) hx hb hts hi0 hown hK hP 0 rfl rfl 4 (by decide) (hts (.fieldLink RX0 26 "GracefulRestart$Peer" "state" "I") (List.mem_of_getElem? (i := 1) rfl)) (fun _ h9 => h9) rfl dX0_meetRouter_1 ?_
  refine lv_iconst (v := 1) hx hb dX0_meetRouter_4 (by decide) ?_
  refine lv_icmp_ne (tgt := 18) hx hb dX0_meetRouter_5 (by decide) (fun c_5 => ?_) (fun c_5 => ?_)
  · refine lv_aload_n hx hb dX0_meetRouter_18 rfl (lv_at hl 0 rfl) ?_
    refine lv_iconst (v := 0) hx hb dX0_meetRouter_19 (by decide) ?_
    refine k_put (D := D) (ci := 0) (v := .int 0) (ty := .int) (C := RX0) (T := TX0) (N := 8) hx hb hts hi0 tyX0 tyX0_ok nmX0 hown hK hP hD hS 0 rfl rfl 4 (by decide) (hts (.fieldLink RX0 26 "GracefulRestart$Peer" "state" "I") (List.mem_of_getElem? (i := 1) rfl)) (fun _ h9 => h9) rfl (by decide +kernel) rfl rfl (Nat.le_of_ble_eq_true rfl) (W1 := (pW cI cZ ao af al az g F L Z 0 rt sl mk)) rfl dX0_meetRouter_20 (fun H locs hP hD hS => ?_)
    exact k_vret hx hb hr hlk hP hS hAe (by simp [c_5]) dX0_meetRouter_23
  · refine lv_aload_n hx hb dX0_meetRouter_8 rfl (lv_at hl 0 rfl) ?_
    refine lv_iconst (v := 0) hx hb dX0_meetRouter_9 (by decide) ?_
    refine k_put (D := D) (ci := 0) (v := .int 0) (ty := .int) (C := RX0) (T := TX0) (N := 8) hx hb hts hi0 tyX0 tyX0_ok nmX0 hown hK hP hD hS 0 rfl rfl 5 (by decide) (hts (.fieldLink RX0 30 "GracefulRestart$Peer" "restartLeft" "I") (List.mem_of_getElem? (i := 2) rfl)) (fun _ h9 => h9) rfl (by decide +kernel) rfl rfl (Nat.le_of_ble_eq_true rfl) (W1 := (pW cI cZ ao af al az g F L Z st 0 sl mk)) rfl dX0_meetRouter_10 (fun H locs hP hD hS => ?_)
    refine lv_aload_n hx hb dX0_meetRouter_13 rfl (lv_at hl 0 rfl) ?_
    refine lv_iload_n hx hb dX0_meetRouter_14 rfl (lv_at hl 1 rfl) ?_
    refine k_put (D := D) (ci := 0) (v := .int x) (ty := .int) (C := RX0) (T := TX0) (N := 8) hx hb hts hi0 tyX0 tyX0_ok nmX0 hown hK hP hD hS 0 rfl rfl 6 (by decide) (hts (.fieldLink RX0 33 "GracefulRestart$Peer" "staleLeft" "I") (List.mem_of_getElem? (i := 3) rfl)) (fun _ h9 => h9) rfl (by decide +kernel) rfl rfl (Nat.le_of_ble_eq_true rfl) (W1 := (pW cI cZ ao af al az g F L Z st 0 x mk)) rfl dX0_meetRouter_15 (fun H locs hP hD hS => ?_)
    refine lv_aload_n hx hb dX0_meetRouter_18 rfl (lv_at hl 0 rfl) ?_
    refine lv_iconst (v := 0) hx hb dX0_meetRouter_19 (by decide) ?_
    refine k_put (D := D) (ci := 0) (v := .int 0) (ty := .int) (C := RX0) (T := TX0) (N := 8) hx hb hts hi0 tyX0 tyX0_ok nmX0 hown hK hP hD hS 0 rfl rfl 4 (by decide) (hts (.fieldLink RX0 26 "GracefulRestart$Peer" "state" "I") (List.mem_of_getElem? (i := 1) rfl)) (fun _ h9 => h9) rfl (by decide +kernel) rfl rfl (Nat.le_of_ble_eq_true rfl) (W1 := (pW cI cZ ao af al az g F L Z 0 0 x mk)) rfl dX0_meetRouter_20 (fun H locs hP hD hS => ?_)
    exact k_vret hx hb hr hlk hP hS hAe (by simp [c_5]) dX0_meetRouter_23

set_option maxRecDepth 100000 in
set_option maxHeartbeats 4000000 in
theorem c_X0_endResync (l : Launch) (D : va_G) (cI cZ cP : ClassId) (ao af al az : Nat) (g : Int32) (F L Z : FR) (st rt sl mk : Int32) : MM l yX0_endResync wsX0_endResync ({ frames := 1, cells := 0, slots := 0, locals := 22 }) D (kTy cI cZ cP) [.ref ao] (pW cI cZ ao af al az g F L Z st rt sl mk) (none) (pW cI cZ ao af al az g F (kCut (nz Z) 16 L) (kCut (nz Z) 16 Z) st rt 0 mk) := by
  refine MM.ofW (cc := cX0_endResync) (maxL := 1) (ret := none) (by decide) rfl (Nat.le_of_ble_eq_true rfl) ?_
  intro p e s m below meth c ls A hx hb hr hlk hml hts hown hK hN hP hD hS hAe hl
  have hown : s.vm.findClass RX0 = some m.cls := hown
  have hi0 : ∀ w ∈ wsX00, w ∈ wsX0_endResync := fun w h => List.mem_cons_of_mem _ (List.mem_append_right _ h)
  have hl : lv_has ls 1 [(0, .ref ao)] := hl
  refine lv_aload_n hx hb dX0_endResync_0 rfl (lv_at hl 0 rfl) ?_
  refine kV (As := []) (rest := []) (Wc := (pW cI cZ ao af al az g F L Z st rt sl mk)) (Wc1 := (pW cI cZ ao af al az g F (kCut (nz Z) 16 L) (kCut (nz Z) 16 Z) st rt sl mk)) (Wd1 := (pW cI cZ ao af al az g F (kCut (nz Z) 16 L) (kCut (nz Z) 16 Z) st rt sl mk)) (o := some (.int (kCnt (nz Z) 16))) ⟨hx, hb, hml, hown, hts⟩ (c_X0_removeStale l D cI cZ cP ao af al az g F L Z st rt sl mk) (cwV 0 hts gX0_endResync_X0_removeStale rfl rfl rfl (by decide +kernel) ⟨Nat.le_of_ble_eq_true rfl, Nat.le_of_ble_eq_true rfl⟩) hK hN hP hD hS (fun j => j) (fun _ _ h => h) (fun _ _ _ _ h => h) rfl (fun k q h => Or.inl ⟨k, h⟩) 0 0 rfl rfl rfl rfl hl.1 rfl (Nat.le_of_ble_eq_true rfl) ⟨Nat.zero_le _, Nat.zero_le _⟩ dX0_endResync_1 (fun H locs hP hD hS => ?_)
  refine lv_pop hx hb dX0_endResync_4 rfl ?_
  refine lv_aload_n hx hb dX0_endResync_5 rfl (lv_at hl 0 rfl) ?_
  refine lv_iconst (v := 0) hx hb dX0_endResync_6 (by decide) ?_
  refine k_put (D := D) (ci := 0) (v := .int 0) (ty := .int) (C := RX0) (T := TX0) (N := 8) hx hb hts hi0 tyX0 tyX0_ok nmX0 hown hK hP hD hS 0 rfl rfl 6 (by decide) (hts (.fieldLink RX0 33 "GracefulRestart$Peer" "staleLeft" "I") (List.mem_of_getElem? (i := 1) rfl)) (fun _ h9 => h9) rfl (by decide +kernel) rfl rfl (Nat.le_of_ble_eq_true rfl) (W1 := (pW cI cZ ao af al az g F (kCut (nz Z) 16 L) (kCut (nz Z) 16 Z) st rt 0 mk)) rfl dX0_endResync_7 (fun H locs hP hD hS => ?_)
  exact k_vret hx hb hr hlk hP hS hAe rfl dX0_endResync_10

set_option maxRecDepth 100000 in
set_option maxHeartbeats 4000000 in
theorem c_X0_countDown (l : Launch) (D : va_G) (cI cZ cP : ClassId) (ao af al az : Nat) (g : Int32) (F L Z : FR) (st rt sl mk : Int32) : MM l yX0_countDown wsX0_countDown ({ frames := 2, cells := 0, slots := 0, locals := 42 }) D (kTy cI cZ cP) [.ref ao] (pW cI cZ ao af al az g F L Z st rt sl mk) (some (.int (if 0 < rt then (if rt - 1 = 0 then (0 + kCnt (nz L) 16) else (if 0 < sl then (if sl - 1 = 0 then 0 + kCnt (nz Z) 16 else 0) else 0)) else (if 0 < sl then (if sl - 1 = 0 then 0 + kCnt (nz Z) 16 else 0) else 0)))) (if 0 < rt then (if rt - 1 = 0 then (pW cI cZ ao af al az g F (kCut tt9 16 L) (kCut tt9 16 Z) 2 0 0 mk) else (if 0 < sl then (if sl - 1 = 0 then (pW cI cZ ao af al az g F (kCut (nz Z) 16 L) (kCut (nz Z) 16 Z) st (rt - 1) (sl - 1) mk) else (pW cI cZ ao af al az g F L Z st (rt - 1) (sl - 1) mk)) else (pW cI cZ ao af al az g F L Z st (rt - 1) sl mk))) else (if 0 < sl then (if sl - 1 = 0 then (pW cI cZ ao af al az g F (kCut (nz Z) 16 L) (kCut (nz Z) 16 Z) st rt (sl - 1) mk) else (pW cI cZ ao af al az g F L Z st rt (sl - 1) mk)) else (pW cI cZ ao af al az g F L Z st rt sl mk))) := by
  refine MM.ofW (cc := cX0_countDown) (maxL := 2) (ret := (some .int)) (by decide) rfl (Nat.le_of_ble_eq_true rfl) ?_
  intro p e s m below meth c ls A hx hb hr hlk hml hts hown hK hN hP hD hS hAe hl
  have hown : s.vm.findClass RX0 = some m.cls := hown
  have hi0 : ∀ w ∈ wsX00, w ∈ wsX0_countDown := fun w h => List.mem_cons_of_mem _ (List.mem_append_right _ h)
  have hl : lv_has ls 2 [(0, .ref ao)] := hl
  refine lv_iconst (v := 0) hx hb dX0_countDown_0 (by decide) ?_
  refine lv_istore_n (lv' := [(1, .int 0), (0, .ref ao)]) hx hb dX0_countDown_1 rfl hl (by decide) rfl (fun ls hl => ?_)
  refine lv_aload_n hx hb dX0_countDown_2 rfl (lv_at hl 1 rfl) ?_
  refine va_get (D := D) (ci := 0) (v := .int rt) (C := RX0) (T := TX0) (N := 8) hx hb hts hi0 hown hK hP 0 rfl rfl 5 (by decide) (hts (.fieldLink RX0 30 "GracefulRestart$Peer" "restartLeft" "I") (List.mem_of_getElem? (i := 1) rfl)) (fun _ h9 => h9) rfl dX0_countDown_3 ?_
  refine lv_if_le (tgt := 33) hx hb dX0_countDown_6 (by decide) (fun c_6 => ?_) (fun c_6 => ?_)
  · have hc_6 := Int32.not_lt.mpr c_6
    refine lv_aload_n hx hb dX0_countDown_33 rfl (lv_at hl 1 rfl) ?_
    refine va_get (D := D) (ci := 0) (v := .int sl) (C := RX0) (T := TX0) (N := 8) hx hb hts hi0 hown hK hP 0 rfl rfl 6 (by decide) (hts (.fieldLink RX0 33 "GracefulRestart$Peer" "staleLeft" "I") (List.mem_of_getElem? (i := 2) rfl)) (fun _ h9 => h9) rfl dX0_countDown_34 ?_
    refine lv_if_le (tgt := 64) hx hb dX0_countDown_37 (by decide) (fun c_37 => ?_) (fun c_37 => ?_)
    · have hc_37 := Int32.not_lt.mpr c_37
      refine lv_iload_n hx hb dX0_countDown_64 rfl (lv_at hl 0 rfl) ?_
      exact k_iret hx hb hr hlk hP hS hAe (by simp [hc_6, hc_37]) (by simp [hc_6, hc_37]) dX0_countDown_65
    · have hc_37 := Int32.not_le.mp c_37
      refine lv_aload_n hx hb dX0_countDown_40 rfl (lv_at hl 1 rfl) ?_
      refine lv_dup hx hb dX0_countDown_41 rfl ?_
      refine va_get (D := D) (ci := 0) (v := .int sl) (C := RX0) (T := TX0) (N := 8) hx hb hts hi0 hown hK hP 0 rfl rfl 6 (by decide) (hts (.fieldLink RX0 33 "GracefulRestart$Peer" "staleLeft" "I") (List.mem_of_getElem? (i := 2) rfl)) (fun _ h9 => h9) rfl dX0_countDown_42 ?_
      refine lv_iconst (v := 1) hx hb dX0_countDown_45 (by decide) ?_
      refine lv_isub hx hb dX0_countDown_46 ?_
      refine k_put (D := D) (ci := 0) (v := .int (sl - 1)) (ty := .int) (C := RX0) (T := TX0) (N := 8) hx hb hts hi0 tyX0 tyX0_ok nmX0 hown hK hP hD hS 0 rfl rfl 6 (by decide) (hts (.fieldLink RX0 33 "GracefulRestart$Peer" "staleLeft" "I") (List.mem_of_getElem? (i := 2) rfl)) (fun _ h9 => h9) rfl (by decide +kernel) rfl rfl (Nat.le_of_ble_eq_true rfl) (W1 := (pW cI cZ ao af al az g F L Z st rt (sl - 1) mk)) rfl dX0_countDown_47 (fun H locs hP hD hS => ?_)
      refine lv_aload_n hx hb dX0_countDown_50 rfl (lv_at hl 1 rfl) ?_
      refine va_get (D := D) (ci := 0) (v := .int (sl - 1)) (C := RX0) (T := TX0) (N := 8) hx hb hts hi0 hown hK hP 0 rfl rfl 6 (by decide) (hts (.fieldLink RX0 33 "GracefulRestart$Peer" "staleLeft" "I") (List.mem_of_getElem? (i := 2) rfl)) (fun _ h9 => h9) rfl dX0_countDown_51 ?_
      refine lv_if_ne (tgt := 64) hx hb dX0_countDown_54 (by decide) (fun c_54 => ?_) (fun c_54 => ?_)
      · refine lv_iload_n hx hb dX0_countDown_64 rfl (lv_at hl 0 rfl) ?_
        exact k_iret hx hb hr hlk hP hS hAe (by simp [hc_6, hc_37, c_54]) (by simp [hc_6, hc_37, c_54]) dX0_countDown_65
      · refine lv_iload_n hx hb dX0_countDown_57 rfl (lv_at hl 0 rfl) ?_
        refine lv_aload_n hx hb dX0_countDown_58 rfl (lv_at hl 1 rfl) ?_
        refine kV (As := []) (rest := [.int 0]) (Wc := (pW cI cZ ao af al az g F L Z st rt (sl - 1) mk)) (Wc1 := (pW cI cZ ao af al az g F (kCut (nz Z) 16 L) (kCut (nz Z) 16 Z) st rt (sl - 1) mk)) (Wd1 := (pW cI cZ ao af al az g F (kCut (nz Z) 16 L) (kCut (nz Z) 16 Z) st rt (sl - 1) mk)) (o := some (.int (kCnt (nz Z) 16))) ⟨hx, hb, hml, hown, hts⟩ (c_X0_removeStale l D cI cZ cP ao af al az g F L Z st rt (sl - 1) mk) (cwV 0 hts gX0_countDown_X0_removeStale rfl rfl rfl (by decide +kernel) ⟨Nat.le_of_ble_eq_true rfl, Nat.le_of_ble_eq_true rfl⟩) hK hN hP hD hS (fun j => j) (fun _ _ h => h) (fun _ _ _ _ h => h) rfl (fun k q h => Or.inl ⟨k, h⟩) 0 0 rfl rfl rfl rfl hl.1 rfl (Nat.le_of_ble_eq_true rfl) ⟨Nat.zero_le _, Nat.zero_le _⟩ dX0_countDown_59 (fun H locs hP hD hS => ?_)
        refine lv_iadd hx hb dX0_countDown_62 ?_
        refine lv_istore_n (lv' := [(1, .int (0 + (kCnt (nz Z) 16))), (0, .ref ao)]) hx hb dX0_countDown_63 rfl hl (by decide) rfl (fun ls hl => ?_)
        refine lv_iload_n hx hb dX0_countDown_64 rfl (lv_at hl 0 rfl) ?_
        exact k_iret hx hb hr hlk hP hS hAe (by simp [hc_6, hc_37, c_54]) (by simp [hc_6, hc_37, c_54]) dX0_countDown_65
  · have hc_6 := Int32.not_le.mp c_6
    refine lv_aload_n hx hb dX0_countDown_9 rfl (lv_at hl 1 rfl) ?_
    refine lv_dup hx hb dX0_countDown_10 rfl ?_
    refine va_get (D := D) (ci := 0) (v := .int rt) (C := RX0) (T := TX0) (N := 8) hx hb hts hi0 hown hK hP 0 rfl rfl 5 (by decide) (hts (.fieldLink RX0 30 "GracefulRestart$Peer" "restartLeft" "I") (List.mem_of_getElem? (i := 1) rfl)) (fun _ h9 => h9) rfl dX0_countDown_11 ?_
    refine lv_iconst (v := 1) hx hb dX0_countDown_14 (by decide) ?_
    refine lv_isub hx hb dX0_countDown_15 ?_
    refine k_put (D := D) (ci := 0) (v := .int (rt - 1)) (ty := .int) (C := RX0) (T := TX0) (N := 8) hx hb hts hi0 tyX0 tyX0_ok nmX0 hown hK hP hD hS 0 rfl rfl 5 (by decide) (hts (.fieldLink RX0 30 "GracefulRestart$Peer" "restartLeft" "I") (List.mem_of_getElem? (i := 1) rfl)) (fun _ h9 => h9) rfl (by decide +kernel) rfl rfl (Nat.le_of_ble_eq_true rfl) (W1 := (pW cI cZ ao af al az g F L Z st (rt - 1) sl mk)) rfl dX0_countDown_16 (fun H locs hP hD hS => ?_)
    refine lv_aload_n hx hb dX0_countDown_19 rfl (lv_at hl 1 rfl) ?_
    refine va_get (D := D) (ci := 0) (v := .int (rt - 1)) (C := RX0) (T := TX0) (N := 8) hx hb hts hi0 hown hK hP 0 rfl rfl 5 (by decide) (hts (.fieldLink RX0 30 "GracefulRestart$Peer" "restartLeft" "I") (List.mem_of_getElem? (i := 1) rfl)) (fun _ h9 => h9) rfl dX0_countDown_20 ?_
    refine lv_if_ne (tgt := 33) hx hb dX0_countDown_23 (by decide) (fun c_23 => ?_) (fun c_23 => ?_)
    · refine lv_aload_n hx hb dX0_countDown_33 rfl (lv_at hl 1 rfl) ?_
      refine va_get (D := D) (ci := 0) (v := .int sl) (C := RX0) (T := TX0) (N := 8) hx hb hts hi0 hown hK hP 0 rfl rfl 6 (by decide) (hts (.fieldLink RX0 33 "GracefulRestart$Peer" "staleLeft" "I") (List.mem_of_getElem? (i := 2) rfl)) (fun _ h9 => h9) rfl dX0_countDown_34 ?_
      refine lv_if_le (tgt := 64) hx hb dX0_countDown_37 (by decide) (fun c_37 => ?_) (fun c_37 => ?_)
      · have hc_37 := Int32.not_lt.mpr c_37
        refine lv_iload_n hx hb dX0_countDown_64 rfl (lv_at hl 0 rfl) ?_
        exact k_iret hx hb hr hlk hP hS hAe (by simp [hc_6, c_23, hc_37]) (by simp [hc_6, c_23, hc_37]) dX0_countDown_65
      · have hc_37 := Int32.not_le.mp c_37
        refine lv_aload_n hx hb dX0_countDown_40 rfl (lv_at hl 1 rfl) ?_
        refine lv_dup hx hb dX0_countDown_41 rfl ?_
        refine va_get (D := D) (ci := 0) (v := .int sl) (C := RX0) (T := TX0) (N := 8) hx hb hts hi0 hown hK hP 0 rfl rfl 6 (by decide) (hts (.fieldLink RX0 33 "GracefulRestart$Peer" "staleLeft" "I") (List.mem_of_getElem? (i := 2) rfl)) (fun _ h9 => h9) rfl dX0_countDown_42 ?_
        refine lv_iconst (v := 1) hx hb dX0_countDown_45 (by decide) ?_
        refine lv_isub hx hb dX0_countDown_46 ?_
        refine k_put (D := D) (ci := 0) (v := .int (sl - 1)) (ty := .int) (C := RX0) (T := TX0) (N := 8) hx hb hts hi0 tyX0 tyX0_ok nmX0 hown hK hP hD hS 0 rfl rfl 6 (by decide) (hts (.fieldLink RX0 33 "GracefulRestart$Peer" "staleLeft" "I") (List.mem_of_getElem? (i := 2) rfl)) (fun _ h9 => h9) rfl (by decide +kernel) rfl rfl (Nat.le_of_ble_eq_true rfl) (W1 := (pW cI cZ ao af al az g F L Z st (rt - 1) (sl - 1) mk)) rfl dX0_countDown_47 (fun H locs hP hD hS => ?_)
        refine lv_aload_n hx hb dX0_countDown_50 rfl (lv_at hl 1 rfl) ?_
        refine va_get (D := D) (ci := 0) (v := .int (sl - 1)) (C := RX0) (T := TX0) (N := 8) hx hb hts hi0 hown hK hP 0 rfl rfl 6 (by decide) (hts (.fieldLink RX0 33 "GracefulRestart$Peer" "staleLeft" "I") (List.mem_of_getElem? (i := 2) rfl)) (fun _ h9 => h9) rfl dX0_countDown_51 ?_
        refine lv_if_ne (tgt := 64) hx hb dX0_countDown_54 (by decide) (fun c_54 => ?_) (fun c_54 => ?_)
        · refine lv_iload_n hx hb dX0_countDown_64 rfl (lv_at hl 0 rfl) ?_
          exact k_iret hx hb hr hlk hP hS hAe (by simp [hc_6, c_23, hc_37, c_54]) (by simp [hc_6, c_23, hc_37, c_54]) dX0_countDown_65
        · refine lv_iload_n hx hb dX0_countDown_57 rfl (lv_at hl 0 rfl) ?_
          refine lv_aload_n hx hb dX0_countDown_58 rfl (lv_at hl 1 rfl) ?_
          refine kV (As := []) (rest := [.int 0]) (Wc := (pW cI cZ ao af al az g F L Z st (rt - 1) (sl - 1) mk)) (Wc1 := (pW cI cZ ao af al az g F (kCut (nz Z) 16 L) (kCut (nz Z) 16 Z) st (rt - 1) (sl - 1) mk)) (Wd1 := (pW cI cZ ao af al az g F (kCut (nz Z) 16 L) (kCut (nz Z) 16 Z) st (rt - 1) (sl - 1) mk)) (o := some (.int (kCnt (nz Z) 16))) ⟨hx, hb, hml, hown, hts⟩ (c_X0_removeStale l D cI cZ cP ao af al az g F L Z st (rt - 1) (sl - 1) mk) (cwV 0 hts gX0_countDown_X0_removeStale rfl rfl rfl (by decide +kernel) ⟨Nat.le_of_ble_eq_true rfl, Nat.le_of_ble_eq_true rfl⟩) hK hN hP hD hS (fun j => j) (fun _ _ h => h) (fun _ _ _ _ h => h) rfl (fun k q h => Or.inl ⟨k, h⟩) 0 0 rfl rfl rfl rfl hl.1 rfl (Nat.le_of_ble_eq_true rfl) ⟨Nat.zero_le _, Nat.zero_le _⟩ dX0_countDown_59 (fun H locs hP hD hS => ?_)
          refine lv_iadd hx hb dX0_countDown_62 ?_
          refine lv_istore_n (lv' := [(1, .int (0 + (kCnt (nz Z) 16))), (0, .ref ao)]) hx hb dX0_countDown_63 rfl hl (by decide) rfl (fun ls hl => ?_)
          refine lv_iload_n hx hb dX0_countDown_64 rfl (lv_at hl 0 rfl) ?_
          exact k_iret hx hb hr hlk hP hS hAe (by simp [hc_6, c_23, hc_37, c_54]) (by simp [hc_6, c_23, hc_37, c_54]) dX0_countDown_65
    · refine lv_iload_n hx hb dX0_countDown_26 rfl (lv_at hl 0 rfl) ?_
      refine lv_aload_n hx hb dX0_countDown_27 rfl (lv_at hl 1 rfl) ?_
      refine kV (As := []) (rest := [.int 0]) (Wc := (pW cI cZ ao af al az g F L Z st (rt - 1) sl mk)) (Wc1 := (pW cI cZ ao af al az g F (kCut tt9 16 L) (kCut tt9 16 Z) 2 0 0 mk)) (Wd1 := (pW cI cZ ao af al az g F (kCut tt9 16 L) (kCut tt9 16 Z) 2 0 0 mk)) (o := some (.int (kCnt (nz L) 16))) ⟨hx, hb, hml, hown, hts⟩ (c_X0_goDown l D cI cZ cP ao af al az g F L Z st (rt - 1) sl mk) (cwV 0 hts gX0_countDown_X0_goDown rfl rfl rfl (by decide +kernel) ⟨Nat.le_of_ble_eq_true rfl, Nat.le_of_ble_eq_true rfl⟩) hK hN hP hD hS (fun j => j) (fun _ _ h => h) (fun _ _ _ _ h => h) rfl (fun k q h => Or.inl ⟨k, h⟩) 0 0 rfl rfl rfl rfl hl.1 rfl (Nat.le_of_ble_eq_true rfl) ⟨Nat.zero_le _, Nat.zero_le _⟩ dX0_countDown_28 (fun H locs hP hD hS => ?_)
      refine lv_iadd hx hb dX0_countDown_31 ?_
      refine lv_istore_n (lv' := [(1, .int (0 + (kCnt (nz L) 16))), (0, .ref ao)]) hx hb dX0_countDown_32 rfl hl (by decide) rfl (fun ls hl => ?_)
      refine lv_aload_n hx hb dX0_countDown_33 rfl (lv_at hl 1 rfl) ?_
      refine va_get (D := D) (ci := 0) (v := .int 0) (C := RX0) (T := TX0) (N := 8) hx hb hts hi0 hown hK hP 0 rfl rfl 6 (by decide) (hts (.fieldLink RX0 33 "GracefulRestart$Peer" "staleLeft" "I") (List.mem_of_getElem? (i := 2) rfl)) (fun _ h9 => h9) rfl dX0_countDown_34 ?_
      refine lv_if_le (tgt := 64) hx hb dX0_countDown_37 (by decide) (fun _ => ?_) (fun c_ => absurd (by decide) c_)
      refine lv_iload_n hx hb dX0_countDown_64 rfl (lv_at hl 0 rfl) ?_
      exact k_iret hx hb hr hlk hP hS hAe (by simp [hc_6, c_23]) (by simp [hc_6, c_23]) dX0_countDown_65
