/-! steps of the calls -/
theorem o_Hm0_T1 (S : ST) (p : Nat) : g_T1 (o_Hm0 S p) = g_T1 S := rfl
theorem o_Hm0_T2 (S : ST) (p : Nat) : g_T2 (o_Hm0 S p) = g_T2 S := rfl
theorem o_Hm0_T3 (S : ST) (p : Nat) : g_T3 (o_Hm0 S p) = g_T3 S := rfl
theorem o_Hm0_N (S : ST) (p : Nat) : g_N (o_Hm0 S p) = g_N S := rfl
theorem o_Hm0_Gr (S : ST) (p : Nat) : g_Gr (o_Hm0 S p) = g_Gr S := rfl
theorem o_Hm0_St (S : ST) (p : Nat) : g_St (o_Hm0 S p) = g_St S := rfl
theorem o_Hm0_Rt (S : ST) (p : Nat) : g_Rt (o_Hm0 S p) = g_Rt S := rfl
theorem o_Hm0_Sl (S : ST) (p : Nat) : g_Sl (o_Hm0 S p) = g_Sl S := rfl
theorem o_Hm0_Of (S : ST) (p : Nat) : g_Of (o_Hm0 S p) = g_Of S := rfl
theorem o_Hm0_Le (S : ST) (p : Nat) : g_Le (o_Hm0 S p) = g_Le S := rfl
theorem o_Hm0_Ss (S : ST) (p : Nat) : g_Ss (o_Hm0 S p) = g_Ss S := rfl
theorem o_Hm0_Ho (S : ST) (p : Nat) : g_Ho (o_Hm0 S p) = g_Ho S := rfl
theorem o_Hm0_Hs (S : ST) (p : Nat) : g_Hs (o_Hm0 S p) = g_Hs S := rfl
theorem o_Hm0_Hz (S : ST) (p : Nat) : g_Hz (o_Hm0 S p) = g_Hz S := rfl
theorem o_Hm0_Df (S : ST) (p : Nat) : g_Df (o_Hm0 S p) = g_Df S := rfl
theorem o_Hm0_Dl (S : ST) (p : Nat) : g_Dl (o_Hm0 S p) = g_Dl S := rfl
theorem Hm0_e (S : ST) (p : Nat) : s_Hm S (va_up (g_Hm S) p (upd (upd (g_Hm S p) 0 0) 1 0)) = o_Hm0 S p := rfl
theorem lose_down {S : ST} {p : Nat} (h : g_Rt S p = 0) : o_RmL (s_St (s_Sl S (upd (g_Sl S) p 0)) (upd (g_St S) p 2)) p = o_Down S p := by
  rw [← Down_e, upd_idv h, show s_Rt (s_St S (upd (g_St S) p 2)) (g_Rt S) = s_St S (upd (g_St S) p 2) from sg_Rt (s_St S (upd (g_St S) p 2)), ss_St_Sl]
theorem RmS_Rt (S : ST) (p : Nat) (v : FR) : o_RmS (s_Rt S v) p = s_Rt (o_RmS S p) v := by simp only [o_RmS, s_Ss, s_Le, s_Rt, g_Le, g_Ss]
theorem RmS_Sl (S : ST) (p : Nat) (v : FR) : o_RmS (s_Sl S v) p = s_Sl (o_RmS S p) v := by simp only [o_RmS, s_Ss, s_Le, s_Sl, g_Le, g_Ss]
theorem Mark_Rt (S : ST) (p : Nat) (v : FR) : o_Mark (s_Rt S v) p = s_Rt (o_Mark S p) v := by simp only [o_Mark, s_Ss, s_Rt, g_Le, g_Ss]
theorem Mark_Sl (S : ST) (p : Nat) (v : FR) : o_Mark (s_Sl S v) p = s_Sl (o_Mark S p) v := by simp only [o_Mark, s_Ss, s_Sl, g_Le, g_Ss]
theorem Mark_e (S : ST) (p : Nat) : s_Ss S (va_up (g_Ss S) p (kMrk 0 (g_Le S p) 16 (g_Ss S p))) = o_Mark S p := rfl
theorem lose_help {S : ST} {p : Nat} (h : ¬ g_Gr S p = 0) : o_Mark (o_RmS (s_Rt (s_St (s_Sl S (upd (g_Sl S) p 0)) (upd (g_St S) p 1)) (upd (g_Rt S) p (g_T1 S))) p) p = o_Lose S p := by
  rw [o_Lose, if_neg h, ss_St_Sl, RmS_Rt, RmS_Sl, Mark_Rt, Mark_Sl]
theorem mrk_x {L : FR} {r : Nat} (h0 : 0 ≤ L r) {x : Int32} (h : (0 < L r ∧ x = 1) ∨ (L r ≤ 0 ∧ x = 0)) : x = if L r = 0 then 0 else 1 := by
  rcases h with ⟨a, b⟩ | ⟨a, b⟩
  · rw [if_neg (i32_pos a)]; exact b
  · rw [if_pos (i32_zero h0 (Int32.not_lt.mpr a))]; exact b
theorem Rs_f1 {S : ST} {i : Nat} (h : ¬ g_St (o_Rs S i).2 i = 0) : (o_Rs S i).1 = (o_Rs S (i + 1)).1 := by rw [Rs_f h]
theorem Rs_f2 {S : ST} {i : Nat} (h : ¬ g_St (o_Rs S i).2 i = 0) : o_Hm0 (o_Rs S i).2 i = (o_Rs S (i + 1)).2 := by rw [Rs_f h]
theorem Rs_t1 {S : ST} {i : Nat} (h : g_St (o_Rs S i).2 i = 0) : (o_Rs S i).1 + 1 = (o_Rs S (i + 1)).1 := by rw [Rs_t h]
theorem Rs_t2 {S : ST} {i : Nat} (h : g_St (o_Rs S i).2 i = 0) : o_Lose (o_Hm0 (o_Rs S i).2 i) i = (o_Rs S (i + 1)).2 := by rw [Rs_t h]
theorem Rs_0 (S : ST) : (o_Rs S 0).2 = S := rfl
theorem FT_0 {S : ST} {pv : Int32} (h : pv = 0) : s_Hz (s_Ho S (kSet (-6) 16 (g_Ho S))) (kMrk (-6) (kSet (-6) 16 (g_Ho S)) 16 (g_Hz S)) = o_FT S pv := by rw [o_FT, if_pos h]
theorem FT_1 {S : ST} {pv : Int32} (h : ¬ pv = 0) : s_Hz (s_Hs S (kSet 1 16 (g_Hs S))) (kMrk (-6) (g_Ho S) 16 (g_Hz S)) = o_FT S pv := by rw [o_FT, if_neg h]
theorem mW_FT1 (cI cZ : ClassId) (md : Nat → Nat) {S : ST} {pv : Int32} (h : ¬ pv = 0) : mW cI cZ md (s_Hz S (kMrk (-6) (g_Ho S) 16 (g_Hz S))) = mW cI cZ md (o_FT S pv) := by
  rw [← FT_1 h, ← ss_Hs_Hz, mW_Hs]
theorem Rst_2 (S : ST) (pv : Int32) : o_Chk (s_Dl (s_Df (o_FT (o_Rs S (g_N S)).2 pv) 1) (g_T3 S)) = (o_Rst S pv).2 := rfl
theorem Rst_1 (S : ST) (pv : Int32) : (o_Rs S (g_N S)).1 = (o_Rst S pv).1 := rfl
theorem Meet_1 {S : ST} {p : Nat} (h : g_St S p = 1) : s_St (s_Sl (s_Rt S (upd (g_Rt S) p 0)) (upd (g_Sl S) p (g_T2 S))) (upd (g_St S) p 0) = o_Meet S p := by rw [o_Meet, if_pos h]
theorem Meet_0 {S : ST} {p : Nat} (h : ¬ g_St S p = 1) : s_St S (upd (g_St S) p 0) = o_Meet S p := by rw [o_Meet, if_neg h]
theorem Rc1_t {S : ST} {p : Nat} (h : ¬ g_Df S = 0) : o_Meet S p = u_Rc1 S p := by rw [u_Rc1, if_neg h]
theorem Rc1_f {S : ST} {p : Nat} (h : g_Df S = 0) : o_ERes (o_SA (o_Meet S p) 16) p = u_Rc1 S p := by rw [u_Rc1, if_pos h]
theorem Ds1_t {S : ST} {p : Nat} (h : ¬ g_Df S = 0) : o_Down S p = u_Ds1 S p := by rw [u_Ds1, if_neg h]
theorem Ds1_f {S : ST} {p : Nat} (h : g_Df S = 0) : o_SA (o_Down S p) 16 = u_Ds1 S p := by rw [u_Ds1, if_pos h]
theorem inv_Rc1 {S : ST} (h : Inv S) {p : Nat} (hp : p < g_N S) : Inv (u_Rc1 S p) := by
  unfold u_Rc1
  split
  · exact inv_ERes (inv_SA (inv_Meet h hp) 16) (by rw [o_SA_N, o_Meet_N]; exact hp)
  · exact inv_Meet h hp
theorem inv_Ds1 {S : ST} (h : Inv S) {p : Nat} (hp : p < g_N S) : Inv (u_Ds1 S p) := by
  unfold u_Ds1
  split
  · exact inv_SA (inv_Down h hp) 16
  · exact inv_Down h hp
theorem Rc1_Of (S : ST) (p : Nat) : g_Of (u_Rc1 S p) = g_Of S := by
  unfold u_Rc1
  split
  · exact (o_ERes_Of _ p).trans ((o_SA_Of _ 16).trans (o_Meet_Of S p))
  · exact o_Meet_Of S p
theorem Mk_e (S : ST) (p t : Nat) : s_Hm S (va_up (g_Hm S) p (upd (g_Hm S p) t 1)) = u_Mk S p t := rfl
theorem CDa_0 {S : ST} {p : Nat} (h : ¬ 0 < g_Rt S p) : o_CDa S p = (0, S) := by rw [o_CDa, if_neg h]
theorem CDa_1 {S : ST} {p : Nat} (h : 0 < g_Rt S p) (h1 : ¬ g_Rt S p - 1 = 0) : o_CDa S p = (0, s_Rt S (upd (g_Rt S) p (g_Rt S p - 1))) := by rw [o_CDa, if_pos h, if_neg h1]
theorem CDa_2 {S : ST} {p : Nat} (h : 0 < g_Rt S p) (h1 : g_Rt S p - 1 = 0) : o_CDa S p = (kCnt (nz (g_Le S p)) 16, o_Down S p) := by rw [o_CDa, if_pos h, if_pos h1]
theorem CDb_0 {S : ST} {p : Nat} (h : ¬ 0 < g_Sl S p) : o_CDb S p = (0, S) := by rw [o_CDb, if_neg h]
theorem CDb_1 {S : ST} {p : Nat} (h : 0 < g_Sl S p) (h1 : ¬ g_Sl S p - 1 = 0) : o_CDb S p = (0, s_Sl S (upd (g_Sl S) p (g_Sl S p - 1))) := by rw [o_CDb, if_pos h, if_neg h1]
theorem CDb_2 {S : ST} {p : Nat} (h : 0 < g_Sl S p) (h1 : g_Sl S p - 1 = 0) : o_CDb S p = (kCnt (nz (g_Ss S p)) 16, o_RmS (s_Sl S (upd (g_Sl S) p (g_Sl S p - 1))) p) := by rw [o_CDb, if_pos h, if_pos h1]
theorem CD_1 (S : ST) (p : Nat) : (o_CDa S p).1 + (o_CDb (o_CDa S p).2 p).1 = (o_CD S p).1 := rfl
theorem CD_2 (S : ST) (p : Nat) : (o_CDb (o_CDa S p).2 p).2 = (o_CD S p).2 := rfl
theorem age_down {S : ST} {p : Nat} (h : g_Rt S p - 1 = 0) (hs : g_Sl S p = 0) : o_RmL (s_St (s_Rt S (upd (g_Rt S) p (g_Rt S p - 1))) (upd (g_St S) p 2)) p = o_Down S p := by
  rw [← Down_e, h, upd_idv hs, show s_Sl (s_Rt (s_St S (upd (g_St S) p 2)) (upd (g_Rt S) p 0)) (g_Sl S) = s_Rt (s_St S (upd (g_St S) p 2)) (upd (g_Rt S) p 0) from sg_Sl (s_Rt (s_St S (upd (g_St S) p 2)) (upd (g_Rt S) p 0)), ss_St_Rt]
theorem Dl1_t {S : ST} (h : 0 < g_Dl S) : s_Dl S (g_Dl S - 1) = o_Dl1 S := by rw [o_Dl1, if_pos h]
theorem Dl1_f {S : ST} (h : ¬ 0 < g_Dl S) : s_Dl S (g_Dl S) = o_Dl1 S := by rw [o_Dl1, if_neg h]; exact sg_Dl S
theorem okK_nat {x : Int32} (h : okK x) : ∃ m, m ≤ 100 ∧ x = nI m := nI_of2 (M := 100) (n := 100) rfl (fun z => h.1 (Int32.lt_trans z (by decide))) (Int32.not_lt.mp h.2)
theorem CDs_0 (S : ST) : (o_CDs S 0).2 = S := rfl
theorem Tk_0 (S : ST) : (o_Tk S 0).2 = S := rfl
theorem N5 {n : Nat} (hn : n ≤ 5) : nI n = 5 ↔ n = 5 := nI_eq (b := 5) (by omega) (by decide)
theorem New_e (S : ST) (g : Int32) : s_N (s_St (s_Gr S (upd (g_Gr S) (g_N S) g)) (upd (g_St S) (g_N S) 0)) (g_N S + 1) = u_New S g := rfl
theorem nar_b {g : Int32} (h : g = 0 ∨ g = 1) : vp_nar .boolean g = g := by
  rcases h with rfl | rfl <;> decide
def lpf (S : ST) (a : Nat) : Int32 := o_Lp S (a / 16) + kCnt (p_Lp S (a / 16)) (a % 16)
theorem lpf_e (S : ST) (n : Nat) : lpf S (16 * n) = o_Lp S n := by
  rw [lpf, Nat.mul_div_cancel_left n (by decide), Nat.mul_mod_right]
  exact Int32.add_zero _
theorem lpf_s (S : ST) (a : Nat) : lpf S (a + 1) = lpf S a + (if p_Lp S (a / 16) (a % 16) = true then 1 else 0) := by
  have key : o_Lp S (a / 16) + kCnt (p_Lp S (a / 16)) (a % 16 + 1) = lpf S a + (if p_Lp S (a / 16) (a % 16) = true then 1 else 0) := by
    unfold lpf
    simp only [kCnt]
    split
    · rw [Int32.add_assoc]
    · rw [Int32.add_zero]
  rw [← key]
  by_cases h : a % 16 = 15
  · have e1 : (a + 1) / 16 = a / 16 + 1 := by omega
    have e2 : (a + 1) % 16 = 0 := by omega
    rw [lpf, e1, e2, h]
    exact Int32.add_zero _
  · have e1 : (a + 1) / 16 = a / 16 := by omega
    have e2 : (a + 1) % 16 = a % 16 + 1 := by omega
    rw [lpf, e1, e2]

theorem RmS_row1 (S : ST) (p : Nat) (a b c : FR) : g_Le (o_RmS (s_Rt (s_St (s_Sl S a) b) c) p) p = kCut (nz (g_Ss S p)) 16 (g_Le S p) := va_up_self _ _ _
theorem RmS_row2 (S : ST) (p : Nat) (a b c : FR) : g_Ss (o_RmS (s_Rt (s_St (s_Sl S a) b) c) p) p = kCut (nz (g_Ss S p)) 16 (g_Ss S p) := va_up_self _ _ _


set_option maxRecDepth 100000 in
set_option maxHeartbeats 4000000 in
theorem c_X2_losesSession (l : Launch) (D : va_G) (cI cZ cP : ClassId) (md : Nat → Nat) (S : ST) (p9 : Nat) (hI : Inv S) (hp9 : p9 < g_N S) (hst : g_St S p9 = 0) : MM l yX2_losesSession wsX2_losesSession ({ frames := 1, cells := 0, slots := 0, locals := 24 }) D (kTy cI cZ cP) [.ref (md 0), .int (nI p9)] (mW cI cZ md S) (none) (mW cI cZ md (o_Lose S p9)) := by
  refine MM.ofW (cc := cX2_losesSession) (maxL := 3) (ret := none) (by decide) rfl (Nat.le_of_ble_eq_true rfl) ?_
  intro p e s m below meth c ls A hx hb hr hlk hml hts hown hK hN hP hD hS hAe hl
  have hown : s.vm.findClass RX2 = some m.cls := hown
  have hi2 : ∀ w ∈ wsX20, w ∈ wsX2_losesSession := fun w h => List.mem_cons_of_mem _ (List.mem_append_right _ h)
  have hl : lv_has ls 3 [(0, .ref (md 0)), (1, .int (nI p9))] := hl
  have hn : g_N S ≤ 5 := hI.1
  refine lv_aload_n hx hb dX2_losesSession_0 rfl (lv_at hl 0 rfl) ?_
  refine va_get (D := D) (ci := 2) (v := .ref (md 4)) (C := RX2) (T := TX2) (N := 16) hx hb hts hi2 hown hK hP 0 (mO _ _ _ _) rfl 7 (by decide) (hts (.fieldLink RX2 30 "GracefulRestartModel" "staleTimerOf" "[I") (List.mem_of_getElem? (i := 1) rfl)) (fun _ h9 => h9) (mV_7 _ _) dX2_losesSession_1 ?_
  refine lv_iload_n hx hb dX2_losesSession_4 rfl (lv_at hl 1 rfl) ?_
  refine lv_iconst (v := 0) hx hb dX2_losesSession_5 (by decide) ?_
  refine k_iast (k := p9) hx hb hK hP hD hS 4 0 (mG_Sl _ _ _ _) rfl rfl (by omega) (by decide) (W1 := (mW cI cZ md (s_Sl S (upd (g_Sl S) p9 0)))) (mS_Sl _ _ _ _ _) dX2_losesSession_6 (fun H locs hP hD hS => ?_)
  refine lv_aload_n hx hb dX2_losesSession_7 rfl (lv_at hl 0 rfl) ?_
  refine va_get (D := D) (ci := 2) (v := .ref (md 1)) (C := RX2) (T := TX2) (N := 16) hx hb hts hi2 hown hK hP 0 (mO _ _ _ _) rfl 4 (by decide) (hts (.fieldLink RX2 19 "GracefulRestartModel" "isGraceful" "[Z") (List.mem_of_getElem? (i := 2) rfl)) (fun _ h9 => h9) (mV_4 _ _) dX2_losesSession_8 ?_
  refine lv_iload_n hx hb dX2_losesSession_11 rfl (lv_at hl 1 rfl) ?_
  refine k_zald (k := p9) hx hb hK hP 1 1 (mG_Gr _ _ _ _) rfl rfl (by omega) (by decide) dX2_losesSession_12 ?_
  refine k_top (y := (g_Gr S) p9) (congrFun (gs_Gr_Sl _ _) p9) ?_
  refine lv_if_ne (tgt := 31) hx hb dX2_losesSession_13 (by decide) (fun c_13 => ?_) (fun c_13 => ?_)
  · refine lv_aload_n hx hb dX2_losesSession_31 rfl (lv_at hl 0 rfl) ?_
    refine va_get (D := D) (ci := 2) (v := .ref (md 2)) (C := RX2) (T := TX2) (N := 16) hx hb hts hi2 hown hK hP 0 (mO _ _ _ _) rfl 5 (by decide) (hts (.fieldLink RX2 23 "GracefulRestartModel" "stateOf" "[I") (List.mem_of_getElem? (i := 3) rfl)) (fun _ h9 => h9) (mV_5 _ _) dX2_losesSession_32 ?_
    refine lv_iload_n hx hb dX2_losesSession_35 rfl (lv_at hl 1 rfl) ?_
    refine lv_iconst (v := 1) hx hb dX2_losesSession_36 (by decide) ?_
    refine k_iast (k := p9) hx hb hK hP hD hS 2 0 (mG_St _ _ _ _) rfl rfl (by omega) (by decide) (W1 := (mW cI cZ md (s_St (s_Sl S (upd (g_Sl S) p9 0)) (upd (g_St S) p9 1)))) (by rw [show g_St (s_Sl S (upd (g_Sl S) p9 0)) = g_St S from (gs_St_Sl _ _)]; exact mS_St _ _ _ _ _) dX2_losesSession_37 (fun H locs hP hD hS => ?_)
    refine lv_aload_n hx hb dX2_losesSession_38 rfl (lv_at hl 0 rfl) ?_
    refine va_get (D := D) (ci := 2) (v := .ref (md 3)) (C := RX2) (T := TX2) (N := 16) hx hb hts hi2 hown hK hP 0 (mO _ _ _ _) rfl 6 (by decide) (hts (.fieldLink RX2 27 "GracefulRestartModel" "restartTimerOf" "[I") (List.mem_of_getElem? (i := 4) rfl)) (fun _ h9 => h9) (mV_6 _ _) dX2_losesSession_39 ?_
    refine lv_iload_n hx hb dX2_losesSession_42 rfl (lv_at hl 1 rfl) ?_
    refine lv_aload_n hx hb dX2_losesSession_43 rfl (lv_at hl 0 rfl) ?_
    refine va_get (D := D) (ci := 2) (v := .int (g_T1 (s_St (s_Sl S (upd (g_Sl S) p9 0)) (upd (g_St S) p9 1)))) (C := RX2) (T := TX2) (N := 16) hx hb hts hi2 hown hK hP 0 (mO _ _ _ _) rfl 0 (by decide) (hts (.fieldLink RX2 7 "GracefulRestartModel" "restartTime" "I") (List.mem_of_getElem? (i := 5) rfl)) (fun _ h9 => h9) (mV_T1 _ _) dX2_losesSession_44 ?_
    refine k_top (y := g_T1 S) ((gs_T1_St _ _).trans (gs_T1_Sl _ _)) ?_
    refine k_iast (k := p9) hx hb hK hP hD hS 3 0 (mG_Rt _ _ _ _) rfl rfl (by omega) (by decide) (W1 := (mW cI cZ md (s_Rt (s_St (s_Sl S (upd (g_Sl S) p9 0)) (upd (g_St S) p9 1)) (upd (g_Rt S) p9 (g_T1 S))))) (by rw [show g_Rt (s_St (s_Sl S (upd (g_Sl S) p9 0)) (upd (g_St S) p9 1)) = g_Rt S from ((gs_Rt_St _ _).trans (gs_Rt_Sl _ _))]; exact mS_Rt _ _ _ _ _) dX2_losesSession_47 (fun H locs hP hD hS => ?_)
    refine lv_aload_n hx hb dX2_losesSession_48 rfl (lv_at hl 0 rfl) ?_
    refine lv_iload_n hx hb dX2_losesSession_49 rfl (lv_at hl 1 rfl) ?_
    refine lv_iconst (v := 1) hx hb dX2_losesSession_50 (by decide) ?_
    refine kV (As := [.int (nI p9), .int 1]) (rest := []) (Wc := (mW cI cZ md (s_Rt (s_St (s_Sl S (upd (g_Sl S) p9 0)) (upd (g_St S) p9 1)) (upd (g_Rt S) p9 (g_T1 S))))) (Wc1 := (mW cI cZ md (o_RmS (s_Rt (s_St (s_Sl S (upd (g_Sl S) p9 0)) (upd (g_St S) p9 1)) (upd (g_Rt S) p9 (g_T1 S))) p9))) (Wd1 := (mW cI cZ md (o_RmS (s_Rt (s_St (s_Sl S (upd (g_Sl S) p9 0)) (upd (g_St S) p9 1)) (upd (g_Rt S) p9 (g_T1 S))) p9))) (o := some (.int (kCnt (nz (g_Ss (s_Rt (s_St (s_Sl S (upd (g_Sl S) p9 0)) (upd (g_St S) p9 1)) (upd (g_Rt S) p9 (g_T1 S))) p9)) 16))) ⟨hx, hb, hml, hown, hts⟩ (c_X2_forgets1 l D cI cZ cP md (s_Rt (s_St (s_Sl S (upd (g_Sl S) p9 0)) (upd (g_St S) p9 1)) (upd (g_Rt S) p9 (g_T1 S))) p9 (by omega) (by rw [show g_Le (s_Rt (s_St (s_Sl S (upd (g_Sl S) p9 0)) (upd (g_St S) p9 1)) (upd (g_Rt S) p9 (g_T1 S))) = g_Le S from ((gs_Le_Rt _ _).trans ((gs_Le_St _ _).trans (gs_Le_Sl _ _))), show g_Ss (s_Rt (s_St (s_Sl S (upd (g_Sl S) p9 0)) (upd (g_St S) p9 1)) (upd (g_Rt S) p9 (g_T1 S))) = g_Ss S from ((gs_Ss_Rt _ _).trans ((gs_Ss_St _ _).trans (gs_Ss_Sl _ _)))]; exact hI.2.1 p9)) (cwV 2 hts gX2_losesSession_X2_forgets rfl rfl rfl (by decide +kernel) ⟨Nat.le_of_ble_eq_true rfl, Nat.le_of_ble_eq_true rfl⟩) hK hN hP hD hS (fun j => j) (fun _ _ h => h) (fun _ _ _ _ h => h) (mAdr _ _ _ _ _) (fun k q h => Or.inl ⟨k, h⟩) 0 2 rfl rfl (mO _ _ _ _) rfl hl.1 rfl (Nat.le_of_ble_eq_true rfl) ⟨Nat.zero_le _, Nat.zero_le _⟩ dX2_losesSession_51 (fun H locs hP hD hS => ?_)
    refine lv_pop hx hb dX2_losesSession_54 rfl ?_
    have hrw9 : rowOk (g_Le (o_RmS (s_Rt (s_St (s_Sl S (upd (g_Sl S) p9 0)) (upd (g_St S) p9 1)) (upd (g_Rt S) p9 (g_T1 S))) p9) p9) (g_Ss (o_RmS (s_Rt (s_St (s_Sl S (upd (g_Sl S) p9 0)) (upd (g_St S) p9 1)) (upd (g_Rt S) p9 (g_T1 S))) p9) p9) := by
      rw [RmS_row1, RmS_row2]
      exact rowOk_cutS (hI.2.1 p9) 16
    refine lv_bipush (v := 16) hx hb dX2_losesSession_55 (by decide) ?_
    refine lv_iload_n hx hb dX2_losesSession_57 rfl (lv_at hl 1 rfl) ?_
    refine lv_imul hx hb dX2_losesSession_58 ?_
    refine k_top (nx16 p9) ?_
    refine lv_istore_n (lv' := [(2, .int (nI (16 * p9))), (0, .ref (md 0)), (1, .int (nI p9))]) hx hb dX2_losesSession_59 rfl hl (by decide) rfl (fun ls hl => ?_)
    have lp60 : ∀ (n9 i : Nat), i + n9 = 16 → ∀ (H : Heap) (locs : List Loc) (ls : Array Slot), va_P D vwCl (mW cI cZ md (s_Ss (o_RmS (s_Rt (s_St (s_Sl S (upd (g_Sl S) p9 0)) (upd (g_St S) p9 1)) (upd (g_Rt S) p9 (g_T1 S))) p9) (va_up (g_Ss (o_RmS (s_Rt (s_St (s_Sl S (upd (g_Sl S) p9 0)) (upd (g_St S) p9 1)) (upd (g_Rt S) p9 (g_T1 S))) p9)) p9 (kMrk 0 (g_Le (o_RmS (s_Rt (s_St (s_Sl S (upd (g_Sl S) p9 0)) (upd (g_St S) p9 1)) (upd (g_Rt S) p9 (g_T1 S))) p9) p9) i (g_Ss (o_RmS (s_Rt (s_St (s_Sl S (upd (g_Sl S) p9 0)) (upd (g_St S) p9 1)) (upd (g_Rt S) p9 (g_T1 S))) p9) p9))))) H → va_D A (mW cI cZ md (s_Ss (o_RmS (s_Rt (s_St (s_Sl S (upd (g_Sl S) p9 0)) (upd (g_St S) p9 1)) (upd (g_Rt S) p9 (g_T1 S))) p9) (va_up (g_Ss (o_RmS (s_Rt (s_St (s_Sl S (upd (g_Sl S) p9 0)) (upd (g_St S) p9 1)) (upd (g_Rt S) p9 (g_T1 S))) p9)) p9 (kMrk 0 (g_Le (o_RmS (s_Rt (s_St (s_Sl S (upd (g_Sl S) p9 0)) (upd (g_St S) p9 1)) (upd (g_Rt S) p9 (g_T1 S))) p9) p9) i (g_Ss (o_RmS (s_Rt (s_St (s_Sl S (upd (g_Sl S) p9 0)) (upd (g_St S) p9 1)) (upd (g_Rt S) p9 (g_T1 S))) p9) p9))))) → va_S A s.heap H locs → lv_has ls 3 [(0, .ref (md 0)), (1, .int (nI p9)), (2, .int (nI (16 * p9 + i)))] → W p l e (headSpec wsX2_losesSession ({ frames := 1, cells := 0, slots := 0, locals := 24 })).room s m ([.ref (md 0), .int (nI p9)] : List Value).toArray below meth c H locs 0 0 (MQ below (kPost D (mW cI cZ md S) (mW cI cZ md (o_Lose S p9)) (none)) ([.ref (md 0), .int (nI p9)] : List Value).toArray s 0 0 (kA (mW cI cZ md S))) (F0 m 60 ls []) := by
      intro n9
      induction n9 with
      | zero =>
        intro i hi9 H locs ls hP hD hS hl
        have hi8 : i = 16 := by omega
        subst hi8
        refine lv_iload_n hx hb dX2_losesSession_60 rfl (lv_at hl 2 rfl) ?_
        refine lv_bipush (v := 16) hx hb dX2_losesSession_61 (by decide) ?_
        refine lv_iload_n hx hb dX2_losesSession_63 rfl (lv_at hl 1 rfl) ?_
        refine lv_iconst (v := 1) hx hb dX2_losesSession_64 (by decide) ?_
        refine lv_iadd hx hb dX2_losesSession_65 ?_
        refine k_top (nI_1 p9) ?_
        refine lv_imul hx hb dX2_losesSession_66 ?_
        refine k_top (nx16 (p9 + 1)) ?_
        refine lv_icmp_ge (tgt := 96) hx hb dX2_losesSession_67 (by decide) (fun _ => ?_) (fun c_ => absurd (nI_le (a := 16 * (p9 + 1)) (b := 16 * p9 + 16) (by omega) (by omega)) c_)
        exact k_vret hx hb hr hlk hP hS hAe (by rw [Mark_e, lose_help c_13]) dX2_losesSession_96
      | succ n9 ih =>
        intro i hi9 H locs ls hP hD hS hl
        have hlt : i < 16 := by omega
        refine lv_iload_n hx hb dX2_losesSession_60 rfl (lv_at hl 2 rfl) ?_
        refine lv_bipush (v := 16) hx hb dX2_losesSession_61 (by decide) ?_
        refine lv_iload_n hx hb dX2_losesSession_63 rfl (lv_at hl 1 rfl) ?_
        refine lv_iconst (v := 1) hx hb dX2_losesSession_64 (by decide) ?_
        refine lv_iadd hx hb dX2_losesSession_65 ?_
        refine k_top (nI_1 p9) ?_
        refine lv_imul hx hb dX2_losesSession_66 ?_
        refine k_top (nx16 (p9 + 1)) ?_
        refine lv_icmp_ge (tgt := 96) hx hb dX2_losesSession_67 (by decide) (fun c_ => absurd c_ (nI_ge (a := 16 * p9 + i) (b := 16 * (p9 + 1)) (by omega) (by omega))) (fun _ => ?_)
        refine lv_aload_n hx hb dX2_losesSession_70 rfl (lv_at hl 0 rfl) ?_
        refine va_get (D := D) (ci := 2) (v := .ref (md 8)) (C := RX2) (T := TX2) (N := 16) hx hb hts hi2 hown hK hP 0 (mO _ _ _ _) rfl 11 (by decide) (hts (.fieldLink RX2 42 "GracefulRestartModel" "isStaleAt" "[Z") (List.mem_of_getElem? (i := 6) rfl)) (fun _ h9 => h9) (mV_11 _ _) dX2_losesSession_71 ?_
        refine lv_iload_n hx hb dX2_losesSession_74 rfl (lv_at hl 2 rfl) ?_
        refine lv_aload_n hx hb dX2_losesSession_75 rfl (lv_at hl 0 rfl) ?_
        refine va_get (D := D) (ci := 2) (v := .ref (md 7)) (C := RX2) (T := TX2) (N := 16) hx hb hts hi2 hown hK hP 0 (mO _ _ _ _) rfl 10 (by decide) (hts (.fieldLink RX2 39 "GracefulRestartModel" "learned" "[I") (List.mem_of_getElem? (i := 7) rfl)) (fun _ h9 => h9) (mV_10 _ _) dX2_losesSession_76 ?_
        refine lv_iload_n hx hb dX2_losesSession_79 rfl (lv_at hl 2 rfl) ?_
        refine k_iald (k := 16 * p9 + i) hx hb hK hP 7 0 (mG_Le _ _ _ _) rfl rfl (by omega) (by decide) dX2_losesSession_80 ?_
        refine k_top (y := (g_Le (o_RmS (s_Rt (s_St (s_Sl S (upd (g_Sl S) p9 0)) (upd (g_St S) p9 1)) (upd (g_Rt S) p9 (g_T1 S))) p9)) p9 i) ((fl_at 16 _ (p := p9) (r := i) (by omega)).trans (congrFun (congrFun (gs_Le_Ss _ _) p9) i)) ?_
        refine lv_if_le (tgt := 88) hx hb dX2_losesSession_81 (by decide) (fun c_81 => ?_) (fun c_81 => ?_)
        · refine lv_iconst (v := 0) hx hb dX2_losesSession_88 (by decide) ?_
          refine k_zast (k := 16 * p9 + i) hx hb hK hP hD hS 8 1 (mG_Ss _ _ _ _) rfl rfl (by omega) (by decide) (by decide) (W1 := (mW cI cZ md (s_Ss (o_RmS (s_Rt (s_St (s_Sl S (upd (g_Sl S) p9 0)) (upd (g_St S) p9 1)) (upd (g_Rt S) p9 (g_T1 S))) p9) (va_up (g_Ss (o_RmS (s_Rt (s_St (s_Sl S (upd (g_Sl S) p9 0)) (upd (g_St S) p9 1)) (upd (g_Rt S) p9 (g_T1 S))) p9)) p9 (kMrk 0 (g_Le (o_RmS (s_Rt (s_St (s_Sl S (upd (g_Sl S) p9 0)) (upd (g_St S) p9 1)) (upd (g_Rt S) p9 (g_T1 S))) p9) p9) (i + 1) (g_Ss (o_RmS (s_Rt (s_St (s_Sl S (upd (g_Sl S) p9 0)) (upd (g_St S) p9 1)) (upd (g_Rt S) p9 (g_T1 S))) p9) p9)))))) (by rw [show g_Ss (s_Ss (o_RmS (s_Rt (s_St (s_Sl S (upd (g_Sl S) p9 0)) (upd (g_St S) p9 1)) (upd (g_Rt S) p9 (g_T1 S))) p9) (va_up (g_Ss (o_RmS (s_Rt (s_St (s_Sl S (upd (g_Sl S) p9 0)) (upd (g_St S) p9 1)) (upd (g_Rt S) p9 (g_T1 S))) p9)) p9 (kMrk 0 (g_Le (o_RmS (s_Rt (s_St (s_Sl S (upd (g_Sl S) p9 0)) (upd (g_St S) p9 1)) (upd (g_Rt S) p9 (g_T1 S))) p9) p9) i (g_Ss (o_RmS (s_Rt (s_St (s_Sl S (upd (g_Sl S) p9 0)) (upd (g_St S) p9 1)) (upd (g_Rt S) p9 (g_T1 S))) p9) p9)))) = va_up (g_Ss (o_RmS (s_Rt (s_St (s_Sl S (upd (g_Sl S) p9 0)) (upd (g_St S) p9 1)) (upd (g_Rt S) p9 (g_T1 S))) p9)) p9 (kMrk 0 (g_Le (o_RmS (s_Rt (s_St (s_Sl S (upd (g_Sl S) p9 0)) (upd (g_St S) p9 1)) (upd (g_Rt S) p9 (g_T1 S))) p9) p9) i (g_Ss (o_RmS (s_Rt (s_St (s_Sl S (upd (g_Sl S) p9 0)) (upd (g_St S) p9 1)) (upd (g_Rt S) p9 (g_T1 S))) p9) p9)) from (gs_Ss_Ss _ _), fl_row 16 _ (p := p9) (i := i) (by omega) (kMrk_s 0 _ i _ (mrk_x (hrw9 i).1 (Or.inr ⟨c_81, rfl⟩))), mS_Ss, ss_Ss_Ss]) dX2_losesSession_89 (fun H locs hP hD hS => ?_)
          refine lv_iinc (v := nI (16 * p9 + i + 1)) (lv' := [(2, .int (nI (16 * p9 + i + 1))), (0, .ref (md 0)), (1, .int (nI p9))]) hx hb dX2_losesSession_90 hl (k := 2) rfl (nI_1 (16 * p9 + i)) (by decide) rfl (fun ls hl => ?_)
          refine lv_goto (tgt := 60) hx hb dX2_losesSession_93 (by decide) ?_
          exact ih (i + 1) (by omega) _ _ ls hP hD hS (lv_sub hl [1, 2, 0] rfl)
        · refine lv_iconst (v := 1) hx hb dX2_losesSession_84 (by decide) ?_
          refine lv_goto (tgt := 89) hx hb dX2_losesSession_85 (by decide) ?_
          refine k_zast (k := 16 * p9 + i) hx hb hK hP hD hS 8 1 (mG_Ss _ _ _ _) rfl rfl (by omega) (by decide) (by decide) (W1 := (mW cI cZ md (s_Ss (o_RmS (s_Rt (s_St (s_Sl S (upd (g_Sl S) p9 0)) (upd (g_St S) p9 1)) (upd (g_Rt S) p9 (g_T1 S))) p9) (va_up (g_Ss (o_RmS (s_Rt (s_St (s_Sl S (upd (g_Sl S) p9 0)) (upd (g_St S) p9 1)) (upd (g_Rt S) p9 (g_T1 S))) p9)) p9 (kMrk 0 (g_Le (o_RmS (s_Rt (s_St (s_Sl S (upd (g_Sl S) p9 0)) (upd (g_St S) p9 1)) (upd (g_Rt S) p9 (g_T1 S))) p9) p9) (i + 1) (g_Ss (o_RmS (s_Rt (s_St (s_Sl S (upd (g_Sl S) p9 0)) (upd (g_St S) p9 1)) (upd (g_Rt S) p9 (g_T1 S))) p9) p9)))))) (by rw [show g_Ss (s_Ss (o_RmS (s_Rt (s_St (s_Sl S (upd (g_Sl S) p9 0)) (upd (g_St S) p9 1)) (upd (g_Rt S) p9 (g_T1 S))) p9) (va_up (g_Ss (o_RmS (s_Rt (s_St (s_Sl S (upd (g_Sl S) p9 0)) (upd (g_St S) p9 1)) (upd (g_Rt S) p9 (g_T1 S))) p9)) p9 (kMrk 0 (g_Le (o_RmS (s_Rt (s_St (s_Sl S (upd (g_Sl S) p9 0)) (upd (g_St S) p9 1)) (upd (g_Rt S) p9 (g_T1 S))) p9) p9) i (g_Ss (o_RmS (s_Rt (s_St (s_Sl S (upd (g_Sl S) p9 0)) (upd (g_St S) p9 1)) (upd (g_Rt S) p9 (g_T1 S))) p9) p9)))) = va_up (g_Ss (o_RmS (s_Rt (s_St (s_Sl S (upd (g_Sl S) p9 0)) (upd (g_St S) p9 1)) (upd (g_Rt S) p9 (g_T1 S))) p9)) p9 (kMrk 0 (g_Le (o_RmS (s_Rt (s_St (s_Sl S (upd (g_Sl S) p9 0)) (upd (g_St S) p9 1)) (upd (g_Rt S) p9 (g_T1 S))) p9) p9) i (g_Ss (o_RmS (s_Rt (s_St (s_Sl S (upd (g_Sl S) p9 0)) (upd (g_St S) p9 1)) (upd (g_Rt S) p9 (g_T1 S))) p9) p9)) from (gs_Ss_Ss _ _), fl_row 16 _ (p := p9) (i := i) (by omega) (kMrk_s 0 _ i _ (mrk_x (hrw9 i).1 (Or.inl ⟨Int32.not_le.mp c_81, rfl⟩))), mS_Ss, ss_Ss_Ss]) dX2_losesSession_89 (fun H locs hP hD hS => ?_)
          refine lv_iinc (v := nI (16 * p9 + i + 1)) (lv' := [(2, .int (nI (16 * p9 + i + 1))), (0, .ref (md 0)), (1, .int (nI p9))]) hx hb dX2_losesSession_90 hl (k := 2) rfl (nI_1 (16 * p9 + i)) (by decide) rfl (fun ls hl => ?_)
          refine lv_goto (tgt := 60) hx hb dX2_losesSession_93 (by decide) ?_
          exact ih (i + 1) (by omega) _ _ ls hP hD hS (lv_sub hl [1, 2, 0] rfl)
    exact lp60 16 0 (by omega) _ _ ls (by rw [kMrk_0, va_up_id, sg_Ss]; exact hP) (by rw [kMrk_0, va_up_id, sg_Ss]; exact hD) hS (lv_sub hl [1, 2, 0] rfl)
  · refine lv_aload_n hx hb dX2_losesSession_16 rfl (lv_at hl 0 rfl) ?_
    refine va_get (D := D) (ci := 2) (v := .ref (md 2)) (C := RX2) (T := TX2) (N := 16) hx hb hts hi2 hown hK hP 0 (mO _ _ _ _) rfl 5 (by decide) (hts (.fieldLink RX2 23 "GracefulRestartModel" "stateOf" "[I") (List.mem_of_getElem? (i := 3) rfl)) (fun _ h9 => h9) (mV_5 _ _) dX2_losesSession_17 ?_
    refine lv_iload_n hx hb dX2_losesSession_20 rfl (lv_at hl 1 rfl) ?_
    refine lv_iconst (v := 2) hx hb dX2_losesSession_21 (by decide) ?_
    refine k_iast (k := p9) hx hb hK hP hD hS 2 0 (mG_St _ _ _ _) rfl rfl (by omega) (by decide) (W1 := (mW cI cZ md (s_St (s_Sl S (upd (g_Sl S) p9 0)) (upd (g_St S) p9 2)))) (by rw [show g_St (s_Sl S (upd (g_Sl S) p9 0)) = g_St S from (gs_St_Sl _ _)]; exact mS_St _ _ _ _ _) dX2_losesSession_22 (fun H locs hP hD hS => ?_)
    refine lv_aload_n hx hb dX2_losesSession_23 rfl (lv_at hl 0 rfl) ?_
    refine lv_iload_n hx hb dX2_losesSession_24 rfl (lv_at hl 1 rfl) ?_
    refine lv_iconst (v := 0) hx hb dX2_losesSession_25 (by decide) ?_
    refine kV (As := [.int (nI p9), .int 0]) (rest := []) (Wc := (mW cI cZ md (s_St (s_Sl S (upd (g_Sl S) p9 0)) (upd (g_St S) p9 2)))) (Wc1 := (mW cI cZ md (o_RmL (s_St (s_Sl S (upd (g_Sl S) p9 0)) (upd (g_St S) p9 2)) p9))) (Wd1 := (mW cI cZ md (o_RmL (s_St (s_Sl S (upd (g_Sl S) p9 0)) (upd (g_St S) p9 2)) p9))) (o := some (.int (kCnt (nz (g_Le (s_St (s_Sl S (upd (g_Sl S) p9 0)) (upd (g_St S) p9 2)) p9)) 16))) ⟨hx, hb, hml, hown, hts⟩ (c_X2_forgets0 l D cI cZ cP md (s_St (s_Sl S (upd (g_Sl S) p9 0)) (upd (g_St S) p9 2)) p9 (by omega) (by rw [show g_Le (s_St (s_Sl S (upd (g_Sl S) p9 0)) (upd (g_St S) p9 2)) = g_Le S from ((gs_Le_St _ _).trans (gs_Le_Sl _ _)), show g_Ss (s_St (s_Sl S (upd (g_Sl S) p9 0)) (upd (g_St S) p9 2)) = g_Ss S from ((gs_Ss_St _ _).trans (gs_Ss_Sl _ _))]; exact hI.2.1 p9)) (cwV 2 hts gX2_losesSession_X2_forgets rfl rfl rfl (by decide +kernel) ⟨Nat.le_of_ble_eq_true rfl, Nat.le_of_ble_eq_true rfl⟩) hK hN hP hD hS (fun j => j) (fun _ _ h => h) (fun _ _ _ _ h => h) (mAdr _ _ _ _ _) (fun k q h => Or.inl ⟨k, h⟩) 0 2 rfl rfl (mO _ _ _ _) rfl hl.1 rfl (Nat.le_of_ble_eq_true rfl) ⟨Nat.zero_le _, Nat.zero_le _⟩ dX2_losesSession_26 (fun H locs hP hD hS => ?_)
    refine lv_pop hx hb dX2_losesSession_29 rfl ?_
    exact k_vret hx hb hr hlk hP hS hAe (by rw [lose_down (hI.2.2.2.1 p9 (by rw [hst]; decide)), o_Lose, if_pos c_13]) dX2_losesSession_30

set_option maxRecDepth 100000 in
set_option maxHeartbeats 4000000 in
theorem c_X2_restart (l : Launch) (D : va_G) (cI cZ cP : ClassId) (md : Nat → Nat) (S : ST) (pv : Int32) (hI : Inv S) : MM l yX2_restart wsX2_restart ({ frames := 4, cells := 0, slots := 0, locals := 89 }) D (kTy cI cZ cP) [.ref (md 0), .int pv] (mW cI cZ md S) (some (.int (o_Rst S pv).1)) (mW cI cZ md (o_Rst S pv).2) := by
  refine MM.ofW (cc := cX2_restart) (maxL := 4) (ret := (some .int)) (by decide) rfl (Nat.le_of_ble_eq_true rfl) ?_
  intro p e s m below meth c ls A hx hb hr hlk hml hts hown hK hN hP hD hS hAe hl
  have hown : s.vm.findClass RX2 = some m.cls := hown
  have hi2 : ∀ w ∈ wsX20, w ∈ wsX2_restart := fun w h => List.mem_cons_of_mem _ (List.mem_append_right _ h)
  have hl : lv_has ls 4 [(0, .ref (md 0)), (1, .int pv)] := hl
  have hn : g_N S ≤ 5 := hI.1
  refine lv_iconst (v := 0) hx hb dX2_restart_0 (by decide) ?_
  refine lv_istore_n (lv' := [(2, .int 0), (0, .ref (md 0)), (1, .int pv)]) hx hb dX2_restart_1 rfl hl (by decide) rfl (fun ls hl => ?_)
  refine lv_iconst (v := 0) hx hb dX2_restart_2 (by decide) ?_
  refine lv_istore_n (lv' := [(3, .int 0), (2, .int 0), (0, .ref (md 0)), (1, .int pv)]) hx hb dX2_restart_3 rfl hl (by decide) rfl (fun ls hl => ?_)
  have lp4 : ∀ (n9 i : Nat), i + n9 = g_N S → ∀ (H : Heap) (locs : List Loc) (ls : Array Slot), va_P D vwCl (mW cI cZ md ((o_Rs S i).2)) H → va_D A (mW cI cZ md ((o_Rs S i).2)) → va_S A s.heap H locs → lv_has ls 4 [(0, .ref (md 0)), (1, .int pv), (2, .int ((o_Rs S i).1)), (3, .int (nI i))] → W p l e (headSpec wsX2_restart ({ frames := 4, cells := 0, slots := 0, locals := 89 })).room s m ([.ref (md 0), .int pv] : List Value).toArray below meth c H locs 0 0 (MQ below (kPost D (mW cI cZ md S) (mW cI cZ md (o_Rst S pv).2) (some (.int (o_Rst S pv).1))) ([.ref (md 0), .int pv] : List Value).toArray s 0 0 (kA (mW cI cZ md S))) (F0 m 4 ls []) := by
    intro n9
    induction n9 with
    | zero =>
      intro i hi9 H locs ls hP hD hS hl
      have hi8 : i = g_N S := by omega
      subst hi8
      refine lv_iload_n hx hb dX2_restart_4 rfl (lv_at hl 3 rfl) ?_
      refine lv_aload_n hx hb dX2_restart_5 rfl (lv_at hl 0 rfl) ?_
      refine va_get (D := D) (ci := 2) (v := .int (nI (g_N ((o_Rs S (g_N S)).2)))) (C := RX2) (T := TX2) (N := 16) hx hb hts hi2 hown hK hP 0 (mO _ _ _ _) rfl 3 (by decide) (hts (.fieldLink RX2 55 "GracefulRestartModel" "peers" "I") (List.mem_of_getElem? (i := 1) rfl)) (fun _ h9 => h9) (mV_N _ _) dX2_restart_6 ?_
      refine k_top (y := nI (g_N S)) (congrArg nI (o_Rs_N _ _)) ?_
      refine lv_icmp_ge (tgt := 55) hx hb dX2_restart_9 (by decide) (fun _ => ?_) (fun c_ => absurd (Int32.le_refl _) c_)
      by_cases hpv : pv = 0
      · refine lv_iconst (v := 0) hx hb dX2_restart_55 (by decide) ?_
        refine lv_istore_n (lv' := [(3, .int 0), (0, .ref (md 0)), (1, .int pv), (2, .int ((o_Rs S (g_N S)).1))]) hx hb dX2_restart_56 rfl hl (by decide) rfl (fun ls hl => ?_)
        have lp57 : ∀ (n9 i : Nat), i + n9 = 16 → ∀ (H : Heap) (locs : List Loc) (ls : Array Slot), va_P D vwCl (mW cI cZ md (s_Hz (s_Ho ((o_Rs S (g_N S)).2) (kSet (-6) i (g_Ho (o_Rs S (g_N S)).2))) (kMrk (-6) (kSet (-6) 16 (g_Ho (o_Rs S (g_N S)).2)) i (g_Hz (o_Rs S (g_N S)).2)))) H → va_D A (mW cI cZ md (s_Hz (s_Ho ((o_Rs S (g_N S)).2) (kSet (-6) i (g_Ho (o_Rs S (g_N S)).2))) (kMrk (-6) (kSet (-6) 16 (g_Ho (o_Rs S (g_N S)).2)) i (g_Hz (o_Rs S (g_N S)).2)))) → va_S A s.heap H locs → lv_has ls 4 [(0, .ref (md 0)), (1, .int pv), (2, .int ((o_Rs S (g_N S)).1)), (3, .int (nI i))] → W p l e (headSpec wsX2_restart ({ frames := 4, cells := 0, slots := 0, locals := 89 })).room s m ([.ref (md 0), .int pv] : List Value).toArray below meth c H locs 0 0 (MQ below (kPost D (mW cI cZ md S) (mW cI cZ md (o_Rst S pv).2) (some (.int (o_Rst S pv).1))) ([.ref (md 0), .int pv] : List Value).toArray s 0 0 (kA (mW cI cZ md S))) (F0 m 57 ls []) := by
          intro n9
          induction n9 with
          | zero =>
            intro i hi9 H locs ls hP hD hS hl
            have hi8 : i = 16 := by omega
            subst hi8
            refine lv_iload_n hx hb dX2_restart_57 rfl (lv_at hl 3 rfl) ?_
            refine lv_bipush (v := 16) hx hb dX2_restart_58 (by decide) ?_
            refine lv_icmp_ge (tgt := 112) hx hb dX2_restart_60 (by decide) (fun _ => ?_) (fun c_ => absurd (by decide) c_)
            rw [FT_0 hpv] at hP hD
            refine lv_aload_n hx hb dX2_restart_112 rfl (lv_at hl 0 rfl) ?_
            refine lv_iconst (v := 1) hx hb dX2_restart_113 (by decide) ?_
            refine k_put (D := D) (ci := 2) (v := .int 1) (ty := .boolean) (C := RX2) (T := TX2) (N := 16) hx hb hts hi2 tyX2 tyX2_ok nmX2 hown hK hP hD hS 0 (mO _ _ _ _) rfl 14 (by decide) (hts (.fieldLink RX2 70 "GracefulRestartModel" "isDeferringNow" "Z") (List.mem_of_getElem? (i := 6) rfl)) (fun _ h9 => h9) rfl (by decide +kernel) rfl rfl (Nat.le_of_ble_eq_true rfl) (W1 := (mW cI cZ md (s_Df (o_FT (o_Rs S (g_N S)).2 pv) 1))) (mP_Df _ _ _ _ _) dX2_restart_114 (fun H locs hP hD hS => ?_)
            refine lv_aload_n hx hb dX2_restart_117 rfl (lv_at hl 0 rfl) ?_
            refine lv_aload_n hx hb dX2_restart_118 rfl (lv_at hl 0 rfl) ?_
            refine va_get (D := D) (ci := 2) (v := .int (g_T3 (s_Df (o_FT (o_Rs S (g_N S)).2 pv) 1))) (C := RX2) (T := TX2) (N := 16) hx hb hts hi2 hown hK hP 0 (mO _ _ _ _) rfl 2 (by decide) (hts (.fieldLink RX2 16 "GracefulRestartModel" "deferralTime" "I") (List.mem_of_getElem? (i := 7) rfl)) (fun _ h9 => h9) (mV_T3 _ _) dX2_restart_119 ?_
            refine k_top (y := g_T3 S) ((gs_T3_Df _ _).trans ((o_FT_T3 _ _).trans (o_Rs_T3 _ _))) ?_
            refine k_put (D := D) (ci := 2) (v := .int (g_T3 S)) (ty := .int) (C := RX2) (T := TX2) (N := 16) hx hb hts hi2 tyX2 tyX2_ok nmX2 hown hK hP hD hS 0 (mO _ _ _ _) rfl 15 (by decide) (hts (.fieldLink RX2 78 "GracefulRestartModel" "deferralTimerNow" "I") (List.mem_of_getElem? (i := 8) rfl)) (fun _ h9 => h9) rfl (by decide +kernel) rfl rfl (Nat.le_of_ble_eq_true rfl) (W1 := (mW cI cZ md (s_Dl (s_Df (o_FT (o_Rs S (g_N S)).2 pv) 1) (g_T3 S)))) (mP_Dl _ _ _ _ _) dX2_restart_122 (fun H locs hP hD hS => ?_)
            refine lv_aload_n hx hb dX2_restart_125 rfl (lv_at hl 0 rfl) ?_
            refine kV (As := []) (rest := []) (Wc := (mW cI cZ md (s_Dl (s_Df (o_FT (o_Rs S (g_N S)).2 pv) 1) (g_T3 S)))) (Wc1 := (mW cI cZ md (o_Chk (s_Dl (s_Df (o_FT (o_Rs S (g_N S)).2 pv) 1) (g_T3 S))))) (Wd1 := (mW cI cZ md (o_Chk (s_Dl (s_Df (o_FT (o_Rs S (g_N S)).2 pv) 1) (g_T3 S))))) (o := none) ⟨hx, hb, hml, hown, hts⟩ (c_X2_checksDeferral l D cI cZ cP md (s_Dl (s_Df (o_FT (o_Rs S (g_N S)).2 pv) 1) (g_T3 S)) (inv_Dl (inv_Df (inv_FT (inv_Rs hI (Nat.le_refl _)) pv) 1) hI.2.2.2.2.2.1.2)) (cwV 0 hts gX2_restart_X2_checksDeferral rfl rfl rfl (by decide +kernel) ⟨Nat.le_of_ble_eq_true rfl, Nat.le_of_ble_eq_true rfl⟩) hK hN hP hD hS (fun j => j) (fun _ _ h => h) (fun _ _ _ _ h => h) (mAdr _ _ _ _ _) (fun k q h => Or.inl ⟨k, h⟩) 0 2 rfl rfl (mO _ _ _ _) rfl hl.1 rfl (Nat.le_of_ble_eq_true rfl) ⟨Nat.zero_le _, Nat.zero_le _⟩ dX2_restart_126 (fun H locs hP hD hS => ?_)
            refine lv_iload_n hx hb dX2_restart_129 rfl (lv_at hl 2 rfl) ?_
            exact k_iret hx hb hr hlk hP hS hAe rfl (congrArg (mW cI cZ md) (Rst_2 S pv)) dX2_restart_130
          | succ n9 ih =>
            intro i hi9 H locs ls hP hD hS hl
            have hlt : i < 16 := by omega
            refine lv_iload_n hx hb dX2_restart_57 rfl (lv_at hl 3 rfl) ?_
            refine lv_bipush (v := 16) hx hb dX2_restart_58 (by decide) ?_
            refine lv_icmp_ge (tgt := 112) hx hb dX2_restart_60 (by decide) (fun c_ => absurd c_ (nI_ge (a := i) (b := 16) hlt (by decide))) (fun _ => ?_)
            refine lv_aload_n hx hb dX2_restart_63 rfl (lv_at hl 0 rfl) ?_
            refine va_get (D := D) (ci := 2) (v := .ref (md 9)) (C := RX2) (T := TX2) (N := 16) hx hb hts hi2 hown hK hP 0 (mO _ _ _ _) rfl 12 (by decide) (hts (.fieldLink RX2 45 "GracefulRestartModel" "hopOf" "[I") (List.mem_of_getElem? (i := 4) rfl)) (fun _ h9 => h9) (mV_12 _ _) dX2_restart_64 ?_
            refine lv_iload_n hx hb dX2_restart_67 rfl (lv_at hl 3 rfl) ?_
            refine lv_iload_n hx hb dX2_restart_68 rfl (lv_at hl 1 rfl) ?_
            refine lv_if_eq (tgt := 81) hx hb dX2_restart_69 (by decide) (fun _ => ?_) (fun c_ => absurd hpv c_)
            refine lv_bipush (v := -6) hx hb dX2_restart_81 (by decide) ?_
            refine k_iast (k := i) hx hb hK hP hD hS 9 0 (mG_Ho _ _ _ _) rfl rfl (by omega) (by decide) (W1 := (mW cI cZ md (s_Hz (s_Ho ((o_Rs S (g_N S)).2) (kSet (-6) (i + 1) (g_Ho (o_Rs S (g_N S)).2))) (kMrk (-6) (kSet (-6) 16 (g_Ho (o_Rs S (g_N S)).2)) i (g_Hz (o_Rs S (g_N S)).2))))) (by rw [show g_Ho (s_Hz (s_Ho ((o_Rs S (g_N S)).2) (kSet (-6) i (g_Ho (o_Rs S (g_N S)).2))) (kMrk (-6) (kSet (-6) 16 (g_Ho (o_Rs S (g_N S)).2)) i (g_Hz (o_Rs S (g_N S)).2))) = kSet (-6) i (g_Ho (o_Rs S (g_N S)).2) from ((gs_Ho_Hz _ _).trans (gs_Ho_Ho _ _)), kSet_s, mS_Ho, ss_Ho_Hz, ss_Ho_Ho]) dX2_restart_83 (fun H locs hP hD hS => ?_)
            refine lv_aload_n hx hb dX2_restart_84 rfl (lv_at hl 0 rfl) ?_
            refine va_get (D := D) (ci := 2) (v := .ref (md 10)) (C := RX2) (T := TX2) (N := 16) hx hb hts hi2 hown hK hP 0 (mO _ _ _ _) rfl 13 (by decide) (hts (.fieldLink RX2 48 "GracefulRestartModel" "isStaleHop" "[Z") (List.mem_of_getElem? (i := 5) rfl)) (fun _ h9 => h9) (mV_13 _ _) dX2_restart_85 ?_
            refine lv_iload_n hx hb dX2_restart_88 rfl (lv_at hl 3 rfl) ?_
            refine lv_aload_n hx hb dX2_restart_89 rfl (lv_at hl 0 rfl) ?_
            refine va_get (D := D) (ci := 2) (v := .ref (md 9)) (C := RX2) (T := TX2) (N := 16) hx hb hts hi2 hown hK hP 0 (mO _ _ _ _) rfl 12 (by decide) (hts (.fieldLink RX2 45 "GracefulRestartModel" "hopOf" "[I") (List.mem_of_getElem? (i := 4) rfl)) (fun _ h9 => h9) (mV_12 _ _) dX2_restart_90 ?_
            refine lv_iload_n hx hb dX2_restart_93 rfl (lv_at hl 3 rfl) ?_
            refine k_iald (k := i) hx hb hK hP 9 0 (mG_Ho _ _ _ _) rfl rfl (by omega) (by decide) dX2_restart_94 ?_
            refine k_top (y := (kSet (-6) (i + 1) (g_Ho (o_Rs S (g_N S)).2)) i) (congrFun ((gs_Ho_Hz _ _).trans (gs_Ho_Ho _ _)) i) ?_
            refine k_top (y := -6) (by simp [kSet]) ?_
            refine lv_bipush (v := -6) hx hb dX2_restart_95 (by decide) ?_
            refine lv_icmp_eq (tgt := 104) hx hb dX2_restart_97 (by decide) (fun _ => ?_) (fun c_ => absurd (by decide) c_)
            refine lv_iconst (v := 0) hx hb dX2_restart_104 (by decide) ?_
            refine k_zast (k := i) hx hb hK hP hD hS 10 1 (mG_Hz _ _ _ _) rfl rfl (by omega) (by decide) (by decide) (W1 := (mW cI cZ md (s_Hz (s_Ho ((o_Rs S (g_N S)).2) (kSet (-6) (i + 1) (g_Ho (o_Rs S (g_N S)).2))) (kMrk (-6) (kSet (-6) 16 (g_Ho (o_Rs S (g_N S)).2)) (i + 1) (g_Hz (o_Rs S (g_N S)).2))))) (by rw [show g_Hz (s_Hz (s_Ho ((o_Rs S (g_N S)).2) (kSet (-6) (i + 1) (g_Ho (o_Rs S (g_N S)).2))) (kMrk (-6) (kSet (-6) 16 (g_Ho (o_Rs S (g_N S)).2)) i (g_Hz (o_Rs S (g_N S)).2))) = kMrk (-6) (kSet (-6) 16 (g_Ho (o_Rs S (g_N S)).2)) i (g_Hz (o_Rs S (g_N S)).2) from (gs_Hz_Hz _ _), kMrk_s (-6) _ i _ (by simp [kSet, hlt]), mS_Hz, ss_Hz_Hz]) dX2_restart_105 (fun H locs hP hD hS => ?_)
            refine lv_iinc (v := nI (i + 1)) (lv' := [(3, .int (nI (i + 1))), (0, .ref (md 0)), (1, .int pv), (2, .int ((o_Rs S (g_N S)).1))]) hx hb dX2_restart_106 hl (k := 3) rfl (nI_1 i) (by decide) rfl (fun ls hl => ?_)
            refine lv_goto (tgt := 57) hx hb dX2_restart_109 (by decide) ?_
            exact ih (i + 1) (by omega) _ _ ls hP hD hS (lv_sub hl [1, 2, 3, 0] rfl)
        exact lp57 16 0 (by omega) _ _ ls (by rw [kSet_0, kMrk_0, sg_Ho, sg_Hz]; exact hP) (by rw [kSet_0, kMrk_0, sg_Ho, sg_Hz]; exact hD) hS (lv_sub hl [1, 2, 3, 0] rfl)
      · refine lv_iconst (v := 0) hx hb dX2_restart_55 (by decide) ?_
        refine lv_istore_n (lv' := [(3, .int 0), (0, .ref (md 0)), (1, .int pv), (2, .int ((o_Rs S (g_N S)).1))]) hx hb dX2_restart_56 rfl hl (by decide) rfl (fun ls hl => ?_)
        have lp57 : ∀ (n9 i : Nat), i + n9 = 16 → ∀ (H : Heap) (locs : List Loc) (ls : Array Slot), va_P D vwCl (mW cI cZ md (s_Hz ((o_Rs S (g_N S)).2) (kMrk (-6) (g_Ho (o_Rs S (g_N S)).2) i (g_Hz (o_Rs S (g_N S)).2)))) H → va_D A (mW cI cZ md (s_Hz ((o_Rs S (g_N S)).2) (kMrk (-6) (g_Ho (o_Rs S (g_N S)).2) i (g_Hz (o_Rs S (g_N S)).2)))) → va_S A s.heap H locs → lv_has ls 4 [(0, .ref (md 0)), (1, .int pv), (2, .int ((o_Rs S (g_N S)).1)), (3, .int (nI i))] → W p l e (headSpec wsX2_restart ({ frames := 4, cells := 0, slots := 0, locals := 89 })).room s m ([.ref (md 0), .int pv] : List Value).toArray below meth c H locs 0 0 (MQ below (kPost D (mW cI cZ md S) (mW cI cZ md (o_Rst S pv).2) (some (.int (o_Rst S pv).1))) ([.ref (md 0), .int pv] : List Value).toArray s 0 0 (kA (mW cI cZ md S))) (F0 m 57 ls []) := by
          intro n9
          induction n9 with
          | zero =>
            intro i hi9 H locs ls hP hD hS hl
            have hi8 : i = 16 := by omega
            subst hi8
            refine lv_iload_n hx hb dX2_restart_57 rfl (lv_at hl 3 rfl) ?_
            refine lv_bipush (v := 16) hx hb dX2_restart_58 (by decide) ?_
            refine lv_icmp_ge (tgt := 112) hx hb dX2_restart_60 (by decide) (fun _ => ?_) (fun c_ => absurd (by decide) c_)
            rw [mW_FT1 cI cZ md hpv] at hP hD
            refine lv_aload_n hx hb dX2_restart_112 rfl (lv_at hl 0 rfl) ?_
            refine lv_iconst (v := 1) hx hb dX2_restart_113 (by decide) ?_
            refine k_put (D := D) (ci := 2) (v := .int 1) (ty := .boolean) (C := RX2) (T := TX2) (N := 16) hx hb hts hi2 tyX2 tyX2_ok nmX2 hown hK hP hD hS 0 (mO _ _ _ _) rfl 14 (by decide) (hts (.fieldLink RX2 70 "GracefulRestartModel" "isDeferringNow" "Z") (List.mem_of_getElem? (i := 6) rfl)) (fun _ h9 => h9) rfl (by decide +kernel) rfl rfl (Nat.le_of_ble_eq_true rfl) (W1 := (mW cI cZ md (s_Df (o_FT (o_Rs S (g_N S)).2 pv) 1))) (mP_Df _ _ _ _ _) dX2_restart_114 (fun H locs hP hD hS => ?_)
            refine lv_aload_n hx hb dX2_restart_117 rfl (lv_at hl 0 rfl) ?_
            refine lv_aload_n hx hb dX2_restart_118 rfl (lv_at hl 0 rfl) ?_
            refine va_get (D := D) (ci := 2) (v := .int (g_T3 (s_Df (o_FT (o_Rs S (g_N S)).2 pv) 1))) (C := RX2) (T := TX2) (N := 16) hx hb hts hi2 hown hK hP 0 (mO _ _ _ _) rfl 2 (by decide) (hts (.fieldLink RX2 16 "GracefulRestartModel" "deferralTime" "I") (List.mem_of_getElem? (i := 7) rfl)) (fun _ h9 => h9) (mV_T3 _ _) dX2_restart_119 ?_
            refine k_top (y := g_T3 S) ((gs_T3_Df _ _).trans ((o_FT_T3 _ _).trans (o_Rs_T3 _ _))) ?_
            refine k_put (D := D) (ci := 2) (v := .int (g_T3 S)) (ty := .int) (C := RX2) (T := TX2) (N := 16) hx hb hts hi2 tyX2 tyX2_ok nmX2 hown hK hP hD hS 0 (mO _ _ _ _) rfl 15 (by decide) (hts (.fieldLink RX2 78 "GracefulRestartModel" "deferralTimerNow" "I") (List.mem_of_getElem? (i := 8) rfl)) (fun _ h9 => h9) rfl (by decide +kernel) rfl rfl (Nat.le_of_ble_eq_true rfl) (W1 := (mW cI cZ md (s_Dl (s_Df (o_FT (o_Rs S (g_N S)).2 pv) 1) (g_T3 S)))) (mP_Dl _ _ _ _ _) dX2_restart_122 (fun H locs hP hD hS => ?_)
            refine lv_aload_n hx hb dX2_restart_125 rfl (lv_at hl 0 rfl) ?_
            refine kV (As := []) (rest := []) (Wc := (mW cI cZ md (s_Dl (s_Df (o_FT (o_Rs S (g_N S)).2 pv) 1) (g_T3 S)))) (Wc1 := (mW cI cZ md (o_Chk (s_Dl (s_Df (o_FT (o_Rs S (g_N S)).2 pv) 1) (g_T3 S))))) (Wd1 := (mW cI cZ md (o_Chk (s_Dl (s_Df (o_FT (o_Rs S (g_N S)).2 pv) 1) (g_T3 S))))) (o := none) ⟨hx, hb, hml, hown, hts⟩ (c_X2_checksDeferral l D cI cZ cP md (s_Dl (s_Df (o_FT (o_Rs S (g_N S)).2 pv) 1) (g_T3 S)) (inv_Dl (inv_Df (inv_FT (inv_Rs hI (Nat.le_refl _)) pv) 1) hI.2.2.2.2.2.1.2)) (cwV 0 hts gX2_restart_X2_checksDeferral rfl rfl rfl (by decide +kernel) ⟨Nat.le_of_ble_eq_true rfl, Nat.le_of_ble_eq_true rfl⟩) hK hN hP hD hS (fun j => j) (fun _ _ h => h) (fun _ _ _ _ h => h) (mAdr _ _ _ _ _) (fun k q h => Or.inl ⟨k, h⟩) 0 2 rfl rfl (mO _ _ _ _) rfl hl.1 rfl (Nat.le_of_ble_eq_true rfl) ⟨Nat.zero_le _, Nat.zero_le _⟩ dX2_restart_126 (fun H locs hP hD hS => ?_)
            refine lv_iload_n hx hb dX2_restart_129 rfl (lv_at hl 2 rfl) ?_
            exact k_iret hx hb hr hlk hP hS hAe rfl (congrArg (mW cI cZ md) (Rst_2 S pv)) dX2_restart_130
          | succ n9 ih =>
            intro i hi9 H locs ls hP hD hS hl
            have hlt : i < 16 := by omega
            refine lv_iload_n hx hb dX2_restart_57 rfl (lv_at hl 3 rfl) ?_
            refine lv_bipush (v := 16) hx hb dX2_restart_58 (by decide) ?_
            refine lv_icmp_ge (tgt := 112) hx hb dX2_restart_60 (by decide) (fun c_ => absurd c_ (nI_ge (a := i) (b := 16) hlt (by decide))) (fun _ => ?_)
            refine lv_aload_n hx hb dX2_restart_63 rfl (lv_at hl 0 rfl) ?_
            refine va_get (D := D) (ci := 2) (v := .ref (md 9)) (C := RX2) (T := TX2) (N := 16) hx hb hts hi2 hown hK hP 0 (mO _ _ _ _) rfl 12 (by decide) (hts (.fieldLink RX2 45 "GracefulRestartModel" "hopOf" "[I") (List.mem_of_getElem? (i := 4) rfl)) (fun _ h9 => h9) (mV_12 _ _) dX2_restart_64 ?_
            refine lv_iload_n hx hb dX2_restart_67 rfl (lv_at hl 3 rfl) ?_
            refine lv_iload_n hx hb dX2_restart_68 rfl (lv_at hl 1 rfl) ?_
            refine lv_if_eq (tgt := 81) hx hb dX2_restart_69 (by decide) (fun c_ => absurd c_ hpv) (fun _ => ?_)
            refine lv_aload_n hx hb dX2_restart_72 rfl (lv_at hl 0 rfl) ?_
            refine va_get (D := D) (ci := 2) (v := .ref (md 9)) (C := RX2) (T := TX2) (N := 16) hx hb hts hi2 hown hK hP 0 (mO _ _ _ _) rfl 12 (by decide) (hts (.fieldLink RX2 45 "GracefulRestartModel" "hopOf" "[I") (List.mem_of_getElem? (i := 4) rfl)) (fun _ h9 => h9) (mV_12 _ _) dX2_restart_73 ?_
            refine lv_iload_n hx hb dX2_restart_76 rfl (lv_at hl 3 rfl) ?_
            refine k_iald (k := i) hx hb hK hP 9 0 (mG_Ho _ _ _ _) rfl rfl (by omega) (by decide) dX2_restart_77 ?_
            refine k_top (y := (g_Ho ((o_Rs S (g_N S)).2)) i) (congrFun (gs_Ho_Hz _ _) i) ?_
            refine lv_goto (tgt := 83) hx hb dX2_restart_78 (by decide) ?_
            refine k_iast (k := i) hx hb hK hP hD hS 9 0 (mG_Ho _ _ _ _) rfl rfl (by omega) (by decide) (W1 := (mW cI cZ md (s_Hz ((o_Rs S (g_N S)).2) (kMrk (-6) (g_Ho (o_Rs S (g_N S)).2) i (g_Hz (o_Rs S (g_N S)).2))))) (by rw [show g_Ho (s_Hz ((o_Rs S (g_N S)).2) (kMrk (-6) (g_Ho (o_Rs S (g_N S)).2) i (g_Hz (o_Rs S (g_N S)).2))) = g_Ho ((o_Rs S (g_N S)).2) from (gs_Ho_Hz _ _), upd_id, mS_Ho, ss_Ho_Hz, sg_Ho]) dX2_restart_83 (fun H locs hP hD hS => ?_)
            refine lv_aload_n hx hb dX2_restart_84 rfl (lv_at hl 0 rfl) ?_
            refine va_get (D := D) (ci := 2) (v := .ref (md 10)) (C := RX2) (T := TX2) (N := 16) hx hb hts hi2 hown hK hP 0 (mO _ _ _ _) rfl 13 (by decide) (hts (.fieldLink RX2 48 "GracefulRestartModel" "isStaleHop" "[Z") (List.mem_of_getElem? (i := 5) rfl)) (fun _ h9 => h9) (mV_13 _ _) dX2_restart_85 ?_
            refine lv_iload_n hx hb dX2_restart_88 rfl (lv_at hl 3 rfl) ?_
            refine lv_aload_n hx hb dX2_restart_89 rfl (lv_at hl 0 rfl) ?_
            refine va_get (D := D) (ci := 2) (v := .ref (md 9)) (C := RX2) (T := TX2) (N := 16) hx hb hts hi2 hown hK hP 0 (mO _ _ _ _) rfl 12 (by decide) (hts (.fieldLink RX2 45 "GracefulRestartModel" "hopOf" "[I") (List.mem_of_getElem? (i := 4) rfl)) (fun _ h9 => h9) (mV_12 _ _) dX2_restart_90 ?_
            refine lv_iload_n hx hb dX2_restart_93 rfl (lv_at hl 3 rfl) ?_
            refine k_iald (k := i) hx hb hK hP 9 0 (mG_Ho _ _ _ _) rfl rfl (by omega) (by decide) dX2_restart_94 ?_
            refine k_top (y := (g_Ho ((o_Rs S (g_N S)).2)) i) (congrFun (gs_Ho_Hz _ _) i) ?_
            refine k_top (y := (g_Ho ((o_Rs S (g_N S)).2)) i) rfl ?_
            refine lv_bipush (v := -6) hx hb dX2_restart_95 (by decide) ?_
            refine lv_icmp_eq (tgt := 104) hx hb dX2_restart_97 (by decide) (fun c_97 => ?_) (fun c_97 => ?_)
            · refine lv_iconst (v := 0) hx hb dX2_restart_104 (by decide) ?_
              refine k_zast (k := i) hx hb hK hP hD hS 10 1 (mG_Hz _ _ _ _) rfl rfl (by omega) (by decide) (by decide) (W1 := (mW cI cZ md (s_Hz ((o_Rs S (g_N S)).2) (kMrk (-6) (g_Ho (o_Rs S (g_N S)).2) (i + 1) (g_Hz (o_Rs S (g_N S)).2))))) (by rw [show g_Hz (s_Hz ((o_Rs S (g_N S)).2) (kMrk (-6) (g_Ho (o_Rs S (g_N S)).2) i (g_Hz (o_Rs S (g_N S)).2))) = kMrk (-6) (g_Ho (o_Rs S (g_N S)).2) i (g_Hz (o_Rs S (g_N S)).2) from (gs_Hz_Hz _ _), kMrk_s (-6) _ i _ (by simp [c_97]), mS_Hz, ss_Hz_Hz]) dX2_restart_105 (fun H locs hP hD hS => ?_)
              refine lv_iinc (v := nI (i + 1)) (lv' := [(3, .int (nI (i + 1))), (0, .ref (md 0)), (1, .int pv), (2, .int ((o_Rs S (g_N S)).1))]) hx hb dX2_restart_106 hl (k := 3) rfl (nI_1 i) (by decide) rfl (fun ls hl => ?_)
              refine lv_goto (tgt := 57) hx hb dX2_restart_109 (by decide) ?_
              exact ih (i + 1) (by omega) _ _ ls hP hD hS (lv_sub hl [1, 2, 3, 0] rfl)
            · refine lv_iconst (v := 1) hx hb dX2_restart_100 (by decide) ?_
              refine lv_goto (tgt := 105) hx hb dX2_restart_101 (by decide) ?_
              refine k_zast (k := i) hx hb hK hP hD hS 10 1 (mG_Hz _ _ _ _) rfl rfl (by omega) (by decide) (by decide) (W1 := (mW cI cZ md (s_Hz ((o_Rs S (g_N S)).2) (kMrk (-6) (g_Ho (o_Rs S (g_N S)).2) (i + 1) (g_Hz (o_Rs S (g_N S)).2))))) (by rw [show g_Hz (s_Hz ((o_Rs S (g_N S)).2) (kMrk (-6) (g_Ho (o_Rs S (g_N S)).2) i (g_Hz (o_Rs S (g_N S)).2))) = kMrk (-6) (g_Ho (o_Rs S (g_N S)).2) i (g_Hz (o_Rs S (g_N S)).2) from (gs_Hz_Hz _ _), kMrk_s (-6) _ i _ (by simp [c_97]), mS_Hz, ss_Hz_Hz]) dX2_restart_105 (fun H locs hP hD hS => ?_)
              refine lv_iinc (v := nI (i + 1)) (lv' := [(3, .int (nI (i + 1))), (0, .ref (md 0)), (1, .int pv), (2, .int ((o_Rs S (g_N S)).1))]) hx hb dX2_restart_106 hl (k := 3) rfl (nI_1 i) (by decide) rfl (fun ls hl => ?_)
              refine lv_goto (tgt := 57) hx hb dX2_restart_109 (by decide) ?_
              exact ih (i + 1) (by omega) _ _ ls hP hD hS (lv_sub hl [1, 2, 3, 0] rfl)
        exact lp57 16 0 (by omega) _ _ ls (by rw [kMrk_0, sg_Hz]; exact hP) (by rw [kMrk_0, sg_Hz]; exact hD) hS (lv_sub hl [1, 2, 3, 0] rfl)
    | succ n9 ih =>
      intro i hi9 H locs ls hP hD hS hl
      have hlt : i < g_N S := by omega
      refine lv_iload_n hx hb dX2_restart_4 rfl (lv_at hl 3 rfl) ?_
      refine lv_aload_n hx hb dX2_restart_5 rfl (lv_at hl 0 rfl) ?_
      refine va_get (D := D) (ci := 2) (v := .int (nI (g_N ((o_Rs S i).2)))) (C := RX2) (T := TX2) (N := 16) hx hb hts hi2 hown hK hP 0 (mO _ _ _ _) rfl 3 (by decide) (hts (.fieldLink RX2 55 "GracefulRestartModel" "peers" "I") (List.mem_of_getElem? (i := 1) rfl)) (fun _ h9 => h9) (mV_N _ _) dX2_restart_6 ?_
      refine k_top (y := nI (g_N S)) (congrArg nI (o_Rs_N _ _)) ?_
      refine lv_icmp_ge (tgt := 55) hx hb dX2_restart_9 (by decide) (fun c_ => absurd c_ (nI_ge (a := i) (b := g_N S) hlt (by omega))) (fun _ => ?_)
      refine lv_aload_n hx hb dX2_restart_12 rfl (lv_at hl 0 rfl) ?_
      refine va_get (D := D) (ci := 2) (v := .ref (md 5)) (C := RX2) (T := TX2) (N := 16) hx hb hts hi2 hown hK hP 0 (mO _ _ _ _) rfl 8 (by decide) (hts (.fieldLink RX2 33 "GracefulRestartModel" "hasMarked" "[Z") (List.mem_of_getElem? (i := 2) rfl)) (fun _ h9 => h9) (mV_8 _ _) dX2_restart_13 ?_
      refine lv_iconst (v := 2) hx hb dX2_restart_16 (by decide) ?_
      refine lv_iload_n hx hb dX2_restart_17 rfl (lv_at hl 3 rfl) ?_
      refine lv_imul hx hb dX2_restart_18 ?_
      refine k_top (nx2 i) ?_
      refine lv_iconst (v := 0) hx hb dX2_restart_19 (by decide) ?_
      refine k_zast (k := 2 * i + 0) hx hb hK hP hD hS 5 1 (mG_Hm _ _ _ _) rfl rfl (by omega) (by decide) (by decide) (W1 := (mW cI cZ md (s_Hm ((o_Rs S i).2) (va_up (g_Hm ((o_Rs S i).2)) i (upd ((g_Hm ((o_Rs S i).2)) i) 0 0))))) (by rw [fl_up 2 _ (p := i) (r := 0) (by omega) _]; exact mS_Hm _ _ _ _ _) dX2_restart_20 (fun H locs hP hD hS => ?_)
      refine lv_aload_n hx hb dX2_restart_21 rfl (lv_at hl 0 rfl) ?_
      refine va_get (D := D) (ci := 2) (v := .ref (md 5)) (C := RX2) (T := TX2) (N := 16) hx hb hts hi2 hown hK hP 0 (mO _ _ _ _) rfl 8 (by decide) (hts (.fieldLink RX2 33 "GracefulRestartModel" "hasMarked" "[Z") (List.mem_of_getElem? (i := 2) rfl)) (fun _ h9 => h9) (mV_8 _ _) dX2_restart_22 ?_
      refine lv_iconst (v := 2) hx hb dX2_restart_25 (by decide) ?_
      refine lv_iload_n hx hb dX2_restart_26 rfl (lv_at hl 3 rfl) ?_
      refine lv_imul hx hb dX2_restart_27 ?_
      refine k_top (nx2 i) ?_
      refine lv_iconst (v := 1) hx hb dX2_restart_28 (by decide) ?_
      refine lv_iadd hx hb dX2_restart_29 ?_
      refine k_top (nI_1 (2 * i)) ?_
      refine lv_iconst (v := 0) hx hb dX2_restart_30 (by decide) ?_
      refine k_zast (k := 2 * i + 1) hx hb hK hP hD hS 5 1 (mG_Hm _ _ _ _) rfl rfl (by omega) (by decide) (by decide) (W1 := (mW cI cZ md (o_Hm0 (o_Rs S i).2 i))) (by rw [show g_Hm (s_Hm ((o_Rs S i).2) (va_up (g_Hm ((o_Rs S i).2)) i (upd ((g_Hm ((o_Rs S i).2)) i) 0 0))) = va_up (g_Hm ((o_Rs S i).2)) i (upd ((g_Hm ((o_Rs S i).2)) i) 0 0) from (gs_Hm_Hm _ _), fl_row 2 _ (p := i) (i := 1) (by omega) rfl, mS_Hm, ss_Hm_Hm, Hm0_e]) dX2_restart_31 (fun H locs hP hD hS => ?_)
      refine lv_aload_n hx hb dX2_restart_32 rfl (lv_at hl 0 rfl) ?_
      refine va_get (D := D) (ci := 2) (v := .ref (md 2)) (C := RX2) (T := TX2) (N := 16) hx hb hts hi2 hown hK hP 0 (mO _ _ _ _) rfl 5 (by decide) (hts (.fieldLink RX2 23 "GracefulRestartModel" "stateOf" "[I") (List.mem_of_getElem? (i := 3) rfl)) (fun _ h9 => h9) (mV_5 _ _) dX2_restart_33 ?_
      refine lv_iload_n hx hb dX2_restart_36 rfl (lv_at hl 3 rfl) ?_
      refine k_iald (k := i) hx hb hK hP 2 0 (mG_St _ _ _ _) rfl rfl (by omega) (by decide) dX2_restart_37 ?_
      refine k_top (y := (g_St (o_Rs S i).2) i) (congrFun (o_Hm0_St _ _) i) ?_
      refine lv_if_ne (tgt := 49) hx hb dX2_restart_38 (by decide) (fun c_38 => ?_) (fun c_38 => ?_)
      · refine lv_iinc (v := nI (i + 1)) (lv' := [(3, .int (nI (i + 1))), (0, .ref (md 0)), (1, .int pv), (2, .int ((o_Rs S i).1))]) hx hb dX2_restart_49 hl (k := 3) rfl (nI_1 i) (by decide) rfl (fun ls hl => ?_)
        refine lv_goto (tgt := 4) hx hb dX2_restart_52 (by decide) ?_
        rw [Rs_f2 c_38] at hP hD
        rw [Rs_f1 c_38] at hl
        exact ih (i + 1) (by omega) _ _ ls hP hD hS (lv_sub hl [1, 2, 3, 0] rfl)
      · refine lv_aload_n hx hb dX2_restart_41 rfl (lv_at hl 0 rfl) ?_
        refine lv_iload_n hx hb dX2_restart_42 rfl (lv_at hl 3 rfl) ?_
        refine kV (As := [.int (nI i)]) (rest := []) (Wc := (mW cI cZ md (o_Hm0 (o_Rs S i).2 i))) (Wc1 := (mW cI cZ md (o_Lose (o_Hm0 (o_Rs S i).2 i) i))) (Wd1 := (mW cI cZ md (o_Lose (o_Hm0 (o_Rs S i).2 i) i))) (o := none) ⟨hx, hb, hml, hown, hts⟩ (c_X2_losesSession l D cI cZ cP md (o_Hm0 (o_Rs S i).2 i) i (inv_hm (inv_Rs hI (by omega)) (by rw [o_Rs_N]; omega) _) (by rw [o_Hm0_N, o_Rs_N]; omega) ((congrFun (o_Hm0_St _ _) i).trans c_38)) (cwV 1 hts gX2_restart_X2_losesSession rfl rfl rfl (by decide +kernel) ⟨Nat.le_of_ble_eq_true rfl, Nat.le_of_ble_eq_true rfl⟩) hK hN hP hD hS (fun j => j) (fun _ _ h => h) (fun _ _ _ _ h => h) (mAdr _ _ _ _ _) (fun k q h => Or.inl ⟨k, h⟩) 0 2 rfl rfl (mO _ _ _ _) rfl hl.1 rfl (Nat.le_of_ble_eq_true rfl) ⟨Nat.zero_le _, Nat.zero_le _⟩ dX2_restart_43 (fun H locs hP hD hS => ?_)
        refine lv_iinc (v := (o_Rs S (i + 1)).1) (lv' := [(2, .int ((o_Rs S (i + 1)).1)), (0, .ref (md 0)), (1, .int pv), (3, .int (nI i))]) hx hb dX2_restart_46 hl (k := 2) rfl (Rs_t1 c_38) (by decide) rfl (fun ls hl => ?_)
        refine lv_iinc (v := nI (i + 1)) (lv' := [(3, .int (nI (i + 1))), (2, .int ((o_Rs S (i + 1)).1)), (0, .ref (md 0)), (1, .int pv)]) hx hb dX2_restart_49 hl (k := 3) rfl (nI_1 i) (by decide) rfl (fun ls hl => ?_)
        refine lv_goto (tgt := 4) hx hb dX2_restart_52 (by decide) ?_
        rw [Rs_t2 c_38] at hP hD
        exact ih (i + 1) (by omega) _ _ ls hP hD hS (lv_sub hl [2, 3, 1, 0] rfl)
  exact lp4 (g_N S) 0 (by omega) _ _ ls (by rw [Rs_0]; exact hP) (by rw [Rs_0]; exact hD) hS (lv_sub hl [2, 3, 1, 0] rfl)
