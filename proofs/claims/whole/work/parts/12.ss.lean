/-! writes behind writes -/
theorem ss_T1_T1 (S : ST) (a b : Int32) : s_T1 (s_T1 S a) b = s_T1 S b := by simp only [s_T1]
theorem ss_T1_T2 (S : ST) (a : Int32) (b : Int32) : s_T1 (s_T2 S a) b = s_T2 (s_T1 S b) a := by simp only [s_T1, s_T2]
theorem ss_T1_T3 (S : ST) (a : Int32) (b : Int32) : s_T1 (s_T3 S a) b = s_T3 (s_T1 S b) a := by simp only [s_T1, s_T3]
theorem ss_T1_N (S : ST) (a : Nat) (b : Int32) : s_T1 (s_N S a) b = s_N (s_T1 S b) a := by simp only [s_T1, s_N]
theorem ss_T1_Gr (S : ST) (a : FR) (b : Int32) : s_T1 (s_Gr S a) b = s_Gr (s_T1 S b) a := by simp only [s_T1, s_Gr]
theorem ss_T1_St (S : ST) (a : FR) (b : Int32) : s_T1 (s_St S a) b = s_St (s_T1 S b) a := by simp only [s_T1, s_St]
theorem ss_T1_Rt (S : ST) (a : FR) (b : Int32) : s_T1 (s_Rt S a) b = s_Rt (s_T1 S b) a := by simp only [s_T1, s_Rt]
theorem ss_T1_Sl (S : ST) (a : FR) (b : Int32) : s_T1 (s_Sl S a) b = s_Sl (s_T1 S b) a := by simp only [s_T1, s_Sl]
theorem ss_T1_Hm (S : ST) (a : GR) (b : Int32) : s_T1 (s_Hm S a) b = s_Hm (s_T1 S b) a := by simp only [s_T1, s_Hm]
theorem ss_T1_Of (S : ST) (a : GR) (b : Int32) : s_T1 (s_Of S a) b = s_Of (s_T1 S b) a := by simp only [s_T1, s_Of]
theorem ss_T1_Le (S : ST) (a : GR) (b : Int32) : s_T1 (s_Le S a) b = s_Le (s_T1 S b) a := by simp only [s_T1, s_Le]
theorem ss_T1_Ss (S : ST) (a : GR) (b : Int32) : s_T1 (s_Ss S a) b = s_Ss (s_T1 S b) a := by simp only [s_T1, s_Ss]
theorem ss_T1_Ho (S : ST) (a : FR) (b : Int32) : s_T1 (s_Ho S a) b = s_Ho (s_T1 S b) a := by simp only [s_T1, s_Ho]
theorem ss_T1_Hs (S : ST) (a : FR) (b : Int32) : s_T1 (s_Hs S a) b = s_Hs (s_T1 S b) a := by simp only [s_T1, s_Hs]
theorem ss_T1_Hz (S : ST) (a : FR) (b : Int32) : s_T1 (s_Hz S a) b = s_Hz (s_T1 S b) a := by simp only [s_T1, s_Hz]
theorem ss_T1_Df (S : ST) (a : Int32) (b : Int32) : s_T1 (s_Df S a) b = s_Df (s_T1 S b) a := by simp only [s_T1, s_Df]
theorem ss_T1_Dl (S : ST) (a : Int32) (b : Int32) : s_T1 (s_Dl S a) b = s_Dl (s_T1 S b) a := by simp only [s_T1, s_Dl]
theorem ss_T2_T2 (S : ST) (a b : Int32) : s_T2 (s_T2 S a) b = s_T2 S b := by simp only [s_T2]
theorem ss_T2_T3 (S : ST) (a : Int32) (b : Int32) : s_T2 (s_T3 S a) b = s_T3 (s_T2 S b) a := by simp only [s_T2, s_T3]
theorem ss_T2_N (S : ST) (a : Nat) (b : Int32) : s_T2 (s_N S a) b = s_N (s_T2 S b) a := by simp only [s_T2, s_N]
theorem ss_T2_Gr (S : ST) (a : FR) (b : Int32) : s_T2 (s_Gr S a) b = s_Gr (s_T2 S b) a := by simp only [s_T2, s_Gr]
theorem ss_T2_St (S : ST) (a : FR) (b : Int32) : s_T2 (s_St S a) b = s_St (s_T2 S b) a := by simp only [s_T2, s_St]
theorem ss_T2_Rt (S : ST) (a : FR) (b : Int32) : s_T2 (s_Rt S a) b = s_Rt (s_T2 S b) a := by simp only [s_T2, s_Rt]
theorem ss_T2_Sl (S : ST) (a : FR) (b : Int32) : s_T2 (s_Sl S a) b = s_Sl (s_T2 S b) a := by simp only [s_T2, s_Sl]
theorem ss_T2_Hm (S : ST) (a : GR) (b : Int32) : s_T2 (s_Hm S a) b = s_Hm (s_T2 S b) a := by simp only [s_T2, s_Hm]
theorem ss_T2_Of (S : ST) (a : GR) (b : Int32) : s_T2 (s_Of S a) b = s_Of (s_T2 S b) a := by simp only [s_T2, s_Of]
theorem ss_T2_Le (S : ST) (a : GR) (b : Int32) : s_T2 (s_Le S a) b = s_Le (s_T2 S b) a := by simp only [s_T2, s_Le]
theorem ss_T2_Ss (S : ST) (a : GR) (b : Int32) : s_T2 (s_Ss S a) b = s_Ss (s_T2 S b) a := by simp only [s_T2, s_Ss]
theorem ss_T2_Ho (S : ST) (a : FR) (b : Int32) : s_T2 (s_Ho S a) b = s_Ho (s_T2 S b) a := by simp only [s_T2, s_Ho]
theorem ss_T2_Hs (S : ST) (a : FR) (b : Int32) : s_T2 (s_Hs S a) b = s_Hs (s_T2 S b) a := by simp only [s_T2, s_Hs]
theorem ss_T2_Hz (S : ST) (a : FR) (b : Int32) : s_T2 (s_Hz S a) b = s_Hz (s_T2 S b) a := by simp only [s_T2, s_Hz]
theorem ss_T2_Df (S : ST) (a : Int32) (b : Int32) : s_T2 (s_Df S a) b = s_Df (s_T2 S b) a := by simp only [s_T2, s_Df]
theorem ss_T2_Dl (S : ST) (a : Int32) (b : Int32) : s_T2 (s_Dl S a) b = s_Dl (s_T2 S b) a := by simp only [s_T2, s_Dl]
theorem ss_T3_T3 (S : ST) (a b : Int32) : s_T3 (s_T3 S a) b = s_T3 S b := by simp only [s_T3]
theorem ss_T3_N (S : ST) (a : Nat) (b : Int32) : s_T3 (s_N S a) b = s_N (s_T3 S b) a := by simp only [s_T3, s_N]
theorem ss_T3_Gr (S : ST) (a : FR) (b : Int32) : s_T3 (s_Gr S a) b = s_Gr (s_T3 S b) a := by simp only [s_T3, s_Gr]
theorem ss_T3_St (S : ST) (a : FR) (b : Int32) : s_T3 (s_St S a) b = s_St (s_T3 S b) a := by simp only [s_T3, s_St]
theorem ss_T3_Rt (S : ST) (a : FR) (b : Int32) : s_T3 (s_Rt S a) b = s_Rt (s_T3 S b) a := by simp only [s_T3, s_Rt]
theorem ss_T3_Sl (S : ST) (a : FR) (b : Int32) : s_T3 (s_Sl S a) b = s_Sl (s_T3 S b) a := by simp only [s_T3, s_Sl]
theorem ss_T3_Hm (S : ST) (a : GR) (b : Int32) : s_T3 (s_Hm S a) b = s_Hm (s_T3 S b) a := by simp only [s_T3, s_Hm]
theorem ss_T3_Of (S : ST) (a : GR) (b : Int32) : s_T3 (s_Of S a) b = s_Of (s_T3 S b) a := by simp only [s_T3, s_Of]
theorem ss_T3_Le (S : ST) (a : GR) (b : Int32) : s_T3 (s_Le S a) b = s_Le (s_T3 S b) a := by simp only [s_T3, s_Le]
theorem ss_T3_Ss (S : ST) (a : GR) (b : Int32) : s_T3 (s_Ss S a) b = s_Ss (s_T3 S b) a := by simp only [s_T3, s_Ss]
theorem ss_T3_Ho (S : ST) (a : FR) (b : Int32) : s_T3 (s_Ho S a) b = s_Ho (s_T3 S b) a := by simp only [s_T3, s_Ho]
theorem ss_T3_Hs (S : ST) (a : FR) (b : Int32) : s_T3 (s_Hs S a) b = s_Hs (s_T3 S b) a := by simp only [s_T3, s_Hs]
theorem ss_T3_Hz (S : ST) (a : FR) (b : Int32) : s_T3 (s_Hz S a) b = s_Hz (s_T3 S b) a := by simp only [s_T3, s_Hz]
theorem ss_T3_Df (S : ST) (a : Int32) (b : Int32) : s_T3 (s_Df S a) b = s_Df (s_T3 S b) a := by simp only [s_T3, s_Df]
theorem ss_T3_Dl (S : ST) (a : Int32) (b : Int32) : s_T3 (s_Dl S a) b = s_Dl (s_T3 S b) a := by simp only [s_T3, s_Dl]
theorem ss_N_N (S : ST) (a b : Nat) : s_N (s_N S a) b = s_N S b := by simp only [s_N]
theorem ss_N_Gr (S : ST) (a : FR) (b : Nat) : s_N (s_Gr S a) b = s_Gr (s_N S b) a := by simp only [s_N, s_Gr]
theorem ss_N_St (S : ST) (a : FR) (b : Nat) : s_N (s_St S a) b = s_St (s_N S b) a := by simp only [s_N, s_St]
theorem ss_N_Rt (S : ST) (a : FR) (b : Nat) : s_N (s_Rt S a) b = s_Rt (s_N S b) a := by simp only [s_N, s_Rt]
theorem ss_N_Sl (S : ST) (a : FR) (b : Nat) : s_N (s_Sl S a) b = s_Sl (s_N S b) a := by simp only [s_N, s_Sl]
theorem ss_N_Hm (S : ST) (a : GR) (b : Nat) : s_N (s_Hm S a) b = s_Hm (s_N S b) a := by simp only [s_N, s_Hm]
theorem ss_N_Of (S : ST) (a : GR) (b : Nat) : s_N (s_Of S a) b = s_Of (s_N S b) a := by simp only [s_N, s_Of]
theorem ss_N_Le (S : ST) (a : GR) (b : Nat) : s_N (s_Le S a) b = s_Le (s_N S b) a := by simp only [s_N, s_Le]
theorem ss_N_Ss (S : ST) (a : GR) (b : Nat) : s_N (s_Ss S a) b = s_Ss (s_N S b) a := by simp only [s_N, s_Ss]
theorem ss_N_Ho (S : ST) (a : FR) (b : Nat) : s_N (s_Ho S a) b = s_Ho (s_N S b) a := by simp only [s_N, s_Ho]
theorem ss_N_Hs (S : ST) (a : FR) (b : Nat) : s_N (s_Hs S a) b = s_Hs (s_N S b) a := by simp only [s_N, s_Hs]
theorem ss_N_Hz (S : ST) (a : FR) (b : Nat) : s_N (s_Hz S a) b = s_Hz (s_N S b) a := by simp only [s_N, s_Hz]
theorem ss_N_Df (S : ST) (a : Int32) (b : Nat) : s_N (s_Df S a) b = s_Df (s_N S b) a := by simp only [s_N, s_Df]
theorem ss_N_Dl (S : ST) (a : Int32) (b : Nat) : s_N (s_Dl S a) b = s_Dl (s_N S b) a := by simp only [s_N, s_Dl]
theorem ss_Gr_Gr (S : ST) (a b : FR) : s_Gr (s_Gr S a) b = s_Gr S b := by simp only [s_Gr]
theorem ss_Gr_St (S : ST) (a : FR) (b : FR) : s_Gr (s_St S a) b = s_St (s_Gr S b) a := by simp only [s_Gr, s_St]
theorem ss_Gr_Rt (S : ST) (a : FR) (b : FR) : s_Gr (s_Rt S a) b = s_Rt (s_Gr S b) a := by simp only [s_Gr, s_Rt]
theorem ss_Gr_Sl (S : ST) (a : FR) (b : FR) : s_Gr (s_Sl S a) b = s_Sl (s_Gr S b) a := by simp only [s_Gr, s_Sl]
theorem ss_Gr_Hm (S : ST) (a : GR) (b : FR) : s_Gr (s_Hm S a) b = s_Hm (s_Gr S b) a := by simp only [s_Gr, s_Hm]
theorem ss_Gr_Of (S : ST) (a : GR) (b : FR) : s_Gr (s_Of S a) b = s_Of (s_Gr S b) a := by simp only [s_Gr, s_Of]
theorem ss_Gr_Le (S : ST) (a : GR) (b : FR) : s_Gr (s_Le S a) b = s_Le (s_Gr S b) a := by simp only [s_Gr, s_Le]
theorem ss_Gr_Ss (S : ST) (a : GR) (b : FR) : s_Gr (s_Ss S a) b = s_Ss (s_Gr S b) a := by simp only [s_Gr, s_Ss]
theorem ss_Gr_Ho (S : ST) (a : FR) (b : FR) : s_Gr (s_Ho S a) b = s_Ho (s_Gr S b) a := by simp only [s_Gr, s_Ho]
theorem ss_Gr_Hs (S : ST) (a : FR) (b : FR) : s_Gr (s_Hs S a) b = s_Hs (s_Gr S b) a := by simp only [s_Gr, s_Hs]
theorem ss_Gr_Hz (S : ST) (a : FR) (b : FR) : s_Gr (s_Hz S a) b = s_Hz (s_Gr S b) a := by simp only [s_Gr, s_Hz]
theorem ss_Gr_Df (S : ST) (a : Int32) (b : FR) : s_Gr (s_Df S a) b = s_Df (s_Gr S b) a := by simp only [s_Gr, s_Df]
theorem ss_Gr_Dl (S : ST) (a : Int32) (b : FR) : s_Gr (s_Dl S a) b = s_Dl (s_Gr S b) a := by simp only [s_Gr, s_Dl]
theorem ss_St_St (S : ST) (a b : FR) : s_St (s_St S a) b = s_St S b := by simp only [s_St]
theorem ss_St_Rt (S : ST) (a : FR) (b : FR) : s_St (s_Rt S a) b = s_Rt (s_St S b) a := by simp only [s_St, s_Rt]
theorem ss_St_Sl (S : ST) (a : FR) (b : FR) : s_St (s_Sl S a) b = s_Sl (s_St S b) a := by simp only [s_St, s_Sl]
theorem ss_St_Hm (S : ST) (a : GR) (b : FR) : s_St (s_Hm S a) b = s_Hm (s_St S b) a := by simp only [s_St, s_Hm]
theorem ss_St_Of (S : ST) (a : GR) (b : FR) : s_St (s_Of S a) b = s_Of (s_St S b) a := by simp only [s_St, s_Of]
theorem ss_St_Le (S : ST) (a : GR) (b : FR) : s_St (s_Le S a) b = s_Le (s_St S b) a := by simp only [s_St, s_Le]
theorem ss_St_Ss (S : ST) (a : GR) (b : FR) : s_St (s_Ss S a) b = s_Ss (s_St S b) a := by simp only [s_St, s_Ss]
theorem ss_St_Ho (S : ST) (a : FR) (b : FR) : s_St (s_Ho S a) b = s_Ho (s_St S b) a := by simp only [s_St, s_Ho]
theorem ss_St_Hs (S : ST) (a : FR) (b : FR) : s_St (s_Hs S a) b = s_Hs (s_St S b) a := by simp only [s_St, s_Hs]
theorem ss_St_Hz (S : ST) (a : FR) (b : FR) : s_St (s_Hz S a) b = s_Hz (s_St S b) a := by simp only [s_St, s_Hz]
theorem ss_St_Df (S : ST) (a : Int32) (b : FR) : s_St (s_Df S a) b = s_Df (s_St S b) a := by simp only [s_St, s_Df]
theorem ss_St_Dl (S : ST) (a : Int32) (b : FR) : s_St (s_Dl S a) b = s_Dl (s_St S b) a := by simp only [s_St, s_Dl]
theorem ss_Rt_Rt (S : ST) (a b : FR) : s_Rt (s_Rt S a) b = s_Rt S b := by simp only [s_Rt]
theorem ss_Rt_Sl (S : ST) (a : FR) (b : FR) : s_Rt (s_Sl S a) b = s_Sl (s_Rt S b) a := by simp only [s_Rt, s_Sl]
theorem ss_Rt_Hm (S : ST) (a : GR) (b : FR) : s_Rt (s_Hm S a) b = s_Hm (s_Rt S b) a := by simp only [s_Rt, s_Hm]
theorem ss_Rt_Of (S : ST) (a : GR) (b : FR) : s_Rt (s_Of S a) b = s_Of (s_Rt S b) a := by simp only [s_Rt, s_Of]
theorem ss_Rt_Le (S : ST) (a : GR) (b : FR) : s_Rt (s_Le S a) b = s_Le (s_Rt S b) a := by simp only [s_Rt, s_Le]
theorem ss_Rt_Ss (S : ST) (a : GR) (b : FR) : s_Rt (s_Ss S a) b = s_Ss (s_Rt S b) a := by simp only [s_Rt, s_Ss]
theorem ss_Rt_Ho (S : ST) (a : FR) (b : FR) : s_Rt (s_Ho S a) b = s_Ho (s_Rt S b) a := by simp only [s_Rt, s_Ho]
theorem ss_Rt_Hs (S : ST) (a : FR) (b : FR) : s_Rt (s_Hs S a) b = s_Hs (s_Rt S b) a := by simp only [s_Rt, s_Hs]
theorem ss_Rt_Hz (S : ST) (a : FR) (b : FR) : s_Rt (s_Hz S a) b = s_Hz (s_Rt S b) a := by simp only [s_Rt, s_Hz]
theorem ss_Rt_Df (S : ST) (a : Int32) (b : FR) : s_Rt (s_Df S a) b = s_Df (s_Rt S b) a := by simp only [s_Rt, s_Df]
theorem ss_Rt_Dl (S : ST) (a : Int32) (b : FR) : s_Rt (s_Dl S a) b = s_Dl (s_Rt S b) a := by simp only [s_Rt, s_Dl]
theorem ss_Sl_Sl (S : ST) (a b : FR) : s_Sl (s_Sl S a) b = s_Sl S b := by simp only [s_Sl]
theorem ss_Sl_Hm (S : ST) (a : GR) (b : FR) : s_Sl (s_Hm S a) b = s_Hm (s_Sl S b) a := by simp only [s_Sl, s_Hm]
theorem ss_Sl_Of (S : ST) (a : GR) (b : FR) : s_Sl (s_Of S a) b = s_Of (s_Sl S b) a := by simp only [s_Sl, s_Of]
theorem ss_Sl_Le (S : ST) (a : GR) (b : FR) : s_Sl (s_Le S a) b = s_Le (s_Sl S b) a := by simp only [s_Sl, s_Le]
theorem ss_Sl_Ss (S : ST) (a : GR) (b : FR) : s_Sl (s_Ss S a) b = s_Ss (s_Sl S b) a := by simp only [s_Sl, s_Ss]
theorem ss_Sl_Ho (S : ST) (a : FR) (b : FR) : s_Sl (s_Ho S a) b = s_Ho (s_Sl S b) a := by simp only [s_Sl, s_Ho]
theorem ss_Sl_Hs (S : ST) (a : FR) (b : FR) : s_Sl (s_Hs S a) b = s_Hs (s_Sl S b) a := by simp only [s_Sl, s_Hs]
theorem ss_Sl_Hz (S : ST) (a : FR) (b : FR) : s_Sl (s_Hz S a) b = s_Hz (s_Sl S b) a := by simp only [s_Sl, s_Hz]
theorem ss_Sl_Df (S : ST) (a : Int32) (b : FR) : s_Sl (s_Df S a) b = s_Df (s_Sl S b) a := by simp only [s_Sl, s_Df]
theorem ss_Sl_Dl (S : ST) (a : Int32) (b : FR) : s_Sl (s_Dl S a) b = s_Dl (s_Sl S b) a := by simp only [s_Sl, s_Dl]
theorem ss_Hm_Hm (S : ST) (a b : GR) : s_Hm (s_Hm S a) b = s_Hm S b := by simp only [s_Hm]
theorem ss_Hm_Of (S : ST) (a : GR) (b : GR) : s_Hm (s_Of S a) b = s_Of (s_Hm S b) a := by simp only [s_Hm, s_Of]
theorem ss_Hm_Le (S : ST) (a : GR) (b : GR) : s_Hm (s_Le S a) b = s_Le (s_Hm S b) a := by simp only [s_Hm, s_Le]
theorem ss_Hm_Ss (S : ST) (a : GR) (b : GR) : s_Hm (s_Ss S a) b = s_Ss (s_Hm S b) a := by simp only [s_Hm, s_Ss]
theorem ss_Hm_Ho (S : ST) (a : FR) (b : GR) : s_Hm (s_Ho S a) b = s_Ho (s_Hm S b) a := by simp only [s_Hm, s_Ho]
theorem ss_Hm_Hs (S : ST) (a : FR) (b : GR) : s_Hm (s_Hs S a) b = s_Hs (s_Hm S b) a := by simp only [s_Hm, s_Hs]
theorem ss_Hm_Hz (S : ST) (a : FR) (b : GR) : s_Hm (s_Hz S a) b = s_Hz (s_Hm S b) a := by simp only [s_Hm, s_Hz]
theorem ss_Hm_Df (S : ST) (a : Int32) (b : GR) : s_Hm (s_Df S a) b = s_Df (s_Hm S b) a := by simp only [s_Hm, s_Df]
theorem ss_Hm_Dl (S : ST) (a : Int32) (b : GR) : s_Hm (s_Dl S a) b = s_Dl (s_Hm S b) a := by simp only [s_Hm, s_Dl]
theorem ss_Of_Of (S : ST) (a b : GR) : s_Of (s_Of S a) b = s_Of S b := by simp only [s_Of]
theorem ss_Of_Le (S : ST) (a : GR) (b : GR) : s_Of (s_Le S a) b = s_Le (s_Of S b) a := by simp only [s_Of, s_Le]
theorem ss_Of_Ss (S : ST) (a : GR) (b : GR) : s_Of (s_Ss S a) b = s_Ss (s_Of S b) a := by simp only [s_Of, s_Ss]
theorem ss_Of_Ho (S : ST) (a : FR) (b : GR) : s_Of (s_Ho S a) b = s_Ho (s_Of S b) a := by simp only [s_Of, s_Ho]
theorem ss_Of_Hs (S : ST) (a : FR) (b : GR) : s_Of (s_Hs S a) b = s_Hs (s_Of S b) a := by simp only [s_Of, s_Hs]
theorem ss_Of_Hz (S : ST) (a : FR) (b : GR) : s_Of (s_Hz S a) b = s_Hz (s_Of S b) a := by simp only [s_Of, s_Hz]
theorem ss_Of_Df (S : ST) (a : Int32) (b : GR) : s_Of (s_Df S a) b = s_Df (s_Of S b) a := by simp only [s_Of, s_Df]
theorem ss_Of_Dl (S : ST) (a : Int32) (b : GR) : s_Of (s_Dl S a) b = s_Dl (s_Of S b) a := by simp only [s_Of, s_Dl]
theorem ss_Le_Le (S : ST) (a b : GR) : s_Le (s_Le S a) b = s_Le S b := by simp only [s_Le]
theorem ss_Le_Ss (S : ST) (a : GR) (b : GR) : s_Le (s_Ss S a) b = s_Ss (s_Le S b) a := by simp only [s_Le, s_Ss]
theorem ss_Le_Ho (S : ST) (a : FR) (b : GR) : s_Le (s_Ho S a) b = s_Ho (s_Le S b) a := by simp only [s_Le, s_Ho]
theorem ss_Le_Hs (S : ST) (a : FR) (b : GR) : s_Le (s_Hs S a) b = s_Hs (s_Le S b) a := by simp only [s_Le, s_Hs]
theorem ss_Le_Hz (S : ST) (a : FR) (b : GR) : s_Le (s_Hz S a) b = s_Hz (s_Le S b) a := by simp only [s_Le, s_Hz]
theorem ss_Le_Df (S : ST) (a : Int32) (b : GR) : s_Le (s_Df S a) b = s_Df (s_Le S b) a := by simp only [s_Le, s_Df]
theorem ss_Le_Dl (S : ST) (a : Int32) (b : GR) : s_Le (s_Dl S a) b = s_Dl (s_Le S b) a := by simp only [s_Le, s_Dl]
theorem ss_Ss_Ss (S : ST) (a b : GR) : s_Ss (s_Ss S a) b = s_Ss S b := by simp only [s_Ss]
theorem ss_Ss_Ho (S : ST) (a : FR) (b : GR) : s_Ss (s_Ho S a) b = s_Ho (s_Ss S b) a := by simp only [s_Ss, s_Ho]
theorem ss_Ss_Hs (S : ST) (a : FR) (b : GR) : s_Ss (s_Hs S a) b = s_Hs (s_Ss S b) a := by simp only [s_Ss, s_Hs]
theorem ss_Ss_Hz (S : ST) (a : FR) (b : GR) : s_Ss (s_Hz S a) b = s_Hz (s_Ss S b) a := by simp only [s_Ss, s_Hz]
theorem ss_Ss_Df (S : ST) (a : Int32) (b : GR) : s_Ss (s_Df S a) b = s_Df (s_Ss S b) a := by simp only [s_Ss, s_Df]
theorem ss_Ss_Dl (S : ST) (a : Int32) (b : GR) : s_Ss (s_Dl S a) b = s_Dl (s_Ss S b) a := by simp only [s_Ss, s_Dl]
theorem ss_Ho_Ho (S : ST) (a b : FR) : s_Ho (s_Ho S a) b = s_Ho S b := by simp only [s_Ho]
theorem ss_Ho_Hs (S : ST) (a : FR) (b : FR) : s_Ho (s_Hs S a) b = s_Hs (s_Ho S b) a := by simp only [s_Ho, s_Hs]
theorem ss_Ho_Hz (S : ST) (a : FR) (b : FR) : s_Ho (s_Hz S a) b = s_Hz (s_Ho S b) a := by simp only [s_Ho, s_Hz]
theorem ss_Ho_Df (S : ST) (a : Int32) (b : FR) : s_Ho (s_Df S a) b = s_Df (s_Ho S b) a := by simp only [s_Ho, s_Df]
theorem ss_Ho_Dl (S : ST) (a : Int32) (b : FR) : s_Ho (s_Dl S a) b = s_Dl (s_Ho S b) a := by simp only [s_Ho, s_Dl]
theorem ss_Hs_Hs (S : ST) (a b : FR) : s_Hs (s_Hs S a) b = s_Hs S b := by simp only [s_Hs]
theorem ss_Hs_Hz (S : ST) (a : FR) (b : FR) : s_Hs (s_Hz S a) b = s_Hz (s_Hs S b) a := by simp only [s_Hs, s_Hz]
theorem ss_Hs_Df (S : ST) (a : Int32) (b : FR) : s_Hs (s_Df S a) b = s_Df (s_Hs S b) a := by simp only [s_Hs, s_Df]
theorem ss_Hs_Dl (S : ST) (a : Int32) (b : FR) : s_Hs (s_Dl S a) b = s_Dl (s_Hs S b) a := by simp only [s_Hs, s_Dl]
theorem ss_Hz_Hz (S : ST) (a b : FR) : s_Hz (s_Hz S a) b = s_Hz S b := by simp only [s_Hz]
theorem ss_Hz_Df (S : ST) (a : Int32) (b : FR) : s_Hz (s_Df S a) b = s_Df (s_Hz S b) a := by simp only [s_Hz, s_Df]
theorem ss_Hz_Dl (S : ST) (a : Int32) (b : FR) : s_Hz (s_Dl S a) b = s_Dl (s_Hz S b) a := by simp only [s_Hz, s_Dl]
theorem ss_Df_Df (S : ST) (a b : Int32) : s_Df (s_Df S a) b = s_Df S b := by simp only [s_Df]
theorem ss_Df_Dl (S : ST) (a : Int32) (b : Int32) : s_Df (s_Dl S a) b = s_Dl (s_Df S b) a := by simp only [s_Df, s_Dl]
theorem ss_Dl_Dl (S : ST) (a b : Int32) : s_Dl (s_Dl S a) b = s_Dl S b := by simp only [s_Dl]
theorem sg_T1 (S : ST) : s_T1 S (g_T1 S) = S := rfl
theorem sg_T2 (S : ST) : s_T2 S (g_T2 S) = S := rfl
theorem sg_T3 (S : ST) : s_T3 S (g_T3 S) = S := rfl
theorem sg_N (S : ST) : s_N S (g_N S) = S := rfl
theorem sg_Gr (S : ST) : s_Gr S (g_Gr S) = S := rfl
theorem sg_St (S : ST) : s_St S (g_St S) = S := rfl
theorem sg_Rt (S : ST) : s_Rt S (g_Rt S) = S := rfl
theorem sg_Sl (S : ST) : s_Sl S (g_Sl S) = S := rfl
theorem sg_Hm (S : ST) : s_Hm S (g_Hm S) = S := rfl
theorem sg_Of (S : ST) : s_Of S (g_Of S) = S := rfl
theorem sg_Le (S : ST) : s_Le S (g_Le S) = S := rfl
theorem sg_Ss (S : ST) : s_Ss S (g_Ss S) = S := rfl
theorem sg_Ho (S : ST) : s_Ho S (g_Ho S) = S := rfl
theorem sg_Hs (S : ST) : s_Hs S (g_Hs S) = S := rfl
theorem sg_Hz (S : ST) : s_Hz S (g_Hz S) = S := rfl
theorem sg_Df (S : ST) : s_Df S (g_Df S) = S := rfl
theorem sg_Dl (S : ST) : s_Dl S (g_Dl S) = S := rfl
theorem SA_s (S : ST) (i : Nat) : o_Sel (o_SA S i) i = o_SA S (i + 1) := rfl
theorem ai_s (S : ST) (r : Nat) (hop len : Int32) (i : Nat) : a_1 (a_i S r hop len i) r hop len i = a_i S r hop len (i + 1) := rfl
theorem SA_0 (S : ST) : o_SA S 0 = S := rfl
theorem ai_0 (S : ST) (r : Nat) (hop len : Int32) : a_i S r hop len 0 = S := rfl
theorem ER_0 (S : ST) : o_ER S 0 = S := rfl
theorem Sel_e (S : ST) (r : Nat) : a_i (o_Ent S r (b_at S r (g_N S)).1) r (b_at S r (g_N S)).1 ((b_at S r (g_N S)).2 + 1) (g_N S) = o_Sel S r := rfl
theorem End_e (S : ST) : o_ER (o_SA (s_Dl (s_Df S 0) 0) 16) (g_N S) = o_End S := rfl
theorem CDs_s1 (S : ST) (i : Nat) : (o_CDs S i).1 + (o_CD (o_CDs S i).2 i).1 = (o_CDs S (i + 1)).1 := rfl
theorem CDs_s2 (S : ST) (i : Nat) : (o_CD (o_CDs S i).2 i).2 = (o_CDs S (i + 1)).2 := rfl
theorem Tk_s1 (S : ST) (i : Nat) : (o_Tk S i).1 + (o_Tk1 (o_Tk S i).2).1 = (o_Tk S (i + 1)).1 := rfl
theorem Tk_s2 (S : ST) (i : Nat) : (o_Tk1 (o_Tk S i).2).2 = (o_Tk S (i + 1)).2 := rfl
theorem Tk1_2 (S : ST) : o_Chk (o_Dl1 (o_CDs S (g_N S)).2) = (o_Tk1 S).2 := rfl
theorem Tk1_1 (S : ST) : (o_CDs S (g_N S)).1 = (o_Tk1 S).1 := rfl
theorem Rs_t {S : ST} {i : Nat} (h : g_St (o_Rs S i).2 i = 0) : o_Rs S (i + 1) = ((o_Rs S i).1 + 1, o_Lose (o_Hm0 (o_Rs S i).2 i) i) := by
  rw [show o_Rs S (i + 1) = (if g_St (o_Rs S i).2 i = 0 then ((o_Rs S i).1 + 1, o_Lose (o_Hm0 (o_Rs S i).2 i) i) else ((o_Rs S i).1, o_Hm0 (o_Rs S i).2 i)) from rfl, if_pos h]
theorem Rs_f {S : ST} {i : Nat} (h : ¬ g_St (o_Rs S i).2 i = 0) : o_Rs S (i + 1) = ((o_Rs S i).1, o_Hm0 (o_Rs S i).2 i) := by
  rw [show o_Rs S (i + 1) = (if g_St (o_Rs S i).2 i = 0 then ((o_Rs S i).1 + 1, o_Lose (o_Hm0 (o_Rs S i).2 i) i) else ((o_Rs S i).1, o_Hm0 (o_Rs S i).2 i)) from rfl, if_neg h]
theorem RmL_e (S : ST) (p : Nat) : s_Ss (s_Le S (va_up (g_Le S) p (kCut tt9 16 (g_Le S p)))) (va_up (g_Ss S) p (kCut tt9 16 (g_Ss S p))) = o_RmL S p := rfl
theorem RmS_e (S : ST) (p : Nat) : s_Ss (s_Le S (va_up (g_Le S) p (kCut (nz (g_Ss S p)) 16 (g_Le S p)))) (va_up (g_Ss S) p (kCut (nz (g_Ss S p)) 16 (g_Ss S p))) = o_RmS S p := rfl
theorem ERes_e (S : ST) (p : Nat) : s_Sl (o_RmS S p) (upd (g_Sl S) p 0) = o_ERes S p := rfl
theorem Ent_e (S : ST) (r : Nat) (hop : Int32) : s_Hz (s_Hs (s_Ho S (upd (g_Ho S) r hop)) (upd (g_Hs S) r 0)) (upd (g_Hz S) r 0) = o_Ent S r hop := rfl
theorem Down_e (S : ST) (p : Nat) : o_RmL (s_Sl (s_Rt (s_St S (upd (g_St S) p 2)) (upd (g_Rt S) p 0)) (upd (g_Sl S) p 0)) p = o_Down S p := rfl
