/-! reads behind writes, once for all -/
theorem gs_T1_T1 (S : ST) (v : Int32) : g_T1 (s_T1 S v) = v := rfl
theorem gs_T1_T2 (S : ST) (v : Int32) : g_T1 (s_T2 S v) = g_T1 S := rfl
theorem gs_T1_T3 (S : ST) (v : Int32) : g_T1 (s_T3 S v) = g_T1 S := rfl
theorem gs_T1_N (S : ST) (v : Nat) : g_T1 (s_N S v) = g_T1 S := rfl
theorem gs_T1_Gr (S : ST) (v : FR) : g_T1 (s_Gr S v) = g_T1 S := rfl
theorem gs_T1_St (S : ST) (v : FR) : g_T1 (s_St S v) = g_T1 S := rfl
theorem gs_T1_Rt (S : ST) (v : FR) : g_T1 (s_Rt S v) = g_T1 S := rfl
theorem gs_T1_Sl (S : ST) (v : FR) : g_T1 (s_Sl S v) = g_T1 S := rfl
theorem gs_T1_Hm (S : ST) (v : GR) : g_T1 (s_Hm S v) = g_T1 S := rfl
theorem gs_T1_Of (S : ST) (v : GR) : g_T1 (s_Of S v) = g_T1 S := rfl
theorem gs_T1_Le (S : ST) (v : GR) : g_T1 (s_Le S v) = g_T1 S := rfl
theorem gs_T1_Ss (S : ST) (v : GR) : g_T1 (s_Ss S v) = g_T1 S := rfl
theorem gs_T1_Ho (S : ST) (v : FR) : g_T1 (s_Ho S v) = g_T1 S := rfl
theorem gs_T1_Hs (S : ST) (v : FR) : g_T1 (s_Hs S v) = g_T1 S := rfl
theorem gs_T1_Hz (S : ST) (v : FR) : g_T1 (s_Hz S v) = g_T1 S := rfl
theorem gs_T1_Df (S : ST) (v : Int32) : g_T1 (s_Df S v) = g_T1 S := rfl
theorem gs_T1_Dl (S : ST) (v : Int32) : g_T1 (s_Dl S v) = g_T1 S := rfl
theorem gs_T2_T1 (S : ST) (v : Int32) : g_T2 (s_T1 S v) = g_T2 S := rfl
theorem gs_T2_T2 (S : ST) (v : Int32) : g_T2 (s_T2 S v) = v := rfl
theorem gs_T2_T3 (S : ST) (v : Int32) : g_T2 (s_T3 S v) = g_T2 S := rfl
theorem gs_T2_N (S : ST) (v : Nat) : g_T2 (s_N S v) = g_T2 S := rfl
theorem gs_T2_Gr (S : ST) (v : FR) : g_T2 (s_Gr S v) = g_T2 S := rfl
theorem gs_T2_St (S : ST) (v : FR) : g_T2 (s_St S v) = g_T2 S := rfl
theorem gs_T2_Rt (S : ST) (v : FR) : g_T2 (s_Rt S v) = g_T2 S := rfl
theorem gs_T2_Sl (S : ST) (v : FR) : g_T2 (s_Sl S v) = g_T2 S := rfl
theorem gs_T2_Hm (S : ST) (v : GR) : g_T2 (s_Hm S v) = g_T2 S := rfl
theorem gs_T2_Of (S : ST) (v : GR) : g_T2 (s_Of S v) = g_T2 S := rfl
theorem gs_T2_Le (S : ST) (v : GR) : g_T2 (s_Le S v) = g_T2 S := rfl
theorem gs_T2_Ss (S : ST) (v : GR) : g_T2 (s_Ss S v) = g_T2 S := rfl
theorem gs_T2_Ho (S : ST) (v : FR) : g_T2 (s_Ho S v) = g_T2 S := rfl
theorem gs_T2_Hs (S : ST) (v : FR) : g_T2 (s_Hs S v) = g_T2 S := rfl
theorem gs_T2_Hz (S : ST) (v : FR) : g_T2 (s_Hz S v) = g_T2 S := rfl
theorem gs_T2_Df (S : ST) (v : Int32) : g_T2 (s_Df S v) = g_T2 S := rfl
theorem gs_T2_Dl (S : ST) (v : Int32) : g_T2 (s_Dl S v) = g_T2 S := rfl
theorem gs_T3_T1 (S : ST) (v : Int32) : g_T3 (s_T1 S v) = g_T3 S := rfl
theorem gs_T3_T2 (S : ST) (v : Int32) : g_T3 (s_T2 S v) = g_T3 S := rfl
theorem gs_T3_T3 (S : ST) (v : Int32) : g_T3 (s_T3 S v) = v := rfl
theorem gs_T3_N (S : ST) (v : Nat) : g_T3 (s_N S v) = g_T3 S := rfl
theorem gs_T3_Gr (S : ST) (v : FR) : g_T3 (s_Gr S v) = g_T3 S := rfl
theorem gs_T3_St (S : ST) (v : FR) : g_T3 (s_St S v) = g_T3 S := rfl
theorem gs_T3_Rt (S : ST) (v : FR) : g_T3 (s_Rt S v) = g_T3 S := rfl
theorem gs_T3_Sl (S : ST) (v : FR) : g_T3 (s_Sl S v) = g_T3 S := rfl
theorem gs_T3_Hm (S : ST) (v : GR) : g_T3 (s_Hm S v) = g_T3 S := rfl
theorem gs_T3_Of (S : ST) (v : GR) : g_T3 (s_Of S v) = g_T3 S := rfl
theorem gs_T3_Le (S : ST) (v : GR) : g_T3 (s_Le S v) = g_T3 S := rfl
theorem gs_T3_Ss (S : ST) (v : GR) : g_T3 (s_Ss S v) = g_T3 S := rfl
theorem gs_T3_Ho (S : ST) (v : FR) : g_T3 (s_Ho S v) = g_T3 S := rfl
theorem gs_T3_Hs (S : ST) (v : FR) : g_T3 (s_Hs S v) = g_T3 S := rfl
theorem gs_T3_Hz (S : ST) (v : FR) : g_T3 (s_Hz S v) = g_T3 S := rfl
theorem gs_T3_Df (S : ST) (v : Int32) : g_T3 (s_Df S v) = g_T3 S := rfl
theorem gs_T3_Dl (S : ST) (v : Int32) : g_T3 (s_Dl S v) = g_T3 S := rfl
theorem gs_N_T1 (S : ST) (v : Int32) : g_N (s_T1 S v) = g_N S := rfl
theorem gs_N_T2 (S : ST) (v : Int32) : g_N (s_T2 S v) = g_N S := rfl
theorem gs_N_T3 (S : ST) (v : Int32) : g_N (s_T3 S v) = g_N S := rfl
theorem gs_N_N (S : ST) (v : Nat) : g_N (s_N S v) = v := rfl
theorem gs_N_Gr (S : ST) (v : FR) : g_N (s_Gr S v) = g_N S := rfl
theorem gs_N_St (S : ST) (v : FR) : g_N (s_St S v) = g_N S := rfl
theorem gs_N_Rt (S : ST) (v : FR) : g_N (s_Rt S v) = g_N S := rfl
theorem gs_N_Sl (S : ST) (v : FR) : g_N (s_Sl S v) = g_N S := rfl
theorem gs_N_Hm (S : ST) (v : GR) : g_N (s_Hm S v) = g_N S := rfl
theorem gs_N_Of (S : ST) (v : GR) : g_N (s_Of S v) = g_N S := rfl
theorem gs_N_Le (S : ST) (v : GR) : g_N (s_Le S v) = g_N S := rfl
theorem gs_N_Ss (S : ST) (v : GR) : g_N (s_Ss S v) = g_N S := rfl
theorem gs_N_Ho (S : ST) (v : FR) : g_N (s_Ho S v) = g_N S := rfl
theorem gs_N_Hs (S : ST) (v : FR) : g_N (s_Hs S v) = g_N S := rfl
theorem gs_N_Hz (S : ST) (v : FR) : g_N (s_Hz S v) = g_N S := rfl
theorem gs_N_Df (S : ST) (v : Int32) : g_N (s_Df S v) = g_N S := rfl
theorem gs_N_Dl (S : ST) (v : Int32) : g_N (s_Dl S v) = g_N S := rfl
theorem gs_Gr_T1 (S : ST) (v : Int32) : g_Gr (s_T1 S v) = g_Gr S := rfl
theorem gs_Gr_T2 (S : ST) (v : Int32) : g_Gr (s_T2 S v) = g_Gr S := rfl
theorem gs_Gr_T3 (S : ST) (v : Int32) : g_Gr (s_T3 S v) = g_Gr S := rfl
theorem gs_Gr_N (S : ST) (v : Nat) : g_Gr (s_N S v) = g_Gr S := rfl
theorem gs_Gr_Gr (S : ST) (v : FR) : g_Gr (s_Gr S v) = v := rfl
theorem gs_Gr_St (S : ST) (v : FR) : g_Gr (s_St S v) = g_Gr S := rfl
theorem gs_Gr_Rt (S : ST) (v : FR) : g_Gr (s_Rt S v) = g_Gr S := rfl
theorem gs_Gr_Sl (S : ST) (v : FR) : g_Gr (s_Sl S v) = g_Gr S := rfl
theorem gs_Gr_Hm (S : ST) (v : GR) : g_Gr (s_Hm S v) = g_Gr S := rfl
theorem gs_Gr_Of (S : ST) (v : GR) : g_Gr (s_Of S v) = g_Gr S := rfl
theorem gs_Gr_Le (S : ST) (v : GR) : g_Gr (s_Le S v) = g_Gr S := rfl
theorem gs_Gr_Ss (S : ST) (v : GR) : g_Gr (s_Ss S v) = g_Gr S := rfl
theorem gs_Gr_Ho (S : ST) (v : FR) : g_Gr (s_Ho S v) = g_Gr S := rfl
theorem gs_Gr_Hs (S : ST) (v : FR) : g_Gr (s_Hs S v) = g_Gr S := rfl
theorem gs_Gr_Hz (S : ST) (v : FR) : g_Gr (s_Hz S v) = g_Gr S := rfl
theorem gs_Gr_Df (S : ST) (v : Int32) : g_Gr (s_Df S v) = g_Gr S := rfl
theorem gs_Gr_Dl (S : ST) (v : Int32) : g_Gr (s_Dl S v) = g_Gr S := rfl
theorem gs_St_T1 (S : ST) (v : Int32) : g_St (s_T1 S v) = g_St S := rfl
theorem gs_St_T2 (S : ST) (v : Int32) : g_St (s_T2 S v) = g_St S := rfl
theorem gs_St_T3 (S : ST) (v : Int32) : g_St (s_T3 S v) = g_St S := rfl
theorem gs_St_N (S : ST) (v : Nat) : g_St (s_N S v) = g_St S := rfl
theorem gs_St_Gr (S : ST) (v : FR) : g_St (s_Gr S v) = g_St S := rfl
theorem gs_St_St (S : ST) (v : FR) : g_St (s_St S v) = v := rfl
theorem gs_St_Rt (S : ST) (v : FR) : g_St (s_Rt S v) = g_St S := rfl
theorem gs_St_Sl (S : ST) (v : FR) : g_St (s_Sl S v) = g_St S := rfl
theorem gs_St_Hm (S : ST) (v : GR) : g_St (s_Hm S v) = g_St S := rfl
theorem gs_St_Of (S : ST) (v : GR) : g_St (s_Of S v) = g_St S := rfl
theorem gs_St_Le (S : ST) (v : GR) : g_St (s_Le S v) = g_St S := rfl
theorem gs_St_Ss (S : ST) (v : GR) : g_St (s_Ss S v) = g_St S := rfl
theorem gs_St_Ho (S : ST) (v : FR) : g_St (s_Ho S v) = g_St S := rfl
theorem gs_St_Hs (S : ST) (v : FR) : g_St (s_Hs S v) = g_St S := rfl
theorem gs_St_Hz (S : ST) (v : FR) : g_St (s_Hz S v) = g_St S := rfl
theorem gs_St_Df (S : ST) (v : Int32) : g_St (s_Df S v) = g_St S := rfl
theorem gs_St_Dl (S : ST) (v : Int32) : g_St (s_Dl S v) = g_St S := rfl
theorem gs_Rt_T1 (S : ST) (v : Int32) : g_Rt (s_T1 S v) = g_Rt S := rfl
theorem gs_Rt_T2 (S : ST) (v : Int32) : g_Rt (s_T2 S v) = g_Rt S := rfl
theorem gs_Rt_T3 (S : ST) (v : Int32) : g_Rt (s_T3 S v) = g_Rt S := rfl
theorem gs_Rt_N (S : ST) (v : Nat) : g_Rt (s_N S v) = g_Rt S := rfl
theorem gs_Rt_Gr (S : ST) (v : FR) : g_Rt (s_Gr S v) = g_Rt S := rfl
theorem gs_Rt_St (S : ST) (v : FR) : g_Rt (s_St S v) = g_Rt S := rfl
theorem gs_Rt_Rt (S : ST) (v : FR) : g_Rt (s_Rt S v) = v := rfl
theorem gs_Rt_Sl (S : ST) (v : FR) : g_Rt (s_Sl S v) = g_Rt S := rfl
theorem gs_Rt_Hm (S : ST) (v : GR) : g_Rt (s_Hm S v) = g_Rt S := rfl
theorem gs_Rt_Of (S : ST) (v : GR) : g_Rt (s_Of S v) = g_Rt S := rfl
theorem gs_Rt_Le (S : ST) (v : GR) : g_Rt (s_Le S v) = g_Rt S := rfl
theorem gs_Rt_Ss (S : ST) (v : GR) : g_Rt (s_Ss S v) = g_Rt S := rfl
theorem gs_Rt_Ho (S : ST) (v : FR) : g_Rt (s_Ho S v) = g_Rt S := rfl
theorem gs_Rt_Hs (S : ST) (v : FR) : g_Rt (s_Hs S v) = g_Rt S := rfl
theorem gs_Rt_Hz (S : ST) (v : FR) : g_Rt (s_Hz S v) = g_Rt S := rfl
theorem gs_Rt_Df (S : ST) (v : Int32) : g_Rt (s_Df S v) = g_Rt S := rfl
theorem gs_Rt_Dl (S : ST) (v : Int32) : g_Rt (s_Dl S v) = g_Rt S := rfl
theorem gs_Sl_T1 (S : ST) (v : Int32) : g_Sl (s_T1 S v) = g_Sl S := rfl
theorem gs_Sl_T2 (S : ST) (v : Int32) : g_Sl (s_T2 S v) = g_Sl S := rfl
theorem gs_Sl_T3 (S : ST) (v : Int32) : g_Sl (s_T3 S v) = g_Sl S := rfl
theorem gs_Sl_N (S : ST) (v : Nat) : g_Sl (s_N S v) = g_Sl S := rfl
theorem gs_Sl_Gr (S : ST) (v : FR) : g_Sl (s_Gr S v) = g_Sl S := rfl
theorem gs_Sl_St (S : ST) (v : FR) : g_Sl (s_St S v) = g_Sl S := rfl
theorem gs_Sl_Rt (S : ST) (v : FR) : g_Sl (s_Rt S v) = g_Sl S := rfl
theorem gs_Sl_Sl (S : ST) (v : FR) : g_Sl (s_Sl S v) = v := rfl
theorem gs_Sl_Hm (S : ST) (v : GR) : g_Sl (s_Hm S v) = g_Sl S := rfl
theorem gs_Sl_Of (S : ST) (v : GR) : g_Sl (s_Of S v) = g_Sl S := rfl
theorem gs_Sl_Le (S : ST) (v : GR) : g_Sl (s_Le S v) = g_Sl S := rfl
theorem gs_Sl_Ss (S : ST) (v : GR) : g_Sl (s_Ss S v) = g_Sl S := rfl
theorem gs_Sl_Ho (S : ST) (v : FR) : g_Sl (s_Ho S v) = g_Sl S := rfl
theorem gs_Sl_Hs (S : ST) (v : FR) : g_Sl (s_Hs S v) = g_Sl S := rfl
theorem gs_Sl_Hz (S : ST) (v : FR) : g_Sl (s_Hz S v) = g_Sl S := rfl
theorem gs_Sl_Df (S : ST) (v : Int32) : g_Sl (s_Df S v) = g_Sl S := rfl
theorem gs_Sl_Dl (S : ST) (v : Int32) : g_Sl (s_Dl S v) = g_Sl S := rfl
theorem gs_Hm_T1 (S : ST) (v : Int32) : g_Hm (s_T1 S v) = g_Hm S := rfl
theorem gs_Hm_T2 (S : ST) (v : Int32) : g_Hm (s_T2 S v) = g_Hm S := rfl
theorem gs_Hm_T3 (S : ST) (v : Int32) : g_Hm (s_T3 S v) = g_Hm S := rfl
theorem gs_Hm_N (S : ST) (v : Nat) : g_Hm (s_N S v) = g_Hm S := rfl
theorem gs_Hm_Gr (S : ST) (v : FR) : g_Hm (s_Gr S v) = g_Hm S := rfl
theorem gs_Hm_St (S : ST) (v : FR) : g_Hm (s_St S v) = g_Hm S := rfl
theorem gs_Hm_Rt (S : ST) (v : FR) : g_Hm (s_Rt S v) = g_Hm S := rfl
theorem gs_Hm_Sl (S : ST) (v : FR) : g_Hm (s_Sl S v) = g_Hm S := rfl
theorem gs_Hm_Hm (S : ST) (v : GR) : g_Hm (s_Hm S v) = v := rfl
theorem gs_Hm_Of (S : ST) (v : GR) : g_Hm (s_Of S v) = g_Hm S := rfl
theorem gs_Hm_Le (S : ST) (v : GR) : g_Hm (s_Le S v) = g_Hm S := rfl
theorem gs_Hm_Ss (S : ST) (v : GR) : g_Hm (s_Ss S v) = g_Hm S := rfl
theorem gs_Hm_Ho (S : ST) (v : FR) : g_Hm (s_Ho S v) = g_Hm S := rfl
theorem gs_Hm_Hs (S : ST) (v : FR) : g_Hm (s_Hs S v) = g_Hm S := rfl
theorem gs_Hm_Hz (S : ST) (v : FR) : g_Hm (s_Hz S v) = g_Hm S := rfl
theorem gs_Hm_Df (S : ST) (v : Int32) : g_Hm (s_Df S v) = g_Hm S := rfl
theorem gs_Hm_Dl (S : ST) (v : Int32) : g_Hm (s_Dl S v) = g_Hm S := rfl
theorem gs_Of_T1 (S : ST) (v : Int32) : g_Of (s_T1 S v) = g_Of S := rfl
theorem gs_Of_T2 (S : ST) (v : Int32) : g_Of (s_T2 S v) = g_Of S := rfl
theorem gs_Of_T3 (S : ST) (v : Int32) : g_Of (s_T3 S v) = g_Of S := rfl
theorem gs_Of_N (S : ST) (v : Nat) : g_Of (s_N S v) = g_Of S := rfl
theorem gs_Of_Gr (S : ST) (v : FR) : g_Of (s_Gr S v) = g_Of S := rfl
theorem gs_Of_St (S : ST) (v : FR) : g_Of (s_St S v) = g_Of S := rfl
theorem gs_Of_Rt (S : ST) (v : FR) : g_Of (s_Rt S v) = g_Of S := rfl
theorem gs_Of_Sl (S : ST) (v : FR) : g_Of (s_Sl S v) = g_Of S := rfl
theorem gs_Of_Hm (S : ST) (v : GR) : g_Of (s_Hm S v) = g_Of S := rfl
theorem gs_Of_Of (S : ST) (v : GR) : g_Of (s_Of S v) = v := rfl
theorem gs_Of_Le (S : ST) (v : GR) : g_Of (s_Le S v) = g_Of S := rfl
theorem gs_Of_Ss (S : ST) (v : GR) : g_Of (s_Ss S v) = g_Of S := rfl
theorem gs_Of_Ho (S : ST) (v : FR) : g_Of (s_Ho S v) = g_Of S := rfl
theorem gs_Of_Hs (S : ST) (v : FR) : g_Of (s_Hs S v) = g_Of S := rfl
theorem gs_Of_Hz (S : ST) (v : FR) : g_Of (s_Hz S v) = g_Of S := rfl
theorem gs_Of_Df (S : ST) (v : Int32) : g_Of (s_Df S v) = g_Of S := rfl
theorem gs_Of_Dl (S : ST) (v : Int32) : g_Of (s_Dl S v) = g_Of S := rfl
theorem gs_Le_T1 (S : ST) (v : Int32) : g_Le (s_T1 S v) = g_Le S := rfl
theorem gs_Le_T2 (S : ST) (v : Int32) : g_Le (s_T2 S v) = g_Le S := rfl
theorem gs_Le_T3 (S : ST) (v : Int32) : g_Le (s_T3 S v) = g_Le S := rfl
theorem gs_Le_N (S : ST) (v : Nat) : g_Le (s_N S v) = g_Le S := rfl
theorem gs_Le_Gr (S : ST) (v : FR) : g_Le (s_Gr S v) = g_Le S := rfl
theorem gs_Le_St (S : ST) (v : FR) : g_Le (s_St S v) = g_Le S := rfl
theorem gs_Le_Rt (S : ST) (v : FR) : g_Le (s_Rt S v) = g_Le S := rfl
theorem gs_Le_Sl (S : ST) (v : FR) : g_Le (s_Sl S v) = g_Le S := rfl
theorem gs_Le_Hm (S : ST) (v : GR) : g_Le (s_Hm S v) = g_Le S := rfl
theorem gs_Le_Of (S : ST) (v : GR) : g_Le (s_Of S v) = g_Le S := rfl
theorem gs_Le_Le (S : ST) (v : GR) : g_Le (s_Le S v) = v := rfl
theorem gs_Le_Ss (S : ST) (v : GR) : g_Le (s_Ss S v) = g_Le S := rfl
theorem gs_Le_Ho (S : ST) (v : FR) : g_Le (s_Ho S v) = g_Le S := rfl
theorem gs_Le_Hs (S : ST) (v : FR) : g_Le (s_Hs S v) = g_Le S := rfl
theorem gs_Le_Hz (S : ST) (v : FR) : g_Le (s_Hz S v) = g_Le S := rfl
theorem gs_Le_Df (S : ST) (v : Int32) : g_Le (s_Df S v) = g_Le S := rfl
theorem gs_Le_Dl (S : ST) (v : Int32) : g_Le (s_Dl S v) = g_Le S := rfl
theorem gs_Ss_T1 (S : ST) (v : Int32) : g_Ss (s_T1 S v) = g_Ss S := rfl
theorem gs_Ss_T2 (S : ST) (v : Int32) : g_Ss (s_T2 S v) = g_Ss S := rfl
theorem gs_Ss_T3 (S : ST) (v : Int32) : g_Ss (s_T3 S v) = g_Ss S := rfl
theorem gs_Ss_N (S : ST) (v : Nat) : g_Ss (s_N S v) = g_Ss S := rfl
theorem gs_Ss_Gr (S : ST) (v : FR) : g_Ss (s_Gr S v) = g_Ss S := rfl
theorem gs_Ss_St (S : ST) (v : FR) : g_Ss (s_St S v) = g_Ss S := rfl
theorem gs_Ss_Rt (S : ST) (v : FR) : g_Ss (s_Rt S v) = g_Ss S := rfl
theorem gs_Ss_Sl (S : ST) (v : FR) : g_Ss (s_Sl S v) = g_Ss S := rfl
theorem gs_Ss_Hm (S : ST) (v : GR) : g_Ss (s_Hm S v) = g_Ss S := rfl
theorem gs_Ss_Of (S : ST) (v : GR) : g_Ss (s_Of S v) = g_Ss S := rfl
theorem gs_Ss_Le (S : ST) (v : GR) : g_Ss (s_Le S v) = g_Ss S := rfl
theorem gs_Ss_Ss (S : ST) (v : GR) : g_Ss (s_Ss S v) = v := rfl
theorem gs_Ss_Ho (S : ST) (v : FR) : g_Ss (s_Ho S v) = g_Ss S := rfl
theorem gs_Ss_Hs (S : ST) (v : FR) : g_Ss (s_Hs S v) = g_Ss S := rfl
theorem gs_Ss_Hz (S : ST) (v : FR) : g_Ss (s_Hz S v) = g_Ss S := rfl
theorem gs_Ss_Df (S : ST) (v : Int32) : g_Ss (s_Df S v) = g_Ss S := rfl
theorem gs_Ss_Dl (S : ST) (v : Int32) : g_Ss (s_Dl S v) = g_Ss S := rfl
theorem gs_Ho_T1 (S : ST) (v : Int32) : g_Ho (s_T1 S v) = g_Ho S := rfl
theorem gs_Ho_T2 (S : ST) (v : Int32) : g_Ho (s_T2 S v) = g_Ho S := rfl
theorem gs_Ho_T3 (S : ST) (v : Int32) : g_Ho (s_T3 S v) = g_Ho S := rfl
theorem gs_Ho_N (S : ST) (v : Nat) : g_Ho (s_N S v) = g_Ho S := rfl
theorem gs_Ho_Gr (S : ST) (v : FR) : g_Ho (s_Gr S v) = g_Ho S := rfl
theorem gs_Ho_St (S : ST) (v : FR) : g_Ho (s_St S v) = g_Ho S := rfl
theorem gs_Ho_Rt (S : ST) (v : FR) : g_Ho (s_Rt S v) = g_Ho S := rfl
theorem gs_Ho_Sl (S : ST) (v : FR) : g_Ho (s_Sl S v) = g_Ho S := rfl
theorem gs_Ho_Hm (S : ST) (v : GR) : g_Ho (s_Hm S v) = g_Ho S := rfl
theorem gs_Ho_Of (S : ST) (v : GR) : g_Ho (s_Of S v) = g_Ho S := rfl
theorem gs_Ho_Le (S : ST) (v : GR) : g_Ho (s_Le S v) = g_Ho S := rfl
theorem gs_Ho_Ss (S : ST) (v : GR) : g_Ho (s_Ss S v) = g_Ho S := rfl
theorem gs_Ho_Ho (S : ST) (v : FR) : g_Ho (s_Ho S v) = v := rfl
theorem gs_Ho_Hs (S : ST) (v : FR) : g_Ho (s_Hs S v) = g_Ho S := rfl
theorem gs_Ho_Hz (S : ST) (v : FR) : g_Ho (s_Hz S v) = g_Ho S := rfl
theorem gs_Ho_Df (S : ST) (v : Int32) : g_Ho (s_Df S v) = g_Ho S := rfl
theorem gs_Ho_Dl (S : ST) (v : Int32) : g_Ho (s_Dl S v) = g_Ho S := rfl
theorem gs_Hs_T1 (S : ST) (v : Int32) : g_Hs (s_T1 S v) = g_Hs S := rfl
theorem gs_Hs_T2 (S : ST) (v : Int32) : g_Hs (s_T2 S v) = g_Hs S := rfl
theorem gs_Hs_T3 (S : ST) (v : Int32) : g_Hs (s_T3 S v) = g_Hs S := rfl
theorem gs_Hs_N (S : ST) (v : Nat) : g_Hs (s_N S v) = g_Hs S := rfl
theorem gs_Hs_Gr (S : ST) (v : FR) : g_Hs (s_Gr S v) = g_Hs S := rfl
theorem gs_Hs_St (S : ST) (v : FR) : g_Hs (s_St S v) = g_Hs S := rfl
theorem gs_Hs_Rt (S : ST) (v : FR) : g_Hs (s_Rt S v) = g_Hs S := rfl
theorem gs_Hs_Sl (S : ST) (v : FR) : g_Hs (s_Sl S v) = g_Hs S := rfl
theorem gs_Hs_Hm (S : ST) (v : GR) : g_Hs (s_Hm S v) = g_Hs S := rfl
theorem gs_Hs_Of (S : ST) (v : GR) : g_Hs (s_Of S v) = g_Hs S := rfl
theorem gs_Hs_Le (S : ST) (v : GR) : g_Hs (s_Le S v) = g_Hs S := rfl
theorem gs_Hs_Ss (S : ST) (v : GR) : g_Hs (s_Ss S v) = g_Hs S := rfl
theorem gs_Hs_Ho (S : ST) (v : FR) : g_Hs (s_Ho S v) = g_Hs S := rfl
theorem gs_Hs_Hs (S : ST) (v : FR) : g_Hs (s_Hs S v) = v := rfl
theorem gs_Hs_Hz (S : ST) (v : FR) : g_Hs (s_Hz S v) = g_Hs S := rfl
theorem gs_Hs_Df (S : ST) (v : Int32) : g_Hs (s_Df S v) = g_Hs S := rfl
theorem gs_Hs_Dl (S : ST) (v : Int32) : g_Hs (s_Dl S v) = g_Hs S := rfl
theorem gs_Hz_T1 (S : ST) (v : Int32) : g_Hz (s_T1 S v) = g_Hz S := rfl
theorem gs_Hz_T2 (S : ST) (v : Int32) : g_Hz (s_T2 S v) = g_Hz S := rfl
theorem gs_Hz_T3 (S : ST) (v : Int32) : g_Hz (s_T3 S v) = g_Hz S := rfl
theorem gs_Hz_N (S : ST) (v : Nat) : g_Hz (s_N S v) = g_Hz S := rfl
theorem gs_Hz_Gr (S : ST) (v : FR) : g_Hz (s_Gr S v) = g_Hz S := rfl
theorem gs_Hz_St (S : ST) (v : FR) : g_Hz (s_St S v) = g_Hz S := rfl
theorem gs_Hz_Rt (S : ST) (v : FR) : g_Hz (s_Rt S v) = g_Hz S := rfl
theorem gs_Hz_Sl (S : ST) (v : FR) : g_Hz (s_Sl S v) = g_Hz S := rfl
theorem gs_Hz_Hm (S : ST) (v : GR) : g_Hz (s_Hm S v) = g_Hz S := rfl
theorem gs_Hz_Of (S : ST) (v : GR) : g_Hz (s_Of S v) = g_Hz S := rfl
theorem gs_Hz_Le (S : ST) (v : GR) : g_Hz (s_Le S v) = g_Hz S := rfl
theorem gs_Hz_Ss (S : ST) (v : GR) : g_Hz (s_Ss S v) = g_Hz S := rfl
theorem gs_Hz_Ho (S : ST) (v : FR) : g_Hz (s_Ho S v) = g_Hz S := rfl
theorem gs_Hz_Hs (S : ST) (v : FR) : g_Hz (s_Hs S v) = g_Hz S := rfl
theorem gs_Hz_Hz (S : ST) (v : FR) : g_Hz (s_Hz S v) = v := rfl
theorem gs_Hz_Df (S : ST) (v : Int32) : g_Hz (s_Df S v) = g_Hz S := rfl
theorem gs_Hz_Dl (S : ST) (v : Int32) : g_Hz (s_Dl S v) = g_Hz S := rfl
theorem gs_Df_T1 (S : ST) (v : Int32) : g_Df (s_T1 S v) = g_Df S := rfl
theorem gs_Df_T2 (S : ST) (v : Int32) : g_Df (s_T2 S v) = g_Df S := rfl
theorem gs_Df_T3 (S : ST) (v : Int32) : g_Df (s_T3 S v) = g_Df S := rfl
theorem gs_Df_N (S : ST) (v : Nat) : g_Df (s_N S v) = g_Df S := rfl
theorem gs_Df_Gr (S : ST) (v : FR) : g_Df (s_Gr S v) = g_Df S := rfl
theorem gs_Df_St (S : ST) (v : FR) : g_Df (s_St S v) = g_Df S := rfl
theorem gs_Df_Rt (S : ST) (v : FR) : g_Df (s_Rt S v) = g_Df S := rfl
theorem gs_Df_Sl (S : ST) (v : FR) : g_Df (s_Sl S v) = g_Df S := rfl
theorem gs_Df_Hm (S : ST) (v : GR) : g_Df (s_Hm S v) = g_Df S := rfl
theorem gs_Df_Of (S : ST) (v : GR) : g_Df (s_Of S v) = g_Df S := rfl
theorem gs_Df_Le (S : ST) (v : GR) : g_Df (s_Le S v) = g_Df S := rfl
theorem gs_Df_Ss (S : ST) (v : GR) : g_Df (s_Ss S v) = g_Df S := rfl
theorem gs_Df_Ho (S : ST) (v : FR) : g_Df (s_Ho S v) = g_Df S := rfl
theorem gs_Df_Hs (S : ST) (v : FR) : g_Df (s_Hs S v) = g_Df S := rfl
theorem gs_Df_Hz (S : ST) (v : FR) : g_Df (s_Hz S v) = g_Df S := rfl
theorem gs_Df_Df (S : ST) (v : Int32) : g_Df (s_Df S v) = v := rfl
theorem gs_Df_Dl (S : ST) (v : Int32) : g_Df (s_Dl S v) = g_Df S := rfl
theorem gs_Dl_T1 (S : ST) (v : Int32) : g_Dl (s_T1 S v) = g_Dl S := rfl
theorem gs_Dl_T2 (S : ST) (v : Int32) : g_Dl (s_T2 S v) = g_Dl S := rfl
theorem gs_Dl_T3 (S : ST) (v : Int32) : g_Dl (s_T3 S v) = g_Dl S := rfl
theorem gs_Dl_N (S : ST) (v : Nat) : g_Dl (s_N S v) = g_Dl S := rfl
theorem gs_Dl_Gr (S : ST) (v : FR) : g_Dl (s_Gr S v) = g_Dl S := rfl
theorem gs_Dl_St (S : ST) (v : FR) : g_Dl (s_St S v) = g_Dl S := rfl
theorem gs_Dl_Rt (S : ST) (v : FR) : g_Dl (s_Rt S v) = g_Dl S := rfl
theorem gs_Dl_Sl (S : ST) (v : FR) : g_Dl (s_Sl S v) = g_Dl S := rfl
theorem gs_Dl_Hm (S : ST) (v : GR) : g_Dl (s_Hm S v) = g_Dl S := rfl
theorem gs_Dl_Of (S : ST) (v : GR) : g_Dl (s_Of S v) = g_Dl S := rfl
theorem gs_Dl_Le (S : ST) (v : GR) : g_Dl (s_Le S v) = g_Dl S := rfl
theorem gs_Dl_Ss (S : ST) (v : GR) : g_Dl (s_Ss S v) = g_Dl S := rfl
theorem gs_Dl_Ho (S : ST) (v : FR) : g_Dl (s_Ho S v) = g_Dl S := rfl
theorem gs_Dl_Hs (S : ST) (v : FR) : g_Dl (s_Hs S v) = g_Dl S := rfl
theorem gs_Dl_Hz (S : ST) (v : FR) : g_Dl (s_Hz S v) = g_Dl S := rfl
theorem gs_Dl_Df (S : ST) (v : Int32) : g_Dl (s_Df S v) = g_Dl S := rfl
theorem gs_Dl_Dl (S : ST) (v : Int32) : g_Dl (s_Dl S v) = v := rfl
def mF (md : Nat → Nat) (S : ST) : List Value := [.int (g_T1 S), .int (g_T2 S), .int (g_T3 S), .int (nI (g_N S)), .ref (md 1), .ref (md 2), .ref (md 3), .ref (md 4), .ref (md 5), .ref (md 6), .ref (md 7), .ref (md 8), .ref (md 9), .ref (md 10), .int (g_Df S), .int (g_Dl S)]
theorem mO (cI cZ : ClassId) (md : Nat → Nat) (S : ST) : (mW cI cZ md S)[0]? = some (md 0, .inr (2, mF md S)) := rfl
theorem mG_Gr (cI cZ : ClassId) (md : Nat → Nat) (S : ST) : (mW cI cZ md S)[1]? = some (md 1, .inl (cZ, 5, .inl ((g_Gr S)))) := rfl
theorem mS_Gr (cI cZ : ClassId) (md : Nat → Nat) (S : ST) (L : FR) : (mW cI cZ md S).set 1 (md 1, .inl (cZ, 5, .inl (L))) = mW cI cZ md (s_Gr S L) := rfl
theorem mG_St (cI cZ : ClassId) (md : Nat → Nat) (S : ST) : (mW cI cZ md S)[2]? = some (md 2, .inl (cI, 5, .inl ((g_St S)))) := rfl
theorem mS_St (cI cZ : ClassId) (md : Nat → Nat) (S : ST) (L : FR) : (mW cI cZ md S).set 2 (md 2, .inl (cI, 5, .inl (L))) = mW cI cZ md (s_St S L) := rfl
theorem mG_Rt (cI cZ : ClassId) (md : Nat → Nat) (S : ST) : (mW cI cZ md S)[3]? = some (md 3, .inl (cI, 5, .inl ((g_Rt S)))) := rfl
theorem mS_Rt (cI cZ : ClassId) (md : Nat → Nat) (S : ST) (L : FR) : (mW cI cZ md S).set 3 (md 3, .inl (cI, 5, .inl (L))) = mW cI cZ md (s_Rt S L) := rfl
theorem mG_Sl (cI cZ : ClassId) (md : Nat → Nat) (S : ST) : (mW cI cZ md S)[4]? = some (md 4, .inl (cI, 5, .inl ((g_Sl S)))) := rfl
theorem mS_Sl (cI cZ : ClassId) (md : Nat → Nat) (S : ST) (L : FR) : (mW cI cZ md S).set 4 (md 4, .inl (cI, 5, .inl (L))) = mW cI cZ md (s_Sl S L) := rfl
theorem mG_Hm (cI cZ : ClassId) (md : Nat → Nat) (S : ST) : (mW cI cZ md S)[5]? = some (md 5, .inl (cZ, 10, .inl (fl 2 (g_Hm S)))) := rfl
theorem mS_Hm (cI cZ : ClassId) (md : Nat → Nat) (S : ST) (L : GR) : (mW cI cZ md S).set 5 (md 5, .inl (cZ, 10, .inl (fl 2 L))) = mW cI cZ md (s_Hm S L) := rfl
theorem mG_Of (cI cZ : ClassId) (md : Nat → Nat) (S : ST) : (mW cI cZ md S)[6]? = some (md 6, .inl (cI, 80, .inl (fl 16 (g_Of S)))) := rfl
theorem mS_Of (cI cZ : ClassId) (md : Nat → Nat) (S : ST) (L : GR) : (mW cI cZ md S).set 6 (md 6, .inl (cI, 80, .inl (fl 16 L))) = mW cI cZ md (s_Of S L) := rfl
theorem mG_Le (cI cZ : ClassId) (md : Nat → Nat) (S : ST) : (mW cI cZ md S)[7]? = some (md 7, .inl (cI, 80, .inl (fl 16 (g_Le S)))) := rfl
theorem mS_Le (cI cZ : ClassId) (md : Nat → Nat) (S : ST) (L : GR) : (mW cI cZ md S).set 7 (md 7, .inl (cI, 80, .inl (fl 16 L))) = mW cI cZ md (s_Le S L) := rfl
theorem mG_Ss (cI cZ : ClassId) (md : Nat → Nat) (S : ST) : (mW cI cZ md S)[8]? = some (md 8, .inl (cZ, 80, .inl (fl 16 (g_Ss S)))) := rfl
theorem mS_Ss (cI cZ : ClassId) (md : Nat → Nat) (S : ST) (L : GR) : (mW cI cZ md S).set 8 (md 8, .inl (cZ, 80, .inl (fl 16 L))) = mW cI cZ md (s_Ss S L) := rfl
theorem mG_Ho (cI cZ : ClassId) (md : Nat → Nat) (S : ST) : (mW cI cZ md S)[9]? = some (md 9, .inl (cI, 16, .inl ((g_Ho S)))) := rfl
theorem mS_Ho (cI cZ : ClassId) (md : Nat → Nat) (S : ST) (L : FR) : (mW cI cZ md S).set 9 (md 9, .inl (cI, 16, .inl (L))) = mW cI cZ md (s_Ho S L) := rfl
theorem mG_Hz (cI cZ : ClassId) (md : Nat → Nat) (S : ST) : (mW cI cZ md S)[10]? = some (md 10, .inl (cZ, 16, .inl ((g_Hz S)))) := rfl
theorem mS_Hz (cI cZ : ClassId) (md : Nat → Nat) (S : ST) (L : FR) : (mW cI cZ md S).set 10 (md 10, .inl (cZ, 16, .inl (L))) = mW cI cZ md (s_Hz S L) := rfl
theorem mP_T1 (cI cZ : ClassId) (md : Nat → Nat) (S : ST) (v : Int32) : (mW cI cZ md S).set 0 (md 0, .inr (2, (mF md S).set 0 (.int v))) = mW cI cZ md (s_T1 S v) := rfl
theorem mP_T2 (cI cZ : ClassId) (md : Nat → Nat) (S : ST) (v : Int32) : (mW cI cZ md S).set 0 (md 0, .inr (2, (mF md S).set 1 (.int v))) = mW cI cZ md (s_T2 S v) := rfl
theorem mP_T3 (cI cZ : ClassId) (md : Nat → Nat) (S : ST) (v : Int32) : (mW cI cZ md S).set 0 (md 0, .inr (2, (mF md S).set 2 (.int v))) = mW cI cZ md (s_T3 S v) := rfl
theorem mP_Df (cI cZ : ClassId) (md : Nat → Nat) (S : ST) (v : Int32) : (mW cI cZ md S).set 0 (md 0, .inr (2, (mF md S).set 14 (.int v))) = mW cI cZ md (s_Df S v) := rfl
theorem mP_Dl (cI cZ : ClassId) (md : Nat → Nat) (S : ST) (v : Int32) : (mW cI cZ md S).set 0 (md 0, .inr (2, (mF md S).set 15 (.int v))) = mW cI cZ md (s_Dl S v) := rfl
theorem mP_N (cI cZ : ClassId) (md : Nat → Nat) (S : ST) (v : Nat) : (mW cI cZ md S).set 0 (md 0, .inr (2, (mF md S).set 3 (.int (nI v)))) = mW cI cZ md (s_N S v) := rfl
theorem mS_HzHs (cI cZ : ClassId) (md : Nat → Nat) (S : ST) (V L : FR) : (mW cI cZ md S).set 10 (md 10, .inl (cZ, 16, .inl L)) = mW cI cZ md (s_Hz (s_Hs S V) L) := rfl
theorem mW_Hs (cI cZ : ClassId) (md : Nat → Nat) (S : ST) (V : FR) : mW cI cZ md (s_Hs S V) = mW cI cZ md S := rfl
theorem mAdr (cI cZ : ClassId) (md : Nat → Nat) (S : ST) (S1 : ST) : (mW cI cZ md S1).map (·.1) = (mW cI cZ md S).map (·.1) := rfl
theorem mV_T1 (md : Nat → Nat) (S : ST) : (mF md S)[0]? = some (.int (g_T1 S)) := rfl
theorem mV_T2 (md : Nat → Nat) (S : ST) : (mF md S)[1]? = some (.int (g_T2 S)) := rfl
theorem mV_T3 (md : Nat → Nat) (S : ST) : (mF md S)[2]? = some (.int (g_T3 S)) := rfl
theorem mV_Df (md : Nat → Nat) (S : ST) : (mF md S)[14]? = some (.int (g_Df S)) := rfl
theorem mV_Dl (md : Nat → Nat) (S : ST) : (mF md S)[15]? = some (.int (g_Dl S)) := rfl
theorem mV_N (md : Nat → Nat) (S : ST) : (mF md S)[3]? = some (.int (nI (g_N S))) := rfl
theorem mV_4 (md : Nat → Nat) (S : ST) : (mF md S)[4]? = some (.ref (md 1)) := rfl
theorem mV_5 (md : Nat → Nat) (S : ST) : (mF md S)[5]? = some (.ref (md 2)) := rfl
theorem mV_6 (md : Nat → Nat) (S : ST) : (mF md S)[6]? = some (.ref (md 3)) := rfl
theorem mV_7 (md : Nat → Nat) (S : ST) : (mF md S)[7]? = some (.ref (md 4)) := rfl
theorem mV_8 (md : Nat → Nat) (S : ST) : (mF md S)[8]? = some (.ref (md 5)) := rfl
theorem mV_9 (md : Nat → Nat) (S : ST) : (mF md S)[9]? = some (.ref (md 6)) := rfl
theorem mV_10 (md : Nat → Nat) (S : ST) : (mF md S)[10]? = some (.ref (md 7)) := rfl
theorem mV_11 (md : Nat → Nat) (S : ST) : (mF md S)[11]? = some (.ref (md 8)) := rfl
theorem mV_12 (md : Nat → Nat) (S : ST) : (mF md S)[12]? = some (.ref (md 9)) := rfl
theorem mV_13 (md : Nat → Nat) (S : ST) : (mF md S)[13]? = some (.ref (md 10)) := rfl
def xF (ad : Nat → Nat) (S : ST) : List Value := [.ref (ad 1), .ref (ad 2), .ref (ad 3), .int (nI (g_N S)), .int (g_T1 S), .int (g_T2 S), .int (g_T3 S), .int (g_Df S), .int (g_Dl S)]
theorem xO (cI cZ cP : ClassId) (ad : Nat → Nat) (pd : Nat → Nat → Nat) (S : ST) : (xW cI cZ cP ad pd S)[0]? = some (ad 0, .inr (1, xF ad S)) := rfl
theorem xG_P (cI cZ cP : ClassId) (ad : Nat → Nat) (pd : Nat → Nat → Nat) (S : ST) : (xW cI cZ cP ad pd S)[1]? = some (ad 1, .inl (cP, 5, .inr (.inr (.inr (.inr (xR pd (g_N S))))))) := rfl
theorem xG_Ho (cI cZ cP : ClassId) (ad : Nat → Nat) (pd : Nat → Nat → Nat) (S : ST) : (xW cI cZ cP ad pd S)[2]? = some (ad 2, .inl (cI, 16, .inl (g_Ho S))) := rfl
theorem xG_Hs (cI cZ cP : ClassId) (ad : Nat → Nat) (pd : Nat → Nat → Nat) (S : ST) : (xW cI cZ cP ad pd S)[3]? = some (ad 3, .inl (cZ, 16, .inl (g_Hs S))) := rfl
theorem xS_Ho (cI cZ cP : ClassId) (ad : Nat → Nat) (pd : Nat → Nat → Nat) (S : ST) (L : FR) : (xW cI cZ cP ad pd S).set 2 (ad 2, .inl (cI, 16, .inl L)) = xW cI cZ cP ad pd (s_Ho S L) := rfl
theorem xS_Hs (cI cZ cP : ClassId) (ad : Nat → Nat) (pd : Nat → Nat → Nat) (S : ST) (L : FR) : (xW cI cZ cP ad pd S).set 3 (ad 3, .inl (cZ, 16, .inl L)) = xW cI cZ cP ad pd (s_Hs S L) := rfl
theorem xS_HsHz (cI cZ cP : ClassId) (ad : Nat → Nat) (pd : Nat → Nat → Nat) (S : ST) (V L : FR) : (xW cI cZ cP ad pd S).set 3 (ad 3, .inl (cZ, 16, .inl L)) = xW cI cZ cP ad pd (s_Hz (s_Hs S L) V) := rfl
theorem xW_Hz (cI cZ cP : ClassId) (ad : Nat → Nat) (pd : Nat → Nat → Nat) (S : ST) (V : FR) : xW cI cZ cP ad pd (s_Hz S V) = xW cI cZ cP ad pd S := rfl
theorem xP_T1 (cI cZ cP : ClassId) (ad : Nat → Nat) (pd : Nat → Nat → Nat) (S : ST) (v : Int32) : (xW cI cZ cP ad pd S).set 0 (ad 0, .inr (1, (xF ad S).set 4 (.int v))) = xW cI cZ cP ad pd (s_T1 S v) := rfl
theorem xV_T1 (ad : Nat → Nat) (S : ST) : (xF ad S)[4]? = some (.int (g_T1 S)) := rfl
theorem xP_T2 (cI cZ cP : ClassId) (ad : Nat → Nat) (pd : Nat → Nat → Nat) (S : ST) (v : Int32) : (xW cI cZ cP ad pd S).set 0 (ad 0, .inr (1, (xF ad S).set 5 (.int v))) = xW cI cZ cP ad pd (s_T2 S v) := rfl
theorem xV_T2 (ad : Nat → Nat) (S : ST) : (xF ad S)[5]? = some (.int (g_T2 S)) := rfl
theorem xP_T3 (cI cZ cP : ClassId) (ad : Nat → Nat) (pd : Nat → Nat → Nat) (S : ST) (v : Int32) : (xW cI cZ cP ad pd S).set 0 (ad 0, .inr (1, (xF ad S).set 6 (.int v))) = xW cI cZ cP ad pd (s_T3 S v) := rfl
theorem xV_T3 (ad : Nat → Nat) (S : ST) : (xF ad S)[6]? = some (.int (g_T3 S)) := rfl
theorem xP_Df (cI cZ cP : ClassId) (ad : Nat → Nat) (pd : Nat → Nat → Nat) (S : ST) (v : Int32) : (xW cI cZ cP ad pd S).set 0 (ad 0, .inr (1, (xF ad S).set 7 (.int v))) = xW cI cZ cP ad pd (s_Df S v) := rfl
theorem xV_Df (ad : Nat → Nat) (S : ST) : (xF ad S)[7]? = some (.int (g_Df S)) := rfl
theorem xP_Dl (cI cZ cP : ClassId) (ad : Nat → Nat) (pd : Nat → Nat → Nat) (S : ST) (v : Int32) : (xW cI cZ cP ad pd S).set 0 (ad 0, .inr (1, (xF ad S).set 8 (.int v))) = xW cI cZ cP ad pd (s_Dl S v) := rfl
theorem xV_Dl (ad : Nat → Nat) (S : ST) : (xF ad S)[8]? = some (.int (g_Dl S)) := rfl
theorem xV_N (ad : Nat → Nat) (S : ST) : (xF ad S)[3]? = some (.int (nI (g_N S))) := rfl
theorem xV_0 (ad : Nat → Nat) (S : ST) : (xF ad S)[0]? = some (.ref (ad 1)) := rfl
theorem xV_1 (ad : Nat → Nat) (S : ST) : (xF ad S)[1]? = some (.ref (ad 2)) := rfl
theorem xV_2 (ad : Nat → Nat) (S : ST) : (xF ad S)[2]? = some (.ref (ad 3)) := rfl
def pF (pd : Nat → Nat → Nat) (S : ST) (k : Nat) : List Value := [.int (g_Gr S k), .ref (pd k 1), .ref (pd k 2), .ref (pd k 3), .int (g_St S k), .int (g_Rt S k), .int (g_Sl S k), .int (mkI (g_Hm S k))]
theorem yO (cI cZ cP : ClassId) (ad : Nat → Nat) (pd : Nat → Nat → Nat) (S : ST) {k : Nat} (hk : k < g_N S) : (xW cI cZ cP ad pd S)[4 + (4 * k + 0)]? = some (pd k 0, .inr (0, pF pd S k)) := xW_get hk 0 (by decide) rfl
theorem yG_Of (cI cZ cP : ClassId) (ad : Nat → Nat) (pd : Nat → Nat → Nat) (S : ST) {k : Nat} (hk : k < g_N S) : (xW cI cZ cP ad pd S)[4 + (4 * k + 1)]? = some (pd k 1, .inl (cI, 16, .inl (g_Of S k))) := xW_get hk 1 (by decide) rfl
theorem yG_Le (cI cZ cP : ClassId) (ad : Nat → Nat) (pd : Nat → Nat → Nat) (S : ST) {k : Nat} (hk : k < g_N S) : (xW cI cZ cP ad pd S)[4 + (4 * k + 2)]? = some (pd k 2, .inl (cI, 16, .inl (g_Le S k))) := xW_get hk 2 (by decide) rfl
theorem yG_Ss (cI cZ cP : ClassId) (ad : Nat → Nat) (pd : Nat → Nat → Nat) (S : ST) {k : Nat} (hk : k < g_N S) : (xW cI cZ cP ad pd S)[4 + (4 * k + 3)]? = some (pd k 3, .inl (cZ, 16, .inl (g_Ss S k))) := xW_get hk 3 (by decide) rfl
theorem yV_0 (pd : Nat → Nat → Nat) (S : ST) (k : Nat) : (pF pd S k)[0]? = some (.int (g_Gr S k)) := rfl
theorem yV_1 (pd : Nat → Nat → Nat) (S : ST) (k : Nat) : (pF pd S k)[1]? = some (.ref (pd k 1)) := rfl
theorem yV_2 (pd : Nat → Nat → Nat) (S : ST) (k : Nat) : (pF pd S k)[2]? = some (.ref (pd k 2)) := rfl
theorem yV_3 (pd : Nat → Nat → Nat) (S : ST) (k : Nat) : (pF pd S k)[3]? = some (.ref (pd k 3)) := rfl
theorem yV_4 (pd : Nat → Nat → Nat) (S : ST) (k : Nat) : (pF pd S k)[4]? = some (.int (g_St S k)) := rfl
theorem yV_5 (pd : Nat → Nat → Nat) (S : ST) (k : Nat) : (pF pd S k)[5]? = some (.int (g_Rt S k)) := rfl
theorem yV_6 (pd : Nat → Nat → Nat) (S : ST) (k : Nat) : (pF pd S k)[6]? = some (.int (g_Sl S k)) := rfl
theorem yV_7 (pd : Nat → Nat → Nat) (S : ST) (k : Nat) : (pF pd S k)[7]? = some (.int (mkI (g_Hm S k))) := rfl
/-- states that differ at one peer's rows and numbers alone -/
theorem xOne_of {cI cZ : ClassId} {pd : Nat → Nat → Nat} {S S1 : ST} {k : Nat} (hN : g_N S1 = g_N S) (h1 : g_T1 S1 = g_T1 S) (h2 : g_T2 S1 = g_T2 S) (h3 : g_T3 S1 = g_T3 S) (h4 : g_Df S1 = g_Df S) (h5 : g_Dl S1 = g_Dl S) (h6 : g_Ho S1 = g_Ho S) (h7 : g_Hs S1 = g_Hs S)
    (hGr : ∀ i, i ≠ k → g_Gr S1 i = g_Gr S i) (hOf : ∀ i, i ≠ k → g_Of S1 i = g_Of S i) (hLe : ∀ i, i ≠ k → g_Le S1 i = g_Le S i) (hSs : ∀ i, i ≠ k → g_Ss S1 i = g_Ss S i) (hSt : ∀ i, i ≠ k → g_St S1 i = g_St S i) (hRt : ∀ i, i ≠ k → g_Rt S1 i = g_Rt S i) (hSl : ∀ i, i ≠ k → g_Sl S1 i = g_Sl S i) (hHm : ∀ i, i ≠ k → g_Hm S1 i = g_Hm S i) : xOne cI cZ pd S S1 k := by
  refine ⟨hN, h1, h2, h3, h4, h5, h6, h7, fun i hi => ?_⟩
  unfold xB
  rw [hGr i hi, hOf i hi, hLe i hi, hSs i hi, hSt i hi, hRt i hi, hSl i hi, hHm i hi]
theorem ne_va {α : Type} {f : Nat → α} {k : Nat} {v : α} (i : Nat) (h : i ≠ k) : va_up f k v i = f i := va_up_ne f v h
theorem ne_upd {f : FR} {k : Nat} {v : Int32} (i : Nat) (h : i ≠ k) : upd f k v i = f i := by simp [upd, h]
theorem ne_rf {α : Type} {f : Nat → α} {k : Nat} (i : Nat) (_ : i ≠ k) : f i = f i := rfl

