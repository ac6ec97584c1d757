/-! what each step leaves as it was -/
theorem o_RmS_T1 (S : ST) (p : Nat) : g_T1 (o_RmS S p) = g_T1 S := rfl
theorem o_RmS_T2 (S : ST) (p : Nat) : g_T2 (o_RmS S p) = g_T2 S := rfl
theorem o_RmS_T3 (S : ST) (p : Nat) : g_T3 (o_RmS S p) = g_T3 S := rfl
theorem o_RmS_N (S : ST) (p : Nat) : g_N (o_RmS S p) = g_N S := rfl
theorem o_RmS_Gr (S : ST) (p : Nat) : g_Gr (o_RmS S p) = g_Gr S := rfl
theorem o_RmS_St (S : ST) (p : Nat) : g_St (o_RmS S p) = g_St S := rfl
theorem o_RmS_Rt (S : ST) (p : Nat) : g_Rt (o_RmS S p) = g_Rt S := rfl
theorem o_RmS_Sl (S : ST) (p : Nat) : g_Sl (o_RmS S p) = g_Sl S := rfl
theorem o_RmS_Hm (S : ST) (p : Nat) : g_Hm (o_RmS S p) = g_Hm S := rfl
theorem o_RmS_Of (S : ST) (p : Nat) : g_Of (o_RmS S p) = g_Of S := rfl
theorem o_RmS_Ho (S : ST) (p : Nat) : g_Ho (o_RmS S p) = g_Ho S := rfl
theorem o_RmS_Hs (S : ST) (p : Nat) : g_Hs (o_RmS S p) = g_Hs S := rfl
theorem o_RmS_Hz (S : ST) (p : Nat) : g_Hz (o_RmS S p) = g_Hz S := rfl
theorem o_RmS_Df (S : ST) (p : Nat) : g_Df (o_RmS S p) = g_Df S := rfl
theorem o_RmS_Dl (S : ST) (p : Nat) : g_Dl (o_RmS S p) = g_Dl S := rfl
theorem o_RmL_T1 (S : ST) (p : Nat) : g_T1 (o_RmL S p) = g_T1 S := rfl
theorem o_RmL_T2 (S : ST) (p : Nat) : g_T2 (o_RmL S p) = g_T2 S := rfl
theorem o_RmL_T3 (S : ST) (p : Nat) : g_T3 (o_RmL S p) = g_T3 S := rfl
theorem o_RmL_N (S : ST) (p : Nat) : g_N (o_RmL S p) = g_N S := rfl
theorem o_RmL_Gr (S : ST) (p : Nat) : g_Gr (o_RmL S p) = g_Gr S := rfl
theorem o_RmL_St (S : ST) (p : Nat) : g_St (o_RmL S p) = g_St S := rfl
theorem o_RmL_Rt (S : ST) (p : Nat) : g_Rt (o_RmL S p) = g_Rt S := rfl
theorem o_RmL_Sl (S : ST) (p : Nat) : g_Sl (o_RmL S p) = g_Sl S := rfl
theorem o_RmL_Hm (S : ST) (p : Nat) : g_Hm (o_RmL S p) = g_Hm S := rfl
theorem o_RmL_Of (S : ST) (p : Nat) : g_Of (o_RmL S p) = g_Of S := rfl
theorem o_RmL_Ho (S : ST) (p : Nat) : g_Ho (o_RmL S p) = g_Ho S := rfl
theorem o_RmL_Hs (S : ST) (p : Nat) : g_Hs (o_RmL S p) = g_Hs S := rfl
theorem o_RmL_Hz (S : ST) (p : Nat) : g_Hz (o_RmL S p) = g_Hz S := rfl
theorem o_RmL_Df (S : ST) (p : Nat) : g_Df (o_RmL S p) = g_Df S := rfl
theorem o_RmL_Dl (S : ST) (p : Nat) : g_Dl (o_RmL S p) = g_Dl S := rfl
theorem o_Down_T1 (S : ST) (p : Nat) : g_T1 (o_Down S p) = g_T1 S := rfl
theorem o_Down_T2 (S : ST) (p : Nat) : g_T2 (o_Down S p) = g_T2 S := rfl
theorem o_Down_T3 (S : ST) (p : Nat) : g_T3 (o_Down S p) = g_T3 S := rfl
theorem o_Down_N (S : ST) (p : Nat) : g_N (o_Down S p) = g_N S := rfl
theorem o_Down_Gr (S : ST) (p : Nat) : g_Gr (o_Down S p) = g_Gr S := rfl
theorem o_Down_Hm (S : ST) (p : Nat) : g_Hm (o_Down S p) = g_Hm S := rfl
theorem o_Down_Of (S : ST) (p : Nat) : g_Of (o_Down S p) = g_Of S := rfl
theorem o_Down_Ho (S : ST) (p : Nat) : g_Ho (o_Down S p) = g_Ho S := rfl
theorem o_Down_Hs (S : ST) (p : Nat) : g_Hs (o_Down S p) = g_Hs S := rfl
theorem o_Down_Hz (S : ST) (p : Nat) : g_Hz (o_Down S p) = g_Hz S := rfl
theorem o_Down_Df (S : ST) (p : Nat) : g_Df (o_Down S p) = g_Df S := rfl
theorem o_Down_Dl (S : ST) (p : Nat) : g_Dl (o_Down S p) = g_Dl S := rfl
theorem o_Lose_T1 (S : ST) (p : Nat) : g_T1 (o_Lose S p) = g_T1 S := by
  unfold o_Lose
  repeat' split
  all_goals rfl
theorem o_Lose_T2 (S : ST) (p : Nat) : g_T2 (o_Lose S p) = g_T2 S := by
  unfold o_Lose
  repeat' split
  all_goals rfl
theorem o_Lose_T3 (S : ST) (p : Nat) : g_T3 (o_Lose S p) = g_T3 S := by
  unfold o_Lose
  repeat' split
  all_goals rfl
theorem o_Lose_N (S : ST) (p : Nat) : g_N (o_Lose S p) = g_N S := by
  unfold o_Lose
  repeat' split
  all_goals rfl
theorem o_Lose_Gr (S : ST) (p : Nat) : g_Gr (o_Lose S p) = g_Gr S := by
  unfold o_Lose
  repeat' split
  all_goals rfl
theorem o_Lose_Hm (S : ST) (p : Nat) : g_Hm (o_Lose S p) = g_Hm S := by
  unfold o_Lose
  repeat' split
  all_goals rfl
theorem o_Lose_Of (S : ST) (p : Nat) : g_Of (o_Lose S p) = g_Of S := by
  unfold o_Lose
  repeat' split
  all_goals rfl
theorem o_Lose_Ho (S : ST) (p : Nat) : g_Ho (o_Lose S p) = g_Ho S := by
  unfold o_Lose
  repeat' split
  all_goals rfl
theorem o_Lose_Hs (S : ST) (p : Nat) : g_Hs (o_Lose S p) = g_Hs S := by
  unfold o_Lose
  repeat' split
  all_goals rfl
theorem o_Lose_Hz (S : ST) (p : Nat) : g_Hz (o_Lose S p) = g_Hz S := by
  unfold o_Lose
  repeat' split
  all_goals rfl
theorem o_Lose_Df (S : ST) (p : Nat) : g_Df (o_Lose S p) = g_Df S := by
  unfold o_Lose
  repeat' split
  all_goals rfl
theorem o_Lose_Dl (S : ST) (p : Nat) : g_Dl (o_Lose S p) = g_Dl S := by
  unfold o_Lose
  repeat' split
  all_goals rfl
theorem o_Meet_T1 (S : ST) (p : Nat) : g_T1 (o_Meet S p) = g_T1 S := by
  unfold o_Meet
  repeat' split
  all_goals rfl
theorem o_Meet_T2 (S : ST) (p : Nat) : g_T2 (o_Meet S p) = g_T2 S := by
  unfold o_Meet
  repeat' split
  all_goals rfl
theorem o_Meet_T3 (S : ST) (p : Nat) : g_T3 (o_Meet S p) = g_T3 S := by
  unfold o_Meet
  repeat' split
  all_goals rfl
theorem o_Meet_N (S : ST) (p : Nat) : g_N (o_Meet S p) = g_N S := by
  unfold o_Meet
  repeat' split
  all_goals rfl
theorem o_Meet_Gr (S : ST) (p : Nat) : g_Gr (o_Meet S p) = g_Gr S := by
  unfold o_Meet
  repeat' split
  all_goals rfl
theorem o_Meet_Hm (S : ST) (p : Nat) : g_Hm (o_Meet S p) = g_Hm S := by
  unfold o_Meet
  repeat' split
  all_goals rfl
theorem o_Meet_Of (S : ST) (p : Nat) : g_Of (o_Meet S p) = g_Of S := by
  unfold o_Meet
  repeat' split
  all_goals rfl
theorem o_Meet_Le (S : ST) (p : Nat) : g_Le (o_Meet S p) = g_Le S := by
  unfold o_Meet
  repeat' split
  all_goals rfl
theorem o_Meet_Ss (S : ST) (p : Nat) : g_Ss (o_Meet S p) = g_Ss S := by
  unfold o_Meet
  repeat' split
  all_goals rfl
theorem o_Meet_Ho (S : ST) (p : Nat) : g_Ho (o_Meet S p) = g_Ho S := by
  unfold o_Meet
  repeat' split
  all_goals rfl
theorem o_Meet_Hs (S : ST) (p : Nat) : g_Hs (o_Meet S p) = g_Hs S := by
  unfold o_Meet
  repeat' split
  all_goals rfl
theorem o_Meet_Hz (S : ST) (p : Nat) : g_Hz (o_Meet S p) = g_Hz S := by
  unfold o_Meet
  repeat' split
  all_goals rfl
theorem o_Meet_Df (S : ST) (p : Nat) : g_Df (o_Meet S p) = g_Df S := by
  unfold o_Meet
  repeat' split
  all_goals rfl
theorem o_Meet_Dl (S : ST) (p : Nat) : g_Dl (o_Meet S p) = g_Dl S := by
  unfold o_Meet
  repeat' split
  all_goals rfl
theorem o_ERes_T1 (S : ST) (p : Nat) : g_T1 (o_ERes S p) = g_T1 S := rfl
theorem o_ERes_T2 (S : ST) (p : Nat) : g_T2 (o_ERes S p) = g_T2 S := rfl
theorem o_ERes_T3 (S : ST) (p : Nat) : g_T3 (o_ERes S p) = g_T3 S := rfl
theorem o_ERes_N (S : ST) (p : Nat) : g_N (o_ERes S p) = g_N S := rfl
theorem o_ERes_Gr (S : ST) (p : Nat) : g_Gr (o_ERes S p) = g_Gr S := rfl
theorem o_ERes_St (S : ST) (p : Nat) : g_St (o_ERes S p) = g_St S := rfl
theorem o_ERes_Rt (S : ST) (p : Nat) : g_Rt (o_ERes S p) = g_Rt S := rfl
theorem o_ERes_Hm (S : ST) (p : Nat) : g_Hm (o_ERes S p) = g_Hm S := rfl
theorem o_ERes_Of (S : ST) (p : Nat) : g_Of (o_ERes S p) = g_Of S := rfl
theorem o_ERes_Ho (S : ST) (p : Nat) : g_Ho (o_ERes S p) = g_Ho S := rfl
theorem o_ERes_Hs (S : ST) (p : Nat) : g_Hs (o_ERes S p) = g_Hs S := rfl
theorem o_ERes_Hz (S : ST) (p : Nat) : g_Hz (o_ERes S p) = g_Hz S := rfl
theorem o_ERes_Df (S : ST) (p : Nat) : g_Df (o_ERes S p) = g_Df S := rfl
theorem o_ERes_Dl (S : ST) (p : Nat) : g_Dl (o_ERes S p) = g_Dl S := rfl
theorem o_CDa_T1 (S : ST) (p : Nat) : g_T1 ((o_CDa S p).2) = g_T1 S := by
  unfold o_CDa
  repeat' split
  all_goals rfl
theorem o_CDa_T2 (S : ST) (p : Nat) : g_T2 ((o_CDa S p).2) = g_T2 S := by
  unfold o_CDa
  repeat' split
  all_goals rfl
theorem o_CDa_T3 (S : ST) (p : Nat) : g_T3 ((o_CDa S p).2) = g_T3 S := by
  unfold o_CDa
  repeat' split
  all_goals rfl
theorem o_CDa_N (S : ST) (p : Nat) : g_N ((o_CDa S p).2) = g_N S := by
  unfold o_CDa
  repeat' split
  all_goals rfl
theorem o_CDa_Gr (S : ST) (p : Nat) : g_Gr ((o_CDa S p).2) = g_Gr S := by
  unfold o_CDa
  repeat' split
  all_goals rfl
theorem o_CDa_Hm (S : ST) (p : Nat) : g_Hm ((o_CDa S p).2) = g_Hm S := by
  unfold o_CDa
  repeat' split
  all_goals rfl
theorem o_CDa_Of (S : ST) (p : Nat) : g_Of ((o_CDa S p).2) = g_Of S := by
  unfold o_CDa
  repeat' split
  all_goals rfl
theorem o_CDa_Ho (S : ST) (p : Nat) : g_Ho ((o_CDa S p).2) = g_Ho S := by
  unfold o_CDa
  repeat' split
  all_goals rfl
theorem o_CDa_Hs (S : ST) (p : Nat) : g_Hs ((o_CDa S p).2) = g_Hs S := by
  unfold o_CDa
  repeat' split
  all_goals rfl
theorem o_CDa_Hz (S : ST) (p : Nat) : g_Hz ((o_CDa S p).2) = g_Hz S := by
  unfold o_CDa
  repeat' split
  all_goals rfl
theorem o_CDa_Df (S : ST) (p : Nat) : g_Df ((o_CDa S p).2) = g_Df S := by
  unfold o_CDa
  repeat' split
  all_goals rfl
theorem o_CDa_Dl (S : ST) (p : Nat) : g_Dl ((o_CDa S p).2) = g_Dl S := by
  unfold o_CDa
  repeat' split
  all_goals rfl
theorem o_CDb_T1 (S : ST) (p : Nat) : g_T1 ((o_CDb S p).2) = g_T1 S := by
  unfold o_CDb
  repeat' split
  all_goals rfl
theorem o_CDb_T2 (S : ST) (p : Nat) : g_T2 ((o_CDb S p).2) = g_T2 S := by
  unfold o_CDb
  repeat' split
  all_goals rfl
theorem o_CDb_T3 (S : ST) (p : Nat) : g_T3 ((o_CDb S p).2) = g_T3 S := by
  unfold o_CDb
  repeat' split
  all_goals rfl
theorem o_CDb_N (S : ST) (p : Nat) : g_N ((o_CDb S p).2) = g_N S := by
  unfold o_CDb
  repeat' split
  all_goals rfl
theorem o_CDb_Gr (S : ST) (p : Nat) : g_Gr ((o_CDb S p).2) = g_Gr S := by
  unfold o_CDb
  repeat' split
  all_goals rfl
theorem o_CDb_St (S : ST) (p : Nat) : g_St ((o_CDb S p).2) = g_St S := by
  unfold o_CDb
  repeat' split
  all_goals rfl
theorem o_CDb_Rt (S : ST) (p : Nat) : g_Rt ((o_CDb S p).2) = g_Rt S := by
  unfold o_CDb
  repeat' split
  all_goals rfl
theorem o_CDb_Hm (S : ST) (p : Nat) : g_Hm ((o_CDb S p).2) = g_Hm S := by
  unfold o_CDb
  repeat' split
  all_goals rfl
theorem o_CDb_Of (S : ST) (p : Nat) : g_Of ((o_CDb S p).2) = g_Of S := by
  unfold o_CDb
  repeat' split
  all_goals rfl
theorem o_CDb_Ho (S : ST) (p : Nat) : g_Ho ((o_CDb S p).2) = g_Ho S := by
  unfold o_CDb
  repeat' split
  all_goals rfl
theorem o_CDb_Hs (S : ST) (p : Nat) : g_Hs ((o_CDb S p).2) = g_Hs S := by
  unfold o_CDb
  repeat' split
  all_goals rfl
theorem o_CDb_Hz (S : ST) (p : Nat) : g_Hz ((o_CDb S p).2) = g_Hz S := by
  unfold o_CDb
  repeat' split
  all_goals rfl
theorem o_CDb_Df (S : ST) (p : Nat) : g_Df ((o_CDb S p).2) = g_Df S := by
  unfold o_CDb
  repeat' split
  all_goals rfl
theorem o_CDb_Dl (S : ST) (p : Nat) : g_Dl ((o_CDb S p).2) = g_Dl S := by
  unfold o_CDb
  repeat' split
  all_goals rfl
theorem o_CD_T1 (S : ST) (p : Nat) : g_T1 ((o_CD S p).2) = g_T1 S := (o_CDb_T1 _ p).trans (o_CDa_T1 S p)
theorem o_CD_T2 (S : ST) (p : Nat) : g_T2 ((o_CD S p).2) = g_T2 S := (o_CDb_T2 _ p).trans (o_CDa_T2 S p)
theorem o_CD_T3 (S : ST) (p : Nat) : g_T3 ((o_CD S p).2) = g_T3 S := (o_CDb_T3 _ p).trans (o_CDa_T3 S p)
theorem o_CD_N (S : ST) (p : Nat) : g_N ((o_CD S p).2) = g_N S := (o_CDb_N _ p).trans (o_CDa_N S p)
theorem o_CD_Gr (S : ST) (p : Nat) : g_Gr ((o_CD S p).2) = g_Gr S := (o_CDb_Gr _ p).trans (o_CDa_Gr S p)
theorem o_CD_Hm (S : ST) (p : Nat) : g_Hm ((o_CD S p).2) = g_Hm S := (o_CDb_Hm _ p).trans (o_CDa_Hm S p)
theorem o_CD_Of (S : ST) (p : Nat) : g_Of ((o_CD S p).2) = g_Of S := (o_CDb_Of _ p).trans (o_CDa_Of S p)
theorem o_CD_Ho (S : ST) (p : Nat) : g_Ho ((o_CD S p).2) = g_Ho S := (o_CDb_Ho _ p).trans (o_CDa_Ho S p)
theorem o_CD_Hs (S : ST) (p : Nat) : g_Hs ((o_CD S p).2) = g_Hs S := (o_CDb_Hs _ p).trans (o_CDa_Hs S p)
theorem o_CD_Hz (S : ST) (p : Nat) : g_Hz ((o_CD S p).2) = g_Hz S := (o_CDb_Hz _ p).trans (o_CDa_Hz S p)
theorem o_CD_Df (S : ST) (p : Nat) : g_Df ((o_CD S p).2) = g_Df S := (o_CDb_Df _ p).trans (o_CDa_Df S p)
theorem o_CD_Dl (S : ST) (p : Nat) : g_Dl ((o_CD S p).2) = g_Dl S := (o_CDb_Dl _ p).trans (o_CDa_Dl S p)
theorem a_1_T1 (S : ST) (r : Nat) (hop len : Int32) (p : Nat) : g_T1 (a_1 S r hop len p) = g_T1 S := by
  unfold a_1
  repeat' split
  all_goals rfl
theorem a_1_T2 (S : ST) (r : Nat) (hop len : Int32) (p : Nat) : g_T2 (a_1 S r hop len p) = g_T2 S := by
  unfold a_1
  repeat' split
  all_goals rfl
theorem a_1_T3 (S : ST) (r : Nat) (hop len : Int32) (p : Nat) : g_T3 (a_1 S r hop len p) = g_T3 S := by
  unfold a_1
  repeat' split
  all_goals rfl
theorem a_1_N (S : ST) (r : Nat) (hop len : Int32) (p : Nat) : g_N (a_1 S r hop len p) = g_N S := by
  unfold a_1
  repeat' split
  all_goals rfl
theorem a_1_Gr (S : ST) (r : Nat) (hop len : Int32) (p : Nat) : g_Gr (a_1 S r hop len p) = g_Gr S := by
  unfold a_1
  repeat' split
  all_goals rfl
theorem a_1_St (S : ST) (r : Nat) (hop len : Int32) (p : Nat) : g_St (a_1 S r hop len p) = g_St S := by
  unfold a_1
  repeat' split
  all_goals rfl
theorem a_1_Rt (S : ST) (r : Nat) (hop len : Int32) (p : Nat) : g_Rt (a_1 S r hop len p) = g_Rt S := by
  unfold a_1
  repeat' split
  all_goals rfl
theorem a_1_Sl (S : ST) (r : Nat) (hop len : Int32) (p : Nat) : g_Sl (a_1 S r hop len p) = g_Sl S := by
  unfold a_1
  repeat' split
  all_goals rfl
theorem a_1_Hm (S : ST) (r : Nat) (hop len : Int32) (p : Nat) : g_Hm (a_1 S r hop len p) = g_Hm S := by
  unfold a_1
  repeat' split
  all_goals rfl
theorem a_1_Of (S : ST) (r : Nat) (hop len : Int32) (p : Nat) : g_Of (a_1 S r hop len p) = g_Of S := by
  unfold a_1
  repeat' split
  all_goals rfl
theorem a_1_Ho (S : ST) (r : Nat) (hop len : Int32) (p : Nat) : g_Ho (a_1 S r hop len p) = g_Ho S := by
  unfold a_1
  repeat' split
  all_goals rfl
theorem a_1_Hs (S : ST) (r : Nat) (hop len : Int32) (p : Nat) : g_Hs (a_1 S r hop len p) = g_Hs S := by
  unfold a_1
  repeat' split
  all_goals rfl
theorem a_1_Hz (S : ST) (r : Nat) (hop len : Int32) (p : Nat) : g_Hz (a_1 S r hop len p) = g_Hz S := by
  unfold a_1
  repeat' split
  all_goals rfl
theorem a_1_Df (S : ST) (r : Nat) (hop len : Int32) (p : Nat) : g_Df (a_1 S r hop len p) = g_Df S := by
  unfold a_1
  repeat' split
  all_goals rfl
theorem a_1_Dl (S : ST) (r : Nat) (hop len : Int32) (p : Nat) : g_Dl (a_1 S r hop len p) = g_Dl S := by
  unfold a_1
  repeat' split
  all_goals rfl
theorem a_i_T1 (S : ST) (r : Nat) (hop len : Int32) (i : Nat) : g_T1 (a_i S r hop len i) = g_T1 S := by
  induction i with
  | zero => rfl
  | succ i ih => exact (a_1_T1 _ r hop len i).trans ih
theorem a_i_T2 (S : ST) (r : Nat) (hop len : Int32) (i : Nat) : g_T2 (a_i S r hop len i) = g_T2 S := by
  induction i with
  | zero => rfl
  | succ i ih => exact (a_1_T2 _ r hop len i).trans ih
theorem a_i_T3 (S : ST) (r : Nat) (hop len : Int32) (i : Nat) : g_T3 (a_i S r hop len i) = g_T3 S := by
  induction i with
  | zero => rfl
  | succ i ih => exact (a_1_T3 _ r hop len i).trans ih
theorem a_i_N (S : ST) (r : Nat) (hop len : Int32) (i : Nat) : g_N (a_i S r hop len i) = g_N S := by
  induction i with
  | zero => rfl
  | succ i ih => exact (a_1_N _ r hop len i).trans ih
theorem a_i_Gr (S : ST) (r : Nat) (hop len : Int32) (i : Nat) : g_Gr (a_i S r hop len i) = g_Gr S := by
  induction i with
  | zero => rfl
  | succ i ih => exact (a_1_Gr _ r hop len i).trans ih
theorem a_i_St (S : ST) (r : Nat) (hop len : Int32) (i : Nat) : g_St (a_i S r hop len i) = g_St S := by
  induction i with
  | zero => rfl
  | succ i ih => exact (a_1_St _ r hop len i).trans ih
theorem a_i_Rt (S : ST) (r : Nat) (hop len : Int32) (i : Nat) : g_Rt (a_i S r hop len i) = g_Rt S := by
  induction i with
  | zero => rfl
  | succ i ih => exact (a_1_Rt _ r hop len i).trans ih
theorem a_i_Sl (S : ST) (r : Nat) (hop len : Int32) (i : Nat) : g_Sl (a_i S r hop len i) = g_Sl S := by
  induction i with
  | zero => rfl
  | succ i ih => exact (a_1_Sl _ r hop len i).trans ih
theorem a_i_Hm (S : ST) (r : Nat) (hop len : Int32) (i : Nat) : g_Hm (a_i S r hop len i) = g_Hm S := by
  induction i with
  | zero => rfl
  | succ i ih => exact (a_1_Hm _ r hop len i).trans ih
theorem a_i_Of (S : ST) (r : Nat) (hop len : Int32) (i : Nat) : g_Of (a_i S r hop len i) = g_Of S := by
  induction i with
  | zero => rfl
  | succ i ih => exact (a_1_Of _ r hop len i).trans ih
theorem a_i_Ho (S : ST) (r : Nat) (hop len : Int32) (i : Nat) : g_Ho (a_i S r hop len i) = g_Ho S := by
  induction i with
  | zero => rfl
  | succ i ih => exact (a_1_Ho _ r hop len i).trans ih
theorem a_i_Hs (S : ST) (r : Nat) (hop len : Int32) (i : Nat) : g_Hs (a_i S r hop len i) = g_Hs S := by
  induction i with
  | zero => rfl
  | succ i ih => exact (a_1_Hs _ r hop len i).trans ih
theorem a_i_Hz (S : ST) (r : Nat) (hop len : Int32) (i : Nat) : g_Hz (a_i S r hop len i) = g_Hz S := by
  induction i with
  | zero => rfl
  | succ i ih => exact (a_1_Hz _ r hop len i).trans ih
theorem a_i_Df (S : ST) (r : Nat) (hop len : Int32) (i : Nat) : g_Df (a_i S r hop len i) = g_Df S := by
  induction i with
  | zero => rfl
  | succ i ih => exact (a_1_Df _ r hop len i).trans ih
theorem a_i_Dl (S : ST) (r : Nat) (hop len : Int32) (i : Nat) : g_Dl (a_i S r hop len i) = g_Dl S := by
  induction i with
  | zero => rfl
  | succ i ih => exact (a_1_Dl _ r hop len i).trans ih
theorem o_Sel_T1 (S : ST) (r : Nat) : g_T1 (o_Sel S r) = g_T1 S := (a_i_T1 _ r _ _ _).trans rfl
theorem o_Sel_T2 (S : ST) (r : Nat) : g_T2 (o_Sel S r) = g_T2 S := (a_i_T2 _ r _ _ _).trans rfl
theorem o_Sel_T3 (S : ST) (r : Nat) : g_T3 (o_Sel S r) = g_T3 S := (a_i_T3 _ r _ _ _).trans rfl
theorem o_Sel_N (S : ST) (r : Nat) : g_N (o_Sel S r) = g_N S := (a_i_N _ r _ _ _).trans rfl
theorem o_Sel_Gr (S : ST) (r : Nat) : g_Gr (o_Sel S r) = g_Gr S := (a_i_Gr _ r _ _ _).trans rfl
theorem o_Sel_St (S : ST) (r : Nat) : g_St (o_Sel S r) = g_St S := (a_i_St _ r _ _ _).trans rfl
theorem o_Sel_Rt (S : ST) (r : Nat) : g_Rt (o_Sel S r) = g_Rt S := (a_i_Rt _ r _ _ _).trans rfl
theorem o_Sel_Sl (S : ST) (r : Nat) : g_Sl (o_Sel S r) = g_Sl S := (a_i_Sl _ r _ _ _).trans rfl
theorem o_Sel_Hm (S : ST) (r : Nat) : g_Hm (o_Sel S r) = g_Hm S := (a_i_Hm _ r _ _ _).trans rfl
theorem o_Sel_Of (S : ST) (r : Nat) : g_Of (o_Sel S r) = g_Of S := (a_i_Of _ r _ _ _).trans rfl
theorem o_Sel_Df (S : ST) (r : Nat) : g_Df (o_Sel S r) = g_Df S := (a_i_Df _ r _ _ _).trans rfl
theorem o_Sel_Dl (S : ST) (r : Nat) : g_Dl (o_Sel S r) = g_Dl S := (a_i_Dl _ r _ _ _).trans rfl
theorem o_SA_T1 (S : ST) (i : Nat) : g_T1 (o_SA S i) = g_T1 S := by
  induction i with
  | zero => rfl
  | succ i ih => exact (o_Sel_T1 _ i).trans ih
theorem o_SA_T2 (S : ST) (i : Nat) : g_T2 (o_SA S i) = g_T2 S := by
  induction i with
  | zero => rfl
  | succ i ih => exact (o_Sel_T2 _ i).trans ih
theorem o_SA_T3 (S : ST) (i : Nat) : g_T3 (o_SA S i) = g_T3 S := by
  induction i with
  | zero => rfl
  | succ i ih => exact (o_Sel_T3 _ i).trans ih
theorem o_SA_N (S : ST) (i : Nat) : g_N (o_SA S i) = g_N S := by
  induction i with
  | zero => rfl
  | succ i ih => exact (o_Sel_N _ i).trans ih
theorem o_SA_Gr (S : ST) (i : Nat) : g_Gr (o_SA S i) = g_Gr S := by
  induction i with
  | zero => rfl
  | succ i ih => exact (o_Sel_Gr _ i).trans ih
theorem o_SA_St (S : ST) (i : Nat) : g_St (o_SA S i) = g_St S := by
  induction i with
  | zero => rfl
  | succ i ih => exact (o_Sel_St _ i).trans ih
theorem o_SA_Rt (S : ST) (i : Nat) : g_Rt (o_SA S i) = g_Rt S := by
  induction i with
  | zero => rfl
  | succ i ih => exact (o_Sel_Rt _ i).trans ih
theorem o_SA_Sl (S : ST) (i : Nat) : g_Sl (o_SA S i) = g_Sl S := by
  induction i with
  | zero => rfl
  | succ i ih => exact (o_Sel_Sl _ i).trans ih
theorem o_SA_Hm (S : ST) (i : Nat) : g_Hm (o_SA S i) = g_Hm S := by
  induction i with
  | zero => rfl
  | succ i ih => exact (o_Sel_Hm _ i).trans ih
theorem o_SA_Of (S : ST) (i : Nat) : g_Of (o_SA S i) = g_Of S := by
  induction i with
  | zero => rfl
  | succ i ih => exact (o_Sel_Of _ i).trans ih
theorem o_SA_Df (S : ST) (i : Nat) : g_Df (o_SA S i) = g_Df S := by
  induction i with
  | zero => rfl
  | succ i ih => exact (o_Sel_Df _ i).trans ih
theorem o_SA_Dl (S : ST) (i : Nat) : g_Dl (o_SA S i) = g_Dl S := by
  induction i with
  | zero => rfl
  | succ i ih => exact (o_Sel_Dl _ i).trans ih
theorem o_ER_T1 (S : ST) (i : Nat) : g_T1 (o_ER S i) = g_T1 S := by
  induction i with
  | zero => rfl
  | succ i ih =>
    simp only [o_ER]
    split
    · exact (o_ERes_T1 _ i).trans ih
    · exact ih
theorem o_ER_T2 (S : ST) (i : Nat) : g_T2 (o_ER S i) = g_T2 S := by
  induction i with
  | zero => rfl
  | succ i ih =>
    simp only [o_ER]
    split
    · exact (o_ERes_T2 _ i).trans ih
    · exact ih
theorem o_ER_T3 (S : ST) (i : Nat) : g_T3 (o_ER S i) = g_T3 S := by
  induction i with
  | zero => rfl
  | succ i ih =>
    simp only [o_ER]
    split
    · exact (o_ERes_T3 _ i).trans ih
    · exact ih
theorem o_ER_N (S : ST) (i : Nat) : g_N (o_ER S i) = g_N S := by
  induction i with
  | zero => rfl
  | succ i ih =>
    simp only [o_ER]
    split
    · exact (o_ERes_N _ i).trans ih
    · exact ih
theorem o_ER_Gr (S : ST) (i : Nat) : g_Gr (o_ER S i) = g_Gr S := by
  induction i with
  | zero => rfl
  | succ i ih =>
    simp only [o_ER]
    split
    · exact (o_ERes_Gr _ i).trans ih
    · exact ih
theorem o_ER_St (S : ST) (i : Nat) : g_St (o_ER S i) = g_St S := by
  induction i with
  | zero => rfl
  | succ i ih =>
    simp only [o_ER]
    split
    · exact (o_ERes_St _ i).trans ih
    · exact ih
theorem o_ER_Rt (S : ST) (i : Nat) : g_Rt (o_ER S i) = g_Rt S := by
  induction i with
  | zero => rfl
  | succ i ih =>
    simp only [o_ER]
    split
    · exact (o_ERes_Rt _ i).trans ih
    · exact ih
theorem o_ER_Hm (S : ST) (i : Nat) : g_Hm (o_ER S i) = g_Hm S := by
  induction i with
  | zero => rfl
  | succ i ih =>
    simp only [o_ER]
    split
    · exact (o_ERes_Hm _ i).trans ih
    · exact ih
theorem o_ER_Of (S : ST) (i : Nat) : g_Of (o_ER S i) = g_Of S := by
  induction i with
  | zero => rfl
  | succ i ih =>
    simp only [o_ER]
    split
    · exact (o_ERes_Of _ i).trans ih
    · exact ih
theorem o_ER_Ho (S : ST) (i : Nat) : g_Ho (o_ER S i) = g_Ho S := by
  induction i with
  | zero => rfl
  | succ i ih =>
    simp only [o_ER]
    split
    · exact (o_ERes_Ho _ i).trans ih
    · exact ih
theorem o_ER_Hs (S : ST) (i : Nat) : g_Hs (o_ER S i) = g_Hs S := by
  induction i with
  | zero => rfl
  | succ i ih =>
    simp only [o_ER]
    split
    · exact (o_ERes_Hs _ i).trans ih
    · exact ih
theorem o_ER_Hz (S : ST) (i : Nat) : g_Hz (o_ER S i) = g_Hz S := by
  induction i with
  | zero => rfl
  | succ i ih =>
    simp only [o_ER]
    split
    · exact (o_ERes_Hz _ i).trans ih
    · exact ih
theorem o_ER_Df (S : ST) (i : Nat) : g_Df (o_ER S i) = g_Df S := by
  induction i with
  | zero => rfl
  | succ i ih =>
    simp only [o_ER]
    split
    · exact (o_ERes_Df _ i).trans ih
    · exact ih
theorem o_ER_Dl (S : ST) (i : Nat) : g_Dl (o_ER S i) = g_Dl S := by
  induction i with
  | zero => rfl
  | succ i ih =>
    simp only [o_ER]
    split
    · exact (o_ERes_Dl _ i).trans ih
    · exact ih
theorem o_End_T1 (S : ST) : g_T1 (o_End S) = g_T1 S := (o_ER_T1 _ _).trans ((o_SA_T1 _ _).trans rfl)
theorem o_End_T2 (S : ST) : g_T2 (o_End S) = g_T2 S := (o_ER_T2 _ _).trans ((o_SA_T2 _ _).trans rfl)
theorem o_End_T3 (S : ST) : g_T3 (o_End S) = g_T3 S := (o_ER_T3 _ _).trans ((o_SA_T3 _ _).trans rfl)
theorem o_End_N (S : ST) : g_N (o_End S) = g_N S := (o_ER_N _ _).trans ((o_SA_N _ _).trans rfl)
theorem o_End_Gr (S : ST) : g_Gr (o_End S) = g_Gr S := (o_ER_Gr _ _).trans ((o_SA_Gr _ _).trans rfl)
theorem o_End_St (S : ST) : g_St (o_End S) = g_St S := (o_ER_St _ _).trans ((o_SA_St _ _).trans rfl)
theorem o_End_Rt (S : ST) : g_Rt (o_End S) = g_Rt S := (o_ER_Rt _ _).trans ((o_SA_Rt _ _).trans rfl)
theorem o_End_Hm (S : ST) : g_Hm (o_End S) = g_Hm S := (o_ER_Hm _ _).trans ((o_SA_Hm _ _).trans rfl)
theorem o_End_Of (S : ST) : g_Of (o_End S) = g_Of S := (o_ER_Of _ _).trans ((o_SA_Of _ _).trans rfl)
theorem o_Chk_T1 (S : ST) : g_T1 (o_Chk S) = g_T1 S := by
  unfold o_Chk
  split
  · rfl
  · split
    · exact o_End_T1 S
    · rfl
theorem o_Chk_T2 (S : ST) : g_T2 (o_Chk S) = g_T2 S := by
  unfold o_Chk
  split
  · rfl
  · split
    · exact o_End_T2 S
    · rfl
theorem o_Chk_T3 (S : ST) : g_T3 (o_Chk S) = g_T3 S := by
  unfold o_Chk
  split
  · rfl
  · split
    · exact o_End_T3 S
    · rfl
theorem o_Chk_N (S : ST) : g_N (o_Chk S) = g_N S := by
  unfold o_Chk
  split
  · rfl
  · split
    · exact o_End_N S
    · rfl
theorem o_Chk_Gr (S : ST) : g_Gr (o_Chk S) = g_Gr S := by
  unfold o_Chk
  split
  · rfl
  · split
    · exact o_End_Gr S
    · rfl
theorem o_Chk_St (S : ST) : g_St (o_Chk S) = g_St S := by
  unfold o_Chk
  split
  · rfl
  · split
    · exact o_End_St S
    · rfl
theorem o_Chk_Rt (S : ST) : g_Rt (o_Chk S) = g_Rt S := by
  unfold o_Chk
  split
  · rfl
  · split
    · exact o_End_Rt S
    · rfl
theorem o_Chk_Hm (S : ST) : g_Hm (o_Chk S) = g_Hm S := by
  unfold o_Chk
  split
  · rfl
  · split
    · exact o_End_Hm S
    · rfl
theorem o_Chk_Of (S : ST) : g_Of (o_Chk S) = g_Of S := by
  unfold o_Chk
  split
  · rfl
  · split
    · exact o_End_Of S
    · rfl
theorem o_CDs_T1 (S : ST) (i : Nat) : g_T1 ((o_CDs S i).2) = g_T1 S := by
  induction i with
  | zero => rfl
  | succ i ih => exact (o_CD_T1 _ i).trans ih
theorem o_CDs_T2 (S : ST) (i : Nat) : g_T2 ((o_CDs S i).2) = g_T2 S := by
  induction i with
  | zero => rfl
  | succ i ih => exact (o_CD_T2 _ i).trans ih
theorem o_CDs_T3 (S : ST) (i : Nat) : g_T3 ((o_CDs S i).2) = g_T3 S := by
  induction i with
  | zero => rfl
  | succ i ih => exact (o_CD_T3 _ i).trans ih
theorem o_CDs_N (S : ST) (i : Nat) : g_N ((o_CDs S i).2) = g_N S := by
  induction i with
  | zero => rfl
  | succ i ih => exact (o_CD_N _ i).trans ih
theorem o_CDs_Gr (S : ST) (i : Nat) : g_Gr ((o_CDs S i).2) = g_Gr S := by
  induction i with
  | zero => rfl
  | succ i ih => exact (o_CD_Gr _ i).trans ih
theorem o_CDs_Hm (S : ST) (i : Nat) : g_Hm ((o_CDs S i).2) = g_Hm S := by
  induction i with
  | zero => rfl
  | succ i ih => exact (o_CD_Hm _ i).trans ih
theorem o_CDs_Of (S : ST) (i : Nat) : g_Of ((o_CDs S i).2) = g_Of S := by
  induction i with
  | zero => rfl
  | succ i ih => exact (o_CD_Of _ i).trans ih
theorem o_CDs_Ho (S : ST) (i : Nat) : g_Ho ((o_CDs S i).2) = g_Ho S := by
  induction i with
  | zero => rfl
  | succ i ih => exact (o_CD_Ho _ i).trans ih
theorem o_CDs_Hs (S : ST) (i : Nat) : g_Hs ((o_CDs S i).2) = g_Hs S := by
  induction i with
  | zero => rfl
  | succ i ih => exact (o_CD_Hs _ i).trans ih
theorem o_CDs_Hz (S : ST) (i : Nat) : g_Hz ((o_CDs S i).2) = g_Hz S := by
  induction i with
  | zero => rfl
  | succ i ih => exact (o_CD_Hz _ i).trans ih
theorem o_CDs_Df (S : ST) (i : Nat) : g_Df ((o_CDs S i).2) = g_Df S := by
  induction i with
  | zero => rfl
  | succ i ih => exact (o_CD_Df _ i).trans ih
theorem o_CDs_Dl (S : ST) (i : Nat) : g_Dl ((o_CDs S i).2) = g_Dl S := by
  induction i with
  | zero => rfl
  | succ i ih => exact (o_CD_Dl _ i).trans ih
theorem o_Dl1_T1 (S : ST) : g_T1 (o_Dl1 S) = g_T1 S := by unfold o_Dl1; split <;> rfl
theorem o_Dl1_T2 (S : ST) : g_T2 (o_Dl1 S) = g_T2 S := by unfold o_Dl1; split <;> rfl
theorem o_Dl1_T3 (S : ST) : g_T3 (o_Dl1 S) = g_T3 S := by unfold o_Dl1; split <;> rfl
theorem o_Dl1_N (S : ST) : g_N (o_Dl1 S) = g_N S := by unfold o_Dl1; split <;> rfl
theorem o_Dl1_Gr (S : ST) : g_Gr (o_Dl1 S) = g_Gr S := by unfold o_Dl1; split <;> rfl
theorem o_Dl1_St (S : ST) : g_St (o_Dl1 S) = g_St S := by unfold o_Dl1; split <;> rfl
theorem o_Dl1_Rt (S : ST) : g_Rt (o_Dl1 S) = g_Rt S := by unfold o_Dl1; split <;> rfl
theorem o_Dl1_Sl (S : ST) : g_Sl (o_Dl1 S) = g_Sl S := by unfold o_Dl1; split <;> rfl
theorem o_Dl1_Hm (S : ST) : g_Hm (o_Dl1 S) = g_Hm S := by unfold o_Dl1; split <;> rfl
theorem o_Dl1_Of (S : ST) : g_Of (o_Dl1 S) = g_Of S := by unfold o_Dl1; split <;> rfl
theorem o_Dl1_Le (S : ST) : g_Le (o_Dl1 S) = g_Le S := by unfold o_Dl1; split <;> rfl
theorem o_Dl1_Ss (S : ST) : g_Ss (o_Dl1 S) = g_Ss S := by unfold o_Dl1; split <;> rfl
theorem o_Dl1_Ho (S : ST) : g_Ho (o_Dl1 S) = g_Ho S := by unfold o_Dl1; split <;> rfl
theorem o_Dl1_Hs (S : ST) : g_Hs (o_Dl1 S) = g_Hs S := by unfold o_Dl1; split <;> rfl
theorem o_Dl1_Hz (S : ST) : g_Hz (o_Dl1 S) = g_Hz S := by unfold o_Dl1; split <;> rfl
theorem o_Dl1_Df (S : ST) : g_Df (o_Dl1 S) = g_Df S := by unfold o_Dl1; split <;> rfl
theorem o_Tk1_T1 (S : ST) : g_T1 (o_Tk1 S).2 = g_T1 S := (o_Chk_T1 _).trans ((o_Dl1_T1 _).trans (o_CDs_T1 S _))
theorem o_Tk1_T2 (S : ST) : g_T2 (o_Tk1 S).2 = g_T2 S := (o_Chk_T2 _).trans ((o_Dl1_T2 _).trans (o_CDs_T2 S _))
theorem o_Tk1_T3 (S : ST) : g_T3 (o_Tk1 S).2 = g_T3 S := (o_Chk_T3 _).trans ((o_Dl1_T3 _).trans (o_CDs_T3 S _))
theorem o_Tk1_N (S : ST) : g_N (o_Tk1 S).2 = g_N S := (o_Chk_N _).trans ((o_Dl1_N _).trans (o_CDs_N S _))
theorem o_Tk1_Gr (S : ST) : g_Gr (o_Tk1 S).2 = g_Gr S := (o_Chk_Gr _).trans ((o_Dl1_Gr _).trans (o_CDs_Gr S _))
theorem o_Tk1_Hm (S : ST) : g_Hm (o_Tk1 S).2 = g_Hm S := (o_Chk_Hm _).trans ((o_Dl1_Hm _).trans (o_CDs_Hm S _))
theorem o_Tk1_Of (S : ST) : g_Of (o_Tk1 S).2 = g_Of S := (o_Chk_Of _).trans ((o_Dl1_Of _).trans (o_CDs_Of S _))
theorem o_Tk_T1 (S : ST) (i : Nat) : g_T1 ((o_Tk S i).2) = g_T1 S := by
  induction i with
  | zero => rfl
  | succ i ih => exact (o_Tk1_T1 _).trans ih
theorem o_Tk_T2 (S : ST) (i : Nat) : g_T2 ((o_Tk S i).2) = g_T2 S := by
  induction i with
  | zero => rfl
  | succ i ih => exact (o_Tk1_T2 _).trans ih
theorem o_Tk_T3 (S : ST) (i : Nat) : g_T3 ((o_Tk S i).2) = g_T3 S := by
  induction i with
  | zero => rfl
  | succ i ih => exact (o_Tk1_T3 _).trans ih
theorem o_Tk_N (S : ST) (i : Nat) : g_N ((o_Tk S i).2) = g_N S := by
  induction i with
  | zero => rfl
  | succ i ih => exact (o_Tk1_N _).trans ih
theorem o_Tk_Gr (S : ST) (i : Nat) : g_Gr ((o_Tk S i).2) = g_Gr S := by
  induction i with
  | zero => rfl
  | succ i ih => exact (o_Tk1_Gr _).trans ih
theorem o_Tk_Hm (S : ST) (i : Nat) : g_Hm ((o_Tk S i).2) = g_Hm S := by
  induction i with
  | zero => rfl
  | succ i ih => exact (o_Tk1_Hm _).trans ih
theorem o_Tk_Of (S : ST) (i : Nat) : g_Of ((o_Tk S i).2) = g_Of S := by
  induction i with
  | zero => rfl
  | succ i ih => exact (o_Tk1_Of _).trans ih
theorem o_Rs_T1 (S : ST) (i : Nat) : g_T1 ((o_Rs S i).2) = g_T1 S := by
  induction i with
  | zero => rfl
  | succ i ih =>
    simp only [o_Rs]
    split
    · exact (o_Lose_T1 _ i).trans ih
    · exact ih
theorem o_Rs_T2 (S : ST) (i : Nat) : g_T2 ((o_Rs S i).2) = g_T2 S := by
  induction i with
  | zero => rfl
  | succ i ih =>
    simp only [o_Rs]
    split
    · exact (o_Lose_T2 _ i).trans ih
    · exact ih
theorem o_Rs_T3 (S : ST) (i : Nat) : g_T3 ((o_Rs S i).2) = g_T3 S := by
  induction i with
  | zero => rfl
  | succ i ih =>
    simp only [o_Rs]
    split
    · exact (o_Lose_T3 _ i).trans ih
    · exact ih
theorem o_Rs_N (S : ST) (i : Nat) : g_N ((o_Rs S i).2) = g_N S := by
  induction i with
  | zero => rfl
  | succ i ih =>
    simp only [o_Rs]
    split
    · exact (o_Lose_N _ i).trans ih
    · exact ih
theorem o_Rs_Gr (S : ST) (i : Nat) : g_Gr ((o_Rs S i).2) = g_Gr S := by
  induction i with
  | zero => rfl
  | succ i ih =>
    simp only [o_Rs]
    split
    · exact (o_Lose_Gr _ i).trans ih
    · exact ih
theorem o_Rs_Of (S : ST) (i : Nat) : g_Of ((o_Rs S i).2) = g_Of S := by
  induction i with
  | zero => rfl
  | succ i ih =>
    simp only [o_Rs]
    split
    · exact (o_Lose_Of _ i).trans ih
    · exact ih
theorem o_Rs_Ho (S : ST) (i : Nat) : g_Ho ((o_Rs S i).2) = g_Ho S := by
  induction i with
  | zero => rfl
  | succ i ih =>
    simp only [o_Rs]
    split
    · exact (o_Lose_Ho _ i).trans ih
    · exact ih
theorem o_Rs_Hs (S : ST) (i : Nat) : g_Hs ((o_Rs S i).2) = g_Hs S := by
  induction i with
  | zero => rfl
  | succ i ih =>
    simp only [o_Rs]
    split
    · exact (o_Lose_Hs _ i).trans ih
    · exact ih
theorem o_Rs_Hz (S : ST) (i : Nat) : g_Hz ((o_Rs S i).2) = g_Hz S := by
  induction i with
  | zero => rfl
  | succ i ih =>
    simp only [o_Rs]
    split
    · exact (o_Lose_Hz _ i).trans ih
    · exact ih
theorem o_Rs_Df (S : ST) (i : Nat) : g_Df ((o_Rs S i).2) = g_Df S := by
  induction i with
  | zero => rfl
  | succ i ih =>
    simp only [o_Rs]
    split
    · exact (o_Lose_Df _ i).trans ih
    · exact ih
theorem o_Rs_Dl (S : ST) (i : Nat) : g_Dl ((o_Rs S i).2) = g_Dl S := by
  induction i with
  | zero => rfl
  | succ i ih =>
    simp only [o_Rs]
    split
    · exact (o_Lose_Dl _ i).trans ih
    · exact ih
theorem o_FT_T1 (S : ST) (pv : Int32) : g_T1 (o_FT S pv) = g_T1 S := by unfold o_FT; split <;> rfl
theorem o_FT_T2 (S : ST) (pv : Int32) : g_T2 (o_FT S pv) = g_T2 S := by unfold o_FT; split <;> rfl
theorem o_FT_T3 (S : ST) (pv : Int32) : g_T3 (o_FT S pv) = g_T3 S := by unfold o_FT; split <;> rfl
theorem o_FT_N (S : ST) (pv : Int32) : g_N (o_FT S pv) = g_N S := by unfold o_FT; split <;> rfl
theorem o_FT_Gr (S : ST) (pv : Int32) : g_Gr (o_FT S pv) = g_Gr S := by unfold o_FT; split <;> rfl
theorem o_FT_St (S : ST) (pv : Int32) : g_St (o_FT S pv) = g_St S := by unfold o_FT; split <;> rfl
theorem o_FT_Rt (S : ST) (pv : Int32) : g_Rt (o_FT S pv) = g_Rt S := by unfold o_FT; split <;> rfl
theorem o_FT_Sl (S : ST) (pv : Int32) : g_Sl (o_FT S pv) = g_Sl S := by unfold o_FT; split <;> rfl
theorem o_FT_Hm (S : ST) (pv : Int32) : g_Hm (o_FT S pv) = g_Hm S := by unfold o_FT; split <;> rfl
theorem o_FT_Of (S : ST) (pv : Int32) : g_Of (o_FT S pv) = g_Of S := by unfold o_FT; split <;> rfl
theorem o_FT_Le (S : ST) (pv : Int32) : g_Le (o_FT S pv) = g_Le S := by unfold o_FT; split <;> rfl
theorem o_FT_Ss (S : ST) (pv : Int32) : g_Ss (o_FT S pv) = g_Ss S := by unfold o_FT; split <;> rfl
theorem o_FT_Df (S : ST) (pv : Int32) : g_Df (o_FT S pv) = g_Df S := by unfold o_FT; split <;> rfl
theorem o_FT_Dl (S : ST) (pv : Int32) : g_Dl (o_FT S pv) = g_Dl S := by unfold o_FT; split <;> rfl
theorem va_up_id {α : Type} (f : Nat → α) (k : Nat) : va_up f k (f k) = f := by
  funext j
  by_cases h : j = k
  · subst h; exact va_up_self f j (f j)
  · exact va_up_ne f (f k) h
theorem upd_id (f : FR) (k : Nat) : upd f k (f k) = f := by
  funext j
  by_cases h : j = k
  · subst h; simp [upd]
  · simp [upd, h]
theorem upd_idv {f : FR} {k : Nat} {v : Int32} (h : f k = v) : upd f k v = f := by rw [← h]; exact upd_id f k
theorem upd_uu (f : FR) (k : Nat) (v w : Int32) : upd (upd f k v) k w = upd f k w := by
  funext j
  by_cases h : j = k
  · subst h; simp [upd]
  · simp [upd, h]
theorem row_up (L : GR) (p : Nat) {row row' : FR} {i : Nat} {v : Int32} (h : upd row i v = row') : va_up (va_up L p row) p (upd (va_up L p row p) i v) = va_up L p row' := by
  rw [va_up_self, h]; exact bx_uu L p row row'
theorem fl_row (w : Nat) (L : GR) {p i : Nat} (h : i < w) {row row' : FR} {v : Int32} (e : upd row i v = row') : upd (fl w (va_up L p row)) (w * p + i) v = fl w (va_up L p row') := by
  rw [fl_up w _ h, row_up L p e]
theorem fl_rd (w : Nat) (L : GR) {p i : Nat} (h : i < w) (row : FR) : fl w (va_up L p row) (w * p + i) = row i := by rw [fl_at w _ h, va_up_self]
/-- rows as the sessions keep them -/
def rowOk (L Z : FR) : Prop := ∀ r, 0 ≤ L r ∧ (¬ Z r = 0 → 0 < L r)
theorem i32_pos {x : Int32} (h : 0 < x) : ¬ x = 0 := by
  intro e; subst e; exact absurd h (by decide)
theorem i32_zero {x : Int32} (h : 0 ≤ x) (n : ¬ 0 < x) : x = 0 := by
  have h1 : x ≤ 0 := Int32.not_lt.mp n
  exact Int32.le_antisymm h1 h
theorem rowOk.zero {L Z : FR} (h : rowOk L Z) {r : Nat} (n : ¬ 0 < L r) : L r = 0 ∧ Z r = 0 := ⟨i32_zero (h r).1 n, Classical.byContradiction fun z => n ((h r).2 z)⟩
theorem okP_nat {n : Nat} {x : Int32} (hn : n ≤ 5) (h : okP n x) : ∃ k, k < n ∧ x = nI k := by
  rcases pk_ix x (n := n) (by omega) with a | a | ⟨j, hj, e⟩
  · exact absurd h.1 (Int32.not_le.mpr a)
  · exact absurd h.2 (Int32.not_lt.mpr a)
  · exact ⟨j, hj, e⟩
theorem okP_of {n k : Nat} (hn : n ≤ 5) (h : k < n) : okP n (nI k) := ⟨nI_pos' (by omega), nI_lt h (by omega)⟩
theorem rng_nat {M : Nat} (hM : M < 2 ^ 31) {x : Int32} (h : 0 ≤ x ∧ x < nI M) : ∃ k, k < M ∧ x = nI k := by
  rcases pk_ix x (n := M) hM with a | a | ⟨j, hj, e⟩
  · exact absurd h.1 (Int32.not_le.mpr a)
  · exact absurd h.2 (Int32.not_lt.mpr a)
  · exact ⟨j, hj, e⟩
theorem okR_nat {t f : Int32} (h : okR t f) : ∃ a b, a < 2 ∧ b < 8 ∧ t = nI a ∧ f = nI b := by
  obtain ⟨a, ha, ea⟩ := rng_nat (M := 2) (by decide) h.1
  obtain ⟨b, hb, eb⟩ := rng_nat (M := 8) (by decide) h.2
  exact ⟨a, b, ha, hb, ea, eb⟩
theorem wi_P {n : Nat} (hn : n ≤ 5) (x : Int32) : (if x < 0 then (0 : Int32) else if nI n - 1 < x then 0 else 1) = if okP n x then 1 else 0 := by
  by_cases h0 : x < 0
  · rw [if_pos h0, if_neg (fun h => absurd h0 (Int32.not_lt.mpr h.1))]
  · rw [if_neg h0]
    have e : (nI n - 1 < x) ↔ ¬ x < nI n := by
      rw [Int32.lt_iff_toInt_lt, Int32.lt_iff_toInt_lt, nI_one, pk_sub_toInt (by omega) (by omega), nI_toInt (by omega)]
      omega
    by_cases h1 : nI n - 1 < x
    · rw [if_pos h1, if_neg (fun h => e.mp h1 h.2)]
    · rw [if_neg h1, if_pos ⟨Int32.not_lt.mp h0, Classical.byContradiction fun z => h1 (e.mpr z)⟩]
theorem wi_c {x : Int32} {c d : Int32} (hd : c.toInt + 1 = d.toInt) : (c < x) ↔ ¬ x < d := by
  rw [Int32.lt_iff_toInt_lt, Int32.lt_iff_toInt_lt]
  omega
theorem wi_R (x : Int32) {c d : Int32} (hd : c.toInt + 1 = d.toInt) : (if x < 0 then (0 : Int32) else if c < x then 0 else 1) = if 0 ≤ x ∧ x < d then 1 else 0 := by
  by_cases h0 : x < 0
  · rw [if_pos h0, if_neg (fun h => absurd h0 (Int32.not_lt.mpr h.1))]
  · rw [if_neg h0]
    by_cases h1 : c < x
    · rw [if_pos h1, if_neg (fun h => (wi_c hd).mp h1 h.2)]
    · rw [if_neg h1, if_pos ⟨Int32.not_lt.mp h0, Classical.byContradiction fun z => h1 ((wi_c hd).mpr z)⟩]
/-- the best offer so far is an offer -/
theorem b_best (S : ST) (r i : Nat) : (b_at S r i).1 = -6 ∨ ∃ j, j < i ∧ (b_at S r i).1 = nI j ∧ (b_at S r i).2 = g_Of S j r ∧ 0 < g_Of S j r ∧ g_St S j = 0 := by
  induction i with
  | zero => exact Or.inl rfl
  | succ i ih =>
    simp only [b_at]
    split
    · rename_i h
      right
      by_cases hs : g_St S i = 0
      · have e : b_len S r i = g_Of S i r := by simp [b_len, hs]
        exact ⟨i, by omega, rfl, e, by rw [← e]; exact h.1, hs⟩
      · have e : b_len S r i = 0 := by simp [b_len, hs]
        rw [e] at h
        exact absurd h.1 (by decide)
    · rcases ih with h | ⟨j, h1, h2⟩
      · exact Or.inl h
      · exact Or.inr ⟨j, by omega, h2⟩
theorem nI_ne6 {j : Nat} (h : j < 2 ^ 31) : ¬ nI j = -6 := by
  intro e
  have := nI_pos' h
  rw [e] at this
  exact absurd this (by decide)

