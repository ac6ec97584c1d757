/-! a peer's methods, said of the whole state -/
def q_Ln (S : ST) (k r : Nat) (x : Int32) : ST := s_Ss (s_Le S (va_up (g_Le S) k (upd (g_Le S k) r x))) (va_up (g_Ss S) k (upd (g_Ss S k) r 0))
def q_Hr (S : ST) (k r : Nat) : ST := s_Le S (va_up (g_Le S) k (if g_Ss S k r = 0 then upd (g_Le S k) r 0 else g_Le S k))
theorem a1_no {S : ST} {r : Nat} {hop len : Int32} {p : Nat} (h : ¬ g_St S p = 0) : S = a_1 S r hop len p := by rw [a_1, if_neg h]
theorem a1_hr {S : ST} {r : Nat} {hop len : Int32} {p : Nat} (h : g_St S p = 0) (h1 : hop = -6 ∨ hop = nI p) : q_Hr S p r = a_1 S r hop len p := by
  rw [a_1, if_pos h, if_pos h1, q_Hr]
  split
  · rfl
  · rw [va_up_id, sg_Le]
theorem a1_ln {S : ST} {r : Nat} {hop len : Int32} {p : Nat} (h : g_St S p = 0) (h1 : ¬ (hop = -6 ∨ hop = nI p)) : q_Ln S p r len = a_1 S r hop len p := by
  rw [a_1, if_pos h, if_neg h1, q_Ln]
theorem y_hf {cI cZ cP : ClassId} {ad : Nat → Nat} {pd : Nat → Nat → Nat} {S : ST} {k : Nat} (hk : k < g_N S) (j : Nat) (q : Nat × va_E) (h : (xB cI cZ pd S k)[j]? = some q) : (xW cI cZ cP ad pd S)[4 + (4 * k + j)]? = some q :=
  xW_get hk j (by have h1 := (List.getElem?_eq_some_iff.mp h).1; rw [xB4] at h1; exact h1) h
theorem y_inj (k : Nat) {n : Nat} (i j : Nat) (_ : i < n) (_ : j < n) (h : 4 + (4 * k + i) = 4 + (4 * k + j)) : i = j := by omega
theorem xR_in {pd : Nat → Nat → Nat} {n k : Nat} (h : k < n) : va_rf (xR pd n k) = .ref (pd k 0) := by rw [xR, if_pos h]; rfl
theorem xR_out {pd : Nat → Nat → Nat} {n k : Nat} (h : ¬ k < n) : va_rf (xR pd n k) = .null := by rw [xR, if_neg h]; rfl
theorem one_rows {cI cZ : ClassId} {pd : Nat → Nat → Nat} (S : ST) (k : Nat) (L Z : FR) : xOne cI cZ pd S (s_Ss (s_Le S (va_up (g_Le S) k L)) (va_up (g_Ss S) k Z)) k :=
  xOne_of rfl rfl rfl rfl rfl rfl rfl rfl ne_rf ne_rf ne_va ne_va ne_rf ne_rf ne_rf ne_rf
theorem one_row {cI cZ : ClassId} {pd : Nat → Nat → Nat} (S : ST) (k : Nat) (L : FR) : xOne cI cZ pd S (s_Le S (va_up (g_Le S) k L)) k :=
  xOne_of rfl rfl rfl rfl rfl rfl rfl rfl ne_rf ne_rf ne_va ne_rf ne_rf ne_rf ne_rf ne_rf
theorem one_of {cI cZ : ClassId} {pd : Nat → Nat → Nat} (S : ST) (k : Nat) (L : FR) : xOne cI cZ pd S (s_Of S (va_up (g_Of S) k L)) k :=
  xOne_of rfl rfl rfl rfl rfl rfl rfl rfl ne_rf ne_va ne_rf ne_rf ne_rf ne_rf ne_rf ne_rf
theorem one_hm {cI cZ : ClassId} {pd : Nat → Nat → Nat} (S : ST) (k : Nat) (L : FR) : xOne cI cZ pd S (s_Hm S (va_up (g_Hm S) k L)) k :=
  xOne_of rfl rfl rfl rfl rfl rfl rfl rfl ne_rf ne_rf ne_rf ne_rf ne_rf ne_rf ne_rf ne_va
theorem one_tr {cI cZ : ClassId} {pd : Nat → Nat → Nat} {S S1 S2 : ST} {k : Nat} (h1 : xOne cI cZ pd S S1 k) (h2 : xOne cI cZ pd S1 S2 k) : xOne cI cZ pd S S2 k := by
  obtain ⟨a0, a1, a2, a3, a4, a5, a6, a7, a8⟩ := h1
  obtain ⟨b0, b1, b2, b3, b4, b5, b6, b7, b8⟩ := h2
  exact ⟨b0.trans a0, b1.trans a1, b2.trans a2, b3.trans a3, b4.trans a4, b5.trans a5, b6.trans a6, b7.trans a7, fun i hi => (b8 i hi).trans (a8 i hi)⟩
theorem one_rf {cI cZ : ClassId} {pd : Nat → Nat → Nat} (S : ST) (k : Nat) : xOne cI cZ pd S S k := ⟨rfl, rfl, rfl, rfl, rfl, rfl, rfl, rfl, fun _ _ => rfl⟩
theorem one_St {cI cZ : ClassId} {pd : Nat → Nat → Nat} (S : ST) (k : Nat) (v : Int32) : xOne cI cZ pd S (s_St S (upd (g_St S) k v)) k :=
  xOne_of rfl rfl rfl rfl rfl rfl rfl rfl ne_rf ne_rf ne_rf ne_rf ne_upd ne_rf ne_rf ne_rf
theorem one_Rt {cI cZ : ClassId} {pd : Nat → Nat → Nat} (S : ST) (k : Nat) (v : Int32) : xOne cI cZ pd S (s_Rt S (upd (g_Rt S) k v)) k :=
  xOne_of rfl rfl rfl rfl rfl rfl rfl rfl ne_rf ne_rf ne_rf ne_rf ne_rf ne_upd ne_rf ne_rf
theorem one_Sl {cI cZ : ClassId} {pd : Nat → Nat → Nat} (S : ST) (k : Nat) (v : Int32) : xOne cI cZ pd S (s_Sl S (upd (g_Sl S) k v)) k :=
  xOne_of rfl rfl rfl rfl rfl rfl rfl rfl ne_rf ne_rf ne_rf ne_rf ne_rf ne_rf ne_upd ne_rf
theorem one_ss {cI cZ : ClassId} {pd : Nat → Nat → Nat} (S : ST) (k : Nat) (Z : FR) : xOne cI cZ pd S (s_Ss S (va_up (g_Ss S) k Z)) k :=
  xOne_of rfl rfl rfl rfl rfl rfl rfl rfl ne_rf ne_rf ne_rf ne_va ne_rf ne_rf ne_rf ne_rf
theorem one_RmS {cI cZ : ClassId} {pd : Nat → Nat → Nat} (S : ST) (k : Nat) : xOne cI cZ pd S (o_RmS S k) k := one_rows S k _ _
theorem one_RmL {cI cZ : ClassId} {pd : Nat → Nat → Nat} (S : ST) (k : Nat) : xOne cI cZ pd S (o_RmL S k) k := one_rows S k _ _
theorem one_Down {cI cZ : ClassId} {pd : Nat → Nat → Nat} (S : ST) (k : Nat) : xOne cI cZ pd S (o_Down S k) k :=
  one_tr (one_St S k 2) (one_tr (one_Rt (s_St S (upd (g_St S) k 2)) k 0) (one_tr (one_Sl (s_Rt (s_St S (upd (g_St S) k 2)) (upd (g_Rt S) k 0)) k 0) (one_RmL _ k)))
theorem one_ERes {cI cZ : ClassId} {pd : Nat → Nat → Nat} (S : ST) (k : Nat) : xOne cI cZ pd S (o_ERes S k) k := one_tr (one_RmS S k) (one_Sl (o_RmS S k) k 0)
theorem one_Lose {cI cZ : ClassId} {pd : Nat → Nat → Nat} (S : ST) (k : Nat) : xOne cI cZ pd S (o_Lose S k) k := by
  unfold o_Lose
  split
  · exact one_Down S k
  · exact one_tr (one_St S k 1) (one_tr (one_RmS _ k) (one_tr (one_ss _ k _) (one_tr (one_Sl (o_Mark (o_RmS (s_St S (upd (g_St S) k 1)) k) k) k 0) (one_Rt (s_Sl (o_Mark (o_RmS (s_St S (upd (g_St S) k 1)) k) k) (upd (g_Sl S) k 0)) k (g_T1 S)))))
theorem one_Meet {cI cZ : ClassId} {pd : Nat → Nat → Nat} (S : ST) (k : Nat) : xOne cI cZ pd S (o_Meet S k) k := by
  unfold o_Meet
  split
  · exact one_tr (one_Rt S k 0) (one_tr (one_Sl (s_Rt S (upd (g_Rt S) k 0)) k (g_T2 S)) (one_St (s_Sl (s_Rt S (upd (g_Rt S) k 0)) (upd (g_Sl S) k (g_T2 S))) k 0))
  · exact one_St S k 0
theorem one_CDa {cI cZ : ClassId} {pd : Nat → Nat → Nat} (S : ST) (k : Nat) : xOne cI cZ pd S (o_CDa S k).2 k := by
  unfold o_CDa
  split
  · split
    · exact one_Down S k
    · exact one_Rt S k _
  · exact one_rf S k
theorem one_CDb {cI cZ : ClassId} {pd : Nat → Nat → Nat} (S : ST) (k : Nat) : xOne cI cZ pd S (o_CDb S k).2 k := by
  unfold o_CDb
  split
  · split
    · exact one_tr (one_Sl S k _) (one_RmS _ k)
    · exact one_Sl S k _
  · exact one_rf S k
theorem one_CD {cI cZ : ClassId} {pd : Nat → Nat → Nat} (S : ST) (k : Nat) : xOne cI cZ pd S (o_CD S k).2 k := one_tr (one_CDa S k) (one_CDb _ k)
theorem one_Hm0 {cI cZ : ClassId} {pd : Nat → Nat → Nat} (S : ST) (k : Nat) : xOne cI cZ pd S (o_Hm0 S k) k := one_hm S k _

set_option maxRecDepth 100000 in
theorem s_X0_knownOffer (l : Launch) (D : va_G) (cI cZ cP : ClassId) (pd : Nat → Nat → Nat) (S : ST) (k : Nat) (r : Nat) (hr : r < 16) : MM l yX0_knownOffer wsX0_knownOffer ({ frames := 0, cells := 0, slots := 0, locals := 0 }) D (kTy cI cZ cP) [.ref (pd k 0), .int (nI r)] (xB cI cZ pd S k) (some (.int (b_len S r k))) (xB cI cZ pd S k) := by
  exact c_X0_knownOffer l D cI cZ cP (pd k 0) (pd k 1) (pd k 2) (pd k 3) (g_Gr S k) (g_Of S k) (g_Le S k) (g_Ss S k) (g_St S k) (g_Rt S k) (g_Sl S k) (mkI (g_Hm S k)) r hr
set_option maxRecDepth 100000 in
theorem s_X0_countOffers (l : Launch) (D : va_G) (cI cZ cP : ClassId) (pd : Nat → Nat → Nat) (S : ST) (k : Nat)  : MM l yX0_countOffers wsX0_countOffers ({ frames := 0, cells := 0, slots := 0, locals := 0 }) D (kTy cI cZ cP) [.ref (pd k 0)] (xB cI cZ pd S k) (some (.int (kCnt (pz (g_Of S k)) 16))) (xB cI cZ pd S k) := by
  exact c_X0_countOffers l D cI cZ cP (pd k 0) (pd k 1) (pd k 2) (pd k 3) (g_Gr S k) (g_Of S k) (g_Le S k) (g_Ss S k) (g_St S k) (g_Rt S k) (g_Sl S k) (mkI (g_Hm S k)) 
set_option maxRecDepth 100000 in
theorem s_X0_isAwaited (l : Launch) (D : va_G) (cI cZ cP : ClassId) (pd : Nat → Nat → Nat) (S : ST) (k : Nat)  : MM l yX0_isAwaited wsX0_isAwaited ({ frames := 0, cells := 0, slots := 0, locals := 0 }) D (kTy cI cZ cP) [.ref (pd k 0)] (xB cI cZ pd S k) (some (.int (if g_Gr S k = 0 then 0 else if g_St S k = 2 then 0 else if mkI (g_Hm S k) = 3 then 0 else 1))) (xB cI cZ pd S k) := by
  exact c_X0_isAwaited l D cI cZ cP (pd k 0) (pd k 1) (pd k 2) (pd k 3) (g_Gr S k) (g_Of S k) (g_Le S k) (g_Ss S k) (g_St S k) (g_Rt S k) (g_Sl S k) (mkI (g_Hm S k)) 
set_option maxRecDepth 100000 in
theorem s_X0_learn (l : Launch) (D : va_G) (cI cZ cP : ClassId) (pd : Nat → Nat → Nat) (S : ST) (k : Nat) (r : Nat) (x : Int32) (hr : r < 16) : MM l yX0_learn wsX0_learn ({ frames := 0, cells := 0, slots := 0, locals := 0 }) D (kTy cI cZ cP) [.ref (pd k 0), .int (nI r), .int x] (xB cI cZ pd S k) (none) (xB cI cZ pd (q_Ln S k r x) k) := by
  have e : xB cI cZ pd (q_Ln S k r x) k = pW cI cZ (pd k 0) (pd k 1) (pd k 2) (pd k 3) (g_Gr S k) (g_Of S k) (upd (g_Le S k) r x) (upd (g_Ss S k) r 0) (g_St S k) (g_Rt S k) (g_Sl S k) (mkI (g_Hm S k)) := by
    show pW cI cZ (pd k 0) (pd k 1) (pd k 2) (pd k 3) (g_Gr S k) (g_Of S k) (va_up (g_Le S) k (upd (g_Le S k) r x) k) (va_up (g_Ss S) k (upd (g_Ss S k) r 0) k) (g_St S k) (g_Rt S k) (g_Sl S k) (mkI (g_Hm S k)) = _
    rw [va_up_self, va_up_self]
  rw [e]
  exact c_X0_learn l D cI cZ cP (pd k 0) (pd k 1) (pd k 2) (pd k 3) (g_Gr S k) (g_Of S k) (g_Le S k) (g_Ss S k) (g_St S k) (g_Rt S k) (g_Sl S k) (mkI (g_Hm S k)) r x hr
set_option maxRecDepth 100000 in
theorem s_X0_hearNothing (l : Launch) (D : va_G) (cI cZ cP : ClassId) (pd : Nat → Nat → Nat) (S : ST) (k : Nat) (r : Nat) (hr : r < 16) : MM l yX0_hearNothing wsX0_hearNothing ({ frames := 0, cells := 0, slots := 0, locals := 0 }) D (kTy cI cZ cP) [.ref (pd k 0), .int (nI r)] (xB cI cZ pd S k) (none) (xB cI cZ pd (q_Hr S k r) k) := by
  have e : xB cI cZ pd (q_Hr S k r) k = pW cI cZ (pd k 0) (pd k 1) (pd k 2) (pd k 3) (g_Gr S k) (g_Of S k) (if g_Ss S k r = 0 then upd (g_Le S k) r 0 else g_Le S k) (g_Ss S k) (g_St S k) (g_Rt S k) (g_Sl S k) (mkI (g_Hm S k)) := by
    show pW cI cZ (pd k 0) (pd k 1) (pd k 2) (pd k 3) (g_Gr S k) (g_Of S k) (va_up (g_Le S) k (if g_Ss S k r = 0 then upd (g_Le S k) r 0 else g_Le S k) k) (g_Ss S k) (g_St S k) (g_Rt S k) (g_Sl S k) (mkI (g_Hm S k)) = _
    rw [va_up_self]
  rw [e]
  exact c_X0_hearNothing l D cI cZ cP (pd k 0) (pd k 1) (pd k 2) (pd k 3) (g_Gr S k) (g_Of S k) (g_Le S k) (g_Ss S k) (g_St S k) (g_Rt S k) (g_Sl S k) (mkI (g_Hm S k)) r hr
theorem xB_RmS (cI cZ : ClassId) (pd : Nat → Nat → Nat) (S : ST) (k : Nat) : xB cI cZ pd (o_RmS S k) k = pW cI cZ (pd k 0) (pd k 1) (pd k 2) (pd k 3) (g_Gr S k) (g_Of S k) (kCut (nz (g_Ss S k)) 16 (g_Le S k)) (kCut (nz (g_Ss S k)) 16 (g_Ss S k)) (g_St S k) (g_Rt S k) (g_Sl S k) (mkI (g_Hm S k)) := by
  show pW cI cZ (pd k 0) (pd k 1) (pd k 2) (pd k 3) (g_Gr S k) (g_Of S k) (va_up (g_Le S) k (kCut (nz (g_Ss S k)) 16 (g_Le S k)) k) (va_up (g_Ss S) k (kCut (nz (g_Ss S k)) 16 (g_Ss S k)) k) (g_St S k) (g_Rt S k) (g_Sl S k) (mkI (g_Hm S k)) = _
  rw [va_up_self, va_up_self]
theorem xB_Down (cI cZ : ClassId) (pd : Nat → Nat → Nat) (S : ST) (k : Nat) : xB cI cZ pd (o_Down S k) k = pW cI cZ (pd k 0) (pd k 1) (pd k 2) (pd k 3) (g_Gr S k) (g_Of S k) (kCut tt9 16 (g_Le S k)) (kCut tt9 16 (g_Ss S k)) 2 0 0 (mkI (g_Hm S k)) := by
  show pW cI cZ (pd k 0) (pd k 1) (pd k 2) (pd k 3) (g_Gr S k) (g_Of S k) (va_up (g_Le S) k (kCut tt9 16 (g_Le S k)) k) (va_up (g_Ss S) k (kCut tt9 16 (g_Ss S k)) k) (upd (g_St S) k 2 k) (upd (g_Rt S) k 0 k) (upd (g_Sl S) k 0 k) (mkI (g_Hm S k)) = _
  rw [va_up_self, va_up_self, upd_s, upd_s, upd_s]
theorem xB_Lose1 (cI cZ : ClassId) (pd : Nat → Nat → Nat) (S : ST) (k : Nat) : xB cI cZ pd (s_Rt (s_Sl (o_Mark (o_RmS (s_St S (upd (g_St S) k 1)) k) k) (upd (g_Sl S) k 0)) (upd (g_Rt S) k (g_T1 S))) k = pW cI cZ (pd k 0) (pd k 1) (pd k 2) (pd k 3) (g_Gr S k) (g_Of S k) (kCut (nz (g_Ss S k)) 16 (g_Le S k)) (kMrk 0 (kCut (nz (g_Ss S k)) 16 (g_Le S k)) 16 (kCut (nz (g_Ss S k)) 16 (g_Ss S k))) 1 (g_T1 S) 0 (mkI (g_Hm S k)) := by
  show pW cI cZ (pd k 0) (pd k 1) (pd k 2) (pd k 3) (g_Gr S k) (g_Of S k) (va_up (g_Le S) k (kCut (nz (g_Ss S k)) 16 (g_Le S k)) k) (va_up (va_up (g_Ss S) k (kCut (nz (g_Ss S k)) 16 (g_Ss S k))) k (kMrk 0 (va_up (g_Le S) k (kCut (nz (g_Ss S k)) 16 (g_Le S k)) k) 16 (va_up (g_Ss S) k (kCut (nz (g_Ss S k)) 16 (g_Ss S k)) k)) k) (upd (g_St S) k 1 k) (upd (g_Rt S) k (g_T1 S) k) (upd (g_Sl S) k 0 k) (mkI (g_Hm S k)) = _
  rw [va_up_self, va_up_self, va_up_self, upd_s, upd_s, upd_s]
set_option maxRecDepth 100000 in
theorem s_X0_goDown (l : Launch) (D : va_G) (cI cZ cP : ClassId) (pd : Nat → Nat → Nat) (S : ST) (k : Nat)  : MM l yX0_goDown wsX0_goDown ({ frames := 1, cells := 0, slots := 0, locals := 22 }) D (kTy cI cZ cP) [.ref (pd k 0)] (xB cI cZ pd S k) (some (.int (kCnt (nz (g_Le S k)) 16))) (xB cI cZ pd (o_Down S k) k) := by
  rw [xB_Down]
  exact c_X0_goDown l D cI cZ cP (pd k 0) (pd k 1) (pd k 2) (pd k 3) (g_Gr S k) (g_Of S k) (g_Le S k) (g_Ss S k) (g_St S k) (g_Rt S k) (g_Sl S k) (mkI (g_Hm S k)) 
set_option maxRecDepth 100000 in
theorem s_X0_endResync (l : Launch) (D : va_G) (cI cZ cP : ClassId) (pd : Nat → Nat → Nat) (S : ST) (k : Nat)  : MM l yX0_endResync wsX0_endResync ({ frames := 1, cells := 0, slots := 0, locals := 22 }) D (kTy cI cZ cP) [.ref (pd k 0)] (xB cI cZ pd S k) (none) (xB cI cZ pd (o_ERes S k) k) := by
  have e : xB cI cZ pd (o_ERes S k) k = pW cI cZ (pd k 0) (pd k 1) (pd k 2) (pd k 3) (g_Gr S k) (g_Of S k) (kCut (nz (g_Ss S k)) 16 (g_Le S k)) (kCut (nz (g_Ss S k)) 16 (g_Ss S k)) (g_St S k) (g_Rt S k) 0 (mkI (g_Hm S k)) := by
    show pW cI cZ (pd k 0) (pd k 1) (pd k 2) (pd k 3) (g_Gr S k) (g_Of S k) (va_up (g_Le S) k (kCut (nz (g_Ss S k)) 16 (g_Le S k)) k) (va_up (g_Ss S) k (kCut (nz (g_Ss S k)) 16 (g_Ss S k)) k) (g_St S k) (g_Rt S k) (upd (g_Sl S) k 0 k) (mkI (g_Hm S k)) = _
    rw [va_up_self, va_up_self, upd_s]
  rw [e]
  exact c_X0_endResync l D cI cZ cP (pd k 0) (pd k 1) (pd k 2) (pd k 3) (g_Gr S k) (g_Of S k) (g_Le S k) (g_Ss S k) (g_St S k) (g_Rt S k) (g_Sl S k) (mkI (g_Hm S k)) 
set_option maxRecDepth 100000 in
theorem s_X0_loseRouter (l : Launch) (D : va_G) (cI cZ cP : ClassId) (pd : Nat → Nat → Nat) (S : ST) (k : Nat)  : MM l yX0_loseRouter wsX0_loseRouter ({ frames := 2, cells := 0, slots := 0, locals := 42 }) D (kTy cI cZ cP) [.ref (pd k 0), .int (g_T1 S)] (xB cI cZ pd S k) (none) (xB cI cZ pd (o_Lose S k) k) := by
  have e : xB cI cZ pd (o_Lose S k) k = (if g_Gr S k = 0 then pW cI cZ (pd k 0) (pd k 1) (pd k 2) (pd k 3) (g_Gr S k) (g_Of S k) (kCut tt9 16 (g_Le S k)) (kCut tt9 16 (g_Ss S k)) 2 0 0 (mkI (g_Hm S k)) else pW cI cZ (pd k 0) (pd k 1) (pd k 2) (pd k 3) (g_Gr S k) (g_Of S k) (kCut (nz (g_Ss S k)) 16 (g_Le S k)) (kMrk 0 (kCut (nz (g_Ss S k)) 16 (g_Le S k)) 16 (kCut (nz (g_Ss S k)) 16 (g_Ss S k))) 1 (g_T1 S) 0 (mkI (g_Hm S k))) := by
    unfold o_Lose
    split
    · exact xB_Down cI cZ pd S k
    · exact xB_Lose1 cI cZ pd S k
  rw [e]
  exact c_X0_loseRouter l D cI cZ cP (pd k 0) (pd k 1) (pd k 2) (pd k 3) (g_Gr S k) (g_Of S k) (g_Le S k) (g_Ss S k) (g_St S k) (g_Rt S k) (g_Sl S k) (mkI (g_Hm S k)) (g_T1 S)
set_option maxRecDepth 100000 in
theorem s_X0_meetRouter (l : Launch) (D : va_G) (cI cZ cP : ClassId) (pd : Nat → Nat → Nat) (S : ST) (k : Nat)  : MM l yX0_meetRouter wsX0_meetRouter ({ frames := 0, cells := 0, slots := 0, locals := 0 }) D (kTy cI cZ cP) [.ref (pd k 0), .int (g_T2 S)] (xB cI cZ pd S k) (none) (xB cI cZ pd (o_Meet S k) k) := by
  have e : xB cI cZ pd (o_Meet S k) k = (if g_St S k = 1 then pW cI cZ (pd k 0) (pd k 1) (pd k 2) (pd k 3) (g_Gr S k) (g_Of S k) (g_Le S k) (g_Ss S k) 0 0 (g_T2 S) (mkI (g_Hm S k)) else pW cI cZ (pd k 0) (pd k 1) (pd k 2) (pd k 3) (g_Gr S k) (g_Of S k) (g_Le S k) (g_Ss S k) 0 (g_Rt S k) (g_Sl S k) (mkI (g_Hm S k))) := by
    unfold o_Meet
    split
    · show pW cI cZ (pd k 0) (pd k 1) (pd k 2) (pd k 3) (g_Gr S k) (g_Of S k) (g_Le S k) (g_Ss S k) (upd (g_St S) k 0 k) (upd (g_Rt S) k 0 k) (upd (g_Sl S) k (g_T2 S) k) (mkI (g_Hm S k)) = _
      rw [upd_s, upd_s, upd_s]
    · show pW cI cZ (pd k 0) (pd k 1) (pd k 2) (pd k 3) (g_Gr S k) (g_Of S k) (g_Le S k) (g_Ss S k) (upd (g_St S) k 0 k) (g_Rt S k) (g_Sl S k) (mkI (g_Hm S k)) = _
      rw [upd_s]
  rw [e]
  exact c_X0_meetRouter l D cI cZ cP (pd k 0) (pd k 1) (pd k 2) (pd k 3) (g_Gr S k) (g_Of S k) (g_Le S k) (g_Ss S k) (g_St S k) (g_Rt S k) (g_Sl S k) (mkI (g_Hm S k)) (g_T2 S)
theorem CD_v (S : ST) (k : Nat) : (if 0 < (g_Rt S k) then (if (g_Rt S k) - 1 = 0 then (0 + kCnt (nz (g_Le S k)) 16) else (if 0 < (g_Sl S k) then (if (g_Sl S k) - 1 = 0 then 0 + kCnt (nz (g_Ss S k)) 16 else 0) else 0)) else (if 0 < (g_Sl S k) then (if (g_Sl S k) - 1 = 0 then 0 + kCnt (nz (g_Ss S k)) 16 else 0) else 0)) = (o_CD S k).1 := by
  by_cases h1 : 0 < g_Rt S k
  · rw [if_pos h1]
    by_cases h2 : g_Rt S k - 1 = 0
    · rw [if_pos h2, ← CD_1, CDa_2 h1 h2, CDb_0 (by show ¬ 0 < upd (g_Sl S) k 0 k; rw [upd_s]; decide), Int32.zero_add, Int32.add_zero]
    · rw [if_neg h2, ← CD_1, CDa_1 h1 h2]
      show _ = 0 + (o_CDb (s_Rt S (upd (g_Rt S) k (g_Rt S k - 1))) k).1
      by_cases h3 : 0 < g_Sl S k
      · rw [if_pos h3]
        by_cases h4 : g_Sl S k - 1 = 0
        · rw [if_pos h4, CDb_2 (S := s_Rt S (upd (g_Rt S) k (g_Rt S k - 1))) h3 h4]; rfl
        · rw [if_neg h4, CDb_1 (S := s_Rt S (upd (g_Rt S) k (g_Rt S k - 1))) h3 h4]; rfl
      · rw [if_neg h3, CDb_0 (S := s_Rt S (upd (g_Rt S) k (g_Rt S k - 1))) h3]; rfl
  · rw [if_neg h1, ← CD_1, CDa_0 h1]
    show _ = 0 + (o_CDb S k).1
    by_cases h3 : 0 < g_Sl S k
    · rw [if_pos h3]
      by_cases h4 : g_Sl S k - 1 = 0
      · rw [if_pos h4, CDb_2 h3 h4]
      · rw [if_neg h4, CDb_1 h3 h4]; rfl
    · rw [if_neg h3, CDb_0 h3]; rfl
theorem xB_b2 (cI cZ : ClassId) (pd : Nat → Nat → Nat) (S : ST) (k : Nat) (v : Int32) : xB cI cZ pd (o_RmS (s_Sl S (upd (g_Sl S) k v)) k) k = pW cI cZ (pd k 0) (pd k 1) (pd k 2) (pd k 3) (g_Gr S k) (g_Of S k) (kCut (nz (g_Ss S k)) 16 (g_Le S k)) (kCut (nz (g_Ss S k)) 16 (g_Ss S k)) (g_St S k) (g_Rt S k) v (mkI (g_Hm S k)) := by
  rw [xB_RmS]
  show pW cI cZ (pd k 0) (pd k 1) (pd k 2) (pd k 3) (g_Gr S k) (g_Of S k) (kCut (nz (g_Ss S k)) 16 (g_Le S k)) (kCut (nz (g_Ss S k)) 16 (g_Ss S k)) (g_St S k) (g_Rt S k) (upd (g_Sl S) k v k) (mkI (g_Hm S k)) = _
  rw [upd_s]
theorem xB_b1 (cI cZ : ClassId) (pd : Nat → Nat → Nat) (S : ST) (k : Nat) (v : Int32) : xB cI cZ pd (s_Sl S (upd (g_Sl S) k v)) k = pW cI cZ (pd k 0) (pd k 1) (pd k 2) (pd k 3) (g_Gr S k) (g_Of S k) (g_Le S k) (g_Ss S k) (g_St S k) (g_Rt S k) v (mkI (g_Hm S k)) := by
  show pW cI cZ (pd k 0) (pd k 1) (pd k 2) (pd k 3) (g_Gr S k) (g_Of S k) (g_Le S k) (g_Ss S k) (g_St S k) (g_Rt S k) (upd (g_Sl S) k v k) (mkI (g_Hm S k)) = _
  rw [upd_s]
theorem xB_a1 (cI cZ : ClassId) (pd : Nat → Nat → Nat) (S : ST) (k : Nat) (v : Int32) : xB cI cZ pd (s_Rt S (upd (g_Rt S) k v)) k = pW cI cZ (pd k 0) (pd k 1) (pd k 2) (pd k 3) (g_Gr S k) (g_Of S k) (g_Le S k) (g_Ss S k) (g_St S k) v (g_Sl S k) (mkI (g_Hm S k)) := by
  show pW cI cZ (pd k 0) (pd k 1) (pd k 2) (pd k 3) (g_Gr S k) (g_Of S k) (g_Le S k) (g_Ss S k) (g_St S k) (upd (g_Rt S) k v k) (g_Sl S k) (mkI (g_Hm S k)) = _
  rw [upd_s]
theorem CD_w (cI cZ : ClassId) (pd : Nat → Nat → Nat) (S : ST) (k : Nat) : (if 0 < (g_Rt S k) then (if (g_Rt S k) - 1 = 0 then (pW cI cZ (pd k 0) (pd k 1) (pd k 2) (pd k 3) (g_Gr S k) (g_Of S k) (kCut tt9 16 (g_Le S k)) (kCut tt9 16 (g_Ss S k)) 2 0 0 (mkI (g_Hm S k))) else (if 0 < (g_Sl S k) then (if (g_Sl S k) - 1 = 0 then (pW cI cZ (pd k 0) (pd k 1) (pd k 2) (pd k 3) (g_Gr S k) (g_Of S k) (kCut (nz (g_Ss S k)) 16 (g_Le S k)) (kCut (nz (g_Ss S k)) 16 (g_Ss S k)) (g_St S k) ((g_Rt S k) - 1) ((g_Sl S k) - 1) (mkI (g_Hm S k))) else (pW cI cZ (pd k 0) (pd k 1) (pd k 2) (pd k 3) (g_Gr S k) (g_Of S k) (g_Le S k) (g_Ss S k) (g_St S k) ((g_Rt S k) - 1) ((g_Sl S k) - 1) (mkI (g_Hm S k)))) else (pW cI cZ (pd k 0) (pd k 1) (pd k 2) (pd k 3) (g_Gr S k) (g_Of S k) (g_Le S k) (g_Ss S k) (g_St S k) ((g_Rt S k) - 1) (g_Sl S k) (mkI (g_Hm S k))))) else (if 0 < (g_Sl S k) then (if (g_Sl S k) - 1 = 0 then (pW cI cZ (pd k 0) (pd k 1) (pd k 2) (pd k 3) (g_Gr S k) (g_Of S k) (kCut (nz (g_Ss S k)) 16 (g_Le S k)) (kCut (nz (g_Ss S k)) 16 (g_Ss S k)) (g_St S k) (g_Rt S k) ((g_Sl S k) - 1) (mkI (g_Hm S k))) else (pW cI cZ (pd k 0) (pd k 1) (pd k 2) (pd k 3) (g_Gr S k) (g_Of S k) (g_Le S k) (g_Ss S k) (g_St S k) (g_Rt S k) ((g_Sl S k) - 1) (mkI (g_Hm S k)))) else (pW cI cZ (pd k 0) (pd k 1) (pd k 2) (pd k 3) (g_Gr S k) (g_Of S k) (g_Le S k) (g_Ss S k) (g_St S k) (g_Rt S k) (g_Sl S k) (mkI (g_Hm S k))))) = xB cI cZ pd (o_CD S k).2 k := by
  by_cases h1 : 0 < g_Rt S k
  · rw [if_pos h1]
    by_cases h2 : g_Rt S k - 1 = 0
    · rw [if_pos h2, ← CD_2, CDa_2 h1 h2, CDb_0 (by show ¬ 0 < upd (g_Sl S) k 0 k; rw [upd_s]; decide)]
      exact (xB_Down cI cZ pd S k).symm
    · rw [if_neg h2, ← CD_2, CDa_1 h1 h2]
      show _ = xB cI cZ pd (o_CDb (s_Rt S (upd (g_Rt S) k (g_Rt S k - 1))) k).2 k
      by_cases h3 : 0 < g_Sl S k
      · rw [if_pos h3]
        by_cases h4 : g_Sl S k - 1 = 0
        · rw [if_pos h4, CDb_2 (S := s_Rt S (upd (g_Rt S) k (g_Rt S k - 1))) h3 h4]
          refine Eq.trans ?_ (xB_b2 cI cZ pd (s_Rt S (upd (g_Rt S) k (g_Rt S k - 1))) k _).symm
          show _ = pW cI cZ (pd k 0) (pd k 1) (pd k 2) (pd k 3) (g_Gr S k) (g_Of S k) (kCut (nz (g_Ss S k)) 16 (g_Le S k)) (kCut (nz (g_Ss S k)) 16 (g_Ss S k)) (g_St S k) (upd (g_Rt S) k (g_Rt S k - 1) k) (g_Sl S k - 1) (mkI (g_Hm S k))
          rw [upd_s]
        · rw [if_neg h4, CDb_1 (S := s_Rt S (upd (g_Rt S) k (g_Rt S k - 1))) h3 h4]
          refine Eq.trans ?_ (xB_b1 cI cZ pd (s_Rt S (upd (g_Rt S) k (g_Rt S k - 1))) k _).symm
          show _ = pW cI cZ (pd k 0) (pd k 1) (pd k 2) (pd k 3) (g_Gr S k) (g_Of S k) (g_Le S k) (g_Ss S k) (g_St S k) (upd (g_Rt S) k (g_Rt S k - 1) k) (g_Sl S k - 1) (mkI (g_Hm S k))
          rw [upd_s]
      · rw [if_neg h3, CDb_0 (S := s_Rt S (upd (g_Rt S) k (g_Rt S k - 1))) h3]
        exact (xB_a1 cI cZ pd S k _).symm
  · rw [if_neg h1, ← CD_2, CDa_0 h1]
    show _ = xB cI cZ pd (o_CDb S k).2 k
    by_cases h3 : 0 < g_Sl S k
    · rw [if_pos h3]
      by_cases h4 : g_Sl S k - 1 = 0
      · rw [if_pos h4, CDb_2 h3 h4]
        exact (xB_b2 cI cZ pd S k _).symm
      · rw [if_neg h4, CDb_1 h3 h4]
        exact (xB_b1 cI cZ pd S k _).symm
    · rw [if_neg h3, CDb_0 h3]
      rfl
set_option maxRecDepth 100000 in
theorem s_X0_countDown (l : Launch) (D : va_G) (cI cZ cP : ClassId) (pd : Nat → Nat → Nat) (S : ST) (k : Nat)  : MM l yX0_countDown wsX0_countDown ({ frames := 2, cells := 0, slots := 0, locals := 42 }) D (kTy cI cZ cP) [.ref (pd k 0)] (xB cI cZ pd S k) (some (.int (o_CD S k).1)) (xB cI cZ pd ((o_CD S k).2) k) := by
  rw [← CD_v, ← CD_w]
  exact c_X0_countDown l D cI cZ cP (pd k 0) (pd k 1) (pd k 2) (pd k 3) (g_Gr S k) (g_Of S k) (g_Le S k) (g_Ss S k) (g_St S k) (g_Rt S k) (g_Sl S k) (mkI (g_Hm S k)) 
