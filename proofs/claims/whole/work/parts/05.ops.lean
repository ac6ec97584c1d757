/-! what the methods do to the state, as functions -/
def o_RmS (S : ST) (p : Nat) : ST := s_Ss (s_Le S (va_up (g_Le S) p (kCut (nz (g_Ss S p)) 16 (g_Le S p)))) (va_up (g_Ss S) p (kCut (nz (g_Ss S p)) 16 (g_Ss S p)))
def o_RmL (S : ST) (p : Nat) : ST := s_Ss (s_Le S (va_up (g_Le S) p (kCut tt9 16 (g_Le S p)))) (va_up (g_Ss S) p (kCut tt9 16 (g_Ss S p)))
def o_Down (S : ST) (p : Nat) : ST := o_RmL (s_Sl (s_Rt (s_St S (upd (g_St S) p 2)) (upd (g_Rt S) p 0)) (upd (g_Sl S) p 0)) p
def o_Mark (S : ST) (p : Nat) : ST := s_Ss S (va_up (g_Ss S) p (kMrk 0 (g_Le S p) 16 (g_Ss S p)))
def o_Lose (S : ST) (p : Nat) : ST := if g_Gr S p = 0 then o_Down S p else s_Rt (s_Sl (o_Mark (o_RmS (s_St S (upd (g_St S) p 1)) p) p) (upd (g_Sl S) p 0)) (upd (g_Rt S) p (g_T1 S))
def o_Meet (S : ST) (p : Nat) : ST := if g_St S p = 1 then s_St (s_Sl (s_Rt S (upd (g_Rt S) p 0)) (upd (g_Sl S) p (g_T2 S))) (upd (g_St S) p 0) else s_St S (upd (g_St S) p 0)
def o_ERes (S : ST) (p : Nat) : ST := s_Sl (o_RmS S p) (upd (g_Sl S) p 0)
/-- one tick of a peer's restart timer, then of its stale timer -/
def o_CDa (S : ST) (p : Nat) : Int32 × ST := if 0 < g_Rt S p then (if g_Rt S p - 1 = 0 then (kCnt (nz (g_Le S p)) 16, o_Down S p) else (0, s_Rt S (upd (g_Rt S) p (g_Rt S p - 1)))) else (0, S)
def o_CDb (S : ST) (p : Nat) : Int32 × ST := if 0 < g_Sl S p then (if g_Sl S p - 1 = 0 then (kCnt (nz (g_Ss S p)) 16, o_RmS (s_Sl S (upd (g_Sl S) p (g_Sl S p - 1))) p) else (0, s_Sl S (upd (g_Sl S) p (g_Sl S p - 1)))) else (0, S)
def o_CD (S : ST) (p : Nat) : Int32 × ST := ((o_CDa S p).1 + (o_CDb (o_CDa S p).2 p).1, (o_CDb (o_CDa S p).2 p).2)
/-- awaited peers -/
def aw (S : ST) (p : Nat) : Prop := ¬ g_Gr S p = 0 ∧ ¬ g_St S p = 2 ∧ (g_Hm S p 0 = 0 ∨ g_Hm S p 1 = 0)
theorem aw_dec (S : ST) (p : Nat) : aw S p ∨ ¬ aw S p := Classical.em _
noncomputable def o_Wt (S : ST) : Nat → Int32
  | 0 => 0
  | i + 1 => @ite _ (aw S i) (Classical.propDecidable _) (o_Wt S i ||| (1 <<< (nI i &&& 31))) (o_Wt S i)
/-- the best offer among the first i peers -/
def b_len (S : ST) (r p : Nat) : Int32 := if g_St S p = 0 then g_Of S p r else 0
def b_at (S : ST) (r : Nat) : Nat → Int32 × Int32
  | 0 => (-6, 0)
  | i + 1 => if 0 < b_len S r i ∧ ((b_at S r i).1 = -6 ∨ b_len S r i < (b_at S r i).2) then (nI i, b_len S r i) else b_at S r i
/-- the router tells one peer, the first i peers -/
def a_1 (S : ST) (r : Nat) (hop len : Int32) (p : Nat) : ST := if g_St S p = 0 then (if hop = -6 ∨ hop = nI p then (if g_Ss S p r = 0 then s_Le S (va_up (g_Le S) p (upd (g_Le S p) r 0)) else S) else s_Ss (s_Le S (va_up (g_Le S) p (upd (g_Le S p) r len))) (va_up (g_Ss S) p (upd (g_Ss S p) r 0))) else S
def a_i (S : ST) (r : Nat) (hop len : Int32) : Nat → ST
  | 0 => S
  | i + 1 => a_1 (a_i S r hop len i) r hop len i
def o_Ent (S : ST) (r : Nat) (hop : Int32) : ST := s_Hz (s_Hs (s_Ho S (upd (g_Ho S) r hop)) (upd (g_Hs S) r 0)) (upd (g_Hz S) r 0)
def o_Sel (S : ST) (r : Nat) : ST := a_i (o_Ent S r (b_at S r (g_N S)).1) r (b_at S r (g_N S)).1 ((b_at S r (g_N S)).2 + 1) (g_N S)
def o_SA (S : ST) : Nat → ST
  | 0 => S
  | i + 1 => o_Sel (o_SA S i) i
/-- the end of deferral -/
def o_ER (S : ST) : Nat → ST
  | 0 => S
  | i + 1 => if g_St (o_ER S i) i = 0 then o_ERes (o_ER S i) i else o_ER S i
def o_End (S : ST) : ST := o_ER (o_SA (s_Dl (s_Df S 0) 0) 16) (g_N S)
noncomputable def o_Chk (S : ST) : ST := if g_Df S = 0 then S else if g_Dl S = 0 ∨ o_Wt S (g_N S) = 0 then o_End S else S
/-- ticks -/
def o_CDs (S : ST) : Nat → Int32 × ST
  | 0 => (0, S)
  | i + 1 => ((o_CDs S i).1 + (o_CD (o_CDs S i).2 i).1, (o_CD (o_CDs S i).2 i).2)
def o_Dl1 (S : ST) : ST := if 0 < g_Dl S then s_Dl S (g_Dl S - 1) else S
noncomputable def o_Tk1 (S : ST) : Int32 × ST := ((o_CDs S (g_N S)).1, o_Chk (o_Dl1 (o_CDs S (g_N S)).2))
noncomputable def o_Tk (S : ST) : Nat → Int32 × ST
  | 0 => (0, S)
  | j + 1 => ((o_Tk S j).1 + (o_Tk1 (o_Tk S j).2).1, (o_Tk1 (o_Tk S j).2).2)
/-- restart -/
def o_Hm0 (S : ST) (p : Nat) : ST := s_Hm S (va_up (g_Hm S) p (upd (upd (g_Hm S p) 0 0) 1 0))
def o_Rs (S : ST) : Nat → Int32 × ST
  | 0 => (0, S)
  | i + 1 => if g_St (o_Rs S i).2 i = 0 then ((o_Rs S i).1 + 1, o_Lose (o_Hm0 (o_Rs S i).2 i) i) else ((o_Rs S i).1, o_Hm0 (o_Rs S i).2 i)
def o_FT (S : ST) (pv : Int32) : ST := if pv = 0 then s_Hz (s_Ho S (kSet (-6) 16 (g_Ho S))) (kMrk (-6) (kSet (-6) 16 (g_Ho S)) 16 (g_Hz S)) else s_Hz (s_Hs S (kSet 1 16 (g_Hs S))) (kMrk (-6) (g_Ho S) 16 (g_Hz S))
noncomputable def o_Rst (S : ST) (pv : Int32) : Int32 × ST := ((o_Rs S (g_N S)).1, o_Chk (s_Dl (s_Df (o_FT (o_Rs S (g_N S)).2 pv) 1) (g_T3 S)))
/-- packets -/
def o_Fw (S : ST) (p r : Nat) : Int32 := if g_Le S p r = 0 then -6 else if g_Ho S r = -6 then -7 else if g_Ho S r = nI p then -8 else g_Ho S r
def p_Fw (S : ST) (p : Nat) : Nat → Bool := fun r => decide (0 ≤ o_Fw S p r)
def p_Lp (S : ST) (p : Nat) : Nat → Bool := fun r => decide (o_Fw S p r = -8)
def o_Lp (S : ST) : Nat → Int32
  | 0 => 0
  | i + 1 => o_Lp S i + kCnt (p_Lp S i) 16
def p_Of (S : ST) (p : Nat) : Nat → Bool := fun r => decide (0 < g_Of S p r)
def pz (f : FR) : Nat → Bool := fun r => decide (0 < f r)
theorem pz_t {f : FR} {r : Nat} (h : 0 < f r) : pz f r = true := by simp [pz, h]
theorem pz_f {f : FR} {r : Nat} (h : ¬ 0 < f r) : pz f r = false := by simp [pz, h]
/-- a question's arguments -/
abbrev okP (n : Nat) (x : Int32) : Prop := 0 ≤ x ∧ x < nI n
abbrev okR (t f : Int32) : Prop := (0 ≤ t ∧ t < 2) ∧ 0 ≤ f ∧ f < 8
theorem nI_16 : (16 : Int32) = nI 16 := rfl
theorem nI_8 : (8 : Int32) = nI 8 := rfl
theorem nI_2 : (2 : Int32) = nI 2 := rfl
theorem nI_5 : (5 : Int32) = nI 5 := rfl
theorem nI_one : (1 : Int32) = nI 1 := rfl
theorem nI_zero : (0 : Int32) = nI 0 := rfl
theorem nx16 (a : Nat) : (16 : Int32) * nI a = nI (16 * a) := pk_mul 16 a
theorem nx8 (a : Nat) : (8 : Int32) * nI a = nI (8 * a) := pk_mul 8 a
theorem nx2 (a : Nat) : (2 : Int32) * nI a = nI (2 * a) := pk_mul 2 a
theorem nx8r (a : Nat) : nI a * (8 : Int32) = nI (8 * a) := by rw [nI_8, pk_mul, Nat.mul_comm]
theorem nx16r (a : Nat) : nI a * (16 : Int32) = nI (16 * a) := by rw [nI_16, pk_mul, Nat.mul_comm]
