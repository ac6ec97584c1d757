/-! the public calls, as functions of the state: answer and state behind -/
abbrev okT (x : Int32) : Prop := ¬ x < 1 ∧ ¬ 50 < x
abbrev okL (x : Int32) : Prop := ¬ x < 1 ∧ ¬ 20 < x
abbrev okK (x : Int32) : Prop := ¬ x < 1 ∧ ¬ 100 < x
abbrev okB (t : Int32) : Prop := 0 ≤ t ∧ t < 2
def kx (x : Int32) : Nat := x.toNatClampNeg
def rx (t f : Int32) : Nat := 8 * t.toNatClampNeg + f.toNatClampNeg
theorem kx_n {k : Nat} (h : k < 2 ^ 31) : kx (nI k) = k := nI_clamp h
theorem rx_n {a b : Nat} (ha : a < 2 ^ 31) (hb : b < 2 ^ 31) : rx (nI a) (nI b) = 8 * a + b := by rw [rx, nI_clamp ha, nI_clamp hb]
theorem wi_g (x lo hi : Int32) : (if x < lo then (0 : Int32) else if hi < x then 0 else 1) = if (¬ x < lo ∧ ¬ hi < x) then 1 else 0 := by
  by_cases h0 : x < lo
  · rw [if_pos h0, if_neg (fun h => h.1 h0)]
  · rw [if_neg h0]
    by_cases h1 : hi < x
    · rw [if_pos h1, if_neg (fun h => h.2 h1)]
    · rw [if_neg h1, if_pos ⟨h0, h1⟩]
def u_Ofr (S : ST) (p r : Nat) (len : Int32) : ST := if g_Df S = 0 ∧ g_St S p = 0 then o_Sel (s_Of S (va_up (g_Of S) p (upd (g_Of S p) r len))) r else s_Of S (va_up (g_Of S) p (upd (g_Of S p) r len))
def u_Ann (S : ST) (x t f len : Int32) : Int32 × ST := if okP (g_N S) x then (if okR t f then (if okL len then (g_Of S (kx x) (rx t f), u_Ofr S (kx x) (rx t f) len) else (-3, S)) else (-2, S)) else (-1, S)
def u_Wd (S : ST) (x t f : Int32) : Int32 × ST := if okP (g_N S) x then (if okR t f then (if g_Of S (kx x) (rx t f) = 0 then (-6, S) else (g_Of S (kx x) (rx t f), u_Ofr S (kx x) (rx t f) 0)) else (-2, S)) else (-1, S)
def u_New (S : ST) (g : Int32) : ST := s_N (s_St (s_Gr S (upd (g_Gr S) (g_N S) g)) (upd (g_St S) (g_N S) 0)) (g_N S + 1)
def u_Add (S : ST) (g : Int32) : Int32 × ST := if g_N S = 5 then (-5, S) else (nI (g_N S), if g_Df S = 0 then o_SA (u_New S g) 16 else u_New S g)
def u_Rc1 (S : ST) (p : Nat) : ST := if g_Df S = 0 then o_ERes (o_SA (o_Meet S p) 16) p else o_Meet S p
noncomputable def u_Rec (S : ST) (x : Int32) : Int32 × ST := if okP (g_N S) x then (if g_St S (kx x) = 0 then (-4, S) else (kCnt (pz (g_Of S (kx x))) 16, o_Chk (u_Rc1 S (kx x)))) else (-1, S)
def u_Ds1 (S : ST) (p : Nat) : ST := if g_Df S = 0 then o_SA (o_Down S p) 16 else o_Down S p
noncomputable def u_Dis (S : ST) (x : Int32) : Int32 × ST := if okP (g_N S) x then (if g_St S (kx x) = 2 then (-4, S) else (kCnt (nz (g_Le S (kx x))) 16, o_Chk (u_Ds1 S (kx x)))) else (-1, S)
def u_Mk (S : ST) (p t : Nat) : ST := s_Hm S (va_up (g_Hm S) p (upd (g_Hm S p) t 1))
noncomputable def u_Eot (S : ST) (x t : Int32) : Int32 × ST := if okP (g_N S) x then (if okB t then (if g_St S (kx x) = 0 then (if g_Hm S (kx x) (kx t) = 0 then (1, o_Chk (u_Mk S (kx x) (kx t))) else (0, S)) else (-4, S)) else (-2, S)) else (-1, S)
noncomputable def u_Tick (S : ST) (x : Int32) : Int32 × ST := if okK x then o_Tk S (kx x) else (-3, S)
def q_LL (S : ST) (x t f : Int32) : Int32 := if okP (g_N S) x then (if okR t f then (if g_Le S (kx x) (rx t f) = 0 then -6 else g_Le S (kx x) (rx t f)) else -2) else -1
def q_LS (S : ST) (x t f : Int32) : Int32 := if okP (g_N S) x then (if okR t f then (if g_Le S (kx x) (rx t f) = 0 then -6 else if g_Ss S (kx x) (rx t f) = 0 then 0 else 1) else -2) else -1
def q_Fw (S : ST) (x t f : Int32) : Int32 := if okP (g_N S) x then (if okR t f then o_Fw S (kx x) (rx t f) else -2) else -1
def q_Rf (n : Nat) (x t f : Int32) : Int32 := if okP n x then (if okR t f then 0 else -2) else -1
theorem nI_m1 (n : Nat) : nI (n + 1) - 1 = nI n := nI_pred n
