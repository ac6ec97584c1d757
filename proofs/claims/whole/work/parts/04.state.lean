/-! the state of both sides, as one value; the worlds that hold it -/
abbrev FR : Type := Nat → Int32
abbrev GR : Type := Nat → Nat → Int32
abbrev ST : Type := Int32 × Int32 × Int32 × Nat × FR × FR × FR × FR × GR × GR × GR × GR × FR × FR × FR × Int32 × Int32
def g_T1 (S : ST) : Int32 := S.1
def g_T2 (S : ST) : Int32 := S.2.1
def g_T3 (S : ST) : Int32 := S.2.2.1
def g_N (S : ST) : Nat := S.2.2.2.1
def g_Gr (S : ST) : FR := S.2.2.2.2.1
def g_St (S : ST) : FR := S.2.2.2.2.2.1
def g_Rt (S : ST) : FR := S.2.2.2.2.2.2.1
def g_Sl (S : ST) : FR := S.2.2.2.2.2.2.2.1
def g_Hm (S : ST) : GR := S.2.2.2.2.2.2.2.2.1
def g_Of (S : ST) : GR := S.2.2.2.2.2.2.2.2.2.1
def g_Le (S : ST) : GR := S.2.2.2.2.2.2.2.2.2.2.1
def g_Ss (S : ST) : GR := S.2.2.2.2.2.2.2.2.2.2.2.1
def g_Ho (S : ST) : FR := S.2.2.2.2.2.2.2.2.2.2.2.2.1
def g_Hs (S : ST) : FR := S.2.2.2.2.2.2.2.2.2.2.2.2.2.1
def g_Hz (S : ST) : FR := S.2.2.2.2.2.2.2.2.2.2.2.2.2.2.1
def g_Df (S : ST) : Int32 := S.2.2.2.2.2.2.2.2.2.2.2.2.2.2.2.1
def g_Dl (S : ST) : Int32 := S.2.2.2.2.2.2.2.2.2.2.2.2.2.2.2.2
def s_T1 (S : ST) (v : Int32) : ST := (v, S.2)
def s_T2 (S : ST) (v : Int32) : ST := (S.1, v, S.2.2)
def s_T3 (S : ST) (v : Int32) : ST := (S.1, S.2.1, v, S.2.2.2)
def s_N (S : ST) (v : Nat) : ST := (S.1, S.2.1, S.2.2.1, v, S.2.2.2.2)
def s_Gr (S : ST) (v : FR) : ST := (S.1, S.2.1, S.2.2.1, S.2.2.2.1, v, S.2.2.2.2.2)
def s_St (S : ST) (v : FR) : ST := (S.1, S.2.1, S.2.2.1, S.2.2.2.1, S.2.2.2.2.1, v, S.2.2.2.2.2.2)
def s_Rt (S : ST) (v : FR) : ST := (S.1, S.2.1, S.2.2.1, S.2.2.2.1, S.2.2.2.2.1, S.2.2.2.2.2.1, v, S.2.2.2.2.2.2.2)
def s_Sl (S : ST) (v : FR) : ST := (S.1, S.2.1, S.2.2.1, S.2.2.2.1, S.2.2.2.2.1, S.2.2.2.2.2.1, S.2.2.2.2.2.2.1, v, S.2.2.2.2.2.2.2.2)
def s_Hm (S : ST) (v : GR) : ST := (S.1, S.2.1, S.2.2.1, S.2.2.2.1, S.2.2.2.2.1, S.2.2.2.2.2.1, S.2.2.2.2.2.2.1, S.2.2.2.2.2.2.2.1, v, S.2.2.2.2.2.2.2.2.2)
def s_Of (S : ST) (v : GR) : ST := (S.1, S.2.1, S.2.2.1, S.2.2.2.1, S.2.2.2.2.1, S.2.2.2.2.2.1, S.2.2.2.2.2.2.1, S.2.2.2.2.2.2.2.1, S.2.2.2.2.2.2.2.2.1, v, S.2.2.2.2.2.2.2.2.2.2)
def s_Le (S : ST) (v : GR) : ST := (S.1, S.2.1, S.2.2.1, S.2.2.2.1, S.2.2.2.2.1, S.2.2.2.2.2.1, S.2.2.2.2.2.2.1, S.2.2.2.2.2.2.2.1, S.2.2.2.2.2.2.2.2.1, S.2.2.2.2.2.2.2.2.2.1, v, S.2.2.2.2.2.2.2.2.2.2.2)
def s_Ss (S : ST) (v : GR) : ST := (S.1, S.2.1, S.2.2.1, S.2.2.2.1, S.2.2.2.2.1, S.2.2.2.2.2.1, S.2.2.2.2.2.2.1, S.2.2.2.2.2.2.2.1, S.2.2.2.2.2.2.2.2.1, S.2.2.2.2.2.2.2.2.2.1, S.2.2.2.2.2.2.2.2.2.2.1, v, S.2.2.2.2.2.2.2.2.2.2.2.2)
def s_Ho (S : ST) (v : FR) : ST := (S.1, S.2.1, S.2.2.1, S.2.2.2.1, S.2.2.2.2.1, S.2.2.2.2.2.1, S.2.2.2.2.2.2.1, S.2.2.2.2.2.2.2.1, S.2.2.2.2.2.2.2.2.1, S.2.2.2.2.2.2.2.2.2.1, S.2.2.2.2.2.2.2.2.2.2.1, S.2.2.2.2.2.2.2.2.2.2.2.1, v, S.2.2.2.2.2.2.2.2.2.2.2.2.2)
def s_Hs (S : ST) (v : FR) : ST := (S.1, S.2.1, S.2.2.1, S.2.2.2.1, S.2.2.2.2.1, S.2.2.2.2.2.1, S.2.2.2.2.2.2.1, S.2.2.2.2.2.2.2.1, S.2.2.2.2.2.2.2.2.1, S.2.2.2.2.2.2.2.2.2.1, S.2.2.2.2.2.2.2.2.2.2.1, S.2.2.2.2.2.2.2.2.2.2.2.1, S.2.2.2.2.2.2.2.2.2.2.2.2.1, v, S.2.2.2.2.2.2.2.2.2.2.2.2.2.2)
def s_Hz (S : ST) (v : FR) : ST := (S.1, S.2.1, S.2.2.1, S.2.2.2.1, S.2.2.2.2.1, S.2.2.2.2.2.1, S.2.2.2.2.2.2.1, S.2.2.2.2.2.2.2.1, S.2.2.2.2.2.2.2.2.1, S.2.2.2.2.2.2.2.2.2.1, S.2.2.2.2.2.2.2.2.2.2.1, S.2.2.2.2.2.2.2.2.2.2.2.1, S.2.2.2.2.2.2.2.2.2.2.2.2.1, S.2.2.2.2.2.2.2.2.2.2.2.2.2.1, v, S.2.2.2.2.2.2.2.2.2.2.2.2.2.2.2)
def s_Df (S : ST) (v : Int32) : ST := (S.1, S.2.1, S.2.2.1, S.2.2.2.1, S.2.2.2.2.1, S.2.2.2.2.2.1, S.2.2.2.2.2.2.1, S.2.2.2.2.2.2.2.1, S.2.2.2.2.2.2.2.2.1, S.2.2.2.2.2.2.2.2.2.1, S.2.2.2.2.2.2.2.2.2.2.1, S.2.2.2.2.2.2.2.2.2.2.2.1, S.2.2.2.2.2.2.2.2.2.2.2.2.1, S.2.2.2.2.2.2.2.2.2.2.2.2.2.1, S.2.2.2.2.2.2.2.2.2.2.2.2.2.2.1, v, S.2.2.2.2.2.2.2.2.2.2.2.2.2.2.2.2)
def s_Dl (S : ST) (v : Int32) : ST := (S.1, S.2.1, S.2.2.1, S.2.2.2.1, S.2.2.2.2.1, S.2.2.2.2.2.1, S.2.2.2.2.2.2.1, S.2.2.2.2.2.2.2.1, S.2.2.2.2.2.2.2.2.1, S.2.2.2.2.2.2.2.2.2.1, S.2.2.2.2.2.2.2.2.2.2.1, S.2.2.2.2.2.2.2.2.2.2.2.1, S.2.2.2.2.2.2.2.2.2.2.2.2.1, S.2.2.2.2.2.2.2.2.2.2.2.2.2.1, S.2.2.2.2.2.2.2.2.2.2.2.2.2.2.1, S.2.2.2.2.2.2.2.2.2.2.2.2.2.2.2.1, v)
/-- rows of rows, laid flat -/
def fl (w : Nat) (L : GR) : FR := fun a => L (a / w) (a % w)
theorem fl_at (w : Nat) (L : GR) {p r : Nat} (h : r < w) : fl w L (w * p + r) = L p r := by
  have h0 : 0 < w := by omega
  simp only [fl]
  rw [Nat.mul_add_div h0, Nat.div_eq_of_lt h, Nat.mul_add_mod, Nat.mod_eq_of_lt h, Nat.add_zero]
theorem fl_up (w : Nat) (L : GR) {p r : Nat} (h : r < w) (v : Int32) : upd (fl w L) (w * p + r) v = fl w (va_up L p (upd (L p) r v)) := by
  have h0 : 0 < w := by omega
  funext a
  have e1 : (w * p + r) / w = p := by rw [Nat.mul_add_div h0, Nat.div_eq_of_lt h, Nat.add_zero]
  have e2 : (w * p + r) % w = r := by rw [Nat.mul_add_mod, Nat.mod_eq_of_lt h]
  by_cases ha : a = w * p + r
  · subst ha
    simp [upd, fl, va_up, e1, e2]
  · by_cases hp : a / w = p
    · have hr : ¬ a % w = r := by
        intro hr
        apply ha
        rw [← hp, ← hr]
        exact (Nat.div_add_mod a w).symm
      simp [upd, fl, va_up, ha, hp, hr]
    · simp [upd, fl, va_up, ha, hp]
/-- cut: places under i where P holds become 0 -/
def kCut (P : Nat → Bool) (i : Nat) (f : FR) : FR := fun r => if r < i ∧ P r = true then 0 else f r
theorem kCut_0 (P : Nat → Bool) (f : FR) : kCut P 0 f = f := by
  funext r; simp [kCut]
theorem kCut_t {P : Nat → Bool} {i : Nat} (f : FR) (h : P i = true) : upd (kCut P i f) i 0 = kCut P (i + 1) f := by
  funext r
  simp only [upd, kCut]
  by_cases hr : r = i
  · subst hr; simp [h]
  · have : (r < i + 1) = (r < i) := by apply propext; omega
    simp only [if_neg hr, this]
theorem kCut_f {P : Nat → Bool} {i : Nat} (f : FR) (h : P i = false) : kCut P i f = kCut P (i + 1) f := by
  funext r
  simp only [kCut]
  by_cases hr : r = i
  · subst hr; simp [h]
  · have : (r < i + 1) = (r < i) := by apply propext; omega
    simp only [this]
theorem kCut_z {P : Nat → Bool} {i : Nat} (f : FR) (h : f i = 0) : kCut P i f = kCut P (i + 1) f := by
  funext r
  simp only [kCut]
  by_cases hr : r = i
  · subst hr; simp [h]
  · have : (r < i + 1) = (r < i) := by apply propext; omega
    simp only [this]
theorem kCut_at (P : Nat → Bool) (i : Nat) (f : FR) : kCut P i f i = f i := by simp [kCut]
/-- count: places under i where P holds -/
def kCnt (P : Nat → Bool) : Nat → Int32
  | 0 => 0
  | i + 1 => if P i = true then kCnt P i + 1 else kCnt P i
theorem kCnt_t {P : Nat → Bool} {i : Nat} (h : P i = true) : kCnt P i + 1 = kCnt P (i + 1) := by simp [kCnt, h]
theorem kCnt_f {P : Nat → Bool} {i : Nat} (h : P i = false) : kCnt P i = kCnt P (i + 1) := by simp [kCnt, h]
theorem kCnt_congr {P Q : Nat → Bool} {n : Nat} (h : ∀ i, i < n → P i = Q i) : kCnt P n = kCnt Q n := by
  induction n with
  | zero => rfl
  | succ n ih => simp only [kCnt]; rw [ih (fun i hi => h i (by omega)), h n (by omega)]
/-- all places under i become v -/
def kSet (v : Int32) (i : Nat) (f : FR) : FR := fun r => if r < i then v else f r
theorem kSet_0 (v : Int32) (f : FR) : kSet v 0 f = f := by funext r; simp [kSet]
theorem kSet_s (v : Int32) (i : Nat) (f : FR) : upd (kSet v i f) i v = kSet v (i + 1) f := by
  funext r
  simp only [upd, kSet]
  by_cases hr : r = i
  · subst hr; simp
  · have : (r < i + 1) = (r < i) := by apply propext; omega
    simp only [if_neg hr, this]
/-- places under i tell whether L holds something there (other than v) -/
def kMrk (v : Int32) (L : FR) (i : Nat) (f : FR) : FR := fun r => if r < i then (if L r = v then 0 else 1) else f r
theorem kMrk_0 (v : Int32) (L f : FR) : kMrk v L 0 f = f := by funext r; simp [kMrk]
theorem kMrk_s (v : Int32) (L : FR) (i : Nat) (f : FR) {x : Int32} (h : x = if L i = v then 0 else 1) : upd (kMrk v L i f) i x = kMrk v L (i + 1) f := by
  funext r
  simp only [upd, kMrk]
  by_cases hr : r = i
  · subst hr; simp [h]
  · have : (r < i + 1) = (r < i) := by apply propext; omega
    simp only [if_neg hr, this]
def nz (f : FR) : Nat → Bool := fun r => decide (f r ≠ 0)
theorem nz_t {f : FR} {r : Nat} (h : ¬ f r = 0) : nz f r = true := by simp [nz, h]
theorem nz_f {f : FR} {r : Nat} (h : f r = 0) : nz f r = false := by simp [nz, h]
def tt9 : Nat → Bool := fun _ => true
/-- two marks in one number -/
def mkI (h : FR) : Int32 := (if h 0 = 0 then 0 else 1) ||| (if h 1 = 0 then 0 else 2)
/-- a peer's four cells -/
def pW (cI cZ : ClassId) (po pf pl pz : Nat) (g : Int32) (F L Z : FR) (st rt sl mk : Int32) : va_W := [(po, .inr (0, [.int g, .ref pf, .ref pl, .ref pz, .int st, .int rt, .int sl, .int mk])), (pf, .inl (cI, 16, .inl F)), (pl, .inl (cI, 16, .inl L)), (pz, .inl (cZ, 16, .inl Z))]
/-- the reference's eleven cells -/
def mW (cI cZ : ClassId) (md : Nat → Nat) (S : ST) : va_W := [(md 0, .inr (2, [.int (g_T1 S), .int (g_T2 S), .int (g_T3 S), .int (nI (g_N S)), .ref (md 1), .ref (md 2), .ref (md 3), .ref (md 4), .ref (md 5), .ref (md 6), .ref (md 7), .ref (md 8), .ref (md 9), .ref (md 10), .int (g_Df S), .int (g_Dl S)])),
  (md 1, .inl (cZ, 5, .inl (g_Gr S))), (md 2, .inl (cI, 5, .inl (g_St S))), (md 3, .inl (cI, 5, .inl (g_Rt S))), (md 4, .inl (cI, 5, .inl (g_Sl S))), (md 5, .inl (cZ, 10, .inl (fl 2 (g_Hm S)))), (md 6, .inl (cI, 80, .inl (fl 16 (g_Of S)))), (md 7, .inl (cI, 80, .inl (fl 16 (g_Le S)))), (md 8, .inl (cZ, 80, .inl (fl 16 (g_Ss S)))), (md 9, .inl (cI, 16, .inl (g_Ho S))), (md 10, .inl (cZ, 16, .inl (g_Hz S)))]
/-- the class's cells: its own four, and four for each peer -/
def xB (cI cZ : ClassId) (pd : Nat → Nat → Nat) (S : ST) (k : Nat) : va_W := pW cI cZ (pd k 0) (pd k 1) (pd k 2) (pd k 3) (g_Gr S k) (g_Of S k) (g_Le S k) (g_Ss S k) (g_St S k) (g_Rt S k) (g_Sl S k) (mkI (g_Hm S k))
def xR (pd : Nat → Nat → Nat) (n : Nat) : Nat → Option Nat := fun k => if k < n then some (pd k 0) else none
def xW (cI cZ cP : ClassId) (ad : Nat → Nat) (pd : Nat → Nat → Nat) (S : ST) : va_W := [(ad 0, .inr (1, [.ref (ad 1), .ref (ad 2), .ref (ad 3), .int (nI (g_N S)), .int (g_T1 S), .int (g_T2 S), .int (g_T3 S), .int (g_Df S), .int (g_Dl S)])), (ad 1, .inl (cP, 5, .inr (.inr (.inr (.inr (xR pd (g_N S))))))), (ad 2, .inl (cI, 16, .inl (g_Ho S))), (ad 3, .inl (cZ, 16, .inl (g_Hs S)))] ++ (List.range (g_N S)).flatMap (xB cI cZ pd S)
theorem fm_len {B : Nat → va_W} (h4 : ∀ k, (B k).length = 4) (n : Nat) : ((List.range n).flatMap B).length = 4 * n := by
  induction n with
  | zero => rfl
  | succ n ih => rw [List.range_succ, List.flatMap_append, List.length_append, ih]; simp [h4]; omega
theorem fm_get {B : Nat → va_W} (h4 : ∀ k, (B k).length = 4) {n k j : Nat} (hk : k < n) (hj : j < 4) : ((List.range n).flatMap B)[4 * k + j]? = (B k)[j]? := by
  induction n with
  | zero => omega
  | succ n ih =>
    rw [List.range_succ, List.flatMap_append]
    by_cases h : k < n
    · rw [List.getElem?_append_left (by rw [fm_len h4]; omega)]
      exact ih h
    · have : k = n := by omega
      subst this
      rw [List.getElem?_append_right (by rw [fm_len h4]; omega), fm_len h4, Nat.add_sub_cancel_left]
      simp
theorem fm_at {B : Nat → va_W} (h4 : ∀ k, (B k).length = 4) {n i : Nat} {q : Nat × va_E} (h : ((List.range n).flatMap B)[i]? = some q) : ∃ k j, k < n ∧ j < 4 ∧ i = 4 * k + j ∧ (B k)[j]? = some q := by
  have hl := (List.getElem?_eq_some_iff.mp h).1
  rw [fm_len h4] at hl
  have e : i = 4 * (i / 4) + i % 4 := (Nat.div_add_mod i 4).symm
  refine ⟨i / 4, i % 4, by omega, by omega, e, ?_⟩
  rw [← fm_get h4 (n := n) (k := i / 4) (j := i % 4) (by omega) (by omega), ← e]
  exact h
theorem xB4 (cI cZ : ClassId) (pd : Nat → Nat → Nat) (S : ST) : ∀ k, (xB cI cZ pd S k).length = 4 := fun _ => rfl
theorem xW_get {cI cZ cP : ClassId} {ad : Nat → Nat} {pd : Nat → Nat → Nat} {S : ST} {k : Nat} (hk : k < g_N S) (j : Nat) (hj : j < 4) {q : Nat × va_E} (h : (xB cI cZ pd S k)[j]? = some q) : (xW cI cZ cP ad pd S)[4 + (4 * k + j)]? = some q := by
  unfold xW
  rw [List.getElem?_append_right (by simp)]
  show ((List.range (g_N S)).flatMap (xB cI cZ pd S))[4 + (4 * k + j) - 4]? = some q
  rw [Nat.add_sub_cancel_left, fm_get (xB4 cI cZ pd S) hk hj]
  exact h
theorem xW_adr {cI cZ cP : ClassId} {ad : Nat → Nat} {pd : Nat → Nat → Nat} {S S1 : ST} (h : g_N S1 = g_N S) : (xW cI cZ cP ad pd S1).map (·.1) = (xW cI cZ cP ad pd S).map (·.1) := by
  unfold xW
  rw [List.map_append, List.map_append, h]
  refine congr (congrArg _ rfl) ?_
  rw [List.map_flatMap, List.map_flatMap]
  rfl
/-- a state that differs at one peer alone -/
def xOne (cI cZ : ClassId) (pd : Nat → Nat → Nat) (S S1 : ST) (k : Nat) : Prop := g_N S1 = g_N S ∧ g_T1 S1 = g_T1 S ∧ g_T2 S1 = g_T2 S ∧ g_T3 S1 = g_T3 S ∧ g_Df S1 = g_Df S ∧ g_Dl S1 = g_Dl S ∧ g_Ho S1 = g_Ho S ∧ g_Hs S1 = g_Hs S ∧ ∀ i, i ≠ k → xB cI cZ pd S1 i = xB cI cZ pd S i
theorem xW_new {cI cZ cP : ClassId} {ad : Nat → Nat} {pd : Nat → Nat → Nat} {S S1 : ST} {k : Nat} (h : xOne cI cZ pd S S1 k) (i : Nat) (q : Nat × va_E) (hq : (xW cI cZ cP ad pd S1)[i]? = some q) : (∃ j : Nat, (xB cI cZ pd S1 k)[j]? = some q) ∨ ((xW cI cZ cP ad pd S)[i]? = some q ∧ ∀ j : Nat, j < (xB cI cZ pd S k).length → i ≠ 4 + (4 * k + j)) := by
  obtain ⟨h0, h1, h2, h3, h4, h5, h6, h7, h8⟩ := h
  have e0 : (xW cI cZ cP ad pd S1) = [(ad 0, .inr (1, [.ref (ad 1), .ref (ad 2), .ref (ad 3), .int (nI (g_N S)), .int (g_T1 S), .int (g_T2 S), .int (g_T3 S), .int (g_Df S), .int (g_Dl S)])), (ad 1, .inl (cP, 5, .inr (.inr (.inr (.inr (xR pd (g_N S))))))), (ad 2, .inl (cI, 16, .inl (g_Ho S))), (ad 3, .inl (cZ, 16, .inl (g_Hs S)))] ++ (List.range (g_N S)).flatMap (xB cI cZ pd S1) := by
    unfold xW
    rw [h0, h1, h2, h3, h4, h5, h6, h7]
  rw [e0] at hq
  by_cases hi : i < 4
  · right
    unfold xW
    rw [List.getElem?_append_left (by simpa using hi)] at hq ⊢
    exact ⟨hq, fun j _ => by omega⟩
  · rw [List.getElem?_append_right (by simpa using hi)] at hq
    obtain ⟨k2, j2, a1, a2, a3, a4⟩ := fm_at (xB4 cI cZ pd S1) hq
    have a3 : i - 4 = 4 * k2 + j2 := a3
    by_cases hk : k2 = k
    · subst hk
      exact Or.inl ⟨j2, a4⟩
    · right
      rw [h8 k2 hk] at a4
      refine ⟨?_, fun j hj => ?_⟩
      · rw [show i = 4 + (4 * k2 + j2) by omega]
        exact xW_get a1 j2 a2 a4
      · have hj : j < 4 := hj
        omega
/-- one cell of one peer is written -/
theorem xW_set {cI cZ cP : ClassId} {ad : Nat → Nat} {pd : Nat → Nat → Nat} {S S1 : ST} {k j : Nat} {q : Nat × va_E} (hk : k < g_N S) (hj : j < 4) (h : xOne cI cZ pd S S1 k) (hB : (xB cI cZ pd S k).set j q = xB cI cZ pd S1 k) : (xW cI cZ cP ad pd S).set (4 + (4 * k + j)) q = xW cI cZ cP ad pd S1 := by
  have hlen : ∀ T : ST, (xW cI cZ cP ad pd T).length = 4 + 4 * g_N T := fun T => by
    unfold xW; rw [List.length_append, fm_len (xB4 cI cZ pd T)]; rfl
  have h0 := h.1
  apply List.ext_getElem?
  intro i
  by_cases hi : i = 4 + (4 * k + j)
  · subst hi
    rw [List.getElem?_set_self (by rw [hlen]; omega)]
    symm
    refine xW_get (by rw [h0]; exact hk) j hj ?_
    rw [← hB]
    exact List.getElem?_set_self (by rw [xB4]; exact hj)
  · rw [List.getElem?_set_ne (fun z => hi z.symm)]
    cases hc : (xW cI cZ cP ad pd S1)[i]? with
    | none =>
      have := List.getElem?_eq_none_iff.mp hc
      rw [hlen, h0] at this
      exact List.getElem?_eq_none_iff.mpr (by rw [hlen]; exact this)
    | some q1 =>
      by_cases h4 : ∃ j2, j2 < 4 ∧ i = 4 + (4 * k + j2)
      · obtain ⟨j2, b1, b2⟩ := h4
        subst b2
        have hne : j ≠ j2 := fun z => hi (by rw [z])
        have e1 : (xB cI cZ pd S1 k)[j2]? = (xB cI cZ pd S k)[j2]? := by rw [← hB]; exact List.getElem?_set_ne hne
        cases he : (xB cI cZ pd S k)[j2]? with
        | none =>
          have := List.getElem?_eq_none_iff.mp he
          rw [xB4] at this
          omega
        | some q2 =>
          rw [he] at e1
          have f1 := xW_get (cP := cP) (ad := ad) (S := S1) (by rw [h0]; exact hk) j2 b1 e1
          rw [f1] at hc
          rw [← hc]
          exact xW_get hk j2 b1 he
      · have hx : ∀ x, (xW cI cZ cP ad pd S1)[i]? = some x → (xW cI cZ cP ad pd S)[i]? = some x := by
          intro x hx
          by_cases hi4 : i < 4
          · rcases xW_new h i x hx with ⟨j3, c1⟩ | ⟨c1, -⟩
            · obtain ⟨u0, u1, u2, u3, u4, u5, u6, u7, -⟩ := h
              unfold xW at hx ⊢
              rw [u0, u1, u2, u3, u4, u5, u6, u7, List.getElem?_append_left (by simpa using hi4)] at hx
              rw [List.getElem?_append_left (by simpa using hi4)]
              exact hx
            · exact c1
          · have hx' := hx
            unfold xW at hx'
            rw [List.getElem?_append_right (by simpa using hi4)] at hx'
            obtain ⟨k2, j2, a1, a2, a3, a4⟩ := fm_at (xB4 cI cZ pd S1) hx'
            have a3 : i - 4 = 4 * k2 + j2 := a3
            have hk2 : k2 ≠ k := fun z => h4 ⟨j2, a2, by subst z; omega⟩
            rw [h.2.2.2.2.2.2.2.2 k2 hk2] at a4
            rw [show i = 4 + (4 * k2 + j2) by omega]
            exact xW_get (by rw [← h0]; exact a1) j2 a2 a4
        exact hx q1 hc

