/-! what holds of the state between calls -/
def i1 (S : ST) : Prop := g_N S ≤ 5
def i2 (S : ST) : Prop := ∀ p, rowOk (g_Le S p) (g_Ss S p)
def i3 (S : ST) : Prop := ∀ p r, 0 ≤ g_Of S p r ∧ g_Of S p r ≤ 20
def i4 (S : ST) : Prop := ∀ p, ¬ g_St S p = 1 → g_Rt S p = 0
def i5 (S : ST) : Prop := ∀ p, ¬ g_Rt S p = 0 → g_Sl S p = 0
def i6 (S : ST) : Prop := 0 ≤ g_Dl S ∧ 0 ≤ g_T3 S
def i7 (S : ST) : Prop := ∀ p, g_N S ≤ p → (∀ r, g_Of S p r = 0 ∧ g_Le S p r = 0 ∧ g_Ss S p r = 0) ∧ g_Rt S p = 0 ∧ g_Sl S p = 0 ∧ ∀ t, g_Hm S p t = 0
def i8 (S : ST) : Prop := ∀ r, ¬ g_Ho S r = -6 → g_Hz S r = g_Hs S r
def Inv (S : ST) : Prop := i1 S ∧ i2 S ∧ i3 S ∧ i4 S ∧ i5 S ∧ i6 S ∧ i7 S ∧ i8 S
theorem upd_s (f : FR) (k : Nat) (v : Int32) : upd f k v k = v := by simp [upd]
theorem upd_n (f : FR) {k j : Nat} (v : Int32) (h : ¬ j = k) : upd f k v j = f j := by simp [upd, h]
/-- rows of one peer -/
theorem inv_rows {S : ST} (h : Inv S) {p : Nat} (hp : p < g_N S) {L Z : FR} (hr : rowOk L Z) : Inv (s_Ss (s_Le S (va_up (g_Le S) p L)) (va_up (g_Ss S) p Z)) := by
  obtain ⟨h1, h2, h3, h4, h5, h6, h7, h8⟩ := h
  refine ⟨h1, ?_, h3, h4, h5, h6, ?_, h8⟩
  · intro q
    show rowOk (va_up (g_Le S) p L q) (va_up (g_Ss S) p Z q)
    by_cases e : q = p
    · subst e; rw [va_up_self, va_up_self]; exact hr
    · rw [va_up_ne _ _ e, va_up_ne _ _ e]; exact h2 q
  · intro q hq
    have e : q ≠ p := fun z => by
      have hq : g_N S ≤ q := hq
      omega
    obtain ⟨a, b⟩ := h7 q hq
    refine ⟨fun r => ?_, b⟩
    show g_Of S q r = 0 ∧ va_up (g_Le S) p L q r = 0 ∧ va_up (g_Ss S) p Z q r = 0
    rw [va_up_ne _ _ e, va_up_ne _ _ e]
    exact a r
theorem inv_row {S : ST} (h : Inv S) {p : Nat} (hp : p < g_N S) {L : FR} (hr : rowOk L (g_Ss S p)) : Inv (s_Le S (va_up (g_Le S) p L)) := by
  have := inv_rows h hp hr
  rw [va_up_id] at this
  exact this
theorem inv_ssrow {S : ST} (h : Inv S) {p : Nat} (hp : p < g_N S) {Z : FR} (hr : rowOk (g_Le S p) Z) : Inv (s_Ss S (va_up (g_Ss S) p Z)) := by
  have := inv_rows h hp hr
  rw [va_up_id] at this
  exact this
/-- state and timers of one peer -/
theorem inv_tim {S : ST} (h : Inv S) {p : Nat} (hp : p < g_N S) {a b c : Int32} (ha : ¬ a = 1 → b = 0) (hb : ¬ b = 0 → c = 0) : Inv (s_Sl (s_Rt (s_St S (upd (g_St S) p a)) (upd (g_Rt S) p b)) (upd (g_Sl S) p c)) := by
  obtain ⟨h1, h2, h3, h4, h5, h6, h7, h8⟩ := h
  refine ⟨h1, h2, h3, ?_, ?_, h6, ?_, h8⟩
  · intro q
    show ¬ upd (g_St S) p a q = 1 → upd (g_Rt S) p b q = 0
    by_cases e : q = p
    · subst e; rw [upd_s, upd_s]; exact ha
    · rw [upd_n _ _ e, upd_n _ _ e]; exact h4 q
  · intro q
    show ¬ upd (g_Rt S) p b q = 0 → upd (g_Sl S) p c q = 0
    by_cases e : q = p
    · subst e; rw [upd_s, upd_s]; exact hb
    · rw [upd_n _ _ e, upd_n _ _ e]; exact h5 q
  · intro q hq
    have e : ¬ q = p := fun z => by
      have hq : g_N S ≤ q := hq
      omega
    obtain ⟨x1, x2, x3, x4⟩ := h7 q hq
    refine ⟨x1, ?_, ?_, x4⟩
    · show upd (g_Rt S) p b q = 0
      rw [upd_n _ _ e]; exact x2
    · show upd (g_Sl S) p c q = 0
      rw [upd_n _ _ e]; exact x3
theorem rowOk_cutS {L Z : FR} (h : rowOk L Z) (n : Nat) : rowOk (kCut (nz Z) n L) (kCut (nz Z) n Z) := by
  intro r
  by_cases e : r < n ∧ nz Z r = true
  · simp [kCut, e]
  · simp only [kCut, if_neg e]; exact h r
theorem rowOk_cutL {L Z : FR} (h : rowOk L Z) (n : Nat) : rowOk (kCut tt9 n L) (kCut tt9 n Z) := by
  intro r
  by_cases e : r < n ∧ tt9 r = true
  · simp [kCut, e]
  · simp only [kCut, if_neg e]; exact h r
theorem rowOk_mrk {L Z : FR} (h : rowOk L Z) (n : Nat) : rowOk L (kMrk 0 L n Z) := by
  intro r
  refine ⟨(h r).1, fun e => ?_⟩
  by_cases hr : r < n
  · simp only [kMrk, if_pos hr] at e
    by_cases h0 : L r = 0
    · rw [if_pos h0] at e; exact absurd rfl e
    · exact Classical.byContradiction fun z => h0 (i32_zero (h r).1 z)
  · simp only [kMrk, if_neg hr] at e; exact (h r).2 e
theorem inv_RmS {S : ST} (h : Inv S) {p : Nat} (hp : p < g_N S) : Inv (o_RmS S p) := inv_rows h hp (rowOk_cutS (h.2.1 p) 16)
theorem inv_RmL {S : ST} (h : Inv S) {p : Nat} (hp : p < g_N S) : Inv (o_RmL S p) := inv_rows h hp (rowOk_cutL (h.2.1 p) 16)
theorem inv_Down {S : ST} (h : Inv S) {p : Nat} (hp : p < g_N S) : Inv (o_Down S p) := inv_RmL (inv_tim h hp (fun _ => rfl) (fun z => absurd rfl z)) hp
theorem inv_ERes {S : ST} (h : Inv S) {p : Nat} (hp : p < g_N S) : Inv (o_ERes S p) := by
  have h1 := inv_RmS h hp
  have h2 := inv_tim (S := o_RmS S p) h1 (p := p) hp (a := g_St S p) (b := g_Rt S p) (c := 0) (h.2.2.2.1 p) (fun _ => rfl)
  have e1 : upd (g_St (o_RmS S p)) p (g_St S p) = g_St S := upd_id (g_St S) p
  have e2 : upd (g_Rt (o_RmS S p)) p (g_Rt S p) = g_Rt S := upd_id (g_Rt S) p
  rw [e1, e2] at h2
  exact h2
theorem inv_St {S : ST} (h : Inv S) {p : Nat} (hp : p < g_N S) {a : Int32} (ha : a = 1 ∨ g_Rt S p = 0) : Inv (s_St S (upd (g_St S) p a)) := by
  have h2 := inv_tim h hp (a := a) (b := g_Rt S p) (c := g_Sl S p) (fun n => ha.resolve_left n) (h.2.2.2.2.1 p)
  rw [upd_id, upd_id] at h2
  exact h2
theorem inv_Lose {S : ST} (h : Inv S) {p : Nat} (hp : p < g_N S) : Inv (o_Lose S p) := by
  unfold o_Lose
  split
  · exact inv_Down h hp
  · have h1 := inv_RmS (inv_St h hp (a := 1) (Or.inl rfl)) (p := p) hp
    have h2 : Inv (o_Mark (o_RmS (s_St S (upd (g_St S) p 1)) p) p) := inv_ssrow h1 hp (rowOk_mrk (h1.2.1 p) 16)
    have h3 := inv_tim h2 (p := p) hp (a := 1) (b := g_T1 S) (c := 0) (fun n => absurd rfl n) (fun _ => rfl)
    have e1 : upd (g_St (o_Mark (o_RmS (s_St S (upd (g_St S) p 1)) p) p)) p 1 = upd (g_St S) p 1 := upd_uu (g_St S) p 1 1
    rw [e1] at h3
    exact h3
theorem inv_Meet {S : ST} (h : Inv S) {p : Nat} (hp : p < g_N S) : Inv (o_Meet S p) := by
  unfold o_Meet
  split
  · exact inv_tim h hp (a := 0) (b := 0) (c := g_T2 S) (fun _ => rfl) (fun z => absurd rfl z)
  · rename_i e
    exact inv_St h hp (Or.inr (h.2.2.2.1 p e))
theorem inv_CDa {S : ST} (h : Inv S) {p : Nat} (hp : p < g_N S) : Inv (o_CDa S p).2 := by
  unfold o_CDa
  split
  · rename_i e
    split
    · exact inv_Down h hp
    · have hs : g_St S p = 1 := Classical.byContradiction fun z => i32_pos e (h.2.2.2.1 p z)
      have h2 := inv_tim h hp (a := g_St S p) (b := g_Rt S p - 1) (c := g_Sl S p) (fun n => absurd hs n) (fun _ => h.2.2.2.2.1 p (i32_pos e))
      rw [upd_id, upd_id] at h2
      exact h2
  · exact h
theorem inv_CDb {S : ST} (h : Inv S) {p : Nat} (hp : p < g_N S) : Inv (o_CDb S p).2 := by
  have key : ∀ c : Int32, 0 < g_Sl S p → Inv (s_Sl S (upd (g_Sl S) p c)) := fun c e => by
    have hrt : g_Rt S p = 0 := Classical.byContradiction fun z => i32_pos e (h.2.2.2.2.1 p z)
    have h2 := inv_tim h hp (a := g_St S p) (b := g_Rt S p) (c := c) (h.2.2.2.1 p) (fun z => absurd hrt z)
    rw [upd_id, upd_id] at h2
    exact h2
  unfold o_CDb
  split
  · rename_i e
    split
    · exact inv_RmS (key _ e) hp
    · exact key _ e
  · exact h
theorem inv_CD {S : ST} (h : Inv S) {p : Nat} (hp : p < g_N S) : Inv (o_CD S p).2 := inv_CDb (inv_CDa h hp) (by rw [o_CDa_N]; exact hp)
theorem inv_a1 {S : ST} (h : Inv S) {r : Nat} {hop len : Int32} (hl : hop = -6 ∨ 0 < len) {p : Nat} (hp : p < g_N S) : Inv (a_1 S r hop len p) := by
  unfold a_1
  have hr := h.2.1 p
  split
  · split
    · split
      · rename_i e
        refine inv_row h hp (fun q => ?_)
        by_cases hq : q = r
        · subst hq; rw [upd_s]; exact ⟨by decide, fun z => absurd e z⟩
        · rw [upd_n _ _ hq]; exact hr q
      · exact h
    · rename_i e
      have hlen : 0 < len := hl.resolve_left (fun z => e (Or.inl z))
      refine inv_rows h hp (fun q => ?_)
      by_cases hq : q = r
      · subst hq; rw [upd_s, upd_s]; exact ⟨Int32.le_of_lt hlen, fun _ => hlen⟩
      · rw [upd_n _ _ hq, upd_n _ _ hq]; exact hr q
  · exact h
theorem inv_ai {S : ST} (h : Inv S) {r : Nat} {hop len : Int32} (hl : hop = -6 ∨ 0 < len) {i : Nat} (hi : i ≤ g_N S) : Inv (a_i S r hop len i) := by
  induction i with
  | zero => exact h
  | succ i ih => exact inv_a1 (ih (by omega)) hl (by rw [a_i_N]; omega)
theorem inv_Ent {S : ST} (h : Inv S) (r : Nat) (hop : Int32) : Inv (o_Ent S r hop) := by
  obtain ⟨h1, h2, h3, h4, h5, h6, h7, h8⟩ := h
  refine ⟨h1, h2, h3, h4, h5, h6, h7, ?_⟩
  intro q
  show ¬ upd (g_Ho S) r hop q = -6 → upd (g_Hz S) r 0 q = upd (g_Hs S) r 0 q
  by_cases e : q = r
  · subst e; intro _; rw [upd_s, upd_s]
  · rw [upd_n _ _ e, upd_n _ _ e, upd_n _ _ e]; exact h8 q
theorem succ_pos {x : Int32} (h : 0 < x) (h20 : x ≤ 20) : 0 < x + 1 := by
  obtain ⟨j, hj, e⟩ := nI_of2 (M := 20) (n := 20) rfl (Int32.not_lt.mpr (Int32.le_of_lt h)) h20
  rw [e, nI_1]
  exact nI_lt (a := 0) (by omega) (by omega)
theorem best_len {S : ST} (h : Inv S) (r n : Nat) : (b_at S r n).1 = -6 ∨ 0 < (b_at S r n).2 + 1 := by
  rcases b_best S r n with e | ⟨j, -, -, e2, e3, -⟩
  · exact Or.inl e
  · right
    rw [e2]
    exact succ_pos e3 (h.2.2.1 j r).2
theorem inv_Sel {S : ST} (h : Inv S) (r : Nat) : Inv (o_Sel S r) := inv_ai (inv_Ent h r _) (best_len h r _) (Nat.le_refl _)
theorem inv_SA {S : ST} (h : Inv S) (i : Nat) : Inv (o_SA S i) := by
  induction i with
  | zero => exact h
  | succ i ih => exact inv_Sel ih i
theorem inv_ER {S : ST} (h : Inv S) {i : Nat} (hi : i ≤ g_N S) : Inv (o_ER S i) := by
  induction i with
  | zero => exact h
  | succ i ih =>
    simp only [o_ER]
    split
    · exact inv_ERes (ih (by omega)) (by rw [o_ER_N]; omega)
    · exact ih (by omega)
theorem inv_Df {S : ST} (h : Inv S) (v : Int32) : Inv (s_Df S v) := h
theorem inv_Dl {S : ST} (h : Inv S) {v : Int32} (hv : 0 ≤ v) : Inv (s_Dl S v) := by
  obtain ⟨h1, h2, h3, h4, h5, h6, h7, h8⟩ := h
  exact ⟨h1, h2, h3, h4, h5, ⟨hv, h6.2⟩, h7, h8⟩
theorem inv_E1 {S : ST} (h : Inv S) : Inv (s_Dl (s_Df S 0) 0) := inv_Dl (inv_Df h 0) (by decide)
theorem inv_E2 {S : ST} (h : Inv S) : Inv (o_SA (s_Dl (s_Df S 0) 0) 16) := inv_SA (inv_E1 h) 16
theorem E2_N (S : ST) : g_N (o_SA (s_Dl (s_Df S 0) 0) 16) = g_N S := o_SA_N _ 16
theorem inv_End {S : ST} (h : Inv S) : Inv (o_End S) := inv_ER (inv_E2 h) (by rw [E2_N]; exact Nat.le_refl _)
theorem inv_Chk {S : ST} (h : Inv S) : Inv (o_Chk S) := by
  unfold o_Chk
  split
  · exact h
  · split
    · exact inv_End h
    · exact h
theorem inv_CDs {S : ST} (h : Inv S) {i : Nat} (hi : i ≤ g_N S) : Inv (o_CDs S i).2 := by
  induction i with
  | zero => exact h
  | succ i ih => exact inv_CD (ih (by omega)) (by rw [o_CDs_N]; omega)
theorem pred_nn {x : Int32} (h : 0 < x) : 0 ≤ x - 1 := by
  obtain ⟨j, hj, e⟩ := nI_of (Int32.not_lt.mpr (Int32.le_of_lt h))
  subst e
  have h0 : 0 < j := by
    rcases Nat.eq_zero_or_pos j with z | z
    · subst z; exact absurd h (by decide)
    · exact z
  obtain ⟨i, rfl⟩ : ∃ i, j = i + 1 := ⟨j - 1, by omega⟩
  rw [nI_pred]
  exact nI_pos' (by omega)
theorem inv_Dl1 {S : ST} (h : Inv S) : Inv (o_Dl1 S) := by
  unfold o_Dl1
  split
  · rename_i e; exact inv_Dl h (pred_nn e)
  · exact h
theorem inv_Tk1 {S : ST} (h : Inv S) : Inv (o_Tk1 S).2 := inv_Chk (inv_Dl1 (inv_CDs h (Nat.le_refl _)))
theorem inv_Tk {S : ST} (h : Inv S) (j : Nat) : Inv (o_Tk S j).2 := by
  induction j with
  | zero => exact h
  | succ j ih => exact inv_Tk1 ih
theorem inv_hm {S : ST} (h : Inv S) {p : Nat} (hp : p < g_N S) (row : FR) : Inv (s_Hm S (va_up (g_Hm S) p row)) := by
  obtain ⟨h1, h2, h3, h4, h5, h6, h7, h8⟩ := h
  refine ⟨h1, h2, h3, h4, h5, h6, ?_, h8⟩
  intro q hq
  have e : q ≠ p := fun z => by
    have hq : g_N S ≤ q := hq
    omega
  obtain ⟨x1, x2, x3, x4⟩ := h7 q hq
  refine ⟨x1, x2, x3, fun t => ?_⟩
  show va_up (g_Hm S) p row q t = 0
  rw [va_up_ne _ _ e]; exact x4 t
theorem inv_Rs {S : ST} (h : Inv S) {i : Nat} (hi : i ≤ g_N S) : Inv (o_Rs S i).2 := by
  induction i with
  | zero => exact h
  | succ i ih =>
    have hN : i < g_N (o_Rs S i).2 := by rw [o_Rs_N]; omega
    simp only [o_Rs]
    split
    · exact inv_Lose (inv_hm (ih (by omega)) hN _) hN
    · exact inv_hm (ih (by omega)) hN _
theorem inv_FT {S : ST} (h : Inv S) (pv : Int32) : Inv (o_FT S pv) := by
  obtain ⟨h1, h2, h3, h4, h5, h6, h7, h8⟩ := h
  unfold o_FT
  split
  · refine ⟨h1, h2, h3, h4, h5, h6, h7, ?_⟩
    intro r
    show ¬ kSet (-6) 16 (g_Ho S) r = -6 → kMrk (-6) (kSet (-6) 16 (g_Ho S)) 16 (g_Hz S) r = g_Hs S r
    by_cases e : r < 16
    · intro n; exact absurd (by simp [kSet, e]) n
    · simp only [kSet, kMrk, if_neg e]; exact h8 r
  · refine ⟨h1, h2, h3, h4, h5, h6, h7, ?_⟩
    intro r
    show ¬ g_Ho S r = -6 → kMrk (-6) (g_Ho S) 16 (g_Hz S) r = kSet 1 16 (g_Hs S) r
    by_cases e : r < 16
    · intro n; simp only [kMrk, kSet, if_pos e, if_neg n]
    · simp only [kSet, kMrk, if_neg e]; exact h8 r
theorem inv_Rst {S : ST} (h : Inv S) (pv : Int32) : Inv (o_Rst S pv).2 := inv_Chk (inv_Dl (inv_Df (inv_FT (inv_Rs h (Nat.le_refl _)) pv) 1) h.2.2.2.2.2.1.2)
theorem inv_of {S : ST} (h : Inv S) {p r : Nat} (hp : p < g_N S) {v : Int32} (h0 : 0 ≤ v) (h20 : v ≤ 20) : Inv (s_Of S (va_up (g_Of S) p (upd (g_Of S p) r v))) := by
  obtain ⟨h1, h2, h3, h4, h5, h6, h7, h8⟩ := h
  refine ⟨h1, h2, ?_, h4, h5, h6, ?_, h8⟩
  · intro q z
    show 0 ≤ va_up (g_Of S) p (upd (g_Of S p) r v) q z ∧ va_up (g_Of S) p (upd (g_Of S p) r v) q z ≤ 20
    by_cases e : q = p
    · subst e
      rw [va_up_self]
      by_cases e2 : z = r
      · subst e2; rw [upd_s]; exact ⟨h0, h20⟩
      · rw [upd_n _ _ e2]; exact h3 q z
    · rw [va_up_ne _ _ e]; exact h3 q z
  · intro q hq
    have e : q ≠ p := fun z => by
      have hq : g_N S ≤ q := hq
      omega
    obtain ⟨a, b⟩ := h7 q hq
    refine ⟨fun z => ?_, b⟩
    show va_up (g_Of S) p (upd (g_Of S p) r v) q z = 0 ∧ g_Le S q z = 0 ∧ g_Ss S q z = 0
    rw [va_up_ne _ _ e]
    exact a z
theorem inv_Ofr {S : ST} (h : Inv S) {p r : Nat} (hp : p < g_N S) {v : Int32} (h0 : 0 ≤ v) (h20 : v ≤ 20) : Inv (u_Ofr S p r v) := by
  unfold u_Ofr
  split
  · exact inv_Sel (inv_of h hp h0 h20) r
  · exact inv_of h hp h0 h20
theorem inv_New {S : ST} (h : Inv S) (h5 : g_N S < 5) (g : Int32) : Inv (u_New S g) := by
  obtain ⟨h1, h2, h3, h4, h5', h6, h7, h8⟩ := h
  refine ⟨h5, h2, h3, ?_, h5', h6, ?_, h8⟩
  · intro q
    show ¬ upd (g_St S) (g_N S) 0 q = 1 → g_Rt S q = 0
    by_cases e : q = g_N S
    · subst e; intro _; exact (h7 _ (Nat.le_refl _)).2.1
    · rw [upd_n _ _ e]; exact h4 q
  · intro q hq
    have hq : g_N S + 1 ≤ q := hq
    exact h7 q (by omega)
