/-! the public calls keep what holds between calls -/
theorem inv_T1 {S : ST} (h : Inv S) (x : Int32) : Inv (if okT x then s_T1 S x else S) := by
  split
  · exact h
  · exact h
theorem inv_T2 {S : ST} (h : Inv S) (x : Int32) : Inv (if okT x then s_T2 S x else S) := by
  split
  · exact h
  · exact h
theorem i32_01 {x : Int32} (h : ¬ x < 1) : 0 ≤ x := Int32.le_of_lt (Int32.lt_of_lt_of_le (show (0 : Int32) < 1 by decide) (Int32.not_lt.mp h))
theorem inv_T3 {S : ST} (h : Inv S) (x : Int32) : Inv (if okT x then s_T3 S x else S) := by
  split
  · rename_i e
    obtain ⟨h1, h2, h3, h4, h5, h6, h7, h8⟩ := h
    exact ⟨h1, h2, h3, h4, h5, ⟨h6.1, i32_01 e.1⟩, h7, h8⟩
  · exact h
theorem kx_lt {n : Nat} (hn : n ≤ 5) {x : Int32} (h : okP n x) : kx x < n := by
  obtain ⟨k, hk, rfl⟩ := okP_nat hn h
  rw [kx_n (by omega)]; exact hk
theorem inv_Ann {S : ST} (h : Inv S) (x t f len : Int32) : Inv (u_Ann S x t f len).2 := by
  unfold u_Ann
  split
  · rename_i hp
    split
    · split
      · rename_i hL
        exact inv_Ofr h (kx_lt h.1 hp) (i32_01 hL.1) (Int32.not_lt.mp hL.2)
      · exact h
    · exact h
  · exact h
theorem inv_Wd {S : ST} (h : Inv S) (x t f : Int32) : Inv (u_Wd S x t f).2 := by
  unfold u_Wd
  split
  · rename_i hp
    split
    · split
      · exact h
      · exact inv_Ofr h (kx_lt h.1 hp) (by decide) (by decide)
    · exact h
  · exact h
theorem inv_Rec {S : ST} (h : Inv S) (x : Int32) : Inv (u_Rec S x).2 := by
  unfold u_Rec
  split
  · rename_i hp
    split
    · exact h
    · exact inv_Chk (inv_Rc1 h (kx_lt h.1 hp))
  · exact h
theorem inv_Dis {S : ST} (h : Inv S) (x : Int32) : Inv (u_Dis S x).2 := by
  unfold u_Dis
  split
  · rename_i hp
    split
    · exact h
    · exact inv_Chk (inv_Ds1 h (kx_lt h.1 hp))
  · exact h
theorem inv_Eot {S : ST} (h : Inv S) (x t : Int32) : Inv (u_Eot S x t).2 := by
  unfold u_Eot
  split
  · rename_i hp
    split
    · split
      · split
        · exact inv_Chk (inv_hm h (kx_lt h.1 hp) _)
        · exact h
      · exact h
    · exact h
  · exact h
theorem inv_Tick {S : ST} (h : Inv S) (x : Int32) : Inv (u_Tick S x).2 := by
  unfold u_Tick
  split
  · exact inv_Tk h _
  · exact h
theorem inv_Add {S : ST} (h : Inv S) (g : Int32) : Inv (u_Add S g).2 := by
  unfold u_Add
  split
  · exact h
  · rename_i h5
    have h1 : g_N S ≤ 5 := h.1
    have h2 := inv_New h (show g_N S < 5 by omega) g
    show Inv (if g_Df S = 0 then o_SA (u_New S g) 16 else u_New S g)
    split
    · exact inv_SA h2 16
    · exact h2
theorem inv_0 : Inv s_0 := by
  refine ⟨Nat.zero_le 5, fun p r => ⟨Int32.le_refl 0, fun h => absurd rfl h⟩, fun p r => ⟨Int32.le_refl 0, show (0 : Int32) ≤ 20 by decide⟩, fun p _ => rfl, fun p h => absurd rfl h, ⟨Int32.le_refl 0, show (0 : Int32) ≤ 15 by decide⟩, fun p _ => ⟨fun r => ⟨rfl, rfl, rfl⟩, rfl, rfl, fun _ => rfl⟩, fun r _ => rfl⟩
theorem T1_N (S : ST) (x : Int32) : g_N (if okT x then s_T1 S x else S) = g_N S := by split <;> rfl
theorem T2_N (S : ST) (x : Int32) : g_N (if okT x then s_T2 S x else S) = g_N S := by split <;> rfl
theorem T3_N (S : ST) (x : Int32) : g_N (if okT x then s_T3 S x else S) = g_N S := by split <;> rfl
theorem Ann_N (S : ST) (x t f len : Int32) : g_N (u_Ann S x t f len).2 = g_N S := by
  unfold u_Ann
  split
  · split
    · split
      · exact Ofr_N S _ _ _
      · rfl
    · rfl
  · rfl
theorem Wd_N (S : ST) (x t f : Int32) : g_N (u_Wd S x t f).2 = g_N S := by
  unfold u_Wd
  split
  · split
    · split
      · rfl
      · exact Ofr_N S _ _ _
    · rfl
  · rfl
theorem Rst_N (S : ST) (pv : Int32) : g_N (o_Rst S pv).2 = g_N S := by
  rw [← Rst_2, o_Chk_N, gs_N_Dl, gs_N_Df, o_FT_N, o_Rs_N]
theorem Rec_N (S : ST) (x : Int32) : g_N (u_Rec S x).2 = g_N S := by
  unfold u_Rec
  split
  · split
    · rfl
    · exact (o_Chk_N _).trans (Rc1_N S _)
  · rfl
theorem Dis_N (S : ST) (x : Int32) : g_N (u_Dis S x).2 = g_N S := by
  unfold u_Dis
  split
  · split
    · rfl
    · exact (o_Chk_N _).trans (Ds1_N S _)
  · rfl
theorem Eot_N (S : ST) (x t : Int32) : g_N (u_Eot S x t).2 = g_N S := by
  unfold u_Eot
  split
  · split
    · split
      · split
        · exact (o_Chk_N _).trans (Mk_N S _ _)
        · rfl
      · rfl
    · rfl
  · rfl
theorem Tick_N (S : ST) (x : Int32) : g_N (u_Tick S x).2 = g_N S := by
  unfold u_Tick
  split
  · exact o_Tk_N S _
  · rfl
theorem stale_eq {S : ST} (h : Inv S) (t f : Int32) : (if okR t f then (if g_Ho S (rx t f) = -6 then (-6 : Int32) else if g_Hs S (rx t f) = 0 then 0 else 1) else -2) = (if okR t f then (if g_Ho S (rx t f) = -6 then (-6 : Int32) else if g_Hz S (rx t f) = 0 then 0 else 1) else -2) := by
  by_cases h6 : g_Ho S (rx t f) = -6
  · simp only [if_pos h6]
  · rw [h.2.2.2.2.2.2.2 (rx t f) h6]
/-! two worlds side by side -/
theorem lw_n1 {X X1 M : va_W} (hl : X1.length = X.length) (k : Nat) (q : Nat × va_E) (h : (X1 ++ M)[k]? = some q) : (∃ j : Nat, X1[j]? = some q) ∨ ((X ++ M)[k]? = some q ∧ ∀ j : Nat, j < X.length → k ≠ j) := by
  by_cases hk : k < X1.length
  · rw [List.getElem?_append_left hk] at h
    exact Or.inl ⟨k, h⟩
  · rw [List.getElem?_append_right (by omega)] at h
    refine Or.inr ⟨?_, fun j hj => by omega⟩
    rw [List.getElem?_append_right (by omega), ← hl]
    exact h
theorem lw_n2 {X M M1 : va_W} (k : Nat) (q : Nat × va_E) (h : (X ++ M1)[k]? = some q) : (∃ j : Nat, M1[j]? = some q) ∨ ((X ++ M)[k]? = some q ∧ ∀ j : Nat, j < M.length → k ≠ X.length + j) := by
  by_cases hk : k < X.length
  · rw [List.getElem?_append_left hk] at h
    refine Or.inr ⟨?_, fun j hj => by omega⟩
    rw [List.getElem?_append_left hk]
    exact h
  · rw [List.getElem?_append_right (by omega)] at h
    exact Or.inl ⟨_, h⟩
theorem lw_l {X M : va_W} (j : Nat) (q : Nat × va_E) (h : X[j]? = some q) : (X ++ M)[j]? = some q := by
  rw [List.getElem?_append_left (List.getElem?_eq_some_iff.mp h).1]; exact h
theorem lw_r {X M : va_W} (j : Nat) (q : Nat × va_E) (h : M[j]? = some q) : (X ++ M)[X.length + j]? = some q := by
  rw [List.getElem?_append_right (by omega), Nat.add_sub_cancel_left]; exact h
theorem lw_len {X X1 : va_W} (h : X1.map (·.1) = X.map (·.1)) : X1.length = X.length := by
  have := congrArg List.length h
  simpa using this
theorem front_join {A : Nat → Prop} {D : va_G} {cl : List vw_C} {X X1 M : va_W} {H H1 : Heap} (hP : va_P D cl (X ++ M) H) (hD : va_D A (X ++ M)) (hk : ∀ q : Nat, q < H.size → ¬ va_A X H.size q → H1[q]? = H[q]?) (hF : ∀ q, va_A X H.size q → A q) (hP1 : va_P D cl X1 H1) (hD1 : va_D (va_A X H.size) X1) : va_P D cl (X1 ++ M) H1 ∧ va_D A (X1 ++ M) := by
  have apart : ∀ (k : Nat) (q : Nat × va_E), M[k]? = some q → q.1 < H.size ∧ ¬ va_A X H.size q.1 := by
    intro k q hq
    have hl := (hP _ q (lw_r k q hq)).lt
    refine ⟨hl, fun h => ?_⟩
    rcases h with ⟨k2, e, h⟩ | h
    · have h1 := hD.1 (X.length + k) k2 q (q.1, e) (lw_r k q hq) (lw_l k2 _ h) rfl
      have h3 := (List.getElem?_eq_some_iff.mp h).1
      omega
    · omega
  refine ⟨va_P.app hP1 (fun k q hq => (hP _ q (lw_r k q hq)).kept (hk q.1 (apart k q hq).1 (apart k q hq).2)), va_D.app (hD1.weaken (fun k q _ h => hF q.1 h)) ⟨fun i j x y hi hj hxy => ?_, fun k q hq => hD.2 _ q (lw_r k q hq)⟩ (fun i j x y hx hy hxy => (apart j y hy).2 (by rw [← hxy]; exact hD1.2 i x hx))⟩
  have := hD.1 _ _ x y (lw_r i x hi) (lw_r j y hj) hxy
  omega
theorem front_P {D : va_G} {cl : List vw_C} {X M : va_W} {H : Heap} (h : va_P D cl (X ++ M) H) : va_P D cl X H := fun k q hk => h k q (lw_l k q hk)
theorem front_D {A : Nat → Prop} {X M : va_W} (h : va_D A (X ++ M)) : va_D A X := ⟨fun i j x y hi hj hxy => h.1 i j x y (lw_l i x hi) (lw_l j y hj) hxy, fun k q hk => h.2 k q (lw_l k q hk)⟩
theorem front_F {A : Nat → Prop} {X M : va_W} {H0 H : Heap} (hD : va_D A (X ++ M)) (hA : ∀ q, H0.size ≤ q → A q) (hs : H0.size ≤ H.size) : ∀ q, va_A X H.size q → A q := by
  intro q h
  rcases h with ⟨k, e, h⟩ | h
  · exact hD.2 k (q, e) (lw_l k _ h)
  · exact hA q (Nat.le_trans hs h)
section KL
variable {p : Program} {l : Launch} {e : Env} {R : Room} {s : State} {m : MethodId} {args : Array Value} {below : List Frame} {meth : Method} {c : Code} {H : Heap} {locs : List Loc} {cells slots : Nat} {Q : State → Prop}
variable {cc : ByteArray} {pc : Nat} {ls : Array Slot} {rest : List Value} {D : va_G} {A : Nat → Prop} {tys : List (ClassId × FieldType)} {H0 : Heap}
variable {Ts wsy : List Cond} {bytes : ByteArray} {nL maxL index n : Nat} {own : String} {y : MethodName} {ret : Option FieldType} {rm : Room} {As : List Value} {o : Option Value} {st0 : List Value} {cI cZ cP : ClassId} {ad md : Nat → Nat} {pd : Nat → Nat → Nat} {S S1 T T1 : ST}
/-- a call of the class, the reference beside it -/
theorem kX (C : CallFix p m c cc nL s args Ts own) (hM : MM l y wsy rm D tys (.ref (ad 0) :: As) (xW cI cZ cP ad pd S) o (xW cI cZ cP ad pd S1)) (hN1 : g_N S1 = g_N S) (cw : CallW R s args own RX1 index y bytes maxL ret wsy rm 0 0 n) (hK : va_K D vwCl tys s) (hN : kN s) (hP : va_P D vwCl (xW cI cZ cP ad pd S ++ mW cI cZ md T) H) (hD : va_D A (xW cI cZ cP ad pd S ++ mW cI cZ md T)) (hS : va_S A H0 H locs) (hn : As.length = n) (hsz : ls.size = nL) (hst : st0 = As.reverse ++ .ref (ad 0) :: rest) (hW : (rest.map fun v => v.category).sum ≤ 8) (hcs : cells ≤ R.cells ∧ slots ≤ R.slots) (hdg : decode cc pc = .ok (.invokevirtual index, 3))
    (kk : ∀ (H1 : Heap) (locs1 : List Loc), va_P D vwCl (xW cI cZ cP ad pd S1 ++ mW cI cZ md T) H1 → va_D A (xW cI cZ cP ad pd S1 ++ mW cI cZ md T) → va_S A H0 H1 locs1 → W p l e R s m args below meth c H1 locs1 cells slots Q (F0 m (pc + 3) ls (o.toList ++ rest))) : W p l e R s m args below meth c H locs cells slots Q (F0 m pc ls st0) :=
  kV C hM cw hK hN hP hD hS (fun j => j) lw_l (fun _ _ _ _ h => h) (by rw [List.map_append, List.map_append, xW_adr hN1]) (lw_n1 (lw_len (xW_adr hN1))) 0 1 rfl rfl (lw_l 0 _ (xO _ _ _ _ _ _)) hn hsz hst hW hcs hdg kk
/-- a call of the reference, the class beside it -/
theorem kMo (C : CallFix p m c cc nL s args Ts own) (hM : MM l y wsy rm D tys (.ref (md 0) :: As) (mW cI cZ md T) o (mW cI cZ md T1)) (cw : CallW R s args own RX2 index y bytes maxL ret wsy rm 0 0 n) (hK : va_K D vwCl tys s) (hN : kN s) (hP : va_P D vwCl (xW cI cZ cP ad pd S ++ mW cI cZ md T) H) (hD : va_D A (xW cI cZ cP ad pd S ++ mW cI cZ md T)) (hS : va_S A H0 H locs) (hn : As.length = n) (hsz : ls.size = nL) (hst : st0 = As.reverse ++ .ref (md 0) :: rest) (hW : (rest.map fun v => v.category).sum ≤ 8) (hcs : cells ≤ R.cells ∧ slots ≤ R.slots) (hdg : decode cc pc = .ok (.invokevirtual index, 3))
    (kk : ∀ (H1 : Heap) (locs1 : List Loc), va_P D vwCl (xW cI cZ cP ad pd S ++ mW cI cZ md T1) H1 → va_D A (xW cI cZ cP ad pd S ++ mW cI cZ md T1) → va_S A H0 H1 locs1 → W p l e R s m args below meth c H1 locs1 cells slots Q (F0 m (pc + 3) ls (o.toList ++ rest))) : W p l e R s m args below meth c H locs cells slots Q (F0 m pc ls st0) :=
  kV C hM cw hK hN hP hD hS (fun j => (xW cI cZ cP ad pd S).length + j) lw_r (fun _ _ _ _ h => by omega) (by rw [List.map_append, List.map_append, mAdr]) lw_n2 _ 2 rfl rfl (lw_r 0 _ (mO _ _ _ _)) hn hsz hst hW hcs hdg kk
/-- the script, by a number -/
theorem k_sld (hx : p.tables.exec = Jvm.exec) (hb : c.code = cc) {b L : Nat} {xs : Nat → Int32} (hX : va_X b L xs s H0) (hbl : b < H0.size) (hbA : ¬ A b) (hS : va_S A H0 H locs) {i : Int32} {k : Nat} (hi : i = nI k) (hk : k < L) (hL : L < 2 ^ 31) (hdg : decode cc pc = .ok (.iaload, 1))
    (kk : W p l e R s m args below meth c H locs cells slots Q (F0 m (pc + 1) ls (.int (xs k) :: rest))) : W p l e R s m args below meth c H locs cells slots Q (F0 m pc ls (.int i :: .ref b :: rest)) := by
  subst hi
  refine va_sld hx hb hX hbl hbA hS (vp_in_nI hk hL) hdg ?_
  rw [nI_clamp (Nat.lt_trans hk hL)]
  exact kk
end KL
