/-! between calls the end of deferral is not due: a check then changes nothing -/
def Fx (S : ST) : Prop := g_Df S = 0 ∨ (¬ g_Dl S = 0 ∧ ¬ o_Wt S (g_N S) = 0)
theorem Fx_chk {S : ST} (h : Fx S) : o_Chk S = S := by
  unfold o_Chk
  rcases h with h | ⟨h1, h2⟩
  · rw [if_pos h]
  · split
    · rfl
    · rw [if_neg (fun z => z.elim h1 h2)]
theorem End_Df (S : ST) : g_Df (o_End S) = 0 := by
  unfold o_End
  rw [o_ER_Df, o_SA_Df, gs_Df_Dl, gs_Df_Df]
theorem Fx_Chk (S : ST) : Fx (o_Chk S) := by
  unfold o_Chk
  split
  · rename_i h
    exact Or.inl h
  · split
    · exact Or.inl (End_Df S)
    · rename_i h
      exact Or.inr ⟨fun z => h (Or.inl z), fun z => h (Or.inr z)⟩
theorem Wt_same {S T : ST} {n : Nat} (h : ∀ i, i < n → aw S i = aw T i) : o_Wt S n = o_Wt T n := by
  induction n with
  | zero => rfl
  | succ n ih =>
    have e := ih (fun i hi => h i (by omega))
    have e2 := h n (by omega)
    show @ite _ (aw S n) (Classical.propDecidable _) (o_Wt S n ||| (1 <<< (nI n &&& 31))) (o_Wt S n) = @ite _ (aw T n) (Classical.propDecidable _) (o_Wt T n ||| (1 <<< (nI n &&& 31))) (o_Wt T n)
    rw [e, e2]
theorem i32_or_ne {x y : Int32} (h : ¬ x = 0) : ¬ x ||| y = 0 := fun z => h (Int32.or_eq_zero_iff.mp z).1
theorem Wt_more {S : ST} {n : Nat} (h : ¬ o_Wt S n = 0) : ¬ o_Wt S (n + 1) = 0 := by
  show ¬ @ite _ (aw S n) (Classical.propDecidable _) (o_Wt S n ||| (1 <<< (nI n &&& 31))) (o_Wt S n) = 0
  by_cases e : aw S n
  · rw [if_pos e]
    exact i32_or_ne h
  · rw [if_neg e]
    exact h
theorem Fx_same {S T : ST} (hd : g_Df T = g_Df S) (hl : g_Dl T = g_Dl S) (hn : g_N T = g_N S) (ha : ∀ i, aw T i = aw S i) (h : Fx S) : Fx T := by
  rcases h with h | ⟨h1, h2⟩
  · exact Or.inl (hd.trans h)
  · refine Or.inr ⟨fun z => h1 (hl.symm.trans z), ?_⟩
    rw [hn, Wt_same (T := S) (fun i _ => ha i)]
    exact h2
theorem Fx_T1 {S : ST} (h : Fx S) (x : Int32) : Fx (if okT x then s_T1 S x else S) := by
  split
  · exact Fx_same (gs_Df_T1 _ _) (gs_Dl_T1 _ _) (gs_N_T1 _ _) (fun i => by rw [aw, aw, gs_Gr_T1, gs_St_T1, gs_Hm_T1]) h
  · exact h
theorem Fx_T2 {S : ST} (h : Fx S) (x : Int32) : Fx (if okT x then s_T2 S x else S) := by
  split
  · exact Fx_same (gs_Df_T2 _ _) (gs_Dl_T2 _ _) (gs_N_T2 _ _) (fun i => by rw [aw, aw, gs_Gr_T2, gs_St_T2, gs_Hm_T2]) h
  · exact h
theorem Fx_T3 {S : ST} (h : Fx S) (x : Int32) : Fx (if okT x then s_T3 S x else S) := by
  split
  · exact Fx_same (gs_Df_T3 _ _) (gs_Dl_T3 _ _) (gs_N_T3 _ _) (fun i => by rw [aw, aw, gs_Gr_T3, gs_St_T3, gs_Hm_T3]) h
  · exact h
theorem Fx_Ofr {S : ST} (h : Fx S) (p r : Nat) (v : Int32) : Fx (u_Ofr S p r v) := by
  unfold u_Ofr
  split
  · rename_i e
    exact Or.inl ((o_Sel_Df _ _).trans ((gs_Df_Of _ _).trans e.1))
  · exact Fx_same (gs_Df_Of _ _) (gs_Dl_Of _ _) (gs_N_Of _ _) (fun i => by rw [aw, aw, gs_Gr_Of, gs_St_Of, gs_Hm_Of]) h
theorem Fx_Ann {S : ST} (h : Fx S) (x t f len : Int32) : Fx (u_Ann S x t f len).2 := by
  unfold u_Ann
  split
  · split
    · split
      · exact Fx_Ofr h _ _ _
      · exact h
    · exact h
  · exact h
theorem Fx_Wd {S : ST} (h : Fx S) (x t f : Int32) : Fx (u_Wd S x t f).2 := by
  unfold u_Wd
  split
  · split
    · split
      · exact h
      · exact Fx_Ofr h _ _ _
    · exact h
  · exact h
theorem New_aw {S : ST} (g : Int32) {i : Nat} (hi : i < g_N S) : aw (u_New S g) i = aw S i := by
  have e : ¬ i = g_N S := by omega
  rw [aw, aw, u_New, gs_Gr_N, gs_St_N, gs_Hm_N, gs_Gr_St, gs_St_St, gs_Hm_St, gs_Gr_Gr, gs_Hm_Gr, upd_n _ _ e, upd_n _ _ e]
theorem New_Df (S : ST) (g : Int32) : g_Df (u_New S g) = g_Df S := by
  rw [u_New, gs_Df_N, gs_Df_St, gs_Df_Gr]
theorem New_Dl (S : ST) (g : Int32) : g_Dl (u_New S g) = g_Dl S := by
  rw [u_New, gs_Dl_N, gs_Dl_St, gs_Dl_Gr]
theorem New_N1 (S : ST) (g : Int32) : g_N (u_New S g) = g_N S + 1 := by
  rw [u_New, gs_N_N]
theorem Fx_Add {S : ST} (h : Fx S) (g : Int32) : Fx (u_Add S g).2 := by
  unfold u_Add
  split
  · exact h
  · show Fx (if g_Df S = 0 then o_SA (u_New S g) 16 else u_New S g)
    split
    · rename_i e
      exact Or.inl ((o_SA_Df _ _).trans ((New_Df S g).trans e))
    · rename_i e
      rcases h with h | ⟨h1, h2⟩
      · exact absurd h e
      · refine Or.inr ⟨fun z => h1 ((New_Dl S g).symm.trans z), ?_⟩
        rw [New_N1]
        refine Wt_more ?_
        rw [Wt_same (T := S) (fun i hi => New_aw g hi)]
        exact h2
theorem Fx_Rst {S : ST} (_h : Fx S) (pv : Int32) : Fx (o_Rst S pv).2 := by
  rw [← Rst_2]
  exact Fx_Chk _
theorem Fx_Rec {S : ST} (h : Fx S) (x : Int32) : Fx (u_Rec S x).2 := by
  unfold u_Rec
  split
  · split
    · exact h
    · exact Fx_Chk _
  · exact h
theorem Fx_Dis {S : ST} (h : Fx S) (x : Int32) : Fx (u_Dis S x).2 := by
  unfold u_Dis
  split
  · split
    · exact h
    · exact Fx_Chk _
  · exact h
theorem Fx_Eot {S : ST} (h : Fx S) (x t : Int32) : Fx (u_Eot S x t).2 := by
  unfold u_Eot
  split
  · split
    · split
      · split
        · exact Fx_Chk _
        · exact h
      · exact h
    · exact h
  · exact h
theorem Fx_Tk1 (S : ST) : Fx (o_Tk1 S).2 := Fx_Chk (o_Dl1 (o_CDs S (g_N S)).2)
theorem Fx_Tk {S : ST} (h : Fx S) (j : Nat) : Fx (o_Tk S j).2 := by
  cases j with
  | zero => exact h
  | succ j => exact Fx_Tk1 _
theorem Fx_Tick {S : ST} (h : Fx S) (x : Int32) : Fx (u_Tick S x).2 := by
  unfold u_Tick
  split
  · exact Fx_Tk h _
  · exact h
theorem Fx_0 : Fx s_0 := Or.inl rfl
