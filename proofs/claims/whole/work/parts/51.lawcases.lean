set_option maxRecDepth 100000 in
set_option maxHeartbeats 4000000 in
/-- the law, number 0: setRestartTime -/
theorem law_0 {p : Program} {l : Launch} {e : Env} {s : State} {m : MethodId} {below : List Frame} {meth : Method} {c : Code} {b L : Nat} {xs : Nat → Int32} (C0 : lw_At p s m meth c b L xs) (hL : L ≤ 2560) {D : va_G} {cI cZ cP : ClassId} {ad md : Nat → Nat} {pd : Nat → Nat → Nat} {S : ST} (hK : va_K D vwCl (kTy cI cZ cP) s) (hN : kN s) (hJ : Inv S ∧ Fx S) {H : Heap} {locs : List Loc} {cells slots : Nat} (hcs : cells + 4 ≤ 600000 ∧ slots + 56 ≤ 7302250) (hP : va_P D vwCl (xW cI cZ cP ad pd S ++ mW cI cZ md S) H) (hD : va_D (fun q : Nat => s.heap.size ≤ q) (xW cI cZ cP ad pd S ++ mW cI cZ md S)) (hS : va_S (fun q : Nat => s.heap.size ≤ q) s.heap H locs) {ls : Array Slot} {j : Nat} (hj : 5 * j + 5 ≤ L) (hl : lv_has ls 4 [(0, .ref b), (1, .ref (ad 0)), (2, .ref (md 0)), (3, .int (nI (5 * j)))])
    (kk : ∀ (S1 : ST) (pd1 : Nat → Nat → Nat) (H1 : Heap) (locs1 : List Loc), Inv S1 ∧ Fx S1 → va_P D vwCl (xW cI cZ cP ad pd1 S1 ++ mW cI cZ md S1) H1 → va_D (fun q : Nat => s.heap.size ≤ q) (xW cI cZ cP ad pd1 S1 ++ mW cI cZ md S1) → va_S (fun q : Nat => s.heap.size ≤ q) s.heap H1 locs1 → W p l e room_1 s m #[Value.ref b] below meth c H1 locs1 (cells + 4) (slots + 56) (lw_Z below #[Value.ref b] s) (F0 m 828 ls [])) : W p l e room_1 s m #[Value.ref b] below meth c H locs cells slots (lw_Z below #[Value.ref b] s) (F0 m 144 ls []) := by
  obtain ⟨hx, hb, hr, hml, hown, hts0, hX, hbl, hlocks, hgv⟩ := id C0
  have hts : ∀ w ∈ wsL_law, w.before #[Value.ref b] s = true := fun w h => hts0 w (wsL_law_in w h)
  have hown : s.vm.findClass RL = some m.cls := hown
  have hI : Inv S := hJ.1
  have hA : ∀ q : Nat, s.heap.size ≤ q → (fun q : Nat => s.heap.size ≤ q) q := fun _ h => h
  have hbA : ¬ (fun q : Nat => s.heap.size ≤ q) b := Nat.not_le.mpr hbl
  have hcr : cells ≤ room_1.cells ∧ slots ≤ room_1.slots := ⟨Nat.le_trans (Nat.le_add_right _ 4) hcs.1, Nat.le_trans (Nat.le_add_right _ 56) hcs.2⟩
  refine lv_aload_n hx hb dL_law_144 rfl (lv_at hl 1 rfl) ?_
  refine lv_aload_n hx hb dL_law_145 rfl (lv_at hl 0 rfl) ?_
  refine lv_iload_n hx hb dL_law_146 rfl (lv_at hl 3 rfl) ?_
  refine lv_iconst (v := 1) hx hb dL_law_147 (by decide) ?_
  refine lv_iadd hx hb dL_law_148 ?_
  refine k_top (nI_add (5 * j) 1) ?_
  refine k_sld (k := 5 * j + 1) hx hb hX hbl hbA hS rfl (by omega) (by omega) dL_law_149 ?_
  refine kX (As := [.int (xs (5 * j + 1))]) (rest := []) (o := some (.int (if okT (xs (5 * j + 1)) then g_T1 S else -3))) (S1 := if okT (xs (5 * j + 1)) then s_T1 S (xs (5 * j + 1)) else S) ⟨hx, hb, hml, hown, hts⟩ (c_X1_setRestartTime l D cI cZ cP ad pd S (xs (5 * j + 1)) ) (T1_N _ _) (cwV 1 hts gL_law_X1_setRestartTime rfl rfl rfl (by decide +kernel) ⟨Nat.le_of_ble_eq_true rfl, Nat.le_of_ble_eq_true rfl⟩) hK hN hP hD hS rfl hl.1 rfl (Nat.le_of_ble_eq_true rfl) hcr dL_law_150 (fun H locs hP hD hS => ?_)
  refine lv_aload_n hx hb dL_law_153 rfl (lv_at hl 2 rfl) ?_
  refine lv_aload_n hx hb dL_law_154 rfl (lv_at hl 0 rfl) ?_
  refine lv_iload_n hx hb dL_law_155 rfl (lv_at hl 3 rfl) ?_
  refine lv_iconst (v := 1) hx hb dL_law_156 (by decide) ?_
  refine lv_iadd hx hb dL_law_157 ?_
  refine k_top (nI_add (5 * j) 1) ?_
  refine k_sld (k := 5 * j + 1) hx hb hX hbl hbA hS rfl (by omega) (by omega) dL_law_158 ?_
  refine kMo (As := [.int (xs (5 * j + 1))]) (rest := [.int (if okT (xs (5 * j + 1)) then g_T1 S else -3)]) (o := some (.int (if okT (xs (5 * j + 1)) then g_T1 S else -3))) (T1 := if okT (xs (5 * j + 1)) then s_T1 S (xs (5 * j + 1)) else S) ⟨hx, hb, hml, hown, hts⟩ (c_X2_setRestartTime l D cI cZ cP md S (xs (5 * j + 1)) ) (cwV 1 hts gL_law_X2_setRestartTime rfl rfl rfl (by decide +kernel) ⟨Nat.le_of_ble_eq_true rfl, Nat.le_of_ble_eq_true rfl⟩) hK hN hP hD hS rfl hl.1 rfl (Nat.le_of_ble_eq_true rfl) hcr dL_law_159 (fun H locs hP hD hS => ?_)
  refine lv_icmp_eq (tgt := 828) hx hb dL_law_162 (by decide) (fun _ => ?_) (fun c_ => absurd rfl c_)
  refine W.widen (k := cells + 4) (n := slots + 56) (Nat.le_add_right _ _) (Nat.le_add_right _ _) ?_
  exact kk (if okT (xs (5 * j + 1)) then s_T1 S (xs (5 * j + 1)) else S) pd H locs (⟨inv_T1 hI _, Fx_T1 hJ.2 _⟩) hP hD hS

set_option maxRecDepth 100000 in
set_option maxHeartbeats 4000000 in
/-- the law, number 1: setStaleTime -/
theorem law_1 {p : Program} {l : Launch} {e : Env} {s : State} {m : MethodId} {below : List Frame} {meth : Method} {c : Code} {b L : Nat} {xs : Nat → Int32} (C0 : lw_At p s m meth c b L xs) (hL : L ≤ 2560) {D : va_G} {cI cZ cP : ClassId} {ad md : Nat → Nat} {pd : Nat → Nat → Nat} {S : ST} (hK : va_K D vwCl (kTy cI cZ cP) s) (hN : kN s) (hJ : Inv S ∧ Fx S) {H : Heap} {locs : List Loc} {cells slots : Nat} (hcs : cells + 4 ≤ 600000 ∧ slots + 56 ≤ 7302250) (hP : va_P D vwCl (xW cI cZ cP ad pd S ++ mW cI cZ md S) H) (hD : va_D (fun q : Nat => s.heap.size ≤ q) (xW cI cZ cP ad pd S ++ mW cI cZ md S)) (hS : va_S (fun q : Nat => s.heap.size ≤ q) s.heap H locs) {ls : Array Slot} {j : Nat} (hj : 5 * j + 5 ≤ L) (hl : lv_has ls 4 [(0, .ref b), (1, .ref (ad 0)), (2, .ref (md 0)), (3, .int (nI (5 * j)))])
    (kk : ∀ (S1 : ST) (pd1 : Nat → Nat → Nat) (H1 : Heap) (locs1 : List Loc), Inv S1 ∧ Fx S1 → va_P D vwCl (xW cI cZ cP ad pd1 S1 ++ mW cI cZ md S1) H1 → va_D (fun q : Nat => s.heap.size ≤ q) (xW cI cZ cP ad pd1 S1 ++ mW cI cZ md S1) → va_S (fun q : Nat => s.heap.size ≤ q) s.heap H1 locs1 → W p l e room_1 s m #[Value.ref b] below meth c H1 locs1 (cells + 4) (slots + 56) (lw_Z below #[Value.ref b] s) (F0 m 828 ls [])) : W p l e room_1 s m #[Value.ref b] below meth c H locs cells slots (lw_Z below #[Value.ref b] s) (F0 m 167 ls []) := by
  obtain ⟨hx, hb, hr, hml, hown, hts0, hX, hbl, hlocks, hgv⟩ := id C0
  have hts : ∀ w ∈ wsL_law, w.before #[Value.ref b] s = true := fun w h => hts0 w (wsL_law_in w h)
  have hown : s.vm.findClass RL = some m.cls := hown
  have hI : Inv S := hJ.1
  have hA : ∀ q : Nat, s.heap.size ≤ q → (fun q : Nat => s.heap.size ≤ q) q := fun _ h => h
  have hbA : ¬ (fun q : Nat => s.heap.size ≤ q) b := Nat.not_le.mpr hbl
  have hcr : cells ≤ room_1.cells ∧ slots ≤ room_1.slots := ⟨Nat.le_trans (Nat.le_add_right _ 4) hcs.1, Nat.le_trans (Nat.le_add_right _ 56) hcs.2⟩
  refine lv_aload_n hx hb dL_law_167 rfl (lv_at hl 1 rfl) ?_
  refine lv_aload_n hx hb dL_law_168 rfl (lv_at hl 0 rfl) ?_
  refine lv_iload_n hx hb dL_law_169 rfl (lv_at hl 3 rfl) ?_
  refine lv_iconst (v := 1) hx hb dL_law_170 (by decide) ?_
  refine lv_iadd hx hb dL_law_171 ?_
  refine k_top (nI_add (5 * j) 1) ?_
  refine k_sld (k := 5 * j + 1) hx hb hX hbl hbA hS rfl (by omega) (by omega) dL_law_172 ?_
  refine kX (As := [.int (xs (5 * j + 1))]) (rest := []) (o := some (.int (if okT (xs (5 * j + 1)) then g_T2 S else -3))) (S1 := if okT (xs (5 * j + 1)) then s_T2 S (xs (5 * j + 1)) else S) ⟨hx, hb, hml, hown, hts⟩ (c_X1_setStaleTime l D cI cZ cP ad pd S (xs (5 * j + 1)) ) (T2_N _ _) (cwV 1 hts gL_law_X1_setStaleTime rfl rfl rfl (by decide +kernel) ⟨Nat.le_of_ble_eq_true rfl, Nat.le_of_ble_eq_true rfl⟩) hK hN hP hD hS rfl hl.1 rfl (Nat.le_of_ble_eq_true rfl) hcr dL_law_173 (fun H locs hP hD hS => ?_)
  refine lv_aload_n hx hb dL_law_176 rfl (lv_at hl 2 rfl) ?_
  refine lv_aload_n hx hb dL_law_177 rfl (lv_at hl 0 rfl) ?_
  refine lv_iload_n hx hb dL_law_178 rfl (lv_at hl 3 rfl) ?_
  refine lv_iconst (v := 1) hx hb dL_law_179 (by decide) ?_
  refine lv_iadd hx hb dL_law_180 ?_
  refine k_top (nI_add (5 * j) 1) ?_
  refine k_sld (k := 5 * j + 1) hx hb hX hbl hbA hS rfl (by omega) (by omega) dL_law_181 ?_
  refine kMo (As := [.int (xs (5 * j + 1))]) (rest := [.int (if okT (xs (5 * j + 1)) then g_T2 S else -3)]) (o := some (.int (if okT (xs (5 * j + 1)) then g_T2 S else -3))) (T1 := if okT (xs (5 * j + 1)) then s_T2 S (xs (5 * j + 1)) else S) ⟨hx, hb, hml, hown, hts⟩ (c_X2_setStaleTime l D cI cZ cP md S (xs (5 * j + 1)) ) (cwV 1 hts gL_law_X2_setStaleTime rfl rfl rfl (by decide +kernel) ⟨Nat.le_of_ble_eq_true rfl, Nat.le_of_ble_eq_true rfl⟩) hK hN hP hD hS rfl hl.1 rfl (Nat.le_of_ble_eq_true rfl) hcr dL_law_182 (fun H locs hP hD hS => ?_)
  refine lv_icmp_eq (tgt := 828) hx hb dL_law_185 (by decide) (fun _ => ?_) (fun c_ => absurd rfl c_)
  refine W.widen (k := cells + 4) (n := slots + 56) (Nat.le_add_right _ _) (Nat.le_add_right _ _) ?_
  exact kk (if okT (xs (5 * j + 1)) then s_T2 S (xs (5 * j + 1)) else S) pd H locs (⟨inv_T2 hI _, Fx_T2 hJ.2 _⟩) hP hD hS

set_option maxRecDepth 100000 in
set_option maxHeartbeats 4000000 in
/-- the law, number 2: setDeferralTime -/
theorem law_2 {p : Program} {l : Launch} {e : Env} {s : State} {m : MethodId} {below : List Frame} {meth : Method} {c : Code} {b L : Nat} {xs : Nat → Int32} (C0 : lw_At p s m meth c b L xs) (hL : L ≤ 2560) {D : va_G} {cI cZ cP : ClassId} {ad md : Nat → Nat} {pd : Nat → Nat → Nat} {S : ST} (hK : va_K D vwCl (kTy cI cZ cP) s) (hN : kN s) (hJ : Inv S ∧ Fx S) {H : Heap} {locs : List Loc} {cells slots : Nat} (hcs : cells + 4 ≤ 600000 ∧ slots + 56 ≤ 7302250) (hP : va_P D vwCl (xW cI cZ cP ad pd S ++ mW cI cZ md S) H) (hD : va_D (fun q : Nat => s.heap.size ≤ q) (xW cI cZ cP ad pd S ++ mW cI cZ md S)) (hS : va_S (fun q : Nat => s.heap.size ≤ q) s.heap H locs) {ls : Array Slot} {j : Nat} (hj : 5 * j + 5 ≤ L) (hl : lv_has ls 4 [(0, .ref b), (1, .ref (ad 0)), (2, .ref (md 0)), (3, .int (nI (5 * j)))])
    (kk : ∀ (S1 : ST) (pd1 : Nat → Nat → Nat) (H1 : Heap) (locs1 : List Loc), Inv S1 ∧ Fx S1 → va_P D vwCl (xW cI cZ cP ad pd1 S1 ++ mW cI cZ md S1) H1 → va_D (fun q : Nat => s.heap.size ≤ q) (xW cI cZ cP ad pd1 S1 ++ mW cI cZ md S1) → va_S (fun q : Nat => s.heap.size ≤ q) s.heap H1 locs1 → W p l e room_1 s m #[Value.ref b] below meth c H1 locs1 (cells + 4) (slots + 56) (lw_Z below #[Value.ref b] s) (F0 m 828 ls [])) : W p l e room_1 s m #[Value.ref b] below meth c H locs cells slots (lw_Z below #[Value.ref b] s) (F0 m 190 ls []) := by
  obtain ⟨hx, hb, hr, hml, hown, hts0, hX, hbl, hlocks, hgv⟩ := id C0
  have hts : ∀ w ∈ wsL_law, w.before #[Value.ref b] s = true := fun w h => hts0 w (wsL_law_in w h)
  have hown : s.vm.findClass RL = some m.cls := hown
  have hI : Inv S := hJ.1
  have hA : ∀ q : Nat, s.heap.size ≤ q → (fun q : Nat => s.heap.size ≤ q) q := fun _ h => h
  have hbA : ¬ (fun q : Nat => s.heap.size ≤ q) b := Nat.not_le.mpr hbl
  have hcr : cells ≤ room_1.cells ∧ slots ≤ room_1.slots := ⟨Nat.le_trans (Nat.le_add_right _ 4) hcs.1, Nat.le_trans (Nat.le_add_right _ 56) hcs.2⟩
  refine lv_aload_n hx hb dL_law_190 rfl (lv_at hl 1 rfl) ?_
  refine lv_aload_n hx hb dL_law_191 rfl (lv_at hl 0 rfl) ?_
  refine lv_iload_n hx hb dL_law_192 rfl (lv_at hl 3 rfl) ?_
  refine lv_iconst (v := 1) hx hb dL_law_193 (by decide) ?_
  refine lv_iadd hx hb dL_law_194 ?_
  refine k_top (nI_add (5 * j) 1) ?_
  refine k_sld (k := 5 * j + 1) hx hb hX hbl hbA hS rfl (by omega) (by omega) dL_law_195 ?_
  refine kX (As := [.int (xs (5 * j + 1))]) (rest := []) (o := some (.int (if okT (xs (5 * j + 1)) then g_T3 S else -3))) (S1 := if okT (xs (5 * j + 1)) then s_T3 S (xs (5 * j + 1)) else S) ⟨hx, hb, hml, hown, hts⟩ (c_X1_setDeferralTime l D cI cZ cP ad pd S (xs (5 * j + 1)) ) (T3_N _ _) (cwV 1 hts gL_law_X1_setDeferralTime rfl rfl rfl (by decide +kernel) ⟨Nat.le_of_ble_eq_true rfl, Nat.le_of_ble_eq_true rfl⟩) hK hN hP hD hS rfl hl.1 rfl (Nat.le_of_ble_eq_true rfl) hcr dL_law_196 (fun H locs hP hD hS => ?_)
  refine lv_aload_n hx hb dL_law_199 rfl (lv_at hl 2 rfl) ?_
  refine lv_aload_n hx hb dL_law_200 rfl (lv_at hl 0 rfl) ?_
  refine lv_iload_n hx hb dL_law_201 rfl (lv_at hl 3 rfl) ?_
  refine lv_iconst (v := 1) hx hb dL_law_202 (by decide) ?_
  refine lv_iadd hx hb dL_law_203 ?_
  refine k_top (nI_add (5 * j) 1) ?_
  refine k_sld (k := 5 * j + 1) hx hb hX hbl hbA hS rfl (by omega) (by omega) dL_law_204 ?_
  refine kMo (As := [.int (xs (5 * j + 1))]) (rest := [.int (if okT (xs (5 * j + 1)) then g_T3 S else -3)]) (o := some (.int (if okT (xs (5 * j + 1)) then g_T3 S else -3))) (T1 := if okT (xs (5 * j + 1)) then s_T3 S (xs (5 * j + 1)) else S) ⟨hx, hb, hml, hown, hts⟩ (c_X2_setDeferralTime l D cI cZ cP md S (xs (5 * j + 1)) ) (cwV 1 hts gL_law_X2_setDeferralTime rfl rfl rfl (by decide +kernel) ⟨Nat.le_of_ble_eq_true rfl, Nat.le_of_ble_eq_true rfl⟩) hK hN hP hD hS rfl hl.1 rfl (Nat.le_of_ble_eq_true rfl) hcr dL_law_205 (fun H locs hP hD hS => ?_)
  refine lv_icmp_eq (tgt := 828) hx hb dL_law_208 (by decide) (fun _ => ?_) (fun c_ => absurd rfl c_)
  refine W.widen (k := cells + 4) (n := slots + 56) (Nat.le_add_right _ _) (Nat.le_add_right _ _) ?_
  exact kk (if okT (xs (5 * j + 1)) then s_T3 S (xs (5 * j + 1)) else S) pd H locs (⟨inv_T3 hI _, Fx_T3 hJ.2 _⟩) hP hD hS

set_option maxRecDepth 100000 in
set_option maxHeartbeats 4000000 in
/-- the law, number 3: addPeer -/
theorem law_3 {p : Program} {l : Launch} {e : Env} {s : State} {m : MethodId} {below : List Frame} {meth : Method} {c : Code} {b L : Nat} {xs : Nat → Int32} (C0 : lw_At p s m meth c b L xs) (hL : L ≤ 2560) {D : va_G} {cI cZ cP : ClassId} {ad md : Nat → Nat} {pd : Nat → Nat → Nat} {S : ST} (hK : va_K D vwCl (kTy cI cZ cP) s) (hN : kN s) (hJ : Inv S ∧ Fx S) {H : Heap} {locs : List Loc} {cells slots : Nat} (hcs : cells + 4 ≤ 600000 ∧ slots + 56 ≤ 7302250) (hP : va_P D vwCl (xW cI cZ cP ad pd S ++ mW cI cZ md S) H) (hD : va_D (fun q : Nat => s.heap.size ≤ q) (xW cI cZ cP ad pd S ++ mW cI cZ md S)) (hS : va_S (fun q : Nat => s.heap.size ≤ q) s.heap H locs) {ls : Array Slot} {j : Nat} (hj : 5 * j + 5 ≤ L) (hl : lv_has ls 4 [(0, .ref b), (1, .ref (ad 0)), (2, .ref (md 0)), (3, .int (nI (5 * j)))])
    (kk : ∀ (S1 : ST) (pd1 : Nat → Nat → Nat) (H1 : Heap) (locs1 : List Loc), Inv S1 ∧ Fx S1 → va_P D vwCl (xW cI cZ cP ad pd1 S1 ++ mW cI cZ md S1) H1 → va_D (fun q : Nat => s.heap.size ≤ q) (xW cI cZ cP ad pd1 S1 ++ mW cI cZ md S1) → va_S (fun q : Nat => s.heap.size ≤ q) s.heap H1 locs1 → W p l e room_1 s m #[Value.ref b] below meth c H1 locs1 (cells + 4) (slots + 56) (lw_Z below #[Value.ref b] s) (F0 m 828 ls [])) : W p l e room_1 s m #[Value.ref b] below meth c H locs cells slots (lw_Z below #[Value.ref b] s) (F0 m 213 ls []) := by
  obtain ⟨hx, hb, hr, hml, hown, hts0, hX, hbl, hlocks, hgv⟩ := id C0
  have hts : ∀ w ∈ wsL_law, w.before #[Value.ref b] s = true := fun w h => hts0 w (wsL_law_in w h)
  have hown : s.vm.findClass RL = some m.cls := hown
  have hI : Inv S := hJ.1
  have hA : ∀ q : Nat, s.heap.size ≤ q → (fun q : Nat => s.heap.size ≤ q) q := fun _ h => h
  have hbA : ¬ (fun q : Nat => s.heap.size ≤ q) b := Nat.not_le.mpr hbl
  have hcr : cells ≤ room_1.cells ∧ slots ≤ room_1.slots := ⟨Nat.le_trans (Nat.le_add_right _ 4) hcs.1, Nat.le_trans (Nat.le_add_right _ 56) hcs.2⟩
  refine lv_aload_n hx hb dL_law_213 rfl (lv_at hl 1 rfl) ?_
  refine lv_aload_n hx hb dL_law_214 rfl (lv_at hl 0 rfl) ?_
  refine lv_iload_n hx hb dL_law_215 rfl (lv_at hl 3 rfl) ?_
  refine lv_iconst (v := 1) hx hb dL_law_216 (by decide) ?_
  refine lv_iadd hx hb dL_law_217 ?_
  refine k_top (nI_add (5 * j) 1) ?_
  refine k_sld (k := 5 * j + 1) hx hb hX hbl hbA hS rfl (by omega) (by omega) dL_law_218 ?_
  obtain ⟨g9, hg9, eg9⟩ : ∃ g9 : Int32, (g9 = 0 ∨ g9 = 1) ∧ g9 = (if xs (5 * j + 1) = 0 then 0 else 1) := by
    by_cases hz : xs (5 * j + 1) = 0
    · exact ⟨0, Or.inl rfl, by rw [if_pos hz]⟩
    · exact ⟨1, Or.inr rfl, by rw [if_neg hz]⟩
  suffices hgo : W p l e room_1 s m #[Value.ref b] below meth c H locs cells slots (lw_Z below #[Value.ref b] s) (F0 m 227 ls (.int g9 :: [.ref (ad 0)])) by
    refine lv_if_eq (tgt := 226) hx hb dL_law_219 (by decide) (fun cz => ?_) (fun cz => ?_)
    · rw [if_pos cz] at eg9
      subst eg9
      refine lv_iconst (v := 0) hx hb dL_law_226 (by decide) ?_
      exact hgo
    · rw [if_neg cz] at eg9
      subst eg9
      refine lv_iconst (v := 1) hx hb dL_law_222 (by decide) ?_
      refine lv_goto (tgt := 227) hx hb dL_law_223 (by decide) ?_
      exact hgo
  have hFc := front_F hD hA hS.1
  refine va_calli (va_runV (As := [.int g9]) (rest := []) ⟨hx, hb, hml, hown, hts⟩ (c_X1_addPeer l D cI cZ cP ad pd S g9 H.size hI hg9) (cwV 1 hts gL_law_X1_addPeer rfl rfl rfl (by decide +kernel) ⟨Nat.le_of_ble_eq_true rfl, Nat.le_of_ble_eq_true rfl⟩) ⟨fun a U g mk q => by obtain ⟨q0, q1, qP, qK, qN, qD⟩ := q; exact ⟨q0, q1, qP, va_K.moved (u := U) (U := U.calling g mk a) (Vm.Alike.refl U.vm) qK, kN.same (u := U) (U := U.calling g mk a) rfl qN, qD⟩, va_recv hK hP (ci := 1) (q0 := 0) rfl (lw_l 0 _ (xO _ _ _ _ _ _)), fun U hU hW => ⟨rfl, by rw [hU], by rw [hU]; exact front_P hP, va_K.moved hW.alike hK, kN.warm hW hN, (front_D hD).weaken (fun _ _ _ _ => trivial)⟩⟩ rfl rfl hl.1 rfl (lv_room (Nat.le_of_ble_eq_true rfl)) dL_law_227 ⟨hcs.1, hcs.2⟩) hS (fun q _ h => hFc q h) hFc (fun r9 pd1 t H1 locs ht hvm hw hB hz1 hk1 hS => ?_)
  obtain ⟨hP1, hD1⟩ := hB
  rw [ht] at hP1
  obtain ⟨hP, hD⟩ := front_join hP hD hk1 hFc hP1 hD1
  generalize H1 = H at hP hS ⊢
  refine k_top hw ?_
  refine lv_aload_n hx hb dL_law_230 rfl (lv_at hl 2 rfl) ?_
  refine lv_aload_n hx hb dL_law_231 rfl (lv_at hl 0 rfl) ?_
  refine lv_iload_n hx hb dL_law_232 rfl (lv_at hl 3 rfl) ?_
  refine lv_iconst (v := 1) hx hb dL_law_233 (by decide) ?_
  refine lv_iadd hx hb dL_law_234 ?_
  refine k_top (nI_add (5 * j) 1) ?_
  refine k_sld (k := 5 * j + 1) hx hb hX hbl hbA hS rfl (by omega) (by omega) dL_law_235 ?_
  suffices hgo : W p l e room_1 s m #[Value.ref b] below meth c H locs (cells + 4) (slots + 56) (lw_Z below #[Value.ref b] s) (F0 m 244 ls (.int g9 :: [.ref (md 0), .int ((u_Add S g9).1)])) by
    refine lv_if_eq (tgt := 243) hx hb dL_law_236 (by decide) (fun cz => ?_) (fun cz => ?_)
    · rw [if_pos cz] at eg9
      subst eg9
      refine lv_iconst (v := 0) hx hb dL_law_243 (by decide) ?_
      exact hgo
    · rw [if_neg cz] at eg9
      subst eg9
      refine lv_iconst (v := 1) hx hb dL_law_239 (by decide) ?_
      refine lv_goto (tgt := 244) hx hb dL_law_240 (by decide) ?_
      exact hgo
  refine kMo (As := [.int g9]) (rest := [.int ((u_Add S g9).1)]) (o := some (.int (u_Add S g9).1)) (T1 := (u_Add S g9).2) ⟨hx, hb, hml, hown, hts⟩ (c_X2_addPeer l D cI cZ cP md S g9 hI.1 hg9) (cwV 1 hts gL_law_X2_addPeer rfl rfl rfl (by decide +kernel) ⟨Nat.le_of_ble_eq_true rfl, Nat.le_of_ble_eq_true rfl⟩) hK hN hP hD hS rfl hl.1 rfl (Nat.le_of_ble_eq_true rfl) ⟨hcs.1, hcs.2⟩ dL_law_244 (fun H locs hP hD hS => ?_)
  refine lv_icmp_eq (tgt := 828) hx hb dL_law_247 (by decide) (fun _ => ?_) (fun c_ => absurd rfl c_)
  exact kk (u_Add S g9).2 pd1 H locs ⟨inv_Add hI g9, Fx_Add hJ.2 g9⟩ hP hD hS

set_option maxRecDepth 100000 in
set_option maxHeartbeats 4000000 in
/-- the law, number 4: announce -/
theorem law_4 {p : Program} {l : Launch} {e : Env} {s : State} {m : MethodId} {below : List Frame} {meth : Method} {c : Code} {b L : Nat} {xs : Nat → Int32} (C0 : lw_At p s m meth c b L xs) (hL : L ≤ 2560) {D : va_G} {cI cZ cP : ClassId} {ad md : Nat → Nat} {pd : Nat → Nat → Nat} {S : ST} (hK : va_K D vwCl (kTy cI cZ cP) s) (hN : kN s) (hJ : Inv S ∧ Fx S) {H : Heap} {locs : List Loc} {cells slots : Nat} (hcs : cells + 4 ≤ 600000 ∧ slots + 56 ≤ 7302250) (hP : va_P D vwCl (xW cI cZ cP ad pd S ++ mW cI cZ md S) H) (hD : va_D (fun q : Nat => s.heap.size ≤ q) (xW cI cZ cP ad pd S ++ mW cI cZ md S)) (hS : va_S (fun q : Nat => s.heap.size ≤ q) s.heap H locs) {ls : Array Slot} {j : Nat} (hj : 5 * j + 5 ≤ L) (hl : lv_has ls 4 [(0, .ref b), (1, .ref (ad 0)), (2, .ref (md 0)), (3, .int (nI (5 * j)))])
    (kk : ∀ (S1 : ST) (pd1 : Nat → Nat → Nat) (H1 : Heap) (locs1 : List Loc), Inv S1 ∧ Fx S1 → va_P D vwCl (xW cI cZ cP ad pd1 S1 ++ mW cI cZ md S1) H1 → va_D (fun q : Nat => s.heap.size ≤ q) (xW cI cZ cP ad pd1 S1 ++ mW cI cZ md S1) → va_S (fun q : Nat => s.heap.size ≤ q) s.heap H1 locs1 → W p l e room_1 s m #[Value.ref b] below meth c H1 locs1 (cells + 4) (slots + 56) (lw_Z below #[Value.ref b] s) (F0 m 828 ls [])) : W p l e room_1 s m #[Value.ref b] below meth c H locs cells slots (lw_Z below #[Value.ref b] s) (F0 m 252 ls []) := by
  obtain ⟨hx, hb, hr, hml, hown, hts0, hX, hbl, hlocks, hgv⟩ := id C0
  have hts : ∀ w ∈ wsL_law, w.before #[Value.ref b] s = true := fun w h => hts0 w (wsL_law_in w h)
  have hown : s.vm.findClass RL = some m.cls := hown
  have hI : Inv S := hJ.1
  have hA : ∀ q : Nat, s.heap.size ≤ q → (fun q : Nat => s.heap.size ≤ q) q := fun _ h => h
  have hbA : ¬ (fun q : Nat => s.heap.size ≤ q) b := Nat.not_le.mpr hbl
  have hcr : cells ≤ room_1.cells ∧ slots ≤ room_1.slots := ⟨Nat.le_trans (Nat.le_add_right _ 4) hcs.1, Nat.le_trans (Nat.le_add_right _ 56) hcs.2⟩
  refine lv_aload_n hx hb dL_law_252 rfl (lv_at hl 1 rfl) ?_
  refine lv_aload_n hx hb dL_law_253 rfl (lv_at hl 0 rfl) ?_
  refine lv_iload_n hx hb dL_law_254 rfl (lv_at hl 3 rfl) ?_
  refine lv_iconst (v := 1) hx hb dL_law_255 (by decide) ?_
  refine lv_iadd hx hb dL_law_256 ?_
  refine k_top (nI_add (5 * j) 1) ?_
  refine k_sld (k := 5 * j + 1) hx hb hX hbl hbA hS rfl (by omega) (by omega) dL_law_257 ?_
  refine lv_aload_n hx hb dL_law_258 rfl (lv_at hl 0 rfl) ?_
  refine lv_iload_n hx hb dL_law_259 rfl (lv_at hl 3 rfl) ?_
  refine lv_iconst (v := 2) hx hb dL_law_260 (by decide) ?_
  refine lv_iadd hx hb dL_law_261 ?_
  refine k_top (nI_add (5 * j) 2) ?_
  refine k_sld (k := 5 * j + 2) hx hb hX hbl hbA hS rfl (by omega) (by omega) dL_law_262 ?_
  refine lv_aload_n hx hb dL_law_263 rfl (lv_at hl 0 rfl) ?_
  refine lv_iload_n hx hb dL_law_264 rfl (lv_at hl 3 rfl) ?_
  refine lv_iconst (v := 3) hx hb dL_law_265 (by decide) ?_
  refine lv_iadd hx hb dL_law_266 ?_
  refine k_top (nI_add (5 * j) 3) ?_
  refine k_sld (k := 5 * j + 3) hx hb hX hbl hbA hS rfl (by omega) (by omega) dL_law_267 ?_
  refine lv_aload_n hx hb dL_law_268 rfl (lv_at hl 0 rfl) ?_
  refine lv_iload_n hx hb dL_law_269 rfl (lv_at hl 3 rfl) ?_
  refine lv_iconst (v := 4) hx hb dL_law_270 (by decide) ?_
  refine lv_iadd hx hb dL_law_271 ?_
  refine k_top (nI_add (5 * j) 4) ?_
  refine k_sld (k := 5 * j + 4) hx hb hX hbl hbA hS rfl (by omega) (by omega) dL_law_272 ?_
  refine kX (As := [.int (xs (5 * j + 1)), .int (xs (5 * j + 2)), .int (xs (5 * j + 3)), .int (xs (5 * j + 4))]) (rest := []) (o := some (.int ((u_Ann S (xs (5 * j + 1)) (xs (5 * j + 2)) (xs (5 * j + 3)) (xs (5 * j + 4))).1))) (S1 := (u_Ann S (xs (5 * j + 1)) (xs (5 * j + 2)) (xs (5 * j + 3)) (xs (5 * j + 4))).2) ⟨hx, hb, hml, hown, hts⟩ (c_X1_announce l D cI cZ cP ad pd S (xs (5 * j + 1)) (xs (5 * j + 2)) (xs (5 * j + 3)) (xs (5 * j + 4)) hI.1) (Ann_N _ _ _ _ _) (cwV 4 hts gL_law_X1_announce rfl rfl rfl (by decide +kernel) ⟨Nat.le_of_ble_eq_true rfl, Nat.le_of_ble_eq_true rfl⟩) hK hN hP hD hS rfl hl.1 rfl (Nat.le_of_ble_eq_true rfl) hcr dL_law_273 (fun H locs hP hD hS => ?_)
  refine lv_aload_n hx hb dL_law_276 rfl (lv_at hl 2 rfl) ?_
  refine lv_aload_n hx hb dL_law_277 rfl (lv_at hl 0 rfl) ?_
  refine lv_iload_n hx hb dL_law_278 rfl (lv_at hl 3 rfl) ?_
  refine lv_iconst (v := 1) hx hb dL_law_279 (by decide) ?_
  refine lv_iadd hx hb dL_law_280 ?_
  refine k_top (nI_add (5 * j) 1) ?_
  refine k_sld (k := 5 * j + 1) hx hb hX hbl hbA hS rfl (by omega) (by omega) dL_law_281 ?_
  refine lv_aload_n hx hb dL_law_282 rfl (lv_at hl 0 rfl) ?_
  refine lv_iload_n hx hb dL_law_283 rfl (lv_at hl 3 rfl) ?_
  refine lv_iconst (v := 2) hx hb dL_law_284 (by decide) ?_
  refine lv_iadd hx hb dL_law_285 ?_
  refine k_top (nI_add (5 * j) 2) ?_
  refine k_sld (k := 5 * j + 2) hx hb hX hbl hbA hS rfl (by omega) (by omega) dL_law_286 ?_
  refine lv_aload_n hx hb dL_law_287 rfl (lv_at hl 0 rfl) ?_
  refine lv_iload_n hx hb dL_law_288 rfl (lv_at hl 3 rfl) ?_
  refine lv_iconst (v := 3) hx hb dL_law_289 (by decide) ?_
  refine lv_iadd hx hb dL_law_290 ?_
  refine k_top (nI_add (5 * j) 3) ?_
  refine k_sld (k := 5 * j + 3) hx hb hX hbl hbA hS rfl (by omega) (by omega) dL_law_291 ?_
  refine lv_aload_n hx hb dL_law_292 rfl (lv_at hl 0 rfl) ?_
  refine lv_iload_n hx hb dL_law_293 rfl (lv_at hl 3 rfl) ?_
  refine lv_iconst (v := 4) hx hb dL_law_294 (by decide) ?_
  refine lv_iadd hx hb dL_law_295 ?_
  refine k_top (nI_add (5 * j) 4) ?_
  refine k_sld (k := 5 * j + 4) hx hb hX hbl hbA hS rfl (by omega) (by omega) dL_law_296 ?_
  refine kMo (As := [.int (xs (5 * j + 1)), .int (xs (5 * j + 2)), .int (xs (5 * j + 3)), .int (xs (5 * j + 4))]) (rest := [.int ((u_Ann S (xs (5 * j + 1)) (xs (5 * j + 2)) (xs (5 * j + 3)) (xs (5 * j + 4))).1)]) (o := some (.int ((u_Ann S (xs (5 * j + 1)) (xs (5 * j + 2)) (xs (5 * j + 3)) (xs (5 * j + 4))).1))) (T1 := (u_Ann S (xs (5 * j + 1)) (xs (5 * j + 2)) (xs (5 * j + 3)) (xs (5 * j + 4))).2) ⟨hx, hb, hml, hown, hts⟩ (c_X2_announce l D cI cZ cP md S (xs (5 * j + 1)) (xs (5 * j + 2)) (xs (5 * j + 3)) (xs (5 * j + 4)) hI.1) (cwV 4 hts gL_law_X2_announce rfl rfl rfl (by decide +kernel) ⟨Nat.le_of_ble_eq_true rfl, Nat.le_of_ble_eq_true rfl⟩) hK hN hP hD hS rfl hl.1 rfl (Nat.le_of_ble_eq_true rfl) hcr dL_law_297 (fun H locs hP hD hS => ?_)
  refine lv_icmp_eq (tgt := 828) hx hb dL_law_300 (by decide) (fun _ => ?_) (fun c_ => absurd rfl c_)
  refine W.widen (k := cells + 4) (n := slots + 56) (Nat.le_add_right _ _) (Nat.le_add_right _ _) ?_
  exact kk ((u_Ann S (xs (5 * j + 1)) (xs (5 * j + 2)) (xs (5 * j + 3)) (xs (5 * j + 4))).2) pd H locs (⟨inv_Ann hI _ _ _ _, Fx_Ann hJ.2 _ _ _ _⟩) hP hD hS

set_option maxRecDepth 100000 in
set_option maxHeartbeats 4000000 in
/-- the law, number 5: withdraw -/
theorem law_5 {p : Program} {l : Launch} {e : Env} {s : State} {m : MethodId} {below : List Frame} {meth : Method} {c : Code} {b L : Nat} {xs : Nat → Int32} (C0 : lw_At p s m meth c b L xs) (hL : L ≤ 2560) {D : va_G} {cI cZ cP : ClassId} {ad md : Nat → Nat} {pd : Nat → Nat → Nat} {S : ST} (hK : va_K D vwCl (kTy cI cZ cP) s) (hN : kN s) (hJ : Inv S ∧ Fx S) {H : Heap} {locs : List Loc} {cells slots : Nat} (hcs : cells + 4 ≤ 600000 ∧ slots + 56 ≤ 7302250) (hP : va_P D vwCl (xW cI cZ cP ad pd S ++ mW cI cZ md S) H) (hD : va_D (fun q : Nat => s.heap.size ≤ q) (xW cI cZ cP ad pd S ++ mW cI cZ md S)) (hS : va_S (fun q : Nat => s.heap.size ≤ q) s.heap H locs) {ls : Array Slot} {j : Nat} (hj : 5 * j + 5 ≤ L) (hl : lv_has ls 4 [(0, .ref b), (1, .ref (ad 0)), (2, .ref (md 0)), (3, .int (nI (5 * j)))])
    (kk : ∀ (S1 : ST) (pd1 : Nat → Nat → Nat) (H1 : Heap) (locs1 : List Loc), Inv S1 ∧ Fx S1 → va_P D vwCl (xW cI cZ cP ad pd1 S1 ++ mW cI cZ md S1) H1 → va_D (fun q : Nat => s.heap.size ≤ q) (xW cI cZ cP ad pd1 S1 ++ mW cI cZ md S1) → va_S (fun q : Nat => s.heap.size ≤ q) s.heap H1 locs1 → W p l e room_1 s m #[Value.ref b] below meth c H1 locs1 (cells + 4) (slots + 56) (lw_Z below #[Value.ref b] s) (F0 m 828 ls [])) : W p l e room_1 s m #[Value.ref b] below meth c H locs cells slots (lw_Z below #[Value.ref b] s) (F0 m 305 ls []) := by
  obtain ⟨hx, hb, hr, hml, hown, hts0, hX, hbl, hlocks, hgv⟩ := id C0
  have hts : ∀ w ∈ wsL_law, w.before #[Value.ref b] s = true := fun w h => hts0 w (wsL_law_in w h)
  have hown : s.vm.findClass RL = some m.cls := hown
  have hI : Inv S := hJ.1
  have hA : ∀ q : Nat, s.heap.size ≤ q → (fun q : Nat => s.heap.size ≤ q) q := fun _ h => h
  have hbA : ¬ (fun q : Nat => s.heap.size ≤ q) b := Nat.not_le.mpr hbl
  have hcr : cells ≤ room_1.cells ∧ slots ≤ room_1.slots := ⟨Nat.le_trans (Nat.le_add_right _ 4) hcs.1, Nat.le_trans (Nat.le_add_right _ 56) hcs.2⟩
  refine lv_aload_n hx hb dL_law_305 rfl (lv_at hl 1 rfl) ?_
  refine lv_aload_n hx hb dL_law_306 rfl (lv_at hl 0 rfl) ?_
  refine lv_iload_n hx hb dL_law_307 rfl (lv_at hl 3 rfl) ?_
  refine lv_iconst (v := 1) hx hb dL_law_308 (by decide) ?_
  refine lv_iadd hx hb dL_law_309 ?_
  refine k_top (nI_add (5 * j) 1) ?_
  refine k_sld (k := 5 * j + 1) hx hb hX hbl hbA hS rfl (by omega) (by omega) dL_law_310 ?_
  refine lv_aload_n hx hb dL_law_311 rfl (lv_at hl 0 rfl) ?_
  refine lv_iload_n hx hb dL_law_312 rfl (lv_at hl 3 rfl) ?_
  refine lv_iconst (v := 2) hx hb dL_law_313 (by decide) ?_
  refine lv_iadd hx hb dL_law_314 ?_
  refine k_top (nI_add (5 * j) 2) ?_
  refine k_sld (k := 5 * j + 2) hx hb hX hbl hbA hS rfl (by omega) (by omega) dL_law_315 ?_
  refine lv_aload_n hx hb dL_law_316 rfl (lv_at hl 0 rfl) ?_
  refine lv_iload_n hx hb dL_law_317 rfl (lv_at hl 3 rfl) ?_
  refine lv_iconst (v := 3) hx hb dL_law_318 (by decide) ?_
  refine lv_iadd hx hb dL_law_319 ?_
  refine k_top (nI_add (5 * j) 3) ?_
  refine k_sld (k := 5 * j + 3) hx hb hX hbl hbA hS rfl (by omega) (by omega) dL_law_320 ?_
  refine kX (As := [.int (xs (5 * j + 1)), .int (xs (5 * j + 2)), .int (xs (5 * j + 3))]) (rest := []) (o := some (.int ((u_Wd S (xs (5 * j + 1)) (xs (5 * j + 2)) (xs (5 * j + 3))).1))) (S1 := (u_Wd S (xs (5 * j + 1)) (xs (5 * j + 2)) (xs (5 * j + 3))).2) ⟨hx, hb, hml, hown, hts⟩ (c_X1_withdraw l D cI cZ cP ad pd S (xs (5 * j + 1)) (xs (5 * j + 2)) (xs (5 * j + 3)) hI.1) (Wd_N _ _ _ _) (cwV 3 hts gL_law_X1_withdraw rfl rfl rfl (by decide +kernel) ⟨Nat.le_of_ble_eq_true rfl, Nat.le_of_ble_eq_true rfl⟩) hK hN hP hD hS rfl hl.1 rfl (Nat.le_of_ble_eq_true rfl) hcr dL_law_321 (fun H locs hP hD hS => ?_)
  refine lv_aload_n hx hb dL_law_324 rfl (lv_at hl 2 rfl) ?_
  refine lv_aload_n hx hb dL_law_325 rfl (lv_at hl 0 rfl) ?_
  refine lv_iload_n hx hb dL_law_326 rfl (lv_at hl 3 rfl) ?_
  refine lv_iconst (v := 1) hx hb dL_law_327 (by decide) ?_
  refine lv_iadd hx hb dL_law_328 ?_
  refine k_top (nI_add (5 * j) 1) ?_
  refine k_sld (k := 5 * j + 1) hx hb hX hbl hbA hS rfl (by omega) (by omega) dL_law_329 ?_
  refine lv_aload_n hx hb dL_law_330 rfl (lv_at hl 0 rfl) ?_
  refine lv_iload_n hx hb dL_law_331 rfl (lv_at hl 3 rfl) ?_
  refine lv_iconst (v := 2) hx hb dL_law_332 (by decide) ?_
  refine lv_iadd hx hb dL_law_333 ?_
  refine k_top (nI_add (5 * j) 2) ?_
  refine k_sld (k := 5 * j + 2) hx hb hX hbl hbA hS rfl (by omega) (by omega) dL_law_334 ?_
  refine lv_aload_n hx hb dL_law_335 rfl (lv_at hl 0 rfl) ?_
  refine lv_iload_n hx hb dL_law_336 rfl (lv_at hl 3 rfl) ?_
  refine lv_iconst (v := 3) hx hb dL_law_337 (by decide) ?_
  refine lv_iadd hx hb dL_law_338 ?_
  refine k_top (nI_add (5 * j) 3) ?_
  refine k_sld (k := 5 * j + 3) hx hb hX hbl hbA hS rfl (by omega) (by omega) dL_law_339 ?_
  refine kMo (As := [.int (xs (5 * j + 1)), .int (xs (5 * j + 2)), .int (xs (5 * j + 3))]) (rest := [.int ((u_Wd S (xs (5 * j + 1)) (xs (5 * j + 2)) (xs (5 * j + 3))).1)]) (o := some (.int ((u_Wd S (xs (5 * j + 1)) (xs (5 * j + 2)) (xs (5 * j + 3))).1))) (T1 := (u_Wd S (xs (5 * j + 1)) (xs (5 * j + 2)) (xs (5 * j + 3))).2) ⟨hx, hb, hml, hown, hts⟩ (c_X2_withdraw l D cI cZ cP md S (xs (5 * j + 1)) (xs (5 * j + 2)) (xs (5 * j + 3)) hI.1) (cwV 3 hts gL_law_X2_withdraw rfl rfl rfl (by decide +kernel) ⟨Nat.le_of_ble_eq_true rfl, Nat.le_of_ble_eq_true rfl⟩) hK hN hP hD hS rfl hl.1 rfl (Nat.le_of_ble_eq_true rfl) hcr dL_law_340 (fun H locs hP hD hS => ?_)
  refine lv_icmp_eq (tgt := 828) hx hb dL_law_343 (by decide) (fun _ => ?_) (fun c_ => absurd rfl c_)
  refine W.widen (k := cells + 4) (n := slots + 56) (Nat.le_add_right _ _) (Nat.le_add_right _ _) ?_
  exact kk ((u_Wd S (xs (5 * j + 1)) (xs (5 * j + 2)) (xs (5 * j + 3))).2) pd H locs (⟨inv_Wd hI _ _ _, Fx_Wd hJ.2 _ _ _⟩) hP hD hS

set_option maxRecDepth 100000 in
set_option maxHeartbeats 4000000 in
/-- the law, number 6: restart -/
theorem law_6 {p : Program} {l : Launch} {e : Env} {s : State} {m : MethodId} {below : List Frame} {meth : Method} {c : Code} {b L : Nat} {xs : Nat → Int32} (C0 : lw_At p s m meth c b L xs) (hL : L ≤ 2560) {D : va_G} {cI cZ cP : ClassId} {ad md : Nat → Nat} {pd : Nat → Nat → Nat} {S : ST} (hK : va_K D vwCl (kTy cI cZ cP) s) (hN : kN s) (hJ : Inv S ∧ Fx S) {H : Heap} {locs : List Loc} {cells slots : Nat} (hcs : cells + 4 ≤ 600000 ∧ slots + 56 ≤ 7302250) (hP : va_P D vwCl (xW cI cZ cP ad pd S ++ mW cI cZ md S) H) (hD : va_D (fun q : Nat => s.heap.size ≤ q) (xW cI cZ cP ad pd S ++ mW cI cZ md S)) (hS : va_S (fun q : Nat => s.heap.size ≤ q) s.heap H locs) {ls : Array Slot} {j : Nat} (hj : 5 * j + 5 ≤ L) (hl : lv_has ls 4 [(0, .ref b), (1, .ref (ad 0)), (2, .ref (md 0)), (3, .int (nI (5 * j)))])
    (kk : ∀ (S1 : ST) (pd1 : Nat → Nat → Nat) (H1 : Heap) (locs1 : List Loc), Inv S1 ∧ Fx S1 → va_P D vwCl (xW cI cZ cP ad pd1 S1 ++ mW cI cZ md S1) H1 → va_D (fun q : Nat => s.heap.size ≤ q) (xW cI cZ cP ad pd1 S1 ++ mW cI cZ md S1) → va_S (fun q : Nat => s.heap.size ≤ q) s.heap H1 locs1 → W p l e room_1 s m #[Value.ref b] below meth c H1 locs1 (cells + 4) (slots + 56) (lw_Z below #[Value.ref b] s) (F0 m 828 ls [])) : W p l e room_1 s m #[Value.ref b] below meth c H locs cells slots (lw_Z below #[Value.ref b] s) (F0 m 348 ls []) := by
  obtain ⟨hx, hb, hr, hml, hown, hts0, hX, hbl, hlocks, hgv⟩ := id C0
  have hts : ∀ w ∈ wsL_law, w.before #[Value.ref b] s = true := fun w h => hts0 w (wsL_law_in w h)
  have hown : s.vm.findClass RL = some m.cls := hown
  have hI : Inv S := hJ.1
  have hA : ∀ q : Nat, s.heap.size ≤ q → (fun q : Nat => s.heap.size ≤ q) q := fun _ h => h
  have hbA : ¬ (fun q : Nat => s.heap.size ≤ q) b := Nat.not_le.mpr hbl
  have hcr : cells ≤ room_1.cells ∧ slots ≤ room_1.slots := ⟨Nat.le_trans (Nat.le_add_right _ 4) hcs.1, Nat.le_trans (Nat.le_add_right _ 56) hcs.2⟩
  refine lv_aload_n hx hb dL_law_348 rfl (lv_at hl 1 rfl) ?_
  refine lv_aload_n hx hb dL_law_349 rfl (lv_at hl 0 rfl) ?_
  refine lv_iload_n hx hb dL_law_350 rfl (lv_at hl 3 rfl) ?_
  refine lv_iconst (v := 1) hx hb dL_law_351 (by decide) ?_
  refine lv_iadd hx hb dL_law_352 ?_
  refine k_top (nI_add (5 * j) 1) ?_
  refine k_sld (k := 5 * j + 1) hx hb hX hbl hbA hS rfl (by omega) (by omega) dL_law_353 ?_
  obtain ⟨g9, hg9, eg9⟩ : ∃ g9 : Int32, (g9 = 0 ∨ g9 = 1) ∧ g9 = (if xs (5 * j + 1) = 0 then 0 else 1) := by
    by_cases hz : xs (5 * j + 1) = 0
    · exact ⟨0, Or.inl rfl, by rw [if_pos hz]⟩
    · exact ⟨1, Or.inr rfl, by rw [if_neg hz]⟩
  suffices hgo : W p l e room_1 s m #[Value.ref b] below meth c H locs cells slots (lw_Z below #[Value.ref b] s) (F0 m 362 ls (.int g9 :: [.ref (ad 0)])) by
    refine lv_if_eq (tgt := 361) hx hb dL_law_354 (by decide) (fun cz => ?_) (fun cz => ?_)
    · rw [if_pos cz] at eg9
      subst eg9
      refine lv_iconst (v := 0) hx hb dL_law_361 (by decide) ?_
      exact hgo
    · rw [if_neg cz] at eg9
      subst eg9
      refine lv_iconst (v := 1) hx hb dL_law_357 (by decide) ?_
      refine lv_goto (tgt := 362) hx hb dL_law_358 (by decide) ?_
      exact hgo
  refine kX (As := [.int g9]) (rest := []) (o := some (.int ((o_Rst S g9).1))) (S1 := (o_Rst S g9).2) ⟨hx, hb, hml, hown, hts⟩ (c_X1_restart l D cI cZ cP ad pd S g9 hI.1) (Rst_N _ _) (cwV 1 hts gL_law_X1_restart rfl rfl rfl (by decide +kernel) ⟨Nat.le_of_ble_eq_true rfl, Nat.le_of_ble_eq_true rfl⟩) hK hN hP hD hS rfl hl.1 rfl (Nat.le_of_ble_eq_true rfl) hcr dL_law_362 (fun H locs hP hD hS => ?_)
  refine lv_aload_n hx hb dL_law_365 rfl (lv_at hl 2 rfl) ?_
  refine lv_aload_n hx hb dL_law_366 rfl (lv_at hl 0 rfl) ?_
  refine lv_iload_n hx hb dL_law_367 rfl (lv_at hl 3 rfl) ?_
  refine lv_iconst (v := 1) hx hb dL_law_368 (by decide) ?_
  refine lv_iadd hx hb dL_law_369 ?_
  refine k_top (nI_add (5 * j) 1) ?_
  refine k_sld (k := 5 * j + 1) hx hb hX hbl hbA hS rfl (by omega) (by omega) dL_law_370 ?_
  suffices hgo : W p l e room_1 s m #[Value.ref b] below meth c H locs cells slots (lw_Z below #[Value.ref b] s) (F0 m 379 ls (.int g9 :: [.ref (md 0), .int ((o_Rst S g9).1)])) by
    refine lv_if_eq (tgt := 378) hx hb dL_law_371 (by decide) (fun cz => ?_) (fun cz => ?_)
    · rw [if_pos cz] at eg9
      subst eg9
      refine lv_iconst (v := 0) hx hb dL_law_378 (by decide) ?_
      exact hgo
    · rw [if_neg cz] at eg9
      subst eg9
      refine lv_iconst (v := 1) hx hb dL_law_374 (by decide) ?_
      refine lv_goto (tgt := 379) hx hb dL_law_375 (by decide) ?_
      exact hgo
  refine kMo (As := [.int g9]) (rest := [.int ((o_Rst S g9).1)]) (o := some (.int ((o_Rst S g9).1))) (T1 := (o_Rst S g9).2) ⟨hx, hb, hml, hown, hts⟩ (c_X2_restart l D cI cZ cP md S g9 hI) (cwV 1 hts gL_law_X2_restart rfl rfl rfl (by decide +kernel) ⟨Nat.le_of_ble_eq_true rfl, Nat.le_of_ble_eq_true rfl⟩) hK hN hP hD hS rfl hl.1 rfl (Nat.le_of_ble_eq_true rfl) hcr dL_law_379 (fun H locs hP hD hS => ?_)
  refine lv_icmp_eq (tgt := 828) hx hb dL_law_382 (by decide) (fun _ => ?_) (fun c_ => absurd rfl c_)
  refine W.widen (k := cells + 4) (n := slots + 56) (Nat.le_add_right _ _) (Nat.le_add_right _ _) ?_
  exact kk ((o_Rst S g9).2) pd H locs (⟨inv_Rst hI _, Fx_Rst hJ.2 _⟩) hP hD hS

set_option maxRecDepth 100000 in
set_option maxHeartbeats 4000000 in
/-- the law, number 7: reconnect -/
theorem law_7 {p : Program} {l : Launch} {e : Env} {s : State} {m : MethodId} {below : List Frame} {meth : Method} {c : Code} {b L : Nat} {xs : Nat → Int32} (C0 : lw_At p s m meth c b L xs) (hL : L ≤ 2560) {D : va_G} {cI cZ cP : ClassId} {ad md : Nat → Nat} {pd : Nat → Nat → Nat} {S : ST} (hK : va_K D vwCl (kTy cI cZ cP) s) (hN : kN s) (hJ : Inv S ∧ Fx S) {H : Heap} {locs : List Loc} {cells slots : Nat} (hcs : cells + 4 ≤ 600000 ∧ slots + 56 ≤ 7302250) (hP : va_P D vwCl (xW cI cZ cP ad pd S ++ mW cI cZ md S) H) (hD : va_D (fun q : Nat => s.heap.size ≤ q) (xW cI cZ cP ad pd S ++ mW cI cZ md S)) (hS : va_S (fun q : Nat => s.heap.size ≤ q) s.heap H locs) {ls : Array Slot} {j : Nat} (hj : 5 * j + 5 ≤ L) (hl : lv_has ls 4 [(0, .ref b), (1, .ref (ad 0)), (2, .ref (md 0)), (3, .int (nI (5 * j)))])
    (kk : ∀ (S1 : ST) (pd1 : Nat → Nat → Nat) (H1 : Heap) (locs1 : List Loc), Inv S1 ∧ Fx S1 → va_P D vwCl (xW cI cZ cP ad pd1 S1 ++ mW cI cZ md S1) H1 → va_D (fun q : Nat => s.heap.size ≤ q) (xW cI cZ cP ad pd1 S1 ++ mW cI cZ md S1) → va_S (fun q : Nat => s.heap.size ≤ q) s.heap H1 locs1 → W p l e room_1 s m #[Value.ref b] below meth c H1 locs1 (cells + 4) (slots + 56) (lw_Z below #[Value.ref b] s) (F0 m 828 ls [])) : W p l e room_1 s m #[Value.ref b] below meth c H locs cells slots (lw_Z below #[Value.ref b] s) (F0 m 387 ls []) := by
  obtain ⟨hx, hb, hr, hml, hown, hts0, hX, hbl, hlocks, hgv⟩ := id C0
  have hts : ∀ w ∈ wsL_law, w.before #[Value.ref b] s = true := fun w h => hts0 w (wsL_law_in w h)
  have hown : s.vm.findClass RL = some m.cls := hown
  have hI : Inv S := hJ.1
  have hA : ∀ q : Nat, s.heap.size ≤ q → (fun q : Nat => s.heap.size ≤ q) q := fun _ h => h
  have hbA : ¬ (fun q : Nat => s.heap.size ≤ q) b := Nat.not_le.mpr hbl
  have hcr : cells ≤ room_1.cells ∧ slots ≤ room_1.slots := ⟨Nat.le_trans (Nat.le_add_right _ 4) hcs.1, Nat.le_trans (Nat.le_add_right _ 56) hcs.2⟩
  refine lv_aload_n hx hb dL_law_387 rfl (lv_at hl 1 rfl) ?_
  refine lv_aload_n hx hb dL_law_388 rfl (lv_at hl 0 rfl) ?_
  refine lv_iload_n hx hb dL_law_389 rfl (lv_at hl 3 rfl) ?_
  refine lv_iconst (v := 1) hx hb dL_law_390 (by decide) ?_
  refine lv_iadd hx hb dL_law_391 ?_
  refine k_top (nI_add (5 * j) 1) ?_
  refine k_sld (k := 5 * j + 1) hx hb hX hbl hbA hS rfl (by omega) (by omega) dL_law_392 ?_
  refine kX (As := [.int (xs (5 * j + 1))]) (rest := []) (o := some (.int ((u_Rec S (xs (5 * j + 1))).1))) (S1 := (u_Rec S (xs (5 * j + 1))).2) ⟨hx, hb, hml, hown, hts⟩ (c_X1_reconnect l D cI cZ cP ad pd S (xs (5 * j + 1)) hI.1) (Rec_N _ _) (cwV 1 hts gL_law_X1_reconnect rfl rfl rfl (by decide +kernel) ⟨Nat.le_of_ble_eq_true rfl, Nat.le_of_ble_eq_true rfl⟩) hK hN hP hD hS rfl hl.1 rfl (Nat.le_of_ble_eq_true rfl) hcr dL_law_393 (fun H locs hP hD hS => ?_)
  refine lv_aload_n hx hb dL_law_396 rfl (lv_at hl 2 rfl) ?_
  refine lv_aload_n hx hb dL_law_397 rfl (lv_at hl 0 rfl) ?_
  refine lv_iload_n hx hb dL_law_398 rfl (lv_at hl 3 rfl) ?_
  refine lv_iconst (v := 1) hx hb dL_law_399 (by decide) ?_
  refine lv_iadd hx hb dL_law_400 ?_
  refine k_top (nI_add (5 * j) 1) ?_
  refine k_sld (k := 5 * j + 1) hx hb hX hbl hbA hS rfl (by omega) (by omega) dL_law_401 ?_
  refine kMo (As := [.int (xs (5 * j + 1))]) (rest := [.int ((u_Rec S (xs (5 * j + 1))).1)]) (o := some (.int ((u_Rec S (xs (5 * j + 1))).1))) (T1 := (u_Rec S (xs (5 * j + 1))).2) ⟨hx, hb, hml, hown, hts⟩ (c_X2_reconnect l D cI cZ cP md S (xs (5 * j + 1)) hI) (cwV 1 hts gL_law_X2_reconnect rfl rfl rfl (by decide +kernel) ⟨Nat.le_of_ble_eq_true rfl, Nat.le_of_ble_eq_true rfl⟩) hK hN hP hD hS rfl hl.1 rfl (Nat.le_of_ble_eq_true rfl) hcr dL_law_402 (fun H locs hP hD hS => ?_)
  refine lv_icmp_eq (tgt := 828) hx hb dL_law_405 (by decide) (fun _ => ?_) (fun c_ => absurd rfl c_)
  refine W.widen (k := cells + 4) (n := slots + 56) (Nat.le_add_right _ _) (Nat.le_add_right _ _) ?_
  exact kk ((u_Rec S (xs (5 * j + 1))).2) pd H locs (⟨inv_Rec hI _, Fx_Rec hJ.2 _⟩) hP hD hS

set_option maxRecDepth 100000 in
set_option maxHeartbeats 4000000 in
/-- the law, number 8: disconnect -/
theorem law_8 {p : Program} {l : Launch} {e : Env} {s : State} {m : MethodId} {below : List Frame} {meth : Method} {c : Code} {b L : Nat} {xs : Nat → Int32} (C0 : lw_At p s m meth c b L xs) (hL : L ≤ 2560) {D : va_G} {cI cZ cP : ClassId} {ad md : Nat → Nat} {pd : Nat → Nat → Nat} {S : ST} (hK : va_K D vwCl (kTy cI cZ cP) s) (hN : kN s) (hJ : Inv S ∧ Fx S) {H : Heap} {locs : List Loc} {cells slots : Nat} (hcs : cells + 4 ≤ 600000 ∧ slots + 56 ≤ 7302250) (hP : va_P D vwCl (xW cI cZ cP ad pd S ++ mW cI cZ md S) H) (hD : va_D (fun q : Nat => s.heap.size ≤ q) (xW cI cZ cP ad pd S ++ mW cI cZ md S)) (hS : va_S (fun q : Nat => s.heap.size ≤ q) s.heap H locs) {ls : Array Slot} {j : Nat} (hj : 5 * j + 5 ≤ L) (hl : lv_has ls 4 [(0, .ref b), (1, .ref (ad 0)), (2, .ref (md 0)), (3, .int (nI (5 * j)))])
    (kk : ∀ (S1 : ST) (pd1 : Nat → Nat → Nat) (H1 : Heap) (locs1 : List Loc), Inv S1 ∧ Fx S1 → va_P D vwCl (xW cI cZ cP ad pd1 S1 ++ mW cI cZ md S1) H1 → va_D (fun q : Nat => s.heap.size ≤ q) (xW cI cZ cP ad pd1 S1 ++ mW cI cZ md S1) → va_S (fun q : Nat => s.heap.size ≤ q) s.heap H1 locs1 → W p l e room_1 s m #[Value.ref b] below meth c H1 locs1 (cells + 4) (slots + 56) (lw_Z below #[Value.ref b] s) (F0 m 828 ls [])) : W p l e room_1 s m #[Value.ref b] below meth c H locs cells slots (lw_Z below #[Value.ref b] s) (F0 m 410 ls []) := by
  obtain ⟨hx, hb, hr, hml, hown, hts0, hX, hbl, hlocks, hgv⟩ := id C0
  have hts : ∀ w ∈ wsL_law, w.before #[Value.ref b] s = true := fun w h => hts0 w (wsL_law_in w h)
  have hown : s.vm.findClass RL = some m.cls := hown
  have hI : Inv S := hJ.1
  have hA : ∀ q : Nat, s.heap.size ≤ q → (fun q : Nat => s.heap.size ≤ q) q := fun _ h => h
  have hbA : ¬ (fun q : Nat => s.heap.size ≤ q) b := Nat.not_le.mpr hbl
  have hcr : cells ≤ room_1.cells ∧ slots ≤ room_1.slots := ⟨Nat.le_trans (Nat.le_add_right _ 4) hcs.1, Nat.le_trans (Nat.le_add_right _ 56) hcs.2⟩
  refine lv_aload_n hx hb dL_law_410 rfl (lv_at hl 1 rfl) ?_
  refine lv_aload_n hx hb dL_law_411 rfl (lv_at hl 0 rfl) ?_
  refine lv_iload_n hx hb dL_law_412 rfl (lv_at hl 3 rfl) ?_
  refine lv_iconst (v := 1) hx hb dL_law_413 (by decide) ?_
  refine lv_iadd hx hb dL_law_414 ?_
  refine k_top (nI_add (5 * j) 1) ?_
  refine k_sld (k := 5 * j + 1) hx hb hX hbl hbA hS rfl (by omega) (by omega) dL_law_415 ?_
  refine kX (As := [.int (xs (5 * j + 1))]) (rest := []) (o := some (.int ((u_Dis S (xs (5 * j + 1))).1))) (S1 := (u_Dis S (xs (5 * j + 1))).2) ⟨hx, hb, hml, hown, hts⟩ (c_X1_disconnect l D cI cZ cP ad pd S (xs (5 * j + 1)) hI.1) (Dis_N _ _) (cwV 1 hts gL_law_X1_disconnect rfl rfl rfl (by decide +kernel) ⟨Nat.le_of_ble_eq_true rfl, Nat.le_of_ble_eq_true rfl⟩) hK hN hP hD hS rfl hl.1 rfl (Nat.le_of_ble_eq_true rfl) hcr dL_law_416 (fun H locs hP hD hS => ?_)
  refine lv_aload_n hx hb dL_law_419 rfl (lv_at hl 2 rfl) ?_
  refine lv_aload_n hx hb dL_law_420 rfl (lv_at hl 0 rfl) ?_
  refine lv_iload_n hx hb dL_law_421 rfl (lv_at hl 3 rfl) ?_
  refine lv_iconst (v := 1) hx hb dL_law_422 (by decide) ?_
  refine lv_iadd hx hb dL_law_423 ?_
  refine k_top (nI_add (5 * j) 1) ?_
  refine k_sld (k := 5 * j + 1) hx hb hX hbl hbA hS rfl (by omega) (by omega) dL_law_424 ?_
  refine kMo (As := [.int (xs (5 * j + 1))]) (rest := [.int ((u_Dis S (xs (5 * j + 1))).1)]) (o := some (.int ((u_Dis S (xs (5 * j + 1))).1))) (T1 := (u_Dis S (xs (5 * j + 1))).2) ⟨hx, hb, hml, hown, hts⟩ (c_X2_disconnect l D cI cZ cP md S (xs (5 * j + 1)) hI) (cwV 1 hts gL_law_X2_disconnect rfl rfl rfl (by decide +kernel) ⟨Nat.le_of_ble_eq_true rfl, Nat.le_of_ble_eq_true rfl⟩) hK hN hP hD hS rfl hl.1 rfl (Nat.le_of_ble_eq_true rfl) hcr dL_law_425 (fun H locs hP hD hS => ?_)
  refine lv_icmp_eq (tgt := 828) hx hb dL_law_428 (by decide) (fun _ => ?_) (fun c_ => absurd rfl c_)
  refine W.widen (k := cells + 4) (n := slots + 56) (Nat.le_add_right _ _) (Nat.le_add_right _ _) ?_
  exact kk ((u_Dis S (xs (5 * j + 1))).2) pd H locs (⟨inv_Dis hI _, Fx_Dis hJ.2 _⟩) hP hD hS

set_option maxRecDepth 100000 in
set_option maxHeartbeats 4000000 in
/-- the law, number 9: endOfTable -/
theorem law_9 {p : Program} {l : Launch} {e : Env} {s : State} {m : MethodId} {below : List Frame} {meth : Method} {c : Code} {b L : Nat} {xs : Nat → Int32} (C0 : lw_At p s m meth c b L xs) (hL : L ≤ 2560) {D : va_G} {cI cZ cP : ClassId} {ad md : Nat → Nat} {pd : Nat → Nat → Nat} {S : ST} (hK : va_K D vwCl (kTy cI cZ cP) s) (hN : kN s) (hJ : Inv S ∧ Fx S) {H : Heap} {locs : List Loc} {cells slots : Nat} (hcs : cells + 4 ≤ 600000 ∧ slots + 56 ≤ 7302250) (hP : va_P D vwCl (xW cI cZ cP ad pd S ++ mW cI cZ md S) H) (hD : va_D (fun q : Nat => s.heap.size ≤ q) (xW cI cZ cP ad pd S ++ mW cI cZ md S)) (hS : va_S (fun q : Nat => s.heap.size ≤ q) s.heap H locs) {ls : Array Slot} {j : Nat} (hj : 5 * j + 5 ≤ L) (hl : lv_has ls 4 [(0, .ref b), (1, .ref (ad 0)), (2, .ref (md 0)), (3, .int (nI (5 * j)))])
    (kk : ∀ (S1 : ST) (pd1 : Nat → Nat → Nat) (H1 : Heap) (locs1 : List Loc), Inv S1 ∧ Fx S1 → va_P D vwCl (xW cI cZ cP ad pd1 S1 ++ mW cI cZ md S1) H1 → va_D (fun q : Nat => s.heap.size ≤ q) (xW cI cZ cP ad pd1 S1 ++ mW cI cZ md S1) → va_S (fun q : Nat => s.heap.size ≤ q) s.heap H1 locs1 → W p l e room_1 s m #[Value.ref b] below meth c H1 locs1 (cells + 4) (slots + 56) (lw_Z below #[Value.ref b] s) (F0 m 828 ls [])) : W p l e room_1 s m #[Value.ref b] below meth c H locs cells slots (lw_Z below #[Value.ref b] s) (F0 m 433 ls []) := by
  obtain ⟨hx, hb, hr, hml, hown, hts0, hX, hbl, hlocks, hgv⟩ := id C0
  have hts : ∀ w ∈ wsL_law, w.before #[Value.ref b] s = true := fun w h => hts0 w (wsL_law_in w h)
  have hown : s.vm.findClass RL = some m.cls := hown
  have hI : Inv S := hJ.1
  have hA : ∀ q : Nat, s.heap.size ≤ q → (fun q : Nat => s.heap.size ≤ q) q := fun _ h => h
  have hbA : ¬ (fun q : Nat => s.heap.size ≤ q) b := Nat.not_le.mpr hbl
  have hcr : cells ≤ room_1.cells ∧ slots ≤ room_1.slots := ⟨Nat.le_trans (Nat.le_add_right _ 4) hcs.1, Nat.le_trans (Nat.le_add_right _ 56) hcs.2⟩
  refine lv_aload_n hx hb dL_law_433 rfl (lv_at hl 1 rfl) ?_
  refine lv_aload_n hx hb dL_law_434 rfl (lv_at hl 0 rfl) ?_
  refine lv_iload_n hx hb dL_law_435 rfl (lv_at hl 3 rfl) ?_
  refine lv_iconst (v := 1) hx hb dL_law_436 (by decide) ?_
  refine lv_iadd hx hb dL_law_437 ?_
  refine k_top (nI_add (5 * j) 1) ?_
  refine k_sld (k := 5 * j + 1) hx hb hX hbl hbA hS rfl (by omega) (by omega) dL_law_438 ?_
  refine lv_aload_n hx hb dL_law_439 rfl (lv_at hl 0 rfl) ?_
  refine lv_iload_n hx hb dL_law_440 rfl (lv_at hl 3 rfl) ?_
  refine lv_iconst (v := 2) hx hb dL_law_441 (by decide) ?_
  refine lv_iadd hx hb dL_law_442 ?_
  refine k_top (nI_add (5 * j) 2) ?_
  refine k_sld (k := 5 * j + 2) hx hb hX hbl hbA hS rfl (by omega) (by omega) dL_law_443 ?_
  refine kX (As := [.int (xs (5 * j + 1)), .int (xs (5 * j + 2))]) (rest := []) (o := some (.int ((u_Eot S (xs (5 * j + 1)) (xs (5 * j + 2))).1))) (S1 := (u_Eot S (xs (5 * j + 1)) (xs (5 * j + 2))).2) ⟨hx, hb, hml, hown, hts⟩ (c_X1_endOfTable l D cI cZ cP ad pd S (xs (5 * j + 1)) (xs (5 * j + 2)) hI.1 (Fx_chk hJ.2)) (Eot_N _ _ _) (cwV 2 hts gL_law_X1_endOfTable rfl rfl rfl (by decide +kernel) ⟨Nat.le_of_ble_eq_true rfl, Nat.le_of_ble_eq_true rfl⟩) hK hN hP hD hS rfl hl.1 rfl (Nat.le_of_ble_eq_true rfl) hcr dL_law_444 (fun H locs hP hD hS => ?_)
  refine lv_aload_n hx hb dL_law_447 rfl (lv_at hl 2 rfl) ?_
  refine lv_aload_n hx hb dL_law_448 rfl (lv_at hl 0 rfl) ?_
  refine lv_iload_n hx hb dL_law_449 rfl (lv_at hl 3 rfl) ?_
  refine lv_iconst (v := 1) hx hb dL_law_450 (by decide) ?_
  refine lv_iadd hx hb dL_law_451 ?_
  refine k_top (nI_add (5 * j) 1) ?_
  refine k_sld (k := 5 * j + 1) hx hb hX hbl hbA hS rfl (by omega) (by omega) dL_law_452 ?_
  refine lv_aload_n hx hb dL_law_453 rfl (lv_at hl 0 rfl) ?_
  refine lv_iload_n hx hb dL_law_454 rfl (lv_at hl 3 rfl) ?_
  refine lv_iconst (v := 2) hx hb dL_law_455 (by decide) ?_
  refine lv_iadd hx hb dL_law_456 ?_
  refine k_top (nI_add (5 * j) 2) ?_
  refine k_sld (k := 5 * j + 2) hx hb hX hbl hbA hS rfl (by omega) (by omega) dL_law_457 ?_
  refine kMo (As := [.int (xs (5 * j + 1)), .int (xs (5 * j + 2))]) (rest := [.int ((u_Eot S (xs (5 * j + 1)) (xs (5 * j + 2))).1)]) (o := some (.int ((u_Eot S (xs (5 * j + 1)) (xs (5 * j + 2))).1))) (T1 := (u_Eot S (xs (5 * j + 1)) (xs (5 * j + 2))).2) ⟨hx, hb, hml, hown, hts⟩ (c_X2_endOfTable l D cI cZ cP md S (xs (5 * j + 1)) (xs (5 * j + 2)) hI) (cwV 2 hts gL_law_X2_endOfTable rfl rfl rfl (by decide +kernel) ⟨Nat.le_of_ble_eq_true rfl, Nat.le_of_ble_eq_true rfl⟩) hK hN hP hD hS rfl hl.1 rfl (Nat.le_of_ble_eq_true rfl) hcr dL_law_458 (fun H locs hP hD hS => ?_)
  refine lv_icmp_eq (tgt := 828) hx hb dL_law_461 (by decide) (fun _ => ?_) (fun c_ => absurd rfl c_)
  refine W.widen (k := cells + 4) (n := slots + 56) (Nat.le_add_right _ _) (Nat.le_add_right _ _) ?_
  exact kk ((u_Eot S (xs (5 * j + 1)) (xs (5 * j + 2))).2) pd H locs (⟨inv_Eot hI _ _, Fx_Eot hJ.2 _ _⟩) hP hD hS

set_option maxRecDepth 100000 in
set_option maxHeartbeats 4000000 in
/-- the law, number 10: tick -/
theorem law_10 {p : Program} {l : Launch} {e : Env} {s : State} {m : MethodId} {below : List Frame} {meth : Method} {c : Code} {b L : Nat} {xs : Nat → Int32} (C0 : lw_At p s m meth c b L xs) (hL : L ≤ 2560) {D : va_G} {cI cZ cP : ClassId} {ad md : Nat → Nat} {pd : Nat → Nat → Nat} {S : ST} (hK : va_K D vwCl (kTy cI cZ cP) s) (hN : kN s) (hJ : Inv S ∧ Fx S) {H : Heap} {locs : List Loc} {cells slots : Nat} (hcs : cells + 4 ≤ 600000 ∧ slots + 56 ≤ 7302250) (hP : va_P D vwCl (xW cI cZ cP ad pd S ++ mW cI cZ md S) H) (hD : va_D (fun q : Nat => s.heap.size ≤ q) (xW cI cZ cP ad pd S ++ mW cI cZ md S)) (hS : va_S (fun q : Nat => s.heap.size ≤ q) s.heap H locs) {ls : Array Slot} {j : Nat} (hj : 5 * j + 5 ≤ L) (hl : lv_has ls 4 [(0, .ref b), (1, .ref (ad 0)), (2, .ref (md 0)), (3, .int (nI (5 * j)))])
    (kk : ∀ (S1 : ST) (pd1 : Nat → Nat → Nat) (H1 : Heap) (locs1 : List Loc), Inv S1 ∧ Fx S1 → va_P D vwCl (xW cI cZ cP ad pd1 S1 ++ mW cI cZ md S1) H1 → va_D (fun q : Nat => s.heap.size ≤ q) (xW cI cZ cP ad pd1 S1 ++ mW cI cZ md S1) → va_S (fun q : Nat => s.heap.size ≤ q) s.heap H1 locs1 → W p l e room_1 s m #[Value.ref b] below meth c H1 locs1 (cells + 4) (slots + 56) (lw_Z below #[Value.ref b] s) (F0 m 828 ls [])) : W p l e room_1 s m #[Value.ref b] below meth c H locs cells slots (lw_Z below #[Value.ref b] s) (F0 m 466 ls []) := by
  obtain ⟨hx, hb, hr, hml, hown, hts0, hX, hbl, hlocks, hgv⟩ := id C0
  have hts : ∀ w ∈ wsL_law, w.before #[Value.ref b] s = true := fun w h => hts0 w (wsL_law_in w h)
  have hown : s.vm.findClass RL = some m.cls := hown
  have hI : Inv S := hJ.1
  have hA : ∀ q : Nat, s.heap.size ≤ q → (fun q : Nat => s.heap.size ≤ q) q := fun _ h => h
  have hbA : ¬ (fun q : Nat => s.heap.size ≤ q) b := Nat.not_le.mpr hbl
  have hcr : cells ≤ room_1.cells ∧ slots ≤ room_1.slots := ⟨Nat.le_trans (Nat.le_add_right _ 4) hcs.1, Nat.le_trans (Nat.le_add_right _ 56) hcs.2⟩
  refine lv_aload_n hx hb dL_law_466 rfl (lv_at hl 1 rfl) ?_
  refine lv_aload_n hx hb dL_law_467 rfl (lv_at hl 0 rfl) ?_
  refine lv_iload_n hx hb dL_law_468 rfl (lv_at hl 3 rfl) ?_
  refine lv_iconst (v := 1) hx hb dL_law_469 (by decide) ?_
  refine lv_iadd hx hb dL_law_470 ?_
  refine k_top (nI_add (5 * j) 1) ?_
  refine k_sld (k := 5 * j + 1) hx hb hX hbl hbA hS rfl (by omega) (by omega) dL_law_471 ?_
  refine kX (As := [.int (xs (5 * j + 1))]) (rest := []) (o := some (.int ((u_Tick S (xs (5 * j + 1))).1))) (S1 := (u_Tick S (xs (5 * j + 1))).2) ⟨hx, hb, hml, hown, hts⟩ (c_X1_tick l D cI cZ cP ad pd S (xs (5 * j + 1)) hI.1) (Tick_N _ _) (cwV 1 hts gL_law_X1_tick rfl rfl rfl (by decide +kernel) ⟨Nat.le_of_ble_eq_true rfl, Nat.le_of_ble_eq_true rfl⟩) hK hN hP hD hS rfl hl.1 rfl (Nat.le_of_ble_eq_true rfl) hcr dL_law_472 (fun H locs hP hD hS => ?_)
  refine lv_aload_n hx hb dL_law_475 rfl (lv_at hl 2 rfl) ?_
  refine lv_aload_n hx hb dL_law_476 rfl (lv_at hl 0 rfl) ?_
  refine lv_iload_n hx hb dL_law_477 rfl (lv_at hl 3 rfl) ?_
  refine lv_iconst (v := 1) hx hb dL_law_478 (by decide) ?_
  refine lv_iadd hx hb dL_law_479 ?_
  refine k_top (nI_add (5 * j) 1) ?_
  refine k_sld (k := 5 * j + 1) hx hb hX hbl hbA hS rfl (by omega) (by omega) dL_law_480 ?_
  refine kMo (As := [.int (xs (5 * j + 1))]) (rest := [.int ((u_Tick S (xs (5 * j + 1))).1)]) (o := some (.int ((u_Tick S (xs (5 * j + 1))).1))) (T1 := (u_Tick S (xs (5 * j + 1))).2) ⟨hx, hb, hml, hown, hts⟩ (c_X2_tick l D cI cZ cP md S (xs (5 * j + 1)) hI) (cwV 1 hts gL_law_X2_tick rfl rfl rfl (by decide +kernel) ⟨Nat.le_of_ble_eq_true rfl, Nat.le_of_ble_eq_true rfl⟩) hK hN hP hD hS rfl hl.1 rfl (Nat.le_of_ble_eq_true rfl) hcr dL_law_481 (fun H locs hP hD hS => ?_)
  refine lv_icmp_eq (tgt := 828) hx hb dL_law_484 (by decide) (fun _ => ?_) (fun c_ => absurd rfl c_)
  refine W.widen (k := cells + 4) (n := slots + 56) (Nat.le_add_right _ _) (Nat.le_add_right _ _) ?_
  exact kk ((u_Tick S (xs (5 * j + 1))).2) pd H locs (⟨inv_Tick hI _, Fx_Tick hJ.2 _⟩) hP hD hS

set_option maxRecDepth 100000 in
set_option maxHeartbeats 4000000 in
/-- the law, number 11: isDeferring -/
theorem law_11 {p : Program} {l : Launch} {e : Env} {s : State} {m : MethodId} {below : List Frame} {meth : Method} {c : Code} {b L : Nat} {xs : Nat → Int32} (C0 : lw_At p s m meth c b L xs) (hL : L ≤ 2560) {D : va_G} {cI cZ cP : ClassId} {ad md : Nat → Nat} {pd : Nat → Nat → Nat} {S : ST} (hK : va_K D vwCl (kTy cI cZ cP) s) (hN : kN s) (hJ : Inv S ∧ Fx S) {H : Heap} {locs : List Loc} {cells slots : Nat} (hcs : cells + 4 ≤ 600000 ∧ slots + 56 ≤ 7302250) (hP : va_P D vwCl (xW cI cZ cP ad pd S ++ mW cI cZ md S) H) (hD : va_D (fun q : Nat => s.heap.size ≤ q) (xW cI cZ cP ad pd S ++ mW cI cZ md S)) (hS : va_S (fun q : Nat => s.heap.size ≤ q) s.heap H locs) {ls : Array Slot} {j : Nat} (hj : 5 * j + 5 ≤ L) (hl : lv_has ls 4 [(0, .ref b), (1, .ref (ad 0)), (2, .ref (md 0)), (3, .int (nI (5 * j)))])
    (kk : ∀ (S1 : ST) (pd1 : Nat → Nat → Nat) (H1 : Heap) (locs1 : List Loc), Inv S1 ∧ Fx S1 → va_P D vwCl (xW cI cZ cP ad pd1 S1 ++ mW cI cZ md S1) H1 → va_D (fun q : Nat => s.heap.size ≤ q) (xW cI cZ cP ad pd1 S1 ++ mW cI cZ md S1) → va_S (fun q : Nat => s.heap.size ≤ q) s.heap H1 locs1 → W p l e room_1 s m #[Value.ref b] below meth c H1 locs1 (cells + 4) (slots + 56) (lw_Z below #[Value.ref b] s) (F0 m 828 ls [])) : W p l e room_1 s m #[Value.ref b] below meth c H locs cells slots (lw_Z below #[Value.ref b] s) (F0 m 489 ls []) := by
  obtain ⟨hx, hb, hr, hml, hown, hts0, hX, hbl, hlocks, hgv⟩ := id C0
  have hts : ∀ w ∈ wsL_law, w.before #[Value.ref b] s = true := fun w h => hts0 w (wsL_law_in w h)
  have hown : s.vm.findClass RL = some m.cls := hown
  have hI : Inv S := hJ.1
  have hA : ∀ q : Nat, s.heap.size ≤ q → (fun q : Nat => s.heap.size ≤ q) q := fun _ h => h
  have hbA : ¬ (fun q : Nat => s.heap.size ≤ q) b := Nat.not_le.mpr hbl
  have hcr : cells ≤ room_1.cells ∧ slots ≤ room_1.slots := ⟨Nat.le_trans (Nat.le_add_right _ 4) hcs.1, Nat.le_trans (Nat.le_add_right _ 56) hcs.2⟩
  refine lv_aload_n hx hb dL_law_489 rfl (lv_at hl 1 rfl) ?_
  refine kX (As := []) (rest := []) (o := some (.int (if g_Df S = 0 then 0 else 1))) (S1 := S) ⟨hx, hb, hml, hown, hts⟩ (c_X1_isDeferring l D cI cZ cP ad pd S  ) (rfl) (cwV 0 hts gL_law_X1_isDeferring rfl rfl rfl (by decide +kernel) ⟨Nat.le_of_ble_eq_true rfl, Nat.le_of_ble_eq_true rfl⟩) hK hN hP hD hS rfl hl.1 rfl (Nat.le_of_ble_eq_true rfl) hcr dL_law_490 (fun H locs hP hD hS => ?_)
  refine lv_aload_n hx hb dL_law_493 rfl (lv_at hl 2 rfl) ?_
  refine kMo (As := []) (rest := [.int (if g_Df S = 0 then 0 else 1)]) (o := some (.int (if g_Df S = 0 then 0 else 1))) (T1 := S) ⟨hx, hb, hml, hown, hts⟩ (c_X2_isDeferring l D cI cZ cP md S  ) (cwV 0 hts gL_law_X2_isDeferring rfl rfl rfl (by decide +kernel) ⟨Nat.le_of_ble_eq_true rfl, Nat.le_of_ble_eq_true rfl⟩) hK hN hP hD hS rfl hl.1 rfl (Nat.le_of_ble_eq_true rfl) hcr dL_law_494 (fun H locs hP hD hS => ?_)
  refine lv_icmp_eq (tgt := 828) hx hb dL_law_497 (by decide) (fun _ => ?_) (fun c_ => absurd rfl c_)
  refine W.widen (k := cells + 4) (n := slots + 56) (Nat.le_add_right _ _) (Nat.le_add_right _ _) ?_
  exact kk (S) pd H locs (hJ) hP hD hS

set_option maxRecDepth 100000 in
set_option maxHeartbeats 4000000 in
/-- the law, number 12: deferralTimer -/
theorem law_12 {p : Program} {l : Launch} {e : Env} {s : State} {m : MethodId} {below : List Frame} {meth : Method} {c : Code} {b L : Nat} {xs : Nat → Int32} (C0 : lw_At p s m meth c b L xs) (hL : L ≤ 2560) {D : va_G} {cI cZ cP : ClassId} {ad md : Nat → Nat} {pd : Nat → Nat → Nat} {S : ST} (hK : va_K D vwCl (kTy cI cZ cP) s) (hN : kN s) (hJ : Inv S ∧ Fx S) {H : Heap} {locs : List Loc} {cells slots : Nat} (hcs : cells + 4 ≤ 600000 ∧ slots + 56 ≤ 7302250) (hP : va_P D vwCl (xW cI cZ cP ad pd S ++ mW cI cZ md S) H) (hD : va_D (fun q : Nat => s.heap.size ≤ q) (xW cI cZ cP ad pd S ++ mW cI cZ md S)) (hS : va_S (fun q : Nat => s.heap.size ≤ q) s.heap H locs) {ls : Array Slot} {j : Nat} (hj : 5 * j + 5 ≤ L) (hl : lv_has ls 4 [(0, .ref b), (1, .ref (ad 0)), (2, .ref (md 0)), (3, .int (nI (5 * j)))])
    (kk : ∀ (S1 : ST) (pd1 : Nat → Nat → Nat) (H1 : Heap) (locs1 : List Loc), Inv S1 ∧ Fx S1 → va_P D vwCl (xW cI cZ cP ad pd1 S1 ++ mW cI cZ md S1) H1 → va_D (fun q : Nat => s.heap.size ≤ q) (xW cI cZ cP ad pd1 S1 ++ mW cI cZ md S1) → va_S (fun q : Nat => s.heap.size ≤ q) s.heap H1 locs1 → W p l e room_1 s m #[Value.ref b] below meth c H1 locs1 (cells + 4) (slots + 56) (lw_Z below #[Value.ref b] s) (F0 m 828 ls [])) : W p l e room_1 s m #[Value.ref b] below meth c H locs cells slots (lw_Z below #[Value.ref b] s) (F0 m 502 ls []) := by
  obtain ⟨hx, hb, hr, hml, hown, hts0, hX, hbl, hlocks, hgv⟩ := id C0
  have hts : ∀ w ∈ wsL_law, w.before #[Value.ref b] s = true := fun w h => hts0 w (wsL_law_in w h)
  have hown : s.vm.findClass RL = some m.cls := hown
  have hI : Inv S := hJ.1
  have hA : ∀ q : Nat, s.heap.size ≤ q → (fun q : Nat => s.heap.size ≤ q) q := fun _ h => h
  have hbA : ¬ (fun q : Nat => s.heap.size ≤ q) b := Nat.not_le.mpr hbl
  have hcr : cells ≤ room_1.cells ∧ slots ≤ room_1.slots := ⟨Nat.le_trans (Nat.le_add_right _ 4) hcs.1, Nat.le_trans (Nat.le_add_right _ 56) hcs.2⟩
  refine lv_aload_n hx hb dL_law_502 rfl (lv_at hl 1 rfl) ?_
  refine kX (As := []) (rest := []) (o := some (.int (g_Dl S))) (S1 := S) ⟨hx, hb, hml, hown, hts⟩ (c_X1_deferralTimer l D cI cZ cP ad pd S  ) (rfl) (cwV 0 hts gL_law_X1_deferralTimer rfl rfl rfl (by decide +kernel) ⟨Nat.le_of_ble_eq_true rfl, Nat.le_of_ble_eq_true rfl⟩) hK hN hP hD hS rfl hl.1 rfl (Nat.le_of_ble_eq_true rfl) hcr dL_law_503 (fun H locs hP hD hS => ?_)
  refine lv_aload_n hx hb dL_law_506 rfl (lv_at hl 2 rfl) ?_
  refine kMo (As := []) (rest := [.int (g_Dl S)]) (o := some (.int (g_Dl S))) (T1 := S) ⟨hx, hb, hml, hown, hts⟩ (c_X2_deferralTimer l D cI cZ cP md S  ) (cwV 0 hts gL_law_X2_deferralTimer rfl rfl rfl (by decide +kernel) ⟨Nat.le_of_ble_eq_true rfl, Nat.le_of_ble_eq_true rfl⟩) hK hN hP hD hS rfl hl.1 rfl (Nat.le_of_ble_eq_true rfl) hcr dL_law_507 (fun H locs hP hD hS => ?_)
  refine lv_icmp_eq (tgt := 828) hx hb dL_law_510 (by decide) (fun _ => ?_) (fun c_ => absurd rfl c_)
  refine W.widen (k := cells + 4) (n := slots + 56) (Nat.le_add_right _ _) (Nat.le_add_right _ _) ?_
  exact kk (S) pd H locs (hJ) hP hD hS

set_option maxRecDepth 100000 in
set_option maxHeartbeats 4000000 in
/-- the law, number 13: waitingPeers -/
theorem law_13 {p : Program} {l : Launch} {e : Env} {s : State} {m : MethodId} {below : List Frame} {meth : Method} {c : Code} {b L : Nat} {xs : Nat → Int32} (C0 : lw_At p s m meth c b L xs) (hL : L ≤ 2560) {D : va_G} {cI cZ cP : ClassId} {ad md : Nat → Nat} {pd : Nat → Nat → Nat} {S : ST} (hK : va_K D vwCl (kTy cI cZ cP) s) (hN : kN s) (hJ : Inv S ∧ Fx S) {H : Heap} {locs : List Loc} {cells slots : Nat} (hcs : cells + 4 ≤ 600000 ∧ slots + 56 ≤ 7302250) (hP : va_P D vwCl (xW cI cZ cP ad pd S ++ mW cI cZ md S) H) (hD : va_D (fun q : Nat => s.heap.size ≤ q) (xW cI cZ cP ad pd S ++ mW cI cZ md S)) (hS : va_S (fun q : Nat => s.heap.size ≤ q) s.heap H locs) {ls : Array Slot} {j : Nat} (hj : 5 * j + 5 ≤ L) (hl : lv_has ls 4 [(0, .ref b), (1, .ref (ad 0)), (2, .ref (md 0)), (3, .int (nI (5 * j)))])
    (kk : ∀ (S1 : ST) (pd1 : Nat → Nat → Nat) (H1 : Heap) (locs1 : List Loc), Inv S1 ∧ Fx S1 → va_P D vwCl (xW cI cZ cP ad pd1 S1 ++ mW cI cZ md S1) H1 → va_D (fun q : Nat => s.heap.size ≤ q) (xW cI cZ cP ad pd1 S1 ++ mW cI cZ md S1) → va_S (fun q : Nat => s.heap.size ≤ q) s.heap H1 locs1 → W p l e room_1 s m #[Value.ref b] below meth c H1 locs1 (cells + 4) (slots + 56) (lw_Z below #[Value.ref b] s) (F0 m 828 ls [])) : W p l e room_1 s m #[Value.ref b] below meth c H locs cells slots (lw_Z below #[Value.ref b] s) (F0 m 515 ls []) := by
  obtain ⟨hx, hb, hr, hml, hown, hts0, hX, hbl, hlocks, hgv⟩ := id C0
  have hts : ∀ w ∈ wsL_law, w.before #[Value.ref b] s = true := fun w h => hts0 w (wsL_law_in w h)
  have hown : s.vm.findClass RL = some m.cls := hown
  have hI : Inv S := hJ.1
  have hA : ∀ q : Nat, s.heap.size ≤ q → (fun q : Nat => s.heap.size ≤ q) q := fun _ h => h
  have hbA : ¬ (fun q : Nat => s.heap.size ≤ q) b := Nat.not_le.mpr hbl
  have hcr : cells ≤ room_1.cells ∧ slots ≤ room_1.slots := ⟨Nat.le_trans (Nat.le_add_right _ 4) hcs.1, Nat.le_trans (Nat.le_add_right _ 56) hcs.2⟩
  refine lv_aload_n hx hb dL_law_515 rfl (lv_at hl 1 rfl) ?_
  refine kX (As := []) (rest := []) (o := some (.int (if g_Df S = 0 then 0 else o_Wt S (g_N S)))) (S1 := S) ⟨hx, hb, hml, hown, hts⟩ (c_X1_waitingPeers l D cI cZ cP ad pd S  hI.1) (rfl) (cwV 0 hts gL_law_X1_waitingPeers rfl rfl rfl (by decide +kernel) ⟨Nat.le_of_ble_eq_true rfl, Nat.le_of_ble_eq_true rfl⟩) hK hN hP hD hS rfl hl.1 rfl (Nat.le_of_ble_eq_true rfl) hcr dL_law_516 (fun H locs hP hD hS => ?_)
  refine lv_aload_n hx hb dL_law_519 rfl (lv_at hl 2 rfl) ?_
  refine kMo (As := []) (rest := [.int (if g_Df S = 0 then 0 else o_Wt S (g_N S))]) (o := some (.int (if g_Df S = 0 then 0 else o_Wt S (g_N S)))) (T1 := S) ⟨hx, hb, hml, hown, hts⟩ (c_X2_waitingPeers l D cI cZ cP md S  hI.1) (cwV 0 hts gL_law_X2_waitingPeers rfl rfl rfl (by decide +kernel) ⟨Nat.le_of_ble_eq_true rfl, Nat.le_of_ble_eq_true rfl⟩) hK hN hP hD hS rfl hl.1 rfl (Nat.le_of_ble_eq_true rfl) hcr dL_law_520 (fun H locs hP hD hS => ?_)
  refine lv_icmp_eq (tgt := 828) hx hb dL_law_523 (by decide) (fun _ => ?_) (fun c_ => absurd rfl c_)
  refine W.widen (k := cells + 4) (n := slots + 56) (Nat.le_add_right _ _) (Nat.le_add_right _ _) ?_
  exact kk (S) pd H locs (hJ) hP hD hS

set_option maxRecDepth 100000 in
set_option maxHeartbeats 4000000 in
/-- the law, number 14: nextHop -/
theorem law_14 {p : Program} {l : Launch} {e : Env} {s : State} {m : MethodId} {below : List Frame} {meth : Method} {c : Code} {b L : Nat} {xs : Nat → Int32} (C0 : lw_At p s m meth c b L xs) (hL : L ≤ 2560) {D : va_G} {cI cZ cP : ClassId} {ad md : Nat → Nat} {pd : Nat → Nat → Nat} {S : ST} (hK : va_K D vwCl (kTy cI cZ cP) s) (hN : kN s) (hJ : Inv S ∧ Fx S) {H : Heap} {locs : List Loc} {cells slots : Nat} (hcs : cells + 4 ≤ 600000 ∧ slots + 56 ≤ 7302250) (hP : va_P D vwCl (xW cI cZ cP ad pd S ++ mW cI cZ md S) H) (hD : va_D (fun q : Nat => s.heap.size ≤ q) (xW cI cZ cP ad pd S ++ mW cI cZ md S)) (hS : va_S (fun q : Nat => s.heap.size ≤ q) s.heap H locs) {ls : Array Slot} {j : Nat} (hj : 5 * j + 5 ≤ L) (hl : lv_has ls 4 [(0, .ref b), (1, .ref (ad 0)), (2, .ref (md 0)), (3, .int (nI (5 * j)))])
    (kk : ∀ (S1 : ST) (pd1 : Nat → Nat → Nat) (H1 : Heap) (locs1 : List Loc), Inv S1 ∧ Fx S1 → va_P D vwCl (xW cI cZ cP ad pd1 S1 ++ mW cI cZ md S1) H1 → va_D (fun q : Nat => s.heap.size ≤ q) (xW cI cZ cP ad pd1 S1 ++ mW cI cZ md S1) → va_S (fun q : Nat => s.heap.size ≤ q) s.heap H1 locs1 → W p l e room_1 s m #[Value.ref b] below meth c H1 locs1 (cells + 4) (slots + 56) (lw_Z below #[Value.ref b] s) (F0 m 828 ls [])) : W p l e room_1 s m #[Value.ref b] below meth c H locs cells slots (lw_Z below #[Value.ref b] s) (F0 m 528 ls []) := by
  obtain ⟨hx, hb, hr, hml, hown, hts0, hX, hbl, hlocks, hgv⟩ := id C0
  have hts : ∀ w ∈ wsL_law, w.before #[Value.ref b] s = true := fun w h => hts0 w (wsL_law_in w h)
  have hown : s.vm.findClass RL = some m.cls := hown
  have hI : Inv S := hJ.1
  have hA : ∀ q : Nat, s.heap.size ≤ q → (fun q : Nat => s.heap.size ≤ q) q := fun _ h => h
  have hbA : ¬ (fun q : Nat => s.heap.size ≤ q) b := Nat.not_le.mpr hbl
  have hcr : cells ≤ room_1.cells ∧ slots ≤ room_1.slots := ⟨Nat.le_trans (Nat.le_add_right _ 4) hcs.1, Nat.le_trans (Nat.le_add_right _ 56) hcs.2⟩
  refine lv_aload_n hx hb dL_law_528 rfl (lv_at hl 1 rfl) ?_
  refine lv_aload_n hx hb dL_law_529 rfl (lv_at hl 0 rfl) ?_
  refine lv_iload_n hx hb dL_law_530 rfl (lv_at hl 3 rfl) ?_
  refine lv_iconst (v := 1) hx hb dL_law_531 (by decide) ?_
  refine lv_iadd hx hb dL_law_532 ?_
  refine k_top (nI_add (5 * j) 1) ?_
  refine k_sld (k := 5 * j + 1) hx hb hX hbl hbA hS rfl (by omega) (by omega) dL_law_533 ?_
  refine lv_aload_n hx hb dL_law_534 rfl (lv_at hl 0 rfl) ?_
  refine lv_iload_n hx hb dL_law_535 rfl (lv_at hl 3 rfl) ?_
  refine lv_iconst (v := 2) hx hb dL_law_536 (by decide) ?_
  refine lv_iadd hx hb dL_law_537 ?_
  refine k_top (nI_add (5 * j) 2) ?_
  refine k_sld (k := 5 * j + 2) hx hb hX hbl hbA hS rfl (by omega) (by omega) dL_law_538 ?_
  refine kX (As := [.int (xs (5 * j + 1)), .int (xs (5 * j + 2))]) (rest := []) (o := some (.int (if okR (xs (5 * j + 1)) (xs (5 * j + 2)) then g_Ho S (rx (xs (5 * j + 1)) (xs (5 * j + 2))) else -2))) (S1 := S) ⟨hx, hb, hml, hown, hts⟩ (c_X1_nextHop l D cI cZ cP ad pd S (xs (5 * j + 1)) (xs (5 * j + 2)) ) (rfl) (cwV 2 hts gL_law_X1_nextHop rfl rfl rfl (by decide +kernel) ⟨Nat.le_of_ble_eq_true rfl, Nat.le_of_ble_eq_true rfl⟩) hK hN hP hD hS rfl hl.1 rfl (Nat.le_of_ble_eq_true rfl) hcr dL_law_539 (fun H locs hP hD hS => ?_)
  refine lv_aload_n hx hb dL_law_542 rfl (lv_at hl 2 rfl) ?_
  refine lv_aload_n hx hb dL_law_543 rfl (lv_at hl 0 rfl) ?_
  refine lv_iload_n hx hb dL_law_544 rfl (lv_at hl 3 rfl) ?_
  refine lv_iconst (v := 1) hx hb dL_law_545 (by decide) ?_
  refine lv_iadd hx hb dL_law_546 ?_
  refine k_top (nI_add (5 * j) 1) ?_
  refine k_sld (k := 5 * j + 1) hx hb hX hbl hbA hS rfl (by omega) (by omega) dL_law_547 ?_
  refine lv_aload_n hx hb dL_law_548 rfl (lv_at hl 0 rfl) ?_
  refine lv_iload_n hx hb dL_law_549 rfl (lv_at hl 3 rfl) ?_
  refine lv_iconst (v := 2) hx hb dL_law_550 (by decide) ?_
  refine lv_iadd hx hb dL_law_551 ?_
  refine k_top (nI_add (5 * j) 2) ?_
  refine k_sld (k := 5 * j + 2) hx hb hX hbl hbA hS rfl (by omega) (by omega) dL_law_552 ?_
  refine kMo (As := [.int (xs (5 * j + 1)), .int (xs (5 * j + 2))]) (rest := [.int (if okR (xs (5 * j + 1)) (xs (5 * j + 2)) then g_Ho S (rx (xs (5 * j + 1)) (xs (5 * j + 2))) else -2)]) (o := some (.int (if okR (xs (5 * j + 1)) (xs (5 * j + 2)) then g_Ho S (rx (xs (5 * j + 1)) (xs (5 * j + 2))) else -2))) (T1 := S) ⟨hx, hb, hml, hown, hts⟩ (c_X2_nextHop l D cI cZ cP md S (xs (5 * j + 1)) (xs (5 * j + 2)) ) (cwV 2 hts gL_law_X2_nextHop rfl rfl rfl (by decide +kernel) ⟨Nat.le_of_ble_eq_true rfl, Nat.le_of_ble_eq_true rfl⟩) hK hN hP hD hS rfl hl.1 rfl (Nat.le_of_ble_eq_true rfl) hcr dL_law_553 (fun H locs hP hD hS => ?_)
  refine lv_icmp_eq (tgt := 828) hx hb dL_law_556 (by decide) (fun _ => ?_) (fun c_ => absurd rfl c_)
  refine W.widen (k := cells + 4) (n := slots + 56) (Nat.le_add_right _ _) (Nat.le_add_right _ _) ?_
  exact kk (S) pd H locs (hJ) hP hD hS

set_option maxRecDepth 100000 in
set_option maxHeartbeats 4000000 in
/-- the law, number 15: isEntryStale -/
theorem law_15 {p : Program} {l : Launch} {e : Env} {s : State} {m : MethodId} {below : List Frame} {meth : Method} {c : Code} {b L : Nat} {xs : Nat → Int32} (C0 : lw_At p s m meth c b L xs) (hL : L ≤ 2560) {D : va_G} {cI cZ cP : ClassId} {ad md : Nat → Nat} {pd : Nat → Nat → Nat} {S : ST} (hK : va_K D vwCl (kTy cI cZ cP) s) (hN : kN s) (hJ : Inv S ∧ Fx S) {H : Heap} {locs : List Loc} {cells slots : Nat} (hcs : cells + 4 ≤ 600000 ∧ slots + 56 ≤ 7302250) (hP : va_P D vwCl (xW cI cZ cP ad pd S ++ mW cI cZ md S) H) (hD : va_D (fun q : Nat => s.heap.size ≤ q) (xW cI cZ cP ad pd S ++ mW cI cZ md S)) (hS : va_S (fun q : Nat => s.heap.size ≤ q) s.heap H locs) {ls : Array Slot} {j : Nat} (hj : 5 * j + 5 ≤ L) (hl : lv_has ls 4 [(0, .ref b), (1, .ref (ad 0)), (2, .ref (md 0)), (3, .int (nI (5 * j)))])
    (kk : ∀ (S1 : ST) (pd1 : Nat → Nat → Nat) (H1 : Heap) (locs1 : List Loc), Inv S1 ∧ Fx S1 → va_P D vwCl (xW cI cZ cP ad pd1 S1 ++ mW cI cZ md S1) H1 → va_D (fun q : Nat => s.heap.size ≤ q) (xW cI cZ cP ad pd1 S1 ++ mW cI cZ md S1) → va_S (fun q : Nat => s.heap.size ≤ q) s.heap H1 locs1 → W p l e room_1 s m #[Value.ref b] below meth c H1 locs1 (cells + 4) (slots + 56) (lw_Z below #[Value.ref b] s) (F0 m 828 ls [])) : W p l e room_1 s m #[Value.ref b] below meth c H locs cells slots (lw_Z below #[Value.ref b] s) (F0 m 561 ls []) := by
  obtain ⟨hx, hb, hr, hml, hown, hts0, hX, hbl, hlocks, hgv⟩ := id C0
  have hts : ∀ w ∈ wsL_law, w.before #[Value.ref b] s = true := fun w h => hts0 w (wsL_law_in w h)
  have hown : s.vm.findClass RL = some m.cls := hown
  have hI : Inv S := hJ.1
  have hA : ∀ q : Nat, s.heap.size ≤ q → (fun q : Nat => s.heap.size ≤ q) q := fun _ h => h
  have hbA : ¬ (fun q : Nat => s.heap.size ≤ q) b := Nat.not_le.mpr hbl
  have hcr : cells ≤ room_1.cells ∧ slots ≤ room_1.slots := ⟨Nat.le_trans (Nat.le_add_right _ 4) hcs.1, Nat.le_trans (Nat.le_add_right _ 56) hcs.2⟩
  refine lv_aload_n hx hb dL_law_561 rfl (lv_at hl 1 rfl) ?_
  refine lv_aload_n hx hb dL_law_562 rfl (lv_at hl 0 rfl) ?_
  refine lv_iload_n hx hb dL_law_563 rfl (lv_at hl 3 rfl) ?_
  refine lv_iconst (v := 1) hx hb dL_law_564 (by decide) ?_
  refine lv_iadd hx hb dL_law_565 ?_
  refine k_top (nI_add (5 * j) 1) ?_
  refine k_sld (k := 5 * j + 1) hx hb hX hbl hbA hS rfl (by omega) (by omega) dL_law_566 ?_
  refine lv_aload_n hx hb dL_law_567 rfl (lv_at hl 0 rfl) ?_
  refine lv_iload_n hx hb dL_law_568 rfl (lv_at hl 3 rfl) ?_
  refine lv_iconst (v := 2) hx hb dL_law_569 (by decide) ?_
  refine lv_iadd hx hb dL_law_570 ?_
  refine k_top (nI_add (5 * j) 2) ?_
  refine k_sld (k := 5 * j + 2) hx hb hX hbl hbA hS rfl (by omega) (by omega) dL_law_571 ?_
  refine kX (As := [.int (xs (5 * j + 1)), .int (xs (5 * j + 2))]) (rest := []) (o := some (.int (if okR (xs (5 * j + 1)) (xs (5 * j + 2)) then (if g_Ho S (rx (xs (5 * j + 1)) (xs (5 * j + 2))) = -6 then -6 else if g_Hs S (rx (xs (5 * j + 1)) (xs (5 * j + 2))) = 0 then 0 else 1) else -2))) (S1 := S) ⟨hx, hb, hml, hown, hts⟩ (c_X1_isEntryStale l D cI cZ cP ad pd S (xs (5 * j + 1)) (xs (5 * j + 2)) ) (rfl) (cwV 2 hts gL_law_X1_isEntryStale rfl rfl rfl (by decide +kernel) ⟨Nat.le_of_ble_eq_true rfl, Nat.le_of_ble_eq_true rfl⟩) hK hN hP hD hS rfl hl.1 rfl (Nat.le_of_ble_eq_true rfl) hcr dL_law_572 (fun H locs hP hD hS => ?_)
  refine lv_aload_n hx hb dL_law_575 rfl (lv_at hl 2 rfl) ?_
  refine lv_aload_n hx hb dL_law_576 rfl (lv_at hl 0 rfl) ?_
  refine lv_iload_n hx hb dL_law_577 rfl (lv_at hl 3 rfl) ?_
  refine lv_iconst (v := 1) hx hb dL_law_578 (by decide) ?_
  refine lv_iadd hx hb dL_law_579 ?_
  refine k_top (nI_add (5 * j) 1) ?_
  refine k_sld (k := 5 * j + 1) hx hb hX hbl hbA hS rfl (by omega) (by omega) dL_law_580 ?_
  refine lv_aload_n hx hb dL_law_581 rfl (lv_at hl 0 rfl) ?_
  refine lv_iload_n hx hb dL_law_582 rfl (lv_at hl 3 rfl) ?_
  refine lv_iconst (v := 2) hx hb dL_law_583 (by decide) ?_
  refine lv_iadd hx hb dL_law_584 ?_
  refine k_top (nI_add (5 * j) 2) ?_
  refine k_sld (k := 5 * j + 2) hx hb hX hbl hbA hS rfl (by omega) (by omega) dL_law_585 ?_
  refine kMo (As := [.int (xs (5 * j + 1)), .int (xs (5 * j + 2))]) (rest := [.int (if okR (xs (5 * j + 1)) (xs (5 * j + 2)) then (if g_Ho S (rx (xs (5 * j + 1)) (xs (5 * j + 2))) = -6 then -6 else if g_Hs S (rx (xs (5 * j + 1)) (xs (5 * j + 2))) = 0 then 0 else 1) else -2)]) (o := some (.int (if okR (xs (5 * j + 1)) (xs (5 * j + 2)) then (if g_Ho S (rx (xs (5 * j + 1)) (xs (5 * j + 2))) = -6 then -6 else if g_Hz S (rx (xs (5 * j + 1)) (xs (5 * j + 2))) = 0 then 0 else 1) else -2))) (T1 := S) ⟨hx, hb, hml, hown, hts⟩ (c_X2_isEntryStale l D cI cZ cP md S (xs (5 * j + 1)) (xs (5 * j + 2)) ) (cwV 2 hts gL_law_X2_isEntryStale rfl rfl rfl (by decide +kernel) ⟨Nat.le_of_ble_eq_true rfl, Nat.le_of_ble_eq_true rfl⟩) hK hN hP hD hS rfl hl.1 rfl (Nat.le_of_ble_eq_true rfl) hcr dL_law_586 (fun H locs hP hD hS => ?_)
  refine lv_icmp_eq (tgt := 828) hx hb dL_law_589 (by decide) (fun _ => ?_) (fun c_ => absurd (stale_eq hI _ _) c_)
  refine W.widen (k := cells + 4) (n := slots + 56) (Nat.le_add_right _ _) (Nat.le_add_right _ _) ?_
  exact kk (S) pd H locs (hJ) hP hD hS

set_option maxRecDepth 100000 in
set_option maxHeartbeats 4000000 in
/-- the law, number 16: sessionState -/
theorem law_16 {p : Program} {l : Launch} {e : Env} {s : State} {m : MethodId} {below : List Frame} {meth : Method} {c : Code} {b L : Nat} {xs : Nat → Int32} (C0 : lw_At p s m meth c b L xs) (hL : L ≤ 2560) {D : va_G} {cI cZ cP : ClassId} {ad md : Nat → Nat} {pd : Nat → Nat → Nat} {S : ST} (hK : va_K D vwCl (kTy cI cZ cP) s) (hN : kN s) (hJ : Inv S ∧ Fx S) {H : Heap} {locs : List Loc} {cells slots : Nat} (hcs : cells + 4 ≤ 600000 ∧ slots + 56 ≤ 7302250) (hP : va_P D vwCl (xW cI cZ cP ad pd S ++ mW cI cZ md S) H) (hD : va_D (fun q : Nat => s.heap.size ≤ q) (xW cI cZ cP ad pd S ++ mW cI cZ md S)) (hS : va_S (fun q : Nat => s.heap.size ≤ q) s.heap H locs) {ls : Array Slot} {j : Nat} (hj : 5 * j + 5 ≤ L) (hl : lv_has ls 4 [(0, .ref b), (1, .ref (ad 0)), (2, .ref (md 0)), (3, .int (nI (5 * j)))])
    (kk : ∀ (S1 : ST) (pd1 : Nat → Nat → Nat) (H1 : Heap) (locs1 : List Loc), Inv S1 ∧ Fx S1 → va_P D vwCl (xW cI cZ cP ad pd1 S1 ++ mW cI cZ md S1) H1 → va_D (fun q : Nat => s.heap.size ≤ q) (xW cI cZ cP ad pd1 S1 ++ mW cI cZ md S1) → va_S (fun q : Nat => s.heap.size ≤ q) s.heap H1 locs1 → W p l e room_1 s m #[Value.ref b] below meth c H1 locs1 (cells + 4) (slots + 56) (lw_Z below #[Value.ref b] s) (F0 m 828 ls [])) : W p l e room_1 s m #[Value.ref b] below meth c H locs cells slots (lw_Z below #[Value.ref b] s) (F0 m 594 ls []) := by
  obtain ⟨hx, hb, hr, hml, hown, hts0, hX, hbl, hlocks, hgv⟩ := id C0
  have hts : ∀ w ∈ wsL_law, w.before #[Value.ref b] s = true := fun w h => hts0 w (wsL_law_in w h)
  have hown : s.vm.findClass RL = some m.cls := hown
  have hI : Inv S := hJ.1
  have hA : ∀ q : Nat, s.heap.size ≤ q → (fun q : Nat => s.heap.size ≤ q) q := fun _ h => h
  have hbA : ¬ (fun q : Nat => s.heap.size ≤ q) b := Nat.not_le.mpr hbl
  have hcr : cells ≤ room_1.cells ∧ slots ≤ room_1.slots := ⟨Nat.le_trans (Nat.le_add_right _ 4) hcs.1, Nat.le_trans (Nat.le_add_right _ 56) hcs.2⟩
  refine lv_aload_n hx hb dL_law_594 rfl (lv_at hl 1 rfl) ?_
  refine lv_aload_n hx hb dL_law_595 rfl (lv_at hl 0 rfl) ?_
  refine lv_iload_n hx hb dL_law_596 rfl (lv_at hl 3 rfl) ?_
  refine lv_iconst (v := 1) hx hb dL_law_597 (by decide) ?_
  refine lv_iadd hx hb dL_law_598 ?_
  refine k_top (nI_add (5 * j) 1) ?_
  refine k_sld (k := 5 * j + 1) hx hb hX hbl hbA hS rfl (by omega) (by omega) dL_law_599 ?_
  refine kX (As := [.int (xs (5 * j + 1))]) (rest := []) (o := some (.int (if okP (g_N S) (xs (5 * j + 1)) then g_St S (kx (xs (5 * j + 1))) else -1))) (S1 := S) ⟨hx, hb, hml, hown, hts⟩ (c_X1_sessionState l D cI cZ cP ad pd S (xs (5 * j + 1)) hI.1) (rfl) (cwV 1 hts gL_law_X1_sessionState rfl rfl rfl (by decide +kernel) ⟨Nat.le_of_ble_eq_true rfl, Nat.le_of_ble_eq_true rfl⟩) hK hN hP hD hS rfl hl.1 rfl (Nat.le_of_ble_eq_true rfl) hcr dL_law_600 (fun H locs hP hD hS => ?_)
  refine lv_aload_n hx hb dL_law_603 rfl (lv_at hl 2 rfl) ?_
  refine lv_aload_n hx hb dL_law_604 rfl (lv_at hl 0 rfl) ?_
  refine lv_iload_n hx hb dL_law_605 rfl (lv_at hl 3 rfl) ?_
  refine lv_iconst (v := 1) hx hb dL_law_606 (by decide) ?_
  refine lv_iadd hx hb dL_law_607 ?_
  refine k_top (nI_add (5 * j) 1) ?_
  refine k_sld (k := 5 * j + 1) hx hb hX hbl hbA hS rfl (by omega) (by omega) dL_law_608 ?_
  refine kMo (As := [.int (xs (5 * j + 1))]) (rest := [.int (if okP (g_N S) (xs (5 * j + 1)) then g_St S (kx (xs (5 * j + 1))) else -1)]) (o := some (.int (if okP (g_N S) (xs (5 * j + 1)) then g_St S (kx (xs (5 * j + 1))) else -1))) (T1 := S) ⟨hx, hb, hml, hown, hts⟩ (c_X2_sessionState l D cI cZ cP md S (xs (5 * j + 1)) hI.1) (cwV 1 hts gL_law_X2_sessionState rfl rfl rfl (by decide +kernel) ⟨Nat.le_of_ble_eq_true rfl, Nat.le_of_ble_eq_true rfl⟩) hK hN hP hD hS rfl hl.1 rfl (Nat.le_of_ble_eq_true rfl) hcr dL_law_609 (fun H locs hP hD hS => ?_)
  refine lv_icmp_eq (tgt := 828) hx hb dL_law_612 (by decide) (fun _ => ?_) (fun c_ => absurd rfl c_)
  refine W.widen (k := cells + 4) (n := slots + 56) (Nat.le_add_right _ _) (Nat.le_add_right _ _) ?_
  exact kk (S) pd H locs (hJ) hP hD hS

set_option maxRecDepth 100000 in
set_option maxHeartbeats 4000000 in
/-- the law, number 17: restartTimer -/
theorem law_17 {p : Program} {l : Launch} {e : Env} {s : State} {m : MethodId} {below : List Frame} {meth : Method} {c : Code} {b L : Nat} {xs : Nat → Int32} (C0 : lw_At p s m meth c b L xs) (hL : L ≤ 2560) {D : va_G} {cI cZ cP : ClassId} {ad md : Nat → Nat} {pd : Nat → Nat → Nat} {S : ST} (hK : va_K D vwCl (kTy cI cZ cP) s) (hN : kN s) (hJ : Inv S ∧ Fx S) {H : Heap} {locs : List Loc} {cells slots : Nat} (hcs : cells + 4 ≤ 600000 ∧ slots + 56 ≤ 7302250) (hP : va_P D vwCl (xW cI cZ cP ad pd S ++ mW cI cZ md S) H) (hD : va_D (fun q : Nat => s.heap.size ≤ q) (xW cI cZ cP ad pd S ++ mW cI cZ md S)) (hS : va_S (fun q : Nat => s.heap.size ≤ q) s.heap H locs) {ls : Array Slot} {j : Nat} (hj : 5 * j + 5 ≤ L) (hl : lv_has ls 4 [(0, .ref b), (1, .ref (ad 0)), (2, .ref (md 0)), (3, .int (nI (5 * j)))])
    (kk : ∀ (S1 : ST) (pd1 : Nat → Nat → Nat) (H1 : Heap) (locs1 : List Loc), Inv S1 ∧ Fx S1 → va_P D vwCl (xW cI cZ cP ad pd1 S1 ++ mW cI cZ md S1) H1 → va_D (fun q : Nat => s.heap.size ≤ q) (xW cI cZ cP ad pd1 S1 ++ mW cI cZ md S1) → va_S (fun q : Nat => s.heap.size ≤ q) s.heap H1 locs1 → W p l e room_1 s m #[Value.ref b] below meth c H1 locs1 (cells + 4) (slots + 56) (lw_Z below #[Value.ref b] s) (F0 m 828 ls [])) : W p l e room_1 s m #[Value.ref b] below meth c H locs cells slots (lw_Z below #[Value.ref b] s) (F0 m 617 ls []) := by
  obtain ⟨hx, hb, hr, hml, hown, hts0, hX, hbl, hlocks, hgv⟩ := id C0
  have hts : ∀ w ∈ wsL_law, w.before #[Value.ref b] s = true := fun w h => hts0 w (wsL_law_in w h)
  have hown : s.vm.findClass RL = some m.cls := hown
  have hI : Inv S := hJ.1
  have hA : ∀ q : Nat, s.heap.size ≤ q → (fun q : Nat => s.heap.size ≤ q) q := fun _ h => h
  have hbA : ¬ (fun q : Nat => s.heap.size ≤ q) b := Nat.not_le.mpr hbl
  have hcr : cells ≤ room_1.cells ∧ slots ≤ room_1.slots := ⟨Nat.le_trans (Nat.le_add_right _ 4) hcs.1, Nat.le_trans (Nat.le_add_right _ 56) hcs.2⟩
  refine lv_aload_n hx hb dL_law_617 rfl (lv_at hl 1 rfl) ?_
  refine lv_aload_n hx hb dL_law_618 rfl (lv_at hl 0 rfl) ?_
  refine lv_iload_n hx hb dL_law_619 rfl (lv_at hl 3 rfl) ?_
  refine lv_iconst (v := 1) hx hb dL_law_620 (by decide) ?_
  refine lv_iadd hx hb dL_law_621 ?_
  refine k_top (nI_add (5 * j) 1) ?_
  refine k_sld (k := 5 * j + 1) hx hb hX hbl hbA hS rfl (by omega) (by omega) dL_law_622 ?_
  refine kX (As := [.int (xs (5 * j + 1))]) (rest := []) (o := some (.int (if okP (g_N S) (xs (5 * j + 1)) then g_Rt S (kx (xs (5 * j + 1))) else -1))) (S1 := S) ⟨hx, hb, hml, hown, hts⟩ (c_X1_restartTimer l D cI cZ cP ad pd S (xs (5 * j + 1)) hI.1) (rfl) (cwV 1 hts gL_law_X1_restartTimer rfl rfl rfl (by decide +kernel) ⟨Nat.le_of_ble_eq_true rfl, Nat.le_of_ble_eq_true rfl⟩) hK hN hP hD hS rfl hl.1 rfl (Nat.le_of_ble_eq_true rfl) hcr dL_law_623 (fun H locs hP hD hS => ?_)
  refine lv_aload_n hx hb dL_law_626 rfl (lv_at hl 2 rfl) ?_
  refine lv_aload_n hx hb dL_law_627 rfl (lv_at hl 0 rfl) ?_
  refine lv_iload_n hx hb dL_law_628 rfl (lv_at hl 3 rfl) ?_
  refine lv_iconst (v := 1) hx hb dL_law_629 (by decide) ?_
  refine lv_iadd hx hb dL_law_630 ?_
  refine k_top (nI_add (5 * j) 1) ?_
  refine k_sld (k := 5 * j + 1) hx hb hX hbl hbA hS rfl (by omega) (by omega) dL_law_631 ?_
  refine kMo (As := [.int (xs (5 * j + 1))]) (rest := [.int (if okP (g_N S) (xs (5 * j + 1)) then g_Rt S (kx (xs (5 * j + 1))) else -1)]) (o := some (.int (if okP (g_N S) (xs (5 * j + 1)) then g_Rt S (kx (xs (5 * j + 1))) else -1))) (T1 := S) ⟨hx, hb, hml, hown, hts⟩ (c_X2_restartTimer l D cI cZ cP md S (xs (5 * j + 1)) hI.1) (cwV 1 hts gL_law_X2_restartTimer rfl rfl rfl (by decide +kernel) ⟨Nat.le_of_ble_eq_true rfl, Nat.le_of_ble_eq_true rfl⟩) hK hN hP hD hS rfl hl.1 rfl (Nat.le_of_ble_eq_true rfl) hcr dL_law_632 (fun H locs hP hD hS => ?_)
  refine lv_icmp_eq (tgt := 828) hx hb dL_law_635 (by decide) (fun _ => ?_) (fun c_ => absurd rfl c_)
  refine W.widen (k := cells + 4) (n := slots + 56) (Nat.le_add_right _ _) (Nat.le_add_right _ _) ?_
  exact kk (S) pd H locs (hJ) hP hD hS

set_option maxRecDepth 100000 in
set_option maxHeartbeats 4000000 in
/-- the law, number 18: staleTimer -/
theorem law_18 {p : Program} {l : Launch} {e : Env} {s : State} {m : MethodId} {below : List Frame} {meth : Method} {c : Code} {b L : Nat} {xs : Nat → Int32} (C0 : lw_At p s m meth c b L xs) (hL : L ≤ 2560) {D : va_G} {cI cZ cP : ClassId} {ad md : Nat → Nat} {pd : Nat → Nat → Nat} {S : ST} (hK : va_K D vwCl (kTy cI cZ cP) s) (hN : kN s) (hJ : Inv S ∧ Fx S) {H : Heap} {locs : List Loc} {cells slots : Nat} (hcs : cells + 4 ≤ 600000 ∧ slots + 56 ≤ 7302250) (hP : va_P D vwCl (xW cI cZ cP ad pd S ++ mW cI cZ md S) H) (hD : va_D (fun q : Nat => s.heap.size ≤ q) (xW cI cZ cP ad pd S ++ mW cI cZ md S)) (hS : va_S (fun q : Nat => s.heap.size ≤ q) s.heap H locs) {ls : Array Slot} {j : Nat} (hj : 5 * j + 5 ≤ L) (hl : lv_has ls 4 [(0, .ref b), (1, .ref (ad 0)), (2, .ref (md 0)), (3, .int (nI (5 * j)))])
    (kk : ∀ (S1 : ST) (pd1 : Nat → Nat → Nat) (H1 : Heap) (locs1 : List Loc), Inv S1 ∧ Fx S1 → va_P D vwCl (xW cI cZ cP ad pd1 S1 ++ mW cI cZ md S1) H1 → va_D (fun q : Nat => s.heap.size ≤ q) (xW cI cZ cP ad pd1 S1 ++ mW cI cZ md S1) → va_S (fun q : Nat => s.heap.size ≤ q) s.heap H1 locs1 → W p l e room_1 s m #[Value.ref b] below meth c H1 locs1 (cells + 4) (slots + 56) (lw_Z below #[Value.ref b] s) (F0 m 828 ls [])) : W p l e room_1 s m #[Value.ref b] below meth c H locs cells slots (lw_Z below #[Value.ref b] s) (F0 m 640 ls []) := by
  obtain ⟨hx, hb, hr, hml, hown, hts0, hX, hbl, hlocks, hgv⟩ := id C0
  have hts : ∀ w ∈ wsL_law, w.before #[Value.ref b] s = true := fun w h => hts0 w (wsL_law_in w h)
  have hown : s.vm.findClass RL = some m.cls := hown
  have hI : Inv S := hJ.1
  have hA : ∀ q : Nat, s.heap.size ≤ q → (fun q : Nat => s.heap.size ≤ q) q := fun _ h => h
  have hbA : ¬ (fun q : Nat => s.heap.size ≤ q) b := Nat.not_le.mpr hbl
  have hcr : cells ≤ room_1.cells ∧ slots ≤ room_1.slots := ⟨Nat.le_trans (Nat.le_add_right _ 4) hcs.1, Nat.le_trans (Nat.le_add_right _ 56) hcs.2⟩
  refine lv_aload_n hx hb dL_law_640 rfl (lv_at hl 1 rfl) ?_
  refine lv_aload_n hx hb dL_law_641 rfl (lv_at hl 0 rfl) ?_
  refine lv_iload_n hx hb dL_law_642 rfl (lv_at hl 3 rfl) ?_
  refine lv_iconst (v := 1) hx hb dL_law_643 (by decide) ?_
  refine lv_iadd hx hb dL_law_644 ?_
  refine k_top (nI_add (5 * j) 1) ?_
  refine k_sld (k := 5 * j + 1) hx hb hX hbl hbA hS rfl (by omega) (by omega) dL_law_645 ?_
  refine kX (As := [.int (xs (5 * j + 1))]) (rest := []) (o := some (.int (if okP (g_N S) (xs (5 * j + 1)) then g_Sl S (kx (xs (5 * j + 1))) else -1))) (S1 := S) ⟨hx, hb, hml, hown, hts⟩ (c_X1_staleTimer l D cI cZ cP ad pd S (xs (5 * j + 1)) hI.1) (rfl) (cwV 1 hts gL_law_X1_staleTimer rfl rfl rfl (by decide +kernel) ⟨Nat.le_of_ble_eq_true rfl, Nat.le_of_ble_eq_true rfl⟩) hK hN hP hD hS rfl hl.1 rfl (Nat.le_of_ble_eq_true rfl) hcr dL_law_646 (fun H locs hP hD hS => ?_)
  refine lv_aload_n hx hb dL_law_649 rfl (lv_at hl 2 rfl) ?_
  refine lv_aload_n hx hb dL_law_650 rfl (lv_at hl 0 rfl) ?_
  refine lv_iload_n hx hb dL_law_651 rfl (lv_at hl 3 rfl) ?_
  refine lv_iconst (v := 1) hx hb dL_law_652 (by decide) ?_
  refine lv_iadd hx hb dL_law_653 ?_
  refine k_top (nI_add (5 * j) 1) ?_
  refine k_sld (k := 5 * j + 1) hx hb hX hbl hbA hS rfl (by omega) (by omega) dL_law_654 ?_
  refine kMo (As := [.int (xs (5 * j + 1))]) (rest := [.int (if okP (g_N S) (xs (5 * j + 1)) then g_Sl S (kx (xs (5 * j + 1))) else -1)]) (o := some (.int (if okP (g_N S) (xs (5 * j + 1)) then g_Sl S (kx (xs (5 * j + 1))) else -1))) (T1 := S) ⟨hx, hb, hml, hown, hts⟩ (c_X2_staleTimer l D cI cZ cP md S (xs (5 * j + 1)) hI.1) (cwV 1 hts gL_law_X2_staleTimer rfl rfl rfl (by decide +kernel) ⟨Nat.le_of_ble_eq_true rfl, Nat.le_of_ble_eq_true rfl⟩) hK hN hP hD hS rfl hl.1 rfl (Nat.le_of_ble_eq_true rfl) hcr dL_law_655 (fun H locs hP hD hS => ?_)
  refine lv_icmp_eq (tgt := 828) hx hb dL_law_658 (by decide) (fun _ => ?_) (fun c_ => absurd rfl c_)
  refine W.widen (k := cells + 4) (n := slots + 56) (Nat.le_add_right _ _) (Nat.le_add_right _ _) ?_
  exact kk (S) pd H locs (hJ) hP hD hS

set_option maxRecDepth 100000 in
set_option maxHeartbeats 4000000 in
/-- the law, number 19: learnedLength -/
theorem law_19 {p : Program} {l : Launch} {e : Env} {s : State} {m : MethodId} {below : List Frame} {meth : Method} {c : Code} {b L : Nat} {xs : Nat → Int32} (C0 : lw_At p s m meth c b L xs) (hL : L ≤ 2560) {D : va_G} {cI cZ cP : ClassId} {ad md : Nat → Nat} {pd : Nat → Nat → Nat} {S : ST} (hK : va_K D vwCl (kTy cI cZ cP) s) (hN : kN s) (hJ : Inv S ∧ Fx S) {H : Heap} {locs : List Loc} {cells slots : Nat} (hcs : cells + 4 ≤ 600000 ∧ slots + 56 ≤ 7302250) (hP : va_P D vwCl (xW cI cZ cP ad pd S ++ mW cI cZ md S) H) (hD : va_D (fun q : Nat => s.heap.size ≤ q) (xW cI cZ cP ad pd S ++ mW cI cZ md S)) (hS : va_S (fun q : Nat => s.heap.size ≤ q) s.heap H locs) {ls : Array Slot} {j : Nat} (hj : 5 * j + 5 ≤ L) (hl : lv_has ls 4 [(0, .ref b), (1, .ref (ad 0)), (2, .ref (md 0)), (3, .int (nI (5 * j)))])
    (kk : ∀ (S1 : ST) (pd1 : Nat → Nat → Nat) (H1 : Heap) (locs1 : List Loc), Inv S1 ∧ Fx S1 → va_P D vwCl (xW cI cZ cP ad pd1 S1 ++ mW cI cZ md S1) H1 → va_D (fun q : Nat => s.heap.size ≤ q) (xW cI cZ cP ad pd1 S1 ++ mW cI cZ md S1) → va_S (fun q : Nat => s.heap.size ≤ q) s.heap H1 locs1 → W p l e room_1 s m #[Value.ref b] below meth c H1 locs1 (cells + 4) (slots + 56) (lw_Z below #[Value.ref b] s) (F0 m 828 ls [])) : W p l e room_1 s m #[Value.ref b] below meth c H locs cells slots (lw_Z below #[Value.ref b] s) (F0 m 663 ls []) := by
  obtain ⟨hx, hb, hr, hml, hown, hts0, hX, hbl, hlocks, hgv⟩ := id C0
  have hts : ∀ w ∈ wsL_law, w.before #[Value.ref b] s = true := fun w h => hts0 w (wsL_law_in w h)
  have hown : s.vm.findClass RL = some m.cls := hown
  have hI : Inv S := hJ.1
  have hA : ∀ q : Nat, s.heap.size ≤ q → (fun q : Nat => s.heap.size ≤ q) q := fun _ h => h
  have hbA : ¬ (fun q : Nat => s.heap.size ≤ q) b := Nat.not_le.mpr hbl
  have hcr : cells ≤ room_1.cells ∧ slots ≤ room_1.slots := ⟨Nat.le_trans (Nat.le_add_right _ 4) hcs.1, Nat.le_trans (Nat.le_add_right _ 56) hcs.2⟩
  refine lv_aload_n hx hb dL_law_663 rfl (lv_at hl 1 rfl) ?_
  refine lv_aload_n hx hb dL_law_664 rfl (lv_at hl 0 rfl) ?_
  refine lv_iload_n hx hb dL_law_665 rfl (lv_at hl 3 rfl) ?_
  refine lv_iconst (v := 1) hx hb dL_law_666 (by decide) ?_
  refine lv_iadd hx hb dL_law_667 ?_
  refine k_top (nI_add (5 * j) 1) ?_
  refine k_sld (k := 5 * j + 1) hx hb hX hbl hbA hS rfl (by omega) (by omega) dL_law_668 ?_
  refine lv_aload_n hx hb dL_law_669 rfl (lv_at hl 0 rfl) ?_
  refine lv_iload_n hx hb dL_law_670 rfl (lv_at hl 3 rfl) ?_
  refine lv_iconst (v := 2) hx hb dL_law_671 (by decide) ?_
  refine lv_iadd hx hb dL_law_672 ?_
  refine k_top (nI_add (5 * j) 2) ?_
  refine k_sld (k := 5 * j + 2) hx hb hX hbl hbA hS rfl (by omega) (by omega) dL_law_673 ?_
  refine lv_aload_n hx hb dL_law_674 rfl (lv_at hl 0 rfl) ?_
  refine lv_iload_n hx hb dL_law_675 rfl (lv_at hl 3 rfl) ?_
  refine lv_iconst (v := 3) hx hb dL_law_676 (by decide) ?_
  refine lv_iadd hx hb dL_law_677 ?_
  refine k_top (nI_add (5 * j) 3) ?_
  refine k_sld (k := 5 * j + 3) hx hb hX hbl hbA hS rfl (by omega) (by omega) dL_law_678 ?_
  refine kX (As := [.int (xs (5 * j + 1)), .int (xs (5 * j + 2)), .int (xs (5 * j + 3))]) (rest := []) (o := some (.int (q_LL S (xs (5 * j + 1)) (xs (5 * j + 2)) (xs (5 * j + 3))))) (S1 := S) ⟨hx, hb, hml, hown, hts⟩ (c_X1_learnedLength l D cI cZ cP ad pd S (xs (5 * j + 1)) (xs (5 * j + 2)) (xs (5 * j + 3)) hI.1) (rfl) (cwV 3 hts gL_law_X1_learnedLength rfl rfl rfl (by decide +kernel) ⟨Nat.le_of_ble_eq_true rfl, Nat.le_of_ble_eq_true rfl⟩) hK hN hP hD hS rfl hl.1 rfl (Nat.le_of_ble_eq_true rfl) hcr dL_law_679 (fun H locs hP hD hS => ?_)
  refine lv_aload_n hx hb dL_law_682 rfl (lv_at hl 2 rfl) ?_
  refine lv_aload_n hx hb dL_law_683 rfl (lv_at hl 0 rfl) ?_
  refine lv_iload_n hx hb dL_law_684 rfl (lv_at hl 3 rfl) ?_
  refine lv_iconst (v := 1) hx hb dL_law_685 (by decide) ?_
  refine lv_iadd hx hb dL_law_686 ?_
  refine k_top (nI_add (5 * j) 1) ?_
  refine k_sld (k := 5 * j + 1) hx hb hX hbl hbA hS rfl (by omega) (by omega) dL_law_687 ?_
  refine lv_aload_n hx hb dL_law_688 rfl (lv_at hl 0 rfl) ?_
  refine lv_iload_n hx hb dL_law_689 rfl (lv_at hl 3 rfl) ?_
  refine lv_iconst (v := 2) hx hb dL_law_690 (by decide) ?_
  refine lv_iadd hx hb dL_law_691 ?_
  refine k_top (nI_add (5 * j) 2) ?_
  refine k_sld (k := 5 * j + 2) hx hb hX hbl hbA hS rfl (by omega) (by omega) dL_law_692 ?_
  refine lv_aload_n hx hb dL_law_693 rfl (lv_at hl 0 rfl) ?_
  refine lv_iload_n hx hb dL_law_694 rfl (lv_at hl 3 rfl) ?_
  refine lv_iconst (v := 3) hx hb dL_law_695 (by decide) ?_
  refine lv_iadd hx hb dL_law_696 ?_
  refine k_top (nI_add (5 * j) 3) ?_
  refine k_sld (k := 5 * j + 3) hx hb hX hbl hbA hS rfl (by omega) (by omega) dL_law_697 ?_
  refine kMo (As := [.int (xs (5 * j + 1)), .int (xs (5 * j + 2)), .int (xs (5 * j + 3))]) (rest := [.int (q_LL S (xs (5 * j + 1)) (xs (5 * j + 2)) (xs (5 * j + 3)))]) (o := some (.int (q_LL S (xs (5 * j + 1)) (xs (5 * j + 2)) (xs (5 * j + 3))))) (T1 := S) ⟨hx, hb, hml, hown, hts⟩ (c_X2_learnedLength l D cI cZ cP md S (xs (5 * j + 1)) (xs (5 * j + 2)) (xs (5 * j + 3)) hI.1) (cwV 3 hts gL_law_X2_learnedLength rfl rfl rfl (by decide +kernel) ⟨Nat.le_of_ble_eq_true rfl, Nat.le_of_ble_eq_true rfl⟩) hK hN hP hD hS rfl hl.1 rfl (Nat.le_of_ble_eq_true rfl) hcr dL_law_698 (fun H locs hP hD hS => ?_)
  refine lv_icmp_eq (tgt := 828) hx hb dL_law_701 (by decide) (fun _ => ?_) (fun c_ => absurd rfl c_)
  refine W.widen (k := cells + 4) (n := slots + 56) (Nat.le_add_right _ _) (Nat.le_add_right _ _) ?_
  exact kk (S) pd H locs (hJ) hP hD hS

set_option maxRecDepth 100000 in
set_option maxHeartbeats 4000000 in
/-- the law, number 20: isLearnedStale -/
theorem law_20 {p : Program} {l : Launch} {e : Env} {s : State} {m : MethodId} {below : List Frame} {meth : Method} {c : Code} {b L : Nat} {xs : Nat → Int32} (C0 : lw_At p s m meth c b L xs) (hL : L ≤ 2560) {D : va_G} {cI cZ cP : ClassId} {ad md : Nat → Nat} {pd : Nat → Nat → Nat} {S : ST} (hK : va_K D vwCl (kTy cI cZ cP) s) (hN : kN s) (hJ : Inv S ∧ Fx S) {H : Heap} {locs : List Loc} {cells slots : Nat} (hcs : cells + 4 ≤ 600000 ∧ slots + 56 ≤ 7302250) (hP : va_P D vwCl (xW cI cZ cP ad pd S ++ mW cI cZ md S) H) (hD : va_D (fun q : Nat => s.heap.size ≤ q) (xW cI cZ cP ad pd S ++ mW cI cZ md S)) (hS : va_S (fun q : Nat => s.heap.size ≤ q) s.heap H locs) {ls : Array Slot} {j : Nat} (hj : 5 * j + 5 ≤ L) (hl : lv_has ls 4 [(0, .ref b), (1, .ref (ad 0)), (2, .ref (md 0)), (3, .int (nI (5 * j)))])
    (kk : ∀ (S1 : ST) (pd1 : Nat → Nat → Nat) (H1 : Heap) (locs1 : List Loc), Inv S1 ∧ Fx S1 → va_P D vwCl (xW cI cZ cP ad pd1 S1 ++ mW cI cZ md S1) H1 → va_D (fun q : Nat => s.heap.size ≤ q) (xW cI cZ cP ad pd1 S1 ++ mW cI cZ md S1) → va_S (fun q : Nat => s.heap.size ≤ q) s.heap H1 locs1 → W p l e room_1 s m #[Value.ref b] below meth c H1 locs1 (cells + 4) (slots + 56) (lw_Z below #[Value.ref b] s) (F0 m 828 ls [])) : W p l e room_1 s m #[Value.ref b] below meth c H locs cells slots (lw_Z below #[Value.ref b] s) (F0 m 706 ls []) := by
  obtain ⟨hx, hb, hr, hml, hown, hts0, hX, hbl, hlocks, hgv⟩ := id C0
  have hts : ∀ w ∈ wsL_law, w.before #[Value.ref b] s = true := fun w h => hts0 w (wsL_law_in w h)
  have hown : s.vm.findClass RL = some m.cls := hown
  have hI : Inv S := hJ.1
  have hA : ∀ q : Nat, s.heap.size ≤ q → (fun q : Nat => s.heap.size ≤ q) q := fun _ h => h
  have hbA : ¬ (fun q : Nat => s.heap.size ≤ q) b := Nat.not_le.mpr hbl
  have hcr : cells ≤ room_1.cells ∧ slots ≤ room_1.slots := ⟨Nat.le_trans (Nat.le_add_right _ 4) hcs.1, Nat.le_trans (Nat.le_add_right _ 56) hcs.2⟩
  refine lv_aload_n hx hb dL_law_706 rfl (lv_at hl 1 rfl) ?_
  refine lv_aload_n hx hb dL_law_707 rfl (lv_at hl 0 rfl) ?_
  refine lv_iload_n hx hb dL_law_708 rfl (lv_at hl 3 rfl) ?_
  refine lv_iconst (v := 1) hx hb dL_law_709 (by decide) ?_
  refine lv_iadd hx hb dL_law_710 ?_
  refine k_top (nI_add (5 * j) 1) ?_
  refine k_sld (k := 5 * j + 1) hx hb hX hbl hbA hS rfl (by omega) (by omega) dL_law_711 ?_
  refine lv_aload_n hx hb dL_law_712 rfl (lv_at hl 0 rfl) ?_
  refine lv_iload_n hx hb dL_law_713 rfl (lv_at hl 3 rfl) ?_
  refine lv_iconst (v := 2) hx hb dL_law_714 (by decide) ?_
  refine lv_iadd hx hb dL_law_715 ?_
  refine k_top (nI_add (5 * j) 2) ?_
  refine k_sld (k := 5 * j + 2) hx hb hX hbl hbA hS rfl (by omega) (by omega) dL_law_716 ?_
  refine lv_aload_n hx hb dL_law_717 rfl (lv_at hl 0 rfl) ?_
  refine lv_iload_n hx hb dL_law_718 rfl (lv_at hl 3 rfl) ?_
  refine lv_iconst (v := 3) hx hb dL_law_719 (by decide) ?_
  refine lv_iadd hx hb dL_law_720 ?_
  refine k_top (nI_add (5 * j) 3) ?_
  refine k_sld (k := 5 * j + 3) hx hb hX hbl hbA hS rfl (by omega) (by omega) dL_law_721 ?_
  refine kX (As := [.int (xs (5 * j + 1)), .int (xs (5 * j + 2)), .int (xs (5 * j + 3))]) (rest := []) (o := some (.int (q_LS S (xs (5 * j + 1)) (xs (5 * j + 2)) (xs (5 * j + 3))))) (S1 := S) ⟨hx, hb, hml, hown, hts⟩ (c_X1_isLearnedStale l D cI cZ cP ad pd S (xs (5 * j + 1)) (xs (5 * j + 2)) (xs (5 * j + 3)) hI.1) (rfl) (cwV 3 hts gL_law_X1_isLearnedStale rfl rfl rfl (by decide +kernel) ⟨Nat.le_of_ble_eq_true rfl, Nat.le_of_ble_eq_true rfl⟩) hK hN hP hD hS rfl hl.1 rfl (Nat.le_of_ble_eq_true rfl) hcr dL_law_722 (fun H locs hP hD hS => ?_)
  refine lv_aload_n hx hb dL_law_725 rfl (lv_at hl 2 rfl) ?_
  refine lv_aload_n hx hb dL_law_726 rfl (lv_at hl 0 rfl) ?_
  refine lv_iload_n hx hb dL_law_727 rfl (lv_at hl 3 rfl) ?_
  refine lv_iconst (v := 1) hx hb dL_law_728 (by decide) ?_
  refine lv_iadd hx hb dL_law_729 ?_
  refine k_top (nI_add (5 * j) 1) ?_
  refine k_sld (k := 5 * j + 1) hx hb hX hbl hbA hS rfl (by omega) (by omega) dL_law_730 ?_
  refine lv_aload_n hx hb dL_law_731 rfl (lv_at hl 0 rfl) ?_
  refine lv_iload_n hx hb dL_law_732 rfl (lv_at hl 3 rfl) ?_
  refine lv_iconst (v := 2) hx hb dL_law_733 (by decide) ?_
  refine lv_iadd hx hb dL_law_734 ?_
  refine k_top (nI_add (5 * j) 2) ?_
  refine k_sld (k := 5 * j + 2) hx hb hX hbl hbA hS rfl (by omega) (by omega) dL_law_735 ?_
  refine lv_aload_n hx hb dL_law_736 rfl (lv_at hl 0 rfl) ?_
  refine lv_iload_n hx hb dL_law_737 rfl (lv_at hl 3 rfl) ?_
  refine lv_iconst (v := 3) hx hb dL_law_738 (by decide) ?_
  refine lv_iadd hx hb dL_law_739 ?_
  refine k_top (nI_add (5 * j) 3) ?_
  refine k_sld (k := 5 * j + 3) hx hb hX hbl hbA hS rfl (by omega) (by omega) dL_law_740 ?_
  refine kMo (As := [.int (xs (5 * j + 1)), .int (xs (5 * j + 2)), .int (xs (5 * j + 3))]) (rest := [.int (q_LS S (xs (5 * j + 1)) (xs (5 * j + 2)) (xs (5 * j + 3)))]) (o := some (.int (q_LS S (xs (5 * j + 1)) (xs (5 * j + 2)) (xs (5 * j + 3))))) (T1 := S) ⟨hx, hb, hml, hown, hts⟩ (c_X2_isLearnedStale l D cI cZ cP md S (xs (5 * j + 1)) (xs (5 * j + 2)) (xs (5 * j + 3)) hI.1) (cwV 3 hts gL_law_X2_isLearnedStale rfl rfl rfl (by decide +kernel) ⟨Nat.le_of_ble_eq_true rfl, Nat.le_of_ble_eq_true rfl⟩) hK hN hP hD hS rfl hl.1 rfl (Nat.le_of_ble_eq_true rfl) hcr dL_law_741 (fun H locs hP hD hS => ?_)
  refine lv_icmp_eq (tgt := 828) hx hb dL_law_744 (by decide) (fun _ => ?_) (fun c_ => absurd rfl c_)
  refine W.widen (k := cells + 4) (n := slots + 56) (Nat.le_add_right _ _) (Nat.le_add_right _ _) ?_
  exact kk (S) pd H locs (hJ) hP hD hS

set_option maxRecDepth 100000 in
set_option maxHeartbeats 4000000 in
/-- the law, number 21: forward -/
theorem law_21 {p : Program} {l : Launch} {e : Env} {s : State} {m : MethodId} {below : List Frame} {meth : Method} {c : Code} {b L : Nat} {xs : Nat → Int32} (C0 : lw_At p s m meth c b L xs) (hL : L ≤ 2560) {D : va_G} {cI cZ cP : ClassId} {ad md : Nat → Nat} {pd : Nat → Nat → Nat} {S : ST} (hK : va_K D vwCl (kTy cI cZ cP) s) (hN : kN s) (hJ : Inv S ∧ Fx S) {H : Heap} {locs : List Loc} {cells slots : Nat} (hcs : cells + 4 ≤ 600000 ∧ slots + 56 ≤ 7302250) (hP : va_P D vwCl (xW cI cZ cP ad pd S ++ mW cI cZ md S) H) (hD : va_D (fun q : Nat => s.heap.size ≤ q) (xW cI cZ cP ad pd S ++ mW cI cZ md S)) (hS : va_S (fun q : Nat => s.heap.size ≤ q) s.heap H locs) {ls : Array Slot} {j : Nat} (hj : 5 * j + 5 ≤ L) (hl : lv_has ls 4 [(0, .ref b), (1, .ref (ad 0)), (2, .ref (md 0)), (3, .int (nI (5 * j)))])
    (kk : ∀ (S1 : ST) (pd1 : Nat → Nat → Nat) (H1 : Heap) (locs1 : List Loc), Inv S1 ∧ Fx S1 → va_P D vwCl (xW cI cZ cP ad pd1 S1 ++ mW cI cZ md S1) H1 → va_D (fun q : Nat => s.heap.size ≤ q) (xW cI cZ cP ad pd1 S1 ++ mW cI cZ md S1) → va_S (fun q : Nat => s.heap.size ≤ q) s.heap H1 locs1 → W p l e room_1 s m #[Value.ref b] below meth c H1 locs1 (cells + 4) (slots + 56) (lw_Z below #[Value.ref b] s) (F0 m 828 ls [])) : W p l e room_1 s m #[Value.ref b] below meth c H locs cells slots (lw_Z below #[Value.ref b] s) (F0 m 749 ls []) := by
  obtain ⟨hx, hb, hr, hml, hown, hts0, hX, hbl, hlocks, hgv⟩ := id C0
  have hts : ∀ w ∈ wsL_law, w.before #[Value.ref b] s = true := fun w h => hts0 w (wsL_law_in w h)
  have hown : s.vm.findClass RL = some m.cls := hown
  have hI : Inv S := hJ.1
  have hA : ∀ q : Nat, s.heap.size ≤ q → (fun q : Nat => s.heap.size ≤ q) q := fun _ h => h
  have hbA : ¬ (fun q : Nat => s.heap.size ≤ q) b := Nat.not_le.mpr hbl
  have hcr : cells ≤ room_1.cells ∧ slots ≤ room_1.slots := ⟨Nat.le_trans (Nat.le_add_right _ 4) hcs.1, Nat.le_trans (Nat.le_add_right _ 56) hcs.2⟩
  refine lv_aload_n hx hb dL_law_749 rfl (lv_at hl 1 rfl) ?_
  refine lv_aload_n hx hb dL_law_750 rfl (lv_at hl 0 rfl) ?_
  refine lv_iload_n hx hb dL_law_751 rfl (lv_at hl 3 rfl) ?_
  refine lv_iconst (v := 1) hx hb dL_law_752 (by decide) ?_
  refine lv_iadd hx hb dL_law_753 ?_
  refine k_top (nI_add (5 * j) 1) ?_
  refine k_sld (k := 5 * j + 1) hx hb hX hbl hbA hS rfl (by omega) (by omega) dL_law_754 ?_
  refine lv_aload_n hx hb dL_law_755 rfl (lv_at hl 0 rfl) ?_
  refine lv_iload_n hx hb dL_law_756 rfl (lv_at hl 3 rfl) ?_
  refine lv_iconst (v := 2) hx hb dL_law_757 (by decide) ?_
  refine lv_iadd hx hb dL_law_758 ?_
  refine k_top (nI_add (5 * j) 2) ?_
  refine k_sld (k := 5 * j + 2) hx hb hX hbl hbA hS rfl (by omega) (by omega) dL_law_759 ?_
  refine lv_aload_n hx hb dL_law_760 rfl (lv_at hl 0 rfl) ?_
  refine lv_iload_n hx hb dL_law_761 rfl (lv_at hl 3 rfl) ?_
  refine lv_iconst (v := 3) hx hb dL_law_762 (by decide) ?_
  refine lv_iadd hx hb dL_law_763 ?_
  refine k_top (nI_add (5 * j) 3) ?_
  refine k_sld (k := 5 * j + 3) hx hb hX hbl hbA hS rfl (by omega) (by omega) dL_law_764 ?_
  refine kX (As := [.int (xs (5 * j + 1)), .int (xs (5 * j + 2)), .int (xs (5 * j + 3))]) (rest := []) (o := some (.int (q_Fw S (xs (5 * j + 1)) (xs (5 * j + 2)) (xs (5 * j + 3))))) (S1 := S) ⟨hx, hb, hml, hown, hts⟩ (c_X1_forward l D cI cZ cP ad pd S (xs (5 * j + 1)) (xs (5 * j + 2)) (xs (5 * j + 3)) hI.1) (rfl) (cwV 3 hts gL_law_X1_forward rfl rfl rfl (by decide +kernel) ⟨Nat.le_of_ble_eq_true rfl, Nat.le_of_ble_eq_true rfl⟩) hK hN hP hD hS rfl hl.1 rfl (Nat.le_of_ble_eq_true rfl) hcr dL_law_765 (fun H locs hP hD hS => ?_)
  refine lv_aload_n hx hb dL_law_768 rfl (lv_at hl 2 rfl) ?_
  refine lv_aload_n hx hb dL_law_769 rfl (lv_at hl 0 rfl) ?_
  refine lv_iload_n hx hb dL_law_770 rfl (lv_at hl 3 rfl) ?_
  refine lv_iconst (v := 1) hx hb dL_law_771 (by decide) ?_
  refine lv_iadd hx hb dL_law_772 ?_
  refine k_top (nI_add (5 * j) 1) ?_
  refine k_sld (k := 5 * j + 1) hx hb hX hbl hbA hS rfl (by omega) (by omega) dL_law_773 ?_
  refine lv_aload_n hx hb dL_law_774 rfl (lv_at hl 0 rfl) ?_
  refine lv_iload_n hx hb dL_law_775 rfl (lv_at hl 3 rfl) ?_
  refine lv_iconst (v := 2) hx hb dL_law_776 (by decide) ?_
  refine lv_iadd hx hb dL_law_777 ?_
  refine k_top (nI_add (5 * j) 2) ?_
  refine k_sld (k := 5 * j + 2) hx hb hX hbl hbA hS rfl (by omega) (by omega) dL_law_778 ?_
  refine lv_aload_n hx hb dL_law_779 rfl (lv_at hl 0 rfl) ?_
  refine lv_iload_n hx hb dL_law_780 rfl (lv_at hl 3 rfl) ?_
  refine lv_iconst (v := 3) hx hb dL_law_781 (by decide) ?_
  refine lv_iadd hx hb dL_law_782 ?_
  refine k_top (nI_add (5 * j) 3) ?_
  refine k_sld (k := 5 * j + 3) hx hb hX hbl hbA hS rfl (by omega) (by omega) dL_law_783 ?_
  refine kMo (As := [.int (xs (5 * j + 1)), .int (xs (5 * j + 2)), .int (xs (5 * j + 3))]) (rest := [.int (q_Fw S (xs (5 * j + 1)) (xs (5 * j + 2)) (xs (5 * j + 3)))]) (o := some (.int (q_Fw S (xs (5 * j + 1)) (xs (5 * j + 2)) (xs (5 * j + 3))))) (T1 := S) ⟨hx, hb, hml, hown, hts⟩ (c_X2_forward l D cI cZ cP md S (xs (5 * j + 1)) (xs (5 * j + 2)) (xs (5 * j + 3)) hI.1) (cwV 3 hts gL_law_X2_forward rfl rfl rfl (by decide +kernel) ⟨Nat.le_of_ble_eq_true rfl, Nat.le_of_ble_eq_true rfl⟩) hK hN hP hD hS rfl hl.1 rfl (Nat.le_of_ble_eq_true rfl) hcr dL_law_784 (fun H locs hP hD hS => ?_)
  refine lv_icmp_eq (tgt := 828) hx hb dL_law_787 (by decide) (fun _ => ?_) (fun c_ => absurd rfl c_)
  refine W.widen (k := cells + 4) (n := slots + 56) (Nat.le_add_right _ _) (Nat.le_add_right _ _) ?_
  exact kk (S) pd H locs (hJ) hP hD hS

set_option maxRecDepth 100000 in
set_option maxHeartbeats 4000000 in
/-- the law, number 22: reachableCount -/
theorem law_22 {p : Program} {l : Launch} {e : Env} {s : State} {m : MethodId} {below : List Frame} {meth : Method} {c : Code} {b L : Nat} {xs : Nat → Int32} (C0 : lw_At p s m meth c b L xs) (hL : L ≤ 2560) {D : va_G} {cI cZ cP : ClassId} {ad md : Nat → Nat} {pd : Nat → Nat → Nat} {S : ST} (hK : va_K D vwCl (kTy cI cZ cP) s) (hN : kN s) (hJ : Inv S ∧ Fx S) {H : Heap} {locs : List Loc} {cells slots : Nat} (hcs : cells + 4 ≤ 600000 ∧ slots + 56 ≤ 7302250) (hP : va_P D vwCl (xW cI cZ cP ad pd S ++ mW cI cZ md S) H) (hD : va_D (fun q : Nat => s.heap.size ≤ q) (xW cI cZ cP ad pd S ++ mW cI cZ md S)) (hS : va_S (fun q : Nat => s.heap.size ≤ q) s.heap H locs) {ls : Array Slot} {j : Nat} (hj : 5 * j + 5 ≤ L) (hl : lv_has ls 4 [(0, .ref b), (1, .ref (ad 0)), (2, .ref (md 0)), (3, .int (nI (5 * j)))])
    (kk : ∀ (S1 : ST) (pd1 : Nat → Nat → Nat) (H1 : Heap) (locs1 : List Loc), Inv S1 ∧ Fx S1 → va_P D vwCl (xW cI cZ cP ad pd1 S1 ++ mW cI cZ md S1) H1 → va_D (fun q : Nat => s.heap.size ≤ q) (xW cI cZ cP ad pd1 S1 ++ mW cI cZ md S1) → va_S (fun q : Nat => s.heap.size ≤ q) s.heap H1 locs1 → W p l e room_1 s m #[Value.ref b] below meth c H1 locs1 (cells + 4) (slots + 56) (lw_Z below #[Value.ref b] s) (F0 m 828 ls [])) : W p l e room_1 s m #[Value.ref b] below meth c H locs cells slots (lw_Z below #[Value.ref b] s) (F0 m 792 ls []) := by
  obtain ⟨hx, hb, hr, hml, hown, hts0, hX, hbl, hlocks, hgv⟩ := id C0
  have hts : ∀ w ∈ wsL_law, w.before #[Value.ref b] s = true := fun w h => hts0 w (wsL_law_in w h)
  have hown : s.vm.findClass RL = some m.cls := hown
  have hI : Inv S := hJ.1
  have hA : ∀ q : Nat, s.heap.size ≤ q → (fun q : Nat => s.heap.size ≤ q) q := fun _ h => h
  have hbA : ¬ (fun q : Nat => s.heap.size ≤ q) b := Nat.not_le.mpr hbl
  have hcr : cells ≤ room_1.cells ∧ slots ≤ room_1.slots := ⟨Nat.le_trans (Nat.le_add_right _ 4) hcs.1, Nat.le_trans (Nat.le_add_right _ 56) hcs.2⟩
  refine lv_aload_n hx hb dL_law_792 rfl (lv_at hl 1 rfl) ?_
  refine lv_aload_n hx hb dL_law_793 rfl (lv_at hl 0 rfl) ?_
  refine lv_iload_n hx hb dL_law_794 rfl (lv_at hl 3 rfl) ?_
  refine lv_iconst (v := 1) hx hb dL_law_795 (by decide) ?_
  refine lv_iadd hx hb dL_law_796 ?_
  refine k_top (nI_add (5 * j) 1) ?_
  refine k_sld (k := 5 * j + 1) hx hb hX hbl hbA hS rfl (by omega) (by omega) dL_law_797 ?_
  refine kX (As := [.int (xs (5 * j + 1))]) (rest := []) (o := some (.int (if okP (g_N S) (xs (5 * j + 1)) then kCnt (p_Fw S (kx (xs (5 * j + 1)))) 16 else -1))) (S1 := S) ⟨hx, hb, hml, hown, hts⟩ (c_X1_reachableCount l D cI cZ cP ad pd S (xs (5 * j + 1)) hI.1) (rfl) (cwV 1 hts gL_law_X1_reachableCount rfl rfl rfl (by decide +kernel) ⟨Nat.le_of_ble_eq_true rfl, Nat.le_of_ble_eq_true rfl⟩) hK hN hP hD hS rfl hl.1 rfl (Nat.le_of_ble_eq_true rfl) hcr dL_law_798 (fun H locs hP hD hS => ?_)
  refine lv_aload_n hx hb dL_law_801 rfl (lv_at hl 2 rfl) ?_
  refine lv_aload_n hx hb dL_law_802 rfl (lv_at hl 0 rfl) ?_
  refine lv_iload_n hx hb dL_law_803 rfl (lv_at hl 3 rfl) ?_
  refine lv_iconst (v := 1) hx hb dL_law_804 (by decide) ?_
  refine lv_iadd hx hb dL_law_805 ?_
  refine k_top (nI_add (5 * j) 1) ?_
  refine k_sld (k := 5 * j + 1) hx hb hX hbl hbA hS rfl (by omega) (by omega) dL_law_806 ?_
  refine kMo (As := [.int (xs (5 * j + 1))]) (rest := [.int (if okP (g_N S) (xs (5 * j + 1)) then kCnt (p_Fw S (kx (xs (5 * j + 1)))) 16 else -1)]) (o := some (.int (if okP (g_N S) (xs (5 * j + 1)) then kCnt (p_Fw S (kx (xs (5 * j + 1)))) 16 else -1))) (T1 := S) ⟨hx, hb, hml, hown, hts⟩ (c_X2_reachableCount l D cI cZ cP md S (xs (5 * j + 1)) hI.1) (cwV 1 hts gL_law_X2_reachableCount rfl rfl rfl (by decide +kernel) ⟨Nat.le_of_ble_eq_true rfl, Nat.le_of_ble_eq_true rfl⟩) hK hN hP hD hS rfl hl.1 rfl (Nat.le_of_ble_eq_true rfl) hcr dL_law_807 (fun H locs hP hD hS => ?_)
  refine lv_icmp_eq (tgt := 828) hx hb dL_law_810 (by decide) (fun _ => ?_) (fun c_ => absurd rfl c_)
  refine W.widen (k := cells + 4) (n := slots + 56) (Nat.le_add_right _ _) (Nat.le_add_right _ _) ?_
  exact kk (S) pd H locs (hJ) hP hD hS

set_option maxRecDepth 100000 in
set_option maxHeartbeats 4000000 in
/-- the law, number 23: loopCount -/
theorem law_23 {p : Program} {l : Launch} {e : Env} {s : State} {m : MethodId} {below : List Frame} {meth : Method} {c : Code} {b L : Nat} {xs : Nat → Int32} (C0 : lw_At p s m meth c b L xs) (hL : L ≤ 2560) {D : va_G} {cI cZ cP : ClassId} {ad md : Nat → Nat} {pd : Nat → Nat → Nat} {S : ST} (hK : va_K D vwCl (kTy cI cZ cP) s) (hN : kN s) (hJ : Inv S ∧ Fx S) {H : Heap} {locs : List Loc} {cells slots : Nat} (hcs : cells + 4 ≤ 600000 ∧ slots + 56 ≤ 7302250) (hP : va_P D vwCl (xW cI cZ cP ad pd S ++ mW cI cZ md S) H) (hD : va_D (fun q : Nat => s.heap.size ≤ q) (xW cI cZ cP ad pd S ++ mW cI cZ md S)) (hS : va_S (fun q : Nat => s.heap.size ≤ q) s.heap H locs) {ls : Array Slot} {j : Nat} (hj : 5 * j + 5 ≤ L) (hl : lv_has ls 4 [(0, .ref b), (1, .ref (ad 0)), (2, .ref (md 0)), (3, .int (nI (5 * j)))])
    (kk : ∀ (S1 : ST) (pd1 : Nat → Nat → Nat) (H1 : Heap) (locs1 : List Loc), Inv S1 ∧ Fx S1 → va_P D vwCl (xW cI cZ cP ad pd1 S1 ++ mW cI cZ md S1) H1 → va_D (fun q : Nat => s.heap.size ≤ q) (xW cI cZ cP ad pd1 S1 ++ mW cI cZ md S1) → va_S (fun q : Nat => s.heap.size ≤ q) s.heap H1 locs1 → W p l e room_1 s m #[Value.ref b] below meth c H1 locs1 (cells + 4) (slots + 56) (lw_Z below #[Value.ref b] s) (F0 m 828 ls [])) : W p l e room_1 s m #[Value.ref b] below meth c H locs cells slots (lw_Z below #[Value.ref b] s) (F0 m 815 ls []) := by
  obtain ⟨hx, hb, hr, hml, hown, hts0, hX, hbl, hlocks, hgv⟩ := id C0
  have hts : ∀ w ∈ wsL_law, w.before #[Value.ref b] s = true := fun w h => hts0 w (wsL_law_in w h)
  have hown : s.vm.findClass RL = some m.cls := hown
  have hI : Inv S := hJ.1
  have hA : ∀ q : Nat, s.heap.size ≤ q → (fun q : Nat => s.heap.size ≤ q) q := fun _ h => h
  have hbA : ¬ (fun q : Nat => s.heap.size ≤ q) b := Nat.not_le.mpr hbl
  have hcr : cells ≤ room_1.cells ∧ slots ≤ room_1.slots := ⟨Nat.le_trans (Nat.le_add_right _ 4) hcs.1, Nat.le_trans (Nat.le_add_right _ 56) hcs.2⟩
  refine lv_aload_n hx hb dL_law_815 rfl (lv_at hl 1 rfl) ?_
  refine kX (As := []) (rest := []) (o := some (.int (o_Lp S (g_N S)))) (S1 := S) ⟨hx, hb, hml, hown, hts⟩ (c_X1_loopCount l D cI cZ cP ad pd S  hI.1) (rfl) (cwV 0 hts gL_law_X1_loopCount rfl rfl rfl (by decide +kernel) ⟨Nat.le_of_ble_eq_true rfl, Nat.le_of_ble_eq_true rfl⟩) hK hN hP hD hS rfl hl.1 rfl (Nat.le_of_ble_eq_true rfl) hcr dL_law_816 (fun H locs hP hD hS => ?_)
  refine lv_aload_n hx hb dL_law_819 rfl (lv_at hl 2 rfl) ?_
  refine kMo (As := []) (rest := [.int (o_Lp S (g_N S))]) (o := some (.int (o_Lp S (g_N S)))) (T1 := S) ⟨hx, hb, hml, hown, hts⟩ (c_X2_loopCount l D cI cZ cP md S  hI.1) (cwV 0 hts gL_law_X2_loopCount rfl rfl rfl (by decide +kernel) ⟨Nat.le_of_ble_eq_true rfl, Nat.le_of_ble_eq_true rfl⟩) hK hN hP hD hS rfl hl.1 rfl (Nat.le_of_ble_eq_true rfl) hcr dL_law_820 (fun H locs hP hD hS => ?_)
  refine lv_icmp_eq (tgt := 828) hx hb dL_law_823 (by decide) (fun _ => ?_) (fun c_ => absurd rfl c_)
  refine W.widen (k := cells + 4) (n := slots + 56) (Nat.le_add_right _ _) (Nat.le_add_right _ _) ?_
  exact kk (S) pd H locs (hJ) hP hD hS

