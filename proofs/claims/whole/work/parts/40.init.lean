section KI
variable {p : Program} {l : Launch} {e : Env} {R : Room} {s : State} {m : MethodId} {args : Array Value} {below : List Frame} {meth : Method} {c : Code} {H : Heap} {locs : List Loc} {cells slots : Nat} {Q : State → Prop}
variable {cc : ByteArray} {pc : Nat} {ls : Array Slot} {rest : List Value} {D : va_G} {cl : List vw_C} {A : Nat → Prop} {a : Nat} {tys : List (ClassId × FieldType)} {ws : va_W} {H0 : Heap}
theorem k_putF (hexec : p.tables.exec = Jvm.exec) (hb : c.code = cc) {own ref C : String} {T : u_T} {N ci index : Nat} {Ts : List Cond} (hts : ∀ w ∈ Ts, w.before args s = true) (hin : ∀ w ∈ u_ws C T N, w ∈ Ts) (ty0 : Nat → FieldType) (hty : ∀ k, k < N → parseFieldDescriptor (T k).2.2.1 = some (ty0 k)) (hnm : ∀ a, a < N → ∀ b, b < N → a ≠ b → (T a).2.1 ≠ (T b).2.1) (hown : s.vm.findClass own = some m.cls) (hK : va_K D cl tys s) (hP : va_P D cl ws H) (hD : va_D A ws) (hS0 : va_S A H0 H locs) (q0 : Nat) {fs : List Value} (he : ws[q0]? = some (a, .inr (ci, fs))) (hc : cl[ci]? = some (C, T, N)) (k : Nat) (hk : k < N) (hlink : (Cond.fieldLink own index ref (T k).2.1 (T k).2.2.1).before args s = true) (hsame : ∀ x, s.fieldFound? (T k).1 (T k).2.1 (T k).2.2.1 = some x → s.fieldFound? ref (T k).2.1 (T k).2.2.1 = some x) (hfin : (T k).2.2.2 = true) (hin2 : meth.name = "<init>") (hdecl : (T k).1 = own) {ty : FieldType} {v : Value} (hd : parseFieldDescriptor (T k).2.2.1 = some ty) (hn : narrow ty v = v) (hfit : fits ty v = true) (hl : k < fs.length)
    {W1 : va_W} (hW : ws.set q0 (a, .inr (ci, fs.set k v)) = W1) (hdg : decode cc pc = .ok (.putfield index, 3)) (kk : ∀ (H1 : Heap) (locs1 : List Loc), va_P D cl W1 H1 → va_D A W1 → va_S A H0 H1 locs1 → W p l e R s m args below meth c H1 locs1 cells slots Q (F0 m (pc + 3) ls rest)) : W p l e R s m args below meth c H locs cells slots Q (F0 m pc ls (v :: .ref a :: rest)) := by
  subst hW
  exact va_putF hexec hb hts hin ty0 hty hnm hown hK hP hD hS0 q0 he hc k hk hlink hsame hfin hin2 hdecl hd hn hfit hl hdg kk
end KI
theorem kc_int {s : State} {a b : ClassId} (h1 : va_RA s a .int) (h2 : va_RA s b .int) : a = b := Option.some.inj ((va_nm_int h1).symm.trans (va_nm_int h2))
theorem kc_bool {s : State} {a b : ClassId} (h1 : va_RA s a .boolean) (h2 : va_RA s b .boolean) : a = b := Option.some.inj ((va_nm_boolean h1).symm.trans (va_nm_boolean h2))
theorem kc_obj {s : State} {a b : ClassId} {C : String} (h1 : va_RA s a (.object C)) (h2 : va_RA s b (.object C)) : a = b := by
  obtain ⟨_, _, _, _, _, x1⟩ := h1
  obtain ⟨_, _, _, _, _, x2⟩ := h2
  exact Option.some.inj (x1.symm.trans x2)
/-- the state of a new object -/
def z9 : FR := fun _ => 0
def s_0 : ST := (10, 20, 15, 0, z9, z9, z9, z9, fun _ _ => 0, fun _ _ => 0, fun _ _ => 0, fun _ _ => 0, kSet (-6) 16 z9, z9, z9, 0, 0)

set_option maxRecDepth 100000 in
set_option maxHeartbeats 4000000 in
/-- Peer(g): three rows come -/
theorem c_X0_init (l : Launch) (D : va_G) (cI cZ cP : ClassId) (h0 : Nat) (g : Int32) (sz : Nat) (hg : g = 0 ∨ g = 1) : Met l yX0_init wsX0_init ({ frames := 1, cells := 3, slots := 48, locals := 12 }) (va_Pc [.ref h0, .int g] (fun U => U.heap.size = sz ∧ va_P D vwCl [(h0, .inr (0, [.int 0, .null, .null, .null, .int 0, .int 0, .int 0, .int 0]))] U.heap ∧ va_K D vwCl (kTy cI cZ cP) U ∧ va_D (fun _ => True) [(h0, .inr (0, [.int 0, .null, .null, .null, .int 0, .int 0, .int 0, .int 0]))])) (va_Qv (fun _ : Nat × Nat × Nat => True) (fun u t => va_P D vwCl (pW cI cZ h0 u.1 u.2.1 u.2.2 g z9 z9 z9 0 0 0 0) t.heap ∧ va_D (va_A [(h0, .inr (0, [.int 0, .null, .null, .null, .int 0, .int 0, .int 0, .int 0]))] sz) (pW cI cZ h0 u.1 u.2.1 u.2.2 g z9 z9 z9 0 0 0 0)) (va_A [(h0, .inr (0, [.int 0, .null, .null, .null, .int 0, .int 0, .int 0, .int 0]))] sz)) 3 48 (va_A [(h0, .inr (0, [.int 0, .null, .null, .null, .int 0, .int 0, .int 0, .int 0]))] sz) := by
  refine Met.ofW (cc := cX0_init) (maxL := 2) (ret := none) (by decide) rfl ?_
  intro p e s m args below meth c s₁ B hml hv
  obtain ⟨rfl, hsz, hP, hK, hD0⟩ := hv
  have hx := B.exec
  have hb := B.bytes
  have hr := B.returns
  have hts := atoms_spec (ws := wsX0_init) B.pre
  have hown : s.vm.findClass RX0 = some m.cls := findClass_of_methodNamed B.named
  have hlocks := B.notSynchronized
  have hin9 : meth.name = "<init>" := (name_of_methodNamed B.named B.method).1
  subst hsz
  have hD := hD0.self (sz := s.heap.size)
  generalize hAe : va_A [(h0, .inr (0, [.int 0, .null, .null, .null, .int 0, .int 0, .int 0, .int 0]))] s.heap.size = A at hD ⊢
  have hA : ∀ q : Nat, s.heap.size ≤ q → A q := fun q h => by rw [← hAe]; exact Or.inr h
  have hS : va_S A s.heap s.heap [] := va_S.rf
  have hl := lv_entry ([.ref h0, .int g]) (n := 2) (Nat.le_of_ble_eq_true rfl)
  rw [lg_entry_eq]
  generalize (lg_sl ([.ref h0, .int g]) ++ List.replicate (2 - (lg_sl ([.ref h0, .int g])).length) Slot.unset).toArray = ls at hl ⊢
  have hl : lv_has ls 2 [(0, .ref h0), (1, .int g)] := hl
  have hi0 : ∀ w ∈ wsX00, w ∈ wsX0_init := fun w h => List.mem_cons_of_mem _ (List.mem_append_right _ h)
  refine lv_aload_n hx hb dX0_init_0 rfl (lv_at hl 0 rfl) ?_
  refine W.objInit hx hb hown (hts (.methodLink RX0 3 objectInit) (List.mem_of_getElem? (i := 1) rfl)) (hts (.instanceMethod objectInit) (List.mem_of_getElem? (i := 2) rfl)) (hts (.code objectInit ⟨#[0xb1]⟩ 1 none) (List.mem_of_getElem? (i := 3) rfl)) rfl (by rw [hml]; exact hl.1) rfl dX0_init_1 (Nat.le_of_ble_eq_true rfl) (Nat.le_of_ble_eq_true rfl) ?_
  refine W.eq (g2 := F0 m 4 ls []) rfl ?_
  refine lv_aload_n hx hb dX0_init_4 rfl (lv_at hl 0 rfl) ?_
  refine lv_iload_n hx hb dX0_init_5 rfl (lv_at hl 1 rfl) ?_
  refine k_putF (D := D) (ci := 0) (v := .int g) (ty := .boolean) (C := RX0) (T := TX0) (N := 8) hx hb hts hi0 tyX0 tyX0_ok nmX0 hown hK hP hD hS 0 rfl rfl 0 (by decide) (hts (.fieldLink RX0 9 "GracefulRestart$Peer" "graceful" "Z") (List.mem_of_getElem? (i := 4) rfl)) (fun _ h9 => h9) rfl hin9 rfl (by decide +kernel) (by rcases hg with rfl | rfl <;> rfl) (by rcases hg with rfl | rfl <;> rfl) (Nat.le_of_ble_eq_true rfl) (W1 := [(h0, .inr (0, [.int g, .null, .null, .null, .int 0, .int 0, .int 0, .int 0]))]) rfl dX0_init_6 (fun H locs hP hD hS => ?_)
  refine lv_aload_n hx hb dX0_init_9 rfl (lv_at hl 0 rfl) ?_
  refine lv_bipush (v := 16) hx hb dX0_init_10 (by decide) ?_
  refine va_newa (atype := .int) (a0 := (16, .inl z9)) (N' := 16) hx hb (hts (.arrayClass .int) (List.mem_of_getElem? (i := 5) rfl)) rfl hK hP hD hS hA (fun _ => rfl) (by decide) (by decide) (Nat.le_of_ble_eq_true rfl) (Nat.le_of_ble_eq_true rfl) (Nat.le_of_ble_eq_true rfl) dX0_init_12 (fun q12 cA H hKn hP hD hS => ?_)
  have ecA : cA = cI := kc_int (hKn.2 3 _ rfl).2 (hK.2 0 _ rfl).2
  rw [ecA] at hP hD
  have hP : va_P D vwCl [(h0, .inr (0, [.int g, .null, .null, .null, .int 0, .int 0, .int 0, .int 0])), (q12, .inl (cI, (16, .inl z9)))] H := hP
  have hD : va_D A [(h0, .inr (0, [.int g, .null, .null, .null, .int 0, .int 0, .int 0, .int 0])), (q12, .inl (cI, (16, .inl z9)))] := hD
  refine k_putF (D := D) (ci := 0) (v := .ref q12) (ty := .array .int) (C := RX0) (T := TX0) (N := 8) hx hb hts hi0 tyX0 tyX0_ok nmX0 hown hK hP hD hS 0 rfl rfl 1 (by decide) (hts (.fieldLink RX0 15 "GracefulRestart$Peer" "offers" "[I") (List.mem_of_getElem? (i := 6) rfl)) (fun _ h9 => h9) rfl hin9 rfl (by decide +kernel) rfl rfl (Nat.le_of_ble_eq_true rfl) (W1 := [(h0, .inr (0, [.int g, .ref q12, .null, .null, .int 0, .int 0, .int 0, .int 0])), (q12, .inl (cI, (16, .inl z9)))]) rfl dX0_init_14 (fun H locs hP hD hS => ?_)
  refine lv_aload_n hx hb dX0_init_17 rfl (lv_at hl 0 rfl) ?_
  refine lv_bipush (v := 16) hx hb dX0_init_18 (by decide) ?_
  refine va_newa (atype := .int) (a0 := (16, .inl z9)) (N' := 16) hx hb (hts (.arrayClass .int) (List.mem_of_getElem? (i := 5) rfl)) rfl hK hP hD hS hA (fun _ => rfl) (by decide) (by decide) (Nat.le_of_ble_eq_true rfl) (Nat.le_of_ble_eq_true rfl) (Nat.le_of_ble_eq_true rfl) dX0_init_20 (fun q20 cA H hKn hP hD hS => ?_)
  have ecA : cA = cI := kc_int (hKn.2 3 _ rfl).2 (hK.2 0 _ rfl).2
  rw [ecA] at hP hD
  have hP : va_P D vwCl [(h0, .inr (0, [.int g, .ref q12, .null, .null, .int 0, .int 0, .int 0, .int 0])), (q12, .inl (cI, (16, .inl z9))), (q20, .inl (cI, (16, .inl z9)))] H := hP
  have hD : va_D A [(h0, .inr (0, [.int g, .ref q12, .null, .null, .int 0, .int 0, .int 0, .int 0])), (q12, .inl (cI, (16, .inl z9))), (q20, .inl (cI, (16, .inl z9)))] := hD
  refine k_putF (D := D) (ci := 0) (v := .ref q20) (ty := .array .int) (C := RX0) (T := TX0) (N := 8) hx hb hts hi0 tyX0 tyX0_ok nmX0 hown hK hP hD hS 0 rfl rfl 2 (by decide) (hts (.fieldLink RX0 19 "GracefulRestart$Peer" "learned" "[I") (List.mem_of_getElem? (i := 7) rfl)) (fun _ h9 => h9) rfl hin9 rfl (by decide +kernel) rfl rfl (Nat.le_of_ble_eq_true rfl) (W1 := [(h0, .inr (0, [.int g, .ref q12, .ref q20, .null, .int 0, .int 0, .int 0, .int 0])), (q12, .inl (cI, (16, .inl z9))), (q20, .inl (cI, (16, .inl z9)))]) rfl dX0_init_22 (fun H locs hP hD hS => ?_)
  refine lv_aload_n hx hb dX0_init_25 rfl (lv_at hl 0 rfl) ?_
  refine lv_bipush (v := 16) hx hb dX0_init_26 (by decide) ?_
  refine va_newa (atype := .boolean) (a0 := (16, .inl z9)) (N' := 16) hx hb (hts (.arrayClass .boolean) (List.mem_of_getElem? (i := 8) rfl)) rfl hK hP hD hS hA (fun _ => rfl) (by decide) (by decide) (Nat.le_of_ble_eq_true rfl) (Nat.le_of_ble_eq_true rfl) (Nat.le_of_ble_eq_true rfl) dX0_init_28 (fun q28 cA H hKn hP hD hS => ?_)
  have ecA : cA = cZ := kc_bool (hKn.2 3 _ rfl).2 (hK.2 1 _ rfl).2
  rw [ecA] at hP hD
  have hP : va_P D vwCl [(h0, .inr (0, [.int g, .ref q12, .ref q20, .null, .int 0, .int 0, .int 0, .int 0])), (q12, .inl (cI, (16, .inl z9))), (q20, .inl (cI, (16, .inl z9))), (q28, .inl (cZ, (16, .inl z9)))] H := hP
  have hD : va_D A [(h0, .inr (0, [.int g, .ref q12, .ref q20, .null, .int 0, .int 0, .int 0, .int 0])), (q12, .inl (cI, (16, .inl z9))), (q20, .inl (cI, (16, .inl z9))), (q28, .inl (cZ, (16, .inl z9)))] := hD
  refine k_putF (D := D) (ci := 0) (v := .ref q28) (ty := .array .boolean) (C := RX0) (T := TX0) (N := 8) hx hb hts hi0 tyX0 tyX0_ok nmX0 hown hK hP hD hS 0 rfl rfl 3 (by decide) (hts (.fieldLink RX0 22 "GracefulRestart$Peer" "staleLearned" "[Z") (List.mem_of_getElem? (i := 9) rfl)) (fun _ h9 => h9) rfl hin9 rfl (by decide +kernel) rfl rfl (Nat.le_of_ble_eq_true rfl) (W1 := [(h0, .inr (0, [.int g, .ref q12, .ref q20, .ref q28, .int 0, .int 0, .int 0, .int 0])), (q12, .inl (cI, (16, .inl z9))), (q20, .inl (cI, (16, .inl z9))), (q28, .inl (cZ, (16, .inl z9)))]) rfl dX0_init_30 (fun H locs hP hD hS => ?_)
  refine lv_aload_n hx hb dX0_init_33 rfl (lv_at hl 0 rfl) ?_
  refine lv_iconst (v := 0) hx hb dX0_init_34 (by decide) ?_
  refine k_put (D := D) (ci := 0) (v := .int 0) (ty := .int) (C := RX0) (T := TX0) (N := 8) hx hb hts hi0 tyX0 tyX0_ok nmX0 hown hK hP hD hS 0 rfl rfl 4 (by decide) (hts (.fieldLink RX0 26 "GracefulRestart$Peer" "state" "I") (List.mem_of_getElem? (i := 10) rfl)) (fun _ h9 => h9) rfl (by decide +kernel) rfl rfl (Nat.le_of_ble_eq_true rfl) (W1 := [(h0, .inr (0, [.int g, .ref q12, .ref q20, .ref q28, .int 0, .int 0, .int 0, .int 0])), (q12, .inl (cI, (16, .inl z9))), (q20, .inl (cI, (16, .inl z9))), (q28, .inl (cZ, (16, .inl z9)))]) rfl dX0_init_35 (fun H locs hP hD hS => ?_)
  refine lv_aload_n hx hb dX0_init_38 rfl (lv_at hl 0 rfl) ?_
  refine lv_iconst (v := 0) hx hb dX0_init_39 (by decide) ?_
  refine k_put (D := D) (ci := 0) (v := .int 0) (ty := .int) (C := RX0) (T := TX0) (N := 8) hx hb hts hi0 tyX0 tyX0_ok nmX0 hown hK hP hD hS 0 rfl rfl 5 (by decide) (hts (.fieldLink RX0 30 "GracefulRestart$Peer" "restartLeft" "I") (List.mem_of_getElem? (i := 11) rfl)) (fun _ h9 => h9) rfl (by decide +kernel) rfl rfl (Nat.le_of_ble_eq_true rfl) (W1 := [(h0, .inr (0, [.int g, .ref q12, .ref q20, .ref q28, .int 0, .int 0, .int 0, .int 0])), (q12, .inl (cI, (16, .inl z9))), (q20, .inl (cI, (16, .inl z9))), (q28, .inl (cZ, (16, .inl z9)))]) rfl dX0_init_40 (fun H locs hP hD hS => ?_)
  refine lv_aload_n hx hb dX0_init_43 rfl (lv_at hl 0 rfl) ?_
  refine lv_iconst (v := 0) hx hb dX0_init_44 (by decide) ?_
  refine k_put (D := D) (ci := 0) (v := .int 0) (ty := .int) (C := RX0) (T := TX0) (N := 8) hx hb hts hi0 tyX0 tyX0_ok nmX0 hown hK hP hD hS 0 rfl rfl 6 (by decide) (hts (.fieldLink RX0 33 "GracefulRestart$Peer" "staleLeft" "I") (List.mem_of_getElem? (i := 12) rfl)) (fun _ h9 => h9) rfl (by decide +kernel) rfl rfl (Nat.le_of_ble_eq_true rfl) (W1 := [(h0, .inr (0, [.int g, .ref q12, .ref q20, .ref q28, .int 0, .int 0, .int 0, .int 0])), (q12, .inl (cI, (16, .inl z9))), (q20, .inl (cI, (16, .inl z9))), (q28, .inl (cZ, (16, .inl z9)))]) rfl dX0_init_45 (fun H locs hP hD hS => ?_)
  refine lv_aload_n hx hb dX0_init_48 rfl (lv_at hl 0 rfl) ?_
  refine lv_iconst (v := 0) hx hb dX0_init_49 (by decide) ?_
  refine k_put (D := D) (ci := 0) (v := .int 0) (ty := .int) (C := RX0) (T := TX0) (N := 8) hx hb hts hi0 tyX0 tyX0_ok nmX0 hown hK hP hD hS 0 rfl rfl 7 (by decide) (hts (.fieldLink RX0 36 "GracefulRestart$Peer" "marks" "I") (List.mem_of_getElem? (i := 13) rfl)) (fun _ h9 => h9) rfl (by decide +kernel) rfl rfl (Nat.le_of_ble_eq_true rfl) (W1 := [(h0, .inr (0, [.int g, .ref q12, .ref q20, .ref q28, .int 0, .int 0, .int 0, .int 0])), (q12, .inl (cI, (16, .inl z9))), (q20, .inl (cI, (16, .inl z9))), (q28, .inl (cZ, (16, .inl z9)))]) rfl dX0_init_50 (fun H locs hP hD hS => ?_)
  refine W.widen (k := 3) (n := 48) (Nat.le_of_ble_eq_true rfl) (Nat.le_of_ble_eq_true rfl) ?_
  exact W.vret hx hb hr (fun t ht hW => ⟨⟨(q12, q20, q28), rfl, trivial, by rw [ht]; exact hP, hD⟩, hS.F ht⟩) hS.2.2 dX0_init_53

set_option maxRecDepth 100000 in
set_option maxHeartbeats 4000000 in
/-- GracefulRestart(): three rows come -/
theorem c_X1_init (l : Launch) (D : va_G) (cI cZ cP : ClassId) (h0 : Nat) (sz : Nat) : Met l yX1_init wsX1_init ({ frames := 1, cells := 3, slots := 37, locals := 12 }) (va_Pc [.ref h0] (fun U => U.heap.size = sz ∧ va_P D vwCl [(h0, .inr (1, [.null, .null, .null, .int 0, .int 0, .int 0, .int 0, .int 0, .int 0]))] U.heap ∧ va_K D vwCl (kTy cI cZ cP) U ∧ va_AO "GracefulRestart$Peer" U ∧ va_D (fun _ => True) [(h0, .inr (1, [.null, .null, .null, .int 0, .int 0, .int 0, .int 0, .int 0, .int 0]))])) (va_Qv (fun _ : Nat × Nat × Nat => True) (fun u t => va_P D vwCl (xW cI cZ cP (fun k => if k = 0 then h0 else if k = 1 then u.1 else if k = 2 then u.2.1 else u.2.2) (fun _ _ => 0) s_0) t.heap ∧ va_D (va_A [(h0, .inr (1, [.null, .null, .null, .int 0, .int 0, .int 0, .int 0, .int 0, .int 0]))] sz) (xW cI cZ cP (fun k => if k = 0 then h0 else if k = 1 then u.1 else if k = 2 then u.2.1 else u.2.2) (fun _ _ => 0) s_0)) (va_A [(h0, .inr (1, [.null, .null, .null, .int 0, .int 0, .int 0, .int 0, .int 0, .int 0]))] sz)) 3 37 (va_A [(h0, .inr (1, [.null, .null, .null, .int 0, .int 0, .int 0, .int 0, .int 0, .int 0]))] sz) := by
  refine Met.ofW (cc := cX1_init) (maxL := 2) (ret := none) (by decide) rfl ?_
  intro p e s m args below meth c s₁ B hml hv
  obtain ⟨rfl, hsz, hP, hK, hAO, hD0⟩ := hv
  have hx := B.exec
  have hb := B.bytes
  have hr := B.returns
  have hts := atoms_spec (ws := wsX1_init) B.pre
  have hown : s.vm.findClass RX1 = some m.cls := findClass_of_methodNamed B.named
  have hlocks := B.notSynchronized
  have hin9 : meth.name = "<init>" := (name_of_methodNamed B.named B.method).1
  subst hsz
  have hD := hD0.self (sz := s.heap.size)
  generalize hAe : va_A [(h0, .inr (1, [.null, .null, .null, .int 0, .int 0, .int 0, .int 0, .int 0, .int 0]))] s.heap.size = A at hD ⊢
  have hA : ∀ q : Nat, s.heap.size ≤ q → A q := fun q h => by rw [← hAe]; exact Or.inr h
  have hS : va_S A s.heap s.heap [] := va_S.rf
  have hl := lv_entry ([.ref h0]) (n := 2) (Nat.le_of_ble_eq_true rfl)
  rw [lg_entry_eq]
  generalize (lg_sl ([.ref h0]) ++ List.replicate (2 - (lg_sl ([.ref h0])).length) Slot.unset).toArray = ls at hl ⊢
  have hl : lv_has ls 2 [(0, .ref h0)] := hl
  have hi1 : ∀ w ∈ wsX10, w ∈ wsX1_init := fun w h => List.mem_cons_of_mem _ (List.mem_append_right _ h)
  refine lv_aload_n hx hb dX1_init_0 rfl (lv_at hl 0 rfl) ?_
  refine W.objInit hx hb hown (hts (.methodLink RX1 3 objectInit) (List.mem_of_getElem? (i := 1) rfl)) (hts (.instanceMethod objectInit) (List.mem_of_getElem? (i := 2) rfl)) (hts (.code objectInit ⟨#[0xb1]⟩ 1 none) (List.mem_of_getElem? (i := 3) rfl)) rfl (by rw [hml]; exact hl.1) rfl dX1_init_1 (Nat.le_of_ble_eq_true rfl) (Nat.le_of_ble_eq_true rfl) ?_
  refine W.eq (g2 := F0 m 4 ls []) rfl ?_
  refine lv_aload_n hx hb dX1_init_4 rfl (lv_at hl 0 rfl) ?_
  refine lv_iconst (v := 5) hx hb dX1_init_5 (by decide) ?_
  refine va_newq (C := RX0) (N' := 5) hx hb hown (hts (.classLink RX1 9 RX0) (List.mem_of_getElem? (i := 4) rfl)) hAO hK hP hD hS hA (by decide) (by decide) (Nat.le_of_ble_eq_true rfl) (Nat.le_of_ble_eq_true rfl) (Nat.le_of_ble_eq_true rfl) dX1_init_6 (fun q6 cA H hKn hP hD hS => ?_)
  have ecA : cA = cP := kc_obj (hKn.2 3 _ rfl).2 (hK.2 2 _ rfl).2
  rw [ecA] at hP hD
  have hP : va_P D vwCl [(h0, .inr (1, [.null, .null, .null, .int 0, .int 0, .int 0, .int 0, .int 0, .int 0])), (q6, .inl (cP, (5, .inr (.inr (.inr (.inr (fun _ => none)))))))] H := hP
  have hD : va_D A [(h0, .inr (1, [.null, .null, .null, .int 0, .int 0, .int 0, .int 0, .int 0, .int 0])), (q6, .inl (cP, (5, .inr (.inr (.inr (.inr (fun _ => none)))))))] := hD
  refine k_putF (D := D) (ci := 1) (v := .ref q6) (ty := .array (.object "GracefulRestart$Peer")) (C := RX1) (T := TX1) (N := 9) hx hb hts hi1 tyX1 tyX1_ok nmX1 hown hK hP hD hS 0 rfl rfl 0 (by decide) (hts (.fieldLink RX1 11 "GracefulRestart" "peers" "[LGracefulRestart$Peer;") (List.mem_of_getElem? (i := 5) rfl)) (fun _ h9 => h9) rfl hin9 rfl (by decide +kernel) rfl rfl (Nat.le_of_ble_eq_true rfl) (W1 := [(h0, .inr (1, [.ref q6, .null, .null, .int 0, .int 0, .int 0, .int 0, .int 0, .int 0])), (q6, .inl (cP, (5, .inr (.inr (.inr (.inr (fun _ => none)))))))]) rfl dX1_init_9 (fun H locs hP hD hS => ?_)
  refine lv_aload_n hx hb dX1_init_12 rfl (lv_at hl 0 rfl) ?_
  refine lv_bipush (v := 16) hx hb dX1_init_13 (by decide) ?_
  refine va_newa (atype := .int) (a0 := (16, .inl z9)) (N' := 16) hx hb (hts (.arrayClass .int) (List.mem_of_getElem? (i := 6) rfl)) rfl hK hP hD hS hA (fun _ => rfl) (by decide) (by decide) (Nat.le_of_ble_eq_true rfl) (Nat.le_of_ble_eq_true rfl) (Nat.le_of_ble_eq_true rfl) dX1_init_15 (fun q15 cA H hKn hP hD hS => ?_)
  have ecA : cA = cI := kc_int (hKn.2 3 _ rfl).2 (hK.2 0 _ rfl).2
  rw [ecA] at hP hD
  have hP : va_P D vwCl [(h0, .inr (1, [.ref q6, .null, .null, .int 0, .int 0, .int 0, .int 0, .int 0, .int 0])), (q6, .inl (cP, (5, .inr (.inr (.inr (.inr (fun _ => none))))))), (q15, .inl (cI, (16, .inl z9)))] H := hP
  have hD : va_D A [(h0, .inr (1, [.ref q6, .null, .null, .int 0, .int 0, .int 0, .int 0, .int 0, .int 0])), (q6, .inl (cP, (5, .inr (.inr (.inr (.inr (fun _ => none))))))), (q15, .inl (cI, (16, .inl z9)))] := hD
  refine k_putF (D := D) (ci := 1) (v := .ref q15) (ty := .array .int) (C := RX1) (T := TX1) (N := 9) hx hb hts hi1 tyX1 tyX1_ok nmX1 hown hK hP hD hS 0 rfl rfl 1 (by decide) (hts (.fieldLink RX1 15 "GracefulRestart" "hops" "[I") (List.mem_of_getElem? (i := 7) rfl)) (fun _ h9 => h9) rfl hin9 rfl (by decide +kernel) rfl rfl (Nat.le_of_ble_eq_true rfl) (W1 := [(h0, .inr (1, [.ref q6, .ref q15, .null, .int 0, .int 0, .int 0, .int 0, .int 0, .int 0])), (q6, .inl (cP, (5, .inr (.inr (.inr (.inr (fun _ => none))))))), (q15, .inl (cI, (16, .inl z9)))]) rfl dX1_init_17 (fun H locs hP hD hS => ?_)
  refine lv_aload_n hx hb dX1_init_20 rfl (lv_at hl 0 rfl) ?_
  refine lv_bipush (v := 16) hx hb dX1_init_21 (by decide) ?_
  refine va_newa (atype := .boolean) (a0 := (16, .inl z9)) (N' := 16) hx hb (hts (.arrayClass .boolean) (List.mem_of_getElem? (i := 8) rfl)) rfl hK hP hD hS hA (fun _ => rfl) (by decide) (by decide) (Nat.le_of_ble_eq_true rfl) (Nat.le_of_ble_eq_true rfl) (Nat.le_of_ble_eq_true rfl) dX1_init_23 (fun q23 cA H hKn hP hD hS => ?_)
  have ecA : cA = cZ := kc_bool (hKn.2 3 _ rfl).2 (hK.2 1 _ rfl).2
  rw [ecA] at hP hD
  have hP : va_P D vwCl [(h0, .inr (1, [.ref q6, .ref q15, .null, .int 0, .int 0, .int 0, .int 0, .int 0, .int 0])), (q6, .inl (cP, (5, .inr (.inr (.inr (.inr (fun _ => none))))))), (q15, .inl (cI, (16, .inl z9))), (q23, .inl (cZ, (16, .inl z9)))] H := hP
  have hD : va_D A [(h0, .inr (1, [.ref q6, .ref q15, .null, .int 0, .int 0, .int 0, .int 0, .int 0, .int 0])), (q6, .inl (cP, (5, .inr (.inr (.inr (.inr (fun _ => none))))))), (q15, .inl (cI, (16, .inl z9))), (q23, .inl (cZ, (16, .inl z9)))] := hD
  refine k_putF (D := D) (ci := 1) (v := .ref q23) (ty := .array .boolean) (C := RX1) (T := TX1) (N := 9) hx hb hts hi1 tyX1 tyX1_ok nmX1 hown hK hP hD hS 0 rfl rfl 2 (by decide) (hts (.fieldLink RX1 19 "GracefulRestart" "staleHops" "[Z") (List.mem_of_getElem? (i := 9) rfl)) (fun _ h9 => h9) rfl hin9 rfl (by decide +kernel) rfl rfl (Nat.le_of_ble_eq_true rfl) (W1 := [(h0, .inr (1, [.ref q6, .ref q15, .ref q23, .int 0, .int 0, .int 0, .int 0, .int 0, .int 0])), (q6, .inl (cP, (5, .inr (.inr (.inr (.inr (fun _ => none))))))), (q15, .inl (cI, (16, .inl z9))), (q23, .inl (cZ, (16, .inl z9)))]) rfl dX1_init_25 (fun H locs hP hD hS => ?_)
  refine W.widen (k := 3) (n := 37) (Nat.le_of_ble_eq_true rfl) (Nat.le_of_ble_eq_true rfl) ?_
  refine lv_iconst (v := 0) hx hb dX1_init_28 (by decide) ?_
  refine lv_istore_n (lv' := [(1, .int 0), (0, .ref h0)]) hx hb dX1_init_29 rfl hl (by decide) rfl (fun ls hl => ?_)
  have lp30 : ∀ (n9 i : Nat), i + n9 = 16 → ∀ (H : Heap) (locs : List Loc) (ls : Array Slot), va_P D vwCl [(h0, .inr (1, [.ref q6, .ref q15, .ref q23, .int 0, .int 0, .int 0, .int 0, .int 0, .int 0])), (q6, .inl (cP, (5, .inr (.inr (.inr (.inr (fun _ => none))))))), (q15, .inl (cI, (16, .inl (kSet (-6) i z9)))), (q23, .inl (cZ, (16, .inl z9)))] H → va_D A [(h0, .inr (1, [.ref q6, .ref q15, .ref q23, .int 0, .int 0, .int 0, .int 0, .int 0, .int 0])), (q6, .inl (cP, (5, .inr (.inr (.inr (.inr (fun _ => none))))))), (q15, .inl (cI, (16, .inl (kSet (-6) i z9)))), (q23, .inl (cZ, (16, .inl z9)))] → va_S A s.heap H locs → lv_has ls 2 [(0, .ref h0), (1, .int (nI i))] → W p l e (headSpec wsX1_init ({ frames := 1, cells := 3, slots := 37, locals := 12 })).room s m ([.ref h0] : List Value).toArray below meth c H locs 3 37 (MQ below (va_Qv (fun _ : Nat × Nat × Nat => True) (fun u t => va_P D vwCl (xW cI cZ cP (fun k => if k = 0 then h0 else if k = 1 then u.1 else if k = 2 then u.2.1 else u.2.2) (fun _ _ => 0) s_0) t.heap ∧ va_D A (xW cI cZ cP (fun k => if k = 0 then h0 else if k = 1 then u.1 else if k = 2 then u.2.1 else u.2.2) (fun _ _ => 0) s_0)) A) ([.ref h0] : List Value).toArray s 3 37 A) (F0 m 30 ls []) := by
    intro n9
    induction n9 with
    | zero =>
      intro i hi9 H locs ls hP hD hS hl
      have hi8 : i = 16 := by omega
      subst hi8
      refine lv_iload_n hx hb dX1_init_30 rfl (lv_at hl 1 rfl) ?_
      refine lv_bipush (v := 16) hx hb dX1_init_31 (by decide) ?_
      refine lv_icmp_ge (tgt := 50) hx hb dX1_init_33 (by decide) (fun _ => ?_) (fun c_ => absurd (by decide) c_)
      refine lv_aload_n hx hb dX1_init_50 rfl (lv_at hl 0 rfl) ?_
      refine lv_iconst (v := 0) hx hb dX1_init_51 (by decide) ?_
      refine k_put (D := D) (ci := 1) (v := .int 0) (ty := .int) (C := RX1) (T := TX1) (N := 9) hx hb hts hi1 tyX1 tyX1_ok nmX1 hown hK hP hD hS 0 rfl rfl 3 (by decide) (hts (.fieldLink RX1 23 "GracefulRestart" "peerCount" "I") (List.mem_of_getElem? (i := 10) rfl)) (fun _ h9 => h9) rfl (by decide +kernel) rfl rfl (Nat.le_of_ble_eq_true rfl) (W1 := [(h0, .inr (1, [.ref q6, .ref q15, .ref q23, .int 0, .int 0, .int 0, .int 0, .int 0, .int 0])), (q6, .inl (cP, (5, .inr (.inr (.inr (.inr (fun _ => none))))))), (q15, .inl (cI, (16, .inl (kSet (-6) 16 z9)))), (q23, .inl (cZ, (16, .inl z9)))]) rfl dX1_init_52 (fun H locs hP hD hS => ?_)
      refine lv_aload_n hx hb dX1_init_55 rfl (lv_at hl 0 rfl) ?_
      refine lv_bipush (v := 10) hx hb dX1_init_56 (by decide) ?_
      refine k_put (D := D) (ci := 1) (v := .int 10) (ty := .int) (C := RX1) (T := TX1) (N := 9) hx hb hts hi1 tyX1 tyX1_ok nmX1 hown hK hP hD hS 0 rfl rfl 4 (by decide) (hts (.fieldLink RX1 27 "GracefulRestart" "restartTime" "I") (List.mem_of_getElem? (i := 11) rfl)) (fun _ h9 => h9) rfl (by decide +kernel) rfl rfl (Nat.le_of_ble_eq_true rfl) (W1 := [(h0, .inr (1, [.ref q6, .ref q15, .ref q23, .int 0, .int 10, .int 0, .int 0, .int 0, .int 0])), (q6, .inl (cP, (5, .inr (.inr (.inr (.inr (fun _ => none))))))), (q15, .inl (cI, (16, .inl (kSet (-6) 16 z9)))), (q23, .inl (cZ, (16, .inl z9)))]) rfl dX1_init_58 (fun H locs hP hD hS => ?_)
      refine lv_aload_n hx hb dX1_init_61 rfl (lv_at hl 0 rfl) ?_
      refine lv_bipush (v := 20) hx hb dX1_init_62 (by decide) ?_
      refine k_put (D := D) (ci := 1) (v := .int 20) (ty := .int) (C := RX1) (T := TX1) (N := 9) hx hb hts hi1 tyX1 tyX1_ok nmX1 hown hK hP hD hS 0 rfl rfl 5 (by decide) (hts (.fieldLink RX1 30 "GracefulRestart" "staleTime" "I") (List.mem_of_getElem? (i := 12) rfl)) (fun _ h9 => h9) rfl (by decide +kernel) rfl rfl (Nat.le_of_ble_eq_true rfl) (W1 := [(h0, .inr (1, [.ref q6, .ref q15, .ref q23, .int 0, .int 10, .int 20, .int 0, .int 0, .int 0])), (q6, .inl (cP, (5, .inr (.inr (.inr (.inr (fun _ => none))))))), (q15, .inl (cI, (16, .inl (kSet (-6) 16 z9)))), (q23, .inl (cZ, (16, .inl z9)))]) rfl dX1_init_64 (fun H locs hP hD hS => ?_)
      refine lv_aload_n hx hb dX1_init_67 rfl (lv_at hl 0 rfl) ?_
      refine lv_bipush (v := 15) hx hb dX1_init_68 (by decide) ?_
      refine k_put (D := D) (ci := 1) (v := .int 15) (ty := .int) (C := RX1) (T := TX1) (N := 9) hx hb hts hi1 tyX1 tyX1_ok nmX1 hown hK hP hD hS 0 rfl rfl 6 (by decide) (hts (.fieldLink RX1 33 "GracefulRestart" "deferralTime" "I") (List.mem_of_getElem? (i := 13) rfl)) (fun _ h9 => h9) rfl (by decide +kernel) rfl rfl (Nat.le_of_ble_eq_true rfl) (W1 := [(h0, .inr (1, [.ref q6, .ref q15, .ref q23, .int 0, .int 10, .int 20, .int 15, .int 0, .int 0])), (q6, .inl (cP, (5, .inr (.inr (.inr (.inr (fun _ => none))))))), (q15, .inl (cI, (16, .inl (kSet (-6) 16 z9)))), (q23, .inl (cZ, (16, .inl z9)))]) rfl dX1_init_70 (fun H locs hP hD hS => ?_)
      refine lv_aload_n hx hb dX1_init_73 rfl (lv_at hl 0 rfl) ?_
      refine lv_iconst (v := 0) hx hb dX1_init_74 (by decide) ?_
      refine k_put (D := D) (ci := 1) (v := .int 0) (ty := .boolean) (C := RX1) (T := TX1) (N := 9) hx hb hts hi1 tyX1 tyX1_ok nmX1 hown hK hP hD hS 0 rfl rfl 7 (by decide) (hts (.fieldLink RX1 36 "GracefulRestart" "deferring" "Z") (List.mem_of_getElem? (i := 14) rfl)) (fun _ h9 => h9) rfl (by decide +kernel) rfl rfl (Nat.le_of_ble_eq_true rfl) (W1 := [(h0, .inr (1, [.ref q6, .ref q15, .ref q23, .int 0, .int 10, .int 20, .int 15, .int 0, .int 0])), (q6, .inl (cP, (5, .inr (.inr (.inr (.inr (fun _ => none))))))), (q15, .inl (cI, (16, .inl (kSet (-6) 16 z9)))), (q23, .inl (cZ, (16, .inl z9)))]) rfl dX1_init_75 (fun H locs hP hD hS => ?_)
      refine lv_aload_n hx hb dX1_init_78 rfl (lv_at hl 0 rfl) ?_
      refine lv_iconst (v := 0) hx hb dX1_init_79 (by decide) ?_
      refine k_put (D := D) (ci := 1) (v := .int 0) (ty := .int) (C := RX1) (T := TX1) (N := 9) hx hb hts hi1 tyX1 tyX1_ok nmX1 hown hK hP hD hS 0 rfl rfl 8 (by decide) (hts (.fieldLink RX1 40 "GracefulRestart" "deferralLeft" "I") (List.mem_of_getElem? (i := 15) rfl)) (fun _ h9 => h9) rfl (by decide +kernel) rfl rfl (Nat.le_of_ble_eq_true rfl) (W1 := [(h0, .inr (1, [.ref q6, .ref q15, .ref q23, .int 0, .int 10, .int 20, .int 15, .int 0, .int 0])), (q6, .inl (cP, (5, .inr (.inr (.inr (.inr (fun _ => none))))))), (q15, .inl (cI, (16, .inl (kSet (-6) 16 z9)))), (q23, .inl (cZ, (16, .inl z9)))]) rfl dX1_init_80 (fun H locs hP hD hS => ?_)
      have exR : xR (fun _ _ => 0) 0 = fun _ => none := by funext k; simp [xR]
      have eW : [(h0, .inr (1, [.ref q6, .ref q15, .ref q23, .int 0, .int 10, .int 20, .int 15, .int 0, .int 0])), (q6, .inl (cP, (5, .inr (.inr (.inr (.inr (fun _ => none))))))), (q15, .inl (cI, (16, .inl (kSet (-6) 16 z9)))), (q23, .inl (cZ, (16, .inl z9)))] = xW cI cZ cP (fun k => if k = 0 then h0 else if k = 1 then (q6, q15, q23).1 else if k = 2 then (q6, q15, q23).2.1 else (q6, q15, q23).2.2) (fun _ _ => 0) s_0 := by
        show _ = [(h0, _), (q6, Sum.inl (cP, 5, Sum.inr (Sum.inr (Sum.inr (Sum.inr (xR (fun _ _ => 0) 0)))))), (q15, _), (q23, _)] ++ []
        rw [exR]
        rfl
      rw [eW] at hP hD
      exact W.vret hx hb hr (fun t ht hW => ⟨⟨(q6, q15, q23), rfl, trivial, by rw [ht]; exact hP, hD⟩, hS.F ht⟩) hS.2.2 dX1_init_83
    | succ n9 ih =>
      intro i hi9 H locs ls hP hD hS hl
      have hlt : i < 16 := by omega
      refine lv_iload_n hx hb dX1_init_30 rfl (lv_at hl 1 rfl) ?_
      refine lv_bipush (v := 16) hx hb dX1_init_31 (by decide) ?_
      refine lv_icmp_ge (tgt := 50) hx hb dX1_init_33 (by decide) (fun c_ => absurd c_ (nI_ge (a := i) (b := 16) hlt (by decide))) (fun _ => ?_)
      refine lv_aload_n hx hb dX1_init_36 rfl (lv_at hl 0 rfl) ?_
      refine va_get (D := D) (ci := 1) (v := .ref q15) (C := RX1) (T := TX1) (N := 9) hx hb hts hi1 hown hK hP 0 rfl rfl 1 (by decide) (hts (.fieldLink RX1 15 "GracefulRestart" "hops" "[I") (List.mem_of_getElem? (i := 7) rfl)) (fun _ h9 => h9) rfl dX1_init_37 ?_
      refine lv_iload_n hx hb dX1_init_40 rfl (lv_at hl 1 rfl) ?_
      refine lv_bipush (v := -6) hx hb dX1_init_41 (by decide) ?_
      refine k_iast (k := i) hx hb hK hP hD hS 2 0 rfl rfl rfl (by omega) (by decide) (W1 := [(h0, .inr (1, [.ref q6, .ref q15, .ref q23, .int 0, .int 0, .int 0, .int 0, .int 0, .int 0])), (q6, .inl (cP, (5, .inr (.inr (.inr (.inr (fun _ => none))))))), (q15, .inl (cI, (16, .inl (kSet (-6) (i + 1) z9)))), (q23, .inl (cZ, (16, .inl z9)))]) (by rw [← kSet_s]; rfl) dX1_init_43 (fun H locs hP hD hS => ?_)
      refine lv_iinc (v := nI (i + 1)) (lv' := [(1, .int (nI (i + 1))), (0, .ref h0)]) hx hb dX1_init_44 hl (k := 1) rfl (nI_1 i) (by decide) rfl (fun ls hl => ?_)
      refine lv_goto (tgt := 30) hx hb dX1_init_47 (by decide) ?_
      exact ih (i + 1) (by omega) _ _ ls hP hD hS (lv_sub hl [1, 0] rfl)
  exact lp30 16 0 (by omega) _ _ ls (by rw [kSet_0]; exact hP) (by rw [kSet_0]; exact hD) hS (lv_sub hl [1, 0] rfl)

set_option maxRecDepth 100000 in
set_option maxHeartbeats 4000000 in
/-- GracefulRestartModel(): ten rows come -/
theorem c_X2_init (l : Launch) (D : va_G) (cI cZ cP : ClassId) (h0 : Nat) (sz : Nat) : Met l yX2_init wsX2_init ({ frames := 1, cells := 10, slots := 302, locals := 12 }) (va_Pc [.ref h0] (fun U => U.heap.size = sz ∧ va_P D vwCl [(h0, .inr (2, [.int 0, .int 0, .int 0, .int 0, .null, .null, .null, .null, .null, .null, .null, .null, .null, .null, .int 0, .int 0]))] U.heap ∧ va_K D vwCl (kTy cI cZ cP) U ∧ va_D (fun _ => True) [(h0, .inr (2, [.int 0, .int 0, .int 0, .int 0, .null, .null, .null, .null, .null, .null, .null, .null, .null, .null, .int 0, .int 0]))])) (va_Qv (fun _ : Nat × Nat × Nat × Nat × Nat × Nat × Nat × Nat × Nat × Nat => True) (fun u t => va_P D vwCl (mW cI cZ (fun k => if k = 0 then h0 else if k = 1 then u.1 else if k = 2 then u.2.1 else if k = 3 then u.2.2.1 else if k = 4 then u.2.2.2.1 else if k = 5 then u.2.2.2.2.1 else if k = 6 then u.2.2.2.2.2.1 else if k = 7 then u.2.2.2.2.2.2.1 else if k = 8 then u.2.2.2.2.2.2.2.1 else if k = 9 then u.2.2.2.2.2.2.2.2.1 else u.2.2.2.2.2.2.2.2.2) s_0) t.heap ∧ va_D (va_A [(h0, .inr (2, [.int 0, .int 0, .int 0, .int 0, .null, .null, .null, .null, .null, .null, .null, .null, .null, .null, .int 0, .int 0]))] sz) (mW cI cZ (fun k => if k = 0 then h0 else if k = 1 then u.1 else if k = 2 then u.2.1 else if k = 3 then u.2.2.1 else if k = 4 then u.2.2.2.1 else if k = 5 then u.2.2.2.2.1 else if k = 6 then u.2.2.2.2.2.1 else if k = 7 then u.2.2.2.2.2.2.1 else if k = 8 then u.2.2.2.2.2.2.2.1 else if k = 9 then u.2.2.2.2.2.2.2.2.1 else u.2.2.2.2.2.2.2.2.2) s_0)) (va_A [(h0, .inr (2, [.int 0, .int 0, .int 0, .int 0, .null, .null, .null, .null, .null, .null, .null, .null, .null, .null, .int 0, .int 0]))] sz)) 10 302 (va_A [(h0, .inr (2, [.int 0, .int 0, .int 0, .int 0, .null, .null, .null, .null, .null, .null, .null, .null, .null, .null, .int 0, .int 0]))] sz) := by
  refine Met.ofW (cc := cX2_init) (maxL := 2) (ret := none) (by decide) rfl ?_
  intro p e s m args below meth c s₁ B hml hv
  obtain ⟨rfl, hsz, hP, hK, hD0⟩ := hv
  have hx := B.exec
  have hb := B.bytes
  have hr := B.returns
  have hts := atoms_spec (ws := wsX2_init) B.pre
  have hown : s.vm.findClass RX2 = some m.cls := findClass_of_methodNamed B.named
  have hlocks := B.notSynchronized
  have hin9 : meth.name = "<init>" := (name_of_methodNamed B.named B.method).1
  subst hsz
  have hD := hD0.self (sz := s.heap.size)
  generalize hAe : va_A [(h0, .inr (2, [.int 0, .int 0, .int 0, .int 0, .null, .null, .null, .null, .null, .null, .null, .null, .null, .null, .int 0, .int 0]))] s.heap.size = A at hD ⊢
  have hA : ∀ q : Nat, s.heap.size ≤ q → A q := fun q h => by rw [← hAe]; exact Or.inr h
  have hS : va_S A s.heap s.heap [] := va_S.rf
  have hl := lv_entry ([.ref h0]) (n := 2) (Nat.le_of_ble_eq_true rfl)
  rw [lg_entry_eq]
  generalize (lg_sl ([.ref h0]) ++ List.replicate (2 - (lg_sl ([.ref h0])).length) Slot.unset).toArray = ls at hl ⊢
  have hl : lv_has ls 2 [(0, .ref h0)] := hl
  have hi2 : ∀ w ∈ wsX20, w ∈ wsX2_init := fun w h => List.mem_cons_of_mem _ (List.mem_append_right _ h)
  refine lv_aload_n hx hb dX2_init_0 rfl (lv_at hl 0 rfl) ?_
  refine W.objInit hx hb hown (hts (.methodLink RX2 1 objectInit) (List.mem_of_getElem? (i := 1) rfl)) (hts (.instanceMethod objectInit) (List.mem_of_getElem? (i := 2) rfl)) (hts (.code objectInit ⟨#[0xb1]⟩ 1 none) (List.mem_of_getElem? (i := 3) rfl)) rfl (by rw [hml]; exact hl.1) rfl dX2_init_1 (Nat.le_of_ble_eq_true rfl) (Nat.le_of_ble_eq_true rfl) ?_
  refine W.eq (g2 := F0 m 4 ls []) rfl ?_
  refine lv_aload_n hx hb dX2_init_4 rfl (lv_at hl 0 rfl) ?_
  refine lv_bipush (v := 10) hx hb dX2_init_5 (by decide) ?_
  refine k_put (D := D) (ci := 2) (v := .int 10) (ty := .int) (C := RX2) (T := TX2) (N := 16) hx hb hts hi2 tyX2 tyX2_ok nmX2 hown hK hP hD hS 0 rfl rfl 0 (by decide) (hts (.fieldLink RX2 7 "GracefulRestartModel" "restartTime" "I") (List.mem_of_getElem? (i := 4) rfl)) (fun _ h9 => h9) rfl (by decide +kernel) rfl rfl (Nat.le_of_ble_eq_true rfl) (W1 := [(h0, .inr (2, [.int 10, .int 0, .int 0, .int 0, .null, .null, .null, .null, .null, .null, .null, .null, .null, .null, .int 0, .int 0]))]) rfl dX2_init_7 (fun H locs hP hD hS => ?_)
  refine lv_aload_n hx hb dX2_init_10 rfl (lv_at hl 0 rfl) ?_
  refine lv_bipush (v := 20) hx hb dX2_init_11 (by decide) ?_
  refine k_put (D := D) (ci := 2) (v := .int 20) (ty := .int) (C := RX2) (T := TX2) (N := 16) hx hb hts hi2 tyX2 tyX2_ok nmX2 hown hK hP hD hS 0 rfl rfl 1 (by decide) (hts (.fieldLink RX2 13 "GracefulRestartModel" "staleTime" "I") (List.mem_of_getElem? (i := 5) rfl)) (fun _ h9 => h9) rfl (by decide +kernel) rfl rfl (Nat.le_of_ble_eq_true rfl) (W1 := [(h0, .inr (2, [.int 10, .int 20, .int 0, .int 0, .null, .null, .null, .null, .null, .null, .null, .null, .null, .null, .int 0, .int 0]))]) rfl dX2_init_13 (fun H locs hP hD hS => ?_)
  refine lv_aload_n hx hb dX2_init_16 rfl (lv_at hl 0 rfl) ?_
  refine lv_bipush (v := 15) hx hb dX2_init_17 (by decide) ?_
  refine k_put (D := D) (ci := 2) (v := .int 15) (ty := .int) (C := RX2) (T := TX2) (N := 16) hx hb hts hi2 tyX2 tyX2_ok nmX2 hown hK hP hD hS 0 rfl rfl 2 (by decide) (hts (.fieldLink RX2 16 "GracefulRestartModel" "deferralTime" "I") (List.mem_of_getElem? (i := 6) rfl)) (fun _ h9 => h9) rfl (by decide +kernel) rfl rfl (Nat.le_of_ble_eq_true rfl) (W1 := [(h0, .inr (2, [.int 10, .int 20, .int 15, .int 0, .null, .null, .null, .null, .null, .null, .null, .null, .null, .null, .int 0, .int 0]))]) rfl dX2_init_19 (fun H locs hP hD hS => ?_)
  refine lv_aload_n hx hb dX2_init_22 rfl (lv_at hl 0 rfl) ?_
  refine lv_iconst (v := 5) hx hb dX2_init_23 (by decide) ?_
  refine va_newa (atype := .boolean) (a0 := (5, .inl z9)) (N' := 5) hx hb (hts (.arrayClass .boolean) (List.mem_of_getElem? (i := 7) rfl)) rfl hK hP hD hS hA (fun _ => rfl) (by decide) (by decide) (Nat.le_of_ble_eq_true rfl) (Nat.le_of_ble_eq_true rfl) (Nat.le_of_ble_eq_true rfl) dX2_init_24 (fun q24 cA H hKn hP hD hS => ?_)
  have ecA : cA = cZ := kc_bool (hKn.2 3 _ rfl).2 (hK.2 1 _ rfl).2
  rw [ecA] at hP hD
  have hP : va_P D vwCl [(h0, .inr (2, [.int 10, .int 20, .int 15, .int 0, .null, .null, .null, .null, .null, .null, .null, .null, .null, .null, .int 0, .int 0])), (q24, .inl (cZ, (5, .inl z9)))] H := hP
  have hD : va_D A [(h0, .inr (2, [.int 10, .int 20, .int 15, .int 0, .null, .null, .null, .null, .null, .null, .null, .null, .null, .null, .int 0, .int 0])), (q24, .inl (cZ, (5, .inl z9)))] := hD
  refine k_putF (D := D) (ci := 2) (v := .ref q24) (ty := .array .boolean) (C := RX2) (T := TX2) (N := 16) hx hb hts hi2 tyX2 tyX2_ok nmX2 hown hK hP hD hS 0 rfl rfl 4 (by decide) (hts (.fieldLink RX2 19 "GracefulRestartModel" "isGraceful" "[Z") (List.mem_of_getElem? (i := 8) rfl)) (fun _ h9 => h9) rfl hin9 rfl (by decide +kernel) rfl rfl (Nat.le_of_ble_eq_true rfl) (W1 := [(h0, .inr (2, [.int 10, .int 20, .int 15, .int 0, .ref q24, .null, .null, .null, .null, .null, .null, .null, .null, .null, .int 0, .int 0])), (q24, .inl (cZ, (5, .inl z9)))]) rfl dX2_init_26 (fun H locs hP hD hS => ?_)
  refine lv_aload_n hx hb dX2_init_29 rfl (lv_at hl 0 rfl) ?_
  refine lv_iconst (v := 5) hx hb dX2_init_30 (by decide) ?_
  refine va_newa (atype := .int) (a0 := (5, .inl z9)) (N' := 5) hx hb (hts (.arrayClass .int) (List.mem_of_getElem? (i := 9) rfl)) rfl hK hP hD hS hA (fun _ => rfl) (by decide) (by decide) (Nat.le_of_ble_eq_true rfl) (Nat.le_of_ble_eq_true rfl) (Nat.le_of_ble_eq_true rfl) dX2_init_31 (fun q31 cA H hKn hP hD hS => ?_)
  have ecA : cA = cI := kc_int (hKn.2 3 _ rfl).2 (hK.2 0 _ rfl).2
  rw [ecA] at hP hD
  have hP : va_P D vwCl [(h0, .inr (2, [.int 10, .int 20, .int 15, .int 0, .ref q24, .null, .null, .null, .null, .null, .null, .null, .null, .null, .int 0, .int 0])), (q24, .inl (cZ, (5, .inl z9))), (q31, .inl (cI, (5, .inl z9)))] H := hP
  have hD : va_D A [(h0, .inr (2, [.int 10, .int 20, .int 15, .int 0, .ref q24, .null, .null, .null, .null, .null, .null, .null, .null, .null, .int 0, .int 0])), (q24, .inl (cZ, (5, .inl z9))), (q31, .inl (cI, (5, .inl z9)))] := hD
  refine k_putF (D := D) (ci := 2) (v := .ref q31) (ty := .array .int) (C := RX2) (T := TX2) (N := 16) hx hb hts hi2 tyX2 tyX2_ok nmX2 hown hK hP hD hS 0 rfl rfl 5 (by decide) (hts (.fieldLink RX2 23 "GracefulRestartModel" "stateOf" "[I") (List.mem_of_getElem? (i := 10) rfl)) (fun _ h9 => h9) rfl hin9 rfl (by decide +kernel) rfl rfl (Nat.le_of_ble_eq_true rfl) (W1 := [(h0, .inr (2, [.int 10, .int 20, .int 15, .int 0, .ref q24, .ref q31, .null, .null, .null, .null, .null, .null, .null, .null, .int 0, .int 0])), (q24, .inl (cZ, (5, .inl z9))), (q31, .inl (cI, (5, .inl z9)))]) rfl dX2_init_33 (fun H locs hP hD hS => ?_)
  refine lv_aload_n hx hb dX2_init_36 rfl (lv_at hl 0 rfl) ?_
  refine lv_iconst (v := 5) hx hb dX2_init_37 (by decide) ?_
  refine va_newa (atype := .int) (a0 := (5, .inl z9)) (N' := 5) hx hb (hts (.arrayClass .int) (List.mem_of_getElem? (i := 9) rfl)) rfl hK hP hD hS hA (fun _ => rfl) (by decide) (by decide) (Nat.le_of_ble_eq_true rfl) (Nat.le_of_ble_eq_true rfl) (Nat.le_of_ble_eq_true rfl) dX2_init_38 (fun q38 cA H hKn hP hD hS => ?_)
  have ecA : cA = cI := kc_int (hKn.2 3 _ rfl).2 (hK.2 0 _ rfl).2
  rw [ecA] at hP hD
  have hP : va_P D vwCl [(h0, .inr (2, [.int 10, .int 20, .int 15, .int 0, .ref q24, .ref q31, .null, .null, .null, .null, .null, .null, .null, .null, .int 0, .int 0])), (q24, .inl (cZ, (5, .inl z9))), (q31, .inl (cI, (5, .inl z9))), (q38, .inl (cI, (5, .inl z9)))] H := hP
  have hD : va_D A [(h0, .inr (2, [.int 10, .int 20, .int 15, .int 0, .ref q24, .ref q31, .null, .null, .null, .null, .null, .null, .null, .null, .int 0, .int 0])), (q24, .inl (cZ, (5, .inl z9))), (q31, .inl (cI, (5, .inl z9))), (q38, .inl (cI, (5, .inl z9)))] := hD
  refine k_putF (D := D) (ci := 2) (v := .ref q38) (ty := .array .int) (C := RX2) (T := TX2) (N := 16) hx hb hts hi2 tyX2 tyX2_ok nmX2 hown hK hP hD hS 0 rfl rfl 6 (by decide) (hts (.fieldLink RX2 27 "GracefulRestartModel" "restartTimerOf" "[I") (List.mem_of_getElem? (i := 11) rfl)) (fun _ h9 => h9) rfl hin9 rfl (by decide +kernel) rfl rfl (Nat.le_of_ble_eq_true rfl) (W1 := [(h0, .inr (2, [.int 10, .int 20, .int 15, .int 0, .ref q24, .ref q31, .ref q38, .null, .null, .null, .null, .null, .null, .null, .int 0, .int 0])), (q24, .inl (cZ, (5, .inl z9))), (q31, .inl (cI, (5, .inl z9))), (q38, .inl (cI, (5, .inl z9)))]) rfl dX2_init_40 (fun H locs hP hD hS => ?_)
  refine lv_aload_n hx hb dX2_init_43 rfl (lv_at hl 0 rfl) ?_
  refine lv_iconst (v := 5) hx hb dX2_init_44 (by decide) ?_
  refine va_newa (atype := .int) (a0 := (5, .inl z9)) (N' := 5) hx hb (hts (.arrayClass .int) (List.mem_of_getElem? (i := 9) rfl)) rfl hK hP hD hS hA (fun _ => rfl) (by decide) (by decide) (Nat.le_of_ble_eq_true rfl) (Nat.le_of_ble_eq_true rfl) (Nat.le_of_ble_eq_true rfl) dX2_init_45 (fun q45 cA H hKn hP hD hS => ?_)
  have ecA : cA = cI := kc_int (hKn.2 3 _ rfl).2 (hK.2 0 _ rfl).2
  rw [ecA] at hP hD
  have hP : va_P D vwCl [(h0, .inr (2, [.int 10, .int 20, .int 15, .int 0, .ref q24, .ref q31, .ref q38, .null, .null, .null, .null, .null, .null, .null, .int 0, .int 0])), (q24, .inl (cZ, (5, .inl z9))), (q31, .inl (cI, (5, .inl z9))), (q38, .inl (cI, (5, .inl z9))), (q45, .inl (cI, (5, .inl z9)))] H := hP
  have hD : va_D A [(h0, .inr (2, [.int 10, .int 20, .int 15, .int 0, .ref q24, .ref q31, .ref q38, .null, .null, .null, .null, .null, .null, .null, .int 0, .int 0])), (q24, .inl (cZ, (5, .inl z9))), (q31, .inl (cI, (5, .inl z9))), (q38, .inl (cI, (5, .inl z9))), (q45, .inl (cI, (5, .inl z9)))] := hD
  refine k_putF (D := D) (ci := 2) (v := .ref q45) (ty := .array .int) (C := RX2) (T := TX2) (N := 16) hx hb hts hi2 tyX2 tyX2_ok nmX2 hown hK hP hD hS 0 rfl rfl 7 (by decide) (hts (.fieldLink RX2 30 "GracefulRestartModel" "staleTimerOf" "[I") (List.mem_of_getElem? (i := 12) rfl)) (fun _ h9 => h9) rfl hin9 rfl (by decide +kernel) rfl rfl (Nat.le_of_ble_eq_true rfl) (W1 := [(h0, .inr (2, [.int 10, .int 20, .int 15, .int 0, .ref q24, .ref q31, .ref q38, .ref q45, .null, .null, .null, .null, .null, .null, .int 0, .int 0])), (q24, .inl (cZ, (5, .inl z9))), (q31, .inl (cI, (5, .inl z9))), (q38, .inl (cI, (5, .inl z9))), (q45, .inl (cI, (5, .inl z9)))]) rfl dX2_init_47 (fun H locs hP hD hS => ?_)
  refine lv_aload_n hx hb dX2_init_50 rfl (lv_at hl 0 rfl) ?_
  refine lv_bipush (v := 10) hx hb dX2_init_51 (by decide) ?_
  refine va_newa (atype := .boolean) (a0 := (10, .inl z9)) (N' := 10) hx hb (hts (.arrayClass .boolean) (List.mem_of_getElem? (i := 7) rfl)) rfl hK hP hD hS hA (fun _ => rfl) (by decide) (by decide) (Nat.le_of_ble_eq_true rfl) (Nat.le_of_ble_eq_true rfl) (Nat.le_of_ble_eq_true rfl) dX2_init_53 (fun q53 cA H hKn hP hD hS => ?_)
  have ecA : cA = cZ := kc_bool (hKn.2 3 _ rfl).2 (hK.2 1 _ rfl).2
  rw [ecA] at hP hD
  have hP : va_P D vwCl [(h0, .inr (2, [.int 10, .int 20, .int 15, .int 0, .ref q24, .ref q31, .ref q38, .ref q45, .null, .null, .null, .null, .null, .null, .int 0, .int 0])), (q24, .inl (cZ, (5, .inl z9))), (q31, .inl (cI, (5, .inl z9))), (q38, .inl (cI, (5, .inl z9))), (q45, .inl (cI, (5, .inl z9))), (q53, .inl (cZ, (10, .inl z9)))] H := hP
  have hD : va_D A [(h0, .inr (2, [.int 10, .int 20, .int 15, .int 0, .ref q24, .ref q31, .ref q38, .ref q45, .null, .null, .null, .null, .null, .null, .int 0, .int 0])), (q24, .inl (cZ, (5, .inl z9))), (q31, .inl (cI, (5, .inl z9))), (q38, .inl (cI, (5, .inl z9))), (q45, .inl (cI, (5, .inl z9))), (q53, .inl (cZ, (10, .inl z9)))] := hD
  refine k_putF (D := D) (ci := 2) (v := .ref q53) (ty := .array .boolean) (C := RX2) (T := TX2) (N := 16) hx hb hts hi2 tyX2 tyX2_ok nmX2 hown hK hP hD hS 0 rfl rfl 8 (by decide) (hts (.fieldLink RX2 33 "GracefulRestartModel" "hasMarked" "[Z") (List.mem_of_getElem? (i := 13) rfl)) (fun _ h9 => h9) rfl hin9 rfl (by decide +kernel) rfl rfl (Nat.le_of_ble_eq_true rfl) (W1 := [(h0, .inr (2, [.int 10, .int 20, .int 15, .int 0, .ref q24, .ref q31, .ref q38, .ref q45, .ref q53, .null, .null, .null, .null, .null, .int 0, .int 0])), (q24, .inl (cZ, (5, .inl z9))), (q31, .inl (cI, (5, .inl z9))), (q38, .inl (cI, (5, .inl z9))), (q45, .inl (cI, (5, .inl z9))), (q53, .inl (cZ, (10, .inl z9)))]) rfl dX2_init_55 (fun H locs hP hD hS => ?_)
  refine lv_aload_n hx hb dX2_init_58 rfl (lv_at hl 0 rfl) ?_
  refine lv_bipush (v := 80) hx hb dX2_init_59 (by decide) ?_
  refine va_newa (atype := .int) (a0 := (80, .inl z9)) (N' := 80) hx hb (hts (.arrayClass .int) (List.mem_of_getElem? (i := 9) rfl)) rfl hK hP hD hS hA (fun _ => rfl) (by decide) (by decide) (Nat.le_of_ble_eq_true rfl) (Nat.le_of_ble_eq_true rfl) (Nat.le_of_ble_eq_true rfl) dX2_init_61 (fun q61 cA H hKn hP hD hS => ?_)
  have ecA : cA = cI := kc_int (hKn.2 3 _ rfl).2 (hK.2 0 _ rfl).2
  rw [ecA] at hP hD
  have hP : va_P D vwCl [(h0, .inr (2, [.int 10, .int 20, .int 15, .int 0, .ref q24, .ref q31, .ref q38, .ref q45, .ref q53, .null, .null, .null, .null, .null, .int 0, .int 0])), (q24, .inl (cZ, (5, .inl z9))), (q31, .inl (cI, (5, .inl z9))), (q38, .inl (cI, (5, .inl z9))), (q45, .inl (cI, (5, .inl z9))), (q53, .inl (cZ, (10, .inl z9))), (q61, .inl (cI, (80, .inl z9)))] H := hP
  have hD : va_D A [(h0, .inr (2, [.int 10, .int 20, .int 15, .int 0, .ref q24, .ref q31, .ref q38, .ref q45, .ref q53, .null, .null, .null, .null, .null, .int 0, .int 0])), (q24, .inl (cZ, (5, .inl z9))), (q31, .inl (cI, (5, .inl z9))), (q38, .inl (cI, (5, .inl z9))), (q45, .inl (cI, (5, .inl z9))), (q53, .inl (cZ, (10, .inl z9))), (q61, .inl (cI, (80, .inl z9)))] := hD
  refine k_putF (D := D) (ci := 2) (v := .ref q61) (ty := .array .int) (C := RX2) (T := TX2) (N := 16) hx hb hts hi2 tyX2 tyX2_ok nmX2 hown hK hP hD hS 0 rfl rfl 9 (by decide) (hts (.fieldLink RX2 36 "GracefulRestartModel" "offered" "[I") (List.mem_of_getElem? (i := 14) rfl)) (fun _ h9 => h9) rfl hin9 rfl (by decide +kernel) rfl rfl (Nat.le_of_ble_eq_true rfl) (W1 := [(h0, .inr (2, [.int 10, .int 20, .int 15, .int 0, .ref q24, .ref q31, .ref q38, .ref q45, .ref q53, .ref q61, .null, .null, .null, .null, .int 0, .int 0])), (q24, .inl (cZ, (5, .inl z9))), (q31, .inl (cI, (5, .inl z9))), (q38, .inl (cI, (5, .inl z9))), (q45, .inl (cI, (5, .inl z9))), (q53, .inl (cZ, (10, .inl z9))), (q61, .inl (cI, (80, .inl z9)))]) rfl dX2_init_63 (fun H locs hP hD hS => ?_)
  refine lv_aload_n hx hb dX2_init_66 rfl (lv_at hl 0 rfl) ?_
  refine lv_bipush (v := 80) hx hb dX2_init_67 (by decide) ?_
  refine va_newa (atype := .int) (a0 := (80, .inl z9)) (N' := 80) hx hb (hts (.arrayClass .int) (List.mem_of_getElem? (i := 9) rfl)) rfl hK hP hD hS hA (fun _ => rfl) (by decide) (by decide) (Nat.le_of_ble_eq_true rfl) (Nat.le_of_ble_eq_true rfl) (Nat.le_of_ble_eq_true rfl) dX2_init_69 (fun q69 cA H hKn hP hD hS => ?_)
  have ecA : cA = cI := kc_int (hKn.2 3 _ rfl).2 (hK.2 0 _ rfl).2
  rw [ecA] at hP hD
  have hP : va_P D vwCl [(h0, .inr (2, [.int 10, .int 20, .int 15, .int 0, .ref q24, .ref q31, .ref q38, .ref q45, .ref q53, .ref q61, .null, .null, .null, .null, .int 0, .int 0])), (q24, .inl (cZ, (5, .inl z9))), (q31, .inl (cI, (5, .inl z9))), (q38, .inl (cI, (5, .inl z9))), (q45, .inl (cI, (5, .inl z9))), (q53, .inl (cZ, (10, .inl z9))), (q61, .inl (cI, (80, .inl z9))), (q69, .inl (cI, (80, .inl z9)))] H := hP
  have hD : va_D A [(h0, .inr (2, [.int 10, .int 20, .int 15, .int 0, .ref q24, .ref q31, .ref q38, .ref q45, .ref q53, .ref q61, .null, .null, .null, .null, .int 0, .int 0])), (q24, .inl (cZ, (5, .inl z9))), (q31, .inl (cI, (5, .inl z9))), (q38, .inl (cI, (5, .inl z9))), (q45, .inl (cI, (5, .inl z9))), (q53, .inl (cZ, (10, .inl z9))), (q61, .inl (cI, (80, .inl z9))), (q69, .inl (cI, (80, .inl z9)))] := hD
  refine k_putF (D := D) (ci := 2) (v := .ref q69) (ty := .array .int) (C := RX2) (T := TX2) (N := 16) hx hb hts hi2 tyX2 tyX2_ok nmX2 hown hK hP hD hS 0 rfl rfl 10 (by decide) (hts (.fieldLink RX2 39 "GracefulRestartModel" "learned" "[I") (List.mem_of_getElem? (i := 15) rfl)) (fun _ h9 => h9) rfl hin9 rfl (by decide +kernel) rfl rfl (Nat.le_of_ble_eq_true rfl) (W1 := [(h0, .inr (2, [.int 10, .int 20, .int 15, .int 0, .ref q24, .ref q31, .ref q38, .ref q45, .ref q53, .ref q61, .ref q69, .null, .null, .null, .int 0, .int 0])), (q24, .inl (cZ, (5, .inl z9))), (q31, .inl (cI, (5, .inl z9))), (q38, .inl (cI, (5, .inl z9))), (q45, .inl (cI, (5, .inl z9))), (q53, .inl (cZ, (10, .inl z9))), (q61, .inl (cI, (80, .inl z9))), (q69, .inl (cI, (80, .inl z9)))]) rfl dX2_init_71 (fun H locs hP hD hS => ?_)
  refine lv_aload_n hx hb dX2_init_74 rfl (lv_at hl 0 rfl) ?_
  refine lv_bipush (v := 80) hx hb dX2_init_75 (by decide) ?_
  refine va_newa (atype := .boolean) (a0 := (80, .inl z9)) (N' := 80) hx hb (hts (.arrayClass .boolean) (List.mem_of_getElem? (i := 7) rfl)) rfl hK hP hD hS hA (fun _ => rfl) (by decide) (by decide) (Nat.le_of_ble_eq_true rfl) (Nat.le_of_ble_eq_true rfl) (Nat.le_of_ble_eq_true rfl) dX2_init_77 (fun q77 cA H hKn hP hD hS => ?_)
  have ecA : cA = cZ := kc_bool (hKn.2 3 _ rfl).2 (hK.2 1 _ rfl).2
  rw [ecA] at hP hD
  have hP : va_P D vwCl [(h0, .inr (2, [.int 10, .int 20, .int 15, .int 0, .ref q24, .ref q31, .ref q38, .ref q45, .ref q53, .ref q61, .ref q69, .null, .null, .null, .int 0, .int 0])), (q24, .inl (cZ, (5, .inl z9))), (q31, .inl (cI, (5, .inl z9))), (q38, .inl (cI, (5, .inl z9))), (q45, .inl (cI, (5, .inl z9))), (q53, .inl (cZ, (10, .inl z9))), (q61, .inl (cI, (80, .inl z9))), (q69, .inl (cI, (80, .inl z9))), (q77, .inl (cZ, (80, .inl z9)))] H := hP
  have hD : va_D A [(h0, .inr (2, [.int 10, .int 20, .int 15, .int 0, .ref q24, .ref q31, .ref q38, .ref q45, .ref q53, .ref q61, .ref q69, .null, .null, .null, .int 0, .int 0])), (q24, .inl (cZ, (5, .inl z9))), (q31, .inl (cI, (5, .inl z9))), (q38, .inl (cI, (5, .inl z9))), (q45, .inl (cI, (5, .inl z9))), (q53, .inl (cZ, (10, .inl z9))), (q61, .inl (cI, (80, .inl z9))), (q69, .inl (cI, (80, .inl z9))), (q77, .inl (cZ, (80, .inl z9)))] := hD
  refine k_putF (D := D) (ci := 2) (v := .ref q77) (ty := .array .boolean) (C := RX2) (T := TX2) (N := 16) hx hb hts hi2 tyX2 tyX2_ok nmX2 hown hK hP hD hS 0 rfl rfl 11 (by decide) (hts (.fieldLink RX2 42 "GracefulRestartModel" "isStaleAt" "[Z") (List.mem_of_getElem? (i := 16) rfl)) (fun _ h9 => h9) rfl hin9 rfl (by decide +kernel) rfl rfl (Nat.le_of_ble_eq_true rfl) (W1 := [(h0, .inr (2, [.int 10, .int 20, .int 15, .int 0, .ref q24, .ref q31, .ref q38, .ref q45, .ref q53, .ref q61, .ref q69, .ref q77, .null, .null, .int 0, .int 0])), (q24, .inl (cZ, (5, .inl z9))), (q31, .inl (cI, (5, .inl z9))), (q38, .inl (cI, (5, .inl z9))), (q45, .inl (cI, (5, .inl z9))), (q53, .inl (cZ, (10, .inl z9))), (q61, .inl (cI, (80, .inl z9))), (q69, .inl (cI, (80, .inl z9))), (q77, .inl (cZ, (80, .inl z9)))]) rfl dX2_init_79 (fun H locs hP hD hS => ?_)
  refine lv_aload_n hx hb dX2_init_82 rfl (lv_at hl 0 rfl) ?_
  refine lv_bipush (v := 16) hx hb dX2_init_83 (by decide) ?_
  refine va_newa (atype := .int) (a0 := (16, .inl z9)) (N' := 16) hx hb (hts (.arrayClass .int) (List.mem_of_getElem? (i := 9) rfl)) rfl hK hP hD hS hA (fun _ => rfl) (by decide) (by decide) (Nat.le_of_ble_eq_true rfl) (Nat.le_of_ble_eq_true rfl) (Nat.le_of_ble_eq_true rfl) dX2_init_85 (fun q85 cA H hKn hP hD hS => ?_)
  have ecA : cA = cI := kc_int (hKn.2 3 _ rfl).2 (hK.2 0 _ rfl).2
  rw [ecA] at hP hD
  have hP : va_P D vwCl [(h0, .inr (2, [.int 10, .int 20, .int 15, .int 0, .ref q24, .ref q31, .ref q38, .ref q45, .ref q53, .ref q61, .ref q69, .ref q77, .null, .null, .int 0, .int 0])), (q24, .inl (cZ, (5, .inl z9))), (q31, .inl (cI, (5, .inl z9))), (q38, .inl (cI, (5, .inl z9))), (q45, .inl (cI, (5, .inl z9))), (q53, .inl (cZ, (10, .inl z9))), (q61, .inl (cI, (80, .inl z9))), (q69, .inl (cI, (80, .inl z9))), (q77, .inl (cZ, (80, .inl z9))), (q85, .inl (cI, (16, .inl z9)))] H := hP
  have hD : va_D A [(h0, .inr (2, [.int 10, .int 20, .int 15, .int 0, .ref q24, .ref q31, .ref q38, .ref q45, .ref q53, .ref q61, .ref q69, .ref q77, .null, .null, .int 0, .int 0])), (q24, .inl (cZ, (5, .inl z9))), (q31, .inl (cI, (5, .inl z9))), (q38, .inl (cI, (5, .inl z9))), (q45, .inl (cI, (5, .inl z9))), (q53, .inl (cZ, (10, .inl z9))), (q61, .inl (cI, (80, .inl z9))), (q69, .inl (cI, (80, .inl z9))), (q77, .inl (cZ, (80, .inl z9))), (q85, .inl (cI, (16, .inl z9)))] := hD
  refine k_putF (D := D) (ci := 2) (v := .ref q85) (ty := .array .int) (C := RX2) (T := TX2) (N := 16) hx hb hts hi2 tyX2 tyX2_ok nmX2 hown hK hP hD hS 0 rfl rfl 12 (by decide) (hts (.fieldLink RX2 45 "GracefulRestartModel" "hopOf" "[I") (List.mem_of_getElem? (i := 17) rfl)) (fun _ h9 => h9) rfl hin9 rfl (by decide +kernel) rfl rfl (Nat.le_of_ble_eq_true rfl) (W1 := [(h0, .inr (2, [.int 10, .int 20, .int 15, .int 0, .ref q24, .ref q31, .ref q38, .ref q45, .ref q53, .ref q61, .ref q69, .ref q77, .ref q85, .null, .int 0, .int 0])), (q24, .inl (cZ, (5, .inl z9))), (q31, .inl (cI, (5, .inl z9))), (q38, .inl (cI, (5, .inl z9))), (q45, .inl (cI, (5, .inl z9))), (q53, .inl (cZ, (10, .inl z9))), (q61, .inl (cI, (80, .inl z9))), (q69, .inl (cI, (80, .inl z9))), (q77, .inl (cZ, (80, .inl z9))), (q85, .inl (cI, (16, .inl z9)))]) rfl dX2_init_87 (fun H locs hP hD hS => ?_)
  refine lv_aload_n hx hb dX2_init_90 rfl (lv_at hl 0 rfl) ?_
  refine lv_bipush (v := 16) hx hb dX2_init_91 (by decide) ?_
  refine va_newa (atype := .boolean) (a0 := (16, .inl z9)) (N' := 16) hx hb (hts (.arrayClass .boolean) (List.mem_of_getElem? (i := 7) rfl)) rfl hK hP hD hS hA (fun _ => rfl) (by decide) (by decide) (Nat.le_of_ble_eq_true rfl) (Nat.le_of_ble_eq_true rfl) (Nat.le_of_ble_eq_true rfl) dX2_init_93 (fun q93 cA H hKn hP hD hS => ?_)
  have ecA : cA = cZ := kc_bool (hKn.2 3 _ rfl).2 (hK.2 1 _ rfl).2
  rw [ecA] at hP hD
  have hP : va_P D vwCl [(h0, .inr (2, [.int 10, .int 20, .int 15, .int 0, .ref q24, .ref q31, .ref q38, .ref q45, .ref q53, .ref q61, .ref q69, .ref q77, .ref q85, .null, .int 0, .int 0])), (q24, .inl (cZ, (5, .inl z9))), (q31, .inl (cI, (5, .inl z9))), (q38, .inl (cI, (5, .inl z9))), (q45, .inl (cI, (5, .inl z9))), (q53, .inl (cZ, (10, .inl z9))), (q61, .inl (cI, (80, .inl z9))), (q69, .inl (cI, (80, .inl z9))), (q77, .inl (cZ, (80, .inl z9))), (q85, .inl (cI, (16, .inl z9))), (q93, .inl (cZ, (16, .inl z9)))] H := hP
  have hD : va_D A [(h0, .inr (2, [.int 10, .int 20, .int 15, .int 0, .ref q24, .ref q31, .ref q38, .ref q45, .ref q53, .ref q61, .ref q69, .ref q77, .ref q85, .null, .int 0, .int 0])), (q24, .inl (cZ, (5, .inl z9))), (q31, .inl (cI, (5, .inl z9))), (q38, .inl (cI, (5, .inl z9))), (q45, .inl (cI, (5, .inl z9))), (q53, .inl (cZ, (10, .inl z9))), (q61, .inl (cI, (80, .inl z9))), (q69, .inl (cI, (80, .inl z9))), (q77, .inl (cZ, (80, .inl z9))), (q85, .inl (cI, (16, .inl z9))), (q93, .inl (cZ, (16, .inl z9)))] := hD
  refine k_putF (D := D) (ci := 2) (v := .ref q93) (ty := .array .boolean) (C := RX2) (T := TX2) (N := 16) hx hb hts hi2 tyX2 tyX2_ok nmX2 hown hK hP hD hS 0 rfl rfl 13 (by decide) (hts (.fieldLink RX2 48 "GracefulRestartModel" "isStaleHop" "[Z") (List.mem_of_getElem? (i := 18) rfl)) (fun _ h9 => h9) rfl hin9 rfl (by decide +kernel) rfl rfl (Nat.le_of_ble_eq_true rfl) (W1 := [(h0, .inr (2, [.int 10, .int 20, .int 15, .int 0, .ref q24, .ref q31, .ref q38, .ref q45, .ref q53, .ref q61, .ref q69, .ref q77, .ref q85, .ref q93, .int 0, .int 0])), (q24, .inl (cZ, (5, .inl z9))), (q31, .inl (cI, (5, .inl z9))), (q38, .inl (cI, (5, .inl z9))), (q45, .inl (cI, (5, .inl z9))), (q53, .inl (cZ, (10, .inl z9))), (q61, .inl (cI, (80, .inl z9))), (q69, .inl (cI, (80, .inl z9))), (q77, .inl (cZ, (80, .inl z9))), (q85, .inl (cI, (16, .inl z9))), (q93, .inl (cZ, (16, .inl z9)))]) rfl dX2_init_95 (fun H locs hP hD hS => ?_)
  refine W.widen (k := 10) (n := 302) (Nat.le_of_ble_eq_true rfl) (Nat.le_of_ble_eq_true rfl) ?_
  refine lv_iconst (v := 0) hx hb dX2_init_98 (by decide) ?_
  refine lv_istore_n (lv' := [(1, .int 0), (0, .ref h0)]) hx hb dX2_init_99 rfl hl (by decide) rfl (fun ls hl => ?_)
  have lp100 : ∀ (n9 i : Nat), i + n9 = 16 → ∀ (H : Heap) (locs : List Loc) (ls : Array Slot), va_P D vwCl [(h0, .inr (2, [.int 10, .int 20, .int 15, .int 0, .ref q24, .ref q31, .ref q38, .ref q45, .ref q53, .ref q61, .ref q69, .ref q77, .ref q85, .ref q93, .int 0, .int 0])), (q24, .inl (cZ, (5, .inl z9))), (q31, .inl (cI, (5, .inl z9))), (q38, .inl (cI, (5, .inl z9))), (q45, .inl (cI, (5, .inl z9))), (q53, .inl (cZ, (10, .inl z9))), (q61, .inl (cI, (80, .inl z9))), (q69, .inl (cI, (80, .inl z9))), (q77, .inl (cZ, (80, .inl z9))), (q85, .inl (cI, (16, .inl (kSet (-6) i z9)))), (q93, .inl (cZ, (16, .inl z9)))] H → va_D A [(h0, .inr (2, [.int 10, .int 20, .int 15, .int 0, .ref q24, .ref q31, .ref q38, .ref q45, .ref q53, .ref q61, .ref q69, .ref q77, .ref q85, .ref q93, .int 0, .int 0])), (q24, .inl (cZ, (5, .inl z9))), (q31, .inl (cI, (5, .inl z9))), (q38, .inl (cI, (5, .inl z9))), (q45, .inl (cI, (5, .inl z9))), (q53, .inl (cZ, (10, .inl z9))), (q61, .inl (cI, (80, .inl z9))), (q69, .inl (cI, (80, .inl z9))), (q77, .inl (cZ, (80, .inl z9))), (q85, .inl (cI, (16, .inl (kSet (-6) i z9)))), (q93, .inl (cZ, (16, .inl z9)))] → va_S A s.heap H locs → lv_has ls 2 [(0, .ref h0), (1, .int (nI i))] → W p l e (headSpec wsX2_init ({ frames := 1, cells := 10, slots := 302, locals := 12 })).room s m ([.ref h0] : List Value).toArray below meth c H locs 10 302 (MQ below (va_Qv (fun _ : Nat × Nat × Nat × Nat × Nat × Nat × Nat × Nat × Nat × Nat => True) (fun u t => va_P D vwCl (mW cI cZ (fun k => if k = 0 then h0 else if k = 1 then u.1 else if k = 2 then u.2.1 else if k = 3 then u.2.2.1 else if k = 4 then u.2.2.2.1 else if k = 5 then u.2.2.2.2.1 else if k = 6 then u.2.2.2.2.2.1 else if k = 7 then u.2.2.2.2.2.2.1 else if k = 8 then u.2.2.2.2.2.2.2.1 else if k = 9 then u.2.2.2.2.2.2.2.2.1 else u.2.2.2.2.2.2.2.2.2) s_0) t.heap ∧ va_D A (mW cI cZ (fun k => if k = 0 then h0 else if k = 1 then u.1 else if k = 2 then u.2.1 else if k = 3 then u.2.2.1 else if k = 4 then u.2.2.2.1 else if k = 5 then u.2.2.2.2.1 else if k = 6 then u.2.2.2.2.2.1 else if k = 7 then u.2.2.2.2.2.2.1 else if k = 8 then u.2.2.2.2.2.2.2.1 else if k = 9 then u.2.2.2.2.2.2.2.2.1 else u.2.2.2.2.2.2.2.2.2) s_0)) A) ([.ref h0] : List Value).toArray s 10 302 A) (F0 m 100 ls []) := by
    intro n9
    induction n9 with
    | zero =>
      intro i hi9 H locs ls hP hD hS hl
      have hi8 : i = 16 := by omega
      subst hi8
      refine lv_iload_n hx hb dX2_init_100 rfl (lv_at hl 1 rfl) ?_
      refine lv_bipush (v := 16) hx hb dX2_init_101 (by decide) ?_
      refine lv_icmp_ge (tgt := 120) hx hb dX2_init_103 (by decide) (fun _ => ?_) (fun c_ => absurd (by decide) c_)
      have eW : [(h0, .inr (2, [.int 10, .int 20, .int 15, .int 0, .ref q24, .ref q31, .ref q38, .ref q45, .ref q53, .ref q61, .ref q69, .ref q77, .ref q85, .ref q93, .int 0, .int 0])), (q24, .inl (cZ, (5, .inl z9))), (q31, .inl (cI, (5, .inl z9))), (q38, .inl (cI, (5, .inl z9))), (q45, .inl (cI, (5, .inl z9))), (q53, .inl (cZ, (10, .inl z9))), (q61, .inl (cI, (80, .inl z9))), (q69, .inl (cI, (80, .inl z9))), (q77, .inl (cZ, (80, .inl z9))), (q85, .inl (cI, (16, .inl (kSet (-6) 16 z9)))), (q93, .inl (cZ, (16, .inl z9)))] = mW cI cZ (fun k => if k = 0 then h0 else if k = 1 then (q24, q31, q38, q45, q53, q61, q69, q77, q85, q93).1 else if k = 2 then (q24, q31, q38, q45, q53, q61, q69, q77, q85, q93).2.1 else if k = 3 then (q24, q31, q38, q45, q53, q61, q69, q77, q85, q93).2.2.1 else if k = 4 then (q24, q31, q38, q45, q53, q61, q69, q77, q85, q93).2.2.2.1 else if k = 5 then (q24, q31, q38, q45, q53, q61, q69, q77, q85, q93).2.2.2.2.1 else if k = 6 then (q24, q31, q38, q45, q53, q61, q69, q77, q85, q93).2.2.2.2.2.1 else if k = 7 then (q24, q31, q38, q45, q53, q61, q69, q77, q85, q93).2.2.2.2.2.2.1 else if k = 8 then (q24, q31, q38, q45, q53, q61, q69, q77, q85, q93).2.2.2.2.2.2.2.1 else if k = 9 then (q24, q31, q38, q45, q53, q61, q69, q77, q85, q93).2.2.2.2.2.2.2.2.1 else (q24, q31, q38, q45, q53, q61, q69, q77, q85, q93).2.2.2.2.2.2.2.2.2) s_0 := rfl
      rw [eW] at hP hD
      exact W.vret hx hb hr (fun t ht hW => ⟨⟨(q24, q31, q38, q45, q53, q61, q69, q77, q85, q93), rfl, trivial, by rw [ht]; exact hP, hD⟩, hS.F ht⟩) hS.2.2 dX2_init_120
    | succ n9 ih =>
      intro i hi9 H locs ls hP hD hS hl
      have hlt : i < 16 := by omega
      refine lv_iload_n hx hb dX2_init_100 rfl (lv_at hl 1 rfl) ?_
      refine lv_bipush (v := 16) hx hb dX2_init_101 (by decide) ?_
      refine lv_icmp_ge (tgt := 120) hx hb dX2_init_103 (by decide) (fun c_ => absurd c_ (nI_ge (a := i) (b := 16) hlt (by decide))) (fun _ => ?_)
      refine lv_aload_n hx hb dX2_init_106 rfl (lv_at hl 0 rfl) ?_
      refine va_get (D := D) (ci := 2) (v := .ref q85) (C := RX2) (T := TX2) (N := 16) hx hb hts hi2 hown hK hP 0 rfl rfl 12 (by decide) (hts (.fieldLink RX2 45 "GracefulRestartModel" "hopOf" "[I") (List.mem_of_getElem? (i := 17) rfl)) (fun _ h9 => h9) rfl dX2_init_107 ?_
      refine lv_iload_n hx hb dX2_init_110 rfl (lv_at hl 1 rfl) ?_
      refine lv_bipush (v := -6) hx hb dX2_init_111 (by decide) ?_
      refine k_iast (k := i) hx hb hK hP hD hS 9 0 rfl rfl rfl (by omega) (by decide) (W1 := [(h0, .inr (2, [.int 10, .int 20, .int 15, .int 0, .ref q24, .ref q31, .ref q38, .ref q45, .ref q53, .ref q61, .ref q69, .ref q77, .ref q85, .ref q93, .int 0, .int 0])), (q24, .inl (cZ, (5, .inl z9))), (q31, .inl (cI, (5, .inl z9))), (q38, .inl (cI, (5, .inl z9))), (q45, .inl (cI, (5, .inl z9))), (q53, .inl (cZ, (10, .inl z9))), (q61, .inl (cI, (80, .inl z9))), (q69, .inl (cI, (80, .inl z9))), (q77, .inl (cZ, (80, .inl z9))), (q85, .inl (cI, (16, .inl (kSet (-6) (i + 1) z9)))), (q93, .inl (cZ, (16, .inl z9)))]) (by rw [← kSet_s]; rfl) dX2_init_113 (fun H locs hP hD hS => ?_)
      refine lv_iinc (v := nI (i + 1)) (lv' := [(1, .int (nI (i + 1))), (0, .ref h0)]) hx hb dX2_init_114 hl (k := 1) rfl (nI_1 i) (by decide) rfl (fun ls hl => ?_)
      refine lv_goto (tgt := 100) hx hb dX2_init_117 (by decide) ?_
      exact ih (i + 1) (by omega) _ _ ls hP hD hS (lv_sub hl [1, 0] rfl)
  exact lp100 16 0 (by omega) _ _ ls (by rw [kSet_0]; exact hP) (by rw [kSet_0]; exact hD) hS (lv_sub hl [1, 0] rfl)

