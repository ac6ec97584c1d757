/-! the writer's own layer over the kit: one contract form (args, world before, answer, world behind), rows with places by numbers -/
abbrev kTy (cI cZ cP : ClassId) : List (ClassId × FieldType) := [(cI, .int), (cZ, .boolean), (cP, .object "GracefulRestart$Peer")]
/-- the nest links that the class uses -/
def kNs : List Cond := [.fieldLinkNest RX1 61 RX0 "offers" "[I" RX1, .fieldLinkNest RX1 113 RX0 "learned" "[I" RX1, .fieldLinkNest RX1 116 RX0 "staleLearned" "[Z" RX1, .fieldLinkNest RX1 71 RX0 "state" "I" RX1, .fieldLinkNest RX1 107 RX0 "restartLeft" "I" RX1, .fieldLinkNest RX1 110 RX0 "staleLeft" "I" RX1, .fieldLinkNest RX1 68 RX0 "marks" "I" RX1,
  .methodLinkNest RX1 47 yX0_init RX1, .methodLinkNest RX1 130 yX0_knownOffer RX1, .methodLinkNest RX1 138 yX0_hearNothing RX1, .methodLinkNest RX1 141 yX0_learn RX1, .methodLinkNest RX1 74 yX0_loseRouter RX1, .methodLinkNest RX1 103 yX0_isAwaited RX1, .methodLinkNest RX1 90 yX0_endResync RX1, .methodLinkNest RX1 87 yX0_meetRouter RX1, .methodLinkNest RX1 93 yX0_countOffers RX1, .methodLinkNest RX1 97 yX0_goDown RX1, .methodLinkNest RX1 151 yX0_countDown RX1]
def kN (U : State) : Prop := ∀ w ∈ kNs, va_Nw w U
theorem kN.warm {s U : State} (hW : s.WarmedH U.vm) (h : kN s) : kN U := by
  intro w hw
  have h0 := h w hw
  simp only [kNs, List.mem_cons, List.not_mem_nil, or_false] at hw
  rcases hw with rfl | rfl | rfl | rfl | rfl | rfl | rfl | rfl | rfl | rfl | rfl | rfl | rfl | rfl | rfl | rfl | rfl | rfl <;> first | exact va_Nw.warmF hW h0 | exact va_Nw.warmM hW h0
theorem kN.same {u U : State} (h : u.vm = U.vm) (hN : kN u) : kN U := by
  intro w hw
  have h0 := hN w hw
  simp only [kNs, List.mem_cons, List.not_mem_nil, or_false] at hw
  rcases hw with rfl | rfl | rfl | rfl | rfl | rfl | rfl | rfl | rfl | rfl | rfl | rfl | rfl | rfl | rfl | rfl | rfl | rfl <;> exact va_Nw.same rfl h h0
/-- the cells of a world -/
def kA (W0 : va_W) : Nat → Prop := fun q => ∃ (k : Nat) (e : va_E), W0[k]? = some (q, e)
def kPre (D : va_G) (tys : List (ClassId × FieldType)) (W0 : va_W) (U : State) : Prop := va_P D vwCl W0 U.heap ∧ va_K D vwCl tys U ∧ kN U ∧ va_D (fun _ => True) W0
def kPost (D : va_G) (W0 W1 : va_W) (o : Option Value) : Array Value → State → Outcome → State → Prop := fun _ st oc t => oc = .returned o ∧ va_P D vwCl W1 t.heap ∧ va_F (kA W0) st t
def MM (l : Launch) (y : MethodName) (ws : List Cond) (rm : Room) (D : va_G) (tys : List (ClassId × FieldType)) (av : List Value) (W0 : va_W) (o : Option Value) (W1 : va_W) : Prop := Met l y ws rm (va_Pc av (kPre D tys W0)) (kPost D W0 W1 o) 0 0 (kA W0)
theorem kBlind {D : va_G} {tys : List (ClassId × FieldType)} {av : List Value} {W0 : va_W} : FrameBlind (va_Pc av (kPre D tys W0)) := fun a U g mk q => by
  obtain ⟨q0, qP, qK, qN, qD⟩ := q
  exact ⟨q0, qP, va_K.moved (u := U) (U := U.calling g mk a) (Vm.Alike.refl U.vm) qK, kN.same (u := U) (U := U.calling g mk a) rfl qN, qD⟩
theorem kD_adr {A : Nat → Prop} {ws ws' : va_W} (h : va_D A ws) (e : ws'.map (·.1) = ws.map (·.1)) : va_D A ws' := by
  have key : ∀ (k : Nat) (q : Nat × va_E), ws'[k]? = some q → ∃ q0, ws[k]? = some q0 ∧ q0.1 = q.1 := by
    intro k q hk
    have h1 : (ws'.map (·.1))[k]? = some q.1 := by rw [List.getElem?_map, hk]; rfl
    rw [e, List.getElem?_map] at h1
    cases hw : ws[k]? with
    | none => rw [hw] at h1; cases h1
    | some q0 => rw [hw] at h1; exact ⟨q0, rfl, Option.some.inj h1⟩
  refine ⟨fun i j x y hi hj hxy => ?_, fun k q hk => ?_⟩
  · obtain ⟨x0, a1, a2⟩ := key i x hi
    obtain ⟨y0, b1, b2⟩ := key j y hj
    exact h.1 i j x0 y0 a1 b1 (a2.trans (hxy.trans b2.symm))
  · obtain ⟨q0, a1, a2⟩ := key k q hk
    rw [← a2]
    exact h.2 k q0 a1
theorem kD_self {A : Nat → Prop} {ws : va_W} (h : va_D A ws) : va_D (kA ws) ws := ⟨h.1, fun k q hk => ⟨k, q.2, hk⟩⟩
/-- a method's walk gives its contract -/
theorem MM.ofW {l : Launch} {y : MethodName} {ws ws' : List Cond} {rm : Room} {D : va_G} {tys : List (ClassId × FieldType)} {av : List Value} {W0 W1 : va_W} {o : Option Value} {cc : ByteArray} {maxL : Nat} {ret : Option FieldType}
    (hy : plainName y.cls = true) (hw : ws = Cond.code y cc maxL ret :: ws') (hal : (lg_sl av).length ≤ maxL)
    (body : ∀ (p : Program) (e : Env) (s : State) (m : MethodId) (below : List Frame) (meth : Method) (c : Code) (ls : Array Slot) (A : Nat → Prop), p.tables.exec = Jvm.exec → c.code = cc → meth.sig.returnType = ret → meth.locks = false → c.maxLocals = maxL → (∀ w ∈ ws, w.before av.toArray s = true) → s.vm.findClass y.cls = some m.cls → va_K D vwCl tys s → kN s → va_P D vwCl W0 s.heap → va_D A W0 → va_S A s.heap s.heap [] → A = kA W0 → lv_has ls maxL (lv_args 0 av) →
      W p l e (headSpec ws rm).room s m av.toArray below meth c s.heap [] 0 0 (MQ below (kPost D W0 W1 o) av.toArray s 0 0 (kA W0)) (F0 m 0 ls [])) : MM l y ws rm D tys av W0 o W1 := by
  refine Met.ofW (cc := cc) (maxL := maxL) (ret := ret) hy hw ?_
  intro p e s m args below meth c s₁ B hml hv
  obtain ⟨rfl, hP, hK, hN, hD0⟩ := hv
  have hl := lv_entry av (n := maxL) hal
  rw [lg_entry_eq]
  exact body p e s m below meth c _ (kA W0) B.exec B.bytes B.returns B.notSynchronized hml (atoms_spec (ws := ws) B.pre) (findClass_of_methodNamed B.named) hK hN hP (kD_self hD0) va_S.rf rfl hl
section KW
variable {p : Program} {l : Launch} {e : Env} {R : Room} {s : State} {m : MethodId} {args : Array Value} {below : List Frame} {meth : Method} {c : Code} {H : Heap} {locs : List Loc} {cells slots : Nat} {Q : State → Prop}
variable {cc : ByteArray} {pc : Nat} {ls : Array Slot} {rest : List Value} {D : va_G} {cl : List vw_C} {A : Nat → Prop} {a : Nat} {tys : List (ClassId × FieldType)} {ws : va_W} {H0 : Heap}
/-- returns -/
theorem k_iret {W0 W1 Wd : va_W} {v v' : Int32} (hx : p.tables.exec = Jvm.exec) (hb : c.code = cc) (hr : meth.sig.returnType = some .int) (hlk : meth.locks = false) (hP : va_P D vwCl Wd H) (hS : va_S A s.heap H locs) (hAe : A = kA W0) (hv : v = v') (hW : Wd = W1) (hdg : decode cc pc = .ok (.ireturn, 1)) :
    W p l e R s m args below meth c H locs 0 0 (MQ below (kPost D W0 W1 (some (.int v'))) args s 0 0 (kA W0)) (F0 m pc ls [.int v]) := by
  subst hv; subst hW; subst hAe
  exact W.iret hx hb hr (fun t ht _ => ⟨rfl, by rw [ht]; exact hP, hS.F ht⟩) hS.2.2 hdg hlk
theorem k_zret {W0 W1 Wd : va_W} {v v' : Int32} (hx : p.tables.exec = Jvm.exec) (hb : c.code = cc) (hr : meth.sig.returnType = some .boolean) (hlk : meth.locks = false) (hP : va_P D vwCl Wd H) (hS : va_S A s.heap H locs) (hAe : A = kA W0) (hn : narrow .boolean (.int v) = .int v) (hv : v = v') (hW : Wd = W1) (hdg : decode cc pc = .ok (.ireturn, 1)) :
    W p l e R s m args below meth c H locs 0 0 (MQ below (kPost D W0 W1 (some (.int v'))) args s 0 0 (kA W0)) (F0 m pc ls [.int v]) := by
  subst hv; subst hW; subst hAe
  exact W.zret hx hb hr hn (fun t ht _ => ⟨rfl, by rw [ht]; exact hP, hS.F ht⟩) hS.2.2 hdg hlk
theorem k_vret {W0 W1 Wd : va_W} (hx : p.tables.exec = Jvm.exec) (hb : c.code = cc) (hr : meth.sig.returnType = none) (hlk : meth.locks = false) (hP : va_P D vwCl Wd H) (hS : va_S A s.heap H locs) (hAe : A = kA W0) (hW : Wd = W1) (hdg : decode cc pc = .ok (.return_, 1)) :
    W p l e R s m args below meth c H locs 0 0 (MQ below (kPost D W0 W1 none) args s 0 0 (kA W0)) (F0 m pc ls []) := by
  subst hW; subst hAe
  exact W.vret hx hb hr (fun t ht _ => ⟨rfl, by rw [ht]; exact hP, hS.F ht⟩) hS.2.2 hdg hlk
theorem k_aret {W0 W1 Wd : va_W} {r r' : Option Nat} {C : String} (hx : p.tables.exec = Jvm.exec) (hb : c.code = cc) (hr : meth.sig.returnType = some (.object C)) (hlk : meth.locks = false) (hP : va_P D vwCl Wd H) (hS : va_S A s.heap H locs) (hAe : A = kA W0) (hv : r = r') (hW : Wd = W1) (hdg : decode cc pc = .ok (.areturn, 1)) :
    W p l e R s m args below meth c H locs 0 0 (MQ below (kPost D W0 W1 (some (va_rf r'))) args s 0 0 (kA W0)) (F0 m pc ls [va_rf r]) := by
  subst hv; subst hW; subst hAe
  exact W.aret hx hb hr (Or.inl ⟨_, rfl⟩) (va_rf_or _) (fun t ht _ => ⟨rfl, by rw [ht]; exact hP, hS.F ht⟩) hS.2.2 hdg hlk
/-- arrays, by a number -/
theorem k_iald (hx : p.tables.exec = Jvm.exec) (hb : c.code = cc) (hK : va_K D cl tys s) (hP : va_P D cl ws H) (q0 t0 : Nat) {cA : ClassId} {n : Nat} {f : Nat → Int32} (ha : ws[q0]? = some (a, .inl (cA, n, .inl f))) (ht : tys[t0]? = some (cA, .int)) {i : Int32} {k : Nat} (hi : i = nI k) (hk : k < n) (hn : n < 2 ^ 31) (hdg : decode cc pc = .ok (.iaload, 1))
    (kk : W p l e R s m args below meth c H locs cells slots Q (F0 m (pc + 1) ls (.int (f k) :: rest))) : W p l e R s m args below meth c H locs cells slots Q (F0 m pc ls (.int i :: .ref a :: rest)) := by
  subst hi
  refine va_iald hx hb hK hP q0 t0 ha ht (vp_in_nI hk hn) hdg ?_
  rw [nI_clamp (Nat.lt_trans hk hn)]
  exact kk
theorem k_zald (hx : p.tables.exec = Jvm.exec) (hb : c.code = cc) (hK : va_K D cl tys s) (hP : va_P D cl ws H) (q0 t0 : Nat) {cA : ClassId} {n : Nat} {f : Nat → Int32} (ha : ws[q0]? = some (a, .inl (cA, n, .inl f))) (ht : tys[t0]? = some (cA, .boolean)) {i : Int32} {k : Nat} (hi : i = nI k) (hk : k < n) (hn : n < 2 ^ 31) (hdg : decode cc pc = .ok (.baload, 1))
    (kk : W p l e R s m args below meth c H locs cells slots Q (F0 m (pc + 1) ls (.int (f k) :: rest))) : W p l e R s m args below meth c H locs cells slots Q (F0 m pc ls (.int i :: .ref a :: rest)) := by
  subst hi
  refine va_zald hx hb hK hP q0 t0 ha ht (vp_in_nI hk hn) hdg ?_
  rw [nI_clamp (Nat.lt_trans hk hn)]
  exact kk
theorem k_aald (hx : p.tables.exec = Jvm.exec) (hb : c.code = cc) (hK : va_K D cl tys s) (hP : va_P D cl ws H) (q0 t0 : Nat) {cA : ClassId} {C : String} {n : Nat} {f : Nat → Option Nat} (ha : ws[q0]? = some (a, .inl (cA, n, .inr (.inr (.inr (.inr f)))))) (ht : tys[t0]? = some (cA, .object C)) {i : Int32} {k : Nat} {v : Value} (hi : i = nI k) (hk : k < n) (hn : n < 2 ^ 31) (hv : va_rf (f k) = v) (hdg : decode cc pc = .ok (.aaload, 1))
    (kk : W p l e R s m args below meth c H locs cells slots Q (F0 m (pc + 1) ls (v :: rest))) : W p l e R s m args below meth c H locs cells slots Q (F0 m pc ls (.int i :: .ref a :: rest)) := by
  subst hi; subst hv
  refine va_aldq hx hb hK hP q0 t0 ha ht (vp_in_nI hk hn) hdg ?_
  rw [nI_clamp (Nat.lt_trans hk hn)]
  exact kk
theorem k_iast (hx : p.tables.exec = Jvm.exec) (hb : c.code = cc) (hK : va_K D cl tys s) (hP : va_P D cl ws H) (hD : va_D A ws) (hS : va_S A H0 H locs) (q0 t0 : Nat) {cA : ClassId} {n : Nat} {f : Nat → Int32} (ha : ws[q0]? = some (a, .inl (cA, n, .inl f))) (ht : tys[t0]? = some (cA, .int)) {i x : Int32} {k : Nat} (hi : i = nI k) (hk : k < n) (hn : n < 2 ^ 31) {W1 : va_W} (hW : ws.set q0 (a, .inl (cA, n, .inl (upd f k x))) = W1) (hdg : decode cc pc = .ok (.iastore, 1))
    (kk : ∀ (H1 : Heap) (locs1 : List Loc), va_P D cl W1 H1 → va_D A W1 → va_S A H0 H1 locs1 → W p l e R s m args below meth c H1 locs1 cells slots Q (F0 m (pc + 1) ls rest)) : W p l e R s m args below meth c H locs cells slots Q (F0 m pc ls (.int x :: .int i :: .ref a :: rest)) := by
  subst hi; subst hW
  refine va_iast hx hb hK hP hD hS q0 t0 ha ht (vp_in_nI hk hn) hdg (fun H1 locs1 h1 h2 h3 => ?_)
  rw [nI_clamp (Nat.lt_trans hk hn)] at h1 h2
  exact kk H1 locs1 h1 h2 h3
theorem k_zast (hx : p.tables.exec = Jvm.exec) (hb : c.code = cc) (hK : va_K D cl tys s) (hP : va_P D cl ws H) (hD : va_D A ws) (hS : va_S A H0 H locs) (q0 t0 : Nat) {cA : ClassId} {n : Nat} {f : Nat → Int32} (ha : ws[q0]? = some (a, .inl (cA, n, .inl f))) (ht : tys[t0]? = some (cA, .boolean)) {i x : Int32} {k : Nat} (hi : i = nI k) (hk : k < n) (hn : n < 2 ^ 31) (hb1 : vp_nar .boolean x = x) {W1 : va_W} (hW : ws.set q0 (a, .inl (cA, n, .inl (upd f k x))) = W1) (hdg : decode cc pc = .ok (.bastore, 1))
    (kk : ∀ (H1 : Heap) (locs1 : List Loc), va_P D cl W1 H1 → va_D A W1 → va_S A H0 H1 locs1 → W p l e R s m args below meth c H1 locs1 cells slots Q (F0 m (pc + 1) ls rest)) : W p l e R s m args below meth c H locs cells slots Q (F0 m pc ls (.int x :: .int i :: .ref a :: rest)) := by
  subst hi; subst hW
  refine va_zast hx hb hK hP hD hS q0 t0 ha ht (vp_in_nI hk hn) hdg (fun H1 locs1 h1 h2 h3 => ?_)
  rw [nI_clamp (Nat.lt_trans hk hn), hb1] at h1 h2
  exact kk H1 locs1 h1 h2 h3
/-- a number on the stack under another name -/
theorem k_top {x y : Int32} (h : x = y) (kk : W p l e R s m args below meth c H locs cells slots Q (F0 m pc ls (.int y :: rest))) : W p l e R s m args below meth c H locs cells slots Q (F0 m pc ls (.int x :: rest)) := by
  rw [h]; exact kk
/-- behind a call -/
theorem kcall {Wd Wd1 Wc Wc1 : va_W} {o : Option Value} {st0 : List Value} {av : Array Value} (hr : va_Run p l e R s m args below meth c H locs cells slots 0 0 (F0 m pc ls st0) rest (kPost D Wc Wc1 o av) (kA Wc)) (hP : va_P D vwCl Wd H) (hD : va_D A Wd) (hS : va_S A H0 H locs) (f : Nat → Nat) (hf : ∀ (j : Nat) (q : Nat × va_E), Wc[j]? = some q → Wd[f j]? = some q) (hadr : Wd1.map (·.1) = Wd.map (·.1)) (hnew : ∀ (k : Nat) (q : Nat × va_E), Wd1[k]? = some q → (∃ j : Nat, Wc1[j]? = some q) ∨ (Wd[k]? = some q ∧ ∀ j : Nat, j < Wc.length → k ≠ f j))
    (kk : ∀ (H1 : Heap) (locs1 : List Loc), va_P D vwCl Wd1 H1 → va_D A Wd1 → va_S A H0 H1 locs1 → W p l e R s m args below meth c H1 locs1 cells slots Q (F0 m (pc + 3) ls (o.toList ++ rest))) : W p l e R s m args below meth c H locs cells slots Q (F0 m pc ls st0) := by
  intro T hT X
  obtain ⟨v, st₀, t, T', L, h0, X', hL, e1, e2, ⟨hv, hp, hz, hk⟩, st⟩ := hr T hT X
  cases hv
  rw [h0] at hz hk
  have hcA : ∀ q, kA Wc q → A q := by
    rintro q ⟨j, e9, hj⟩
    exact hD.2 _ _ (hf j _ hj)
  have hP1 : va_P D vwCl Wd1 T'.heap := by
    intro k q hq
    rcases hnew k q hq with ⟨j, hj⟩ | ⟨h1, h2⟩
    · rw [e1]; exact hp j q hj
    · refine (hP k q h1).kept ?_
      rw [e1]
      refine hk q.1 (hP k q h1).lt ?_
      rintro ⟨j, e9, hj⟩
      have h3 := hf j _ hj
      exact h2 j (List.getElem?_eq_some_iff.mp hj).1 (hD.1 k (f j) q _ h1 h3 rfl)
  obtain ⟨t2, a1, b1⟩ := kk T'.heap (locs ++ L) hP1 (kD_adr hD hadr)
    ⟨Nat.le_trans hS.1 (by rw [e1]; exact hz), fun q h1 h2 => by rw [e1, hk q (Nat.lt_of_lt_of_le h1 hS.1) (fun z => h2 (hcA q z))]; exact hS.2.1 q h1 h2, fun q hq => by
      rcases List.mem_append.mp hq with h | h
      · exact hS.2.2 q h
      · exact hcA _ (hL q h)⟩ T' rfl X'
  exact ⟨t2, st t2 a1, b1⟩
variable {Ts wsy : List Cond} {bytes : ByteArray} {nL maxL index n : Nat} {own C host : String} {y : MethodName} {ret : Option FieldType} {rm : Room} {b : Addr} {As : List Value} {Wd Wd1 Wc Wc1 : va_W} {o : Option Value} {st0 : List Value}
theorem kPreOf (hK : va_K D vwCl tys s) (hN : kN s) (hP : va_P D vwCl Wd H) (hD : va_D A Wd) (f : Nat → Nat) (hf : ∀ (j : Nat) (q : Nat × va_E), Wc[j]? = some q → Wd[f j]? = some q) (hinj : ∀ i j : Nat, i < Wc.length → j < Wc.length → f i = f j → i = j) {av : List Value} : ∀ U : State, U.heap = H → s.WarmedH U.vm → va_Pc av (kPre D tys Wc) av.toArray U := by
  intro U hU hW
  refine ⟨rfl, fun k q hk => by rw [hU]; exact hP _ q (hf k q hk), va_K.moved hW.alike hK, kN.warm hW hN, ⟨fun i j x z hi hj hxz => ?_, fun _ _ _ => trivial⟩⟩
  exact hinj i j (List.getElem?_eq_some_iff.mp hi).1 (List.getElem?_eq_some_iff.mp hj).1 (hD.1 _ _ x z (hf i x hi) (hf j z hj) hxz)
/-- a virtual call inside the class, or a public one -/
theorem kV (S : CallFix p m c cc nL s args Ts own) (hM : MM l y wsy rm D tys (.ref b :: As) Wc o Wc1) (cw : CallW R s args own C index y bytes maxL ret wsy rm 0 0 n) (hK : va_K D vwCl tys s) (hN : kN s) (hP : va_P D vwCl Wd H) (hD : va_D A Wd) (hS : va_S A H0 H locs) (f : Nat → Nat) (hf : ∀ (j : Nat) (q : Nat × va_E), Wc[j]? = some q → Wd[f j]? = some q) (hinj : ∀ i j : Nat, i < Wc.length → j < Wc.length → f i = f j → i = j) (hadr : Wd1.map (·.1) = Wd.map (·.1)) (hnew : ∀ (k : Nat) (q : Nat × va_E), Wd1[k]? = some q → (∃ j : Nat, Wc1[j]? = some q) ∨ (Wd[k]? = some q ∧ ∀ j : Nat, j < Wc.length → k ≠ f j))
    (q0 ci : Nat) {qc : vw_C} {fs : List Value} (hc : vwCl[ci]? = some qc) (hC : qc.1 = C) (he : Wd[q0]? = some (b, .inr (ci, fs))) (hn : As.length = n) (hsz : ls.size = nL) (hst : st0 = As.reverse ++ .ref b :: rest) (hW : (rest.map fun v => v.category).sum ≤ 8) (hcs : cells ≤ R.cells ∧ slots ≤ R.slots) (hdg : decode cc pc = .ok (.invokevirtual index, 3))
    (kk : ∀ (H1 : Heap) (locs1 : List Loc), va_P D vwCl Wd1 H1 → va_D A Wd1 → va_S A H0 H1 locs1 → W p l e R s m args below meth c H1 locs1 cells slots Q (F0 m (pc + 3) ls (o.toList ++ rest))) : W p l e R s m args below meth c H locs cells slots Q (F0 m pc ls st0) := by
  subst hC
  exact kcall (va_runV S hM cw ⟨kBlind, va_recv hK hP hc he, kPreOf hK hN hP hD f hf hinj⟩ rfl hn hsz hst (lv_room hW) hdg hcs) hP hD hS f hf hadr hnew kk
/-- a virtual call of a nest mate's private method -/
theorem kVN (S : CallFix p m c cc nL s args Ts own) (hM : MM l y wsy rm D tys (.ref b :: As) Wc o Wc1) (cw : va_CN R s args own index y host bytes maxL ret wsy rm 0 0 n ∧ (Cond.instanceMethod y).before args s = true ∧ (Cond.selects C y y).before args s = true) (hK : va_K D vwCl tys s) (hN : kN s) (hP : va_P D vwCl Wd H) (hD : va_D A Wd) (hS : va_S A H0 H locs) (f : Nat → Nat) (hf : ∀ (j : Nat) (q : Nat × va_E), Wc[j]? = some q → Wd[f j]? = some q) (hinj : ∀ i j : Nat, i < Wc.length → j < Wc.length → f i = f j → i = j) (hadr : Wd1.map (·.1) = Wd.map (·.1)) (hnew : ∀ (k : Nat) (q : Nat × va_E), Wd1[k]? = some q → (∃ j : Nat, Wc1[j]? = some q) ∨ (Wd[k]? = some q ∧ ∀ j : Nat, j < Wc.length → k ≠ f j))
    (q0 ci : Nat) {qc : vw_C} {fs : List Value} (hc : vwCl[ci]? = some qc) (hC : qc.1 = C) (he : Wd[q0]? = some (b, .inr (ci, fs))) (hn : As.length = n) (hsz : ls.size = nL) (hst : st0 = As.reverse ++ .ref b :: rest) (hW : (rest.map fun v => v.category).sum ≤ 8) (hcs : cells ≤ R.cells ∧ slots ≤ R.slots) (hdg : decode cc pc = .ok (.invokevirtual index, 3))
    (kk : ∀ (H1 : Heap) (locs1 : List Loc), va_P D vwCl Wd1 H1 → va_D A Wd1 → va_S A H0 H1 locs1 → W p l e R s m args below meth c H1 locs1 cells slots Q (F0 m (pc + 3) ls (o.toList ++ rest))) : W p l e R s m args below meth c H locs cells slots Q (F0 m pc ls st0) := by
  subst hC
  exact kcall (va_runVN S hM cw ⟨kBlind, va_recv hK hP hc he, kPreOf hK hN hP hD f hf hinj⟩ rfl hn hsz hst (lv_room hW) hdg hcs) hP hD hS f hf hadr hnew kk
/-- a static call that touches no cell -/
theorem kS0 (S : CallFix p m c cc nL s args Ts own) (hM : MM l y wsy rm D tys As [] o []) (cw : CallB R s args own index y bytes maxL ret wsy rm 0 0 n ∧ (Cond.static y).before args s = true) (hK : va_K D vwCl tys s) (hN : kN s) (hP : va_P D vwCl Wd H) (hD : va_D A Wd) (hS : va_S A H0 H locs)
    (hn : As.length = n) (hsz : ls.size = nL) (hst : st0 = As.reverse ++ rest) (hW : (rest.map fun v => v.category).sum ≤ 8) (hcs : cells ≤ R.cells ∧ slots ≤ R.slots) (hdg : decode cc pc = .ok (.invokestatic index, 3))
    (kk : ∀ (H1 : Heap) (locs1 : List Loc), va_P D vwCl Wd H1 → va_D A Wd → va_S A H0 H1 locs1 → W p l e R s m args below meth c H1 locs1 cells slots Q (F0 m (pc + 3) ls (o.toList ++ rest))) : W p l e R s m args below meth c H locs cells slots Q (F0 m pc ls st0) :=
  kcall (va_runS S hM cw ⟨kBlind, kPreOf hK hN hP hD (fun j => j) (fun j q h => by simp at h) (fun i j h => by simp at h)⟩ rfl hn hsz hst (lv_room hW) hdg hcs) hP hD hS (fun j => j) (fun j q h => by simp at h) rfl (fun k q h => Or.inr ⟨h, fun j hj => by simp at hj⟩) kk
end KW
